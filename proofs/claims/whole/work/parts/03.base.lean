/-! THE ABSTRACT WORLD. A cell is known by its number k (its address is lo + k). What lies below is a value .retAddr i: text constant i, its bytes 1000 + i, the script 9999, a static 8888. -/
abbrev aw_ob : Type := (Nat × vp_A) ⊕ (Nat × List Value)
abbrev aw_hp : Type := List aw_ob
abbrev aw_G : Type := Launch × va_G × (Nat → ClassId) × (Nat → Nat) × Nat × Nat × (Nat → Int32)
def aw_lo (g : aw_G) : Nat := g.2.2.2.2.1
def aw_A (g : aw_G) : Nat → Prop := fun q => aw_lo g ≤ q
def aw_v (g : aw_G) : Value → Value
  | .ref a => .ref (aw_lo g + a)
  | .retAddr i => .ref (g.2.2.2.1 i)
  | v => v
def aw_o (g : aw_G) : aw_ob → va_E
  | .inl (t, a) => .inl (g.2.2.1 t, a)
  | .inr (c, fs) => .inr (c, fs.map (aw_v g))
def aw_W (g : aw_G) (h : aw_hp) : va_W := h.mapIdx (fun k x => (aw_lo g + k, aw_o g x))
def aw_tys (g : aw_G) : List (ClassId × FieldType) := aw_TY.mapIdx (fun k t => (g.2.2.1 k, t))
theorem aw_v_cat (g : aw_G) (v : Value) : (aw_v g v).category = v.category := by cases v <;> rfl
theorem aw_W_get (g : aw_G) (h : aw_hp) (k : Nat) : (aw_W g h)[k]? = (h[k]?).map (fun x => (aw_lo g + k, aw_o g x)) := by
  simp [aw_W]
theorem aw_W_at {g : aw_G} {h : aw_hp} {k : Nat} {x : aw_ob} (hk : h[k]? = some x) : (aw_W g h)[k]? = some (aw_lo g + k, aw_o g x) := by
  rw [aw_W_get, hk]; rfl
theorem aw_W_set (g : aw_G) (h : aw_hp) (k : Nat) (x : aw_ob) : (aw_W g h).set k (aw_lo g + k, aw_o g x) = aw_W g (h.set k x) := by
  apply List.ext_getElem?
  intro j
  rw [aw_W_get, List.getElem?_set, List.getElem?_set, aw_W_get]
  by_cases hj : k = j
  · subst hj
    by_cases hl : k < h.length
    · simp [aw_W, hl]
    · simp [aw_W, hl]
  · simp [hj]
theorem aw_W_push (g : aw_G) (h : aw_hp) (x : aw_ob) : aw_W g h ++ [(aw_lo g + h.length, aw_o g x)] = aw_W g (h ++ [x]) := by
  simp [aw_W, List.mapIdx_append]
theorem aw_W_D (g : aw_G) (h : aw_hp) : va_D (aw_A g) (aw_W g h) := by
  have key : ∀ (k : Nat) (q : Nat × va_E), (aw_W g h)[k]? = some q → q.1 = aw_lo g + k := by
    intro k q hq
    rw [aw_W_get] at hq
    cases hh : h[k]? with
    | none => rw [hh] at hq; cases hq
    | some x => rw [hh] at hq; cases hq; rfl
  refine ⟨fun i j a b hi hj e => ?_, fun k q hk => ?_⟩
  · have h1 := key i a hi
    have h2 := key j b hj
    omega
  · show aw_lo g ≤ q.1
    rw [key k q hk]
    exact Nat.le_add_right _ _
/-- the heap holds the abstract one, and nothing more is new -/
def aw_wd (g : aw_G) (h : aw_hp) (H : Heap) : Prop := va_P g.2.1 vwCl (aw_W g h) H ∧ H.size = aw_lo g + h.length
/-- a text constant -/
def aw_str (g : aw_G) (i : Nat) (U : State) (H : Heap) : Prop := va_O "java/lang/String" (g.2.2.2.1 i) (aw_A g) U H ∧ va_OF "java/lang/String" "coder" "B" (.int 0) (g.2.2.2.1 i) (aw_A g) U H ∧ va_OF "java/lang/String" "value" "[B" (.ref (g.2.2.2.1 (1000 + i))) (g.2.2.2.1 i) (aw_A g) U H ∧ va_T .byte (g.2.2.2.1 (1000 + i)) (aw_len.getD i 0) (fun j => .int ((aw_byt.getD i []).getD j 0)) (aw_A g) U H
def aw_isN : Cond → Bool
  | .fieldLinkNest .. => true
  | .methodLinkNest .. => true
  | .declares .. => true
  | _ => false
/-- what stays of the state: the tables' numbers, the text constants, the words of their own laws, the script, two statics -/
def aw_sf (g : aw_G) (U : State) : Prop := va_K g.2.1 vwCl (aw_tys g) U ∧ aw_lo g ≤ U.heap.size ∧ (∀ i, i < aw_nS → aw_str g i U U.heap) ∧ (∀ q ∈ aw_ldc, vk_R q.1 q.2.1 q.2.2.1 (g.2.2.2.1 q.2.2.2) U) ∧ (∀ w ∈ aw_nw, va_Nw w U) ∧ va_X (g.2.2.2.1 9999) g.2.2.2.2.2.1 g.2.2.2.2.2.2 U U.heap ∧ g.2.2.2.1 9999 < aw_lo g ∧ va_Z "java/lang/String" "COMPACT_STRINGS" "Z" (.int 1) (aw_A g) U U.heap ∧ (va_Z "jdk/internal/util/Preconditions" "SIOOBE_FORMATTER" "Ljava/util/function/BiFunction;" .null (aw_A g) U U.heap ∨ va_Z "jdk/internal/util/Preconditions" "SIOOBE_FORMATTER" "Ljava/util/function/BiFunction;" (.ref (g.2.2.2.1 8888)) (aw_A g) U U.heap)
/-- the locals -/
def aw_ls (g : aw_G) (n : Nat) (ls : List (Option Value)) (lsA : Array Slot) : Prop := lsA.size = n ∧ lv_wf lsA ∧ ∀ (i : Nat) (v : Value), ls[i]? = some (some v) → lsA[i]? = some (.val (aw_v g v))
def aw_ws (M : aw_M) : List Cond := .code M.1 M.2.1 M.2.2.1 M.2.2.2 :: aw_tbl
def aw_cx (g : aw_G) (M : aw_M) (p : Program) (s : State) (m : MethodId) (args : Array Value) (meth : Method) (c : Code) : Prop :=
  p.tables.exec = Jvm.exec ∧ c.code = M.2.1 ∧ c.maxLocals = M.2.2.1 ∧ meth.sig.returnType = M.2.2.2 ∧ meth.locks = false ∧ s.vm.findClass M.1.cls = some m.cls ∧ meth.name = M.1.name ∧ (∀ w ∈ aw_tbl, w.before args s = true) ∧ aw_sf g s
def aw_Q (g : aw_G) (Post : Option Value → aw_hp → Prop) : Array Value → State → Outcome → State → Prop := fun _ st oc t =>
  (∃ (r : Option Value) (h : aw_hp), oc = .returned (r.map (aw_v g)) ∧ Post r h ∧ aw_wd g h t.heap) ∧ va_F (aw_A g) st t
/-- what a walk comes to -/
abbrev aw_E : Type := List Frame → Array Value → State → State → Prop
def aw_F (g : aw_G) (mc ms : Nat) (Post : Option Value → aw_hp → Prop) : aw_E := fun below args s => MQ below (aw_Q g Post) args s mc ms (aw_A g)
/-- the judgement: method M stands at pc, with these locals, this stack, this heap -/
def AW (g : aw_G) (M : aw_M) (rm : Room) (F : aw_E) (pc : Nat) (ls : List (Option Value)) (st : List Value) (h : aw_hp) (cells slots : Nat) : Prop :=
  ∀ (p : Program) (e : Env) (s : State) (m : MethodId) (args : Array Value) (below : List Frame) (meth : Method) (c : Code), aw_cx g M p s m args meth c →
  ∀ (H : Heap) (locs : List Loc) (lsA : Array Slot), aw_wd g h H → va_S (aw_A g) s.heap H locs → aw_ls g M.2.2.1 ls lsA →
  W p g.1 e rm s m args below meth c H locs cells slots (F below args s) (F0 m pc lsA (st.map (aw_v g)))
/-- a contract: d frames, lc words of locals, mc cells of ms slots -/
def aw_rm (d lc mc ms : Nat) : Room := { frames := d, cells := mc, slots := ms, locals := lc }
def aw_P (g : aw_G) (vs : List Value) (h : aw_hp) : Array Value → State → Prop := fun v U => v = (vs.map (aw_v g)).toArray ∧ aw_wd g h U.heap ∧ aw_sf g U
def Sp (g : aw_G) (M : aw_M) (d lc mc ms : Nat) (vs : List Value) (h : aw_hp) (Post : Option Value → aw_hp → Prop) : Prop :=
  Met g.1 M.1 (aw_ws M) (aw_rm d lc mc ms) (aw_P g vs h) (aw_Q g Post) mc ms (aw_A g)
/-- the locals with which a method begins -/
def aw_en : List Value → List (Option Value)
  | [] => []
  | .long x :: l => some (.long x) :: none :: aw_en l
  | .double x :: l => some (.double x) :: none :: aw_en l
  | v :: l => some v :: aw_en l
def aw_ent (n : Nat) (vs : List Value) : List (Option Value) := aw_en vs ++ List.replicate (n - (aw_en vs).length) none

theorem aw_en_in (g : aw_G) : ∀ (vs : List Value) (k i : Nat) (v : Value), (aw_en vs)[i]? = some (some v) → (k + i, aw_v g v) ∈ lv_args k (vs.map (aw_v g)) := by
  intro vs
  induction vs with
  | nil => intro k i v h; simp [aw_en] at h
  | cons a vs ih =>
    intro k i v h
    have one : ∀ (b : Value), b.category = 1 → (some b :: aw_en vs)[i]? = some (some v) → (k + i, aw_v g v) ∈ lv_args k ((b :: vs).map (aw_v g)) := by
      intro b hb h
      simp only [List.map_cons, lv_args]
      rw [if_neg (by rw [aw_v_cat, hb]; decide)]
      cases i with
      | zero =>
        simp at h
        subst h
        exact List.mem_cons_self
      | succ i =>
        simp at h
        have := ih (k + 1) i v h
        rw [show k + 1 + i = k + (i + 1) by omega] at this
        exact List.mem_cons_of_mem _ this
    have two : ∀ (b : Value), b.category = 2 → (some b :: none :: aw_en vs)[i]? = some (some v) → (k + i, aw_v g v) ∈ lv_args k ((b :: vs).map (aw_v g)) := by
      intro b hb h
      simp only [List.map_cons, lv_args]
      rw [if_pos (by rw [aw_v_cat, hb])]
      match i with
      | 0 =>
        simp at h
        subst h
        exact List.mem_cons_self
      | 1 => simp at h
      | i + 2 =>
        simp at h
        have := ih (k + 2) i v h
        rw [show k + 2 + i = k + (i + 2) by omega] at this
        exact List.mem_cons_of_mem _ this
    cases a with
    | long x => exact two _ rfl h
    | double x => exact two _ rfl h
    | int x => exact one _ rfl h
    | float x => exact one _ rfl h
    | null => exact one _ rfl h
    | ref x => exact one _ rfl h
    | retAddr x => exact one _ rfl h
theorem aw_en_len (g : aw_G) : ∀ (vs : List Value), (lg_sl (vs.map (aw_v g))).length = (aw_en vs).length := by
  intro vs
  induction vs with
  | nil => rfl
  | cons a vs ih =>
    have e : lg_sl ((a :: vs).map (aw_v g)) = (if (aw_v g a).category = 2 then [.val (aw_v g a), .second] else [.val (aw_v g a)]) ++ lg_sl (vs.map (aw_v g)) := by simp [lg_sl]
    rw [e, aw_v_cat, List.length_append, ih]
    cases a <;> simp [aw_en, Value.category] <;> omega
theorem aw_entry {g : aw_G} {n : Nat} {vs : List Value} (hn : (aw_en vs).length ≤ n) : aw_ls g n (aw_ent n vs) ((lg_sl (vs.map (aw_v g)) ++ List.replicate (n - (lg_sl (vs.map (aw_v g))).length) Slot.unset).toArray) := by
  have h := lv_entry (vs.map (aw_v g)) (n := n) (by rw [aw_en_len]; exact hn)
  refine ⟨h.1, h.2.1, fun i v hv => ?_⟩
  have hi : (aw_en vs)[i]? = some (some v) := by
    unfold aw_ent at hv
    by_cases hl : i < (aw_en vs).length
    · rw [List.getElem?_append_left hl] at hv; exact hv
    · rw [List.getElem?_append_right (by omega)] at hv
      have := List.mem_of_getElem? hv
      simp at this
  have := aw_en_in g vs 0 i v hi
  rw [Nat.zero_add] at this
  exact h.2.2 _ this
theorem aw_str_moved {g : aw_G} {i : Nat} {s U : State} {H H1 : Heap} (hv : s.vm.Alike U.vm) (hh : ∀ q, q < H.size → ¬ aw_A g q → H1[q]? = H[q]?) (h : aw_str g i s H) : aw_str g i U H1 := by
  obtain ⟨h1, h2, h3, h4⟩ := h
  exact ⟨va_O.moved hv (h1.kept hh), va_OF.moved hv (h2.kept hh), va_OF.moved hv (h3.kept hh), va_T.moved hv (h4.kept hh)⟩
theorem aw_nw_warm {w : Cond} (hn : aw_isN w = true) {s U : State} (hW : s.WarmedH U.vm) (h : va_Nw w s) : va_Nw w U := by
  cases w <;> first | exact va_Nw.warmF hW h | exact va_Nw.warmM hW h | exact va_Nw.warmD hW h | (cases hn; done)
theorem aw_nw_is : ∀ w ∈ aw_nw, aw_isN w = true := List.all_eq_true.mp (by decide +kernel)
theorem aw_nw_on : ∀ w ∈ aw_nw, w.onTables = true := List.all_eq_true.mp (by decide +kernel)
theorem aw_sf_moved {g : aw_G} {s U : State} (hW : s.WarmedH U.vm) (hh : ∀ q, q < s.heap.size → ¬ aw_A g q → U.heap[q]? = s.heap[q]?) (hz : aw_lo g ≤ U.heap.size) (h : aw_sf g s) : aw_sf g U := by
  obtain ⟨h1, h2, h3, h4, h5, h6, h7, h8, h9⟩ := h
  refine ⟨va_K.moved hW.alike h1, hz, fun i hi => aw_str_moved hW.alike hh (h3 i hi), fun q hq => vk_R.warm hW (h4 q hq), fun w hw => aw_nw_warm (aw_nw_is w hw) hW (h5 w hw), va_X.moved hW.alike (h6.kept (hh _ (Nat.lt_of_lt_of_le h7 h2) (Nat.not_le.mpr h7))), h7, va_Z.moved hW.alike (h8.kept hh), ?_⟩
  rcases h9 with h | h
  · exact Or.inl (va_Z.moved hW.alike (h.kept hh))
  · exact Or.inr (va_Z.moved hW.alike (h.kept hh))
theorem aw_sf_same {g : aw_G} {s U : State} (hv : s.vm = U.vm) (hh : U.heap = s.heap) (h : aw_sf g s) : aw_sf g U := by
  obtain ⟨h1, h2, h3, h4, h5, h6, h7, h8, h9⟩ := h
  have ha : s.vm.Alike U.vm := by rw [← hv]; exact Vm.Alike.refl _
  have hk : ∀ q, q < s.heap.size → ¬ aw_A g q → U.heap[q]? = s.heap[q]? := fun q _ _ => by rw [hh]
  refine ⟨va_K.moved ha h1, by rw [hh]; exact h2, fun i hi => aw_str_moved ha hk (h3 i hi), fun q hq => vk_R.same hv.symm (h4 q hq), fun w hw => va_Nw.same (aw_nw_on w hw) hv (h5 w hw), va_X.moved ha (h6.kept (by rw [hh])), h7, va_Z.moved ha (h8.kept hk), ?_⟩
  rcases h9 with h | h
  · exact Or.inl (va_Z.moved ha (h.kept hk))
  · exact Or.inr (va_Z.moved ha (h.kept hk))
/-- a contract out of a walk -/
theorem Sp.of {g : aw_G} {M : aw_M} {d lc mc ms : Nat} {vs : List Value} {h : aw_hp} {Post : Option Value → aw_hp → Prop} (hy : plainName M.1.cls = true) (hn : (aw_en vs).length ≤ M.2.2.1)
    (k : AW g M (aw_rm d lc mc ms) (aw_F g mc ms Post) 0 (aw_ent M.2.2.1 vs) [] h 0 0) : Sp g M d lc mc ms vs h Post := by
  refine Met.ofW (cc := M.2.1) (maxL := M.2.2.1) (ret := M.2.2.2) hy rfl ?_
  intro p e s m args below meth c s₁ B hml hv
  obtain ⟨rfl, hw, hsf⟩ := hv
  have hts := atoms_spec (ws := aw_ws M) B.pre
  rw [lg_entry_eq]
  exact k p e s m _ below meth c ⟨B.exec, B.bytes, hml, B.returns, B.notSynchronized, findClass_of_methodNamed B.named, (name_of_methodNamed B.named B.method).1, fun w hw => hts w (List.mem_cons_of_mem _ hw), hsf⟩ s.heap [] _ hw va_S.rf (aw_entry hn)
/-- no long ends at place i -/
def aw_no (ls : List (Option Value)) : Nat → Bool
  | 0 => true
  | j + 1 => match ls[j]? with
    | some (some (.long _)) => false
    | some (some (.double _)) => false
    | _ => true
/-- a store into the locals -/
theorem aw_st1 {g : aw_G} {n i : Nat} {ls : List (Option Value)} {lsA : Array Slot} {v : Value} (h : aw_ls g n ls lsA) (hno : aw_no ls i = true) :
    ∃ lv, lv_has lsA n lv ∧ ∀ lsB, lv_has lsB n ((i, aw_v g v) :: lv.filter (fun q => !(q.1 == i) && !(q.1 + 1 == i && q.2.category == 2))) → aw_ls g n (ls.set i (some v)) lsB := by
  obtain ⟨h1, h2, h3⟩ := h
  refine ⟨(List.range ls.length).filterMap (fun j => match ls[j]? with | some (some w) => some (j, aw_v g w) | _ => none), ⟨h1, h2, ?_⟩, fun lsB hB => ⟨hB.1, hB.2.1, fun j w hj => ?_⟩⟩
  · intro q hq
    obtain ⟨j, -, hj⟩ := List.mem_filterMap.mp hq
    split at hj
    · next w hw => cases hj; exact h3 _ _ hw
    · cases hj
  · by_cases hij : i = j
    · subst hij
      have hl : i < ls.length := by
        have := (List.getElem?_eq_some_iff.mp hj).1
        simpa using this
      rw [List.getElem?_set_self hl] at hj
      cases hj
      exact hB.2.2 _ List.mem_cons_self
    · rw [List.getElem?_set_ne hij] at hj
      refine hB.2.2 (j, aw_v g w) (List.mem_cons_of_mem _ (List.mem_filter.mpr ⟨List.mem_filterMap.mpr ⟨j, List.mem_range.mpr (List.getElem?_eq_some_iff.mp hj).1, by rw [hj]⟩, ?_⟩))
      rw [aw_v_cat]
      have a1 : (j == i) = false := by simp; omega
      rw [a1]
      by_cases hs : j + 1 = i
      · subst hs
        simp only [aw_no, hj] at hno
        cases w <;> simp_all [Value.category]
      · simp [hs]
theorem aw_st2 {g : aw_G} {n i : Nat} {ls : List (Option Value)} {lsA : Array Slot} {v : Value} (h : aw_ls g n ls lsA) (hno : aw_no ls i = true) :
    ∃ lv, lv_has lsA n lv ∧ ∀ lsB, lv_has lsB n ((i, aw_v g v) :: lv.filter (fun q => !(q.1 == i) && (!(q.1 == i + 1) && !(q.1 + 1 == i && q.2.category == 2)))) → aw_ls g n ((ls.set i (some v)).set (i + 1) none) lsB := by
  obtain ⟨h1, h2, h3⟩ := h
  refine ⟨(List.range ls.length).filterMap (fun j => match ls[j]? with | some (some w) => some (j, aw_v g w) | _ => none), ⟨h1, h2, ?_⟩, fun lsB hB => ⟨hB.1, hB.2.1, fun j w hj => ?_⟩⟩
  · intro q hq
    obtain ⟨j, -, hj⟩ := List.mem_filterMap.mp hq
    split at hj
    · next w hw => cases hj; exact h3 _ _ hw
    · cases hj
  · by_cases hi1 : i + 1 = j
    · subst hi1
      rw [List.getElem?_set] at hj
      simp at hj
    rw [List.getElem?_set_ne hi1] at hj
    by_cases hij : i = j
    · subst hij
      have hl : i < ls.length := by
        have := (List.getElem?_eq_some_iff.mp hj).1
        simpa using this
      rw [List.getElem?_set_self hl] at hj
      cases hj
      exact hB.2.2 _ List.mem_cons_self
    · rw [List.getElem?_set_ne hij] at hj
      refine hB.2.2 (j, aw_v g w) (List.mem_cons_of_mem _ (List.mem_filter.mpr ⟨List.mem_filterMap.mpr ⟨j, List.mem_range.mpr (List.getElem?_eq_some_iff.mp hj).1, by rw [hj]⟩, ?_⟩))
      rw [aw_v_cat]
      have a1 : (j == i) = false := by simp; omega
      have a2 : (j == i + 1) = false := by simp; omega
      rw [a1, a2]
      by_cases hs : j + 1 = i
      · subst hs
        simp only [aw_no, hj] at hno
        cases w <;> simp_all [Value.category]
      · simp [hs]
/-- is it a reference, or null -/
def aw_R : Value → Bool
  | .ref _ => true
  | .retAddr _ => true
  | .null => true
  | _ => false
section AWR
variable {g : aw_G} {M : aw_M} {rm : Room} {F : aw_E} {Post : Option Value → aw_hp → Prop} {pc : Nat} {ls : List (Option Value)} {st : List Value} {h : aw_hp} {cells slots : Nat}
/-- the state under another name -/
theorem AW.to {pc' : Nat} {ls' : List (Option Value)} {st' : List Value} {h' : aw_hp} (k : AW g M rm F pc' ls' st' h' cells slots) (e1 : pc = pc') (e2 : ls = ls') (e3 : st = st') (e4 : h = h') : AW g M rm F pc ls st h cells slots := by
  subst e1; subst e2; subst e3; subst e4; exact k

theorem aw_iconst {n : Int} {v : Int32} (hd : decode M.2.1 pc = .ok (.iconst n, 1)) (hv : Int32.ofInt n = v)
    (k : AW g M rm F (pc + 1) ls (.int v :: st) h cells slots) : AW g M rm F pc ls st h cells slots := fun p e s m args below meth c C H locs lsA hw hS hl => lv_iconst C.1 C.2.1 hd hv (k p e s m args below meth c C H locs lsA hw hS hl)
theorem aw_bipush {n : Int} {v : Int32} (hd : decode M.2.1 pc = .ok (.bipush n, 2)) (hv : (Int8.ofInt n).toInt32 = v)
    (k : AW g M rm F (pc + 2) ls (.int v :: st) h cells slots) : AW g M rm F pc ls st h cells slots := fun p e s m args below meth c C H locs lsA hw hS hl => lv_bipush C.1 C.2.1 hd hv (k p e s m args below meth c C H locs lsA hw hS hl)
theorem aw_sipush {n : Int} {v : Int32} (hd : decode M.2.1 pc = .ok (.sipush n, 3)) (hv : (Int16.ofInt n).toInt32 = v)
    (k : AW g M rm F (pc + 3) ls (.int v :: st) h cells slots) : AW g M rm F pc ls st h cells slots := fun p e s m args below meth c C H locs lsA hw hS hl => lv_sipush C.1 C.2.1 hd hv (k p e s m args below meth c C H locs lsA hw hS hl)
theorem aw_lconst {n : Fin 2} {v : Int64} (hd : decode M.2.1 pc = .ok (.lconst n, 1)) (hv : Int64.ofNat (n : Nat) = v)
    (k : AW g M rm F (pc + 1) ls (.long v :: st) h cells slots) : AW g M rm F pc ls st h cells slots := fun p e s m args below meth c C H locs lsA hw hS hl => lv_lconst C.1 C.2.1 hd hv (k p e s m args below meth c C H locs lsA hw hS hl)
theorem aw_iload_n {i : Fin 4} {j : Nat} {x : Int32} (hd : decode M.2.1 pc = .ok (.iload_n i, 1)) (hi : (i : Nat) = j) (hv : ls[j]? = some (some (.int x)))
    (k : AW g M rm F (pc + 1) ls (.int x :: st) h cells slots) : AW g M rm F pc ls st h cells slots := fun p e s m args below meth c C H locs lsA hw hS hl => lv_iload_n C.1 C.2.1 hd hi (hl.2.2 _ _ hv) (k p e s m args below meth c C H locs lsA hw hS hl)
theorem aw_iload {i : Nat} {x : Int32} (hd : decode M.2.1 pc = .ok (.iload i, 2)) (hv : ls[i]? = some (some (.int x)))
    (k : AW g M rm F (pc + 2) ls (.int x :: st) h cells slots) : AW g M rm F pc ls st h cells slots := fun p e s m args below meth c C H locs lsA hw hS hl => lv_iload C.1 C.2.1 hd (hl.2.2 _ _ hv) (k p e s m args below meth c C H locs lsA hw hS hl)
theorem aw_lload_n {i : Fin 4} {j : Nat} {x : Int64} (hd : decode M.2.1 pc = .ok (.lload_n i, 1)) (hi : (i : Nat) = j) (hv : ls[j]? = some (some (.long x)))
    (k : AW g M rm F (pc + 1) ls (.long x :: st) h cells slots) : AW g M rm F pc ls st h cells slots := fun p e s m args below meth c C H locs lsA hw hS hl => lv_lload_n C.1 C.2.1 hd hi (hl.2.2 _ _ hv) (k p e s m args below meth c C H locs lsA hw hS hl)
theorem aw_lload {i : Nat} {x : Int64} (hd : decode M.2.1 pc = .ok (.lload i, 2)) (hv : ls[i]? = some (some (.long x)))
    (k : AW g M rm F (pc + 2) ls (.long x :: st) h cells slots) : AW g M rm F pc ls st h cells slots := fun p e s m args below meth c C H locs lsA hw hS hl => lv_lload C.1 C.2.1 hd (hl.2.2 _ _ hv) (k p e s m args below meth c C H locs lsA hw hS hl)
theorem aw_aload_n {i : Fin 4} {j : Nat} {v : Value} (hd : decode M.2.1 pc = .ok (.aload_n i, 1)) (hi : (i : Nat) = j) (hv : ls[j]? = some (some v)) (hr : aw_R v = true)
    (k : AW g M rm F (pc + 1) ls (v :: st) h cells slots) : AW g M rm F pc ls st h cells slots := by
  intro p e s m args below meth c C H locs lsA hw hS hl
  have kk := k p e s m args below meth c C H locs lsA hw hS hl
  cases v with
  | ref a => exact lv_aload_n C.1 C.2.1 hd hi (hl.2.2 _ _ hv) kk
  | retAddr a => exact lv_aload_n C.1 C.2.1 hd hi (hl.2.2 _ _ hv) kk
  | null => exact lv_aload_nN C.1 C.2.1 hd hi (hl.2.2 _ _ hv) kk
  | int a => cases hr
  | long a => cases hr
  | float a => cases hr
  | double a => cases hr
theorem aw_aload {i : Nat} {v : Value} (hd : decode M.2.1 pc = .ok (.aload i, 2)) (hv : ls[i]? = some (some v)) (hr : aw_R v = true)
    (k : AW g M rm F (pc + 2) ls (v :: st) h cells slots) : AW g M rm F pc ls st h cells slots := by
  intro p e s m args below meth c C H locs lsA hw hS hl
  have kk := k p e s m args below meth c C H locs lsA hw hS hl
  cases v with
  | ref a => exact lv_aload C.1 C.2.1 hd (hl.2.2 _ _ hv) kk
  | retAddr a => exact lv_aload C.1 C.2.1 hd (hl.2.2 _ _ hv) kk
  | null => exact lv_aloadN C.1 C.2.1 hd (hl.2.2 _ _ hv) kk
  | int a => cases hr
  | long a => cases hr
  | float a => cases hr
  | double a => cases hr
theorem aw_istore_n {i : Fin 4} {j : Nat} {x : Int32} (hd : decode M.2.1 pc = .ok (.istore_n i, 1)) (hi : (i : Nat) = j) (hn : j < M.2.2.1) (hno : aw_no ls j = true)
    (k : AW g M rm F (pc + 1) (ls.set j (some (.int x))) st h cells slots) : AW g M rm F pc ls (.int x :: st) h cells slots := by
  intro p e s m args below meth c C H locs lsA hw hS hl
  obtain ⟨lv, h1, h2⟩ := aw_st1 (v := .int x) hl hno
  exact lv_istore_n C.1 C.2.1 hd hi h1 hn rfl (fun lsB hB => k p e s m args below meth c C H locs lsB hw hS (h2 lsB hB))
theorem aw_istore {i : Nat} {x : Int32} (hd : decode M.2.1 pc = .ok (.istore i, 2)) (hn : i < M.2.2.1) (hno : aw_no ls i = true)
    (k : AW g M rm F (pc + 2) (ls.set i (some (.int x))) st h cells slots) : AW g M rm F pc ls (.int x :: st) h cells slots := by
  intro p e s m args below meth c C H locs lsA hw hS hl
  obtain ⟨lv, h1, h2⟩ := aw_st1 (v := .int x) hl hno
  exact lv_istore C.1 C.2.1 hd h1 hn rfl (fun lsB hB => k p e s m args below meth c C H locs lsB hw hS (h2 lsB hB))
theorem aw_lstore_n {i : Fin 4} {j : Nat} {x : Int64} (hd : decode M.2.1 pc = .ok (.lstore_n i, 1)) (hi : (i : Nat) = j) (hn : j + 1 < M.2.2.1) (hno : aw_no ls j = true)
    (k : AW g M rm F (pc + 1) ((ls.set j (some (.long x))).set (j + 1) none) st h cells slots) : AW g M rm F pc ls (.long x :: st) h cells slots := by
  intro p e s m args below meth c C H locs lsA hw hS hl
  obtain ⟨lv, h1, h2⟩ := aw_st2 (v := .long x) hl hno
  exact lv_lstore_n C.1 C.2.1 hd hi h1 hn rfl (fun lsB hB => k p e s m args below meth c C H locs lsB hw hS (h2 lsB hB))
theorem aw_lstore {i : Nat} {x : Int64} (hd : decode M.2.1 pc = .ok (.lstore i, 2)) (hn : i + 1 < M.2.2.1) (hno : aw_no ls i = true)
    (k : AW g M rm F (pc + 2) ((ls.set i (some (.long x))).set (i + 1) none) st h cells slots) : AW g M rm F pc ls (.long x :: st) h cells slots := by
  intro p e s m args below meth c C H locs lsA hw hS hl
  obtain ⟨lv, h1, h2⟩ := aw_st2 (v := .long x) hl hno
  exact lv_lstore C.1 C.2.1 hd h1 hn rfl (fun lsB hB => k p e s m args below meth c C H locs lsB hw hS (h2 lsB hB))
theorem aw_astore_n {i : Fin 4} {j : Nat} {v : Value} (hd : decode M.2.1 pc = .ok (.astore_n i, 1)) (hi : (i : Nat) = j) (hn : j < M.2.2.1) (hno : aw_no ls j = true) (hr : aw_R v = true)
    (k : AW g M rm F (pc + 1) (ls.set j (some v)) st h cells slots) : AW g M rm F pc ls (v :: st) h cells slots := by
  intro p e s m args below meth c C H locs lsA hw hS hl
  obtain ⟨lv, h1, h2⟩ := aw_st1 (v := v) hl hno
  cases v with
  | ref a => exact lv_astore_n C.1 C.2.1 hd hi h1 hn rfl (fun lsB hB => k p e s m args below meth c C H locs lsB hw hS (h2 lsB hB))
  | retAddr a => exact lv_astore_n C.1 C.2.1 hd hi h1 hn rfl (fun lsB hB => k p e s m args below meth c C H locs lsB hw hS (h2 lsB hB))
  | null => exact lv_astore_nN C.1 C.2.1 hd hi h1 hn rfl (fun lsB hB => k p e s m args below meth c C H locs lsB hw hS (h2 lsB hB))
  | int a => cases hr
  | long a => cases hr
  | float a => cases hr
  | double a => cases hr
theorem aw_astore {i : Nat} {v : Value} (hd : decode M.2.1 pc = .ok (.astore i, 2)) (hn : i < M.2.2.1) (hno : aw_no ls i = true) (hr : aw_R v = true)
    (k : AW g M rm F (pc + 2) (ls.set i (some v)) st h cells slots) : AW g M rm F pc ls (v :: st) h cells slots := by
  intro p e s m args below meth c C H locs lsA hw hS hl
  obtain ⟨lv, h1, h2⟩ := aw_st1 (v := v) hl hno
  cases v with
  | ref a => exact lv_astore C.1 C.2.1 hd h1 hn rfl (fun lsB hB => k p e s m args below meth c C H locs lsB hw hS (h2 lsB hB))
  | retAddr a => exact lv_astore C.1 C.2.1 hd h1 hn rfl (fun lsB hB => k p e s m args below meth c C H locs lsB hw hS (h2 lsB hB))
  | null => exact lv_astoreN C.1 C.2.1 hd h1 hn rfl (fun lsB hB => k p e s m args below meth c C H locs lsB hw hS (h2 lsB hB))
  | int a => cases hr
  | long a => cases hr
  | float a => cases hr
  | double a => cases hr
theorem aw_iinc {i : Nat} {n : Int} {x v : Int32} (hd : decode M.2.1 pc = .ok (.iinc i n, 3)) (hv : ls[i]? = some (some (.int x))) (hx : x + Int32.ofInt n = v) (hn : i < M.2.2.1) (hno : aw_no ls i = true)
    (k : AW g M rm F (pc + 3) (ls.set i (some (.int v))) st h cells slots) : AW g M rm F pc ls st h cells slots := by
  intro p e s m args below meth c C H locs lsA hw hS hl
  obtain ⟨lv, h1, h2⟩ := aw_st1 (v := .int v) hl hno
  have h3 : lv_has lsA M.2.2.1 ((i, .int x) :: lv) := ⟨h1.1, h1.2.1, fun q hq => by
    rcases List.mem_cons.mp hq with rfl | hq
    · exact hl.2.2 _ _ hv
    · exact h1.2.2 q hq⟩
  refine lv_iinc (k := 0) C.1 C.2.1 hd h3 rfl hx hn rfl (fun lsB hB => k p e s m args below meth c C H locs lsB hw hS (h2 lsB ⟨hB.1, hB.2.1, fun q hq => hB.2.2 q ?_⟩))
  rcases List.mem_cons.mp hq with rfl | hq
  · exact List.mem_cons_self
  · exact List.mem_cons_of_mem _ (List.mem_filter.mpr ⟨List.mem_cons_of_mem _ (List.mem_filter.mp hq).1, (List.mem_filter.mp hq).2⟩)
theorem aw_iadd {x y : Int32} (hd : decode M.2.1 pc = .ok (.iadd, 1))
    (k : AW g M rm F (pc + 1) ls (.int (x + y) :: st) h cells slots) : AW g M rm F pc ls (.int y :: .int x :: st) h cells slots := fun p e s m args below meth c C H locs lsA hw hS hl => lv_iadd C.1 C.2.1 hd (k p e s m args below meth c C H locs lsA hw hS hl)
theorem aw_isub {x y : Int32} (hd : decode M.2.1 pc = .ok (.isub, 1))
    (k : AW g M rm F (pc + 1) ls (.int (x - y) :: st) h cells slots) : AW g M rm F pc ls (.int y :: .int x :: st) h cells slots := fun p e s m args below meth c C H locs lsA hw hS hl => lv_isub C.1 C.2.1 hd (k p e s m args below meth c C H locs lsA hw hS hl)
theorem aw_imul {x y : Int32} (hd : decode M.2.1 pc = .ok (.imul, 1))
    (k : AW g M rm F (pc + 1) ls (.int (x * y) :: st) h cells slots) : AW g M rm F pc ls (.int y :: .int x :: st) h cells slots := fun p e s m args below meth c C H locs lsA hw hS hl => lv_imul C.1 C.2.1 hd (k p e s m args below meth c C H locs lsA hw hS hl)
theorem aw_iand {x y : Int32} (hd : decode M.2.1 pc = .ok (.iand, 1))
    (k : AW g M rm F (pc + 1) ls (.int (x &&& y) :: st) h cells slots) : AW g M rm F pc ls (.int y :: .int x :: st) h cells slots := fun p e s m args below meth c C H locs lsA hw hS hl => lv_iand C.1 C.2.1 hd (k p e s m args below meth c C H locs lsA hw hS hl)
theorem aw_ior {x y : Int32} (hd : decode M.2.1 pc = .ok (.ior, 1))
    (k : AW g M rm F (pc + 1) ls (.int (x ||| y) :: st) h cells slots) : AW g M rm F pc ls (.int y :: .int x :: st) h cells slots := fun p e s m args below meth c C H locs lsA hw hS hl => lv_ior C.1 C.2.1 hd (k p e s m args below meth c C H locs lsA hw hS hl)
theorem aw_ixor {x y : Int32} (hd : decode M.2.1 pc = .ok (.ixor, 1))
    (k : AW g M rm F (pc + 1) ls (.int (x ^^^ y) :: st) h cells slots) : AW g M rm F pc ls (.int y :: .int x :: st) h cells slots := fun p e s m args below meth c C H locs lsA hw hS hl => lv_ixor C.1 C.2.1 hd (k p e s m args below meth c C H locs lsA hw hS hl)
theorem aw_idiv {x y : Int32} (hd : decode M.2.1 pc = .ok (.idiv, 1)) (hne : ¬ y = 0)
    (k : AW g M rm F (pc + 1) ls (.int (x / y) :: st) h cells slots) : AW g M rm F pc ls (.int y :: .int x :: st) h cells slots := fun p e s m args below meth c C H locs lsA hw hS hl => lv_idiv C.1 C.2.1 hd hne (k p e s m args below meth c C H locs lsA hw hS hl)
theorem aw_irem {x y : Int32} (hd : decode M.2.1 pc = .ok (.irem, 1)) (hne : ¬ y = 0)
    (k : AW g M rm F (pc + 1) ls (.int (x - x / y * y) :: st) h cells slots) : AW g M rm F pc ls (.int y :: .int x :: st) h cells slots := fun p e s m args below meth c C H locs lsA hw hS hl => lv_irem C.1 C.2.1 hd hne (k p e s m args below meth c C H locs lsA hw hS hl)
theorem aw_ladd {x y : Int64} (hd : decode M.2.1 pc = .ok (.ladd, 1))
    (k : AW g M rm F (pc + 1) ls (.long (x + y) :: st) h cells slots) : AW g M rm F pc ls (.long y :: .long x :: st) h cells slots := fun p e s m args below meth c C H locs lsA hw hS hl => lv_ladd C.1 C.2.1 hd (k p e s m args below meth c C H locs lsA hw hS hl)
theorem aw_lsub {x y : Int64} (hd : decode M.2.1 pc = .ok (.lsub, 1))
    (k : AW g M rm F (pc + 1) ls (.long (x - y) :: st) h cells slots) : AW g M rm F pc ls (.long y :: .long x :: st) h cells slots := fun p e s m args below meth c C H locs lsA hw hS hl => lv_lsub C.1 C.2.1 hd (k p e s m args below meth c C H locs lsA hw hS hl)
theorem aw_lmul {x y : Int64} (hd : decode M.2.1 pc = .ok (.lmul, 1))
    (k : AW g M rm F (pc + 1) ls (.long (x * y) :: st) h cells slots) : AW g M rm F pc ls (.long y :: .long x :: st) h cells slots := fun p e s m args below meth c C H locs lsA hw hS hl => lv_lmul C.1 C.2.1 hd (k p e s m args below meth c C H locs lsA hw hS hl)
theorem aw_land {x y : Int64} (hd : decode M.2.1 pc = .ok (.land, 1))
    (k : AW g M rm F (pc + 1) ls (.long (x &&& y) :: st) h cells slots) : AW g M rm F pc ls (.long y :: .long x :: st) h cells slots := fun p e s m args below meth c C H locs lsA hw hS hl => lv_land C.1 C.2.1 hd (k p e s m args below meth c C H locs lsA hw hS hl)
theorem aw_lor {x y : Int64} (hd : decode M.2.1 pc = .ok (.lor, 1))
    (k : AW g M rm F (pc + 1) ls (.long (x ||| y) :: st) h cells slots) : AW g M rm F pc ls (.long y :: .long x :: st) h cells slots := fun p e s m args below meth c C H locs lsA hw hS hl => lv_lor C.1 C.2.1 hd (k p e s m args below meth c C H locs lsA hw hS hl)
theorem aw_lxor {x y : Int64} (hd : decode M.2.1 pc = .ok (.lxor, 1))
    (k : AW g M rm F (pc + 1) ls (.long (x ^^^ y) :: st) h cells slots) : AW g M rm F pc ls (.long y :: .long x :: st) h cells slots := fun p e s m args below meth c C H locs lsA hw hS hl => lv_lxor C.1 C.2.1 hd (k p e s m args below meth c C H locs lsA hw hS hl)
theorem aw_ineg {x : Int32} (hd : decode M.2.1 pc = .ok (.ineg, 1))
    (k : AW g M rm F (pc + 1) ls (.int (-x) :: st) h cells slots) : AW g M rm F pc ls (.int x :: st) h cells slots := fun p e s m args below meth c C H locs lsA hw hS hl => lv_ineg C.1 C.2.1 hd (k p e s m args below meth c C H locs lsA hw hS hl)
theorem aw_i2l {x : Int32} (hd : decode M.2.1 pc = .ok (.i2l, 1))
    (k : AW g M rm F (pc + 1) ls (.long x.toInt64 :: st) h cells slots) : AW g M rm F pc ls (.int x :: st) h cells slots := fun p e s m args below meth c C H locs lsA hw hS hl => lv_i2l C.1 C.2.1 hd rfl (k p e s m args below meth c C H locs lsA hw hS hl)
theorem aw_l2i {x : Int64} (hd : decode M.2.1 pc = .ok (.l2i, 1))
    (k : AW g M rm F (pc + 1) ls (.int x.toInt32 :: st) h cells slots) : AW g M rm F pc ls (.long x :: st) h cells slots := fun p e s m args below meth c C H locs lsA hw hS hl => lv_l2i C.1 C.2.1 hd rfl (k p e s m args below meth c C H locs lsA hw hS hl)
theorem aw_i2b {x : Int32} (hd : decode M.2.1 pc = .ok (.i2b, 1))
    (k : AW g M rm F (pc + 1) ls (.int x.toInt8.toInt32 :: st) h cells slots) : AW g M rm F pc ls (.int x :: st) h cells slots := fun p e s m args below meth c C H locs lsA hw hS hl => lv_i2b C.1 C.2.1 hd rfl (k p e s m args below meth c C H locs lsA hw hS hl)
theorem aw_i2c {x : Int32} (hd : decode M.2.1 pc = .ok (.i2c, 1))
    (k : AW g M rm F (pc + 1) ls (.int (x.toUInt32 % 65536).toInt32 :: st) h cells slots) : AW g M rm F pc ls (.int x :: st) h cells slots := fun p e s m args below meth c C H locs lsA hw hS hl => lv_i2c C.1 C.2.1 hd rfl (k p e s m args below meth c C H locs lsA hw hS hl)
theorem aw_ishl {x y : Int32} (hd : decode M.2.1 pc = .ok (.ishl, 1))
    (k : AW g M rm F (pc + 1) ls (.int (x <<< (y &&& 31)) :: st) h cells slots) : AW g M rm F pc ls (.int y :: .int x :: st) h cells slots := fun p e s m args below meth c C H locs lsA hw hS hl => lv_ishl C.1 C.2.1 hd (k p e s m args below meth c C H locs lsA hw hS hl)
theorem aw_ishr {x y : Int32} (hd : decode M.2.1 pc = .ok (.ishr, 1))
    (k : AW g M rm F (pc + 1) ls (.int (x >>> (y &&& 31)) :: st) h cells slots) : AW g M rm F pc ls (.int y :: .int x :: st) h cells slots := fun p e s m args below meth c C H locs lsA hw hS hl => lv_ishr C.1 C.2.1 hd (k p e s m args below meth c C H locs lsA hw hS hl)
theorem aw_iushr {x y : Int32} (hd : decode M.2.1 pc = .ok (.iushr, 1))
    (k : AW g M rm F (pc + 1) ls (.int (x.toUInt32 >>> (y.toUInt32 &&& Int32.toUInt32 31)).toInt32 :: st) h cells slots) : AW g M rm F pc ls (.int y :: .int x :: st) h cells slots := fun p e s m args below meth c C H locs lsA hw hS hl => lv_iushr C.1 C.2.1 hd rfl (k p e s m args below meth c C H locs lsA hw hS hl)
theorem aw_lushr {x : Int64} {y : Int32} (hd : decode M.2.1 pc = .ok (.lushr, 1))
    (k : AW g M rm F (pc + 1) ls (.long (x.toUInt64 >>> (y.toInt64.toUInt64 &&& Int64.toUInt64 63)).toInt64 :: st) h cells slots) : AW g M rm F pc ls (.int y :: .long x :: st) h cells slots := fun p e s m args below meth c C H locs lsA hw hS hl => lv_lushr C.1 C.2.1 hd rfl (k p e s m args below meth c C H locs lsA hw hS hl)
theorem aw_lshl {x : Int64} {y : Int32} (hd : decode M.2.1 pc = .ok (.lshl, 1))
    (k : AW g M rm F (pc + 1) ls (.long (x <<< (y.toInt64 &&& 63)) :: st) h cells slots) : AW g M rm F pc ls (.int y :: .long x :: st) h cells slots := fun p e s m args below meth c C H locs lsA hw hS hl => lv_lshl C.1 C.2.1 hd rfl (k p e s m args below meth c C H locs lsA hw hS hl)
theorem aw_lshr {x : Int64} {y : Int32} (hd : decode M.2.1 pc = .ok (.lshr, 1))
    (k : AW g M rm F (pc + 1) ls (.long (x >>> (y.toInt64 &&& 63)) :: st) h cells slots) : AW g M rm F pc ls (.int y :: .long x :: st) h cells slots := fun p e s m args below meth c C H locs lsA hw hS hl => lv_lshr C.1 C.2.1 hd rfl (k p e s m args below meth c C H locs lsA hw hS hl)
theorem aw_dup {va : Value} (hd : decode M.2.1 pc = .ok (.dup, 1)) (ha : va.category = 1)
    (k : AW g M rm F (pc + 1) ls (va :: va :: st) h cells slots) : AW g M rm F pc ls (va :: st) h cells slots := fun p e s m args below meth c C H locs lsA hw hS hl => lv_dup C.1 C.2.1 hd (by rw [aw_v_cat]; exact ha) (k p e s m args below meth c C H locs lsA hw hS hl)
theorem aw_pop {va : Value} (hd : decode M.2.1 pc = .ok (.pop, 1)) (ha : va.category = 1)
    (k : AW g M rm F (pc + 1) ls st h cells slots) : AW g M rm F pc ls (va :: st) h cells slots := fun p e s m args below meth c C H locs lsA hw hS hl => lv_pop C.1 C.2.1 hd (by rw [aw_v_cat]; exact ha) (k p e s m args below meth c C H locs lsA hw hS hl)
theorem aw_dup_x1 {va vb : Value} (hd : decode M.2.1 pc = .ok (.dup_x1, 1)) (ha : va.category = 1) (hb : vb.category = 1)
    (k : AW g M rm F (pc + 1) ls (va :: vb :: va :: st) h cells slots) : AW g M rm F pc ls (va :: vb :: st) h cells slots := fun p e s m args below meth c C H locs lsA hw hS hl => lv_dup_x1 C.1 C.2.1 hd (by rw [aw_v_cat]; exact ha) (by rw [aw_v_cat]; exact hb) (k p e s m args below meth c C H locs lsA hw hS hl)
theorem aw_dup2 {va vb : Value} (hd : decode M.2.1 pc = .ok (.dup2, 1)) (ha : va.category = 1) (hb : vb.category = 1)
    (k : AW g M rm F (pc + 1) ls (va :: vb :: va :: vb :: st) h cells slots) : AW g M rm F pc ls (va :: vb :: st) h cells slots := fun p e s m args below meth c C H locs lsA hw hS hl => lv_dup2_11 C.1 C.2.1 hd (by rw [aw_v_cat]; exact ha) (by rw [aw_v_cat]; exact hb) (k p e s m args below meth c C H locs lsA hw hS hl)
theorem aw_dup_x2 {va vb vc : Value} (hd : decode M.2.1 pc = .ok (.dup_x2, 1)) (ha : va.category = 1) (hb : vb.category = 1) (hc : vc.category = 1)
    (k : AW g M rm F (pc + 1) ls (va :: vb :: vc :: va :: st) h cells slots) : AW g M rm F pc ls (va :: vb :: vc :: st) h cells slots := fun p e s m args below meth c C H locs lsA hw hS hl => lv_dup_x2 C.1 C.2.1 hd (by rw [aw_v_cat]; exact ha) (by rw [aw_v_cat]; exact hb) (by rw [aw_v_cat]; exact hc) (k p e s m args below meth c C H locs lsA hw hS hl)
theorem aw_if_eq {x : Int32} {off : Int} {tgt : Nat} (hd : decode M.2.1 pc = .ok (.ifCond .eq off, 3)) (ht : (pc : Int) + off = (tgt : Int))
    (kt : x = 0 → AW g M rm F tgt ls st h cells slots) (kf : ¬ (x = 0) → AW g M rm F (pc + 3) ls st h cells slots) : AW g M rm F pc ls (.int x :: st) h cells slots := fun p e s m args below meth c C H locs lsA hw hS hl => lv_if_eq C.1 C.2.1 hd ht (fun z => kt z p e s m args below meth c C H locs lsA hw hS hl) (fun z => kf z p e s m args below meth c C H locs lsA hw hS hl)
theorem aw_icmp_eq {x y : Int32} {off : Int} {tgt : Nat} (hd : decode M.2.1 pc = .ok (.if_icmp .eq off, 3)) (ht : (pc : Int) + off = (tgt : Int))
    (kt : x = y → AW g M rm F tgt ls st h cells slots) (kf : ¬ (x = y) → AW g M rm F (pc + 3) ls st h cells slots) : AW g M rm F pc ls (.int y :: .int x :: st) h cells slots := fun p e s m args below meth c C H locs lsA hw hS hl => lv_icmp_eq C.1 C.2.1 hd ht (fun z => kt z p e s m args below meth c C H locs lsA hw hS hl) (fun z => kf z p e s m args below meth c C H locs lsA hw hS hl)
theorem aw_if_ne {x : Int32} {off : Int} {tgt : Nat} (hd : decode M.2.1 pc = .ok (.ifCond .ne off, 3)) (ht : (pc : Int) + off = (tgt : Int))
    (kt : x ≠ 0 → AW g M rm F tgt ls st h cells slots) (kf : x = 0 → AW g M rm F (pc + 3) ls st h cells slots) : AW g M rm F pc ls (.int x :: st) h cells slots := fun p e s m args below meth c C H locs lsA hw hS hl => lv_if_ne C.1 C.2.1 hd ht (fun z => kt z p e s m args below meth c C H locs lsA hw hS hl) (fun z => kf z p e s m args below meth c C H locs lsA hw hS hl)
theorem aw_icmp_ne {x y : Int32} {off : Int} {tgt : Nat} (hd : decode M.2.1 pc = .ok (.if_icmp .ne off, 3)) (ht : (pc : Int) + off = (tgt : Int))
    (kt : x ≠ y → AW g M rm F tgt ls st h cells slots) (kf : x = y → AW g M rm F (pc + 3) ls st h cells slots) : AW g M rm F pc ls (.int y :: .int x :: st) h cells slots := fun p e s m args below meth c C H locs lsA hw hS hl => lv_icmp_ne C.1 C.2.1 hd ht (fun z => kt z p e s m args below meth c C H locs lsA hw hS hl) (fun z => kf z p e s m args below meth c C H locs lsA hw hS hl)
theorem aw_if_lt {x : Int32} {off : Int} {tgt : Nat} (hd : decode M.2.1 pc = .ok (.ifCond .lt off, 3)) (ht : (pc : Int) + off = (tgt : Int))
    (kt : x < 0 → AW g M rm F tgt ls st h cells slots) (kf : ¬ (x < 0) → AW g M rm F (pc + 3) ls st h cells slots) : AW g M rm F pc ls (.int x :: st) h cells slots := fun p e s m args below meth c C H locs lsA hw hS hl => lv_if_lt C.1 C.2.1 hd ht (fun z => kt z p e s m args below meth c C H locs lsA hw hS hl) (fun z => kf z p e s m args below meth c C H locs lsA hw hS hl)
theorem aw_icmp_lt {x y : Int32} {off : Int} {tgt : Nat} (hd : decode M.2.1 pc = .ok (.if_icmp .lt off, 3)) (ht : (pc : Int) + off = (tgt : Int))
    (kt : x < y → AW g M rm F tgt ls st h cells slots) (kf : ¬ (x < y) → AW g M rm F (pc + 3) ls st h cells slots) : AW g M rm F pc ls (.int y :: .int x :: st) h cells slots := fun p e s m args below meth c C H locs lsA hw hS hl => lv_icmp_lt C.1 C.2.1 hd ht (fun z => kt z p e s m args below meth c C H locs lsA hw hS hl) (fun z => kf z p e s m args below meth c C H locs lsA hw hS hl)
theorem aw_if_ge {x : Int32} {off : Int} {tgt : Nat} (hd : decode M.2.1 pc = .ok (.ifCond .ge off, 3)) (ht : (pc : Int) + off = (tgt : Int))
    (kt : 0 ≤ x → AW g M rm F tgt ls st h cells slots) (kf : ¬ (0 ≤ x) → AW g M rm F (pc + 3) ls st h cells slots) : AW g M rm F pc ls (.int x :: st) h cells slots := fun p e s m args below meth c C H locs lsA hw hS hl => lv_if_ge C.1 C.2.1 hd ht (fun z => kt z p e s m args below meth c C H locs lsA hw hS hl) (fun z => kf z p e s m args below meth c C H locs lsA hw hS hl)
theorem aw_icmp_ge {x y : Int32} {off : Int} {tgt : Nat} (hd : decode M.2.1 pc = .ok (.if_icmp .ge off, 3)) (ht : (pc : Int) + off = (tgt : Int))
    (kt : y ≤ x → AW g M rm F tgt ls st h cells slots) (kf : ¬ (y ≤ x) → AW g M rm F (pc + 3) ls st h cells slots) : AW g M rm F pc ls (.int y :: .int x :: st) h cells slots := fun p e s m args below meth c C H locs lsA hw hS hl => lv_icmp_ge C.1 C.2.1 hd ht (fun z => kt z p e s m args below meth c C H locs lsA hw hS hl) (fun z => kf z p e s m args below meth c C H locs lsA hw hS hl)
theorem aw_if_gt {x : Int32} {off : Int} {tgt : Nat} (hd : decode M.2.1 pc = .ok (.ifCond .gt off, 3)) (ht : (pc : Int) + off = (tgt : Int))
    (kt : 0 < x → AW g M rm F tgt ls st h cells slots) (kf : ¬ (0 < x) → AW g M rm F (pc + 3) ls st h cells slots) : AW g M rm F pc ls (.int x :: st) h cells slots := fun p e s m args below meth c C H locs lsA hw hS hl => lv_if_gt C.1 C.2.1 hd ht (fun z => kt z p e s m args below meth c C H locs lsA hw hS hl) (fun z => kf z p e s m args below meth c C H locs lsA hw hS hl)
theorem aw_icmp_gt {x y : Int32} {off : Int} {tgt : Nat} (hd : decode M.2.1 pc = .ok (.if_icmp .gt off, 3)) (ht : (pc : Int) + off = (tgt : Int))
    (kt : y < x → AW g M rm F tgt ls st h cells slots) (kf : ¬ (y < x) → AW g M rm F (pc + 3) ls st h cells slots) : AW g M rm F pc ls (.int y :: .int x :: st) h cells slots := fun p e s m args below meth c C H locs lsA hw hS hl => lv_icmp_gt C.1 C.2.1 hd ht (fun z => kt z p e s m args below meth c C H locs lsA hw hS hl) (fun z => kf z p e s m args below meth c C H locs lsA hw hS hl)
theorem aw_if_le {x : Int32} {off : Int} {tgt : Nat} (hd : decode M.2.1 pc = .ok (.ifCond .le off, 3)) (ht : (pc : Int) + off = (tgt : Int))
    (kt : x ≤ 0 → AW g M rm F tgt ls st h cells slots) (kf : ¬ (x ≤ 0) → AW g M rm F (pc + 3) ls st h cells slots) : AW g M rm F pc ls (.int x :: st) h cells slots := fun p e s m args below meth c C H locs lsA hw hS hl => lv_if_le C.1 C.2.1 hd ht (fun z => kt z p e s m args below meth c C H locs lsA hw hS hl) (fun z => kf z p e s m args below meth c C H locs lsA hw hS hl)
theorem aw_icmp_le {x y : Int32} {off : Int} {tgt : Nat} (hd : decode M.2.1 pc = .ok (.if_icmp .le off, 3)) (ht : (pc : Int) + off = (tgt : Int))
    (kt : x ≤ y → AW g M rm F tgt ls st h cells slots) (kf : ¬ (x ≤ y) → AW g M rm F (pc + 3) ls st h cells slots) : AW g M rm F pc ls (.int y :: .int x :: st) h cells slots := fun p e s m args below meth c C H locs lsA hw hS hl => lv_icmp_le C.1 C.2.1 hd ht (fun z => kt z p e s m args below meth c C H locs lsA hw hS hl) (fun z => kf z p e s m args below meth c C H locs lsA hw hS hl)
theorem aw_goto {off : Int} {tgt : Nat} (hd : decode M.2.1 pc = .ok (.goto off, 3)) (ht : (pc : Int) + off = (tgt : Int)) (k : AW g M rm F tgt ls st h cells slots) : AW g M rm F pc ls st h cells slots := fun p e s m args below meth c C H locs lsA hw hS hl => lv_goto C.1 C.2.1 hd ht (k p e s m args below meth c C H locs lsA hw hS hl)
theorem aw_tableIn {dflt lo hi : Int} {offs : Array Int} {len : Nat} {x : Int32} {off : Int} {tgt : Nat} (hd : decode M.2.1 pc = .ok (.tableswitch dflt lo hi offs, len)) (h1 : ¬ x.toInt < lo) (h2 : ¬ hi < x.toInt) (ho : offs[(x.toInt - lo).toNat]? = some off) (ht : (pc : Int) + off = (tgt : Int))
    (k : AW g M rm F tgt ls st h cells slots) : AW g M rm F pc ls (.int x :: st) h cells slots := fun p e s m args below meth c C H locs lsA hw hS hl => lv_tableIn C.1 C.2.1 hd h1 h2 ho ht (k p e s m args below meth c C H locs lsA hw hS hl)
theorem aw_tableOut {dflt lo hi : Int} {offs : Array Int} {len : Nat} {x : Int32} {tgt : Nat} (hd : decode M.2.1 pc = .ok (.tableswitch dflt lo hi offs, len)) (hx : x.toInt < lo ∨ hi < x.toInt) (ht : (pc : Int) + dflt = (tgt : Int))
    (k : AW g M rm F tgt ls st h cells slots) : AW g M rm F pc ls (.int x :: st) h cells slots := fun p e s m args below meth c C H locs lsA hw hS hl => lv_tableOut C.1 C.2.1 hd hx ht (k p e s m args below meth c C H locs lsA hw hS hl)
theorem aw_lookup {dflt : Int} {ps : Array (Int × Int)} {len : Nat} {x : Int32} {off : Int} {tgt : Nat} (hd : decode M.2.1 pc = .ok (.lookupswitch dflt ps, len)) (hp : (ps.toList.zip (ps.toList.drop 1)).all (fun (a, next) => a.1 < next.1) = true) (ho : Op.lookupswitch.offset ps.toList dflt x.toInt = off) (ht : (pc : Int) + off = (tgt : Int))
    (k : AW g M rm F tgt ls st h cells slots) : AW g M rm F pc ls (.int x :: st) h cells slots := fun p e s m args below meth c C H locs lsA hw hS hl => lv_lookup C.1 C.2.1 hd hp ho ht (k p e s m args below meth c C H locs lsA hw hS hl)
theorem aw_ldcS {index i : Nat} {tx : String} (hd : decode M.2.1 pc = .ok (.ldc index, 2)) (hq : (M.1.cls, index, tx, i) ∈ aw_ldc)
    (k : AW g M rm F (pc + 2) ls (.retAddr i :: st) h cells slots) : AW g M rm F pc ls st h cells slots := fun p e s m args below meth c C H locs lsA hw hS hl => va_ldcS C.1 C.2.1 C.2.2.2.2.2.1 (C.2.2.2.2.2.2.2.2.2.2.2.1 _ hq) hd (k p e s m args below meth c C H locs lsA hw hS hl)
theorem aw_ldci {index : Nat} {v : Int32} (hd : decode M.2.1 pc = .ok (.ldc index, 2)) (hq : Cond.constant M.1.cls index v ∈ aw_tbl)
    (k : AW g M rm F (pc + 2) ls (.int v :: st) h cells slots) : AW g M rm F pc ls st h cells slots := fun p e s m args below meth c C H locs lsA hw hS hl => lv_ldc C.1 C.2.1 C.2.2.2.2.2.1 (C.2.2.2.2.2.2.2.1 _ hq) hd (k p e s m args below meth c C H locs lsA hw hS hl)
theorem aw_iret {v : Int32} (hd : decode M.2.1 pc = .ok (.ireturn, 1)) (hr : M.2.2.2 = some .int) (hp : Post (some (.int v)) h) : AW g M rm (aw_F g cells slots Post) pc ls [.int v] h cells slots := fun p e s m args below meth c C H locs lsA hw hS hl =>
  W.iret C.1 C.2.1 (C.2.2.2.1.trans hr) (fun t ht hW => ⟨⟨some (.int v), h, rfl, hp, by rw [ht]; exact hw⟩, hS.F ht⟩) hS.2.2 hd C.2.2.2.2.1
theorem aw_zret {v : Int32} {ty : FieldType} (hd : decode M.2.1 pc = .ok (.ireturn, 1)) (hr : M.2.2.2 = some ty) (hn : narrow ty (.int v) = .int v) (hp : Post (some (.int v)) h) : AW g M rm (aw_F g cells slots Post) pc ls [.int v] h cells slots := fun p e s m args below meth c C H locs lsA hw hS hl =>
  W.zret C.1 C.2.1 (C.2.2.2.1.trans hr) hn (fun t ht hW => ⟨⟨some (.int v), h, rfl, hp, by rw [ht]; exact hw⟩, hS.F ht⟩) hS.2.2 hd C.2.2.2.2.1
theorem aw_lret {v : Int64} (hd : decode M.2.1 pc = .ok (.lreturn, 1)) (hr : M.2.2.2 = some .long) (hp : Post (some (.long v)) h) : AW g M rm (aw_F g cells slots Post) pc ls [.long v] h cells slots := fun p e s m args below meth c C H locs lsA hw hS hl =>
  W.lret C.1 C.2.1 (C.2.2.2.1.trans hr) (fun t ht hW => ⟨⟨some (.long v), h, rfl, hp, by rw [ht]; exact hw⟩, hS.F ht⟩) hS.2.2 hd C.2.2.2.2.1
theorem aw_vret (hd : decode M.2.1 pc = .ok (.return_, 1)) (hr : M.2.2.2 = none) (hp : Post none h) : AW g M rm (aw_F g cells slots Post) pc ls [] h cells slots := fun p e s m args below meth c C H locs lsA hw hS hl =>
  W.vret C.1 C.2.1 (C.2.2.2.1.trans hr) (fun t ht hW => ⟨⟨none, h, rfl, hp, by rw [ht]; exact hw⟩, hS.F ht⟩) hS.2.2 hd C.2.2.2.2.1
theorem aw_aret {v : Value} {rt : FieldType} (hd : decode M.2.1 pc = .ok (.areturn, 1)) (hr : M.2.2.2 = some rt) (hrt : (∃ n, rt = .object n) ∨ ∃ t, rt = .array t) (hv : aw_R v = true) (hp : Post (some v) h) : AW g M rm (aw_F g cells slots Post) pc ls [v] h cells slots := fun p e s m args below meth c C H locs lsA hw hS hl =>
  W.aret C.1 C.2.1 (C.2.2.2.1.trans hr) hrt (by cases v <;> first | exact Or.inl rfl | exact Or.inr ⟨_, rfl⟩ | cases hv) (fun t ht hW => ⟨⟨some v, h, rfl, hp, by rw [ht]; exact hw⟩, hS.F ht⟩) hS.2.2 hd C.2.2.2.2.1
theorem aw_widen {c2 s2 : Nat} (h1 : cells ≤ c2) (h2 : slots ≤ s2) (k : AW g M rm F pc ls st h c2 s2) : AW g M rm F pc ls st h cells slots := fun p e s m args below meth c C H locs lsA hw hS hl => W.widen h1 h2 (k p e s m args below meth c C H locs lsA hw hS hl)
/-! fields -/
/-- entry 'index' of own's pool is field k of objects of number ci -/
def aw_fd (own : String) (index ci k : Nat) (ty : FieldType) (fin : Bool) : Prop := ∃ (C ref : String) (T : u_T) (N : Nat) (ty0 : Nat → FieldType), vwCl[ci]? = some (C, T, N) ∧ k < N ∧ (∀ w ∈ u_ws C T N, w ∈ aw_tbl) ∧ (∀ j, j < N → parseFieldDescriptor (T j).2.2.1 = some (ty0 j)) ∧ (∀ a, a < N → ∀ b, b < N → a ≠ b → (T a).2.1 ≠ (T b).2.1) ∧ ty0 k = ty ∧ (T k).2.2.2 = fin ∧
  (Cond.fieldLink own index ref (T k).2.1 (T k).2.2.1 ∈ aw_tbl ∨ ∃ host, Cond.fieldLinkNest own index ref (T k).2.1 (T k).2.2.1 host ∈ aw_nw) ∧ (ref = (T k).1 ∨ Cond.sameField ref (T k).1 (T k).2.1 (T k).2.2.1 ∈ aw_tbl)
/-- the same for a field that is written: no nest mate's -/
def aw_pf (own : String) (index ci k : Nat) (ty : FieldType) (fin : Bool) : Prop := ∃ (C ref : String) (T : u_T) (N : Nat) (ty0 : Nat → FieldType), vwCl[ci]? = some (C, T, N) ∧ k < N ∧ (∀ w ∈ u_ws C T N, w ∈ aw_tbl) ∧ (∀ j, j < N → parseFieldDescriptor (T j).2.2.1 = some (ty0 j)) ∧ (∀ a, a < N → ∀ b, b < N → a ≠ b → (T a).2.1 ≠ (T b).2.1) ∧ ty0 k = ty ∧ (T k).2.2.2 = fin ∧
  Cond.fieldLink own index ref (T k).2.1 (T k).2.2.1 ∈ aw_tbl ∧ (ref = (T k).1 ∨ Cond.sameField ref (T k).1 (T k).2.1 (T k).2.2.1 ∈ aw_tbl)
theorem aw_samef {args : Array Value} {s : State} {ref : String} {T : u_T} {k : Nat} (ht : ∀ w ∈ aw_tbl, w.before args s = true) (h : ref = (T k).1 ∨ Cond.sameField ref (T k).1 (T k).2.1 (T k).2.2.1 ∈ aw_tbl) : ∀ x, s.fieldFound? (T k).1 (T k).2.1 (T k).2.2.1 = some x → s.fieldFound? ref (T k).2.1 (T k).2.2.1 = some x := by
  rcases h with rfl | h
  · exact fun _ h => h
  · exact fun x hx => u_same (ht _ h) x hx
theorem aw_getf {index ci k a : Nat} {ty : FieldType} {fin : Bool} {fs : List Value} {v : Value} (hd : decode M.2.1 pc = .ok (.getfield index, 3)) (hf : aw_fd M.1.cls index ci k ty fin) (hc : h[a]? = some (.inr (ci, fs))) (hv : fs[k]? = some v)
    (kk : AW g M rm F (pc + 3) ls (v :: st) h cells slots) : AW g M rm F pc ls (.ref a :: st) h cells slots := by
  intro p e s m args below meth c C H locs lsA hw hS hl
  have kk := kk p e s m args below meth c C H locs lsA hw hS hl
  obtain ⟨Cn, ref, T, N, ty0, h1, h2, h3, h4, h5, h6, h7, h8, h9⟩ := hf
  have hv' : (fs.map (aw_v g))[k]? = some (aw_v g v) := by rw [List.getElem?_map, hv]; rfl
  have he : (aw_W g h)[a]? = some (aw_lo g + a, .inr (ci, fs.map (aw_v g))) := aw_W_at hc
  rcases h8 with h8 | ⟨host, h8⟩
  · exact va_get C.1 C.2.1 C.2.2.2.2.2.2.2.1 h3 C.2.2.2.2.2.1 C.2.2.2.2.2.2.2.2.1 hw.1 a he h1 k h2 (C.2.2.2.2.2.2.2.1 _ h8) (aw_samef C.2.2.2.2.2.2.2.1 h9) hv' hd kk
  · exact va_getN C.1 C.2.1 C.2.2.2.2.2.2.2.1 h3 C.2.2.2.2.2.1 C.2.2.2.2.2.2.2.2.1 hw.1 a he h1 k h2 (va_Nw.use (aw_nw_on _ h8) (C.2.2.2.2.2.2.2.2.2.2.2.2.1 _ h8)) (aw_samef C.2.2.2.2.2.2.2.1 h9) hv' hd kk
theorem aw_wset {g : aw_G} {h : aw_hp} {H H1 : Heap} {a : Nat} {x y : aw_ob} (hw : aw_wd g h H) (hc : h[a]? = some x) (he : va_at g.2.1 vwCl (aw_lo g + a, aw_o g y) H1) (z : H1.size = H.size) (oq : ∀ q : Nat, q ≠ aw_lo g + a → H1[q]? = H[q]?) : aw_wd g (h.set a y) H1 := by
  refine ⟨?_, by rw [z, hw.2, List.length_set]⟩
  rw [← aw_W_set]
  exact hw.1.set (aw_W_D g h) (aw_W_at hc) he oq
theorem aw_putf {index ci k a : Nat} {ty : FieldType} {fs : List Value} {v : Value} (hd : decode M.2.1 pc = .ok (.putfield index, 3)) (hf : aw_pf M.1.cls index ci k ty false) (hc : h[a]? = some (.inr (ci, fs))) (hk : k < fs.length) (hn : narrow ty (aw_v g v) = aw_v g v) (hfit : fits ty (aw_v g v) = true)
    (kk : AW g M rm F (pc + 3) ls st (h.set a (.inr (ci, fs.set k v))) cells slots) : AW g M rm F pc ls (v :: .ref a :: st) h cells slots := by
  intro p e s m args below meth c C H locs lsA hw hS hl
  obtain ⟨Cn, ref, T, N, ty0, h1, h2, h3, h4, h5, h6, h7, h8, h9⟩ := hf
  have hts := C.2.2.2.2.2.2.2.1
  have hK := C.2.2.2.2.2.2.2.2.1
  have he : (aw_W g h)[a]? = some (aw_lo g + a, .inr (ci, fs.map (aw_v g))) := aw_W_at hc
  have hap := va_apart (own := M.1.cls) hts h3 ty0 h4 h5 hK h1
  obtain ⟨r, g1, cell, q1, q2, q3, q4⟩ := hw.1 a _ he
  have hr : r = (Cn, T, N) := Option.some.inj (g1.symm.trans h1)
  subst hr
  obtain ⟨hSl, hfc, kC, hkC, hkind⟩ := hK.1 ci _ h1
  obtain ⟨cf, kf, fi, f, hi, hsl⟩ := hSl k h2
  have hlay := hts _ (h3 _ (u_in_lay h2))
  unfold u_lay at hlay
  rw [if_neg (by rw [h7]; decide)] at hlay
  have hst := (u_facts hfc hkC (u_lays hts h3 h2) hi).1
  have hsto := u_store hfc hkC hkind hlay hi (by rw [h4 k h2, h6]) hn hfit
  have hkl : k < (fs.map (aw_v g)).length := by rw [List.length_map]; exact hk
  have fin : ∀ H' : Heap, H'[aw_lo g + a]? = some (cell.setSlot f.slot (aw_v g v)) → H'.size = H.size → (∀ q : Nat, q ≠ aw_lo g + a → H'[q]? = H[q]?) → W p g.1 e rm s m args below meth c H' (locs ++ [⟨aw_lo g + a, f.slot⟩]) cells slots (F below args s) (F0 m (pc + 3) lsA (st.map (aw_v g))) := by
    intro H' e1 e2 e3
    rw [hsl] at e1
    refine kk p e s m args below meth c C H' _ lsA (aw_wset hw hc ?_ e2 e3) (hS.put e2 e3 (Nat.le_add_right _ _)) hl
    refine ⟨_, h1, t_OB.to (V := updV (vp_V (fs.map (aw_v g))) k (aw_v g v)) ⟨_, e1, q2, q3, t_set q4 hap h2 (aw_v g v)⟩ (fun j _ => ?_)⟩
    show _ = vp_V ((fs.set k v).map (aw_v g)) j
    rw [List.map_set]
    exact vp_updV_set hkl (aw_v g v) j
  · exact W.putK C.1 C.2.1 (f := f) ⟨C.2.2.2.2.2.1, hts _ h8, ⟨_, _, _, aw_samef hts h9 _ hi⟩, hst⟩ (by rw [q2]; exact hsto) q1 q3 (by rw [hsl]; exact k2_hasslot (q4 k h2)) rfl rfl hd fin
theorem aw_putF {index ci k a : Nat} {ty : FieldType} {fs : List Value} {v : Value} (hd : decode M.2.1 pc = .ok (.putfield index, 3)) (hf : aw_pf M.1.cls index ci k ty true) (hin2 : M.1.name = "<init>") (hdecl : ∀ (C : String) (T : u_T) (N : Nat), vwCl[ci]? = some (C, T, N) → (T k).1 = M.1.cls) (hc : h[a]? = some (.inr (ci, fs))) (hk : k < fs.length) (hn : narrow ty (aw_v g v) = aw_v g v) (hfit : fits ty (aw_v g v) = true)
    (kk : AW g M rm F (pc + 3) ls st (h.set a (.inr (ci, fs.set k v))) cells slots) : AW g M rm F pc ls (v :: .ref a :: st) h cells slots := by
  intro p e s m args below meth c C H locs lsA hw hS hl
  obtain ⟨Cn, ref, T, N, ty0, h1, h2, h3, h4, h5, h6, h7, h8, h9⟩ := hf
  have hts := C.2.2.2.2.2.2.2.1
  have hK := C.2.2.2.2.2.2.2.2.1
  have hown := C.2.2.2.2.2.1
  have he : (aw_W g h)[a]? = some (aw_lo g + a, .inr (ci, fs.map (aw_v g))) := aw_W_at hc
  have hap := va_apart (own := M.1.cls) hts h3 ty0 h4 h5 hK h1
  obtain ⟨r, g1, cell, q1, q2, q3, q4⟩ := hw.1 a _ he
  have hr : r = (Cn, T, N) := Option.some.inj (g1.symm.trans h1)
  subst hr
  obtain ⟨hSl, hfc, kC, hkC, hkind⟩ := hK.1 ci _ h1
  obtain ⟨cf, kf, fi, f, hi, hsl⟩ := hSl k h2
  have hlay := hts _ (h3 _ (u_in_lay h2))
  unfold u_lay at hlay
  rw [if_pos h7] at hlay
  have hst := (u_facts hfc hkC (u_lays hts h3 h2) hi).1
  have hcf : m.cls = cf := by
    obtain ⟨_, _, c', _, _, _, -, -, hf', -, -, -, hown2, -⟩ := Cond.laysFinal_spec hlay
    have e1 : c' = cf := by have := hi.symm.trans hf'; simp at this; exact this.1.symm
    rw [hdecl _ _ _ h1] at hown2
    rw [← e1]; exact Option.some.inj (hown.symm.trans hown2)
  have hsto := u_fits hfc hkC hkind (Or.inr hlay) hi (by rw [h4 k h2, h6]) hn hfit
  have hkl : k < (fs.map (aw_v g)).length := by rw [List.length_map]; exact hk
  have fin : ∀ H' : Heap, H'[aw_lo g + a]? = some (cell.setSlot f.slot (aw_v g v)) → H'.size = H.size → (∀ q : Nat, q ≠ aw_lo g + a → H'[q]? = H[q]?) → W p g.1 e rm s m args below meth c H' (locs ++ [⟨aw_lo g + a, f.slot⟩]) cells slots (F below args s) (F0 m (pc + 3) lsA (st.map (aw_v g))) := by
    intro H' e1 e2 e3
    rw [hsl] at e1
    refine kk p e s m args below meth c C H' _ lsA (aw_wset hw hc ?_ e2 e3) (hS.put e2 e3 (Nat.le_add_right _ _)) hl
    refine ⟨_, h1, t_OB.to (V := updV (vp_V (fs.map (aw_v g))) k (aw_v g v)) ⟨_, e1, q2, q3, t_set q4 hap h2 (aw_v g v)⟩ (fun j _ => ?_)⟩
    show _ = vp_V ((fs.set k v).map (aw_v g)) j
    rw [List.map_set]
    exact vp_updV_set hkl (aw_v g v) j
  · exact W.putFinK C.1 C.2.1 hown (hts _ h8) (aw_samef hts h9 _ hi) hst hcf (C.2.2.2.2.2.2.1.trans hin2) (by rw [q2]; exact hsto) q1 q3 (by rw [hsl]; exact k2_hasslot (q4 k h2)) rfl rfl hd fin
/-! arrays -/
theorem aw_iald {a n : Nat} {f : Nat → Int32} {i : Int32} (hd : decode M.2.1 pc = .ok (.iaload, 1)) (hc : h[a]? = some (.inl (0, n, .inl f))) (hi : vp_in i n)
    (kk : AW g M rm F (pc + 1) ls (.int (f i.toNatClampNeg) :: st) h cells slots) : AW g M rm F pc ls (.int i :: .ref a :: st) h cells slots := fun p e s m args below meth c C H locs lsA hw hS hl =>
  va_iald (n := n) (f := f) (cA := g.2.2.1 0) C.1 C.2.1 C.2.2.2.2.2.2.2.2.1 hw.1 a 0 (aw_W_at hc) rfl hi hd (kk p e s m args below meth c C H locs lsA hw hS hl)
theorem aw_zald {a n : Nat} {f : Nat → Int32} {i : Int32} (hd : decode M.2.1 pc = .ok (.baload, 1)) (hc : h[a]? = some (.inl (1, n, .inl f))) (hi : vp_in i n)
    (kk : AW g M rm F (pc + 1) ls (.int (f i.toNatClampNeg) :: st) h cells slots) : AW g M rm F pc ls (.int i :: .ref a :: st) h cells slots := fun p e s m args below meth c C H locs lsA hw hS hl =>
  va_zald (n := n) (f := f) (cA := g.2.2.1 1) C.1 C.2.1 C.2.2.2.2.2.2.2.2.1 hw.1 a 1 (aw_W_at hc) rfl hi hd (kk p e s m args below meth c C H locs lsA hw hS hl)
theorem aw_iast {a n : Nat} {f : Nat → Int32} {i x : Int32} (hd : decode M.2.1 pc = .ok (.iastore, 1)) (hc : h[a]? = some (.inl (0, n, .inl f))) (hi : vp_in i n)
    (kk : AW g M rm F (pc + 1) ls st (h.set a (.inl (0, n, .inl (upd f i.toNatClampNeg x)))) cells slots) : AW g M rm F pc ls (.int x :: .int i :: .ref a :: st) h cells slots := by
  intro p e s m args below meth c C H locs lsA hw hS hl
  have he : (aw_W g h)[a]? = some (aw_lo g + a, .inl (g.2.2.1 0, n, .inl f)) := aw_W_at hc
  refine W.iast C.1 C.2.1 (hw.1 a _ he) ((C.2.2.2.2.2.2.2.2.1.2 0 (g.2.2.1 0, .int) rfl).1 n (fun j => .int (f j))) (fun q => by cases q) (by show ¬ (i < 0 ∨ (arrV _ _ _).slots.size ≤ _); rw [arrV_size]; exact hi) rfl rfl hd fun H1 e1 z oq => ?_
  refine kk p e s m args below meth c C H1 _ lsA (aw_wset hw hc ?_ z oq) (hS.put z oq (Nat.le_add_right _ _)) hl
  show H1[aw_lo g + a]? = some (vp_cell _ _)
  rw [e1]
  show some ((vp_cell _ (n, .inl f)).setSlot _ _) = _
  rw [vp_cell_i, vp_cell_i, arrV_store]
  congr 2
  funext q
  by_cases hq : q = i.toNatClampNeg
  · subst hq
    simp [updV, upd]
  · simp [updV, upd, hq]
theorem aw_zast {a n : Nat} {f : Nat → Int32} {i x : Int32} (hd : decode M.2.1 pc = .ok (.bastore, 1)) (hc : h[a]? = some (.inl (1, n, .inl f))) (hi : vp_in i n) (hx : narrow .boolean (.int x) = .int x)
    (kk : AW g M rm F (pc + 1) ls st (h.set a (.inl (1, n, .inl (upd f i.toNatClampNeg x)))) cells slots) : AW g M rm F pc ls (.int x :: .int i :: .ref a :: st) h cells slots := by
  intro p e s m args below meth c C H locs lsA hw hS hl
  have he : (aw_W g h)[a]? = some (aw_lo g + a, .inl (g.2.2.1 1, n, .inl f)) := aw_W_at hc
  refine W.zast C.1 C.2.1 (hw.1 a _ he) ((C.2.2.2.2.2.2.2.2.1.2 1 (g.2.2.1 1, .boolean) rfl).1 n (fun j => .int (f j))) (fun q => by cases q) (by show ¬ (i < 0 ∨ (arrV _ _ _).slots.size ≤ _); rw [arrV_size]; exact hi) rfl rfl hd fun H1 e1 z oq => ?_
  refine kk p e s m args below meth c C H1 _ lsA (aw_wset hw hc ?_ z oq) (hS.put z oq (Nat.le_add_right _ _)) hl
  show H1[aw_lo g + a]? = some (vp_cell _ _)
  rw [e1, hx]
  show some ((vp_cell _ (n, .inl f)).setSlot _ _) = _
  rw [vp_cell_i, vp_cell_i, arrV_store]
  congr 2
  funext q
  by_cases hq : q = i.toNatClampNeg
  · subst hq
    simp [updV, upd]
  · simp [updV, upd, hq]
/-! the script, the texts, the statics -/
theorem aw_sld {i : Int32} (hd : decode M.2.1 pc = .ok (.iaload, 1)) (hi : vp_in i g.2.2.2.2.2.1)
    (kk : AW g M rm F (pc + 1) ls (.int (g.2.2.2.2.2.2 i.toNatClampNeg) :: st) h cells slots) : AW g M rm F pc ls (.int i :: .retAddr 9999 :: st) h cells slots := fun p e s m args below meth c C H locs lsA hw hS hl =>
  va_sld C.1 C.2.1 C.2.2.2.2.2.2.2.2.2.2.2.2.2.1 (Nat.lt_of_lt_of_le C.2.2.2.2.2.2.2.2.2.2.2.2.2.2.1 C.2.2.2.2.2.2.2.2.2.1) (Nat.not_le.mpr C.2.2.2.2.2.2.2.2.2.2.2.2.2.2.1) hS hi hd (kk p e s m args below meth c C H locs lsA hw hS hl)
theorem aw_slen (hd : decode M.2.1 pc = .ok (.arraylength, 1))
    (kk : AW g M rm F (pc + 1) ls (.int (nI g.2.2.2.2.2.1) :: st) h cells slots) : AW g M rm F pc ls (.retAddr 9999 :: st) h cells slots := fun p e s m args below meth c C H locs lsA hw hS hl =>
  va_slen C.1 C.2.1 C.2.2.2.2.2.2.2.2.2.2.2.2.2.1 (Nat.lt_of_lt_of_le C.2.2.2.2.2.2.2.2.2.2.2.2.2.2.1 C.2.2.2.2.2.2.2.2.2.1) (Nat.not_le.mpr C.2.2.2.2.2.2.2.2.2.2.2.2.2.2.1) hS hd (kk p e s m args below meth c C H locs lsA hw hS hl)
theorem aw_strv {i : Nat} (hi : i < aw_nS) (hd : decode M.2.1 pc = .ok (.getfield 9, 3)) (hm : M.1.cls = "java/lang/String")
    (kk : AW g M rm F (pc + 3) ls (.retAddr (1000 + i) :: st) h cells slots) : AW g M rm F pc ls (.retAddr i :: st) h cells slots := fun p e s m args below meth c C H locs lsA hw hS hl =>
  vk_getf (own := M.1.cls) (ref := "java/lang/String") C.1 C.2.1 (C.2.2.2.2.2.2.2.2.2.2.1 i hi).2.2.1 hS C.2.2.2.2.2.1 (C.2.2.2.2.2.2.2.1 _ (by rw [hm]; exact aw_w_value)) (fun _ h => h) hd (kk p e s m args below meth c C H locs lsA hw hS hl)
theorem aw_strc {i : Nat} (hi : i < aw_nS) (hd : decode M.2.1 pc = .ok (.getfield 15, 3)) (hm : M.1.cls = "java/lang/String")
    (kk : AW g M rm F (pc + 3) ls (.int 0 :: st) h cells slots) : AW g M rm F pc ls (.retAddr i :: st) h cells slots := fun p e s m args below meth c C H locs lsA hw hS hl =>
  vk_getf (own := M.1.cls) (ref := "java/lang/String") C.1 C.2.1 (C.2.2.2.2.2.2.2.2.2.2.1 i hi).2.1 hS C.2.2.2.2.2.1 (C.2.2.2.2.2.2.2.1 _ (by rw [hm]; exact aw_w_coder)) (fun _ h => h) hd (kk p e s m args below meth c C H locs lsA hw hS hl)
theorem aw_strl {i : Nat} (hi : i < aw_nS) (hd : decode M.2.1 pc = .ok (.arraylength, 1))
    (kk : AW g M rm F (pc + 1) ls (.int (nI (aw_len.getD i 0)) :: st) h cells slots) : AW g M rm F pc ls (.retAddr (1000 + i) :: st) h cells slots := fun p e s m args below meth c C H locs lsA hw hS hl =>
  va_tlen C.1 C.2.1 (C.2.2.2.2.2.2.2.2.2.2.1 i hi).2.2.2 hS rfl hd (kk p e s m args below meth c C H locs lsA hw hS hl)
theorem aw_strb {i : Nat} {j : Int32} (hi : i < aw_nS) (hd : decode M.2.1 pc = .ok (.baload, 1)) (hj : vp_in j (aw_len.getD i 0))
    (kk : AW g M rm F (pc + 1) ls (.int ((aw_byt.getD i []).getD j.toNatClampNeg 0) :: st) h cells slots) : AW g M rm F pc ls (.int j :: .retAddr (1000 + i) :: st) h cells slots := fun p e s m args below meth c C H locs lsA hw hS hl =>
  va_tb C.1 C.2.1 (C.2.2.2.2.2.2.2.2.2.2.1 i hi).2.2.2 hS hj rfl hd (kk p e s m args below meth c C H locs lsA hw hS hl)
theorem aw_compact (hd : decode M.2.1 pc = .ok (.getstatic 38, 3)) (hm : M.1.cls = "java/lang/String")
    (kk : AW g M rm F (pc + 3) ls (.int 1 :: st) h cells slots) : AW g M rm F pc ls st h cells slots := fun p e s m args below meth c C H locs lsA hw hS hl =>
  va_gets (own := M.1.cls) (ref := "java/lang/String") C.1 C.2.1 C.2.2.2.2.2.2.2.2.2.2.2.2.2.2.2.1 hS C.2.2.2.2.2.1 (C.2.2.2.2.2.2.2.1 _ (by rw [hm]; exact aw_w_compact)) (fun _ h => h) hd (kk p e s m args below meth c C H locs lsA hw hS hl)
theorem aw_sioobe (hd : decode M.2.1 pc = .ok (.getstatic 1053, 3)) (hm : M.1.cls = "java/lang/String")
    (kk : ∀ v : Value, aw_R v = true → AW g M rm F (pc + 3) ls (v :: st) h cells slots) : AW g M rm F pc ls st h cells slots := by
  intro p e s m args below meth c C H locs lsA hw hS hl
  rcases C.2.2.2.2.2.2.2.2.2.2.2.2.2.2.2.2 with hZ | hZ
  · exact va_gets (own := M.1.cls) (ref := "jdk/internal/util/Preconditions") C.1 C.2.1 hZ hS C.2.2.2.2.2.1 (C.2.2.2.2.2.2.2.1 _ (by rw [hm]; exact aw_w_sioobe)) (fun _ h => h) hd (kk .null rfl p e s m args below meth c C H locs lsA hw hS hl)
  · exact va_gets (own := M.1.cls) (ref := "jdk/internal/util/Preconditions") C.1 C.2.1 hZ hS C.2.2.2.2.2.1 (C.2.2.2.2.2.2.2.1 _ (by rw [hm]; exact aw_w_sioobe)) (fun _ h => h) hd (kk (.retAddr 8888) rfl p e s m args below meth c C H locs lsA hw hS hl)
theorem aw_ldc2 {index : Nat} {v : Int64} (hd : decode M.2.1 pc = .ok (.ldc2_w index, 3)) (hq : Cond.constantLong M.1.cls index v ∈ aw_tbl)
    (k : AW g M rm F (pc + 3) ls (.long v :: st) h cells slots) : AW g M rm F pc ls st h cells slots := fun p e s m args below meth c C H locs lsA hw hS hl => lv_ldc2 C.1 C.2.1 C.2.2.2.2.2.1 (C.2.2.2.2.2.2.2.1 _ hq) hd (k p e s m args below meth c C H locs lsA hw hS hl)
/-! new cells -/
theorem aw_new {index ci N : Nat} {Cn : String} {T : u_T} {fs : List Value} (hd : decode M.2.1 pc = .ok (.new index, 3)) (hcl : vwCl[ci]? = some (Cn, T, N)) (hw1 : Cond.classLink M.1.cls index Cn ∈ aw_tbl) (hw2 : Cond.instantiable Cn N ∈ aw_tbl) (hw3 : Cond.initialized Cn ∈ aw_tbl) (hin : ∀ w ∈ u_ws Cn T N, w ∈ aw_tbl) (ty : Nat → FieldType) (hty : ∀ k, k < N → parseFieldDescriptor (T k).2.2.1 = some (ty k)) (hfs : ∀ j, j < N → defaultValue (ty j) = vp_V (fs.map (aw_v g)) j) (hcells : cells + 1 ≤ rm.cells) (hslots : slots + N ≤ rm.slots)
    (kk : AW g M rm F (pc + 3) ls (.ref h.length :: st) (h ++ [.inr (ci, fs)]) (cells + 1) (slots + N)) : AW g M rm F pc ls st h cells slots := by
  intro p e s m args below meth c C H locs lsA hw hS hl
  have hts := C.2.2.2.2.2.2.2.1
  have hKn := C.2.2.2.2.2.2.2.2.1.1 ci _ hcl
  refine W.newcK C.1 C.2.1 C.2.2.2.2.2.1 (hts _ hw1) (hts _ hw2) (hts _ hw3) rfl hd hcells hslots hKn.2.1 hw.2 fun H1 kC hkC e1 z1 o1 => ?_
  refine kk p e s m args below meth c C H1 locs lsA ⟨?_, by rw [z1, List.length_append]; rfl⟩ ⟨Nat.le_trans hS.1 (by rw [hw.2, z1]; omega), fun q h1 h2 => (o1 q (by rw [← hw.2]; exact Nat.lt_of_lt_of_le h1 hS.1)).trans (hS.2.1 q h1 h2), hS.2.2⟩ hl
  rw [← aw_W_push]
  refine (hw.1.kept (fun k q hk => o1 q.1 (by rw [← hw.2]; exact (hw.1 k q hk).lt))).app (fun k x hx => ?_)
  have hz : k < 1 := (List.getElem?_eq_some_iff.mp hx).1
  rw [show k = 0 by omega] at hx
  cases hx
  exact ⟨_, hcl, (u_born ty hts hin hKn hkC e1 hty).to hfs⟩
theorem aw_newa {t : Nat} {ty : FieldType} {atype : ArrayType} {n : Int32} {N : Nat} (hd : decode M.2.1 pc = .ok (.newarray atype, 2)) (hty : newarray.typeOf atype = ty) (ht : aw_TY[t]? = some ty) (hdv : defaultValue ty = .int 0) (hw1 : Cond.arrayClass ty ∈ aw_tbl) (hra : ∀ (U : State) (cA : ClassId), va_RA U cA ty → U.vm.findClass ("[" ++ ty.toString) = some cA) (hn : ¬ n < 0) (hN : n.toNatClampNeg = N) (hbytes : N * componentBytes ty ≤ 536870912) (hcells : cells + 1 ≤ rm.cells) (hslots : slots + N ≤ rm.slots)
    (kk : AW g M rm F (pc + 2) ls (.ref h.length :: st) (h ++ [.inl (t, N, .inl (fun _ => 0))]) (cells + 1) (slots + N)) : AW g M rm F pc ls (.int n :: st) h cells slots := by
  intro p e s m args below meth c C H locs lsA hw hS hl
  subst hty
  have hK := C.2.2.2.2.2.2.2.2.1
  refine va_newaK C.1 C.2.1 (C.2.2.2.2.2.2.2.1 _ hw1) rfl hd rfl hn hN hbytes hcells hslots hw.2 fun H1 cA e1 z1 o1 hAr hNm => ?_
  refine kk p e s m args below meth c C H1 locs lsA ⟨?_, by rw [z1, List.length_append]; rfl⟩ ⟨Nat.le_trans hS.1 (by rw [hw.2, z1]; omega), fun q h1 h2 => (o1 q (by rw [← hw.2]; exact Nat.lt_of_lt_of_le h1 hS.1)).trans (hS.2.1 q h1 h2), hS.2.2⟩ hl
  rw [← aw_W_push]
  refine (hw.1.kept (fun k q hk => o1 q.1 (by rw [← hw.2]; exact (hw.1 k q hk).lt))).app (fun k x hx => ?_)
  have hz : k < 1 := (List.getElem?_eq_some_iff.mp hx).1
  rw [show k = 0 by omega] at hx
  cases hx
  have htt : (aw_tys g)[t]? = some (g.2.2.1 t, newarray.typeOf atype) := by
    unfold aw_tys
    rw [List.getElem?_mapIdx, ht]; rfl
  have hcA : cA = g.2.2.1 t := Option.some.inj (hNm.symm.trans (hra s _ (hK.2 t _ htt).2))
  show H1[aw_lo g + h.length]? = some (vp_cell _ _)
  rw [e1, hcA, vp_cell_i, hdv]
/-! calls -/
theorem aw_after {g : aw_G} {p : Program} {e : Env} {R : Room} {s : State} {m : MethodId} {args : Array Value} {below : List Frame} {meth : Method} {c : Code} {H : Heap} {locs : List Loc} {cells slots mc ms : Nat} {Q : State → Prop} {pc : Nat} {lsA : Array Slot} {st0 rest : List Value} {PostC : Option Value → aw_hp → Prop} {a : Array Value}
    (hr : va_Run p g.1 e R s m args below meth c H locs cells slots mc ms (F0 m pc lsA st0) rest (aw_Q g PostC a) (aw_A g)) (hS : va_S (aw_A g) s.heap H locs)
    (kk : ∀ (r : Option Value) (h1 : aw_hp) (H1 : Heap) (locs1 : List Loc), PostC r h1 → aw_wd g h1 H1 → va_S (aw_A g) s.heap H1 locs1 → W p g.1 e R s m args below meth c H1 locs1 (cells + mc) (slots + ms) Q (F0 m (pc + 3) lsA ((r.map (aw_v g)).toList ++ rest))) : W p g.1 e R s m args below meth c H locs cells slots Q (F0 m pc lsA st0) := by
  intro T hT X
  obtain ⟨v, st₀, t, T', L, h0, X', hL, e1, e2, ⟨⟨r, h1, hv, hp, hw⟩, hz, hk⟩, st⟩ := hr T hT X
  cases hv
  rw [h0] at hz hk
  obtain ⟨t2, a1, b1⟩ := kk r h1 T'.heap (locs ++ L) hp (by rw [e1]; exact hw)
    ⟨Nat.le_trans hS.1 (by rw [e1]; exact hz), fun q h2 h3 => by rw [e1, hk q (Nat.lt_of_lt_of_le h2 hS.1) h3]; exact hS.2.1 q h2 h3, fun q hq => by
      rcases List.mem_append.mp hq with h | h
      · exact hS.2.2 q h
      · exact hL q h⟩ T' rfl X'
  exact ⟨t2, st t2 a1, b1⟩
theorem aw_blind (g : aw_G) (vs : List Value) (h : aw_hp) : FrameBlind (aw_P g vs h) := fun a U gg mk q => ⟨q.1, q.2.1, aw_sf_same (s := U) (U := U.calling gg mk a) rfl rfl q.2.2⟩
theorem aw_pre {g : aw_G} {vs : List Value} {h : aw_hp} {s : State} {H : Heap} {locs : List Loc} (hw : aw_wd g h H) (hsf : aw_sf g s) (hS : va_S (aw_A g) s.heap H locs) (U : State) (hU : U.heap = H) (hW : s.WarmedH U.vm) : aw_P g vs h (vs.map (aw_v g)).toArray U := by
  refine ⟨rfl, by rw [hU]; exact hw, aw_sf_moved hW (fun q h1 h2 => by rw [hU]; exact hS.2.1 q h1 h2) (by rw [hU, hw.2]; exact Nat.le_add_right _ _) hsf⟩
theorem aw_goodIn {M' : aw_M} (hc : Cond.code M'.1 M'.2.1 M'.2.2.1 M'.2.2.2 ∈ aw_tbl) : GoodIn aw_tbl (aw_ws M') := fun w hw => by
  rcases List.mem_cons.mp hw with rfl | h
  · exact ⟨hc, Or.inl rfl⟩
  · exact ⟨h, aw_good w h⟩
/-- a virtual call: entry 'index' of own's pool, on a receiver of the name C, comes to M' with n arguments -/
def aw_cv (own : String) (index : Nat) (C : String) (M' : aw_M) (n : Nat) : Prop := Cond.code M'.1 M'.2.1 M'.2.2.1 M'.2.2.2 ∈ aw_tbl ∧ M'.1.cls ≠ "java/lang/invoke/MethodHandle" ∧ M'.1.cls ≠ "java/lang/invoke/VarHandle" ∧ (parseMethodDescriptor M'.1.desc).map (fun d => d.parameters.length) = some n ∧ Cond.instanceMethod M'.1 ∈ aw_tbl ∧ Cond.initialized M'.1.cls ∈ aw_tbl ∧
  ((Cond.methodLink own index M'.1 ∈ aw_tbl ∧ Cond.selects C M'.1 M'.1 ∈ aw_tbl) ∨ (∃ host, Cond.methodLinkNest own index M'.1 host ∈ aw_nw ∧ Cond.selects C M'.1 M'.1 ∈ aw_tbl) ∨
   ∃ (x : MethodName) (owner : String), Cond.methodLink own index x ∈ aw_tbl ∧ Cond.sameMethod x.cls owner x.name x.desc ∈ aw_tbl ∧ Cond.selects C x M'.1 ∈ aw_tbl ∧ x.desc = M'.1.desc ∧ owner ≠ "java/lang/invoke/MethodHandle" ∧ owner ≠ "java/lang/invoke/VarHandle" ∧ (M'.1 = ⟨owner, x.name, x.desc⟩ ∨ Cond.declares ⟨owner, x.name, x.desc⟩ ∈ aw_nw))
theorem aw_runV {g : aw_G} {M M' : aw_M} {p : Program} {e : Env} {rm : Room} {s : State} {m : MethodId} {args : Array Value} {below : List Frame} {meth : Method} {c : Code} {H : Heap} {locs : List Loc} {cells slots d lc mc ms index : Nat} {C : String} {vr : Value} {b : Nat} {vs rest : List Value} {h : aw_hp} {lsA : Array Slot} {st0 : List Value} {PostC : Option Value → aw_hp → Prop}
    (X : aw_cx g M p s m args meth c) (hd : decode M.2.1 pc = .ok (.invokevirtual index, 3)) (hc : aw_cv M.1.cls index C M' vs.length) (hs : Sp g M' d lc mc ms (vr :: vs) h PostC) (hvr : aw_v g vr = .ref b)
    (hrecv : ∃ cellB : Cell, H[b]? = some cellB ∧ cellB.vm.isStatics = false ∧ s.vm.findClass C = some cellB.cls) (hw : aw_wd g h H) (hS : va_S (aw_A g) s.heap H locs) (hlz : lsA.size = M.2.2.1)
    (hst : st0 = (vs.map (aw_v g)).reverse ++ .ref b :: rest) (hrest : (rest.map fun v => v.category).sum ≤ 8) (hR : d + 1 ≤ rm.frames ∧ 8 + (M'.2.2.1 + 11) + lc ≤ rm.locals) (hf : cells + mc ≤ rm.cells ∧ slots + ms ≤ rm.slots) :
    va_Run p g.1 e rm s m args below meth c H locs cells slots mc ms (F0 m pc lsA st0) rest (aw_Q g PostC (Value.ref b :: vs.map (aw_v g)).toArray) (aw_A g) := by
  obtain ⟨hx, hb, hml, -, -, hown, -, hts, hsf⟩ := X
  obtain ⟨h1, h2, h3, h4, h5, h6, h7⟩ := hc
  have hp : PreV s H C b (aw_P g (vr :: vs) h) (vs.map (aw_v g)) := ⟨aw_blind g _ h, hrecv, fun U hU hW => by
    have := aw_pre (vs := vr :: vs) hw hsf hS U hU hW
    rw [List.map_cons, hvr] at this
    exact this⟩
  have hn : (vs.map (aw_v g)).length = vs.length := List.length_map _
  rcases h7 with ⟨h8, h9⟩ | ⟨host, h8, h9⟩ | ⟨x, owner, h8, h9, h10, h11, h12, h13, h14⟩
  · exact va_runV ⟨hx, hb, hml, hown, hts⟩ hs ⟨callB_of vs.length hts (aw_goodIn h1) rfl rfl rfl (hts _ h6) (hts _ h8) ⟨h2, h3, h4⟩ hR, hts _ h5, hts _ h9⟩ hp rfl hn hlz hst (lv_room hrest) hd hf
  · exact va_runVN (host := host) ⟨hx, hb, hml, hown, hts⟩ hs ⟨va_cnB vs.length hts (aw_goodIn h1) rfl rfl rfl (hsf.2.2.2.2.1 _ h8) (hts _ h6) ⟨h2, h3, h4⟩ hR, hts _ h5, hts _ h9⟩ hp rfl hn hlz hst (lv_room hrest) hd hf
  · have hG : GoodIn aw_tbl (va_wsU M.1.cls index C owner x M'.1 (aw_ws M')) := fun w hw => by
      rcases List.mem_append.mp hw with hw | hw
      · have : w ∈ aw_tbl := by
          simp only [List.mem_cons, List.not_mem_nil, or_false] at hw
          rcases hw with rfl | rfl | rfl | rfl | rfl
          · exact h8
          · exact h9
          · exact h10
          · exact h5
          · exact h6
        exact ⟨this, aw_good w this⟩
      · exact aw_goodIn h1 w hw
    rcases h14 with h14 | h14
    · exact va_runU ⟨hx, hb, hml, hown, hts⟩ hs (va_cwU vs.length hts hG rfl rfl rfl h14 ⟨h12, h13, by rw [h11]; exact h4⟩ hR) hp rfl hn hlz hst (lv_room hrest) hd hf
    · exact va_runU ⟨hx, hb, hml, hown, hts⟩ hs (va_cwA vs.length hts hG rfl rfl rfl (hsf.2.2.2.2.1 _ h14) ⟨h12, h13, by rw [h11]; exact h4⟩ hR) hp rfl hn hlz hst (lv_room hrest) hd hf
theorem aw_sum (g : aw_G) (rest : List Value) : ((rest.map (aw_v g)).map fun v => v.category).sum = (rest.map fun v => v.category).sum := by
  rw [List.map_map]
  congr 1
  apply List.map_congr_left
  intro v _
  exact aw_v_cat g v
theorem aw_stk (g : aw_G) (vs rest : List Value) (v : Value) : (vs.reverse ++ v :: rest).map (aw_v g) = (vs.map (aw_v g)).reverse ++ aw_v g v :: rest.map (aw_v g) := by simp
theorem aw_toL (g : aw_G) (r : Option Value) (rest : List Value) : (r.map (aw_v g)).toList ++ rest.map (aw_v g) = (r.toList ++ rest).map (aw_v g) := by cases r <;> simp
theorem aw_callV {M' : aw_M} {d lc mc ms index a ci : Nat} {C : String} {fs vs rest : List Value} {PostC : Option Value → aw_hp → Prop} (hd : decode M.2.1 pc = .ok (.invokevirtual index, 3)) (hc : aw_cv M.1.cls index C M' vs.length) (hs : Sp g M' d lc mc ms (.ref a :: vs) h PostC) (hcell : h[a]? = some (.inr (ci, fs))) (hci : (vwCl[ci]?).map (fun q => q.1) = some C)
    (hst : st = vs.reverse ++ .ref a :: rest) (hrest : (rest.map fun v => v.category).sum ≤ 8) (hR : d + 1 ≤ rm.frames ∧ 8 + (M'.2.2.1 + 11) + lc ≤ rm.locals) (hf : cells + mc ≤ rm.cells ∧ slots + ms ≤ rm.slots)
    (kk : ∀ (r : Option Value) (h1 : aw_hp), PostC r h1 → AW g M rm F (pc + 3) ls (r.toList ++ rest) h1 (cells + mc) (slots + ms)) : AW g M rm F pc ls st h cells slots := by
  intro p e s m args below meth c X H locs lsA hw hS hl
  subst hst
  rw [aw_stk]
  cases hq : vwCl[ci]? with
  | none => rw [hq] at hci; cases hci
  | some q =>
    rw [hq] at hci
    have hC : q.1 = C := Option.some.inj hci
    have hrecv := va_recv X.2.2.2.2.2.2.2.2.1 hw.1 hq (aw_W_at (g := g) hcell)
    rw [hC] at hrecv
    refine aw_after (aw_runV X hd hc hs rfl hrecv hw hS hl.1 rfl (by rw [aw_sum]; exact hrest) hR hf) hS (fun r h1 H1 locs1 hp hw1 hS1 => ?_)
    rw [aw_toL]
    exact kk r h1 hp p e s m args below meth c X H1 locs1 lsA hw1 hS1 hl
theorem aw_callT {M' : aw_M} {d lc mc ms index i : Nat} {vs rest : List Value} {PostC : Option Value → aw_hp → Prop} (hd : decode M.2.1 pc = .ok (.invokevirtual index, 3)) (hc : aw_cv M.1.cls index "java/lang/String" M' vs.length) (hs : Sp g M' d lc mc ms (.retAddr i :: vs) h PostC) (hi : i < aw_nS)
    (hst : st = vs.reverse ++ .retAddr i :: rest) (hrest : (rest.map fun v => v.category).sum ≤ 8) (hR : d + 1 ≤ rm.frames ∧ 8 + (M'.2.2.1 + 11) + lc ≤ rm.locals) (hf : cells + mc ≤ rm.cells ∧ slots + ms ≤ rm.slots)
    (kk : ∀ (r : Option Value) (h1 : aw_hp), PostC r h1 → AW g M rm F (pc + 3) ls (r.toList ++ rest) h1 (cells + mc) (slots + ms)) : AW g M rm F pc ls st h cells slots := by
  intro p e s m args below meth c X H locs lsA hw hS hl
  subst hst
  rw [aw_stk]
  have hrecv : ∃ cellB : Cell, H[g.2.2.2.1 i]? = some cellB ∧ cellB.vm.isStatics = false ∧ s.vm.findClass "java/lang/String" = some cellB.cls := by
    obtain ⟨cell, h1, h2, h3, -⟩ := (X.2.2.2.2.2.2.2.2.2.2.1 i hi).1.kept hS.2.1
    exact ⟨cell, h1, h2, h3⟩
  refine aw_after (aw_runV X hd hc hs rfl hrecv hw hS hl.1 rfl (by rw [aw_sum]; exact hrest) hR hf) hS (fun r h1 H1 locs1 hp hw1 hS1 => ?_)
  rw [aw_toL]
  exact kk r h1 hp p e s m args below meth c X H1 locs1 lsA hw1 hS1 hl
/-- a call without a receiver -/
def aw_cs (own : String) (index : Nat) (M' : aw_M) (n : Nat) : Prop := Cond.code M'.1 M'.2.1 M'.2.2.1 M'.2.2.2 ∈ aw_tbl ∧ M'.1.cls ≠ "java/lang/invoke/MethodHandle" ∧ M'.1.cls ≠ "java/lang/invoke/VarHandle" ∧ (parseMethodDescriptor M'.1.desc).map (fun d => d.parameters.length) = some n ∧ Cond.static M'.1 ∈ aw_tbl ∧ Cond.initialized M'.1.cls ∈ aw_tbl ∧ (Cond.methodLink own index M'.1 ∈ aw_tbl ∨ ∃ host, Cond.methodLinkNest own index M'.1 host ∈ aw_nw)
theorem aw_callS {M' : aw_M} {d lc mc ms index : Nat} {vs rest : List Value} {PostC : Option Value → aw_hp → Prop} (hd : decode M.2.1 pc = .ok (.invokestatic index, 3)) (hc : aw_cs M.1.cls index M' vs.length) (hs : Sp g M' d lc mc ms vs h PostC)
    (hst : st = vs.reverse ++ rest) (hrest : (rest.map fun v => v.category).sum ≤ 8) (hR : d + 1 ≤ rm.frames ∧ 8 + (M'.2.2.1 + 11) + lc ≤ rm.locals) (hf : cells + mc ≤ rm.cells ∧ slots + ms ≤ rm.slots)
    (kk : ∀ (r : Option Value) (h1 : aw_hp), PostC r h1 → AW g M rm F (pc + 3) ls (r.toList ++ rest) h1 (cells + mc) (slots + ms)) : AW g M rm F pc ls st h cells slots := by
  intro p e s m args below meth c X H locs lsA hw hS hl
  subst hst
  obtain ⟨h1, h2, h3, h4, h5, h6, h7⟩ := hc
  have hp : PreS s H (aw_P g vs h) (vs.map (aw_v g)) := ⟨aw_blind g _ h, fun U hU hW => aw_pre hw X.2.2.2.2.2.2.2.2 hS U hU hW⟩
  have hts := X.2.2.2.2.2.2.2.1
  have hn : (vs.map (aw_v g)).length = vs.length := List.length_map _
  have hr : va_Run p g.1 e rm s m args below meth c H locs cells slots mc ms (F0 m pc lsA ((vs.reverse ++ rest).map (aw_v g))) (rest.map (aw_v g)) (aw_Q g PostC (vs.map (aw_v g)).toArray) (aw_A g) := by
    rcases h7 with h7 | ⟨host, h7⟩
    · exact va_runS ⟨X.1, X.2.1, X.2.2.1, X.2.2.2.2.2.1, hts⟩ hs ⟨callB_of vs.length hts (aw_goodIn h1) rfl rfl rfl (hts _ h6) (hts _ h7) ⟨h2, h3, h4⟩ hR, hts _ h5⟩ hp rfl hn hl.1 (by simp) (lv_room (by rw [aw_sum]; exact hrest)) hd hf
    · exact va_runSN (host := host) ⟨X.1, X.2.1, X.2.2.1, X.2.2.2.2.2.1, hts⟩ hs ⟨va_cnB vs.length hts (aw_goodIn h1) rfl rfl rfl (X.2.2.2.2.2.2.2.2.2.2.2.2.1 _ h7) (hts _ h6) ⟨h2, h3, h4⟩ hR, hts _ h5, trivial⟩ hp rfl hn hl.1 (by simp) (lv_room (by rw [aw_sum]; exact hrest)) hd hf
  refine aw_after hr hS (fun r h1 H1 locs1 hp hw1 hS1 => ?_)
  rw [aw_toL]
  exact kk r h1 hp p e s m args below meth c X H1 locs1 lsA hw1 hS1 hl
/-- a constructor's call -/
def aw_ci (own : String) (index : Nat) (M' : aw_M) (n : Nat) : Prop := Cond.code M'.1 M'.2.1 M'.2.2.1 M'.2.2.2 ∈ aw_tbl ∧ M'.1.cls ≠ "java/lang/invoke/MethodHandle" ∧ M'.1.cls ≠ "java/lang/invoke/VarHandle" ∧ (parseMethodDescriptor M'.1.desc).map (fun d => d.parameters.length) = some n ∧ Cond.instanceMethod M'.1 ∈ aw_tbl ∧ Cond.initialized M'.1.cls ∈ aw_tbl ∧ Cond.methodLink own index M'.1 ∈ aw_tbl ∧ M'.1.name = "<init>" ∧ M'.2.2.2 = none
theorem aw_callI {M' : aw_M} {d lc mc ms index a : Nat} {vs rest : List Value} {PostC : Option Value → aw_hp → Prop} (hd : decode M.2.1 pc = .ok (.invokespecial index, 3)) (hc : aw_ci M.1.cls index M' vs.length) (hs : Sp g M' d lc mc ms (.ref a :: vs) h PostC)
    (hst : st = vs.reverse ++ .ref a :: rest) (hrest : (rest.map fun v => v.category).sum ≤ 8) (hR : d + 1 ≤ rm.frames ∧ 8 + (M'.2.2.1 + 11) + lc ≤ rm.locals) (hf : cells + mc ≤ rm.cells ∧ slots + ms ≤ rm.slots)
    (kk : ∀ (r : Option Value) (h1 : aw_hp), PostC r h1 → AW g M rm F (pc + 3) ls (r.toList ++ rest) h1 (cells + mc) (slots + ms)) : AW g M rm F pc ls st h cells slots := by
  intro p e s m args below meth c X H locs lsA hw hS hl
  subst hst
  rw [aw_stk]
  obtain ⟨h1, h2, h3, h4, h5, h6, h7, h8, h9⟩ := hc
  have hp : PreS s H (aw_P g (.ref a :: vs) h) (.ref (aw_lo g + a) :: vs.map (aw_v g)) := ⟨aw_blind g _ h, fun U hU hW => aw_pre (vs := .ref a :: vs) hw X.2.2.2.2.2.2.2.2 hS U hU hW⟩
  have hts := X.2.2.2.2.2.2.2.1
  have hn : (vs.map (aw_v g)).length = vs.length := List.length_map _
  have cb := callB_of (R := rm) (own := M.1.cls) (index := index) (bytes := M'.2.1) (maxL := M'.2.2.1) (ret := M'.2.2.2) (rm := aw_rm d lc mc ms) (mc := mc) (ms := ms) vs.length hts (aw_goodIn h1) rfl rfl rfl (hts _ h6) (hts _ h7) ⟨h2, h3, h4⟩ hR
  rw [h9] at cb
  refine aw_after (va_runI ⟨X.1, X.2.1, X.2.2.1, X.2.2.2.2.2.1, hts⟩ hs ⟨cb, h8, hts _ h5⟩ hp rfl hn hl.1 rfl (lv_room (by rw [aw_sum]; exact hrest)) hd hf) hS (fun r h1 H1 locs1 hp hw1 hS1 => ?_)
  rw [aw_toL]
  exact kk r h1 hp p e s m args below meth c X H1 locs1 lsA hw1 hS1 hl
/-- Object's own constructor -/
theorem aw_objI {index a : Nat} (hd : decode M.2.1 pc = .ok (.invokespecial index, 3)) (hq : Cond.methodLink M.1.cls index Lib.objectInit ∈ aw_tbl) (hr : (st.map fun v => v.category).sum + 12 ≤ rm.locals) (hf : 1 ≤ rm.frames)
    (k : AW g M rm F (pc + 3) ls st h cells slots) : AW g M rm F pc ls (.ref a :: st) h cells slots := by
  intro p e s m args below meth c C H locs lsA hw hS hl
  have hts := C.2.2.2.2.2.2.2.1
  refine W.objInit (a := aw_lo g + a) C.1 C.2.1 C.2.2.2.2.2.1 (hts _ hq) (hts _ aw_w_oi) (hts _ aw_w_oc) rfl (by rw [C.2.2.1]; exact hl.1) rfl hd hf ?_ (k p e s m args below meth c C H locs lsA hw hS hl)
  rw [aw_sum]
  show 2 * 0 + _ + 12 ≤ _
  omega
end AWR
