theorem ws_tbl {s : State} {args : Array Value} (hts : ∀ w ∈ lw_tbl, w.before args s = true) : ∀ w ∈ aw_tbl, w.before args s = true := by
  intro w hw
  rcases List.mem_append.mp hw with h | h
  · simp only [aw_sels, List.mem_cons, List.not_mem_nil, or_false] at h
    rcases h with rfl | rfl | rfl | rfl | rfl | rfl
    · exact ws_sel (x := ⟨"ResultForms$Commas", "print", "(LResultForms$Table;)V"⟩) (z := ⟨"ResultForms$Lines", "print", "(LResultForms$Table;)V"⟩) (n := 6) ⟨by decide, by decide⟩ rfl (hts _ (by decide +kernel)) (hts _ (by decide +kernel)) (hts _ (by decide +kernel)) (hts _ (by decide +kernel))
    · exact ws_sel (x := ⟨"ResultForms$Commas", "print", "(LResultForms$Table;)V"⟩) (z := ⟨"ResultForms$Lines", "print", "(LResultForms$Table;)V"⟩) (n := 6) ⟨by decide, by decide⟩ rfl (hts _ (by decide +kernel)) (hts _ (by decide +kernel)) (hts _ (by decide +kernel)) (hts _ (by decide +kernel))
    · exact ws_sel (x := ⟨"ResultForms$Commas", "print", "(LResultForms$Table;)V"⟩) (z := ⟨"ResultForms$Lines", "print", "(LResultForms$Table;)V"⟩) (n := 6) ⟨by decide, by decide⟩ rfl (hts _ (by decide +kernel)) (hts _ (by decide +kernel)) (hts _ (by decide +kernel)) (hts _ (by decide +kernel))
    · exact ws_sel (x := ⟨"ResultForms$Tabs", "print", "(LResultForms$Table;)V"⟩) (z := ⟨"ResultForms$Lines", "print", "(LResultForms$Table;)V"⟩) (n := 6) ⟨by decide, by decide⟩ rfl (hts _ (by decide +kernel)) (hts _ (by decide +kernel)) (hts _ (by decide +kernel)) (hts _ (by decide +kernel))
    · exact ws_sel (x := ⟨"ResultForms$Tabs", "print", "(LResultForms$Table;)V"⟩) (z := ⟨"ResultForms$Lines", "print", "(LResultForms$Table;)V"⟩) (n := 6) ⟨by decide, by decide⟩ rfl (hts _ (by decide +kernel)) (hts _ (by decide +kernel)) (hts _ (by decide +kernel)) (hts _ (by decide +kernel))
    · exact ws_sel (x := ⟨"ResultForms$Tabs", "print", "(LResultForms$Table;)V"⟩) (z := ⟨"ResultForms$Lines", "print", "(LResultForms$Table;)V"⟩) (n := 6) ⟨by decide, by decide⟩ rfl (hts _ (by decide +kernel)) (hts _ (by decide +kernel)) (hts _ (by decide +kernel)) (hts _ (by decide +kernel))
  · exact hts w (List.mem_filter.mp h).1
theorem ws_g {p : Program} {s : State} {m : MethodId} {meth : Method} {c : Code} (l : Launch) {b L : Nat} {xs : Nat → Int32} (C0 : lw_At p s m meth c b L xs) : ∃ g : aw_G, g.1 = l ∧ g.2.2.2.1 9999 = b ∧ aw_lo g = s.heap.size ∧ g.2.2.2.2.2.1 = L ∧ aw_sf g s := by
  obtain ⟨hx, hb, hr, hml, hown, hts, hX, hbl, hlocks, hgv⟩ := id C0
  have hta := ws_tbl hts
  have hs : ∀ w ∈ ws_F, w.before #[Value.ref b] s = true := flat_of_before _ hgv
  have hA : ∀ a : Nat, a < s.heap.size → ¬ (fun q : Nat => s.heap.size ≤ q) a := fun a h => Nat.not_le.mpr h
  obtain ⟨c0, i0, k0⟩ := u_known (C := "ResultForms$Bytes") (T := T_By) (N := 3) (n := 3) hta in_By (hta _ nI_By.1)
  obtain ⟨c1, i1, k1⟩ := u_known (C := "ResultForms$Text") (T := T_Tx) (N := 2) (n := 2) hta in_Tx (hta _ nI_Tx.1)
  obtain ⟨c2, i2, k2⟩ := u_known (C := "ResultForms$Terms") (T := T_Te) (N := 5) (n := 5) hta in_Te (hta _ nI_Te.1)
  obtain ⟨c3, i3, k3⟩ := u_known (C := "ResultForms$Table") (T := T_Tb) (N := 5) (n := 5) hta in_Tb (hta _ nI_Tb.1)
  obtain ⟨c4, i4, k4⟩ := u_known (C := "ResultForms$Scanner") (T := T_Sc) (N := 8) (n := 8) hta in_Sc (hta _ nI_Sc.1)
  obtain ⟨c5, i5, k5⟩ := u_known (C := "ResultForms$Json") (T := T_Js) (N := 3) (n := 3) hta in_Js (hta _ nI_Js.1)
  obtain ⟨c6, i6, k6⟩ := u_known (C := "ResultForms$Xml") (T := T_Xm) (N := 3) (n := 3) hta in_Xm (hta _ nI_Xm.1)
  obtain ⟨c7, i7, k7⟩ := u_known (C := "ResultForms$Commas") (T := T_Cm) (N := 6) (n := 6) hta in_Cm (hta _ nI_Cm.1)
  obtain ⟨c8, i8, k8⟩ := u_known (C := "ResultForms$Tabs") (T := T_Ta) (N := 6) (n := 6) hta in_Ta (hta _ nI_Ta.1)
  obtain ⟨c9, i9, k9⟩ := u_known (C := "ResultForms") (T := T_RF) (N := 14) (n := 14) hta in_RF (hta _ nI_RF.1)
  obtain ⟨c10, i10, k10⟩ := u_known (C := "ResultFormsModel") (T := T_Mo) (N := 37) (n := 37) hta in_Mo (hta _ nI_Mo.1)
  obtain ⟨a0, n0, r0⟩ := ws_arr (hts (.arrayClass .int) (by decide +kernel))
  obtain ⟨a1, n1, r1⟩ := ws_arr (hts (.arrayClass .boolean) (by decide +kernel))
  have hst := ws_str (A := fun q : Nat => s.heap.size ≤ q) hs hA
  have hco := va_Zof (A := fun q : Nat => s.heap.size ≤ q) (hts (.laysStatic "java/lang/String" "COMPACT_STRINGS" "Z") (by decide +kernel)) (hts (.initialized "java/lang/String") (by decide +kernel)) (va_eqt (z := 1) (hs _ (List.mem_of_getElem? (i := 4) (by decide +kernel)))) hA
  have hsi := va_Zqof (A := fun q : Nat => s.heap.size ≤ q) (hts (.laysStatic "jdk/internal/util/Preconditions" "SIOOBE_FORMATTER" "Ljava/util/function/BiFunction;") (by decide +kernel)) (hts (.initialized "jdk/internal/util/Preconditions") (by decide +kernel)) (hs _ (List.mem_of_getElem? (i := 5) (by decide +kernel))) hA
  obtain ⟨f, hf⟩ : ∃ f : Nat → Nat × Nat, ∀ i, i < 90 → (ws_tm i).eval #[Value.ref b] s none [] s = some (.ref (f i).1) ∧ va_O "java/lang/String" (f i).1 (fun q : Nat => s.heap.size ≤ q) s s.heap ∧ va_OF "java/lang/String" "coder" "B" (.int 0) (f i).1 (fun q : Nat => s.heap.size ≤ q) s s.heap ∧ va_OF "java/lang/String" "value" "[B" (.ref (f i).2) (f i).1 (fun q : Nat => s.heap.size ≤ q) s s.heap ∧ va_T .byte (f i).2 (aw_len.getD i 0) (fun j => .int ((aw_byt.getD i []).getD j 0)) (fun q : Nat => s.heap.size ≤ q) s s.heap :=
    ⟨fun i => Classical.choose (hst i), fun i => Classical.choose_spec (hst i)⟩
  obtain ⟨t, ht⟩ : ∃ t : Nat, va_Z "jdk/internal/util/Preconditions" "SIOOBE_FORMATTER" "Ljava/util/function/BiFunction;" .null (fun q : Nat => s.heap.size ≤ q) s s.heap ∨ va_Z "jdk/internal/util/Preconditions" "SIOOBE_FORMATTER" "Ljava/util/function/BiFunction;" (.ref t) (fun q : Nat => s.heap.size ≤ q) s s.heap := by
    rcases hsi with h | ⟨t, h⟩
    · exact ⟨0, Or.inl h⟩
    · exact ⟨t, Or.inr h⟩
  obtain ⟨ad, d1, d2, d3, d4⟩ : ∃ ad : Nat → Nat, (∀ i, i < 90 → ad i = (f i).1) ∧ (∀ i, i < 90 → ad (1000 + i) = (f i).2) ∧ ad 8888 = t ∧ ad 9999 = b :=
    ⟨fun k => if k = 9999 then b else if k = 8888 then t else if k < 1000 then (f k).1 else (f (k - 1000)).2, fun i hi => by simp only []; rw [if_neg (by omega), if_neg (by omega), if_pos (by omega)], fun i hi => by simp only []; rw [if_neg (by omega), if_neg (by omega), if_neg (by omega), show 1000 + i - 1000 = i by omega], by simp, by simp⟩
  refine ⟨(l, (fun k => if k = 0 then c0 else if k = 1 then c1 else if k = 2 then c2 else if k = 3 then c3 else if k = 4 then c4 else if k = 5 then c5 else if k = 6 then c6 else if k = 7 then c7 else if k = 8 then c8 else if k = 9 then c9 else c10, fun k => if k = 0 then i0 else if k = 1 then i1 else if k = 2 then i2 else if k = 3 then i3 else if k = 4 then i4 else if k = 5 then i5 else if k = 6 then i6 else if k = 7 then i7 else if k = 8 then i8 else if k = 9 then i9 else i10), (fun k => if k = 0 then a0 else a1), ad, s.heap.size, L, xs), rfl, d4, rfl, rfl, ?_⟩
  refine ⟨⟨?_, ?_⟩, Nat.le_refl _, ?_, ?_, ?_, ?_, ?_, hco, ?_⟩
  · intro k q hq
    match k, hq with
    | 0, hq => cases hq; exact k0
    | 1, hq => cases hq; exact k1
    | 2, hq => cases hq; exact k2
    | 3, hq => cases hq; exact k3
    | 4, hq => cases hq; exact k4
    | 5, hq => cases hq; exact k5
    | 6, hq => cases hq; exact k6
    | 7, hq => cases hq; exact k7
    | 8, hq => cases hq; exact k8
    | 9, hq => cases hq; exact k9
    | 10, hq => cases hq; exact k10
    | k + 11, hq => simp [vwCl] at hq
  · intro k q hq
    match k, hq with
    | 0, hq => cases hq; exact ⟨r0, n0⟩
    | 1, hq => cases hq; exact ⟨r1, n1⟩
    | k + 2, hq => simp [aw_tys, aw_TY] at hq
  · intro i hi
    have h := (hf i hi).2
    show va_O _ (ad i) _ _ _ ∧ va_OF _ _ _ _ (ad i) _ _ _ ∧ va_OF _ _ _ (.ref (ad (1000 + i))) (ad i) _ _ _ ∧ va_T _ (ad (1000 + i)) _ _ _ _ _
    rw [d1 i hi, d2 i hi]
    exact h
  · intro q hq
    obtain ⟨i, hi⟩ := List.getElem?_of_mem hq
    have hlt : i < 90 := by rw [← ws_len]; exact (List.getElem?_eq_some_iff.mp hi).1
    have eg : aw_ldc.getD i ("", 0, "", 0) = q := by rw [List.getD_eq_getElem?_getD, hi]; rfl
    have en : q.2.2.2 = i := by have h := of_decide_eq_true (List.all_eq_true.mp ws_num i (List.mem_range.mpr hlt)); rw [eg] at h; exact h
    have ev := (hf i hlt).1
    have e1 : ws_own i = q.1 := by unfold ws_own; rw [eg]
    have e2 : ws_ix i = q.2.1 := by unfold ws_ix; rw [eg]
    rw [show ws_tm i = .string q.1 q.2.1 by unfold ws_tm; rw [e1, e2]] at ev
    show vk_R q.1 q.2.1 q.2.2.1 (ad q.2.2.2) s
    rw [en, d1 i hlt]
    exact vk_R.of (hts _ (of_decide_eq_true (List.all_eq_true.mp ws_ref q hq))) ev
  · intro w hw
    exact va_Nw.of (aw_nw_on w hw) (hts w (of_decide_eq_true (List.all_eq_true.mp ws_nw w hw)))
  · show va_X (ad 9999) L xs s s.heap
    rw [d4]; exact hX
  · show ad 9999 < s.heap.size
    rw [d4]; exact hbl
  · show va_Z _ _ _ _ _ _ _ ∨ va_Z _ _ _ (.ref (ad 8888)) _ _ _
    rw [d3]; exact ht
theorem whole_start {p : Program} {e : Env} {s : State} {m : MethodId} {below : List Frame} {meth : Method} {c : Code} (l : Launch) {b L : Nat} {xs : Nat → Int32} (hL : L ≤ 2048) (C0 : lw_At p s m meth c b L xs) : W p l e room_1 s m #[Value.ref b] below meth c s.heap [] 0 0 (lw_Z below #[Value.ref b] s) (entryFrame m ([Value.ref b] : List Value).toArray 4) := by
  obtain ⟨g, rfl, rfl, hlo, hLg, hsf⟩ := ws_g l C0
  obtain ⟨hx, hb, hr, hml, hown, hts, hX, hbl, hlocks, hgv⟩ := C0
  have hw : aw_wd g [] s.heap := ⟨fun k q h => by simp [aw_W] at h, by rw [hlo]; rfl⟩
  have K := law_start (nm := meth.name) (g := g) (by rw [hLg]; exact hL) p e s m #[Value.ref (g.2.2.2.1 9999)] below meth c ⟨hx, hb, hml, hr, hlocks, hown, rfl, ws_tbl hts, hsf⟩ s.heap [] _ hw va_S.rf (aw_entry (n := 4) (aw_le rfl))
  rw [lg_entry_eq]
  intro T hT X
  obtain ⟨t, a1, a2⟩ := K T hT X
  exact ⟨t, a1, a2 rfl hlo⟩
set_option maxHeartbeats 4000000 in
theorem lw_walk (l : Launch) (b : Addr) (xs : List Int32) : MetFree l x (headSpec (Jvm.Cond.code x code maxLocals ret :: tables_1) room_1) (lw_P b xs) (fun _ _ _ _ _ => True) lw_Q := by
  refine MetFree.of_bodyS (code := code) (maxLocals := maxLocals) (ret := ret) (by decide) ?_ ?_
  · intro args s m h hn
    obtain ⟨meth, c, h1, h2, h3, h4, h5, h6, -, -⟩ := Cond.code_spec hn (atoms_spec (ws := Jvm.Cond.code x code maxLocals ret :: tables_1) h _ List.mem_cons_self)
    exact ⟨meth, c, h1, h2, h3, h4, h5, h6⟩
  · intro p e s m args below meth c s₁ B hml0 hP _
    obtain ⟨rfl, hx, hbd, hgv⟩ := hP
    obtain ⟨scr, harrAt, hlist, hof, hsmall⟩ := hx
    obtain ⟨hcb, hkn, -, -⟩ := State.arrayAt?_spec harrAt
    have hown : s.vm.findClass R_law = some m.cls := findClass_of_methodNamed B.named
    have hts0 : ∀ c ∈ (Jvm.Cond.code x code maxLocals ret :: tables_1), c.before #[Value.ref b] s = true := atoms_spec (ws := Jvm.Cond.code x code maxLocals ret :: tables_1) B.pre
    have hts : ∀ w ∈ lw_tbl, w.before #[Value.ref b] s = true := k2_hts_sels lw_privs (fun w hw => hts0 w (List.mem_cons_of_mem _ hw)) lw_privs_ok
    have hml : c.maxLocals = 4 := B.maxLocals_eq (hts0 _ List.mem_cons_self)
    have X₀ : Stand p l e room_1 s m #[Value.ref b] below meth c s₁ [] 0 0 := Stand.of_body B
    have hh0 : s₁.heap = s.heap := by rw [B.state]; rfl
    have hsz : scr.slots.size = xs.length := by rw [← Array.length_toList, hlist, List.length_map]
    have hval : ∀ j : Nat, j < xs.length → scr.slots[j]? = some (.int (xs.getD j 0)) := fun j hj => by
      rw [← Array.getElem?_toList, hlist]
      simp [hj]
    have hbl : b < s.heap.size := (Array.getElem?_eq_some_iff.mp hcb).1
    have hX : va_X b xs.length (fun j => xs.getD j 0) s s.heap := ⟨scr, hcb, hof, hkn, hsz, hval⟩
    have K : W p l e room_1 s m #[Value.ref b] below meth c s₁.heap [] 0 0 (lw_Z below #[Value.ref b] s) (entryFrame m ([Value.ref b] : List Value).toArray 4) := by
      rw [hh0]
      exact whole_start l hbd ⟨B.exec, B.bytes, B.returns, hml, hown, hts, hX, hbl, B.notSynchronized, hgv⟩
    obtain ⟨t, a1, o, b1, b2, b3⟩ := K s₁ rfl X₀
    exact ⟨t, o, a1, b1, b2, b3⟩
theorem lw_pre_spec {args : Array Value} {s : State} (h : (Jvm.Cond.and given_1 narrow_1).before args s = true) (hr : rest_1_c.before args s = true) : ∃ (b : Addr) (xs : List Int32), lw_P b xs args s := by
  have hs := flat_of_before _ h
  have hq := flat_of_before _ hr
  have hc : (Cond.count 1).before args s = true := hs _ (by decide +kernel)
  have harr : (Cond.arrayOf (.arg 0) .int).before args s = true := hs _ (by decide +kernel)
  have hle : (Cond.le (.length (.arg 0)) (.int 2048)).before args s = true := hs _ (by decide +kernel)
  have hlen : (Cond.isInt (.length (.arg 0))).before args s = true := hq _ (by decide +kernel)
  have hall : (Cond.all (.arg 0) (.isInt (.elem (.arg 0) (.index 0)))).before args s = true := hq _ (by decide +kernel)
  obtain ⟨b, xs, hb, hx⟩ := State.ints_of_pre rfl harr hlen hall
  have hsm : xs.length < 2 ^ 31 := hx.choose_spec.2.2.2
  have hev : (Term.length (.arg 0)).eval args s none [] s = some (.int xs.length.toInt32) := hx.length_eval hb
  have hv := Cond.le_ints hev (show (Term.int 2048).eval args s none [] s = some (.int 2048) from rfl)
  have hd : xs.length.toInt32 ≤ 2048 := by
    simpa [Cond.before, Cond.holds, hv] using hle
  have hN : xs.length ≤ 2048 := (Int32.ofNat_le_ofNat hsm (by decide)).mp (show Int32.ofNat xs.length ≤ Int32.ofNat 2048 from hd)
  exact ⟨b, xs, Cond.one_arg hc (show args[0]? = some (.ref b) from hb), hx, hN, h⟩
theorem lw_comes (l : Launch) : Comes l x (Jvm.Cond.code x code maxLocals ret :: tables_1) room_1 (fun tb e args s => Calls_1 tb e args s ∧ rest_1 tb e args s ∧ Pre_1 tb e args s)
    (fun _ _ args s o t => lw_Q args s o t) := by
  intro p e ha hc hk s m args below hf hfit hheap happ hpre
  obtain ⟨b, xs, hP⟩ := lw_pre_spec hpre.2.2 hpre.2.1
  obtain ⟨k, o, h1, h2, h3, hQ⟩ := lw_walk l b xs p e ha hc hk s m args below hf ((Spec.applies_iff_loose hf).mp happ).1 hP trivial
  exact ⟨k, o, h1, h2, h3, hQ⟩
theorem lw_frame {s t : State} {o : Outcome} {args : Array Value} (h : Framed s o t [] 56 28789) :
    Framed s o t (fieldLocs frame_1_writes args s ++ arrayLocs frame_1_arrays args s ++ staticLocs frame_1_statics s) 56 28789 := h
theorem lw_limb (L : Cond) (hL : ∀ (args : Array Value) (s t : State), L.after args s (.returned (some (.int 1))) t = true) :
    ArmFor flags0 classFile x code maxLocals ret World_1 tables_1 room_1 Calls_1 rest_1 Pre_1
      (fun tb e a s o t => postC L tb e a s o t ∧ Framed s o t (fieldLocs frame_1_writes a s ++ arrayLocs frame_1_arrays a s ++ staticLocs frame_1_statics s) 56 28789) := by
  intro l _ _ _ p e ha hc hk s m args below hf hfit hheap happ hpre
  obtain ⟨k, o, h1, h2, h3, rfl, hF⟩ := lw_comes l p e ha hc hk s m args below hf hfit hheap happ hpre
  exact ⟨k, _, h1, h2, h3, hL args s _, lw_frame hF⟩
theorem i_vc : Claimed_1_1 ∧ Claimed_1_2 := ⟨lw_limb limb_1_1 (fun args s t => by simp [limb_1_1, Cond.after, Cond.holds, Cond.value]), lw_limb limb_1_2 (fun args s t => Cond.after_iff.mpr (by
  first | (rw [show limb_1_2 = Cond.eq .result (.int 1) from rfl, Cond.eq_ints (x := 1) (y := 1) rfl rfl]; simp; done) | (simp [limb_1_2, Cond.value, Term.eval]; done)))⟩

