theorem Sp.imp {g : aw_G} {M : aw_M} {d lc mc ms : Nat} {vs : List Value} {h : aw_hp} {Post Post' : Option Value → aw_hp → Prop} (hs : Sp g M d lc mc ms vs h Post) (hi : ∀ r h, Post r h → Post' r h) : Sp g M d lc mc ms vs h Post' := by
  intro p e ha hf hc s m args below h1 h2 h3 h4
  obtain ⟨n, o, a1, a2, a3, ⟨⟨⟨r, h, b1, b2, b3⟩, b4⟩, b5⟩⟩ := hs p e ha hf hc s m args below h1 h2 h3 h4
  exact ⟨n, o, a1, a2, a3, ⟨⟨⟨r, h, b1, hi r h b2, b3⟩, b4⟩, b5⟩⟩
/-! THE STORE OF TERMS: number, kinds, extras, lengths, bytes -/
abbrev ts_T : Type := Nat × (Nat → Nat) × (Nat → Nat) × (Nat → Nat) × (Nat → Nat → Int32)
def tsP (E : ts_T) (kd ex : Nat) (L : List Int32) (t : Nat) : Bool := decide (E.2.1 t = kd) && (decide (E.2.2.1 t = ex) && (decide (E.2.2.2.1 t = L.length) && eqB (E.2.2.2.2 t) (fun i => L.getD i 0) L.length 0))
def tsF (E : ts_T) (kd ex : Nat) (L : List Int32) : Option Nat := fdB (tsP E kd ex L) E.1 0
def tsA (E : ts_T) (kd ex : Nat) (L : List Int32) : ts_T := (E.1 + 1, fun t => if t = E.1 then kd else E.2.1 t, fun t => if t = E.1 then ex else E.2.2.1 t, fun t => if t = E.1 then L.length else E.2.2.2.1 t, fun t i => if t = E.1 then L.getD i 0 else E.2.2.2.2 t i)
/-- the number of a term, and the store then -/
def tsI (E : ts_T) (kd ex : Nat) (L : List Int32) : Nat × ts_T := match tsF E kd ex L with
  | some t => (t, E)
  | none => (E.1, tsA E kd ex L)
abbrev fI_T : Type := ts_T × (Nat → Option Nat)
def fI (A : fI_T) (x : it_T) : fI_T := ((tsI A.1 x.2.1 x.2.2.1 x.2.2.2).2, fun k => if k = x.1 then some (tsI A.1 x.2.1 x.2.2.1 x.2.2.2).1 else A.2 k)
def fE (E : ts_T) (s : sq_T) : fI_T := s.foldl fI (E, fun _ => none)
theorem fE_add {E : ts_T} {s : sq_T} {x : it_T} : fE E (s ++ [x]) = fI (fE E s) x := by simp [fE, List.foldl_append]
/-- what is in E0 is in E -/
def tsLe (A E : ts_T) : Prop := A.1 ≤ E.1 ∧ ∀ t, t < A.1 → E.2.1 t = A.2.1 t ∧ E.2.2.1 t = A.2.2.1 t ∧ E.2.2.2.1 t = A.2.2.2.1 t ∧ ∀ i, E.2.2.2.2 t i = A.2.2.2.2 t i
theorem tsLe_rf {E : ts_T} : tsLe E E := ⟨Nat.le_refl _, fun _ _ => ⟨rfl, rfl, rfl, fun _ => rfl⟩⟩
theorem tsLe_tr {A B E : ts_T} (h1 : tsLe A B) (h2 : tsLe B E) : tsLe A E := ⟨Nat.le_trans h1.1 h2.1, fun t ht => by
  obtain ⟨a1, a2, a3, a4⟩ := h1.2 t ht
  obtain ⟨b1, b2, b3, b4⟩ := h2.2 t (by have := h1.1; omega)
  exact ⟨b1.trans a1, b2.trans a2, b3.trans a3, fun i => (b4 i).trans (a4 i)⟩⟩
theorem tsA_le {E : ts_T} {kd ex : Nat} {L : List Int32} : tsLe E (tsA E kd ex L) := ⟨by simp only [tsA]; omega, fun t ht => by
  simp only [tsA]
  refine ⟨if_neg (by omega), if_neg (by omega), if_neg (by omega), fun i => if_neg (by omega)⟩⟩
theorem tsI_le {E : ts_T} {kd ex : Nat} {L : List Int32} : tsLe E (tsI E kd ex L).2 ∧ (tsI E kd ex L).2.1 ≤ E.1 + 1 ∧ (tsI E kd ex L).1 < (tsI E kd ex L).2.1 := by
  simp only [tsI]
  cases h : tsF E kd ex L with
  | some t => exact ⟨tsLe_rf, by simp, by have := (fdB_some h).2.1; simp only; omega⟩
  | none => exact ⟨tsA_le, Nat.le_refl _, Nat.lt_succ_self _⟩
theorem fE_le {E : ts_T} (s : sq_T) : tsLe E (fE E s).1 ∧ (fE E s).1.1 ≤ E.1 + s.length := by
  have h : ∀ (s : sq_T) (A : fI_T), tsLe E A.1 → tsLe E (s.foldl fI A).1 ∧ (s.foldl fI A).1.1 ≤ A.1.1 + s.length := by
    intro s
    induction s with
    | nil => intro A hA; exact ⟨hA, Nat.le_refl _⟩
    | cons x s ih =>
      intro A hA
      have h1 := tsI_le (E := A.1) (kd := x.2.1) (ex := x.2.2.1) (L := x.2.2.2)
      have h2 := ih (fI A x) (tsLe_tr hA h1.1)
      refine ⟨h2.1, ?_⟩
      have h3 : (fI A x).1.1 ≤ A.1.1 + 1 := h1.2.1
      simp only [List.foldl_cons, List.length_cons]
      have := h2.2
      omega
  exact h s (E, fun _ => none) tsLe_rf
theorem fE_lt {E : ts_T} (s : sq_T) : ∀ k t, (fE E s).2 k = some t → t < (fE E s).1.1 := by
  have h : ∀ (s : sq_T) (A : fI_T), (∀ k t, A.2 k = some t → t < A.1.1) → ∀ k t, (s.foldl fI A).2 k = some t → t < (s.foldl fI A).1.1 := by
    intro s
    induction s with
    | nil => intro A hA; exact hA
    | cons x s ih =>
      intro A hA
      refine ih (fI A x) (fun k t hk => ?_)
      have h1 := tsI_le (E := A.1) (kd := x.2.1) (ex := x.2.2.1) (L := x.2.2.2)
      have hk : (if k = x.1 then some (tsI A.1 x.2.1 x.2.2.1 x.2.2.2).1 else A.2 k) = some t := hk
      show t < (tsI A.1 x.2.1 x.2.2.1 x.2.2.2).2.1
      by_cases hx : k = x.1
      · rw [if_pos hx] at hk; cases hk; exact h1.2.2
      · rw [if_neg hx] at hk; have := hA k t hk; have := h1.1.1; omega
  exact h s (E, fun _ => none) (fun k t hk => by cases hk)
theorem fE_no {E : ts_T} (s : sq_T) {m : Nat} (hs : ∀ x ∈ s, x.1 < m) : ∀ k, m ≤ k → (fE E s).2 k = none := by
  have h : ∀ (s : sq_T) (A : fI_T), (∀ x ∈ s, x.1 < m) → (∀ k, m ≤ k → A.2 k = none) → ∀ k, m ≤ k → (s.foldl fI A).2 k = none := by
    intro s
    induction s with
    | nil => intro A _ hA; exact hA
    | cons x s ih =>
      intro A hx hA
      refine ih (fI A x) (fun y hy => hx y (List.mem_cons_of_mem _ hy)) (fun k hk => ?_)
      have := hx x List.mem_cons_self
      show (if k = x.1 then some (tsI A.1 x.2.1 x.2.2.1 x.2.2.2).1 else A.2 k) = none
      rw [if_neg (by omega)]
      exact hA k hk
  exact h s (E, fun _ => none) hs (fun _ _ => rfl)
/-- an item as it may be -/
def itW (x : it_T) : Prop := x.2.1 ≤ 4 ∧ x.2.2.2.length ≤ 20 ∧ x.2.2.1 < 676 ∧ (x.2.1 = 4 → x.2.2.1 < 4) ∧ (x.2.1 < 3 → x.2.2.1 = 0) ∧ x.2.2.2.all pTx = true ∧ okL x.2.1 x.2.2.2 = true
/-- a term as it may be -/
def tmW (E : ts_T) (t : Nat) : Prop := E.2.1 t ≤ 4 ∧ E.2.2.2.1 t ≤ 20 ∧ E.2.2.1 t < 676 ∧ (E.2.1 t = 4 → E.2.2.1 t < 4) ∧ (E.2.1 t < 3 → E.2.2.1 t = 0) ∧ (∀ i, i < E.2.2.2.1 t → pTx (E.2.2.2.2 t i) = true) ∧ okK (E.2.1 t) (E.2.2.2.2 t) (E.2.2.2.1 t) = true
def tsW (E : ts_T) : Prop := ∀ t, t < E.1 → tmW E t
theorem getD_all {L : List Int32} {p : Int32 → Bool} (h : L.all p = true) {i : Nat} (hi : i < L.length) : p (L.getD i 0) = true := by
  have := List.all_eq_true.mp h (L[i]) (List.getElem_mem hi)
  simpa [List.getD, List.getElem?_eq_getElem hi] using this
theorem tsI_W {E : ts_T} (h : tsW E) {x : it_T} (hx : itW x) : tsW (tsI E x.2.1 x.2.2.1 x.2.2.2).2 := by
  simp only [tsI]
  cases hf : tsF E x.2.1 x.2.2.1 x.2.2.2 with
  | some t => exact h
  | none =>
    intro t ht
    have ht : t < E.1 + 1 := ht
    by_cases he : t = E.1
    · obtain ⟨h1, h2, h3, h4, h5, h6, h7⟩ := hx
      simp only [tmW, tsA, if_pos he]
      exact ⟨h1, h2, h3, h4, h5, fun i hi => getD_all h6 hi, h7⟩
    · simp only [tmW, tsA, if_neg he]
      exact h t (by omega)
/-- items below k -/
def itOK (s : sq_T) (k : Nat) : Prop := (s.length ≤ k ∧ s.Pairwise (fun x y => x.1 < y.1)) ∧ ∀ x ∈ s, x.1 < k ∧ itW x
theorem itOK_nil {k : Nat} : itOK [] k := ⟨⟨Nat.zero_le _, List.Pairwise.nil⟩, fun x hx => by cases hx⟩
theorem itOK_mono {s : sq_T} {k m : Nat} (h : itOK s k) (hm : k ≤ m) : itOK s m := ⟨⟨Nat.le_trans h.1.1 hm, h.1.2⟩, fun x hx => ⟨by have := (h.2 x hx).1; omega, (h.2 x hx).2⟩⟩
theorem itOK_add {s : sq_T} {k m : Nat} {x : it_T} (h : itOK s k) (hx : itW x) (h1 : k ≤ x.1) (h2 : x.1 < m) : itOK (s ++ [x]) m := ⟨⟨by have := h.1.1; simp only [List.length_append, List.length_singleton]; omega, List.pairwise_append.mpr ⟨h.1.2, List.pairwise_singleton _ _, fun a ha b hb => by simp only [List.mem_singleton] at hb; subst hb; have := (h.2 a ha).1; omega⟩⟩, fun y hy => by
  rcases List.mem_append.mp hy with q | q
  · exact ⟨by have := (h.2 y q).1; omega, (h.2 y q).2⟩
  · simp only [List.mem_singleton] at q; subst q; exact ⟨h2, hx⟩⟩
theorem fE_W {E : ts_T} (h : tsW E) {s : sq_T} {k : Nat} (hs : itOK s k) : tsW (fE E s).1 := by
  have hg : ∀ (s : sq_T) (A : fI_T), (∀ x ∈ s, itW x) → tsW A.1 → tsW (s.foldl fI A).1 := by
    intro s
    induction s with
    | nil => intro A _ hA; exact hA
    | cons x s ih => intro A hx hA; exact ih (fI A x) (fun y hy => hx y (List.mem_cons_of_mem _ hy)) (tsI_W hA (hx x List.mem_cons_self))
  exact hg s (E, fun _ => none) (fun x hx => (hs.2 x hx).2) h
/-! the class's cells: frame, names of the draft, terms -/
def frC (S D : aw_S) : Prop := (∀ j, j ≠ 904 → j ≠ 1803 → j ≠ 1804 → D.1 j = S.1 j) ∧ ∀ c, c ≠ 10 → c ≠ 11 → c ≠ 12 → c ≠ 13 → c ≠ 19 → c ≠ 20 → c ≠ 21 → D.2 c = S.2 c
theorem frC_rf {S : aw_S} : frC S S := ⟨fun _ _ _ _ => rfl, fun _ _ _ _ _ _ _ _ => rfl⟩
theorem frC_tr {S D F : aw_S} (h1 : frC S D) (h2 : frC D F) : frC S F := ⟨fun j a b c => (h2.1 j a b c).trans (h1.1 j a b c), fun c a1 a2 a3 a4 a5 a6 a7 => (h2.2 c a1 a2 a3 a4 a5 a6 a7).trans (h1.2 c a1 a2 a3 a4 a5 a6 a7)⟩
theorem frC_si {S D : aw_S} {k : Nat} {v : Int32} (h : frC S D) (hk : k = 904 ∨ k = 1803 ∨ k = 1804) : frC S (si D k v) := ⟨fun j a b c => by rw [si_1, if_neg (by omega)]; exact h.1 j a b c, h.2⟩
theorem frC_sa {S D : aw_S} {k : Nat} {f : Nat → Int32} (h : frC S D) (hk : k = 10 ∨ k = 11 ∨ k = 12 ∨ k = 13 ∨ k = 19 ∨ k = 20 ∨ k = 21) : frC S (sa D k f) := ⟨h.1, fun c a1 a2 a3 a4 a5 a6 a7 => by rw [sa_2, if_neg (by omega)]; exact h.2 c a1 a2 a3 a4 a5 a6 a7⟩
theorem frC_TP {S D : aw_S} {n : Nat} {T : Nat → Int32} (h : frC S D) (hc : TPc S n T) : TPc D n T := ⟨(h.1 101 (by decide) (by decide) (by decide)).trans hc.1, hc.2.1, fun i hi => by rw [h.2 2 (by decide) (by decide) (by decide) (by decide) (by decide) (by decide) (by decide)]; exact hc.2.2.1 i hi, hc.2.2.2⟩
def nmC (D : aw_S) (N : nm_T) : Prop := D.1 1803 = nI N.1 ∧ N.1 ≤ 6 ∧ ∀ v, v < N.1 → D.2 20 v = nI (N.2.1 v) ∧ (1 ≤ N.2.1 v ∧ N.2.1 v ≤ 8) ∧ ∀ i, i < N.2.1 v → D.2 19 (v * 8 + i) = N.2.2 v i
def teC (D : aw_S) (E : ts_T) : Prop := (D.1 904 = nI E.1 ∧ E.1 ≤ 204) ∧ ∀ t, t < E.1 → D.2 10 t = nI (E.2.1 t) ∧ D.2 11 t = nI (E.2.2.1 t) ∧ D.2 12 t = nI (E.2.2.2.1 t) ∧ ∀ i, i < E.2.2.2.1 t → D.2 13 (t * 20 + i) = E.2.2.2.2 t i
theorem teC_T {D : aw_S} {E : ts_T} (h : teC D E) (hw : tsW E) : TeI D E.1 E.2.2.2.1 := ⟨h.1.1, h.1.2, fun t ht => ⟨(h.2 t ht).2.2.1, (hw t ht).2.1⟩⟩
theorem nmC_T {D : aw_S} {N : nm_T} (h : nmC D N) {R : Nat} (hr : D.1 1804 = nI R) (h24 : R ≤ 24) : TbI_18 D N.1 R N.2.1 := ⟨h.1, h.2.1, hr, h24, fun v hv => ⟨(h.2.2 v hv).1, (h.2.2 v hv).2.1.2⟩⟩
theorem dnI {a b : Nat} (ha : a < 2147483648) (hb : b < 2147483648) : decide (nI a = nI b) = decide (a = b) := by
  by_cases h : a = b
  · rw [h]; simp
  · rw [decide_eq_false h, decide_eq_false (fun q => h ((nI_eq ha hb).mp q))]
theorem teC_find {D : aw_S} {E : ts_T} (h : teC D E) (hw : tsW E) {kd ex : Nat} {L : List Int32} {f : Nat → Int32} (hk : kd ≤ 4) (he : ex < 676) (hL : L.length ≤ 20) : fdB (tmB (D.2 10) (D.2 11) (D.2 12) (D.2 13) (nI kd) (nI ex) L.length (XA L f)) E.1 0 = tsF E kd ex L := by
  refine fdB_congr (fun t _ ht => ?_)
  have ht : t < E.1 := by omega
  obtain ⟨h1, h2, h3, h4⟩ := h.2 t ht
  obtain ⟨w1, w2, w3, -⟩ := hw t ht
  simp only [tmB, tsP]
  rw [h1, h2, h3, dnI (by omega) (by omega), dnI (by omega) (by omega), dnI (by omega) (by omega)]
  by_cases hl : E.2.2.2.1 t = L.length
  · rw [eqB_congr (f' := E.2.2.2.2 t) (e := XA L f) (e' := fun i => L.getD i 0) (m := L.length) (k := 0) (fun i _ hi => h4 i (by omega)) (fun i _ hi => if_pos (show i < L.length by omega))]
  · rw [decide_eq_false hl, Bool.false_and, Bool.false_and]
theorem teC_fr {D F : aw_S} {E : ts_T} (h : teC D E) (h0 : F.1 904 = D.1 904) (h1 : F.2 10 = D.2 10) (h2 : F.2 11 = D.2 11) (h3 : F.2 12 = D.2 12) (h4 : F.2 13 = D.2 13) : teC F E := by
  refine ⟨⟨h0.trans h.1.1, h.1.2⟩, fun t ht => ?_⟩
  rw [h1, h2, h3, h4]
  exact h.2 t ht
theorem teC_add {D : aw_S} {E : ts_T} (h : teC D E) (hw : tsW E) {kd ex : Nat} {L : List Int32} {BD : Nat → Int32} (h204 : E.1 < 204) (b1 : ∀ i, i < L.length → BD (E.1 * 20 + i) = L.getD i 0) (b2 : ∀ j, j < E.1 * 20 → BD j = D.2 13 j) : teC (si (sa (sa (sa (sa D 10 (upd (D.2 10) E.1 (nI kd))) 11 (upd (D.2 11) E.1 (nI ex))) 12 (upd (D.2 12) E.1 (nI L.length))) 13 BD) 904 (nI (E.1 + 1))) (tsA E kd ex L) := by
  refine ⟨⟨rfl, by simp only [tsA]; omega⟩, fun t ht => ?_⟩
  have ht : t < E.1 + 1 := ht
  show upd (D.2 10) E.1 (nI kd) t = _ ∧ upd (D.2 11) E.1 (nI ex) t = _ ∧ upd (D.2 12) E.1 (nI L.length) t = _ ∧ ∀ i, i < _ → BD (t * 20 + i) = _
  simp only [tsA, upd]
  by_cases he : t = E.1
  · simp only [if_pos he]
    exact ⟨trivial, trivial, trivial, fun i hi => by rw [he]; exact b1 i hi⟩
  · simp only [if_neg he]
    obtain ⟨h1, h2, h3, h4⟩ := h.2 t (by omega)
    have w2 := (hw t (by omega)).2.1
    exact ⟨h1, h2, h3, fun i hi => by rw [b2 _ (by omega)]; exact h4 i hi⟩
theorem nmC_fr {D F : aw_S} {N : nm_T} (h : nmC D N) (h0 : F.1 1803 = D.1 1803) (h1 : F.2 19 = D.2 19) (h2 : F.2 20 = D.2 20) : nmC F N := by
  refine ⟨h0.trans h.1, h.2.1, fun v hv => ?_⟩
  rw [h1, h2]
  exact h.2.2 v hv
theorem nmC_find {D : aw_S} {N : nm_T} (h : nmC D N) {T : Nat → Int32} {a len : Nat} (hl : len < 2147483648) {f : Nat → Int32} (hf : ∀ i, i < len → f i = T (a + i)) : fdB (nmB (D.2 20) (D.2 19) len f) N.1 0 = nmF N T a len := by
  refine fdB_congr (fun v _ hv => ?_)
  have hv : v < N.1 := by omega
  obtain ⟨h1, h2, h3⟩ := h.2.2 v hv
  simp only [nmB]
  rw [h1, dnI (by omega) (by omega)]
  by_cases hl : N.2.1 v = len
  · rw [eqB_congr (f' := N.2.2 v) (e := f) (e' := fun i => T (a + i)) (m := len) (k := 0) (fun i _ hi => h3 i (by omega)) (fun i _ hi => hf i (by omega))]
  · rw [decide_eq_false hl, Bool.false_and, Bool.false_and]
theorem nmC_add {D : aw_S} {N : nm_T} (h : nmC D N) {T : Nat → Int32} {a len : Nat} (h6 : N.1 < 6) (hl1 : 1 ≤ len) (hl8 : len ≤ 8) {ND : Nat → Int32} (b1 : ∀ i, i < len → ND (N.1 * 8 + i) = T (a + i)) (b2 : ∀ j, j < N.1 * 8 → ND j = D.2 19 j) : nmC (si (sa (sa D 20 (upd (D.2 20) N.1 (nI len))) 19 ND) 1803 (nI (N.1 + 1))) (nmA N T a len) := by
  refine ⟨rfl, by simp only [nmA]; omega, fun v hv => ?_⟩
  have hv : v < N.1 + 1 := hv
  show upd (D.2 20) N.1 (nI len) v = _ ∧ _ ∧ ∀ i, i < _ → ND (v * 8 + i) = _
  simp only [nmA, upd]
  by_cases he : v = N.1
  · simp only [if_pos he]
    exact ⟨trivial, ⟨hl1, hl8⟩, fun i hi => by rw [he]; exact b1 i hi⟩
  · simp only [if_neg he]
    obtain ⟨h1, h2, h3⟩ := h.2.2 v (by omega)
    exact ⟨h1, h2, fun i hi => by rw [b2 _ (by omega)]; exact h3 i hi⟩
theorem QC_si {D : aw_S} {p q w l k e z : Int32} {X : Nat → Int32} {j : Nat} {v : Int32} (h : j = 904 ∨ j = 1803 ∨ j = 1804) : si (QC D p q w l k e z X) j v = QC (si D j v) p q w l k e z X := by
  refine s_ext (fun i => ?_) (fun i => rfl)
  simp only [si, upd, QC]
  by_cases hi : i = j
  · rw [if_pos hi, if_neg (by omega), if_neg (by omega), if_neg (by omega), if_neg (by omega), if_neg (by omega), if_neg (by omega), if_neg (by omega), if_pos hi]
  · rw [if_neg hi, if_neg hi]
theorem QC_sa {D : aw_S} {p q w l k e z : Int32} {X : Nat → Int32} {j : Nat} {f : Nat → Int32} (h : j ≠ 28) : sa (QC D p q w l k e z X) j f = QC (sa D j f) p q w l k e z X := by
  refine s_ext (fun i => rfl) (fun i => ?_)
  simp only [sa, va_up, QC]
  by_cases hi : i = j
  · rw [if_pos hi, if_neg (by omega), if_pos hi]
  · rw [if_neg hi, if_neg hi]
/-- the state while rows are read -/
def itC (S : aw_S) (E0 : ts_T) (N : nm_T) (R : Nat) (s : sq_T) (D : aw_S) : Prop := frC S D ∧ nmC D N ∧ (D.1 1804 = nI R ∧ R ≤ 24) ∧ teC D (fE E0 s).1 ∧ ∀ k, k < R * 6 → D.2 21 k = oI ((fE E0 s).2 k)
/-- the state behind a fault -/
def bsC (S : aw_S) (E0 : ts_T) (D : aw_S) : Prop := frC S D ∧ ∃ E, teC D E ∧ tsW E ∧ tsLe E0 E
theorem itC_bs {S D : aw_S} {E0 : ts_T} {N : nm_T} {R : Nat} {s : sq_T} (h : itC S E0 N R s D) (hw : tsW E0) {k : Nat} (hs : itOK s k) : bsC S E0 D := ⟨h.1, _, h.2.2.2.1, fE_W hw hs, (fE_le s).1⟩
/-- the end of a method that answers whether it went, where the draft may have changed -/
def CG {α : Type} (S : aw_S) (E0 : ts_T) (res : Except Nat α) (G : α → aw_hp → Prop) (r : Option Value) (h : aw_hp) : Prop := match res with
  | .ok a => r = some (.int (nI 1)) ∧ G a h
  | .error u => r = some (.int (nI 0)) ∧ ∃ D, bsC S E0 D ∧ CF D u h
theorem CG_ok {α : Type} {S : aw_S} {E0 : ts_T} {a : α} {G : α → aw_hp → Prop} {h : aw_hp} (hg : G a h) : CG S E0 (.ok a) G (some (.int (nI 1))) h := ⟨rfl, hg⟩
theorem CG_er {α : Type} {S D : aw_S} {E0 : ts_T} {u : Nat} {G : α → aw_hp → Prop} {h : aw_hp} (hb : bsC S E0 D) (hf : CF D u h) : CG S E0 (.error u) G (some (.int (nI 0))) h := ⟨rfl, D, hb, hf⟩
/-- what naming a term may change -/
def frT (D F : aw_S) : Prop := (∀ j, j ≠ 904 → F.1 j = D.1 j) ∧ ∀ c, c ≠ 10 → c ≠ 11 → c ≠ 12 → c ≠ 13 → F.2 c = D.2 c
theorem frT_rf {S : aw_S} : frT S S := ⟨fun _ _ => rfl, fun _ _ _ _ _ => rfl⟩
theorem frT_C {S D F : aw_S} (h1 : frC S D) (h2 : frT D F) : frC S F := ⟨fun j a b c => (h2.1 j a).trans (h1.1 j a b c), fun c a1 a2 a3 a4 a5 a6 a7 => (h2.2 c a1 a2 a3 a4).trans (h1.2 c a1 a2 a3 a4 a5 a6 a7)⟩
theorem frT_add {D : aw_S} {a b c d : Nat → Int32} {v : Int32} : frT D (si (sa (sa (sa (sa D 10 a) 11 b) 12 c) 13 d) 904 v) := ⟨fun j h => by rw [si_1, if_neg h]; rfl, fun k h1 h2 h3 h4 => by rw [si_2, sa_2, if_neg h4, sa_2, if_neg h3, sa_2, if_neg h2, sa_2, if_neg h1]⟩
theorem itC_put {S D F : aw_S} {E0 : ts_T} {N : nm_T} {R : Nat} {s : sq_T} {k kd ex : Nat} {L : List Int32} (hI : itC S E0 N R s D) (ht : teC F (tsI (fE E0 s).1 kd ex L).2) (hf : frT D F) : itC S E0 N R (s ++ [(k, kd, ex, L)]) (sa F 21 (upd (F.2 21) k (nI (tsI (fE E0 s).1 kd ex L).1))) := by
  obtain ⟨h1, h2, h3, h4, h5⟩ := hI
  refine ⟨frC_sa (frT_C h1 hf) (by decide), nmC_fr h2 (hf.1 1803 (by decide)) (hf.2 19 (by decide) (by decide) (by decide) (by decide)) (hf.2 20 (by decide) (by decide) (by decide) (by decide)), ⟨(hf.1 1804 (by decide)).trans h3.1, h3.2⟩, ?_, fun j hj => ?_⟩
  · rw [fE_add]; exact teC_fr ht rfl rfl rfl rfl rfl
  · rw [fE_add]
    show upd (F.2 21) k _ j = oI (if j = k then some (tsI (fE E0 s).1 kd ex L).1 else (fE E0 s).2 j)
    simp only [upd]
    by_cases he : j = k
    · rw [if_pos he, if_pos he]; rfl
    · rw [if_neg he, if_neg he, hf.2 21 (by decide) (by decide) (by decide) (by decide)]; exact h5 j hj
theorem itC_row {S D : aw_S} {E0 : ts_T} {N : nm_T} {R : Nat} {s : sq_T} {CD : Nat → Int32} (hI : itC S E0 N R s D) (hs : itOK s (R * 6)) (h24 : R < 24) (b1 : ∀ v, v < 6 → CD (R * 6 + v) = -1) (b2 : ∀ j, j < R * 6 → CD j = D.2 21 j) : itC S E0 N (R + 1) s (sa (si D 1804 (nI (R + 1))) 21 CD) := by
  obtain ⟨h1, h2, h3, h4, h5⟩ := hI
  refine ⟨frC_sa (frC_si h1 (by decide)) (by decide), nmC_fr h2 rfl rfl rfl, ⟨rfl, by omega⟩, teC_fr h4 rfl rfl rfl rfl rfl, fun j hj => ?_⟩
  show CD j = _
  by_cases he : j < R * 6
  · rw [b2 j he]; exact h5 j he
  · rw [fE_no s (fun x hx => (hs.2 x hx).1) j (by omega), show j = R * 6 + (j - R * 6) by omega, b1 _ (by omega)]; rfl
theorem itC_nm {S D : aw_S} {E0 : ts_T} {N : nm_T} {T : Nat → Int32} {a len : Nat} (hI : itC S E0 N 0 [] D) (h6 : N.1 < 6) (hl1 : 1 ≤ len) (hl8 : len ≤ 8) {ND : Nat → Int32} (b1 : ∀ i, i < len → ND (N.1 * 8 + i) = T (a + i)) (b2 : ∀ j, j < N.1 * 8 → ND j = D.2 19 j) : itC S E0 (nmA N T a len) 0 [] (si (sa (sa D 20 (upd (D.2 20) N.1 (nI len))) 19 ND) 1803 (nI (N.1 + 1))) := by
  obtain ⟨h1, h2, h3, h4, h5⟩ := hI
  exact ⟨frC_si (frC_sa (frC_sa h1 (by decide)) (by decide)) (by decide), nmC_add h2 h6 hl1 hl8 b1 b2, h3, teC_fr h4 rfl rfl rfl rfl rfl, fun k hk => by omega⟩
theorem okL_big {kd : Nat} {L : List Int32} (h : 2 ≤ kd) : okL kd L = true := by simp only [okL, okK]; rw [if_neg (by omega), if_neg (by omega)]
theorem nmF_lt {N : nm_T} {T : Nat → Int32} {a len v : Nat} (h : nmF N T a len = some v) : v < N.1 := by have := (fdB_some h).2.1; omega
theorem itC_tm {S D : aw_S} {E0 : ts_T} {N : nm_T} {R k : Nat} {s : sq_T} (hI : itC S E0 N R s D) (h60 : E0.1 ≤ 60) (hs : itOK s k) (hk : k < 144) : (fE E0 s).1.1 < 204 := by have := (fE_le (E := E0) s).2; have := hs.1.1; omega
theorem itC_0 {S D : aw_S} {E0 : ts_T} {N : nm_T} {R : Nat} {s : sq_T} (h : itC S E0 N R s D) : D.1 1803 = nI N.1 ∧ N.1 ≤ 6 ∧ D.1 1804 = nI R ∧ R ≤ 24 := ⟨h.2.1.1, h.2.1.2.1, h.2.2.1.1, h.2.2.1.2⟩
/-! from the draft to the picture -/
def tsO (P : xp_T) : ts_T := (xp_t P, xp_k P, xp_e P, xp_l P, xp_b P)
theorem tsO_W {P : xp_T} (h : xp_wd P) : tsW (tsO P) := fun t ht => h.2.2.2 t ht
/-- the picture out of names, rows, items -/
def pcO (E0 : ts_T) (y : rd_T) : xp_T := ((y.1.1, y.2.1, (fE E0 y.2.2).1.1), y.1.2.1, (fE E0 y.2.2).1.2.1, (fE E0 y.2.2).1.2.2.1, (fE E0 y.2.2).1.2.2.2.1, y.1.2.2, (fE E0 y.2.2).1.2.2.2.2, fun r v => (fE E0 y.2.2).2 (r * 6 + v))
def nm0 : nm_T := (0, fun _ => 0, fun _ _ => 0)
def frR (S F : aw_S) : Prop := (∀ j, j ≠ 101 → j ≠ 102 → j ≠ 904 → j ≠ 1403 → j ≠ 1404 → j ≠ 1803 → j ≠ 1804 → j ≠ 2601 → j ≠ 2602 → j ≠ 2603 → j ≠ 2604 → j ≠ 2605 → j ≠ 2606 → j ≠ 2701 → F.1 j = S.1 j) ∧ ∀ c, c ≠ 10 → c ≠ 11 → c ≠ 12 → c ≠ 13 → c ≠ 15 → c ≠ 16 → c ≠ 17 → c ≠ 19 → c ≠ 20 → c ≠ 21 → c ≠ 28 → F.2 c = S.2 c
/-- the tape made empty -/
def tE (S : aw_S) : aw_S := si (si S 101 (nI 0)) 102 (nI 0)
/-- the base of a reading -/
def rB (S : aw_S) : aw_S := si (si S 1803 (nI 0)) 1804 (nI 0)
theorem rB_TP {S : aw_S} {n : Nat} {T : Nat → Int32} (hc : TPc S n T) : TPc (rB S) n T := hc
theorem rB_I {S : aw_S} {P : xp_T} (h : xp_C S P) (hw : xp_wd P) : itC (rB S) (tsO P) nm0 0 [] (rB S) := by
  refine ⟨frC_rf, ⟨rfl, Nat.zero_le _, fun v hv => by cases hv⟩, ⟨rfl, Nat.zero_le _⟩, ⟨⟨h.1.1, by have := hw.1.2.2; show xp_t P ≤ 204; omega⟩, fun t ht => ?_⟩, fun k hk => by omega⟩
  obtain ⟨h1, h2, h3, h4⟩ := h.2.2.2 t ht
  exact ⟨h1, h2, h3, h4⟩
theorem frR_of {S F : aw_S} {p q w l k e z : Int32} {X : Nat → Int32} (h : frC (rB S) F) : frR S (tE (QC F p q w l k e z X)) := by
  refine ⟨fun j a0 a00 a1 a2 a3 a4 a5 b1 b2 b3 b4 b5 b6 b7 => ?_, fun c a1 a2 a3 a4 a5 a6 a7 a8 a9 b1 b2 => ?_⟩
  · rw [tE, si_1, if_neg a00, si_1, if_neg a0]
    show (if j = 2601 then p else if j = 2602 then q else if j = 2603 then w else if j = 2604 then l else if j = 2605 then k else if j = 2606 then e else if j = 2701 then z else F.1 j) = _
    rw [if_neg b1, if_neg b2, if_neg b3, if_neg b4, if_neg b5, if_neg b6, if_neg b7, h.1 j a1 a4 a5]
    simp only [rB, si_1]
    rw [if_neg a5, if_neg a4]
  · show (if c = 28 then X else F.2 c) = _
    rw [if_neg b2, h.2 c a1 a2 a3 a4 a8 a9 b1]
    rfl
theorem frR_cp {S F : aw_S} {a b c : Nat → Int32} {v w : Int32} (h : frR S F) : frR S (si (si (sa (sa (sa F 15 a) 16 b) 17 c) 1403 v) 1404 w) := by
  refine ⟨fun j a0 a00 a1 a2 a3 a4 a5 b1 b2 b3 b4 b5 b6 b7 => ?_, fun c a1 a2 a3 a4 a5 a6 a7 a8 a9 b1 b2 => ?_⟩
  · rw [si_1, if_neg a3, si_1, if_neg a2]; exact h.1 j a0 a00 a1 a2 a3 a4 a5 b1 b2 b3 b4 b5 b6 b7
  · rw [si_2, si_2, sa_2, if_neg a7, sa_2, if_neg a6, sa_2, if_neg a5]; exact h.2 c a1 a2 a3 a4 a5 a6 a7 a8 a9 b1 b2
theorem frR_te {S F : aw_S} {v : Int32} {G : aw_S} (h : frR S F) (h0 : G.1 904 = v) (h1 : G.2 = F.2) (h2 : ∀ j, j ≠ 904 → G.1 j = F.1 j) : frR S G := by
  refine ⟨fun j a0 a00 a1 a2 a3 a4 a5 b1 b2 b3 b4 b5 b6 b7 => (h2 j a1).trans (h.1 j a0 a00 a1 a2 a3 a4 a5 b1 b2 b3 b4 b5 b6 b7), fun c a1 a2 a3 a4 a5 a6 a7 a8 a9 b1 b2 => ?_⟩
  rw [h1]; exact h.2 c a1 a2 a3 a4 a5 a6 a7 a8 a9 b1 b2
theorem rd_ok {B F : aw_S} {E0 : ts_T} {y : rd_T} {p q w l k e z : Int32} {X A1 A2 A3 : Nat → Int32} (hI : itC B E0 y.1 y.2.1 y.2.2 F) (h1 : ∀ j, j < 48 → A1 j = F.2 19 j) (h2 : ∀ j, j < 6 → A2 j = F.2 20 j) (h3 : ∀ j, j < 144 → A3 j = F.2 21 j) : xp_C (si (si (sa (sa (sa (tE (QC F p q w l k e z X)) 15 A1) 16 A2) 17 A3) 1403 (F.1 1803)) 1404 (F.1 1804)) (pcO E0 y) := by
  obtain ⟨-, i2, i3, i4, i5⟩ := hI
  refine ⟨⟨i4.1.1, i2.1, i3.1⟩, fun v hv => ?_, fun r v hr hv => ?_, fun t ht => ?_⟩
  · have hv : v < y.1.1 := hv
    obtain ⟨j1, j2, j3⟩ := i2.2.2 v hv
    have h6 := i2.2.1
    exact ⟨(h2 v (by omega)).trans j1, fun i hi => by have hi : i < y.1.2.1 v := hi; exact (h1 _ (by omega)).trans (j3 i hi)⟩
  · have hv : v < y.1.1 := hv
    have hr : r < y.2.1 := hr
    have h6 := i2.2.1
    have h24 := i3.2
    exact (h3 _ (by omega)).trans (i5 _ (by omega))
  · exact i4.2 t ht
theorem pcO_wd {B F : aw_S} {E0 : ts_T} {y : rd_T} {k : Nat} (hI : itC B E0 y.1 y.2.1 y.2.2 F) (hw : tsW E0) (hs : itOK y.2.2 k) (h60 : (fE E0 y.2.2).1.1 ≤ 60) : xp_wd (pcO E0 y) := by
  obtain ⟨-, i2, i3, i4, i5⟩ := hI
  refine ⟨⟨i2.2.1, i3.2, h60⟩, fun v hv => (i2.2.2 v hv).2.1, fun r v t hr hv hc => fE_lt y.2.2 _ _ hc, fun t ht => fE_W hw hs t ht⟩
/-- what was in the table and the store before stays -/
theorem rd_no {S F G : aw_S} {P : xp_T} (h : xp_C S P) (hb : bsC (rB S) (tsO P) F) (g0 : G.1 904 = nI (xp_t P)) (g1 : G.1 1403 = F.1 1403) (g2 : G.1 1404 = F.1 1404) (g3 : ∀ c, c ≠ 28 → G.2 c = F.2 c) : xp_C G P := by
  obtain ⟨hf, E, hE, -, hL⟩ := hb
  have f14 : F.1 1403 = S.1 1403 := hf.1 1403 (by decide) (by decide) (by decide)
  have f15 : F.1 1404 = S.1 1404 := hf.1 1404 (by decide) (by decide) (by decide)
  have a : ∀ c, c = 15 ∨ c = 16 ∨ c = 17 → G.2 c = S.2 c := fun c hc => (g3 c (by omega)).trans (hf.2 c (by omega) (by omega) (by omega) (by omega) (by omega) (by omega) (by omega))
  refine ⟨⟨g0, g1.trans (f14.trans h.1.2.1), g2.trans (f15.trans h.1.2.2)⟩, fun v hv => ?_, fun r v hr hv => ?_, fun t ht => ?_⟩
  · rw [a 15 (by decide), a 16 (by decide)]; exact h.2.1 v hv
  · rw [a 17 (by decide)]; exact h.2.2.1 r v hr hv
  · obtain ⟨e1, e2, e3, e4⟩ := hE.2 t (by have := hL.1; have q : xp_t P ≤ E.1 := this; omega)
    obtain ⟨l1, l2, l3, l4⟩ := hL.2 t ht
    rw [g3 10 (by decide), g3 11 (by decide), g3 12 (by decide), g3 13 (by decide)]
    exact ⟨e1.trans (congrArg nI l1), e2.trans (congrArg nI l2), e3.trans (congrArg nI l3), fun i hi => (e4 i (by rw [l3]; exact hi)).trans (l4 i)⟩
theorem QC_of {S : aw_S} : QC S (S.1 2601) (S.1 2602) (S.1 2603) (S.1 2604) (S.1 2605) (S.1 2606) (S.1 2701) (S.2 28) = S := by
  refine s_ext (fun j => ?_) (fun c => ?_)
  · simp only [QC]
    repeat' split
    all_goals first | rfl | (next h => rw [h])
  · simp only [QC]
    split
    · next h => rw [h]
    · rfl
