/-! the end of the reference's reading: items into the store, in order -/
def gE (E : ts_T) (s : sq_T) : Nat → fI_T
  | 0 => (E, fun _ => none)
  | k + 1 => match lkI s k with
    | none => gE E s k
    | some y => fI (gE E s k) (k, y)
theorem lkI_app {s t : sq_T} {k m : Nat} (hs : ∀ x ∈ s, x.1 < m) (ht : ∀ x ∈ t, m ≤ x.1) (hk : k < m) : lkI (s ++ t) k = lkI s k := by
  have h : ∀ (t : sq_T) (f : Nat → Option (Nat × Nat × List Int32)), (∀ x ∈ t, m ≤ x.1) → t.foldl (fun f x => fun k => if k = x.1 then some x.2 else f k) f k = f k := by
    intro t
    induction t with
    | nil => intro f _; rfl
    | cons x t ih =>
      intro f hx
      rw [List.foldl_cons, ih _ (fun y hy => hx y (List.mem_cons_of_mem _ hy))]
      have := hx x List.mem_cons_self
      show (if k = x.1 then some x.2 else f k) = f k
      rw [if_neg (by omega)]
  simp only [lkI, List.foldl_append]
  exact h t _ ht
theorem gE_congr {E : ts_T} {s t : sq_T} : ∀ {k : Nat}, (∀ j, j < k → lkI s j = lkI t j) → gE E s k = gE E t k := by
  intro k
  induction k with
  | zero => intro _; rfl
  | succ k ih => intro h; simp only [gE]; rw [h k (by omega), ih (fun j hj => h j (by omega))]
theorem gE_skip {E : ts_T} {s : sq_T} {k : Nat} : ∀ {m : Nat}, k ≤ m → (∀ j, k ≤ j → j < m → lkI s j = none) → gE E s m = gE E s k := by
  intro m
  induction m with
  | zero => intro h _; rw [show k = 0 by omega]
  | succ m ih =>
    intro h hn
    by_cases hk : k = m + 1
    · rw [hk]
    · simp only [gE]
      rw [hn m (by omega) (by omega)]
      exact ih (by omega) (fun j h1 h2 => hn j h1 (by omega))
theorem gE_fE {E : ts_T} {s : sq_T} (ha : s.Pairwise (fun x y => x.1 < y.1)) : ∀ {m : Nat}, (∀ x ∈ s, x.1 < m) → gE E s m = fE E s := by
  have rev : ∀ (l : sq_T), (l.reverse.Pairwise (fun x y => x.1 < y.1)) → ∀ {m : Nat}, (∀ x ∈ l.reverse, x.1 < m) → gE E l.reverse m = fE E l.reverse := by
    intro l
    induction l with
    | nil =>
      intro _ m _
      exact gE_skip (Nat.zero_le _) (fun j _ _ => rfl)
    | cons x l ih =>
      intro hp m hm
      rw [List.reverse_cons] at hp hm ⊢
      have hpp := List.pairwise_append.mp hp
      have hlt : ∀ y ∈ l.reverse, y.1 < x.1 := fun y hy => hpp.2.2 y hy x (List.mem_singleton_self _)
      have hxm : x.1 < m := hm x (List.mem_append_right _ (List.mem_singleton_self _))
      rw [fE_add, ← ih hpp.1 hlt, gE_skip (k := x.1 + 1) (by omega) (fun j h1 _ => by
        rw [lkI_add, if_neg (by omega)]; exact lkI_no hlt (by omega))]
      simp only [gE]
      rw [lkI_add, if_pos rfl, gE_congr (t := l.reverse) (fun j hj => lkI_app hlt (fun y hy => by simp only [List.mem_singleton] at hy; rw [hy]; exact Nat.le_refl _) hj)]
  intro m hm
  have h := rev s.reverse (by rw [List.reverse_reverse]; exact ha) (m := m) (by rw [List.reverse_reverse]; exact hm)
  rw [List.reverse_reverse] at h
  exact h
theorem gE_le {E : ts_T} {s : sq_T} : ∀ k, (gE E s k).1.1 ≤ (gE E s (k + 1)).1.1 ∧ tsLe E (gE E s k).1 := by
  intro k
  have step : ∀ k, tsLe (gE E s k).1 (gE E s (k + 1)).1 := by
    intro k
    simp only [gE]
    cases lkI s k with
    | none => exact tsLe_rf
    | some y => exact tsI_le.1
  refine ⟨(step k).1, ?_⟩
  induction k with
  | zero => exact tsLe_rf
  | succ k ih => exact tsLe_tr ih (step k)
theorem gE_mono {E : ts_T} {s : sq_T} {k : Nat} : ∀ {m : Nat}, k ≤ m → (gE E s k).1.1 ≤ (gE E s m).1.1 := by
  intro m
  induction m with
  | zero => intro h; rw [show k = 0 by omega]; exact Nat.le_refl _
  | succ m ih =>
    intro h
    by_cases hk : k = m + 1
    · rw [hk]; exact Nat.le_refl _
    · exact Nat.le_trans (ih (by omega)) (gE_le m).1
theorem lkI_mem {s : sq_T} {k : Nat} {y : Nat × Nat × List Int32} : lkI s k = some y → (k, y) ∈ s := by
  have h : ∀ (s : sq_T) (f : Nat → Option (Nat × Nat × List Int32)), s.foldl (fun f x => fun k => if k = x.1 then some x.2 else f k) f k = some y → f k = some y ∨ (k, y) ∈ s := by
    intro s
    induction s with
    | nil => intro f hf; exact Or.inl hf
    | cons x s ih =>
      intro f hf
      rcases ih _ hf with q | q
      · have q : (if k = x.1 then some x.2 else f k) = some y := q
        by_cases hk : k = x.1
        · rw [if_pos hk] at q; cases q; right; rw [hk]; exact List.mem_cons_self
        · rw [if_neg hk] at q; exact Or.inl q
      · exact Or.inr (List.mem_cons_of_mem _ q)
  intro hk
  rcases h s _ hk with q | q
  · cases q
  · exact q
theorem gE_W {E : ts_T} {s : sq_T} (hw : tsW E) (hs : ∀ x ∈ s, itW x) : ∀ k, tsW (gE E s k).1 := by
  intro k
  induction k with
  | zero => exact hw
  | succ k ih =>
    simp only [gE]
    cases hl : lkI s k with
    | none => exact ih
    | some y => exact tsI_W ih (hs _ (lkI_mem hl))
theorem gE_lo {E : ts_T} {s : sq_T} {k : Nat} : ∀ j, k ≤ j → (gE E s k).2 j = none := by
  induction k with
  | zero => intro j _; rfl
  | succ k ih =>
    intro j hj
    simp only [gE]
    cases lkI s k with
    | none => exact ih j (by omega)
    | some y =>
      show (if j = k then some _ else (gE E s k).2 j) = none
      rw [if_neg (by omega)]
      exact ih j (by omega)
theorem gE_ke {E : ts_T} {s : sq_T} {k : Nat} : ∀ j, j < k → (gE E s (k + 1)).2 j = (gE E s k).2 j := by
  intro j hj
  simp only [gE]
  cases lkI s k with
  | none => rfl
  | some y => exact if_neg (by omega)
def teM (D : aw_S) (E : ts_T) : Prop := D.1 3306 = nI E.1 ∧ ∀ t, t < E.1 → D.2 37 t = nI (E.2.1 t) ∧ D.2 38 t = nI (E.2.2.1 t) ∧ D.2 39 t = nI (E.2.2.2.1 t) ∧ ∀ i, i < E.2.2.2.1 t → D.2 40 (t * 20 + i) = E.2.2.2.2 t i
theorem teM_find {D : aw_S} {E : ts_T} (h : teM D E) (hw : tsW E) {kd ex : Nat} {L : List Int32} {X : Nat → Int32} (hX : ∀ i, i < L.length → X i = L.getD i 0) (hk : kd ≤ 4) (he : ex < 676) (hL : L.length ≤ 20) : fdB (tmB (D.2 37) (D.2 38) (D.2 39) (D.2 40) (nI kd) (nI ex) L.length X) E.1 0 = tsF E kd ex L := by
  refine fdB_congr (fun t _ ht => ?_)
  have ht : t < E.1 := by omega
  obtain ⟨h1, h2, h3, h4⟩ := h.2 t ht
  obtain ⟨w1, w2, w3, -⟩ := hw t ht
  simp only [tmB, tsP]
  rw [h1, h2, h3, dnI (by omega) (by omega), dnI (by omega) (by omega), dnI (by omega) (by omega)]
  by_cases hl : E.2.2.2.1 t = L.length
  · rw [eqB_congr (f' := E.2.2.2.2 t) (e := X) (e' := fun i => L.getD i 0) (m := L.length) (k := 0) (fun i _ hi => h4 i (by omega)) (fun i _ hi => hX i (by omega))]
  · rw [decide_eq_false hl, Bool.false_and, Bool.false_and]
theorem teM_fr {D F : aw_S} {E : ts_T} (h : teM D E) (h0 : F.1 3306 = D.1 3306) (h1 : F.2 37 = D.2 37) (h2 : F.2 38 = D.2 38) (h3 : F.2 39 = D.2 39) (h4 : F.2 40 = D.2 40) : teM F E := by
  refine ⟨h0.trans h.1, fun t ht => ?_⟩
  rw [h1, h2, h3, h4]
  exact h.2 t ht
theorem teM_add {D : aw_S} {E : ts_T} (h : teM D E) (hw : tsW E) {kd ex : Nat} {L : List Int32} {BD : Nat → Int32} (b1 : ∀ i, i < L.length → BD (E.1 * 20 + i) = L.getD i 0) (b2 : ∀ j, j < E.1 * 20 → BD j = D.2 40 j) : teM (si (sa (sa (sa (sa D 37 (upd (D.2 37) E.1 (nI kd))) 38 (upd (D.2 38) E.1 (nI ex))) 39 (upd (D.2 39) E.1 (nI L.length))) 40 BD) 3306 (nI (E.1 + 1))) (tsA E kd ex L) := by
  refine ⟨rfl, fun t ht => ?_⟩
  have ht : t < E.1 + 1 := ht
  show upd (D.2 37) E.1 (nI kd) t = _ ∧ upd (D.2 38) E.1 (nI ex) t = _ ∧ upd (D.2 39) E.1 (nI L.length) t = _ ∧ ∀ i, i < _ → BD (t * 20 + i) = _
  simp only [tsA, upd]
  by_cases he : t = E.1
  · simp only [if_pos he]
    exact ⟨trivial, trivial, trivial, fun i hi => by rw [he]; exact b1 i hi⟩
  · simp only [if_neg he]
    obtain ⟨h1, h2, h3, h4⟩ := h.2 t (by omega)
    have w2 := (hw t (by omega)).2.1
    exact ⟨h1, h2, h3, fun i hi => by rw [b2 _ (by omega)]; exact h4 i hi⟩
/-- what the end of a reading may change -/
def frJ (F W : aw_S) : Prop := (∀ j, j ≠ 3306 → j ≠ 3334 → W.1 j = F.1 j) ∧ ∀ c, c ≠ 37 → c ≠ 38 → c ≠ 39 → c ≠ 40 → c ≠ 54 → c ≠ 55 → W.2 c = F.2 c
theorem frJ_rf {F : aw_S} : frJ F F := ⟨fun _ _ _ => rfl, fun _ _ _ _ _ _ _ => rfl⟩
theorem frJ_tr {F W V : aw_S} (h1 : frJ F W) (h2 : frJ W V) : frJ F V := ⟨fun j a b => (h2.1 j a b).trans (h1.1 j a b), fun c a1 a2 a3 a4 a5 a6 => (h2.2 c a1 a2 a3 a4 a5 a6).trans (h1.2 c a1 a2 a3 a4 a5 a6)⟩
theorem frJ_si {F W : aw_S} {k : Nat} {v : Int32} (h : frJ F W) (hk : k = 3306 ∨ k = 3334) : frJ F (si W k v) := ⟨fun j a b => by rw [si_1, if_neg (by omega)]; exact h.1 j a b, h.2⟩
theorem frJ_sa {F W : aw_S} {k : Nat} {f : Nat → Int32} (h : frJ F W) (hk : k = 37 ∨ k = 38 ∨ k = 39 ∨ k = 40 ∨ k = 54 ∨ k = 55) : frJ F (sa W k f) := ⟨h.1, fun c a1 a2 a3 a4 a5 a6 => by rw [sa_2, if_neg (by omega)]; exact h.2 c a1 a2 a3 a4 a5 a6⟩
/-- the state while the items come into the store -/
def jM (F : aw_S) (E0 : ts_T) (s : sq_T) (k : Nat) (W : aw_S) : Prop := frJ F W ∧ teM W (gE E0 s k).1 ∧ (gE E0 s k).1.1 ≤ 60 ∧ ∀ j, j < k → W.2 55 j = oI ((gE E0 s k).2 j)
/-- what was read, in the state F -/
def itF (N : nm_T) (R : Nat) (s : sq_T) (F : aw_S) : Prop := nmM F N ∧ (F.1 3326 = nI R ∧ R ≤ 24) ∧ (∀ k, k < R * 6 → clM F k (lkI s k)) ∧ ∀ x ∈ s, x.1 % 6 < N.1
theorem jM_no {F W : aw_S} {E0 : ts_T} {s : sq_T} {k : Nat} (h : jM F E0 s k W) (hl : lkI s k = none) : jM F E0 s (k + 1) (sa W 55 (upd (W.2 55) k (-1))) := by
  have e : gE E0 s (k + 1) = gE E0 s k := by simp only [gE]; rw [hl]
  refine ⟨frJ_sa h.1 (by decide), ?_, ?_, fun j hj => ?_⟩
  · rw [e]; exact teM_fr h.2.1 rfl rfl rfl rfl rfl
  · rw [e]; exact h.2.2.1
  · rw [e]
    show upd (W.2 55) k (-1) j = _
    simp only [upd]
    by_cases hj2 : j = k
    · rw [if_pos hj2, gE_lo j (by omega)]; rfl
    · rw [if_neg hj2]; exact h.2.2.2 j (by omega)
theorem jM_so {F W V : aw_S} {E0 : ts_T} {s : sq_T} {k : Nat} {y : Nat × Nat × List Int32} (h : jM F E0 s k W) (hl : lkI s k = some y) (hf : frJ W V) (ho : ∀ j, j < k → V.2 55 j = W.2 55 j) (ht : teM V (tsI (gE E0 s k).1 y.1 y.2.1 y.2.2).2) (h60 : (tsI (gE E0 s k).1 y.1 y.2.1 y.2.2).2.1 ≤ 60) : jM F E0 s (k + 1) (sa V 55 (upd (V.2 55) k (nI (tsI (gE E0 s k).1 y.1 y.2.1 y.2.2).1))) := by
  have e : gE E0 s (k + 1) = fI (gE E0 s k) (k, y) := by simp only [gE]; rw [hl]
  refine ⟨frJ_sa (frJ_tr h.1 hf) (by decide), ?_, ?_, fun j hj => ?_⟩
  · rw [e]; exact teM_fr ht rfl rfl rfl rfl rfl
  · rw [e]; exact h60
  · rw [e]
    show upd (V.2 55) k _ j = oI (if j = k then some _ else (gE E0 s k).2 j)
    simp only [upd]
    by_cases hj2 : j = k
    · rw [if_pos hj2, if_pos hj2]; rfl
    · rw [if_neg hj2, if_neg hj2, ho j (by omega)]; exact h.2.2.2 j (by omega)
def frN (S F : aw_S) : Prop := (∀ j, j ≠ 3300 → j ≠ 3306 → j ≠ 3311 → j ≠ 3314 → j ≠ 3323 → j ≠ 3326 → j ≠ 3331 → j ≠ 3332 → j ≠ 3333 → j ≠ 3334 → F.1 j = S.1 j) ∧ ∀ c, c ≠ 37 → c ≠ 38 → c ≠ 39 → c ≠ 40 → c ≠ 41 → c ≠ 42 → c ≠ 43 → c ≠ 48 → c ≠ 49 → c ≠ 50 → c ≠ 51 → c ≠ 52 → c ≠ 53 → c ≠ 54 → c ≠ 55 → F.2 c = S.2 c
def nT (S : aw_S) : aw_S := si S 3300 (nI 0)
theorem frN_of {S F : aw_S} {a q f z : Int32} {X : Nat → Int32} (h : frM S F) : frN S (nT (QM F a q f z X)) := by
  refine ⟨fun j a0 a1 a2 a3 a4 a5 b1 b2 b3 b4 => ?_, fun c a1 a2 a3 a4 a5 a6 a7 b1 b2 b3 b4 b5 b6 c1 c2 => ?_⟩
  · rw [nT, si_1, if_neg a0]
    show (if j = 3331 then a else if j = 3332 then q else if j = 3333 then f else if j = 3334 then z else F.1 j) = _
    rw [if_neg b1, if_neg b2, if_neg b3, if_neg b4]
    exact h.1 j a4 a5
  · show (if c = 54 then X else F.2 c) = _
    rw [if_neg c1]
    exact h.2 c b1 b2 b3 b4 b5 b6
theorem frN_J {S F W : aw_S} (h1 : frN S F) (h2 : frJ F W) : frN S W := ⟨fun j a0 a1 a2 a3 a4 a5 b1 b2 b3 b4 => (h2.1 j a1 b4).trans (h1.1 j a0 a1 a2 a3 a4 a5 b1 b2 b3 b4), fun c a1 a2 a3 a4 a5 a6 a7 b1 b2 b3 b4 b5 b6 c1 c2 => (h2.2 c a1 a2 a3 a4 c1 c2).trans (h1.2 c a1 a2 a3 a4 a5 a6 a7 b1 b2 b3 b4 b5 b6 c1 c2)⟩
theorem frN_cp {S F : aw_S} {a b c : Nat → Int32} {v w : Int32} (h : frN S F) : frN S (sa (sa (sa (si (si F 3311 v) 3314 w) 41 a) 42 b) 43 c) := by
  refine ⟨fun j a0 a1 a2 a3 a4 a5 b1 b2 b3 b4 => ?_, fun k a1 a2 a3 a4 a5 a6 a7 b1 b2 b3 b4 b5 b6 c1 c2 => ?_⟩
  · rw [sa_1, sa_1, sa_1, si_1, if_neg a3, si_1, if_neg a2]; exact h.1 j a0 a1 a2 a3 a4 a5 b1 b2 b3 b4
  · rw [sa_2, if_neg a7, sa_2, if_neg a6, sa_2, if_neg a5, si_2, si_2]; exact h.2 k a1 a2 a3 a4 a5 a6 a7 b1 b2 b3 b4 b5 b6 c1 c2
theorem im_F {S F : aw_S} {N : nm_T} {R : Nat} {s : sq_T} {a q f z : Int32} {X : Nat → Int32} (h : imC S N R s F) : itF N R s (nT (QM F a q f z X)) := by
  obtain ⟨h1, h2, h3, h4, h5, h6⟩ := h
  refine ⟨h2, h4, fun k hk => ?_, h6⟩
  have q := h5 k hk
  revert q
  cases lkI s k with
  | none => intro q; exact q
  | some y => intro q; exact q
/-- the picture at the end -/
theorem rm_ok {W F : aw_S} {E0 : ts_T} {N : nm_T} {R k : Nat} {s : sq_T} {NS NB CE : Nat → Int32} (hj : jM F E0 s (R * 6) W) (hF : itF N R s F) (hs : itOK s (R * 6)) (b1 : ∀ v, v < N.1 → NS v = nI (N.2.1 v) ∧ ∀ i, i < N.2.1 v → NB (v * 8 + i) = N.2.2 v i) (b2 : ∀ j, j < R * 6 → CE j = W.2 55 j) : xp_M (sa (sa (sa (si (si W 3311 (nI N.1)) 3314 (nI R)) 41 NS) 42 NB) 43 CE) (pcO E0 (N, R, s)) ∧ (fE E0 s).1.1 ≤ 60 := by
  have e : gE E0 s (R * 6) = fE E0 s := gE_fE hs.1.2 (fun x hx => (hs.2 x hx).1)
  obtain ⟨-, j2, j3, j4⟩ := hj
  rw [e] at j2 j3 j4
  refine ⟨⟨⟨j2.1, rfl, rfl⟩, b1, fun r v hr hv => ?_, fun t ht => j2.2 t ht⟩, j3⟩
  have hv : v < N.1 := hv
  have hr : r < R := hr
  have h6 := hF.1.2.1
  show CE (r * 6 + v) = oI ((fE E0 s).2 (r * 6 + v))
  rw [b2 _ (by omega)]
  exact j4 _ (by omega)
theorem rm_no {S G F : aw_S} {P : xp_T} (h : xp_M S P) (hf : frN S G) (g1 : G.1 3311 = S.1 3311) (g2 : G.1 3314 = S.1 3314) (g3 : G.2 41 = S.2 41) (g4 : G.2 42 = S.2 42) (g5 : G.2 43 = S.2 43) {E : ts_T} (hE : ∀ t, t < E.1 → G.2 37 t = nI (E.2.1 t) ∧ G.2 38 t = nI (E.2.2.1 t) ∧ G.2 39 t = nI (E.2.2.2.1 t) ∧ ∀ i, i < E.2.2.2.1 t → G.2 40 (t * 20 + i) = E.2.2.2.2 t i) (hL : tsLe (tsO P) E) (g0 : G.1 3306 = nI (xp_t P)) : xp_M G P := by
  refine ⟨⟨g0, g1.trans h.1.2.1, g2.trans h.1.2.2⟩, fun v hv => ?_, fun r v hr hv => ?_, fun t ht => ?_⟩
  · rw [g3, g4]; exact h.2.1 v hv
  · rw [g5]; exact h.2.2.1 r v hr hv
  · obtain ⟨e1, e2, e3, e4⟩ := hE t (by have q : xp_t P ≤ E.1 := hL.1; omega)
    obtain ⟨l1, l2, l3, l4⟩ := hL.2 t ht
    exact ⟨e1.trans (congrArg nI l1), e2.trans (congrArg nI l2), e3.trans (congrArg nI l3), fun i hi => (e4 i (by rw [l3]; exact hi)).trans (l4 i)⟩
theorem sp_noteD {g : aw_G} {W : aw_S} {E : ts_T} {kd ex : Nat} {L : List Int32} (ht : teM W E) (hw : tsW E) (h60 : E.1 ≤ 60) (hz : W.1 3334 = nI L.length) (hX : ∀ i, i < L.length → W.2 54 i = L.getD i 0) (hk : kd ≤ 4) (he : ex < 676) (hL : L.length ≤ 20) : Sp g M_Mo_note 1 25 0 0 [.ref 33, .int (nI kd), .int (nI ex)] (HP W) (fun r h => r = some (.int (nI (tsI E kd ex L).1)) ∧ ∃ V, frJ W V ∧ V.2 55 = W.2 55 ∧ teM V (tsI E kd ex L).2 ∧ h = HP V) := by
  have hT : TmI W E.1 E.2.2.2.1 := ⟨ht.1, h60, fun t q => ⟨(ht.2 t q).2.2.1, (hw t q).2.1⟩⟩
  have hF := teM_find ht hw (L := L) (X := W.2 54) hX hk he hL
  cases hx : tsF E kd ex L with
  | some t =>
    rw [hx] at hF
    have q1 := sp_Mo_noteS (g := g) hT (n := L.length) hz hL hF
    rw [show tsI E kd ex L = (t, E) by simp only [tsI, hx]]
    exact Sp.imp q1 (fun r h hr => ⟨hr.1, W, frJ_rf, rfl, ht, hr.2⟩)
  | none =>
    rw [hx] at hF
    have q1 := sp_Mo_noteN (g := g) hT (n := L.length) hz hL hF
    rw [show tsI E kd ex L = (E.1, tsA E kd ex L) by simp only [tsI, hx]]
    refine Sp.imp q1 (fun r h hr => ?_)
    obtain ⟨h1, BD, h2, b1, b2⟩ := hr
    exact ⟨h1, _, frJ_si (frJ_sa (frJ_sa (frJ_sa (frJ_sa frJ_rf (by decide)) (by decide)) (by decide)) (by decide)) (by decide), rfl, teM_add ht hw (BD := BD) (fun i hi => (b1 i hi).trans (hX i hi)) b2, h2⟩
/-- the end of a reading on the reference's side -/
def rdM (S : aw_S) (P : xp_T) (res : Except Nat rd_T) (r : Option Value) (h : aw_hp) : Prop := match res with
  | .ok y => (((fE (tsO P) y.2.2).1.1 ≤ 60 ∧ r = some (.int (nI y.2.1)) ∧ ∃ F, h = HP F ∧ F.1 3300 = nI 0 ∧ xp_M F (pcO (tsO P) y) ∧ frN S F) ∨ (60 < (fE (tsO P) y.2.2).1.1 ∧ r = some (.int (-3)) ∧ ∃ F, h = HP F ∧ F.1 3300 = nI 0 ∧ xp_M F P ∧ frN S F))
  | .error u => r = some (.int (-10 - nI u)) ∧ ∃ F, h = HP F ∧ F.1 3300 = nI 0 ∧ xp_M F P ∧ frN S F
def mB (S : aw_S) : aw_S := si (si S 3323 (nI 0)) 3326 (nI 0)
theorem mB_TP {S : aw_S} {n : Nat} {T : Nat → Int32} (hc : TPm S n T) : TPm (mB S) n T := hc
theorem mB_I {S : aw_S} : imC (mB S) nm0 0 [] (mB S) := ⟨frM_rf, ⟨rfl, Nat.zero_le _, fun v hv => (by cases hv)⟩, fun v w _ hw => (by cases hw), ⟨rfl, Nat.zero_le _⟩, fun k hk => (by omega), fun x hx => (by cases hx)⟩
theorem frM_N {S F : aw_S} {a q f z : Int32} {X : Nat → Int32} (h : frM (mB S) F) : frN S (nT (QM F a q f z X)) := by
  have q := frN_of (a := a) (q := q) (f := f) (z := z) (X := X) h
  exact ⟨fun j a0 a1 a2 a3 a4 a5 b1 b2 b3 b4 => (q.1 j a0 a1 a2 a3 a4 a5 b1 b2 b3 b4).trans (by simp only [mB, si_1]; rw [if_neg a5, if_neg a4]), q.2⟩
set_option maxRecDepth 20000 in
theorem sp_mbegin {g : aw_G} {S : aw_S}  : Sp g M_Mo_begin 0 0 0 0 [.ref 33] (HP S) (fun r h => r = none ∧ h = HP (QM (mB S) (nI 0) (-1) (S.1 3333) (S.1 3334) (S.2 54))) := by
  refine Sp.of rfl (aw_le rfl) ?_
  refine aw_aload_n (aw_d q_Mo_begin 0 rfl) rfl rfl rfl ?_
  refine aw_iconst (v := nI 0) (aw_d q_Mo_begin 1 rfl) (by decide) ?_
  refine wi_33_31 (aw_d q_Mo_begin 2 rfl) pL_Mo_324_Mo ?_
  refine aw_aload_n (aw_d q_Mo_begin 3 rfl) rfl rfl rfl ?_
  refine aw_iconst (v := (-1)) (aw_d q_Mo_begin 4 rfl) (by decide) ?_
  refine wi_33_32 (aw_d q_Mo_begin 5 rfl) pL_Mo_77_Mo ?_
  refine aw_aload_n (aw_d q_Mo_begin 6 rfl) rfl rfl rfl ?_
  refine aw_iconst (v := nI 0) (aw_d q_Mo_begin 7 rfl) (by decide) ?_
  refine wi_33_23 (aw_d q_Mo_begin 8 rfl) pL_Mo_349_Mo ?_
  refine aw_aload_n (aw_d q_Mo_begin 9 rfl) rfl rfl rfl ?_
  refine aw_iconst (v := nI 0) (aw_d q_Mo_begin 10 rfl) (by decide) ?_
  refine wi_33_26 (aw_d q_Mo_begin 11 rfl) pL_Mo_375_Mo ?_
  exact aw_vret (aw_d q_Mo_begin 12 rfl) rfl (⟨rfl, rfl⟩)
set_option maxRecDepth 20000 in
theorem sp_faulty {g : aw_G} {S : aw_S} {u : Nat} {a f z : Int32} {X : Nat → Int32}  : Sp g M_Mo_faulty 0 0 0 0 [.ref 33] (HP (QM S a (nI u) f z X)) (fun r h => r = some (.int (-10 - nI u)) ∧ h = HP (nT (QM S a (nI u) f z X))) := by
  refine Sp.of rfl (aw_le rfl) ?_
  refine aw_aload_n (aw_d q_Mo_faulty 0 rfl) rfl rfl rfl ?_
  refine aw_iconst (v := nI 0) (aw_d q_Mo_faulty 1 rfl) (by decide) ?_
  refine wi_33_0 (aw_d q_Mo_faulty 2 rfl) pL_Mo_85_Mo ?_
  refine aw_bipush (v := (-10)) (aw_d q_Mo_faulty 3 rfl) (by decide) ?_
  refine aw_aload_n (aw_d q_Mo_faulty 4 rfl) rfl rfl rfl ?_
  refine aw_getf (v := .int (nI (u))) (aw_d q_Mo_faulty 5 rfl) fL_Mo_77_Mo rfl (gk rfl) ?_
  refine aw_isub (aw_d q_Mo_faulty 6 rfl) ?_
  exact aw_iret (aw_d q_Mo_faulty 7 rfl) rfl (⟨rfl, rfl⟩)
set_option maxRecDepth 20000 in
theorem lp_rc {g : aw_G} {S : aw_S} {P : xp_T} {N : nm_T} {R : Nat} {s : sq_T} {F W : aw_S} {x1 : Int32} (hW : xp_wd P) (hF : itF N R s F) (hs : itOK s (R * 6)) (hfr : frN S F) (f0 : F.1 3300 = nI 0) (hj : jM F (tsO P) s (R * 6) W) {NS NB : Nat → Int32} (hb1 : (∀ v, v < N.1 → NS v = nI (N.2.1 v) ∧ ∀ i, i < N.2.1 v → NB (v * 8 + i) = N.2.2 v i)) {res : Except Nat rd_T} (hres : res = .ok (N, R, s)) {x4 x5 : Option Value} : ∀ (m k : Nat) (CE : Nat → Int32), m + k = R * 6 → (∀ j, j < k → CE j = W.2 55 j) → AW g M_Mo_read (aw_rm 7 158 0 0) (aw_F g 0 0 (rdM S P res)) 305 [some (.ref 33), some (.int x1), some (.int (nI (xp_t P))), some (.int (nI k)), x4, x5] [] (HP (sa (sa (sa (si (si W 3311 (nI N.1)) 3314 (nI R)) 41 NS) 42 NB) 43 CE)) 0 0 := by
  intro m
  induction m with
  | zero =>
    intro k CE hk b2
    refine aw_iload_n (aw_d q_Mo_read 172 rfl) rfl rfl ?_
    refine aw_bipush (v := nI 6) (aw_d q_Mo_read 173 rfl) (by decide) ?_
    refine aw_aload_n (aw_d q_Mo_read 174 rfl) rfl rfl rfl ?_
    refine aw_getf (v := .int (nI (R))) (aw_d q_Mo_read 175 rfl) fL_Mo_129_Mo rfl (gk rfl) ?_
    refine aw_imulN (aw_d q_Mo_read 176 rfl) ?_
    refine aw_icmpN_ge (tgt := 334) (aw_d q_Mo_read 177 rfl) (by decide) (by (have h6 := hF.1.2.1; have h24 := hF.2.1.2; omega)) (by (have h6 := hF.1.2.1; have h24 := hF.2.1.2; omega)) (fun c313 => ?_) (fun c313 => by exfalso; (have h6 := hF.1.2.1; have h24 := hF.2.1.2; omega))
    refine aw_aload_n (aw_d q_Mo_read 188 rfl) rfl rfl rfl ?_
    refine aw_getf (v := .int (nI (R))) (aw_d q_Mo_read 189 rfl) fL_Mo_129_Mo rfl (gk rfl) ?_
    exact aw_iret (aw_d q_Mo_read 190 rfl) rfl (by rw [hres]; obtain ⟨q1, q2⟩ := rm_ok (k := 0) hj hF hs hb1 (CE := CE) (fun j hj2 => b2 j (by omega)); exact Or.inl ⟨q2, rfl, _, rfl, (hj.1.1 3300 (by decide) (by decide)).trans f0, q1, frN_cp (frN_J hfr hj.1)⟩)
  | succ m ih =>
    intro k CE hk b2
    refine aw_iload_n (aw_d q_Mo_read 172 rfl) rfl rfl ?_
    refine aw_bipush (v := nI 6) (aw_d q_Mo_read 173 rfl) (by decide) ?_
    refine aw_aload_n (aw_d q_Mo_read 174 rfl) rfl rfl rfl ?_
    refine aw_getf (v := .int (nI (R))) (aw_d q_Mo_read 175 rfl) fL_Mo_129_Mo rfl (gk rfl) ?_
    refine aw_imulN (aw_d q_Mo_read 176 rfl) ?_
    refine aw_icmpN_ge (tgt := 334) (aw_d q_Mo_read 177 rfl) (by decide) (by (have h6 := hF.1.2.1; have h24 := hF.2.1.2; omega)) (by (have h6 := hF.1.2.1; have h24 := hF.2.1.2; omega)) (fun c313 => by exfalso; (have h6 := hF.1.2.1; have h24 := hF.2.1.2; omega)) (fun c313 => ?_)
    refine aw_aload_n (aw_d q_Mo_read 178 rfl) rfl rfl rfl ?_
    refine aw_getf (aw_d q_Mo_read 179 rfl) fL_Mo_37_Mo rfl rfl ?_
    refine aw_iload_n (aw_d q_Mo_read 180 rfl) rfl rfl ?_
    refine aw_aload_n (aw_d q_Mo_read 181 rfl) rfl rfl rfl ?_
    refine aw_getf (aw_d q_Mo_read 182 rfl) fL_Mo_74_Mo rfl rfl ?_
    refine aw_iload_n (aw_d q_Mo_read 183 rfl) rfl rfl ?_
    refine aw_ialdK (w := (W.2 55 k)) (aw_d q_Mo_read 184 rfl) rfl (by (have h6 := hF.1.2.1; have h24 := hF.2.1.2; omega)) rfl (rfl) ?_
    refine wn_43 (aw_d q_Mo_read 185 rfl) (by (have h6 := hF.1.2.1; have h24 := hF.2.1.2; omega)) ?_
    refine aw_iinc (aw_d q_Mo_read 186 rfl) rfl (ii1 _) (aw_le rfl) rfl ?_
    refine aw_goto (tgt := 305) (aw_d q_Mo_read 187 rfl) (by decide) ?_
    exact AW.to (ih (k + 1) (upd CE k (W.2 55 k)) (by omega) (fun j hj2 => by simp only [upd]; by_cases hjk : j = k; (rw [if_pos hjk, hjk]); (rw [if_neg hjk]; exact b2 j (by omega)))) rfl rfl rfl rfl
set_option maxRecDepth 20000 in
theorem lp_rn2 {g : aw_G} {S : aw_S} {P : xp_T} {N : nm_T} {R : Nat} {s : sq_T} {F W : aw_S} {x1 : Int32} (hW : xp_wd P) (hF : itF N R s F) (hs : itOK s (R * 6)) (hfr : frN S F) (f0 : F.1 3300 = nI 0) (hj : jM F (tsO P) s (R * 6) W) {NS NB0 : Nat → Int32} {v : Nat} (hv : v < N.1) (hns : NS v = nI (N.2.1 v)) {res : Except Nat rd_T} {x5 : Option Value} (K : ∀ (NB : Nat → Int32) (x4 : Option Value), (∀ i, i < N.2.1 v → NB (v * 8 + i) = N.2.2 v i) → (∀ j, j < v * 8 → NB j = NB0 j) → AW g M_Mo_read (aw_rm 7 158 0 0) (aw_F g 0 0 (rdM S P res)) 297 [some (.ref 33), some (.int x1), some (.int (nI (xp_t P))), some (.int (nI v)), x4, x5] [] (HP (sa (sa (si (si W 3311 (nI N.1)) 3314 (nI R)) 41 NS) 42 NB)) 0 0) : ∀ (m k : Nat) (NB : Nat → Int32), m + k = N.2.1 v → (∀ i, i < k → NB (v * 8 + i) = N.2.2 v i) → (∀ j, j < v * 8 → NB j = NB0 j) → AW g M_Mo_read (aw_rm 7 158 0 0) (aw_F g 0 0 (rdM S P res)) 256 [some (.ref 33), some (.int x1), some (.int (nI (xp_t P))), some (.int (nI v)), some (.int (nI k)), x5] [] (HP (sa (sa (si (si W 3311 (nI N.1)) 3314 (nI R)) 41 NS) 42 NB)) 0 0 := by
  intro m
  induction m with
  | zero =>
    intro k NB hk b1 b2
    refine aw_iload (aw_d q_Mo_read 144 rfl) rfl ?_
    refine aw_aload_n (aw_d q_Mo_read 145 rfl) rfl rfl rfl ?_
    refine aw_getf (aw_d q_Mo_read 146 rfl) fL_Mo_31_Mo rfl rfl ?_
    refine aw_iload_n (aw_d q_Mo_read 147 rfl) rfl rfl ?_
    refine aw_ialdK (w := nI (N.2.1 v)) (aw_d q_Mo_read 148 rfl) rfl (by (have h6 := hF.1.2.1; have h24 := hF.2.1.2; have h8 := (hF.1.2.2 v hv).2.1; omega)) rfl (hns) ?_
    refine aw_icmpN_ge (tgt := 297) (aw_d q_Mo_read 149 rfl) (by decide) (by (have h6 := hF.1.2.1; have h24 := hF.2.1.2; have h8 := (hF.1.2.2 v hv).2.1; omega)) (by (have h6 := hF.1.2.1; have h24 := hF.2.1.2; have h8 := (hF.1.2.2 v hv).2.1; omega)) (fun c264 => ?_) (fun c264 => by exfalso; (have h6 := hF.1.2.1; have h24 := hF.2.1.2; have h8 := (hF.1.2.2 v hv).2.1; omega))
    exact K NB _ (fun i hi => b1 i (by omega)) b2
  | succ m ih =>
    intro k NB hk b1 b2
    refine aw_iload (aw_d q_Mo_read 144 rfl) rfl ?_
    refine aw_aload_n (aw_d q_Mo_read 145 rfl) rfl rfl rfl ?_
    refine aw_getf (aw_d q_Mo_read 146 rfl) fL_Mo_31_Mo rfl rfl ?_
    refine aw_iload_n (aw_d q_Mo_read 147 rfl) rfl rfl ?_
    refine aw_ialdK (w := nI (N.2.1 v)) (aw_d q_Mo_read 148 rfl) rfl (by (have h6 := hF.1.2.1; have h24 := hF.2.1.2; have h8 := (hF.1.2.2 v hv).2.1; omega)) rfl (hns) ?_
    refine aw_icmpN_ge (tgt := 297) (aw_d q_Mo_read 149 rfl) (by decide) (by (have h6 := hF.1.2.1; have h24 := hF.2.1.2; have h8 := (hF.1.2.2 v hv).2.1; omega)) (by (have h6 := hF.1.2.1; have h24 := hF.2.1.2; have h8 := (hF.1.2.2 v hv).2.1; omega)) (fun c264 => by exfalso; (have h6 := hF.1.2.1; have h24 := hF.2.1.2; have h8 := (hF.1.2.2 v hv).2.1; omega)) (fun c264 => ?_)
    refine aw_aload_n (aw_d q_Mo_read 150 rfl) rfl rfl rfl ?_
    refine aw_getf (aw_d q_Mo_read 151 rfl) fL_Mo_34_Mo rfl rfl ?_
    refine aw_bipush (v := nI 8) (aw_d q_Mo_read 152 rfl) (by decide) ?_
    refine aw_iload_n (aw_d q_Mo_read 153 rfl) rfl rfl ?_
    refine aw_imulN (aw_d q_Mo_read 154 rfl) ?_
    refine aw_iload (aw_d q_Mo_read 155 rfl) rfl ?_
    refine aw_iaddN (aw_d q_Mo_read 156 rfl) ?_
    refine aw_aload_n (aw_d q_Mo_read 157 rfl) rfl rfl rfl ?_
    refine aw_getf (aw_d q_Mo_read 158 rfl) fL_Mo_56_Mo rfl rfl ?_
    refine aw_bipush (v := nI 8) (aw_d q_Mo_read 159 rfl) (by decide) ?_
    refine aw_iload_n (aw_d q_Mo_read 160 rfl) rfl rfl ?_
    refine aw_imulN (aw_d q_Mo_read 161 rfl) ?_
    refine aw_iload (aw_d q_Mo_read 162 rfl) rfl ?_
    refine aw_iaddN (aw_d q_Mo_read 163 rfl) ?_
    refine aw_ialdK (w := (N.2.2 v k)) (aw_d q_Mo_read 164 rfl) rfl (by (have h6 := hF.1.2.1; have h24 := hF.2.1.2; have h8 := (hF.1.2.2 v hv).2.1; omega)) rfl (by rw [show 8 * v + k = v * 8 + k by omega]; exact (congrFun (hj.1.2 49 (by decide) (by decide) (by decide) (by decide) (by decide) (by decide)) _).trans ((hF.1.2.2 v hv).2.2 k (by omega))) ?_
    refine wn_42 (aw_d q_Mo_read 165 rfl) (by (have h6 := hF.1.2.1; have h24 := hF.2.1.2; have h8 := (hF.1.2.2 v hv).2.1; omega)) ?_
    refine aw_iinc (aw_d q_Mo_read 166 rfl) rfl (ii1 _) (aw_le rfl) rfl ?_
    refine aw_goto (tgt := 256) (aw_d q_Mo_read 167 rfl) (by decide) ?_
    exact AW.to (ih (k + 1) (upd NB (8 * v + k) (N.2.2 v k)) (by omega) (fun i hi => by simp only [upd]; by_cases hik : i = k; (rw [if_pos (by omega), hik]); (rw [if_neg (by omega)]; exact b1 i (by omega))) (fun j hj2 => by simp only [upd]; rw [if_neg (by omega)]; exact b2 j hj2)) rfl rfl rfl rfl
set_option maxRecDepth 20000 in
theorem lp_rn {g : aw_G} {S : aw_S} {P : xp_T} {N : nm_T} {R : Nat} {s : sq_T} {F W : aw_S} {x1 : Int32} (hW : xp_wd P) (hF : itF N R s F) (hs : itOK s (R * 6)) (hfr : frN S F) (f0 : F.1 3300 = nI 0) (hj : jM F (tsO P) s (R * 6) W) {res : Except Nat rd_T} (hres : res = .ok (N, R, s)) {x5 : Option Value} : ∀ (m v : Nat) (NS NB : Nat → Int32) (x4 : Option Value), m + v = N.1 → (∀ u, u < v → NS u = nI (N.2.1 u) ∧ ∀ i, i < N.2.1 u → NB (u * 8 + i) = N.2.2 u i) → AW g M_Mo_read (aw_rm 7 158 0 0) (aw_F g 0 0 (rdM S P res)) 233 [some (.ref 33), some (.int x1), some (.int (nI (xp_t P))), some (.int (nI v)), x4, x5] [] (HP (sa (sa (si (si W 3311 (nI N.1)) 3314 (nI R)) 41 NS) 42 NB)) 0 0 := by
  intro m
  induction m with
  | zero =>
    intro v NS NB x4 hk b1
    refine aw_iload_n (aw_d q_Mo_read 130 rfl) rfl rfl ?_
    refine aw_aload_n (aw_d q_Mo_read 131 rfl) rfl rfl rfl ?_
    refine aw_getf (v := .int (nI (N.1))) (aw_d q_Mo_read 132 rfl) fL_Mo_126_Mo rfl (gk rfl) ?_
    refine aw_icmpN_ge (tgt := 303) (aw_d q_Mo_read 133 rfl) (by decide) (by (have h6 := hF.1.2.1; have h24 := hF.2.1.2; omega)) (by (have h6 := hF.1.2.1; have h24 := hF.2.1.2; omega)) (fun c238 => ?_) (fun c238 => by exfalso; (have h6 := hF.1.2.1; have h24 := hF.2.1.2; omega))
    refine aw_iconst (v := nI 0) (aw_d q_Mo_read 170 rfl) (by decide) ?_
    refine aw_istore_n (aw_d q_Mo_read 171 rfl) rfl (aw_le rfl) rfl ?_
    exact AW.to (lp_rc hW hF hs hfr f0 hj (NS := NS) (NB := NB) (fun u hu => b1 u (by omega)) hres (R * 6) 0 (W.2 43) (by omega) (fun j hj2 => by omega)) rfl rfl rfl rfl
  | succ m ih =>
    intro v NS NB x4 hk b1
    refine aw_iload_n (aw_d q_Mo_read 130 rfl) rfl rfl ?_
    refine aw_aload_n (aw_d q_Mo_read 131 rfl) rfl rfl rfl ?_
    refine aw_getf (v := .int (nI (N.1))) (aw_d q_Mo_read 132 rfl) fL_Mo_126_Mo rfl (gk rfl) ?_
    refine aw_icmpN_ge (tgt := 303) (aw_d q_Mo_read 133 rfl) (by decide) (by (have h6 := hF.1.2.1; have h24 := hF.2.1.2; omega)) (by (have h6 := hF.1.2.1; have h24 := hF.2.1.2; omega)) (fun c238 => by exfalso; (have h6 := hF.1.2.1; have h24 := hF.2.1.2; omega)) (fun c238 => ?_)
    refine aw_aload_n (aw_d q_Mo_read 134 rfl) rfl rfl rfl ?_
    refine aw_getf (aw_d q_Mo_read 135 rfl) fL_Mo_31_Mo rfl rfl ?_
    refine aw_iload_n (aw_d q_Mo_read 136 rfl) rfl rfl ?_
    refine aw_aload_n (aw_d q_Mo_read 137 rfl) rfl rfl rfl ?_
    refine aw_getf (aw_d q_Mo_read 138 rfl) fL_Mo_53_Mo rfl rfl ?_
    refine aw_iload_n (aw_d q_Mo_read 139 rfl) rfl rfl ?_
    refine aw_ialdK (w := nI (N.2.1 v)) (aw_d q_Mo_read 140 rfl) rfl (by (have h6 := hF.1.2.1; have h24 := hF.2.1.2; omega)) rfl ((congrFun (hj.1.2 48 (by decide) (by decide) (by decide) (by decide) (by decide) (by decide)) _).trans (hF.1.2.2 v (by omega)).1) ?_
    refine wn_41 (aw_d q_Mo_read 141 rfl) (by (have h6 := hF.1.2.1; have h24 := hF.2.1.2; omega)) ?_
    refine aw_iconst (v := nI 0) (aw_d q_Mo_read 142 rfl) (by decide) ?_
    refine aw_istore (aw_d q_Mo_read 143 rfl) (aw_le rfl) rfl ?_
    refine AW.to (lp_rn2 hW hF hs hfr f0 hj (NS := upd NS v (nI (N.2.1 v))) (NB0 := NB) (v := v) (by omega) (if_pos rfl) (fun NB2 x4 c1 c2 => ?_) (N.2.1 v) 0 NB (by omega) (fun i hi => by omega) (fun j hj2 => rfl)) rfl rfl rfl rfl
    refine aw_iinc (aw_d q_Mo_read 168 rfl) rfl (ii1 _) (aw_le rfl) rfl ?_
    refine aw_goto (tgt := 233) (aw_d q_Mo_read 169 rfl) (by decide) ?_
    exact AW.to (ih (v + 1) (upd NS v (nI (N.2.1 v))) NB2 _ (by omega) (fun u hu => by by_cases huv : u = v; (subst huv; exact ⟨if_pos rfl, c1⟩); (have h8 := (hF.1.2.2 u (by omega)).2.1; exact ⟨by simp only [upd]; rw [if_neg huv]; exact (b1 u (by omega)).1, fun i hi => by rw [c2 _ (by omega)]; exact (b1 u (by omega)).2 i hi⟩))) rfl rfl rfl rfl
set_option maxRecDepth 20000 in
theorem lp_rt {g : aw_G} {S : aw_S} {P : xp_T} {V : aw_S} {k : Nat} {L : List Int32} {x1 x4 : Int32} (hk : k < 144) (hL : L.length ≤ 20) (hV : V.1 3334 = nI L.length) (hT : ∀ i, i < L.length → V.2 53 (k * 20 + i) = L.getD i 0) {res : Except Nat rd_T} (K : ∀ (X : Nat → Int32) (x5 : Option Value), (∀ i, i < L.length → X i = L.getD i 0) → AW g M_Mo_read (aw_rm 7 158 0 0) (aw_F g 0 0 (rdM S P res)) 170 [some (.ref 33), some (.int x1), some (.int (nI (xp_t P))), some (.int (nI k)), some (.int x4), x5] [] (HP (sa V 54 X)) 0 0) : ∀ (m i : Nat) (X : Nat → Int32), m + i = L.length → (∀ j, j < i → X j = L.getD j 0) → AW g M_Mo_read (aw_rm 7 158 0 0) (aw_F g 0 0 (rdM S P res)) 136 [some (.ref 33), some (.int x1), some (.int (nI (xp_t P))), some (.int (nI k)), some (.int x4), some (.int (nI i))] [] (HP (sa V 54 X)) 0 0 := by
  intro m
  induction m with
  | zero =>
    intro i X hm b1
    refine aw_iload (aw_d q_Mo_read 77 rfl) rfl ?_
    refine aw_aload_n (aw_d q_Mo_read 78 rfl) rfl rfl rfl ?_
    refine aw_getf (v := .int (nI (L.length))) (aw_d q_Mo_read 79 rfl) fL_Mo_93_Mo rfl (gk hV) ?_
    refine aw_icmpN_ge (tgt := 170) (aw_d q_Mo_read 80 rfl) (by decide) (by omega) (by omega) (fun c142 => ?_) (fun c142 => by exfalso; omega)
    exact K X _ (fun j hj2 => b1 j (by omega))
  | succ m ih =>
    intro i X hm b1
    refine aw_iload (aw_d q_Mo_read 77 rfl) rfl ?_
    refine aw_aload_n (aw_d q_Mo_read 78 rfl) rfl rfl rfl ?_
    refine aw_getf (v := .int (nI (L.length))) (aw_d q_Mo_read 79 rfl) fL_Mo_93_Mo rfl (gk hV) ?_
    refine aw_icmpN_ge (tgt := 170) (aw_d q_Mo_read 80 rfl) (by decide) (by omega) (by omega) (fun c142 => by exfalso; omega) (fun c142 => ?_)
    refine aw_aload_n (aw_d q_Mo_read 81 rfl) rfl rfl rfl ?_
    refine aw_getf (aw_d q_Mo_read 82 rfl) fL_Mo_71_Mo rfl rfl ?_
    refine aw_iload (aw_d q_Mo_read 83 rfl) rfl ?_
    refine aw_aload_n (aw_d q_Mo_read 84 rfl) rfl rfl rfl ?_
    refine aw_getf (aw_d q_Mo_read 85 rfl) fL_Mo_68_Mo rfl rfl ?_
    refine aw_bipush (v := nI 20) (aw_d q_Mo_read 86 rfl) (by decide) ?_
    refine aw_iload_n (aw_d q_Mo_read 87 rfl) rfl rfl ?_
    refine aw_imulN (aw_d q_Mo_read 88 rfl) ?_
    refine aw_iload (aw_d q_Mo_read 89 rfl) rfl ?_
    refine aw_iaddN (aw_d q_Mo_read 90 rfl) ?_
    refine aw_ialdK (w := (L.getD i 0)) (aw_d q_Mo_read 91 rfl) rfl (by omega) rfl (by rw [show 20 * k + i = k * 20 + i by omega]; exact hT i (by omega)) ?_
    refine wn_54 (aw_d q_Mo_read 92 rfl) (by omega) ?_
    refine aw_iinc (aw_d q_Mo_read 93 rfl) rfl (ii1 _) (aw_le rfl) rfl ?_
    refine aw_goto (tgt := 136) (aw_d q_Mo_read 94 rfl) (by decide) ?_
    exact AW.to (ih (i + 1) (upd X i (L.getD i 0)) (by omega) (fun j hj2 => by simp only [upd]; by_cases hji : j = i; (rw [if_pos hji, hji]); (rw [if_neg hji]; exact b1 j (by omega)))) rfl rfl rfl rfl
set_option maxRecDepth 20000 in
theorem lp_rk {g : aw_G} {S : aw_S} {P : xp_T} {N : nm_T} {R : Nat} {s : sq_T} {F : aw_S} {x1 : Int32} (hP : xp_M S P) (hW : xp_wd P) (hF : itF N R s F) (hs : itOK s (R * 6)) (hfr : frN S F) (f0 : F.1 3300 = nI 0) (f1 : F.1 3311 = S.1 3311) (f2 : F.1 3314 = S.1 3314) (f3 : F.2 41 = S.2 41) (f4 : F.2 42 = S.2 42) (f5 : F.2 43 = S.2 43) {res : Except Nat rd_T} (hres : res = .ok (N, R, s)) : ∀ (m k : Nat) (W : aw_S) (x4 x5 : Option Value), m + k = R * 6 → jM F (tsO P) s k W → AW g M_Mo_read (aw_rm 7 158 0 0) (aw_F g 0 0 (rdM S P res)) 81 [some (.ref 33), some (.int x1), some (.int (nI (xp_t P))), some (.int (nI k)), x4, x5] [] (HP (W)) 0 0 := by
  intro m
  induction m with
  | zero =>
    intro k W x4 x5 hk hj
    refine aw_iload_n (aw_d q_Mo_read 45 rfl) rfl rfl ?_
    refine aw_bipush (v := nI 6) (aw_d q_Mo_read 46 rfl) (by decide) ?_
    refine aw_aload_n (aw_d q_Mo_read 47 rfl) rfl rfl rfl ?_
    refine aw_getf (v := .int (nI (R))) (aw_d q_Mo_read 48 rfl) fL_Mo_375_Mo rfl (gk ((hj.1.1 3326 (by decide) (by decide)).trans hF.2.1.1)) ?_
    refine aw_imulN (aw_d q_Mo_read 49 rfl) ?_
    refine aw_icmpN_ge (tgt := 215) (aw_d q_Mo_read 50 rfl) (by decide) (by (have h6 := hF.1.2.1; have h24 := hF.2.1.2; omega)) (by (have h6 := hF.1.2.1; have h24 := hF.2.1.2; omega)) (fun c89 => ?_) (fun c89 => by exfalso; (have h6 := hF.1.2.1; have h24 := hF.2.1.2; omega))
    refine aw_aload_n (aw_d q_Mo_read 120 rfl) rfl rfl rfl ?_
    refine aw_aload_n (aw_d q_Mo_read 121 rfl) rfl rfl rfl ?_
    refine aw_getf (v := .int (nI (N.1))) (aw_d q_Mo_read 122 rfl) fL_Mo_349_Mo rfl (gk ((hj.1.1 3323 (by decide) (by decide)).trans hF.1.1)) ?_
    refine wi_33_11 (aw_d q_Mo_read 123 rfl) pL_Mo_126_Mo ?_
    refine aw_aload_n (aw_d q_Mo_read 124 rfl) rfl rfl rfl ?_
    refine aw_aload_n (aw_d q_Mo_read 125 rfl) rfl rfl rfl ?_
    refine aw_getf (v := .int (nI (R))) (aw_d q_Mo_read 126 rfl) fL_Mo_375_Mo rfl (gk ((hj.1.1 3326 (by decide) (by decide)).trans hF.2.1.1)) ?_
    refine wi_33_14 (aw_d q_Mo_read 127 rfl) pL_Mo_129_Mo ?_
    refine aw_iconst (v := nI 0) (aw_d q_Mo_read 128 rfl) (by decide) ?_
    refine aw_istore_n (aw_d q_Mo_read 129 rfl) rfl (aw_le rfl) rfl ?_
    have hkr : k = R * 6 := by omega
    subst hkr
    exact AW.to (lp_rn hW hF hs hfr f0 hj hres N.1 0 (W.2 41) (W.2 42) _ (by omega) (fun u hu => by omega)) rfl rfl rfl rfl
  | succ m ih =>
    intro k W x4 x5 hk hj
    refine aw_iload_n (aw_d q_Mo_read 45 rfl) rfl rfl ?_
    refine aw_bipush (v := nI 6) (aw_d q_Mo_read 46 rfl) (by decide) ?_
    refine aw_aload_n (aw_d q_Mo_read 47 rfl) rfl rfl rfl ?_
    refine aw_getf (v := .int (nI (R))) (aw_d q_Mo_read 48 rfl) fL_Mo_375_Mo rfl (gk ((hj.1.1 3326 (by decide) (by decide)).trans hF.2.1.1)) ?_
    refine aw_imulN (aw_d q_Mo_read 49 rfl) ?_
    refine aw_icmpN_ge (tgt := 215) (aw_d q_Mo_read 50 rfl) (by decide) (by (have h6 := hF.1.2.1; have h24 := hF.2.1.2; omega)) (by (have h6 := hF.1.2.1; have h24 := hF.2.1.2; omega)) (fun c89 => by exfalso; (have h6 := hF.1.2.1; have h24 := hF.2.1.2; omega)) (fun c89 => ?_)
    refine aw_iload_n (aw_d q_Mo_read 51 rfl) rfl rfl ?_
    refine aw_bipush (v := nI 6) (aw_d q_Mo_read 52 rfl) (by decide) ?_
    refine aw_iremN (aw_d q_Mo_read 53 rfl) (by (have h6 := hF.1.2.1; have h24 := hF.2.1.2; omega)) (by (have h6 := hF.1.2.1; have h24 := hF.2.1.2; omega)) (by (have h6 := hF.1.2.1; have h24 := hF.2.1.2; omega)) ?_
    refine aw_istore (aw_d q_Mo_read 54 rfl) (aw_le rfl) rfl ?_
    refine aw_aload_n (aw_d q_Mo_read 55 rfl) rfl rfl rfl ?_
    refine aw_getf (aw_d q_Mo_read 56 rfl) fL_Mo_74_Mo rfl rfl ?_
    refine aw_iload_n (aw_d q_Mo_read 57 rfl) rfl rfl ?_
    refine aw_iconst (v := (-1)) (aw_d q_Mo_read 58 rfl) (by decide) ?_
    refine wn_55 (aw_d q_Mo_read 59 rfl) (by (have h6 := hF.1.2.1; have h24 := hF.2.1.2; omega)) ?_
    refine aw_iload (aw_d q_Mo_read 60 rfl) rfl ?_
    refine aw_aload_n (aw_d q_Mo_read 61 rfl) rfl rfl rfl ?_
    refine aw_getf (v := .int (nI (N.1))) (aw_d q_Mo_read 62 rfl) fL_Mo_349_Mo rfl (gk ((hj.1.1 3323 (by decide) (by decide)).trans hF.1.1)) ?_
    refine aw_icmpN_ge (tgt := 209) (aw_d q_Mo_read 63 rfl) (by decide) (by (have h6 := hF.1.2.1; have h24 := hF.2.1.2; omega)) (by (have h6 := hF.1.2.1; have h24 := hF.2.1.2; omega)) (fun c111 => ?_) (fun c111 => ?_)
    · refine aw_iinc (aw_d q_Mo_read 118 rfl) rfl (ii1 _) (aw_le rfl) rfl ?_
      refine aw_goto (tgt := 81) (aw_d q_Mo_read 119 rfl) (by decide) ?_
      have hl : lkI s k = none := by
        cases hl : lkI s k with
        | none => rfl
        | some y => have q := hF.2.2.2 _ (lkI_mem hl); have q : k % 6 < N.1 := q; omega
      exact AW.to (ih (k + 1) _ _ _ (by omega) (jM_no hj hl)) rfl rfl rfl rfl
    · have hcl := hF.2.2.1 k (by omega)
      cases hl : lkI s k with
      | none =>
        rw [hl] at hcl
        have hk50 : W.2 50 k = -1 := (congrFun (hj.1.2 50 (by decide) (by decide) (by decide) (by decide) (by decide) (by decide)) _).trans hcl
        refine aw_aload_n (aw_d q_Mo_read 64 rfl) rfl rfl rfl ?_
        refine aw_getf (aw_d q_Mo_read 65 rfl) fL_Mo_59_Mo rfl rfl ?_
        refine aw_iload_n (aw_d q_Mo_read 66 rfl) rfl rfl ?_
        refine aw_ialdK (w := (-1)) (aw_d q_Mo_read 67 rfl) rfl (by (have h6 := hF.1.2.1; have h24 := hF.2.1.2; omega)) rfl (hk50) ?_
        refine aw_ifI_lt (tgt := 209) (aw_d q_Mo_read 68 rfl) (by decide) (fun c120 => ?_) (fun c120 => by exact absurd c120 (by decide))
        refine aw_iinc (aw_d q_Mo_read 118 rfl) rfl (ii1 _) (aw_le rfl) rfl ?_
        refine aw_goto (tgt := 81) (aw_d q_Mo_read 119 rfl) (by decide) ?_
        exact AW.to (ih (k + 1) _ _ _ (by omega) (jM_no hj hl)) rfl rfl rfl rfl
      | some y =>
        rw [hl] at hcl
        obtain ⟨c1, c2, c3, c20, c4⟩ := hcl
        have hyw := (hs.2 _ (lkI_mem hl)).2
        have hy4 : y.1 ≤ 4 := hyw.1
        have hk50 : W.2 50 k = nI y.1 := (congrFun (hj.1.2 50 (by decide) (by decide) (by decide) (by decide) (by decide) (by decide)) _).trans c1
        have hk51 : W.2 51 k = nI y.2.1 := (congrFun (hj.1.2 51 (by decide) (by decide) (by decide) (by decide) (by decide) (by decide)) _).trans c2
        have hk52 : W.2 52 k = nI y.2.2.length := (congrFun (hj.1.2 52 (by decide) (by decide) (by decide) (by decide) (by decide) (by decide)) _).trans c3
        have hk53 : ∀ i, i < y.2.2.length → W.2 53 (k * 20 + i) = y.2.2.getD i 0 := fun i hi => (congrFun (hj.1.2 53 (by decide) (by decide) (by decide) (by decide) (by decide) (by decide)) _).trans (c4 i hi)
        refine aw_aload_n (aw_d q_Mo_read 64 rfl) rfl rfl rfl ?_
        refine aw_getf (aw_d q_Mo_read 65 rfl) fL_Mo_59_Mo rfl rfl ?_
        refine aw_iload_n (aw_d q_Mo_read 66 rfl) rfl rfl ?_
        refine aw_ialdK (w := (nI y.1)) (aw_d q_Mo_read 67 rfl) rfl (by (have h6 := hF.1.2.1; have h24 := hF.2.1.2; omega)) rfl (hk50) ?_
        refine aw_ifN_lt (tgt := 209) (aw_d q_Mo_read 68 rfl) (by decide) (by (have h6 := hF.1.2.1; have h24 := hF.2.1.2; omega)) (fun c120 => by exfalso; (have h6 := hF.1.2.1; have h24 := hF.2.1.2; omega)) (fun c120 => ?_)
        refine aw_aload_n (aw_d q_Mo_read 69 rfl) rfl rfl rfl ?_
        refine aw_aload_n (aw_d q_Mo_read 70 rfl) rfl rfl rfl ?_
        refine aw_getf (aw_d q_Mo_read 71 rfl) fL_Mo_65_Mo rfl rfl ?_
        refine aw_iload_n (aw_d q_Mo_read 72 rfl) rfl rfl ?_
        refine aw_ialdK (w := (nI y.2.2.length)) (aw_d q_Mo_read 73 rfl) rfl (by (have h6 := hF.1.2.1; have h24 := hF.2.1.2; omega)) rfl (hk52) ?_
        refine wi_33_34 (aw_d q_Mo_read 74 rfl) pL_Mo_93_Mo ?_
        refine aw_iconst (v := nI 0) (aw_d q_Mo_read 75 rfl) (by decide) ?_
        refine aw_istore (aw_d q_Mo_read 76 rfl) (aw_le rfl) rfl ?_
        refine AW.to (lp_rt (V := (si (sa W 55 (upd (W.2 55) k (-1))) 3334 (nI y.2.2.length))) (L := y.2.2) (x4 := nI (k % 6)) (by have := hF.2.1.2; omega) c20 rfl hk53 (fun X x5 hX => ?_) y.2.2.length 0 (W.2 54) (by omega) (fun j hj2 => by omega)) rfl rfl rfl rfl
        refine aw_aload_n (aw_d q_Mo_read 95 rfl) rfl rfl rfl ?_
        refine aw_getf (aw_d q_Mo_read 96 rfl) fL_Mo_74_Mo rfl rfl ?_
        refine aw_iload_n (aw_d q_Mo_read 97 rfl) rfl rfl ?_
        refine aw_aload_n (aw_d q_Mo_read 98 rfl) rfl rfl rfl ?_
        refine aw_aload_n (aw_d q_Mo_read 99 rfl) rfl rfl rfl ?_
        refine aw_getf (aw_d q_Mo_read 100 rfl) fL_Mo_59_Mo rfl rfl ?_
        refine aw_iload_n (aw_d q_Mo_read 101 rfl) rfl rfl ?_
        refine aw_ialdK (w := (nI y.1)) (aw_d q_Mo_read 102 rfl) rfl (by (have h6 := hF.1.2.1; have h24 := hF.2.1.2; omega)) rfl (hk50) ?_
        refine aw_aload_n (aw_d q_Mo_read 103 rfl) rfl rfl rfl ?_
        refine aw_getf (aw_d q_Mo_read 104 rfl) fL_Mo_62_Mo rfl rfl ?_
        refine aw_iload_n (aw_d q_Mo_read 105 rfl) rfl rfl ?_
        refine aw_ialdK (w := (nI y.2.1)) (aw_d q_Mo_read 106 rfl) rfl (by (have h6 := hF.1.2.1; have h24 := hF.2.1.2; omega)) rfl (hk51) ?_
        refine cV (aw_d q_Mo_read 107 rfl) (sp_noteD (W := sa (si (sa W 55 (upd (W.2 55) k (-1))) 3334 (nI y.2.2.length)) 54 X) (E := (gE (tsO P) s k).1) (kd := y.1) (ex := y.2.1) (L := y.2.2) (teM_fr hj.2.1 rfl rfl rfl rfl rfl) (gE_W (tsO_W hW) (fun x hx => (hs.2 x hx).2) k) hj.2.2.1 rfl hX hyw.1 hyw.2.2.1 c20) vL_Mo_123_Mo rfl rfl rfl rfl rfl rfl ⟨aw_le rfl, aw_le rfl⟩ (fun r188 h188 hp188 => ?_)
        obtain ⟨rfl, V, hfV, hoV, htV, rfl⟩ := hp188
        refine wn_55 (aw_d q_Mo_read 108 rfl) (by (have h6 := hF.1.2.1; have h24 := hF.2.1.2; omega)) ?_
        refine aw_aload_n (aw_d q_Mo_read 109 rfl) rfl rfl rfl ?_
        have h61 := (tsI_le (E := (gE (tsO P) s k).1) (kd := y.1) (ex := y.2.1) (L := y.2.2)).2.1
        have h60 := hj.2.2.1
        have hfV2 := frJ_tr hj.1 (frJ_tr (frJ_sa (frJ_si (frJ_sa frJ_rf (by decide)) (by decide)) (by decide)) hfV)
        refine aw_getf (v := .int (nI ((tsI (gE (tsO P) s k).1 y.1 y.2.1 y.2.2).2.1))) (aw_d q_Mo_read 110 rfl) fL_Mo_109_Mo rfl (gk htV.1) ?_
        refine aw_bipush (v := nI 60) (aw_d q_Mo_read 111 rfl) (by decide) ?_
        refine aw_icmpN_le (tgt := 209) (aw_d q_Mo_read 112 rfl) (by decide) (by (have h6 := hF.1.2.1; have h24 := hF.2.1.2; omega)) (by (have h6 := hF.1.2.1; have h24 := hF.2.1.2; omega)) (fun c198 => ?_) (fun c198 => ?_)
        · refine aw_iinc (aw_d q_Mo_read 118 rfl) rfl (ii1 _) (aw_le rfl) rfl ?_
          refine aw_goto (tgt := 81) (aw_d q_Mo_read 119 rfl) (by decide) ?_
          exact AW.to (ih (k + 1) _ _ _ (by omega) (jM_so hj hl (frJ_tr (frJ_sa (frJ_si (frJ_sa frJ_rf (by decide)) (by decide)) (by decide)) hfV) (fun j hj2 => by rw [hoV]; show upd (W.2 55) k (-1) j = _; simp only [upd]; rw [if_neg (by omega)]) htV (by omega))) rfl rfl rfl rfl
        · refine aw_aload_n (aw_d q_Mo_read 113 rfl) rfl rfl rfl ?_
          refine aw_iload_n (aw_d q_Mo_read 114 rfl) rfl rfl ?_
          refine wi_33_6 (aw_d q_Mo_read 115 rfl) pL_Mo_109_Mo ?_
          refine aw_bipush (v := (-3)) (aw_d q_Mo_read 116 rfl) (by decide) ?_
          exact aw_iret (aw_d q_Mo_read 117 rfl) rfl (by rw [hres]; exact Or.inr ⟨by rw [← gE_fE hs.1.2 (fun x hx => (hs.2 x hx).1)]; exact Nat.lt_of_lt_of_le (show 60 < (gE (tsO P) s (k + 1)).1.1 from by simp only [gE]; rw [hl]; show 60 < (tsI (gE (tsO P) s k).1 y.1 y.2.1 y.2.2).2.1; omega) (gE_mono (by omega)), rfl, _, rfl, (hfV2.1 3300 (by decide) (by decide)).trans f0, rm_no (F := F) hP (frN_J hfr (frJ_si (frJ_sa hfV2 (by decide)) (by decide))) ((hfV2.1 3311 (by decide) (by decide)).trans f1) ((hfV2.1 3314 (by decide) (by decide)).trans f2) ((hfV2.2 41 (by decide) (by decide) (by decide) (by decide) (by decide) (by decide)).trans f3) ((hfV2.2 42 (by decide) (by decide) (by decide) (by decide) (by decide) (by decide)).trans f4) ((hfV2.2 43 (by decide) (by decide) (by decide) (by decide) (by decide) (by decide)).trans f5) htV.2 (tsLe_tr (gE_le k).2 tsI_le.1) rfl, frN_J hfr (frJ_si (frJ_sa hfV2 (by decide)) (by decide))⟩)
set_option maxRecDepth 20000 in
theorem sp_Mo_read_0 {g : aw_G} {S : aw_S} {P : xp_T} {n : Nat} {T : Nat → Int32} (hP : xp_M S P) (hW : xp_wd P) (hc : TPm S n T)  : Sp g M_Mo_read 7 158 0 0 [.ref 33, .int (nI 0)] (HP S) (rdM S P (rdJ T n nm0)) := by
  refine Sp.of rfl (aw_le rfl) ?_
  refine aw_iload_n (aw_d q_Mo_read 0 rfl) rfl rfl ?_
  refine aw_iconst (v := nI 0) (aw_d q_Mo_read 1 rfl) (by decide) ?_
  refine aw_iconst (v := nI 3) (aw_d q_Mo_read 2 rfl) (by decide) ?_
  refine cSr (aw_d q_Mo_read 3 rfl) (sp_Mo_in (x := nI 0) (A := 0) (B := 3) rfl rfl) sL_Mo_81 rfl rfl rfl rfl ⟨aw_le rfl, aw_le rfl⟩ ?_
  refine aw_ifB_ne (tgt := 16) (aw_d q_Mo_read 4 rfl) (by decide) (fun c6 => ?_) (fun c6 => by exact absurd (by decide) c6)
  refine aw_aload_n (aw_d q_Mo_read 10 rfl) rfl rfl rfl ?_
  refine cVv (aw_d q_Mo_read 11 rfl) (sp_mbegin) vL_Mo_470_Mo rfl rfl rfl rfl rfl rfl ⟨aw_le rfl, aw_le rfl⟩ ?_
  refine aw_iload_n (aw_d q_Mo_read 12 rfl) rfl rfl ?_
  refine aw_ifN_ne (tgt := 31) (aw_d q_Mo_read 13 rfl) (by decide) (by (have hW1 := hW.1; omega)) (fun c21 => by exfalso; (have hW1 := hW.1; omega)) (fun c21 => ?_)
  refine aw_aload_n (aw_d q_Mo_read 14 rfl) rfl rfl rfl ?_
  refine cV (aw_d q_Mo_read 15 rfl) (sp_readB (S := mB S) (D := mB S) (N := nm0) mB_I (mB_TP hc)) vL_Mo_473_Mo rfl rfl rfl rfl rfl rfl ⟨aw_le rfl, aw_le rfl⟩ (fun r25 h25 hp25 => ?_)
  rw [rJp_J]
  cases hx : rJp T n nm0 with
  | error u =>
    rw [hx] at hp25
    obtain ⟨rfl, hu, F, b, f, z, X, hF, hb, rfl⟩ := hp25
    refine aw_goto (tgt := 57) (aw_d q_Mo_read 16 rfl) (by decide) ?_
    refine aw_aload_n (aw_d q_Mo_read 31 rfl) rfl rfl rfl ?_
    refine cVr (aw_d q_Mo_read 32 rfl) (sp_goesI hu) vL_Mo_327_Mo rfl rfl rfl rfl rfl rfl ⟨aw_le rfl, aw_le rfl⟩ ?_
    refine aw_ifN_ne (tgt := 69) (aw_d q_Mo_read 33 rfl) (by decide) (by (have hW1 := hW.1; omega)) (fun c61 => by exfalso; (have hW1 := hW.1; omega)) (fun c61 => ?_)
    refine aw_aload_n (aw_d q_Mo_read 34 rfl) rfl rfl rfl ?_
    refine cVr (aw_d q_Mo_read 35 rfl) (sp_faulty) vL_Mo_482_Mo rfl rfl rfl rfl rfl rfl ⟨aw_le rfl, aw_le rfl⟩ ?_
    exact aw_iret (aw_d q_Mo_read 36 rfl) rfl (by exact ⟨rfl, _, rfl, rfl, rm_no (F := F) hP (frM_N hF) (hF.1 3311 (by decide) (by decide)) (hF.1 3314 (by decide) (by decide)) (hF.2 41 (by decide) (by decide) (by decide) (by decide) (by decide) (by decide)) (hF.2 42 (by decide) (by decide) (by decide) (by decide) (by decide) (by decide)) (hF.2 43 (by decide) (by decide) (by decide) (by decide) (by decide) (by decide)) (E := tsO P) (fun t ht => by have e37 := hF.2 37 (by decide) (by decide) (by decide) (by decide) (by decide) (by decide); have e38 := hF.2 38 (by decide) (by decide) (by decide) (by decide) (by decide) (by decide); have e39 := hF.2 39 (by decide) (by decide) (by decide) (by decide) (by decide) (by decide); have e40 := hF.2 40 (by decide) (by decide) (by decide) (by decide) (by decide) (by decide); show F.2 37 t = _ ∧ F.2 38 t = _ ∧ F.2 39 t = _ ∧ ∀ i, i < _ → F.2 40 (t * 20 + i) = _; rw [e37, e38, e39, e40]; exact hP.2.2.2 t ht) tsLe_rf ((hF.1 3306 (by decide) (by decide)).trans hP.1.1), frM_N hF⟩)
  | ok y =>
    rw [hx] at hp25
    obtain ⟨p, N, R, s⟩ := y
    obtain ⟨rfl, F, f, z, X, ⟨hI, hs⟩, hp, rfl⟩ := hp25
    refine aw_goto (tgt := 57) (aw_d q_Mo_read 16 rfl) (by decide) ?_
    refine aw_aload_n (aw_d q_Mo_read 31 rfl) rfl rfl rfl ?_
    refine cVr (aw_d q_Mo_read 32 rfl) (sp_goesA) vL_Mo_327_Mo rfl rfl rfl rfl rfl rfl ⟨aw_le rfl, aw_le rfl⟩ ?_
    refine aw_ifN_ne (tgt := 69) (aw_d q_Mo_read 33 rfl) (by decide) (by (have hW1 := hW.1; omega)) (fun c61 => ?_) (fun c61 => by exfalso; (have hW1 := hW.1; omega))
    refine aw_aload_n (aw_d q_Mo_read 37 rfl) rfl rfl rfl ?_
    refine aw_iconst (v := nI 0) (aw_d q_Mo_read 38 rfl) (by decide) ?_
    refine wi_33_0 (aw_d q_Mo_read 39 rfl) pL_Mo_85_Mo ?_
    refine aw_aload_n (aw_d q_Mo_read 40 rfl) rfl rfl rfl ?_
    refine aw_getf (v := .int (nI ((xp_t P)))) (aw_d q_Mo_read 41 rfl) fL_Mo_109_Mo rfl (gk ((hI.1.1 3306 (by decide) (by decide)).trans hP.1.1)) ?_
    refine aw_istore_n (aw_d q_Mo_read 42 rfl) rfl (aw_le rfl) rfl ?_
    refine aw_iconst (v := nI 0) (aw_d q_Mo_read 43 rfl) (by decide) ?_
    refine aw_istore_n (aw_d q_Mo_read 44 rfl) rfl (aw_le rfl) rfl ?_
    rw [bd_ok]
    exact AW.to (lp_rk (F := nT (QM F (nI p) (-1) f z X)) hP hW (im_F hI) hs (frM_N hI.1) rfl (hI.1.1 3311 (by decide) (by decide)) (hI.1.1 3314 (by decide) (by decide)) (hI.1.2 41 (by decide) (by decide) (by decide) (by decide) (by decide) (by decide)) (hI.1.2 42 (by decide) (by decide) (by decide) (by decide) (by decide) (by decide)) (hI.1.2 43 (by decide) (by decide) (by decide) (by decide) (by decide) (by decide)) rfl (R * 6) 0 _ _ _ rfl ⟨frJ_rf, ⟨(hI.1.1 3306 (by decide) (by decide)).trans hP.1.1, fun t ht => by show F.2 37 t = _ ∧ F.2 38 t = _ ∧ F.2 39 t = _ ∧ ∀ i, i < _ → F.2 40 (t * 20 + i) = _; rw [show F.2 37 = S.2 37 from (hI.1.2 37 (by decide) (by decide) (by decide) (by decide) (by decide) (by decide)), show F.2 38 = S.2 38 from (hI.1.2 38 (by decide) (by decide) (by decide) (by decide) (by decide) (by decide)), show F.2 39 = S.2 39 from (hI.1.2 39 (by decide) (by decide) (by decide) (by decide) (by decide) (by decide)), show F.2 40 = S.2 40 from (hI.1.2 40 (by decide) (by decide) (by decide) (by decide) (by decide) (by decide))]; exact hP.2.2.2 t ht⟩, hW.1.2.2, fun j hj => by omega⟩) rfl rfl rfl rfl
set_option maxRecDepth 20000 in
theorem sp_Mo_read_1 {g : aw_G} {S : aw_S} {P : xp_T} {n : Nat} {T : Nat → Int32} (hP : xp_M S P) (hW : xp_wd P) (hc : TPm S n T)  : Sp g M_Mo_read 7 158 0 0 [.ref 33, .int (nI 1)] (HP S) (rdM S P (rdX T n nm0)) := by
  refine Sp.of rfl (aw_le rfl) ?_
  refine aw_iload_n (aw_d q_Mo_read 0 rfl) rfl rfl ?_
  refine aw_iconst (v := nI 0) (aw_d q_Mo_read 1 rfl) (by decide) ?_
  refine aw_iconst (v := nI 3) (aw_d q_Mo_read 2 rfl) (by decide) ?_
  refine cSr (aw_d q_Mo_read 3 rfl) (sp_Mo_in (x := nI 1) (A := 0) (B := 3) rfl rfl) sL_Mo_81 rfl rfl rfl rfl ⟨aw_le rfl, aw_le rfl⟩ ?_
  refine aw_ifB_ne (tgt := 16) (aw_d q_Mo_read 4 rfl) (by decide) (fun c6 => ?_) (fun c6 => by exact absurd (by decide) c6)
  refine aw_aload_n (aw_d q_Mo_read 10 rfl) rfl rfl rfl ?_
  refine cVv (aw_d q_Mo_read 11 rfl) (sp_mbegin) vL_Mo_470_Mo rfl rfl rfl rfl rfl rfl ⟨aw_le rfl, aw_le rfl⟩ ?_
  refine aw_iload_n (aw_d q_Mo_read 12 rfl) rfl rfl ?_
  refine aw_ifN_ne (tgt := 31) (aw_d q_Mo_read 13 rfl) (by decide) (by (have hW1 := hW.1; omega)) (fun c21 => ?_) (fun c21 => by exfalso; (have hW1 := hW.1; omega))
  refine aw_iload_n (aw_d q_Mo_read 17 rfl) rfl rfl ?_
  refine aw_iconst (v := nI 1) (aw_d q_Mo_read 18 rfl) (by decide) ?_
  refine aw_icmpN_ne (tgt := 43) (aw_d q_Mo_read 19 rfl) (by decide) (by (have hW1 := hW.1; omega)) (by (have hW1 := hW.1; omega)) (fun c33 => by exfalso; (have hW1 := hW.1; omega)) (fun c33 => ?_)
  refine aw_aload_n (aw_d q_Mo_read 20 rfl) rfl rfl rfl ?_
  refine cV (aw_d q_Mo_read 21 rfl) (sp_readT (S := mB S) (D := mB S) (N := nm0) mB_I (mB_TP hc)) vL_Mo_476_Mo rfl rfl rfl rfl rfl rfl ⟨aw_le rfl, aw_le rfl⟩ (fun r37 h37 hp37 => ?_)
  rw [rXp_X]
  cases hx : rXp T n nm0 with
  | error u =>
    rw [hx] at hp37
    obtain ⟨rfl, hu, F, b, f, z, X, hF, hb, rfl⟩ := hp37
    refine aw_goto (tgt := 57) (aw_d q_Mo_read 22 rfl) (by decide) ?_
    refine aw_aload_n (aw_d q_Mo_read 31 rfl) rfl rfl rfl ?_
    refine cVr (aw_d q_Mo_read 32 rfl) (sp_goesI hu) vL_Mo_327_Mo rfl rfl rfl rfl rfl rfl ⟨aw_le rfl, aw_le rfl⟩ ?_
    refine aw_ifN_ne (tgt := 69) (aw_d q_Mo_read 33 rfl) (by decide) (by (have hW1 := hW.1; omega)) (fun c61 => by exfalso; (have hW1 := hW.1; omega)) (fun c61 => ?_)
    refine aw_aload_n (aw_d q_Mo_read 34 rfl) rfl rfl rfl ?_
    refine cVr (aw_d q_Mo_read 35 rfl) (sp_faulty) vL_Mo_482_Mo rfl rfl rfl rfl rfl rfl ⟨aw_le rfl, aw_le rfl⟩ ?_
    exact aw_iret (aw_d q_Mo_read 36 rfl) rfl (by exact ⟨rfl, _, rfl, rfl, rm_no (F := F) hP (frM_N hF) (hF.1 3311 (by decide) (by decide)) (hF.1 3314 (by decide) (by decide)) (hF.2 41 (by decide) (by decide) (by decide) (by decide) (by decide) (by decide)) (hF.2 42 (by decide) (by decide) (by decide) (by decide) (by decide) (by decide)) (hF.2 43 (by decide) (by decide) (by decide) (by decide) (by decide) (by decide)) (E := tsO P) (fun t ht => by have e37 := hF.2 37 (by decide) (by decide) (by decide) (by decide) (by decide) (by decide); have e38 := hF.2 38 (by decide) (by decide) (by decide) (by decide) (by decide) (by decide); have e39 := hF.2 39 (by decide) (by decide) (by decide) (by decide) (by decide) (by decide); have e40 := hF.2 40 (by decide) (by decide) (by decide) (by decide) (by decide) (by decide); show F.2 37 t = _ ∧ F.2 38 t = _ ∧ F.2 39 t = _ ∧ ∀ i, i < _ → F.2 40 (t * 20 + i) = _; rw [e37, e38, e39, e40]; exact hP.2.2.2 t ht) tsLe_rf ((hF.1 3306 (by decide) (by decide)).trans hP.1.1), frM_N hF⟩)
  | ok y =>
    rw [hx] at hp37
    obtain ⟨p, N, R, s⟩ := y
    obtain ⟨rfl, F, f, z, X, ⟨hI, hs⟩, hp, rfl⟩ := hp37
    refine aw_goto (tgt := 57) (aw_d q_Mo_read 22 rfl) (by decide) ?_
    refine aw_aload_n (aw_d q_Mo_read 31 rfl) rfl rfl rfl ?_
    refine cVr (aw_d q_Mo_read 32 rfl) (sp_goesA) vL_Mo_327_Mo rfl rfl rfl rfl rfl rfl ⟨aw_le rfl, aw_le rfl⟩ ?_
    refine aw_ifN_ne (tgt := 69) (aw_d q_Mo_read 33 rfl) (by decide) (by (have hW1 := hW.1; omega)) (fun c61 => ?_) (fun c61 => by exfalso; (have hW1 := hW.1; omega))
    refine aw_aload_n (aw_d q_Mo_read 37 rfl) rfl rfl rfl ?_
    refine aw_iconst (v := nI 0) (aw_d q_Mo_read 38 rfl) (by decide) ?_
    refine wi_33_0 (aw_d q_Mo_read 39 rfl) pL_Mo_85_Mo ?_
    refine aw_aload_n (aw_d q_Mo_read 40 rfl) rfl rfl rfl ?_
    refine aw_getf (v := .int (nI ((xp_t P)))) (aw_d q_Mo_read 41 rfl) fL_Mo_109_Mo rfl (gk ((hI.1.1 3306 (by decide) (by decide)).trans hP.1.1)) ?_
    refine aw_istore_n (aw_d q_Mo_read 42 rfl) rfl (aw_le rfl) rfl ?_
    refine aw_iconst (v := nI 0) (aw_d q_Mo_read 43 rfl) (by decide) ?_
    refine aw_istore_n (aw_d q_Mo_read 44 rfl) rfl (aw_le rfl) rfl ?_
    rw [bd_ok]
    exact AW.to (lp_rk (F := nT (QM F (nI p) (-1) f z X)) hP hW (im_F hI) hs (frM_N hI.1) rfl (hI.1.1 3311 (by decide) (by decide)) (hI.1.1 3314 (by decide) (by decide)) (hI.1.2 41 (by decide) (by decide) (by decide) (by decide) (by decide) (by decide)) (hI.1.2 42 (by decide) (by decide) (by decide) (by decide) (by decide) (by decide)) (hI.1.2 43 (by decide) (by decide) (by decide) (by decide) (by decide) (by decide)) rfl (R * 6) 0 _ _ _ rfl ⟨frJ_rf, ⟨(hI.1.1 3306 (by decide) (by decide)).trans hP.1.1, fun t ht => by show F.2 37 t = _ ∧ F.2 38 t = _ ∧ F.2 39 t = _ ∧ ∀ i, i < _ → F.2 40 (t * 20 + i) = _; rw [show F.2 37 = S.2 37 from (hI.1.2 37 (by decide) (by decide) (by decide) (by decide) (by decide) (by decide)), show F.2 38 = S.2 38 from (hI.1.2 38 (by decide) (by decide) (by decide) (by decide) (by decide) (by decide)), show F.2 39 = S.2 39 from (hI.1.2 39 (by decide) (by decide) (by decide) (by decide) (by decide) (by decide)), show F.2 40 = S.2 40 from (hI.1.2 40 (by decide) (by decide) (by decide) (by decide) (by decide) (by decide))]; exact hP.2.2.2 t ht⟩, hW.1.2.2, fun j hj => by omega⟩) rfl rfl rfl rfl
set_option maxRecDepth 20000 in
theorem sp_Mo_read_2 {g : aw_G} {S : aw_S} {P : xp_T} {n : Nat} {T : Nat → Int32} (hP : xp_M S P) (hW : xp_wd P) (hc : TPm S n T)  : Sp g M_Mo_read 7 158 0 0 [.ref 33, .int (nI 2)] (HP S) (rdM S P (rdL true T n nm0)) := by
  refine Sp.of rfl (aw_le rfl) ?_
  refine aw_iload_n (aw_d q_Mo_read 0 rfl) rfl rfl ?_
  refine aw_iconst (v := nI 0) (aw_d q_Mo_read 1 rfl) (by decide) ?_
  refine aw_iconst (v := nI 3) (aw_d q_Mo_read 2 rfl) (by decide) ?_
  refine cSr (aw_d q_Mo_read 3 rfl) (sp_Mo_in (x := nI 2) (A := 0) (B := 3) rfl rfl) sL_Mo_81 rfl rfl rfl rfl ⟨aw_le rfl, aw_le rfl⟩ ?_
  refine aw_ifB_ne (tgt := 16) (aw_d q_Mo_read 4 rfl) (by decide) (fun c6 => ?_) (fun c6 => by exact absurd (by decide) c6)
  refine aw_aload_n (aw_d q_Mo_read 10 rfl) rfl rfl rfl ?_
  refine cVv (aw_d q_Mo_read 11 rfl) (sp_mbegin) vL_Mo_470_Mo rfl rfl rfl rfl rfl rfl ⟨aw_le rfl, aw_le rfl⟩ ?_
  refine aw_iload_n (aw_d q_Mo_read 12 rfl) rfl rfl ?_
  refine aw_ifN_ne (tgt := 31) (aw_d q_Mo_read 13 rfl) (by decide) (by (have hW1 := hW.1; omega)) (fun c21 => ?_) (fun c21 => by exfalso; (have hW1 := hW.1; omega))
  refine aw_iload_n (aw_d q_Mo_read 17 rfl) rfl rfl ?_
  refine aw_iconst (v := nI 1) (aw_d q_Mo_read 18 rfl) (by decide) ?_
  refine aw_icmpN_ne (tgt := 43) (aw_d q_Mo_read 19 rfl) (by decide) (by (have hW1 := hW.1; omega)) (by (have hW1 := hW.1; omega)) (fun c33 => ?_) (fun c33 => by exfalso; (have hW1 := hW.1; omega))
  refine aw_aload_n (aw_d q_Mo_read 23 rfl) rfl rfl rfl ?_
  refine aw_iload_n (aw_d q_Mo_read 24 rfl) rfl rfl ?_
  refine aw_iconst (v := nI 2) (aw_d q_Mo_read 25 rfl) (by decide) ?_
  refine aw_icmpN_ne (tgt := 53) (aw_d q_Mo_read 26 rfl) (by decide) (by (have hW1 := hW.1; omega)) (by (have hW1 := hW.1; omega)) (fun c46 => by exfalso; (have hW1 := hW.1; omega)) (fun c46 => ?_)
  refine aw_iconst (v := nI 1) (aw_d q_Mo_read 27 rfl) (by decide) ?_
  refine aw_goto (tgt := 54) (aw_d q_Mo_read 28 rfl) (by decide) ?_
  refine cV (aw_d q_Mo_read 30 rfl) (sp_readL_t (S := mB S) (D := mB S) (N := nm0) mB_I (mB_TP hc)) vL_Mo_479_Mo rfl rfl rfl rfl rfl rfl ⟨aw_le rfl, aw_le rfl⟩ (fun r54 h54 hp54 => ?_)
  rw [rLp_L]
  cases hx : rLp true T n nm0 with
  | error u =>
    rw [hx] at hp54
    obtain ⟨rfl, hu, F, b, f, z, X, hF, hb, rfl⟩ := hp54
    refine aw_aload_n (aw_d q_Mo_read 31 rfl) rfl rfl rfl ?_
    refine cVr (aw_d q_Mo_read 32 rfl) (sp_goesI hu) vL_Mo_327_Mo rfl rfl rfl rfl rfl rfl ⟨aw_le rfl, aw_le rfl⟩ ?_
    refine aw_ifN_ne (tgt := 69) (aw_d q_Mo_read 33 rfl) (by decide) (by (have hW1 := hW.1; omega)) (fun c61 => by exfalso; (have hW1 := hW.1; omega)) (fun c61 => ?_)
    refine aw_aload_n (aw_d q_Mo_read 34 rfl) rfl rfl rfl ?_
    refine cVr (aw_d q_Mo_read 35 rfl) (sp_faulty) vL_Mo_482_Mo rfl rfl rfl rfl rfl rfl ⟨aw_le rfl, aw_le rfl⟩ ?_
    exact aw_iret (aw_d q_Mo_read 36 rfl) rfl (by exact ⟨rfl, _, rfl, rfl, rm_no (F := F) hP (frM_N hF) (hF.1 3311 (by decide) (by decide)) (hF.1 3314 (by decide) (by decide)) (hF.2 41 (by decide) (by decide) (by decide) (by decide) (by decide) (by decide)) (hF.2 42 (by decide) (by decide) (by decide) (by decide) (by decide) (by decide)) (hF.2 43 (by decide) (by decide) (by decide) (by decide) (by decide) (by decide)) (E := tsO P) (fun t ht => by have e37 := hF.2 37 (by decide) (by decide) (by decide) (by decide) (by decide) (by decide); have e38 := hF.2 38 (by decide) (by decide) (by decide) (by decide) (by decide) (by decide); have e39 := hF.2 39 (by decide) (by decide) (by decide) (by decide) (by decide) (by decide); have e40 := hF.2 40 (by decide) (by decide) (by decide) (by decide) (by decide) (by decide); show F.2 37 t = _ ∧ F.2 38 t = _ ∧ F.2 39 t = _ ∧ ∀ i, i < _ → F.2 40 (t * 20 + i) = _; rw [e37, e38, e39, e40]; exact hP.2.2.2 t ht) tsLe_rf ((hF.1 3306 (by decide) (by decide)).trans hP.1.1), frM_N hF⟩)
  | ok y =>
    rw [hx] at hp54
    obtain ⟨p, N, R, s⟩ := y
    obtain ⟨rfl, F, f, z, X, ⟨hI, hs⟩, hp, rfl⟩ := hp54
    refine aw_aload_n (aw_d q_Mo_read 31 rfl) rfl rfl rfl ?_
    refine cVr (aw_d q_Mo_read 32 rfl) (sp_goesA) vL_Mo_327_Mo rfl rfl rfl rfl rfl rfl ⟨aw_le rfl, aw_le rfl⟩ ?_
    refine aw_ifN_ne (tgt := 69) (aw_d q_Mo_read 33 rfl) (by decide) (by (have hW1 := hW.1; omega)) (fun c61 => ?_) (fun c61 => by exfalso; (have hW1 := hW.1; omega))
    refine aw_aload_n (aw_d q_Mo_read 37 rfl) rfl rfl rfl ?_
    refine aw_iconst (v := nI 0) (aw_d q_Mo_read 38 rfl) (by decide) ?_
    refine wi_33_0 (aw_d q_Mo_read 39 rfl) pL_Mo_85_Mo ?_
    refine aw_aload_n (aw_d q_Mo_read 40 rfl) rfl rfl rfl ?_
    refine aw_getf (v := .int (nI ((xp_t P)))) (aw_d q_Mo_read 41 rfl) fL_Mo_109_Mo rfl (gk ((hI.1.1 3306 (by decide) (by decide)).trans hP.1.1)) ?_
    refine aw_istore_n (aw_d q_Mo_read 42 rfl) rfl (aw_le rfl) rfl ?_
    refine aw_iconst (v := nI 0) (aw_d q_Mo_read 43 rfl) (by decide) ?_
    refine aw_istore_n (aw_d q_Mo_read 44 rfl) rfl (aw_le rfl) rfl ?_
    rw [bd_ok]
    exact AW.to (lp_rk (F := nT (QM F (nI p) (-1) f z X)) hP hW (im_F hI) hs (frM_N hI.1) rfl (hI.1.1 3311 (by decide) (by decide)) (hI.1.1 3314 (by decide) (by decide)) (hI.1.2 41 (by decide) (by decide) (by decide) (by decide) (by decide) (by decide)) (hI.1.2 42 (by decide) (by decide) (by decide) (by decide) (by decide) (by decide)) (hI.1.2 43 (by decide) (by decide) (by decide) (by decide) (by decide) (by decide)) rfl (R * 6) 0 _ _ _ rfl ⟨frJ_rf, ⟨(hI.1.1 3306 (by decide) (by decide)).trans hP.1.1, fun t ht => by show F.2 37 t = _ ∧ F.2 38 t = _ ∧ F.2 39 t = _ ∧ ∀ i, i < _ → F.2 40 (t * 20 + i) = _; rw [show F.2 37 = S.2 37 from (hI.1.2 37 (by decide) (by decide) (by decide) (by decide) (by decide) (by decide)), show F.2 38 = S.2 38 from (hI.1.2 38 (by decide) (by decide) (by decide) (by decide) (by decide) (by decide)), show F.2 39 = S.2 39 from (hI.1.2 39 (by decide) (by decide) (by decide) (by decide) (by decide) (by decide)), show F.2 40 = S.2 40 from (hI.1.2 40 (by decide) (by decide) (by decide) (by decide) (by decide) (by decide))]; exact hP.2.2.2 t ht⟩, hW.1.2.2, fun j hj => by omega⟩) rfl rfl rfl rfl
set_option maxRecDepth 20000 in
theorem sp_Mo_read_3 {g : aw_G} {S : aw_S} {P : xp_T} {n : Nat} {T : Nat → Int32} (hP : xp_M S P) (hW : xp_wd P) (hc : TPm S n T)  : Sp g M_Mo_read 7 158 0 0 [.ref 33, .int (nI 3)] (HP S) (rdM S P (rdL false T n nm0)) := by
  refine Sp.of rfl (aw_le rfl) ?_
  refine aw_iload_n (aw_d q_Mo_read 0 rfl) rfl rfl ?_
  refine aw_iconst (v := nI 0) (aw_d q_Mo_read 1 rfl) (by decide) ?_
  refine aw_iconst (v := nI 3) (aw_d q_Mo_read 2 rfl) (by decide) ?_
  refine cSr (aw_d q_Mo_read 3 rfl) (sp_Mo_in (x := nI 3) (A := 0) (B := 3) rfl rfl) sL_Mo_81 rfl rfl rfl rfl ⟨aw_le rfl, aw_le rfl⟩ ?_
  refine aw_ifB_ne (tgt := 16) (aw_d q_Mo_read 4 rfl) (by decide) (fun c6 => ?_) (fun c6 => by exact absurd (by decide) c6)
  refine aw_aload_n (aw_d q_Mo_read 10 rfl) rfl rfl rfl ?_
  refine cVv (aw_d q_Mo_read 11 rfl) (sp_mbegin) vL_Mo_470_Mo rfl rfl rfl rfl rfl rfl ⟨aw_le rfl, aw_le rfl⟩ ?_
  refine aw_iload_n (aw_d q_Mo_read 12 rfl) rfl rfl ?_
  refine aw_ifN_ne (tgt := 31) (aw_d q_Mo_read 13 rfl) (by decide) (by (have hW1 := hW.1; omega)) (fun c21 => ?_) (fun c21 => by exfalso; (have hW1 := hW.1; omega))
  refine aw_iload_n (aw_d q_Mo_read 17 rfl) rfl rfl ?_
  refine aw_iconst (v := nI 1) (aw_d q_Mo_read 18 rfl) (by decide) ?_
  refine aw_icmpN_ne (tgt := 43) (aw_d q_Mo_read 19 rfl) (by decide) (by (have hW1 := hW.1; omega)) (by (have hW1 := hW.1; omega)) (fun c33 => ?_) (fun c33 => by exfalso; (have hW1 := hW.1; omega))
  refine aw_aload_n (aw_d q_Mo_read 23 rfl) rfl rfl rfl ?_
  refine aw_iload_n (aw_d q_Mo_read 24 rfl) rfl rfl ?_
  refine aw_iconst (v := nI 2) (aw_d q_Mo_read 25 rfl) (by decide) ?_
  refine aw_icmpN_ne (tgt := 53) (aw_d q_Mo_read 26 rfl) (by decide) (by (have hW1 := hW.1; omega)) (by (have hW1 := hW.1; omega)) (fun c46 => ?_) (fun c46 => by exfalso; (have hW1 := hW.1; omega))
  refine aw_iconst (v := nI 0) (aw_d q_Mo_read 29 rfl) (by decide) ?_
  refine cV (aw_d q_Mo_read 30 rfl) (sp_readL_f (S := mB S) (D := mB S) (N := nm0) mB_I (mB_TP hc)) vL_Mo_479_Mo rfl rfl rfl rfl rfl rfl ⟨aw_le rfl, aw_le rfl⟩ (fun r54 h54 hp54 => ?_)
  rw [rLp_L]
  cases hx : rLp false T n nm0 with
  | error u =>
    rw [hx] at hp54
    obtain ⟨rfl, hu, F, b, f, z, X, hF, hb, rfl⟩ := hp54
    refine aw_aload_n (aw_d q_Mo_read 31 rfl) rfl rfl rfl ?_
    refine cVr (aw_d q_Mo_read 32 rfl) (sp_goesI hu) vL_Mo_327_Mo rfl rfl rfl rfl rfl rfl ⟨aw_le rfl, aw_le rfl⟩ ?_
    refine aw_ifN_ne (tgt := 69) (aw_d q_Mo_read 33 rfl) (by decide) (by (have hW1 := hW.1; omega)) (fun c61 => by exfalso; (have hW1 := hW.1; omega)) (fun c61 => ?_)
    refine aw_aload_n (aw_d q_Mo_read 34 rfl) rfl rfl rfl ?_
    refine cVr (aw_d q_Mo_read 35 rfl) (sp_faulty) vL_Mo_482_Mo rfl rfl rfl rfl rfl rfl ⟨aw_le rfl, aw_le rfl⟩ ?_
    exact aw_iret (aw_d q_Mo_read 36 rfl) rfl (by exact ⟨rfl, _, rfl, rfl, rm_no (F := F) hP (frM_N hF) (hF.1 3311 (by decide) (by decide)) (hF.1 3314 (by decide) (by decide)) (hF.2 41 (by decide) (by decide) (by decide) (by decide) (by decide) (by decide)) (hF.2 42 (by decide) (by decide) (by decide) (by decide) (by decide) (by decide)) (hF.2 43 (by decide) (by decide) (by decide) (by decide) (by decide) (by decide)) (E := tsO P) (fun t ht => by have e37 := hF.2 37 (by decide) (by decide) (by decide) (by decide) (by decide) (by decide); have e38 := hF.2 38 (by decide) (by decide) (by decide) (by decide) (by decide) (by decide); have e39 := hF.2 39 (by decide) (by decide) (by decide) (by decide) (by decide) (by decide); have e40 := hF.2 40 (by decide) (by decide) (by decide) (by decide) (by decide) (by decide); show F.2 37 t = _ ∧ F.2 38 t = _ ∧ F.2 39 t = _ ∧ ∀ i, i < _ → F.2 40 (t * 20 + i) = _; rw [e37, e38, e39, e40]; exact hP.2.2.2 t ht) tsLe_rf ((hF.1 3306 (by decide) (by decide)).trans hP.1.1), frM_N hF⟩)
  | ok y =>
    rw [hx] at hp54
    obtain ⟨p, N, R, s⟩ := y
    obtain ⟨rfl, F, f, z, X, ⟨hI, hs⟩, hp, rfl⟩ := hp54
    refine aw_aload_n (aw_d q_Mo_read 31 rfl) rfl rfl rfl ?_
    refine cVr (aw_d q_Mo_read 32 rfl) (sp_goesA) vL_Mo_327_Mo rfl rfl rfl rfl rfl rfl ⟨aw_le rfl, aw_le rfl⟩ ?_
    refine aw_ifN_ne (tgt := 69) (aw_d q_Mo_read 33 rfl) (by decide) (by (have hW1 := hW.1; omega)) (fun c61 => ?_) (fun c61 => by exfalso; (have hW1 := hW.1; omega))
    refine aw_aload_n (aw_d q_Mo_read 37 rfl) rfl rfl rfl ?_
    refine aw_iconst (v := nI 0) (aw_d q_Mo_read 38 rfl) (by decide) ?_
    refine wi_33_0 (aw_d q_Mo_read 39 rfl) pL_Mo_85_Mo ?_
    refine aw_aload_n (aw_d q_Mo_read 40 rfl) rfl rfl rfl ?_
    refine aw_getf (v := .int (nI ((xp_t P)))) (aw_d q_Mo_read 41 rfl) fL_Mo_109_Mo rfl (gk ((hI.1.1 3306 (by decide) (by decide)).trans hP.1.1)) ?_
    refine aw_istore_n (aw_d q_Mo_read 42 rfl) rfl (aw_le rfl) rfl ?_
    refine aw_iconst (v := nI 0) (aw_d q_Mo_read 43 rfl) (by decide) ?_
    refine aw_istore_n (aw_d q_Mo_read 44 rfl) rfl (aw_le rfl) rfl ?_
    rw [bd_ok]
    exact AW.to (lp_rk (F := nT (QM F (nI p) (-1) f z X)) hP hW (im_F hI) hs (frM_N hI.1) rfl (hI.1.1 3311 (by decide) (by decide)) (hI.1.1 3314 (by decide) (by decide)) (hI.1.2 41 (by decide) (by decide) (by decide) (by decide) (by decide) (by decide)) (hI.1.2 42 (by decide) (by decide) (by decide) (by decide) (by decide) (by decide)) (hI.1.2 43 (by decide) (by decide) (by decide) (by decide) (by decide) (by decide)) rfl (R * 6) 0 _ _ _ rfl ⟨frJ_rf, ⟨(hI.1.1 3306 (by decide) (by decide)).trans hP.1.1, fun t ht => by show F.2 37 t = _ ∧ F.2 38 t = _ ∧ F.2 39 t = _ ∧ ∀ i, i < _ → F.2 40 (t * 20 + i) = _; rw [show F.2 37 = S.2 37 from (hI.1.2 37 (by decide) (by decide) (by decide) (by decide) (by decide) (by decide)), show F.2 38 = S.2 38 from (hI.1.2 38 (by decide) (by decide) (by decide) (by decide) (by decide) (by decide)), show F.2 39 = S.2 39 from (hI.1.2 39 (by decide) (by decide) (by decide) (by decide) (by decide) (by decide)), show F.2 40 = S.2 40 from (hI.1.2 40 (by decide) (by decide) (by decide) (by decide) (by decide) (by decide))]; exact hP.2.2.2 t ht⟩, hW.1.2.2, fun j hj => by omega⟩) rfl rfl rfl rfl
set_option maxRecDepth 20000 in
theorem sp_Mo_readB {g : aw_G} {S : aw_S} {x : Int32} (hx : x.toInt < 0 ∨ 3 < x.toInt) : Sp g M_Mo_read 7 158 0 0 [.ref 33, .int x] (HP S) (fun r h => r = some (.int (-1)) ∧ h = HP (nT S)) := by
  refine Sp.of rfl (aw_le rfl) ?_
  refine aw_iload_n (aw_d q_Mo_read 0 rfl) rfl rfl ?_
  refine aw_iconst (v := nI 0) (aw_d q_Mo_read 1 rfl) (by decide) ?_
  refine aw_iconst (v := nI 3) (aw_d q_Mo_read 2 rfl) (by decide) ?_
  refine cSr (aw_d q_Mo_read 3 rfl) (sp_Mo_in (A := 0) (B := 3) rfl rfl) sL_Mo_81 rfl rfl rfl rfl ⟨aw_le rfl, aw_le rfl⟩ ?_
  refine aw_ifB_ne (tgt := 16) (aw_d q_Mo_read 4 rfl) (by decide) (fun c6 => by exfalso; omega) (fun c6 => ?_)
  refine aw_aload_n (aw_d q_Mo_read 5 rfl) rfl rfl rfl ?_
  refine aw_iconst (v := nI 0) (aw_d q_Mo_read 6 rfl) (by decide) ?_
  refine wi_33_0 (aw_d q_Mo_read 7 rfl) pL_Mo_85_Mo ?_
  refine aw_iconst (v := (-1)) (aw_d q_Mo_read 8 rfl) (by decide) ?_
  exact aw_iret (aw_d q_Mo_read 9 rfl) rfl (⟨rfl, rfl⟩)
set_option maxRecDepth 20000 in
theorem sp_Mo_hearB {g : aw_G} {S : aw_S} {x : Int32} (hx : x.toInt < 0 ∨ 1 < x.toInt) : Sp g M_Mo_hear 4 89 0 0 [.ref 33, .int x] (HP S) (fun r h => r = some (.int (-1)) ∧ h = HP (nT S)) := by
  refine Sp.of rfl (aw_le rfl) ?_
  refine aw_iload_n (aw_d q_Mo_hear 0 rfl) rfl rfl ?_
  refine aw_iconst (v := nI 0) (aw_d q_Mo_hear 1 rfl) (by decide) ?_
  refine aw_iconst (v := nI 1) (aw_d q_Mo_hear 2 rfl) (by decide) ?_
  refine cSr (aw_d q_Mo_hear 3 rfl) (sp_Mo_in (A := 0) (B := 1) rfl rfl) sL_Mo_81 rfl rfl rfl rfl ⟨aw_le rfl, aw_le rfl⟩ ?_
  refine aw_ifB_ne (tgt := 16) (aw_d q_Mo_hear 4 rfl) (by decide) (fun c6 => by exfalso; omega) (fun c6 => ?_)
  refine aw_aload_n (aw_d q_Mo_hear 5 rfl) rfl rfl rfl ?_
  refine aw_iconst (v := nI 0) (aw_d q_Mo_hear 6 rfl) (by decide) ?_
  refine wi_33_0 (aw_d q_Mo_hear 7 rfl) pL_Mo_85_Mo ?_
  refine aw_iconst (v := (-1)) (aw_d q_Mo_hear 8 rfl) (by decide) ?_
  exact aw_iret (aw_d q_Mo_hear 9 rfl) rfl (⟨rfl, rfl⟩)
