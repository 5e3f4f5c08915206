/-! the reference's names and items while it reads -/
def frM (S D : aw_S) : Prop := (∀ j, j ≠ 3323 → j ≠ 3326 → D.1 j = S.1 j) ∧ ∀ c, c ≠ 48 → c ≠ 49 → c ≠ 50 → c ≠ 51 → c ≠ 52 → c ≠ 53 → D.2 c = S.2 c
theorem frM_rf {S : aw_S} : frM S S := ⟨fun _ _ _ => rfl, fun _ _ _ _ _ _ _ => rfl⟩
theorem frM_tr {S D F : aw_S} (h1 : frM S D) (h2 : frM D F) : frM S F := ⟨fun j a b => (h2.1 j a b).trans (h1.1 j a b), fun c a1 a2 a3 a4 a5 a6 => (h2.2 c a1 a2 a3 a4 a5 a6).trans (h1.2 c a1 a2 a3 a4 a5 a6)⟩
theorem frM_si {S D : aw_S} {k : Nat} {v : Int32} (h : frM S D) (hk : k = 3323 ∨ k = 3326) : frM S (si D k v) := ⟨fun j a b => by rw [si_1, if_neg (by omega)]; exact h.1 j a b, h.2⟩
theorem frM_sa {S D : aw_S} {k : Nat} {f : Nat → Int32} (h : frM S D) (hk : k = 48 ∨ k = 49 ∨ k = 50 ∨ k = 51 ∨ k = 52 ∨ k = 53) : frM S (sa D k f) := ⟨h.1, fun c a1 a2 a3 a4 a5 a6 => by rw [sa_2, if_neg (by omega)]; exact h.2 c a1 a2 a3 a4 a5 a6⟩
theorem frM_TP {S D : aw_S} {n : Nat} {T : Nat → Int32} (h : frM S D) (hc : TPm S n T) : TPm D n T := ⟨(h.1 3300 (by decide) (by decide)).trans hc.1, hc.2.1, fun i hi => by rw [h.2 34 (by decide) (by decide) (by decide) (by decide) (by decide) (by decide)]; exact hc.2.2.1 i hi, hc.2.2.2⟩
def nmM (D : aw_S) (N : nm_T) : Prop := D.1 3323 = nI N.1 ∧ N.1 ≤ 6 ∧ ∀ v, v < N.1 → D.2 48 v = nI (N.2.1 v) ∧ (1 ≤ N.2.1 v ∧ N.2.1 v ≤ 8) ∧ ∀ i, i < N.2.1 v → D.2 49 (v * 8 + i) = N.2.2 v i
def nmP (N : nm_T) (T : Nat → Int32) (a len v : Nat) : Bool := decide (N.2.1 v = len) && eqB (N.2.2 v) (fun i => T (a + i)) len 0
theorem nmF_P {N : nm_T} {T : Nat → Int32} {a len : Nat} : nmF N T a len = fdB (nmP N T a len) N.1 0 := rfl
/-- no two names are one -/
def nmD (N : nm_T) : Prop := ∀ v w, v < w → w < N.1 → ¬ (N.2.1 v = N.2.1 w ∧ ∀ i, i < N.2.1 v → N.2.2 v i = N.2.2 w i)
theorem nmD_0 : nmD (0, fun _ => 0, fun _ _ => 0) := fun v w _ hw => by cases hw
def lsB (p : Nat → Bool) : Nat → Option Nat
  | 0 => none
  | v + 1 => if p v = true then some v else lsB p v
theorem lsB_fd {p : Nat → Bool} : ∀ {m : Nat}, (∀ v w, v < m → w < m → p v = true → p w = true → v = w) → lsB p m = fdB p m 0 := by
  intro m hu
  cases hf : fdB p m 0 with
  | none =>
    have h0 := fdB_none hf
    have : ∀ k, k ≤ m → lsB p k = none := by
      intro k
      induction k with
      | zero => intro _; rfl
      | succ k ih => intro hk; simp only [lsB]; rw [h0 k (by omega) (by omega)]; exact ih (by omega)
    exact this m (Nat.le_refl _)
  | some t =>
    obtain ⟨-, h2, h3⟩ := fdB_some hf
    have : ∀ k, t < k → k ≤ m → lsB p k = some t := by
      intro k
      induction k with
      | zero => intro h _; omega
      | succ k ih =>
        intro h1 hk
        simp only [lsB]
        by_cases hp : p k = true
        · rw [if_pos hp, hu k t (by omega) (by omega) hp h3]
        · rw [if_neg hp]
          refine ih ?_ (by omega)
          by_cases hq : k = t
          · rw [hq] at hp; exact absurd h3 hp
          · omega
    exact this m (by omega) (Nat.le_refl _)
theorem nmP_iff {N : nm_T} {T : Nat → Int32} {a len v : Nat} : nmP N T a len v = true ↔ N.2.1 v = len ∧ ∀ i, i < len → N.2.2 v i = T (a + i) := by
  simp only [nmP, Bool.and_eq_true, decide_eq_true_eq, eqB_iff]
  exact ⟨fun h => ⟨h.1, fun i hi => h.2 i (by omega) (by omega)⟩, fun h => ⟨h.1, fun i _ hi => h.2 i (by omega)⟩⟩
theorem nmF_ls {N : nm_T} {T : Nat → Int32} {a len : Nat} (hD : nmD N) : lsB (nmP N T a len) N.1 = nmF N T a len := by
  rw [nmF_P]
  refine lsB_fd (fun v w hv hw h1 h2 => ?_)
  obtain ⟨a1, a2⟩ := nmP_iff.mp h1
  obtain ⟨b1, b2⟩ := nmP_iff.mp h2
  rcases Nat.lt_trichotomy v w with h | h | h
  · exact absurd ⟨a1.trans b1.symm, fun i hi => (a2 i (by omega)).trans (b2 i (by omega)).symm⟩ (hD v w h hw)
  · exact h
  · exact absurd ⟨b1.trans a1.symm, fun i hi => (b2 i (by omega)).trans (a2 i (by omega)).symm⟩ (hD w v h hv)
theorem nmD_add {N : nm_T} {T : Nat → Int32} {a len : Nat} (hD : nmD N) (hf : nmF N T a len = none) : nmD (nmA N T a len) := by
  intro v w hv hw
  have hw : w < N.1 + 1 := hw
  rw [nmF_P] at hf
  have h0 := fdB_none hf
  simp only [nmA]
  rw [if_neg (show v ≠ N.1 by omega)]
  by_cases he : w = N.1
  · rw [if_pos he]
    intro ⟨h1, h2⟩
    have hp : nmP N T a len v = true := nmP_iff.mpr ⟨h1, fun i hi => by have := h2 i (by omega); rw [if_neg (by omega), if_pos he] at this; exact this⟩
    rw [h0 v (by omega) (by omega)] at hp
    cases hp
  · rw [if_neg he]
    intro ⟨h1, h2⟩
    exact hD v w hv (by omega) ⟨h1, fun i hi => by have := h2 i hi; rw [if_neg (by omega), if_neg he] at this; exact this⟩
def lkI (s : sq_T) : Nat → Option (Nat × Nat × List Int32) := s.foldl (fun f x => fun k => if k = x.1 then some x.2 else f k) (fun _ => none)
theorem lkI_add {s : sq_T} {x : it_T} {k : Nat} : lkI (s ++ [x]) k = if k = x.1 then some x.2 else lkI s k := by simp [lkI, List.foldl_append]
theorem lkI_no {s : sq_T} {m : Nat} (hs : ∀ x ∈ s, x.1 < m) {k : Nat} (hk : m ≤ k) : lkI s k = none := by
  have h : ∀ (s : sq_T) (f : Nat → Option (Nat × Nat × List Int32)), (∀ x ∈ s, x.1 < m) → f k = none → s.foldl (fun f x => fun k => if k = x.1 then some x.2 else f k) f k = none := by
    intro s
    induction s with
    | nil => intro f _ hf; exact hf
    | cons x s ih =>
      intro f hx hf
      refine ih _ (fun y hy => hx y (List.mem_cons_of_mem _ hy)) ?_
      have := hx x List.mem_cons_self
      show (if k = x.1 then some x.2 else f k) = none
      rw [if_neg (by omega)]; exact hf
  exact h s _ hs rfl
def clM (D : aw_S) (k : Nat) : Option (Nat × Nat × List Int32) → Prop
  | none => D.2 50 k = -1
  | some y => D.2 50 k = nI y.1 ∧ D.2 51 k = nI y.2.1 ∧ D.2 52 k = nI y.2.2.length ∧ y.2.2.length ≤ 20 ∧ ∀ i, i < y.2.2.length → D.2 53 (k * 20 + i) = y.2.2.getD i 0
def imC (S : aw_S) (N : nm_T) (R : Nat) (s : sq_T) (D : aw_S) : Prop := frM S D ∧ nmM D N ∧ nmD N ∧ (D.1 3326 = nI R ∧ R ≤ 24) ∧ (∀ k, k < R * 6 → clM D k (lkI s k)) ∧ ∀ x ∈ s, x.1 % 6 < N.1
theorem imC_nm {S D : aw_S} {N : nm_T} {T : Nat → Int32} {a len : Nat} (hI : imC S N 0 [] D) (hf : nmF N T a len = none) (h6 : N.1 < 6) (hl1 : 1 ≤ len) (hl8 : len ≤ 8) {ND : Nat → Int32} (b1 : ∀ i, i < len → ND (N.1 * 8 + i) = T (a + i)) (b2 : ∀ j, j < N.1 * 8 → ND j = D.2 49 j) : imC S (nmA N T a len) 0 [] (si (sa (sa D 48 (upd (D.2 48) N.1 (nI len))) 49 ND) 3323 (nI (N.1 + 1))) := by
  obtain ⟨h1, h2, h3, h4, h5, h6'⟩ := hI
  refine ⟨frM_si (frM_sa (frM_sa h1 (by decide)) (by decide)) (by decide), ⟨rfl, by simp only [nmA]; omega, fun v hv => ?_⟩, nmD_add h3 hf, h4, fun k hk => by omega, fun x hx => by cases hx⟩
  have hv : v < N.1 + 1 := hv
  show upd (D.2 48) N.1 (nI len) v = _ ∧ _ ∧ ∀ i, i < _ → ND (v * 8 + i) = _
  simp only [nmA, upd]
  by_cases he : v = N.1
  · simp only [if_pos he]
    exact ⟨trivial, ⟨hl1, hl8⟩, fun i hi => by rw [he]; exact b1 i hi⟩
  · simp only [if_neg he]
    obtain ⟨q1, q2, q3⟩ := h2.2.2 v (by omega)
    exact ⟨q1, q2, fun i hi => by rw [b2 _ (by omega)]; exact q3 i hi⟩
theorem imC_put {S D : aw_S} {N : nm_T} {R : Nat} {s : sq_T} {k kd ex : Nat} {L : List Int32} (hI : imC S N R s D) {BD : Nat → Int32} (b1 : ∀ i, i < L.length → BD (k * 20 + i) = L.getD i 0) (b2 : ∀ j, j < k * 20 → BD j = D.2 53 j) (hs : itOK s k) (hk : k < R * 6) (hL : L.length ≤ 20) (hvn : k % 6 < N.1) : imC S N R (s ++ [(k, kd, ex, L)]) (sa (sa (sa (sa D 50 (upd (D.2 50) k (nI kd))) 51 (upd (D.2 51) k (nI ex))) 52 (upd (D.2 52) k (nI L.length))) 53 BD) := by
  obtain ⟨h1, h2, h3, h4, h5, h6'⟩ := hI
  refine ⟨frM_sa (frM_sa (frM_sa (frM_sa h1 (by decide)) (by decide)) (by decide)) (by decide), h2, h3, h4, fun j hj => ?_, fun x hx => by
    rcases List.mem_append.mp hx with q | q
    · exact h6' x q
    · simp only [List.mem_singleton] at q; subst q; exact hvn⟩
  rw [lkI_add]
  by_cases he : j = k
  · rw [if_pos he]
    show upd (D.2 50) k _ j = _ ∧ upd (D.2 51) k _ j = _ ∧ upd (D.2 52) k _ j = _ ∧ _ ∧ ∀ i, i < _ → BD (j * 20 + i) = _
    simp only [upd]
    rw [if_pos he, if_pos he, if_pos he]
    exact ⟨rfl, rfl, rfl, hL, fun i hi => by rw [he]; exact b1 i hi⟩
  · rw [if_neg he]
    by_cases hlt : j < k
    · have := h5 j hj
      revert this
      cases lkI s j with
      | none => intro q; show upd (D.2 50) k _ j = -1; simp only [upd]; rw [if_neg he]; exact q
      | some y =>
        intro ⟨q1, q2, q3, q20, q4⟩
        show upd (D.2 50) k _ j = _ ∧ upd (D.2 51) k _ j = _ ∧ upd (D.2 52) k _ j = _ ∧ _ ∧ ∀ i, i < _ → BD (j * 20 + i) = _
        simp only [upd]
        rw [if_neg he, if_neg he, if_neg he]
        exact ⟨q1, q2, q3, q20, fun i hi => by rw [b2 _ (by omega)]; exact q4 i hi⟩
    · have q := h5 j hj
      rw [lkI_no (fun x hx => (hs.2 x hx).1) (show k ≤ j by omega)] at q ⊢
      show upd (D.2 50) k _ j = -1
      simp only [upd]
      rw [if_neg he]
      exact q
theorem imC_row {S D : aw_S} {N : nm_T} {R : Nat} {s : sq_T} {CD : Nat → Int32} (hI : imC S N R s D) (hs : itOK s (R * 6)) (h24 : R < 24) (b1 : ∀ v, v < 6 → CD (R * 6 + v) = -1) (b2 : ∀ j, j < R * 6 → CD j = D.2 50 j) : imC S N (R + 1) s (si (sa D 50 CD) 3326 (nI (R + 1))) := by
  obtain ⟨h1, h2, h3, h4, h5, h6'⟩ := hI
  refine ⟨frM_si (frM_sa h1 (by decide)) (by decide), h2, h3, ⟨rfl, by omega⟩, fun j hj => ?_, h6'⟩
  by_cases he : j < R * 6
  · have q := h5 j he
    revert q
    cases lkI s j with
    | none => intro q; show CD j = -1; rw [b2 j he]; exact q
    | some y => intro ⟨q1, q2, q3, q20, q4⟩; exact ⟨by show CD j = _; rw [b2 j he]; exact q1, q2, q3, q20, q4⟩
  · rw [lkI_no (fun x hx => (hs.2 x hx).1) (show R * 6 ≤ j by omega)]
    show CD j = -1
    rw [show j = R * 6 + (j - R * 6) by omega]
    exact b1 _ (by omega)
theorem QM_si {D : aw_S} {a q f z : Int32} {X : Nat → Int32} {j : Nat} {v : Int32} (h : j = 3323 ∨ j = 3326) : si (QM D a q f z X) j v = QM (si D j v) a q f z X := by
  refine s_ext (fun i => ?_) (fun i => rfl)
  simp only [si, upd, QM]
  by_cases hi : i = j
  · rw [if_pos hi, if_neg (by omega), if_neg (by omega), if_neg (by omega), if_neg (by omega), if_pos hi]
  · rw [if_neg hi, if_neg hi]
theorem QM_sa {D : aw_S} {a q f z : Int32} {X : Nat → Int32} {j : Nat} {g : Nat → Int32} (h : j ≠ 54) : sa (QM D a q f z X) j g = QM (sa D j g) a q f z X := by
  refine s_ext (fun i => rfl) (fun i => ?_)
  simp only [sa, va_up, QM]
  by_cases hi : i = j
  · rw [if_pos hi, if_neg (by omega), if_pos hi]
  · rw [if_neg hi, if_neg hi]
set_option maxRecDepth 20000 in
theorem lp_let {g : aw_G} {S : aw_S} {n : Nat} {T : Nat → Int32} {z : Int32} {X : Nat → Int32} {a : Nat} (hc : TPm S n T) : ∀ (m p : Nat), m + p = n → a ≤ p → runB pLet T (n - a) a = runB pLet T m p → AW g M_Mo_letters (aw_rm 2 42 0 0) (aw_F g 0 0 (fun r h => r = some (.int (nI (we T n a - a))) ∧ ((we T n a = a ∧ h = HP (QM S (nI a) (nI a) (nI a) z X)) ∨ (a < we T n a ∧ h = HP (QM S (nI (we T n a)) (-1) (nI a) z X))))) 8 [some (.ref 33)] [] (HP (QM S (nI p) (-1) (nI a) z X)) 0 0 := by
  intro m
  induction m with
  | zero =>
    intro p hk hap he
    have hc2 := hc.2.1
    have hw : we T n a = p := by rw [we, he]; rfl
    refine aw_aload_n (aw_d q_Mo_letters 4 rfl) rfl rfl rfl ?_
    refine cVr (aw_d q_Mo_letters 5 rfl) (sp_goesA) vL_Mo_327_Mo rfl rfl rfl rfl rfl rfl ⟨aw_le rfl, aw_le rfl⟩ ?_
    refine aw_ifN_eq (tgt := 38) (aw_d q_Mo_letters 6 rfl) (by decide) (by (have hc2 := hc.2.1; omega)) (fun c12 => by exfalso; (have hc2 := hc.2.1; omega)) (fun c12 => ?_)
    refine aw_aload_n (aw_d q_Mo_letters 7 rfl) rfl rfl rfl ?_
    refine cVr (aw_d q_Mo_letters 8 rfl) (sp_peek hc (b := p) (by omega)) vL_Mo_331_Mo rfl rfl rfl rfl rfl rfl ⟨aw_le rfl, aw_le rfl⟩ ?_
    refine cSr (aw_d q_Mo_letters 9 rfl) (sp_Mo_isLetter) sL_Mo_100 rfl rfl rfl rfl ⟨aw_le rfl, aw_le rfl⟩ ?_
    refine aw_ifB_eq (tgt := 38) (aw_d q_Mo_letters 10 rfl) (by decide) (fun c22 => ?_) (fun c22 => by rw [hc.2.2.2.1 p (by omega)] at c22; exact absurd c22 (by decide))
    refine aw_aload_n (aw_d q_Mo_letters 18 rfl) rfl rfl rfl ?_
    refine cVr (aw_d q_Mo_letters 19 rfl) (sp_goesA) vL_Mo_327_Mo rfl rfl rfl rfl rfl rfl ⟨aw_le rfl, aw_le rfl⟩ ?_
    refine aw_ifN_eq (tgt := 64) (aw_d q_Mo_letters 20 rfl) (by decide) (by (have hc2 := hc.2.1; omega)) (fun c42 => by exfalso; (have hc2 := hc.2.1; omega)) (fun c42 => ?_)
    refine aw_aload_n (aw_d q_Mo_letters 21 rfl) rfl rfl rfl ?_
    refine aw_getf (v := .int (nI (p))) (aw_d q_Mo_letters 22 rfl) fL_Mo_324_Mo rfl (gk rfl) ?_
    refine aw_aload_n (aw_d q_Mo_letters 23 rfl) rfl rfl rfl ?_
    refine aw_getf (v := .int (nI (a))) (aw_d q_Mo_letters 24 rfl) fL_Mo_346_Mo rfl (gk rfl) ?_
    refine aw_icmpN_ne (tgt := 64) (aw_d q_Mo_letters 25 rfl) (by decide) (by (have hc2 := hc.2.1; omega)) (by (have hc2 := hc.2.1; omega)) (fun c53 => ?_) (fun c53 => ?_)
    · refine aw_aload_n (aw_d q_Mo_letters 30 rfl) rfl rfl rfl ?_
      refine aw_getf (v := .int (nI (p))) (aw_d q_Mo_letters 31 rfl) fL_Mo_324_Mo rfl (gk rfl) ?_
      refine aw_aload_n (aw_d q_Mo_letters 32 rfl) rfl rfl rfl ?_
      refine aw_getf (v := .int (nI (a))) (aw_d q_Mo_letters 33 rfl) fL_Mo_346_Mo rfl (gk rfl) ?_
      refine aw_isubN (aw_d q_Mo_letters 34 rfl) (by (have hc2 := hc.2.1; omega)) ?_
      exact aw_iret (aw_d q_Mo_letters 35 rfl) rfl (by rw [hw]; exact ⟨rfl, Or.inr ⟨by omega, rfl⟩⟩)
    · refine aw_aload_n (aw_d q_Mo_letters 26 rfl) rfl rfl rfl ?_
      refine aw_aload_n (aw_d q_Mo_letters 27 rfl) rfl rfl rfl ?_
      refine aw_getf (v := .int (nI (a))) (aw_d q_Mo_letters 28 rfl) fL_Mo_346_Mo rfl (gk rfl) ?_
      refine cVv (aw_d q_Mo_letters 29 rfl) (sp_mfailA) vL_Mo_334_Mo rfl rfl rfl rfl rfl rfl ⟨aw_le rfl, aw_le rfl⟩ ?_
      refine aw_aload_n (aw_d q_Mo_letters 30 rfl) rfl rfl rfl ?_
      refine aw_getf (v := .int (nI (p))) (aw_d q_Mo_letters 31 rfl) fL_Mo_324_Mo rfl (gk rfl) ?_
      refine aw_aload_n (aw_d q_Mo_letters 32 rfl) rfl rfl rfl ?_
      refine aw_getf (v := .int (nI (a))) (aw_d q_Mo_letters 33 rfl) fL_Mo_346_Mo rfl (gk rfl) ?_
      refine aw_isubN (aw_d q_Mo_letters 34 rfl) (by (have hc2 := hc.2.1; omega)) ?_
      exact aw_iret (aw_d q_Mo_letters 35 rfl) rfl (by have hpa : p = a := (by omega); subst hpa; rw [hw]; exact ⟨rfl, Or.inl ⟨rfl, rfl⟩⟩)
  | succ m ih =>
    intro p hk hap he
    have hc2 := hc.2.1
    refine aw_aload_n (aw_d q_Mo_letters 4 rfl) rfl rfl rfl ?_
    refine cVr (aw_d q_Mo_letters 5 rfl) (sp_goesA) vL_Mo_327_Mo rfl rfl rfl rfl rfl rfl ⟨aw_le rfl, aw_le rfl⟩ ?_
    refine aw_ifN_eq (tgt := 38) (aw_d q_Mo_letters 6 rfl) (by decide) (by (have hc2 := hc.2.1; omega)) (fun c12 => by exfalso; (have hc2 := hc.2.1; omega)) (fun c12 => ?_)
    refine aw_aload_n (aw_d q_Mo_letters 7 rfl) rfl rfl rfl ?_
    refine cVr (aw_d q_Mo_letters 8 rfl) (sp_peek hc (b := p) (by omega)) vL_Mo_331_Mo rfl rfl rfl rfl rfl rfl ⟨aw_le rfl, aw_le rfl⟩ ?_
    refine cSr (aw_d q_Mo_letters 9 rfl) (sp_Mo_isLetter) sL_Mo_100 rfl rfl rfl rfl ⟨aw_le rfl, aw_le rfl⟩ ?_
    refine aw_ifB_eq (tgt := 38) (aw_d q_Mo_letters 10 rfl) (by decide) (fun c22 => ?_) (fun c22 => ?_)
    · have hw : we T n a = p := by rw [we, he, runB, if_neg c22]
      refine aw_aload_n (aw_d q_Mo_letters 18 rfl) rfl rfl rfl ?_
      refine cVr (aw_d q_Mo_letters 19 rfl) (sp_goesA) vL_Mo_327_Mo rfl rfl rfl rfl rfl rfl ⟨aw_le rfl, aw_le rfl⟩ ?_
      refine aw_ifN_eq (tgt := 64) (aw_d q_Mo_letters 20 rfl) (by decide) (by (have hc2 := hc.2.1; omega)) (fun c42 => by exfalso; (have hc2 := hc.2.1; omega)) (fun c42 => ?_)
      refine aw_aload_n (aw_d q_Mo_letters 21 rfl) rfl rfl rfl ?_
      refine aw_getf (v := .int (nI (p))) (aw_d q_Mo_letters 22 rfl) fL_Mo_324_Mo rfl (gk rfl) ?_
      refine aw_aload_n (aw_d q_Mo_letters 23 rfl) rfl rfl rfl ?_
      refine aw_getf (v := .int (nI (a))) (aw_d q_Mo_letters 24 rfl) fL_Mo_346_Mo rfl (gk rfl) ?_
      refine aw_icmpN_ne (tgt := 64) (aw_d q_Mo_letters 25 rfl) (by decide) (by (have hc2 := hc.2.1; omega)) (by (have hc2 := hc.2.1; omega)) (fun c53 => ?_) (fun c53 => ?_)
      · refine aw_aload_n (aw_d q_Mo_letters 30 rfl) rfl rfl rfl ?_
        refine aw_getf (v := .int (nI (p))) (aw_d q_Mo_letters 31 rfl) fL_Mo_324_Mo rfl (gk rfl) ?_
        refine aw_aload_n (aw_d q_Mo_letters 32 rfl) rfl rfl rfl ?_
        refine aw_getf (v := .int (nI (a))) (aw_d q_Mo_letters 33 rfl) fL_Mo_346_Mo rfl (gk rfl) ?_
        refine aw_isubN (aw_d q_Mo_letters 34 rfl) (by (have hc2 := hc.2.1; omega)) ?_
        exact aw_iret (aw_d q_Mo_letters 35 rfl) rfl (by rw [hw]; exact ⟨rfl, Or.inr ⟨by omega, rfl⟩⟩)
      · refine aw_aload_n (aw_d q_Mo_letters 26 rfl) rfl rfl rfl ?_
        refine aw_aload_n (aw_d q_Mo_letters 27 rfl) rfl rfl rfl ?_
        refine aw_getf (v := .int (nI (a))) (aw_d q_Mo_letters 28 rfl) fL_Mo_346_Mo rfl (gk rfl) ?_
        refine cVv (aw_d q_Mo_letters 29 rfl) (sp_mfailA) vL_Mo_334_Mo rfl rfl rfl rfl rfl rfl ⟨aw_le rfl, aw_le rfl⟩ ?_
        refine aw_aload_n (aw_d q_Mo_letters 30 rfl) rfl rfl rfl ?_
        refine aw_getf (v := .int (nI (p))) (aw_d q_Mo_letters 31 rfl) fL_Mo_324_Mo rfl (gk rfl) ?_
        refine aw_aload_n (aw_d q_Mo_letters 32 rfl) rfl rfl rfl ?_
        refine aw_getf (v := .int (nI (a))) (aw_d q_Mo_letters 33 rfl) fL_Mo_346_Mo rfl (gk rfl) ?_
        refine aw_isubN (aw_d q_Mo_letters 34 rfl) (by (have hc2 := hc.2.1; omega)) ?_
        exact aw_iret (aw_d q_Mo_letters 35 rfl) rfl (by have hpa : p = a := (by omega); subst hpa; rw [hw]; exact ⟨rfl, Or.inl ⟨rfl, rfl⟩⟩)
    · refine aw_aload_n (aw_d q_Mo_letters 11 rfl) rfl rfl rfl ?_
      refine aw_dup (aw_d q_Mo_letters 12 rfl) rfl ?_
      refine aw_getf (v := .int (nI (p))) (aw_d q_Mo_letters 13 rfl) fL_Mo_324_Mo rfl (gk rfl) ?_
      refine aw_iconst (v := nI 1) (aw_d q_Mo_letters 14 rfl) (by decide) ?_
      refine aw_iaddN (aw_d q_Mo_letters 15 rfl) ?_
      refine wi_33_31 (aw_d q_Mo_letters 16 rfl) pL_Mo_324_Mo ?_
      refine aw_goto (tgt := 8) (aw_d q_Mo_letters 17 rfl) (by decide) ?_
      exact AW.to (ih (p + 1) (by omega) (by omega) (he.trans (by rw [runB, if_pos c22]))) rfl rfl rfl rfl
set_option maxRecDepth 20000 in
theorem sp_letA {g : aw_G} {S : aw_S} {n : Nat} {T : Nat → Int32} {p : Nat} {f z : Int32} {X : Nat → Int32} (hc : TPm S n T) (hp : p ≤ n) : Sp g M_Mo_letters 2 42 0 0 [.ref 33] (HP (QM S (nI p) (-1) f z X)) (fun r h => r = some (.int (nI (we T n p - p))) ∧ ((we T n p = p ∧ h = HP (QM S (nI p) (nI p) (nI p) z X)) ∨ (p < we T n p ∧ h = HP (QM S (nI (we T n p)) (-1) (nI p) z X)))) := by
  refine Sp.of rfl (aw_le rfl) ?_
  refine aw_aload_n (aw_d q_Mo_letters 0 rfl) rfl rfl rfl ?_
  refine aw_aload_n (aw_d q_Mo_letters 1 rfl) rfl rfl rfl ?_
  refine aw_getf (v := .int (nI (p))) (aw_d q_Mo_letters 2 rfl) fL_Mo_324_Mo rfl (gk rfl) ?_
  refine wi_33_33 (aw_d q_Mo_letters 3 rfl) pL_Mo_346_Mo ?_
  exact AW.to (lp_let hc (a := p) (n - p) p (by omega) (by omega) rfl) rfl rfl rfl rfl
set_option maxRecDepth 20000 in
theorem sp_letI {g : aw_G} {S : aw_S} {u b : Nat} {f z : Int32} {X : Nat → Int32} (hu : u ≤ 3000) (hb : b ≤ 3010)  : Sp g M_Mo_letters 2 42 0 0 [.ref 33] (HP (QM S (nI b) (nI u) f z X)) (fun r h => r = some (.int (nI 0)) ∧ h = HP (QM S (nI b) (nI u) (nI b) z X)) := by
  refine Sp.of rfl (aw_le rfl) ?_
  refine aw_aload_n (aw_d q_Mo_letters 0 rfl) rfl rfl rfl ?_
  refine aw_aload_n (aw_d q_Mo_letters 1 rfl) rfl rfl rfl ?_
  refine aw_getf (v := .int (nI (b))) (aw_d q_Mo_letters 2 rfl) fL_Mo_324_Mo rfl (gk rfl) ?_
  refine wi_33_33 (aw_d q_Mo_letters 3 rfl) pL_Mo_346_Mo ?_
  refine aw_aload_n (aw_d q_Mo_letters 4 rfl) rfl rfl rfl ?_
  refine cVr (aw_d q_Mo_letters 5 rfl) (sp_goesI hu) vL_Mo_327_Mo rfl rfl rfl rfl rfl rfl ⟨aw_le rfl, aw_le rfl⟩ ?_
  refine aw_ifN_eq (tgt := 38) (aw_d q_Mo_letters 6 rfl) (by decide) (by omega) (fun c12 => ?_) (fun c12 => by exfalso; omega)
  refine aw_aload_n (aw_d q_Mo_letters 18 rfl) rfl rfl rfl ?_
  refine cVr (aw_d q_Mo_letters 19 rfl) (sp_goesI hu) vL_Mo_327_Mo rfl rfl rfl rfl rfl rfl ⟨aw_le rfl, aw_le rfl⟩ ?_
  refine aw_ifN_eq (tgt := 64) (aw_d q_Mo_letters 20 rfl) (by decide) (by omega) (fun c42 => ?_) (fun c42 => by exfalso; omega)
  refine aw_aload_n (aw_d q_Mo_letters 30 rfl) rfl rfl rfl ?_
  refine aw_getf (v := .int (nI (b))) (aw_d q_Mo_letters 31 rfl) fL_Mo_324_Mo rfl (gk rfl) ?_
  refine aw_aload_n (aw_d q_Mo_letters 32 rfl) rfl rfl rfl ?_
  refine aw_getf (v := .int (nI (b))) (aw_d q_Mo_letters 33 rfl) fL_Mo_346_Mo rfl (gk rfl) ?_
  refine aw_isubN (aw_d q_Mo_letters 34 rfl) (by omega) ?_
  exact aw_iret (aw_d q_Mo_letters 35 rfl) rfl (⟨by rw [Nat.sub_self], rfl⟩)
set_option maxRecDepth 20000 in
theorem lp_isW {g : aw_G} {S : aw_S} {n : Nat} {T : Nat → Int32} {a len : Nat} {pl q z : Int32} {X : Nat → Int32} {x : Int64} {j : Nat} (hc : TPm S n T) (ha : a + len ≤ n) (hj : j ≤ 8) {tot : Bool} (hjl : j = len) : ∀ (m k : Nat) (bo : Bool), m + k = j → (bo && mt T (eB x m) (a + k)) = tot → AW g M_Mo_isWord (aw_rm 0 0 0 0) (aw_F g 0 0 (fun r h => r = some (.int (if tot = true then nI 1 else nI 0)) ∧ h = HP (QM S pl q (nI a) z X))) 16 [some (.ref 33), some (.long x), none, some (.int (nI j)), some (.int (nI len)), some (.int (if bo = true then nI 1 else nI 0)), some (.int (nI k))] [] (HP (QM S pl q (nI a) z X)) 0 0 := by
  intro m
  induction m with
  | zero =>
    intro k bo hk e
    have hc2 := hc.2.1
    refine aw_iload (aw_d q_Mo_isWord 9 rfl) rfl ?_
    refine aw_iload_n (aw_d q_Mo_isWord 10 rfl) rfl rfl ?_
    refine aw_icmpN_ge (tgt := 71) (aw_d q_Mo_isWord 11 rfl) (by decide) (by (have hc2 := hc.2.1; omega)) (by (have hc2 := hc.2.1; omega)) (fun c19 => ?_) (fun c19 => by exfalso; (have hc2 := hc.2.1; omega))
    refine aw_iload (aw_d q_Mo_isWord 40 rfl) rfl ?_
    exact aw_zret (aw_d q_Mo_isWord 41 rfl) rfl (nB) (⟨by rw [← e]; simp [eB, mt], rfl⟩)
  | succ m ih =>
    intro k bo hk e
    have hc2 := hc.2.1
    refine aw_iload (aw_d q_Mo_isWord 9 rfl) rfl ?_
    refine aw_iload_n (aw_d q_Mo_isWord 10 rfl) rfl rfl ?_
    refine aw_icmpN_ge (tgt := 71) (aw_d q_Mo_isWord 11 rfl) (by decide) (by (have hc2 := hc.2.1; omega)) (by (have hc2 := hc.2.1; omega)) (fun c19 => by exfalso; (have hc2 := hc.2.1; omega)) (fun c19 => ?_)
    refine aw_iload (aw_d q_Mo_isWord 12 rfl) rfl ?_
    refine aw_ifB_eq (tgt := 71) (aw_d q_Mo_isWord 13 rfl) (by decide) (fun c24 => ?_) (fun c24 => ?_)
    · have hb : bo = false := by simpa using c24
      refine aw_iload (aw_d q_Mo_isWord 40 rfl) rfl ?_
      exact aw_zret (aw_d q_Mo_isWord 41 rfl) rfl (nB) (⟨by rw [← e, hb]; rfl, rfl⟩)
    · have hb : bo = true := by simpa using c24
      refine aw_aload_n (aw_d q_Mo_isWord 14 rfl) rfl rfl rfl ?_
      refine aw_getf (aw_d q_Mo_isWord 15 rfl) fL_Mo_7_Mo rfl rfl ?_
      refine aw_aload_n (aw_d q_Mo_isWord 16 rfl) rfl rfl rfl ?_
      refine aw_getf (v := .int (nI (a))) (aw_d q_Mo_isWord 17 rfl) fL_Mo_346_Mo rfl (gk rfl) ?_
      refine aw_iload (aw_d q_Mo_isWord 18 rfl) rfl ?_
      refine aw_iaddN (aw_d q_Mo_isWord 19 rfl) ?_
      refine aw_ialdK (w := (T (a + k))) (aw_d q_Mo_isWord 20 rfl) rfl (by (have hc2 := hc.2.1; omega)) rfl (hc.2.2.1 _ (by omega)) ?_
      refine aw_lload_n (aw_d q_Mo_isWord 21 rfl) rfl rfl ?_
      refine aw_bipush (v := nI 8) (aw_d q_Mo_isWord 22 rfl) (by decide) ?_
      refine aw_iload_n (aw_d q_Mo_isWord 23 rfl) rfl rfl ?_
      refine aw_iconst (v := nI 1) (aw_d q_Mo_isWord 24 rfl) (by decide) ?_
      refine aw_isubN (aw_d q_Mo_isWord 25 rfl) (by (have hc2 := hc.2.1; omega)) ?_
      refine aw_iload (aw_d q_Mo_isWord 26 rfl) rfl ?_
      refine aw_isubN (aw_d q_Mo_isWord 27 rfl) (by (have hc2 := hc.2.1; omega)) ?_
      refine aw_imulN (aw_d q_Mo_isWord 28 rfl) ?_
      refine aw_lshr (aw_d q_Mo_isWord 29 rfl) ?_
      refine aw_ldc2 (aw_d q_Mo_isWord 30 rfl) lL_Mo_88 ?_
      refine aw_land (aw_d q_Mo_isWord 31 rfl) ?_
      refine aw_l2i (aw_d q_Mo_isWord 32 rfl) ?_
      refine aw_icmpZ_ne (tgt := 62) (aw_d q_Mo_isWord 33 rfl) (by decide) (fun c55 => ?_) (fun c55 => ?_)
      · have c55 : ¬ (T (a + k)).toInt = (bM x m).toInt := by rw [show m = j - 1 - k by omega]; exact c55
        refine aw_iconst (v := nI 0) (aw_d q_Mo_isWord 36 rfl) (by decide) ?_
        refine aw_istore (aw_d q_Mo_isWord 37 rfl) (aw_le rfl) rfl ?_
        refine aw_iinc (aw_d q_Mo_isWord 38 rfl) rfl (ii1 _) (aw_le rfl) rfl ?_
        refine aw_goto (tgt := 16) (aw_d q_Mo_isWord 39 rfl) (by decide) ?_
        exact ih (k + 1) false (by omega) (by rw [← e, hb]; simp [eB, mt, c55])
      · have c55 : (T (a + k)).toInt = (bM x m).toInt := by rw [show m = j - 1 - k by omega]; exact c55
        refine aw_iconst (v := nI 1) (aw_d q_Mo_isWord 34 rfl) (by decide) ?_
        refine aw_goto (tgt := 63) (aw_d q_Mo_isWord 35 rfl) (by decide) ?_
        refine aw_istore (aw_d q_Mo_isWord 37 rfl) (aw_le rfl) rfl ?_
        refine aw_iinc (aw_d q_Mo_isWord 38 rfl) rfl (ii1 _) (aw_le rfl) rfl ?_
        refine aw_goto (tgt := 16) (aw_d q_Mo_isWord 39 rfl) (by decide) ?_
        exact ih (k + 1) true (by omega) (by rw [← e, hb]; simp [eB, mt, c55, show a + k + 1 = a + (k + 1) by omega])
set_option maxRecDepth 20000 in
theorem sp_isW {g : aw_G} {S : aw_S} {n : Nat} {T : Nat → Int32} {a len : Nat} {pl q z : Int32} {X : Nat → Int32} {x : Int64} {j : Nat} (hc : TPm S n T) (ha : a + len ≤ n) (hj : j ≤ 8)  : Sp g M_Mo_isWord 0 0 0 0 [.ref 33, .long x, .int (nI j), .int (nI len)] (HP (QM S pl q (nI a) z X)) (fun r h => r = some (.int (if (decide (j = len) && mt T (eB x j) a) = true then nI 1 else nI 0)) ∧ h = HP (QM S pl q (nI a) z X)) := by
  refine Sp.of rfl (aw_le rfl) ?_
  have hc2 := hc.2.1
  refine aw_iload_n (aw_d q_Mo_isWord 0 rfl) rfl rfl ?_
  refine aw_iload (aw_d q_Mo_isWord 1 rfl) rfl ?_
  refine aw_icmpN_ne (tgt := 10) (aw_d q_Mo_isWord 2 rfl) (by decide) (by (have hc2 := hc.2.1; omega)) (by (have hc2 := hc.2.1; omega)) (fun c3 => ?_) (fun c3 => ?_)
  · refine aw_iconst (v := nI 0) (aw_d q_Mo_isWord 5 rfl) (by decide) ?_
    refine aw_istore (aw_d q_Mo_isWord 6 rfl) (aw_le rfl) rfl ?_
    refine aw_iconst (v := nI 0) (aw_d q_Mo_isWord 7 rfl) (by decide) ?_
    refine aw_istore (aw_d q_Mo_isWord 8 rfl) (aw_le rfl) rfl ?_
    refine aw_iload (aw_d q_Mo_isWord 9 rfl) rfl ?_
    refine aw_iload_n (aw_d q_Mo_isWord 10 rfl) rfl rfl ?_
    refine aw_icmpN_ge (tgt := 71) (aw_d q_Mo_isWord 11 rfl) (by decide) (by (have hc2 := hc.2.1; omega)) (by (have hc2 := hc.2.1; omega)) (fun c19 => ?_) (fun c19 => ?_)
    · refine aw_iload (aw_d q_Mo_isWord 40 rfl) rfl ?_
      exact aw_zret (aw_d q_Mo_isWord 41 rfl) rfl (rfl) (⟨by rw [decide_eq_false c3]; rfl, rfl⟩)
    · refine aw_iload (aw_d q_Mo_isWord 12 rfl) rfl ?_
      refine aw_ifN_eq (tgt := 71) (aw_d q_Mo_isWord 13 rfl) (by decide) (by (have hc2 := hc.2.1; omega)) (fun c24 => ?_) (fun c24 => by exfalso; (have hc2 := hc.2.1; omega))
      refine aw_iload (aw_d q_Mo_isWord 40 rfl) rfl ?_
      exact aw_zret (aw_d q_Mo_isWord 41 rfl) rfl (rfl) (⟨by rw [decide_eq_false c3]; rfl, rfl⟩)
  · refine aw_iconst (v := nI 1) (aw_d q_Mo_isWord 3 rfl) (by decide) ?_
    refine aw_goto (tgt := 11) (aw_d q_Mo_isWord 4 rfl) (by decide) ?_
    refine aw_istore (aw_d q_Mo_isWord 6 rfl) (aw_le rfl) rfl ?_
    refine aw_iconst (v := nI 0) (aw_d q_Mo_isWord 7 rfl) (by decide) ?_
    refine aw_istore (aw_d q_Mo_isWord 8 rfl) (aw_le rfl) rfl ?_
    exact AW.to (lp_isW hc ha hj c3 j 0 true (by omega) (by rw [decide_eq_true c3]; rfl)) rfl rfl rfl rfl
theorem wm_eB {T : Nat → Int32} {a e j k : Nat} {x : Int64} (h : eB x k = tx j) : (decide (k = e - a) && mt T (eB x k) a) = wm T a e j := by
  rw [h, wm]
  have hk : k = (tx j).length := by rw [← h, eB_len]
  by_cases q : k = e - a
  · rw [decide_eq_true q, decide_eq_true (show e - a = (tx j).length by omega)]
  · rw [decide_eq_false q, decide_eq_false (show ¬ e - a = (tx j).length by omega)]
set_option maxRecDepth 20000 in
theorem sp_tagA {g : aw_G} {S : aw_S} {n : Nat} {T : Nat → Int32} {p : Nat} {f z : Int32} {X : Nat → Int32} (hc : TPm S n T) (hp : p ≤ n) : Sp g M_Mo_tag 3 62 0 0 [.ref 33] (HP (QM S (nI p) (-1) f z X)) (fun r h => match ew T n 3 p with
  | .ok y => r = some (.int (nI y.2)) ∧ y.1 ≤ n ∧ y.2 < 676 ∧ h = HP (QM S (nI y.1) (-1) (nI p) z X)
  | .error u => u = p ∧ r = some (.int (nI 0)) ∧ ∃ b, b ≤ n ∧ h = HP (QM S (nI b) (nI p) (nI p) z X)) := by
  refine Sp.of rfl (aw_le rfl) ?_
  have hwe := we_le (T := T) hp
  have hc2 := hc.2.1
  refine aw_aload_n (aw_d q_Mo_tag 0 rfl) rfl rfl rfl ?_
  refine cV (aw_d q_Mo_tag 1 rfl) (sp_letA hc hp) vL_Mo_352_Mo rfl rfl rfl rfl rfl rfl ⟨aw_le rfl, aw_le rfl⟩ (fun r1 h1 hp1 => ?_)
  obtain ⟨rfl, hp1⟩ := hp1
  rcases hp1 with ⟨hw1, rfl⟩ | ⟨hw1, rfl⟩
  · skip -- no
    refine aw_istore_n (aw_d q_Mo_tag 2 rfl) rfl (aw_le rfl) rfl ?_
    refine aw_aload_n (aw_d q_Mo_tag 3 rfl) rfl rfl rfl ?_
    refine cVr (aw_d q_Mo_tag 4 rfl) (sp_goesI (u := p) (by omega)) vL_Mo_327_Mo rfl rfl rfl rfl rfl rfl ⟨aw_le rfl, aw_le rfl⟩ ?_
    refine aw_ifN_eq (tgt := 25) (aw_d q_Mo_tag 5 rfl) (by decide) (by (have hc2 := hc.2.1; have hwe := we_le (T := T) hp; omega)) (fun c9 => ?_) (fun c9 => by exfalso; (have hc2 := hc.2.1; have hwe := we_le (T := T) hp; omega))
    refine aw_aload_n (aw_d q_Mo_tag 13 rfl) rfl rfl rfl ?_
    refine cVr (aw_d q_Mo_tag 14 rfl) (sp_goesI (u := p) (by omega)) vL_Mo_327_Mo rfl rfl rfl rfl rfl rfl ⟨aw_le rfl, aw_le rfl⟩ ?_
    refine aw_ifN_eq (tgt := 65) (aw_d q_Mo_tag 15 rfl) (by decide) (by (have hc2 := hc.2.1; have hwe := we_le (T := T) hp; omega)) (fun c29 => ?_) (fun c29 => by exfalso; (have hc2 := hc.2.1; have hwe := we_le (T := T) hp; omega))
    refine aw_iconst (v := nI 0) (aw_d q_Mo_tag 36 rfl) (by decide) ?_
    exact aw_iret (aw_d q_Mo_tag 37 rfl) rfl (by rw [ew, if_pos rfl, if_neg (by omega)]; exact ⟨rfl, rfl, _, by omega, rfl⟩)
  · skip -- yes
    refine aw_istore_n (aw_d q_Mo_tag 2 rfl) rfl (aw_le rfl) rfl ?_
    refine aw_aload_n (aw_d q_Mo_tag 3 rfl) rfl rfl rfl ?_
    refine cVr (aw_d q_Mo_tag 4 rfl) (sp_goesA) vL_Mo_327_Mo rfl rfl rfl rfl rfl rfl ⟨aw_le rfl, aw_le rfl⟩ ?_
    refine aw_ifN_eq (tgt := 25) (aw_d q_Mo_tag 5 rfl) (by decide) (by (have hc2 := hc.2.1; have hwe := we_le (T := T) hp; omega)) (fun c9 => by exfalso; (have hc2 := hc.2.1; have hwe := we_le (T := T) hp; omega)) (fun c9 => ?_)
    refine aw_iload_n (aw_d q_Mo_tag 6 rfl) rfl rfl ?_
    refine aw_iconst (v := nI 2) (aw_d q_Mo_tag 7 rfl) (by decide) ?_
    refine aw_icmpN_eq (tgt := 25) (aw_d q_Mo_tag 8 rfl) (by decide) (by (have hc2 := hc.2.1; have hwe := we_le (T := T) hp; omega)) (by (have hc2 := hc.2.1; have hwe := we_le (T := T) hp; omega)) (fun c14 => ?_) (fun c14 => ?_)
    · refine aw_aload_n (aw_d q_Mo_tag 13 rfl) rfl rfl rfl ?_
      refine cVr (aw_d q_Mo_tag 14 rfl) (sp_goesA) vL_Mo_327_Mo rfl rfl rfl rfl rfl rfl ⟨aw_le rfl, aw_le rfl⟩ ?_
      refine aw_ifN_eq (tgt := 65) (aw_d q_Mo_tag 15 rfl) (by decide) (by (have hc2 := hc.2.1; have hwe := we_le (T := T) hp; omega)) (fun c29 => by exfalso; (have hc2 := hc.2.1; have hwe := we_le (T := T) hp; omega)) (fun c29 => ?_)
      refine aw_bipush (v := nI 26) (aw_d q_Mo_tag 16 rfl) (by decide) ?_
      refine aw_aload_n (aw_d q_Mo_tag 17 rfl) rfl rfl rfl ?_
      refine aw_getf (aw_d q_Mo_tag 18 rfl) fL_Mo_7_Mo rfl rfl ?_
      refine aw_aload_n (aw_d q_Mo_tag 19 rfl) rfl rfl rfl ?_
      refine aw_getf (v := .int (nI (p))) (aw_d q_Mo_tag 20 rfl) fL_Mo_346_Mo rfl (gk rfl) ?_
      refine aw_ialdK (w := (T p)) (aw_d q_Mo_tag 21 rfl) rfl (by (have hc2 := hc.2.1; have hwe := we_le (T := T) hp; omega)) rfl (hc.2.2.1 _ (by omega)) ?_
      refine aw_bipush (v := nI 97) (aw_d q_Mo_tag 22 rfl) (by decide) ?_
      refine aw_isub (aw_d q_Mo_tag 23 rfl) ?_
      refine aw_imul (aw_d q_Mo_tag 24 rfl) ?_
      refine aw_aload_n (aw_d q_Mo_tag 25 rfl) rfl rfl rfl ?_
      refine aw_getf (aw_d q_Mo_tag 26 rfl) fL_Mo_7_Mo rfl rfl ?_
      refine aw_aload_n (aw_d q_Mo_tag 27 rfl) rfl rfl rfl ?_
      refine aw_getf (v := .int (nI (p))) (aw_d q_Mo_tag 28 rfl) fL_Mo_346_Mo rfl (gk rfl) ?_
      refine aw_iconst (v := nI 1) (aw_d q_Mo_tag 29 rfl) (by decide) ?_
      refine aw_iaddN (aw_d q_Mo_tag 30 rfl) ?_
      refine aw_ialdK (w := (T (p + 1))) (aw_d q_Mo_tag 31 rfl) rfl (by (have hc2 := hc.2.1; have hwe := we_le (T := T) hp; omega)) rfl (hc.2.2.1 _ (by omega)) ?_
      refine aw_iadd (aw_d q_Mo_tag 32 rfl) ?_
      refine aw_bipush (v := nI 97) (aw_d q_Mo_tag 33 rfl) (by decide) ?_
      refine aw_isub (aw_d q_Mo_tag 34 rfl) ?_
      obtain ⟨htg, htl⟩ := tgV_eq (T := T) (p := p) (runB_all (n - p) p p (by omega) (by show p < we T n p; omega)) (runB_all (n - p) p (p + 1) (by omega) (by show p + 1 < we T n p; omega))
      rw [htg]
      refine aw_goto (tgt := 66) (aw_d q_Mo_tag 35 rfl) (by decide) ?_
      exact aw_iret (aw_d q_Mo_tag 37 rfl) rfl (by rw [ew, if_pos rfl, if_pos c14]; exact ⟨rfl, (we_le hp).2, htl, rfl⟩)
    · refine aw_aload_n (aw_d q_Mo_tag 9 rfl) rfl rfl rfl ?_
      refine aw_aload_n (aw_d q_Mo_tag 10 rfl) rfl rfl rfl ?_
      refine aw_getf (v := .int (nI (p))) (aw_d q_Mo_tag 11 rfl) fL_Mo_346_Mo rfl (gk rfl) ?_
      refine cVv (aw_d q_Mo_tag 12 rfl) (sp_mfailA) vL_Mo_334_Mo rfl rfl rfl rfl rfl rfl ⟨aw_le rfl, aw_le rfl⟩ ?_
      refine aw_aload_n (aw_d q_Mo_tag 13 rfl) rfl rfl rfl ?_
      refine cVr (aw_d q_Mo_tag 14 rfl) (sp_goesI (u := p) (by omega)) vL_Mo_327_Mo rfl rfl rfl rfl rfl rfl ⟨aw_le rfl, aw_le rfl⟩ ?_
      refine aw_ifN_eq (tgt := 65) (aw_d q_Mo_tag 15 rfl) (by decide) (by (have hc2 := hc.2.1; have hwe := we_le (T := T) hp; omega)) (fun c29 => ?_) (fun c29 => by exfalso; (have hc2 := hc.2.1; have hwe := we_le (T := T) hp; omega))
      refine aw_iconst (v := nI 0) (aw_d q_Mo_tag 36 rfl) (by decide) ?_
      exact aw_iret (aw_d q_Mo_tag 37 rfl) rfl (by rw [ew, if_pos rfl, if_neg c14]; exact ⟨rfl, rfl, _, (we_le hp).2, rfl⟩)
set_option maxRecDepth 20000 in
theorem sp_tagI {g : aw_G} {S : aw_S} {u b : Nat} {f z : Int32} {X : Nat → Int32} (hu : u ≤ 3000) (hb : b ≤ 3010)  : Sp g M_Mo_tag 3 62 0 0 [.ref 33] (HP (QM S (nI b) (nI u) f z X)) (fun r h => r = some (.int (nI 0)) ∧ h = HP (QM S (nI b) (nI u) (nI b) z X)) := by
  refine Sp.of rfl (aw_le rfl) ?_
  refine aw_aload_n (aw_d q_Mo_tag 0 rfl) rfl rfl rfl ?_
  refine cVr (aw_d q_Mo_tag 1 rfl) (sp_letI hu hb) vL_Mo_352_Mo rfl rfl rfl rfl rfl rfl ⟨aw_le rfl, aw_le rfl⟩ ?_
  refine aw_istore_n (aw_d q_Mo_tag 2 rfl) rfl (aw_le rfl) rfl ?_
  refine aw_aload_n (aw_d q_Mo_tag 3 rfl) rfl rfl rfl ?_
  refine cVr (aw_d q_Mo_tag 4 rfl) (sp_goesI hu) vL_Mo_327_Mo rfl rfl rfl rfl rfl rfl ⟨aw_le rfl, aw_le rfl⟩ ?_
  refine aw_ifN_eq (tgt := 25) (aw_d q_Mo_tag 5 rfl) (by decide) (by omega) (fun c9 => ?_) (fun c9 => by exfalso; omega)
  refine aw_aload_n (aw_d q_Mo_tag 13 rfl) rfl rfl rfl ?_
  refine cVr (aw_d q_Mo_tag 14 rfl) (sp_goesI hu) vL_Mo_327_Mo rfl rfl rfl rfl rfl rfl ⟨aw_le rfl, aw_le rfl⟩ ?_
  refine aw_ifN_eq (tgt := 65) (aw_d q_Mo_tag 15 rfl) (by decide) (by omega) (fun c29 => ?_) (fun c29 => by exfalso; omega)
  refine aw_iconst (v := nI 0) (aw_d q_Mo_tag 36 rfl) (by decide) ?_
  exact aw_iret (aw_d q_Mo_tag 37 rfl) rfl (⟨rfl, rfl⟩)
theorem ew_no {T : Nat → Int32} {n p : Nat} (h : we T n p = p) : ew T n 4 p = .error p := by
  have hl : ∀ j, 0 < (tx j).length → ¬ wm T p (we T n p) j = true := fun j hj => by
    rw [wm, h, Nat.sub_self, decide_eq_false (by omega), Bool.false_and]; exact Bool.false_ne_true
  rw [ew, if_neg (by decide), if_neg (hl 19 (by decide)), if_neg (hl 20 (by decide)), if_neg (hl 21 (by decide)), if_neg (hl 22 (by decide))]
set_option maxRecDepth 20000 in
theorem sp_typeA {g : aw_G} {S : aw_S} {n : Nat} {T : Nat → Int32} {p : Nat} {f z : Int32} {X : Nat → Int32} (hc : TPm S n T) (hp : p ≤ n) : Sp g M_Mo_typeName 3 62 0 0 [.ref 33] (HP (QM S (nI p) (-1) f z X)) (fun r h => match ew T n 4 p with
  | .ok y => r = some (.int (nI y.2)) ∧ y.1 ≤ n ∧ y.2 < 4 ∧ h = HP (QM S (nI y.1) (-1) (nI p) z X)
  | .error u => u = p ∧ r = some (.int (nI 0)) ∧ ∃ b, b ≤ n ∧ h = HP (QM S (nI b) (nI p) (nI p) z X)) := by
  refine Sp.of rfl (aw_le rfl) ?_
  have hwe := we_le (T := T) hp
  have hc2 := hc.2.1
  refine aw_aload_n (aw_d q_Mo_typeName 0 rfl) rfl rfl rfl ?_
  refine cV (aw_d q_Mo_typeName 1 rfl) (sp_letA hc hp) vL_Mo_352_Mo rfl rfl rfl rfl rfl rfl ⟨aw_le rfl, aw_le rfl⟩ (fun r1 h1 hp1 => ?_)
  obtain ⟨rfl, hp1⟩ := hp1
  rcases hp1 with ⟨hw1, rfl⟩ | ⟨hw1, rfl⟩
  · skip -- no
    refine aw_istore_n (aw_d q_Mo_typeName 2 rfl) rfl (aw_le rfl) rfl ?_
    refine aw_aload_n (aw_d q_Mo_typeName 3 rfl) rfl rfl rfl ?_
    refine cVr (aw_d q_Mo_typeName 4 rfl) (sp_goesI (u := p) (by omega)) vL_Mo_327_Mo rfl rfl rfl rfl rfl rfl ⟨aw_le rfl, aw_le rfl⟩ ?_
    refine aw_ifN_ne (tgt := 16) (aw_d q_Mo_typeName 5 rfl) (by decide) (by (have hc2 := hc.2.1; have hwe := we_le (T := T) hp; omega)) (fun c9 => by exfalso; (have hc2 := hc.2.1; have hwe := we_le (T := T) hp; omega)) (fun c9 => ?_)
    refine aw_iconst (v := (-1)) (aw_d q_Mo_typeName 6 rfl) (by decide) ?_
    refine aw_goto (tgt := 81) (aw_d q_Mo_typeName 7 rfl) (by decide) ?_
    refine aw_istore_n (aw_d q_Mo_typeName 41 rfl) rfl (aw_le rfl) rfl ?_
    refine aw_aload_n (aw_d q_Mo_typeName 42 rfl) rfl rfl rfl ?_
    refine cVr (aw_d q_Mo_typeName 43 rfl) (sp_goesI (u := p) (by omega)) vL_Mo_327_Mo rfl rfl rfl rfl rfl rfl ⟨aw_le rfl, aw_le rfl⟩ ?_
    refine aw_ifN_eq (tgt := 101) (aw_d q_Mo_typeName 44 rfl) (by decide) (by (have hc2 := hc.2.1; have hwe := we_le (T := T) hp; omega)) (fun c86 => ?_) (fun c86 => by exfalso; (have hc2 := hc.2.1; have hwe := we_le (T := T) hp; omega))
    refine aw_iload_n (aw_d q_Mo_typeName 51 rfl) rfl rfl ?_
    refine aw_ifI_ge (tgt := 109) (aw_d q_Mo_typeName 52 rfl) (by decide) (fun c102 => by exact absurd c102 (by decide)) (fun c102 => ?_)
    refine aw_iconst (v := nI 0) (aw_d q_Mo_typeName 53 rfl) (by decide) ?_
    refine aw_goto (tgt := 110) (aw_d q_Mo_typeName 54 rfl) (by decide) ?_
    exact aw_iret (aw_d q_Mo_typeName 56 rfl) rfl (by rw [ew_no hw1]; exact ⟨rfl, rfl, _, by omega, rfl⟩)
  · skip -- yes
    refine aw_istore_n (aw_d q_Mo_typeName 2 rfl) rfl (aw_le rfl) rfl ?_
    refine aw_aload_n (aw_d q_Mo_typeName 3 rfl) rfl rfl rfl ?_
    refine cVr (aw_d q_Mo_typeName 4 rfl) (sp_goesA) vL_Mo_327_Mo rfl rfl rfl rfl rfl rfl ⟨aw_le rfl, aw_le rfl⟩ ?_
    refine aw_ifN_ne (tgt := 16) (aw_d q_Mo_typeName 5 rfl) (by decide) (by (have hc2 := hc.2.1; have hwe := we_le (T := T) hp; omega)) (fun c9 => ?_) (fun c9 => by exfalso; (have hc2 := hc.2.1; have hwe := we_le (T := T) hp; omega))
    refine aw_aload_n (aw_d q_Mo_typeName 8 rfl) rfl rfl rfl ?_
    refine aw_ldc2 (aw_d q_Mo_typeName 9 rfl) lL_Mo_139 ?_
    refine aw_iconst (v := nI 5) (aw_d q_Mo_typeName 10 rfl) (by decide) ?_
    refine aw_iload_n (aw_d q_Mo_typeName 11 rfl) rfl rfl ?_
    refine cVr (aw_d q_Mo_typeName 12 rfl) (sp_isW (x := 512853240933) (j := 5) (a := p) (len := we T n p - p) hc (by omega) (by decide)) vL_Mo_359_Mo rfl rfl rfl rfl rfl rfl ⟨aw_le rfl, aw_le rfl⟩ ?_
    refine aw_ifB_eq (tgt := 32) (aw_d q_Mo_typeName 13 rfl) (by decide) (fun c25 => ?_) (fun c25 => ?_)
    · rw [wm_eB (T := T) (a := p) (e := we T n p) (j := 19) (x := 512853240933) (k := 5) (by decide)] at c25
      refine aw_aload_n (aw_d q_Mo_typeName 16 rfl) rfl rfl rfl ?_
      refine aw_ldc2 (aw_d q_Mo_typeName 17 rfl) lL_Mo_145 ?_
      refine aw_iconst (v := nI 4) (aw_d q_Mo_typeName 18 rfl) (by decide) ?_
      refine aw_iload_n (aw_d q_Mo_typeName 19 rfl) rfl rfl ?_
      refine cVr (aw_d q_Mo_typeName 20 rfl) (sp_isW (x := 1919246700) (j := 4) (a := p) (len := we T n p - p) hc (by omega) (by decide)) vL_Mo_359_Mo rfl rfl rfl rfl rfl rfl ⟨aw_le rfl, aw_le rfl⟩ ?_
      refine aw_ifB_eq (tgt := 48) (aw_d q_Mo_typeName 21 rfl) (by decide) (fun c41 => ?_) (fun c41 => ?_)
      · rw [wm_eB (T := T) (a := p) (e := we T n p) (j := 20) (x := 1919246700) (k := 4) (by decide)] at c41
        refine aw_aload_n (aw_d q_Mo_typeName 24 rfl) rfl rfl rfl ?_
        refine aw_ldc2 (aw_d q_Mo_typeName 25 rfl) lL_Mo_147 ?_
        refine aw_iconst (v := nI 5) (aw_d q_Mo_typeName 26 rfl) (by decide) ?_
        refine aw_iload_n (aw_d q_Mo_typeName 27 rfl) rfl rfl ?_
        refine cVr (aw_d q_Mo_typeName 28 rfl) (sp_isW (x := 500136506472) (j := 5) (a := p) (len := we T n p - p) hc (by omega) (by decide)) vL_Mo_359_Mo rfl rfl rfl rfl rfl rfl ⟨aw_le rfl, aw_le rfl⟩ ?_
        refine aw_ifB_eq (tgt := 64) (aw_d q_Mo_typeName 29 rfl) (by decide) (fun c57 => ?_) (fun c57 => ?_)
        · rw [wm_eB (T := T) (a := p) (e := we T n p) (j := 21) (x := 500136506472) (k := 5) (by decide)] at c57
          refine aw_aload_n (aw_d q_Mo_typeName 32 rfl) rfl rfl rfl ?_
          refine aw_ldc2 (aw_d q_Mo_typeName 33 rfl) lL_Mo_149 ?_
          refine aw_iconst (v := nI 4) (aw_d q_Mo_typeName 34 rfl) (by decide) ?_
          refine aw_iload_n (aw_d q_Mo_typeName 35 rfl) rfl rfl ?_
          refine cVr (aw_d q_Mo_typeName 36 rfl) (sp_isW (x := 1684108389) (j := 4) (a := p) (len := we T n p - p) hc (by omega) (by decide)) vL_Mo_359_Mo rfl rfl rfl rfl rfl rfl ⟨aw_le rfl, aw_le rfl⟩ ?_
          refine aw_ifB_eq (tgt := 80) (aw_d q_Mo_typeName 37 rfl) (by decide) (fun c73 => ?_) (fun c73 => ?_)
          · rw [wm_eB (T := T) (a := p) (e := we T n p) (j := 22) (x := 1684108389) (k := 4) (by decide)] at c73
            refine aw_iconst (v := (-1)) (aw_d q_Mo_typeName 40 rfl) (by decide) ?_
            refine aw_istore_n (aw_d q_Mo_typeName 41 rfl) rfl (aw_le rfl) rfl ?_
            refine aw_aload_n (aw_d q_Mo_typeName 42 rfl) rfl rfl rfl ?_
            refine cVr (aw_d q_Mo_typeName 43 rfl) (sp_goesA) vL_Mo_327_Mo rfl rfl rfl rfl rfl rfl ⟨aw_le rfl, aw_le rfl⟩ ?_
            refine aw_ifN_eq (tgt := 101) (aw_d q_Mo_typeName 44 rfl) (by decide) (by (have hc2 := hc.2.1; have hwe := we_le (T := T) hp; omega)) (fun c86 => by exfalso; (have hc2 := hc.2.1; have hwe := we_le (T := T) hp; omega)) (fun c86 => ?_)
            refine aw_iload_n (aw_d q_Mo_typeName 45 rfl) rfl rfl ?_
            refine aw_ifI_ge (tgt := 101) (aw_d q_Mo_typeName 46 rfl) (by decide) (fun c90 => by exact absurd c90 (by decide)) (fun c90 => ?_)
            refine aw_aload_n (aw_d q_Mo_typeName 47 rfl) rfl rfl rfl ?_
            refine aw_aload_n (aw_d q_Mo_typeName 48 rfl) rfl rfl rfl ?_
            refine aw_getf (v := .int (nI (p))) (aw_d q_Mo_typeName 49 rfl) fL_Mo_346_Mo rfl (gk rfl) ?_
            refine cVv (aw_d q_Mo_typeName 50 rfl) (sp_mfailA) vL_Mo_334_Mo rfl rfl rfl rfl rfl rfl ⟨aw_le rfl, aw_le rfl⟩ ?_
            refine aw_iload_n (aw_d q_Mo_typeName 51 rfl) rfl rfl ?_
            refine aw_ifI_ge (tgt := 109) (aw_d q_Mo_typeName 52 rfl) (by decide) (fun c102 => by exact absurd c102 (by decide)) (fun c102 => ?_)
            refine aw_iconst (v := nI 0) (aw_d q_Mo_typeName 53 rfl) (by decide) ?_
            refine aw_goto (tgt := 110) (aw_d q_Mo_typeName 54 rfl) (by decide) ?_
            exact aw_iret (aw_d q_Mo_typeName 56 rfl) rfl (by rw [ew, if_neg (by decide), if_neg c25, if_neg c41, if_neg c57, if_neg c73]; exact ⟨rfl, rfl, _, (we_le hp).2, rfl⟩)
          · rw [wm_eB (T := T) (a := p) (e := we T n p) (j := 22) (x := 1684108389) (k := 4) (by decide)] at c73
            refine aw_iconst (v := nI 3) (aw_d q_Mo_typeName 38 rfl) (by decide) ?_
            refine aw_goto (tgt := 81) (aw_d q_Mo_typeName 39 rfl) (by decide) ?_
            refine aw_istore_n (aw_d q_Mo_typeName 41 rfl) rfl (aw_le rfl) rfl ?_
            refine aw_aload_n (aw_d q_Mo_typeName 42 rfl) rfl rfl rfl ?_
            refine cVr (aw_d q_Mo_typeName 43 rfl) (sp_goesA) vL_Mo_327_Mo rfl rfl rfl rfl rfl rfl ⟨aw_le rfl, aw_le rfl⟩ ?_
            refine aw_ifN_eq (tgt := 101) (aw_d q_Mo_typeName 44 rfl) (by decide) (by (have hc2 := hc.2.1; have hwe := we_le (T := T) hp; omega)) (fun c86 => by exfalso; (have hc2 := hc.2.1; have hwe := we_le (T := T) hp; omega)) (fun c86 => ?_)
            refine aw_iload_n (aw_d q_Mo_typeName 45 rfl) rfl rfl ?_
            refine aw_ifN_ge (tgt := 101) (aw_d q_Mo_typeName 46 rfl) (by decide) (by (have hc2 := hc.2.1; have hwe := we_le (T := T) hp; omega)) (fun c90 => ?_) (fun c90 => by exfalso; (have hc2 := hc.2.1; have hwe := we_le (T := T) hp; omega))
            refine aw_iload_n (aw_d q_Mo_typeName 51 rfl) rfl rfl ?_
            refine aw_ifN_ge (tgt := 109) (aw_d q_Mo_typeName 52 rfl) (by decide) (by (have hc2 := hc.2.1; have hwe := we_le (T := T) hp; omega)) (fun c102 => ?_) (fun c102 => by exfalso; (have hc2 := hc.2.1; have hwe := we_le (T := T) hp; omega))
            refine aw_iload_n (aw_d q_Mo_typeName 55 rfl) rfl rfl ?_
            exact aw_iret (aw_d q_Mo_typeName 56 rfl) rfl (by rw [ew, if_neg (by decide), if_neg c25, if_neg c41, if_neg c57, if_pos c73]; exact ⟨rfl, (we_le hp).2, by simp, rfl⟩)
        · rw [wm_eB (T := T) (a := p) (e := we T n p) (j := 21) (x := 500136506472) (k := 5) (by decide)] at c57
          refine aw_iconst (v := nI 2) (aw_d q_Mo_typeName 30 rfl) (by decide) ?_
          refine aw_goto (tgt := 81) (aw_d q_Mo_typeName 31 rfl) (by decide) ?_
          refine aw_istore_n (aw_d q_Mo_typeName 41 rfl) rfl (aw_le rfl) rfl ?_
          refine aw_aload_n (aw_d q_Mo_typeName 42 rfl) rfl rfl rfl ?_
          refine cVr (aw_d q_Mo_typeName 43 rfl) (sp_goesA) vL_Mo_327_Mo rfl rfl rfl rfl rfl rfl ⟨aw_le rfl, aw_le rfl⟩ ?_
          refine aw_ifN_eq (tgt := 101) (aw_d q_Mo_typeName 44 rfl) (by decide) (by (have hc2 := hc.2.1; have hwe := we_le (T := T) hp; omega)) (fun c86 => by exfalso; (have hc2 := hc.2.1; have hwe := we_le (T := T) hp; omega)) (fun c86 => ?_)
          refine aw_iload_n (aw_d q_Mo_typeName 45 rfl) rfl rfl ?_
          refine aw_ifN_ge (tgt := 101) (aw_d q_Mo_typeName 46 rfl) (by decide) (by (have hc2 := hc.2.1; have hwe := we_le (T := T) hp; omega)) (fun c90 => ?_) (fun c90 => by exfalso; (have hc2 := hc.2.1; have hwe := we_le (T := T) hp; omega))
          refine aw_iload_n (aw_d q_Mo_typeName 51 rfl) rfl rfl ?_
          refine aw_ifN_ge (tgt := 109) (aw_d q_Mo_typeName 52 rfl) (by decide) (by (have hc2 := hc.2.1; have hwe := we_le (T := T) hp; omega)) (fun c102 => ?_) (fun c102 => by exfalso; (have hc2 := hc.2.1; have hwe := we_le (T := T) hp; omega))
          refine aw_iload_n (aw_d q_Mo_typeName 55 rfl) rfl rfl ?_
          exact aw_iret (aw_d q_Mo_typeName 56 rfl) rfl (by rw [ew, if_neg (by decide), if_neg c25, if_neg c41, if_pos c57]; exact ⟨rfl, (we_le hp).2, by simp, rfl⟩)
      · rw [wm_eB (T := T) (a := p) (e := we T n p) (j := 20) (x := 1919246700) (k := 4) (by decide)] at c41
        refine aw_iconst (v := nI 1) (aw_d q_Mo_typeName 22 rfl) (by decide) ?_
        refine aw_goto (tgt := 81) (aw_d q_Mo_typeName 23 rfl) (by decide) ?_
        refine aw_istore_n (aw_d q_Mo_typeName 41 rfl) rfl (aw_le rfl) rfl ?_
        refine aw_aload_n (aw_d q_Mo_typeName 42 rfl) rfl rfl rfl ?_
        refine cVr (aw_d q_Mo_typeName 43 rfl) (sp_goesA) vL_Mo_327_Mo rfl rfl rfl rfl rfl rfl ⟨aw_le rfl, aw_le rfl⟩ ?_
        refine aw_ifN_eq (tgt := 101) (aw_d q_Mo_typeName 44 rfl) (by decide) (by (have hc2 := hc.2.1; have hwe := we_le (T := T) hp; omega)) (fun c86 => by exfalso; (have hc2 := hc.2.1; have hwe := we_le (T := T) hp; omega)) (fun c86 => ?_)
        refine aw_iload_n (aw_d q_Mo_typeName 45 rfl) rfl rfl ?_
        refine aw_ifN_ge (tgt := 101) (aw_d q_Mo_typeName 46 rfl) (by decide) (by (have hc2 := hc.2.1; have hwe := we_le (T := T) hp; omega)) (fun c90 => ?_) (fun c90 => by exfalso; (have hc2 := hc.2.1; have hwe := we_le (T := T) hp; omega))
        refine aw_iload_n (aw_d q_Mo_typeName 51 rfl) rfl rfl ?_
        refine aw_ifN_ge (tgt := 109) (aw_d q_Mo_typeName 52 rfl) (by decide) (by (have hc2 := hc.2.1; have hwe := we_le (T := T) hp; omega)) (fun c102 => ?_) (fun c102 => by exfalso; (have hc2 := hc.2.1; have hwe := we_le (T := T) hp; omega))
        refine aw_iload_n (aw_d q_Mo_typeName 55 rfl) rfl rfl ?_
        exact aw_iret (aw_d q_Mo_typeName 56 rfl) rfl (by rw [ew, if_neg (by decide), if_neg c25, if_pos c41]; exact ⟨rfl, (we_le hp).2, by simp, rfl⟩)
    · rw [wm_eB (T := T) (a := p) (e := we T n p) (j := 19) (x := 512853240933) (k := 5) (by decide)] at c25
      refine aw_iconst (v := nI 0) (aw_d q_Mo_typeName 14 rfl) (by decide) ?_
      refine aw_goto (tgt := 81) (aw_d q_Mo_typeName 15 rfl) (by decide) ?_
      refine aw_istore_n (aw_d q_Mo_typeName 41 rfl) rfl (aw_le rfl) rfl ?_
      refine aw_aload_n (aw_d q_Mo_typeName 42 rfl) rfl rfl rfl ?_
      refine cVr (aw_d q_Mo_typeName 43 rfl) (sp_goesA) vL_Mo_327_Mo rfl rfl rfl rfl rfl rfl ⟨aw_le rfl, aw_le rfl⟩ ?_
      refine aw_ifN_eq (tgt := 101) (aw_d q_Mo_typeName 44 rfl) (by decide) (by (have hc2 := hc.2.1; have hwe := we_le (T := T) hp; omega)) (fun c86 => by exfalso; (have hc2 := hc.2.1; have hwe := we_le (T := T) hp; omega)) (fun c86 => ?_)
      refine aw_iload_n (aw_d q_Mo_typeName 45 rfl) rfl rfl ?_
      refine aw_ifN_ge (tgt := 101) (aw_d q_Mo_typeName 46 rfl) (by decide) (by (have hc2 := hc.2.1; have hwe := we_le (T := T) hp; omega)) (fun c90 => ?_) (fun c90 => by exfalso; (have hc2 := hc.2.1; have hwe := we_le (T := T) hp; omega))
      refine aw_iload_n (aw_d q_Mo_typeName 51 rfl) rfl rfl ?_
      refine aw_ifN_ge (tgt := 109) (aw_d q_Mo_typeName 52 rfl) (by decide) (by (have hc2 := hc.2.1; have hwe := we_le (T := T) hp; omega)) (fun c102 => ?_) (fun c102 => by exfalso; (have hc2 := hc.2.1; have hwe := we_le (T := T) hp; omega))
      refine aw_iload_n (aw_d q_Mo_typeName 55 rfl) rfl rfl ?_
      exact aw_iret (aw_d q_Mo_typeName 56 rfl) rfl (by rw [ew, if_neg (by decide), if_pos c25]; exact ⟨rfl, (we_le hp).2, by simp, rfl⟩)
set_option maxRecDepth 20000 in
theorem sp_typeI {g : aw_G} {S : aw_S} {u b : Nat} {f z : Int32} {X : Nat → Int32} (hu : u ≤ 3000) (hb : b ≤ 3010)  : Sp g M_Mo_typeName 3 62 0 0 [.ref 33] (HP (QM S (nI b) (nI u) f z X)) (fun r h => r = some (.int (nI 0)) ∧ h = HP (QM S (nI b) (nI u) (nI b) z X)) := by
  refine Sp.of rfl (aw_le rfl) ?_
  refine aw_aload_n (aw_d q_Mo_typeName 0 rfl) rfl rfl rfl ?_
  refine cVr (aw_d q_Mo_typeName 1 rfl) (sp_letI hu hb) vL_Mo_352_Mo rfl rfl rfl rfl rfl rfl ⟨aw_le rfl, aw_le rfl⟩ ?_
  refine aw_istore_n (aw_d q_Mo_typeName 2 rfl) rfl (aw_le rfl) rfl ?_
  refine aw_aload_n (aw_d q_Mo_typeName 3 rfl) rfl rfl rfl ?_
  refine cVr (aw_d q_Mo_typeName 4 rfl) (sp_goesI hu) vL_Mo_327_Mo rfl rfl rfl rfl rfl rfl ⟨aw_le rfl, aw_le rfl⟩ ?_
  refine aw_ifN_ne (tgt := 16) (aw_d q_Mo_typeName 5 rfl) (by decide) (by omega) (fun c9 => by exfalso; omega) (fun c9 => ?_)
  refine aw_iconst (v := (-1)) (aw_d q_Mo_typeName 6 rfl) (by decide) ?_
  refine aw_goto (tgt := 81) (aw_d q_Mo_typeName 7 rfl) (by decide) ?_
  refine aw_istore_n (aw_d q_Mo_typeName 41 rfl) rfl (aw_le rfl) rfl ?_
  refine aw_aload_n (aw_d q_Mo_typeName 42 rfl) rfl rfl rfl ?_
  refine cVr (aw_d q_Mo_typeName 43 rfl) (sp_goesI hu) vL_Mo_327_Mo rfl rfl rfl rfl rfl rfl ⟨aw_le rfl, aw_le rfl⟩ ?_
  refine aw_ifN_eq (tgt := 101) (aw_d q_Mo_typeName 44 rfl) (by decide) (by omega) (fun c86 => ?_) (fun c86 => by exfalso; omega)
  refine aw_iload_n (aw_d q_Mo_typeName 51 rfl) rfl rfl ?_
  refine aw_ifI_ge (tgt := 109) (aw_d q_Mo_typeName 52 rfl) (by decide) (fun c102 => by exact absurd c102 (by decide)) (fun c102 => ?_)
  refine aw_iconst (v := nI 0) (aw_d q_Mo_typeName 53 rfl) (by decide) ?_
  refine aw_goto (tgt := 110) (aw_d q_Mo_typeName 54 rfl) (by decide) ?_
  exact aw_iret (aw_d q_Mo_typeName 56 rfl) rfl (⟨rfl, rfl⟩)
