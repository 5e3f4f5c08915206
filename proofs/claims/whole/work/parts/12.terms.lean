/-! pure words: runs over arrays -/
/-- p holds of f at the m places from k on -/
def allB (p : Int32 → Bool) (f : Nat → Int32) : Nat → Nat → Bool
  | 0, _ => true
  | m + 1, k => p (f k) && allB p f m (k + 1)
/-- f and e are one at the m places from k on -/
def eqB (f e : Nat → Int32) : Nat → Nat → Bool
  | 0, _ => true
  | m + 1, k => decide (f k = e k) && eqB f e m (k + 1)
/-- the first of the m numbers from k on of which p holds -/
def fdB (p : Nat → Bool) : Nat → Nat → Option Nat
  | 0, _ => none
  | m + 1, k => if p k then some k else fdB p m (k + 1)
theorem allB_iff (p : Int32 → Bool) (f : Nat → Int32) : ∀ m k, allB p f m k = true ↔ ∀ i, k ≤ i → i < k + m → p (f i) = true := by
  intro m
  induction m with
  | zero => intro k; simp only [allB]; exact ⟨fun _ i h1 h2 => by omega, fun _ => trivial⟩
  | succ m ih =>
    intro k
    simp only [allB, Bool.and_eq_true]
    rw [ih (k + 1)]
    constructor
    · rintro ⟨h1, h2⟩ i h3 h4
      by_cases hi : i = k
      · rw [hi]; exact h1
      · exact h2 i (by omega) (by omega)
    · intro h
      exact ⟨h k (by omega) (by omega), fun i h1 h2 => h i (by omega) (by omega)⟩
theorem eqB_iff (f e : Nat → Int32) : ∀ m k, eqB f e m k = true ↔ ∀ i, k ≤ i → i < k + m → f i = e i := by
  intro m
  induction m with
  | zero => intro k; simp only [eqB]; exact ⟨fun _ i h1 h2 => by omega, fun _ => trivial⟩
  | succ m ih =>
    intro k
    simp only [eqB, Bool.and_eq_true, decide_eq_true_eq]
    rw [ih (k + 1)]
    constructor
    · rintro ⟨h1, h2⟩ i h3 h4
      by_cases hi : i = k
      · rw [hi]; exact h1
      · exact h2 i (by omega) (by omega)
    · intro h
      exact ⟨h k (by omega) (by omega), fun i h1 h2 => h i (by omega) (by omega)⟩
theorem allB_congr {p : Int32 → Bool} {f e : Nat → Int32} {m k : Nat} (h : ∀ i, k ≤ i → i < k + m → f i = e i) : allB p f m k = allB p e m k := by
  apply Bool.eq_iff_iff.mpr
  rw [allB_iff, allB_iff]
  exact ⟨fun q i h1 h2 => by rw [← h i h1 h2]; exact q i h1 h2, fun q i h1 h2 => by rw [h i h1 h2]; exact q i h1 h2⟩
theorem eqB_congr {f f' e e' : Nat → Int32} {m k : Nat} (h : ∀ i, k ≤ i → i < k + m → f i = f' i) (h' : ∀ i, k ≤ i → i < k + m → e i = e' i) : eqB f e m k = eqB f' e' m k := by
  apply Bool.eq_iff_iff.mpr
  rw [eqB_iff, eqB_iff]
  exact ⟨fun q i h1 h2 => by rw [← h i h1 h2, ← h' i h1 h2]; exact q i h1 h2, fun q i h1 h2 => by rw [h i h1 h2, h' i h1 h2]; exact q i h1 h2⟩
theorem fdB_congr {p q : Nat → Bool} : ∀ {m k : Nat}, (∀ i, k ≤ i → i < k + m → p i = q i) → fdB p m k = fdB q m k := by
  intro m
  induction m with
  | zero => intro k _; rfl
  | succ m ih =>
    intro k h
    simp only [fdB]
    rw [h k (by omega) (by omega), ih (fun i h1 h2 => h i (by omega) (by omega))]
theorem fdB_some {p : Nat → Bool} : ∀ {m k t : Nat}, fdB p m k = some t → k ≤ t ∧ t < k + m ∧ p t = true := by
  intro m
  induction m with
  | zero => intro k t h; cases h
  | succ m ih =>
    intro k t h
    simp only [fdB] at h
    by_cases hp : p k = true
    · rw [if_pos hp] at h; cases h; exact ⟨by omega, by omega, hp⟩
    · rw [if_neg hp] at h
      obtain ⟨h1, h2, h3⟩ := ih h
      exact ⟨by omega, by omega, h3⟩
theorem fdB_none {p : Nat → Bool} : ∀ {m k : Nat}, fdB p m k = none → ∀ i, k ≤ i → i < k + m → p i = false := by
  intro m
  induction m with
  | zero => intro k _ i h1 h2; omega
  | succ m ih =>
    intro k h i h1 h2
    simp only [fdB] at h
    by_cases hp : p k = true
    · rw [if_pos hp] at h; cases h
    · rw [if_neg hp] at h
      by_cases hi : i = k
      · rw [hi]; simpa using hp
      · exact ih h i (by omega) (by omega)
/-- a text of n bytes is one of kind k -/
def okK (k : Nat) (f : Nat → Int32) (n : Nat) : Bool := if k = 0 then decide (0 < n) && allB pNd f n 0 else if k = 1 then decide (0 < n ∧ n ≤ 8) && allB pLD f n 0 else true
/-- term t of the arrays is this one -/
def tmB (K E L B : Nat → Int32) (k e : Int32) (n : Nat) (f : Nat → Int32) (t : Nat) : Bool := decide (K t = k) && (decide (E t = e) && (decide (L t = nI n) && eqB (fun i => B (t * 20 + i)) f n 0))
/-- a number, or -1 -/
def oI : Option Nat → Int32
  | none => -1
  | some t => nI t
theorem nI_ne_m1 {t : Nat} (h : t < 2147483648) : (nI t).toInt ≠ -1 := by rw [nI_toInt h]; omega
set_option maxRecDepth 20000 in
theorem sp_Tx_empty_7 {g : aw_G} {S : aw_S}  : Sp g M_Tx_empty 0 0 0 0 [.ref 7] (HP S) (fun r h => r = none ∧ h = HP (si S 701 (nI 0))) := by
  refine Sp.of rfl (aw_le rfl) ?_
  refine aw_aload_n (aw_d q_Tx_empty 0 rfl) rfl rfl rfl ?_
  refine aw_iconst (v := nI 0) (aw_d q_Tx_empty 1 rfl) (by decide) ?_
  refine wi_7_1 (aw_d q_Tx_empty 2 rfl) pL_Tx_15_Tx ?_
  exact aw_vret (aw_d q_Tx_empty 3 rfl) rfl (⟨rfl, rfl⟩)
set_option maxRecDepth 20000 in
theorem sp_Tx_isFull_7 {g : aw_G} {S : aw_S} {n : Nat} (hn : S.1 701 = nI n) (h3 : n ≤ 20) : Sp g M_Tx_isFull 0 0 0 0 [.ref 7] (HP S) (fun r h => r = some (.int (if n = 20 then nI 1 else nI 0)) ∧ h = HP S) := by
  refine Sp.of rfl (aw_le rfl) ?_
  refine aw_aload_n (aw_d q_Tx_isFull 0 rfl) rfl rfl rfl ?_
  refine aw_getf (v := .int (nI (n))) (aw_d q_Tx_isFull 1 rfl) fL_Tx_15_Tx rfl (gk hn) ?_
  refine aw_bipush (v := nI 20) (aw_d q_Tx_isFull 2 rfl) (by decide) ?_
  refine aw_icmpN_lt (tgt := 13) (aw_d q_Tx_isFull 3 rfl) (by decide) (by omega) (by omega) (fun c6 => ?_) (fun c6 => ?_)
  · refine aw_iconst (v := nI 0) (aw_d q_Tx_isFull 6 rfl) (by decide) ?_
    exact aw_zret (aw_d q_Tx_isFull 7 rfl) rfl (rfl) (⟨by first | rfl | (rw [if_pos (by omega)]) | (rw [if_neg (by omega)]), rfl⟩)
  · refine aw_iconst (v := nI 1) (aw_d q_Tx_isFull 4 rfl) (by decide) ?_
    refine aw_goto (tgt := 14) (aw_d q_Tx_isFull 5 rfl) (by decide) ?_
    exact aw_zret (aw_d q_Tx_isFull 7 rfl) rfl (rfl) (⟨by first | rfl | (rw [if_pos (by omega)]) | (rw [if_neg (by omega)]), rfl⟩)
set_option maxRecDepth 20000 in
theorem sp_Tx_get_7 {g : aw_G} {S : aw_S} {n k : Nat} (hn : S.1 701 = nI n) (h3 : n ≤ 20) (hk : k < n) : Sp g M_Tx_get 0 0 0 0 [.ref 7, .int (nI k)] (HP S) (fun r h => r = some (.int (S.2 8 k)) ∧ h = HP S) := by
  refine Sp.of rfl (aw_le rfl) ?_
  refine aw_iload_n (aw_d q_Tx_get 0 rfl) rfl rfl ?_
  refine aw_ifN_lt (tgt := 27) (aw_d q_Tx_get 1 rfl) (by decide) (by omega) (fun c1 => by exfalso; omega) (fun c1 => ?_)
  refine aw_iload_n (aw_d q_Tx_get 2 rfl) rfl rfl ?_
  refine aw_aload_n (aw_d q_Tx_get 3 rfl) rfl rfl rfl ?_
  refine aw_getf (v := .int (nI (n))) (aw_d q_Tx_get 4 rfl) fL_Tx_15_Tx rfl (gk hn) ?_
  refine aw_icmpN_ge (tgt := 27) (aw_d q_Tx_get 5 rfl) (by decide) (by omega) (by omega) (fun c9 => by exfalso; omega) (fun c9 => ?_)
  refine aw_iload_n (aw_d q_Tx_get 6 rfl) rfl rfl ?_
  refine aw_bipush (v := nI 20) (aw_d q_Tx_get 7 rfl) (by decide) ?_
  refine aw_icmpN_ge (tgt := 27) (aw_d q_Tx_get 8 rfl) (by decide) (by omega) (by omega) (fun c15 => by exfalso; omega) (fun c15 => ?_)
  refine aw_aload_n (aw_d q_Tx_get 9 rfl) rfl rfl rfl ?_
  refine aw_getf (aw_d q_Tx_get 10 rfl) fL_Tx_9_Tx rfl rfl ?_
  refine aw_iload_n (aw_d q_Tx_get 11 rfl) rfl rfl ?_
  refine aw_ialdN (aw_d q_Tx_get 12 rfl) rfl (by omega) rfl ?_
  refine aw_goto (tgt := 28) (aw_d q_Tx_get 13 rfl) (by decide) ?_
  exact aw_iret (aw_d q_Tx_get 15 rfl) rfl (⟨rfl, rfl⟩)
set_option maxRecDepth 20000 in
theorem sp_Tx_add_7 {g : aw_G} {S : aw_S} {n : Nat} {b : Int32} (hn : S.1 701 = nI n) (h3 : n < 20) : Sp g M_Tx_add 0 0 0 0 [.ref 7, .int b] (HP S) (fun r h => r = none ∧ h = HP (si (sa S 8 (upd (S.2 8) n b)) 701 (nI (n + 1)))) := by
  refine Sp.of rfl (aw_le rfl) ?_
  refine aw_aload_n (aw_d q_Tx_add 0 rfl) rfl rfl rfl ?_
  refine aw_getf (v := .int (nI (n))) (aw_d q_Tx_add 1 rfl) fL_Tx_15_Tx rfl (gk hn) ?_
  refine aw_ifN_lt (tgt := 16) (aw_d q_Tx_add 2 rfl) (by decide) (by omega) (fun c4 => by exfalso; omega) (fun c4 => ?_)
  refine aw_aload_n (aw_d q_Tx_add 3 rfl) rfl rfl rfl ?_
  refine aw_getf (v := .int (nI (n))) (aw_d q_Tx_add 4 rfl) fL_Tx_15_Tx rfl (gk hn) ?_
  refine aw_bipush (v := nI 20) (aw_d q_Tx_add 5 rfl) (by decide) ?_
  refine aw_icmpN_lt (tgt := 17) (aw_d q_Tx_add 6 rfl) (by decide) (by omega) (by omega) (fun c13 => ?_) (fun c13 => by exfalso; omega)
  refine aw_aload_n (aw_d q_Tx_add 8 rfl) rfl rfl rfl ?_
  refine aw_getf (aw_d q_Tx_add 9 rfl) fL_Tx_9_Tx rfl rfl ?_
  refine aw_aload_n (aw_d q_Tx_add 10 rfl) rfl rfl rfl ?_
  refine aw_getf (v := .int (nI (n))) (aw_d q_Tx_add 11 rfl) fL_Tx_15_Tx rfl (gk hn) ?_
  refine aw_iload_n (aw_d q_Tx_add 12 rfl) rfl rfl ?_
  refine wn_8 (aw_d q_Tx_add 13 rfl) (by omega) ?_
  refine aw_aload_n (aw_d q_Tx_add 14 rfl) rfl rfl rfl ?_
  refine aw_dup (aw_d q_Tx_add 15 rfl) rfl ?_
  refine aw_getf (v := .int (nI (n))) (aw_d q_Tx_add 16 rfl) fL_Tx_15_Tx rfl (gk hn) ?_
  refine aw_iconst (v := nI 1) (aw_d q_Tx_add 17 rfl) (by decide) ?_
  refine aw_iaddN (aw_d q_Tx_add 18 rfl) ?_
  refine wi_7_1 (aw_d q_Tx_add 19 rfl) pL_Tx_15_Tx ?_
  exact aw_vret (aw_d q_Tx_add 20 rfl) rfl (⟨rfl, rfl⟩)
theorem okK0 (f : Nat → Int32) (n : Nat) : okK 0 f n = (decide (0 < n) && allB pNd f n 0) := rfl
set_option maxRecDepth 20000 in
theorem lp_Tx_isOf_7_0 {g : aw_G} {S : aw_S} {n : Nat} (hn : S.1 701 = nI n) (h3 : n ≤ 20) : ∀ (m k : Nat) (x3 : Option Value), m + k = n → allB pNd (S.2 8) n 0 = allB pNd (S.2 8) m k → AW g M_Tx_isOf (aw_rm 5 111 0 0) (aw_F g 0 0 (fun r h => r = some (.int (if okK 0 (S.2 8) n then nI 1 else nI 0)) ∧ h = HP S)) 13 [some (.ref 7), some (.int (nI 0)), some (.int (nI k)), x3] [] (HP S) 0 0 := by
  intro m
  induction m with
  | zero =>
    intro k x3 hk e
    refine aw_iload_n (aw_d q_Tx_isOf 9 rfl) rfl rfl ?_
    refine aw_aload_n (aw_d q_Tx_isOf 10 rfl) rfl rfl rfl ?_
    refine aw_getf (v := .int (nI (n))) (aw_d q_Tx_isOf 11 rfl) fL_Tx_15_Tx rfl (gk hn) ?_
    refine aw_icmpN_ge (tgt := 57) (aw_d q_Tx_isOf 12 rfl) (by decide) (by omega) (by omega) (fun c18 => ?_) (fun c18 => by exfalso; omega)
    refine aw_aload_n (aw_d q_Tx_isOf 31 rfl) rfl rfl rfl ?_
    refine aw_getf (v := .int (nI (n))) (aw_d q_Tx_isOf 32 rfl) fL_Tx_15_Tx rfl (gk hn) ?_
    refine aw_ifN_le (tgt := 81) (aw_d q_Tx_isOf 33 rfl) (by decide) (by omega) (fun c61 => ?_) (fun c61 => ?_)
    · refine aw_iconst (v := nI 0) (aw_d q_Tx_isOf 42 rfl) (by decide) ?_
      exact aw_zret (aw_d q_Tx_isOf 43 rfl) rfl (rfl) (⟨by simp only [allB] at e; rw [okK0, e]; first | (exfalso; omega) | (rw [if_pos (by first | (simp; done) | (simp; omega))]) | (rw [if_neg (by first | (simp; done) | (simp; omega))]), rfl⟩)
    · refine aw_iload_n (aw_d q_Tx_isOf 34 rfl) rfl rfl ?_
      refine aw_ifN_eq (tgt := 77) (aw_d q_Tx_isOf 35 rfl) (by decide) (by omega) (fun c65 => ?_) (fun c65 => by exfalso; omega)
      refine aw_iconst (v := nI 1) (aw_d q_Tx_isOf 40 rfl) (by decide) ?_
      refine aw_goto (tgt := 82) (aw_d q_Tx_isOf 41 rfl) (by decide) ?_
      exact aw_zret (aw_d q_Tx_isOf 43 rfl) rfl (rfl) (⟨by simp only [allB] at e; rw [okK0, e]; first | (exfalso; omega) | (rw [if_pos (by first | (simp; done) | (simp; omega))]) | (rw [if_neg (by first | (simp; done) | (simp; omega))]), rfl⟩)
  | succ m ih =>
    intro k x3 hk e
    refine aw_iload_n (aw_d q_Tx_isOf 9 rfl) rfl rfl ?_
    refine aw_aload_n (aw_d q_Tx_isOf 10 rfl) rfl rfl rfl ?_
    refine aw_getf (v := .int (nI (n))) (aw_d q_Tx_isOf 11 rfl) fL_Tx_15_Tx rfl (gk hn) ?_
    refine aw_icmpN_ge (tgt := 57) (aw_d q_Tx_isOf 12 rfl) (by decide) (by omega) (by omega) (fun c18 => by exfalso; omega) (fun c18 => ?_)
    refine aw_iload_n (aw_d q_Tx_isOf 13 rfl) rfl rfl ?_
    refine aw_ifN_ne (tgt := 36) (aw_d q_Tx_isOf 14 rfl) (by decide) (by omega) (fun c22 => by exfalso; omega) (fun c22 => ?_)
    refine aw_aload_n (aw_d q_Tx_isOf 15 rfl) rfl rfl rfl ?_
    refine aw_iload_n (aw_d q_Tx_isOf 16 rfl) rfl rfl ?_
    refine cVr (aw_d q_Tx_isOf 17 rfl) (sp_Tx_get_7 hn h3 (by omega)) vL_Tx_37_Tx rfl rfl rfl rfl rfl rfl ⟨aw_le rfl, aw_le rfl⟩ ?_
    refine cSr (aw_d q_Tx_isOf 18 rfl) (sp_RF_isNodeByte) sL_Tx_38 rfl rfl rfl rfl ⟨aw_le rfl, aw_le rfl⟩ ?_
    refine aw_goto (tgt := 44) (aw_d q_Tx_isOf 19 rfl) (by decide) ?_
    refine aw_istore_n (aw_d q_Tx_isOf 24 rfl) rfl (aw_le rfl) rfl ?_
    refine aw_iload_n (aw_d q_Tx_isOf 25 rfl) rfl rfl ?_
    refine aw_ifB_ne (tgt := 51) (aw_d q_Tx_isOf 26 rfl) (by decide) (fun c46 => ?_) (fun c46 => ?_)
    · refine aw_iinc (aw_d q_Tx_isOf 29 rfl) rfl (ii1 _) (aw_le rfl) rfl ?_
      refine aw_goto (tgt := 13) (aw_d q_Tx_isOf 30 rfl) (by decide) ?_
      exact ih (k + 1) _ (by omega) (e.trans (by simp only [allB]; rw [c46]; rfl))
    · refine aw_iconst (v := nI 0) (aw_d q_Tx_isOf 27 rfl) (by decide) ?_
      exact aw_zret (aw_d q_Tx_isOf 28 rfl) rfl (rfl) (⟨by simp only [allB] at e; rw [okK0, e, if_neg (by simp [c46])], rfl⟩)
theorem okK1 (f : Nat → Int32) (n : Nat) : okK 1 f n = (decide (0 < n ∧ n ≤ 8) && allB pLD f n 0) := rfl
set_option maxRecDepth 20000 in
theorem lp_Tx_isOf_7_1 {g : aw_G} {S : aw_S} {n : Nat} (hn : S.1 701 = nI n) (h3 : n ≤ 20) : ∀ (m k : Nat) (x3 : Option Value), m + k = n → allB pLD (S.2 8) n 0 = allB pLD (S.2 8) m k → AW g M_Tx_isOf (aw_rm 5 111 0 0) (aw_F g 0 0 (fun r h => r = some (.int (if okK 1 (S.2 8) n then nI 1 else nI 0)) ∧ h = HP S)) 13 [some (.ref 7), some (.int (nI 1)), some (.int (nI k)), x3] [] (HP S) 0 0 := by
  intro m
  induction m with
  | zero =>
    intro k x3 hk e
    refine aw_iload_n (aw_d q_Tx_isOf 9 rfl) rfl rfl ?_
    refine aw_aload_n (aw_d q_Tx_isOf 10 rfl) rfl rfl rfl ?_
    refine aw_getf (v := .int (nI (n))) (aw_d q_Tx_isOf 11 rfl) fL_Tx_15_Tx rfl (gk hn) ?_
    refine aw_icmpN_ge (tgt := 57) (aw_d q_Tx_isOf 12 rfl) (by decide) (by omega) (by omega) (fun c18 => ?_) (fun c18 => by exfalso; omega)
    refine aw_aload_n (aw_d q_Tx_isOf 31 rfl) rfl rfl rfl ?_
    refine aw_getf (v := .int (nI (n))) (aw_d q_Tx_isOf 32 rfl) fL_Tx_15_Tx rfl (gk hn) ?_
    refine aw_ifN_le (tgt := 81) (aw_d q_Tx_isOf 33 rfl) (by decide) (by omega) (fun c61 => ?_) (fun c61 => ?_)
    · refine aw_iconst (v := nI 0) (aw_d q_Tx_isOf 42 rfl) (by decide) ?_
      exact aw_zret (aw_d q_Tx_isOf 43 rfl) rfl (rfl) (⟨by simp only [allB] at e; rw [okK1, e]; first | (exfalso; omega) | (rw [if_pos (by first | (simp; done) | (simp; omega))]) | (rw [if_neg (by first | (simp; done) | (simp; omega))]), rfl⟩)
    · refine aw_iload_n (aw_d q_Tx_isOf 34 rfl) rfl rfl ?_
      refine aw_ifN_eq (tgt := 77) (aw_d q_Tx_isOf 35 rfl) (by decide) (by omega) (fun c65 => by exfalso; omega) (fun c65 => ?_)
      refine aw_aload_n (aw_d q_Tx_isOf 36 rfl) rfl rfl rfl ?_
      refine aw_getf (v := .int (nI (n))) (aw_d q_Tx_isOf 37 rfl) fL_Tx_15_Tx rfl (gk hn) ?_
      refine aw_bipush (v := nI 8) (aw_d q_Tx_isOf 38 rfl) (by decide) ?_
      refine aw_icmpN_gt (tgt := 81) (aw_d q_Tx_isOf 39 rfl) (by decide) (by omega) (by omega) (fun c74 => ?_) (fun c74 => ?_)
      · refine aw_iconst (v := nI 0) (aw_d q_Tx_isOf 42 rfl) (by decide) ?_
        exact aw_zret (aw_d q_Tx_isOf 43 rfl) rfl (rfl) (⟨by simp only [allB] at e; rw [okK1, e]; first | (exfalso; omega) | (rw [if_pos (by first | (simp; done) | (simp; omega))]) | (rw [if_neg (by first | (simp; done) | (simp; omega))]), rfl⟩)
      · refine aw_iconst (v := nI 1) (aw_d q_Tx_isOf 40 rfl) (by decide) ?_
        refine aw_goto (tgt := 82) (aw_d q_Tx_isOf 41 rfl) (by decide) ?_
        exact aw_zret (aw_d q_Tx_isOf 43 rfl) rfl (rfl) (⟨by simp only [allB] at e; rw [okK1, e]; first | (exfalso; omega) | (rw [if_pos (by first | (simp; done) | (simp; omega))]) | (rw [if_neg (by first | (simp; done) | (simp; omega))]), rfl⟩)
  | succ m ih =>
    intro k x3 hk e
    refine aw_iload_n (aw_d q_Tx_isOf 9 rfl) rfl rfl ?_
    refine aw_aload_n (aw_d q_Tx_isOf 10 rfl) rfl rfl rfl ?_
    refine aw_getf (v := .int (nI (n))) (aw_d q_Tx_isOf 11 rfl) fL_Tx_15_Tx rfl (gk hn) ?_
    refine aw_icmpN_ge (tgt := 57) (aw_d q_Tx_isOf 12 rfl) (by decide) (by omega) (by omega) (fun c18 => by exfalso; omega) (fun c18 => ?_)
    refine aw_iload_n (aw_d q_Tx_isOf 13 rfl) rfl rfl ?_
    refine aw_ifN_ne (tgt := 36) (aw_d q_Tx_isOf 14 rfl) (by decide) (by omega) (fun c22 => ?_) (fun c22 => by exfalso; omega)
    refine aw_aload_n (aw_d q_Tx_isOf 20 rfl) rfl rfl rfl ?_
    refine aw_iload_n (aw_d q_Tx_isOf 21 rfl) rfl rfl ?_
    refine cVr (aw_d q_Tx_isOf 22 rfl) (sp_Tx_get_7 hn h3 (by omega)) vL_Tx_37_Tx rfl rfl rfl rfl rfl rfl ⟨aw_le rfl, aw_le rfl⟩ ?_
    refine cSr (aw_d q_Tx_isOf 23 rfl) (sp_RF_isLetterOrDigit) sL_Tx_41 rfl rfl rfl rfl ⟨aw_le rfl, aw_le rfl⟩ ?_
    refine aw_istore_n (aw_d q_Tx_isOf 24 rfl) rfl (aw_le rfl) rfl ?_
    refine aw_iload_n (aw_d q_Tx_isOf 25 rfl) rfl rfl ?_
    refine aw_ifB_ne (tgt := 51) (aw_d q_Tx_isOf 26 rfl) (by decide) (fun c46 => ?_) (fun c46 => ?_)
    · refine aw_iinc (aw_d q_Tx_isOf 29 rfl) rfl (ii1 _) (aw_le rfl) rfl ?_
      refine aw_goto (tgt := 13) (aw_d q_Tx_isOf 30 rfl) (by decide) ?_
      exact ih (k + 1) _ (by omega) (e.trans (by simp only [allB]; rw [c46]; rfl))
    · refine aw_iconst (v := nI 0) (aw_d q_Tx_isOf 27 rfl) (by decide) ?_
      exact aw_zret (aw_d q_Tx_isOf 28 rfl) rfl (rfl) (⟨by simp only [allB] at e; rw [okK1, e, if_neg (by simp [c46])], rfl⟩)
set_option maxRecDepth 20000 in
theorem sp_Tx_isOf_7 {g : aw_G} {S : aw_S} {n kd : Nat} (hn : S.1 701 = nI n) (h3 : n ≤ 20) (hkd : kd ≤ 4) : Sp g M_Tx_isOf 5 111 0 0 [.ref 7, .int (nI kd)] (HP S) (fun r h => r = some (.int (if okK kd (S.2 8) n then nI 1 else nI 0)) ∧ h = HP S) := by
  refine Sp.of rfl (aw_le rfl) ?_
  by_cases h0 : kd = 0
  · subst h0
    refine aw_iload_n (aw_d q_Tx_isOf 0 rfl) rfl rfl ?_
    refine aw_ifN_eq (tgt := 11) (aw_d q_Tx_isOf 1 rfl) (by decide) (by omega) (fun c1 => ?_) (fun c1 => by exfalso; omega)
    refine aw_iconst (v := nI 0) (aw_d q_Tx_isOf 7 rfl) (by decide) ?_
    refine aw_istore_n (aw_d q_Tx_isOf 8 rfl) rfl (aw_le rfl) rfl ?_
    exact lp_Tx_isOf_7_0 hn h3 n 0 _ (by omega) rfl
  · by_cases h1 : kd = 1
    · subst h1
      refine aw_iload_n (aw_d q_Tx_isOf 0 rfl) rfl rfl ?_
      refine aw_ifN_eq (tgt := 11) (aw_d q_Tx_isOf 1 rfl) (by decide) (by omega) (fun c1 => by exfalso; omega) (fun c1 => ?_)
      refine aw_iload_n (aw_d q_Tx_isOf 2 rfl) rfl rfl ?_
      refine aw_iconst (v := nI 1) (aw_d q_Tx_isOf 3 rfl) (by decide) ?_
      refine aw_icmpN_eq (tgt := 11) (aw_d q_Tx_isOf 4 rfl) (by decide) (by omega) (by omega) (fun c6 => ?_) (fun c6 => by exfalso; omega)
      refine aw_iconst (v := nI 0) (aw_d q_Tx_isOf 7 rfl) (by decide) ?_
      refine aw_istore_n (aw_d q_Tx_isOf 8 rfl) rfl (aw_le rfl) rfl ?_
      exact lp_Tx_isOf_7_1 hn h3 n 0 _ (by omega) rfl
    · have hk : okK kd (S.2 8) n = true := by simp only [okK]; rw [if_neg h0, if_neg h1]
      refine aw_iload_n (aw_d q_Tx_isOf 0 rfl) rfl rfl ?_
      refine aw_ifN_eq (tgt := 11) (aw_d q_Tx_isOf 1 rfl) (by decide) (by omega) (fun c1 => by exfalso; omega) (fun c1 => ?_)
      refine aw_iload_n (aw_d q_Tx_isOf 2 rfl) rfl rfl ?_
      refine aw_iconst (v := nI 1) (aw_d q_Tx_isOf 3 rfl) (by decide) ?_
      refine aw_icmpN_eq (tgt := 11) (aw_d q_Tx_isOf 4 rfl) (by decide) (by omega) (by omega) (fun c6 => by exfalso; omega) (fun c6 => ?_)
      refine aw_iconst (v := nI 1) (aw_d q_Tx_isOf 5 rfl) (by decide) ?_
      exact aw_zret (aw_d q_Tx_isOf 6 rfl) rfl (rfl) (⟨by rw [if_pos hk], rfl⟩)
set_option maxRecDepth 20000 in
theorem sp_Tx_empty_27 {g : aw_G} {S : aw_S}  : Sp g M_Tx_empty 0 0 0 0 [.ref 27] (HP S) (fun r h => r = none ∧ h = HP (si S 2701 (nI 0))) := by
  refine Sp.of rfl (aw_le rfl) ?_
  refine aw_aload_n (aw_d q_Tx_empty 0 rfl) rfl rfl rfl ?_
  refine aw_iconst (v := nI 0) (aw_d q_Tx_empty 1 rfl) (by decide) ?_
  refine wi_27_1 (aw_d q_Tx_empty 2 rfl) pL_Tx_15_Tx ?_
  exact aw_vret (aw_d q_Tx_empty 3 rfl) rfl (⟨rfl, rfl⟩)
set_option maxRecDepth 20000 in
theorem sp_Tx_isFull_27 {g : aw_G} {S : aw_S} {n : Nat} (hn : S.1 2701 = nI n) (h3 : n ≤ 20) : Sp g M_Tx_isFull 0 0 0 0 [.ref 27] (HP S) (fun r h => r = some (.int (if n = 20 then nI 1 else nI 0)) ∧ h = HP S) := by
  refine Sp.of rfl (aw_le rfl) ?_
  refine aw_aload_n (aw_d q_Tx_isFull 0 rfl) rfl rfl rfl ?_
  refine aw_getf (v := .int (nI (n))) (aw_d q_Tx_isFull 1 rfl) fL_Tx_15_Tx rfl (gk hn) ?_
  refine aw_bipush (v := nI 20) (aw_d q_Tx_isFull 2 rfl) (by decide) ?_
  refine aw_icmpN_lt (tgt := 13) (aw_d q_Tx_isFull 3 rfl) (by decide) (by omega) (by omega) (fun c6 => ?_) (fun c6 => ?_)
  · refine aw_iconst (v := nI 0) (aw_d q_Tx_isFull 6 rfl) (by decide) ?_
    exact aw_zret (aw_d q_Tx_isFull 7 rfl) rfl (rfl) (⟨by first | rfl | (rw [if_pos (by omega)]) | (rw [if_neg (by omega)]), rfl⟩)
  · refine aw_iconst (v := nI 1) (aw_d q_Tx_isFull 4 rfl) (by decide) ?_
    refine aw_goto (tgt := 14) (aw_d q_Tx_isFull 5 rfl) (by decide) ?_
    exact aw_zret (aw_d q_Tx_isFull 7 rfl) rfl (rfl) (⟨by first | rfl | (rw [if_pos (by omega)]) | (rw [if_neg (by omega)]), rfl⟩)
set_option maxRecDepth 20000 in
theorem sp_Tx_get_27 {g : aw_G} {S : aw_S} {n k : Nat} (hn : S.1 2701 = nI n) (h3 : n ≤ 20) (hk : k < n) : Sp g M_Tx_get 0 0 0 0 [.ref 27, .int (nI k)] (HP S) (fun r h => r = some (.int (S.2 28 k)) ∧ h = HP S) := by
  refine Sp.of rfl (aw_le rfl) ?_
  refine aw_iload_n (aw_d q_Tx_get 0 rfl) rfl rfl ?_
  refine aw_ifN_lt (tgt := 27) (aw_d q_Tx_get 1 rfl) (by decide) (by omega) (fun c1 => by exfalso; omega) (fun c1 => ?_)
  refine aw_iload_n (aw_d q_Tx_get 2 rfl) rfl rfl ?_
  refine aw_aload_n (aw_d q_Tx_get 3 rfl) rfl rfl rfl ?_
  refine aw_getf (v := .int (nI (n))) (aw_d q_Tx_get 4 rfl) fL_Tx_15_Tx rfl (gk hn) ?_
  refine aw_icmpN_ge (tgt := 27) (aw_d q_Tx_get 5 rfl) (by decide) (by omega) (by omega) (fun c9 => by exfalso; omega) (fun c9 => ?_)
  refine aw_iload_n (aw_d q_Tx_get 6 rfl) rfl rfl ?_
  refine aw_bipush (v := nI 20) (aw_d q_Tx_get 7 rfl) (by decide) ?_
  refine aw_icmpN_ge (tgt := 27) (aw_d q_Tx_get 8 rfl) (by decide) (by omega) (by omega) (fun c15 => by exfalso; omega) (fun c15 => ?_)
  refine aw_aload_n (aw_d q_Tx_get 9 rfl) rfl rfl rfl ?_
  refine aw_getf (aw_d q_Tx_get 10 rfl) fL_Tx_9_Tx rfl rfl ?_
  refine aw_iload_n (aw_d q_Tx_get 11 rfl) rfl rfl ?_
  refine aw_ialdN (aw_d q_Tx_get 12 rfl) rfl (by omega) rfl ?_
  refine aw_goto (tgt := 28) (aw_d q_Tx_get 13 rfl) (by decide) ?_
  exact aw_iret (aw_d q_Tx_get 15 rfl) rfl (⟨rfl, rfl⟩)
set_option maxRecDepth 20000 in
theorem sp_Tx_add_27 {g : aw_G} {S : aw_S} {n : Nat} {b : Int32} (hn : S.1 2701 = nI n) (h3 : n < 20) : Sp g M_Tx_add 0 0 0 0 [.ref 27, .int b] (HP S) (fun r h => r = none ∧ h = HP (si (sa S 28 (upd (S.2 28) n b)) 2701 (nI (n + 1)))) := by
  refine Sp.of rfl (aw_le rfl) ?_
  refine aw_aload_n (aw_d q_Tx_add 0 rfl) rfl rfl rfl ?_
  refine aw_getf (v := .int (nI (n))) (aw_d q_Tx_add 1 rfl) fL_Tx_15_Tx rfl (gk hn) ?_
  refine aw_ifN_lt (tgt := 16) (aw_d q_Tx_add 2 rfl) (by decide) (by omega) (fun c4 => by exfalso; omega) (fun c4 => ?_)
  refine aw_aload_n (aw_d q_Tx_add 3 rfl) rfl rfl rfl ?_
  refine aw_getf (v := .int (nI (n))) (aw_d q_Tx_add 4 rfl) fL_Tx_15_Tx rfl (gk hn) ?_
  refine aw_bipush (v := nI 20) (aw_d q_Tx_add 5 rfl) (by decide) ?_
  refine aw_icmpN_lt (tgt := 17) (aw_d q_Tx_add 6 rfl) (by decide) (by omega) (by omega) (fun c13 => ?_) (fun c13 => by exfalso; omega)
  refine aw_aload_n (aw_d q_Tx_add 8 rfl) rfl rfl rfl ?_
  refine aw_getf (aw_d q_Tx_add 9 rfl) fL_Tx_9_Tx rfl rfl ?_
  refine aw_aload_n (aw_d q_Tx_add 10 rfl) rfl rfl rfl ?_
  refine aw_getf (v := .int (nI (n))) (aw_d q_Tx_add 11 rfl) fL_Tx_15_Tx rfl (gk hn) ?_
  refine aw_iload_n (aw_d q_Tx_add 12 rfl) rfl rfl ?_
  refine wn_28 (aw_d q_Tx_add 13 rfl) (by omega) ?_
  refine aw_aload_n (aw_d q_Tx_add 14 rfl) rfl rfl rfl ?_
  refine aw_dup (aw_d q_Tx_add 15 rfl) rfl ?_
  refine aw_getf (v := .int (nI (n))) (aw_d q_Tx_add 16 rfl) fL_Tx_15_Tx rfl (gk hn) ?_
  refine aw_iconst (v := nI 1) (aw_d q_Tx_add 17 rfl) (by decide) ?_
  refine aw_iaddN (aw_d q_Tx_add 18 rfl) ?_
  refine wi_27_1 (aw_d q_Tx_add 19 rfl) pL_Tx_15_Tx ?_
  exact aw_vret (aw_d q_Tx_add 20 rfl) rfl (⟨rfl, rfl⟩)
set_option maxRecDepth 20000 in
theorem lp_Tx_isOf_27_0 {g : aw_G} {S : aw_S} {n : Nat} (hn : S.1 2701 = nI n) (h3 : n ≤ 20) : ∀ (m k : Nat) (x3 : Option Value), m + k = n → allB pNd (S.2 28) n 0 = allB pNd (S.2 28) m k → AW g M_Tx_isOf (aw_rm 5 111 0 0) (aw_F g 0 0 (fun r h => r = some (.int (if okK 0 (S.2 28) n then nI 1 else nI 0)) ∧ h = HP S)) 13 [some (.ref 27), some (.int (nI 0)), some (.int (nI k)), x3] [] (HP S) 0 0 := by
  intro m
  induction m with
  | zero =>
    intro k x3 hk e
    refine aw_iload_n (aw_d q_Tx_isOf 9 rfl) rfl rfl ?_
    refine aw_aload_n (aw_d q_Tx_isOf 10 rfl) rfl rfl rfl ?_
    refine aw_getf (v := .int (nI (n))) (aw_d q_Tx_isOf 11 rfl) fL_Tx_15_Tx rfl (gk hn) ?_
    refine aw_icmpN_ge (tgt := 57) (aw_d q_Tx_isOf 12 rfl) (by decide) (by omega) (by omega) (fun c18 => ?_) (fun c18 => by exfalso; omega)
    refine aw_aload_n (aw_d q_Tx_isOf 31 rfl) rfl rfl rfl ?_
    refine aw_getf (v := .int (nI (n))) (aw_d q_Tx_isOf 32 rfl) fL_Tx_15_Tx rfl (gk hn) ?_
    refine aw_ifN_le (tgt := 81) (aw_d q_Tx_isOf 33 rfl) (by decide) (by omega) (fun c61 => ?_) (fun c61 => ?_)
    · refine aw_iconst (v := nI 0) (aw_d q_Tx_isOf 42 rfl) (by decide) ?_
      exact aw_zret (aw_d q_Tx_isOf 43 rfl) rfl (rfl) (⟨by simp only [allB] at e; rw [okK0, e]; first | (exfalso; omega) | (rw [if_pos (by first | (simp; done) | (simp; omega))]) | (rw [if_neg (by first | (simp; done) | (simp; omega))]), rfl⟩)
    · refine aw_iload_n (aw_d q_Tx_isOf 34 rfl) rfl rfl ?_
      refine aw_ifN_eq (tgt := 77) (aw_d q_Tx_isOf 35 rfl) (by decide) (by omega) (fun c65 => ?_) (fun c65 => by exfalso; omega)
      refine aw_iconst (v := nI 1) (aw_d q_Tx_isOf 40 rfl) (by decide) ?_
      refine aw_goto (tgt := 82) (aw_d q_Tx_isOf 41 rfl) (by decide) ?_
      exact aw_zret (aw_d q_Tx_isOf 43 rfl) rfl (rfl) (⟨by simp only [allB] at e; rw [okK0, e]; first | (exfalso; omega) | (rw [if_pos (by first | (simp; done) | (simp; omega))]) | (rw [if_neg (by first | (simp; done) | (simp; omega))]), rfl⟩)
  | succ m ih =>
    intro k x3 hk e
    refine aw_iload_n (aw_d q_Tx_isOf 9 rfl) rfl rfl ?_
    refine aw_aload_n (aw_d q_Tx_isOf 10 rfl) rfl rfl rfl ?_
    refine aw_getf (v := .int (nI (n))) (aw_d q_Tx_isOf 11 rfl) fL_Tx_15_Tx rfl (gk hn) ?_
    refine aw_icmpN_ge (tgt := 57) (aw_d q_Tx_isOf 12 rfl) (by decide) (by omega) (by omega) (fun c18 => by exfalso; omega) (fun c18 => ?_)
    refine aw_iload_n (aw_d q_Tx_isOf 13 rfl) rfl rfl ?_
    refine aw_ifN_ne (tgt := 36) (aw_d q_Tx_isOf 14 rfl) (by decide) (by omega) (fun c22 => by exfalso; omega) (fun c22 => ?_)
    refine aw_aload_n (aw_d q_Tx_isOf 15 rfl) rfl rfl rfl ?_
    refine aw_iload_n (aw_d q_Tx_isOf 16 rfl) rfl rfl ?_
    refine cVr (aw_d q_Tx_isOf 17 rfl) (sp_Tx_get_27 hn h3 (by omega)) vL_Tx_37_Tx rfl rfl rfl rfl rfl rfl ⟨aw_le rfl, aw_le rfl⟩ ?_
    refine cSr (aw_d q_Tx_isOf 18 rfl) (sp_RF_isNodeByte) sL_Tx_38 rfl rfl rfl rfl ⟨aw_le rfl, aw_le rfl⟩ ?_
    refine aw_goto (tgt := 44) (aw_d q_Tx_isOf 19 rfl) (by decide) ?_
    refine aw_istore_n (aw_d q_Tx_isOf 24 rfl) rfl (aw_le rfl) rfl ?_
    refine aw_iload_n (aw_d q_Tx_isOf 25 rfl) rfl rfl ?_
    refine aw_ifB_ne (tgt := 51) (aw_d q_Tx_isOf 26 rfl) (by decide) (fun c46 => ?_) (fun c46 => ?_)
    · refine aw_iinc (aw_d q_Tx_isOf 29 rfl) rfl (ii1 _) (aw_le rfl) rfl ?_
      refine aw_goto (tgt := 13) (aw_d q_Tx_isOf 30 rfl) (by decide) ?_
      exact ih (k + 1) _ (by omega) (e.trans (by simp only [allB]; rw [c46]; rfl))
    · refine aw_iconst (v := nI 0) (aw_d q_Tx_isOf 27 rfl) (by decide) ?_
      exact aw_zret (aw_d q_Tx_isOf 28 rfl) rfl (rfl) (⟨by simp only [allB] at e; rw [okK0, e, if_neg (by simp [c46])], rfl⟩)
set_option maxRecDepth 20000 in
theorem lp_Tx_isOf_27_1 {g : aw_G} {S : aw_S} {n : Nat} (hn : S.1 2701 = nI n) (h3 : n ≤ 20) : ∀ (m k : Nat) (x3 : Option Value), m + k = n → allB pLD (S.2 28) n 0 = allB pLD (S.2 28) m k → AW g M_Tx_isOf (aw_rm 5 111 0 0) (aw_F g 0 0 (fun r h => r = some (.int (if okK 1 (S.2 28) n then nI 1 else nI 0)) ∧ h = HP S)) 13 [some (.ref 27), some (.int (nI 1)), some (.int (nI k)), x3] [] (HP S) 0 0 := by
  intro m
  induction m with
  | zero =>
    intro k x3 hk e
    refine aw_iload_n (aw_d q_Tx_isOf 9 rfl) rfl rfl ?_
    refine aw_aload_n (aw_d q_Tx_isOf 10 rfl) rfl rfl rfl ?_
    refine aw_getf (v := .int (nI (n))) (aw_d q_Tx_isOf 11 rfl) fL_Tx_15_Tx rfl (gk hn) ?_
    refine aw_icmpN_ge (tgt := 57) (aw_d q_Tx_isOf 12 rfl) (by decide) (by omega) (by omega) (fun c18 => ?_) (fun c18 => by exfalso; omega)
    refine aw_aload_n (aw_d q_Tx_isOf 31 rfl) rfl rfl rfl ?_
    refine aw_getf (v := .int (nI (n))) (aw_d q_Tx_isOf 32 rfl) fL_Tx_15_Tx rfl (gk hn) ?_
    refine aw_ifN_le (tgt := 81) (aw_d q_Tx_isOf 33 rfl) (by decide) (by omega) (fun c61 => ?_) (fun c61 => ?_)
    · refine aw_iconst (v := nI 0) (aw_d q_Tx_isOf 42 rfl) (by decide) ?_
      exact aw_zret (aw_d q_Tx_isOf 43 rfl) rfl (rfl) (⟨by simp only [allB] at e; rw [okK1, e]; first | (exfalso; omega) | (rw [if_pos (by first | (simp; done) | (simp; omega))]) | (rw [if_neg (by first | (simp; done) | (simp; omega))]), rfl⟩)
    · refine aw_iload_n (aw_d q_Tx_isOf 34 rfl) rfl rfl ?_
      refine aw_ifN_eq (tgt := 77) (aw_d q_Tx_isOf 35 rfl) (by decide) (by omega) (fun c65 => by exfalso; omega) (fun c65 => ?_)
      refine aw_aload_n (aw_d q_Tx_isOf 36 rfl) rfl rfl rfl ?_
      refine aw_getf (v := .int (nI (n))) (aw_d q_Tx_isOf 37 rfl) fL_Tx_15_Tx rfl (gk hn) ?_
      refine aw_bipush (v := nI 8) (aw_d q_Tx_isOf 38 rfl) (by decide) ?_
      refine aw_icmpN_gt (tgt := 81) (aw_d q_Tx_isOf 39 rfl) (by decide) (by omega) (by omega) (fun c74 => ?_) (fun c74 => ?_)
      · refine aw_iconst (v := nI 0) (aw_d q_Tx_isOf 42 rfl) (by decide) ?_
        exact aw_zret (aw_d q_Tx_isOf 43 rfl) rfl (rfl) (⟨by simp only [allB] at e; rw [okK1, e]; first | (exfalso; omega) | (rw [if_pos (by first | (simp; done) | (simp; omega))]) | (rw [if_neg (by first | (simp; done) | (simp; omega))]), rfl⟩)
      · refine aw_iconst (v := nI 1) (aw_d q_Tx_isOf 40 rfl) (by decide) ?_
        refine aw_goto (tgt := 82) (aw_d q_Tx_isOf 41 rfl) (by decide) ?_
        exact aw_zret (aw_d q_Tx_isOf 43 rfl) rfl (rfl) (⟨by simp only [allB] at e; rw [okK1, e]; first | (exfalso; omega) | (rw [if_pos (by first | (simp; done) | (simp; omega))]) | (rw [if_neg (by first | (simp; done) | (simp; omega))]), rfl⟩)
  | succ m ih =>
    intro k x3 hk e
    refine aw_iload_n (aw_d q_Tx_isOf 9 rfl) rfl rfl ?_
    refine aw_aload_n (aw_d q_Tx_isOf 10 rfl) rfl rfl rfl ?_
    refine aw_getf (v := .int (nI (n))) (aw_d q_Tx_isOf 11 rfl) fL_Tx_15_Tx rfl (gk hn) ?_
    refine aw_icmpN_ge (tgt := 57) (aw_d q_Tx_isOf 12 rfl) (by decide) (by omega) (by omega) (fun c18 => by exfalso; omega) (fun c18 => ?_)
    refine aw_iload_n (aw_d q_Tx_isOf 13 rfl) rfl rfl ?_
    refine aw_ifN_ne (tgt := 36) (aw_d q_Tx_isOf 14 rfl) (by decide) (by omega) (fun c22 => ?_) (fun c22 => by exfalso; omega)
    refine aw_aload_n (aw_d q_Tx_isOf 20 rfl) rfl rfl rfl ?_
    refine aw_iload_n (aw_d q_Tx_isOf 21 rfl) rfl rfl ?_
    refine cVr (aw_d q_Tx_isOf 22 rfl) (sp_Tx_get_27 hn h3 (by omega)) vL_Tx_37_Tx rfl rfl rfl rfl rfl rfl ⟨aw_le rfl, aw_le rfl⟩ ?_
    refine cSr (aw_d q_Tx_isOf 23 rfl) (sp_RF_isLetterOrDigit) sL_Tx_41 rfl rfl rfl rfl ⟨aw_le rfl, aw_le rfl⟩ ?_
    refine aw_istore_n (aw_d q_Tx_isOf 24 rfl) rfl (aw_le rfl) rfl ?_
    refine aw_iload_n (aw_d q_Tx_isOf 25 rfl) rfl rfl ?_
    refine aw_ifB_ne (tgt := 51) (aw_d q_Tx_isOf 26 rfl) (by decide) (fun c46 => ?_) (fun c46 => ?_)
    · refine aw_iinc (aw_d q_Tx_isOf 29 rfl) rfl (ii1 _) (aw_le rfl) rfl ?_
      refine aw_goto (tgt := 13) (aw_d q_Tx_isOf 30 rfl) (by decide) ?_
      exact ih (k + 1) _ (by omega) (e.trans (by simp only [allB]; rw [c46]; rfl))
    · refine aw_iconst (v := nI 0) (aw_d q_Tx_isOf 27 rfl) (by decide) ?_
      exact aw_zret (aw_d q_Tx_isOf 28 rfl) rfl (rfl) (⟨by simp only [allB] at e; rw [okK1, e, if_neg (by simp [c46])], rfl⟩)
set_option maxRecDepth 20000 in
theorem sp_Tx_isOf_27 {g : aw_G} {S : aw_S} {n kd : Nat} (hn : S.1 2701 = nI n) (h3 : n ≤ 20) (hkd : kd ≤ 4) : Sp g M_Tx_isOf 5 111 0 0 [.ref 27, .int (nI kd)] (HP S) (fun r h => r = some (.int (if okK kd (S.2 28) n then nI 1 else nI 0)) ∧ h = HP S) := by
  refine Sp.of rfl (aw_le rfl) ?_
  by_cases h0 : kd = 0
  · subst h0
    refine aw_iload_n (aw_d q_Tx_isOf 0 rfl) rfl rfl ?_
    refine aw_ifN_eq (tgt := 11) (aw_d q_Tx_isOf 1 rfl) (by decide) (by omega) (fun c1 => ?_) (fun c1 => by exfalso; omega)
    refine aw_iconst (v := nI 0) (aw_d q_Tx_isOf 7 rfl) (by decide) ?_
    refine aw_istore_n (aw_d q_Tx_isOf 8 rfl) rfl (aw_le rfl) rfl ?_
    exact lp_Tx_isOf_27_0 hn h3 n 0 _ (by omega) rfl
  · by_cases h1 : kd = 1
    · subst h1
      refine aw_iload_n (aw_d q_Tx_isOf 0 rfl) rfl rfl ?_
      refine aw_ifN_eq (tgt := 11) (aw_d q_Tx_isOf 1 rfl) (by decide) (by omega) (fun c1 => by exfalso; omega) (fun c1 => ?_)
      refine aw_iload_n (aw_d q_Tx_isOf 2 rfl) rfl rfl ?_
      refine aw_iconst (v := nI 1) (aw_d q_Tx_isOf 3 rfl) (by decide) ?_
      refine aw_icmpN_eq (tgt := 11) (aw_d q_Tx_isOf 4 rfl) (by decide) (by omega) (by omega) (fun c6 => ?_) (fun c6 => by exfalso; omega)
      refine aw_iconst (v := nI 0) (aw_d q_Tx_isOf 7 rfl) (by decide) ?_
      refine aw_istore_n (aw_d q_Tx_isOf 8 rfl) rfl (aw_le rfl) rfl ?_
      exact lp_Tx_isOf_27_1 hn h3 n 0 _ (by omega) rfl
    · have hk : okK kd (S.2 28) n = true := by simp only [okK]; rw [if_neg h0, if_neg h1]
      refine aw_iload_n (aw_d q_Tx_isOf 0 rfl) rfl rfl ?_
      refine aw_ifN_eq (tgt := 11) (aw_d q_Tx_isOf 1 rfl) (by decide) (by omega) (fun c1 => by exfalso; omega) (fun c1 => ?_)
      refine aw_iload_n (aw_d q_Tx_isOf 2 rfl) rfl rfl ?_
      refine aw_iconst (v := nI 1) (aw_d q_Tx_isOf 3 rfl) (by decide) ?_
      refine aw_icmpN_eq (tgt := 11) (aw_d q_Tx_isOf 4 rfl) (by decide) (by omega) (by omega) (fun c6 => by exfalso; omega) (fun c6 => ?_)
      refine aw_iconst (v := nI 1) (aw_d q_Tx_isOf 5 rfl) (by decide) ?_
      exact aw_zret (aw_d q_Tx_isOf 6 rfl) rfl (rfl) (⟨by rw [if_pos hk], rfl⟩)
/-- the terms of the object: how many, how long each -/
def TeI (S : aw_S) (nt : Nat) (tl : Nat → Nat) : Prop := S.1 904 = nI nt ∧ nt ≤ 204 ∧ ∀ t, t < nt → S.2 12 t = nI (tl t) ∧ tl t ≤ 20
set_option maxRecDepth 20000 in
theorem sp_Te_has {g : aw_G} {S : aw_S} {nt : Nat} {tl : Nat → Nat} (hT : TeI S nt tl) {x : Int32} : Sp g M_Te_has 0 0 0 0 [.ref 9, .int x] (HP S) (fun r h => r = some (.int (if 0 ≤ x.toInt ∧ x.toInt < nt then nI 1 else nI 0)) ∧ h = HP S) := by
  refine Sp.of rfl (aw_le rfl) ?_
  refine aw_iload_n (aw_d q_Te_has 0 rfl) rfl rfl ?_
  refine aw_ifI_lt (tgt := 16) (aw_d q_Te_has 1 rfl) (by decide) (fun c1 => ?_) (fun c1 => ?_)
  · refine aw_iconst (v := nI 0) (aw_d q_Te_has 8 rfl) (by decide) ?_
    exact aw_zret (aw_d q_Te_has 9 rfl) rfl (rfl) (⟨by first | rfl | (rw [if_pos (by omega)]) | (rw [if_neg (by omega)]), rfl⟩)
  · refine aw_iload_n (aw_d q_Te_has 2 rfl) rfl rfl ?_
    refine aw_aload_n (aw_d q_Te_has 3 rfl) rfl rfl rfl ?_
    refine aw_getf (v := .int (nI (nt))) (aw_d q_Te_has 4 rfl) fL_Te_24_Te rfl (gk hT.1) ?_
    refine aw_icmpI_ge (tgt := 16) (aw_d q_Te_has 5 rfl) (by decide) (by (have hT2 := hT.2.1; omega)) (fun c9 => ?_) (fun c9 => ?_)
    · refine aw_iconst (v := nI 0) (aw_d q_Te_has 8 rfl) (by decide) ?_
      exact aw_zret (aw_d q_Te_has 9 rfl) rfl (rfl) (⟨by first | rfl | (rw [if_pos (by omega)]) | (rw [if_neg (by omega)]), rfl⟩)
    · refine aw_iconst (v := nI 1) (aw_d q_Te_has 6 rfl) (by decide) ?_
      refine aw_goto (tgt := 17) (aw_d q_Te_has 7 rfl) (by decide) ?_
      exact aw_zret (aw_d q_Te_has 9 rfl) rfl (rfl) (⟨by first | rfl | (rw [if_pos (by omega)]) | (rw [if_neg (by omega)]), rfl⟩)
set_option maxRecDepth 20000 in
theorem sp_Te_kindOf {g : aw_G} {S : aw_S} {nt : Nat} {tl : Nat → Nat} (hT : TeI S nt tl) {t : Nat} (ht : t < nt) : Sp g M_Te_kindOf 0 0 0 0 [.ref 9, .int (nI t)] (HP S) (fun r h => r = some (.int (S.2 10 t)) ∧ h = HP S) := by
  refine Sp.of rfl (aw_le rfl) ?_
  refine aw_iload_n (aw_d q_Te_kindOf 0 rfl) rfl rfl ?_
  refine aw_ifN_lt (tgt := 28) (aw_d q_Te_kindOf 1 rfl) (by decide) (by (have hT2 := hT.2.1; omega)) (fun c1 => by exfalso; (have hT2 := hT.2.1; omega)) (fun c1 => ?_)
  refine aw_iload_n (aw_d q_Te_kindOf 2 rfl) rfl rfl ?_
  refine aw_aload_n (aw_d q_Te_kindOf 3 rfl) rfl rfl rfl ?_
  refine aw_getf (v := .int (nI (nt))) (aw_d q_Te_kindOf 4 rfl) fL_Te_24_Te rfl (gk hT.1) ?_
  refine aw_icmpN_ge (tgt := 28) (aw_d q_Te_kindOf 5 rfl) (by decide) (by (have hT2 := hT.2.1; omega)) (by (have hT2 := hT.2.1; omega)) (fun c9 => by exfalso; (have hT2 := hT.2.1; omega)) (fun c9 => ?_)
  refine aw_iload_n (aw_d q_Te_kindOf 6 rfl) rfl rfl ?_
  refine aw_sipush (v := nI 204) (aw_d q_Te_kindOf 7 rfl) (by decide) ?_
  refine aw_icmpN_ge (tgt := 28) (aw_d q_Te_kindOf 8 rfl) (by decide) (by (have hT2 := hT.2.1; omega)) (by (have hT2 := hT.2.1; omega)) (fun c16 => by exfalso; (have hT2 := hT.2.1; omega)) (fun c16 => ?_)
  refine aw_aload_n (aw_d q_Te_kindOf 9 rfl) rfl rfl rfl ?_
  refine aw_getf (aw_d q_Te_kindOf 10 rfl) fL_Te_11_Te rfl rfl ?_
  refine aw_iload_n (aw_d q_Te_kindOf 11 rfl) rfl rfl ?_
  refine aw_ialdN (aw_d q_Te_kindOf 12 rfl) rfl (by (have hT2 := hT.2.1; omega)) rfl ?_
  refine aw_goto (tgt := 29) (aw_d q_Te_kindOf 13 rfl) (by decide) ?_
  exact aw_iret (aw_d q_Te_kindOf 15 rfl) rfl (⟨rfl, rfl⟩)
set_option maxRecDepth 20000 in
theorem sp_Te_extraOf {g : aw_G} {S : aw_S} {nt : Nat} {tl : Nat → Nat} (hT : TeI S nt tl) {t : Nat} (ht : t < nt) : Sp g M_Te_extraOf 0 0 0 0 [.ref 9, .int (nI t)] (HP S) (fun r h => r = some (.int (S.2 11 t)) ∧ h = HP S) := by
  refine Sp.of rfl (aw_le rfl) ?_
  refine aw_iload_n (aw_d q_Te_extraOf 0 rfl) rfl rfl ?_
  refine aw_ifN_lt (tgt := 28) (aw_d q_Te_extraOf 1 rfl) (by decide) (by (have hT2 := hT.2.1; omega)) (fun c1 => by exfalso; (have hT2 := hT.2.1; omega)) (fun c1 => ?_)
  refine aw_iload_n (aw_d q_Te_extraOf 2 rfl) rfl rfl ?_
  refine aw_aload_n (aw_d q_Te_extraOf 3 rfl) rfl rfl rfl ?_
  refine aw_getf (v := .int (nI (nt))) (aw_d q_Te_extraOf 4 rfl) fL_Te_24_Te rfl (gk hT.1) ?_
  refine aw_icmpN_ge (tgt := 28) (aw_d q_Te_extraOf 5 rfl) (by decide) (by (have hT2 := hT.2.1; omega)) (by (have hT2 := hT.2.1; omega)) (fun c9 => by exfalso; (have hT2 := hT.2.1; omega)) (fun c9 => ?_)
  refine aw_iload_n (aw_d q_Te_extraOf 6 rfl) rfl rfl ?_
  refine aw_sipush (v := nI 204) (aw_d q_Te_extraOf 7 rfl) (by decide) ?_
  refine aw_icmpN_ge (tgt := 28) (aw_d q_Te_extraOf 8 rfl) (by decide) (by (have hT2 := hT.2.1; omega)) (by (have hT2 := hT.2.1; omega)) (fun c16 => by exfalso; (have hT2 := hT.2.1; omega)) (fun c16 => ?_)
  refine aw_aload_n (aw_d q_Te_extraOf 9 rfl) rfl rfl rfl ?_
  refine aw_getf (aw_d q_Te_extraOf 10 rfl) fL_Te_15_Te rfl rfl ?_
  refine aw_iload_n (aw_d q_Te_extraOf 11 rfl) rfl rfl ?_
  refine aw_ialdN (aw_d q_Te_extraOf 12 rfl) rfl (by (have hT2 := hT.2.1; omega)) rfl ?_
  refine aw_goto (tgt := 29) (aw_d q_Te_extraOf 13 rfl) (by decide) ?_
  exact aw_iret (aw_d q_Te_extraOf 15 rfl) rfl (⟨rfl, rfl⟩)
set_option maxRecDepth 20000 in
theorem sp_Te_lengthOf {g : aw_G} {S : aw_S} {nt : Nat} {tl : Nat → Nat} (hT : TeI S nt tl) {t : Nat} (ht : t < nt) : Sp g M_Te_lengthOf 0 0 0 0 [.ref 9, .int (nI t)] (HP S) (fun r h => r = some (.int (nI (tl t))) ∧ h = HP S) := by
  refine Sp.of rfl (aw_le rfl) ?_
  refine aw_iload_n (aw_d q_Te_lengthOf 0 rfl) rfl rfl ?_
  refine aw_ifN_lt (tgt := 28) (aw_d q_Te_lengthOf 1 rfl) (by decide) (by (have hT2 := hT.2.1; omega)) (fun c1 => by exfalso; (have hT2 := hT.2.1; omega)) (fun c1 => ?_)
  refine aw_iload_n (aw_d q_Te_lengthOf 2 rfl) rfl rfl ?_
  refine aw_aload_n (aw_d q_Te_lengthOf 3 rfl) rfl rfl rfl ?_
  refine aw_getf (v := .int (nI (nt))) (aw_d q_Te_lengthOf 4 rfl) fL_Te_24_Te rfl (gk hT.1) ?_
  refine aw_icmpN_ge (tgt := 28) (aw_d q_Te_lengthOf 5 rfl) (by decide) (by (have hT2 := hT.2.1; omega)) (by (have hT2 := hT.2.1; omega)) (fun c9 => by exfalso; (have hT2 := hT.2.1; omega)) (fun c9 => ?_)
  refine aw_iload_n (aw_d q_Te_lengthOf 6 rfl) rfl rfl ?_
  refine aw_sipush (v := nI 204) (aw_d q_Te_lengthOf 7 rfl) (by decide) ?_
  refine aw_icmpN_ge (tgt := 28) (aw_d q_Te_lengthOf 8 rfl) (by decide) (by (have hT2 := hT.2.1; omega)) (by (have hT2 := hT.2.1; omega)) (fun c16 => by exfalso; (have hT2 := hT.2.1; omega)) (fun c16 => ?_)
  refine aw_aload_n (aw_d q_Te_lengthOf 9 rfl) rfl rfl rfl ?_
  refine aw_getf (aw_d q_Te_lengthOf 10 rfl) fL_Te_18_Te rfl rfl ?_
  refine aw_iload_n (aw_d q_Te_lengthOf 11 rfl) rfl rfl ?_
  refine aw_ialdK (w := nI (tl t)) (aw_d q_Te_lengthOf 12 rfl) rfl (by (have hT2 := hT.2.1; omega)) rfl ((hT.2.2 t ht).1) ?_
  refine aw_goto (tgt := 29) (aw_d q_Te_lengthOf 13 rfl) (by decide) ?_
  exact aw_iret (aw_d q_Te_lengthOf 15 rfl) rfl (⟨rfl, rfl⟩)
set_option maxRecDepth 20000 in
theorem sp_Te_byteOf {g : aw_G} {S : aw_S} {nt : Nat} {tl : Nat → Nat} (hT : TeI S nt tl) {t : Nat} (ht : t < nt) {k : Nat} (hk : k ≤ 20) : Sp g M_Te_byteOf 0 0 0 0 [.ref 9, .int (nI t), .int (nI k)] (HP S) (fun r h => r = some (.int (if k < tl t then S.2 13 (t * 20 + k) else -1)) ∧ h = HP S) := by
  refine Sp.of rfl (aw_le rfl) ?_
  refine aw_iload_n (aw_d q_Te_byteOf 0 rfl) rfl rfl ?_
  refine aw_ifN_lt (tgt := 19) (aw_d q_Te_byteOf 1 rfl) (by decide) (by (have hT2 := hT.2.1; have hT3 := (hT.2.2 t ht).2; omega)) (fun c1 => by exfalso; (have hT2 := hT.2.1; have hT3 := (hT.2.2 t ht).2; omega)) (fun c1 => ?_)
  refine aw_iload_n (aw_d q_Te_byteOf 2 rfl) rfl rfl ?_
  refine aw_aload_n (aw_d q_Te_byteOf 3 rfl) rfl rfl rfl ?_
  refine aw_getf (v := .int (nI (nt))) (aw_d q_Te_byteOf 4 rfl) fL_Te_24_Te rfl (gk hT.1) ?_
  refine aw_icmpN_ge (tgt := 19) (aw_d q_Te_byteOf 5 rfl) (by decide) (by (have hT2 := hT.2.1; have hT3 := (hT.2.2 t ht).2; omega)) (by (have hT2 := hT.2.1; have hT3 := (hT.2.2 t ht).2; omega)) (fun c9 => by exfalso; (have hT2 := hT.2.1; have hT3 := (hT.2.2 t ht).2; omega)) (fun c9 => ?_)
  refine aw_iload_n (aw_d q_Te_byteOf 6 rfl) rfl rfl ?_
  refine aw_sipush (v := nI 204) (aw_d q_Te_byteOf 7 rfl) (by decide) ?_
  refine aw_icmpN_lt (tgt := 21) (aw_d q_Te_byteOf 8 rfl) (by decide) (by (have hT2 := hT.2.1; have hT3 := (hT.2.2 t ht).2; omega)) (by (have hT2 := hT.2.1; have hT3 := (hT.2.2 t ht).2; omega)) (fun c16 => ?_) (fun c16 => by exfalso; (have hT2 := hT.2.1; have hT3 := (hT.2.2 t ht).2; omega))
  refine aw_iload_n (aw_d q_Te_byteOf 11 rfl) rfl rfl ?_
  refine aw_ifN_lt (tgt := 55) (aw_d q_Te_byteOf 12 rfl) (by decide) (by (have hT2 := hT.2.1; have hT3 := (hT.2.2 t ht).2; omega)) (fun c22 => by exfalso; (have hT2 := hT.2.1; have hT3 := (hT.2.2 t ht).2; omega)) (fun c22 => ?_)
  refine aw_iload_n (aw_d q_Te_byteOf 13 rfl) rfl rfl ?_
  refine aw_aload_n (aw_d q_Te_byteOf 14 rfl) rfl rfl rfl ?_
  refine aw_getf (aw_d q_Te_byteOf 15 rfl) fL_Te_18_Te rfl rfl ?_
  refine aw_iload_n (aw_d q_Te_byteOf 16 rfl) rfl rfl ?_
  refine aw_ialdK (w := nI (tl t)) (aw_d q_Te_byteOf 17 rfl) rfl (by (have hT2 := hT.2.1; have hT3 := (hT.2.2 t ht).2; omega)) rfl ((hT.2.2 t ht).1) ?_
  refine aw_icmpN_ge (tgt := 55) (aw_d q_Te_byteOf 18 rfl) (by decide) (by (have hT2 := hT.2.1; have hT3 := (hT.2.2 t ht).2; omega)) (by (have hT2 := hT.2.1; have hT3 := (hT.2.2 t ht).2; omega)) (fun c32 => ?_) (fun c32 => ?_)
  · refine aw_iconst (v := (-1)) (aw_d q_Te_byteOf 31 rfl) (by decide) ?_
    exact aw_iret (aw_d q_Te_byteOf 32 rfl) rfl (⟨by first | rw [if_pos (by omega)] | rw [if_neg (by omega)], rfl⟩)
  · refine aw_iload_n (aw_d q_Te_byteOf 19 rfl) rfl rfl ?_
    refine aw_bipush (v := nI 20) (aw_d q_Te_byteOf 20 rfl) (by decide) ?_
    refine aw_icmpN_ge (tgt := 55) (aw_d q_Te_byteOf 21 rfl) (by decide) (by (have hT2 := hT.2.1; have hT3 := (hT.2.2 t ht).2; omega)) (by (have hT2 := hT.2.1; have hT3 := (hT.2.2 t ht).2; omega)) (fun c38 => by exfalso; (have hT2 := hT.2.1; have hT3 := (hT.2.2 t ht).2; omega)) (fun c38 => ?_)
    refine aw_aload_n (aw_d q_Te_byteOf 22 rfl) rfl rfl rfl ?_
    refine aw_getf (aw_d q_Te_byteOf 23 rfl) fL_Te_21_Te rfl rfl ?_
    refine aw_iload_n (aw_d q_Te_byteOf 24 rfl) rfl rfl ?_
    refine aw_bipush (v := nI 20) (aw_d q_Te_byteOf 25 rfl) (by decide) ?_
    refine aw_imulN (aw_d q_Te_byteOf 26 rfl) ?_
    refine aw_iload_n (aw_d q_Te_byteOf 27 rfl) rfl rfl ?_
    refine aw_iaddN (aw_d q_Te_byteOf 28 rfl) ?_
    refine aw_ialdN (aw_d q_Te_byteOf 29 rfl) rfl (by (have hT2 := hT.2.1; have hT3 := (hT.2.2 t ht).2; omega)) rfl ?_
    refine aw_goto (tgt := 56) (aw_d q_Te_byteOf 30 rfl) (by decide) ?_
    exact aw_iret (aw_d q_Te_byteOf 32 rfl) rfl (⟨by first | rw [if_pos (by omega)] | rw [if_neg (by omega)], rfl⟩)
set_option maxRecDepth 20000 in
theorem sp_Te_forgetFrom {g : aw_G} {S : aw_S} {nt : Nat} {tl : Nat → Nat} (hT : TeI S nt tl) {k : Nat} (hk : k ≤ nt) : Sp g M_Te_forgetFrom 0 0 0 0 [.ref 9, .int (nI k)] (HP S) (fun r h => r = none ∧ ∃ S2, h = HP S2 ∧ S2.1 904 = nI k ∧ S2.2 = S.2 ∧ ∀ j, j ≠ 904 → S2.1 j = S.1 j) := by
  refine Sp.of rfl (aw_le rfl) ?_
  refine aw_iload_n (aw_d q_Te_forgetFrom 0 rfl) rfl rfl ?_
  refine aw_ifN_lt (tgt := 17) (aw_d q_Te_forgetFrom 1 rfl) (by decide) (by (have hT2 := hT.2.1; omega)) (fun c1 => by exfalso; (have hT2 := hT.2.1; omega)) (fun c1 => ?_)
  refine aw_iload_n (aw_d q_Te_forgetFrom 2 rfl) rfl rfl ?_
  refine aw_aload_n (aw_d q_Te_forgetFrom 3 rfl) rfl rfl rfl ?_
  refine aw_getf (v := .int (nI (nt))) (aw_d q_Te_forgetFrom 4 rfl) fL_Te_24_Te rfl (gk hT.1) ?_
  refine aw_icmpN_ge (tgt := 17) (aw_d q_Te_forgetFrom 5 rfl) (by decide) (by (have hT2 := hT.2.1; omega)) (by (have hT2 := hT.2.1; omega)) (fun c9 => ?_) (fun c9 => ?_)
  · exact aw_vret (aw_d q_Te_forgetFrom 9 rfl) rfl (⟨rfl, _, rfl, by first | rfl | (rw [hT.1]; congr 1; omega), rfl, fun j hj => by first | rfl | (rw [si_1, if_neg hj])⟩)
  · refine aw_aload_n (aw_d q_Te_forgetFrom 6 rfl) rfl rfl rfl ?_
    refine aw_iload_n (aw_d q_Te_forgetFrom 7 rfl) rfl rfl ?_
    refine wi_9_4 (aw_d q_Te_forgetFrom 8 rfl) pL_Te_24_Te ?_
    exact aw_vret (aw_d q_Te_forgetFrom 9 rfl) rfl (⟨rfl, _, rfl, by first | rfl | (rw [hT.1]; congr 1; omega), rfl, fun j hj => by first | rfl | (rw [si_1, if_neg hj])⟩)
set_option maxRecDepth 20000 in
theorem lp_Te_hasText_7 {g : aw_G} {S : aw_S} {nt : Nat} {tl : Nat → Nat} (hT : TeI S nt tl) {t : Nat} (ht : t < nt) {n : Nat} (hn : S.1 701 = nI n) (h3 : n ≤ 20) (hl : tl t = n) : ∀ (m k : Nat), m + k = n → eqB (fun i => S.2 13 (t * 20 + i)) (S.2 8) n 0 = eqB (fun i => S.2 13 (t * 20 + i)) (S.2 8) m k → AW g M_Te_hasText (aw_rm 1 22 0 0) (aw_F g 0 0 (fun r h => r = some (.int (if tl t = n ∧ eqB (fun i => S.2 13 (t * 20 + i)) (S.2 8) n 0 = true then nI 1 else nI 0)) ∧ h = HP S)) 16 [some (.ref 9), some (.int (nI t)), some (.ref 7), some (.int (nI k))] [] (HP S) 0 0 := by
  intro m
  induction m with
  | zero =>
    intro k hk e
    refine aw_iload_n (aw_d q_Te_hasText 10 rfl) rfl rfl ?_
    refine aw_aload_n (aw_d q_Te_hasText 11 rfl) rfl rfl rfl ?_
    refine aw_getf (v := .int (nI (n))) (aw_d q_Te_hasText 12 rfl) fL_Te_42_Tx rfl (gk hn) ?_
    refine aw_icmpN_ge (tgt := 46) (aw_d q_Te_hasText 13 rfl) (by decide) (by (have hT2 := hT.2.1; omega)) (by (have hT2 := hT.2.1; omega)) (fun c21 => ?_) (fun c21 => by exfalso; (have hT2 := hT.2.1; omega))
    refine aw_iconst (v := nI 1) (aw_d q_Te_hasText 26 rfl) (by decide) ?_
    exact aw_zret (aw_d q_Te_hasText 27 rfl) rfl (rfl) (⟨by rw [if_pos ⟨hl, e⟩], rfl⟩)
  | succ m ih =>
    intro k hk e
    refine aw_iload_n (aw_d q_Te_hasText 10 rfl) rfl rfl ?_
    refine aw_aload_n (aw_d q_Te_hasText 11 rfl) rfl rfl rfl ?_
    refine aw_getf (v := .int (nI (n))) (aw_d q_Te_hasText 12 rfl) fL_Te_42_Tx rfl (gk hn) ?_
    refine aw_icmpN_ge (tgt := 46) (aw_d q_Te_hasText 13 rfl) (by decide) (by (have hT2 := hT.2.1; omega)) (by (have hT2 := hT.2.1; omega)) (fun c21 => by exfalso; (have hT2 := hT.2.1; omega)) (fun c21 => ?_)
    refine aw_aload_n (aw_d q_Te_hasText 14 rfl) rfl rfl rfl ?_
    refine aw_iload_n (aw_d q_Te_hasText 15 rfl) rfl rfl ?_
    refine aw_iload_n (aw_d q_Te_hasText 16 rfl) rfl rfl ?_
    refine cVr (aw_d q_Te_hasText 17 rfl) (sp_Te_byteOf hT ht (by omega)) vL_Te_47_Te rfl rfl rfl rfl rfl rfl ⟨aw_le rfl, aw_le rfl⟩ ?_
    refine aw_aload_n (aw_d q_Te_hasText 18 rfl) rfl rfl rfl ?_
    refine aw_iload_n (aw_d q_Te_hasText 19 rfl) rfl rfl ?_
    refine cVr (aw_d q_Te_hasText 20 rfl) (sp_Tx_get_7 hn h3 (by omega)) vL_Te_51_Tx rfl rfl rfl rfl rfl rfl ⟨aw_le rfl, aw_le rfl⟩ ?_
    refine aw_icmpZ_eq (tgt := 40) (aw_d q_Te_hasText 21 rfl) (by decide) (fun c35 => ?_) (fun c35 => ?_)
    · rw [if_pos (by omega)] at c35
      have c35 := Int32.toInt_inj.mp c35
      refine aw_iinc (aw_d q_Te_hasText 24 rfl) rfl (ii1 _) (aw_le rfl) rfl ?_
      refine aw_goto (tgt := 16) (aw_d q_Te_hasText 25 rfl) (by decide) ?_
      exact ih (k + 1) (by omega) (e.trans (by simp only [eqB]; rw [decide_eq_true c35]; rfl))
    · rw [if_pos (by omega)] at c35
      have c35 : ¬ _ := fun q => c35 (Int32.toInt_inj.mpr q)
      refine aw_iconst (v := nI 0) (aw_d q_Te_hasText 22 rfl) (by decide) ?_
      exact aw_zret (aw_d q_Te_hasText 23 rfl) rfl (rfl) (⟨by rw [if_neg (fun q => ?_)]; rw [e] at q; simp only [eqB] at q; simp [c35] at q, rfl⟩)
set_option maxRecDepth 20000 in
theorem sp_Te_hasText_7 {g : aw_G} {S : aw_S} {nt : Nat} {tl : Nat → Nat} (hT : TeI S nt tl) {t : Nat} (ht : t < nt) {n : Nat} (hn : S.1 701 = nI n) (h3 : n ≤ 20) : Sp g M_Te_hasText 1 22 0 0 [.ref 9, .int (nI t), .ref 7] (HP S) (fun r h => r = some (.int (if tl t = n ∧ eqB (fun i => S.2 13 (t * 20 + i)) (S.2 8) n 0 = true then nI 1 else nI 0)) ∧ h = HP S) := by
  refine Sp.of rfl (aw_le rfl) ?_
  refine aw_aload_n (aw_d q_Te_hasText 0 rfl) rfl rfl rfl ?_
  refine aw_iload_n (aw_d q_Te_hasText 1 rfl) rfl rfl ?_
  refine cVr (aw_d q_Te_hasText 2 rfl) (sp_Te_lengthOf hT ht) vL_Te_39_Te rfl rfl rfl rfl rfl rfl ⟨aw_le rfl, aw_le rfl⟩ ?_
  refine aw_aload_n (aw_d q_Te_hasText 3 rfl) rfl rfl rfl ?_
  refine aw_getf (v := .int (nI (n))) (aw_d q_Te_hasText 4 rfl) fL_Te_42_Tx rfl (gk hn) ?_
  refine aw_icmpN_eq (tgt := 14) (aw_d q_Te_hasText 5 rfl) (by decide) (by (have hT2 := hT.2.1; have hT3 := (hT.2.2 t ht).2; omega)) (by (have hT2 := hT.2.1; have hT3 := (hT.2.2 t ht).2; omega)) (fun c9 => ?_) (fun c9 => ?_)
  · refine aw_iconst (v := nI 0) (aw_d q_Te_hasText 8 rfl) (by decide) ?_
    refine aw_istore_n (aw_d q_Te_hasText 9 rfl) rfl (aw_le rfl) rfl ?_
    exact lp_Te_hasText_7 hT ht hn h3 c9 n 0 (by omega) rfl
  · refine aw_iconst (v := nI 0) (aw_d q_Te_hasText 6 rfl) (by decide) ?_
    exact aw_zret (aw_d q_Te_hasText 7 rfl) rfl (rfl) (⟨by rw [if_neg (fun q => c9 q.1)], rfl⟩)
set_option maxRecDepth 20000 in
theorem lp_Te_find_7 {g : aw_G} {S : aw_S} {nt : Nat} {tl : Nat → Nat} (hT : TeI S nt tl) {n : Nat} {kk ee : Int32} (hn : S.1 701 = nI n) (h3 : n ≤ 20) : ∀ (m t : Nat), m + t = nt → fdB (tmB (S.2 10) (S.2 11) (S.2 12) (S.2 13) kk ee n (S.2 8)) nt 0 = fdB (tmB (S.2 10) (S.2 11) (S.2 12) (S.2 13) kk ee n (S.2 8)) m t → AW g M_Te_find (aw_rm 2 45 0 0) (aw_F g 0 0 (fun r h => r = some (.int (oI (fdB (tmB (S.2 10) (S.2 11) (S.2 12) (S.2 13) kk ee n (S.2 8)) nt 0))) ∧ h = HP S)) 3 [some (.ref 9), some (.int kk), some (.int ee), some (.ref 7), some (.int (nI t))] [] (HP S) 0 0 := by
  intro m
  induction m with
  | zero =>
    intro t hk e
    refine aw_iload (aw_d q_Te_find 2 rfl) rfl ?_
    refine aw_aload_n (aw_d q_Te_find 3 rfl) rfl rfl rfl ?_
    refine aw_getf (v := .int (nI (nt))) (aw_d q_Te_find 4 rfl) fL_Te_24_Te rfl (gk hT.1) ?_
    refine aw_icmpN_ge (tgt := 51) (aw_d q_Te_find 5 rfl) (by decide) (by (have hT2 := hT.2.1; omega)) (by (have hT2 := hT.2.1; omega)) (fun c9 => ?_) (fun c9 => by exfalso; (have hT2 := hT.2.1; omega))
    refine aw_iconst (v := (-1)) (aw_d q_Te_find 25 rfl) (by decide) ?_
    exact aw_iret (aw_d q_Te_find 26 rfl) rfl (⟨by rw [e]; rfl, rfl⟩)
  | succ m ih =>
    intro t hk e
    refine aw_iload (aw_d q_Te_find 2 rfl) rfl ?_
    refine aw_aload_n (aw_d q_Te_find 3 rfl) rfl rfl rfl ?_
    refine aw_getf (v := .int (nI (nt))) (aw_d q_Te_find 4 rfl) fL_Te_24_Te rfl (gk hT.1) ?_
    refine aw_icmpN_ge (tgt := 51) (aw_d q_Te_find 5 rfl) (by decide) (by (have hT2 := hT.2.1; omega)) (by (have hT2 := hT.2.1; omega)) (fun c9 => by exfalso; (have hT2 := hT.2.1; omega)) (fun c9 => ?_)
    have ht : t < nt := by omega
    have hq := (hT.2.2 t ht).1
    have hq2 := (hT.2.2 t ht).2
    refine aw_aload_n (aw_d q_Te_find 6 rfl) rfl rfl rfl ?_
    refine aw_iload (aw_d q_Te_find 7 rfl) rfl ?_
    refine cVr (aw_d q_Te_find 8 rfl) (sp_Te_kindOf hT (by omega)) vL_Te_28_Te rfl rfl rfl rfl rfl rfl ⟨aw_le rfl, aw_le rfl⟩ ?_
    refine aw_iload_n (aw_d q_Te_find 9 rfl) rfl rfl ?_
    refine aw_icmpZ_ne (tgt := 45) (aw_d q_Te_find 10 rfl) (by decide) (fun c19 => ?_) (fun c19 => ?_)
    · refine aw_iinc (aw_d q_Te_find 23 rfl) rfl (ii1 _) (aw_le rfl) rfl ?_
      refine aw_goto (tgt := 3) (aw_d q_Te_find 24 rfl) (by decide) ?_
      refine ih (t + 1) (by omega) (e.trans ?_)
      simp only [fdB]
      rw [if_neg (fun q => ?_)]
      simp only [tmB, Bool.and_eq_true, decide_eq_true_eq] at q
      exact c19 (Int32.toInt_inj.mpr q.1)
    · have c19 := Int32.toInt_inj.mp c19
      refine aw_aload_n (aw_d q_Te_find 11 rfl) rfl rfl rfl ?_
      refine aw_iload (aw_d q_Te_find 12 rfl) rfl ?_
      refine cVr (aw_d q_Te_find 13 rfl) (sp_Te_extraOf hT (by omega)) vL_Te_32_Te rfl rfl rfl rfl rfl rfl ⟨aw_le rfl, aw_le rfl⟩ ?_
      refine aw_iload_n (aw_d q_Te_find 14 rfl) rfl rfl ?_
      refine aw_icmpZ_ne (tgt := 45) (aw_d q_Te_find 15 rfl) (by decide) (fun c29 => ?_) (fun c29 => ?_)
      · refine aw_iinc (aw_d q_Te_find 23 rfl) rfl (ii1 _) (aw_le rfl) rfl ?_
        refine aw_goto (tgt := 3) (aw_d q_Te_find 24 rfl) (by decide) ?_
        refine ih (t + 1) (by omega) (e.trans ?_)
        simp only [fdB]
        rw [if_neg (fun q => ?_)]
        simp only [tmB, Bool.and_eq_true, decide_eq_true_eq] at q
        exact c29 (Int32.toInt_inj.mpr q.2.1)
      · have c29 := Int32.toInt_inj.mp c29
        refine aw_aload_n (aw_d q_Te_find 16 rfl) rfl rfl rfl ?_
        refine aw_iload (aw_d q_Te_find 17 rfl) rfl ?_
        refine aw_aload_n (aw_d q_Te_find 18 rfl) rfl rfl rfl ?_
        refine cVr (aw_d q_Te_find 19 rfl) (sp_Te_hasText_7 hT (by omega) hn h3) vL_Te_35_Te rfl rfl rfl rfl rfl rfl ⟨aw_le rfl, aw_le rfl⟩ ?_
        refine aw_ifB_eq (tgt := 45) (aw_d q_Te_find 20 rfl) (by decide) (fun c39 => ?_) (fun c39 => ?_)
        · refine aw_iinc (aw_d q_Te_find 23 rfl) rfl (ii1 _) (aw_le rfl) rfl ?_
          refine aw_goto (tgt := 3) (aw_d q_Te_find 24 rfl) (by decide) ?_
          refine ih (t + 1) (by omega) (e.trans ?_)
          simp only [fdB]
          rw [if_neg (fun q => ?_)]
          simp only [tmB, Bool.and_eq_true, decide_eq_true_eq] at q
          exact c39 ⟨(nI_eq (by omega) (by omega)).mp (hq.symm.trans q.2.2.1), q.2.2.2⟩
        · refine aw_iload (aw_d q_Te_find 21 rfl) rfl ?_
          exact aw_iret (aw_d q_Te_find 22 rfl) rfl (⟨by rw [e]; simp only [fdB]; rw [if_pos (by simp only [tmB, Bool.and_eq_true, decide_eq_true_eq]; exact ⟨c19, c29, by rw [hq, c39.1], c39.2⟩)]; rfl, rfl⟩)
set_option maxRecDepth 20000 in
theorem sp_Te_find_7 {g : aw_G} {S : aw_S} {nt : Nat} {tl : Nat → Nat} (hT : TeI S nt tl) {n : Nat} {kk ee : Int32} (hn : S.1 701 = nI n) (h3 : n ≤ 20) : Sp g M_Te_find 2 45 0 0 [.ref 9, .int kk, .int ee, .ref 7] (HP S) (fun r h => r = some (.int (oI (fdB (tmB (S.2 10) (S.2 11) (S.2 12) (S.2 13) kk ee n (S.2 8)) nt 0))) ∧ h = HP S) := by
  refine Sp.of rfl (aw_le rfl) ?_
  refine aw_iconst (v := nI 0) (aw_d q_Te_find 0 rfl) (by decide) ?_
  refine aw_istore (aw_d q_Te_find 1 rfl) (aw_le rfl) rfl ?_
  exact lp_Te_find_7 hT hn h3 nt 0 (by omega) rfl
set_option maxRecDepth 20000 in
theorem lp_Te_hasText_27 {g : aw_G} {S : aw_S} {nt : Nat} {tl : Nat → Nat} (hT : TeI S nt tl) {t : Nat} (ht : t < nt) {n : Nat} (hn : S.1 2701 = nI n) (h3 : n ≤ 20) (hl : tl t = n) : ∀ (m k : Nat), m + k = n → eqB (fun i => S.2 13 (t * 20 + i)) (S.2 28) n 0 = eqB (fun i => S.2 13 (t * 20 + i)) (S.2 28) m k → AW g M_Te_hasText (aw_rm 1 22 0 0) (aw_F g 0 0 (fun r h => r = some (.int (if tl t = n ∧ eqB (fun i => S.2 13 (t * 20 + i)) (S.2 28) n 0 = true then nI 1 else nI 0)) ∧ h = HP S)) 16 [some (.ref 9), some (.int (nI t)), some (.ref 27), some (.int (nI k))] [] (HP S) 0 0 := by
  intro m
  induction m with
  | zero =>
    intro k hk e
    refine aw_iload_n (aw_d q_Te_hasText 10 rfl) rfl rfl ?_
    refine aw_aload_n (aw_d q_Te_hasText 11 rfl) rfl rfl rfl ?_
    refine aw_getf (v := .int (nI (n))) (aw_d q_Te_hasText 12 rfl) fL_Te_42_Tx rfl (gk hn) ?_
    refine aw_icmpN_ge (tgt := 46) (aw_d q_Te_hasText 13 rfl) (by decide) (by (have hT2 := hT.2.1; omega)) (by (have hT2 := hT.2.1; omega)) (fun c21 => ?_) (fun c21 => by exfalso; (have hT2 := hT.2.1; omega))
    refine aw_iconst (v := nI 1) (aw_d q_Te_hasText 26 rfl) (by decide) ?_
    exact aw_zret (aw_d q_Te_hasText 27 rfl) rfl (rfl) (⟨by rw [if_pos ⟨hl, e⟩], rfl⟩)
  | succ m ih =>
    intro k hk e
    refine aw_iload_n (aw_d q_Te_hasText 10 rfl) rfl rfl ?_
    refine aw_aload_n (aw_d q_Te_hasText 11 rfl) rfl rfl rfl ?_
    refine aw_getf (v := .int (nI (n))) (aw_d q_Te_hasText 12 rfl) fL_Te_42_Tx rfl (gk hn) ?_
    refine aw_icmpN_ge (tgt := 46) (aw_d q_Te_hasText 13 rfl) (by decide) (by (have hT2 := hT.2.1; omega)) (by (have hT2 := hT.2.1; omega)) (fun c21 => by exfalso; (have hT2 := hT.2.1; omega)) (fun c21 => ?_)
    refine aw_aload_n (aw_d q_Te_hasText 14 rfl) rfl rfl rfl ?_
    refine aw_iload_n (aw_d q_Te_hasText 15 rfl) rfl rfl ?_
    refine aw_iload_n (aw_d q_Te_hasText 16 rfl) rfl rfl ?_
    refine cVr (aw_d q_Te_hasText 17 rfl) (sp_Te_byteOf hT ht (by omega)) vL_Te_47_Te rfl rfl rfl rfl rfl rfl ⟨aw_le rfl, aw_le rfl⟩ ?_
    refine aw_aload_n (aw_d q_Te_hasText 18 rfl) rfl rfl rfl ?_
    refine aw_iload_n (aw_d q_Te_hasText 19 rfl) rfl rfl ?_
    refine cVr (aw_d q_Te_hasText 20 rfl) (sp_Tx_get_27 hn h3 (by omega)) vL_Te_51_Tx rfl rfl rfl rfl rfl rfl ⟨aw_le rfl, aw_le rfl⟩ ?_
    refine aw_icmpZ_eq (tgt := 40) (aw_d q_Te_hasText 21 rfl) (by decide) (fun c35 => ?_) (fun c35 => ?_)
    · rw [if_pos (by omega)] at c35
      have c35 := Int32.toInt_inj.mp c35
      refine aw_iinc (aw_d q_Te_hasText 24 rfl) rfl (ii1 _) (aw_le rfl) rfl ?_
      refine aw_goto (tgt := 16) (aw_d q_Te_hasText 25 rfl) (by decide) ?_
      exact ih (k + 1) (by omega) (e.trans (by simp only [eqB]; rw [decide_eq_true c35]; rfl))
    · rw [if_pos (by omega)] at c35
      have c35 : ¬ _ := fun q => c35 (Int32.toInt_inj.mpr q)
      refine aw_iconst (v := nI 0) (aw_d q_Te_hasText 22 rfl) (by decide) ?_
      exact aw_zret (aw_d q_Te_hasText 23 rfl) rfl (rfl) (⟨by rw [if_neg (fun q => ?_)]; rw [e] at q; simp only [eqB] at q; simp [c35] at q, rfl⟩)
set_option maxRecDepth 20000 in
theorem sp_Te_hasText_27 {g : aw_G} {S : aw_S} {nt : Nat} {tl : Nat → Nat} (hT : TeI S nt tl) {t : Nat} (ht : t < nt) {n : Nat} (hn : S.1 2701 = nI n) (h3 : n ≤ 20) : Sp g M_Te_hasText 1 22 0 0 [.ref 9, .int (nI t), .ref 27] (HP S) (fun r h => r = some (.int (if tl t = n ∧ eqB (fun i => S.2 13 (t * 20 + i)) (S.2 28) n 0 = true then nI 1 else nI 0)) ∧ h = HP S) := by
  refine Sp.of rfl (aw_le rfl) ?_
  refine aw_aload_n (aw_d q_Te_hasText 0 rfl) rfl rfl rfl ?_
  refine aw_iload_n (aw_d q_Te_hasText 1 rfl) rfl rfl ?_
  refine cVr (aw_d q_Te_hasText 2 rfl) (sp_Te_lengthOf hT ht) vL_Te_39_Te rfl rfl rfl rfl rfl rfl ⟨aw_le rfl, aw_le rfl⟩ ?_
  refine aw_aload_n (aw_d q_Te_hasText 3 rfl) rfl rfl rfl ?_
  refine aw_getf (v := .int (nI (n))) (aw_d q_Te_hasText 4 rfl) fL_Te_42_Tx rfl (gk hn) ?_
  refine aw_icmpN_eq (tgt := 14) (aw_d q_Te_hasText 5 rfl) (by decide) (by (have hT2 := hT.2.1; have hT3 := (hT.2.2 t ht).2; omega)) (by (have hT2 := hT.2.1; have hT3 := (hT.2.2 t ht).2; omega)) (fun c9 => ?_) (fun c9 => ?_)
  · refine aw_iconst (v := nI 0) (aw_d q_Te_hasText 8 rfl) (by decide) ?_
    refine aw_istore_n (aw_d q_Te_hasText 9 rfl) rfl (aw_le rfl) rfl ?_
    exact lp_Te_hasText_27 hT ht hn h3 c9 n 0 (by omega) rfl
  · refine aw_iconst (v := nI 0) (aw_d q_Te_hasText 6 rfl) (by decide) ?_
    exact aw_zret (aw_d q_Te_hasText 7 rfl) rfl (rfl) (⟨by rw [if_neg (fun q => c9 q.1)], rfl⟩)
set_option maxRecDepth 20000 in
theorem lp_Te_find_27 {g : aw_G} {S : aw_S} {nt : Nat} {tl : Nat → Nat} (hT : TeI S nt tl) {n : Nat} {kk ee : Int32} (hn : S.1 2701 = nI n) (h3 : n ≤ 20) : ∀ (m t : Nat), m + t = nt → fdB (tmB (S.2 10) (S.2 11) (S.2 12) (S.2 13) kk ee n (S.2 28)) nt 0 = fdB (tmB (S.2 10) (S.2 11) (S.2 12) (S.2 13) kk ee n (S.2 28)) m t → AW g M_Te_find (aw_rm 2 45 0 0) (aw_F g 0 0 (fun r h => r = some (.int (oI (fdB (tmB (S.2 10) (S.2 11) (S.2 12) (S.2 13) kk ee n (S.2 28)) nt 0))) ∧ h = HP S)) 3 [some (.ref 9), some (.int kk), some (.int ee), some (.ref 27), some (.int (nI t))] [] (HP S) 0 0 := by
  intro m
  induction m with
  | zero =>
    intro t hk e
    refine aw_iload (aw_d q_Te_find 2 rfl) rfl ?_
    refine aw_aload_n (aw_d q_Te_find 3 rfl) rfl rfl rfl ?_
    refine aw_getf (v := .int (nI (nt))) (aw_d q_Te_find 4 rfl) fL_Te_24_Te rfl (gk hT.1) ?_
    refine aw_icmpN_ge (tgt := 51) (aw_d q_Te_find 5 rfl) (by decide) (by (have hT2 := hT.2.1; omega)) (by (have hT2 := hT.2.1; omega)) (fun c9 => ?_) (fun c9 => by exfalso; (have hT2 := hT.2.1; omega))
    refine aw_iconst (v := (-1)) (aw_d q_Te_find 25 rfl) (by decide) ?_
    exact aw_iret (aw_d q_Te_find 26 rfl) rfl (⟨by rw [e]; rfl, rfl⟩)
  | succ m ih =>
    intro t hk e
    refine aw_iload (aw_d q_Te_find 2 rfl) rfl ?_
    refine aw_aload_n (aw_d q_Te_find 3 rfl) rfl rfl rfl ?_
    refine aw_getf (v := .int (nI (nt))) (aw_d q_Te_find 4 rfl) fL_Te_24_Te rfl (gk hT.1) ?_
    refine aw_icmpN_ge (tgt := 51) (aw_d q_Te_find 5 rfl) (by decide) (by (have hT2 := hT.2.1; omega)) (by (have hT2 := hT.2.1; omega)) (fun c9 => by exfalso; (have hT2 := hT.2.1; omega)) (fun c9 => ?_)
    have ht : t < nt := by omega
    have hq := (hT.2.2 t ht).1
    have hq2 := (hT.2.2 t ht).2
    refine aw_aload_n (aw_d q_Te_find 6 rfl) rfl rfl rfl ?_
    refine aw_iload (aw_d q_Te_find 7 rfl) rfl ?_
    refine cVr (aw_d q_Te_find 8 rfl) (sp_Te_kindOf hT (by omega)) vL_Te_28_Te rfl rfl rfl rfl rfl rfl ⟨aw_le rfl, aw_le rfl⟩ ?_
    refine aw_iload_n (aw_d q_Te_find 9 rfl) rfl rfl ?_
    refine aw_icmpZ_ne (tgt := 45) (aw_d q_Te_find 10 rfl) (by decide) (fun c19 => ?_) (fun c19 => ?_)
    · refine aw_iinc (aw_d q_Te_find 23 rfl) rfl (ii1 _) (aw_le rfl) rfl ?_
      refine aw_goto (tgt := 3) (aw_d q_Te_find 24 rfl) (by decide) ?_
      refine ih (t + 1) (by omega) (e.trans ?_)
      simp only [fdB]
      rw [if_neg (fun q => ?_)]
      simp only [tmB, Bool.and_eq_true, decide_eq_true_eq] at q
      exact c19 (Int32.toInt_inj.mpr q.1)
    · have c19 := Int32.toInt_inj.mp c19
      refine aw_aload_n (aw_d q_Te_find 11 rfl) rfl rfl rfl ?_
      refine aw_iload (aw_d q_Te_find 12 rfl) rfl ?_
      refine cVr (aw_d q_Te_find 13 rfl) (sp_Te_extraOf hT (by omega)) vL_Te_32_Te rfl rfl rfl rfl rfl rfl ⟨aw_le rfl, aw_le rfl⟩ ?_
      refine aw_iload_n (aw_d q_Te_find 14 rfl) rfl rfl ?_
      refine aw_icmpZ_ne (tgt := 45) (aw_d q_Te_find 15 rfl) (by decide) (fun c29 => ?_) (fun c29 => ?_)
      · refine aw_iinc (aw_d q_Te_find 23 rfl) rfl (ii1 _) (aw_le rfl) rfl ?_
        refine aw_goto (tgt := 3) (aw_d q_Te_find 24 rfl) (by decide) ?_
        refine ih (t + 1) (by omega) (e.trans ?_)
        simp only [fdB]
        rw [if_neg (fun q => ?_)]
        simp only [tmB, Bool.and_eq_true, decide_eq_true_eq] at q
        exact c29 (Int32.toInt_inj.mpr q.2.1)
      · have c29 := Int32.toInt_inj.mp c29
        refine aw_aload_n (aw_d q_Te_find 16 rfl) rfl rfl rfl ?_
        refine aw_iload (aw_d q_Te_find 17 rfl) rfl ?_
        refine aw_aload_n (aw_d q_Te_find 18 rfl) rfl rfl rfl ?_
        refine cVr (aw_d q_Te_find 19 rfl) (sp_Te_hasText_27 hT (by omega) hn h3) vL_Te_35_Te rfl rfl rfl rfl rfl rfl ⟨aw_le rfl, aw_le rfl⟩ ?_
        refine aw_ifB_eq (tgt := 45) (aw_d q_Te_find 20 rfl) (by decide) (fun c39 => ?_) (fun c39 => ?_)
        · refine aw_iinc (aw_d q_Te_find 23 rfl) rfl (ii1 _) (aw_le rfl) rfl ?_
          refine aw_goto (tgt := 3) (aw_d q_Te_find 24 rfl) (by decide) ?_
          refine ih (t + 1) (by omega) (e.trans ?_)
          simp only [fdB]
          rw [if_neg (fun q => ?_)]
          simp only [tmB, Bool.and_eq_true, decide_eq_true_eq] at q
          exact c39 ⟨(nI_eq (by omega) (by omega)).mp (hq.symm.trans q.2.2.1), q.2.2.2⟩
        · refine aw_iload (aw_d q_Te_find 21 rfl) rfl ?_
          exact aw_iret (aw_d q_Te_find 22 rfl) rfl (⟨by rw [e]; simp only [fdB]; rw [if_pos (by simp only [tmB, Bool.and_eq_true, decide_eq_true_eq]; exact ⟨c19, c29, by rw [hq, c39.1], c39.2⟩)]; rfl, rfl⟩)
set_option maxRecDepth 20000 in
theorem sp_Te_find_27 {g : aw_G} {S : aw_S} {nt : Nat} {tl : Nat → Nat} (hT : TeI S nt tl) {n : Nat} {kk ee : Int32} (hn : S.1 2701 = nI n) (h3 : n ≤ 20) : Sp g M_Te_find 2 45 0 0 [.ref 9, .int kk, .int ee, .ref 27] (HP S) (fun r h => r = some (.int (oI (fdB (tmB (S.2 10) (S.2 11) (S.2 12) (S.2 13) kk ee n (S.2 28)) nt 0))) ∧ h = HP S) := by
  refine Sp.of rfl (aw_le rfl) ?_
  refine aw_iconst (v := nI 0) (aw_d q_Te_find 0 rfl) (by decide) ?_
  refine aw_istore (aw_d q_Te_find 1 rfl) (aw_le rfl) rfl ?_
  exact lp_Te_find_27 hT hn h3 nt 0 (by omega) rfl
