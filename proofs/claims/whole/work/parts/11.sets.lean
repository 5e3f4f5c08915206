/-! sets of bytes -/
def pLet (b : Int32) : Bool := decide (97 ≤ b.toInt ∧ b.toInt ≤ 122)
def pDig (b : Int32) : Bool := decide (48 ≤ b.toInt ∧ b.toInt ≤ 57)
def pLD (b : Int32) : Bool := decide ((97 ≤ b.toInt ∧ b.toInt ≤ 122) ∨ (48 ≤ b.toInt ∧ b.toInt ≤ 57))
def pPr (b : Int32) : Bool := decide (32 ≤ b.toInt ∧ b.toInt ≤ 126)
def pTx (b : Int32) : Bool := decide (b.toInt = 9 ∨ b.toInt = 10 ∨ b.toInt = 13 ∨ (32 ≤ b.toInt ∧ b.toInt ≤ 126))
def pNd (b : Int32) : Bool := decide (33 ≤ b.toInt ∧ b.toInt ≤ 126 ∧ b.toInt ≠ 34 ∧ b.toInt ≠ 60 ∧ b.toInt ≠ 62 ∧ b.toInt ≠ 92 ∧ b.toInt ≠ 94 ∧ b.toInt ≠ 96 ∧ ¬ (123 ≤ b.toInt ∧ b.toInt ≤ 125))
theorem nI_of7 {b : Int32} (h0 : 0 ≤ b.toInt) (h1 : b.toInt ≤ 127) : ∃ n : Nat, n < 128 ∧ b = nI n ∧ b.toInt = n := ⟨b.toInt.toNat, by omega, by rw [← Int32.toInt_inj, nI_toInt (by omega)]; omega, by omega⟩
theorem k8 : ∀ n : Nat, n < 128 → (nI n).toInt8.toInt32 = nI n ∧ ((nI n).toUInt32 % 65536).toInt32 = nI n := by decide +kernel
theorem k_nodes : ∀ n : Nat, n < 128 → ((List.range 9).any (fun k => decide (aw_ch 4 k = nI n)) = decide (n = 34 ∨ n = 60 ∨ n = 62 ∨ n = 92 ∨ n = 94 ∨ n = 96 ∨ (123 ≤ n ∧ n ≤ 125))) := by decide +kernel
set_option maxRecDepth 20000 in
theorem sp_RF_isLetter {g : aw_G} {h : aw_hp} {b : Int32} : Sp g M_RF_isLetter 0 0 0 0 [.int b] (h) (fun r h1 => r = some (.int (if pLet b then nI 1 else nI 0)) ∧ h1 = h) := by
  refine Sp.of rfl (aw_le rfl) ?_
  refine aw_iload_n (aw_d q_RF_isLetter 0 rfl) rfl rfl ?_
  refine aw_bipush (v := nI 97) (aw_d q_RF_isLetter 1 rfl) (by decide) ?_
  refine aw_icmpI_lt (tgt := 16) (aw_d q_RF_isLetter 2 rfl) (by decide) (by omega) (fun c3 => ?_) (fun c3 => ?_)
  · refine aw_iconst (v := nI 0) (aw_d q_RF_isLetter 8 rfl) (by decide) ?_
    exact aw_zret (aw_d q_RF_isLetter 9 rfl) rfl (rfl) (⟨by first | rfl | (exfalso; omega) | (rw [if_pos (by simp only [pLet, pDig, pLD, pPr, pTx, pNd, decide_eq_true_eq]; omega)]) | (rw [if_neg (by simp only [pLet, pDig, pLD, pPr, pTx, pNd, decide_eq_true_eq]; omega)]), rfl⟩)
  · refine aw_iload_n (aw_d q_RF_isLetter 3 rfl) rfl rfl ?_
    refine aw_bipush (v := nI 122) (aw_d q_RF_isLetter 4 rfl) (by decide) ?_
    refine aw_icmpI_gt (tgt := 16) (aw_d q_RF_isLetter 5 rfl) (by decide) (by omega) (fun c9 => ?_) (fun c9 => ?_)
    · refine aw_iconst (v := nI 0) (aw_d q_RF_isLetter 8 rfl) (by decide) ?_
      exact aw_zret (aw_d q_RF_isLetter 9 rfl) rfl (rfl) (⟨by first | rfl | (exfalso; omega) | (rw [if_pos (by simp only [pLet, pDig, pLD, pPr, pTx, pNd, decide_eq_true_eq]; omega)]) | (rw [if_neg (by simp only [pLet, pDig, pLD, pPr, pTx, pNd, decide_eq_true_eq]; omega)]), rfl⟩)
    · refine aw_iconst (v := nI 1) (aw_d q_RF_isLetter 6 rfl) (by decide) ?_
      refine aw_goto (tgt := 17) (aw_d q_RF_isLetter 7 rfl) (by decide) ?_
      exact aw_zret (aw_d q_RF_isLetter 9 rfl) rfl (rfl) (⟨by first | rfl | (exfalso; omega) | (rw [if_pos (by simp only [pLet, pDig, pLD, pPr, pTx, pNd, decide_eq_true_eq]; omega)]) | (rw [if_neg (by simp only [pLet, pDig, pLD, pPr, pTx, pNd, decide_eq_true_eq]; omega)]), rfl⟩)
set_option maxRecDepth 20000 in
theorem sp_RF_isPrinted {g : aw_G} {h : aw_hp} {b : Int32} : Sp g M_RF_isPrinted 0 0 0 0 [.int b] (h) (fun r h1 => r = some (.int (if pPr b then nI 1 else nI 0)) ∧ h1 = h) := by
  refine Sp.of rfl (aw_le rfl) ?_
  refine aw_iload_n (aw_d q_RF_isPrinted 0 rfl) rfl rfl ?_
  refine aw_bipush (v := nI 32) (aw_d q_RF_isPrinted 1 rfl) (by decide) ?_
  refine aw_icmpI_lt (tgt := 16) (aw_d q_RF_isPrinted 2 rfl) (by decide) (by omega) (fun c3 => ?_) (fun c3 => ?_)
  · refine aw_iconst (v := nI 0) (aw_d q_RF_isPrinted 8 rfl) (by decide) ?_
    exact aw_zret (aw_d q_RF_isPrinted 9 rfl) rfl (rfl) (⟨by first | rfl | (exfalso; omega) | (rw [if_pos (by simp only [pLet, pDig, pLD, pPr, pTx, pNd, decide_eq_true_eq]; omega)]) | (rw [if_neg (by simp only [pLet, pDig, pLD, pPr, pTx, pNd, decide_eq_true_eq]; omega)]), rfl⟩)
  · refine aw_iload_n (aw_d q_RF_isPrinted 3 rfl) rfl rfl ?_
    refine aw_bipush (v := nI 126) (aw_d q_RF_isPrinted 4 rfl) (by decide) ?_
    refine aw_icmpI_gt (tgt := 16) (aw_d q_RF_isPrinted 5 rfl) (by decide) (by omega) (fun c9 => ?_) (fun c9 => ?_)
    · refine aw_iconst (v := nI 0) (aw_d q_RF_isPrinted 8 rfl) (by decide) ?_
      exact aw_zret (aw_d q_RF_isPrinted 9 rfl) rfl (rfl) (⟨by first | rfl | (exfalso; omega) | (rw [if_pos (by simp only [pLet, pDig, pLD, pPr, pTx, pNd, decide_eq_true_eq]; omega)]) | (rw [if_neg (by simp only [pLet, pDig, pLD, pPr, pTx, pNd, decide_eq_true_eq]; omega)]), rfl⟩)
    · refine aw_iconst (v := nI 1) (aw_d q_RF_isPrinted 6 rfl) (by decide) ?_
      refine aw_goto (tgt := 17) (aw_d q_RF_isPrinted 7 rfl) (by decide) ?_
      exact aw_zret (aw_d q_RF_isPrinted 9 rfl) rfl (rfl) (⟨by first | rfl | (exfalso; omega) | (rw [if_pos (by simp only [pLet, pDig, pLD, pPr, pTx, pNd, decide_eq_true_eq]; omega)]) | (rw [if_neg (by simp only [pLet, pDig, pLD, pPr, pTx, pNd, decide_eq_true_eq]; omega)]), rfl⟩)
set_option maxRecDepth 20000 in
theorem sp_RF_isLetterOrDigit {g : aw_G} {h : aw_hp} {b : Int32} : Sp g M_RF_isLetterOrDigit 0 0 0 0 [.int b] (h) (fun r h1 => r = some (.int (if pLD b then nI 1 else nI 0)) ∧ h1 = h) := by
  refine Sp.of rfl (aw_le rfl) ?_
  refine aw_iload_n (aw_d q_RF_isLetterOrDigit 0 rfl) rfl rfl ?_
  refine aw_bipush (v := nI 97) (aw_d q_RF_isLetterOrDigit 1 rfl) (by decide) ?_
  refine aw_icmpI_lt (tgt := 12) (aw_d q_RF_isLetterOrDigit 2 rfl) (by decide) (by omega) (fun c3 => ?_) (fun c3 => ?_)
  · refine aw_iload_n (aw_d q_RF_isLetterOrDigit 6 rfl) rfl rfl ?_
    refine aw_bipush (v := nI 48) (aw_d q_RF_isLetterOrDigit 7 rfl) (by decide) ?_
    refine aw_icmpI_lt (tgt := 28) (aw_d q_RF_isLetterOrDigit 8 rfl) (by decide) (by omega) (fun c15 => ?_) (fun c15 => ?_)
    · refine aw_iconst (v := nI 0) (aw_d q_RF_isLetterOrDigit 14 rfl) (by decide) ?_
      exact aw_zret (aw_d q_RF_isLetterOrDigit 15 rfl) rfl (rfl) (⟨by first | rfl | (exfalso; omega) | (rw [if_pos (by simp only [pLet, pDig, pLD, pPr, pTx, pNd, decide_eq_true_eq]; omega)]) | (rw [if_neg (by simp only [pLet, pDig, pLD, pPr, pTx, pNd, decide_eq_true_eq]; omega)]), rfl⟩)
    · refine aw_iload_n (aw_d q_RF_isLetterOrDigit 9 rfl) rfl rfl ?_
      refine aw_bipush (v := nI 57) (aw_d q_RF_isLetterOrDigit 10 rfl) (by decide) ?_
      refine aw_icmpI_gt (tgt := 28) (aw_d q_RF_isLetterOrDigit 11 rfl) (by decide) (by omega) (fun c21 => ?_) (fun c21 => ?_)
      · refine aw_iconst (v := nI 0) (aw_d q_RF_isLetterOrDigit 14 rfl) (by decide) ?_
        exact aw_zret (aw_d q_RF_isLetterOrDigit 15 rfl) rfl (rfl) (⟨by first | rfl | (exfalso; omega) | (rw [if_pos (by simp only [pLet, pDig, pLD, pPr, pTx, pNd, decide_eq_true_eq]; omega)]) | (rw [if_neg (by simp only [pLet, pDig, pLD, pPr, pTx, pNd, decide_eq_true_eq]; omega)]), rfl⟩)
      · refine aw_iconst (v := nI 1) (aw_d q_RF_isLetterOrDigit 12 rfl) (by decide) ?_
        refine aw_goto (tgt := 29) (aw_d q_RF_isLetterOrDigit 13 rfl) (by decide) ?_
        exact aw_zret (aw_d q_RF_isLetterOrDigit 15 rfl) rfl (rfl) (⟨by first | rfl | (exfalso; omega) | (rw [if_pos (by simp only [pLet, pDig, pLD, pPr, pTx, pNd, decide_eq_true_eq]; omega)]) | (rw [if_neg (by simp only [pLet, pDig, pLD, pPr, pTx, pNd, decide_eq_true_eq]; omega)]), rfl⟩)
  · refine aw_iload_n (aw_d q_RF_isLetterOrDigit 3 rfl) rfl rfl ?_
    refine aw_bipush (v := nI 122) (aw_d q_RF_isLetterOrDigit 4 rfl) (by decide) ?_
    refine aw_icmpI_le (tgt := 24) (aw_d q_RF_isLetterOrDigit 5 rfl) (by decide) (by omega) (fun c9 => ?_) (fun c9 => ?_)
    · refine aw_iconst (v := nI 1) (aw_d q_RF_isLetterOrDigit 12 rfl) (by decide) ?_
      refine aw_goto (tgt := 29) (aw_d q_RF_isLetterOrDigit 13 rfl) (by decide) ?_
      exact aw_zret (aw_d q_RF_isLetterOrDigit 15 rfl) rfl (rfl) (⟨by first | rfl | (exfalso; omega) | (rw [if_pos (by simp only [pLet, pDig, pLD, pPr, pTx, pNd, decide_eq_true_eq]; omega)]) | (rw [if_neg (by simp only [pLet, pDig, pLD, pPr, pTx, pNd, decide_eq_true_eq]; omega)]), rfl⟩)
    · refine aw_iload_n (aw_d q_RF_isLetterOrDigit 6 rfl) rfl rfl ?_
      refine aw_bipush (v := nI 48) (aw_d q_RF_isLetterOrDigit 7 rfl) (by decide) ?_
      refine aw_icmpI_lt (tgt := 28) (aw_d q_RF_isLetterOrDigit 8 rfl) (by decide) (by omega) (fun c15 => ?_) (fun c15 => ?_)
      · refine aw_iconst (v := nI 0) (aw_d q_RF_isLetterOrDigit 14 rfl) (by decide) ?_
        exact aw_zret (aw_d q_RF_isLetterOrDigit 15 rfl) rfl (rfl) (⟨by first | rfl | (exfalso; omega) | (rw [if_pos (by simp only [pLet, pDig, pLD, pPr, pTx, pNd, decide_eq_true_eq]; omega)]) | (rw [if_neg (by simp only [pLet, pDig, pLD, pPr, pTx, pNd, decide_eq_true_eq]; omega)]), rfl⟩)
      · refine aw_iload_n (aw_d q_RF_isLetterOrDigit 9 rfl) rfl rfl ?_
        refine aw_bipush (v := nI 57) (aw_d q_RF_isLetterOrDigit 10 rfl) (by decide) ?_
        refine aw_icmpI_gt (tgt := 28) (aw_d q_RF_isLetterOrDigit 11 rfl) (by decide) (by omega) (fun c21 => ?_) (fun c21 => ?_)
        · refine aw_iconst (v := nI 0) (aw_d q_RF_isLetterOrDigit 14 rfl) (by decide) ?_
          exact aw_zret (aw_d q_RF_isLetterOrDigit 15 rfl) rfl (rfl) (⟨by first | rfl | (exfalso; omega) | (rw [if_pos (by simp only [pLet, pDig, pLD, pPr, pTx, pNd, decide_eq_true_eq]; omega)]) | (rw [if_neg (by simp only [pLet, pDig, pLD, pPr, pTx, pNd, decide_eq_true_eq]; omega)]), rfl⟩)
        · refine aw_iconst (v := nI 1) (aw_d q_RF_isLetterOrDigit 12 rfl) (by decide) ?_
          refine aw_goto (tgt := 29) (aw_d q_RF_isLetterOrDigit 13 rfl) (by decide) ?_
          exact aw_zret (aw_d q_RF_isLetterOrDigit 15 rfl) rfl (rfl) (⟨by first | rfl | (exfalso; omega) | (rw [if_pos (by simp only [pLet, pDig, pLD, pPr, pTx, pNd, decide_eq_true_eq]; omega)]) | (rw [if_neg (by simp only [pLet, pDig, pLD, pPr, pTx, pNd, decide_eq_true_eq]; omega)]), rfl⟩)
set_option maxRecDepth 20000 in
theorem sp_RF_isTextByte {g : aw_G} {h : aw_hp} {b : Int32} : Sp g M_RF_isTextByte 1 20 0 0 [.int b] (h) (fun r h1 => r = some (.int (if pTx b then nI 1 else nI 0)) ∧ h1 = h) := by
  refine Sp.of rfl (aw_le rfl) ?_
  refine aw_iload_n (aw_d q_RF_isTextByte 0 rfl) rfl rfl ?_
  refine cSr (aw_d q_RF_isTextByte 1 rfl) (sp_RF_isPrinted) sL_RF_246 rfl rfl rfl rfl ⟨aw_le rfl, aw_le rfl⟩ ?_
  refine aw_ifB_ne (tgt := 25) (aw_d q_RF_isTextByte 2 rfl) (by decide) (fun c4 => ?_) (fun c4 => ?_)
  · simp only [pPr, decide_eq_true_eq] at c4
    refine aw_iconst (v := nI 1) (aw_d q_RF_isTextByte 12 rfl) (by decide) ?_
    refine aw_goto (tgt := 30) (aw_d q_RF_isTextByte 13 rfl) (by decide) ?_
    exact aw_zret (aw_d q_RF_isTextByte 15 rfl) rfl (rfl) (⟨by first | rfl | (exfalso; omega) | (rw [if_pos (by simp only [pLet, pDig, pLD, pPr, pTx, pNd, decide_eq_true_eq]; omega)]) | (rw [if_neg (by simp only [pLet, pDig, pLD, pPr, pTx, pNd, decide_eq_true_eq]; omega)]), rfl⟩)
  · simp only [pPr, decide_eq_true_eq] at c4
    refine aw_iload_n (aw_d q_RF_isTextByte 3 rfl) rfl rfl ?_
    refine aw_bipush (v := nI 9) (aw_d q_RF_isTextByte 4 rfl) (by decide) ?_
    refine aw_icmpI_eq (tgt := 25) (aw_d q_RF_isTextByte 5 rfl) (by decide) (by omega) (fun c10 => ?_) (fun c10 => ?_)
    · refine aw_iconst (v := nI 1) (aw_d q_RF_isTextByte 12 rfl) (by decide) ?_
      refine aw_goto (tgt := 30) (aw_d q_RF_isTextByte 13 rfl) (by decide) ?_
      exact aw_zret (aw_d q_RF_isTextByte 15 rfl) rfl (rfl) (⟨by first | rfl | (exfalso; omega) | (rw [if_pos (by simp only [pLet, pDig, pLD, pPr, pTx, pNd, decide_eq_true_eq]; omega)]) | (rw [if_neg (by simp only [pLet, pDig, pLD, pPr, pTx, pNd, decide_eq_true_eq]; omega)]), rfl⟩)
    · refine aw_iload_n (aw_d q_RF_isTextByte 6 rfl) rfl rfl ?_
      refine aw_bipush (v := nI 10) (aw_d q_RF_isTextByte 7 rfl) (by decide) ?_
      refine aw_icmpI_eq (tgt := 25) (aw_d q_RF_isTextByte 8 rfl) (by decide) (by omega) (fun c16 => ?_) (fun c16 => ?_)
      · refine aw_iconst (v := nI 1) (aw_d q_RF_isTextByte 12 rfl) (by decide) ?_
        refine aw_goto (tgt := 30) (aw_d q_RF_isTextByte 13 rfl) (by decide) ?_
        exact aw_zret (aw_d q_RF_isTextByte 15 rfl) rfl (rfl) (⟨by first | rfl | (exfalso; omega) | (rw [if_pos (by simp only [pLet, pDig, pLD, pPr, pTx, pNd, decide_eq_true_eq]; omega)]) | (rw [if_neg (by simp only [pLet, pDig, pLD, pPr, pTx, pNd, decide_eq_true_eq]; omega)]), rfl⟩)
      · refine aw_iload_n (aw_d q_RF_isTextByte 9 rfl) rfl rfl ?_
        refine aw_bipush (v := nI 13) (aw_d q_RF_isTextByte 10 rfl) (by decide) ?_
        refine aw_icmpI_ne (tgt := 29) (aw_d q_RF_isTextByte 11 rfl) (by decide) (by omega) (fun c22 => ?_) (fun c22 => ?_)
        · refine aw_iconst (v := nI 0) (aw_d q_RF_isTextByte 14 rfl) (by decide) ?_
          exact aw_zret (aw_d q_RF_isTextByte 15 rfl) rfl (rfl) (⟨by first | rfl | (exfalso; omega) | (rw [if_pos (by simp only [pLet, pDig, pLD, pPr, pTx, pNd, decide_eq_true_eq]; omega)]) | (rw [if_neg (by simp only [pLet, pDig, pLD, pPr, pTx, pNd, decide_eq_true_eq]; omega)]), rfl⟩)
        · refine aw_iconst (v := nI 1) (aw_d q_RF_isTextByte 12 rfl) (by decide) ?_
          refine aw_goto (tgt := 30) (aw_d q_RF_isTextByte 13 rfl) (by decide) ?_
          exact aw_zret (aw_d q_RF_isTextByte 15 rfl) rfl (rfl) (⟨by first | rfl | (exfalso; omega) | (rw [if_pos (by simp only [pLet, pDig, pLD, pPr, pTx, pNd, decide_eq_true_eq]; omega)]) | (rw [if_neg (by simp only [pLet, pDig, pLD, pPr, pTx, pNd, decide_eq_true_eq]; omega)]), rfl⟩)
set_option maxRecDepth 20000 in
theorem sp_Mo_in {g : aw_G} {h : aw_hp} {x a b : Int32} {A B : Int} (ha : a.toInt = A) (hb : b.toInt = B) : Sp g M_Mo_in 0 0 0 0 [.int x, .int a, .int b] (h) (fun r h1 => r = some (.int (if A ≤ x.toInt ∧ x.toInt ≤ B then nI 1 else nI 0)) ∧ h1 = h) := by
  refine Sp.of rfl (aw_le rfl) ?_
  refine aw_iload_n (aw_d q_Mo_in 0 rfl) rfl rfl ?_
  refine aw_iload_n (aw_d q_Mo_in 1 rfl) rfl rfl ?_
  refine aw_icmpZ_lt (tgt := 14) (aw_d q_Mo_in 2 rfl) (by decide) (fun c2 => ?_) (fun c2 => ?_)
  · refine aw_iconst (v := nI 0) (aw_d q_Mo_in 8 rfl) (by decide) ?_
    exact aw_zret (aw_d q_Mo_in 9 rfl) rfl (rfl) (⟨by first | rfl | (rw [if_pos (by omega)]) | (rw [if_neg (by omega)]), rfl⟩)
  · refine aw_iload_n (aw_d q_Mo_in 3 rfl) rfl rfl ?_
    refine aw_iload_n (aw_d q_Mo_in 4 rfl) rfl rfl ?_
    refine aw_icmpZ_gt (tgt := 14) (aw_d q_Mo_in 5 rfl) (by decide) (fun c7 => ?_) (fun c7 => ?_)
    · refine aw_iconst (v := nI 0) (aw_d q_Mo_in 8 rfl) (by decide) ?_
      exact aw_zret (aw_d q_Mo_in 9 rfl) rfl (rfl) (⟨by first | rfl | (rw [if_pos (by omega)]) | (rw [if_neg (by omega)]), rfl⟩)
    · refine aw_iconst (v := nI 1) (aw_d q_Mo_in 6 rfl) (by decide) ?_
      refine aw_goto (tgt := 15) (aw_d q_Mo_in 7 rfl) (by decide) ?_
      exact aw_zret (aw_d q_Mo_in 9 rfl) rfl (rfl) (⟨by first | rfl | (rw [if_pos (by omega)]) | (rw [if_neg (by omega)]), rfl⟩)
set_option maxRecDepth 20000 in
theorem sp_Mo_isLetter {g : aw_G} {h : aw_hp} {b : Int32} : Sp g M_Mo_isLetter 1 22 0 0 [.int b] (h) (fun r h1 => r = some (.int (if pLet b then nI 1 else nI 0)) ∧ h1 = h) := by
  refine Sp.of rfl (aw_le rfl) ?_
  refine aw_iload_n (aw_d q_Mo_isLetter 0 rfl) rfl rfl ?_
  refine aw_bipush (v := nI 97) (aw_d q_Mo_isLetter 1 rfl) (by decide) ?_
  refine aw_bipush (v := nI 122) (aw_d q_Mo_isLetter 2 rfl) (by decide) ?_
  refine cSr (aw_d q_Mo_isLetter 3 rfl) (sp_Mo_in (A := 97) (B := 122) (by decide) (by decide)) sL_Mo_81 rfl rfl rfl rfl ⟨aw_le rfl, aw_le rfl⟩ ?_
  exact aw_zret (aw_d q_Mo_isLetter 4 rfl) rfl (nB) (⟨by simp only [pLet, decide_eq_true_eq], rfl⟩)
set_option maxRecDepth 20000 in
theorem sp_Mo_isDigit {g : aw_G} {h : aw_hp} {b : Int32} : Sp g M_Mo_isDigit 1 22 0 0 [.int b] (h) (fun r h1 => r = some (.int (if pDig b then nI 1 else nI 0)) ∧ h1 = h) := by
  refine Sp.of rfl (aw_le rfl) ?_
  refine aw_iload_n (aw_d q_Mo_isDigit 0 rfl) rfl rfl ?_
  refine aw_bipush (v := nI 48) (aw_d q_Mo_isDigit 1 rfl) (by decide) ?_
  refine aw_bipush (v := nI 57) (aw_d q_Mo_isDigit 2 rfl) (by decide) ?_
  refine cSr (aw_d q_Mo_isDigit 3 rfl) (sp_Mo_in (A := 48) (B := 57) (by decide) (by decide)) sL_Mo_81 rfl rfl rfl rfl ⟨aw_le rfl, aw_le rfl⟩ ?_
  exact aw_zret (aw_d q_Mo_isDigit 4 rfl) rfl (nB) (⟨by simp only [pDig, decide_eq_true_eq], rfl⟩)
set_option maxRecDepth 20000 in
theorem sp_Mo_isText {g : aw_G} {h : aw_hp} {b : Int32} : Sp g M_Mo_isText 1 22 0 0 [.int b] (h) (fun r h1 => r = some (.int (if pTx b then nI 1 else nI 0)) ∧ h1 = h) := by
  refine Sp.of rfl (aw_le rfl) ?_
  refine aw_iload_n (aw_d q_Mo_isText 0 rfl) rfl rfl ?_
  refine aw_bipush (v := nI 9) (aw_d q_Mo_isText 1 rfl) (by decide) ?_
  refine aw_icmpI_eq (tgt := 29) (aw_d q_Mo_isText 2 rfl) (by decide) (by omega) (fun c3 => ?_) (fun c3 => ?_)
  · refine aw_iconst (v := nI 1) (aw_d q_Mo_isText 14 rfl) (by decide) ?_
    refine aw_goto (tgt := 34) (aw_d q_Mo_isText 15 rfl) (by decide) ?_
    exact aw_zret (aw_d q_Mo_isText 17 rfl) rfl (rfl) (⟨by first | rfl | (exfalso; omega) | (rw [if_pos (by simp only [pLet, pDig, pLD, pPr, pTx, pNd, decide_eq_true_eq]; omega)]) | (rw [if_neg (by simp only [pLet, pDig, pLD, pPr, pTx, pNd, decide_eq_true_eq]; omega)]), rfl⟩)
  · refine aw_iload_n (aw_d q_Mo_isText 3 rfl) rfl rfl ?_
    refine aw_bipush (v := nI 10) (aw_d q_Mo_isText 4 rfl) (by decide) ?_
    refine aw_icmpI_eq (tgt := 29) (aw_d q_Mo_isText 5 rfl) (by decide) (by omega) (fun c9 => ?_) (fun c9 => ?_)
    · refine aw_iconst (v := nI 1) (aw_d q_Mo_isText 14 rfl) (by decide) ?_
      refine aw_goto (tgt := 34) (aw_d q_Mo_isText 15 rfl) (by decide) ?_
      exact aw_zret (aw_d q_Mo_isText 17 rfl) rfl (rfl) (⟨by first | rfl | (exfalso; omega) | (rw [if_pos (by simp only [pLet, pDig, pLD, pPr, pTx, pNd, decide_eq_true_eq]; omega)]) | (rw [if_neg (by simp only [pLet, pDig, pLD, pPr, pTx, pNd, decide_eq_true_eq]; omega)]), rfl⟩)
    · refine aw_iload_n (aw_d q_Mo_isText 6 rfl) rfl rfl ?_
      refine aw_bipush (v := nI 13) (aw_d q_Mo_isText 7 rfl) (by decide) ?_
      refine aw_icmpI_eq (tgt := 29) (aw_d q_Mo_isText 8 rfl) (by decide) (by omega) (fun c15 => ?_) (fun c15 => ?_)
      · refine aw_iconst (v := nI 1) (aw_d q_Mo_isText 14 rfl) (by decide) ?_
        refine aw_goto (tgt := 34) (aw_d q_Mo_isText 15 rfl) (by decide) ?_
        exact aw_zret (aw_d q_Mo_isText 17 rfl) rfl (rfl) (⟨by first | rfl | (exfalso; omega) | (rw [if_pos (by simp only [pLet, pDig, pLD, pPr, pTx, pNd, decide_eq_true_eq]; omega)]) | (rw [if_neg (by simp only [pLet, pDig, pLD, pPr, pTx, pNd, decide_eq_true_eq]; omega)]), rfl⟩)
      · refine aw_iload_n (aw_d q_Mo_isText 9 rfl) rfl rfl ?_
        refine aw_bipush (v := nI 32) (aw_d q_Mo_isText 10 rfl) (by decide) ?_
        refine aw_bipush (v := nI 126) (aw_d q_Mo_isText 11 rfl) (by decide) ?_
        refine cSr (aw_d q_Mo_isText 12 rfl) (sp_Mo_in (A := 32) (B := 126) (by decide) (by decide)) sL_Mo_81 rfl rfl rfl rfl ⟨aw_le rfl, aw_le rfl⟩ ?_
        refine aw_ifB_eq (tgt := 33) (aw_d q_Mo_isText 13 rfl) (by decide) (fun c26 => ?_) (fun c26 => ?_)
        · refine aw_iconst (v := nI 0) (aw_d q_Mo_isText 16 rfl) (by decide) ?_
          exact aw_zret (aw_d q_Mo_isText 17 rfl) rfl (rfl) (⟨by first | rfl | (exfalso; omega) | (rw [if_pos (by simp only [pLet, pDig, pLD, pPr, pTx, pNd, decide_eq_true_eq]; omega)]) | (rw [if_neg (by simp only [pLet, pDig, pLD, pPr, pTx, pNd, decide_eq_true_eq]; omega)]), rfl⟩)
        · refine aw_iconst (v := nI 1) (aw_d q_Mo_isText 14 rfl) (by decide) ?_
          refine aw_goto (tgt := 34) (aw_d q_Mo_isText 15 rfl) (by decide) ?_
          exact aw_zret (aw_d q_Mo_isText 17 rfl) rfl (rfl) (⟨by first | rfl | (exfalso; omega) | (rw [if_pos (by simp only [pLet, pDig, pLD, pPr, pTx, pNd, decide_eq_true_eq]; omega)]) | (rw [if_neg (by simp only [pLet, pDig, pLD, pPr, pTx, pNd, decide_eq_true_eq]; omega)]), rfl⟩)
set_option maxRecDepth 20000 in
theorem sp_Mo_isNode {g : aw_G} {h : aw_hp} {b : Int32} : Sp g M_Mo_isNode 1 22 0 0 [.int b] (h) (fun r h1 => r = some (.int (if pNd b then nI 1 else nI 0)) ∧ h1 = h) := by
  refine Sp.of rfl (aw_le rfl) ?_
  refine aw_iload_n (aw_d q_Mo_isNode 0 rfl) rfl rfl ?_
  refine aw_bipush (v := nI 33) (aw_d q_Mo_isNode 1 rfl) (by decide) ?_
  refine aw_bipush (v := nI 126) (aw_d q_Mo_isNode 2 rfl) (by decide) ?_
  refine cSr (aw_d q_Mo_isNode 3 rfl) (sp_Mo_in (A := 33) (B := 126) (by decide) (by decide)) sL_Mo_81 rfl rfl rfl rfl ⟨aw_le rfl, aw_le rfl⟩ ?_
  refine aw_ifB_eq (tgt := 62) (aw_d q_Mo_isNode 4 rfl) (by decide) (fun c8 => ?_) (fun c8 => ?_)
  · refine aw_iconst (v := nI 0) (aw_d q_Mo_isNode 30 rfl) (by decide) ?_
    exact aw_zret (aw_d q_Mo_isNode 31 rfl) rfl (rfl) (⟨by first | rfl | (exfalso; omega) | (rw [if_pos (by simp only [pLet, pDig, pLD, pPr, pTx, pNd, decide_eq_true_eq]; omega)]) | (rw [if_neg (by simp only [pLet, pDig, pLD, pPr, pTx, pNd, decide_eq_true_eq]; omega)]), rfl⟩)
  · refine aw_iload_n (aw_d q_Mo_isNode 5 rfl) rfl rfl ?_
    refine aw_bipush (v := nI 34) (aw_d q_Mo_isNode 6 rfl) (by decide) ?_
    refine aw_icmpI_eq (tgt := 62) (aw_d q_Mo_isNode 7 rfl) (by decide) (by omega) (fun c14 => ?_) (fun c14 => ?_)
    · refine aw_iconst (v := nI 0) (aw_d q_Mo_isNode 30 rfl) (by decide) ?_
      exact aw_zret (aw_d q_Mo_isNode 31 rfl) rfl (rfl) (⟨by first | rfl | (exfalso; omega) | (rw [if_pos (by simp only [pLet, pDig, pLD, pPr, pTx, pNd, decide_eq_true_eq]; omega)]) | (rw [if_neg (by simp only [pLet, pDig, pLD, pPr, pTx, pNd, decide_eq_true_eq]; omega)]), rfl⟩)
    · refine aw_iload_n (aw_d q_Mo_isNode 8 rfl) rfl rfl ?_
      refine aw_bipush (v := nI 60) (aw_d q_Mo_isNode 9 rfl) (by decide) ?_
      refine aw_icmpI_eq (tgt := 62) (aw_d q_Mo_isNode 10 rfl) (by decide) (by omega) (fun c20 => ?_) (fun c20 => ?_)
      · refine aw_iconst (v := nI 0) (aw_d q_Mo_isNode 30 rfl) (by decide) ?_
        exact aw_zret (aw_d q_Mo_isNode 31 rfl) rfl (rfl) (⟨by first | rfl | (exfalso; omega) | (rw [if_pos (by simp only [pLet, pDig, pLD, pPr, pTx, pNd, decide_eq_true_eq]; omega)]) | (rw [if_neg (by simp only [pLet, pDig, pLD, pPr, pTx, pNd, decide_eq_true_eq]; omega)]), rfl⟩)
      · refine aw_iload_n (aw_d q_Mo_isNode 11 rfl) rfl rfl ?_
        refine aw_bipush (v := nI 62) (aw_d q_Mo_isNode 12 rfl) (by decide) ?_
        refine aw_icmpI_eq (tgt := 62) (aw_d q_Mo_isNode 13 rfl) (by decide) (by omega) (fun c26 => ?_) (fun c26 => ?_)
        · refine aw_iconst (v := nI 0) (aw_d q_Mo_isNode 30 rfl) (by decide) ?_
          exact aw_zret (aw_d q_Mo_isNode 31 rfl) rfl (rfl) (⟨by first | rfl | (exfalso; omega) | (rw [if_pos (by simp only [pLet, pDig, pLD, pPr, pTx, pNd, decide_eq_true_eq]; omega)]) | (rw [if_neg (by simp only [pLet, pDig, pLD, pPr, pTx, pNd, decide_eq_true_eq]; omega)]), rfl⟩)
        · refine aw_iload_n (aw_d q_Mo_isNode 14 rfl) rfl rfl ?_
          refine aw_bipush (v := nI 92) (aw_d q_Mo_isNode 15 rfl) (by decide) ?_
          refine aw_icmpI_eq (tgt := 62) (aw_d q_Mo_isNode 16 rfl) (by decide) (by omega) (fun c32 => ?_) (fun c32 => ?_)
          · refine aw_iconst (v := nI 0) (aw_d q_Mo_isNode 30 rfl) (by decide) ?_
            exact aw_zret (aw_d q_Mo_isNode 31 rfl) rfl (rfl) (⟨by first | rfl | (exfalso; omega) | (rw [if_pos (by simp only [pLet, pDig, pLD, pPr, pTx, pNd, decide_eq_true_eq]; omega)]) | (rw [if_neg (by simp only [pLet, pDig, pLD, pPr, pTx, pNd, decide_eq_true_eq]; omega)]), rfl⟩)
          · refine aw_iload_n (aw_d q_Mo_isNode 17 rfl) rfl rfl ?_
            refine aw_bipush (v := nI 94) (aw_d q_Mo_isNode 18 rfl) (by decide) ?_
            refine aw_icmpI_eq (tgt := 62) (aw_d q_Mo_isNode 19 rfl) (by decide) (by omega) (fun c38 => ?_) (fun c38 => ?_)
            · refine aw_iconst (v := nI 0) (aw_d q_Mo_isNode 30 rfl) (by decide) ?_
              exact aw_zret (aw_d q_Mo_isNode 31 rfl) rfl (rfl) (⟨by first | rfl | (exfalso; omega) | (rw [if_pos (by simp only [pLet, pDig, pLD, pPr, pTx, pNd, decide_eq_true_eq]; omega)]) | (rw [if_neg (by simp only [pLet, pDig, pLD, pPr, pTx, pNd, decide_eq_true_eq]; omega)]), rfl⟩)
            · refine aw_iload_n (aw_d q_Mo_isNode 20 rfl) rfl rfl ?_
              refine aw_bipush (v := nI 96) (aw_d q_Mo_isNode 21 rfl) (by decide) ?_
              refine aw_icmpI_eq (tgt := 62) (aw_d q_Mo_isNode 22 rfl) (by decide) (by omega) (fun c44 => ?_) (fun c44 => ?_)
              · refine aw_iconst (v := nI 0) (aw_d q_Mo_isNode 30 rfl) (by decide) ?_
                exact aw_zret (aw_d q_Mo_isNode 31 rfl) rfl (rfl) (⟨by first | rfl | (exfalso; omega) | (rw [if_pos (by simp only [pLet, pDig, pLD, pPr, pTx, pNd, decide_eq_true_eq]; omega)]) | (rw [if_neg (by simp only [pLet, pDig, pLD, pPr, pTx, pNd, decide_eq_true_eq]; omega)]), rfl⟩)
              · refine aw_iload_n (aw_d q_Mo_isNode 23 rfl) rfl rfl ?_
                refine aw_bipush (v := nI 123) (aw_d q_Mo_isNode 24 rfl) (by decide) ?_
                refine aw_bipush (v := nI 125) (aw_d q_Mo_isNode 25 rfl) (by decide) ?_
                refine cSr (aw_d q_Mo_isNode 26 rfl) (sp_Mo_in (A := 123) (B := 125) (by decide) (by decide)) sL_Mo_81 rfl rfl rfl rfl ⟨aw_le rfl, aw_le rfl⟩ ?_
                refine aw_ifB_ne (tgt := 62) (aw_d q_Mo_isNode 27 rfl) (by decide) (fun c55 => ?_) (fun c55 => ?_)
                · refine aw_iconst (v := nI 0) (aw_d q_Mo_isNode 30 rfl) (by decide) ?_
                  exact aw_zret (aw_d q_Mo_isNode 31 rfl) rfl (rfl) (⟨by first | rfl | (exfalso; omega) | (rw [if_pos (by simp only [pLet, pDig, pLD, pPr, pTx, pNd, decide_eq_true_eq]; omega)]) | (rw [if_neg (by simp only [pLet, pDig, pLD, pPr, pTx, pNd, decide_eq_true_eq]; omega)]), rfl⟩)
                · refine aw_iconst (v := nI 1) (aw_d q_Mo_isNode 28 rfl) (by decide) ?_
                  refine aw_goto (tgt := 63) (aw_d q_Mo_isNode 29 rfl) (by decide) ?_
                  exact aw_zret (aw_d q_Mo_isNode 31 rfl) rfl (rfl) (⟨by first | rfl | (exfalso; omega) | (rw [if_pos (by simp only [pLet, pDig, pLD, pPr, pTx, pNd, decide_eq_true_eq]; omega)]) | (rw [if_neg (by simp only [pLet, pDig, pLD, pPr, pTx, pNd, decide_eq_true_eq]; omega)]), rfl⟩)
/-- where the text has the byte, from place k on -/
def aw_ix (i : Nat) (c : Int32) : Nat → Nat → Int32
  | 0, _ => -1
  | m + 1, k => if aw_ch i k = c then nI k else aw_ix i c m (k + 1)
theorem aw_ix_is (i : Nat) (c : Int32) : ∀ m k : Nat, m + k < 1000 → (0 ≤ (aw_ix i c m k).toInt ↔ ∃ j, j < m ∧ aw_ch i (k + j) = c) := by
  intro m
  induction m with
  | zero => intro k _; simp only [aw_ix]; exact ⟨fun h => absurd h (by decide), fun ⟨j, hj, _⟩ => by omega⟩
  | succ m ih =>
    intro k hk
    simp only [aw_ix]
    by_cases hc : aw_ch i k = c
    · rw [if_pos hc, nI_toInt (by omega)]
      exact ⟨fun _ => ⟨0, by omega, hc⟩, fun _ => by omega⟩
    · rw [if_neg hc, ih (k + 1) (by omega)]
      constructor
      · rintro ⟨j, hj, e⟩
        exact ⟨j + 1, by omega, by rw [show k + (j + 1) = k + 1 + j by omega]; exact e⟩
      · rintro ⟨j, hj, e⟩
        cases j with
        | zero => exact absurd e hc
        | succ j => exact ⟨j, by omega, by rw [show k + 1 + j = k + (j + 1) by omega]; exact e⟩
set_option maxRecDepth 20000 in
theorem lp_JL_indexOfChar {g : aw_G} {h : aw_hp} {i n : Nat} (hi : i < aw_nS) (hn : n < 128) {L : Nat} (hL : L = aw_len.getD i 0) : ∀ (m k : Nat), m + k = L → aw_ix i (nI n) L 0 = aw_ix i (nI n) m k → AW g M_JL_indexOfChar (aw_rm 0 0 0 0) (aw_F g 0 0 (fun r h1 => r = some (.int (aw_ix i (nI n) L 0)) ∧ h1 = h)) 7 [some (.retAddr (1000 + i)), some (.int (nI n)), some (.int (nI 0)), some (.int (nI L)), some (.int (nI n)), some (.int (nI k))] [] h 0 0 := by
  intro m
  induction m with
  | zero =>
    intro k hk e
    refine aw_iload (aw_d q_JL_indexOfChar 5 rfl) rfl ?_
    refine aw_iload_n (aw_d q_JL_indexOfChar 6 rfl) rfl rfl ?_
    refine aw_icmpN_ge (tgt := 31) (aw_d q_JL_indexOfChar 7 rfl) (by decide) (by (have := aw_len_lt hi; omega)) (by (have := aw_len_lt hi; omega)) (fun c10 => ?_) (fun c10 => by exfalso; (have := aw_len_lt hi; omega))
    refine aw_iconst (v := (-1)) (aw_d q_JL_indexOfChar 17 rfl) (by decide) ?_
    exact aw_iret (aw_d q_JL_indexOfChar 18 rfl) rfl (⟨by rw [e]; rfl, rfl⟩)
  | succ m ih =>
    intro k hk e
    refine aw_iload (aw_d q_JL_indexOfChar 5 rfl) rfl ?_
    refine aw_iload_n (aw_d q_JL_indexOfChar 6 rfl) rfl rfl ?_
    refine aw_icmpN_ge (tgt := 31) (aw_d q_JL_indexOfChar 7 rfl) (by decide) (by (have := aw_len_lt hi; omega)) (by (have := aw_len_lt hi; omega)) (fun c10 => by exfalso; (have := aw_len_lt hi; omega)) (fun c10 => ?_)
    refine aw_aload_n (aw_d q_JL_indexOfChar 8 rfl) rfl rfl rfl ?_
    refine aw_iload (aw_d q_JL_indexOfChar 9 rfl) rfl ?_
    refine aw_strb hi (aw_d q_JL_indexOfChar 10 rfl) (vp_in_nI (by have := aw_len_lt hi; omega) (by have := aw_len_lt hi; omega)) ?_
    rw [nI_clamp (show k < 2 ^ 31 by have := aw_len_lt hi; omega), show (aw_byt.getD i []).getD k 0 = aw_ch i k from rfl]
    refine aw_iload (aw_d q_JL_indexOfChar 11 rfl) rfl ?_
    refine aw_icmp_ne (tgt := 25) (aw_d q_JL_indexOfChar 12 rfl) (by decide) (fun c19 => ?_) (fun c19 => ?_)
    · refine aw_iinc (aw_d q_JL_indexOfChar 15 rfl) rfl (ii1 _) (aw_le rfl) rfl ?_
      refine aw_goto (tgt := 7) (aw_d q_JL_indexOfChar 16 rfl) (by decide) ?_
      refine ih (k + 1) (by omega) (e.trans ?_)
      simp only [aw_ix]
      rw [if_neg c19]
    · refine aw_iload (aw_d q_JL_indexOfChar 13 rfl) rfl ?_
      exact aw_iret (aw_d q_JL_indexOfChar 14 rfl) rfl (⟨by rw [e]; simp only [aw_ix]; rw [if_pos c19], rfl⟩)
set_option maxRecDepth 20000 in
theorem sp_JL_indexOfChar {g : aw_G} {h : aw_hp} {i n : Nat} (hi : i < aw_nS) (hn : n < 128) : Sp g M_JL_indexOfChar 0 0 0 0 [.retAddr (1000 + i), .int (nI n), .int (nI 0), .int (nI (aw_len.getD i 0))] (h) (fun r h1 => r = some (.int (aw_ix i (nI n) (aw_len.getD i 0) 0)) ∧ h1 = h) := by
  refine Sp.of rfl (aw_le rfl) ?_
  refine aw_iload_n (aw_d q_JL_indexOfChar 0 rfl) rfl rfl ?_
  refine aw_i2b (aw_d q_JL_indexOfChar 1 rfl) ?_
  rw [(k8 n hn).1]
  refine aw_istore (aw_d q_JL_indexOfChar 2 rfl) (aw_le rfl) rfl ?_
  refine aw_iload_n (aw_d q_JL_indexOfChar 3 rfl) rfl rfl ?_
  refine aw_istore (aw_d q_JL_indexOfChar 4 rfl) (aw_le rfl) rfl ?_
  exact lp_JL_indexOfChar hi hn rfl _ 0 (by omega) rfl
set_option maxRecDepth 20000 in
theorem sp_JL_canEncode {g : aw_G} {h : aw_hp} {n : Nat} (hn : n < 128) : Sp g M_JL_canEncode 0 0 0 0 [.int (nI n)] (h) (fun r h1 => r = some (.int (nI 1)) ∧ h1 = h) := by
  refine Sp.of rfl (aw_le rfl) ?_
  refine aw_iload_n (aw_d q_JL_canEncode 0 rfl) rfl rfl ?_
  refine aw_ifN_lt (tgt := 15) (aw_d q_JL_canEncode 1 rfl) (by decide) (by omega) (fun c1 => by exfalso; omega) (fun c1 => ?_)
  refine aw_iload_n (aw_d q_JL_canEncode 2 rfl) rfl rfl ?_
  refine aw_sipush (v := nI 255) (aw_d q_JL_canEncode 3 rfl) (by decide) ?_
  refine aw_icmpN_gt (tgt := 15) (aw_d q_JL_canEncode 4 rfl) (by decide) (by omega) (by omega) (fun c8 => by exfalso; omega) (fun c8 => ?_)
  refine aw_iconst (v := nI 1) (aw_d q_JL_canEncode 5 rfl) (by decide) ?_
  refine aw_goto (tgt := 16) (aw_d q_JL_canEncode 6 rfl) (by decide) ?_
  exact aw_zret (aw_d q_JL_canEncode 8 rfl) rfl (rfl) (⟨rfl, rfl⟩)
set_option maxRecDepth 20000 in
theorem sp_JL_indexOf {g : aw_G} {h : aw_hp} {i n : Nat} (hi : i < aw_nS) (hn : n < 128) (hl : 0 < aw_len.getD i 0) : Sp g M_JL_indexOf 1 25 0 0 [.retAddr (1000 + i), .int (nI n), .int (nI 0), .int (nI (aw_len.getD i 0))] (h) (fun r h1 => r = some (.int (aw_ix i (nI n) (aw_len.getD i 0) 0)) ∧ h1 = h) := by
  refine Sp.of rfl (aw_le rfl) ?_
  refine aw_iload_n (aw_d q_JL_indexOf 0 rfl) rfl rfl ?_
  refine cSr (aw_d q_JL_indexOf 1 rfl) (sp_JL_canEncode hn) sL_JL_88 rfl rfl rfl rfl ⟨aw_le rfl, aw_le rfl⟩ ?_
  refine aw_ifN_ne (tgt := 9) (aw_d q_JL_indexOf 2 rfl) (by decide) (by (have := aw_len_lt hi; omega)) (fun c4 => ?_) (fun c4 => by exfalso; (have := aw_len_lt hi; omega))
  refine aw_iload_n (aw_d q_JL_indexOf 5 rfl) rfl rfl ?_
  refine aw_iconst (v := nI 0) (aw_d q_JL_indexOf 6 rfl) (by decide) ?_
  refine aw_mmaxE (aw_d q_JL_indexOf 7 rfl) rfl rfl rfl ⟨aw_le rfl, aw_le rfl⟩ ?_
  refine aw_istore_n (aw_d q_JL_indexOf 8 rfl) rfl (aw_le rfl) rfl ?_
  refine aw_iload_n (aw_d q_JL_indexOf 9 rfl) rfl rfl ?_
  refine aw_aload_n (aw_d q_JL_indexOf 10 rfl) rfl rfl rfl ?_
  refine aw_strl hi (aw_d q_JL_indexOf 11 rfl) ?_
  refine aw_mminE (aw_d q_JL_indexOf 12 rfl) rfl rfl rfl ⟨aw_le rfl, aw_le rfl⟩ ?_
  refine aw_istore_n (aw_d q_JL_indexOf 13 rfl) rfl (aw_le rfl) rfl ?_
  refine aw_iload_n (aw_d q_JL_indexOf 14 rfl) rfl rfl ?_
  refine aw_iload_n (aw_d q_JL_indexOf 15 rfl) rfl rfl ?_
  refine aw_icmpN_lt (tgt := 29) (aw_d q_JL_indexOf 16 rfl) (by decide) (by (have := aw_len_lt hi; omega)) (by (have := aw_len_lt hi; omega)) (fun c24 => ?_) (fun c24 => by exfalso; (have := aw_len_lt hi; omega))
  refine aw_aload_n (aw_d q_JL_indexOf 19 rfl) rfl rfl rfl ?_
  refine aw_iload_n (aw_d q_JL_indexOf 20 rfl) rfl rfl ?_
  refine aw_iload_n (aw_d q_JL_indexOf 21 rfl) rfl rfl ?_
  refine aw_iload_n (aw_d q_JL_indexOf 22 rfl) rfl rfl ?_
  refine cSr (aw_d q_JL_indexOf 23 rfl) (sp_JL_indexOfChar hi hn) sL_JL_95 rfl rfl rfl rfl ⟨aw_le rfl, aw_le rfl⟩ ?_
  exact aw_iret (aw_d q_JL_indexOf 24 rfl) rfl (⟨rfl, rfl⟩)
set_option maxRecDepth 20000 in
theorem sp_JS_indexOf_1 {g : aw_G} {h : aw_hp} {i n : Nat} (hi : i < aw_nS) (hn : n < 128) (hl : 0 < aw_len.getD i 0) : Sp g M_JS_indexOf_1 2 48 0 0 [.retAddr i, .int (nI n), .int (nI 0)] (h) (fun r h1 => r = some (.int (aw_ix i (nI n) (aw_len.getD i 0) 0)) ∧ h1 = h) := by
  refine Sp.of rfl (aw_le rfl) ?_
  refine aw_aload_n (aw_d q_JS_indexOf_1 0 rfl) rfl rfl rfl ?_
  refine cT (aw_d q_JS_indexOf_1 1 rfl) hi (sp_JS_isLatin1 hi) vL_JS_492_JS rfl rfl rfl rfl ⟨aw_le rfl, aw_le rfl⟩ ?_
  refine aw_ifN_eq (tgt := 23) (aw_d q_JS_indexOf_1 2 rfl) (by decide) (by omega) (fun c4 => by exfalso; omega) (fun c4 => ?_)
  refine aw_aload_n (aw_d q_JS_indexOf_1 3 rfl) rfl rfl rfl ?_
  refine aw_strv hi (aw_d q_JS_indexOf_1 4 rfl) rfl ?_
  refine aw_iload_n (aw_d q_JS_indexOf_1 5 rfl) rfl rfl ?_
  refine aw_iload_n (aw_d q_JS_indexOf_1 6 rfl) rfl rfl ?_
  refine aw_aload_n (aw_d q_JS_indexOf_1 7 rfl) rfl rfl rfl ?_
  refine cT (aw_d q_JS_indexOf_1 8 rfl) hi (sp_JS_length hi) vL_JS_505_JS rfl rfl rfl rfl ⟨aw_le rfl, aw_le rfl⟩ ?_
  refine cSr (aw_d q_JS_indexOf_1 9 rfl) (sp_JL_indexOf hi hn hl) sL_JS_637 rfl rfl rfl rfl ⟨aw_le rfl, aw_le rfl⟩ ?_
  refine aw_goto (tgt := 36) (aw_d q_JS_indexOf_1 10 rfl) (by decide) ?_
  exact aw_iret (aw_d q_JS_indexOf_1 18 rfl) rfl (⟨rfl, rfl⟩)
set_option maxRecDepth 20000 in
theorem sp_JS_indexOf {g : aw_G} {h : aw_hp} {i n : Nat} (hi : i < aw_nS) (hn : n < 128) (hl : 0 < aw_len.getD i 0) : Sp g M_JS_indexOf 3 70 0 0 [.retAddr i, .int (nI n)] (h) (fun r h1 => r = some (.int (aw_ix i (nI n) (aw_len.getD i 0) 0)) ∧ h1 = h) := by
  refine Sp.of rfl (aw_le rfl) ?_
  refine aw_aload_n (aw_d q_JS_indexOf 0 rfl) rfl rfl rfl ?_
  refine aw_iload_n (aw_d q_JS_indexOf 1 rfl) rfl rfl ?_
  refine aw_iconst (v := nI 0) (aw_d q_JS_indexOf 2 rfl) (by decide) ?_
  refine cT (aw_d q_JS_indexOf 3 rfl) hi (sp_JS_indexOf_1 hi hn hl) vL_JS_633_JS rfl rfl rfl rfl ⟨aw_le rfl, aw_le rfl⟩ ?_
  exact aw_iret (aw_d q_JS_indexOf 4 rfl) rfl (⟨rfl, rfl⟩)
theorem k_ix {n : Nat} (hn : n < 128) : 0 ≤ (aw_ix 4 (nI n) (aw_len.getD 4 0) 0).toInt ↔ (n = 34 ∨ n = 60 ∨ n = 62 ∨ n = 92 ∨ n = 94 ∨ n = 96 ∨ (123 ≤ n ∧ n ≤ 125)) := by
  rw [aw_ix_is 4 (nI n) _ 0 (by decide)]
  have h := k_nodes n hn
  constructor
  · rintro ⟨j, hj, e⟩
    have h1 : (List.range 9).any (fun k => decide (aw_ch 4 k = nI n)) = true := List.any_eq_true.mpr ⟨j, List.mem_range.mpr hj, decide_eq_true (by rw [Nat.zero_add] at e; exact e)⟩
    rw [h] at h1
    exact of_decide_eq_true h1
  · intro hc
    rw [decide_eq_true hc] at h
    obtain ⟨j, hj, e⟩ := List.any_eq_true.mp h
    exact ⟨j, List.mem_range.mp hj, by rw [Nat.zero_add]; exact of_decide_eq_true e⟩
set_option maxRecDepth 20000 in
theorem sp_RF_isNodeByte {g : aw_G} {h : aw_hp} {b : Int32} : Sp g M_RF_isNodeByte 4 91 0 0 [.int b] (h) (fun r h1 => r = some (.int (if pNd b then nI 1 else nI 0)) ∧ h1 = h) := by
  refine Sp.of rfl (aw_le rfl) ?_
  refine aw_iload_n (aw_d q_RF_isNodeByte 0 rfl) rfl rfl ?_
  refine aw_bipush (v := nI 33) (aw_d q_RF_isNodeByte 1 rfl) (by decide) ?_
  refine aw_icmpI_lt (tgt := 26) (aw_d q_RF_isNodeByte 2 rfl) (by decide) (by omega) (fun c3 => ?_) (fun c3 => ?_)
  · refine aw_iconst (v := nI 0) (aw_d q_RF_isNodeByte 13 rfl) (by decide) ?_
    exact aw_zret (aw_d q_RF_isNodeByte 14 rfl) rfl (rfl) (⟨by first | (exfalso; omega) | (rw [if_pos (by simp only [pLet, pDig, pLD, pPr, pTx, pNd, decide_eq_true_eq]; omega)]) | (rw [if_neg (by simp only [pLet, pDig, pLD, pPr, pTx, pNd, decide_eq_true_eq]; omega)]), rfl⟩)
  · refine aw_iload_n (aw_d q_RF_isNodeByte 3 rfl) rfl rfl ?_
    refine aw_bipush (v := nI 126) (aw_d q_RF_isNodeByte 4 rfl) (by decide) ?_
    refine aw_icmpI_gt (tgt := 26) (aw_d q_RF_isNodeByte 5 rfl) (by decide) (by omega) (fun c9 => ?_) (fun c9 => ?_)
    · refine aw_iconst (v := nI 0) (aw_d q_RF_isNodeByte 13 rfl) (by decide) ?_
      exact aw_zret (aw_d q_RF_isNodeByte 14 rfl) rfl (rfl) (⟨by first | (exfalso; omega) | (rw [if_pos (by simp only [pLet, pDig, pLD, pPr, pTx, pNd, decide_eq_true_eq]; omega)]) | (rw [if_neg (by simp only [pLet, pDig, pLD, pPr, pTx, pNd, decide_eq_true_eq]; omega)]), rfl⟩)
    · obtain ⟨n, hn, hbn, hbi⟩ := nI_of7 (b := b) (by omega) (by omega)
      have hix := k_ix hn
      have hni : (nI n).toInt = n := nI_toInt (by omega)
      refine aw_ldcS (aw_d q_RF_isNodeByte 6 rfl) tL_RF_249 ?_
      refine aw_iload_n (aw_d q_RF_isNodeByte 7 rfl) rfl rfl ?_
      refine aw_i2c (aw_d q_RF_isNodeByte 8 rfl) ?_
      rw [hbn, (k8 n hn).2]
      refine cT (aw_d q_RF_isNodeByte 9 rfl) (by decide) (sp_JS_indexOf (i := 4) (by decide) hn (by decide)) vL_RF_251_JS rfl rfl rfl rfl ⟨aw_le rfl, aw_le rfl⟩ ?_
      refine aw_ifI_ge (tgt := 26) (aw_d q_RF_isNodeByte 10 rfl) (by decide) (fun c19 => ?_) (fun c19 => ?_)
      · have hz := hix.mp c19
        refine aw_iconst (v := nI 0) (aw_d q_RF_isNodeByte 13 rfl) (by decide) ?_
        exact aw_zret (aw_d q_RF_isNodeByte 14 rfl) rfl (rfl) (⟨by first | (exfalso; omega) | (rw [if_pos (by simp only [pLet, pDig, pLD, pPr, pTx, pNd, decide_eq_true_eq]; omega)]) | (rw [if_neg (by simp only [pLet, pDig, pLD, pPr, pTx, pNd, decide_eq_true_eq]; omega)]), rfl⟩)
      · have hz : ¬ _ := fun q => absurd (hix.mpr q) (by omega)
        refine aw_iconst (v := nI 1) (aw_d q_RF_isNodeByte 11 rfl) (by decide) ?_
        refine aw_goto (tgt := 27) (aw_d q_RF_isNodeByte 12 rfl) (by decide) ?_
        exact aw_zret (aw_d q_RF_isNodeByte 14 rfl) rfl (rfl) (⟨by first | (exfalso; omega) | (rw [if_pos (by simp only [pLet, pDig, pLD, pPr, pTx, pNd, decide_eq_true_eq]; omega)]) | (rw [if_neg (by simp only [pLet, pDig, pLD, pPr, pTx, pNd, decide_eq_true_eq]; omega)]), rfl⟩)
