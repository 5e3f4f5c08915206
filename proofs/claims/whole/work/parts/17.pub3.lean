set_option maxRecDepth 20000 in
theorem lp_Tx_takeAll {g : aw_G} {S : aw_S} {n : Nat} (hn : S.1 101 = nI n) (h3 : n ≤ 3000) (h20 : n ≤ 20) : ∀ (m k : Nat) (A : Nat → Int32), m + k = n → allB pTx (S.2 2) n 0 = allB pTx (S.2 2) m k → (∀ i, i < k → A i = S.2 2 i) → AW g M_Tx_takeAll (aw_rm 2 40 0 0) (aw_F g 0 0 (fun r h => ∃ (m : Nat) (A : Nat → Int32), h = HP (si (sa S 8 A) 701 (nI m)) ∧ m ≤ 20 ∧ r = some (.int (if n ≤ 20 ∧ allB pTx (S.2 2) n 0 = true then nI 1 else nI 0)) ∧ (n ≤ 20 → allB pTx (S.2 2) n 0 = true → m = n ∧ ∀ i, i < n → A i = S.2 2 i))) 17 [some (.ref 7), some (.ref 1), some (.int (nI k))] [] (HP (si (sa S 8 A) 701 (nI k))) 0 0 := by
  intro m
  induction m with
  | zero =>
    intro k A hk e e1
    refine aw_iload_n (aw_d q_Tx_takeAll 10 rfl) rfl rfl ?_
    refine aw_aload_n (aw_d q_Tx_takeAll 11 rfl) rfl rfl rfl ?_
    refine aw_getf (v := .int (nI (n))) (aw_d q_Tx_takeAll 12 rfl) fL_Tx_22_By rfl (gk hn) ?_
    refine aw_icmpN_ge (tgt := 53) (aw_d q_Tx_takeAll 13 rfl) (by decide) (by omega) (by omega) (fun c22 => ?_) (fun c22 => by exfalso; omega)
    refine aw_iconst (v := nI 1) (aw_d q_Tx_takeAll 28 rfl) (by decide) ?_
    exact aw_zret (aw_d q_Tx_takeAll 29 rfl) rfl (rfl) (⟨k, A, rfl, by omega, by rw [if_pos ⟨h20, e⟩], fun _ _ => ⟨by omega, fun i hi => e1 i (by omega)⟩⟩)
  | succ m ih =>
    intro k A hk e e1
    refine aw_iload_n (aw_d q_Tx_takeAll 10 rfl) rfl rfl ?_
    refine aw_aload_n (aw_d q_Tx_takeAll 11 rfl) rfl rfl rfl ?_
    refine aw_getf (v := .int (nI (n))) (aw_d q_Tx_takeAll 12 rfl) fL_Tx_22_By rfl (gk hn) ?_
    refine aw_icmpN_ge (tgt := 53) (aw_d q_Tx_takeAll 13 rfl) (by decide) (by omega) (by omega) (fun c22 => by exfalso; omega) (fun c22 => ?_)
    refine aw_aload_n (aw_d q_Tx_takeAll 14 rfl) rfl rfl rfl ?_
    refine aw_iload_n (aw_d q_Tx_takeAll 15 rfl) rfl rfl ?_
    refine cVr (aw_d q_Tx_takeAll 16 rfl) (sp_By_get_1 (n := n) (k := k) hn h3 (by omega)) vL_Tx_25_By rfl rfl rfl rfl rfl rfl ⟨aw_le rfl, aw_le rfl⟩ ?_
    refine cSr (aw_d q_Tx_takeAll 17 rfl) (sp_RF_isTextByte) sL_Tx_29 rfl rfl rfl rfl ⟨aw_le rfl, aw_le rfl⟩ ?_
    refine aw_ifB_ne (tgt := 38) (aw_d q_Tx_takeAll 18 rfl) (by decide) (fun c33 => ?_) (fun c33 => ?_)
    · refine aw_aload_n (aw_d q_Tx_takeAll 21 rfl) rfl rfl rfl ?_
      refine aw_aload_n (aw_d q_Tx_takeAll 22 rfl) rfl rfl rfl ?_
      refine aw_iload_n (aw_d q_Tx_takeAll 23 rfl) rfl rfl ?_
      refine cVr (aw_d q_Tx_takeAll 24 rfl) (sp_By_get_1 (n := n) (k := k) hn h3 (by omega)) vL_Tx_25_By rfl rfl rfl rfl rfl rfl ⟨aw_le rfl, aw_le rfl⟩ ?_
      refine cVv (aw_d q_Tx_takeAll 25 rfl) (sp_Tx_add_7 (n := k) rfl (by omega)) vL_Tx_33_Tx rfl rfl rfl rfl rfl rfl ⟨aw_le rfl, aw_le rfl⟩ ?_
      refine aw_iinc (aw_d q_Tx_takeAll 26 rfl) rfl (ii1 _) (aw_le rfl) rfl ?_
      refine aw_goto (tgt := 17) (aw_d q_Tx_takeAll 27 rfl) (by decide) ?_
      refine AW.to (ih (k + 1) (upd A k (S.2 2 k)) (by omega) (e.trans (by simp only [allB]; rw [show pTx (S.2 2 k) = true from c33]; rfl)) (fun i hi => ?_)) rfl rfl rfl rfl
      by_cases hik : i = k
      · rw [hik]; exact pk_us
      · rw [pk_un hik]; exact e1 i (by omega)
    · refine aw_iconst (v := nI 0) (aw_d q_Tx_takeAll 19 rfl) (by decide) ?_
      exact aw_zret (aw_d q_Tx_takeAll 20 rfl) rfl (rfl) (⟨k, A, rfl, by omega, by rw [if_neg (fun q => ?_)]; have c33 : ¬ pTx (S.2 2 k) = true := c33; have q := e.symm.trans q.2; simp only [allB] at q; rw [Bool.and_eq_true] at q; exact c33 q.1, fun _ q => absurd (e.symm.trans q) (by simp only [allB]; rw [Bool.and_eq_true]; exact fun z => c33 z.1)⟩)
set_option maxRecDepth 20000 in
theorem sp_Tx_takeAll {g : aw_G} {S : aw_S} {n : Nat} (hn : S.1 101 = nI n) (h3 : n ≤ 3000) : Sp g M_Tx_takeAll 2 40 0 0 [.ref 7, .ref 1] (HP S) (fun r h => ∃ (m : Nat) (A : Nat → Int32), h = HP (si (sa S 8 A) 701 (nI m)) ∧ m ≤ 20 ∧ r = some (.int (if n ≤ 20 ∧ allB pTx (S.2 2) n 0 = true then nI 1 else nI 0)) ∧ (n ≤ 20 → allB pTx (S.2 2) n 0 = true → m = n ∧ ∀ i, i < n → A i = S.2 2 i)) := by
  refine Sp.of rfl (aw_le rfl) ?_
  refine aw_aload_n (aw_d q_Tx_takeAll 0 rfl) rfl rfl rfl ?_
  refine cVv (aw_d q_Tx_takeAll 1 rfl) (sp_Tx_empty_7) vL_Tx_19_Tx rfl rfl rfl rfl rfl rfl ⟨aw_le rfl, aw_le rfl⟩ ?_
  refine aw_aload_n (aw_d q_Tx_takeAll 2 rfl) rfl rfl rfl ?_
  refine aw_getf (v := .int (nI (n))) (aw_d q_Tx_takeAll 3 rfl) fL_Tx_22_By rfl (gk hn) ?_
  refine aw_bipush (v := nI 20) (aw_d q_Tx_takeAll 4 rfl) (by decide) ?_
  refine aw_icmpN_le (tgt := 15) (aw_d q_Tx_takeAll 5 rfl) (by decide) (by omega) (by omega) (fun c10 => ?_) (fun c10 => ?_)
  · refine aw_iconst (v := nI 0) (aw_d q_Tx_takeAll 8 rfl) (by decide) ?_
    refine aw_istore_n (aw_d q_Tx_takeAll 9 rfl) rfl (aw_le rfl) rfl ?_
    exact AW.to (lp_Tx_takeAll hn h3 c10 n 0 (S.2 8) (by omega) rfl (fun i hi => by omega)) rfl rfl rfl rfl
  · refine aw_iconst (v := nI 0) (aw_d q_Tx_takeAll 6 rfl) (by decide) ?_
    exact aw_zret (aw_d q_Tx_takeAll 7 rfl) rfl (rfl) (⟨0, S.2 8, rfl, by omega, by rw [if_neg (by omega)], fun q => by omega⟩)
theorem m1_ne {t : Nat} (h : t < 2147483648) : (nI t).toInt ≠ (-1 : Int32).toInt := by rw [nI_toInt h, show (-1 : Int32).toInt = -1 by decide]; omega
theorem sp_Te_findS_7 {g : aw_G} {S : aw_S} {nt : Nat} {tl : Nat → Nat} (hT : TeI S nt tl) {n : Nat} {kk ee : Int32} (hn : S.1 701 = nI n) (h3 : n ≤ 20) {t : Nat} (hf : fdB (tmB (S.2 10) (S.2 11) (S.2 12) (S.2 13) kk ee n (S.2 8)) nt 0 = some t) : Sp g M_Te_find 2 45 0 0 [.ref 9, .int kk, .int ee, .ref 7] (HP S) (fun r h => r = some (.int (nI t)) ∧ h = HP S) := by
  have z := sp_Te_find_7 (g := g) (kk := kk) (ee := ee) hT hn h3
  rw [hf] at z
  exact z
theorem sp_Te_findN_7 {g : aw_G} {S : aw_S} {nt : Nat} {tl : Nat → Nat} (hT : TeI S nt tl) {n : Nat} {kk ee : Int32} (hn : S.1 701 = nI n) (h3 : n ≤ 20) (hf : fdB (tmB (S.2 10) (S.2 11) (S.2 12) (S.2 13) kk ee n (S.2 8)) nt 0 = none) : Sp g M_Te_find 2 45 0 0 [.ref 9, .int kk, .int ee, .ref 7] (HP S) (fun r h => r = some (.int (-1)) ∧ h = HP S) := by
  have z := sp_Te_find_7 (g := g) (kk := kk) (ee := ee) hT hn h3
  rw [hf] at z
  exact z
set_option maxRecDepth 20000 in
theorem sp_Te_numberOfS_7 {g : aw_G} {S : aw_S} {nt : Nat} {tl : Nat → Nat} (hT : TeI S nt tl) {n : Nat} {kk ee : Int32} (hn : S.1 701 = nI n) (h3 : n ≤ 20) {t : Nat} (hf : fdB (tmB (S.2 10) (S.2 11) (S.2 12) (S.2 13) kk ee n (S.2 8)) nt 0 = some t) : Sp g M_Te_numberOf 3 69 0 0 [.ref 9, .int kk, .int ee, .ref 7] (HP S) (fun r h => r = some (.int (nI t)) ∧ h = HP S) := by
  refine Sp.of rfl (aw_le rfl) ?_
  have htn := fdB_some hf
  have hti := nI_toInt (n := t) (by (have hT2 := hT.2.1; omega))
  refine aw_aload_n (aw_d q_Te_numberOf 0 rfl) rfl rfl rfl ?_
  refine aw_iload_n (aw_d q_Te_numberOf 1 rfl) rfl rfl ?_
  refine aw_iload_n (aw_d q_Te_numberOf 2 rfl) rfl rfl ?_
  refine aw_aload_n (aw_d q_Te_numberOf 3 rfl) rfl rfl rfl ?_
  refine cVr (aw_d q_Te_numberOf 4 rfl) (sp_Te_findS_7 hT hn h3 hf) vL_Te_54_Te rfl rfl rfl rfl rfl rfl ⟨aw_le rfl, aw_le rfl⟩ ?_
  refine aw_istore (aw_d q_Te_numberOf 5 rfl) (aw_le rfl) rfl ?_
  refine aw_iload (aw_d q_Te_numberOf 6 rfl) rfl ?_
  refine aw_iconst (v := (-1)) (aw_d q_Te_numberOf 7 rfl) (by decide) ?_
  refine aw_icmpZ_ne (tgt := 32) (aw_d q_Te_numberOf 8 rfl) (by decide) (fun c12 => ?_) (fun c12 => by exact absurd c12 (m1_ne (by (have hT2 := hT.2.1; omega))))
  refine aw_iload (aw_d q_Te_numberOf 16 rfl) rfl ?_
  exact aw_iret (aw_d q_Te_numberOf 17 rfl) rfl (⟨rfl, rfl⟩)
set_option maxRecDepth 20000 in
theorem lp_Te_numberOf_7 {g : aw_G} {S : aw_S} {nt : Nat} {tl : Nat → Nat} (hT : TeI S nt tl) {n : Nat} {kk ee : Int32} (hn : S.1 701 = nI n) (h3 : n ≤ 20) (h204 : nt < 204) : ∀ (m k : Nat) (BD : Nat → Int32) (x4 : Int32), m + k = n → (∀ i, i < k → BD (nt * 20 + i) = S.2 8 i) → (∀ j, j < nt * 20 → BD j = S.2 13 j) → AW g M_Te_numberOf (aw_rm 3 69 0 0) (aw_F g 0 0 (fun r h => r = some (.int (nI nt)) ∧ ∃ BD : Nat → Int32, h = HP (si (sa (sa (sa (sa S 10 (upd (S.2 10) nt kk)) 11 (upd (S.2 11) nt ee)) 12 (upd (S.2 12) nt (nI n))) 13 BD) 904 (nI (nt + 1))) ∧ (∀ i, i < n → BD (nt * 20 + i) = S.2 8 i) ∧ ∀ j, j < nt * 20 → BD j = S.2 13 j)) 71 [some (.ref 9), some (.int kk), some (.int ee), some (.ref 7), some (.int x4), some (.int (nI k))] [] (HP (sa (sa (sa (sa S 10 (upd (S.2 10) nt kk)) 11 (upd (S.2 11) nt ee)) 12 (upd (S.2 12) nt (nI n))) 13 BD)) 0 0 := by
  intro m
  induction m with
  | zero =>
    intro k BD x4 hk e1 e2
    refine aw_iload (aw_d q_Te_numberOf 39 rfl) rfl ?_
    refine aw_aload_n (aw_d q_Te_numberOf 40 rfl) rfl rfl rfl ?_
    refine aw_getf (v := .int (nI (n))) (aw_d q_Te_numberOf 41 rfl) fL_Te_42_Tx rfl (gk hn) ?_
    refine aw_icmpN_ge (tgt := 114) (aw_d q_Te_numberOf 42 rfl) (by decide) (by (have hT2 := hT.2.1; omega)) (by (have hT2 := hT.2.1; omega)) (fun c77 => ?_) (fun c77 => by exfalso; (have hT2 := hT.2.1; omega))
    refine aw_aload_n (aw_d q_Te_numberOf 60 rfl) rfl rfl rfl ?_
    refine aw_dup (aw_d q_Te_numberOf 61 rfl) rfl ?_
    refine aw_getf (v := .int (nI (nt))) (aw_d q_Te_numberOf 62 rfl) fL_Te_24_Te rfl (gk hT.1) ?_
    refine aw_iconst (v := nI 1) (aw_d q_Te_numberOf 63 rfl) (by decide) ?_
    refine aw_iaddN (aw_d q_Te_numberOf 64 rfl) ?_
    refine wi_9_4 (aw_d q_Te_numberOf 65 rfl) pL_Te_24_Te ?_
    refine aw_aload_n (aw_d q_Te_numberOf 66 rfl) rfl rfl rfl ?_
    refine aw_getf (v := .int (nI ((nt + 1)))) (aw_d q_Te_numberOf 67 rfl) fL_Te_24_Te rfl (gk rfl) ?_
    refine aw_iconst (v := nI 1) (aw_d q_Te_numberOf 68 rfl) (by decide) ?_
    refine aw_isubN (aw_d q_Te_numberOf 69 rfl) (by (have hT2 := hT.2.1; omega)) ?_
    exact aw_iret (aw_d q_Te_numberOf 70 rfl) rfl (⟨rfl, BD, rfl, fun i hi => e1 i (by omega), e2⟩)
  | succ m ih =>
    intro k BD x4 hk e1 e2
    refine aw_iload (aw_d q_Te_numberOf 39 rfl) rfl ?_
    refine aw_aload_n (aw_d q_Te_numberOf 40 rfl) rfl rfl rfl ?_
    refine aw_getf (v := .int (nI (n))) (aw_d q_Te_numberOf 41 rfl) fL_Te_42_Tx rfl (gk hn) ?_
    refine aw_icmpN_ge (tgt := 114) (aw_d q_Te_numberOf 42 rfl) (by decide) (by (have hT2 := hT.2.1; omega)) (by (have hT2 := hT.2.1; omega)) (fun c77 => by exfalso; (have hT2 := hT.2.1; omega)) (fun c77 => ?_)
    refine aw_iload (aw_d q_Te_numberOf 43 rfl) rfl ?_
    refine aw_bipush (v := nI 20) (aw_d q_Te_numberOf 44 rfl) (by decide) ?_
    refine aw_icmpN_ge (tgt := 114) (aw_d q_Te_numberOf 45 rfl) (by decide) (by (have hT2 := hT.2.1; omega)) (by (have hT2 := hT.2.1; omega)) (fun c84 => by exfalso; (have hT2 := hT.2.1; omega)) (fun c84 => ?_)
    refine aw_aload_n (aw_d q_Te_numberOf 46 rfl) rfl rfl rfl ?_
    refine aw_getf (aw_d q_Te_numberOf 47 rfl) fL_Te_21_Te rfl rfl ?_
    refine aw_aload_n (aw_d q_Te_numberOf 48 rfl) rfl rfl rfl ?_
    refine aw_getf (v := .int (nI (nt))) (aw_d q_Te_numberOf 49 rfl) fL_Te_24_Te rfl (gk hT.1) ?_
    refine aw_bipush (v := nI 20) (aw_d q_Te_numberOf 50 rfl) (by decide) ?_
    refine aw_imulN (aw_d q_Te_numberOf 51 rfl) ?_
    refine aw_iload (aw_d q_Te_numberOf 52 rfl) rfl ?_
    refine aw_iaddN (aw_d q_Te_numberOf 53 rfl) ?_
    refine aw_aload_n (aw_d q_Te_numberOf 54 rfl) rfl rfl rfl ?_
    refine aw_iload (aw_d q_Te_numberOf 55 rfl) rfl ?_
    refine cVr (aw_d q_Te_numberOf 56 rfl) (sp_Tx_get_7 (n := n) (k := k) hn h3 (by omega)) vL_Te_51_Tx rfl rfl rfl rfl rfl rfl ⟨aw_le rfl, aw_le rfl⟩ ?_
    refine wn_13 (aw_d q_Te_numberOf 57 rfl) (by (have hT2 := hT.2.1; omega)) ?_
    refine aw_iinc (aw_d q_Te_numberOf 58 rfl) rfl (ii1 _) (aw_le rfl) rfl ?_
    refine aw_goto (tgt := 71) (aw_d q_Te_numberOf 59 rfl) (by decide) ?_
    refine AW.to (ih (k + 1) (upd BD (nt * 20 + k) (S.2 8 k)) x4 (by omega) (fun i hi => ?_) (fun j hj => ?_)) rfl rfl rfl rfl
    · by_cases hik : i = k
      · rw [hik]; exact pk_us
      · rw [pk_un (by omega)]; exact e1 i (by omega)
    · rw [pk_un (by omega)]; exact e2 j hj
set_option maxRecDepth 20000 in
theorem sp_Te_numberOfN_7 {g : aw_G} {S : aw_S} {nt : Nat} {tl : Nat → Nat} (hT : TeI S nt tl) {n : Nat} {kk ee : Int32} (hn : S.1 701 = nI n) (h3 : n ≤ 20) (hf : fdB (tmB (S.2 10) (S.2 11) (S.2 12) (S.2 13) kk ee n (S.2 8)) nt 0 = none) (h204 : nt < 204) : Sp g M_Te_numberOf 3 69 0 0 [.ref 9, .int kk, .int ee, .ref 7] (HP S) (fun r h => r = some (.int (nI nt)) ∧ ∃ BD : Nat → Int32, h = HP (si (sa (sa (sa (sa S 10 (upd (S.2 10) nt kk)) 11 (upd (S.2 11) nt ee)) 12 (upd (S.2 12) nt (nI n))) 13 BD) 904 (nI (nt + 1))) ∧ (∀ i, i < n → BD (nt * 20 + i) = S.2 8 i) ∧ ∀ j, j < nt * 20 → BD j = S.2 13 j) := by
  refine Sp.of rfl (aw_le rfl) ?_
  refine aw_aload_n (aw_d q_Te_numberOf 0 rfl) rfl rfl rfl ?_
  refine aw_iload_n (aw_d q_Te_numberOf 1 rfl) rfl rfl ?_
  refine aw_iload_n (aw_d q_Te_numberOf 2 rfl) rfl rfl ?_
  refine aw_aload_n (aw_d q_Te_numberOf 3 rfl) rfl rfl rfl ?_
  refine cVr (aw_d q_Te_numberOf 4 rfl) (sp_Te_findN_7 hT hn h3 hf) vL_Te_54_Te rfl rfl rfl rfl rfl rfl ⟨aw_le rfl, aw_le rfl⟩ ?_
  refine aw_istore (aw_d q_Te_numberOf 5 rfl) (aw_le rfl) rfl ?_
  refine aw_iload (aw_d q_Te_numberOf 6 rfl) rfl ?_
  refine aw_iconst (v := (-1)) (aw_d q_Te_numberOf 7 rfl) (by decide) ?_
  refine aw_icmpZ_ne (tgt := 32) (aw_d q_Te_numberOf 8 rfl) (by decide) (fun c12 => by exact absurd rfl c12) (fun c12 => ?_)
  refine aw_aload_n (aw_d q_Te_numberOf 9 rfl) rfl rfl rfl ?_
  refine aw_getf (v := .int (nI (nt))) (aw_d q_Te_numberOf 10 rfl) fL_Te_24_Te rfl (gk hT.1) ?_
  refine aw_ifN_lt (tgt := 32) (aw_d q_Te_numberOf 11 rfl) (by decide) (by (have hT2 := hT.2.1; omega)) (fun c19 => by exfalso; (have hT2 := hT.2.1; omega)) (fun c19 => ?_)
  refine aw_aload_n (aw_d q_Te_numberOf 12 rfl) rfl rfl rfl ?_
  refine aw_getf (v := .int (nI (nt))) (aw_d q_Te_numberOf 13 rfl) fL_Te_24_Te rfl (gk hT.1) ?_
  refine aw_sipush (v := nI 204) (aw_d q_Te_numberOf 14 rfl) (by decide) ?_
  refine aw_icmpN_lt (tgt := 35) (aw_d q_Te_numberOf 15 rfl) (by decide) (by (have hT2 := hT.2.1; omega)) (by (have hT2 := hT.2.1; omega)) (fun c29 => ?_) (fun c29 => by exfalso; (have hT2 := hT.2.1; omega))
  refine aw_aload_n (aw_d q_Te_numberOf 18 rfl) rfl rfl rfl ?_
  refine aw_getf (aw_d q_Te_numberOf 19 rfl) fL_Te_11_Te rfl rfl ?_
  refine aw_aload_n (aw_d q_Te_numberOf 20 rfl) rfl rfl rfl ?_
  refine aw_getf (v := .int (nI (nt))) (aw_d q_Te_numberOf 21 rfl) fL_Te_24_Te rfl (gk hT.1) ?_
  refine aw_iload_n (aw_d q_Te_numberOf 22 rfl) rfl rfl ?_
  refine wn_10 (aw_d q_Te_numberOf 23 rfl) (by (have hT2 := hT.2.1; omega)) ?_
  refine aw_aload_n (aw_d q_Te_numberOf 24 rfl) rfl rfl rfl ?_
  refine aw_getf (aw_d q_Te_numberOf 25 rfl) fL_Te_15_Te rfl rfl ?_
  refine aw_aload_n (aw_d q_Te_numberOf 26 rfl) rfl rfl rfl ?_
  refine aw_getf (v := .int (nI (nt))) (aw_d q_Te_numberOf 27 rfl) fL_Te_24_Te rfl (gk hT.1) ?_
  refine aw_iload_n (aw_d q_Te_numberOf 28 rfl) rfl rfl ?_
  refine wn_11 (aw_d q_Te_numberOf 29 rfl) (by (have hT2 := hT.2.1; omega)) ?_
  refine aw_aload_n (aw_d q_Te_numberOf 30 rfl) rfl rfl rfl ?_
  refine aw_getf (aw_d q_Te_numberOf 31 rfl) fL_Te_18_Te rfl rfl ?_
  refine aw_aload_n (aw_d q_Te_numberOf 32 rfl) rfl rfl rfl ?_
  refine aw_getf (v := .int (nI (nt))) (aw_d q_Te_numberOf 33 rfl) fL_Te_24_Te rfl (gk hT.1) ?_
  refine aw_aload_n (aw_d q_Te_numberOf 34 rfl) rfl rfl rfl ?_
  refine aw_getf (v := .int (nI (n))) (aw_d q_Te_numberOf 35 rfl) fL_Te_42_Tx rfl (gk hn) ?_
  refine wn_12 (aw_d q_Te_numberOf 36 rfl) (by (have hT2 := hT.2.1; omega)) ?_
  refine aw_iconst (v := nI 0) (aw_d q_Te_numberOf 37 rfl) (by decide) ?_
  refine aw_istore (aw_d q_Te_numberOf 38 rfl) (aw_le rfl) rfl ?_
  exact AW.to (lp_Te_numberOf_7 hT hn h3 h204 n 0 (S.2 13) _ (by omega) (fun i hi => by omega) (fun j hj => rfl)) rfl rfl rfl rfl
theorem sp_Te_findS_27 {g : aw_G} {S : aw_S} {nt : Nat} {tl : Nat → Nat} (hT : TeI S nt tl) {n : Nat} {kk ee : Int32} (hn : S.1 2701 = nI n) (h3 : n ≤ 20) {t : Nat} (hf : fdB (tmB (S.2 10) (S.2 11) (S.2 12) (S.2 13) kk ee n (S.2 28)) nt 0 = some t) : Sp g M_Te_find 2 45 0 0 [.ref 9, .int kk, .int ee, .ref 27] (HP S) (fun r h => r = some (.int (nI t)) ∧ h = HP S) := by
  have z := sp_Te_find_27 (g := g) (kk := kk) (ee := ee) hT hn h3
  rw [hf] at z
  exact z
theorem sp_Te_findN_27 {g : aw_G} {S : aw_S} {nt : Nat} {tl : Nat → Nat} (hT : TeI S nt tl) {n : Nat} {kk ee : Int32} (hn : S.1 2701 = nI n) (h3 : n ≤ 20) (hf : fdB (tmB (S.2 10) (S.2 11) (S.2 12) (S.2 13) kk ee n (S.2 28)) nt 0 = none) : Sp g M_Te_find 2 45 0 0 [.ref 9, .int kk, .int ee, .ref 27] (HP S) (fun r h => r = some (.int (-1)) ∧ h = HP S) := by
  have z := sp_Te_find_27 (g := g) (kk := kk) (ee := ee) hT hn h3
  rw [hf] at z
  exact z
set_option maxRecDepth 20000 in
theorem sp_Te_numberOfS_27 {g : aw_G} {S : aw_S} {nt : Nat} {tl : Nat → Nat} (hT : TeI S nt tl) {n : Nat} {kk ee : Int32} (hn : S.1 2701 = nI n) (h3 : n ≤ 20) {t : Nat} (hf : fdB (tmB (S.2 10) (S.2 11) (S.2 12) (S.2 13) kk ee n (S.2 28)) nt 0 = some t) : Sp g M_Te_numberOf 3 69 0 0 [.ref 9, .int kk, .int ee, .ref 27] (HP S) (fun r h => r = some (.int (nI t)) ∧ h = HP S) := by
  refine Sp.of rfl (aw_le rfl) ?_
  have htn := fdB_some hf
  have hti := nI_toInt (n := t) (by (have hT2 := hT.2.1; omega))
  refine aw_aload_n (aw_d q_Te_numberOf 0 rfl) rfl rfl rfl ?_
  refine aw_iload_n (aw_d q_Te_numberOf 1 rfl) rfl rfl ?_
  refine aw_iload_n (aw_d q_Te_numberOf 2 rfl) rfl rfl ?_
  refine aw_aload_n (aw_d q_Te_numberOf 3 rfl) rfl rfl rfl ?_
  refine cVr (aw_d q_Te_numberOf 4 rfl) (sp_Te_findS_27 hT hn h3 hf) vL_Te_54_Te rfl rfl rfl rfl rfl rfl ⟨aw_le rfl, aw_le rfl⟩ ?_
  refine aw_istore (aw_d q_Te_numberOf 5 rfl) (aw_le rfl) rfl ?_
  refine aw_iload (aw_d q_Te_numberOf 6 rfl) rfl ?_
  refine aw_iconst (v := (-1)) (aw_d q_Te_numberOf 7 rfl) (by decide) ?_
  refine aw_icmpZ_ne (tgt := 32) (aw_d q_Te_numberOf 8 rfl) (by decide) (fun c12 => ?_) (fun c12 => by exact absurd c12 (m1_ne (by (have hT2 := hT.2.1; omega))))
  refine aw_iload (aw_d q_Te_numberOf 16 rfl) rfl ?_
  exact aw_iret (aw_d q_Te_numberOf 17 rfl) rfl (⟨rfl, rfl⟩)
set_option maxRecDepth 20000 in
theorem lp_Te_numberOf_27 {g : aw_G} {S : aw_S} {nt : Nat} {tl : Nat → Nat} (hT : TeI S nt tl) {n : Nat} {kk ee : Int32} (hn : S.1 2701 = nI n) (h3 : n ≤ 20) (h204 : nt < 204) : ∀ (m k : Nat) (BD : Nat → Int32) (x4 : Int32), m + k = n → (∀ i, i < k → BD (nt * 20 + i) = S.2 28 i) → (∀ j, j < nt * 20 → BD j = S.2 13 j) → AW g M_Te_numberOf (aw_rm 3 69 0 0) (aw_F g 0 0 (fun r h => r = some (.int (nI nt)) ∧ ∃ BD : Nat → Int32, h = HP (si (sa (sa (sa (sa S 10 (upd (S.2 10) nt kk)) 11 (upd (S.2 11) nt ee)) 12 (upd (S.2 12) nt (nI n))) 13 BD) 904 (nI (nt + 1))) ∧ (∀ i, i < n → BD (nt * 20 + i) = S.2 28 i) ∧ ∀ j, j < nt * 20 → BD j = S.2 13 j)) 71 [some (.ref 9), some (.int kk), some (.int ee), some (.ref 27), some (.int x4), some (.int (nI k))] [] (HP (sa (sa (sa (sa S 10 (upd (S.2 10) nt kk)) 11 (upd (S.2 11) nt ee)) 12 (upd (S.2 12) nt (nI n))) 13 BD)) 0 0 := by
  intro m
  induction m with
  | zero =>
    intro k BD x4 hk e1 e2
    refine aw_iload (aw_d q_Te_numberOf 39 rfl) rfl ?_
    refine aw_aload_n (aw_d q_Te_numberOf 40 rfl) rfl rfl rfl ?_
    refine aw_getf (v := .int (nI (n))) (aw_d q_Te_numberOf 41 rfl) fL_Te_42_Tx rfl (gk hn) ?_
    refine aw_icmpN_ge (tgt := 114) (aw_d q_Te_numberOf 42 rfl) (by decide) (by (have hT2 := hT.2.1; omega)) (by (have hT2 := hT.2.1; omega)) (fun c77 => ?_) (fun c77 => by exfalso; (have hT2 := hT.2.1; omega))
    refine aw_aload_n (aw_d q_Te_numberOf 60 rfl) rfl rfl rfl ?_
    refine aw_dup (aw_d q_Te_numberOf 61 rfl) rfl ?_
    refine aw_getf (v := .int (nI (nt))) (aw_d q_Te_numberOf 62 rfl) fL_Te_24_Te rfl (gk hT.1) ?_
    refine aw_iconst (v := nI 1) (aw_d q_Te_numberOf 63 rfl) (by decide) ?_
    refine aw_iaddN (aw_d q_Te_numberOf 64 rfl) ?_
    refine wi_9_4 (aw_d q_Te_numberOf 65 rfl) pL_Te_24_Te ?_
    refine aw_aload_n (aw_d q_Te_numberOf 66 rfl) rfl rfl rfl ?_
    refine aw_getf (v := .int (nI ((nt + 1)))) (aw_d q_Te_numberOf 67 rfl) fL_Te_24_Te rfl (gk rfl) ?_
    refine aw_iconst (v := nI 1) (aw_d q_Te_numberOf 68 rfl) (by decide) ?_
    refine aw_isubN (aw_d q_Te_numberOf 69 rfl) (by (have hT2 := hT.2.1; omega)) ?_
    exact aw_iret (aw_d q_Te_numberOf 70 rfl) rfl (⟨rfl, BD, rfl, fun i hi => e1 i (by omega), e2⟩)
  | succ m ih =>
    intro k BD x4 hk e1 e2
    refine aw_iload (aw_d q_Te_numberOf 39 rfl) rfl ?_
    refine aw_aload_n (aw_d q_Te_numberOf 40 rfl) rfl rfl rfl ?_
    refine aw_getf (v := .int (nI (n))) (aw_d q_Te_numberOf 41 rfl) fL_Te_42_Tx rfl (gk hn) ?_
    refine aw_icmpN_ge (tgt := 114) (aw_d q_Te_numberOf 42 rfl) (by decide) (by (have hT2 := hT.2.1; omega)) (by (have hT2 := hT.2.1; omega)) (fun c77 => by exfalso; (have hT2 := hT.2.1; omega)) (fun c77 => ?_)
    refine aw_iload (aw_d q_Te_numberOf 43 rfl) rfl ?_
    refine aw_bipush (v := nI 20) (aw_d q_Te_numberOf 44 rfl) (by decide) ?_
    refine aw_icmpN_ge (tgt := 114) (aw_d q_Te_numberOf 45 rfl) (by decide) (by (have hT2 := hT.2.1; omega)) (by (have hT2 := hT.2.1; omega)) (fun c84 => by exfalso; (have hT2 := hT.2.1; omega)) (fun c84 => ?_)
    refine aw_aload_n (aw_d q_Te_numberOf 46 rfl) rfl rfl rfl ?_
    refine aw_getf (aw_d q_Te_numberOf 47 rfl) fL_Te_21_Te rfl rfl ?_
    refine aw_aload_n (aw_d q_Te_numberOf 48 rfl) rfl rfl rfl ?_
    refine aw_getf (v := .int (nI (nt))) (aw_d q_Te_numberOf 49 rfl) fL_Te_24_Te rfl (gk hT.1) ?_
    refine aw_bipush (v := nI 20) (aw_d q_Te_numberOf 50 rfl) (by decide) ?_
    refine aw_imulN (aw_d q_Te_numberOf 51 rfl) ?_
    refine aw_iload (aw_d q_Te_numberOf 52 rfl) rfl ?_
    refine aw_iaddN (aw_d q_Te_numberOf 53 rfl) ?_
    refine aw_aload_n (aw_d q_Te_numberOf 54 rfl) rfl rfl rfl ?_
    refine aw_iload (aw_d q_Te_numberOf 55 rfl) rfl ?_
    refine cVr (aw_d q_Te_numberOf 56 rfl) (sp_Tx_get_27 (n := n) (k := k) hn h3 (by omega)) vL_Te_51_Tx rfl rfl rfl rfl rfl rfl ⟨aw_le rfl, aw_le rfl⟩ ?_
    refine wn_13 (aw_d q_Te_numberOf 57 rfl) (by (have hT2 := hT.2.1; omega)) ?_
    refine aw_iinc (aw_d q_Te_numberOf 58 rfl) rfl (ii1 _) (aw_le rfl) rfl ?_
    refine aw_goto (tgt := 71) (aw_d q_Te_numberOf 59 rfl) (by decide) ?_
    refine AW.to (ih (k + 1) (upd BD (nt * 20 + k) (S.2 28 k)) x4 (by omega) (fun i hi => ?_) (fun j hj => ?_)) rfl rfl rfl rfl
    · by_cases hik : i = k
      · rw [hik]; exact pk_us
      · rw [pk_un (by omega)]; exact e1 i (by omega)
    · rw [pk_un (by omega)]; exact e2 j hj
set_option maxRecDepth 20000 in
theorem sp_Te_numberOfN_27 {g : aw_G} {S : aw_S} {nt : Nat} {tl : Nat → Nat} (hT : TeI S nt tl) {n : Nat} {kk ee : Int32} (hn : S.1 2701 = nI n) (h3 : n ≤ 20) (hf : fdB (tmB (S.2 10) (S.2 11) (S.2 12) (S.2 13) kk ee n (S.2 28)) nt 0 = none) (h204 : nt < 204) : Sp g M_Te_numberOf 3 69 0 0 [.ref 9, .int kk, .int ee, .ref 27] (HP S) (fun r h => r = some (.int (nI nt)) ∧ ∃ BD : Nat → Int32, h = HP (si (sa (sa (sa (sa S 10 (upd (S.2 10) nt kk)) 11 (upd (S.2 11) nt ee)) 12 (upd (S.2 12) nt (nI n))) 13 BD) 904 (nI (nt + 1))) ∧ (∀ i, i < n → BD (nt * 20 + i) = S.2 28 i) ∧ ∀ j, j < nt * 20 → BD j = S.2 13 j) := by
  refine Sp.of rfl (aw_le rfl) ?_
  refine aw_aload_n (aw_d q_Te_numberOf 0 rfl) rfl rfl rfl ?_
  refine aw_iload_n (aw_d q_Te_numberOf 1 rfl) rfl rfl ?_
  refine aw_iload_n (aw_d q_Te_numberOf 2 rfl) rfl rfl ?_
  refine aw_aload_n (aw_d q_Te_numberOf 3 rfl) rfl rfl rfl ?_
  refine cVr (aw_d q_Te_numberOf 4 rfl) (sp_Te_findN_27 hT hn h3 hf) vL_Te_54_Te rfl rfl rfl rfl rfl rfl ⟨aw_le rfl, aw_le rfl⟩ ?_
  refine aw_istore (aw_d q_Te_numberOf 5 rfl) (aw_le rfl) rfl ?_
  refine aw_iload (aw_d q_Te_numberOf 6 rfl) rfl ?_
  refine aw_iconst (v := (-1)) (aw_d q_Te_numberOf 7 rfl) (by decide) ?_
  refine aw_icmpZ_ne (tgt := 32) (aw_d q_Te_numberOf 8 rfl) (by decide) (fun c12 => by exact absurd rfl c12) (fun c12 => ?_)
  refine aw_aload_n (aw_d q_Te_numberOf 9 rfl) rfl rfl rfl ?_
  refine aw_getf (v := .int (nI (nt))) (aw_d q_Te_numberOf 10 rfl) fL_Te_24_Te rfl (gk hT.1) ?_
  refine aw_ifN_lt (tgt := 32) (aw_d q_Te_numberOf 11 rfl) (by decide) (by (have hT2 := hT.2.1; omega)) (fun c19 => by exfalso; (have hT2 := hT.2.1; omega)) (fun c19 => ?_)
  refine aw_aload_n (aw_d q_Te_numberOf 12 rfl) rfl rfl rfl ?_
  refine aw_getf (v := .int (nI (nt))) (aw_d q_Te_numberOf 13 rfl) fL_Te_24_Te rfl (gk hT.1) ?_
  refine aw_sipush (v := nI 204) (aw_d q_Te_numberOf 14 rfl) (by decide) ?_
  refine aw_icmpN_lt (tgt := 35) (aw_d q_Te_numberOf 15 rfl) (by decide) (by (have hT2 := hT.2.1; omega)) (by (have hT2 := hT.2.1; omega)) (fun c29 => ?_) (fun c29 => by exfalso; (have hT2 := hT.2.1; omega))
  refine aw_aload_n (aw_d q_Te_numberOf 18 rfl) rfl rfl rfl ?_
  refine aw_getf (aw_d q_Te_numberOf 19 rfl) fL_Te_11_Te rfl rfl ?_
  refine aw_aload_n (aw_d q_Te_numberOf 20 rfl) rfl rfl rfl ?_
  refine aw_getf (v := .int (nI (nt))) (aw_d q_Te_numberOf 21 rfl) fL_Te_24_Te rfl (gk hT.1) ?_
  refine aw_iload_n (aw_d q_Te_numberOf 22 rfl) rfl rfl ?_
  refine wn_10 (aw_d q_Te_numberOf 23 rfl) (by (have hT2 := hT.2.1; omega)) ?_
  refine aw_aload_n (aw_d q_Te_numberOf 24 rfl) rfl rfl rfl ?_
  refine aw_getf (aw_d q_Te_numberOf 25 rfl) fL_Te_15_Te rfl rfl ?_
  refine aw_aload_n (aw_d q_Te_numberOf 26 rfl) rfl rfl rfl ?_
  refine aw_getf (v := .int (nI (nt))) (aw_d q_Te_numberOf 27 rfl) fL_Te_24_Te rfl (gk hT.1) ?_
  refine aw_iload_n (aw_d q_Te_numberOf 28 rfl) rfl rfl ?_
  refine wn_11 (aw_d q_Te_numberOf 29 rfl) (by (have hT2 := hT.2.1; omega)) ?_
  refine aw_aload_n (aw_d q_Te_numberOf 30 rfl) rfl rfl rfl ?_
  refine aw_getf (aw_d q_Te_numberOf 31 rfl) fL_Te_18_Te rfl rfl ?_
  refine aw_aload_n (aw_d q_Te_numberOf 32 rfl) rfl rfl rfl ?_
  refine aw_getf (v := .int (nI (nt))) (aw_d q_Te_numberOf 33 rfl) fL_Te_24_Te rfl (gk hT.1) ?_
  refine aw_aload_n (aw_d q_Te_numberOf 34 rfl) rfl rfl rfl ?_
  refine aw_getf (v := .int (nI (n))) (aw_d q_Te_numberOf 35 rfl) fL_Te_42_Tx rfl (gk hn) ?_
  refine wn_12 (aw_d q_Te_numberOf 36 rfl) (by (have hT2 := hT.2.1; omega)) ?_
  refine aw_iconst (v := nI 0) (aw_d q_Te_numberOf 37 rfl) (by decide) ?_
  refine aw_istore (aw_d q_Te_numberOf 38 rfl) (aw_le rfl) rfl ?_
  exact AW.to (lp_Te_numberOf_27 hT hn h3 h204 n 0 (S.2 13) _ (by omega) (fun i hi => by omega) (fun j hj => rfl)) rfl rfl rfl rfl
/-- an extra of a kind -/
def exB (k e : Int32) : Bool := if k.toInt = 3 then decide (0 ≤ e.toInt ∧ e.toInt < 676) else if k.toInt = 4 then decide (0 ≤ e.toInt ∧ e.toInt < 4) else decide (0 ≤ k.toInt ∧ k.toInt ≤ 2 ∧ e.toInt = 0)
theorem exB_iff {k e : Int32} : exB k e = true ↔ (k.toInt = 3 ∧ 0 ≤ e.toInt ∧ e.toInt < 676) ∨ (k.toInt = 4 ∧ 0 ≤ e.toInt ∧ e.toInt < 4) ∨ (0 ≤ k.toInt ∧ k.toInt ≤ 2 ∧ e.toInt = 0) := by
  unfold exB
  split
  · rw [decide_eq_true_eq]; omega
  · split
    · rw [decide_eq_true_eq]; omega
    · rw [decide_eq_true_eq]; omega
theorem sub_nI {y : Int32} {b : Nat} (hb : b < 2147483648) (h : (b : Int) ≤ y.toInt) : y - nI b = nI (y.toInt - b).toNat := by
  have h1 : (y - nI b).toInt = y.toInt - b := by rw [Int32.toInt_sub_of_le _ _ (nI_pos' hb) ((zi_ge hb).mpr h), nI_toInt hb]
  have h2 := y.toInt_lt
  rw [← Int32.toInt_inj, h1, nI_toInt (by omega)]
  omega
set_option maxRecDepth 20000 in
theorem sp_RF_isExtra {g : aw_G} {h : aw_hp} {k e : Int32} : Sp g M_RF_isExtra 0 0 0 0 [.int k, .int e] (h) (fun r h1 => r = some (.int (if exB k e = true then nI 1 else nI 0)) ∧ h1 = h) := by
  refine Sp.of rfl (aw_le rfl) ?_
  refine aw_iload_n (aw_d q_RF_isExtra 0 rfl) rfl rfl ?_
  rcases (show k.toInt < 0 ∨ (4 : Int) < k.toInt ∨ k.toInt = 0 ∨ k.toInt = 1 ∨ k.toInt = 2 ∨ k.toInt = 3 ∨ k.toInt = 4 by omega) with hsw | hsw | hsw | hsw | hsw | hsw | hsw
  · refine aw_tableOut (tgt := 78) (aw_d q_RF_isExtra 1 rfl) (Or.inl hsw) (by decide) ?_
    refine aw_iconst (v := nI 0) (aw_d q_RF_isExtra 26 rfl) (by decide) ?_
    exact aw_zret (aw_d q_RF_isExtra 27 rfl) rfl (rfl) (⟨by first | rw [if_pos (exB_iff.mpr (by omega))] | rw [if_neg (fun q => absurd (exB_iff.mp q) (by omega))], rfl⟩)
  · refine aw_tableOut (tgt := 78) (aw_d q_RF_isExtra 1 rfl) (Or.inr hsw) (by decide) ?_
    refine aw_iconst (v := nI 0) (aw_d q_RF_isExtra 26 rfl) (by decide) ?_
    exact aw_zret (aw_d q_RF_isExtra 27 rfl) rfl (rfl) (⟨by first | rw [if_pos (exB_iff.mpr (by omega))] | rw [if_neg (fun q => absurd (exB_iff.mp q) (by omega))], rfl⟩)
  · refine aw_tableIn (tgt := 36) (aw_d q_RF_isExtra 1 rfl) (by omega) (by omega) (by rw [hsw]; rfl) (by decide) ?_
    refine aw_iload_n (aw_d q_RF_isExtra 2 rfl) rfl rfl ?_
    refine aw_ifI_ne (tgt := 44) (aw_d q_RF_isExtra 3 rfl) (by decide) (fun c37 => ?_) (fun c37 => ?_)
    · refine aw_iconst (v := nI 0) (aw_d q_RF_isExtra 6 rfl) (by decide) ?_
      exact aw_zret (aw_d q_RF_isExtra 7 rfl) rfl (rfl) (⟨by first | rw [if_pos (exB_iff.mpr (by omega))] | rw [if_neg (fun q => absurd (exB_iff.mp q) (by omega))], rfl⟩)
    · refine aw_iconst (v := nI 1) (aw_d q_RF_isExtra 4 rfl) (by decide) ?_
      refine aw_goto (tgt := 45) (aw_d q_RF_isExtra 5 rfl) (by decide) ?_
      exact aw_zret (aw_d q_RF_isExtra 7 rfl) rfl (rfl) (⟨by first | rw [if_pos (exB_iff.mpr (by omega))] | rw [if_neg (fun q => absurd (exB_iff.mp q) (by omega))], rfl⟩)
  · refine aw_tableIn (tgt := 36) (aw_d q_RF_isExtra 1 rfl) (by omega) (by omega) (by rw [hsw]; rfl) (by decide) ?_
    refine aw_iload_n (aw_d q_RF_isExtra 2 rfl) rfl rfl ?_
    refine aw_ifI_ne (tgt := 44) (aw_d q_RF_isExtra 3 rfl) (by decide) (fun c37 => ?_) (fun c37 => ?_)
    · refine aw_iconst (v := nI 0) (aw_d q_RF_isExtra 6 rfl) (by decide) ?_
      exact aw_zret (aw_d q_RF_isExtra 7 rfl) rfl (rfl) (⟨by first | rw [if_pos (exB_iff.mpr (by omega))] | rw [if_neg (fun q => absurd (exB_iff.mp q) (by omega))], rfl⟩)
    · refine aw_iconst (v := nI 1) (aw_d q_RF_isExtra 4 rfl) (by decide) ?_
      refine aw_goto (tgt := 45) (aw_d q_RF_isExtra 5 rfl) (by decide) ?_
      exact aw_zret (aw_d q_RF_isExtra 7 rfl) rfl (rfl) (⟨by first | rw [if_pos (exB_iff.mpr (by omega))] | rw [if_neg (fun q => absurd (exB_iff.mp q) (by omega))], rfl⟩)
  · refine aw_tableIn (tgt := 36) (aw_d q_RF_isExtra 1 rfl) (by omega) (by omega) (by rw [hsw]; rfl) (by decide) ?_
    refine aw_iload_n (aw_d q_RF_isExtra 2 rfl) rfl rfl ?_
    refine aw_ifI_ne (tgt := 44) (aw_d q_RF_isExtra 3 rfl) (by decide) (fun c37 => ?_) (fun c37 => ?_)
    · refine aw_iconst (v := nI 0) (aw_d q_RF_isExtra 6 rfl) (by decide) ?_
      exact aw_zret (aw_d q_RF_isExtra 7 rfl) rfl (rfl) (⟨by first | rw [if_pos (exB_iff.mpr (by omega))] | rw [if_neg (fun q => absurd (exB_iff.mp q) (by omega))], rfl⟩)
    · refine aw_iconst (v := nI 1) (aw_d q_RF_isExtra 4 rfl) (by decide) ?_
      refine aw_goto (tgt := 45) (aw_d q_RF_isExtra 5 rfl) (by decide) ?_
      exact aw_zret (aw_d q_RF_isExtra 7 rfl) rfl (rfl) (⟨by first | rw [if_pos (exB_iff.mpr (by omega))] | rw [if_neg (fun q => absurd (exB_iff.mp q) (by omega))], rfl⟩)
  · refine aw_tableIn (tgt := 46) (aw_d q_RF_isExtra 1 rfl) (by omega) (by omega) (by rw [hsw]; rfl) (by decide) ?_
    refine aw_iload_n (aw_d q_RF_isExtra 8 rfl) rfl rfl ?_
    refine aw_ifI_lt (tgt := 61) (aw_d q_RF_isExtra 9 rfl) (by decide) (fun c47 => ?_) (fun c47 => ?_)
    · refine aw_iconst (v := nI 0) (aw_d q_RF_isExtra 15 rfl) (by decide) ?_
      exact aw_zret (aw_d q_RF_isExtra 16 rfl) rfl (rfl) (⟨by first | rw [if_pos (exB_iff.mpr (by omega))] | rw [if_neg (fun q => absurd (exB_iff.mp q) (by omega))], rfl⟩)
    · refine aw_iload_n (aw_d q_RF_isExtra 10 rfl) rfl rfl ?_
      refine aw_sipush (v := nI 676) (aw_d q_RF_isExtra 11 rfl) (by decide) ?_
      refine aw_icmpI_ge (tgt := 61) (aw_d q_RF_isExtra 12 rfl) (by decide) (by omega) (fun c54 => ?_) (fun c54 => ?_)
      · refine aw_iconst (v := nI 0) (aw_d q_RF_isExtra 15 rfl) (by decide) ?_
        exact aw_zret (aw_d q_RF_isExtra 16 rfl) rfl (rfl) (⟨by first | rw [if_pos (exB_iff.mpr (by omega))] | rw [if_neg (fun q => absurd (exB_iff.mp q) (by omega))], rfl⟩)
      · refine aw_iconst (v := nI 1) (aw_d q_RF_isExtra 13 rfl) (by decide) ?_
        refine aw_goto (tgt := 62) (aw_d q_RF_isExtra 14 rfl) (by decide) ?_
        exact aw_zret (aw_d q_RF_isExtra 16 rfl) rfl (rfl) (⟨by first | rw [if_pos (exB_iff.mpr (by omega))] | rw [if_neg (fun q => absurd (exB_iff.mp q) (by omega))], rfl⟩)
  · refine aw_tableIn (tgt := 63) (aw_d q_RF_isExtra 1 rfl) (by omega) (by omega) (by rw [hsw]; rfl) (by decide) ?_
    refine aw_iload_n (aw_d q_RF_isExtra 17 rfl) rfl rfl ?_
    refine aw_ifI_lt (tgt := 76) (aw_d q_RF_isExtra 18 rfl) (by decide) (fun c64 => ?_) (fun c64 => ?_)
    · refine aw_iconst (v := nI 0) (aw_d q_RF_isExtra 24 rfl) (by decide) ?_
      exact aw_zret (aw_d q_RF_isExtra 25 rfl) rfl (rfl) (⟨by first | rw [if_pos (exB_iff.mpr (by omega))] | rw [if_neg (fun q => absurd (exB_iff.mp q) (by omega))], rfl⟩)
    · refine aw_iload_n (aw_d q_RF_isExtra 19 rfl) rfl rfl ?_
      refine aw_iconst (v := nI 4) (aw_d q_RF_isExtra 20 rfl) (by decide) ?_
      refine aw_icmpI_ge (tgt := 76) (aw_d q_RF_isExtra 21 rfl) (by decide) (by omega) (fun c69 => ?_) (fun c69 => ?_)
      · refine aw_iconst (v := nI 0) (aw_d q_RF_isExtra 24 rfl) (by decide) ?_
        exact aw_zret (aw_d q_RF_isExtra 25 rfl) rfl (rfl) (⟨by first | rw [if_pos (exB_iff.mpr (by omega))] | rw [if_neg (fun q => absurd (exB_iff.mp q) (by omega))], rfl⟩)
      · refine aw_iconst (v := nI 1) (aw_d q_RF_isExtra 22 rfl) (by decide) ?_
        refine aw_goto (tgt := 77) (aw_d q_RF_isExtra 23 rfl) (by decide) ?_
        exact aw_zret (aw_d q_RF_isExtra 25 rfl) rfl (rfl) (⟨by first | rw [if_pos (exB_iff.mpr (by omega))] | rw [if_neg (fun q => absurd (exB_iff.mp q) (by omega))], rfl⟩)
set_option maxRecDepth 20000 in
theorem lp_RF_isName {g : aw_G} {S : aw_S} {n : Nat} (hn : S.1 101 = nI n) (h3 : n ≤ 3000) (h18 : 1 ≤ n ∧ n ≤ 8) : ∀ (m k : Nat), m + k = n → allB pLet (S.2 2) n 0 = allB pLet (S.2 2) m k → AW g M_RF_isName (aw_rm 1 21 0 0) (aw_F g 0 0 (fun r h => r = some (.int (if (1 ≤ n ∧ n ≤ 8) ∧ allB pLet (S.2 2) n 0 = true then nI 1 else nI 0)) ∧ h = HP S)) 21 [some (.ref 1), some (.int (nI k))] [] (HP S) 0 0 := by
  intro m
  induction m with
  | zero =>
    intro k hk e
    refine aw_iload_n (aw_d q_RF_isName 12 rfl) rfl rfl ?_
    refine aw_aload_n (aw_d q_RF_isName 13 rfl) rfl rfl rfl ?_
    refine aw_getf (v := .int (nI (n))) (aw_d q_RF_isName 14 rfl) fL_RF_100_By rfl (gk hn) ?_
    refine aw_icmpN_ge (tgt := 48) (aw_d q_RF_isName 15 rfl) (by decide) (by omega) (by omega) (fun c26 => ?_) (fun c26 => by exfalso; omega)
    refine aw_iconst (v := nI 1) (aw_d q_RF_isName 25 rfl) (by decide) ?_
    exact aw_zret (aw_d q_RF_isName 26 rfl) rfl (rfl) (⟨by rw [if_pos ⟨h18, e⟩], rfl⟩)
  | succ m ih =>
    intro k hk e
    refine aw_iload_n (aw_d q_RF_isName 12 rfl) rfl rfl ?_
    refine aw_aload_n (aw_d q_RF_isName 13 rfl) rfl rfl rfl ?_
    refine aw_getf (v := .int (nI (n))) (aw_d q_RF_isName 14 rfl) fL_RF_100_By rfl (gk hn) ?_
    refine aw_icmpN_ge (tgt := 48) (aw_d q_RF_isName 15 rfl) (by decide) (by omega) (by omega) (fun c26 => by exfalso; omega) (fun c26 => ?_)
    refine aw_aload_n (aw_d q_RF_isName 16 rfl) rfl rfl rfl ?_
    refine aw_iload_n (aw_d q_RF_isName 17 rfl) rfl rfl ?_
    refine cVr (aw_d q_RF_isName 18 rfl) (sp_By_get_1 hn h3 (by omega)) vL_RF_104_By rfl rfl rfl rfl rfl rfl ⟨aw_le rfl, aw_le rfl⟩ ?_
    refine cSr (aw_d q_RF_isName 19 rfl) (sp_RF_isLetter) sL_RF_243 rfl rfl rfl rfl ⟨aw_le rfl, aw_le rfl⟩ ?_
    refine aw_ifB_ne (tgt := 42) (aw_d q_RF_isName 20 rfl) (by decide) (fun c37 => ?_) (fun c37 => ?_)
    · refine aw_iinc (aw_d q_RF_isName 23 rfl) rfl (ii1 _) (aw_le rfl) rfl ?_
      refine aw_goto (tgt := 21) (aw_d q_RF_isName 24 rfl) (by decide) ?_
      exact ih (k + 1) (by omega) (e.trans (by simp only [allB]; rw [c37]; rfl))
    · refine aw_iconst (v := nI 0) (aw_d q_RF_isName 21 rfl) (by decide) ?_
      exact aw_zret (aw_d q_RF_isName 22 rfl) rfl (rfl) (⟨by rw [if_neg (fun q => ?_)]; have q := e.symm.trans q.2; simp only [allB] at q; rw [Bool.and_eq_true] at q; exact c37 q.1, rfl⟩)
set_option maxRecDepth 20000 in
theorem sp_RF_isName {g : aw_G} {S : aw_S} {n : Nat} (hn : S.1 101 = nI n) (h3 : n ≤ 3000) : Sp g M_RF_isName 1 21 0 0 [.ref 1] (HP S) (fun r h => r = some (.int (if (1 ≤ n ∧ n ≤ 8) ∧ allB pLet (S.2 2) n 0 = true then nI 1 else nI 0)) ∧ h = HP S) := by
  refine Sp.of rfl (aw_le rfl) ?_
  refine aw_aload_n (aw_d q_RF_isName 0 rfl) rfl rfl rfl ?_
  refine aw_getf (v := .int (nI (n))) (aw_d q_RF_isName 1 rfl) fL_RF_100_By rfl (gk hn) ?_
  refine aw_iconst (v := nI 1) (aw_d q_RF_isName 2 rfl) (by decide) ?_
  refine aw_icmpN_lt (tgt := 17) (aw_d q_RF_isName 3 rfl) (by decide) (by omega) (by omega) (fun c5 => ?_) (fun c5 => ?_)
  · refine aw_iconst (v := nI 0) (aw_d q_RF_isName 8 rfl) (by decide) ?_
    exact aw_zret (aw_d q_RF_isName 9 rfl) rfl (rfl) (⟨by rw [if_neg (fun q => by omega)], rfl⟩)
  · refine aw_aload_n (aw_d q_RF_isName 4 rfl) rfl rfl rfl ?_
    refine aw_getf (v := .int (nI (n))) (aw_d q_RF_isName 5 rfl) fL_RF_100_By rfl (gk hn) ?_
    refine aw_bipush (v := nI 8) (aw_d q_RF_isName 6 rfl) (by decide) ?_
    refine aw_icmpN_le (tgt := 19) (aw_d q_RF_isName 7 rfl) (by decide) (by omega) (by omega) (fun c14 => ?_) (fun c14 => ?_)
    · refine aw_iconst (v := nI 0) (aw_d q_RF_isName 10 rfl) (by decide) ?_
      refine aw_istore_n (aw_d q_RF_isName 11 rfl) rfl (aw_le rfl) rfl ?_
      exact lp_RF_isName hn h3 (by omega) n 0 (by omega) rfl
    · refine aw_iconst (v := nI 0) (aw_d q_RF_isName 8 rfl) (by decide) ?_
      exact aw_zret (aw_d q_RF_isName 9 rfl) rfl (rfl) (⟨by rw [if_neg (fun q => by omega)], rfl⟩)
set_option maxRecDepth 20000 in
theorem sp_RF_ofB {g : aw_G} {S : aw_S} {nt : Nat} {tl : Nat → Nat} (hT : TeI S nt tl) {x y : Int32} (hx : ¬ (0 ≤ x.toInt ∧ x.toInt < nt)) : Sp g M_RF_of 1 22 0 0 [.ref 0, .int x, .int y] (HP S) (fun r h => r = some (.int (-1)) ∧ h = HP S) := by
  refine Sp.of rfl (aw_le rfl) ?_
  refine aw_aload_n (aw_d q_RF_of 0 rfl) rfl rfl rfl ?_
  refine aw_getf (aw_d q_RF_of 1 rfl) fL_RF_32_RF rfl rfl ?_
  refine aw_iload_n (aw_d q_RF_of 2 rfl) rfl rfl ?_
  refine cVr (aw_d q_RF_of 3 rfl) (sp_Te_has hT) vL_RF_132_Te rfl rfl rfl rfl rfl rfl ⟨aw_le rfl, aw_le rfl⟩ ?_
  refine aw_ifB_ne (tgt := 13) (aw_d q_RF_of 4 rfl) (by decide) (fun c8 => by exact absurd c8 hx) (fun c8 => ?_)
  refine aw_iconst (v := (-1)) (aw_d q_RF_of 5 rfl) (by decide) ?_
  exact aw_iret (aw_d q_RF_of 6 rfl) rfl (⟨rfl, rfl⟩)
set_option maxRecDepth 20000 in
theorem sp_RF_of {g : aw_G} {S : aw_S} {nt : Nat} {tl : Nat → Nat} (hT : TeI S nt tl) {t : Nat} (ht : t < nt) {y : Int32} : Sp g M_RF_of 1 22 0 0 [.ref 0, .int (nI t), .int y] (HP S) (fun r h => r = some (.int (if y.toInt = 0 then S.2 10 t else if y.toInt = 1 then S.2 11 t else if y.toInt = 2 then nI (tl t) else if 3 ≤ y.toInt ∧ y.toInt - 3 < tl t then S.2 13 (t * 20 + (y.toInt - 3).toNat) else -1)) ∧ h = HP S) := by
  refine Sp.of rfl (aw_le rfl) ?_
  have hti := nI_toInt (n := t) (by (have hT2 := hT.2.1; have hT3 := (hT.2.2 t ht).2; omega))
  have hyl := y.toInt_lt
  refine aw_aload_n (aw_d q_RF_of 0 rfl) rfl rfl rfl ?_
  refine aw_getf (aw_d q_RF_of 1 rfl) fL_RF_32_RF rfl rfl ?_
  refine aw_iload_n (aw_d q_RF_of 2 rfl) rfl rfl ?_
  refine cVr (aw_d q_RF_of 3 rfl) (sp_Te_has hT) vL_RF_132_Te rfl rfl rfl rfl rfl rfl ⟨aw_le rfl, aw_le rfl⟩ ?_
  refine aw_ifB_ne (tgt := 13) (aw_d q_RF_of 4 rfl) (by decide) (fun c8 => ?_) (fun c8 => by omega)
  refine aw_iload_n (aw_d q_RF_of 7 rfl) rfl rfl ?_
  rcases (show y.toInt < 0 ∨ (2 : Int) < y.toInt ∨ y.toInt = 0 ∨ y.toInt = 1 ∨ y.toInt = 2 by (have hT2 := hT.2.1; have hT3 := (hT.2.2 t ht).2; omega)) with hsw | hsw | hsw | hsw | hsw
  · refine aw_tableOut (tgt := 67) (aw_d q_RF_of 8 rfl) (Or.inl hsw) (by decide) ?_
    refine aw_iload_n (aw_d q_RF_of 24 rfl) rfl rfl ?_
    refine aw_iconst (v := nI 2) (aw_d q_RF_of 25 rfl) (by decide) ?_
    refine aw_icmpI_le (tgt := 100) (aw_d q_RF_of 26 rfl) (by decide) (by (have hT2 := hT.2.1; have hT3 := (hT.2.2 t ht).2; omega)) (fun c69 => ?_) (fun c69 => ?_)
    · refine aw_iconst (v := (-1)) (aw_d q_RF_of 43 rfl) (by decide) ?_
      exact aw_iret (aw_d q_RF_of 44 rfl) rfl (⟨by first | (rw [if_pos hsw]; done) | (rw [if_neg (by omega), if_pos hsw]; done) | (rw [if_neg (by omega), if_neg (by omega), if_pos hsw]; done) | (rw [if_pos c83, if_neg (by omega), if_neg (by omega), if_neg (by omega), if_pos (by omega)]; done) | (rw [if_neg (by omega), if_neg (by omega), if_neg (by omega), if_neg (by omega)]; done), rfl⟩)
    · have hy3 : y - nI 3 = nI (y.toInt - 3).toNat := sub_nI (by decide) (by omega)
      refine aw_iload_n (aw_d q_RF_of 27 rfl) rfl rfl ?_
      refine aw_iconst (v := nI 3) (aw_d q_RF_of 28 rfl) (by decide) ?_
      refine aw_isub (aw_d q_RF_of 29 rfl) ?_
      rw [hy3]
      refine aw_aload_n (aw_d q_RF_of 30 rfl) rfl rfl rfl ?_
      refine aw_getf (aw_d q_RF_of 31 rfl) fL_RF_32_RF rfl rfl ?_
      refine aw_iload_n (aw_d q_RF_of 32 rfl) rfl rfl ?_
      refine cVr (aw_d q_RF_of 33 rfl) (sp_Te_lengthOf hT ht) vL_RF_141_Te rfl rfl rfl rfl rfl rfl ⟨aw_le rfl, aw_le rfl⟩ ?_
      refine aw_icmpN_ge (tgt := 100) (aw_d q_RF_of 34 rfl) (by decide) (by (have hT2 := hT.2.1; have hT3 := (hT.2.2 t ht).2; omega)) (by (have hT2 := hT.2.1; have hT3 := (hT.2.2 t ht).2; omega)) (fun c83 => ?_) (fun c83 => ?_)
      · refine aw_iconst (v := (-1)) (aw_d q_RF_of 43 rfl) (by decide) ?_
        exact aw_iret (aw_d q_RF_of 44 rfl) rfl (⟨by first | (rw [if_pos hsw]; done) | (rw [if_neg (by omega), if_pos hsw]; done) | (rw [if_neg (by omega), if_neg (by omega), if_pos hsw]; done) | (rw [if_pos c83, if_neg (by omega), if_neg (by omega), if_neg (by omega), if_pos (by omega)]; done) | (rw [if_neg (by omega), if_neg (by omega), if_neg (by omega), if_neg (by omega)]; done), rfl⟩)
      · refine aw_aload_n (aw_d q_RF_of 35 rfl) rfl rfl rfl ?_
        refine aw_getf (aw_d q_RF_of 36 rfl) fL_RF_32_RF rfl rfl ?_
        refine aw_iload_n (aw_d q_RF_of 37 rfl) rfl rfl ?_
        refine aw_iload_n (aw_d q_RF_of 38 rfl) rfl rfl ?_
        refine aw_iconst (v := nI 3) (aw_d q_RF_of 39 rfl) (by decide) ?_
        refine aw_isub (aw_d q_RF_of 40 rfl) ?_
        rw [hy3]
        refine cVr (aw_d q_RF_of 41 rfl) (sp_Te_byteOf (k := (y.toInt - 3).toNat) hT ht (by (have hT2 := hT.2.1; have hT3 := (hT.2.2 t ht).2; omega))) vL_RF_144_Te rfl rfl rfl rfl rfl rfl ⟨aw_le rfl, aw_le rfl⟩ ?_
        refine aw_goto (tgt := 101) (aw_d q_RF_of 42 rfl) (by decide) ?_
        exact aw_iret (aw_d q_RF_of 44 rfl) rfl (⟨by first | (rw [if_pos hsw]; done) | (rw [if_neg (by omega), if_pos hsw]; done) | (rw [if_neg (by omega), if_neg (by omega), if_pos hsw]; done) | (rw [if_pos c83, if_neg (by omega), if_neg (by omega), if_neg (by omega), if_pos (by omega)]; done) | (rw [if_neg (by omega), if_neg (by omega), if_neg (by omega), if_neg (by omega)]; done), rfl⟩)
  · refine aw_tableOut (tgt := 67) (aw_d q_RF_of 8 rfl) (Or.inr hsw) (by decide) ?_
    refine aw_iload_n (aw_d q_RF_of 24 rfl) rfl rfl ?_
    refine aw_iconst (v := nI 2) (aw_d q_RF_of 25 rfl) (by decide) ?_
    refine aw_icmpI_le (tgt := 100) (aw_d q_RF_of 26 rfl) (by decide) (by (have hT2 := hT.2.1; have hT3 := (hT.2.2 t ht).2; omega)) (fun c69 => ?_) (fun c69 => ?_)
    · refine aw_iconst (v := (-1)) (aw_d q_RF_of 43 rfl) (by decide) ?_
      exact aw_iret (aw_d q_RF_of 44 rfl) rfl (⟨by first | (rw [if_pos hsw]; done) | (rw [if_neg (by omega), if_pos hsw]; done) | (rw [if_neg (by omega), if_neg (by omega), if_pos hsw]; done) | (rw [if_pos c83, if_neg (by omega), if_neg (by omega), if_neg (by omega), if_pos (by omega)]; done) | (rw [if_neg (by omega), if_neg (by omega), if_neg (by omega), if_neg (by omega)]; done), rfl⟩)
    · have hy3 : y - nI 3 = nI (y.toInt - 3).toNat := sub_nI (by decide) (by omega)
      refine aw_iload_n (aw_d q_RF_of 27 rfl) rfl rfl ?_
      refine aw_iconst (v := nI 3) (aw_d q_RF_of 28 rfl) (by decide) ?_
      refine aw_isub (aw_d q_RF_of 29 rfl) ?_
      rw [hy3]
      refine aw_aload_n (aw_d q_RF_of 30 rfl) rfl rfl rfl ?_
      refine aw_getf (aw_d q_RF_of 31 rfl) fL_RF_32_RF rfl rfl ?_
      refine aw_iload_n (aw_d q_RF_of 32 rfl) rfl rfl ?_
      refine cVr (aw_d q_RF_of 33 rfl) (sp_Te_lengthOf hT ht) vL_RF_141_Te rfl rfl rfl rfl rfl rfl ⟨aw_le rfl, aw_le rfl⟩ ?_
      refine aw_icmpN_ge (tgt := 100) (aw_d q_RF_of 34 rfl) (by decide) (by (have hT2 := hT.2.1; have hT3 := (hT.2.2 t ht).2; omega)) (by (have hT2 := hT.2.1; have hT3 := (hT.2.2 t ht).2; omega)) (fun c83 => ?_) (fun c83 => ?_)
      · refine aw_iconst (v := (-1)) (aw_d q_RF_of 43 rfl) (by decide) ?_
        exact aw_iret (aw_d q_RF_of 44 rfl) rfl (⟨by first | (rw [if_pos hsw]; done) | (rw [if_neg (by omega), if_pos hsw]; done) | (rw [if_neg (by omega), if_neg (by omega), if_pos hsw]; done) | (rw [if_pos c83, if_neg (by omega), if_neg (by omega), if_neg (by omega), if_pos (by omega)]; done) | (rw [if_neg (by omega), if_neg (by omega), if_neg (by omega), if_neg (by omega)]; done), rfl⟩)
      · refine aw_aload_n (aw_d q_RF_of 35 rfl) rfl rfl rfl ?_
        refine aw_getf (aw_d q_RF_of 36 rfl) fL_RF_32_RF rfl rfl ?_
        refine aw_iload_n (aw_d q_RF_of 37 rfl) rfl rfl ?_
        refine aw_iload_n (aw_d q_RF_of 38 rfl) rfl rfl ?_
        refine aw_iconst (v := nI 3) (aw_d q_RF_of 39 rfl) (by decide) ?_
        refine aw_isub (aw_d q_RF_of 40 rfl) ?_
        rw [hy3]
        refine cVr (aw_d q_RF_of 41 rfl) (sp_Te_byteOf (k := (y.toInt - 3).toNat) hT ht (by (have hT2 := hT.2.1; have hT3 := (hT.2.2 t ht).2; omega))) vL_RF_144_Te rfl rfl rfl rfl rfl rfl ⟨aw_le rfl, aw_le rfl⟩ ?_
        refine aw_goto (tgt := 101) (aw_d q_RF_of 42 rfl) (by decide) ?_
        exact aw_iret (aw_d q_RF_of 44 rfl) rfl (⟨by first | (rw [if_pos hsw]; done) | (rw [if_neg (by omega), if_pos hsw]; done) | (rw [if_neg (by omega), if_neg (by omega), if_pos hsw]; done) | (rw [if_pos c83, if_neg (by omega), if_neg (by omega), if_neg (by omega), if_pos (by omega)]; done) | (rw [if_neg (by omega), if_neg (by omega), if_neg (by omega), if_neg (by omega)]; done), rfl⟩)
  · refine aw_tableIn (tgt := 40) (aw_d q_RF_of 8 rfl) (by omega) (by omega) (by rw [hsw]; rfl) (by decide) ?_
    refine aw_aload_n (aw_d q_RF_of 9 rfl) rfl rfl rfl ?_
    refine aw_getf (aw_d q_RF_of 10 rfl) fL_RF_32_RF rfl rfl ?_
    refine aw_iload_n (aw_d q_RF_of 11 rfl) rfl rfl ?_
    refine cVr (aw_d q_RF_of 12 rfl) (sp_Te_kindOf hT ht) vL_RF_135_Te rfl rfl rfl rfl rfl rfl ⟨aw_le rfl, aw_le rfl⟩ ?_
    exact aw_iret (aw_d q_RF_of 13 rfl) rfl (⟨by first | (rw [if_pos hsw]; done) | (rw [if_neg (by omega), if_pos hsw]; done) | (rw [if_neg (by omega), if_neg (by omega), if_pos hsw]; done) | (rw [if_pos c83, if_neg (by omega), if_neg (by omega), if_neg (by omega), if_pos (by omega)]; done) | (rw [if_neg (by omega), if_neg (by omega), if_neg (by omega), if_neg (by omega)]; done), rfl⟩)
  · refine aw_tableIn (tgt := 49) (aw_d q_RF_of 8 rfl) (by omega) (by omega) (by rw [hsw]; rfl) (by decide) ?_
    refine aw_aload_n (aw_d q_RF_of 14 rfl) rfl rfl rfl ?_
    refine aw_getf (aw_d q_RF_of 15 rfl) fL_RF_32_RF rfl rfl ?_
    refine aw_iload_n (aw_d q_RF_of 16 rfl) rfl rfl ?_
    refine cVr (aw_d q_RF_of 17 rfl) (sp_Te_extraOf hT ht) vL_RF_138_Te rfl rfl rfl rfl rfl rfl ⟨aw_le rfl, aw_le rfl⟩ ?_
    exact aw_iret (aw_d q_RF_of 18 rfl) rfl (⟨by first | (rw [if_pos hsw]; done) | (rw [if_neg (by omega), if_pos hsw]; done) | (rw [if_neg (by omega), if_neg (by omega), if_pos hsw]; done) | (rw [if_pos c83, if_neg (by omega), if_neg (by omega), if_neg (by omega), if_pos (by omega)]; done) | (rw [if_neg (by omega), if_neg (by omega), if_neg (by omega), if_neg (by omega)]; done), rfl⟩)
  · refine aw_tableIn (tgt := 58) (aw_d q_RF_of 8 rfl) (by omega) (by omega) (by rw [hsw]; rfl) (by decide) ?_
    refine aw_aload_n (aw_d q_RF_of 19 rfl) rfl rfl rfl ?_
    refine aw_getf (aw_d q_RF_of 20 rfl) fL_RF_32_RF rfl rfl ?_
    refine aw_iload_n (aw_d q_RF_of 21 rfl) rfl rfl ?_
    refine cVr (aw_d q_RF_of 22 rfl) (sp_Te_lengthOf hT ht) vL_RF_141_Te rfl rfl rfl rfl rfl rfl ⟨aw_le rfl, aw_le rfl⟩ ?_
    exact aw_iret (aw_d q_RF_of 23 rfl) rfl (⟨by first | (rw [if_pos hsw]; done) | (rw [if_neg (by omega), if_pos hsw]; done) | (rw [if_neg (by omega), if_neg (by omega), if_pos hsw]; done) | (rw [if_pos c83, if_neg (by omega), if_neg (by omega), if_neg (by omega), if_pos (by omega)]; done) | (rw [if_neg (by omega), if_neg (by omega), if_neg (by omega), if_neg (by omega)]; done), rfl⟩)
