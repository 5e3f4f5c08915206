set_option maxRecDepth 20000 in
theorem sp_isBare {g : aw_G} {h : aw_hp} {b : Int32} : Sp g M_Cm_isBare 1 20 0 0 [.int b] (h) (fun r h1 => r = some (.int (if pBa b = true then nI 1 else nI 0)) ∧ h1 = h) := by
  refine Sp.of rfl (aw_le rfl) ?_
  refine aw_iload_n (aw_d q_Cm_isBare 0 rfl) rfl rfl ?_
  refine cSr (aw_d q_Cm_isBare 1 rfl) (sp_RF_isPrinted) sL_Cm_114 rfl rfl rfl rfl ⟨aw_le rfl, aw_le rfl⟩ ?_
  refine aw_ifB_ne (tgt := 13) (aw_d q_Cm_isBare 2 rfl) (by decide) (fun c4 => ?_) (fun c4 => ?_)
  · have c4 : _ ∧ _ := of_decide_eq_true c4
    refine aw_iload_n (aw_d q_Cm_isBare 6 rfl) rfl rfl ?_
    refine aw_bipush (v := nI 34) (aw_d q_Cm_isBare 7 rfl) (by decide) ?_
    refine aw_icmpI_eq (tgt := 29) (aw_d q_Cm_isBare 8 rfl) (by decide) (by omega) (fun c16 => ?_) (fun c16 => ?_)
    · refine aw_iconst (v := nI 0) (aw_d q_Cm_isBare 14 rfl) (by decide) ?_
      exact aw_zret (aw_d q_Cm_isBare 15 rfl) rfl (rfl) (⟨by first | (rw [if_pos (show pBa b = true from decide_eq_true (by omega))]; done) | (rw [if_neg (by simp only [pBa, decide_eq_true_eq]; omega)]; done), rfl⟩)
    · refine aw_iload_n (aw_d q_Cm_isBare 9 rfl) rfl rfl ?_
      refine aw_bipush (v := nI 44) (aw_d q_Cm_isBare 10 rfl) (by decide) ?_
      refine aw_icmpI_eq (tgt := 29) (aw_d q_Cm_isBare 11 rfl) (by decide) (by omega) (fun c22 => ?_) (fun c22 => ?_)
      · refine aw_iconst (v := nI 0) (aw_d q_Cm_isBare 14 rfl) (by decide) ?_
        exact aw_zret (aw_d q_Cm_isBare 15 rfl) rfl (rfl) (⟨by first | (rw [if_pos (show pBa b = true from decide_eq_true (by omega))]; done) | (rw [if_neg (by simp only [pBa, decide_eq_true_eq]; omega)]; done), rfl⟩)
      · refine aw_iconst (v := nI 1) (aw_d q_Cm_isBare 12 rfl) (by decide) ?_
        refine aw_goto (tgt := 30) (aw_d q_Cm_isBare 13 rfl) (by decide) ?_
        exact aw_zret (aw_d q_Cm_isBare 15 rfl) rfl (rfl) (⟨by first | (rw [if_pos (show pBa b = true from decide_eq_true (by omega))]; done) | (rw [if_neg (by simp only [pBa, decide_eq_true_eq]; omega)]; done), rfl⟩)
  · have c4 : ¬ (32 ≤ b.toInt ∧ b.toInt ≤ 126) := fun q => c4 (decide_eq_true q)
    refine aw_iload_n (aw_d q_Cm_isBare 3 rfl) rfl rfl ?_
    refine aw_bipush (v := nI 9) (aw_d q_Cm_isBare 4 rfl) (by decide) ?_
    refine aw_icmpI_ne (tgt := 29) (aw_d q_Cm_isBare 5 rfl) (by decide) (by omega) (fun c10 => ?_) (fun c10 => ?_)
    · refine aw_iconst (v := nI 0) (aw_d q_Cm_isBare 14 rfl) (by decide) ?_
      exact aw_zret (aw_d q_Cm_isBare 15 rfl) rfl (rfl) (⟨by first | (rw [if_pos (show pBa b = true from decide_eq_true (by omega))]; done) | (rw [if_neg (by simp only [pBa, decide_eq_true_eq]; omega)]; done), rfl⟩)
    · refine aw_iload_n (aw_d q_Cm_isBare 6 rfl) rfl rfl ?_
      refine aw_bipush (v := nI 34) (aw_d q_Cm_isBare 7 rfl) (by decide) ?_
      refine aw_icmpI_eq (tgt := 29) (aw_d q_Cm_isBare 8 rfl) (by decide) (by omega) (fun c16 => ?_) (fun c16 => ?_)
      · refine aw_iconst (v := nI 0) (aw_d q_Cm_isBare 14 rfl) (by decide) ?_
        exact aw_zret (aw_d q_Cm_isBare 15 rfl) rfl (rfl) (⟨by first | (rw [if_pos (show pBa b = true from decide_eq_true (by omega))]; done) | (rw [if_neg (by simp only [pBa, decide_eq_true_eq]; omega)]; done), rfl⟩)
      · refine aw_iload_n (aw_d q_Cm_isBare 9 rfl) rfl rfl ?_
        refine aw_bipush (v := nI 44) (aw_d q_Cm_isBare 10 rfl) (by decide) ?_
        refine aw_icmpI_eq (tgt := 29) (aw_d q_Cm_isBare 11 rfl) (by decide) (by omega) (fun c22 => ?_) (fun c22 => ?_)
        · refine aw_iconst (v := nI 0) (aw_d q_Cm_isBare 14 rfl) (by decide) ?_
          exact aw_zret (aw_d q_Cm_isBare 15 rfl) rfl (rfl) (⟨by first | (rw [if_pos (show pBa b = true from decide_eq_true (by omega))]; done) | (rw [if_neg (by simp only [pBa, decide_eq_true_eq]; omega)]; done), rfl⟩)
        · refine aw_iconst (v := nI 1) (aw_d q_Cm_isBare 12 rfl) (by decide) ?_
          refine aw_goto (tgt := 30) (aw_d q_Cm_isBare 13 rfl) (by decide) ?_
          exact aw_zret (aw_d q_Cm_isBare 15 rfl) rfl (rfl) (⟨by first | (rw [if_pos (show pBa b = true from decide_eq_true (by omega))]; done) | (rw [if_neg (by simp only [pBa, decide_eq_true_eq]; omega)]; done), rfl⟩)
set_option maxRecDepth 20000 in
theorem lp_cq {g : aw_G} {S : aw_S} {n : Nat} {T : Nat → Int32} {q w l : Int32} {f : Nat → Int32} (hc : TPc S n T) {a : Nat} : ∀ (m i p : Nat) (L : List Int32) (x2 x3 : Option Value), m + i = 21 → p ≤ n → L.length ≤ 20 → L.all pTx = true → cq T 21 a [] = cq T m p L → AW g M_Cm_parseQuoted (aw_rm 2 43 0 0) (aw_F g 0 0 (CE S (cq T 21 a []) (fun (y : tx_T) h => h = HP (QC S (nI y.1) q w l (nI 2) (nI 0) (nI y.2.length) (XA y.2 f)) ∧ txOK n y))) 10 [some (.ref 31), some (.int (nI i)), x2, x3] [] (HP (QC S (nI p) q w l (nI 2) (nI 0) (nI (L).length) (XA (L) f))) 0 0 := by
  intro m
  induction m with
  | zero =>
    intro i p L x2 x3 hk hp h20 hal he
    refine aw_iload_n (aw_d q_Cm_parseQuoted 6 rfl) rfl rfl ?_
    refine aw_bipush (v := nI 20) (aw_d q_Cm_parseQuoted 7 rfl) (by decide) ?_
    refine aw_icmpN_gt (tgt := 114) (aw_d q_Cm_parseQuoted 8 rfl) (by decide) (by (have hc2 := hc.2.1; omega)) (by (have hc2 := hc.2.1; omega)) (fun c13 => ?_) (fun c13 => by exfalso; (have hc2 := hc.2.1; omega))
    refine aw_aload_n (aw_d q_Cm_parseQuoted 56 rfl) rfl rfl rfl ?_
    refine aw_getf (aw_d q_Cm_parseQuoted 57 rfl) fL_Cm_59_Cm rfl rfl ?_
    refine cVr (aw_d q_Cm_parseQuoted 58 rfl) (sp_fail) vL_Cm_107_Sc rfl rfl rfl rfl rfl rfl ⟨aw_le rfl, aw_le rfl⟩ ?_
    exact aw_zret (aw_d q_Cm_parseQuoted 59 rfl) rfl (rfl) (by rw [he]; exact CE_er CF_i)
  | succ m ih =>
    intro i p L x2 x3 hk hp h20 hal he
    refine aw_iload_n (aw_d q_Cm_parseQuoted 6 rfl) rfl rfl ?_
    refine aw_bipush (v := nI 20) (aw_d q_Cm_parseQuoted 7 rfl) (by decide) ?_
    refine aw_icmpN_gt (tgt := 114) (aw_d q_Cm_parseQuoted 8 rfl) (by decide) (by (have hc2 := hc.2.1; omega)) (by (have hc2 := hc.2.1; omega)) (fun c13 => by exfalso; (have hc2 := hc.2.1; omega)) (fun c13 => ?_)
    refine aw_aload_n (aw_d q_Cm_parseQuoted 9 rfl) rfl rfl rfl ?_
    refine aw_getf (aw_d q_Cm_parseQuoted 10 rfl) fL_Cm_59_Cm rfl rfl ?_
    refine cVr (aw_d q_Cm_parseQuoted 11 rfl) (sp_next hc hp) vL_Cm_79_Sc rfl rfl rfl rfl rfl rfl ⟨aw_le rfl, aw_le rfl⟩ ?_
    refine aw_istore_n (aw_d q_Cm_parseQuoted 12 rfl) rfl (aw_le rfl) rfl ?_
    refine aw_iload_n (aw_d q_Cm_parseQuoted 13 rfl) rfl rfl ?_
    refine aw_bipush (v := nI 34) (aw_d q_Cm_parseQuoted 14 rfl) (by decide) ?_
    refine aw_icmpI_ne (tgt := 34) (aw_d q_Cm_parseQuoted 15 rfl) (by decide) (by (have hc2 := hc.2.1; omega)) (fun c27 => ?_) (fun c27 => ?_)
    · refine aw_iconst (v := nI 0) (aw_d q_Cm_parseQuoted 18 rfl) (by decide) ?_
      refine aw_istore_n (aw_d q_Cm_parseQuoted 19 rfl) rfl (aw_le rfl) rfl ?_
      refine aw_iload_n (aw_d q_Cm_parseQuoted 20 rfl) rfl rfl ?_
      refine aw_ifN_eq (tgt := 63) (aw_d q_Cm_parseQuoted 21 rfl) (by decide) (by (have hc2 := hc.2.1; omega)) (fun c37 => ?_) (fun c37 => by exfalso; (have hc2 := hc.2.1; omega))
      refine aw_aload_n (aw_d q_Cm_parseQuoted 33 rfl) rfl rfl rfl ?_
      refine aw_getf (aw_d q_Cm_parseQuoted 34 rfl) fL_Cm_59_Cm rfl rfl ?_
      refine aw_getf (aw_d q_Cm_parseQuoted 35 rfl) fL_Cm_95_Sc rfl rfl ?_
      refine cVr (aw_d q_Cm_parseQuoted 36 rfl) (sp_Tx_isFull_27 (n := L.length) rfl h20) vL_Cm_99_Tx rfl rfl rfl rfl rfl rfl ⟨aw_le rfl, aw_le rfl⟩ ?_
      refine aw_ifB_ne (tgt := 83) (aw_d q_Cm_parseQuoted 37 rfl) (by decide) (fun c73 => ?_) (fun c73 => ?_)
      · refine aw_aload_n (aw_d q_Cm_parseQuoted 41 rfl) rfl rfl rfl ?_
        refine aw_getf (aw_d q_Cm_parseQuoted 42 rfl) fL_Cm_59_Cm rfl rfl ?_
        refine cVr (aw_d q_Cm_parseQuoted 43 rfl) (sp_fail) vL_Cm_107_Sc rfl rfl rfl rfl rfl rfl ⟨aw_le rfl, aw_le rfl⟩ ?_
        exact aw_zret (aw_d q_Cm_parseQuoted 44 rfl) rfl (rfl) (by rw [he, cq, if_neg (by omega), if_pos (by first | exact Or.inl (by omega) | exact Or.inr (by simpa using c80))]; exact CE_er CF_i)
      · refine aw_iload_n (aw_d q_Cm_parseQuoted 38 rfl) rfl rfl ?_
        refine cSr (aw_d q_Cm_parseQuoted 39 rfl) (sp_RF_isTextByte) sL_Cm_104 rfl rfl rfl rfl ⟨aw_le rfl, aw_le rfl⟩ ?_
        refine aw_ifB_ne (tgt := 91) (aw_d q_Cm_parseQuoted 40 rfl) (by decide) (fun c80 => ?_) (fun c80 => ?_)
        · refine aw_aload_n (aw_d q_Cm_parseQuoted 45 rfl) rfl rfl rfl ?_
          refine aw_getf (aw_d q_Cm_parseQuoted 46 rfl) fL_Cm_59_Cm rfl rfl ?_
          refine aw_iload_n (aw_d q_Cm_parseQuoted 47 rfl) rfl rfl ?_
          refine aw_iload_n (aw_d q_Cm_parseQuoted 48 rfl) rfl rfl ?_
          refine aw_ifN_eq (tgt := 104) (aw_d q_Cm_parseQuoted 49 rfl) (by decide) (by (have hc2 := hc.2.1; omega)) (fun c97 => ?_) (fun c97 => by exfalso; (have hc2 := hc.2.1; omega))
          refine aw_iconst (v := nI 1) (aw_d q_Cm_parseQuoted 52 rfl) (by decide) ?_
          refine cVv (aw_d q_Cm_parseQuoted 53 rfl) (sp_take (by omega)) vL_Cm_110_Sc rfl rfl rfl rfl rfl rfl ⟨aw_le rfl, aw_le rfl⟩ ?_
          refine aw_iinc (aw_d q_Cm_parseQuoted 54 rfl) rfl (ii1 _) (aw_le rfl) rfl ?_
          refine aw_goto (tgt := 10) (aw_d q_Cm_parseQuoted 55 rfl) (by decide) ?_
          have hpn := T_lt hc.2.2.2.1 (p := p) (pTx_0 c80)
          exact AW.to (ih (i + 1) (p + 1) (L ++ [T p]) _ _ (by omega) (by omega) (by rw [len_add]; omega) (all_add hal c80) (he.trans (by rw [cq, if_neg (by omega), if_neg (fun q => q.elim (by omega) (fun q => by rw [c80] at q; cases q)), if_neg (by omega)]))) rfl rfl rfl rfl
        · refine aw_aload_n (aw_d q_Cm_parseQuoted 41 rfl) rfl rfl rfl ?_
          refine aw_getf (aw_d q_Cm_parseQuoted 42 rfl) fL_Cm_59_Cm rfl rfl ?_
          refine cVr (aw_d q_Cm_parseQuoted 43 rfl) (sp_fail) vL_Cm_107_Sc rfl rfl rfl rfl rfl rfl ⟨aw_le rfl, aw_le rfl⟩ ?_
          exact aw_zret (aw_d q_Cm_parseQuoted 44 rfl) rfl (rfl) (by rw [he, cq, if_neg (by omega), if_pos (by first | exact Or.inl (by omega) | exact Or.inr (by simpa using c80))]; exact CE_er CF_i)
    · refine aw_iconst (v := nI 1) (aw_d q_Cm_parseQuoted 16 rfl) (by decide) ?_
      refine aw_goto (tgt := 35) (aw_d q_Cm_parseQuoted 17 rfl) (by decide) ?_
      refine aw_istore_n (aw_d q_Cm_parseQuoted 19 rfl) rfl (aw_le rfl) rfl ?_
      refine aw_iload_n (aw_d q_Cm_parseQuoted 20 rfl) rfl rfl ?_
      refine aw_ifN_eq (tgt := 63) (aw_d q_Cm_parseQuoted 21 rfl) (by decide) (by (have hc2 := hc.2.1; omega)) (fun c37 => by exfalso; (have hc2 := hc.2.1; omega)) (fun c37 => ?_)
      refine aw_aload_n (aw_d q_Cm_parseQuoted 22 rfl) rfl rfl rfl ?_
      refine aw_getf (aw_d q_Cm_parseQuoted 23 rfl) fL_Cm_59_Cm rfl rfl ?_
      refine aw_iconst (v := nI 1) (aw_d q_Cm_parseQuoted 24 rfl) (by decide) ?_
      refine cVr (aw_d q_Cm_parseQuoted 25 rfl) (sp_ahead hc hp (d := 1) (by omega)) vL_Cm_92_Sc rfl rfl rfl rfl rfl rfl ⟨aw_le rfl, aw_le rfl⟩ ?_
      refine aw_bipush (v := nI 34) (aw_d q_Cm_parseQuoted 26 rfl) (by decide) ?_
      refine aw_icmpI_eq (tgt := 63) (aw_d q_Cm_parseQuoted 27 rfl) (by decide) (by (have hc2 := hc.2.1; omega)) (fun c50 => ?_) (fun c50 => ?_)
      · refine aw_aload_n (aw_d q_Cm_parseQuoted 33 rfl) rfl rfl rfl ?_
        refine aw_getf (aw_d q_Cm_parseQuoted 34 rfl) fL_Cm_59_Cm rfl rfl ?_
        refine aw_getf (aw_d q_Cm_parseQuoted 35 rfl) fL_Cm_95_Sc rfl rfl ?_
        refine cVr (aw_d q_Cm_parseQuoted 36 rfl) (sp_Tx_isFull_27 (n := L.length) rfl h20) vL_Cm_99_Tx rfl rfl rfl rfl rfl rfl ⟨aw_le rfl, aw_le rfl⟩ ?_
        refine aw_ifB_ne (tgt := 83) (aw_d q_Cm_parseQuoted 37 rfl) (by decide) (fun c73 => ?_) (fun c73 => ?_)
        · refine aw_aload_n (aw_d q_Cm_parseQuoted 41 rfl) rfl rfl rfl ?_
          refine aw_getf (aw_d q_Cm_parseQuoted 42 rfl) fL_Cm_59_Cm rfl rfl ?_
          refine cVr (aw_d q_Cm_parseQuoted 43 rfl) (sp_fail) vL_Cm_107_Sc rfl rfl rfl rfl rfl rfl ⟨aw_le rfl, aw_le rfl⟩ ?_
          exact aw_zret (aw_d q_Cm_parseQuoted 44 rfl) rfl (rfl) (by rw [he, cq, if_neg (by omega), if_pos (by first | exact Or.inl (by omega) | exact Or.inr (by simpa using c80))]; exact CE_er CF_i)
        · refine aw_iload_n (aw_d q_Cm_parseQuoted 38 rfl) rfl rfl ?_
          refine cSr (aw_d q_Cm_parseQuoted 39 rfl) (sp_RF_isTextByte) sL_Cm_104 rfl rfl rfl rfl ⟨aw_le rfl, aw_le rfl⟩ ?_
          refine aw_ifB_ne (tgt := 91) (aw_d q_Cm_parseQuoted 40 rfl) (by decide) (fun c80 => ?_) (fun c80 => ?_)
          · refine aw_aload_n (aw_d q_Cm_parseQuoted 45 rfl) rfl rfl rfl ?_
            refine aw_getf (aw_d q_Cm_parseQuoted 46 rfl) fL_Cm_59_Cm rfl rfl ?_
            refine aw_iload_n (aw_d q_Cm_parseQuoted 47 rfl) rfl rfl ?_
            refine aw_iload_n (aw_d q_Cm_parseQuoted 48 rfl) rfl rfl ?_
            refine aw_ifN_eq (tgt := 104) (aw_d q_Cm_parseQuoted 49 rfl) (by decide) (by (have hc2 := hc.2.1; omega)) (fun c97 => by exfalso; (have hc2 := hc.2.1; omega)) (fun c97 => ?_)
            refine aw_iconst (v := nI 2) (aw_d q_Cm_parseQuoted 50 rfl) (by decide) ?_
            refine aw_goto (tgt := 105) (aw_d q_Cm_parseQuoted 51 rfl) (by decide) ?_
            refine cVv (aw_d q_Cm_parseQuoted 53 rfl) (sp_take (by omega)) vL_Cm_110_Sc rfl rfl rfl rfl rfl rfl ⟨aw_le rfl, aw_le rfl⟩ ?_
            refine aw_iinc (aw_d q_Cm_parseQuoted 54 rfl) rfl (ii1 _) (aw_le rfl) rfl ?_
            refine aw_goto (tgt := 10) (aw_d q_Cm_parseQuoted 55 rfl) (by decide) ?_
            have hpn := T_lt hc.2.2.2.1 (p := p + 1) (by omega)
            exact AW.to (ih (i + 1) (p + 2) (L ++ [T p]) _ _ (by omega) (by omega) (by rw [len_add]; omega) (all_add hal c80) (he.trans (by rw [cq, if_neg (by omega), if_neg (fun q => q.elim (by omega) (fun q => by rw [c80] at q; cases q)), if_pos (by omega)]))) rfl rfl rfl rfl
          · refine aw_aload_n (aw_d q_Cm_parseQuoted 41 rfl) rfl rfl rfl ?_
            refine aw_getf (aw_d q_Cm_parseQuoted 42 rfl) fL_Cm_59_Cm rfl rfl ?_
            refine cVr (aw_d q_Cm_parseQuoted 43 rfl) (sp_fail) vL_Cm_107_Sc rfl rfl rfl rfl rfl rfl ⟨aw_le rfl, aw_le rfl⟩ ?_
            exact aw_zret (aw_d q_Cm_parseQuoted 44 rfl) rfl (rfl) (by rw [he, cq, if_neg (by omega), if_pos (by first | exact Or.inl (by omega) | exact Or.inr (by simpa using c80))]; exact CE_er CF_i)
      · refine aw_aload_n (aw_d q_Cm_parseQuoted 28 rfl) rfl rfl rfl ?_
        refine aw_getf (aw_d q_Cm_parseQuoted 29 rfl) fL_Cm_59_Cm rfl rfl ?_
        refine aw_bipush (v := nI 34) (aw_d q_Cm_parseQuoted 30 rfl) (by decide) ?_
        refine cVr (aw_d q_Cm_parseQuoted 31 rfl) (sp_took hc hp (B := 34) rfl) vL_Cm_63_Sc rfl rfl rfl rfl rfl rfl ⟨aw_le rfl, aw_le rfl⟩ ?_
        exact aw_zret (aw_d q_Cm_parseQuoted 32 rfl) rfl (nB) (by have hpn := T_lt hc.2.2.2.1 (p := p) (by omega); rw [he, cq, if_pos ⟨by omega, by omega⟩, if_pos (by omega), if_pos (by omega)]; exact CE_ok ⟨rfl, ⟨hpn, h20, hal⟩⟩)
set_option maxRecDepth 20000 in
theorem sp_cq {g : aw_G} {S : aw_S} {n : Nat} {T : Nat → Int32} {p : Nat} {q w l k e z : Int32} {f : Nat → Int32} (hc : TPc S n T) (hp : p ≤ n)  : Sp g M_Cm_parseQuoted 2 43 0 0 [.ref 31] (HP (QC S (nI p) q w l k e z f)) (CE S (cq T 21 p []) (fun (y : tx_T) h => h = HP (QC S (nI y.1) q w l (nI 2) (nI 0) (nI y.2.length) (XA y.2 f)) ∧ txOK n y)) := by
  refine Sp.of rfl (aw_le rfl) ?_
  refine aw_aload_n (aw_d q_Cm_parseQuoted 0 rfl) rfl rfl rfl ?_
  refine aw_getf (aw_d q_Cm_parseQuoted 1 rfl) fL_Cm_59_Cm rfl rfl ?_
  refine aw_iconst (v := nI 2) (aw_d q_Cm_parseQuoted 2 rfl) (by decide) ?_
  refine cVv (aw_d q_Cm_parseQuoted 3 rfl) (sp_beginTerm) vL_Cm_89_Sc rfl rfl rfl rfl rfl rfl ⟨aw_le rfl, aw_le rfl⟩ ?_
  refine aw_iconst (v := nI 0) (aw_d q_Cm_parseQuoted 4 rfl) (by decide) ?_
  refine aw_istore_n (aw_d q_Cm_parseQuoted 5 rfl) rfl (aw_le rfl) rfl ?_
  exact AW.to (lp_cq hc 21 0 p [] _ _ (by omega) hp (by decide) rfl rfl) rfl rfl rfl (by rw [XA_nil]; rfl)
set_option maxRecDepth 20000 in
theorem lp_cb {g : aw_G} {S : aw_S} {n : Nat} {T : Nat → Int32} {q w l : Int32} {f : Nat → Int32} (hc : TPc S n T) {a : Nat} : ∀ (m i p : Nat) (L : List Int32) (x2 : Option Value), m + i = 21 → p ≤ n → L.length ≤ 20 → L.all pTx = true → cb T 21 a [] = cb T m p L → AW g M_Cm_parseBare (aw_rm 2 43 0 0) (aw_F g 0 0 (CE S (cb T 21 a []) (fun (y : tx_T) h => h = HP (QC S (nI y.1) q w l (nI 2) (nI 0) (nI y.2.length) (XA y.2 f)) ∧ txOK n y))) 10 [some (.ref 31), some (.int (nI i)), x2] [] (HP (QC S (nI p) q w l (nI 2) (nI 0) (nI (L).length) (XA (L) f))) 0 0 := by
  intro m
  induction m with
  | zero =>
    intro i p L x2 hk hp h20 hal he
    refine aw_iload_n (aw_d q_Cm_parseBare 6 rfl) rfl rfl ?_
    refine aw_bipush (v := nI 20) (aw_d q_Cm_parseBare 7 rfl) (by decide) ?_
    refine aw_icmpN_gt (tgt := 69) (aw_d q_Cm_parseBare 8 rfl) (by decide) (by (have hc2 := hc.2.1; omega)) (by (have hc2 := hc.2.1; omega)) (fun c13 => ?_) (fun c13 => by exfalso; (have hc2 := hc.2.1; omega))
    refine aw_aload_n (aw_d q_Cm_parseBare 34 rfl) rfl rfl rfl ?_
    refine aw_getf (aw_d q_Cm_parseBare 35 rfl) fL_Cm_59_Cm rfl rfl ?_
    refine cVr (aw_d q_Cm_parseBare 36 rfl) (sp_fail) vL_Cm_107_Sc rfl rfl rfl rfl rfl rfl ⟨aw_le rfl, aw_le rfl⟩ ?_
    exact aw_zret (aw_d q_Cm_parseBare 37 rfl) rfl (rfl) (by rw [he]; exact CE_er CF_i)
  | succ m ih =>
    intro i p L x2 hk hp h20 hal he
    refine aw_iload_n (aw_d q_Cm_parseBare 6 rfl) rfl rfl ?_
    refine aw_bipush (v := nI 20) (aw_d q_Cm_parseBare 7 rfl) (by decide) ?_
    refine aw_icmpN_gt (tgt := 69) (aw_d q_Cm_parseBare 8 rfl) (by decide) (by (have hc2 := hc.2.1; omega)) (by (have hc2 := hc.2.1; omega)) (fun c13 => by exfalso; (have hc2 := hc.2.1; omega)) (fun c13 => ?_)
    refine aw_aload_n (aw_d q_Cm_parseBare 9 rfl) rfl rfl rfl ?_
    refine aw_getf (aw_d q_Cm_parseBare 10 rfl) fL_Cm_59_Cm rfl rfl ?_
    refine cVr (aw_d q_Cm_parseBare 11 rfl) (sp_next hc hp) vL_Cm_79_Sc rfl rfl rfl rfl rfl rfl ⟨aw_le rfl, aw_le rfl⟩ ?_
    refine aw_istore_n (aw_d q_Cm_parseBare 12 rfl) rfl (aw_le rfl) rfl ?_
    refine aw_iload_n (aw_d q_Cm_parseBare 13 rfl) rfl rfl ?_
    refine cSr (aw_d q_Cm_parseBare 14 rfl) (sp_isBare) sL_Cm_83 rfl rfl rfl rfl ⟨aw_le rfl, aw_le rfl⟩ ?_
    refine aw_ifB_ne (tgt := 33) (aw_d q_Cm_parseBare 15 rfl) (by decide) (fun c28 => ?_) (fun c28 => ?_)
    · refine aw_aload_n (aw_d q_Cm_parseBare 18 rfl) rfl rfl rfl ?_
      refine aw_getf (aw_d q_Cm_parseBare 19 rfl) fL_Cm_59_Cm rfl rfl ?_
      refine aw_getf (aw_d q_Cm_parseBare 20 rfl) fL_Cm_95_Sc rfl rfl ?_
      refine cVr (aw_d q_Cm_parseBare 21 rfl) (sp_Tx_isFull_27 (n := L.length) rfl h20) vL_Cm_99_Tx rfl rfl rfl rfl rfl rfl ⟨aw_le rfl, aw_le rfl⟩ ?_
      refine aw_ifB_eq (tgt := 54) (aw_d q_Cm_parseBare 22 rfl) (by decide) (fun c43 => ?_) (fun c43 => ?_)
      · refine aw_aload_n (aw_d q_Cm_parseBare 27 rfl) rfl rfl rfl ?_
        refine aw_getf (aw_d q_Cm_parseBare 28 rfl) fL_Cm_59_Cm rfl rfl ?_
        refine aw_iload_n (aw_d q_Cm_parseBare 29 rfl) rfl rfl ?_
        refine aw_iconst (v := nI 1) (aw_d q_Cm_parseBare 30 rfl) (by decide) ?_
        refine cVv (aw_d q_Cm_parseBare 31 rfl) (sp_take (by omega)) vL_Cm_110_Sc rfl rfl rfl rfl rfl rfl ⟨aw_le rfl, aw_le rfl⟩ ?_
        refine aw_iinc (aw_d q_Cm_parseBare 32 rfl) rfl (ii1 _) (aw_le rfl) rfl ?_
        refine aw_goto (tgt := 10) (aw_d q_Cm_parseBare 33 rfl) (by decide) ?_
        have hpn := T_lt hc.2.2.2.1 (p := p) (pTx_0 (pTx_ba c28))
        exact AW.to (ih (i + 1) (p + 1) (L ++ [T p]) _ (by omega) (by omega) (by rw [len_add]; omega) (all_add hal (pTx_ba c28)) (he.trans (by rw [cb, if_neg (by rw [c28]; simp), if_neg (by omega)]))) rfl rfl rfl rfl
      · refine aw_aload_n (aw_d q_Cm_parseBare 23 rfl) rfl rfl rfl ?_
        refine aw_getf (aw_d q_Cm_parseBare 24 rfl) fL_Cm_59_Cm rfl rfl ?_
        refine cVr (aw_d q_Cm_parseBare 25 rfl) (sp_fail) vL_Cm_107_Sc rfl rfl rfl rfl rfl rfl ⟨aw_le rfl, aw_le rfl⟩ ?_
        exact aw_zret (aw_d q_Cm_parseBare 26 rfl) rfl (rfl) (by rw [he, cb, if_neg (by rw [c28]; simp), if_pos (by omega)]; exact CE_er CF_i)
    · refine aw_iconst (v := nI 1) (aw_d q_Cm_parseBare 16 rfl) (by decide) ?_
      exact aw_zret (aw_d q_Cm_parseBare 17 rfl) rfl (rfl) (by rw [he, cb, if_pos (by simpa using c28)]; exact CE_ok ⟨rfl, ⟨hp, h20, hal⟩⟩)
set_option maxRecDepth 20000 in
theorem sp_cb {g : aw_G} {S : aw_S} {n : Nat} {T : Nat → Int32} {p : Nat} {q w l k e z : Int32} {f : Nat → Int32} (hc : TPc S n T) (hp : p ≤ n)  : Sp g M_Cm_parseBare 2 43 0 0 [.ref 31] (HP (QC S (nI p) q w l k e z f)) (CE S (cb T 21 p []) (fun (y : tx_T) h => h = HP (QC S (nI y.1) q w l (nI 2) (nI 0) (nI y.2.length) (XA y.2 f)) ∧ txOK n y)) := by
  refine Sp.of rfl (aw_le rfl) ?_
  refine aw_aload_n (aw_d q_Cm_parseBare 0 rfl) rfl rfl rfl ?_
  refine aw_getf (aw_d q_Cm_parseBare 1 rfl) fL_Cm_59_Cm rfl rfl ?_
  refine aw_iconst (v := nI 2) (aw_d q_Cm_parseBare 2 rfl) (by decide) ?_
  refine cVv (aw_d q_Cm_parseBare 3 rfl) (sp_beginTerm) vL_Cm_89_Sc rfl rfl rfl rfl rfl rfl ⟨aw_le rfl, aw_le rfl⟩ ?_
  refine aw_iconst (v := nI 0) (aw_d q_Cm_parseBare 4 rfl) (by decide) ?_
  refine aw_istore_n (aw_d q_Cm_parseBare 5 rfl) rfl (aw_le rfl) rfl ?_
  exact AW.to (lp_cb hc 21 0 p [] _ (by omega) hp (by decide) rfl rfl) rfl rfl rfl (by rw [XA_nil]; rfl)
set_option maxRecDepth 20000 in
theorem lp_xn {g : aw_G} {S : aw_S} {n : Nat} {T : Nat → Int32} {q w l : Int32} {f : Nat → Int32} (hc : TPc S n T) {a : Nat} : ∀ (m i p : Nat) (L : List Int32) (x3 : Option Value), m + i = 21 → p ≤ n → L.length ≤ 20 → L.all pTx = true → xn T 21 a [] = xn T m p L → AW g M_Ta_parseNode (aw_rm 6 134 0 0) (aw_F g 0 0 (CE S (okT 0 a (xn T 21 a [])) (fun (y : tx_T) h => h = HP (QC S (nI (y.1 + 1)) q w l (nI 0) (nI 0) (nI y.2.length) (XA y.2 f)) ∧ y.1 < n ∧ txOK n y ∧ okL 0 y.2 = true))) 18 [some (.ref 32), some (.int (nI a)), some (.int (nI i)), x3] [] (HP (QC S (nI p) q w l (nI 0) (nI 0) (nI (L).length) (XA (L) f))) 0 0 := by
  intro m
  induction m with
  | zero =>
    intro i p L x3 hk hp h20 hal he
    refine aw_iload_n (aw_d q_Ta_parseNode 10 rfl) rfl rfl ?_
    refine aw_bipush (v := nI 20) (aw_d q_Ta_parseNode 11 rfl) (by decide) ?_
    refine aw_icmpN_gt (tgt := 116) (aw_d q_Ta_parseNode 12 rfl) (by decide) (by (have hc2 := hc.2.1; omega)) (by (have hc2 := hc.2.1; omega)) (fun c21 => ?_) (fun c21 => by exfalso; (have hc2 := hc.2.1; omega))
    refine aw_aload_n (aw_d q_Ta_parseNode 55 rfl) rfl rfl rfl ?_
    refine aw_getf (aw_d q_Ta_parseNode 56 rfl) fL_Ta_60_Ta rfl rfl ?_
    refine cVr (aw_d q_Ta_parseNode 57 rfl) (sp_fail) vL_Ta_114_Sc rfl rfl rfl rfl rfl rfl ⟨aw_le rfl, aw_le rfl⟩ ?_
    exact aw_zret (aw_d q_Ta_parseNode 58 rfl) rfl (rfl) (by rw [he]; exact CE_er CF_i)
  | succ m ih =>
    intro i p L x3 hk hp h20 hal he
    refine aw_iload_n (aw_d q_Ta_parseNode 10 rfl) rfl rfl ?_
    refine aw_bipush (v := nI 20) (aw_d q_Ta_parseNode 11 rfl) (by decide) ?_
    refine aw_icmpN_gt (tgt := 116) (aw_d q_Ta_parseNode 12 rfl) (by decide) (by (have hc2 := hc.2.1; omega)) (by (have hc2 := hc.2.1; omega)) (fun c21 => by exfalso; (have hc2 := hc.2.1; omega)) (fun c21 => ?_)
    refine aw_aload_n (aw_d q_Ta_parseNode 13 rfl) rfl rfl rfl ?_
    refine aw_getf (aw_d q_Ta_parseNode 14 rfl) fL_Ta_60_Ta rfl rfl ?_
    refine cVr (aw_d q_Ta_parseNode 15 rfl) (sp_next hc hp) vL_Ta_64_Sc rfl rfl rfl rfl rfl rfl ⟨aw_le rfl, aw_le rfl⟩ ?_
    refine aw_istore_n (aw_d q_Ta_parseNode 16 rfl) rfl (aw_le rfl) rfl ?_
    refine aw_iload_n (aw_d q_Ta_parseNode 17 rfl) rfl rfl ?_
    refine aw_bipush (v := nI 62) (aw_d q_Ta_parseNode 18 rfl) (by decide) ?_
    refine aw_icmpI_ne (tgt := 73) (aw_d q_Ta_parseNode 19 rfl) (by decide) (by (have hc2 := hc.2.1; omega)) (fun c35 => ?_) (fun c35 => ?_)
    · refine aw_aload_n (aw_d q_Ta_parseNode 36 rfl) rfl rfl rfl ?_
      refine aw_getf (aw_d q_Ta_parseNode 37 rfl) fL_Ta_60_Ta rfl rfl ?_
      refine aw_getf (aw_d q_Ta_parseNode 38 rfl) fL_Ta_92_Sc rfl rfl ?_
      refine cVr (aw_d q_Ta_parseNode 39 rfl) (sp_Tx_isFull_27 (n := L.length) rfl h20) vL_Ta_108_Tx rfl rfl rfl rfl rfl rfl ⟨aw_le rfl, aw_le rfl⟩ ?_
      refine aw_ifB_ne (tgt := 93) (aw_d q_Ta_parseNode 40 rfl) (by decide) (fun c83 => ?_) (fun c83 => ?_)
      · refine aw_aload_n (aw_d q_Ta_parseNode 44 rfl) rfl rfl rfl ?_
        refine aw_getf (aw_d q_Ta_parseNode 45 rfl) fL_Ta_60_Ta rfl rfl ?_
        refine cVr (aw_d q_Ta_parseNode 46 rfl) (sp_fail) vL_Ta_114_Sc rfl rfl rfl rfl rfl rfl ⟨aw_le rfl, aw_le rfl⟩ ?_
        exact aw_zret (aw_d q_Ta_parseNode 47 rfl) rfl (rfl) (by rw [he, xn, if_neg (by omega), if_pos (by first | exact Or.inl (by omega) | exact Or.inr (by simpa using c90))]; exact CE_er CF_i)
      · refine aw_iload_n (aw_d q_Ta_parseNode 41 rfl) rfl rfl ?_
        refine cSr (aw_d q_Ta_parseNode 42 rfl) (sp_RF_isTextByte) sL_Ta_111 rfl rfl rfl rfl ⟨aw_le rfl, aw_le rfl⟩ ?_
        refine aw_ifB_ne (tgt := 101) (aw_d q_Ta_parseNode 43 rfl) (by decide) (fun c90 => ?_) (fun c90 => ?_)
        · refine aw_aload_n (aw_d q_Ta_parseNode 48 rfl) rfl rfl rfl ?_
          refine aw_getf (aw_d q_Ta_parseNode 49 rfl) fL_Ta_60_Ta rfl rfl ?_
          refine aw_iload_n (aw_d q_Ta_parseNode 50 rfl) rfl rfl ?_
          refine aw_iconst (v := nI 1) (aw_d q_Ta_parseNode 51 rfl) (by decide) ?_
          refine cVv (aw_d q_Ta_parseNode 52 rfl) (sp_take (by omega)) vL_Ta_117_Sc rfl rfl rfl rfl rfl rfl ⟨aw_le rfl, aw_le rfl⟩ ?_
          refine aw_iinc (aw_d q_Ta_parseNode 53 rfl) rfl (ii1 _) (aw_le rfl) rfl ?_
          refine aw_goto (tgt := 18) (aw_d q_Ta_parseNode 54 rfl) (by decide) ?_
          have hpn := T_lt hc.2.2.2.1 (p := p) (pTx_0 c90)
          exact AW.to (ih (i + 1) (p + 1) (L ++ [T p]) _ (by omega) (by omega) (by rw [len_add]; omega) (all_add hal c90) (he.trans (by rw [xn, if_neg (by omega), if_neg (fun q => q.elim (by omega) (fun q => by rw [c90] at q; cases q))]))) rfl rfl rfl rfl
        · refine aw_aload_n (aw_d q_Ta_parseNode 44 rfl) rfl rfl rfl ?_
          refine aw_getf (aw_d q_Ta_parseNode 45 rfl) fL_Ta_60_Ta rfl rfl ?_
          refine cVr (aw_d q_Ta_parseNode 46 rfl) (sp_fail) vL_Ta_114_Sc rfl rfl rfl rfl rfl rfl ⟨aw_le rfl, aw_le rfl⟩ ?_
          exact aw_zret (aw_d q_Ta_parseNode 47 rfl) rfl (rfl) (by rw [he, xn, if_neg (by omega), if_pos (by first | exact Or.inl (by omega) | exact Or.inr (by simpa using c90))]; exact CE_er CF_i)
    · refine aw_aload_n (aw_d q_Ta_parseNode 20 rfl) rfl rfl rfl ?_
      refine aw_getf (aw_d q_Ta_parseNode 21 rfl) fL_Ta_60_Ta rfl rfl ?_
      refine aw_getf (aw_d q_Ta_parseNode 22 rfl) fL_Ta_92_Sc rfl rfl ?_
      refine aw_iconst (v := nI 0) (aw_d q_Ta_parseNode 23 rfl) (by decide) ?_
      refine cVr (aw_d q_Ta_parseNode 24 rfl) (sp_isOfL h20 (by decide)) vL_Ta_96_Tx rfl rfl rfl rfl rfl rfl ⟨aw_le rfl, aw_le rfl⟩ ?_
      refine aw_ifB_eq (tgt := 64) (aw_d q_Ta_parseNode 25 rfl) (by decide) (fun c49 => ?_) (fun c49 => ?_)
      · refine aw_aload_n (aw_d q_Ta_parseNode 31 rfl) rfl rfl rfl ?_
        refine aw_getf (aw_d q_Ta_parseNode 32 rfl) fL_Ta_60_Ta rfl rfl ?_
        refine aw_iload_n (aw_d q_Ta_parseNode 33 rfl) rfl rfl ?_
        refine cVr (aw_d q_Ta_parseNode 34 rfl) (sp_failAt) vL_Ta_105_Sc rfl rfl rfl rfl rfl rfl ⟨aw_le rfl, aw_le rfl⟩ ?_
        exact aw_zret (aw_d q_Ta_parseNode 35 rfl) rfl (rfl) (by rw [he, xn, if_pos (by omega), okT, bd_ok, if_neg c49]; exact CE_er CF_i)
      · refine aw_aload_n (aw_d q_Ta_parseNode 26 rfl) rfl rfl rfl ?_
        refine aw_getf (aw_d q_Ta_parseNode 27 rfl) fL_Ta_60_Ta rfl rfl ?_
        refine aw_bipush (v := nI 62) (aw_d q_Ta_parseNode 28 rfl) (by decide) ?_
        refine cVr (aw_d q_Ta_parseNode 29 rfl) (sp_took hc hp (B := 62) rfl) vL_Ta_102_Sc rfl rfl rfl rfl rfl rfl ⟨aw_le rfl, aw_le rfl⟩ ?_
        refine aw_goto (tgt := 72) (aw_d q_Ta_parseNode 30 rfl) (by decide) ?_
        exact aw_zret (aw_d q_Ta_parseNode 35 rfl) rfl (nB) (by have hpn := T_lt hc.2.2.2.1 (p := p) (by omega); rw [he, xn, if_pos (by omega), okT, bd_ok, if_pos c49, if_pos (by omega), if_pos (by omega)]; exact CE_ok ⟨rfl, hpn, ⟨hp, h20, hal⟩, c49⟩)
set_option maxRecDepth 20000 in
theorem sp_xn {g : aw_G} {S : aw_S} {n : Nat} {T : Nat → Int32} {p : Nat} {q w l k e z : Int32} {f : Nat → Int32} (hc : TPc S n T) (hp : p ≤ n)  : Sp g M_Ta_parseNode 6 134 0 0 [.ref 32] (HP (QC S (nI p) q w l k e z f)) (CE S (okT 0 p (xn T 21 p [])) (fun (y : tx_T) h => h = HP (QC S (nI (y.1 + 1)) q w l (nI 0) (nI 0) (nI y.2.length) (XA y.2 f)) ∧ y.1 < n ∧ txOK n y ∧ okL 0 y.2 = true)) := by
  refine Sp.of rfl (aw_le rfl) ?_
  refine aw_aload_n (aw_d q_Ta_parseNode 0 rfl) rfl rfl rfl ?_
  refine aw_getf (aw_d q_Ta_parseNode 1 rfl) fL_Ta_60_Ta rfl rfl ?_
  refine aw_getf (v := .int (nI (p))) (aw_d q_Ta_parseNode 2 rfl) fL_Ta_84_Sc rfl (gk rfl) ?_
  refine aw_istore_n (aw_d q_Ta_parseNode 3 rfl) rfl (aw_le rfl) rfl ?_
  refine aw_aload_n (aw_d q_Ta_parseNode 4 rfl) rfl rfl rfl ?_
  refine aw_getf (aw_d q_Ta_parseNode 5 rfl) fL_Ta_60_Ta rfl rfl ?_
  refine aw_iconst (v := nI 0) (aw_d q_Ta_parseNode 6 rfl) (by decide) ?_
  refine cVv (aw_d q_Ta_parseNode 7 rfl) (sp_beginTerm) vL_Ta_88_Sc rfl rfl rfl rfl rfl rfl ⟨aw_le rfl, aw_le rfl⟩ ?_
  refine aw_iconst (v := nI 0) (aw_d q_Ta_parseNode 8 rfl) (by decide) ?_
  refine aw_istore_n (aw_d q_Ta_parseNode 9 rfl) rfl (aw_le rfl) rfl ?_
  exact AW.to (lp_xn hc 21 0 p [] _ (by omega) hp (by decide) rfl rfl) rfl rfl rfl (by rw [XA_nil]; rfl)
set_option maxRecDepth 20000 in
theorem lp_bk_31 {g : aw_G} {S : aw_S} {n : Nat} {T : Nat → Int32} {q w l : Int32} {f : Nat → Int32} (hc : TPc S n T) {a : Nat} : ∀ (m i p : Nat) (L : List Int32), m + i = 9 → p ≤ n → L.length ≤ 20 → L.all pTx = true → L.length = i → bk T 9 a [] = bk T m p L → AW g M_Ln_parseBlank (aw_rm 6 134 0 0) (aw_F g 0 0 (CE S (bkT T a) (fun (y : tx_T) h => h = HP (QC S (nI y.1) q w l (nI 1) (nI 0) (nI y.2.length) (XA y.2 f)) ∧ txOK n y ∧ okL 1 y.2 = true))) 18 [some (.ref 31), some (.int (nI a)), some (.int (nI i))] [] (HP (QC S (nI p) q w l (nI 1) (nI 0) (nI (L).length) (XA (L) f))) 0 0 := by
  intro m
  induction m with
  | zero =>
    intro i p L hk hp h20 hal hli he
    refine aw_iload_n (aw_d q_Ln_parseBlank 10 rfl) rfl rfl ?_
    refine aw_bipush (v := nI 8) (aw_d q_Ln_parseBlank 11 rfl) (by decide) ?_
    refine aw_icmpN_gt (tgt := 58) (aw_d q_Ln_parseBlank 12 rfl) (by decide) (by (have hc2 := hc.2.1; omega)) (by (have hc2 := hc.2.1; omega)) (fun c21 => ?_) (fun c21 => by exfalso; (have hc2 := hc.2.1; omega))
    refine aw_aload_n (aw_d q_Ln_parseBlank 27 rfl) rfl rfl rfl ?_
    refine aw_getf (aw_d q_Ln_parseBlank 28 rfl) fL_Ln_9_Cm rfl rfl ?_
    refine aw_getf (aw_d q_Ln_parseBlank 29 rfl) fL_Ln_126_Sc rfl rfl ?_
    refine aw_iconst (v := nI 1) (aw_d q_Ln_parseBlank 30 rfl) (by decide) ?_
    refine cVr (aw_d q_Ln_parseBlank 31 rfl) (sp_isOfL h20 (by decide)) vL_Ln_150_Tx rfl rfl rfl rfl rfl rfl ⟨aw_le rfl, aw_le rfl⟩ ?_
    refine aw_ifB_ne (tgt := 83) (aw_d q_Ln_parseBlank 32 rfl) (by decide) (fun c69 => ?_) (fun c69 => ?_)
    · refine aw_iconst (v := nI 1) (aw_d q_Ln_parseBlank 38 rfl) (by decide) ?_
      refine aw_goto (tgt := 88) (aw_d q_Ln_parseBlank 39 rfl) (by decide) ?_
      exact aw_zret (aw_d q_Ln_parseBlank 41 rfl) rfl (rfl) (by rw [bkT, he, bk, okT, bd_ok]; first | (rw [if_pos c69]; exact CE_ok ⟨rfl, ⟨hp, h20, hal⟩, c69⟩) | (rw [if_neg c69]; exact CE_er CF_i))
    · refine aw_aload_n (aw_d q_Ln_parseBlank 33 rfl) rfl rfl rfl ?_
      refine aw_getf (aw_d q_Ln_parseBlank 34 rfl) fL_Ln_9_Cm rfl rfl ?_
      refine aw_iload_n (aw_d q_Ln_parseBlank 35 rfl) rfl rfl ?_
      refine cVr (aw_d q_Ln_parseBlank 36 rfl) (sp_failAt) vL_Ln_155_Sc rfl rfl rfl rfl rfl rfl ⟨aw_le rfl, aw_le rfl⟩ ?_
      refine aw_ifN_eq (tgt := 87) (aw_d q_Ln_parseBlank 37 rfl) (by decide) (by (have hc2 := hc.2.1; omega)) (fun c80 => ?_) (fun c80 => by exfalso; (have hc2 := hc.2.1; omega))
      refine aw_iconst (v := nI 0) (aw_d q_Ln_parseBlank 40 rfl) (by decide) ?_
      exact aw_zret (aw_d q_Ln_parseBlank 41 rfl) rfl (rfl) (by rw [bkT, he, bk, okT, bd_ok]; first | (rw [if_pos c69]; exact CE_ok ⟨rfl, ⟨hp, h20, hal⟩, c69⟩) | (rw [if_neg c69]; exact CE_er CF_i))
  | succ m ih =>
    intro i p L hk hp h20 hal hli he
    refine aw_iload_n (aw_d q_Ln_parseBlank 10 rfl) rfl rfl ?_
    refine aw_bipush (v := nI 8) (aw_d q_Ln_parseBlank 11 rfl) (by decide) ?_
    refine aw_icmpN_gt (tgt := 58) (aw_d q_Ln_parseBlank 12 rfl) (by decide) (by (have hc2 := hc.2.1; omega)) (by (have hc2 := hc.2.1; omega)) (fun c21 => by exfalso; (have hc2 := hc.2.1; omega)) (fun c21 => ?_)
    refine aw_aload_n (aw_d q_Ln_parseBlank 13 rfl) rfl rfl rfl ?_
    refine aw_getf (aw_d q_Ln_parseBlank 14 rfl) fL_Ln_9_Cm rfl rfl ?_
    refine cVr (aw_d q_Ln_parseBlank 15 rfl) (sp_next hc hp) vL_Ln_92_Sc rfl rfl rfl rfl rfl rfl ⟨aw_le rfl, aw_le rfl⟩ ?_
    refine cSr (aw_d q_Ln_parseBlank 16 rfl) (sp_RF_isLetterOrDigit) sL_Ln_143 rfl rfl rfl rfl ⟨aw_le rfl, aw_le rfl⟩ ?_
    refine aw_ifB_eq (tgt := 58) (aw_d q_Ln_parseBlank 17 rfl) (by decide) (fun c34 => ?_) (fun c34 => ?_)
    · refine aw_aload_n (aw_d q_Ln_parseBlank 27 rfl) rfl rfl rfl ?_
      refine aw_getf (aw_d q_Ln_parseBlank 28 rfl) fL_Ln_9_Cm rfl rfl ?_
      refine aw_getf (aw_d q_Ln_parseBlank 29 rfl) fL_Ln_126_Sc rfl rfl ?_
      refine aw_iconst (v := nI 1) (aw_d q_Ln_parseBlank 30 rfl) (by decide) ?_
      refine cVr (aw_d q_Ln_parseBlank 31 rfl) (sp_isOfL h20 (by decide)) vL_Ln_150_Tx rfl rfl rfl rfl rfl rfl ⟨aw_le rfl, aw_le rfl⟩ ?_
      refine aw_ifB_ne (tgt := 83) (aw_d q_Ln_parseBlank 32 rfl) (by decide) (fun c69 => ?_) (fun c69 => ?_)
      · refine aw_iconst (v := nI 1) (aw_d q_Ln_parseBlank 38 rfl) (by decide) ?_
        refine aw_goto (tgt := 88) (aw_d q_Ln_parseBlank 39 rfl) (by decide) ?_
        exact aw_zret (aw_d q_Ln_parseBlank 41 rfl) rfl (rfl) (by rw [bkT, he, bk, if_neg c34, okT, bd_ok]; first | (rw [if_pos c69]; exact CE_ok ⟨rfl, ⟨hp, h20, hal⟩, c69⟩) | (rw [if_neg c69]; exact CE_er CF_i))
      · refine aw_aload_n (aw_d q_Ln_parseBlank 33 rfl) rfl rfl rfl ?_
        refine aw_getf (aw_d q_Ln_parseBlank 34 rfl) fL_Ln_9_Cm rfl rfl ?_
        refine aw_iload_n (aw_d q_Ln_parseBlank 35 rfl) rfl rfl ?_
        refine cVr (aw_d q_Ln_parseBlank 36 rfl) (sp_failAt) vL_Ln_155_Sc rfl rfl rfl rfl rfl rfl ⟨aw_le rfl, aw_le rfl⟩ ?_
        refine aw_ifN_eq (tgt := 87) (aw_d q_Ln_parseBlank 37 rfl) (by decide) (by (have hc2 := hc.2.1; omega)) (fun c80 => ?_) (fun c80 => by exfalso; (have hc2 := hc.2.1; omega))
        refine aw_iconst (v := nI 0) (aw_d q_Ln_parseBlank 40 rfl) (by decide) ?_
        exact aw_zret (aw_d q_Ln_parseBlank 41 rfl) rfl (rfl) (by rw [bkT, he, bk, if_neg c34, okT, bd_ok]; first | (rw [if_pos c69]; exact CE_ok ⟨rfl, ⟨hp, h20, hal⟩, c69⟩) | (rw [if_neg c69]; exact CE_er CF_i))
    · refine aw_aload_n (aw_d q_Ln_parseBlank 18 rfl) rfl rfl rfl ?_
      refine aw_getf (aw_d q_Ln_parseBlank 19 rfl) fL_Ln_9_Cm rfl rfl ?_
      refine aw_aload_n (aw_d q_Ln_parseBlank 20 rfl) rfl rfl rfl ?_
      refine aw_getf (aw_d q_Ln_parseBlank 21 rfl) fL_Ln_9_Cm rfl rfl ?_
      refine cVr (aw_d q_Ln_parseBlank 22 rfl) (sp_next hc hp) vL_Ln_92_Sc rfl rfl rfl rfl rfl rfl ⟨aw_le rfl, aw_le rfl⟩ ?_
      refine aw_iconst (v := nI 1) (aw_d q_Ln_parseBlank 23 rfl) (by decide) ?_
      refine cVv (aw_d q_Ln_parseBlank 24 rfl) (sp_take (by omega)) vL_Ln_146_Sc rfl rfl rfl rfl rfl rfl ⟨aw_le rfl, aw_le rfl⟩ ?_
      refine aw_iinc (aw_d q_Ln_parseBlank 25 rfl) rfl (ii1 _) (aw_le rfl) rfl ?_
      refine aw_goto (tgt := 18) (aw_d q_Ln_parseBlank 26 rfl) (by decide) ?_
      have hpn := T_lt hc.2.2.2.1 (p := p) (pTx_0 (pTx_ld c34))
      exact AW.to (ih (i + 1) (p + 1) (L ++ [T p]) (by omega) (by omega) (by rw [len_add]; omega) (all_add hal (pTx_ld c34)) (by rw [len_add]; omega) (he.trans (by rw [bk, if_pos c34]))) rfl rfl rfl rfl
set_option maxRecDepth 20000 in
theorem sp_bk_31 {g : aw_G} {S : aw_S} {n : Nat} {T : Nat → Int32} {p : Nat} {q w l k e z : Int32} {f : Nat → Int32} (hc : TPc S n T) (hp : p ≤ n)  : Sp g M_Ln_parseBlank 6 134 0 0 [.ref 31] (HP (QC S (nI p) q w l k e z f)) (CE S (bkT T p) (fun (y : tx_T) h => h = HP (QC S (nI y.1) q w l (nI 1) (nI 0) (nI y.2.length) (XA y.2 f)) ∧ txOK n y ∧ okL 1 y.2 = true)) := by
  refine Sp.of rfl (aw_le rfl) ?_
  refine aw_aload_n (aw_d q_Ln_parseBlank 0 rfl) rfl rfl rfl ?_
  refine aw_getf (aw_d q_Ln_parseBlank 1 rfl) fL_Ln_9_Cm rfl rfl ?_
  refine aw_getf (v := .int (nI (p))) (aw_d q_Ln_parseBlank 2 rfl) fL_Ln_140_Sc rfl (gk rfl) ?_
  refine aw_istore_n (aw_d q_Ln_parseBlank 3 rfl) rfl (aw_le rfl) rfl ?_
  refine aw_aload_n (aw_d q_Ln_parseBlank 4 rfl) rfl rfl rfl ?_
  refine aw_getf (aw_d q_Ln_parseBlank 5 rfl) fL_Ln_9_Cm rfl rfl ?_
  refine aw_iconst (v := nI 1) (aw_d q_Ln_parseBlank 6 rfl) (by decide) ?_
  refine cVv (aw_d q_Ln_parseBlank 7 rfl) (sp_beginTerm) vL_Ln_114_Sc rfl rfl rfl rfl rfl rfl ⟨aw_le rfl, aw_le rfl⟩ ?_
  refine aw_iconst (v := nI 0) (aw_d q_Ln_parseBlank 8 rfl) (by decide) ?_
  refine aw_istore_n (aw_d q_Ln_parseBlank 9 rfl) rfl (aw_le rfl) rfl ?_
  exact AW.to (lp_bk_31 hc 9 0 p [] (by omega) hp (by decide) rfl rfl rfl) rfl rfl rfl (by rw [XA_nil]; rfl)
set_option maxRecDepth 20000 in
theorem lp_bk_32 {g : aw_G} {S : aw_S} {n : Nat} {T : Nat → Int32} {q w l : Int32} {f : Nat → Int32} (hc : TPc S n T) {a : Nat} : ∀ (m i p : Nat) (L : List Int32), m + i = 9 → p ≤ n → L.length ≤ 20 → L.all pTx = true → L.length = i → bk T 9 a [] = bk T m p L → AW g M_Ln_parseBlank (aw_rm 6 134 0 0) (aw_F g 0 0 (CE S (bkT T a) (fun (y : tx_T) h => h = HP (QC S (nI y.1) q w l (nI 1) (nI 0) (nI y.2.length) (XA y.2 f)) ∧ txOK n y ∧ okL 1 y.2 = true))) 18 [some (.ref 32), some (.int (nI a)), some (.int (nI i))] [] (HP (QC S (nI p) q w l (nI 1) (nI 0) (nI (L).length) (XA (L) f))) 0 0 := by
  intro m
  induction m with
  | zero =>
    intro i p L hk hp h20 hal hli he
    refine aw_iload_n (aw_d q_Ln_parseBlank 10 rfl) rfl rfl ?_
    refine aw_bipush (v := nI 8) (aw_d q_Ln_parseBlank 11 rfl) (by decide) ?_
    refine aw_icmpN_gt (tgt := 58) (aw_d q_Ln_parseBlank 12 rfl) (by decide) (by (have hc2 := hc.2.1; omega)) (by (have hc2 := hc.2.1; omega)) (fun c21 => ?_) (fun c21 => by exfalso; (have hc2 := hc.2.1; omega))
    refine aw_aload_n (aw_d q_Ln_parseBlank 27 rfl) rfl rfl rfl ?_
    refine aw_getf (aw_d q_Ln_parseBlank 28 rfl) fL_Ln_9_Ta rfl rfl ?_
    refine aw_getf (aw_d q_Ln_parseBlank 29 rfl) fL_Ln_126_Sc rfl rfl ?_
    refine aw_iconst (v := nI 1) (aw_d q_Ln_parseBlank 30 rfl) (by decide) ?_
    refine cVr (aw_d q_Ln_parseBlank 31 rfl) (sp_isOfL h20 (by decide)) vL_Ln_150_Tx rfl rfl rfl rfl rfl rfl ⟨aw_le rfl, aw_le rfl⟩ ?_
    refine aw_ifB_ne (tgt := 83) (aw_d q_Ln_parseBlank 32 rfl) (by decide) (fun c69 => ?_) (fun c69 => ?_)
    · refine aw_iconst (v := nI 1) (aw_d q_Ln_parseBlank 38 rfl) (by decide) ?_
      refine aw_goto (tgt := 88) (aw_d q_Ln_parseBlank 39 rfl) (by decide) ?_
      exact aw_zret (aw_d q_Ln_parseBlank 41 rfl) rfl (rfl) (by rw [bkT, he, bk, okT, bd_ok]; first | (rw [if_pos c69]; exact CE_ok ⟨rfl, ⟨hp, h20, hal⟩, c69⟩) | (rw [if_neg c69]; exact CE_er CF_i))
    · refine aw_aload_n (aw_d q_Ln_parseBlank 33 rfl) rfl rfl rfl ?_
      refine aw_getf (aw_d q_Ln_parseBlank 34 rfl) fL_Ln_9_Ta rfl rfl ?_
      refine aw_iload_n (aw_d q_Ln_parseBlank 35 rfl) rfl rfl ?_
      refine cVr (aw_d q_Ln_parseBlank 36 rfl) (sp_failAt) vL_Ln_155_Sc rfl rfl rfl rfl rfl rfl ⟨aw_le rfl, aw_le rfl⟩ ?_
      refine aw_ifN_eq (tgt := 87) (aw_d q_Ln_parseBlank 37 rfl) (by decide) (by (have hc2 := hc.2.1; omega)) (fun c80 => ?_) (fun c80 => by exfalso; (have hc2 := hc.2.1; omega))
      refine aw_iconst (v := nI 0) (aw_d q_Ln_parseBlank 40 rfl) (by decide) ?_
      exact aw_zret (aw_d q_Ln_parseBlank 41 rfl) rfl (rfl) (by rw [bkT, he, bk, okT, bd_ok]; first | (rw [if_pos c69]; exact CE_ok ⟨rfl, ⟨hp, h20, hal⟩, c69⟩) | (rw [if_neg c69]; exact CE_er CF_i))
  | succ m ih =>
    intro i p L hk hp h20 hal hli he
    refine aw_iload_n (aw_d q_Ln_parseBlank 10 rfl) rfl rfl ?_
    refine aw_bipush (v := nI 8) (aw_d q_Ln_parseBlank 11 rfl) (by decide) ?_
    refine aw_icmpN_gt (tgt := 58) (aw_d q_Ln_parseBlank 12 rfl) (by decide) (by (have hc2 := hc.2.1; omega)) (by (have hc2 := hc.2.1; omega)) (fun c21 => by exfalso; (have hc2 := hc.2.1; omega)) (fun c21 => ?_)
    refine aw_aload_n (aw_d q_Ln_parseBlank 13 rfl) rfl rfl rfl ?_
    refine aw_getf (aw_d q_Ln_parseBlank 14 rfl) fL_Ln_9_Ta rfl rfl ?_
    refine cVr (aw_d q_Ln_parseBlank 15 rfl) (sp_next hc hp) vL_Ln_92_Sc rfl rfl rfl rfl rfl rfl ⟨aw_le rfl, aw_le rfl⟩ ?_
    refine cSr (aw_d q_Ln_parseBlank 16 rfl) (sp_RF_isLetterOrDigit) sL_Ln_143 rfl rfl rfl rfl ⟨aw_le rfl, aw_le rfl⟩ ?_
    refine aw_ifB_eq (tgt := 58) (aw_d q_Ln_parseBlank 17 rfl) (by decide) (fun c34 => ?_) (fun c34 => ?_)
    · refine aw_aload_n (aw_d q_Ln_parseBlank 27 rfl) rfl rfl rfl ?_
      refine aw_getf (aw_d q_Ln_parseBlank 28 rfl) fL_Ln_9_Ta rfl rfl ?_
      refine aw_getf (aw_d q_Ln_parseBlank 29 rfl) fL_Ln_126_Sc rfl rfl ?_
      refine aw_iconst (v := nI 1) (aw_d q_Ln_parseBlank 30 rfl) (by decide) ?_
      refine cVr (aw_d q_Ln_parseBlank 31 rfl) (sp_isOfL h20 (by decide)) vL_Ln_150_Tx rfl rfl rfl rfl rfl rfl ⟨aw_le rfl, aw_le rfl⟩ ?_
      refine aw_ifB_ne (tgt := 83) (aw_d q_Ln_parseBlank 32 rfl) (by decide) (fun c69 => ?_) (fun c69 => ?_)
      · refine aw_iconst (v := nI 1) (aw_d q_Ln_parseBlank 38 rfl) (by decide) ?_
        refine aw_goto (tgt := 88) (aw_d q_Ln_parseBlank 39 rfl) (by decide) ?_
        exact aw_zret (aw_d q_Ln_parseBlank 41 rfl) rfl (rfl) (by rw [bkT, he, bk, if_neg c34, okT, bd_ok]; first | (rw [if_pos c69]; exact CE_ok ⟨rfl, ⟨hp, h20, hal⟩, c69⟩) | (rw [if_neg c69]; exact CE_er CF_i))
      · refine aw_aload_n (aw_d q_Ln_parseBlank 33 rfl) rfl rfl rfl ?_
        refine aw_getf (aw_d q_Ln_parseBlank 34 rfl) fL_Ln_9_Ta rfl rfl ?_
        refine aw_iload_n (aw_d q_Ln_parseBlank 35 rfl) rfl rfl ?_
        refine cVr (aw_d q_Ln_parseBlank 36 rfl) (sp_failAt) vL_Ln_155_Sc rfl rfl rfl rfl rfl rfl ⟨aw_le rfl, aw_le rfl⟩ ?_
        refine aw_ifN_eq (tgt := 87) (aw_d q_Ln_parseBlank 37 rfl) (by decide) (by (have hc2 := hc.2.1; omega)) (fun c80 => ?_) (fun c80 => by exfalso; (have hc2 := hc.2.1; omega))
        refine aw_iconst (v := nI 0) (aw_d q_Ln_parseBlank 40 rfl) (by decide) ?_
        exact aw_zret (aw_d q_Ln_parseBlank 41 rfl) rfl (rfl) (by rw [bkT, he, bk, if_neg c34, okT, bd_ok]; first | (rw [if_pos c69]; exact CE_ok ⟨rfl, ⟨hp, h20, hal⟩, c69⟩) | (rw [if_neg c69]; exact CE_er CF_i))
    · refine aw_aload_n (aw_d q_Ln_parseBlank 18 rfl) rfl rfl rfl ?_
      refine aw_getf (aw_d q_Ln_parseBlank 19 rfl) fL_Ln_9_Ta rfl rfl ?_
      refine aw_aload_n (aw_d q_Ln_parseBlank 20 rfl) rfl rfl rfl ?_
      refine aw_getf (aw_d q_Ln_parseBlank 21 rfl) fL_Ln_9_Ta rfl rfl ?_
      refine cVr (aw_d q_Ln_parseBlank 22 rfl) (sp_next hc hp) vL_Ln_92_Sc rfl rfl rfl rfl rfl rfl ⟨aw_le rfl, aw_le rfl⟩ ?_
      refine aw_iconst (v := nI 1) (aw_d q_Ln_parseBlank 23 rfl) (by decide) ?_
      refine cVv (aw_d q_Ln_parseBlank 24 rfl) (sp_take (by omega)) vL_Ln_146_Sc rfl rfl rfl rfl rfl rfl ⟨aw_le rfl, aw_le rfl⟩ ?_
      refine aw_iinc (aw_d q_Ln_parseBlank 25 rfl) rfl (ii1 _) (aw_le rfl) rfl ?_
      refine aw_goto (tgt := 18) (aw_d q_Ln_parseBlank 26 rfl) (by decide) ?_
      have hpn := T_lt hc.2.2.2.1 (p := p) (pTx_0 (pTx_ld c34))
      exact AW.to (ih (i + 1) (p + 1) (L ++ [T p]) (by omega) (by omega) (by rw [len_add]; omega) (all_add hal (pTx_ld c34)) (by rw [len_add]; omega) (he.trans (by rw [bk, if_pos c34]))) rfl rfl rfl rfl
set_option maxRecDepth 20000 in
theorem sp_bk_32 {g : aw_G} {S : aw_S} {n : Nat} {T : Nat → Int32} {p : Nat} {q w l k e z : Int32} {f : Nat → Int32} (hc : TPc S n T) (hp : p ≤ n)  : Sp g M_Ln_parseBlank 6 134 0 0 [.ref 32] (HP (QC S (nI p) q w l k e z f)) (CE S (bkT T p) (fun (y : tx_T) h => h = HP (QC S (nI y.1) q w l (nI 1) (nI 0) (nI y.2.length) (XA y.2 f)) ∧ txOK n y ∧ okL 1 y.2 = true)) := by
  refine Sp.of rfl (aw_le rfl) ?_
  refine aw_aload_n (aw_d q_Ln_parseBlank 0 rfl) rfl rfl rfl ?_
  refine aw_getf (aw_d q_Ln_parseBlank 1 rfl) fL_Ln_9_Ta rfl rfl ?_
  refine aw_getf (v := .int (nI (p))) (aw_d q_Ln_parseBlank 2 rfl) fL_Ln_140_Sc rfl (gk rfl) ?_
  refine aw_istore_n (aw_d q_Ln_parseBlank 3 rfl) rfl (aw_le rfl) rfl ?_
  refine aw_aload_n (aw_d q_Ln_parseBlank 4 rfl) rfl rfl rfl ?_
  refine aw_getf (aw_d q_Ln_parseBlank 5 rfl) fL_Ln_9_Ta rfl rfl ?_
  refine aw_iconst (v := nI 1) (aw_d q_Ln_parseBlank 6 rfl) (by decide) ?_
  refine cVv (aw_d q_Ln_parseBlank 7 rfl) (sp_beginTerm) vL_Ln_114_Sc rfl rfl rfl rfl rfl rfl ⟨aw_le rfl, aw_le rfl⟩ ?_
  refine aw_iconst (v := nI 0) (aw_d q_Ln_parseBlank 8 rfl) (by decide) ?_
  refine aw_istore_n (aw_d q_Ln_parseBlank 9 rfl) rfl (aw_le rfl) rfl ?_
  exact AW.to (lp_bk_32 hc 9 0 p [] (by omega) hp (by decide) rfl rfl rfl) rfl rfl rfl (by rw [XA_nil]; rfl)
set_option maxRecDepth 20000 in
theorem sp_kindWord {g : aw_G} {S : aw_S} {n : Nat} {T : Nat → Int32} {p : Nat} {q w l k e z : Int32} {X : Nat → Int32} (hc : TPc S n T) (hp : p ≤ n) : Sp g M_Sc_kindWord 5 107 0 0 [.ref 26] (HP (QC S (nI p) q w l k e z X)) (CE S (kw T n p) (fun (y : Nat × Nat) h => (∃ w l, h = HP (QC S (nI y.1) q w l (nI y.2) (nI 0) (nI 0) X)) ∧ y.1 ≤ n ∧ y.2 ≤ 2)) := by
  refine Sp.of rfl (aw_le rfl) ?_
  refine aw_aload_n (aw_d q_Sc_kindWord 0 rfl) rfl rfl rfl ?_
  refine cVv (aw_d q_Sc_kindWord 1 rfl) (sp_word hc hp) vL_Sc_96_Sc rfl rfl rfl rfl rfl rfl ⟨aw_le rfl, aw_le rfl⟩ ?_
  refine aw_aload_n (aw_d q_Sc_kindWord 2 rfl) rfl rfl rfl ?_
  refine aw_ldcS (aw_d q_Sc_kindWord 3 rfl) tL_Sc_115 ?_
  refine cVr (aw_d q_Sc_kindWord 4 rfl) (sp_isWord hc (a := p) (b := we T n p) (j := 67) (we_le hp).1 (we_le hp).2 (by decide)) vL_Sc_117_Sc rfl rfl rfl rfl rfl rfl ⟨aw_le rfl, aw_le rfl⟩ ?_
  refine aw_ifB_eq (tgt := 21) (aw_d q_Sc_kindWord 5 rfl) (by decide) (fun c10 => ?_) (fun c10 => ?_)
  · refine aw_aload_n (aw_d q_Sc_kindWord 10 rfl) rfl rfl rfl ?_
    refine aw_ldcS (aw_d q_Sc_kindWord 11 rfl) tL_Sc_121 ?_
    refine cVr (aw_d q_Sc_kindWord 12 rfl) (sp_isWord hc (a := p) (b := we T n p) (j := 68) (we_le hp).1 (we_le hp).2 (by decide)) vL_Sc_117_Sc rfl rfl rfl rfl rfl rfl ⟨aw_le rfl, aw_le rfl⟩ ?_
    refine aw_ifB_eq (tgt := 38) (aw_d q_Sc_kindWord 13 rfl) (by decide) (fun c27 => ?_) (fun c27 => ?_)
    · refine aw_aload_n (aw_d q_Sc_kindWord 18 rfl) rfl rfl rfl ?_
      refine aw_ldcS (aw_d q_Sc_kindWord 19 rfl) tL_Sc_123 ?_
      refine cVr (aw_d q_Sc_kindWord 20 rfl) (sp_isWord hc (a := p) (b := we T n p) (j := 69) (we_le hp).1 (we_le hp).2 (by decide)) vL_Sc_117_Sc rfl rfl rfl rfl rfl rfl ⟨aw_le rfl, aw_le rfl⟩ ?_
      refine aw_ifB_eq (tgt := 55) (aw_d q_Sc_kindWord 21 rfl) (by decide) (fun c44 => ?_) (fun c44 => ?_)
      · refine aw_aload_n (aw_d q_Sc_kindWord 26 rfl) rfl rfl rfl ?_
        refine aw_aload_n (aw_d q_Sc_kindWord 27 rfl) rfl rfl rfl ?_
        refine aw_getf (v := .int (nI (p))) (aw_d q_Sc_kindWord 28 rfl) fL_Sc_32_Sc rfl (gk rfl) ?_
        refine cVr (aw_d q_Sc_kindWord 29 rfl) (sp_failAt) vL_Sc_99_Sc rfl rfl rfl rfl rfl rfl ⟨aw_le rfl, aw_le rfl⟩ ?_
        exact aw_zret (aw_d q_Sc_kindWord 30 rfl) rfl (rfl) (by rw [kw, if_neg c10, if_neg c27, if_neg c44]; exact CE_er CF_i)
      · refine aw_aload_n (aw_d q_Sc_kindWord 22 rfl) rfl rfl rfl ?_
        refine aw_iconst (v := nI 2) (aw_d q_Sc_kindWord 23 rfl) (by decide) ?_
        refine cVv (aw_d q_Sc_kindWord 24 rfl) (sp_beginTerm) vL_Sc_38_Sc rfl rfl rfl rfl rfl rfl ⟨aw_le rfl, aw_le rfl⟩ ?_
        refine aw_goto (tgt := 64) (aw_d q_Sc_kindWord 25 rfl) (by decide) ?_
        refine aw_iconst (v := nI 1) (aw_d q_Sc_kindWord 31 rfl) (by decide) ?_
        exact aw_zret (aw_d q_Sc_kindWord 32 rfl) rfl (rfl) (by have hwe := (we_le (T := T) hp).2; rw [kw, if_neg c10, if_neg c27, if_pos c44]; exact CE_ok ⟨⟨_, _, rfl⟩, hwe, aw_le rfl⟩)
    · refine aw_aload_n (aw_d q_Sc_kindWord 14 rfl) rfl rfl rfl ?_
      refine aw_iconst (v := nI 1) (aw_d q_Sc_kindWord 15 rfl) (by decide) ?_
      refine cVv (aw_d q_Sc_kindWord 16 rfl) (sp_beginTerm) vL_Sc_38_Sc rfl rfl rfl rfl rfl rfl ⟨aw_le rfl, aw_le rfl⟩ ?_
      refine aw_goto (tgt := 64) (aw_d q_Sc_kindWord 17 rfl) (by decide) ?_
      refine aw_iconst (v := nI 1) (aw_d q_Sc_kindWord 31 rfl) (by decide) ?_
      exact aw_zret (aw_d q_Sc_kindWord 32 rfl) rfl (rfl) (by have hwe := (we_le (T := T) hp).2; rw [kw, if_neg c10, if_pos c27]; exact CE_ok ⟨⟨_, _, rfl⟩, hwe, aw_le rfl⟩)
  · refine aw_aload_n (aw_d q_Sc_kindWord 6 rfl) rfl rfl rfl ?_
    refine aw_iconst (v := nI 0) (aw_d q_Sc_kindWord 7 rfl) (by decide) ?_
    refine cVv (aw_d q_Sc_kindWord 8 rfl) (sp_beginTerm) vL_Sc_38_Sc rfl rfl rfl rfl rfl rfl ⟨aw_le rfl, aw_le rfl⟩ ?_
    refine aw_goto (tgt := 64) (aw_d q_Sc_kindWord 9 rfl) (by decide) ?_
    refine aw_iconst (v := nI 1) (aw_d q_Sc_kindWord 31 rfl) (by decide) ?_
    exact aw_zret (aw_d q_Sc_kindWord 32 rfl) rfl (rfl) (by have hwe := (we_le (T := T) hp).2; rw [kw, if_pos c10]; exact CE_ok ⟨⟨_, _, rfl⟩, hwe, aw_le rfl⟩)
theorem let_nI {b : Int32} (h : pLet b = true) : ∃ a : Nat, a < 26 ∧ b = nI (97 + a) := by
  have h := of_decide_eq_true h
  refine ⟨(b.toInt - 97).toNat, by omega, ?_⟩
  rw [← Int32.toInt_inj, nI_toInt (by omega)]
  omega
theorem tgV_eq {T : Nat → Int32} {p : Nat} (h1 : pLet (T p) = true) (h2 : pLet (T (p + 1)) = true) : nI 26 * (T p - nI 97) + T (p + 1) - nI 97 = nI (tgV T p) ∧ tgV T p < 676 := by
  obtain ⟨a, ha, ea⟩ := let_nI h1
  obtain ⟨b, hb, eb⟩ := let_nI h2
  have e1 : tgV T p = 26 * a + b := by
    simp only [tgV]
    rw [ea, eb, nI_toInt (by omega), nI_toInt (by omega)]
    omega
  refine ⟨?_, by omega⟩
  rw [e1, ea, eb, pk_sub (by omega), pk_mul, nI_add, pk_sub (by omega)]
  congr 1
  omega
theorem wm_hd {T : Nat → Int32} {a b i j : Nat} (h1 : wm T a b i = true) (h2 : wm T a b j = true) (hi : 0 < (tx i).length) (hj : 0 < (tx j).length) : ((tx i).getD 0 0).toInt = ((tx j).getD 0 0).toInt := by
  simp only [wm, Bool.and_eq_true] at h1 h2
  have h1 := h1.2
  have h2 := h2.2
  revert h1 h2 hi hj
  generalize tx i = A
  generalize tx j = B
  intro hi hj h1 h2
  cases A with
  | nil => cases hi
  | cons x A =>
    cases B with
    | nil => cases hj
    | cons y B =>
      simp only [mt, Bool.and_eq_true, decide_eq_true_eq] at h1 h2
      exact h1.1.symm.trans h2.1
set_option maxRecDepth 20000 in
theorem sp_extra_3 {g : aw_G} {S : aw_S} {n : Nat} {T : Nat → Int32} {p : Nat} {q w l k e z : Int32} {X : Nat → Int32} (hc : TPc S n T) (hp : p ≤ n) : Sp g M_Sc_extraWord 5 107 0 0 [.ref 26, .int (nI 3)] (HP (QC S (nI p) q w l k e z X)) (CE S (ew T n 3 p) (fun (y : Nat × Nat) h => (∃ w l, h = HP (QC S (nI y.1) q w l (nI 3) (nI y.2) z X)) ∧ y.1 ≤ n ∧ y.2 < 676)) := by
  refine Sp.of rfl (aw_le rfl) ?_
  have hwe := we_le (T := T) hp
  refine aw_aload_n (aw_d q_Sc_extraWord 0 rfl) rfl rfl rfl ?_
  refine cVv (aw_d q_Sc_extraWord 1 rfl) (sp_word hc hp) vL_Sc_96_Sc rfl rfl rfl rfl rfl rfl ⟨aw_le rfl, aw_le rfl⟩ ?_
  refine aw_aload_n (aw_d q_Sc_extraWord 2 rfl) rfl rfl rfl ?_
  refine aw_iload_n (aw_d q_Sc_extraWord 3 rfl) rfl rfl ?_
  refine wi_26_5 (aw_d q_Sc_extraWord 4 rfl) pL_Sc_42_Sc ?_
  refine aw_aload_n (aw_d q_Sc_extraWord 5 rfl) rfl rfl rfl ?_
  refine aw_iconst (v := (-1)) (aw_d q_Sc_extraWord 6 rfl) (by decide) ?_
  refine wi_26_6 (aw_d q_Sc_extraWord 7 rfl) pL_Sc_45_Sc ?_
  refine aw_iload_n (aw_d q_Sc_extraWord 8 rfl) rfl rfl ?_
  refine aw_iconst (v := nI 3) (aw_d q_Sc_extraWord 9 rfl) (by decide) ?_
  refine aw_icmpN_ne (tgt := 65) (aw_d q_Sc_extraWord 10 rfl) (by decide) (by (have hc2 := hc.2.1; omega)) (by (have hc2 := hc.2.1; omega)) (fun c16 => by exfalso; (have hc2 := hc.2.1; omega)) (fun c16 => ?_)
  refine aw_aload_n (aw_d q_Sc_extraWord 11 rfl) rfl rfl rfl ?_
  refine aw_getf (v := .int (nI ((we T n p - p)))) (aw_d q_Sc_extraWord 12 rfl) fL_Sc_35_Sc rfl (gk rfl) ?_
  refine aw_iconst (v := nI 2) (aw_d q_Sc_extraWord 13 rfl) (by decide) ?_
  refine aw_icmpN_ne (tgt := 65) (aw_d q_Sc_extraWord 14 rfl) (by decide) (by (have hc2 := hc.2.1; omega)) (by (have hc2 := hc.2.1; omega)) (fun c24 => ?_) (fun c24 => ?_)
  · refine aw_iconst (v := nI 0) (aw_d q_Sc_extraWord 36 rfl) (by decide) ?_
    refine aw_istore_n (aw_d q_Sc_extraWord 37 rfl) rfl (aw_le rfl) rfl ?_
    refine aw_iload_n (aw_d q_Sc_extraWord 38 rfl) rfl rfl ?_
    refine aw_iconst (v := nI 4) (aw_d q_Sc_extraWord 39 rfl) (by decide) ?_
    refine aw_icmpN_ne (tgt := 99) (aw_d q_Sc_extraWord 40 rfl) (by decide) (by (have hc2 := hc.2.1; omega)) (by (have hc2 := hc.2.1; omega)) (fun c69 => ?_) (fun c69 => by exfalso; (have hc2 := hc.2.1; omega))
    refine aw_aload_n (aw_d q_Sc_extraWord 54 rfl) rfl rfl rfl ?_
    refine aw_getf (v := .int ((-1))) (aw_d q_Sc_extraWord 55 rfl) fL_Sc_45_Sc rfl (gk rfl) ?_
    refine aw_iconst (v := (-1)) (aw_d q_Sc_extraWord 56 rfl) (by decide) ?_
    refine aw_icmpZ_ne (tgt := 118) (aw_d q_Sc_extraWord 57 rfl) (by decide) (fun c104 => by exact absurd rfl c104) (fun c104 => ?_)
    refine aw_aload_n (aw_d q_Sc_extraWord 58 rfl) rfl rfl rfl ?_
    refine aw_aload_n (aw_d q_Sc_extraWord 59 rfl) rfl rfl rfl ?_
    refine aw_getf (v := .int (nI (p))) (aw_d q_Sc_extraWord 60 rfl) fL_Sc_32_Sc rfl (gk rfl) ?_
    refine cVr (aw_d q_Sc_extraWord 61 rfl) (sp_failAt) vL_Sc_99_Sc rfl rfl rfl rfl rfl rfl ⟨aw_le rfl, aw_le rfl⟩ ?_
    refine aw_ifN_eq (tgt := 122) (aw_d q_Sc_extraWord 62 rfl) (by decide) (by (have hc2 := hc.2.1; omega)) (fun c115 => ?_) (fun c115 => by exfalso; (have hc2 := hc.2.1; omega))
    refine aw_iconst (v := nI 0) (aw_d q_Sc_extraWord 65 rfl) (by decide) ?_
    exact aw_zret (aw_d q_Sc_extraWord 66 rfl) rfl (rfl) (by rw [ew, if_pos rfl, if_neg c24]; exact CE_er CF_i)
  · refine aw_aload_n (aw_d q_Sc_extraWord 15 rfl) rfl rfl rfl ?_
    refine aw_bipush (v := nI 26) (aw_d q_Sc_extraWord 16 rfl) (by decide) ?_
    refine aw_aload_n (aw_d q_Sc_extraWord 17 rfl) rfl rfl rfl ?_
    refine aw_getf (aw_d q_Sc_extraWord 18 rfl) fL_Sc_9_Sc rfl rfl ?_
    refine aw_aload_n (aw_d q_Sc_extraWord 19 rfl) rfl rfl rfl ?_
    refine aw_getf (v := .int (nI (p))) (aw_d q_Sc_extraWord 20 rfl) fL_Sc_32_Sc rfl (gk rfl) ?_
    refine cVr (aw_d q_Sc_extraWord 21 rfl) (sp_getT (i := p) hc (by have := (we_le (T := T) hp).2; omega)) vL_Sc_93_By rfl rfl rfl rfl rfl rfl ⟨aw_le rfl, aw_le rfl⟩ ?_
    refine aw_bipush (v := nI 97) (aw_d q_Sc_extraWord 22 rfl) (by decide) ?_
    refine aw_isub (aw_d q_Sc_extraWord 23 rfl) ?_
    refine aw_imul (aw_d q_Sc_extraWord 24 rfl) ?_
    refine aw_aload_n (aw_d q_Sc_extraWord 25 rfl) rfl rfl rfl ?_
    refine aw_getf (aw_d q_Sc_extraWord 26 rfl) fL_Sc_9_Sc rfl rfl ?_
    refine aw_aload_n (aw_d q_Sc_extraWord 27 rfl) rfl rfl rfl ?_
    refine aw_getf (v := .int (nI (p))) (aw_d q_Sc_extraWord 28 rfl) fL_Sc_32_Sc rfl (gk rfl) ?_
    refine aw_iconst (v := nI 1) (aw_d q_Sc_extraWord 29 rfl) (by decide) ?_
    refine aw_iaddN (aw_d q_Sc_extraWord 30 rfl) ?_
    refine cVr (aw_d q_Sc_extraWord 31 rfl) (sp_getT (i := p + 1) hc (by have := (we_le (T := T) hp).2; omega)) vL_Sc_93_By rfl rfl rfl rfl rfl rfl ⟨aw_le rfl, aw_le rfl⟩ ?_
    refine aw_iadd (aw_d q_Sc_extraWord 32 rfl) ?_
    refine aw_bipush (v := nI 97) (aw_d q_Sc_extraWord 33 rfl) (by decide) ?_
    refine aw_isub (aw_d q_Sc_extraWord 34 rfl) ?_
    obtain ⟨htg, htl⟩ := tgV_eq (T := T) (p := p) (runB_all (n - p) p p (by omega) (by show p < we T n p; omega)) (runB_all (n - p) p (p + 1) (by omega) (by show p + 1 < we T n p; omega))
    rw [htg]
    refine wi_26_6 (aw_d q_Sc_extraWord 35 rfl) pL_Sc_45_Sc ?_
    refine aw_iconst (v := nI 0) (aw_d q_Sc_extraWord 36 rfl) (by decide) ?_
    refine aw_istore_n (aw_d q_Sc_extraWord 37 rfl) rfl (aw_le rfl) rfl ?_
    refine aw_iload_n (aw_d q_Sc_extraWord 38 rfl) rfl rfl ?_
    refine aw_iconst (v := nI 4) (aw_d q_Sc_extraWord 39 rfl) (by decide) ?_
    refine aw_icmpN_ne (tgt := 99) (aw_d q_Sc_extraWord 40 rfl) (by decide) (by (have hc2 := hc.2.1; omega)) (by (have hc2 := hc.2.1; omega)) (fun c69 => ?_) (fun c69 => by exfalso; (have hc2 := hc.2.1; omega))
    refine aw_aload_n (aw_d q_Sc_extraWord 54 rfl) rfl rfl rfl ?_
    refine aw_getf (v := .int (nI (tgV T p))) (aw_d q_Sc_extraWord 55 rfl) fL_Sc_45_Sc rfl (gk rfl) ?_
    refine aw_iconst (v := (-1)) (aw_d q_Sc_extraWord 56 rfl) (by decide) ?_
    refine aw_icmpJ_ne (tgt := 118) (aw_d q_Sc_extraWord 57 rfl) (by decide) (by (have hc2 := hc.2.1; omega)) (fun c104 => ?_) (fun c104 => by have := nI_toInt (n := tgV T p) (by omega); have h1 : (-1 : Int32).toInt = -1 := rfl; omega)
    refine aw_iconst (v := nI 1) (aw_d q_Sc_extraWord 63 rfl) (by decide) ?_
    refine aw_goto (tgt := 123) (aw_d q_Sc_extraWord 64 rfl) (by decide) ?_
    exact aw_zret (aw_d q_Sc_extraWord 66 rfl) rfl (rfl) (by rw [ew, if_pos rfl, if_pos c24]; exact CE_ok ⟨⟨_, _, rfl⟩, hwe.2, htl⟩)
set_option maxRecDepth 20000 in
theorem sp_extra_4 {g : aw_G} {S : aw_S} {n : Nat} {T : Nat → Int32} {p : Nat} {q w l k e z : Int32} {X : Nat → Int32} (hc : TPc S n T) (hp : p ≤ n) : Sp g M_Sc_extraWord 5 107 0 0 [.ref 26, .int (nI 4)] (HP (QC S (nI p) q w l k e z X)) (CE S (ew T n 4 p) (fun (y : Nat × Nat) h => (∃ w l, h = HP (QC S (nI y.1) q w l (nI 4) (nI y.2) z X)) ∧ y.1 ≤ n ∧ y.2 < 4)) := by
  refine Sp.of rfl (aw_le rfl) ?_
  have hwe := we_le (T := T) hp
  refine aw_aload_n (aw_d q_Sc_extraWord 0 rfl) rfl rfl rfl ?_
  refine cVv (aw_d q_Sc_extraWord 1 rfl) (sp_word hc hp) vL_Sc_96_Sc rfl rfl rfl rfl rfl rfl ⟨aw_le rfl, aw_le rfl⟩ ?_
  refine aw_aload_n (aw_d q_Sc_extraWord 2 rfl) rfl rfl rfl ?_
  refine aw_iload_n (aw_d q_Sc_extraWord 3 rfl) rfl rfl ?_
  refine wi_26_5 (aw_d q_Sc_extraWord 4 rfl) pL_Sc_42_Sc ?_
  refine aw_aload_n (aw_d q_Sc_extraWord 5 rfl) rfl rfl rfl ?_
  refine aw_iconst (v := (-1)) (aw_d q_Sc_extraWord 6 rfl) (by decide) ?_
  refine wi_26_6 (aw_d q_Sc_extraWord 7 rfl) pL_Sc_45_Sc ?_
  refine aw_iload_n (aw_d q_Sc_extraWord 8 rfl) rfl rfl ?_
  refine aw_iconst (v := nI 3) (aw_d q_Sc_extraWord 9 rfl) (by decide) ?_
  refine aw_icmpN_ne (tgt := 65) (aw_d q_Sc_extraWord 10 rfl) (by decide) (by (have hc2 := hc.2.1; omega)) (by (have hc2 := hc.2.1; omega)) (fun c16 => ?_) (fun c16 => by exfalso; (have hc2 := hc.2.1; omega))
  refine aw_iconst (v := nI 0) (aw_d q_Sc_extraWord 36 rfl) (by decide) ?_
  refine aw_istore_n (aw_d q_Sc_extraWord 37 rfl) rfl (aw_le rfl) rfl ?_
  refine aw_iload_n (aw_d q_Sc_extraWord 38 rfl) rfl rfl ?_
  refine aw_iconst (v := nI 4) (aw_d q_Sc_extraWord 39 rfl) (by decide) ?_
  refine aw_icmpN_ne (tgt := 99) (aw_d q_Sc_extraWord 40 rfl) (by decide) (by (have hc2 := hc.2.1; omega)) (by (have hc2 := hc.2.1; omega)) (fun c69 => by exfalso; (have hc2 := hc.2.1; omega)) (fun c69 => ?_)
  refine aw_iload_n (aw_d q_Sc_extraWord 41 rfl) rfl rfl ?_
  refine aw_iconst (v := nI 4) (aw_d q_Sc_extraWord 42 rfl) (by decide) ?_
  refine aw_icmpN_ge (tgt := 99) (aw_d q_Sc_extraWord 43 rfl) (by decide) (by (have hc2 := hc.2.1; omega)) (by (have hc2 := hc.2.1; omega)) (fun c74 => by exfalso; (have hc2 := hc.2.1; omega)) (fun c74 => ?_)
  refine aw_aload_n (aw_d q_Sc_extraWord 44 rfl) rfl rfl rfl ?_
  refine aw_iload_n (aw_d q_Sc_extraWord 45 rfl) rfl rfl ?_
  refine cSr (aw_d q_Sc_extraWord 46 rfl) (sp_typeName_0) sL_Sc_125 rfl rfl rfl rfl ⟨aw_le rfl, aw_le rfl⟩ ?_
  refine cVr (aw_d q_Sc_extraWord 47 rfl) (sp_isWord hc (a := p) (b := we T n p) (j := 19) (we_le hp).1 (we_le hp).2 (by decide)) vL_Sc_117_Sc rfl rfl rfl rfl rfl rfl ⟨aw_le rfl, aw_le rfl⟩ ?_
  refine aw_ifB_eq (tgt := 93) (aw_d q_Sc_extraWord 48 rfl) (by decide) (fun c85 => ?_) (fun c85 => ?_)
  · have d0 := c85
    refine aw_iinc (aw_d q_Sc_extraWord 52 rfl) rfl (ii1 _) (aw_le rfl) rfl ?_
    refine aw_goto (tgt := 67) (aw_d q_Sc_extraWord 53 rfl) (by decide) ?_
    refine aw_iload_n (aw_d q_Sc_extraWord 38 rfl) rfl rfl ?_
    refine aw_iconst (v := nI 4) (aw_d q_Sc_extraWord 39 rfl) (by decide) ?_
    refine aw_icmpN_ne (tgt := 99) (aw_d q_Sc_extraWord 40 rfl) (by decide) (by (have hc2 := hc.2.1; omega)) (by (have hc2 := hc.2.1; omega)) (fun c69 => by exfalso; (have hc2 := hc.2.1; omega)) (fun c69 => ?_)
    refine aw_iload_n (aw_d q_Sc_extraWord 41 rfl) rfl rfl ?_
    refine aw_iconst (v := nI 4) (aw_d q_Sc_extraWord 42 rfl) (by decide) ?_
    refine aw_icmpN_ge (tgt := 99) (aw_d q_Sc_extraWord 43 rfl) (by decide) (by (have hc2 := hc.2.1; omega)) (by (have hc2 := hc.2.1; omega)) (fun c74 => by exfalso; (have hc2 := hc.2.1; omega)) (fun c74 => ?_)
    refine aw_aload_n (aw_d q_Sc_extraWord 44 rfl) rfl rfl rfl ?_
    refine aw_iload_n (aw_d q_Sc_extraWord 45 rfl) rfl rfl ?_
    refine cSr (aw_d q_Sc_extraWord 46 rfl) (sp_typeName_1) sL_Sc_125 rfl rfl rfl rfl ⟨aw_le rfl, aw_le rfl⟩ ?_
    refine cVr (aw_d q_Sc_extraWord 47 rfl) (sp_isWord hc (a := p) (b := we T n p) (j := 20) (we_le hp).1 (we_le hp).2 (by decide)) vL_Sc_117_Sc rfl rfl rfl rfl rfl rfl ⟨aw_le rfl, aw_le rfl⟩ ?_
    refine aw_ifB_eq (tgt := 93) (aw_d q_Sc_extraWord 48 rfl) (by decide) (fun c85 => ?_) (fun c85 => ?_)
    · have d1 := c85
      refine aw_iinc (aw_d q_Sc_extraWord 52 rfl) rfl (ii1 _) (aw_le rfl) rfl ?_
      refine aw_goto (tgt := 67) (aw_d q_Sc_extraWord 53 rfl) (by decide) ?_
      refine aw_iload_n (aw_d q_Sc_extraWord 38 rfl) rfl rfl ?_
      refine aw_iconst (v := nI 4) (aw_d q_Sc_extraWord 39 rfl) (by decide) ?_
      refine aw_icmpN_ne (tgt := 99) (aw_d q_Sc_extraWord 40 rfl) (by decide) (by (have hc2 := hc.2.1; omega)) (by (have hc2 := hc.2.1; omega)) (fun c69 => by exfalso; (have hc2 := hc.2.1; omega)) (fun c69 => ?_)
      refine aw_iload_n (aw_d q_Sc_extraWord 41 rfl) rfl rfl ?_
      refine aw_iconst (v := nI 4) (aw_d q_Sc_extraWord 42 rfl) (by decide) ?_
      refine aw_icmpN_ge (tgt := 99) (aw_d q_Sc_extraWord 43 rfl) (by decide) (by (have hc2 := hc.2.1; omega)) (by (have hc2 := hc.2.1; omega)) (fun c74 => by exfalso; (have hc2 := hc.2.1; omega)) (fun c74 => ?_)
      refine aw_aload_n (aw_d q_Sc_extraWord 44 rfl) rfl rfl rfl ?_
      refine aw_iload_n (aw_d q_Sc_extraWord 45 rfl) rfl rfl ?_
      refine cSr (aw_d q_Sc_extraWord 46 rfl) (sp_typeName_2) sL_Sc_125 rfl rfl rfl rfl ⟨aw_le rfl, aw_le rfl⟩ ?_
      refine cVr (aw_d q_Sc_extraWord 47 rfl) (sp_isWord hc (a := p) (b := we T n p) (j := 21) (we_le hp).1 (we_le hp).2 (by decide)) vL_Sc_117_Sc rfl rfl rfl rfl rfl rfl ⟨aw_le rfl, aw_le rfl⟩ ?_
      refine aw_ifB_eq (tgt := 93) (aw_d q_Sc_extraWord 48 rfl) (by decide) (fun c85 => ?_) (fun c85 => ?_)
      · have d2 := c85
        refine aw_iinc (aw_d q_Sc_extraWord 52 rfl) rfl (ii1 _) (aw_le rfl) rfl ?_
        refine aw_goto (tgt := 67) (aw_d q_Sc_extraWord 53 rfl) (by decide) ?_
        refine aw_iload_n (aw_d q_Sc_extraWord 38 rfl) rfl rfl ?_
        refine aw_iconst (v := nI 4) (aw_d q_Sc_extraWord 39 rfl) (by decide) ?_
        refine aw_icmpN_ne (tgt := 99) (aw_d q_Sc_extraWord 40 rfl) (by decide) (by (have hc2 := hc.2.1; omega)) (by (have hc2 := hc.2.1; omega)) (fun c69 => by exfalso; (have hc2 := hc.2.1; omega)) (fun c69 => ?_)
        refine aw_iload_n (aw_d q_Sc_extraWord 41 rfl) rfl rfl ?_
        refine aw_iconst (v := nI 4) (aw_d q_Sc_extraWord 42 rfl) (by decide) ?_
        refine aw_icmpN_ge (tgt := 99) (aw_d q_Sc_extraWord 43 rfl) (by decide) (by (have hc2 := hc.2.1; omega)) (by (have hc2 := hc.2.1; omega)) (fun c74 => by exfalso; (have hc2 := hc.2.1; omega)) (fun c74 => ?_)
        refine aw_aload_n (aw_d q_Sc_extraWord 44 rfl) rfl rfl rfl ?_
        refine aw_iload_n (aw_d q_Sc_extraWord 45 rfl) rfl rfl ?_
        refine cSr (aw_d q_Sc_extraWord 46 rfl) (sp_typeName_3) sL_Sc_125 rfl rfl rfl rfl ⟨aw_le rfl, aw_le rfl⟩ ?_
        refine cVr (aw_d q_Sc_extraWord 47 rfl) (sp_isWord hc (a := p) (b := we T n p) (j := 22) (we_le hp).1 (we_le hp).2 (by decide)) vL_Sc_117_Sc rfl rfl rfl rfl rfl rfl ⟨aw_le rfl, aw_le rfl⟩ ?_
        refine aw_ifB_eq (tgt := 93) (aw_d q_Sc_extraWord 48 rfl) (by decide) (fun c85 => ?_) (fun c85 => ?_)
        · have d3 := c85
          refine aw_iinc (aw_d q_Sc_extraWord 52 rfl) rfl (ii1 _) (aw_le rfl) rfl ?_
          refine aw_goto (tgt := 67) (aw_d q_Sc_extraWord 53 rfl) (by decide) ?_
          refine aw_iload_n (aw_d q_Sc_extraWord 38 rfl) rfl rfl ?_
          refine aw_iconst (v := nI 4) (aw_d q_Sc_extraWord 39 rfl) (by decide) ?_
          refine aw_icmpN_ne (tgt := 99) (aw_d q_Sc_extraWord 40 rfl) (by decide) (by (have hc2 := hc.2.1; omega)) (by (have hc2 := hc.2.1; omega)) (fun c69 => by exfalso; (have hc2 := hc.2.1; omega)) (fun c69 => ?_)
          refine aw_iload_n (aw_d q_Sc_extraWord 41 rfl) rfl rfl ?_
          refine aw_iconst (v := nI 4) (aw_d q_Sc_extraWord 42 rfl) (by decide) ?_
          refine aw_icmpN_ge (tgt := 99) (aw_d q_Sc_extraWord 43 rfl) (by decide) (by (have hc2 := hc.2.1; omega)) (by (have hc2 := hc.2.1; omega)) (fun c74 => ?_) (fun c74 => by exfalso; (have hc2 := hc.2.1; omega))
          refine aw_aload_n (aw_d q_Sc_extraWord 54 rfl) rfl rfl rfl ?_
          refine aw_getf (v := .int ((-1))) (aw_d q_Sc_extraWord 55 rfl) fL_Sc_45_Sc rfl (gk rfl) ?_
          refine aw_iconst (v := (-1)) (aw_d q_Sc_extraWord 56 rfl) (by decide) ?_
          refine aw_icmpZ_ne (tgt := 118) (aw_d q_Sc_extraWord 57 rfl) (by decide) (fun c104 => by exact absurd rfl c104) (fun c104 => ?_)
          refine aw_aload_n (aw_d q_Sc_extraWord 58 rfl) rfl rfl rfl ?_
          refine aw_aload_n (aw_d q_Sc_extraWord 59 rfl) rfl rfl rfl ?_
          refine aw_getf (v := .int (nI (p))) (aw_d q_Sc_extraWord 60 rfl) fL_Sc_32_Sc rfl (gk rfl) ?_
          refine cVr (aw_d q_Sc_extraWord 61 rfl) (sp_failAt) vL_Sc_99_Sc rfl rfl rfl rfl rfl rfl ⟨aw_le rfl, aw_le rfl⟩ ?_
          refine aw_ifN_eq (tgt := 122) (aw_d q_Sc_extraWord 62 rfl) (by decide) (by (have hc2 := hc.2.1; omega)) (fun c115 => ?_) (fun c115 => by exfalso; (have hc2 := hc.2.1; omega))
          refine aw_iconst (v := nI 0) (aw_d q_Sc_extraWord 65 rfl) (by decide) ?_
          exact aw_zret (aw_d q_Sc_extraWord 66 rfl) rfl (rfl) (by rw [ew, if_neg (by decide), if_neg d0, if_neg d1, if_neg d2, if_neg d3]; exact CE_er CF_i)
        · have d3 := c85
          refine aw_aload_n (aw_d q_Sc_extraWord 49 rfl) rfl rfl rfl ?_
          refine aw_iload_n (aw_d q_Sc_extraWord 50 rfl) rfl rfl ?_
          refine wi_26_6 (aw_d q_Sc_extraWord 51 rfl) pL_Sc_45_Sc ?_
          refine aw_iinc (aw_d q_Sc_extraWord 52 rfl) rfl (ii1 _) (aw_le rfl) rfl ?_
          refine aw_goto (tgt := 67) (aw_d q_Sc_extraWord 53 rfl) (by decide) ?_
          refine aw_iload_n (aw_d q_Sc_extraWord 38 rfl) rfl rfl ?_
          refine aw_iconst (v := nI 4) (aw_d q_Sc_extraWord 39 rfl) (by decide) ?_
          refine aw_icmpN_ne (tgt := 99) (aw_d q_Sc_extraWord 40 rfl) (by decide) (by (have hc2 := hc.2.1; omega)) (by (have hc2 := hc.2.1; omega)) (fun c69 => by exfalso; (have hc2 := hc.2.1; omega)) (fun c69 => ?_)
          refine aw_iload_n (aw_d q_Sc_extraWord 41 rfl) rfl rfl ?_
          refine aw_iconst (v := nI 4) (aw_d q_Sc_extraWord 42 rfl) (by decide) ?_
          refine aw_icmpN_ge (tgt := 99) (aw_d q_Sc_extraWord 43 rfl) (by decide) (by (have hc2 := hc.2.1; omega)) (by (have hc2 := hc.2.1; omega)) (fun c74 => ?_) (fun c74 => by exfalso; (have hc2 := hc.2.1; omega))
          refine aw_aload_n (aw_d q_Sc_extraWord 54 rfl) rfl rfl rfl ?_
          refine aw_getf (v := .int (nI (3))) (aw_d q_Sc_extraWord 55 rfl) fL_Sc_45_Sc rfl (gk rfl) ?_
          refine aw_iconst (v := (-1)) (aw_d q_Sc_extraWord 56 rfl) (by decide) ?_
          refine aw_icmpJ_ne (tgt := 118) (aw_d q_Sc_extraWord 57 rfl) (by decide) (by (have hc2 := hc.2.1; omega)) (fun c104 => ?_) (fun c104 => by exact absurd c104 (by decide))
          refine aw_iconst (v := nI 1) (aw_d q_Sc_extraWord 63 rfl) (by decide) ?_
          refine aw_goto (tgt := 123) (aw_d q_Sc_extraWord 64 rfl) (by decide) ?_
          exact aw_zret (aw_d q_Sc_extraWord 66 rfl) rfl (rfl) (by rw [ew, if_neg (by decide), if_neg d0, if_neg d1, if_neg d2, if_pos d3]; exact CE_ok ⟨⟨_, _, rfl⟩, hwe.2, aw_le rfl⟩)
      · have d2 := c85
        refine aw_aload_n (aw_d q_Sc_extraWord 49 rfl) rfl rfl rfl ?_
        refine aw_iload_n (aw_d q_Sc_extraWord 50 rfl) rfl rfl ?_
        refine wi_26_6 (aw_d q_Sc_extraWord 51 rfl) pL_Sc_45_Sc ?_
        refine aw_iinc (aw_d q_Sc_extraWord 52 rfl) rfl (ii1 _) (aw_le rfl) rfl ?_
        refine aw_goto (tgt := 67) (aw_d q_Sc_extraWord 53 rfl) (by decide) ?_
        refine aw_iload_n (aw_d q_Sc_extraWord 38 rfl) rfl rfl ?_
        refine aw_iconst (v := nI 4) (aw_d q_Sc_extraWord 39 rfl) (by decide) ?_
        refine aw_icmpN_ne (tgt := 99) (aw_d q_Sc_extraWord 40 rfl) (by decide) (by (have hc2 := hc.2.1; omega)) (by (have hc2 := hc.2.1; omega)) (fun c69 => by exfalso; (have hc2 := hc.2.1; omega)) (fun c69 => ?_)
        refine aw_iload_n (aw_d q_Sc_extraWord 41 rfl) rfl rfl ?_
        refine aw_iconst (v := nI 4) (aw_d q_Sc_extraWord 42 rfl) (by decide) ?_
        refine aw_icmpN_ge (tgt := 99) (aw_d q_Sc_extraWord 43 rfl) (by decide) (by (have hc2 := hc.2.1; omega)) (by (have hc2 := hc.2.1; omega)) (fun c74 => by exfalso; (have hc2 := hc.2.1; omega)) (fun c74 => ?_)
        refine aw_aload_n (aw_d q_Sc_extraWord 44 rfl) rfl rfl rfl ?_
        refine aw_iload_n (aw_d q_Sc_extraWord 45 rfl) rfl rfl ?_
        refine cSr (aw_d q_Sc_extraWord 46 rfl) (sp_typeName_3) sL_Sc_125 rfl rfl rfl rfl ⟨aw_le rfl, aw_le rfl⟩ ?_
        refine cVr (aw_d q_Sc_extraWord 47 rfl) (sp_isWord hc (a := p) (b := we T n p) (j := 22) (we_le hp).1 (we_le hp).2 (by decide)) vL_Sc_117_Sc rfl rfl rfl rfl rfl rfl ⟨aw_le rfl, aw_le rfl⟩ ?_
        refine aw_ifB_eq (tgt := 93) (aw_d q_Sc_extraWord 48 rfl) (by decide) (fun c85 => ?_) (fun c85 => ?_)
        · have d3 := c85
          refine aw_iinc (aw_d q_Sc_extraWord 52 rfl) rfl (ii1 _) (aw_le rfl) rfl ?_
          refine aw_goto (tgt := 67) (aw_d q_Sc_extraWord 53 rfl) (by decide) ?_
          refine aw_iload_n (aw_d q_Sc_extraWord 38 rfl) rfl rfl ?_
          refine aw_iconst (v := nI 4) (aw_d q_Sc_extraWord 39 rfl) (by decide) ?_
          refine aw_icmpN_ne (tgt := 99) (aw_d q_Sc_extraWord 40 rfl) (by decide) (by (have hc2 := hc.2.1; omega)) (by (have hc2 := hc.2.1; omega)) (fun c69 => by exfalso; (have hc2 := hc.2.1; omega)) (fun c69 => ?_)
          refine aw_iload_n (aw_d q_Sc_extraWord 41 rfl) rfl rfl ?_
          refine aw_iconst (v := nI 4) (aw_d q_Sc_extraWord 42 rfl) (by decide) ?_
          refine aw_icmpN_ge (tgt := 99) (aw_d q_Sc_extraWord 43 rfl) (by decide) (by (have hc2 := hc.2.1; omega)) (by (have hc2 := hc.2.1; omega)) (fun c74 => ?_) (fun c74 => by exfalso; (have hc2 := hc.2.1; omega))
          refine aw_aload_n (aw_d q_Sc_extraWord 54 rfl) rfl rfl rfl ?_
          refine aw_getf (v := .int (nI (2))) (aw_d q_Sc_extraWord 55 rfl) fL_Sc_45_Sc rfl (gk rfl) ?_
          refine aw_iconst (v := (-1)) (aw_d q_Sc_extraWord 56 rfl) (by decide) ?_
          refine aw_icmpJ_ne (tgt := 118) (aw_d q_Sc_extraWord 57 rfl) (by decide) (by (have hc2 := hc.2.1; omega)) (fun c104 => ?_) (fun c104 => by exact absurd c104 (by decide))
          refine aw_iconst (v := nI 1) (aw_d q_Sc_extraWord 63 rfl) (by decide) ?_
          refine aw_goto (tgt := 123) (aw_d q_Sc_extraWord 64 rfl) (by decide) ?_
          exact aw_zret (aw_d q_Sc_extraWord 66 rfl) rfl (rfl) (by rw [ew, if_neg (by decide), if_neg d0, if_neg d1, if_pos d2]; exact CE_ok ⟨⟨_, _, rfl⟩, hwe.2, aw_le rfl⟩)
        · have d3 := c85
          refine aw_aload_n (aw_d q_Sc_extraWord 49 rfl) rfl rfl rfl ?_
          refine aw_iload_n (aw_d q_Sc_extraWord 50 rfl) rfl rfl ?_
          refine wi_26_6 (aw_d q_Sc_extraWord 51 rfl) pL_Sc_45_Sc ?_
          refine aw_iinc (aw_d q_Sc_extraWord 52 rfl) rfl (ii1 _) (aw_le rfl) rfl ?_
          refine aw_goto (tgt := 67) (aw_d q_Sc_extraWord 53 rfl) (by decide) ?_
          refine aw_iload_n (aw_d q_Sc_extraWord 38 rfl) rfl rfl ?_
          refine aw_iconst (v := nI 4) (aw_d q_Sc_extraWord 39 rfl) (by decide) ?_
          refine aw_icmpN_ne (tgt := 99) (aw_d q_Sc_extraWord 40 rfl) (by decide) (by (have hc2 := hc.2.1; omega)) (by (have hc2 := hc.2.1; omega)) (fun c69 => by exfalso; (have hc2 := hc.2.1; omega)) (fun c69 => ?_)
          refine aw_iload_n (aw_d q_Sc_extraWord 41 rfl) rfl rfl ?_
          refine aw_iconst (v := nI 4) (aw_d q_Sc_extraWord 42 rfl) (by decide) ?_
          refine aw_icmpN_ge (tgt := 99) (aw_d q_Sc_extraWord 43 rfl) (by decide) (by (have hc2 := hc.2.1; omega)) (by (have hc2 := hc.2.1; omega)) (fun c74 => ?_) (fun c74 => by exfalso; (have hc2 := hc.2.1; omega))
          refine aw_aload_n (aw_d q_Sc_extraWord 54 rfl) rfl rfl rfl ?_
          refine aw_getf (v := .int (nI (3))) (aw_d q_Sc_extraWord 55 rfl) fL_Sc_45_Sc rfl (gk rfl) ?_
          refine aw_iconst (v := (-1)) (aw_d q_Sc_extraWord 56 rfl) (by decide) ?_
          refine aw_icmpJ_ne (tgt := 118) (aw_d q_Sc_extraWord 57 rfl) (by decide) (by (have hc2 := hc.2.1; omega)) (fun c104 => ?_) (fun c104 => by exact absurd c104 (by decide))
          refine aw_iconst (v := nI 1) (aw_d q_Sc_extraWord 63 rfl) (by decide) ?_
          refine aw_goto (tgt := 123) (aw_d q_Sc_extraWord 64 rfl) (by decide) ?_
          exact aw_zret (aw_d q_Sc_extraWord 66 rfl) rfl (rfl) (by exact absurd (wm_hd d2 d3 (by decide) (by decide)) (by decide))
    · have d1 := c85
      refine aw_aload_n (aw_d q_Sc_extraWord 49 rfl) rfl rfl rfl ?_
      refine aw_iload_n (aw_d q_Sc_extraWord 50 rfl) rfl rfl ?_
      refine wi_26_6 (aw_d q_Sc_extraWord 51 rfl) pL_Sc_45_Sc ?_
      refine aw_iinc (aw_d q_Sc_extraWord 52 rfl) rfl (ii1 _) (aw_le rfl) rfl ?_
      refine aw_goto (tgt := 67) (aw_d q_Sc_extraWord 53 rfl) (by decide) ?_
      refine aw_iload_n (aw_d q_Sc_extraWord 38 rfl) rfl rfl ?_
      refine aw_iconst (v := nI 4) (aw_d q_Sc_extraWord 39 rfl) (by decide) ?_
      refine aw_icmpN_ne (tgt := 99) (aw_d q_Sc_extraWord 40 rfl) (by decide) (by (have hc2 := hc.2.1; omega)) (by (have hc2 := hc.2.1; omega)) (fun c69 => by exfalso; (have hc2 := hc.2.1; omega)) (fun c69 => ?_)
      refine aw_iload_n (aw_d q_Sc_extraWord 41 rfl) rfl rfl ?_
      refine aw_iconst (v := nI 4) (aw_d q_Sc_extraWord 42 rfl) (by decide) ?_
      refine aw_icmpN_ge (tgt := 99) (aw_d q_Sc_extraWord 43 rfl) (by decide) (by (have hc2 := hc.2.1; omega)) (by (have hc2 := hc.2.1; omega)) (fun c74 => by exfalso; (have hc2 := hc.2.1; omega)) (fun c74 => ?_)
      refine aw_aload_n (aw_d q_Sc_extraWord 44 rfl) rfl rfl rfl ?_
      refine aw_iload_n (aw_d q_Sc_extraWord 45 rfl) rfl rfl ?_
      refine cSr (aw_d q_Sc_extraWord 46 rfl) (sp_typeName_2) sL_Sc_125 rfl rfl rfl rfl ⟨aw_le rfl, aw_le rfl⟩ ?_
      refine cVr (aw_d q_Sc_extraWord 47 rfl) (sp_isWord hc (a := p) (b := we T n p) (j := 21) (we_le hp).1 (we_le hp).2 (by decide)) vL_Sc_117_Sc rfl rfl rfl rfl rfl rfl ⟨aw_le rfl, aw_le rfl⟩ ?_
      refine aw_ifB_eq (tgt := 93) (aw_d q_Sc_extraWord 48 rfl) (by decide) (fun c85 => ?_) (fun c85 => ?_)
      · have d2 := c85
        refine aw_iinc (aw_d q_Sc_extraWord 52 rfl) rfl (ii1 _) (aw_le rfl) rfl ?_
        refine aw_goto (tgt := 67) (aw_d q_Sc_extraWord 53 rfl) (by decide) ?_
        refine aw_iload_n (aw_d q_Sc_extraWord 38 rfl) rfl rfl ?_
        refine aw_iconst (v := nI 4) (aw_d q_Sc_extraWord 39 rfl) (by decide) ?_
        refine aw_icmpN_ne (tgt := 99) (aw_d q_Sc_extraWord 40 rfl) (by decide) (by (have hc2 := hc.2.1; omega)) (by (have hc2 := hc.2.1; omega)) (fun c69 => by exfalso; (have hc2 := hc.2.1; omega)) (fun c69 => ?_)
        refine aw_iload_n (aw_d q_Sc_extraWord 41 rfl) rfl rfl ?_
        refine aw_iconst (v := nI 4) (aw_d q_Sc_extraWord 42 rfl) (by decide) ?_
        refine aw_icmpN_ge (tgt := 99) (aw_d q_Sc_extraWord 43 rfl) (by decide) (by (have hc2 := hc.2.1; omega)) (by (have hc2 := hc.2.1; omega)) (fun c74 => by exfalso; (have hc2 := hc.2.1; omega)) (fun c74 => ?_)
        refine aw_aload_n (aw_d q_Sc_extraWord 44 rfl) rfl rfl rfl ?_
        refine aw_iload_n (aw_d q_Sc_extraWord 45 rfl) rfl rfl ?_
        refine cSr (aw_d q_Sc_extraWord 46 rfl) (sp_typeName_3) sL_Sc_125 rfl rfl rfl rfl ⟨aw_le rfl, aw_le rfl⟩ ?_
        refine cVr (aw_d q_Sc_extraWord 47 rfl) (sp_isWord hc (a := p) (b := we T n p) (j := 22) (we_le hp).1 (we_le hp).2 (by decide)) vL_Sc_117_Sc rfl rfl rfl rfl rfl rfl ⟨aw_le rfl, aw_le rfl⟩ ?_
        refine aw_ifB_eq (tgt := 93) (aw_d q_Sc_extraWord 48 rfl) (by decide) (fun c85 => ?_) (fun c85 => ?_)
        · have d3 := c85
          refine aw_iinc (aw_d q_Sc_extraWord 52 rfl) rfl (ii1 _) (aw_le rfl) rfl ?_
          refine aw_goto (tgt := 67) (aw_d q_Sc_extraWord 53 rfl) (by decide) ?_
          refine aw_iload_n (aw_d q_Sc_extraWord 38 rfl) rfl rfl ?_
          refine aw_iconst (v := nI 4) (aw_d q_Sc_extraWord 39 rfl) (by decide) ?_
          refine aw_icmpN_ne (tgt := 99) (aw_d q_Sc_extraWord 40 rfl) (by decide) (by (have hc2 := hc.2.1; omega)) (by (have hc2 := hc.2.1; omega)) (fun c69 => by exfalso; (have hc2 := hc.2.1; omega)) (fun c69 => ?_)
          refine aw_iload_n (aw_d q_Sc_extraWord 41 rfl) rfl rfl ?_
          refine aw_iconst (v := nI 4) (aw_d q_Sc_extraWord 42 rfl) (by decide) ?_
          refine aw_icmpN_ge (tgt := 99) (aw_d q_Sc_extraWord 43 rfl) (by decide) (by (have hc2 := hc.2.1; omega)) (by (have hc2 := hc.2.1; omega)) (fun c74 => ?_) (fun c74 => by exfalso; (have hc2 := hc.2.1; omega))
          refine aw_aload_n (aw_d q_Sc_extraWord 54 rfl) rfl rfl rfl ?_
          refine aw_getf (v := .int (nI (1))) (aw_d q_Sc_extraWord 55 rfl) fL_Sc_45_Sc rfl (gk rfl) ?_
          refine aw_iconst (v := (-1)) (aw_d q_Sc_extraWord 56 rfl) (by decide) ?_
          refine aw_icmpJ_ne (tgt := 118) (aw_d q_Sc_extraWord 57 rfl) (by decide) (by (have hc2 := hc.2.1; omega)) (fun c104 => ?_) (fun c104 => by exact absurd c104 (by decide))
          refine aw_iconst (v := nI 1) (aw_d q_Sc_extraWord 63 rfl) (by decide) ?_
          refine aw_goto (tgt := 123) (aw_d q_Sc_extraWord 64 rfl) (by decide) ?_
          exact aw_zret (aw_d q_Sc_extraWord 66 rfl) rfl (rfl) (by rw [ew, if_neg (by decide), if_neg d0, if_pos d1]; exact CE_ok ⟨⟨_, _, rfl⟩, hwe.2, aw_le rfl⟩)
        · have d3 := c85
          refine aw_aload_n (aw_d q_Sc_extraWord 49 rfl) rfl rfl rfl ?_
          refine aw_iload_n (aw_d q_Sc_extraWord 50 rfl) rfl rfl ?_
          refine wi_26_6 (aw_d q_Sc_extraWord 51 rfl) pL_Sc_45_Sc ?_
          refine aw_iinc (aw_d q_Sc_extraWord 52 rfl) rfl (ii1 _) (aw_le rfl) rfl ?_
          refine aw_goto (tgt := 67) (aw_d q_Sc_extraWord 53 rfl) (by decide) ?_
          refine aw_iload_n (aw_d q_Sc_extraWord 38 rfl) rfl rfl ?_
          refine aw_iconst (v := nI 4) (aw_d q_Sc_extraWord 39 rfl) (by decide) ?_
          refine aw_icmpN_ne (tgt := 99) (aw_d q_Sc_extraWord 40 rfl) (by decide) (by (have hc2 := hc.2.1; omega)) (by (have hc2 := hc.2.1; omega)) (fun c69 => by exfalso; (have hc2 := hc.2.1; omega)) (fun c69 => ?_)
          refine aw_iload_n (aw_d q_Sc_extraWord 41 rfl) rfl rfl ?_
          refine aw_iconst (v := nI 4) (aw_d q_Sc_extraWord 42 rfl) (by decide) ?_
          refine aw_icmpN_ge (tgt := 99) (aw_d q_Sc_extraWord 43 rfl) (by decide) (by (have hc2 := hc.2.1; omega)) (by (have hc2 := hc.2.1; omega)) (fun c74 => ?_) (fun c74 => by exfalso; (have hc2 := hc.2.1; omega))
          refine aw_aload_n (aw_d q_Sc_extraWord 54 rfl) rfl rfl rfl ?_
          refine aw_getf (v := .int (nI (3))) (aw_d q_Sc_extraWord 55 rfl) fL_Sc_45_Sc rfl (gk rfl) ?_
          refine aw_iconst (v := (-1)) (aw_d q_Sc_extraWord 56 rfl) (by decide) ?_
          refine aw_icmpJ_ne (tgt := 118) (aw_d q_Sc_extraWord 57 rfl) (by decide) (by (have hc2 := hc.2.1; omega)) (fun c104 => ?_) (fun c104 => by exact absurd c104 (by decide))
          refine aw_iconst (v := nI 1) (aw_d q_Sc_extraWord 63 rfl) (by decide) ?_
          refine aw_goto (tgt := 123) (aw_d q_Sc_extraWord 64 rfl) (by decide) ?_
          exact aw_zret (aw_d q_Sc_extraWord 66 rfl) rfl (rfl) (by exact absurd (wm_hd d1 d3 (by decide) (by decide)) (by decide))
      · have d2 := c85
        refine aw_aload_n (aw_d q_Sc_extraWord 49 rfl) rfl rfl rfl ?_
        refine aw_iload_n (aw_d q_Sc_extraWord 50 rfl) rfl rfl ?_
        refine wi_26_6 (aw_d q_Sc_extraWord 51 rfl) pL_Sc_45_Sc ?_
        refine aw_iinc (aw_d q_Sc_extraWord 52 rfl) rfl (ii1 _) (aw_le rfl) rfl ?_
        refine aw_goto (tgt := 67) (aw_d q_Sc_extraWord 53 rfl) (by decide) ?_
        refine aw_iload_n (aw_d q_Sc_extraWord 38 rfl) rfl rfl ?_
        refine aw_iconst (v := nI 4) (aw_d q_Sc_extraWord 39 rfl) (by decide) ?_
        refine aw_icmpN_ne (tgt := 99) (aw_d q_Sc_extraWord 40 rfl) (by decide) (by (have hc2 := hc.2.1; omega)) (by (have hc2 := hc.2.1; omega)) (fun c69 => by exfalso; (have hc2 := hc.2.1; omega)) (fun c69 => ?_)
        refine aw_iload_n (aw_d q_Sc_extraWord 41 rfl) rfl rfl ?_
        refine aw_iconst (v := nI 4) (aw_d q_Sc_extraWord 42 rfl) (by decide) ?_
        refine aw_icmpN_ge (tgt := 99) (aw_d q_Sc_extraWord 43 rfl) (by decide) (by (have hc2 := hc.2.1; omega)) (by (have hc2 := hc.2.1; omega)) (fun c74 => by exfalso; (have hc2 := hc.2.1; omega)) (fun c74 => ?_)
        refine aw_aload_n (aw_d q_Sc_extraWord 44 rfl) rfl rfl rfl ?_
        refine aw_iload_n (aw_d q_Sc_extraWord 45 rfl) rfl rfl ?_
        refine cSr (aw_d q_Sc_extraWord 46 rfl) (sp_typeName_3) sL_Sc_125 rfl rfl rfl rfl ⟨aw_le rfl, aw_le rfl⟩ ?_
        refine cVr (aw_d q_Sc_extraWord 47 rfl) (sp_isWord hc (a := p) (b := we T n p) (j := 22) (we_le hp).1 (we_le hp).2 (by decide)) vL_Sc_117_Sc rfl rfl rfl rfl rfl rfl ⟨aw_le rfl, aw_le rfl⟩ ?_
        refine aw_ifB_eq (tgt := 93) (aw_d q_Sc_extraWord 48 rfl) (by decide) (fun c85 => ?_) (fun c85 => ?_)
        · have d3 := c85
          refine aw_iinc (aw_d q_Sc_extraWord 52 rfl) rfl (ii1 _) (aw_le rfl) rfl ?_
          refine aw_goto (tgt := 67) (aw_d q_Sc_extraWord 53 rfl) (by decide) ?_
          refine aw_iload_n (aw_d q_Sc_extraWord 38 rfl) rfl rfl ?_
          refine aw_iconst (v := nI 4) (aw_d q_Sc_extraWord 39 rfl) (by decide) ?_
          refine aw_icmpN_ne (tgt := 99) (aw_d q_Sc_extraWord 40 rfl) (by decide) (by (have hc2 := hc.2.1; omega)) (by (have hc2 := hc.2.1; omega)) (fun c69 => by exfalso; (have hc2 := hc.2.1; omega)) (fun c69 => ?_)
          refine aw_iload_n (aw_d q_Sc_extraWord 41 rfl) rfl rfl ?_
          refine aw_iconst (v := nI 4) (aw_d q_Sc_extraWord 42 rfl) (by decide) ?_
          refine aw_icmpN_ge (tgt := 99) (aw_d q_Sc_extraWord 43 rfl) (by decide) (by (have hc2 := hc.2.1; omega)) (by (have hc2 := hc.2.1; omega)) (fun c74 => ?_) (fun c74 => by exfalso; (have hc2 := hc.2.1; omega))
          refine aw_aload_n (aw_d q_Sc_extraWord 54 rfl) rfl rfl rfl ?_
          refine aw_getf (v := .int (nI (2))) (aw_d q_Sc_extraWord 55 rfl) fL_Sc_45_Sc rfl (gk rfl) ?_
          refine aw_iconst (v := (-1)) (aw_d q_Sc_extraWord 56 rfl) (by decide) ?_
          refine aw_icmpJ_ne (tgt := 118) (aw_d q_Sc_extraWord 57 rfl) (by decide) (by (have hc2 := hc.2.1; omega)) (fun c104 => ?_) (fun c104 => by exact absurd c104 (by decide))
          refine aw_iconst (v := nI 1) (aw_d q_Sc_extraWord 63 rfl) (by decide) ?_
          refine aw_goto (tgt := 123) (aw_d q_Sc_extraWord 64 rfl) (by decide) ?_
          exact aw_zret (aw_d q_Sc_extraWord 66 rfl) rfl (rfl) (by exact absurd (wm_hd d1 d2 (by decide) (by decide)) (by decide))
        · have d3 := c85
          refine aw_aload_n (aw_d q_Sc_extraWord 49 rfl) rfl rfl rfl ?_
          refine aw_iload_n (aw_d q_Sc_extraWord 50 rfl) rfl rfl ?_
          refine wi_26_6 (aw_d q_Sc_extraWord 51 rfl) pL_Sc_45_Sc ?_
          refine aw_iinc (aw_d q_Sc_extraWord 52 rfl) rfl (ii1 _) (aw_le rfl) rfl ?_
          refine aw_goto (tgt := 67) (aw_d q_Sc_extraWord 53 rfl) (by decide) ?_
          refine aw_iload_n (aw_d q_Sc_extraWord 38 rfl) rfl rfl ?_
          refine aw_iconst (v := nI 4) (aw_d q_Sc_extraWord 39 rfl) (by decide) ?_
          refine aw_icmpN_ne (tgt := 99) (aw_d q_Sc_extraWord 40 rfl) (by decide) (by (have hc2 := hc.2.1; omega)) (by (have hc2 := hc.2.1; omega)) (fun c69 => by exfalso; (have hc2 := hc.2.1; omega)) (fun c69 => ?_)
          refine aw_iload_n (aw_d q_Sc_extraWord 41 rfl) rfl rfl ?_
          refine aw_iconst (v := nI 4) (aw_d q_Sc_extraWord 42 rfl) (by decide) ?_
          refine aw_icmpN_ge (tgt := 99) (aw_d q_Sc_extraWord 43 rfl) (by decide) (by (have hc2 := hc.2.1; omega)) (by (have hc2 := hc.2.1; omega)) (fun c74 => ?_) (fun c74 => by exfalso; (have hc2 := hc.2.1; omega))
          refine aw_aload_n (aw_d q_Sc_extraWord 54 rfl) rfl rfl rfl ?_
          refine aw_getf (v := .int (nI (3))) (aw_d q_Sc_extraWord 55 rfl) fL_Sc_45_Sc rfl (gk rfl) ?_
          refine aw_iconst (v := (-1)) (aw_d q_Sc_extraWord 56 rfl) (by decide) ?_
          refine aw_icmpJ_ne (tgt := 118) (aw_d q_Sc_extraWord 57 rfl) (by decide) (by (have hc2 := hc.2.1; omega)) (fun c104 => ?_) (fun c104 => by exact absurd c104 (by decide))
          refine aw_iconst (v := nI 1) (aw_d q_Sc_extraWord 63 rfl) (by decide) ?_
          refine aw_goto (tgt := 123) (aw_d q_Sc_extraWord 64 rfl) (by decide) ?_
          exact aw_zret (aw_d q_Sc_extraWord 66 rfl) rfl (rfl) (by exact absurd (wm_hd d1 d2 (by decide) (by decide)) (by decide))
  · have d0 := c85
    refine aw_aload_n (aw_d q_Sc_extraWord 49 rfl) rfl rfl rfl ?_
    refine aw_iload_n (aw_d q_Sc_extraWord 50 rfl) rfl rfl ?_
    refine wi_26_6 (aw_d q_Sc_extraWord 51 rfl) pL_Sc_45_Sc ?_
    refine aw_iinc (aw_d q_Sc_extraWord 52 rfl) rfl (ii1 _) (aw_le rfl) rfl ?_
    refine aw_goto (tgt := 67) (aw_d q_Sc_extraWord 53 rfl) (by decide) ?_
    refine aw_iload_n (aw_d q_Sc_extraWord 38 rfl) rfl rfl ?_
    refine aw_iconst (v := nI 4) (aw_d q_Sc_extraWord 39 rfl) (by decide) ?_
    refine aw_icmpN_ne (tgt := 99) (aw_d q_Sc_extraWord 40 rfl) (by decide) (by (have hc2 := hc.2.1; omega)) (by (have hc2 := hc.2.1; omega)) (fun c69 => by exfalso; (have hc2 := hc.2.1; omega)) (fun c69 => ?_)
    refine aw_iload_n (aw_d q_Sc_extraWord 41 rfl) rfl rfl ?_
    refine aw_iconst (v := nI 4) (aw_d q_Sc_extraWord 42 rfl) (by decide) ?_
    refine aw_icmpN_ge (tgt := 99) (aw_d q_Sc_extraWord 43 rfl) (by decide) (by (have hc2 := hc.2.1; omega)) (by (have hc2 := hc.2.1; omega)) (fun c74 => by exfalso; (have hc2 := hc.2.1; omega)) (fun c74 => ?_)
    refine aw_aload_n (aw_d q_Sc_extraWord 44 rfl) rfl rfl rfl ?_
    refine aw_iload_n (aw_d q_Sc_extraWord 45 rfl) rfl rfl ?_
    refine cSr (aw_d q_Sc_extraWord 46 rfl) (sp_typeName_1) sL_Sc_125 rfl rfl rfl rfl ⟨aw_le rfl, aw_le rfl⟩ ?_
    refine cVr (aw_d q_Sc_extraWord 47 rfl) (sp_isWord hc (a := p) (b := we T n p) (j := 20) (we_le hp).1 (we_le hp).2 (by decide)) vL_Sc_117_Sc rfl rfl rfl rfl rfl rfl ⟨aw_le rfl, aw_le rfl⟩ ?_
    refine aw_ifB_eq (tgt := 93) (aw_d q_Sc_extraWord 48 rfl) (by decide) (fun c85 => ?_) (fun c85 => ?_)
    · have d1 := c85
      refine aw_iinc (aw_d q_Sc_extraWord 52 rfl) rfl (ii1 _) (aw_le rfl) rfl ?_
      refine aw_goto (tgt := 67) (aw_d q_Sc_extraWord 53 rfl) (by decide) ?_
      refine aw_iload_n (aw_d q_Sc_extraWord 38 rfl) rfl rfl ?_
      refine aw_iconst (v := nI 4) (aw_d q_Sc_extraWord 39 rfl) (by decide) ?_
      refine aw_icmpN_ne (tgt := 99) (aw_d q_Sc_extraWord 40 rfl) (by decide) (by (have hc2 := hc.2.1; omega)) (by (have hc2 := hc.2.1; omega)) (fun c69 => by exfalso; (have hc2 := hc.2.1; omega)) (fun c69 => ?_)
      refine aw_iload_n (aw_d q_Sc_extraWord 41 rfl) rfl rfl ?_
      refine aw_iconst (v := nI 4) (aw_d q_Sc_extraWord 42 rfl) (by decide) ?_
      refine aw_icmpN_ge (tgt := 99) (aw_d q_Sc_extraWord 43 rfl) (by decide) (by (have hc2 := hc.2.1; omega)) (by (have hc2 := hc.2.1; omega)) (fun c74 => by exfalso; (have hc2 := hc.2.1; omega)) (fun c74 => ?_)
      refine aw_aload_n (aw_d q_Sc_extraWord 44 rfl) rfl rfl rfl ?_
      refine aw_iload_n (aw_d q_Sc_extraWord 45 rfl) rfl rfl ?_
      refine cSr (aw_d q_Sc_extraWord 46 rfl) (sp_typeName_2) sL_Sc_125 rfl rfl rfl rfl ⟨aw_le rfl, aw_le rfl⟩ ?_
      refine cVr (aw_d q_Sc_extraWord 47 rfl) (sp_isWord hc (a := p) (b := we T n p) (j := 21) (we_le hp).1 (we_le hp).2 (by decide)) vL_Sc_117_Sc rfl rfl rfl rfl rfl rfl ⟨aw_le rfl, aw_le rfl⟩ ?_
      refine aw_ifB_eq (tgt := 93) (aw_d q_Sc_extraWord 48 rfl) (by decide) (fun c85 => ?_) (fun c85 => ?_)
      · have d2 := c85
        refine aw_iinc (aw_d q_Sc_extraWord 52 rfl) rfl (ii1 _) (aw_le rfl) rfl ?_
        refine aw_goto (tgt := 67) (aw_d q_Sc_extraWord 53 rfl) (by decide) ?_
        refine aw_iload_n (aw_d q_Sc_extraWord 38 rfl) rfl rfl ?_
        refine aw_iconst (v := nI 4) (aw_d q_Sc_extraWord 39 rfl) (by decide) ?_
        refine aw_icmpN_ne (tgt := 99) (aw_d q_Sc_extraWord 40 rfl) (by decide) (by (have hc2 := hc.2.1; omega)) (by (have hc2 := hc.2.1; omega)) (fun c69 => by exfalso; (have hc2 := hc.2.1; omega)) (fun c69 => ?_)
        refine aw_iload_n (aw_d q_Sc_extraWord 41 rfl) rfl rfl ?_
        refine aw_iconst (v := nI 4) (aw_d q_Sc_extraWord 42 rfl) (by decide) ?_
        refine aw_icmpN_ge (tgt := 99) (aw_d q_Sc_extraWord 43 rfl) (by decide) (by (have hc2 := hc.2.1; omega)) (by (have hc2 := hc.2.1; omega)) (fun c74 => by exfalso; (have hc2 := hc.2.1; omega)) (fun c74 => ?_)
        refine aw_aload_n (aw_d q_Sc_extraWord 44 rfl) rfl rfl rfl ?_
        refine aw_iload_n (aw_d q_Sc_extraWord 45 rfl) rfl rfl ?_
        refine cSr (aw_d q_Sc_extraWord 46 rfl) (sp_typeName_3) sL_Sc_125 rfl rfl rfl rfl ⟨aw_le rfl, aw_le rfl⟩ ?_
        refine cVr (aw_d q_Sc_extraWord 47 rfl) (sp_isWord hc (a := p) (b := we T n p) (j := 22) (we_le hp).1 (we_le hp).2 (by decide)) vL_Sc_117_Sc rfl rfl rfl rfl rfl rfl ⟨aw_le rfl, aw_le rfl⟩ ?_
        refine aw_ifB_eq (tgt := 93) (aw_d q_Sc_extraWord 48 rfl) (by decide) (fun c85 => ?_) (fun c85 => ?_)
        · have d3 := c85
          refine aw_iinc (aw_d q_Sc_extraWord 52 rfl) rfl (ii1 _) (aw_le rfl) rfl ?_
          refine aw_goto (tgt := 67) (aw_d q_Sc_extraWord 53 rfl) (by decide) ?_
          refine aw_iload_n (aw_d q_Sc_extraWord 38 rfl) rfl rfl ?_
          refine aw_iconst (v := nI 4) (aw_d q_Sc_extraWord 39 rfl) (by decide) ?_
          refine aw_icmpN_ne (tgt := 99) (aw_d q_Sc_extraWord 40 rfl) (by decide) (by (have hc2 := hc.2.1; omega)) (by (have hc2 := hc.2.1; omega)) (fun c69 => by exfalso; (have hc2 := hc.2.1; omega)) (fun c69 => ?_)
          refine aw_iload_n (aw_d q_Sc_extraWord 41 rfl) rfl rfl ?_
          refine aw_iconst (v := nI 4) (aw_d q_Sc_extraWord 42 rfl) (by decide) ?_
          refine aw_icmpN_ge (tgt := 99) (aw_d q_Sc_extraWord 43 rfl) (by decide) (by (have hc2 := hc.2.1; omega)) (by (have hc2 := hc.2.1; omega)) (fun c74 => ?_) (fun c74 => by exfalso; (have hc2 := hc.2.1; omega))
          refine aw_aload_n (aw_d q_Sc_extraWord 54 rfl) rfl rfl rfl ?_
          refine aw_getf (v := .int (nI (0))) (aw_d q_Sc_extraWord 55 rfl) fL_Sc_45_Sc rfl (gk rfl) ?_
          refine aw_iconst (v := (-1)) (aw_d q_Sc_extraWord 56 rfl) (by decide) ?_
          refine aw_icmpJ_ne (tgt := 118) (aw_d q_Sc_extraWord 57 rfl) (by decide) (by (have hc2 := hc.2.1; omega)) (fun c104 => ?_) (fun c104 => by exact absurd c104 (by decide))
          refine aw_iconst (v := nI 1) (aw_d q_Sc_extraWord 63 rfl) (by decide) ?_
          refine aw_goto (tgt := 123) (aw_d q_Sc_extraWord 64 rfl) (by decide) ?_
          exact aw_zret (aw_d q_Sc_extraWord 66 rfl) rfl (rfl) (by rw [ew, if_neg (by decide), if_pos d0]; exact CE_ok ⟨⟨_, _, rfl⟩, hwe.2, aw_le rfl⟩)
        · have d3 := c85
          refine aw_aload_n (aw_d q_Sc_extraWord 49 rfl) rfl rfl rfl ?_
          refine aw_iload_n (aw_d q_Sc_extraWord 50 rfl) rfl rfl ?_
          refine wi_26_6 (aw_d q_Sc_extraWord 51 rfl) pL_Sc_45_Sc ?_
          refine aw_iinc (aw_d q_Sc_extraWord 52 rfl) rfl (ii1 _) (aw_le rfl) rfl ?_
          refine aw_goto (tgt := 67) (aw_d q_Sc_extraWord 53 rfl) (by decide) ?_
          refine aw_iload_n (aw_d q_Sc_extraWord 38 rfl) rfl rfl ?_
          refine aw_iconst (v := nI 4) (aw_d q_Sc_extraWord 39 rfl) (by decide) ?_
          refine aw_icmpN_ne (tgt := 99) (aw_d q_Sc_extraWord 40 rfl) (by decide) (by (have hc2 := hc.2.1; omega)) (by (have hc2 := hc.2.1; omega)) (fun c69 => by exfalso; (have hc2 := hc.2.1; omega)) (fun c69 => ?_)
          refine aw_iload_n (aw_d q_Sc_extraWord 41 rfl) rfl rfl ?_
          refine aw_iconst (v := nI 4) (aw_d q_Sc_extraWord 42 rfl) (by decide) ?_
          refine aw_icmpN_ge (tgt := 99) (aw_d q_Sc_extraWord 43 rfl) (by decide) (by (have hc2 := hc.2.1; omega)) (by (have hc2 := hc.2.1; omega)) (fun c74 => ?_) (fun c74 => by exfalso; (have hc2 := hc.2.1; omega))
          refine aw_aload_n (aw_d q_Sc_extraWord 54 rfl) rfl rfl rfl ?_
          refine aw_getf (v := .int (nI (3))) (aw_d q_Sc_extraWord 55 rfl) fL_Sc_45_Sc rfl (gk rfl) ?_
          refine aw_iconst (v := (-1)) (aw_d q_Sc_extraWord 56 rfl) (by decide) ?_
          refine aw_icmpJ_ne (tgt := 118) (aw_d q_Sc_extraWord 57 rfl) (by decide) (by (have hc2 := hc.2.1; omega)) (fun c104 => ?_) (fun c104 => by exact absurd c104 (by decide))
          refine aw_iconst (v := nI 1) (aw_d q_Sc_extraWord 63 rfl) (by decide) ?_
          refine aw_goto (tgt := 123) (aw_d q_Sc_extraWord 64 rfl) (by decide) ?_
          exact aw_zret (aw_d q_Sc_extraWord 66 rfl) rfl (rfl) (by exact absurd (wm_hd d0 d3 (by decide) (by decide)) (by decide))
      · have d2 := c85
        refine aw_aload_n (aw_d q_Sc_extraWord 49 rfl) rfl rfl rfl ?_
        refine aw_iload_n (aw_d q_Sc_extraWord 50 rfl) rfl rfl ?_
        refine wi_26_6 (aw_d q_Sc_extraWord 51 rfl) pL_Sc_45_Sc ?_
        refine aw_iinc (aw_d q_Sc_extraWord 52 rfl) rfl (ii1 _) (aw_le rfl) rfl ?_
        refine aw_goto (tgt := 67) (aw_d q_Sc_extraWord 53 rfl) (by decide) ?_
        refine aw_iload_n (aw_d q_Sc_extraWord 38 rfl) rfl rfl ?_
        refine aw_iconst (v := nI 4) (aw_d q_Sc_extraWord 39 rfl) (by decide) ?_
        refine aw_icmpN_ne (tgt := 99) (aw_d q_Sc_extraWord 40 rfl) (by decide) (by (have hc2 := hc.2.1; omega)) (by (have hc2 := hc.2.1; omega)) (fun c69 => by exfalso; (have hc2 := hc.2.1; omega)) (fun c69 => ?_)
        refine aw_iload_n (aw_d q_Sc_extraWord 41 rfl) rfl rfl ?_
        refine aw_iconst (v := nI 4) (aw_d q_Sc_extraWord 42 rfl) (by decide) ?_
        refine aw_icmpN_ge (tgt := 99) (aw_d q_Sc_extraWord 43 rfl) (by decide) (by (have hc2 := hc.2.1; omega)) (by (have hc2 := hc.2.1; omega)) (fun c74 => by exfalso; (have hc2 := hc.2.1; omega)) (fun c74 => ?_)
        refine aw_aload_n (aw_d q_Sc_extraWord 44 rfl) rfl rfl rfl ?_
        refine aw_iload_n (aw_d q_Sc_extraWord 45 rfl) rfl rfl ?_
        refine cSr (aw_d q_Sc_extraWord 46 rfl) (sp_typeName_3) sL_Sc_125 rfl rfl rfl rfl ⟨aw_le rfl, aw_le rfl⟩ ?_
        refine cVr (aw_d q_Sc_extraWord 47 rfl) (sp_isWord hc (a := p) (b := we T n p) (j := 22) (we_le hp).1 (we_le hp).2 (by decide)) vL_Sc_117_Sc rfl rfl rfl rfl rfl rfl ⟨aw_le rfl, aw_le rfl⟩ ?_
        refine aw_ifB_eq (tgt := 93) (aw_d q_Sc_extraWord 48 rfl) (by decide) (fun c85 => ?_) (fun c85 => ?_)
        · have d3 := c85
          refine aw_iinc (aw_d q_Sc_extraWord 52 rfl) rfl (ii1 _) (aw_le rfl) rfl ?_
          refine aw_goto (tgt := 67) (aw_d q_Sc_extraWord 53 rfl) (by decide) ?_
          refine aw_iload_n (aw_d q_Sc_extraWord 38 rfl) rfl rfl ?_
          refine aw_iconst (v := nI 4) (aw_d q_Sc_extraWord 39 rfl) (by decide) ?_
          refine aw_icmpN_ne (tgt := 99) (aw_d q_Sc_extraWord 40 rfl) (by decide) (by (have hc2 := hc.2.1; omega)) (by (have hc2 := hc.2.1; omega)) (fun c69 => by exfalso; (have hc2 := hc.2.1; omega)) (fun c69 => ?_)
          refine aw_iload_n (aw_d q_Sc_extraWord 41 rfl) rfl rfl ?_
          refine aw_iconst (v := nI 4) (aw_d q_Sc_extraWord 42 rfl) (by decide) ?_
          refine aw_icmpN_ge (tgt := 99) (aw_d q_Sc_extraWord 43 rfl) (by decide) (by (have hc2 := hc.2.1; omega)) (by (have hc2 := hc.2.1; omega)) (fun c74 => ?_) (fun c74 => by exfalso; (have hc2 := hc.2.1; omega))
          refine aw_aload_n (aw_d q_Sc_extraWord 54 rfl) rfl rfl rfl ?_
          refine aw_getf (v := .int (nI (2))) (aw_d q_Sc_extraWord 55 rfl) fL_Sc_45_Sc rfl (gk rfl) ?_
          refine aw_iconst (v := (-1)) (aw_d q_Sc_extraWord 56 rfl) (by decide) ?_
          refine aw_icmpJ_ne (tgt := 118) (aw_d q_Sc_extraWord 57 rfl) (by decide) (by (have hc2 := hc.2.1; omega)) (fun c104 => ?_) (fun c104 => by exact absurd c104 (by decide))
          refine aw_iconst (v := nI 1) (aw_d q_Sc_extraWord 63 rfl) (by decide) ?_
          refine aw_goto (tgt := 123) (aw_d q_Sc_extraWord 64 rfl) (by decide) ?_
          exact aw_zret (aw_d q_Sc_extraWord 66 rfl) rfl (rfl) (by exact absurd (wm_hd d0 d2 (by decide) (by decide)) (by decide))
        · have d3 := c85
          refine aw_aload_n (aw_d q_Sc_extraWord 49 rfl) rfl rfl rfl ?_
          refine aw_iload_n (aw_d q_Sc_extraWord 50 rfl) rfl rfl ?_
          refine wi_26_6 (aw_d q_Sc_extraWord 51 rfl) pL_Sc_45_Sc ?_
          refine aw_iinc (aw_d q_Sc_extraWord 52 rfl) rfl (ii1 _) (aw_le rfl) rfl ?_
          refine aw_goto (tgt := 67) (aw_d q_Sc_extraWord 53 rfl) (by decide) ?_
          refine aw_iload_n (aw_d q_Sc_extraWord 38 rfl) rfl rfl ?_
          refine aw_iconst (v := nI 4) (aw_d q_Sc_extraWord 39 rfl) (by decide) ?_
          refine aw_icmpN_ne (tgt := 99) (aw_d q_Sc_extraWord 40 rfl) (by decide) (by (have hc2 := hc.2.1; omega)) (by (have hc2 := hc.2.1; omega)) (fun c69 => by exfalso; (have hc2 := hc.2.1; omega)) (fun c69 => ?_)
          refine aw_iload_n (aw_d q_Sc_extraWord 41 rfl) rfl rfl ?_
          refine aw_iconst (v := nI 4) (aw_d q_Sc_extraWord 42 rfl) (by decide) ?_
          refine aw_icmpN_ge (tgt := 99) (aw_d q_Sc_extraWord 43 rfl) (by decide) (by (have hc2 := hc.2.1; omega)) (by (have hc2 := hc.2.1; omega)) (fun c74 => ?_) (fun c74 => by exfalso; (have hc2 := hc.2.1; omega))
          refine aw_aload_n (aw_d q_Sc_extraWord 54 rfl) rfl rfl rfl ?_
          refine aw_getf (v := .int (nI (3))) (aw_d q_Sc_extraWord 55 rfl) fL_Sc_45_Sc rfl (gk rfl) ?_
          refine aw_iconst (v := (-1)) (aw_d q_Sc_extraWord 56 rfl) (by decide) ?_
          refine aw_icmpJ_ne (tgt := 118) (aw_d q_Sc_extraWord 57 rfl) (by decide) (by (have hc2 := hc.2.1; omega)) (fun c104 => ?_) (fun c104 => by exact absurd c104 (by decide))
          refine aw_iconst (v := nI 1) (aw_d q_Sc_extraWord 63 rfl) (by decide) ?_
          refine aw_goto (tgt := 123) (aw_d q_Sc_extraWord 64 rfl) (by decide) ?_
          exact aw_zret (aw_d q_Sc_extraWord 66 rfl) rfl (rfl) (by exact absurd (wm_hd d0 d2 (by decide) (by decide)) (by decide))
    · have d1 := c85
      refine aw_aload_n (aw_d q_Sc_extraWord 49 rfl) rfl rfl rfl ?_
      refine aw_iload_n (aw_d q_Sc_extraWord 50 rfl) rfl rfl ?_
      refine wi_26_6 (aw_d q_Sc_extraWord 51 rfl) pL_Sc_45_Sc ?_
      refine aw_iinc (aw_d q_Sc_extraWord 52 rfl) rfl (ii1 _) (aw_le rfl) rfl ?_
      refine aw_goto (tgt := 67) (aw_d q_Sc_extraWord 53 rfl) (by decide) ?_
      refine aw_iload_n (aw_d q_Sc_extraWord 38 rfl) rfl rfl ?_
      refine aw_iconst (v := nI 4) (aw_d q_Sc_extraWord 39 rfl) (by decide) ?_
      refine aw_icmpN_ne (tgt := 99) (aw_d q_Sc_extraWord 40 rfl) (by decide) (by (have hc2 := hc.2.1; omega)) (by (have hc2 := hc.2.1; omega)) (fun c69 => by exfalso; (have hc2 := hc.2.1; omega)) (fun c69 => ?_)
      refine aw_iload_n (aw_d q_Sc_extraWord 41 rfl) rfl rfl ?_
      refine aw_iconst (v := nI 4) (aw_d q_Sc_extraWord 42 rfl) (by decide) ?_
      refine aw_icmpN_ge (tgt := 99) (aw_d q_Sc_extraWord 43 rfl) (by decide) (by (have hc2 := hc.2.1; omega)) (by (have hc2 := hc.2.1; omega)) (fun c74 => by exfalso; (have hc2 := hc.2.1; omega)) (fun c74 => ?_)
      refine aw_aload_n (aw_d q_Sc_extraWord 44 rfl) rfl rfl rfl ?_
      refine aw_iload_n (aw_d q_Sc_extraWord 45 rfl) rfl rfl ?_
      refine cSr (aw_d q_Sc_extraWord 46 rfl) (sp_typeName_2) sL_Sc_125 rfl rfl rfl rfl ⟨aw_le rfl, aw_le rfl⟩ ?_
      refine cVr (aw_d q_Sc_extraWord 47 rfl) (sp_isWord hc (a := p) (b := we T n p) (j := 21) (we_le hp).1 (we_le hp).2 (by decide)) vL_Sc_117_Sc rfl rfl rfl rfl rfl rfl ⟨aw_le rfl, aw_le rfl⟩ ?_
      refine aw_ifB_eq (tgt := 93) (aw_d q_Sc_extraWord 48 rfl) (by decide) (fun c85 => ?_) (fun c85 => ?_)
      · have d2 := c85
        refine aw_iinc (aw_d q_Sc_extraWord 52 rfl) rfl (ii1 _) (aw_le rfl) rfl ?_
        refine aw_goto (tgt := 67) (aw_d q_Sc_extraWord 53 rfl) (by decide) ?_
        refine aw_iload_n (aw_d q_Sc_extraWord 38 rfl) rfl rfl ?_
        refine aw_iconst (v := nI 4) (aw_d q_Sc_extraWord 39 rfl) (by decide) ?_
        refine aw_icmpN_ne (tgt := 99) (aw_d q_Sc_extraWord 40 rfl) (by decide) (by (have hc2 := hc.2.1; omega)) (by (have hc2 := hc.2.1; omega)) (fun c69 => by exfalso; (have hc2 := hc.2.1; omega)) (fun c69 => ?_)
        refine aw_iload_n (aw_d q_Sc_extraWord 41 rfl) rfl rfl ?_
        refine aw_iconst (v := nI 4) (aw_d q_Sc_extraWord 42 rfl) (by decide) ?_
        refine aw_icmpN_ge (tgt := 99) (aw_d q_Sc_extraWord 43 rfl) (by decide) (by (have hc2 := hc.2.1; omega)) (by (have hc2 := hc.2.1; omega)) (fun c74 => by exfalso; (have hc2 := hc.2.1; omega)) (fun c74 => ?_)
        refine aw_aload_n (aw_d q_Sc_extraWord 44 rfl) rfl rfl rfl ?_
        refine aw_iload_n (aw_d q_Sc_extraWord 45 rfl) rfl rfl ?_
        refine cSr (aw_d q_Sc_extraWord 46 rfl) (sp_typeName_3) sL_Sc_125 rfl rfl rfl rfl ⟨aw_le rfl, aw_le rfl⟩ ?_
        refine cVr (aw_d q_Sc_extraWord 47 rfl) (sp_isWord hc (a := p) (b := we T n p) (j := 22) (we_le hp).1 (we_le hp).2 (by decide)) vL_Sc_117_Sc rfl rfl rfl rfl rfl rfl ⟨aw_le rfl, aw_le rfl⟩ ?_
        refine aw_ifB_eq (tgt := 93) (aw_d q_Sc_extraWord 48 rfl) (by decide) (fun c85 => ?_) (fun c85 => ?_)
        · have d3 := c85
          refine aw_iinc (aw_d q_Sc_extraWord 52 rfl) rfl (ii1 _) (aw_le rfl) rfl ?_
          refine aw_goto (tgt := 67) (aw_d q_Sc_extraWord 53 rfl) (by decide) ?_
          refine aw_iload_n (aw_d q_Sc_extraWord 38 rfl) rfl rfl ?_
          refine aw_iconst (v := nI 4) (aw_d q_Sc_extraWord 39 rfl) (by decide) ?_
          refine aw_icmpN_ne (tgt := 99) (aw_d q_Sc_extraWord 40 rfl) (by decide) (by (have hc2 := hc.2.1; omega)) (by (have hc2 := hc.2.1; omega)) (fun c69 => by exfalso; (have hc2 := hc.2.1; omega)) (fun c69 => ?_)
          refine aw_iload_n (aw_d q_Sc_extraWord 41 rfl) rfl rfl ?_
          refine aw_iconst (v := nI 4) (aw_d q_Sc_extraWord 42 rfl) (by decide) ?_
          refine aw_icmpN_ge (tgt := 99) (aw_d q_Sc_extraWord 43 rfl) (by decide) (by (have hc2 := hc.2.1; omega)) (by (have hc2 := hc.2.1; omega)) (fun c74 => ?_) (fun c74 => by exfalso; (have hc2 := hc.2.1; omega))
          refine aw_aload_n (aw_d q_Sc_extraWord 54 rfl) rfl rfl rfl ?_
          refine aw_getf (v := .int (nI (1))) (aw_d q_Sc_extraWord 55 rfl) fL_Sc_45_Sc rfl (gk rfl) ?_
          refine aw_iconst (v := (-1)) (aw_d q_Sc_extraWord 56 rfl) (by decide) ?_
          refine aw_icmpJ_ne (tgt := 118) (aw_d q_Sc_extraWord 57 rfl) (by decide) (by (have hc2 := hc.2.1; omega)) (fun c104 => ?_) (fun c104 => by exact absurd c104 (by decide))
          refine aw_iconst (v := nI 1) (aw_d q_Sc_extraWord 63 rfl) (by decide) ?_
          refine aw_goto (tgt := 123) (aw_d q_Sc_extraWord 64 rfl) (by decide) ?_
          exact aw_zret (aw_d q_Sc_extraWord 66 rfl) rfl (rfl) (by exact absurd (wm_hd d0 d1 (by decide) (by decide)) (by decide))
        · have d3 := c85
          refine aw_aload_n (aw_d q_Sc_extraWord 49 rfl) rfl rfl rfl ?_
          refine aw_iload_n (aw_d q_Sc_extraWord 50 rfl) rfl rfl ?_
          refine wi_26_6 (aw_d q_Sc_extraWord 51 rfl) pL_Sc_45_Sc ?_
          refine aw_iinc (aw_d q_Sc_extraWord 52 rfl) rfl (ii1 _) (aw_le rfl) rfl ?_
          refine aw_goto (tgt := 67) (aw_d q_Sc_extraWord 53 rfl) (by decide) ?_
          refine aw_iload_n (aw_d q_Sc_extraWord 38 rfl) rfl rfl ?_
          refine aw_iconst (v := nI 4) (aw_d q_Sc_extraWord 39 rfl) (by decide) ?_
          refine aw_icmpN_ne (tgt := 99) (aw_d q_Sc_extraWord 40 rfl) (by decide) (by (have hc2 := hc.2.1; omega)) (by (have hc2 := hc.2.1; omega)) (fun c69 => by exfalso; (have hc2 := hc.2.1; omega)) (fun c69 => ?_)
          refine aw_iload_n (aw_d q_Sc_extraWord 41 rfl) rfl rfl ?_
          refine aw_iconst (v := nI 4) (aw_d q_Sc_extraWord 42 rfl) (by decide) ?_
          refine aw_icmpN_ge (tgt := 99) (aw_d q_Sc_extraWord 43 rfl) (by decide) (by (have hc2 := hc.2.1; omega)) (by (have hc2 := hc.2.1; omega)) (fun c74 => ?_) (fun c74 => by exfalso; (have hc2 := hc.2.1; omega))
          refine aw_aload_n (aw_d q_Sc_extraWord 54 rfl) rfl rfl rfl ?_
          refine aw_getf (v := .int (nI (3))) (aw_d q_Sc_extraWord 55 rfl) fL_Sc_45_Sc rfl (gk rfl) ?_
          refine aw_iconst (v := (-1)) (aw_d q_Sc_extraWord 56 rfl) (by decide) ?_
          refine aw_icmpJ_ne (tgt := 118) (aw_d q_Sc_extraWord 57 rfl) (by decide) (by (have hc2 := hc.2.1; omega)) (fun c104 => ?_) (fun c104 => by exact absurd c104 (by decide))
          refine aw_iconst (v := nI 1) (aw_d q_Sc_extraWord 63 rfl) (by decide) ?_
          refine aw_goto (tgt := 123) (aw_d q_Sc_extraWord 64 rfl) (by decide) ?_
          exact aw_zret (aw_d q_Sc_extraWord 66 rfl) rfl (rfl) (by exact absurd (wm_hd d0 d1 (by decide) (by decide)) (by decide))
      · have d2 := c85
        refine aw_aload_n (aw_d q_Sc_extraWord 49 rfl) rfl rfl rfl ?_
        refine aw_iload_n (aw_d q_Sc_extraWord 50 rfl) rfl rfl ?_
        refine wi_26_6 (aw_d q_Sc_extraWord 51 rfl) pL_Sc_45_Sc ?_
        refine aw_iinc (aw_d q_Sc_extraWord 52 rfl) rfl (ii1 _) (aw_le rfl) rfl ?_
        refine aw_goto (tgt := 67) (aw_d q_Sc_extraWord 53 rfl) (by decide) ?_
        refine aw_iload_n (aw_d q_Sc_extraWord 38 rfl) rfl rfl ?_
        refine aw_iconst (v := nI 4) (aw_d q_Sc_extraWord 39 rfl) (by decide) ?_
        refine aw_icmpN_ne (tgt := 99) (aw_d q_Sc_extraWord 40 rfl) (by decide) (by (have hc2 := hc.2.1; omega)) (by (have hc2 := hc.2.1; omega)) (fun c69 => by exfalso; (have hc2 := hc.2.1; omega)) (fun c69 => ?_)
        refine aw_iload_n (aw_d q_Sc_extraWord 41 rfl) rfl rfl ?_
        refine aw_iconst (v := nI 4) (aw_d q_Sc_extraWord 42 rfl) (by decide) ?_
        refine aw_icmpN_ge (tgt := 99) (aw_d q_Sc_extraWord 43 rfl) (by decide) (by (have hc2 := hc.2.1; omega)) (by (have hc2 := hc.2.1; omega)) (fun c74 => by exfalso; (have hc2 := hc.2.1; omega)) (fun c74 => ?_)
        refine aw_aload_n (aw_d q_Sc_extraWord 44 rfl) rfl rfl rfl ?_
        refine aw_iload_n (aw_d q_Sc_extraWord 45 rfl) rfl rfl ?_
        refine cSr (aw_d q_Sc_extraWord 46 rfl) (sp_typeName_3) sL_Sc_125 rfl rfl rfl rfl ⟨aw_le rfl, aw_le rfl⟩ ?_
        refine cVr (aw_d q_Sc_extraWord 47 rfl) (sp_isWord hc (a := p) (b := we T n p) (j := 22) (we_le hp).1 (we_le hp).2 (by decide)) vL_Sc_117_Sc rfl rfl rfl rfl rfl rfl ⟨aw_le rfl, aw_le rfl⟩ ?_
        refine aw_ifB_eq (tgt := 93) (aw_d q_Sc_extraWord 48 rfl) (by decide) (fun c85 => ?_) (fun c85 => ?_)
        · have d3 := c85
          refine aw_iinc (aw_d q_Sc_extraWord 52 rfl) rfl (ii1 _) (aw_le rfl) rfl ?_
          refine aw_goto (tgt := 67) (aw_d q_Sc_extraWord 53 rfl) (by decide) ?_
          refine aw_iload_n (aw_d q_Sc_extraWord 38 rfl) rfl rfl ?_
          refine aw_iconst (v := nI 4) (aw_d q_Sc_extraWord 39 rfl) (by decide) ?_
          refine aw_icmpN_ne (tgt := 99) (aw_d q_Sc_extraWord 40 rfl) (by decide) (by (have hc2 := hc.2.1; omega)) (by (have hc2 := hc.2.1; omega)) (fun c69 => by exfalso; (have hc2 := hc.2.1; omega)) (fun c69 => ?_)
          refine aw_iload_n (aw_d q_Sc_extraWord 41 rfl) rfl rfl ?_
          refine aw_iconst (v := nI 4) (aw_d q_Sc_extraWord 42 rfl) (by decide) ?_
          refine aw_icmpN_ge (tgt := 99) (aw_d q_Sc_extraWord 43 rfl) (by decide) (by (have hc2 := hc.2.1; omega)) (by (have hc2 := hc.2.1; omega)) (fun c74 => ?_) (fun c74 => by exfalso; (have hc2 := hc.2.1; omega))
          refine aw_aload_n (aw_d q_Sc_extraWord 54 rfl) rfl rfl rfl ?_
          refine aw_getf (v := .int (nI (2))) (aw_d q_Sc_extraWord 55 rfl) fL_Sc_45_Sc rfl (gk rfl) ?_
          refine aw_iconst (v := (-1)) (aw_d q_Sc_extraWord 56 rfl) (by decide) ?_
          refine aw_icmpJ_ne (tgt := 118) (aw_d q_Sc_extraWord 57 rfl) (by decide) (by (have hc2 := hc.2.1; omega)) (fun c104 => ?_) (fun c104 => by exact absurd c104 (by decide))
          refine aw_iconst (v := nI 1) (aw_d q_Sc_extraWord 63 rfl) (by decide) ?_
          refine aw_goto (tgt := 123) (aw_d q_Sc_extraWord 64 rfl) (by decide) ?_
          exact aw_zret (aw_d q_Sc_extraWord 66 rfl) rfl (rfl) (by exact absurd (wm_hd d0 d1 (by decide) (by decide)) (by decide))
        · have d3 := c85
          refine aw_aload_n (aw_d q_Sc_extraWord 49 rfl) rfl rfl rfl ?_
          refine aw_iload_n (aw_d q_Sc_extraWord 50 rfl) rfl rfl ?_
          refine wi_26_6 (aw_d q_Sc_extraWord 51 rfl) pL_Sc_45_Sc ?_
          refine aw_iinc (aw_d q_Sc_extraWord 52 rfl) rfl (ii1 _) (aw_le rfl) rfl ?_
          refine aw_goto (tgt := 67) (aw_d q_Sc_extraWord 53 rfl) (by decide) ?_
          refine aw_iload_n (aw_d q_Sc_extraWord 38 rfl) rfl rfl ?_
          refine aw_iconst (v := nI 4) (aw_d q_Sc_extraWord 39 rfl) (by decide) ?_
          refine aw_icmpN_ne (tgt := 99) (aw_d q_Sc_extraWord 40 rfl) (by decide) (by (have hc2 := hc.2.1; omega)) (by (have hc2 := hc.2.1; omega)) (fun c69 => by exfalso; (have hc2 := hc.2.1; omega)) (fun c69 => ?_)
          refine aw_iload_n (aw_d q_Sc_extraWord 41 rfl) rfl rfl ?_
          refine aw_iconst (v := nI 4) (aw_d q_Sc_extraWord 42 rfl) (by decide) ?_
          refine aw_icmpN_ge (tgt := 99) (aw_d q_Sc_extraWord 43 rfl) (by decide) (by (have hc2 := hc.2.1; omega)) (by (have hc2 := hc.2.1; omega)) (fun c74 => ?_) (fun c74 => by exfalso; (have hc2 := hc.2.1; omega))
          refine aw_aload_n (aw_d q_Sc_extraWord 54 rfl) rfl rfl rfl ?_
          refine aw_getf (v := .int (nI (3))) (aw_d q_Sc_extraWord 55 rfl) fL_Sc_45_Sc rfl (gk rfl) ?_
          refine aw_iconst (v := (-1)) (aw_d q_Sc_extraWord 56 rfl) (by decide) ?_
          refine aw_icmpJ_ne (tgt := 118) (aw_d q_Sc_extraWord 57 rfl) (by decide) (by (have hc2 := hc.2.1; omega)) (fun c104 => ?_) (fun c104 => by exact absurd c104 (by decide))
          refine aw_iconst (v := nI 1) (aw_d q_Sc_extraWord 63 rfl) (by decide) ?_
          refine aw_goto (tgt := 123) (aw_d q_Sc_extraWord 64 rfl) (by decide) ?_
          exact aw_zret (aw_d q_Sc_extraWord 66 rfl) rfl (rfl) (by exact absurd (wm_hd d0 d1 (by decide) (by decide)) (by decide))
set_option maxRecDepth 20000 in
theorem sp_truth {g : aw_G} {S : aw_S} {n : Nat} {T : Nat → Int32} {p : Nat} {q w l k e z : Int32} {X : Nat → Int32} (hc : TPc S n T) (hp : p ≤ n) : Sp g M_Sc_truth 5 107 0 0 [.ref 26] (HP (QC S (nI p) q w l k e z X)) (fun r h => match tr T p with
  | .ok y => r = some (.int (nI y.2)) ∧ h = HP (QC S (nI y.1) q w l k e z X) ∧ y.1 ≤ n ∧ y.2 < 2
  | .error u => r = some (.int (-1)) ∧ CF S u h) := by
  refine Sp.of rfl (aw_le rfl) ?_
  refine aw_aload_n (aw_d q_Sc_truth 0 rfl) rfl rfl rfl ?_
  refine cVr (aw_d q_Sc_truth 1 rfl) (sp_next hc hp) vL_Sc_67_Sc rfl rfl rfl rfl rfl rfl ⟨aw_le rfl, aw_le rfl⟩ ?_
  refine aw_bipush (v := nI 116) (aw_d q_Sc_truth 2 rfl) (by decide) ?_
  refine aw_icmpI_ne (tgt := 24) (aw_d q_Sc_truth 3 rfl) (by decide) (by omega) (fun c6 => ?_) (fun c6 => ?_)
  · refine aw_aload_n (aw_d q_Sc_truth 12 rfl) rfl rfl rfl ?_
    refine aw_ldcS (aw_d q_Sc_truth 13 rfl) tL_Sc_134 ?_
    refine cV (aw_d q_Sc_truth 14 rfl) (sp_must hc hp (j := 88) (by decide)) vL_Sc_131_Sc rfl rfl rfl rfl rfl rfl ⟨aw_le rfl, aw_le rfl⟩ (fun r27 h27 hp27 => ?_)
    cases hx27 : mu T (tx 88) p with
    | error u27 =>
      rw [hx27] at hp27
      obtain ⟨rfl, hf27⟩ := hp27
      refine aw_ifN_eq (tgt := 37) (aw_d q_Sc_truth 15 rfl) (by decide) (by omega) (fun c30 => ?_) (fun c30 => by exfalso; omega)
      refine aw_iconst (v := (-1)) (aw_d q_Sc_truth 18 rfl) (by decide) ?_
      exact aw_iret (aw_d q_Sc_truth 19 rfl) rfl (by rw [tr, if_neg (by omega), hx27, bd_er]; exact ⟨rfl, hf27⟩)
    | ok p27 =>
      rw [hx27] at hp27
      obtain ⟨rfl, rfl, hp_27⟩ := hp27
      refine aw_ifN_eq (tgt := 37) (aw_d q_Sc_truth 15 rfl) (by decide) (by omega) (fun c30 => by exfalso; omega) (fun c30 => ?_)
      refine aw_iconst (v := nI 0) (aw_d q_Sc_truth 16 rfl) (by decide) ?_
      refine aw_goto (tgt := 38) (aw_d q_Sc_truth 17 rfl) (by decide) ?_
      exact aw_iret (aw_d q_Sc_truth 19 rfl) rfl (by rw [tr, if_neg (by omega), hx27, bd_ok]; exact ⟨rfl, rfl, hp_27, aw_le rfl⟩)
  · refine aw_aload_n (aw_d q_Sc_truth 4 rfl) rfl rfl rfl ?_
    refine aw_ldcS (aw_d q_Sc_truth 5 rfl) tL_Sc_129 ?_
    refine cV (aw_d q_Sc_truth 6 rfl) (sp_must hc hp (j := 87) (by decide)) vL_Sc_131_Sc rfl rfl rfl rfl rfl rfl ⟨aw_le rfl, aw_le rfl⟩ (fun r12 h12 hp12 => ?_)
    cases hx12 : mu T (tx 87) p with
    | error u12 =>
      rw [hx12] at hp12
      obtain ⟨rfl, hf12⟩ := hp12
      refine aw_ifN_eq (tgt := 22) (aw_d q_Sc_truth 7 rfl) (by decide) (by omega) (fun c15 => ?_) (fun c15 => by exfalso; omega)
      refine aw_iconst (v := (-1)) (aw_d q_Sc_truth 10 rfl) (by decide) ?_
      exact aw_iret (aw_d q_Sc_truth 11 rfl) rfl (by rw [tr, if_pos (by omega), hx12, bd_er]; exact ⟨rfl, hf12⟩)
    | ok p12 =>
      rw [hx12] at hp12
      obtain ⟨rfl, rfl, hp_12⟩ := hp12
      refine aw_ifN_eq (tgt := 22) (aw_d q_Sc_truth 7 rfl) (by decide) (by omega) (fun c15 => by exfalso; omega) (fun c15 => ?_)
      refine aw_iconst (v := nI 1) (aw_d q_Sc_truth 8 rfl) (by decide) ?_
      refine aw_goto (tgt := 23) (aw_d q_Sc_truth 9 rfl) (by decide) ?_
      exact aw_iret (aw_d q_Sc_truth 11 rfl) rfl (by rw [tr, if_pos (by omega), hx12, bd_ok]; exact ⟨rfl, rfl, hp_12, aw_le rfl⟩)
