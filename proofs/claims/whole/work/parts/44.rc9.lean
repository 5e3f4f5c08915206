/-- the end of a reading, and of a hearing, on the class's side -/
def rdE (S : aw_S) (P : xp_T) (res : Except Nat rd_T) (r : Option Value) (h : aw_hp) : Prop := match res with
  | .ok y => (((fE (tsO P) y.2.2).1.1 ≤ 60 ∧ r = some (.int (nI y.2.1)) ∧ xp_wd (pcO (tsO P) y) ∧ ∃ F, h = HP F ∧ F.1 101 = nI 0 ∧ xp_C F (pcO (tsO P) y) ∧ frR S F) ∨ (60 < (fE (tsO P) y.2.2).1.1 ∧ r = some (.int (-3)) ∧ ∃ F, h = HP F ∧ F.1 101 = nI 0 ∧ xp_C F P ∧ frR S F))
  | .error u => r = some (.int (-10 - nI u)) ∧ ∃ F, h = HP F ∧ F.1 101 = nI 0 ∧ xp_C F P ∧ frR S F
theorem QC_bg {S : aw_S} {x : Int32} : si (si (si (si (si (si (si S 2601 (nI 0)) 2602 (nI 0)) 2603 (nI 0)) 2604 (nI 0)) 2605 x) 2606 (nI 0)) 2701 (nI 0) = QC S (nI 0) (nI 0) (nI 0) (nI 0) x (nI 0) (nI 0) (S.2 28) := by
  refine s_ext (fun j => ?_) (fun c => ?_)
  · simp only [QC, si, upd]
    by_cases h1 : j = 2601
    · subst h1; rfl
    · by_cases h2 : j = 2602
      · subst h2; rfl
      · by_cases h3 : j = 2603
        · subst h3; rfl
        · by_cases h4 : j = 2604
          · subst h4; rfl
          · by_cases h5 : j = 2605
            · subst h5; rfl
            · by_cases h6 : j = 2606
              · subst h6; rfl
              · by_cases h7 : j = 2701
                · subst h7; rfl
                · rw [if_neg h7, if_neg h6, if_neg h5, if_neg h4, if_neg h3, if_neg h2, if_neg h1, if_neg h1, if_neg h2, if_neg h3, if_neg h4, if_neg h5, if_neg h6, if_neg h7]
  · simp only [QC, si]
    by_cases h : c = 28
    · rw [if_pos h, h]
    · rw [if_neg h]
set_option maxRecDepth 20000 in
theorem sp_begT {g : aw_G} {S : aw_S} {x : Int32} : Sp g M_Sc_beginTerm 1 20 0 0 [.ref 26, .int x] (HP S) (fun r h => r = none ∧ h = HP (si (si (si S 2605 x) 2606 (nI 0)) 2701 (nI 0))) := by
  refine Sp.of rfl (aw_le rfl) ?_
  refine aw_aload_n (aw_d q_Sc_beginTerm 0 rfl) rfl rfl rfl ?_
  refine aw_iload_n (aw_d q_Sc_beginTerm 1 rfl) rfl rfl ?_
  refine wi_26_5 (aw_d q_Sc_beginTerm 2 rfl) pL_Sc_42_Sc ?_
  refine aw_aload_n (aw_d q_Sc_beginTerm 3 rfl) rfl rfl rfl ?_
  refine aw_iconst (v := nI 0) (aw_d q_Sc_beginTerm 4 rfl) (by decide) ?_
  refine wi_26_6 (aw_d q_Sc_beginTerm 5 rfl) pL_Sc_45_Sc ?_
  refine aw_aload_n (aw_d q_Sc_beginTerm 6 rfl) rfl rfl rfl ?_
  refine aw_getf (aw_d q_Sc_beginTerm 7 rfl) fL_Sc_18_Sc rfl rfl ?_
  refine cVv (aw_d q_Sc_beginTerm 8 rfl) (sp_Tx_empty_27) vL_Sc_48_Tx rfl rfl rfl rfl rfl rfl ⟨aw_le rfl, aw_le rfl⟩ ?_
  exact aw_vret (aw_d q_Sc_beginTerm 9 rfl) rfl (⟨rfl, rfl⟩)
set_option maxRecDepth 20000 in
theorem sp_begin {g : aw_G} {S : aw_S}  : Sp g M_Sc_begin 2 41 0 0 [.ref 26] (HP S) (fun r h => r = none ∧ h = HP (QC S (nI 0) (nI 0) (nI 0) (nI 0) (-1) (nI 0) (nI 0) (S.2 28))) := by
  refine Sp.of rfl (aw_le rfl) ?_
  refine aw_aload_n (aw_d q_Sc_begin 0 rfl) rfl rfl rfl ?_
  refine aw_iconst (v := nI 0) (aw_d q_Sc_begin 1 rfl) (by decide) ?_
  refine wi_26_1 (aw_d q_Sc_begin 2 rfl) pL_Sc_25_Sc ?_
  refine aw_aload_n (aw_d q_Sc_begin 3 rfl) rfl rfl rfl ?_
  refine aw_iconst (v := nI 0) (aw_d q_Sc_begin 4 rfl) (by decide) ?_
  refine wi_26_2 (aw_d q_Sc_begin 5 rfl) pL_Sc_29_Sc ?_
  refine aw_aload_n (aw_d q_Sc_begin 6 rfl) rfl rfl rfl ?_
  refine aw_iconst (v := nI 0) (aw_d q_Sc_begin 7 rfl) (by decide) ?_
  refine wi_26_3 (aw_d q_Sc_begin 8 rfl) pL_Sc_32_Sc ?_
  refine aw_aload_n (aw_d q_Sc_begin 9 rfl) rfl rfl rfl ?_
  refine aw_iconst (v := nI 0) (aw_d q_Sc_begin 10 rfl) (by decide) ?_
  refine wi_26_4 (aw_d q_Sc_begin 11 rfl) pL_Sc_35_Sc ?_
  refine aw_aload_n (aw_d q_Sc_begin 12 rfl) rfl rfl rfl ?_
  refine aw_iconst (v := (-1)) (aw_d q_Sc_begin 13 rfl) (by decide) ?_
  refine cVv (aw_d q_Sc_begin 14 rfl) (sp_begT) vL_Sc_38_Sc rfl rfl rfl rfl rfl rfl ⟨aw_le rfl, aw_le rfl⟩ ?_
  exact aw_vret (aw_d q_Sc_begin 15 rfl) rfl (⟨rfl, by rw [← QC_bg]⟩)
set_option maxRecDepth 20000 in
theorem sp_RF_read_0 {g : aw_G} {S : aw_S} {P : xp_T} {n : Nat} {T : Nat → Int32} (hP : xp_C S P) (hW : xp_wd P) (hc : TPc S n T)  : Sp g M_RF_read 10 224 0 0 [.ref 0, .int (nI 0)] (HP S) (rdE S P (rdJ T n nm0)) := by
  refine Sp.of rfl (aw_le rfl) ?_
  have hw := tsO_W hW
  have h60 : (tsO P).1 ≤ 60 := hW.1.2.2
  refine aw_iload_n (aw_d q_RF_read 0 rfl) rfl rfl ?_
  refine aw_ifN_lt (tgt := 9) (aw_d q_RF_read 1 rfl) (by decide) (by (have hW1 := hW.1; omega)) (fun c1 => by exfalso; (have hW1 := hW.1; omega)) (fun c1 => ?_)
  refine aw_iload_n (aw_d q_RF_read 2 rfl) rfl rfl ?_
  refine aw_iconst (v := nI 3) (aw_d q_RF_read 3 rfl) (by decide) ?_
  refine aw_icmpN_le (tgt := 18) (aw_d q_RF_read 4 rfl) (by decide) (by (have hW1 := hW.1; omega)) (by (have hW1 := hW.1; omega)) (fun c6 => ?_) (fun c6 => by exfalso; (have hW1 := hW.1; omega))
  refine aw_aload_n (aw_d q_RF_read 10 rfl) rfl rfl rfl ?_
  refine aw_getf (aw_d q_RF_read 11 rfl) fL_RF_32_RF rfl rfl ?_
  refine aw_getf (v := .int (nI (xp_t P))) (aw_d q_RF_read 12 rfl) fL_RF_126_Te rfl (gk hP.1.1) ?_
  refine aw_istore_n (aw_d q_RF_read 13 rfl) rfl (aw_le rfl) rfl ?_
  refine aw_aload_n (aw_d q_RF_read 14 rfl) rfl rfl rfl ?_
  refine aw_getf (aw_d q_RF_read 15 rfl) fL_RF_43_RF rfl rfl ?_
  refine cVv (aw_d q_RF_read 16 rfl) (sp_Tb_empty_18) vL_RF_182_Tb rfl rfl rfl rfl rfl rfl ⟨aw_le rfl, aw_le rfl⟩ ?_
  refine aw_aload_n (aw_d q_RF_read 17 rfl) rfl rfl rfl ?_
  refine aw_getf (aw_d q_RF_read 18 rfl) fL_RF_58_RF rfl rfl ?_
  refine cVv (aw_d q_RF_read 19 rfl) (sp_begin) vL_RF_198_Sc rfl rfl rfl rfl rfl rfl ⟨aw_le rfl, aw_le rfl⟩ ?_
  refine aw_iload_n (aw_d q_RF_read 20 rfl) rfl rfl ?_
  have hsx41 : (nI (0)).toInt = ((0 : Nat) : Int) := nI_toInt (by (have hW1 := hW.1; omega))
  have hsw : (nI (0)).toInt = 0 := by (have hW1 := hW.1; omega)
  refine aw_tableIn (tgt := 68) (aw_d q_RF_read 21 rfl) (by omega) (by omega) (by rw [hsw]; rfl) (by decide) ?_
  refine aw_aload_n (aw_d q_RF_read 22 rfl) rfl rfl rfl ?_
  refine aw_getf (aw_d q_RF_read 23 rfl) fL_RF_67_RF rfl rfl ?_
  refine aw_aload_n (aw_d q_RF_read 24 rfl) rfl rfl rfl ?_
  refine aw_getf (aw_d q_RF_read 25 rfl) fL_RF_43_RF rfl rfl ?_
  refine cV (aw_d q_RF_read 26 rfl) (sp_rdJ (S := rB S) (D := rB S) hw h60 (rB_TP hc) (rB_I hP hW)) vL_RF_201_Js rfl rfl rfl rfl rfl rfl ⟨aw_le rfl, aw_le rfl⟩ (fun r76 h76 hp76 => ?_)
  cases hx : rdJ T n nm0 with
  | error u =>
    rw [hx] at hp76
    obtain ⟨rfl, F, hb, p1, w1, l1, k1, e1, z1, X1, rfl⟩ := hp76
    have hb2 := hb
    obtain ⟨hfr, E, hE, hEW, hEL⟩ := hb2
    refine aw_istore_n (aw_d q_RF_read 27 rfl) rfl (aw_le rfl) rfl ?_
    refine aw_goto (tgt := 125) (aw_d q_RF_read 28 rfl) (by decide) ?_
    refine aw_aload_n (aw_d q_RF_read 49 rfl) rfl rfl rfl ?_
    refine aw_getf (aw_d q_RF_read 50 rfl) fL_RF_10_RF rfl rfl ?_
    refine cVv (aw_d q_RF_read 51 rfl) (sp_By_empty_1) vL_RF_112_By rfl rfl rfl rfl rfl rfl ⟨aw_le rfl, aw_le rfl⟩ ?_
    refine aw_iload_n (aw_d q_RF_read 52 rfl) rfl rfl ?_
    refine aw_ifN_eq (tgt := 167) (aw_d q_RF_read 53 rfl) (by decide) (by (have hW1 := hW.1; omega)) (fun c133 => ?_) (fun c133 => by exfalso; (have hW1 := hW.1; omega))
    refine aw_aload_n (aw_d q_RF_read 68 rfl) rfl rfl rfl ?_
    refine aw_getf (aw_d q_RF_read 69 rfl) fL_RF_32_RF rfl rfl ?_
    refine aw_iload_n (aw_d q_RF_read 70 rfl) rfl rfl ?_
    refine cV (aw_d q_RF_read 71 rfl) (sp_Te_forgetFrom (S := tE (QC F p1 (nI u) w1 l1 k1 e1 z1 X1)) (nt := E.1) (k := xp_t P) (teC_T hE hEW) hEL.1) vL_RF_211_Te rfl rfl rfl rfl rfl rfl ⟨aw_le rfl, aw_le rfl⟩ (fun r172 h172 hp172 => ?_)
    obtain ⟨rfl, S2, rfl, g0, g1, g2⟩ := hp172
    refine aw_iload_n (aw_d q_RF_read 72 rfl) rfl rfl ?_
    refine aw_ifN_eq (tgt := 184) (aw_d q_RF_read 73 rfl) (by decide) (by (have hW1 := hW.1; omega)) (fun c176 => ?_) (fun c176 => by exfalso; (have hW1 := hW.1; omega))
    refine aw_bipush (v := (-10)) (aw_d q_RF_read 76 rfl) (by decide) ?_
    refine aw_aload_n (aw_d q_RF_read 77 rfl) rfl rfl rfl ?_
    refine aw_getf (aw_d q_RF_read 78 rfl) fL_RF_58_RF rfl rfl ?_
    refine aw_getf (v := .int (nI (u))) (aw_d q_RF_read 79 rfl) fL_RF_214_Sc rfl (gk ((g2 2602 (by decide)).trans rfl)) ?_
    refine aw_isub (aw_d q_RF_read 80 rfl) ?_
    exact aw_iret (aw_d q_RF_read 81 rfl) rfl (by exact ⟨rfl, ⟨_, rfl, (g2 101 (by decide)).trans rfl, rd_no hP hb g0 ((g2 1403 (by decide)).trans rfl) ((g2 1404 (by decide)).trans rfl) (fun c hc => by rw [g1]; exact if_neg hc), frR_te (frR_of hfr) g0 g1 g2⟩⟩)
  | ok y =>
    rw [hx] at hp76
    obtain ⟨rfl, F, p1, w1, l1, k1, e1, z1, X1, hI, hs, rfl⟩ := hp76
    have hEW := fE_W hw hs
    have h204 := hI.2.2.2.1.1.2
    refine aw_istore_n (aw_d q_RF_read 27 rfl) rfl (aw_le rfl) rfl ?_
    refine aw_goto (tgt := 125) (aw_d q_RF_read 28 rfl) (by decide) ?_
    refine aw_aload_n (aw_d q_RF_read 49 rfl) rfl rfl rfl ?_
    refine aw_getf (aw_d q_RF_read 50 rfl) fL_RF_10_RF rfl rfl ?_
    refine cVv (aw_d q_RF_read 51 rfl) (sp_By_empty_1) vL_RF_112_By rfl rfl rfl rfl rfl rfl ⟨aw_le rfl, aw_le rfl⟩ ?_
    refine aw_iload_n (aw_d q_RF_read 52 rfl) rfl rfl ?_
    refine aw_ifN_eq (tgt := 167) (aw_d q_RF_read 53 rfl) (by decide) (by (have hW1 := hW.1; omega)) (fun c133 => by exfalso; (have hW1 := hW.1; omega)) (fun c133 => ?_)
    refine aw_aload_n (aw_d q_RF_read 54 rfl) rfl rfl rfl ?_
    refine aw_getf (aw_d q_RF_read 55 rfl) fL_RF_32_RF rfl rfl ?_
    refine aw_getf (v := .int (nI ((fE (tsO P) y.2.2).1.1))) (aw_d q_RF_read 56 rfl) fL_RF_126_Te rfl (gk hI.2.2.2.1.1.1) ?_
    refine aw_bipush (v := nI 60) (aw_d q_RF_read 57 rfl) (by decide) ?_
    refine aw_icmpN_gt (tgt := 167) (aw_d q_RF_read 58 rfl) (by decide) (by (have hW1 := hW.1; omega)) (by (have hW1 := hW.1; omega)) (fun c145 => ?_) (fun c145 => ?_)
    · refine aw_aload_n (aw_d q_RF_read 68 rfl) rfl rfl rfl ?_
      refine aw_getf (aw_d q_RF_read 69 rfl) fL_RF_32_RF rfl rfl ?_
      refine aw_iload_n (aw_d q_RF_read 70 rfl) rfl rfl ?_
      refine cV (aw_d q_RF_read 71 rfl) (sp_Te_forgetFrom (S := tE (QC F p1 (nI 0) w1 l1 k1 e1 z1 X1)) (nt := (fE (tsO P) y.2.2).1.1) (k := xp_t P) (teC_T hI.2.2.2.1 hEW) (fE_le (E := tsO P) y.2.2).1.1) vL_RF_211_Te rfl rfl rfl rfl rfl rfl ⟨aw_le rfl, aw_le rfl⟩ (fun r172 h172 hp172 => ?_)
      obtain ⟨rfl, S2, rfl, g0, g1, g2⟩ := hp172
      refine aw_iload_n (aw_d q_RF_read 72 rfl) rfl rfl ?_
      refine aw_ifN_eq (tgt := 184) (aw_d q_RF_read 73 rfl) (by decide) (by (have hW1 := hW.1; omega)) (fun c176 => by exfalso; (have hW1 := hW.1; omega)) (fun c176 => ?_)
      refine aw_bipush (v := (-3)) (aw_d q_RF_read 74 rfl) (by decide) ?_
      refine aw_goto (tgt := 194) (aw_d q_RF_read 75 rfl) (by decide) ?_
      exact aw_iret (aw_d q_RF_read 81 rfl) rfl (by exact Or.inr ⟨by omega, rfl, ⟨_, rfl, (g2 101 (by decide)).trans rfl, rd_no hP (itC_bs hI hw hs) g0 ((g2 1403 (by decide)).trans rfl) ((g2 1404 (by decide)).trans rfl) (fun c hc => by rw [g1]; exact if_neg hc), frR_te (frR_of hI.1) g0 g1 g2⟩⟩)
    · refine aw_aload_n (aw_d q_RF_read 59 rfl) rfl rfl rfl ?_
      refine aw_getf (aw_d q_RF_read 60 rfl) fL_RF_39_RF rfl rfl ?_
      refine aw_aload_n (aw_d q_RF_read 61 rfl) rfl rfl rfl ?_
      refine aw_getf (aw_d q_RF_read 62 rfl) fL_RF_43_RF rfl rfl ?_
      refine cV (aw_d q_RF_read 63 rfl) (sp_Tb_copyFrom_14) vL_RF_208_Tb rfl rfl rfl rfl rfl rfl ⟨aw_le rfl, aw_le rfl⟩ (fun r156 h156 hp156 => ?_)
      obtain ⟨rfl, A1, A2, A3, rfl, a1, a2, a3⟩ := hp156
      refine aw_aload_n (aw_d q_RF_read 64 rfl) rfl rfl rfl ?_
      refine aw_getf (aw_d q_RF_read 65 rfl) fL_RF_39_RF rfl rfl ?_
      refine aw_getf (v := .int (nI (y.2.1))) (aw_d q_RF_read 66 rfl) fL_RF_154_Tb rfl (gk hI.2.2.1.1) ?_
      exact aw_iret (aw_d q_RF_read 67 rfl) rfl (by exact Or.inl ⟨by omega, rfl, pcO_wd hI hw hs (by omega), _, rfl, rfl, rd_ok hI a1 a2 a3, frR_cp (frR_of hI.1)⟩)
set_option maxRecDepth 20000 in
theorem sp_RF_read_1 {g : aw_G} {S : aw_S} {P : xp_T} {n : Nat} {T : Nat → Int32} (hP : xp_C S P) (hW : xp_wd P) (hc : TPc S n T)  : Sp g M_RF_read 10 224 0 0 [.ref 0, .int (nI 1)] (HP S) (rdE S P (rdX T n nm0)) := by
  refine Sp.of rfl (aw_le rfl) ?_
  have hw := tsO_W hW
  have h60 : (tsO P).1 ≤ 60 := hW.1.2.2
  refine aw_iload_n (aw_d q_RF_read 0 rfl) rfl rfl ?_
  refine aw_ifN_lt (tgt := 9) (aw_d q_RF_read 1 rfl) (by decide) (by (have hW1 := hW.1; omega)) (fun c1 => by exfalso; (have hW1 := hW.1; omega)) (fun c1 => ?_)
  refine aw_iload_n (aw_d q_RF_read 2 rfl) rfl rfl ?_
  refine aw_iconst (v := nI 3) (aw_d q_RF_read 3 rfl) (by decide) ?_
  refine aw_icmpN_le (tgt := 18) (aw_d q_RF_read 4 rfl) (by decide) (by (have hW1 := hW.1; omega)) (by (have hW1 := hW.1; omega)) (fun c6 => ?_) (fun c6 => by exfalso; (have hW1 := hW.1; omega))
  refine aw_aload_n (aw_d q_RF_read 10 rfl) rfl rfl rfl ?_
  refine aw_getf (aw_d q_RF_read 11 rfl) fL_RF_32_RF rfl rfl ?_
  refine aw_getf (v := .int (nI (xp_t P))) (aw_d q_RF_read 12 rfl) fL_RF_126_Te rfl (gk hP.1.1) ?_
  refine aw_istore_n (aw_d q_RF_read 13 rfl) rfl (aw_le rfl) rfl ?_
  refine aw_aload_n (aw_d q_RF_read 14 rfl) rfl rfl rfl ?_
  refine aw_getf (aw_d q_RF_read 15 rfl) fL_RF_43_RF rfl rfl ?_
  refine cVv (aw_d q_RF_read 16 rfl) (sp_Tb_empty_18) vL_RF_182_Tb rfl rfl rfl rfl rfl rfl ⟨aw_le rfl, aw_le rfl⟩ ?_
  refine aw_aload_n (aw_d q_RF_read 17 rfl) rfl rfl rfl ?_
  refine aw_getf (aw_d q_RF_read 18 rfl) fL_RF_58_RF rfl rfl ?_
  refine cVv (aw_d q_RF_read 19 rfl) (sp_begin) vL_RF_198_Sc rfl rfl rfl rfl rfl rfl ⟨aw_le rfl, aw_le rfl⟩ ?_
  refine aw_iload_n (aw_d q_RF_read 20 rfl) rfl rfl ?_
  have hsx41 : (nI (1)).toInt = ((1 : Nat) : Int) := nI_toInt (by (have hW1 := hW.1; omega))
  have hsw : (nI (1)).toInt = 1 := by (have hW1 := hW.1; omega)
  refine aw_tableIn (tgt := 83) (aw_d q_RF_read 21 rfl) (by omega) (by omega) (by rw [hsw]; rfl) (by decide) ?_
  refine aw_aload_n (aw_d q_RF_read 29 rfl) rfl rfl rfl ?_
  refine aw_getf (aw_d q_RF_read 30 rfl) fL_RF_74_RF rfl rfl ?_
  refine aw_aload_n (aw_d q_RF_read 31 rfl) rfl rfl rfl ?_
  refine aw_getf (aw_d q_RF_read 32 rfl) fL_RF_43_RF rfl rfl ?_
  refine cV (aw_d q_RF_read 33 rfl) (sp_rdX (S := rB S) (D := rB S) hw h60 (rB_TP hc) (rB_I hP hW)) vL_RF_205_Xm rfl rfl rfl rfl rfl rfl ⟨aw_le rfl, aw_le rfl⟩ (fun r91 h91 hp91 => ?_)
  cases hx : rdX T n nm0 with
  | error u =>
    rw [hx] at hp91
    obtain ⟨rfl, F, hb, p1, w1, l1, k1, e1, z1, X1, rfl⟩ := hp91
    have hb2 := hb
    obtain ⟨hfr, E, hE, hEW, hEL⟩ := hb2
    refine aw_istore_n (aw_d q_RF_read 34 rfl) rfl (aw_le rfl) rfl ?_
    refine aw_goto (tgt := 125) (aw_d q_RF_read 35 rfl) (by decide) ?_
    refine aw_aload_n (aw_d q_RF_read 49 rfl) rfl rfl rfl ?_
    refine aw_getf (aw_d q_RF_read 50 rfl) fL_RF_10_RF rfl rfl ?_
    refine cVv (aw_d q_RF_read 51 rfl) (sp_By_empty_1) vL_RF_112_By rfl rfl rfl rfl rfl rfl ⟨aw_le rfl, aw_le rfl⟩ ?_
    refine aw_iload_n (aw_d q_RF_read 52 rfl) rfl rfl ?_
    refine aw_ifN_eq (tgt := 167) (aw_d q_RF_read 53 rfl) (by decide) (by (have hW1 := hW.1; omega)) (fun c133 => ?_) (fun c133 => by exfalso; (have hW1 := hW.1; omega))
    refine aw_aload_n (aw_d q_RF_read 68 rfl) rfl rfl rfl ?_
    refine aw_getf (aw_d q_RF_read 69 rfl) fL_RF_32_RF rfl rfl ?_
    refine aw_iload_n (aw_d q_RF_read 70 rfl) rfl rfl ?_
    refine cV (aw_d q_RF_read 71 rfl) (sp_Te_forgetFrom (S := tE (QC F p1 (nI u) w1 l1 k1 e1 z1 X1)) (nt := E.1) (k := xp_t P) (teC_T hE hEW) hEL.1) vL_RF_211_Te rfl rfl rfl rfl rfl rfl ⟨aw_le rfl, aw_le rfl⟩ (fun r172 h172 hp172 => ?_)
    obtain ⟨rfl, S2, rfl, g0, g1, g2⟩ := hp172
    refine aw_iload_n (aw_d q_RF_read 72 rfl) rfl rfl ?_
    refine aw_ifN_eq (tgt := 184) (aw_d q_RF_read 73 rfl) (by decide) (by (have hW1 := hW.1; omega)) (fun c176 => ?_) (fun c176 => by exfalso; (have hW1 := hW.1; omega))
    refine aw_bipush (v := (-10)) (aw_d q_RF_read 76 rfl) (by decide) ?_
    refine aw_aload_n (aw_d q_RF_read 77 rfl) rfl rfl rfl ?_
    refine aw_getf (aw_d q_RF_read 78 rfl) fL_RF_58_RF rfl rfl ?_
    refine aw_getf (v := .int (nI (u))) (aw_d q_RF_read 79 rfl) fL_RF_214_Sc rfl (gk ((g2 2602 (by decide)).trans rfl)) ?_
    refine aw_isub (aw_d q_RF_read 80 rfl) ?_
    exact aw_iret (aw_d q_RF_read 81 rfl) rfl (by exact ⟨rfl, ⟨_, rfl, (g2 101 (by decide)).trans rfl, rd_no hP hb g0 ((g2 1403 (by decide)).trans rfl) ((g2 1404 (by decide)).trans rfl) (fun c hc => by rw [g1]; exact if_neg hc), frR_te (frR_of hfr) g0 g1 g2⟩⟩)
  | ok y =>
    rw [hx] at hp91
    obtain ⟨rfl, F, p1, w1, l1, k1, e1, z1, X1, hI, hs, rfl⟩ := hp91
    have hEW := fE_W hw hs
    have h204 := hI.2.2.2.1.1.2
    refine aw_istore_n (aw_d q_RF_read 34 rfl) rfl (aw_le rfl) rfl ?_
    refine aw_goto (tgt := 125) (aw_d q_RF_read 35 rfl) (by decide) ?_
    refine aw_aload_n (aw_d q_RF_read 49 rfl) rfl rfl rfl ?_
    refine aw_getf (aw_d q_RF_read 50 rfl) fL_RF_10_RF rfl rfl ?_
    refine cVv (aw_d q_RF_read 51 rfl) (sp_By_empty_1) vL_RF_112_By rfl rfl rfl rfl rfl rfl ⟨aw_le rfl, aw_le rfl⟩ ?_
    refine aw_iload_n (aw_d q_RF_read 52 rfl) rfl rfl ?_
    refine aw_ifN_eq (tgt := 167) (aw_d q_RF_read 53 rfl) (by decide) (by (have hW1 := hW.1; omega)) (fun c133 => by exfalso; (have hW1 := hW.1; omega)) (fun c133 => ?_)
    refine aw_aload_n (aw_d q_RF_read 54 rfl) rfl rfl rfl ?_
    refine aw_getf (aw_d q_RF_read 55 rfl) fL_RF_32_RF rfl rfl ?_
    refine aw_getf (v := .int (nI ((fE (tsO P) y.2.2).1.1))) (aw_d q_RF_read 56 rfl) fL_RF_126_Te rfl (gk hI.2.2.2.1.1.1) ?_
    refine aw_bipush (v := nI 60) (aw_d q_RF_read 57 rfl) (by decide) ?_
    refine aw_icmpN_gt (tgt := 167) (aw_d q_RF_read 58 rfl) (by decide) (by (have hW1 := hW.1; omega)) (by (have hW1 := hW.1; omega)) (fun c145 => ?_) (fun c145 => ?_)
    · refine aw_aload_n (aw_d q_RF_read 68 rfl) rfl rfl rfl ?_
      refine aw_getf (aw_d q_RF_read 69 rfl) fL_RF_32_RF rfl rfl ?_
      refine aw_iload_n (aw_d q_RF_read 70 rfl) rfl rfl ?_
      refine cV (aw_d q_RF_read 71 rfl) (sp_Te_forgetFrom (S := tE (QC F p1 (nI 0) w1 l1 k1 e1 z1 X1)) (nt := (fE (tsO P) y.2.2).1.1) (k := xp_t P) (teC_T hI.2.2.2.1 hEW) (fE_le (E := tsO P) y.2.2).1.1) vL_RF_211_Te rfl rfl rfl rfl rfl rfl ⟨aw_le rfl, aw_le rfl⟩ (fun r172 h172 hp172 => ?_)
      obtain ⟨rfl, S2, rfl, g0, g1, g2⟩ := hp172
      refine aw_iload_n (aw_d q_RF_read 72 rfl) rfl rfl ?_
      refine aw_ifN_eq (tgt := 184) (aw_d q_RF_read 73 rfl) (by decide) (by (have hW1 := hW.1; omega)) (fun c176 => by exfalso; (have hW1 := hW.1; omega)) (fun c176 => ?_)
      refine aw_bipush (v := (-3)) (aw_d q_RF_read 74 rfl) (by decide) ?_
      refine aw_goto (tgt := 194) (aw_d q_RF_read 75 rfl) (by decide) ?_
      exact aw_iret (aw_d q_RF_read 81 rfl) rfl (by exact Or.inr ⟨by omega, rfl, ⟨_, rfl, (g2 101 (by decide)).trans rfl, rd_no hP (itC_bs hI hw hs) g0 ((g2 1403 (by decide)).trans rfl) ((g2 1404 (by decide)).trans rfl) (fun c hc => by rw [g1]; exact if_neg hc), frR_te (frR_of hI.1) g0 g1 g2⟩⟩)
    · refine aw_aload_n (aw_d q_RF_read 59 rfl) rfl rfl rfl ?_
      refine aw_getf (aw_d q_RF_read 60 rfl) fL_RF_39_RF rfl rfl ?_
      refine aw_aload_n (aw_d q_RF_read 61 rfl) rfl rfl rfl ?_
      refine aw_getf (aw_d q_RF_read 62 rfl) fL_RF_43_RF rfl rfl ?_
      refine cV (aw_d q_RF_read 63 rfl) (sp_Tb_copyFrom_14) vL_RF_208_Tb rfl rfl rfl rfl rfl rfl ⟨aw_le rfl, aw_le rfl⟩ (fun r156 h156 hp156 => ?_)
      obtain ⟨rfl, A1, A2, A3, rfl, a1, a2, a3⟩ := hp156
      refine aw_aload_n (aw_d q_RF_read 64 rfl) rfl rfl rfl ?_
      refine aw_getf (aw_d q_RF_read 65 rfl) fL_RF_39_RF rfl rfl ?_
      refine aw_getf (v := .int (nI (y.2.1))) (aw_d q_RF_read 66 rfl) fL_RF_154_Tb rfl (gk hI.2.2.1.1) ?_
      exact aw_iret (aw_d q_RF_read 67 rfl) rfl (by exact Or.inl ⟨by omega, rfl, pcO_wd hI hw hs (by omega), _, rfl, rfl, rd_ok hI a1 a2 a3, frR_cp (frR_of hI.1)⟩)
set_option maxRecDepth 20000 in
theorem sp_RF_read_2 {g : aw_G} {S : aw_S} {P : xp_T} {n : Nat} {T : Nat → Int32} (hP : xp_C S P) (hW : xp_wd P) (hc : TPc S n T)  : Sp g M_RF_read 10 224 0 0 [.ref 0, .int (nI 2)] (HP S) (rdE S P (rdL true T n nm0)) := by
  refine Sp.of rfl (aw_le rfl) ?_
  have hw := tsO_W hW
  have h60 : (tsO P).1 ≤ 60 := hW.1.2.2
  refine aw_iload_n (aw_d q_RF_read 0 rfl) rfl rfl ?_
  refine aw_ifN_lt (tgt := 9) (aw_d q_RF_read 1 rfl) (by decide) (by (have hW1 := hW.1; omega)) (fun c1 => by exfalso; (have hW1 := hW.1; omega)) (fun c1 => ?_)
  refine aw_iload_n (aw_d q_RF_read 2 rfl) rfl rfl ?_
  refine aw_iconst (v := nI 3) (aw_d q_RF_read 3 rfl) (by decide) ?_
  refine aw_icmpN_le (tgt := 18) (aw_d q_RF_read 4 rfl) (by decide) (by (have hW1 := hW.1; omega)) (by (have hW1 := hW.1; omega)) (fun c6 => ?_) (fun c6 => by exfalso; (have hW1 := hW.1; omega))
  refine aw_aload_n (aw_d q_RF_read 10 rfl) rfl rfl rfl ?_
  refine aw_getf (aw_d q_RF_read 11 rfl) fL_RF_32_RF rfl rfl ?_
  refine aw_getf (v := .int (nI (xp_t P))) (aw_d q_RF_read 12 rfl) fL_RF_126_Te rfl (gk hP.1.1) ?_
  refine aw_istore_n (aw_d q_RF_read 13 rfl) rfl (aw_le rfl) rfl ?_
  refine aw_aload_n (aw_d q_RF_read 14 rfl) rfl rfl rfl ?_
  refine aw_getf (aw_d q_RF_read 15 rfl) fL_RF_43_RF rfl rfl ?_
  refine cVv (aw_d q_RF_read 16 rfl) (sp_Tb_empty_18) vL_RF_182_Tb rfl rfl rfl rfl rfl rfl ⟨aw_le rfl, aw_le rfl⟩ ?_
  refine aw_aload_n (aw_d q_RF_read 17 rfl) rfl rfl rfl ?_
  refine aw_getf (aw_d q_RF_read 18 rfl) fL_RF_58_RF rfl rfl ?_
  refine cVv (aw_d q_RF_read 19 rfl) (sp_begin) vL_RF_198_Sc rfl rfl rfl rfl rfl rfl ⟨aw_le rfl, aw_le rfl⟩ ?_
  refine aw_iload_n (aw_d q_RF_read 20 rfl) rfl rfl ?_
  have hsx41 : (nI (2)).toInt = ((2 : Nat) : Int) := nI_toInt (by (have hW1 := hW.1; omega))
  have hsw : (nI (2)).toInt = 2 := by (have hW1 := hW.1; omega)
  refine aw_tableIn (tgt := 98) (aw_d q_RF_read 21 rfl) (by omega) (by omega) (by rw [hsw]; rfl) (by decide) ?_
  refine aw_aload_n (aw_d q_RF_read 36 rfl) rfl rfl rfl ?_
  refine aw_getf (aw_d q_RF_read 37 rfl) fL_RF_81_RF rfl rfl ?_
  refine aw_aload_n (aw_d q_RF_read 38 rfl) rfl rfl rfl ?_
  refine aw_getf (aw_d q_RF_read 39 rfl) fL_RF_43_RF rfl rfl ?_
  refine cV (aw_d q_RF_read 40 rfl) (sp_rdL_31 (S := rB S) (D := rB S) hw h60 (rB_TP hc) (rB_I hP hW)) vL_RF_206_Cm rfl rfl rfl rfl rfl rfl ⟨aw_le rfl, aw_le rfl⟩ (fun r106 h106 hp106 => ?_)
  cases hx : rdL true T n nm0 with
  | error u =>
    rw [hx] at hp106
    obtain ⟨rfl, F, hb, p1, w1, l1, k1, e1, z1, X1, rfl⟩ := hp106
    have hb2 := hb
    obtain ⟨hfr, E, hE, hEW, hEL⟩ := hb2
    refine aw_istore_n (aw_d q_RF_read 41 rfl) rfl (aw_le rfl) rfl ?_
    refine aw_goto (tgt := 125) (aw_d q_RF_read 42 rfl) (by decide) ?_
    refine aw_aload_n (aw_d q_RF_read 49 rfl) rfl rfl rfl ?_
    refine aw_getf (aw_d q_RF_read 50 rfl) fL_RF_10_RF rfl rfl ?_
    refine cVv (aw_d q_RF_read 51 rfl) (sp_By_empty_1) vL_RF_112_By rfl rfl rfl rfl rfl rfl ⟨aw_le rfl, aw_le rfl⟩ ?_
    refine aw_iload_n (aw_d q_RF_read 52 rfl) rfl rfl ?_
    refine aw_ifN_eq (tgt := 167) (aw_d q_RF_read 53 rfl) (by decide) (by (have hW1 := hW.1; omega)) (fun c133 => ?_) (fun c133 => by exfalso; (have hW1 := hW.1; omega))
    refine aw_aload_n (aw_d q_RF_read 68 rfl) rfl rfl rfl ?_
    refine aw_getf (aw_d q_RF_read 69 rfl) fL_RF_32_RF rfl rfl ?_
    refine aw_iload_n (aw_d q_RF_read 70 rfl) rfl rfl ?_
    refine cV (aw_d q_RF_read 71 rfl) (sp_Te_forgetFrom (S := tE (QC F p1 (nI u) w1 l1 k1 e1 z1 X1)) (nt := E.1) (k := xp_t P) (teC_T hE hEW) hEL.1) vL_RF_211_Te rfl rfl rfl rfl rfl rfl ⟨aw_le rfl, aw_le rfl⟩ (fun r172 h172 hp172 => ?_)
    obtain ⟨rfl, S2, rfl, g0, g1, g2⟩ := hp172
    refine aw_iload_n (aw_d q_RF_read 72 rfl) rfl rfl ?_
    refine aw_ifN_eq (tgt := 184) (aw_d q_RF_read 73 rfl) (by decide) (by (have hW1 := hW.1; omega)) (fun c176 => ?_) (fun c176 => by exfalso; (have hW1 := hW.1; omega))
    refine aw_bipush (v := (-10)) (aw_d q_RF_read 76 rfl) (by decide) ?_
    refine aw_aload_n (aw_d q_RF_read 77 rfl) rfl rfl rfl ?_
    refine aw_getf (aw_d q_RF_read 78 rfl) fL_RF_58_RF rfl rfl ?_
    refine aw_getf (v := .int (nI (u))) (aw_d q_RF_read 79 rfl) fL_RF_214_Sc rfl (gk ((g2 2602 (by decide)).trans rfl)) ?_
    refine aw_isub (aw_d q_RF_read 80 rfl) ?_
    exact aw_iret (aw_d q_RF_read 81 rfl) rfl (by exact ⟨rfl, ⟨_, rfl, (g2 101 (by decide)).trans rfl, rd_no hP hb g0 ((g2 1403 (by decide)).trans rfl) ((g2 1404 (by decide)).trans rfl) (fun c hc => by rw [g1]; exact if_neg hc), frR_te (frR_of hfr) g0 g1 g2⟩⟩)
  | ok y =>
    rw [hx] at hp106
    obtain ⟨rfl, F, p1, w1, l1, k1, e1, z1, X1, hI, hs, rfl⟩ := hp106
    have hEW := fE_W hw hs
    have h204 := hI.2.2.2.1.1.2
    refine aw_istore_n (aw_d q_RF_read 41 rfl) rfl (aw_le rfl) rfl ?_
    refine aw_goto (tgt := 125) (aw_d q_RF_read 42 rfl) (by decide) ?_
    refine aw_aload_n (aw_d q_RF_read 49 rfl) rfl rfl rfl ?_
    refine aw_getf (aw_d q_RF_read 50 rfl) fL_RF_10_RF rfl rfl ?_
    refine cVv (aw_d q_RF_read 51 rfl) (sp_By_empty_1) vL_RF_112_By rfl rfl rfl rfl rfl rfl ⟨aw_le rfl, aw_le rfl⟩ ?_
    refine aw_iload_n (aw_d q_RF_read 52 rfl) rfl rfl ?_
    refine aw_ifN_eq (tgt := 167) (aw_d q_RF_read 53 rfl) (by decide) (by (have hW1 := hW.1; omega)) (fun c133 => by exfalso; (have hW1 := hW.1; omega)) (fun c133 => ?_)
    refine aw_aload_n (aw_d q_RF_read 54 rfl) rfl rfl rfl ?_
    refine aw_getf (aw_d q_RF_read 55 rfl) fL_RF_32_RF rfl rfl ?_
    refine aw_getf (v := .int (nI ((fE (tsO P) y.2.2).1.1))) (aw_d q_RF_read 56 rfl) fL_RF_126_Te rfl (gk hI.2.2.2.1.1.1) ?_
    refine aw_bipush (v := nI 60) (aw_d q_RF_read 57 rfl) (by decide) ?_
    refine aw_icmpN_gt (tgt := 167) (aw_d q_RF_read 58 rfl) (by decide) (by (have hW1 := hW.1; omega)) (by (have hW1 := hW.1; omega)) (fun c145 => ?_) (fun c145 => ?_)
    · refine aw_aload_n (aw_d q_RF_read 68 rfl) rfl rfl rfl ?_
      refine aw_getf (aw_d q_RF_read 69 rfl) fL_RF_32_RF rfl rfl ?_
      refine aw_iload_n (aw_d q_RF_read 70 rfl) rfl rfl ?_
      refine cV (aw_d q_RF_read 71 rfl) (sp_Te_forgetFrom (S := tE (QC F p1 (nI 0) w1 l1 k1 e1 z1 X1)) (nt := (fE (tsO P) y.2.2).1.1) (k := xp_t P) (teC_T hI.2.2.2.1 hEW) (fE_le (E := tsO P) y.2.2).1.1) vL_RF_211_Te rfl rfl rfl rfl rfl rfl ⟨aw_le rfl, aw_le rfl⟩ (fun r172 h172 hp172 => ?_)
      obtain ⟨rfl, S2, rfl, g0, g1, g2⟩ := hp172
      refine aw_iload_n (aw_d q_RF_read 72 rfl) rfl rfl ?_
      refine aw_ifN_eq (tgt := 184) (aw_d q_RF_read 73 rfl) (by decide) (by (have hW1 := hW.1; omega)) (fun c176 => by exfalso; (have hW1 := hW.1; omega)) (fun c176 => ?_)
      refine aw_bipush (v := (-3)) (aw_d q_RF_read 74 rfl) (by decide) ?_
      refine aw_goto (tgt := 194) (aw_d q_RF_read 75 rfl) (by decide) ?_
      exact aw_iret (aw_d q_RF_read 81 rfl) rfl (by exact Or.inr ⟨by omega, rfl, ⟨_, rfl, (g2 101 (by decide)).trans rfl, rd_no hP (itC_bs hI hw hs) g0 ((g2 1403 (by decide)).trans rfl) ((g2 1404 (by decide)).trans rfl) (fun c hc => by rw [g1]; exact if_neg hc), frR_te (frR_of hI.1) g0 g1 g2⟩⟩)
    · refine aw_aload_n (aw_d q_RF_read 59 rfl) rfl rfl rfl ?_
      refine aw_getf (aw_d q_RF_read 60 rfl) fL_RF_39_RF rfl rfl ?_
      refine aw_aload_n (aw_d q_RF_read 61 rfl) rfl rfl rfl ?_
      refine aw_getf (aw_d q_RF_read 62 rfl) fL_RF_43_RF rfl rfl ?_
      refine cV (aw_d q_RF_read 63 rfl) (sp_Tb_copyFrom_14) vL_RF_208_Tb rfl rfl rfl rfl rfl rfl ⟨aw_le rfl, aw_le rfl⟩ (fun r156 h156 hp156 => ?_)
      obtain ⟨rfl, A1, A2, A3, rfl, a1, a2, a3⟩ := hp156
      refine aw_aload_n (aw_d q_RF_read 64 rfl) rfl rfl rfl ?_
      refine aw_getf (aw_d q_RF_read 65 rfl) fL_RF_39_RF rfl rfl ?_
      refine aw_getf (v := .int (nI (y.2.1))) (aw_d q_RF_read 66 rfl) fL_RF_154_Tb rfl (gk hI.2.2.1.1) ?_
      exact aw_iret (aw_d q_RF_read 67 rfl) rfl (by exact Or.inl ⟨by omega, rfl, pcO_wd hI hw hs (by omega), _, rfl, rfl, rd_ok hI a1 a2 a3, frR_cp (frR_of hI.1)⟩)
set_option maxRecDepth 20000 in
theorem sp_RF_read_3 {g : aw_G} {S : aw_S} {P : xp_T} {n : Nat} {T : Nat → Int32} (hP : xp_C S P) (hW : xp_wd P) (hc : TPc S n T)  : Sp g M_RF_read 10 224 0 0 [.ref 0, .int (nI 3)] (HP S) (rdE S P (rdL false T n nm0)) := by
  refine Sp.of rfl (aw_le rfl) ?_
  have hw := tsO_W hW
  have h60 : (tsO P).1 ≤ 60 := hW.1.2.2
  refine aw_iload_n (aw_d q_RF_read 0 rfl) rfl rfl ?_
  refine aw_ifN_lt (tgt := 9) (aw_d q_RF_read 1 rfl) (by decide) (by (have hW1 := hW.1; omega)) (fun c1 => by exfalso; (have hW1 := hW.1; omega)) (fun c1 => ?_)
  refine aw_iload_n (aw_d q_RF_read 2 rfl) rfl rfl ?_
  refine aw_iconst (v := nI 3) (aw_d q_RF_read 3 rfl) (by decide) ?_
  refine aw_icmpN_le (tgt := 18) (aw_d q_RF_read 4 rfl) (by decide) (by (have hW1 := hW.1; omega)) (by (have hW1 := hW.1; omega)) (fun c6 => ?_) (fun c6 => by exfalso; (have hW1 := hW.1; omega))
  refine aw_aload_n (aw_d q_RF_read 10 rfl) rfl rfl rfl ?_
  refine aw_getf (aw_d q_RF_read 11 rfl) fL_RF_32_RF rfl rfl ?_
  refine aw_getf (v := .int (nI (xp_t P))) (aw_d q_RF_read 12 rfl) fL_RF_126_Te rfl (gk hP.1.1) ?_
  refine aw_istore_n (aw_d q_RF_read 13 rfl) rfl (aw_le rfl) rfl ?_
  refine aw_aload_n (aw_d q_RF_read 14 rfl) rfl rfl rfl ?_
  refine aw_getf (aw_d q_RF_read 15 rfl) fL_RF_43_RF rfl rfl ?_
  refine cVv (aw_d q_RF_read 16 rfl) (sp_Tb_empty_18) vL_RF_182_Tb rfl rfl rfl rfl rfl rfl ⟨aw_le rfl, aw_le rfl⟩ ?_
  refine aw_aload_n (aw_d q_RF_read 17 rfl) rfl rfl rfl ?_
  refine aw_getf (aw_d q_RF_read 18 rfl) fL_RF_58_RF rfl rfl ?_
  refine cVv (aw_d q_RF_read 19 rfl) (sp_begin) vL_RF_198_Sc rfl rfl rfl rfl rfl rfl ⟨aw_le rfl, aw_le rfl⟩ ?_
  refine aw_iload_n (aw_d q_RF_read 20 rfl) rfl rfl ?_
  have hsx41 : (nI (3)).toInt = ((3 : Nat) : Int) := nI_toInt (by (have hW1 := hW.1; omega))
  have hsw : (2 : Int) < (nI (3)).toInt := by (have hW1 := hW.1; omega)
  refine aw_tableOut (tgt := 113) (aw_d q_RF_read 21 rfl) (Or.inr hsw) (by decide) ?_
  refine aw_aload_n (aw_d q_RF_read 43 rfl) rfl rfl rfl ?_
  refine aw_getf (aw_d q_RF_read 44 rfl) fL_RF_88_RF rfl rfl ?_
  refine aw_aload_n (aw_d q_RF_read 45 rfl) rfl rfl rfl ?_
  refine aw_getf (aw_d q_RF_read 46 rfl) fL_RF_43_RF rfl rfl ?_
  refine cV (aw_d q_RF_read 47 rfl) (sp_rdL_32 (S := rB S) (D := rB S) hw h60 (rB_TP hc) (rB_I hP hW)) vL_RF_207_Ta rfl rfl rfl rfl rfl rfl ⟨aw_le rfl, aw_le rfl⟩ (fun r121 h121 hp121 => ?_)
  cases hx : rdL false T n nm0 with
  | error u =>
    rw [hx] at hp121
    obtain ⟨rfl, F, hb, p1, w1, l1, k1, e1, z1, X1, rfl⟩ := hp121
    have hb2 := hb
    obtain ⟨hfr, E, hE, hEW, hEL⟩ := hb2
    refine aw_istore_n (aw_d q_RF_read 48 rfl) rfl (aw_le rfl) rfl ?_
    refine aw_aload_n (aw_d q_RF_read 49 rfl) rfl rfl rfl ?_
    refine aw_getf (aw_d q_RF_read 50 rfl) fL_RF_10_RF rfl rfl ?_
    refine cVv (aw_d q_RF_read 51 rfl) (sp_By_empty_1) vL_RF_112_By rfl rfl rfl rfl rfl rfl ⟨aw_le rfl, aw_le rfl⟩ ?_
    refine aw_iload_n (aw_d q_RF_read 52 rfl) rfl rfl ?_
    refine aw_ifN_eq (tgt := 167) (aw_d q_RF_read 53 rfl) (by decide) (by (have hW1 := hW.1; omega)) (fun c133 => ?_) (fun c133 => by exfalso; (have hW1 := hW.1; omega))
    refine aw_aload_n (aw_d q_RF_read 68 rfl) rfl rfl rfl ?_
    refine aw_getf (aw_d q_RF_read 69 rfl) fL_RF_32_RF rfl rfl ?_
    refine aw_iload_n (aw_d q_RF_read 70 rfl) rfl rfl ?_
    refine cV (aw_d q_RF_read 71 rfl) (sp_Te_forgetFrom (S := tE (QC F p1 (nI u) w1 l1 k1 e1 z1 X1)) (nt := E.1) (k := xp_t P) (teC_T hE hEW) hEL.1) vL_RF_211_Te rfl rfl rfl rfl rfl rfl ⟨aw_le rfl, aw_le rfl⟩ (fun r172 h172 hp172 => ?_)
    obtain ⟨rfl, S2, rfl, g0, g1, g2⟩ := hp172
    refine aw_iload_n (aw_d q_RF_read 72 rfl) rfl rfl ?_
    refine aw_ifN_eq (tgt := 184) (aw_d q_RF_read 73 rfl) (by decide) (by (have hW1 := hW.1; omega)) (fun c176 => ?_) (fun c176 => by exfalso; (have hW1 := hW.1; omega))
    refine aw_bipush (v := (-10)) (aw_d q_RF_read 76 rfl) (by decide) ?_
    refine aw_aload_n (aw_d q_RF_read 77 rfl) rfl rfl rfl ?_
    refine aw_getf (aw_d q_RF_read 78 rfl) fL_RF_58_RF rfl rfl ?_
    refine aw_getf (v := .int (nI (u))) (aw_d q_RF_read 79 rfl) fL_RF_214_Sc rfl (gk ((g2 2602 (by decide)).trans rfl)) ?_
    refine aw_isub (aw_d q_RF_read 80 rfl) ?_
    exact aw_iret (aw_d q_RF_read 81 rfl) rfl (by exact ⟨rfl, ⟨_, rfl, (g2 101 (by decide)).trans rfl, rd_no hP hb g0 ((g2 1403 (by decide)).trans rfl) ((g2 1404 (by decide)).trans rfl) (fun c hc => by rw [g1]; exact if_neg hc), frR_te (frR_of hfr) g0 g1 g2⟩⟩)
  | ok y =>
    rw [hx] at hp121
    obtain ⟨rfl, F, p1, w1, l1, k1, e1, z1, X1, hI, hs, rfl⟩ := hp121
    have hEW := fE_W hw hs
    have h204 := hI.2.2.2.1.1.2
    refine aw_istore_n (aw_d q_RF_read 48 rfl) rfl (aw_le rfl) rfl ?_
    refine aw_aload_n (aw_d q_RF_read 49 rfl) rfl rfl rfl ?_
    refine aw_getf (aw_d q_RF_read 50 rfl) fL_RF_10_RF rfl rfl ?_
    refine cVv (aw_d q_RF_read 51 rfl) (sp_By_empty_1) vL_RF_112_By rfl rfl rfl rfl rfl rfl ⟨aw_le rfl, aw_le rfl⟩ ?_
    refine aw_iload_n (aw_d q_RF_read 52 rfl) rfl rfl ?_
    refine aw_ifN_eq (tgt := 167) (aw_d q_RF_read 53 rfl) (by decide) (by (have hW1 := hW.1; omega)) (fun c133 => by exfalso; (have hW1 := hW.1; omega)) (fun c133 => ?_)
    refine aw_aload_n (aw_d q_RF_read 54 rfl) rfl rfl rfl ?_
    refine aw_getf (aw_d q_RF_read 55 rfl) fL_RF_32_RF rfl rfl ?_
    refine aw_getf (v := .int (nI ((fE (tsO P) y.2.2).1.1))) (aw_d q_RF_read 56 rfl) fL_RF_126_Te rfl (gk hI.2.2.2.1.1.1) ?_
    refine aw_bipush (v := nI 60) (aw_d q_RF_read 57 rfl) (by decide) ?_
    refine aw_icmpN_gt (tgt := 167) (aw_d q_RF_read 58 rfl) (by decide) (by (have hW1 := hW.1; omega)) (by (have hW1 := hW.1; omega)) (fun c145 => ?_) (fun c145 => ?_)
    · refine aw_aload_n (aw_d q_RF_read 68 rfl) rfl rfl rfl ?_
      refine aw_getf (aw_d q_RF_read 69 rfl) fL_RF_32_RF rfl rfl ?_
      refine aw_iload_n (aw_d q_RF_read 70 rfl) rfl rfl ?_
      refine cV (aw_d q_RF_read 71 rfl) (sp_Te_forgetFrom (S := tE (QC F p1 (nI 0) w1 l1 k1 e1 z1 X1)) (nt := (fE (tsO P) y.2.2).1.1) (k := xp_t P) (teC_T hI.2.2.2.1 hEW) (fE_le (E := tsO P) y.2.2).1.1) vL_RF_211_Te rfl rfl rfl rfl rfl rfl ⟨aw_le rfl, aw_le rfl⟩ (fun r172 h172 hp172 => ?_)
      obtain ⟨rfl, S2, rfl, g0, g1, g2⟩ := hp172
      refine aw_iload_n (aw_d q_RF_read 72 rfl) rfl rfl ?_
      refine aw_ifN_eq (tgt := 184) (aw_d q_RF_read 73 rfl) (by decide) (by (have hW1 := hW.1; omega)) (fun c176 => by exfalso; (have hW1 := hW.1; omega)) (fun c176 => ?_)
      refine aw_bipush (v := (-3)) (aw_d q_RF_read 74 rfl) (by decide) ?_
      refine aw_goto (tgt := 194) (aw_d q_RF_read 75 rfl) (by decide) ?_
      exact aw_iret (aw_d q_RF_read 81 rfl) rfl (by exact Or.inr ⟨by omega, rfl, ⟨_, rfl, (g2 101 (by decide)).trans rfl, rd_no hP (itC_bs hI hw hs) g0 ((g2 1403 (by decide)).trans rfl) ((g2 1404 (by decide)).trans rfl) (fun c hc => by rw [g1]; exact if_neg hc), frR_te (frR_of hI.1) g0 g1 g2⟩⟩)
    · refine aw_aload_n (aw_d q_RF_read 59 rfl) rfl rfl rfl ?_
      refine aw_getf (aw_d q_RF_read 60 rfl) fL_RF_39_RF rfl rfl ?_
      refine aw_aload_n (aw_d q_RF_read 61 rfl) rfl rfl rfl ?_
      refine aw_getf (aw_d q_RF_read 62 rfl) fL_RF_43_RF rfl rfl ?_
      refine cV (aw_d q_RF_read 63 rfl) (sp_Tb_copyFrom_14) vL_RF_208_Tb rfl rfl rfl rfl rfl rfl ⟨aw_le rfl, aw_le rfl⟩ (fun r156 h156 hp156 => ?_)
      obtain ⟨rfl, A1, A2, A3, rfl, a1, a2, a3⟩ := hp156
      refine aw_aload_n (aw_d q_RF_read 64 rfl) rfl rfl rfl ?_
      refine aw_getf (aw_d q_RF_read 65 rfl) fL_RF_39_RF rfl rfl ?_
      refine aw_getf (v := .int (nI (y.2.1))) (aw_d q_RF_read 66 rfl) fL_RF_154_Tb rfl (gk hI.2.2.1.1) ?_
      exact aw_iret (aw_d q_RF_read 67 rfl) rfl (by exact Or.inl ⟨by omega, rfl, pcO_wd hI hw hs (by omega), _, rfl, rfl, rd_ok hI a1 a2 a3, frR_cp (frR_of hI.1)⟩)
set_option maxRecDepth 20000 in
theorem sp_RF_readB {g : aw_G} {S : aw_S} {x : Int32} (hx : x.toInt < 0 ∨ 3 < x.toInt) : Sp g M_RF_read 10 224 0 0 [.ref 0, .int x] (HP S) (fun r h => r = some (.int (-1)) ∧ h = HP (tE S)) := by
  refine Sp.of rfl (aw_le rfl) ?_
  refine aw_iload_n (aw_d q_RF_read 0 rfl) rfl rfl ?_
  refine aw_ifI_lt (tgt := 9) (aw_d q_RF_read 1 rfl) (by decide) (fun c1 => ?_) (fun c1 => ?_)
  · refine aw_aload_n (aw_d q_RF_read 5 rfl) rfl rfl rfl ?_
    refine aw_getf (aw_d q_RF_read 6 rfl) fL_RF_10_RF rfl rfl ?_
    refine cVv (aw_d q_RF_read 7 rfl) (sp_By_empty_1) vL_RF_112_By rfl rfl rfl rfl rfl rfl ⟨aw_le rfl, aw_le rfl⟩ ?_
    refine aw_iconst (v := (-1)) (aw_d q_RF_read 8 rfl) (by decide) ?_
    exact aw_iret (aw_d q_RF_read 9 rfl) rfl (⟨rfl, rfl⟩)
  · refine aw_iload_n (aw_d q_RF_read 2 rfl) rfl rfl ?_
    refine aw_iconst (v := nI 3) (aw_d q_RF_read 3 rfl) (by decide) ?_
    refine aw_icmpI_le (tgt := 18) (aw_d q_RF_read 4 rfl) (by decide) (by omega) (fun c6 => by exfalso; omega) (fun c6 => ?_)
    refine aw_aload_n (aw_d q_RF_read 5 rfl) rfl rfl rfl ?_
    refine aw_getf (aw_d q_RF_read 6 rfl) fL_RF_10_RF rfl rfl ?_
    refine cVv (aw_d q_RF_read 7 rfl) (sp_By_empty_1) vL_RF_112_By rfl rfl rfl rfl rfl rfl ⟨aw_le rfl, aw_le rfl⟩ ?_
    refine aw_iconst (v := (-1)) (aw_d q_RF_read 8 rfl) (by decide) ?_
    exact aw_iret (aw_d q_RF_read 9 rfl) rfl (⟨rfl, rfl⟩)
set_option maxRecDepth 20000 in
theorem sp_RF_hearB {g : aw_G} {S : aw_S} {x : Int32} (hx : x.toInt < 0 ∨ 1 < x.toInt) : Sp g M_RF_hear 7 148 0 0 [.ref 0, .int x] (HP S) (fun r h => r = some (.int (-1)) ∧ h = HP (tE S)) := by
  refine Sp.of rfl (aw_le rfl) ?_
  refine aw_iload_n (aw_d q_RF_hear 0 rfl) rfl rfl ?_
  refine aw_ifI_lt (tgt := 9) (aw_d q_RF_hear 1 rfl) (by decide) (fun c1 => ?_) (fun c1 => ?_)
  · refine aw_aload_n (aw_d q_RF_hear 5 rfl) rfl rfl rfl ?_
    refine aw_getf (aw_d q_RF_hear 6 rfl) fL_RF_10_RF rfl rfl ?_
    refine cVv (aw_d q_RF_hear 7 rfl) (sp_By_empty_1) vL_RF_112_By rfl rfl rfl rfl rfl rfl ⟨aw_le rfl, aw_le rfl⟩ ?_
    refine aw_iconst (v := (-1)) (aw_d q_RF_hear 8 rfl) (by decide) ?_
    exact aw_iret (aw_d q_RF_hear 9 rfl) rfl (⟨rfl, rfl⟩)
  · refine aw_iload_n (aw_d q_RF_hear 2 rfl) rfl rfl ?_
    refine aw_iconst (v := nI 1) (aw_d q_RF_hear 3 rfl) (by decide) ?_
    refine aw_icmpI_le (tgt := 18) (aw_d q_RF_hear 4 rfl) (by decide) (by omega) (fun c6 => by exfalso; omega) (fun c6 => ?_)
    refine aw_aload_n (aw_d q_RF_hear 5 rfl) rfl rfl rfl ?_
    refine aw_getf (aw_d q_RF_hear 6 rfl) fL_RF_10_RF rfl rfl ?_
    refine cVv (aw_d q_RF_hear 7 rfl) (sp_By_empty_1) vL_RF_112_By rfl rfl rfl rfl rfl rfl ⟨aw_le rfl, aw_le rfl⟩ ?_
    refine aw_iconst (v := (-1)) (aw_d q_RF_hear 8 rfl) (by decide) ?_
    exact aw_iret (aw_d q_RF_hear 9 rfl) rfl (⟨rfl, rfl⟩)
set_option maxRecDepth 20000 in
theorem sp_RF_hear_0 {g : aw_G} {S : aw_S} {n : Nat} {T : Nat → Int32} (hc : TPc S n T) : Sp g M_RF_hear 7 148 0 0 [.ref 0, .int (nI 0)] (HP S) (fun r h => (match hrJ T n with
  | .ok v => r = some (.int (nI v)) ∧ v < 2
  | .error u => r = some (.int (-10 - nI u))) ∧ ∃ (p q w l k e z : Int32) (X : Nat → Int32), h = HP (tE (QC S p q w l k e z X))) := by
  refine Sp.of rfl (aw_le rfl) ?_
  refine aw_iload_n (aw_d q_RF_hear 0 rfl) rfl rfl ?_
  refine aw_ifN_lt (tgt := 9) (aw_d q_RF_hear 1 rfl) (by decide) (by omega) (fun c1 => by exfalso; omega) (fun c1 => ?_)
  refine aw_iload_n (aw_d q_RF_hear 2 rfl) rfl rfl ?_
  refine aw_iconst (v := nI 1) (aw_d q_RF_hear 3 rfl) (by decide) ?_
  refine aw_icmpN_le (tgt := 18) (aw_d q_RF_hear 4 rfl) (by decide) (by omega) (by omega) (fun c6 => ?_) (fun c6 => by exfalso; omega)
  refine aw_aload_n (aw_d q_RF_hear 10 rfl) rfl rfl rfl ?_
  refine aw_getf (aw_d q_RF_hear 11 rfl) fL_RF_58_RF rfl rfl ?_
  refine cVv (aw_d q_RF_hear 12 rfl) (sp_begin) vL_RF_198_Sc rfl rfl rfl rfl rfl rfl ⟨aw_le rfl, aw_le rfl⟩ ?_
  refine aw_iload_n (aw_d q_RF_hear 13 rfl) rfl rfl ?_
  refine aw_ifN_ne (tgt := 39) (aw_d q_RF_hear 14 rfl) (by decide) (by omega) (fun c26 => by exfalso; omega) (fun c26 => ?_)
  refine aw_aload_n (aw_d q_RF_hear 15 rfl) rfl rfl rfl ?_
  refine aw_getf (aw_d q_RF_hear 16 rfl) fL_RF_67_RF rfl rfl ?_
  refine cV (aw_d q_RF_hear 17 rfl) (sp_truthJ hc) vL_RF_217_Js rfl rfl rfl rfl rfl rfl ⟨aw_le rfl, aw_le rfl⟩ (fun r33 h33 hp33 => ?_)
  cases hx : hrJ T n with
  | error u =>
    rw [hx] at hp33
    obtain ⟨rfl, p1, w1, l1, k1, e1, z1, X1, rfl⟩ := hp33
    refine aw_goto (tgt := 46) (aw_d q_RF_hear 18 rfl) (by decide) ?_
    refine aw_istore_n (aw_d q_RF_hear 22 rfl) rfl (aw_le rfl) rfl ?_
    refine aw_aload_n (aw_d q_RF_hear 23 rfl) rfl rfl rfl ?_
    refine aw_getf (aw_d q_RF_hear 24 rfl) fL_RF_10_RF rfl rfl ?_
    refine cVv (aw_d q_RF_hear 25 rfl) (sp_By_empty_1) vL_RF_112_By rfl rfl rfl rfl rfl rfl ⟨aw_le rfl, aw_le rfl⟩ ?_
    refine aw_iload_n (aw_d q_RF_hear 26 rfl) rfl rfl ?_
    refine aw_iconst (v := (-1)) (aw_d q_RF_hear 27 rfl) (by decide) ?_
    refine aw_icmpZ_eq (tgt := 63) (aw_d q_RF_hear 28 rfl) (by decide) (fun c56 => ?_) (fun c56 => by exact absurd rfl c56)
    refine aw_bipush (v := (-10)) (aw_d q_RF_hear 31 rfl) (by decide) ?_
    refine aw_aload_n (aw_d q_RF_hear 32 rfl) rfl rfl rfl ?_
    refine aw_getf (aw_d q_RF_hear 33 rfl) fL_RF_58_RF rfl rfl ?_
    refine aw_getf (v := .int (nI (u))) (aw_d q_RF_hear 34 rfl) fL_RF_214_Sc rfl (gk rfl) ?_
    refine aw_isub (aw_d q_RF_hear 35 rfl) ?_
    exact aw_iret (aw_d q_RF_hear 36 rfl) rfl (by exact ⟨rfl, _, _, _, _, _, _, _, _, rfl⟩)
  | ok v =>
    rw [hx] at hp33
    obtain ⟨rfl, hv, rfl⟩ := hp33
    refine aw_goto (tgt := 46) (aw_d q_RF_hear 18 rfl) (by decide) ?_
    refine aw_istore_n (aw_d q_RF_hear 22 rfl) rfl (aw_le rfl) rfl ?_
    refine aw_aload_n (aw_d q_RF_hear 23 rfl) rfl rfl rfl ?_
    refine aw_getf (aw_d q_RF_hear 24 rfl) fL_RF_10_RF rfl rfl ?_
    refine cVv (aw_d q_RF_hear 25 rfl) (sp_By_empty_1) vL_RF_112_By rfl rfl rfl rfl rfl rfl ⟨aw_le rfl, aw_le rfl⟩ ?_
    refine aw_iload_n (aw_d q_RF_hear 26 rfl) rfl rfl ?_
    refine aw_iconst (v := (-1)) (aw_d q_RF_hear 27 rfl) (by decide) ?_
    refine aw_icmpJ_eq (tgt := 63) (aw_d q_RF_hear 28 rfl) (by decide) (by omega) (fun c56 => by (have h1 : (-1 : Int32).toInt = -1 := rfl; omega)) (fun c56 => ?_)
    refine aw_iload_n (aw_d q_RF_hear 29 rfl) rfl rfl ?_
    refine aw_goto (tgt := 73) (aw_d q_RF_hear 30 rfl) (by decide) ?_
    exact aw_iret (aw_d q_RF_hear 36 rfl) rfl (by exact ⟨⟨rfl, hv⟩, _, _, _, _, _, _, _, _, rfl⟩)
set_option maxRecDepth 20000 in
theorem sp_RF_hear_1 {g : aw_G} {S : aw_S} {n : Nat} {T : Nat → Int32} (hc : TPc S n T) : Sp g M_RF_hear 7 148 0 0 [.ref 0, .int (nI 1)] (HP S) (fun r h => (match hrX T n with
  | .ok v => r = some (.int (nI v)) ∧ v < 2
  | .error u => r = some (.int (-10 - nI u))) ∧ ∃ (p q w l k e z : Int32) (X : Nat → Int32), h = HP (tE (QC S p q w l k e z X))) := by
  refine Sp.of rfl (aw_le rfl) ?_
  refine aw_iload_n (aw_d q_RF_hear 0 rfl) rfl rfl ?_
  refine aw_ifN_lt (tgt := 9) (aw_d q_RF_hear 1 rfl) (by decide) (by omega) (fun c1 => by exfalso; omega) (fun c1 => ?_)
  refine aw_iload_n (aw_d q_RF_hear 2 rfl) rfl rfl ?_
  refine aw_iconst (v := nI 1) (aw_d q_RF_hear 3 rfl) (by decide) ?_
  refine aw_icmpN_le (tgt := 18) (aw_d q_RF_hear 4 rfl) (by decide) (by omega) (by omega) (fun c6 => ?_) (fun c6 => by exfalso; omega)
  refine aw_aload_n (aw_d q_RF_hear 10 rfl) rfl rfl rfl ?_
  refine aw_getf (aw_d q_RF_hear 11 rfl) fL_RF_58_RF rfl rfl ?_
  refine cVv (aw_d q_RF_hear 12 rfl) (sp_begin) vL_RF_198_Sc rfl rfl rfl rfl rfl rfl ⟨aw_le rfl, aw_le rfl⟩ ?_
  refine aw_iload_n (aw_d q_RF_hear 13 rfl) rfl rfl ?_
  refine aw_ifN_ne (tgt := 39) (aw_d q_RF_hear 14 rfl) (by decide) (by omega) (fun c26 => ?_) (fun c26 => by exfalso; omega)
  refine aw_aload_n (aw_d q_RF_hear 19 rfl) rfl rfl rfl ?_
  refine aw_getf (aw_d q_RF_hear 20 rfl) fL_RF_74_RF rfl rfl ?_
  refine cV (aw_d q_RF_hear 21 rfl) (sp_truthX hc) vL_RF_220_Xm rfl rfl rfl rfl rfl rfl ⟨aw_le rfl, aw_le rfl⟩ (fun r43 h43 hp43 => ?_)
  cases hx : hrX T n with
  | error u =>
    rw [hx] at hp43
    obtain ⟨rfl, p1, w1, l1, k1, e1, z1, X1, rfl⟩ := hp43
    refine aw_istore_n (aw_d q_RF_hear 22 rfl) rfl (aw_le rfl) rfl ?_
    refine aw_aload_n (aw_d q_RF_hear 23 rfl) rfl rfl rfl ?_
    refine aw_getf (aw_d q_RF_hear 24 rfl) fL_RF_10_RF rfl rfl ?_
    refine cVv (aw_d q_RF_hear 25 rfl) (sp_By_empty_1) vL_RF_112_By rfl rfl rfl rfl rfl rfl ⟨aw_le rfl, aw_le rfl⟩ ?_
    refine aw_iload_n (aw_d q_RF_hear 26 rfl) rfl rfl ?_
    refine aw_iconst (v := (-1)) (aw_d q_RF_hear 27 rfl) (by decide) ?_
    refine aw_icmpZ_eq (tgt := 63) (aw_d q_RF_hear 28 rfl) (by decide) (fun c56 => ?_) (fun c56 => by exact absurd rfl c56)
    refine aw_bipush (v := (-10)) (aw_d q_RF_hear 31 rfl) (by decide) ?_
    refine aw_aload_n (aw_d q_RF_hear 32 rfl) rfl rfl rfl ?_
    refine aw_getf (aw_d q_RF_hear 33 rfl) fL_RF_58_RF rfl rfl ?_
    refine aw_getf (v := .int (nI (u))) (aw_d q_RF_hear 34 rfl) fL_RF_214_Sc rfl (gk rfl) ?_
    refine aw_isub (aw_d q_RF_hear 35 rfl) ?_
    exact aw_iret (aw_d q_RF_hear 36 rfl) rfl (by exact ⟨rfl, _, _, _, _, _, _, _, _, rfl⟩)
  | ok v =>
    rw [hx] at hp43
    obtain ⟨rfl, hv, rfl⟩ := hp43
    refine aw_istore_n (aw_d q_RF_hear 22 rfl) rfl (aw_le rfl) rfl ?_
    refine aw_aload_n (aw_d q_RF_hear 23 rfl) rfl rfl rfl ?_
    refine aw_getf (aw_d q_RF_hear 24 rfl) fL_RF_10_RF rfl rfl ?_
    refine cVv (aw_d q_RF_hear 25 rfl) (sp_By_empty_1) vL_RF_112_By rfl rfl rfl rfl rfl rfl ⟨aw_le rfl, aw_le rfl⟩ ?_
    refine aw_iload_n (aw_d q_RF_hear 26 rfl) rfl rfl ?_
    refine aw_iconst (v := (-1)) (aw_d q_RF_hear 27 rfl) (by decide) ?_
    refine aw_icmpJ_eq (tgt := 63) (aw_d q_RF_hear 28 rfl) (by decide) (by omega) (fun c56 => by (have h1 : (-1 : Int32).toInt = -1 := rfl; omega)) (fun c56 => ?_)
    refine aw_iload_n (aw_d q_RF_hear 29 rfl) rfl rfl ?_
    refine aw_goto (tgt := 73) (aw_d q_RF_hear 30 rfl) (by decide) ?_
    exact aw_iret (aw_d q_RF_hear 36 rfl) rfl (by exact ⟨⟨rfl, hv⟩, _, _, _, _, _, _, _, _, rfl⟩)
