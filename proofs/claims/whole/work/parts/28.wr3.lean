set_option maxRecDepth 20000 in
theorem lp_Js_print2 {g : aw_G} {S : aw_S} {O : List Int32} {P : xp_T} (hP : xp_C S P) (hW : xp_wd P) : ∀ (m r : Nat) (Q : List Int32), m + r = xp_r P → Q ++ (catB (fun r => w_se (nI 44) r ++ w_jr P r) m r ++ tx 24) = O ++ w_j P → AW g M_Js_print (aw_rm 8 178 0 0) (aw_F g 0 0 (fun r1 h => r1 = none ∧ h = HP (WS S (O ++ w_j P)))) 55 [some (.ref 29), some (.ref 14), some (.int (nI r))] [] (HP (WS S Q)) 0 0 := by
  intro m
  induction m with
  | zero =>
    intro r Q hk e
    refine aw_iload_n (aw_d q_Js_print 28 rfl) rfl rfl ?_
    refine aw_aload_n (aw_d q_Js_print 29 rfl) rfl rfl rfl ?_
    refine aw_getf (v := .int (nI (xp_r P))) (aw_d q_Js_print 30 rfl) fL_Js_53_Tb rfl (gk hP.1.2.2) ?_
    refine aw_icmpN_ge (tgt := 88) (aw_d q_Js_print 31 rfl) (by decide) (by (have hz1 := hW.1; omega)) (by (have hz1 := hW.1; omega)) (fun c60 => ?_) (fun c60 => by exfalso; (have hz1 := hW.1; omega))
    refine aw_aload_n (aw_d q_Js_print 44 rfl) rfl rfl rfl ?_
    refine aw_getf (aw_d q_Js_print 45 rfl) fL_Js_15_Js rfl rfl ?_
    refine aw_ldcS (aw_d q_Js_print 46 rfl) tL_Js_59 ?_
    refine cVv (aw_d q_Js_print 47 rfl) (sp_addAll (by decide)) vL_Js_25_By rfl rfl rfl rfl rfl rfl ⟨aw_le rfl, aw_le rfl⟩ ?_
    exact aw_vret (aw_d q_Js_print 48 rfl) rfl (⟨rfl, by rw [← e]; simp [catB]⟩)
  | succ m ih =>
    intro r Q hk e
    refine aw_iload_n (aw_d q_Js_print 28 rfl) rfl rfl ?_
    refine aw_aload_n (aw_d q_Js_print 29 rfl) rfl rfl rfl ?_
    refine aw_getf (v := .int (nI (xp_r P))) (aw_d q_Js_print 30 rfl) fL_Js_53_Tb rfl (gk hP.1.2.2) ?_
    refine aw_icmpN_ge (tgt := 88) (aw_d q_Js_print 31 rfl) (by decide) (by (have hz1 := hW.1; omega)) (by (have hz1 := hW.1; omega)) (fun c60 => by exfalso; (have hz1 := hW.1; omega)) (fun c60 => ?_)
    refine aw_iload_n (aw_d q_Js_print 32 rfl) rfl rfl ?_
    refine aw_ifN_le (tgt := 76) (aw_d q_Js_print 33 rfl) (by decide) (by (have hz1 := hW.1; omega)) (fun c64 => ?_) (fun c64 => ?_)
    · refine aw_aload_n (aw_d q_Js_print 38 rfl) rfl rfl rfl ?_
      refine aw_aload_n (aw_d q_Js_print 39 rfl) rfl rfl rfl ?_
      refine aw_iload_n (aw_d q_Js_print 40 rfl) rfl rfl ?_
      refine cVv (aw_d q_Js_print 41 rfl) (sp_Js_printRow hP hW (r := r) (by omega)) vL_Js_56_Js rfl rfl rfl rfl rfl rfl ⟨aw_le rfl, aw_le rfl⟩ ?_
      refine aw_iinc (aw_d q_Js_print 42 rfl) rfl (ii1 _) (aw_le rfl) rfl ?_
      refine aw_goto (tgt := 55) (aw_d q_Js_print 43 rfl) (by decide) ?_
      exact ih (r + 1) _ (by omega) (by rw [← e]; simp [catB, w_se, c64])
    · refine aw_aload_n (aw_d q_Js_print 34 rfl) rfl rfl rfl ?_
      refine aw_getf (aw_d q_Js_print 35 rfl) fL_Js_15_Js rfl rfl ?_
      refine aw_bipush (v := nI 44) (aw_d q_Js_print 36 rfl) (by decide) ?_
      refine cVv (aw_d q_Js_print 37 rfl) (sp_add5) vL_Js_35_By rfl rfl rfl rfl rfl rfl ⟨aw_le rfl, aw_le rfl⟩ ?_
      refine aw_aload_n (aw_d q_Js_print 38 rfl) rfl rfl rfl ?_
      refine aw_aload_n (aw_d q_Js_print 39 rfl) rfl rfl rfl ?_
      refine aw_iload_n (aw_d q_Js_print 40 rfl) rfl rfl ?_
      refine cVv (aw_d q_Js_print 41 rfl) (sp_Js_printRow hP hW (r := r) (by omega)) vL_Js_56_Js rfl rfl rfl rfl rfl rfl ⟨aw_le rfl, aw_le rfl⟩ ?_
      refine aw_iinc (aw_d q_Js_print 42 rfl) rfl (ii1 _) (aw_le rfl) rfl ?_
      refine aw_goto (tgt := 55) (aw_d q_Js_print 43 rfl) (by decide) ?_
      exact ih (r + 1) _ (by omega) (by rw [← e]; simp [catB, w_se, c64])
set_option maxRecDepth 20000 in
theorem lp_Js_print1 {g : aw_G} {S : aw_S} {O : List Int32} {P : xp_T} (hP : xp_C S P) (hW : xp_wd P) : ∀ (m v : Nat) (Q : List Int32), m + v = xp_v P → Q ++ (catB (fun v => w_se (nI 44) v ++ w_jn P v) m v ++ (tx 6 ++ (catB (fun r => w_se (nI 44) r ++ w_jr P r) (xp_r P) 0 ++ tx 24))) = O ++ w_j P → AW g M_Js_print (aw_rm 8 178 0 0) (aw_F g 0 0 (fun r1 h => r1 = none ∧ h = HP (WS S (O ++ w_j P)))) 11 [some (.ref 29), some (.ref 14), some (.int (nI v))] [] (HP (WS S Q)) 0 0 := by
  intro m
  induction m with
  | zero =>
    intro v Q hk e
    refine aw_iload_n (aw_d q_Js_print 6 rfl) rfl rfl ?_
    refine aw_aload_n (aw_d q_Js_print 7 rfl) rfl rfl rfl ?_
    refine aw_getf (v := .int (nI (xp_v P))) (aw_d q_Js_print 8 rfl) fL_Js_41_Tb rfl (gk hP.1.2.1) ?_
    refine aw_icmpN_ge (tgt := 44) (aw_d q_Js_print 9 rfl) (by decide) (by (have hz1 := hW.1; omega)) (by (have hz1 := hW.1; omega)) (fun c16 => ?_) (fun c16 => by exfalso; (have hz1 := hW.1; omega))
    refine aw_aload_n (aw_d q_Js_print 22 rfl) rfl rfl rfl ?_
    refine aw_getf (aw_d q_Js_print 23 rfl) fL_Js_15_Js rfl rfl ?_
    refine aw_ldcS (aw_d q_Js_print 24 rfl) tL_Js_51 ?_
    refine cVv (aw_d q_Js_print 25 rfl) (sp_addAll (by decide)) vL_Js_25_By rfl rfl rfl rfl rfl rfl ⟨aw_le rfl, aw_le rfl⟩ ?_
    refine aw_iconst (v := nI 0) (aw_d q_Js_print 26 rfl) (by decide) ?_
    refine aw_istore_n (aw_d q_Js_print 27 rfl) rfl (aw_le rfl) rfl ?_
    exact lp_Js_print2 hP hW (xp_r P) 0 _ (by omega) (by rw [← e]; simp [catB])
  | succ m ih =>
    intro v Q hk e
    refine aw_iload_n (aw_d q_Js_print 6 rfl) rfl rfl ?_
    refine aw_aload_n (aw_d q_Js_print 7 rfl) rfl rfl rfl ?_
    refine aw_getf (v := .int (nI (xp_v P))) (aw_d q_Js_print 8 rfl) fL_Js_41_Tb rfl (gk hP.1.2.1) ?_
    refine aw_icmpN_ge (tgt := 44) (aw_d q_Js_print 9 rfl) (by decide) (by (have hz1 := hW.1; omega)) (by (have hz1 := hW.1; omega)) (fun c16 => by exfalso; (have hz1 := hW.1; omega)) (fun c16 => ?_)
    refine aw_iload_n (aw_d q_Js_print 10 rfl) rfl rfl ?_
    refine aw_ifN_le (tgt := 32) (aw_d q_Js_print 11 rfl) (by decide) (by (have hz1 := hW.1; omega)) (fun c20 => ?_) (fun c20 => ?_)
    · refine aw_aload_n (aw_d q_Js_print 16 rfl) rfl rfl rfl ?_
      refine aw_aload_n (aw_d q_Js_print 17 rfl) rfl rfl rfl ?_
      refine aw_iload_n (aw_d q_Js_print 18 rfl) rfl rfl ?_
      refine cVv (aw_d q_Js_print 19 rfl) (sp_Js_printName hP hW (v := v) (by omega)) vL_Js_47_Js rfl rfl rfl rfl rfl rfl ⟨aw_le rfl, aw_le rfl⟩ ?_
      refine aw_iinc (aw_d q_Js_print 20 rfl) rfl (ii1 _) (aw_le rfl) rfl ?_
      refine aw_goto (tgt := 11) (aw_d q_Js_print 21 rfl) (by decide) ?_
      exact ih (v + 1) _ (by omega) (by rw [← e]; simp [catB, w_se, c20])
    · refine aw_aload_n (aw_d q_Js_print 12 rfl) rfl rfl rfl ?_
      refine aw_getf (aw_d q_Js_print 13 rfl) fL_Js_15_Js rfl rfl ?_
      refine aw_bipush (v := nI 44) (aw_d q_Js_print 14 rfl) (by decide) ?_
      refine cVv (aw_d q_Js_print 15 rfl) (sp_add5) vL_Js_35_By rfl rfl rfl rfl rfl rfl ⟨aw_le rfl, aw_le rfl⟩ ?_
      refine aw_aload_n (aw_d q_Js_print 16 rfl) rfl rfl rfl ?_
      refine aw_aload_n (aw_d q_Js_print 17 rfl) rfl rfl rfl ?_
      refine aw_iload_n (aw_d q_Js_print 18 rfl) rfl rfl ?_
      refine cVv (aw_d q_Js_print 19 rfl) (sp_Js_printName hP hW (v := v) (by omega)) vL_Js_47_Js rfl rfl rfl rfl rfl rfl ⟨aw_le rfl, aw_le rfl⟩ ?_
      refine aw_iinc (aw_d q_Js_print 20 rfl) rfl (ii1 _) (aw_le rfl) rfl ?_
      refine aw_goto (tgt := 11) (aw_d q_Js_print 21 rfl) (by decide) ?_
      exact ih (v + 1) _ (by omega) (by rw [← e]; simp [catB, w_se, c20])
set_option maxRecDepth 20000 in
theorem sp_Js_print {g : aw_G} {S : aw_S} {O : List Int32} {P : xp_T} (hP : xp_C S P) (hW : xp_wd P) : Sp g M_Js_print 8 178 0 0 [.ref 29, .ref 14] (HP (WS S O)) (fun r h => r = none ∧ h = HP (WS S (O ++ w_j P))) := by
  refine Sp.of rfl (aw_le rfl) ?_
  refine aw_aload_n (aw_d q_Js_print 0 rfl) rfl rfl rfl ?_
  refine aw_getf (aw_d q_Js_print 1 rfl) fL_Js_15_Js rfl rfl ?_
  refine aw_ldcS (aw_d q_Js_print 2 rfl) tL_Js_39 ?_
  refine cVv (aw_d q_Js_print 3 rfl) (sp_addAll (by decide)) vL_Js_25_By rfl rfl rfl rfl rfl rfl ⟨aw_le rfl, aw_le rfl⟩ ?_
  refine aw_iconst (v := nI 0) (aw_d q_Js_print 4 rfl) (by decide) ?_
  refine aw_istore_n (aw_d q_Js_print 5 rfl) rfl (aw_le rfl) rfl ?_
  exact lp_Js_print1 hP hW (xp_v P) 0 _ (by omega) (by simp [w_j])
set_option maxRecDepth 20000 in
theorem sp_Js_printTruth_0 {g : aw_G} {S : aw_S} {O : List Int32}  : Sp g M_Js_printTruth 5 107 0 0 [.ref 29, .int (nI 0)] (HP (WS S O)) (fun r h => r = none ∧ h = HP (WS S (O ++ w_tr true false))) := by
  refine Sp.of rfl (aw_le rfl) ?_
  refine aw_aload_n (aw_d q_Js_printTruth 0 rfl) rfl rfl rfl ?_
  refine aw_getf (aw_d q_Js_printTruth 1 rfl) fL_Js_15_Js rfl rfl ?_
  refine aw_ldcS (aw_d q_Js_printTruth 2 rfl) tL_Js_23 ?_
  refine cVv (aw_d q_Js_printTruth 3 rfl) (sp_addAll (by decide)) vL_Js_25_By rfl rfl rfl rfl rfl rfl ⟨aw_le rfl, aw_le rfl⟩ ?_
  refine aw_aload_n (aw_d q_Js_printTruth 4 rfl) rfl rfl rfl ?_
  refine aw_getf (aw_d q_Js_printTruth 5 rfl) fL_Js_15_Js rfl rfl ?_
  refine aw_iload_n (aw_d q_Js_printTruth 6 rfl) rfl rfl ?_
  refine cSr (aw_d q_Js_printTruth 7 rfl) (sp_truthName_0) sL_Js_31 rfl rfl rfl rfl ⟨aw_le rfl, aw_le rfl⟩ ?_
  refine cVv (aw_d q_Js_printTruth 8 rfl) (sp_addAll (by decide)) vL_Js_25_By rfl rfl rfl rfl rfl rfl ⟨aw_le rfl, aw_le rfl⟩ ?_
  refine aw_aload_n (aw_d q_Js_printTruth 9 rfl) rfl rfl rfl ?_
  refine aw_getf (aw_d q_Js_printTruth 10 rfl) fL_Js_15_Js rfl rfl ?_
  refine aw_bipush (v := nI 125) (aw_d q_Js_printTruth 11 rfl) (by decide) ?_
  refine cVv (aw_d q_Js_printTruth 12 rfl) (sp_add5) vL_Js_35_By rfl rfl rfl rfl rfl rfl ⟨aw_le rfl, aw_le rfl⟩ ?_
  exact aw_vret (aw_d q_Js_printTruth 13 rfl) rfl (⟨rfl, by simp [w_tr]⟩)
set_option maxRecDepth 20000 in
theorem sp_Xm_printTruth_0 {g : aw_G} {S : aw_S} {O : List Int32}  : Sp g M_Xm_printTruth 5 107 0 0 [.ref 30, .int (nI 0)] (HP (WS S O)) (fun r h => r = none ∧ h = HP (WS S (O ++ w_tr false false))) := by
  refine Sp.of rfl (aw_le rfl) ?_
  refine aw_aload_n (aw_d q_Xm_printTruth 0 rfl) rfl rfl rfl ?_
  refine aw_getf (aw_d q_Xm_printTruth 1 rfl) fL_Xm_15_Xm rfl rfl ?_
  refine aw_ldcS (aw_d q_Xm_printTruth 2 rfl) tL_Xm_23 ?_
  refine cVv (aw_d q_Xm_printTruth 3 rfl) (sp_addAll (by decide)) vL_Xm_25_By rfl rfl rfl rfl rfl rfl ⟨aw_le rfl, aw_le rfl⟩ ?_
  refine aw_aload_n (aw_d q_Xm_printTruth 4 rfl) rfl rfl rfl ?_
  refine aw_getf (aw_d q_Xm_printTruth 5 rfl) fL_Xm_15_Xm rfl rfl ?_
  refine aw_iload_n (aw_d q_Xm_printTruth 6 rfl) rfl rfl ?_
  refine cSr (aw_d q_Xm_printTruth 7 rfl) (sp_truthName_0) sL_Xm_31 rfl rfl rfl rfl ⟨aw_le rfl, aw_le rfl⟩ ?_
  refine cVv (aw_d q_Xm_printTruth 8 rfl) (sp_addAll (by decide)) vL_Xm_25_By rfl rfl rfl rfl rfl rfl ⟨aw_le rfl, aw_le rfl⟩ ?_
  refine aw_aload_n (aw_d q_Xm_printTruth 9 rfl) rfl rfl rfl ?_
  refine aw_getf (aw_d q_Xm_printTruth 10 rfl) fL_Xm_15_Xm rfl rfl ?_
  refine aw_ldcS (aw_d q_Xm_printTruth 11 rfl) tL_Xm_35 ?_
  refine cVv (aw_d q_Xm_printTruth 12 rfl) (sp_addAll (by decide)) vL_Xm_25_By rfl rfl rfl rfl rfl rfl ⟨aw_le rfl, aw_le rfl⟩ ?_
  exact aw_vret (aw_d q_Xm_printTruth 13 rfl) rfl (⟨rfl, by simp [w_tr]⟩)
set_option maxRecDepth 20000 in
theorem sp_Js_printTruth_1 {g : aw_G} {S : aw_S} {O : List Int32}  : Sp g M_Js_printTruth 5 107 0 0 [.ref 29, .int (nI 1)] (HP (WS S O)) (fun r h => r = none ∧ h = HP (WS S (O ++ w_tr true true))) := by
  refine Sp.of rfl (aw_le rfl) ?_
  refine aw_aload_n (aw_d q_Js_printTruth 0 rfl) rfl rfl rfl ?_
  refine aw_getf (aw_d q_Js_printTruth 1 rfl) fL_Js_15_Js rfl rfl ?_
  refine aw_ldcS (aw_d q_Js_printTruth 2 rfl) tL_Js_23 ?_
  refine cVv (aw_d q_Js_printTruth 3 rfl) (sp_addAll (by decide)) vL_Js_25_By rfl rfl rfl rfl rfl rfl ⟨aw_le rfl, aw_le rfl⟩ ?_
  refine aw_aload_n (aw_d q_Js_printTruth 4 rfl) rfl rfl rfl ?_
  refine aw_getf (aw_d q_Js_printTruth 5 rfl) fL_Js_15_Js rfl rfl ?_
  refine aw_iload_n (aw_d q_Js_printTruth 6 rfl) rfl rfl ?_
  refine cSr (aw_d q_Js_printTruth 7 rfl) (sp_truthName_1) sL_Js_31 rfl rfl rfl rfl ⟨aw_le rfl, aw_le rfl⟩ ?_
  refine cVv (aw_d q_Js_printTruth 8 rfl) (sp_addAll (by decide)) vL_Js_25_By rfl rfl rfl rfl rfl rfl ⟨aw_le rfl, aw_le rfl⟩ ?_
  refine aw_aload_n (aw_d q_Js_printTruth 9 rfl) rfl rfl rfl ?_
  refine aw_getf (aw_d q_Js_printTruth 10 rfl) fL_Js_15_Js rfl rfl ?_
  refine aw_bipush (v := nI 125) (aw_d q_Js_printTruth 11 rfl) (by decide) ?_
  refine cVv (aw_d q_Js_printTruth 12 rfl) (sp_add5) vL_Js_35_By rfl rfl rfl rfl rfl rfl ⟨aw_le rfl, aw_le rfl⟩ ?_
  exact aw_vret (aw_d q_Js_printTruth 13 rfl) rfl (⟨rfl, by simp [w_tr]⟩)
set_option maxRecDepth 20000 in
theorem sp_Xm_printTruth_1 {g : aw_G} {S : aw_S} {O : List Int32}  : Sp g M_Xm_printTruth 5 107 0 0 [.ref 30, .int (nI 1)] (HP (WS S O)) (fun r h => r = none ∧ h = HP (WS S (O ++ w_tr false true))) := by
  refine Sp.of rfl (aw_le rfl) ?_
  refine aw_aload_n (aw_d q_Xm_printTruth 0 rfl) rfl rfl rfl ?_
  refine aw_getf (aw_d q_Xm_printTruth 1 rfl) fL_Xm_15_Xm rfl rfl ?_
  refine aw_ldcS (aw_d q_Xm_printTruth 2 rfl) tL_Xm_23 ?_
  refine cVv (aw_d q_Xm_printTruth 3 rfl) (sp_addAll (by decide)) vL_Xm_25_By rfl rfl rfl rfl rfl rfl ⟨aw_le rfl, aw_le rfl⟩ ?_
  refine aw_aload_n (aw_d q_Xm_printTruth 4 rfl) rfl rfl rfl ?_
  refine aw_getf (aw_d q_Xm_printTruth 5 rfl) fL_Xm_15_Xm rfl rfl ?_
  refine aw_iload_n (aw_d q_Xm_printTruth 6 rfl) rfl rfl ?_
  refine cSr (aw_d q_Xm_printTruth 7 rfl) (sp_truthName_1) sL_Xm_31 rfl rfl rfl rfl ⟨aw_le rfl, aw_le rfl⟩ ?_
  refine cVv (aw_d q_Xm_printTruth 8 rfl) (sp_addAll (by decide)) vL_Xm_25_By rfl rfl rfl rfl rfl rfl ⟨aw_le rfl, aw_le rfl⟩ ?_
  refine aw_aload_n (aw_d q_Xm_printTruth 9 rfl) rfl rfl rfl ?_
  refine aw_getf (aw_d q_Xm_printTruth 10 rfl) fL_Xm_15_Xm rfl rfl ?_
  refine aw_ldcS (aw_d q_Xm_printTruth 11 rfl) tL_Xm_35 ?_
  refine cVv (aw_d q_Xm_printTruth 12 rfl) (sp_addAll (by decide)) vL_Xm_25_By rfl rfl rfl rfl rfl rfl ⟨aw_le rfl, aw_le rfl⟩ ?_
  exact aw_vret (aw_d q_Xm_printTruth 13 rfl) rfl (⟨rfl, by simp [w_tr]⟩)
set_option maxRecDepth 20000 in
theorem sp_Xm_opening_0 {g : aw_G} {h : aw_hp}  : Sp g M_Xm_opening 0 0 0 0 [.int (nI 0)] (h) (fun r h1 => r = some (.retAddr 32) ∧ h1 = h) := by
  refine Sp.of rfl (aw_le rfl) ?_
  refine aw_iload_n (aw_d q_Xm_opening 0 rfl) rfl rfl ?_
  have hsx1 : (nI (0)).toInt = ((0 : Nat) : Int) := nI_toInt (by omega)
  have hsw : (nI (0)).toInt = 0 := by omega
  refine aw_lookup (tgt := 28) (aw_d q_Xm_opening 1 rfl) (by decide) (by rw [hsw]; try rfl) (by decide) ?_
  refine aw_ldcS (aw_d q_Xm_opening 2 rfl) tL_Xm_108 ?_
  exact aw_aret (aw_d q_Xm_opening 3 rfl) rfl (Or.inl ⟨_, rfl⟩) rfl (⟨rfl, rfl⟩)
set_option maxRecDepth 20000 in
theorem sp_Xm_closing_0 {g : aw_G} {h : aw_hp}  : Sp g M_Xm_closing 0 0 0 0 [.int (nI 0)] (h) (fun r h1 => r = some (.retAddr 41) ∧ h1 = h) := by
  refine Sp.of rfl (aw_le rfl) ?_
  refine aw_iload_n (aw_d q_Xm_closing 0 rfl) rfl rfl ?_
  have hsx1 : (nI (0)).toInt = ((0 : Nat) : Int) := nI_toInt (by omega)
  have hsw : (nI (0)).toInt = 0 := by omega
  refine aw_lookup (tgt := 28) (aw_d q_Xm_closing 1 rfl) (by decide) (by rw [hsw]; try rfl) (by decide) ?_
  refine aw_ldcS (aw_d q_Xm_closing 2 rfl) tL_Xm_114 ?_
  exact aw_aret (aw_d q_Xm_closing 3 rfl) rfl (Or.inl ⟨_, rfl⟩) rfl (⟨rfl, rfl⟩)
set_option maxRecDepth 20000 in
theorem sp_Xm_opening_1 {g : aw_G} {h : aw_hp}  : Sp g M_Xm_opening 0 0 0 0 [.int (nI 1)] (h) (fun r h1 => r = some (.retAddr 33) ∧ h1 = h) := by
  refine Sp.of rfl (aw_le rfl) ?_
  refine aw_iload_n (aw_d q_Xm_opening 0 rfl) rfl rfl ?_
  have hsx1 : (nI (1)).toInt = ((1 : Nat) : Int) := nI_toInt (by omega)
  have hsw : (nI (1)).toInt = 1 := by omega
  refine aw_lookup (tgt := 31) (aw_d q_Xm_opening 1 rfl) (by decide) (by rw [hsw]; try rfl) (by decide) ?_
  refine aw_ldcS (aw_d q_Xm_opening 4 rfl) tL_Xm_110 ?_
  exact aw_aret (aw_d q_Xm_opening 5 rfl) rfl (Or.inl ⟨_, rfl⟩) rfl (⟨rfl, rfl⟩)
set_option maxRecDepth 20000 in
theorem sp_Xm_closing_1 {g : aw_G} {h : aw_hp}  : Sp g M_Xm_closing 0 0 0 0 [.int (nI 1)] (h) (fun r h1 => r = some (.retAddr 42) ∧ h1 = h) := by
  refine Sp.of rfl (aw_le rfl) ?_
  refine aw_iload_n (aw_d q_Xm_closing 0 rfl) rfl rfl ?_
  have hsx1 : (nI (1)).toInt = ((1 : Nat) : Int) := nI_toInt (by omega)
  have hsw : (nI (1)).toInt = 1 := by omega
  refine aw_lookup (tgt := 31) (aw_d q_Xm_closing 1 rfl) (by decide) (by rw [hsw]; try rfl) (by decide) ?_
  refine aw_ldcS (aw_d q_Xm_closing 4 rfl) tL_Xm_116 ?_
  exact aw_aret (aw_d q_Xm_closing 5 rfl) rfl (Or.inl ⟨_, rfl⟩) rfl (⟨rfl, rfl⟩)
set_option maxRecDepth 20000 in
theorem sp_Xm_opening_2 {g : aw_G} {h : aw_hp}  : Sp g M_Xm_opening 0 0 0 0 [.int (nI 2)] (h) (fun r h1 => r = some (.retAddr 34) ∧ h1 = h) := by
  refine Sp.of rfl (aw_le rfl) ?_
  refine aw_iload_n (aw_d q_Xm_opening 0 rfl) rfl rfl ?_
  have hsx1 : (nI (2)).toInt = ((2 : Nat) : Int) := nI_toInt (by omega)
  have hsw : ((nI (2)).toInt ≠ 0 ∧ (nI (2)).toInt ≠ 1) := by omega
  refine aw_lookup (tgt := 34) (aw_d q_Xm_opening 1 rfl) (by decide) (lk_out (by intro q hq; simp at hq; rcases hq with rfl | rfl <;> (dsimp only; omega))) (by decide) ?_
  refine aw_ldcS (aw_d q_Xm_opening 6 rfl) tL_Xm_112 ?_
  exact aw_aret (aw_d q_Xm_opening 7 rfl) rfl (Or.inl ⟨_, rfl⟩) rfl (⟨rfl, rfl⟩)
set_option maxRecDepth 20000 in
theorem sp_Xm_closing_2 {g : aw_G} {h : aw_hp}  : Sp g M_Xm_closing 0 0 0 0 [.int (nI 2)] (h) (fun r h1 => r = some (.retAddr 43) ∧ h1 = h) := by
  refine Sp.of rfl (aw_le rfl) ?_
  refine aw_iload_n (aw_d q_Xm_closing 0 rfl) rfl rfl ?_
  have hsx1 : (nI (2)).toInt = ((2 : Nat) : Int) := nI_toInt (by omega)
  have hsw : ((nI (2)).toInt ≠ 0 ∧ (nI (2)).toInt ≠ 1) := by omega
  refine aw_lookup (tgt := 34) (aw_d q_Xm_closing 1 rfl) (by decide) (lk_out (by intro q hq; simp at hq; rcases hq with rfl | rfl <;> (dsimp only; omega))) (by decide) ?_
  refine aw_ldcS (aw_d q_Xm_closing 6 rfl) tL_Xm_118 ?_
  exact aw_aret (aw_d q_Xm_closing 7 rfl) rfl (Or.inl ⟨_, rfl⟩) rfl (⟨rfl, rfl⟩)
set_option maxRecDepth 20000 in
theorem sp_Xm_opening_3 {g : aw_G} {h : aw_hp}  : Sp g M_Xm_opening 0 0 0 0 [.int (nI 3)] (h) (fun r h1 => r = some (.retAddr 34) ∧ h1 = h) := by
  refine Sp.of rfl (aw_le rfl) ?_
  refine aw_iload_n (aw_d q_Xm_opening 0 rfl) rfl rfl ?_
  have hsx1 : (nI (3)).toInt = ((3 : Nat) : Int) := nI_toInt (by omega)
  have hsw : ((nI (3)).toInt ≠ 0 ∧ (nI (3)).toInt ≠ 1) := by omega
  refine aw_lookup (tgt := 34) (aw_d q_Xm_opening 1 rfl) (by decide) (lk_out (by intro q hq; simp at hq; rcases hq with rfl | rfl <;> (dsimp only; omega))) (by decide) ?_
  refine aw_ldcS (aw_d q_Xm_opening 6 rfl) tL_Xm_112 ?_
  exact aw_aret (aw_d q_Xm_opening 7 rfl) rfl (Or.inl ⟨_, rfl⟩) rfl (⟨rfl, rfl⟩)
set_option maxRecDepth 20000 in
theorem sp_Xm_closing_3 {g : aw_G} {h : aw_hp}  : Sp g M_Xm_closing 0 0 0 0 [.int (nI 3)] (h) (fun r h1 => r = some (.retAddr 43) ∧ h1 = h) := by
  refine Sp.of rfl (aw_le rfl) ?_
  refine aw_iload_n (aw_d q_Xm_closing 0 rfl) rfl rfl ?_
  have hsx1 : (nI (3)).toInt = ((3 : Nat) : Int) := nI_toInt (by omega)
  have hsw : ((nI (3)).toInt ≠ 0 ∧ (nI (3)).toInt ≠ 1) := by omega
  refine aw_lookup (tgt := 34) (aw_d q_Xm_closing 1 rfl) (by decide) (lk_out (by intro q hq; simp at hq; rcases hq with rfl | rfl <;> (dsimp only; omega))) (by decide) ?_
  refine aw_ldcS (aw_d q_Xm_closing 6 rfl) tL_Xm_118 ?_
  exact aw_aret (aw_d q_Xm_closing 7 rfl) rfl (Or.inl ⟨_, rfl⟩) rfl (⟨rfl, rfl⟩)
set_option maxRecDepth 20000 in
theorem sp_Xm_opening_4 {g : aw_G} {h : aw_hp}  : Sp g M_Xm_opening 0 0 0 0 [.int (nI 4)] (h) (fun r h1 => r = some (.retAddr 34) ∧ h1 = h) := by
  refine Sp.of rfl (aw_le rfl) ?_
  refine aw_iload_n (aw_d q_Xm_opening 0 rfl) rfl rfl ?_
  have hsx1 : (nI (4)).toInt = ((4 : Nat) : Int) := nI_toInt (by omega)
  have hsw : ((nI (4)).toInt ≠ 0 ∧ (nI (4)).toInt ≠ 1) := by omega
  refine aw_lookup (tgt := 34) (aw_d q_Xm_opening 1 rfl) (by decide) (lk_out (by intro q hq; simp at hq; rcases hq with rfl | rfl <;> (dsimp only; omega))) (by decide) ?_
  refine aw_ldcS (aw_d q_Xm_opening 6 rfl) tL_Xm_112 ?_
  exact aw_aret (aw_d q_Xm_opening 7 rfl) rfl (Or.inl ⟨_, rfl⟩) rfl (⟨rfl, rfl⟩)
set_option maxRecDepth 20000 in
theorem sp_Xm_closing_4 {g : aw_G} {h : aw_hp}  : Sp g M_Xm_closing 0 0 0 0 [.int (nI 4)] (h) (fun r h1 => r = some (.retAddr 43) ∧ h1 = h) := by
  refine Sp.of rfl (aw_le rfl) ?_
  refine aw_iload_n (aw_d q_Xm_closing 0 rfl) rfl rfl ?_
  have hsx1 : (nI (4)).toInt = ((4 : Nat) : Int) := nI_toInt (by omega)
  have hsw : ((nI (4)).toInt ≠ 0 ∧ (nI (4)).toInt ≠ 1) := by omega
  refine aw_lookup (tgt := 34) (aw_d q_Xm_closing 1 rfl) (by decide) (lk_out (by intro q hq; simp at hq; rcases hq with rfl | rfl <;> (dsimp only; omega))) (by decide) ?_
  refine aw_ldcS (aw_d q_Xm_closing 6 rfl) tL_Xm_118 ?_
  exact aw_aret (aw_d q_Xm_closing 7 rfl) rfl (Or.inl ⟨_, rfl⟩) rfl (⟨rfl, rfl⟩)
set_option maxRecDepth 20000 in
theorem lp_Xm_printText {g : aw_G} {S : aw_S} {O : List Int32} {P : xp_T} (hP : xp_C S P) (hW : xp_wd P) {t : Nat} (ht : t < xp_t P) : ∀ (m k : Nat) (Q : List Int32) (x4 : Option Value), m + k = xp_l P t → Q ++ catB (fun i => w_2 (xp_b P t i)) m k = O ++ w_t w_2 P t → AW g M_Xm_printText (aw_rm 5 107 0 0) (aw_F g 0 0 (fun r h => r = none ∧ h = HP (WS S (O ++ w_t w_2 P t)))) 2 [some (.ref 30), some (.int (nI t)), some (.int (nI k)), x4] [] (HP (WS S Q)) 0 0 := by
  intro m
  induction m with
  | zero =>
    intro k Q x4 hk e
    refine aw_iload_n (aw_d q_Xm_printText 2 rfl) rfl rfl ?_
    refine aw_aload_n (aw_d q_Xm_printText 3 rfl) rfl rfl rfl ?_
    refine aw_getf (aw_d q_Xm_printText 4 rfl) fL_Xm_19_Xm rfl rfl ?_
    refine aw_iload_n (aw_d q_Xm_printText 5 rfl) rfl rfl ?_
    refine cVr (aw_d q_Xm_printText 6 rfl) (sp_len hP hW ht) vL_Xm_120_Te rfl rfl rfl rfl rfl rfl ⟨aw_le rfl, aw_le rfl⟩ ?_
    refine aw_icmpN_ge (tgt := 130) (aw_d q_Xm_printText 7 rfl) (by decide) (by (have hz := (hW.2.2.2 t ht).2; have hz1 := hW.1; omega)) (by (have hz := (hW.2.2.2 t ht).2; have hz1 := hW.1; omega)) (fun c11 => ?_) (fun c11 => by exfalso; (have hz := (hW.2.2.2 t ht).2; have hz1 := hW.1; omega))
    exact aw_vret (aw_d q_Xm_printText 42 rfl) rfl (⟨rfl, by rw [← e]; simp only [catB, List.append_nil]⟩)
  | succ m ih =>
    intro k Q x4 hk e
    refine aw_iload_n (aw_d q_Xm_printText 2 rfl) rfl rfl ?_
    refine aw_aload_n (aw_d q_Xm_printText 3 rfl) rfl rfl rfl ?_
    refine aw_getf (aw_d q_Xm_printText 4 rfl) fL_Xm_19_Xm rfl rfl ?_
    refine aw_iload_n (aw_d q_Xm_printText 5 rfl) rfl rfl ?_
    refine cVr (aw_d q_Xm_printText 6 rfl) (sp_len hP hW ht) vL_Xm_120_Te rfl rfl rfl rfl rfl rfl ⟨aw_le rfl, aw_le rfl⟩ ?_
    refine aw_icmpN_ge (tgt := 130) (aw_d q_Xm_printText 7 rfl) (by decide) (by (have hz := (hW.2.2.2 t ht).2; have hz1 := hW.1; omega)) (by (have hz := (hW.2.2.2 t ht).2; have hz1 := hW.1; omega)) (fun c11 => by exfalso; (have hz := (hW.2.2.2 t ht).2; have hz1 := hW.1; omega)) (fun c11 => ?_)
    refine aw_aload_n (aw_d q_Xm_printText 8 rfl) rfl rfl rfl ?_
    refine aw_getf (aw_d q_Xm_printText 9 rfl) fL_Xm_19_Xm rfl rfl ?_
    refine aw_iload_n (aw_d q_Xm_printText 10 rfl) rfl rfl ?_
    refine aw_iload_n (aw_d q_Xm_printText 11 rfl) rfl rfl ?_
    refine cVr (aw_d q_Xm_printText 12 rfl) (sp_byte hP hW ht (by omega)) vL_Xm_123_Te rfl rfl rfl rfl rfl rfl ⟨aw_le rfl, aw_le rfl⟩ ?_
    refine aw_istore_n (aw_d q_Xm_printText 13 rfl) rfl (aw_le rfl) rfl ?_
    refine aw_iload_n (aw_d q_Xm_printText 14 rfl) rfl rfl ?_
    rcases (show (xp_b P t k).toInt = 13 ∨ (xp_b P t k).toInt = 38 ∨ (xp_b P t k).toInt = 60 ∨ (xp_b P t k).toInt = 62 ∨ ((xp_b P t k).toInt ≠ 13 ∧ (xp_b P t k).toInt ≠ 38 ∧ (xp_b P t k).toInt ≠ 60 ∧ (xp_b P t k).toInt ≠ 62) by (have hz := (hW.2.2.2 t ht).2; have hz1 := hW.1; omega)) with hsw | hsw | hsw | hsw | hsw
    · refine aw_lookup (tgt := 104) (aw_d q_Xm_printText 15 rfl) (by decide) (by rw [hsw]; try rfl) (by decide) ?_
      refine aw_aload_n (aw_d q_Xm_printText 31 rfl) rfl rfl rfl ?_
      refine aw_getf (aw_d q_Xm_printText 32 rfl) fL_Xm_15_Xm rfl rfl ?_
      refine aw_ldcS (aw_d q_Xm_printText 33 rfl) tL_Xm_132 ?_
      refine cVv (aw_d q_Xm_printText 34 rfl) (sp_addAll (by decide)) vL_Xm_25_By rfl rfl rfl rfl rfl rfl ⟨aw_le rfl, aw_le rfl⟩ ?_
      refine aw_goto (tgt := 124) (aw_d q_Xm_printText 35 rfl) (by decide) ?_
      refine aw_iinc (aw_d q_Xm_printText 40 rfl) rfl (ii1 _) (aw_le rfl) rfl ?_
      refine aw_goto (tgt := 2) (aw_d q_Xm_printText 41 rfl) (by decide) ?_
      exact ih (k + 1) _ _ (by omega) (by rw [← e]; first | (simp [catB, w_2, hsw]; done) | simp [catB, w_2])
    · refine aw_lookup (tgt := 68) (aw_d q_Xm_printText 15 rfl) (by decide) (by rw [hsw]; try rfl) (by decide) ?_
      refine aw_aload_n (aw_d q_Xm_printText 16 rfl) rfl rfl rfl ?_
      refine aw_getf (aw_d q_Xm_printText 17 rfl) fL_Xm_15_Xm rfl rfl ?_
      refine aw_ldcS (aw_d q_Xm_printText 18 rfl) tL_Xm_126 ?_
      refine cVv (aw_d q_Xm_printText 19 rfl) (sp_addAll (by decide)) vL_Xm_25_By rfl rfl rfl rfl rfl rfl ⟨aw_le rfl, aw_le rfl⟩ ?_
      refine aw_goto (tgt := 124) (aw_d q_Xm_printText 20 rfl) (by decide) ?_
      refine aw_iinc (aw_d q_Xm_printText 40 rfl) rfl (ii1 _) (aw_le rfl) rfl ?_
      refine aw_goto (tgt := 2) (aw_d q_Xm_printText 41 rfl) (by decide) ?_
      exact ih (k + 1) _ _ (by omega) (by rw [← e]; first | (simp [catB, w_2, hsw]; done) | simp [catB, w_2])
    · refine aw_lookup (tgt := 80) (aw_d q_Xm_printText 15 rfl) (by decide) (by rw [hsw]; try rfl) (by decide) ?_
      refine aw_aload_n (aw_d q_Xm_printText 21 rfl) rfl rfl rfl ?_
      refine aw_getf (aw_d q_Xm_printText 22 rfl) fL_Xm_15_Xm rfl rfl ?_
      refine aw_ldcS (aw_d q_Xm_printText 23 rfl) tL_Xm_128 ?_
      refine cVv (aw_d q_Xm_printText 24 rfl) (sp_addAll (by decide)) vL_Xm_25_By rfl rfl rfl rfl rfl rfl ⟨aw_le rfl, aw_le rfl⟩ ?_
      refine aw_goto (tgt := 124) (aw_d q_Xm_printText 25 rfl) (by decide) ?_
      refine aw_iinc (aw_d q_Xm_printText 40 rfl) rfl (ii1 _) (aw_le rfl) rfl ?_
      refine aw_goto (tgt := 2) (aw_d q_Xm_printText 41 rfl) (by decide) ?_
      exact ih (k + 1) _ _ (by omega) (by rw [← e]; first | (simp [catB, w_2, hsw]; done) | simp [catB, w_2])
    · refine aw_lookup (tgt := 92) (aw_d q_Xm_printText 15 rfl) (by decide) (by rw [hsw]; try rfl) (by decide) ?_
      refine aw_aload_n (aw_d q_Xm_printText 26 rfl) rfl rfl rfl ?_
      refine aw_getf (aw_d q_Xm_printText 27 rfl) fL_Xm_15_Xm rfl rfl ?_
      refine aw_ldcS (aw_d q_Xm_printText 28 rfl) tL_Xm_130 ?_
      refine cVv (aw_d q_Xm_printText 29 rfl) (sp_addAll (by decide)) vL_Xm_25_By rfl rfl rfl rfl rfl rfl ⟨aw_le rfl, aw_le rfl⟩ ?_
      refine aw_goto (tgt := 124) (aw_d q_Xm_printText 30 rfl) (by decide) ?_
      refine aw_iinc (aw_d q_Xm_printText 40 rfl) rfl (ii1 _) (aw_le rfl) rfl ?_
      refine aw_goto (tgt := 2) (aw_d q_Xm_printText 41 rfl) (by decide) ?_
      exact ih (k + 1) _ _ (by omega) (by rw [← e]; first | (simp [catB, w_2, hsw]; done) | simp [catB, w_2])
    · refine aw_lookup (tgt := 116) (aw_d q_Xm_printText 15 rfl) (by decide) (lk_out (by intro q hq; simp at hq; rcases hq with rfl | rfl | rfl | rfl <;> (dsimp only; omega))) (by decide) ?_
      refine aw_aload_n (aw_d q_Xm_printText 36 rfl) rfl rfl rfl ?_
      refine aw_getf (aw_d q_Xm_printText 37 rfl) fL_Xm_15_Xm rfl rfl ?_
      refine aw_iload_n (aw_d q_Xm_printText 38 rfl) rfl rfl ?_
      refine cVv (aw_d q_Xm_printText 39 rfl) (sp_add5) vL_Xm_99_By rfl rfl rfl rfl rfl rfl ⟨aw_le rfl, aw_le rfl⟩ ?_
      refine aw_iinc (aw_d q_Xm_printText 40 rfl) rfl (ii1 _) (aw_le rfl) rfl ?_
      refine aw_goto (tgt := 2) (aw_d q_Xm_printText 41 rfl) (by decide) ?_
      exact ih (k + 1) _ _ (by omega) (by rw [← e]; first | (simp [catB, w_2, hsw]; done) | simp [catB, w_2])
set_option maxRecDepth 20000 in
theorem sp_Xm_printText {g : aw_G} {S : aw_S} {O : List Int32} {P : xp_T} (hP : xp_C S P) (hW : xp_wd P) {t : Nat} (ht : t < xp_t P) : Sp g M_Xm_printText 5 107 0 0 [.ref 30, .int (nI t)] (HP (WS S O)) (fun r h => r = none ∧ h = HP (WS S (O ++ w_t w_2 P t))) := by
  refine Sp.of rfl (aw_le rfl) ?_
  refine aw_iconst (v := nI 0) (aw_d q_Xm_printText 0 rfl) (by decide) ?_
  refine aw_istore_n (aw_d q_Xm_printText 1 rfl) rfl (aw_le rfl) rfl ?_
  exact lp_Xm_printText hP hW ht _ 0 O _ (by omega) rfl
set_option maxRecDepth 20000 in
theorem sp_Xm_printTerm_0 {g : aw_G} {S : aw_S} {O : List Int32} {P : xp_T} (hP : xp_C S P) (hW : xp_wd P) {t : Nat} (ht : t < xp_t P) (hk : xp_k P t = 0) : Sp g M_Xm_printTerm 6 130 0 0 [.ref 30, .int (nI t)] (HP (WS S O)) (fun r h => r = none ∧ h = HP (WS S (O ++ w_xt P t))) := by
  refine Sp.of rfl (aw_le rfl) ?_
  refine aw_aload_n (aw_d q_Xm_printTerm 0 rfl) rfl rfl rfl ?_
  refine aw_getf (aw_d q_Xm_printTerm 1 rfl) fL_Xm_19_Xm rfl rfl ?_
  refine aw_iload_n (aw_d q_Xm_printTerm 2 rfl) rfl rfl ?_
  refine cVr (aw_d q_Xm_printTerm 3 rfl) (sp_kind hP hW ht hk) vL_Xm_82_Te rfl rfl rfl rfl rfl rfl ⟨aw_le rfl, aw_le rfl⟩ ?_
  refine aw_istore_n (aw_d q_Xm_printTerm 4 rfl) rfl (aw_le rfl) rfl ?_
  refine aw_aload_n (aw_d q_Xm_printTerm 5 rfl) rfl rfl rfl ?_
  refine aw_getf (aw_d q_Xm_printTerm 6 rfl) fL_Xm_15_Xm rfl rfl ?_
  refine aw_iload_n (aw_d q_Xm_printTerm 7 rfl) rfl rfl ?_
  refine cSr (aw_d q_Xm_printTerm 8 rfl) (sp_Xm_opening_0) sL_Xm_88 rfl rfl rfl rfl ⟨aw_le rfl, aw_le rfl⟩ ?_
  refine cVv (aw_d q_Xm_printTerm 9 rfl) (sp_addAll (by decide)) vL_Xm_25_By rfl rfl rfl rfl rfl rfl ⟨aw_le rfl, aw_le rfl⟩ ?_
  refine aw_iload_n (aw_d q_Xm_printTerm 10 rfl) rfl rfl ?_
  refine aw_iconst (v := nI 3) (aw_d q_Xm_printTerm 11 rfl) (by decide) ?_
  refine aw_icmpN_ne (tgt := 34) (aw_d q_Xm_printTerm 12 rfl) (by decide) (by (have hz := (hW.2.2.2 t ht).2; have hz1 := hW.1; omega)) (by (have hz := (hW.2.2.2 t ht).2; have hz1 := hW.1; omega)) (fun c22 => ?_) (fun c22 => by exfalso; (have hz := (hW.2.2.2 t ht).2; have hz1 := hW.1; omega))
  refine aw_iload_n (aw_d q_Xm_printTerm 17 rfl) rfl rfl ?_
  refine aw_iconst (v := nI 4) (aw_d q_Xm_printTerm 18 rfl) (by decide) ?_
  refine aw_icmpN_ne (tgt := 48) (aw_d q_Xm_printTerm 19 rfl) (by decide) (by (have hz := (hW.2.2.2 t ht).2; have hz1 := hW.1; omega)) (by (have hz := (hW.2.2.2 t ht).2; have hz1 := hW.1; omega)) (fun c36 => ?_) (fun c36 => by exfalso; (have hz := (hW.2.2.2 t ht).2; have hz1 := hW.1; omega))
  refine aw_iload_n (aw_d q_Xm_printTerm 24 rfl) rfl rfl ?_
  refine aw_iconst (v := nI 3) (aw_d q_Xm_printTerm 25 rfl) (by decide) ?_
  refine aw_icmpN_eq (tgt := 58) (aw_d q_Xm_printTerm 26 rfl) (by decide) (by (have hz := (hW.2.2.2 t ht).2; have hz1 := hW.1; omega)) (by (have hz := (hW.2.2.2 t ht).2; have hz1 := hW.1; omega)) (fun c50 => by exfalso; (have hz := (hW.2.2.2 t ht).2; have hz1 := hW.1; omega)) (fun c50 => ?_)
  refine aw_iload_n (aw_d q_Xm_printTerm 27 rfl) rfl rfl ?_
  refine aw_iconst (v := nI 4) (aw_d q_Xm_printTerm 28 rfl) (by decide) ?_
  refine aw_icmpN_ne (tgt := 79) (aw_d q_Xm_printTerm 29 rfl) (by decide) (by (have hz := (hW.2.2.2 t ht).2; have hz1 := hW.1; omega)) (by (have hz := (hW.2.2.2 t ht).2; have hz1 := hW.1; omega)) (fun c55 => ?_) (fun c55 => by exfalso; (have hz := (hW.2.2.2 t ht).2; have hz1 := hW.1; omega))
  refine aw_aload_n (aw_d q_Xm_printTerm 40 rfl) rfl rfl rfl ?_
  refine aw_getf (aw_d q_Xm_printTerm 41 rfl) fL_Xm_15_Xm rfl rfl ?_
  refine aw_bipush (v := nI 62) (aw_d q_Xm_printTerm 42 rfl) (by decide) ?_
  refine cVv (aw_d q_Xm_printTerm 43 rfl) (sp_add5) vL_Xm_99_By rfl rfl rfl rfl rfl rfl ⟨aw_le rfl, aw_le rfl⟩ ?_
  refine aw_aload_n (aw_d q_Xm_printTerm 44 rfl) rfl rfl rfl ?_
  refine aw_iload_n (aw_d q_Xm_printTerm 45 rfl) rfl rfl ?_
  refine cVv (aw_d q_Xm_printTerm 46 rfl) (sp_Xm_printText hP hW ht) vL_Xm_102_Xm rfl rfl rfl rfl rfl rfl ⟨aw_le rfl, aw_le rfl⟩ ?_
  refine aw_aload_n (aw_d q_Xm_printTerm 47 rfl) rfl rfl rfl ?_
  refine aw_getf (aw_d q_Xm_printTerm 48 rfl) fL_Xm_15_Xm rfl rfl ?_
  refine aw_iload_n (aw_d q_Xm_printTerm 49 rfl) rfl rfl ?_
  refine cSr (aw_d q_Xm_printTerm 50 rfl) (sp_Xm_closing_0) sL_Xm_105 rfl rfl rfl rfl ⟨aw_le rfl, aw_le rfl⟩ ?_
  refine cVv (aw_d q_Xm_printTerm 51 rfl) (sp_addAll (by decide)) vL_Xm_25_By rfl rfl rfl rfl rfl rfl ⟨aw_le rfl, aw_le rfl⟩ ?_
  exact aw_vret (aw_d q_Xm_printTerm 52 rfl) rfl (⟨rfl, by simp [w_xt, hk]⟩)
set_option maxRecDepth 20000 in
theorem sp_Xm_printTerm_1 {g : aw_G} {S : aw_S} {O : List Int32} {P : xp_T} (hP : xp_C S P) (hW : xp_wd P) {t : Nat} (ht : t < xp_t P) (hk : xp_k P t = 1) : Sp g M_Xm_printTerm 6 130 0 0 [.ref 30, .int (nI t)] (HP (WS S O)) (fun r h => r = none ∧ h = HP (WS S (O ++ w_xt P t))) := by
  refine Sp.of rfl (aw_le rfl) ?_
  refine aw_aload_n (aw_d q_Xm_printTerm 0 rfl) rfl rfl rfl ?_
  refine aw_getf (aw_d q_Xm_printTerm 1 rfl) fL_Xm_19_Xm rfl rfl ?_
  refine aw_iload_n (aw_d q_Xm_printTerm 2 rfl) rfl rfl ?_
  refine cVr (aw_d q_Xm_printTerm 3 rfl) (sp_kind hP hW ht hk) vL_Xm_82_Te rfl rfl rfl rfl rfl rfl ⟨aw_le rfl, aw_le rfl⟩ ?_
  refine aw_istore_n (aw_d q_Xm_printTerm 4 rfl) rfl (aw_le rfl) rfl ?_
  refine aw_aload_n (aw_d q_Xm_printTerm 5 rfl) rfl rfl rfl ?_
  refine aw_getf (aw_d q_Xm_printTerm 6 rfl) fL_Xm_15_Xm rfl rfl ?_
  refine aw_iload_n (aw_d q_Xm_printTerm 7 rfl) rfl rfl ?_
  refine cSr (aw_d q_Xm_printTerm 8 rfl) (sp_Xm_opening_1) sL_Xm_88 rfl rfl rfl rfl ⟨aw_le rfl, aw_le rfl⟩ ?_
  refine cVv (aw_d q_Xm_printTerm 9 rfl) (sp_addAll (by decide)) vL_Xm_25_By rfl rfl rfl rfl rfl rfl ⟨aw_le rfl, aw_le rfl⟩ ?_
  refine aw_iload_n (aw_d q_Xm_printTerm 10 rfl) rfl rfl ?_
  refine aw_iconst (v := nI 3) (aw_d q_Xm_printTerm 11 rfl) (by decide) ?_
  refine aw_icmpN_ne (tgt := 34) (aw_d q_Xm_printTerm 12 rfl) (by decide) (by (have hz := (hW.2.2.2 t ht).2; have hz1 := hW.1; omega)) (by (have hz := (hW.2.2.2 t ht).2; have hz1 := hW.1; omega)) (fun c22 => ?_) (fun c22 => by exfalso; (have hz := (hW.2.2.2 t ht).2; have hz1 := hW.1; omega))
  refine aw_iload_n (aw_d q_Xm_printTerm 17 rfl) rfl rfl ?_
  refine aw_iconst (v := nI 4) (aw_d q_Xm_printTerm 18 rfl) (by decide) ?_
  refine aw_icmpN_ne (tgt := 48) (aw_d q_Xm_printTerm 19 rfl) (by decide) (by (have hz := (hW.2.2.2 t ht).2; have hz1 := hW.1; omega)) (by (have hz := (hW.2.2.2 t ht).2; have hz1 := hW.1; omega)) (fun c36 => ?_) (fun c36 => by exfalso; (have hz := (hW.2.2.2 t ht).2; have hz1 := hW.1; omega))
  refine aw_iload_n (aw_d q_Xm_printTerm 24 rfl) rfl rfl ?_
  refine aw_iconst (v := nI 3) (aw_d q_Xm_printTerm 25 rfl) (by decide) ?_
  refine aw_icmpN_eq (tgt := 58) (aw_d q_Xm_printTerm 26 rfl) (by decide) (by (have hz := (hW.2.2.2 t ht).2; have hz1 := hW.1; omega)) (by (have hz := (hW.2.2.2 t ht).2; have hz1 := hW.1; omega)) (fun c50 => by exfalso; (have hz := (hW.2.2.2 t ht).2; have hz1 := hW.1; omega)) (fun c50 => ?_)
  refine aw_iload_n (aw_d q_Xm_printTerm 27 rfl) rfl rfl ?_
  refine aw_iconst (v := nI 4) (aw_d q_Xm_printTerm 28 rfl) (by decide) ?_
  refine aw_icmpN_ne (tgt := 79) (aw_d q_Xm_printTerm 29 rfl) (by decide) (by (have hz := (hW.2.2.2 t ht).2; have hz1 := hW.1; omega)) (by (have hz := (hW.2.2.2 t ht).2; have hz1 := hW.1; omega)) (fun c55 => ?_) (fun c55 => by exfalso; (have hz := (hW.2.2.2 t ht).2; have hz1 := hW.1; omega))
  refine aw_aload_n (aw_d q_Xm_printTerm 40 rfl) rfl rfl rfl ?_
  refine aw_getf (aw_d q_Xm_printTerm 41 rfl) fL_Xm_15_Xm rfl rfl ?_
  refine aw_bipush (v := nI 62) (aw_d q_Xm_printTerm 42 rfl) (by decide) ?_
  refine cVv (aw_d q_Xm_printTerm 43 rfl) (sp_add5) vL_Xm_99_By rfl rfl rfl rfl rfl rfl ⟨aw_le rfl, aw_le rfl⟩ ?_
  refine aw_aload_n (aw_d q_Xm_printTerm 44 rfl) rfl rfl rfl ?_
  refine aw_iload_n (aw_d q_Xm_printTerm 45 rfl) rfl rfl ?_
  refine cVv (aw_d q_Xm_printTerm 46 rfl) (sp_Xm_printText hP hW ht) vL_Xm_102_Xm rfl rfl rfl rfl rfl rfl ⟨aw_le rfl, aw_le rfl⟩ ?_
  refine aw_aload_n (aw_d q_Xm_printTerm 47 rfl) rfl rfl rfl ?_
  refine aw_getf (aw_d q_Xm_printTerm 48 rfl) fL_Xm_15_Xm rfl rfl ?_
  refine aw_iload_n (aw_d q_Xm_printTerm 49 rfl) rfl rfl ?_
  refine cSr (aw_d q_Xm_printTerm 50 rfl) (sp_Xm_closing_1) sL_Xm_105 rfl rfl rfl rfl ⟨aw_le rfl, aw_le rfl⟩ ?_
  refine cVv (aw_d q_Xm_printTerm 51 rfl) (sp_addAll (by decide)) vL_Xm_25_By rfl rfl rfl rfl rfl rfl ⟨aw_le rfl, aw_le rfl⟩ ?_
  exact aw_vret (aw_d q_Xm_printTerm 52 rfl) rfl (⟨rfl, by simp [w_xt, hk]⟩)
set_option maxRecDepth 20000 in
theorem sp_Xm_printTerm_2 {g : aw_G} {S : aw_S} {O : List Int32} {P : xp_T} (hP : xp_C S P) (hW : xp_wd P) {t : Nat} (ht : t < xp_t P) (hk : xp_k P t = 2) : Sp g M_Xm_printTerm 6 130 0 0 [.ref 30, .int (nI t)] (HP (WS S O)) (fun r h => r = none ∧ h = HP (WS S (O ++ w_xt P t))) := by
  refine Sp.of rfl (aw_le rfl) ?_
  refine aw_aload_n (aw_d q_Xm_printTerm 0 rfl) rfl rfl rfl ?_
  refine aw_getf (aw_d q_Xm_printTerm 1 rfl) fL_Xm_19_Xm rfl rfl ?_
  refine aw_iload_n (aw_d q_Xm_printTerm 2 rfl) rfl rfl ?_
  refine cVr (aw_d q_Xm_printTerm 3 rfl) (sp_kind hP hW ht hk) vL_Xm_82_Te rfl rfl rfl rfl rfl rfl ⟨aw_le rfl, aw_le rfl⟩ ?_
  refine aw_istore_n (aw_d q_Xm_printTerm 4 rfl) rfl (aw_le rfl) rfl ?_
  refine aw_aload_n (aw_d q_Xm_printTerm 5 rfl) rfl rfl rfl ?_
  refine aw_getf (aw_d q_Xm_printTerm 6 rfl) fL_Xm_15_Xm rfl rfl ?_
  refine aw_iload_n (aw_d q_Xm_printTerm 7 rfl) rfl rfl ?_
  refine cSr (aw_d q_Xm_printTerm 8 rfl) (sp_Xm_opening_2) sL_Xm_88 rfl rfl rfl rfl ⟨aw_le rfl, aw_le rfl⟩ ?_
  refine cVv (aw_d q_Xm_printTerm 9 rfl) (sp_addAll (by decide)) vL_Xm_25_By rfl rfl rfl rfl rfl rfl ⟨aw_le rfl, aw_le rfl⟩ ?_
  refine aw_iload_n (aw_d q_Xm_printTerm 10 rfl) rfl rfl ?_
  refine aw_iconst (v := nI 3) (aw_d q_Xm_printTerm 11 rfl) (by decide) ?_
  refine aw_icmpN_ne (tgt := 34) (aw_d q_Xm_printTerm 12 rfl) (by decide) (by (have hz := (hW.2.2.2 t ht).2; have hz1 := hW.1; omega)) (by (have hz := (hW.2.2.2 t ht).2; have hz1 := hW.1; omega)) (fun c22 => ?_) (fun c22 => by exfalso; (have hz := (hW.2.2.2 t ht).2; have hz1 := hW.1; omega))
  refine aw_iload_n (aw_d q_Xm_printTerm 17 rfl) rfl rfl ?_
  refine aw_iconst (v := nI 4) (aw_d q_Xm_printTerm 18 rfl) (by decide) ?_
  refine aw_icmpN_ne (tgt := 48) (aw_d q_Xm_printTerm 19 rfl) (by decide) (by (have hz := (hW.2.2.2 t ht).2; have hz1 := hW.1; omega)) (by (have hz := (hW.2.2.2 t ht).2; have hz1 := hW.1; omega)) (fun c36 => ?_) (fun c36 => by exfalso; (have hz := (hW.2.2.2 t ht).2; have hz1 := hW.1; omega))
  refine aw_iload_n (aw_d q_Xm_printTerm 24 rfl) rfl rfl ?_
  refine aw_iconst (v := nI 3) (aw_d q_Xm_printTerm 25 rfl) (by decide) ?_
  refine aw_icmpN_eq (tgt := 58) (aw_d q_Xm_printTerm 26 rfl) (by decide) (by (have hz := (hW.2.2.2 t ht).2; have hz1 := hW.1; omega)) (by (have hz := (hW.2.2.2 t ht).2; have hz1 := hW.1; omega)) (fun c50 => by exfalso; (have hz := (hW.2.2.2 t ht).2; have hz1 := hW.1; omega)) (fun c50 => ?_)
  refine aw_iload_n (aw_d q_Xm_printTerm 27 rfl) rfl rfl ?_
  refine aw_iconst (v := nI 4) (aw_d q_Xm_printTerm 28 rfl) (by decide) ?_
  refine aw_icmpN_ne (tgt := 79) (aw_d q_Xm_printTerm 29 rfl) (by decide) (by (have hz := (hW.2.2.2 t ht).2; have hz1 := hW.1; omega)) (by (have hz := (hW.2.2.2 t ht).2; have hz1 := hW.1; omega)) (fun c55 => ?_) (fun c55 => by exfalso; (have hz := (hW.2.2.2 t ht).2; have hz1 := hW.1; omega))
  refine aw_aload_n (aw_d q_Xm_printTerm 40 rfl) rfl rfl rfl ?_
  refine aw_getf (aw_d q_Xm_printTerm 41 rfl) fL_Xm_15_Xm rfl rfl ?_
  refine aw_bipush (v := nI 62) (aw_d q_Xm_printTerm 42 rfl) (by decide) ?_
  refine cVv (aw_d q_Xm_printTerm 43 rfl) (sp_add5) vL_Xm_99_By rfl rfl rfl rfl rfl rfl ⟨aw_le rfl, aw_le rfl⟩ ?_
  refine aw_aload_n (aw_d q_Xm_printTerm 44 rfl) rfl rfl rfl ?_
  refine aw_iload_n (aw_d q_Xm_printTerm 45 rfl) rfl rfl ?_
  refine cVv (aw_d q_Xm_printTerm 46 rfl) (sp_Xm_printText hP hW ht) vL_Xm_102_Xm rfl rfl rfl rfl rfl rfl ⟨aw_le rfl, aw_le rfl⟩ ?_
  refine aw_aload_n (aw_d q_Xm_printTerm 47 rfl) rfl rfl rfl ?_
  refine aw_getf (aw_d q_Xm_printTerm 48 rfl) fL_Xm_15_Xm rfl rfl ?_
  refine aw_iload_n (aw_d q_Xm_printTerm 49 rfl) rfl rfl ?_
  refine cSr (aw_d q_Xm_printTerm 50 rfl) (sp_Xm_closing_2) sL_Xm_105 rfl rfl rfl rfl ⟨aw_le rfl, aw_le rfl⟩ ?_
  refine cVv (aw_d q_Xm_printTerm 51 rfl) (sp_addAll (by decide)) vL_Xm_25_By rfl rfl rfl rfl rfl rfl ⟨aw_le rfl, aw_le rfl⟩ ?_
  exact aw_vret (aw_d q_Xm_printTerm 52 rfl) rfl (⟨rfl, by simp [w_xt, hk]⟩)
set_option maxRecDepth 20000 in
theorem sp_Xm_printTerm_3 {g : aw_G} {S : aw_S} {O : List Int32} {P : xp_T} (hP : xp_C S P) (hW : xp_wd P) {t : Nat} (ht : t < xp_t P) (hk : xp_k P t = 3) : Sp g M_Xm_printTerm 6 130 0 0 [.ref 30, .int (nI t)] (HP (WS S O)) (fun r h => r = none ∧ h = HP (WS S (O ++ w_xt P t))) := by
  refine Sp.of rfl (aw_le rfl) ?_
  refine aw_aload_n (aw_d q_Xm_printTerm 0 rfl) rfl rfl rfl ?_
  refine aw_getf (aw_d q_Xm_printTerm 1 rfl) fL_Xm_19_Xm rfl rfl ?_
  refine aw_iload_n (aw_d q_Xm_printTerm 2 rfl) rfl rfl ?_
  refine cVr (aw_d q_Xm_printTerm 3 rfl) (sp_kind hP hW ht hk) vL_Xm_82_Te rfl rfl rfl rfl rfl rfl ⟨aw_le rfl, aw_le rfl⟩ ?_
  refine aw_istore_n (aw_d q_Xm_printTerm 4 rfl) rfl (aw_le rfl) rfl ?_
  refine aw_aload_n (aw_d q_Xm_printTerm 5 rfl) rfl rfl rfl ?_
  refine aw_getf (aw_d q_Xm_printTerm 6 rfl) fL_Xm_15_Xm rfl rfl ?_
  refine aw_iload_n (aw_d q_Xm_printTerm 7 rfl) rfl rfl ?_
  refine cSr (aw_d q_Xm_printTerm 8 rfl) (sp_Xm_opening_3) sL_Xm_88 rfl rfl rfl rfl ⟨aw_le rfl, aw_le rfl⟩ ?_
  refine cVv (aw_d q_Xm_printTerm 9 rfl) (sp_addAll (by decide)) vL_Xm_25_By rfl rfl rfl rfl rfl rfl ⟨aw_le rfl, aw_le rfl⟩ ?_
  refine aw_iload_n (aw_d q_Xm_printTerm 10 rfl) rfl rfl ?_
  refine aw_iconst (v := nI 3) (aw_d q_Xm_printTerm 11 rfl) (by decide) ?_
  refine aw_icmpN_ne (tgt := 34) (aw_d q_Xm_printTerm 12 rfl) (by decide) (by (have hz := (hW.2.2.2 t ht).2; have hz1 := hW.1; omega)) (by (have hz := (hW.2.2.2 t ht).2; have hz1 := hW.1; omega)) (fun c22 => by exfalso; (have hz := (hW.2.2.2 t ht).2; have hz1 := hW.1; omega)) (fun c22 => ?_)
  refine aw_aload_n (aw_d q_Xm_printTerm 13 rfl) rfl rfl rfl ?_
  refine aw_getf (aw_d q_Xm_printTerm 14 rfl) fL_Xm_15_Xm rfl rfl ?_
  refine aw_ldcS (aw_d q_Xm_printTerm 15 rfl) tL_Xm_92 ?_
  refine cVv (aw_d q_Xm_printTerm 16 rfl) (sp_addAll (by decide)) vL_Xm_25_By rfl rfl rfl rfl rfl rfl ⟨aw_le rfl, aw_le rfl⟩ ?_
  refine aw_iload_n (aw_d q_Xm_printTerm 17 rfl) rfl rfl ?_
  refine aw_iconst (v := nI 4) (aw_d q_Xm_printTerm 18 rfl) (by decide) ?_
  refine aw_icmpN_ne (tgt := 48) (aw_d q_Xm_printTerm 19 rfl) (by decide) (by (have hz := (hW.2.2.2 t ht).2; have hz1 := hW.1; omega)) (by (have hz := (hW.2.2.2 t ht).2; have hz1 := hW.1; omega)) (fun c36 => ?_) (fun c36 => by exfalso; (have hz := (hW.2.2.2 t ht).2; have hz1 := hW.1; omega))
  refine aw_iload_n (aw_d q_Xm_printTerm 24 rfl) rfl rfl ?_
  refine aw_iconst (v := nI 3) (aw_d q_Xm_printTerm 25 rfl) (by decide) ?_
  refine aw_icmpN_eq (tgt := 58) (aw_d q_Xm_printTerm 26 rfl) (by decide) (by (have hz := (hW.2.2.2 t ht).2; have hz1 := hW.1; omega)) (by (have hz := (hW.2.2.2 t ht).2; have hz1 := hW.1; omega)) (fun c50 => ?_) (fun c50 => by exfalso; (have hz := (hW.2.2.2 t ht).2; have hz1 := hW.1; omega))
  refine aw_aload_n (aw_d q_Xm_printTerm 30 rfl) rfl rfl rfl ?_
  refine aw_getf (aw_d q_Xm_printTerm 31 rfl) fL_Xm_19_Xm rfl rfl ?_
  refine aw_iload_n (aw_d q_Xm_printTerm 32 rfl) rfl rfl ?_
  refine aw_aload_n (aw_d q_Xm_printTerm 33 rfl) rfl rfl rfl ?_
  refine aw_getf (aw_d q_Xm_printTerm 34 rfl) fL_Xm_15_Xm rfl rfl ?_
  refine cVv (aw_d q_Xm_printTerm 35 rfl) (sp_printExtra hP hW ht (by omega)) vL_Xm_96_Te rfl rfl rfl rfl rfl rfl ⟨aw_le rfl, aw_le rfl⟩ ?_
  refine aw_aload_n (aw_d q_Xm_printTerm 36 rfl) rfl rfl rfl ?_
  refine aw_getf (aw_d q_Xm_printTerm 37 rfl) fL_Xm_15_Xm rfl rfl ?_
  refine aw_bipush (v := nI 34) (aw_d q_Xm_printTerm 38 rfl) (by decide) ?_
  refine cVv (aw_d q_Xm_printTerm 39 rfl) (sp_add5) vL_Xm_99_By rfl rfl rfl rfl rfl rfl ⟨aw_le rfl, aw_le rfl⟩ ?_
  refine aw_aload_n (aw_d q_Xm_printTerm 40 rfl) rfl rfl rfl ?_
  refine aw_getf (aw_d q_Xm_printTerm 41 rfl) fL_Xm_15_Xm rfl rfl ?_
  refine aw_bipush (v := nI 62) (aw_d q_Xm_printTerm 42 rfl) (by decide) ?_
  refine cVv (aw_d q_Xm_printTerm 43 rfl) (sp_add5) vL_Xm_99_By rfl rfl rfl rfl rfl rfl ⟨aw_le rfl, aw_le rfl⟩ ?_
  refine aw_aload_n (aw_d q_Xm_printTerm 44 rfl) rfl rfl rfl ?_
  refine aw_iload_n (aw_d q_Xm_printTerm 45 rfl) rfl rfl ?_
  refine cVv (aw_d q_Xm_printTerm 46 rfl) (sp_Xm_printText hP hW ht) vL_Xm_102_Xm rfl rfl rfl rfl rfl rfl ⟨aw_le rfl, aw_le rfl⟩ ?_
  refine aw_aload_n (aw_d q_Xm_printTerm 47 rfl) rfl rfl rfl ?_
  refine aw_getf (aw_d q_Xm_printTerm 48 rfl) fL_Xm_15_Xm rfl rfl ?_
  refine aw_iload_n (aw_d q_Xm_printTerm 49 rfl) rfl rfl ?_
  refine cSr (aw_d q_Xm_printTerm 50 rfl) (sp_Xm_closing_3) sL_Xm_105 rfl rfl rfl rfl ⟨aw_le rfl, aw_le rfl⟩ ?_
  refine cVv (aw_d q_Xm_printTerm 51 rfl) (sp_addAll (by decide)) vL_Xm_25_By rfl rfl rfl rfl rfl rfl ⟨aw_le rfl, aw_le rfl⟩ ?_
  exact aw_vret (aw_d q_Xm_printTerm 52 rfl) rfl (⟨rfl, by simp [w_xt, hk]⟩)
set_option maxRecDepth 20000 in
theorem sp_Xm_printTerm_4 {g : aw_G} {S : aw_S} {O : List Int32} {P : xp_T} (hP : xp_C S P) (hW : xp_wd P) {t : Nat} (ht : t < xp_t P) (hk : xp_k P t = 4) : Sp g M_Xm_printTerm 6 130 0 0 [.ref 30, .int (nI t)] (HP (WS S O)) (fun r h => r = none ∧ h = HP (WS S (O ++ w_xt P t))) := by
  refine Sp.of rfl (aw_le rfl) ?_
  refine aw_aload_n (aw_d q_Xm_printTerm 0 rfl) rfl rfl rfl ?_
  refine aw_getf (aw_d q_Xm_printTerm 1 rfl) fL_Xm_19_Xm rfl rfl ?_
  refine aw_iload_n (aw_d q_Xm_printTerm 2 rfl) rfl rfl ?_
  refine cVr (aw_d q_Xm_printTerm 3 rfl) (sp_kind hP hW ht hk) vL_Xm_82_Te rfl rfl rfl rfl rfl rfl ⟨aw_le rfl, aw_le rfl⟩ ?_
  refine aw_istore_n (aw_d q_Xm_printTerm 4 rfl) rfl (aw_le rfl) rfl ?_
  refine aw_aload_n (aw_d q_Xm_printTerm 5 rfl) rfl rfl rfl ?_
  refine aw_getf (aw_d q_Xm_printTerm 6 rfl) fL_Xm_15_Xm rfl rfl ?_
  refine aw_iload_n (aw_d q_Xm_printTerm 7 rfl) rfl rfl ?_
  refine cSr (aw_d q_Xm_printTerm 8 rfl) (sp_Xm_opening_4) sL_Xm_88 rfl rfl rfl rfl ⟨aw_le rfl, aw_le rfl⟩ ?_
  refine cVv (aw_d q_Xm_printTerm 9 rfl) (sp_addAll (by decide)) vL_Xm_25_By rfl rfl rfl rfl rfl rfl ⟨aw_le rfl, aw_le rfl⟩ ?_
  refine aw_iload_n (aw_d q_Xm_printTerm 10 rfl) rfl rfl ?_
  refine aw_iconst (v := nI 3) (aw_d q_Xm_printTerm 11 rfl) (by decide) ?_
  refine aw_icmpN_ne (tgt := 34) (aw_d q_Xm_printTerm 12 rfl) (by decide) (by (have hz := (hW.2.2.2 t ht).2; have hz1 := hW.1; omega)) (by (have hz := (hW.2.2.2 t ht).2; have hz1 := hW.1; omega)) (fun c22 => ?_) (fun c22 => by exfalso; (have hz := (hW.2.2.2 t ht).2; have hz1 := hW.1; omega))
  refine aw_iload_n (aw_d q_Xm_printTerm 17 rfl) rfl rfl ?_
  refine aw_iconst (v := nI 4) (aw_d q_Xm_printTerm 18 rfl) (by decide) ?_
  refine aw_icmpN_ne (tgt := 48) (aw_d q_Xm_printTerm 19 rfl) (by decide) (by (have hz := (hW.2.2.2 t ht).2; have hz1 := hW.1; omega)) (by (have hz := (hW.2.2.2 t ht).2; have hz1 := hW.1; omega)) (fun c36 => by exfalso; (have hz := (hW.2.2.2 t ht).2; have hz1 := hW.1; omega)) (fun c36 => ?_)
  refine aw_aload_n (aw_d q_Xm_printTerm 20 rfl) rfl rfl rfl ?_
  refine aw_getf (aw_d q_Xm_printTerm 21 rfl) fL_Xm_15_Xm rfl rfl ?_
  refine aw_ldcS (aw_d q_Xm_printTerm 22 rfl) tL_Xm_94 ?_
  refine cVv (aw_d q_Xm_printTerm 23 rfl) (sp_addAll (by decide)) vL_Xm_25_By rfl rfl rfl rfl rfl rfl ⟨aw_le rfl, aw_le rfl⟩ ?_
  refine aw_iload_n (aw_d q_Xm_printTerm 24 rfl) rfl rfl ?_
  refine aw_iconst (v := nI 3) (aw_d q_Xm_printTerm 25 rfl) (by decide) ?_
  refine aw_icmpN_eq (tgt := 58) (aw_d q_Xm_printTerm 26 rfl) (by decide) (by (have hz := (hW.2.2.2 t ht).2; have hz1 := hW.1; omega)) (by (have hz := (hW.2.2.2 t ht).2; have hz1 := hW.1; omega)) (fun c50 => by exfalso; (have hz := (hW.2.2.2 t ht).2; have hz1 := hW.1; omega)) (fun c50 => ?_)
  refine aw_iload_n (aw_d q_Xm_printTerm 27 rfl) rfl rfl ?_
  refine aw_iconst (v := nI 4) (aw_d q_Xm_printTerm 28 rfl) (by decide) ?_
  refine aw_icmpN_ne (tgt := 79) (aw_d q_Xm_printTerm 29 rfl) (by decide) (by (have hz := (hW.2.2.2 t ht).2; have hz1 := hW.1; omega)) (by (have hz := (hW.2.2.2 t ht).2; have hz1 := hW.1; omega)) (fun c55 => by exfalso; (have hz := (hW.2.2.2 t ht).2; have hz1 := hW.1; omega)) (fun c55 => ?_)
  refine aw_aload_n (aw_d q_Xm_printTerm 30 rfl) rfl rfl rfl ?_
  refine aw_getf (aw_d q_Xm_printTerm 31 rfl) fL_Xm_19_Xm rfl rfl ?_
  refine aw_iload_n (aw_d q_Xm_printTerm 32 rfl) rfl rfl ?_
  refine aw_aload_n (aw_d q_Xm_printTerm 33 rfl) rfl rfl rfl ?_
  refine aw_getf (aw_d q_Xm_printTerm 34 rfl) fL_Xm_15_Xm rfl rfl ?_
  refine cVv (aw_d q_Xm_printTerm 35 rfl) (sp_printExtra hP hW ht (by omega)) vL_Xm_96_Te rfl rfl rfl rfl rfl rfl ⟨aw_le rfl, aw_le rfl⟩ ?_
  refine aw_aload_n (aw_d q_Xm_printTerm 36 rfl) rfl rfl rfl ?_
  refine aw_getf (aw_d q_Xm_printTerm 37 rfl) fL_Xm_15_Xm rfl rfl ?_
  refine aw_bipush (v := nI 34) (aw_d q_Xm_printTerm 38 rfl) (by decide) ?_
  refine cVv (aw_d q_Xm_printTerm 39 rfl) (sp_add5) vL_Xm_99_By rfl rfl rfl rfl rfl rfl ⟨aw_le rfl, aw_le rfl⟩ ?_
  refine aw_aload_n (aw_d q_Xm_printTerm 40 rfl) rfl rfl rfl ?_
  refine aw_getf (aw_d q_Xm_printTerm 41 rfl) fL_Xm_15_Xm rfl rfl ?_
  refine aw_bipush (v := nI 62) (aw_d q_Xm_printTerm 42 rfl) (by decide) ?_
  refine cVv (aw_d q_Xm_printTerm 43 rfl) (sp_add5) vL_Xm_99_By rfl rfl rfl rfl rfl rfl ⟨aw_le rfl, aw_le rfl⟩ ?_
  refine aw_aload_n (aw_d q_Xm_printTerm 44 rfl) rfl rfl rfl ?_
  refine aw_iload_n (aw_d q_Xm_printTerm 45 rfl) rfl rfl ?_
  refine cVv (aw_d q_Xm_printTerm 46 rfl) (sp_Xm_printText hP hW ht) vL_Xm_102_Xm rfl rfl rfl rfl rfl rfl ⟨aw_le rfl, aw_le rfl⟩ ?_
  refine aw_aload_n (aw_d q_Xm_printTerm 47 rfl) rfl rfl rfl ?_
  refine aw_getf (aw_d q_Xm_printTerm 48 rfl) fL_Xm_15_Xm rfl rfl ?_
  refine aw_iload_n (aw_d q_Xm_printTerm 49 rfl) rfl rfl ?_
  refine cSr (aw_d q_Xm_printTerm 50 rfl) (sp_Xm_closing_4) sL_Xm_105 rfl rfl rfl rfl ⟨aw_le rfl, aw_le rfl⟩ ?_
  refine cVv (aw_d q_Xm_printTerm 51 rfl) (sp_addAll (by decide)) vL_Xm_25_By rfl rfl rfl rfl rfl rfl ⟨aw_le rfl, aw_le rfl⟩ ?_
  exact aw_vret (aw_d q_Xm_printTerm 52 rfl) rfl (⟨rfl, by simp [w_xt, hk]⟩)
theorem sp_Xm_printTerm {g : aw_G} {S : aw_S} {O : List Int32} {P : xp_T} (hP : xp_C S P) (hW : xp_wd P) {t : Nat} (ht : t < xp_t P) : Sp g M_Xm_printTerm 6 130 0 0 [.ref 30, .int (nI t)] (HP (WS S O)) (fun r h => r = none ∧ h = HP (WS S (O ++ w_xt P t))) := by
  rcases (show xp_k P t = 0 ∨ xp_k P t = 1 ∨ xp_k P t = 2 ∨ xp_k P t = 3 ∨ xp_k P t = 4 by have := (hW.2.2.2 t ht).1; omega) with h | h | h | h | h
  · exact sp_Xm_printTerm_0 hP hW ht h
  · exact sp_Xm_printTerm_1 hP hW ht h
  · exact sp_Xm_printTerm_2 hP hW ht h
  · exact sp_Xm_printTerm_3 hP hW ht h
  · exact sp_Xm_printTerm_4 hP hW ht h
set_option maxRecDepth 20000 in
theorem lp_Xm_printRow {g : aw_G} {S : aw_S} {O : List Int32} {P : xp_T} (hP : xp_C S P) (hW : xp_wd P) {r : Nat} (hr : r < xp_r P) : ∀ (m v : Nat) (Q : List Int32) (x4 : Option Value), m + v = xp_v P → Q ++ (catB (w_xc P r) m v ++ tx 45) = O ++ w_xr P r → AW g M_Xm_printRow (aw_rm 7 152 0 0) (aw_F g 0 0 (fun r1 h => r1 = none ∧ h = HP (WS S (O ++ w_xr P r)))) 11 [some (.ref 30), some (.ref 14), some (.int (nI r)), some (.int (nI v)), x4] [] (HP (WS S Q)) 0 0 := by
  intro m
  induction m with
  | zero =>
    intro v Q x4 hk e
    refine aw_iload_n (aw_d q_Xm_printRow 6 rfl) rfl rfl ?_
    refine aw_aload_n (aw_d q_Xm_printRow 7 rfl) rfl rfl rfl ?_
    refine aw_getf (v := .int (nI (xp_v P))) (aw_d q_Xm_printRow 8 rfl) fL_Xm_39_Tb rfl (gk hP.1.2.1) ?_
    refine aw_icmpN_ge (tgt := 84) (aw_d q_Xm_printRow 9 rfl) (by decide) (by (have hz1 := hW.1; omega)) (by (have hz1 := hW.1; omega)) (fun c16 => ?_) (fun c16 => by exfalso; (have hz1 := hW.1; omega))
    refine aw_aload_n (aw_d q_Xm_printRow 41 rfl) rfl rfl rfl ?_
    refine aw_getf (aw_d q_Xm_printRow 42 rfl) fL_Xm_15_Xm rfl rfl ?_
    refine aw_ldcS (aw_d q_Xm_printRow 43 rfl) tL_Xm_80 ?_
    refine cVv (aw_d q_Xm_printRow 44 rfl) (sp_addAll (by decide)) vL_Xm_25_By rfl rfl rfl rfl rfl rfl ⟨aw_le rfl, aw_le rfl⟩ ?_
    exact aw_vret (aw_d q_Xm_printRow 45 rfl) rfl (⟨rfl, by rw [← e]; simp [catB]⟩)
  | succ m ih =>
    intro v Q x4 hk e
    have hct : ∀ t, xp_c P r v = some t → t < xp_t P := fun t h => hW.2.2.1 r v t hr (by omega) h
    cases hc : xp_c P r v with
    | none =>
      refine aw_iload_n (aw_d q_Xm_printRow 6 rfl) rfl rfl ?_
      refine aw_aload_n (aw_d q_Xm_printRow 7 rfl) rfl rfl rfl ?_
      refine aw_getf (v := .int (nI (xp_v P))) (aw_d q_Xm_printRow 8 rfl) fL_Xm_39_Tb rfl (gk hP.1.2.1) ?_
      refine aw_icmpN_ge (tgt := 84) (aw_d q_Xm_printRow 9 rfl) (by decide) (by (have hz1 := hW.1; omega)) (by (have hz1 := hW.1; omega)) (fun c16 => by exfalso; (have hz1 := hW.1; omega)) (fun c16 => ?_)
      refine aw_aload_n (aw_d q_Xm_printRow 10 rfl) rfl rfl rfl ?_
      refine aw_iload_n (aw_d q_Xm_printRow 11 rfl) rfl rfl ?_
      refine aw_iload_n (aw_d q_Xm_printRow 12 rfl) rfl rfl ?_
      refine cVr (aw_d q_Xm_printRow 13 rfl) (sp_cell hP hW hr (v := v) (by omega) (x := -1) (by rw [hc]; rfl)) vL_Xm_66_Tb rfl rfl rfl rfl rfl rfl ⟨aw_le rfl, aw_le rfl⟩ ?_
      refine aw_istore (aw_d q_Xm_printRow 14 rfl) (aw_le rfl) rfl ?_
      refine aw_iload (aw_d q_Xm_printRow 15 rfl) rfl ?_
      refine aw_iconst (v := (-1)) (aw_d q_Xm_printRow 16 rfl) (by decide) ?_
      refine aw_icmpZ_ne (tgt := 36) (aw_d q_Xm_printRow 17 rfl) (by decide) (fun c30 => by exact absurd rfl c30) (fun c30 => ?_)
      refine aw_goto (tgt := 78) (aw_d q_Xm_printRow 18 rfl) (by decide) ?_
      refine aw_iinc (aw_d q_Xm_printRow 39 rfl) rfl (ii1 _) (aw_le rfl) rfl ?_
      refine aw_goto (tgt := 11) (aw_d q_Xm_printRow 40 rfl) (by decide) ?_
      exact ih (v + 1) _ _ (by omega) (by rw [← e]; simp [catB, w_xc, hc])
    | some t =>
      have ht := hct t hc
      refine aw_iload_n (aw_d q_Xm_printRow 6 rfl) rfl rfl ?_
      refine aw_aload_n (aw_d q_Xm_printRow 7 rfl) rfl rfl rfl ?_
      refine aw_getf (v := .int (nI (xp_v P))) (aw_d q_Xm_printRow 8 rfl) fL_Xm_39_Tb rfl (gk hP.1.2.1) ?_
      refine aw_icmpN_ge (tgt := 84) (aw_d q_Xm_printRow 9 rfl) (by decide) (by (have hz1 := hW.1; omega)) (by (have hz1 := hW.1; omega)) (fun c16 => by exfalso; (have hz1 := hW.1; omega)) (fun c16 => ?_)
      refine aw_aload_n (aw_d q_Xm_printRow 10 rfl) rfl rfl rfl ?_
      refine aw_iload_n (aw_d q_Xm_printRow 11 rfl) rfl rfl ?_
      refine aw_iload_n (aw_d q_Xm_printRow 12 rfl) rfl rfl ?_
      refine cVr (aw_d q_Xm_printRow 13 rfl) (sp_cell hP hW hr (v := v) (by omega) (x := nI t) (by rw [hc]; rfl)) vL_Xm_66_Tb rfl rfl rfl rfl rfl rfl ⟨aw_le rfl, aw_le rfl⟩ ?_
      refine aw_istore (aw_d q_Xm_printRow 14 rfl) (aw_le rfl) rfl ?_
      refine aw_iload (aw_d q_Xm_printRow 15 rfl) rfl ?_
      refine aw_iconst (v := (-1)) (aw_d q_Xm_printRow 16 rfl) (by decide) ?_
      refine aw_icmpJ_ne (tgt := 36) (aw_d q_Xm_printRow 17 rfl) (by decide) (by (have hz1 := hW.1; omega)) (fun c30 => ?_) (fun c30 => by have := nI_toInt (n := t) (by have := hW.1; omega); have h1 : (-1 : Int32).toInt = -1 := rfl; omega)
      refine aw_aload_n (aw_d q_Xm_printRow 19 rfl) rfl rfl rfl ?_
      refine aw_getf (aw_d q_Xm_printRow 20 rfl) fL_Xm_15_Xm rfl rfl ?_
      refine aw_ldcS (aw_d q_Xm_printRow 21 rfl) tL_Xm_70 ?_
      refine cVv (aw_d q_Xm_printRow 22 rfl) (sp_addAll (by decide)) vL_Xm_25_By rfl rfl rfl rfl rfl rfl ⟨aw_le rfl, aw_le rfl⟩ ?_
      refine aw_aload_n (aw_d q_Xm_printRow 23 rfl) rfl rfl rfl ?_
      refine aw_iload_n (aw_d q_Xm_printRow 24 rfl) rfl rfl ?_
      refine aw_aload_n (aw_d q_Xm_printRow 25 rfl) rfl rfl rfl ?_
      refine aw_getf (aw_d q_Xm_printRow 26 rfl) fL_Xm_15_Xm rfl rfl ?_
      refine cVv (aw_d q_Xm_printRow 27 rfl) (sp_printName hP hW (v := v) (by omega)) vL_Xm_47_Tb rfl rfl rfl rfl rfl rfl ⟨aw_le rfl, aw_le rfl⟩ ?_
      refine aw_aload_n (aw_d q_Xm_printRow 28 rfl) rfl rfl rfl ?_
      refine aw_getf (aw_d q_Xm_printRow 29 rfl) fL_Xm_15_Xm rfl rfl ?_
      refine aw_ldcS (aw_d q_Xm_printRow 30 rfl) tL_Xm_72 ?_
      refine cVv (aw_d q_Xm_printRow 31 rfl) (sp_addAll (by decide)) vL_Xm_25_By rfl rfl rfl rfl rfl rfl ⟨aw_le rfl, aw_le rfl⟩ ?_
      refine aw_aload_n (aw_d q_Xm_printRow 32 rfl) rfl rfl rfl ?_
      refine aw_iload (aw_d q_Xm_printRow 33 rfl) rfl ?_
      refine cVv (aw_d q_Xm_printRow 34 rfl) (sp_Xm_printTerm hP hW ht) vL_Xm_74_Xm rfl rfl rfl rfl rfl rfl ⟨aw_le rfl, aw_le rfl⟩ ?_
      refine aw_aload_n (aw_d q_Xm_printRow 35 rfl) rfl rfl rfl ?_
      refine aw_getf (aw_d q_Xm_printRow 36 rfl) fL_Xm_15_Xm rfl rfl ?_
      refine aw_ldcS (aw_d q_Xm_printRow 37 rfl) tL_Xm_78 ?_
      refine cVv (aw_d q_Xm_printRow 38 rfl) (sp_addAll (by decide)) vL_Xm_25_By rfl rfl rfl rfl rfl rfl ⟨aw_le rfl, aw_le rfl⟩ ?_
      refine aw_iinc (aw_d q_Xm_printRow 39 rfl) rfl (ii1 _) (aw_le rfl) rfl ?_
      refine aw_goto (tgt := 11) (aw_d q_Xm_printRow 40 rfl) (by decide) ?_
      exact ih (v + 1) _ _ (by omega) (by rw [← e]; simp [catB, w_xc, hc])
set_option maxRecDepth 20000 in
theorem sp_Xm_printRow {g : aw_G} {S : aw_S} {O : List Int32} {P : xp_T} (hP : xp_C S P) (hW : xp_wd P) {r : Nat} (hr : r < xp_r P) : Sp g M_Xm_printRow 7 152 0 0 [.ref 30, .ref 14, .int (nI r)] (HP (WS S O)) (fun r1 h => r1 = none ∧ h = HP (WS S (O ++ w_xr P r))) := by
  refine Sp.of rfl (aw_le rfl) ?_
  refine aw_aload_n (aw_d q_Xm_printRow 0 rfl) rfl rfl rfl ?_
  refine aw_getf (aw_d q_Xm_printRow 1 rfl) fL_Xm_15_Xm rfl rfl ?_
  refine aw_ldcS (aw_d q_Xm_printRow 2 rfl) tL_Xm_64 ?_
  refine cVv (aw_d q_Xm_printRow 3 rfl) (sp_addAll (by decide)) vL_Xm_25_By rfl rfl rfl rfl rfl rfl ⟨aw_le rfl, aw_le rfl⟩ ?_
  refine aw_iconst (v := nI 0) (aw_d q_Xm_printRow 4 rfl) (by decide) ?_
  refine aw_istore_n (aw_d q_Xm_printRow 5 rfl) rfl (aw_le rfl) rfl ?_
  exact lp_Xm_printRow hP hW hr (xp_v P) 0 _ _ (by omega) (by simp [w_xr])
set_option maxRecDepth 20000 in
theorem lp_Xm_print2 {g : aw_G} {S : aw_S} {O : List Int32} {P : xp_T} (hP : xp_C S P) (hW : xp_wd P) : ∀ (m r : Nat) (Q : List Int32), m + r = xp_r P → Q ++ (catB (w_xr P) m r ++ tx 46) = O ++ w_x P → AW g M_Xm_print (aw_rm 8 176 0 0) (aw_F g 0 0 (fun r1 h => r1 = none ∧ h = HP (WS S (O ++ w_x P)))) 63 [some (.ref 30), some (.ref 14), some (.int (nI r))] [] (HP (WS S Q)) 0 0 := by
  intro m
  induction m with
  | zero =>
    intro r Q hk e
    refine aw_iload_n (aw_d q_Xm_print 31 rfl) rfl rfl ?_
    refine aw_aload_n (aw_d q_Xm_print 32 rfl) rfl rfl rfl ?_
    refine aw_getf (v := .int (nI (xp_r P))) (aw_d q_Xm_print 33 rfl) fL_Xm_55_Tb rfl (gk hP.1.2.2) ?_
    refine aw_icmpN_ge (tgt := 83) (aw_d q_Xm_print 34 rfl) (by decide) (by (have hz1 := hW.1; omega)) (by (have hz1 := hW.1; omega)) (fun c68 => ?_) (fun c68 => by exfalso; (have hz1 := hW.1; omega))
    refine aw_aload_n (aw_d q_Xm_print 41 rfl) rfl rfl rfl ?_
    refine aw_getf (aw_d q_Xm_print 42 rfl) fL_Xm_15_Xm rfl rfl ?_
    refine aw_ldcS (aw_d q_Xm_print 43 rfl) tL_Xm_62 ?_
    refine cVv (aw_d q_Xm_print 44 rfl) (sp_addAll (by decide)) vL_Xm_25_By rfl rfl rfl rfl rfl rfl ⟨aw_le rfl, aw_le rfl⟩ ?_
    exact aw_vret (aw_d q_Xm_print 45 rfl) rfl (⟨rfl, by rw [← e]; simp [catB]⟩)
  | succ m ih =>
    intro r Q hk e
    refine aw_iload_n (aw_d q_Xm_print 31 rfl) rfl rfl ?_
    refine aw_aload_n (aw_d q_Xm_print 32 rfl) rfl rfl rfl ?_
    refine aw_getf (v := .int (nI (xp_r P))) (aw_d q_Xm_print 33 rfl) fL_Xm_55_Tb rfl (gk hP.1.2.2) ?_
    refine aw_icmpN_ge (tgt := 83) (aw_d q_Xm_print 34 rfl) (by decide) (by (have hz1 := hW.1; omega)) (by (have hz1 := hW.1; omega)) (fun c68 => by exfalso; (have hz1 := hW.1; omega)) (fun c68 => ?_)
    refine aw_aload_n (aw_d q_Xm_print 35 rfl) rfl rfl rfl ?_
    refine aw_aload_n (aw_d q_Xm_print 36 rfl) rfl rfl rfl ?_
    refine aw_iload_n (aw_d q_Xm_print 37 rfl) rfl rfl ?_
    refine cVv (aw_d q_Xm_print 38 rfl) (sp_Xm_printRow hP hW (r := r) (by omega)) vL_Xm_58_Xm rfl rfl rfl rfl rfl rfl ⟨aw_le rfl, aw_le rfl⟩ ?_
    refine aw_iinc (aw_d q_Xm_print 39 rfl) rfl (ii1 _) (aw_le rfl) rfl ?_
    refine aw_goto (tgt := 63) (aw_d q_Xm_print 40 rfl) (by decide) ?_
    exact ih (r + 1) _ (by omega) (by rw [← e]; simp [catB, w_se])
set_option maxRecDepth 20000 in
theorem lp_Xm_print1 {g : aw_G} {S : aw_S} {O : List Int32} {P : xp_T} (hP : xp_C S P) (hW : xp_wd P) : ∀ (m v : Nat) (Q : List Int32), m + v = xp_v P → Q ++ (catB (fun v => tx 26 ++ (w_n P v ++ tx 27)) m v ++ (tx 28 ++ (catB (w_xr P) (xp_r P) 0 ++ tx 46))) = O ++ w_x P → AW g M_Xm_print (aw_rm 8 176 0 0) (aw_F g 0 0 (fun r1 h => r1 = none ∧ h = HP (WS S (O ++ w_x P)))) 11 [some (.ref 30), some (.ref 14), some (.int (nI v))] [] (HP (WS S Q)) 0 0 := by
  intro m
  induction m with
  | zero =>
    intro v Q hk e
    refine aw_iload_n (aw_d q_Xm_print 6 rfl) rfl rfl ?_
    refine aw_aload_n (aw_d q_Xm_print 7 rfl) rfl rfl rfl ?_
    refine aw_getf (v := .int (nI (xp_v P))) (aw_d q_Xm_print 8 rfl) fL_Xm_39_Tb rfl (gk hP.1.2.1) ?_
    refine aw_icmpN_ge (tgt := 52) (aw_d q_Xm_print 9 rfl) (by decide) (by (have hz1 := hW.1; omega)) (by (have hz1 := hW.1; omega)) (fun c16 => ?_) (fun c16 => by exfalso; (have hz1 := hW.1; omega))
    refine aw_aload_n (aw_d q_Xm_print 25 rfl) rfl rfl rfl ?_
    refine aw_getf (aw_d q_Xm_print 26 rfl) fL_Xm_15_Xm rfl rfl ?_
    refine aw_ldcS (aw_d q_Xm_print 27 rfl) tL_Xm_53 ?_
    refine cVv (aw_d q_Xm_print 28 rfl) (sp_addAll (by decide)) vL_Xm_25_By rfl rfl rfl rfl rfl rfl ⟨aw_le rfl, aw_le rfl⟩ ?_
    refine aw_iconst (v := nI 0) (aw_d q_Xm_print 29 rfl) (by decide) ?_
    refine aw_istore_n (aw_d q_Xm_print 30 rfl) rfl (aw_le rfl) rfl ?_
    exact lp_Xm_print2 hP hW (xp_r P) 0 _ (by omega) (by rw [← e]; simp [catB])
  | succ m ih =>
    intro v Q hk e
    refine aw_iload_n (aw_d q_Xm_print 6 rfl) rfl rfl ?_
    refine aw_aload_n (aw_d q_Xm_print 7 rfl) rfl rfl rfl ?_
    refine aw_getf (v := .int (nI (xp_v P))) (aw_d q_Xm_print 8 rfl) fL_Xm_39_Tb rfl (gk hP.1.2.1) ?_
    refine aw_icmpN_ge (tgt := 52) (aw_d q_Xm_print 9 rfl) (by decide) (by (have hz1 := hW.1; omega)) (by (have hz1 := hW.1; omega)) (fun c16 => by exfalso; (have hz1 := hW.1; omega)) (fun c16 => ?_)
    refine aw_aload_n (aw_d q_Xm_print 10 rfl) rfl rfl rfl ?_
    refine aw_getf (aw_d q_Xm_print 11 rfl) fL_Xm_15_Xm rfl rfl ?_
    refine aw_ldcS (aw_d q_Xm_print 12 rfl) tL_Xm_45 ?_
    refine cVv (aw_d q_Xm_print 13 rfl) (sp_addAll (by decide)) vL_Xm_25_By rfl rfl rfl rfl rfl rfl ⟨aw_le rfl, aw_le rfl⟩ ?_
    refine aw_aload_n (aw_d q_Xm_print 14 rfl) rfl rfl rfl ?_
    refine aw_iload_n (aw_d q_Xm_print 15 rfl) rfl rfl ?_
    refine aw_aload_n (aw_d q_Xm_print 16 rfl) rfl rfl rfl ?_
    refine aw_getf (aw_d q_Xm_print 17 rfl) fL_Xm_15_Xm rfl rfl ?_
    refine cVv (aw_d q_Xm_print 18 rfl) (sp_printName hP hW (v := v) (by omega)) vL_Xm_47_Tb rfl rfl rfl rfl rfl rfl ⟨aw_le rfl, aw_le rfl⟩ ?_
    refine aw_aload_n (aw_d q_Xm_print 19 rfl) rfl rfl rfl ?_
    refine aw_getf (aw_d q_Xm_print 20 rfl) fL_Xm_15_Xm rfl rfl ?_
    refine aw_ldcS (aw_d q_Xm_print 21 rfl) tL_Xm_51 ?_
    refine cVv (aw_d q_Xm_print 22 rfl) (sp_addAll (by decide)) vL_Xm_25_By rfl rfl rfl rfl rfl rfl ⟨aw_le rfl, aw_le rfl⟩ ?_
    refine aw_iinc (aw_d q_Xm_print 23 rfl) rfl (ii1 _) (aw_le rfl) rfl ?_
    refine aw_goto (tgt := 11) (aw_d q_Xm_print 24 rfl) (by decide) ?_
    exact ih (v + 1) _ (by omega) (by rw [← e]; simp [catB, w_se])
set_option maxRecDepth 20000 in
theorem sp_Xm_print {g : aw_G} {S : aw_S} {O : List Int32} {P : xp_T} (hP : xp_C S P) (hW : xp_wd P) : Sp g M_Xm_print 8 176 0 0 [.ref 30, .ref 14] (HP (WS S O)) (fun r h => r = none ∧ h = HP (WS S (O ++ w_x P))) := by
  refine Sp.of rfl (aw_le rfl) ?_
  refine aw_aload_n (aw_d q_Xm_print 0 rfl) rfl rfl rfl ?_
  refine aw_getf (aw_d q_Xm_print 1 rfl) fL_Xm_15_Xm rfl rfl ?_
  refine aw_ldcS (aw_d q_Xm_print 2 rfl) tL_Xm_37 ?_
  refine cVv (aw_d q_Xm_print 3 rfl) (sp_addAll (by decide)) vL_Xm_25_By rfl rfl rfl rfl rfl rfl ⟨aw_le rfl, aw_le rfl⟩ ?_
  refine aw_iconst (v := nI 0) (aw_d q_Xm_print 4 rfl) (by decide) ?_
  refine aw_istore_n (aw_d q_Xm_print 5 rfl) rfl (aw_le rfl) rfl ?_
  exact lp_Xm_print1 hP hW (xp_v P) 0 _ (by omega) (by simp [w_x])
theorem w_qu_lp {P : xp_T} {t : Nat} (h0 : ¬ xp_l P t = 0) (h1 : ¬ (1 < xp_l P t ∧ (xp_b P t 0).toInt = 95 ∧ (xp_b P t 1).toInt = 58)) : w_qu P t = !(allB (fun b => !(w_q1 b)) (xp_b P t) (xp_l P t) 0) := by
  simp only [w_qu]
  rw [decide_eq_false h0, decide_eq_false h1]
  rfl
theorem w_qu_1 {P : xp_T} {t : Nat} (h0 : xp_l P t = 0) : w_qu P t = true := by
  simp only [w_qu]
  rw [decide_eq_true h0]
  rfl
theorem w_qu_2 {P : xp_T} {t : Nat} (h1 : 1 < xp_l P t ∧ (xp_b P t 0).toInt = 95 ∧ (xp_b P t 1).toInt = 58) : w_qu P t = true := by
  simp only [w_qu]
  rw [decide_eq_true h1]
  simp
set_option maxRecDepth 20000 in
theorem lp_Cm_needsQuotes {g : aw_G} {S : aw_S} {O : List Int32} {P : xp_T} (hP : xp_C S P) (hW : xp_wd P) {t : Nat} (ht : t < xp_t P) : ∀ (m k : Nat) (x3 : Option Value), m + k = xp_l P t → w_qu P t = !(allB (fun b => !(w_q1 b)) (xp_b P t) m k) → AW g M_Cm_needsQuotes (aw_rm 1 22 0 0) (aw_F g 0 0 (fun r1 h => r1 = some (.int (if w_qu P t = true then nI 1 else nI 0)) ∧ h = HP (WS S O))) 45 [some (.ref 31), some (.int (nI t)), some (.int (nI k)), x3] [] (HP (WS S O)) 0 0 := by
  intro m
  induction m with
  | zero =>
    intro k x3 hk e
    refine aw_iload_n (aw_d q_Cm_needsQuotes 25 rfl) rfl rfl ?_
    refine aw_aload_n (aw_d q_Cm_needsQuotes 26 rfl) rfl rfl rfl ?_
    refine aw_getf (aw_d q_Cm_needsQuotes 27 rfl) fL_Cm_13_Cm rfl rfl ?_
    refine aw_iload_n (aw_d q_Cm_needsQuotes 28 rfl) rfl rfl ?_
    refine cVr (aw_d q_Cm_needsQuotes 29 rfl) (sp_len hP hW ht) vL_Cm_49_Te rfl rfl rfl rfl rfl rfl ⟨aw_le rfl, aw_le rfl⟩ ?_
    refine aw_icmpN_ge (tgt := 99) (aw_d q_Cm_needsQuotes 30 rfl) (by decide) (by (have hz := (hW.2.2.2 t ht).2; have hz1 := hW.1; omega)) (by (have hz := (hW.2.2.2 t ht).2; have hz1 := hW.1; omega)) (fun c54 => ?_) (fun c54 => by exfalso; (have hz := (hW.2.2.2 t ht).2; have hz1 := hW.1; omega))
    refine aw_iconst (v := nI 0) (aw_d q_Cm_needsQuotes 53 rfl) (by decide) ?_
    exact aw_zret (aw_d q_Cm_needsQuotes 54 rfl) rfl (rfl) (⟨by rw [if_neg (by rw [e]; exact Bool.false_ne_true)], rfl⟩)
  | succ m ih =>
    intro k x3 hk e
    refine aw_iload_n (aw_d q_Cm_needsQuotes 25 rfl) rfl rfl ?_
    refine aw_aload_n (aw_d q_Cm_needsQuotes 26 rfl) rfl rfl rfl ?_
    refine aw_getf (aw_d q_Cm_needsQuotes 27 rfl) fL_Cm_13_Cm rfl rfl ?_
    refine aw_iload_n (aw_d q_Cm_needsQuotes 28 rfl) rfl rfl ?_
    refine cVr (aw_d q_Cm_needsQuotes 29 rfl) (sp_len hP hW ht) vL_Cm_49_Te rfl rfl rfl rfl rfl rfl ⟨aw_le rfl, aw_le rfl⟩ ?_
    refine aw_icmpN_ge (tgt := 99) (aw_d q_Cm_needsQuotes 30 rfl) (by decide) (by (have hz := (hW.2.2.2 t ht).2; have hz1 := hW.1; omega)) (by (have hz := (hW.2.2.2 t ht).2; have hz1 := hW.1; omega)) (fun c54 => by exfalso; (have hz := (hW.2.2.2 t ht).2; have hz1 := hW.1; omega)) (fun c54 => ?_)
    refine aw_aload_n (aw_d q_Cm_needsQuotes 31 rfl) rfl rfl rfl ?_
    refine aw_getf (aw_d q_Cm_needsQuotes 32 rfl) fL_Cm_13_Cm rfl rfl ?_
    refine aw_iload_n (aw_d q_Cm_needsQuotes 33 rfl) rfl rfl ?_
    refine aw_iload_n (aw_d q_Cm_needsQuotes 34 rfl) rfl rfl ?_
    refine cVr (aw_d q_Cm_needsQuotes 35 rfl) (sp_byte hP hW ht (by omega)) vL_Cm_52_Te rfl rfl rfl rfl rfl rfl ⟨aw_le rfl, aw_le rfl⟩ ?_
    refine aw_istore_n (aw_d q_Cm_needsQuotes 36 rfl) rfl (aw_le rfl) rfl ?_
    refine aw_iload_n (aw_d q_Cm_needsQuotes 37 rfl) rfl rfl ?_
    refine aw_bipush (v := nI 44) (aw_d q_Cm_needsQuotes 38 rfl) (by decide) ?_
    refine aw_icmpI_eq (tgt := 91) (aw_d q_Cm_needsQuotes 39 rfl) (by decide) (by (have hz := (hW.2.2.2 t ht).2; have hz1 := hW.1; omega)) (fun c70 => ?_) (fun c70 => ?_)
    · refine aw_iconst (v := nI 1) (aw_d q_Cm_needsQuotes 49 rfl) (by decide) ?_
      exact aw_zret (aw_d q_Cm_needsQuotes 50 rfl) rfl (rfl) (⟨by rw [if_pos (by rw [e]; simp only [allB, w_q1]; first | (simp [c70]; done) | (simp [c76]; done) | (simp [c82]; done) | (simp [c88]; done))], rfl⟩)
    · refine aw_iload_n (aw_d q_Cm_needsQuotes 40 rfl) rfl rfl ?_
      refine aw_bipush (v := nI 34) (aw_d q_Cm_needsQuotes 41 rfl) (by decide) ?_
      refine aw_icmpI_eq (tgt := 91) (aw_d q_Cm_needsQuotes 42 rfl) (by decide) (by (have hz := (hW.2.2.2 t ht).2; have hz1 := hW.1; omega)) (fun c76 => ?_) (fun c76 => ?_)
      · refine aw_iconst (v := nI 1) (aw_d q_Cm_needsQuotes 49 rfl) (by decide) ?_
        exact aw_zret (aw_d q_Cm_needsQuotes 50 rfl) rfl (rfl) (⟨by rw [if_pos (by rw [e]; simp only [allB, w_q1]; first | (simp [c70]; done) | (simp [c76]; done) | (simp [c82]; done) | (simp [c88]; done))], rfl⟩)
      · refine aw_iload_n (aw_d q_Cm_needsQuotes 43 rfl) rfl rfl ?_
        refine aw_bipush (v := nI 10) (aw_d q_Cm_needsQuotes 44 rfl) (by decide) ?_
        refine aw_icmpI_eq (tgt := 91) (aw_d q_Cm_needsQuotes 45 rfl) (by decide) (by (have hz := (hW.2.2.2 t ht).2; have hz1 := hW.1; omega)) (fun c82 => ?_) (fun c82 => ?_)
        · refine aw_iconst (v := nI 1) (aw_d q_Cm_needsQuotes 49 rfl) (by decide) ?_
          exact aw_zret (aw_d q_Cm_needsQuotes 50 rfl) rfl (rfl) (⟨by rw [if_pos (by rw [e]; simp only [allB, w_q1]; first | (simp [c70]; done) | (simp [c76]; done) | (simp [c82]; done) | (simp [c88]; done))], rfl⟩)
        · refine aw_iload_n (aw_d q_Cm_needsQuotes 46 rfl) rfl rfl ?_
          refine aw_bipush (v := nI 13) (aw_d q_Cm_needsQuotes 47 rfl) (by decide) ?_
          refine aw_icmpI_ne (tgt := 93) (aw_d q_Cm_needsQuotes 48 rfl) (by decide) (by (have hz := (hW.2.2.2 t ht).2; have hz1 := hW.1; omega)) (fun c88 => ?_) (fun c88 => ?_)
          · refine aw_iinc (aw_d q_Cm_needsQuotes 51 rfl) rfl (ii1 _) (aw_le rfl) rfl ?_
            refine aw_goto (tgt := 45) (aw_d q_Cm_needsQuotes 52 rfl) (by decide) ?_
            exact ih (k + 1) _ (by omega) (by rw [e]; simp only [allB]; rw [show w_q1 (xp_b P t k) = false from decide_eq_false (by omega)]; rfl)
          · refine aw_iconst (v := nI 1) (aw_d q_Cm_needsQuotes 49 rfl) (by decide) ?_
            exact aw_zret (aw_d q_Cm_needsQuotes 50 rfl) rfl (rfl) (⟨by rw [if_pos (by rw [e]; simp only [allB, w_q1]; first | (simp [c70]; done) | (simp [c76]; done) | (simp [c82]; done) | (simp [c88]; done))], rfl⟩)
set_option maxRecDepth 20000 in
theorem sp_needsQuotes {g : aw_G} {S : aw_S} {O : List Int32} {P : xp_T} (hP : xp_C S P) (hW : xp_wd P) {t : Nat} (ht : t < xp_t P) : Sp g M_Cm_needsQuotes 1 22 0 0 [.ref 31, .int (nI t)] (HP (WS S O)) (fun r1 h => r1 = some (.int (if w_qu P t = true then nI 1 else nI 0)) ∧ h = HP (WS S O)) := by
  refine Sp.of rfl (aw_le rfl) ?_
  by_cases h2 : 1 < xp_l P t
  · refine aw_aload_n (aw_d q_Cm_needsQuotes 0 rfl) rfl rfl rfl ?_
    refine aw_getf (aw_d q_Cm_needsQuotes 1 rfl) fL_Cm_13_Cm rfl rfl ?_
    refine aw_iload_n (aw_d q_Cm_needsQuotes 2 rfl) rfl rfl ?_
    refine cVr (aw_d q_Cm_needsQuotes 3 rfl) (sp_len hP hW ht) vL_Cm_49_Te rfl rfl rfl rfl rfl rfl ⟨aw_le rfl, aw_le rfl⟩ ?_
    refine aw_ifN_ne (tgt := 13) (aw_d q_Cm_needsQuotes 4 rfl) (by decide) (by (have hz := (hW.2.2.2 t ht).2; have hz1 := hW.1; omega)) (fun c8 => ?_) (fun c8 => ?_)
    · refine aw_aload_n (aw_d q_Cm_needsQuotes 7 rfl) rfl rfl rfl ?_
      refine aw_getf (aw_d q_Cm_needsQuotes 8 rfl) fL_Cm_13_Cm rfl rfl ?_
      refine aw_iload_n (aw_d q_Cm_needsQuotes 9 rfl) rfl rfl ?_
      refine aw_iconst (v := nI 0) (aw_d q_Cm_needsQuotes 10 rfl) (by decide) ?_
      refine cVr (aw_d q_Cm_needsQuotes 11 rfl) (sp_byte hP hW ht (k := 0) (by omega)) vL_Cm_52_Te rfl rfl rfl rfl rfl rfl ⟨aw_le rfl, aw_le rfl⟩ ?_
      refine aw_bipush (v := nI 95) (aw_d q_Cm_needsQuotes 12 rfl) (by decide) ?_
      refine aw_icmpI_ne (tgt := 43) (aw_d q_Cm_needsQuotes 13 rfl) (by decide) (by (have hz := (hW.2.2.2 t ht).2; have hz1 := hW.1; omega)) (fun c24 => ?_) (fun c24 => ?_)
      · refine aw_iconst (v := nI 0) (aw_d q_Cm_needsQuotes 23 rfl) (by decide) ?_
        refine aw_istore_n (aw_d q_Cm_needsQuotes 24 rfl) rfl (aw_le rfl) rfl ?_
        exact lp_Cm_needsQuotes hP hW ht _ 0 _ (by omega) (w_qu_lp c8 (fun q => by omega))
      · refine aw_aload_n (aw_d q_Cm_needsQuotes 14 rfl) rfl rfl rfl ?_
        refine aw_getf (aw_d q_Cm_needsQuotes 15 rfl) fL_Cm_13_Cm rfl rfl ?_
        refine aw_iload_n (aw_d q_Cm_needsQuotes 16 rfl) rfl rfl ?_
        refine aw_iconst (v := nI 1) (aw_d q_Cm_needsQuotes 17 rfl) (by decide) ?_
        refine cVr (aw_d q_Cm_needsQuotes 18 rfl) (sp_byte hP hW ht (k := 1) (by omega)) vL_Cm_52_Te rfl rfl rfl rfl rfl rfl ⟨aw_le rfl, aw_le rfl⟩ ?_
        refine aw_bipush (v := nI 58) (aw_d q_Cm_needsQuotes 19 rfl) (by decide) ?_
        refine aw_icmpI_ne (tgt := 43) (aw_d q_Cm_needsQuotes 20 rfl) (by decide) (by (have hz := (hW.2.2.2 t ht).2; have hz1 := hW.1; omega)) (fun c38 => ?_) (fun c38 => ?_)
        · refine aw_iconst (v := nI 0) (aw_d q_Cm_needsQuotes 23 rfl) (by decide) ?_
          refine aw_istore_n (aw_d q_Cm_needsQuotes 24 rfl) rfl (aw_le rfl) rfl ?_
          exact lp_Cm_needsQuotes hP hW ht _ 0 _ (by omega) (w_qu_lp c8 (fun q => by omega))
        · refine aw_iconst (v := nI 1) (aw_d q_Cm_needsQuotes 21 rfl) (by decide) ?_
          exact aw_zret (aw_d q_Cm_needsQuotes 22 rfl) rfl (rfl) (⟨by rw [if_pos (w_qu_2 ⟨by omega, c24, c38⟩)], rfl⟩)
    · refine aw_iconst (v := nI 1) (aw_d q_Cm_needsQuotes 5 rfl) (by decide) ?_
      exact aw_zret (aw_d q_Cm_needsQuotes 6 rfl) rfl (rfl) (⟨by rw [if_pos (w_qu_1 c8)], rfl⟩)
  · refine aw_aload_n (aw_d q_Cm_needsQuotes 0 rfl) rfl rfl rfl ?_
    refine aw_getf (aw_d q_Cm_needsQuotes 1 rfl) fL_Cm_13_Cm rfl rfl ?_
    refine aw_iload_n (aw_d q_Cm_needsQuotes 2 rfl) rfl rfl ?_
    refine cVr (aw_d q_Cm_needsQuotes 3 rfl) (sp_len hP hW ht) vL_Cm_49_Te rfl rfl rfl rfl rfl rfl ⟨aw_le rfl, aw_le rfl⟩ ?_
    refine aw_ifN_ne (tgt := 13) (aw_d q_Cm_needsQuotes 4 rfl) (by decide) (by (have hz := (hW.2.2.2 t ht).2; have hz1 := hW.1; omega)) (fun c8 => ?_) (fun c8 => ?_)
    · refine aw_aload_n (aw_d q_Cm_needsQuotes 7 rfl) rfl rfl rfl ?_
      refine aw_getf (aw_d q_Cm_needsQuotes 8 rfl) fL_Cm_13_Cm rfl rfl ?_
      refine aw_iload_n (aw_d q_Cm_needsQuotes 9 rfl) rfl rfl ?_
      refine aw_iconst (v := nI 0) (aw_d q_Cm_needsQuotes 10 rfl) (by decide) ?_
      refine cVr (aw_d q_Cm_needsQuotes 11 rfl) (sp_byte hP hW ht (k := 0) (by omega)) vL_Cm_52_Te rfl rfl rfl rfl rfl rfl ⟨aw_le rfl, aw_le rfl⟩ ?_
      refine aw_bipush (v := nI 95) (aw_d q_Cm_needsQuotes 12 rfl) (by decide) ?_
      refine aw_icmpI_ne (tgt := 43) (aw_d q_Cm_needsQuotes 13 rfl) (by decide) (by (have hz := (hW.2.2.2 t ht).2; have hz1 := hW.1; omega)) (fun c24 => ?_) (fun c24 => ?_)
      · refine aw_iconst (v := nI 0) (aw_d q_Cm_needsQuotes 23 rfl) (by decide) ?_
        refine aw_istore_n (aw_d q_Cm_needsQuotes 24 rfl) rfl (aw_le rfl) rfl ?_
        exact lp_Cm_needsQuotes hP hW ht _ 0 _ (by omega) (w_qu_lp c8 (fun q => by omega))
      · refine aw_aload_n (aw_d q_Cm_needsQuotes 14 rfl) rfl rfl rfl ?_
        refine aw_getf (aw_d q_Cm_needsQuotes 15 rfl) fL_Cm_13_Cm rfl rfl ?_
        refine aw_iload_n (aw_d q_Cm_needsQuotes 16 rfl) rfl rfl ?_
        refine aw_iconst (v := nI 1) (aw_d q_Cm_needsQuotes 17 rfl) (by decide) ?_
        refine cVr (aw_d q_Cm_needsQuotes 18 rfl) (sp_byteN hP hW ht (k := 1) (by omega) (by omega)) vL_Cm_52_Te rfl rfl rfl rfl rfl rfl ⟨aw_le rfl, aw_le rfl⟩ ?_
        refine aw_bipush (v := nI 58) (aw_d q_Cm_needsQuotes 19 rfl) (by decide) ?_
        refine aw_icmpI_ne (tgt := 43) (aw_d q_Cm_needsQuotes 20 rfl) (by decide) (by (have hz := (hW.2.2.2 t ht).2; have hz1 := hW.1; omega)) (fun c38 => ?_) (fun c38 => by have h1 : (-1 : Int32).toInt = -1 := rfl; omega)
        refine aw_iconst (v := nI 0) (aw_d q_Cm_needsQuotes 23 rfl) (by decide) ?_
        refine aw_istore_n (aw_d q_Cm_needsQuotes 24 rfl) rfl (aw_le rfl) rfl ?_
        exact lp_Cm_needsQuotes hP hW ht _ 0 _ (by omega) (w_qu_lp c8 (fun q => by omega))
    · refine aw_iconst (v := nI 1) (aw_d q_Cm_needsQuotes 5 rfl) (by decide) ?_
      exact aw_zret (aw_d q_Cm_needsQuotes 6 rfl) rfl (rfl) (⟨by rw [if_pos (w_qu_1 c8)], rfl⟩)
set_option maxRecDepth 20000 in
theorem lp_Cm_printQuoted {g : aw_G} {S : aw_S} {O : List Int32} {P : xp_T} (hP : xp_C S P) (hW : xp_wd P) {t : Nat} (ht : t < xp_t P) : ∀ (m k : Nat) (Q : List Int32) (x3 : Option Value), m + k = xp_l P t → Q ++ (catB (fun i => w_3 (xp_b P t i)) m k ++ [nI 34]) = O ++ (nI 34 :: (w_t w_3 P t ++ [nI 34])) → AW g M_Cm_printQuoted (aw_rm 1 22 0 0) (aw_F g 0 0 (fun r1 h => r1 = none ∧ h = HP (WS S (O ++ (nI 34 :: (w_t w_3 P t ++ [nI 34])))))) 11 [some (.ref 31), some (.int (nI t)), some (.int (nI k)), x3] [] (HP (WS S Q)) 0 0 := by
  intro m
  induction m with
  | zero =>
    intro k Q x3 hk e
    refine aw_iload_n (aw_d q_Cm_printQuoted 6 rfl) rfl rfl ?_
    refine aw_aload_n (aw_d q_Cm_printQuoted 7 rfl) rfl rfl rfl ?_
    refine aw_getf (aw_d q_Cm_printQuoted 8 rfl) fL_Cm_13_Cm rfl rfl ?_
    refine aw_iload_n (aw_d q_Cm_printQuoted 9 rfl) rfl rfl ?_
    refine cVr (aw_d q_Cm_printQuoted 10 rfl) (sp_len hP hW ht) vL_Cm_49_Te rfl rfl rfl rfl rfl rfl ⟨aw_le rfl, aw_le rfl⟩ ?_
    refine aw_icmpN_ge (tgt := 62) (aw_d q_Cm_printQuoted 11 rfl) (by decide) (by (have hz := (hW.2.2.2 t ht).2; have hz1 := hW.1; omega)) (by (have hz := (hW.2.2.2 t ht).2; have hz1 := hW.1; omega)) (fun c20 => ?_) (fun c20 => by exfalso; (have hz := (hW.2.2.2 t ht).2; have hz1 := hW.1; omega))
    refine aw_aload_n (aw_d q_Cm_printQuoted 31 rfl) rfl rfl rfl ?_
    refine aw_getf (aw_d q_Cm_printQuoted 32 rfl) fL_Cm_25_Cm rfl rfl ?_
    refine aw_bipush (v := nI 34) (aw_d q_Cm_printQuoted 33 rfl) (by decide) ?_
    refine cVv (aw_d q_Cm_printQuoted 34 rfl) (sp_add5) vL_Cm_56_By rfl rfl rfl rfl rfl rfl ⟨aw_le rfl, aw_le rfl⟩ ?_
    exact aw_vret (aw_d q_Cm_printQuoted 35 rfl) rfl (⟨rfl, by rw [← e]; simp [catB]⟩)
  | succ m ih =>
    intro k Q x3 hk e
    refine aw_iload_n (aw_d q_Cm_printQuoted 6 rfl) rfl rfl ?_
    refine aw_aload_n (aw_d q_Cm_printQuoted 7 rfl) rfl rfl rfl ?_
    refine aw_getf (aw_d q_Cm_printQuoted 8 rfl) fL_Cm_13_Cm rfl rfl ?_
    refine aw_iload_n (aw_d q_Cm_printQuoted 9 rfl) rfl rfl ?_
    refine cVr (aw_d q_Cm_printQuoted 10 rfl) (sp_len hP hW ht) vL_Cm_49_Te rfl rfl rfl rfl rfl rfl ⟨aw_le rfl, aw_le rfl⟩ ?_
    refine aw_icmpN_ge (tgt := 62) (aw_d q_Cm_printQuoted 11 rfl) (by decide) (by (have hz := (hW.2.2.2 t ht).2; have hz1 := hW.1; omega)) (by (have hz := (hW.2.2.2 t ht).2; have hz1 := hW.1; omega)) (fun c20 => by exfalso; (have hz := (hW.2.2.2 t ht).2; have hz1 := hW.1; omega)) (fun c20 => ?_)
    refine aw_aload_n (aw_d q_Cm_printQuoted 12 rfl) rfl rfl rfl ?_
    refine aw_getf (aw_d q_Cm_printQuoted 13 rfl) fL_Cm_13_Cm rfl rfl ?_
    refine aw_iload_n (aw_d q_Cm_printQuoted 14 rfl) rfl rfl ?_
    refine aw_iload_n (aw_d q_Cm_printQuoted 15 rfl) rfl rfl ?_
    refine cVr (aw_d q_Cm_printQuoted 16 rfl) (sp_byte hP hW ht (by omega)) vL_Cm_52_Te rfl rfl rfl rfl rfl rfl ⟨aw_le rfl, aw_le rfl⟩ ?_
    refine aw_istore_n (aw_d q_Cm_printQuoted 17 rfl) rfl (aw_le rfl) rfl ?_
    refine aw_iload_n (aw_d q_Cm_printQuoted 18 rfl) rfl rfl ?_
    refine aw_bipush (v := nI 34) (aw_d q_Cm_printQuoted 19 rfl) (by decide) ?_
    refine aw_icmpI_ne (tgt := 48) (aw_d q_Cm_printQuoted 20 rfl) (by decide) (by (have hz := (hW.2.2.2 t ht).2; have hz1 := hW.1; omega)) (fun c36 => ?_) (fun c36 => ?_)
    · have hw3 : w_3 (xp_b P t k) = [xp_b P t k] := if_neg (by omega)
      refine aw_aload_n (aw_d q_Cm_printQuoted 25 rfl) rfl rfl rfl ?_
      refine aw_getf (aw_d q_Cm_printQuoted 26 rfl) fL_Cm_25_Cm rfl rfl ?_
      refine aw_iload_n (aw_d q_Cm_printQuoted 27 rfl) rfl rfl ?_
      refine cVv (aw_d q_Cm_printQuoted 28 rfl) (sp_add5) vL_Cm_56_By rfl rfl rfl rfl rfl rfl ⟨aw_le rfl, aw_le rfl⟩ ?_
      refine aw_iinc (aw_d q_Cm_printQuoted 29 rfl) rfl (ii1 _) (aw_le rfl) rfl ?_
      refine aw_goto (tgt := 11) (aw_d q_Cm_printQuoted 30 rfl) (by decide) ?_
      exact ih (k + 1) _ _ (by omega) (by rw [← e]; simp [catB, hw3])
    · have hw3 : w_3 (xp_b P t k) = [nI 34, xp_b P t k] := by rw [w_3, if_pos (by omega), (zi_eq (x := xp_b P t k) (b := 34) (by decide)).mpr c36]
      refine aw_aload_n (aw_d q_Cm_printQuoted 21 rfl) rfl rfl rfl ?_
      refine aw_getf (aw_d q_Cm_printQuoted 22 rfl) fL_Cm_25_Cm rfl rfl ?_
      refine aw_bipush (v := nI 34) (aw_d q_Cm_printQuoted 23 rfl) (by decide) ?_
      refine cVv (aw_d q_Cm_printQuoted 24 rfl) (sp_add5) vL_Cm_56_By rfl rfl rfl rfl rfl rfl ⟨aw_le rfl, aw_le rfl⟩ ?_
      refine aw_aload_n (aw_d q_Cm_printQuoted 25 rfl) rfl rfl rfl ?_
      refine aw_getf (aw_d q_Cm_printQuoted 26 rfl) fL_Cm_25_Cm rfl rfl ?_
      refine aw_iload_n (aw_d q_Cm_printQuoted 27 rfl) rfl rfl ?_
      refine cVv (aw_d q_Cm_printQuoted 28 rfl) (sp_add5) vL_Cm_56_By rfl rfl rfl rfl rfl rfl ⟨aw_le rfl, aw_le rfl⟩ ?_
      refine aw_iinc (aw_d q_Cm_printQuoted 29 rfl) rfl (ii1 _) (aw_le rfl) rfl ?_
      refine aw_goto (tgt := 11) (aw_d q_Cm_printQuoted 30 rfl) (by decide) ?_
      exact ih (k + 1) _ _ (by omega) (by rw [← e]; simp [catB, hw3])
set_option maxRecDepth 20000 in
theorem sp_printQuoted {g : aw_G} {S : aw_S} {O : List Int32} {P : xp_T} (hP : xp_C S P) (hW : xp_wd P) {t : Nat} (ht : t < xp_t P) : Sp g M_Cm_printQuoted 1 22 0 0 [.ref 31, .int (nI t)] (HP (WS S O)) (fun r1 h => r1 = none ∧ h = HP (WS S (O ++ (nI 34 :: (w_t w_3 P t ++ [nI 34]))))) := by
  refine Sp.of rfl (aw_le rfl) ?_
  refine aw_aload_n (aw_d q_Cm_printQuoted 0 rfl) rfl rfl rfl ?_
  refine aw_getf (aw_d q_Cm_printQuoted 1 rfl) fL_Cm_25_Cm rfl rfl ?_
  refine aw_bipush (v := nI 34) (aw_d q_Cm_printQuoted 2 rfl) (by decide) ?_
  refine cVv (aw_d q_Cm_printQuoted 3 rfl) (sp_add5) vL_Cm_56_By rfl rfl rfl rfl rfl rfl ⟨aw_le rfl, aw_le rfl⟩ ?_
  refine aw_iconst (v := nI 0) (aw_d q_Cm_printQuoted 4 rfl) (by decide) ?_
  refine aw_istore_n (aw_d q_Cm_printQuoted 5 rfl) rfl (aw_le rfl) rfl ?_
  exact lp_Cm_printQuoted hP hW ht (xp_l P t) 0 _ _ (by omega) (by simp [w_t])
set_option maxRecDepth 20000 in
theorem sp_Cm_printTerm_0 {g : aw_G} {S : aw_S} {O : List Int32} {P : xp_T} (hP : xp_C S P) (hW : xp_wd P) {t : Nat} (ht : t < xp_t P) (hk : xp_k P t = 0) : Sp g M_Cm_printTerm 5 107 0 0 [.ref 31, .int (nI t)] (HP (WS S O)) (fun r h => r = none ∧ h = HP (WS S (O ++ w_ct P t))) := by
  refine Sp.of rfl (aw_le rfl) ?_
  refine aw_aload_n (aw_d q_Cm_printTerm 0 rfl) rfl rfl rfl ?_
  refine aw_getf (aw_d q_Cm_printTerm 1 rfl) fL_Cm_13_Cm rfl rfl ?_
  refine aw_iload_n (aw_d q_Cm_printTerm 2 rfl) rfl rfl ?_
  refine cVr (aw_d q_Cm_printTerm 3 rfl) (sp_kind hP hW ht hk) vL_Cm_19_Te rfl rfl rfl rfl rfl rfl ⟨aw_le rfl, aw_le rfl⟩ ?_
  refine aw_iconst (v := nI 1) (aw_d q_Cm_printTerm 4 rfl) (by decide) ?_
  refine aw_icmpN_ne (tgt := 36) (aw_d q_Cm_printTerm 5 rfl) (by decide) (by (have hz := (hW.2.2.2 t ht).2; have hz1 := hW.1; omega)) (by (have hz := (hW.2.2.2 t ht).2; have hz1 := hW.1; omega)) (fun c9 => ?_) (fun c9 => by exfalso; (have hz := (hW.2.2.2 t ht).2; have hz1 := hW.1; omega))
  refine aw_aload_n (aw_d q_Cm_printTerm 17 rfl) rfl rfl rfl ?_
  refine aw_iload_n (aw_d q_Cm_printTerm 18 rfl) rfl rfl ?_
  refine cVr (aw_d q_Cm_printTerm 19 rfl) (sp_needsQuotes hP hW ht) vL_Cm_41_Cm rfl rfl rfl rfl rfl rfl ⟨aw_le rfl, aw_le rfl⟩ ?_
  refine aw_ifB_eq (tgt := 52) (aw_d q_Cm_printTerm 20 rfl) (by decide) (fun c41 => ?_) (fun c41 => ?_)
  · refine aw_aload_n (aw_d q_Cm_printTerm 25 rfl) rfl rfl rfl ?_
    refine aw_getf (aw_d q_Cm_printTerm 26 rfl) fL_Cm_13_Cm rfl rfl ?_
    refine aw_iload_n (aw_d q_Cm_printTerm 27 rfl) rfl rfl ?_
    refine aw_aload_n (aw_d q_Cm_printTerm 28 rfl) rfl rfl rfl ?_
    refine aw_getf (aw_d q_Cm_printTerm 29 rfl) fL_Cm_25_Cm rfl rfl ?_
    refine cVv (aw_d q_Cm_printTerm 30 rfl) (sp_printAsIs hP hW ht) vL_Cm_37_Te rfl rfl rfl rfl rfl rfl ⟨aw_le rfl, aw_le rfl⟩ ?_
    exact aw_vret (aw_d q_Cm_printTerm 31 rfl) rfl (⟨rfl, by simp [w_ct, hk, c41]⟩)
  · refine aw_aload_n (aw_d q_Cm_printTerm 21 rfl) rfl rfl rfl ?_
    refine aw_iload_n (aw_d q_Cm_printTerm 22 rfl) rfl rfl ?_
    refine cVv (aw_d q_Cm_printTerm 23 rfl) (sp_printQuoted hP hW ht) vL_Cm_45_Cm rfl rfl rfl rfl rfl rfl ⟨aw_le rfl, aw_le rfl⟩ ?_
    refine aw_goto (tgt := 64) (aw_d q_Cm_printTerm 24 rfl) (by decide) ?_
    exact aw_vret (aw_d q_Cm_printTerm 31 rfl) rfl (⟨rfl, by simp [w_ct, hk, c41]⟩)
set_option maxRecDepth 20000 in
theorem sp_Cm_printTerm_1 {g : aw_G} {S : aw_S} {O : List Int32} {P : xp_T} (hP : xp_C S P) (hW : xp_wd P) {t : Nat} (ht : t < xp_t P) (hk : xp_k P t = 1) : Sp g M_Cm_printTerm 5 107 0 0 [.ref 31, .int (nI t)] (HP (WS S O)) (fun r h => r = none ∧ h = HP (WS S (O ++ w_ct P t))) := by
  refine Sp.of rfl (aw_le rfl) ?_
  refine aw_aload_n (aw_d q_Cm_printTerm 0 rfl) rfl rfl rfl ?_
  refine aw_getf (aw_d q_Cm_printTerm 1 rfl) fL_Cm_13_Cm rfl rfl ?_
  refine aw_iload_n (aw_d q_Cm_printTerm 2 rfl) rfl rfl ?_
  refine cVr (aw_d q_Cm_printTerm 3 rfl) (sp_kind hP hW ht hk) vL_Cm_19_Te rfl rfl rfl rfl rfl rfl ⟨aw_le rfl, aw_le rfl⟩ ?_
  refine aw_iconst (v := nI 1) (aw_d q_Cm_printTerm 4 rfl) (by decide) ?_
  refine aw_icmpN_ne (tgt := 36) (aw_d q_Cm_printTerm 5 rfl) (by decide) (by (have hz := (hW.2.2.2 t ht).2; have hz1 := hW.1; omega)) (by (have hz := (hW.2.2.2 t ht).2; have hz1 := hW.1; omega)) (fun c9 => by exfalso; (have hz := (hW.2.2.2 t ht).2; have hz1 := hW.1; omega)) (fun c9 => ?_)
  refine aw_aload_n (aw_d q_Cm_printTerm 6 rfl) rfl rfl rfl ?_
  refine aw_getf (aw_d q_Cm_printTerm 7 rfl) fL_Cm_25_Cm rfl rfl ?_
  refine aw_ldcS (aw_d q_Cm_printTerm 8 rfl) tL_Cm_29 ?_
  refine cVv (aw_d q_Cm_printTerm 9 rfl) (sp_addAll (by decide)) vL_Cm_31_By rfl rfl rfl rfl rfl rfl ⟨aw_le rfl, aw_le rfl⟩ ?_
  refine aw_aload_n (aw_d q_Cm_printTerm 10 rfl) rfl rfl rfl ?_
  refine aw_getf (aw_d q_Cm_printTerm 11 rfl) fL_Cm_13_Cm rfl rfl ?_
  refine aw_iload_n (aw_d q_Cm_printTerm 12 rfl) rfl rfl ?_
  refine aw_aload_n (aw_d q_Cm_printTerm 13 rfl) rfl rfl rfl ?_
  refine aw_getf (aw_d q_Cm_printTerm 14 rfl) fL_Cm_25_Cm rfl rfl ?_
  refine cVv (aw_d q_Cm_printTerm 15 rfl) (sp_printAsIs hP hW ht) vL_Cm_37_Te rfl rfl rfl rfl rfl rfl ⟨aw_le rfl, aw_le rfl⟩ ?_
  refine aw_goto (tgt := 64) (aw_d q_Cm_printTerm 16 rfl) (by decide) ?_
  exact aw_vret (aw_d q_Cm_printTerm 31 rfl) rfl (⟨rfl, by simp [w_ct, hk]⟩)
set_option maxRecDepth 20000 in
theorem sp_Cm_printTerm_2 {g : aw_G} {S : aw_S} {O : List Int32} {P : xp_T} (hP : xp_C S P) (hW : xp_wd P) {t : Nat} (ht : t < xp_t P) (hk : xp_k P t = 2) : Sp g M_Cm_printTerm 5 107 0 0 [.ref 31, .int (nI t)] (HP (WS S O)) (fun r h => r = none ∧ h = HP (WS S (O ++ w_ct P t))) := by
  refine Sp.of rfl (aw_le rfl) ?_
  refine aw_aload_n (aw_d q_Cm_printTerm 0 rfl) rfl rfl rfl ?_
  refine aw_getf (aw_d q_Cm_printTerm 1 rfl) fL_Cm_13_Cm rfl rfl ?_
  refine aw_iload_n (aw_d q_Cm_printTerm 2 rfl) rfl rfl ?_
  refine cVr (aw_d q_Cm_printTerm 3 rfl) (sp_kind hP hW ht hk) vL_Cm_19_Te rfl rfl rfl rfl rfl rfl ⟨aw_le rfl, aw_le rfl⟩ ?_
  refine aw_iconst (v := nI 1) (aw_d q_Cm_printTerm 4 rfl) (by decide) ?_
  refine aw_icmpN_ne (tgt := 36) (aw_d q_Cm_printTerm 5 rfl) (by decide) (by (have hz := (hW.2.2.2 t ht).2; have hz1 := hW.1; omega)) (by (have hz := (hW.2.2.2 t ht).2; have hz1 := hW.1; omega)) (fun c9 => ?_) (fun c9 => by exfalso; (have hz := (hW.2.2.2 t ht).2; have hz1 := hW.1; omega))
  refine aw_aload_n (aw_d q_Cm_printTerm 17 rfl) rfl rfl rfl ?_
  refine aw_iload_n (aw_d q_Cm_printTerm 18 rfl) rfl rfl ?_
  refine cVr (aw_d q_Cm_printTerm 19 rfl) (sp_needsQuotes hP hW ht) vL_Cm_41_Cm rfl rfl rfl rfl rfl rfl ⟨aw_le rfl, aw_le rfl⟩ ?_
  refine aw_ifB_eq (tgt := 52) (aw_d q_Cm_printTerm 20 rfl) (by decide) (fun c41 => ?_) (fun c41 => ?_)
  · refine aw_aload_n (aw_d q_Cm_printTerm 25 rfl) rfl rfl rfl ?_
    refine aw_getf (aw_d q_Cm_printTerm 26 rfl) fL_Cm_13_Cm rfl rfl ?_
    refine aw_iload_n (aw_d q_Cm_printTerm 27 rfl) rfl rfl ?_
    refine aw_aload_n (aw_d q_Cm_printTerm 28 rfl) rfl rfl rfl ?_
    refine aw_getf (aw_d q_Cm_printTerm 29 rfl) fL_Cm_25_Cm rfl rfl ?_
    refine cVv (aw_d q_Cm_printTerm 30 rfl) (sp_printAsIs hP hW ht) vL_Cm_37_Te rfl rfl rfl rfl rfl rfl ⟨aw_le rfl, aw_le rfl⟩ ?_
    exact aw_vret (aw_d q_Cm_printTerm 31 rfl) rfl (⟨rfl, by simp [w_ct, hk, c41]⟩)
  · refine aw_aload_n (aw_d q_Cm_printTerm 21 rfl) rfl rfl rfl ?_
    refine aw_iload_n (aw_d q_Cm_printTerm 22 rfl) rfl rfl ?_
    refine cVv (aw_d q_Cm_printTerm 23 rfl) (sp_printQuoted hP hW ht) vL_Cm_45_Cm rfl rfl rfl rfl rfl rfl ⟨aw_le rfl, aw_le rfl⟩ ?_
    refine aw_goto (tgt := 64) (aw_d q_Cm_printTerm 24 rfl) (by decide) ?_
    exact aw_vret (aw_d q_Cm_printTerm 31 rfl) rfl (⟨rfl, by simp [w_ct, hk, c41]⟩)
set_option maxRecDepth 20000 in
theorem sp_Cm_printTerm_3 {g : aw_G} {S : aw_S} {O : List Int32} {P : xp_T} (hP : xp_C S P) (hW : xp_wd P) {t : Nat} (ht : t < xp_t P) (hk : xp_k P t = 3) : Sp g M_Cm_printTerm 5 107 0 0 [.ref 31, .int (nI t)] (HP (WS S O)) (fun r h => r = none ∧ h = HP (WS S (O ++ w_ct P t))) := by
  refine Sp.of rfl (aw_le rfl) ?_
  refine aw_aload_n (aw_d q_Cm_printTerm 0 rfl) rfl rfl rfl ?_
  refine aw_getf (aw_d q_Cm_printTerm 1 rfl) fL_Cm_13_Cm rfl rfl ?_
  refine aw_iload_n (aw_d q_Cm_printTerm 2 rfl) rfl rfl ?_
  refine cVr (aw_d q_Cm_printTerm 3 rfl) (sp_kind hP hW ht hk) vL_Cm_19_Te rfl rfl rfl rfl rfl rfl ⟨aw_le rfl, aw_le rfl⟩ ?_
  refine aw_iconst (v := nI 1) (aw_d q_Cm_printTerm 4 rfl) (by decide) ?_
  refine aw_icmpN_ne (tgt := 36) (aw_d q_Cm_printTerm 5 rfl) (by decide) (by (have hz := (hW.2.2.2 t ht).2; have hz1 := hW.1; omega)) (by (have hz := (hW.2.2.2 t ht).2; have hz1 := hW.1; omega)) (fun c9 => ?_) (fun c9 => by exfalso; (have hz := (hW.2.2.2 t ht).2; have hz1 := hW.1; omega))
  refine aw_aload_n (aw_d q_Cm_printTerm 17 rfl) rfl rfl rfl ?_
  refine aw_iload_n (aw_d q_Cm_printTerm 18 rfl) rfl rfl ?_
  refine cVr (aw_d q_Cm_printTerm 19 rfl) (sp_needsQuotes hP hW ht) vL_Cm_41_Cm rfl rfl rfl rfl rfl rfl ⟨aw_le rfl, aw_le rfl⟩ ?_
  refine aw_ifB_eq (tgt := 52) (aw_d q_Cm_printTerm 20 rfl) (by decide) (fun c41 => ?_) (fun c41 => ?_)
  · refine aw_aload_n (aw_d q_Cm_printTerm 25 rfl) rfl rfl rfl ?_
    refine aw_getf (aw_d q_Cm_printTerm 26 rfl) fL_Cm_13_Cm rfl rfl ?_
    refine aw_iload_n (aw_d q_Cm_printTerm 27 rfl) rfl rfl ?_
    refine aw_aload_n (aw_d q_Cm_printTerm 28 rfl) rfl rfl rfl ?_
    refine aw_getf (aw_d q_Cm_printTerm 29 rfl) fL_Cm_25_Cm rfl rfl ?_
    refine cVv (aw_d q_Cm_printTerm 30 rfl) (sp_printAsIs hP hW ht) vL_Cm_37_Te rfl rfl rfl rfl rfl rfl ⟨aw_le rfl, aw_le rfl⟩ ?_
    exact aw_vret (aw_d q_Cm_printTerm 31 rfl) rfl (⟨rfl, by simp [w_ct, hk, c41]⟩)
  · refine aw_aload_n (aw_d q_Cm_printTerm 21 rfl) rfl rfl rfl ?_
    refine aw_iload_n (aw_d q_Cm_printTerm 22 rfl) rfl rfl ?_
    refine cVv (aw_d q_Cm_printTerm 23 rfl) (sp_printQuoted hP hW ht) vL_Cm_45_Cm rfl rfl rfl rfl rfl rfl ⟨aw_le rfl, aw_le rfl⟩ ?_
    refine aw_goto (tgt := 64) (aw_d q_Cm_printTerm 24 rfl) (by decide) ?_
    exact aw_vret (aw_d q_Cm_printTerm 31 rfl) rfl (⟨rfl, by simp [w_ct, hk, c41]⟩)
set_option maxRecDepth 20000 in
theorem sp_Cm_printTerm_4 {g : aw_G} {S : aw_S} {O : List Int32} {P : xp_T} (hP : xp_C S P) (hW : xp_wd P) {t : Nat} (ht : t < xp_t P) (hk : xp_k P t = 4) : Sp g M_Cm_printTerm 5 107 0 0 [.ref 31, .int (nI t)] (HP (WS S O)) (fun r h => r = none ∧ h = HP (WS S (O ++ w_ct P t))) := by
  refine Sp.of rfl (aw_le rfl) ?_
  refine aw_aload_n (aw_d q_Cm_printTerm 0 rfl) rfl rfl rfl ?_
  refine aw_getf (aw_d q_Cm_printTerm 1 rfl) fL_Cm_13_Cm rfl rfl ?_
  refine aw_iload_n (aw_d q_Cm_printTerm 2 rfl) rfl rfl ?_
  refine cVr (aw_d q_Cm_printTerm 3 rfl) (sp_kind hP hW ht hk) vL_Cm_19_Te rfl rfl rfl rfl rfl rfl ⟨aw_le rfl, aw_le rfl⟩ ?_
  refine aw_iconst (v := nI 1) (aw_d q_Cm_printTerm 4 rfl) (by decide) ?_
  refine aw_icmpN_ne (tgt := 36) (aw_d q_Cm_printTerm 5 rfl) (by decide) (by (have hz := (hW.2.2.2 t ht).2; have hz1 := hW.1; omega)) (by (have hz := (hW.2.2.2 t ht).2; have hz1 := hW.1; omega)) (fun c9 => ?_) (fun c9 => by exfalso; (have hz := (hW.2.2.2 t ht).2; have hz1 := hW.1; omega))
  refine aw_aload_n (aw_d q_Cm_printTerm 17 rfl) rfl rfl rfl ?_
  refine aw_iload_n (aw_d q_Cm_printTerm 18 rfl) rfl rfl ?_
  refine cVr (aw_d q_Cm_printTerm 19 rfl) (sp_needsQuotes hP hW ht) vL_Cm_41_Cm rfl rfl rfl rfl rfl rfl ⟨aw_le rfl, aw_le rfl⟩ ?_
  refine aw_ifB_eq (tgt := 52) (aw_d q_Cm_printTerm 20 rfl) (by decide) (fun c41 => ?_) (fun c41 => ?_)
  · refine aw_aload_n (aw_d q_Cm_printTerm 25 rfl) rfl rfl rfl ?_
    refine aw_getf (aw_d q_Cm_printTerm 26 rfl) fL_Cm_13_Cm rfl rfl ?_
    refine aw_iload_n (aw_d q_Cm_printTerm 27 rfl) rfl rfl ?_
    refine aw_aload_n (aw_d q_Cm_printTerm 28 rfl) rfl rfl rfl ?_
    refine aw_getf (aw_d q_Cm_printTerm 29 rfl) fL_Cm_25_Cm rfl rfl ?_
    refine cVv (aw_d q_Cm_printTerm 30 rfl) (sp_printAsIs hP hW ht) vL_Cm_37_Te rfl rfl rfl rfl rfl rfl ⟨aw_le rfl, aw_le rfl⟩ ?_
    exact aw_vret (aw_d q_Cm_printTerm 31 rfl) rfl (⟨rfl, by simp [w_ct, hk, c41]⟩)
  · refine aw_aload_n (aw_d q_Cm_printTerm 21 rfl) rfl rfl rfl ?_
    refine aw_iload_n (aw_d q_Cm_printTerm 22 rfl) rfl rfl ?_
    refine cVv (aw_d q_Cm_printTerm 23 rfl) (sp_printQuoted hP hW ht) vL_Cm_45_Cm rfl rfl rfl rfl rfl rfl ⟨aw_le rfl, aw_le rfl⟩ ?_
    refine aw_goto (tgt := 64) (aw_d q_Cm_printTerm 24 rfl) (by decide) ?_
    exact aw_vret (aw_d q_Cm_printTerm 31 rfl) rfl (⟨rfl, by simp [w_ct, hk, c41]⟩)
theorem sp_Cm_printTerm {g : aw_G} {S : aw_S} {O : List Int32} {P : xp_T} (hP : xp_C S P) (hW : xp_wd P) {t : Nat} (ht : t < xp_t P) : Sp g M_Cm_printTerm 5 107 0 0 [.ref 31, .int (nI t)] (HP (WS S O)) (fun r h => r = none ∧ h = HP (WS S (O ++ w_ct P t))) := by
  rcases (show xp_k P t = 0 ∨ xp_k P t = 1 ∨ xp_k P t = 2 ∨ xp_k P t = 3 ∨ xp_k P t = 4 by have := (hW.2.2.2 t ht).1; omega) with h | h | h | h | h
  · exact sp_Cm_printTerm_0 hP hW ht h
  · exact sp_Cm_printTerm_1 hP hW ht h
  · exact sp_Cm_printTerm_2 hP hW ht h
  · exact sp_Cm_printTerm_3 hP hW ht h
  · exact sp_Cm_printTerm_4 hP hW ht h
theorem tx_s : tx 48 = [nI 60] ∧ tx 49 = [nI 62] ∧ tx 51 = [] ∧ tx 52 = [nI 34] := ⟨rfl, rfl, rfl, rfl⟩
theorem w_t_10 {P : xp_T} {t : Nat} (h : ∀ i, i < xp_l P t → w_1 (xp_b P t i) = [xp_b P t i]) : w_t w_1 P t = w_t w_0 P t := catB_congr (fun i _ h2 => h i (by omega))
theorem w_1_nd {b : Int32} (h : pNd b = true ∨ pLD b = true) : w_1 b = [b] := by
  simp only [pNd, pLD, decide_eq_true_eq] at h
  simp only [w_1]
  rw [if_neg (by omega), if_neg (by omega), if_neg (by omega), if_neg (by omega), if_neg (by omega)]
theorem w_t_nd {P : xp_T} {t : Nat} (ho : xp_ok P t) (hk : xp_k P t < 2) : w_t w_1 P t = w_t w_0 P t := by
  refine w_t_10 (fun i hi => w_1_nd ?_)
  have h := ho.2.2.2.2.2.2
  simp only [okK] at h
  by_cases h0 : xp_k P t = 0
  · rw [if_pos h0, Bool.and_eq_true] at h
    exact Or.inl ((allB_iff _ _ _ _).mp h.2 i (by omega) (by omega))
  · rw [if_neg h0, if_pos (by omega), Bool.and_eq_true] at h
    exact Or.inr ((allB_iff _ _ _ _).mp h.2 i (by omega) (by omega))
set_option maxRecDepth 20000 in
theorem sp_printBetween {g : aw_G} {S : aw_S} {O : List Int32} {P : xp_T} (hP : xp_C S P) (hW : xp_wd P) {t : Nat} (ht : t < xp_t P) {i j : Nat} (hi : i < aw_nS) (hj : j < aw_nS) : Sp g M_Ta_printBetween 6 131 0 0 [.ref 32, .retAddr i, .int (nI t), .retAddr j] (HP (WS S O)) (fun r1 h => r1 = none ∧ h = HP (WS S (O ++ (tx i ++ (w_t w_1 P t ++ tx j))))) := by
  refine Sp.of rfl (aw_le rfl) ?_
  refine aw_aload_n (aw_d q_Ta_printBetween 0 rfl) rfl rfl rfl ?_
  refine aw_getf (aw_d q_Ta_printBetween 1 rfl) fL_Ta_41_Ta rfl rfl ?_
  refine aw_aload_n (aw_d q_Ta_printBetween 2 rfl) rfl rfl rfl ?_
  refine cVv (aw_d q_Ta_printBetween 3 rfl) (sp_addAll hi) vL_Ta_51_By rfl rfl rfl rfl rfl rfl ⟨aw_le rfl, aw_le rfl⟩ ?_
  refine aw_aload_n (aw_d q_Ta_printBetween 4 rfl) rfl rfl rfl ?_
  refine aw_getf (aw_d q_Ta_printBetween 5 rfl) fL_Ta_13_Ta rfl rfl ?_
  refine aw_iload_n (aw_d q_Ta_printBetween 6 rfl) rfl rfl ?_
  refine aw_aload_n (aw_d q_Ta_printBetween 7 rfl) rfl rfl rfl ?_
  refine aw_getf (aw_d q_Ta_printBetween 8 rfl) fL_Ta_41_Ta rfl rfl ?_
  refine cVv (aw_d q_Ta_printBetween 9 rfl) (sp_printBack hP hW ht) vL_Ta_57_Te rfl rfl rfl rfl rfl rfl ⟨aw_le rfl, aw_le rfl⟩ ?_
  refine aw_aload_n (aw_d q_Ta_printBetween 10 rfl) rfl rfl rfl ?_
  refine aw_getf (aw_d q_Ta_printBetween 11 rfl) fL_Ta_41_Ta rfl rfl ?_
  refine aw_aload_n (aw_d q_Ta_printBetween 12 rfl) rfl rfl rfl ?_
  refine cVv (aw_d q_Ta_printBetween 13 rfl) (sp_addAll hj) vL_Ta_51_By rfl rfl rfl rfl rfl rfl ⟨aw_le rfl, aw_le rfl⟩ ?_
  exact aw_vret (aw_d q_Ta_printBetween 14 rfl) rfl (⟨rfl, by simp⟩)
set_option maxRecDepth 20000 in
theorem sp_Ta_printTerm_0 {g : aw_G} {S : aw_S} {O : List Int32} {P : xp_T} (hP : xp_C S P) (hW : xp_wd P) {t : Nat} (ht : t < xp_t P) (hk : xp_k P t = 0) : Sp g M_Ta_printTerm 7 154 0 0 [.ref 32, .int (nI t)] (HP (WS S O)) (fun r h => r = none ∧ h = HP (WS S (O ++ w_tt P t))) := by
  refine Sp.of rfl (aw_le rfl) ?_
  refine aw_aload_n (aw_d q_Ta_printTerm 0 rfl) rfl rfl rfl ?_
  refine aw_getf (aw_d q_Ta_printTerm 1 rfl) fL_Ta_13_Ta rfl rfl ?_
  refine aw_iload_n (aw_d q_Ta_printTerm 2 rfl) rfl rfl ?_
  refine cVr (aw_d q_Ta_printTerm 3 rfl) (sp_kind hP hW ht hk) vL_Ta_19_Te rfl rfl rfl rfl rfl rfl ⟨aw_le rfl, aw_le rfl⟩ ?_
  have hsx8 : (nI (0)).toInt = ((0 : Nat) : Int) := nI_toInt (by (have hz := (hW.2.2.2 t ht).2; have hz1 := hW.1; omega))
  have hsw : (nI (0)).toInt = 0 := by (have hz := (hW.2.2.2 t ht).2; have hz1 := hW.1; omega)
  refine aw_tableIn (tgt := 40) (aw_d q_Ta_printTerm 4 rfl) (by omega) (by omega) (by rw [hsw]; rfl) (by decide) ?_
  refine aw_aload_n (aw_d q_Ta_printTerm 5 rfl) rfl rfl rfl ?_
  refine aw_ldcS (aw_d q_Ta_printTerm 6 rfl) tL_Ta_25 ?_
  refine aw_iload_n (aw_d q_Ta_printTerm 7 rfl) rfl rfl ?_
  refine aw_ldcS (aw_d q_Ta_printTerm 8 rfl) tL_Ta_27 ?_
  refine cVv (aw_d q_Ta_printTerm 9 rfl) (sp_printBetween hP hW ht (by decide) (by decide)) vL_Ta_29_Ta rfl rfl rfl rfl rfl rfl ⟨aw_le rfl, aw_le rfl⟩ ?_
  refine aw_goto (tgt := 121) (aw_d q_Ta_printTerm 10 rfl) (by decide) ?_
  exact aw_vret (aw_d q_Ta_printTerm 46 rfl) rfl (⟨rfl, by simp [w_tt, hk, tx_s.1, tx_s.2.1, tx_s.2.2.1, tx_s.2.2.2, w_t_nd (hW.2.2.2 t ht) (by omega : xp_k P t < 2)]⟩)
set_option maxRecDepth 20000 in
theorem sp_Ta_printTerm_1 {g : aw_G} {S : aw_S} {O : List Int32} {P : xp_T} (hP : xp_C S P) (hW : xp_wd P) {t : Nat} (ht : t < xp_t P) (hk : xp_k P t = 1) : Sp g M_Ta_printTerm 7 154 0 0 [.ref 32, .int (nI t)] (HP (WS S O)) (fun r h => r = none ∧ h = HP (WS S (O ++ w_tt P t))) := by
  refine Sp.of rfl (aw_le rfl) ?_
  refine aw_aload_n (aw_d q_Ta_printTerm 0 rfl) rfl rfl rfl ?_
  refine aw_getf (aw_d q_Ta_printTerm 1 rfl) fL_Ta_13_Ta rfl rfl ?_
  refine aw_iload_n (aw_d q_Ta_printTerm 2 rfl) rfl rfl ?_
  refine cVr (aw_d q_Ta_printTerm 3 rfl) (sp_kind hP hW ht hk) vL_Ta_19_Te rfl rfl rfl rfl rfl rfl ⟨aw_le rfl, aw_le rfl⟩ ?_
  have hsx8 : (nI (1)).toInt = ((1 : Nat) : Int) := nI_toInt (by (have hz := (hW.2.2.2 t ht).2; have hz1 := hW.1; omega))
  have hsw : (nI (1)).toInt = 1 := by (have hz := (hW.2.2.2 t ht).2; have hz1 := hW.1; omega)
  refine aw_tableIn (tgt := 52) (aw_d q_Ta_printTerm 4 rfl) (by omega) (by omega) (by rw [hsw]; rfl) (by decide) ?_
  refine aw_aload_n (aw_d q_Ta_printTerm 11 rfl) rfl rfl rfl ?_
  refine aw_ldcS (aw_d q_Ta_printTerm 12 rfl) tL_Ta_33 ?_
  refine aw_iload_n (aw_d q_Ta_printTerm 13 rfl) rfl rfl ?_
  refine aw_ldcS (aw_d q_Ta_printTerm 14 rfl) tL_Ta_35 ?_
  refine cVv (aw_d q_Ta_printTerm 15 rfl) (sp_printBetween hP hW ht (by decide) (by decide)) vL_Ta_29_Ta rfl rfl rfl rfl rfl rfl ⟨aw_le rfl, aw_le rfl⟩ ?_
  refine aw_goto (tgt := 121) (aw_d q_Ta_printTerm 16 rfl) (by decide) ?_
  exact aw_vret (aw_d q_Ta_printTerm 46 rfl) rfl (⟨rfl, by simp [w_tt, hk, tx_s.1, tx_s.2.1, tx_s.2.2.1, tx_s.2.2.2, w_t_nd (hW.2.2.2 t ht) (by omega : xp_k P t < 2)]⟩)
set_option maxRecDepth 20000 in
theorem sp_Ta_printTerm_2 {g : aw_G} {S : aw_S} {O : List Int32} {P : xp_T} (hP : xp_C S P) (hW : xp_wd P) {t : Nat} (ht : t < xp_t P) (hk : xp_k P t = 2) : Sp g M_Ta_printTerm 7 154 0 0 [.ref 32, .int (nI t)] (HP (WS S O)) (fun r h => r = none ∧ h = HP (WS S (O ++ w_tt P t))) := by
  refine Sp.of rfl (aw_le rfl) ?_
  refine aw_aload_n (aw_d q_Ta_printTerm 0 rfl) rfl rfl rfl ?_
  refine aw_getf (aw_d q_Ta_printTerm 1 rfl) fL_Ta_13_Ta rfl rfl ?_
  refine aw_iload_n (aw_d q_Ta_printTerm 2 rfl) rfl rfl ?_
  refine cVr (aw_d q_Ta_printTerm 3 rfl) (sp_kind hP hW ht hk) vL_Ta_19_Te rfl rfl rfl rfl rfl rfl ⟨aw_le rfl, aw_le rfl⟩ ?_
  have hsx8 : (nI (2)).toInt = ((2 : Nat) : Int) := nI_toInt (by (have hz := (hW.2.2.2 t ht).2; have hz1 := hW.1; omega))
  have hsw : (nI (2)).toInt = 2 := by (have hz := (hW.2.2.2 t ht).2; have hz1 := hW.1; omega)
  refine aw_tableIn (tgt := 64) (aw_d q_Ta_printTerm 4 rfl) (by omega) (by omega) (by rw [hsw]; rfl) (by decide) ?_
  refine aw_aload_n (aw_d q_Ta_printTerm 17 rfl) rfl rfl rfl ?_
  refine aw_ldcS (aw_d q_Ta_printTerm 18 rfl) tL_Ta_37 ?_
  refine aw_iload_n (aw_d q_Ta_printTerm 19 rfl) rfl rfl ?_
  refine aw_ldcS (aw_d q_Ta_printTerm 20 rfl) tL_Ta_37 ?_
  refine cVv (aw_d q_Ta_printTerm 21 rfl) (sp_printBetween hP hW ht (by decide) (by decide)) vL_Ta_29_Ta rfl rfl rfl rfl rfl rfl ⟨aw_le rfl, aw_le rfl⟩ ?_
  refine aw_goto (tgt := 121) (aw_d q_Ta_printTerm 22 rfl) (by decide) ?_
  exact aw_vret (aw_d q_Ta_printTerm 46 rfl) rfl (⟨rfl, by simp [w_tt, hk, tx_s.1, tx_s.2.1, tx_s.2.2.1, tx_s.2.2.2]⟩)
set_option maxRecDepth 20000 in
theorem sp_Ta_printTerm_3 {g : aw_G} {S : aw_S} {O : List Int32} {P : xp_T} (hP : xp_C S P) (hW : xp_wd P) {t : Nat} (ht : t < xp_t P) (hk : xp_k P t = 3) : Sp g M_Ta_printTerm 7 154 0 0 [.ref 32, .int (nI t)] (HP (WS S O)) (fun r h => r = none ∧ h = HP (WS S (O ++ w_tt P t))) := by
  refine Sp.of rfl (aw_le rfl) ?_
  refine aw_aload_n (aw_d q_Ta_printTerm 0 rfl) rfl rfl rfl ?_
  refine aw_getf (aw_d q_Ta_printTerm 1 rfl) fL_Ta_13_Ta rfl rfl ?_
  refine aw_iload_n (aw_d q_Ta_printTerm 2 rfl) rfl rfl ?_
  refine cVr (aw_d q_Ta_printTerm 3 rfl) (sp_kind hP hW ht hk) vL_Ta_19_Te rfl rfl rfl rfl rfl rfl ⟨aw_le rfl, aw_le rfl⟩ ?_
  have hsx8 : (nI (3)).toInt = ((3 : Nat) : Int) := nI_toInt (by (have hz := (hW.2.2.2 t ht).2; have hz1 := hW.1; omega))
  have hsw : (nI (3)).toInt = 3 := by (have hz := (hW.2.2.2 t ht).2; have hz1 := hW.1; omega)
  refine aw_tableIn (tgt := 76) (aw_d q_Ta_printTerm 4 rfl) (by omega) (by omega) (by rw [hsw]; rfl) (by decide) ?_
  refine aw_aload_n (aw_d q_Ta_printTerm 23 rfl) rfl rfl rfl ?_
  refine aw_ldcS (aw_d q_Ta_printTerm 24 rfl) tL_Ta_37 ?_
  refine aw_iload_n (aw_d q_Ta_printTerm 25 rfl) rfl rfl ?_
  refine aw_ldcS (aw_d q_Ta_printTerm 26 rfl) tL_Ta_39 ?_
  refine cVv (aw_d q_Ta_printTerm 27 rfl) (sp_printBetween hP hW ht (by decide) (by decide)) vL_Ta_29_Ta rfl rfl rfl rfl rfl rfl ⟨aw_le rfl, aw_le rfl⟩ ?_
  refine aw_aload_n (aw_d q_Ta_printTerm 28 rfl) rfl rfl rfl ?_
  refine aw_getf (aw_d q_Ta_printTerm 29 rfl) fL_Ta_13_Ta rfl rfl ?_
  refine aw_iload_n (aw_d q_Ta_printTerm 30 rfl) rfl rfl ?_
  refine aw_aload_n (aw_d q_Ta_printTerm 31 rfl) rfl rfl rfl ?_
  refine aw_getf (aw_d q_Ta_printTerm 32 rfl) fL_Ta_41_Ta rfl rfl ?_
  refine cVv (aw_d q_Ta_printTerm 33 rfl) (sp_printExtra hP hW ht (by omega)) vL_Ta_45_Te rfl rfl rfl rfl rfl rfl ⟨aw_le rfl, aw_le rfl⟩ ?_
  refine aw_goto (tgt := 121) (aw_d q_Ta_printTerm 34 rfl) (by decide) ?_
  exact aw_vret (aw_d q_Ta_printTerm 46 rfl) rfl (⟨rfl, by simp [w_tt, hk, tx_s.1, tx_s.2.1, tx_s.2.2.1, tx_s.2.2.2]⟩)
set_option maxRecDepth 20000 in
theorem sp_Ta_printTerm_4 {g : aw_G} {S : aw_S} {O : List Int32} {P : xp_T} (hP : xp_C S P) (hW : xp_wd P) {t : Nat} (ht : t < xp_t P) (hk : xp_k P t = 4) : Sp g M_Ta_printTerm 7 154 0 0 [.ref 32, .int (nI t)] (HP (WS S O)) (fun r h => r = none ∧ h = HP (WS S (O ++ w_tt P t))) := by
  refine Sp.of rfl (aw_le rfl) ?_
  refine aw_aload_n (aw_d q_Ta_printTerm 0 rfl) rfl rfl rfl ?_
  refine aw_getf (aw_d q_Ta_printTerm 1 rfl) fL_Ta_13_Ta rfl rfl ?_
  refine aw_iload_n (aw_d q_Ta_printTerm 2 rfl) rfl rfl ?_
  refine cVr (aw_d q_Ta_printTerm 3 rfl) (sp_kind hP hW ht hk) vL_Ta_19_Te rfl rfl rfl rfl rfl rfl ⟨aw_le rfl, aw_le rfl⟩ ?_
  have hsx8 : (nI (4)).toInt = ((4 : Nat) : Int) := nI_toInt (by (have hz := (hW.2.2.2 t ht).2; have hz1 := hW.1; omega))
  have hsw : (3 : Int) < (nI (4)).toInt := by (have hz := (hW.2.2.2 t ht).2; have hz1 := hW.1; omega)
  refine aw_tableOut (tgt := 100) (aw_d q_Ta_printTerm 4 rfl) (Or.inr hsw) (by decide) ?_
  refine aw_aload_n (aw_d q_Ta_printTerm 35 rfl) rfl rfl rfl ?_
  refine aw_ldcS (aw_d q_Ta_printTerm 36 rfl) tL_Ta_37 ?_
  refine aw_iload_n (aw_d q_Ta_printTerm 37 rfl) rfl rfl ?_
  refine aw_ldcS (aw_d q_Ta_printTerm 38 rfl) tL_Ta_49 ?_
  refine cVv (aw_d q_Ta_printTerm 39 rfl) (sp_printBetween hP hW ht (by decide) (by decide)) vL_Ta_29_Ta rfl rfl rfl rfl rfl rfl ⟨aw_le rfl, aw_le rfl⟩ ?_
  refine aw_aload_n (aw_d q_Ta_printTerm 40 rfl) rfl rfl rfl ?_
  refine aw_getf (aw_d q_Ta_printTerm 41 rfl) fL_Ta_13_Ta rfl rfl ?_
  refine aw_iload_n (aw_d q_Ta_printTerm 42 rfl) rfl rfl ?_
  refine aw_aload_n (aw_d q_Ta_printTerm 43 rfl) rfl rfl rfl ?_
  refine aw_getf (aw_d q_Ta_printTerm 44 rfl) fL_Ta_41_Ta rfl rfl ?_
  refine cVv (aw_d q_Ta_printTerm 45 rfl) (sp_printExtra hP hW ht (by omega)) vL_Ta_45_Te rfl rfl rfl rfl rfl rfl ⟨aw_le rfl, aw_le rfl⟩ ?_
  exact aw_vret (aw_d q_Ta_printTerm 46 rfl) rfl (⟨rfl, by simp [w_tt, hk, tx_s.1, tx_s.2.1, tx_s.2.2.1, tx_s.2.2.2]⟩)
theorem sp_Ta_printTerm {g : aw_G} {S : aw_S} {O : List Int32} {P : xp_T} (hP : xp_C S P) (hW : xp_wd P) {t : Nat} (ht : t < xp_t P) : Sp g M_Ta_printTerm 7 154 0 0 [.ref 32, .int (nI t)] (HP (WS S O)) (fun r h => r = none ∧ h = HP (WS S (O ++ w_tt P t))) := by
  rcases (show xp_k P t = 0 ∨ xp_k P t = 1 ∨ xp_k P t = 2 ∨ xp_k P t = 3 ∨ xp_k P t = 4 by have := (hW.2.2.2 t ht).1; omega) with h | h | h | h | h
  · exact sp_Ta_printTerm_0 hP hW ht h
  · exact sp_Ta_printTerm_1 hP hW ht h
  · exact sp_Ta_printTerm_2 hP hW ht h
  · exact sp_Ta_printTerm_3 hP hW ht h
  · exact sp_Ta_printTerm_4 hP hW ht h
set_option maxRecDepth 20000 in
theorem lp_Ln_printRow_31 {g : aw_G} {S : aw_S} {O : List Int32} {P : xp_T} (hP : xp_C S P) (hW : xp_wd P) {r : Nat} (hr : r < xp_r P) : ∀ (m v : Nat) (Q : List Int32) (x4 : Option Value), m + v = xp_v P → Q ++ (catB (fun v => w_se (w_ls true) v ++ w_lc true P r v) m v ++ w_le true) = O ++ w_lr true P r → AW g M_Ln_printRow (aw_rm 8 175 0 0) (aw_F g 0 0 (fun r1 h => r1 = none ∧ h = HP (WS S (O ++ w_lr true P r)))) 2 [some (.ref 31), some (.ref 14), some (.int (nI r)), some (.int (nI v)), x4] [] (HP (WS S Q)) 0 0 := by
  intro m
  induction m with
  | zero =>
    intro v Q x4 hk e
    refine aw_iload_n (aw_d q_Ln_printRow 2 rfl) rfl rfl ?_
    refine aw_aload_n (aw_d q_Ln_printRow 3 rfl) rfl rfl rfl ?_
    refine aw_getf (v := .int (nI (xp_v P))) (aw_d q_Ln_printRow 4 rfl) fL_Ln_34_Tb rfl (gk hP.1.2.1) ?_
    refine aw_icmpN_ge (tgt := 51) (aw_d q_Ln_printRow 5 rfl) (by decide) (by (have hz1 := hW.1; omega)) (by (have hz1 := hW.1; omega)) (fun c7 => ?_) (fun c7 => by exfalso; (have hz1 := hW.1; omega))
    refine aw_aload_n (aw_d q_Ln_printRow 26 rfl) rfl rfl rfl ?_
    refine aw_getf (aw_d q_Ln_printRow 27 rfl) fL_Ln_15_Cm rfl rfl ?_
    refine aw_aload_n (aw_d q_Ln_printRow 28 rfl) rfl rfl rfl ?_
    refine aw_getf (aw_d q_Ln_printRow 29 rfl) fL_Ln_31_Cm rfl rfl ?_
    refine cVv (aw_d q_Ln_printRow 30 rfl) (sp_addAll (by decide)) vL_Ln_46_By rfl rfl rfl rfl rfl rfl ⟨aw_le rfl, aw_le rfl⟩ ?_
    exact aw_vret (aw_d q_Ln_printRow 31 rfl) rfl (⟨rfl, by rw [← e]; simp [catB, w_le]⟩)
  | succ m ih =>
    intro v Q x4 hk e
    have hct : ∀ t, xp_c P r v = some t → t < xp_t P := fun t h => hW.2.2.1 r v t hr (by omega) h
    cases hc : xp_c P r v with
    | none =>
      refine aw_iload_n (aw_d q_Ln_printRow 2 rfl) rfl rfl ?_
      refine aw_aload_n (aw_d q_Ln_printRow 3 rfl) rfl rfl rfl ?_
      refine aw_getf (v := .int (nI (xp_v P))) (aw_d q_Ln_printRow 4 rfl) fL_Ln_34_Tb rfl (gk hP.1.2.1) ?_
      refine aw_icmpN_ge (tgt := 51) (aw_d q_Ln_printRow 5 rfl) (by decide) (by (have hz1 := hW.1; omega)) (by (have hz1 := hW.1; omega)) (fun c7 => by exfalso; (have hz1 := hW.1; omega)) (fun c7 => ?_)
      refine aw_iload_n (aw_d q_Ln_printRow 6 rfl) rfl rfl ?_
      refine aw_ifN_le (tgt := 25) (aw_d q_Ln_printRow 7 rfl) (by decide) (by (have hz1 := hW.1; omega)) (fun c11 => ?_) (fun c11 => ?_)
      · have hse : ∀ c, w_se c v = [] := fun c => if_neg (by omega)
        refine aw_aload_n (aw_d q_Ln_printRow 13 rfl) rfl rfl rfl ?_
        refine aw_iload_n (aw_d q_Ln_printRow 14 rfl) rfl rfl ?_
        refine aw_iload_n (aw_d q_Ln_printRow 15 rfl) rfl rfl ?_
        refine cVr (aw_d q_Ln_printRow 16 rfl) (sp_cell hP hW hr (v := v) (by omega) (x := -1) (by rw [hc]; rfl)) vL_Ln_61_Tb rfl rfl rfl rfl rfl rfl ⟨aw_le rfl, aw_le rfl⟩ ?_
        refine aw_istore (aw_d q_Ln_printRow 17 rfl) (aw_le rfl) rfl ?_
        refine aw_iload (aw_d q_Ln_printRow 18 rfl) rfl ?_
        refine aw_iconst (v := (-1)) (aw_d q_Ln_printRow 19 rfl) (by decide) ?_
        refine aw_icmpZ_eq (tgt := 45) (aw_d q_Ln_printRow 20 rfl) (by decide) (fun c36 => ?_) (fun c36 => by exact absurd rfl c36)
        refine aw_iinc (aw_d q_Ln_printRow 24 rfl) rfl (ii1 _) (aw_le rfl) rfl ?_
        refine aw_goto (tgt := 2) (aw_d q_Ln_printRow 25 rfl) (by decide) ?_
        exact ih (v + 1) _ _ (by omega) (by rw [← e]; simp [catB, hse, w_ls, w_lc, w_lt, w_lm, w_le, hc])
      · have hse : ∀ c, w_se c v = [c] := fun c => if_pos c11
        refine aw_aload_n (aw_d q_Ln_printRow 8 rfl) rfl rfl rfl ?_
        refine aw_getf (aw_d q_Ln_printRow 9 rfl) fL_Ln_15_Cm rfl rfl ?_
        refine aw_aload_n (aw_d q_Ln_printRow 10 rfl) rfl rfl rfl ?_
        refine aw_getf (aw_d q_Ln_printRow 11 rfl) fL_Ln_27_Cm rfl rfl ?_
        refine cVv (aw_d q_Ln_printRow 12 rfl) (sp_add5 (b := nI 44)) vL_Ln_40_By rfl rfl rfl rfl rfl rfl ⟨aw_le rfl, aw_le rfl⟩ ?_
        refine aw_aload_n (aw_d q_Ln_printRow 13 rfl) rfl rfl rfl ?_
        refine aw_iload_n (aw_d q_Ln_printRow 14 rfl) rfl rfl ?_
        refine aw_iload_n (aw_d q_Ln_printRow 15 rfl) rfl rfl ?_
        refine cVr (aw_d q_Ln_printRow 16 rfl) (sp_cell hP hW hr (v := v) (by omega) (x := -1) (by rw [hc]; rfl)) vL_Ln_61_Tb rfl rfl rfl rfl rfl rfl ⟨aw_le rfl, aw_le rfl⟩ ?_
        refine aw_istore (aw_d q_Ln_printRow 17 rfl) (aw_le rfl) rfl ?_
        refine aw_iload (aw_d q_Ln_printRow 18 rfl) rfl ?_
        refine aw_iconst (v := (-1)) (aw_d q_Ln_printRow 19 rfl) (by decide) ?_
        refine aw_icmpZ_eq (tgt := 45) (aw_d q_Ln_printRow 20 rfl) (by decide) (fun c36 => ?_) (fun c36 => by exact absurd rfl c36)
        refine aw_iinc (aw_d q_Ln_printRow 24 rfl) rfl (ii1 _) (aw_le rfl) rfl ?_
        refine aw_goto (tgt := 2) (aw_d q_Ln_printRow 25 rfl) (by decide) ?_
        exact ih (v + 1) _ _ (by omega) (by rw [← e]; simp [catB, hse, w_ls, w_lc, w_lt, w_lm, w_le, hc])
    | some t =>
      have ht := hct t hc
      refine aw_iload_n (aw_d q_Ln_printRow 2 rfl) rfl rfl ?_
      refine aw_aload_n (aw_d q_Ln_printRow 3 rfl) rfl rfl rfl ?_
      refine aw_getf (v := .int (nI (xp_v P))) (aw_d q_Ln_printRow 4 rfl) fL_Ln_34_Tb rfl (gk hP.1.2.1) ?_
      refine aw_icmpN_ge (tgt := 51) (aw_d q_Ln_printRow 5 rfl) (by decide) (by (have hz1 := hW.1; omega)) (by (have hz1 := hW.1; omega)) (fun c7 => by exfalso; (have hz1 := hW.1; omega)) (fun c7 => ?_)
      refine aw_iload_n (aw_d q_Ln_printRow 6 rfl) rfl rfl ?_
      refine aw_ifN_le (tgt := 25) (aw_d q_Ln_printRow 7 rfl) (by decide) (by (have hz1 := hW.1; omega)) (fun c11 => ?_) (fun c11 => ?_)
      · have hse : ∀ c, w_se c v = [] := fun c => if_neg (by omega)
        refine aw_aload_n (aw_d q_Ln_printRow 13 rfl) rfl rfl rfl ?_
        refine aw_iload_n (aw_d q_Ln_printRow 14 rfl) rfl rfl ?_
        refine aw_iload_n (aw_d q_Ln_printRow 15 rfl) rfl rfl ?_
        refine cVr (aw_d q_Ln_printRow 16 rfl) (sp_cell hP hW hr (v := v) (by omega) (x := nI t) (by rw [hc]; rfl)) vL_Ln_61_Tb rfl rfl rfl rfl rfl rfl ⟨aw_le rfl, aw_le rfl⟩ ?_
        refine aw_istore (aw_d q_Ln_printRow 17 rfl) (aw_le rfl) rfl ?_
        refine aw_iload (aw_d q_Ln_printRow 18 rfl) rfl ?_
        refine aw_iconst (v := (-1)) (aw_d q_Ln_printRow 19 rfl) (by decide) ?_
        refine aw_icmpJ_eq (tgt := 45) (aw_d q_Ln_printRow 20 rfl) (by decide) (by (have hz1 := hW.1; omega)) (fun c36 => by have := nI_toInt (n := t) (by have := hW.1; omega); have h1 : (-1 : Int32).toInt = -1 := rfl; omega) (fun c36 => ?_)
        refine aw_aload_n (aw_d q_Ln_printRow 21 rfl) rfl rfl rfl ?_
        refine aw_iload (aw_d q_Ln_printRow 22 rfl) rfl ?_
        refine cVv (aw_d q_Ln_printRow 23 rfl) (sp_Cm_printTerm hP hW ht) vL_Ln_65_Cm rfl rfl rfl rfl rfl rfl ⟨aw_le rfl, aw_le rfl⟩ ?_
        refine aw_iinc (aw_d q_Ln_printRow 24 rfl) rfl (ii1 _) (aw_le rfl) rfl ?_
        refine aw_goto (tgt := 2) (aw_d q_Ln_printRow 25 rfl) (by decide) ?_
        exact ih (v + 1) _ _ (by omega) (by rw [← e]; simp [catB, hse, w_ls, w_lc, w_lt, w_lm, w_le, hc])
      · have hse : ∀ c, w_se c v = [c] := fun c => if_pos c11
        refine aw_aload_n (aw_d q_Ln_printRow 8 rfl) rfl rfl rfl ?_
        refine aw_getf (aw_d q_Ln_printRow 9 rfl) fL_Ln_15_Cm rfl rfl ?_
        refine aw_aload_n (aw_d q_Ln_printRow 10 rfl) rfl rfl rfl ?_
        refine aw_getf (aw_d q_Ln_printRow 11 rfl) fL_Ln_27_Cm rfl rfl ?_
        refine cVv (aw_d q_Ln_printRow 12 rfl) (sp_add5 (b := nI 44)) vL_Ln_40_By rfl rfl rfl rfl rfl rfl ⟨aw_le rfl, aw_le rfl⟩ ?_
        refine aw_aload_n (aw_d q_Ln_printRow 13 rfl) rfl rfl rfl ?_
        refine aw_iload_n (aw_d q_Ln_printRow 14 rfl) rfl rfl ?_
        refine aw_iload_n (aw_d q_Ln_printRow 15 rfl) rfl rfl ?_
        refine cVr (aw_d q_Ln_printRow 16 rfl) (sp_cell hP hW hr (v := v) (by omega) (x := nI t) (by rw [hc]; rfl)) vL_Ln_61_Tb rfl rfl rfl rfl rfl rfl ⟨aw_le rfl, aw_le rfl⟩ ?_
        refine aw_istore (aw_d q_Ln_printRow 17 rfl) (aw_le rfl) rfl ?_
        refine aw_iload (aw_d q_Ln_printRow 18 rfl) rfl ?_
        refine aw_iconst (v := (-1)) (aw_d q_Ln_printRow 19 rfl) (by decide) ?_
        refine aw_icmpJ_eq (tgt := 45) (aw_d q_Ln_printRow 20 rfl) (by decide) (by (have hz1 := hW.1; omega)) (fun c36 => by have := nI_toInt (n := t) (by have := hW.1; omega); have h1 : (-1 : Int32).toInt = -1 := rfl; omega) (fun c36 => ?_)
        refine aw_aload_n (aw_d q_Ln_printRow 21 rfl) rfl rfl rfl ?_
        refine aw_iload (aw_d q_Ln_printRow 22 rfl) rfl ?_
        refine cVv (aw_d q_Ln_printRow 23 rfl) (sp_Cm_printTerm hP hW ht) vL_Ln_65_Cm rfl rfl rfl rfl rfl rfl ⟨aw_le rfl, aw_le rfl⟩ ?_
        refine aw_iinc (aw_d q_Ln_printRow 24 rfl) rfl (ii1 _) (aw_le rfl) rfl ?_
        refine aw_goto (tgt := 2) (aw_d q_Ln_printRow 25 rfl) (by decide) ?_
        exact ih (v + 1) _ _ (by omega) (by rw [← e]; simp [catB, hse, w_ls, w_lc, w_lt, w_lm, w_le, hc])
set_option maxRecDepth 20000 in
theorem sp_Ln_printRow_31 {g : aw_G} {S : aw_S} {O : List Int32} {P : xp_T} (hP : xp_C S P) (hW : xp_wd P) {r : Nat} (hr : r < xp_r P) : Sp g M_Ln_printRow 8 175 0 0 [.ref 31, .ref 14, .int (nI r)] (HP (WS S O)) (fun r1 h => r1 = none ∧ h = HP (WS S (O ++ w_lr true P r))) := by
  refine Sp.of rfl (aw_le rfl) ?_
  refine aw_iconst (v := nI 0) (aw_d q_Ln_printRow 0 rfl) (by decide) ?_
  refine aw_istore_n (aw_d q_Ln_printRow 1 rfl) rfl (aw_le rfl) rfl ?_
  exact lp_Ln_printRow_31 hP hW hr (xp_v P) 0 _ _ (by omega) (by simp [w_lr])
set_option maxRecDepth 20000 in
theorem lp_Ln_print2_31 {g : aw_G} {S : aw_S} {O : List Int32} {P : xp_T} (hP : xp_C S P) (hW : xp_wd P) : ∀ (m r : Nat) (Q : List Int32), m + r = xp_r P → Q ++ catB (w_lr true P) m r = O ++ w_l true P → AW g M_Ln_print (aw_rm 9 199 0 0) (aw_F g 0 0 (fun r1 h => r1 = none ∧ h = HP (WS S (O ++ w_l true P)))) 64 [some (.ref 31), some (.ref 14), some (.int (nI r))] [] (HP (WS S Q)) 0 0 := by
  intro m
  induction m with
  | zero =>
    intro r Q hk e
    refine aw_iload_n (aw_d q_Ln_print 32 rfl) rfl rfl ?_
    refine aw_aload_n (aw_d q_Ln_print 33 rfl) rfl rfl rfl ?_
    refine aw_getf (v := .int (nI (xp_r P))) (aw_d q_Ln_print 34 rfl) fL_Ln_54_Tb rfl (gk hP.1.2.2) ?_
    refine aw_icmpN_ge (tgt := 84) (aw_d q_Ln_print 35 rfl) (by decide) (by (have hz1 := hW.1; omega)) (by (have hz1 := hW.1; omega)) (fun c69 => ?_) (fun c69 => by exfalso; (have hz1 := hW.1; omega))
    exact aw_vret (aw_d q_Ln_print 42 rfl) rfl (⟨rfl, by rw [← e]; simp [catB]⟩)
  | succ m ih =>
    intro r Q hk e
    refine aw_iload_n (aw_d q_Ln_print 32 rfl) rfl rfl ?_
    refine aw_aload_n (aw_d q_Ln_print 33 rfl) rfl rfl rfl ?_
    refine aw_getf (v := .int (nI (xp_r P))) (aw_d q_Ln_print 34 rfl) fL_Ln_54_Tb rfl (gk hP.1.2.2) ?_
    refine aw_icmpN_ge (tgt := 84) (aw_d q_Ln_print 35 rfl) (by decide) (by (have hz1 := hW.1; omega)) (by (have hz1 := hW.1; omega)) (fun c69 => by exfalso; (have hz1 := hW.1; omega)) (fun c69 => ?_)
    refine aw_aload_n (aw_d q_Ln_print 36 rfl) rfl rfl rfl ?_
    refine aw_aload_n (aw_d q_Ln_print 37 rfl) rfl rfl rfl ?_
    refine aw_iload_n (aw_d q_Ln_print 38 rfl) rfl rfl ?_
    refine cVv (aw_d q_Ln_print 39 rfl) (sp_Ln_printRow_31 hP hW (r := r) (by omega)) vL_Ln_57_Cm rfl rfl rfl rfl rfl rfl ⟨aw_le rfl, aw_le rfl⟩ ?_
    refine aw_iinc (aw_d q_Ln_print 40 rfl) rfl (ii1 _) (aw_le rfl) rfl ?_
    refine aw_goto (tgt := 64) (aw_d q_Ln_print 41 rfl) (by decide) ?_
    exact ih (r + 1) _ (by omega) (by rw [← e]; simp [catB, w_se])
set_option maxRecDepth 20000 in
theorem lp_Ln_print1_31 {g : aw_G} {S : aw_S} {O : List Int32} {P : xp_T} (hP : xp_C S P) (hW : xp_wd P) : ∀ (m v : Nat) (Q : List Int32), m + v = xp_v P → Q ++ (catB (fun v => w_se (w_ls true) v ++ (w_lm true ++ w_n P v)) m v ++ (w_le true ++ catB (w_lr true P) (xp_r P) 0)) = O ++ w_l true P → AW g M_Ln_print (aw_rm 9 199 0 0) (aw_F g 0 0 (fun r1 h => r1 = none ∧ h = HP (WS S (O ++ w_l true P)))) 2 [some (.ref 31), some (.ref 14), some (.int (nI v))] [] (HP (WS S Q)) 0 0 := by
  intro m
  induction m with
  | zero =>
    intro v Q hk e
    refine aw_iload_n (aw_d q_Ln_print 2 rfl) rfl rfl ?_
    refine aw_aload_n (aw_d q_Ln_print 3 rfl) rfl rfl rfl ?_
    refine aw_getf (v := .int (nI (xp_v P))) (aw_d q_Ln_print 4 rfl) fL_Ln_34_Tb rfl (gk hP.1.2.1) ?_
    refine aw_icmpN_ge (tgt := 51) (aw_d q_Ln_print 5 rfl) (by decide) (by (have hz1 := hW.1; omega)) (by (have hz1 := hW.1; omega)) (fun c7 => ?_) (fun c7 => by exfalso; (have hz1 := hW.1; omega))
    refine aw_aload_n (aw_d q_Ln_print 25 rfl) rfl rfl rfl ?_
    refine aw_getf (aw_d q_Ln_print 26 rfl) fL_Ln_15_Cm rfl rfl ?_
    refine aw_aload_n (aw_d q_Ln_print 27 rfl) rfl rfl rfl ?_
    refine aw_getf (aw_d q_Ln_print 28 rfl) fL_Ln_31_Cm rfl rfl ?_
    refine cVv (aw_d q_Ln_print 29 rfl) (sp_addAll (by decide)) vL_Ln_46_By rfl rfl rfl rfl rfl rfl ⟨aw_le rfl, aw_le rfl⟩ ?_
    refine aw_iconst (v := nI 0) (aw_d q_Ln_print 30 rfl) (by decide) ?_
    refine aw_istore_n (aw_d q_Ln_print 31 rfl) rfl (aw_le rfl) rfl ?_
    exact lp_Ln_print2_31 hP hW (xp_r P) 0 _ (by omega) (by rw [← e]; simp [catB, w_le])
  | succ m ih =>
    intro v Q hk e
    refine aw_iload_n (aw_d q_Ln_print 2 rfl) rfl rfl ?_
    refine aw_aload_n (aw_d q_Ln_print 3 rfl) rfl rfl rfl ?_
    refine aw_getf (v := .int (nI (xp_v P))) (aw_d q_Ln_print 4 rfl) fL_Ln_34_Tb rfl (gk hP.1.2.1) ?_
    refine aw_icmpN_ge (tgt := 51) (aw_d q_Ln_print 5 rfl) (by decide) (by (have hz1 := hW.1; omega)) (by (have hz1 := hW.1; omega)) (fun c7 => by exfalso; (have hz1 := hW.1; omega)) (fun c7 => ?_)
    refine aw_iload_n (aw_d q_Ln_print 6 rfl) rfl rfl ?_
    refine aw_ifN_le (tgt := 25) (aw_d q_Ln_print 7 rfl) (by decide) (by (have hz1 := hW.1; omega)) (fun c11 => ?_) (fun c11 => ?_)
    · refine aw_aload_n (aw_d q_Ln_print 13 rfl) rfl rfl rfl ?_
      refine aw_getf (aw_d q_Ln_print 14 rfl) fL_Ln_15_Cm rfl rfl ?_
      refine aw_aload_n (aw_d q_Ln_print 15 rfl) rfl rfl rfl ?_
      refine aw_getf (aw_d q_Ln_print 16 rfl) fL_Ln_23_Cm rfl rfl ?_
      refine cVv (aw_d q_Ln_print 17 rfl) (sp_addAll (by decide)) vL_Ln_46_By rfl rfl rfl rfl rfl rfl ⟨aw_le rfl, aw_le rfl⟩ ?_
      refine aw_aload_n (aw_d q_Ln_print 18 rfl) rfl rfl rfl ?_
      refine aw_iload_n (aw_d q_Ln_print 19 rfl) rfl rfl ?_
      refine aw_aload_n (aw_d q_Ln_print 20 rfl) rfl rfl rfl ?_
      refine aw_getf (aw_d q_Ln_print 21 rfl) fL_Ln_15_Cm rfl rfl ?_
      refine cVv (aw_d q_Ln_print 22 rfl) (sp_printName hP hW (v := v) (by omega)) vL_Ln_50_Tb rfl rfl rfl rfl rfl rfl ⟨aw_le rfl, aw_le rfl⟩ ?_
      refine aw_iinc (aw_d q_Ln_print 23 rfl) rfl (ii1 _) (aw_le rfl) rfl ?_
      refine aw_goto (tgt := 2) (aw_d q_Ln_print 24 rfl) (by decide) ?_
      exact ih (v + 1) _ (by omega) (by rw [← e]; simp [catB, w_se, w_ls, w_lm, c11])
    · refine aw_aload_n (aw_d q_Ln_print 8 rfl) rfl rfl rfl ?_
      refine aw_getf (aw_d q_Ln_print 9 rfl) fL_Ln_15_Cm rfl rfl ?_
      refine aw_aload_n (aw_d q_Ln_print 10 rfl) rfl rfl rfl ?_
      refine aw_getf (aw_d q_Ln_print 11 rfl) fL_Ln_27_Cm rfl rfl ?_
      refine cVv (aw_d q_Ln_print 12 rfl) (sp_add5 (b := nI 44)) vL_Ln_40_By rfl rfl rfl rfl rfl rfl ⟨aw_le rfl, aw_le rfl⟩ ?_
      refine aw_aload_n (aw_d q_Ln_print 13 rfl) rfl rfl rfl ?_
      refine aw_getf (aw_d q_Ln_print 14 rfl) fL_Ln_15_Cm rfl rfl ?_
      refine aw_aload_n (aw_d q_Ln_print 15 rfl) rfl rfl rfl ?_
      refine aw_getf (aw_d q_Ln_print 16 rfl) fL_Ln_23_Cm rfl rfl ?_
      refine cVv (aw_d q_Ln_print 17 rfl) (sp_addAll (by decide)) vL_Ln_46_By rfl rfl rfl rfl rfl rfl ⟨aw_le rfl, aw_le rfl⟩ ?_
      refine aw_aload_n (aw_d q_Ln_print 18 rfl) rfl rfl rfl ?_
      refine aw_iload_n (aw_d q_Ln_print 19 rfl) rfl rfl ?_
      refine aw_aload_n (aw_d q_Ln_print 20 rfl) rfl rfl rfl ?_
      refine aw_getf (aw_d q_Ln_print 21 rfl) fL_Ln_15_Cm rfl rfl ?_
      refine cVv (aw_d q_Ln_print 22 rfl) (sp_printName hP hW (v := v) (by omega)) vL_Ln_50_Tb rfl rfl rfl rfl rfl rfl ⟨aw_le rfl, aw_le rfl⟩ ?_
      refine aw_iinc (aw_d q_Ln_print 23 rfl) rfl (ii1 _) (aw_le rfl) rfl ?_
      refine aw_goto (tgt := 2) (aw_d q_Ln_print 24 rfl) (by decide) ?_
      exact ih (v + 1) _ (by omega) (by rw [← e]; simp [catB, w_se, w_ls, w_lm, c11])
set_option maxRecDepth 20000 in
theorem sp_Ln_print_31 {g : aw_G} {S : aw_S} {O : List Int32} {P : xp_T} (hP : xp_C S P) (hW : xp_wd P) : Sp g M_Ln_print 9 199 0 0 [.ref 31, .ref 14] (HP (WS S O)) (fun r h => r = none ∧ h = HP (WS S (O ++ w_l true P))) := by
  refine Sp.of rfl (aw_le rfl) ?_
  refine aw_iconst (v := nI 0) (aw_d q_Ln_print 0 rfl) (by decide) ?_
  refine aw_istore_n (aw_d q_Ln_print 1 rfl) rfl (aw_le rfl) rfl ?_
  exact lp_Ln_print1_31 hP hW (xp_v P) 0 _ (by omega) (by simp [w_l])
set_option maxRecDepth 20000 in
theorem lp_Ln_printRow_32 {g : aw_G} {S : aw_S} {O : List Int32} {P : xp_T} (hP : xp_C S P) (hW : xp_wd P) {r : Nat} (hr : r < xp_r P) : ∀ (m v : Nat) (Q : List Int32) (x4 : Option Value), m + v = xp_v P → Q ++ (catB (fun v => w_se (w_ls false) v ++ w_lc false P r v) m v ++ w_le false) = O ++ w_lr false P r → AW g M_Ln_printRow (aw_rm 8 175 0 0) (aw_F g 0 0 (fun r1 h => r1 = none ∧ h = HP (WS S (O ++ w_lr false P r)))) 2 [some (.ref 32), some (.ref 14), some (.int (nI r)), some (.int (nI v)), x4] [] (HP (WS S Q)) 0 0 := by
  intro m
  induction m with
  | zero =>
    intro v Q x4 hk e
    refine aw_iload_n (aw_d q_Ln_printRow 2 rfl) rfl rfl ?_
    refine aw_aload_n (aw_d q_Ln_printRow 3 rfl) rfl rfl rfl ?_
    refine aw_getf (v := .int (nI (xp_v P))) (aw_d q_Ln_printRow 4 rfl) fL_Ln_34_Tb rfl (gk hP.1.2.1) ?_
    refine aw_icmpN_ge (tgt := 51) (aw_d q_Ln_printRow 5 rfl) (by decide) (by (have hz1 := hW.1; omega)) (by (have hz1 := hW.1; omega)) (fun c7 => ?_) (fun c7 => by exfalso; (have hz1 := hW.1; omega))
    refine aw_aload_n (aw_d q_Ln_printRow 26 rfl) rfl rfl rfl ?_
    refine aw_getf (aw_d q_Ln_printRow 27 rfl) fL_Ln_15_Ta rfl rfl ?_
    refine aw_aload_n (aw_d q_Ln_printRow 28 rfl) rfl rfl rfl ?_
    refine aw_getf (aw_d q_Ln_printRow 29 rfl) fL_Ln_31_Ta rfl rfl ?_
    refine cVv (aw_d q_Ln_printRow 30 rfl) (sp_addAll (by decide)) vL_Ln_46_By rfl rfl rfl rfl rfl rfl ⟨aw_le rfl, aw_le rfl⟩ ?_
    exact aw_vret (aw_d q_Ln_printRow 31 rfl) rfl (⟨rfl, by rw [← e]; simp [catB, w_le]⟩)
  | succ m ih =>
    intro v Q x4 hk e
    have hct : ∀ t, xp_c P r v = some t → t < xp_t P := fun t h => hW.2.2.1 r v t hr (by omega) h
    cases hc : xp_c P r v with
    | none =>
      refine aw_iload_n (aw_d q_Ln_printRow 2 rfl) rfl rfl ?_
      refine aw_aload_n (aw_d q_Ln_printRow 3 rfl) rfl rfl rfl ?_
      refine aw_getf (v := .int (nI (xp_v P))) (aw_d q_Ln_printRow 4 rfl) fL_Ln_34_Tb rfl (gk hP.1.2.1) ?_
      refine aw_icmpN_ge (tgt := 51) (aw_d q_Ln_printRow 5 rfl) (by decide) (by (have hz1 := hW.1; omega)) (by (have hz1 := hW.1; omega)) (fun c7 => by exfalso; (have hz1 := hW.1; omega)) (fun c7 => ?_)
      refine aw_iload_n (aw_d q_Ln_printRow 6 rfl) rfl rfl ?_
      refine aw_ifN_le (tgt := 25) (aw_d q_Ln_printRow 7 rfl) (by decide) (by (have hz1 := hW.1; omega)) (fun c11 => ?_) (fun c11 => ?_)
      · have hse : ∀ c, w_se c v = [] := fun c => if_neg (by omega)
        refine aw_aload_n (aw_d q_Ln_printRow 13 rfl) rfl rfl rfl ?_
        refine aw_iload_n (aw_d q_Ln_printRow 14 rfl) rfl rfl ?_
        refine aw_iload_n (aw_d q_Ln_printRow 15 rfl) rfl rfl ?_
        refine cVr (aw_d q_Ln_printRow 16 rfl) (sp_cell hP hW hr (v := v) (by omega) (x := -1) (by rw [hc]; rfl)) vL_Ln_61_Tb rfl rfl rfl rfl rfl rfl ⟨aw_le rfl, aw_le rfl⟩ ?_
        refine aw_istore (aw_d q_Ln_printRow 17 rfl) (aw_le rfl) rfl ?_
        refine aw_iload (aw_d q_Ln_printRow 18 rfl) rfl ?_
        refine aw_iconst (v := (-1)) (aw_d q_Ln_printRow 19 rfl) (by decide) ?_
        refine aw_icmpZ_eq (tgt := 45) (aw_d q_Ln_printRow 20 rfl) (by decide) (fun c36 => ?_) (fun c36 => by exact absurd rfl c36)
        refine aw_iinc (aw_d q_Ln_printRow 24 rfl) rfl (ii1 _) (aw_le rfl) rfl ?_
        refine aw_goto (tgt := 2) (aw_d q_Ln_printRow 25 rfl) (by decide) ?_
        exact ih (v + 1) _ _ (by omega) (by rw [← e]; simp [catB, hse, w_ls, w_lc, w_lt, w_lm, w_le, hc])
      · have hse : ∀ c, w_se c v = [c] := fun c => if_pos c11
        refine aw_aload_n (aw_d q_Ln_printRow 8 rfl) rfl rfl rfl ?_
        refine aw_getf (aw_d q_Ln_printRow 9 rfl) fL_Ln_15_Ta rfl rfl ?_
        refine aw_aload_n (aw_d q_Ln_printRow 10 rfl) rfl rfl rfl ?_
        refine aw_getf (aw_d q_Ln_printRow 11 rfl) fL_Ln_27_Ta rfl rfl ?_
        refine cVv (aw_d q_Ln_printRow 12 rfl) (sp_add5 (b := nI 9)) vL_Ln_40_By rfl rfl rfl rfl rfl rfl ⟨aw_le rfl, aw_le rfl⟩ ?_
        refine aw_aload_n (aw_d q_Ln_printRow 13 rfl) rfl rfl rfl ?_
        refine aw_iload_n (aw_d q_Ln_printRow 14 rfl) rfl rfl ?_
        refine aw_iload_n (aw_d q_Ln_printRow 15 rfl) rfl rfl ?_
        refine cVr (aw_d q_Ln_printRow 16 rfl) (sp_cell hP hW hr (v := v) (by omega) (x := -1) (by rw [hc]; rfl)) vL_Ln_61_Tb rfl rfl rfl rfl rfl rfl ⟨aw_le rfl, aw_le rfl⟩ ?_
        refine aw_istore (aw_d q_Ln_printRow 17 rfl) (aw_le rfl) rfl ?_
        refine aw_iload (aw_d q_Ln_printRow 18 rfl) rfl ?_
        refine aw_iconst (v := (-1)) (aw_d q_Ln_printRow 19 rfl) (by decide) ?_
        refine aw_icmpZ_eq (tgt := 45) (aw_d q_Ln_printRow 20 rfl) (by decide) (fun c36 => ?_) (fun c36 => by exact absurd rfl c36)
        refine aw_iinc (aw_d q_Ln_printRow 24 rfl) rfl (ii1 _) (aw_le rfl) rfl ?_
        refine aw_goto (tgt := 2) (aw_d q_Ln_printRow 25 rfl) (by decide) ?_
        exact ih (v + 1) _ _ (by omega) (by rw [← e]; simp [catB, hse, w_ls, w_lc, w_lt, w_lm, w_le, hc])
    | some t =>
      have ht := hct t hc
      refine aw_iload_n (aw_d q_Ln_printRow 2 rfl) rfl rfl ?_
      refine aw_aload_n (aw_d q_Ln_printRow 3 rfl) rfl rfl rfl ?_
      refine aw_getf (v := .int (nI (xp_v P))) (aw_d q_Ln_printRow 4 rfl) fL_Ln_34_Tb rfl (gk hP.1.2.1) ?_
      refine aw_icmpN_ge (tgt := 51) (aw_d q_Ln_printRow 5 rfl) (by decide) (by (have hz1 := hW.1; omega)) (by (have hz1 := hW.1; omega)) (fun c7 => by exfalso; (have hz1 := hW.1; omega)) (fun c7 => ?_)
      refine aw_iload_n (aw_d q_Ln_printRow 6 rfl) rfl rfl ?_
      refine aw_ifN_le (tgt := 25) (aw_d q_Ln_printRow 7 rfl) (by decide) (by (have hz1 := hW.1; omega)) (fun c11 => ?_) (fun c11 => ?_)
      · have hse : ∀ c, w_se c v = [] := fun c => if_neg (by omega)
        refine aw_aload_n (aw_d q_Ln_printRow 13 rfl) rfl rfl rfl ?_
        refine aw_iload_n (aw_d q_Ln_printRow 14 rfl) rfl rfl ?_
        refine aw_iload_n (aw_d q_Ln_printRow 15 rfl) rfl rfl ?_
        refine cVr (aw_d q_Ln_printRow 16 rfl) (sp_cell hP hW hr (v := v) (by omega) (x := nI t) (by rw [hc]; rfl)) vL_Ln_61_Tb rfl rfl rfl rfl rfl rfl ⟨aw_le rfl, aw_le rfl⟩ ?_
        refine aw_istore (aw_d q_Ln_printRow 17 rfl) (aw_le rfl) rfl ?_
        refine aw_iload (aw_d q_Ln_printRow 18 rfl) rfl ?_
        refine aw_iconst (v := (-1)) (aw_d q_Ln_printRow 19 rfl) (by decide) ?_
        refine aw_icmpJ_eq (tgt := 45) (aw_d q_Ln_printRow 20 rfl) (by decide) (by (have hz1 := hW.1; omega)) (fun c36 => by have := nI_toInt (n := t) (by have := hW.1; omega); have h1 : (-1 : Int32).toInt = -1 := rfl; omega) (fun c36 => ?_)
        refine aw_aload_n (aw_d q_Ln_printRow 21 rfl) rfl rfl rfl ?_
        refine aw_iload (aw_d q_Ln_printRow 22 rfl) rfl ?_
        refine cVv (aw_d q_Ln_printRow 23 rfl) (sp_Ta_printTerm hP hW ht) vL_Ln_65_Ta rfl rfl rfl rfl rfl rfl ⟨aw_le rfl, aw_le rfl⟩ ?_
        refine aw_iinc (aw_d q_Ln_printRow 24 rfl) rfl (ii1 _) (aw_le rfl) rfl ?_
        refine aw_goto (tgt := 2) (aw_d q_Ln_printRow 25 rfl) (by decide) ?_
        exact ih (v + 1) _ _ (by omega) (by rw [← e]; simp [catB, hse, w_ls, w_lc, w_lt, w_lm, w_le, hc])
      · have hse : ∀ c, w_se c v = [c] := fun c => if_pos c11
        refine aw_aload_n (aw_d q_Ln_printRow 8 rfl) rfl rfl rfl ?_
        refine aw_getf (aw_d q_Ln_printRow 9 rfl) fL_Ln_15_Ta rfl rfl ?_
        refine aw_aload_n (aw_d q_Ln_printRow 10 rfl) rfl rfl rfl ?_
        refine aw_getf (aw_d q_Ln_printRow 11 rfl) fL_Ln_27_Ta rfl rfl ?_
        refine cVv (aw_d q_Ln_printRow 12 rfl) (sp_add5 (b := nI 9)) vL_Ln_40_By rfl rfl rfl rfl rfl rfl ⟨aw_le rfl, aw_le rfl⟩ ?_
        refine aw_aload_n (aw_d q_Ln_printRow 13 rfl) rfl rfl rfl ?_
        refine aw_iload_n (aw_d q_Ln_printRow 14 rfl) rfl rfl ?_
        refine aw_iload_n (aw_d q_Ln_printRow 15 rfl) rfl rfl ?_
        refine cVr (aw_d q_Ln_printRow 16 rfl) (sp_cell hP hW hr (v := v) (by omega) (x := nI t) (by rw [hc]; rfl)) vL_Ln_61_Tb rfl rfl rfl rfl rfl rfl ⟨aw_le rfl, aw_le rfl⟩ ?_
        refine aw_istore (aw_d q_Ln_printRow 17 rfl) (aw_le rfl) rfl ?_
        refine aw_iload (aw_d q_Ln_printRow 18 rfl) rfl ?_
        refine aw_iconst (v := (-1)) (aw_d q_Ln_printRow 19 rfl) (by decide) ?_
        refine aw_icmpJ_eq (tgt := 45) (aw_d q_Ln_printRow 20 rfl) (by decide) (by (have hz1 := hW.1; omega)) (fun c36 => by have := nI_toInt (n := t) (by have := hW.1; omega); have h1 : (-1 : Int32).toInt = -1 := rfl; omega) (fun c36 => ?_)
        refine aw_aload_n (aw_d q_Ln_printRow 21 rfl) rfl rfl rfl ?_
        refine aw_iload (aw_d q_Ln_printRow 22 rfl) rfl ?_
        refine cVv (aw_d q_Ln_printRow 23 rfl) (sp_Ta_printTerm hP hW ht) vL_Ln_65_Ta rfl rfl rfl rfl rfl rfl ⟨aw_le rfl, aw_le rfl⟩ ?_
        refine aw_iinc (aw_d q_Ln_printRow 24 rfl) rfl (ii1 _) (aw_le rfl) rfl ?_
        refine aw_goto (tgt := 2) (aw_d q_Ln_printRow 25 rfl) (by decide) ?_
        exact ih (v + 1) _ _ (by omega) (by rw [← e]; simp [catB, hse, w_ls, w_lc, w_lt, w_lm, w_le, hc])
set_option maxRecDepth 20000 in
theorem sp_Ln_printRow_32 {g : aw_G} {S : aw_S} {O : List Int32} {P : xp_T} (hP : xp_C S P) (hW : xp_wd P) {r : Nat} (hr : r < xp_r P) : Sp g M_Ln_printRow 8 175 0 0 [.ref 32, .ref 14, .int (nI r)] (HP (WS S O)) (fun r1 h => r1 = none ∧ h = HP (WS S (O ++ w_lr false P r))) := by
  refine Sp.of rfl (aw_le rfl) ?_
  refine aw_iconst (v := nI 0) (aw_d q_Ln_printRow 0 rfl) (by decide) ?_
  refine aw_istore_n (aw_d q_Ln_printRow 1 rfl) rfl (aw_le rfl) rfl ?_
  exact lp_Ln_printRow_32 hP hW hr (xp_v P) 0 _ _ (by omega) (by simp [w_lr])
set_option maxRecDepth 20000 in
theorem lp_Ln_print2_32 {g : aw_G} {S : aw_S} {O : List Int32} {P : xp_T} (hP : xp_C S P) (hW : xp_wd P) : ∀ (m r : Nat) (Q : List Int32), m + r = xp_r P → Q ++ catB (w_lr false P) m r = O ++ w_l false P → AW g M_Ln_print (aw_rm 9 199 0 0) (aw_F g 0 0 (fun r1 h => r1 = none ∧ h = HP (WS S (O ++ w_l false P)))) 64 [some (.ref 32), some (.ref 14), some (.int (nI r))] [] (HP (WS S Q)) 0 0 := by
  intro m
  induction m with
  | zero =>
    intro r Q hk e
    refine aw_iload_n (aw_d q_Ln_print 32 rfl) rfl rfl ?_
    refine aw_aload_n (aw_d q_Ln_print 33 rfl) rfl rfl rfl ?_
    refine aw_getf (v := .int (nI (xp_r P))) (aw_d q_Ln_print 34 rfl) fL_Ln_54_Tb rfl (gk hP.1.2.2) ?_
    refine aw_icmpN_ge (tgt := 84) (aw_d q_Ln_print 35 rfl) (by decide) (by (have hz1 := hW.1; omega)) (by (have hz1 := hW.1; omega)) (fun c69 => ?_) (fun c69 => by exfalso; (have hz1 := hW.1; omega))
    exact aw_vret (aw_d q_Ln_print 42 rfl) rfl (⟨rfl, by rw [← e]; simp [catB]⟩)
  | succ m ih =>
    intro r Q hk e
    refine aw_iload_n (aw_d q_Ln_print 32 rfl) rfl rfl ?_
    refine aw_aload_n (aw_d q_Ln_print 33 rfl) rfl rfl rfl ?_
    refine aw_getf (v := .int (nI (xp_r P))) (aw_d q_Ln_print 34 rfl) fL_Ln_54_Tb rfl (gk hP.1.2.2) ?_
    refine aw_icmpN_ge (tgt := 84) (aw_d q_Ln_print 35 rfl) (by decide) (by (have hz1 := hW.1; omega)) (by (have hz1 := hW.1; omega)) (fun c69 => by exfalso; (have hz1 := hW.1; omega)) (fun c69 => ?_)
    refine aw_aload_n (aw_d q_Ln_print 36 rfl) rfl rfl rfl ?_
    refine aw_aload_n (aw_d q_Ln_print 37 rfl) rfl rfl rfl ?_
    refine aw_iload_n (aw_d q_Ln_print 38 rfl) rfl rfl ?_
    refine cVv (aw_d q_Ln_print 39 rfl) (sp_Ln_printRow_32 hP hW (r := r) (by omega)) vL_Ln_57_Ta rfl rfl rfl rfl rfl rfl ⟨aw_le rfl, aw_le rfl⟩ ?_
    refine aw_iinc (aw_d q_Ln_print 40 rfl) rfl (ii1 _) (aw_le rfl) rfl ?_
    refine aw_goto (tgt := 64) (aw_d q_Ln_print 41 rfl) (by decide) ?_
    exact ih (r + 1) _ (by omega) (by rw [← e]; simp [catB, w_se])
set_option maxRecDepth 20000 in
theorem lp_Ln_print1_32 {g : aw_G} {S : aw_S} {O : List Int32} {P : xp_T} (hP : xp_C S P) (hW : xp_wd P) : ∀ (m v : Nat) (Q : List Int32), m + v = xp_v P → Q ++ (catB (fun v => w_se (w_ls false) v ++ (w_lm false ++ w_n P v)) m v ++ (w_le false ++ catB (w_lr false P) (xp_r P) 0)) = O ++ w_l false P → AW g M_Ln_print (aw_rm 9 199 0 0) (aw_F g 0 0 (fun r1 h => r1 = none ∧ h = HP (WS S (O ++ w_l false P)))) 2 [some (.ref 32), some (.ref 14), some (.int (nI v))] [] (HP (WS S Q)) 0 0 := by
  intro m
  induction m with
  | zero =>
    intro v Q hk e
    refine aw_iload_n (aw_d q_Ln_print 2 rfl) rfl rfl ?_
    refine aw_aload_n (aw_d q_Ln_print 3 rfl) rfl rfl rfl ?_
    refine aw_getf (v := .int (nI (xp_v P))) (aw_d q_Ln_print 4 rfl) fL_Ln_34_Tb rfl (gk hP.1.2.1) ?_
    refine aw_icmpN_ge (tgt := 51) (aw_d q_Ln_print 5 rfl) (by decide) (by (have hz1 := hW.1; omega)) (by (have hz1 := hW.1; omega)) (fun c7 => ?_) (fun c7 => by exfalso; (have hz1 := hW.1; omega))
    refine aw_aload_n (aw_d q_Ln_print 25 rfl) rfl rfl rfl ?_
    refine aw_getf (aw_d q_Ln_print 26 rfl) fL_Ln_15_Ta rfl rfl ?_
    refine aw_aload_n (aw_d q_Ln_print 27 rfl) rfl rfl rfl ?_
    refine aw_getf (aw_d q_Ln_print 28 rfl) fL_Ln_31_Ta rfl rfl ?_
    refine cVv (aw_d q_Ln_print 29 rfl) (sp_addAll (by decide)) vL_Ln_46_By rfl rfl rfl rfl rfl rfl ⟨aw_le rfl, aw_le rfl⟩ ?_
    refine aw_iconst (v := nI 0) (aw_d q_Ln_print 30 rfl) (by decide) ?_
    refine aw_istore_n (aw_d q_Ln_print 31 rfl) rfl (aw_le rfl) rfl ?_
    exact lp_Ln_print2_32 hP hW (xp_r P) 0 _ (by omega) (by rw [← e]; simp [catB, w_le])
  | succ m ih =>
    intro v Q hk e
    refine aw_iload_n (aw_d q_Ln_print 2 rfl) rfl rfl ?_
    refine aw_aload_n (aw_d q_Ln_print 3 rfl) rfl rfl rfl ?_
    refine aw_getf (v := .int (nI (xp_v P))) (aw_d q_Ln_print 4 rfl) fL_Ln_34_Tb rfl (gk hP.1.2.1) ?_
    refine aw_icmpN_ge (tgt := 51) (aw_d q_Ln_print 5 rfl) (by decide) (by (have hz1 := hW.1; omega)) (by (have hz1 := hW.1; omega)) (fun c7 => by exfalso; (have hz1 := hW.1; omega)) (fun c7 => ?_)
    refine aw_iload_n (aw_d q_Ln_print 6 rfl) rfl rfl ?_
    refine aw_ifN_le (tgt := 25) (aw_d q_Ln_print 7 rfl) (by decide) (by (have hz1 := hW.1; omega)) (fun c11 => ?_) (fun c11 => ?_)
    · refine aw_aload_n (aw_d q_Ln_print 13 rfl) rfl rfl rfl ?_
      refine aw_getf (aw_d q_Ln_print 14 rfl) fL_Ln_15_Ta rfl rfl ?_
      refine aw_aload_n (aw_d q_Ln_print 15 rfl) rfl rfl rfl ?_
      refine aw_getf (aw_d q_Ln_print 16 rfl) fL_Ln_23_Ta rfl rfl ?_
      refine cVv (aw_d q_Ln_print 17 rfl) (sp_addAll (by decide)) vL_Ln_46_By rfl rfl rfl rfl rfl rfl ⟨aw_le rfl, aw_le rfl⟩ ?_
      refine aw_aload_n (aw_d q_Ln_print 18 rfl) rfl rfl rfl ?_
      refine aw_iload_n (aw_d q_Ln_print 19 rfl) rfl rfl ?_
      refine aw_aload_n (aw_d q_Ln_print 20 rfl) rfl rfl rfl ?_
      refine aw_getf (aw_d q_Ln_print 21 rfl) fL_Ln_15_Ta rfl rfl ?_
      refine cVv (aw_d q_Ln_print 22 rfl) (sp_printName hP hW (v := v) (by omega)) vL_Ln_50_Tb rfl rfl rfl rfl rfl rfl ⟨aw_le rfl, aw_le rfl⟩ ?_
      refine aw_iinc (aw_d q_Ln_print 23 rfl) rfl (ii1 _) (aw_le rfl) rfl ?_
      refine aw_goto (tgt := 2) (aw_d q_Ln_print 24 rfl) (by decide) ?_
      exact ih (v + 1) _ (by omega) (by rw [← e]; simp [catB, w_se, w_ls, w_lm, c11])
    · refine aw_aload_n (aw_d q_Ln_print 8 rfl) rfl rfl rfl ?_
      refine aw_getf (aw_d q_Ln_print 9 rfl) fL_Ln_15_Ta rfl rfl ?_
      refine aw_aload_n (aw_d q_Ln_print 10 rfl) rfl rfl rfl ?_
      refine aw_getf (aw_d q_Ln_print 11 rfl) fL_Ln_27_Ta rfl rfl ?_
      refine cVv (aw_d q_Ln_print 12 rfl) (sp_add5 (b := nI 9)) vL_Ln_40_By rfl rfl rfl rfl rfl rfl ⟨aw_le rfl, aw_le rfl⟩ ?_
      refine aw_aload_n (aw_d q_Ln_print 13 rfl) rfl rfl rfl ?_
      refine aw_getf (aw_d q_Ln_print 14 rfl) fL_Ln_15_Ta rfl rfl ?_
      refine aw_aload_n (aw_d q_Ln_print 15 rfl) rfl rfl rfl ?_
      refine aw_getf (aw_d q_Ln_print 16 rfl) fL_Ln_23_Ta rfl rfl ?_
      refine cVv (aw_d q_Ln_print 17 rfl) (sp_addAll (by decide)) vL_Ln_46_By rfl rfl rfl rfl rfl rfl ⟨aw_le rfl, aw_le rfl⟩ ?_
      refine aw_aload_n (aw_d q_Ln_print 18 rfl) rfl rfl rfl ?_
      refine aw_iload_n (aw_d q_Ln_print 19 rfl) rfl rfl ?_
      refine aw_aload_n (aw_d q_Ln_print 20 rfl) rfl rfl rfl ?_
      refine aw_getf (aw_d q_Ln_print 21 rfl) fL_Ln_15_Ta rfl rfl ?_
      refine cVv (aw_d q_Ln_print 22 rfl) (sp_printName hP hW (v := v) (by omega)) vL_Ln_50_Tb rfl rfl rfl rfl rfl rfl ⟨aw_le rfl, aw_le rfl⟩ ?_
      refine aw_iinc (aw_d q_Ln_print 23 rfl) rfl (ii1 _) (aw_le rfl) rfl ?_
      refine aw_goto (tgt := 2) (aw_d q_Ln_print 24 rfl) (by decide) ?_
      exact ih (v + 1) _ (by omega) (by rw [← e]; simp [catB, w_se, w_ls, w_lm, c11])
set_option maxRecDepth 20000 in
theorem sp_Ln_print_32 {g : aw_G} {S : aw_S} {O : List Int32} {P : xp_T} (hP : xp_C S P) (hW : xp_wd P) : Sp g M_Ln_print 9 199 0 0 [.ref 32, .ref 14] (HP (WS S O)) (fun r h => r = none ∧ h = HP (WS S (O ++ w_l false P))) := by
  refine Sp.of rfl (aw_le rfl) ?_
  refine aw_iconst (v := nI 0) (aw_d q_Ln_print 0 rfl) (by decide) ?_
  refine aw_istore_n (aw_d q_Ln_print 1 rfl) rfl (aw_le rfl) rfl ?_
  exact lp_Ln_print1_32 hP hW (xp_v P) 0 _ (by omega) (by simp [w_l])
