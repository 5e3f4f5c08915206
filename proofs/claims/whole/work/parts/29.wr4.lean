theorem WS_get {S : aw_S} {O : List Int32} {k : Nat} (h : k < O.length) (hO : O.length ≤ 3000) : (WS S O).2 6 k = O.getD k 0 := by
  show WA O (S.2 6) k = _
  rw [WA, if_pos (by omega)]
theorem WS_501 {S : aw_S} {O : List Int32} (hO : O.length ≤ 3000) : (WS S O).1 501 = nI O.length := by
  show nI (min O.length 3000) = _
  rw [Nat.min_eq_left hO]
set_option maxRecDepth 20000 in
theorem lp_copyFrom {g : aw_G} {S : aw_S} {O : List Int32} (hO : O.length ≤ 3000) : ∀ (m k : Nat) (A : Nat → Int32), m + k = O.length → (∀ i, i < k → A i = O.getD i 0) → AW g M_By_copyFrom (aw_rm 1 21 0 0) (aw_F g 0 0 (fun r h => r = none ∧ ∃ A : Nat → Int32, h = HP (si (si (sa (WS S O) 4 A) 301 (nI (O.length))) 302 (nI 0)) ∧ ∀ i, i < O.length → A i = O.getD i 0)) 6 [some (.ref 3), some (.ref 5), some (.int (nI k))] [] (HP (si (si (sa (WS S O) 4 A) 301 (nI k)) 302 (nI 0))) 0 0 := by
  intro m
  induction m with
  | zero =>
    intro k A hk e
    refine aw_iload_n (aw_d q_By_copyFrom 4 rfl) rfl rfl ?_
    refine aw_aload_n (aw_d q_By_copyFrom 5 rfl) rfl rfl rfl ?_
    refine aw_getf (v := .int (nI (O.length))) (aw_d q_By_copyFrom 6 rfl) fL_By_15_By rfl (gk (WS_501 (S := S) hO)) ?_
    refine aw_icmpN_ge (tgt := 29) (aw_d q_By_copyFrom 7 rfl) (by decide) (by omega) (by omega) (fun c11 => ?_) (fun c11 => by exfalso; omega)
    exact aw_vret (aw_d q_By_copyFrom 15 rfl) rfl (⟨rfl, A, by rw [show k = O.length by omega], fun i hi => e i (by omega)⟩)
  | succ m ih =>
    intro k A hk e
    refine aw_iload_n (aw_d q_By_copyFrom 4 rfl) rfl rfl ?_
    refine aw_aload_n (aw_d q_By_copyFrom 5 rfl) rfl rfl rfl ?_
    refine aw_getf (v := .int (nI (O.length))) (aw_d q_By_copyFrom 6 rfl) fL_By_15_By rfl (gk (WS_501 (S := S) hO)) ?_
    refine aw_icmpN_ge (tgt := 29) (aw_d q_By_copyFrom 7 rfl) (by decide) (by omega) (by omega) (fun c11 => by exfalso; omega) (fun c11 => ?_)
    refine aw_aload_n (aw_d q_By_copyFrom 8 rfl) rfl rfl rfl ?_
    refine aw_aload_n (aw_d q_By_copyFrom 9 rfl) rfl rfl rfl ?_
    refine aw_iload_n (aw_d q_By_copyFrom 10 rfl) rfl rfl ?_
    refine cVr (aw_d q_By_copyFrom 11 rfl) (sp_By_get_5 (S := si (si (sa (WS S O) 4 A) 301 (nI k)) 302 (nI 0)) (n := O.length) (k := k) (WS_501 (S := S) hO) hO (by omega)) vL_By_39_By rfl rfl rfl rfl rfl rfl ⟨aw_le rfl, aw_le rfl⟩ ?_
    refine cVv (aw_d q_By_copyFrom 12 rfl) (sp_By_add_3 (n := k) rfl (by omega)) vL_By_32_By rfl rfl rfl rfl rfl rfl ⟨aw_le rfl, aw_le rfl⟩ ?_
    refine aw_iinc (aw_d q_By_copyFrom 13 rfl) rfl (ii1 _) (aw_le rfl) rfl ?_
    refine aw_goto (tgt := 6) (aw_d q_By_copyFrom 14 rfl) (by decide) ?_
    refine AW.to (ih (k + 1) (upd A k (O.getD k 0)) (by omega) (fun i hi => ?_)) rfl rfl rfl (by rw [← WS_get (S := S) (O := O) (k := k) (by omega) hO]; rfl)
    by_cases hik : i = k
    · rw [hik]; exact pk_us
    · rw [pk_un hik]; exact e i (by omega)
set_option maxRecDepth 20000 in
theorem sp_copyFrom {g : aw_G} {S : aw_S} {O : List Int32} (hO : O.length ≤ 3000) : Sp g M_By_copyFrom 1 21 0 0 [.ref 3, .ref 5] (HP (WS S O)) (fun r h => r = none ∧ ∃ A : Nat → Int32, h = HP (si (si (sa (WS S O) 4 A) 301 (nI (O.length))) 302 (nI 0)) ∧ ∀ i, i < O.length → A i = O.getD i 0) := by
  refine Sp.of rfl (aw_le rfl) ?_
  refine aw_aload_n (aw_d q_By_copyFrom 0 rfl) rfl rfl rfl ?_
  refine cVv (aw_d q_By_copyFrom 1 rfl) (sp_By_empty_3) vL_By_36_By rfl rfl rfl rfl rfl rfl ⟨aw_le rfl, aw_le rfl⟩ ?_
  refine aw_iconst (v := nI 0) (aw_d q_By_copyFrom 2 rfl) (by decide) ?_
  refine aw_istore_n (aw_d q_By_copyFrom 3 rfl) rfl (aw_le rfl) rfl ?_
  exact AW.to (lp_copyFrom hO _ 0 ((WS S O).2 4) rfl (fun i hi => by omega)) rfl rfl rfl rfl
set_option maxRecDepth 20000 in
theorem sp_publish {g : aw_G} {S : aw_S} {O : List Int32} (hO : O.length ≤ 3000) : Sp g M_RF_publish 2 43 0 0 [.ref 0] (HP (WS S O)) (fun r h => r = some (.int (nI (O).length)) ∧ ∃ A : Nat → Int32, h = HP (si (si (sa (WS S (O)) 4 A) 301 (nI (O).length)) 302 (nI 0)) ∧ ∀ i, i < (O).length → A i = (O).getD i 0) := by
  refine Sp.of rfl (aw_le rfl) ?_
  refine aw_aload_n (aw_d q_RF_publish 0 rfl) rfl rfl rfl ?_
  refine aw_getf (aw_d q_RF_publish 1 rfl) fL_RF_19_RF rfl rfl ?_
  refine aw_getf (v := .int (nI (0))) (aw_d q_RF_publish 2 rfl) fL_RF_234_By rfl (gk (show (if 3000 < O.length then nI 1 else nI 0) = nI 0 by rw [if_neg (by omega)])) ?_
  refine aw_ifN_eq (tgt := 13) (aw_d q_RF_publish 3 rfl) (by decide) (by omega) (fun c7 => ?_) (fun c7 => by exfalso; omega)
  refine aw_aload_n (aw_d q_RF_publish 6 rfl) rfl rfl rfl ?_
  refine aw_getf (aw_d q_RF_publish 7 rfl) fL_RF_16_RF rfl rfl ?_
  refine aw_aload_n (aw_d q_RF_publish 8 rfl) rfl rfl rfl ?_
  refine aw_getf (aw_d q_RF_publish 9 rfl) fL_RF_19_RF rfl rfl ?_
  refine cV (aw_d q_RF_publish 10 rfl) (sp_copyFrom hO) vL_RF_237_By rfl rfl rfl rfl rfl rfl ⟨aw_le rfl, aw_le rfl⟩ (fun r21 h21 hp21 => ?_)
  obtain ⟨rfl, A, rfl, hA⟩ := hp21
  refine aw_aload_n (aw_d q_RF_publish 11 rfl) rfl rfl rfl ?_
  refine aw_getf (aw_d q_RF_publish 12 rfl) fL_RF_16_RF rfl rfl ?_
  refine aw_getf (v := .int (nI (O.length))) (aw_d q_RF_publish 13 rfl) fL_RF_100_By rfl (gk rfl) ?_
  exact aw_iret (aw_d q_RF_publish 14 rfl) rfl (⟨rfl, A, rfl, hA⟩)
set_option maxRecDepth 20000 in
theorem sp_publishF {g : aw_G} {S : aw_S} {O : List Int32} (hO : 3000 < O.length) : Sp g M_RF_publish 2 43 0 0 [.ref 0] (HP (WS S O)) (fun r h => r = some (.int (-3)) ∧ h = HP (WS S O)) := by
  refine Sp.of rfl (aw_le rfl) ?_
  refine aw_aload_n (aw_d q_RF_publish 0 rfl) rfl rfl rfl ?_
  refine aw_getf (aw_d q_RF_publish 1 rfl) fL_RF_19_RF rfl rfl ?_
  refine aw_getf (v := .int (nI (1))) (aw_d q_RF_publish 2 rfl) fL_RF_234_By rfl (gk (show (if 3000 < O.length then nI 1 else nI 0) = nI 1 by rw [if_pos hO])) ?_
  refine aw_ifN_eq (tgt := 13) (aw_d q_RF_publish 3 rfl) (by decide) (by omega) (fun c7 => by exfalso; omega) (fun c7 => ?_)
  refine aw_bipush (v := (-3)) (aw_d q_RF_publish 4 rfl) (by decide) ?_
  exact aw_iret (aw_d q_RF_publish 5 rfl) rfl (⟨rfl, rfl⟩)
set_option maxRecDepth 20000 in
theorem sp_RF_write_0 {g : aw_G} {S : aw_S} {P : xp_T} (hP : xp_C S P) (hW : xp_wd P) (hL : (w_j P).length ≤ 3000) : Sp g M_RF_write 10 221 0 0 [.ref 0, .int (nI 0)] (HP S) (fun r h => r = some (.int (nI (w_j P).length)) ∧ ∃ A : Nat → Int32, h = HP (si (si (sa (WS S (w_j P)) 4 A) 301 (nI (w_j P).length)) 302 (nI 0)) ∧ ∀ i, i < (w_j P).length → A i = (w_j P).getD i 0) := by
  refine Sp.of rfl (aw_le rfl) ?_
  refine aw_aload_n (aw_d q_RF_write 0 rfl) rfl rfl rfl ?_
  refine aw_getf (aw_d q_RF_write 1 rfl) fL_RF_19_RF rfl rfl ?_
  refine cVv (aw_d q_RF_write 2 rfl) (sp_By_empty_5) vL_RF_112_By rfl rfl rfl rfl rfl rfl ⟨aw_le rfl, aw_le rfl⟩ ?_
  rw [WS_nil]
  refine aw_iload_n (aw_d q_RF_write 3 rfl) rfl rfl ?_
  have hsx8 : (nI (0)).toInt = ((0 : Nat) : Int) := nI_toInt (by omega)
  have hsw : (nI (0)).toInt = 0 := by omega
  refine aw_tableIn (tgt := 40) (aw_d q_RF_write 4 rfl) (by omega) (by omega) (by rw [hsw]; rfl) (by decide) ?_
  refine aw_aload_n (aw_d q_RF_write 5 rfl) rfl rfl rfl ?_
  refine aw_getf (aw_d q_RF_write 6 rfl) fL_RF_67_RF rfl rfl ?_
  refine aw_aload_n (aw_d q_RF_write 7 rfl) rfl rfl rfl ?_
  refine aw_getf (aw_d q_RF_write 8 rfl) fL_RF_39_RF rfl rfl ?_
  refine cVv (aw_d q_RF_write 9 rfl) (sp_Js_print (O := []) hP hW) vL_RF_183_Js rfl rfl rfl rfl rfl rfl ⟨aw_le rfl, aw_le rfl⟩ ?_
  refine aw_goto (tgt := 98) (aw_d q_RF_write 10 rfl) (by decide) ?_
  refine aw_aload_n (aw_d q_RF_write 31 rfl) rfl rfl rfl ?_
  refine cV (aw_d q_RF_write 32 rfl) (sp_publish (O := w_j P) hL) vL_RF_190_RF rfl rfl rfl rfl rfl rfl ⟨aw_le rfl, aw_le rfl⟩ (fun r99 h99 hp99 => ?_)
  obtain ⟨rfl, A, rfl, hA⟩ := hp99
  exact aw_iret (aw_d q_RF_write 33 rfl) rfl (⟨rfl, A, rfl, hA⟩)
set_option maxRecDepth 20000 in
theorem sp_RF_writeF_0 {g : aw_G} {S : aw_S} {P : xp_T} (hP : xp_C S P) (hW : xp_wd P) (hL : 3000 < (w_j P).length) : Sp g M_RF_write 10 221 0 0 [.ref 0, .int (nI 0)] (HP S) (fun r h => r = some (.int (-3)) ∧ h = HP (WS S (w_j P))) := by
  refine Sp.of rfl (aw_le rfl) ?_
  refine aw_aload_n (aw_d q_RF_write 0 rfl) rfl rfl rfl ?_
  refine aw_getf (aw_d q_RF_write 1 rfl) fL_RF_19_RF rfl rfl ?_
  refine cVv (aw_d q_RF_write 2 rfl) (sp_By_empty_5) vL_RF_112_By rfl rfl rfl rfl rfl rfl ⟨aw_le rfl, aw_le rfl⟩ ?_
  rw [WS_nil]
  refine aw_iload_n (aw_d q_RF_write 3 rfl) rfl rfl ?_
  have hsx8 : (nI (0)).toInt = ((0 : Nat) : Int) := nI_toInt (by omega)
  have hsw : (nI (0)).toInt = 0 := by omega
  refine aw_tableIn (tgt := 40) (aw_d q_RF_write 4 rfl) (by omega) (by omega) (by rw [hsw]; rfl) (by decide) ?_
  refine aw_aload_n (aw_d q_RF_write 5 rfl) rfl rfl rfl ?_
  refine aw_getf (aw_d q_RF_write 6 rfl) fL_RF_67_RF rfl rfl ?_
  refine aw_aload_n (aw_d q_RF_write 7 rfl) rfl rfl rfl ?_
  refine aw_getf (aw_d q_RF_write 8 rfl) fL_RF_39_RF rfl rfl ?_
  refine cVv (aw_d q_RF_write 9 rfl) (sp_Js_print (O := []) hP hW) vL_RF_183_Js rfl rfl rfl rfl rfl rfl ⟨aw_le rfl, aw_le rfl⟩ ?_
  refine aw_goto (tgt := 98) (aw_d q_RF_write 10 rfl) (by decide) ?_
  refine aw_aload_n (aw_d q_RF_write 31 rfl) rfl rfl rfl ?_
  refine cVr (aw_d q_RF_write 32 rfl) (sp_publishF (O := w_j P) hL) vL_RF_190_RF rfl rfl rfl rfl rfl rfl ⟨aw_le rfl, aw_le rfl⟩ ?_
  exact aw_iret (aw_d q_RF_write 33 rfl) rfl (⟨rfl, rfl⟩)
set_option maxRecDepth 20000 in
theorem sp_RF_write_1 {g : aw_G} {S : aw_S} {P : xp_T} (hP : xp_C S P) (hW : xp_wd P) (hL : (w_x P).length ≤ 3000) : Sp g M_RF_write 10 221 0 0 [.ref 0, .int (nI 1)] (HP S) (fun r h => r = some (.int (nI (w_x P).length)) ∧ ∃ A : Nat → Int32, h = HP (si (si (sa (WS S (w_x P)) 4 A) 301 (nI (w_x P).length)) 302 (nI 0)) ∧ ∀ i, i < (w_x P).length → A i = (w_x P).getD i 0) := by
  refine Sp.of rfl (aw_le rfl) ?_
  refine aw_aload_n (aw_d q_RF_write 0 rfl) rfl rfl rfl ?_
  refine aw_getf (aw_d q_RF_write 1 rfl) fL_RF_19_RF rfl rfl ?_
  refine cVv (aw_d q_RF_write 2 rfl) (sp_By_empty_5) vL_RF_112_By rfl rfl rfl rfl rfl rfl ⟨aw_le rfl, aw_le rfl⟩ ?_
  rw [WS_nil]
  refine aw_iload_n (aw_d q_RF_write 3 rfl) rfl rfl ?_
  have hsx8 : (nI (1)).toInt = ((1 : Nat) : Int) := nI_toInt (by omega)
  have hsw : (nI (1)).toInt = 1 := by omega
  refine aw_tableIn (tgt := 54) (aw_d q_RF_write 4 rfl) (by omega) (by omega) (by rw [hsw]; rfl) (by decide) ?_
  refine aw_aload_n (aw_d q_RF_write 11 rfl) rfl rfl rfl ?_
  refine aw_getf (aw_d q_RF_write 12 rfl) fL_RF_74_RF rfl rfl ?_
  refine aw_aload_n (aw_d q_RF_write 13 rfl) rfl rfl rfl ?_
  refine aw_getf (aw_d q_RF_write 14 rfl) fL_RF_39_RF rfl rfl ?_
  refine cVv (aw_d q_RF_write 15 rfl) (sp_Xm_print (O := []) hP hW) vL_RF_187_Xm rfl rfl rfl rfl rfl rfl ⟨aw_le rfl, aw_le rfl⟩ ?_
  refine aw_goto (tgt := 98) (aw_d q_RF_write 16 rfl) (by decide) ?_
  refine aw_aload_n (aw_d q_RF_write 31 rfl) rfl rfl rfl ?_
  refine cV (aw_d q_RF_write 32 rfl) (sp_publish (O := w_x P) hL) vL_RF_190_RF rfl rfl rfl rfl rfl rfl ⟨aw_le rfl, aw_le rfl⟩ (fun r99 h99 hp99 => ?_)
  obtain ⟨rfl, A, rfl, hA⟩ := hp99
  exact aw_iret (aw_d q_RF_write 33 rfl) rfl (⟨rfl, A, rfl, hA⟩)
set_option maxRecDepth 20000 in
theorem sp_RF_writeF_1 {g : aw_G} {S : aw_S} {P : xp_T} (hP : xp_C S P) (hW : xp_wd P) (hL : 3000 < (w_x P).length) : Sp g M_RF_write 10 221 0 0 [.ref 0, .int (nI 1)] (HP S) (fun r h => r = some (.int (-3)) ∧ h = HP (WS S (w_x P))) := by
  refine Sp.of rfl (aw_le rfl) ?_
  refine aw_aload_n (aw_d q_RF_write 0 rfl) rfl rfl rfl ?_
  refine aw_getf (aw_d q_RF_write 1 rfl) fL_RF_19_RF rfl rfl ?_
  refine cVv (aw_d q_RF_write 2 rfl) (sp_By_empty_5) vL_RF_112_By rfl rfl rfl rfl rfl rfl ⟨aw_le rfl, aw_le rfl⟩ ?_
  rw [WS_nil]
  refine aw_iload_n (aw_d q_RF_write 3 rfl) rfl rfl ?_
  have hsx8 : (nI (1)).toInt = ((1 : Nat) : Int) := nI_toInt (by omega)
  have hsw : (nI (1)).toInt = 1 := by omega
  refine aw_tableIn (tgt := 54) (aw_d q_RF_write 4 rfl) (by omega) (by omega) (by rw [hsw]; rfl) (by decide) ?_
  refine aw_aload_n (aw_d q_RF_write 11 rfl) rfl rfl rfl ?_
  refine aw_getf (aw_d q_RF_write 12 rfl) fL_RF_74_RF rfl rfl ?_
  refine aw_aload_n (aw_d q_RF_write 13 rfl) rfl rfl rfl ?_
  refine aw_getf (aw_d q_RF_write 14 rfl) fL_RF_39_RF rfl rfl ?_
  refine cVv (aw_d q_RF_write 15 rfl) (sp_Xm_print (O := []) hP hW) vL_RF_187_Xm rfl rfl rfl rfl rfl rfl ⟨aw_le rfl, aw_le rfl⟩ ?_
  refine aw_goto (tgt := 98) (aw_d q_RF_write 16 rfl) (by decide) ?_
  refine aw_aload_n (aw_d q_RF_write 31 rfl) rfl rfl rfl ?_
  refine cVr (aw_d q_RF_write 32 rfl) (sp_publishF (O := w_x P) hL) vL_RF_190_RF rfl rfl rfl rfl rfl rfl ⟨aw_le rfl, aw_le rfl⟩ ?_
  exact aw_iret (aw_d q_RF_write 33 rfl) rfl (⟨rfl, rfl⟩)
set_option maxRecDepth 20000 in
theorem sp_RF_write_2 {g : aw_G} {S : aw_S} {P : xp_T} (hP : xp_C S P) (hW : xp_wd P) (hL : (w_l true P).length ≤ 3000) : Sp g M_RF_write 10 221 0 0 [.ref 0, .int (nI 2)] (HP S) (fun r h => r = some (.int (nI (w_l true P).length)) ∧ ∃ A : Nat → Int32, h = HP (si (si (sa (WS S (w_l true P)) 4 A) 301 (nI (w_l true P).length)) 302 (nI 0)) ∧ ∀ i, i < (w_l true P).length → A i = (w_l true P).getD i 0) := by
  refine Sp.of rfl (aw_le rfl) ?_
  refine aw_aload_n (aw_d q_RF_write 0 rfl) rfl rfl rfl ?_
  refine aw_getf (aw_d q_RF_write 1 rfl) fL_RF_19_RF rfl rfl ?_
  refine cVv (aw_d q_RF_write 2 rfl) (sp_By_empty_5) vL_RF_112_By rfl rfl rfl rfl rfl rfl ⟨aw_le rfl, aw_le rfl⟩ ?_
  rw [WS_nil]
  refine aw_iload_n (aw_d q_RF_write 3 rfl) rfl rfl ?_
  have hsx8 : (nI (2)).toInt = ((2 : Nat) : Int) := nI_toInt (by omega)
  have hsw : (nI (2)).toInt = 2 := by omega
  refine aw_tableIn (tgt := 68) (aw_d q_RF_write 4 rfl) (by omega) (by omega) (by rw [hsw]; rfl) (by decide) ?_
  refine aw_aload_n (aw_d q_RF_write 17 rfl) rfl rfl rfl ?_
  refine aw_getf (aw_d q_RF_write 18 rfl) fL_RF_81_RF rfl rfl ?_
  refine aw_aload_n (aw_d q_RF_write 19 rfl) rfl rfl rfl ?_
  refine aw_getf (aw_d q_RF_write 20 rfl) fL_RF_39_RF rfl rfl ?_
  refine cVv (aw_d q_RF_write 21 rfl) (sp_Ln_print_31 (O := []) hP hW) vL_RF_188_Cm rfl rfl rfl rfl rfl rfl ⟨aw_le rfl, aw_le rfl⟩ ?_
  refine aw_goto (tgt := 98) (aw_d q_RF_write 22 rfl) (by decide) ?_
  refine aw_aload_n (aw_d q_RF_write 31 rfl) rfl rfl rfl ?_
  refine cV (aw_d q_RF_write 32 rfl) (sp_publish (O := w_l true P) hL) vL_RF_190_RF rfl rfl rfl rfl rfl rfl ⟨aw_le rfl, aw_le rfl⟩ (fun r99 h99 hp99 => ?_)
  obtain ⟨rfl, A, rfl, hA⟩ := hp99
  exact aw_iret (aw_d q_RF_write 33 rfl) rfl (⟨rfl, A, rfl, hA⟩)
set_option maxRecDepth 20000 in
theorem sp_RF_writeF_2 {g : aw_G} {S : aw_S} {P : xp_T} (hP : xp_C S P) (hW : xp_wd P) (hL : 3000 < (w_l true P).length) : Sp g M_RF_write 10 221 0 0 [.ref 0, .int (nI 2)] (HP S) (fun r h => r = some (.int (-3)) ∧ h = HP (WS S (w_l true P))) := by
  refine Sp.of rfl (aw_le rfl) ?_
  refine aw_aload_n (aw_d q_RF_write 0 rfl) rfl rfl rfl ?_
  refine aw_getf (aw_d q_RF_write 1 rfl) fL_RF_19_RF rfl rfl ?_
  refine cVv (aw_d q_RF_write 2 rfl) (sp_By_empty_5) vL_RF_112_By rfl rfl rfl rfl rfl rfl ⟨aw_le rfl, aw_le rfl⟩ ?_
  rw [WS_nil]
  refine aw_iload_n (aw_d q_RF_write 3 rfl) rfl rfl ?_
  have hsx8 : (nI (2)).toInt = ((2 : Nat) : Int) := nI_toInt (by omega)
  have hsw : (nI (2)).toInt = 2 := by omega
  refine aw_tableIn (tgt := 68) (aw_d q_RF_write 4 rfl) (by omega) (by omega) (by rw [hsw]; rfl) (by decide) ?_
  refine aw_aload_n (aw_d q_RF_write 17 rfl) rfl rfl rfl ?_
  refine aw_getf (aw_d q_RF_write 18 rfl) fL_RF_81_RF rfl rfl ?_
  refine aw_aload_n (aw_d q_RF_write 19 rfl) rfl rfl rfl ?_
  refine aw_getf (aw_d q_RF_write 20 rfl) fL_RF_39_RF rfl rfl ?_
  refine cVv (aw_d q_RF_write 21 rfl) (sp_Ln_print_31 (O := []) hP hW) vL_RF_188_Cm rfl rfl rfl rfl rfl rfl ⟨aw_le rfl, aw_le rfl⟩ ?_
  refine aw_goto (tgt := 98) (aw_d q_RF_write 22 rfl) (by decide) ?_
  refine aw_aload_n (aw_d q_RF_write 31 rfl) rfl rfl rfl ?_
  refine cVr (aw_d q_RF_write 32 rfl) (sp_publishF (O := w_l true P) hL) vL_RF_190_RF rfl rfl rfl rfl rfl rfl ⟨aw_le rfl, aw_le rfl⟩ ?_
  exact aw_iret (aw_d q_RF_write 33 rfl) rfl (⟨rfl, rfl⟩)
set_option maxRecDepth 20000 in
theorem sp_RF_write_3 {g : aw_G} {S : aw_S} {P : xp_T} (hP : xp_C S P) (hW : xp_wd P) (hL : (w_l false P).length ≤ 3000) : Sp g M_RF_write 10 221 0 0 [.ref 0, .int (nI 3)] (HP S) (fun r h => r = some (.int (nI (w_l false P).length)) ∧ ∃ A : Nat → Int32, h = HP (si (si (sa (WS S (w_l false P)) 4 A) 301 (nI (w_l false P).length)) 302 (nI 0)) ∧ ∀ i, i < (w_l false P).length → A i = (w_l false P).getD i 0) := by
  refine Sp.of rfl (aw_le rfl) ?_
  refine aw_aload_n (aw_d q_RF_write 0 rfl) rfl rfl rfl ?_
  refine aw_getf (aw_d q_RF_write 1 rfl) fL_RF_19_RF rfl rfl ?_
  refine cVv (aw_d q_RF_write 2 rfl) (sp_By_empty_5) vL_RF_112_By rfl rfl rfl rfl rfl rfl ⟨aw_le rfl, aw_le rfl⟩ ?_
  rw [WS_nil]
  refine aw_iload_n (aw_d q_RF_write 3 rfl) rfl rfl ?_
  have hsx8 : (nI (3)).toInt = ((3 : Nat) : Int) := nI_toInt (by omega)
  have hsw : (nI (3)).toInt = 3 := by omega
  refine aw_tableIn (tgt := 82) (aw_d q_RF_write 4 rfl) (by omega) (by omega) (by rw [hsw]; rfl) (by decide) ?_
  refine aw_aload_n (aw_d q_RF_write 23 rfl) rfl rfl rfl ?_
  refine aw_getf (aw_d q_RF_write 24 rfl) fL_RF_88_RF rfl rfl ?_
  refine aw_aload_n (aw_d q_RF_write 25 rfl) rfl rfl rfl ?_
  refine aw_getf (aw_d q_RF_write 26 rfl) fL_RF_39_RF rfl rfl ?_
  refine cVv (aw_d q_RF_write 27 rfl) (sp_Ln_print_32 (O := []) hP hW) vL_RF_189_Ta rfl rfl rfl rfl rfl rfl ⟨aw_le rfl, aw_le rfl⟩ ?_
  refine aw_goto (tgt := 98) (aw_d q_RF_write 28 rfl) (by decide) ?_
  refine aw_aload_n (aw_d q_RF_write 31 rfl) rfl rfl rfl ?_
  refine cV (aw_d q_RF_write 32 rfl) (sp_publish (O := w_l false P) hL) vL_RF_190_RF rfl rfl rfl rfl rfl rfl ⟨aw_le rfl, aw_le rfl⟩ (fun r99 h99 hp99 => ?_)
  obtain ⟨rfl, A, rfl, hA⟩ := hp99
  exact aw_iret (aw_d q_RF_write 33 rfl) rfl (⟨rfl, A, rfl, hA⟩)
set_option maxRecDepth 20000 in
theorem sp_RF_writeF_3 {g : aw_G} {S : aw_S} {P : xp_T} (hP : xp_C S P) (hW : xp_wd P) (hL : 3000 < (w_l false P).length) : Sp g M_RF_write 10 221 0 0 [.ref 0, .int (nI 3)] (HP S) (fun r h => r = some (.int (-3)) ∧ h = HP (WS S (w_l false P))) := by
  refine Sp.of rfl (aw_le rfl) ?_
  refine aw_aload_n (aw_d q_RF_write 0 rfl) rfl rfl rfl ?_
  refine aw_getf (aw_d q_RF_write 1 rfl) fL_RF_19_RF rfl rfl ?_
  refine cVv (aw_d q_RF_write 2 rfl) (sp_By_empty_5) vL_RF_112_By rfl rfl rfl rfl rfl rfl ⟨aw_le rfl, aw_le rfl⟩ ?_
  rw [WS_nil]
  refine aw_iload_n (aw_d q_RF_write 3 rfl) rfl rfl ?_
  have hsx8 : (nI (3)).toInt = ((3 : Nat) : Int) := nI_toInt (by omega)
  have hsw : (nI (3)).toInt = 3 := by omega
  refine aw_tableIn (tgt := 82) (aw_d q_RF_write 4 rfl) (by omega) (by omega) (by rw [hsw]; rfl) (by decide) ?_
  refine aw_aload_n (aw_d q_RF_write 23 rfl) rfl rfl rfl ?_
  refine aw_getf (aw_d q_RF_write 24 rfl) fL_RF_88_RF rfl rfl ?_
  refine aw_aload_n (aw_d q_RF_write 25 rfl) rfl rfl rfl ?_
  refine aw_getf (aw_d q_RF_write 26 rfl) fL_RF_39_RF rfl rfl ?_
  refine cVv (aw_d q_RF_write 27 rfl) (sp_Ln_print_32 (O := []) hP hW) vL_RF_189_Ta rfl rfl rfl rfl rfl rfl ⟨aw_le rfl, aw_le rfl⟩ ?_
  refine aw_goto (tgt := 98) (aw_d q_RF_write 28 rfl) (by decide) ?_
  refine aw_aload_n (aw_d q_RF_write 31 rfl) rfl rfl rfl ?_
  refine cVr (aw_d q_RF_write 32 rfl) (sp_publishF (O := w_l false P) hL) vL_RF_190_RF rfl rfl rfl rfl rfl rfl ⟨aw_le rfl, aw_le rfl⟩ ?_
  exact aw_iret (aw_d q_RF_write 33 rfl) rfl (⟨rfl, rfl⟩)
set_option maxRecDepth 20000 in
theorem sp_RF_writeB {g : aw_G} {S : aw_S} {x : Int32} (hx : x.toInt < 0 ∨ 3 < x.toInt) : Sp g M_RF_write 10 221 0 0 [.ref 0, .int x] (HP S) (fun r h => r = some (.int (-1)) ∧ h = HP (WS S [])) := by
  refine Sp.of rfl (aw_le rfl) ?_
  refine aw_aload_n (aw_d q_RF_write 0 rfl) rfl rfl rfl ?_
  refine aw_getf (aw_d q_RF_write 1 rfl) fL_RF_19_RF rfl rfl ?_
  refine cVv (aw_d q_RF_write 2 rfl) (sp_By_empty_5) vL_RF_112_By rfl rfl rfl rfl rfl rfl ⟨aw_le rfl, aw_le rfl⟩ ?_
  rw [WS_nil]
  refine aw_iload_n (aw_d q_RF_write 3 rfl) rfl rfl ?_
  rcases (show x.toInt < 0 ∨ (3 : Int) < x.toInt by omega) with hsw | hsw
  · refine aw_tableOut (tgt := 96) (aw_d q_RF_write 4 rfl) (Or.inl hsw) (by decide) ?_
    refine aw_iconst (v := (-1)) (aw_d q_RF_write 29 rfl) (by decide) ?_
    exact aw_iret (aw_d q_RF_write 30 rfl) rfl (⟨rfl, rfl⟩)
  · refine aw_tableOut (tgt := 96) (aw_d q_RF_write 4 rfl) (Or.inr hsw) (by decide) ?_
    refine aw_iconst (v := (-1)) (aw_d q_RF_write 29 rfl) (by decide) ?_
    exact aw_iret (aw_d q_RF_write 30 rfl) rfl (⟨rfl, rfl⟩)
set_option maxRecDepth 20000 in
theorem sp_RF_say_00 {g : aw_G} {S : aw_S}  : Sp g M_RF_say 6 128 0 0 [.ref 0, .int (nI 0), .int (nI 0)] (HP S) (fun r h => r = some (.int (nI (w_tr true false).length)) ∧ ∃ A : Nat → Int32, h = HP (si (si (sa (WS S (w_tr true false)) 4 A) 301 (nI (w_tr true false).length)) 302 (nI 0)) ∧ ∀ i, i < (w_tr true false).length → A i = (w_tr true false).getD i 0) := by
  refine Sp.of rfl (aw_le rfl) ?_
  refine aw_aload_n (aw_d q_RF_say 0 rfl) rfl rfl rfl ?_
  refine aw_getf (aw_d q_RF_say 1 rfl) fL_RF_19_RF rfl rfl ?_
  refine cVv (aw_d q_RF_say 2 rfl) (sp_By_empty_5) vL_RF_112_By rfl rfl rfl rfl rfl rfl ⟨aw_le rfl, aw_le rfl⟩ ?_
  rw [WS_nil]
  refine aw_iload_n (aw_d q_RF_say 3 rfl) rfl rfl ?_
  have hsx8 : (nI (0)).toInt = ((0 : Nat) : Int) := nI_toInt (by omega)
  have hsw : (nI (0)).toInt = 0 := by omega
  refine aw_lookup (tgt := 36) (aw_d q_RF_say 4 rfl) (by decide) (by rw [hsw]; try rfl) (by decide) ?_
  refine aw_aload_n (aw_d q_RF_say 5 rfl) rfl rfl rfl ?_
  refine aw_getf (aw_d q_RF_say 6 rfl) fL_RF_67_RF rfl rfl ?_
  refine aw_iload_n (aw_d q_RF_say 7 rfl) rfl rfl ?_
  refine cVv (aw_d q_RF_say 8 rfl) (sp_Js_printTruth_0 (O := [])) vL_RF_193_Js rfl rfl rfl rfl rfl rfl ⟨aw_le rfl, aw_le rfl⟩ ?_
  refine aw_goto (tgt := 60) (aw_d q_RF_say 9 rfl) (by decide) ?_
  refine aw_aload_n (aw_d q_RF_say 17 rfl) rfl rfl rfl ?_
  refine cV (aw_d q_RF_say 18 rfl) (sp_publish (O := w_tr true false) (by decide)) vL_RF_190_RF rfl rfl rfl rfl rfl rfl ⟨aw_le rfl, aw_le rfl⟩ (fun r61 h61 hp61 => ?_)
  obtain ⟨rfl, A, rfl, hA⟩ := hp61
  exact aw_iret (aw_d q_RF_say 19 rfl) rfl (⟨rfl, A, rfl, hA⟩)
set_option maxRecDepth 20000 in
theorem sp_RF_say_01 {g : aw_G} {S : aw_S}  : Sp g M_RF_say 6 128 0 0 [.ref 0, .int (nI 0), .int (nI 1)] (HP S) (fun r h => r = some (.int (nI (w_tr true true).length)) ∧ ∃ A : Nat → Int32, h = HP (si (si (sa (WS S (w_tr true true)) 4 A) 301 (nI (w_tr true true).length)) 302 (nI 0)) ∧ ∀ i, i < (w_tr true true).length → A i = (w_tr true true).getD i 0) := by
  refine Sp.of rfl (aw_le rfl) ?_
  refine aw_aload_n (aw_d q_RF_say 0 rfl) rfl rfl rfl ?_
  refine aw_getf (aw_d q_RF_say 1 rfl) fL_RF_19_RF rfl rfl ?_
  refine cVv (aw_d q_RF_say 2 rfl) (sp_By_empty_5) vL_RF_112_By rfl rfl rfl rfl rfl rfl ⟨aw_le rfl, aw_le rfl⟩ ?_
  rw [WS_nil]
  refine aw_iload_n (aw_d q_RF_say 3 rfl) rfl rfl ?_
  have hsx8 : (nI (0)).toInt = ((0 : Nat) : Int) := nI_toInt (by omega)
  have hsw : (nI (0)).toInt = 0 := by omega
  refine aw_lookup (tgt := 36) (aw_d q_RF_say 4 rfl) (by decide) (by rw [hsw]; try rfl) (by decide) ?_
  refine aw_aload_n (aw_d q_RF_say 5 rfl) rfl rfl rfl ?_
  refine aw_getf (aw_d q_RF_say 6 rfl) fL_RF_67_RF rfl rfl ?_
  refine aw_iload_n (aw_d q_RF_say 7 rfl) rfl rfl ?_
  refine cVv (aw_d q_RF_say 8 rfl) (sp_Js_printTruth_1 (O := [])) vL_RF_193_Js rfl rfl rfl rfl rfl rfl ⟨aw_le rfl, aw_le rfl⟩ ?_
  refine aw_goto (tgt := 60) (aw_d q_RF_say 9 rfl) (by decide) ?_
  refine aw_aload_n (aw_d q_RF_say 17 rfl) rfl rfl rfl ?_
  refine cV (aw_d q_RF_say 18 rfl) (sp_publish (O := w_tr true true) (by decide)) vL_RF_190_RF rfl rfl rfl rfl rfl rfl ⟨aw_le rfl, aw_le rfl⟩ (fun r61 h61 hp61 => ?_)
  obtain ⟨rfl, A, rfl, hA⟩ := hp61
  exact aw_iret (aw_d q_RF_say 19 rfl) rfl (⟨rfl, A, rfl, hA⟩)
set_option maxRecDepth 20000 in
theorem sp_RF_say_10 {g : aw_G} {S : aw_S}  : Sp g M_RF_say 6 128 0 0 [.ref 0, .int (nI 1), .int (nI 0)] (HP S) (fun r h => r = some (.int (nI (w_tr false false).length)) ∧ ∃ A : Nat → Int32, h = HP (si (si (sa (WS S (w_tr false false)) 4 A) 301 (nI (w_tr false false).length)) 302 (nI 0)) ∧ ∀ i, i < (w_tr false false).length → A i = (w_tr false false).getD i 0) := by
  refine Sp.of rfl (aw_le rfl) ?_
  refine aw_aload_n (aw_d q_RF_say 0 rfl) rfl rfl rfl ?_
  refine aw_getf (aw_d q_RF_say 1 rfl) fL_RF_19_RF rfl rfl ?_
  refine cVv (aw_d q_RF_say 2 rfl) (sp_By_empty_5) vL_RF_112_By rfl rfl rfl rfl rfl rfl ⟨aw_le rfl, aw_le rfl⟩ ?_
  rw [WS_nil]
  refine aw_iload_n (aw_d q_RF_say 3 rfl) rfl rfl ?_
  have hsx8 : (nI (1)).toInt = ((1 : Nat) : Int) := nI_toInt (by omega)
  have hsw : (nI (1)).toInt = 1 := by omega
  refine aw_lookup (tgt := 47) (aw_d q_RF_say 4 rfl) (by decide) (by rw [hsw]; try rfl) (by decide) ?_
  refine aw_aload_n (aw_d q_RF_say 10 rfl) rfl rfl rfl ?_
  refine aw_getf (aw_d q_RF_say 11 rfl) fL_RF_74_RF rfl rfl ?_
  refine aw_iload_n (aw_d q_RF_say 12 rfl) rfl rfl ?_
  refine cVv (aw_d q_RF_say 13 rfl) (sp_Xm_printTruth_0 (O := [])) vL_RF_197_Xm rfl rfl rfl rfl rfl rfl ⟨aw_le rfl, aw_le rfl⟩ ?_
  refine aw_goto (tgt := 60) (aw_d q_RF_say 14 rfl) (by decide) ?_
  refine aw_aload_n (aw_d q_RF_say 17 rfl) rfl rfl rfl ?_
  refine cV (aw_d q_RF_say 18 rfl) (sp_publish (O := w_tr false false) (by decide)) vL_RF_190_RF rfl rfl rfl rfl rfl rfl ⟨aw_le rfl, aw_le rfl⟩ (fun r61 h61 hp61 => ?_)
  obtain ⟨rfl, A, rfl, hA⟩ := hp61
  exact aw_iret (aw_d q_RF_say 19 rfl) rfl (⟨rfl, A, rfl, hA⟩)
set_option maxRecDepth 20000 in
theorem sp_RF_say_11 {g : aw_G} {S : aw_S}  : Sp g M_RF_say 6 128 0 0 [.ref 0, .int (nI 1), .int (nI 1)] (HP S) (fun r h => r = some (.int (nI (w_tr false true).length)) ∧ ∃ A : Nat → Int32, h = HP (si (si (sa (WS S (w_tr false true)) 4 A) 301 (nI (w_tr false true).length)) 302 (nI 0)) ∧ ∀ i, i < (w_tr false true).length → A i = (w_tr false true).getD i 0) := by
  refine Sp.of rfl (aw_le rfl) ?_
  refine aw_aload_n (aw_d q_RF_say 0 rfl) rfl rfl rfl ?_
  refine aw_getf (aw_d q_RF_say 1 rfl) fL_RF_19_RF rfl rfl ?_
  refine cVv (aw_d q_RF_say 2 rfl) (sp_By_empty_5) vL_RF_112_By rfl rfl rfl rfl rfl rfl ⟨aw_le rfl, aw_le rfl⟩ ?_
  rw [WS_nil]
  refine aw_iload_n (aw_d q_RF_say 3 rfl) rfl rfl ?_
  have hsx8 : (nI (1)).toInt = ((1 : Nat) : Int) := nI_toInt (by omega)
  have hsw : (nI (1)).toInt = 1 := by omega
  refine aw_lookup (tgt := 47) (aw_d q_RF_say 4 rfl) (by decide) (by rw [hsw]; try rfl) (by decide) ?_
  refine aw_aload_n (aw_d q_RF_say 10 rfl) rfl rfl rfl ?_
  refine aw_getf (aw_d q_RF_say 11 rfl) fL_RF_74_RF rfl rfl ?_
  refine aw_iload_n (aw_d q_RF_say 12 rfl) rfl rfl ?_
  refine cVv (aw_d q_RF_say 13 rfl) (sp_Xm_printTruth_1 (O := [])) vL_RF_197_Xm rfl rfl rfl rfl rfl rfl ⟨aw_le rfl, aw_le rfl⟩ ?_
  refine aw_goto (tgt := 60) (aw_d q_RF_say 14 rfl) (by decide) ?_
  refine aw_aload_n (aw_d q_RF_say 17 rfl) rfl rfl rfl ?_
  refine cV (aw_d q_RF_say 18 rfl) (sp_publish (O := w_tr false true) (by decide)) vL_RF_190_RF rfl rfl rfl rfl rfl rfl ⟨aw_le rfl, aw_le rfl⟩ (fun r61 h61 hp61 => ?_)
  obtain ⟨rfl, A, rfl, hA⟩ := hp61
  exact aw_iret (aw_d q_RF_say 19 rfl) rfl (⟨rfl, A, rfl, hA⟩)
set_option maxRecDepth 20000 in
theorem sp_RF_sayB {g : aw_G} {S : aw_S} {x y : Int32} (hx : x.toInt < 0 ∨ 1 < x.toInt) : Sp g M_RF_say 6 128 0 0 [.ref 0, .int x, .int y] (HP S) (fun r h => r = some (.int (-1)) ∧ h = HP (WS S [])) := by
  refine Sp.of rfl (aw_le rfl) ?_
  refine aw_aload_n (aw_d q_RF_say 0 rfl) rfl rfl rfl ?_
  refine aw_getf (aw_d q_RF_say 1 rfl) fL_RF_19_RF rfl rfl ?_
  refine cVv (aw_d q_RF_say 2 rfl) (sp_By_empty_5) vL_RF_112_By rfl rfl rfl rfl rfl rfl ⟨aw_le rfl, aw_le rfl⟩ ?_
  rw [WS_nil]
  refine aw_iload_n (aw_d q_RF_say 3 rfl) rfl rfl ?_
  have hsw : (x.toInt ≠ 0 ∧ x.toInt ≠ 1) := by omega
  refine aw_lookup (tgt := 58) (aw_d q_RF_say 4 rfl) (by decide) (lk_out (by intro q hq; simp at hq; rcases hq with rfl | rfl <;> (dsimp only; omega))) (by decide) ?_
  refine aw_iconst (v := (-1)) (aw_d q_RF_say 15 rfl) (by decide) ?_
  exact aw_iret (aw_d q_RF_say 16 rfl) rfl (⟨rfl, rfl⟩)
