set_option maxRecDepth 20000 in
theorem sp_By_init {g : aw_G} {A : aw_hp} : Sp g M_By_init 1 20 1 3000 [.ref A.length] (A ++ [.inr (0, [.null, .int 0, .int 0])]) (fun r h => r = none ∧ h = (A ++ [.inr (0, [.ref (A.length + 1), .int (nI 0), .int (nI 0)]), .inl (0, 3000, .inl (fun _ => 0))])) := by
  refine Sp.of rfl (aw_le rfl) ?_
  refine aw_aload_n (aw_d q_By_init 0 rfl) rfl rfl rfl ?_
  refine aw_objI (aw_d q_By_init 1 rfl) iL_By_3 (aw_le rfl) (aw_le rfl) ?_
  refine aw_aload_n (aw_d q_By_init 2 rfl) rfl rfl rfl ?_
  refine aw_sipush (v := nI 3000) (aw_d q_By_init 3 rfl) (by decide) ?_
  refine aw_newa (t := 0) (ty := .int) (N := 3000) (aw_d q_By_init 4 rfl) rfl rfl rfl aI_int (fun _ _ h => h) (by decide) (by decide) (by decide) (aw_le rfl) (aw_le rfl) ?_
  refine AW.to (h' := (A ++ [.inr (0, [.null, .int 0, .int 0]), .inl (0, 3000, .inl (fun _ => 0))])) (st' := [.ref (A.length + 1), .ref A.length]) ?_ rfl rfl (by first | rfl | simp) (by first | rfl | simp)
  refine aw_putF (fs := [.null, .int 0, .int 0]) (aw_d q_By_init 5 rfl) pL_By_9_By rfl (fun C T N h => by cases h; rfl) (by simp) (aw_le rfl) rfl rfl ?_
  refine AW.to (h' := (A ++ [.inr (0, [.ref (A.length + 1), .int 0, .int 0]), .inl (0, 3000, .inl (fun _ => 0))])) (st' := []) ?_ rfl rfl (by first | rfl | simp) (by first | rfl | simp)
  refine aw_aload_n (aw_d q_By_init 6 rfl) rfl rfl rfl ?_
  refine aw_iconst (v := nI 0) (aw_d q_By_init 7 rfl) (by decide) ?_
  refine aw_putf (fs := [.ref (A.length + 1), .int 0, .int 0]) (aw_d q_By_init 8 rfl) pL_By_15_By (by simp) (aw_le rfl) rfl rfl ?_
  refine AW.to (h' := (A ++ [.inr (0, [.ref (A.length + 1), .int (nI 0), .int 0]), .inl (0, 3000, .inl (fun _ => 0))])) (st' := []) ?_ rfl rfl (by first | rfl | simp) (by first | rfl | simp)
  refine aw_aload_n (aw_d q_By_init 9 rfl) rfl rfl rfl ?_
  refine aw_iconst (v := nI 0) (aw_d q_By_init 10 rfl) (by decide) ?_
  refine aw_putf (fs := [.ref (A.length + 1), .int (nI 0), .int 0]) (aw_d q_By_init 11 rfl) pL_By_19_By (by simp) (aw_le rfl) rfl rfl ?_
  refine AW.to (h' := (A ++ [.inr (0, [.ref (A.length + 1), .int (nI 0), .int (nI 0)]), .inl (0, 3000, .inl (fun _ => 0))])) (st' := []) ?_ rfl rfl (by first | rfl | simp) (by first | rfl | simp)
  exact aw_vret (aw_d q_By_init 12 rfl) rfl (⟨rfl, rfl⟩)
set_option maxRecDepth 20000 in
theorem sp_Tx_init {g : aw_G} {A : aw_hp} : Sp g M_Tx_init 1 20 1 20 [.ref A.length] (A ++ [.inr (1, [.null, .int 0])]) (fun r h => r = none ∧ h = (A ++ [.inr (1, [.ref (A.length + 1), .int (nI 0)]), .inl (0, 20, .inl (fun _ => 0))])) := by
  refine Sp.of rfl (aw_le rfl) ?_
  refine aw_aload_n (aw_d q_Tx_init 0 rfl) rfl rfl rfl ?_
  refine aw_objI (aw_d q_Tx_init 1 rfl) iL_Tx_3 (aw_le rfl) (aw_le rfl) ?_
  refine aw_aload_n (aw_d q_Tx_init 2 rfl) rfl rfl rfl ?_
  refine aw_bipush (v := nI 20) (aw_d q_Tx_init 3 rfl) (by decide) ?_
  refine aw_newa (t := 0) (ty := .int) (N := 20) (aw_d q_Tx_init 4 rfl) rfl rfl rfl aI_int (fun _ _ h => h) (by decide) (by decide) (by decide) (aw_le rfl) (aw_le rfl) ?_
  refine AW.to (h' := (A ++ [.inr (1, [.null, .int 0]), .inl (0, 20, .inl (fun _ => 0))])) (st' := [.ref (A.length + 1), .ref A.length]) ?_ rfl rfl (by first | rfl | simp) (by first | rfl | simp)
  refine aw_putF (fs := [.null, .int 0]) (aw_d q_Tx_init 5 rfl) pL_Tx_9_Tx rfl (fun C T N h => by cases h; rfl) (by simp) (aw_le rfl) rfl rfl ?_
  refine AW.to (h' := (A ++ [.inr (1, [.ref (A.length + 1), .int 0]), .inl (0, 20, .inl (fun _ => 0))])) (st' := []) ?_ rfl rfl (by first | rfl | simp) (by first | rfl | simp)
  refine aw_aload_n (aw_d q_Tx_init 6 rfl) rfl rfl rfl ?_
  refine aw_iconst (v := nI 0) (aw_d q_Tx_init 7 rfl) (by decide) ?_
  refine aw_putf (fs := [.ref (A.length + 1), .int 0]) (aw_d q_Tx_init 8 rfl) pL_Tx_15_Tx (by simp) (aw_le rfl) rfl rfl ?_
  refine AW.to (h' := (A ++ [.inr (1, [.ref (A.length + 1), .int (nI 0)]), .inl (0, 20, .inl (fun _ => 0))])) (st' := []) ?_ rfl rfl (by first | rfl | simp) (by first | rfl | simp)
  exact aw_vret (aw_d q_Tx_init 9 rfl) rfl (⟨rfl, rfl⟩)
set_option maxRecDepth 20000 in
theorem sp_Te_init {g : aw_G} {A : aw_hp} : Sp g M_Te_init 1 20 4 4692 [.ref A.length] (A ++ [.inr (2, [.null, .null, .null, .null, .int 0])]) (fun r h => r = none ∧ h = (A ++ [.inr (2, [.ref (A.length + 1), .ref (A.length + 2), .ref (A.length + 3), .ref (A.length + 4), .int (nI 0)]), .inl (0, 204, .inl (fun _ => 0)), .inl (0, 204, .inl (fun _ => 0)), .inl (0, 204, .inl (fun _ => 0)), .inl (0, 4080, .inl (fun _ => 0))])) := by
  refine Sp.of rfl (aw_le rfl) ?_
  refine aw_aload_n (aw_d q_Te_init 0 rfl) rfl rfl rfl ?_
  refine aw_objI (aw_d q_Te_init 1 rfl) iL_Te_3 (aw_le rfl) (aw_le rfl) ?_
  refine aw_aload_n (aw_d q_Te_init 2 rfl) rfl rfl rfl ?_
  refine aw_sipush (v := nI 204) (aw_d q_Te_init 3 rfl) (by decide) ?_
  refine aw_newa (t := 0) (ty := .int) (N := 204) (aw_d q_Te_init 4 rfl) rfl rfl rfl aI_int (fun _ _ h => h) (by decide) (by decide) (by decide) (aw_le rfl) (aw_le rfl) ?_
  refine AW.to (h' := (A ++ [.inr (2, [.null, .null, .null, .null, .int 0]), .inl (0, 204, .inl (fun _ => 0))])) (st' := [.ref (A.length + 1), .ref A.length]) ?_ rfl rfl (by first | rfl | simp) (by first | rfl | simp)
  refine aw_putF (fs := [.null, .null, .null, .null, .int 0]) (aw_d q_Te_init 5 rfl) pL_Te_11_Te rfl (fun C T N h => by cases h; rfl) (by simp) (aw_le rfl) rfl rfl ?_
  refine AW.to (h' := (A ++ [.inr (2, [.ref (A.length + 1), .null, .null, .null, .int 0]), .inl (0, 204, .inl (fun _ => 0))])) (st' := []) ?_ rfl rfl (by first | rfl | simp) (by first | rfl | simp)
  refine aw_aload_n (aw_d q_Te_init 6 rfl) rfl rfl rfl ?_
  refine aw_sipush (v := nI 204) (aw_d q_Te_init 7 rfl) (by decide) ?_
  refine aw_newa (t := 0) (ty := .int) (N := 204) (aw_d q_Te_init 8 rfl) rfl rfl rfl aI_int (fun _ _ h => h) (by decide) (by decide) (by decide) (aw_le rfl) (aw_le rfl) ?_
  refine AW.to (h' := (A ++ [.inr (2, [.ref (A.length + 1), .null, .null, .null, .int 0]), .inl (0, 204, .inl (fun _ => 0)), .inl (0, 204, .inl (fun _ => 0))])) (st' := [.ref (A.length + 2), .ref A.length]) ?_ rfl rfl (by first | rfl | simp) (by first | rfl | simp)
  refine aw_putF (fs := [.ref (A.length + 1), .null, .null, .null, .int 0]) (aw_d q_Te_init 9 rfl) pL_Te_15_Te rfl (fun C T N h => by cases h; rfl) (by simp) (aw_le rfl) rfl rfl ?_
  refine AW.to (h' := (A ++ [.inr (2, [.ref (A.length + 1), .ref (A.length + 2), .null, .null, .int 0]), .inl (0, 204, .inl (fun _ => 0)), .inl (0, 204, .inl (fun _ => 0))])) (st' := []) ?_ rfl rfl (by first | rfl | simp) (by first | rfl | simp)
  refine aw_aload_n (aw_d q_Te_init 10 rfl) rfl rfl rfl ?_
  refine aw_sipush (v := nI 204) (aw_d q_Te_init 11 rfl) (by decide) ?_
  refine aw_newa (t := 0) (ty := .int) (N := 204) (aw_d q_Te_init 12 rfl) rfl rfl rfl aI_int (fun _ _ h => h) (by decide) (by decide) (by decide) (aw_le rfl) (aw_le rfl) ?_
  refine AW.to (h' := (A ++ [.inr (2, [.ref (A.length + 1), .ref (A.length + 2), .null, .null, .int 0]), .inl (0, 204, .inl (fun _ => 0)), .inl (0, 204, .inl (fun _ => 0)), .inl (0, 204, .inl (fun _ => 0))])) (st' := [.ref (A.length + 3), .ref A.length]) ?_ rfl rfl (by first | rfl | simp) (by first | rfl | simp)
  refine aw_putF (fs := [.ref (A.length + 1), .ref (A.length + 2), .null, .null, .int 0]) (aw_d q_Te_init 13 rfl) pL_Te_18_Te rfl (fun C T N h => by cases h; rfl) (by simp) (aw_le rfl) rfl rfl ?_
  refine AW.to (h' := (A ++ [.inr (2, [.ref (A.length + 1), .ref (A.length + 2), .ref (A.length + 3), .null, .int 0]), .inl (0, 204, .inl (fun _ => 0)), .inl (0, 204, .inl (fun _ => 0)), .inl (0, 204, .inl (fun _ => 0))])) (st' := []) ?_ rfl rfl (by first | rfl | simp) (by first | rfl | simp)
  refine aw_aload_n (aw_d q_Te_init 14 rfl) rfl rfl rfl ?_
  refine aw_sipush (v := nI 4080) (aw_d q_Te_init 15 rfl) (by decide) ?_
  refine aw_newa (t := 0) (ty := .int) (N := 4080) (aw_d q_Te_init 16 rfl) rfl rfl rfl aI_int (fun _ _ h => h) (by decide) (by decide) (by decide) (aw_le rfl) (aw_le rfl) ?_
  refine AW.to (h' := (A ++ [.inr (2, [.ref (A.length + 1), .ref (A.length + 2), .ref (A.length + 3), .null, .int 0]), .inl (0, 204, .inl (fun _ => 0)), .inl (0, 204, .inl (fun _ => 0)), .inl (0, 204, .inl (fun _ => 0)), .inl (0, 4080, .inl (fun _ => 0))])) (st' := [.ref (A.length + 4), .ref A.length]) ?_ rfl rfl (by first | rfl | simp) (by first | rfl | simp)
  refine aw_putF (fs := [.ref (A.length + 1), .ref (A.length + 2), .ref (A.length + 3), .null, .int 0]) (aw_d q_Te_init 17 rfl) pL_Te_21_Te rfl (fun C T N h => by cases h; rfl) (by simp) (aw_le rfl) rfl rfl ?_
  refine AW.to (h' := (A ++ [.inr (2, [.ref (A.length + 1), .ref (A.length + 2), .ref (A.length + 3), .ref (A.length + 4), .int 0]), .inl (0, 204, .inl (fun _ => 0)), .inl (0, 204, .inl (fun _ => 0)), .inl (0, 204, .inl (fun _ => 0)), .inl (0, 4080, .inl (fun _ => 0))])) (st' := []) ?_ rfl rfl (by first | rfl | simp) (by first | rfl | simp)
  refine aw_aload_n (aw_d q_Te_init 18 rfl) rfl rfl rfl ?_
  refine aw_iconst (v := nI 0) (aw_d q_Te_init 19 rfl) (by decide) ?_
  refine aw_putf (fs := [.ref (A.length + 1), .ref (A.length + 2), .ref (A.length + 3), .ref (A.length + 4), .int 0]) (aw_d q_Te_init 20 rfl) pL_Te_24_Te (by simp) (aw_le rfl) rfl rfl ?_
  refine AW.to (h' := (A ++ [.inr (2, [.ref (A.length + 1), .ref (A.length + 2), .ref (A.length + 3), .ref (A.length + 4), .int (nI 0)]), .inl (0, 204, .inl (fun _ => 0)), .inl (0, 204, .inl (fun _ => 0)), .inl (0, 204, .inl (fun _ => 0)), .inl (0, 4080, .inl (fun _ => 0))])) (st' := []) ?_ rfl rfl (by first | rfl | simp) (by first | rfl | simp)
  exact aw_vret (aw_d q_Te_init 21 rfl) rfl (⟨rfl, rfl⟩)
set_option maxRecDepth 20000 in
theorem sp_Tb_init {g : aw_G} {A : aw_hp} : Sp g M_Tb_init 1 20 3 198 [.ref A.length] (A ++ [.inr (3, [.null, .null, .null, .int 0, .int 0])]) (fun r h => r = none ∧ h = (A ++ [.inr (3, [.ref (A.length + 1), .ref (A.length + 2), .ref (A.length + 3), .int (nI 0), .int (nI 0)]), .inl (0, 48, .inl (fun _ => 0)), .inl (0, 6, .inl (fun _ => 0)), .inl (0, 144, .inl (fun _ => 0))])) := by
  refine Sp.of rfl (aw_le rfl) ?_
  refine aw_aload_n (aw_d q_Tb_init 0 rfl) rfl rfl rfl ?_
  refine aw_objI (aw_d q_Tb_init 1 rfl) iL_Tb_3 (aw_le rfl) (aw_le rfl) ?_
  refine aw_aload_n (aw_d q_Tb_init 2 rfl) rfl rfl rfl ?_
  refine aw_bipush (v := nI 48) (aw_d q_Tb_init 3 rfl) (by decide) ?_
  refine aw_newa (t := 0) (ty := .int) (N := 48) (aw_d q_Tb_init 4 rfl) rfl rfl rfl aI_int (fun _ _ h => h) (by decide) (by decide) (by decide) (aw_le rfl) (aw_le rfl) ?_
  refine AW.to (h' := (A ++ [.inr (3, [.null, .null, .null, .int 0, .int 0]), .inl (0, 48, .inl (fun _ => 0))])) (st' := [.ref (A.length + 1), .ref A.length]) ?_ rfl rfl (by first | rfl | simp) (by first | rfl | simp)
  refine aw_putF (fs := [.null, .null, .null, .int 0, .int 0]) (aw_d q_Tb_init 5 rfl) pL_Tb_9_Tb rfl (fun C T N h => by cases h; rfl) (by simp) (aw_le rfl) rfl rfl ?_
  refine AW.to (h' := (A ++ [.inr (3, [.ref (A.length + 1), .null, .null, .int 0, .int 0]), .inl (0, 48, .inl (fun _ => 0))])) (st' := []) ?_ rfl rfl (by first | rfl | simp) (by first | rfl | simp)
  refine aw_aload_n (aw_d q_Tb_init 6 rfl) rfl rfl rfl ?_
  refine aw_bipush (v := nI 6) (aw_d q_Tb_init 7 rfl) (by decide) ?_
  refine aw_newa (t := 0) (ty := .int) (N := 6) (aw_d q_Tb_init 8 rfl) rfl rfl rfl aI_int (fun _ _ h => h) (by decide) (by decide) (by decide) (aw_le rfl) (aw_le rfl) ?_
  refine AW.to (h' := (A ++ [.inr (3, [.ref (A.length + 1), .null, .null, .int 0, .int 0]), .inl (0, 48, .inl (fun _ => 0)), .inl (0, 6, .inl (fun _ => 0))])) (st' := [.ref (A.length + 2), .ref A.length]) ?_ rfl rfl (by first | rfl | simp) (by first | rfl | simp)
  refine aw_putF (fs := [.ref (A.length + 1), .null, .null, .int 0, .int 0]) (aw_d q_Tb_init 9 rfl) pL_Tb_15_Tb rfl (fun C T N h => by cases h; rfl) (by simp) (aw_le rfl) rfl rfl ?_
  refine AW.to (h' := (A ++ [.inr (3, [.ref (A.length + 1), .ref (A.length + 2), .null, .int 0, .int 0]), .inl (0, 48, .inl (fun _ => 0)), .inl (0, 6, .inl (fun _ => 0))])) (st' := []) ?_ rfl rfl (by first | rfl | simp) (by first | rfl | simp)
  refine aw_aload_n (aw_d q_Tb_init 10 rfl) rfl rfl rfl ?_
  refine aw_sipush (v := nI 144) (aw_d q_Tb_init 11 rfl) (by decide) ?_
  refine aw_newa (t := 0) (ty := .int) (N := 144) (aw_d q_Tb_init 12 rfl) rfl rfl rfl aI_int (fun _ _ h => h) (by decide) (by decide) (by decide) (aw_le rfl) (aw_le rfl) ?_
  refine AW.to (h' := (A ++ [.inr (3, [.ref (A.length + 1), .ref (A.length + 2), .null, .int 0, .int 0]), .inl (0, 48, .inl (fun _ => 0)), .inl (0, 6, .inl (fun _ => 0)), .inl (0, 144, .inl (fun _ => 0))])) (st' := [.ref (A.length + 3), .ref A.length]) ?_ rfl rfl (by first | rfl | simp) (by first | rfl | simp)
  refine aw_putF (fs := [.ref (A.length + 1), .ref (A.length + 2), .null, .int 0, .int 0]) (aw_d q_Tb_init 13 rfl) pL_Tb_18_Tb rfl (fun C T N h => by cases h; rfl) (by simp) (aw_le rfl) rfl rfl ?_
  refine AW.to (h' := (A ++ [.inr (3, [.ref (A.length + 1), .ref (A.length + 2), .ref (A.length + 3), .int 0, .int 0]), .inl (0, 48, .inl (fun _ => 0)), .inl (0, 6, .inl (fun _ => 0)), .inl (0, 144, .inl (fun _ => 0))])) (st' := []) ?_ rfl rfl (by first | rfl | simp) (by first | rfl | simp)
  refine aw_aload_n (aw_d q_Tb_init 14 rfl) rfl rfl rfl ?_
  refine aw_iconst (v := nI 0) (aw_d q_Tb_init 15 rfl) (by decide) ?_
  refine aw_putf (fs := [.ref (A.length + 1), .ref (A.length + 2), .ref (A.length + 3), .int 0, .int 0]) (aw_d q_Tb_init 16 rfl) pL_Tb_21_Tb (by simp) (aw_le rfl) rfl rfl ?_
  refine AW.to (h' := (A ++ [.inr (3, [.ref (A.length + 1), .ref (A.length + 2), .ref (A.length + 3), .int (nI 0), .int 0]), .inl (0, 48, .inl (fun _ => 0)), .inl (0, 6, .inl (fun _ => 0)), .inl (0, 144, .inl (fun _ => 0))])) (st' := []) ?_ rfl rfl (by first | rfl | simp) (by first | rfl | simp)
  refine aw_aload_n (aw_d q_Tb_init 17 rfl) rfl rfl rfl ?_
  refine aw_iconst (v := nI 0) (aw_d q_Tb_init 18 rfl) (by decide) ?_
  refine aw_putf (fs := [.ref (A.length + 1), .ref (A.length + 2), .ref (A.length + 3), .int (nI 0), .int 0]) (aw_d q_Tb_init 19 rfl) pL_Tb_25_Tb (by simp) (aw_le rfl) rfl rfl ?_
  refine AW.to (h' := (A ++ [.inr (3, [.ref (A.length + 1), .ref (A.length + 2), .ref (A.length + 3), .int (nI 0), .int (nI 0)]), .inl (0, 48, .inl (fun _ => 0)), .inl (0, 6, .inl (fun _ => 0)), .inl (0, 144, .inl (fun _ => 0))])) (st' := []) ?_ rfl rfl (by first | rfl | simp) (by first | rfl | simp)
  exact aw_vret (aw_d q_Tb_init 20 rfl) rfl (⟨rfl, rfl⟩)
