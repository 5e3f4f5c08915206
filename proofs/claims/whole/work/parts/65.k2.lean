set_option maxRecDepth 20000 in
theorem sp_Js_init {g : aw_G} {A : aw_hp} {a1 a2 a3 : Nat} : Sp g M_Js_init 1 20 0 0 [.ref A.length, .ref a1, .ref a2, .ref a3] (A ++ [.inr (5, [.null, .null, .null])]) (fun r h => r = none ∧ h = (A ++ [.inr (5, [.ref a1, .ref a2, .ref a3])])) := by
  refine Sp.of rfl (aw_le rfl) ?_
  refine aw_aload_n (aw_d q_Js_init 0 rfl) rfl rfl rfl ?_
  refine aw_objI (aw_d q_Js_init 1 rfl) iL_Js_3 (aw_le rfl) (aw_le rfl) ?_
  refine aw_aload_n (aw_d q_Js_init 2 rfl) rfl rfl rfl ?_
  refine aw_aload_n (aw_d q_Js_init 3 rfl) rfl rfl rfl ?_
  refine aw_putF (fs := [.null, .null, .null]) (aw_d q_Js_init 4 rfl) pL_Js_9_Js rfl (fun C T N h => by cases h; rfl) (by simp) (aw_le rfl) rfl rfl ?_
  refine AW.to (h' := (A ++ [.inr (5, [.ref a1, .null, .null])])) (st' := []) ?_ rfl rfl (by first | rfl | simp) (by first | rfl | simp)
  refine aw_aload_n (aw_d q_Js_init 5 rfl) rfl rfl rfl ?_
  refine aw_aload_n (aw_d q_Js_init 6 rfl) rfl rfl rfl ?_
  refine aw_putF (fs := [.ref a1, .null, .null]) (aw_d q_Js_init 7 rfl) pL_Js_15_Js rfl (fun C T N h => by cases h; rfl) (by simp) (aw_le rfl) rfl rfl ?_
  refine AW.to (h' := (A ++ [.inr (5, [.ref a1, .ref a2, .null])])) (st' := []) ?_ rfl rfl (by first | rfl | simp) (by first | rfl | simp)
  refine aw_aload_n (aw_d q_Js_init 8 rfl) rfl rfl rfl ?_
  refine aw_aload_n (aw_d q_Js_init 9 rfl) rfl rfl rfl ?_
  refine aw_putF (fs := [.ref a1, .ref a2, .null]) (aw_d q_Js_init 10 rfl) pL_Js_19_Js rfl (fun C T N h => by cases h; rfl) (by simp) (aw_le rfl) rfl rfl ?_
  refine AW.to (h' := (A ++ [.inr (5, [.ref a1, .ref a2, .ref a3])])) (st' := []) ?_ rfl rfl (by first | rfl | simp) (by first | rfl | simp)
  exact aw_vret (aw_d q_Js_init 11 rfl) rfl (⟨rfl, rfl⟩)
set_option maxRecDepth 20000 in
theorem sp_Xm_init {g : aw_G} {A : aw_hp} {a1 a2 a3 : Nat} : Sp g M_Xm_init 1 20 0 0 [.ref A.length, .ref a1, .ref a2, .ref a3] (A ++ [.inr (6, [.null, .null, .null])]) (fun r h => r = none ∧ h = (A ++ [.inr (6, [.ref a1, .ref a2, .ref a3])])) := by
  refine Sp.of rfl (aw_le rfl) ?_
  refine aw_aload_n (aw_d q_Xm_init 0 rfl) rfl rfl rfl ?_
  refine aw_objI (aw_d q_Xm_init 1 rfl) iL_Xm_3 (aw_le rfl) (aw_le rfl) ?_
  refine aw_aload_n (aw_d q_Xm_init 2 rfl) rfl rfl rfl ?_
  refine aw_aload_n (aw_d q_Xm_init 3 rfl) rfl rfl rfl ?_
  refine aw_putF (fs := [.null, .null, .null]) (aw_d q_Xm_init 4 rfl) pL_Xm_9_Xm rfl (fun C T N h => by cases h; rfl) (by simp) (aw_le rfl) rfl rfl ?_
  refine AW.to (h' := (A ++ [.inr (6, [.ref a1, .null, .null])])) (st' := []) ?_ rfl rfl (by first | rfl | simp) (by first | rfl | simp)
  refine aw_aload_n (aw_d q_Xm_init 5 rfl) rfl rfl rfl ?_
  refine aw_aload_n (aw_d q_Xm_init 6 rfl) rfl rfl rfl ?_
  refine aw_putF (fs := [.ref a1, .null, .null]) (aw_d q_Xm_init 7 rfl) pL_Xm_15_Xm rfl (fun C T N h => by cases h; rfl) (by simp) (aw_le rfl) rfl rfl ?_
  refine AW.to (h' := (A ++ [.inr (6, [.ref a1, .ref a2, .null])])) (st' := []) ?_ rfl rfl (by first | rfl | simp) (by first | rfl | simp)
  refine aw_aload_n (aw_d q_Xm_init 8 rfl) rfl rfl rfl ?_
  refine aw_aload_n (aw_d q_Xm_init 9 rfl) rfl rfl rfl ?_
  refine aw_putF (fs := [.ref a1, .ref a2, .null]) (aw_d q_Xm_init 10 rfl) pL_Xm_19_Xm rfl (fun C T N h => by cases h; rfl) (by simp) (aw_le rfl) rfl rfl ?_
  refine AW.to (h' := (A ++ [.inr (6, [.ref a1, .ref a2, .ref a3])])) (st' := []) ?_ rfl rfl (by first | rfl | simp) (by first | rfl | simp)
  exact aw_vret (aw_d q_Xm_init 11 rfl) rfl (⟨rfl, rfl⟩)
set_option maxRecDepth 20000 in
theorem sp_Ln_init_Cm {g : aw_G} {A : aw_hp} {a1 a2 a3 : Nat} : Sp g M_Ln_init 1 20 0 0 [.ref A.length, .ref a1, .ref a2, .ref a3, .retAddr 0, .int (nI 44), .retAddr 1] (A ++ [.inr (7, [.null, .null, .null, .null, .int 0, .null])]) (fun r h => r = none ∧ h = (A ++ [.inr (7, [.ref a1, .ref a2, .ref a3, .retAddr 0, .int (nI 44), .retAddr 1])])) := by
  refine Sp.of rfl (aw_le rfl) ?_
  refine aw_aload_n (aw_d q_Ln_init 0 rfl) rfl rfl rfl ?_
  refine aw_objI (aw_d q_Ln_init 1 rfl) iL_Ln_3 (aw_le rfl) (aw_le rfl) ?_
  refine aw_aload_n (aw_d q_Ln_init 2 rfl) rfl rfl rfl ?_
  refine aw_aload_n (aw_d q_Ln_init 3 rfl) rfl rfl rfl ?_
  refine aw_putF (fs := [.null, .null, .null, .null, .int 0, .null]) (aw_d q_Ln_init 4 rfl) pL_Ln_9_Cm rfl (fun C T N h => by cases h; rfl) (by simp) (aw_le rfl) rfl rfl ?_
  refine AW.to (h' := (A ++ [.inr (7, [.ref a1, .null, .null, .null, .int 0, .null])])) (st' := []) ?_ rfl rfl (by first | rfl | simp) (by first | rfl | simp)
  refine aw_aload_n (aw_d q_Ln_init 5 rfl) rfl rfl rfl ?_
  refine aw_aload_n (aw_d q_Ln_init 6 rfl) rfl rfl rfl ?_
  refine aw_putF (fs := [.ref a1, .null, .null, .null, .int 0, .null]) (aw_d q_Ln_init 7 rfl) pL_Ln_15_Cm rfl (fun C T N h => by cases h; rfl) (by simp) (aw_le rfl) rfl rfl ?_
  refine AW.to (h' := (A ++ [.inr (7, [.ref a1, .ref a2, .null, .null, .int 0, .null])])) (st' := []) ?_ rfl rfl (by first | rfl | simp) (by first | rfl | simp)
  refine aw_aload_n (aw_d q_Ln_init 8 rfl) rfl rfl rfl ?_
  refine aw_aload_n (aw_d q_Ln_init 9 rfl) rfl rfl rfl ?_
  refine aw_putF (fs := [.ref a1, .ref a2, .null, .null, .int 0, .null]) (aw_d q_Ln_init 10 rfl) pL_Ln_19_Cm rfl (fun C T N h => by cases h; rfl) (by simp) (aw_le rfl) rfl rfl ?_
  refine AW.to (h' := (A ++ [.inr (7, [.ref a1, .ref a2, .ref a3, .null, .int 0, .null])])) (st' := []) ?_ rfl rfl (by first | rfl | simp) (by first | rfl | simp)
  refine aw_aload_n (aw_d q_Ln_init 11 rfl) rfl rfl rfl ?_
  refine aw_aload (aw_d q_Ln_init 12 rfl) rfl rfl ?_
  refine aw_putF (fs := [.ref a1, .ref a2, .ref a3, .null, .int 0, .null]) (aw_d q_Ln_init 13 rfl) pL_Ln_23_Cm rfl (fun C T N h => by cases h; rfl) (by simp) (aw_le rfl) rfl rfl ?_
  refine AW.to (h' := (A ++ [.inr (7, [.ref a1, .ref a2, .ref a3, .retAddr 0, .int 0, .null])])) (st' := []) ?_ rfl rfl (by first | rfl | simp) (by first | rfl | simp)
  refine aw_aload_n (aw_d q_Ln_init 14 rfl) rfl rfl rfl ?_
  refine aw_iload (aw_d q_Ln_init 15 rfl) rfl ?_
  refine aw_putF (fs := [.ref a1, .ref a2, .ref a3, .retAddr 0, .int 0, .null]) (aw_d q_Ln_init 16 rfl) pL_Ln_27_Cm rfl (fun C T N h => by cases h; rfl) (by simp) (aw_le rfl) rfl rfl ?_
  refine AW.to (h' := (A ++ [.inr (7, [.ref a1, .ref a2, .ref a3, .retAddr 0, .int (nI 44), .null])])) (st' := []) ?_ rfl rfl (by first | rfl | simp) (by first | rfl | simp)
  refine aw_aload_n (aw_d q_Ln_init 17 rfl) rfl rfl rfl ?_
  refine aw_aload (aw_d q_Ln_init 18 rfl) rfl rfl ?_
  refine aw_putF (fs := [.ref a1, .ref a2, .ref a3, .retAddr 0, .int (nI 44), .null]) (aw_d q_Ln_init 19 rfl) pL_Ln_31_Cm rfl (fun C T N h => by cases h; rfl) (by simp) (aw_le rfl) rfl rfl ?_
  refine AW.to (h' := (A ++ [.inr (7, [.ref a1, .ref a2, .ref a3, .retAddr 0, .int (nI 44), .retAddr 1])])) (st' := []) ?_ rfl rfl (by first | rfl | simp) (by first | rfl | simp)
  exact aw_vret (aw_d q_Ln_init 20 rfl) rfl (⟨rfl, rfl⟩)
set_option maxRecDepth 20000 in
theorem sp_Cm_init {g : aw_G} {A : aw_hp} {a1 a2 a3 : Nat} : Sp g M_Cm_init 2 46 0 0 [.ref A.length, .ref a1, .ref a2, .ref a3] (A ++ [.inr (7, [.null, .null, .null, .null, .int 0, .null])]) (fun r h => r = none ∧ h = (A ++ [.inr (7, [.ref a1, .ref a2, .ref a3, .retAddr 0, .int (nI 44), .retAddr 1])])) := by
  refine Sp.of rfl (aw_le rfl) ?_
  refine aw_aload_n (aw_d q_Cm_init 0 rfl) rfl rfl rfl ?_
  refine aw_aload_n (aw_d q_Cm_init 1 rfl) rfl rfl rfl ?_
  refine aw_aload_n (aw_d q_Cm_init 2 rfl) rfl rfl rfl ?_
  refine aw_aload_n (aw_d q_Cm_init 3 rfl) rfl rfl rfl ?_
  refine aw_ldcS (aw_d q_Cm_init 4 rfl) tL_Cm_3 ?_
  refine aw_bipush (v := nI 44) (aw_d q_Cm_init 5 rfl) (by decide) ?_
  refine aw_ldcS (aw_d q_Cm_init 6 rfl) tL_Cm_5 ?_
  skip
  refine aw_callI (a := A.length) (vs := [.ref a1, .ref a2, .ref a3, .retAddr 0, .int (nI 44), .retAddr 1]) (aw_d q_Cm_init 7 rfl) iL_Cm_7 (sp_Ln_init_Cm) rfl (aw_le rfl) ⟨aw_le rfl, aw_le rfl⟩ ⟨aw_le rfl, aw_le rfl⟩ (fun r10 h10 hp10 => ?_)
  obtain ⟨rfl, rfl⟩ := hp10
  refine AW.to (h' := (A ++ [.inr (7, [.ref a1, .ref a2, .ref a3, .retAddr 0, .int (nI 44), .retAddr 1])])) (st' := []) ?_ rfl rfl (by first | rfl | simp) (by first | rfl | simp)
  exact aw_vret (aw_d q_Cm_init 8 rfl) rfl (⟨rfl, rfl⟩)
set_option maxRecDepth 20000 in
theorem sp_Ln_init_Ta {g : aw_G} {A : aw_hp} {a1 a2 a3 : Nat} : Sp g M_Ln_init 1 20 0 0 [.ref A.length, .ref a1, .ref a2, .ref a3, .retAddr 2, .int (nI 9), .retAddr 3] (A ++ [.inr (8, [.null, .null, .null, .null, .int 0, .null])]) (fun r h => r = none ∧ h = (A ++ [.inr (8, [.ref a1, .ref a2, .ref a3, .retAddr 2, .int (nI 9), .retAddr 3])])) := by
  refine Sp.of rfl (aw_le rfl) ?_
  refine aw_aload_n (aw_d q_Ln_init 0 rfl) rfl rfl rfl ?_
  refine aw_objI (aw_d q_Ln_init 1 rfl) iL_Ln_3 (aw_le rfl) (aw_le rfl) ?_
  refine aw_aload_n (aw_d q_Ln_init 2 rfl) rfl rfl rfl ?_
  refine aw_aload_n (aw_d q_Ln_init 3 rfl) rfl rfl rfl ?_
  refine aw_putF (fs := [.null, .null, .null, .null, .int 0, .null]) (aw_d q_Ln_init 4 rfl) pL_Ln_9_Ta rfl (fun C T N h => by cases h; rfl) (by simp) (aw_le rfl) rfl rfl ?_
  refine AW.to (h' := (A ++ [.inr (8, [.ref a1, .null, .null, .null, .int 0, .null])])) (st' := []) ?_ rfl rfl (by first | rfl | simp) (by first | rfl | simp)
  refine aw_aload_n (aw_d q_Ln_init 5 rfl) rfl rfl rfl ?_
  refine aw_aload_n (aw_d q_Ln_init 6 rfl) rfl rfl rfl ?_
  refine aw_putF (fs := [.ref a1, .null, .null, .null, .int 0, .null]) (aw_d q_Ln_init 7 rfl) pL_Ln_15_Ta rfl (fun C T N h => by cases h; rfl) (by simp) (aw_le rfl) rfl rfl ?_
  refine AW.to (h' := (A ++ [.inr (8, [.ref a1, .ref a2, .null, .null, .int 0, .null])])) (st' := []) ?_ rfl rfl (by first | rfl | simp) (by first | rfl | simp)
  refine aw_aload_n (aw_d q_Ln_init 8 rfl) rfl rfl rfl ?_
  refine aw_aload_n (aw_d q_Ln_init 9 rfl) rfl rfl rfl ?_
  refine aw_putF (fs := [.ref a1, .ref a2, .null, .null, .int 0, .null]) (aw_d q_Ln_init 10 rfl) pL_Ln_19_Ta rfl (fun C T N h => by cases h; rfl) (by simp) (aw_le rfl) rfl rfl ?_
  refine AW.to (h' := (A ++ [.inr (8, [.ref a1, .ref a2, .ref a3, .null, .int 0, .null])])) (st' := []) ?_ rfl rfl (by first | rfl | simp) (by first | rfl | simp)
  refine aw_aload_n (aw_d q_Ln_init 11 rfl) rfl rfl rfl ?_
  refine aw_aload (aw_d q_Ln_init 12 rfl) rfl rfl ?_
  refine aw_putF (fs := [.ref a1, .ref a2, .ref a3, .null, .int 0, .null]) (aw_d q_Ln_init 13 rfl) pL_Ln_23_Ta rfl (fun C T N h => by cases h; rfl) (by simp) (aw_le rfl) rfl rfl ?_
  refine AW.to (h' := (A ++ [.inr (8, [.ref a1, .ref a2, .ref a3, .retAddr 2, .int 0, .null])])) (st' := []) ?_ rfl rfl (by first | rfl | simp) (by first | rfl | simp)
  refine aw_aload_n (aw_d q_Ln_init 14 rfl) rfl rfl rfl ?_
  refine aw_iload (aw_d q_Ln_init 15 rfl) rfl ?_
  refine aw_putF (fs := [.ref a1, .ref a2, .ref a3, .retAddr 2, .int 0, .null]) (aw_d q_Ln_init 16 rfl) pL_Ln_27_Ta rfl (fun C T N h => by cases h; rfl) (by simp) (aw_le rfl) rfl rfl ?_
  refine AW.to (h' := (A ++ [.inr (8, [.ref a1, .ref a2, .ref a3, .retAddr 2, .int (nI 9), .null])])) (st' := []) ?_ rfl rfl (by first | rfl | simp) (by first | rfl | simp)
  refine aw_aload_n (aw_d q_Ln_init 17 rfl) rfl rfl rfl ?_
  refine aw_aload (aw_d q_Ln_init 18 rfl) rfl rfl ?_
  refine aw_putF (fs := [.ref a1, .ref a2, .ref a3, .retAddr 2, .int (nI 9), .null]) (aw_d q_Ln_init 19 rfl) pL_Ln_31_Ta rfl (fun C T N h => by cases h; rfl) (by simp) (aw_le rfl) rfl rfl ?_
  refine AW.to (h' := (A ++ [.inr (8, [.ref a1, .ref a2, .ref a3, .retAddr 2, .int (nI 9), .retAddr 3])])) (st' := []) ?_ rfl rfl (by first | rfl | simp) (by first | rfl | simp)
  exact aw_vret (aw_d q_Ln_init 20 rfl) rfl (⟨rfl, rfl⟩)
set_option maxRecDepth 20000 in
theorem sp_Ta_init {g : aw_G} {A : aw_hp} {a1 a2 a3 : Nat} : Sp g M_Ta_init 2 46 0 0 [.ref A.length, .ref a1, .ref a2, .ref a3] (A ++ [.inr (8, [.null, .null, .null, .null, .int 0, .null])]) (fun r h => r = none ∧ h = (A ++ [.inr (8, [.ref a1, .ref a2, .ref a3, .retAddr 2, .int (nI 9), .retAddr 3])])) := by
  refine Sp.of rfl (aw_le rfl) ?_
  refine aw_aload_n (aw_d q_Ta_init 0 rfl) rfl rfl rfl ?_
  refine aw_aload_n (aw_d q_Ta_init 1 rfl) rfl rfl rfl ?_
  refine aw_aload_n (aw_d q_Ta_init 2 rfl) rfl rfl rfl ?_
  refine aw_aload_n (aw_d q_Ta_init 3 rfl) rfl rfl rfl ?_
  refine aw_ldcS (aw_d q_Ta_init 4 rfl) tL_Ta_3 ?_
  refine aw_bipush (v := nI 9) (aw_d q_Ta_init 5 rfl) (by decide) ?_
  refine aw_ldcS (aw_d q_Ta_init 6 rfl) tL_Ta_5 ?_
  skip
  refine aw_callI (a := A.length) (vs := [.ref a1, .ref a2, .ref a3, .retAddr 2, .int (nI 9), .retAddr 3]) (aw_d q_Ta_init 7 rfl) iL_Ta_7 (sp_Ln_init_Ta) rfl (aw_le rfl) ⟨aw_le rfl, aw_le rfl⟩ ⟨aw_le rfl, aw_le rfl⟩ (fun r10 h10 hp10 => ?_)
  obtain ⟨rfl, rfl⟩ := hp10
  refine AW.to (h' := (A ++ [.inr (8, [.ref a1, .ref a2, .ref a3, .retAddr 2, .int (nI 9), .retAddr 3])])) (st' := []) ?_ rfl rfl (by first | rfl | simp) (by first | rfl | simp)
  exact aw_vret (aw_d q_Ta_init 8 rfl) rfl (⟨rfl, rfl⟩)
set_option maxRecDepth 20000 in
theorem sp_Tx_emptyK {g : aw_G} {A : aw_hp} {a1 : Nat} {v0 v1 v2 v3 v4 v5 : Int32} : Sp g M_Tx_empty 0 0 0 0 [.ref (A.length + 1)] (A ++ [.inr (4, [.ref a1, .int v0, .int v1, .int v2, .int v3, .int v4, .int v5, .ref (A.length + 1)]), .inr (1, [.ref (A.length + 2), .int 0]), .inl (0, 20, .inl (fun _ => 0))]) (fun r h => r = none ∧ h = (A ++ [.inr (4, [.ref a1, .int v0, .int v1, .int v2, .int v3, .int v4, .int v5, .ref (A.length + 1)]), .inr (1, [.ref (A.length + 2), .int (nI 0)]), .inl (0, 20, .inl (fun _ => 0))])) := by
  refine Sp.of rfl (aw_le rfl) ?_
  refine aw_aload_n (aw_d q_Tx_empty 0 rfl) rfl rfl rfl ?_
  refine aw_iconst (v := nI 0) (aw_d q_Tx_empty 1 rfl) (by decide) ?_
  refine aw_putf (fs := [.ref (A.length + 2), .int 0]) (aw_d q_Tx_empty 2 rfl) pL_Tx_15_Tx (by simp) (aw_le rfl) rfl rfl ?_
  refine AW.to (h' := (A ++ [.inr (4, [.ref a1, .int v0, .int v1, .int v2, .int v3, .int v4, .int v5, .ref (A.length + 1)]), .inr (1, [.ref (A.length + 2), .int (nI 0)]), .inl (0, 20, .inl (fun _ => 0))])) (st' := []) ?_ rfl rfl (by first | rfl | simp) (by first | rfl | simp)
  exact aw_vret (aw_d q_Tx_empty 3 rfl) rfl (⟨rfl, rfl⟩)
set_option maxRecDepth 20000 in
theorem sp_Sc_btK {g : aw_G} {A : aw_hp} {a1 : Nat} {v0 v1 v2 v3 v4 v5 : Int32} : Sp g M_Sc_beginTerm 1 20 0 0 [.ref A.length, .int (-1)] (A ++ [.inr (4, [.ref a1, .int v0, .int v1, .int v2, .int v3, .int v4, .int v5, .ref (A.length + 1)]), .inr (1, [.ref (A.length + 2), .int 0]), .inl (0, 20, .inl (fun _ => 0))]) (fun r h => r = none ∧ h = (A ++ [.inr (4, [.ref a1, .int v0, .int v1, .int v2, .int v3, .int (-1), .int (nI 0), .ref (A.length + 1)]), .inr (1, [.ref (A.length + 2), .int (nI 0)]), .inl (0, 20, .inl (fun _ => 0))])) := by
  refine Sp.of rfl (aw_le rfl) ?_
  refine aw_aload_n (aw_d q_Sc_beginTerm 0 rfl) rfl rfl rfl ?_
  refine aw_iload_n (aw_d q_Sc_beginTerm 1 rfl) rfl rfl ?_
  refine aw_putf (fs := [.ref a1, .int v0, .int v1, .int v2, .int v3, .int v4, .int v5, .ref (A.length + 1)]) (aw_d q_Sc_beginTerm 2 rfl) pL_Sc_42_Sc (by simp) (aw_le rfl) rfl rfl ?_
  refine AW.to (h' := (A ++ [.inr (4, [.ref a1, .int v0, .int v1, .int v2, .int v3, .int (-1), .int v5, .ref (A.length + 1)]), .inr (1, [.ref (A.length + 2), .int 0]), .inl (0, 20, .inl (fun _ => 0))])) (st' := []) ?_ rfl rfl (by first | rfl | simp) (by first | rfl | simp)
  refine aw_aload_n (aw_d q_Sc_beginTerm 3 rfl) rfl rfl rfl ?_
  refine aw_iconst (v := nI 0) (aw_d q_Sc_beginTerm 4 rfl) (by decide) ?_
  refine aw_putf (fs := [.ref a1, .int v0, .int v1, .int v2, .int v3, .int (-1), .int v5, .ref (A.length + 1)]) (aw_d q_Sc_beginTerm 5 rfl) pL_Sc_45_Sc (by simp) (aw_le rfl) rfl rfl ?_
  refine AW.to (h' := (A ++ [.inr (4, [.ref a1, .int v0, .int v1, .int v2, .int v3, .int (-1), .int (nI 0), .ref (A.length + 1)]), .inr (1, [.ref (A.length + 2), .int 0]), .inl (0, 20, .inl (fun _ => 0))])) (st' := []) ?_ rfl rfl (by first | rfl | simp) (by first | rfl | simp)
  refine aw_aload_n (aw_d q_Sc_beginTerm 6 rfl) rfl rfl rfl ?_
  refine aw_getf (fs := [.ref a1, .int v0, .int v1, .int v2, .int v3, .int (-1), .int (nI 0), .ref (A.length + 1)]) (aw_d q_Sc_beginTerm 7 rfl) fL_Sc_18_Sc (by simp) rfl ?_
  skip
  refine aw_callV (a := (A.length + 1)) (ci := 1) (vs := []) (fs := [.ref (A.length + 2), .int 0]) (aw_d q_Sc_beginTerm 8 rfl) vL_Sc_48_Tx (sp_Tx_emptyK) (by simp) rfl rfl (aw_le rfl) ⟨aw_le rfl, aw_le rfl⟩ ⟨aw_le rfl, aw_le rfl⟩ (fun r14 h14 hp14 => ?_)
  obtain ⟨rfl, rfl⟩ := hp14
  refine AW.to (h' := (A ++ [.inr (4, [.ref a1, .int v0, .int v1, .int v2, .int v3, .int (-1), .int (nI 0), .ref (A.length + 1)]), .inr (1, [.ref (A.length + 2), .int (nI 0)]), .inl (0, 20, .inl (fun _ => 0))])) (st' := []) ?_ rfl rfl (by first | rfl | simp) (by first | rfl | simp)
  exact aw_vret (aw_d q_Sc_beginTerm 9 rfl) rfl (⟨rfl, rfl⟩)
set_option maxRecDepth 20000 in
theorem sp_Sc_beginK {g : aw_G} {A : aw_hp} {a1 : Nat} : Sp g M_Sc_begin 2 41 0 0 [.ref A.length] (A ++ [.inr (4, [.ref a1, .int 0, .int 0, .int 0, .int 0, .int 0, .int 0, .ref (A.length + 1)]), .inr (1, [.ref (A.length + 2), .int 0]), .inl (0, 20, .inl (fun _ => 0))]) (fun r h => r = none ∧ h = (A ++ [.inr (4, [.ref a1, .int (nI 0), .int (nI 0), .int (nI 0), .int (nI 0), .int (-1), .int (nI 0), .ref (A.length + 1)]), .inr (1, [.ref (A.length + 2), .int (nI 0)]), .inl (0, 20, .inl (fun _ => 0))])) := by
  refine Sp.of rfl (aw_le rfl) ?_
  refine aw_aload_n (aw_d q_Sc_begin 0 rfl) rfl rfl rfl ?_
  refine aw_iconst (v := nI 0) (aw_d q_Sc_begin 1 rfl) (by decide) ?_
  refine aw_putf (fs := [.ref a1, .int 0, .int 0, .int 0, .int 0, .int 0, .int 0, .ref (A.length + 1)]) (aw_d q_Sc_begin 2 rfl) pL_Sc_25_Sc (by simp) (aw_le rfl) rfl rfl ?_
  refine AW.to (h' := (A ++ [.inr (4, [.ref a1, .int (nI 0), .int 0, .int 0, .int 0, .int 0, .int 0, .ref (A.length + 1)]), .inr (1, [.ref (A.length + 2), .int 0]), .inl (0, 20, .inl (fun _ => 0))])) (st' := []) ?_ rfl rfl (by first | rfl | simp) (by first | rfl | simp)
  refine aw_aload_n (aw_d q_Sc_begin 3 rfl) rfl rfl rfl ?_
  refine aw_iconst (v := nI 0) (aw_d q_Sc_begin 4 rfl) (by decide) ?_
  refine aw_putf (fs := [.ref a1, .int (nI 0), .int 0, .int 0, .int 0, .int 0, .int 0, .ref (A.length + 1)]) (aw_d q_Sc_begin 5 rfl) pL_Sc_29_Sc (by simp) (aw_le rfl) rfl rfl ?_
  refine AW.to (h' := (A ++ [.inr (4, [.ref a1, .int (nI 0), .int (nI 0), .int 0, .int 0, .int 0, .int 0, .ref (A.length + 1)]), .inr (1, [.ref (A.length + 2), .int 0]), .inl (0, 20, .inl (fun _ => 0))])) (st' := []) ?_ rfl rfl (by first | rfl | simp) (by first | rfl | simp)
  refine aw_aload_n (aw_d q_Sc_begin 6 rfl) rfl rfl rfl ?_
  refine aw_iconst (v := nI 0) (aw_d q_Sc_begin 7 rfl) (by decide) ?_
  refine aw_putf (fs := [.ref a1, .int (nI 0), .int (nI 0), .int 0, .int 0, .int 0, .int 0, .ref (A.length + 1)]) (aw_d q_Sc_begin 8 rfl) pL_Sc_32_Sc (by simp) (aw_le rfl) rfl rfl ?_
  refine AW.to (h' := (A ++ [.inr (4, [.ref a1, .int (nI 0), .int (nI 0), .int (nI 0), .int 0, .int 0, .int 0, .ref (A.length + 1)]), .inr (1, [.ref (A.length + 2), .int 0]), .inl (0, 20, .inl (fun _ => 0))])) (st' := []) ?_ rfl rfl (by first | rfl | simp) (by first | rfl | simp)
  refine aw_aload_n (aw_d q_Sc_begin 9 rfl) rfl rfl rfl ?_
  refine aw_iconst (v := nI 0) (aw_d q_Sc_begin 10 rfl) (by decide) ?_
  refine aw_putf (fs := [.ref a1, .int (nI 0), .int (nI 0), .int (nI 0), .int 0, .int 0, .int 0, .ref (A.length + 1)]) (aw_d q_Sc_begin 11 rfl) pL_Sc_35_Sc (by simp) (aw_le rfl) rfl rfl ?_
  refine AW.to (h' := (A ++ [.inr (4, [.ref a1, .int (nI 0), .int (nI 0), .int (nI 0), .int (nI 0), .int 0, .int 0, .ref (A.length + 1)]), .inr (1, [.ref (A.length + 2), .int 0]), .inl (0, 20, .inl (fun _ => 0))])) (st' := []) ?_ rfl rfl (by first | rfl | simp) (by first | rfl | simp)
  refine aw_aload_n (aw_d q_Sc_begin 12 rfl) rfl rfl rfl ?_
  refine aw_iconst (v := (-1)) (aw_d q_Sc_begin 13 rfl) (by decide) ?_
  skip
  refine aw_callV (a := A.length) (ci := 4) (vs := [.int ((-1))]) (fs := [.ref a1, .int (nI 0), .int (nI 0), .int (nI 0), .int (nI 0), .int 0, .int 0, .ref (A.length + 1)]) (aw_d q_Sc_begin 14 rfl) vL_Sc_38_Sc (sp_Sc_btK) (by simp) rfl rfl (aw_le rfl) ⟨aw_le rfl, aw_le rfl⟩ ⟨aw_le rfl, aw_le rfl⟩ (fun r22 h22 hp22 => ?_)
  obtain ⟨rfl, rfl⟩ := hp22
  refine AW.to (h' := (A ++ [.inr (4, [.ref a1, .int (nI 0), .int (nI 0), .int (nI 0), .int (nI 0), .int (-1), .int (nI 0), .ref (A.length + 1)]), .inr (1, [.ref (A.length + 2), .int (nI 0)]), .inl (0, 20, .inl (fun _ => 0))])) (st' := []) ?_ rfl rfl (by first | rfl | simp) (by first | rfl | simp)
  exact aw_vret (aw_d q_Sc_begin 15 rfl) rfl (⟨rfl, rfl⟩)
set_option maxRecDepth 20000 in
theorem sp_Sc_init {g : aw_G} {A : aw_hp} {a1 : Nat} : Sp g M_Sc_init 3 61 2 22 [.ref A.length, .ref a1] (A ++ [.inr (4, [.null, .int 0, .int 0, .int 0, .int 0, .int 0, .int 0, .null])]) (fun r h => r = none ∧ h = (A ++ [.inr (4, [.ref a1, .int (nI 0), .int (nI 0), .int (nI 0), .int (nI 0), .int (-1), .int (nI 0), .ref (A.length + 1)]), .inr (1, [.ref (A.length + 2), .int (nI 0)]), .inl (0, 20, .inl (fun _ => 0))])) := by
  refine Sp.of rfl (aw_le rfl) ?_
  refine aw_aload_n (aw_d q_Sc_init 0 rfl) rfl rfl rfl ?_
  refine aw_objI (aw_d q_Sc_init 1 rfl) iL_Sc_3 (aw_le rfl) (aw_le rfl) ?_
  refine aw_aload_n (aw_d q_Sc_init 2 rfl) rfl rfl rfl ?_
  refine aw_aload_n (aw_d q_Sc_init 3 rfl) rfl rfl rfl ?_
  refine aw_putF (fs := [.null, .int 0, .int 0, .int 0, .int 0, .int 0, .int 0, .null]) (aw_d q_Sc_init 4 rfl) pL_Sc_9_Sc rfl (fun C T N h => by cases h; rfl) (by simp) (aw_le rfl) rfl rfl ?_
  refine AW.to (h' := (A ++ [.inr (4, [.ref a1, .int 0, .int 0, .int 0, .int 0, .int 0, .int 0, .null])])) (st' := []) ?_ rfl rfl (by first | rfl | simp) (by first | rfl | simp)
  refine aw_aload_n (aw_d q_Sc_init 5 rfl) rfl rfl rfl ?_
  refine aw_new (ci := 1) (fs := [.null, .int 0]) (aw_d q_Sc_init 6 rfl) rfl nL_Sc_15 nI_Tx.1 nI_Tx.2 in_Tx ty_Tx ok_Tx (by intro j hj; rcases (show j = 0 ∨ j = 1 by omega) with rfl | rfl <;> rfl) (aw_le rfl) (aw_le rfl) ?_
  refine AW.to (h' := (A ++ [.inr (4, [.ref a1, .int 0, .int 0, .int 0, .int 0, .int 0, .int 0, .null]), .inr (1, [.null, .int 0])])) (st' := [.ref (A.length + 1), .ref A.length]) ?_ rfl rfl (by first | rfl | simp) (by first | rfl | simp)
  refine aw_dup (aw_d q_Sc_init 7 rfl) rfl ?_
  have eA : ∀ (x y : aw_ob), A ++ [x, y] = (A ++ [x]) ++ [y] := fun x y => by simp
  refine AW.to (h' := (A ++ [.inr (4, [.ref a1, .int 0, .int 0, .int 0, .int 0, .int 0, .int 0, .null])]) ++ [.inr (1, [.null, .int 0])]) ?_ rfl rfl rfl (by simp)
  refine aw_callI (a := (A.length + 1)) (vs := []) (aw_d q_Sc_init 8 rfl) iL_Sc_17 ((by have q := sp_Tx_init (g := g) (A := A ++ [.inr (4, [.ref a1, .int 0, .int 0, .int 0, .int 0, .int 0, .int 0, .null])]); simpa using q)) rfl (aw_le rfl) ⟨aw_le rfl, aw_le rfl⟩ ⟨aw_le rfl, aw_le rfl⟩ (fun r14 h14 hp14 => ?_)
  obtain ⟨rfl, rfl⟩ := hp14
  refine AW.to (h' := (A ++ [.inr (4, [.ref a1, .int 0, .int 0, .int 0, .int 0, .int 0, .int 0, .null]), .inr (1, [.ref (A.length + 2), .int (nI 0)]), .inl (0, 20, .inl (fun _ => 0))])) (st' := [.ref (A.length + 1), .ref A.length]) ?_ rfl rfl (by first | rfl | simp) (by first | rfl | simp)
  refine aw_putF (fs := [.ref a1, .int 0, .int 0, .int 0, .int 0, .int 0, .int 0, .null]) (aw_d q_Sc_init 9 rfl) pL_Sc_18_Sc rfl (fun C T N h => by cases h; rfl) (by simp) (aw_le rfl) rfl rfl ?_
  refine AW.to (h' := (A ++ [.inr (4, [.ref a1, .int 0, .int 0, .int 0, .int 0, .int 0, .int 0, .ref (A.length + 1)]), .inr (1, [.ref (A.length + 2), .int (nI 0)]), .inl (0, 20, .inl (fun _ => 0))])) (st' := []) ?_ rfl rfl (by first | rfl | simp) (by first | rfl | simp)
  refine aw_aload_n (aw_d q_Sc_init 10 rfl) rfl rfl rfl ?_
  skip
  refine aw_callV (a := A.length) (ci := 4) (vs := []) (fs := [.ref a1, .int 0, .int 0, .int 0, .int 0, .int 0, .int 0, .ref (A.length + 1)]) (aw_d q_Sc_init 11 rfl) vL_Sc_22_Sc (sp_Sc_beginK) (by simp) rfl rfl (aw_le rfl) ⟨aw_le rfl, aw_le rfl⟩ ⟨aw_le rfl, aw_le rfl⟩ (fun r21 h21 hp21 => ?_)
  obtain ⟨rfl, rfl⟩ := hp21
  refine AW.to (h' := (A ++ [.inr (4, [.ref a1, .int (nI 0), .int (nI 0), .int (nI 0), .int (nI 0), .int (-1), .int (nI 0), .ref (A.length + 1)]), .inr (1, [.ref (A.length + 2), .int (nI 0)]), .inl (0, 20, .inl (fun _ => 0))])) (st' := []) ?_ rfl rfl (by first | rfl | simp) (by first | rfl | simp)
  exact aw_vret (aw_d q_Sc_init 12 rfl) rfl (⟨rfl, rfl⟩)
