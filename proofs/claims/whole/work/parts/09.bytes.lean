set_option maxRecDepth 20000 in
theorem sp_By_get_1 {g : aw_G} {S : aw_S} {n k : Nat} (hn : S.1 101 = nI n) (h3 : n ≤ 3000) (hk : k < n) : Sp g M_By_get 0 0 0 0 [.ref 1, .int (nI k)] (HP S) (fun r h => r = some (.int (S.2 2 k)) ∧ h = HP S) := by
  refine Sp.of rfl (aw_le rfl) ?_
  refine aw_iload_n (aw_d q_By_get 0 rfl) rfl rfl ?_
  refine aw_ifN_lt (tgt := 28) (aw_d q_By_get 1 rfl) (by decide) (by omega) (fun c1 => by exfalso; omega) (fun c1 => ?_)
  refine aw_iload_n (aw_d q_By_get 2 rfl) rfl rfl ?_
  refine aw_aload_n (aw_d q_By_get 3 rfl) rfl rfl rfl ?_
  refine aw_getf (v := .int (nI (n))) (aw_d q_By_get 4 rfl) fL_By_15_By rfl (gk hn) ?_
  refine aw_icmpN_ge (tgt := 28) (aw_d q_By_get 5 rfl) (by decide) (by omega) (by omega) (fun c9 => by exfalso; omega) (fun c9 => ?_)
  refine aw_iload_n (aw_d q_By_get 6 rfl) rfl rfl ?_
  refine aw_sipush (v := nI 3000) (aw_d q_By_get 7 rfl) (by decide) ?_
  refine aw_icmpN_ge (tgt := 28) (aw_d q_By_get 8 rfl) (by decide) (by omega) (by omega) (fun c16 => by exfalso; omega) (fun c16 => ?_)
  refine aw_aload_n (aw_d q_By_get 9 rfl) rfl rfl rfl ?_
  refine aw_getf (aw_d q_By_get 10 rfl) fL_By_9_By rfl rfl ?_
  refine aw_iload_n (aw_d q_By_get 11 rfl) rfl rfl ?_
  refine aw_ialdN (aw_d q_By_get 12 rfl) rfl (by omega) rfl ?_
  refine aw_goto (tgt := 29) (aw_d q_By_get 13 rfl) (by decide) ?_
  exact aw_iret (aw_d q_By_get 15 rfl) rfl (⟨rfl, rfl⟩)
set_option maxRecDepth 20000 in
theorem sp_By_empty_1 {g : aw_G} {S : aw_S}  : Sp g M_By_empty 0 0 0 0 [.ref 1] (HP S) (fun r h => r = none ∧ h = HP (si (si S 101 (nI 0)) 102 (nI 0))) := by
  refine Sp.of rfl (aw_le rfl) ?_
  refine aw_aload_n (aw_d q_By_empty 0 rfl) rfl rfl rfl ?_
  refine aw_iconst (v := nI 0) (aw_d q_By_empty 1 rfl) (by decide) ?_
  refine wi_1_1 (aw_d q_By_empty 2 rfl) pL_By_15_By ?_
  refine aw_aload_n (aw_d q_By_empty 3 rfl) rfl rfl rfl ?_
  refine aw_iconst (v := nI 0) (aw_d q_By_empty 4 rfl) (by decide) ?_
  refine wi_1_2 (aw_d q_By_empty 5 rfl) pL_By_19_By (Or.inl rfl) ?_
  exact aw_vret (aw_d q_By_empty 6 rfl) rfl (⟨rfl, rfl⟩)
set_option maxRecDepth 20000 in
theorem sp_By_hasRoom_1 {g : aw_G} {S : aw_S} {n k : Nat} (hn : S.1 101 = nI n) (h3 : n ≤ 3000) (hk : k ≤ 3000) : Sp g M_By_hasRoom 0 0 0 0 [.ref 1, .int (nI k)] (HP S) (fun r h => r = some (.int (if n + k ≤ 3000 then nI 1 else nI 0)) ∧ h = HP S) := by
  refine Sp.of rfl (aw_le rfl) ?_
  refine aw_iload_n (aw_d q_By_hasRoom 0 rfl) rfl rfl ?_
  refine aw_sipush (v := nI 3000) (aw_d q_By_hasRoom 1 rfl) (by decide) ?_
  refine aw_aload_n (aw_d q_By_hasRoom 2 rfl) rfl rfl rfl ?_
  refine aw_getf (v := .int (nI (n))) (aw_d q_By_hasRoom 3 rfl) fL_By_15_By rfl (gk hn) ?_
  refine aw_isubN (aw_d q_By_hasRoom 4 rfl) (by omega) ?_
  refine aw_icmpN_gt (tgt := 16) (aw_d q_By_hasRoom 5 rfl) (by decide) (by omega) (by omega) (fun c9 => ?_) (fun c9 => ?_)
  · refine aw_iconst (v := nI 0) (aw_d q_By_hasRoom 8 rfl) (by decide) ?_
    exact aw_zret (aw_d q_By_hasRoom 9 rfl) rfl (rfl) (⟨by first | rfl | (rw [if_pos (by omega)]) | (rw [if_neg (by omega)]), rfl⟩)
  · refine aw_iconst (v := nI 1) (aw_d q_By_hasRoom 6 rfl) (by decide) ?_
    refine aw_goto (tgt := 17) (aw_d q_By_hasRoom 7 rfl) (by decide) ?_
    exact aw_zret (aw_d q_By_hasRoom 9 rfl) rfl (rfl) (⟨by first | rfl | (rw [if_pos (by omega)]) | (rw [if_neg (by omega)]), rfl⟩)
set_option maxRecDepth 20000 in
theorem sp_By_add_1 {g : aw_G} {S : aw_S} {n : Nat} {b : Int32} (hn : S.1 101 = nI n) (h3 : n < 3000) : Sp g M_By_add 0 0 0 0 [.ref 1, .int b] (HP S) (fun r h => r = none ∧ h = HP (si (sa S 2 (upd (S.2 2) n b)) 101 (nI (n + 1)))) := by
  refine Sp.of rfl (aw_le rfl) ?_
  refine aw_aload_n (aw_d q_By_add 0 rfl) rfl rfl rfl ?_
  refine aw_getf (v := .int (nI (n))) (aw_d q_By_add 1 rfl) fL_By_15_By rfl (gk hn) ?_
  refine aw_ifN_lt (tgt := 40) (aw_d q_By_add 2 rfl) (by decide) (by omega) (fun c4 => by exfalso; omega) (fun c4 => ?_)
  refine aw_aload_n (aw_d q_By_add 3 rfl) rfl rfl rfl ?_
  refine aw_getf (v := .int (nI (n))) (aw_d q_By_add 4 rfl) fL_By_15_By rfl (gk hn) ?_
  refine aw_sipush (v := nI 3000) (aw_d q_By_add 5 rfl) (by decide) ?_
  refine aw_icmpN_ge (tgt := 40) (aw_d q_By_add 6 rfl) (by decide) (by omega) (by omega) (fun c14 => by exfalso; omega) (fun c14 => ?_)
  refine aw_aload_n (aw_d q_By_add 7 rfl) rfl rfl rfl ?_
  refine aw_getf (aw_d q_By_add 8 rfl) fL_By_9_By rfl rfl ?_
  refine aw_aload_n (aw_d q_By_add 9 rfl) rfl rfl rfl ?_
  refine aw_getf (v := .int (nI (n))) (aw_d q_By_add 10 rfl) fL_By_15_By rfl (gk hn) ?_
  refine aw_iload_n (aw_d q_By_add 11 rfl) rfl rfl ?_
  refine wn_2 (aw_d q_By_add 12 rfl) (by omega) ?_
  refine aw_aload_n (aw_d q_By_add 13 rfl) rfl rfl rfl ?_
  refine aw_dup (aw_d q_By_add 14 rfl) rfl ?_
  refine aw_getf (v := .int (nI (n))) (aw_d q_By_add 15 rfl) fL_By_15_By rfl (gk hn) ?_
  refine aw_iconst (v := nI 1) (aw_d q_By_add 16 rfl) (by decide) ?_
  refine aw_iaddN (aw_d q_By_add 17 rfl) ?_
  refine wi_1_1 (aw_d q_By_add 18 rfl) pL_By_15_By ?_
  refine aw_goto (tgt := 45) (aw_d q_By_add 19 rfl) (by decide) ?_
  exact aw_vret (aw_d q_By_add 23 rfl) rfl (⟨rfl, rfl⟩)
set_option maxRecDepth 20000 in
theorem sp_By_addF_1 {g : aw_G} {S : aw_S} {b : Int32} (hn : S.1 101 = nI 3000) : Sp g M_By_add 0 0 0 0 [.ref 1, .int b] (HP S) (fun r h => r = none ∧ h = HP (si S 102 (nI 1))) := by
  refine Sp.of rfl (aw_le rfl) ?_
  refine aw_aload_n (aw_d q_By_add 0 rfl) rfl rfl rfl ?_
  refine aw_getf (v := .int (nI (3000))) (aw_d q_By_add 1 rfl) fL_By_15_By rfl (gk hn) ?_
  refine aw_ifN_lt (tgt := 40) (aw_d q_By_add 2 rfl) (by decide) (by omega) (fun c4 => by exfalso; omega) (fun c4 => ?_)
  refine aw_aload_n (aw_d q_By_add 3 rfl) rfl rfl rfl ?_
  refine aw_getf (v := .int (nI (3000))) (aw_d q_By_add 4 rfl) fL_By_15_By rfl (gk hn) ?_
  refine aw_sipush (v := nI 3000) (aw_d q_By_add 5 rfl) (by decide) ?_
  refine aw_icmpN_ge (tgt := 40) (aw_d q_By_add 6 rfl) (by decide) (by omega) (by omega) (fun c14 => ?_) (fun c14 => by exfalso; omega)
  refine aw_aload_n (aw_d q_By_add 20 rfl) rfl rfl rfl ?_
  refine aw_iconst (v := nI 1) (aw_d q_By_add 21 rfl) (by decide) ?_
  refine wi_1_2 (aw_d q_By_add 22 rfl) pL_By_19_By (Or.inr rfl) ?_
  exact aw_vret (aw_d q_By_add 23 rfl) rfl (⟨rfl, rfl⟩)
set_option maxRecDepth 20000 in
theorem sp_By_get_3 {g : aw_G} {S : aw_S} {n k : Nat} (hn : S.1 301 = nI n) (h3 : n ≤ 3000) (hk : k < n) : Sp g M_By_get 0 0 0 0 [.ref 3, .int (nI k)] (HP S) (fun r h => r = some (.int (S.2 4 k)) ∧ h = HP S) := by
  refine Sp.of rfl (aw_le rfl) ?_
  refine aw_iload_n (aw_d q_By_get 0 rfl) rfl rfl ?_
  refine aw_ifN_lt (tgt := 28) (aw_d q_By_get 1 rfl) (by decide) (by omega) (fun c1 => by exfalso; omega) (fun c1 => ?_)
  refine aw_iload_n (aw_d q_By_get 2 rfl) rfl rfl ?_
  refine aw_aload_n (aw_d q_By_get 3 rfl) rfl rfl rfl ?_
  refine aw_getf (v := .int (nI (n))) (aw_d q_By_get 4 rfl) fL_By_15_By rfl (gk hn) ?_
  refine aw_icmpN_ge (tgt := 28) (aw_d q_By_get 5 rfl) (by decide) (by omega) (by omega) (fun c9 => by exfalso; omega) (fun c9 => ?_)
  refine aw_iload_n (aw_d q_By_get 6 rfl) rfl rfl ?_
  refine aw_sipush (v := nI 3000) (aw_d q_By_get 7 rfl) (by decide) ?_
  refine aw_icmpN_ge (tgt := 28) (aw_d q_By_get 8 rfl) (by decide) (by omega) (by omega) (fun c16 => by exfalso; omega) (fun c16 => ?_)
  refine aw_aload_n (aw_d q_By_get 9 rfl) rfl rfl rfl ?_
  refine aw_getf (aw_d q_By_get 10 rfl) fL_By_9_By rfl rfl ?_
  refine aw_iload_n (aw_d q_By_get 11 rfl) rfl rfl ?_
  refine aw_ialdN (aw_d q_By_get 12 rfl) rfl (by omega) rfl ?_
  refine aw_goto (tgt := 29) (aw_d q_By_get 13 rfl) (by decide) ?_
  exact aw_iret (aw_d q_By_get 15 rfl) rfl (⟨rfl, rfl⟩)
set_option maxRecDepth 20000 in
theorem sp_By_empty_3 {g : aw_G} {S : aw_S}  : Sp g M_By_empty 0 0 0 0 [.ref 3] (HP S) (fun r h => r = none ∧ h = HP (si (si S 301 (nI 0)) 302 (nI 0))) := by
  refine Sp.of rfl (aw_le rfl) ?_
  refine aw_aload_n (aw_d q_By_empty 0 rfl) rfl rfl rfl ?_
  refine aw_iconst (v := nI 0) (aw_d q_By_empty 1 rfl) (by decide) ?_
  refine wi_3_1 (aw_d q_By_empty 2 rfl) pL_By_15_By ?_
  refine aw_aload_n (aw_d q_By_empty 3 rfl) rfl rfl rfl ?_
  refine aw_iconst (v := nI 0) (aw_d q_By_empty 4 rfl) (by decide) ?_
  refine wi_3_2 (aw_d q_By_empty 5 rfl) pL_By_19_By (Or.inl rfl) ?_
  exact aw_vret (aw_d q_By_empty 6 rfl) rfl (⟨rfl, rfl⟩)
set_option maxRecDepth 20000 in
theorem sp_By_hasRoom_3 {g : aw_G} {S : aw_S} {n k : Nat} (hn : S.1 301 = nI n) (h3 : n ≤ 3000) (hk : k ≤ 3000) : Sp g M_By_hasRoom 0 0 0 0 [.ref 3, .int (nI k)] (HP S) (fun r h => r = some (.int (if n + k ≤ 3000 then nI 1 else nI 0)) ∧ h = HP S) := by
  refine Sp.of rfl (aw_le rfl) ?_
  refine aw_iload_n (aw_d q_By_hasRoom 0 rfl) rfl rfl ?_
  refine aw_sipush (v := nI 3000) (aw_d q_By_hasRoom 1 rfl) (by decide) ?_
  refine aw_aload_n (aw_d q_By_hasRoom 2 rfl) rfl rfl rfl ?_
  refine aw_getf (v := .int (nI (n))) (aw_d q_By_hasRoom 3 rfl) fL_By_15_By rfl (gk hn) ?_
  refine aw_isubN (aw_d q_By_hasRoom 4 rfl) (by omega) ?_
  refine aw_icmpN_gt (tgt := 16) (aw_d q_By_hasRoom 5 rfl) (by decide) (by omega) (by omega) (fun c9 => ?_) (fun c9 => ?_)
  · refine aw_iconst (v := nI 0) (aw_d q_By_hasRoom 8 rfl) (by decide) ?_
    exact aw_zret (aw_d q_By_hasRoom 9 rfl) rfl (rfl) (⟨by first | rfl | (rw [if_pos (by omega)]) | (rw [if_neg (by omega)]), rfl⟩)
  · refine aw_iconst (v := nI 1) (aw_d q_By_hasRoom 6 rfl) (by decide) ?_
    refine aw_goto (tgt := 17) (aw_d q_By_hasRoom 7 rfl) (by decide) ?_
    exact aw_zret (aw_d q_By_hasRoom 9 rfl) rfl (rfl) (⟨by first | rfl | (rw [if_pos (by omega)]) | (rw [if_neg (by omega)]), rfl⟩)
set_option maxRecDepth 20000 in
theorem sp_By_add_3 {g : aw_G} {S : aw_S} {n : Nat} {b : Int32} (hn : S.1 301 = nI n) (h3 : n < 3000) : Sp g M_By_add 0 0 0 0 [.ref 3, .int b] (HP S) (fun r h => r = none ∧ h = HP (si (sa S 4 (upd (S.2 4) n b)) 301 (nI (n + 1)))) := by
  refine Sp.of rfl (aw_le rfl) ?_
  refine aw_aload_n (aw_d q_By_add 0 rfl) rfl rfl rfl ?_
  refine aw_getf (v := .int (nI (n))) (aw_d q_By_add 1 rfl) fL_By_15_By rfl (gk hn) ?_
  refine aw_ifN_lt (tgt := 40) (aw_d q_By_add 2 rfl) (by decide) (by omega) (fun c4 => by exfalso; omega) (fun c4 => ?_)
  refine aw_aload_n (aw_d q_By_add 3 rfl) rfl rfl rfl ?_
  refine aw_getf (v := .int (nI (n))) (aw_d q_By_add 4 rfl) fL_By_15_By rfl (gk hn) ?_
  refine aw_sipush (v := nI 3000) (aw_d q_By_add 5 rfl) (by decide) ?_
  refine aw_icmpN_ge (tgt := 40) (aw_d q_By_add 6 rfl) (by decide) (by omega) (by omega) (fun c14 => by exfalso; omega) (fun c14 => ?_)
  refine aw_aload_n (aw_d q_By_add 7 rfl) rfl rfl rfl ?_
  refine aw_getf (aw_d q_By_add 8 rfl) fL_By_9_By rfl rfl ?_
  refine aw_aload_n (aw_d q_By_add 9 rfl) rfl rfl rfl ?_
  refine aw_getf (v := .int (nI (n))) (aw_d q_By_add 10 rfl) fL_By_15_By rfl (gk hn) ?_
  refine aw_iload_n (aw_d q_By_add 11 rfl) rfl rfl ?_
  refine wn_4 (aw_d q_By_add 12 rfl) (by omega) ?_
  refine aw_aload_n (aw_d q_By_add 13 rfl) rfl rfl rfl ?_
  refine aw_dup (aw_d q_By_add 14 rfl) rfl ?_
  refine aw_getf (v := .int (nI (n))) (aw_d q_By_add 15 rfl) fL_By_15_By rfl (gk hn) ?_
  refine aw_iconst (v := nI 1) (aw_d q_By_add 16 rfl) (by decide) ?_
  refine aw_iaddN (aw_d q_By_add 17 rfl) ?_
  refine wi_3_1 (aw_d q_By_add 18 rfl) pL_By_15_By ?_
  refine aw_goto (tgt := 45) (aw_d q_By_add 19 rfl) (by decide) ?_
  exact aw_vret (aw_d q_By_add 23 rfl) rfl (⟨rfl, rfl⟩)
set_option maxRecDepth 20000 in
theorem sp_By_addF_3 {g : aw_G} {S : aw_S} {b : Int32} (hn : S.1 301 = nI 3000) : Sp g M_By_add 0 0 0 0 [.ref 3, .int b] (HP S) (fun r h => r = none ∧ h = HP (si S 302 (nI 1))) := by
  refine Sp.of rfl (aw_le rfl) ?_
  refine aw_aload_n (aw_d q_By_add 0 rfl) rfl rfl rfl ?_
  refine aw_getf (v := .int (nI (3000))) (aw_d q_By_add 1 rfl) fL_By_15_By rfl (gk hn) ?_
  refine aw_ifN_lt (tgt := 40) (aw_d q_By_add 2 rfl) (by decide) (by omega) (fun c4 => by exfalso; omega) (fun c4 => ?_)
  refine aw_aload_n (aw_d q_By_add 3 rfl) rfl rfl rfl ?_
  refine aw_getf (v := .int (nI (3000))) (aw_d q_By_add 4 rfl) fL_By_15_By rfl (gk hn) ?_
  refine aw_sipush (v := nI 3000) (aw_d q_By_add 5 rfl) (by decide) ?_
  refine aw_icmpN_ge (tgt := 40) (aw_d q_By_add 6 rfl) (by decide) (by omega) (by omega) (fun c14 => ?_) (fun c14 => by exfalso; omega)
  refine aw_aload_n (aw_d q_By_add 20 rfl) rfl rfl rfl ?_
  refine aw_iconst (v := nI 1) (aw_d q_By_add 21 rfl) (by decide) ?_
  refine wi_3_2 (aw_d q_By_add 22 rfl) pL_By_19_By (Or.inr rfl) ?_
  exact aw_vret (aw_d q_By_add 23 rfl) rfl (⟨rfl, rfl⟩)
set_option maxRecDepth 20000 in
theorem sp_By_get_5 {g : aw_G} {S : aw_S} {n k : Nat} (hn : S.1 501 = nI n) (h3 : n ≤ 3000) (hk : k < n) : Sp g M_By_get 0 0 0 0 [.ref 5, .int (nI k)] (HP S) (fun r h => r = some (.int (S.2 6 k)) ∧ h = HP S) := by
  refine Sp.of rfl (aw_le rfl) ?_
  refine aw_iload_n (aw_d q_By_get 0 rfl) rfl rfl ?_
  refine aw_ifN_lt (tgt := 28) (aw_d q_By_get 1 rfl) (by decide) (by omega) (fun c1 => by exfalso; omega) (fun c1 => ?_)
  refine aw_iload_n (aw_d q_By_get 2 rfl) rfl rfl ?_
  refine aw_aload_n (aw_d q_By_get 3 rfl) rfl rfl rfl ?_
  refine aw_getf (v := .int (nI (n))) (aw_d q_By_get 4 rfl) fL_By_15_By rfl (gk hn) ?_
  refine aw_icmpN_ge (tgt := 28) (aw_d q_By_get 5 rfl) (by decide) (by omega) (by omega) (fun c9 => by exfalso; omega) (fun c9 => ?_)
  refine aw_iload_n (aw_d q_By_get 6 rfl) rfl rfl ?_
  refine aw_sipush (v := nI 3000) (aw_d q_By_get 7 rfl) (by decide) ?_
  refine aw_icmpN_ge (tgt := 28) (aw_d q_By_get 8 rfl) (by decide) (by omega) (by omega) (fun c16 => by exfalso; omega) (fun c16 => ?_)
  refine aw_aload_n (aw_d q_By_get 9 rfl) rfl rfl rfl ?_
  refine aw_getf (aw_d q_By_get 10 rfl) fL_By_9_By rfl rfl ?_
  refine aw_iload_n (aw_d q_By_get 11 rfl) rfl rfl ?_
  refine aw_ialdN (aw_d q_By_get 12 rfl) rfl (by omega) rfl ?_
  refine aw_goto (tgt := 29) (aw_d q_By_get 13 rfl) (by decide) ?_
  exact aw_iret (aw_d q_By_get 15 rfl) rfl (⟨rfl, rfl⟩)
set_option maxRecDepth 20000 in
theorem sp_By_empty_5 {g : aw_G} {S : aw_S}  : Sp g M_By_empty 0 0 0 0 [.ref 5] (HP S) (fun r h => r = none ∧ h = HP (si (si S 501 (nI 0)) 502 (nI 0))) := by
  refine Sp.of rfl (aw_le rfl) ?_
  refine aw_aload_n (aw_d q_By_empty 0 rfl) rfl rfl rfl ?_
  refine aw_iconst (v := nI 0) (aw_d q_By_empty 1 rfl) (by decide) ?_
  refine wi_5_1 (aw_d q_By_empty 2 rfl) pL_By_15_By ?_
  refine aw_aload_n (aw_d q_By_empty 3 rfl) rfl rfl rfl ?_
  refine aw_iconst (v := nI 0) (aw_d q_By_empty 4 rfl) (by decide) ?_
  refine wi_5_2 (aw_d q_By_empty 5 rfl) pL_By_19_By (Or.inl rfl) ?_
  exact aw_vret (aw_d q_By_empty 6 rfl) rfl (⟨rfl, rfl⟩)
set_option maxRecDepth 20000 in
theorem sp_By_hasRoom_5 {g : aw_G} {S : aw_S} {n k : Nat} (hn : S.1 501 = nI n) (h3 : n ≤ 3000) (hk : k ≤ 3000) : Sp g M_By_hasRoom 0 0 0 0 [.ref 5, .int (nI k)] (HP S) (fun r h => r = some (.int (if n + k ≤ 3000 then nI 1 else nI 0)) ∧ h = HP S) := by
  refine Sp.of rfl (aw_le rfl) ?_
  refine aw_iload_n (aw_d q_By_hasRoom 0 rfl) rfl rfl ?_
  refine aw_sipush (v := nI 3000) (aw_d q_By_hasRoom 1 rfl) (by decide) ?_
  refine aw_aload_n (aw_d q_By_hasRoom 2 rfl) rfl rfl rfl ?_
  refine aw_getf (v := .int (nI (n))) (aw_d q_By_hasRoom 3 rfl) fL_By_15_By rfl (gk hn) ?_
  refine aw_isubN (aw_d q_By_hasRoom 4 rfl) (by omega) ?_
  refine aw_icmpN_gt (tgt := 16) (aw_d q_By_hasRoom 5 rfl) (by decide) (by omega) (by omega) (fun c9 => ?_) (fun c9 => ?_)
  · refine aw_iconst (v := nI 0) (aw_d q_By_hasRoom 8 rfl) (by decide) ?_
    exact aw_zret (aw_d q_By_hasRoom 9 rfl) rfl (rfl) (⟨by first | rfl | (rw [if_pos (by omega)]) | (rw [if_neg (by omega)]), rfl⟩)
  · refine aw_iconst (v := nI 1) (aw_d q_By_hasRoom 6 rfl) (by decide) ?_
    refine aw_goto (tgt := 17) (aw_d q_By_hasRoom 7 rfl) (by decide) ?_
    exact aw_zret (aw_d q_By_hasRoom 9 rfl) rfl (rfl) (⟨by first | rfl | (rw [if_pos (by omega)]) | (rw [if_neg (by omega)]), rfl⟩)
set_option maxRecDepth 20000 in
theorem sp_By_add_5 {g : aw_G} {S : aw_S} {n : Nat} {b : Int32} (hn : S.1 501 = nI n) (h3 : n < 3000) : Sp g M_By_add 0 0 0 0 [.ref 5, .int b] (HP S) (fun r h => r = none ∧ h = HP (si (sa S 6 (upd (S.2 6) n b)) 501 (nI (n + 1)))) := by
  refine Sp.of rfl (aw_le rfl) ?_
  refine aw_aload_n (aw_d q_By_add 0 rfl) rfl rfl rfl ?_
  refine aw_getf (v := .int (nI (n))) (aw_d q_By_add 1 rfl) fL_By_15_By rfl (gk hn) ?_
  refine aw_ifN_lt (tgt := 40) (aw_d q_By_add 2 rfl) (by decide) (by omega) (fun c4 => by exfalso; omega) (fun c4 => ?_)
  refine aw_aload_n (aw_d q_By_add 3 rfl) rfl rfl rfl ?_
  refine aw_getf (v := .int (nI (n))) (aw_d q_By_add 4 rfl) fL_By_15_By rfl (gk hn) ?_
  refine aw_sipush (v := nI 3000) (aw_d q_By_add 5 rfl) (by decide) ?_
  refine aw_icmpN_ge (tgt := 40) (aw_d q_By_add 6 rfl) (by decide) (by omega) (by omega) (fun c14 => by exfalso; omega) (fun c14 => ?_)
  refine aw_aload_n (aw_d q_By_add 7 rfl) rfl rfl rfl ?_
  refine aw_getf (aw_d q_By_add 8 rfl) fL_By_9_By rfl rfl ?_
  refine aw_aload_n (aw_d q_By_add 9 rfl) rfl rfl rfl ?_
  refine aw_getf (v := .int (nI (n))) (aw_d q_By_add 10 rfl) fL_By_15_By rfl (gk hn) ?_
  refine aw_iload_n (aw_d q_By_add 11 rfl) rfl rfl ?_
  refine wn_6 (aw_d q_By_add 12 rfl) (by omega) ?_
  refine aw_aload_n (aw_d q_By_add 13 rfl) rfl rfl rfl ?_
  refine aw_dup (aw_d q_By_add 14 rfl) rfl ?_
  refine aw_getf (v := .int (nI (n))) (aw_d q_By_add 15 rfl) fL_By_15_By rfl (gk hn) ?_
  refine aw_iconst (v := nI 1) (aw_d q_By_add 16 rfl) (by decide) ?_
  refine aw_iaddN (aw_d q_By_add 17 rfl) ?_
  refine wi_5_1 (aw_d q_By_add 18 rfl) pL_By_15_By ?_
  refine aw_goto (tgt := 45) (aw_d q_By_add 19 rfl) (by decide) ?_
  exact aw_vret (aw_d q_By_add 23 rfl) rfl (⟨rfl, rfl⟩)
set_option maxRecDepth 20000 in
theorem sp_By_addF_5 {g : aw_G} {S : aw_S} {b : Int32} (hn : S.1 501 = nI 3000) : Sp g M_By_add 0 0 0 0 [.ref 5, .int b] (HP S) (fun r h => r = none ∧ h = HP (si S 502 (nI 1))) := by
  refine Sp.of rfl (aw_le rfl) ?_
  refine aw_aload_n (aw_d q_By_add 0 rfl) rfl rfl rfl ?_
  refine aw_getf (v := .int (nI (3000))) (aw_d q_By_add 1 rfl) fL_By_15_By rfl (gk hn) ?_
  refine aw_ifN_lt (tgt := 40) (aw_d q_By_add 2 rfl) (by decide) (by omega) (fun c4 => by exfalso; omega) (fun c4 => ?_)
  refine aw_aload_n (aw_d q_By_add 3 rfl) rfl rfl rfl ?_
  refine aw_getf (v := .int (nI (3000))) (aw_d q_By_add 4 rfl) fL_By_15_By rfl (gk hn) ?_
  refine aw_sipush (v := nI 3000) (aw_d q_By_add 5 rfl) (by decide) ?_
  refine aw_icmpN_ge (tgt := 40) (aw_d q_By_add 6 rfl) (by decide) (by omega) (by omega) (fun c14 => ?_) (fun c14 => by exfalso; omega)
  refine aw_aload_n (aw_d q_By_add 20 rfl) rfl rfl rfl ?_
  refine aw_iconst (v := nI 1) (aw_d q_By_add 21 rfl) (by decide) ?_
  refine wi_5_2 (aw_d q_By_add 22 rfl) pL_By_19_By (Or.inr rfl) ?_
  exact aw_vret (aw_d q_By_add 23 rfl) rfl (⟨rfl, rfl⟩)
