theorem lk_out {ps : List (Int × Int)} {d x : Int} (h : ∀ q ∈ ps, x ≠ q.1) : Op.lookupswitch.offset ps d x = d := by
  induction ps with
  | nil => rfl
  | cons q l ih =>
    have h1 := h q List.mem_cons_self
    have h2 := ih (fun z hz => h z (List.mem_cons_of_mem _ hz))
    simp_all [Op.lookupswitch.offset]
    exact fun e => absurd e.symm h1

set_option maxRecDepth 20000 in
theorem lp_Tb_copy3_14 {g : aw_G} {S : aw_S} {A1 A2 : Nat → Int32} (h1 : ∀ j, j < 48 → A1 j = S.2 19 j) (h2 : ∀ j, j < 6 → A2 j = S.2 20 j) : ∀ (m k : Nat) (A3 : Nat → Int32), m + k = 144 → (∀ j, j < k → A3 j = S.2 21 j) → AW g M_Tb_copyFrom (aw_rm 0 0 0 0) (aw_F g 0 0 (fun r h => r = none ∧ ∃ A1 A2 A3 : Nat → Int32, h = HP (si (si (sa (sa (sa S 15 A1) 16 A2) 17 A3) 1403 (S.1 1803)) 1404 (S.1 1804)) ∧ (∀ j, j < 48 → A1 j = S.2 19 j) ∧ (∀ j, j < 6 → A2 j = S.2 20 j) ∧ ∀ j, j < 144 → A3 j = S.2 21 j)) 54 [some (.ref 14), some (.ref 18), some (.int (nI k))] [] (HP (sa (sa (sa S 15 A1) 16 A2) 17 A3)) 0 0 := by
  intro m
  induction m with
  | zero =>
    intro k A3 hk e1
    refine aw_iload_n (aw_d q_Tb_copyFrom 32 rfl) rfl rfl ?_
    refine aw_sipush (v := nI 144) (aw_d q_Tb_copyFrom 33 rfl) (by decide) ?_
    refine aw_icmpN_ge (tgt := 79) (aw_d q_Tb_copyFrom 34 rfl) (by decide) (by omega) (by omega) (fun c58 => ?_) (fun c58 => by exfalso; omega)
    refine aw_aload_n (aw_d q_Tb_copyFrom 45 rfl) rfl rfl rfl ?_
    refine aw_aload_n (aw_d q_Tb_copyFrom 46 rfl) rfl rfl rfl ?_
    refine aw_getf (aw_d q_Tb_copyFrom 47 rfl) fL_Tb_21_Tb rfl rfl ?_
    refine wi_14_3 (aw_d q_Tb_copyFrom 48 rfl) pL_Tb_21_Tb ?_
    refine aw_aload_n (aw_d q_Tb_copyFrom 49 rfl) rfl rfl rfl ?_
    refine aw_aload_n (aw_d q_Tb_copyFrom 50 rfl) rfl rfl rfl ?_
    refine aw_getf (aw_d q_Tb_copyFrom 51 rfl) fL_Tb_25_Tb rfl rfl ?_
    refine wi_14_4 (aw_d q_Tb_copyFrom 52 rfl) pL_Tb_25_Tb ?_
    exact aw_vret (aw_d q_Tb_copyFrom 53 rfl) rfl (⟨rfl, A1, A2, A3, rfl, h1, h2, fun j hj => e1 j (by omega)⟩)
  | succ m ih =>
    intro k A3 hk e1
    refine aw_iload_n (aw_d q_Tb_copyFrom 32 rfl) rfl rfl ?_
    refine aw_sipush (v := nI 144) (aw_d q_Tb_copyFrom 33 rfl) (by decide) ?_
    refine aw_icmpN_ge (tgt := 79) (aw_d q_Tb_copyFrom 34 rfl) (by decide) (by omega) (by omega) (fun c58 => by exfalso; omega) (fun c58 => ?_)
    refine aw_aload_n (aw_d q_Tb_copyFrom 35 rfl) rfl rfl rfl ?_
    refine aw_getf (aw_d q_Tb_copyFrom 36 rfl) fL_Tb_18_Tb rfl rfl ?_
    refine aw_iload_n (aw_d q_Tb_copyFrom 37 rfl) rfl rfl ?_
    refine aw_aload_n (aw_d q_Tb_copyFrom 38 rfl) rfl rfl rfl ?_
    refine aw_getf (aw_d q_Tb_copyFrom 39 rfl) fL_Tb_18_Tb rfl rfl ?_
    refine aw_iload_n (aw_d q_Tb_copyFrom 40 rfl) rfl rfl ?_
    refine aw_ialdN (aw_d q_Tb_copyFrom 41 rfl) rfl (by omega) rfl ?_
    refine wn_17 (aw_d q_Tb_copyFrom 42 rfl) (by omega) ?_
    refine aw_iinc (aw_d q_Tb_copyFrom 43 rfl) rfl (ii1 _) (aw_le rfl) rfl ?_
    refine aw_goto (tgt := 54) (aw_d q_Tb_copyFrom 44 rfl) (by decide) ?_
    refine AW.to (ih (k + 1) (upd A3 k (S.2 21 k)) (by omega) (fun j hj => ?_)) rfl rfl rfl rfl
    · by_cases hjk : j = k
      · rw [hjk]; exact pk_us
      · rw [pk_un hjk]; exact e1 j (by omega)
set_option maxRecDepth 20000 in
theorem lp_Tb_copy2_14 {g : aw_G} {S : aw_S} {A1 A3 : Nat → Int32} (h1 : ∀ j, j < 48 → A1 j = S.2 19 j) (h0 : A3 = S.2 17) : ∀ (m k : Nat) (A2 : Nat → Int32), m + k = 6 → (∀ j, j < k → A2 j = S.2 20 j) → AW g M_Tb_copyFrom (aw_rm 0 0 0 0) (aw_F g 0 0 (fun r h => r = none ∧ ∃ A1 A2 A3 : Nat → Int32, h = HP (si (si (sa (sa (sa S 15 A1) 16 A2) 17 A3) 1403 (S.1 1803)) 1404 (S.1 1804)) ∧ (∀ j, j < 48 → A1 j = S.2 19 j) ∧ (∀ j, j < 6 → A2 j = S.2 20 j) ∧ ∀ j, j < 144 → A3 j = S.2 21 j)) 28 [some (.ref 14), some (.ref 18), some (.int (nI k))] [] (HP (sa (sa (sa S 15 A1) 16 A2) 17 A3)) 0 0 := by
  intro m
  induction m with
  | zero =>
    intro k A2 hk e1
    refine aw_iload_n (aw_d q_Tb_copyFrom 17 rfl) rfl rfl ?_
    refine aw_bipush (v := nI 6) (aw_d q_Tb_copyFrom 18 rfl) (by decide) ?_
    refine aw_icmpN_ge (tgt := 52) (aw_d q_Tb_copyFrom 19 rfl) (by decide) (by omega) (by omega) (fun c31 => ?_) (fun c31 => by exfalso; omega)
    refine aw_iconst (v := nI 0) (aw_d q_Tb_copyFrom 30 rfl) (by decide) ?_
    refine aw_istore_n (aw_d q_Tb_copyFrom 31 rfl) rfl (aw_le rfl) rfl ?_
    exact lp_Tb_copy3_14 h1 (fun j hj => e1 j (by omega)) 144 0 A3 (by omega) (fun j hj => by omega)
  | succ m ih =>
    intro k A2 hk e1
    refine aw_iload_n (aw_d q_Tb_copyFrom 17 rfl) rfl rfl ?_
    refine aw_bipush (v := nI 6) (aw_d q_Tb_copyFrom 18 rfl) (by decide) ?_
    refine aw_icmpN_ge (tgt := 52) (aw_d q_Tb_copyFrom 19 rfl) (by decide) (by omega) (by omega) (fun c31 => by exfalso; omega) (fun c31 => ?_)
    refine aw_aload_n (aw_d q_Tb_copyFrom 20 rfl) rfl rfl rfl ?_
    refine aw_getf (aw_d q_Tb_copyFrom 21 rfl) fL_Tb_15_Tb rfl rfl ?_
    refine aw_iload_n (aw_d q_Tb_copyFrom 22 rfl) rfl rfl ?_
    refine aw_aload_n (aw_d q_Tb_copyFrom 23 rfl) rfl rfl rfl ?_
    refine aw_getf (aw_d q_Tb_copyFrom 24 rfl) fL_Tb_15_Tb rfl rfl ?_
    refine aw_iload_n (aw_d q_Tb_copyFrom 25 rfl) rfl rfl ?_
    refine aw_ialdN (aw_d q_Tb_copyFrom 26 rfl) rfl (by omega) rfl ?_
    refine wn_16 (aw_d q_Tb_copyFrom 27 rfl) (by omega) ?_
    refine aw_iinc (aw_d q_Tb_copyFrom 28 rfl) rfl (ii1 _) (aw_le rfl) rfl ?_
    refine aw_goto (tgt := 28) (aw_d q_Tb_copyFrom 29 rfl) (by decide) ?_
    refine AW.to (ih (k + 1) (upd A2 k (S.2 20 k)) (by omega) (fun j hj => ?_)) rfl rfl rfl rfl
    · by_cases hjk : j = k
      · rw [hjk]; exact pk_us
      · rw [pk_un hjk]; exact e1 j (by omega)
set_option maxRecDepth 20000 in
theorem lp_Tb_copy1_14 {g : aw_G} {S : aw_S} {A2 A3 : Nat → Int32} (h0 : A3 = S.2 17) : ∀ (m k : Nat) (A1 : Nat → Int32), m + k = 48 → (∀ j, j < k → A1 j = S.2 19 j) → AW g M_Tb_copyFrom (aw_rm 0 0 0 0) (aw_F g 0 0 (fun r h => r = none ∧ ∃ A1 A2 A3 : Nat → Int32, h = HP (si (si (sa (sa (sa S 15 A1) 16 A2) 17 A3) 1403 (S.1 1803)) 1404 (S.1 1804)) ∧ (∀ j, j < 48 → A1 j = S.2 19 j) ∧ (∀ j, j < 6 → A2 j = S.2 20 j) ∧ ∀ j, j < 144 → A3 j = S.2 21 j)) 2 [some (.ref 14), some (.ref 18), some (.int (nI k))] [] (HP (sa (sa (sa S 15 A1) 16 A2) 17 A3)) 0 0 := by
  intro m
  induction m with
  | zero =>
    intro k A1 hk e1
    refine aw_iload_n (aw_d q_Tb_copyFrom 2 rfl) rfl rfl ?_
    refine aw_bipush (v := nI 48) (aw_d q_Tb_copyFrom 3 rfl) (by decide) ?_
    refine aw_icmpN_ge (tgt := 26) (aw_d q_Tb_copyFrom 4 rfl) (by decide) (by omega) (by omega) (fun c5 => ?_) (fun c5 => by exfalso; omega)
    refine aw_iconst (v := nI 0) (aw_d q_Tb_copyFrom 15 rfl) (by decide) ?_
    refine aw_istore_n (aw_d q_Tb_copyFrom 16 rfl) rfl (aw_le rfl) rfl ?_
    exact lp_Tb_copy2_14 (fun j hj => e1 j (by omega)) h0 6 0 A2 (by omega) (fun j hj => by omega)
  | succ m ih =>
    intro k A1 hk e1
    refine aw_iload_n (aw_d q_Tb_copyFrom 2 rfl) rfl rfl ?_
    refine aw_bipush (v := nI 48) (aw_d q_Tb_copyFrom 3 rfl) (by decide) ?_
    refine aw_icmpN_ge (tgt := 26) (aw_d q_Tb_copyFrom 4 rfl) (by decide) (by omega) (by omega) (fun c5 => by exfalso; omega) (fun c5 => ?_)
    refine aw_aload_n (aw_d q_Tb_copyFrom 5 rfl) rfl rfl rfl ?_
    refine aw_getf (aw_d q_Tb_copyFrom 6 rfl) fL_Tb_9_Tb rfl rfl ?_
    refine aw_iload_n (aw_d q_Tb_copyFrom 7 rfl) rfl rfl ?_
    refine aw_aload_n (aw_d q_Tb_copyFrom 8 rfl) rfl rfl rfl ?_
    refine aw_getf (aw_d q_Tb_copyFrom 9 rfl) fL_Tb_9_Tb rfl rfl ?_
    refine aw_iload_n (aw_d q_Tb_copyFrom 10 rfl) rfl rfl ?_
    refine aw_ialdN (aw_d q_Tb_copyFrom 11 rfl) rfl (by omega) rfl ?_
    refine wn_15 (aw_d q_Tb_copyFrom 12 rfl) (by omega) ?_
    refine aw_iinc (aw_d q_Tb_copyFrom 13 rfl) rfl (ii1 _) (aw_le rfl) rfl ?_
    refine aw_goto (tgt := 2) (aw_d q_Tb_copyFrom 14 rfl) (by decide) ?_
    refine AW.to (ih (k + 1) (upd A1 k (S.2 19 k)) (by omega) (fun j hj => ?_)) rfl rfl rfl rfl
    · by_cases hjk : j = k
      · rw [hjk]; exact pk_us
      · rw [pk_un hjk]; exact e1 j (by omega)
set_option maxRecDepth 20000 in
theorem sp_Tb_copyFrom_14 {g : aw_G} {S : aw_S}  : Sp g M_Tb_copyFrom 0 0 0 0 [.ref 14, .ref 18] (HP S) (fun r h => r = none ∧ ∃ A1 A2 A3 : Nat → Int32, h = HP (si (si (sa (sa (sa S 15 A1) 16 A2) 17 A3) 1403 (S.1 1803)) 1404 (S.1 1804)) ∧ (∀ j, j < 48 → A1 j = S.2 19 j) ∧ (∀ j, j < 6 → A2 j = S.2 20 j) ∧ ∀ j, j < 144 → A3 j = S.2 21 j) := by
  refine Sp.of rfl (aw_le rfl) ?_
  refine aw_iconst (v := nI 0) (aw_d q_Tb_copyFrom 0 rfl) (by decide) ?_
  refine aw_istore_n (aw_d q_Tb_copyFrom 1 rfl) rfl (aw_le rfl) rfl ?_
  exact AW.to (lp_Tb_copy1_14 (A2 := S.2 16) (A3 := S.2 17) rfl 48 0 (S.2 15) (by omega) (fun j hj => by omega)) rfl rfl rfl rfl
set_option maxRecDepth 20000 in
theorem lp_Tb_copy3_22 {g : aw_G} {S : aw_S} {A1 A2 : Nat → Int32} (h1 : ∀ j, j < 48 → A1 j = S.2 15 j) (h2 : ∀ j, j < 6 → A2 j = S.2 16 j) : ∀ (m k : Nat) (A3 : Nat → Int32), m + k = 144 → (∀ j, j < k → A3 j = S.2 17 j) → AW g M_Tb_copyFrom (aw_rm 0 0 0 0) (aw_F g 0 0 (fun r h => r = none ∧ ∃ A1 A2 A3 : Nat → Int32, h = HP (si (si (sa (sa (sa S 23 A1) 24 A2) 25 A3) 2203 (S.1 1403)) 2204 (S.1 1404)) ∧ (∀ j, j < 48 → A1 j = S.2 15 j) ∧ (∀ j, j < 6 → A2 j = S.2 16 j) ∧ ∀ j, j < 144 → A3 j = S.2 17 j)) 54 [some (.ref 22), some (.ref 14), some (.int (nI k))] [] (HP (sa (sa (sa S 23 A1) 24 A2) 25 A3)) 0 0 := by
  intro m
  induction m with
  | zero =>
    intro k A3 hk e1
    refine aw_iload_n (aw_d q_Tb_copyFrom 32 rfl) rfl rfl ?_
    refine aw_sipush (v := nI 144) (aw_d q_Tb_copyFrom 33 rfl) (by decide) ?_
    refine aw_icmpN_ge (tgt := 79) (aw_d q_Tb_copyFrom 34 rfl) (by decide) (by omega) (by omega) (fun c58 => ?_) (fun c58 => by exfalso; omega)
    refine aw_aload_n (aw_d q_Tb_copyFrom 45 rfl) rfl rfl rfl ?_
    refine aw_aload_n (aw_d q_Tb_copyFrom 46 rfl) rfl rfl rfl ?_
    refine aw_getf (aw_d q_Tb_copyFrom 47 rfl) fL_Tb_21_Tb rfl rfl ?_
    refine wi_22_3 (aw_d q_Tb_copyFrom 48 rfl) pL_Tb_21_Tb ?_
    refine aw_aload_n (aw_d q_Tb_copyFrom 49 rfl) rfl rfl rfl ?_
    refine aw_aload_n (aw_d q_Tb_copyFrom 50 rfl) rfl rfl rfl ?_
    refine aw_getf (aw_d q_Tb_copyFrom 51 rfl) fL_Tb_25_Tb rfl rfl ?_
    refine wi_22_4 (aw_d q_Tb_copyFrom 52 rfl) pL_Tb_25_Tb ?_
    exact aw_vret (aw_d q_Tb_copyFrom 53 rfl) rfl (⟨rfl, A1, A2, A3, rfl, h1, h2, fun j hj => e1 j (by omega)⟩)
  | succ m ih =>
    intro k A3 hk e1
    refine aw_iload_n (aw_d q_Tb_copyFrom 32 rfl) rfl rfl ?_
    refine aw_sipush (v := nI 144) (aw_d q_Tb_copyFrom 33 rfl) (by decide) ?_
    refine aw_icmpN_ge (tgt := 79) (aw_d q_Tb_copyFrom 34 rfl) (by decide) (by omega) (by omega) (fun c58 => by exfalso; omega) (fun c58 => ?_)
    refine aw_aload_n (aw_d q_Tb_copyFrom 35 rfl) rfl rfl rfl ?_
    refine aw_getf (aw_d q_Tb_copyFrom 36 rfl) fL_Tb_18_Tb rfl rfl ?_
    refine aw_iload_n (aw_d q_Tb_copyFrom 37 rfl) rfl rfl ?_
    refine aw_aload_n (aw_d q_Tb_copyFrom 38 rfl) rfl rfl rfl ?_
    refine aw_getf (aw_d q_Tb_copyFrom 39 rfl) fL_Tb_18_Tb rfl rfl ?_
    refine aw_iload_n (aw_d q_Tb_copyFrom 40 rfl) rfl rfl ?_
    refine aw_ialdN (aw_d q_Tb_copyFrom 41 rfl) rfl (by omega) rfl ?_
    refine wn_25 (aw_d q_Tb_copyFrom 42 rfl) (by omega) ?_
    refine aw_iinc (aw_d q_Tb_copyFrom 43 rfl) rfl (ii1 _) (aw_le rfl) rfl ?_
    refine aw_goto (tgt := 54) (aw_d q_Tb_copyFrom 44 rfl) (by decide) ?_
    refine AW.to (ih (k + 1) (upd A3 k (S.2 17 k)) (by omega) (fun j hj => ?_)) rfl rfl rfl rfl
    · by_cases hjk : j = k
      · rw [hjk]; exact pk_us
      · rw [pk_un hjk]; exact e1 j (by omega)
set_option maxRecDepth 20000 in
theorem lp_Tb_copy2_22 {g : aw_G} {S : aw_S} {A1 A3 : Nat → Int32} (h1 : ∀ j, j < 48 → A1 j = S.2 15 j) (h0 : A3 = S.2 25) : ∀ (m k : Nat) (A2 : Nat → Int32), m + k = 6 → (∀ j, j < k → A2 j = S.2 16 j) → AW g M_Tb_copyFrom (aw_rm 0 0 0 0) (aw_F g 0 0 (fun r h => r = none ∧ ∃ A1 A2 A3 : Nat → Int32, h = HP (si (si (sa (sa (sa S 23 A1) 24 A2) 25 A3) 2203 (S.1 1403)) 2204 (S.1 1404)) ∧ (∀ j, j < 48 → A1 j = S.2 15 j) ∧ (∀ j, j < 6 → A2 j = S.2 16 j) ∧ ∀ j, j < 144 → A3 j = S.2 17 j)) 28 [some (.ref 22), some (.ref 14), some (.int (nI k))] [] (HP (sa (sa (sa S 23 A1) 24 A2) 25 A3)) 0 0 := by
  intro m
  induction m with
  | zero =>
    intro k A2 hk e1
    refine aw_iload_n (aw_d q_Tb_copyFrom 17 rfl) rfl rfl ?_
    refine aw_bipush (v := nI 6) (aw_d q_Tb_copyFrom 18 rfl) (by decide) ?_
    refine aw_icmpN_ge (tgt := 52) (aw_d q_Tb_copyFrom 19 rfl) (by decide) (by omega) (by omega) (fun c31 => ?_) (fun c31 => by exfalso; omega)
    refine aw_iconst (v := nI 0) (aw_d q_Tb_copyFrom 30 rfl) (by decide) ?_
    refine aw_istore_n (aw_d q_Tb_copyFrom 31 rfl) rfl (aw_le rfl) rfl ?_
    exact lp_Tb_copy3_22 h1 (fun j hj => e1 j (by omega)) 144 0 A3 (by omega) (fun j hj => by omega)
  | succ m ih =>
    intro k A2 hk e1
    refine aw_iload_n (aw_d q_Tb_copyFrom 17 rfl) rfl rfl ?_
    refine aw_bipush (v := nI 6) (aw_d q_Tb_copyFrom 18 rfl) (by decide) ?_
    refine aw_icmpN_ge (tgt := 52) (aw_d q_Tb_copyFrom 19 rfl) (by decide) (by omega) (by omega) (fun c31 => by exfalso; omega) (fun c31 => ?_)
    refine aw_aload_n (aw_d q_Tb_copyFrom 20 rfl) rfl rfl rfl ?_
    refine aw_getf (aw_d q_Tb_copyFrom 21 rfl) fL_Tb_15_Tb rfl rfl ?_
    refine aw_iload_n (aw_d q_Tb_copyFrom 22 rfl) rfl rfl ?_
    refine aw_aload_n (aw_d q_Tb_copyFrom 23 rfl) rfl rfl rfl ?_
    refine aw_getf (aw_d q_Tb_copyFrom 24 rfl) fL_Tb_15_Tb rfl rfl ?_
    refine aw_iload_n (aw_d q_Tb_copyFrom 25 rfl) rfl rfl ?_
    refine aw_ialdN (aw_d q_Tb_copyFrom 26 rfl) rfl (by omega) rfl ?_
    refine wn_24 (aw_d q_Tb_copyFrom 27 rfl) (by omega) ?_
    refine aw_iinc (aw_d q_Tb_copyFrom 28 rfl) rfl (ii1 _) (aw_le rfl) rfl ?_
    refine aw_goto (tgt := 28) (aw_d q_Tb_copyFrom 29 rfl) (by decide) ?_
    refine AW.to (ih (k + 1) (upd A2 k (S.2 16 k)) (by omega) (fun j hj => ?_)) rfl rfl rfl rfl
    · by_cases hjk : j = k
      · rw [hjk]; exact pk_us
      · rw [pk_un hjk]; exact e1 j (by omega)
set_option maxRecDepth 20000 in
theorem lp_Tb_copy1_22 {g : aw_G} {S : aw_S} {A2 A3 : Nat → Int32} (h0 : A3 = S.2 25) : ∀ (m k : Nat) (A1 : Nat → Int32), m + k = 48 → (∀ j, j < k → A1 j = S.2 15 j) → AW g M_Tb_copyFrom (aw_rm 0 0 0 0) (aw_F g 0 0 (fun r h => r = none ∧ ∃ A1 A2 A3 : Nat → Int32, h = HP (si (si (sa (sa (sa S 23 A1) 24 A2) 25 A3) 2203 (S.1 1403)) 2204 (S.1 1404)) ∧ (∀ j, j < 48 → A1 j = S.2 15 j) ∧ (∀ j, j < 6 → A2 j = S.2 16 j) ∧ ∀ j, j < 144 → A3 j = S.2 17 j)) 2 [some (.ref 22), some (.ref 14), some (.int (nI k))] [] (HP (sa (sa (sa S 23 A1) 24 A2) 25 A3)) 0 0 := by
  intro m
  induction m with
  | zero =>
    intro k A1 hk e1
    refine aw_iload_n (aw_d q_Tb_copyFrom 2 rfl) rfl rfl ?_
    refine aw_bipush (v := nI 48) (aw_d q_Tb_copyFrom 3 rfl) (by decide) ?_
    refine aw_icmpN_ge (tgt := 26) (aw_d q_Tb_copyFrom 4 rfl) (by decide) (by omega) (by omega) (fun c5 => ?_) (fun c5 => by exfalso; omega)
    refine aw_iconst (v := nI 0) (aw_d q_Tb_copyFrom 15 rfl) (by decide) ?_
    refine aw_istore_n (aw_d q_Tb_copyFrom 16 rfl) rfl (aw_le rfl) rfl ?_
    exact lp_Tb_copy2_22 (fun j hj => e1 j (by omega)) h0 6 0 A2 (by omega) (fun j hj => by omega)
  | succ m ih =>
    intro k A1 hk e1
    refine aw_iload_n (aw_d q_Tb_copyFrom 2 rfl) rfl rfl ?_
    refine aw_bipush (v := nI 48) (aw_d q_Tb_copyFrom 3 rfl) (by decide) ?_
    refine aw_icmpN_ge (tgt := 26) (aw_d q_Tb_copyFrom 4 rfl) (by decide) (by omega) (by omega) (fun c5 => by exfalso; omega) (fun c5 => ?_)
    refine aw_aload_n (aw_d q_Tb_copyFrom 5 rfl) rfl rfl rfl ?_
    refine aw_getf (aw_d q_Tb_copyFrom 6 rfl) fL_Tb_9_Tb rfl rfl ?_
    refine aw_iload_n (aw_d q_Tb_copyFrom 7 rfl) rfl rfl ?_
    refine aw_aload_n (aw_d q_Tb_copyFrom 8 rfl) rfl rfl rfl ?_
    refine aw_getf (aw_d q_Tb_copyFrom 9 rfl) fL_Tb_9_Tb rfl rfl ?_
    refine aw_iload_n (aw_d q_Tb_copyFrom 10 rfl) rfl rfl ?_
    refine aw_ialdN (aw_d q_Tb_copyFrom 11 rfl) rfl (by omega) rfl ?_
    refine wn_23 (aw_d q_Tb_copyFrom 12 rfl) (by omega) ?_
    refine aw_iinc (aw_d q_Tb_copyFrom 13 rfl) rfl (ii1 _) (aw_le rfl) rfl ?_
    refine aw_goto (tgt := 2) (aw_d q_Tb_copyFrom 14 rfl) (by decide) ?_
    refine AW.to (ih (k + 1) (upd A1 k (S.2 15 k)) (by omega) (fun j hj => ?_)) rfl rfl rfl rfl
    · by_cases hjk : j = k
      · rw [hjk]; exact pk_us
      · rw [pk_un hjk]; exact e1 j (by omega)
set_option maxRecDepth 20000 in
theorem sp_Tb_copyFrom_22 {g : aw_G} {S : aw_S}  : Sp g M_Tb_copyFrom 0 0 0 0 [.ref 22, .ref 14] (HP S) (fun r h => r = none ∧ ∃ A1 A2 A3 : Nat → Int32, h = HP (si (si (sa (sa (sa S 23 A1) 24 A2) 25 A3) 2203 (S.1 1403)) 2204 (S.1 1404)) ∧ (∀ j, j < 48 → A1 j = S.2 15 j) ∧ (∀ j, j < 6 → A2 j = S.2 16 j) ∧ ∀ j, j < 144 → A3 j = S.2 17 j) := by
  refine Sp.of rfl (aw_le rfl) ?_
  refine aw_iconst (v := nI 0) (aw_d q_Tb_copyFrom 0 rfl) (by decide) ?_
  refine aw_istore_n (aw_d q_Tb_copyFrom 1 rfl) rfl (aw_le rfl) rfl ?_
  exact AW.to (lp_Tb_copy1_22 (A2 := S.2 24) (A3 := S.2 25) rfl 48 0 (S.2 23) (by omega) (fun j hj => by omega)) rfl rfl rfl rfl
set_option maxRecDepth 20000 in
theorem lp_Tb_names_in {g : aw_G} {S : aw_S} {nv nr : Nat} {nl : Nat → Nat} (hB : TbI_14 S nv nr nl) {nv2 nr2 : Nat} {nl2 : Nat → Nat} (hD : TbI_22 S nv2 nr2 nl2) {v : Nat} (hv : v < nv) (hv2 : v < nv2) (hl : nl v = nl2 v) (hno : eqB (fun i => S.2 15 (v * 8 + i)) (fun i => S.2 23 (v * 8 + i)) (nl v) 0 = false → ¬ (nv = nv2 ∧ nsB (S.2 16) (S.2 15) (S.2 24) (S.2 23) nv 0 = true)) (K : ∀ x3 : Option Value, eqB (fun i => S.2 15 (v * 8 + i)) (fun i => S.2 23 (v * 8 + i)) (nl v) 0 = true → AW g M_Tb_hasNamesOf (aw_rm 1 22 0 0) (aw_F g 0 0 (fun r h => r = some (.int (if nv = nv2 ∧ nsB (S.2 16) (S.2 15) (S.2 24) (S.2 23) nv 0 = true then nI 1 else nI 0)) ∧ h = HP S)) 72 [some (.ref 14), some (.ref 22), some (.int (nI v)), x3] [] (HP S) 0 0) : ∀ (m k : Nat), m + k = nl v → eqB (fun i => S.2 15 (v * 8 + i)) (fun i => S.2 23 (v * 8 + i)) (nl v) 0 = eqB (fun i => S.2 15 (v * 8 + i)) (fun i => S.2 23 (v * 8 + i)) m k → AW g M_Tb_hasNamesOf (aw_rm 1 22 0 0) (aw_F g 0 0 (fun r h => r = some (.int (if nv = nv2 ∧ nsB (S.2 16) (S.2 15) (S.2 24) (S.2 23) nv 0 = true then nI 1 else nI 0)) ∧ h = HP S)) 40 [some (.ref 14), some (.ref 22), some (.int (nI v)), some (.int (nI k))] [] (HP S) 0 0 := by
  intro m
  induction m with
  | zero =>
    intro k hk e
    refine aw_iload_n (aw_d q_Tb_hasNamesOf 24 rfl) rfl rfl ?_
    refine aw_aload_n (aw_d q_Tb_hasNamesOf 25 rfl) rfl rfl rfl ?_
    refine aw_iload_n (aw_d q_Tb_hasNamesOf 26 rfl) rfl rfl ?_
    refine cVr (aw_d q_Tb_hasNamesOf 27 rfl) (sp_Tb_lengthOfName_14 hB hv) vL_Tb_32_Tb rfl rfl rfl rfl rfl rfl ⟨aw_le rfl, aw_le rfl⟩ ?_
    refine aw_icmpN_ge (tgt := 72) (aw_d q_Tb_hasNamesOf 28 rfl) (by decide) (by (have hB2 := hB.2.1; have hB5 := (hB.2.2.2.2 v hv).2; have hD5 := (hD.2.2.2.2 v hv2).2; omega)) (by (have hB2 := hB.2.1; have hB5 := (hB.2.2.2.2 v hv).2; have hD5 := (hD.2.2.2.2 v hv2).2; omega)) (fun c46 => ?_) (fun c46 => by exfalso; (have hB2 := hB.2.1; have hB5 := (hB.2.2.2.2 v hv).2; have hD5 := (hD.2.2.2.2 v hv2).2; omega))
    exact K _ (e.trans rfl)
  | succ m ih =>
    intro k hk e
    refine aw_iload_n (aw_d q_Tb_hasNamesOf 24 rfl) rfl rfl ?_
    refine aw_aload_n (aw_d q_Tb_hasNamesOf 25 rfl) rfl rfl rfl ?_
    refine aw_iload_n (aw_d q_Tb_hasNamesOf 26 rfl) rfl rfl ?_
    refine cVr (aw_d q_Tb_hasNamesOf 27 rfl) (sp_Tb_lengthOfName_14 hB hv) vL_Tb_32_Tb rfl rfl rfl rfl rfl rfl ⟨aw_le rfl, aw_le rfl⟩ ?_
    refine aw_icmpN_ge (tgt := 72) (aw_d q_Tb_hasNamesOf 28 rfl) (by decide) (by (have hB2 := hB.2.1; have hB5 := (hB.2.2.2.2 v hv).2; have hD5 := (hD.2.2.2.2 v hv2).2; omega)) (by (have hB2 := hB.2.1; have hB5 := (hB.2.2.2.2 v hv).2; have hD5 := (hD.2.2.2.2 v hv2).2; omega)) (fun c46 => by exfalso; (have hB2 := hB.2.1; have hB5 := (hB.2.2.2.2 v hv).2; have hD5 := (hD.2.2.2.2 v hv2).2; omega)) (fun c46 => ?_)
    refine aw_aload_n (aw_d q_Tb_hasNamesOf 29 rfl) rfl rfl rfl ?_
    refine aw_iload_n (aw_d q_Tb_hasNamesOf 30 rfl) rfl rfl ?_
    refine aw_iload_n (aw_d q_Tb_hasNamesOf 31 rfl) rfl rfl ?_
    refine cVr (aw_d q_Tb_hasNamesOf 32 rfl) (sp_Tb_byteOfName_14 hB hv (by omega)) vL_Tb_36_Tb rfl rfl rfl rfl rfl rfl ⟨aw_le rfl, aw_le rfl⟩ ?_
    refine aw_aload_n (aw_d q_Tb_hasNamesOf 33 rfl) rfl rfl rfl ?_
    refine aw_iload_n (aw_d q_Tb_hasNamesOf 34 rfl) rfl rfl ?_
    refine aw_iload_n (aw_d q_Tb_hasNamesOf 35 rfl) rfl rfl ?_
    refine cVr (aw_d q_Tb_hasNamesOf 36 rfl) (sp_Tb_byteOfName_22 hD hv2 (by omega)) vL_Tb_36_Tb rfl rfl rfl rfl rfl rfl ⟨aw_le rfl, aw_le rfl⟩ ?_
    refine aw_icmpZ_eq (tgt := 66) (aw_d q_Tb_hasNamesOf 37 rfl) (by decide) (fun c61 => ?_) (fun c61 => ?_)
    · have c61 := Int32.toInt_inj.mp c61
      refine aw_iinc (aw_d q_Tb_hasNamesOf 40 rfl) rfl (ii1 _) (aw_le rfl) rfl ?_
      refine aw_goto (tgt := 40) (aw_d q_Tb_hasNamesOf 41 rfl) (by decide) ?_
      exact ih (k + 1) (by omega) (e.trans (by simp only [eqB]; rw [decide_eq_true c61]; rfl))
    · have c61 : ¬ _ := fun q => c61 (Int32.toInt_inj.mpr q)
      refine aw_iconst (v := nI 0) (aw_d q_Tb_hasNamesOf 38 rfl) (by decide) ?_
      exact aw_zret (aw_d q_Tb_hasNamesOf 39 rfl) rfl (rfl) (⟨by rw [if_neg (hno (e.trans (by simp only [eqB]; rw [decide_eq_false c61]; rfl)))], rfl⟩)
theorem nsB_turn {S : aw_S} {nv nr nv2 nr2 : Nat} {nl nl2 : Nat → Nat} (hB : TbI_14 S nv nr nl) (hD : TbI_22 S nv2 nr2 nl2) {v m : Nat} (hv : v < nv) (hv2 : v < nv2) : nsB (S.2 16) (S.2 15) (S.2 24) (S.2 23) (m + 1) v = (decide (nl v = nl2 v) && (eqB (fun i => S.2 15 (v * 8 + i)) (fun i => S.2 23 (v * 8 + i)) (nl v) 0 && nsB (S.2 16) (S.2 15) (S.2 24) (S.2 23) m (v + 1))) := by
  have h1 := hB.2.2.2.2 v hv
  have h2 := hD.2.2.2.2 v hv2
  simp only [nsB]
  rw [h1.1, h2.1, nI_clamp (by omega)]
  congr 1
  apply Bool.eq_iff_iff.mpr
  rw [decide_eq_true_eq, decide_eq_true_eq, nI_eq (by omega) (by omega)]
set_option maxRecDepth 20000 in
theorem lp_Tb_names {g : aw_G} {S : aw_S} {nv nr : Nat} {nl : Nat → Nat} (hB : TbI_14 S nv nr nl) {nv2 nr2 : Nat} {nl2 : Nat → Nat} (hD : TbI_22 S nv2 nr2 nl2) (hnv : nv = nv2) : ∀ (m v : Nat) (x3 : Option Value), m + v = nv → nsB (S.2 16) (S.2 15) (S.2 24) (S.2 23) nv 0 = nsB (S.2 16) (S.2 15) (S.2 24) (S.2 23) m v → AW g M_Tb_hasNamesOf (aw_rm 1 22 0 0) (aw_F g 0 0 (fun r h => r = some (.int (if nv = nv2 ∧ nsB (S.2 16) (S.2 15) (S.2 24) (S.2 23) nv 0 = true then nI 1 else nI 0)) ∧ h = HP S)) 15 [some (.ref 14), some (.ref 22), some (.int (nI v)), x3] [] (HP S) 0 0 := by
  intro m
  induction m with
  | zero =>
    intro v x3 hk e
    refine aw_iload_n (aw_d q_Tb_hasNamesOf 9 rfl) rfl rfl ?_
    refine aw_aload_n (aw_d q_Tb_hasNamesOf 10 rfl) rfl rfl rfl ?_
    refine aw_getf (v := .int (nI (nv))) (aw_d q_Tb_hasNamesOf 11 rfl) fL_Tb_21_Tb rfl (gk hB.1) ?_
    refine aw_icmpN_ge (tgt := 78) (aw_d q_Tb_hasNamesOf 12 rfl) (by decide) (by (have hB2 := hB.2.1; have hB4 := hB.2.2.2.1; have hD2 := hD.2.1; have hD4 := hD.2.2.2.1; omega)) (by (have hB2 := hB.2.1; have hB4 := hB.2.2.2.1; have hD2 := hD.2.1; have hD4 := hD.2.2.2.1; omega)) (fun c20 => ?_) (fun c20 => by exfalso; (have hB2 := hB.2.1; have hB4 := hB.2.2.2.1; have hD2 := hD.2.1; have hD4 := hD.2.2.2.1; omega))
    refine aw_iconst (v := nI 1) (aw_d q_Tb_hasNamesOf 44 rfl) (by decide) ?_
    exact aw_zret (aw_d q_Tb_hasNamesOf 45 rfl) rfl (rfl) (⟨by rw [if_pos ⟨hnv, e⟩], rfl⟩)
  | succ m ih =>
    intro v x3 hk e
    refine aw_iload_n (aw_d q_Tb_hasNamesOf 9 rfl) rfl rfl ?_
    refine aw_aload_n (aw_d q_Tb_hasNamesOf 10 rfl) rfl rfl rfl ?_
    refine aw_getf (v := .int (nI (nv))) (aw_d q_Tb_hasNamesOf 11 rfl) fL_Tb_21_Tb rfl (gk hB.1) ?_
    refine aw_icmpN_ge (tgt := 78) (aw_d q_Tb_hasNamesOf 12 rfl) (by decide) (by (have hB2 := hB.2.1; have hB4 := hB.2.2.2.1; have hD2 := hD.2.1; have hD4 := hD.2.2.2.1; omega)) (by (have hB2 := hB.2.1; have hB4 := hB.2.2.2.1; have hD2 := hD.2.1; have hD4 := hD.2.2.2.1; omega)) (fun c20 => by exfalso; (have hB2 := hB.2.1; have hB4 := hB.2.2.2.1; have hD2 := hD.2.1; have hD4 := hD.2.2.2.1; omega)) (fun c20 => ?_)
    have hv : v < nv := by omega
    have hv2 : v < nv2 := by omega
    have ht := nsB_turn (m := m) hB hD hv hv2
    have hB5 := (hB.2.2.2.2 v hv).2
    have hD5 := (hD.2.2.2.2 v hv2).2
    refine aw_aload_n (aw_d q_Tb_hasNamesOf 13 rfl) rfl rfl rfl ?_
    refine aw_iload_n (aw_d q_Tb_hasNamesOf 14 rfl) rfl rfl ?_
    refine cVr (aw_d q_Tb_hasNamesOf 15 rfl) (sp_Tb_lengthOfName_14 hB hv) vL_Tb_32_Tb rfl rfl rfl rfl rfl rfl ⟨aw_le rfl, aw_le rfl⟩ ?_
    refine aw_aload_n (aw_d q_Tb_hasNamesOf 16 rfl) rfl rfl rfl ?_
    refine aw_iload_n (aw_d q_Tb_hasNamesOf 17 rfl) rfl rfl ?_
    refine cVr (aw_d q_Tb_hasNamesOf 18 rfl) (sp_Tb_lengthOfName_22 hD hv2) vL_Tb_32_Tb rfl rfl rfl rfl rfl rfl ⟨aw_le rfl, aw_le rfl⟩ ?_
    refine aw_icmpN_eq (tgt := 38) (aw_d q_Tb_hasNamesOf 19 rfl) (by decide) (by (have hB2 := hB.2.1; have hB4 := hB.2.2.2.1; have hD2 := hD.2.1; have hD4 := hD.2.2.2.1; omega)) (by (have hB2 := hB.2.1; have hB4 := hB.2.2.2.1; have hD2 := hD.2.1; have hD4 := hD.2.2.2.1; omega)) (fun c33 => ?_) (fun c33 => ?_)
    · refine aw_iconst (v := nI 0) (aw_d q_Tb_hasNamesOf 22 rfl) (by decide) ?_
      refine aw_istore_n (aw_d q_Tb_hasNamesOf 23 rfl) rfl (aw_le rfl) rfl ?_
      refine lp_Tb_names_in hB hD hv hv2 c33 (fun q z => ?_) (fun x3 q => ?_) (nl v) 0 (by omega) rfl
      · have z := (e.trans ht).symm.trans z.2
        rw [q] at z; simp at z
      · refine aw_iinc (aw_d q_Tb_hasNamesOf 42 rfl) rfl (ii1 _) (aw_le rfl) rfl ?_
        refine aw_goto (tgt := 15) (aw_d q_Tb_hasNamesOf 43 rfl) (by decide) ?_
        exact ih (v + 1) _ (by omega) ((e.trans ht).trans (by rw [decide_eq_true c33, q]; rfl))
    · refine aw_iconst (v := nI 0) (aw_d q_Tb_hasNamesOf 20 rfl) (by decide) ?_
      exact aw_zret (aw_d q_Tb_hasNamesOf 21 rfl) rfl (rfl) (⟨by rw [if_neg (fun q => ?_)]; have q := (e.trans ht).symm.trans q.2; simp [c33] at q, rfl⟩)
set_option maxRecDepth 20000 in
theorem sp_Tb_hasNamesOf {g : aw_G} {S : aw_S} {nv nr : Nat} {nl : Nat → Nat} (hB : TbI_14 S nv nr nl) {nv2 nr2 : Nat} {nl2 : Nat → Nat} (hD : TbI_22 S nv2 nr2 nl2) : Sp g M_Tb_hasNamesOf 1 22 0 0 [.ref 14, .ref 22] (HP S) (fun r h => r = some (.int (if nv = nv2 ∧ nsB (S.2 16) (S.2 15) (S.2 24) (S.2 23) nv 0 = true then nI 1 else nI 0)) ∧ h = HP S) := by
  refine Sp.of rfl (aw_le rfl) ?_
  refine aw_aload_n (aw_d q_Tb_hasNamesOf 0 rfl) rfl rfl rfl ?_
  refine aw_getf (v := .int (nI (nv))) (aw_d q_Tb_hasNamesOf 1 rfl) fL_Tb_21_Tb rfl (gk hB.1) ?_
  refine aw_aload_n (aw_d q_Tb_hasNamesOf 2 rfl) rfl rfl rfl ?_
  refine aw_getf (v := .int (nI (nv2))) (aw_d q_Tb_hasNamesOf 3 rfl) fL_Tb_21_Tb rfl (gk hD.1) ?_
  refine aw_icmpN_eq (tgt := 13) (aw_d q_Tb_hasNamesOf 4 rfl) (by decide) (by (have hB2 := hB.2.1; have hB4 := hB.2.2.2.1; have hD2 := hD.2.1; have hD4 := hD.2.2.2.1; omega)) (by (have hB2 := hB.2.1; have hB4 := hB.2.2.2.1; have hD2 := hD.2.1; have hD4 := hD.2.2.2.1; omega)) (fun c8 => ?_) (fun c8 => ?_)
  · refine aw_iconst (v := nI 0) (aw_d q_Tb_hasNamesOf 7 rfl) (by decide) ?_
    refine aw_istore_n (aw_d q_Tb_hasNamesOf 8 rfl) rfl (aw_le rfl) rfl ?_
    exact lp_Tb_names hB hD c8 nv 0 _ (by omega) rfl
  · refine aw_iconst (v := nI 0) (aw_d q_Tb_hasNamesOf 5 rfl) (by decide) ?_
    exact aw_zret (aw_d q_Tb_hasNamesOf 6 rfl) rfl (rfl) (⟨by rw [if_neg (fun q => c8 q.1)], rfl⟩)
set_option maxRecDepth 20000 in
theorem lp_Tb_isAlike_14 {g : aw_G} {S : aw_S} {nv nr : Nat} {nl : Nat → Nat} (hB : TbI_14 S nv nr nl) {q s : Nat} (hq : q < 24) (hs : s < 24) : ∀ (m v : Nat), m + v = nv → eqB (fun v => S.2 17 (q * 6 + v)) (fun v => S.2 17 (s * 6 + v)) nv 0 = eqB (fun v => S.2 17 (q * 6 + v)) (fun v => S.2 17 (s * 6 + v)) m v → AW g M_Tb_isAlike (aw_rm 2 43 0 0) (aw_F g 0 0 (fun r h => r = some (.int (if rwB (S.2 17) (S.2 17) nv q s = true then nI 1 else nI 0)) ∧ h = HP S)) 3 [some (.ref 14), some (.int (nI q)), some (.ref 14), some (.int (nI s)), some (.int (nI v))] [] (HP S) 0 0 := by
  intro m
  induction m with
  | zero =>
    intro v hk e
    refine aw_iload (aw_d q_Tb_isAlike 2 rfl) rfl ?_
    refine aw_aload_n (aw_d q_Tb_isAlike 3 rfl) rfl rfl rfl ?_
    refine aw_getf (v := .int (nI (nv))) (aw_d q_Tb_isAlike 4 rfl) fL_Tb_21_Tb rfl (gk hB.1) ?_
    refine aw_icmpN_ge (tgt := 37) (aw_d q_Tb_isAlike 5 rfl) (by decide) (by (have hB2 := hB.2.1; have hB4 := hB.2.2.2.1; omega)) (by (have hB2 := hB.2.1; have hB4 := hB.2.2.2.1; omega)) (fun c9 => ?_) (fun c9 => by exfalso; (have hB2 := hB.2.1; have hB4 := hB.2.2.2.1; omega))
    refine aw_iconst (v := nI 1) (aw_d q_Tb_isAlike 19 rfl) (by decide) ?_
    exact aw_zret (aw_d q_Tb_isAlike 20 rfl) rfl (rfl) (⟨by rw [if_pos (show rwB _ _ _ _ _ = true from e)], rfl⟩)
  | succ m ih =>
    intro v hk e
    refine aw_iload (aw_d q_Tb_isAlike 2 rfl) rfl ?_
    refine aw_aload_n (aw_d q_Tb_isAlike 3 rfl) rfl rfl rfl ?_
    refine aw_getf (v := .int (nI (nv))) (aw_d q_Tb_isAlike 4 rfl) fL_Tb_21_Tb rfl (gk hB.1) ?_
    refine aw_icmpN_ge (tgt := 37) (aw_d q_Tb_isAlike 5 rfl) (by decide) (by (have hB2 := hB.2.1; have hB4 := hB.2.2.2.1; omega)) (by (have hB2 := hB.2.1; have hB4 := hB.2.2.2.1; omega)) (fun c9 => by exfalso; (have hB2 := hB.2.1; have hB4 := hB.2.2.2.1; omega)) (fun c9 => ?_)
    refine aw_aload_n (aw_d q_Tb_isAlike 6 rfl) rfl rfl rfl ?_
    refine aw_iload_n (aw_d q_Tb_isAlike 7 rfl) rfl rfl ?_
    refine aw_iload (aw_d q_Tb_isAlike 8 rfl) rfl ?_
    refine cVr (aw_d q_Tb_isAlike 9 rfl) (sp_Tb_cell_14 hq (by (have hB2 := hB.2.1; have hB4 := hB.2.2.2.1; omega))) vL_Tb_61_Tb rfl rfl rfl rfl rfl rfl ⟨aw_le rfl, aw_le rfl⟩ ?_
    refine aw_aload_n (aw_d q_Tb_isAlike 10 rfl) rfl rfl rfl ?_
    refine aw_iload_n (aw_d q_Tb_isAlike 11 rfl) rfl rfl ?_
    refine aw_iload (aw_d q_Tb_isAlike 12 rfl) rfl ?_
    refine cVr (aw_d q_Tb_isAlike 13 rfl) (sp_Tb_cell_14 hs (by (have hB2 := hB.2.1; have hB4 := hB.2.2.2.1; omega))) vL_Tb_61_Tb rfl rfl rfl rfl rfl rfl ⟨aw_le rfl, aw_le rfl⟩ ?_
    refine aw_icmpZ_eq (tgt := 31) (aw_d q_Tb_isAlike 14 rfl) (by decide) (fun c26 => ?_) (fun c26 => ?_)
    · have c26 := Int32.toInt_inj.mp c26
      refine aw_iinc (aw_d q_Tb_isAlike 17 rfl) rfl (ii1 _) (aw_le rfl) rfl ?_
      refine aw_goto (tgt := 3) (aw_d q_Tb_isAlike 18 rfl) (by decide) ?_
      exact ih (v + 1) (by omega) (e.trans (by simp only [eqB]; rw [decide_eq_true c26]; rfl))
    · have c26 : ¬ _ := fun q => c26 (Int32.toInt_inj.mpr q)
      refine aw_iconst (v := nI 0) (aw_d q_Tb_isAlike 15 rfl) (by decide) ?_
      exact aw_zret (aw_d q_Tb_isAlike 16 rfl) rfl (rfl) (⟨by rw [if_neg (fun z => ?_)]; have z := e.symm.trans z; simp only [eqB] at z; simp [c26] at z, rfl⟩)
set_option maxRecDepth 20000 in
theorem sp_Tb_isAlike_14 {g : aw_G} {S : aw_S} {nv nr : Nat} {nl : Nat → Nat} (hB : TbI_14 S nv nr nl) {q s : Nat} (hq : q < 24) (hs : s < 24) : Sp g M_Tb_isAlike 2 43 0 0 [.ref 14, .int (nI q), .ref 14, .int (nI s)] (HP S) (fun r h => r = some (.int (if rwB (S.2 17) (S.2 17) nv q s = true then nI 1 else nI 0)) ∧ h = HP S) := by
  refine Sp.of rfl (aw_le rfl) ?_
  refine aw_iconst (v := nI 0) (aw_d q_Tb_isAlike 0 rfl) (by decide) ?_
  refine aw_istore (aw_d q_Tb_isAlike 1 rfl) (aw_le rfl) rfl ?_
  exact lp_Tb_isAlike_14 hB hq hs nv 0 (by omega) rfl
set_option maxRecDepth 20000 in
theorem lp_Tb_countAlike_14 {g : aw_G} {S : aw_S} {nv nr : Nat} {nl : Nat → Nat} (hB : TbI_14 S nv nr nl) {s fi : Nat} (hs : s < 24) (hf : fi ≤ nr) : ∀ (m q a : Nat), m + q = fi → cnB (fun q => rwB (S.2 17) (S.2 17) nv q s) fi 0 = a + cnB (fun q => rwB (S.2 17) (S.2 17) nv q s) m q → AW g M_Tb_countAlike (aw_rm 3 67 0 0) (aw_F g 0 0 (fun r h => r = some (.int (nI (cnB (fun q => rwB (S.2 17) (S.2 17) nv q s) fi 0))) ∧ h = HP S)) 6 [some (.ref 14), some (.ref 14), some (.int (nI s)), some (.int (nI fi)), some (.int (nI a)), some (.int (nI q))] [] (HP S) 0 0 := by
  intro m
  induction m with
  | zero =>
    intro q a hk e
    refine aw_iload (aw_d q_Tb_countAlike 4 rfl) rfl ?_
    refine aw_iload_n (aw_d q_Tb_countAlike 5 rfl) rfl rfl ?_
    refine aw_icmpN_ge (tgt := 41) (aw_d q_Tb_countAlike 6 rfl) (by decide) (by (have hB2 := hB.2.1; have hB4 := hB.2.2.2.1; omega)) (by (have hB2 := hB.2.1; have hB4 := hB.2.2.2.1; omega)) (fun c9 => ?_) (fun c9 => by exfalso; (have hB2 := hB.2.1; have hB4 := hB.2.2.2.1; omega))
    refine aw_iload (aw_d q_Tb_countAlike 20 rfl) rfl ?_
    exact aw_iret (aw_d q_Tb_countAlike 21 rfl) rfl (⟨by rw [e]; rfl, rfl⟩)
  | succ m ih =>
    intro q a hk e
    refine aw_iload (aw_d q_Tb_countAlike 4 rfl) rfl ?_
    refine aw_iload_n (aw_d q_Tb_countAlike 5 rfl) rfl rfl ?_
    refine aw_icmpN_ge (tgt := 41) (aw_d q_Tb_countAlike 6 rfl) (by decide) (by (have hB2 := hB.2.1; have hB4 := hB.2.2.2.1; omega)) (by (have hB2 := hB.2.1; have hB4 := hB.2.2.2.1; omega)) (fun c9 => by exfalso; (have hB2 := hB.2.1; have hB4 := hB.2.2.2.1; omega)) (fun c9 => ?_)
    refine aw_iload (aw_d q_Tb_countAlike 7 rfl) rfl ?_
    refine aw_aload_n (aw_d q_Tb_countAlike 8 rfl) rfl rfl rfl ?_
    refine aw_getf (v := .int (nI (nr))) (aw_d q_Tb_countAlike 9 rfl) fL_Tb_25_Tb rfl (gk hB.2.2.1) ?_
    refine aw_icmpN_ge (tgt := 41) (aw_d q_Tb_countAlike 10 rfl) (by decide) (by (have hB2 := hB.2.1; have hB4 := hB.2.2.2.1; omega)) (by (have hB2 := hB.2.1; have hB4 := hB.2.2.2.1; omega)) (fun c18 => by exfalso; (have hB2 := hB.2.1; have hB4 := hB.2.2.2.1; omega)) (fun c18 => ?_)
    refine aw_aload_n (aw_d q_Tb_countAlike 11 rfl) rfl rfl rfl ?_
    refine aw_iload (aw_d q_Tb_countAlike 12 rfl) rfl ?_
    refine aw_aload_n (aw_d q_Tb_countAlike 13 rfl) rfl rfl rfl ?_
    refine aw_iload_n (aw_d q_Tb_countAlike 14 rfl) rfl rfl ?_
    refine cVr (aw_d q_Tb_countAlike 15 rfl) (sp_Tb_isAlike_14 hB (by (have hB2 := hB.2.1; have hB4 := hB.2.2.2.1; omega)) hs) vL_Tb_64_Tb rfl rfl rfl rfl rfl rfl ⟨aw_le rfl, aw_le rfl⟩ ?_
    refine aw_ifB_eq (tgt := 35) (aw_d q_Tb_countAlike 16 rfl) (by decide) (fun c29 => ?_) (fun c29 => ?_)
    · refine aw_iinc (aw_d q_Tb_countAlike 18 rfl) rfl (ii1 _) (aw_le rfl) rfl ?_
      refine aw_goto (tgt := 6) (aw_d q_Tb_countAlike 19 rfl) (by decide) ?_
      exact ih (q + 1) a (by omega) (e.trans (by simp only [cnB]; rw [if_neg c29]; omega))
    · refine aw_iinc (aw_d q_Tb_countAlike 17 rfl) rfl (ii1 _) (aw_le rfl) rfl ?_
      refine aw_iinc (aw_d q_Tb_countAlike 18 rfl) rfl (ii1 _) (aw_le rfl) rfl ?_
      refine aw_goto (tgt := 6) (aw_d q_Tb_countAlike 19 rfl) (by decide) ?_
      exact ih (q + 1) (a + 1) (by omega) (e.trans (by simp only [cnB]; rw [if_pos c29]; omega))
set_option maxRecDepth 20000 in
theorem sp_Tb_countAlike_14 {g : aw_G} {S : aw_S} {nv nr : Nat} {nl : Nat → Nat} (hB : TbI_14 S nv nr nl) {s fi : Nat} (hs : s < 24) (hf : fi ≤ nr) : Sp g M_Tb_countAlike 3 67 0 0 [.ref 14, .ref 14, .int (nI s), .int (nI fi)] (HP S) (fun r h => r = some (.int (nI (cnB (fun q => rwB (S.2 17) (S.2 17) nv q s) fi 0))) ∧ h = HP S) := by
  refine Sp.of rfl (aw_le rfl) ?_
  refine aw_iconst (v := nI 0) (aw_d q_Tb_countAlike 0 rfl) (by decide) ?_
  refine aw_istore (aw_d q_Tb_countAlike 1 rfl) (aw_le rfl) rfl ?_
  refine aw_iconst (v := nI 0) (aw_d q_Tb_countAlike 2 rfl) (by decide) ?_
  refine aw_istore (aw_d q_Tb_countAlike 3 rfl) (aw_le rfl) rfl ?_
  exact lp_Tb_countAlike_14 hB hs hf fi 0 0 (by omega) (by omega)
set_option maxRecDepth 20000 in
theorem lp_Tb_isAlike_22 {g : aw_G} {S : aw_S} {nv nr : Nat} {nl : Nat → Nat} (hB : TbI_22 S nv nr nl) {q s : Nat} (hq : q < 24) (hs : s < 24) : ∀ (m v : Nat), m + v = nv → eqB (fun v => S.2 25 (q * 6 + v)) (fun v => S.2 17 (s * 6 + v)) nv 0 = eqB (fun v => S.2 25 (q * 6 + v)) (fun v => S.2 17 (s * 6 + v)) m v → AW g M_Tb_isAlike (aw_rm 2 43 0 0) (aw_F g 0 0 (fun r h => r = some (.int (if rwB (S.2 25) (S.2 17) nv q s = true then nI 1 else nI 0)) ∧ h = HP S)) 3 [some (.ref 22), some (.int (nI q)), some (.ref 14), some (.int (nI s)), some (.int (nI v))] [] (HP S) 0 0 := by
  intro m
  induction m with
  | zero =>
    intro v hk e
    refine aw_iload (aw_d q_Tb_isAlike 2 rfl) rfl ?_
    refine aw_aload_n (aw_d q_Tb_isAlike 3 rfl) rfl rfl rfl ?_
    refine aw_getf (v := .int (nI (nv))) (aw_d q_Tb_isAlike 4 rfl) fL_Tb_21_Tb rfl (gk hB.1) ?_
    refine aw_icmpN_ge (tgt := 37) (aw_d q_Tb_isAlike 5 rfl) (by decide) (by (have hB2 := hB.2.1; have hB4 := hB.2.2.2.1; omega)) (by (have hB2 := hB.2.1; have hB4 := hB.2.2.2.1; omega)) (fun c9 => ?_) (fun c9 => by exfalso; (have hB2 := hB.2.1; have hB4 := hB.2.2.2.1; omega))
    refine aw_iconst (v := nI 1) (aw_d q_Tb_isAlike 19 rfl) (by decide) ?_
    exact aw_zret (aw_d q_Tb_isAlike 20 rfl) rfl (rfl) (⟨by rw [if_pos (show rwB _ _ _ _ _ = true from e)], rfl⟩)
  | succ m ih =>
    intro v hk e
    refine aw_iload (aw_d q_Tb_isAlike 2 rfl) rfl ?_
    refine aw_aload_n (aw_d q_Tb_isAlike 3 rfl) rfl rfl rfl ?_
    refine aw_getf (v := .int (nI (nv))) (aw_d q_Tb_isAlike 4 rfl) fL_Tb_21_Tb rfl (gk hB.1) ?_
    refine aw_icmpN_ge (tgt := 37) (aw_d q_Tb_isAlike 5 rfl) (by decide) (by (have hB2 := hB.2.1; have hB4 := hB.2.2.2.1; omega)) (by (have hB2 := hB.2.1; have hB4 := hB.2.2.2.1; omega)) (fun c9 => by exfalso; (have hB2 := hB.2.1; have hB4 := hB.2.2.2.1; omega)) (fun c9 => ?_)
    refine aw_aload_n (aw_d q_Tb_isAlike 6 rfl) rfl rfl rfl ?_
    refine aw_iload_n (aw_d q_Tb_isAlike 7 rfl) rfl rfl ?_
    refine aw_iload (aw_d q_Tb_isAlike 8 rfl) rfl ?_
    refine cVr (aw_d q_Tb_isAlike 9 rfl) (sp_Tb_cell_22 hq (by (have hB2 := hB.2.1; have hB4 := hB.2.2.2.1; omega))) vL_Tb_61_Tb rfl rfl rfl rfl rfl rfl ⟨aw_le rfl, aw_le rfl⟩ ?_
    refine aw_aload_n (aw_d q_Tb_isAlike 10 rfl) rfl rfl rfl ?_
    refine aw_iload_n (aw_d q_Tb_isAlike 11 rfl) rfl rfl ?_
    refine aw_iload (aw_d q_Tb_isAlike 12 rfl) rfl ?_
    refine cVr (aw_d q_Tb_isAlike 13 rfl) (sp_Tb_cell_14 hs (by (have hB2 := hB.2.1; have hB4 := hB.2.2.2.1; omega))) vL_Tb_61_Tb rfl rfl rfl rfl rfl rfl ⟨aw_le rfl, aw_le rfl⟩ ?_
    refine aw_icmpZ_eq (tgt := 31) (aw_d q_Tb_isAlike 14 rfl) (by decide) (fun c26 => ?_) (fun c26 => ?_)
    · have c26 := Int32.toInt_inj.mp c26
      refine aw_iinc (aw_d q_Tb_isAlike 17 rfl) rfl (ii1 _) (aw_le rfl) rfl ?_
      refine aw_goto (tgt := 3) (aw_d q_Tb_isAlike 18 rfl) (by decide) ?_
      exact ih (v + 1) (by omega) (e.trans (by simp only [eqB]; rw [decide_eq_true c26]; rfl))
    · have c26 : ¬ _ := fun q => c26 (Int32.toInt_inj.mpr q)
      refine aw_iconst (v := nI 0) (aw_d q_Tb_isAlike 15 rfl) (by decide) ?_
      exact aw_zret (aw_d q_Tb_isAlike 16 rfl) rfl (rfl) (⟨by rw [if_neg (fun z => ?_)]; have z := e.symm.trans z; simp only [eqB] at z; simp [c26] at z, rfl⟩)
set_option maxRecDepth 20000 in
theorem sp_Tb_isAlike_22 {g : aw_G} {S : aw_S} {nv nr : Nat} {nl : Nat → Nat} (hB : TbI_22 S nv nr nl) {q s : Nat} (hq : q < 24) (hs : s < 24) : Sp g M_Tb_isAlike 2 43 0 0 [.ref 22, .int (nI q), .ref 14, .int (nI s)] (HP S) (fun r h => r = some (.int (if rwB (S.2 25) (S.2 17) nv q s = true then nI 1 else nI 0)) ∧ h = HP S) := by
  refine Sp.of rfl (aw_le rfl) ?_
  refine aw_iconst (v := nI 0) (aw_d q_Tb_isAlike 0 rfl) (by decide) ?_
  refine aw_istore (aw_d q_Tb_isAlike 1 rfl) (aw_le rfl) rfl ?_
  exact lp_Tb_isAlike_22 hB hq hs nv 0 (by omega) rfl
set_option maxRecDepth 20000 in
theorem lp_Tb_countAlike_22 {g : aw_G} {S : aw_S} {nv nr : Nat} {nl : Nat → Nat} (hB : TbI_22 S nv nr nl) {s fi : Nat} (hs : s < 24) (hf : fi ≤ nr) : ∀ (m q a : Nat), m + q = fi → cnB (fun q => rwB (S.2 25) (S.2 17) nv q s) fi 0 = a + cnB (fun q => rwB (S.2 25) (S.2 17) nv q s) m q → AW g M_Tb_countAlike (aw_rm 3 67 0 0) (aw_F g 0 0 (fun r h => r = some (.int (nI (cnB (fun q => rwB (S.2 25) (S.2 17) nv q s) fi 0))) ∧ h = HP S)) 6 [some (.ref 22), some (.ref 14), some (.int (nI s)), some (.int (nI fi)), some (.int (nI a)), some (.int (nI q))] [] (HP S) 0 0 := by
  intro m
  induction m with
  | zero =>
    intro q a hk e
    refine aw_iload (aw_d q_Tb_countAlike 4 rfl) rfl ?_
    refine aw_iload_n (aw_d q_Tb_countAlike 5 rfl) rfl rfl ?_
    refine aw_icmpN_ge (tgt := 41) (aw_d q_Tb_countAlike 6 rfl) (by decide) (by (have hB2 := hB.2.1; have hB4 := hB.2.2.2.1; omega)) (by (have hB2 := hB.2.1; have hB4 := hB.2.2.2.1; omega)) (fun c9 => ?_) (fun c9 => by exfalso; (have hB2 := hB.2.1; have hB4 := hB.2.2.2.1; omega))
    refine aw_iload (aw_d q_Tb_countAlike 20 rfl) rfl ?_
    exact aw_iret (aw_d q_Tb_countAlike 21 rfl) rfl (⟨by rw [e]; rfl, rfl⟩)
  | succ m ih =>
    intro q a hk e
    refine aw_iload (aw_d q_Tb_countAlike 4 rfl) rfl ?_
    refine aw_iload_n (aw_d q_Tb_countAlike 5 rfl) rfl rfl ?_
    refine aw_icmpN_ge (tgt := 41) (aw_d q_Tb_countAlike 6 rfl) (by decide) (by (have hB2 := hB.2.1; have hB4 := hB.2.2.2.1; omega)) (by (have hB2 := hB.2.1; have hB4 := hB.2.2.2.1; omega)) (fun c9 => by exfalso; (have hB2 := hB.2.1; have hB4 := hB.2.2.2.1; omega)) (fun c9 => ?_)
    refine aw_iload (aw_d q_Tb_countAlike 7 rfl) rfl ?_
    refine aw_aload_n (aw_d q_Tb_countAlike 8 rfl) rfl rfl rfl ?_
    refine aw_getf (v := .int (nI (nr))) (aw_d q_Tb_countAlike 9 rfl) fL_Tb_25_Tb rfl (gk hB.2.2.1) ?_
    refine aw_icmpN_ge (tgt := 41) (aw_d q_Tb_countAlike 10 rfl) (by decide) (by (have hB2 := hB.2.1; have hB4 := hB.2.2.2.1; omega)) (by (have hB2 := hB.2.1; have hB4 := hB.2.2.2.1; omega)) (fun c18 => by exfalso; (have hB2 := hB.2.1; have hB4 := hB.2.2.2.1; omega)) (fun c18 => ?_)
    refine aw_aload_n (aw_d q_Tb_countAlike 11 rfl) rfl rfl rfl ?_
    refine aw_iload (aw_d q_Tb_countAlike 12 rfl) rfl ?_
    refine aw_aload_n (aw_d q_Tb_countAlike 13 rfl) rfl rfl rfl ?_
    refine aw_iload_n (aw_d q_Tb_countAlike 14 rfl) rfl rfl ?_
    refine cVr (aw_d q_Tb_countAlike 15 rfl) (sp_Tb_isAlike_22 hB (by (have hB2 := hB.2.1; have hB4 := hB.2.2.2.1; omega)) hs) vL_Tb_64_Tb rfl rfl rfl rfl rfl rfl ⟨aw_le rfl, aw_le rfl⟩ ?_
    refine aw_ifB_eq (tgt := 35) (aw_d q_Tb_countAlike 16 rfl) (by decide) (fun c29 => ?_) (fun c29 => ?_)
    · refine aw_iinc (aw_d q_Tb_countAlike 18 rfl) rfl (ii1 _) (aw_le rfl) rfl ?_
      refine aw_goto (tgt := 6) (aw_d q_Tb_countAlike 19 rfl) (by decide) ?_
      exact ih (q + 1) a (by omega) (e.trans (by simp only [cnB]; rw [if_neg c29]; omega))
    · refine aw_iinc (aw_d q_Tb_countAlike 17 rfl) rfl (ii1 _) (aw_le rfl) rfl ?_
      refine aw_iinc (aw_d q_Tb_countAlike 18 rfl) rfl (ii1 _) (aw_le rfl) rfl ?_
      refine aw_goto (tgt := 6) (aw_d q_Tb_countAlike 19 rfl) (by decide) ?_
      exact ih (q + 1) (a + 1) (by omega) (e.trans (by simp only [cnB]; rw [if_pos c29]; omega))
set_option maxRecDepth 20000 in
theorem sp_Tb_countAlike_22 {g : aw_G} {S : aw_S} {nv nr : Nat} {nl : Nat → Nat} (hB : TbI_22 S nv nr nl) {s fi : Nat} (hs : s < 24) (hf : fi ≤ nr) : Sp g M_Tb_countAlike 3 67 0 0 [.ref 22, .ref 14, .int (nI s), .int (nI fi)] (HP S) (fun r h => r = some (.int (nI (cnB (fun q => rwB (S.2 25) (S.2 17) nv q s) fi 0))) ∧ h = HP S) := by
  refine Sp.of rfl (aw_le rfl) ?_
  refine aw_iconst (v := nI 0) (aw_d q_Tb_countAlike 0 rfl) (by decide) ?_
  refine aw_istore (aw_d q_Tb_countAlike 1 rfl) (aw_le rfl) rfl ?_
  refine aw_iconst (v := nI 0) (aw_d q_Tb_countAlike 2 rfl) (by decide) ?_
  refine aw_istore (aw_d q_Tb_countAlike 3 rfl) (aw_le rfl) rfl ?_
  exact lp_Tb_countAlike_22 hB hs hf fi 0 0 (by omega) (by omega)
/-- the first nv cells of row r come into row l -/
def cpR (C : Nat → Int32) (nv l r : Nat) : Nat → Int32 := fun j => if l * 6 ≤ j ∧ j < l * 6 + nv then C (r * 6 + (j - l * 6)) else C j
theorem cpR_0 (C : Nat → Int32) (l r : Nat) : cpR C 0 l r = C := by
  funext j; simp only [cpR]; rw [if_neg (by omega)]
theorem cpR_s (C : Nat → Int32) {v l r : Nat} (hv : v < 6) (hl : l ≤ r) : upd (cpR C v l r) (l * 6 + v) (cpR C v l r (r * 6 + v)) = cpR C (v + 1) l r := by
  funext j
  have e : cpR C v l r (r * 6 + v) = C (r * 6 + v) := by
    simp only [cpR]
    by_cases h : l = r
    · rw [if_neg (by omega)]
    · rw [if_neg (by omega)]
  rw [e]
  by_cases hj : j = l * 6 + v
  · rw [hj, pk_us]; simp only [cpR]; rw [if_pos (by omega), show r * 6 + (l * 6 + v - l * 6) = r * 6 + v by omega]
  · rw [pk_un hj]; simp only [cpR]
    by_cases h2 : l * 6 ≤ j ∧ j < l * 6 + v
    · rw [if_pos h2, if_pos (by omega)]
    · rw [if_neg h2, if_neg (by omega)]
/-- rows that are like one before go: m rows from r on, l rows are left so far -/
def ddB (nv : Nat) : Nat → Nat → Nat → (Nat → Int32) → Nat × (Nat → Int32)
  | 0, _, l, C => (l, C)
  | m + 1, r, l, C => if 0 < cnB (fun q => rwB C C nv q r) l 0 then ddB nv m (r + 1) l C else ddB nv m (r + 1) (l + 1) (cpR C nv l r)
theorem ddB_le (nv : Nat) : ∀ m r l C, l ≤ r → (ddB nv m r l C).1 ≤ r + m := by
  intro m
  induction m with
  | zero => intro r l C h; exact h
  | succ m ih =>
    intro r l C h
    simp only [ddB]
    split
    · have := ih (r + 1) l C (by omega); omega
    · have := ih (r + 1) (l + 1) (cpR C nv l r) (by omega); omega
set_option maxRecDepth 20000 in
theorem lp_Tb_drop_in {g : aw_G} {S : aw_S} {nv nr : Nat} {nl : Nat → Nat} (hB : TbI_14 S nv nr nl) {C : Nat → Int32} {l r : Nat} (hl : l ≤ r) (hr : r < nr) (K : ∀ x4 : Option Value, AW g M_Tb_dropRepeated (aw_rm 4 92 0 0) (aw_F g 0 0 (fun r h => r = some (.int (nI (nr - (ddB nv nr 0 0 (S.2 17)).1))) ∧ h = HP (si (sa S 17 (ddB nv nr 0 0 (S.2 17)).2) 1404 (nI (ddB nv nr 0 0 (S.2 17)).1)))) 59 [some (.ref 14), some (.int (nI nr)), some (.int (nI l)), some (.int (nI r)), x4] [] (HP (sa S 17 (cpR C nv l r))) 0 0) : ∀ (m v : Nat), m + v = nv → AW g M_Tb_dropRepeated (aw_rm 4 92 0 0) (aw_F g 0 0 (fun r h => r = some (.int (nI (nr - (ddB nv nr 0 0 (S.2 17)).1))) ∧ h = HP (si (sa S 17 (ddB nv nr 0 0 (S.2 17)).2) 1404 (nI (ddB nv nr 0 0 (S.2 17)).1)))) 30 [some (.ref 14), some (.int (nI nr)), some (.int (nI l)), some (.int (nI r)), some (.int (nI v))] [] (HP (sa S 17 (cpR C v l r))) 0 0 := by
  intro m
  induction m with
  | zero =>
    intro v hk
    refine aw_iload (aw_d q_Tb_dropRepeated 19 rfl) rfl ?_
    refine aw_aload_n (aw_d q_Tb_dropRepeated 20 rfl) rfl rfl rfl ?_
    refine aw_getf (v := .int (nI (nv))) (aw_d q_Tb_dropRepeated 21 rfl) fL_Tb_21_Tb rfl (gk hB.1) ?_
    refine aw_icmpN_ge (tgt := 59) (aw_d q_Tb_dropRepeated 22 rfl) (by decide) (by (have hB2 := hB.2.1; have hB4 := hB.2.2.2.1; omega)) (by (have hB2 := hB.2.1; have hB4 := hB.2.2.2.1; omega)) (fun c36 => ?_) (fun c36 => by exfalso; (have hB2 := hB.2.1; have hB4 := hB.2.2.2.1; omega))
    have hvn : v = nv := by omega
    subst hvn
    exact K _
  | succ m ih =>
    intro v hk
    refine aw_iload (aw_d q_Tb_dropRepeated 19 rfl) rfl ?_
    refine aw_aload_n (aw_d q_Tb_dropRepeated 20 rfl) rfl rfl rfl ?_
    refine aw_getf (v := .int (nI (nv))) (aw_d q_Tb_dropRepeated 21 rfl) fL_Tb_21_Tb rfl (gk hB.1) ?_
    refine aw_icmpN_ge (tgt := 59) (aw_d q_Tb_dropRepeated 22 rfl) (by decide) (by (have hB2 := hB.2.1; have hB4 := hB.2.2.2.1; omega)) (by (have hB2 := hB.2.1; have hB4 := hB.2.2.2.1; omega)) (fun c36 => by exfalso; (have hB2 := hB.2.1; have hB4 := hB.2.2.2.1; omega)) (fun c36 => ?_)
    refine aw_aload_n (aw_d q_Tb_dropRepeated 23 rfl) rfl rfl rfl ?_
    refine aw_iload_n (aw_d q_Tb_dropRepeated 24 rfl) rfl rfl ?_
    refine aw_iload (aw_d q_Tb_dropRepeated 25 rfl) rfl ?_
    refine aw_aload_n (aw_d q_Tb_dropRepeated 26 rfl) rfl rfl rfl ?_
    refine aw_iload_n (aw_d q_Tb_dropRepeated 27 rfl) rfl rfl ?_
    refine aw_iload (aw_d q_Tb_dropRepeated 28 rfl) rfl ?_
    refine cVr (aw_d q_Tb_dropRepeated 29 rfl) (sp_Tb_cell_14 (by (have hB2 := hB.2.1; have hB4 := hB.2.2.2.1; omega)) (by (have hB2 := hB.2.1; have hB4 := hB.2.2.2.1; omega))) vL_Tb_61_Tb rfl rfl rfl rfl rfl rfl ⟨aw_le rfl, aw_le rfl⟩ ?_
    refine cVv (aw_d q_Tb_dropRepeated 30 rfl) (sp_Tb_setCell_14 (by (have hB2 := hB.2.1; have hB4 := hB.2.2.2.1; omega)) (by (have hB2 := hB.2.1; have hB4 := hB.2.2.2.1; omega))) vL_Tb_53_Tb rfl rfl rfl rfl rfl rfl ⟨aw_le rfl, aw_le rfl⟩ ?_
    refine aw_iinc (aw_d q_Tb_dropRepeated 31 rfl) rfl (ii1 _) (aw_le rfl) rfl ?_
    refine aw_goto (tgt := 30) (aw_d q_Tb_dropRepeated 32 rfl) (by decide) ?_
    have hz := ih (v + 1) (by omega)
    rw [← cpR_s C (by (have hB2 := hB.2.1; have hB4 := hB.2.2.2.1; omega)) hl] at hz
    exact AW.to hz rfl rfl rfl rfl
set_option maxRecDepth 20000 in
theorem lp_Tb_drop {g : aw_G} {S : aw_S} {nv nr : Nat} {nl : Nat → Nat} (hB : TbI_14 S nv nr nl) : ∀ (m r l : Nat) (C : Nat → Int32) (x4 : Option Value), m + r = nr → l ≤ r → (ddB nv nr 0 0 (S.2 17)) = ddB nv m r l C → AW g M_Tb_dropRepeated (aw_rm 4 92 0 0) (aw_F g 0 0 (fun r h => r = some (.int (nI (nr - (ddB nv nr 0 0 (S.2 17)).1))) ∧ h = HP (si (sa S 17 (ddB nv nr 0 0 (S.2 17)).2) 1404 (nI (ddB nv nr 0 0 (S.2 17)).1)))) 9 [some (.ref 14), some (.int (nI nr)), some (.int (nI l)), some (.int (nI r)), x4] [] (HP (sa S 17 C)) 0 0 := by
  intro m
  induction m with
  | zero =>
    intro r l C x4 hk hll e
    refine aw_iload_n (aw_d q_Tb_dropRepeated 7 rfl) rfl rfl ?_
    refine aw_iload_n (aw_d q_Tb_dropRepeated 8 rfl) rfl rfl ?_
    refine aw_icmpN_ge (tgt := 68) (aw_d q_Tb_dropRepeated 9 rfl) (by decide) (by (have hB2 := hB.2.1; have hB4 := hB.2.2.2.1; omega)) (by (have hB2 := hB.2.1; have hB4 := hB.2.2.2.1; omega)) (fun c11 => ?_) (fun c11 => by exfalso; (have hB2 := hB.2.1; have hB4 := hB.2.2.2.1; omega))
    refine aw_aload_n (aw_d q_Tb_dropRepeated 36 rfl) rfl rfl rfl ?_
    refine aw_iload_n (aw_d q_Tb_dropRepeated 37 rfl) rfl rfl ?_
    refine wi_14_4 (aw_d q_Tb_dropRepeated 38 rfl) pL_Tb_25_Tb ?_
    refine aw_iload_n (aw_d q_Tb_dropRepeated 39 rfl) rfl rfl ?_
    refine aw_iload_n (aw_d q_Tb_dropRepeated 40 rfl) rfl rfl ?_
    refine aw_isubN (aw_d q_Tb_dropRepeated 41 rfl) (by (have hB2 := hB.2.1; have hB4 := hB.2.2.2.1; omega)) ?_
    exact aw_iret (aw_d q_Tb_dropRepeated 42 rfl) rfl (⟨by rw [e]; rfl, by rw [e]; rfl⟩)
  | succ m ih =>
    intro r l C x4 hk hll e
    refine aw_iload_n (aw_d q_Tb_dropRepeated 7 rfl) rfl rfl ?_
    refine aw_iload_n (aw_d q_Tb_dropRepeated 8 rfl) rfl rfl ?_
    refine aw_icmpN_ge (tgt := 68) (aw_d q_Tb_dropRepeated 9 rfl) (by decide) (by (have hB2 := hB.2.1; have hB4 := hB.2.2.2.1; omega)) (by (have hB2 := hB.2.1; have hB4 := hB.2.2.2.1; omega)) (fun c11 => by exfalso; (have hB2 := hB.2.1; have hB4 := hB.2.2.2.1; omega)) (fun c11 => ?_)
    refine aw_aload_n (aw_d q_Tb_dropRepeated 10 rfl) rfl rfl rfl ?_
    refine aw_aload_n (aw_d q_Tb_dropRepeated 11 rfl) rfl rfl rfl ?_
    refine aw_iload_n (aw_d q_Tb_dropRepeated 12 rfl) rfl rfl ?_
    refine aw_iload_n (aw_d q_Tb_dropRepeated 13 rfl) rfl rfl ?_
    refine cVr (aw_d q_Tb_dropRepeated 14 rfl) (sp_Tb_countAlike_14 (S := sa S 17 C) (show TbI_14 (sa S 17 C) nv nr nl from hB) (by (have hB2 := hB.2.1; have hB4 := hB.2.2.2.1; omega)) (by (have hB2 := hB.2.1; have hB4 := hB.2.2.2.1; omega))) vL_Tb_68_Tb rfl rfl rfl rfl rfl rfl ⟨aw_le rfl, aw_le rfl⟩ ?_
    have hcn := cnB_le (fun q => rwB C C nv q r) l 0
    rw [show cnB (fun q => rwB ((sa S 17 C).2 17) ((sa S 17 C).2 17) nv q r) l 0 = cnB (fun q => rwB C C nv q r) l 0 from rfl]
    refine aw_ifN_le (tgt := 27) (aw_d q_Tb_dropRepeated 15 rfl) (by decide) (by (have hB2 := hB.2.1; have hB4 := hB.2.2.2.1; omega)) (fun c21 => ?_) (fun c21 => ?_)
    · refine aw_iconst (v := nI 0) (aw_d q_Tb_dropRepeated 17 rfl) (by decide) ?_
      refine aw_istore (aw_d q_Tb_dropRepeated 18 rfl) (aw_le rfl) rfl ?_
      refine AW.to (h' := HP (sa S 17 (cpR C 0 l r))) (lp_Tb_drop_in hB hll (by (have hB2 := hB.2.1; have hB4 := hB.2.2.2.1; omega)) (fun x4 => ?_) nv 0 (by omega)) rfl rfl rfl (by rw [cpR_0])
      refine aw_iinc (aw_d q_Tb_dropRepeated 33 rfl) rfl (ii1 _) (aw_le rfl) rfl ?_
      refine aw_iinc (aw_d q_Tb_dropRepeated 34 rfl) rfl (ii1 _) (aw_le rfl) rfl ?_
      refine aw_goto (tgt := 9) (aw_d q_Tb_dropRepeated 35 rfl) (by decide) ?_
      exact ih (r + 1) (l + 1) _ _ (by omega) (by omega) (e.trans (by simp only [ddB]; rw [if_neg (by omega)]))
    · refine aw_goto (tgt := 62) (aw_d q_Tb_dropRepeated 16 rfl) (by decide) ?_
      refine aw_iinc (aw_d q_Tb_dropRepeated 34 rfl) rfl (ii1 _) (aw_le rfl) rfl ?_
      refine aw_goto (tgt := 9) (aw_d q_Tb_dropRepeated 35 rfl) (by decide) ?_
      exact ih (r + 1) l C _ (by omega) (by omega) (e.trans (by simp only [ddB]; rw [if_pos c21]))
set_option maxRecDepth 20000 in
theorem sp_Tb_dropRepeated {g : aw_G} {S : aw_S} {nv nr : Nat} {nl : Nat → Nat} (hB : TbI_14 S nv nr nl) : Sp g M_Tb_dropRepeated 4 92 0 0 [.ref 14] (HP S) (fun r h => r = some (.int (nI (nr - (ddB nv nr 0 0 (S.2 17)).1))) ∧ h = HP (si (sa S 17 (ddB nv nr 0 0 (S.2 17)).2) 1404 (nI (ddB nv nr 0 0 (S.2 17)).1))) := by
  refine Sp.of rfl (aw_le rfl) ?_
  refine aw_aload_n (aw_d q_Tb_dropRepeated 0 rfl) rfl rfl rfl ?_
  refine aw_getf (v := .int (nI (nr))) (aw_d q_Tb_dropRepeated 1 rfl) fL_Tb_25_Tb rfl (gk hB.2.2.1) ?_
  refine aw_istore_n (aw_d q_Tb_dropRepeated 2 rfl) rfl (aw_le rfl) rfl ?_
  refine aw_iconst (v := nI 0) (aw_d q_Tb_dropRepeated 3 rfl) (by decide) ?_
  refine aw_istore_n (aw_d q_Tb_dropRepeated 4 rfl) rfl (aw_le rfl) rfl ?_
  refine aw_iconst (v := nI 0) (aw_d q_Tb_dropRepeated 5 rfl) (by decide) ?_
  refine aw_istore_n (aw_d q_Tb_dropRepeated 6 rfl) rfl (aw_le rfl) rfl ?_
  exact AW.to (lp_Tb_drop hB nr 0 0 (S.2 17) _ (by omega) (by omega) rfl) rfl rfl rfl rfl
