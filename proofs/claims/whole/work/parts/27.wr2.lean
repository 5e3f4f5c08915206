theorem sp_kind {g : aw_G} {S : aw_S} {O : List Int32} {P : xp_T} (hP : xp_C S P) (hW : xp_wd P) {t : Nat} (ht : t < xp_t P) {kd : Nat} (hk : xp_k P t = kd) : Sp g M_Te_kindOf 0 0 0 0 [.ref 9, .int (nI t)] (HP (WS S O)) (fun r h => r = some (.int (nI kd)) ∧ h = HP (WS S O)) := by
  have q := sp_Te_kindOf (g := g) (S := WS S O) (xp_TeI (S := WS S _) hP hW) ht
  rw [show (WS S O).2 10 t = nI kd by rw [← hk]; exact (hP.2.2.2 t ht).1] at q
  exact q
theorem sp_ext {g : aw_G} {S : aw_S} {O : List Int32} {P : xp_T} (hP : xp_C S P) (hW : xp_wd P) {t : Nat} (ht : t < xp_t P) {x : Nat} (hx : xp_e P t = x) : Sp g M_Te_extraOf 0 0 0 0 [.ref 9, .int (nI t)] (HP (WS S O)) (fun r h => r = some (.int (nI x)) ∧ h = HP (WS S O)) := by
  have q := sp_Te_extraOf (g := g) (S := WS S O) (xp_TeI (S := WS S _) hP hW) ht
  rw [show (WS S O).2 11 t = nI x by rw [← hx]; exact (hP.2.2.2 t ht).2.1] at q
  exact q
theorem sp_byte {g : aw_G} {S : aw_S} {O : List Int32} {P : xp_T} (hP : xp_C S P) (hW : xp_wd P) {t : Nat} (ht : t < xp_t P) {k : Nat} (hk : k < xp_l P t) : Sp g M_Te_byteOf 0 0 0 0 [.ref 9, .int (nI t), .int (nI k)] (HP (WS S O)) (fun r h => r = some (.int (xp_b P t k)) ∧ h = HP (WS S O)) := by
  have q := sp_Te_byteOf (g := g) (S := WS S O) (xp_TeI (S := WS S _) hP hW) ht (k := k) (by have := (hW.2.2.2 t ht).2.1; omega)
  rw [if_pos hk, show (WS S O).2 13 (t * 20 + k) = xp_b P t k from (hP.2.2.2 t ht).2.2.2 k hk] at q
  exact q
theorem sp_byteN {g : aw_G} {S : aw_S} {O : List Int32} {P : xp_T} (hP : xp_C S P) (hW : xp_wd P) {t : Nat} (ht : t < xp_t P) {k : Nat} (hk : xp_l P t ≤ k) (h20 : k ≤ 20) : Sp g M_Te_byteOf 0 0 0 0 [.ref 9, .int (nI t), .int (nI k)] (HP (WS S O)) (fun r h => r = some (.int (-1)) ∧ h = HP (WS S O)) := by
  have q := sp_Te_byteOf (g := g) (S := WS S O) (xp_TeI (S := WS S _) hP hW) ht (k := k) h20
  rw [if_neg (by omega)] at q
  exact q
theorem sp_len {g : aw_G} {S : aw_S} {O : List Int32} {P : xp_T} (hP : xp_C S P) (hW : xp_wd P) {t : Nat} (ht : t < xp_t P) : Sp g M_Te_lengthOf 0 0 0 0 [.ref 9, .int (nI t)] (HP (WS S O)) (fun r h => r = some (.int (nI (xp_l P t))) ∧ h = HP (WS S O)) := sp_Te_lengthOf (S := WS S O) (xp_TeI (S := WS S _) hP hW) ht
theorem sp_cell {g : aw_G} {S : aw_S} {O : List Int32} {P : xp_T} (hP : xp_C S P) (hW : xp_wd P) {r v : Nat} (hr : r < xp_r P) (hv : v < xp_v P) {x : Int32} (hx : oI (xp_c P r v) = x) : Sp g M_Tb_cell 1 21 0 0 [.ref 14, .int (nI r), .int (nI v)] (HP (WS S O)) (fun r h => r = some (.int (x)) ∧ h = HP (WS S O)) := by
  have q := sp_Tb_cell_14 (g := g) (S := WS S O) (r := r) (v := v) (by have := hW.1; omega) (by have := hW.1; omega)
  rw [show (WS S O).2 17 (r * 6 + v) = x by rw [← hx]; exact hP.2.2.1 r v hr hv] at q
  exact q
set_option maxRecDepth 20000 in
theorem lp_Te_printAsIs {g : aw_G} {S : aw_S} {O : List Int32} {P : xp_T} (hP : xp_C S P) (hW : xp_wd P) {t : Nat} (ht : t < xp_t P) : ∀ (m k : Nat) (Q : List Int32) (x4 : Option Value), m + k = xp_l P t → Q ++ catB (fun i => w_0 (xp_b P t i)) m k = O ++ w_t w_0 P t → AW g M_Te_printAsIs (aw_rm 1 22 0 0) (aw_F g 0 0 (fun r h => r = none ∧ h = HP (WS S (O ++ w_t w_0 P t)))) 2 [some (.ref 9), some (.int (nI t)), some (.ref 5), some (.int (nI k))] [] (HP (WS S Q)) 0 0 := by
  intro m
  induction m with
  | zero =>
    intro k Q x4 hk e
    refine aw_iload_n (aw_d q_Te_printAsIs 2 rfl) rfl rfl ?_
    refine aw_aload_n (aw_d q_Te_printAsIs 3 rfl) rfl rfl rfl ?_
    refine aw_iload_n (aw_d q_Te_printAsIs 4 rfl) rfl rfl ?_
    refine cVr (aw_d q_Te_printAsIs 5 rfl) (sp_len hP hW ht) vL_Te_39_Te rfl rfl rfl rfl rfl rfl ⟨aw_le rfl, aw_le rfl⟩ ?_
    refine aw_icmpN_ge (tgt := 27) (aw_d q_Te_printAsIs 6 rfl) (by decide) (by (have hz := (hW.2.2.2 t ht).2; have hz1 := hW.1; omega)) (by (have hz := (hW.2.2.2 t ht).2; have hz1 := hW.1; omega)) (fun c8 => ?_) (fun c8 => by exfalso; (have hz := (hW.2.2.2 t ht).2; have hz1 := hW.1; omega))
    exact aw_vret (aw_d q_Te_printAsIs 15 rfl) rfl (⟨rfl, by rw [← e]; simp only [catB, List.append_nil]⟩)
  | succ m ih =>
    intro k Q x4 hk e
    refine aw_iload_n (aw_d q_Te_printAsIs 2 rfl) rfl rfl ?_
    refine aw_aload_n (aw_d q_Te_printAsIs 3 rfl) rfl rfl rfl ?_
    refine aw_iload_n (aw_d q_Te_printAsIs 4 rfl) rfl rfl ?_
    refine cVr (aw_d q_Te_printAsIs 5 rfl) (sp_len hP hW ht) vL_Te_39_Te rfl rfl rfl rfl rfl rfl ⟨aw_le rfl, aw_le rfl⟩ ?_
    refine aw_icmpN_ge (tgt := 27) (aw_d q_Te_printAsIs 6 rfl) (by decide) (by (have hz := (hW.2.2.2 t ht).2; have hz1 := hW.1; omega)) (by (have hz := (hW.2.2.2 t ht).2; have hz1 := hW.1; omega)) (fun c8 => by exfalso; (have hz := (hW.2.2.2 t ht).2; have hz1 := hW.1; omega)) (fun c8 => ?_)
    refine aw_aload_n (aw_d q_Te_printAsIs 7 rfl) rfl rfl rfl ?_
    refine aw_aload_n (aw_d q_Te_printAsIs 8 rfl) rfl rfl rfl ?_
    refine aw_iload_n (aw_d q_Te_printAsIs 9 rfl) rfl rfl ?_
    refine aw_iload_n (aw_d q_Te_printAsIs 10 rfl) rfl rfl ?_
    refine cVr (aw_d q_Te_printAsIs 11 rfl) (sp_byte hP hW ht (by omega)) vL_Te_47_Te rfl rfl rfl rfl rfl rfl ⟨aw_le rfl, aw_le rfl⟩ ?_
    refine cVv (aw_d q_Te_printAsIs 12 rfl) (sp_add5) vL_Te_58_By rfl rfl rfl rfl rfl rfl ⟨aw_le rfl, aw_le rfl⟩ ?_
    refine aw_iinc (aw_d q_Te_printAsIs 13 rfl) rfl (ii1 _) (aw_le rfl) rfl ?_
    refine aw_goto (tgt := 2) (aw_d q_Te_printAsIs 14 rfl) (by decide) ?_
    exact ih (k + 1) _ none (by omega) (by rw [← e]; first | (simp [catB, w_0, hsw]; done) | simp [catB, w_0])
set_option maxRecDepth 20000 in
theorem sp_printAsIs {g : aw_G} {S : aw_S} {O : List Int32} {P : xp_T} (hP : xp_C S P) (hW : xp_wd P) {t : Nat} (ht : t < xp_t P) : Sp g M_Te_printAsIs 1 22 0 0 [.ref 9, .int (nI t), .ref 5] (HP (WS S O)) (fun r h => r = none ∧ h = HP (WS S (O ++ w_t w_0 P t))) := by
  refine Sp.of rfl (aw_le rfl) ?_
  refine aw_iconst (v := nI 0) (aw_d q_Te_printAsIs 0 rfl) (by decide) ?_
  refine aw_istore_n (aw_d q_Te_printAsIs 1 rfl) rfl (aw_le rfl) rfl ?_
  exact lp_Te_printAsIs hP hW ht _ 0 O none (by omega) rfl
set_option maxRecDepth 20000 in
theorem lp_Te_printBackslashed {g : aw_G} {S : aw_S} {O : List Int32} {P : xp_T} (hP : xp_C S P) (hW : xp_wd P) {t : Nat} (ht : t < xp_t P) : ∀ (m k : Nat) (Q : List Int32) (x4 : Option Value), m + k = xp_l P t → Q ++ catB (fun i => w_1 (xp_b P t i)) m k = O ++ w_t w_1 P t → AW g M_Te_printBackslashed (aw_rm 5 107 0 0) (aw_F g 0 0 (fun r h => r = none ∧ h = HP (WS S (O ++ w_t w_1 P t)))) 2 [some (.ref 9), some (.int (nI t)), some (.ref 5), some (.int (nI k)), x4] [] (HP (WS S Q)) 0 0 := by
  intro m
  induction m with
  | zero =>
    intro k Q x4 hk e
    refine aw_iload_n (aw_d q_Te_printBackslashed 2 rfl) rfl rfl ?_
    refine aw_aload_n (aw_d q_Te_printBackslashed 3 rfl) rfl rfl rfl ?_
    refine aw_iload_n (aw_d q_Te_printBackslashed 4 rfl) rfl rfl ?_
    refine cVr (aw_d q_Te_printBackslashed 5 rfl) (sp_len hP hW ht) vL_Te_39_Te rfl rfl rfl rfl rfl rfl ⟨aw_le rfl, aw_le rfl⟩ ?_
    refine aw_icmpN_ge (tgt := 129) (aw_d q_Te_printBackslashed 6 rfl) (by decide) (by (have hz := (hW.2.2.2 t ht).2; have hz1 := hW.1; omega)) (by (have hz := (hW.2.2.2 t ht).2; have hz1 := hW.1; omega)) (fun c8 => ?_) (fun c8 => by exfalso; (have hz := (hW.2.2.2 t ht).2; have hz1 := hW.1; omega))
    exact aw_vret (aw_d q_Te_printBackslashed 39 rfl) rfl (⟨rfl, by rw [← e]; simp only [catB, List.append_nil]⟩)
  | succ m ih =>
    intro k Q x4 hk e
    refine aw_iload_n (aw_d q_Te_printBackslashed 2 rfl) rfl rfl ?_
    refine aw_aload_n (aw_d q_Te_printBackslashed 3 rfl) rfl rfl rfl ?_
    refine aw_iload_n (aw_d q_Te_printBackslashed 4 rfl) rfl rfl ?_
    refine cVr (aw_d q_Te_printBackslashed 5 rfl) (sp_len hP hW ht) vL_Te_39_Te rfl rfl rfl rfl rfl rfl ⟨aw_le rfl, aw_le rfl⟩ ?_
    refine aw_icmpN_ge (tgt := 129) (aw_d q_Te_printBackslashed 6 rfl) (by decide) (by (have hz := (hW.2.2.2 t ht).2; have hz1 := hW.1; omega)) (by (have hz := (hW.2.2.2 t ht).2; have hz1 := hW.1; omega)) (fun c8 => by exfalso; (have hz := (hW.2.2.2 t ht).2; have hz1 := hW.1; omega)) (fun c8 => ?_)
    refine aw_aload_n (aw_d q_Te_printBackslashed 7 rfl) rfl rfl rfl ?_
    refine aw_iload_n (aw_d q_Te_printBackslashed 8 rfl) rfl rfl ?_
    refine aw_iload_n (aw_d q_Te_printBackslashed 9 rfl) rfl rfl ?_
    refine cVr (aw_d q_Te_printBackslashed 10 rfl) (sp_byte hP hW ht (by omega)) vL_Te_47_Te rfl rfl rfl rfl rfl rfl ⟨aw_le rfl, aw_le rfl⟩ ?_
    refine aw_istore (aw_d q_Te_printBackslashed 11 rfl) (aw_le rfl) rfl ?_
    refine aw_iload (aw_d q_Te_printBackslashed 12 rfl) rfl ?_
    rcases (show (xp_b P t k).toInt = 9 ∨ (xp_b P t k).toInt = 10 ∨ (xp_b P t k).toInt = 13 ∨ (xp_b P t k).toInt = 34 ∨ (xp_b P t k).toInt = 92 ∨ ((xp_b P t k).toInt ≠ 9 ∧ (xp_b P t k).toInt ≠ 10 ∧ (xp_b P t k).toInt ≠ 13 ∧ (xp_b P t k).toInt ≠ 34 ∧ (xp_b P t k).toInt ≠ 92) by (have hz := (hW.2.2.2 t ht).2; have hz1 := hW.1; omega)) with hsw | hsw | hsw | hsw | hsw | hsw
    · refine aw_lookup (tgt := 90) (aw_d q_Te_printBackslashed 13 rfl) (by decide) (by rw [hsw]; try rfl) (by decide) ?_
      refine aw_aload_n (aw_d q_Te_printBackslashed 22 rfl) rfl rfl rfl ?_
      refine aw_ldcS (aw_d q_Te_printBackslashed 23 rfl) tL_Te_72 ?_
      refine cVv (aw_d q_Te_printBackslashed 24 rfl) (sp_addAll (by decide)) vL_Te_66_By rfl rfl rfl rfl rfl rfl ⟨aw_le rfl, aw_le rfl⟩ ?_
      refine aw_goto (tgt := 123) (aw_d q_Te_printBackslashed 25 rfl) (by decide) ?_
      refine aw_iinc (aw_d q_Te_printBackslashed 37 rfl) rfl (ii1 _) (aw_le rfl) rfl ?_
      refine aw_goto (tgt := 2) (aw_d q_Te_printBackslashed 38 rfl) (by decide) ?_
      exact ih (k + 1) _ _ (by omega) (by rw [← e]; first | (simp [catB, w_1, hsw]; done) | simp [catB, w_1])
    · refine aw_lookup (tgt := 99) (aw_d q_Te_printBackslashed 13 rfl) (by decide) (by rw [hsw]; try rfl) (by decide) ?_
      refine aw_aload_n (aw_d q_Te_printBackslashed 26 rfl) rfl rfl rfl ?_
      refine aw_ldcS (aw_d q_Te_printBackslashed 27 rfl) tL_Te_74 ?_
      refine cVv (aw_d q_Te_printBackslashed 28 rfl) (sp_addAll (by decide)) vL_Te_66_By rfl rfl rfl rfl rfl rfl ⟨aw_le rfl, aw_le rfl⟩ ?_
      refine aw_goto (tgt := 123) (aw_d q_Te_printBackslashed 29 rfl) (by decide) ?_
      refine aw_iinc (aw_d q_Te_printBackslashed 37 rfl) rfl (ii1 _) (aw_le rfl) rfl ?_
      refine aw_goto (tgt := 2) (aw_d q_Te_printBackslashed 38 rfl) (by decide) ?_
      exact ih (k + 1) _ _ (by omega) (by rw [← e]; first | (simp [catB, w_1, hsw]; done) | simp [catB, w_1])
    · refine aw_lookup (tgt := 108) (aw_d q_Te_printBackslashed 13 rfl) (by decide) (by rw [hsw]; try rfl) (by decide) ?_
      refine aw_aload_n (aw_d q_Te_printBackslashed 30 rfl) rfl rfl rfl ?_
      refine aw_ldcS (aw_d q_Te_printBackslashed 31 rfl) tL_Te_76 ?_
      refine cVv (aw_d q_Te_printBackslashed 32 rfl) (sp_addAll (by decide)) vL_Te_66_By rfl rfl rfl rfl rfl rfl ⟨aw_le rfl, aw_le rfl⟩ ?_
      refine aw_goto (tgt := 123) (aw_d q_Te_printBackslashed 33 rfl) (by decide) ?_
      refine aw_iinc (aw_d q_Te_printBackslashed 37 rfl) rfl (ii1 _) (aw_le rfl) rfl ?_
      refine aw_goto (tgt := 2) (aw_d q_Te_printBackslashed 38 rfl) (by decide) ?_
      exact ih (k + 1) _ _ (by omega) (by rw [← e]; first | (simp [catB, w_1, hsw]; done) | simp [catB, w_1])
    · refine aw_lookup (tgt := 72) (aw_d q_Te_printBackslashed 13 rfl) (by decide) (by rw [hsw]; try rfl) (by decide) ?_
      refine aw_aload_n (aw_d q_Te_printBackslashed 14 rfl) rfl rfl rfl ?_
      refine aw_ldcS (aw_d q_Te_printBackslashed 15 rfl) tL_Te_64 ?_
      refine cVv (aw_d q_Te_printBackslashed 16 rfl) (sp_addAll (by decide)) vL_Te_66_By rfl rfl rfl rfl rfl rfl ⟨aw_le rfl, aw_le rfl⟩ ?_
      refine aw_goto (tgt := 123) (aw_d q_Te_printBackslashed 17 rfl) (by decide) ?_
      refine aw_iinc (aw_d q_Te_printBackslashed 37 rfl) rfl (ii1 _) (aw_le rfl) rfl ?_
      refine aw_goto (tgt := 2) (aw_d q_Te_printBackslashed 38 rfl) (by decide) ?_
      exact ih (k + 1) _ _ (by omega) (by rw [← e]; first | (simp [catB, w_1, hsw]; done) | simp [catB, w_1])
    · refine aw_lookup (tgt := 81) (aw_d q_Te_printBackslashed 13 rfl) (by decide) (by rw [hsw]; try rfl) (by decide) ?_
      refine aw_aload_n (aw_d q_Te_printBackslashed 18 rfl) rfl rfl rfl ?_
      refine aw_ldcS (aw_d q_Te_printBackslashed 19 rfl) tL_Te_70 ?_
      refine cVv (aw_d q_Te_printBackslashed 20 rfl) (sp_addAll (by decide)) vL_Te_66_By rfl rfl rfl rfl rfl rfl ⟨aw_le rfl, aw_le rfl⟩ ?_
      refine aw_goto (tgt := 123) (aw_d q_Te_printBackslashed 21 rfl) (by decide) ?_
      refine aw_iinc (aw_d q_Te_printBackslashed 37 rfl) rfl (ii1 _) (aw_le rfl) rfl ?_
      refine aw_goto (tgt := 2) (aw_d q_Te_printBackslashed 38 rfl) (by decide) ?_
      exact ih (k + 1) _ _ (by omega) (by rw [← e]; first | (simp [catB, w_1, hsw]; done) | simp [catB, w_1])
    · refine aw_lookup (tgt := 117) (aw_d q_Te_printBackslashed 13 rfl) (by decide) (lk_out (by intro q hq; simp at hq; rcases hq with rfl | rfl | rfl | rfl | rfl <;> (dsimp only; omega))) (by decide) ?_
      refine aw_aload_n (aw_d q_Te_printBackslashed 34 rfl) rfl rfl rfl ?_
      refine aw_iload (aw_d q_Te_printBackslashed 35 rfl) rfl ?_
      refine cVv (aw_d q_Te_printBackslashed 36 rfl) (sp_add5) vL_Te_58_By rfl rfl rfl rfl rfl rfl ⟨aw_le rfl, aw_le rfl⟩ ?_
      refine aw_iinc (aw_d q_Te_printBackslashed 37 rfl) rfl (ii1 _) (aw_le rfl) rfl ?_
      refine aw_goto (tgt := 2) (aw_d q_Te_printBackslashed 38 rfl) (by decide) ?_
      exact ih (k + 1) _ _ (by omega) (by rw [← e]; first | (simp [catB, w_1, hsw]; done) | simp [catB, w_1])
set_option maxRecDepth 20000 in
theorem sp_printBack {g : aw_G} {S : aw_S} {O : List Int32} {P : xp_T} (hP : xp_C S P) (hW : xp_wd P) {t : Nat} (ht : t < xp_t P) : Sp g M_Te_printBackslashed 5 107 0 0 [.ref 9, .int (nI t), .ref 5] (HP (WS S O)) (fun r h => r = none ∧ h = HP (WS S (O ++ w_t w_1 P t))) := by
  refine Sp.of rfl (aw_le rfl) ?_
  refine aw_iconst (v := nI 0) (aw_d q_Te_printBackslashed 0 rfl) (by decide) ?_
  refine aw_istore_n (aw_d q_Te_printBackslashed 1 rfl) rfl (aw_le rfl) rfl ?_
  exact lp_Te_printBackslashed hP hW ht _ 0 O _ (by omega) rfl
set_option maxRecDepth 20000 in
theorem sp_typeName_0 {g : aw_G} {h : aw_hp}  : Sp g M_RF_typeName 0 0 0 0 [.int (nI 0)] (h) (fun r h1 => r = some (.retAddr 19) ∧ h1 = h) := by
  refine Sp.of rfl (aw_le rfl) ?_
  refine aw_iload_n (aw_d q_RF_typeName 0 rfl) rfl rfl ?_
  have hsx1 : (nI (0)).toInt = ((0 : Nat) : Int) := nI_toInt (by omega)
  have hsw : (nI (0)).toInt = 0 := by omega
  refine aw_tableIn (tgt := 28) (aw_d q_RF_typeName 1 rfl) (by omega) (by omega) (by rw [hsw]; rfl) (by decide) ?_
  refine aw_ldcSw (aw_d q_RF_typeName 2 rfl) tL_RF_256 ?_
  exact aw_aret (aw_d q_RF_typeName 3 rfl) rfl (Or.inl ⟨_, rfl⟩) rfl (⟨rfl, rfl⟩)
set_option maxRecDepth 20000 in
theorem sp_typeName_1 {g : aw_G} {h : aw_hp}  : Sp g M_RF_typeName 0 0 0 0 [.int (nI 1)] (h) (fun r h1 => r = some (.retAddr 20) ∧ h1 = h) := by
  refine Sp.of rfl (aw_le rfl) ?_
  refine aw_iload_n (aw_d q_RF_typeName 0 rfl) rfl rfl ?_
  have hsx1 : (nI (1)).toInt = ((1 : Nat) : Int) := nI_toInt (by omega)
  have hsw : (nI (1)).toInt = 1 := by omega
  refine aw_tableIn (tgt := 32) (aw_d q_RF_typeName 1 rfl) (by omega) (by omega) (by rw [hsw]; rfl) (by decide) ?_
  refine aw_ldcSw (aw_d q_RF_typeName 4 rfl) tL_RF_258 ?_
  exact aw_aret (aw_d q_RF_typeName 5 rfl) rfl (Or.inl ⟨_, rfl⟩) rfl (⟨rfl, rfl⟩)
set_option maxRecDepth 20000 in
theorem sp_typeName_2 {g : aw_G} {h : aw_hp}  : Sp g M_RF_typeName 0 0 0 0 [.int (nI 2)] (h) (fun r h1 => r = some (.retAddr 21) ∧ h1 = h) := by
  refine Sp.of rfl (aw_le rfl) ?_
  refine aw_iload_n (aw_d q_RF_typeName 0 rfl) rfl rfl ?_
  have hsx1 : (nI (2)).toInt = ((2 : Nat) : Int) := nI_toInt (by omega)
  have hsw : (nI (2)).toInt = 2 := by omega
  refine aw_tableIn (tgt := 36) (aw_d q_RF_typeName 1 rfl) (by omega) (by omega) (by rw [hsw]; rfl) (by decide) ?_
  refine aw_ldcSw (aw_d q_RF_typeName 6 rfl) tL_RF_260 ?_
  exact aw_aret (aw_d q_RF_typeName 7 rfl) rfl (Or.inl ⟨_, rfl⟩) rfl (⟨rfl, rfl⟩)
set_option maxRecDepth 20000 in
theorem sp_typeName_3 {g : aw_G} {h : aw_hp}  : Sp g M_RF_typeName 0 0 0 0 [.int (nI 3)] (h) (fun r h1 => r = some (.retAddr 22) ∧ h1 = h) := by
  refine Sp.of rfl (aw_le rfl) ?_
  refine aw_iload_n (aw_d q_RF_typeName 0 rfl) rfl rfl ?_
  have hsx1 : (nI (3)).toInt = ((3 : Nat) : Int) := nI_toInt (by omega)
  have hsw : (2 : Int) < (nI (3)).toInt := by omega
  refine aw_tableOut (tgt := 40) (aw_d q_RF_typeName 1 rfl) (Or.inr hsw) (by decide) ?_
  refine aw_ldcSw (aw_d q_RF_typeName 8 rfl) tL_RF_262 ?_
  exact aw_aret (aw_d q_RF_typeName 9 rfl) rfl (Or.inl ⟨_, rfl⟩) rfl (⟨rfl, rfl⟩)
set_option maxRecDepth 20000 in
theorem sp_truthName_0 {g : aw_G} {h : aw_hp}  : Sp g M_RF_truthName 0 0 0 0 [.int (nI 0)] (h) (fun r h1 => r = some (.retAddr 57) ∧ h1 = h) := by
  refine Sp.of rfl (aw_le rfl) ?_
  refine aw_iload_n (aw_d q_RF_truthName 0 rfl) rfl rfl ?_
  refine aw_ifN_eq (tgt := 10) (aw_d q_RF_truthName 1 rfl) (by decide) (by omega) (fun c1 => ?_) (fun c1 => by exfalso; omega)
  refine aw_ldcSw (aw_d q_RF_truthName 4 rfl) tL_RF_266 ?_
  exact aw_aret (aw_d q_RF_truthName 5 rfl) rfl (Or.inl ⟨_, rfl⟩) rfl (⟨rfl, rfl⟩)
set_option maxRecDepth 20000 in
theorem sp_truthName_1 {g : aw_G} {h : aw_hp}  : Sp g M_RF_truthName 0 0 0 0 [.int (nI 1)] (h) (fun r h1 => r = some (.retAddr 56) ∧ h1 = h) := by
  refine Sp.of rfl (aw_le rfl) ?_
  refine aw_iload_n (aw_d q_RF_truthName 0 rfl) rfl rfl ?_
  refine aw_ifN_eq (tgt := 10) (aw_d q_RF_truthName 1 rfl) (by decide) (by omega) (fun c1 => by exfalso; omega) (fun c1 => ?_)
  refine aw_ldcSw (aw_d q_RF_truthName 2 rfl) tL_RF_264 ?_
  refine aw_goto (tgt := 13) (aw_d q_RF_truthName 3 rfl) (by decide) ?_
  exact aw_aret (aw_d q_RF_truthName 5 rfl) rfl (Or.inl ⟨_, rfl⟩) rfl (⟨rfl, rfl⟩)
set_option maxRecDepth 20000 in
theorem sp_printExtra_3 {g : aw_G} {S : aw_S} {O : List Int32} {P : xp_T} (hP : xp_C S P) (hW : xp_wd P) {t : Nat} (ht : t < xp_t P) (hk : xp_k P t = 3) : Sp g M_Te_printExtra 5 107 0 0 [.ref 9, .int (nI t), .ref 5] (HP (WS S O)) (fun r h => r = none ∧ h = HP (WS S (O ++ w_e P t))) := by
  refine Sp.of rfl (aw_le rfl) ?_
  refine aw_aload_n (aw_d q_Te_printExtra 0 rfl) rfl rfl rfl ?_
  refine aw_iload_n (aw_d q_Te_printExtra 1 rfl) rfl rfl ?_
  refine cVr (aw_d q_Te_printExtra 2 rfl) (sp_ext hP hW ht rfl) vL_Te_32_Te rfl rfl rfl rfl rfl rfl ⟨aw_le rfl, aw_le rfl⟩ ?_
  refine aw_istore_n (aw_d q_Te_printExtra 3 rfl) rfl (aw_le rfl) rfl ?_
  refine aw_aload_n (aw_d q_Te_printExtra 4 rfl) rfl rfl rfl ?_
  refine aw_iload_n (aw_d q_Te_printExtra 5 rfl) rfl rfl ?_
  refine cVr (aw_d q_Te_printExtra 6 rfl) (sp_kind hP hW ht hk) vL_Te_28_Te rfl rfl rfl rfl rfl rfl ⟨aw_le rfl, aw_le rfl⟩ ?_
  refine aw_iconst (v := nI 3) (aw_d q_Te_printExtra 7 rfl) (by decide) ?_
  refine aw_icmpN_ne (tgt := 40) (aw_d q_Te_printExtra 8 rfl) (by decide) (by (have hz := (hW.2.2.2 t ht).2; have hz1 := hW.1; omega)) (by (have hz := (hW.2.2.2 t ht).2; have hz1 := hW.1; omega)) (fun c12 => by exfalso; (have hz := (hW.2.2.2 t ht).2; have hz1 := hW.1; omega)) (fun c12 => ?_)
  refine aw_aload_n (aw_d q_Te_printExtra 9 rfl) rfl rfl rfl ?_
  refine aw_bipush (v := nI 97) (aw_d q_Te_printExtra 10 rfl) (by decide) ?_
  refine aw_iload_n (aw_d q_Te_printExtra 11 rfl) rfl rfl ?_
  refine aw_bipush (v := nI 26) (aw_d q_Te_printExtra 12 rfl) (by decide) ?_
  refine aw_idivN (aw_d q_Te_printExtra 13 rfl) (by (have hz := (hW.2.2.2 t ht).2; have hz1 := hW.1; omega)) (by (have hz := (hW.2.2.2 t ht).2; have hz1 := hW.1; omega)) (by (have hz := (hW.2.2.2 t ht).2; have hz1 := hW.1; omega)) ?_
  refine aw_iaddN (aw_d q_Te_printExtra 14 rfl) ?_
  refine cVv (aw_d q_Te_printExtra 15 rfl) (sp_add5) vL_Te_58_By rfl rfl rfl rfl rfl rfl ⟨aw_le rfl, aw_le rfl⟩ ?_
  refine aw_aload_n (aw_d q_Te_printExtra 16 rfl) rfl rfl rfl ?_
  refine aw_bipush (v := nI 97) (aw_d q_Te_printExtra 17 rfl) (by decide) ?_
  refine aw_iload_n (aw_d q_Te_printExtra 18 rfl) rfl rfl ?_
  refine aw_bipush (v := nI 26) (aw_d q_Te_printExtra 19 rfl) (by decide) ?_
  refine aw_iremN (aw_d q_Te_printExtra 20 rfl) (by (have hz := (hW.2.2.2 t ht).2; have hz1 := hW.1; omega)) (by (have hz := (hW.2.2.2 t ht).2; have hz1 := hW.1; omega)) (by (have hz := (hW.2.2.2 t ht).2; have hz1 := hW.1; omega)) ?_
  refine aw_iaddN (aw_d q_Te_printExtra 21 rfl) ?_
  refine cVv (aw_d q_Te_printExtra 22 rfl) (sp_add5) vL_Te_58_By rfl rfl rfl rfl rfl rfl ⟨aw_le rfl, aw_le rfl⟩ ?_
  refine aw_goto (tgt := 48) (aw_d q_Te_printExtra 23 rfl) (by decide) ?_
  exact aw_vret (aw_d q_Te_printExtra 28 rfl) rfl (⟨rfl, by simp [w_e, hk]⟩)
set_option maxRecDepth 20000 in
theorem sp_printExtra_40 {g : aw_G} {S : aw_S} {O : List Int32} {P : xp_T} (hP : xp_C S P) (hW : xp_wd P) {t : Nat} (ht : t < xp_t P) (hk : xp_k P t = 4) (he : xp_e P t = 0) : Sp g M_Te_printExtra 5 107 0 0 [.ref 9, .int (nI t), .ref 5] (HP (WS S O)) (fun r h => r = none ∧ h = HP (WS S (O ++ w_e P t))) := by
  refine Sp.of rfl (aw_le rfl) ?_
  refine aw_aload_n (aw_d q_Te_printExtra 0 rfl) rfl rfl rfl ?_
  refine aw_iload_n (aw_d q_Te_printExtra 1 rfl) rfl rfl ?_
  refine cVr (aw_d q_Te_printExtra 2 rfl) (sp_ext hP hW ht he) vL_Te_32_Te rfl rfl rfl rfl rfl rfl ⟨aw_le rfl, aw_le rfl⟩ ?_
  refine aw_istore_n (aw_d q_Te_printExtra 3 rfl) rfl (aw_le rfl) rfl ?_
  refine aw_aload_n (aw_d q_Te_printExtra 4 rfl) rfl rfl rfl ?_
  refine aw_iload_n (aw_d q_Te_printExtra 5 rfl) rfl rfl ?_
  refine cVr (aw_d q_Te_printExtra 6 rfl) (sp_kind hP hW ht hk) vL_Te_28_Te rfl rfl rfl rfl rfl rfl ⟨aw_le rfl, aw_le rfl⟩ ?_
  refine aw_iconst (v := nI 3) (aw_d q_Te_printExtra 7 rfl) (by decide) ?_
  refine aw_icmpN_ne (tgt := 40) (aw_d q_Te_printExtra 8 rfl) (by decide) (by (have hz := (hW.2.2.2 t ht).2; have hz1 := hW.1; omega)) (by (have hz := (hW.2.2.2 t ht).2; have hz1 := hW.1; omega)) (fun c12 => ?_) (fun c12 => by exfalso; (have hz := (hW.2.2.2 t ht).2; have hz1 := hW.1; omega))
  refine aw_aload_n (aw_d q_Te_printExtra 24 rfl) rfl rfl rfl ?_
  refine aw_iload_n (aw_d q_Te_printExtra 25 rfl) rfl rfl ?_
  refine cSr (aw_d q_Te_printExtra 26 rfl) (sp_typeName_0) sL_Te_78 rfl rfl rfl rfl ⟨aw_le rfl, aw_le rfl⟩ ?_
  refine cVv (aw_d q_Te_printExtra 27 rfl) (sp_addAll (by decide)) vL_Te_66_By rfl rfl rfl rfl rfl rfl ⟨aw_le rfl, aw_le rfl⟩ ?_
  exact aw_vret (aw_d q_Te_printExtra 28 rfl) rfl (⟨rfl, by simp [w_e, hk, he]⟩)
set_option maxRecDepth 20000 in
theorem sp_printExtra_41 {g : aw_G} {S : aw_S} {O : List Int32} {P : xp_T} (hP : xp_C S P) (hW : xp_wd P) {t : Nat} (ht : t < xp_t P) (hk : xp_k P t = 4) (he : xp_e P t = 1) : Sp g M_Te_printExtra 5 107 0 0 [.ref 9, .int (nI t), .ref 5] (HP (WS S O)) (fun r h => r = none ∧ h = HP (WS S (O ++ w_e P t))) := by
  refine Sp.of rfl (aw_le rfl) ?_
  refine aw_aload_n (aw_d q_Te_printExtra 0 rfl) rfl rfl rfl ?_
  refine aw_iload_n (aw_d q_Te_printExtra 1 rfl) rfl rfl ?_
  refine cVr (aw_d q_Te_printExtra 2 rfl) (sp_ext hP hW ht he) vL_Te_32_Te rfl rfl rfl rfl rfl rfl ⟨aw_le rfl, aw_le rfl⟩ ?_
  refine aw_istore_n (aw_d q_Te_printExtra 3 rfl) rfl (aw_le rfl) rfl ?_
  refine aw_aload_n (aw_d q_Te_printExtra 4 rfl) rfl rfl rfl ?_
  refine aw_iload_n (aw_d q_Te_printExtra 5 rfl) rfl rfl ?_
  refine cVr (aw_d q_Te_printExtra 6 rfl) (sp_kind hP hW ht hk) vL_Te_28_Te rfl rfl rfl rfl rfl rfl ⟨aw_le rfl, aw_le rfl⟩ ?_
  refine aw_iconst (v := nI 3) (aw_d q_Te_printExtra 7 rfl) (by decide) ?_
  refine aw_icmpN_ne (tgt := 40) (aw_d q_Te_printExtra 8 rfl) (by decide) (by (have hz := (hW.2.2.2 t ht).2; have hz1 := hW.1; omega)) (by (have hz := (hW.2.2.2 t ht).2; have hz1 := hW.1; omega)) (fun c12 => ?_) (fun c12 => by exfalso; (have hz := (hW.2.2.2 t ht).2; have hz1 := hW.1; omega))
  refine aw_aload_n (aw_d q_Te_printExtra 24 rfl) rfl rfl rfl ?_
  refine aw_iload_n (aw_d q_Te_printExtra 25 rfl) rfl rfl ?_
  refine cSr (aw_d q_Te_printExtra 26 rfl) (sp_typeName_1) sL_Te_78 rfl rfl rfl rfl ⟨aw_le rfl, aw_le rfl⟩ ?_
  refine cVv (aw_d q_Te_printExtra 27 rfl) (sp_addAll (by decide)) vL_Te_66_By rfl rfl rfl rfl rfl rfl ⟨aw_le rfl, aw_le rfl⟩ ?_
  exact aw_vret (aw_d q_Te_printExtra 28 rfl) rfl (⟨rfl, by simp [w_e, hk, he]⟩)
set_option maxRecDepth 20000 in
theorem sp_printExtra_42 {g : aw_G} {S : aw_S} {O : List Int32} {P : xp_T} (hP : xp_C S P) (hW : xp_wd P) {t : Nat} (ht : t < xp_t P) (hk : xp_k P t = 4) (he : xp_e P t = 2) : Sp g M_Te_printExtra 5 107 0 0 [.ref 9, .int (nI t), .ref 5] (HP (WS S O)) (fun r h => r = none ∧ h = HP (WS S (O ++ w_e P t))) := by
  refine Sp.of rfl (aw_le rfl) ?_
  refine aw_aload_n (aw_d q_Te_printExtra 0 rfl) rfl rfl rfl ?_
  refine aw_iload_n (aw_d q_Te_printExtra 1 rfl) rfl rfl ?_
  refine cVr (aw_d q_Te_printExtra 2 rfl) (sp_ext hP hW ht he) vL_Te_32_Te rfl rfl rfl rfl rfl rfl ⟨aw_le rfl, aw_le rfl⟩ ?_
  refine aw_istore_n (aw_d q_Te_printExtra 3 rfl) rfl (aw_le rfl) rfl ?_
  refine aw_aload_n (aw_d q_Te_printExtra 4 rfl) rfl rfl rfl ?_
  refine aw_iload_n (aw_d q_Te_printExtra 5 rfl) rfl rfl ?_
  refine cVr (aw_d q_Te_printExtra 6 rfl) (sp_kind hP hW ht hk) vL_Te_28_Te rfl rfl rfl rfl rfl rfl ⟨aw_le rfl, aw_le rfl⟩ ?_
  refine aw_iconst (v := nI 3) (aw_d q_Te_printExtra 7 rfl) (by decide) ?_
  refine aw_icmpN_ne (tgt := 40) (aw_d q_Te_printExtra 8 rfl) (by decide) (by (have hz := (hW.2.2.2 t ht).2; have hz1 := hW.1; omega)) (by (have hz := (hW.2.2.2 t ht).2; have hz1 := hW.1; omega)) (fun c12 => ?_) (fun c12 => by exfalso; (have hz := (hW.2.2.2 t ht).2; have hz1 := hW.1; omega))
  refine aw_aload_n (aw_d q_Te_printExtra 24 rfl) rfl rfl rfl ?_
  refine aw_iload_n (aw_d q_Te_printExtra 25 rfl) rfl rfl ?_
  refine cSr (aw_d q_Te_printExtra 26 rfl) (sp_typeName_2) sL_Te_78 rfl rfl rfl rfl ⟨aw_le rfl, aw_le rfl⟩ ?_
  refine cVv (aw_d q_Te_printExtra 27 rfl) (sp_addAll (by decide)) vL_Te_66_By rfl rfl rfl rfl rfl rfl ⟨aw_le rfl, aw_le rfl⟩ ?_
  exact aw_vret (aw_d q_Te_printExtra 28 rfl) rfl (⟨rfl, by simp [w_e, hk, he]⟩)
set_option maxRecDepth 20000 in
theorem sp_printExtra_43 {g : aw_G} {S : aw_S} {O : List Int32} {P : xp_T} (hP : xp_C S P) (hW : xp_wd P) {t : Nat} (ht : t < xp_t P) (hk : xp_k P t = 4) (he : xp_e P t = 3) : Sp g M_Te_printExtra 5 107 0 0 [.ref 9, .int (nI t), .ref 5] (HP (WS S O)) (fun r h => r = none ∧ h = HP (WS S (O ++ w_e P t))) := by
  refine Sp.of rfl (aw_le rfl) ?_
  refine aw_aload_n (aw_d q_Te_printExtra 0 rfl) rfl rfl rfl ?_
  refine aw_iload_n (aw_d q_Te_printExtra 1 rfl) rfl rfl ?_
  refine cVr (aw_d q_Te_printExtra 2 rfl) (sp_ext hP hW ht he) vL_Te_32_Te rfl rfl rfl rfl rfl rfl ⟨aw_le rfl, aw_le rfl⟩ ?_
  refine aw_istore_n (aw_d q_Te_printExtra 3 rfl) rfl (aw_le rfl) rfl ?_
  refine aw_aload_n (aw_d q_Te_printExtra 4 rfl) rfl rfl rfl ?_
  refine aw_iload_n (aw_d q_Te_printExtra 5 rfl) rfl rfl ?_
  refine cVr (aw_d q_Te_printExtra 6 rfl) (sp_kind hP hW ht hk) vL_Te_28_Te rfl rfl rfl rfl rfl rfl ⟨aw_le rfl, aw_le rfl⟩ ?_
  refine aw_iconst (v := nI 3) (aw_d q_Te_printExtra 7 rfl) (by decide) ?_
  refine aw_icmpN_ne (tgt := 40) (aw_d q_Te_printExtra 8 rfl) (by decide) (by (have hz := (hW.2.2.2 t ht).2; have hz1 := hW.1; omega)) (by (have hz := (hW.2.2.2 t ht).2; have hz1 := hW.1; omega)) (fun c12 => ?_) (fun c12 => by exfalso; (have hz := (hW.2.2.2 t ht).2; have hz1 := hW.1; omega))
  refine aw_aload_n (aw_d q_Te_printExtra 24 rfl) rfl rfl rfl ?_
  refine aw_iload_n (aw_d q_Te_printExtra 25 rfl) rfl rfl ?_
  refine cSr (aw_d q_Te_printExtra 26 rfl) (sp_typeName_3) sL_Te_78 rfl rfl rfl rfl ⟨aw_le rfl, aw_le rfl⟩ ?_
  refine cVv (aw_d q_Te_printExtra 27 rfl) (sp_addAll (by decide)) vL_Te_66_By rfl rfl rfl rfl rfl rfl ⟨aw_le rfl, aw_le rfl⟩ ?_
  exact aw_vret (aw_d q_Te_printExtra 28 rfl) rfl (⟨rfl, by simp [w_e, hk, he]⟩)
theorem sp_printExtra {g : aw_G} {S : aw_S} {O : List Int32} {P : xp_T} (hP : xp_C S P) (hW : xp_wd P) {t : Nat} (ht : t < xp_t P) (hk : 2 < xp_k P t) : Sp g M_Te_printExtra 5 107 0 0 [.ref 9, .int (nI t), .ref 5] (HP (WS S O)) (fun r h => r = none ∧ h = HP (WS S (O ++ w_e P t))) := by
  obtain ⟨h4, -, -, h44, -⟩ := hW.2.2.2 t ht
  rcases (show xp_k P t = 3 ∨ xp_k P t = 4 by omega) with h | h
  · exact sp_printExtra_3 hP hW ht h
  · rcases (show xp_e P t = 0 ∨ xp_e P t = 1 ∨ xp_e P t = 2 ∨ xp_e P t = 3 by have := h44 h; omega) with e | e | e | e
    · exact sp_printExtra_40 hP hW ht h e
    · exact sp_printExtra_41 hP hW ht h e
    · exact sp_printExtra_42 hP hW ht h e
    · exact sp_printExtra_43 hP hW ht h e
set_option maxRecDepth 20000 in
theorem sp_Js_printName {g : aw_G} {S : aw_S} {O : List Int32} {P : xp_T} (hP : xp_C S P) (hW : xp_wd P) {v : Nat} (hv : v < xp_v P) : Sp g M_Js_printName 2 45 0 0 [.ref 29, .ref 14, .int (nI v)] (HP (WS S O)) (fun r h => r = none ∧ h = HP (WS S (O ++ w_jn P v))) := by
  refine Sp.of rfl (aw_le rfl) ?_
  refine aw_aload_n (aw_d q_Js_printName 0 rfl) rfl rfl rfl ?_
  refine aw_getf (aw_d q_Js_printName 1 rfl) fL_Js_15_Js rfl rfl ?_
  refine aw_bipush (v := nI 34) (aw_d q_Js_printName 2 rfl) (by decide) ?_
  refine cVv (aw_d q_Js_printName 3 rfl) (sp_add5) vL_Js_35_By rfl rfl rfl rfl rfl rfl ⟨aw_le rfl, aw_le rfl⟩ ?_
  refine aw_aload_n (aw_d q_Js_printName 4 rfl) rfl rfl rfl ?_
  refine aw_iload_n (aw_d q_Js_printName 5 rfl) rfl rfl ?_
  refine aw_aload_n (aw_d q_Js_printName 6 rfl) rfl rfl rfl ?_
  refine aw_getf (aw_d q_Js_printName 7 rfl) fL_Js_15_Js rfl rfl ?_
  refine cVv (aw_d q_Js_printName 8 rfl) (sp_printName hP hW hv) vL_Js_61_Tb rfl rfl rfl rfl rfl rfl ⟨aw_le rfl, aw_le rfl⟩ ?_
  refine aw_aload_n (aw_d q_Js_printName 9 rfl) rfl rfl rfl ?_
  refine aw_getf (aw_d q_Js_printName 10 rfl) fL_Js_15_Js rfl rfl ?_
  refine aw_bipush (v := nI 34) (aw_d q_Js_printName 11 rfl) (by decide) ?_
  refine cVv (aw_d q_Js_printName 12 rfl) (sp_add5) vL_Js_35_By rfl rfl rfl rfl rfl rfl ⟨aw_le rfl, aw_le rfl⟩ ?_
  exact aw_vret (aw_d q_Js_printName 13 rfl) rfl (⟨rfl, by simp [w_jn]⟩)
set_option maxRecDepth 20000 in
theorem sp_Js_printTerm_0 {g : aw_G} {S : aw_S} {O : List Int32} {P : xp_T} (hP : xp_C S P) (hW : xp_wd P) {t : Nat} (ht : t < xp_t P) (hk : xp_k P t = 0) : Sp g M_Js_printTerm 6 131 0 0 [.ref 29, .int (nI t)] (HP (WS S O)) (fun r h => r = none ∧ h = HP (WS S (O ++ w_jt P t))) := by
  refine Sp.of rfl (aw_le rfl) ?_
  refine aw_aload_n (aw_d q_Js_printTerm 0 rfl) rfl rfl rfl ?_
  refine aw_getf (aw_d q_Js_printTerm 1 rfl) fL_Js_19_Js rfl rfl ?_
  refine aw_iload_n (aw_d q_Js_printTerm 2 rfl) rfl rfl ?_
  refine cVr (aw_d q_Js_printTerm 3 rfl) (sp_kind hP hW ht hk) vL_Js_71_Te rfl rfl rfl rfl rfl rfl ⟨aw_le rfl, aw_le rfl⟩ ?_
  refine aw_istore_n (aw_d q_Js_printTerm 4 rfl) rfl (aw_le rfl) rfl ?_
  refine aw_aload_n (aw_d q_Js_printTerm 5 rfl) rfl rfl rfl ?_
  refine aw_getf (aw_d q_Js_printTerm 6 rfl) fL_Js_15_Js rfl rfl ?_
  refine aw_ldcS (aw_d q_Js_printTerm 7 rfl) tL_Js_77 ?_
  refine cVv (aw_d q_Js_printTerm 8 rfl) (sp_addAll (by decide)) vL_Js_25_By rfl rfl rfl rfl rfl rfl ⟨aw_le rfl, aw_le rfl⟩ ?_
  refine aw_aload_n (aw_d q_Js_printTerm 9 rfl) rfl rfl rfl ?_
  refine aw_getf (aw_d q_Js_printTerm 10 rfl) fL_Js_15_Js rfl rfl ?_
  refine aw_iload_n (aw_d q_Js_printTerm 11 rfl) rfl rfl ?_
  refine aw_ifN_ne (tgt := 31) (aw_d q_Js_printTerm 12 rfl) (by decide) (by (have hz := (hW.2.2.2 t ht).2; have hz1 := hW.1; omega)) (fun c23 => by exfalso; (have hz := (hW.2.2.2 t ht).2; have hz1 := hW.1; omega)) (fun c23 => ?_)
  refine aw_ldcS (aw_d q_Js_printTerm 13 rfl) tL_Js_79 ?_
  refine aw_goto (tgt := 43) (aw_d q_Js_printTerm 14 rfl) (by decide) ?_
  refine cVv (aw_d q_Js_printTerm 21 rfl) (sp_addAll (by decide)) vL_Js_25_By rfl rfl rfl rfl rfl rfl ⟨aw_le rfl, aw_le rfl⟩ ?_
  refine aw_aload_n (aw_d q_Js_printTerm 22 rfl) rfl rfl rfl ?_
  refine aw_getf (aw_d q_Js_printTerm 23 rfl) fL_Js_15_Js rfl rfl ?_
  refine aw_ldcS (aw_d q_Js_printTerm 24 rfl) tL_Js_85 ?_
  refine cVv (aw_d q_Js_printTerm 25 rfl) (sp_addAll (by decide)) vL_Js_25_By rfl rfl rfl rfl rfl rfl ⟨aw_le rfl, aw_le rfl⟩ ?_
  refine aw_aload_n (aw_d q_Js_printTerm 26 rfl) rfl rfl rfl ?_
  refine aw_getf (aw_d q_Js_printTerm 27 rfl) fL_Js_19_Js rfl rfl ?_
  refine aw_iload_n (aw_d q_Js_printTerm 28 rfl) rfl rfl ?_
  refine aw_aload_n (aw_d q_Js_printTerm 29 rfl) rfl rfl rfl ?_
  refine aw_getf (aw_d q_Js_printTerm 30 rfl) fL_Js_15_Js rfl rfl ?_
  refine cVv (aw_d q_Js_printTerm 31 rfl) (sp_printBack hP hW ht) vL_Js_87_Te rfl rfl rfl rfl rfl rfl ⟨aw_le rfl, aw_le rfl⟩ ?_
  refine aw_iload_n (aw_d q_Js_printTerm 32 rfl) rfl rfl ?_
  refine aw_iconst (v := nI 3) (aw_d q_Js_printTerm 33 rfl) (by decide) ?_
  refine aw_icmpN_ne (tgt := 81) (aw_d q_Js_printTerm 34 rfl) (by decide) (by (have hz := (hW.2.2.2 t ht).2; have hz1 := hW.1; omega)) (by (have hz := (hW.2.2.2 t ht).2; have hz1 := hW.1; omega)) (fun c69 => ?_) (fun c69 => by exfalso; (have hz := (hW.2.2.2 t ht).2; have hz1 := hW.1; omega))
  refine aw_iload_n (aw_d q_Js_printTerm 39 rfl) rfl rfl ?_
  refine aw_iconst (v := nI 4) (aw_d q_Js_printTerm 40 rfl) (by decide) ?_
  refine aw_icmpN_ne (tgt := 95) (aw_d q_Js_printTerm 41 rfl) (by decide) (by (have hz := (hW.2.2.2 t ht).2; have hz1 := hW.1; omega)) (by (have hz := (hW.2.2.2 t ht).2; have hz1 := hW.1; omega)) (fun c83 => ?_) (fun c83 => by exfalso; (have hz := (hW.2.2.2 t ht).2; have hz1 := hW.1; omega))
  refine aw_iload_n (aw_d q_Js_printTerm 46 rfl) rfl rfl ?_
  refine aw_iconst (v := nI 3) (aw_d q_Js_printTerm 47 rfl) (by decide) ?_
  refine aw_icmpN_eq (tgt := 105) (aw_d q_Js_printTerm 48 rfl) (by decide) (by (have hz := (hW.2.2.2 t ht).2; have hz1 := hW.1; omega)) (by (have hz := (hW.2.2.2 t ht).2; have hz1 := hW.1; omega)) (fun c97 => by exfalso; (have hz := (hW.2.2.2 t ht).2; have hz1 := hW.1; omega)) (fun c97 => ?_)
  refine aw_iload_n (aw_d q_Js_printTerm 49 rfl) rfl rfl ?_
  refine aw_iconst (v := nI 4) (aw_d q_Js_printTerm 50 rfl) (by decide) ?_
  refine aw_icmpN_ne (tgt := 117) (aw_d q_Js_printTerm 51 rfl) (by decide) (by (have hz := (hW.2.2.2 t ht).2; have hz1 := hW.1; omega)) (by (have hz := (hW.2.2.2 t ht).2; have hz1 := hW.1; omega)) (fun c102 => ?_) (fun c102 => by exfalso; (have hz := (hW.2.2.2 t ht).2; have hz1 := hW.1; omega))
  refine aw_aload_n (aw_d q_Js_printTerm 58 rfl) rfl rfl rfl ?_
  refine aw_getf (aw_d q_Js_printTerm 59 rfl) fL_Js_15_Js rfl rfl ?_
  refine aw_ldcS (aw_d q_Js_printTerm 60 rfl) tL_Js_97 ?_
  refine cVv (aw_d q_Js_printTerm 61 rfl) (sp_addAll (by decide)) vL_Js_25_By rfl rfl rfl rfl rfl rfl ⟨aw_le rfl, aw_le rfl⟩ ?_
  exact aw_vret (aw_d q_Js_printTerm 62 rfl) rfl (⟨rfl, by simp [w_jt, hk]⟩)
set_option maxRecDepth 20000 in
theorem sp_Js_printTerm_1 {g : aw_G} {S : aw_S} {O : List Int32} {P : xp_T} (hP : xp_C S P) (hW : xp_wd P) {t : Nat} (ht : t < xp_t P) (hk : xp_k P t = 1) : Sp g M_Js_printTerm 6 131 0 0 [.ref 29, .int (nI t)] (HP (WS S O)) (fun r h => r = none ∧ h = HP (WS S (O ++ w_jt P t))) := by
  refine Sp.of rfl (aw_le rfl) ?_
  refine aw_aload_n (aw_d q_Js_printTerm 0 rfl) rfl rfl rfl ?_
  refine aw_getf (aw_d q_Js_printTerm 1 rfl) fL_Js_19_Js rfl rfl ?_
  refine aw_iload_n (aw_d q_Js_printTerm 2 rfl) rfl rfl ?_
  refine cVr (aw_d q_Js_printTerm 3 rfl) (sp_kind hP hW ht hk) vL_Js_71_Te rfl rfl rfl rfl rfl rfl ⟨aw_le rfl, aw_le rfl⟩ ?_
  refine aw_istore_n (aw_d q_Js_printTerm 4 rfl) rfl (aw_le rfl) rfl ?_
  refine aw_aload_n (aw_d q_Js_printTerm 5 rfl) rfl rfl rfl ?_
  refine aw_getf (aw_d q_Js_printTerm 6 rfl) fL_Js_15_Js rfl rfl ?_
  refine aw_ldcS (aw_d q_Js_printTerm 7 rfl) tL_Js_77 ?_
  refine cVv (aw_d q_Js_printTerm 8 rfl) (sp_addAll (by decide)) vL_Js_25_By rfl rfl rfl rfl rfl rfl ⟨aw_le rfl, aw_le rfl⟩ ?_
  refine aw_aload_n (aw_d q_Js_printTerm 9 rfl) rfl rfl rfl ?_
  refine aw_getf (aw_d q_Js_printTerm 10 rfl) fL_Js_15_Js rfl rfl ?_
  refine aw_iload_n (aw_d q_Js_printTerm 11 rfl) rfl rfl ?_
  refine aw_ifN_ne (tgt := 31) (aw_d q_Js_printTerm 12 rfl) (by decide) (by (have hz := (hW.2.2.2 t ht).2; have hz1 := hW.1; omega)) (fun c23 => ?_) (fun c23 => by exfalso; (have hz := (hW.2.2.2 t ht).2; have hz1 := hW.1; omega))
  refine aw_iload_n (aw_d q_Js_printTerm 15 rfl) rfl rfl ?_
  refine aw_iconst (v := nI 1) (aw_d q_Js_printTerm 16 rfl) (by decide) ?_
  refine aw_icmpN_ne (tgt := 41) (aw_d q_Js_printTerm 17 rfl) (by decide) (by (have hz := (hW.2.2.2 t ht).2; have hz1 := hW.1; omega)) (by (have hz := (hW.2.2.2 t ht).2; have hz1 := hW.1; omega)) (fun c33 => by exfalso; (have hz := (hW.2.2.2 t ht).2; have hz1 := hW.1; omega)) (fun c33 => ?_)
  refine aw_ldcS (aw_d q_Js_printTerm 18 rfl) tL_Js_81 ?_
  refine aw_goto (tgt := 43) (aw_d q_Js_printTerm 19 rfl) (by decide) ?_
  refine cVv (aw_d q_Js_printTerm 21 rfl) (sp_addAll (by decide)) vL_Js_25_By rfl rfl rfl rfl rfl rfl ⟨aw_le rfl, aw_le rfl⟩ ?_
  refine aw_aload_n (aw_d q_Js_printTerm 22 rfl) rfl rfl rfl ?_
  refine aw_getf (aw_d q_Js_printTerm 23 rfl) fL_Js_15_Js rfl rfl ?_
  refine aw_ldcS (aw_d q_Js_printTerm 24 rfl) tL_Js_85 ?_
  refine cVv (aw_d q_Js_printTerm 25 rfl) (sp_addAll (by decide)) vL_Js_25_By rfl rfl rfl rfl rfl rfl ⟨aw_le rfl, aw_le rfl⟩ ?_
  refine aw_aload_n (aw_d q_Js_printTerm 26 rfl) rfl rfl rfl ?_
  refine aw_getf (aw_d q_Js_printTerm 27 rfl) fL_Js_19_Js rfl rfl ?_
  refine aw_iload_n (aw_d q_Js_printTerm 28 rfl) rfl rfl ?_
  refine aw_aload_n (aw_d q_Js_printTerm 29 rfl) rfl rfl rfl ?_
  refine aw_getf (aw_d q_Js_printTerm 30 rfl) fL_Js_15_Js rfl rfl ?_
  refine cVv (aw_d q_Js_printTerm 31 rfl) (sp_printBack hP hW ht) vL_Js_87_Te rfl rfl rfl rfl rfl rfl ⟨aw_le rfl, aw_le rfl⟩ ?_
  refine aw_iload_n (aw_d q_Js_printTerm 32 rfl) rfl rfl ?_
  refine aw_iconst (v := nI 3) (aw_d q_Js_printTerm 33 rfl) (by decide) ?_
  refine aw_icmpN_ne (tgt := 81) (aw_d q_Js_printTerm 34 rfl) (by decide) (by (have hz := (hW.2.2.2 t ht).2; have hz1 := hW.1; omega)) (by (have hz := (hW.2.2.2 t ht).2; have hz1 := hW.1; omega)) (fun c69 => ?_) (fun c69 => by exfalso; (have hz := (hW.2.2.2 t ht).2; have hz1 := hW.1; omega))
  refine aw_iload_n (aw_d q_Js_printTerm 39 rfl) rfl rfl ?_
  refine aw_iconst (v := nI 4) (aw_d q_Js_printTerm 40 rfl) (by decide) ?_
  refine aw_icmpN_ne (tgt := 95) (aw_d q_Js_printTerm 41 rfl) (by decide) (by (have hz := (hW.2.2.2 t ht).2; have hz1 := hW.1; omega)) (by (have hz := (hW.2.2.2 t ht).2; have hz1 := hW.1; omega)) (fun c83 => ?_) (fun c83 => by exfalso; (have hz := (hW.2.2.2 t ht).2; have hz1 := hW.1; omega))
  refine aw_iload_n (aw_d q_Js_printTerm 46 rfl) rfl rfl ?_
  refine aw_iconst (v := nI 3) (aw_d q_Js_printTerm 47 rfl) (by decide) ?_
  refine aw_icmpN_eq (tgt := 105) (aw_d q_Js_printTerm 48 rfl) (by decide) (by (have hz := (hW.2.2.2 t ht).2; have hz1 := hW.1; omega)) (by (have hz := (hW.2.2.2 t ht).2; have hz1 := hW.1; omega)) (fun c97 => by exfalso; (have hz := (hW.2.2.2 t ht).2; have hz1 := hW.1; omega)) (fun c97 => ?_)
  refine aw_iload_n (aw_d q_Js_printTerm 49 rfl) rfl rfl ?_
  refine aw_iconst (v := nI 4) (aw_d q_Js_printTerm 50 rfl) (by decide) ?_
  refine aw_icmpN_ne (tgt := 117) (aw_d q_Js_printTerm 51 rfl) (by decide) (by (have hz := (hW.2.2.2 t ht).2; have hz1 := hW.1; omega)) (by (have hz := (hW.2.2.2 t ht).2; have hz1 := hW.1; omega)) (fun c102 => ?_) (fun c102 => by exfalso; (have hz := (hW.2.2.2 t ht).2; have hz1 := hW.1; omega))
  refine aw_aload_n (aw_d q_Js_printTerm 58 rfl) rfl rfl rfl ?_
  refine aw_getf (aw_d q_Js_printTerm 59 rfl) fL_Js_15_Js rfl rfl ?_
  refine aw_ldcS (aw_d q_Js_printTerm 60 rfl) tL_Js_97 ?_
  refine cVv (aw_d q_Js_printTerm 61 rfl) (sp_addAll (by decide)) vL_Js_25_By rfl rfl rfl rfl rfl rfl ⟨aw_le rfl, aw_le rfl⟩ ?_
  exact aw_vret (aw_d q_Js_printTerm 62 rfl) rfl (⟨rfl, by simp [w_jt, hk]⟩)
set_option maxRecDepth 20000 in
theorem sp_Js_printTerm_2 {g : aw_G} {S : aw_S} {O : List Int32} {P : xp_T} (hP : xp_C S P) (hW : xp_wd P) {t : Nat} (ht : t < xp_t P) (hk : xp_k P t = 2) : Sp g M_Js_printTerm 6 131 0 0 [.ref 29, .int (nI t)] (HP (WS S O)) (fun r h => r = none ∧ h = HP (WS S (O ++ w_jt P t))) := by
  refine Sp.of rfl (aw_le rfl) ?_
  refine aw_aload_n (aw_d q_Js_printTerm 0 rfl) rfl rfl rfl ?_
  refine aw_getf (aw_d q_Js_printTerm 1 rfl) fL_Js_19_Js rfl rfl ?_
  refine aw_iload_n (aw_d q_Js_printTerm 2 rfl) rfl rfl ?_
  refine cVr (aw_d q_Js_printTerm 3 rfl) (sp_kind hP hW ht hk) vL_Js_71_Te rfl rfl rfl rfl rfl rfl ⟨aw_le rfl, aw_le rfl⟩ ?_
  refine aw_istore_n (aw_d q_Js_printTerm 4 rfl) rfl (aw_le rfl) rfl ?_
  refine aw_aload_n (aw_d q_Js_printTerm 5 rfl) rfl rfl rfl ?_
  refine aw_getf (aw_d q_Js_printTerm 6 rfl) fL_Js_15_Js rfl rfl ?_
  refine aw_ldcS (aw_d q_Js_printTerm 7 rfl) tL_Js_77 ?_
  refine cVv (aw_d q_Js_printTerm 8 rfl) (sp_addAll (by decide)) vL_Js_25_By rfl rfl rfl rfl rfl rfl ⟨aw_le rfl, aw_le rfl⟩ ?_
  refine aw_aload_n (aw_d q_Js_printTerm 9 rfl) rfl rfl rfl ?_
  refine aw_getf (aw_d q_Js_printTerm 10 rfl) fL_Js_15_Js rfl rfl ?_
  refine aw_iload_n (aw_d q_Js_printTerm 11 rfl) rfl rfl ?_
  refine aw_ifN_ne (tgt := 31) (aw_d q_Js_printTerm 12 rfl) (by decide) (by (have hz := (hW.2.2.2 t ht).2; have hz1 := hW.1; omega)) (fun c23 => ?_) (fun c23 => by exfalso; (have hz := (hW.2.2.2 t ht).2; have hz1 := hW.1; omega))
  refine aw_iload_n (aw_d q_Js_printTerm 15 rfl) rfl rfl ?_
  refine aw_iconst (v := nI 1) (aw_d q_Js_printTerm 16 rfl) (by decide) ?_
  refine aw_icmpN_ne (tgt := 41) (aw_d q_Js_printTerm 17 rfl) (by decide) (by (have hz := (hW.2.2.2 t ht).2; have hz1 := hW.1; omega)) (by (have hz := (hW.2.2.2 t ht).2; have hz1 := hW.1; omega)) (fun c33 => ?_) (fun c33 => by exfalso; (have hz := (hW.2.2.2 t ht).2; have hz1 := hW.1; omega))
  refine aw_ldcS (aw_d q_Js_printTerm 20 rfl) tL_Js_83 ?_
  refine cVv (aw_d q_Js_printTerm 21 rfl) (sp_addAll (by decide)) vL_Js_25_By rfl rfl rfl rfl rfl rfl ⟨aw_le rfl, aw_le rfl⟩ ?_
  refine aw_aload_n (aw_d q_Js_printTerm 22 rfl) rfl rfl rfl ?_
  refine aw_getf (aw_d q_Js_printTerm 23 rfl) fL_Js_15_Js rfl rfl ?_
  refine aw_ldcS (aw_d q_Js_printTerm 24 rfl) tL_Js_85 ?_
  refine cVv (aw_d q_Js_printTerm 25 rfl) (sp_addAll (by decide)) vL_Js_25_By rfl rfl rfl rfl rfl rfl ⟨aw_le rfl, aw_le rfl⟩ ?_
  refine aw_aload_n (aw_d q_Js_printTerm 26 rfl) rfl rfl rfl ?_
  refine aw_getf (aw_d q_Js_printTerm 27 rfl) fL_Js_19_Js rfl rfl ?_
  refine aw_iload_n (aw_d q_Js_printTerm 28 rfl) rfl rfl ?_
  refine aw_aload_n (aw_d q_Js_printTerm 29 rfl) rfl rfl rfl ?_
  refine aw_getf (aw_d q_Js_printTerm 30 rfl) fL_Js_15_Js rfl rfl ?_
  refine cVv (aw_d q_Js_printTerm 31 rfl) (sp_printBack hP hW ht) vL_Js_87_Te rfl rfl rfl rfl rfl rfl ⟨aw_le rfl, aw_le rfl⟩ ?_
  refine aw_iload_n (aw_d q_Js_printTerm 32 rfl) rfl rfl ?_
  refine aw_iconst (v := nI 3) (aw_d q_Js_printTerm 33 rfl) (by decide) ?_
  refine aw_icmpN_ne (tgt := 81) (aw_d q_Js_printTerm 34 rfl) (by decide) (by (have hz := (hW.2.2.2 t ht).2; have hz1 := hW.1; omega)) (by (have hz := (hW.2.2.2 t ht).2; have hz1 := hW.1; omega)) (fun c69 => ?_) (fun c69 => by exfalso; (have hz := (hW.2.2.2 t ht).2; have hz1 := hW.1; omega))
  refine aw_iload_n (aw_d q_Js_printTerm 39 rfl) rfl rfl ?_
  refine aw_iconst (v := nI 4) (aw_d q_Js_printTerm 40 rfl) (by decide) ?_
  refine aw_icmpN_ne (tgt := 95) (aw_d q_Js_printTerm 41 rfl) (by decide) (by (have hz := (hW.2.2.2 t ht).2; have hz1 := hW.1; omega)) (by (have hz := (hW.2.2.2 t ht).2; have hz1 := hW.1; omega)) (fun c83 => ?_) (fun c83 => by exfalso; (have hz := (hW.2.2.2 t ht).2; have hz1 := hW.1; omega))
  refine aw_iload_n (aw_d q_Js_printTerm 46 rfl) rfl rfl ?_
  refine aw_iconst (v := nI 3) (aw_d q_Js_printTerm 47 rfl) (by decide) ?_
  refine aw_icmpN_eq (tgt := 105) (aw_d q_Js_printTerm 48 rfl) (by decide) (by (have hz := (hW.2.2.2 t ht).2; have hz1 := hW.1; omega)) (by (have hz := (hW.2.2.2 t ht).2; have hz1 := hW.1; omega)) (fun c97 => by exfalso; (have hz := (hW.2.2.2 t ht).2; have hz1 := hW.1; omega)) (fun c97 => ?_)
  refine aw_iload_n (aw_d q_Js_printTerm 49 rfl) rfl rfl ?_
  refine aw_iconst (v := nI 4) (aw_d q_Js_printTerm 50 rfl) (by decide) ?_
  refine aw_icmpN_ne (tgt := 117) (aw_d q_Js_printTerm 51 rfl) (by decide) (by (have hz := (hW.2.2.2 t ht).2; have hz1 := hW.1; omega)) (by (have hz := (hW.2.2.2 t ht).2; have hz1 := hW.1; omega)) (fun c102 => ?_) (fun c102 => by exfalso; (have hz := (hW.2.2.2 t ht).2; have hz1 := hW.1; omega))
  refine aw_aload_n (aw_d q_Js_printTerm 58 rfl) rfl rfl rfl ?_
  refine aw_getf (aw_d q_Js_printTerm 59 rfl) fL_Js_15_Js rfl rfl ?_
  refine aw_ldcS (aw_d q_Js_printTerm 60 rfl) tL_Js_97 ?_
  refine cVv (aw_d q_Js_printTerm 61 rfl) (sp_addAll (by decide)) vL_Js_25_By rfl rfl rfl rfl rfl rfl ⟨aw_le rfl, aw_le rfl⟩ ?_
  exact aw_vret (aw_d q_Js_printTerm 62 rfl) rfl (⟨rfl, by simp [w_jt, hk]⟩)
set_option maxRecDepth 20000 in
theorem sp_Js_printTerm_3 {g : aw_G} {S : aw_S} {O : List Int32} {P : xp_T} (hP : xp_C S P) (hW : xp_wd P) {t : Nat} (ht : t < xp_t P) (hk : xp_k P t = 3) : Sp g M_Js_printTerm 6 131 0 0 [.ref 29, .int (nI t)] (HP (WS S O)) (fun r h => r = none ∧ h = HP (WS S (O ++ w_jt P t))) := by
  refine Sp.of rfl (aw_le rfl) ?_
  refine aw_aload_n (aw_d q_Js_printTerm 0 rfl) rfl rfl rfl ?_
  refine aw_getf (aw_d q_Js_printTerm 1 rfl) fL_Js_19_Js rfl rfl ?_
  refine aw_iload_n (aw_d q_Js_printTerm 2 rfl) rfl rfl ?_
  refine cVr (aw_d q_Js_printTerm 3 rfl) (sp_kind hP hW ht hk) vL_Js_71_Te rfl rfl rfl rfl rfl rfl ⟨aw_le rfl, aw_le rfl⟩ ?_
  refine aw_istore_n (aw_d q_Js_printTerm 4 rfl) rfl (aw_le rfl) rfl ?_
  refine aw_aload_n (aw_d q_Js_printTerm 5 rfl) rfl rfl rfl ?_
  refine aw_getf (aw_d q_Js_printTerm 6 rfl) fL_Js_15_Js rfl rfl ?_
  refine aw_ldcS (aw_d q_Js_printTerm 7 rfl) tL_Js_77 ?_
  refine cVv (aw_d q_Js_printTerm 8 rfl) (sp_addAll (by decide)) vL_Js_25_By rfl rfl rfl rfl rfl rfl ⟨aw_le rfl, aw_le rfl⟩ ?_
  refine aw_aload_n (aw_d q_Js_printTerm 9 rfl) rfl rfl rfl ?_
  refine aw_getf (aw_d q_Js_printTerm 10 rfl) fL_Js_15_Js rfl rfl ?_
  refine aw_iload_n (aw_d q_Js_printTerm 11 rfl) rfl rfl ?_
  refine aw_ifN_ne (tgt := 31) (aw_d q_Js_printTerm 12 rfl) (by decide) (by (have hz := (hW.2.2.2 t ht).2; have hz1 := hW.1; omega)) (fun c23 => ?_) (fun c23 => by exfalso; (have hz := (hW.2.2.2 t ht).2; have hz1 := hW.1; omega))
  refine aw_iload_n (aw_d q_Js_printTerm 15 rfl) rfl rfl ?_
  refine aw_iconst (v := nI 1) (aw_d q_Js_printTerm 16 rfl) (by decide) ?_
  refine aw_icmpN_ne (tgt := 41) (aw_d q_Js_printTerm 17 rfl) (by decide) (by (have hz := (hW.2.2.2 t ht).2; have hz1 := hW.1; omega)) (by (have hz := (hW.2.2.2 t ht).2; have hz1 := hW.1; omega)) (fun c33 => ?_) (fun c33 => by exfalso; (have hz := (hW.2.2.2 t ht).2; have hz1 := hW.1; omega))
  refine aw_ldcS (aw_d q_Js_printTerm 20 rfl) tL_Js_83 ?_
  refine cVv (aw_d q_Js_printTerm 21 rfl) (sp_addAll (by decide)) vL_Js_25_By rfl rfl rfl rfl rfl rfl ⟨aw_le rfl, aw_le rfl⟩ ?_
  refine aw_aload_n (aw_d q_Js_printTerm 22 rfl) rfl rfl rfl ?_
  refine aw_getf (aw_d q_Js_printTerm 23 rfl) fL_Js_15_Js rfl rfl ?_
  refine aw_ldcS (aw_d q_Js_printTerm 24 rfl) tL_Js_85 ?_
  refine cVv (aw_d q_Js_printTerm 25 rfl) (sp_addAll (by decide)) vL_Js_25_By rfl rfl rfl rfl rfl rfl ⟨aw_le rfl, aw_le rfl⟩ ?_
  refine aw_aload_n (aw_d q_Js_printTerm 26 rfl) rfl rfl rfl ?_
  refine aw_getf (aw_d q_Js_printTerm 27 rfl) fL_Js_19_Js rfl rfl ?_
  refine aw_iload_n (aw_d q_Js_printTerm 28 rfl) rfl rfl ?_
  refine aw_aload_n (aw_d q_Js_printTerm 29 rfl) rfl rfl rfl ?_
  refine aw_getf (aw_d q_Js_printTerm 30 rfl) fL_Js_15_Js rfl rfl ?_
  refine cVv (aw_d q_Js_printTerm 31 rfl) (sp_printBack hP hW ht) vL_Js_87_Te rfl rfl rfl rfl rfl rfl ⟨aw_le rfl, aw_le rfl⟩ ?_
  refine aw_iload_n (aw_d q_Js_printTerm 32 rfl) rfl rfl ?_
  refine aw_iconst (v := nI 3) (aw_d q_Js_printTerm 33 rfl) (by decide) ?_
  refine aw_icmpN_ne (tgt := 81) (aw_d q_Js_printTerm 34 rfl) (by decide) (by (have hz := (hW.2.2.2 t ht).2; have hz1 := hW.1; omega)) (by (have hz := (hW.2.2.2 t ht).2; have hz1 := hW.1; omega)) (fun c69 => by exfalso; (have hz := (hW.2.2.2 t ht).2; have hz1 := hW.1; omega)) (fun c69 => ?_)
  refine aw_aload_n (aw_d q_Js_printTerm 35 rfl) rfl rfl rfl ?_
  refine aw_getf (aw_d q_Js_printTerm 36 rfl) fL_Js_15_Js rfl rfl ?_
  refine aw_ldcS (aw_d q_Js_printTerm 37 rfl) tL_Js_90 ?_
  refine cVv (aw_d q_Js_printTerm 38 rfl) (sp_addAll (by decide)) vL_Js_25_By rfl rfl rfl rfl rfl rfl ⟨aw_le rfl, aw_le rfl⟩ ?_
  refine aw_iload_n (aw_d q_Js_printTerm 39 rfl) rfl rfl ?_
  refine aw_iconst (v := nI 4) (aw_d q_Js_printTerm 40 rfl) (by decide) ?_
  refine aw_icmpN_ne (tgt := 95) (aw_d q_Js_printTerm 41 rfl) (by decide) (by (have hz := (hW.2.2.2 t ht).2; have hz1 := hW.1; omega)) (by (have hz := (hW.2.2.2 t ht).2; have hz1 := hW.1; omega)) (fun c83 => ?_) (fun c83 => by exfalso; (have hz := (hW.2.2.2 t ht).2; have hz1 := hW.1; omega))
  refine aw_iload_n (aw_d q_Js_printTerm 46 rfl) rfl rfl ?_
  refine aw_iconst (v := nI 3) (aw_d q_Js_printTerm 47 rfl) (by decide) ?_
  refine aw_icmpN_eq (tgt := 105) (aw_d q_Js_printTerm 48 rfl) (by decide) (by (have hz := (hW.2.2.2 t ht).2; have hz1 := hW.1; omega)) (by (have hz := (hW.2.2.2 t ht).2; have hz1 := hW.1; omega)) (fun c97 => ?_) (fun c97 => by exfalso; (have hz := (hW.2.2.2 t ht).2; have hz1 := hW.1; omega))
  refine aw_aload_n (aw_d q_Js_printTerm 52 rfl) rfl rfl rfl ?_
  refine aw_getf (aw_d q_Js_printTerm 53 rfl) fL_Js_19_Js rfl rfl ?_
  refine aw_iload_n (aw_d q_Js_printTerm 54 rfl) rfl rfl ?_
  refine aw_aload_n (aw_d q_Js_printTerm 55 rfl) rfl rfl rfl ?_
  refine aw_getf (aw_d q_Js_printTerm 56 rfl) fL_Js_15_Js rfl rfl ?_
  refine cVv (aw_d q_Js_printTerm 57 rfl) (sp_printExtra hP hW ht (by omega)) vL_Js_94_Te rfl rfl rfl rfl rfl rfl ⟨aw_le rfl, aw_le rfl⟩ ?_
  refine aw_aload_n (aw_d q_Js_printTerm 58 rfl) rfl rfl rfl ?_
  refine aw_getf (aw_d q_Js_printTerm 59 rfl) fL_Js_15_Js rfl rfl ?_
  refine aw_ldcS (aw_d q_Js_printTerm 60 rfl) tL_Js_97 ?_
  refine cVv (aw_d q_Js_printTerm 61 rfl) (sp_addAll (by decide)) vL_Js_25_By rfl rfl rfl rfl rfl rfl ⟨aw_le rfl, aw_le rfl⟩ ?_
  exact aw_vret (aw_d q_Js_printTerm 62 rfl) rfl (⟨rfl, by simp [w_jt, hk]⟩)
set_option maxRecDepth 20000 in
theorem sp_Js_printTerm_4 {g : aw_G} {S : aw_S} {O : List Int32} {P : xp_T} (hP : xp_C S P) (hW : xp_wd P) {t : Nat} (ht : t < xp_t P) (hk : xp_k P t = 4) : Sp g M_Js_printTerm 6 131 0 0 [.ref 29, .int (nI t)] (HP (WS S O)) (fun r h => r = none ∧ h = HP (WS S (O ++ w_jt P t))) := by
  refine Sp.of rfl (aw_le rfl) ?_
  refine aw_aload_n (aw_d q_Js_printTerm 0 rfl) rfl rfl rfl ?_
  refine aw_getf (aw_d q_Js_printTerm 1 rfl) fL_Js_19_Js rfl rfl ?_
  refine aw_iload_n (aw_d q_Js_printTerm 2 rfl) rfl rfl ?_
  refine cVr (aw_d q_Js_printTerm 3 rfl) (sp_kind hP hW ht hk) vL_Js_71_Te rfl rfl rfl rfl rfl rfl ⟨aw_le rfl, aw_le rfl⟩ ?_
  refine aw_istore_n (aw_d q_Js_printTerm 4 rfl) rfl (aw_le rfl) rfl ?_
  refine aw_aload_n (aw_d q_Js_printTerm 5 rfl) rfl rfl rfl ?_
  refine aw_getf (aw_d q_Js_printTerm 6 rfl) fL_Js_15_Js rfl rfl ?_
  refine aw_ldcS (aw_d q_Js_printTerm 7 rfl) tL_Js_77 ?_
  refine cVv (aw_d q_Js_printTerm 8 rfl) (sp_addAll (by decide)) vL_Js_25_By rfl rfl rfl rfl rfl rfl ⟨aw_le rfl, aw_le rfl⟩ ?_
  refine aw_aload_n (aw_d q_Js_printTerm 9 rfl) rfl rfl rfl ?_
  refine aw_getf (aw_d q_Js_printTerm 10 rfl) fL_Js_15_Js rfl rfl ?_
  refine aw_iload_n (aw_d q_Js_printTerm 11 rfl) rfl rfl ?_
  refine aw_ifN_ne (tgt := 31) (aw_d q_Js_printTerm 12 rfl) (by decide) (by (have hz := (hW.2.2.2 t ht).2; have hz1 := hW.1; omega)) (fun c23 => ?_) (fun c23 => by exfalso; (have hz := (hW.2.2.2 t ht).2; have hz1 := hW.1; omega))
  refine aw_iload_n (aw_d q_Js_printTerm 15 rfl) rfl rfl ?_
  refine aw_iconst (v := nI 1) (aw_d q_Js_printTerm 16 rfl) (by decide) ?_
  refine aw_icmpN_ne (tgt := 41) (aw_d q_Js_printTerm 17 rfl) (by decide) (by (have hz := (hW.2.2.2 t ht).2; have hz1 := hW.1; omega)) (by (have hz := (hW.2.2.2 t ht).2; have hz1 := hW.1; omega)) (fun c33 => ?_) (fun c33 => by exfalso; (have hz := (hW.2.2.2 t ht).2; have hz1 := hW.1; omega))
  refine aw_ldcS (aw_d q_Js_printTerm 20 rfl) tL_Js_83 ?_
  refine cVv (aw_d q_Js_printTerm 21 rfl) (sp_addAll (by decide)) vL_Js_25_By rfl rfl rfl rfl rfl rfl ⟨aw_le rfl, aw_le rfl⟩ ?_
  refine aw_aload_n (aw_d q_Js_printTerm 22 rfl) rfl rfl rfl ?_
  refine aw_getf (aw_d q_Js_printTerm 23 rfl) fL_Js_15_Js rfl rfl ?_
  refine aw_ldcS (aw_d q_Js_printTerm 24 rfl) tL_Js_85 ?_
  refine cVv (aw_d q_Js_printTerm 25 rfl) (sp_addAll (by decide)) vL_Js_25_By rfl rfl rfl rfl rfl rfl ⟨aw_le rfl, aw_le rfl⟩ ?_
  refine aw_aload_n (aw_d q_Js_printTerm 26 rfl) rfl rfl rfl ?_
  refine aw_getf (aw_d q_Js_printTerm 27 rfl) fL_Js_19_Js rfl rfl ?_
  refine aw_iload_n (aw_d q_Js_printTerm 28 rfl) rfl rfl ?_
  refine aw_aload_n (aw_d q_Js_printTerm 29 rfl) rfl rfl rfl ?_
  refine aw_getf (aw_d q_Js_printTerm 30 rfl) fL_Js_15_Js rfl rfl ?_
  refine cVv (aw_d q_Js_printTerm 31 rfl) (sp_printBack hP hW ht) vL_Js_87_Te rfl rfl rfl rfl rfl rfl ⟨aw_le rfl, aw_le rfl⟩ ?_
  refine aw_iload_n (aw_d q_Js_printTerm 32 rfl) rfl rfl ?_
  refine aw_iconst (v := nI 3) (aw_d q_Js_printTerm 33 rfl) (by decide) ?_
  refine aw_icmpN_ne (tgt := 81) (aw_d q_Js_printTerm 34 rfl) (by decide) (by (have hz := (hW.2.2.2 t ht).2; have hz1 := hW.1; omega)) (by (have hz := (hW.2.2.2 t ht).2; have hz1 := hW.1; omega)) (fun c69 => ?_) (fun c69 => by exfalso; (have hz := (hW.2.2.2 t ht).2; have hz1 := hW.1; omega))
  refine aw_iload_n (aw_d q_Js_printTerm 39 rfl) rfl rfl ?_
  refine aw_iconst (v := nI 4) (aw_d q_Js_printTerm 40 rfl) (by decide) ?_
  refine aw_icmpN_ne (tgt := 95) (aw_d q_Js_printTerm 41 rfl) (by decide) (by (have hz := (hW.2.2.2 t ht).2; have hz1 := hW.1; omega)) (by (have hz := (hW.2.2.2 t ht).2; have hz1 := hW.1; omega)) (fun c83 => by exfalso; (have hz := (hW.2.2.2 t ht).2; have hz1 := hW.1; omega)) (fun c83 => ?_)
  refine aw_aload_n (aw_d q_Js_printTerm 42 rfl) rfl rfl rfl ?_
  refine aw_getf (aw_d q_Js_printTerm 43 rfl) fL_Js_15_Js rfl rfl ?_
  refine aw_ldcS (aw_d q_Js_printTerm 44 rfl) tL_Js_92 ?_
  refine cVv (aw_d q_Js_printTerm 45 rfl) (sp_addAll (by decide)) vL_Js_25_By rfl rfl rfl rfl rfl rfl ⟨aw_le rfl, aw_le rfl⟩ ?_
  refine aw_iload_n (aw_d q_Js_printTerm 46 rfl) rfl rfl ?_
  refine aw_iconst (v := nI 3) (aw_d q_Js_printTerm 47 rfl) (by decide) ?_
  refine aw_icmpN_eq (tgt := 105) (aw_d q_Js_printTerm 48 rfl) (by decide) (by (have hz := (hW.2.2.2 t ht).2; have hz1 := hW.1; omega)) (by (have hz := (hW.2.2.2 t ht).2; have hz1 := hW.1; omega)) (fun c97 => by exfalso; (have hz := (hW.2.2.2 t ht).2; have hz1 := hW.1; omega)) (fun c97 => ?_)
  refine aw_iload_n (aw_d q_Js_printTerm 49 rfl) rfl rfl ?_
  refine aw_iconst (v := nI 4) (aw_d q_Js_printTerm 50 rfl) (by decide) ?_
  refine aw_icmpN_ne (tgt := 117) (aw_d q_Js_printTerm 51 rfl) (by decide) (by (have hz := (hW.2.2.2 t ht).2; have hz1 := hW.1; omega)) (by (have hz := (hW.2.2.2 t ht).2; have hz1 := hW.1; omega)) (fun c102 => by exfalso; (have hz := (hW.2.2.2 t ht).2; have hz1 := hW.1; omega)) (fun c102 => ?_)
  refine aw_aload_n (aw_d q_Js_printTerm 52 rfl) rfl rfl rfl ?_
  refine aw_getf (aw_d q_Js_printTerm 53 rfl) fL_Js_19_Js rfl rfl ?_
  refine aw_iload_n (aw_d q_Js_printTerm 54 rfl) rfl rfl ?_
  refine aw_aload_n (aw_d q_Js_printTerm 55 rfl) rfl rfl rfl ?_
  refine aw_getf (aw_d q_Js_printTerm 56 rfl) fL_Js_15_Js rfl rfl ?_
  refine cVv (aw_d q_Js_printTerm 57 rfl) (sp_printExtra hP hW ht (by omega)) vL_Js_94_Te rfl rfl rfl rfl rfl rfl ⟨aw_le rfl, aw_le rfl⟩ ?_
  refine aw_aload_n (aw_d q_Js_printTerm 58 rfl) rfl rfl rfl ?_
  refine aw_getf (aw_d q_Js_printTerm 59 rfl) fL_Js_15_Js rfl rfl ?_
  refine aw_ldcS (aw_d q_Js_printTerm 60 rfl) tL_Js_97 ?_
  refine cVv (aw_d q_Js_printTerm 61 rfl) (sp_addAll (by decide)) vL_Js_25_By rfl rfl rfl rfl rfl rfl ⟨aw_le rfl, aw_le rfl⟩ ?_
  exact aw_vret (aw_d q_Js_printTerm 62 rfl) rfl (⟨rfl, by simp [w_jt, hk]⟩)
theorem sp_Js_printTerm {g : aw_G} {S : aw_S} {O : List Int32} {P : xp_T} (hP : xp_C S P) (hW : xp_wd P) {t : Nat} (ht : t < xp_t P) : Sp g M_Js_printTerm 6 131 0 0 [.ref 29, .int (nI t)] (HP (WS S O)) (fun r h => r = none ∧ h = HP (WS S (O ++ w_jt P t))) := by
  rcases (show xp_k P t = 0 ∨ xp_k P t = 1 ∨ xp_k P t = 2 ∨ xp_k P t = 3 ∨ xp_k P t = 4 by have := (hW.2.2.2 t ht).1; omega) with h | h | h | h | h
  · exact sp_Js_printTerm_0 hP hW ht h
  · exact sp_Js_printTerm_1 hP hW ht h
  · exact sp_Js_printTerm_2 hP hW ht h
  · exact sp_Js_printTerm_3 hP hW ht h
  · exact sp_Js_printTerm_4 hP hW ht h
set_option maxRecDepth 20000 in
theorem lp_Js_printRow {g : aw_G} {S : aw_S} {O : List Int32} {P : xp_T} (hP : xp_C S P) (hW : xp_wd P) {r : Nat} (hr : r < xp_r P) : ∀ (m v : Nat) (b : Bool) (Q : List Int32) (x5 : Option Value), m + v = xp_v P → Q ++ (rjB (xp_c P r) (fun v t => w_jn P v ++ w_jt P t) m v b ++ [nI 125]) = O ++ w_jr P r → AW g M_Js_printRow (aw_rm 7 153 0 0) (aw_F g 0 0 (fun r1 h => r1 = none ∧ h = HP (WS S (O ++ w_jr P r)))) 14 [some (.ref 29), some (.ref 14), some (.int (nI r)), some (.int (if b = true then nI 1 else nI 0)), some (.int (nI v)), x5] [] (HP (WS S Q)) 0 0 := by
  intro m
  induction m with
  | zero =>
    intro v b Q x5 hk e
    refine aw_iload (aw_d q_Js_printRow 8 rfl) rfl ?_
    refine aw_aload_n (aw_d q_Js_printRow 9 rfl) rfl rfl rfl ?_
    refine aw_getf (v := .int (nI (xp_v P))) (aw_d q_Js_printRow 10 rfl) fL_Js_41_Tb rfl (gk hP.1.2.1) ?_
    refine aw_icmpN_ge (tgt := 75) (aw_d q_Js_printRow 11 rfl) (by decide) (by (have hz1 := hW.1; omega)) (by (have hz1 := hW.1; omega)) (fun c20 => ?_) (fun c20 => by exfalso; (have hz1 := hW.1; omega))
    refine aw_aload_n (aw_d q_Js_printRow 38 rfl) rfl rfl rfl ?_
    refine aw_getf (aw_d q_Js_printRow 39 rfl) fL_Js_15_Js rfl rfl ?_
    refine aw_bipush (v := nI 125) (aw_d q_Js_printRow 40 rfl) (by decide) ?_
    refine cVv (aw_d q_Js_printRow 41 rfl) (sp_add5) vL_Js_35_By rfl rfl rfl rfl rfl rfl ⟨aw_le rfl, aw_le rfl⟩ ?_
    exact aw_vret (aw_d q_Js_printRow 42 rfl) rfl (⟨rfl, by rw [← e]; simp [rjB]⟩)
  | succ m ih =>
    intro v b Q x5 hk e
    have hct : ∀ t, xp_c P r v = some t → t < xp_t P := fun t h => hW.2.2.1 r v t hr (by omega) h
    cases hc : xp_c P r v with
    | none =>
      refine aw_iload (aw_d q_Js_printRow 8 rfl) rfl ?_
      refine aw_aload_n (aw_d q_Js_printRow 9 rfl) rfl rfl rfl ?_
      refine aw_getf (v := .int (nI (xp_v P))) (aw_d q_Js_printRow 10 rfl) fL_Js_41_Tb rfl (gk hP.1.2.1) ?_
      refine aw_icmpN_ge (tgt := 75) (aw_d q_Js_printRow 11 rfl) (by decide) (by (have hz1 := hW.1; omega)) (by (have hz1 := hW.1; omega)) (fun c20 => by exfalso; (have hz1 := hW.1; omega)) (fun c20 => ?_)
      refine aw_aload_n (aw_d q_Js_printRow 12 rfl) rfl rfl rfl ?_
      refine aw_iload_n (aw_d q_Js_printRow 13 rfl) rfl rfl ?_
      refine aw_iload (aw_d q_Js_printRow 14 rfl) rfl ?_
      refine cVr (aw_d q_Js_printRow 15 rfl) (sp_cell hP hW hr (v := v) (by omega) (x := -1) (by rw [hc]; rfl)) vL_Js_64_Tb rfl rfl rfl rfl rfl rfl ⟨aw_le rfl, aw_le rfl⟩ ?_
      refine aw_istore (aw_d q_Js_printRow 16 rfl) (aw_le rfl) rfl ?_
      refine aw_iload (aw_d q_Js_printRow 17 rfl) rfl ?_
      refine aw_iconst (v := (-1)) (aw_d q_Js_printRow 18 rfl) (by decide) ?_
      refine aw_icmpZ_ne (tgt := 41) (aw_d q_Js_printRow 19 rfl) (by decide) (fun c35 => by exact absurd rfl c35) (fun c35 => ?_)
      refine aw_goto (tgt := 69) (aw_d q_Js_printRow 20 rfl) (by decide) ?_
      refine aw_iinc (aw_d q_Js_printRow 36 rfl) rfl (ii1 _) (aw_le rfl) rfl ?_
      refine aw_goto (tgt := 14) (aw_d q_Js_printRow 37 rfl) (by decide) ?_
      exact ih (v + 1) b _ _ (by omega) (by rw [← e]; simp [rjB, hc])
    | some t =>
      have ht := hct t hc
      refine aw_iload (aw_d q_Js_printRow 8 rfl) rfl ?_
      refine aw_aload_n (aw_d q_Js_printRow 9 rfl) rfl rfl rfl ?_
      refine aw_getf (v := .int (nI (xp_v P))) (aw_d q_Js_printRow 10 rfl) fL_Js_41_Tb rfl (gk hP.1.2.1) ?_
      refine aw_icmpN_ge (tgt := 75) (aw_d q_Js_printRow 11 rfl) (by decide) (by (have hz1 := hW.1; omega)) (by (have hz1 := hW.1; omega)) (fun c20 => by exfalso; (have hz1 := hW.1; omega)) (fun c20 => ?_)
      refine aw_aload_n (aw_d q_Js_printRow 12 rfl) rfl rfl rfl ?_
      refine aw_iload_n (aw_d q_Js_printRow 13 rfl) rfl rfl ?_
      refine aw_iload (aw_d q_Js_printRow 14 rfl) rfl ?_
      refine cVr (aw_d q_Js_printRow 15 rfl) (sp_cell hP hW hr (v := v) (by omega) (x := nI t) (by rw [hc]; rfl)) vL_Js_64_Tb rfl rfl rfl rfl rfl rfl ⟨aw_le rfl, aw_le rfl⟩ ?_
      refine aw_istore (aw_d q_Js_printRow 16 rfl) (aw_le rfl) rfl ?_
      refine aw_iload (aw_d q_Js_printRow 17 rfl) rfl ?_
      refine aw_iconst (v := (-1)) (aw_d q_Js_printRow 18 rfl) (by decide) ?_
      refine aw_icmpJ_ne (tgt := 41) (aw_d q_Js_printRow 19 rfl) (by decide) (by (have hz1 := hW.1; omega)) (fun c35 => ?_) (fun c35 => by have := nI_toInt (n := t) (by have := hW.1; omega); have h1 : (-1 : Int32).toInt = -1 := rfl; omega)
      refine aw_iload_n (aw_d q_Js_printRow 21 rfl) rfl rfl ?_
      refine aw_ifB_ne (tgt := 54) (aw_d q_Js_printRow 22 rfl) (by decide) (fun c42 => ?_) (fun c42 => ?_)
      · refine aw_iconst (v := nI 0) (aw_d q_Js_printRow 27 rfl) (by decide) ?_
        refine aw_istore_n (aw_d q_Js_printRow 28 rfl) rfl (aw_le rfl) rfl ?_
        refine aw_aload_n (aw_d q_Js_printRow 29 rfl) rfl rfl rfl ?_
        refine aw_aload_n (aw_d q_Js_printRow 30 rfl) rfl rfl rfl ?_
        refine aw_iload (aw_d q_Js_printRow 31 rfl) rfl ?_
        refine cVv (aw_d q_Js_printRow 32 rfl) (sp_Js_printName hP hW (v := v) (by omega)) vL_Js_47_Js rfl rfl rfl rfl rfl rfl ⟨aw_le rfl, aw_le rfl⟩ ?_
        refine aw_aload_n (aw_d q_Js_printRow 33 rfl) rfl rfl rfl ?_
        refine aw_iload (aw_d q_Js_printRow 34 rfl) rfl ?_
        refine cVv (aw_d q_Js_printRow 35 rfl) (sp_Js_printTerm hP hW ht) vL_Js_68_Js rfl rfl rfl rfl rfl rfl ⟨aw_le rfl, aw_le rfl⟩ ?_
        refine aw_iinc (aw_d q_Js_printRow 36 rfl) rfl (ii1 _) (aw_le rfl) rfl ?_
        refine aw_goto (tgt := 14) (aw_d q_Js_printRow 37 rfl) (by decide) ?_
        exact AW.to (ih (v + 1) false _ _ (by omega) (by rw [← e]; simp [rjB, hc, c42])) rfl rfl rfl rfl
      · refine aw_aload_n (aw_d q_Js_printRow 23 rfl) rfl rfl rfl ?_
        refine aw_getf (aw_d q_Js_printRow 24 rfl) fL_Js_15_Js rfl rfl ?_
        refine aw_bipush (v := nI 44) (aw_d q_Js_printRow 25 rfl) (by decide) ?_
        refine cVv (aw_d q_Js_printRow 26 rfl) (sp_add5) vL_Js_35_By rfl rfl rfl rfl rfl rfl ⟨aw_le rfl, aw_le rfl⟩ ?_
        refine aw_iconst (v := nI 0) (aw_d q_Js_printRow 27 rfl) (by decide) ?_
        refine aw_istore_n (aw_d q_Js_printRow 28 rfl) rfl (aw_le rfl) rfl ?_
        refine aw_aload_n (aw_d q_Js_printRow 29 rfl) rfl rfl rfl ?_
        refine aw_aload_n (aw_d q_Js_printRow 30 rfl) rfl rfl rfl ?_
        refine aw_iload (aw_d q_Js_printRow 31 rfl) rfl ?_
        refine cVv (aw_d q_Js_printRow 32 rfl) (sp_Js_printName hP hW (v := v) (by omega)) vL_Js_47_Js rfl rfl rfl rfl rfl rfl ⟨aw_le rfl, aw_le rfl⟩ ?_
        refine aw_aload_n (aw_d q_Js_printRow 33 rfl) rfl rfl rfl ?_
        refine aw_iload (aw_d q_Js_printRow 34 rfl) rfl ?_
        refine cVv (aw_d q_Js_printRow 35 rfl) (sp_Js_printTerm hP hW ht) vL_Js_68_Js rfl rfl rfl rfl rfl rfl ⟨aw_le rfl, aw_le rfl⟩ ?_
        refine aw_iinc (aw_d q_Js_printRow 36 rfl) rfl (ii1 _) (aw_le rfl) rfl ?_
        refine aw_goto (tgt := 14) (aw_d q_Js_printRow 37 rfl) (by decide) ?_
        exact AW.to (ih (v + 1) false _ _ (by omega) (by rw [← e]; simp [rjB, hc, c42])) rfl rfl rfl rfl
set_option maxRecDepth 20000 in
theorem sp_Js_printRow {g : aw_G} {S : aw_S} {O : List Int32} {P : xp_T} (hP : xp_C S P) (hW : xp_wd P) {r : Nat} (hr : r < xp_r P) : Sp g M_Js_printRow 7 153 0 0 [.ref 29, .ref 14, .int (nI r)] (HP (WS S O)) (fun r1 h => r1 = none ∧ h = HP (WS S (O ++ w_jr P r))) := by
  refine Sp.of rfl (aw_le rfl) ?_
  refine aw_iconst (v := nI 1) (aw_d q_Js_printRow 0 rfl) (by decide) ?_
  refine aw_istore_n (aw_d q_Js_printRow 1 rfl) rfl (aw_le rfl) rfl ?_
  refine aw_aload_n (aw_d q_Js_printRow 2 rfl) rfl rfl rfl ?_
  refine aw_getf (aw_d q_Js_printRow 3 rfl) fL_Js_15_Js rfl rfl ?_
  refine aw_bipush (v := nI 123) (aw_d q_Js_printRow 4 rfl) (by decide) ?_
  refine cVv (aw_d q_Js_printRow 5 rfl) (sp_add5) vL_Js_35_By rfl rfl rfl rfl rfl rfl ⟨aw_le rfl, aw_le rfl⟩ ?_
  refine aw_iconst (v := nI 0) (aw_d q_Js_printRow 6 rfl) (by decide) ?_
  refine aw_istore (aw_d q_Js_printRow 7 rfl) (aw_le rfl) rfl ?_
  exact AW.to (lp_Js_printRow hP hW hr (xp_v P) 0 true (O ++ [nI 123]) _ (by omega) (by simp [w_jr])) rfl rfl rfl rfl
