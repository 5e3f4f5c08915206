theorem if_tt : (if true = true then nI 1 else nI 0) = nI 1 := rfl
theorem if_ff : (if false = true then nI 1 else nI 0) = nI 0 := rfl
/-- what the reference asks of a text of kind k -/
def okM (k : Nat) (f : Nat → Int32) (n : Nat) : Bool := if k = 0 then decide (0 < n) && allB pNd f n 0 else if k = 1 then decide (1 ≤ n ∧ n ≤ 8) && allB pLD f n 0 else allB pTx f n 0
theorem okM_congr {k n : Nat} {f e : Nat → Int32} (h : ∀ i, i < n → f i = e i) : okM k f n = okM k e n := by
  simp only [okM]
  rw [allB_congr (p := pNd) (f := f) (e := e) (fun i _ hi => h i (by omega)), allB_congr (p := pLD) (f := f) (e := e) (fun i _ hi => h i (by omega)), allB_congr (p := pTx) (f := f) (e := e) (fun i _ hi => h i (by omega))]
theorem pNd_Tx {b : Int32} (h : pNd b = true) : pTx b = true := by simp only [pNd, pTx, decide_eq_true_eq] at *; omega
theorem pLD_Tx {b : Int32} (h : pLD b = true) : pTx b = true := by simp only [pLD, pTx, decide_eq_true_eq] at *; omega
theorem okM_iff {k n : Nat} {f : Nat → Int32} : okM k f n = true ↔ allB pTx f n 0 = true ∧ okK k f n = true := by
  simp only [okM, okK]
  by_cases h0 : k = 0
  · rw [if_pos h0, if_pos h0, Bool.and_eq_true, allB_iff, allB_iff]
    exact ⟨fun q => ⟨fun i h1 h2 => pNd_Tx (q.2 i h1 h2), q⟩, fun q => q.2⟩
  · rw [if_neg h0, if_neg h0]
    by_cases h1 : k = 1
    · rw [if_pos h1, if_pos h1, Bool.and_eq_true, Bool.and_eq_true, allB_iff, allB_iff, decide_eq_true_eq, decide_eq_true_eq]
      exact ⟨fun q => ⟨fun i h1 h2 => pLD_Tx (q.2 i h1 h2), by omega, q.2⟩, fun q => ⟨by omega, q.2.2⟩⟩
    · rw [if_neg h1, if_neg h1]; exact ⟨fun q => ⟨q, rfl⟩, fun q => q.1⟩
set_option maxRecDepth 20000 in
theorem lp_Mo_isOfKind_0 {g : aw_G} {S : aw_S} {n : Nat} (hn : S.1 3334 = nI n) (h3 : n ≤ 20) {tot : Bool} : ∀ (m k : Nat) (b : Bool) (x4 : Option Value), m + k = n → (b && allB pNd (S.2 54) m k) = tot → AW g M_Mo_isOfKind (aw_rm 2 42 0 0) (aw_F g 0 0 (fun r h => r = some (.int (if tot = true then nI 1 else nI 0)) ∧ h = HP S)) 42 [some (.ref 33), some (.int (nI 0)), some (.int (if b = true then nI 1 else nI 0)), some (.int (nI k)), x4] [] (HP S) 0 0 := by
  intro m
  induction m with
  | zero =>
    intro k b x4 hk e
    refine aw_iload_n (aw_d q_Mo_isOfKind 23 rfl) rfl rfl ?_
    refine aw_aload_n (aw_d q_Mo_isOfKind 24 rfl) rfl rfl rfl ?_
    refine aw_getf (v := .int (nI (n))) (aw_d q_Mo_isOfKind 25 rfl) fL_Mo_93_Mo rfl (gk hn) ?_
    refine aw_icmpN_ge (tgt := 121) (aw_d q_Mo_isOfKind 26 rfl) (by decide) (by omega) (by omega) (fun c47 => ?_) (fun c47 => by exfalso; omega)
    refine aw_iload_n (aw_d q_Mo_isOfKind 59 rfl) rfl rfl ?_
    exact aw_zret (aw_d q_Mo_isOfKind 60 rfl) rfl (nB) (⟨by rw [← e]; simp [allB], rfl⟩)
  | succ m ih =>
    intro k b x4 hk e
    refine aw_iload_n (aw_d q_Mo_isOfKind 23 rfl) rfl rfl ?_
    refine aw_aload_n (aw_d q_Mo_isOfKind 24 rfl) rfl rfl rfl ?_
    refine aw_getf (v := .int (nI (n))) (aw_d q_Mo_isOfKind 25 rfl) fL_Mo_93_Mo rfl (gk hn) ?_
    refine aw_icmpN_ge (tgt := 121) (aw_d q_Mo_isOfKind 26 rfl) (by decide) (by omega) (by omega) (fun c47 => by exfalso; omega) (fun c47 => ?_)
    refine aw_aload_n (aw_d q_Mo_isOfKind 27 rfl) rfl rfl rfl ?_
    refine aw_getf (aw_d q_Mo_isOfKind 28 rfl) fL_Mo_71_Mo rfl rfl ?_
    refine aw_iload_n (aw_d q_Mo_isOfKind 29 rfl) rfl rfl ?_
    refine aw_ialdN (aw_d q_Mo_isOfKind 30 rfl) rfl (by omega) rfl ?_
    refine aw_istore (aw_d q_Mo_isOfKind 31 rfl) (aw_le rfl) rfl ?_
    refine aw_iload_n (aw_d q_Mo_isOfKind 32 rfl) rfl rfl ?_
    refine aw_ifB_eq (tgt := 113) (aw_d q_Mo_isOfKind 33 rfl) (by decide) (fun c59 => ?_) (fun c59 => ?_)
    · have hp : b = false := by simpa using c59
      refine aw_iconst (v := nI 0) (aw_d q_Mo_isOfKind 55 rfl) (by decide) ?_
      refine aw_istore_n (aw_d q_Mo_isOfKind 56 rfl) rfl (aw_le rfl) rfl ?_
      refine aw_iinc (aw_d q_Mo_isOfKind 57 rfl) rfl (ii1 _) (aw_le rfl) rfl ?_
      refine aw_goto (tgt := 42) (aw_d q_Mo_isOfKind 58 rfl) (by decide) ?_
      exact ih (k + 1) false _ (by omega) (by rw [← e]; simp [allB, hp])
    · refine aw_iload_n (aw_d q_Mo_isOfKind 34 rfl) rfl rfl ?_
      refine aw_ifN_ne (tgt := 77) (aw_d q_Mo_isOfKind 35 rfl) (by decide) (by omega) (fun c63 => by exfalso; omega) (fun c63 => ?_)
      refine aw_iload (aw_d q_Mo_isOfKind 36 rfl) rfl ?_
      refine cSr (aw_d q_Mo_isOfKind 37 rfl) (sp_Mo_isNode) sL_Mo_96 rfl rfl rfl rfl ⟨aw_le rfl, aw_le rfl⟩ ?_
      refine aw_ifB_eq (tgt := 113) (aw_d q_Mo_isOfKind 38 rfl) (by decide) (fun c71 => ?_) (fun c71 => ?_)
      · have hp : ¬ pNd (S.2 54 k) = true := c71
        refine aw_iconst (v := nI 0) (aw_d q_Mo_isOfKind 55 rfl) (by decide) ?_
        refine aw_istore_n (aw_d q_Mo_isOfKind 56 rfl) rfl (aw_le rfl) rfl ?_
        refine aw_iinc (aw_d q_Mo_isOfKind 57 rfl) rfl (ii1 _) (aw_le rfl) rfl ?_
        refine aw_goto (tgt := 42) (aw_d q_Mo_isOfKind 58 rfl) (by decide) ?_
        exact ih (k + 1) false _ (by omega) (by rw [← e]; simp [allB, hp])
      · have hp : pNd (S.2 54 k) = true := c71
        refine aw_goto (tgt := 109) (aw_d q_Mo_isOfKind 39 rfl) (by decide) ?_
        refine aw_iconst (v := nI 1) (aw_d q_Mo_isOfKind 53 rfl) (by decide) ?_
        refine aw_goto (tgt := 114) (aw_d q_Mo_isOfKind 54 rfl) (by decide) ?_
        refine aw_istore_n (aw_d q_Mo_isOfKind 56 rfl) rfl (aw_le rfl) rfl ?_
        refine aw_iinc (aw_d q_Mo_isOfKind 57 rfl) rfl (ii1 _) (aw_le rfl) rfl ?_
        refine aw_goto (tgt := 42) (aw_d q_Mo_isOfKind 58 rfl) (by decide) ?_
        exact ih (k + 1) true _ (by omega) (by rw [← e]; simp [allB, c59, hp])
set_option maxRecDepth 20000 in
theorem lp_Mo_isOfKind_1 {g : aw_G} {S : aw_S} {n : Nat} (hn : S.1 3334 = nI n) (h3 : n ≤ 20) {tot : Bool} : ∀ (m k : Nat) (b : Bool) (x4 : Option Value), m + k = n → (b && allB pLD (S.2 54) m k) = tot → AW g M_Mo_isOfKind (aw_rm 2 42 0 0) (aw_F g 0 0 (fun r h => r = some (.int (if tot = true then nI 1 else nI 0)) ∧ h = HP S)) 42 [some (.ref 33), some (.int (nI 1)), some (.int (if b = true then nI 1 else nI 0)), some (.int (nI k)), x4] [] (HP S) 0 0 := by
  intro m
  induction m with
  | zero =>
    intro k b x4 hk e
    refine aw_iload_n (aw_d q_Mo_isOfKind 23 rfl) rfl rfl ?_
    refine aw_aload_n (aw_d q_Mo_isOfKind 24 rfl) rfl rfl rfl ?_
    refine aw_getf (v := .int (nI (n))) (aw_d q_Mo_isOfKind 25 rfl) fL_Mo_93_Mo rfl (gk hn) ?_
    refine aw_icmpN_ge (tgt := 121) (aw_d q_Mo_isOfKind 26 rfl) (by decide) (by omega) (by omega) (fun c47 => ?_) (fun c47 => by exfalso; omega)
    refine aw_iload_n (aw_d q_Mo_isOfKind 59 rfl) rfl rfl ?_
    exact aw_zret (aw_d q_Mo_isOfKind 60 rfl) rfl (nB) (⟨by rw [← e]; simp [allB], rfl⟩)
  | succ m ih =>
    intro k b x4 hk e
    refine aw_iload_n (aw_d q_Mo_isOfKind 23 rfl) rfl rfl ?_
    refine aw_aload_n (aw_d q_Mo_isOfKind 24 rfl) rfl rfl rfl ?_
    refine aw_getf (v := .int (nI (n))) (aw_d q_Mo_isOfKind 25 rfl) fL_Mo_93_Mo rfl (gk hn) ?_
    refine aw_icmpN_ge (tgt := 121) (aw_d q_Mo_isOfKind 26 rfl) (by decide) (by omega) (by omega) (fun c47 => by exfalso; omega) (fun c47 => ?_)
    refine aw_aload_n (aw_d q_Mo_isOfKind 27 rfl) rfl rfl rfl ?_
    refine aw_getf (aw_d q_Mo_isOfKind 28 rfl) fL_Mo_71_Mo rfl rfl ?_
    refine aw_iload_n (aw_d q_Mo_isOfKind 29 rfl) rfl rfl ?_
    refine aw_ialdN (aw_d q_Mo_isOfKind 30 rfl) rfl (by omega) rfl ?_
    refine aw_istore (aw_d q_Mo_isOfKind 31 rfl) (aw_le rfl) rfl ?_
    refine aw_iload_n (aw_d q_Mo_isOfKind 32 rfl) rfl rfl ?_
    refine aw_ifB_eq (tgt := 113) (aw_d q_Mo_isOfKind 33 rfl) (by decide) (fun c59 => ?_) (fun c59 => ?_)
    · have hp : b = false := by simpa using c59
      refine aw_iconst (v := nI 0) (aw_d q_Mo_isOfKind 55 rfl) (by decide) ?_
      refine aw_istore_n (aw_d q_Mo_isOfKind 56 rfl) rfl (aw_le rfl) rfl ?_
      refine aw_iinc (aw_d q_Mo_isOfKind 57 rfl) rfl (ii1 _) (aw_le rfl) rfl ?_
      refine aw_goto (tgt := 42) (aw_d q_Mo_isOfKind 58 rfl) (by decide) ?_
      exact ih (k + 1) false _ (by omega) (by rw [← e]; simp [allB, hp])
    · refine aw_iload_n (aw_d q_Mo_isOfKind 34 rfl) rfl rfl ?_
      refine aw_ifN_ne (tgt := 77) (aw_d q_Mo_isOfKind 35 rfl) (by decide) (by omega) (fun c63 => ?_) (fun c63 => by exfalso; omega)
      refine aw_iload_n (aw_d q_Mo_isOfKind 40 rfl) rfl rfl ?_
      refine aw_iconst (v := nI 1) (aw_d q_Mo_isOfKind 41 rfl) (by decide) ?_
      refine aw_icmpN_ne (tgt := 101) (aw_d q_Mo_isOfKind 42 rfl) (by decide) (by omega) (by omega) (fun c79 => by exfalso; omega) (fun c79 => ?_)
      refine aw_iload (aw_d q_Mo_isOfKind 43 rfl) rfl ?_
      refine cSr (aw_d q_Mo_isOfKind 44 rfl) (sp_Mo_isLetter) sL_Mo_100 rfl rfl rfl rfl ⟨aw_le rfl, aw_le rfl⟩ ?_
      refine aw_ifB_ne (tgt := 109) (aw_d q_Mo_isOfKind 45 rfl) (by decide) (fun c87 => ?_) (fun c87 => ?_)
      · have hp : pLD (S.2 54 k) = true := by simp only [pLet, pDig, pLD, decide_eq_true_eq] at *; omega
        refine aw_iconst (v := nI 1) (aw_d q_Mo_isOfKind 53 rfl) (by decide) ?_
        refine aw_goto (tgt := 114) (aw_d q_Mo_isOfKind 54 rfl) (by decide) ?_
        refine aw_istore_n (aw_d q_Mo_isOfKind 56 rfl) rfl (aw_le rfl) rfl ?_
        refine aw_iinc (aw_d q_Mo_isOfKind 57 rfl) rfl (ii1 _) (aw_le rfl) rfl ?_
        refine aw_goto (tgt := 42) (aw_d q_Mo_isOfKind 58 rfl) (by decide) ?_
        exact ih (k + 1) true _ (by omega) (by rw [← e]; simp [allB, c59, hp])
      · refine aw_iload (aw_d q_Mo_isOfKind 46 rfl) rfl ?_
        refine cSr (aw_d q_Mo_isOfKind 47 rfl) (sp_Mo_isDigit) sL_Mo_103 rfl rfl rfl rfl ⟨aw_le rfl, aw_le rfl⟩ ?_
        refine aw_ifB_eq (tgt := 113) (aw_d q_Mo_isOfKind 48 rfl) (by decide) (fun c95 => ?_) (fun c95 => ?_)
        · have hp : ¬ pLD (S.2 54 k) = true := by simp only [pLet, pDig, pLD, decide_eq_true_eq] at *; omega
          refine aw_iconst (v := nI 0) (aw_d q_Mo_isOfKind 55 rfl) (by decide) ?_
          refine aw_istore_n (aw_d q_Mo_isOfKind 56 rfl) rfl (aw_le rfl) rfl ?_
          refine aw_iinc (aw_d q_Mo_isOfKind 57 rfl) rfl (ii1 _) (aw_le rfl) rfl ?_
          refine aw_goto (tgt := 42) (aw_d q_Mo_isOfKind 58 rfl) (by decide) ?_
          exact ih (k + 1) false _ (by omega) (by rw [← e]; simp [allB, hp])
        · have hp : pLD (S.2 54 k) = true := by simp only [pLet, pDig, pLD, decide_eq_true_eq] at *; omega
          refine aw_goto (tgt := 109) (aw_d q_Mo_isOfKind 49 rfl) (by decide) ?_
          refine aw_iconst (v := nI 1) (aw_d q_Mo_isOfKind 53 rfl) (by decide) ?_
          refine aw_goto (tgt := 114) (aw_d q_Mo_isOfKind 54 rfl) (by decide) ?_
          refine aw_istore_n (aw_d q_Mo_isOfKind 56 rfl) rfl (aw_le rfl) rfl ?_
          refine aw_iinc (aw_d q_Mo_isOfKind 57 rfl) rfl (ii1 _) (aw_le rfl) rfl ?_
          refine aw_goto (tgt := 42) (aw_d q_Mo_isOfKind 58 rfl) (by decide) ?_
          exact ih (k + 1) true _ (by omega) (by rw [← e]; simp [allB, c59, hp])
set_option maxRecDepth 20000 in
theorem lp_Mo_isOfKind_2 {g : aw_G} {S : aw_S} {n : Nat} (hn : S.1 3334 = nI n) (h3 : n ≤ 20) {kd : Nat} (hkd : 2 ≤ kd) (hkd4 : kd ≤ 4) {tot : Bool} : ∀ (m k : Nat) (b : Bool) (x4 : Option Value), m + k = n → (b && allB pTx (S.2 54) m k) = tot → AW g M_Mo_isOfKind (aw_rm 2 42 0 0) (aw_F g 0 0 (fun r h => r = some (.int (if tot = true then nI 1 else nI 0)) ∧ h = HP S)) 42 [some (.ref 33), some (.int (nI kd)), some (.int (if b = true then nI 1 else nI 0)), some (.int (nI k)), x4] [] (HP S) 0 0 := by
  intro m
  induction m with
  | zero =>
    intro k b x4 hk e
    refine aw_iload_n (aw_d q_Mo_isOfKind 23 rfl) rfl rfl ?_
    refine aw_aload_n (aw_d q_Mo_isOfKind 24 rfl) rfl rfl rfl ?_
    refine aw_getf (v := .int (nI (n))) (aw_d q_Mo_isOfKind 25 rfl) fL_Mo_93_Mo rfl (gk hn) ?_
    refine aw_icmpN_ge (tgt := 121) (aw_d q_Mo_isOfKind 26 rfl) (by decide) (by omega) (by omega) (fun c47 => ?_) (fun c47 => by exfalso; omega)
    refine aw_iload_n (aw_d q_Mo_isOfKind 59 rfl) rfl rfl ?_
    exact aw_zret (aw_d q_Mo_isOfKind 60 rfl) rfl (nB) (⟨by rw [← e]; simp [allB], rfl⟩)
  | succ m ih =>
    intro k b x4 hk e
    refine aw_iload_n (aw_d q_Mo_isOfKind 23 rfl) rfl rfl ?_
    refine aw_aload_n (aw_d q_Mo_isOfKind 24 rfl) rfl rfl rfl ?_
    refine aw_getf (v := .int (nI (n))) (aw_d q_Mo_isOfKind 25 rfl) fL_Mo_93_Mo rfl (gk hn) ?_
    refine aw_icmpN_ge (tgt := 121) (aw_d q_Mo_isOfKind 26 rfl) (by decide) (by omega) (by omega) (fun c47 => by exfalso; omega) (fun c47 => ?_)
    refine aw_aload_n (aw_d q_Mo_isOfKind 27 rfl) rfl rfl rfl ?_
    refine aw_getf (aw_d q_Mo_isOfKind 28 rfl) fL_Mo_71_Mo rfl rfl ?_
    refine aw_iload_n (aw_d q_Mo_isOfKind 29 rfl) rfl rfl ?_
    refine aw_ialdN (aw_d q_Mo_isOfKind 30 rfl) rfl (by omega) rfl ?_
    refine aw_istore (aw_d q_Mo_isOfKind 31 rfl) (aw_le rfl) rfl ?_
    refine aw_iload_n (aw_d q_Mo_isOfKind 32 rfl) rfl rfl ?_
    refine aw_ifB_eq (tgt := 113) (aw_d q_Mo_isOfKind 33 rfl) (by decide) (fun c59 => ?_) (fun c59 => ?_)
    · have hp : b = false := by simpa using c59
      refine aw_iconst (v := nI 0) (aw_d q_Mo_isOfKind 55 rfl) (by decide) ?_
      refine aw_istore_n (aw_d q_Mo_isOfKind 56 rfl) rfl (aw_le rfl) rfl ?_
      refine aw_iinc (aw_d q_Mo_isOfKind 57 rfl) rfl (ii1 _) (aw_le rfl) rfl ?_
      refine aw_goto (tgt := 42) (aw_d q_Mo_isOfKind 58 rfl) (by decide) ?_
      exact ih (k + 1) false _ (by omega) (by rw [← e]; simp [allB, hp])
    · refine aw_iload_n (aw_d q_Mo_isOfKind 34 rfl) rfl rfl ?_
      refine aw_ifN_ne (tgt := 77) (aw_d q_Mo_isOfKind 35 rfl) (by decide) (by omega) (fun c63 => ?_) (fun c63 => by exfalso; omega)
      refine aw_iload_n (aw_d q_Mo_isOfKind 40 rfl) rfl rfl ?_
      refine aw_iconst (v := nI 1) (aw_d q_Mo_isOfKind 41 rfl) (by decide) ?_
      refine aw_icmpN_ne (tgt := 101) (aw_d q_Mo_isOfKind 42 rfl) (by decide) (by omega) (by omega) (fun c79 => ?_) (fun c79 => by exfalso; omega)
      refine aw_iload (aw_d q_Mo_isOfKind 50 rfl) rfl ?_
      refine cSr (aw_d q_Mo_isOfKind 51 rfl) (sp_Mo_isText) sL_Mo_106 rfl rfl rfl rfl ⟨aw_le rfl, aw_le rfl⟩ ?_
      refine aw_ifB_eq (tgt := 113) (aw_d q_Mo_isOfKind 52 rfl) (by decide) (fun c106 => ?_) (fun c106 => ?_)
      · have hp : ¬ pTx (S.2 54 k) = true := c106
        refine aw_iconst (v := nI 0) (aw_d q_Mo_isOfKind 55 rfl) (by decide) ?_
        refine aw_istore_n (aw_d q_Mo_isOfKind 56 rfl) rfl (aw_le rfl) rfl ?_
        refine aw_iinc (aw_d q_Mo_isOfKind 57 rfl) rfl (ii1 _) (aw_le rfl) rfl ?_
        refine aw_goto (tgt := 42) (aw_d q_Mo_isOfKind 58 rfl) (by decide) ?_
        exact ih (k + 1) false _ (by omega) (by rw [← e]; simp [allB, hp])
      · have hp : pTx (S.2 54 k) = true := c106
        refine aw_iconst (v := nI 1) (aw_d q_Mo_isOfKind 53 rfl) (by decide) ?_
        refine aw_goto (tgt := 114) (aw_d q_Mo_isOfKind 54 rfl) (by decide) ?_
        refine aw_istore_n (aw_d q_Mo_isOfKind 56 rfl) rfl (aw_le rfl) rfl ?_
        refine aw_iinc (aw_d q_Mo_isOfKind 57 rfl) rfl (ii1 _) (aw_le rfl) rfl ?_
        refine aw_goto (tgt := 42) (aw_d q_Mo_isOfKind 58 rfl) (by decide) ?_
        exact ih (k + 1) true _ (by omega) (by rw [← e]; simp [allB, c59, hp])
set_option maxRecDepth 20000 in
theorem sp_Mo_isOfKind {g : aw_G} {S : aw_S} {n kd : Nat} (hn : S.1 3334 = nI n) (h3 : n ≤ 20) (hkd : kd ≤ 4) : Sp g M_Mo_isOfKind 2 42 0 0 [.ref 33, .int (nI kd)] (HP S) (fun r h => r = some (.int (if okM kd (S.2 54) n = true then nI 1 else nI 0)) ∧ h = HP S) := by
  refine Sp.of rfl (aw_le rfl) ?_
  have hni := nI_toInt (n := n) (by omega)
  by_cases h0 : kd = 0
  · subst h0
    refine aw_iload_n (aw_d q_Mo_isOfKind 0 rfl) rfl rfl ?_
    refine aw_iconst (v := nI 1) (aw_d q_Mo_isOfKind 1 rfl) (by decide) ?_
    refine aw_icmpN_gt (tgt := 34) (aw_d q_Mo_isOfKind 2 rfl) (by decide) (by omega) (by omega) (fun c2 => by exfalso; omega) (fun c2 => ?_)
    refine aw_iload_n (aw_d q_Mo_isOfKind 3 rfl) rfl rfl ?_
    refine aw_ifN_ne (tgt := 16) (aw_d q_Mo_isOfKind 4 rfl) (by decide) (by omega) (fun c6 => by exfalso; omega) (fun c6 => ?_)
    refine aw_aload_n (aw_d q_Mo_isOfKind 5 rfl) rfl rfl rfl ?_
    refine aw_getf (v := .int (nI (n))) (aw_d q_Mo_isOfKind 6 rfl) fL_Mo_93_Mo rfl (gk hn) ?_
    refine aw_ifN_gt (tgt := 34) (aw_d q_Mo_isOfKind 7 rfl) (by decide) (by omega) (fun c13 => ?_) (fun c13 => ?_)
    · refine aw_iconst (v := nI 1) (aw_d q_Mo_isOfKind 17 rfl) (by decide) ?_
      refine aw_goto (tgt := 39) (aw_d q_Mo_isOfKind 18 rfl) (by decide) ?_
      refine aw_istore_n (aw_d q_Mo_isOfKind 20 rfl) rfl (aw_le rfl) rfl ?_
      refine aw_iconst (v := nI 0) (aw_d q_Mo_isOfKind 21 rfl) (by decide) ?_
      refine aw_istore_n (aw_d q_Mo_isOfKind 22 rfl) rfl (aw_le rfl) rfl ?_
      exact lp_Mo_isOfKind_0 hn h3 n 0 true _ (by omega) (by simp [okM]; try omega)
    · refine aw_iload_n (aw_d q_Mo_isOfKind 8 rfl) rfl rfl ?_
      refine aw_iconst (v := nI 1) (aw_d q_Mo_isOfKind 9 rfl) (by decide) ?_
      refine aw_icmpN_ne (tgt := 38) (aw_d q_Mo_isOfKind 10 rfl) (by decide) (by omega) (by omega) (fun c18 => ?_) (fun c18 => by exfalso; omega)
      refine aw_iconst (v := nI 0) (aw_d q_Mo_isOfKind 19 rfl) (by decide) ?_
      refine aw_istore_n (aw_d q_Mo_isOfKind 20 rfl) rfl (aw_le rfl) rfl ?_
      refine aw_iconst (v := nI 0) (aw_d q_Mo_isOfKind 21 rfl) (by decide) ?_
      refine aw_istore_n (aw_d q_Mo_isOfKind 22 rfl) rfl (aw_le rfl) rfl ?_
      exact lp_Mo_isOfKind_0 hn h3 n 0 false _ (by omega) (by simp [okM]; try omega)
  · by_cases h1 : kd = 1
    · subst h1
      refine aw_iload_n (aw_d q_Mo_isOfKind 0 rfl) rfl rfl ?_
      refine aw_iconst (v := nI 1) (aw_d q_Mo_isOfKind 1 rfl) (by decide) ?_
      refine aw_icmpN_gt (tgt := 34) (aw_d q_Mo_isOfKind 2 rfl) (by decide) (by omega) (by omega) (fun c2 => by exfalso; omega) (fun c2 => ?_)
      refine aw_iload_n (aw_d q_Mo_isOfKind 3 rfl) rfl rfl ?_
      refine aw_ifN_ne (tgt := 16) (aw_d q_Mo_isOfKind 4 rfl) (by decide) (by omega) (fun c6 => ?_) (fun c6 => by exfalso; omega)
      refine aw_iload_n (aw_d q_Mo_isOfKind 8 rfl) rfl rfl ?_
      refine aw_iconst (v := nI 1) (aw_d q_Mo_isOfKind 9 rfl) (by decide) ?_
      refine aw_icmpN_ne (tgt := 38) (aw_d q_Mo_isOfKind 10 rfl) (by decide) (by omega) (by omega) (fun c18 => by exfalso; omega) (fun c18 => ?_)
      refine aw_aload_n (aw_d q_Mo_isOfKind 11 rfl) rfl rfl rfl ?_
      refine aw_getf (v := .int (nI (n))) (aw_d q_Mo_isOfKind 12 rfl) fL_Mo_93_Mo rfl (gk hn) ?_
      refine aw_iconst (v := nI 1) (aw_d q_Mo_isOfKind 13 rfl) (by decide) ?_
      refine aw_bipush (v := nI 8) (aw_d q_Mo_isOfKind 14 rfl) (by decide) ?_
      refine cSr (aw_d q_Mo_isOfKind 15 rfl) (sp_Mo_in (A := 1) (B := 8) (by decide) (by decide)) sL_Mo_81 rfl rfl rfl rfl ⟨aw_le rfl, aw_le rfl⟩ ?_
      refine aw_ifB_eq (tgt := 38) (aw_d q_Mo_isOfKind 16 rfl) (by decide) (fun c31 => ?_) (fun c31 => ?_)
      · refine aw_iconst (v := nI 0) (aw_d q_Mo_isOfKind 19 rfl) (by decide) ?_
        refine aw_istore_n (aw_d q_Mo_isOfKind 20 rfl) rfl (aw_le rfl) rfl ?_
        refine aw_iconst (v := nI 0) (aw_d q_Mo_isOfKind 21 rfl) (by decide) ?_
        refine aw_istore_n (aw_d q_Mo_isOfKind 22 rfl) rfl (aw_le rfl) rfl ?_
        exact lp_Mo_isOfKind_1 hn h3 n 0 false _ (by omega) (by simp [okM]; try omega)
      · refine aw_iconst (v := nI 1) (aw_d q_Mo_isOfKind 17 rfl) (by decide) ?_
        refine aw_goto (tgt := 39) (aw_d q_Mo_isOfKind 18 rfl) (by decide) ?_
        refine aw_istore_n (aw_d q_Mo_isOfKind 20 rfl) rfl (aw_le rfl) rfl ?_
        refine aw_iconst (v := nI 0) (aw_d q_Mo_isOfKind 21 rfl) (by decide) ?_
        refine aw_istore_n (aw_d q_Mo_isOfKind 22 rfl) rfl (aw_le rfl) rfl ?_
        exact lp_Mo_isOfKind_1 hn h3 n 0 true _ (by omega) (by simp [okM]; try omega)
    · have hk : okM kd (S.2 54) n = allB pTx (S.2 54) n 0 := by simp only [okM]; rw [if_neg h0, if_neg h1]
      refine aw_iload_n (aw_d q_Mo_isOfKind 0 rfl) rfl rfl ?_
      refine aw_iconst (v := nI 1) (aw_d q_Mo_isOfKind 1 rfl) (by decide) ?_
      refine aw_icmpN_gt (tgt := 34) (aw_d q_Mo_isOfKind 2 rfl) (by decide) (by omega) (by omega) (fun c2 => ?_) (fun c2 => by exfalso; omega)
      refine aw_iconst (v := nI 1) (aw_d q_Mo_isOfKind 17 rfl) (by decide) ?_
      refine aw_goto (tgt := 39) (aw_d q_Mo_isOfKind 18 rfl) (by decide) ?_
      refine aw_istore_n (aw_d q_Mo_isOfKind 20 rfl) rfl (aw_le rfl) rfl ?_
      refine aw_iconst (v := nI 0) (aw_d q_Mo_isOfKind 21 rfl) (by decide) ?_
      refine aw_istore_n (aw_d q_Mo_isOfKind 22 rfl) rfl (aw_le rfl) rfl ?_
      exact lp_Mo_isOfKind_2 (kd := kd) hn h3 (by omega) hkd n 0 true _ (by omega) (by rw [hk]; rfl)
set_option maxRecDepth 20000 in
theorem lp_Mo_find_in {g : aw_G} {S : aw_S} {nt : Nat} {tl : Nat → Nat} (hT : TmI S nt tl) {n : Nat} (hn : S.1 3334 = nI n) (h3 : n ≤ 20) {kk ee : Int32} {t : Nat} (ht : t < nt) {tot : Bool} (K : ∀ x5 : Option Value, AW g M_Mo_find (aw_rm 0 0 0 0) (aw_F g 0 0 (fun r h => r = some (.int (nI ((fdB (tmB (S.2 37) (S.2 38) (S.2 39) (S.2 40) kk ee n (S.2 54)) nt 0).getD nt))) ∧ h = HP S)) 102 [some (.ref 33), some (.int kk), some (.int ee), some (.int (nI t)), some (.int (if tot = true then nI 1 else nI 0)), x5] [] (HP S) 0 0) : ∀ (m k : Nat) (b : Bool), m + k = n → (b && eqB (fun i => S.2 40 (t * 20 + i)) (S.2 54) m k) = tot → AW g M_Mo_find (aw_rm 0 0 0 0) (aw_F g 0 0 (fun r h => r = some (.int (nI ((fdB (tmB (S.2 37) (S.2 38) (S.2 39) (S.2 40) kk ee n (S.2 54)) nt 0).getD nt))) ∧ h = HP S)) 53 [some (.ref 33), some (.int kk), some (.int ee), some (.int (nI t)), some (.int (if b = true then nI 1 else nI 0)), some (.int (nI k))] [] (HP S) 0 0 := by
  intro m
  induction m with
  | zero =>
    intro k b hk e
    refine aw_iload (aw_d q_Mo_find 31 rfl) rfl ?_
    refine aw_aload_n (aw_d q_Mo_find 32 rfl) rfl rfl rfl ?_
    refine aw_getf (v := .int (nI (n))) (aw_d q_Mo_find 33 rfl) fL_Mo_93_Mo rfl (gk hn) ?_
    refine aw_icmpN_ge (tgt := 102) (aw_d q_Mo_find 34 rfl) (by decide) (by (have hT2 := hT.2.1; omega)) (by (have hT2 := hT.2.1; omega)) (fun c59 => ?_) (fun c59 => by exfalso; (have hT2 := hT.2.1; omega))
    have e : b = tot := by rw [← e]; simp [eqB]
    subst e
    exact K _
  | succ m ih =>
    intro k b hk e
    refine aw_iload (aw_d q_Mo_find 31 rfl) rfl ?_
    refine aw_aload_n (aw_d q_Mo_find 32 rfl) rfl rfl rfl ?_
    refine aw_getf (v := .int (nI (n))) (aw_d q_Mo_find 33 rfl) fL_Mo_93_Mo rfl (gk hn) ?_
    refine aw_icmpN_ge (tgt := 102) (aw_d q_Mo_find 34 rfl) (by decide) (by (have hT2 := hT.2.1; omega)) (by (have hT2 := hT.2.1; omega)) (fun c59 => by exfalso; (have hT2 := hT.2.1; omega)) (fun c59 => ?_)
    refine aw_iload (aw_d q_Mo_find 35 rfl) rfl ?_
    refine aw_ifB_eq (tgt := 102) (aw_d q_Mo_find 36 rfl) (by decide) (fun c64 => ?_) (fun c64 => ?_)
    · have hb : b = false := by simpa using c64
      subst hb
      have e : false = tot := by rw [← e]; rfl
      subst e
      exact K _
    · refine aw_aload_n (aw_d q_Mo_find 37 rfl) rfl rfl rfl ?_
      refine aw_getf (aw_d q_Mo_find 38 rfl) fL_Mo_28_Mo rfl rfl ?_
      refine aw_bipush (v := nI 20) (aw_d q_Mo_find 39 rfl) (by decide) ?_
      refine aw_iload_n (aw_d q_Mo_find 40 rfl) rfl rfl ?_
      refine aw_imulN (aw_d q_Mo_find 41 rfl) ?_
      refine aw_iload (aw_d q_Mo_find 42 rfl) rfl ?_
      refine aw_iaddN (aw_d q_Mo_find 43 rfl) ?_
      refine aw_ialdN (aw_d q_Mo_find 44 rfl) rfl (by (have hT2 := hT.2.1; omega)) rfl ?_
      refine aw_aload_n (aw_d q_Mo_find 45 rfl) rfl rfl rfl ?_
      refine aw_getf (aw_d q_Mo_find 46 rfl) fL_Mo_71_Mo rfl rfl ?_
      refine aw_iload (aw_d q_Mo_find 47 rfl) rfl ?_
      refine aw_ialdN (aw_d q_Mo_find 48 rfl) rfl (by (have hT2 := hT.2.1; omega)) rfl ?_
      refine aw_icmpZ_ne (tgt := 93) (aw_d q_Mo_find 49 rfl) (by decide) (fun c86 => ?_) (fun c86 => ?_)
      · have c86 : ¬ S.2 40 (t * 20 + k) = S.2 54 k := fun q => c86 (by rw [Nat.mul_comm 20 t, q])
        refine aw_iconst (v := nI 0) (aw_d q_Mo_find 52 rfl) (by decide) ?_
        refine aw_istore (aw_d q_Mo_find 53 rfl) (aw_le rfl) rfl ?_
        refine aw_iinc (aw_d q_Mo_find 54 rfl) rfl (ii1 _) (aw_le rfl) rfl ?_
        refine aw_goto (tgt := 53) (aw_d q_Mo_find 55 rfl) (by decide) ?_
        exact ih (k + 1) false (by omega) (by rw [← e]; simp [eqB, c86])
      · have c86 : S.2 40 (t * 20 + k) = S.2 54 k := by rw [Nat.mul_comm t 20]; exact Int32.toInt_inj.mp c86
        refine aw_iconst (v := nI 1) (aw_d q_Mo_find 50 rfl) (by decide) ?_
        refine aw_goto (tgt := 94) (aw_d q_Mo_find 51 rfl) (by decide) ?_
        refine aw_istore (aw_d q_Mo_find 53 rfl) (aw_le rfl) rfl ?_
        refine aw_iinc (aw_d q_Mo_find 54 rfl) rfl (ii1 _) (aw_le rfl) rfl ?_
        refine aw_goto (tgt := 53) (aw_d q_Mo_find 55 rfl) (by decide) ?_
        exact ih (k + 1) true (by omega) (by rw [← e]; simp [eqB, c64, c86])
set_option maxRecDepth 20000 in
theorem lp_Mo_find {g : aw_G} {S : aw_S} {nt : Nat} {tl : Nat → Nat} (hT : TmI S nt tl) {n : Nat} (hn : S.1 3334 = nI n) (h3 : n ≤ 20) {kk ee : Int32} : ∀ (m t : Nat) (x4 x5 : Option Value), m + t = nt → fdB (tmB (S.2 37) (S.2 38) (S.2 39) (S.2 40) kk ee n (S.2 54)) nt 0 = fdB (tmB (S.2 37) (S.2 38) (S.2 39) (S.2 40) kk ee n (S.2 54)) m t → AW g M_Mo_find (aw_rm 0 0 0 0) (aw_F g 0 0 (fun r h => r = some (.int (nI ((fdB (tmB (S.2 37) (S.2 38) (S.2 39) (S.2 40) kk ee n (S.2 54)) nt 0).getD nt))) ∧ h = HP S)) 2 [some (.ref 33), some (.int kk), some (.int ee), some (.int (nI t)), x4, x5] [] (HP S) 0 0 := by
  intro m
  induction m with
  | zero =>
    intro t x4 x5 hk e
    refine aw_iload_n (aw_d q_Mo_find 2 rfl) rfl rfl ?_
    refine aw_aload_n (aw_d q_Mo_find 3 rfl) rfl rfl rfl ?_
    refine aw_getf (v := .int (nI (nt))) (aw_d q_Mo_find 4 rfl) fL_Mo_109_Mo rfl (gk hT.1) ?_
    refine aw_icmpN_ge (tgt := 115) (aw_d q_Mo_find 5 rfl) (by decide) (by (have hT2 := hT.2.1; omega)) (by (have hT2 := hT.2.1; omega)) (fun c7 => ?_) (fun c7 => by exfalso; (have hT2 := hT.2.1; omega))
    refine aw_aload_n (aw_d q_Mo_find 62 rfl) rfl rfl rfl ?_
    refine aw_getf (v := .int (nI (nt))) (aw_d q_Mo_find 63 rfl) fL_Mo_109_Mo rfl (gk hT.1) ?_
    exact aw_iret (aw_d q_Mo_find 64 rfl) rfl (⟨by rw [e]; rfl, rfl⟩)
  | succ m ih =>
    intro t x4 x5 hk e
    refine aw_iload_n (aw_d q_Mo_find 2 rfl) rfl rfl ?_
    refine aw_aload_n (aw_d q_Mo_find 3 rfl) rfl rfl rfl ?_
    refine aw_getf (v := .int (nI (nt))) (aw_d q_Mo_find 4 rfl) fL_Mo_109_Mo rfl (gk hT.1) ?_
    refine aw_icmpN_ge (tgt := 115) (aw_d q_Mo_find 5 rfl) (by decide) (by (have hT2 := hT.2.1; omega)) (by (have hT2 := hT.2.1; omega)) (fun c7 => by exfalso; (have hT2 := hT.2.1; omega)) (fun c7 => ?_)
    have ht : t < nt := by omega
    have hq := (hT.2.2 t ht).1
    have hq2 := (hT.2.2 t ht).2
    refine aw_aload_n (aw_d q_Mo_find 6 rfl) rfl rfl rfl ?_
    refine aw_getf (aw_d q_Mo_find 7 rfl) fL_Mo_19_Mo rfl rfl ?_
    refine aw_iload_n (aw_d q_Mo_find 8 rfl) rfl rfl ?_
    refine aw_ialdN (aw_d q_Mo_find 9 rfl) rfl (by (have hT2 := hT.2.1; omega)) rfl ?_
    refine aw_iload_n (aw_d q_Mo_find 10 rfl) rfl rfl ?_
    refine aw_icmpZ_ne (tgt := 47) (aw_d q_Mo_find 11 rfl) (by decide) (fun c17 => ?_) (fun c17 => ?_)
    · have hp : tmB (S.2 37) (S.2 38) (S.2 39) (S.2 40) kk ee n (S.2 54) t = false := by simp only [tmB]; rw [decide_eq_false (fun q => c17 (by rw [q]))]; rfl
      refine aw_iconst (v := nI 0) (aw_d q_Mo_find 27 rfl) (by decide) ?_
      refine aw_istore (aw_d q_Mo_find 28 rfl) (aw_le rfl) rfl ?_
      refine aw_iconst (v := nI 0) (aw_d q_Mo_find 29 rfl) (by decide) ?_
      refine aw_istore (aw_d q_Mo_find 30 rfl) (aw_le rfl) rfl ?_
      refine AW.to (lp_Mo_find_in hT hn h3 ht (tot := tmB (S.2 37) (S.2 38) (S.2 39) (S.2 40) kk ee n (S.2 54) t) (fun x5 => ?_) n 0 false (by omega) (by rw [hp]; rfl)) rfl rfl rfl rfl
      refine aw_iload (aw_d q_Mo_find 56 rfl) rfl ?_
      refine aw_ifB_eq (tgt := 109) (aw_d q_Mo_find 57 rfl) (by decide) (fun c104 => ?_) (fun c104 => ?_)
      · refine aw_iinc (aw_d q_Mo_find 60 rfl) rfl (ii1 _) (aw_le rfl) rfl ?_
        refine aw_goto (tgt := 2) (aw_d q_Mo_find 61 rfl) (by decide) ?_
        exact ih (t + 1) _ _ (by omega) (e.trans (by simp only [fdB]; rw [if_neg c104]))
      · refine aw_iload_n (aw_d q_Mo_find 58 rfl) rfl rfl ?_
        exact aw_iret (aw_d q_Mo_find 59 rfl) rfl (⟨by rw [e]; simp only [fdB]; rw [if_pos c104]; rfl, rfl⟩)
    · have c17 := Int32.toInt_inj.mp c17
      refine aw_aload_n (aw_d q_Mo_find 12 rfl) rfl rfl rfl ?_
      refine aw_getf (aw_d q_Mo_find 13 rfl) fL_Mo_22_Mo rfl rfl ?_
      refine aw_iload_n (aw_d q_Mo_find 14 rfl) rfl rfl ?_
      refine aw_ialdN (aw_d q_Mo_find 15 rfl) rfl (by (have hT2 := hT.2.1; omega)) rfl ?_
      refine aw_iload_n (aw_d q_Mo_find 16 rfl) rfl rfl ?_
      refine aw_icmpZ_ne (tgt := 47) (aw_d q_Mo_find 17 rfl) (by decide) (fun c27 => ?_) (fun c27 => ?_)
      · have hp : tmB (S.2 37) (S.2 38) (S.2 39) (S.2 40) kk ee n (S.2 54) t = false := by simp only [tmB]; rw [decide_eq_false (p := S.2 38 t = ee) (fun q => c27 (by rw [q]))]; simp
        refine aw_iconst (v := nI 0) (aw_d q_Mo_find 27 rfl) (by decide) ?_
        refine aw_istore (aw_d q_Mo_find 28 rfl) (aw_le rfl) rfl ?_
        refine aw_iconst (v := nI 0) (aw_d q_Mo_find 29 rfl) (by decide) ?_
        refine aw_istore (aw_d q_Mo_find 30 rfl) (aw_le rfl) rfl ?_
        refine AW.to (lp_Mo_find_in hT hn h3 ht (tot := tmB (S.2 37) (S.2 38) (S.2 39) (S.2 40) kk ee n (S.2 54) t) (fun x5 => ?_) n 0 false (by omega) (by rw [hp]; rfl)) rfl rfl rfl rfl
        refine aw_iload (aw_d q_Mo_find 56 rfl) rfl ?_
        refine aw_ifB_eq (tgt := 109) (aw_d q_Mo_find 57 rfl) (by decide) (fun c104 => ?_) (fun c104 => ?_)
        · refine aw_iinc (aw_d q_Mo_find 60 rfl) rfl (ii1 _) (aw_le rfl) rfl ?_
          refine aw_goto (tgt := 2) (aw_d q_Mo_find 61 rfl) (by decide) ?_
          exact ih (t + 1) _ _ (by omega) (e.trans (by simp only [fdB]; rw [if_neg c104]))
        · refine aw_iload_n (aw_d q_Mo_find 58 rfl) rfl rfl ?_
          exact aw_iret (aw_d q_Mo_find 59 rfl) rfl (⟨by rw [e]; simp only [fdB]; rw [if_pos c104]; rfl, rfl⟩)
      · have c27 := Int32.toInt_inj.mp c27
        refine aw_aload_n (aw_d q_Mo_find 18 rfl) rfl rfl rfl ?_
        refine aw_getf (aw_d q_Mo_find 19 rfl) fL_Mo_25_Mo rfl rfl ?_
        refine aw_iload_n (aw_d q_Mo_find 20 rfl) rfl rfl ?_
        refine aw_ialdK (w := nI (tl t)) (aw_d q_Mo_find 21 rfl) rfl (by (have hT2 := hT.2.1; omega)) rfl ((hT.2.2 t ht).1) ?_
        refine aw_aload_n (aw_d q_Mo_find 22 rfl) rfl rfl rfl ?_
        refine aw_getf (v := .int (nI (n))) (aw_d q_Mo_find 23 rfl) fL_Mo_93_Mo rfl (gk hn) ?_
        refine aw_icmpN_ne (tgt := 47) (aw_d q_Mo_find 24 rfl) (by decide) (by (have hT2 := hT.2.1; omega)) (by (have hT2 := hT.2.1; omega)) (fun c40 => ?_) (fun c40 => ?_)
        · have hp : tmB (S.2 37) (S.2 38) (S.2 39) (S.2 40) kk ee n (S.2 54) t = false := by simp only [tmB]; rw [decide_eq_false (p := S.2 39 t = nI n) (fun q => c40 ((nI_eq (by omega) (by omega)).mp (hq.symm.trans q)))]; simp
          refine aw_iconst (v := nI 0) (aw_d q_Mo_find 27 rfl) (by decide) ?_
          refine aw_istore (aw_d q_Mo_find 28 rfl) (aw_le rfl) rfl ?_
          refine aw_iconst (v := nI 0) (aw_d q_Mo_find 29 rfl) (by decide) ?_
          refine aw_istore (aw_d q_Mo_find 30 rfl) (aw_le rfl) rfl ?_
          refine AW.to (lp_Mo_find_in hT hn h3 ht (tot := tmB (S.2 37) (S.2 38) (S.2 39) (S.2 40) kk ee n (S.2 54) t) (fun x5 => ?_) n 0 false (by omega) (by rw [hp]; rfl)) rfl rfl rfl rfl
          refine aw_iload (aw_d q_Mo_find 56 rfl) rfl ?_
          refine aw_ifB_eq (tgt := 109) (aw_d q_Mo_find 57 rfl) (by decide) (fun c104 => ?_) (fun c104 => ?_)
          · refine aw_iinc (aw_d q_Mo_find 60 rfl) rfl (ii1 _) (aw_le rfl) rfl ?_
            refine aw_goto (tgt := 2) (aw_d q_Mo_find 61 rfl) (by decide) ?_
            exact ih (t + 1) _ _ (by omega) (e.trans (by simp only [fdB]; rw [if_neg c104]))
          · refine aw_iload_n (aw_d q_Mo_find 58 rfl) rfl rfl ?_
            exact aw_iret (aw_d q_Mo_find 59 rfl) rfl (⟨by rw [e]; simp only [fdB]; rw [if_pos c104]; rfl, rfl⟩)
        · have hp : tmB (S.2 37) (S.2 38) (S.2 39) (S.2 40) kk ee n (S.2 54) t = eqB (fun i => S.2 40 (t * 20 + i)) (S.2 54) n 0 := by simp only [tmB]; rw [decide_eq_true c17, decide_eq_true c27, decide_eq_true (show S.2 39 t = nI n by rw [hq, c40])]; rfl
          refine aw_iconst (v := nI 1) (aw_d q_Mo_find 25 rfl) (by decide) ?_
          refine aw_goto (tgt := 48) (aw_d q_Mo_find 26 rfl) (by decide) ?_
          refine aw_istore (aw_d q_Mo_find 28 rfl) (aw_le rfl) rfl ?_
          refine aw_iconst (v := nI 0) (aw_d q_Mo_find 29 rfl) (by decide) ?_
          refine aw_istore (aw_d q_Mo_find 30 rfl) (aw_le rfl) rfl ?_
          refine AW.to (lp_Mo_find_in hT hn h3 ht (tot := tmB (S.2 37) (S.2 38) (S.2 39) (S.2 40) kk ee n (S.2 54) t) (fun x5 => ?_) n 0 true (by omega) (by rw [hp]; rfl)) rfl rfl rfl rfl
          refine aw_iload (aw_d q_Mo_find 56 rfl) rfl ?_
          refine aw_ifB_eq (tgt := 109) (aw_d q_Mo_find 57 rfl) (by decide) (fun c104 => ?_) (fun c104 => ?_)
          · refine aw_iinc (aw_d q_Mo_find 60 rfl) rfl (ii1 _) (aw_le rfl) rfl ?_
            refine aw_goto (tgt := 2) (aw_d q_Mo_find 61 rfl) (by decide) ?_
            exact ih (t + 1) _ _ (by omega) (e.trans (by simp only [fdB]; rw [if_neg c104]))
          · refine aw_iload_n (aw_d q_Mo_find 58 rfl) rfl rfl ?_
            exact aw_iret (aw_d q_Mo_find 59 rfl) rfl (⟨by rw [e]; simp only [fdB]; rw [if_pos c104]; rfl, rfl⟩)
set_option maxRecDepth 20000 in
theorem sp_Mo_find {g : aw_G} {S : aw_S} {nt : Nat} {tl : Nat → Nat} (hT : TmI S nt tl) {n : Nat} (hn : S.1 3334 = nI n) (h3 : n ≤ 20) {kk ee : Int32} : Sp g M_Mo_find 0 0 0 0 [.ref 33, .int kk, .int ee] (HP S) (fun r h => r = some (.int (nI ((fdB (tmB (S.2 37) (S.2 38) (S.2 39) (S.2 40) kk ee n (S.2 54)) nt 0).getD nt))) ∧ h = HP S) := by
  refine Sp.of rfl (aw_le rfl) ?_
  refine aw_iconst (v := nI 0) (aw_d q_Mo_find 0 rfl) (by decide) ?_
  refine aw_istore_n (aw_d q_Mo_find 1 rfl) rfl (aw_le rfl) rfl ?_
  exact lp_Mo_find hT hn h3 nt 0 _ _ (by omega) rfl
