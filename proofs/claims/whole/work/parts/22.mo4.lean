set_option maxRecDepth 20000 in
theorem lp_Mo_var1 {g : aw_G} {S : aw_S} {n : Nat} (h3 : n ≤ 3000) {post : Option Value → aw_hp → Prop} {tot : Bool} (K : ∀ x3 : Option Value, AW g M_Mo_variable (aw_rm 2 42 0 0) (aw_F g 0 0 post) 53 [some (.ref 33), some (.int (nI n)), some (.int (if tot = true then nI 1 else nI 0)), x3, none, none] [] (HP S) 0 0) : ∀ (m k : Nat) (b : Bool), m + k = n → (b && allB pLet (S.2 34) m k) = tot → AW g M_Mo_variable (aw_rm 2 42 0 0) (aw_F g 0 0 (post)) 20 [some (.ref 33), some (.int (nI n)), some (.int (if b = true then nI 1 else nI 0)), some (.int (nI k)), none, none] [] (HP S) 0 0 := by
  intro m
  induction m with
  | zero =>
    intro k b hk e
    refine aw_iload_n (aw_d q_Mo_variable 13 rfl) rfl rfl ?_
    refine aw_iload_n (aw_d q_Mo_variable 14 rfl) rfl rfl ?_
    refine aw_icmpN_ge (tgt := 53) (aw_d q_Mo_variable 15 rfl) (by decide) (by omega) (by omega) (fun c22 => ?_) (fun c22 => by exfalso; omega)
    have e : b = tot := by rw [← e]; simp [allB]
    subst e
    exact K _
  | succ m ih =>
    intro k b hk e
    refine aw_iload_n (aw_d q_Mo_variable 13 rfl) rfl rfl ?_
    refine aw_iload_n (aw_d q_Mo_variable 14 rfl) rfl rfl ?_
    refine aw_icmpN_ge (tgt := 53) (aw_d q_Mo_variable 15 rfl) (by decide) (by omega) (by omega) (fun c22 => by exfalso; omega) (fun c22 => ?_)
    refine aw_iload_n (aw_d q_Mo_variable 16 rfl) rfl rfl ?_
    refine aw_ifB_eq (tgt := 45) (aw_d q_Mo_variable 17 rfl) (by decide) (fun c26 => ?_) (fun c26 => ?_)
    · have hp : b = false := by simpa using c26
      refine aw_iconst (v := nI 0) (aw_d q_Mo_variable 26 rfl) (by decide) ?_
      refine aw_istore_n (aw_d q_Mo_variable 27 rfl) rfl (aw_le rfl) rfl ?_
      refine aw_iinc (aw_d q_Mo_variable 28 rfl) rfl (ii1 _) (aw_le rfl) rfl ?_
      refine aw_goto (tgt := 20) (aw_d q_Mo_variable 29 rfl) (by decide) ?_
      exact ih (k + 1) false (by omega) (by rw [← e]; simp [allB, hp])
    · refine aw_aload_n (aw_d q_Mo_variable 18 rfl) rfl rfl rfl ?_
      refine aw_getf (aw_d q_Mo_variable 19 rfl) fL_Mo_7_Mo rfl rfl ?_
      refine aw_iload_n (aw_d q_Mo_variable 20 rfl) rfl rfl ?_
      refine aw_ialdN (aw_d q_Mo_variable 21 rfl) rfl (by omega) rfl ?_
      refine cSr (aw_d q_Mo_variable 22 rfl) (sp_Mo_isLetter) sL_Mo_100 rfl rfl rfl rfl ⟨aw_le rfl, aw_le rfl⟩ ?_
      refine aw_ifB_eq (tgt := 45) (aw_d q_Mo_variable 23 rfl) (by decide) (fun c38 => ?_) (fun c38 => ?_)
      · have hp : ¬ pLet (S.2 34 k) = true := c38
        refine aw_iconst (v := nI 0) (aw_d q_Mo_variable 26 rfl) (by decide) ?_
        refine aw_istore_n (aw_d q_Mo_variable 27 rfl) rfl (aw_le rfl) rfl ?_
        refine aw_iinc (aw_d q_Mo_variable 28 rfl) rfl (ii1 _) (aw_le rfl) rfl ?_
        refine aw_goto (tgt := 20) (aw_d q_Mo_variable 29 rfl) (by decide) ?_
        exact ih (k + 1) false (by omega) (by rw [← e]; simp [allB, hp])
      · have hp : pLet (S.2 34 k) = true := c38
        refine aw_iconst (v := nI 1) (aw_d q_Mo_variable 24 rfl) (by decide) ?_
        refine aw_goto (tgt := 46) (aw_d q_Mo_variable 25 rfl) (by decide) ?_
        refine aw_istore_n (aw_d q_Mo_variable 27 rfl) rfl (aw_le rfl) rfl ?_
        refine aw_iinc (aw_d q_Mo_variable 28 rfl) rfl (ii1 _) (aw_le rfl) rfl ?_
        refine aw_goto (tgt := 20) (aw_d q_Mo_variable 29 rfl) (by decide) ?_
        exact ih (k + 1) true (by omega) (by rw [← e]; simp [allB, c26, hp])
set_option maxRecDepth 20000 in
theorem lp_Mo_var3 {g : aw_G} {S : aw_S} {nv nr : Nat} {nl : Nat → Nat} (hB : TmB S nv nr nl) {n : Nat} (h3 : n ≤ 3000) {post : Option Value → aw_hp → Prop} {v : Nat} {gd : Int32} (hv : v < nv) (h8 : n ≤ 8) {tot : Bool} (K : ∀ x5 : Option Value, AW g M_Mo_variable (aw_rm 2 42 0 0) (aw_F g 0 0 post) 133 [some (.ref 33), some (.int (nI n)), some (.int gd), some (.int (nI v)), some (.int (if tot = true then nI 1 else nI 0)), x5] [] (HP S) 0 0) : ∀ (m k : Nat) (b : Bool), m + k = n → (b && eqB (fun i => S.2 42 (v * 8 + i)) (S.2 34) m k) = tot → AW g M_Mo_variable (aw_rm 2 42 0 0) (aw_F g 0 0 (post)) 87 [some (.ref 33), some (.int (nI n)), some (.int gd), some (.int (nI v)), some (.int (if b = true then nI 1 else nI 0)), some (.int (nI k))] [] (HP S) 0 0 := by
  intro m
  induction m with
  | zero =>
    intro k b hk e
    refine aw_iload (aw_d q_Mo_variable 50 rfl) rfl ?_
    refine aw_iload_n (aw_d q_Mo_variable 51 rfl) rfl rfl ?_
    refine aw_icmpN_ge (tgt := 133) (aw_d q_Mo_variable 52 rfl) (by decide) (by (have hB2 := hB.2.1; have hB4 := hB.2.2.2.1; omega)) (by (have hB2 := hB.2.1; have hB4 := hB.2.2.2.1; omega)) (fun c90 => ?_) (fun c90 => by exfalso; (have hB2 := hB.2.1; have hB4 := hB.2.2.2.1; omega))
    have e : b = tot := by rw [← e]; simp [eqB]
    subst e
    exact K _
  | succ m ih =>
    intro k b hk e
    refine aw_iload (aw_d q_Mo_variable 50 rfl) rfl ?_
    refine aw_iload_n (aw_d q_Mo_variable 51 rfl) rfl rfl ?_
    refine aw_icmpN_ge (tgt := 133) (aw_d q_Mo_variable 52 rfl) (by decide) (by (have hB2 := hB.2.1; have hB4 := hB.2.2.2.1; omega)) (by (have hB2 := hB.2.1; have hB4 := hB.2.2.2.1; omega)) (fun c90 => by exfalso; (have hB2 := hB.2.1; have hB4 := hB.2.2.2.1; omega)) (fun c90 => ?_)
    refine aw_iload (aw_d q_Mo_variable 53 rfl) rfl ?_
    refine aw_ifB_eq (tgt := 133) (aw_d q_Mo_variable 54 rfl) (by decide) (fun c95 => ?_) (fun c95 => ?_)
    · have hb : b = false := by simpa using c95
      subst hb
      have e : false = tot := by rw [← e]; rfl
      subst e
      exact K _
    · refine aw_aload_n (aw_d q_Mo_variable 55 rfl) rfl rfl rfl ?_
      refine aw_getf (aw_d q_Mo_variable 56 rfl) fL_Mo_34_Mo rfl rfl ?_
      refine aw_bipush (v := nI 8) (aw_d q_Mo_variable 57 rfl) (by decide) ?_
      refine aw_iload_n (aw_d q_Mo_variable 58 rfl) rfl rfl ?_
      refine aw_imulN (aw_d q_Mo_variable 59 rfl) ?_
      refine aw_iload (aw_d q_Mo_variable 60 rfl) rfl ?_
      refine aw_iaddN (aw_d q_Mo_variable 61 rfl) ?_
      refine aw_ialdN (aw_d q_Mo_variable 62 rfl) rfl (by (have hB2 := hB.2.1; have hB4 := hB.2.2.2.1; omega)) rfl ?_
      refine aw_aload_n (aw_d q_Mo_variable 63 rfl) rfl rfl rfl ?_
      refine aw_getf (aw_d q_Mo_variable 64 rfl) fL_Mo_7_Mo rfl rfl ?_
      refine aw_iload (aw_d q_Mo_variable 65 rfl) rfl ?_
      refine aw_ialdN (aw_d q_Mo_variable 66 rfl) rfl (by (have hB2 := hB.2.1; have hB4 := hB.2.2.2.1; omega)) rfl ?_
      refine aw_icmpZ_ne (tgt := 124) (aw_d q_Mo_variable 67 rfl) (by decide) (fun c117 => ?_) (fun c117 => ?_)
      · have c117 : ¬ S.2 42 (v * 8 + k) = S.2 34 k := fun q => c117 (by rw [Nat.mul_comm 8 v, q])
        refine aw_iconst (v := nI 0) (aw_d q_Mo_variable 70 rfl) (by decide) ?_
        refine aw_istore (aw_d q_Mo_variable 71 rfl) (aw_le rfl) rfl ?_
        refine aw_iinc (aw_d q_Mo_variable 72 rfl) rfl (ii1 _) (aw_le rfl) rfl ?_
        refine aw_goto (tgt := 87) (aw_d q_Mo_variable 73 rfl) (by decide) ?_
        exact ih (k + 1) false (by omega) (by rw [← e]; simp [eqB, c117])
      · have c117 : S.2 42 (v * 8 + k) = S.2 34 k := by rw [Nat.mul_comm v 8]; exact Int32.toInt_inj.mp c117
        refine aw_iconst (v := nI 1) (aw_d q_Mo_variable 68 rfl) (by decide) ?_
        refine aw_goto (tgt := 125) (aw_d q_Mo_variable 69 rfl) (by decide) ?_
        refine aw_istore (aw_d q_Mo_variable 71 rfl) (aw_le rfl) rfl ?_
        refine aw_iinc (aw_d q_Mo_variable 72 rfl) rfl (ii1 _) (aw_le rfl) rfl ?_
        refine aw_goto (tgt := 87) (aw_d q_Mo_variable 73 rfl) (by decide) ?_
        exact ih (k + 1) true (by omega) (by rw [← e]; simp [eqB, c95, c117])
/-- no number of the m from k on is one of which p holds -/
theorem fdB_no {p : Nat → Bool} {m k : Nat} : (fdB p (m + 1) k).isNone = (!p k && (fdB p m (k + 1)).isNone) := by
  simp only [fdB]
  by_cases h : p k = true
  · rw [if_pos h, h]; rfl
  · rw [if_neg h]
    have h : p k = false := by simpa using h
    rw [h]; rfl
set_option maxRecDepth 20000 in
theorem lp_Mo_var2 {g : aw_G} {S : aw_S} {nv nr : Nat} {nl : Nat → Nat} (hB : TmB S nv nr nl) {n : Nat} (h3 : n ≤ 3000) {post : Option Value → aw_hp → Prop} {tot : Bool} (h8 : n ≤ 8 ∨ tot = false) (K : ∀ x3 x4 x5 : Option Value, AW g M_Mo_variable (aw_rm 2 42 0 0) (aw_F g 0 0 post) 150 [some (.ref 33), some (.int (nI n)), some (.int (if tot = true then nI 1 else nI 0)), x3, x4, x5] [] (HP S) 0 0) : ∀ (m v : Nat) (b : Bool) (x4 x5 : Option Value), m + v = nv → (b && (fdB (nmB (S.2 41) (S.2 42) n (S.2 34)) m v).isNone) = tot → (b = true → n ≤ 8) → AW g M_Mo_variable (aw_rm 2 42 0 0) (aw_F g 0 0 (post)) 55 [some (.ref 33), some (.int (nI n)), some (.int (if b = true then nI 1 else nI 0)), some (.int (nI v)), x4, x5] [] (HP S) 0 0 := by
  intro m
  induction m with
  | zero =>
    intro v b x4 x5 hk e hb
    refine aw_iload_n (aw_d q_Mo_variable 32 rfl) rfl rfl ?_
    refine aw_aload_n (aw_d q_Mo_variable 33 rfl) rfl rfl rfl ?_
    refine aw_getf (v := .int (nI (nv))) (aw_d q_Mo_variable 34 rfl) fL_Mo_126_Mo rfl (gk hB.1) ?_
    refine aw_icmpN_ge (tgt := 150) (aw_d q_Mo_variable 35 rfl) (by decide) (by (have hB2 := hB.2.1; have hB4 := hB.2.2.2.1; omega)) (by (have hB2 := hB.2.1; have hB4 := hB.2.2.2.1; omega)) (fun c60 => ?_) (fun c60 => by exfalso; (have hB2 := hB.2.1; have hB4 := hB.2.2.2.1; omega))
    have e : b = tot := by rw [← e]; simp [fdB]
    subst e
    exact K _ _ _
  | succ m ih =>
    intro v b x4 x5 hk e hb
    refine aw_iload_n (aw_d q_Mo_variable 32 rfl) rfl rfl ?_
    refine aw_aload_n (aw_d q_Mo_variable 33 rfl) rfl rfl rfl ?_
    refine aw_getf (v := .int (nI (nv))) (aw_d q_Mo_variable 34 rfl) fL_Mo_126_Mo rfl (gk hB.1) ?_
    refine aw_icmpN_ge (tgt := 150) (aw_d q_Mo_variable 35 rfl) (by decide) (by (have hB2 := hB.2.1; have hB4 := hB.2.2.2.1; omega)) (by (have hB2 := hB.2.1; have hB4 := hB.2.2.2.1; omega)) (fun c60 => by exfalso; (have hB2 := hB.2.1; have hB4 := hB.2.2.2.1; omega)) (fun c60 => ?_)
    refine aw_iload_n (aw_d q_Mo_variable 36 rfl) rfl rfl ?_
    refine aw_ifB_eq (tgt := 150) (aw_d q_Mo_variable 37 rfl) (by decide) (fun c64 => ?_) (fun c64 => ?_)
    · have hb0 : b = false := by simpa using c64
      subst hb0
      have e : false = tot := by rw [← e]; rfl
      subst e
      exact K _ _ _
    · have hb8 := hb c64
      subst c64
      have hv : v < nv := by omega
      have hq := (hB.2.2.2.2 v hv).1
      have hq2 := (hB.2.2.2.2 v hv).2
      refine aw_aload_n (aw_d q_Mo_variable 38 rfl) rfl rfl rfl ?_
      refine aw_getf (aw_d q_Mo_variable 39 rfl) fL_Mo_31_Mo rfl rfl ?_
      refine aw_iload_n (aw_d q_Mo_variable 40 rfl) rfl rfl ?_
      refine aw_ialdK (w := nI (nl v)) (aw_d q_Mo_variable 41 rfl) rfl (by (have hB2 := hB.2.1; have hB4 := hB.2.2.2.1; omega)) rfl ((hB.2.2.2.2 v hv).1) ?_
      refine aw_iload_n (aw_d q_Mo_variable 42 rfl) rfl rfl ?_
      refine aw_icmpN_ne (tgt := 81) (aw_d q_Mo_variable 43 rfl) (by decide) (by (have hB2 := hB.2.1; have hB4 := hB.2.2.2.1; omega)) (by (have hB2 := hB.2.1; have hB4 := hB.2.2.2.1; omega)) (fun c74 => ?_) (fun c74 => ?_)
      · have hp : nmB (S.2 41) (S.2 42) n (S.2 34) v = false := by simp only [nmB]; rw [decide_eq_false (fun q => c74 ((nI_eq (by omega) (by omega)).mp (hq.symm.trans q)))]; rfl
        refine aw_iconst (v := nI 0) (aw_d q_Mo_variable 46 rfl) (by decide) ?_
        refine aw_istore (aw_d q_Mo_variable 47 rfl) (aw_le rfl) rfl ?_
        refine aw_iconst (v := nI 0) (aw_d q_Mo_variable 48 rfl) (by decide) ?_
        refine aw_istore (aw_d q_Mo_variable 49 rfl) (aw_le rfl) rfl ?_
        refine AW.to (lp_Mo_var3 (gd := nI 1) hB h3 hv hb8 (tot := nmB (S.2 41) (S.2 42) n (S.2 34) v) (fun x5 => ?_) n 0 false (by omega) (by rw [hp]; rfl)) rfl rfl rfl rfl
        refine aw_iload (aw_d q_Mo_variable 74 rfl) rfl ?_
        refine aw_ifB_ne (tgt := 142) (aw_d q_Mo_variable 75 rfl) (by decide) (fun c135 => ?_) (fun c135 => ?_)
        · refine aw_iconst (v := nI 0) (aw_d q_Mo_variable 78 rfl) (by decide) ?_
          refine aw_istore_n (aw_d q_Mo_variable 79 rfl) rfl (aw_le rfl) rfl ?_
          refine aw_iinc (aw_d q_Mo_variable 80 rfl) rfl (ii1 _) (aw_le rfl) rfl ?_
          refine aw_goto (tgt := 55) (aw_d q_Mo_variable 81 rfl) (by decide) ?_
          exact ih (v + 1) false _ _ (by omega) (by rw [← e, fdB_no]; simp [c135]) (fun _ => hb8)
        · refine aw_iconst (v := nI 1) (aw_d q_Mo_variable 76 rfl) (by decide) ?_
          refine aw_goto (tgt := 143) (aw_d q_Mo_variable 77 rfl) (by decide) ?_
          refine aw_istore_n (aw_d q_Mo_variable 79 rfl) rfl (aw_le rfl) rfl ?_
          refine aw_iinc (aw_d q_Mo_variable 80 rfl) rfl (ii1 _) (aw_le rfl) rfl ?_
          refine aw_goto (tgt := 55) (aw_d q_Mo_variable 81 rfl) (by decide) ?_
          exact ih (v + 1) true _ _ (by omega) (by rw [← e, fdB_no]; simp [c135]) (fun _ => hb8)
      · have hp : nmB (S.2 41) (S.2 42) n (S.2 34) v = eqB (fun i => S.2 42 (v * 8 + i)) (S.2 34) n 0 := by simp only [nmB]; rw [decide_eq_true (show S.2 41 v = nI n by rw [hq, c74])]; rfl
        refine aw_iconst (v := nI 1) (aw_d q_Mo_variable 44 rfl) (by decide) ?_
        refine aw_goto (tgt := 82) (aw_d q_Mo_variable 45 rfl) (by decide) ?_
        refine aw_istore (aw_d q_Mo_variable 47 rfl) (aw_le rfl) rfl ?_
        refine aw_iconst (v := nI 0) (aw_d q_Mo_variable 48 rfl) (by decide) ?_
        refine aw_istore (aw_d q_Mo_variable 49 rfl) (aw_le rfl) rfl ?_
        refine AW.to (lp_Mo_var3 (gd := nI 1) hB h3 hv hb8 (tot := nmB (S.2 41) (S.2 42) n (S.2 34) v) (fun x5 => ?_) n 0 true (by omega) (by rw [hp]; rfl)) rfl rfl rfl rfl
        refine aw_iload (aw_d q_Mo_variable 74 rfl) rfl ?_
        refine aw_ifB_ne (tgt := 142) (aw_d q_Mo_variable 75 rfl) (by decide) (fun c135 => ?_) (fun c135 => ?_)
        · refine aw_iconst (v := nI 0) (aw_d q_Mo_variable 78 rfl) (by decide) ?_
          refine aw_istore_n (aw_d q_Mo_variable 79 rfl) rfl (aw_le rfl) rfl ?_
          refine aw_iinc (aw_d q_Mo_variable 80 rfl) rfl (ii1 _) (aw_le rfl) rfl ?_
          refine aw_goto (tgt := 55) (aw_d q_Mo_variable 81 rfl) (by decide) ?_
          exact ih (v + 1) false _ _ (by omega) (by rw [← e, fdB_no]; simp [c135]) (fun _ => hb8)
        · refine aw_iconst (v := nI 1) (aw_d q_Mo_variable 76 rfl) (by decide) ?_
          refine aw_goto (tgt := 143) (aw_d q_Mo_variable 77 rfl) (by decide) ?_
          refine aw_istore_n (aw_d q_Mo_variable 79 rfl) rfl (aw_le rfl) rfl ?_
          refine aw_iinc (aw_d q_Mo_variable 80 rfl) rfl (ii1 _) (aw_le rfl) rfl ?_
          refine aw_goto (tgt := 55) (aw_d q_Mo_variable 81 rfl) (by decide) ?_
          exact ih (v + 1) true _ _ (by omega) (by rw [← e, fdB_no]; simp [c135]) (fun _ => hb8)
set_option maxRecDepth 20000 in
theorem lp_Mo_var4 {g : aw_G} {S : aw_S} {nv nr : Nat} {nl : Nat → Nat} (hB : TmB S nv nr nl) {n : Nat} (h3 : n ≤ 3000) {good : Int32} {x4 x5 : Option Value} (h6 : nv < 6) (h8 : n ≤ 8) : ∀ (m k : Nat) (ND : Nat → Int32), m + k = n → (∀ i, i < k → ND (nv * 8 + i) = S.2 34 i) → (∀ j, j < nv * 8 → ND j = S.2 42 j) → AW g M_Mo_variable (aw_rm 2 42 0 0) (aw_F g 0 0 (fun r h => r = some (.int (nI nv)) ∧ ∃ ND : Nat → Int32, h = HP (si (sa (sa S 41 (upd (S.2 41) nv (nI n))) 42 ND) 3311 (nI (nv + 1))) ∧ (∀ i, i < n → ND (nv * 8 + i) = S.2 34 i) ∧ ∀ j, j < nv * 8 → ND j = S.2 42 j)) 190 [some (.ref 33), some (.int (nI n)), some (.int good), some (.int (nI k)), x4, x5] [] (HP (sa (sa S 41 (upd (S.2 41) nv (nI n))) 42 ND)) 0 0 := by
  intro m
  induction m with
  | zero =>
    intro k ND hk e1 e2
    refine aw_iload_n (aw_d q_Mo_variable 105 rfl) rfl rfl ?_
    refine aw_iload_n (aw_d q_Mo_variable 106 rfl) rfl rfl ?_
    refine aw_icmpN_ge (tgt := 221) (aw_d q_Mo_variable 107 rfl) (by decide) (by (have hB2 := hB.2.1; have hB4 := hB.2.2.2.1; omega)) (by (have hB2 := hB.2.1; have hB4 := hB.2.2.2.1; omega)) (fun c192 => ?_) (fun c192 => by exfalso; (have hB2 := hB.2.1; have hB4 := hB.2.2.2.1; omega))
    refine aw_aload_n (aw_d q_Mo_variable 123 rfl) rfl rfl rfl ?_
    refine aw_dup (aw_d q_Mo_variable 124 rfl) rfl ?_
    refine aw_getf (v := .int (nI (nv))) (aw_d q_Mo_variable 125 rfl) fL_Mo_126_Mo rfl (gk hB.1) ?_
    refine aw_iconst (v := nI 1) (aw_d q_Mo_variable 126 rfl) (by decide) ?_
    refine aw_iaddN (aw_d q_Mo_variable 127 rfl) ?_
    refine wi_33_11 (aw_d q_Mo_variable 128 rfl) pL_Mo_126_Mo ?_
    refine aw_aload_n (aw_d q_Mo_variable 129 rfl) rfl rfl rfl ?_
    refine aw_getf (v := .int (nI ((nv + 1)))) (aw_d q_Mo_variable 130 rfl) fL_Mo_126_Mo rfl (gk rfl) ?_
    refine aw_iconst (v := nI 1) (aw_d q_Mo_variable 131 rfl) (by decide) ?_
    refine aw_isubN (aw_d q_Mo_variable 132 rfl) (by (have hB2 := hB.2.1; have hB4 := hB.2.2.2.1; omega)) ?_
    exact aw_iret (aw_d q_Mo_variable 133 rfl) rfl (⟨by rw [Nat.add_sub_cancel], ND, rfl, fun i hi => e1 i (by omega), e2⟩)
  | succ m ih =>
    intro k ND hk e1 e2
    refine aw_iload_n (aw_d q_Mo_variable 105 rfl) rfl rfl ?_
    refine aw_iload_n (aw_d q_Mo_variable 106 rfl) rfl rfl ?_
    refine aw_icmpN_ge (tgt := 221) (aw_d q_Mo_variable 107 rfl) (by decide) (by (have hB2 := hB.2.1; have hB4 := hB.2.2.2.1; omega)) (by (have hB2 := hB.2.1; have hB4 := hB.2.2.2.1; omega)) (fun c192 => by exfalso; (have hB2 := hB.2.1; have hB4 := hB.2.2.2.1; omega)) (fun c192 => ?_)
    refine aw_aload_n (aw_d q_Mo_variable 108 rfl) rfl rfl rfl ?_
    refine aw_getf (aw_d q_Mo_variable 109 rfl) fL_Mo_34_Mo rfl rfl ?_
    refine aw_bipush (v := nI 8) (aw_d q_Mo_variable 110 rfl) (by decide) ?_
    refine aw_aload_n (aw_d q_Mo_variable 111 rfl) rfl rfl rfl ?_
    refine aw_getf (v := .int (nI (nv))) (aw_d q_Mo_variable 112 rfl) fL_Mo_126_Mo rfl (gk hB.1) ?_
    refine aw_imulN (aw_d q_Mo_variable 113 rfl) ?_
    refine aw_iload_n (aw_d q_Mo_variable 114 rfl) rfl rfl ?_
    refine aw_iaddN (aw_d q_Mo_variable 115 rfl) ?_
    refine aw_aload_n (aw_d q_Mo_variable 116 rfl) rfl rfl rfl ?_
    refine aw_getf (aw_d q_Mo_variable 117 rfl) fL_Mo_7_Mo rfl rfl ?_
    refine aw_iload_n (aw_d q_Mo_variable 118 rfl) rfl rfl ?_
    refine aw_ialdN (aw_d q_Mo_variable 119 rfl) rfl (by (have hB2 := hB.2.1; have hB4 := hB.2.2.2.1; omega)) rfl ?_
    refine wn_42 (aw_d q_Mo_variable 120 rfl) (by (have hB2 := hB.2.1; have hB4 := hB.2.2.2.1; omega)) ?_
    refine aw_iinc (aw_d q_Mo_variable 121 rfl) rfl (ii1 _) (aw_le rfl) rfl ?_
    refine aw_goto (tgt := 190) (aw_d q_Mo_variable 122 rfl) (by decide) ?_
    refine AW.to (ih (k + 1) (upd ND (8 * nv + k) (S.2 34 k)) (by omega) (fun i hi => ?_) (fun j hj => ?_)) rfl rfl rfl rfl
    · by_cases hik : i = k
      · rw [hik, Nat.mul_comm nv 8]; exact pk_us
      · rw [pk_un (by omega)]; exact e1 i (by omega)
    · rw [pk_un (by omega)]; exact e2 j hj

set_option maxRecDepth 20000 in
theorem sp_Mo_variableB {g : aw_G} {S : aw_S} {nv nr : Nat} {nl : Nat → Nat} (hB : TmB S nv nr nl) {n : Nat} (hn : S.1 3300 = nI n) (h3 : n ≤ 3000) (hbad : ((decide (1 ≤ n ∧ n ≤ 8) && allB pLet (S.2 34) n 0) && (fdB (nmB (S.2 41) (S.2 42) n (S.2 34)) nv 0).isNone) = false) : Sp g M_Mo_variable 2 42 0 0 [.ref 33] (HP S) (fun r h => r = some (.int (-1)) ∧ h = HP (si S 3300 (nI 0))) := by
  refine Sp.of rfl (aw_le rfl) ?_
  refine aw_aload_n (aw_d q_Mo_variable 0 rfl) rfl rfl rfl ?_
  refine aw_getf (v := .int (nI (n))) (aw_d q_Mo_variable 1 rfl) fL_Mo_85_Mo rfl (gk hn) ?_
  refine aw_istore_n (aw_d q_Mo_variable 2 rfl) rfl (aw_le rfl) rfl ?_
  refine aw_aload_n (aw_d q_Mo_variable 3 rfl) rfl rfl rfl ?_
  refine aw_iconst (v := nI 0) (aw_d q_Mo_variable 4 rfl) (by decide) ?_
  refine wi_33_0 (aw_d q_Mo_variable 5 rfl) pL_Mo_85_Mo ?_
  refine aw_iload_n (aw_d q_Mo_variable 6 rfl) rfl rfl ?_
  refine aw_iconst (v := nI 1) (aw_d q_Mo_variable 7 rfl) (by decide) ?_
  refine aw_bipush (v := nI 8) (aw_d q_Mo_variable 8 rfl) (by decide) ?_
  refine cSr (aw_d q_Mo_variable 9 rfl) (sp_Mo_in (A := 1) (B := 8) (by decide) (by decide)) sL_Mo_81 rfl rfl rfl rfl ⟨aw_le rfl, aw_le rfl⟩ ?_
  have ht1 : (if (1 : Int) ≤ (nI n).toInt ∧ (nI n).toInt ≤ 8 then nI 1 else nI 0) = (if decide (1 ≤ n ∧ n ≤ 8) = true then nI 1 else nI 0) := if_same (by rw [decide_eq_true_eq, nI_toInt (by omega)]; omega)
  rw [ht1]
  refine aw_istore_n (aw_d q_Mo_variable 10 rfl) rfl (aw_le rfl) rfl ?_
  refine aw_iconst (v := nI 0) (aw_d q_Mo_variable 11 rfl) (by decide) ?_
  refine aw_istore_n (aw_d q_Mo_variable 12 rfl) rfl (aw_le rfl) rfl ?_
  refine AW.to (lp_Mo_var1 (S := si S 3300 (nI 0)) (tot := (decide (1 ≤ n ∧ n ≤ 8) && allB pLet (S.2 34) n 0)) h3 (fun x3 => ?_) n 0 (decide (1 ≤ n ∧ n ≤ 8)) (by omega) rfl) rfl rfl rfl rfl
  refine aw_iconst (v := nI 0) (aw_d q_Mo_variable 30 rfl) (by decide) ?_
  refine aw_istore_n (aw_d q_Mo_variable 31 rfl) rfl (aw_le rfl) rfl ?_
  obtain ⟨gt, hgt⟩ : ∃ gt : Bool, gt = ((decide (1 ≤ n ∧ n ≤ 8) && allB pLet (S.2 34) n 0) && (fdB (nmB (S.2 41) (S.2 42) n (S.2 34)) nv 0).isNone) := ⟨_, rfl⟩
  refine AW.to (lp_Mo_var2 (S := si S 3300 (nI 0)) (tot := gt) (show TmB (si S 3300 (nI 0)) nv nr nl from hB) h3 ?_ (fun x3 x4 x5 => ?_) nv 0 (decide (1 ≤ n ∧ n ≤ 8) && allB pLet (S.2 34) n 0) none none (by omega) hgt.symm ?_) rfl rfl rfl rfl
  · by_cases q : n ≤ 8
    · exact Or.inl q
    · right; rw [hgt, decide_eq_false (fun z => q z.2)]; rfl
  · refine aw_iload_n (aw_d q_Mo_variable 82 rfl) rfl rfl ?_
    refine aw_ifB_ne (tgt := 156) (aw_d q_Mo_variable 83 rfl) (by decide) (fun c151 => by exact absurd (hgt.symm.trans c151) (by rw [hbad]; exact Bool.false_ne_true)) (fun c151 => ?_)
    refine aw_iconst (v := (-1)) (aw_d q_Mo_variable 84 rfl) (by decide) ?_
    exact aw_iret (aw_d q_Mo_variable 85 rfl) rfl (⟨rfl, rfl⟩)
  · intro q; rw [Bool.and_eq_true, decide_eq_true_eq] at q; exact q.1.2
set_option maxRecDepth 20000 in
theorem sp_Mo_variableN {g : aw_G} {S : aw_S} {nv nr : Nat} {nl : Nat → Nat} (hB : TmB S nv nr nl) {n : Nat} (hn : S.1 3300 = nI n) (h3 : n ≤ 3000) (hgood : ((decide (1 ≤ n ∧ n ≤ 8) && allB pLet (S.2 34) n 0) && (fdB (nmB (S.2 41) (S.2 42) n (S.2 34)) nv 0).isNone) = true) (hr : 0 < nr) : Sp g M_Mo_variable 2 42 0 0 [.ref 33] (HP S) (fun r h => r = some (.int (-2)) ∧ h = HP (si S 3300 (nI 0))) := by
  refine Sp.of rfl (aw_le rfl) ?_
  refine aw_aload_n (aw_d q_Mo_variable 0 rfl) rfl rfl rfl ?_
  refine aw_getf (v := .int (nI (n))) (aw_d q_Mo_variable 1 rfl) fL_Mo_85_Mo rfl (gk hn) ?_
  refine aw_istore_n (aw_d q_Mo_variable 2 rfl) rfl (aw_le rfl) rfl ?_
  refine aw_aload_n (aw_d q_Mo_variable 3 rfl) rfl rfl rfl ?_
  refine aw_iconst (v := nI 0) (aw_d q_Mo_variable 4 rfl) (by decide) ?_
  refine wi_33_0 (aw_d q_Mo_variable 5 rfl) pL_Mo_85_Mo ?_
  refine aw_iload_n (aw_d q_Mo_variable 6 rfl) rfl rfl ?_
  refine aw_iconst (v := nI 1) (aw_d q_Mo_variable 7 rfl) (by decide) ?_
  refine aw_bipush (v := nI 8) (aw_d q_Mo_variable 8 rfl) (by decide) ?_
  refine cSr (aw_d q_Mo_variable 9 rfl) (sp_Mo_in (A := 1) (B := 8) (by decide) (by decide)) sL_Mo_81 rfl rfl rfl rfl ⟨aw_le rfl, aw_le rfl⟩ ?_
  have ht1 : (if (1 : Int) ≤ (nI n).toInt ∧ (nI n).toInt ≤ 8 then nI 1 else nI 0) = (if decide (1 ≤ n ∧ n ≤ 8) = true then nI 1 else nI 0) := if_same (by rw [decide_eq_true_eq, nI_toInt (by omega)]; omega)
  rw [ht1]
  refine aw_istore_n (aw_d q_Mo_variable 10 rfl) rfl (aw_le rfl) rfl ?_
  refine aw_iconst (v := nI 0) (aw_d q_Mo_variable 11 rfl) (by decide) ?_
  refine aw_istore_n (aw_d q_Mo_variable 12 rfl) rfl (aw_le rfl) rfl ?_
  refine AW.to (lp_Mo_var1 (S := si S 3300 (nI 0)) (tot := (decide (1 ≤ n ∧ n ≤ 8) && allB pLet (S.2 34) n 0)) h3 (fun x3 => ?_) n 0 (decide (1 ≤ n ∧ n ≤ 8)) (by omega) rfl) rfl rfl rfl rfl
  refine aw_iconst (v := nI 0) (aw_d q_Mo_variable 30 rfl) (by decide) ?_
  refine aw_istore_n (aw_d q_Mo_variable 31 rfl) rfl (aw_le rfl) rfl ?_
  obtain ⟨gt, hgt⟩ : ∃ gt : Bool, gt = ((decide (1 ≤ n ∧ n ≤ 8) && allB pLet (S.2 34) n 0) && (fdB (nmB (S.2 41) (S.2 42) n (S.2 34)) nv 0).isNone) := ⟨_, rfl⟩
  refine AW.to (lp_Mo_var2 (S := si S 3300 (nI 0)) (tot := gt) (show TmB (si S 3300 (nI 0)) nv nr nl from hB) h3 ?_ (fun x3 x4 x5 => ?_) nv 0 (decide (1 ≤ n ∧ n ≤ 8) && allB pLet (S.2 34) n 0) none none (by omega) hgt.symm ?_) rfl rfl rfl rfl
  · by_cases q : n ≤ 8
    · exact Or.inl q
    · right; rw [hgt, decide_eq_false (fun z => q z.2)]; rfl
  · refine aw_iload_n (aw_d q_Mo_variable 82 rfl) rfl rfl ?_
    refine aw_ifB_ne (tgt := 156) (aw_d q_Mo_variable 83 rfl) (by decide) (fun c151 => ?_) (fun c151 => by exact absurd (hgt.trans hgood) c151)
    refine aw_aload_n (aw_d q_Mo_variable 86 rfl) rfl rfl rfl ?_
    refine aw_getf (v := .int (nI (nr))) (aw_d q_Mo_variable 87 rfl) fL_Mo_129_Mo rfl (gk hB.2.2.1) ?_
    refine aw_ifN_le (tgt := 166) (aw_d q_Mo_variable 88 rfl) (by decide) (by (have hB2 := hB.2.1; have hB4 := hB.2.2.2.1; omega)) (fun c160 => by exfalso; (have hB2 := hB.2.1; have hB4 := hB.2.2.2.1; omega)) (fun c160 => ?_)
    refine aw_bipush (v := (-2)) (aw_d q_Mo_variable 89 rfl) (by decide) ?_
    exact aw_iret (aw_d q_Mo_variable 90 rfl) rfl (⟨rfl, rfl⟩)
  · intro q; rw [Bool.and_eq_true, decide_eq_true_eq] at q; exact q.1.2
set_option maxRecDepth 20000 in
theorem sp_Mo_variableF {g : aw_G} {S : aw_S} {nv nr : Nat} {nl : Nat → Nat} (hB : TmB S nv nr nl) {n : Nat} (hn : S.1 3300 = nI n) (h3 : n ≤ 3000) (hgood : ((decide (1 ≤ n ∧ n ≤ 8) && allB pLet (S.2 34) n 0) && (fdB (nmB (S.2 41) (S.2 42) n (S.2 34)) nv 0).isNone) = true) (hr : nr = 0) (hv : nv = 6) : Sp g M_Mo_variable 2 42 0 0 [.ref 33] (HP S) (fun r h => r = some (.int (-3)) ∧ h = HP (si S 3300 (nI 0))) := by
  refine Sp.of rfl (aw_le rfl) ?_
  refine aw_aload_n (aw_d q_Mo_variable 0 rfl) rfl rfl rfl ?_
  refine aw_getf (v := .int (nI (n))) (aw_d q_Mo_variable 1 rfl) fL_Mo_85_Mo rfl (gk hn) ?_
  refine aw_istore_n (aw_d q_Mo_variable 2 rfl) rfl (aw_le rfl) rfl ?_
  refine aw_aload_n (aw_d q_Mo_variable 3 rfl) rfl rfl rfl ?_
  refine aw_iconst (v := nI 0) (aw_d q_Mo_variable 4 rfl) (by decide) ?_
  refine wi_33_0 (aw_d q_Mo_variable 5 rfl) pL_Mo_85_Mo ?_
  refine aw_iload_n (aw_d q_Mo_variable 6 rfl) rfl rfl ?_
  refine aw_iconst (v := nI 1) (aw_d q_Mo_variable 7 rfl) (by decide) ?_
  refine aw_bipush (v := nI 8) (aw_d q_Mo_variable 8 rfl) (by decide) ?_
  refine cSr (aw_d q_Mo_variable 9 rfl) (sp_Mo_in (A := 1) (B := 8) (by decide) (by decide)) sL_Mo_81 rfl rfl rfl rfl ⟨aw_le rfl, aw_le rfl⟩ ?_
  have ht1 : (if (1 : Int) ≤ (nI n).toInt ∧ (nI n).toInt ≤ 8 then nI 1 else nI 0) = (if decide (1 ≤ n ∧ n ≤ 8) = true then nI 1 else nI 0) := if_same (by rw [decide_eq_true_eq, nI_toInt (by omega)]; omega)
  rw [ht1]
  refine aw_istore_n (aw_d q_Mo_variable 10 rfl) rfl (aw_le rfl) rfl ?_
  refine aw_iconst (v := nI 0) (aw_d q_Mo_variable 11 rfl) (by decide) ?_
  refine aw_istore_n (aw_d q_Mo_variable 12 rfl) rfl (aw_le rfl) rfl ?_
  refine AW.to (lp_Mo_var1 (S := si S 3300 (nI 0)) (tot := (decide (1 ≤ n ∧ n ≤ 8) && allB pLet (S.2 34) n 0)) h3 (fun x3 => ?_) n 0 (decide (1 ≤ n ∧ n ≤ 8)) (by omega) rfl) rfl rfl rfl rfl
  refine aw_iconst (v := nI 0) (aw_d q_Mo_variable 30 rfl) (by decide) ?_
  refine aw_istore_n (aw_d q_Mo_variable 31 rfl) rfl (aw_le rfl) rfl ?_
  obtain ⟨gt, hgt⟩ : ∃ gt : Bool, gt = ((decide (1 ≤ n ∧ n ≤ 8) && allB pLet (S.2 34) n 0) && (fdB (nmB (S.2 41) (S.2 42) n (S.2 34)) nv 0).isNone) := ⟨_, rfl⟩
  refine AW.to (lp_Mo_var2 (S := si S 3300 (nI 0)) (tot := gt) (show TmB (si S 3300 (nI 0)) nv nr nl from hB) h3 ?_ (fun x3 x4 x5 => ?_) nv 0 (decide (1 ≤ n ∧ n ≤ 8) && allB pLet (S.2 34) n 0) none none (by omega) hgt.symm ?_) rfl rfl rfl rfl
  · by_cases q : n ≤ 8
    · exact Or.inl q
    · right; rw [hgt, decide_eq_false (fun z => q z.2)]; rfl
  · refine aw_iload_n (aw_d q_Mo_variable 82 rfl) rfl rfl ?_
    refine aw_ifB_ne (tgt := 156) (aw_d q_Mo_variable 83 rfl) (by decide) (fun c151 => ?_) (fun c151 => by exact absurd (hgt.trans hgood) c151)
    refine aw_aload_n (aw_d q_Mo_variable 86 rfl) rfl rfl rfl ?_
    refine aw_getf (v := .int (nI (nr))) (aw_d q_Mo_variable 87 rfl) fL_Mo_129_Mo rfl (gk hB.2.2.1) ?_
    refine aw_ifN_le (tgt := 166) (aw_d q_Mo_variable 88 rfl) (by decide) (by (have hB2 := hB.2.1; have hB4 := hB.2.2.2.1; omega)) (fun c160 => ?_) (fun c160 => by exfalso; (have hB2 := hB.2.1; have hB4 := hB.2.2.2.1; omega))
    refine aw_aload_n (aw_d q_Mo_variable 91 rfl) rfl rfl rfl ?_
    refine aw_getf (v := .int (nI (nv))) (aw_d q_Mo_variable 92 rfl) fL_Mo_126_Mo rfl (gk hB.1) ?_
    refine aw_bipush (v := nI 6) (aw_d q_Mo_variable 93 rfl) (by decide) ?_
    refine aw_icmpN_ne (tgt := 178) (aw_d q_Mo_variable 94 rfl) (by decide) (by (have hB2 := hB.2.1; have hB4 := hB.2.2.2.1; omega)) (by (have hB2 := hB.2.1; have hB4 := hB.2.2.2.1; omega)) (fun c172 => by exfalso; (have hB2 := hB.2.1; have hB4 := hB.2.2.2.1; omega)) (fun c172 => ?_)
    refine aw_bipush (v := (-3)) (aw_d q_Mo_variable 95 rfl) (by decide) ?_
    exact aw_iret (aw_d q_Mo_variable 96 rfl) rfl (⟨rfl, rfl⟩)
  · intro q; rw [Bool.and_eq_true, decide_eq_true_eq] at q; exact q.1.2
set_option maxRecDepth 20000 in
theorem sp_Mo_variable {g : aw_G} {S : aw_S} {nv nr : Nat} {nl : Nat → Nat} (hB : TmB S nv nr nl) {n : Nat} (hn : S.1 3300 = nI n) (h3 : n ≤ 3000) (hgood : ((decide (1 ≤ n ∧ n ≤ 8) && allB pLet (S.2 34) n 0) && (fdB (nmB (S.2 41) (S.2 42) n (S.2 34)) nv 0).isNone) = true) (hr : nr = 0) (hv : nv < 6) : Sp g M_Mo_variable 2 42 0 0 [.ref 33] (HP S) (fun r h => r = some (.int (nI nv)) ∧ ∃ ND : Nat → Int32, h = HP (si (sa (sa (si S 3300 (nI 0)) 41 (upd (S.2 41) nv (nI n))) 42 ND) 3311 (nI (nv + 1))) ∧ (∀ i, i < n → ND (nv * 8 + i) = S.2 34 i) ∧ ∀ j, j < nv * 8 → ND j = S.2 42 j) := by
  refine Sp.of rfl (aw_le rfl) ?_
  refine aw_aload_n (aw_d q_Mo_variable 0 rfl) rfl rfl rfl ?_
  refine aw_getf (v := .int (nI (n))) (aw_d q_Mo_variable 1 rfl) fL_Mo_85_Mo rfl (gk hn) ?_
  refine aw_istore_n (aw_d q_Mo_variable 2 rfl) rfl (aw_le rfl) rfl ?_
  refine aw_aload_n (aw_d q_Mo_variable 3 rfl) rfl rfl rfl ?_
  refine aw_iconst (v := nI 0) (aw_d q_Mo_variable 4 rfl) (by decide) ?_
  refine wi_33_0 (aw_d q_Mo_variable 5 rfl) pL_Mo_85_Mo ?_
  refine aw_iload_n (aw_d q_Mo_variable 6 rfl) rfl rfl ?_
  refine aw_iconst (v := nI 1) (aw_d q_Mo_variable 7 rfl) (by decide) ?_
  refine aw_bipush (v := nI 8) (aw_d q_Mo_variable 8 rfl) (by decide) ?_
  refine cSr (aw_d q_Mo_variable 9 rfl) (sp_Mo_in (A := 1) (B := 8) (by decide) (by decide)) sL_Mo_81 rfl rfl rfl rfl ⟨aw_le rfl, aw_le rfl⟩ ?_
  have ht1 : (if (1 : Int) ≤ (nI n).toInt ∧ (nI n).toInt ≤ 8 then nI 1 else nI 0) = (if decide (1 ≤ n ∧ n ≤ 8) = true then nI 1 else nI 0) := if_same (by rw [decide_eq_true_eq, nI_toInt (by omega)]; omega)
  rw [ht1]
  refine aw_istore_n (aw_d q_Mo_variable 10 rfl) rfl (aw_le rfl) rfl ?_
  refine aw_iconst (v := nI 0) (aw_d q_Mo_variable 11 rfl) (by decide) ?_
  refine aw_istore_n (aw_d q_Mo_variable 12 rfl) rfl (aw_le rfl) rfl ?_
  refine AW.to (lp_Mo_var1 (S := si S 3300 (nI 0)) (tot := (decide (1 ≤ n ∧ n ≤ 8) && allB pLet (S.2 34) n 0)) h3 (fun x3 => ?_) n 0 (decide (1 ≤ n ∧ n ≤ 8)) (by omega) rfl) rfl rfl rfl rfl
  refine aw_iconst (v := nI 0) (aw_d q_Mo_variable 30 rfl) (by decide) ?_
  refine aw_istore_n (aw_d q_Mo_variable 31 rfl) rfl (aw_le rfl) rfl ?_
  obtain ⟨gt, hgt⟩ : ∃ gt : Bool, gt = ((decide (1 ≤ n ∧ n ≤ 8) && allB pLet (S.2 34) n 0) && (fdB (nmB (S.2 41) (S.2 42) n (S.2 34)) nv 0).isNone) := ⟨_, rfl⟩
  refine AW.to (lp_Mo_var2 (S := si S 3300 (nI 0)) (tot := gt) (show TmB (si S 3300 (nI 0)) nv nr nl from hB) h3 ?_ (fun x3 x4 x5 => ?_) nv 0 (decide (1 ≤ n ∧ n ≤ 8) && allB pLet (S.2 34) n 0) none none (by omega) hgt.symm ?_) rfl rfl rfl rfl
  · by_cases q : n ≤ 8
    · exact Or.inl q
    · right; rw [hgt, decide_eq_false (fun z => q z.2)]; rfl
  · refine aw_iload_n (aw_d q_Mo_variable 82 rfl) rfl rfl ?_
    refine aw_ifB_ne (tgt := 156) (aw_d q_Mo_variable 83 rfl) (by decide) (fun c151 => ?_) (fun c151 => by exact absurd (hgt.trans hgood) c151)
    refine aw_aload_n (aw_d q_Mo_variable 86 rfl) rfl rfl rfl ?_
    refine aw_getf (v := .int (nI (nr))) (aw_d q_Mo_variable 87 rfl) fL_Mo_129_Mo rfl (gk hB.2.2.1) ?_
    refine aw_ifN_le (tgt := 166) (aw_d q_Mo_variable 88 rfl) (by decide) (by (have hB2 := hB.2.1; have hB4 := hB.2.2.2.1; omega)) (fun c160 => ?_) (fun c160 => by exfalso; (have hB2 := hB.2.1; have hB4 := hB.2.2.2.1; omega))
    refine aw_aload_n (aw_d q_Mo_variable 91 rfl) rfl rfl rfl ?_
    refine aw_getf (v := .int (nI (nv))) (aw_d q_Mo_variable 92 rfl) fL_Mo_126_Mo rfl (gk hB.1) ?_
    refine aw_bipush (v := nI 6) (aw_d q_Mo_variable 93 rfl) (by decide) ?_
    refine aw_icmpN_ne (tgt := 178) (aw_d q_Mo_variable 94 rfl) (by decide) (by (have hB2 := hB.2.1; have hB4 := hB.2.2.2.1; omega)) (by (have hB2 := hB.2.1; have hB4 := hB.2.2.2.1; omega)) (fun c172 => ?_) (fun c172 => by exfalso; (have hB2 := hB.2.1; have hB4 := hB.2.2.2.1; omega))
    refine aw_aload_n (aw_d q_Mo_variable 97 rfl) rfl rfl rfl ?_
    refine aw_getf (aw_d q_Mo_variable 98 rfl) fL_Mo_31_Mo rfl rfl ?_
    refine aw_aload_n (aw_d q_Mo_variable 99 rfl) rfl rfl rfl ?_
    refine aw_getf (v := .int (nI (nv))) (aw_d q_Mo_variable 100 rfl) fL_Mo_126_Mo rfl (gk hB.1) ?_
    refine aw_iload_n (aw_d q_Mo_variable 101 rfl) rfl rfl ?_
    refine wn_41 (aw_d q_Mo_variable 102 rfl) (by (have hB2 := hB.2.1; have hB4 := hB.2.2.2.1; omega)) ?_
    refine aw_iconst (v := nI 0) (aw_d q_Mo_variable 103 rfl) (by decide) ?_
    refine aw_istore_n (aw_d q_Mo_variable 104 rfl) rfl (aw_le rfl) rfl ?_
    have h8 : n ≤ 8 := by simp only [Bool.and_eq_true, decide_eq_true_eq] at hgood; exact hgood.1.1.2
    exact AW.to (lp_Mo_var4 (S := si S 3300 (nI 0)) (show TmB (si S 3300 (nI 0)) nv nr nl from hB) h3 hv h8 n 0 (S.2 42) (by omega) (fun i hi => by omega) (fun j hj => rfl)) rfl rfl rfl rfl
  · intro q; rw [Bool.and_eq_true, decide_eq_true_eq] at q; exact q.1.2
