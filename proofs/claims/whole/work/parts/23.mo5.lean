/-- the kept table of the reference -/
def TmK (S : aw_S) (nv nr : Nat) (nl : Nat → Nat) : Prop := S.1 3317 = nI nv ∧ nv ≤ 6 ∧ S.1 3320 = nI nr ∧ nr ≤ 24 ∧ ∀ v, v < nv → S.2 44 v = nI (nl v) ∧ nl v ≤ 8
/-- p holds of one of the m numbers from k on -/
def orB (p : Nat → Bool) : Nat → Nat → Bool
  | 0, _ => false
  | m + 1, k => p k || orB p m (k + 1)
theorem orB_iff (p : Nat → Bool) : ∀ m k, orB p m k = true ↔ 0 < cnB p m k := by
  intro m
  induction m with
  | zero => intro k; simp only [orB, cnB]; exact ⟨fun h => absurd h Bool.false_ne_true, fun h => absurd h (by omega)⟩
  | succ m ih =>
    intro k
    simp only [orB, cnB, Bool.or_eq_true]
    rw [ih (k + 1)]
    by_cases h : p k = true
    · rw [if_pos h]; exact ⟨fun _ => by omega, fun _ => Or.inl h⟩
    · rw [if_neg h]; exact ⟨fun q => by rcases q with q | q; exact absurd q h; omega, fun q => Or.inr (by omega)⟩
set_option maxRecDepth 20000 in
theorem lp_Mo_keep3 {g : aw_G} {S : aw_S} {nv nr : Nat} {nl : Nat → Nat} (hB : TmB S nv nr nl) {A1 A2 : Nat → Int32} {x2 : Option Value} (h1 : ∀ v, v < nv → A1 v = S.2 41 v) (h2 : ∀ j, j < nv * 8 → A2 j = S.2 42 j) : ∀ (m k : Nat) (A3 : Nat → Int32), m + k = nr * 6 → (∀ j, j < k → A3 j = S.2 43 j) → AW g M_Mo_keep (aw_rm 0 0 0 0) (aw_F g 0 0 (fun r h => r = some (.int (nI nr)) ∧ ∃ A1 A2 A3 : Nat → Int32, h = HP (sa (sa (sa (si (si (si S 3316 (nI 1)) 3317 (nI nv)) 3320 (nI nr)) 44 A1) 45 A2) 46 A3) ∧ (∀ v, v < nv → A1 v = S.2 41 v) ∧ (∀ j, j < nv * 8 → A2 j = S.2 42 j) ∧ ∀ j, j < nr * 6 → A3 j = S.2 43 j)) 87 [some (.ref 33), some (.int (nI k)), x2] [] (HP (sa (sa (sa (si (si (si S 3316 (nI 1)) 3317 (nI nv)) 3320 (nI nr)) 44 A1) 45 A2) 46 A3)) 0 0 := by
  intro m
  induction m with
  | zero =>
    intro k A3 hk e1
    refine aw_iload_n (aw_d q_Mo_keep 52 rfl) rfl rfl ?_
    refine aw_bipush (v := nI 6) (aw_d q_Mo_keep 53 rfl) (by decide) ?_
    refine aw_aload_n (aw_d q_Mo_keep 54 rfl) rfl rfl rfl ?_
    refine aw_getf (v := .int (nI (nr))) (aw_d q_Mo_keep 55 rfl) fL_Mo_129_Mo rfl (gk hB.2.2.1) ?_
    refine aw_imulN (aw_d q_Mo_keep 56 rfl) ?_
    refine aw_icmpN_ge (tgt := 116) (aw_d q_Mo_keep 57 rfl) (by decide) (by (have hB2 := hB.2.1; have hB4 := hB.2.2.2.1; omega)) (by (have hB2 := hB.2.1; have hB4 := hB.2.2.2.1; omega)) (fun c95 => ?_) (fun c95 => by exfalso; (have hB2 := hB.2.1; have hB4 := hB.2.2.2.1; omega))
    refine aw_aload_n (aw_d q_Mo_keep 68 rfl) rfl rfl rfl ?_
    refine aw_getf (v := .int (nI (nr))) (aw_d q_Mo_keep 69 rfl) fL_Mo_129_Mo rfl (gk hB.2.2.1) ?_
    exact aw_iret (aw_d q_Mo_keep 70 rfl) rfl (⟨rfl, A1, A2, A3, rfl, h1, h2, fun j hj => e1 j (by omega)⟩)
  | succ m ih =>
    intro k A3 hk e1
    refine aw_iload_n (aw_d q_Mo_keep 52 rfl) rfl rfl ?_
    refine aw_bipush (v := nI 6) (aw_d q_Mo_keep 53 rfl) (by decide) ?_
    refine aw_aload_n (aw_d q_Mo_keep 54 rfl) rfl rfl rfl ?_
    refine aw_getf (v := .int (nI (nr))) (aw_d q_Mo_keep 55 rfl) fL_Mo_129_Mo rfl (gk hB.2.2.1) ?_
    refine aw_imulN (aw_d q_Mo_keep 56 rfl) ?_
    refine aw_icmpN_ge (tgt := 116) (aw_d q_Mo_keep 57 rfl) (by decide) (by (have hB2 := hB.2.1; have hB4 := hB.2.2.2.1; omega)) (by (have hB2 := hB.2.1; have hB4 := hB.2.2.2.1; omega)) (fun c95 => by exfalso; (have hB2 := hB.2.1; have hB4 := hB.2.2.2.1; omega)) (fun c95 => ?_)
    refine aw_aload_n (aw_d q_Mo_keep 58 rfl) rfl rfl rfl ?_
    refine aw_getf (aw_d q_Mo_keep 59 rfl) fL_Mo_46_Mo rfl rfl ?_
    refine aw_iload_n (aw_d q_Mo_keep 60 rfl) rfl rfl ?_
    refine aw_aload_n (aw_d q_Mo_keep 61 rfl) rfl rfl rfl ?_
    refine aw_getf (aw_d q_Mo_keep 62 rfl) fL_Mo_37_Mo rfl rfl ?_
    refine aw_iload_n (aw_d q_Mo_keep 63 rfl) rfl rfl ?_
    refine aw_ialdN (aw_d q_Mo_keep 64 rfl) rfl (by (have hB2 := hB.2.1; have hB4 := hB.2.2.2.1; omega)) rfl ?_
    refine wn_46 (aw_d q_Mo_keep 65 rfl) (by (have hB2 := hB.2.1; have hB4 := hB.2.2.2.1; omega)) ?_
    refine aw_iinc (aw_d q_Mo_keep 66 rfl) rfl (ii1 _) (aw_le rfl) rfl ?_
    refine aw_goto (tgt := 87) (aw_d q_Mo_keep 67 rfl) (by decide) ?_
    refine AW.to (ih (k + 1) (upd A3 k (S.2 43 k)) (by omega) (fun j hj => ?_)) rfl rfl rfl rfl
    by_cases hjk : j = k
    · rw [hjk]; exact pk_us
    · rw [pk_un hjk]; exact e1 j (by omega)
set_option maxRecDepth 20000 in
theorem lp_Mo_keep2 {g : aw_G} {S : aw_S} {nv nr : Nat} {nl : Nat → Nat} (hB : TmB S nv nr nl) {A1 A3 : Nat → Int32} {v : Nat} (hv : v < nv) (K : ∀ (A2 : Nat → Int32) (x2 : Option Value), (∀ j, j < (v + 1) * 8 → A2 j = S.2 42 j) → AW g M_Mo_keep (aw_rm 0 0 0 0) (aw_F g 0 0 (fun r h => r = some (.int (nI nr)) ∧ ∃ A1 A2 A3 : Nat → Int32, h = HP (sa (sa (sa (si (si (si S 3316 (nI 1)) 3317 (nI nv)) 3320 (nI nr)) 44 A1) 45 A2) 46 A3) ∧ (∀ v, v < nv → A1 v = S.2 41 v) ∧ (∀ j, j < nv * 8 → A2 j = S.2 42 j) ∧ ∀ j, j < nr * 6 → A3 j = S.2 43 j)) 79 [some (.ref 33), some (.int (nI v)), x2] [] (HP (sa (sa (sa (si (si (si S 3316 (nI 1)) 3317 (nI nv)) 3320 (nI nr)) 44 A1) 45 A2) 46 A3)) 0 0) : ∀ (m k : Nat) (A2 : Nat → Int32), m + k = 8 → (∀ j, j < v * 8 + k → A2 j = S.2 42 j) → AW g M_Mo_keep (aw_rm 0 0 0 0) (aw_F g 0 0 (fun r h => r = some (.int (nI nr)) ∧ ∃ A1 A2 A3 : Nat → Int32, h = HP (sa (sa (sa (si (si (si S 3316 (nI 1)) 3317 (nI nv)) 3320 (nI nr)) 44 A1) 45 A2) 46 A3) ∧ (∀ v, v < nv → A1 v = S.2 41 v) ∧ (∀ j, j < nv * 8 → A2 j = S.2 42 j) ∧ ∀ j, j < nr * 6 → A3 j = S.2 43 j)) 45 [some (.ref 33), some (.int (nI v)), some (.int (nI k))] [] (HP (sa (sa (sa (si (si (si S 3316 (nI 1)) 3317 (nI nv)) 3320 (nI nr)) 44 A1) 45 A2) 46 A3)) 0 0 := by
  intro m
  induction m with
  | zero =>
    intro k A2 hk e1
    refine aw_iload_n (aw_d q_Mo_keep 27 rfl) rfl rfl ?_
    refine aw_bipush (v := nI 8) (aw_d q_Mo_keep 28 rfl) (by decide) ?_
    refine aw_icmpN_ge (tgt := 79) (aw_d q_Mo_keep 29 rfl) (by decide) (by (have hB2 := hB.2.1; have hB4 := hB.2.2.2.1; omega)) (by (have hB2 := hB.2.1; have hB4 := hB.2.2.2.1; omega)) (fun c48 => ?_) (fun c48 => by exfalso; (have hB2 := hB.2.1; have hB4 := hB.2.2.2.1; omega))
    exact K A2 _ (fun j hj => e1 j (by omega))
  | succ m ih =>
    intro k A2 hk e1
    refine aw_iload_n (aw_d q_Mo_keep 27 rfl) rfl rfl ?_
    refine aw_bipush (v := nI 8) (aw_d q_Mo_keep 28 rfl) (by decide) ?_
    refine aw_icmpN_ge (tgt := 79) (aw_d q_Mo_keep 29 rfl) (by decide) (by (have hB2 := hB.2.1; have hB4 := hB.2.2.2.1; omega)) (by (have hB2 := hB.2.1; have hB4 := hB.2.2.2.1; omega)) (fun c48 => by exfalso; (have hB2 := hB.2.1; have hB4 := hB.2.2.2.1; omega)) (fun c48 => ?_)
    refine aw_aload_n (aw_d q_Mo_keep 30 rfl) rfl rfl rfl ?_
    refine aw_getf (aw_d q_Mo_keep 31 rfl) fL_Mo_43_Mo rfl rfl ?_
    refine aw_bipush (v := nI 8) (aw_d q_Mo_keep 32 rfl) (by decide) ?_
    refine aw_iload_n (aw_d q_Mo_keep 33 rfl) rfl rfl ?_
    refine aw_imulN (aw_d q_Mo_keep 34 rfl) ?_
    refine aw_iload_n (aw_d q_Mo_keep 35 rfl) rfl rfl ?_
    refine aw_iaddN (aw_d q_Mo_keep 36 rfl) ?_
    refine aw_aload_n (aw_d q_Mo_keep 37 rfl) rfl rfl rfl ?_
    refine aw_getf (aw_d q_Mo_keep 38 rfl) fL_Mo_34_Mo rfl rfl ?_
    refine aw_bipush (v := nI 8) (aw_d q_Mo_keep 39 rfl) (by decide) ?_
    refine aw_iload_n (aw_d q_Mo_keep 40 rfl) rfl rfl ?_
    refine aw_imulN (aw_d q_Mo_keep 41 rfl) ?_
    refine aw_iload_n (aw_d q_Mo_keep 42 rfl) rfl rfl ?_
    refine aw_iaddN (aw_d q_Mo_keep 43 rfl) ?_
    refine aw_ialdN (aw_d q_Mo_keep 44 rfl) rfl (by (have hB2 := hB.2.1; have hB4 := hB.2.2.2.1; omega)) rfl ?_
    refine wn_45 (aw_d q_Mo_keep 45 rfl) (by (have hB2 := hB.2.1; have hB4 := hB.2.2.2.1; omega)) ?_
    refine aw_iinc (aw_d q_Mo_keep 46 rfl) rfl (ii1 _) (aw_le rfl) rfl ?_
    refine aw_goto (tgt := 45) (aw_d q_Mo_keep 47 rfl) (by decide) ?_
    refine AW.to (ih (k + 1) (upd A2 (8 * v + k) (S.2 42 (8 * v + k))) (by omega) (fun j hj => ?_)) rfl rfl rfl rfl
    by_cases hjk : j = 8 * v + k
    · rw [hjk]; exact pk_us
    · rw [pk_un hjk]; exact e1 j (by omega)
set_option maxRecDepth 20000 in
theorem lp_Mo_keep1 {g : aw_G} {S : aw_S} {nv nr : Nat} {nl : Nat → Nat} (hB : TmB S nv nr nl) {A3 : Nat → Int32} : ∀ (m v : Nat) (A1 A2 : Nat → Int32) (x2 : Option Value), m + v = nv → (∀ w, w < v → A1 w = S.2 41 w) → (∀ j, j < v * 8 → A2 j = S.2 42 j) → AW g M_Mo_keep (aw_rm 0 0 0 0) (aw_F g 0 0 (fun r h => r = some (.int (nI nr)) ∧ ∃ A1 A2 A3 : Nat → Int32, h = HP (sa (sa (sa (si (si (si S 3316 (nI 1)) 3317 (nI nv)) 3320 (nI nr)) 44 A1) 45 A2) 46 A3) ∧ (∀ v, v < nv → A1 v = S.2 41 v) ∧ (∀ j, j < nv * 8 → A2 j = S.2 42 j) ∧ ∀ j, j < nr * 6 → A3 j = S.2 43 j)) 23 [some (.ref 33), some (.int (nI v)), x2] [] (HP (sa (sa (sa (si (si (si S 3316 (nI 1)) 3317 (nI nv)) 3320 (nI nr)) 44 A1) 45 A2) 46 A3)) 0 0 := by
  intro m
  induction m with
  | zero =>
    intro v A1 A2 x2 hk e1 e2
    refine aw_iload_n (aw_d q_Mo_keep 13 rfl) rfl rfl ?_
    refine aw_aload_n (aw_d q_Mo_keep 14 rfl) rfl rfl rfl ?_
    refine aw_getf (v := .int (nI (nv))) (aw_d q_Mo_keep 15 rfl) fL_Mo_126_Mo rfl (gk hB.1) ?_
    refine aw_icmpN_ge (tgt := 85) (aw_d q_Mo_keep 16 rfl) (by decide) (by (have hB2 := hB.2.1; have hB4 := hB.2.2.2.1; omega)) (by (have hB2 := hB.2.1; have hB4 := hB.2.2.2.1; omega)) (fun c28 => ?_) (fun c28 => by exfalso; (have hB2 := hB.2.1; have hB4 := hB.2.2.2.1; omega))
    refine aw_iconst (v := nI 0) (aw_d q_Mo_keep 50 rfl) (by decide) ?_
    refine aw_istore_n (aw_d q_Mo_keep 51 rfl) rfl (aw_le rfl) rfl ?_
    exact lp_Mo_keep3 hB (fun w hw => e1 w (by omega)) (fun j hj => e2 j (by omega)) (nr * 6) 0 A3 (by omega) (fun j hj => by omega)
  | succ m ih =>
    intro v A1 A2 x2 hk e1 e2
    refine aw_iload_n (aw_d q_Mo_keep 13 rfl) rfl rfl ?_
    refine aw_aload_n (aw_d q_Mo_keep 14 rfl) rfl rfl rfl ?_
    refine aw_getf (v := .int (nI (nv))) (aw_d q_Mo_keep 15 rfl) fL_Mo_126_Mo rfl (gk hB.1) ?_
    refine aw_icmpN_ge (tgt := 85) (aw_d q_Mo_keep 16 rfl) (by decide) (by (have hB2 := hB.2.1; have hB4 := hB.2.2.2.1; omega)) (by (have hB2 := hB.2.1; have hB4 := hB.2.2.2.1; omega)) (fun c28 => by exfalso; (have hB2 := hB.2.1; have hB4 := hB.2.2.2.1; omega)) (fun c28 => ?_)
    refine aw_aload_n (aw_d q_Mo_keep 17 rfl) rfl rfl rfl ?_
    refine aw_getf (aw_d q_Mo_keep 18 rfl) fL_Mo_40_Mo rfl rfl ?_
    refine aw_iload_n (aw_d q_Mo_keep 19 rfl) rfl rfl ?_
    refine aw_aload_n (aw_d q_Mo_keep 20 rfl) rfl rfl rfl ?_
    refine aw_getf (aw_d q_Mo_keep 21 rfl) fL_Mo_31_Mo rfl rfl ?_
    refine aw_iload_n (aw_d q_Mo_keep 22 rfl) rfl rfl ?_
    refine aw_ialdN (aw_d q_Mo_keep 23 rfl) rfl (by (have hB2 := hB.2.1; have hB4 := hB.2.2.2.1; omega)) rfl ?_
    refine wn_44 (aw_d q_Mo_keep 24 rfl) (by (have hB2 := hB.2.1; have hB4 := hB.2.2.2.1; omega)) ?_
    refine aw_iconst (v := nI 0) (aw_d q_Mo_keep 25 rfl) (by decide) ?_
    refine aw_istore_n (aw_d q_Mo_keep 26 rfl) rfl (aw_le rfl) rfl ?_
    refine AW.to (lp_Mo_keep2 (A1 := upd A1 v (S.2 41 v)) hB (by omega) (fun A2 x2 e3 => ?_) 8 0 A2 (by omega) (fun j hj => e2 j (by omega))) rfl rfl rfl rfl
    refine aw_iinc (aw_d q_Mo_keep 48 rfl) rfl (ii1 _) (aw_le rfl) rfl ?_
    refine aw_goto (tgt := 23) (aw_d q_Mo_keep 49 rfl) (by decide) ?_
    refine ih (v + 1) (upd A1 v (S.2 41 v)) A2 _ (by omega) (fun w hw => ?_) e3
    by_cases hwv : w = v
    · rw [hwv]; exact pk_us
    · rw [pk_un hwv]; exact e1 w (by omega)
set_option maxRecDepth 20000 in
theorem sp_Mo_keep {g : aw_G} {S : aw_S} {nv nr : Nat} {nl : Nat → Nat} (hB : TmB S nv nr nl) : Sp g M_Mo_keep 0 0 0 0 [.ref 33] (HP S) (fun r h => r = some (.int (nI nr)) ∧ ∃ A1 A2 A3 : Nat → Int32, h = HP (sa (sa (sa (si (si (si S 3316 (nI 1)) 3317 (nI nv)) 3320 (nI nr)) 44 A1) 45 A2) 46 A3) ∧ (∀ v, v < nv → A1 v = S.2 41 v) ∧ (∀ j, j < nv * 8 → A2 j = S.2 42 j) ∧ ∀ j, j < nr * 6 → A3 j = S.2 43 j) := by
  refine Sp.of rfl (aw_le rfl) ?_
  refine aw_aload_n (aw_d q_Mo_keep 0 rfl) rfl rfl rfl ?_
  refine aw_iconst (v := nI 1) (aw_d q_Mo_keep 1 rfl) (by decide) ?_
  refine wi_33_16 (aw_d q_Mo_keep 2 rfl) pL_Mo_487_Mo (Or.inr rfl) ?_
  refine aw_aload_n (aw_d q_Mo_keep 3 rfl) rfl rfl rfl ?_
  refine aw_aload_n (aw_d q_Mo_keep 4 rfl) rfl rfl rfl ?_
  refine aw_getf (v := .int (nI (nv))) (aw_d q_Mo_keep 5 rfl) fL_Mo_126_Mo rfl (gk hB.1) ?_
  refine wi_33_17 (aw_d q_Mo_keep 6 rfl) pL_Mo_491_Mo ?_
  refine aw_aload_n (aw_d q_Mo_keep 7 rfl) rfl rfl rfl ?_
  refine aw_aload_n (aw_d q_Mo_keep 8 rfl) rfl rfl rfl ?_
  refine aw_getf (v := .int (nI (nr))) (aw_d q_Mo_keep 9 rfl) fL_Mo_129_Mo rfl (gk hB.2.2.1) ?_
  refine wi_33_20 (aw_d q_Mo_keep 10 rfl) pL_Mo_494_Mo ?_
  refine aw_iconst (v := nI 0) (aw_d q_Mo_keep 11 rfl) (by decide) ?_
  refine aw_istore_n (aw_d q_Mo_keep 12 rfl) rfl (aw_le rfl) rfl ?_
  exact AW.to (lp_Mo_keep1 (A3 := S.2 46) hB nv 0 (S.2 44) (S.2 45) _ (by omega) (fun w hw => by omega) (fun j hj => by omega)) rfl rfl rfl rfl
set_option maxRecDepth 20000 in
theorem lp_Mo_names_in {g : aw_G} {S : aw_S} {nv nr : Nat} {nl : Nat → Nat} (hB : TmB S nv nr nl) {nv2 nr2 : Nat} {nl2 : Nat → Nat} (hD : TmK S nv2 nr2 nl2) {v : Nat} (hv : v < nv) {tot : Bool} (K : ∀ x3 : Option Value, AW g M_Mo_areNames (aw_rm 0 0 0 0) (aw_F g 0 0 (fun r h => r = some (.int (if (decide (nv2 = nv) && nsB (S.2 41) (S.2 42) (S.2 44) (S.2 45) nv 0) = true then nI 1 else nI 0)) ∧ h = HP S)) 105 [some (.ref 33), some (.int (if tot = true then nI 1 else nI 0)), some (.int (nI v)), x3] [] (HP S) 0 0) : ∀ (m k : Nat) (b : Bool), m + k = nl v → (b && eqB (fun i => S.2 42 (v * 8 + i)) (fun i => S.2 45 (v * 8 + i)) m k) = tot → AW g M_Mo_areNames (aw_rm 0 0 0 0) (aw_F g 0 0 (fun r h => r = some (.int (if (decide (nv2 = nv) && nsB (S.2 41) (S.2 42) (S.2 44) (S.2 45) nv 0) = true then nI 1 else nI 0)) ∧ h = HP S)) 54 [some (.ref 33), some (.int (if b = true then nI 1 else nI 0)), some (.int (nI v)), some (.int (nI k))] [] (HP S) 0 0 := by
  intro m
  induction m with
  | zero =>
    intro k b hk e
    refine aw_iload_n (aw_d q_Mo_areNames 32 rfl) rfl rfl ?_
    refine aw_aload_n (aw_d q_Mo_areNames 33 rfl) rfl rfl rfl ?_
    refine aw_getf (aw_d q_Mo_areNames 34 rfl) fL_Mo_31_Mo rfl rfl ?_
    refine aw_iload_n (aw_d q_Mo_areNames 35 rfl) rfl rfl ?_
    refine aw_ialdK (w := nI (nl v)) (aw_d q_Mo_areNames 36 rfl) rfl (by (have hB2 := hB.2.1; have hB5 := (hB.2.2.2.2 v hv).2; omega)) rfl ((hB.2.2.2.2 v hv).1) ?_
    refine aw_icmpN_ge (tgt := 105) (aw_d q_Mo_areNames 37 rfl) (by decide) (by (have hB2 := hB.2.1; have hB5 := (hB.2.2.2.2 v hv).2; omega)) (by (have hB2 := hB.2.1; have hB5 := (hB.2.2.2.2 v hv).2; omega)) (fun c61 => ?_) (fun c61 => by exfalso; (have hB2 := hB.2.1; have hB5 := (hB.2.2.2.2 v hv).2; omega))
    have e : b = tot := by rw [← e]; simp [eqB]
    subst e
    exact K _
  | succ m ih =>
    intro k b hk e
    refine aw_iload_n (aw_d q_Mo_areNames 32 rfl) rfl rfl ?_
    refine aw_aload_n (aw_d q_Mo_areNames 33 rfl) rfl rfl rfl ?_
    refine aw_getf (aw_d q_Mo_areNames 34 rfl) fL_Mo_31_Mo rfl rfl ?_
    refine aw_iload_n (aw_d q_Mo_areNames 35 rfl) rfl rfl ?_
    refine aw_ialdK (w := nI (nl v)) (aw_d q_Mo_areNames 36 rfl) rfl (by (have hB2 := hB.2.1; have hB5 := (hB.2.2.2.2 v hv).2; omega)) rfl ((hB.2.2.2.2 v hv).1) ?_
    refine aw_icmpN_ge (tgt := 105) (aw_d q_Mo_areNames 37 rfl) (by decide) (by (have hB2 := hB.2.1; have hB5 := (hB.2.2.2.2 v hv).2; omega)) (by (have hB2 := hB.2.1; have hB5 := (hB.2.2.2.2 v hv).2; omega)) (fun c61 => by exfalso; (have hB2 := hB.2.1; have hB5 := (hB.2.2.2.2 v hv).2; omega)) (fun c61 => ?_)
    refine aw_iload_n (aw_d q_Mo_areNames 38 rfl) rfl rfl ?_
    refine aw_ifB_eq (tgt := 97) (aw_d q_Mo_areNames 39 rfl) (by decide) (fun c65 => ?_) (fun c65 => ?_)
    · have hp : b = false := by simpa using c65
      refine aw_iconst (v := nI 0) (aw_d q_Mo_areNames 59 rfl) (by decide) ?_
      refine aw_istore_n (aw_d q_Mo_areNames 60 rfl) rfl (aw_le rfl) rfl ?_
      refine aw_iinc (aw_d q_Mo_areNames 61 rfl) rfl (ii1 _) (aw_le rfl) rfl ?_
      refine aw_goto (tgt := 54) (aw_d q_Mo_areNames 62 rfl) (by decide) ?_
      exact ih (k + 1) false (by omega) (by rw [← e]; simp [eqB, hp])
    · refine aw_aload_n (aw_d q_Mo_areNames 40 rfl) rfl rfl rfl ?_
      refine aw_getf (aw_d q_Mo_areNames 41 rfl) fL_Mo_43_Mo rfl rfl ?_
      refine aw_bipush (v := nI 8) (aw_d q_Mo_areNames 42 rfl) (by decide) ?_
      refine aw_iload_n (aw_d q_Mo_areNames 43 rfl) rfl rfl ?_
      refine aw_imulN (aw_d q_Mo_areNames 44 rfl) ?_
      refine aw_iload_n (aw_d q_Mo_areNames 45 rfl) rfl rfl ?_
      refine aw_iaddN (aw_d q_Mo_areNames 46 rfl) ?_
      refine aw_ialdN (aw_d q_Mo_areNames 47 rfl) rfl (by (have hB2 := hB.2.1; have hB5 := (hB.2.2.2.2 v hv).2; omega)) rfl ?_
      refine aw_aload_n (aw_d q_Mo_areNames 48 rfl) rfl rfl rfl ?_
      refine aw_getf (aw_d q_Mo_areNames 49 rfl) fL_Mo_34_Mo rfl rfl ?_
      refine aw_bipush (v := nI 8) (aw_d q_Mo_areNames 50 rfl) (by decide) ?_
      refine aw_iload_n (aw_d q_Mo_areNames 51 rfl) rfl rfl ?_
      refine aw_imulN (aw_d q_Mo_areNames 52 rfl) ?_
      refine aw_iload_n (aw_d q_Mo_areNames 53 rfl) rfl rfl ?_
      refine aw_iaddN (aw_d q_Mo_areNames 54 rfl) ?_
      refine aw_ialdN (aw_d q_Mo_areNames 55 rfl) rfl (by (have hB2 := hB.2.1; have hB5 := (hB.2.2.2.2 v hv).2; omega)) rfl ?_
      refine aw_icmpZ_ne (tgt := 97) (aw_d q_Mo_areNames 56 rfl) (by decide) (fun c90 => ?_) (fun c90 => ?_)
      · have hp : ¬ S.2 42 (v * 8 + k) = S.2 45 (v * 8 + k) := fun q => c90 (by rw [Nat.mul_comm 8 v, q])
        refine aw_iconst (v := nI 0) (aw_d q_Mo_areNames 59 rfl) (by decide) ?_
        refine aw_istore_n (aw_d q_Mo_areNames 60 rfl) rfl (aw_le rfl) rfl ?_
        refine aw_iinc (aw_d q_Mo_areNames 61 rfl) rfl (ii1 _) (aw_le rfl) rfl ?_
        refine aw_goto (tgt := 54) (aw_d q_Mo_areNames 62 rfl) (by decide) ?_
        exact ih (k + 1) false (by omega) (by rw [← e]; simp [eqB, hp])
      · have hp : S.2 42 (v * 8 + k) = S.2 45 (v * 8 + k) := by rw [Nat.mul_comm v 8]; exact (Int32.toInt_inj.mp c90).symm
        refine aw_iconst (v := nI 1) (aw_d q_Mo_areNames 57 rfl) (by decide) ?_
        refine aw_goto (tgt := 98) (aw_d q_Mo_areNames 58 rfl) (by decide) ?_
        refine aw_istore_n (aw_d q_Mo_areNames 60 rfl) rfl (aw_le rfl) rfl ?_
        refine aw_iinc (aw_d q_Mo_areNames 61 rfl) rfl (ii1 _) (aw_le rfl) rfl ?_
        refine aw_goto (tgt := 54) (aw_d q_Mo_areNames 62 rfl) (by decide) ?_
        exact ih (k + 1) true (by omega) (by rw [← e]; simp [eqB, c65, hp])
theorem nsM_turn {S : aw_S} {nv nr nv2 nr2 : Nat} {nl nl2 : Nat → Nat} (hB : TmB S nv nr nl) (hD : TmK S nv2 nr2 nl2) {v m : Nat} (hv : v < nv) (hv2 : v < nv2) : nsB (S.2 41) (S.2 42) (S.2 44) (S.2 45) (m + 1) v = (decide (nl2 v = nl v) && (eqB (fun i => S.2 42 (v * 8 + i)) (fun i => S.2 45 (v * 8 + i)) (nl v) 0 && nsB (S.2 41) (S.2 42) (S.2 44) (S.2 45) m (v + 1))) := by
  have h1 := hB.2.2.2.2 v hv
  have h2 := hD.2.2.2.2 v hv2
  simp only [nsB]
  rw [h1.1, h2.1, nI_clamp (by omega)]
  congr 1
  apply Bool.eq_iff_iff.mpr
  rw [decide_eq_true_eq, decide_eq_true_eq, nI_eq (by omega) (by omega)]
  exact ⟨fun h => h.symm, fun h => h.symm⟩
set_option maxRecDepth 20000 in
theorem lp_Mo_names {g : aw_G} {S : aw_S} {nv nr : Nat} {nl : Nat → Nat} (hB : TmB S nv nr nl) {nv2 nr2 : Nat} {nl2 : Nat → Nat} (hD : TmK S nv2 nr2 nl2) {tot : Bool} (ht : tot = (decide (nv2 = nv) && nsB (S.2 41) (S.2 42) (S.2 44) (S.2 45) nv 0)) : ∀ (m v : Nat) (b : Bool) (x3 : Option Value), m + v = nv → (b && nsB (S.2 41) (S.2 42) (S.2 44) (S.2 45) m v) = tot → (b = true → nv2 = nv) → AW g M_Mo_areNames (aw_rm 0 0 0 0) (aw_F g 0 0 (fun r h => r = some (.int (if (decide (nv2 = nv) && nsB (S.2 41) (S.2 42) (S.2 44) (S.2 45) nv 0) = true then nI 1 else nI 0)) ∧ h = HP S)) 19 [some (.ref 33), some (.int (if b = true then nI 1 else nI 0)), some (.int (nI v)), x3] [] (HP S) 0 0 := by
  intro m
  induction m with
  | zero =>
    intro v b x3 hk e hb
    refine aw_iload_n (aw_d q_Mo_areNames 11 rfl) rfl rfl ?_
    refine aw_aload_n (aw_d q_Mo_areNames 12 rfl) rfl rfl rfl ?_
    refine aw_getf (v := .int (nI (nv))) (aw_d q_Mo_areNames 13 rfl) fL_Mo_126_Mo rfl (gk hB.1) ?_
    refine aw_icmpN_ge (tgt := 111) (aw_d q_Mo_areNames 14 rfl) (by decide) (by (have hB2 := hB.2.1; have hB4 := hB.2.2.2.1; have hD2 := hD.2.1; have hD4 := hD.2.2.2.1; omega)) (by (have hB2 := hB.2.1; have hB4 := hB.2.2.2.1; have hD2 := hD.2.1; have hD4 := hD.2.2.2.1; omega)) (fun c24 => ?_) (fun c24 => by exfalso; (have hB2 := hB.2.1; have hB4 := hB.2.2.2.1; have hD2 := hD.2.1; have hD4 := hD.2.2.2.1; omega))
    refine aw_iload_n (aw_d q_Mo_areNames 65 rfl) rfl rfl ?_
    exact aw_zret (aw_d q_Mo_areNames 66 rfl) rfl (nB) (⟨by rw [← ht, ← e]; simp [nsB], rfl⟩)
  | succ m ih =>
    intro v b x3 hk e hb
    refine aw_iload_n (aw_d q_Mo_areNames 11 rfl) rfl rfl ?_
    refine aw_aload_n (aw_d q_Mo_areNames 12 rfl) rfl rfl rfl ?_
    refine aw_getf (v := .int (nI (nv))) (aw_d q_Mo_areNames 13 rfl) fL_Mo_126_Mo rfl (gk hB.1) ?_
    refine aw_icmpN_ge (tgt := 111) (aw_d q_Mo_areNames 14 rfl) (by decide) (by (have hB2 := hB.2.1; have hB4 := hB.2.2.2.1; have hD2 := hD.2.1; have hD4 := hD.2.2.2.1; omega)) (by (have hB2 := hB.2.1; have hB4 := hB.2.2.2.1; have hD2 := hD.2.1; have hD4 := hD.2.2.2.1; omega)) (fun c24 => by exfalso; (have hB2 := hB.2.1; have hB4 := hB.2.2.2.1; have hD2 := hD.2.1; have hD4 := hD.2.2.2.1; omega)) (fun c24 => ?_)
    refine aw_iload_n (aw_d q_Mo_areNames 15 rfl) rfl rfl ?_
    refine aw_ifB_eq (tgt := 111) (aw_d q_Mo_areNames 16 rfl) (by decide) (fun c28 => ?_) (fun c28 => ?_)
    · refine aw_iload_n (aw_d q_Mo_areNames 65 rfl) rfl rfl ?_
      exact aw_zret (aw_d q_Mo_areNames 66 rfl) rfl (nB) (⟨by rw [← ht, ← e]; rw [show b = false by simpa using c28]; rfl, rfl⟩)
    · subst c28
      have hvv := hb rfl
      have hv : v < nv := by omega
      have hv2 : v < nv2 := by omega
      have htt := nsM_turn (m := m) hB hD hv hv2
      have hB5 := (hB.2.2.2.2 v hv).2
      have hD5 := (hD.2.2.2.2 v hv2).2
      refine aw_aload_n (aw_d q_Mo_areNames 17 rfl) rfl rfl rfl ?_
      refine aw_getf (aw_d q_Mo_areNames 18 rfl) fL_Mo_40_Mo rfl rfl ?_
      refine aw_iload_n (aw_d q_Mo_areNames 19 rfl) rfl rfl ?_
      refine aw_ialdK (w := nI (nl2 v)) (aw_d q_Mo_areNames 20 rfl) rfl (by (have hB2 := hB.2.1; have hB4 := hB.2.2.2.1; have hD2 := hD.2.1; have hD4 := hD.2.2.2.1; omega)) rfl ((hD.2.2.2.2 v hv2).1) ?_
      refine aw_aload_n (aw_d q_Mo_areNames 21 rfl) rfl rfl rfl ?_
      refine aw_getf (aw_d q_Mo_areNames 22 rfl) fL_Mo_31_Mo rfl rfl ?_
      refine aw_iload_n (aw_d q_Mo_areNames 23 rfl) rfl rfl ?_
      refine aw_ialdK (w := nI (nl v)) (aw_d q_Mo_areNames 24 rfl) rfl (by (have hB2 := hB.2.1; have hB4 := hB.2.2.2.1; have hD2 := hD.2.1; have hD4 := hD.2.2.2.1; omega)) rfl ((hB.2.2.2.2 v hv).1) ?_
      refine aw_icmpN_ne (tgt := 50) (aw_d q_Mo_areNames 25 rfl) (by decide) (by (have hB2 := hB.2.1; have hB4 := hB.2.2.2.1; have hD2 := hD.2.1; have hD4 := hD.2.2.2.1; omega)) (by (have hB2 := hB.2.1; have hB4 := hB.2.2.2.1; have hD2 := hD.2.1; have hD4 := hD.2.2.2.1; omega)) (fun c43 => ?_) (fun c43 => ?_)
      · refine aw_iconst (v := nI 0) (aw_d q_Mo_areNames 28 rfl) (by decide) ?_
        refine aw_istore_n (aw_d q_Mo_areNames 29 rfl) rfl (aw_le rfl) rfl ?_
        refine aw_iconst (v := nI 0) (aw_d q_Mo_areNames 30 rfl) (by decide) ?_
        refine aw_istore_n (aw_d q_Mo_areNames 31 rfl) rfl (aw_le rfl) rfl ?_
        refine AW.to (lp_Mo_names_in hB hD hv (tot := (decide (nl2 v = nl v) && eqB (fun i => S.2 42 (v * 8 + i)) (fun i => S.2 45 (v * 8 + i)) (nl v) 0)) (fun x3 => ?_) (nl v) 0 false (by omega) (by simp [c43])) rfl rfl rfl rfl
        refine aw_iinc (aw_d q_Mo_areNames 63 rfl) rfl (ii1 _) (aw_le rfl) rfl ?_
        refine aw_goto (tgt := 19) (aw_d q_Mo_areNames 64 rfl) (by decide) ?_
        exact ih (v + 1) _ _ (by omega) (by rw [← e, htt]; simp [Bool.and_assoc]) (fun _ => hvv)
      · refine aw_iconst (v := nI 1) (aw_d q_Mo_areNames 26 rfl) (by decide) ?_
        refine aw_goto (tgt := 51) (aw_d q_Mo_areNames 27 rfl) (by decide) ?_
        refine aw_istore_n (aw_d q_Mo_areNames 29 rfl) rfl (aw_le rfl) rfl ?_
        refine aw_iconst (v := nI 0) (aw_d q_Mo_areNames 30 rfl) (by decide) ?_
        refine aw_istore_n (aw_d q_Mo_areNames 31 rfl) rfl (aw_le rfl) rfl ?_
        refine AW.to (lp_Mo_names_in hB hD hv (tot := (decide (nl2 v = nl v) && eqB (fun i => S.2 42 (v * 8 + i)) (fun i => S.2 45 (v * 8 + i)) (nl v) 0)) (fun x3 => ?_) (nl v) 0 true (by omega) (by simp [c43])) rfl rfl rfl rfl
        refine aw_iinc (aw_d q_Mo_areNames 63 rfl) rfl (ii1 _) (aw_le rfl) rfl ?_
        refine aw_goto (tgt := 19) (aw_d q_Mo_areNames 64 rfl) (by decide) ?_
        exact ih (v + 1) _ _ (by omega) (by rw [← e, htt]; simp [Bool.and_assoc]) (fun _ => hvv)
set_option maxRecDepth 20000 in
theorem sp_Mo_areNames {g : aw_G} {S : aw_S} {nv nr : Nat} {nl : Nat → Nat} (hB : TmB S nv nr nl) {nv2 nr2 : Nat} {nl2 : Nat → Nat} (hD : TmK S nv2 nr2 nl2) : Sp g M_Mo_areNames 0 0 0 0 [.ref 33] (HP S) (fun r h => r = some (.int (if (decide (nv2 = nv) && nsB (S.2 41) (S.2 42) (S.2 44) (S.2 45) nv 0) = true then nI 1 else nI 0)) ∧ h = HP S) := by
  refine Sp.of rfl (aw_le rfl) ?_
  refine aw_aload_n (aw_d q_Mo_areNames 0 rfl) rfl rfl rfl ?_
  refine aw_getf (v := .int (nI (nv2))) (aw_d q_Mo_areNames 1 rfl) fL_Mo_491_Mo rfl (gk hD.1) ?_
  refine aw_aload_n (aw_d q_Mo_areNames 2 rfl) rfl rfl rfl ?_
  refine aw_getf (v := .int (nI (nv))) (aw_d q_Mo_areNames 3 rfl) fL_Mo_126_Mo rfl (gk hB.1) ?_
  refine aw_icmpN_ne (tgt := 15) (aw_d q_Mo_areNames 4 rfl) (by decide) (by (have hB2 := hB.2.1; have hB4 := hB.2.2.2.1; have hD2 := hD.2.1; have hD4 := hD.2.2.2.1; omega)) (by (have hB2 := hB.2.1; have hB4 := hB.2.2.2.1; have hD2 := hD.2.1; have hD4 := hD.2.2.2.1; omega)) (fun c8 => ?_) (fun c8 => ?_)
  · refine aw_iconst (v := nI 0) (aw_d q_Mo_areNames 7 rfl) (by decide) ?_
    refine aw_istore_n (aw_d q_Mo_areNames 8 rfl) rfl (aw_le rfl) rfl ?_
    refine aw_iconst (v := nI 0) (aw_d q_Mo_areNames 9 rfl) (by decide) ?_
    refine aw_istore_n (aw_d q_Mo_areNames 10 rfl) rfl (aw_le rfl) rfl ?_
    exact AW.to (lp_Mo_names hB hD rfl nv 0 false _ (by omega) (by simp [c8]) (by simp [c8])) rfl rfl rfl rfl
  · refine aw_iconst (v := nI 1) (aw_d q_Mo_areNames 5 rfl) (by decide) ?_
    refine aw_goto (tgt := 16) (aw_d q_Mo_areNames 6 rfl) (by decide) ?_
    refine aw_istore_n (aw_d q_Mo_areNames 8 rfl) rfl (aw_le rfl) rfl ?_
    refine aw_iconst (v := nI 0) (aw_d q_Mo_areNames 9 rfl) (by decide) ?_
    refine aw_istore_n (aw_d q_Mo_areNames 10 rfl) rfl (aw_le rfl) rfl ?_
    exact AW.to (lp_Mo_names hB hD rfl nv 0 true _ (by omega) (by simp [c8]) (by simp [c8])) rfl rfl rfl rfl
set_option maxRecDepth 20000 in
theorem lp_Mo_isAlike {g : aw_G} {S : aw_S} {nv nr : Nat} {nl : Nat → Nat} (hB : TmB S nv nr nl) {q s : Nat} (hq : q < 24) (hs : s < 24) : ∀ (m v : Nat) (b : Bool), m + v = nv → (b && eqB (fun v => S.2 43 (q * 6 + v)) (fun v => S.2 46 (s * 6 + v)) m v) = rwB (S.2 43) (S.2 46) nv q s → AW g M_Mo_isAlike (aw_rm 0 0 0 0) (aw_F g 0 0 (fun r h => r = some (.int (if rwB (S.2 43) (S.2 46) nv q s = true then nI 1 else nI 0)) ∧ h = HP S)) 5 [some (.ref 33), some (.int (nI q)), some (.int (nI s)), some (.int (if b = true then nI 1 else nI 0)), some (.int (nI v))] [] (HP S) 0 0 := by
  intro m
  induction m with
  | zero =>
    intro v b hk e
    refine aw_iload (aw_d q_Mo_isAlike 4 rfl) rfl ?_
    refine aw_aload_n (aw_d q_Mo_isAlike 5 rfl) rfl rfl rfl ?_
    refine aw_getf (v := .int (nI (nv))) (aw_d q_Mo_isAlike 6 rfl) fL_Mo_126_Mo rfl (gk hB.1) ?_
    refine aw_icmpN_ge (tgt := 57) (aw_d q_Mo_isAlike 7 rfl) (by decide) (by (have hB2 := hB.2.1; have hB4 := hB.2.2.2.1; omega)) (by (have hB2 := hB.2.1; have hB4 := hB.2.2.2.1; omega)) (fun c11 => ?_) (fun c11 => by exfalso; (have hB2 := hB.2.1; have hB4 := hB.2.2.2.1; omega))
    refine aw_iload_n (aw_d q_Mo_isAlike 33 rfl) rfl rfl ?_
    exact aw_zret (aw_d q_Mo_isAlike 34 rfl) rfl (nB) (⟨by rw [← e]; simp [eqB], rfl⟩)
  | succ m ih =>
    intro v b hk e
    refine aw_iload (aw_d q_Mo_isAlike 4 rfl) rfl ?_
    refine aw_aload_n (aw_d q_Mo_isAlike 5 rfl) rfl rfl rfl ?_
    refine aw_getf (v := .int (nI (nv))) (aw_d q_Mo_isAlike 6 rfl) fL_Mo_126_Mo rfl (gk hB.1) ?_
    refine aw_icmpN_ge (tgt := 57) (aw_d q_Mo_isAlike 7 rfl) (by decide) (by (have hB2 := hB.2.1; have hB4 := hB.2.2.2.1; omega)) (by (have hB2 := hB.2.1; have hB4 := hB.2.2.2.1; omega)) (fun c11 => by exfalso; (have hB2 := hB.2.1; have hB4 := hB.2.2.2.1; omega)) (fun c11 => ?_)
    refine aw_iload_n (aw_d q_Mo_isAlike 8 rfl) rfl rfl ?_
    refine aw_ifB_eq (tgt := 49) (aw_d q_Mo_isAlike 9 rfl) (by decide) (fun c15 => ?_) (fun c15 => ?_)
    · have hp : b = false := by simpa using c15
      refine aw_iconst (v := nI 0) (aw_d q_Mo_isAlike 29 rfl) (by decide) ?_
      refine aw_istore_n (aw_d q_Mo_isAlike 30 rfl) rfl (aw_le rfl) rfl ?_
      refine aw_iinc (aw_d q_Mo_isAlike 31 rfl) rfl (ii1 _) (aw_le rfl) rfl ?_
      refine aw_goto (tgt := 5) (aw_d q_Mo_isAlike 32 rfl) (by decide) ?_
      exact ih (v + 1) false (by omega) (by rw [← e]; simp [eqB, hp])
    · refine aw_aload_n (aw_d q_Mo_isAlike 10 rfl) rfl rfl rfl ?_
      refine aw_getf (aw_d q_Mo_isAlike 11 rfl) fL_Mo_37_Mo rfl rfl ?_
      refine aw_bipush (v := nI 6) (aw_d q_Mo_isAlike 12 rfl) (by decide) ?_
      refine aw_iload_n (aw_d q_Mo_isAlike 13 rfl) rfl rfl ?_
      refine aw_imulN (aw_d q_Mo_isAlike 14 rfl) ?_
      refine aw_iload (aw_d q_Mo_isAlike 15 rfl) rfl ?_
      refine aw_iaddN (aw_d q_Mo_isAlike 16 rfl) ?_
      refine aw_ialdN (aw_d q_Mo_isAlike 17 rfl) rfl (by (have hB2 := hB.2.1; have hB4 := hB.2.2.2.1; omega)) rfl ?_
      refine aw_aload_n (aw_d q_Mo_isAlike 18 rfl) rfl rfl rfl ?_
      refine aw_getf (aw_d q_Mo_isAlike 19 rfl) fL_Mo_46_Mo rfl rfl ?_
      refine aw_bipush (v := nI 6) (aw_d q_Mo_isAlike 20 rfl) (by decide) ?_
      refine aw_iload_n (aw_d q_Mo_isAlike 21 rfl) rfl rfl ?_
      refine aw_imulN (aw_d q_Mo_isAlike 22 rfl) ?_
      refine aw_iload (aw_d q_Mo_isAlike 23 rfl) rfl ?_
      refine aw_iaddN (aw_d q_Mo_isAlike 24 rfl) ?_
      refine aw_ialdN (aw_d q_Mo_isAlike 25 rfl) rfl (by (have hB2 := hB.2.1; have hB4 := hB.2.2.2.1; omega)) rfl ?_
      refine aw_icmpZ_ne (tgt := 49) (aw_d q_Mo_isAlike 26 rfl) (by decide) (fun c42 => ?_) (fun c42 => ?_)
      · have hp : ¬ S.2 43 (q * 6 + v) = S.2 46 (s * 6 + v) := fun z => c42 (by rw [Nat.mul_comm 6 q, Nat.mul_comm 6 s, z])
        refine aw_iconst (v := nI 0) (aw_d q_Mo_isAlike 29 rfl) (by decide) ?_
        refine aw_istore_n (aw_d q_Mo_isAlike 30 rfl) rfl (aw_le rfl) rfl ?_
        refine aw_iinc (aw_d q_Mo_isAlike 31 rfl) rfl (ii1 _) (aw_le rfl) rfl ?_
        refine aw_goto (tgt := 5) (aw_d q_Mo_isAlike 32 rfl) (by decide) ?_
        exact ih (v + 1) false (by omega) (by rw [← e]; simp [eqB, hp])
      · have hp : S.2 43 (q * 6 + v) = S.2 46 (s * 6 + v) := by rw [Nat.mul_comm q 6, Nat.mul_comm s 6]; exact Int32.toInt_inj.mp c42
        refine aw_iconst (v := nI 1) (aw_d q_Mo_isAlike 27 rfl) (by decide) ?_
        refine aw_goto (tgt := 50) (aw_d q_Mo_isAlike 28 rfl) (by decide) ?_
        refine aw_istore_n (aw_d q_Mo_isAlike 30 rfl) rfl (aw_le rfl) rfl ?_
        refine aw_iinc (aw_d q_Mo_isAlike 31 rfl) rfl (ii1 _) (aw_le rfl) rfl ?_
        refine aw_goto (tgt := 5) (aw_d q_Mo_isAlike 32 rfl) (by decide) ?_
        exact ih (v + 1) true (by omega) (by rw [← e]; simp [eqB, c15, hp])
set_option maxRecDepth 20000 in
theorem sp_Mo_isAlike {g : aw_G} {S : aw_S} {nv nr : Nat} {nl : Nat → Nat} (hB : TmB S nv nr nl) {q s : Nat} (hq : q < 24) (hs : s < 24) : Sp g M_Mo_isAlike 0 0 0 0 [.ref 33, .int (nI q), .int (nI s)] (HP S) (fun r h => r = some (.int (if rwB (S.2 43) (S.2 46) nv q s = true then nI 1 else nI 0)) ∧ h = HP S) := by
  refine Sp.of rfl (aw_le rfl) ?_
  refine aw_iconst (v := nI 1) (aw_d q_Mo_isAlike 0 rfl) (by decide) ?_
  refine aw_istore_n (aw_d q_Mo_isAlike 1 rfl) rfl (aw_le rfl) rfl ?_
  refine aw_iconst (v := nI 0) (aw_d q_Mo_isAlike 2 rfl) (by decide) ?_
  refine aw_istore (aw_d q_Mo_isAlike 3 rfl) (aw_le rfl) rfl ?_
  exact AW.to (lp_Mo_isAlike hB hq hs nv 0 true (by omega) (by rfl)) rfl rfl rfl rfl
