set_option maxRecDepth 20000 in
theorem lp_vo_in {g : aw_G} {S : aw_S} {D : aw_S} {N : nm_T} {n : Nat} {T : Nat → Int32} {a len : Nat} {pl q z : Int32} {X : Nat → Int32} (hN : nmM D N) (hc : TPm D n T) (ha : a + len ≤ n) {v : Nat} (hv : v < N.1) (hl : N.2.1 v = len) {x2 : Option Value} {tot : Bool} (K : ∀ x5 : Option Value, AW g M_Mo_variableOf (aw_rm 0 0 0 0) (aw_F g 0 0 (fun r h => r = some (.int (oI (lsB (nmP N T a len) N.1))) ∧ h = HP (QM D pl q (nI a) z X))) 83 [some (.ref 33), some (.int (nI len)), x2, some (.int (nI v)), some (.int (if tot = true then nI 1 else nI 0)), x5] [] (HP (QM D pl q (nI a) z X)) 0 0) : ∀ (m k : Nat) (bo : Bool), m + k = len → (bo && eqB (N.2.2 v) (fun i => T (a + i)) m k) = tot → AW g M_Mo_variableOf (aw_rm 0 0 0 0) (aw_F g 0 0 (fun r h => r = some (.int (oI (lsB (nmP N T a len) N.1))) ∧ h = HP (QM D pl q (nI a) z X))) 32 [some (.ref 33), some (.int (nI len)), x2, some (.int (nI v)), some (.int (if bo = true then nI 1 else nI 0)), some (.int (nI k))] [] (HP (QM D pl q (nI a) z X)) 0 0 := by
  intro m
  induction m with
  | zero =>
    intro k bo hk e
    refine aw_iload (aw_d q_Mo_variableOf 20 rfl) rfl ?_
    refine aw_iload_n (aw_d q_Mo_variableOf 21 rfl) rfl rfl ?_
    refine aw_icmpN_ge (tgt := 83) (aw_d q_Mo_variableOf 22 rfl) (by decide) (by (have hc2 := hc.2.1; have h6 := hN.2.1; have h8 := (hN.2.2 v hv).2.1; omega)) (by (have hc2 := hc.2.1; have h6 := hN.2.1; have h8 := (hN.2.2 v hv).2.1; omega)) (fun c35 => ?_) (fun c35 => by exfalso; (have hc2 := hc.2.1; have h6 := hN.2.1; have h8 := (hN.2.2 v hv).2.1; omega))
    have e : bo = tot := by rw [← e]; simp [eqB]
    subst e
    exact K _
  | succ m ih =>
    intro k bo hk e
    refine aw_iload (aw_d q_Mo_variableOf 20 rfl) rfl ?_
    refine aw_iload_n (aw_d q_Mo_variableOf 21 rfl) rfl rfl ?_
    refine aw_icmpN_ge (tgt := 83) (aw_d q_Mo_variableOf 22 rfl) (by decide) (by (have hc2 := hc.2.1; have h6 := hN.2.1; have h8 := (hN.2.2 v hv).2.1; omega)) (by (have hc2 := hc.2.1; have h6 := hN.2.1; have h8 := (hN.2.2 v hv).2.1; omega)) (fun c35 => by exfalso; (have hc2 := hc.2.1; have h6 := hN.2.1; have h8 := (hN.2.2 v hv).2.1; omega)) (fun c35 => ?_)
    refine aw_iload (aw_d q_Mo_variableOf 23 rfl) rfl ?_
    refine aw_ifB_eq (tgt := 83) (aw_d q_Mo_variableOf 24 rfl) (by decide) (fun c40 => ?_) (fun c40 => ?_)
    · have hb : bo = false := by simpa using c40
      subst hb
      have e : false = tot := by rw [← e]; rfl
      subst e
      exact K _
    · refine aw_aload_n (aw_d q_Mo_variableOf 25 rfl) rfl rfl rfl ?_
      refine aw_getf (aw_d q_Mo_variableOf 26 rfl) fL_Mo_56_Mo rfl rfl ?_
      refine aw_bipush (v := nI 8) (aw_d q_Mo_variableOf 27 rfl) (by decide) ?_
      refine aw_iload_n (aw_d q_Mo_variableOf 28 rfl) rfl rfl ?_
      refine aw_imulN (aw_d q_Mo_variableOf 29 rfl) ?_
      refine aw_iload (aw_d q_Mo_variableOf 30 rfl) rfl ?_
      refine aw_iaddN (aw_d q_Mo_variableOf 31 rfl) ?_
      refine aw_ialdK (w := (N.2.2 v k)) (aw_d q_Mo_variableOf 32 rfl) rfl (by (have hc2 := hc.2.1; have h6 := hN.2.1; have h8 := (hN.2.2 v hv).2.1; omega)) rfl (by rw [show 8 * v + k = v * 8 + k by omega]; exact (hN.2.2 v hv).2.2 k (by omega)) ?_
      refine aw_aload_n (aw_d q_Mo_variableOf 33 rfl) rfl rfl rfl ?_
      refine aw_getf (aw_d q_Mo_variableOf 34 rfl) fL_Mo_7_Mo rfl rfl ?_
      refine aw_aload_n (aw_d q_Mo_variableOf 35 rfl) rfl rfl rfl ?_
      refine aw_getf (v := .int (nI (a))) (aw_d q_Mo_variableOf 36 rfl) fL_Mo_346_Mo rfl (gk rfl) ?_
      refine aw_iload (aw_d q_Mo_variableOf 37 rfl) rfl ?_
      refine aw_iaddN (aw_d q_Mo_variableOf 38 rfl) ?_
      refine aw_ialdK (w := (T (a + k))) (aw_d q_Mo_variableOf 39 rfl) rfl (by (have hc2 := hc.2.1; have h6 := hN.2.1; have h8 := (hN.2.2 v hv).2.1; omega)) rfl (hc.2.2.1 _ (by omega)) ?_
      refine aw_icmpZ_ne (tgt := 74) (aw_d q_Mo_variableOf 40 rfl) (by decide) (fun c67 => ?_) (fun c67 => ?_)
      · have c67 : ¬ N.2.2 v k = T (a + k) := fun q => c67 (by rw [q])
        refine aw_iconst (v := nI 0) (aw_d q_Mo_variableOf 43 rfl) (by decide) ?_
        refine aw_istore (aw_d q_Mo_variableOf 44 rfl) (aw_le rfl) rfl ?_
        refine aw_iinc (aw_d q_Mo_variableOf 45 rfl) rfl (ii1 _) (aw_le rfl) rfl ?_
        refine aw_goto (tgt := 32) (aw_d q_Mo_variableOf 46 rfl) (by decide) ?_
        exact ih (k + 1) false (by omega) (by rw [← e]; simp [eqB, c67])
      · have c67 : N.2.2 v k = T (a + k) := Int32.toInt_inj.mp c67
        refine aw_iconst (v := nI 1) (aw_d q_Mo_variableOf 41 rfl) (by decide) ?_
        refine aw_goto (tgt := 75) (aw_d q_Mo_variableOf 42 rfl) (by decide) ?_
        refine aw_istore (aw_d q_Mo_variableOf 44 rfl) (aw_le rfl) rfl ?_
        refine aw_iinc (aw_d q_Mo_variableOf 45 rfl) rfl (ii1 _) (aw_le rfl) rfl ?_
        refine aw_goto (tgt := 32) (aw_d q_Mo_variableOf 46 rfl) (by decide) ?_
        exact ih (k + 1) true (by omega) (by rw [← e]; simp [eqB, c40, c67])
set_option maxRecDepth 20000 in
theorem lp_vo {g : aw_G} {S : aw_S} {D : aw_S} {N : nm_T} {n : Nat} {T : Nat → Int32} {a len : Nat} {pl q z : Int32} {X : Nat → Int32} (hN : nmM D N) (hc : TPm D n T) (ha : a + len ≤ n) : ∀ (m v : Nat) (x4 x5 : Option Value), m + v = N.1 → True → AW g M_Mo_variableOf (aw_rm 0 0 0 0) (aw_F g 0 0 (fun r h => r = some (.int (oI (lsB (nmP N T a len) N.1))) ∧ h = HP (QM D pl q (nI a) z X))) 4 [some (.ref 33), some (.int (nI len)), some (.int (oI (lsB (nmP N T a len) v))), some (.int (nI v)), x4, x5] [] (HP (QM D pl q (nI a) z X)) 0 0 := by
  intro m
  induction m with
  | zero =>
    intro v x4 x5 hk _
    refine aw_iload_n (aw_d q_Mo_variableOf 4 rfl) rfl rfl ?_
    refine aw_aload_n (aw_d q_Mo_variableOf 5 rfl) rfl rfl rfl ?_
    refine aw_getf (v := .int (nI (N.1))) (aw_d q_Mo_variableOf 6 rfl) fL_Mo_349_Mo rfl (gk hN.1) ?_
    refine aw_icmpN_ge (tgt := 100) (aw_d q_Mo_variableOf 7 rfl) (by decide) (by (have hc2 := hc.2.1; have h6 := hN.2.1; omega)) (by (have hc2 := hc.2.1; have h6 := hN.2.1; omega)) (fun c9 => ?_) (fun c9 => by exfalso; (have hc2 := hc.2.1; have h6 := hN.2.1; omega))
    refine aw_iload_n (aw_d q_Mo_variableOf 55 rfl) rfl rfl ?_
    exact aw_iret (aw_d q_Mo_variableOf 56 rfl) rfl (⟨by rw [show N.1 = v by omega], rfl⟩)
  | succ m ih =>
    intro v x4 x5 hk _
    have h68 := (hN.2.2 v (by omega)).2.1
    refine aw_iload_n (aw_d q_Mo_variableOf 4 rfl) rfl rfl ?_
    refine aw_aload_n (aw_d q_Mo_variableOf 5 rfl) rfl rfl rfl ?_
    refine aw_getf (v := .int (nI (N.1))) (aw_d q_Mo_variableOf 6 rfl) fL_Mo_349_Mo rfl (gk hN.1) ?_
    refine aw_icmpN_ge (tgt := 100) (aw_d q_Mo_variableOf 7 rfl) (by decide) (by (have hc2 := hc.2.1; have h6 := hN.2.1; omega)) (by (have hc2 := hc.2.1; have h6 := hN.2.1; omega)) (fun c9 => by exfalso; (have hc2 := hc.2.1; have h6 := hN.2.1; omega)) (fun c9 => ?_)
    refine aw_aload_n (aw_d q_Mo_variableOf 8 rfl) rfl rfl rfl ?_
    refine aw_getf (aw_d q_Mo_variableOf 9 rfl) fL_Mo_53_Mo rfl rfl ?_
    refine aw_iload_n (aw_d q_Mo_variableOf 10 rfl) rfl rfl ?_
    refine aw_ialdK (w := nI (N.2.1 v)) (aw_d q_Mo_variableOf 11 rfl) rfl (by (have hc2 := hc.2.1; have h6 := hN.2.1; omega)) rfl ((hN.2.2 v (by omega)).1) ?_
    refine aw_iload_n (aw_d q_Mo_variableOf 12 rfl) rfl rfl ?_
    refine aw_icmpN_ne (tgt := 26) (aw_d q_Mo_variableOf 13 rfl) (by decide) (by (have hc2 := hc.2.1; have h6 := hN.2.1; omega)) (by (have hc2 := hc.2.1; have h6 := hN.2.1; omega)) (fun c19 => ?_) (fun c19 => ?_)
    · refine aw_iconst (v := nI 0) (aw_d q_Mo_variableOf 16 rfl) (by decide) ?_
      refine aw_istore (aw_d q_Mo_variableOf 17 rfl) (aw_le rfl) rfl ?_
      refine aw_iconst (v := nI 0) (aw_d q_Mo_variableOf 18 rfl) (by decide) ?_
      refine aw_istore (aw_d q_Mo_variableOf 19 rfl) (aw_le rfl) rfl ?_
      refine aw_iload (aw_d q_Mo_variableOf 20 rfl) rfl ?_
      refine aw_iload_n (aw_d q_Mo_variableOf 21 rfl) rfl rfl ?_
      refine aw_icmpN_ge (tgt := 83) (aw_d q_Mo_variableOf 22 rfl) (by decide) (by (have hc2 := hc.2.1; have h6 := hN.2.1; omega)) (by (have hc2 := hc.2.1; have h6 := hN.2.1; omega)) (fun c35 => ?_) (fun c35 => ?_)
      · refine aw_iload (aw_d q_Mo_variableOf 47 rfl) rfl ?_
        refine aw_ifN_eq (tgt := 92) (aw_d q_Mo_variableOf 48 rfl) (by decide) (by (have hc2 := hc.2.1; have h6 := hN.2.1; omega)) (fun c85 => ?_) (fun c85 => by exfalso; (have hc2 := hc.2.1; have h6 := hN.2.1; omega))
        refine aw_iload_n (aw_d q_Mo_variableOf 51 rfl) rfl rfl ?_
        refine aw_istore_n (aw_d q_Mo_variableOf 52 rfl) rfl (aw_le rfl) rfl ?_
        refine aw_iinc (aw_d q_Mo_variableOf 53 rfl) rfl (ii1 _) (aw_le rfl) rfl ?_
        refine aw_goto (tgt := 4) (aw_d q_Mo_variableOf 54 rfl) (by decide) ?_
        have hq : lsB (nmP N T a len) (v + 1) = lsB (nmP N T a len) v := by simp only [lsB]; rw [if_neg (fun q => c19 (nmP_iff.mp q).1)]
        have hi := fun x4 x5 => ih (v + 1) x4 x5 (by omega) trivial
        simp only [hq] at hi
        exact AW.to (hi _ _) rfl rfl rfl rfl
      · refine aw_iload (aw_d q_Mo_variableOf 23 rfl) rfl ?_
        refine aw_ifN_eq (tgt := 83) (aw_d q_Mo_variableOf 24 rfl) (by decide) (by (have hc2 := hc.2.1; have h6 := hN.2.1; omega)) (fun c40 => ?_) (fun c40 => by exfalso; (have hc2 := hc.2.1; have h6 := hN.2.1; omega))
        refine aw_iload (aw_d q_Mo_variableOf 47 rfl) rfl ?_
        refine aw_ifN_eq (tgt := 92) (aw_d q_Mo_variableOf 48 rfl) (by decide) (by (have hc2 := hc.2.1; have h6 := hN.2.1; omega)) (fun c85 => ?_) (fun c85 => by exfalso; (have hc2 := hc.2.1; have h6 := hN.2.1; omega))
        refine aw_iload_n (aw_d q_Mo_variableOf 51 rfl) rfl rfl ?_
        refine aw_istore_n (aw_d q_Mo_variableOf 52 rfl) rfl (aw_le rfl) rfl ?_
        refine aw_iinc (aw_d q_Mo_variableOf 53 rfl) rfl (ii1 _) (aw_le rfl) rfl ?_
        refine aw_goto (tgt := 4) (aw_d q_Mo_variableOf 54 rfl) (by decide) ?_
        have hq : lsB (nmP N T a len) (v + 1) = lsB (nmP N T a len) v := by simp only [lsB]; rw [if_neg (fun q => c19 (nmP_iff.mp q).1)]
        have hi := fun x4 x5 => ih (v + 1) x4 x5 (by omega) trivial
        simp only [hq] at hi
        exact AW.to (hi _ _) rfl rfl rfl rfl
    · refine aw_iconst (v := nI 1) (aw_d q_Mo_variableOf 14 rfl) (by decide) ?_
      refine aw_goto (tgt := 27) (aw_d q_Mo_variableOf 15 rfl) (by decide) ?_
      refine aw_istore (aw_d q_Mo_variableOf 17 rfl) (aw_le rfl) rfl ?_
      refine aw_iconst (v := nI 0) (aw_d q_Mo_variableOf 18 rfl) (by decide) ?_
      refine aw_istore (aw_d q_Mo_variableOf 19 rfl) (aw_le rfl) rfl ?_
      have hpv : nmP N T a len v = eqB (N.2.2 v) (fun i => T (a + i)) len 0 := by simp only [nmP]; rw [decide_eq_true c19]; rfl
      refine AW.to (lp_vo_in (S := D) hN hc ha (v := v) (by omega) c19 (x2 := some (.int (oI (lsB (nmP N T a len) v)))) (tot := nmP N T a len v) (fun x5 => ?_) len 0 true (by omega) (by rw [hpv]; rfl)) rfl rfl rfl rfl
      refine aw_iload (aw_d q_Mo_variableOf 47 rfl) rfl ?_
      refine aw_ifB_eq (tgt := 92) (aw_d q_Mo_variableOf 48 rfl) (by decide) (fun c85 => ?_) (fun c85 => ?_)
      · refine aw_iload_n (aw_d q_Mo_variableOf 51 rfl) rfl rfl ?_
        refine aw_istore_n (aw_d q_Mo_variableOf 52 rfl) rfl (aw_le rfl) rfl ?_
        refine aw_iinc (aw_d q_Mo_variableOf 53 rfl) rfl (ii1 _) (aw_le rfl) rfl ?_
        refine aw_goto (tgt := 4) (aw_d q_Mo_variableOf 54 rfl) (by decide) ?_
        have hq : lsB (nmP N T a len) (v + 1) = lsB (nmP N T a len) v := by simp only [lsB]; rw [if_neg c85]
        have hi := fun x4 x5 => ih (v + 1) x4 x5 (by omega) trivial
        simp only [hq] at hi
        exact AW.to (hi _ _) rfl rfl rfl rfl
      · refine aw_iload_n (aw_d q_Mo_variableOf 49 rfl) rfl rfl ?_
        refine aw_goto (tgt := 93) (aw_d q_Mo_variableOf 50 rfl) (by decide) ?_
        refine aw_istore_n (aw_d q_Mo_variableOf 52 rfl) rfl (aw_le rfl) rfl ?_
        refine aw_iinc (aw_d q_Mo_variableOf 53 rfl) rfl (ii1 _) (aw_le rfl) rfl ?_
        refine aw_goto (tgt := 4) (aw_d q_Mo_variableOf 54 rfl) (by decide) ?_
        have hq : lsB (nmP N T a len) (v + 1) = some v := by simp only [lsB]; rw [if_pos c85]
        have hi := fun x4 x5 => ih (v + 1) x4 x5 (by omega) trivial
        simp only [hq] at hi
        exact AW.to (hi _ _) rfl rfl rfl rfl
set_option maxRecDepth 20000 in
theorem sp_vo {g : aw_G} {D : aw_S} {N : nm_T} {n : Nat} {T : Nat → Int32} {a len : Nat} {pl q z : Int32} {X : Nat → Int32} (hN : nmM D N) (hc : TPm D n T) (ha : a + len ≤ n) (hD : nmD N) : Sp g M_Mo_variableOf 0 0 0 0 [.ref 33, .int (nI len)] (HP (QM D pl q (nI a) z X)) (fun r h => r = some (.int (oI (nmF N T a len))) ∧ h = HP (QM D pl q (nI a) z X)) := by
  refine Sp.of rfl (aw_le rfl) ?_
  rw [← nmF_ls hD]
  refine aw_iconst (v := (-1)) (aw_d q_Mo_variableOf 0 rfl) (by decide) ?_
  refine aw_istore_n (aw_d q_Mo_variableOf 1 rfl) rfl (aw_le rfl) rfl ?_
  refine aw_iconst (v := nI 0) (aw_d q_Mo_variableOf 2 rfl) (by decide) ?_
  refine aw_istore_n (aw_d q_Mo_variableOf 3 rfl) rfl (aw_le rfl) rfl ?_
  exact AW.to (lp_vo (S := D) hN hc ha N.1 0 _ _ (by omega) trivial) rfl rfl rfl rfl
theorem hn_end {S D : aw_S} {N : nm_T} {n : Nat} {T : Nat → Int32} {p : Nat} {z : Int32} {X : Nat → Int32} (hI : imC S N 0 [] D) (hp : p ≤ n) (hl : p < we T n p) (h8 : we T n p - p ≤ 8) (h6 : N.1 < 6) (hx : nmF N T p (we T n p - p) = none) {r : Option Value} {h : aw_hp} (hh : (fun r h => r = none ∧ ∃ ND : Nat → Int32, h = HP (si (sa (sa (QM D (nI (we T n p)) (-1) (nI p) z X) 48 (upd (D.2 48) N.1 (nI (we T n p - p)))) 49 ND) 3323 (nI (N.1 + 1))) ∧ (∀ i, i < we T n p - p → ND (N.1 * 8 + i) = T (p + i)) ∧ ∀ j, j < N.1 * 8 → ND j = D.2 49 j) r h) : (fun r h => r = none ∧ match nn T n N p with
  | .ok y => y.1 ≤ n ∧ ∃ F, imC S y.2 0 [] F ∧ h = HP (QM F (nI y.1) (-1) (nI p) z X)
  | .error u => u = p ∧ ∃ b, b ≤ n ∧ h = HP (QM D (nI b) (nI p) (nI p) z X)) r h := by
  obtain ⟨h1, ND, h2, b1, b2⟩ := hh
  refine ⟨h1, ?_⟩
  rw [nn, if_pos ⟨⟨by omega, h8⟩, h6, hx⟩]
  refine ⟨(we_le hp).2, _, imC_nm hI hx h6 (by omega) h8 b1 b2, ?_⟩
  rw [h2, QM_sa (by decide), QM_sa (by decide), QM_si (by decide)]
set_option maxRecDepth 20000 in
theorem lp_hn {g : aw_G} {S : aw_S} {D : aw_S} {N : nm_T} {n : Nat} {T : Nat → Int32} {p : Nat} {z : Int32} {X : Nat → Int32} (hI : imC S N 0 [] D) (hc : TPm S n T) (hp : p ≤ n) (hl : p < we T n p) (h8 : we T n p - p ≤ 8) (h6 : N.1 < 6) (hx : nmF N T p (we T n p - p) = none) : ∀ (m k : Nat) (ND : Nat → Int32), m + k = we T n p - p → (∀ i, i < k → ND (N.1 * 8 + i) = T (p + i)) → (∀ j, j < N.1 * 8 → ND j = D.2 49 j) → AW g M_Mo_headName (aw_rm 3 62 0 0) (aw_F g 0 0 (fun r h => r = none ∧ match nn T n N p with
  | .ok y => y.1 ≤ n ∧ ∃ F, imC S y.2 0 [] F ∧ h = HP (QM F (nI y.1) (-1) (nI p) z X)
  | .error u => u = p ∧ ∃ b, b ≤ n ∧ h = HP (QM D (nI b) (nI p) (nI p) z X))) 62 [some (.ref 33), some (.int (nI (we T n p - p))), some (.int (nI k))] [] (HP (sa (sa (QM D (nI (we T n p)) (-1) (nI p) z X) 48 (upd (D.2 48) N.1 (nI (we T n p - p)))) 49 ND)) 0 0 := by
  intro m
  induction m with
  | zero =>
    intro k ND hk b1 b2
    have hc2 := hc.2.1
    refine aw_iload_n (aw_d q_Mo_headName 32 rfl) rfl rfl ?_
    refine aw_iload_n (aw_d q_Mo_headName 33 rfl) rfl rfl ?_
    refine aw_icmpN_ge (tgt := 98) (aw_d q_Mo_headName 34 rfl) (by decide) (by (have hc2 := hc.2.1; have hwe := we_le (T := T) hp; have h6 := hI.2.1.2.1; omega)) (by (have hc2 := hc.2.1; have hwe := we_le (T := T) hp; have h6 := hI.2.1.2.1; omega)) (fun c64 => ?_) (fun c64 => by exfalso; (have hc2 := hc.2.1; have hwe := we_le (T := T) hp; have h6 := hI.2.1.2.1; omega))
    refine aw_aload_n (aw_d q_Mo_headName 53 rfl) rfl rfl rfl ?_
    refine aw_dup (aw_d q_Mo_headName 54 rfl) rfl ?_
    refine aw_getf (v := .int (nI (N.1))) (aw_d q_Mo_headName 55 rfl) fL_Mo_349_Mo rfl (gk hI.2.1.1) ?_
    refine aw_iconst (v := nI 1) (aw_d q_Mo_headName 56 rfl) (by decide) ?_
    refine aw_iaddN (aw_d q_Mo_headName 57 rfl) ?_
    refine wi_33_23 (aw_d q_Mo_headName 58 rfl) pL_Mo_349_Mo ?_
    exact aw_vret (aw_d q_Mo_headName 59 rfl) rfl (hn_end hI hp hl h8 h6 hx ⟨rfl, ND, rfl, fun i hi => b1 i (by omega), b2⟩)
  | succ m ih =>
    intro k ND hk b1 b2
    have hc2 := hc.2.1
    have hwe := we_le (T := T) hp
    refine aw_iload_n (aw_d q_Mo_headName 32 rfl) rfl rfl ?_
    refine aw_iload_n (aw_d q_Mo_headName 33 rfl) rfl rfl ?_
    refine aw_icmpN_ge (tgt := 98) (aw_d q_Mo_headName 34 rfl) (by decide) (by (have hc2 := hc.2.1; have hwe := we_le (T := T) hp; have h6 := hI.2.1.2.1; omega)) (by (have hc2 := hc.2.1; have hwe := we_le (T := T) hp; have h6 := hI.2.1.2.1; omega)) (fun c64 => by exfalso; (have hc2 := hc.2.1; have hwe := we_le (T := T) hp; have h6 := hI.2.1.2.1; omega)) (fun c64 => ?_)
    refine aw_aload_n (aw_d q_Mo_headName 35 rfl) rfl rfl rfl ?_
    refine aw_getf (aw_d q_Mo_headName 36 rfl) fL_Mo_56_Mo rfl rfl ?_
    refine aw_bipush (v := nI 8) (aw_d q_Mo_headName 37 rfl) (by decide) ?_
    refine aw_aload_n (aw_d q_Mo_headName 38 rfl) rfl rfl rfl ?_
    refine aw_getf (v := .int (nI (N.1))) (aw_d q_Mo_headName 39 rfl) fL_Mo_349_Mo rfl (gk hI.2.1.1) ?_
    refine aw_imulN (aw_d q_Mo_headName 40 rfl) ?_
    refine aw_iload_n (aw_d q_Mo_headName 41 rfl) rfl rfl ?_
    refine aw_iaddN (aw_d q_Mo_headName 42 rfl) ?_
    refine aw_aload_n (aw_d q_Mo_headName 43 rfl) rfl rfl rfl ?_
    refine aw_getf (aw_d q_Mo_headName 44 rfl) fL_Mo_7_Mo rfl rfl ?_
    refine aw_aload_n (aw_d q_Mo_headName 45 rfl) rfl rfl rfl ?_
    refine aw_getf (v := .int (nI (p))) (aw_d q_Mo_headName 46 rfl) fL_Mo_346_Mo rfl (gk rfl) ?_
    refine aw_iload_n (aw_d q_Mo_headName 47 rfl) rfl rfl ?_
    refine aw_iaddN (aw_d q_Mo_headName 48 rfl) ?_
    refine aw_ialdK (w := (T (p + k))) (aw_d q_Mo_headName 49 rfl) rfl (by (have hc2 := hc.2.1; have hwe := we_le (T := T) hp; have h6 := hI.2.1.2.1; omega)) rfl ((frM_TP hI.1 hc).2.2.1 _ (by omega)) ?_
    refine wn_49 (aw_d q_Mo_headName 50 rfl) (by (have hc2 := hc.2.1; have hwe := we_le (T := T) hp; have h6 := hI.2.1.2.1; omega)) ?_
    refine aw_iinc (aw_d q_Mo_headName 51 rfl) rfl (ii1 _) (aw_le rfl) rfl ?_
    refine aw_goto (tgt := 62) (aw_d q_Mo_headName 52 rfl) (by decide) ?_
    exact AW.to (ih (k + 1) (upd ND (8 * N.1 + k) (T (p + k))) (by omega) (fun i hi => by simp only [upd]; by_cases hik : i = k; (rw [if_pos (by omega), hik]); (rw [if_neg (by omega)]; exact b1 i (by omega))) (fun j hj => by simp only [upd]; rw [if_neg (by omega)]; exact b2 j hj)) rfl rfl rfl rfl
set_option maxRecDepth 20000 in
theorem sp_headA {g : aw_G} {S D : aw_S} {N : nm_T} {n : Nat} {T : Nat → Int32} {p : Nat} {f z : Int32} {X : Nat → Int32} (hI : imC S N 0 [] D) (hc : TPm S n T) (hp : p ≤ n)  : Sp g M_Mo_headName 3 62 0 0 [.ref 33] (HP (QM D (nI p) (-1) f z X)) (fun r h => r = none ∧ match nn T n N p with
  | .ok y => y.1 ≤ n ∧ ∃ F, imC S y.2 0 [] F ∧ h = HP (QM F (nI y.1) (-1) (nI p) z X)
  | .error u => u = p ∧ ∃ b, b ≤ n ∧ h = HP (QM D (nI b) (nI p) (nI p) z X)) := by
  refine Sp.of rfl (aw_le rfl) ?_
  have hc2 := hc.2.1
  have hwe := we_le (T := T) hp
  refine aw_aload_n (aw_d q_Mo_headName 0 rfl) rfl rfl rfl ?_
  refine cV (aw_d q_Mo_headName 1 rfl) (sp_letA (frM_TP hI.1 hc) hp) vL_Mo_352_Mo rfl rfl rfl rfl rfl rfl ⟨aw_le rfl, aw_le rfl⟩ (fun r1 h1 hp1 => ?_)
  obtain ⟨rfl, hp1⟩ := hp1
  rcases hp1 with ⟨hw1, rfl⟩ | ⟨hw1, rfl⟩
  · skip -- no
    refine aw_istore_n (aw_d q_Mo_headName 2 rfl) rfl (aw_le rfl) rfl ?_
    refine aw_aload_n (aw_d q_Mo_headName 3 rfl) rfl rfl rfl ?_
    refine cVr (aw_d q_Mo_headName 4 rfl) (sp_goesI (u := p) (by omega)) vL_Mo_327_Mo rfl rfl rfl rfl rfl rfl ⟨aw_le rfl, aw_le rfl⟩ ?_
    refine aw_ifN_eq (tgt := 43) (aw_d q_Mo_headName 5 rfl) (by decide) (by (have hc2 := hc.2.1; have hwe := we_le (T := T) hp; have h6 := hI.2.1.2.1; omega)) (fun c9 => ?_) (fun c9 => by exfalso; (have hc2 := hc.2.1; have hwe := we_le (T := T) hp; have h6 := hI.2.1.2.1; omega))
    refine aw_aload_n (aw_d q_Mo_headName 21 rfl) rfl rfl rfl ?_
    refine cVr (aw_d q_Mo_headName 22 rfl) (sp_goesI (u := p) (by omega)) vL_Mo_327_Mo rfl rfl rfl rfl rfl rfl ⟨aw_le rfl, aw_le rfl⟩ ?_
    refine aw_ifN_eq (tgt := 108) (aw_d q_Mo_headName 23 rfl) (by decide) (by (have hc2 := hc.2.1; have hwe := we_le (T := T) hp; have h6 := hI.2.1.2.1; omega)) (fun c47 => ?_) (fun c47 => by exfalso; (have hc2 := hc.2.1; have hwe := we_le (T := T) hp; have h6 := hI.2.1.2.1; omega))
    exact aw_vret (aw_d q_Mo_headName 59 rfl) rfl (⟨rfl, by rw [nn, if_neg (fun q => by have q1 := q.1; omega)]; exact ⟨rfl, _, by omega, rfl⟩⟩)
  · skip -- yes
    refine aw_istore_n (aw_d q_Mo_headName 2 rfl) rfl (aw_le rfl) rfl ?_
    refine aw_aload_n (aw_d q_Mo_headName 3 rfl) rfl rfl rfl ?_
    refine cVr (aw_d q_Mo_headName 4 rfl) (sp_goesA) vL_Mo_327_Mo rfl rfl rfl rfl rfl rfl ⟨aw_le rfl, aw_le rfl⟩ ?_
    refine aw_ifN_eq (tgt := 43) (aw_d q_Mo_headName 5 rfl) (by decide) (by (have hc2 := hc.2.1; have hwe := we_le (T := T) hp; have h6 := hI.2.1.2.1; omega)) (fun c9 => by exfalso; (have hc2 := hc.2.1; have hwe := we_le (T := T) hp; have h6 := hI.2.1.2.1; omega)) (fun c9 => ?_)
    refine aw_iload_n (aw_d q_Mo_headName 6 rfl) rfl rfl ?_
    refine aw_bipush (v := nI 8) (aw_d q_Mo_headName 7 rfl) (by decide) ?_
    refine aw_icmpN_gt (tgt := 35) (aw_d q_Mo_headName 8 rfl) (by decide) (by (have hc2 := hc.2.1; have hwe := we_le (T := T) hp; have h6 := hI.2.1.2.1; omega)) (by (have hc2 := hc.2.1; have hwe := we_le (T := T) hp; have h6 := hI.2.1.2.1; omega)) (fun c15 => ?_) (fun c15 => ?_)
    · refine aw_aload_n (aw_d q_Mo_headName 17 rfl) rfl rfl rfl ?_
      refine aw_aload_n (aw_d q_Mo_headName 18 rfl) rfl rfl rfl ?_
      refine aw_getf (v := .int (nI (p))) (aw_d q_Mo_headName 19 rfl) fL_Mo_346_Mo rfl (gk rfl) ?_
      refine cVv (aw_d q_Mo_headName 20 rfl) (sp_mfailA) vL_Mo_334_Mo rfl rfl rfl rfl rfl rfl ⟨aw_le rfl, aw_le rfl⟩ ?_
      refine aw_aload_n (aw_d q_Mo_headName 21 rfl) rfl rfl rfl ?_
      refine cVr (aw_d q_Mo_headName 22 rfl) (sp_goesI (u := p) (by omega)) vL_Mo_327_Mo rfl rfl rfl rfl rfl rfl ⟨aw_le rfl, aw_le rfl⟩ ?_
      refine aw_ifN_eq (tgt := 108) (aw_d q_Mo_headName 23 rfl) (by decide) (by (have hc2 := hc.2.1; have hwe := we_le (T := T) hp; have h6 := hI.2.1.2.1; omega)) (fun c47 => ?_) (fun c47 => by exfalso; (have hc2 := hc.2.1; have hwe := we_le (T := T) hp; have h6 := hI.2.1.2.1; omega))
      exact aw_vret (aw_d q_Mo_headName 59 rfl) rfl (⟨rfl, by rw [nn, if_neg (fun q => by have q1 := q.1; omega)]; exact ⟨rfl, _, by omega, rfl⟩⟩)
    · refine aw_aload_n (aw_d q_Mo_headName 9 rfl) rfl rfl rfl ?_
      refine aw_iload_n (aw_d q_Mo_headName 10 rfl) rfl rfl ?_
      refine cV (aw_d q_Mo_headName 11 rfl) (sp_vo (a := p) (len := we T n p - p) hI.2.1 (frM_TP hI.1 hc) (by omega) hI.2.2.1) vL_Mo_355_Mo rfl rfl rfl rfl rfl rfl ⟨aw_le rfl, aw_le rfl⟩ (fun r20 h20 hp20 => ?_)
      cases hx20 : nmF N T p (we T n p - p) with
      | none =>
        rw [hx20] at hp20
        obtain ⟨rfl, rfl⟩ := hp20
        refine aw_ifI_ge (tgt := 35) (aw_d q_Mo_headName 12 rfl) (by decide) (fun c23 => by exact absurd c23 (by decide)) (fun c23 => ?_)
        refine aw_aload_n (aw_d q_Mo_headName 13 rfl) rfl rfl rfl ?_
        refine aw_getf (v := .int (nI (N.1))) (aw_d q_Mo_headName 14 rfl) fL_Mo_349_Mo rfl (gk hI.2.1.1) ?_
        refine aw_bipush (v := nI 6) (aw_d q_Mo_headName 15 rfl) (by decide) ?_
        refine aw_icmpN_ne (tgt := 43) (aw_d q_Mo_headName 16 rfl) (by decide) (by (have hc2 := hc.2.1; have hwe := we_le (T := T) hp; have h6 := hI.2.1.2.1; omega)) (by (have hc2 := hc.2.1; have hwe := we_le (T := T) hp; have h6 := hI.2.1.2.1; omega)) (fun c32 => ?_) (fun c32 => ?_)
        · refine aw_aload_n (aw_d q_Mo_headName 21 rfl) rfl rfl rfl ?_
          refine cVr (aw_d q_Mo_headName 22 rfl) (sp_goesA) vL_Mo_327_Mo rfl rfl rfl rfl rfl rfl ⟨aw_le rfl, aw_le rfl⟩ ?_
          refine aw_ifN_eq (tgt := 108) (aw_d q_Mo_headName 23 rfl) (by decide) (by (have hc2 := hc.2.1; have hwe := we_le (T := T) hp; have h6 := hI.2.1.2.1; omega)) (fun c47 => by exfalso; (have hc2 := hc.2.1; have hwe := we_le (T := T) hp; have h6 := hI.2.1.2.1; omega)) (fun c47 => ?_)
          refine aw_aload_n (aw_d q_Mo_headName 24 rfl) rfl rfl rfl ?_
          refine aw_getf (aw_d q_Mo_headName 25 rfl) fL_Mo_53_Mo rfl rfl ?_
          refine aw_aload_n (aw_d q_Mo_headName 26 rfl) rfl rfl rfl ?_
          refine aw_getf (v := .int (nI (N.1))) (aw_d q_Mo_headName 27 rfl) fL_Mo_349_Mo rfl (gk hI.2.1.1) ?_
          refine aw_iload_n (aw_d q_Mo_headName 28 rfl) rfl rfl ?_
          refine wn_48 (aw_d q_Mo_headName 29 rfl) (by (have hc2 := hc.2.1; have hwe := we_le (T := T) hp; have h6 := hI.2.1.2.1; omega)) ?_
          refine aw_iconst (v := nI 0) (aw_d q_Mo_headName 30 rfl) (by decide) ?_
          refine aw_istore_n (aw_d q_Mo_headName 31 rfl) rfl (aw_le rfl) rfl ?_
          exact AW.to (lp_hn hI hc hp (by omega) (by omega) (by have := hI.2.1.2.1; omega) hx20 (we T n p - p) 0 (D.2 49) (by omega) (fun i hi => by omega) (fun j hj => rfl)) rfl rfl rfl rfl
        · refine aw_aload_n (aw_d q_Mo_headName 17 rfl) rfl rfl rfl ?_
          refine aw_aload_n (aw_d q_Mo_headName 18 rfl) rfl rfl rfl ?_
          refine aw_getf (v := .int (nI (p))) (aw_d q_Mo_headName 19 rfl) fL_Mo_346_Mo rfl (gk rfl) ?_
          refine cVv (aw_d q_Mo_headName 20 rfl) (sp_mfailA) vL_Mo_334_Mo rfl rfl rfl rfl rfl rfl ⟨aw_le rfl, aw_le rfl⟩ ?_
          refine aw_aload_n (aw_d q_Mo_headName 21 rfl) rfl rfl rfl ?_
          refine cVr (aw_d q_Mo_headName 22 rfl) (sp_goesI (u := p) (by omega)) vL_Mo_327_Mo rfl rfl rfl rfl rfl rfl ⟨aw_le rfl, aw_le rfl⟩ ?_
          refine aw_ifN_eq (tgt := 108) (aw_d q_Mo_headName 23 rfl) (by decide) (by (have hc2 := hc.2.1; have hwe := we_le (T := T) hp; have h6 := hI.2.1.2.1; omega)) (fun c47 => ?_) (fun c47 => by exfalso; (have hc2 := hc.2.1; have hwe := we_le (T := T) hp; have h6 := hI.2.1.2.1; omega))
          exact aw_vret (aw_d q_Mo_headName 59 rfl) rfl (⟨rfl, by rw [nn, if_neg (fun q => by have q1 := q.2.1; omega)]; exact ⟨rfl, _, by omega, rfl⟩⟩)
      | some v20 =>
        rw [hx20] at hp20
        obtain ⟨rfl, rfl⟩ := hp20
        have hv20 := nmF_lt hx20
        refine aw_ifN_ge (tgt := 35) (aw_d q_Mo_headName 12 rfl) (by decide) (by (have hc2 := hc.2.1; have hwe := we_le (T := T) hp; have h6 := hI.2.1.2.1; omega)) (fun c23 => ?_) (fun c23 => by exfalso; (have hc2 := hc.2.1; have hwe := we_le (T := T) hp; have h6 := hI.2.1.2.1; omega))
        refine aw_aload_n (aw_d q_Mo_headName 17 rfl) rfl rfl rfl ?_
        refine aw_aload_n (aw_d q_Mo_headName 18 rfl) rfl rfl rfl ?_
        refine aw_getf (v := .int (nI (p))) (aw_d q_Mo_headName 19 rfl) fL_Mo_346_Mo rfl (gk rfl) ?_
        refine cVv (aw_d q_Mo_headName 20 rfl) (sp_mfailA) vL_Mo_334_Mo rfl rfl rfl rfl rfl rfl ⟨aw_le rfl, aw_le rfl⟩ ?_
        refine aw_aload_n (aw_d q_Mo_headName 21 rfl) rfl rfl rfl ?_
        refine cVr (aw_d q_Mo_headName 22 rfl) (sp_goesI (u := p) (by omega)) vL_Mo_327_Mo rfl rfl rfl rfl rfl rfl ⟨aw_le rfl, aw_le rfl⟩ ?_
        refine aw_ifN_eq (tgt := 108) (aw_d q_Mo_headName 23 rfl) (by decide) (by (have hc2 := hc.2.1; have hwe := we_le (T := T) hp; have h6 := hI.2.1.2.1; omega)) (fun c47 => ?_) (fun c47 => by exfalso; (have hc2 := hc.2.1; have hwe := we_le (T := T) hp; have h6 := hI.2.1.2.1; omega))
        exact aw_vret (aw_d q_Mo_headName 59 rfl) rfl (⟨rfl, by rw [nn, if_neg (fun q => by rw [hx20] at q; cases q.2.2)]; exact ⟨rfl, _, by omega, rfl⟩⟩)
set_option maxRecDepth 20000 in
theorem sp_headI {g : aw_G} {S : aw_S} {u b : Nat} {f z : Int32} {X : Nat → Int32} (hu : u ≤ 3000) (hb : b ≤ 3010)  : Sp g M_Mo_headName 3 62 0 0 [.ref 33] (HP (QM S (nI b) (nI u) f z X)) (fun r h => r = none ∧ h = HP (QM S (nI b) (nI u) (nI b) z X)) := by
  refine Sp.of rfl (aw_le rfl) ?_
  refine aw_aload_n (aw_d q_Mo_headName 0 rfl) rfl rfl rfl ?_
  refine cVr (aw_d q_Mo_headName 1 rfl) (sp_letI hu hb) vL_Mo_352_Mo rfl rfl rfl rfl rfl rfl ⟨aw_le rfl, aw_le rfl⟩ ?_
  refine aw_istore_n (aw_d q_Mo_headName 2 rfl) rfl (aw_le rfl) rfl ?_
  refine aw_aload_n (aw_d q_Mo_headName 3 rfl) rfl rfl rfl ?_
  refine cVr (aw_d q_Mo_headName 4 rfl) (sp_goesI hu) vL_Mo_327_Mo rfl rfl rfl rfl rfl rfl ⟨aw_le rfl, aw_le rfl⟩ ?_
  refine aw_ifN_eq (tgt := 43) (aw_d q_Mo_headName 5 rfl) (by decide) (by omega) (fun c9 => ?_) (fun c9 => by exfalso; omega)
  refine aw_aload_n (aw_d q_Mo_headName 21 rfl) rfl rfl rfl ?_
  refine cVr (aw_d q_Mo_headName 22 rfl) (sp_goesI hu) vL_Mo_327_Mo rfl rfl rfl rfl rfl rfl ⟨aw_le rfl, aw_le rfl⟩ ?_
  refine aw_ifN_eq (tgt := 108) (aw_d q_Mo_headName 23 rfl) (by decide) (by omega) (fun c47 => ?_) (fun c47 => by exfalso; omega)
  exact aw_vret (aw_d q_Mo_headName 59 rfl) rfl (⟨rfl, rfl⟩)
theorem rn_no {D : aw_S} {T : Nat → Int32} {n p lo : Nat} {N : nm_T} (hN : nmM D N) (h : we T n p = p) : rn T n N lo p = .error p := by
  have hf : nmF N T p (we T n p - p) = none := by
    cases hq : nmF N T p (we T n p - p) with
    | none => rfl
    | some v =>
      obtain ⟨-, h2, h3⟩ := fdB_some hq
      have h4 := (nmP_iff (N := N) (T := T) (a := p) (v := v)).mp h3
      have h5 := (hN.2.2 v (by omega)).2.1.1
      omega
  simp only [rn, hf]
set_option maxRecDepth 20000 in
theorem sp_rowNA {g : aw_G} {S D : aw_S} {N : nm_T} {R : Nat} {s : sq_T} {n : Nat} {T : Nat → Int32} {p : Nat} {f z : Int32} {X : Nat → Int32} (hI : imC S N R s D) (hc : TPm S n T) (hp : p ≤ n) {lo : Nat} {x : Int32} (hx : x.toInt = (lo : Int) - 1) : Sp g M_Mo_rowName 3 62 0 0 [.ref 33, .int x] (HP (QM D (nI p) (-1) f z X)) (fun r h => match rn T n N lo p with
  | .ok y => r = some (.int (nI y.2)) ∧ y.2 < N.1 ∧ lo ≤ y.2 ∧ y.1 ≤ n ∧ h = HP (QM D (nI y.1) (-1) (nI p) z X)
  | .error u => u = p ∧ (∃ v : Int32, r = some (.int v)) ∧ ∃ b, b ≤ n ∧ h = HP (QM D (nI b) (nI p) (nI p) z X)) := by
  refine Sp.of rfl (aw_le rfl) ?_
  have hc2 := hc.2.1
  have hwe := we_le (T := T) hp
  refine aw_aload_n (aw_d q_Mo_rowName 0 rfl) rfl rfl rfl ?_
  refine cV (aw_d q_Mo_rowName 1 rfl) (sp_letA (frM_TP hI.1 hc) hp) vL_Mo_352_Mo rfl rfl rfl rfl rfl rfl ⟨aw_le rfl, aw_le rfl⟩ (fun r1 h1 hp1 => ?_)
  obtain ⟨rfl, hp1⟩ := hp1
  rcases hp1 with ⟨hw1, rfl⟩ | ⟨hw1, rfl⟩
  · skip -- no
    refine aw_istore_n (aw_d q_Mo_rowName 2 rfl) rfl (aw_le rfl) rfl ?_
    refine aw_aload_n (aw_d q_Mo_rowName 3 rfl) rfl rfl rfl ?_
    refine cVr (aw_d q_Mo_rowName 4 rfl) (sp_goesI (u := p) (by omega)) vL_Mo_327_Mo rfl rfl rfl rfl rfl rfl ⟨aw_le rfl, aw_le rfl⟩ ?_
    refine aw_ifN_eq (tgt := 20) (aw_d q_Mo_rowName 5 rfl) (by decide) (by (have hc2 := hc.2.1; have hwe := we_le (T := T) hp; have h6 := hI.2.1.2.1; omega)) (fun c9 => ?_) (fun c9 => by exfalso; (have hc2 := hc.2.1; have hwe := we_le (T := T) hp; have h6 := hI.2.1.2.1; omega))
    refine aw_iconst (v := (-1)) (aw_d q_Mo_rowName 10 rfl) (by decide) ?_
    refine aw_istore_n (aw_d q_Mo_rowName 11 rfl) rfl (aw_le rfl) rfl ?_
    refine aw_aload_n (aw_d q_Mo_rowName 12 rfl) rfl rfl rfl ?_
    refine cVr (aw_d q_Mo_rowName 13 rfl) (sp_goesI (u := p) (by omega)) vL_Mo_327_Mo rfl rfl rfl rfl rfl rfl ⟨aw_le rfl, aw_le rfl⟩ ?_
    refine aw_ifN_eq (tgt := 42) (aw_d q_Mo_rowName 14 rfl) (by decide) (by (have hc2 := hc.2.1; have hwe := we_le (T := T) hp; have h6 := hI.2.1.2.1; omega)) (fun c26 => ?_) (fun c26 => by exfalso; (have hc2 := hc.2.1; have hwe := we_le (T := T) hp; have h6 := hI.2.1.2.1; omega))
    refine aw_iload_n (aw_d q_Mo_rowName 22 rfl) rfl rfl ?_
    exact aw_iret (aw_d q_Mo_rowName 23 rfl) rfl (by rw [rn_no hI.2.1 (by omega)]; exact ⟨rfl, ⟨_, rfl⟩, _, by omega, rfl⟩)
  · skip -- yes
    refine aw_istore_n (aw_d q_Mo_rowName 2 rfl) rfl (aw_le rfl) rfl ?_
    refine aw_aload_n (aw_d q_Mo_rowName 3 rfl) rfl rfl rfl ?_
    refine cVr (aw_d q_Mo_rowName 4 rfl) (sp_goesA) vL_Mo_327_Mo rfl rfl rfl rfl rfl rfl ⟨aw_le rfl, aw_le rfl⟩ ?_
    refine aw_ifN_eq (tgt := 20) (aw_d q_Mo_rowName 5 rfl) (by decide) (by (have hc2 := hc.2.1; have hwe := we_le (T := T) hp; have h6 := hI.2.1.2.1; omega)) (fun c9 => by exfalso; (have hc2 := hc.2.1; have hwe := we_le (T := T) hp; have h6 := hI.2.1.2.1; omega)) (fun c9 => ?_)
    refine aw_aload_n (aw_d q_Mo_rowName 6 rfl) rfl rfl rfl ?_
    refine aw_iload_n (aw_d q_Mo_rowName 7 rfl) rfl rfl ?_
    refine cV (aw_d q_Mo_rowName 8 rfl) (sp_vo (a := p) (len := we T n p - p) hI.2.1 (frM_TP hI.1 hc) (by omega) hI.2.2.1) vL_Mo_355_Mo rfl rfl rfl rfl rfl rfl ⟨aw_le rfl, aw_le rfl⟩ (fun r14 h14 hp14 => ?_)
    cases hx14 : nmF N T p (we T n p - p) with
    | none =>
      rw [hx14] at hp14
      obtain ⟨rfl, rfl⟩ := hp14
      refine aw_goto (tgt := 21) (aw_d q_Mo_rowName 9 rfl) (by decide) ?_
      refine aw_istore_n (aw_d q_Mo_rowName 11 rfl) rfl (aw_le rfl) rfl ?_
      refine aw_aload_n (aw_d q_Mo_rowName 12 rfl) rfl rfl rfl ?_
      refine cVr (aw_d q_Mo_rowName 13 rfl) (sp_goesA) vL_Mo_327_Mo rfl rfl rfl rfl rfl rfl ⟨aw_le rfl, aw_le rfl⟩ ?_
      refine aw_ifN_eq (tgt := 42) (aw_d q_Mo_rowName 14 rfl) (by decide) (by (have hc2 := hc.2.1; have hwe := we_le (T := T) hp; have h6 := hI.2.1.2.1; omega)) (fun c26 => by exfalso; (have hc2 := hc.2.1; have hwe := we_le (T := T) hp; have h6 := hI.2.1.2.1; omega)) (fun c26 => ?_)
      refine aw_iload_n (aw_d q_Mo_rowName 15 rfl) rfl rfl ?_
      refine aw_iload_n (aw_d q_Mo_rowName 16 rfl) rfl rfl ?_
      refine aw_icmpZ_gt (tgt := 42) (aw_d q_Mo_rowName 17 rfl) (by decide) (fun c31 => by (have h1 : (oI none).toInt = -1 := rfl; omega)) (fun c31 => ?_)
      refine aw_aload_n (aw_d q_Mo_rowName 18 rfl) rfl rfl rfl ?_
      refine aw_aload_n (aw_d q_Mo_rowName 19 rfl) rfl rfl rfl ?_
      refine aw_getf (v := .int (nI (p))) (aw_d q_Mo_rowName 20 rfl) fL_Mo_346_Mo rfl (gk rfl) ?_
      refine cVv (aw_d q_Mo_rowName 21 rfl) (sp_mfailA) vL_Mo_334_Mo rfl rfl rfl rfl rfl rfl ⟨aw_le rfl, aw_le rfl⟩ ?_
      refine aw_iload_n (aw_d q_Mo_rowName 22 rfl) rfl rfl ?_
      exact aw_iret (aw_d q_Mo_rowName 23 rfl) rfl (by rw [show rn T n N lo p = .error p by simp only [rn, hx14]]; exact ⟨rfl, ⟨_, rfl⟩, _, by omega, rfl⟩)
    | some v14 =>
      rw [hx14] at hp14
      obtain ⟨rfl, rfl⟩ := hp14
      have hv14 := nmF_lt hx14
      refine aw_goto (tgt := 21) (aw_d q_Mo_rowName 9 rfl) (by decide) ?_
      refine aw_istore_n (aw_d q_Mo_rowName 11 rfl) rfl (aw_le rfl) rfl ?_
      refine aw_aload_n (aw_d q_Mo_rowName 12 rfl) rfl rfl rfl ?_
      refine cVr (aw_d q_Mo_rowName 13 rfl) (sp_goesA) vL_Mo_327_Mo rfl rfl rfl rfl rfl rfl ⟨aw_le rfl, aw_le rfl⟩ ?_
      refine aw_ifN_eq (tgt := 42) (aw_d q_Mo_rowName 14 rfl) (by decide) (by (have hc2 := hc.2.1; have hwe := we_le (T := T) hp; have h6 := hI.2.1.2.1; omega)) (fun c26 => by exfalso; (have hc2 := hc.2.1; have hwe := we_le (T := T) hp; have h6 := hI.2.1.2.1; omega)) (fun c26 => ?_)
      refine aw_iload_n (aw_d q_Mo_rowName 15 rfl) rfl rfl ?_
      refine aw_iload_n (aw_d q_Mo_rowName 16 rfl) rfl rfl ?_
      refine aw_icmpJ_gt (tgt := 42) (aw_d q_Mo_rowName 17 rfl) (by decide) (by (have hc2 := hc.2.1; have hwe := we_le (T := T) hp; have h6 := hI.2.1.2.1; omega)) (fun c31 => ?_) (fun c31 => ?_)
      · refine aw_iload_n (aw_d q_Mo_rowName 22 rfl) rfl rfl ?_
        exact aw_iret (aw_d q_Mo_rowName 23 rfl) rfl (by rw [show rn T n N lo p = .ok (we T n p, v14) by simp only [rn, hx14]; rw [if_pos (by omega)]]; exact ⟨rfl, hv14, by show lo ≤ v14; omega, by show we T n p ≤ n; omega, rfl⟩)
      · refine aw_aload_n (aw_d q_Mo_rowName 18 rfl) rfl rfl rfl ?_
        refine aw_aload_n (aw_d q_Mo_rowName 19 rfl) rfl rfl rfl ?_
        refine aw_getf (v := .int (nI (p))) (aw_d q_Mo_rowName 20 rfl) fL_Mo_346_Mo rfl (gk rfl) ?_
        refine cVv (aw_d q_Mo_rowName 21 rfl) (sp_mfailA) vL_Mo_334_Mo rfl rfl rfl rfl rfl rfl ⟨aw_le rfl, aw_le rfl⟩ ?_
        refine aw_iload_n (aw_d q_Mo_rowName 22 rfl) rfl rfl ?_
        exact aw_iret (aw_d q_Mo_rowName 23 rfl) rfl (by rw [show rn T n N lo p = .error p by simp only [rn, hx14]; rw [if_neg (by omega)]]; exact ⟨rfl, ⟨_, rfl⟩, _, by omega, rfl⟩)
set_option maxRecDepth 20000 in
theorem sp_rowNI {g : aw_G} {S : aw_S} {u b : Nat} {f z : Int32} {X : Nat → Int32} (hu : u ≤ 3000) (hb : b ≤ 3010) {x : Int32} : Sp g M_Mo_rowName 3 62 0 0 [.ref 33, .int x] (HP (QM S (nI b) (nI u) f z X)) (fun r h => r = some (.int (-1)) ∧ h = HP (QM S (nI b) (nI u) (nI b) z X)) := by
  refine Sp.of rfl (aw_le rfl) ?_
  refine aw_aload_n (aw_d q_Mo_rowName 0 rfl) rfl rfl rfl ?_
  refine cVr (aw_d q_Mo_rowName 1 rfl) (sp_letI hu hb) vL_Mo_352_Mo rfl rfl rfl rfl rfl rfl ⟨aw_le rfl, aw_le rfl⟩ ?_
  refine aw_istore_n (aw_d q_Mo_rowName 2 rfl) rfl (aw_le rfl) rfl ?_
  refine aw_aload_n (aw_d q_Mo_rowName 3 rfl) rfl rfl rfl ?_
  refine cVr (aw_d q_Mo_rowName 4 rfl) (sp_goesI hu) vL_Mo_327_Mo rfl rfl rfl rfl rfl rfl ⟨aw_le rfl, aw_le rfl⟩ ?_
  refine aw_ifN_eq (tgt := 20) (aw_d q_Mo_rowName 5 rfl) (by decide) (by omega) (fun c9 => ?_) (fun c9 => by exfalso; omega)
  refine aw_iconst (v := (-1)) (aw_d q_Mo_rowName 10 rfl) (by decide) ?_
  refine aw_istore_n (aw_d q_Mo_rowName 11 rfl) rfl (aw_le rfl) rfl ?_
  refine aw_aload_n (aw_d q_Mo_rowName 12 rfl) rfl rfl rfl ?_
  refine cVr (aw_d q_Mo_rowName 13 rfl) (sp_goesI hu) vL_Mo_327_Mo rfl rfl rfl rfl rfl rfl ⟨aw_le rfl, aw_le rfl⟩ ?_
  refine aw_ifN_eq (tgt := 42) (aw_d q_Mo_rowName 14 rfl) (by decide) (by omega) (fun c26 => ?_) (fun c26 => by exfalso; omega)
  refine aw_iload_n (aw_d q_Mo_rowName 22 rfl) rfl rfl ?_
  exact aw_iret (aw_d q_Mo_rowName 23 rfl) rfl (⟨rfl, rfl⟩)
