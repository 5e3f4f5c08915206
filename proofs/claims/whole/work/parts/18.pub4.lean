/-- p holds of the m numbers from k on -/
def anB (p : Nat → Bool) : Nat → Nat → Bool
  | 0, _ => true
  | m + 1, k => p k && anB p m (k + 1)
/-- the i-th number of which p holds: m numbers from r on, c so far -/
def lkB (p : Nat → Bool) (i : Nat) : Nat → Nat → Nat → Int32
  | 0, _, _ => -2
  | m + 1, r, c => if p r then (if c = i then nI r else lkB p i m (r + 1) (c + 1)) else lkB p i m (r + 1) c
theorem anB_t {p : Nat → Bool} {m k : Nat} (h : p k = true) : anB p (m + 1) k = anB p m (k + 1) := by simp only [anB]; rw [h]; rfl
theorem anB_f {p : Nat → Bool} {m k : Nat} (h : p k = false) : anB p (m + 1) k = false := by simp only [anB]; rw [h]; rfl
theorem lkB_t {p : Nat → Bool} {i m r c : Nat} (h : p r = true) : lkB p i (m + 1) r c = if c = i then nI r else lkB p i m (r + 1) (c + 1) := by simp only [lkB]; rw [if_pos h]
theorem lkB_f {p : Nat → Bool} {i m r c : Nat} (h : p r = false) : lkB p i (m + 1) r c = lkB p i m (r + 1) c := by simp only [lkB]; rw [if_neg (by rw [h]; exact Bool.false_ne_true)]
theorem anB_congr {p q : Nat → Bool} : ∀ {m k : Nat}, (∀ i, k ≤ i → i < k + m → p i = q i) → anB p m k = anB q m k := by
  intro m
  induction m with
  | zero => intro k _; rfl
  | succ m ih =>
    intro k h
    simp only [anB]
    rw [h k (by omega) (by omega), ih (fun i h1 h2 => h i (by omega) (by omega))]
theorem lkB_congr {p q : Nat → Bool} {i : Nat} : ∀ {m r c : Nat}, (∀ j, r ≤ j → j < r + m → p j = q j) → lkB p i m r c = lkB q i m r c := by
  intro m
  induction m with
  | zero => intro r c _; rfl
  | succ m ih =>
    intro r c h
    simp only [lkB]
    rw [h r (by omega) (by omega), ih (fun j h1 h2 => h j (by omega) (by omega)), ih (fun j h1 h2 => h j (by omega) (by omega))]
theorem okK_congr {k n : Nat} {f e : Nat → Int32} (h : ∀ i, i < n → f i = e i) : okK k f n = okK k e n := by
  simp only [okK]
  rw [allB_congr (p := pNd) (f := f) (e := e) (fun i _ hi => h i (by omega)), allB_congr (p := pLD) (f := f) (e := e) (fun i _ hi => h i (by omega))]
theorem tmB_congr {K E L B f e : Nat → Int32} {k x : Int32} {n : Nat} (h : ∀ i, i < n → f i = e i) : tmB K E L B k x n f = tmB K E L B k x n e := by
  funext t
  simp only [tmB]
  rw [eqB_congr (f := fun i => B (t * 20 + i)) (f' := fun i => B (t * 20 + i)) (e := f) (e' := e) (fun i _ _ => rfl) (fun i _ hi => h i (by omega))]
theorem k_of4 {k e : Int32} (h : exB k e = true) : ∃ kd : Nat, kd ≤ 4 ∧ k = nI kd := by
  have h := exB_iff.mp h
  exact ⟨k.toInt.toNat, by omega, by rw [← Int32.toInt_inj, nI_toInt (by omega)]; omega⟩
set_option maxRecDepth 20000 in
theorem sp_RF_termB {g : aw_G} {S : aw_S} {n : Nat} (hn : S.1 101 = nI n) (h3 : n ≤ 3000) {k e : Int32} (hbad : ¬ ((n ≤ 20 ∧ allB pTx (S.2 2) n 0 = true) ∧ exB k e = true ∧ okK k.toNatClampNeg (S.2 2) n = true)) : Sp g M_RF_term 6 134 0 0 [.ref 0, .int k, .int e] (HP S) (fun r h => r = some (.int (-1)) ∧ ∃ (m : Nat) (A : Nat → Int32), h = HP (si (si (si (sa S 8 A) 701 (nI m)) 101 (nI 0)) 102 (nI 0))) := by
  refine Sp.of rfl (aw_le rfl) ?_
  refine aw_aload_n (aw_d q_RF_term 0 rfl) rfl rfl rfl ?_
  refine aw_getf (aw_d q_RF_term 1 rfl) fL_RF_25_RF rfl rfl ?_
  refine aw_aload_n (aw_d q_RF_term 2 rfl) rfl rfl rfl ?_
  refine aw_getf (aw_d q_RF_term 3 rfl) fL_RF_10_RF rfl rfl ?_
  refine cV (aw_d q_RF_term 4 rfl) (sp_Tx_takeAll hn h3) vL_RF_108_Tx rfl rfl rfl rfl rfl rfl ⟨aw_le rfl, aw_le rfl⟩ (fun r8 h8 hp8 => ?_)
  obtain ⟨m, A, rfl, hm, rfl, hA⟩ := hp8
  refine aw_istore_n (aw_d q_RF_term 5 rfl) rfl (aw_le rfl) rfl ?_
  refine aw_aload_n (aw_d q_RF_term 6 rfl) rfl rfl rfl ?_
  refine aw_getf (aw_d q_RF_term 7 rfl) fL_RF_10_RF rfl rfl ?_
  refine cVv (aw_d q_RF_term 8 rfl) (sp_By_empty_1) vL_RF_112_By rfl rfl rfl rfl rfl rfl ⟨aw_le rfl, aw_le rfl⟩ ?_
  refine aw_iload_n (aw_d q_RF_term 9 rfl) rfl rfl ?_
  refine aw_ifB_eq (tgt := 42) (aw_d q_RF_term 10 rfl) (by decide) (fun c20 => ?_) (fun c20 => ?_)
  · refine aw_iconst (v := (-1)) (aw_d q_RF_term 20 rfl) (by decide) ?_
    exact aw_iret (aw_d q_RF_term 21 rfl) rfl (⟨rfl, _, A, rfl⟩)
  · obtain ⟨hmn, hE⟩ := hA c20.1 c20.2
    have hmn := hmn.symm
    subst hmn
    refine aw_iload_n (aw_d q_RF_term 11 rfl) rfl rfl ?_
    refine aw_iload_n (aw_d q_RF_term 12 rfl) rfl rfl ?_
    refine cSr (aw_d q_RF_term 13 rfl) (sp_RF_isExtra) sL_RF_115 rfl rfl rfl rfl ⟨aw_le rfl, aw_le rfl⟩ ?_
    refine aw_ifB_eq (tgt := 42) (aw_d q_RF_term 14 rfl) (by decide) (fun c28 => ?_) (fun c28 => ?_)
    · refine aw_iconst (v := (-1)) (aw_d q_RF_term 20 rfl) (by decide) ?_
      exact aw_iret (aw_d q_RF_term 21 rfl) rfl (⟨rfl, _, A, rfl⟩)
    · obtain ⟨kd, hkd, rfl⟩ := k_of4 c28
      refine aw_aload_n (aw_d q_RF_term 15 rfl) rfl rfl rfl ?_
      refine aw_getf (aw_d q_RF_term 16 rfl) fL_RF_25_RF rfl rfl ?_
      refine aw_iload_n (aw_d q_RF_term 17 rfl) rfl rfl ?_
      refine cVr (aw_d q_RF_term 18 rfl) (sp_Tx_isOf_7 (n := n) (kd := kd) rfl c20.1 hkd) vL_RF_119_Tx rfl rfl rfl rfl rfl rfl ⟨aw_le rfl, aw_le rfl⟩ ?_
      refine aw_ifB_ne (tgt := 44) (aw_d q_RF_term 19 rfl) (by decide) (fun c39 => by exact absurd ⟨c20, c28, by rw [nI_clamp (by omega)]; exact (okK_congr (fun i hi => (hE i hi).symm)).trans c39⟩ hbad) (fun c39 => ?_)
      refine aw_iconst (v := (-1)) (aw_d q_RF_term 20 rfl) (by decide) ?_
      exact aw_iret (aw_d q_RF_term 21 rfl) rfl (⟨rfl, _, A, rfl⟩)
set_option maxRecDepth 20000 in
theorem sp_RF_termS {g : aw_G} {S : aw_S} {n : Nat} (hn : S.1 101 = nI n) (h3 : n ≤ 3000) {nt : Nat} {tl : Nat → Nat} (hT : TeI S nt tl) {kd : Nat} {e : Int32} (hkd : kd ≤ 4) (h20 : n ≤ 20) (htx : allB pTx (S.2 2) n 0 = true) (hex : exB (nI kd) e = true) (hok : okK kd (S.2 2) n = true) {t : Nat} (hf : fdB (tmB (S.2 10) (S.2 11) (S.2 12) (S.2 13) (nI kd) e n (S.2 2)) nt 0 = some t) : Sp g M_RF_term 6 134 0 0 [.ref 0, .int (nI kd), .int e] (HP S) (fun r h => r = some (.int (nI t)) ∧ ∃ A : Nat → Int32, h = HP (si (si (si (sa S 8 A) 701 (nI n)) 101 (nI 0)) 102 (nI 0))) := by
  refine Sp.of rfl (aw_le rfl) ?_
  have htn := fdB_some hf
  refine aw_aload_n (aw_d q_RF_term 0 rfl) rfl rfl rfl ?_
  refine aw_getf (aw_d q_RF_term 1 rfl) fL_RF_25_RF rfl rfl ?_
  refine aw_aload_n (aw_d q_RF_term 2 rfl) rfl rfl rfl ?_
  refine aw_getf (aw_d q_RF_term 3 rfl) fL_RF_10_RF rfl rfl ?_
  refine cV (aw_d q_RF_term 4 rfl) (sp_Tx_takeAll hn h3) vL_RF_108_Tx rfl rfl rfl rfl rfl rfl ⟨aw_le rfl, aw_le rfl⟩ (fun r8 h8 hp8 => ?_)
  obtain ⟨m, A, rfl, hm, rfl, hA⟩ := hp8
  refine aw_istore_n (aw_d q_RF_term 5 rfl) rfl (aw_le rfl) rfl ?_
  refine aw_aload_n (aw_d q_RF_term 6 rfl) rfl rfl rfl ?_
  refine aw_getf (aw_d q_RF_term 7 rfl) fL_RF_10_RF rfl rfl ?_
  refine cVv (aw_d q_RF_term 8 rfl) (sp_By_empty_1) vL_RF_112_By rfl rfl rfl rfl rfl rfl ⟨aw_le rfl, aw_le rfl⟩ ?_
  refine aw_iload_n (aw_d q_RF_term 9 rfl) rfl rfl ?_
  refine aw_ifB_eq (tgt := 42) (aw_d q_RF_term 10 rfl) (by decide) (fun c20 => by exact absurd ⟨h20, htx⟩ c20) (fun c20 => ?_)
  obtain ⟨hmn, hE⟩ := hA h20 htx
  have hmn := hmn.symm
  subst hmn
  refine aw_iload_n (aw_d q_RF_term 11 rfl) rfl rfl ?_
  refine aw_iload_n (aw_d q_RF_term 12 rfl) rfl rfl ?_
  refine cSr (aw_d q_RF_term 13 rfl) (sp_RF_isExtra) sL_RF_115 rfl rfl rfl rfl ⟨aw_le rfl, aw_le rfl⟩ ?_
  refine aw_ifB_eq (tgt := 42) (aw_d q_RF_term 14 rfl) (by decide) (fun c28 => by exact absurd hex c28) (fun c28 => ?_)
  refine aw_aload_n (aw_d q_RF_term 15 rfl) rfl rfl rfl ?_
  refine aw_getf (aw_d q_RF_term 16 rfl) fL_RF_25_RF rfl rfl ?_
  refine aw_iload_n (aw_d q_RF_term 17 rfl) rfl rfl ?_
  refine cVr (aw_d q_RF_term 18 rfl) (sp_Tx_isOf_7 (n := n) (kd := kd) rfl h20 hkd) vL_RF_119_Tx rfl rfl rfl rfl rfl rfl ⟨aw_le rfl, aw_le rfl⟩ ?_
  refine aw_ifB_ne (tgt := 44) (aw_d q_RF_term 19 rfl) (by decide) (fun c39 => ?_) (fun c39 => by exact absurd ((okK_congr hE).trans hok) c39)
  refine aw_aload_n (aw_d q_RF_term 22 rfl) rfl rfl rfl ?_
  refine aw_getf (aw_d q_RF_term 23 rfl) fL_RF_32_RF rfl rfl ?_
  refine aw_iload_n (aw_d q_RF_term 24 rfl) rfl rfl ?_
  refine aw_iload_n (aw_d q_RF_term 25 rfl) rfl rfl ?_
  refine aw_aload_n (aw_d q_RF_term 26 rfl) rfl rfl rfl ?_
  refine aw_getf (aw_d q_RF_term 27 rfl) fL_RF_25_RF rfl rfl ?_
  refine cVr (aw_d q_RF_term 28 rfl) (sp_Te_findS_7 (t := t) (show TeI (si (si (si (sa S 8 A) 701 (nI n)) 101 (nI 0)) 102 (nI 0)) nt tl from hT) (n := n) rfl h20 ((congrArg (fun p => fdB p nt 0) (tmB_congr hE)).trans hf)) vL_RF_122_Te rfl rfl rfl rfl rfl rfl ⟨aw_le rfl, aw_le rfl⟩ ?_
  refine aw_istore (aw_d q_RF_term 29 rfl) (aw_le rfl) rfl ?_
  refine aw_iload (aw_d q_RF_term 30 rfl) rfl ?_
  refine aw_iconst (v := (-1)) (aw_d q_RF_term 31 rfl) (by decide) ?_
  refine aw_icmpZ_eq (tgt := 68) (aw_d q_RF_term 32 rfl) (by decide) (fun c62 => by exact absurd c62 (m1_ne (by (have hT2 := hT.2.1; omega)))) (fun c62 => ?_)
  refine aw_iload (aw_d q_RF_term 33 rfl) rfl ?_
  exact aw_iret (aw_d q_RF_term 34 rfl) rfl (⟨rfl, A, rfl⟩)
set_option maxRecDepth 20000 in
theorem sp_RF_termF {g : aw_G} {S : aw_S} {n : Nat} (hn : S.1 101 = nI n) (h3 : n ≤ 3000) {nt : Nat} {tl : Nat → Nat} (hT : TeI S nt tl) {kd : Nat} {e : Int32} (hkd : kd ≤ 4) (h20 : n ≤ 20) (htx : allB pTx (S.2 2) n 0 = true) (hex : exB (nI kd) e = true) (hok : okK kd (S.2 2) n = true) (hf : fdB (tmB (S.2 10) (S.2 11) (S.2 12) (S.2 13) (nI kd) e n (S.2 2)) nt 0 = none) (h60 : nt = 60) : Sp g M_RF_term 6 134 0 0 [.ref 0, .int (nI kd), .int e] (HP S) (fun r h => r = some (.int (-3)) ∧ ∃ A : Nat → Int32, h = HP (si (si (si (sa S 8 A) 701 (nI n)) 101 (nI 0)) 102 (nI 0))) := by
  refine Sp.of rfl (aw_le rfl) ?_
  refine aw_aload_n (aw_d q_RF_term 0 rfl) rfl rfl rfl ?_
  refine aw_getf (aw_d q_RF_term 1 rfl) fL_RF_25_RF rfl rfl ?_
  refine aw_aload_n (aw_d q_RF_term 2 rfl) rfl rfl rfl ?_
  refine aw_getf (aw_d q_RF_term 3 rfl) fL_RF_10_RF rfl rfl ?_
  refine cV (aw_d q_RF_term 4 rfl) (sp_Tx_takeAll hn h3) vL_RF_108_Tx rfl rfl rfl rfl rfl rfl ⟨aw_le rfl, aw_le rfl⟩ (fun r8 h8 hp8 => ?_)
  obtain ⟨m, A, rfl, hm, rfl, hA⟩ := hp8
  refine aw_istore_n (aw_d q_RF_term 5 rfl) rfl (aw_le rfl) rfl ?_
  refine aw_aload_n (aw_d q_RF_term 6 rfl) rfl rfl rfl ?_
  refine aw_getf (aw_d q_RF_term 7 rfl) fL_RF_10_RF rfl rfl ?_
  refine cVv (aw_d q_RF_term 8 rfl) (sp_By_empty_1) vL_RF_112_By rfl rfl rfl rfl rfl rfl ⟨aw_le rfl, aw_le rfl⟩ ?_
  refine aw_iload_n (aw_d q_RF_term 9 rfl) rfl rfl ?_
  refine aw_ifB_eq (tgt := 42) (aw_d q_RF_term 10 rfl) (by decide) (fun c20 => by exact absurd ⟨h20, htx⟩ c20) (fun c20 => ?_)
  obtain ⟨hmn, hE⟩ := hA h20 htx
  have hmn := hmn.symm
  subst hmn
  refine aw_iload_n (aw_d q_RF_term 11 rfl) rfl rfl ?_
  refine aw_iload_n (aw_d q_RF_term 12 rfl) rfl rfl ?_
  refine cSr (aw_d q_RF_term 13 rfl) (sp_RF_isExtra) sL_RF_115 rfl rfl rfl rfl ⟨aw_le rfl, aw_le rfl⟩ ?_
  refine aw_ifB_eq (tgt := 42) (aw_d q_RF_term 14 rfl) (by decide) (fun c28 => by exact absurd hex c28) (fun c28 => ?_)
  refine aw_aload_n (aw_d q_RF_term 15 rfl) rfl rfl rfl ?_
  refine aw_getf (aw_d q_RF_term 16 rfl) fL_RF_25_RF rfl rfl ?_
  refine aw_iload_n (aw_d q_RF_term 17 rfl) rfl rfl ?_
  refine cVr (aw_d q_RF_term 18 rfl) (sp_Tx_isOf_7 (n := n) (kd := kd) rfl h20 hkd) vL_RF_119_Tx rfl rfl rfl rfl rfl rfl ⟨aw_le rfl, aw_le rfl⟩ ?_
  refine aw_ifB_ne (tgt := 44) (aw_d q_RF_term 19 rfl) (by decide) (fun c39 => ?_) (fun c39 => by exact absurd ((okK_congr hE).trans hok) c39)
  refine aw_aload_n (aw_d q_RF_term 22 rfl) rfl rfl rfl ?_
  refine aw_getf (aw_d q_RF_term 23 rfl) fL_RF_32_RF rfl rfl ?_
  refine aw_iload_n (aw_d q_RF_term 24 rfl) rfl rfl ?_
  refine aw_iload_n (aw_d q_RF_term 25 rfl) rfl rfl ?_
  refine aw_aload_n (aw_d q_RF_term 26 rfl) rfl rfl rfl ?_
  refine aw_getf (aw_d q_RF_term 27 rfl) fL_RF_25_RF rfl rfl ?_
  refine cVr (aw_d q_RF_term 28 rfl) (sp_Te_findN_7 (show TeI (si (si (si (sa S 8 A) 701 (nI n)) 101 (nI 0)) 102 (nI 0)) nt tl from hT) (n := n) rfl h20 ((congrArg (fun p => fdB p nt 0) (tmB_congr hE)).trans hf)) vL_RF_122_Te rfl rfl rfl rfl rfl rfl ⟨aw_le rfl, aw_le rfl⟩ ?_
  refine aw_istore (aw_d q_RF_term 29 rfl) (aw_le rfl) rfl ?_
  refine aw_iload (aw_d q_RF_term 30 rfl) rfl ?_
  refine aw_iconst (v := (-1)) (aw_d q_RF_term 31 rfl) (by decide) ?_
  refine aw_icmpZ_eq (tgt := 68) (aw_d q_RF_term 32 rfl) (by decide) (fun c62 => ?_) (fun c62 => by exact absurd rfl c62)
  refine aw_aload_n (aw_d q_RF_term 35 rfl) rfl rfl rfl ?_
  refine aw_getf (aw_d q_RF_term 36 rfl) fL_RF_32_RF rfl rfl ?_
  refine aw_getf (v := .int (nI (nt))) (aw_d q_RF_term 37 rfl) fL_RF_126_Te rfl (gk hT.1) ?_
  refine aw_bipush (v := nI 60) (aw_d q_RF_term 38 rfl) (by decide) ?_
  refine aw_icmpN_lt (tgt := 83) (aw_d q_RF_term 39 rfl) (by decide) (by (have hT2 := hT.2.1; omega)) (by (have hT2 := hT.2.1; omega)) (fun c77 => by exfalso; (have hT2 := hT.2.1; omega)) (fun c77 => ?_)
  refine aw_bipush (v := (-3)) (aw_d q_RF_term 40 rfl) (by decide) ?_
  exact aw_iret (aw_d q_RF_term 41 rfl) rfl (⟨rfl, A, rfl⟩)
set_option maxRecDepth 20000 in
theorem sp_RF_termN {g : aw_G} {S : aw_S} {n : Nat} (hn : S.1 101 = nI n) (h3 : n ≤ 3000) {nt : Nat} {tl : Nat → Nat} (hT : TeI S nt tl) {kd : Nat} {e : Int32} (hkd : kd ≤ 4) (h20 : n ≤ 20) (htx : allB pTx (S.2 2) n 0 = true) (hex : exB (nI kd) e = true) (hok : okK kd (S.2 2) n = true) (hf : fdB (tmB (S.2 10) (S.2 11) (S.2 12) (S.2 13) (nI kd) e n (S.2 2)) nt 0 = none) (h60 : nt < 60) : Sp g M_RF_term 6 134 0 0 [.ref 0, .int (nI kd), .int e] (HP S) (fun r h => r = some (.int (nI nt)) ∧ ∃ A BD : Nat → Int32, h = HP (si (sa (sa (sa (sa (si (si (si (sa S 8 A) 701 (nI n)) 101 (nI 0)) 102 (nI 0)) 10 (upd (S.2 10) nt (nI kd))) 11 (upd (S.2 11) nt e)) 12 (upd (S.2 12) nt (nI n))) 13 BD) 904 (nI (nt + 1))) ∧ (∀ i, i < n → BD (nt * 20 + i) = S.2 2 i) ∧ ∀ j, j < nt * 20 → BD j = S.2 13 j) := by
  refine Sp.of rfl (aw_le rfl) ?_
  refine aw_aload_n (aw_d q_RF_term 0 rfl) rfl rfl rfl ?_
  refine aw_getf (aw_d q_RF_term 1 rfl) fL_RF_25_RF rfl rfl ?_
  refine aw_aload_n (aw_d q_RF_term 2 rfl) rfl rfl rfl ?_
  refine aw_getf (aw_d q_RF_term 3 rfl) fL_RF_10_RF rfl rfl ?_
  refine cV (aw_d q_RF_term 4 rfl) (sp_Tx_takeAll hn h3) vL_RF_108_Tx rfl rfl rfl rfl rfl rfl ⟨aw_le rfl, aw_le rfl⟩ (fun r8 h8 hp8 => ?_)
  obtain ⟨m, A, rfl, hm, rfl, hA⟩ := hp8
  refine aw_istore_n (aw_d q_RF_term 5 rfl) rfl (aw_le rfl) rfl ?_
  refine aw_aload_n (aw_d q_RF_term 6 rfl) rfl rfl rfl ?_
  refine aw_getf (aw_d q_RF_term 7 rfl) fL_RF_10_RF rfl rfl ?_
  refine cVv (aw_d q_RF_term 8 rfl) (sp_By_empty_1) vL_RF_112_By rfl rfl rfl rfl rfl rfl ⟨aw_le rfl, aw_le rfl⟩ ?_
  refine aw_iload_n (aw_d q_RF_term 9 rfl) rfl rfl ?_
  refine aw_ifB_eq (tgt := 42) (aw_d q_RF_term 10 rfl) (by decide) (fun c20 => by exact absurd ⟨h20, htx⟩ c20) (fun c20 => ?_)
  obtain ⟨hmn, hE⟩ := hA h20 htx
  have hmn := hmn.symm
  subst hmn
  refine aw_iload_n (aw_d q_RF_term 11 rfl) rfl rfl ?_
  refine aw_iload_n (aw_d q_RF_term 12 rfl) rfl rfl ?_
  refine cSr (aw_d q_RF_term 13 rfl) (sp_RF_isExtra) sL_RF_115 rfl rfl rfl rfl ⟨aw_le rfl, aw_le rfl⟩ ?_
  refine aw_ifB_eq (tgt := 42) (aw_d q_RF_term 14 rfl) (by decide) (fun c28 => by exact absurd hex c28) (fun c28 => ?_)
  refine aw_aload_n (aw_d q_RF_term 15 rfl) rfl rfl rfl ?_
  refine aw_getf (aw_d q_RF_term 16 rfl) fL_RF_25_RF rfl rfl ?_
  refine aw_iload_n (aw_d q_RF_term 17 rfl) rfl rfl ?_
  refine cVr (aw_d q_RF_term 18 rfl) (sp_Tx_isOf_7 (n := n) (kd := kd) rfl h20 hkd) vL_RF_119_Tx rfl rfl rfl rfl rfl rfl ⟨aw_le rfl, aw_le rfl⟩ ?_
  refine aw_ifB_ne (tgt := 44) (aw_d q_RF_term 19 rfl) (by decide) (fun c39 => ?_) (fun c39 => by exact absurd ((okK_congr hE).trans hok) c39)
  refine aw_aload_n (aw_d q_RF_term 22 rfl) rfl rfl rfl ?_
  refine aw_getf (aw_d q_RF_term 23 rfl) fL_RF_32_RF rfl rfl ?_
  refine aw_iload_n (aw_d q_RF_term 24 rfl) rfl rfl ?_
  refine aw_iload_n (aw_d q_RF_term 25 rfl) rfl rfl ?_
  refine aw_aload_n (aw_d q_RF_term 26 rfl) rfl rfl rfl ?_
  refine aw_getf (aw_d q_RF_term 27 rfl) fL_RF_25_RF rfl rfl ?_
  refine cVr (aw_d q_RF_term 28 rfl) (sp_Te_findN_7 (show TeI (si (si (si (sa S 8 A) 701 (nI n)) 101 (nI 0)) 102 (nI 0)) nt tl from hT) (n := n) rfl h20 ((congrArg (fun p => fdB p nt 0) (tmB_congr hE)).trans hf)) vL_RF_122_Te rfl rfl rfl rfl rfl rfl ⟨aw_le rfl, aw_le rfl⟩ ?_
  refine aw_istore (aw_d q_RF_term 29 rfl) (aw_le rfl) rfl ?_
  refine aw_iload (aw_d q_RF_term 30 rfl) rfl ?_
  refine aw_iconst (v := (-1)) (aw_d q_RF_term 31 rfl) (by decide) ?_
  refine aw_icmpZ_eq (tgt := 68) (aw_d q_RF_term 32 rfl) (by decide) (fun c62 => ?_) (fun c62 => by exact absurd rfl c62)
  refine aw_aload_n (aw_d q_RF_term 35 rfl) rfl rfl rfl ?_
  refine aw_getf (aw_d q_RF_term 36 rfl) fL_RF_32_RF rfl rfl ?_
  refine aw_getf (v := .int (nI (nt))) (aw_d q_RF_term 37 rfl) fL_RF_126_Te rfl (gk hT.1) ?_
  refine aw_bipush (v := nI 60) (aw_d q_RF_term 38 rfl) (by decide) ?_
  refine aw_icmpN_lt (tgt := 83) (aw_d q_RF_term 39 rfl) (by decide) (by (have hT2 := hT.2.1; omega)) (by (have hT2 := hT.2.1; omega)) (fun c77 => ?_) (fun c77 => by exfalso; (have hT2 := hT.2.1; omega))
  refine aw_aload_n (aw_d q_RF_term 42 rfl) rfl rfl rfl ?_
  refine aw_getf (aw_d q_RF_term 43 rfl) fL_RF_32_RF rfl rfl ?_
  refine aw_iload_n (aw_d q_RF_term 44 rfl) rfl rfl ?_
  refine aw_iload_n (aw_d q_RF_term 45 rfl) rfl rfl ?_
  refine aw_aload_n (aw_d q_RF_term 46 rfl) rfl rfl rfl ?_
  refine aw_getf (aw_d q_RF_term 47 rfl) fL_RF_25_RF rfl rfl ?_
  refine cV (aw_d q_RF_term 48 rfl) (sp_Te_numberOfN_7 (show TeI (si (si (si (sa S 8 A) 701 (nI n)) 101 (nI 0)) 102 (nI 0)) nt tl from hT) (n := n) rfl h20 ((congrArg (fun p => fdB p nt 0) (tmB_congr hE)).trans hf) (by omega)) vL_RF_129_Te rfl rfl rfl rfl rfl rfl ⟨aw_le rfl, aw_le rfl⟩ (fun r93 h93 hp93 => ?_)
  obtain ⟨rfl, BD, rfl, e1, e2⟩ := hp93
  exact aw_iret (aw_d q_RF_term 49 rfl) rfl (⟨rfl, A, BD, rfl, fun i hi => (e1 i hi).trans (hE i hi), e2⟩)
theorem oI_none {o : Option Nat} (h : ∀ t, o = some t → t < 2147483648) : (oI o).toInt = (-1 : Int32).toInt ↔ o = none := by
  cases o with
  | none => exact ⟨fun _ => rfl, fun _ => rfl⟩
  | some t => exact ⟨fun q => absurd q (m1_ne (h t rfl)), fun q => by cases q⟩
set_option maxRecDepth 20000 in
theorem sp_RF_variableB {g : aw_G} {S : aw_S} {nv nr : Nat} {nl : Nat → Nat} (hB : TbI_14 S nv nr nl) {n : Nat} (hn : S.1 101 = nI n) (h3 : n ≤ 3000) (hbad : ¬ (((1 ≤ n ∧ n ≤ 8) ∧ allB pLet (S.2 2) n 0 = true) ∧ fdB (nmB (S.2 16) (S.2 15) n (fun i => S.2 2 (0 + i))) nv 0 = none)) : Sp g M_RF_variable 3 71 0 0 [.ref 0] (HP S) (fun r h => r = some (.int (-1)) ∧ h = HP (si (si S 101 (nI 0)) 102 (nI 0))) := by
  refine Sp.of rfl (aw_le rfl) ?_
  refine aw_aload_n (aw_d q_RF_variable 0 rfl) rfl rfl rfl ?_
  refine aw_getf (aw_d q_RF_variable 1 rfl) fL_RF_10_RF rfl rfl ?_
  refine aw_getf (v := .int (nI (n))) (aw_d q_RF_variable 2 rfl) fL_RF_100_By rfl (gk hn) ?_
  refine aw_istore_n (aw_d q_RF_variable 3 rfl) rfl (aw_le rfl) rfl ?_
  refine aw_aload_n (aw_d q_RF_variable 4 rfl) rfl rfl rfl ?_
  refine aw_getf (aw_d q_RF_variable 5 rfl) fL_RF_10_RF rfl rfl ?_
  refine cSr (aw_d q_RF_variable 6 rfl) (sp_RF_isName hn h3) sL_RF_148 rfl rfl rfl rfl ⟨aw_le rfl, aw_le rfl⟩ ?_
  refine aw_ifB_eq (tgt := 39) (aw_d q_RF_variable 7 rfl) (by decide) (fun c15 => ?_) (fun c15 => ?_)
  · refine aw_iconst (v := nI 0) (aw_d q_RF_variable 19 rfl) (by decide) ?_
    refine aw_istore_n (aw_d q_RF_variable 20 rfl) rfl (aw_le rfl) rfl ?_
    refine aw_iload_n (aw_d q_RF_variable 21 rfl) rfl rfl ?_
    refine aw_ifN_ne (tgt := 50) (aw_d q_RF_variable 22 rfl) (by decide) (by (have hB2 := hB.2.1; have hB4 := hB.2.2.2.1; omega)) (fun c42 => by omega) (fun c42 => ?_)
    refine aw_iconst (v := (-1)) (aw_d q_RF_variable 23 rfl) (by decide) ?_
    refine aw_istore_n (aw_d q_RF_variable 24 rfl) rfl (aw_le rfl) rfl ?_
    refine aw_goto (tgt := 107) (aw_d q_RF_variable 25 rfl) (by decide) ?_
    refine aw_aload_n (aw_d q_RF_variable 54 rfl) rfl rfl rfl ?_
    refine aw_getf (aw_d q_RF_variable 55 rfl) fL_RF_10_RF rfl rfl ?_
    refine cVv (aw_d q_RF_variable 56 rfl) (sp_By_empty_1) vL_RF_112_By rfl rfl rfl rfl rfl rfl ⟨aw_le rfl, aw_le rfl⟩ ?_
    refine aw_iload_n (aw_d q_RF_variable 57 rfl) rfl rfl ?_
    exact aw_iret (aw_d q_RF_variable 58 rfl) rfl (⟨rfl, rfl⟩)
  · refine aw_aload_n (aw_d q_RF_variable 8 rfl) rfl rfl rfl ?_
    refine aw_getf (aw_d q_RF_variable 9 rfl) fL_RF_39_RF rfl rfl ?_
    refine aw_aload_n (aw_d q_RF_variable 10 rfl) rfl rfl rfl ?_
    refine aw_getf (aw_d q_RF_variable 11 rfl) fL_RF_10_RF rfl rfl ?_
    refine aw_iconst (v := nI 0) (aw_d q_RF_variable 12 rfl) (by decide) ?_
    refine aw_iload_n (aw_d q_RF_variable 13 rfl) rfl rfl ?_
    refine cVr (aw_d q_RF_variable 14 rfl) (sp_Tb_find_14 (a := 0) hB hn h3 (by omega)) vL_RF_151_Tb rfl rfl rfl rfl rfl rfl ⟨aw_le rfl, aw_le rfl⟩ ?_
    refine aw_iconst (v := (-1)) (aw_d q_RF_variable 15 rfl) (by decide) ?_
    refine aw_icmpZ_ne (tgt := 39) (aw_d q_RF_variable 16 rfl) (by decide) (fun c32 => ?_) (fun c32 => by exact absurd ⟨c15, (oI_none (fun t ht => by have := fdB_some ht; have := hB.2.1; omega)).mp c32⟩ hbad)
    refine aw_iconst (v := nI 0) (aw_d q_RF_variable 19 rfl) (by decide) ?_
    refine aw_istore_n (aw_d q_RF_variable 20 rfl) rfl (aw_le rfl) rfl ?_
    refine aw_iload_n (aw_d q_RF_variable 21 rfl) rfl rfl ?_
    refine aw_ifN_ne (tgt := 50) (aw_d q_RF_variable 22 rfl) (by decide) (by (have hB2 := hB.2.1; have hB4 := hB.2.2.2.1; omega)) (fun c42 => by omega) (fun c42 => ?_)
    refine aw_iconst (v := (-1)) (aw_d q_RF_variable 23 rfl) (by decide) ?_
    refine aw_istore_n (aw_d q_RF_variable 24 rfl) rfl (aw_le rfl) rfl ?_
    refine aw_goto (tgt := 107) (aw_d q_RF_variable 25 rfl) (by decide) ?_
    refine aw_aload_n (aw_d q_RF_variable 54 rfl) rfl rfl rfl ?_
    refine aw_getf (aw_d q_RF_variable 55 rfl) fL_RF_10_RF rfl rfl ?_
    refine cVv (aw_d q_RF_variable 56 rfl) (sp_By_empty_1) vL_RF_112_By rfl rfl rfl rfl rfl rfl ⟨aw_le rfl, aw_le rfl⟩ ?_
    refine aw_iload_n (aw_d q_RF_variable 57 rfl) rfl rfl ?_
    exact aw_iret (aw_d q_RF_variable 58 rfl) rfl (⟨rfl, rfl⟩)
set_option maxRecDepth 20000 in
theorem sp_RF_variableN {g : aw_G} {S : aw_S} {nv nr : Nat} {nl : Nat → Nat} (hB : TbI_14 S nv nr nl) {n : Nat} (hn : S.1 101 = nI n) (h3 : n ≤ 3000) (hnm : (1 ≤ n ∧ n ≤ 8) ∧ allB pLet (S.2 2) n 0 = true) (hfd : fdB (nmB (S.2 16) (S.2 15) n (fun i => S.2 2 (0 + i))) nv 0 = none) (hr : 0 < nr) : Sp g M_RF_variable 3 71 0 0 [.ref 0] (HP S) (fun r h => r = some (.int (-2)) ∧ h = HP (si (si S 101 (nI 0)) 102 (nI 0))) := by
  refine Sp.of rfl (aw_le rfl) ?_
  refine aw_aload_n (aw_d q_RF_variable 0 rfl) rfl rfl rfl ?_
  refine aw_getf (aw_d q_RF_variable 1 rfl) fL_RF_10_RF rfl rfl ?_
  refine aw_getf (v := .int (nI (n))) (aw_d q_RF_variable 2 rfl) fL_RF_100_By rfl (gk hn) ?_
  refine aw_istore_n (aw_d q_RF_variable 3 rfl) rfl (aw_le rfl) rfl ?_
  refine aw_aload_n (aw_d q_RF_variable 4 rfl) rfl rfl rfl ?_
  refine aw_getf (aw_d q_RF_variable 5 rfl) fL_RF_10_RF rfl rfl ?_
  refine cSr (aw_d q_RF_variable 6 rfl) (sp_RF_isName hn h3) sL_RF_148 rfl rfl rfl rfl ⟨aw_le rfl, aw_le rfl⟩ ?_
  refine aw_ifB_eq (tgt := 39) (aw_d q_RF_variable 7 rfl) (by decide) (fun c15 => by exact absurd hnm c15) (fun c15 => ?_)
  refine aw_aload_n (aw_d q_RF_variable 8 rfl) rfl rfl rfl ?_
  refine aw_getf (aw_d q_RF_variable 9 rfl) fL_RF_39_RF rfl rfl ?_
  refine aw_aload_n (aw_d q_RF_variable 10 rfl) rfl rfl rfl ?_
  refine aw_getf (aw_d q_RF_variable 11 rfl) fL_RF_10_RF rfl rfl ?_
  refine aw_iconst (v := nI 0) (aw_d q_RF_variable 12 rfl) (by decide) ?_
  refine aw_iload_n (aw_d q_RF_variable 13 rfl) rfl rfl ?_
  refine cVr (aw_d q_RF_variable 14 rfl) (sp_Tb_find_14 (a := 0) hB hn h3 (by omega)) vL_RF_151_Tb rfl rfl rfl rfl rfl rfl ⟨aw_le rfl, aw_le rfl⟩ ?_
  refine aw_iconst (v := (-1)) (aw_d q_RF_variable 15 rfl) (by decide) ?_
  refine aw_icmpZ_ne (tgt := 39) (aw_d q_RF_variable 16 rfl) (by decide) (fun c32 => by exact absurd ((oI_none (fun t ht => by have := fdB_some ht; have := hB.2.1; omega)).mpr hfd) c32) (fun c32 => ?_)
  refine aw_iconst (v := nI 1) (aw_d q_RF_variable 17 rfl) (by decide) ?_
  refine aw_goto (tgt := 40) (aw_d q_RF_variable 18 rfl) (by decide) ?_
  refine aw_istore_n (aw_d q_RF_variable 20 rfl) rfl (aw_le rfl) rfl ?_
  refine aw_iload_n (aw_d q_RF_variable 21 rfl) rfl rfl ?_
  refine aw_ifN_ne (tgt := 50) (aw_d q_RF_variable 22 rfl) (by decide) (by (have hB2 := hB.2.1; have hB4 := hB.2.2.2.1; omega)) (fun c42 => ?_) (fun c42 => by exfalso; (have hB2 := hB.2.1; have hB4 := hB.2.2.2.1; omega))
  refine aw_aload_n (aw_d q_RF_variable 26 rfl) rfl rfl rfl ?_
  refine aw_getf (aw_d q_RF_variable 27 rfl) fL_RF_39_RF rfl rfl ?_
  refine aw_getf (v := .int (nI (nr))) (aw_d q_RF_variable 28 rfl) fL_RF_154_Tb rfl (gk hB.2.2.1) ?_
  refine aw_ifN_le (tgt := 66) (aw_d q_RF_variable 29 rfl) (by decide) (by (have hB2 := hB.2.1; have hB4 := hB.2.2.2.1; omega)) (fun c57 => by exfalso; (have hB2 := hB.2.1; have hB4 := hB.2.2.2.1; omega)) (fun c57 => ?_)
  refine aw_bipush (v := (-2)) (aw_d q_RF_variable 30 rfl) (by decide) ?_
  refine aw_istore_n (aw_d q_RF_variable 31 rfl) rfl (aw_le rfl) rfl ?_
  refine aw_goto (tgt := 107) (aw_d q_RF_variable 32 rfl) (by decide) ?_
  refine aw_aload_n (aw_d q_RF_variable 54 rfl) rfl rfl rfl ?_
  refine aw_getf (aw_d q_RF_variable 55 rfl) fL_RF_10_RF rfl rfl ?_
  refine cVv (aw_d q_RF_variable 56 rfl) (sp_By_empty_1) vL_RF_112_By rfl rfl rfl rfl rfl rfl ⟨aw_le rfl, aw_le rfl⟩ ?_
  refine aw_iload_n (aw_d q_RF_variable 57 rfl) rfl rfl ?_
  exact aw_iret (aw_d q_RF_variable 58 rfl) rfl (⟨rfl, rfl⟩)
set_option maxRecDepth 20000 in
theorem sp_RF_variableF {g : aw_G} {S : aw_S} {nv nr : Nat} {nl : Nat → Nat} (hB : TbI_14 S nv nr nl) {n : Nat} (hn : S.1 101 = nI n) (h3 : n ≤ 3000) (hnm : (1 ≤ n ∧ n ≤ 8) ∧ allB pLet (S.2 2) n 0 = true) (hfd : fdB (nmB (S.2 16) (S.2 15) n (fun i => S.2 2 (0 + i))) nv 0 = none) (hr : nr = 0) (hv : nv = 6) : Sp g M_RF_variable 3 71 0 0 [.ref 0] (HP S) (fun r h => r = some (.int (-3)) ∧ h = HP (si (si S 101 (nI 0)) 102 (nI 0))) := by
  refine Sp.of rfl (aw_le rfl) ?_
  refine aw_aload_n (aw_d q_RF_variable 0 rfl) rfl rfl rfl ?_
  refine aw_getf (aw_d q_RF_variable 1 rfl) fL_RF_10_RF rfl rfl ?_
  refine aw_getf (v := .int (nI (n))) (aw_d q_RF_variable 2 rfl) fL_RF_100_By rfl (gk hn) ?_
  refine aw_istore_n (aw_d q_RF_variable 3 rfl) rfl (aw_le rfl) rfl ?_
  refine aw_aload_n (aw_d q_RF_variable 4 rfl) rfl rfl rfl ?_
  refine aw_getf (aw_d q_RF_variable 5 rfl) fL_RF_10_RF rfl rfl ?_
  refine cSr (aw_d q_RF_variable 6 rfl) (sp_RF_isName hn h3) sL_RF_148 rfl rfl rfl rfl ⟨aw_le rfl, aw_le rfl⟩ ?_
  refine aw_ifB_eq (tgt := 39) (aw_d q_RF_variable 7 rfl) (by decide) (fun c15 => by exact absurd hnm c15) (fun c15 => ?_)
  refine aw_aload_n (aw_d q_RF_variable 8 rfl) rfl rfl rfl ?_
  refine aw_getf (aw_d q_RF_variable 9 rfl) fL_RF_39_RF rfl rfl ?_
  refine aw_aload_n (aw_d q_RF_variable 10 rfl) rfl rfl rfl ?_
  refine aw_getf (aw_d q_RF_variable 11 rfl) fL_RF_10_RF rfl rfl ?_
  refine aw_iconst (v := nI 0) (aw_d q_RF_variable 12 rfl) (by decide) ?_
  refine aw_iload_n (aw_d q_RF_variable 13 rfl) rfl rfl ?_
  refine cVr (aw_d q_RF_variable 14 rfl) (sp_Tb_find_14 (a := 0) hB hn h3 (by omega)) vL_RF_151_Tb rfl rfl rfl rfl rfl rfl ⟨aw_le rfl, aw_le rfl⟩ ?_
  refine aw_iconst (v := (-1)) (aw_d q_RF_variable 15 rfl) (by decide) ?_
  refine aw_icmpZ_ne (tgt := 39) (aw_d q_RF_variable 16 rfl) (by decide) (fun c32 => by exact absurd ((oI_none (fun t ht => by have := fdB_some ht; have := hB.2.1; omega)).mpr hfd) c32) (fun c32 => ?_)
  refine aw_iconst (v := nI 1) (aw_d q_RF_variable 17 rfl) (by decide) ?_
  refine aw_goto (tgt := 40) (aw_d q_RF_variable 18 rfl) (by decide) ?_
  refine aw_istore_n (aw_d q_RF_variable 20 rfl) rfl (aw_le rfl) rfl ?_
  refine aw_iload_n (aw_d q_RF_variable 21 rfl) rfl rfl ?_
  refine aw_ifN_ne (tgt := 50) (aw_d q_RF_variable 22 rfl) (by decide) (by (have hB2 := hB.2.1; have hB4 := hB.2.2.2.1; omega)) (fun c42 => ?_) (fun c42 => by exfalso; (have hB2 := hB.2.1; have hB4 := hB.2.2.2.1; omega))
  refine aw_aload_n (aw_d q_RF_variable 26 rfl) rfl rfl rfl ?_
  refine aw_getf (aw_d q_RF_variable 27 rfl) fL_RF_39_RF rfl rfl ?_
  refine aw_getf (v := .int (nI (nr))) (aw_d q_RF_variable 28 rfl) fL_RF_154_Tb rfl (gk hB.2.2.1) ?_
  refine aw_ifN_le (tgt := 66) (aw_d q_RF_variable 29 rfl) (by decide) (by (have hB2 := hB.2.1; have hB4 := hB.2.2.2.1; omega)) (fun c57 => ?_) (fun c57 => by exfalso; (have hB2 := hB.2.1; have hB4 := hB.2.2.2.1; omega))
  refine aw_aload_n (aw_d q_RF_variable 33 rfl) rfl rfl rfl ?_
  refine aw_getf (aw_d q_RF_variable 34 rfl) fL_RF_39_RF rfl rfl ?_
  refine aw_getf (v := .int (nI (nv))) (aw_d q_RF_variable 35 rfl) fL_RF_157_Tb rfl (gk hB.1) ?_
  refine aw_bipush (v := nI 6) (aw_d q_RF_variable 36 rfl) (by decide) ?_
  refine aw_icmpN_lt (tgt := 84) (aw_d q_RF_variable 37 rfl) (by decide) (by (have hB2 := hB.2.1; have hB4 := hB.2.2.2.1; omega)) (by (have hB2 := hB.2.1; have hB4 := hB.2.2.2.1; omega)) (fun c75 => by exfalso; (have hB2 := hB.2.1; have hB4 := hB.2.2.2.1; omega)) (fun c75 => ?_)
  refine aw_bipush (v := (-3)) (aw_d q_RF_variable 38 rfl) (by decide) ?_
  refine aw_istore_n (aw_d q_RF_variable 39 rfl) rfl (aw_le rfl) rfl ?_
  refine aw_goto (tgt := 107) (aw_d q_RF_variable 40 rfl) (by decide) ?_
  refine aw_aload_n (aw_d q_RF_variable 54 rfl) rfl rfl rfl ?_
  refine aw_getf (aw_d q_RF_variable 55 rfl) fL_RF_10_RF rfl rfl ?_
  refine cVv (aw_d q_RF_variable 56 rfl) (sp_By_empty_1) vL_RF_112_By rfl rfl rfl rfl rfl rfl ⟨aw_le rfl, aw_le rfl⟩ ?_
  refine aw_iload_n (aw_d q_RF_variable 57 rfl) rfl rfl ?_
  exact aw_iret (aw_d q_RF_variable 58 rfl) rfl (⟨rfl, rfl⟩)
set_option maxRecDepth 20000 in
theorem sp_RF_variable {g : aw_G} {S : aw_S} {nv nr : Nat} {nl : Nat → Nat} (hB : TbI_14 S nv nr nl) {n : Nat} (hn : S.1 101 = nI n) (h3 : n ≤ 3000) (hnm : (1 ≤ n ∧ n ≤ 8) ∧ allB pLet (S.2 2) n 0 = true) (hfd : fdB (nmB (S.2 16) (S.2 15) n (fun i => S.2 2 (0 + i))) nv 0 = none) (hr : nr = 0) (hv : nv < 6) : Sp g M_RF_variable 3 71 0 0 [.ref 0] (HP S) (fun r h => r = some (.int (nI nv)) ∧ ∃ ND : Nat → Int32, h = HP (si (si (si (sa (sa S 16 (upd (S.2 16) nv (nI n))) 15 ND) 1403 (nI (nv + 1))) 101 (nI 0)) 102 (nI 0)) ∧ (∀ i, i < n → ND (nv * 8 + i) = S.2 2 i) ∧ ∀ j, j < nv * 8 → ND j = S.2 15 j) := by
  refine Sp.of rfl (aw_le rfl) ?_
  refine aw_aload_n (aw_d q_RF_variable 0 rfl) rfl rfl rfl ?_
  refine aw_getf (aw_d q_RF_variable 1 rfl) fL_RF_10_RF rfl rfl ?_
  refine aw_getf (v := .int (nI (n))) (aw_d q_RF_variable 2 rfl) fL_RF_100_By rfl (gk hn) ?_
  refine aw_istore_n (aw_d q_RF_variable 3 rfl) rfl (aw_le rfl) rfl ?_
  refine aw_aload_n (aw_d q_RF_variable 4 rfl) rfl rfl rfl ?_
  refine aw_getf (aw_d q_RF_variable 5 rfl) fL_RF_10_RF rfl rfl ?_
  refine cSr (aw_d q_RF_variable 6 rfl) (sp_RF_isName hn h3) sL_RF_148 rfl rfl rfl rfl ⟨aw_le rfl, aw_le rfl⟩ ?_
  refine aw_ifB_eq (tgt := 39) (aw_d q_RF_variable 7 rfl) (by decide) (fun c15 => by exact absurd hnm c15) (fun c15 => ?_)
  refine aw_aload_n (aw_d q_RF_variable 8 rfl) rfl rfl rfl ?_
  refine aw_getf (aw_d q_RF_variable 9 rfl) fL_RF_39_RF rfl rfl ?_
  refine aw_aload_n (aw_d q_RF_variable 10 rfl) rfl rfl rfl ?_
  refine aw_getf (aw_d q_RF_variable 11 rfl) fL_RF_10_RF rfl rfl ?_
  refine aw_iconst (v := nI 0) (aw_d q_RF_variable 12 rfl) (by decide) ?_
  refine aw_iload_n (aw_d q_RF_variable 13 rfl) rfl rfl ?_
  refine cVr (aw_d q_RF_variable 14 rfl) (sp_Tb_find_14 (a := 0) hB hn h3 (by omega)) vL_RF_151_Tb rfl rfl rfl rfl rfl rfl ⟨aw_le rfl, aw_le rfl⟩ ?_
  refine aw_iconst (v := (-1)) (aw_d q_RF_variable 15 rfl) (by decide) ?_
  refine aw_icmpZ_ne (tgt := 39) (aw_d q_RF_variable 16 rfl) (by decide) (fun c32 => by exact absurd ((oI_none (fun t ht => by have := fdB_some ht; have := hB.2.1; omega)).mpr hfd) c32) (fun c32 => ?_)
  refine aw_iconst (v := nI 1) (aw_d q_RF_variable 17 rfl) (by decide) ?_
  refine aw_goto (tgt := 40) (aw_d q_RF_variable 18 rfl) (by decide) ?_
  refine aw_istore_n (aw_d q_RF_variable 20 rfl) rfl (aw_le rfl) rfl ?_
  refine aw_iload_n (aw_d q_RF_variable 21 rfl) rfl rfl ?_
  refine aw_ifN_ne (tgt := 50) (aw_d q_RF_variable 22 rfl) (by decide) (by (have hB2 := hB.2.1; have hB4 := hB.2.2.2.1; omega)) (fun c42 => ?_) (fun c42 => by exfalso; (have hB2 := hB.2.1; have hB4 := hB.2.2.2.1; omega))
  refine aw_aload_n (aw_d q_RF_variable 26 rfl) rfl rfl rfl ?_
  refine aw_getf (aw_d q_RF_variable 27 rfl) fL_RF_39_RF rfl rfl ?_
  refine aw_getf (v := .int (nI (nr))) (aw_d q_RF_variable 28 rfl) fL_RF_154_Tb rfl (gk hB.2.2.1) ?_
  refine aw_ifN_le (tgt := 66) (aw_d q_RF_variable 29 rfl) (by decide) (by (have hB2 := hB.2.1; have hB4 := hB.2.2.2.1; omega)) (fun c57 => ?_) (fun c57 => by exfalso; (have hB2 := hB.2.1; have hB4 := hB.2.2.2.1; omega))
  refine aw_aload_n (aw_d q_RF_variable 33 rfl) rfl rfl rfl ?_
  refine aw_getf (aw_d q_RF_variable 34 rfl) fL_RF_39_RF rfl rfl ?_
  refine aw_getf (v := .int (nI (nv))) (aw_d q_RF_variable 35 rfl) fL_RF_157_Tb rfl (gk hB.1) ?_
  refine aw_bipush (v := nI 6) (aw_d q_RF_variable 36 rfl) (by decide) ?_
  refine aw_icmpN_lt (tgt := 84) (aw_d q_RF_variable 37 rfl) (by decide) (by (have hB2 := hB.2.1; have hB4 := hB.2.2.2.1; omega)) (by (have hB2 := hB.2.1; have hB4 := hB.2.2.2.1; omega)) (fun c75 => ?_) (fun c75 => by exfalso; (have hB2 := hB.2.1; have hB4 := hB.2.2.2.1; omega))
  refine aw_aload_n (aw_d q_RF_variable 41 rfl) rfl rfl rfl ?_
  refine aw_getf (aw_d q_RF_variable 42 rfl) fL_RF_39_RF rfl rfl ?_
  refine aw_aload_n (aw_d q_RF_variable 43 rfl) rfl rfl rfl ?_
  refine aw_getf (aw_d q_RF_variable 44 rfl) fL_RF_10_RF rfl rfl ?_
  refine aw_iconst (v := nI 0) (aw_d q_RF_variable 45 rfl) (by decide) ?_
  refine aw_iload_n (aw_d q_RF_variable 46 rfl) rfl rfl ?_
  refine cV (aw_d q_RF_variable 47 rfl) (sp_Tb_addVariable_14 (a := 0) hB hn h3 (by omega) hv hnm.1.1 hnm.1.2) vL_RF_160_Tb rfl rfl rfl rfl rfl rfl ⟨aw_le rfl, aw_le rfl⟩ (fun r94 h94 hp94 => ?_)
  obtain ⟨rfl, ND, rfl, e1, e2⟩ := hp94
  refine aw_aload_n (aw_d q_RF_variable 48 rfl) rfl rfl rfl ?_
  refine aw_getf (aw_d q_RF_variable 49 rfl) fL_RF_39_RF rfl rfl ?_
  refine aw_getf (v := .int (nI ((nv + 1)))) (aw_d q_RF_variable 50 rfl) fL_RF_157_Tb rfl (gk rfl) ?_
  refine aw_iconst (v := nI 1) (aw_d q_RF_variable 51 rfl) (by decide) ?_
  refine aw_isubN (aw_d q_RF_variable 52 rfl) (by (have hB2 := hB.2.1; have hB4 := hB.2.2.2.1; omega)) ?_
  refine aw_istore_n (aw_d q_RF_variable 53 rfl) rfl (aw_le rfl) rfl ?_
  refine aw_aload_n (aw_d q_RF_variable 54 rfl) rfl rfl rfl ?_
  refine aw_getf (aw_d q_RF_variable 55 rfl) fL_RF_10_RF rfl rfl ?_
  refine cVv (aw_d q_RF_variable 56 rfl) (sp_By_empty_1) vL_RF_112_By rfl rfl rfl rfl rfl rfl ⟨aw_le rfl, aw_le rfl⟩ ?_
  refine aw_iload_n (aw_d q_RF_variable 57 rfl) rfl rfl ?_
  exact aw_iret (aw_d q_RF_variable 58 rfl) rfl (⟨by rw [Nat.add_sub_cancel], ND, rfl, fun i hi => by rw [e1 i hi, Nat.zero_add], e2⟩)
set_option maxRecDepth 20000 in
theorem sp_RF_keep {g : aw_G} {S : aw_S} {nr : Nat} (hr : S.1 1404 = nI nr) : Sp g M_RF_keep 1 22 0 0 [.ref 0] (HP S) (fun r h => r = some (.int (nI nr)) ∧ ∃ A1 A2 A3 : Nat → Int32, h = HP (si (si (si (sa (sa (sa S 23 A1) 24 A2) 25 A3) 2203 (S.1 1403)) 2204 (S.1 1404)) 8 (nI 1)) ∧ (∀ j, j < 48 → A1 j = S.2 15 j) ∧ (∀ j, j < 6 → A2 j = S.2 16 j) ∧ ∀ j, j < 144 → A3 j = S.2 17 j) := by
  refine Sp.of rfl (aw_le rfl) ?_
  refine aw_aload_n (aw_d q_RF_keep 0 rfl) rfl rfl rfl ?_
  refine aw_getf (aw_d q_RF_keep 1 rfl) fL_RF_46_RF rfl rfl ?_
  refine aw_aload_n (aw_d q_RF_keep 2 rfl) rfl rfl rfl ?_
  refine aw_getf (aw_d q_RF_keep 3 rfl) fL_RF_39_RF rfl rfl ?_
  refine cV (aw_d q_RF_keep 4 rfl) (sp_Tb_copyFrom_22) vL_RF_208_Tb rfl rfl rfl rfl rfl rfl ⟨aw_le rfl, aw_le rfl⟩ (fun r8 h8 hp8 => ?_)
  obtain ⟨rfl, A1, A2, A3, rfl, e1, e2, e3⟩ := hp8
  refine aw_aload_n (aw_d q_RF_keep 5 rfl) rfl rfl rfl ?_
  refine aw_iconst (v := nI 1) (aw_d q_RF_keep 6 rfl) (by decide) ?_
  refine wi_0_8 (aw_d q_RF_keep 7 rfl) pL_RF_49_RF (Or.inr rfl) ?_
  refine aw_aload_n (aw_d q_RF_keep 8 rfl) rfl rfl rfl ?_
  refine aw_getf (aw_d q_RF_keep 9 rfl) fL_RF_46_RF rfl rfl ?_
  refine aw_getf (v := .int (nI (nr))) (aw_d q_RF_keep 10 rfl) fL_RF_154_Tb rfl (gk hr) ?_
  exact aw_iret (aw_d q_RF_keep 11 rfl) rfl (⟨rfl, A1, A2, A3, rfl, e1, e2, e3⟩)
set_option maxRecDepth 20000 in
theorem sp_RF_isLacking {g : aw_G} {S : aw_S} {nv nr : Nat} {nl : Nat → Nat} (hB : TbI_14 S nv nr nl) {nv2 nr2 : Nat} {nl2 : Nat → Nat} (hD : TbI_22 S nv2 nr2 nl2) {x : Nat} (hx : x < nr) : Sp g M_RF_isLacking 4 92 0 0 [.ref 0, .int (nI x)] (HP S) (fun r h => r = some (.int (if (cnB (fun q => rwB (S.2 25) (S.2 17) nv2 q x) nr2 0) ≤ (cnB (fun q => rwB (S.2 17) (S.2 17) nv q x) x 0) then nI 1 else nI 0)) ∧ h = HP S) := by
  refine Sp.of rfl (aw_le rfl) ?_
  have h1 := cnB_le (fun q => rwB (S.2 17) (S.2 17) nv q x) x 0
  have h2 := cnB_le (fun q => rwB (S.2 25) (S.2 17) nv2 q x) nr2 0
  refine aw_aload_n (aw_d q_RF_isLacking 0 rfl) rfl rfl rfl ?_
  refine aw_getf (aw_d q_RF_isLacking 1 rfl) fL_RF_39_RF rfl rfl ?_
  refine aw_aload_n (aw_d q_RF_isLacking 2 rfl) rfl rfl rfl ?_
  refine aw_getf (aw_d q_RF_isLacking 3 rfl) fL_RF_39_RF rfl rfl ?_
  refine aw_iload_n (aw_d q_RF_isLacking 4 rfl) rfl rfl ?_
  refine aw_iload_n (aw_d q_RF_isLacking 5 rfl) rfl rfl ?_
  refine cVr (aw_d q_RF_isLacking 6 rfl) (sp_Tb_countAlike_14 hB (by (have hB2 := hB.2.1; have hB4 := hB.2.2.2.1; have hD2 := hD.2.1; have hD4 := hD.2.2.2.1; omega)) (by (have hB2 := hB.2.1; have hB4 := hB.2.2.2.1; have hD2 := hD.2.1; have hD4 := hD.2.2.2.1; omega))) vL_RF_239_Tb rfl rfl rfl rfl rfl rfl ⟨aw_le rfl, aw_le rfl⟩ ?_
  refine aw_aload_n (aw_d q_RF_isLacking 7 rfl) rfl rfl rfl ?_
  refine aw_getf (aw_d q_RF_isLacking 8 rfl) fL_RF_46_RF rfl rfl ?_
  refine aw_aload_n (aw_d q_RF_isLacking 9 rfl) rfl rfl rfl ?_
  refine aw_getf (aw_d q_RF_isLacking 10 rfl) fL_RF_39_RF rfl rfl ?_
  refine aw_iload_n (aw_d q_RF_isLacking 11 rfl) rfl rfl ?_
  refine aw_aload_n (aw_d q_RF_isLacking 12 rfl) rfl rfl rfl ?_
  refine aw_getf (aw_d q_RF_isLacking 13 rfl) fL_RF_46_RF rfl rfl ?_
  refine aw_getf (v := .int (nI (nr2))) (aw_d q_RF_isLacking 14 rfl) fL_RF_154_Tb rfl (gk hD.2.2.1) ?_
  refine cVr (aw_d q_RF_isLacking 15 rfl) (sp_Tb_countAlike_22 hD (by (have hB2 := hB.2.1; have hB4 := hB.2.2.2.1; have hD2 := hD.2.1; have hD4 := hD.2.2.2.1; omega)) (by (have hB2 := hB.2.1; have hB4 := hB.2.2.2.1; have hD2 := hD.2.1; have hD4 := hD.2.2.2.1; omega))) vL_RF_239_Tb rfl rfl rfl rfl rfl rfl ⟨aw_le rfl, aw_le rfl⟩ ?_
  refine aw_icmpN_lt (tgt := 39) (aw_d q_RF_isLacking 16 rfl) (by decide) (by (have hB2 := hB.2.1; have hB4 := hB.2.2.2.1; have hD2 := hD.2.1; have hD4 := hD.2.2.2.1; omega)) (by (have hB2 := hB.2.1; have hB4 := hB.2.2.2.1; have hD2 := hD.2.1; have hD4 := hD.2.2.2.1; omega)) (fun c32 => ?_) (fun c32 => ?_)
  · refine aw_iconst (v := nI 0) (aw_d q_RF_isLacking 19 rfl) (by decide) ?_
    exact aw_zret (aw_d q_RF_isLacking 20 rfl) rfl (rfl) (⟨by first | rfl | (rw [if_pos (by omega)]) | (rw [if_neg (by omega)]), rfl⟩)
  · refine aw_iconst (v := nI 1) (aw_d q_RF_isLacking 17 rfl) (by decide) ?_
    refine aw_goto (tgt := 40) (aw_d q_RF_isLacking 18 rfl) (by decide) ?_
    exact aw_zret (aw_d q_RF_isLacking 20 rfl) rfl (rfl) (⟨by first | rfl | (rw [if_pos (by omega)]) | (rw [if_neg (by omega)]), rfl⟩)
set_option maxRecDepth 20000 in
theorem sp_RF_sameN {g : aw_G} {S : aw_S} {b : Int32} (h8 : S.1 8 = nI 0) : Sp g M_RF_same 5 113 0 0 [.ref 0, .int b] (HP S) (fun r h => r = some (.int (-2)) ∧ h = HP S) := by
  refine Sp.of rfl (aw_le rfl) ?_
  refine aw_aload_n (aw_d q_RF_same 0 rfl) rfl rfl rfl ?_
  refine aw_getf (v := .int (nI (0))) (aw_d q_RF_same 1 rfl) fL_RF_49_RF rfl (gk h8) ?_
  refine aw_ifN_ne (tgt := 10) (aw_d q_RF_same 2 rfl) (by decide) (by omega) (fun c4 => by exfalso; omega) (fun c4 => ?_)
  refine aw_bipush (v := (-2)) (aw_d q_RF_same 3 rfl) (by decide) ?_
  exact aw_iret (aw_d q_RF_same 4 rfl) rfl (⟨rfl, rfl⟩)
set_option maxRecDepth 20000 in
theorem lp_RF_same_0 {g : aw_G} {S : aw_S} {nv nr : Nat} {nl : Nat → Nat} (hB : TbI_14 S nv nr nl) {nv2 nr2 : Nat} {nl2 : Nat → Nat} (hD : TbI_22 S nv2 nr2 nl2) (h8 : S.1 8 = nI 1) (hno : nr = nr2 ∧ nv = nv2 ∧ nsB (S.2 16) (S.2 15) (S.2 24) (S.2 23) nv 0 = true) : ∀ (m x : Nat) (x3 : Option Value), m + x = nr → anB (fun x => !((fun x => decide (cnB (fun q => rwB (S.2 25) (S.2 17) nv2 q x) nr2 0 ≤ cnB (fun q => rwB (S.2 17) (S.2 17) nv q x) x 0)) x)) nr 0 = anB (fun x => !((fun x => decide (cnB (fun q => rwB (S.2 25) (S.2 17) nv2 q x) nr2 0 ≤ cnB (fun q => rwB (S.2 17) (S.2 17) nv q x) x 0)) x)) m x → AW g M_RF_same (aw_rm 5 113 0 0) (aw_F g 0 0 (fun r h => r = some (.int (if (nr = nr2 ∧ nv = nv2 ∧ nsB (S.2 16) (S.2 15) (S.2 24) (S.2 23) nv 0 = true) ∧ anB (fun x => !((fun x => decide (cnB (fun q => rwB (S.2 25) (S.2 17) nv2 q x) nr2 0 ≤ cnB (fun q => rwB (S.2 17) (S.2 17) nv q x) x 0)) x)) nr 0 = true then nI 1 else nI 0)) ∧ h = HP S)) 45 [some (.ref 0), some (.int (nI 0)), some (.int (nI x)), x3] [] (HP S) 0 0 := by
  intro m
  induction m with
  | zero =>
    intro x x3 hk e
    refine aw_iload_n (aw_d q_RF_same 22 rfl) rfl rfl ?_
    refine aw_aload_n (aw_d q_RF_same 23 rfl) rfl rfl rfl ?_
    refine aw_getf (aw_d q_RF_same 24 rfl) fL_RF_39_RF rfl rfl ?_
    refine aw_getf (v := .int (nI (nr))) (aw_d q_RF_same 25 rfl) fL_RF_154_Tb rfl (gk hB.2.2.1) ?_
    refine aw_icmpN_ge (tgt := 102) (aw_d q_RF_same 26 rfl) (by decide) (by (have hB2 := hB.2.1; have hB4 := hB.2.2.2.1; have hD2 := hD.2.1; have hD4 := hD.2.2.2.1; omega)) (by (have hB2 := hB.2.1; have hB4 := hB.2.2.2.1; have hD2 := hD.2.1; have hD4 := hD.2.2.2.1; omega)) (fun c53 => ?_) (fun c53 => by exfalso; (have hB2 := hB.2.1; have hB4 := hB.2.2.2.1; have hD2 := hD.2.1; have hD4 := hD.2.2.2.1; omega))
    refine aw_iconst (v := nI 1) (aw_d q_RF_same 51 rfl) (by decide) ?_
    exact aw_iret (aw_d q_RF_same 52 rfl) rfl (⟨by rw [if_pos ⟨hno, e⟩], rfl⟩)
  | succ m ih =>
    intro x x3 hk e
    refine aw_iload_n (aw_d q_RF_same 22 rfl) rfl rfl ?_
    refine aw_aload_n (aw_d q_RF_same 23 rfl) rfl rfl rfl ?_
    refine aw_getf (aw_d q_RF_same 24 rfl) fL_RF_39_RF rfl rfl ?_
    refine aw_getf (v := .int (nI (nr))) (aw_d q_RF_same 25 rfl) fL_RF_154_Tb rfl (gk hB.2.2.1) ?_
    refine aw_icmpN_ge (tgt := 102) (aw_d q_RF_same 26 rfl) (by decide) (by (have hB2 := hB.2.1; have hB4 := hB.2.2.2.1; have hD2 := hD.2.1; have hD4 := hD.2.2.2.1; omega)) (by (have hB2 := hB.2.1; have hB4 := hB.2.2.2.1; have hD2 := hD.2.1; have hD4 := hD.2.2.2.1; omega)) (fun c53 => by exfalso; (have hB2 := hB.2.1; have hB4 := hB.2.2.2.1; have hD2 := hD.2.1; have hD4 := hD.2.2.2.1; omega)) (fun c53 => ?_)
    refine aw_iload_n (aw_d q_RF_same 27 rfl) rfl rfl ?_
    refine aw_ifN_eq (tgt := 76) (aw_d q_RF_same 28 rfl) (by decide) (by (have hB2 := hB.2.1; have hB4 := hB.2.2.2.1; have hD2 := hD.2.1; have hD4 := hD.2.2.2.1; omega)) (fun c57 => ?_) (fun c57 => by exfalso; (have hB2 := hB.2.1; have hB4 := hB.2.2.2.1; have hD2 := hD.2.1; have hD4 := hD.2.2.2.1; omega))
    refine aw_aload_n (aw_d q_RF_same 37 rfl) rfl rfl rfl ?_
    refine aw_iload_n (aw_d q_RF_same 38 rfl) rfl rfl ?_
    refine cVr (aw_d q_RF_same 39 rfl) (sp_RF_isLacking hB hD (by omega)) vL_RF_228_RF rfl rfl rfl rfl rfl rfl ⟨aw_le rfl, aw_le rfl⟩ ?_
    refine aw_ifB_ne (tgt := 88) (aw_d q_RF_same 40 rfl) (by decide) (fun c81 => ?_) (fun c81 => ?_)
    · refine aw_iconst (v := nI 0) (aw_d q_RF_same 43 rfl) (by decide) ?_
      refine aw_istore_n (aw_d q_RF_same 44 rfl) rfl (aw_le rfl) rfl ?_
      refine aw_iload_n (aw_d q_RF_same 45 rfl) rfl rfl ?_
      refine aw_ifN_ne (tgt := 96) (aw_d q_RF_same 46 rfl) (by decide) (by (have hB2 := hB.2.1; have hB4 := hB.2.2.2.1; have hD2 := hD.2.1; have hD4 := hD.2.2.2.1; omega)) (fun c91 => by exfalso; (have hB2 := hB.2.1; have hB4 := hB.2.2.2.1; have hD2 := hD.2.1; have hD4 := hD.2.2.2.1; omega)) (fun c91 => ?_)
      refine aw_iconst (v := nI 0) (aw_d q_RF_same 47 rfl) (by decide) ?_
      exact aw_iret (aw_d q_RF_same 48 rfl) rfl (⟨by rw [if_neg (fun q => absurd (e.symm.trans q.2) (by rw [anB_f (show (!decide _) = false by rw [decide_eq_true c81]; rfl)]; exact Bool.false_ne_true))], rfl⟩)
    · refine aw_iconst (v := nI 1) (aw_d q_RF_same 41 rfl) (by decide) ?_
      refine aw_goto (tgt := 89) (aw_d q_RF_same 42 rfl) (by decide) ?_
      refine aw_istore_n (aw_d q_RF_same 44 rfl) rfl (aw_le rfl) rfl ?_
      refine aw_iload_n (aw_d q_RF_same 45 rfl) rfl rfl ?_
      refine aw_ifN_ne (tgt := 96) (aw_d q_RF_same 46 rfl) (by decide) (by (have hB2 := hB.2.1; have hB4 := hB.2.2.2.1; have hD2 := hD.2.1; have hD4 := hD.2.2.2.1; omega)) (fun c91 => ?_) (fun c91 => by exfalso; (have hB2 := hB.2.1; have hB4 := hB.2.2.2.1; have hD2 := hD.2.1; have hD4 := hD.2.2.2.1; omega))
      refine aw_iinc (aw_d q_RF_same 49 rfl) rfl (ii1 _) (aw_le rfl) rfl ?_
      refine aw_goto (tgt := 45) (aw_d q_RF_same 50 rfl) (by decide) ?_
      exact ih (x + 1) _ (by omega) (e.trans (anB_t (show (!decide _) = true by rw [decide_eq_false c81]; rfl)))
set_option maxRecDepth 20000 in
theorem sp_RF_same_0 {g : aw_G} {S : aw_S} {nv nr : Nat} {nl : Nat → Nat} (hB : TbI_14 S nv nr nl) {nv2 nr2 : Nat} {nl2 : Nat → Nat} (hD : TbI_22 S nv2 nr2 nl2) (h8 : S.1 8 = nI 1) : Sp g M_RF_same 5 113 0 0 [.ref 0, .int (nI 0)] (HP S) (fun r h => r = some (.int (if (nr = nr2 ∧ nv = nv2 ∧ nsB (S.2 16) (S.2 15) (S.2 24) (S.2 23) nv 0 = true) ∧ anB (fun x => !((fun x => decide (cnB (fun q => rwB (S.2 25) (S.2 17) nv2 q x) nr2 0 ≤ cnB (fun q => rwB (S.2 17) (S.2 17) nv q x) x 0)) x)) nr 0 = true then nI 1 else nI 0)) ∧ h = HP S) := by
  refine Sp.of rfl (aw_le rfl) ?_
  refine aw_aload_n (aw_d q_RF_same 0 rfl) rfl rfl rfl ?_
  refine aw_getf (v := .int (nI (1))) (aw_d q_RF_same 1 rfl) fL_RF_49_RF rfl (gk h8) ?_
  refine aw_ifN_ne (tgt := 10) (aw_d q_RF_same 2 rfl) (by decide) (by (have hB2 := hB.2.1; have hB4 := hB.2.2.2.1; have hD2 := hD.2.1; have hD4 := hD.2.2.2.1; omega)) (fun c4 => ?_) (fun c4 => by exfalso; omega)
  refine aw_aload_n (aw_d q_RF_same 5 rfl) rfl rfl rfl ?_
  refine aw_getf (aw_d q_RF_same 6 rfl) fL_RF_39_RF rfl rfl ?_
  refine aw_getf (v := .int (nI (nr))) (aw_d q_RF_same 7 rfl) fL_RF_154_Tb rfl (gk hB.2.2.1) ?_
  refine aw_aload_n (aw_d q_RF_same 8 rfl) rfl rfl rfl ?_
  refine aw_getf (aw_d q_RF_same 9 rfl) fL_RF_46_RF rfl rfl ?_
  refine aw_getf (v := .int (nI (nr2))) (aw_d q_RF_same 10 rfl) fL_RF_154_Tb rfl (gk hD.2.2.1) ?_
  refine aw_icmpN_ne (tgt := 41) (aw_d q_RF_same 11 rfl) (by decide) (by (have hB2 := hB.2.1; have hB4 := hB.2.2.2.1; have hD2 := hD.2.1; have hD4 := hD.2.2.2.1; omega)) (by (have hB2 := hB.2.1; have hB4 := hB.2.2.2.1; have hD2 := hD.2.1; have hD4 := hD.2.2.2.1; omega)) (fun c24 => ?_) (fun c24 => ?_)
  · refine aw_iconst (v := nI 0) (aw_d q_RF_same 18 rfl) (by decide) ?_
    exact aw_iret (aw_d q_RF_same 19 rfl) rfl (⟨by first | (rw [if_neg (fun q => c24 q.1.1)]; done) | (rw [if_neg (fun q => c38 q.1.2)]; done), rfl⟩)
  · refine aw_aload_n (aw_d q_RF_same 12 rfl) rfl rfl rfl ?_
    refine aw_getf (aw_d q_RF_same 13 rfl) fL_RF_39_RF rfl rfl ?_
    refine aw_aload_n (aw_d q_RF_same 14 rfl) rfl rfl rfl ?_
    refine aw_getf (aw_d q_RF_same 15 rfl) fL_RF_46_RF rfl rfl ?_
    refine cVr (aw_d q_RF_same 16 rfl) (sp_Tb_hasNamesOf hB hD) vL_RF_221_Tb rfl rfl rfl rfl rfl rfl ⟨aw_le rfl, aw_le rfl⟩ ?_
    refine aw_ifB_ne (tgt := 43) (aw_d q_RF_same 17 rfl) (by decide) (fun c38 => ?_) (fun c38 => ?_)
    · refine aw_iconst (v := nI 0) (aw_d q_RF_same 20 rfl) (by decide) ?_
      refine aw_istore_n (aw_d q_RF_same 21 rfl) rfl (aw_le rfl) rfl ?_
      exact lp_RF_same_0 hB hD h8 ⟨c24, c38⟩ nr 0 _ (by omega) rfl
    · refine aw_iconst (v := nI 0) (aw_d q_RF_same 18 rfl) (by decide) ?_
      exact aw_iret (aw_d q_RF_same 19 rfl) rfl (⟨by first | (rw [if_neg (fun q => c24 q.1.1)]; done) | (rw [if_neg (fun q => c38 q.1.2)]; done), rfl⟩)
set_option maxRecDepth 20000 in
theorem lp_RF_same_1 {g : aw_G} {S : aw_S} {nv nr : Nat} {nl : Nat → Nat} (hB : TbI_14 S nv nr nl) {nv2 nr2 : Nat} {nl2 : Nat → Nat} (hD : TbI_22 S nv2 nr2 nl2) (h8 : S.1 8 = nI 1) (hno : nr = nr2 ∧ nv = nv2 ∧ nsB (S.2 16) (S.2 15) (S.2 24) (S.2 23) nv 0 = true) : ∀ (m x : Nat) (x3 : Option Value), m + x = nr → anB (fun x => rwB (S.2 25) (S.2 17) nv2 x x) nr 0 = anB (fun x => rwB (S.2 25) (S.2 17) nv2 x x) m x → AW g M_RF_same (aw_rm 5 113 0 0) (aw_F g 0 0 (fun r h => r = some (.int (if (nr = nr2 ∧ nv = nv2 ∧ nsB (S.2 16) (S.2 15) (S.2 24) (S.2 23) nv 0 = true) ∧ anB (fun x => rwB (S.2 25) (S.2 17) nv2 x x) nr 0 = true then nI 1 else nI 0)) ∧ h = HP S)) 45 [some (.ref 0), some (.int (nI 1)), some (.int (nI x)), x3] [] (HP S) 0 0 := by
  intro m
  induction m with
  | zero =>
    intro x x3 hk e
    refine aw_iload_n (aw_d q_RF_same 22 rfl) rfl rfl ?_
    refine aw_aload_n (aw_d q_RF_same 23 rfl) rfl rfl rfl ?_
    refine aw_getf (aw_d q_RF_same 24 rfl) fL_RF_39_RF rfl rfl ?_
    refine aw_getf (v := .int (nI (nr))) (aw_d q_RF_same 25 rfl) fL_RF_154_Tb rfl (gk hB.2.2.1) ?_
    refine aw_icmpN_ge (tgt := 102) (aw_d q_RF_same 26 rfl) (by decide) (by (have hB2 := hB.2.1; have hB4 := hB.2.2.2.1; have hD2 := hD.2.1; have hD4 := hD.2.2.2.1; omega)) (by (have hB2 := hB.2.1; have hB4 := hB.2.2.2.1; have hD2 := hD.2.1; have hD4 := hD.2.2.2.1; omega)) (fun c53 => ?_) (fun c53 => by exfalso; (have hB2 := hB.2.1; have hB4 := hB.2.2.2.1; have hD2 := hD.2.1; have hD4 := hD.2.2.2.1; omega))
    refine aw_iconst (v := nI 1) (aw_d q_RF_same 51 rfl) (by decide) ?_
    exact aw_iret (aw_d q_RF_same 52 rfl) rfl (⟨by rw [if_pos ⟨hno, e⟩], rfl⟩)
  | succ m ih =>
    intro x x3 hk e
    refine aw_iload_n (aw_d q_RF_same 22 rfl) rfl rfl ?_
    refine aw_aload_n (aw_d q_RF_same 23 rfl) rfl rfl rfl ?_
    refine aw_getf (aw_d q_RF_same 24 rfl) fL_RF_39_RF rfl rfl ?_
    refine aw_getf (v := .int (nI (nr))) (aw_d q_RF_same 25 rfl) fL_RF_154_Tb rfl (gk hB.2.2.1) ?_
    refine aw_icmpN_ge (tgt := 102) (aw_d q_RF_same 26 rfl) (by decide) (by (have hB2 := hB.2.1; have hB4 := hB.2.2.2.1; have hD2 := hD.2.1; have hD4 := hD.2.2.2.1; omega)) (by (have hB2 := hB.2.1; have hB4 := hB.2.2.2.1; have hD2 := hD.2.1; have hD4 := hD.2.2.2.1; omega)) (fun c53 => by exfalso; (have hB2 := hB.2.1; have hB4 := hB.2.2.2.1; have hD2 := hD.2.1; have hD4 := hD.2.2.2.1; omega)) (fun c53 => ?_)
    refine aw_iload_n (aw_d q_RF_same 27 rfl) rfl rfl ?_
    refine aw_ifN_eq (tgt := 76) (aw_d q_RF_same 28 rfl) (by decide) (by (have hB2 := hB.2.1; have hB4 := hB.2.2.2.1; have hD2 := hD.2.1; have hD4 := hD.2.2.2.1; omega)) (fun c57 => by exfalso; (have hB2 := hB.2.1; have hB4 := hB.2.2.2.1; have hD2 := hD.2.1; have hD4 := hD.2.2.2.1; omega)) (fun c57 => ?_)
    refine aw_aload_n (aw_d q_RF_same 29 rfl) rfl rfl rfl ?_
    refine aw_getf (aw_d q_RF_same 30 rfl) fL_RF_46_RF rfl rfl ?_
    refine aw_iload_n (aw_d q_RF_same 31 rfl) rfl rfl ?_
    refine aw_aload_n (aw_d q_RF_same 32 rfl) rfl rfl rfl ?_
    refine aw_getf (aw_d q_RF_same 33 rfl) fL_RF_39_RF rfl rfl ?_
    refine aw_iload_n (aw_d q_RF_same 34 rfl) rfl rfl ?_
    refine cVr (aw_d q_RF_same 35 rfl) (sp_Tb_isAlike_22 hD (by (have hB2 := hB.2.1; have hB4 := hB.2.2.2.1; have hD2 := hD.2.1; have hD4 := hD.2.2.2.1; omega)) (by (have hB2 := hB.2.1; have hB4 := hB.2.2.2.1; have hD2 := hD.2.1; have hD4 := hD.2.2.2.1; omega))) vL_RF_224_Tb rfl rfl rfl rfl rfl rfl ⟨aw_le rfl, aw_le rfl⟩ ?_
    refine aw_goto (tgt := 89) (aw_d q_RF_same 36 rfl) (by decide) ?_
    refine aw_istore_n (aw_d q_RF_same 44 rfl) rfl (aw_le rfl) rfl ?_
    refine aw_iload_n (aw_d q_RF_same 45 rfl) rfl rfl ?_
    refine aw_ifB_ne (tgt := 96) (aw_d q_RF_same 46 rfl) (by decide) (fun c91 => ?_) (fun c91 => ?_)
    · have cm : rwB (S.2 25) (S.2 17) nv2 x x = true := c91
      refine aw_iinc (aw_d q_RF_same 49 rfl) rfl (ii1 _) (aw_le rfl) rfl ?_
      refine aw_goto (tgt := 45) (aw_d q_RF_same 50 rfl) (by decide) ?_
      exact ih (x + 1) _ (by omega) (e.trans (anB_t (cm)))
    · have cm : ¬ rwB (S.2 25) (S.2 17) nv2 x x = true := c91
      refine aw_iconst (v := nI 0) (aw_d q_RF_same 47 rfl) (by decide) ?_
      exact aw_iret (aw_d q_RF_same 48 rfl) rfl (⟨by rw [if_neg (fun q => absurd (e.symm.trans q.2) (by rw [anB_f (by simpa using cm)]; exact Bool.false_ne_true))], rfl⟩)
set_option maxRecDepth 20000 in
theorem sp_RF_same_1 {g : aw_G} {S : aw_S} {nv nr : Nat} {nl : Nat → Nat} (hB : TbI_14 S nv nr nl) {nv2 nr2 : Nat} {nl2 : Nat → Nat} (hD : TbI_22 S nv2 nr2 nl2) (h8 : S.1 8 = nI 1) : Sp g M_RF_same 5 113 0 0 [.ref 0, .int (nI 1)] (HP S) (fun r h => r = some (.int (if (nr = nr2 ∧ nv = nv2 ∧ nsB (S.2 16) (S.2 15) (S.2 24) (S.2 23) nv 0 = true) ∧ anB (fun x => rwB (S.2 25) (S.2 17) nv2 x x) nr 0 = true then nI 1 else nI 0)) ∧ h = HP S) := by
  refine Sp.of rfl (aw_le rfl) ?_
  refine aw_aload_n (aw_d q_RF_same 0 rfl) rfl rfl rfl ?_
  refine aw_getf (v := .int (nI (1))) (aw_d q_RF_same 1 rfl) fL_RF_49_RF rfl (gk h8) ?_
  refine aw_ifN_ne (tgt := 10) (aw_d q_RF_same 2 rfl) (by decide) (by (have hB2 := hB.2.1; have hB4 := hB.2.2.2.1; have hD2 := hD.2.1; have hD4 := hD.2.2.2.1; omega)) (fun c4 => ?_) (fun c4 => by exfalso; omega)
  refine aw_aload_n (aw_d q_RF_same 5 rfl) rfl rfl rfl ?_
  refine aw_getf (aw_d q_RF_same 6 rfl) fL_RF_39_RF rfl rfl ?_
  refine aw_getf (v := .int (nI (nr))) (aw_d q_RF_same 7 rfl) fL_RF_154_Tb rfl (gk hB.2.2.1) ?_
  refine aw_aload_n (aw_d q_RF_same 8 rfl) rfl rfl rfl ?_
  refine aw_getf (aw_d q_RF_same 9 rfl) fL_RF_46_RF rfl rfl ?_
  refine aw_getf (v := .int (nI (nr2))) (aw_d q_RF_same 10 rfl) fL_RF_154_Tb rfl (gk hD.2.2.1) ?_
  refine aw_icmpN_ne (tgt := 41) (aw_d q_RF_same 11 rfl) (by decide) (by (have hB2 := hB.2.1; have hB4 := hB.2.2.2.1; have hD2 := hD.2.1; have hD4 := hD.2.2.2.1; omega)) (by (have hB2 := hB.2.1; have hB4 := hB.2.2.2.1; have hD2 := hD.2.1; have hD4 := hD.2.2.2.1; omega)) (fun c24 => ?_) (fun c24 => ?_)
  · refine aw_iconst (v := nI 0) (aw_d q_RF_same 18 rfl) (by decide) ?_
    exact aw_iret (aw_d q_RF_same 19 rfl) rfl (⟨by first | (rw [if_neg (fun q => c24 q.1.1)]; done) | (rw [if_neg (fun q => c38 q.1.2)]; done), rfl⟩)
  · refine aw_aload_n (aw_d q_RF_same 12 rfl) rfl rfl rfl ?_
    refine aw_getf (aw_d q_RF_same 13 rfl) fL_RF_39_RF rfl rfl ?_
    refine aw_aload_n (aw_d q_RF_same 14 rfl) rfl rfl rfl ?_
    refine aw_getf (aw_d q_RF_same 15 rfl) fL_RF_46_RF rfl rfl ?_
    refine cVr (aw_d q_RF_same 16 rfl) (sp_Tb_hasNamesOf hB hD) vL_RF_221_Tb rfl rfl rfl rfl rfl rfl ⟨aw_le rfl, aw_le rfl⟩ ?_
    refine aw_ifB_ne (tgt := 43) (aw_d q_RF_same 17 rfl) (by decide) (fun c38 => ?_) (fun c38 => ?_)
    · refine aw_iconst (v := nI 0) (aw_d q_RF_same 20 rfl) (by decide) ?_
      refine aw_istore_n (aw_d q_RF_same 21 rfl) rfl (aw_le rfl) rfl ?_
      exact lp_RF_same_1 hB hD h8 ⟨c24, c38⟩ nr 0 _ (by omega) rfl
    · refine aw_iconst (v := nI 0) (aw_d q_RF_same 18 rfl) (by decide) ?_
      exact aw_iret (aw_d q_RF_same 19 rfl) rfl (⟨by first | (rw [if_neg (fun q => c24 q.1.1)]; done) | (rw [if_neg (fun q => c38 q.1.2)]; done), rfl⟩)
set_option maxRecDepth 20000 in
theorem sp_RF_lacksN {g : aw_G} {S : aw_S} {b : Int32} (h8 : S.1 8 = nI 0 ∨ (S.1 8 = nI 1 ∧ b.toInt < 0)) : Sp g M_RF_lacks 5 113 0 0 [.ref 0, .int b] (HP S) (fun r h => r = some (.int (-2)) ∧ h = HP S) := by
  refine Sp.of rfl (aw_le rfl) ?_
  rcases h8 with h8 | ⟨h8, hb⟩
  · refine aw_aload_n (aw_d q_RF_lacks 0 rfl) rfl rfl rfl ?_
    refine aw_getf (v := .int (nI (0))) (aw_d q_RF_lacks 1 rfl) fL_RF_49_RF rfl (gk h8) ?_
    refine aw_ifN_eq (tgt := 11) (aw_d q_RF_lacks 2 rfl) (by decide) (by omega) (fun c4 => ?_) (fun c4 => by exfalso; omega)
    refine aw_bipush (v := (-2)) (aw_d q_RF_lacks 5 rfl) (by decide) ?_
    exact aw_iret (aw_d q_RF_lacks 6 rfl) rfl (⟨rfl, rfl⟩)
  · refine aw_aload_n (aw_d q_RF_lacks 0 rfl) rfl rfl rfl ?_
    refine aw_getf (v := .int (nI (1))) (aw_d q_RF_lacks 1 rfl) fL_RF_49_RF rfl (gk h8) ?_
    refine aw_ifN_eq (tgt := 11) (aw_d q_RF_lacks 2 rfl) (by decide) (by omega) (fun c4 => by exfalso; omega) (fun c4 => ?_)
    refine aw_iload_n (aw_d q_RF_lacks 3 rfl) rfl rfl ?_
    refine aw_ifI_ge (tgt := 14) (aw_d q_RF_lacks 4 rfl) (by decide) (fun c8 => by exfalso; omega) (fun c8 => ?_)
    refine aw_bipush (v := (-2)) (aw_d q_RF_lacks 5 rfl) (by decide) ?_
    exact aw_iret (aw_d q_RF_lacks 6 rfl) rfl (⟨rfl, rfl⟩)
set_option maxRecDepth 20000 in
theorem lp_RF_lacks {g : aw_G} {S : aw_S} {nv nr : Nat} {nl : Nat → Nat} (hB : TbI_14 S nv nr nl) {nv2 nr2 : Nat} {nl2 : Nat → Nat} (hD : TbI_22 S nv2 nr2 nl2) {i : Nat} (hi31 : i < 2147483648) : ∀ (m x c : Nat), m + x = nr → lkB (fun x => !(decide (nv = nv2 ∧ nsB (S.2 16) (S.2 15) (S.2 24) (S.2 23) nv 0 = true) && !((fun x => decide (cnB (fun q => rwB (S.2 25) (S.2 17) nv2 q x) nr2 0 ≤ cnB (fun q => rwB (S.2 17) (S.2 17) nv q x) x 0)) x))) i nr 0 0 = lkB (fun x => !(decide (nv = nv2 ∧ nsB (S.2 16) (S.2 15) (S.2 24) (S.2 23) nv 0 = true) && !((fun x => decide (cnB (fun q => rwB (S.2 25) (S.2 17) nv2 q x) nr2 0 ≤ cnB (fun q => rwB (S.2 17) (S.2 17) nv q x) x 0)) x))) i m x c → c ≤ x → AW g M_RF_lacks (aw_rm 5 113 0 0) (aw_F g 0 0 (fun r h => r = some (.int (lkB (fun x => !(decide (nv = nv2 ∧ nsB (S.2 16) (S.2 15) (S.2 24) (S.2 23) nv 0 = true) && !((fun x => decide (cnB (fun q => rwB (S.2 25) (S.2 17) nv2 q x) nr2 0 ≤ cnB (fun q => rwB (S.2 17) (S.2 17) nv q x) x 0)) x))) i nr 0 0)) ∧ h = HP S)) 31 [some (.ref 0), some (.int (nI i)), some (.int (if nv = nv2 ∧ nsB (S.2 16) (S.2 15) (S.2 24) (S.2 23) nv 0 = true then nI 1 else nI 0)), some (.int (nI c)), some (.int (nI x))] [] (HP S) 0 0 := by
  intro m
  induction m with
  | zero =>
    intro x c hk e hcx
    refine aw_iload (aw_d q_RF_lacks 17 rfl) rfl ?_
    refine aw_aload_n (aw_d q_RF_lacks 18 rfl) rfl rfl rfl ?_
    refine aw_getf (aw_d q_RF_lacks 19 rfl) fL_RF_39_RF rfl rfl ?_
    refine aw_getf (v := .int (nI (nr))) (aw_d q_RF_lacks 20 rfl) fL_RF_154_Tb rfl (gk hB.2.2.1) ?_
    refine aw_icmpN_ge (tgt := 76) (aw_d q_RF_lacks 21 rfl) (by decide) (by (have hB2 := hB.2.1; have hB4 := hB.2.2.2.1; have hD2 := hD.2.1; have hD4 := hD.2.2.2.1; omega)) (by (have hB2 := hB.2.1; have hB4 := hB.2.2.2.1; have hD2 := hD.2.1; have hD4 := hD.2.2.2.1; omega)) (fun c40 => ?_) (fun c40 => by exfalso; (have hB2 := hB.2.1; have hB4 := hB.2.2.2.1; have hD2 := hD.2.1; have hD4 := hD.2.2.2.1; omega))
    refine aw_bipush (v := (-2)) (aw_d q_RF_lacks 37 rfl) (by decide) ?_
    exact aw_iret (aw_d q_RF_lacks 38 rfl) rfl (⟨by rw [e]; rfl, rfl⟩)
  | succ m ih =>
    intro x c hk e hcx
    refine aw_iload (aw_d q_RF_lacks 17 rfl) rfl ?_
    refine aw_aload_n (aw_d q_RF_lacks 18 rfl) rfl rfl rfl ?_
    refine aw_getf (aw_d q_RF_lacks 19 rfl) fL_RF_39_RF rfl rfl ?_
    refine aw_getf (v := .int (nI (nr))) (aw_d q_RF_lacks 20 rfl) fL_RF_154_Tb rfl (gk hB.2.2.1) ?_
    refine aw_icmpN_ge (tgt := 76) (aw_d q_RF_lacks 21 rfl) (by decide) (by (have hB2 := hB.2.1; have hB4 := hB.2.2.2.1; have hD2 := hD.2.1; have hD4 := hD.2.2.2.1; omega)) (by (have hB2 := hB.2.1; have hB4 := hB.2.2.2.1; have hD2 := hD.2.1; have hD4 := hD.2.2.2.1; omega)) (fun c40 => by exfalso; (have hB2 := hB.2.1; have hB4 := hB.2.2.2.1; have hD2 := hD.2.1; have hD4 := hD.2.2.2.1; omega)) (fun c40 => ?_)
    refine aw_iload_n (aw_d q_RF_lacks 22 rfl) rfl rfl ?_
    refine aw_ifB_eq (tgt := 59) (aw_d q_RF_lacks 23 rfl) (by decide) (fun c44 => ?_) (fun c44 => ?_)
    · have hp : ((fun x => !(decide (nv = nv2 ∧ nsB (S.2 16) (S.2 15) (S.2 24) (S.2 23) nv 0 = true) && !((fun x => decide (cnB (fun q => rwB (S.2 25) (S.2 17) nv2 q x) nr2 0 ≤ cnB (fun q => rwB (S.2 17) (S.2 17) nv q x) x 0)) x)))) x = true := by simp only [decide_eq_false c44]; rfl
      refine aw_iload_n (aw_d q_RF_lacks 29 rfl) rfl rfl ?_
      refine aw_iload_n (aw_d q_RF_lacks 30 rfl) rfl rfl ?_
      refine aw_icmpN_ne (tgt := 67) (aw_d q_RF_lacks 31 rfl) (by decide) (by (have hB2 := hB.2.1; have hB4 := hB.2.2.2.1; have hD2 := hD.2.1; have hD4 := hD.2.2.2.1; omega)) (by (have hB2 := hB.2.1; have hB4 := hB.2.2.2.1; have hD2 := hD.2.1; have hD4 := hD.2.2.2.1; omega)) (fun c61 => ?_) (fun c61 => ?_)
      · refine aw_iinc (aw_d q_RF_lacks 34 rfl) rfl (ii1 _) (aw_le rfl) rfl ?_
        refine aw_iinc (aw_d q_RF_lacks 35 rfl) rfl (ii1 _) (aw_le rfl) rfl ?_
        refine aw_goto (tgt := 31) (aw_d q_RF_lacks 36 rfl) (by decide) ?_
        exact ih (x + 1) (c + 1) (by omega) (e.trans ((lkB_t hp).trans (if_neg c61))) (by omega)
      · refine aw_iload (aw_d q_RF_lacks 32 rfl) rfl ?_
        exact aw_iret (aw_d q_RF_lacks 33 rfl) rfl (⟨by rw [e, lkB_t hp, if_pos c61], rfl⟩)
    · refine aw_aload_n (aw_d q_RF_lacks 24 rfl) rfl rfl rfl ?_
      refine aw_iload (aw_d q_RF_lacks 25 rfl) rfl ?_
      refine cVr (aw_d q_RF_lacks 26 rfl) (sp_RF_isLacking hB hD (by omega)) vL_RF_228_RF rfl rfl rfl rfl rfl rfl ⟨aw_le rfl, aw_le rfl⟩ ?_
      refine aw_ifB_ne (tgt := 59) (aw_d q_RF_lacks 27 rfl) (by decide) (fun c53 => ?_) (fun c53 => ?_)
      · have hp : ((fun x => !(decide (nv = nv2 ∧ nsB (S.2 16) (S.2 15) (S.2 24) (S.2 23) nv 0 = true) && !((fun x => decide (cnB (fun q => rwB (S.2 25) (S.2 17) nv2 q x) nr2 0 ≤ cnB (fun q => rwB (S.2 17) (S.2 17) nv q x) x 0)) x)))) x = true := by simp only [decide_eq_true c44, decide_eq_true c53]; rfl
        refine aw_iload_n (aw_d q_RF_lacks 29 rfl) rfl rfl ?_
        refine aw_iload_n (aw_d q_RF_lacks 30 rfl) rfl rfl ?_
        refine aw_icmpN_ne (tgt := 67) (aw_d q_RF_lacks 31 rfl) (by decide) (by (have hB2 := hB.2.1; have hB4 := hB.2.2.2.1; have hD2 := hD.2.1; have hD4 := hD.2.2.2.1; omega)) (by (have hB2 := hB.2.1; have hB4 := hB.2.2.2.1; have hD2 := hD.2.1; have hD4 := hD.2.2.2.1; omega)) (fun c61 => ?_) (fun c61 => ?_)
        · refine aw_iinc (aw_d q_RF_lacks 34 rfl) rfl (ii1 _) (aw_le rfl) rfl ?_
          refine aw_iinc (aw_d q_RF_lacks 35 rfl) rfl (ii1 _) (aw_le rfl) rfl ?_
          refine aw_goto (tgt := 31) (aw_d q_RF_lacks 36 rfl) (by decide) ?_
          exact ih (x + 1) (c + 1) (by omega) (e.trans ((lkB_t hp).trans (if_neg c61))) (by omega)
        · refine aw_iload (aw_d q_RF_lacks 32 rfl) rfl ?_
          exact aw_iret (aw_d q_RF_lacks 33 rfl) rfl (⟨by rw [e, lkB_t hp, if_pos c61], rfl⟩)
      · have hp : ((fun x => !(decide (nv = nv2 ∧ nsB (S.2 16) (S.2 15) (S.2 24) (S.2 23) nv 0 = true) && !((fun x => decide (cnB (fun q => rwB (S.2 25) (S.2 17) nv2 q x) nr2 0 ≤ cnB (fun q => rwB (S.2 17) (S.2 17) nv q x) x 0)) x)))) x = false := by simp only [decide_eq_true c44, decide_eq_false c53]; rfl
        refine aw_goto (tgt := 70) (aw_d q_RF_lacks 28 rfl) (by decide) ?_
        refine aw_iinc (aw_d q_RF_lacks 35 rfl) rfl (ii1 _) (aw_le rfl) rfl ?_
        refine aw_goto (tgt := 31) (aw_d q_RF_lacks 36 rfl) (by decide) ?_
        exact ih (x + 1) c (by omega) (e.trans (lkB_f hp)) (by omega)
set_option maxRecDepth 20000 in
theorem sp_RF_lacks {g : aw_G} {S : aw_S} {nv nr : Nat} {nl : Nat → Nat} (hB : TbI_14 S nv nr nl) {nv2 nr2 : Nat} {nl2 : Nat → Nat} (hD : TbI_22 S nv2 nr2 nl2) {i : Nat} (hi31 : i < 2147483648) (h8 : S.1 8 = nI 1) : Sp g M_RF_lacks 5 113 0 0 [.ref 0, .int (nI i)] (HP S) (fun r h => r = some (.int (lkB (fun x => !(decide (nv = nv2 ∧ nsB (S.2 16) (S.2 15) (S.2 24) (S.2 23) nv 0 = true) && !((fun x => decide (cnB (fun q => rwB (S.2 25) (S.2 17) nv2 q x) nr2 0 ≤ cnB (fun q => rwB (S.2 17) (S.2 17) nv q x) x 0)) x))) i nr 0 0)) ∧ h = HP S) := by
  refine Sp.of rfl (aw_le rfl) ?_
  refine aw_aload_n (aw_d q_RF_lacks 0 rfl) rfl rfl rfl ?_
  refine aw_getf (v := .int (nI (1))) (aw_d q_RF_lacks 1 rfl) fL_RF_49_RF rfl (gk h8) ?_
  refine aw_ifN_eq (tgt := 11) (aw_d q_RF_lacks 2 rfl) (by decide) (by (have hB2 := hB.2.1; have hB4 := hB.2.2.2.1; have hD2 := hD.2.1; have hD4 := hD.2.2.2.1; omega)) (fun c4 => by exfalso; (have hB2 := hB.2.1; have hB4 := hB.2.2.2.1; have hD2 := hD.2.1; have hD4 := hD.2.2.2.1; omega)) (fun c4 => ?_)
  refine aw_iload_n (aw_d q_RF_lacks 3 rfl) rfl rfl ?_
  refine aw_ifN_ge (tgt := 14) (aw_d q_RF_lacks 4 rfl) (by decide) (by (have hB2 := hB.2.1; have hB4 := hB.2.2.2.1; have hD2 := hD.2.1; have hD4 := hD.2.2.2.1; omega)) (fun c8 => ?_) (fun c8 => by exfalso; (have hB2 := hB.2.1; have hB4 := hB.2.2.2.1; have hD2 := hD.2.1; have hD4 := hD.2.2.2.1; omega))
  refine aw_aload_n (aw_d q_RF_lacks 7 rfl) rfl rfl rfl ?_
  refine aw_getf (aw_d q_RF_lacks 8 rfl) fL_RF_39_RF rfl rfl ?_
  refine aw_aload_n (aw_d q_RF_lacks 9 rfl) rfl rfl rfl ?_
  refine aw_getf (aw_d q_RF_lacks 10 rfl) fL_RF_46_RF rfl rfl ?_
  refine cVr (aw_d q_RF_lacks 11 rfl) (sp_Tb_hasNamesOf hB hD) vL_RF_221_Tb rfl rfl rfl rfl rfl rfl ⟨aw_le rfl, aw_le rfl⟩ ?_
  refine aw_istore_n (aw_d q_RF_lacks 12 rfl) rfl (aw_le rfl) rfl ?_
  refine aw_iconst (v := nI 0) (aw_d q_RF_lacks 13 rfl) (by decide) ?_
  refine aw_istore_n (aw_d q_RF_lacks 14 rfl) rfl (aw_le rfl) rfl ?_
  refine aw_iconst (v := nI 0) (aw_d q_RF_lacks 15 rfl) (by decide) ?_
  refine aw_istore (aw_d q_RF_lacks 16 rfl) (aw_le rfl) rfl ?_
  exact lp_RF_lacks hB hD hi31 nr 0 0 (by omega) rfl (by omega)
set_option maxRecDepth 20000 in
theorem sp_RF_distinct {g : aw_G} {S : aw_S} {nv nr : Nat} {nl : Nat → Nat} (hB : TbI_14 S nv nr nl) : Sp g M_RF_distinct 5 116 0 0 [.ref 0] (HP S) (fun r h => r = some (.int (nI (nr - (ddB nv nr 0 0 (S.2 17)).1))) ∧ h = HP (si (sa S 17 (ddB nv nr 0 0 (S.2 17)).2) 1404 (nI (ddB nv nr 0 0 (S.2 17)).1))) := by
  refine Sp.of rfl (aw_le rfl) ?_
  refine aw_aload_n (aw_d q_RF_distinct 0 rfl) rfl rfl rfl ?_
  refine aw_getf (aw_d q_RF_distinct 1 rfl) fL_RF_39_RF rfl rfl ?_
  refine cVr (aw_d q_RF_distinct 2 rfl) (sp_Tb_dropRepeated hB) vL_RF_231_Tb rfl rfl rfl rfl rfl rfl ⟨aw_le rfl, aw_le rfl⟩ ?_
  exact aw_iret (aw_d q_RF_distinct 3 rfl) rfl (⟨rfl, rfl⟩)
