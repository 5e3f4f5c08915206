/-- one less than a number -/
def dn : Nat → Int32
  | 0 => -1
  | m + 1 => nI m
theorem dn_dec (m : Nat) : nI m + Int32.ofInt (-1) = dn m := by
  cases m with
  | zero => decide
  | succ m => exact pk_m1 m
theorem dn_sub (m : Nat) : nI m - nI 1 = dn m := by
  cases m with
  | zero => decide
  | succ m => exact nI_pred m
theorem dn_0 : (dn 0).toInt < 0 := by decide
/-- byte i of a long, as the class and as the reference take it -/
def bX (x : Int64) (i : Nat) : Int32 := (x.toUInt64 >>> ((nI (8 * i)).toInt64.toUInt64 &&& Int64.toUInt64 63)).toInt64.toInt32 &&& nI 255
def bM (x : Int64) (i : Nat) : Int32 := ((x >>> ((nI (8 * i)).toInt64 &&& 63)) &&& 255).toInt32
theorem hp_same (S : aw_S) : HP S = HP (si (sa S 2 (S.2 2)) 101 (S.1 101)) := rfl
set_option maxRecDepth 20000 in
theorem lp_RF_type {g : aw_G} {S : aw_S} {n : Nat} (hn : S.1 101 = nI n) (h3 : n ≤ 3000) {j : Nat} {x : Int64} (hj : n + j ≤ 3000) (hj8 : j ≤ 8) : ∀ (m a : Nat) (A : Nat → Int32), m + a = j → (∀ i, i < n → A i = S.2 2 i) → (∀ i, i < a → A (n + i) = bX x (j - 1 - i)) → AW g M_RF_type (aw_rm 1 21 0 0) (aw_F g 0 0 (fun r h => r = some (.int (nI (n + j))) ∧ ∃ A : Nat → Int32, h = HP (si (sa S 2 A) 101 (nI (n + j))) ∧ (∀ i, i < n → A i = S.2 2 i) ∧ ∀ i, i < j → A (n + i) = bX x (j - 1 - i))) 32 [some (.ref 0), some (.long x), none, some (.int (nI j)), some (.int (dn m))] [] (HP (si (sa S 2 A) 101 (nI (n + a)))) 0 0 := by
  intro m
  induction m with
  | zero =>
    intro a A hk e1 e2
    refine aw_iload (aw_d q_RF_type 19 rfl) rfl ?_
    refine aw_ifI_lt (tgt := 62) (aw_d q_RF_type 20 rfl) (by decide) (fun c34 => ?_) (fun c34 => by exact absurd dn_0 (by omega))
    refine aw_aload_n (aw_d q_RF_type 34 rfl) rfl rfl rfl ?_
    refine aw_getf (aw_d q_RF_type 35 rfl) fL_RF_10_RF rfl rfl ?_
    refine aw_getf (v := .int (nI ((n + a)))) (aw_d q_RF_type 36 rfl) fL_RF_100_By rfl (gk rfl) ?_
    exact aw_iret (aw_d q_RF_type 37 rfl) rfl (⟨by rw [show n + a = n + j by omega], A, by rw [show n + a = n + j by omega], e1, fun i hi => e2 i (by omega)⟩)
  | succ m ih =>
    intro a A hk e1 e2
    refine aw_iload (aw_d q_RF_type 19 rfl) rfl ?_
    refine aw_ifN_lt (tgt := 62) (aw_d q_RF_type 20 rfl) (by decide) (by omega) (fun c34 => by exfalso; omega) (fun c34 => ?_)
    refine aw_aload_n (aw_d q_RF_type 21 rfl) rfl rfl rfl ?_
    refine aw_getf (aw_d q_RF_type 22 rfl) fL_RF_10_RF rfl rfl ?_
    refine aw_lload_n (aw_d q_RF_type 23 rfl) rfl rfl ?_
    refine aw_bipush (v := nI 8) (aw_d q_RF_type 24 rfl) (by decide) ?_
    refine aw_iload (aw_d q_RF_type 25 rfl) rfl ?_
    refine aw_imulN (aw_d q_RF_type 26 rfl) ?_
    refine aw_lushr (aw_d q_RF_type 27 rfl) ?_
    refine aw_l2i (aw_d q_RF_type 28 rfl) ?_
    refine aw_sipush (v := nI 255) (aw_d q_RF_type 29 rfl) (by decide) ?_
    refine aw_iand (aw_d q_RF_type 30 rfl) ?_
    refine cVv (aw_d q_RF_type 31 rfl) (sp_By_add_1 (n := n + a) rfl (by omega)) vL_RF_96_By rfl rfl rfl rfl rfl rfl ⟨aw_le rfl, aw_le rfl⟩ ?_
    refine aw_iinc (v := dn m) (aw_d q_RF_type 32 rfl) rfl (dn_dec m) (aw_le rfl) rfl ?_
    refine aw_goto (tgt := 32) (aw_d q_RF_type 33 rfl) (by decide) ?_
    refine AW.to (ih (a + 1) (upd A (n + a) (bX x m)) (by omega) (fun i hi => ?_) (fun i hi => ?_)) rfl rfl rfl rfl
    · rw [pk_un (by omega)]; exact e1 i hi
    · by_cases hia : i = a
      · rw [hia, pk_us, show j - 1 - a = m by omega]
      · rw [pk_un (by omega)]; exact e2 i (by omega)
set_option maxRecDepth 20000 in
theorem sp_RF_type {g : aw_G} {S : aw_S} {n : Nat} (hn : S.1 101 = nI n) (h3 : n ≤ 3000) {j : Nat} {x : Int64} (hj1 : 1 ≤ j) (hj8 : j ≤ 8) (hj : n + j ≤ 3000) : Sp g M_RF_type 1 21 0 0 [.ref 0, .long x, .int (nI j)] (HP S) (fun r h => r = some (.int (nI (n + j))) ∧ ∃ A : Nat → Int32, h = HP (si (sa S 2 A) 101 (nI (n + j))) ∧ (∀ i, i < n → A i = S.2 2 i) ∧ ∀ i, i < j → A (n + i) = bX x (j - 1 - i)) := by
  refine Sp.of rfl (aw_le rfl) ?_
  refine aw_iload_n (aw_d q_RF_type 0 rfl) rfl rfl ?_
  refine aw_iconst (v := nI 1) (aw_d q_RF_type 1 rfl) (by decide) ?_
  refine aw_icmpN_lt (tgt := 11) (aw_d q_RF_type 2 rfl) (by decide) (by omega) (by omega) (fun c2 => by exfalso; omega) (fun c2 => ?_)
  refine aw_iload_n (aw_d q_RF_type 3 rfl) rfl rfl ?_
  refine aw_bipush (v := nI 8) (aw_d q_RF_type 4 rfl) (by decide) ?_
  refine aw_icmpN_le (tgt := 13) (aw_d q_RF_type 5 rfl) (by decide) (by omega) (by omega) (fun c8 => ?_) (fun c8 => by exfalso; omega)
  refine aw_aload_n (aw_d q_RF_type 8 rfl) rfl rfl rfl ?_
  refine aw_getf (aw_d q_RF_type 9 rfl) fL_RF_10_RF rfl rfl ?_
  refine aw_iload_n (aw_d q_RF_type 10 rfl) rfl rfl ?_
  refine cVr (aw_d q_RF_type 11 rfl) (sp_By_hasRoom_1 hn h3 (by omega)) vL_RF_92_By rfl rfl rfl rfl rfl rfl ⟨aw_le rfl, aw_le rfl⟩ ?_
  refine aw_ifB_ne (tgt := 27) (aw_d q_RF_type 12 rfl) (by decide) (fun c21 => ?_) (fun c21 => by omega)
  refine aw_iload_n (aw_d q_RF_type 15 rfl) rfl rfl ?_
  refine aw_iconst (v := nI 1) (aw_d q_RF_type 16 rfl) (by decide) ?_
  refine aw_isubN (aw_d q_RF_type 17 rfl) (by omega) ?_
  refine aw_istore (aw_d q_RF_type 18 rfl) (aw_le rfl) rfl ?_
  have hz := lp_RF_type (g := g) (x := x) hn h3 hj hj8 j 0 (S.2 2) (by omega) (fun i hi => rfl) (fun i hi => by omega)
  refine AW.to hz rfl ?_ rfl (by show HP S = HP (si (sa S 2 (S.2 2)) 101 (nI (n + 0))); rw [Nat.add_zero, ← hn]; exact hp_same S)
  cases j with
  | zero => omega
  | succ j => rfl
set_option maxRecDepth 20000 in
theorem sp_RF_typeB {g : aw_G} {S : aw_S} {x : Int64} {k : Int32} (hk : k.toInt < 1 ∨ 8 < k.toInt) : Sp g M_RF_type 1 21 0 0 [.ref 0, .long x, .int k] (HP S) (fun r h => r = some (.int (-1)) ∧ h = HP S) := by
  refine Sp.of rfl (aw_le rfl) ?_
  refine aw_iload_n (aw_d q_RF_type 0 rfl) rfl rfl ?_
  refine aw_iconst (v := nI 1) (aw_d q_RF_type 1 rfl) (by decide) ?_
  refine aw_icmpI_lt (tgt := 11) (aw_d q_RF_type 2 rfl) (by decide) (by omega) (fun c2 => ?_) (fun c2 => ?_)
  · refine aw_iconst (v := (-1)) (aw_d q_RF_type 6 rfl) (by decide) ?_
    exact aw_iret (aw_d q_RF_type 7 rfl) rfl (⟨rfl, rfl⟩)
  · refine aw_iload_n (aw_d q_RF_type 3 rfl) rfl rfl ?_
    refine aw_bipush (v := nI 8) (aw_d q_RF_type 4 rfl) (by decide) ?_
    refine aw_icmpI_le (tgt := 13) (aw_d q_RF_type 5 rfl) (by decide) (by omega) (fun c8 => by exfalso; omega) (fun c8 => ?_)
    refine aw_iconst (v := (-1)) (aw_d q_RF_type 6 rfl) (by decide) ?_
    exact aw_iret (aw_d q_RF_type 7 rfl) rfl (⟨rfl, rfl⟩)
set_option maxRecDepth 20000 in
theorem sp_RF_typeF {g : aw_G} {S : aw_S} {n : Nat} (hn : S.1 101 = nI n) (h3 : n ≤ 3000) {j : Nat} {x : Int64} (hj1 : 1 ≤ j) (hj8 : j ≤ 8) (hj : 3000 < n + j) : Sp g M_RF_type 1 21 0 0 [.ref 0, .long x, .int (nI j)] (HP S) (fun r h => r = some (.int (-3)) ∧ h = HP S) := by
  refine Sp.of rfl (aw_le rfl) ?_
  refine aw_iload_n (aw_d q_RF_type 0 rfl) rfl rfl ?_
  refine aw_iconst (v := nI 1) (aw_d q_RF_type 1 rfl) (by decide) ?_
  refine aw_icmpN_lt (tgt := 11) (aw_d q_RF_type 2 rfl) (by decide) (by omega) (by omega) (fun c2 => by exfalso; omega) (fun c2 => ?_)
  refine aw_iload_n (aw_d q_RF_type 3 rfl) rfl rfl ?_
  refine aw_bipush (v := nI 8) (aw_d q_RF_type 4 rfl) (by decide) ?_
  refine aw_icmpN_le (tgt := 13) (aw_d q_RF_type 5 rfl) (by decide) (by omega) (by omega) (fun c8 => ?_) (fun c8 => by exfalso; omega)
  refine aw_aload_n (aw_d q_RF_type 8 rfl) rfl rfl rfl ?_
  refine aw_getf (aw_d q_RF_type 9 rfl) fL_RF_10_RF rfl rfl ?_
  refine aw_iload_n (aw_d q_RF_type 10 rfl) rfl rfl ?_
  refine cVr (aw_d q_RF_type 11 rfl) (sp_By_hasRoom_1 hn h3 (by omega)) vL_RF_92_By rfl rfl rfl rfl rfl rfl ⟨aw_le rfl, aw_le rfl⟩ ?_
  refine aw_ifB_ne (tgt := 27) (aw_d q_RF_type 12 rfl) (by decide) (fun c21 => by exfalso; omega) (fun c21 => ?_)
  refine aw_bipush (v := (-3)) (aw_d q_RF_type 13 rfl) (by decide) ?_
  exact aw_iret (aw_d q_RF_type 14 rfl) rfl (⟨rfl, rfl⟩)
