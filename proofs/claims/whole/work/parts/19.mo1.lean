theorem dn_int {m : Nat} (h : m < 2147483648) : (nI m - nI 1).toInt = (m : Int) - 1 := by
  rw [dn_sub]
  cases m with
  | zero => decide
  | succ m => rw [show dn (m + 1) = nI m from rfl, nI_toInt (by omega)]; omega
theorem hp_m (S : aw_S) : HP S = HP (si (sa S 34 (S.2 34)) 3300 (S.1 3300)) := rfl
/-- the terms of the reference -/
def TmI (S : aw_S) (nt : Nat) (tl : Nat → Nat) : Prop := S.1 3306 = nI nt ∧ nt ≤ 60 ∧ ∀ t, t < nt → S.2 39 t = nI (tl t) ∧ tl t ≤ 20
/-- the table of the reference -/
def TmB (S : aw_S) (nv nr : Nat) (nl : Nat → Nat) : Prop := S.1 3311 = nI nv ∧ nv ≤ 6 ∧ S.1 3314 = nI nr ∧ nr ≤ 24 ∧ ∀ v, v < nv → S.2 41 v = nI (nl v) ∧ nl v ≤ 8
set_option maxRecDepth 20000 in
theorem lp_Mo_type {g : aw_G} {S : aw_S} {n : Nat} (hn : S.1 3300 = nI n) (h3 : n ≤ 3000) {j : Nat} {x : Int64} (hj : n + j ≤ 3000) (hj8 : j ≤ 8) : ∀ (m a : Nat) (A : Nat → Int32), m + a = j → (∀ i, i < n → A i = S.2 34 i) → (∀ i, i < a → A (n + i) = bM x (j - 1 - i)) → AW g M_Mo_type (aw_rm 1 22 0 0) (aw_F g 0 0 (fun r h => r = some (.int (nI (n + j))) ∧ ∃ A : Nat → Int32, h = HP (si (sa S 34 A) 3300 (nI (n + j))) ∧ (∀ i, i < n → A i = S.2 34 i) ∧ ∀ i, i < j → A (n + i) = bM x (j - 1 - i))) 32 [some (.ref 33), some (.long x), none, some (.int (nI j)), some (.int (dn m))] [] (HP (si (sa S 34 A) 3300 (nI (n + a)))) 0 0 := by
  intro m
  induction m with
  | zero =>
    intro a A hk e1 e2
    refine aw_iload (aw_d q_Mo_type 19 rfl) rfl ?_
    refine aw_ifI_lt (tgt := 74) (aw_d q_Mo_type 20 rfl) (by decide) (fun c34 => ?_) (fun c34 => by exact absurd dn_0 (by omega))
    refine aw_aload_n (aw_d q_Mo_type 42 rfl) rfl rfl rfl ?_
    refine aw_getf (v := .int (nI ((n + a)))) (aw_d q_Mo_type 43 rfl) fL_Mo_85_Mo rfl (gk rfl) ?_
    exact aw_iret (aw_d q_Mo_type 44 rfl) rfl (⟨by rw [show n + a = n + j by omega], A, by rw [show n + a = n + j by omega], e1, fun i hi => e2 i (by omega)⟩)
  | succ m ih =>
    intro a A hk e1 e2
    refine aw_iload (aw_d q_Mo_type 19 rfl) rfl ?_
    refine aw_ifN_lt (tgt := 74) (aw_d q_Mo_type 20 rfl) (by decide) (by omega) (fun c34 => by exfalso; omega) (fun c34 => ?_)
    refine aw_aload_n (aw_d q_Mo_type 21 rfl) rfl rfl rfl ?_
    refine aw_getf (aw_d q_Mo_type 22 rfl) fL_Mo_7_Mo rfl rfl ?_
    refine aw_aload_n (aw_d q_Mo_type 23 rfl) rfl rfl rfl ?_
    refine aw_getf (v := .int (nI ((n + a)))) (aw_d q_Mo_type 24 rfl) fL_Mo_85_Mo rfl (gk rfl) ?_
    refine aw_lload_n (aw_d q_Mo_type 25 rfl) rfl rfl ?_
    refine aw_bipush (v := nI 8) (aw_d q_Mo_type 26 rfl) (by decide) ?_
    refine aw_iload (aw_d q_Mo_type 27 rfl) rfl ?_
    refine aw_imulN (aw_d q_Mo_type 28 rfl) ?_
    refine aw_lshr (aw_d q_Mo_type 29 rfl) ?_
    refine aw_ldc2 (aw_d q_Mo_type 30 rfl) lL_Mo_88 ?_
    refine aw_land (aw_d q_Mo_type 31 rfl) ?_
    refine aw_l2i (aw_d q_Mo_type 32 rfl) ?_
    refine wn_34 (aw_d q_Mo_type 33 rfl) (by omega) ?_
    refine aw_aload_n (aw_d q_Mo_type 34 rfl) rfl rfl rfl ?_
    refine aw_dup (aw_d q_Mo_type 35 rfl) rfl ?_
    refine aw_getf (v := .int (nI ((n + a)))) (aw_d q_Mo_type 36 rfl) fL_Mo_85_Mo rfl (gk rfl) ?_
    refine aw_iconst (v := nI 1) (aw_d q_Mo_type 37 rfl) (by decide) ?_
    refine aw_iaddN (aw_d q_Mo_type 38 rfl) ?_
    refine wi_33_0 (aw_d q_Mo_type 39 rfl) pL_Mo_85_Mo ?_
    refine aw_iinc (v := dn m) (aw_d q_Mo_type 40 rfl) rfl (dn_dec m) (aw_le rfl) rfl ?_
    refine aw_goto (tgt := 32) (aw_d q_Mo_type 41 rfl) (by decide) ?_
    refine AW.to (ih (a + 1) (upd A (n + a) (bM x m)) (by omega) (fun i hi => ?_) (fun i hi => ?_)) rfl rfl rfl rfl
    · rw [pk_un (by omega)]; exact e1 i hi
    · by_cases hia : i = a
      · rw [hia, pk_us, show j - 1 - a = m by omega]
      · rw [pk_un (by omega)]; exact e2 i (by omega)
set_option maxRecDepth 20000 in
theorem sp_Mo_type {g : aw_G} {S : aw_S} {n : Nat} (hn : S.1 3300 = nI n) (h3 : n ≤ 3000) {j : Nat} {x : Int64} (hj1 : 1 ≤ j) (hj8 : j ≤ 8) (hj : n + j ≤ 3000) : Sp g M_Mo_type 1 22 0 0 [.ref 33, .long x, .int (nI j)] (HP S) (fun r h => r = some (.int (nI (n + j))) ∧ ∃ A : Nat → Int32, h = HP (si (sa S 34 A) 3300 (nI (n + j))) ∧ (∀ i, i < n → A i = S.2 34 i) ∧ ∀ i, i < j → A (n + i) = bM x (j - 1 - i)) := by
  refine Sp.of rfl (aw_le rfl) ?_
  have hji := nI_toInt (n := j) (by omega)
  refine aw_iload_n (aw_d q_Mo_type 0 rfl) rfl rfl ?_
  refine aw_iconst (v := nI 1) (aw_d q_Mo_type 1 rfl) (by decide) ?_
  refine aw_bipush (v := nI 8) (aw_d q_Mo_type 2 rfl) (by decide) ?_
  refine cSr (aw_d q_Mo_type 3 rfl) (sp_Mo_in (A := 1) (B := 8) (by decide) (by decide)) sL_Mo_81 rfl rfl rfl rfl ⟨aw_le rfl, aw_le rfl⟩ ?_
  refine aw_ifB_ne (tgt := 12) (aw_d q_Mo_type 4 rfl) (by decide) (fun c7 => ?_) (fun c7 => by omega)
  refine aw_aload_n (aw_d q_Mo_type 7 rfl) rfl rfl rfl ?_
  refine aw_getf (v := .int (nI (n))) (aw_d q_Mo_type 8 rfl) fL_Mo_85_Mo rfl (gk hn) ?_
  refine aw_iload_n (aw_d q_Mo_type 9 rfl) rfl rfl ?_
  refine aw_iaddN (aw_d q_Mo_type 10 rfl) ?_
  refine aw_sipush (v := nI 3000) (aw_d q_Mo_type 11 rfl) (by decide) ?_
  refine aw_icmpN_le (tgt := 27) (aw_d q_Mo_type 12 rfl) (by decide) (by omega) (by omega) (fun c21 => ?_) (fun c21 => by exfalso; omega)
  refine aw_iload_n (aw_d q_Mo_type 15 rfl) rfl rfl ?_
  refine aw_iconst (v := nI 1) (aw_d q_Mo_type 16 rfl) (by decide) ?_
  refine aw_isubN (aw_d q_Mo_type 17 rfl) (by omega) ?_
  refine aw_istore (aw_d q_Mo_type 18 rfl) (aw_le rfl) rfl ?_
  have hz := lp_Mo_type (g := g) (x := x) hn h3 hj hj8 j 0 (S.2 34) (by omega) (fun i hi => rfl) (fun i hi => by omega)
  refine AW.to hz rfl ?_ rfl (by show HP S = HP (si (sa S 34 (S.2 34)) 3300 (nI (n + 0))); rw [Nat.add_zero, ← hn]; exact hp_m S)
  cases j with
  | zero => omega
  | succ j => rfl
set_option maxRecDepth 20000 in
theorem sp_Mo_typeB {g : aw_G} {S : aw_S} {x : Int64} {k : Int32} (hk : k.toInt < 1 ∨ 8 < k.toInt) : Sp g M_Mo_type 1 22 0 0 [.ref 33, .long x, .int k] (HP S) (fun r h => r = some (.int (-1)) ∧ h = HP S) := by
  refine Sp.of rfl (aw_le rfl) ?_
  refine aw_iload_n (aw_d q_Mo_type 0 rfl) rfl rfl ?_
  refine aw_iconst (v := nI 1) (aw_d q_Mo_type 1 rfl) (by decide) ?_
  refine aw_bipush (v := nI 8) (aw_d q_Mo_type 2 rfl) (by decide) ?_
  refine cSr (aw_d q_Mo_type 3 rfl) (sp_Mo_in (A := 1) (B := 8) (by decide) (by decide)) sL_Mo_81 rfl rfl rfl rfl ⟨aw_le rfl, aw_le rfl⟩ ?_
  refine aw_ifB_ne (tgt := 12) (aw_d q_Mo_type 4 rfl) (by decide) (fun c7 => by omega) (fun c7 => ?_)
  refine aw_iconst (v := (-1)) (aw_d q_Mo_type 5 rfl) (by decide) ?_
  exact aw_iret (aw_d q_Mo_type 6 rfl) rfl (⟨rfl, rfl⟩)
set_option maxRecDepth 20000 in
theorem sp_Mo_typeF {g : aw_G} {S : aw_S} {n : Nat} (hn : S.1 3300 = nI n) (h3 : n ≤ 3000) {j : Nat} {x : Int64} (hj1 : 1 ≤ j) (hj8 : j ≤ 8) (hj : 3000 < n + j) : Sp g M_Mo_type 1 22 0 0 [.ref 33, .long x, .int (nI j)] (HP S) (fun r h => r = some (.int (-3)) ∧ h = HP S) := by
  refine Sp.of rfl (aw_le rfl) ?_
  have hji := nI_toInt (n := j) (by omega)
  refine aw_iload_n (aw_d q_Mo_type 0 rfl) rfl rfl ?_
  refine aw_iconst (v := nI 1) (aw_d q_Mo_type 1 rfl) (by decide) ?_
  refine aw_bipush (v := nI 8) (aw_d q_Mo_type 2 rfl) (by decide) ?_
  refine cSr (aw_d q_Mo_type 3 rfl) (sp_Mo_in (A := 1) (B := 8) (by decide) (by decide)) sL_Mo_81 rfl rfl rfl rfl ⟨aw_le rfl, aw_le rfl⟩ ?_
  refine aw_ifB_ne (tgt := 12) (aw_d q_Mo_type 4 rfl) (by decide) (fun c7 => ?_) (fun c7 => by omega)
  refine aw_aload_n (aw_d q_Mo_type 7 rfl) rfl rfl rfl ?_
  refine aw_getf (v := .int (nI (n))) (aw_d q_Mo_type 8 rfl) fL_Mo_85_Mo rfl (gk hn) ?_
  refine aw_iload_n (aw_d q_Mo_type 9 rfl) rfl rfl ?_
  refine aw_iaddN (aw_d q_Mo_type 10 rfl) ?_
  refine aw_sipush (v := nI 3000) (aw_d q_Mo_type 11 rfl) (by decide) ?_
  refine aw_icmpN_le (tgt := 27) (aw_d q_Mo_type 12 rfl) (by decide) (by omega) (by omega) (fun c21 => by exfalso; omega) (fun c21 => ?_)
  refine aw_bipush (v := (-3)) (aw_d q_Mo_type 13 rfl) (by decide) ?_
  exact aw_iret (aw_d q_Mo_type 14 rfl) rfl (⟨rfl, rfl⟩)
set_option maxRecDepth 20000 in
theorem lp_Mo_pass {g : aw_G} {S : aw_S} {n o : Nat} (hn : S.1 3300 = nI n) (h3 : n ≤ 3000) (ho : S.1 3302 = nI o) (o3 : o ≤ 3000) (hj : n + o ≤ 3000) : ∀ (m a : Nat) (A : Nat → Int32), m + a = o → (∀ i, i < n → A i = S.2 34 i) → (∀ i, i < a → A (n + i) = S.2 35 i) → AW g M_Mo_pass (aw_rm 0 0 0 0) (aw_F g 0 0 (fun r h => r = some (.int (nI (n + o))) ∧ ∃ A : Nat → Int32, h = HP (si (sa S 34 A) 3300 (nI (n + o))) ∧ (∀ i, i < n → A i = S.2 34 i) ∧ ∀ i, i < o → A (n + i) = S.2 35 i)) 20 [some (.ref 33), some (.int (nI a))] [] (HP (sa S 34 A)) 0 0 := by
  intro m
  induction m with
  | zero =>
    intro a A hk e1 e2
    refine aw_iload_n (aw_d q_Mo_pass 11 rfl) rfl rfl ?_
    refine aw_aload_n (aw_d q_Mo_pass 12 rfl) rfl rfl rfl ?_
    refine aw_getf (v := .int (nI (o))) (aw_d q_Mo_pass 13 rfl) fL_Mo_90_Mo rfl (gk ho) ?_
    refine aw_icmpN_ge (tgt := 51) (aw_d q_Mo_pass 14 rfl) (by decide) (by omega) (by omega) (fun c25 => ?_) (fun c25 => by exfalso; omega)
    refine aw_aload_n (aw_d q_Mo_pass 28 rfl) rfl rfl rfl ?_
    refine aw_dup (aw_d q_Mo_pass 29 rfl) rfl ?_
    refine aw_getf (v := .int (nI (n))) (aw_d q_Mo_pass 30 rfl) fL_Mo_85_Mo rfl (gk hn) ?_
    refine aw_aload_n (aw_d q_Mo_pass 31 rfl) rfl rfl rfl ?_
    refine aw_getf (v := .int (nI (o))) (aw_d q_Mo_pass 32 rfl) fL_Mo_90_Mo rfl (gk ho) ?_
    refine aw_iaddN (aw_d q_Mo_pass 33 rfl) ?_
    refine wi_33_0 (aw_d q_Mo_pass 34 rfl) pL_Mo_85_Mo ?_
    refine aw_aload_n (aw_d q_Mo_pass 35 rfl) rfl rfl rfl ?_
    refine aw_getf (v := .int (nI ((n + o)))) (aw_d q_Mo_pass 36 rfl) fL_Mo_85_Mo rfl (gk rfl) ?_
    exact aw_iret (aw_d q_Mo_pass 37 rfl) rfl (⟨rfl, A, rfl, e1, fun i hi => e2 i (by omega)⟩)
  | succ m ih =>
    intro a A hk e1 e2
    refine aw_iload_n (aw_d q_Mo_pass 11 rfl) rfl rfl ?_
    refine aw_aload_n (aw_d q_Mo_pass 12 rfl) rfl rfl rfl ?_
    refine aw_getf (v := .int (nI (o))) (aw_d q_Mo_pass 13 rfl) fL_Mo_90_Mo rfl (gk ho) ?_
    refine aw_icmpN_ge (tgt := 51) (aw_d q_Mo_pass 14 rfl) (by decide) (by omega) (by omega) (fun c25 => by exfalso; omega) (fun c25 => ?_)
    refine aw_aload_n (aw_d q_Mo_pass 15 rfl) rfl rfl rfl ?_
    refine aw_getf (aw_d q_Mo_pass 16 rfl) fL_Mo_7_Mo rfl rfl ?_
    refine aw_aload_n (aw_d q_Mo_pass 17 rfl) rfl rfl rfl ?_
    refine aw_getf (v := .int (nI (n))) (aw_d q_Mo_pass 18 rfl) fL_Mo_85_Mo rfl (gk hn) ?_
    refine aw_iload_n (aw_d q_Mo_pass 19 rfl) rfl rfl ?_
    refine aw_iaddN (aw_d q_Mo_pass 20 rfl) ?_
    refine aw_aload_n (aw_d q_Mo_pass 21 rfl) rfl rfl rfl ?_
    refine aw_getf (aw_d q_Mo_pass 22 rfl) fL_Mo_13_Mo rfl rfl ?_
    refine aw_iload_n (aw_d q_Mo_pass 23 rfl) rfl rfl ?_
    refine aw_ialdN (aw_d q_Mo_pass 24 rfl) rfl (by omega) rfl ?_
    refine wn_34 (aw_d q_Mo_pass 25 rfl) (by omega) ?_
    refine aw_iinc (aw_d q_Mo_pass 26 rfl) rfl (ii1 _) (aw_le rfl) rfl ?_
    refine aw_goto (tgt := 20) (aw_d q_Mo_pass 27 rfl) (by decide) ?_
    refine AW.to (ih (a + 1) (upd A (n + a) (S.2 35 a)) (by omega) (fun i hi => ?_) (fun i hi => ?_)) rfl rfl rfl rfl
    · rw [pk_un (by omega)]; exact e1 i hi
    · by_cases hia : i = a
      · rw [hia, pk_us]
      · rw [pk_un (by omega)]; exact e2 i (by omega)
set_option maxRecDepth 20000 in
theorem sp_Mo_pass {g : aw_G} {S : aw_S} {n o : Nat} (hn : S.1 3300 = nI n) (h3 : n ≤ 3000) (ho : S.1 3302 = nI o) (o3 : o ≤ 3000) (hj : n + o ≤ 3000) : Sp g M_Mo_pass 0 0 0 0 [.ref 33] (HP S) (fun r h => r = some (.int (nI (n + o))) ∧ ∃ A : Nat → Int32, h = HP (si (sa S 34 A) 3300 (nI (n + o))) ∧ (∀ i, i < n → A i = S.2 34 i) ∧ ∀ i, i < o → A (n + i) = S.2 35 i) := by
  refine Sp.of rfl (aw_le rfl) ?_
  refine aw_aload_n (aw_d q_Mo_pass 0 rfl) rfl rfl rfl ?_
  refine aw_getf (v := .int (nI (n))) (aw_d q_Mo_pass 1 rfl) fL_Mo_85_Mo rfl (gk hn) ?_
  refine aw_aload_n (aw_d q_Mo_pass 2 rfl) rfl rfl rfl ?_
  refine aw_getf (v := .int (nI (o))) (aw_d q_Mo_pass 3 rfl) fL_Mo_90_Mo rfl (gk ho) ?_
  refine aw_iaddN (aw_d q_Mo_pass 4 rfl) ?_
  refine aw_sipush (v := nI 3000) (aw_d q_Mo_pass 5 rfl) (by decide) ?_
  refine aw_icmpN_le (tgt := 18) (aw_d q_Mo_pass 6 rfl) (by decide) (by omega) (by omega) (fun c12 => ?_) (fun c12 => by exfalso; omega)
  refine aw_iconst (v := nI 0) (aw_d q_Mo_pass 9 rfl) (by decide) ?_
  refine aw_istore_n (aw_d q_Mo_pass 10 rfl) rfl (aw_le rfl) rfl ?_
  exact AW.to (lp_Mo_pass (g := g) hn h3 ho o3 hj o 0 (S.2 34) (by omega) (fun i hi => rfl) (fun i hi => by omega)) rfl rfl rfl rfl
set_option maxRecDepth 20000 in
theorem sp_Mo_passF {g : aw_G} {S : aw_S} {n o : Nat} (hn : S.1 3300 = nI n) (h3 : n ≤ 3000) (ho : S.1 3302 = nI o) (o3 : o ≤ 3000) (hj : 3000 < n + o) : Sp g M_Mo_pass 0 0 0 0 [.ref 33] (HP S) (fun r h => r = some (.int (-3)) ∧ h = HP S) := by
  refine Sp.of rfl (aw_le rfl) ?_
  refine aw_aload_n (aw_d q_Mo_pass 0 rfl) rfl rfl rfl ?_
  refine aw_getf (v := .int (nI (n))) (aw_d q_Mo_pass 1 rfl) fL_Mo_85_Mo rfl (gk hn) ?_
  refine aw_aload_n (aw_d q_Mo_pass 2 rfl) rfl rfl rfl ?_
  refine aw_getf (v := .int (nI (o))) (aw_d q_Mo_pass 3 rfl) fL_Mo_90_Mo rfl (gk ho) ?_
  refine aw_iaddN (aw_d q_Mo_pass 4 rfl) ?_
  refine aw_sipush (v := nI 3000) (aw_d q_Mo_pass 5 rfl) (by decide) ?_
  refine aw_icmpN_le (tgt := 18) (aw_d q_Mo_pass 6 rfl) (by decide) (by omega) (by omega) (fun c12 => by exfalso; omega) (fun c12 => ?_)
  refine aw_bipush (v := (-3)) (aw_d q_Mo_pass 7 rfl) (by decide) ?_
  exact aw_iret (aw_d q_Mo_pass 8 rfl) rfl (⟨rfl, rfl⟩)
set_option maxRecDepth 20000 in
theorem sp_Mo_at {g : aw_G} {S : aw_S} {o : Nat} {x : Int32} (ho : S.1 3302 = nI o) (o3 : o ≤ 3000) : Sp g M_Mo_at 1 22 0 0 [.ref 33, .int x] (HP S) (fun r h => r = some (.int (if 0 ≤ x.toInt ∧ x.toInt < o then S.2 35 x.toNatClampNeg else -1)) ∧ h = HP S) := by
  refine Sp.of rfl (aw_le rfl) ?_
  refine aw_iload_n (aw_d q_Mo_at 0 rfl) rfl rfl ?_
  refine aw_iconst (v := nI 0) (aw_d q_Mo_at 1 rfl) (by decide) ?_
  refine aw_aload_n (aw_d q_Mo_at 2 rfl) rfl rfl rfl ?_
  refine aw_getf (v := .int (nI (o))) (aw_d q_Mo_at 3 rfl) fL_Mo_90_Mo rfl (gk ho) ?_
  refine aw_iconst (v := nI 1) (aw_d q_Mo_at 4 rfl) (by decide) ?_
  refine aw_isub (aw_d q_Mo_at 5 rfl) ?_
  refine cSr (aw_d q_Mo_at 6 rfl) (sp_Mo_in (A := 0) (B := ((o : Int) - 1)) (by decide) (dn_int (by omega))) sL_Mo_81 rfl rfl rfl rfl ⟨aw_le rfl, aw_le rfl⟩ ?_
  refine aw_ifB_eq (tgt := 23) (aw_d q_Mo_at 7 rfl) (by decide) (fun c11 => ?_) (fun c11 => ?_)
  · refine aw_iconst (v := (-1)) (aw_d q_Mo_at 13 rfl) (by decide) ?_
    exact aw_iret (aw_d q_Mo_at 14 rfl) rfl (⟨by first | rw [if_neg (by omega)] | rw [if_pos (by omega)], rfl⟩)
  · obtain ⟨j, hj, rfl⟩ : ∃ j : Nat, j < o ∧ x = nI j := ⟨x.toInt.toNat, by omega, by rw [← Int32.toInt_inj, nI_toInt (by omega)]; omega⟩
    refine aw_aload_n (aw_d q_Mo_at 8 rfl) rfl rfl rfl ?_
    refine aw_getf (aw_d q_Mo_at 9 rfl) fL_Mo_13_Mo rfl rfl ?_
    refine aw_iload_n (aw_d q_Mo_at 10 rfl) rfl rfl ?_
    refine aw_iald (aw_d q_Mo_at 11 rfl) rfl (vp_in_nI (by omega) (by omega)) ?_
    refine aw_goto (tgt := 24) (aw_d q_Mo_at 12 rfl) (by decide) ?_
    exact aw_iret (aw_d q_Mo_at 14 rfl) rfl (⟨by first | rw [if_neg (by omega)] | rw [if_pos (by omega)], rfl⟩)
set_option maxRecDepth 20000 in
theorem sp_Mo_count {g : aw_G} {S : aw_S} {n o nt nv nr : Nat} (hn : S.1 3300 = nI n) (ho : S.1 3302 = nI o) (ht : S.1 3306 = nI nt) (hv : S.1 3311 = nI nv) (hr : S.1 3314 = nI nr) {x : Int32} : Sp g M_Mo_count 0 0 0 0 [.ref 33, .int x] (HP S) (fun r h => r = some (.int (if x.toInt = 0 then nI nv else if x.toInt = 1 then nI nr else if x.toInt = 2 then nI nt else if x.toInt = 3 then nI n else if x.toInt = 4 then nI o else -1)) ∧ h = HP S) := by
  refine Sp.of rfl (aw_le rfl) ?_
  refine aw_iload_n (aw_d q_Mo_count 0 rfl) rfl rfl ?_
  rcases (show x.toInt < 0 ∨ (4 : Int) < x.toInt ∨ x.toInt = 0 ∨ x.toInt = 1 ∨ x.toInt = 2 ∨ x.toInt = 3 ∨ x.toInt = 4 by omega) with hsw | hsw | hsw | hsw | hsw | hsw | hsw
  · refine aw_tableOut (tgt := 61) (aw_d q_Mo_count 1 rfl) (Or.inl hsw) (by decide) ?_
    refine aw_iconst (v := (-1)) (aw_d q_Mo_count 17 rfl) (by decide) ?_
    exact aw_iret (aw_d q_Mo_count 18 rfl) rfl (⟨by first | (rw [if_pos hsw]; done) | (rw [if_neg (by omega), if_pos hsw]; done) | (rw [if_neg (by omega), if_neg (by omega), if_pos hsw]; done) | (rw [if_neg (by omega), if_neg (by omega), if_neg (by omega), if_pos hsw]; done) | (rw [if_neg (by omega), if_neg (by omega), if_neg (by omega), if_neg (by omega), if_pos hsw]; done) | (rw [if_neg (by omega), if_neg (by omega), if_neg (by omega), if_neg (by omega), if_neg (by omega)]; done), rfl⟩)
  · refine aw_tableOut (tgt := 61) (aw_d q_Mo_count 1 rfl) (Or.inr hsw) (by decide) ?_
    refine aw_iconst (v := (-1)) (aw_d q_Mo_count 17 rfl) (by decide) ?_
    exact aw_iret (aw_d q_Mo_count 18 rfl) rfl (⟨by first | (rw [if_pos hsw]; done) | (rw [if_neg (by omega), if_pos hsw]; done) | (rw [if_neg (by omega), if_neg (by omega), if_pos hsw]; done) | (rw [if_neg (by omega), if_neg (by omega), if_neg (by omega), if_pos hsw]; done) | (rw [if_neg (by omega), if_neg (by omega), if_neg (by omega), if_neg (by omega), if_pos hsw]; done) | (rw [if_neg (by omega), if_neg (by omega), if_neg (by omega), if_neg (by omega), if_neg (by omega)]; done), rfl⟩)
  · refine aw_tableIn (tgt := 36) (aw_d q_Mo_count 1 rfl) (by omega) (by omega) (by rw [hsw]; rfl) (by decide) ?_
    refine aw_aload_n (aw_d q_Mo_count 2 rfl) rfl rfl rfl ?_
    refine aw_getf (v := .int (nI (nv))) (aw_d q_Mo_count 3 rfl) fL_Mo_126_Mo rfl (gk hv) ?_
    exact aw_iret (aw_d q_Mo_count 4 rfl) rfl (⟨by first | (rw [if_pos hsw]; done) | (rw [if_neg (by omega), if_pos hsw]; done) | (rw [if_neg (by omega), if_neg (by omega), if_pos hsw]; done) | (rw [if_neg (by omega), if_neg (by omega), if_neg (by omega), if_pos hsw]; done) | (rw [if_neg (by omega), if_neg (by omega), if_neg (by omega), if_neg (by omega), if_pos hsw]; done) | (rw [if_neg (by omega), if_neg (by omega), if_neg (by omega), if_neg (by omega), if_neg (by omega)]; done), rfl⟩)
  · refine aw_tableIn (tgt := 41) (aw_d q_Mo_count 1 rfl) (by omega) (by omega) (by rw [hsw]; rfl) (by decide) ?_
    refine aw_aload_n (aw_d q_Mo_count 5 rfl) rfl rfl rfl ?_
    refine aw_getf (v := .int (nI (nr))) (aw_d q_Mo_count 6 rfl) fL_Mo_129_Mo rfl (gk hr) ?_
    exact aw_iret (aw_d q_Mo_count 7 rfl) rfl (⟨by first | (rw [if_pos hsw]; done) | (rw [if_neg (by omega), if_pos hsw]; done) | (rw [if_neg (by omega), if_neg (by omega), if_pos hsw]; done) | (rw [if_neg (by omega), if_neg (by omega), if_neg (by omega), if_pos hsw]; done) | (rw [if_neg (by omega), if_neg (by omega), if_neg (by omega), if_neg (by omega), if_pos hsw]; done) | (rw [if_neg (by omega), if_neg (by omega), if_neg (by omega), if_neg (by omega), if_neg (by omega)]; done), rfl⟩)
  · refine aw_tableIn (tgt := 46) (aw_d q_Mo_count 1 rfl) (by omega) (by omega) (by rw [hsw]; rfl) (by decide) ?_
    refine aw_aload_n (aw_d q_Mo_count 8 rfl) rfl rfl rfl ?_
    refine aw_getf (v := .int (nI (nt))) (aw_d q_Mo_count 9 rfl) fL_Mo_109_Mo rfl (gk ht) ?_
    exact aw_iret (aw_d q_Mo_count 10 rfl) rfl (⟨by first | (rw [if_pos hsw]; done) | (rw [if_neg (by omega), if_pos hsw]; done) | (rw [if_neg (by omega), if_neg (by omega), if_pos hsw]; done) | (rw [if_neg (by omega), if_neg (by omega), if_neg (by omega), if_pos hsw]; done) | (rw [if_neg (by omega), if_neg (by omega), if_neg (by omega), if_neg (by omega), if_pos hsw]; done) | (rw [if_neg (by omega), if_neg (by omega), if_neg (by omega), if_neg (by omega), if_neg (by omega)]; done), rfl⟩)
  · refine aw_tableIn (tgt := 51) (aw_d q_Mo_count 1 rfl) (by omega) (by omega) (by rw [hsw]; rfl) (by decide) ?_
    refine aw_aload_n (aw_d q_Mo_count 11 rfl) rfl rfl rfl ?_
    refine aw_getf (v := .int (nI (n))) (aw_d q_Mo_count 12 rfl) fL_Mo_85_Mo rfl (gk hn) ?_
    exact aw_iret (aw_d q_Mo_count 13 rfl) rfl (⟨by first | (rw [if_pos hsw]; done) | (rw [if_neg (by omega), if_pos hsw]; done) | (rw [if_neg (by omega), if_neg (by omega), if_pos hsw]; done) | (rw [if_neg (by omega), if_neg (by omega), if_neg (by omega), if_pos hsw]; done) | (rw [if_neg (by omega), if_neg (by omega), if_neg (by omega), if_neg (by omega), if_pos hsw]; done) | (rw [if_neg (by omega), if_neg (by omega), if_neg (by omega), if_neg (by omega), if_neg (by omega)]; done), rfl⟩)
  · refine aw_tableIn (tgt := 56) (aw_d q_Mo_count 1 rfl) (by omega) (by omega) (by rw [hsw]; rfl) (by decide) ?_
    refine aw_aload_n (aw_d q_Mo_count 14 rfl) rfl rfl rfl ?_
    refine aw_getf (v := .int (nI (o))) (aw_d q_Mo_count 15 rfl) fL_Mo_90_Mo rfl (gk ho) ?_
    exact aw_iret (aw_d q_Mo_count 16 rfl) rfl (⟨by first | (rw [if_pos hsw]; done) | (rw [if_neg (by omega), if_pos hsw]; done) | (rw [if_neg (by omega), if_neg (by omega), if_pos hsw]; done) | (rw [if_neg (by omega), if_neg (by omega), if_neg (by omega), if_pos hsw]; done) | (rw [if_neg (by omega), if_neg (by omega), if_neg (by omega), if_neg (by omega), if_pos hsw]; done) | (rw [if_neg (by omega), if_neg (by omega), if_neg (by omega), if_neg (by omega), if_neg (by omega)]; done), rfl⟩)
set_option maxRecDepth 20000 in
theorem sp_Mo_clear {g : aw_G} {S : aw_S} {nr : Nat} (hr : S.1 3314 = nI nr) : Sp g M_Mo_clear 0 0 0 0 [.ref 33] (HP S) (fun r h => r = some (.int (nI nr)) ∧ h = HP (si (si S 3311 (nI 0)) 3314 (nI 0))) := by
  refine Sp.of rfl (aw_le rfl) ?_
  refine aw_aload_n (aw_d q_Mo_clear 0 rfl) rfl rfl rfl ?_
  refine aw_getf (v := .int (nI (nr))) (aw_d q_Mo_clear 1 rfl) fL_Mo_129_Mo rfl (gk hr) ?_
  refine aw_istore_n (aw_d q_Mo_clear 2 rfl) rfl (aw_le rfl) rfl ?_
  refine aw_aload_n (aw_d q_Mo_clear 3 rfl) rfl rfl rfl ?_
  refine aw_iconst (v := nI 0) (aw_d q_Mo_clear 4 rfl) (by decide) ?_
  refine wi_33_11 (aw_d q_Mo_clear 5 rfl) pL_Mo_126_Mo ?_
  refine aw_aload_n (aw_d q_Mo_clear 6 rfl) rfl rfl rfl ?_
  refine aw_iconst (v := nI 0) (aw_d q_Mo_clear 7 rfl) (by decide) ?_
  refine wi_33_14 (aw_d q_Mo_clear 8 rfl) pL_Mo_129_Mo ?_
  refine aw_iload_n (aw_d q_Mo_clear 9 rfl) rfl rfl ?_
  exact aw_iret (aw_d q_Mo_clear 10 rfl) rfl (⟨rfl, rfl⟩)
set_option maxRecDepth 20000 in
theorem lp_Mo_row {g : aw_G} {S : aw_S} {nv nr : Nat} {nl : Nat → Nat} (hB : TmB S nv nr nl) (h24 : nr < 24) : ∀ (m v : Nat) (CD : Nat → Int32), m + v = 6 → (∀ w, w < v → CD (nr * 6 + w) = -1) → (∀ j, j < nr * 6 → CD j = S.2 43 j) → AW g M_Mo_row (aw_rm 0 0 0 0) (aw_F g 0 0 (fun r h => r = some (.int (nI nr)) ∧ ∃ CD : Nat → Int32, h = HP (si (sa S 43 CD) 3314 (nI (nr + 1))) ∧ (∀ v, v < 6 → CD (nr * 6 + v) = -1) ∧ ∀ j, j < nr * 6 → CD j = S.2 43 j)) 14 [some (.ref 33), some (.int (nI v))] [] (HP (sa S 43 CD)) 0 0 := by
  intro m
  induction m with
  | zero =>
    intro v CD hk e1 e2
    refine aw_iload_n (aw_d q_Mo_row 8 rfl) rfl rfl ?_
    refine aw_bipush (v := nI 6) (aw_d q_Mo_row 9 rfl) (by decide) ?_
    refine aw_icmpN_ge (tgt := 41) (aw_d q_Mo_row 10 rfl) (by decide) (by (have hB2 := hB.2.1; have hB4 := hB.2.2.2.1; omega)) (by (have hB2 := hB.2.1; have hB4 := hB.2.2.2.1; omega)) (fun c17 => ?_) (fun c17 => by exfalso; (have hB2 := hB.2.1; have hB4 := hB.2.2.2.1; omega))
    refine aw_aload_n (aw_d q_Mo_row 23 rfl) rfl rfl rfl ?_
    refine aw_dup (aw_d q_Mo_row 24 rfl) rfl ?_
    refine aw_getf (v := .int (nI (nr))) (aw_d q_Mo_row 25 rfl) fL_Mo_129_Mo rfl (gk hB.2.2.1) ?_
    refine aw_iconst (v := nI 1) (aw_d q_Mo_row 26 rfl) (by decide) ?_
    refine aw_iaddN (aw_d q_Mo_row 27 rfl) ?_
    refine wi_33_14 (aw_d q_Mo_row 28 rfl) pL_Mo_129_Mo ?_
    refine aw_aload_n (aw_d q_Mo_row 29 rfl) rfl rfl rfl ?_
    refine aw_getf (v := .int (nI ((nr + 1)))) (aw_d q_Mo_row 30 rfl) fL_Mo_129_Mo rfl (gk rfl) ?_
    refine aw_iconst (v := nI 1) (aw_d q_Mo_row 31 rfl) (by decide) ?_
    refine aw_isubN (aw_d q_Mo_row 32 rfl) (by (have hB2 := hB.2.1; have hB4 := hB.2.2.2.1; omega)) ?_
    exact aw_iret (aw_d q_Mo_row 33 rfl) rfl (⟨by rw [Nat.add_sub_cancel], CD, rfl, fun w hw => e1 w (by omega), e2⟩)
  | succ m ih =>
    intro v CD hk e1 e2
    refine aw_iload_n (aw_d q_Mo_row 8 rfl) rfl rfl ?_
    refine aw_bipush (v := nI 6) (aw_d q_Mo_row 9 rfl) (by decide) ?_
    refine aw_icmpN_ge (tgt := 41) (aw_d q_Mo_row 10 rfl) (by decide) (by (have hB2 := hB.2.1; have hB4 := hB.2.2.2.1; omega)) (by (have hB2 := hB.2.1; have hB4 := hB.2.2.2.1; omega)) (fun c17 => by exfalso; (have hB2 := hB.2.1; have hB4 := hB.2.2.2.1; omega)) (fun c17 => ?_)
    refine aw_aload_n (aw_d q_Mo_row 11 rfl) rfl rfl rfl ?_
    refine aw_getf (aw_d q_Mo_row 12 rfl) fL_Mo_37_Mo rfl rfl ?_
    refine aw_bipush (v := nI 6) (aw_d q_Mo_row 13 rfl) (by decide) ?_
    refine aw_aload_n (aw_d q_Mo_row 14 rfl) rfl rfl rfl ?_
    refine aw_getf (v := .int (nI (nr))) (aw_d q_Mo_row 15 rfl) fL_Mo_129_Mo rfl (gk hB.2.2.1) ?_
    refine aw_imulN (aw_d q_Mo_row 16 rfl) ?_
    refine aw_iload_n (aw_d q_Mo_row 17 rfl) rfl rfl ?_
    refine aw_iaddN (aw_d q_Mo_row 18 rfl) ?_
    refine aw_iconst (v := (-1)) (aw_d q_Mo_row 19 rfl) (by decide) ?_
    refine wn_43 (aw_d q_Mo_row 20 rfl) (by (have hB2 := hB.2.1; have hB4 := hB.2.2.2.1; omega)) ?_
    refine aw_iinc (aw_d q_Mo_row 21 rfl) rfl (ii1 _) (aw_le rfl) rfl ?_
    refine aw_goto (tgt := 14) (aw_d q_Mo_row 22 rfl) (by decide) ?_
    refine AW.to (ih (v + 1) (upd CD (6 * nr + v) (-1)) (by omega) (fun w hw => ?_) (fun j hj => ?_)) rfl rfl rfl rfl
    · by_cases hwv : w = v
      · rw [hwv, Nat.mul_comm nr 6]; exact pk_us
      · rw [pk_un (by omega)]; exact e1 w (by omega)
    · rw [pk_un (by omega)]; exact e2 j hj
set_option maxRecDepth 20000 in
theorem sp_Mo_row {g : aw_G} {S : aw_S} {nv nr : Nat} {nl : Nat → Nat} (hB : TmB S nv nr nl) (h24 : nr < 24) : Sp g M_Mo_row 0 0 0 0 [.ref 33] (HP S) (fun r h => r = some (.int (nI nr)) ∧ ∃ CD : Nat → Int32, h = HP (si (sa S 43 CD) 3314 (nI (nr + 1))) ∧ (∀ v, v < 6 → CD (nr * 6 + v) = -1) ∧ ∀ j, j < nr * 6 → CD j = S.2 43 j) := by
  refine Sp.of rfl (aw_le rfl) ?_
  refine aw_aload_n (aw_d q_Mo_row 0 rfl) rfl rfl rfl ?_
  refine aw_getf (v := .int (nI (nr))) (aw_d q_Mo_row 1 rfl) fL_Mo_129_Mo rfl (gk hB.2.2.1) ?_
  refine aw_bipush (v := nI 24) (aw_d q_Mo_row 2 rfl) (by decide) ?_
  refine aw_icmpN_ne (tgt := 12) (aw_d q_Mo_row 3 rfl) (by decide) (by (have hB2 := hB.2.1; have hB4 := hB.2.2.2.1; omega)) (by (have hB2 := hB.2.1; have hB4 := hB.2.2.2.1; omega)) (fun c6 => ?_) (fun c6 => by exfalso; (have hB2 := hB.2.1; have hB4 := hB.2.2.2.1; omega))
  refine aw_iconst (v := nI 0) (aw_d q_Mo_row 6 rfl) (by decide) ?_
  refine aw_istore_n (aw_d q_Mo_row 7 rfl) rfl (aw_le rfl) rfl ?_
  exact AW.to (lp_Mo_row hB h24 6 0 (S.2 43) (by omega) (fun w hw => by omega) (fun j hj => rfl)) rfl rfl rfl rfl
set_option maxRecDepth 20000 in
theorem sp_Mo_rowF {g : aw_G} {S : aw_S} {nv nr : Nat} {nl : Nat → Nat} (hB : TmB S nv nr nl) (h24 : nr = 24) : Sp g M_Mo_row 0 0 0 0 [.ref 33] (HP S) (fun r h => r = some (.int (-3)) ∧ h = HP S) := by
  refine Sp.of rfl (aw_le rfl) ?_
  refine aw_aload_n (aw_d q_Mo_row 0 rfl) rfl rfl rfl ?_
  refine aw_getf (v := .int (nI (nr))) (aw_d q_Mo_row 1 rfl) fL_Mo_129_Mo rfl (gk hB.2.2.1) ?_
  refine aw_bipush (v := nI 24) (aw_d q_Mo_row 2 rfl) (by decide) ?_
  refine aw_icmpN_ne (tgt := 12) (aw_d q_Mo_row 3 rfl) (by decide) (by (have hB2 := hB.2.1; have hB4 := hB.2.2.2.1; omega)) (by (have hB2 := hB.2.1; have hB4 := hB.2.2.2.1; omega)) (fun c6 => by exfalso; (have hB2 := hB.2.1; have hB4 := hB.2.2.2.1; omega)) (fun c6 => ?_)
  refine aw_bipush (v := (-3)) (aw_d q_Mo_row 4 rfl) (by decide) ?_
  exact aw_iret (aw_d q_Mo_row 5 rfl) rfl (⟨rfl, rfl⟩)
set_option maxRecDepth 20000 in
theorem sp_Mo_valueB {g : aw_G} {S : aw_S} {nv nr : Nat} {nl : Nat → Nat} (hB : TmB S nv nr nl) {x y : Int32} (hno : ¬ ((0 ≤ x.toInt ∧ x.toInt < nr) ∧ 0 ≤ y.toInt ∧ y.toInt < nv)) : Sp g M_Mo_value 1 22 0 0 [.ref 33, .int x, .int y] (HP S) (fun r h => r = some (.int (-2)) ∧ h = HP S) := by
  refine Sp.of rfl (aw_le rfl) ?_
  refine aw_iload_n (aw_d q_Mo_value 0 rfl) rfl rfl ?_
  refine aw_iconst (v := nI 0) (aw_d q_Mo_value 1 rfl) (by decide) ?_
  refine aw_aload_n (aw_d q_Mo_value 2 rfl) rfl rfl rfl ?_
  refine aw_getf (v := .int (nI (nr))) (aw_d q_Mo_value 3 rfl) fL_Mo_129_Mo rfl (gk hB.2.2.1) ?_
  refine aw_iconst (v := nI 1) (aw_d q_Mo_value 4 rfl) (by decide) ?_
  refine aw_isub (aw_d q_Mo_value 5 rfl) ?_
  refine cSr (aw_d q_Mo_value 6 rfl) (sp_Mo_in (A := 0) (B := ((nr : Int) - 1)) (by decide) (dn_int (by (have hB2 := hB.2.1; have hB4 := hB.2.2.2.1; omega)))) sL_Mo_81 rfl rfl rfl rfl ⟨aw_le rfl, aw_le rfl⟩ ?_
  refine aw_ifB_eq (tgt := 42) (aw_d q_Mo_value 7 rfl) (by decide) (fun c11 => ?_) (fun c11 => ?_)
  · refine aw_bipush (v := (-2)) (aw_d q_Mo_value 25 rfl) (by decide) ?_
    exact aw_iret (aw_d q_Mo_value 26 rfl) rfl (⟨rfl, rfl⟩)
  · refine aw_iload_n (aw_d q_Mo_value 8 rfl) rfl rfl ?_
    refine aw_iconst (v := nI 0) (aw_d q_Mo_value 9 rfl) (by decide) ?_
    refine aw_aload_n (aw_d q_Mo_value 10 rfl) rfl rfl rfl ?_
    refine aw_getf (v := .int (nI (nv))) (aw_d q_Mo_value 11 rfl) fL_Mo_126_Mo rfl (gk hB.1) ?_
    refine aw_iconst (v := nI 1) (aw_d q_Mo_value 12 rfl) (by decide) ?_
    refine aw_isub (aw_d q_Mo_value 13 rfl) ?_
    refine cSr (aw_d q_Mo_value 14 rfl) (sp_Mo_in (A := 0) (B := ((nv : Int) - 1)) (by decide) (dn_int (by (have hB2 := hB.2.1; have hB4 := hB.2.2.2.1; omega)))) sL_Mo_81 rfl rfl rfl rfl ⟨aw_le rfl, aw_le rfl⟩ ?_
    refine aw_ifB_eq (tgt := 42) (aw_d q_Mo_value 15 rfl) (by decide) (fun c25 => ?_) (fun c25 => by omega)
    refine aw_bipush (v := (-2)) (aw_d q_Mo_value 25 rfl) (by decide) ?_
    exact aw_iret (aw_d q_Mo_value 26 rfl) rfl (⟨rfl, rfl⟩)
set_option maxRecDepth 20000 in
theorem sp_Mo_value {g : aw_G} {S : aw_S} {nv nr : Nat} {nl : Nat → Nat} (hB : TmB S nv nr nl) {a b : Nat} (ha : a < nr) (hb : b < nv) : Sp g M_Mo_value 1 22 0 0 [.ref 33, .int (nI a), .int (nI b)] (HP S) (fun r h => r = some (.int (S.2 43 (6 * a + b))) ∧ h = HP S) := by
  refine Sp.of rfl (aw_le rfl) ?_
  have hxa := nI_toInt (n := a) (by (have hB2 := hB.2.1; have hB4 := hB.2.2.2.1; omega))
  have hxb := nI_toInt (n := b) (by (have hB2 := hB.2.1; have hB4 := hB.2.2.2.1; omega))
  refine aw_iload_n (aw_d q_Mo_value 0 rfl) rfl rfl ?_
  refine aw_iconst (v := nI 0) (aw_d q_Mo_value 1 rfl) (by decide) ?_
  refine aw_aload_n (aw_d q_Mo_value 2 rfl) rfl rfl rfl ?_
  refine aw_getf (v := .int (nI (nr))) (aw_d q_Mo_value 3 rfl) fL_Mo_129_Mo rfl (gk hB.2.2.1) ?_
  refine aw_iconst (v := nI 1) (aw_d q_Mo_value 4 rfl) (by decide) ?_
  refine aw_isub (aw_d q_Mo_value 5 rfl) ?_
  refine cSr (aw_d q_Mo_value 6 rfl) (sp_Mo_in (A := 0) (B := ((nr : Int) - 1)) (by decide) (dn_int (by (have hB2 := hB.2.1; have hB4 := hB.2.2.2.1; omega)))) sL_Mo_81 rfl rfl rfl rfl ⟨aw_le rfl, aw_le rfl⟩ ?_
  refine aw_ifB_eq (tgt := 42) (aw_d q_Mo_value 7 rfl) (by decide) (fun c11 => by omega) (fun c11 => ?_)
  refine aw_iload_n (aw_d q_Mo_value 8 rfl) rfl rfl ?_
  refine aw_iconst (v := nI 0) (aw_d q_Mo_value 9 rfl) (by decide) ?_
  refine aw_aload_n (aw_d q_Mo_value 10 rfl) rfl rfl rfl ?_
  refine aw_getf (v := .int (nI (nv))) (aw_d q_Mo_value 11 rfl) fL_Mo_126_Mo rfl (gk hB.1) ?_
  refine aw_iconst (v := nI 1) (aw_d q_Mo_value 12 rfl) (by decide) ?_
  refine aw_isub (aw_d q_Mo_value 13 rfl) ?_
  refine cSr (aw_d q_Mo_value 14 rfl) (sp_Mo_in (A := 0) (B := ((nv : Int) - 1)) (by decide) (dn_int (by (have hB2 := hB.2.1; have hB4 := hB.2.2.2.1; omega)))) sL_Mo_81 rfl rfl rfl rfl ⟨aw_le rfl, aw_le rfl⟩ ?_
  refine aw_ifB_eq (tgt := 42) (aw_d q_Mo_value 15 rfl) (by decide) (fun c25 => by omega) (fun c25 => ?_)
  refine aw_aload_n (aw_d q_Mo_value 16 rfl) rfl rfl rfl ?_
  refine aw_getf (aw_d q_Mo_value 17 rfl) fL_Mo_37_Mo rfl rfl ?_
  refine aw_bipush (v := nI 6) (aw_d q_Mo_value 18 rfl) (by decide) ?_
  refine aw_iload_n (aw_d q_Mo_value 19 rfl) rfl rfl ?_
  refine aw_imulN (aw_d q_Mo_value 20 rfl) ?_
  refine aw_iload_n (aw_d q_Mo_value 21 rfl) rfl rfl ?_
  refine aw_iaddN (aw_d q_Mo_value 22 rfl) ?_
  refine aw_ialdN (aw_d q_Mo_value 23 rfl) rfl (by (have hB2 := hB.2.1; have hB4 := hB.2.2.2.1; omega)) rfl ?_
  refine aw_goto (tgt := 44) (aw_d q_Mo_value 24 rfl) (by decide) ?_
  exact aw_iret (aw_d q_Mo_value 26 rfl) rfl (⟨rfl, rfl⟩)
set_option maxRecDepth 20000 in
theorem sp_Mo_putB {g : aw_G} {S : aw_S} {nv nr : Nat} {nl : Nat → Nat} (hB : TmB S nv nr nl) {nt : Nat} {tl : Nat → Nat} (hT : TmI S nt tl) {x y z : Int32} (hno : ¬ (((0 ≤ x.toInt ∧ x.toInt < nr) ∧ 0 ≤ y.toInt ∧ y.toInt < nv) ∧ (z.toInt = -1 ∨ (0 ≤ z.toInt ∧ z.toInt < nt)))) : Sp g M_Mo_put 1 22 0 0 [.ref 33, .int x, .int y, .int z] (HP S) (fun r h => r = some (.int (-1)) ∧ h = HP S) := by
  refine Sp.of rfl (aw_le rfl) ?_
  refine aw_iload_n (aw_d q_Mo_put 0 rfl) rfl rfl ?_
  refine aw_iconst (v := nI 0) (aw_d q_Mo_put 1 rfl) (by decide) ?_
  refine aw_aload_n (aw_d q_Mo_put 2 rfl) rfl rfl rfl ?_
  refine aw_getf (v := .int (nI (nr))) (aw_d q_Mo_put 3 rfl) fL_Mo_129_Mo rfl (gk hB.2.2.1) ?_
  refine aw_iconst (v := nI 1) (aw_d q_Mo_put 4 rfl) (by decide) ?_
  refine aw_isub (aw_d q_Mo_put 5 rfl) ?_
  refine cSr (aw_d q_Mo_put 6 rfl) (sp_Mo_in (A := 0) (B := ((nr : Int) - 1)) (by decide) (dn_int (by (have hB2 := hB.2.1; have hB4 := hB.2.2.2.1; omega)))) sL_Mo_81 rfl rfl rfl rfl ⟨aw_le rfl, aw_le rfl⟩ ?_
  refine aw_ifB_eq (tgt := 42) (aw_d q_Mo_put 7 rfl) (by decide) (fun c11 => ?_) (fun c11 => ?_)
  · refine aw_iconst (v := (-1)) (aw_d q_Mo_put 24 rfl) (by decide) ?_
    exact aw_iret (aw_d q_Mo_put 25 rfl) rfl (⟨rfl, rfl⟩)
  · refine aw_iload_n (aw_d q_Mo_put 8 rfl) rfl rfl ?_
    refine aw_iconst (v := nI 0) (aw_d q_Mo_put 9 rfl) (by decide) ?_
    refine aw_aload_n (aw_d q_Mo_put 10 rfl) rfl rfl rfl ?_
    refine aw_getf (v := .int (nI (nv))) (aw_d q_Mo_put 11 rfl) fL_Mo_126_Mo rfl (gk hB.1) ?_
    refine aw_iconst (v := nI 1) (aw_d q_Mo_put 12 rfl) (by decide) ?_
    refine aw_isub (aw_d q_Mo_put 13 rfl) ?_
    refine cSr (aw_d q_Mo_put 14 rfl) (sp_Mo_in (A := 0) (B := ((nv : Int) - 1)) (by decide) (dn_int (by (have hB2 := hB.2.1; have hB4 := hB.2.2.2.1; omega)))) sL_Mo_81 rfl rfl rfl rfl ⟨aw_le rfl, aw_le rfl⟩ ?_
    refine aw_ifB_eq (tgt := 42) (aw_d q_Mo_put 15 rfl) (by decide) (fun c25 => ?_) (fun c25 => ?_)
    · refine aw_iconst (v := (-1)) (aw_d q_Mo_put 24 rfl) (by decide) ?_
      exact aw_iret (aw_d q_Mo_put 25 rfl) rfl (⟨rfl, rfl⟩)
    · refine aw_iload_n (aw_d q_Mo_put 16 rfl) rfl rfl ?_
      refine aw_iconst (v := (-1)) (aw_d q_Mo_put 17 rfl) (by decide) ?_
      refine aw_aload_n (aw_d q_Mo_put 18 rfl) rfl rfl rfl ?_
      refine aw_getf (v := .int (nI (nt))) (aw_d q_Mo_put 19 rfl) fL_Mo_109_Mo rfl (gk hT.1) ?_
      refine aw_iconst (v := nI 1) (aw_d q_Mo_put 20 rfl) (by decide) ?_
      refine aw_isub (aw_d q_Mo_put 21 rfl) ?_
      refine cSr (aw_d q_Mo_put 22 rfl) (sp_Mo_in (A := -1) (B := ((nt : Int) - 1)) (by decide) (dn_int (by (have hB2 := hB.2.1; have hB4 := hB.2.2.2.1; have hT2 := hT.2.1; omega)))) sL_Mo_81 rfl rfl rfl rfl ⟨aw_le rfl, aw_le rfl⟩ ?_
      refine aw_ifB_ne (tgt := 44) (aw_d q_Mo_put 23 rfl) (by decide) (fun c39 => by omega) (fun c39 => ?_)
      refine aw_iconst (v := (-1)) (aw_d q_Mo_put 24 rfl) (by decide) ?_
      exact aw_iret (aw_d q_Mo_put 25 rfl) rfl (⟨rfl, rfl⟩)
set_option maxRecDepth 20000 in
theorem sp_Mo_putS {g : aw_G} {S : aw_S} {nv nr : Nat} {nl : Nat → Nat} (hB : TmB S nv nr nl) {nt : Nat} {tl : Nat → Nat} (hT : TmI S nt tl) {a b : Nat} {z : Int32} (ha : a < nr) (hb : b < nv) (hz : z.toInt = -1 ∨ (0 ≤ z.toInt ∧ z.toInt < nt)) (hc : S.2 43 (6 * a + b) = z) : Sp g M_Mo_put 1 22 0 0 [.ref 33, .int (nI a), .int (nI b), .int z] (HP S) (fun r h => r = some (.int (nI 0)) ∧ h = HP (sa S 43 (upd (S.2 43) (6 * a + b) z))) := by
  refine Sp.of rfl (aw_le rfl) ?_
  have hxa := nI_toInt (n := a) (by (have hB2 := hB.2.1; have hB4 := hB.2.2.2.1; omega))
  have hxb := nI_toInt (n := b) (by (have hB2 := hB.2.1; have hB4 := hB.2.2.2.1; omega))
  refine aw_iload_n (aw_d q_Mo_put 0 rfl) rfl rfl ?_
  refine aw_iconst (v := nI 0) (aw_d q_Mo_put 1 rfl) (by decide) ?_
  refine aw_aload_n (aw_d q_Mo_put 2 rfl) rfl rfl rfl ?_
  refine aw_getf (v := .int (nI (nr))) (aw_d q_Mo_put 3 rfl) fL_Mo_129_Mo rfl (gk hB.2.2.1) ?_
  refine aw_iconst (v := nI 1) (aw_d q_Mo_put 4 rfl) (by decide) ?_
  refine aw_isub (aw_d q_Mo_put 5 rfl) ?_
  refine cSr (aw_d q_Mo_put 6 rfl) (sp_Mo_in (A := 0) (B := ((nr : Int) - 1)) (by decide) (dn_int (by (have hB2 := hB.2.1; have hB4 := hB.2.2.2.1; omega)))) sL_Mo_81 rfl rfl rfl rfl ⟨aw_le rfl, aw_le rfl⟩ ?_
  refine aw_ifB_eq (tgt := 42) (aw_d q_Mo_put 7 rfl) (by decide) (fun c11 => by omega) (fun c11 => ?_)
  refine aw_iload_n (aw_d q_Mo_put 8 rfl) rfl rfl ?_
  refine aw_iconst (v := nI 0) (aw_d q_Mo_put 9 rfl) (by decide) ?_
  refine aw_aload_n (aw_d q_Mo_put 10 rfl) rfl rfl rfl ?_
  refine aw_getf (v := .int (nI (nv))) (aw_d q_Mo_put 11 rfl) fL_Mo_126_Mo rfl (gk hB.1) ?_
  refine aw_iconst (v := nI 1) (aw_d q_Mo_put 12 rfl) (by decide) ?_
  refine aw_isub (aw_d q_Mo_put 13 rfl) ?_
  refine cSr (aw_d q_Mo_put 14 rfl) (sp_Mo_in (A := 0) (B := ((nv : Int) - 1)) (by decide) (dn_int (by (have hB2 := hB.2.1; have hB4 := hB.2.2.2.1; omega)))) sL_Mo_81 rfl rfl rfl rfl ⟨aw_le rfl, aw_le rfl⟩ ?_
  refine aw_ifB_eq (tgt := 42) (aw_d q_Mo_put 15 rfl) (by decide) (fun c25 => by omega) (fun c25 => ?_)
  refine aw_iload_n (aw_d q_Mo_put 16 rfl) rfl rfl ?_
  refine aw_iconst (v := (-1)) (aw_d q_Mo_put 17 rfl) (by decide) ?_
  refine aw_aload_n (aw_d q_Mo_put 18 rfl) rfl rfl rfl ?_
  refine aw_getf (v := .int (nI (nt))) (aw_d q_Mo_put 19 rfl) fL_Mo_109_Mo rfl (gk hT.1) ?_
  refine aw_iconst (v := nI 1) (aw_d q_Mo_put 20 rfl) (by decide) ?_
  refine aw_isub (aw_d q_Mo_put 21 rfl) ?_
  refine cSr (aw_d q_Mo_put 22 rfl) (sp_Mo_in (A := -1) (B := ((nt : Int) - 1)) (by decide) (dn_int (by (have hB2 := hB.2.1; have hB4 := hB.2.2.2.1; have hT2 := hT.2.1; omega)))) sL_Mo_81 rfl rfl rfl rfl ⟨aw_le rfl, aw_le rfl⟩ ?_
  refine aw_ifB_ne (tgt := 44) (aw_d q_Mo_put 23 rfl) (by decide) (fun c39 => ?_) (fun c39 => by omega)
  refine aw_aload_n (aw_d q_Mo_put 26 rfl) rfl rfl rfl ?_
  refine aw_getf (aw_d q_Mo_put 27 rfl) fL_Mo_37_Mo rfl rfl ?_
  refine aw_bipush (v := nI 6) (aw_d q_Mo_put 28 rfl) (by decide) ?_
  refine aw_iload_n (aw_d q_Mo_put 29 rfl) rfl rfl ?_
  refine aw_imulN (aw_d q_Mo_put 30 rfl) ?_
  refine aw_iload_n (aw_d q_Mo_put 31 rfl) rfl rfl ?_
  refine aw_iaddN (aw_d q_Mo_put 32 rfl) ?_
  refine aw_ialdN (aw_d q_Mo_put 33 rfl) rfl (by (have hB2 := hB.2.1; have hB4 := hB.2.2.2.1; have hT2 := hT.2.1; omega)) rfl ?_
  refine aw_iload_n (aw_d q_Mo_put 34 rfl) rfl rfl ?_
  refine aw_icmpZ_ne (tgt := 63) (aw_d q_Mo_put 35 rfl) (by decide) (fun c56 => by exact absurd (by rw [hc]) c56) (fun c56 => ?_)
  refine aw_iconst (v := nI 1) (aw_d q_Mo_put 36 rfl) (by decide) ?_
  refine aw_goto (tgt := 64) (aw_d q_Mo_put 37 rfl) (by decide) ?_
  refine aw_istore (aw_d q_Mo_put 39 rfl) (aw_le rfl) rfl ?_
  refine aw_aload_n (aw_d q_Mo_put 40 rfl) rfl rfl rfl ?_
  refine aw_getf (aw_d q_Mo_put 41 rfl) fL_Mo_37_Mo rfl rfl ?_
  refine aw_bipush (v := nI 6) (aw_d q_Mo_put 42 rfl) (by decide) ?_
  refine aw_iload_n (aw_d q_Mo_put 43 rfl) rfl rfl ?_
  refine aw_imulN (aw_d q_Mo_put 44 rfl) ?_
  refine aw_iload_n (aw_d q_Mo_put 45 rfl) rfl rfl ?_
  refine aw_iaddN (aw_d q_Mo_put 46 rfl) ?_
  refine aw_iload_n (aw_d q_Mo_put 47 rfl) rfl rfl ?_
  refine wn_43 (aw_d q_Mo_put 48 rfl) (by (have hB2 := hB.2.1; have hB4 := hB.2.2.2.1; have hT2 := hT.2.1; omega)) ?_
  refine aw_iload (aw_d q_Mo_put 49 rfl) rfl ?_
  refine aw_ifN_eq (tgt := 87) (aw_d q_Mo_put 50 rfl) (by decide) (by (have hB2 := hB.2.1; have hB4 := hB.2.2.2.1; have hT2 := hT.2.1; omega)) (fun c80 => by exfalso; (have hB2 := hB.2.1; have hB4 := hB.2.2.2.1; have hT2 := hT.2.1; omega)) (fun c80 => ?_)
  refine aw_iconst (v := nI 0) (aw_d q_Mo_put 51 rfl) (by decide) ?_
  refine aw_goto (tgt := 88) (aw_d q_Mo_put 52 rfl) (by decide) ?_
  exact aw_iret (aw_d q_Mo_put 54 rfl) rfl (⟨rfl, rfl⟩)
set_option maxRecDepth 20000 in
theorem sp_Mo_putD {g : aw_G} {S : aw_S} {nv nr : Nat} {nl : Nat → Nat} (hB : TmB S nv nr nl) {nt : Nat} {tl : Nat → Nat} (hT : TmI S nt tl) {a b : Nat} {z : Int32} (ha : a < nr) (hb : b < nv) (hz : z.toInt = -1 ∨ (0 ≤ z.toInt ∧ z.toInt < nt)) (hc : S.2 43 (6 * a + b) ≠ z) : Sp g M_Mo_put 1 22 0 0 [.ref 33, .int (nI a), .int (nI b), .int z] (HP S) (fun r h => r = some (.int (nI 1)) ∧ h = HP (sa S 43 (upd (S.2 43) (6 * a + b) z))) := by
  refine Sp.of rfl (aw_le rfl) ?_
  have hxa := nI_toInt (n := a) (by (have hB2 := hB.2.1; have hB4 := hB.2.2.2.1; omega))
  have hxb := nI_toInt (n := b) (by (have hB2 := hB.2.1; have hB4 := hB.2.2.2.1; omega))
  refine aw_iload_n (aw_d q_Mo_put 0 rfl) rfl rfl ?_
  refine aw_iconst (v := nI 0) (aw_d q_Mo_put 1 rfl) (by decide) ?_
  refine aw_aload_n (aw_d q_Mo_put 2 rfl) rfl rfl rfl ?_
  refine aw_getf (v := .int (nI (nr))) (aw_d q_Mo_put 3 rfl) fL_Mo_129_Mo rfl (gk hB.2.2.1) ?_
  refine aw_iconst (v := nI 1) (aw_d q_Mo_put 4 rfl) (by decide) ?_
  refine aw_isub (aw_d q_Mo_put 5 rfl) ?_
  refine cSr (aw_d q_Mo_put 6 rfl) (sp_Mo_in (A := 0) (B := ((nr : Int) - 1)) (by decide) (dn_int (by (have hB2 := hB.2.1; have hB4 := hB.2.2.2.1; omega)))) sL_Mo_81 rfl rfl rfl rfl ⟨aw_le rfl, aw_le rfl⟩ ?_
  refine aw_ifB_eq (tgt := 42) (aw_d q_Mo_put 7 rfl) (by decide) (fun c11 => by omega) (fun c11 => ?_)
  refine aw_iload_n (aw_d q_Mo_put 8 rfl) rfl rfl ?_
  refine aw_iconst (v := nI 0) (aw_d q_Mo_put 9 rfl) (by decide) ?_
  refine aw_aload_n (aw_d q_Mo_put 10 rfl) rfl rfl rfl ?_
  refine aw_getf (v := .int (nI (nv))) (aw_d q_Mo_put 11 rfl) fL_Mo_126_Mo rfl (gk hB.1) ?_
  refine aw_iconst (v := nI 1) (aw_d q_Mo_put 12 rfl) (by decide) ?_
  refine aw_isub (aw_d q_Mo_put 13 rfl) ?_
  refine cSr (aw_d q_Mo_put 14 rfl) (sp_Mo_in (A := 0) (B := ((nv : Int) - 1)) (by decide) (dn_int (by (have hB2 := hB.2.1; have hB4 := hB.2.2.2.1; omega)))) sL_Mo_81 rfl rfl rfl rfl ⟨aw_le rfl, aw_le rfl⟩ ?_
  refine aw_ifB_eq (tgt := 42) (aw_d q_Mo_put 15 rfl) (by decide) (fun c25 => by omega) (fun c25 => ?_)
  refine aw_iload_n (aw_d q_Mo_put 16 rfl) rfl rfl ?_
  refine aw_iconst (v := (-1)) (aw_d q_Mo_put 17 rfl) (by decide) ?_
  refine aw_aload_n (aw_d q_Mo_put 18 rfl) rfl rfl rfl ?_
  refine aw_getf (v := .int (nI (nt))) (aw_d q_Mo_put 19 rfl) fL_Mo_109_Mo rfl (gk hT.1) ?_
  refine aw_iconst (v := nI 1) (aw_d q_Mo_put 20 rfl) (by decide) ?_
  refine aw_isub (aw_d q_Mo_put 21 rfl) ?_
  refine cSr (aw_d q_Mo_put 22 rfl) (sp_Mo_in (A := -1) (B := ((nt : Int) - 1)) (by decide) (dn_int (by (have hB2 := hB.2.1; have hB4 := hB.2.2.2.1; have hT2 := hT.2.1; omega)))) sL_Mo_81 rfl rfl rfl rfl ⟨aw_le rfl, aw_le rfl⟩ ?_
  refine aw_ifB_ne (tgt := 44) (aw_d q_Mo_put 23 rfl) (by decide) (fun c39 => ?_) (fun c39 => by omega)
  refine aw_aload_n (aw_d q_Mo_put 26 rfl) rfl rfl rfl ?_
  refine aw_getf (aw_d q_Mo_put 27 rfl) fL_Mo_37_Mo rfl rfl ?_
  refine aw_bipush (v := nI 6) (aw_d q_Mo_put 28 rfl) (by decide) ?_
  refine aw_iload_n (aw_d q_Mo_put 29 rfl) rfl rfl ?_
  refine aw_imulN (aw_d q_Mo_put 30 rfl) ?_
  refine aw_iload_n (aw_d q_Mo_put 31 rfl) rfl rfl ?_
  refine aw_iaddN (aw_d q_Mo_put 32 rfl) ?_
  refine aw_ialdN (aw_d q_Mo_put 33 rfl) rfl (by (have hB2 := hB.2.1; have hB4 := hB.2.2.2.1; have hT2 := hT.2.1; omega)) rfl ?_
  refine aw_iload_n (aw_d q_Mo_put 34 rfl) rfl rfl ?_
  refine aw_icmpZ_ne (tgt := 63) (aw_d q_Mo_put 35 rfl) (by decide) (fun c56 => ?_) (fun c56 => by exact absurd (Int32.toInt_inj.mp c56) hc)
  refine aw_iconst (v := nI 0) (aw_d q_Mo_put 38 rfl) (by decide) ?_
  refine aw_istore (aw_d q_Mo_put 39 rfl) (aw_le rfl) rfl ?_
  refine aw_aload_n (aw_d q_Mo_put 40 rfl) rfl rfl rfl ?_
  refine aw_getf (aw_d q_Mo_put 41 rfl) fL_Mo_37_Mo rfl rfl ?_
  refine aw_bipush (v := nI 6) (aw_d q_Mo_put 42 rfl) (by decide) ?_
  refine aw_iload_n (aw_d q_Mo_put 43 rfl) rfl rfl ?_
  refine aw_imulN (aw_d q_Mo_put 44 rfl) ?_
  refine aw_iload_n (aw_d q_Mo_put 45 rfl) rfl rfl ?_
  refine aw_iaddN (aw_d q_Mo_put 46 rfl) ?_
  refine aw_iload_n (aw_d q_Mo_put 47 rfl) rfl rfl ?_
  refine wn_43 (aw_d q_Mo_put 48 rfl) (by (have hB2 := hB.2.1; have hB4 := hB.2.2.2.1; have hT2 := hT.2.1; omega)) ?_
  refine aw_iload (aw_d q_Mo_put 49 rfl) rfl ?_
  refine aw_ifN_eq (tgt := 87) (aw_d q_Mo_put 50 rfl) (by decide) (by (have hB2 := hB.2.1; have hB4 := hB.2.2.2.1; have hT2 := hT.2.1; omega)) (fun c80 => ?_) (fun c80 => by exfalso; (have hB2 := hB.2.1; have hB4 := hB.2.2.2.1; have hT2 := hT.2.1; omega))
  refine aw_iconst (v := nI 1) (aw_d q_Mo_put 53 rfl) (by decide) ?_
  exact aw_iret (aw_d q_Mo_put 54 rfl) rfl (⟨rfl, rfl⟩)
