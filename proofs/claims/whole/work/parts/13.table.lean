/-- how many of the m numbers from k on p holds of -/
def cnB (p : Nat → Bool) : Nat → Nat → Nat
  | 0, _ => 0
  | m + 1, k => (if p k then 1 else 0) + cnB p m (k + 1)
theorem cnB_le (p : Nat → Bool) : ∀ m k, cnB p m k ≤ m := by
  intro m
  induction m with
  | zero => intro k; exact Nat.le_refl _
  | succ m ih => intro k; simp only [cnB]; have := ih (k + 1); split <;> omega
theorem cnB_congr {p q : Nat → Bool} : ∀ {m k : Nat}, (∀ i, k ≤ i → i < k + m → p i = q i) → cnB p m k = cnB q m k := by
  intro m
  induction m with
  | zero => intro k _; rfl
  | succ m ih =>
    intro k h
    simp only [cnB]
    rw [h k (by omega) (by omega), ih (fun i h1 h2 => h i (by omega) (by omega))]
/-- variable v of these arrays has the name f, of n bytes -/
def nmB (NL NB : Nat → Int32) (n : Nat) (f : Nat → Int32) (v : Nat) : Bool := decide (NL v = nI n) && eqB (fun i => NB (v * 8 + i)) f n 0
/-- row r of these cells is like row s of those -/
def rwB (C D : Nat → Int32) (nv r s : Nat) : Bool := eqB (fun v => C (r * 6 + v)) (fun v => D (s * 6 + v)) nv 0
/-- the names of two tables of nv variables -/
def nsB (NL NB ML MB : Nat → Int32) : Nat → Nat → Bool
  | 0, _ => true
  | m + 1, v => decide (NL v = ML v) && (eqB (fun i => NB (v * 8 + i)) (fun i => MB (v * 8 + i)) (NL v).toNatClampNeg 0 && nsB NL NB ML MB m (v + 1))
/-- table 14: variables, rows, how long the names are -/
def TbI_14 (S : aw_S) (nv nr : Nat) (nl : Nat → Nat) : Prop := S.1 1403 = nI nv ∧ nv ≤ 6 ∧ S.1 1404 = nI nr ∧ nr ≤ 24 ∧ ∀ v, v < nv → S.2 16 v = nI (nl v) ∧ nl v ≤ 8
/-- table 18: variables, rows, how long the names are -/
def TbI_18 (S : aw_S) (nv nr : Nat) (nl : Nat → Nat) : Prop := S.1 1803 = nI nv ∧ nv ≤ 6 ∧ S.1 1804 = nI nr ∧ nr ≤ 24 ∧ ∀ v, v < nv → S.2 20 v = nI (nl v) ∧ nl v ≤ 8
/-- table 22: variables, rows, how long the names are -/
def TbI_22 (S : aw_S) (nv nr : Nat) (nl : Nat → Nat) : Prop := S.1 2203 = nI nv ∧ nv ≤ 6 ∧ S.1 2204 = nI nr ∧ nr ≤ 24 ∧ ∀ v, v < nv → S.2 24 v = nI (nl v) ∧ nl v ≤ 8
set_option maxRecDepth 20000 in
theorem sp_Tb_inRoom {g : aw_G} {h : aw_hp} {r v : Nat} (hr : r < 24) (hv : v < 6) : Sp g M_Tb_inRoom 0 0 0 0 [.int (nI r), .int (nI v)] (h) (fun x h1 => x = some (.int (nI 1)) ∧ h1 = h) := by
  refine Sp.of rfl (aw_le rfl) ?_
  refine aw_iload_n (aw_d q_Tb_inRoom 0 rfl) rfl rfl ?_
  refine aw_ifN_lt (tgt := 24) (aw_d q_Tb_inRoom 1 rfl) (by decide) (by omega) (fun c1 => by exfalso; omega) (fun c1 => ?_)
  refine aw_iload_n (aw_d q_Tb_inRoom 2 rfl) rfl rfl ?_
  refine aw_bipush (v := nI 24) (aw_d q_Tb_inRoom 3 rfl) (by decide) ?_
  refine aw_icmpN_ge (tgt := 24) (aw_d q_Tb_inRoom 4 rfl) (by decide) (by omega) (by omega) (fun c7 => by exfalso; omega) (fun c7 => ?_)
  refine aw_iload_n (aw_d q_Tb_inRoom 5 rfl) rfl rfl ?_
  refine aw_ifN_lt (tgt := 24) (aw_d q_Tb_inRoom 6 rfl) (by decide) (by omega) (fun c11 => by exfalso; omega) (fun c11 => ?_)
  refine aw_iload_n (aw_d q_Tb_inRoom 7 rfl) rfl rfl ?_
  refine aw_bipush (v := nI 6) (aw_d q_Tb_inRoom 8 rfl) (by decide) ?_
  refine aw_icmpN_ge (tgt := 24) (aw_d q_Tb_inRoom 9 rfl) (by decide) (by omega) (by omega) (fun c17 => by exfalso; omega) (fun c17 => ?_)
  refine aw_iconst (v := nI 1) (aw_d q_Tb_inRoom 10 rfl) (by decide) ?_
  refine aw_goto (tgt := 25) (aw_d q_Tb_inRoom 11 rfl) (by decide) ?_
  exact aw_zret (aw_d q_Tb_inRoom 13 rfl) rfl (rfl) (⟨rfl, rfl⟩)
set_option maxRecDepth 20000 in
theorem sp_Tb_lengthOfName_14 {g : aw_G} {S : aw_S} {nv nr : Nat} {nl : Nat → Nat} (hB : TbI_14 S nv nr nl) {v : Nat} (hv : v < nv) : Sp g M_Tb_lengthOfName 0 0 0 0 [.ref 14, .int (nI v)] (HP S) (fun r h => r = some (.int (nI (nl v))) ∧ h = HP S) := by
  refine Sp.of rfl (aw_le rfl) ?_
  refine aw_iload_n (aw_d q_Tb_lengthOfName 0 rfl) rfl rfl ?_
  refine aw_ifN_lt (tgt := 19) (aw_d q_Tb_lengthOfName 1 rfl) (by decide) (by (have hB2 := hB.2.1; have hB4 := hB.2.2.2.1; omega)) (fun c1 => by exfalso; (have hB2 := hB.2.1; have hB4 := hB.2.2.2.1; omega)) (fun c1 => ?_)
  refine aw_iload_n (aw_d q_Tb_lengthOfName 2 rfl) rfl rfl ?_
  refine aw_bipush (v := nI 6) (aw_d q_Tb_lengthOfName 3 rfl) (by decide) ?_
  refine aw_icmpN_ge (tgt := 19) (aw_d q_Tb_lengthOfName 4 rfl) (by decide) (by (have hB2 := hB.2.1; have hB4 := hB.2.2.2.1; omega)) (by (have hB2 := hB.2.1; have hB4 := hB.2.2.2.1; omega)) (fun c7 => by exfalso; (have hB2 := hB.2.1; have hB4 := hB.2.2.2.1; omega)) (fun c7 => ?_)
  refine aw_aload_n (aw_d q_Tb_lengthOfName 5 rfl) rfl rfl rfl ?_
  refine aw_getf (aw_d q_Tb_lengthOfName 6 rfl) fL_Tb_15_Tb rfl rfl ?_
  refine aw_iload_n (aw_d q_Tb_lengthOfName 7 rfl) rfl rfl ?_
  refine aw_ialdK (w := nI (nl v)) (aw_d q_Tb_lengthOfName 8 rfl) rfl (by (have hB2 := hB.2.1; have hB4 := hB.2.2.2.1; omega)) rfl ((hB.2.2.2.2 v hv).1) ?_
  refine aw_goto (tgt := 20) (aw_d q_Tb_lengthOfName 9 rfl) (by decide) ?_
  exact aw_iret (aw_d q_Tb_lengthOfName 11 rfl) rfl (⟨rfl, rfl⟩)
set_option maxRecDepth 20000 in
theorem sp_Tb_byteOfName_14 {g : aw_G} {S : aw_S} {nv nr : Nat} {nl : Nat → Nat} (hB : TbI_14 S nv nr nl) {v : Nat} (hv : v < nv) {k : Nat} (hk : k < nl v) : Sp g M_Tb_byteOfName 0 0 0 0 [.ref 14, .int (nI v), .int (nI k)] (HP S) (fun r h => r = some (.int (S.2 15 (v * 8 + k))) ∧ h = HP S) := by
  refine Sp.of rfl (aw_le rfl) ?_
  refine aw_iload_n (aw_d q_Tb_byteOfName 0 rfl) rfl rfl ?_
  refine aw_ifN_lt (tgt := 10) (aw_d q_Tb_byteOfName 1 rfl) (by decide) (by (have hB2 := hB.2.1; have hB4 := hB.2.2.2.1; have hB5 := (hB.2.2.2.2 v hv).2; omega)) (fun c1 => by exfalso; (have hB2 := hB.2.1; have hB4 := hB.2.2.2.1; have hB5 := (hB.2.2.2.2 v hv).2; omega)) (fun c1 => ?_)
  refine aw_iload_n (aw_d q_Tb_byteOfName 2 rfl) rfl rfl ?_
  refine aw_bipush (v := nI 6) (aw_d q_Tb_byteOfName 3 rfl) (by decide) ?_
  refine aw_icmpN_lt (tgt := 12) (aw_d q_Tb_byteOfName 4 rfl) (by decide) (by (have hB2 := hB.2.1; have hB4 := hB.2.2.2.1; have hB5 := (hB.2.2.2.2 v hv).2; omega)) (by (have hB2 := hB.2.1; have hB4 := hB.2.2.2.1; have hB5 := (hB.2.2.2.2 v hv).2; omega)) (fun c7 => ?_) (fun c7 => by exfalso; (have hB2 := hB.2.1; have hB4 := hB.2.2.2.1; have hB5 := (hB.2.2.2.2 v hv).2; omega))
  refine aw_iload_n (aw_d q_Tb_byteOfName 7 rfl) rfl rfl ?_
  refine aw_ifN_lt (tgt := 46) (aw_d q_Tb_byteOfName 8 rfl) (by decide) (by (have hB2 := hB.2.1; have hB4 := hB.2.2.2.1; have hB5 := (hB.2.2.2.2 v hv).2; omega)) (fun c13 => by exfalso; (have hB2 := hB.2.1; have hB4 := hB.2.2.2.1; have hB5 := (hB.2.2.2.2 v hv).2; omega)) (fun c13 => ?_)
  refine aw_iload_n (aw_d q_Tb_byteOfName 9 rfl) rfl rfl ?_
  refine aw_aload_n (aw_d q_Tb_byteOfName 10 rfl) rfl rfl rfl ?_
  refine aw_getf (aw_d q_Tb_byteOfName 11 rfl) fL_Tb_15_Tb rfl rfl ?_
  refine aw_iload_n (aw_d q_Tb_byteOfName 12 rfl) rfl rfl ?_
  refine aw_ialdK (w := nI (nl v)) (aw_d q_Tb_byteOfName 13 rfl) rfl (by (have hB2 := hB.2.1; have hB4 := hB.2.2.2.1; have hB5 := (hB.2.2.2.2 v hv).2; omega)) rfl ((hB.2.2.2.2 v hv).1) ?_
  refine aw_icmpN_ge (tgt := 46) (aw_d q_Tb_byteOfName 14 rfl) (by decide) (by (have hB2 := hB.2.1; have hB4 := hB.2.2.2.1; have hB5 := (hB.2.2.2.2 v hv).2; omega)) (by (have hB2 := hB.2.1; have hB4 := hB.2.2.2.1; have hB5 := (hB.2.2.2.2 v hv).2; omega)) (fun c23 => by exfalso; (have hB2 := hB.2.1; have hB4 := hB.2.2.2.1; have hB5 := (hB.2.2.2.2 v hv).2; omega)) (fun c23 => ?_)
  refine aw_iload_n (aw_d q_Tb_byteOfName 15 rfl) rfl rfl ?_
  refine aw_bipush (v := nI 8) (aw_d q_Tb_byteOfName 16 rfl) (by decide) ?_
  refine aw_icmpN_ge (tgt := 46) (aw_d q_Tb_byteOfName 17 rfl) (by decide) (by (have hB2 := hB.2.1; have hB4 := hB.2.2.2.1; have hB5 := (hB.2.2.2.2 v hv).2; omega)) (by (have hB2 := hB.2.1; have hB4 := hB.2.2.2.1; have hB5 := (hB.2.2.2.2 v hv).2; omega)) (fun c29 => by exfalso; (have hB2 := hB.2.1; have hB4 := hB.2.2.2.1; have hB5 := (hB.2.2.2.2 v hv).2; omega)) (fun c29 => ?_)
  refine aw_aload_n (aw_d q_Tb_byteOfName 18 rfl) rfl rfl rfl ?_
  refine aw_getf (aw_d q_Tb_byteOfName 19 rfl) fL_Tb_9_Tb rfl rfl ?_
  refine aw_iload_n (aw_d q_Tb_byteOfName 20 rfl) rfl rfl ?_
  refine aw_bipush (v := nI 8) (aw_d q_Tb_byteOfName 21 rfl) (by decide) ?_
  refine aw_imulN (aw_d q_Tb_byteOfName 22 rfl) ?_
  refine aw_iload_n (aw_d q_Tb_byteOfName 23 rfl) rfl rfl ?_
  refine aw_iaddN (aw_d q_Tb_byteOfName 24 rfl) ?_
  refine aw_ialdN (aw_d q_Tb_byteOfName 25 rfl) rfl (by (have hB2 := hB.2.1; have hB4 := hB.2.2.2.1; have hB5 := (hB.2.2.2.2 v hv).2; omega)) rfl ?_
  refine aw_goto (tgt := 47) (aw_d q_Tb_byteOfName 26 rfl) (by decide) ?_
  exact aw_iret (aw_d q_Tb_byteOfName 28 rfl) rfl (⟨rfl, rfl⟩)
set_option maxRecDepth 20000 in
theorem sp_Tb_cell_14 {g : aw_G} {S : aw_S} {r v : Nat} (hr : r < 24) (hv : v < 6) : Sp g M_Tb_cell 1 21 0 0 [.ref 14, .int (nI r), .int (nI v)] (HP S) (fun x h => x = some (.int (S.2 17 (r * 6 + v))) ∧ h = HP S) := by
  refine Sp.of rfl (aw_le rfl) ?_
  refine aw_iload_n (aw_d q_Tb_cell 0 rfl) rfl rfl ?_
  refine aw_iload_n (aw_d q_Tb_cell 1 rfl) rfl rfl ?_
  refine cSr (aw_d q_Tb_cell 2 rfl) (sp_Tb_inRoom hr hv) sL_Tb_57 rfl rfl rfl rfl ⟨aw_le rfl, aw_le rfl⟩ ?_
  refine aw_ifN_eq (tgt := 22) (aw_d q_Tb_cell 3 rfl) (by decide) (by omega) (fun c5 => by exfalso; omega) (fun c5 => ?_)
  refine aw_aload_n (aw_d q_Tb_cell 4 rfl) rfl rfl rfl ?_
  refine aw_getf (aw_d q_Tb_cell 5 rfl) fL_Tb_18_Tb rfl rfl ?_
  refine aw_iload_n (aw_d q_Tb_cell 6 rfl) rfl rfl ?_
  refine aw_bipush (v := nI 6) (aw_d q_Tb_cell 7 rfl) (by decide) ?_
  refine aw_imulN (aw_d q_Tb_cell 8 rfl) ?_
  refine aw_iload_n (aw_d q_Tb_cell 9 rfl) rfl rfl ?_
  refine aw_iaddN (aw_d q_Tb_cell 10 rfl) ?_
  refine aw_ialdN (aw_d q_Tb_cell 11 rfl) rfl (by omega) rfl ?_
  refine aw_goto (tgt := 23) (aw_d q_Tb_cell 12 rfl) (by decide) ?_
  exact aw_iret (aw_d q_Tb_cell 14 rfl) rfl (⟨rfl, rfl⟩)
set_option maxRecDepth 20000 in
theorem sp_Tb_setCell_14 {g : aw_G} {S : aw_S} {r v : Nat} {t : Int32} (hr : r < 24) (hv : v < 6) : Sp g M_Tb_setCell 1 21 0 0 [.ref 14, .int (nI r), .int (nI v), .int t] (HP S) (fun x h => x = none ∧ h = HP (sa S 17 (upd (S.2 17) (r * 6 + v) t))) := by
  refine Sp.of rfl (aw_le rfl) ?_
  refine aw_iload_n (aw_d q_Tb_setCell 0 rfl) rfl rfl ?_
  refine aw_iload_n (aw_d q_Tb_setCell 1 rfl) rfl rfl ?_
  refine cSr (aw_d q_Tb_setCell 2 rfl) (sp_Tb_inRoom hr hv) sL_Tb_57 rfl rfl rfl rfl ⟨aw_le rfl, aw_le rfl⟩ ?_
  refine aw_ifN_eq (tgt := 20) (aw_d q_Tb_setCell 3 rfl) (by decide) (by omega) (fun c5 => by exfalso; omega) (fun c5 => ?_)
  refine aw_aload_n (aw_d q_Tb_setCell 4 rfl) rfl rfl rfl ?_
  refine aw_getf (aw_d q_Tb_setCell 5 rfl) fL_Tb_18_Tb rfl rfl ?_
  refine aw_iload_n (aw_d q_Tb_setCell 6 rfl) rfl rfl ?_
  refine aw_bipush (v := nI 6) (aw_d q_Tb_setCell 7 rfl) (by decide) ?_
  refine aw_imulN (aw_d q_Tb_setCell 8 rfl) ?_
  refine aw_iload_n (aw_d q_Tb_setCell 9 rfl) rfl rfl ?_
  refine aw_iaddN (aw_d q_Tb_setCell 10 rfl) ?_
  refine aw_iload_n (aw_d q_Tb_setCell 11 rfl) rfl rfl ?_
  refine wn_17 (aw_d q_Tb_setCell 12 rfl) (by omega) ?_
  exact aw_vret (aw_d q_Tb_setCell 13 rfl) rfl (⟨rfl, rfl⟩)
set_option maxRecDepth 20000 in
theorem sp_Tb_hasRoomForRow_14 {g : aw_G} {S : aw_S} {nv nr : Nat} {nl : Nat → Nat} (hB : TbI_14 S nv nr nl) : Sp g M_Tb_hasRoomForRow 0 0 0 0 [.ref 14] (HP S) (fun r h => r = some (.int (if nr < 24 then nI 1 else nI 0)) ∧ h = HP S) := by
  refine Sp.of rfl (aw_le rfl) ?_
  refine aw_aload_n (aw_d q_Tb_hasRoomForRow 0 rfl) rfl rfl rfl ?_
  refine aw_getf (v := .int (nI (nr))) (aw_d q_Tb_hasRoomForRow 1 rfl) fL_Tb_25_Tb rfl (gk hB.2.2.1) ?_
  refine aw_bipush (v := nI 24) (aw_d q_Tb_hasRoomForRow 2 rfl) (by decide) ?_
  refine aw_icmpN_ge (tgt := 13) (aw_d q_Tb_hasRoomForRow 3 rfl) (by decide) (by (have hB2 := hB.2.1; have hB4 := hB.2.2.2.1; omega)) (by (have hB2 := hB.2.1; have hB4 := hB.2.2.2.1; omega)) (fun c6 => ?_) (fun c6 => ?_)
  · refine aw_iconst (v := nI 0) (aw_d q_Tb_hasRoomForRow 6 rfl) (by decide) ?_
    exact aw_zret (aw_d q_Tb_hasRoomForRow 7 rfl) rfl (rfl) (⟨by first | rfl | (rw [if_pos (by omega)]) | (rw [if_neg (by omega)]), rfl⟩)
  · refine aw_iconst (v := nI 1) (aw_d q_Tb_hasRoomForRow 4 rfl) (by decide) ?_
    refine aw_goto (tgt := 14) (aw_d q_Tb_hasRoomForRow 5 rfl) (by decide) ?_
    exact aw_zret (aw_d q_Tb_hasRoomForRow 7 rfl) rfl (rfl) (⟨by first | rfl | (rw [if_pos (by omega)]) | (rw [if_neg (by omega)]), rfl⟩)
set_option maxRecDepth 20000 in
theorem sp_Tb_hasCell_14 {g : aw_G} {S : aw_S} {nv nr : Nat} {nl : Nat → Nat} (hB : TbI_14 S nv nr nl) {x y : Int32} : Sp g M_Tb_hasCell 0 0 0 0 [.ref 14, .int x, .int y] (HP S) (fun r h => r = some (.int (if (0 ≤ x.toInt ∧ x.toInt < nr) ∧ 0 ≤ y.toInt ∧ y.toInt < nv then nI 1 else nI 0)) ∧ h = HP S) := by
  refine Sp.of rfl (aw_le rfl) ?_
  refine aw_iload_n (aw_d q_Tb_hasCell 0 rfl) rfl rfl ?_
  refine aw_ifI_lt (tgt := 28) (aw_d q_Tb_hasCell 1 rfl) (by decide) (fun c1 => ?_) (fun c1 => ?_)
  · refine aw_iconst (v := nI 0) (aw_d q_Tb_hasCell 14 rfl) (by decide) ?_
    exact aw_zret (aw_d q_Tb_hasCell 15 rfl) rfl (rfl) (⟨by first | rfl | (rw [if_pos (by omega)]) | (rw [if_neg (by omega)]), rfl⟩)
  · refine aw_iload_n (aw_d q_Tb_hasCell 2 rfl) rfl rfl ?_
    refine aw_aload_n (aw_d q_Tb_hasCell 3 rfl) rfl rfl rfl ?_
    refine aw_getf (v := .int (nI (nr))) (aw_d q_Tb_hasCell 4 rfl) fL_Tb_25_Tb rfl (gk hB.2.2.1) ?_
    refine aw_icmpI_ge (tgt := 28) (aw_d q_Tb_hasCell 5 rfl) (by decide) (by (have hB2 := hB.2.1; have hB4 := hB.2.2.2.1; omega)) (fun c9 => ?_) (fun c9 => ?_)
    · refine aw_iconst (v := nI 0) (aw_d q_Tb_hasCell 14 rfl) (by decide) ?_
      exact aw_zret (aw_d q_Tb_hasCell 15 rfl) rfl (rfl) (⟨by first | rfl | (rw [if_pos (by omega)]) | (rw [if_neg (by omega)]), rfl⟩)
    · refine aw_iload_n (aw_d q_Tb_hasCell 6 rfl) rfl rfl ?_
      refine aw_ifI_lt (tgt := 28) (aw_d q_Tb_hasCell 7 rfl) (by decide) (fun c13 => ?_) (fun c13 => ?_)
      · refine aw_iconst (v := nI 0) (aw_d q_Tb_hasCell 14 rfl) (by decide) ?_
        exact aw_zret (aw_d q_Tb_hasCell 15 rfl) rfl (rfl) (⟨by first | rfl | (rw [if_pos (by omega)]) | (rw [if_neg (by omega)]), rfl⟩)
      · refine aw_iload_n (aw_d q_Tb_hasCell 8 rfl) rfl rfl ?_
        refine aw_aload_n (aw_d q_Tb_hasCell 9 rfl) rfl rfl rfl ?_
        refine aw_getf (v := .int (nI (nv))) (aw_d q_Tb_hasCell 10 rfl) fL_Tb_21_Tb rfl (gk hB.1) ?_
        refine aw_icmpI_ge (tgt := 28) (aw_d q_Tb_hasCell 11 rfl) (by decide) (by (have hB2 := hB.2.1; have hB4 := hB.2.2.2.1; omega)) (fun c21 => ?_) (fun c21 => ?_)
        · refine aw_iconst (v := nI 0) (aw_d q_Tb_hasCell 14 rfl) (by decide) ?_
          exact aw_zret (aw_d q_Tb_hasCell 15 rfl) rfl (rfl) (⟨by first | rfl | (rw [if_pos (by omega)]) | (rw [if_neg (by omega)]), rfl⟩)
        · refine aw_iconst (v := nI 1) (aw_d q_Tb_hasCell 12 rfl) (by decide) ?_
          refine aw_goto (tgt := 29) (aw_d q_Tb_hasCell 13 rfl) (by decide) ?_
          exact aw_zret (aw_d q_Tb_hasCell 15 rfl) rfl (rfl) (⟨by first | rfl | (rw [if_pos (by omega)]) | (rw [if_neg (by omega)]), rfl⟩)
set_option maxRecDepth 20000 in
theorem sp_Tb_empty_14 {g : aw_G} {S : aw_S}  : Sp g M_Tb_empty 0 0 0 0 [.ref 14] (HP S) (fun r h => r = none ∧ h = HP (si (si S 1403 (nI 0)) 1404 (nI 0))) := by
  refine Sp.of rfl (aw_le rfl) ?_
  refine aw_aload_n (aw_d q_Tb_empty 0 rfl) rfl rfl rfl ?_
  refine aw_iconst (v := nI 0) (aw_d q_Tb_empty 1 rfl) (by decide) ?_
  refine wi_14_3 (aw_d q_Tb_empty 2 rfl) pL_Tb_21_Tb ?_
  refine aw_aload_n (aw_d q_Tb_empty 3 rfl) rfl rfl rfl ?_
  refine aw_iconst (v := nI 0) (aw_d q_Tb_empty 4 rfl) (by decide) ?_
  refine wi_14_4 (aw_d q_Tb_empty 5 rfl) pL_Tb_25_Tb ?_
  exact aw_vret (aw_d q_Tb_empty 6 rfl) rfl (⟨rfl, rfl⟩)
set_option maxRecDepth 20000 in
theorem lp_Tb_isNamed_14 {g : aw_G} {S : aw_S} {nv nr : Nat} {nl : Nat → Nat} (hB : TbI_14 S nv nr nl) {v : Nat} (hv : v < nv) {n a len : Nat} (hn : S.1 101 = nI n) (h3 : n ≤ 3000) (ha : a + len ≤ n) (hl : nl v = len) : ∀ (m k : Nat), m + k = len → eqB (fun i => S.2 15 (v * 8 + i)) (fun i => S.2 2 (a + i)) len 0 = eqB (fun i => S.2 15 (v * 8 + i)) (fun i => S.2 2 (a + i)) m k → AW g M_Tb_isNamed (aw_rm 1 22 0 0) (aw_F g 0 0 (fun r h => r = some (.int (if nmB (S.2 16) (S.2 15) len (fun i => S.2 2 (a + i)) v = true then nI 1 else nI 0)) ∧ h = HP S)) 15 [some (.ref 14), some (.int (nI v)), some (.ref 1), some (.int (nI a)), some (.int (nI len)), some (.int (nI k))] [] (HP S) 0 0 := by
  intro m
  induction m with
  | zero =>
    intro k hk e
    refine aw_iload (aw_d q_Tb_isNamed 9 rfl) rfl ?_
    refine aw_iload (aw_d q_Tb_isNamed 10 rfl) rfl ?_
    refine aw_icmpN_ge (tgt := 48) (aw_d q_Tb_isNamed 11 rfl) (by decide) (by (have hB2 := hB.2.1; have hB4 := hB.2.2.2.1; have hB5 := (hB.2.2.2.2 v hv).2; omega)) (by (have hB2 := hB.2.1; have hB4 := hB.2.2.2.1; have hB5 := (hB.2.2.2.2 v hv).2; omega)) (fun c19 => ?_) (fun c19 => by exfalso; (have hB2 := hB.2.1; have hB4 := hB.2.2.2.1; have hB5 := (hB.2.2.2.2 v hv).2; omega))
    refine aw_iconst (v := nI 1) (aw_d q_Tb_isNamed 26 rfl) (by decide) ?_
    exact aw_zret (aw_d q_Tb_isNamed 27 rfl) rfl (rfl) (⟨by rw [if_pos (by simp only [nmB, Bool.and_eq_true, decide_eq_true_eq]; exact ⟨by rw [(hB.2.2.2.2 v hv).1, hl], e⟩)], rfl⟩)
  | succ m ih =>
    intro k hk e
    refine aw_iload (aw_d q_Tb_isNamed 9 rfl) rfl ?_
    refine aw_iload (aw_d q_Tb_isNamed 10 rfl) rfl ?_
    refine aw_icmpN_ge (tgt := 48) (aw_d q_Tb_isNamed 11 rfl) (by decide) (by (have hB2 := hB.2.1; have hB4 := hB.2.2.2.1; have hB5 := (hB.2.2.2.2 v hv).2; omega)) (by (have hB2 := hB.2.1; have hB4 := hB.2.2.2.1; have hB5 := (hB.2.2.2.2 v hv).2; omega)) (fun c19 => by exfalso; (have hB2 := hB.2.1; have hB4 := hB.2.2.2.1; have hB5 := (hB.2.2.2.2 v hv).2; omega)) (fun c19 => ?_)
    refine aw_aload_n (aw_d q_Tb_isNamed 12 rfl) rfl rfl rfl ?_
    refine aw_iload_n (aw_d q_Tb_isNamed 13 rfl) rfl rfl ?_
    refine aw_iload (aw_d q_Tb_isNamed 14 rfl) rfl ?_
    refine cVr (aw_d q_Tb_isNamed 15 rfl) (sp_Tb_byteOfName_14 hB hv (by omega)) vL_Tb_36_Tb rfl rfl rfl rfl rfl rfl ⟨aw_le rfl, aw_le rfl⟩ ?_
    refine aw_aload_n (aw_d q_Tb_isNamed 16 rfl) rfl rfl rfl ?_
    refine aw_iload_n (aw_d q_Tb_isNamed 17 rfl) rfl rfl ?_
    refine aw_iload (aw_d q_Tb_isNamed 18 rfl) rfl ?_
    refine aw_iaddN (aw_d q_Tb_isNamed 19 rfl) ?_
    refine cVr (aw_d q_Tb_isNamed 20 rfl) (sp_By_get_1 hn h3 (by omega)) vL_Tb_40_By rfl rfl rfl rfl rfl rfl ⟨aw_le rfl, aw_le rfl⟩ ?_
    refine aw_icmpZ_eq (tgt := 42) (aw_d q_Tb_isNamed 21 rfl) (by decide) (fun c37 => ?_) (fun c37 => ?_)
    · have c37 := Int32.toInt_inj.mp c37
      refine aw_iinc (aw_d q_Tb_isNamed 24 rfl) rfl (ii1 _) (aw_le rfl) rfl ?_
      refine aw_goto (tgt := 15) (aw_d q_Tb_isNamed 25 rfl) (by decide) ?_
      exact ih (k + 1) (by omega) (e.trans (by simp only [eqB]; rw [decide_eq_true c37]; rfl))
    · have c37 : ¬ _ := fun q => c37 (Int32.toInt_inj.mpr q)
      refine aw_iconst (v := nI 0) (aw_d q_Tb_isNamed 22 rfl) (by decide) ?_
      exact aw_zret (aw_d q_Tb_isNamed 23 rfl) rfl (rfl) (⟨by rw [if_neg (fun q => ?_)]; simp only [nmB, Bool.and_eq_true, decide_eq_true_eq] at q; have q := e.symm.trans q.2; simp only [eqB] at q; simp [c37] at q, rfl⟩)
set_option maxRecDepth 20000 in
theorem sp_Tb_isNamed_14 {g : aw_G} {S : aw_S} {nv nr : Nat} {nl : Nat → Nat} (hB : TbI_14 S nv nr nl) {v : Nat} (hv : v < nv) {n a len : Nat} (hn : S.1 101 = nI n) (h3 : n ≤ 3000) (ha : a + len ≤ n) : Sp g M_Tb_isNamed 1 22 0 0 [.ref 14, .int (nI v), .ref 1, .int (nI a), .int (nI len)] (HP S) (fun r h => r = some (.int (if nmB (S.2 16) (S.2 15) len (fun i => S.2 2 (a + i)) v = true then nI 1 else nI 0)) ∧ h = HP S) := by
  refine Sp.of rfl (aw_le rfl) ?_
  refine aw_aload_n (aw_d q_Tb_isNamed 0 rfl) rfl rfl rfl ?_
  refine aw_iload_n (aw_d q_Tb_isNamed 1 rfl) rfl rfl ?_
  refine cVr (aw_d q_Tb_isNamed 2 rfl) (sp_Tb_lengthOfName_14 hB hv) vL_Tb_32_Tb rfl rfl rfl rfl rfl rfl ⟨aw_le rfl, aw_le rfl⟩ ?_
  refine aw_iload (aw_d q_Tb_isNamed 3 rfl) rfl ?_
  refine aw_icmpN_eq (tgt := 12) (aw_d q_Tb_isNamed 4 rfl) (by decide) (by (have hB2 := hB.2.1; have hB4 := hB.2.2.2.1; have hB5 := (hB.2.2.2.2 v hv).2; omega)) (by (have hB2 := hB.2.1; have hB4 := hB.2.2.2.1; have hB5 := (hB.2.2.2.2 v hv).2; omega)) (fun c7 => ?_) (fun c7 => ?_)
  · refine aw_iconst (v := nI 0) (aw_d q_Tb_isNamed 7 rfl) (by decide) ?_
    refine aw_istore (aw_d q_Tb_isNamed 8 rfl) (aw_le rfl) rfl ?_
    exact lp_Tb_isNamed_14 hB hv hn h3 ha c7 len 0 (by omega) rfl
  · refine aw_iconst (v := nI 0) (aw_d q_Tb_isNamed 5 rfl) (by decide) ?_
    exact aw_zret (aw_d q_Tb_isNamed 6 rfl) rfl (rfl) (⟨by rw [if_neg (fun q => ?_)]; simp only [nmB, Bool.and_eq_true, decide_eq_true_eq] at q; have hB5 := (hB.2.2.2.2 v hv).2; exact c7 ((nI_eq (by omega) (by omega)).mp ((hB.2.2.2.2 v hv).1.symm.trans q.1)), rfl⟩)
set_option maxRecDepth 20000 in
theorem lp_Tb_find_14 {g : aw_G} {S : aw_S} {nv nr : Nat} {nl : Nat → Nat} (hB : TbI_14 S nv nr nl) {n a len : Nat} (hn : S.1 101 = nI n) (h3 : n ≤ 3000) (ha : a + len ≤ n) : ∀ (m v : Nat), m + v = nv → fdB (nmB (S.2 16) (S.2 15) len (fun i => S.2 2 (a + i))) nv 0 = fdB (nmB (S.2 16) (S.2 15) len (fun i => S.2 2 (a + i))) m v → AW g M_Tb_find (aw_rm 2 47 0 0) (aw_F g 0 0 (fun r h => r = some (.int (oI (fdB (nmB (S.2 16) (S.2 15) len (fun i => S.2 2 (a + i))) nv 0))) ∧ h = HP S)) 3 [some (.ref 14), some (.ref 1), some (.int (nI a)), some (.int (nI len)), some (.int (nI v))] [] (HP S) 0 0 := by
  intro m
  induction m with
  | zero =>
    intro v hk e
    refine aw_iload (aw_d q_Tb_find 2 rfl) rfl ?_
    refine aw_aload_n (aw_d q_Tb_find 3 rfl) rfl rfl rfl ?_
    refine aw_getf (v := .int (nI (nv))) (aw_d q_Tb_find 4 rfl) fL_Tb_21_Tb rfl (gk hB.1) ?_
    refine aw_icmpN_ge (tgt := 33) (aw_d q_Tb_find 5 rfl) (by decide) (by (have hB2 := hB.2.1; have hB4 := hB.2.2.2.1; omega)) (by (have hB2 := hB.2.1; have hB4 := hB.2.2.2.1; omega)) (fun c9 => ?_) (fun c9 => by exfalso; (have hB2 := hB.2.1; have hB4 := hB.2.2.2.1; omega))
    refine aw_iconst (v := (-1)) (aw_d q_Tb_find 17 rfl) (by decide) ?_
    exact aw_iret (aw_d q_Tb_find 18 rfl) rfl (⟨by rw [e]; rfl, rfl⟩)
  | succ m ih =>
    intro v hk e
    refine aw_iload (aw_d q_Tb_find 2 rfl) rfl ?_
    refine aw_aload_n (aw_d q_Tb_find 3 rfl) rfl rfl rfl ?_
    refine aw_getf (v := .int (nI (nv))) (aw_d q_Tb_find 4 rfl) fL_Tb_21_Tb rfl (gk hB.1) ?_
    refine aw_icmpN_ge (tgt := 33) (aw_d q_Tb_find 5 rfl) (by decide) (by (have hB2 := hB.2.1; have hB4 := hB.2.2.2.1; omega)) (by (have hB2 := hB.2.1; have hB4 := hB.2.2.2.1; omega)) (fun c9 => by exfalso; (have hB2 := hB.2.1; have hB4 := hB.2.2.2.1; omega)) (fun c9 => ?_)
    refine aw_aload_n (aw_d q_Tb_find 6 rfl) rfl rfl rfl ?_
    refine aw_iload (aw_d q_Tb_find 7 rfl) rfl ?_
    refine aw_aload_n (aw_d q_Tb_find 8 rfl) rfl rfl rfl ?_
    refine aw_iload_n (aw_d q_Tb_find 9 rfl) rfl rfl ?_
    refine aw_iload_n (aw_d q_Tb_find 10 rfl) rfl rfl ?_
    refine cVr (aw_d q_Tb_find 11 rfl) (sp_Tb_isNamed_14 hB (by omega) hn h3 ha) vL_Tb_28_Tb rfl rfl rfl rfl rfl rfl ⟨aw_le rfl, aw_le rfl⟩ ?_
    refine aw_ifB_eq (tgt := 27) (aw_d q_Tb_find 12 rfl) (by decide) (fun c21 => ?_) (fun c21 => ?_)
    · refine aw_iinc (aw_d q_Tb_find 15 rfl) rfl (ii1 _) (aw_le rfl) rfl ?_
      refine aw_goto (tgt := 3) (aw_d q_Tb_find 16 rfl) (by decide) ?_
      exact ih (v + 1) (by omega) (e.trans (by simp only [fdB]; rw [if_neg c21]))
    · refine aw_iload (aw_d q_Tb_find 13 rfl) rfl ?_
      exact aw_iret (aw_d q_Tb_find 14 rfl) rfl (⟨by rw [e]; simp only [fdB]; rw [if_pos c21]; rfl, rfl⟩)
set_option maxRecDepth 20000 in
theorem sp_Tb_find_14 {g : aw_G} {S : aw_S} {nv nr : Nat} {nl : Nat → Nat} (hB : TbI_14 S nv nr nl) {n a len : Nat} (hn : S.1 101 = nI n) (h3 : n ≤ 3000) (ha : a + len ≤ n) : Sp g M_Tb_find 2 47 0 0 [.ref 14, .ref 1, .int (nI a), .int (nI len)] (HP S) (fun r h => r = some (.int (oI (fdB (nmB (S.2 16) (S.2 15) len (fun i => S.2 2 (a + i))) nv 0))) ∧ h = HP S) := by
  refine Sp.of rfl (aw_le rfl) ?_
  refine aw_iconst (v := nI 0) (aw_d q_Tb_find 0 rfl) (by decide) ?_
  refine aw_istore (aw_d q_Tb_find 1 rfl) (aw_le rfl) rfl ?_
  exact lp_Tb_find_14 hB hn h3 ha nv 0 (by omega) rfl
set_option maxRecDepth 20000 in
theorem lp_Tb_addVariable_14 {g : aw_G} {S : aw_S} {nv nr : Nat} {nl : Nat → Nat} (hB : TbI_14 S nv nr nl) {n a len : Nat} (hn : S.1 101 = nI n) (h3 : n ≤ 3000) (ha : a + len ≤ n) (h6 : nv < 6) (hl1 : 1 ≤ len) (hl8 : len ≤ 8) : ∀ (m k : Nat) (ND : Nat → Int32), m + k = len → (∀ i, i < k → ND (nv * 8 + i) = S.2 2 (a + i)) → (∀ j, j < nv * 8 → ND j = S.2 15 j) → AW g M_Tb_addVariable (aw_rm 1 21 0 0) (aw_F g 0 0 (fun r h => r = none ∧ ∃ ND : Nat → Int32, h = HP (si (sa (sa S 16 (upd (S.2 16) nv (nI len))) 15 ND) 1403 (nI (nv + 1))) ∧ (∀ i, i < len → ND (nv * 8 + i) = S.2 2 (a + i)) ∧ ∀ j, j < nv * 8 → ND j = S.2 15 j)) 41 [some (.ref 14), some (.ref 1), some (.int (nI a)), some (.int (nI len)), some (.int (nI k))] [] (HP (sa (sa S 16 (upd (S.2 16) nv (nI len))) 15 ND)) 0 0 := by
  intro m
  induction m with
  | zero =>
    intro k ND hk e1 e2
    refine aw_iload (aw_d q_Tb_addVariable 22 rfl) rfl ?_
    refine aw_iload_n (aw_d q_Tb_addVariable 23 rfl) rfl rfl ?_
    refine aw_icmpN_ge (tgt := 76) (aw_d q_Tb_addVariable 24 rfl) (by decide) (by (have hB2 := hB.2.1; have hB4 := hB.2.2.2.1; omega)) (by (have hB2 := hB.2.1; have hB4 := hB.2.2.2.1; omega)) (fun c44 => ?_) (fun c44 => by exfalso; (have hB2 := hB.2.1; have hB4 := hB.2.2.2.1; omega))
    refine aw_aload_n (aw_d q_Tb_addVariable 41 rfl) rfl rfl rfl ?_
    refine aw_dup (aw_d q_Tb_addVariable 42 rfl) rfl ?_
    refine aw_getf (v := .int (nI (nv))) (aw_d q_Tb_addVariable 43 rfl) fL_Tb_21_Tb rfl (gk hB.1) ?_
    refine aw_iconst (v := nI 1) (aw_d q_Tb_addVariable 44 rfl) (by decide) ?_
    refine aw_iaddN (aw_d q_Tb_addVariable 45 rfl) ?_
    refine wi_14_3 (aw_d q_Tb_addVariable 46 rfl) pL_Tb_21_Tb ?_
    exact aw_vret (aw_d q_Tb_addVariable 47 rfl) rfl (⟨rfl, ND, rfl, fun i hi => e1 i (by omega), e2⟩)
  | succ m ih =>
    intro k ND hk e1 e2
    refine aw_iload (aw_d q_Tb_addVariable 22 rfl) rfl ?_
    refine aw_iload_n (aw_d q_Tb_addVariable 23 rfl) rfl rfl ?_
    refine aw_icmpN_ge (tgt := 76) (aw_d q_Tb_addVariable 24 rfl) (by decide) (by (have hB2 := hB.2.1; have hB4 := hB.2.2.2.1; omega)) (by (have hB2 := hB.2.1; have hB4 := hB.2.2.2.1; omega)) (fun c44 => by exfalso; (have hB2 := hB.2.1; have hB4 := hB.2.2.2.1; omega)) (fun c44 => ?_)
    refine aw_aload_n (aw_d q_Tb_addVariable 25 rfl) rfl rfl rfl ?_
    refine aw_getf (aw_d q_Tb_addVariable 26 rfl) fL_Tb_9_Tb rfl rfl ?_
    refine aw_aload_n (aw_d q_Tb_addVariable 27 rfl) rfl rfl rfl ?_
    refine aw_getf (v := .int (nI (nv))) (aw_d q_Tb_addVariable 28 rfl) fL_Tb_21_Tb rfl (gk hB.1) ?_
    refine aw_bipush (v := nI 8) (aw_d q_Tb_addVariable 29 rfl) (by decide) ?_
    refine aw_imulN (aw_d q_Tb_addVariable 30 rfl) ?_
    refine aw_iload (aw_d q_Tb_addVariable 31 rfl) rfl ?_
    refine aw_iaddN (aw_d q_Tb_addVariable 32 rfl) ?_
    refine aw_aload_n (aw_d q_Tb_addVariable 33 rfl) rfl rfl rfl ?_
    refine aw_iload_n (aw_d q_Tb_addVariable 34 rfl) rfl rfl ?_
    refine aw_iload (aw_d q_Tb_addVariable 35 rfl) rfl ?_
    refine aw_iaddN (aw_d q_Tb_addVariable 36 rfl) ?_
    refine cVr (aw_d q_Tb_addVariable 37 rfl) (sp_By_get_1 (k := a + k) hn h3 (by omega)) vL_Tb_40_By rfl rfl rfl rfl rfl rfl ⟨aw_le rfl, aw_le rfl⟩ ?_
    refine wn_15 (aw_d q_Tb_addVariable 38 rfl) (by (have hB2 := hB.2.1; have hB4 := hB.2.2.2.1; omega)) ?_
    refine aw_iinc (aw_d q_Tb_addVariable 39 rfl) rfl (ii1 _) (aw_le rfl) rfl ?_
    refine aw_goto (tgt := 41) (aw_d q_Tb_addVariable 40 rfl) (by decide) ?_
    refine AW.to (ih (k + 1) (upd ND (nv * 8 + k) (S.2 2 (a + k))) (by omega) (fun i hi => ?_) (fun j hj => ?_)) rfl rfl rfl rfl
    · by_cases hik : i = k
      · rw [hik]; exact pk_us
      · rw [pk_un (by omega)]; exact e1 i (by omega)
    · rw [pk_un (by omega)]; exact e2 j hj
set_option maxRecDepth 20000 in
theorem sp_Tb_addVariable_14 {g : aw_G} {S : aw_S} {nv nr : Nat} {nl : Nat → Nat} (hB : TbI_14 S nv nr nl) {n a len : Nat} (hn : S.1 101 = nI n) (h3 : n ≤ 3000) (ha : a + len ≤ n) (h6 : nv < 6) (hl1 : 1 ≤ len) (hl8 : len ≤ 8) : Sp g M_Tb_addVariable 1 21 0 0 [.ref 14, .ref 1, .int (nI a), .int (nI len)] (HP S) (fun r h => r = none ∧ ∃ ND : Nat → Int32, h = HP (si (sa (sa S 16 (upd (S.2 16) nv (nI len))) 15 ND) 1403 (nI (nv + 1))) ∧ (∀ i, i < len → ND (nv * 8 + i) = S.2 2 (a + i)) ∧ ∀ j, j < nv * 8 → ND j = S.2 15 j) := by
  refine Sp.of rfl (aw_le rfl) ?_
  refine aw_aload_n (aw_d q_Tb_addVariable 0 rfl) rfl rfl rfl ?_
  refine aw_getf (v := .int (nI (nv))) (aw_d q_Tb_addVariable 1 rfl) fL_Tb_21_Tb rfl (gk hB.1) ?_
  refine aw_ifN_lt (tgt := 27) (aw_d q_Tb_addVariable 2 rfl) (by decide) (by (have hB2 := hB.2.1; have hB4 := hB.2.2.2.1; omega)) (fun c4 => by exfalso; (have hB2 := hB.2.1; have hB4 := hB.2.2.2.1; omega)) (fun c4 => ?_)
  refine aw_aload_n (aw_d q_Tb_addVariable 3 rfl) rfl rfl rfl ?_
  refine aw_getf (v := .int (nI (nv))) (aw_d q_Tb_addVariable 4 rfl) fL_Tb_21_Tb rfl (gk hB.1) ?_
  refine aw_bipush (v := nI 6) (aw_d q_Tb_addVariable 5 rfl) (by decide) ?_
  refine aw_icmpN_ge (tgt := 27) (aw_d q_Tb_addVariable 6 rfl) (by decide) (by (have hB2 := hB.2.1; have hB4 := hB.2.2.2.1; omega)) (by (have hB2 := hB.2.1; have hB4 := hB.2.2.2.1; omega)) (fun c13 => by exfalso; (have hB2 := hB.2.1; have hB4 := hB.2.2.2.1; omega)) (fun c13 => ?_)
  refine aw_iload_n (aw_d q_Tb_addVariable 7 rfl) rfl rfl ?_
  refine aw_iconst (v := nI 1) (aw_d q_Tb_addVariable 8 rfl) (by decide) ?_
  refine aw_icmpN_lt (tgt := 27) (aw_d q_Tb_addVariable 9 rfl) (by decide) (by (have hB2 := hB.2.1; have hB4 := hB.2.2.2.1; omega)) (by (have hB2 := hB.2.1; have hB4 := hB.2.2.2.1; omega)) (fun c18 => by exfalso; (have hB2 := hB.2.1; have hB4 := hB.2.2.2.1; omega)) (fun c18 => ?_)
  refine aw_iload_n (aw_d q_Tb_addVariable 10 rfl) rfl rfl ?_
  refine aw_bipush (v := nI 8) (aw_d q_Tb_addVariable 11 rfl) (by decide) ?_
  refine aw_icmpN_le (tgt := 28) (aw_d q_Tb_addVariable 12 rfl) (by decide) (by (have hB2 := hB.2.1; have hB4 := hB.2.2.2.1; omega)) (by (have hB2 := hB.2.1; have hB4 := hB.2.2.2.1; omega)) (fun c24 => ?_) (fun c24 => by exfalso; (have hB2 := hB.2.1; have hB4 := hB.2.2.2.1; omega))
  refine aw_aload_n (aw_d q_Tb_addVariable 14 rfl) rfl rfl rfl ?_
  refine aw_getf (aw_d q_Tb_addVariable 15 rfl) fL_Tb_15_Tb rfl rfl ?_
  refine aw_aload_n (aw_d q_Tb_addVariable 16 rfl) rfl rfl rfl ?_
  refine aw_getf (v := .int (nI (nv))) (aw_d q_Tb_addVariable 17 rfl) fL_Tb_21_Tb rfl (gk hB.1) ?_
  refine aw_iload_n (aw_d q_Tb_addVariable 18 rfl) rfl rfl ?_
  refine wn_16 (aw_d q_Tb_addVariable 19 rfl) (by (have hB2 := hB.2.1; have hB4 := hB.2.2.2.1; omega)) ?_
  refine aw_iconst (v := nI 0) (aw_d q_Tb_addVariable 20 rfl) (by decide) ?_
  refine aw_istore (aw_d q_Tb_addVariable 21 rfl) (aw_le rfl) rfl ?_
  exact AW.to (lp_Tb_addVariable_14 hB hn h3 ha h6 hl1 hl8 len 0 (S.2 15) (by omega) (fun i hi => by omega) (fun j hj => rfl)) rfl rfl rfl rfl
set_option maxRecDepth 20000 in
theorem lp_Tb_addRow_14 {g : aw_G} {S : aw_S} {nv nr : Nat} {nl : Nat → Nat} (hB : TbI_14 S nv nr nl) (h24 : nr < 24) : ∀ (m v : Nat) (CD : Nat → Int32), m + v = 6 → (∀ w, w < v → CD (nr * 6 + w) = -1) → (∀ j, j < nr * 6 → CD j = S.2 17 j) → AW g M_Tb_addRow (aw_rm 2 44 0 0) (aw_F g 0 0 (fun r h => r = some (.int (nI nr)) ∧ ∃ CD : Nat → Int32, h = HP (sa (si S 1404 (nI (nr + 1))) 17 CD) ∧ (∀ v, v < 6 → CD (nr * 6 + v) = -1) ∧ ∀ j, j < nr * 6 → CD j = S.2 17 j)) 21 [some (.ref 14), some (.int (nI v))] [] (HP (sa (si S 1404 (nI (nr + 1))) 17 CD)) 0 0 := by
  intro m
  induction m with
  | zero =>
    intro v CD hk e1 e2
    refine aw_iload_n (aw_d q_Tb_addRow 13 rfl) rfl rfl ?_
    refine aw_bipush (v := nI 6) (aw_d q_Tb_addRow 14 rfl) (by decide) ?_
    refine aw_icmpN_ge (tgt := 45) (aw_d q_Tb_addRow 15 rfl) (by decide) (by (have hB2 := hB.2.1; have hB4 := hB.2.2.2.1; omega)) (by (have hB2 := hB.2.1; have hB4 := hB.2.2.2.1; omega)) (fun c24 => ?_) (fun c24 => by exfalso; (have hB2 := hB.2.1; have hB4 := hB.2.2.2.1; omega))
    refine aw_aload_n (aw_d q_Tb_addRow 26 rfl) rfl rfl rfl ?_
    refine aw_getf (v := .int (nI ((nr + 1)))) (aw_d q_Tb_addRow 27 rfl) fL_Tb_25_Tb rfl (gk rfl) ?_
    refine aw_iconst (v := nI 1) (aw_d q_Tb_addRow 28 rfl) (by decide) ?_
    refine aw_isubN (aw_d q_Tb_addRow 29 rfl) (by (have hB2 := hB.2.1; have hB4 := hB.2.2.2.1; omega)) ?_
    exact aw_iret (aw_d q_Tb_addRow 30 rfl) rfl (⟨by rw [Nat.add_sub_cancel], CD, rfl, fun w hw => e1 w (by omega), e2⟩)
  | succ m ih =>
    intro v CD hk e1 e2
    refine aw_iload_n (aw_d q_Tb_addRow 13 rfl) rfl rfl ?_
    refine aw_bipush (v := nI 6) (aw_d q_Tb_addRow 14 rfl) (by decide) ?_
    refine aw_icmpN_ge (tgt := 45) (aw_d q_Tb_addRow 15 rfl) (by decide) (by (have hB2 := hB.2.1; have hB4 := hB.2.2.2.1; omega)) (by (have hB2 := hB.2.1; have hB4 := hB.2.2.2.1; omega)) (fun c24 => by exfalso; (have hB2 := hB.2.1; have hB4 := hB.2.2.2.1; omega)) (fun c24 => ?_)
    refine aw_aload_n (aw_d q_Tb_addRow 16 rfl) rfl rfl rfl ?_
    refine aw_aload_n (aw_d q_Tb_addRow 17 rfl) rfl rfl rfl ?_
    refine aw_getf (v := .int (nI ((nr + 1)))) (aw_d q_Tb_addRow 18 rfl) fL_Tb_25_Tb rfl (gk rfl) ?_
    refine aw_iconst (v := nI 1) (aw_d q_Tb_addRow 19 rfl) (by decide) ?_
    refine aw_isubN (aw_d q_Tb_addRow 20 rfl) (by (have hB2 := hB.2.1; have hB4 := hB.2.2.2.1; omega)) ?_
    refine aw_iload_n (aw_d q_Tb_addRow 21 rfl) rfl rfl ?_
    refine aw_iconst (v := (-1)) (aw_d q_Tb_addRow 22 rfl) (by decide) ?_
    refine cVv (aw_d q_Tb_addRow 23 rfl) (sp_Tb_setCell_14 (by omega) (by omega)) vL_Tb_53_Tb rfl rfl rfl rfl rfl rfl ⟨aw_le rfl, aw_le rfl⟩ ?_
    refine aw_iinc (aw_d q_Tb_addRow 24 rfl) rfl (ii1 _) (aw_le rfl) rfl ?_
    refine aw_goto (tgt := 21) (aw_d q_Tb_addRow 25 rfl) (by decide) ?_
    refine AW.to (ih (v + 1) (upd CD ((nr + 1 - 1) * 6 + v) (-1)) (by omega) (fun w hw => ?_) (fun j hj => ?_)) rfl rfl rfl rfl
    · by_cases hwv : w = v
      · rw [hwv, Nat.add_sub_cancel]; exact pk_us
      · rw [pk_un (by omega)]; exact e1 w (by omega)
    · rw [pk_un (by omega)]; exact e2 j hj
set_option maxRecDepth 20000 in
theorem sp_Tb_addRow_14 {g : aw_G} {S : aw_S} {nv nr : Nat} {nl : Nat → Nat} (hB : TbI_14 S nv nr nl) (h24 : nr < 24) : Sp g M_Tb_addRow 2 44 0 0 [.ref 14] (HP S) (fun r h => r = some (.int (nI nr)) ∧ ∃ CD : Nat → Int32, h = HP (sa (si S 1404 (nI (nr + 1))) 17 CD) ∧ (∀ v, v < 6 → CD (nr * 6 + v) = -1) ∧ ∀ j, j < nr * 6 → CD j = S.2 17 j) := by
  refine Sp.of rfl (aw_le rfl) ?_
  refine aw_aload_n (aw_d q_Tb_addRow 0 rfl) rfl rfl rfl ?_
  refine cVr (aw_d q_Tb_addRow 1 rfl) (sp_Tb_hasRoomForRow_14 hB) vL_Tb_49_Tb rfl rfl rfl rfl rfl rfl ⟨aw_le rfl, aw_le rfl⟩ ?_
  refine aw_ifB_ne (tgt := 9) (aw_d q_Tb_addRow 2 rfl) (by decide) (fun c4 => ?_) (fun c4 => by exfalso; (have hB2 := hB.2.1; have hB4 := hB.2.2.2.1; omega))
  refine aw_aload_n (aw_d q_Tb_addRow 5 rfl) rfl rfl rfl ?_
  refine aw_dup (aw_d q_Tb_addRow 6 rfl) rfl ?_
  refine aw_getf (v := .int (nI (nr))) (aw_d q_Tb_addRow 7 rfl) fL_Tb_25_Tb rfl (gk hB.2.2.1) ?_
  refine aw_iconst (v := nI 1) (aw_d q_Tb_addRow 8 rfl) (by decide) ?_
  refine aw_iaddN (aw_d q_Tb_addRow 9 rfl) ?_
  refine wi_14_4 (aw_d q_Tb_addRow 10 rfl) pL_Tb_25_Tb ?_
  refine aw_iconst (v := nI 0) (aw_d q_Tb_addRow 11 rfl) (by decide) ?_
  refine aw_istore_n (aw_d q_Tb_addRow 12 rfl) rfl (aw_le rfl) rfl ?_
  exact AW.to (lp_Tb_addRow_14 hB h24 6 0 (S.2 17) (by omega) (fun w hw => by omega) (fun j hj => rfl)) rfl rfl rfl rfl
set_option maxRecDepth 20000 in
theorem sp_Tb_lengthOfName_18 {g : aw_G} {S : aw_S} {nv nr : Nat} {nl : Nat → Nat} (hB : TbI_18 S nv nr nl) {v : Nat} (hv : v < nv) : Sp g M_Tb_lengthOfName 0 0 0 0 [.ref 18, .int (nI v)] (HP S) (fun r h => r = some (.int (nI (nl v))) ∧ h = HP S) := by
  refine Sp.of rfl (aw_le rfl) ?_
  refine aw_iload_n (aw_d q_Tb_lengthOfName 0 rfl) rfl rfl ?_
  refine aw_ifN_lt (tgt := 19) (aw_d q_Tb_lengthOfName 1 rfl) (by decide) (by (have hB2 := hB.2.1; have hB4 := hB.2.2.2.1; omega)) (fun c1 => by exfalso; (have hB2 := hB.2.1; have hB4 := hB.2.2.2.1; omega)) (fun c1 => ?_)
  refine aw_iload_n (aw_d q_Tb_lengthOfName 2 rfl) rfl rfl ?_
  refine aw_bipush (v := nI 6) (aw_d q_Tb_lengthOfName 3 rfl) (by decide) ?_
  refine aw_icmpN_ge (tgt := 19) (aw_d q_Tb_lengthOfName 4 rfl) (by decide) (by (have hB2 := hB.2.1; have hB4 := hB.2.2.2.1; omega)) (by (have hB2 := hB.2.1; have hB4 := hB.2.2.2.1; omega)) (fun c7 => by exfalso; (have hB2 := hB.2.1; have hB4 := hB.2.2.2.1; omega)) (fun c7 => ?_)
  refine aw_aload_n (aw_d q_Tb_lengthOfName 5 rfl) rfl rfl rfl ?_
  refine aw_getf (aw_d q_Tb_lengthOfName 6 rfl) fL_Tb_15_Tb rfl rfl ?_
  refine aw_iload_n (aw_d q_Tb_lengthOfName 7 rfl) rfl rfl ?_
  refine aw_ialdK (w := nI (nl v)) (aw_d q_Tb_lengthOfName 8 rfl) rfl (by (have hB2 := hB.2.1; have hB4 := hB.2.2.2.1; omega)) rfl ((hB.2.2.2.2 v hv).1) ?_
  refine aw_goto (tgt := 20) (aw_d q_Tb_lengthOfName 9 rfl) (by decide) ?_
  exact aw_iret (aw_d q_Tb_lengthOfName 11 rfl) rfl (⟨rfl, rfl⟩)
set_option maxRecDepth 20000 in
theorem sp_Tb_byteOfName_18 {g : aw_G} {S : aw_S} {nv nr : Nat} {nl : Nat → Nat} (hB : TbI_18 S nv nr nl) {v : Nat} (hv : v < nv) {k : Nat} (hk : k < nl v) : Sp g M_Tb_byteOfName 0 0 0 0 [.ref 18, .int (nI v), .int (nI k)] (HP S) (fun r h => r = some (.int (S.2 19 (v * 8 + k))) ∧ h = HP S) := by
  refine Sp.of rfl (aw_le rfl) ?_
  refine aw_iload_n (aw_d q_Tb_byteOfName 0 rfl) rfl rfl ?_
  refine aw_ifN_lt (tgt := 10) (aw_d q_Tb_byteOfName 1 rfl) (by decide) (by (have hB2 := hB.2.1; have hB4 := hB.2.2.2.1; have hB5 := (hB.2.2.2.2 v hv).2; omega)) (fun c1 => by exfalso; (have hB2 := hB.2.1; have hB4 := hB.2.2.2.1; have hB5 := (hB.2.2.2.2 v hv).2; omega)) (fun c1 => ?_)
  refine aw_iload_n (aw_d q_Tb_byteOfName 2 rfl) rfl rfl ?_
  refine aw_bipush (v := nI 6) (aw_d q_Tb_byteOfName 3 rfl) (by decide) ?_
  refine aw_icmpN_lt (tgt := 12) (aw_d q_Tb_byteOfName 4 rfl) (by decide) (by (have hB2 := hB.2.1; have hB4 := hB.2.2.2.1; have hB5 := (hB.2.2.2.2 v hv).2; omega)) (by (have hB2 := hB.2.1; have hB4 := hB.2.2.2.1; have hB5 := (hB.2.2.2.2 v hv).2; omega)) (fun c7 => ?_) (fun c7 => by exfalso; (have hB2 := hB.2.1; have hB4 := hB.2.2.2.1; have hB5 := (hB.2.2.2.2 v hv).2; omega))
  refine aw_iload_n (aw_d q_Tb_byteOfName 7 rfl) rfl rfl ?_
  refine aw_ifN_lt (tgt := 46) (aw_d q_Tb_byteOfName 8 rfl) (by decide) (by (have hB2 := hB.2.1; have hB4 := hB.2.2.2.1; have hB5 := (hB.2.2.2.2 v hv).2; omega)) (fun c13 => by exfalso; (have hB2 := hB.2.1; have hB4 := hB.2.2.2.1; have hB5 := (hB.2.2.2.2 v hv).2; omega)) (fun c13 => ?_)
  refine aw_iload_n (aw_d q_Tb_byteOfName 9 rfl) rfl rfl ?_
  refine aw_aload_n (aw_d q_Tb_byteOfName 10 rfl) rfl rfl rfl ?_
  refine aw_getf (aw_d q_Tb_byteOfName 11 rfl) fL_Tb_15_Tb rfl rfl ?_
  refine aw_iload_n (aw_d q_Tb_byteOfName 12 rfl) rfl rfl ?_
  refine aw_ialdK (w := nI (nl v)) (aw_d q_Tb_byteOfName 13 rfl) rfl (by (have hB2 := hB.2.1; have hB4 := hB.2.2.2.1; have hB5 := (hB.2.2.2.2 v hv).2; omega)) rfl ((hB.2.2.2.2 v hv).1) ?_
  refine aw_icmpN_ge (tgt := 46) (aw_d q_Tb_byteOfName 14 rfl) (by decide) (by (have hB2 := hB.2.1; have hB4 := hB.2.2.2.1; have hB5 := (hB.2.2.2.2 v hv).2; omega)) (by (have hB2 := hB.2.1; have hB4 := hB.2.2.2.1; have hB5 := (hB.2.2.2.2 v hv).2; omega)) (fun c23 => by exfalso; (have hB2 := hB.2.1; have hB4 := hB.2.2.2.1; have hB5 := (hB.2.2.2.2 v hv).2; omega)) (fun c23 => ?_)
  refine aw_iload_n (aw_d q_Tb_byteOfName 15 rfl) rfl rfl ?_
  refine aw_bipush (v := nI 8) (aw_d q_Tb_byteOfName 16 rfl) (by decide) ?_
  refine aw_icmpN_ge (tgt := 46) (aw_d q_Tb_byteOfName 17 rfl) (by decide) (by (have hB2 := hB.2.1; have hB4 := hB.2.2.2.1; have hB5 := (hB.2.2.2.2 v hv).2; omega)) (by (have hB2 := hB.2.1; have hB4 := hB.2.2.2.1; have hB5 := (hB.2.2.2.2 v hv).2; omega)) (fun c29 => by exfalso; (have hB2 := hB.2.1; have hB4 := hB.2.2.2.1; have hB5 := (hB.2.2.2.2 v hv).2; omega)) (fun c29 => ?_)
  refine aw_aload_n (aw_d q_Tb_byteOfName 18 rfl) rfl rfl rfl ?_
  refine aw_getf (aw_d q_Tb_byteOfName 19 rfl) fL_Tb_9_Tb rfl rfl ?_
  refine aw_iload_n (aw_d q_Tb_byteOfName 20 rfl) rfl rfl ?_
  refine aw_bipush (v := nI 8) (aw_d q_Tb_byteOfName 21 rfl) (by decide) ?_
  refine aw_imulN (aw_d q_Tb_byteOfName 22 rfl) ?_
  refine aw_iload_n (aw_d q_Tb_byteOfName 23 rfl) rfl rfl ?_
  refine aw_iaddN (aw_d q_Tb_byteOfName 24 rfl) ?_
  refine aw_ialdN (aw_d q_Tb_byteOfName 25 rfl) rfl (by (have hB2 := hB.2.1; have hB4 := hB.2.2.2.1; have hB5 := (hB.2.2.2.2 v hv).2; omega)) rfl ?_
  refine aw_goto (tgt := 47) (aw_d q_Tb_byteOfName 26 rfl) (by decide) ?_
  exact aw_iret (aw_d q_Tb_byteOfName 28 rfl) rfl (⟨rfl, rfl⟩)
set_option maxRecDepth 20000 in
theorem sp_Tb_cell_18 {g : aw_G} {S : aw_S} {r v : Nat} (hr : r < 24) (hv : v < 6) : Sp g M_Tb_cell 1 21 0 0 [.ref 18, .int (nI r), .int (nI v)] (HP S) (fun x h => x = some (.int (S.2 21 (r * 6 + v))) ∧ h = HP S) := by
  refine Sp.of rfl (aw_le rfl) ?_
  refine aw_iload_n (aw_d q_Tb_cell 0 rfl) rfl rfl ?_
  refine aw_iload_n (aw_d q_Tb_cell 1 rfl) rfl rfl ?_
  refine cSr (aw_d q_Tb_cell 2 rfl) (sp_Tb_inRoom hr hv) sL_Tb_57 rfl rfl rfl rfl ⟨aw_le rfl, aw_le rfl⟩ ?_
  refine aw_ifN_eq (tgt := 22) (aw_d q_Tb_cell 3 rfl) (by decide) (by omega) (fun c5 => by exfalso; omega) (fun c5 => ?_)
  refine aw_aload_n (aw_d q_Tb_cell 4 rfl) rfl rfl rfl ?_
  refine aw_getf (aw_d q_Tb_cell 5 rfl) fL_Tb_18_Tb rfl rfl ?_
  refine aw_iload_n (aw_d q_Tb_cell 6 rfl) rfl rfl ?_
  refine aw_bipush (v := nI 6) (aw_d q_Tb_cell 7 rfl) (by decide) ?_
  refine aw_imulN (aw_d q_Tb_cell 8 rfl) ?_
  refine aw_iload_n (aw_d q_Tb_cell 9 rfl) rfl rfl ?_
  refine aw_iaddN (aw_d q_Tb_cell 10 rfl) ?_
  refine aw_ialdN (aw_d q_Tb_cell 11 rfl) rfl (by omega) rfl ?_
  refine aw_goto (tgt := 23) (aw_d q_Tb_cell 12 rfl) (by decide) ?_
  exact aw_iret (aw_d q_Tb_cell 14 rfl) rfl (⟨rfl, rfl⟩)
set_option maxRecDepth 20000 in
theorem sp_Tb_setCell_18 {g : aw_G} {S : aw_S} {r v : Nat} {t : Int32} (hr : r < 24) (hv : v < 6) : Sp g M_Tb_setCell 1 21 0 0 [.ref 18, .int (nI r), .int (nI v), .int t] (HP S) (fun x h => x = none ∧ h = HP (sa S 21 (upd (S.2 21) (r * 6 + v) t))) := by
  refine Sp.of rfl (aw_le rfl) ?_
  refine aw_iload_n (aw_d q_Tb_setCell 0 rfl) rfl rfl ?_
  refine aw_iload_n (aw_d q_Tb_setCell 1 rfl) rfl rfl ?_
  refine cSr (aw_d q_Tb_setCell 2 rfl) (sp_Tb_inRoom hr hv) sL_Tb_57 rfl rfl rfl rfl ⟨aw_le rfl, aw_le rfl⟩ ?_
  refine aw_ifN_eq (tgt := 20) (aw_d q_Tb_setCell 3 rfl) (by decide) (by omega) (fun c5 => by exfalso; omega) (fun c5 => ?_)
  refine aw_aload_n (aw_d q_Tb_setCell 4 rfl) rfl rfl rfl ?_
  refine aw_getf (aw_d q_Tb_setCell 5 rfl) fL_Tb_18_Tb rfl rfl ?_
  refine aw_iload_n (aw_d q_Tb_setCell 6 rfl) rfl rfl ?_
  refine aw_bipush (v := nI 6) (aw_d q_Tb_setCell 7 rfl) (by decide) ?_
  refine aw_imulN (aw_d q_Tb_setCell 8 rfl) ?_
  refine aw_iload_n (aw_d q_Tb_setCell 9 rfl) rfl rfl ?_
  refine aw_iaddN (aw_d q_Tb_setCell 10 rfl) ?_
  refine aw_iload_n (aw_d q_Tb_setCell 11 rfl) rfl rfl ?_
  refine wn_21 (aw_d q_Tb_setCell 12 rfl) (by omega) ?_
  exact aw_vret (aw_d q_Tb_setCell 13 rfl) rfl (⟨rfl, rfl⟩)
set_option maxRecDepth 20000 in
theorem sp_Tb_hasRoomForRow_18 {g : aw_G} {S : aw_S} {nv nr : Nat} {nl : Nat → Nat} (hB : TbI_18 S nv nr nl) : Sp g M_Tb_hasRoomForRow 0 0 0 0 [.ref 18] (HP S) (fun r h => r = some (.int (if nr < 24 then nI 1 else nI 0)) ∧ h = HP S) := by
  refine Sp.of rfl (aw_le rfl) ?_
  refine aw_aload_n (aw_d q_Tb_hasRoomForRow 0 rfl) rfl rfl rfl ?_
  refine aw_getf (v := .int (nI (nr))) (aw_d q_Tb_hasRoomForRow 1 rfl) fL_Tb_25_Tb rfl (gk hB.2.2.1) ?_
  refine aw_bipush (v := nI 24) (aw_d q_Tb_hasRoomForRow 2 rfl) (by decide) ?_
  refine aw_icmpN_ge (tgt := 13) (aw_d q_Tb_hasRoomForRow 3 rfl) (by decide) (by (have hB2 := hB.2.1; have hB4 := hB.2.2.2.1; omega)) (by (have hB2 := hB.2.1; have hB4 := hB.2.2.2.1; omega)) (fun c6 => ?_) (fun c6 => ?_)
  · refine aw_iconst (v := nI 0) (aw_d q_Tb_hasRoomForRow 6 rfl) (by decide) ?_
    exact aw_zret (aw_d q_Tb_hasRoomForRow 7 rfl) rfl (rfl) (⟨by first | rfl | (rw [if_pos (by omega)]) | (rw [if_neg (by omega)]), rfl⟩)
  · refine aw_iconst (v := nI 1) (aw_d q_Tb_hasRoomForRow 4 rfl) (by decide) ?_
    refine aw_goto (tgt := 14) (aw_d q_Tb_hasRoomForRow 5 rfl) (by decide) ?_
    exact aw_zret (aw_d q_Tb_hasRoomForRow 7 rfl) rfl (rfl) (⟨by first | rfl | (rw [if_pos (by omega)]) | (rw [if_neg (by omega)]), rfl⟩)
set_option maxRecDepth 20000 in
theorem sp_Tb_hasCell_18 {g : aw_G} {S : aw_S} {nv nr : Nat} {nl : Nat → Nat} (hB : TbI_18 S nv nr nl) {x y : Int32} : Sp g M_Tb_hasCell 0 0 0 0 [.ref 18, .int x, .int y] (HP S) (fun r h => r = some (.int (if (0 ≤ x.toInt ∧ x.toInt < nr) ∧ 0 ≤ y.toInt ∧ y.toInt < nv then nI 1 else nI 0)) ∧ h = HP S) := by
  refine Sp.of rfl (aw_le rfl) ?_
  refine aw_iload_n (aw_d q_Tb_hasCell 0 rfl) rfl rfl ?_
  refine aw_ifI_lt (tgt := 28) (aw_d q_Tb_hasCell 1 rfl) (by decide) (fun c1 => ?_) (fun c1 => ?_)
  · refine aw_iconst (v := nI 0) (aw_d q_Tb_hasCell 14 rfl) (by decide) ?_
    exact aw_zret (aw_d q_Tb_hasCell 15 rfl) rfl (rfl) (⟨by first | rfl | (rw [if_pos (by omega)]) | (rw [if_neg (by omega)]), rfl⟩)
  · refine aw_iload_n (aw_d q_Tb_hasCell 2 rfl) rfl rfl ?_
    refine aw_aload_n (aw_d q_Tb_hasCell 3 rfl) rfl rfl rfl ?_
    refine aw_getf (v := .int (nI (nr))) (aw_d q_Tb_hasCell 4 rfl) fL_Tb_25_Tb rfl (gk hB.2.2.1) ?_
    refine aw_icmpI_ge (tgt := 28) (aw_d q_Tb_hasCell 5 rfl) (by decide) (by (have hB2 := hB.2.1; have hB4 := hB.2.2.2.1; omega)) (fun c9 => ?_) (fun c9 => ?_)
    · refine aw_iconst (v := nI 0) (aw_d q_Tb_hasCell 14 rfl) (by decide) ?_
      exact aw_zret (aw_d q_Tb_hasCell 15 rfl) rfl (rfl) (⟨by first | rfl | (rw [if_pos (by omega)]) | (rw [if_neg (by omega)]), rfl⟩)
    · refine aw_iload_n (aw_d q_Tb_hasCell 6 rfl) rfl rfl ?_
      refine aw_ifI_lt (tgt := 28) (aw_d q_Tb_hasCell 7 rfl) (by decide) (fun c13 => ?_) (fun c13 => ?_)
      · refine aw_iconst (v := nI 0) (aw_d q_Tb_hasCell 14 rfl) (by decide) ?_
        exact aw_zret (aw_d q_Tb_hasCell 15 rfl) rfl (rfl) (⟨by first | rfl | (rw [if_pos (by omega)]) | (rw [if_neg (by omega)]), rfl⟩)
      · refine aw_iload_n (aw_d q_Tb_hasCell 8 rfl) rfl rfl ?_
        refine aw_aload_n (aw_d q_Tb_hasCell 9 rfl) rfl rfl rfl ?_
        refine aw_getf (v := .int (nI (nv))) (aw_d q_Tb_hasCell 10 rfl) fL_Tb_21_Tb rfl (gk hB.1) ?_
        refine aw_icmpI_ge (tgt := 28) (aw_d q_Tb_hasCell 11 rfl) (by decide) (by (have hB2 := hB.2.1; have hB4 := hB.2.2.2.1; omega)) (fun c21 => ?_) (fun c21 => ?_)
        · refine aw_iconst (v := nI 0) (aw_d q_Tb_hasCell 14 rfl) (by decide) ?_
          exact aw_zret (aw_d q_Tb_hasCell 15 rfl) rfl (rfl) (⟨by first | rfl | (rw [if_pos (by omega)]) | (rw [if_neg (by omega)]), rfl⟩)
        · refine aw_iconst (v := nI 1) (aw_d q_Tb_hasCell 12 rfl) (by decide) ?_
          refine aw_goto (tgt := 29) (aw_d q_Tb_hasCell 13 rfl) (by decide) ?_
          exact aw_zret (aw_d q_Tb_hasCell 15 rfl) rfl (rfl) (⟨by first | rfl | (rw [if_pos (by omega)]) | (rw [if_neg (by omega)]), rfl⟩)
set_option maxRecDepth 20000 in
theorem sp_Tb_empty_18 {g : aw_G} {S : aw_S}  : Sp g M_Tb_empty 0 0 0 0 [.ref 18] (HP S) (fun r h => r = none ∧ h = HP (si (si S 1803 (nI 0)) 1804 (nI 0))) := by
  refine Sp.of rfl (aw_le rfl) ?_
  refine aw_aload_n (aw_d q_Tb_empty 0 rfl) rfl rfl rfl ?_
  refine aw_iconst (v := nI 0) (aw_d q_Tb_empty 1 rfl) (by decide) ?_
  refine wi_18_3 (aw_d q_Tb_empty 2 rfl) pL_Tb_21_Tb ?_
  refine aw_aload_n (aw_d q_Tb_empty 3 rfl) rfl rfl rfl ?_
  refine aw_iconst (v := nI 0) (aw_d q_Tb_empty 4 rfl) (by decide) ?_
  refine wi_18_4 (aw_d q_Tb_empty 5 rfl) pL_Tb_25_Tb ?_
  exact aw_vret (aw_d q_Tb_empty 6 rfl) rfl (⟨rfl, rfl⟩)
set_option maxRecDepth 20000 in
theorem lp_Tb_isNamed_18 {g : aw_G} {S : aw_S} {nv nr : Nat} {nl : Nat → Nat} (hB : TbI_18 S nv nr nl) {v : Nat} (hv : v < nv) {n a len : Nat} (hn : S.1 101 = nI n) (h3 : n ≤ 3000) (ha : a + len ≤ n) (hl : nl v = len) : ∀ (m k : Nat), m + k = len → eqB (fun i => S.2 19 (v * 8 + i)) (fun i => S.2 2 (a + i)) len 0 = eqB (fun i => S.2 19 (v * 8 + i)) (fun i => S.2 2 (a + i)) m k → AW g M_Tb_isNamed (aw_rm 1 22 0 0) (aw_F g 0 0 (fun r h => r = some (.int (if nmB (S.2 20) (S.2 19) len (fun i => S.2 2 (a + i)) v = true then nI 1 else nI 0)) ∧ h = HP S)) 15 [some (.ref 18), some (.int (nI v)), some (.ref 1), some (.int (nI a)), some (.int (nI len)), some (.int (nI k))] [] (HP S) 0 0 := by
  intro m
  induction m with
  | zero =>
    intro k hk e
    refine aw_iload (aw_d q_Tb_isNamed 9 rfl) rfl ?_
    refine aw_iload (aw_d q_Tb_isNamed 10 rfl) rfl ?_
    refine aw_icmpN_ge (tgt := 48) (aw_d q_Tb_isNamed 11 rfl) (by decide) (by (have hB2 := hB.2.1; have hB4 := hB.2.2.2.1; have hB5 := (hB.2.2.2.2 v hv).2; omega)) (by (have hB2 := hB.2.1; have hB4 := hB.2.2.2.1; have hB5 := (hB.2.2.2.2 v hv).2; omega)) (fun c19 => ?_) (fun c19 => by exfalso; (have hB2 := hB.2.1; have hB4 := hB.2.2.2.1; have hB5 := (hB.2.2.2.2 v hv).2; omega))
    refine aw_iconst (v := nI 1) (aw_d q_Tb_isNamed 26 rfl) (by decide) ?_
    exact aw_zret (aw_d q_Tb_isNamed 27 rfl) rfl (rfl) (⟨by rw [if_pos (by simp only [nmB, Bool.and_eq_true, decide_eq_true_eq]; exact ⟨by rw [(hB.2.2.2.2 v hv).1, hl], e⟩)], rfl⟩)
  | succ m ih =>
    intro k hk e
    refine aw_iload (aw_d q_Tb_isNamed 9 rfl) rfl ?_
    refine aw_iload (aw_d q_Tb_isNamed 10 rfl) rfl ?_
    refine aw_icmpN_ge (tgt := 48) (aw_d q_Tb_isNamed 11 rfl) (by decide) (by (have hB2 := hB.2.1; have hB4 := hB.2.2.2.1; have hB5 := (hB.2.2.2.2 v hv).2; omega)) (by (have hB2 := hB.2.1; have hB4 := hB.2.2.2.1; have hB5 := (hB.2.2.2.2 v hv).2; omega)) (fun c19 => by exfalso; (have hB2 := hB.2.1; have hB4 := hB.2.2.2.1; have hB5 := (hB.2.2.2.2 v hv).2; omega)) (fun c19 => ?_)
    refine aw_aload_n (aw_d q_Tb_isNamed 12 rfl) rfl rfl rfl ?_
    refine aw_iload_n (aw_d q_Tb_isNamed 13 rfl) rfl rfl ?_
    refine aw_iload (aw_d q_Tb_isNamed 14 rfl) rfl ?_
    refine cVr (aw_d q_Tb_isNamed 15 rfl) (sp_Tb_byteOfName_18 hB hv (by omega)) vL_Tb_36_Tb rfl rfl rfl rfl rfl rfl ⟨aw_le rfl, aw_le rfl⟩ ?_
    refine aw_aload_n (aw_d q_Tb_isNamed 16 rfl) rfl rfl rfl ?_
    refine aw_iload_n (aw_d q_Tb_isNamed 17 rfl) rfl rfl ?_
    refine aw_iload (aw_d q_Tb_isNamed 18 rfl) rfl ?_
    refine aw_iaddN (aw_d q_Tb_isNamed 19 rfl) ?_
    refine cVr (aw_d q_Tb_isNamed 20 rfl) (sp_By_get_1 hn h3 (by omega)) vL_Tb_40_By rfl rfl rfl rfl rfl rfl ⟨aw_le rfl, aw_le rfl⟩ ?_
    refine aw_icmpZ_eq (tgt := 42) (aw_d q_Tb_isNamed 21 rfl) (by decide) (fun c37 => ?_) (fun c37 => ?_)
    · have c37 := Int32.toInt_inj.mp c37
      refine aw_iinc (aw_d q_Tb_isNamed 24 rfl) rfl (ii1 _) (aw_le rfl) rfl ?_
      refine aw_goto (tgt := 15) (aw_d q_Tb_isNamed 25 rfl) (by decide) ?_
      exact ih (k + 1) (by omega) (e.trans (by simp only [eqB]; rw [decide_eq_true c37]; rfl))
    · have c37 : ¬ _ := fun q => c37 (Int32.toInt_inj.mpr q)
      refine aw_iconst (v := nI 0) (aw_d q_Tb_isNamed 22 rfl) (by decide) ?_
      exact aw_zret (aw_d q_Tb_isNamed 23 rfl) rfl (rfl) (⟨by rw [if_neg (fun q => ?_)]; simp only [nmB, Bool.and_eq_true, decide_eq_true_eq] at q; have q := e.symm.trans q.2; simp only [eqB] at q; simp [c37] at q, rfl⟩)
set_option maxRecDepth 20000 in
theorem sp_Tb_isNamed_18 {g : aw_G} {S : aw_S} {nv nr : Nat} {nl : Nat → Nat} (hB : TbI_18 S nv nr nl) {v : Nat} (hv : v < nv) {n a len : Nat} (hn : S.1 101 = nI n) (h3 : n ≤ 3000) (ha : a + len ≤ n) : Sp g M_Tb_isNamed 1 22 0 0 [.ref 18, .int (nI v), .ref 1, .int (nI a), .int (nI len)] (HP S) (fun r h => r = some (.int (if nmB (S.2 20) (S.2 19) len (fun i => S.2 2 (a + i)) v = true then nI 1 else nI 0)) ∧ h = HP S) := by
  refine Sp.of rfl (aw_le rfl) ?_
  refine aw_aload_n (aw_d q_Tb_isNamed 0 rfl) rfl rfl rfl ?_
  refine aw_iload_n (aw_d q_Tb_isNamed 1 rfl) rfl rfl ?_
  refine cVr (aw_d q_Tb_isNamed 2 rfl) (sp_Tb_lengthOfName_18 hB hv) vL_Tb_32_Tb rfl rfl rfl rfl rfl rfl ⟨aw_le rfl, aw_le rfl⟩ ?_
  refine aw_iload (aw_d q_Tb_isNamed 3 rfl) rfl ?_
  refine aw_icmpN_eq (tgt := 12) (aw_d q_Tb_isNamed 4 rfl) (by decide) (by (have hB2 := hB.2.1; have hB4 := hB.2.2.2.1; have hB5 := (hB.2.2.2.2 v hv).2; omega)) (by (have hB2 := hB.2.1; have hB4 := hB.2.2.2.1; have hB5 := (hB.2.2.2.2 v hv).2; omega)) (fun c7 => ?_) (fun c7 => ?_)
  · refine aw_iconst (v := nI 0) (aw_d q_Tb_isNamed 7 rfl) (by decide) ?_
    refine aw_istore (aw_d q_Tb_isNamed 8 rfl) (aw_le rfl) rfl ?_
    exact lp_Tb_isNamed_18 hB hv hn h3 ha c7 len 0 (by omega) rfl
  · refine aw_iconst (v := nI 0) (aw_d q_Tb_isNamed 5 rfl) (by decide) ?_
    exact aw_zret (aw_d q_Tb_isNamed 6 rfl) rfl (rfl) (⟨by rw [if_neg (fun q => ?_)]; simp only [nmB, Bool.and_eq_true, decide_eq_true_eq] at q; have hB5 := (hB.2.2.2.2 v hv).2; exact c7 ((nI_eq (by omega) (by omega)).mp ((hB.2.2.2.2 v hv).1.symm.trans q.1)), rfl⟩)
set_option maxRecDepth 20000 in
theorem lp_Tb_find_18 {g : aw_G} {S : aw_S} {nv nr : Nat} {nl : Nat → Nat} (hB : TbI_18 S nv nr nl) {n a len : Nat} (hn : S.1 101 = nI n) (h3 : n ≤ 3000) (ha : a + len ≤ n) : ∀ (m v : Nat), m + v = nv → fdB (nmB (S.2 20) (S.2 19) len (fun i => S.2 2 (a + i))) nv 0 = fdB (nmB (S.2 20) (S.2 19) len (fun i => S.2 2 (a + i))) m v → AW g M_Tb_find (aw_rm 2 47 0 0) (aw_F g 0 0 (fun r h => r = some (.int (oI (fdB (nmB (S.2 20) (S.2 19) len (fun i => S.2 2 (a + i))) nv 0))) ∧ h = HP S)) 3 [some (.ref 18), some (.ref 1), some (.int (nI a)), some (.int (nI len)), some (.int (nI v))] [] (HP S) 0 0 := by
  intro m
  induction m with
  | zero =>
    intro v hk e
    refine aw_iload (aw_d q_Tb_find 2 rfl) rfl ?_
    refine aw_aload_n (aw_d q_Tb_find 3 rfl) rfl rfl rfl ?_
    refine aw_getf (v := .int (nI (nv))) (aw_d q_Tb_find 4 rfl) fL_Tb_21_Tb rfl (gk hB.1) ?_
    refine aw_icmpN_ge (tgt := 33) (aw_d q_Tb_find 5 rfl) (by decide) (by (have hB2 := hB.2.1; have hB4 := hB.2.2.2.1; omega)) (by (have hB2 := hB.2.1; have hB4 := hB.2.2.2.1; omega)) (fun c9 => ?_) (fun c9 => by exfalso; (have hB2 := hB.2.1; have hB4 := hB.2.2.2.1; omega))
    refine aw_iconst (v := (-1)) (aw_d q_Tb_find 17 rfl) (by decide) ?_
    exact aw_iret (aw_d q_Tb_find 18 rfl) rfl (⟨by rw [e]; rfl, rfl⟩)
  | succ m ih =>
    intro v hk e
    refine aw_iload (aw_d q_Tb_find 2 rfl) rfl ?_
    refine aw_aload_n (aw_d q_Tb_find 3 rfl) rfl rfl rfl ?_
    refine aw_getf (v := .int (nI (nv))) (aw_d q_Tb_find 4 rfl) fL_Tb_21_Tb rfl (gk hB.1) ?_
    refine aw_icmpN_ge (tgt := 33) (aw_d q_Tb_find 5 rfl) (by decide) (by (have hB2 := hB.2.1; have hB4 := hB.2.2.2.1; omega)) (by (have hB2 := hB.2.1; have hB4 := hB.2.2.2.1; omega)) (fun c9 => by exfalso; (have hB2 := hB.2.1; have hB4 := hB.2.2.2.1; omega)) (fun c9 => ?_)
    refine aw_aload_n (aw_d q_Tb_find 6 rfl) rfl rfl rfl ?_
    refine aw_iload (aw_d q_Tb_find 7 rfl) rfl ?_
    refine aw_aload_n (aw_d q_Tb_find 8 rfl) rfl rfl rfl ?_
    refine aw_iload_n (aw_d q_Tb_find 9 rfl) rfl rfl ?_
    refine aw_iload_n (aw_d q_Tb_find 10 rfl) rfl rfl ?_
    refine cVr (aw_d q_Tb_find 11 rfl) (sp_Tb_isNamed_18 hB (by omega) hn h3 ha) vL_Tb_28_Tb rfl rfl rfl rfl rfl rfl ⟨aw_le rfl, aw_le rfl⟩ ?_
    refine aw_ifB_eq (tgt := 27) (aw_d q_Tb_find 12 rfl) (by decide) (fun c21 => ?_) (fun c21 => ?_)
    · refine aw_iinc (aw_d q_Tb_find 15 rfl) rfl (ii1 _) (aw_le rfl) rfl ?_
      refine aw_goto (tgt := 3) (aw_d q_Tb_find 16 rfl) (by decide) ?_
      exact ih (v + 1) (by omega) (e.trans (by simp only [fdB]; rw [if_neg c21]))
    · refine aw_iload (aw_d q_Tb_find 13 rfl) rfl ?_
      exact aw_iret (aw_d q_Tb_find 14 rfl) rfl (⟨by rw [e]; simp only [fdB]; rw [if_pos c21]; rfl, rfl⟩)
set_option maxRecDepth 20000 in
theorem sp_Tb_find_18 {g : aw_G} {S : aw_S} {nv nr : Nat} {nl : Nat → Nat} (hB : TbI_18 S nv nr nl) {n a len : Nat} (hn : S.1 101 = nI n) (h3 : n ≤ 3000) (ha : a + len ≤ n) : Sp g M_Tb_find 2 47 0 0 [.ref 18, .ref 1, .int (nI a), .int (nI len)] (HP S) (fun r h => r = some (.int (oI (fdB (nmB (S.2 20) (S.2 19) len (fun i => S.2 2 (a + i))) nv 0))) ∧ h = HP S) := by
  refine Sp.of rfl (aw_le rfl) ?_
  refine aw_iconst (v := nI 0) (aw_d q_Tb_find 0 rfl) (by decide) ?_
  refine aw_istore (aw_d q_Tb_find 1 rfl) (aw_le rfl) rfl ?_
  exact lp_Tb_find_18 hB hn h3 ha nv 0 (by omega) rfl
set_option maxRecDepth 20000 in
theorem lp_Tb_addVariable_18 {g : aw_G} {S : aw_S} {nv nr : Nat} {nl : Nat → Nat} (hB : TbI_18 S nv nr nl) {n a len : Nat} (hn : S.1 101 = nI n) (h3 : n ≤ 3000) (ha : a + len ≤ n) (h6 : nv < 6) (hl1 : 1 ≤ len) (hl8 : len ≤ 8) : ∀ (m k : Nat) (ND : Nat → Int32), m + k = len → (∀ i, i < k → ND (nv * 8 + i) = S.2 2 (a + i)) → (∀ j, j < nv * 8 → ND j = S.2 19 j) → AW g M_Tb_addVariable (aw_rm 1 21 0 0) (aw_F g 0 0 (fun r h => r = none ∧ ∃ ND : Nat → Int32, h = HP (si (sa (sa S 20 (upd (S.2 20) nv (nI len))) 19 ND) 1803 (nI (nv + 1))) ∧ (∀ i, i < len → ND (nv * 8 + i) = S.2 2 (a + i)) ∧ ∀ j, j < nv * 8 → ND j = S.2 19 j)) 41 [some (.ref 18), some (.ref 1), some (.int (nI a)), some (.int (nI len)), some (.int (nI k))] [] (HP (sa (sa S 20 (upd (S.2 20) nv (nI len))) 19 ND)) 0 0 := by
  intro m
  induction m with
  | zero =>
    intro k ND hk e1 e2
    refine aw_iload (aw_d q_Tb_addVariable 22 rfl) rfl ?_
    refine aw_iload_n (aw_d q_Tb_addVariable 23 rfl) rfl rfl ?_
    refine aw_icmpN_ge (tgt := 76) (aw_d q_Tb_addVariable 24 rfl) (by decide) (by (have hB2 := hB.2.1; have hB4 := hB.2.2.2.1; omega)) (by (have hB2 := hB.2.1; have hB4 := hB.2.2.2.1; omega)) (fun c44 => ?_) (fun c44 => by exfalso; (have hB2 := hB.2.1; have hB4 := hB.2.2.2.1; omega))
    refine aw_aload_n (aw_d q_Tb_addVariable 41 rfl) rfl rfl rfl ?_
    refine aw_dup (aw_d q_Tb_addVariable 42 rfl) rfl ?_
    refine aw_getf (v := .int (nI (nv))) (aw_d q_Tb_addVariable 43 rfl) fL_Tb_21_Tb rfl (gk hB.1) ?_
    refine aw_iconst (v := nI 1) (aw_d q_Tb_addVariable 44 rfl) (by decide) ?_
    refine aw_iaddN (aw_d q_Tb_addVariable 45 rfl) ?_
    refine wi_18_3 (aw_d q_Tb_addVariable 46 rfl) pL_Tb_21_Tb ?_
    exact aw_vret (aw_d q_Tb_addVariable 47 rfl) rfl (⟨rfl, ND, rfl, fun i hi => e1 i (by omega), e2⟩)
  | succ m ih =>
    intro k ND hk e1 e2
    refine aw_iload (aw_d q_Tb_addVariable 22 rfl) rfl ?_
    refine aw_iload_n (aw_d q_Tb_addVariable 23 rfl) rfl rfl ?_
    refine aw_icmpN_ge (tgt := 76) (aw_d q_Tb_addVariable 24 rfl) (by decide) (by (have hB2 := hB.2.1; have hB4 := hB.2.2.2.1; omega)) (by (have hB2 := hB.2.1; have hB4 := hB.2.2.2.1; omega)) (fun c44 => by exfalso; (have hB2 := hB.2.1; have hB4 := hB.2.2.2.1; omega)) (fun c44 => ?_)
    refine aw_aload_n (aw_d q_Tb_addVariable 25 rfl) rfl rfl rfl ?_
    refine aw_getf (aw_d q_Tb_addVariable 26 rfl) fL_Tb_9_Tb rfl rfl ?_
    refine aw_aload_n (aw_d q_Tb_addVariable 27 rfl) rfl rfl rfl ?_
    refine aw_getf (v := .int (nI (nv))) (aw_d q_Tb_addVariable 28 rfl) fL_Tb_21_Tb rfl (gk hB.1) ?_
    refine aw_bipush (v := nI 8) (aw_d q_Tb_addVariable 29 rfl) (by decide) ?_
    refine aw_imulN (aw_d q_Tb_addVariable 30 rfl) ?_
    refine aw_iload (aw_d q_Tb_addVariable 31 rfl) rfl ?_
    refine aw_iaddN (aw_d q_Tb_addVariable 32 rfl) ?_
    refine aw_aload_n (aw_d q_Tb_addVariable 33 rfl) rfl rfl rfl ?_
    refine aw_iload_n (aw_d q_Tb_addVariable 34 rfl) rfl rfl ?_
    refine aw_iload (aw_d q_Tb_addVariable 35 rfl) rfl ?_
    refine aw_iaddN (aw_d q_Tb_addVariable 36 rfl) ?_
    refine cVr (aw_d q_Tb_addVariable 37 rfl) (sp_By_get_1 (k := a + k) hn h3 (by omega)) vL_Tb_40_By rfl rfl rfl rfl rfl rfl ⟨aw_le rfl, aw_le rfl⟩ ?_
    refine wn_19 (aw_d q_Tb_addVariable 38 rfl) (by (have hB2 := hB.2.1; have hB4 := hB.2.2.2.1; omega)) ?_
    refine aw_iinc (aw_d q_Tb_addVariable 39 rfl) rfl (ii1 _) (aw_le rfl) rfl ?_
    refine aw_goto (tgt := 41) (aw_d q_Tb_addVariable 40 rfl) (by decide) ?_
    refine AW.to (ih (k + 1) (upd ND (nv * 8 + k) (S.2 2 (a + k))) (by omega) (fun i hi => ?_) (fun j hj => ?_)) rfl rfl rfl rfl
    · by_cases hik : i = k
      · rw [hik]; exact pk_us
      · rw [pk_un (by omega)]; exact e1 i (by omega)
    · rw [pk_un (by omega)]; exact e2 j hj
set_option maxRecDepth 20000 in
theorem sp_Tb_addVariable_18 {g : aw_G} {S : aw_S} {nv nr : Nat} {nl : Nat → Nat} (hB : TbI_18 S nv nr nl) {n a len : Nat} (hn : S.1 101 = nI n) (h3 : n ≤ 3000) (ha : a + len ≤ n) (h6 : nv < 6) (hl1 : 1 ≤ len) (hl8 : len ≤ 8) : Sp g M_Tb_addVariable 1 21 0 0 [.ref 18, .ref 1, .int (nI a), .int (nI len)] (HP S) (fun r h => r = none ∧ ∃ ND : Nat → Int32, h = HP (si (sa (sa S 20 (upd (S.2 20) nv (nI len))) 19 ND) 1803 (nI (nv + 1))) ∧ (∀ i, i < len → ND (nv * 8 + i) = S.2 2 (a + i)) ∧ ∀ j, j < nv * 8 → ND j = S.2 19 j) := by
  refine Sp.of rfl (aw_le rfl) ?_
  refine aw_aload_n (aw_d q_Tb_addVariable 0 rfl) rfl rfl rfl ?_
  refine aw_getf (v := .int (nI (nv))) (aw_d q_Tb_addVariable 1 rfl) fL_Tb_21_Tb rfl (gk hB.1) ?_
  refine aw_ifN_lt (tgt := 27) (aw_d q_Tb_addVariable 2 rfl) (by decide) (by (have hB2 := hB.2.1; have hB4 := hB.2.2.2.1; omega)) (fun c4 => by exfalso; (have hB2 := hB.2.1; have hB4 := hB.2.2.2.1; omega)) (fun c4 => ?_)
  refine aw_aload_n (aw_d q_Tb_addVariable 3 rfl) rfl rfl rfl ?_
  refine aw_getf (v := .int (nI (nv))) (aw_d q_Tb_addVariable 4 rfl) fL_Tb_21_Tb rfl (gk hB.1) ?_
  refine aw_bipush (v := nI 6) (aw_d q_Tb_addVariable 5 rfl) (by decide) ?_
  refine aw_icmpN_ge (tgt := 27) (aw_d q_Tb_addVariable 6 rfl) (by decide) (by (have hB2 := hB.2.1; have hB4 := hB.2.2.2.1; omega)) (by (have hB2 := hB.2.1; have hB4 := hB.2.2.2.1; omega)) (fun c13 => by exfalso; (have hB2 := hB.2.1; have hB4 := hB.2.2.2.1; omega)) (fun c13 => ?_)
  refine aw_iload_n (aw_d q_Tb_addVariable 7 rfl) rfl rfl ?_
  refine aw_iconst (v := nI 1) (aw_d q_Tb_addVariable 8 rfl) (by decide) ?_
  refine aw_icmpN_lt (tgt := 27) (aw_d q_Tb_addVariable 9 rfl) (by decide) (by (have hB2 := hB.2.1; have hB4 := hB.2.2.2.1; omega)) (by (have hB2 := hB.2.1; have hB4 := hB.2.2.2.1; omega)) (fun c18 => by exfalso; (have hB2 := hB.2.1; have hB4 := hB.2.2.2.1; omega)) (fun c18 => ?_)
  refine aw_iload_n (aw_d q_Tb_addVariable 10 rfl) rfl rfl ?_
  refine aw_bipush (v := nI 8) (aw_d q_Tb_addVariable 11 rfl) (by decide) ?_
  refine aw_icmpN_le (tgt := 28) (aw_d q_Tb_addVariable 12 rfl) (by decide) (by (have hB2 := hB.2.1; have hB4 := hB.2.2.2.1; omega)) (by (have hB2 := hB.2.1; have hB4 := hB.2.2.2.1; omega)) (fun c24 => ?_) (fun c24 => by exfalso; (have hB2 := hB.2.1; have hB4 := hB.2.2.2.1; omega))
  refine aw_aload_n (aw_d q_Tb_addVariable 14 rfl) rfl rfl rfl ?_
  refine aw_getf (aw_d q_Tb_addVariable 15 rfl) fL_Tb_15_Tb rfl rfl ?_
  refine aw_aload_n (aw_d q_Tb_addVariable 16 rfl) rfl rfl rfl ?_
  refine aw_getf (v := .int (nI (nv))) (aw_d q_Tb_addVariable 17 rfl) fL_Tb_21_Tb rfl (gk hB.1) ?_
  refine aw_iload_n (aw_d q_Tb_addVariable 18 rfl) rfl rfl ?_
  refine wn_20 (aw_d q_Tb_addVariable 19 rfl) (by (have hB2 := hB.2.1; have hB4 := hB.2.2.2.1; omega)) ?_
  refine aw_iconst (v := nI 0) (aw_d q_Tb_addVariable 20 rfl) (by decide) ?_
  refine aw_istore (aw_d q_Tb_addVariable 21 rfl) (aw_le rfl) rfl ?_
  exact AW.to (lp_Tb_addVariable_18 hB hn h3 ha h6 hl1 hl8 len 0 (S.2 19) (by omega) (fun i hi => by omega) (fun j hj => rfl)) rfl rfl rfl rfl
set_option maxRecDepth 20000 in
theorem lp_Tb_addRow_18 {g : aw_G} {S : aw_S} {nv nr : Nat} {nl : Nat → Nat} (hB : TbI_18 S nv nr nl) (h24 : nr < 24) : ∀ (m v : Nat) (CD : Nat → Int32), m + v = 6 → (∀ w, w < v → CD (nr * 6 + w) = -1) → (∀ j, j < nr * 6 → CD j = S.2 21 j) → AW g M_Tb_addRow (aw_rm 2 44 0 0) (aw_F g 0 0 (fun r h => r = some (.int (nI nr)) ∧ ∃ CD : Nat → Int32, h = HP (sa (si S 1804 (nI (nr + 1))) 21 CD) ∧ (∀ v, v < 6 → CD (nr * 6 + v) = -1) ∧ ∀ j, j < nr * 6 → CD j = S.2 21 j)) 21 [some (.ref 18), some (.int (nI v))] [] (HP (sa (si S 1804 (nI (nr + 1))) 21 CD)) 0 0 := by
  intro m
  induction m with
  | zero =>
    intro v CD hk e1 e2
    refine aw_iload_n (aw_d q_Tb_addRow 13 rfl) rfl rfl ?_
    refine aw_bipush (v := nI 6) (aw_d q_Tb_addRow 14 rfl) (by decide) ?_
    refine aw_icmpN_ge (tgt := 45) (aw_d q_Tb_addRow 15 rfl) (by decide) (by (have hB2 := hB.2.1; have hB4 := hB.2.2.2.1; omega)) (by (have hB2 := hB.2.1; have hB4 := hB.2.2.2.1; omega)) (fun c24 => ?_) (fun c24 => by exfalso; (have hB2 := hB.2.1; have hB4 := hB.2.2.2.1; omega))
    refine aw_aload_n (aw_d q_Tb_addRow 26 rfl) rfl rfl rfl ?_
    refine aw_getf (v := .int (nI ((nr + 1)))) (aw_d q_Tb_addRow 27 rfl) fL_Tb_25_Tb rfl (gk rfl) ?_
    refine aw_iconst (v := nI 1) (aw_d q_Tb_addRow 28 rfl) (by decide) ?_
    refine aw_isubN (aw_d q_Tb_addRow 29 rfl) (by (have hB2 := hB.2.1; have hB4 := hB.2.2.2.1; omega)) ?_
    exact aw_iret (aw_d q_Tb_addRow 30 rfl) rfl (⟨by rw [Nat.add_sub_cancel], CD, rfl, fun w hw => e1 w (by omega), e2⟩)
  | succ m ih =>
    intro v CD hk e1 e2
    refine aw_iload_n (aw_d q_Tb_addRow 13 rfl) rfl rfl ?_
    refine aw_bipush (v := nI 6) (aw_d q_Tb_addRow 14 rfl) (by decide) ?_
    refine aw_icmpN_ge (tgt := 45) (aw_d q_Tb_addRow 15 rfl) (by decide) (by (have hB2 := hB.2.1; have hB4 := hB.2.2.2.1; omega)) (by (have hB2 := hB.2.1; have hB4 := hB.2.2.2.1; omega)) (fun c24 => by exfalso; (have hB2 := hB.2.1; have hB4 := hB.2.2.2.1; omega)) (fun c24 => ?_)
    refine aw_aload_n (aw_d q_Tb_addRow 16 rfl) rfl rfl rfl ?_
    refine aw_aload_n (aw_d q_Tb_addRow 17 rfl) rfl rfl rfl ?_
    refine aw_getf (v := .int (nI ((nr + 1)))) (aw_d q_Tb_addRow 18 rfl) fL_Tb_25_Tb rfl (gk rfl) ?_
    refine aw_iconst (v := nI 1) (aw_d q_Tb_addRow 19 rfl) (by decide) ?_
    refine aw_isubN (aw_d q_Tb_addRow 20 rfl) (by (have hB2 := hB.2.1; have hB4 := hB.2.2.2.1; omega)) ?_
    refine aw_iload_n (aw_d q_Tb_addRow 21 rfl) rfl rfl ?_
    refine aw_iconst (v := (-1)) (aw_d q_Tb_addRow 22 rfl) (by decide) ?_
    refine cVv (aw_d q_Tb_addRow 23 rfl) (sp_Tb_setCell_18 (by omega) (by omega)) vL_Tb_53_Tb rfl rfl rfl rfl rfl rfl ⟨aw_le rfl, aw_le rfl⟩ ?_
    refine aw_iinc (aw_d q_Tb_addRow 24 rfl) rfl (ii1 _) (aw_le rfl) rfl ?_
    refine aw_goto (tgt := 21) (aw_d q_Tb_addRow 25 rfl) (by decide) ?_
    refine AW.to (ih (v + 1) (upd CD ((nr + 1 - 1) * 6 + v) (-1)) (by omega) (fun w hw => ?_) (fun j hj => ?_)) rfl rfl rfl rfl
    · by_cases hwv : w = v
      · rw [hwv, Nat.add_sub_cancel]; exact pk_us
      · rw [pk_un (by omega)]; exact e1 w (by omega)
    · rw [pk_un (by omega)]; exact e2 j hj
set_option maxRecDepth 20000 in
theorem sp_Tb_addRow_18 {g : aw_G} {S : aw_S} {nv nr : Nat} {nl : Nat → Nat} (hB : TbI_18 S nv nr nl) (h24 : nr < 24) : Sp g M_Tb_addRow 2 44 0 0 [.ref 18] (HP S) (fun r h => r = some (.int (nI nr)) ∧ ∃ CD : Nat → Int32, h = HP (sa (si S 1804 (nI (nr + 1))) 21 CD) ∧ (∀ v, v < 6 → CD (nr * 6 + v) = -1) ∧ ∀ j, j < nr * 6 → CD j = S.2 21 j) := by
  refine Sp.of rfl (aw_le rfl) ?_
  refine aw_aload_n (aw_d q_Tb_addRow 0 rfl) rfl rfl rfl ?_
  refine cVr (aw_d q_Tb_addRow 1 rfl) (sp_Tb_hasRoomForRow_18 hB) vL_Tb_49_Tb rfl rfl rfl rfl rfl rfl ⟨aw_le rfl, aw_le rfl⟩ ?_
  refine aw_ifB_ne (tgt := 9) (aw_d q_Tb_addRow 2 rfl) (by decide) (fun c4 => ?_) (fun c4 => by exfalso; (have hB2 := hB.2.1; have hB4 := hB.2.2.2.1; omega))
  refine aw_aload_n (aw_d q_Tb_addRow 5 rfl) rfl rfl rfl ?_
  refine aw_dup (aw_d q_Tb_addRow 6 rfl) rfl ?_
  refine aw_getf (v := .int (nI (nr))) (aw_d q_Tb_addRow 7 rfl) fL_Tb_25_Tb rfl (gk hB.2.2.1) ?_
  refine aw_iconst (v := nI 1) (aw_d q_Tb_addRow 8 rfl) (by decide) ?_
  refine aw_iaddN (aw_d q_Tb_addRow 9 rfl) ?_
  refine wi_18_4 (aw_d q_Tb_addRow 10 rfl) pL_Tb_25_Tb ?_
  refine aw_iconst (v := nI 0) (aw_d q_Tb_addRow 11 rfl) (by decide) ?_
  refine aw_istore_n (aw_d q_Tb_addRow 12 rfl) rfl (aw_le rfl) rfl ?_
  exact AW.to (lp_Tb_addRow_18 hB h24 6 0 (S.2 21) (by omega) (fun w hw => by omega) (fun j hj => rfl)) rfl rfl rfl rfl
set_option maxRecDepth 20000 in
theorem sp_Tb_lengthOfName_22 {g : aw_G} {S : aw_S} {nv nr : Nat} {nl : Nat → Nat} (hB : TbI_22 S nv nr nl) {v : Nat} (hv : v < nv) : Sp g M_Tb_lengthOfName 0 0 0 0 [.ref 22, .int (nI v)] (HP S) (fun r h => r = some (.int (nI (nl v))) ∧ h = HP S) := by
  refine Sp.of rfl (aw_le rfl) ?_
  refine aw_iload_n (aw_d q_Tb_lengthOfName 0 rfl) rfl rfl ?_
  refine aw_ifN_lt (tgt := 19) (aw_d q_Tb_lengthOfName 1 rfl) (by decide) (by (have hB2 := hB.2.1; have hB4 := hB.2.2.2.1; omega)) (fun c1 => by exfalso; (have hB2 := hB.2.1; have hB4 := hB.2.2.2.1; omega)) (fun c1 => ?_)
  refine aw_iload_n (aw_d q_Tb_lengthOfName 2 rfl) rfl rfl ?_
  refine aw_bipush (v := nI 6) (aw_d q_Tb_lengthOfName 3 rfl) (by decide) ?_
  refine aw_icmpN_ge (tgt := 19) (aw_d q_Tb_lengthOfName 4 rfl) (by decide) (by (have hB2 := hB.2.1; have hB4 := hB.2.2.2.1; omega)) (by (have hB2 := hB.2.1; have hB4 := hB.2.2.2.1; omega)) (fun c7 => by exfalso; (have hB2 := hB.2.1; have hB4 := hB.2.2.2.1; omega)) (fun c7 => ?_)
  refine aw_aload_n (aw_d q_Tb_lengthOfName 5 rfl) rfl rfl rfl ?_
  refine aw_getf (aw_d q_Tb_lengthOfName 6 rfl) fL_Tb_15_Tb rfl rfl ?_
  refine aw_iload_n (aw_d q_Tb_lengthOfName 7 rfl) rfl rfl ?_
  refine aw_ialdK (w := nI (nl v)) (aw_d q_Tb_lengthOfName 8 rfl) rfl (by (have hB2 := hB.2.1; have hB4 := hB.2.2.2.1; omega)) rfl ((hB.2.2.2.2 v hv).1) ?_
  refine aw_goto (tgt := 20) (aw_d q_Tb_lengthOfName 9 rfl) (by decide) ?_
  exact aw_iret (aw_d q_Tb_lengthOfName 11 rfl) rfl (⟨rfl, rfl⟩)
set_option maxRecDepth 20000 in
theorem sp_Tb_byteOfName_22 {g : aw_G} {S : aw_S} {nv nr : Nat} {nl : Nat → Nat} (hB : TbI_22 S nv nr nl) {v : Nat} (hv : v < nv) {k : Nat} (hk : k < nl v) : Sp g M_Tb_byteOfName 0 0 0 0 [.ref 22, .int (nI v), .int (nI k)] (HP S) (fun r h => r = some (.int (S.2 23 (v * 8 + k))) ∧ h = HP S) := by
  refine Sp.of rfl (aw_le rfl) ?_
  refine aw_iload_n (aw_d q_Tb_byteOfName 0 rfl) rfl rfl ?_
  refine aw_ifN_lt (tgt := 10) (aw_d q_Tb_byteOfName 1 rfl) (by decide) (by (have hB2 := hB.2.1; have hB4 := hB.2.2.2.1; have hB5 := (hB.2.2.2.2 v hv).2; omega)) (fun c1 => by exfalso; (have hB2 := hB.2.1; have hB4 := hB.2.2.2.1; have hB5 := (hB.2.2.2.2 v hv).2; omega)) (fun c1 => ?_)
  refine aw_iload_n (aw_d q_Tb_byteOfName 2 rfl) rfl rfl ?_
  refine aw_bipush (v := nI 6) (aw_d q_Tb_byteOfName 3 rfl) (by decide) ?_
  refine aw_icmpN_lt (tgt := 12) (aw_d q_Tb_byteOfName 4 rfl) (by decide) (by (have hB2 := hB.2.1; have hB4 := hB.2.2.2.1; have hB5 := (hB.2.2.2.2 v hv).2; omega)) (by (have hB2 := hB.2.1; have hB4 := hB.2.2.2.1; have hB5 := (hB.2.2.2.2 v hv).2; omega)) (fun c7 => ?_) (fun c7 => by exfalso; (have hB2 := hB.2.1; have hB4 := hB.2.2.2.1; have hB5 := (hB.2.2.2.2 v hv).2; omega))
  refine aw_iload_n (aw_d q_Tb_byteOfName 7 rfl) rfl rfl ?_
  refine aw_ifN_lt (tgt := 46) (aw_d q_Tb_byteOfName 8 rfl) (by decide) (by (have hB2 := hB.2.1; have hB4 := hB.2.2.2.1; have hB5 := (hB.2.2.2.2 v hv).2; omega)) (fun c13 => by exfalso; (have hB2 := hB.2.1; have hB4 := hB.2.2.2.1; have hB5 := (hB.2.2.2.2 v hv).2; omega)) (fun c13 => ?_)
  refine aw_iload_n (aw_d q_Tb_byteOfName 9 rfl) rfl rfl ?_
  refine aw_aload_n (aw_d q_Tb_byteOfName 10 rfl) rfl rfl rfl ?_
  refine aw_getf (aw_d q_Tb_byteOfName 11 rfl) fL_Tb_15_Tb rfl rfl ?_
  refine aw_iload_n (aw_d q_Tb_byteOfName 12 rfl) rfl rfl ?_
  refine aw_ialdK (w := nI (nl v)) (aw_d q_Tb_byteOfName 13 rfl) rfl (by (have hB2 := hB.2.1; have hB4 := hB.2.2.2.1; have hB5 := (hB.2.2.2.2 v hv).2; omega)) rfl ((hB.2.2.2.2 v hv).1) ?_
  refine aw_icmpN_ge (tgt := 46) (aw_d q_Tb_byteOfName 14 rfl) (by decide) (by (have hB2 := hB.2.1; have hB4 := hB.2.2.2.1; have hB5 := (hB.2.2.2.2 v hv).2; omega)) (by (have hB2 := hB.2.1; have hB4 := hB.2.2.2.1; have hB5 := (hB.2.2.2.2 v hv).2; omega)) (fun c23 => by exfalso; (have hB2 := hB.2.1; have hB4 := hB.2.2.2.1; have hB5 := (hB.2.2.2.2 v hv).2; omega)) (fun c23 => ?_)
  refine aw_iload_n (aw_d q_Tb_byteOfName 15 rfl) rfl rfl ?_
  refine aw_bipush (v := nI 8) (aw_d q_Tb_byteOfName 16 rfl) (by decide) ?_
  refine aw_icmpN_ge (tgt := 46) (aw_d q_Tb_byteOfName 17 rfl) (by decide) (by (have hB2 := hB.2.1; have hB4 := hB.2.2.2.1; have hB5 := (hB.2.2.2.2 v hv).2; omega)) (by (have hB2 := hB.2.1; have hB4 := hB.2.2.2.1; have hB5 := (hB.2.2.2.2 v hv).2; omega)) (fun c29 => by exfalso; (have hB2 := hB.2.1; have hB4 := hB.2.2.2.1; have hB5 := (hB.2.2.2.2 v hv).2; omega)) (fun c29 => ?_)
  refine aw_aload_n (aw_d q_Tb_byteOfName 18 rfl) rfl rfl rfl ?_
  refine aw_getf (aw_d q_Tb_byteOfName 19 rfl) fL_Tb_9_Tb rfl rfl ?_
  refine aw_iload_n (aw_d q_Tb_byteOfName 20 rfl) rfl rfl ?_
  refine aw_bipush (v := nI 8) (aw_d q_Tb_byteOfName 21 rfl) (by decide) ?_
  refine aw_imulN (aw_d q_Tb_byteOfName 22 rfl) ?_
  refine aw_iload_n (aw_d q_Tb_byteOfName 23 rfl) rfl rfl ?_
  refine aw_iaddN (aw_d q_Tb_byteOfName 24 rfl) ?_
  refine aw_ialdN (aw_d q_Tb_byteOfName 25 rfl) rfl (by (have hB2 := hB.2.1; have hB4 := hB.2.2.2.1; have hB5 := (hB.2.2.2.2 v hv).2; omega)) rfl ?_
  refine aw_goto (tgt := 47) (aw_d q_Tb_byteOfName 26 rfl) (by decide) ?_
  exact aw_iret (aw_d q_Tb_byteOfName 28 rfl) rfl (⟨rfl, rfl⟩)
set_option maxRecDepth 20000 in
theorem sp_Tb_cell_22 {g : aw_G} {S : aw_S} {r v : Nat} (hr : r < 24) (hv : v < 6) : Sp g M_Tb_cell 1 21 0 0 [.ref 22, .int (nI r), .int (nI v)] (HP S) (fun x h => x = some (.int (S.2 25 (r * 6 + v))) ∧ h = HP S) := by
  refine Sp.of rfl (aw_le rfl) ?_
  refine aw_iload_n (aw_d q_Tb_cell 0 rfl) rfl rfl ?_
  refine aw_iload_n (aw_d q_Tb_cell 1 rfl) rfl rfl ?_
  refine cSr (aw_d q_Tb_cell 2 rfl) (sp_Tb_inRoom hr hv) sL_Tb_57 rfl rfl rfl rfl ⟨aw_le rfl, aw_le rfl⟩ ?_
  refine aw_ifN_eq (tgt := 22) (aw_d q_Tb_cell 3 rfl) (by decide) (by omega) (fun c5 => by exfalso; omega) (fun c5 => ?_)
  refine aw_aload_n (aw_d q_Tb_cell 4 rfl) rfl rfl rfl ?_
  refine aw_getf (aw_d q_Tb_cell 5 rfl) fL_Tb_18_Tb rfl rfl ?_
  refine aw_iload_n (aw_d q_Tb_cell 6 rfl) rfl rfl ?_
  refine aw_bipush (v := nI 6) (aw_d q_Tb_cell 7 rfl) (by decide) ?_
  refine aw_imulN (aw_d q_Tb_cell 8 rfl) ?_
  refine aw_iload_n (aw_d q_Tb_cell 9 rfl) rfl rfl ?_
  refine aw_iaddN (aw_d q_Tb_cell 10 rfl) ?_
  refine aw_ialdN (aw_d q_Tb_cell 11 rfl) rfl (by omega) rfl ?_
  refine aw_goto (tgt := 23) (aw_d q_Tb_cell 12 rfl) (by decide) ?_
  exact aw_iret (aw_d q_Tb_cell 14 rfl) rfl (⟨rfl, rfl⟩)
