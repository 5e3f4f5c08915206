set_option maxRecDepth 20000 in
theorem lp_RF_pass {g : aw_G} {S : aw_S} {n o : Nat} (hn : S.1 101 = nI n) (h3 : n ≤ 3000) (ho : S.1 301 = nI o) (o3 : o ≤ 3000) (hj : n + o ≤ 3000) : ∀ (m a : Nat) (A : Nat → Int32), m + a = o → (∀ i, i < n → A i = S.2 2 i) → (∀ i, i < a → A (n + i) = S.2 4 i) → AW g M_RF_pass (aw_rm 1 21 0 0) (aw_F g 0 0 (fun r h => r = some (.int (nI (n + o))) ∧ ∃ A : Nat → Int32, h = HP (si (sa S 2 A) 101 (nI (n + o))) ∧ (∀ i, i < n → A i = S.2 2 i) ∧ ∀ i, i < o → A (n + i) = S.2 4 i)) 22 [some (.ref 0), some (.int (nI a))] [] (HP (si (sa S 2 A) 101 (nI (n + a)))) 0 0 := by
  intro m
  induction m with
  | zero =>
    intro a A hk e1 e2
    refine aw_iload_n (aw_d q_RF_pass 11 rfl) rfl rfl ?_
    refine aw_aload_n (aw_d q_RF_pass 12 rfl) rfl rfl rfl ?_
    refine aw_getf (aw_d q_RF_pass 13 rfl) fL_RF_16_RF rfl rfl ?_
    refine aw_getf (v := .int (nI (o))) (aw_d q_RF_pass 14 rfl) fL_RF_100_By rfl (gk ho) ?_
    refine aw_icmpN_ge (tgt := 54) (aw_d q_RF_pass 15 rfl) (by decide) (by omega) (by omega) (fun c30 => ?_) (fun c30 => by exfalso; omega)
    refine aw_aload_n (aw_d q_RF_pass 25 rfl) rfl rfl rfl ?_
    refine aw_getf (aw_d q_RF_pass 26 rfl) fL_RF_10_RF rfl rfl ?_
    refine aw_getf (v := .int (nI ((n + a)))) (aw_d q_RF_pass 27 rfl) fL_RF_100_By rfl (gk rfl) ?_
    exact aw_iret (aw_d q_RF_pass 28 rfl) rfl (⟨by rw [show n + a = n + o by omega], A, by rw [show n + a = n + o by omega], e1, fun i hi => e2 i (by omega)⟩)
  | succ m ih =>
    intro a A hk e1 e2
    refine aw_iload_n (aw_d q_RF_pass 11 rfl) rfl rfl ?_
    refine aw_aload_n (aw_d q_RF_pass 12 rfl) rfl rfl rfl ?_
    refine aw_getf (aw_d q_RF_pass 13 rfl) fL_RF_16_RF rfl rfl ?_
    refine aw_getf (v := .int (nI (o))) (aw_d q_RF_pass 14 rfl) fL_RF_100_By rfl (gk ho) ?_
    refine aw_icmpN_ge (tgt := 54) (aw_d q_RF_pass 15 rfl) (by decide) (by omega) (by omega) (fun c30 => by exfalso; omega) (fun c30 => ?_)
    refine aw_aload_n (aw_d q_RF_pass 16 rfl) rfl rfl rfl ?_
    refine aw_getf (aw_d q_RF_pass 17 rfl) fL_RF_10_RF rfl rfl ?_
    refine aw_aload_n (aw_d q_RF_pass 18 rfl) rfl rfl rfl ?_
    refine aw_getf (aw_d q_RF_pass 19 rfl) fL_RF_16_RF rfl rfl ?_
    refine aw_iload_n (aw_d q_RF_pass 20 rfl) rfl rfl ?_
    refine cVr (aw_d q_RF_pass 21 rfl) (sp_By_get_3 (n := o) (k := a) ho o3 (by omega)) vL_RF_104_By rfl rfl rfl rfl rfl rfl ⟨aw_le rfl, aw_le rfl⟩ ?_
    refine cVv (aw_d q_RF_pass 22 rfl) (sp_By_add_1 (n := n + a) rfl (by omega)) vL_RF_96_By rfl rfl rfl rfl rfl rfl ⟨aw_le rfl, aw_le rfl⟩ ?_
    refine aw_iinc (aw_d q_RF_pass 23 rfl) rfl (ii1 _) (aw_le rfl) rfl ?_
    refine aw_goto (tgt := 22) (aw_d q_RF_pass 24 rfl) (by decide) ?_
    refine AW.to (ih (a + 1) (upd A (n + a) (S.2 4 a)) (by omega) (fun i hi => ?_) (fun i hi => ?_)) rfl rfl rfl rfl
    · rw [pk_un (by omega)]; exact e1 i hi
    · by_cases hia : i = a
      · rw [hia, pk_us]
      · rw [pk_un (by omega)]; exact e2 i (by omega)
set_option maxRecDepth 20000 in
theorem sp_RF_pass {g : aw_G} {S : aw_S} {n o : Nat} (hn : S.1 101 = nI n) (h3 : n ≤ 3000) (ho : S.1 301 = nI o) (o3 : o ≤ 3000) (hj : n + o ≤ 3000) : Sp g M_RF_pass 1 21 0 0 [.ref 0] (HP S) (fun r h => r = some (.int (nI (n + o))) ∧ ∃ A : Nat → Int32, h = HP (si (sa S 2 A) 101 (nI (n + o))) ∧ (∀ i, i < n → A i = S.2 2 i) ∧ ∀ i, i < o → A (n + i) = S.2 4 i) := by
  refine Sp.of rfl (aw_le rfl) ?_
  refine aw_aload_n (aw_d q_RF_pass 0 rfl) rfl rfl rfl ?_
  refine aw_getf (aw_d q_RF_pass 1 rfl) fL_RF_10_RF rfl rfl ?_
  refine aw_aload_n (aw_d q_RF_pass 2 rfl) rfl rfl rfl ?_
  refine aw_getf (aw_d q_RF_pass 3 rfl) fL_RF_16_RF rfl rfl ?_
  refine aw_getf (v := .int (nI (o))) (aw_d q_RF_pass 4 rfl) fL_RF_100_By rfl (gk ho) ?_
  refine cVr (aw_d q_RF_pass 5 rfl) (sp_By_hasRoom_1 hn h3 o3) vL_RF_92_By rfl rfl rfl rfl rfl rfl ⟨aw_le rfl, aw_le rfl⟩ ?_
  refine aw_ifB_ne (tgt := 20) (aw_d q_RF_pass 6 rfl) (by decide) (fun c14 => ?_) (fun c14 => by omega)
  refine aw_iconst (v := nI 0) (aw_d q_RF_pass 9 rfl) (by decide) ?_
  refine aw_istore_n (aw_d q_RF_pass 10 rfl) rfl (aw_le rfl) rfl ?_
  exact AW.to (lp_RF_pass (g := g) hn h3 ho o3 hj o 0 (S.2 2) (by omega) (fun i hi => rfl) (fun i hi => by omega)) rfl rfl rfl (by show HP S = HP (si (sa S 2 (S.2 2)) 101 (nI (n + 0))); rw [Nat.add_zero, ← hn]; exact hp_same S)
set_option maxRecDepth 20000 in
theorem sp_RF_passF {g : aw_G} {S : aw_S} {n o : Nat} (hn : S.1 101 = nI n) (h3 : n ≤ 3000) (ho : S.1 301 = nI o) (o3 : o ≤ 3000) (hj : 3000 < n + o) : Sp g M_RF_pass 1 21 0 0 [.ref 0] (HP S) (fun r h => r = some (.int (-3)) ∧ h = HP S) := by
  refine Sp.of rfl (aw_le rfl) ?_
  refine aw_aload_n (aw_d q_RF_pass 0 rfl) rfl rfl rfl ?_
  refine aw_getf (aw_d q_RF_pass 1 rfl) fL_RF_10_RF rfl rfl ?_
  refine aw_aload_n (aw_d q_RF_pass 2 rfl) rfl rfl rfl ?_
  refine aw_getf (aw_d q_RF_pass 3 rfl) fL_RF_16_RF rfl rfl ?_
  refine aw_getf (v := .int (nI (o))) (aw_d q_RF_pass 4 rfl) fL_RF_100_By rfl (gk ho) ?_
  refine cVr (aw_d q_RF_pass 5 rfl) (sp_By_hasRoom_1 hn h3 o3) vL_RF_92_By rfl rfl rfl rfl rfl rfl ⟨aw_le rfl, aw_le rfl⟩ ?_
  refine aw_ifB_ne (tgt := 20) (aw_d q_RF_pass 6 rfl) (by decide) (fun c14 => by exfalso; omega) (fun c14 => ?_)
  refine aw_bipush (v := (-3)) (aw_d q_RF_pass 7 rfl) (by decide) ?_
  exact aw_iret (aw_d q_RF_pass 8 rfl) rfl (⟨rfl, rfl⟩)
set_option maxRecDepth 20000 in
theorem sp_RF_at {g : aw_G} {S : aw_S} {o : Nat} {x : Int32} (ho : S.1 301 = nI o) (o3 : o ≤ 3000) : Sp g M_RF_at 1 21 0 0 [.ref 0, .int x] (HP S) (fun r h => r = some (.int (if 0 ≤ x.toInt ∧ x.toInt < o then S.2 4 x.toNatClampNeg else -1)) ∧ h = HP S) := by
  refine Sp.of rfl (aw_le rfl) ?_
  rcases pk_ix x (n := o) (by omega) with hx | hx | ⟨j, hj, rfl⟩
  · have hx : x.toInt < 0 := by have := Int32.lt_iff_toInt_lt.mp hx; simpa using this
    refine aw_iload_n (aw_d q_RF_at 0 rfl) rfl rfl ?_
    refine aw_ifI_lt (tgt := 26) (aw_d q_RF_at 1 rfl) (by decide) (fun c1 => ?_) (fun c1 => by exfalso; omega)
    refine aw_iconst (v := (-1)) (aw_d q_RF_at 12 rfl) (by decide) ?_
    exact aw_iret (aw_d q_RF_at 13 rfl) rfl (⟨by rw [if_neg (by omega)], rfl⟩)
  · have hx := (zi_ge (by omega)).mp hx
    refine aw_iload_n (aw_d q_RF_at 0 rfl) rfl rfl ?_
    refine aw_ifI_lt (tgt := 26) (aw_d q_RF_at 1 rfl) (by decide) (fun c1 => ?_) (fun c1 => ?_)
    · refine aw_iconst (v := (-1)) (aw_d q_RF_at 12 rfl) (by decide) ?_
      exact aw_iret (aw_d q_RF_at 13 rfl) rfl (⟨by rw [if_neg (by omega)], rfl⟩)
    · refine aw_iload_n (aw_d q_RF_at 2 rfl) rfl rfl ?_
      refine aw_aload_n (aw_d q_RF_at 3 rfl) rfl rfl rfl ?_
      refine aw_getf (aw_d q_RF_at 4 rfl) fL_RF_16_RF rfl rfl ?_
      refine aw_getf (v := .int (nI (o))) (aw_d q_RF_at 5 rfl) fL_RF_100_By rfl (gk ho) ?_
      refine aw_icmpI_ge (tgt := 26) (aw_d q_RF_at 6 rfl) (by decide) (by omega) (fun c12 => ?_) (fun c12 => by exfalso; omega)
      refine aw_iconst (v := (-1)) (aw_d q_RF_at 12 rfl) (by decide) ?_
      exact aw_iret (aw_d q_RF_at 13 rfl) rfl (⟨by rw [if_neg (by omega)], rfl⟩)
  · have hz := nI_toInt (n := j) (by omega)
    refine aw_iload_n (aw_d q_RF_at 0 rfl) rfl rfl ?_
    refine aw_ifN_lt (tgt := 26) (aw_d q_RF_at 1 rfl) (by decide) (by omega) (fun c1 => by exfalso; omega) (fun c1 => ?_)
    refine aw_iload_n (aw_d q_RF_at 2 rfl) rfl rfl ?_
    refine aw_aload_n (aw_d q_RF_at 3 rfl) rfl rfl rfl ?_
    refine aw_getf (aw_d q_RF_at 4 rfl) fL_RF_16_RF rfl rfl ?_
    refine aw_getf (v := .int (nI (o))) (aw_d q_RF_at 5 rfl) fL_RF_100_By rfl (gk ho) ?_
    refine aw_icmpN_ge (tgt := 26) (aw_d q_RF_at 6 rfl) (by decide) (by omega) (by omega) (fun c12 => by exfalso; omega) (fun c12 => ?_)
    refine aw_aload_n (aw_d q_RF_at 7 rfl) rfl rfl rfl ?_
    refine aw_getf (aw_d q_RF_at 8 rfl) fL_RF_16_RF rfl rfl ?_
    refine aw_iload_n (aw_d q_RF_at 9 rfl) rfl rfl ?_
    refine cVr (aw_d q_RF_at 10 rfl) (sp_By_get_3 ho o3 hj) vL_RF_104_By rfl rfl rfl rfl rfl rfl ⟨aw_le rfl, aw_le rfl⟩ ?_
    refine aw_goto (tgt := 27) (aw_d q_RF_at 11 rfl) (by decide) ?_
    exact aw_iret (aw_d q_RF_at 13 rfl) rfl (⟨by rw [if_pos (by omega), nI_clamp (by omega)], rfl⟩)
set_option maxRecDepth 20000 in
theorem sp_RF_count {g : aw_G} {S : aw_S} {n o nt nv nr : Nat} (hn : S.1 101 = nI n) (ho : S.1 301 = nI o) (ht : S.1 904 = nI nt) (hv : S.1 1403 = nI nv) (hr : S.1 1404 = nI nr) {x : Int32} : Sp g M_RF_count 0 0 0 0 [.ref 0, .int x] (HP S) (fun r h => r = some (.int (if x.toInt = 0 then nI nv else if x.toInt = 1 then nI nr else if x.toInt = 2 then nI nt else if x.toInt = 3 then nI n else if x.toInt = 4 then nI o else -1)) ∧ h = HP S) := by
  refine Sp.of rfl (aw_le rfl) ?_
  refine aw_iload_n (aw_d q_RF_count 0 rfl) rfl rfl ?_
  rcases (show x.toInt < 0 ∨ (4 : Int) < x.toInt ∨ x.toInt = 0 ∨ x.toInt = 1 ∨ x.toInt = 2 ∨ x.toInt = 3 ∨ x.toInt = 4 by omega) with hsw | hsw | hsw | hsw | hsw | hsw | hsw
  · refine aw_tableOut (tgt := 76) (aw_d q_RF_count 1 rfl) (Or.inl hsw) (by decide) ?_
    refine aw_iconst (v := (-1)) (aw_d q_RF_count 22 rfl) (by decide) ?_
    exact aw_iret (aw_d q_RF_count 23 rfl) rfl (⟨by first | (rw [if_pos hsw]; done) | (rw [if_neg (by omega), if_pos hsw]; done) | (rw [if_neg (by omega), if_neg (by omega), if_pos hsw]; done) | (rw [if_neg (by omega), if_neg (by omega), if_neg (by omega), if_pos hsw]; done) | (rw [if_neg (by omega), if_neg (by omega), if_neg (by omega), if_neg (by omega), if_pos hsw]; done) | (rw [if_neg (by omega), if_neg (by omega), if_neg (by omega), if_neg (by omega), if_neg (by omega)]; done), rfl⟩)
  · refine aw_tableOut (tgt := 76) (aw_d q_RF_count 1 rfl) (Or.inr hsw) (by decide) ?_
    refine aw_iconst (v := (-1)) (aw_d q_RF_count 22 rfl) (by decide) ?_
    exact aw_iret (aw_d q_RF_count 23 rfl) rfl (⟨by first | (rw [if_pos hsw]; done) | (rw [if_neg (by omega), if_pos hsw]; done) | (rw [if_neg (by omega), if_neg (by omega), if_pos hsw]; done) | (rw [if_neg (by omega), if_neg (by omega), if_neg (by omega), if_pos hsw]; done) | (rw [if_neg (by omega), if_neg (by omega), if_neg (by omega), if_neg (by omega), if_pos hsw]; done) | (rw [if_neg (by omega), if_neg (by omega), if_neg (by omega), if_neg (by omega), if_neg (by omega)]; done), rfl⟩)
  · refine aw_tableIn (tgt := 36) (aw_d q_RF_count 1 rfl) (by omega) (by omega) (by rw [hsw]; rfl) (by decide) ?_
    refine aw_aload_n (aw_d q_RF_count 2 rfl) rfl rfl rfl ?_
    refine aw_getf (aw_d q_RF_count 3 rfl) fL_RF_39_RF rfl rfl ?_
    refine aw_getf (v := .int (nI (nv))) (aw_d q_RF_count 4 rfl) fL_RF_157_Tb rfl (gk hv) ?_
    exact aw_iret (aw_d q_RF_count 5 rfl) rfl (⟨by first | (rw [if_pos hsw]; done) | (rw [if_neg (by omega), if_pos hsw]; done) | (rw [if_neg (by omega), if_neg (by omega), if_pos hsw]; done) | (rw [if_neg (by omega), if_neg (by omega), if_neg (by omega), if_pos hsw]; done) | (rw [if_neg (by omega), if_neg (by omega), if_neg (by omega), if_neg (by omega), if_pos hsw]; done) | (rw [if_neg (by omega), if_neg (by omega), if_neg (by omega), if_neg (by omega), if_neg (by omega)]; done), rfl⟩)
  · refine aw_tableIn (tgt := 44) (aw_d q_RF_count 1 rfl) (by omega) (by omega) (by rw [hsw]; rfl) (by decide) ?_
    refine aw_aload_n (aw_d q_RF_count 6 rfl) rfl rfl rfl ?_
    refine aw_getf (aw_d q_RF_count 7 rfl) fL_RF_39_RF rfl rfl ?_
    refine aw_getf (v := .int (nI (nr))) (aw_d q_RF_count 8 rfl) fL_RF_154_Tb rfl (gk hr) ?_
    exact aw_iret (aw_d q_RF_count 9 rfl) rfl (⟨by first | (rw [if_pos hsw]; done) | (rw [if_neg (by omega), if_pos hsw]; done) | (rw [if_neg (by omega), if_neg (by omega), if_pos hsw]; done) | (rw [if_neg (by omega), if_neg (by omega), if_neg (by omega), if_pos hsw]; done) | (rw [if_neg (by omega), if_neg (by omega), if_neg (by omega), if_neg (by omega), if_pos hsw]; done) | (rw [if_neg (by omega), if_neg (by omega), if_neg (by omega), if_neg (by omega), if_neg (by omega)]; done), rfl⟩)
  · refine aw_tableIn (tgt := 52) (aw_d q_RF_count 1 rfl) (by omega) (by omega) (by rw [hsw]; rfl) (by decide) ?_
    refine aw_aload_n (aw_d q_RF_count 10 rfl) rfl rfl rfl ?_
    refine aw_getf (aw_d q_RF_count 11 rfl) fL_RF_32_RF rfl rfl ?_
    refine aw_getf (v := .int (nI (nt))) (aw_d q_RF_count 12 rfl) fL_RF_126_Te rfl (gk ht) ?_
    exact aw_iret (aw_d q_RF_count 13 rfl) rfl (⟨by first | (rw [if_pos hsw]; done) | (rw [if_neg (by omega), if_pos hsw]; done) | (rw [if_neg (by omega), if_neg (by omega), if_pos hsw]; done) | (rw [if_neg (by omega), if_neg (by omega), if_neg (by omega), if_pos hsw]; done) | (rw [if_neg (by omega), if_neg (by omega), if_neg (by omega), if_neg (by omega), if_pos hsw]; done) | (rw [if_neg (by omega), if_neg (by omega), if_neg (by omega), if_neg (by omega), if_neg (by omega)]; done), rfl⟩)
  · refine aw_tableIn (tgt := 60) (aw_d q_RF_count 1 rfl) (by omega) (by omega) (by rw [hsw]; rfl) (by decide) ?_
    refine aw_aload_n (aw_d q_RF_count 14 rfl) rfl rfl rfl ?_
    refine aw_getf (aw_d q_RF_count 15 rfl) fL_RF_10_RF rfl rfl ?_
    refine aw_getf (v := .int (nI (n))) (aw_d q_RF_count 16 rfl) fL_RF_100_By rfl (gk hn) ?_
    exact aw_iret (aw_d q_RF_count 17 rfl) rfl (⟨by first | (rw [if_pos hsw]; done) | (rw [if_neg (by omega), if_pos hsw]; done) | (rw [if_neg (by omega), if_neg (by omega), if_pos hsw]; done) | (rw [if_neg (by omega), if_neg (by omega), if_neg (by omega), if_pos hsw]; done) | (rw [if_neg (by omega), if_neg (by omega), if_neg (by omega), if_neg (by omega), if_pos hsw]; done) | (rw [if_neg (by omega), if_neg (by omega), if_neg (by omega), if_neg (by omega), if_neg (by omega)]; done), rfl⟩)
  · refine aw_tableIn (tgt := 68) (aw_d q_RF_count 1 rfl) (by omega) (by omega) (by rw [hsw]; rfl) (by decide) ?_
    refine aw_aload_n (aw_d q_RF_count 18 rfl) rfl rfl rfl ?_
    refine aw_getf (aw_d q_RF_count 19 rfl) fL_RF_16_RF rfl rfl ?_
    refine aw_getf (v := .int (nI (o))) (aw_d q_RF_count 20 rfl) fL_RF_100_By rfl (gk ho) ?_
    exact aw_iret (aw_d q_RF_count 21 rfl) rfl (⟨by first | (rw [if_pos hsw]; done) | (rw [if_neg (by omega), if_pos hsw]; done) | (rw [if_neg (by omega), if_neg (by omega), if_pos hsw]; done) | (rw [if_neg (by omega), if_neg (by omega), if_neg (by omega), if_pos hsw]; done) | (rw [if_neg (by omega), if_neg (by omega), if_neg (by omega), if_neg (by omega), if_pos hsw]; done) | (rw [if_neg (by omega), if_neg (by omega), if_neg (by omega), if_neg (by omega), if_neg (by omega)]; done), rfl⟩)
set_option maxRecDepth 20000 in
theorem sp_RF_row {g : aw_G} {S : aw_S} {nv nr : Nat} {nl : Nat → Nat} (hB : TbI_14 S nv nr nl) (h24 : nr < 24) : Sp g M_RF_row 3 65 0 0 [.ref 0] (HP S) (fun r h => r = some (.int (nI nr)) ∧ ∃ CD : Nat → Int32, h = HP (sa (si S 1404 (nI (nr + 1))) 17 CD) ∧ (∀ v, v < 6 → CD (nr * 6 + v) = -1) ∧ ∀ j, j < nr * 6 → CD j = S.2 17 j) := by
  refine Sp.of rfl (aw_le rfl) ?_
  refine aw_aload_n (aw_d q_RF_row 0 rfl) rfl rfl rfl ?_
  refine aw_getf (aw_d q_RF_row 1 rfl) fL_RF_39_RF rfl rfl ?_
  refine cVr (aw_d q_RF_row 2 rfl) (sp_Tb_hasRoomForRow_14 hB) vL_RF_164_Tb rfl rfl rfl rfl rfl rfl ⟨aw_le rfl, aw_le rfl⟩ ?_
  refine aw_ifB_ne (tgt := 13) (aw_d q_RF_row 3 rfl) (by decide) (fun c7 => ?_) (fun c7 => by omega)
  refine aw_aload_n (aw_d q_RF_row 6 rfl) rfl rfl rfl ?_
  refine aw_getf (aw_d q_RF_row 7 rfl) fL_RF_39_RF rfl rfl ?_
  refine cV (aw_d q_RF_row 8 rfl) (sp_Tb_addRow_14 hB h24) vL_RF_168_Tb rfl rfl rfl rfl rfl rfl ⟨aw_le rfl, aw_le rfl⟩ (fun r17 h17 hp17 => ?_)
  obtain ⟨rfl, CD, rfl, e1, e2⟩ := hp17
  exact aw_iret (aw_d q_RF_row 9 rfl) rfl (⟨rfl, CD, rfl, e1, e2⟩)
set_option maxRecDepth 20000 in
theorem sp_RF_rowF {g : aw_G} {S : aw_S} {nv nr : Nat} {nl : Nat → Nat} (hB : TbI_14 S nv nr nl) (h24 : nr = 24) : Sp g M_RF_row 3 65 0 0 [.ref 0] (HP S) (fun r h => r = some (.int (-3)) ∧ h = HP S) := by
  refine Sp.of rfl (aw_le rfl) ?_
  refine aw_aload_n (aw_d q_RF_row 0 rfl) rfl rfl rfl ?_
  refine aw_getf (aw_d q_RF_row 1 rfl) fL_RF_39_RF rfl rfl ?_
  refine cVr (aw_d q_RF_row 2 rfl) (sp_Tb_hasRoomForRow_14 hB) vL_RF_164_Tb rfl rfl rfl rfl rfl rfl ⟨aw_le rfl, aw_le rfl⟩ ?_
  refine aw_ifB_ne (tgt := 13) (aw_d q_RF_row 3 rfl) (by decide) (fun c7 => by exfalso; (have hB2 := hB.2.1; have hB4 := hB.2.2.2.1; omega)) (fun c7 => ?_)
  refine aw_bipush (v := (-3)) (aw_d q_RF_row 4 rfl) (by decide) ?_
  exact aw_iret (aw_d q_RF_row 5 rfl) rfl (⟨rfl, rfl⟩)
set_option maxRecDepth 20000 in
theorem sp_RF_clear {g : aw_G} {S : aw_S} {nr : Nat} (hr : S.1 1404 = nI nr) : Sp g M_RF_clear 1 20 0 0 [.ref 0] (HP S) (fun r h => r = some (.int (nI nr)) ∧ h = HP (si (si S 1403 (nI 0)) 1404 (nI 0))) := by
  refine Sp.of rfl (aw_le rfl) ?_
  refine aw_aload_n (aw_d q_RF_clear 0 rfl) rfl rfl rfl ?_
  refine aw_getf (aw_d q_RF_clear 1 rfl) fL_RF_39_RF rfl rfl ?_
  refine aw_getf (v := .int (nI (nr))) (aw_d q_RF_clear 2 rfl) fL_RF_154_Tb rfl (gk hr) ?_
  refine aw_istore_n (aw_d q_RF_clear 3 rfl) rfl (aw_le rfl) rfl ?_
  refine aw_aload_n (aw_d q_RF_clear 4 rfl) rfl rfl rfl ?_
  refine aw_getf (aw_d q_RF_clear 5 rfl) fL_RF_39_RF rfl rfl ?_
  refine cVv (aw_d q_RF_clear 6 rfl) (sp_Tb_empty_14) vL_RF_182_Tb rfl rfl rfl rfl rfl rfl ⟨aw_le rfl, aw_le rfl⟩ ?_
  refine aw_iload_n (aw_d q_RF_clear 7 rfl) rfl rfl ?_
  exact aw_iret (aw_d q_RF_clear 8 rfl) rfl (⟨rfl, rfl⟩)
set_option maxRecDepth 20000 in
theorem sp_RF_value {g : aw_G} {S : aw_S} {nv nr : Nat} {nl : Nat → Nat} (hB : TbI_14 S nv nr nl) {x y : Int32} : Sp g M_RF_value 2 43 0 0 [.ref 0, .int x, .int y] (HP S) (fun r h => r = some (.int (if (0 ≤ x.toInt ∧ x.toInt < nr) ∧ 0 ≤ y.toInt ∧ y.toInt < nv then S.2 17 (x.toNatClampNeg * 6 + y.toNatClampNeg) else -2)) ∧ h = HP S) := by
  refine Sp.of rfl (aw_le rfl) ?_
  refine aw_aload_n (aw_d q_RF_value 0 rfl) rfl rfl rfl ?_
  refine aw_getf (aw_d q_RF_value 1 rfl) fL_RF_39_RF rfl rfl ?_
  refine aw_iload_n (aw_d q_RF_value 2 rfl) rfl rfl ?_
  refine aw_iload_n (aw_d q_RF_value 3 rfl) rfl rfl ?_
  refine cVr (aw_d q_RF_value 4 rfl) (sp_Tb_hasCell_14 hB) vL_RF_172_Tb rfl rfl rfl rfl rfl rfl ⟨aw_le rfl, aw_le rfl⟩ ?_
  refine aw_ifB_eq (tgt := 24) (aw_d q_RF_value 5 rfl) (by decide) (fun c9 => ?_) (fun c9 => ?_)
  · refine aw_bipush (v := (-2)) (aw_d q_RF_value 12 rfl) (by decide) ?_
    exact aw_iret (aw_d q_RF_value 13 rfl) rfl (⟨by rw [if_neg c9], rfl⟩)
  · obtain ⟨a, ha, rfl⟩ : ∃ a : Nat, a < nr ∧ x = nI a := ⟨x.toInt.toNat, by omega, by rw [← Int32.toInt_inj, nI_toInt (by (have hB2 := hB.2.1; have hB4 := hB.2.2.2.1; omega))]; omega⟩
    obtain ⟨b, hb, rfl⟩ : ∃ b : Nat, b < nv ∧ y = nI b := ⟨y.toInt.toNat, by omega, by rw [← Int32.toInt_inj, nI_toInt (by (have hB2 := hB.2.1; have hB4 := hB.2.2.2.1; omega))]; omega⟩
    refine aw_aload_n (aw_d q_RF_value 6 rfl) rfl rfl rfl ?_
    refine aw_getf (aw_d q_RF_value 7 rfl) fL_RF_39_RF rfl rfl ?_
    refine aw_iload_n (aw_d q_RF_value 8 rfl) rfl rfl ?_
    refine aw_iload_n (aw_d q_RF_value 9 rfl) rfl rfl ?_
    refine cVr (aw_d q_RF_value 10 rfl) (sp_Tb_cell_14 (r := a) (v := b) (by (have hB2 := hB.2.1; have hB4 := hB.2.2.2.1; omega)) (by (have hB2 := hB.2.1; have hB4 := hB.2.2.2.1; omega))) vL_RF_175_Tb rfl rfl rfl rfl rfl rfl ⟨aw_le rfl, aw_le rfl⟩ ?_
    refine aw_goto (tgt := 26) (aw_d q_RF_value 11 rfl) (by decide) ?_
    exact aw_iret (aw_d q_RF_value 13 rfl) rfl (⟨by rw [if_pos c9, nI_clamp (by (have hB2 := hB.2.1; have hB4 := hB.2.2.2.1; omega)), nI_clamp (by (have hB2 := hB.2.1; have hB4 := hB.2.2.2.1; omega))], rfl⟩)
set_option maxRecDepth 20000 in
theorem sp_RF_putB {g : aw_G} {S : aw_S} {nv nr : Nat} {nl : Nat → Nat} (hB : TbI_14 S nv nr nl) {nt : Nat} {tl : Nat → Nat} (hT : TeI S nt tl) {x y z : Int32} (hno : ¬ (((0 ≤ x.toInt ∧ x.toInt < nr) ∧ 0 ≤ y.toInt ∧ y.toInt < nv) ∧ (z.toInt = -1 ∨ (0 ≤ z.toInt ∧ z.toInt < nt)))) : Sp g M_RF_put 2 44 0 0 [.ref 0, .int x, .int y, .int z] (HP S) (fun r h => r = some (.int (-1)) ∧ h = HP S) := by
  refine Sp.of rfl (aw_le rfl) ?_
  refine aw_aload_n (aw_d q_RF_put 0 rfl) rfl rfl rfl ?_
  refine aw_getf (aw_d q_RF_put 1 rfl) fL_RF_39_RF rfl rfl ?_
  refine aw_iload_n (aw_d q_RF_put 2 rfl) rfl rfl ?_
  refine aw_iload_n (aw_d q_RF_put 3 rfl) rfl rfl ?_
  refine cVr (aw_d q_RF_put 4 rfl) (sp_Tb_hasCell_14 hB) vL_RF_172_Tb rfl rfl rfl rfl rfl rfl ⟨aw_le rfl, aw_le rfl⟩ ?_
  refine aw_ifB_ne (tgt := 14) (aw_d q_RF_put 5 rfl) (by decide) (fun c9 => ?_) (fun c9 => ?_)
  · refine aw_iload_n (aw_d q_RF_put 8 rfl) rfl rfl ?_
    refine aw_iconst (v := (-1)) (aw_d q_RF_put 9 rfl) (by decide) ?_
    refine aw_icmpZ_eq (tgt := 32) (aw_d q_RF_put 10 rfl) (by decide) (fun c16 => by exact absurd ⟨c9, Or.inl (c16.trans (by decide))⟩ hno) (fun c16 => ?_)
    refine aw_aload_n (aw_d q_RF_put 11 rfl) rfl rfl rfl ?_
    refine aw_getf (aw_d q_RF_put 12 rfl) fL_RF_32_RF rfl rfl ?_
    refine aw_iload_n (aw_d q_RF_put 13 rfl) rfl rfl ?_
    refine cVr (aw_d q_RF_put 14 rfl) (sp_Te_has hT) vL_RF_132_Te rfl rfl rfl rfl rfl rfl ⟨aw_le rfl, aw_le rfl⟩ ?_
    refine aw_ifB_ne (tgt := 32) (aw_d q_RF_put 15 rfl) (by decide) (fun c27 => by exact absurd ⟨c9, Or.inr c27⟩ hno) (fun c27 => ?_)
    refine aw_iconst (v := (-1)) (aw_d q_RF_put 16 rfl) (by decide) ?_
    exact aw_iret (aw_d q_RF_put 17 rfl) rfl (⟨rfl, rfl⟩)
  · refine aw_iconst (v := (-1)) (aw_d q_RF_put 6 rfl) (by decide) ?_
    exact aw_iret (aw_d q_RF_put 7 rfl) rfl (⟨rfl, rfl⟩)
set_option maxRecDepth 20000 in
theorem sp_RF_putS {g : aw_G} {S : aw_S} {nv nr : Nat} {nl : Nat → Nat} (hB : TbI_14 S nv nr nl) {nt : Nat} {tl : Nat → Nat} (hT : TeI S nt tl) {a b : Nat} {z : Int32} (ha : a < nr) (hb : b < nv) (hz : z.toInt = -1 ∨ (0 ≤ z.toInt ∧ z.toInt < nt)) (hc : S.2 17 (a * 6 + b) = z) : Sp g M_RF_put 2 44 0 0 [.ref 0, .int (nI a), .int (nI b), .int z] (HP S) (fun r h => r = some (.int (nI 0)) ∧ h = HP S) := by
  refine Sp.of rfl (aw_le rfl) ?_
  have hxa := nI_toInt (n := a) (by (have hB2 := hB.2.1; have hB4 := hB.2.2.2.1; omega))
  have hxb := nI_toInt (n := b) (by (have hB2 := hB.2.1; have hB4 := hB.2.2.2.1; omega))
  refine aw_aload_n (aw_d q_RF_put 0 rfl) rfl rfl rfl ?_
  refine aw_getf (aw_d q_RF_put 1 rfl) fL_RF_39_RF rfl rfl ?_
  refine aw_iload_n (aw_d q_RF_put 2 rfl) rfl rfl ?_
  refine aw_iload_n (aw_d q_RF_put 3 rfl) rfl rfl ?_
  refine cVr (aw_d q_RF_put 4 rfl) (sp_Tb_hasCell_14 hB) vL_RF_172_Tb rfl rfl rfl rfl rfl rfl ⟨aw_le rfl, aw_le rfl⟩ ?_
  refine aw_ifB_ne (tgt := 14) (aw_d q_RF_put 5 rfl) (by decide) (fun c9 => ?_) (fun c9 => by omega)
  refine aw_iload_n (aw_d q_RF_put 8 rfl) rfl rfl ?_
  refine aw_iconst (v := (-1)) (aw_d q_RF_put 9 rfl) (by decide) ?_
  refine aw_icmpZ_eq (tgt := 32) (aw_d q_RF_put 10 rfl) (by decide) (fun c16 => ?_) (fun c16 => ?_)
  · refine aw_aload_n (aw_d q_RF_put 18 rfl) rfl rfl rfl ?_
    refine aw_getf (aw_d q_RF_put 19 rfl) fL_RF_39_RF rfl rfl ?_
    refine aw_iload_n (aw_d q_RF_put 20 rfl) rfl rfl ?_
    refine aw_iload_n (aw_d q_RF_put 21 rfl) rfl rfl ?_
    refine cVr (aw_d q_RF_put 22 rfl) (sp_Tb_cell_14 (r := a) (v := b) (by (have hB2 := hB.2.1; have hB4 := hB.2.2.2.1; omega)) (by (have hB2 := hB.2.1; have hB4 := hB.2.2.2.1; omega))) vL_RF_175_Tb rfl rfl rfl rfl rfl rfl ⟨aw_le rfl, aw_le rfl⟩ ?_
    refine aw_iload_n (aw_d q_RF_put 23 rfl) rfl rfl ?_
    refine aw_icmpZ_ne (tgt := 47) (aw_d q_RF_put 24 rfl) (by decide) (fun c42 => by exact absurd (by rw [hc]) c42) (fun c42 => ?_)
    refine aw_iconst (v := nI 0) (aw_d q_RF_put 25 rfl) (by decide) ?_
    exact aw_iret (aw_d q_RF_put 26 rfl) rfl (⟨rfl, rfl⟩)
  · refine aw_aload_n (aw_d q_RF_put 11 rfl) rfl rfl rfl ?_
    refine aw_getf (aw_d q_RF_put 12 rfl) fL_RF_32_RF rfl rfl ?_
    refine aw_iload_n (aw_d q_RF_put 13 rfl) rfl rfl ?_
    refine cVr (aw_d q_RF_put 14 rfl) (sp_Te_has hT) vL_RF_132_Te rfl rfl rfl rfl rfl rfl ⟨aw_le rfl, aw_le rfl⟩ ?_
    refine aw_ifB_ne (tgt := 32) (aw_d q_RF_put 15 rfl) (by decide) (fun c27 => ?_) (fun c27 => by exact absurd (hz.resolve_left (fun q => c16 (q.trans (by decide)))) c27)
    refine aw_aload_n (aw_d q_RF_put 18 rfl) rfl rfl rfl ?_
    refine aw_getf (aw_d q_RF_put 19 rfl) fL_RF_39_RF rfl rfl ?_
    refine aw_iload_n (aw_d q_RF_put 20 rfl) rfl rfl ?_
    refine aw_iload_n (aw_d q_RF_put 21 rfl) rfl rfl ?_
    refine cVr (aw_d q_RF_put 22 rfl) (sp_Tb_cell_14 (r := a) (v := b) (by (have hB2 := hB.2.1; have hB4 := hB.2.2.2.1; omega)) (by (have hB2 := hB.2.1; have hB4 := hB.2.2.2.1; omega))) vL_RF_175_Tb rfl rfl rfl rfl rfl rfl ⟨aw_le rfl, aw_le rfl⟩ ?_
    refine aw_iload_n (aw_d q_RF_put 23 rfl) rfl rfl ?_
    refine aw_icmpZ_ne (tgt := 47) (aw_d q_RF_put 24 rfl) (by decide) (fun c42 => by exact absurd (by rw [hc]) c42) (fun c42 => ?_)
    refine aw_iconst (v := nI 0) (aw_d q_RF_put 25 rfl) (by decide) ?_
    exact aw_iret (aw_d q_RF_put 26 rfl) rfl (⟨rfl, rfl⟩)
set_option maxRecDepth 20000 in
theorem sp_RF_putD {g : aw_G} {S : aw_S} {nv nr : Nat} {nl : Nat → Nat} (hB : TbI_14 S nv nr nl) {nt : Nat} {tl : Nat → Nat} (hT : TeI S nt tl) {a b : Nat} {z : Int32} (ha : a < nr) (hb : b < nv) (hz : z.toInt = -1 ∨ (0 ≤ z.toInt ∧ z.toInt < nt)) (hc : S.2 17 (a * 6 + b) ≠ z) : Sp g M_RF_put 2 44 0 0 [.ref 0, .int (nI a), .int (nI b), .int z] (HP S) (fun r h => r = some (.int (nI 1)) ∧ h = HP (sa S 17 (upd (S.2 17) (a * 6 + b) z))) := by
  refine Sp.of rfl (aw_le rfl) ?_
  have hxa := nI_toInt (n := a) (by (have hB2 := hB.2.1; have hB4 := hB.2.2.2.1; omega))
  have hxb := nI_toInt (n := b) (by (have hB2 := hB.2.1; have hB4 := hB.2.2.2.1; omega))
  refine aw_aload_n (aw_d q_RF_put 0 rfl) rfl rfl rfl ?_
  refine aw_getf (aw_d q_RF_put 1 rfl) fL_RF_39_RF rfl rfl ?_
  refine aw_iload_n (aw_d q_RF_put 2 rfl) rfl rfl ?_
  refine aw_iload_n (aw_d q_RF_put 3 rfl) rfl rfl ?_
  refine cVr (aw_d q_RF_put 4 rfl) (sp_Tb_hasCell_14 hB) vL_RF_172_Tb rfl rfl rfl rfl rfl rfl ⟨aw_le rfl, aw_le rfl⟩ ?_
  refine aw_ifB_ne (tgt := 14) (aw_d q_RF_put 5 rfl) (by decide) (fun c9 => ?_) (fun c9 => by omega)
  refine aw_iload_n (aw_d q_RF_put 8 rfl) rfl rfl ?_
  refine aw_iconst (v := (-1)) (aw_d q_RF_put 9 rfl) (by decide) ?_
  refine aw_icmpZ_eq (tgt := 32) (aw_d q_RF_put 10 rfl) (by decide) (fun c16 => ?_) (fun c16 => ?_)
  · refine aw_aload_n (aw_d q_RF_put 18 rfl) rfl rfl rfl ?_
    refine aw_getf (aw_d q_RF_put 19 rfl) fL_RF_39_RF rfl rfl ?_
    refine aw_iload_n (aw_d q_RF_put 20 rfl) rfl rfl ?_
    refine aw_iload_n (aw_d q_RF_put 21 rfl) rfl rfl ?_
    refine cVr (aw_d q_RF_put 22 rfl) (sp_Tb_cell_14 (r := a) (v := b) (by (have hB2 := hB.2.1; have hB4 := hB.2.2.2.1; omega)) (by (have hB2 := hB.2.1; have hB4 := hB.2.2.2.1; omega))) vL_RF_175_Tb rfl rfl rfl rfl rfl rfl ⟨aw_le rfl, aw_le rfl⟩ ?_
    refine aw_iload_n (aw_d q_RF_put 23 rfl) rfl rfl ?_
    refine aw_icmpZ_ne (tgt := 47) (aw_d q_RF_put 24 rfl) (by decide) (fun c42 => ?_) (fun c42 => by exact absurd (Int32.toInt_inj.mp c42) hc)
    refine aw_aload_n (aw_d q_RF_put 27 rfl) rfl rfl rfl ?_
    refine aw_getf (aw_d q_RF_put 28 rfl) fL_RF_39_RF rfl rfl ?_
    refine aw_iload_n (aw_d q_RF_put 29 rfl) rfl rfl ?_
    refine aw_iload_n (aw_d q_RF_put 30 rfl) rfl rfl ?_
    refine aw_iload_n (aw_d q_RF_put 31 rfl) rfl rfl ?_
    refine cVv (aw_d q_RF_put 32 rfl) (sp_Tb_setCell_14 (r := a) (v := b) (by (have hB2 := hB.2.1; have hB4 := hB.2.2.2.1; omega)) (by (have hB2 := hB.2.1; have hB4 := hB.2.2.2.1; omega))) vL_RF_178_Tb rfl rfl rfl rfl rfl rfl ⟨aw_le rfl, aw_le rfl⟩ ?_
    refine aw_iconst (v := nI 1) (aw_d q_RF_put 33 rfl) (by decide) ?_
    exact aw_iret (aw_d q_RF_put 34 rfl) rfl (⟨rfl, rfl⟩)
  · refine aw_aload_n (aw_d q_RF_put 11 rfl) rfl rfl rfl ?_
    refine aw_getf (aw_d q_RF_put 12 rfl) fL_RF_32_RF rfl rfl ?_
    refine aw_iload_n (aw_d q_RF_put 13 rfl) rfl rfl ?_
    refine cVr (aw_d q_RF_put 14 rfl) (sp_Te_has hT) vL_RF_132_Te rfl rfl rfl rfl rfl rfl ⟨aw_le rfl, aw_le rfl⟩ ?_
    refine aw_ifB_ne (tgt := 32) (aw_d q_RF_put 15 rfl) (by decide) (fun c27 => ?_) (fun c27 => by exact absurd (hz.resolve_left (fun q => c16 (q.trans (by decide)))) c27)
    refine aw_aload_n (aw_d q_RF_put 18 rfl) rfl rfl rfl ?_
    refine aw_getf (aw_d q_RF_put 19 rfl) fL_RF_39_RF rfl rfl ?_
    refine aw_iload_n (aw_d q_RF_put 20 rfl) rfl rfl ?_
    refine aw_iload_n (aw_d q_RF_put 21 rfl) rfl rfl ?_
    refine cVr (aw_d q_RF_put 22 rfl) (sp_Tb_cell_14 (r := a) (v := b) (by (have hB2 := hB.2.1; have hB4 := hB.2.2.2.1; omega)) (by (have hB2 := hB.2.1; have hB4 := hB.2.2.2.1; omega))) vL_RF_175_Tb rfl rfl rfl rfl rfl rfl ⟨aw_le rfl, aw_le rfl⟩ ?_
    refine aw_iload_n (aw_d q_RF_put 23 rfl) rfl rfl ?_
    refine aw_icmpZ_ne (tgt := 47) (aw_d q_RF_put 24 rfl) (by decide) (fun c42 => ?_) (fun c42 => by exact absurd (Int32.toInt_inj.mp c42) hc)
    refine aw_aload_n (aw_d q_RF_put 27 rfl) rfl rfl rfl ?_
    refine aw_getf (aw_d q_RF_put 28 rfl) fL_RF_39_RF rfl rfl ?_
    refine aw_iload_n (aw_d q_RF_put 29 rfl) rfl rfl ?_
    refine aw_iload_n (aw_d q_RF_put 30 rfl) rfl rfl ?_
    refine aw_iload_n (aw_d q_RF_put 31 rfl) rfl rfl ?_
    refine cVv (aw_d q_RF_put 32 rfl) (sp_Tb_setCell_14 (r := a) (v := b) (by (have hB2 := hB.2.1; have hB4 := hB.2.2.2.1; omega)) (by (have hB2 := hB.2.1; have hB4 := hB.2.2.2.1; omega))) vL_RF_178_Tb rfl rfl rfl rfl rfl rfl ⟨aw_le rfl, aw_le rfl⟩ ?_
    refine aw_iconst (v := nI 1) (aw_d q_RF_put 33 rfl) (by decide) ?_
    exact aw_iret (aw_d q_RF_put 34 rfl) rfl (⟨rfl, rfl⟩)
