/-! THE HEAP OF THE RUN: 56 cells. S.1 (100 * c + k): what int field k of cell c holds; S.2 c: what array c holds. -/
abbrev aw_S : Type := (Nat → Int32) × (Nat → Nat → Int32)
def si (S : aw_S) (k : Nat) (v : Int32) : aw_S := (upd S.1 k v, S.2)
def sa (S : aw_S) (c : Nat) (f : Nat → Int32) : aw_S := (S.1, va_up S.2 c f)
theorem si_1 (S : aw_S) (k j : Nat) (v : Int32) : (si S k v).1 j = if j = k then v else S.1 j := rfl
theorem si_2 (S : aw_S) (k : Nat) (v : Int32) : (si S k v).2 = S.2 := rfl
theorem sa_1 (S : aw_S) (c : Nat) (f : Nat → Int32) : (sa S c f).1 = S.1 := rfl
theorem sa_2 (S : aw_S) (c j : Nat) (f : Nat → Int32) : (sa S c f).2 j = if j = c then f else S.2 j := rfl
theorem aw_zn {v : Int32} (h : v = 0 ∨ v = 1) : narrow .boolean (.int v) = .int v := by rcases h with rfl | rfl <;> rfl
theorem aw_zf {v : Int32} (h : v = 0 ∨ v = 1) : fits .boolean (.int v) = true := by rcases h with rfl | rfl <;> rfl
theorem aw_le {a b : Nat} (h : Nat.ble a b = true) : a ≤ b := Nat.le_of_ble_eq_true h
def HP (S : aw_S) : aw_hp := [.inr (9, [.ref 1, .ref 3, .ref 5, .ref 7, .ref 9, .ref 14, .ref 18, .ref 22, .int (S.1 8), .ref 26, .ref 29, .ref 30, .ref 31, .ref 32]),
  .inr (0, [.ref 2, .int (S.1 101), .int (S.1 102)]),
  .inl (0, 3000, .inl (S.2 2)),
  .inr (0, [.ref 4, .int (S.1 301), .int (S.1 302)]),
  .inl (0, 3000, .inl (S.2 4)),
  .inr (0, [.ref 6, .int (S.1 501), .int (S.1 502)]),
  .inl (0, 3000, .inl (S.2 6)),
  .inr (1, [.ref 8, .int (S.1 701)]),
  .inl (0, 20, .inl (S.2 8)),
  .inr (2, [.ref 10, .ref 11, .ref 12, .ref 13, .int (S.1 904)]),
  .inl (0, 204, .inl (S.2 10)),
  .inl (0, 204, .inl (S.2 11)),
  .inl (0, 204, .inl (S.2 12)),
  .inl (0, 4080, .inl (S.2 13)),
  .inr (3, [.ref 15, .ref 16, .ref 17, .int (S.1 1403), .int (S.1 1404)]),
  .inl (0, 48, .inl (S.2 15)),
  .inl (0, 6, .inl (S.2 16)),
  .inl (0, 144, .inl (S.2 17)),
  .inr (3, [.ref 19, .ref 20, .ref 21, .int (S.1 1803), .int (S.1 1804)]),
  .inl (0, 48, .inl (S.2 19)),
  .inl (0, 6, .inl (S.2 20)),
  .inl (0, 144, .inl (S.2 21)),
  .inr (3, [.ref 23, .ref 24, .ref 25, .int (S.1 2203), .int (S.1 2204)]),
  .inl (0, 48, .inl (S.2 23)),
  .inl (0, 6, .inl (S.2 24)),
  .inl (0, 144, .inl (S.2 25)),
  .inr (4, [.ref 1, .int (S.1 2601), .int (S.1 2602), .int (S.1 2603), .int (S.1 2604), .int (S.1 2605), .int (S.1 2606), .ref 27]),
  .inr (1, [.ref 28, .int (S.1 2701)]),
  .inl (0, 20, .inl (S.2 28)),
  .inr (5, [.ref 26, .ref 5, .ref 9]),
  .inr (6, [.ref 26, .ref 5, .ref 9]),
  .inr (7, [.ref 26, .ref 5, .ref 9, .retAddr 0, .int 44, .retAddr 1]),
  .inr (8, [.ref 26, .ref 5, .ref 9, .retAddr 2, .int 9, .retAddr 3]),
  .inr (10, [.int (S.1 3300), .ref 34, .int (S.1 3302), .ref 35, .int (S.1 3304), .ref 36, .int (S.1 3306), .ref 37, .ref 38, .ref 39, .ref 40, .int (S.1 3311), .ref 41, .ref 42, .int (S.1 3314), .ref 43, .int (S.1 3316), .int (S.1 3317), .ref 44, .ref 45, .int (S.1 3320), .ref 46, .ref 47, .int (S.1 3323), .ref 48, .ref 49, .int (S.1 3326), .ref 50, .ref 51, .ref 52, .ref 53, .int (S.1 3331), .int (S.1 3332), .int (S.1 3333), .int (S.1 3334), .ref 54, .ref 55]),
  .inl (0, 3000, .inl (S.2 34)),
  .inl (0, 3000, .inl (S.2 35)),
  .inl (0, 3000, .inl (S.2 36)),
  .inl (0, 61, .inl (S.2 37)),
  .inl (0, 61, .inl (S.2 38)),
  .inl (0, 61, .inl (S.2 39)),
  .inl (0, 1220, .inl (S.2 40)),
  .inl (0, 6, .inl (S.2 41)),
  .inl (0, 48, .inl (S.2 42)),
  .inl (0, 144, .inl (S.2 43)),
  .inl (0, 6, .inl (S.2 44)),
  .inl (0, 48, .inl (S.2 45)),
  .inl (0, 144, .inl (S.2 46)),
  .inl (1, 24, .inl (S.2 47)),
  .inl (0, 6, .inl (S.2 48)),
  .inl (0, 48, .inl (S.2 49)),
  .inl (0, 144, .inl (S.2 50)),
  .inl (0, 144, .inl (S.2 51)),
  .inl (0, 144, .inl (S.2 52)),
  .inl (0, 2880, .inl (S.2 53)),
  .inl (0, 20, .inl (S.2 54)),
  .inl (0, 144, .inl (S.2 55))]
section AWH
variable {g : aw_G} {M : aw_M} {rm : Room} {F : aw_E} {pc : Nat} {ls : List (Option Value)} {st : List Value} {S : aw_S} {cells slots : Nat}
theorem wi_0_8 {index : Nat} {v : Int32} (hd : decode M.2.1 pc = .ok (.putfield index, 3)) (hf : aw_pf M.1.cls index 9 8 .boolean false) (hz : v = 0 ∨ v = 1) (kk : AW g M rm F (pc + 3) ls st (HP (si S 8 v)) cells slots) : AW g M rm F pc ls (.int v :: .ref 0 :: st) (HP S) cells slots := aw_putf hd hf rfl (aw_le rfl) (aw_zn hz) (aw_zf hz) kk
theorem wi_1_1 {index : Nat} {v : Int32} (hd : decode M.2.1 pc = .ok (.putfield index, 3)) (hf : aw_pf M.1.cls index 0 1 .int false) (kk : AW g M rm F (pc + 3) ls st (HP (si S 101 v)) cells slots) : AW g M rm F pc ls (.int v :: .ref 1 :: st) (HP S) cells slots := aw_putf hd hf rfl (aw_le rfl) rfl rfl kk
theorem wi_1_2 {index : Nat} {v : Int32} (hd : decode M.2.1 pc = .ok (.putfield index, 3)) (hf : aw_pf M.1.cls index 0 2 .boolean false) (hz : v = 0 ∨ v = 1) (kk : AW g M rm F (pc + 3) ls st (HP (si S 102 v)) cells slots) : AW g M rm F pc ls (.int v :: .ref 1 :: st) (HP S) cells slots := aw_putf hd hf rfl (aw_le rfl) (aw_zn hz) (aw_zf hz) kk
theorem wn_2 {k : Nat} {x : Int32} (hd : decode M.2.1 pc = .ok (.iastore, 1)) (hk : k < 3000) (kk : AW g M rm F (pc + 1) ls st (HP (sa S 2 (upd (S.2 2) k x))) cells slots) : AW g M rm F pc ls (.int x :: .int (nI k) :: .ref 2 :: st) (HP S) cells slots := aw_iast hd rfl (vp_in_nI hk (aw_le rfl)) (by rw [nI_clamp (Nat.lt_trans hk (aw_le rfl))]; exact kk)
theorem wa_2 {i x : Int32} (hd : decode M.2.1 pc = .ok (.iastore, 1)) (hi : vp_in i 3000) (kk : AW g M rm F (pc + 1) ls st (HP (sa S 2 (upd (S.2 2) i.toNatClampNeg x))) cells slots) : AW g M rm F pc ls (.int x :: .int i :: .ref 2 :: st) (HP S) cells slots := aw_iast hd rfl hi kk
theorem wi_3_1 {index : Nat} {v : Int32} (hd : decode M.2.1 pc = .ok (.putfield index, 3)) (hf : aw_pf M.1.cls index 0 1 .int false) (kk : AW g M rm F (pc + 3) ls st (HP (si S 301 v)) cells slots) : AW g M rm F pc ls (.int v :: .ref 3 :: st) (HP S) cells slots := aw_putf hd hf rfl (aw_le rfl) rfl rfl kk
theorem wi_3_2 {index : Nat} {v : Int32} (hd : decode M.2.1 pc = .ok (.putfield index, 3)) (hf : aw_pf M.1.cls index 0 2 .boolean false) (hz : v = 0 ∨ v = 1) (kk : AW g M rm F (pc + 3) ls st (HP (si S 302 v)) cells slots) : AW g M rm F pc ls (.int v :: .ref 3 :: st) (HP S) cells slots := aw_putf hd hf rfl (aw_le rfl) (aw_zn hz) (aw_zf hz) kk
theorem wn_4 {k : Nat} {x : Int32} (hd : decode M.2.1 pc = .ok (.iastore, 1)) (hk : k < 3000) (kk : AW g M rm F (pc + 1) ls st (HP (sa S 4 (upd (S.2 4) k x))) cells slots) : AW g M rm F pc ls (.int x :: .int (nI k) :: .ref 4 :: st) (HP S) cells slots := aw_iast hd rfl (vp_in_nI hk (aw_le rfl)) (by rw [nI_clamp (Nat.lt_trans hk (aw_le rfl))]; exact kk)
theorem wa_4 {i x : Int32} (hd : decode M.2.1 pc = .ok (.iastore, 1)) (hi : vp_in i 3000) (kk : AW g M rm F (pc + 1) ls st (HP (sa S 4 (upd (S.2 4) i.toNatClampNeg x))) cells slots) : AW g M rm F pc ls (.int x :: .int i :: .ref 4 :: st) (HP S) cells slots := aw_iast hd rfl hi kk
theorem wi_5_1 {index : Nat} {v : Int32} (hd : decode M.2.1 pc = .ok (.putfield index, 3)) (hf : aw_pf M.1.cls index 0 1 .int false) (kk : AW g M rm F (pc + 3) ls st (HP (si S 501 v)) cells slots) : AW g M rm F pc ls (.int v :: .ref 5 :: st) (HP S) cells slots := aw_putf hd hf rfl (aw_le rfl) rfl rfl kk
theorem wi_5_2 {index : Nat} {v : Int32} (hd : decode M.2.1 pc = .ok (.putfield index, 3)) (hf : aw_pf M.1.cls index 0 2 .boolean false) (hz : v = 0 ∨ v = 1) (kk : AW g M rm F (pc + 3) ls st (HP (si S 502 v)) cells slots) : AW g M rm F pc ls (.int v :: .ref 5 :: st) (HP S) cells slots := aw_putf hd hf rfl (aw_le rfl) (aw_zn hz) (aw_zf hz) kk
theorem wn_6 {k : Nat} {x : Int32} (hd : decode M.2.1 pc = .ok (.iastore, 1)) (hk : k < 3000) (kk : AW g M rm F (pc + 1) ls st (HP (sa S 6 (upd (S.2 6) k x))) cells slots) : AW g M rm F pc ls (.int x :: .int (nI k) :: .ref 6 :: st) (HP S) cells slots := aw_iast hd rfl (vp_in_nI hk (aw_le rfl)) (by rw [nI_clamp (Nat.lt_trans hk (aw_le rfl))]; exact kk)
theorem wa_6 {i x : Int32} (hd : decode M.2.1 pc = .ok (.iastore, 1)) (hi : vp_in i 3000) (kk : AW g M rm F (pc + 1) ls st (HP (sa S 6 (upd (S.2 6) i.toNatClampNeg x))) cells slots) : AW g M rm F pc ls (.int x :: .int i :: .ref 6 :: st) (HP S) cells slots := aw_iast hd rfl hi kk
theorem wi_7_1 {index : Nat} {v : Int32} (hd : decode M.2.1 pc = .ok (.putfield index, 3)) (hf : aw_pf M.1.cls index 1 1 .int false) (kk : AW g M rm F (pc + 3) ls st (HP (si S 701 v)) cells slots) : AW g M rm F pc ls (.int v :: .ref 7 :: st) (HP S) cells slots := aw_putf hd hf rfl (aw_le rfl) rfl rfl kk
theorem wn_8 {k : Nat} {x : Int32} (hd : decode M.2.1 pc = .ok (.iastore, 1)) (hk : k < 20) (kk : AW g M rm F (pc + 1) ls st (HP (sa S 8 (upd (S.2 8) k x))) cells slots) : AW g M rm F pc ls (.int x :: .int (nI k) :: .ref 8 :: st) (HP S) cells slots := aw_iast hd rfl (vp_in_nI hk (aw_le rfl)) (by rw [nI_clamp (Nat.lt_trans hk (aw_le rfl))]; exact kk)
theorem wa_8 {i x : Int32} (hd : decode M.2.1 pc = .ok (.iastore, 1)) (hi : vp_in i 20) (kk : AW g M rm F (pc + 1) ls st (HP (sa S 8 (upd (S.2 8) i.toNatClampNeg x))) cells slots) : AW g M rm F pc ls (.int x :: .int i :: .ref 8 :: st) (HP S) cells slots := aw_iast hd rfl hi kk
theorem wi_9_4 {index : Nat} {v : Int32} (hd : decode M.2.1 pc = .ok (.putfield index, 3)) (hf : aw_pf M.1.cls index 2 4 .int false) (kk : AW g M rm F (pc + 3) ls st (HP (si S 904 v)) cells slots) : AW g M rm F pc ls (.int v :: .ref 9 :: st) (HP S) cells slots := aw_putf hd hf rfl (aw_le rfl) rfl rfl kk
theorem wn_10 {k : Nat} {x : Int32} (hd : decode M.2.1 pc = .ok (.iastore, 1)) (hk : k < 204) (kk : AW g M rm F (pc + 1) ls st (HP (sa S 10 (upd (S.2 10) k x))) cells slots) : AW g M rm F pc ls (.int x :: .int (nI k) :: .ref 10 :: st) (HP S) cells slots := aw_iast hd rfl (vp_in_nI hk (aw_le rfl)) (by rw [nI_clamp (Nat.lt_trans hk (aw_le rfl))]; exact kk)
theorem wa_10 {i x : Int32} (hd : decode M.2.1 pc = .ok (.iastore, 1)) (hi : vp_in i 204) (kk : AW g M rm F (pc + 1) ls st (HP (sa S 10 (upd (S.2 10) i.toNatClampNeg x))) cells slots) : AW g M rm F pc ls (.int x :: .int i :: .ref 10 :: st) (HP S) cells slots := aw_iast hd rfl hi kk
theorem wn_11 {k : Nat} {x : Int32} (hd : decode M.2.1 pc = .ok (.iastore, 1)) (hk : k < 204) (kk : AW g M rm F (pc + 1) ls st (HP (sa S 11 (upd (S.2 11) k x))) cells slots) : AW g M rm F pc ls (.int x :: .int (nI k) :: .ref 11 :: st) (HP S) cells slots := aw_iast hd rfl (vp_in_nI hk (aw_le rfl)) (by rw [nI_clamp (Nat.lt_trans hk (aw_le rfl))]; exact kk)
theorem wa_11 {i x : Int32} (hd : decode M.2.1 pc = .ok (.iastore, 1)) (hi : vp_in i 204) (kk : AW g M rm F (pc + 1) ls st (HP (sa S 11 (upd (S.2 11) i.toNatClampNeg x))) cells slots) : AW g M rm F pc ls (.int x :: .int i :: .ref 11 :: st) (HP S) cells slots := aw_iast hd rfl hi kk
theorem wn_12 {k : Nat} {x : Int32} (hd : decode M.2.1 pc = .ok (.iastore, 1)) (hk : k < 204) (kk : AW g M rm F (pc + 1) ls st (HP (sa S 12 (upd (S.2 12) k x))) cells slots) : AW g M rm F pc ls (.int x :: .int (nI k) :: .ref 12 :: st) (HP S) cells slots := aw_iast hd rfl (vp_in_nI hk (aw_le rfl)) (by rw [nI_clamp (Nat.lt_trans hk (aw_le rfl))]; exact kk)
theorem wa_12 {i x : Int32} (hd : decode M.2.1 pc = .ok (.iastore, 1)) (hi : vp_in i 204) (kk : AW g M rm F (pc + 1) ls st (HP (sa S 12 (upd (S.2 12) i.toNatClampNeg x))) cells slots) : AW g M rm F pc ls (.int x :: .int i :: .ref 12 :: st) (HP S) cells slots := aw_iast hd rfl hi kk
theorem wn_13 {k : Nat} {x : Int32} (hd : decode M.2.1 pc = .ok (.iastore, 1)) (hk : k < 4080) (kk : AW g M rm F (pc + 1) ls st (HP (sa S 13 (upd (S.2 13) k x))) cells slots) : AW g M rm F pc ls (.int x :: .int (nI k) :: .ref 13 :: st) (HP S) cells slots := aw_iast hd rfl (vp_in_nI hk (aw_le rfl)) (by rw [nI_clamp (Nat.lt_trans hk (aw_le rfl))]; exact kk)
theorem wa_13 {i x : Int32} (hd : decode M.2.1 pc = .ok (.iastore, 1)) (hi : vp_in i 4080) (kk : AW g M rm F (pc + 1) ls st (HP (sa S 13 (upd (S.2 13) i.toNatClampNeg x))) cells slots) : AW g M rm F pc ls (.int x :: .int i :: .ref 13 :: st) (HP S) cells slots := aw_iast hd rfl hi kk
theorem wi_14_3 {index : Nat} {v : Int32} (hd : decode M.2.1 pc = .ok (.putfield index, 3)) (hf : aw_pf M.1.cls index 3 3 .int false) (kk : AW g M rm F (pc + 3) ls st (HP (si S 1403 v)) cells slots) : AW g M rm F pc ls (.int v :: .ref 14 :: st) (HP S) cells slots := aw_putf hd hf rfl (aw_le rfl) rfl rfl kk
theorem wi_14_4 {index : Nat} {v : Int32} (hd : decode M.2.1 pc = .ok (.putfield index, 3)) (hf : aw_pf M.1.cls index 3 4 .int false) (kk : AW g M rm F (pc + 3) ls st (HP (si S 1404 v)) cells slots) : AW g M rm F pc ls (.int v :: .ref 14 :: st) (HP S) cells slots := aw_putf hd hf rfl (aw_le rfl) rfl rfl kk
theorem wn_15 {k : Nat} {x : Int32} (hd : decode M.2.1 pc = .ok (.iastore, 1)) (hk : k < 48) (kk : AW g M rm F (pc + 1) ls st (HP (sa S 15 (upd (S.2 15) k x))) cells slots) : AW g M rm F pc ls (.int x :: .int (nI k) :: .ref 15 :: st) (HP S) cells slots := aw_iast hd rfl (vp_in_nI hk (aw_le rfl)) (by rw [nI_clamp (Nat.lt_trans hk (aw_le rfl))]; exact kk)
theorem wa_15 {i x : Int32} (hd : decode M.2.1 pc = .ok (.iastore, 1)) (hi : vp_in i 48) (kk : AW g M rm F (pc + 1) ls st (HP (sa S 15 (upd (S.2 15) i.toNatClampNeg x))) cells slots) : AW g M rm F pc ls (.int x :: .int i :: .ref 15 :: st) (HP S) cells slots := aw_iast hd rfl hi kk
theorem wn_16 {k : Nat} {x : Int32} (hd : decode M.2.1 pc = .ok (.iastore, 1)) (hk : k < 6) (kk : AW g M rm F (pc + 1) ls st (HP (sa S 16 (upd (S.2 16) k x))) cells slots) : AW g M rm F pc ls (.int x :: .int (nI k) :: .ref 16 :: st) (HP S) cells slots := aw_iast hd rfl (vp_in_nI hk (aw_le rfl)) (by rw [nI_clamp (Nat.lt_trans hk (aw_le rfl))]; exact kk)
theorem wa_16 {i x : Int32} (hd : decode M.2.1 pc = .ok (.iastore, 1)) (hi : vp_in i 6) (kk : AW g M rm F (pc + 1) ls st (HP (sa S 16 (upd (S.2 16) i.toNatClampNeg x))) cells slots) : AW g M rm F pc ls (.int x :: .int i :: .ref 16 :: st) (HP S) cells slots := aw_iast hd rfl hi kk
theorem wn_17 {k : Nat} {x : Int32} (hd : decode M.2.1 pc = .ok (.iastore, 1)) (hk : k < 144) (kk : AW g M rm F (pc + 1) ls st (HP (sa S 17 (upd (S.2 17) k x))) cells slots) : AW g M rm F pc ls (.int x :: .int (nI k) :: .ref 17 :: st) (HP S) cells slots := aw_iast hd rfl (vp_in_nI hk (aw_le rfl)) (by rw [nI_clamp (Nat.lt_trans hk (aw_le rfl))]; exact kk)
theorem wa_17 {i x : Int32} (hd : decode M.2.1 pc = .ok (.iastore, 1)) (hi : vp_in i 144) (kk : AW g M rm F (pc + 1) ls st (HP (sa S 17 (upd (S.2 17) i.toNatClampNeg x))) cells slots) : AW g M rm F pc ls (.int x :: .int i :: .ref 17 :: st) (HP S) cells slots := aw_iast hd rfl hi kk
theorem wi_18_3 {index : Nat} {v : Int32} (hd : decode M.2.1 pc = .ok (.putfield index, 3)) (hf : aw_pf M.1.cls index 3 3 .int false) (kk : AW g M rm F (pc + 3) ls st (HP (si S 1803 v)) cells slots) : AW g M rm F pc ls (.int v :: .ref 18 :: st) (HP S) cells slots := aw_putf hd hf rfl (aw_le rfl) rfl rfl kk
theorem wi_18_4 {index : Nat} {v : Int32} (hd : decode M.2.1 pc = .ok (.putfield index, 3)) (hf : aw_pf M.1.cls index 3 4 .int false) (kk : AW g M rm F (pc + 3) ls st (HP (si S 1804 v)) cells slots) : AW g M rm F pc ls (.int v :: .ref 18 :: st) (HP S) cells slots := aw_putf hd hf rfl (aw_le rfl) rfl rfl kk
theorem wn_19 {k : Nat} {x : Int32} (hd : decode M.2.1 pc = .ok (.iastore, 1)) (hk : k < 48) (kk : AW g M rm F (pc + 1) ls st (HP (sa S 19 (upd (S.2 19) k x))) cells slots) : AW g M rm F pc ls (.int x :: .int (nI k) :: .ref 19 :: st) (HP S) cells slots := aw_iast hd rfl (vp_in_nI hk (aw_le rfl)) (by rw [nI_clamp (Nat.lt_trans hk (aw_le rfl))]; exact kk)
theorem wa_19 {i x : Int32} (hd : decode M.2.1 pc = .ok (.iastore, 1)) (hi : vp_in i 48) (kk : AW g M rm F (pc + 1) ls st (HP (sa S 19 (upd (S.2 19) i.toNatClampNeg x))) cells slots) : AW g M rm F pc ls (.int x :: .int i :: .ref 19 :: st) (HP S) cells slots := aw_iast hd rfl hi kk
theorem wn_20 {k : Nat} {x : Int32} (hd : decode M.2.1 pc = .ok (.iastore, 1)) (hk : k < 6) (kk : AW g M rm F (pc + 1) ls st (HP (sa S 20 (upd (S.2 20) k x))) cells slots) : AW g M rm F pc ls (.int x :: .int (nI k) :: .ref 20 :: st) (HP S) cells slots := aw_iast hd rfl (vp_in_nI hk (aw_le rfl)) (by rw [nI_clamp (Nat.lt_trans hk (aw_le rfl))]; exact kk)
theorem wa_20 {i x : Int32} (hd : decode M.2.1 pc = .ok (.iastore, 1)) (hi : vp_in i 6) (kk : AW g M rm F (pc + 1) ls st (HP (sa S 20 (upd (S.2 20) i.toNatClampNeg x))) cells slots) : AW g M rm F pc ls (.int x :: .int i :: .ref 20 :: st) (HP S) cells slots := aw_iast hd rfl hi kk
theorem wn_21 {k : Nat} {x : Int32} (hd : decode M.2.1 pc = .ok (.iastore, 1)) (hk : k < 144) (kk : AW g M rm F (pc + 1) ls st (HP (sa S 21 (upd (S.2 21) k x))) cells slots) : AW g M rm F pc ls (.int x :: .int (nI k) :: .ref 21 :: st) (HP S) cells slots := aw_iast hd rfl (vp_in_nI hk (aw_le rfl)) (by rw [nI_clamp (Nat.lt_trans hk (aw_le rfl))]; exact kk)
theorem wa_21 {i x : Int32} (hd : decode M.2.1 pc = .ok (.iastore, 1)) (hi : vp_in i 144) (kk : AW g M rm F (pc + 1) ls st (HP (sa S 21 (upd (S.2 21) i.toNatClampNeg x))) cells slots) : AW g M rm F pc ls (.int x :: .int i :: .ref 21 :: st) (HP S) cells slots := aw_iast hd rfl hi kk
theorem wi_22_3 {index : Nat} {v : Int32} (hd : decode M.2.1 pc = .ok (.putfield index, 3)) (hf : aw_pf M.1.cls index 3 3 .int false) (kk : AW g M rm F (pc + 3) ls st (HP (si S 2203 v)) cells slots) : AW g M rm F pc ls (.int v :: .ref 22 :: st) (HP S) cells slots := aw_putf hd hf rfl (aw_le rfl) rfl rfl kk
theorem wi_22_4 {index : Nat} {v : Int32} (hd : decode M.2.1 pc = .ok (.putfield index, 3)) (hf : aw_pf M.1.cls index 3 4 .int false) (kk : AW g M rm F (pc + 3) ls st (HP (si S 2204 v)) cells slots) : AW g M rm F pc ls (.int v :: .ref 22 :: st) (HP S) cells slots := aw_putf hd hf rfl (aw_le rfl) rfl rfl kk
theorem wn_23 {k : Nat} {x : Int32} (hd : decode M.2.1 pc = .ok (.iastore, 1)) (hk : k < 48) (kk : AW g M rm F (pc + 1) ls st (HP (sa S 23 (upd (S.2 23) k x))) cells slots) : AW g M rm F pc ls (.int x :: .int (nI k) :: .ref 23 :: st) (HP S) cells slots := aw_iast hd rfl (vp_in_nI hk (aw_le rfl)) (by rw [nI_clamp (Nat.lt_trans hk (aw_le rfl))]; exact kk)
theorem wa_23 {i x : Int32} (hd : decode M.2.1 pc = .ok (.iastore, 1)) (hi : vp_in i 48) (kk : AW g M rm F (pc + 1) ls st (HP (sa S 23 (upd (S.2 23) i.toNatClampNeg x))) cells slots) : AW g M rm F pc ls (.int x :: .int i :: .ref 23 :: st) (HP S) cells slots := aw_iast hd rfl hi kk
theorem wn_24 {k : Nat} {x : Int32} (hd : decode M.2.1 pc = .ok (.iastore, 1)) (hk : k < 6) (kk : AW g M rm F (pc + 1) ls st (HP (sa S 24 (upd (S.2 24) k x))) cells slots) : AW g M rm F pc ls (.int x :: .int (nI k) :: .ref 24 :: st) (HP S) cells slots := aw_iast hd rfl (vp_in_nI hk (aw_le rfl)) (by rw [nI_clamp (Nat.lt_trans hk (aw_le rfl))]; exact kk)
theorem wa_24 {i x : Int32} (hd : decode M.2.1 pc = .ok (.iastore, 1)) (hi : vp_in i 6) (kk : AW g M rm F (pc + 1) ls st (HP (sa S 24 (upd (S.2 24) i.toNatClampNeg x))) cells slots) : AW g M rm F pc ls (.int x :: .int i :: .ref 24 :: st) (HP S) cells slots := aw_iast hd rfl hi kk
theorem wn_25 {k : Nat} {x : Int32} (hd : decode M.2.1 pc = .ok (.iastore, 1)) (hk : k < 144) (kk : AW g M rm F (pc + 1) ls st (HP (sa S 25 (upd (S.2 25) k x))) cells slots) : AW g M rm F pc ls (.int x :: .int (nI k) :: .ref 25 :: st) (HP S) cells slots := aw_iast hd rfl (vp_in_nI hk (aw_le rfl)) (by rw [nI_clamp (Nat.lt_trans hk (aw_le rfl))]; exact kk)
theorem wa_25 {i x : Int32} (hd : decode M.2.1 pc = .ok (.iastore, 1)) (hi : vp_in i 144) (kk : AW g M rm F (pc + 1) ls st (HP (sa S 25 (upd (S.2 25) i.toNatClampNeg x))) cells slots) : AW g M rm F pc ls (.int x :: .int i :: .ref 25 :: st) (HP S) cells slots := aw_iast hd rfl hi kk
theorem wi_26_1 {index : Nat} {v : Int32} (hd : decode M.2.1 pc = .ok (.putfield index, 3)) (hf : aw_pf M.1.cls index 4 1 .int false) (kk : AW g M rm F (pc + 3) ls st (HP (si S 2601 v)) cells slots) : AW g M rm F pc ls (.int v :: .ref 26 :: st) (HP S) cells slots := aw_putf hd hf rfl (aw_le rfl) rfl rfl kk
theorem wi_26_2 {index : Nat} {v : Int32} (hd : decode M.2.1 pc = .ok (.putfield index, 3)) (hf : aw_pf M.1.cls index 4 2 .int false) (kk : AW g M rm F (pc + 3) ls st (HP (si S 2602 v)) cells slots) : AW g M rm F pc ls (.int v :: .ref 26 :: st) (HP S) cells slots := aw_putf hd hf rfl (aw_le rfl) rfl rfl kk
theorem wi_26_3 {index : Nat} {v : Int32} (hd : decode M.2.1 pc = .ok (.putfield index, 3)) (hf : aw_pf M.1.cls index 4 3 .int false) (kk : AW g M rm F (pc + 3) ls st (HP (si S 2603 v)) cells slots) : AW g M rm F pc ls (.int v :: .ref 26 :: st) (HP S) cells slots := aw_putf hd hf rfl (aw_le rfl) rfl rfl kk
theorem wi_26_4 {index : Nat} {v : Int32} (hd : decode M.2.1 pc = .ok (.putfield index, 3)) (hf : aw_pf M.1.cls index 4 4 .int false) (kk : AW g M rm F (pc + 3) ls st (HP (si S 2604 v)) cells slots) : AW g M rm F pc ls (.int v :: .ref 26 :: st) (HP S) cells slots := aw_putf hd hf rfl (aw_le rfl) rfl rfl kk
theorem wi_26_5 {index : Nat} {v : Int32} (hd : decode M.2.1 pc = .ok (.putfield index, 3)) (hf : aw_pf M.1.cls index 4 5 .int false) (kk : AW g M rm F (pc + 3) ls st (HP (si S 2605 v)) cells slots) : AW g M rm F pc ls (.int v :: .ref 26 :: st) (HP S) cells slots := aw_putf hd hf rfl (aw_le rfl) rfl rfl kk
theorem wi_26_6 {index : Nat} {v : Int32} (hd : decode M.2.1 pc = .ok (.putfield index, 3)) (hf : aw_pf M.1.cls index 4 6 .int false) (kk : AW g M rm F (pc + 3) ls st (HP (si S 2606 v)) cells slots) : AW g M rm F pc ls (.int v :: .ref 26 :: st) (HP S) cells slots := aw_putf hd hf rfl (aw_le rfl) rfl rfl kk
theorem wi_27_1 {index : Nat} {v : Int32} (hd : decode M.2.1 pc = .ok (.putfield index, 3)) (hf : aw_pf M.1.cls index 1 1 .int false) (kk : AW g M rm F (pc + 3) ls st (HP (si S 2701 v)) cells slots) : AW g M rm F pc ls (.int v :: .ref 27 :: st) (HP S) cells slots := aw_putf hd hf rfl (aw_le rfl) rfl rfl kk
theorem wn_28 {k : Nat} {x : Int32} (hd : decode M.2.1 pc = .ok (.iastore, 1)) (hk : k < 20) (kk : AW g M rm F (pc + 1) ls st (HP (sa S 28 (upd (S.2 28) k x))) cells slots) : AW g M rm F pc ls (.int x :: .int (nI k) :: .ref 28 :: st) (HP S) cells slots := aw_iast hd rfl (vp_in_nI hk (aw_le rfl)) (by rw [nI_clamp (Nat.lt_trans hk (aw_le rfl))]; exact kk)
theorem wa_28 {i x : Int32} (hd : decode M.2.1 pc = .ok (.iastore, 1)) (hi : vp_in i 20) (kk : AW g M rm F (pc + 1) ls st (HP (sa S 28 (upd (S.2 28) i.toNatClampNeg x))) cells slots) : AW g M rm F pc ls (.int x :: .int i :: .ref 28 :: st) (HP S) cells slots := aw_iast hd rfl hi kk
theorem wi_33_0 {index : Nat} {v : Int32} (hd : decode M.2.1 pc = .ok (.putfield index, 3)) (hf : aw_pf M.1.cls index 10 0 .int false) (kk : AW g M rm F (pc + 3) ls st (HP (si S 3300 v)) cells slots) : AW g M rm F pc ls (.int v :: .ref 33 :: st) (HP S) cells slots := aw_putf hd hf rfl (aw_le rfl) rfl rfl kk
theorem wi_33_2 {index : Nat} {v : Int32} (hd : decode M.2.1 pc = .ok (.putfield index, 3)) (hf : aw_pf M.1.cls index 10 2 .int false) (kk : AW g M rm F (pc + 3) ls st (HP (si S 3302 v)) cells slots) : AW g M rm F pc ls (.int v :: .ref 33 :: st) (HP S) cells slots := aw_putf hd hf rfl (aw_le rfl) rfl rfl kk
theorem wi_33_4 {index : Nat} {v : Int32} (hd : decode M.2.1 pc = .ok (.putfield index, 3)) (hf : aw_pf M.1.cls index 10 4 .int false) (kk : AW g M rm F (pc + 3) ls st (HP (si S 3304 v)) cells slots) : AW g M rm F pc ls (.int v :: .ref 33 :: st) (HP S) cells slots := aw_putf hd hf rfl (aw_le rfl) rfl rfl kk
theorem wi_33_6 {index : Nat} {v : Int32} (hd : decode M.2.1 pc = .ok (.putfield index, 3)) (hf : aw_pf M.1.cls index 10 6 .int false) (kk : AW g M rm F (pc + 3) ls st (HP (si S 3306 v)) cells slots) : AW g M rm F pc ls (.int v :: .ref 33 :: st) (HP S) cells slots := aw_putf hd hf rfl (aw_le rfl) rfl rfl kk
theorem wi_33_11 {index : Nat} {v : Int32} (hd : decode M.2.1 pc = .ok (.putfield index, 3)) (hf : aw_pf M.1.cls index 10 11 .int false) (kk : AW g M rm F (pc + 3) ls st (HP (si S 3311 v)) cells slots) : AW g M rm F pc ls (.int v :: .ref 33 :: st) (HP S) cells slots := aw_putf hd hf rfl (aw_le rfl) rfl rfl kk
theorem wi_33_14 {index : Nat} {v : Int32} (hd : decode M.2.1 pc = .ok (.putfield index, 3)) (hf : aw_pf M.1.cls index 10 14 .int false) (kk : AW g M rm F (pc + 3) ls st (HP (si S 3314 v)) cells slots) : AW g M rm F pc ls (.int v :: .ref 33 :: st) (HP S) cells slots := aw_putf hd hf rfl (aw_le rfl) rfl rfl kk
theorem wi_33_16 {index : Nat} {v : Int32} (hd : decode M.2.1 pc = .ok (.putfield index, 3)) (hf : aw_pf M.1.cls index 10 16 .boolean false) (hz : v = 0 ∨ v = 1) (kk : AW g M rm F (pc + 3) ls st (HP (si S 3316 v)) cells slots) : AW g M rm F pc ls (.int v :: .ref 33 :: st) (HP S) cells slots := aw_putf hd hf rfl (aw_le rfl) (aw_zn hz) (aw_zf hz) kk
theorem wi_33_17 {index : Nat} {v : Int32} (hd : decode M.2.1 pc = .ok (.putfield index, 3)) (hf : aw_pf M.1.cls index 10 17 .int false) (kk : AW g M rm F (pc + 3) ls st (HP (si S 3317 v)) cells slots) : AW g M rm F pc ls (.int v :: .ref 33 :: st) (HP S) cells slots := aw_putf hd hf rfl (aw_le rfl) rfl rfl kk
theorem wi_33_20 {index : Nat} {v : Int32} (hd : decode M.2.1 pc = .ok (.putfield index, 3)) (hf : aw_pf M.1.cls index 10 20 .int false) (kk : AW g M rm F (pc + 3) ls st (HP (si S 3320 v)) cells slots) : AW g M rm F pc ls (.int v :: .ref 33 :: st) (HP S) cells slots := aw_putf hd hf rfl (aw_le rfl) rfl rfl kk
theorem wi_33_23 {index : Nat} {v : Int32} (hd : decode M.2.1 pc = .ok (.putfield index, 3)) (hf : aw_pf M.1.cls index 10 23 .int false) (kk : AW g M rm F (pc + 3) ls st (HP (si S 3323 v)) cells slots) : AW g M rm F pc ls (.int v :: .ref 33 :: st) (HP S) cells slots := aw_putf hd hf rfl (aw_le rfl) rfl rfl kk
theorem wi_33_26 {index : Nat} {v : Int32} (hd : decode M.2.1 pc = .ok (.putfield index, 3)) (hf : aw_pf M.1.cls index 10 26 .int false) (kk : AW g M rm F (pc + 3) ls st (HP (si S 3326 v)) cells slots) : AW g M rm F pc ls (.int v :: .ref 33 :: st) (HP S) cells slots := aw_putf hd hf rfl (aw_le rfl) rfl rfl kk
theorem wi_33_31 {index : Nat} {v : Int32} (hd : decode M.2.1 pc = .ok (.putfield index, 3)) (hf : aw_pf M.1.cls index 10 31 .int false) (kk : AW g M rm F (pc + 3) ls st (HP (si S 3331 v)) cells slots) : AW g M rm F pc ls (.int v :: .ref 33 :: st) (HP S) cells slots := aw_putf hd hf rfl (aw_le rfl) rfl rfl kk
theorem wi_33_32 {index : Nat} {v : Int32} (hd : decode M.2.1 pc = .ok (.putfield index, 3)) (hf : aw_pf M.1.cls index 10 32 .int false) (kk : AW g M rm F (pc + 3) ls st (HP (si S 3332 v)) cells slots) : AW g M rm F pc ls (.int v :: .ref 33 :: st) (HP S) cells slots := aw_putf hd hf rfl (aw_le rfl) rfl rfl kk
theorem wi_33_33 {index : Nat} {v : Int32} (hd : decode M.2.1 pc = .ok (.putfield index, 3)) (hf : aw_pf M.1.cls index 10 33 .int false) (kk : AW g M rm F (pc + 3) ls st (HP (si S 3333 v)) cells slots) : AW g M rm F pc ls (.int v :: .ref 33 :: st) (HP S) cells slots := aw_putf hd hf rfl (aw_le rfl) rfl rfl kk
theorem wi_33_34 {index : Nat} {v : Int32} (hd : decode M.2.1 pc = .ok (.putfield index, 3)) (hf : aw_pf M.1.cls index 10 34 .int false) (kk : AW g M rm F (pc + 3) ls st (HP (si S 3334 v)) cells slots) : AW g M rm F pc ls (.int v :: .ref 33 :: st) (HP S) cells slots := aw_putf hd hf rfl (aw_le rfl) rfl rfl kk
theorem wn_34 {k : Nat} {x : Int32} (hd : decode M.2.1 pc = .ok (.iastore, 1)) (hk : k < 3000) (kk : AW g M rm F (pc + 1) ls st (HP (sa S 34 (upd (S.2 34) k x))) cells slots) : AW g M rm F pc ls (.int x :: .int (nI k) :: .ref 34 :: st) (HP S) cells slots := aw_iast hd rfl (vp_in_nI hk (aw_le rfl)) (by rw [nI_clamp (Nat.lt_trans hk (aw_le rfl))]; exact kk)
theorem wa_34 {i x : Int32} (hd : decode M.2.1 pc = .ok (.iastore, 1)) (hi : vp_in i 3000) (kk : AW g M rm F (pc + 1) ls st (HP (sa S 34 (upd (S.2 34) i.toNatClampNeg x))) cells slots) : AW g M rm F pc ls (.int x :: .int i :: .ref 34 :: st) (HP S) cells slots := aw_iast hd rfl hi kk
theorem wn_35 {k : Nat} {x : Int32} (hd : decode M.2.1 pc = .ok (.iastore, 1)) (hk : k < 3000) (kk : AW g M rm F (pc + 1) ls st (HP (sa S 35 (upd (S.2 35) k x))) cells slots) : AW g M rm F pc ls (.int x :: .int (nI k) :: .ref 35 :: st) (HP S) cells slots := aw_iast hd rfl (vp_in_nI hk (aw_le rfl)) (by rw [nI_clamp (Nat.lt_trans hk (aw_le rfl))]; exact kk)
theorem wa_35 {i x : Int32} (hd : decode M.2.1 pc = .ok (.iastore, 1)) (hi : vp_in i 3000) (kk : AW g M rm F (pc + 1) ls st (HP (sa S 35 (upd (S.2 35) i.toNatClampNeg x))) cells slots) : AW g M rm F pc ls (.int x :: .int i :: .ref 35 :: st) (HP S) cells slots := aw_iast hd rfl hi kk
theorem wn_36 {k : Nat} {x : Int32} (hd : decode M.2.1 pc = .ok (.iastore, 1)) (hk : k < 3000) (kk : AW g M rm F (pc + 1) ls st (HP (sa S 36 (upd (S.2 36) k x))) cells slots) : AW g M rm F pc ls (.int x :: .int (nI k) :: .ref 36 :: st) (HP S) cells slots := aw_iast hd rfl (vp_in_nI hk (aw_le rfl)) (by rw [nI_clamp (Nat.lt_trans hk (aw_le rfl))]; exact kk)
theorem wa_36 {i x : Int32} (hd : decode M.2.1 pc = .ok (.iastore, 1)) (hi : vp_in i 3000) (kk : AW g M rm F (pc + 1) ls st (HP (sa S 36 (upd (S.2 36) i.toNatClampNeg x))) cells slots) : AW g M rm F pc ls (.int x :: .int i :: .ref 36 :: st) (HP S) cells slots := aw_iast hd rfl hi kk
theorem wn_37 {k : Nat} {x : Int32} (hd : decode M.2.1 pc = .ok (.iastore, 1)) (hk : k < 61) (kk : AW g M rm F (pc + 1) ls st (HP (sa S 37 (upd (S.2 37) k x))) cells slots) : AW g M rm F pc ls (.int x :: .int (nI k) :: .ref 37 :: st) (HP S) cells slots := aw_iast hd rfl (vp_in_nI hk (aw_le rfl)) (by rw [nI_clamp (Nat.lt_trans hk (aw_le rfl))]; exact kk)
theorem wa_37 {i x : Int32} (hd : decode M.2.1 pc = .ok (.iastore, 1)) (hi : vp_in i 61) (kk : AW g M rm F (pc + 1) ls st (HP (sa S 37 (upd (S.2 37) i.toNatClampNeg x))) cells slots) : AW g M rm F pc ls (.int x :: .int i :: .ref 37 :: st) (HP S) cells slots := aw_iast hd rfl hi kk
theorem wn_38 {k : Nat} {x : Int32} (hd : decode M.2.1 pc = .ok (.iastore, 1)) (hk : k < 61) (kk : AW g M rm F (pc + 1) ls st (HP (sa S 38 (upd (S.2 38) k x))) cells slots) : AW g M rm F pc ls (.int x :: .int (nI k) :: .ref 38 :: st) (HP S) cells slots := aw_iast hd rfl (vp_in_nI hk (aw_le rfl)) (by rw [nI_clamp (Nat.lt_trans hk (aw_le rfl))]; exact kk)
theorem wa_38 {i x : Int32} (hd : decode M.2.1 pc = .ok (.iastore, 1)) (hi : vp_in i 61) (kk : AW g M rm F (pc + 1) ls st (HP (sa S 38 (upd (S.2 38) i.toNatClampNeg x))) cells slots) : AW g M rm F pc ls (.int x :: .int i :: .ref 38 :: st) (HP S) cells slots := aw_iast hd rfl hi kk
theorem wn_39 {k : Nat} {x : Int32} (hd : decode M.2.1 pc = .ok (.iastore, 1)) (hk : k < 61) (kk : AW g M rm F (pc + 1) ls st (HP (sa S 39 (upd (S.2 39) k x))) cells slots) : AW g M rm F pc ls (.int x :: .int (nI k) :: .ref 39 :: st) (HP S) cells slots := aw_iast hd rfl (vp_in_nI hk (aw_le rfl)) (by rw [nI_clamp (Nat.lt_trans hk (aw_le rfl))]; exact kk)
theorem wa_39 {i x : Int32} (hd : decode M.2.1 pc = .ok (.iastore, 1)) (hi : vp_in i 61) (kk : AW g M rm F (pc + 1) ls st (HP (sa S 39 (upd (S.2 39) i.toNatClampNeg x))) cells slots) : AW g M rm F pc ls (.int x :: .int i :: .ref 39 :: st) (HP S) cells slots := aw_iast hd rfl hi kk
theorem wn_40 {k : Nat} {x : Int32} (hd : decode M.2.1 pc = .ok (.iastore, 1)) (hk : k < 1220) (kk : AW g M rm F (pc + 1) ls st (HP (sa S 40 (upd (S.2 40) k x))) cells slots) : AW g M rm F pc ls (.int x :: .int (nI k) :: .ref 40 :: st) (HP S) cells slots := aw_iast hd rfl (vp_in_nI hk (aw_le rfl)) (by rw [nI_clamp (Nat.lt_trans hk (aw_le rfl))]; exact kk)
theorem wa_40 {i x : Int32} (hd : decode M.2.1 pc = .ok (.iastore, 1)) (hi : vp_in i 1220) (kk : AW g M rm F (pc + 1) ls st (HP (sa S 40 (upd (S.2 40) i.toNatClampNeg x))) cells slots) : AW g M rm F pc ls (.int x :: .int i :: .ref 40 :: st) (HP S) cells slots := aw_iast hd rfl hi kk
theorem wn_41 {k : Nat} {x : Int32} (hd : decode M.2.1 pc = .ok (.iastore, 1)) (hk : k < 6) (kk : AW g M rm F (pc + 1) ls st (HP (sa S 41 (upd (S.2 41) k x))) cells slots) : AW g M rm F pc ls (.int x :: .int (nI k) :: .ref 41 :: st) (HP S) cells slots := aw_iast hd rfl (vp_in_nI hk (aw_le rfl)) (by rw [nI_clamp (Nat.lt_trans hk (aw_le rfl))]; exact kk)
theorem wa_41 {i x : Int32} (hd : decode M.2.1 pc = .ok (.iastore, 1)) (hi : vp_in i 6) (kk : AW g M rm F (pc + 1) ls st (HP (sa S 41 (upd (S.2 41) i.toNatClampNeg x))) cells slots) : AW g M rm F pc ls (.int x :: .int i :: .ref 41 :: st) (HP S) cells slots := aw_iast hd rfl hi kk
theorem wn_42 {k : Nat} {x : Int32} (hd : decode M.2.1 pc = .ok (.iastore, 1)) (hk : k < 48) (kk : AW g M rm F (pc + 1) ls st (HP (sa S 42 (upd (S.2 42) k x))) cells slots) : AW g M rm F pc ls (.int x :: .int (nI k) :: .ref 42 :: st) (HP S) cells slots := aw_iast hd rfl (vp_in_nI hk (aw_le rfl)) (by rw [nI_clamp (Nat.lt_trans hk (aw_le rfl))]; exact kk)
theorem wa_42 {i x : Int32} (hd : decode M.2.1 pc = .ok (.iastore, 1)) (hi : vp_in i 48) (kk : AW g M rm F (pc + 1) ls st (HP (sa S 42 (upd (S.2 42) i.toNatClampNeg x))) cells slots) : AW g M rm F pc ls (.int x :: .int i :: .ref 42 :: st) (HP S) cells slots := aw_iast hd rfl hi kk
theorem wn_43 {k : Nat} {x : Int32} (hd : decode M.2.1 pc = .ok (.iastore, 1)) (hk : k < 144) (kk : AW g M rm F (pc + 1) ls st (HP (sa S 43 (upd (S.2 43) k x))) cells slots) : AW g M rm F pc ls (.int x :: .int (nI k) :: .ref 43 :: st) (HP S) cells slots := aw_iast hd rfl (vp_in_nI hk (aw_le rfl)) (by rw [nI_clamp (Nat.lt_trans hk (aw_le rfl))]; exact kk)
theorem wa_43 {i x : Int32} (hd : decode M.2.1 pc = .ok (.iastore, 1)) (hi : vp_in i 144) (kk : AW g M rm F (pc + 1) ls st (HP (sa S 43 (upd (S.2 43) i.toNatClampNeg x))) cells slots) : AW g M rm F pc ls (.int x :: .int i :: .ref 43 :: st) (HP S) cells slots := aw_iast hd rfl hi kk
theorem wn_44 {k : Nat} {x : Int32} (hd : decode M.2.1 pc = .ok (.iastore, 1)) (hk : k < 6) (kk : AW g M rm F (pc + 1) ls st (HP (sa S 44 (upd (S.2 44) k x))) cells slots) : AW g M rm F pc ls (.int x :: .int (nI k) :: .ref 44 :: st) (HP S) cells slots := aw_iast hd rfl (vp_in_nI hk (aw_le rfl)) (by rw [nI_clamp (Nat.lt_trans hk (aw_le rfl))]; exact kk)
theorem wa_44 {i x : Int32} (hd : decode M.2.1 pc = .ok (.iastore, 1)) (hi : vp_in i 6) (kk : AW g M rm F (pc + 1) ls st (HP (sa S 44 (upd (S.2 44) i.toNatClampNeg x))) cells slots) : AW g M rm F pc ls (.int x :: .int i :: .ref 44 :: st) (HP S) cells slots := aw_iast hd rfl hi kk
theorem wn_45 {k : Nat} {x : Int32} (hd : decode M.2.1 pc = .ok (.iastore, 1)) (hk : k < 48) (kk : AW g M rm F (pc + 1) ls st (HP (sa S 45 (upd (S.2 45) k x))) cells slots) : AW g M rm F pc ls (.int x :: .int (nI k) :: .ref 45 :: st) (HP S) cells slots := aw_iast hd rfl (vp_in_nI hk (aw_le rfl)) (by rw [nI_clamp (Nat.lt_trans hk (aw_le rfl))]; exact kk)
theorem wa_45 {i x : Int32} (hd : decode M.2.1 pc = .ok (.iastore, 1)) (hi : vp_in i 48) (kk : AW g M rm F (pc + 1) ls st (HP (sa S 45 (upd (S.2 45) i.toNatClampNeg x))) cells slots) : AW g M rm F pc ls (.int x :: .int i :: .ref 45 :: st) (HP S) cells slots := aw_iast hd rfl hi kk
theorem wn_46 {k : Nat} {x : Int32} (hd : decode M.2.1 pc = .ok (.iastore, 1)) (hk : k < 144) (kk : AW g M rm F (pc + 1) ls st (HP (sa S 46 (upd (S.2 46) k x))) cells slots) : AW g M rm F pc ls (.int x :: .int (nI k) :: .ref 46 :: st) (HP S) cells slots := aw_iast hd rfl (vp_in_nI hk (aw_le rfl)) (by rw [nI_clamp (Nat.lt_trans hk (aw_le rfl))]; exact kk)
theorem wa_46 {i x : Int32} (hd : decode M.2.1 pc = .ok (.iastore, 1)) (hi : vp_in i 144) (kk : AW g M rm F (pc + 1) ls st (HP (sa S 46 (upd (S.2 46) i.toNatClampNeg x))) cells slots) : AW g M rm F pc ls (.int x :: .int i :: .ref 46 :: st) (HP S) cells slots := aw_iast hd rfl hi kk
theorem wn_47 {k : Nat} {x : Int32} (hd : decode M.2.1 pc = .ok (.bastore, 1)) (hk : k < 24) (hx : x = 0 ∨ x = 1) (kk : AW g M rm F (pc + 1) ls st (HP (sa S 47 (upd (S.2 47) k x))) cells slots) : AW g M rm F pc ls (.int x :: .int (nI k) :: .ref 47 :: st) (HP S) cells slots := aw_zast hd rfl (vp_in_nI hk (aw_le rfl)) (aw_zn hx) (by rw [nI_clamp (Nat.lt_trans hk (aw_le rfl))]; exact kk)
theorem wa_47 {i x : Int32} (hd : decode M.2.1 pc = .ok (.bastore, 1)) (hi : vp_in i 24) (hx : x = 0 ∨ x = 1) (kk : AW g M rm F (pc + 1) ls st (HP (sa S 47 (upd (S.2 47) i.toNatClampNeg x))) cells slots) : AW g M rm F pc ls (.int x :: .int i :: .ref 47 :: st) (HP S) cells slots := aw_zast hd rfl hi (aw_zn hx) kk
theorem wn_48 {k : Nat} {x : Int32} (hd : decode M.2.1 pc = .ok (.iastore, 1)) (hk : k < 6) (kk : AW g M rm F (pc + 1) ls st (HP (sa S 48 (upd (S.2 48) k x))) cells slots) : AW g M rm F pc ls (.int x :: .int (nI k) :: .ref 48 :: st) (HP S) cells slots := aw_iast hd rfl (vp_in_nI hk (aw_le rfl)) (by rw [nI_clamp (Nat.lt_trans hk (aw_le rfl))]; exact kk)
theorem wa_48 {i x : Int32} (hd : decode M.2.1 pc = .ok (.iastore, 1)) (hi : vp_in i 6) (kk : AW g M rm F (pc + 1) ls st (HP (sa S 48 (upd (S.2 48) i.toNatClampNeg x))) cells slots) : AW g M rm F pc ls (.int x :: .int i :: .ref 48 :: st) (HP S) cells slots := aw_iast hd rfl hi kk
theorem wn_49 {k : Nat} {x : Int32} (hd : decode M.2.1 pc = .ok (.iastore, 1)) (hk : k < 48) (kk : AW g M rm F (pc + 1) ls st (HP (sa S 49 (upd (S.2 49) k x))) cells slots) : AW g M rm F pc ls (.int x :: .int (nI k) :: .ref 49 :: st) (HP S) cells slots := aw_iast hd rfl (vp_in_nI hk (aw_le rfl)) (by rw [nI_clamp (Nat.lt_trans hk (aw_le rfl))]; exact kk)
theorem wa_49 {i x : Int32} (hd : decode M.2.1 pc = .ok (.iastore, 1)) (hi : vp_in i 48) (kk : AW g M rm F (pc + 1) ls st (HP (sa S 49 (upd (S.2 49) i.toNatClampNeg x))) cells slots) : AW g M rm F pc ls (.int x :: .int i :: .ref 49 :: st) (HP S) cells slots := aw_iast hd rfl hi kk
theorem wn_50 {k : Nat} {x : Int32} (hd : decode M.2.1 pc = .ok (.iastore, 1)) (hk : k < 144) (kk : AW g M rm F (pc + 1) ls st (HP (sa S 50 (upd (S.2 50) k x))) cells slots) : AW g M rm F pc ls (.int x :: .int (nI k) :: .ref 50 :: st) (HP S) cells slots := aw_iast hd rfl (vp_in_nI hk (aw_le rfl)) (by rw [nI_clamp (Nat.lt_trans hk (aw_le rfl))]; exact kk)
theorem wa_50 {i x : Int32} (hd : decode M.2.1 pc = .ok (.iastore, 1)) (hi : vp_in i 144) (kk : AW g M rm F (pc + 1) ls st (HP (sa S 50 (upd (S.2 50) i.toNatClampNeg x))) cells slots) : AW g M rm F pc ls (.int x :: .int i :: .ref 50 :: st) (HP S) cells slots := aw_iast hd rfl hi kk
theorem wn_51 {k : Nat} {x : Int32} (hd : decode M.2.1 pc = .ok (.iastore, 1)) (hk : k < 144) (kk : AW g M rm F (pc + 1) ls st (HP (sa S 51 (upd (S.2 51) k x))) cells slots) : AW g M rm F pc ls (.int x :: .int (nI k) :: .ref 51 :: st) (HP S) cells slots := aw_iast hd rfl (vp_in_nI hk (aw_le rfl)) (by rw [nI_clamp (Nat.lt_trans hk (aw_le rfl))]; exact kk)
theorem wa_51 {i x : Int32} (hd : decode M.2.1 pc = .ok (.iastore, 1)) (hi : vp_in i 144) (kk : AW g M rm F (pc + 1) ls st (HP (sa S 51 (upd (S.2 51) i.toNatClampNeg x))) cells slots) : AW g M rm F pc ls (.int x :: .int i :: .ref 51 :: st) (HP S) cells slots := aw_iast hd rfl hi kk
theorem wn_52 {k : Nat} {x : Int32} (hd : decode M.2.1 pc = .ok (.iastore, 1)) (hk : k < 144) (kk : AW g M rm F (pc + 1) ls st (HP (sa S 52 (upd (S.2 52) k x))) cells slots) : AW g M rm F pc ls (.int x :: .int (nI k) :: .ref 52 :: st) (HP S) cells slots := aw_iast hd rfl (vp_in_nI hk (aw_le rfl)) (by rw [nI_clamp (Nat.lt_trans hk (aw_le rfl))]; exact kk)
theorem wa_52 {i x : Int32} (hd : decode M.2.1 pc = .ok (.iastore, 1)) (hi : vp_in i 144) (kk : AW g M rm F (pc + 1) ls st (HP (sa S 52 (upd (S.2 52) i.toNatClampNeg x))) cells slots) : AW g M rm F pc ls (.int x :: .int i :: .ref 52 :: st) (HP S) cells slots := aw_iast hd rfl hi kk
theorem wn_53 {k : Nat} {x : Int32} (hd : decode M.2.1 pc = .ok (.iastore, 1)) (hk : k < 2880) (kk : AW g M rm F (pc + 1) ls st (HP (sa S 53 (upd (S.2 53) k x))) cells slots) : AW g M rm F pc ls (.int x :: .int (nI k) :: .ref 53 :: st) (HP S) cells slots := aw_iast hd rfl (vp_in_nI hk (aw_le rfl)) (by rw [nI_clamp (Nat.lt_trans hk (aw_le rfl))]; exact kk)
theorem wa_53 {i x : Int32} (hd : decode M.2.1 pc = .ok (.iastore, 1)) (hi : vp_in i 2880) (kk : AW g M rm F (pc + 1) ls st (HP (sa S 53 (upd (S.2 53) i.toNatClampNeg x))) cells slots) : AW g M rm F pc ls (.int x :: .int i :: .ref 53 :: st) (HP S) cells slots := aw_iast hd rfl hi kk
theorem wn_54 {k : Nat} {x : Int32} (hd : decode M.2.1 pc = .ok (.iastore, 1)) (hk : k < 20) (kk : AW g M rm F (pc + 1) ls st (HP (sa S 54 (upd (S.2 54) k x))) cells slots) : AW g M rm F pc ls (.int x :: .int (nI k) :: .ref 54 :: st) (HP S) cells slots := aw_iast hd rfl (vp_in_nI hk (aw_le rfl)) (by rw [nI_clamp (Nat.lt_trans hk (aw_le rfl))]; exact kk)
theorem wa_54 {i x : Int32} (hd : decode M.2.1 pc = .ok (.iastore, 1)) (hi : vp_in i 20) (kk : AW g M rm F (pc + 1) ls st (HP (sa S 54 (upd (S.2 54) i.toNatClampNeg x))) cells slots) : AW g M rm F pc ls (.int x :: .int i :: .ref 54 :: st) (HP S) cells slots := aw_iast hd rfl hi kk
theorem wn_55 {k : Nat} {x : Int32} (hd : decode M.2.1 pc = .ok (.iastore, 1)) (hk : k < 144) (kk : AW g M rm F (pc + 1) ls st (HP (sa S 55 (upd (S.2 55) k x))) cells slots) : AW g M rm F pc ls (.int x :: .int (nI k) :: .ref 55 :: st) (HP S) cells slots := aw_iast hd rfl (vp_in_nI hk (aw_le rfl)) (by rw [nI_clamp (Nat.lt_trans hk (aw_le rfl))]; exact kk)
theorem wa_55 {i x : Int32} (hd : decode M.2.1 pc = .ok (.iastore, 1)) (hi : vp_in i 144) (kk : AW g M rm F (pc + 1) ls st (HP (sa S 55 (upd (S.2 55) i.toNatClampNeg x))) cells slots) : AW g M rm F pc ls (.int x :: .int i :: .ref 55 :: st) (HP S) cells slots := aw_iast hd rfl hi kk
end AWH
section AWC
variable {g : aw_G} {M M' : aw_M} {rm : Room} {F : aw_E} {pc : Nat} {ls : List (Option Value)} {st : List Value} {h h2 : aw_hp} {cells slots d lc index a ci i : Nat} {C : String} {fs vs rest : List Value} {v : Value} {PostC : Option Value → aw_hp → Prop}
/-- calls that make no cell: any end, void, a value -/
theorem cV (hd : decode M.2.1 pc = .ok (.invokevirtual index, 3)) (hs : Sp g M' d lc 0 0 (.ref a :: vs) h PostC) (hc : aw_cv M.1.cls index C M' vs.length) (hcell : h[a]? = some (.inr (ci, fs))) (hci : (vwCl[ci]?).map (fun q => q.1) = some C)
    (hst : st = vs.reverse ++ .ref a :: rest) (hrest : Nat.ble (rest.map fun v => v.category).sum 8 = true) (hR : Nat.ble (d + 1) rm.frames = true) (hR2 : Nat.ble (8 + (M'.2.2.1 + 11) + lc) rm.locals = true) (hf : cells ≤ rm.cells ∧ slots ≤ rm.slots)
    (kk : ∀ (r : Option Value) (h1 : aw_hp), PostC r h1 → AW g M rm F (pc + 3) ls (r.toList ++ rest) h1 cells slots) : AW g M rm F pc ls st h cells slots :=
  aw_callV hd hc hs hcell hci hst (aw_le hrest) ⟨aw_le hR, aw_le hR2⟩ hf kk
theorem cVv (hd : decode M.2.1 pc = .ok (.invokevirtual index, 3)) (hs : Sp g M' d lc 0 0 (.ref a :: vs) h (fun r h1 => r = none ∧ h1 = h2)) (hc : aw_cv M.1.cls index C M' vs.length) (hcell : h[a]? = some (.inr (ci, fs))) (hci : (vwCl[ci]?).map (fun q => q.1) = some C)
    (hst : st = vs.reverse ++ .ref a :: rest) (hrest : Nat.ble (rest.map fun v => v.category).sum 8 = true) (hR : Nat.ble (d + 1) rm.frames = true) (hR2 : Nat.ble (8 + (M'.2.2.1 + 11) + lc) rm.locals = true) (hf : cells ≤ rm.cells ∧ slots ≤ rm.slots)
    (kk : AW g M rm F (pc + 3) ls rest h2 cells slots) : AW g M rm F pc ls st h cells slots :=
  aw_callV hd hc hs hcell hci hst (aw_le hrest) ⟨aw_le hR, aw_le hR2⟩ hf (fun r h1 hp => by obtain ⟨rfl, rfl⟩ := hp; exact kk)
theorem cVr (hd : decode M.2.1 pc = .ok (.invokevirtual index, 3)) (hs : Sp g M' d lc 0 0 (.ref a :: vs) h (fun r h1 => r = some v ∧ h1 = h2)) (hc : aw_cv M.1.cls index C M' vs.length) (hcell : h[a]? = some (.inr (ci, fs))) (hci : (vwCl[ci]?).map (fun q => q.1) = some C)
    (hst : st = vs.reverse ++ .ref a :: rest) (hrest : Nat.ble (rest.map fun v => v.category).sum 8 = true) (hR : Nat.ble (d + 1) rm.frames = true) (hR2 : Nat.ble (8 + (M'.2.2.1 + 11) + lc) rm.locals = true) (hf : cells ≤ rm.cells ∧ slots ≤ rm.slots)
    (kk : AW g M rm F (pc + 3) ls (v :: rest) h2 cells slots) : AW g M rm F pc ls st h cells slots :=
  aw_callV hd hc hs hcell hci hst (aw_le hrest) ⟨aw_le hR, aw_le hR2⟩ hf (fun r h1 hp => by obtain ⟨rfl, rfl⟩ := hp; exact kk)
theorem cT (hd : decode M.2.1 pc = .ok (.invokevirtual index, 3)) (hi : i < aw_nS) (hs : Sp g M' d lc 0 0 (.retAddr i :: vs) h (fun r h1 => r = some v ∧ h1 = h2)) (hc : aw_cv M.1.cls index "java/lang/String" M' vs.length)
    (hst : st = vs.reverse ++ .retAddr i :: rest) (hrest : Nat.ble (rest.map fun v => v.category).sum 8 = true) (hR : Nat.ble (d + 1) rm.frames = true) (hR2 : Nat.ble (8 + (M'.2.2.1 + 11) + lc) rm.locals = true) (hf : cells ≤ rm.cells ∧ slots ≤ rm.slots)
    (kk : AW g M rm F (pc + 3) ls (v :: rest) h2 cells slots) : AW g M rm F pc ls st h cells slots :=
  aw_callT hd hc hs hi hst (aw_le hrest) ⟨aw_le hR, aw_le hR2⟩ hf (fun r h1 hp => by obtain ⟨rfl, rfl⟩ := hp; exact kk)
theorem cS (hd : decode M.2.1 pc = .ok (.invokestatic index, 3)) (hs : Sp g M' d lc 0 0 vs h PostC) (hc : aw_cs M.1.cls index M' vs.length)
    (hst : st = vs.reverse ++ rest) (hrest : Nat.ble (rest.map fun v => v.category).sum 8 = true) (hR : Nat.ble (d + 1) rm.frames = true) (hR2 : Nat.ble (8 + (M'.2.2.1 + 11) + lc) rm.locals = true) (hf : cells ≤ rm.cells ∧ slots ≤ rm.slots)
    (kk : ∀ (r : Option Value) (h1 : aw_hp), PostC r h1 → AW g M rm F (pc + 3) ls (r.toList ++ rest) h1 cells slots) : AW g M rm F pc ls st h cells slots :=
  aw_callS hd hc hs hst (aw_le hrest) ⟨aw_le hR, aw_le hR2⟩ hf kk
theorem cSv (hd : decode M.2.1 pc = .ok (.invokestatic index, 3)) (hs : Sp g M' d lc 0 0 vs h (fun r h1 => r = none ∧ h1 = h2)) (hc : aw_cs M.1.cls index M' vs.length)
    (hst : st = vs.reverse ++ rest) (hrest : Nat.ble (rest.map fun v => v.category).sum 8 = true) (hR : Nat.ble (d + 1) rm.frames = true) (hR2 : Nat.ble (8 + (M'.2.2.1 + 11) + lc) rm.locals = true) (hf : cells ≤ rm.cells ∧ slots ≤ rm.slots)
    (kk : AW g M rm F (pc + 3) ls rest h2 cells slots) : AW g M rm F pc ls st h cells slots :=
  aw_callS hd hc hs hst (aw_le hrest) ⟨aw_le hR, aw_le hR2⟩ hf (fun r h1 hp => by obtain ⟨rfl, rfl⟩ := hp; exact kk)
theorem cSr (hd : decode M.2.1 pc = .ok (.invokestatic index, 3)) (hs : Sp g M' d lc 0 0 vs h (fun r h1 => r = some v ∧ h1 = h2)) (hc : aw_cs M.1.cls index M' vs.length)
    (hst : st = vs.reverse ++ rest) (hrest : Nat.ble (rest.map fun v => v.category).sum 8 = true) (hR : Nat.ble (d + 1) rm.frames = true) (hR2 : Nat.ble (8 + (M'.2.2.1 + 11) + lc) rm.locals = true) (hf : cells ≤ rm.cells ∧ slots ≤ rm.slots)
    (kk : AW g M rm F (pc + 3) ls (v :: rest) h2 cells slots) : AW g M rm F pc ls st h cells slots :=
  aw_callS hd hc hs hst (aw_le hrest) ⟨aw_le hR, aw_le hR2⟩ hf (fun r h1 hp => by obtain ⟨rfl, rfl⟩ := hp; exact kk)
end AWC
section AWN
variable {g : aw_G} {M : aw_M} {rm : Room} {F : aw_E} {pc : Nat} {ls : List (Option Value)} {st : List Value} {h : aw_hp} {cells slots : Nat}
/-! rows over numbers that are not negative -/
theorem gk {x y : Int32} (h : x = y) : some (Value.int x) = some (Value.int y) := by rw [h]
theorem ii1 (n : Nat) : nI n + Int32.ofInt 1 = nI (n + 1) := nI_1 n
theorem ii4 (n : Nat) : nI n + Int32.ofInt 4 = nI (n + 4) := nI_add n 4
theorem iim (n : Nat) : nI (n + 1) + Int32.ofInt (-1) = nI n := pk_m1 n
theorem aw_iaddN {a b : Nat} (hd : decode M.2.1 pc = .ok (.iadd, 1)) (k : AW g M rm F (pc + 1) ls (.int (nI (a + b)) :: st) h cells slots) : AW g M rm F pc ls (.int (nI b) :: .int (nI a) :: st) h cells slots := aw_iadd hd (by rw [nI_add]; exact k)
theorem aw_isubN {a b : Nat} (hd : decode M.2.1 pc = .ok (.isub, 1)) (hab : b ≤ a) (k : AW g M rm F (pc + 1) ls (.int (nI (a - b)) :: st) h cells slots) : AW g M rm F pc ls (.int (nI b) :: .int (nI a) :: st) h cells slots := aw_isub hd (by rw [pk_sub hab]; exact k)
theorem aw_imulN {a b : Nat} (hd : decode M.2.1 pc = .ok (.imul, 1)) (k : AW g M rm F (pc + 1) ls (.int (nI (a * b)) :: st) h cells slots) : AW g M rm F pc ls (.int (nI b) :: .int (nI a) :: st) h cells slots := aw_imul hd (by rw [pk_mul]; exact k)
theorem nI_nz {b : Nat} (h0 : 0 < b) (hb : b < 2147483648) : ¬ nI b = 0 := nI_ne0 h0 hb
theorem aw_idivN {a b : Nat} (hd : decode M.2.1 pc = .ok (.idiv, 1)) (ha : a < 2147483648) (h0 : 0 < b) (hb : b < 2147483648) (k : AW g M rm F (pc + 1) ls (.int (nI (a / b)) :: st) h cells slots) : AW g M rm F pc ls (.int (nI b) :: .int (nI a) :: st) h cells slots := aw_idiv hd (nI_nz h0 hb) (by rw [pk_div ha h0 hb]; exact k)
theorem aw_iremN {a b : Nat} (hd : decode M.2.1 pc = .ok (.irem, 1)) (ha : a < 2147483648) (h0 : 0 < b) (hb : b < 2147483648) (k : AW g M rm F (pc + 1) ls (.int (nI (a % b)) :: st) h cells slots) : AW g M rm F pc ls (.int (nI b) :: .int (nI a) :: st) h cells slots := aw_irem hd (nI_nz h0 hb) (by rw [pk_rem ha h0 hb]; exact k)
theorem aw_ialdN {a n k : Nat} {f : Nat → Int32} (hd : decode M.2.1 pc = .ok (.iaload, 1)) (hc : h[a]? = some (.inl (0, n, .inl f))) (hk : k < n) (hn : Nat.ble n 100000 = true) (kk : AW g M rm F (pc + 1) ls (.int (f k) :: st) h cells slots) : AW g M rm F pc ls (.int (nI k) :: .ref a :: st) h cells slots := by
  have h1 := aw_le hn
  exact aw_iald hd hc (vp_in_nI hk (by omega)) (by rw [nI_clamp (by omega)]; exact kk)
theorem aw_zaldN {a n k : Nat} {f : Nat → Int32} (hd : decode M.2.1 pc = .ok (.baload, 1)) (hc : h[a]? = some (.inl (1, n, .inl f))) (hk : k < n) (hn : Nat.ble n 100000 = true) (kk : AW g M rm F (pc + 1) ls (.int (f k) :: st) h cells slots) : AW g M rm F pc ls (.int (nI k) :: .ref a :: st) h cells slots := by
  have h1 := aw_le hn
  exact aw_zald hd hc (vp_in_nI hk (by omega)) (by rw [nI_clamp (by omega)]; exact kk)
theorem aw_icmpN_eq {a b : Nat} {off : Int} {tgt : Nat} (hd : decode M.2.1 pc = .ok (.if_icmp .eq off, 3)) (ht : (pc : Int) + off = (tgt : Int)) (ha : a < 2147483648) (hb : b < 2147483648)
    (kt : a = b → AW g M rm F tgt ls st h cells slots) (kf : a ≠ b → AW g M rm F (pc + 3) ls st h cells slots) : AW g M rm F pc ls (.int (nI b) :: .int (nI a) :: st) h cells slots := aw_icmp_eq hd ht (fun z => kt ((nI_eq ha hb).mp z)) (fun z => kf (fun q => z ((nI_eq ha hb).mpr q)))
theorem aw_icmpN_ne {a b : Nat} {off : Int} {tgt : Nat} (hd : decode M.2.1 pc = .ok (.if_icmp .ne off, 3)) (ht : (pc : Int) + off = (tgt : Int)) (ha : a < 2147483648) (hb : b < 2147483648)
    (kt : a ≠ b → AW g M rm F tgt ls st h cells slots) (kf : a = b → AW g M rm F (pc + 3) ls st h cells slots) : AW g M rm F pc ls (.int (nI b) :: .int (nI a) :: st) h cells slots := aw_icmp_ne hd ht (fun z => kt (fun q => z ((nI_eq ha hb).mpr q))) (fun z => kf ((nI_eq ha hb).mp z))
theorem aw_icmpN_lt {a b : Nat} {off : Int} {tgt : Nat} (hd : decode M.2.1 pc = .ok (.if_icmp .lt off, 3)) (ht : (pc : Int) + off = (tgt : Int)) (ha : a < 2147483648) (hb : b < 2147483648)
    (kt : a < b → AW g M rm F tgt ls st h cells slots) (kf : b ≤ a → AW g M rm F (pc + 3) ls st h cells slots) : AW g M rm F pc ls (.int (nI b) :: .int (nI a) :: st) h cells slots := aw_icmp_lt hd ht (fun z => kt ((nI_ltI ha hb).mp z)) (fun z => kf (Nat.not_lt.mp (fun q => z ((nI_ltI ha hb).mpr q))))
theorem aw_icmpN_ge {a b : Nat} {off : Int} {tgt : Nat} (hd : decode M.2.1 pc = .ok (.if_icmp .ge off, 3)) (ht : (pc : Int) + off = (tgt : Int)) (ha : a < 2147483648) (hb : b < 2147483648)
    (kt : b ≤ a → AW g M rm F tgt ls st h cells slots) (kf : a < b → AW g M rm F (pc + 3) ls st h cells slots) : AW g M rm F pc ls (.int (nI b) :: .int (nI a) :: st) h cells slots := aw_icmp_ge hd ht (fun z => kt ((nI_leI hb ha).mp z)) (fun z => kf (Nat.not_le.mp (fun q => z ((nI_leI hb ha).mpr q))))
theorem aw_icmpN_gt {a b : Nat} {off : Int} {tgt : Nat} (hd : decode M.2.1 pc = .ok (.if_icmp .gt off, 3)) (ht : (pc : Int) + off = (tgt : Int)) (ha : a < 2147483648) (hb : b < 2147483648)
    (kt : b < a → AW g M rm F tgt ls st h cells slots) (kf : a ≤ b → AW g M rm F (pc + 3) ls st h cells slots) : AW g M rm F pc ls (.int (nI b) :: .int (nI a) :: st) h cells slots := aw_icmp_gt hd ht (fun z => kt ((nI_ltI hb ha).mp z)) (fun z => kf (Nat.not_lt.mp (fun q => z ((nI_ltI hb ha).mpr q))))
theorem aw_icmpN_le {a b : Nat} {off : Int} {tgt : Nat} (hd : decode M.2.1 pc = .ok (.if_icmp .le off, 3)) (ht : (pc : Int) + off = (tgt : Int)) (ha : a < 2147483648) (hb : b < 2147483648)
    (kt : a ≤ b → AW g M rm F tgt ls st h cells slots) (kf : b < a → AW g M rm F (pc + 3) ls st h cells slots) : AW g M rm F pc ls (.int (nI b) :: .int (nI a) :: st) h cells slots := aw_icmp_le hd ht (fun z => kt ((nI_leI ha hb).mp z)) (fun z => kf (Nat.not_le.mp (fun q => z ((nI_leI ha hb).mpr q))))
theorem aw_ifN_eq {a : Nat} {off : Int} {tgt : Nat} (hd : decode M.2.1 pc = .ok (.ifCond .eq off, 3)) (ht : (pc : Int) + off = (tgt : Int)) (ha : a < 2147483648)
    (kt : a = 0 → AW g M rm F tgt ls st h cells slots) (kf : a ≠ 0 → AW g M rm F (pc + 3) ls st h cells slots) : AW g M rm F pc ls (.int (nI a) :: st) h cells slots := aw_if_eq hd ht (fun z => kt ((nI_eq ha (by decide)).mp z)) (fun z => kf (fun q => z ((nI_eq ha (by decide)).mpr q)))
theorem aw_ifN_ne {a : Nat} {off : Int} {tgt : Nat} (hd : decode M.2.1 pc = .ok (.ifCond .ne off, 3)) (ht : (pc : Int) + off = (tgt : Int)) (ha : a < 2147483648)
    (kt : a ≠ 0 → AW g M rm F tgt ls st h cells slots) (kf : a = 0 → AW g M rm F (pc + 3) ls st h cells slots) : AW g M rm F pc ls (.int (nI a) :: st) h cells slots := aw_if_ne hd ht (fun z => kt (fun q => z ((nI_eq ha (by decide)).mpr q))) (fun z => kf ((nI_eq ha (by decide)).mp z))
theorem aw_ifN_lt {a : Nat} {off : Int} {tgt : Nat} (hd : decode M.2.1 pc = .ok (.ifCond .lt off, 3)) (ht : (pc : Int) + off = (tgt : Int)) (ha : a < 2147483648)
    (kt : False → AW g M rm F tgt ls st h cells slots) (kf : True → AW g M rm F (pc + 3) ls st h cells slots) : AW g M rm F pc ls (.int (nI a) :: st) h cells slots := aw_if_lt hd ht (fun z => kt (absurd z (nI_pos ha))) (fun z => kf (trivial))
theorem aw_ifN_ge {a : Nat} {off : Int} {tgt : Nat} (hd : decode M.2.1 pc = .ok (.ifCond .ge off, 3)) (ht : (pc : Int) + off = (tgt : Int)) (ha : a < 2147483648)
    (kt : True → AW g M rm F tgt ls st h cells slots) (kf : False → AW g M rm F (pc + 3) ls st h cells slots) : AW g M rm F pc ls (.int (nI a) :: st) h cells slots := aw_if_ge hd ht (fun z => kt (trivial)) (fun z => kf (z (nI_pos' ha)))
theorem aw_ifN_gt {a : Nat} {off : Int} {tgt : Nat} (hd : decode M.2.1 pc = .ok (.ifCond .gt off, 3)) (ht : (pc : Int) + off = (tgt : Int)) (ha : a < 2147483648)
    (kt : 0 < a → AW g M rm F tgt ls st h cells slots) (kf : a = 0 → AW g M rm F (pc + 3) ls st h cells slots) : AW g M rm F pc ls (.int (nI a) :: st) h cells slots := aw_if_gt hd ht (fun z => kt ((nI_ltI (by decide) ha).mp z)) (fun z => kf (Nat.eq_zero_of_not_pos (fun q => z ((nI_ltI (by decide) ha).mpr q))))
theorem aw_ifN_le {a : Nat} {off : Int} {tgt : Nat} (hd : decode M.2.1 pc = .ok (.ifCond .le off, 3)) (ht : (pc : Int) + off = (tgt : Int)) (ha : a < 2147483648)
    (kt : a = 0 → AW g M rm F tgt ls st h cells slots) (kf : 0 < a → AW g M rm F (pc + 3) ls st h cells slots) : AW g M rm F pc ls (.int (nI a) :: st) h cells slots := aw_if_le hd ht (fun z => kt (Nat.le_zero.mp ((nI_leI ha (by decide)).mp z))) (fun z => kf (Nat.pos_of_ne_zero (fun q => z ((nI_leI ha (by decide)).mpr (Nat.le_of_eq q)))))
/-! any int held against a number -/
theorem zi_eq {x : Int32} {b : Nat} (hb : b < 2147483648) : x = nI b ↔ x.toInt = b := by rw [← Int32.toInt_inj, nI_toInt hb]
theorem zi_lt {x : Int32} {b : Nat} (hb : b < 2147483648) : x < nI b ↔ x.toInt < b := by rw [Int32.lt_iff_toInt_lt, nI_toInt hb]
theorem zi_gt {x : Int32} {b : Nat} (hb : b < 2147483648) : nI b < x ↔ (b : Int) < x.toInt := by rw [Int32.lt_iff_toInt_lt, nI_toInt hb]
theorem zi_le {x : Int32} {b : Nat} (hb : b < 2147483648) : x ≤ nI b ↔ x.toInt ≤ b := by rw [Int32.le_iff_toInt_le, nI_toInt hb]
theorem zi_ge {x : Int32} {b : Nat} (hb : b < 2147483648) : nI b ≤ x ↔ (b : Int) ≤ x.toInt := by rw [Int32.le_iff_toInt_le, nI_toInt hb]
theorem aw_icmpI_eq {x : Int32} {b : Nat} {off : Int} {tgt : Nat} (hd : decode M.2.1 pc = .ok (.if_icmp .eq off, 3)) (ht : (pc : Int) + off = (tgt : Int)) (hb : b < 2147483648)
    (kt : x.toInt = b → AW g M rm F tgt ls st h cells slots) (kf : x.toInt ≠ b → AW g M rm F (pc + 3) ls st h cells slots) : AW g M rm F pc ls (.int (nI b) :: .int x :: st) h cells slots := aw_icmp_eq hd ht (fun z => kt ((zi_eq hb).mp z)) (fun z => kf (fun q => z ((zi_eq hb).mpr q)))
theorem aw_icmpJ_eq {x : Int32} {b : Nat} {off : Int} {tgt : Nat} (hd : decode M.2.1 pc = .ok (.if_icmp .eq off, 3)) (ht : (pc : Int) + off = (tgt : Int)) (hb : b < 2147483648)
    (kt : (b : Int) = x.toInt → AW g M rm F tgt ls st h cells slots) (kf : (b : Int) ≠ x.toInt → AW g M rm F (pc + 3) ls st h cells slots) : AW g M rm F pc ls (.int x :: .int (nI b) :: st) h cells slots := aw_icmp_eq hd ht (fun z => kt (((zi_eq hb).mp z.symm).symm)) (fun z => kf (fun q => z ((zi_eq hb).mpr q.symm).symm))
theorem aw_icmpI_ne {x : Int32} {b : Nat} {off : Int} {tgt : Nat} (hd : decode M.2.1 pc = .ok (.if_icmp .ne off, 3)) (ht : (pc : Int) + off = (tgt : Int)) (hb : b < 2147483648)
    (kt : x.toInt ≠ b → AW g M rm F tgt ls st h cells slots) (kf : x.toInt = b → AW g M rm F (pc + 3) ls st h cells slots) : AW g M rm F pc ls (.int (nI b) :: .int x :: st) h cells slots := aw_icmp_ne hd ht (fun z => kt (fun q => z ((zi_eq hb).mpr q))) (fun z => kf ((zi_eq hb).mp z))
theorem aw_icmpJ_ne {x : Int32} {b : Nat} {off : Int} {tgt : Nat} (hd : decode M.2.1 pc = .ok (.if_icmp .ne off, 3)) (ht : (pc : Int) + off = (tgt : Int)) (hb : b < 2147483648)
    (kt : (b : Int) ≠ x.toInt → AW g M rm F tgt ls st h cells slots) (kf : (b : Int) = x.toInt → AW g M rm F (pc + 3) ls st h cells slots) : AW g M rm F pc ls (.int x :: .int (nI b) :: st) h cells slots := aw_icmp_ne hd ht (fun z => kt (fun q => z ((zi_eq hb).mpr q.symm).symm)) (fun z => kf (((zi_eq hb).mp z.symm).symm))
theorem aw_icmpI_lt {x : Int32} {b : Nat} {off : Int} {tgt : Nat} (hd : decode M.2.1 pc = .ok (.if_icmp .lt off, 3)) (ht : (pc : Int) + off = (tgt : Int)) (hb : b < 2147483648)
    (kt : x.toInt < b → AW g M rm F tgt ls st h cells slots) (kf : (b : Int) ≤ x.toInt → AW g M rm F (pc + 3) ls st h cells slots) : AW g M rm F pc ls (.int (nI b) :: .int x :: st) h cells slots := aw_icmp_lt hd ht (fun z => kt ((zi_lt hb).mp z)) (fun z => kf (Int.not_lt.mp (fun q => z ((zi_lt hb).mpr q))))
theorem aw_icmpJ_lt {x : Int32} {b : Nat} {off : Int} {tgt : Nat} (hd : decode M.2.1 pc = .ok (.if_icmp .lt off, 3)) (ht : (pc : Int) + off = (tgt : Int)) (hb : b < 2147483648)
    (kt : (b : Int) < x.toInt → AW g M rm F tgt ls st h cells slots) (kf : x.toInt ≤ b → AW g M rm F (pc + 3) ls st h cells slots) : AW g M rm F pc ls (.int x :: .int (nI b) :: st) h cells slots := aw_icmp_lt hd ht (fun z => kt ((zi_gt hb).mp z)) (fun z => kf (Int.not_lt.mp (fun q => z ((zi_gt hb).mpr q))))
theorem aw_icmpI_ge {x : Int32} {b : Nat} {off : Int} {tgt : Nat} (hd : decode M.2.1 pc = .ok (.if_icmp .ge off, 3)) (ht : (pc : Int) + off = (tgt : Int)) (hb : b < 2147483648)
    (kt : (b : Int) ≤ x.toInt → AW g M rm F tgt ls st h cells slots) (kf : x.toInt < b → AW g M rm F (pc + 3) ls st h cells slots) : AW g M rm F pc ls (.int (nI b) :: .int x :: st) h cells slots := aw_icmp_ge hd ht (fun z => kt ((zi_ge hb).mp z)) (fun z => kf (Int.not_le.mp (fun q => z ((zi_ge hb).mpr q))))
theorem aw_icmpJ_ge {x : Int32} {b : Nat} {off : Int} {tgt : Nat} (hd : decode M.2.1 pc = .ok (.if_icmp .ge off, 3)) (ht : (pc : Int) + off = (tgt : Int)) (hb : b < 2147483648)
    (kt : x.toInt ≤ b → AW g M rm F tgt ls st h cells slots) (kf : (b : Int) < x.toInt → AW g M rm F (pc + 3) ls st h cells slots) : AW g M rm F pc ls (.int x :: .int (nI b) :: st) h cells slots := aw_icmp_ge hd ht (fun z => kt ((zi_le hb).mp z)) (fun z => kf (Int.not_le.mp (fun q => z ((zi_le hb).mpr q))))
theorem aw_icmpI_gt {x : Int32} {b : Nat} {off : Int} {tgt : Nat} (hd : decode M.2.1 pc = .ok (.if_icmp .gt off, 3)) (ht : (pc : Int) + off = (tgt : Int)) (hb : b < 2147483648)
    (kt : (b : Int) < x.toInt → AW g M rm F tgt ls st h cells slots) (kf : x.toInt ≤ b → AW g M rm F (pc + 3) ls st h cells slots) : AW g M rm F pc ls (.int (nI b) :: .int x :: st) h cells slots := aw_icmp_gt hd ht (fun z => kt ((zi_gt hb).mp z)) (fun z => kf (Int.not_lt.mp (fun q => z ((zi_gt hb).mpr q))))
theorem aw_icmpJ_gt {x : Int32} {b : Nat} {off : Int} {tgt : Nat} (hd : decode M.2.1 pc = .ok (.if_icmp .gt off, 3)) (ht : (pc : Int) + off = (tgt : Int)) (hb : b < 2147483648)
    (kt : x.toInt < b → AW g M rm F tgt ls st h cells slots) (kf : (b : Int) ≤ x.toInt → AW g M rm F (pc + 3) ls st h cells slots) : AW g M rm F pc ls (.int x :: .int (nI b) :: st) h cells slots := aw_icmp_gt hd ht (fun z => kt ((zi_lt hb).mp z)) (fun z => kf (Int.not_lt.mp (fun q => z ((zi_lt hb).mpr q))))
theorem aw_icmpI_le {x : Int32} {b : Nat} {off : Int} {tgt : Nat} (hd : decode M.2.1 pc = .ok (.if_icmp .le off, 3)) (ht : (pc : Int) + off = (tgt : Int)) (hb : b < 2147483648)
    (kt : x.toInt ≤ b → AW g M rm F tgt ls st h cells slots) (kf : (b : Int) < x.toInt → AW g M rm F (pc + 3) ls st h cells slots) : AW g M rm F pc ls (.int (nI b) :: .int x :: st) h cells slots := aw_icmp_le hd ht (fun z => kt ((zi_le hb).mp z)) (fun z => kf (Int.not_le.mp (fun q => z ((zi_le hb).mpr q))))
theorem aw_icmpJ_le {x : Int32} {b : Nat} {off : Int} {tgt : Nat} (hd : decode M.2.1 pc = .ok (.if_icmp .le off, 3)) (ht : (pc : Int) + off = (tgt : Int)) (hb : b < 2147483648)
    (kt : (b : Int) ≤ x.toInt → AW g M rm F tgt ls st h cells slots) (kf : x.toInt < b → AW g M rm F (pc + 3) ls st h cells slots) : AW g M rm F pc ls (.int x :: .int (nI b) :: st) h cells slots := aw_icmp_le hd ht (fun z => kt ((zi_ge hb).mp z)) (fun z => kf (Int.not_le.mp (fun q => z ((zi_ge hb).mpr q))))
theorem aw_ifI_eq {x : Int32} {off : Int} {tgt : Nat} (hd : decode M.2.1 pc = .ok (.ifCond .eq off, 3)) (ht : (pc : Int) + off = (tgt : Int))
    (kt : x.toInt = 0 → AW g M rm F tgt ls st h cells slots) (kf : x.toInt ≠ 0 → AW g M rm F (pc + 3) ls st h cells slots) : AW g M rm F pc ls (.int x :: st) h cells slots := aw_if_eq hd ht (fun z => kt ((zi_eq (b := 0) (by decide)).mp z)) (fun z => kf (fun q => z ((zi_eq (b := 0) (by decide)).mpr q)))
theorem aw_ifI_ne {x : Int32} {off : Int} {tgt : Nat} (hd : decode M.2.1 pc = .ok (.ifCond .ne off, 3)) (ht : (pc : Int) + off = (tgt : Int))
    (kt : x.toInt ≠ 0 → AW g M rm F tgt ls st h cells slots) (kf : x.toInt = 0 → AW g M rm F (pc + 3) ls st h cells slots) : AW g M rm F pc ls (.int x :: st) h cells slots := aw_if_ne hd ht (fun z => kt (fun q => z ((zi_eq (b := 0) (by decide)).mpr q))) (fun z => kf ((zi_eq (b := 0) (by decide)).mp z))
theorem aw_ifI_lt {x : Int32} {off : Int} {tgt : Nat} (hd : decode M.2.1 pc = .ok (.ifCond .lt off, 3)) (ht : (pc : Int) + off = (tgt : Int))
    (kt : x.toInt < 0 → AW g M rm F tgt ls st h cells slots) (kf : 0 ≤ x.toInt → AW g M rm F (pc + 3) ls st h cells slots) : AW g M rm F pc ls (.int x :: st) h cells slots := aw_if_lt hd ht (fun z => kt ((zi_lt (b := 0) (by decide)).mp z)) (fun z => kf (Int.not_lt.mp (fun q => z ((zi_lt (b := 0) (by decide)).mpr q))))
theorem aw_ifI_ge {x : Int32} {off : Int} {tgt : Nat} (hd : decode M.2.1 pc = .ok (.ifCond .ge off, 3)) (ht : (pc : Int) + off = (tgt : Int))
    (kt : 0 ≤ x.toInt → AW g M rm F tgt ls st h cells slots) (kf : x.toInt < 0 → AW g M rm F (pc + 3) ls st h cells slots) : AW g M rm F pc ls (.int x :: st) h cells slots := aw_if_ge hd ht (fun z => kt ((zi_ge (b := 0) (by decide)).mp z)) (fun z => kf (Int.not_le.mp (fun q => z ((zi_ge (b := 0) (by decide)).mpr q))))
theorem aw_ifI_gt {x : Int32} {off : Int} {tgt : Nat} (hd : decode M.2.1 pc = .ok (.ifCond .gt off, 3)) (ht : (pc : Int) + off = (tgt : Int))
    (kt : 0 < x.toInt → AW g M rm F tgt ls st h cells slots) (kf : x.toInt ≤ 0 → AW g M rm F (pc + 3) ls st h cells slots) : AW g M rm F pc ls (.int x :: st) h cells slots := aw_if_gt hd ht (fun z => kt ((zi_gt (b := 0) (by decide)).mp z)) (fun z => kf (Int.not_lt.mp (fun q => z ((zi_gt (b := 0) (by decide)).mpr q))))
theorem aw_ifI_le {x : Int32} {off : Int} {tgt : Nat} (hd : decode M.2.1 pc = .ok (.ifCond .le off, 3)) (ht : (pc : Int) + off = (tgt : Int))
    (kt : x.toInt ≤ 0 → AW g M rm F tgt ls st h cells slots) (kf : 0 < x.toInt → AW g M rm F (pc + 3) ls st h cells slots) : AW g M rm F pc ls (.int x :: st) h cells slots := aw_if_le hd ht (fun z => kt ((zi_le (b := 0) (by decide)).mp z)) (fun z => kf (Int.not_le.mp (fun q => z ((zi_le (b := 0) (by decide)).mpr q))))
theorem aw_icmpZ_eq {x y : Int32} {off : Int} {tgt : Nat} (hd : decode M.2.1 pc = .ok (.if_icmp .eq off, 3)) (ht : (pc : Int) + off = (tgt : Int))
    (kt : x.toInt = y.toInt → AW g M rm F tgt ls st h cells slots) (kf : x.toInt ≠ y.toInt → AW g M rm F (pc + 3) ls st h cells slots) : AW g M rm F pc ls (.int y :: .int x :: st) h cells slots := aw_icmp_eq hd ht (fun z => kt (by rw [z])) (fun z => kf (fun q => z (Int32.toInt_inj.mp q)))
theorem aw_icmpZ_ne {x y : Int32} {off : Int} {tgt : Nat} (hd : decode M.2.1 pc = .ok (.if_icmp .ne off, 3)) (ht : (pc : Int) + off = (tgt : Int))
    (kt : x.toInt ≠ y.toInt → AW g M rm F tgt ls st h cells slots) (kf : x.toInt = y.toInt → AW g M rm F (pc + 3) ls st h cells slots) : AW g M rm F pc ls (.int y :: .int x :: st) h cells slots := aw_icmp_ne hd ht (fun z => kt (fun q => z (Int32.toInt_inj.mp q))) (fun z => kf (by rw [z]))
theorem aw_icmpZ_lt {x y : Int32} {off : Int} {tgt : Nat} (hd : decode M.2.1 pc = .ok (.if_icmp .lt off, 3)) (ht : (pc : Int) + off = (tgt : Int))
    (kt : x.toInt < y.toInt → AW g M rm F tgt ls st h cells slots) (kf : y.toInt ≤ x.toInt → AW g M rm F (pc + 3) ls st h cells slots) : AW g M rm F pc ls (.int y :: .int x :: st) h cells slots := aw_icmp_lt hd ht (fun z => kt (Int32.lt_iff_toInt_lt.mp z)) (fun z => kf (Int.not_lt.mp (fun q => z (Int32.lt_iff_toInt_lt.mpr q))))
theorem aw_icmpZ_ge {x y : Int32} {off : Int} {tgt : Nat} (hd : decode M.2.1 pc = .ok (.if_icmp .ge off, 3)) (ht : (pc : Int) + off = (tgt : Int))
    (kt : y.toInt ≤ x.toInt → AW g M rm F tgt ls st h cells slots) (kf : x.toInt < y.toInt → AW g M rm F (pc + 3) ls st h cells slots) : AW g M rm F pc ls (.int y :: .int x :: st) h cells slots := aw_icmp_ge hd ht (fun z => kt (Int32.le_iff_toInt_le.mp z)) (fun z => kf (Int.not_le.mp (fun q => z (Int32.le_iff_toInt_le.mpr q))))
theorem aw_icmpZ_gt {x y : Int32} {off : Int} {tgt : Nat} (hd : decode M.2.1 pc = .ok (.if_icmp .gt off, 3)) (ht : (pc : Int) + off = (tgt : Int))
    (kt : y.toInt < x.toInt → AW g M rm F tgt ls st h cells slots) (kf : x.toInt ≤ y.toInt → AW g M rm F (pc + 3) ls st h cells slots) : AW g M rm F pc ls (.int y :: .int x :: st) h cells slots := aw_icmp_gt hd ht (fun z => kt (Int32.lt_iff_toInt_lt.mp z)) (fun z => kf (Int.not_lt.mp (fun q => z (Int32.lt_iff_toInt_lt.mpr q))))
theorem aw_icmpZ_le {x y : Int32} {off : Int} {tgt : Nat} (hd : decode M.2.1 pc = .ok (.if_icmp .le off, 3)) (ht : (pc : Int) + off = (tgt : Int))
    (kt : x.toInt ≤ y.toInt → AW g M rm F tgt ls st h cells slots) (kf : y.toInt < x.toInt → AW g M rm F (pc + 3) ls st h cells slots) : AW g M rm F pc ls (.int y :: .int x :: st) h cells slots := aw_icmp_le hd ht (fun z => kt (Int32.le_iff_toInt_le.mp z)) (fun z => kf (Int.not_le.mp (fun q => z (Int32.le_iff_toInt_le.mpr q))))
theorem aw_ialdK {a n k : Nat} {f : Nat → Int32} {w : Int32} (hd : decode M.2.1 pc = .ok (.iaload, 1)) (hc : h[a]? = some (.inl (0, n, .inl f))) (hk : k < n) (hn : Nat.ble n 100000 = true) (hv : f k = w) (kk : AW g M rm F (pc + 1) ls (.int w :: st) h cells slots) : AW g M rm F pc ls (.int (nI k) :: .ref a :: st) h cells slots := aw_ialdN hd hc hk hn (by rw [hv]; exact kk)
theorem aw_compN (hd : decode M.2.1 pc = .ok (.getstatic 38, 3)) (hm : M.1.cls = "java/lang/String") (kk : AW g M rm F (pc + 3) ls (.int (nI 1) :: st) h cells slots) : AW g M rm F pc ls st h cells slots := aw_compact hd hm kk
theorem aw_strcN {i : Nat} (hi : i < aw_nS) (hd : decode M.2.1 pc = .ok (.getfield 15, 3)) (hm : M.1.cls = "java/lang/String") (kk : AW g M rm F (pc + 3) ls (.int (nI 0) :: st) h cells slots) : AW g M rm F pc ls (.retAddr i :: st) h cells slots := aw_strc hi hd hm kk
theorem aw_ldcSw {index i : Nat} {tx : String} (hd : decode M.2.1 pc = .ok (.ldc_w index, 3)) (hq : (M.1.cls, index, tx, i) ∈ aw_ldc) (k : AW g M rm F (pc + 3) ls (.retAddr i :: st) h cells slots) : AW g M rm F pc ls st h cells slots := by
  intro p e s m args below meth c C H locs lsA hw hS hl
  have kk := k p e s m args below meth c C H locs lsA hw hS hl
  intro T hT X
  obtain ⟨t, a1, b1⟩ := kk T hT X
  refine ⟨t, ?_, b1⟩
  obtain ⟨z1, z2⟩ := C.2.2.2.2.2.2.2.2.2.2.2.1 _ hq
  obtain ⟨k0, cf, i0, a', hk, hcf, hcp, -, hr, hev'⟩ := Cond.stringRef_spec C.2.2.2.2.2.1 z1
  cases z2.symm.trans hev'
  obtain ⟨k', hk', he⟩ := X.warmed.alike.2.2 _ _ hk
  have hr' : k'.resolved[index]? = some (some (.string (g.2.2.2.1 i))) := by
    rcases X.warmed.entry hk hk' index with h | ⟨h, -⟩
    · rw [h]; exact hr
    · rw [hr] at h; cases h
  have hb := C.2.1
  have hexec := C.1
  jvm_step X.here [X.here.top, hexec, hb, hd, ldc_w.wp_string (e := e) (s := T) (f := F0 m pc lsA (st.map (aw_v g))) X.here.top hk' (by rw [he]; exact hcf) hcp hr']
  exact a1
theorem aw_mmaxE {x : Int32} (hd : decode M.2.1 pc = .ok (.invokestatic 92, 3)) (hm : M.1.cls = "java/lang/StringLatin1") (hf : Nat.ble 1 rm.frames = true) (hlo : Nat.ble ((st.map fun v => v.category).sum + 13) rm.locals = true) (hcs : cells ≤ rm.cells ∧ slots ≤ rm.slots) (kk : AW g M rm F (pc + 3) ls (.int x :: st) h cells slots) : AW g M rm F pc ls (.int x :: .int x :: st) h cells slots := fun p e s m args below meth c C H locs lsA hw hS hl =>
  va_mmax (own := M.1.cls) C.1 C.2.1 (C.2.2.1.trans hl.1.symm) C.2.2.2.2.2.1 (C.2.2.2.2.2.2.2.1 _ (by rw [hm]; exact sL_JL_92.2.2.2.2.2.2.resolve_right (fun ⟨_, q⟩ => by simp [aw_nw] at q))) (C.2.2.2.2.2.2.2.1 _ sL_JL_92.2.2.2.2.1) (C.2.2.2.2.2.2.2.1 _ sL_JL_92.2.2.2.2.2.1) (C.2.2.2.2.2.2.2.1 _ sL_JL_92.1) (aw_le hf) (by rw [aw_sum]; exact aw_le hlo) hcs.1 hcs.2 hd (by rw [ite_self]; exact kk p e s m args below meth c C H locs lsA hw hS hl)
theorem aw_mminE {x : Int32} (hd : decode M.2.1 pc = .ok (.invokestatic 38, 3)) (hm : M.1.cls = "java/lang/StringLatin1") (hf : Nat.ble 1 rm.frames = true) (hlo : Nat.ble ((st.map fun v => v.category).sum + 13) rm.locals = true) (hcs : cells ≤ rm.cells ∧ slots ≤ rm.slots) (kk : AW g M rm F (pc + 3) ls (.int x :: st) h cells slots) : AW g M rm F pc ls (.int x :: .int x :: st) h cells slots := fun p e s m args below meth c C H locs lsA hw hS hl =>
  va_mmin (own := M.1.cls) C.1 C.2.1 (C.2.2.1.trans hl.1.symm) C.2.2.2.2.2.1 (C.2.2.2.2.2.2.2.1 _ (by rw [hm]; exact sL_JL_38.2.2.2.2.2.2.resolve_right (fun ⟨_, q⟩ => by simp [aw_nw] at q))) (C.2.2.2.2.2.2.2.1 _ sL_JL_38.2.2.2.2.1) (C.2.2.2.2.2.2.2.1 _ sL_JL_38.2.2.2.2.2.1) (C.2.2.2.2.2.2.2.1 _ sL_JL_38.1) (aw_le hf) (by rw [aw_sum]; exact aw_le hlo) hcs.1 hcs.2 hd (by rw [ite_self]; exact kk p e s m args below meth c C H locs lsA hw hS hl)
theorem aw_ifB_eq {p : Prop} {dp : Decidable p} {off : Int} {tgt : Nat} (hd : decode M.2.1 pc = .ok (.ifCond .eq off, 3)) (ht : (pc : Int) + off = (tgt : Int))
    (kt : ¬ p → AW g M rm F tgt ls st h cells slots) (kf : p → AW g M rm F (pc + 3) ls st h cells slots) : AW g M rm F pc ls (.int (if p then nI 1 else nI 0) :: st) h cells slots := aw_if_eq hd ht (fun z => kt (fun q => by rw [if_pos q] at z; revert z; decide)) (fun z => kf (by
  by_cases q : p
  · exact q
  · rw [if_neg q] at z; exact absurd rfl z))
theorem aw_ifB_ne {p : Prop} {dp : Decidable p} {off : Int} {tgt : Nat} (hd : decode M.2.1 pc = .ok (.ifCond .ne off, 3)) (ht : (pc : Int) + off = (tgt : Int))
    (kt : p → AW g M rm F tgt ls st h cells slots) (kf : ¬ p → AW g M rm F (pc + 3) ls st h cells slots) : AW g M rm F pc ls (.int (if p then nI 1 else nI 0) :: st) h cells slots := aw_if_ne hd ht (fun z => kt (by
  by_cases q : p
  · exact q
  · rw [if_neg q] at z; exact absurd rfl z)) (fun z => kf (fun q => by rw [if_pos q] at z; revert z; decide))
theorem zB {p : Prop} {dp : Decidable p} : (if p then nI 1 else nI 0) = 0 ∨ (if p then nI 1 else nI 0) = 1 := by
  by_cases q : p
  · rw [if_pos q]; exact Or.inr rfl
  · rw [if_neg q]; exact Or.inl rfl
theorem nB {p : Prop} {dp : Decidable p} : narrow .boolean (.int (if p then nI 1 else nI 0)) = .int (if p then nI 1 else nI 0) := aw_zn zB
end AWN
/-- a contract is used with a wider end -/
theorem Sp.to {g : aw_G} {M : aw_M} {d lc mc ms : Nat} {vs : List Value} {h : aw_hp} {P P' : Option Value → aw_hp → Prop} (k : Sp g M d lc mc ms vs h P) (hP : ∀ r h', P r h' → P' r h') : Sp g M d lc mc ms vs h P' := by
  have e : P' = P' := rfl
  intro p e2 ha hc hk s m args below hf hap hpr htr
  obtain ⟨t, oc, h1, h2, h3, ⟨⟨⟨r, h', e1, e2, e3⟩, h5⟩, h6⟩⟩ := k p e2 ha hc hk s m args below hf hap hpr htr
  exact ⟨t, oc, h1, h2, h3, ⟨⟨r, h', e1, hP _ _ e2, e3⟩, h5⟩, h6⟩
