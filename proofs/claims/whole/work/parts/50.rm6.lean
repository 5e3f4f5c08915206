theorem RR_st {T : Nat → Int32} {n p : Nat} (hp : p ≤ n) : RR n (bp (.ok (p, ())) (ml T n [])) p (-1) := ⟨rfl, hp, rfl⟩
theorem RR_su {T : Nat → Int32} {n p : Nat} (hp : p ≤ n) : RR n (bp (.ok (p, ())) (mu T [])) p (-1) := ⟨rfl, hp, rfl⟩
theorem itW_i {k kd ex : Nat} {L : List Int32} (h1 : kd ≤ 4) (h2 : L.length ≤ 20) (h3 : ex < 676) (h4 : kd = 4 → ex < 4) (h5 : kd < 3 → ex = 0) (h6 : L.all pTx = true) (h7 : okL kd L = true) : itW (k, kd, ex, L) := ⟨h1, h2, h3, h4, h5, h6, h7⟩
theorem sgn {T : Nat → Int32} {n p : Nat} {c : Int32} {L : List Int32} (hL : L = [32, c]) (hc : c.toInt ≠ 32) : ml T n L p = mu T [c] (sk T n p) := by rw [hL, ml_sp, ml_mu (by simp [hc])]
set_option maxRecDepth 20000 in
theorem sp_anA {g : aw_G} {S : aw_S} {n : Nat} {T : Nat → Int32} {p c : Nat} {f z : Int32} {X : Nat → Int32} (hc : TPm S n T) (hp : p ≤ n) (hcc : c ≤ 127)  : Sp g M_Mo_another 2 40 0 0 [.ref 33, .int (nI c)] (HP (QM S (nI p) (-1) f z X)) (fun r h => ((T (sk T n p)).toInt = 44 ∧ r = some (.int (nI 1)) ∧ h = HP (QM S (nI (sk T n p + 1)) (-1) f z X)) ∨ ((T (sk T n p)).toInt = c ∧ r = some (.int (nI 0)) ∧ h = HP (QM S (nI (sk T n p)) (-1) f z X)) ∨ (¬ (T (sk T n p)).toInt = 44 ∧ ¬ (T (sk T n p)).toInt = c ∧ r = some (.int (nI 0)) ∧ h = HP (QM S (nI (sk T n p)) (nI (sk T n p)) f z X))) := by
  refine Sp.of rfl (aw_le rfl) ?_
  have hc2 := hc.2.1
  have hsk := sk_le (T := T) hp
  refine aw_aload_n (aw_d q_Mo_another 0 rfl) rfl rfl rfl ?_
  refine cV (aw_d q_Mo_another 1 rfl) (sp_mblanks (res := .ok (p, ())) hc (RR_ok rfl hp rfl)) vL_Mo_337_Mo rfl rfl rfl rfl rfl rfl ⟨aw_le rfl, aw_le rfl⟩ (fun r1 h1 hp1 => ?_)
  obtain ⟨rfl, b1, q1, ⟨hb1, hp_1, rfl⟩, rfl⟩ := hp1
  have hb1 : b1 = sk T n p := hb1
  subst hb1
  refine aw_aload_n (aw_d q_Mo_another 2 rfl) rfl rfl rfl ?_
  refine cVr (aw_d q_Mo_another 3 rfl) (sp_goesA) vL_Mo_327_Mo rfl rfl rfl rfl rfl rfl ⟨aw_le rfl, aw_le rfl⟩ ?_
  refine aw_ifN_eq (tgt := 32) (aw_d q_Mo_another 4 rfl) (by decide) (by omega) (fun c8 => by exfalso; omega) (fun c8 => ?_)
  refine aw_aload_n (aw_d q_Mo_another 5 rfl) rfl rfl rfl ?_
  refine cVr (aw_d q_Mo_another 6 rfl) (sp_peek hc (b := (sk T n p)) (by have := hc.2.1; omega)) vL_Mo_331_Mo rfl rfl rfl rfl rfl rfl ⟨aw_le rfl, aw_le rfl⟩ ?_
  refine aw_bipush (v := nI 44) (aw_d q_Mo_another 7 rfl) (by decide) ?_
  refine aw_icmpI_ne (tgt := 32) (aw_d q_Mo_another 8 rfl) (by decide) (by omega) (fun c17 => ?_) (fun c17 => ?_)
  · refine aw_aload_n (aw_d q_Mo_another 17 rfl) rfl rfl rfl ?_
    refine cVr (aw_d q_Mo_another 18 rfl) (sp_goesA) vL_Mo_327_Mo rfl rfl rfl rfl rfl rfl ⟨aw_le rfl, aw_le rfl⟩ ?_
    refine aw_ifN_eq (tgt := 55) (aw_d q_Mo_another 19 rfl) (by decide) (by omega) (fun c36 => by exfalso; omega) (fun c36 => ?_)
    refine aw_aload_n (aw_d q_Mo_another 20 rfl) rfl rfl rfl ?_
    refine cVr (aw_d q_Mo_another 21 rfl) (sp_peek hc (b := (sk T n p)) (by have := hc.2.1; omega)) vL_Mo_331_Mo rfl rfl rfl rfl rfl rfl ⟨aw_le rfl, aw_le rfl⟩ ?_
    refine aw_iload_n (aw_d q_Mo_another 22 rfl) rfl rfl ?_
    refine aw_icmpI_eq (tgt := 55) (aw_d q_Mo_another 23 rfl) (by decide) (by omega) (fun c44 => ?_) (fun c44 => ?_)
    · refine aw_iconst (v := nI 0) (aw_d q_Mo_another 28 rfl) (by decide) ?_
      exact aw_zret (aw_d q_Mo_another 29 rfl) rfl (rfl) (Or.inr (Or.inl ⟨by omega, rfl, rfl⟩))
    · refine aw_aload_n (aw_d q_Mo_another 24 rfl) rfl rfl rfl ?_
      refine aw_aload_n (aw_d q_Mo_another 25 rfl) rfl rfl rfl ?_
      refine aw_getf (v := .int (nI ((sk T n p)))) (aw_d q_Mo_another 26 rfl) fL_Mo_324_Mo rfl (gk rfl) ?_
      refine cVv (aw_d q_Mo_another 27 rfl) (sp_mfailA) vL_Mo_334_Mo rfl rfl rfl rfl rfl rfl ⟨aw_le rfl, aw_le rfl⟩ ?_
      refine aw_iconst (v := nI 0) (aw_d q_Mo_another 28 rfl) (by decide) ?_
      exact aw_zret (aw_d q_Mo_another 29 rfl) rfl (rfl) (Or.inr (Or.inr ⟨by omega, by omega, rfl, rfl⟩))
  · refine aw_aload_n (aw_d q_Mo_another 9 rfl) rfl rfl rfl ?_
    refine aw_dup (aw_d q_Mo_another 10 rfl) rfl ?_
    refine aw_getf (v := .int (nI ((sk T n p)))) (aw_d q_Mo_another 11 rfl) fL_Mo_324_Mo rfl (gk rfl) ?_
    refine aw_iconst (v := nI 1) (aw_d q_Mo_another 12 rfl) (by decide) ?_
    refine aw_iaddN (aw_d q_Mo_another 13 rfl) ?_
    refine wi_33_31 (aw_d q_Mo_another 14 rfl) pL_Mo_324_Mo ?_
    refine aw_iconst (v := nI 1) (aw_d q_Mo_another 15 rfl) (by decide) ?_
    exact aw_zret (aw_d q_Mo_another 16 rfl) rfl (rfl) (Or.inl ⟨by omega, rfl, rfl⟩)
set_option maxRecDepth 20000 in
theorem sp_anI {g : aw_G} {S : aw_S} {u b : Nat} {f z : Int32} {X : Nat → Int32} (hu : u ≤ 3000) (hb : b ≤ 3010) {x : Int32} : Sp g M_Mo_another 2 40 0 0 [.ref 33, .int x] (HP (QM S (nI b) (nI u) f z X)) (fun r h => r = some (.int (nI 0)) ∧ h = HP (QM S (nI b) (nI u) f z X)) := by
  refine Sp.of rfl (aw_le rfl) ?_
  refine aw_aload_n (aw_d q_Mo_another 0 rfl) rfl rfl rfl ?_
  refine cVv (aw_d q_Mo_another 1 rfl) (sp_blanksI hu) vL_Mo_337_Mo rfl rfl rfl rfl rfl rfl ⟨aw_le rfl, aw_le rfl⟩ ?_
  refine aw_aload_n (aw_d q_Mo_another 2 rfl) rfl rfl rfl ?_
  refine cVr (aw_d q_Mo_another 3 rfl) (sp_goesI hu) vL_Mo_327_Mo rfl rfl rfl rfl rfl rfl ⟨aw_le rfl, aw_le rfl⟩ ?_
  refine aw_ifN_eq (tgt := 32) (aw_d q_Mo_another 4 rfl) (by decide) (by omega) (fun c8 => ?_) (fun c8 => by exfalso; omega)
  refine aw_aload_n (aw_d q_Mo_another 17 rfl) rfl rfl rfl ?_
  refine cVr (aw_d q_Mo_another 18 rfl) (sp_goesI hu) vL_Mo_327_Mo rfl rfl rfl rfl rfl rfl ⟨aw_le rfl, aw_le rfl⟩ ?_
  refine aw_ifN_eq (tgt := 55) (aw_d q_Mo_another 19 rfl) (by decide) (by omega) (fun c36 => ?_) (fun c36 => by exfalso; omega)
  refine aw_iconst (v := nI 0) (aw_d q_Mo_another 28 rfl) (by decide) ?_
  exact aw_zret (aw_d q_Mo_another 29 rfl) rfl (rfl) (⟨rfl, rfl⟩)
theorem runB_id {c : Int32 → Bool} {T : Nat → Int32} {m p : Nat} (h : c (T p) = false) : runB c T m p = p := by
  cases m with
  | zero => rfl
  | succ m => simp only [runB]; rw [h]; rfl
theorem sk_no {T : Nat → Int32} {n p : Nat} (h : bl1 (T p) = false) : sk T n p = p := runB_id h
theorem bl1_no {b : Int32} (h : ¬ (b.toInt = 9 ∨ b.toInt = 10 ∨ b.toInt = 13 ∨ b.toInt = 32)) : bl1 b = false := decide_eq_false h
theorem cl1 {T : Nat → Int32} {n p : Nat} {L : List Int32} (hL : L = [32, 125]) : ml T n L p = mu T (tx 73) (sk T n p) := sgn hL (by decide)
theorem cl2 {T : Nat → Int32} {n p : Nat} {L : List Int32} (hL : L = tx 62 ++ tx 73) : ml T n L p = bd (ml T n (tx 62) p) (mu T (tx 73)) := by
  rw [hL, ml_app, ← ml_muF (T := T) (n := n) (A := tx 73) (by decide)]
theorem mu73 {T : Nat → Int32} {p : Nat} (h : ¬ (T p).toInt = 125) : mu T (tx 73) p = .error p := if_neg (show ¬ (T p).toInt = (125 : Int32).toInt from h)
def vbV (T : Nat → Int32) (n kd p : Nat) : Except Nat it_T := bd (okT kd p (bt T true 21 p [])) (fun z => jx T n kd z.1 z.2)
theorem ml72 {T : Nat → Int32} {n p : Nat} (h : ¬ (T p).toInt = 100) : ml T n (tx 72) p = .error p := by
  show (if (100 : Int32).toInt = 32 then _ else if (T p).toInt = (100 : Int32).toInt then _ else Except.error p) = _
  rw [if_neg (by decide), if_neg (show ¬ (T p).toInt = (100 : Int32).toInt from h)]
set_option maxRecDepth 20000 in
theorem sp_valB {g : aw_G} {S D : aw_S} {N : nm_T} {r : Nat} {s : sq_T} {n : Nat} {T : Nat → Int32} {p v kd : Nat} {f z : Int32} {X : Nat → Int32} (hI : imC S N (r + 1) s D) (hs : itOK s (r * 6 + v)) (hv : v < N.1) (hc : TPm S n T) (hp : p ≤ n) (hkd : kd ≤ 2)  : Sp g M_Mo_valueBraces 4 88 0 0 [.ref 33, .int (nI v), .int (nI kd)] (HP (QM D (nI p) (-1) f z X)) (fun x h => x = none ∧ match vbV T n kd p with
  | .ok y => ∃ (F : aw_S) (f z : Int32) (X : Nat → Int32), (imC S N (r + 1) (s ++ [(r * 6 + v, y.2)]) F ∧ itW (r * 6 + v, y.2)) ∧ y.1 ≤ n ∧ h = HP (QM F (nI y.1) (-1) f z X)
  | .error u => u ≤ 3000 ∧ ∃ (F : aw_S) (b : Nat) (f z : Int32) (X : Nat → Int32), frM S F ∧ b ≤ 3010 ∧ h = HP (QM F (nI b) (nI u) f z X)) := by
  refine Sp.of rfl (aw_le rfl) ?_
  have hc2 := hc.2.1
  refine aw_aload_n (aw_d q_Mo_valueBraces 0 rfl) rfl rfl rfl ?_
  refine aw_getf (v := .int (nI (p))) (aw_d q_Mo_valueBraces 1 rfl) fL_Mo_324_Mo rfl (gk rfl) ?_
  refine aw_istore_n (aw_d q_Mo_valueBraces 2 rfl) rfl (aw_le rfl) rfl ?_
  refine aw_aload_n (aw_d q_Mo_valueBraces 3 rfl) rfl rfl rfl ?_
  refine aw_iconst (v := nI 1) (aw_d q_Mo_valueBraces 4 rfl) (by decide) ?_
  refine cV (aw_d q_Mo_valueBraces 5 rfl) (sp_escA (sl := true) (frM_TP hI.1 hc) hp) vL_Mo_414_Mo rfl rfl rfl rfl rfl rfl ⟨aw_le rfl, aw_le rfl⟩ (fun r7 h7 hp7 => ?_)
  obtain ⟨rfl, hp7⟩ := hp7
  cases hx7 : bt T true 21 p [] with
  | error u7 =>
    rw [hx7] at hp7
    obtain ⟨hu7, b7, z7, X7, hb7, rfl⟩ := hp7
    refine aw_aload_n (aw_d q_Mo_valueBraces 6 rfl) rfl rfl rfl ?_
    refine aw_ldc2 (aw_d q_Mo_valueBraces 7 rfl) lL_Mo_167 ?_
    refine aw_iconst (v := nI 1) (aw_d q_Mo_valueBraces 8 rfl) (by decide) ?_
    refine cVv (aw_d q_Mo_valueBraces 9 rfl) (sp_mustI (Nat.le_trans hu7 hc.2.1) (by decide)) vL_Mo_340_Mo rfl rfl rfl rfl rfl rfl ⟨aw_le rfl, aw_le rfl⟩ ?_
    refine aw_aload_n (aw_d q_Mo_valueBraces 10 rfl) rfl rfl rfl ?_
    refine aw_iload_n (aw_d q_Mo_valueBraces 11 rfl) rfl rfl ?_
    refine aw_iload_n (aw_d q_Mo_valueBraces 12 rfl) rfl rfl ?_
    refine cVv (aw_d q_Mo_valueBraces 13 rfl) (sp_checkI (Nat.le_trans hu7 hc.2.1) hb7) vL_Mo_417_Mo rfl rfl rfl rfl rfl rfl ⟨aw_le rfl, aw_le rfl⟩ ?_
    refine aw_iconst (v := nI 0) (aw_d q_Mo_valueBraces 14 rfl) (by decide) ?_
    refine aw_istore (aw_d q_Mo_valueBraces 15 rfl) (aw_le rfl) rfl ?_
    refine aw_iload_n (aw_d q_Mo_valueBraces 16 rfl) rfl rfl ?_
    refine aw_istore (aw_d q_Mo_valueBraces 17 rfl) (aw_le rfl) rfl ?_
    refine aw_iload_n (aw_d q_Mo_valueBraces 18 rfl) rfl rfl ?_
    refine aw_iconst (v := nI 2) (aw_d q_Mo_valueBraces 19 rfl) (by decide) ?_
    refine aw_icmpN_ne (tgt := 185) (aw_d q_Mo_valueBraces 20 rfl) (by decide) (by (have hc2 := hc.2.1; omega)) (by (have hc2 := hc.2.1; omega)) (fun c32 => ?_) (fun c32 => ?_)
    · refine aw_aload_n (aw_d q_Mo_valueBraces 91 rfl) rfl rfl rfl ?_
      refine aw_bipush (v := nI 125) (aw_d q_Mo_valueBraces 92 rfl) (by decide) ?_
      refine cVv (aw_d q_Mo_valueBraces 93 rfl) (sp_signI (Nat.le_trans hu7 hc.2.1)) vL_Mo_343_Mo rfl rfl rfl rfl rfl rfl ⟨aw_le rfl, aw_le rfl⟩ ?_
      refine aw_aload_n (aw_d q_Mo_valueBraces 94 rfl) rfl rfl rfl ?_
      refine aw_iload_n (aw_d q_Mo_valueBraces 95 rfl) rfl rfl ?_
      refine aw_iload (aw_d q_Mo_valueBraces 96 rfl) rfl ?_
      refine aw_iload (aw_d q_Mo_valueBraces 97 rfl) rfl ?_
      refine cVv (aw_d q_Mo_valueBraces 98 rfl) (sp_giveI (Nat.le_trans hu7 hc.2.1) hb7) vL_Mo_430_Mo rfl rfl rfl rfl rfl rfl ⟨aw_le rfl, aw_le rfl⟩ ?_
      exact aw_vret (aw_d q_Mo_valueBraces 99 rfl) rfl (⟨rfl, by rw [show vbV T n kd p = .error u7 from by rw [vbV, okT, hx7, bd_er, bd_er]]; exact ⟨Nat.le_trans hu7 hc.2.1, D, _, _, _, _, hI.1, hb7, rfl⟩⟩)
    · refine aw_aload_n (aw_d q_Mo_valueBraces 21 rfl) rfl rfl rfl ?_
      refine cVr (aw_d q_Mo_valueBraces 22 rfl) (sp_goesI (Nat.le_trans hu7 hc.2.1)) vL_Mo_327_Mo rfl rfl rfl rfl rfl rfl ⟨aw_le rfl, aw_le rfl⟩ ?_
      refine aw_ifN_eq (tgt := 185) (aw_d q_Mo_valueBraces 23 rfl) (by decide) (by (have hc2 := hc.2.1; omega)) (fun c39 => ?_) (fun c39 => by exfalso; (have hc2 := hc.2.1; omega))
      refine aw_aload_n (aw_d q_Mo_valueBraces 91 rfl) rfl rfl rfl ?_
      refine aw_bipush (v := nI 125) (aw_d q_Mo_valueBraces 92 rfl) (by decide) ?_
      refine cVv (aw_d q_Mo_valueBraces 93 rfl) (sp_signI (Nat.le_trans hu7 hc.2.1)) vL_Mo_343_Mo rfl rfl rfl rfl rfl rfl ⟨aw_le rfl, aw_le rfl⟩ ?_
      refine aw_aload_n (aw_d q_Mo_valueBraces 94 rfl) rfl rfl rfl ?_
      refine aw_iload_n (aw_d q_Mo_valueBraces 95 rfl) rfl rfl ?_
      refine aw_iload (aw_d q_Mo_valueBraces 96 rfl) rfl ?_
      refine aw_iload (aw_d q_Mo_valueBraces 97 rfl) rfl ?_
      refine cVv (aw_d q_Mo_valueBraces 98 rfl) (sp_giveI (Nat.le_trans hu7 hc.2.1) hb7) vL_Mo_430_Mo rfl rfl rfl rfl rfl rfl ⟨aw_le rfl, aw_le rfl⟩ ?_
      exact aw_vret (aw_d q_Mo_valueBraces 99 rfl) rfl (⟨rfl, by rw [show vbV T n kd p = .error u7 from by rw [vbV, okT, hx7, bd_er, bd_er]]; exact ⟨Nat.le_trans hu7 hc.2.1, D, _, _, _, _, hI.1, hb7, rfl⟩⟩)
  | ok y7 =>
    rw [hx7] at hp7
    obtain ⟨hy7, ⟨h17, h347⟩, rfl⟩ := hp7
    refine aw_aload_n (aw_d q_Mo_valueBraces 6 rfl) rfl rfl rfl ?_
    refine aw_ldc2 (aw_d q_Mo_valueBraces 7 rfl) lL_Mo_167 ?_
    refine aw_iconst (v := nI 1) (aw_d q_Mo_valueBraces 8 rfl) (by decide) ?_
    refine cV (aw_d q_Mo_valueBraces 9 rfl) (sp_mmust (res := .ok ((y7.1 - 1), ())) (x := 34) (j := 1) (frM_TP hI.1 hc) (by decide) (RR_ok rfl (show y7.1 - 1 ≤ n by have := hy7.1; omega) rfl)) vL_Mo_340_Mo rfl rfl rfl rfl rfl rfl ⟨aw_le rfl, aw_le rfl⟩ (fun r15 h15 hp15 => ?_)
    obtain ⟨rfl, b15, q15, hr15, rfl⟩ := hp15
    rw [bp_ok, mu1 (show eB 34 1 = [34] by decide) (h347.trans (by decide))] at hr15
    obtain ⟨hbb15, hp_15, rfl⟩ := hr15
    have hbb15 : b15 = y7.1 := by have hq : b15 = y7.1 - 1 + 1 := hbb15; omega
    subst hbb15
    refine aw_aload_n (aw_d q_Mo_valueBraces 10 rfl) rfl rfl rfl ?_
    refine aw_iload_n (aw_d q_Mo_valueBraces 11 rfl) rfl rfl ?_
    refine aw_iload_n (aw_d q_Mo_valueBraces 12 rfl) rfl rfl ?_
    refine cV (aw_d q_Mo_valueBraces 13 rfl) (sp_checkA (L := y7.2) (kd := kd) (x := nI p) hy7.2.1 hy7.2.2 (by omega)) vL_Mo_417_Mo rfl rfl rfl rfl rfl rfl ⟨aw_le rfl, aw_le rfl⟩ (fun r21 h21 hp21 => ?_)
    obtain ⟨rfl, hp21⟩ := hp21
    rcases hp21 with ⟨hk21, rfl⟩ | ⟨hk21, rfl⟩
    · skip -- ok
      refine aw_iconst (v := nI 0) (aw_d q_Mo_valueBraces 14 rfl) (by decide) ?_
      refine aw_istore (aw_d q_Mo_valueBraces 15 rfl) (aw_le rfl) rfl ?_
      refine aw_iload_n (aw_d q_Mo_valueBraces 16 rfl) rfl rfl ?_
      refine aw_istore (aw_d q_Mo_valueBraces 17 rfl) (aw_le rfl) rfl ?_
      refine aw_iload_n (aw_d q_Mo_valueBraces 18 rfl) rfl rfl ?_
      refine aw_iconst (v := nI 2) (aw_d q_Mo_valueBraces 19 rfl) (by decide) ?_
      refine aw_icmpN_ne (tgt := 185) (aw_d q_Mo_valueBraces 20 rfl) (by decide) (by (have hc2 := hc.2.1; omega)) (by (have hc2 := hc.2.1; omega)) (fun c32 => ?_) (fun c32 => ?_)
      · refine aw_aload_n (aw_d q_Mo_valueBraces 91 rfl) rfl rfl rfl ?_
        refine aw_bipush (v := nI 125) (aw_d q_Mo_valueBraces 92 rfl) (by decide) ?_
        refine cV (aw_d q_Mo_valueBraces 93 rfl) (sp_Lsign (res := .ok (y7.1, ())) (A := []) (c := 125) (frM_TP hI.1 hc) (by decide) (RR_st (T := T) hy7.1)) vL_Mo_343_Mo rfl rfl rfl rfl rfl rfl ⟨aw_le rfl, aw_le rfl⟩ (fun r188 h188 hp188 => ?_)
        obtain ⟨rfl, b188, q188, hr188, rfl⟩ := hp188
        rw [bp_ok, show ml T n ([] ++ [32, nI 125]) y7.1 = mu T (tx 73) (sk T n y7.1) from (cl1 (by decide))] at hr188
        cases hx191s : mu T (tx 73) (sk T n y7.1) with
        | error u191s =>
          rw [hx191s] at hr188
          obtain ⟨hu191s, rfl, hb191s⟩ := hr188
          refine aw_aload_n (aw_d q_Mo_valueBraces 94 rfl) rfl rfl rfl ?_
          refine aw_iload_n (aw_d q_Mo_valueBraces 95 rfl) rfl rfl ?_
          refine aw_iload (aw_d q_Mo_valueBraces 96 rfl) rfl ?_
          refine aw_iload (aw_d q_Mo_valueBraces 97 rfl) rfl ?_
          refine cVv (aw_d q_Mo_valueBraces 98 rfl) (sp_giveI hu191s hb191s) vL_Mo_430_Mo rfl rfl rfl rfl rfl rfl ⟨aw_le rfl, aw_le rfl⟩ ?_
          exact aw_vret (aw_d q_Mo_valueBraces 99 rfl) rfl (⟨rfl, by rw [show vbV T n kd p = .error u191s from by rw [vbV, okT, hx7, bd_ok, if_pos hk21, bd_ok]; rw [jx_no (fun q => c32 q.1), hx191s]; rfl]; exact ⟨hu191s, D, _, _, _, _, hI.1, hb191s, rfl⟩⟩)
        | ok p191s =>
          rw [hx191s] at hr188
          obtain ⟨hbb191s, hp_191s, rfl⟩ := hr188
          have hbb191s : b188 = p191s := hbb191s
          subst hbb191s
          refine aw_aload_n (aw_d q_Mo_valueBraces 94 rfl) rfl rfl rfl ?_
          refine aw_iload_n (aw_d q_Mo_valueBraces 95 rfl) rfl rfl ?_
          refine aw_iload (aw_d q_Mo_valueBraces 96 rfl) rfl ?_
          refine aw_iload (aw_d q_Mo_valueBraces 97 rfl) rfl ?_
          refine cV (aw_d q_Mo_valueBraces 98 rfl) (sp_giveA (kd := kd) (ex := 0) (L := y7.2) hI hs hv hy7.2.1) vL_Mo_430_Mo rfl rfl rfl rfl rfl rfl ⟨aw_le rfl, aw_le rfl⟩ (fun r197 h197 hp197 => ?_)
          obtain ⟨rfl, F197, hI197, rfl⟩ := hp197
          exact aw_vret (aw_d q_Mo_valueBraces 99 rfl) rfl (⟨rfl, by rw [show vbV T n kd p = .ok (b188, kd, 0, y7.2) from by rw [vbV, okT, hx7, bd_ok, if_pos hk21, bd_ok]; rw [jx_no (fun q => c32 q.1), hx191s]; rfl]; exact ⟨_, _, _, _, ⟨hI197, itW_i (kd := kd) (ex := 0) (by have := hkd; omega) hy7.2.1 (by decide) (fun h => by have := hkd; omega) (fun _ => rfl) hy7.2.2 (hk21)⟩, hp_191s, rfl⟩⟩)
      · refine aw_aload_n (aw_d q_Mo_valueBraces 21 rfl) rfl rfl rfl ?_
        refine cVr (aw_d q_Mo_valueBraces 22 rfl) (sp_goesA) vL_Mo_327_Mo rfl rfl rfl rfl rfl rfl ⟨aw_le rfl, aw_le rfl⟩ ?_
        refine aw_ifN_eq (tgt := 185) (aw_d q_Mo_valueBraces 23 rfl) (by decide) (by (have hc2 := hc.2.1; omega)) (fun c39 => by exfalso; (have hc2 := hc.2.1; omega)) (fun c39 => ?_)
        refine aw_aload_n (aw_d q_Mo_valueBraces 24 rfl) rfl rfl rfl ?_
        refine aw_bipush (v := nI 125) (aw_d q_Mo_valueBraces 25 rfl) (by decide) ?_
        refine cV (aw_d q_Mo_valueBraces 26 rfl) (sp_anA (c := 125) (frM_TP hI.1 hc) hy7.1 (by decide)) vL_Mo_388_Mo rfl rfl rfl rfl rfl rfl ⟨aw_le rfl, aw_le rfl⟩ (fun r45 h45 hp45 => ?_)
        have hsk45 := sk_le (T := T) hy7.1
        rcases hp45 with ⟨ha45, rfl, rfl⟩ | ⟨ha45, rfl, rfl⟩ | ⟨ha45, hd45, rfl, rfl⟩
        · skip -- comma
          have hpn45 : sk T n (y7.1) + 1 ≤ n := T_lt hc.2.2.2.1 (by omega)
          refine aw_ifN_eq (tgt := 185) (aw_d q_Mo_valueBraces 27 rfl) (by decide) (by (have hc2 := hc.2.1; omega)) (fun c48 => by exfalso; (have hc2 := hc.2.1; omega)) (fun c48 => ?_)
          refine aw_aload_n (aw_d q_Mo_valueBraces 28 rfl) rfl rfl rfl ?_
          refine aw_bipush (v := nI 34) (aw_d q_Mo_valueBraces 29 rfl) (by decide) ?_
          refine cV (aw_d q_Mo_valueBraces 30 rfl) (sp_Lsign (res := .ok ((sk T n y7.1 + 1), ())) (A := []) (c := 34) (frM_TP hI.1 hc) (by decide) (RR_st (T := T) hpn45)) vL_Mo_343_Mo rfl rfl rfl rfl rfl rfl ⟨aw_le rfl, aw_le rfl⟩ (fun r54 h54 hp54 => ?_)
          obtain ⟨rfl, b54, q54, hr54, rfl⟩ := hp54
          rw [bp_ok, show ml T n ([] ++ [32, nI 34]) (sk T n y7.1 + 1) = ml T n (tx 61) (sk T n y7.1 + 1) from (congrArg (fun L => ml T n L _) (show _ = tx 61 by decide))] at hr54
          cases hx57s : ml T n (tx 61) (sk T n y7.1 + 1) with
          | error u57s =>
            rw [hx57s] at hr54
            obtain ⟨hu57s, rfl, hb57s⟩ := hr54
            refine aw_aload_n (aw_d q_Mo_valueBraces 31 rfl) rfl rfl rfl ?_
            refine cVr (aw_d q_Mo_valueBraces 32 rfl) (sp_goesI hu57s) vL_Mo_327_Mo rfl rfl rfl rfl rfl rfl ⟨aw_le rfl, aw_le rfl⟩ ?_
            refine aw_ifN_eq (tgt := 88) (aw_d q_Mo_valueBraces 33 rfl) (by decide) (by (have hc2 := hc.2.1; omega)) (fun c61 => ?_) (fun c61 => by exfalso; (have hc2 := hc.2.1; omega))
            refine aw_aload_n (aw_d q_Mo_valueBraces 45 rfl) rfl rfl rfl ?_
            refine cVr (aw_d q_Mo_valueBraces 46 rfl) (sp_goesI hu57s) vL_Mo_327_Mo rfl rfl rfl rfl rfl rfl ⟨aw_le rfl, aw_le rfl⟩ ?_
            refine aw_ifN_eq (tgt := 119) (aw_d q_Mo_valueBraces 47 rfl) (by decide) (by (have hc2 := hc.2.1; omega)) (fun c92 => ?_) (fun c92 => by exfalso; (have hc2 := hc.2.1; omega))
            refine aw_aload_n (aw_d q_Mo_valueBraces 59 rfl) rfl rfl rfl ?_
            refine aw_aload_n (aw_d q_Mo_valueBraces 60 rfl) rfl rfl rfl ?_
            refine aw_getf (v := .int (nI (b54))) (aw_d q_Mo_valueBraces 61 rfl) fL_Mo_324_Mo rfl (gk rfl) ?_
            refine cVv (aw_d q_Mo_valueBraces 62 rfl) (sp_mfailI hu57s) vL_Mo_334_Mo rfl rfl rfl rfl rfl rfl ⟨aw_le rfl, aw_le rfl⟩ ?_
            refine aw_aload_n (aw_d q_Mo_valueBraces 63 rfl) rfl rfl rfl ?_
            refine aw_ldc2 (aw_d q_Mo_valueBraces 64 rfl) lL_Mo_167 ?_
            refine aw_iconst (v := nI 1) (aw_d q_Mo_valueBraces 65 rfl) (by decide) ?_
            refine cVv (aw_d q_Mo_valueBraces 66 rfl) (sp_mustI hu57s (by decide)) vL_Mo_340_Mo rfl rfl rfl rfl rfl rfl ⟨aw_le rfl, aw_le rfl⟩ ?_
            refine aw_aload_n (aw_d q_Mo_valueBraces 67 rfl) rfl rfl rfl ?_
            refine aw_bipush (v := nI 58) (aw_d q_Mo_valueBraces 68 rfl) (by decide) ?_
            refine cVv (aw_d q_Mo_valueBraces 69 rfl) (sp_signI hu57s) vL_Mo_343_Mo rfl rfl rfl rfl rfl rfl ⟨aw_le rfl, aw_le rfl⟩ ?_
            refine aw_aload_n (aw_d q_Mo_valueBraces 70 rfl) rfl rfl rfl ?_
            refine aw_bipush (v := nI 34) (aw_d q_Mo_valueBraces 71 rfl) (by decide) ?_
            refine cVv (aw_d q_Mo_valueBraces 72 rfl) (sp_signI hu57s) vL_Mo_343_Mo rfl rfl rfl rfl rfl rfl ⟨aw_le rfl, aw_le rfl⟩ ?_
            refine aw_aload_n (aw_d q_Mo_valueBraces 73 rfl) rfl rfl rfl ?_
            refine cVr (aw_d q_Mo_valueBraces 74 rfl) (sp_goesI hu57s) vL_Mo_327_Mo rfl rfl rfl rfl rfl rfl ⟨aw_le rfl, aw_le rfl⟩ ?_
            refine aw_ifN_ne (tgt := 158) (aw_d q_Mo_valueBraces 75 rfl) (by decide) (by (have hc2 := hc.2.1; omega)) (fun c151 => by exfalso; (have hc2 := hc.2.1; omega)) (fun c151 => ?_)
            refine aw_iconst (v := nI 0) (aw_d q_Mo_valueBraces 76 rfl) (by decide) ?_
            refine aw_goto (tgt := 175) (aw_d q_Mo_valueBraces 77 rfl) (by decide) ?_
            refine aw_istore (aw_d q_Mo_valueBraces 86 rfl) (aw_le rfl) rfl ?_
            refine aw_aload_n (aw_d q_Mo_valueBraces 87 rfl) rfl rfl rfl ?_
            refine aw_ldc2 (aw_d q_Mo_valueBraces 88 rfl) lL_Mo_167 ?_
            refine aw_iconst (v := nI 1) (aw_d q_Mo_valueBraces 89 rfl) (by decide) ?_
            refine cVv (aw_d q_Mo_valueBraces 90 rfl) (sp_mustI hu57s (by decide)) vL_Mo_340_Mo rfl rfl rfl rfl rfl rfl ⟨aw_le rfl, aw_le rfl⟩ ?_
            refine aw_aload_n (aw_d q_Mo_valueBraces 91 rfl) rfl rfl rfl ?_
            refine aw_bipush (v := nI 125) (aw_d q_Mo_valueBraces 92 rfl) (by decide) ?_
            refine cVv (aw_d q_Mo_valueBraces 93 rfl) (sp_signI hu57s) vL_Mo_343_Mo rfl rfl rfl rfl rfl rfl ⟨aw_le rfl, aw_le rfl⟩ ?_
            refine aw_aload_n (aw_d q_Mo_valueBraces 94 rfl) rfl rfl rfl ?_
            refine aw_iload_n (aw_d q_Mo_valueBraces 95 rfl) rfl rfl ?_
            refine aw_iload (aw_d q_Mo_valueBraces 96 rfl) rfl ?_
            refine aw_iload (aw_d q_Mo_valueBraces 97 rfl) rfl ?_
            refine cVv (aw_d q_Mo_valueBraces 98 rfl) (sp_giveI hu57s hb57s) vL_Mo_430_Mo rfl rfl rfl rfl rfl rfl ⟨aw_le rfl, aw_le rfl⟩ ?_
            exact aw_vret (aw_d q_Mo_valueBraces 99 rfl) rfl (⟨rfl, by rw [show vbV T n kd p = .error u57s from by rw [vbV, okT, hx7, bd_ok, if_pos hk21, bd_ok]; rw [jx_e (by omega) ha45 hx57s]]; exact ⟨hu57s, D, _, _, _, _, hI.1, hb57s, rfl⟩⟩)
          | ok p57s =>
            rw [hx57s] at hr54
            obtain ⟨hbb57s, hp_57s, rfl⟩ := hr54
            have hbb57s : b54 = p57s := hbb57s
            subst hbb57s
            refine aw_aload_n (aw_d q_Mo_valueBraces 31 rfl) rfl rfl rfl ?_
            refine cVr (aw_d q_Mo_valueBraces 32 rfl) (sp_goesA) vL_Mo_327_Mo rfl rfl rfl rfl rfl rfl ⟨aw_le rfl, aw_le rfl⟩ ?_
            refine aw_ifN_eq (tgt := 88) (aw_d q_Mo_valueBraces 33 rfl) (by decide) (by (have hc2 := hc.2.1; omega)) (fun c61 => by exfalso; (have hc2 := hc.2.1; omega)) (fun c61 => ?_)
            refine aw_aload_n (aw_d q_Mo_valueBraces 34 rfl) rfl rfl rfl ?_
            refine cVr (aw_d q_Mo_valueBraces 35 rfl) (sp_peek (frM_TP hI.1 hc) (b := b54) (by have := hc.2.1; omega)) vL_Mo_331_Mo rfl rfl rfl rfl rfl rfl ⟨aw_le rfl, aw_le rfl⟩ ?_
            refine aw_bipush (v := nI 120) (aw_d q_Mo_valueBraces 36 rfl) (by decide) ?_
            refine aw_icmpI_ne (tgt := 88) (aw_d q_Mo_valueBraces 37 rfl) (by decide) (by (have hc2 := hc.2.1; omega)) (fun c70 => ?_) (fun c70 => ?_)
            · refine aw_aload_n (aw_d q_Mo_valueBraces 45 rfl) rfl rfl rfl ?_
              refine cVr (aw_d q_Mo_valueBraces 46 rfl) (sp_goesA) vL_Mo_327_Mo rfl rfl rfl rfl rfl rfl ⟨aw_le rfl, aw_le rfl⟩ ?_
              refine aw_ifN_eq (tgt := 119) (aw_d q_Mo_valueBraces 47 rfl) (by decide) (by (have hc2 := hc.2.1; omega)) (fun c92 => by exfalso; (have hc2 := hc.2.1; omega)) (fun c92 => ?_)
              refine aw_aload_n (aw_d q_Mo_valueBraces 48 rfl) rfl rfl rfl ?_
              refine cVr (aw_d q_Mo_valueBraces 49 rfl) (sp_peek (frM_TP hI.1 hc) (b := b54) (by have := hc.2.1; omega)) vL_Mo_331_Mo rfl rfl rfl rfl rfl rfl ⟨aw_le rfl, aw_le rfl⟩ ?_
              refine aw_bipush (v := nI 100) (aw_d q_Mo_valueBraces 50 rfl) (by decide) ?_
              refine aw_icmpI_ne (tgt := 119) (aw_d q_Mo_valueBraces 51 rfl) (by decide) (by (have hc2 := hc.2.1; omega)) (fun c101 => ?_) (fun c101 => ?_)
              · refine aw_aload_n (aw_d q_Mo_valueBraces 59 rfl) rfl rfl rfl ?_
                refine aw_aload_n (aw_d q_Mo_valueBraces 60 rfl) rfl rfl rfl ?_
                refine aw_getf (v := .int (nI (b54))) (aw_d q_Mo_valueBraces 61 rfl) fL_Mo_324_Mo rfl (gk rfl) ?_
                refine cVv (aw_d q_Mo_valueBraces 62 rfl) (sp_mfailA) vL_Mo_334_Mo rfl rfl rfl rfl rfl rfl ⟨aw_le rfl, aw_le rfl⟩ ?_
                refine aw_aload_n (aw_d q_Mo_valueBraces 63 rfl) rfl rfl rfl ?_
                refine aw_ldc2 (aw_d q_Mo_valueBraces 64 rfl) lL_Mo_167 ?_
                refine aw_iconst (v := nI 1) (aw_d q_Mo_valueBraces 65 rfl) (by decide) ?_
                refine cVv (aw_d q_Mo_valueBraces 66 rfl) (sp_mustI (show b54 ≤ 3000 by have := hc.2.1; omega) (by decide)) vL_Mo_340_Mo rfl rfl rfl rfl rfl rfl ⟨aw_le rfl, aw_le rfl⟩ ?_
                refine aw_aload_n (aw_d q_Mo_valueBraces 67 rfl) rfl rfl rfl ?_
                refine aw_bipush (v := nI 58) (aw_d q_Mo_valueBraces 68 rfl) (by decide) ?_
                refine cVv (aw_d q_Mo_valueBraces 69 rfl) (sp_signI (show b54 ≤ 3000 by have := hc.2.1; omega)) vL_Mo_343_Mo rfl rfl rfl rfl rfl rfl ⟨aw_le rfl, aw_le rfl⟩ ?_
                refine aw_aload_n (aw_d q_Mo_valueBraces 70 rfl) rfl rfl rfl ?_
                refine aw_bipush (v := nI 34) (aw_d q_Mo_valueBraces 71 rfl) (by decide) ?_
                refine cVv (aw_d q_Mo_valueBraces 72 rfl) (sp_signI (show b54 ≤ 3000 by have := hc.2.1; omega)) vL_Mo_343_Mo rfl rfl rfl rfl rfl rfl ⟨aw_le rfl, aw_le rfl⟩ ?_
                refine aw_aload_n (aw_d q_Mo_valueBraces 73 rfl) rfl rfl rfl ?_
                refine cVr (aw_d q_Mo_valueBraces 74 rfl) (sp_goesI (show b54 ≤ 3000 by have := hc.2.1; omega)) vL_Mo_327_Mo rfl rfl rfl rfl rfl rfl ⟨aw_le rfl, aw_le rfl⟩ ?_
                refine aw_ifN_ne (tgt := 158) (aw_d q_Mo_valueBraces 75 rfl) (by decide) (by (have hc2 := hc.2.1; omega)) (fun c151 => by exfalso; (have hc2 := hc.2.1; omega)) (fun c151 => ?_)
                refine aw_iconst (v := nI 0) (aw_d q_Mo_valueBraces 76 rfl) (by decide) ?_
                refine aw_goto (tgt := 175) (aw_d q_Mo_valueBraces 77 rfl) (by decide) ?_
                refine aw_istore (aw_d q_Mo_valueBraces 86 rfl) (aw_le rfl) rfl ?_
                refine aw_aload_n (aw_d q_Mo_valueBraces 87 rfl) rfl rfl rfl ?_
                refine aw_ldc2 (aw_d q_Mo_valueBraces 88 rfl) lL_Mo_167 ?_
                refine aw_iconst (v := nI 1) (aw_d q_Mo_valueBraces 89 rfl) (by decide) ?_
                refine cVv (aw_d q_Mo_valueBraces 90 rfl) (sp_mustI (show b54 ≤ 3000 by have := hc.2.1; omega) (by decide)) vL_Mo_340_Mo rfl rfl rfl rfl rfl rfl ⟨aw_le rfl, aw_le rfl⟩ ?_
                refine aw_aload_n (aw_d q_Mo_valueBraces 91 rfl) rfl rfl rfl ?_
                refine aw_bipush (v := nI 125) (aw_d q_Mo_valueBraces 92 rfl) (by decide) ?_
                refine cVv (aw_d q_Mo_valueBraces 93 rfl) (sp_signI (show b54 ≤ 3000 by have := hc.2.1; omega)) vL_Mo_343_Mo rfl rfl rfl rfl rfl rfl ⟨aw_le rfl, aw_le rfl⟩ ?_
                refine aw_aload_n (aw_d q_Mo_valueBraces 94 rfl) rfl rfl rfl ?_
                refine aw_iload_n (aw_d q_Mo_valueBraces 95 rfl) rfl rfl ?_
                refine aw_iload (aw_d q_Mo_valueBraces 96 rfl) rfl ?_
                refine aw_iload (aw_d q_Mo_valueBraces 97 rfl) rfl ?_
                refine cVv (aw_d q_Mo_valueBraces 98 rfl) (sp_giveI (show b54 ≤ 3000 by have := hc.2.1; omega) (show b54 ≤ 3010 by have := hc.2.1; omega)) vL_Mo_430_Mo rfl rfl rfl rfl rfl rfl ⟨aw_le rfl, aw_le rfl⟩ ?_
                exact aw_vret (aw_d q_Mo_valueBraces 99 rfl) rfl (⟨rfl, by rw [show vbV T n kd p = .error b54 from by rw [vbV, okT, hx7, bd_ok, if_pos hk21, bd_ok]; rw [jx_4 (by omega) ha45 hx57s (by omega), ml72 (by omega)]; rfl]; exact ⟨by have := hc.2.1; omega, D, _, _, _, _, hI.1, by have := hc.2.1; omega, rfl⟩⟩)
              · refine aw_aload_n (aw_d q_Mo_valueBraces 52 rfl) rfl rfl rfl ?_
                refine aw_ldc2 (aw_d q_Mo_valueBraces 53 rfl) lL_Mo_422 ?_
                refine aw_bipush (v := nI 8) (aw_d q_Mo_valueBraces 54 rfl) (by decide) ?_
                refine cV (aw_d q_Mo_valueBraces 55 rfl) (sp_Lmust (res := .ok (b54, ())) (A := []) (x := 7233190438448492645) (j := 8) (frM_TP hI.1 hc) (by decide) (by decide) (RR_st (T := T) hp_57s)) vL_Mo_340_Mo rfl rfl rfl rfl rfl rfl ⟨aw_le rfl, aw_le rfl⟩ (fun r110 h110 hp110 => ?_)
                obtain ⟨rfl, b110, q110, hr110, rfl⟩ := hp110
                refine aw_iconst (v := nI 4) (aw_d q_Mo_valueBraces 56 rfl) (by decide) ?_
                refine aw_istore (aw_d q_Mo_valueBraces 57 rfl) (aw_le rfl) rfl ?_
                refine aw_goto (tgt := 127) (aw_d q_Mo_valueBraces 58 rfl) (by decide) ?_
                refine aw_aload_n (aw_d q_Mo_valueBraces 63 rfl) rfl rfl rfl ?_
                refine aw_ldc2 (aw_d q_Mo_valueBraces 64 rfl) lL_Mo_167 ?_
                refine aw_iconst (v := nI 1) (aw_d q_Mo_valueBraces 65 rfl) (by decide) ?_
                refine cV (aw_d q_Mo_valueBraces 66 rfl) (sp_Lmust (res := .ok (b54, ())) (A := ([] ++ eB 7233190438448492645 8)) (x := 34) (j := 1) (frM_TP hI.1 hc) (by decide) (by decide) hr110) vL_Mo_340_Mo rfl rfl rfl rfl rfl rfl ⟨aw_le rfl, aw_le rfl⟩ (fun r132 h132 hp132 => ?_)
                obtain ⟨rfl, b132, q132, hr132, rfl⟩ := hp132
                refine aw_aload_n (aw_d q_Mo_valueBraces 67 rfl) rfl rfl rfl ?_
                refine aw_bipush (v := nI 58) (aw_d q_Mo_valueBraces 68 rfl) (by decide) ?_
                refine cV (aw_d q_Mo_valueBraces 69 rfl) (sp_Lsign (res := .ok (b54, ())) (A := (([] ++ eB 7233190438448492645 8) ++ eB 34 1)) (c := 58) (frM_TP hI.1 hc) (by decide) hr132) vL_Mo_343_Mo rfl rfl rfl rfl rfl rfl ⟨aw_le rfl, aw_le rfl⟩ (fun r138 h138 hp138 => ?_)
                obtain ⟨rfl, b138, q138, hr138, rfl⟩ := hp138
                refine aw_aload_n (aw_d q_Mo_valueBraces 70 rfl) rfl rfl rfl ?_
                refine aw_bipush (v := nI 34) (aw_d q_Mo_valueBraces 71 rfl) (by decide) ?_
                refine cV (aw_d q_Mo_valueBraces 72 rfl) (sp_Lsign (res := .ok (b54, ())) (A := ((([] ++ eB 7233190438448492645 8) ++ eB 34 1) ++ [32, nI 58])) (c := 34) (frM_TP hI.1 hc) (by decide) hr138) vL_Mo_343_Mo rfl rfl rfl rfl rfl rfl ⟨aw_le rfl, aw_le rfl⟩ (fun r144 h144 hp144 => ?_)
                obtain ⟨rfl, b144, q144, hr144, rfl⟩ := hp144
                rw [bp_ok, show ml T n (((([] ++ eB 7233190438448492645 8) ++ eB 34 1) ++ [32, nI 58]) ++ [32, nI 34]) b54 = ml T n (tx 72) b54 from (congrArg (fun L => ml T n L _) (show _ = tx 72 by decide))] at hr144
                cases hx147s : ml T n (tx 72) b54 with
                | error u147s =>
                  rw [hx147s] at hr144
                  obtain ⟨hu147s, rfl, hb147s⟩ := hr144
                  refine aw_aload_n (aw_d q_Mo_valueBraces 73 rfl) rfl rfl rfl ?_
                  refine cVr (aw_d q_Mo_valueBraces 74 rfl) (sp_goesI hu147s) vL_Mo_327_Mo rfl rfl rfl rfl rfl rfl ⟨aw_le rfl, aw_le rfl⟩ ?_
                  refine aw_ifN_ne (tgt := 158) (aw_d q_Mo_valueBraces 75 rfl) (by decide) (by (have hc2 := hc.2.1; omega)) (fun c151 => by exfalso; (have hc2 := hc.2.1; omega)) (fun c151 => ?_)
                  refine aw_iconst (v := nI 0) (aw_d q_Mo_valueBraces 76 rfl) (by decide) ?_
                  refine aw_goto (tgt := 175) (aw_d q_Mo_valueBraces 77 rfl) (by decide) ?_
                  refine aw_istore (aw_d q_Mo_valueBraces 86 rfl) (aw_le rfl) rfl ?_
                  refine aw_aload_n (aw_d q_Mo_valueBraces 87 rfl) rfl rfl rfl ?_
                  refine aw_ldc2 (aw_d q_Mo_valueBraces 88 rfl) lL_Mo_167 ?_
                  refine aw_iconst (v := nI 1) (aw_d q_Mo_valueBraces 89 rfl) (by decide) ?_
                  refine cVv (aw_d q_Mo_valueBraces 90 rfl) (sp_mustI hu147s (by decide)) vL_Mo_340_Mo rfl rfl rfl rfl rfl rfl ⟨aw_le rfl, aw_le rfl⟩ ?_
                  refine aw_aload_n (aw_d q_Mo_valueBraces 91 rfl) rfl rfl rfl ?_
                  refine aw_bipush (v := nI 125) (aw_d q_Mo_valueBraces 92 rfl) (by decide) ?_
                  refine cVv (aw_d q_Mo_valueBraces 93 rfl) (sp_signI hu147s) vL_Mo_343_Mo rfl rfl rfl rfl rfl rfl ⟨aw_le rfl, aw_le rfl⟩ ?_
                  refine aw_aload_n (aw_d q_Mo_valueBraces 94 rfl) rfl rfl rfl ?_
                  refine aw_iload_n (aw_d q_Mo_valueBraces 95 rfl) rfl rfl ?_
                  refine aw_iload (aw_d q_Mo_valueBraces 96 rfl) rfl ?_
                  refine aw_iload (aw_d q_Mo_valueBraces 97 rfl) rfl ?_
                  refine cVv (aw_d q_Mo_valueBraces 98 rfl) (sp_giveI hu147s hb147s) vL_Mo_430_Mo rfl rfl rfl rfl rfl rfl ⟨aw_le rfl, aw_le rfl⟩ ?_
                  exact aw_vret (aw_d q_Mo_valueBraces 99 rfl) rfl (⟨rfl, by rw [show vbV T n kd p = .error u147s from by rw [vbV, okT, hx7, bd_ok, if_pos hk21, bd_ok]; rw [jx_4 (by omega) ha45 hx57s (by omega), hx147s, bd_er]]; exact ⟨hu147s, D, _, _, _, _, hI.1, hb147s, rfl⟩⟩)
                | ok p147s =>
                  rw [hx147s] at hr144
                  obtain ⟨hbb147s, hp_147s, rfl⟩ := hr144
                  have hbb147s : b144 = p147s := hbb147s
                  subst hbb147s
                  refine aw_aload_n (aw_d q_Mo_valueBraces 73 rfl) rfl rfl rfl ?_
                  refine cVr (aw_d q_Mo_valueBraces 74 rfl) (sp_goesA) vL_Mo_327_Mo rfl rfl rfl rfl rfl rfl ⟨aw_le rfl, aw_le rfl⟩ ?_
                  refine aw_ifN_ne (tgt := 158) (aw_d q_Mo_valueBraces 75 rfl) (by decide) (by (have hc2 := hc.2.1; omega)) (fun c151 => ?_) (fun c151 => by exfalso; (have hc2 := hc.2.1; omega))
                  refine aw_iload (aw_d q_Mo_valueBraces 78 rfl) rfl ?_
                  refine aw_iconst (v := nI 3) (aw_d q_Mo_valueBraces 79 rfl) (by decide) ?_
                  refine aw_icmpN_ne (tgt := 171) (aw_d q_Mo_valueBraces 80 rfl) (by decide) (by (have hc2 := hc.2.1; omega)) (by (have hc2 := hc.2.1; omega)) (fun c161 => ?_) (fun c161 => by exfalso; (have hc2 := hc.2.1; omega))
                  refine aw_aload_n (aw_d q_Mo_valueBraces 84 rfl) rfl rfl rfl ?_
                  refine cV (aw_d q_Mo_valueBraces 85 rfl) (sp_typeA (frM_TP hI.1 hc) hp_147s) vL_Mo_427_Mo rfl rfl rfl rfl rfl rfl ⟨aw_le rfl, aw_le rfl⟩ (fun r172 h172 hp172 => ?_)
                  cases hx172 : ew T n 4 b144 with
                  | error u172 =>
                    rw [hx172] at hp172
                    obtain ⟨hue172, rfl, b172, hb172, rfl⟩ := hp172
                    subst hue172
                    refine aw_istore (aw_d q_Mo_valueBraces 86 rfl) (aw_le rfl) rfl ?_
                    refine aw_aload_n (aw_d q_Mo_valueBraces 87 rfl) rfl rfl rfl ?_
                    refine aw_ldc2 (aw_d q_Mo_valueBraces 88 rfl) lL_Mo_167 ?_
                    refine aw_iconst (v := nI 1) (aw_d q_Mo_valueBraces 89 rfl) (by decide) ?_
                    refine cVv (aw_d q_Mo_valueBraces 90 rfl) (sp_mustI (show u172 ≤ 3000 by have := hc.2.1; have := hp_147s; omega) (by decide)) vL_Mo_340_Mo rfl rfl rfl rfl rfl rfl ⟨aw_le rfl, aw_le rfl⟩ ?_
                    refine aw_aload_n (aw_d q_Mo_valueBraces 91 rfl) rfl rfl rfl ?_
                    refine aw_bipush (v := nI 125) (aw_d q_Mo_valueBraces 92 rfl) (by decide) ?_
                    refine cVv (aw_d q_Mo_valueBraces 93 rfl) (sp_signI (show u172 ≤ 3000 by have := hc.2.1; have := hp_147s; omega)) vL_Mo_343_Mo rfl rfl rfl rfl rfl rfl ⟨aw_le rfl, aw_le rfl⟩ ?_
                    refine aw_aload_n (aw_d q_Mo_valueBraces 94 rfl) rfl rfl rfl ?_
                    refine aw_iload_n (aw_d q_Mo_valueBraces 95 rfl) rfl rfl ?_
                    refine aw_iload (aw_d q_Mo_valueBraces 96 rfl) rfl ?_
                    refine aw_iload (aw_d q_Mo_valueBraces 97 rfl) rfl ?_
                    refine cVv (aw_d q_Mo_valueBraces 98 rfl) (sp_giveI (show u172 ≤ 3000 by have := hc.2.1; have := hp_147s; omega) (show b172 ≤ 3010 by have := hc.2.1; omega)) vL_Mo_430_Mo rfl rfl rfl rfl rfl rfl ⟨aw_le rfl, aw_le rfl⟩ ?_
                    exact aw_vret (aw_d q_Mo_valueBraces 99 rfl) rfl (⟨rfl, by rw [show vbV T n kd p = .error u172 from by rw [vbV, okT, hx7, bd_ok, if_pos hk21, bd_ok]; rw [jx_4 (by omega) ha45 hx57s (by omega), hx147s, bd_ok, hx172, bd_er]]; exact ⟨by have := hc.2.1; omega, D, _, _, _, _, hI.1, by have := hc.2.1; omega, rfl⟩⟩)
                  | ok y172 =>
                    rw [hx172] at hp172
                    obtain ⟨rfl, hy172, he172, rfl⟩ := hp172
                    refine aw_istore (aw_d q_Mo_valueBraces 86 rfl) (aw_le rfl) rfl ?_
                    refine aw_aload_n (aw_d q_Mo_valueBraces 87 rfl) rfl rfl rfl ?_
                    refine aw_ldc2 (aw_d q_Mo_valueBraces 88 rfl) lL_Mo_167 ?_
                    refine aw_iconst (v := nI 1) (aw_d q_Mo_valueBraces 89 rfl) (by decide) ?_
                    refine cV (aw_d q_Mo_valueBraces 90 rfl) (sp_Lmust (res := .ok (y172.1, ())) (A := []) (x := 34) (j := 1) (frM_TP hI.1 hc) (by decide) (by decide) (RR_st (T := T) hy172)) vL_Mo_340_Mo rfl rfl rfl rfl rfl rfl ⟨aw_le rfl, aw_le rfl⟩ (fun r182 h182 hp182 => ?_)
                    obtain ⟨rfl, b182, q182, hr182, rfl⟩ := hp182
                    refine aw_aload_n (aw_d q_Mo_valueBraces 91 rfl) rfl rfl rfl ?_
                    refine aw_bipush (v := nI 125) (aw_d q_Mo_valueBraces 92 rfl) (by decide) ?_
                    refine cV (aw_d q_Mo_valueBraces 93 rfl) (sp_Lsign (res := .ok (y172.1, ())) (A := ([] ++ eB 34 1)) (c := 125) (frM_TP hI.1 hc) (by decide) hr182) vL_Mo_343_Mo rfl rfl rfl rfl rfl rfl ⟨aw_le rfl, aw_le rfl⟩ (fun r188 h188 hp188 => ?_)
                    obtain ⟨rfl, b188, q188, hr188, rfl⟩ := hp188
                    rw [bp_ok, show ml T n (([] ++ eB 34 1) ++ [32, nI 125]) y172.1 = bd (ml T n (tx 62) y172.1) (mu T (tx 73)) from (cl2 (by decide))] at hr188
                    cases hx191s : bd (ml T n (tx 62) y172.1) (mu T (tx 73)) with
                    | error u191s =>
                      rw [hx191s] at hr188
                      obtain ⟨hu191s, rfl, hb191s⟩ := hr188
                      refine aw_aload_n (aw_d q_Mo_valueBraces 94 rfl) rfl rfl rfl ?_
                      refine aw_iload_n (aw_d q_Mo_valueBraces 95 rfl) rfl rfl ?_
                      refine aw_iload (aw_d q_Mo_valueBraces 96 rfl) rfl ?_
                      refine aw_iload (aw_d q_Mo_valueBraces 97 rfl) rfl ?_
                      refine cVv (aw_d q_Mo_valueBraces 98 rfl) (sp_giveI hu191s hb191s) vL_Mo_430_Mo rfl rfl rfl rfl rfl rfl ⟨aw_le rfl, aw_le rfl⟩ ?_
                      exact aw_vret (aw_d q_Mo_valueBraces 99 rfl) rfl (⟨rfl, by rw [show vbV T n kd p = .error u191s from by rw [vbV, okT, hx7, bd_ok, if_pos hk21, bd_ok]; rw [jx_4 (by omega) ha45 hx57s (by omega), hx147s, bd_ok, hx172, bd_ok, ← bd_bd, hx191s]; rfl]; exact ⟨hu191s, D, _, _, _, _, hI.1, hb191s, rfl⟩⟩)
                    | ok p191s =>
                      rw [hx191s] at hr188
                      obtain ⟨hbb191s, hp_191s, rfl⟩ := hr188
                      have hbb191s : b188 = p191s := hbb191s
                      subst hbb191s
                      refine aw_aload_n (aw_d q_Mo_valueBraces 94 rfl) rfl rfl rfl ?_
                      refine aw_iload_n (aw_d q_Mo_valueBraces 95 rfl) rfl rfl ?_
                      refine aw_iload (aw_d q_Mo_valueBraces 96 rfl) rfl ?_
                      refine aw_iload (aw_d q_Mo_valueBraces 97 rfl) rfl ?_
                      refine cV (aw_d q_Mo_valueBraces 98 rfl) (sp_giveA (kd := 4) (ex := y172.2) (L := y7.2) hI hs hv hy7.2.1) vL_Mo_430_Mo rfl rfl rfl rfl rfl rfl ⟨aw_le rfl, aw_le rfl⟩ (fun r197 h197 hp197 => ?_)
                      obtain ⟨rfl, F197, hI197, rfl⟩ := hp197
                      exact aw_vret (aw_d q_Mo_valueBraces 99 rfl) rfl (⟨rfl, by rw [show vbV T n kd p = .ok (b188, 4, y172.2, y7.2) from by rw [vbV, okT, hx7, bd_ok, if_pos hk21, bd_ok]; rw [jx_4 (by omega) ha45 hx57s (by omega), hx147s, bd_ok, hx172, bd_ok, ← bd_bd, hx191s]; rfl]; exact ⟨_, _, _, _, ⟨hI197, itW_i (kd := 4) (ex := y172.2) (by decide) hy7.2.1 (Nat.lt_trans he172 (by decide)) (fun _ => he172) (fun h => absurd h (by decide)) hy7.2.2 (okL_big (by decide))⟩, hp_191s, rfl⟩⟩)
            · refine aw_aload_n (aw_d q_Mo_valueBraces 38 rfl) rfl rfl rfl ?_
              refine aw_ldc2 (aw_d q_Mo_valueBraces 39 rfl) lL_Mo_420 ?_
              refine aw_bipush (v := nI 8) (aw_d q_Mo_valueBraces 40 rfl) (by decide) ?_
              refine cV (aw_d q_Mo_valueBraces 41 rfl) (sp_Lmust (res := .ok (b54, ())) (A := []) (x := 8677711055195041383) (j := 8) (frM_TP hI.1 hc) (by decide) (by decide) (RR_st (T := T) hp_57s)) vL_Mo_340_Mo rfl rfl rfl rfl rfl rfl ⟨aw_le rfl, aw_le rfl⟩ (fun r79 h79 hp79 => ?_)
              obtain ⟨rfl, b79, q79, hr79, rfl⟩ := hp79
              refine aw_iconst (v := nI 3) (aw_d q_Mo_valueBraces 42 rfl) (by decide) ?_
              refine aw_istore (aw_d q_Mo_valueBraces 43 rfl) (aw_le rfl) rfl ?_
              refine aw_goto (tgt := 127) (aw_d q_Mo_valueBraces 44 rfl) (by decide) ?_
              refine aw_aload_n (aw_d q_Mo_valueBraces 63 rfl) rfl rfl rfl ?_
              refine aw_ldc2 (aw_d q_Mo_valueBraces 64 rfl) lL_Mo_167 ?_
              refine aw_iconst (v := nI 1) (aw_d q_Mo_valueBraces 65 rfl) (by decide) ?_
              refine cV (aw_d q_Mo_valueBraces 66 rfl) (sp_Lmust (res := .ok (b54, ())) (A := ([] ++ eB 8677711055195041383 8)) (x := 34) (j := 1) (frM_TP hI.1 hc) (by decide) (by decide) hr79) vL_Mo_340_Mo rfl rfl rfl rfl rfl rfl ⟨aw_le rfl, aw_le rfl⟩ (fun r132 h132 hp132 => ?_)
              obtain ⟨rfl, b132, q132, hr132, rfl⟩ := hp132
              refine aw_aload_n (aw_d q_Mo_valueBraces 67 rfl) rfl rfl rfl ?_
              refine aw_bipush (v := nI 58) (aw_d q_Mo_valueBraces 68 rfl) (by decide) ?_
              refine cV (aw_d q_Mo_valueBraces 69 rfl) (sp_Lsign (res := .ok (b54, ())) (A := (([] ++ eB 8677711055195041383 8) ++ eB 34 1)) (c := 58) (frM_TP hI.1 hc) (by decide) hr132) vL_Mo_343_Mo rfl rfl rfl rfl rfl rfl ⟨aw_le rfl, aw_le rfl⟩ (fun r138 h138 hp138 => ?_)
              obtain ⟨rfl, b138, q138, hr138, rfl⟩ := hp138
              refine aw_aload_n (aw_d q_Mo_valueBraces 70 rfl) rfl rfl rfl ?_
              refine aw_bipush (v := nI 34) (aw_d q_Mo_valueBraces 71 rfl) (by decide) ?_
              refine cV (aw_d q_Mo_valueBraces 72 rfl) (sp_Lsign (res := .ok (b54, ())) (A := ((([] ++ eB 8677711055195041383 8) ++ eB 34 1) ++ [32, nI 58])) (c := 34) (frM_TP hI.1 hc) (by decide) hr138) vL_Mo_343_Mo rfl rfl rfl rfl rfl rfl ⟨aw_le rfl, aw_le rfl⟩ (fun r144 h144 hp144 => ?_)
              obtain ⟨rfl, b144, q144, hr144, rfl⟩ := hp144
              rw [bp_ok, show ml T n (((([] ++ eB 8677711055195041383 8) ++ eB 34 1) ++ [32, nI 58]) ++ [32, nI 34]) b54 = ml T n (tx 71) b54 from (congrArg (fun L => ml T n L _) (show _ = tx 71 by decide))] at hr144
              cases hx147s : ml T n (tx 71) b54 with
              | error u147s =>
                rw [hx147s] at hr144
                obtain ⟨hu147s, rfl, hb147s⟩ := hr144
                refine aw_aload_n (aw_d q_Mo_valueBraces 73 rfl) rfl rfl rfl ?_
                refine cVr (aw_d q_Mo_valueBraces 74 rfl) (sp_goesI hu147s) vL_Mo_327_Mo rfl rfl rfl rfl rfl rfl ⟨aw_le rfl, aw_le rfl⟩ ?_
                refine aw_ifN_ne (tgt := 158) (aw_d q_Mo_valueBraces 75 rfl) (by decide) (by (have hc2 := hc.2.1; omega)) (fun c151 => by exfalso; (have hc2 := hc.2.1; omega)) (fun c151 => ?_)
                refine aw_iconst (v := nI 0) (aw_d q_Mo_valueBraces 76 rfl) (by decide) ?_
                refine aw_goto (tgt := 175) (aw_d q_Mo_valueBraces 77 rfl) (by decide) ?_
                refine aw_istore (aw_d q_Mo_valueBraces 86 rfl) (aw_le rfl) rfl ?_
                refine aw_aload_n (aw_d q_Mo_valueBraces 87 rfl) rfl rfl rfl ?_
                refine aw_ldc2 (aw_d q_Mo_valueBraces 88 rfl) lL_Mo_167 ?_
                refine aw_iconst (v := nI 1) (aw_d q_Mo_valueBraces 89 rfl) (by decide) ?_
                refine cVv (aw_d q_Mo_valueBraces 90 rfl) (sp_mustI hu147s (by decide)) vL_Mo_340_Mo rfl rfl rfl rfl rfl rfl ⟨aw_le rfl, aw_le rfl⟩ ?_
                refine aw_aload_n (aw_d q_Mo_valueBraces 91 rfl) rfl rfl rfl ?_
                refine aw_bipush (v := nI 125) (aw_d q_Mo_valueBraces 92 rfl) (by decide) ?_
                refine cVv (aw_d q_Mo_valueBraces 93 rfl) (sp_signI hu147s) vL_Mo_343_Mo rfl rfl rfl rfl rfl rfl ⟨aw_le rfl, aw_le rfl⟩ ?_
                refine aw_aload_n (aw_d q_Mo_valueBraces 94 rfl) rfl rfl rfl ?_
                refine aw_iload_n (aw_d q_Mo_valueBraces 95 rfl) rfl rfl ?_
                refine aw_iload (aw_d q_Mo_valueBraces 96 rfl) rfl ?_
                refine aw_iload (aw_d q_Mo_valueBraces 97 rfl) rfl ?_
                refine cVv (aw_d q_Mo_valueBraces 98 rfl) (sp_giveI hu147s hb147s) vL_Mo_430_Mo rfl rfl rfl rfl rfl rfl ⟨aw_le rfl, aw_le rfl⟩ ?_
                exact aw_vret (aw_d q_Mo_valueBraces 99 rfl) rfl (⟨rfl, by rw [show vbV T n kd p = .error u147s from by rw [vbV, okT, hx7, bd_ok, if_pos hk21, bd_ok]; rw [jx_3 (by omega) ha45 hx57s (by omega), hx147s, bd_er]]; exact ⟨hu147s, D, _, _, _, _, hI.1, hb147s, rfl⟩⟩)
              | ok p147s =>
                rw [hx147s] at hr144
                obtain ⟨hbb147s, hp_147s, rfl⟩ := hr144
                have hbb147s : b144 = p147s := hbb147s
                subst hbb147s
                refine aw_aload_n (aw_d q_Mo_valueBraces 73 rfl) rfl rfl rfl ?_
                refine cVr (aw_d q_Mo_valueBraces 74 rfl) (sp_goesA) vL_Mo_327_Mo rfl rfl rfl rfl rfl rfl ⟨aw_le rfl, aw_le rfl⟩ ?_
                refine aw_ifN_ne (tgt := 158) (aw_d q_Mo_valueBraces 75 rfl) (by decide) (by (have hc2 := hc.2.1; omega)) (fun c151 => ?_) (fun c151 => by exfalso; (have hc2 := hc.2.1; omega))
                refine aw_iload (aw_d q_Mo_valueBraces 78 rfl) rfl ?_
                refine aw_iconst (v := nI 3) (aw_d q_Mo_valueBraces 79 rfl) (by decide) ?_
                refine aw_icmpN_ne (tgt := 171) (aw_d q_Mo_valueBraces 80 rfl) (by decide) (by (have hc2 := hc.2.1; omega)) (by (have hc2 := hc.2.1; omega)) (fun c161 => by exfalso; (have hc2 := hc.2.1; omega)) (fun c161 => ?_)
                refine aw_aload_n (aw_d q_Mo_valueBraces 81 rfl) rfl rfl rfl ?_
                refine cV (aw_d q_Mo_valueBraces 82 rfl) (sp_tagA (frM_TP hI.1 hc) hp_147s) vL_Mo_424_Mo rfl rfl rfl rfl rfl rfl ⟨aw_le rfl, aw_le rfl⟩ (fun r165 h165 hp165 => ?_)
                cases hx165 : ew T n 3 b144 with
                | error u165 =>
                  rw [hx165] at hp165
                  obtain ⟨hue165, rfl, b165, hb165, rfl⟩ := hp165
                  subst hue165
                  refine aw_goto (tgt := 175) (aw_d q_Mo_valueBraces 83 rfl) (by decide) ?_
                  refine aw_istore (aw_d q_Mo_valueBraces 86 rfl) (aw_le rfl) rfl ?_
                  refine aw_aload_n (aw_d q_Mo_valueBraces 87 rfl) rfl rfl rfl ?_
                  refine aw_ldc2 (aw_d q_Mo_valueBraces 88 rfl) lL_Mo_167 ?_
                  refine aw_iconst (v := nI 1) (aw_d q_Mo_valueBraces 89 rfl) (by decide) ?_
                  refine cVv (aw_d q_Mo_valueBraces 90 rfl) (sp_mustI (show u165 ≤ 3000 by have := hc.2.1; have := hp_147s; omega) (by decide)) vL_Mo_340_Mo rfl rfl rfl rfl rfl rfl ⟨aw_le rfl, aw_le rfl⟩ ?_
                  refine aw_aload_n (aw_d q_Mo_valueBraces 91 rfl) rfl rfl rfl ?_
                  refine aw_bipush (v := nI 125) (aw_d q_Mo_valueBraces 92 rfl) (by decide) ?_
                  refine cVv (aw_d q_Mo_valueBraces 93 rfl) (sp_signI (show u165 ≤ 3000 by have := hc.2.1; have := hp_147s; omega)) vL_Mo_343_Mo rfl rfl rfl rfl rfl rfl ⟨aw_le rfl, aw_le rfl⟩ ?_
                  refine aw_aload_n (aw_d q_Mo_valueBraces 94 rfl) rfl rfl rfl ?_
                  refine aw_iload_n (aw_d q_Mo_valueBraces 95 rfl) rfl rfl ?_
                  refine aw_iload (aw_d q_Mo_valueBraces 96 rfl) rfl ?_
                  refine aw_iload (aw_d q_Mo_valueBraces 97 rfl) rfl ?_
                  refine cVv (aw_d q_Mo_valueBraces 98 rfl) (sp_giveI (show u165 ≤ 3000 by have := hc.2.1; have := hp_147s; omega) (show b165 ≤ 3010 by have := hc.2.1; omega)) vL_Mo_430_Mo rfl rfl rfl rfl rfl rfl ⟨aw_le rfl, aw_le rfl⟩ ?_
                  exact aw_vret (aw_d q_Mo_valueBraces 99 rfl) rfl (⟨rfl, by rw [show vbV T n kd p = .error u165 from by rw [vbV, okT, hx7, bd_ok, if_pos hk21, bd_ok]; rw [jx_3 (by omega) ha45 hx57s (by omega), hx147s, bd_ok, hx165, bd_er]]; exact ⟨by have := hc.2.1; omega, D, _, _, _, _, hI.1, by have := hc.2.1; omega, rfl⟩⟩)
                | ok y165 =>
                  rw [hx165] at hp165
                  obtain ⟨rfl, hy165, he165, rfl⟩ := hp165
                  refine aw_goto (tgt := 175) (aw_d q_Mo_valueBraces 83 rfl) (by decide) ?_
                  refine aw_istore (aw_d q_Mo_valueBraces 86 rfl) (aw_le rfl) rfl ?_
                  refine aw_aload_n (aw_d q_Mo_valueBraces 87 rfl) rfl rfl rfl ?_
                  refine aw_ldc2 (aw_d q_Mo_valueBraces 88 rfl) lL_Mo_167 ?_
                  refine aw_iconst (v := nI 1) (aw_d q_Mo_valueBraces 89 rfl) (by decide) ?_
                  refine cV (aw_d q_Mo_valueBraces 90 rfl) (sp_Lmust (res := .ok (y165.1, ())) (A := []) (x := 34) (j := 1) (frM_TP hI.1 hc) (by decide) (by decide) (RR_st (T := T) hy165)) vL_Mo_340_Mo rfl rfl rfl rfl rfl rfl ⟨aw_le rfl, aw_le rfl⟩ (fun r182 h182 hp182 => ?_)
                  obtain ⟨rfl, b182, q182, hr182, rfl⟩ := hp182
                  refine aw_aload_n (aw_d q_Mo_valueBraces 91 rfl) rfl rfl rfl ?_
                  refine aw_bipush (v := nI 125) (aw_d q_Mo_valueBraces 92 rfl) (by decide) ?_
                  refine cV (aw_d q_Mo_valueBraces 93 rfl) (sp_Lsign (res := .ok (y165.1, ())) (A := ([] ++ eB 34 1)) (c := 125) (frM_TP hI.1 hc) (by decide) hr182) vL_Mo_343_Mo rfl rfl rfl rfl rfl rfl ⟨aw_le rfl, aw_le rfl⟩ (fun r188 h188 hp188 => ?_)
                  obtain ⟨rfl, b188, q188, hr188, rfl⟩ := hp188
                  rw [bp_ok, show ml T n (([] ++ eB 34 1) ++ [32, nI 125]) y165.1 = bd (ml T n (tx 62) y165.1) (mu T (tx 73)) from (cl2 (by decide))] at hr188
                  cases hx191s : bd (ml T n (tx 62) y165.1) (mu T (tx 73)) with
                  | error u191s =>
                    rw [hx191s] at hr188
                    obtain ⟨hu191s, rfl, hb191s⟩ := hr188
                    refine aw_aload_n (aw_d q_Mo_valueBraces 94 rfl) rfl rfl rfl ?_
                    refine aw_iload_n (aw_d q_Mo_valueBraces 95 rfl) rfl rfl ?_
                    refine aw_iload (aw_d q_Mo_valueBraces 96 rfl) rfl ?_
                    refine aw_iload (aw_d q_Mo_valueBraces 97 rfl) rfl ?_
                    refine cVv (aw_d q_Mo_valueBraces 98 rfl) (sp_giveI hu191s hb191s) vL_Mo_430_Mo rfl rfl rfl rfl rfl rfl ⟨aw_le rfl, aw_le rfl⟩ ?_
                    exact aw_vret (aw_d q_Mo_valueBraces 99 rfl) rfl (⟨rfl, by rw [show vbV T n kd p = .error u191s from by rw [vbV, okT, hx7, bd_ok, if_pos hk21, bd_ok]; rw [jx_3 (by omega) ha45 hx57s (by omega), hx147s, bd_ok, hx165, bd_ok, ← bd_bd, hx191s]; rfl]; exact ⟨hu191s, D, _, _, _, _, hI.1, hb191s, rfl⟩⟩)
                  | ok p191s =>
                    rw [hx191s] at hr188
                    obtain ⟨hbb191s, hp_191s, rfl⟩ := hr188
                    have hbb191s : b188 = p191s := hbb191s
                    subst hbb191s
                    refine aw_aload_n (aw_d q_Mo_valueBraces 94 rfl) rfl rfl rfl ?_
                    refine aw_iload_n (aw_d q_Mo_valueBraces 95 rfl) rfl rfl ?_
                    refine aw_iload (aw_d q_Mo_valueBraces 96 rfl) rfl ?_
                    refine aw_iload (aw_d q_Mo_valueBraces 97 rfl) rfl ?_
                    refine cV (aw_d q_Mo_valueBraces 98 rfl) (sp_giveA (kd := 3) (ex := y165.2) (L := y7.2) hI hs hv hy7.2.1) vL_Mo_430_Mo rfl rfl rfl rfl rfl rfl ⟨aw_le rfl, aw_le rfl⟩ (fun r197 h197 hp197 => ?_)
                    obtain ⟨rfl, F197, hI197, rfl⟩ := hp197
                    exact aw_vret (aw_d q_Mo_valueBraces 99 rfl) rfl (⟨rfl, by rw [show vbV T n kd p = .ok (b188, 3, y165.2, y7.2) from by rw [vbV, okT, hx7, bd_ok, if_pos hk21, bd_ok]; rw [jx_3 (by omega) ha45 hx57s (by omega), hx147s, bd_ok, hx165, bd_ok, ← bd_bd, hx191s]; rfl]; exact ⟨_, _, _, _, ⟨hI197, itW_i (kd := 3) (ex := y165.2) (by decide) hy7.2.1 (he165) (fun h => absurd h (by decide)) (fun h => absurd h (by decide)) hy7.2.2 (okL_big (by decide))⟩, hp_191s, rfl⟩⟩)
        · skip -- close
          have ha45 : (T (sk T n (y7.1))).toInt = 125 := ha45
          refine aw_ifN_eq (tgt := 185) (aw_d q_Mo_valueBraces 27 rfl) (by decide) (by (have hc2 := hc.2.1; omega)) (fun c48 => ?_) (fun c48 => by exfalso; (have hc2 := hc.2.1; omega))
          refine aw_aload_n (aw_d q_Mo_valueBraces 91 rfl) rfl rfl rfl ?_
          refine aw_bipush (v := nI 125) (aw_d q_Mo_valueBraces 92 rfl) (by decide) ?_
          refine cV (aw_d q_Mo_valueBraces 93 rfl) (sp_Lsign (res := .ok ((sk T n y7.1), ())) (A := []) (c := 125) (frM_TP hI.1 hc) (by decide) (RR_st (T := T) hsk45.2)) vL_Mo_343_Mo rfl rfl rfl rfl rfl rfl ⟨aw_le rfl, aw_le rfl⟩ (fun r188 h188 hp188 => ?_)
          obtain ⟨rfl, b188, q188, hr188, rfl⟩ := hp188
          rw [bp_ok, show ml T n ([] ++ [32, nI 125]) (sk T n y7.1) = mu T (tx 73) (sk T n (sk T n y7.1)) from (cl1 (by decide))] at hr188
          cases hx191s : mu T (tx 73) (sk T n (sk T n y7.1)) with
          | error u191s =>
            rw [hx191s] at hr188
            obtain ⟨hu191s, rfl, hb191s⟩ := hr188
            refine aw_aload_n (aw_d q_Mo_valueBraces 94 rfl) rfl rfl rfl ?_
            refine aw_iload_n (aw_d q_Mo_valueBraces 95 rfl) rfl rfl ?_
            refine aw_iload (aw_d q_Mo_valueBraces 96 rfl) rfl ?_
            refine aw_iload (aw_d q_Mo_valueBraces 97 rfl) rfl ?_
            refine cVv (aw_d q_Mo_valueBraces 98 rfl) (sp_giveI hu191s hb191s) vL_Mo_430_Mo rfl rfl rfl rfl rfl rfl ⟨aw_le rfl, aw_le rfl⟩ ?_
            exact aw_vret (aw_d q_Mo_valueBraces 99 rfl) rfl (⟨rfl, by rw [show vbV T n kd p = .error u191s from by rw [vbV, okT, hx7, bd_ok, if_pos hk21, bd_ok]; rw [sk_no (bl1_no (by omega))] at hx191s; rw [jx_no (fun q => by have q2 := q.2; omega), hx191s]; rfl]; exact ⟨hu191s, D, _, _, _, _, hI.1, hb191s, rfl⟩⟩)
          | ok p191s =>
            rw [hx191s] at hr188
            obtain ⟨hbb191s, hp_191s, rfl⟩ := hr188
            have hbb191s : b188 = p191s := hbb191s
            subst hbb191s
            refine aw_aload_n (aw_d q_Mo_valueBraces 94 rfl) rfl rfl rfl ?_
            refine aw_iload_n (aw_d q_Mo_valueBraces 95 rfl) rfl rfl ?_
            refine aw_iload (aw_d q_Mo_valueBraces 96 rfl) rfl ?_
            refine aw_iload (aw_d q_Mo_valueBraces 97 rfl) rfl ?_
            refine cV (aw_d q_Mo_valueBraces 98 rfl) (sp_giveA (kd := kd) (ex := 0) (L := y7.2) hI hs hv hy7.2.1) vL_Mo_430_Mo rfl rfl rfl rfl rfl rfl ⟨aw_le rfl, aw_le rfl⟩ (fun r197 h197 hp197 => ?_)
            obtain ⟨rfl, F197, hI197, rfl⟩ := hp197
            exact aw_vret (aw_d q_Mo_valueBraces 99 rfl) rfl (⟨rfl, by rw [show vbV T n kd p = .ok (b188, kd, 0, y7.2) from by rw [vbV, okT, hx7, bd_ok, if_pos hk21, bd_ok]; rw [sk_no (bl1_no (by omega))] at hx191s; rw [jx_no (fun q => by have q2 := q.2; omega), hx191s]; rfl]; exact ⟨_, _, _, _, ⟨hI197, itW_i (kd := kd) (ex := 0) (by have := hkd; omega) hy7.2.1 (by decide) (fun h => by have := hkd; omega) (fun _ => rfl) hy7.2.2 (hk21)⟩, hp_191s, rfl⟩⟩)
        · skip -- no
          have hd45 : ¬ (T (sk T n (y7.1))).toInt = 125 := hd45
          refine aw_ifN_eq (tgt := 185) (aw_d q_Mo_valueBraces 27 rfl) (by decide) (by (have hc2 := hc.2.1; omega)) (fun c48 => ?_) (fun c48 => by exfalso; (have hc2 := hc.2.1; omega))
          refine aw_aload_n (aw_d q_Mo_valueBraces 91 rfl) rfl rfl rfl ?_
          refine aw_bipush (v := nI 125) (aw_d q_Mo_valueBraces 92 rfl) (by decide) ?_
          refine cVv (aw_d q_Mo_valueBraces 93 rfl) (sp_signI (show sk T n y7.1 ≤ 3000 by have := hc.2.1; omega)) vL_Mo_343_Mo rfl rfl rfl rfl rfl rfl ⟨aw_le rfl, aw_le rfl⟩ ?_
          refine aw_aload_n (aw_d q_Mo_valueBraces 94 rfl) rfl rfl rfl ?_
          refine aw_iload_n (aw_d q_Mo_valueBraces 95 rfl) rfl rfl ?_
          refine aw_iload (aw_d q_Mo_valueBraces 96 rfl) rfl ?_
          refine aw_iload (aw_d q_Mo_valueBraces 97 rfl) rfl ?_
          refine cVv (aw_d q_Mo_valueBraces 98 rfl) (sp_giveI (show sk T n y7.1 ≤ 3000 by have := hc.2.1; omega) (show sk T n y7.1 ≤ 3010 by have := hc.2.1; omega)) vL_Mo_430_Mo rfl rfl rfl rfl rfl rfl ⟨aw_le rfl, aw_le rfl⟩ ?_
          exact aw_vret (aw_d q_Mo_valueBraces 99 rfl) rfl (⟨rfl, by rw [show vbV T n kd p = .error (sk T n y7.1) from by rw [vbV, okT, hx7, bd_ok, if_pos hk21, bd_ok]; rw [jx_no (fun q => ha45 q.2), mu73 hd45]; rfl]; exact ⟨by have := hc.2.1; omega, D, _, _, _, _, hI.1, by have := hc.2.1; omega, rfl⟩⟩)
    · skip -- no
      refine aw_iconst (v := nI 0) (aw_d q_Mo_valueBraces 14 rfl) (by decide) ?_
      refine aw_istore (aw_d q_Mo_valueBraces 15 rfl) (aw_le rfl) rfl ?_
      refine aw_iload_n (aw_d q_Mo_valueBraces 16 rfl) rfl rfl ?_
      refine aw_istore (aw_d q_Mo_valueBraces 17 rfl) (aw_le rfl) rfl ?_
      refine aw_iload_n (aw_d q_Mo_valueBraces 18 rfl) rfl rfl ?_
      refine aw_iconst (v := nI 2) (aw_d q_Mo_valueBraces 19 rfl) (by decide) ?_
      refine aw_icmpN_ne (tgt := 185) (aw_d q_Mo_valueBraces 20 rfl) (by decide) (by (have hc2 := hc.2.1; omega)) (by (have hc2 := hc.2.1; omega)) (fun c32 => ?_) (fun c32 => ?_)
      · refine aw_aload_n (aw_d q_Mo_valueBraces 91 rfl) rfl rfl rfl ?_
        refine aw_bipush (v := nI 125) (aw_d q_Mo_valueBraces 92 rfl) (by decide) ?_
        refine cVv (aw_d q_Mo_valueBraces 93 rfl) (sp_signI (show p ≤ 3000 by have := hc.2.1; omega)) vL_Mo_343_Mo rfl rfl rfl rfl rfl rfl ⟨aw_le rfl, aw_le rfl⟩ ?_
        refine aw_aload_n (aw_d q_Mo_valueBraces 94 rfl) rfl rfl rfl ?_
        refine aw_iload_n (aw_d q_Mo_valueBraces 95 rfl) rfl rfl ?_
        refine aw_iload (aw_d q_Mo_valueBraces 96 rfl) rfl ?_
        refine aw_iload (aw_d q_Mo_valueBraces 97 rfl) rfl ?_
        refine cVv (aw_d q_Mo_valueBraces 98 rfl) (sp_giveI (show p ≤ 3000 by have := hc.2.1; omega) (show y7.1 ≤ 3010 by have := hc.2.1; have := hy7.1; omega)) vL_Mo_430_Mo rfl rfl rfl rfl rfl rfl ⟨aw_le rfl, aw_le rfl⟩ ?_
        exact aw_vret (aw_d q_Mo_valueBraces 99 rfl) rfl (⟨rfl, by rw [show vbV T n kd p = .error p from by rw [vbV, okT, hx7, bd_ok, if_neg hk21, bd_er]]; exact ⟨by have := hc.2.1; omega, D, _, _, _, _, hI.1, by have := hc.2.1; have := hy7.1; omega, rfl⟩⟩)
      · refine aw_aload_n (aw_d q_Mo_valueBraces 21 rfl) rfl rfl rfl ?_
        refine cVr (aw_d q_Mo_valueBraces 22 rfl) (sp_goesI (show p ≤ 3000 by have := hc.2.1; omega)) vL_Mo_327_Mo rfl rfl rfl rfl rfl rfl ⟨aw_le rfl, aw_le rfl⟩ ?_
        refine aw_ifN_eq (tgt := 185) (aw_d q_Mo_valueBraces 23 rfl) (by decide) (by (have hc2 := hc.2.1; omega)) (fun c39 => ?_) (fun c39 => by exfalso; (have hc2 := hc.2.1; omega))
        refine aw_aload_n (aw_d q_Mo_valueBraces 91 rfl) rfl rfl rfl ?_
        refine aw_bipush (v := nI 125) (aw_d q_Mo_valueBraces 92 rfl) (by decide) ?_
        refine cVv (aw_d q_Mo_valueBraces 93 rfl) (sp_signI (show p ≤ 3000 by have := hc.2.1; omega)) vL_Mo_343_Mo rfl rfl rfl rfl rfl rfl ⟨aw_le rfl, aw_le rfl⟩ ?_
        refine aw_aload_n (aw_d q_Mo_valueBraces 94 rfl) rfl rfl rfl ?_
        refine aw_iload_n (aw_d q_Mo_valueBraces 95 rfl) rfl rfl ?_
        refine aw_iload (aw_d q_Mo_valueBraces 96 rfl) rfl ?_
        refine aw_iload (aw_d q_Mo_valueBraces 97 rfl) rfl ?_
        refine cVv (aw_d q_Mo_valueBraces 98 rfl) (sp_giveI (show p ≤ 3000 by have := hc.2.1; omega) (show y7.1 ≤ 3010 by have := hc.2.1; have := hy7.1; omega)) vL_Mo_430_Mo rfl rfl rfl rfl rfl rfl ⟨aw_le rfl, aw_le rfl⟩ ?_
        exact aw_vret (aw_d q_Mo_valueBraces 99 rfl) rfl (⟨rfl, by rw [show vbV T n kd p = .error p from by rw [vbV, okT, hx7, bd_ok, if_neg hk21, bd_er]]; exact ⟨by have := hc.2.1; omega, D, _, _, _, _, hI.1, by have := hc.2.1; have := hy7.1; omega, rfl⟩⟩)
set_option maxRecDepth 20000 in
theorem sp_valBI {g : aw_G} {S : aw_S} {u b : Nat} {f z : Int32} {X : Nat → Int32} (hu : u ≤ 3000) (hb : b ≤ 3010) {x y : Int32} : Sp g M_Mo_valueBraces 4 88 0 0 [.ref 33, .int x, .int y] (HP (QM S (nI b) (nI u) f z X)) (fun r h => r = none ∧ ∃ (f z : Int32) (X : Nat → Int32), h = HP (QM S (nI b) (nI u) f z X)) := by
  refine Sp.of rfl (aw_le rfl) ?_
  refine aw_aload_n (aw_d q_Mo_valueBraces 0 rfl) rfl rfl rfl ?_
  refine aw_getf (v := .int (nI (b))) (aw_d q_Mo_valueBraces 1 rfl) fL_Mo_324_Mo rfl (gk rfl) ?_
  refine aw_istore_n (aw_d q_Mo_valueBraces 2 rfl) rfl (aw_le rfl) rfl ?_
  refine aw_aload_n (aw_d q_Mo_valueBraces 3 rfl) rfl rfl rfl ?_
  refine aw_iconst (v := nI 1) (aw_d q_Mo_valueBraces 4 rfl) (by decide) ?_
  refine cVv (aw_d q_Mo_valueBraces 5 rfl) (sp_escI hu hb) vL_Mo_414_Mo rfl rfl rfl rfl rfl rfl ⟨aw_le rfl, aw_le rfl⟩ ?_
  refine aw_aload_n (aw_d q_Mo_valueBraces 6 rfl) rfl rfl rfl ?_
  refine aw_ldc2 (aw_d q_Mo_valueBraces 7 rfl) lL_Mo_167 ?_
  refine aw_iconst (v := nI 1) (aw_d q_Mo_valueBraces 8 rfl) (by decide) ?_
  refine cVv (aw_d q_Mo_valueBraces 9 rfl) (sp_mustI hu (by decide)) vL_Mo_340_Mo rfl rfl rfl rfl rfl rfl ⟨aw_le rfl, aw_le rfl⟩ ?_
  refine aw_aload_n (aw_d q_Mo_valueBraces 10 rfl) rfl rfl rfl ?_
  refine aw_iload_n (aw_d q_Mo_valueBraces 11 rfl) rfl rfl ?_
  refine aw_iload_n (aw_d q_Mo_valueBraces 12 rfl) rfl rfl ?_
  refine cVv (aw_d q_Mo_valueBraces 13 rfl) (sp_checkI hu hb) vL_Mo_417_Mo rfl rfl rfl rfl rfl rfl ⟨aw_le rfl, aw_le rfl⟩ ?_
  refine aw_iconst (v := nI 0) (aw_d q_Mo_valueBraces 14 rfl) (by decide) ?_
  refine aw_istore (aw_d q_Mo_valueBraces 15 rfl) (aw_le rfl) rfl ?_
  refine aw_iload_n (aw_d q_Mo_valueBraces 16 rfl) rfl rfl ?_
  refine aw_istore (aw_d q_Mo_valueBraces 17 rfl) (aw_le rfl) rfl ?_
  refine aw_iload_n (aw_d q_Mo_valueBraces 18 rfl) rfl rfl ?_
  refine aw_iconst (v := nI 2) (aw_d q_Mo_valueBraces 19 rfl) (by decide) ?_
  refine aw_icmpI_ne (tgt := 185) (aw_d q_Mo_valueBraces 20 rfl) (by decide) (by omega) (fun c32 => ?_) (fun c32 => ?_)
  · refine aw_aload_n (aw_d q_Mo_valueBraces 91 rfl) rfl rfl rfl ?_
    refine aw_bipush (v := nI 125) (aw_d q_Mo_valueBraces 92 rfl) (by decide) ?_
    refine cVv (aw_d q_Mo_valueBraces 93 rfl) (sp_signI hu) vL_Mo_343_Mo rfl rfl rfl rfl rfl rfl ⟨aw_le rfl, aw_le rfl⟩ ?_
    refine aw_aload_n (aw_d q_Mo_valueBraces 94 rfl) rfl rfl rfl ?_
    refine aw_iload_n (aw_d q_Mo_valueBraces 95 rfl) rfl rfl ?_
    refine aw_iload (aw_d q_Mo_valueBraces 96 rfl) rfl ?_
    refine aw_iload (aw_d q_Mo_valueBraces 97 rfl) rfl ?_
    refine cVv (aw_d q_Mo_valueBraces 98 rfl) (sp_giveI hu hb) vL_Mo_430_Mo rfl rfl rfl rfl rfl rfl ⟨aw_le rfl, aw_le rfl⟩ ?_
    exact aw_vret (aw_d q_Mo_valueBraces 99 rfl) rfl (⟨rfl, _, _, _, rfl⟩)
  · refine aw_aload_n (aw_d q_Mo_valueBraces 21 rfl) rfl rfl rfl ?_
    refine cVr (aw_d q_Mo_valueBraces 22 rfl) (sp_goesI hu) vL_Mo_327_Mo rfl rfl rfl rfl rfl rfl ⟨aw_le rfl, aw_le rfl⟩ ?_
    refine aw_ifN_eq (tgt := 185) (aw_d q_Mo_valueBraces 23 rfl) (by decide) (by omega) (fun c39 => ?_) (fun c39 => by exfalso; omega)
    refine aw_aload_n (aw_d q_Mo_valueBraces 91 rfl) rfl rfl rfl ?_
    refine aw_bipush (v := nI 125) (aw_d q_Mo_valueBraces 92 rfl) (by decide) ?_
    refine cVv (aw_d q_Mo_valueBraces 93 rfl) (sp_signI hu) vL_Mo_343_Mo rfl rfl rfl rfl rfl rfl ⟨aw_le rfl, aw_le rfl⟩ ?_
    refine aw_aload_n (aw_d q_Mo_valueBraces 94 rfl) rfl rfl rfl ?_
    refine aw_iload_n (aw_d q_Mo_valueBraces 95 rfl) rfl rfl ?_
    refine aw_iload (aw_d q_Mo_valueBraces 96 rfl) rfl ?_
    refine aw_iload (aw_d q_Mo_valueBraces 97 rfl) rfl ?_
    refine cVv (aw_d q_Mo_valueBraces 98 rfl) (sp_giveI hu hb) vL_Mo_430_Mo rfl rfl rfl rfl rfl rfl ⟨aw_le rfl, aw_le rfl⟩ ?_
    exact aw_vret (aw_d q_Mo_valueBraces 99 rfl) rfl (⟨rfl, _, _, _, rfl⟩)
