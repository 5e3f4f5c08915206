set_option maxRecDepth 20000 in
theorem sp_next {g : aw_G} {S : aw_S} {n : Nat} {T : Nat → Int32} {p : Nat} {q w l k e z : Int32} {X : Nat → Int32} (hc : TPc S n T) (hp : p ≤ n) : Sp g M_Sc_next 0 0 0 0 [.ref 26] (HP (QC S (nI p) q w l k e z X)) (fun r h => r = some (.int (T p)) ∧ h = HP (QC S (nI p) q w l k e z X)) := by
  refine Sp.of rfl (aw_le rfl) ?_
  refine aw_aload_n (aw_d q_Sc_next 0 rfl) rfl rfl rfl ?_
  refine aw_getf (v := .int (nI (p))) (aw_d q_Sc_next 1 rfl) fL_Sc_25_Sc rfl (gk rfl) ?_
  refine aw_ifN_lt (tgt := 46) (aw_d q_Sc_next 2 rfl) (by decide) (by (have hc2 := hc.2.1; omega)) (fun c4 => by exfalso; (have hc2 := hc.2.1; omega)) (fun c4 => ?_)
  refine aw_aload_n (aw_d q_Sc_next 3 rfl) rfl rfl rfl ?_
  refine aw_getf (v := .int (nI (p))) (aw_d q_Sc_next 4 rfl) fL_Sc_25_Sc rfl (gk rfl) ?_
  refine aw_aload_n (aw_d q_Sc_next 5 rfl) rfl rfl rfl ?_
  refine aw_getf (aw_d q_Sc_next 6 rfl) fL_Sc_9_Sc rfl rfl ?_
  refine aw_getf (v := .int (nI (n))) (aw_d q_Sc_next 7 rfl) fL_Sc_51_By rfl (gk hc.1) ?_
  refine aw_icmpN_ge (tgt := 46) (aw_d q_Sc_next 8 rfl) (by decide) (by (have hc2 := hc.2.1; omega)) (by (have hc2 := hc.2.1; omega)) (fun c18 => ?_) (fun c18 => ?_)
  · refine aw_iconst (v := (-1)) (aw_d q_Sc_next 20 rfl) (by decide) ?_
    exact aw_iret (aw_d q_Sc_next 21 rfl) rfl (⟨by rw [hc.2.2.2.1 _ (by omega)], rfl⟩)
  · refine aw_aload_n (aw_d q_Sc_next 9 rfl) rfl rfl rfl ?_
    refine aw_getf (v := .int (nI (p))) (aw_d q_Sc_next 10 rfl) fL_Sc_25_Sc rfl (gk rfl) ?_
    refine aw_sipush (v := nI 3000) (aw_d q_Sc_next 11 rfl) (by decide) ?_
    refine aw_icmpN_ge (tgt := 46) (aw_d q_Sc_next 12 rfl) (by decide) (by (have hc2 := hc.2.1; omega)) (by (have hc2 := hc.2.1; omega)) (fun c28 => by exfalso; (have hc2 := hc.2.1; omega)) (fun c28 => ?_)
    refine aw_aload_n (aw_d q_Sc_next 13 rfl) rfl rfl rfl ?_
    refine aw_getf (aw_d q_Sc_next 14 rfl) fL_Sc_9_Sc rfl rfl ?_
    refine aw_getf (aw_d q_Sc_next 15 rfl) fL_Sc_63_By rfl rfl ?_
    refine aw_aload_n (aw_d q_Sc_next 16 rfl) rfl rfl rfl ?_
    refine aw_getf (v := .int (nI (p))) (aw_d q_Sc_next 17 rfl) fL_Sc_25_Sc rfl (gk rfl) ?_
    refine aw_ialdK (w := (T p)) (aw_d q_Sc_next 18 rfl) rfl (by (have hc2 := hc.2.1; omega)) rfl (hc.2.2.1 p (by omega)) ?_
    refine aw_goto (tgt := 47) (aw_d q_Sc_next 19 rfl) (by decide) ?_
    exact aw_iret (aw_d q_Sc_next 21 rfl) rfl (⟨rfl, rfl⟩)
set_option maxRecDepth 20000 in
theorem sp_ahead {g : aw_G} {S : aw_S} {n : Nat} {T : Nat → Int32} {p : Nat} {q w l k e z : Int32} {X : Nat → Int32} (hc : TPc S n T) (hp : p ≤ n) {d : Nat} (hd : d ≤ 100) : Sp g M_Sc_ahead 0 0 0 0 [.ref 26, .int (nI d)] (HP (QC S (nI p) q w l k e z X)) (fun r h => r = some (.int (T (p + d))) ∧ h = HP (QC S (nI p) q w l k e z X)) := by
  refine Sp.of rfl (aw_le rfl) ?_
  refine aw_aload_n (aw_d q_Sc_ahead 0 rfl) rfl rfl rfl ?_
  refine aw_getf (v := .int (nI (p))) (aw_d q_Sc_ahead 1 rfl) fL_Sc_25_Sc rfl (gk rfl) ?_
  refine aw_iload_n (aw_d q_Sc_ahead 2 rfl) rfl rfl ?_
  refine aw_iaddN (aw_d q_Sc_ahead 3 rfl) ?_
  refine aw_istore_n (aw_d q_Sc_ahead 4 rfl) rfl (aw_le rfl) rfl ?_
  refine aw_iload_n (aw_d q_Sc_ahead 5 rfl) rfl rfl ?_
  refine aw_ifN_lt (tgt := 41) (aw_d q_Sc_ahead 6 rfl) (by decide) (by (have hc2 := hc.2.1; omega)) (fun c8 => by exfalso; (have hc2 := hc.2.1; omega)) (fun c8 => ?_)
  refine aw_iload_n (aw_d q_Sc_ahead 7 rfl) rfl rfl ?_
  refine aw_aload_n (aw_d q_Sc_ahead 8 rfl) rfl rfl rfl ?_
  refine aw_getf (aw_d q_Sc_ahead 9 rfl) fL_Sc_9_Sc rfl rfl ?_
  refine aw_getf (v := .int (nI (n))) (aw_d q_Sc_ahead 10 rfl) fL_Sc_51_By rfl (gk hc.1) ?_
  refine aw_icmpN_ge (tgt := 41) (aw_d q_Sc_ahead 11 rfl) (by decide) (by (have hc2 := hc.2.1; omega)) (by (have hc2 := hc.2.1; omega)) (fun c19 => ?_) (fun c19 => ?_)
  · refine aw_iconst (v := (-1)) (aw_d q_Sc_ahead 21 rfl) (by decide) ?_
    exact aw_iret (aw_d q_Sc_ahead 22 rfl) rfl (⟨by rw [hc.2.2.2.1 _ (by omega)], rfl⟩)
  · refine aw_iload_n (aw_d q_Sc_ahead 12 rfl) rfl rfl ?_
    refine aw_sipush (v := nI 3000) (aw_d q_Sc_ahead 13 rfl) (by decide) ?_
    refine aw_icmpN_ge (tgt := 41) (aw_d q_Sc_ahead 14 rfl) (by decide) (by (have hc2 := hc.2.1; omega)) (by (have hc2 := hc.2.1; omega)) (fun c26 => by exfalso; (have hc2 := hc.2.1; omega)) (fun c26 => ?_)
    refine aw_aload_n (aw_d q_Sc_ahead 15 rfl) rfl rfl rfl ?_
    refine aw_getf (aw_d q_Sc_ahead 16 rfl) fL_Sc_9_Sc rfl rfl ?_
    refine aw_getf (aw_d q_Sc_ahead 17 rfl) fL_Sc_63_By rfl rfl ?_
    refine aw_iload_n (aw_d q_Sc_ahead 18 rfl) rfl rfl ?_
    refine aw_ialdK (w := (T (p + d))) (aw_d q_Sc_ahead 19 rfl) rfl (by (have hc2 := hc.2.1; omega)) rfl (hc.2.2.1 (p + d) (by omega)) ?_
    refine aw_goto (tgt := 42) (aw_d q_Sc_ahead 20 rfl) (by decide) ?_
    exact aw_iret (aw_d q_Sc_ahead 22 rfl) rfl (⟨rfl, rfl⟩)
set_option maxRecDepth 20000 in
theorem sp_took {g : aw_G} {S : aw_S} {n : Nat} {T : Nat → Int32} {p : Nat} {q w l k e z : Int32} {X : Nat → Int32} (hc : TPc S n T) (hp : p ≤ n) {b : Int32} {B : Int} (hb : b.toInt = B) : Sp g M_Sc_took 1 20 0 0 [.ref 26, .int b] (HP (QC S (nI p) q w l k e z X)) (fun r h => r = some (.int (if (T p).toInt = B then nI 1 else nI 0)) ∧ h = HP (QC S (nI (if (T p).toInt = B then p + 1 else p)) q w l k e z X)) := by
  refine Sp.of rfl (aw_le rfl) ?_
  refine aw_aload_n (aw_d q_Sc_took 0 rfl) rfl rfl rfl ?_
  refine cVr (aw_d q_Sc_took 1 rfl) (sp_next hc hp) vL_Sc_67_Sc rfl rfl rfl rfl rfl rfl ⟨aw_le rfl, aw_le rfl⟩ ?_
  refine aw_iload_n (aw_d q_Sc_took 2 rfl) rfl rfl ?_
  refine aw_icmpZ_eq (tgt := 10) (aw_d q_Sc_took 3 rfl) (by decide) (fun c5 => ?_) (fun c5 => ?_)
  · refine aw_aload_n (aw_d q_Sc_took 6 rfl) rfl rfl rfl ?_
    refine aw_dup (aw_d q_Sc_took 7 rfl) rfl ?_
    refine aw_getf (v := .int (nI (p))) (aw_d q_Sc_took 8 rfl) fL_Sc_25_Sc rfl (gk rfl) ?_
    refine aw_iconst (v := nI 1) (aw_d q_Sc_took 9 rfl) (by decide) ?_
    refine aw_iaddN (aw_d q_Sc_took 10 rfl) ?_
    refine wi_26_1 (aw_d q_Sc_took 11 rfl) pL_Sc_25_Sc ?_
    refine aw_iconst (v := nI 1) (aw_d q_Sc_took 12 rfl) (by decide) ?_
    exact aw_zret (aw_d q_Sc_took 13 rfl) rfl (rfl) (⟨by rw [if_pos (by rw [← hb]; exact c5)], by rw [if_pos (by rw [← hb]; exact c5)]; rfl⟩)
  · refine aw_iconst (v := nI 0) (aw_d q_Sc_took 4 rfl) (by decide) ?_
    exact aw_zret (aw_d q_Sc_took 5 rfl) rfl (rfl) (⟨by rw [if_neg (by rw [← hb]; exact c5)], by rw [if_neg (by rw [← hb]; exact c5)]⟩)
set_option maxRecDepth 20000 in
theorem sp_fail {g : aw_G} {S : aw_S} {p q w l k e z : Int32} {X : Nat → Int32}  : Sp g M_Sc_fail 0 0 0 0 [.ref 26] (HP (QC S p q w l k e z X)) (fun r h => r = some (.int (nI 0)) ∧ h = HP (QC S p p w l k e z X)) := by
  refine Sp.of rfl (aw_le rfl) ?_
  refine aw_aload_n (aw_d q_Sc_fail 0 rfl) rfl rfl rfl ?_
  refine aw_aload_n (aw_d q_Sc_fail 1 rfl) rfl rfl rfl ?_
  refine aw_getf (v := .int (p)) (aw_d q_Sc_fail 2 rfl) fL_Sc_25_Sc rfl (gk rfl) ?_
  refine wi_26_2 (aw_d q_Sc_fail 3 rfl) pL_Sc_29_Sc ?_
  refine aw_iconst (v := nI 0) (aw_d q_Sc_fail 4 rfl) (by decide) ?_
  exact aw_zret (aw_d q_Sc_fail 5 rfl) rfl (rfl) (⟨rfl, rfl⟩)
set_option maxRecDepth 20000 in
theorem sp_failAt {g : aw_G} {S : aw_S} {p q w l k e z : Int32} {X : Nat → Int32} {x : Int32} : Sp g M_Sc_failAt 0 0 0 0 [.ref 26, .int x] (HP (QC S p q w l k e z X)) (fun r h => r = some (.int (nI 0)) ∧ h = HP (QC S p x w l k e z X)) := by
  refine Sp.of rfl (aw_le rfl) ?_
  refine aw_aload_n (aw_d q_Sc_failAt 0 rfl) rfl rfl rfl ?_
  refine aw_iload_n (aw_d q_Sc_failAt 1 rfl) rfl rfl ?_
  refine wi_26_2 (aw_d q_Sc_failAt 2 rfl) pL_Sc_29_Sc ?_
  refine aw_iconst (v := nI 0) (aw_d q_Sc_failAt 3 rfl) (by decide) ?_
  exact aw_zret (aw_d q_Sc_failAt 4 rfl) rfl (rfl) (⟨rfl, rfl⟩)
set_option maxRecDepth 20000 in
theorem sp_isEnded {g : aw_G} {S : aw_S} {n : Nat} {T : Nat → Int32} {p : Nat} {q w l k e z : Int32} {X : Nat → Int32} (hc : TPc S n T) (hp : p ≤ n) : Sp g M_Sc_isEnded 0 0 0 0 [.ref 26] (HP (QC S (nI p) q w l k e z X)) (fun r h => r = some (.int (if n ≤ p then nI 1 else nI 0)) ∧ h = HP (QC S (nI p) q w l k e z X)) := by
  refine Sp.of rfl (aw_le rfl) ?_
  refine aw_aload_n (aw_d q_Sc_isEnded 0 rfl) rfl rfl rfl ?_
  refine aw_getf (v := .int (nI (p))) (aw_d q_Sc_isEnded 1 rfl) fL_Sc_25_Sc rfl (gk rfl) ?_
  refine aw_aload_n (aw_d q_Sc_isEnded 2 rfl) rfl rfl rfl ?_
  refine aw_getf (aw_d q_Sc_isEnded 3 rfl) fL_Sc_9_Sc rfl rfl ?_
  refine aw_getf (v := .int (nI (n))) (aw_d q_Sc_isEnded 4 rfl) fL_Sc_51_By rfl (gk hc.1) ?_
  refine aw_icmpN_lt (tgt := 18) (aw_d q_Sc_isEnded 5 rfl) (by decide) (by (have hc2 := hc.2.1; omega)) (by (have hc2 := hc.2.1; omega)) (fun c11 => ?_) (fun c11 => ?_)
  · refine aw_iconst (v := nI 0) (aw_d q_Sc_isEnded 8 rfl) (by decide) ?_
    exact aw_zret (aw_d q_Sc_isEnded 9 rfl) rfl (rfl) (⟨by first | rfl | (rw [if_pos (by omega)]) | (rw [if_neg (by omega)]), rfl⟩)
  · refine aw_iconst (v := nI 1) (aw_d q_Sc_isEnded 6 rfl) (by decide) ?_
    refine aw_goto (tgt := 19) (aw_d q_Sc_isEnded 7 rfl) (by decide) ?_
    exact aw_zret (aw_d q_Sc_isEnded 9 rfl) rfl (rfl) (⟨by first | rfl | (rw [if_pos (by omega)]) | (rw [if_neg (by omega)]), rfl⟩)
set_option maxRecDepth 20000 in
theorem sp_mustEnd {g : aw_G} {S : aw_S} {n : Nat} {T : Nat → Int32} {p : Nat} {q w l k e z : Int32} {X : Nat → Int32} (hc : TPc S n T) (hp : p ≤ n) : Sp g M_Sc_mustEnd 1 20 0 0 [.ref 26] (HP (QC S (nI p) q w l k e z X)) (CE S (me n p) (fun p h => h = HP (QC S (nI p) q w l k e z X) ∧ p ≤ n)) := by
  refine Sp.of rfl (aw_le rfl) ?_
  refine aw_aload_n (aw_d q_Sc_mustEnd 0 rfl) rfl rfl rfl ?_
  refine cVr (aw_d q_Sc_mustEnd 1 rfl) (sp_isEnded hc hp) vL_Sc_56_Sc rfl rfl rfl rfl rfl rfl ⟨aw_le rfl, aw_le rfl⟩ ?_
  refine aw_ifB_ne (tgt := 14) (aw_d q_Sc_mustEnd 2 rfl) (by decide) (fun c4 => ?_) (fun c4 => ?_)
  · refine aw_iconst (v := nI 1) (aw_d q_Sc_mustEnd 6 rfl) (by decide) ?_
    refine aw_goto (tgt := 19) (aw_d q_Sc_mustEnd 7 rfl) (by decide) ?_
    exact aw_zret (aw_d q_Sc_mustEnd 9 rfl) rfl (rfl) (by first | (rw [me, if_pos c4]; exact CE_ok ⟨rfl, hp⟩) | (rw [me, if_neg c4]; exact CE_er CF_i))
  · refine aw_aload_n (aw_d q_Sc_mustEnd 3 rfl) rfl rfl rfl ?_
    refine cVr (aw_d q_Sc_mustEnd 4 rfl) (sp_fail) vL_Sc_60_Sc rfl rfl rfl rfl rfl rfl ⟨aw_le rfl, aw_le rfl⟩ ?_
    refine aw_ifN_eq (tgt := 18) (aw_d q_Sc_mustEnd 5 rfl) (by decide) (by (have hc2 := hc.2.1; omega)) (fun c11 => ?_) (fun c11 => by exfalso; (have hc2 := hc.2.1; omega))
    refine aw_iconst (v := nI 0) (aw_d q_Sc_mustEnd 8 rfl) (by decide) ?_
    exact aw_zret (aw_d q_Sc_mustEnd 9 rfl) rfl (rfl) (by first | (rw [me, if_pos c4]; exact CE_ok ⟨rfl, hp⟩) | (rw [me, if_neg c4]; exact CE_er CF_i))
set_option maxRecDepth 20000 in
theorem sp_beginTerm {g : aw_G} {S : aw_S} {p q w l k e z : Int32} {X : Nat → Int32} {x : Int32} : Sp g M_Sc_beginTerm 1 20 0 0 [.ref 26, .int x] (HP (QC S p q w l k e z X)) (fun r h => r = none ∧ h = HP (QC S p q w l x (nI 0) (nI 0) X)) := by
  refine Sp.of rfl (aw_le rfl) ?_
  refine aw_aload_n (aw_d q_Sc_beginTerm 0 rfl) rfl rfl rfl ?_
  refine aw_iload_n (aw_d q_Sc_beginTerm 1 rfl) rfl rfl ?_
  refine wi_26_5 (aw_d q_Sc_beginTerm 2 rfl) pL_Sc_42_Sc ?_
  refine aw_aload_n (aw_d q_Sc_beginTerm 3 rfl) rfl rfl rfl ?_
  refine aw_iconst (v := nI 0) (aw_d q_Sc_beginTerm 4 rfl) (by decide) ?_
  refine wi_26_6 (aw_d q_Sc_beginTerm 5 rfl) pL_Sc_45_Sc ?_
  refine aw_aload_n (aw_d q_Sc_beginTerm 6 rfl) rfl rfl rfl ?_
  refine aw_getf (aw_d q_Sc_beginTerm 7 rfl) fL_Sc_18_Sc rfl rfl ?_
  refine cVv (aw_d q_Sc_beginTerm 8 rfl) (sp_Tx_empty_27) vL_Sc_48_Tx rfl rfl rfl rfl rfl rfl ⟨aw_le rfl, aw_le rfl⟩ ?_
  exact aw_vret (aw_d q_Sc_beginTerm 9 rfl) rfl (⟨rfl, rfl⟩)
set_option maxRecDepth 20000 in
theorem lp_skip {g : aw_G} {S : aw_S} {n : Nat} {T : Nat → Int32} {q w l k e z : Int32} {X : Nat → Int32} (hc : TPc S n T) {a : Nat} : ∀ (m p : Nat) (x1 : Option Value), m + p = n → runB bl1 T (n - a) a = runB bl1 T m p → AW g M_Sc_skipBlanks (aw_rm 1 20 0 0) (aw_F g 0 0 (fun r h => r = none ∧ h = HP (QC S (nI (sk T n a)) q w l k e z X))) 0 [some (.ref 26), x1] [] (HP (QC S (nI p) q w l k e z X)) 0 0 := by
  intro m
  induction m with
  | zero =>
    intro p x1 hk he
    refine aw_aload_n (aw_d q_Sc_skipBlanks 0 rfl) rfl rfl rfl ?_
    refine aw_getf (v := .int (nI (p))) (aw_d q_Sc_skipBlanks 1 rfl) fL_Sc_25_Sc rfl (gk rfl) ?_
    refine aw_aload_n (aw_d q_Sc_skipBlanks 2 rfl) rfl rfl rfl ?_
    refine aw_getf (aw_d q_Sc_skipBlanks 3 rfl) fL_Sc_9_Sc rfl rfl ?_
    refine aw_getf (v := .int (nI (n))) (aw_d q_Sc_skipBlanks 4 rfl) fL_Sc_51_By rfl (gk hc.1) ?_
    refine aw_icmpN_ge (tgt := 57) (aw_d q_Sc_skipBlanks 5 rfl) (by decide) (by (have hc2 := hc.2.1; omega)) (by (have hc2 := hc.2.1; omega)) (fun c11 => ?_) (fun c11 => by exfalso; (have hc2 := hc.2.1; omega))
    exact aw_vret (aw_d q_Sc_skipBlanks 29 rfl) rfl (⟨rfl, by rw [sk, he]; rfl⟩)
  | succ m ih =>
    intro p x1 hk he
    refine aw_aload_n (aw_d q_Sc_skipBlanks 0 rfl) rfl rfl rfl ?_
    refine aw_getf (v := .int (nI (p))) (aw_d q_Sc_skipBlanks 1 rfl) fL_Sc_25_Sc rfl (gk rfl) ?_
    refine aw_aload_n (aw_d q_Sc_skipBlanks 2 rfl) rfl rfl rfl ?_
    refine aw_getf (aw_d q_Sc_skipBlanks 3 rfl) fL_Sc_9_Sc rfl rfl ?_
    refine aw_getf (v := .int (nI (n))) (aw_d q_Sc_skipBlanks 4 rfl) fL_Sc_51_By rfl (gk hc.1) ?_
    refine aw_icmpN_ge (tgt := 57) (aw_d q_Sc_skipBlanks 5 rfl) (by decide) (by (have hc2 := hc.2.1; omega)) (by (have hc2 := hc.2.1; omega)) (fun c11 => by exfalso; (have hc2 := hc.2.1; omega)) (fun c11 => ?_)
    refine aw_aload_n (aw_d q_Sc_skipBlanks 6 rfl) rfl rfl rfl ?_
    refine cVr (aw_d q_Sc_skipBlanks 7 rfl) (sp_next hc (by omega)) vL_Sc_67_Sc rfl rfl rfl rfl rfl rfl ⟨aw_le rfl, aw_le rfl⟩ ?_
    refine aw_istore_n (aw_d q_Sc_skipBlanks 8 rfl) rfl (aw_le rfl) rfl ?_
    refine aw_iload_n (aw_d q_Sc_skipBlanks 9 rfl) rfl rfl ?_
    refine aw_bipush (v := nI 9) (aw_d q_Sc_skipBlanks 10 rfl) (by decide) ?_
    refine aw_icmpI_eq (tgt := 44) (aw_d q_Sc_skipBlanks 11 rfl) (by decide) (by (have hc2 := hc.2.1; omega)) (fun c22 => ?_) (fun c22 => ?_)
    · refine aw_aload_n (aw_d q_Sc_skipBlanks 22 rfl) rfl rfl rfl ?_
      refine aw_dup (aw_d q_Sc_skipBlanks 23 rfl) rfl ?_
      refine aw_getf (v := .int (nI (p))) (aw_d q_Sc_skipBlanks 24 rfl) fL_Sc_25_Sc rfl (gk rfl) ?_
      refine aw_iconst (v := nI 1) (aw_d q_Sc_skipBlanks 25 rfl) (by decide) ?_
      refine aw_iaddN (aw_d q_Sc_skipBlanks 26 rfl) ?_
      refine wi_26_1 (aw_d q_Sc_skipBlanks 27 rfl) pL_Sc_25_Sc ?_
      refine aw_goto (tgt := 0) (aw_d q_Sc_skipBlanks 28 rfl) (by decide) ?_
      exact AW.to (ih (p + 1) _ (by omega) (he.trans (by rw [runB, if_pos (show bl1 (T p) = true from decide_eq_true (by omega))]))) rfl rfl rfl rfl
    · refine aw_iload_n (aw_d q_Sc_skipBlanks 12 rfl) rfl rfl ?_
      refine aw_bipush (v := nI 10) (aw_d q_Sc_skipBlanks 13 rfl) (by decide) ?_
      refine aw_icmpI_eq (tgt := 44) (aw_d q_Sc_skipBlanks 14 rfl) (by decide) (by (have hc2 := hc.2.1; omega)) (fun c28 => ?_) (fun c28 => ?_)
      · refine aw_aload_n (aw_d q_Sc_skipBlanks 22 rfl) rfl rfl rfl ?_
        refine aw_dup (aw_d q_Sc_skipBlanks 23 rfl) rfl ?_
        refine aw_getf (v := .int (nI (p))) (aw_d q_Sc_skipBlanks 24 rfl) fL_Sc_25_Sc rfl (gk rfl) ?_
        refine aw_iconst (v := nI 1) (aw_d q_Sc_skipBlanks 25 rfl) (by decide) ?_
        refine aw_iaddN (aw_d q_Sc_skipBlanks 26 rfl) ?_
        refine wi_26_1 (aw_d q_Sc_skipBlanks 27 rfl) pL_Sc_25_Sc ?_
        refine aw_goto (tgt := 0) (aw_d q_Sc_skipBlanks 28 rfl) (by decide) ?_
        exact AW.to (ih (p + 1) _ (by omega) (he.trans (by rw [runB, if_pos (show bl1 (T p) = true from decide_eq_true (by omega))]))) rfl rfl rfl rfl
      · refine aw_iload_n (aw_d q_Sc_skipBlanks 15 rfl) rfl rfl ?_
        refine aw_bipush (v := nI 13) (aw_d q_Sc_skipBlanks 16 rfl) (by decide) ?_
        refine aw_icmpI_eq (tgt := 44) (aw_d q_Sc_skipBlanks 17 rfl) (by decide) (by (have hc2 := hc.2.1; omega)) (fun c34 => ?_) (fun c34 => ?_)
        · refine aw_aload_n (aw_d q_Sc_skipBlanks 22 rfl) rfl rfl rfl ?_
          refine aw_dup (aw_d q_Sc_skipBlanks 23 rfl) rfl ?_
          refine aw_getf (v := .int (nI (p))) (aw_d q_Sc_skipBlanks 24 rfl) fL_Sc_25_Sc rfl (gk rfl) ?_
          refine aw_iconst (v := nI 1) (aw_d q_Sc_skipBlanks 25 rfl) (by decide) ?_
          refine aw_iaddN (aw_d q_Sc_skipBlanks 26 rfl) ?_
          refine wi_26_1 (aw_d q_Sc_skipBlanks 27 rfl) pL_Sc_25_Sc ?_
          refine aw_goto (tgt := 0) (aw_d q_Sc_skipBlanks 28 rfl) (by decide) ?_
          exact AW.to (ih (p + 1) _ (by omega) (he.trans (by rw [runB, if_pos (show bl1 (T p) = true from decide_eq_true (by omega))]))) rfl rfl rfl rfl
        · refine aw_iload_n (aw_d q_Sc_skipBlanks 18 rfl) rfl rfl ?_
          refine aw_bipush (v := nI 32) (aw_d q_Sc_skipBlanks 19 rfl) (by decide) ?_
          refine aw_icmpI_eq (tgt := 44) (aw_d q_Sc_skipBlanks 20 rfl) (by decide) (by (have hc2 := hc.2.1; omega)) (fun c40 => ?_) (fun c40 => ?_)
          · refine aw_aload_n (aw_d q_Sc_skipBlanks 22 rfl) rfl rfl rfl ?_
            refine aw_dup (aw_d q_Sc_skipBlanks 23 rfl) rfl ?_
            refine aw_getf (v := .int (nI (p))) (aw_d q_Sc_skipBlanks 24 rfl) fL_Sc_25_Sc rfl (gk rfl) ?_
            refine aw_iconst (v := nI 1) (aw_d q_Sc_skipBlanks 25 rfl) (by decide) ?_
            refine aw_iaddN (aw_d q_Sc_skipBlanks 26 rfl) ?_
            refine wi_26_1 (aw_d q_Sc_skipBlanks 27 rfl) pL_Sc_25_Sc ?_
            refine aw_goto (tgt := 0) (aw_d q_Sc_skipBlanks 28 rfl) (by decide) ?_
            exact AW.to (ih (p + 1) _ (by omega) (he.trans (by rw [runB, if_pos (show bl1 (T p) = true from decide_eq_true (by omega))]))) rfl rfl rfl rfl
          · exact aw_vret (aw_d q_Sc_skipBlanks 21 rfl) rfl (⟨rfl, by rw [sk, he, runB, if_neg (by simp only [bl1, decide_eq_true_eq]; omega)]⟩)
set_option maxRecDepth 20000 in
theorem sp_skip {g : aw_G} {S : aw_S} {n : Nat} {T : Nat → Int32} {p : Nat} {q w l k e z : Int32} {X : Nat → Int32} (hc : TPc S n T) (hp : p ≤ n) : Sp g M_Sc_skipBlanks 1 20 0 0 [.ref 26] (HP (QC S (nI p) q w l k e z X)) (fun r h => r = none ∧ h = HP (QC S (nI (sk T n p)) q w l k e z X)) := by
  refine Sp.of rfl (aw_le rfl) ?_
  exact lp_skip hc (a := p) (n - p) p _ (by omega) rfl
set_option maxRecDepth 20000 in
theorem lp_must {g : aw_G} {S : aw_S} {n : Nat} {T : Nat → Int32} {q w l k e z : Int32} {X : Nat → Int32} (hc : TPc S n T) {a j : Nat} (hi : j < aw_nS) : ∀ (m i p : Nat), m + i = aw_len.getD j 0 → p ≤ n → mu T (tx j) a = mu T ((tx j).drop i) p → AW g M_Sc_must (aw_rm 4 85 0 0) (aw_F g 0 0 (CE S (mu T (tx j) a) (fun p h => h = HP (QC S (nI p) q w l k e z X) ∧ p ≤ n))) 2 [some (.ref 26), some (.retAddr j), some (.int (nI i))] [] (HP (QC S (nI p) q w l k e z X)) 0 0 := by
  intro m
  induction m with
  | zero =>
    intro i p hk hp he
    refine aw_iload_n (aw_d q_Sc_must 2 rfl) rfl rfl ?_
    refine aw_aload_n (aw_d q_Sc_must 3 rfl) rfl rfl rfl ?_
    refine cT (aw_d q_Sc_must 4 rfl) hi (sp_JS_length hi) vL_Sc_71_JS rfl rfl rfl rfl ⟨aw_le rfl, aw_le rfl⟩ ?_
    refine aw_icmpN_ge (tgt := 33) (aw_d q_Sc_must 5 rfl) (by decide) (by (have hc2 := hc.2.1; have hz := aw_len_lt hi; omega)) (by (have hc2 := hc.2.1; have hz := aw_len_lt hi; omega)) (fun c7 => ?_) (fun c7 => by exfalso; (have hc2 := hc.2.1; have hz := aw_len_lt hi; omega))
    refine aw_iconst (v := nI 1) (aw_d q_Sc_must 17 rfl) (by decide) ?_
    exact aw_zret (aw_d q_Sc_must 18 rfl) rfl (rfl) (by rw [he, tx_dropZ hi (by omega)]; exact CE_ok ⟨rfl, hp⟩)
  | succ m ih =>
    intro i p hk hp he
    refine aw_iload_n (aw_d q_Sc_must 2 rfl) rfl rfl ?_
    refine aw_aload_n (aw_d q_Sc_must 3 rfl) rfl rfl rfl ?_
    refine cT (aw_d q_Sc_must 4 rfl) hi (sp_JS_length hi) vL_Sc_71_JS rfl rfl rfl rfl ⟨aw_le rfl, aw_le rfl⟩ ?_
    refine aw_icmpN_ge (tgt := 33) (aw_d q_Sc_must 5 rfl) (by decide) (by (have hc2 := hc.2.1; have hz := aw_len_lt hi; omega)) (by (have hc2 := hc.2.1; have hz := aw_len_lt hi; omega)) (fun c7 => by exfalso; (have hc2 := hc.2.1; have hz := aw_len_lt hi; omega)) (fun c7 => ?_)
    refine aw_aload_n (aw_d q_Sc_must 6 rfl) rfl rfl rfl ?_
    refine aw_aload_n (aw_d q_Sc_must 7 rfl) rfl rfl rfl ?_
    refine aw_iload_n (aw_d q_Sc_must 8 rfl) rfl rfl ?_
    refine cT (aw_d q_Sc_must 9 rfl) hi (sp_JS_charAt hi (by omega)) vL_Sc_79_JS rfl rfl rfl rfl ⟨aw_le rfl, aw_le rfl⟩ ?_
    refine cVr (aw_d q_Sc_must 10 rfl) (sp_took hc hp (b := aw_ch j i) rfl) vL_Sc_83_Sc rfl rfl rfl rfl rfl rfl ⟨aw_le rfl, aw_le rfl⟩ ?_
    refine aw_ifB_ne (tgt := 27) (aw_d q_Sc_must 11 rfl) (by decide) (fun c19 => ?_) (fun c19 => ?_)
    · have hpn : p < n := T_lt hc.2.2.2.1 (by rw [c19]; exact (aw_ch_is hi (by omega)).1)
      rw [if_pos c19]
      refine aw_iinc (aw_d q_Sc_must 15 rfl) rfl (ii1 _) (aw_le rfl) rfl ?_
      refine aw_goto (tgt := 2) (aw_d q_Sc_must 16 rfl) (by decide) ?_
      exact ih (i + 1) (p + 1) (by omega) (by omega) (he.trans (by rw [tx_dropS hi (by omega), mu, if_pos c19]))
    · rw [if_neg c19]
      refine aw_aload_n (aw_d q_Sc_must 12 rfl) rfl rfl rfl ?_
      refine cVr (aw_d q_Sc_must 13 rfl) (sp_fail) vL_Sc_60_Sc rfl rfl rfl rfl rfl rfl ⟨aw_le rfl, aw_le rfl⟩ ?_
      exact aw_zret (aw_d q_Sc_must 14 rfl) rfl (rfl) (by rw [he, tx_dropS hi (by omega), mu, if_neg c19]; exact CE_er CF_i)
set_option maxRecDepth 20000 in
theorem sp_must {g : aw_G} {S : aw_S} {n : Nat} {T : Nat → Int32} {p : Nat} {q w l k e z : Int32} {X : Nat → Int32} (hc : TPc S n T) (hp : p ≤ n) {j : Nat} (hi : j < aw_nS) : Sp g M_Sc_must 4 85 0 0 [.ref 26, .retAddr j] (HP (QC S (nI p) q w l k e z X)) (CE S (mu T (tx j) p) (fun p h => h = HP (QC S (nI p) q w l k e z X) ∧ p ≤ n)) := by
  refine Sp.of rfl (aw_le rfl) ?_
  refine aw_iconst (v := nI 0) (aw_d q_Sc_must 0 rfl) (by decide) ?_
  refine aw_istore_n (aw_d q_Sc_must 1 rfl) rfl (aw_le rfl) rfl ?_
  exact lp_must hc hi (aw_len.getD j 0) 0 p (by omega) hp rfl
set_option maxRecDepth 20000 in
theorem lp_ml {g : aw_G} {S : aw_S} {n : Nat} {T : Nat → Int32} {q w l k e z : Int32} {X : Nat → Int32} (hc : TPc S n T) {a j : Nat} (hi : j < aw_nS) : ∀ (m i p : Nat), m + i = aw_len.getD j 0 → p ≤ n → ml T n (tx j) a = ml T n ((tx j).drop i) p → AW g M_Sc_mustLoosely (aw_rm 4 85 0 0) (aw_F g 0 0 (CE S (ml T n (tx j) a) (fun p h => h = HP (QC S (nI p) q w l k e z X) ∧ p ≤ n))) 2 [some (.ref 26), some (.retAddr j), some (.int (nI i))] [] (HP (QC S (nI p) q w l k e z X)) 0 0 := by
  intro m
  induction m with
  | zero =>
    intro i p hk hp he
    refine aw_iload_n (aw_d q_Sc_mustLoosely 2 rfl) rfl rfl ?_
    refine aw_aload_n (aw_d q_Sc_mustLoosely 3 rfl) rfl rfl rfl ?_
    refine cT (aw_d q_Sc_mustLoosely 4 rfl) hi (sp_JS_length hi) vL_Sc_71_JS rfl rfl rfl rfl ⟨aw_le rfl, aw_le rfl⟩ ?_
    refine aw_icmpN_ge (tgt := 50) (aw_d q_Sc_mustLoosely 5 rfl) (by decide) (by (have hc2 := hc.2.1; have hz := aw_len_lt hi; omega)) (by (have hc2 := hc.2.1; have hz := aw_len_lt hi; omega)) (fun c7 => ?_) (fun c7 => by exfalso; (have hc2 := hc.2.1; have hz := aw_len_lt hi; omega))
    refine aw_iconst (v := nI 1) (aw_d q_Sc_mustLoosely 25 rfl) (by decide) ?_
    exact aw_zret (aw_d q_Sc_mustLoosely 26 rfl) rfl (rfl) (by rw [he, tx_dropZ hi (by omega)]; exact CE_ok ⟨rfl, hp⟩)
  | succ m ih =>
    intro i p hk hp he
    refine aw_iload_n (aw_d q_Sc_mustLoosely 2 rfl) rfl rfl ?_
    refine aw_aload_n (aw_d q_Sc_mustLoosely 3 rfl) rfl rfl rfl ?_
    refine cT (aw_d q_Sc_mustLoosely 4 rfl) hi (sp_JS_length hi) vL_Sc_71_JS rfl rfl rfl rfl ⟨aw_le rfl, aw_le rfl⟩ ?_
    refine aw_icmpN_ge (tgt := 50) (aw_d q_Sc_mustLoosely 5 rfl) (by decide) (by (have hc2 := hc.2.1; have hz := aw_len_lt hi; omega)) (by (have hc2 := hc.2.1; have hz := aw_len_lt hi; omega)) (fun c7 => by exfalso; (have hc2 := hc.2.1; have hz := aw_len_lt hi; omega)) (fun c7 => ?_)
    refine aw_aload_n (aw_d q_Sc_mustLoosely 6 rfl) rfl rfl rfl ?_
    refine aw_iload_n (aw_d q_Sc_mustLoosely 7 rfl) rfl rfl ?_
    refine cT (aw_d q_Sc_mustLoosely 8 rfl) hi (sp_JS_charAt hi (by omega)) vL_Sc_79_JS rfl rfl rfl rfl ⟨aw_le rfl, aw_le rfl⟩ ?_
    refine aw_bipush (v := nI 32) (aw_d q_Sc_mustLoosely 9 rfl) (by decide) ?_
    refine aw_icmpI_ne (tgt := 27) (aw_d q_Sc_mustLoosely 10 rfl) (by decide) (by (have hc2 := hc.2.1; have hz := aw_len_lt hi; omega)) (fun c17 => ?_) (fun c17 => ?_)
    · refine aw_aload_n (aw_d q_Sc_mustLoosely 14 rfl) rfl rfl rfl ?_
      refine aw_aload_n (aw_d q_Sc_mustLoosely 15 rfl) rfl rfl rfl ?_
      refine aw_iload_n (aw_d q_Sc_mustLoosely 16 rfl) rfl rfl ?_
      refine cT (aw_d q_Sc_mustLoosely 17 rfl) hi (sp_JS_charAt hi (by omega)) vL_Sc_79_JS rfl rfl rfl rfl ⟨aw_le rfl, aw_le rfl⟩ ?_
      refine cVr (aw_d q_Sc_mustLoosely 18 rfl) (sp_took hc hp (b := aw_ch j i) rfl) vL_Sc_83_Sc rfl rfl rfl rfl rfl rfl ⟨aw_le rfl, aw_le rfl⟩ ?_
      refine aw_ifB_ne (tgt := 44) (aw_d q_Sc_mustLoosely 19 rfl) (by decide) (fun c36 => ?_) (fun c36 => ?_)
      · have hpn : p < n := T_lt hc.2.2.2.1 (by rw [c36]; exact (aw_ch_is hi (by omega)).1)
        rw [if_pos c36]
        refine aw_iinc (aw_d q_Sc_mustLoosely 23 rfl) rfl (ii1 _) (aw_le rfl) rfl ?_
        refine aw_goto (tgt := 2) (aw_d q_Sc_mustLoosely 24 rfl) (by decide) ?_
        exact ih (i + 1) (p + 1) (by omega) (by omega) (he.trans (by rw [tx_dropS hi (by omega), ml, if_neg (by omega), if_pos c36]))
      · rw [if_neg c36]
        refine aw_aload_n (aw_d q_Sc_mustLoosely 20 rfl) rfl rfl rfl ?_
        refine cVr (aw_d q_Sc_mustLoosely 21 rfl) (sp_fail) vL_Sc_60_Sc rfl rfl rfl rfl rfl rfl ⟨aw_le rfl, aw_le rfl⟩ ?_
        exact aw_zret (aw_d q_Sc_mustLoosely 22 rfl) rfl (rfl) (by rw [he, tx_dropS hi (by omega), ml, if_neg (by omega), if_neg c36]; exact CE_er CF_i)
    · refine aw_aload_n (aw_d q_Sc_mustLoosely 11 rfl) rfl rfl rfl ?_
      refine cVv (aw_d q_Sc_mustLoosely 12 rfl) (sp_skip hc hp) vL_Sc_87_Sc rfl rfl rfl rfl rfl rfl ⟨aw_le rfl, aw_le rfl⟩ ?_
      refine aw_goto (tgt := 44) (aw_d q_Sc_mustLoosely 13 rfl) (by decide) ?_
      refine aw_iinc (aw_d q_Sc_mustLoosely 23 rfl) rfl (ii1 _) (aw_le rfl) rfl ?_
      refine aw_goto (tgt := 2) (aw_d q_Sc_mustLoosely 24 rfl) (by decide) ?_
      have hsk := sk_le (T := T) hp
      exact ih (i + 1) (sk T n p) (by omega) (by omega) (he.trans (by rw [tx_dropS hi (by omega), ml, if_pos (by omega)]))
set_option maxRecDepth 20000 in
theorem sp_ml {g : aw_G} {S : aw_S} {n : Nat} {T : Nat → Int32} {p : Nat} {q w l k e z : Int32} {X : Nat → Int32} (hc : TPc S n T) (hp : p ≤ n) {j : Nat} (hi : j < aw_nS) : Sp g M_Sc_mustLoosely 4 85 0 0 [.ref 26, .retAddr j] (HP (QC S (nI p) q w l k e z X)) (CE S (ml T n (tx j) p) (fun p h => h = HP (QC S (nI p) q w l k e z X) ∧ p ≤ n)) := by
  refine Sp.of rfl (aw_le rfl) ?_
  refine aw_iconst (v := nI 0) (aw_d q_Sc_mustLoosely 0 rfl) (by decide) ?_
  refine aw_istore_n (aw_d q_Sc_mustLoosely 1 rfl) rfl (aw_le rfl) rfl ?_
  exact lp_ml hc hi (aw_len.getD j 0) 0 p (by omega) hp rfl
set_option maxRecDepth 20000 in
theorem lp_tookAll {g : aw_G} {S : aw_S} {n : Nat} {T : Nat → Int32} {q w l k e z : Int32} {X : Nat → Int32} (hc : TPc S n T) {p j : Nat} (hp : p ≤ n) (hi : j < aw_nS) : ∀ (m i : Nat), m + i = aw_len.getD j 0 → mt T (tx j) p = mt T ((tx j).drop i) (p + i) → AW g M_Sc_tookAll (aw_rm 4 85 0 0) (aw_F g 0 0 (fun r h => r = some (.int (if mt T (tx j) p = true then nI 1 else nI 0)) ∧ h = HP (QC S (nI (if mt T (tx j) p = true then p + aw_len.getD j 0 else p)) q w l k e z X))) 2 [some (.ref 26), some (.retAddr j), some (.int (nI i))] [] (HP (QC S (nI p) q w l k e z X)) 0 0 := by
  intro m
  induction m with
  | zero =>
    intro i hk he
    refine aw_iload_n (aw_d q_Sc_tookAll 2 rfl) rfl rfl ?_
    refine aw_aload_n (aw_d q_Sc_tookAll 3 rfl) rfl rfl rfl ?_
    refine cT (aw_d q_Sc_tookAll 4 rfl) hi (sp_JS_length hi) vL_Sc_71_JS rfl rfl rfl rfl ⟨aw_le rfl, aw_le rfl⟩ ?_
    refine aw_icmpN_ge (tgt := 31) (aw_d q_Sc_tookAll 5 rfl) (by decide) (by (have hc2 := hc.2.1; have hz := aw_len_lt hi; omega)) (by (have hc2 := hc.2.1; have hz := aw_len_lt hi; omega)) (fun c7 => ?_) (fun c7 => by exfalso; (have hc2 := hc.2.1; have hz := aw_len_lt hi; omega))
    refine aw_aload_n (aw_d q_Sc_tookAll 17 rfl) rfl rfl rfl ?_
    refine aw_dup (aw_d q_Sc_tookAll 18 rfl) rfl ?_
    refine aw_getf (v := .int (nI (p))) (aw_d q_Sc_tookAll 19 rfl) fL_Sc_25_Sc rfl (gk rfl) ?_
    refine aw_aload_n (aw_d q_Sc_tookAll 20 rfl) rfl rfl rfl ?_
    refine cT (aw_d q_Sc_tookAll 21 rfl) hi (sp_JS_length hi) vL_Sc_71_JS rfl rfl rfl rfl ⟨aw_le rfl, aw_le rfl⟩ ?_
    refine aw_iaddN (aw_d q_Sc_tookAll 22 rfl) ?_
    refine wi_26_1 (aw_d q_Sc_tookAll 23 rfl) pL_Sc_25_Sc ?_
    refine aw_iconst (v := nI 1) (aw_d q_Sc_tookAll 24 rfl) (by decide) ?_
    exact aw_zret (aw_d q_Sc_tookAll 25 rfl) rfl (rfl) (by rw [he, tx_dropZ hi (by omega)]; exact ⟨rfl, rfl⟩)
  | succ m ih =>
    intro i hk he
    refine aw_iload_n (aw_d q_Sc_tookAll 2 rfl) rfl rfl ?_
    refine aw_aload_n (aw_d q_Sc_tookAll 3 rfl) rfl rfl rfl ?_
    refine cT (aw_d q_Sc_tookAll 4 rfl) hi (sp_JS_length hi) vL_Sc_71_JS rfl rfl rfl rfl ⟨aw_le rfl, aw_le rfl⟩ ?_
    refine aw_icmpN_ge (tgt := 31) (aw_d q_Sc_tookAll 5 rfl) (by decide) (by (have hc2 := hc.2.1; have hz := aw_len_lt hi; omega)) (by (have hc2 := hc.2.1; have hz := aw_len_lt hi; omega)) (fun c7 => by exfalso; (have hc2 := hc.2.1; have hz := aw_len_lt hi; omega)) (fun c7 => ?_)
    refine aw_aload_n (aw_d q_Sc_tookAll 6 rfl) rfl rfl rfl ?_
    refine aw_iload_n (aw_d q_Sc_tookAll 7 rfl) rfl rfl ?_
    refine cVr (aw_d q_Sc_tookAll 8 rfl) (sp_ahead hc hp (by have hz := aw_len_lt hi; omega)) vL_Sc_75_Sc rfl rfl rfl rfl rfl rfl ⟨aw_le rfl, aw_le rfl⟩ ?_
    refine aw_aload_n (aw_d q_Sc_tookAll 9 rfl) rfl rfl rfl ?_
    refine aw_iload_n (aw_d q_Sc_tookAll 10 rfl) rfl rfl ?_
    refine cT (aw_d q_Sc_tookAll 11 rfl) hi (sp_JS_charAt hi (by omega)) vL_Sc_79_JS rfl rfl rfl rfl ⟨aw_le rfl, aw_le rfl⟩ ?_
    refine aw_icmpZ_eq (tgt := 25) (aw_d q_Sc_tookAll 12 rfl) (by decide) (fun c20 => ?_) (fun c20 => ?_)
    · refine aw_iinc (aw_d q_Sc_tookAll 15 rfl) rfl (ii1 _) (aw_le rfl) rfl ?_
      refine aw_goto (tgt := 2) (aw_d q_Sc_tookAll 16 rfl) (by decide) ?_
      exact ih (i + 1) (by omega) (he.trans (by rw [tx_dropS hi (by omega), mt, decide_eq_true c20]; rfl))
    · refine aw_iconst (v := nI 0) (aw_d q_Sc_tookAll 13 rfl) (by decide) ?_
      exact aw_zret (aw_d q_Sc_tookAll 14 rfl) rfl (rfl) (by rw [show mt T (tx j) p = false from he.trans (by rw [tx_dropS hi (by omega), mt, decide_eq_false c20]; rfl)]; exact ⟨rfl, rfl⟩)
set_option maxRecDepth 20000 in
theorem sp_tookAll {g : aw_G} {S : aw_S} {n : Nat} {T : Nat → Int32} {p : Nat} {q w l k e z : Int32} {X : Nat → Int32} (hc : TPc S n T) (hp : p ≤ n) {j : Nat} (hi : j < aw_nS) : Sp g M_Sc_tookAll 4 85 0 0 [.ref 26, .retAddr j] (HP (QC S (nI p) q w l k e z X)) (fun r h => r = some (.int (if mt T (tx j) p = true then nI 1 else nI 0)) ∧ h = HP (QC S (nI (if mt T (tx j) p = true then p + aw_len.getD j 0 else p)) q w l k e z X)) := by
  refine Sp.of rfl (aw_le rfl) ?_
  refine aw_iconst (v := nI 0) (aw_d q_Sc_tookAll 0 rfl) (by decide) ?_
  refine aw_istore_n (aw_d q_Sc_tookAll 1 rfl) rfl (aw_le rfl) rfl ?_
  exact lp_tookAll hc hp hi (aw_len.getD j 0) 0 (by omega) rfl
set_option maxRecDepth 20000 in
theorem lp_word {g : aw_G} {S : aw_S} {n : Nat} {T : Nat → Int32} {q w l k e z : Int32} {X : Nat → Int32} (hc : TPc S n T) {a : Nat} : ∀ (m p : Nat), m + p = n → a ≤ p → runB pLet T (n - a) a = runB pLet T m p → AW g M_Sc_takeWord (aw_rm 1 20 0 0) (aw_F g 0 0 (fun r h => r = none ∧ h = HP (QC S (nI (we T n a)) q (nI a) (nI (we T n a - a)) k e z X))) 8 [some (.ref 26)] [] (HP (QC S (nI p) q (nI a) l k e z X)) 0 0 := by
  intro m
  induction m with
  | zero =>
    intro p hk hap he
    refine aw_aload_n (aw_d q_Sc_takeWord 4 rfl) rfl rfl rfl ?_
    refine aw_getf (v := .int (nI (p))) (aw_d q_Sc_takeWord 5 rfl) fL_Sc_25_Sc rfl (gk rfl) ?_
    refine aw_aload_n (aw_d q_Sc_takeWord 6 rfl) rfl rfl rfl ?_
    refine aw_getf (aw_d q_Sc_takeWord 7 rfl) fL_Sc_9_Sc rfl rfl ?_
    refine aw_getf (v := .int (nI (n))) (aw_d q_Sc_takeWord 8 rfl) fL_Sc_51_By rfl (gk hc.1) ?_
    refine aw_icmpN_ge (tgt := 45) (aw_d q_Sc_takeWord 9 rfl) (by decide) (by (have hc2 := hc.2.1; omega)) (by (have hc2 := hc.2.1; omega)) (fun c19 => ?_) (fun c19 => by exfalso; (have hc2 := hc.2.1; omega))
    refine aw_aload_n (aw_d q_Sc_takeWord 21 rfl) rfl rfl rfl ?_
    refine aw_aload_n (aw_d q_Sc_takeWord 22 rfl) rfl rfl rfl ?_
    refine aw_getf (v := .int (nI (p))) (aw_d q_Sc_takeWord 23 rfl) fL_Sc_25_Sc rfl (gk rfl) ?_
    refine aw_aload_n (aw_d q_Sc_takeWord 24 rfl) rfl rfl rfl ?_
    refine aw_getf (v := .int (nI (a))) (aw_d q_Sc_takeWord 25 rfl) fL_Sc_32_Sc rfl (gk rfl) ?_
    refine aw_isubN (aw_d q_Sc_takeWord 26 rfl) (by (have hc2 := hc.2.1; omega)) ?_
    refine wi_26_4 (aw_d q_Sc_takeWord 27 rfl) pL_Sc_35_Sc ?_
    exact aw_vret (aw_d q_Sc_takeWord 28 rfl) rfl (⟨rfl, by rw [we, he]; rfl⟩)
  | succ m ih =>
    intro p hk hap he
    refine aw_aload_n (aw_d q_Sc_takeWord 4 rfl) rfl rfl rfl ?_
    refine aw_getf (v := .int (nI (p))) (aw_d q_Sc_takeWord 5 rfl) fL_Sc_25_Sc rfl (gk rfl) ?_
    refine aw_aload_n (aw_d q_Sc_takeWord 6 rfl) rfl rfl rfl ?_
    refine aw_getf (aw_d q_Sc_takeWord 7 rfl) fL_Sc_9_Sc rfl rfl ?_
    refine aw_getf (v := .int (nI (n))) (aw_d q_Sc_takeWord 8 rfl) fL_Sc_51_By rfl (gk hc.1) ?_
    refine aw_icmpN_ge (tgt := 45) (aw_d q_Sc_takeWord 9 rfl) (by decide) (by (have hc2 := hc.2.1; omega)) (by (have hc2 := hc.2.1; omega)) (fun c19 => by exfalso; (have hc2 := hc.2.1; omega)) (fun c19 => ?_)
    refine aw_aload_n (aw_d q_Sc_takeWord 10 rfl) rfl rfl rfl ?_
    refine cVr (aw_d q_Sc_takeWord 11 rfl) (sp_next hc (by omega)) vL_Sc_67_Sc rfl rfl rfl rfl rfl rfl ⟨aw_le rfl, aw_le rfl⟩ ?_
    refine cSr (aw_d q_Sc_takeWord 12 rfl) (sp_RF_isLetter) sL_Sc_90 rfl rfl rfl rfl ⟨aw_le rfl, aw_le rfl⟩ ?_
    refine aw_ifB_eq (tgt := 45) (aw_d q_Sc_takeWord 13 rfl) (by decide) (fun c29 => ?_) (fun c29 => ?_)
    · have hw : we T n a = p := by rw [we, he, runB, if_neg c29]
      refine aw_aload_n (aw_d q_Sc_takeWord 21 rfl) rfl rfl rfl ?_
      refine aw_aload_n (aw_d q_Sc_takeWord 22 rfl) rfl rfl rfl ?_
      refine aw_getf (v := .int (nI (p))) (aw_d q_Sc_takeWord 23 rfl) fL_Sc_25_Sc rfl (gk rfl) ?_
      refine aw_aload_n (aw_d q_Sc_takeWord 24 rfl) rfl rfl rfl ?_
      refine aw_getf (v := .int (nI (a))) (aw_d q_Sc_takeWord 25 rfl) fL_Sc_32_Sc rfl (gk rfl) ?_
      refine aw_isubN (aw_d q_Sc_takeWord 26 rfl) (by (have hc2 := hc.2.1; omega)) ?_
      refine wi_26_4 (aw_d q_Sc_takeWord 27 rfl) pL_Sc_35_Sc ?_
      exact aw_vret (aw_d q_Sc_takeWord 28 rfl) rfl (⟨rfl, by rw [hw]; rfl⟩)
    · refine aw_aload_n (aw_d q_Sc_takeWord 14 rfl) rfl rfl rfl ?_
      refine aw_dup (aw_d q_Sc_takeWord 15 rfl) rfl ?_
      refine aw_getf (v := .int (nI (p))) (aw_d q_Sc_takeWord 16 rfl) fL_Sc_25_Sc rfl (gk rfl) ?_
      refine aw_iconst (v := nI 1) (aw_d q_Sc_takeWord 17 rfl) (by decide) ?_
      refine aw_iaddN (aw_d q_Sc_takeWord 18 rfl) ?_
      refine wi_26_1 (aw_d q_Sc_takeWord 19 rfl) pL_Sc_25_Sc ?_
      refine aw_goto (tgt := 8) (aw_d q_Sc_takeWord 20 rfl) (by decide) ?_
      exact AW.to (ih (p + 1) (by omega) (by omega) (he.trans (by rw [runB, if_pos c29]))) rfl rfl rfl rfl
set_option maxRecDepth 20000 in
theorem sp_word {g : aw_G} {S : aw_S} {n : Nat} {T : Nat → Int32} {p : Nat} {q w l k e z : Int32} {X : Nat → Int32} (hc : TPc S n T) (hp : p ≤ n) : Sp g M_Sc_takeWord 1 20 0 0 [.ref 26] (HP (QC S (nI p) q w l k e z X)) (fun r h => r = none ∧ h = HP (QC S (nI (we T n p)) q (nI p) (nI (we T n p - p)) k e z X)) := by
  refine Sp.of rfl (aw_le rfl) ?_
  refine aw_aload_n (aw_d q_Sc_takeWord 0 rfl) rfl rfl rfl ?_
  refine aw_aload_n (aw_d q_Sc_takeWord 1 rfl) rfl rfl rfl ?_
  refine aw_getf (v := .int (nI (p))) (aw_d q_Sc_takeWord 2 rfl) fL_Sc_25_Sc rfl (gk rfl) ?_
  refine wi_26_3 (aw_d q_Sc_takeWord 3 rfl) pL_Sc_32_Sc ?_
  exact AW.to (lp_word (w := w) (l := l) hc (n - p) p (by omega) (by omega) rfl) rfl rfl rfl rfl
theorem sp_getT {g : aw_G} {S : aw_S} {n i : Nat} {T : Nat → Int32} {p q w l k e z : Int32} {X : Nat → Int32} (hc : TPc S n T) (h : i < n) : Sp g M_By_get 0 0 0 0 [.ref 1, .int (nI i)] (HP (QC S p q w l k e z X)) (fun r h => r = some (.int (T i)) ∧ h = HP (QC S p q w l k e z X)) := by
  have q1 := sp_By_get_1 (g := g) (S := QC S p q w l k e z X) (n := n) (k := i) hc.1 hc.2.1 h
  rw [show (QC S p q w l k e z X).2 2 i = T i from hc.2.2.1 i h] at q1
  exact q1
set_option maxRecDepth 20000 in
theorem lp_isWord {g : aw_G} {S : aw_S} {n : Nat} {T : Nat → Int32} {p q k e z : Int32} {X : Nat → Int32} {a b j : Nat} (hc : TPc S n T) (hab : a ≤ b) (hbn : b ≤ n) (hi : j < aw_nS) (hl : b - a = aw_len.getD j 0) : ∀ (m i : Nat), m + i = aw_len.getD j 0 → mt T (tx j) a = mt T ((tx j).drop i) (a + i) → AW g M_Sc_isWord (aw_rm 4 85 0 0) (aw_F g 0 0 (fun r h => r = some (.int (if wm T a b j = true then nI 1 else nI 0)) ∧ h = HP (QC S p q (nI a) (nI (b - a)) k e z X))) 15 [some (.ref 26), some (.retAddr j), some (.int (nI i))] [] (HP (QC S p q (nI a) (nI (b - a)) k e z X)) 0 0 := by
  intro m
  induction m with
  | zero =>
    intro i hk he
    refine aw_iload_n (aw_d q_Sc_isWord 9 rfl) rfl rfl ?_
    refine aw_aload_n (aw_d q_Sc_isWord 10 rfl) rfl rfl rfl ?_
    refine aw_getf (v := .int (nI ((b - a)))) (aw_d q_Sc_isWord 11 rfl) fL_Sc_35_Sc rfl (gk rfl) ?_
    refine aw_icmpN_ge (tgt := 52) (aw_d q_Sc_isWord 12 rfl) (by decide) (by (have hc2 := hc.2.1; have hz := aw_len_lt hi; omega)) (by (have hc2 := hc.2.1; have hz := aw_len_lt hi; omega)) (fun c20 => ?_) (fun c20 => by exfalso; (have hc2 := hc.2.1; have hz := aw_len_lt hi; omega))
    refine aw_iconst (v := nI 1) (aw_d q_Sc_isWord 28 rfl) (by decide) ?_
    exact aw_zret (aw_d q_Sc_isWord 29 rfl) rfl (rfl) (⟨by rw [if_pos (by rw [wm, tx_len hi, decide_eq_true hl, he, tx_dropZ hi (by omega)]; rfl)], rfl⟩)
  | succ m ih =>
    intro i hk he
    refine aw_iload_n (aw_d q_Sc_isWord 9 rfl) rfl rfl ?_
    refine aw_aload_n (aw_d q_Sc_isWord 10 rfl) rfl rfl rfl ?_
    refine aw_getf (v := .int (nI ((b - a)))) (aw_d q_Sc_isWord 11 rfl) fL_Sc_35_Sc rfl (gk rfl) ?_
    refine aw_icmpN_ge (tgt := 52) (aw_d q_Sc_isWord 12 rfl) (by decide) (by (have hc2 := hc.2.1; have hz := aw_len_lt hi; omega)) (by (have hc2 := hc.2.1; have hz := aw_len_lt hi; omega)) (fun c20 => by exfalso; (have hc2 := hc.2.1; have hz := aw_len_lt hi; omega)) (fun c20 => ?_)
    refine aw_aload_n (aw_d q_Sc_isWord 13 rfl) rfl rfl rfl ?_
    refine aw_getf (aw_d q_Sc_isWord 14 rfl) fL_Sc_9_Sc rfl rfl ?_
    refine aw_aload_n (aw_d q_Sc_isWord 15 rfl) rfl rfl rfl ?_
    refine aw_getf (v := .int (nI (a))) (aw_d q_Sc_isWord 16 rfl) fL_Sc_32_Sc rfl (gk rfl) ?_
    refine aw_iload_n (aw_d q_Sc_isWord 17 rfl) rfl rfl ?_
    refine aw_iaddN (aw_d q_Sc_isWord 18 rfl) ?_
    refine cVr (aw_d q_Sc_isWord 19 rfl) (sp_getT (i := a + i) hc (by omega)) vL_Sc_93_By rfl rfl rfl rfl rfl rfl ⟨aw_le rfl, aw_le rfl⟩ ?_
    refine aw_aload_n (aw_d q_Sc_isWord 20 rfl) rfl rfl rfl ?_
    refine aw_iload_n (aw_d q_Sc_isWord 21 rfl) rfl rfl ?_
    refine cT (aw_d q_Sc_isWord 22 rfl) hi (sp_JS_charAt hi (by omega)) vL_Sc_79_JS rfl rfl rfl rfl ⟨aw_le rfl, aw_le rfl⟩ ?_
    refine aw_icmpZ_eq (tgt := 46) (aw_d q_Sc_isWord 23 rfl) (by decide) (fun c41 => ?_) (fun c41 => ?_)
    · refine aw_iinc (aw_d q_Sc_isWord 26 rfl) rfl (ii1 _) (aw_le rfl) rfl ?_
      refine aw_goto (tgt := 15) (aw_d q_Sc_isWord 27 rfl) (by decide) ?_
      exact ih (i + 1) (by omega) (he.trans (by rw [tx_dropS hi (by omega), mt, decide_eq_true c41]; rfl))
    · refine aw_iconst (v := nI 0) (aw_d q_Sc_isWord 24 rfl) (by decide) ?_
      exact aw_zret (aw_d q_Sc_isWord 25 rfl) rfl (rfl) (⟨by rw [if_neg (by rw [wm, he, tx_dropS hi (by omega), mt, decide_eq_false c41, Bool.false_and, Bool.and_false]; exact Bool.false_ne_true)], rfl⟩)
set_option maxRecDepth 20000 in
theorem sp_isWord {g : aw_G} {S : aw_S} {n : Nat} {T : Nat → Int32} {p q k e z : Int32} {X : Nat → Int32} {a b j : Nat} (hc : TPc S n T) (hab : a ≤ b) (hbn : b ≤ n) (hi : j < aw_nS)  : Sp g M_Sc_isWord 4 85 0 0 [.ref 26, .retAddr j] (HP (QC S p q (nI a) (nI (b - a)) k e z X)) (fun r h => r = some (.int (if wm T a b j = true then nI 1 else nI 0)) ∧ h = HP (QC S p q (nI a) (nI (b - a)) k e z X)) := by
  refine Sp.of rfl (aw_le rfl) ?_
  refine aw_aload_n (aw_d q_Sc_isWord 0 rfl) rfl rfl rfl ?_
  refine cT (aw_d q_Sc_isWord 1 rfl) hi (sp_JS_length hi) vL_Sc_71_JS rfl rfl rfl rfl ⟨aw_le rfl, aw_le rfl⟩ ?_
  refine aw_aload_n (aw_d q_Sc_isWord 2 rfl) rfl rfl rfl ?_
  refine aw_getf (v := .int (nI ((b - a)))) (aw_d q_Sc_isWord 3 rfl) fL_Sc_35_Sc rfl (gk rfl) ?_
  refine aw_icmpN_eq (tgt := 13) (aw_d q_Sc_isWord 4 rfl) (by decide) (by (have hc2 := hc.2.1; have hz := aw_len_lt hi; omega)) (by (have hc2 := hc.2.1; have hz := aw_len_lt hi; omega)) (fun c8 => ?_) (fun c8 => ?_)
  · refine aw_iconst (v := nI 0) (aw_d q_Sc_isWord 7 rfl) (by decide) ?_
    refine aw_istore_n (aw_d q_Sc_isWord 8 rfl) rfl (aw_le rfl) rfl ?_
    exact lp_isWord hc hab hbn hi c8.symm (aw_len.getD j 0) 0 (by omega) rfl
  · refine aw_iconst (v := nI 0) (aw_d q_Sc_isWord 5 rfl) (by decide) ?_
    exact aw_zret (aw_d q_Sc_isWord 6 rfl) rfl (rfl) (⟨by rw [if_neg (by rw [wm, tx_len hi, decide_eq_false (fun q => c8 q.symm), Bool.false_and]; exact Bool.false_ne_true)], rfl⟩)
set_option maxRecDepth 20000 in
theorem sp_take {g : aw_G} {S : aw_S} {p d : Nat} {q w l k e : Int32} {L : List Int32} {f : Nat → Int32} {b : Int32} (hL : L.length < 20)  : Sp g M_Sc_take 1 21 0 0 [.ref 26, .int b, .int (nI d)] (HP (QC S (nI p) q w l k e (nI (L).length) (XA (L) f))) (fun r h => r = none ∧ h = HP (QC S (nI (p + d)) q w l k e (nI (L ++ [b]).length) (XA (L ++ [b]) f))) := by
  refine Sp.of rfl (aw_le rfl) ?_
  refine aw_aload_n (aw_d q_Sc_take 0 rfl) rfl rfl rfl ?_
  refine aw_getf (aw_d q_Sc_take 1 rfl) fL_Sc_18_Sc rfl rfl ?_
  refine aw_iload_n (aw_d q_Sc_take 2 rfl) rfl rfl ?_
  refine cVv (aw_d q_Sc_take 3 rfl) (sp_Tx_add_27 (S := QC S (nI p) q w l k e (nI (L).length) (XA (L) f)) (n := L.length) rfl hL) vL_Sc_136_Tx rfl rfl rfl rfl rfl rfl ⟨aw_le rfl, aw_le rfl⟩ ?_
  refine aw_aload_n (aw_d q_Sc_take 4 rfl) rfl rfl rfl ?_
  refine aw_dup (aw_d q_Sc_take 5 rfl) rfl ?_
  refine aw_getf (v := .int (nI (p))) (aw_d q_Sc_take 6 rfl) fL_Sc_25_Sc rfl (gk rfl) ?_
  refine aw_iload_n (aw_d q_Sc_take 7 rfl) rfl rfl ?_
  refine aw_iaddN (aw_d q_Sc_take 8 rfl) ?_
  refine wi_26_1 (aw_d q_Sc_take 9 rfl) pL_Sc_25_Sc ?_
  exact aw_vret (aw_d q_Sc_take 10 rfl) rfl (⟨rfl, by rw [← XA_add, List.length_append]; rfl⟩)
set_option maxRecDepth 20000 in
theorem sp_unescaped {g : aw_G} {h : aw_hp} {b : Int32} {sl : Bool} : Sp g M_Sc_unescaped 0 0 0 0 [.int b, .int (if sl = true then nI 1 else nI 0)] (h) (fun r h1 => r = some (.int (uI (un sl b))) ∧ h1 = h) := by
  refine Sp.of rfl (aw_le rfl) ?_
  refine aw_iload_n (aw_d q_Sc_unescaped 0 rfl) rfl rfl ?_
  rcases (show b.toInt = 34 ∨ b.toInt = 47 ∨ b.toInt = 92 ∨ b.toInt = 110 ∨ b.toInt = 114 ∨ b.toInt = 116 ∨ (b.toInt ≠ 34 ∧ b.toInt ≠ 47 ∧ b.toInt ≠ 92 ∧ b.toInt ≠ 110 ∧ b.toInt ≠ 114 ∧ b.toInt ≠ 116) by omega) with hsw | hsw | hsw | hsw | hsw | hsw | hsw
  · refine aw_lookup (tgt := 60) (aw_d q_Sc_unescaped 1 rfl) (by decide) (by rw [hsw]; try rfl) (by decide) ?_
    refine aw_iload_n (aw_d q_Sc_unescaped 2 rfl) rfl rfl ?_
    exact aw_iret (aw_d q_Sc_unescaped 3 rfl) rfl (⟨by first | (simp [un, uI, hsw]; done) | (simp [un, uI, hsw, c72]; done), rfl⟩)
  · refine aw_lookup (tgt := 71) (aw_d q_Sc_unescaped 1 rfl) (by decide) (by rw [hsw]; try rfl) (by decide) ?_
    refine aw_iload_n (aw_d q_Sc_unescaped 10 rfl) rfl rfl ?_
    refine aw_ifB_eq (tgt := 79) (aw_d q_Sc_unescaped 11 rfl) (by decide) (fun c72 => ?_) (fun c72 => ?_)
    · refine aw_iconst (v := (-1)) (aw_d q_Sc_unescaped 14 rfl) (by decide) ?_
      exact aw_iret (aw_d q_Sc_unescaped 15 rfl) rfl (⟨by first | (simp [un, uI, hsw]; done) | (simp [un, uI, hsw, c72]; done), rfl⟩)
    · refine aw_iload_n (aw_d q_Sc_unescaped 12 rfl) rfl rfl ?_
      refine aw_goto (tgt := 80) (aw_d q_Sc_unescaped 13 rfl) (by decide) ?_
      exact aw_iret (aw_d q_Sc_unescaped 15 rfl) rfl (⟨by first | (simp [un, uI, hsw]; done) | (simp [un, uI, hsw, c72]; done), rfl⟩)
  · refine aw_lookup (tgt := 60) (aw_d q_Sc_unescaped 1 rfl) (by decide) (by rw [hsw]; try rfl) (by decide) ?_
    refine aw_iload_n (aw_d q_Sc_unescaped 2 rfl) rfl rfl ?_
    exact aw_iret (aw_d q_Sc_unescaped 3 rfl) rfl (⟨by first | (simp [un, uI, hsw]; done) | (simp [un, uI, hsw, c72]; done), rfl⟩)
  · refine aw_lookup (tgt := 65) (aw_d q_Sc_unescaped 1 rfl) (by decide) (by rw [hsw]; try rfl) (by decide) ?_
    refine aw_bipush (v := nI 10) (aw_d q_Sc_unescaped 6 rfl) (by decide) ?_
    exact aw_iret (aw_d q_Sc_unescaped 7 rfl) rfl (⟨by first | (simp [un, uI, hsw]; done) | (simp [un, uI, hsw, c72]; done), rfl⟩)
  · refine aw_lookup (tgt := 68) (aw_d q_Sc_unescaped 1 rfl) (by decide) (by rw [hsw]; try rfl) (by decide) ?_
    refine aw_bipush (v := nI 13) (aw_d q_Sc_unescaped 8 rfl) (by decide) ?_
    exact aw_iret (aw_d q_Sc_unescaped 9 rfl) rfl (⟨by first | (simp [un, uI, hsw]; done) | (simp [un, uI, hsw, c72]; done), rfl⟩)
  · refine aw_lookup (tgt := 62) (aw_d q_Sc_unescaped 1 rfl) (by decide) (by rw [hsw]; try rfl) (by decide) ?_
    refine aw_bipush (v := nI 9) (aw_d q_Sc_unescaped 4 rfl) (by decide) ?_
    exact aw_iret (aw_d q_Sc_unescaped 5 rfl) rfl (⟨by first | (simp [un, uI, hsw]; done) | (simp [un, uI, hsw, c72]; done), rfl⟩)
  · refine aw_lookup (tgt := 81) (aw_d q_Sc_unescaped 1 rfl) (by decide) (lk_out (by intro q hq; simp at hq; rcases hq with rfl | rfl | rfl | rfl | rfl | rfl <;> (dsimp only; omega))) (by decide) ?_
    refine aw_iconst (v := (-1)) (aw_d q_Sc_unescaped 16 rfl) (by decide) ?_
    exact aw_iret (aw_d q_Sc_unescaped 17 rfl) rfl (⟨by first | (simp [un, uI, hsw]; done) | (simp [un, uI, hsw, c72]; done), rfl⟩)
