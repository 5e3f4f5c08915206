theorem xc_lt {kd : Nat} : xc kd < aw_nS := by simp only [xc]; split <;> first | decide | (split <;> decide)
theorem sp_closing {g : aw_G} {h : aw_hp} {kd : Nat} (hk : kd ≤ 4) : Sp g M_Xm_closing 0 0 0 0 [.int (nI kd)] h (fun r h1 => r = some (.retAddr (xc kd)) ∧ h1 = h) := by
  rcases (show kd = 0 ∨ kd = 1 ∨ kd = 2 ∨ kd = 3 ∨ kd = 4 by omega) with q | q | q | q | q
  · subst q; exact sp_Xm_closing_0
  · subst q; exact sp_Xm_closing_1
  · subst q; exact sp_Xm_closing_2
  · subst q; exact sp_Xm_closing_3
  · subst q; exact sp_Xm_closing_4
set_option maxRecDepth 20000 in
theorem lp_xk {g : aw_G} {S : aw_S} {E0 : ts_T} {n : Nat} {T : Nat → Int32} {q : Int32} (hw : tsW E0) (h60 : E0.1 ≤ 60) (hc : TPc S n T) {res : Except Nat (Nat × nm_T)} : ∀ (m i p : Nat) (N : nm_T) (D : aw_S) (w l k e z : Int32) (X : Nat → Int32), m + i = 7 → p ≤ n → itC S E0 N 0 [] D → res = xk T n m p N → AW g M_Xm_parseNames (aw_rm 5 107 0 0) (aw_F g 0 0 (CG S E0 res (fun (y : Nat × nm_T) h => ∃ (F : aw_S) (w l k e z : Int32) (X : Nat → Int32), itC S E0 y.2 0 [] F ∧ y.1 ≤ n ∧ h = HP (QC F (nI y.1) q w l k e z X)))) 2 [some (.ref 30), some (.ref 18), some (.int (nI i))] [] (HP (QC D (nI p) q w l k e z X)) 0 0 := by
  intro m
  induction m with
  | zero =>
    intro i p N D w l k e z X hk hp hI he
    refine aw_iload_n (aw_d q_Xm_parseNames 2 rfl) rfl rfl ?_
    refine aw_bipush (v := nI 6) (aw_d q_Xm_parseNames 3 rfl) (by decide) ?_
    refine aw_icmpN_gt (tgt := 60) (aw_d q_Xm_parseNames 4 rfl) (by decide) (by (have hc2 := hc.2.1; omega)) (by (have hc2 := hc.2.1; omega)) (fun c5 => ?_) (fun c5 => by exfalso; (have hc2 := hc.2.1; omega))
    refine aw_aload_n (aw_d q_Xm_parseNames 29 rfl) rfl rfl rfl ?_
    refine aw_getf (aw_d q_Xm_parseNames 30 rfl) fL_Xm_9_Xm rfl rfl ?_
    refine cVr (aw_d q_Xm_parseNames 31 rfl) (sp_fail) vL_Xm_167_Sc rfl rfl rfl rfl rfl rfl ⟨aw_le rfl, aw_le rfl⟩ ?_
    exact aw_zret (aw_d q_Xm_parseNames 32 rfl) rfl (rfl) (by rw [he]; exact CG_er (itC_bs hI hw (itOK_nil (k := 0))) CF_i)
  | succ m ih =>
    intro i p N D w l k e z X hk hp hI he
    refine aw_iload_n (aw_d q_Xm_parseNames 2 rfl) rfl rfl ?_
    refine aw_bipush (v := nI 6) (aw_d q_Xm_parseNames 3 rfl) (by decide) ?_
    refine aw_icmpN_gt (tgt := 60) (aw_d q_Xm_parseNames 4 rfl) (by decide) (by (have hc2 := hc.2.1; omega)) (by (have hc2 := hc.2.1; omega)) (fun c5 => by exfalso; (have hc2 := hc.2.1; omega)) (fun c5 => ?_)
    refine aw_aload_n (aw_d q_Xm_parseNames 5 rfl) rfl rfl rfl ?_
    refine cVr (aw_d q_Xm_parseNames 6 rfl) (sp_isClosing (frC_TP hI.1 hc) hp) vL_Xm_161_Xm rfl rfl rfl rfl rfl rfl ⟨aw_le rfl, aw_le rfl⟩ ?_
    refine aw_ifB_eq (tgt := 17) (aw_d q_Xm_parseNames 7 rfl) (by decide) (fun c12 => ?_) (fun c12 => ?_)
    · refine aw_aload_n (aw_d q_Xm_parseNames 10 rfl) rfl rfl rfl ?_
      refine aw_getf (aw_d q_Xm_parseNames 11 rfl) fL_Xm_9_Xm rfl rfl ?_
      refine aw_ldcS (aw_d q_Xm_parseNames 12 rfl) tL_Xm_45 ?_
      refine cV (aw_d q_Xm_parseNames 13 rfl) (sp_must (frC_TP hI.1 hc) hp (j := 26) (by decide)) vL_Xm_134_Sc rfl rfl rfl rfl rfl rfl ⟨aw_le rfl, aw_le rfl⟩ (fun r23 h23 hp23 => ?_)
      cases hx23 : mu T (tx 26) p with
      | error u23 =>
        rw [hx23] at hp23
        obtain ⟨rfl, hf23⟩ := hp23
        refine aw_ifN_eq (tgt := 52) (aw_d q_Xm_parseNames 14 rfl) (by decide) (by (have hc2 := hc.2.1; omega)) (fun c26 => ?_) (fun c26 => by exfalso; (have hc2 := hc.2.1; omega))
        refine aw_iconst (v := nI 0) (aw_d q_Xm_parseNames 25 rfl) (by decide) ?_
        exact aw_zret (aw_d q_Xm_parseNames 26 rfl) rfl (rfl) (by rw [he]; simp only [xk, bd_ok, bd_er, if_true, if_false, eq_self, ↓reduceIte, hx23, c12]; exact CG_er (itC_bs hI hw (itOK_nil (k := 0))) hf23)
      | ok p23 =>
        rw [hx23] at hp23
        obtain ⟨rfl, rfl, hp_23⟩ := hp23
        refine aw_ifN_eq (tgt := 52) (aw_d q_Xm_parseNames 14 rfl) (by decide) (by (have hc2 := hc.2.1; omega)) (fun c26 => by exfalso; (have hc2 := hc.2.1; omega)) (fun c26 => ?_)
        refine aw_aload_n (aw_d q_Xm_parseNames 15 rfl) rfl rfl rfl ?_
        refine aw_getf (aw_d q_Xm_parseNames 16 rfl) fL_Xm_9_Xm rfl rfl ?_
        refine aw_aload_n (aw_d q_Xm_parseNames 17 rfl) rfl rfl rfl ?_
        refine cV (aw_d q_Xm_parseNames 18 rfl) (sp_newName hI hc hw hp_23) vL_Xm_164_Sc rfl rfl rfl rfl rfl rfl ⟨aw_le rfl, aw_le rfl⟩ (fun r34 h34 hp34 => ?_)
        cases hx34 : nn T n N p23 with
        | error u34 =>
          rw [hx34] at hp34
          obtain ⟨rfl, F34, hb34, hf34⟩ := hp34
          refine aw_ifN_eq (tgt := 52) (aw_d q_Xm_parseNames 19 rfl) (by decide) (by (have hc2 := hc.2.1; omega)) (fun c37 => ?_) (fun c37 => by exfalso; (have hc2 := hc.2.1; omega))
          refine aw_iconst (v := nI 0) (aw_d q_Xm_parseNames 25 rfl) (by decide) ?_
          exact aw_zret (aw_d q_Xm_parseNames 26 rfl) rfl (rfl) (by rw [he]; simp only [xk, bd_ok, bd_er, if_true, if_false, eq_self, ↓reduceIte, hx23, hx34, c12]; exact CG_er hb34 hf34)
        | ok y34 =>
          rw [hx34] at hp34
          obtain ⟨rfl, F34, w34, l34, hI34, hp_34, rfl⟩ := hp34
          refine aw_ifN_eq (tgt := 52) (aw_d q_Xm_parseNames 19 rfl) (by decide) (by (have hc2 := hc.2.1; omega)) (fun c37 => by exfalso; (have hc2 := hc.2.1; omega)) (fun c37 => ?_)
          refine aw_aload_n (aw_d q_Xm_parseNames 20 rfl) rfl rfl rfl ?_
          refine aw_getf (aw_d q_Xm_parseNames 21 rfl) fL_Xm_9_Xm rfl rfl ?_
          refine aw_ldcS (aw_d q_Xm_parseNames 22 rfl) tL_Xm_51 ?_
          refine cV (aw_d q_Xm_parseNames 23 rfl) (sp_must (frC_TP hI34.1 hc) hp_34 (j := 27) (by decide)) vL_Xm_134_Sc rfl rfl rfl rfl rfl rfl ⟨aw_le rfl, aw_le rfl⟩ (fun r46 h46 hp46 => ?_)
          cases hx46 : mu T (tx 27) y34.1 with
          | error u46 =>
            rw [hx46] at hp46
            obtain ⟨rfl, hf46⟩ := hp46
            refine aw_ifN_ne (tgt := 54) (aw_d q_Xm_parseNames 24 rfl) (by decide) (by (have hc2 := hc.2.1; omega)) (fun c49 => by exfalso; (have hc2 := hc.2.1; omega)) (fun c49 => ?_)
            refine aw_iconst (v := nI 0) (aw_d q_Xm_parseNames 25 rfl) (by decide) ?_
            exact aw_zret (aw_d q_Xm_parseNames 26 rfl) rfl (rfl) (by rw [he]; simp only [xk, bd_ok, bd_er, if_true, if_false, eq_self, ↓reduceIte, hx23, hx34, hx46, c12]; exact CG_er (itC_bs hI34 hw (itOK_nil (k := 0))) hf46)
          | ok p46 =>
            rw [hx46] at hp46
            obtain ⟨rfl, rfl, hp_46⟩ := hp46
            refine aw_ifN_ne (tgt := 54) (aw_d q_Xm_parseNames 24 rfl) (by decide) (by (have hc2 := hc.2.1; omega)) (fun c49 => ?_) (fun c49 => by exfalso; (have hc2 := hc.2.1; omega))
            refine aw_iinc (aw_d q_Xm_parseNames 27 rfl) rfl (ii1 _) (aw_le rfl) rfl ?_
            refine aw_goto (tgt := 2) (aw_d q_Xm_parseNames 28 rfl) (by decide) ?_
            exact AW.to (ih (i + 1) p46 y34.2 F34 _ _ _ _ _ _ (by omega) hp_46 hI34 (he.trans (by simp only [xk, c12, hx23, hx34, hx46, bd_ok, ↓reduceIte]))) rfl rfl rfl rfl
    · refine aw_iconst (v := nI 1) (aw_d q_Xm_parseNames 8 rfl) (by decide) ?_
      exact aw_zret (aw_d q_Xm_parseNames 9 rfl) rfl (rfl) (by rw [he, xk, if_pos c12]; exact CG_ok ⟨_, _, _, _, _, _, _, hI, hp, rfl⟩)
set_option maxRecDepth 20000 in
theorem sp_xk {g : aw_G} {S D : aw_S} {E0 : ts_T} {N : nm_T} {n : Nat} {T : Nat → Int32} {p : Nat} {q w l k e z : Int32} {X : Nat → Int32} (hw : tsW E0) (h60 : E0.1 ≤ 60) (hc : TPc S n T) (hp : p ≤ n) (hI : itC S E0 N 0 [] D)  : Sp g M_Xm_parseNames 5 107 0 0 [.ref 30, .ref 18] (HP (QC D (nI p) q w l k e z X)) (CG S E0 (xk T n 7 p N) (fun (y : Nat × nm_T) h => ∃ (F : aw_S) (w l k e z : Int32) (X : Nat → Int32), itC S E0 y.2 0 [] F ∧ y.1 ≤ n ∧ h = HP (QC F (nI y.1) q w l k e z X))) := by
  refine Sp.of rfl (aw_le rfl) ?_
  refine aw_iconst (v := nI 0) (aw_d q_Xm_parseNames 0 rfl) (by decide) ?_
  refine aw_istore_n (aw_d q_Xm_parseNames 1 rfl) rfl (aw_le rfl) rfl ?_
  exact lp_xk hw h60 hc 7 0 p N D _ _ _ _ _ _ (by omega) hp hI rfl
set_option maxRecDepth 20000 in
theorem lp_xb {g : aw_G} {S : aw_S} {E0 : ts_T} {n : Nat} {T : Nat → Int32} {q : Int32} (hw : tsW E0) (h60 : E0.1 ≤ 60) (hc : TPc S n T) {N : nm_T} {r : Nat} (hr : r < 24) {res : Except Nat (Nat × sq_T)} : ∀ (m i p lo : Nat) (s : sq_T) (D : aw_S) (x : Int32) (w l k e z : Int32) (X : Nat → Int32), m + i = 7 → p ≤ n → x.toInt = (lo : Int) - 1 → lo ≤ 6 → itC S E0 N (r + 1) s D → itOK s (r * 6 + lo) → res = xb T n N r m p lo s → AW g M_Xm_parseRow (aw_rm 7 157 0 0) (aw_F g 0 0 (CG S E0 res (fun (y : Nat × sq_T) h => ∃ (F : aw_S) (w l k e z : Int32) (X : Nat → Int32), itC S E0 N (r + 1) y.2 F ∧ itOK y.2 (r * 6 + 6) ∧ y.1 ≤ n ∧ h = HP (QC F (nI y.1) q w l k e z X)))) 10 [some (.ref 30), some (.ref 18), some (.int (nI r)), some (.int x), some (.int (nI i))] [] (HP (QC D (nI p) q w l k e z X)) 0 0 := by
  intro m
  induction m with
  | zero =>
    intro i p lo s D x w l k e z X hk hp hx3 hlo hI hs he
    refine aw_iload (aw_d q_Xm_parseRow 7 rfl) rfl ?_
    refine aw_bipush (v := nI 6) (aw_d q_Xm_parseRow 8 rfl) (by decide) ?_
    refine aw_icmpN_gt (tgt := 165) (aw_d q_Xm_parseRow 9 rfl) (by decide) (by (have hc2 := hc.2.1; omega)) (by (have hc2 := hc.2.1; omega)) (fun c14 => ?_) (fun c14 => by exfalso; (have hc2 := hc.2.1; omega))
    refine aw_aload_n (aw_d q_Xm_parseRow 80 rfl) rfl rfl rfl ?_
    refine aw_getf (aw_d q_Xm_parseRow 81 rfl) fL_Xm_9_Xm rfl rfl ?_
    refine cVr (aw_d q_Xm_parseRow 82 rfl) (sp_fail) vL_Xm_167_Sc rfl rfl rfl rfl rfl rfl ⟨aw_le rfl, aw_le rfl⟩ ?_
    exact aw_zret (aw_d q_Xm_parseRow 83 rfl) rfl (rfl) (by rw [he]; exact CG_er (itC_bs hI hw hs) CF_i)
  | succ m ih =>
    intro i p lo s D x w l k e z X hk hp hx3 hlo hI hs he
    refine aw_iload (aw_d q_Xm_parseRow 7 rfl) rfl ?_
    refine aw_bipush (v := nI 6) (aw_d q_Xm_parseRow 8 rfl) (by decide) ?_
    refine aw_icmpN_gt (tgt := 165) (aw_d q_Xm_parseRow 9 rfl) (by decide) (by (have hc2 := hc.2.1; have h6 := hI.2.1.2.1; omega)) (by (have hc2 := hc.2.1; have h6 := hI.2.1.2.1; omega)) (fun c14 => by exfalso; (have hc2 := hc.2.1; have h6 := hI.2.1.2.1; omega)) (fun c14 => ?_)
    refine aw_aload_n (aw_d q_Xm_parseRow 10 rfl) rfl rfl rfl ?_
    refine cVr (aw_d q_Xm_parseRow 11 rfl) (sp_isClosing (frC_TP hI.1 hc) hp) vL_Xm_161_Xm rfl rfl rfl rfl rfl rfl ⟨aw_le rfl, aw_le rfl⟩ ?_
    refine aw_ifB_eq (tgt := 34) (aw_d q_Xm_parseRow 12 rfl) (by decide) (fun c21 => ?_) (fun c21 => ?_)
    · refine aw_aload_n (aw_d q_Xm_parseRow 18 rfl) rfl rfl rfl ?_
      refine aw_getf (aw_d q_Xm_parseRow 19 rfl) fL_Xm_9_Xm rfl rfl ?_
      refine aw_ldcS (aw_d q_Xm_parseRow 20 rfl) tL_Xm_70 ?_
      refine cV (aw_d q_Xm_parseRow 21 rfl) (sp_must (frC_TP hI.1 hc) hp (j := 30) (by decide)) vL_Xm_134_Sc rfl rfl rfl rfl rfl rfl ⟨aw_le rfl, aw_le rfl⟩ (fun r40 h40 hp40 => ?_)
      cases hx40 : mu T (tx 30) p with
      | error u40 =>
        rw [hx40] at hp40
        obtain ⟨rfl, hf40⟩ := hp40
        refine aw_ifN_ne (tgt := 48) (aw_d q_Xm_parseRow 22 rfl) (by decide) (by (have hc2 := hc.2.1; have h6 := hI.2.1.2.1; omega)) (fun c43 => by exfalso; (have hc2 := hc.2.1; have h6 := hI.2.1.2.1; omega)) (fun c43 => ?_)
        refine aw_iconst (v := nI 0) (aw_d q_Xm_parseRow 23 rfl) (by decide) ?_
        exact aw_zret (aw_d q_Xm_parseRow 24 rfl) rfl (rfl) (by rw [he]; simp only [xb, xm, bd_ok, bd_er, if_true, if_false, eq_self, ↓reduceIte, hx40, c21]; exact CG_er (itC_bs hI hw hs) hf40)
      | ok p40 =>
        rw [hx40] at hp40
        obtain ⟨rfl, rfl, hp_40⟩ := hp40
        refine aw_ifN_ne (tgt := 48) (aw_d q_Xm_parseRow 22 rfl) (by decide) (by (have hc2 := hc.2.1; have h6 := hI.2.1.2.1; omega)) (fun c43 => ?_) (fun c43 => by exfalso; (have hc2 := hc.2.1; have h6 := hI.2.1.2.1; omega))
        refine aw_aload_n (aw_d q_Xm_parseRow 25 rfl) rfl rfl rfl ?_
        refine aw_getf (aw_d q_Xm_parseRow 26 rfl) fL_Xm_9_Xm rfl rfl ?_
        refine aw_aload_n (aw_d q_Xm_parseRow 27 rfl) rfl rfl rfl ?_
        refine aw_iload_n (aw_d q_Xm_parseRow 28 rfl) rfl rfl ?_
        refine cV (aw_d q_Xm_parseRow 29 rfl) (sp_nameBehind hI hc (lo := lo) hx3 hp_40) vL_Xm_179_Sc rfl rfl rfl rfl rfl rfl ⟨aw_le rfl, aw_le rfl⟩ (fun r54 h54 hp54 => ?_)
        cases hx54 : rn T n N lo p40 with
        | error u54 =>
          rw [hx54] at hp54
          obtain ⟨rfl, hf54⟩ := hp54
          refine aw_istore_n (aw_d q_Xm_parseRow 30 rfl) rfl (aw_le rfl) rfl ?_
          refine aw_iload_n (aw_d q_Xm_parseRow 31 rfl) rfl rfl ?_
          refine aw_iconst (v := (-1)) (aw_d q_Xm_parseRow 32 rfl) (by decide) ?_
          refine aw_icmpZ_eq (tgt := 89) (aw_d q_Xm_parseRow 33 rfl) (by decide) (fun c60 => ?_) (fun c60 => by exact absurd rfl c60)
          refine aw_iconst (v := nI 0) (aw_d q_Xm_parseRow 45 rfl) (by decide) ?_
          exact aw_zret (aw_d q_Xm_parseRow 46 rfl) rfl (rfl) (by rw [he]; simp only [xb, xm, bd_ok, bd_er, if_true, if_false, eq_self, ↓reduceIte, hx40, hx54, c21]; exact CG_er (itC_bs hI hw hs) hf54)
        | ok y54 =>
          rw [hx54] at hp54
          obtain ⟨rfl, hv54, hlo54, hp_54, w54, l54, rfl⟩ := hp54
          refine aw_istore_n (aw_d q_Xm_parseRow 30 rfl) rfl (aw_le rfl) rfl ?_
          refine aw_iload_n (aw_d q_Xm_parseRow 31 rfl) rfl rfl ?_
          refine aw_iconst (v := (-1)) (aw_d q_Xm_parseRow 32 rfl) (by decide) ?_
          refine aw_icmpJ_eq (tgt := 89) (aw_d q_Xm_parseRow 33 rfl) (by decide) (by (have hc2 := hc.2.1; have h6 := hI.2.1.2.1; omega)) (fun c60 => by (have h1 : (-1 : Int32).toInt = -1 := rfl; have h6 := hI.2.1.2.1; omega)) (fun c60 => ?_)
          refine aw_aload_n (aw_d q_Xm_parseRow 34 rfl) rfl rfl rfl ?_
          refine aw_getf (aw_d q_Xm_parseRow 35 rfl) fL_Xm_9_Xm rfl rfl ?_
          refine aw_ldcS (aw_d q_Xm_parseRow 36 rfl) tL_Xm_183 ?_
          refine cV (aw_d q_Xm_parseRow 37 rfl) (sp_must (frC_TP hI.1 hc) hp_54 (j := 75) (by decide)) vL_Xm_134_Sc rfl rfl rfl rfl rfl rfl ⟨aw_le rfl, aw_le rfl⟩ (fun r69 h69 hp69 => ?_)
          cases hx69 : mu T (tx 75) y54.1 with
          | error u69 =>
            rw [hx69] at hp69
            obtain ⟨rfl, hf69⟩ := hp69
            refine aw_ifN_eq (tgt := 89) (aw_d q_Xm_parseRow 38 rfl) (by decide) (by (have hc2 := hc.2.1; have h6 := hI.2.1.2.1; omega)) (fun c72 => ?_) (fun c72 => by exfalso; (have hc2 := hc.2.1; have h6 := hI.2.1.2.1; omega))
            refine aw_iconst (v := nI 0) (aw_d q_Xm_parseRow 45 rfl) (by decide) ?_
            exact aw_zret (aw_d q_Xm_parseRow 46 rfl) rfl (rfl) (by rw [he]; simp only [xb, xm, bd_ok, bd_er, if_true, if_false, eq_self, ↓reduceIte, hx40, hx54, hx69, c21]; exact CG_er (itC_bs hI hw hs) hf69)
          | ok p69 =>
            rw [hx69] at hp69
            obtain ⟨rfl, rfl, hp_69⟩ := hp69
            refine aw_ifN_eq (tgt := 89) (aw_d q_Xm_parseRow 38 rfl) (by decide) (by (have hc2 := hc.2.1; have h6 := hI.2.1.2.1; omega)) (fun c72 => by exfalso; (have hc2 := hc.2.1; have h6 := hI.2.1.2.1; omega)) (fun c72 => ?_)
            refine aw_aload_n (aw_d q_Xm_parseRow 39 rfl) rfl rfl rfl ?_
            refine cV (aw_d q_Xm_parseRow 40 rfl) (sp_xo (frC_TP hI.1 hc) hp_69) vL_Xm_185_Xm rfl rfl rfl rfl rfl rfl ⟨aw_le rfl, aw_le rfl⟩ (fun r76 h76 hp76 => ?_)
            cases hx76 : xo T n p69 with
            | error u76 =>
              rw [hx76] at hp76
              obtain ⟨rfl, hf76⟩ := hp76
              refine aw_ifN_eq (tgt := 89) (aw_d q_Xm_parseRow 41 rfl) (by decide) (by (have hc2 := hc.2.1; have h6 := hI.2.1.2.1; omega)) (fun c79 => ?_) (fun c79 => by exfalso; (have hc2 := hc.2.1; have h6 := hI.2.1.2.1; omega))
              refine aw_iconst (v := nI 0) (aw_d q_Xm_parseRow 45 rfl) (by decide) ?_
              exact aw_zret (aw_d q_Xm_parseRow 46 rfl) rfl (rfl) (by rw [he]; simp only [xb, xm, bd_ok, bd_er, if_true, if_false, eq_self, ↓reduceIte, hx40, hx54, hx69, hx76, c21]; exact CG_er (itC_bs hI hw hs) hf76)
            | ok y76 =>
              rw [hx76] at hp76
              obtain ⟨pp76, kd76, ex76⟩ := y76
              obtain ⟨rfl, ⟨w76, l76, rfl⟩, hy76, hk76, he76, h476, h376⟩ := hp76
              refine aw_ifN_eq (tgt := 89) (aw_d q_Xm_parseRow 41 rfl) (by decide) (by (have hc2 := hc.2.1; have h6 := hI.2.1.2.1; omega)) (fun c79 => by exfalso; (have hc2 := hc.2.1; have h6 := hI.2.1.2.1; omega)) (fun c79 => ?_)
              refine aw_aload_n (aw_d q_Xm_parseRow 42 rfl) rfl rfl rfl ?_
              refine cV (aw_d q_Xm_parseRow 43 rfl) (sp_xt (frC_TP hI.1 hc) hy76 (kd := kd76) hk76) vL_Xm_188_Xm rfl rfl rfl rfl rfl rfl ⟨aw_le rfl, aw_le rfl⟩ (fun r83 h83 hp83 => ?_)
              cases hx83 : okT kd76 pp76 (xt T 21 pp76 []) with
              | error u83 =>
                rw [hx83] at hp83
                obtain ⟨rfl, hf83⟩ := hp83
                refine aw_ifN_ne (tgt := 91) (aw_d q_Xm_parseRow 44 rfl) (by decide) (by (have hc2 := hc.2.1; have h6 := hI.2.1.2.1; omega)) (fun c86 => by exfalso; (have hc2 := hc.2.1; have h6 := hI.2.1.2.1; omega)) (fun c86 => ?_)
                refine aw_iconst (v := nI 0) (aw_d q_Xm_parseRow 45 rfl) (by decide) ?_
                exact aw_zret (aw_d q_Xm_parseRow 46 rfl) rfl (rfl) (by rw [he]; simp only [xb, xm, bd_ok, bd_er, if_true, if_false, eq_self, ↓reduceIte, hx40, hx54, hx69, hx76, hx83, c21]; exact CG_er (itC_bs hI hw hs) hf83)
              | ok y83 =>
                rw [hx83] at hp83
                obtain ⟨pp83, L83⟩ := y83
                obtain ⟨rfl, rfl, hy83, ho83⟩ := hp83
                refine aw_ifN_ne (tgt := 91) (aw_d q_Xm_parseRow 44 rfl) (by decide) (by (have hc2 := hc.2.1; have h6 := hI.2.1.2.1; omega)) (fun c86 => ?_) (fun c86 => by exfalso; (have hc2 := hc.2.1; have h6 := hI.2.1.2.1; omega))
                refine aw_aload_n (aw_d q_Xm_parseRow 47 rfl) rfl rfl rfl ?_
                refine aw_getf (aw_d q_Xm_parseRow 48 rfl) fL_Xm_9_Xm rfl rfl ?_
                refine aw_aload_n (aw_d q_Xm_parseRow 49 rfl) rfl rfl rfl ?_
                refine aw_getf (aw_d q_Xm_parseRow 50 rfl) fL_Xm_9_Xm rfl rfl ?_
                refine aw_getf (v := .int (nI (kd76))) (aw_d q_Xm_parseRow 51 rfl) fL_Xm_191_Sc rfl (gk rfl) ?_
                refine cSr (aw_d q_Xm_parseRow 52 rfl) (sp_closing hk76) sL_Xm_105 rfl rfl rfl rfl ⟨aw_le rfl, aw_le rfl⟩ ?_
                refine cV (aw_d q_Xm_parseRow 53 rfl) (sp_must (frC_TP hI.1 hc) hy83.1 (j := (xc kd76)) xc_lt) vL_Xm_134_Sc rfl rfl rfl rfl rfl rfl ⟨aw_le rfl, aw_le rfl⟩ (fun r105 h105 hp105 => ?_)
                cases hx105 : mu T (tx ((xc kd76))) pp83 with
                | error u105 =>
                  rw [hx105] at hp105
                  obtain ⟨rfl, hf105⟩ := hp105
                  refine aw_ifN_eq (tgt := 123) (aw_d q_Xm_parseRow 54 rfl) (by decide) (by (have hc2 := hc.2.1; have h6 := hI.2.1.2.1; omega)) (fun c108 => ?_) (fun c108 => by exfalso; (have hc2 := hc.2.1; have h6 := hI.2.1.2.1; omega))
                  refine aw_iconst (v := nI 0) (aw_d q_Xm_parseRow 60 rfl) (by decide) ?_
                  exact aw_zret (aw_d q_Xm_parseRow 61 rfl) rfl (rfl) (by rw [he]; simp only [xb, xm, bd_ok, bd_er, if_true, if_false, eq_self, ↓reduceIte, hx40, hx54, hx69, hx76, hx83, hx105, c21]; exact CG_er (itC_bs hI hw hs) hf105)
                | ok p105 =>
                  rw [hx105] at hp105
                  obtain ⟨rfl, rfl, hp_105⟩ := hp105
                  refine aw_ifN_eq (tgt := 123) (aw_d q_Xm_parseRow 54 rfl) (by decide) (by (have hc2 := hc.2.1; have h6 := hI.2.1.2.1; omega)) (fun c108 => by exfalso; (have hc2 := hc.2.1; have h6 := hI.2.1.2.1; omega)) (fun c108 => ?_)
                  refine aw_aload_n (aw_d q_Xm_parseRow 55 rfl) rfl rfl rfl ?_
                  refine aw_getf (aw_d q_Xm_parseRow 56 rfl) fL_Xm_9_Xm rfl rfl ?_
                  refine aw_ldcS (aw_d q_Xm_parseRow 57 rfl) tL_Xm_78 ?_
                  refine cV (aw_d q_Xm_parseRow 58 rfl) (sp_must (frC_TP hI.1 hc) hp_105 (j := 44) (by decide)) vL_Xm_134_Sc rfl rfl rfl rfl rfl rfl ⟨aw_le rfl, aw_le rfl⟩ (fun r117 h117 hp117 => ?_)
                  cases hx117 : mu T (tx 44) p105 with
                  | error u117 =>
                    rw [hx117] at hp117
                    obtain ⟨rfl, hf117⟩ := hp117
                    refine aw_ifN_ne (tgt := 125) (aw_d q_Xm_parseRow 59 rfl) (by decide) (by (have hc2 := hc.2.1; have h6 := hI.2.1.2.1; omega)) (fun c120 => by exfalso; (have hc2 := hc.2.1; have h6 := hI.2.1.2.1; omega)) (fun c120 => ?_)
                    refine aw_iconst (v := nI 0) (aw_d q_Xm_parseRow 60 rfl) (by decide) ?_
                    exact aw_zret (aw_d q_Xm_parseRow 61 rfl) rfl (rfl) (by rw [he]; simp only [xb, xm, bd_ok, bd_er, if_true, if_false, eq_self, ↓reduceIte, hx40, hx54, hx69, hx76, hx83, hx105, hx117, c21]; exact CG_er (itC_bs hI hw hs) hf117)
                  | ok p117 =>
                    rw [hx117] at hp117
                    obtain ⟨rfl, rfl, hp_117⟩ := hp117
                    refine aw_ifN_ne (tgt := 125) (aw_d q_Xm_parseRow 59 rfl) (by decide) (by (have hc2 := hc.2.1; have h6 := hI.2.1.2.1; omega)) (fun c120 => ?_) (fun c120 => by exfalso; (have hc2 := hc.2.1; have h6 := hI.2.1.2.1; omega))
                    refine aw_aload_n (aw_d q_Xm_parseRow 62 rfl) rfl rfl rfl ?_
                    refine aw_iload_n (aw_d q_Xm_parseRow 63 rfl) rfl rfl ?_
                    refine aw_iload_n (aw_d q_Xm_parseRow 64 rfl) rfl rfl ?_
                    refine aw_aload_n (aw_d q_Xm_parseRow 65 rfl) rfl rfl rfl ?_
                    refine aw_getf (aw_d q_Xm_parseRow 66 rfl) fL_Xm_19_Xm rfl rfl ?_
                    refine aw_aload_n (aw_d q_Xm_parseRow 67 rfl) rfl rfl rfl ?_
                    refine aw_getf (aw_d q_Xm_parseRow 68 rfl) fL_Xm_9_Xm rfl rfl ?_
                    refine aw_getf (v := .int (nI (kd76))) (aw_d q_Xm_parseRow 69 rfl) fL_Xm_191_Sc rfl (gk rfl) ?_
                    refine aw_aload_n (aw_d q_Xm_parseRow 70 rfl) rfl rfl rfl ?_
                    refine aw_getf (aw_d q_Xm_parseRow 71 rfl) fL_Xm_9_Xm rfl rfl ?_
                    refine aw_getf (v := .int (nI (ex76))) (aw_d q_Xm_parseRow 72 rfl) fL_Xm_194_Sc rfl (gk rfl) ?_
                    refine aw_aload_n (aw_d q_Xm_parseRow 73 rfl) rfl rfl rfl ?_
                    refine aw_getf (aw_d q_Xm_parseRow 74 rfl) fL_Xm_9_Xm rfl rfl ?_
                    refine aw_getf (aw_d q_Xm_parseRow 75 rfl) fL_Xm_197_Sc rfl rfl ?_
                    refine cV (aw_d q_Xm_parseRow 76 rfl) (sp_number hI hw h60 hs (c0 := r * 6 + lo) (by have h6 := hI.2.1.2.1; omega) (kd := kd76) (ex := ex76) (L := L83) hk76 he76 hy83.2.1) vL_Xm_201_Te rfl rfl rfl rfl rfl rfl ⟨aw_le rfl, aw_le rfl⟩ (fun r153 h153 hp153 => ?_)
                    obtain ⟨rfl, F153, ht153, hf153, rfl⟩ := hp153
                    refine cV (aw_d q_Xm_parseRow 77 rfl) (sp_setD hI ht153 hf153 (r := r) (v := y54.2) hr (by have := hI.2.1.2.1; omega)) vL_Xm_205_Tb rfl rfl rfl rfl rfl rfl ⟨aw_le rfl, aw_le rfl⟩ (fun r156 h156 hp156 => ?_)
                    obtain ⟨rfl, G156, hI156, rfl⟩ := hp156
                    have hw83 : itW (r * 6 + y54.2, kd76, ex76, L83) := ⟨hk76, hy83.2.1, he76, h476, h376, hy83.2.2, ho83⟩
                    have hs156 := itOK_add (m := r * 6 + (y54.2 + 1)) hs hw83 (by show r * 6 + lo ≤ r * 6 + y54.2; omega) (by show r * 6 + y54.2 < r * 6 + (y54.2 + 1); omega)
                    refine aw_iinc (aw_d q_Xm_parseRow 78 rfl) rfl (ii1 _) (aw_le rfl) rfl ?_
                    refine aw_goto (tgt := 10) (aw_d q_Xm_parseRow 79 rfl) (by decide) ?_
                    exact AW.to (ih (i + 1) p117 (y54.2 + 1) _ G156 _ _ _ _ _ _ _ (by omega) hp_117 (by rw [nI_toInt (by have := hI.2.1.2.1; omega)]; omega) (by have := hI.2.1.2.1; omega) hI156 hs156 (he.trans (by simp only [xb, xm, c21, hx40, hx54, hx69, hx76, hx83, hx105, hx117, bd_ok, ↓reduceIte]))) rfl rfl rfl rfl
    · refine aw_aload_n (aw_d q_Xm_parseRow 13 rfl) rfl rfl rfl ?_
      refine aw_getf (aw_d q_Xm_parseRow 14 rfl) fL_Xm_9_Xm rfl rfl ?_
      refine aw_ldcS (aw_d q_Xm_parseRow 15 rfl) tL_Xm_80 ?_
      refine cV (aw_d q_Xm_parseRow 16 rfl) (sp_must (frC_TP hI.1 hc) hp (j := 45) (by decide)) vL_Xm_134_Sc rfl rfl rfl rfl rfl rfl ⟨aw_le rfl, aw_le rfl⟩ (fun r30 h30 hp30 => ?_)
      cases hx30 : mu T (tx 45) p with
      | error u30 =>
        rw [hx30] at hp30
        obtain ⟨rfl, hf30⟩ := hp30
        exact aw_zret (aw_d q_Xm_parseRow 17 rfl) rfl (rfl) (by rw [he, xb, if_pos c21, hx30, bd_er]; exact CG_er (itC_bs hI hw hs) hf30)
      | ok p30 =>
        rw [hx30] at hp30
        obtain ⟨rfl, rfl, hp_30⟩ := hp30
        exact aw_zret (aw_d q_Xm_parseRow 17 rfl) rfl (rfl) (by rw [he, xb, if_pos c21, hx30, bd_ok]; exact CG_ok ⟨_, _, _, _, _, _, _, hI, itOK_mono hs (by omega), hp_30, rfl⟩)
set_option maxRecDepth 20000 in
theorem sp_xb {g : aw_G} {S D : aw_S} {E0 : ts_T} {N : nm_T} {s : sq_T} {r : Nat} {n : Nat} {T : Nat → Int32} {p : Nat} {q w l k e z : Int32} {X : Nat → Int32} (hw : tsW E0) (h60 : E0.1 ≤ 60) (hc : TPc S n T) (hp : p ≤ n) (hr : r < 24) (hI : itC S E0 N r s D) (hs : itOK s (r * 6))  : Sp g M_Xm_parseRow 7 157 0 0 [.ref 30, .ref 18] (HP (QC D (nI p) q w l k e z X)) (CG S E0 (xb T n N r 7 p 0 s) (fun (y : Nat × sq_T) h => ∃ (F : aw_S) (w l k e z : Int32) (X : Nat → Int32), itC S E0 N (r + 1) y.2 F ∧ itOK y.2 (r * 6 + 6) ∧ y.1 ≤ n ∧ h = HP (QC F (nI y.1) q w l k e z X))) := by
  refine Sp.of rfl (aw_le rfl) ?_
  refine aw_aload_n (aw_d q_Xm_parseRow 0 rfl) rfl rfl rfl ?_
  refine cV (aw_d q_Xm_parseRow 1 rfl) (sp_rowD hI hs hr) vL_Xm_176_Tb rfl rfl rfl rfl rfl rfl ⟨aw_le rfl, aw_le rfl⟩ (fun r1 h1 hp1 => ?_)
  obtain ⟨rfl, F1, hI1, rfl⟩ := hp1
  refine aw_istore_n (aw_d q_Xm_parseRow 2 rfl) rfl (aw_le rfl) rfl ?_
  refine aw_iconst (v := (-1)) (aw_d q_Xm_parseRow 3 rfl) (by decide) ?_
  refine aw_istore_n (aw_d q_Xm_parseRow 4 rfl) rfl (aw_le rfl) rfl ?_
  refine aw_iconst (v := nI 0) (aw_d q_Xm_parseRow 5 rfl) (by decide) ?_
  refine aw_istore (aw_d q_Xm_parseRow 6 rfl) (aw_le rfl) rfl ?_
  exact AW.to (lp_xb hw h60 hc hr 7 0 p 0 s F1 _ _ _ _ _ _ _ (by omega) hp (by decide) (by omega) hI1 hs rfl) rfl rfl rfl rfl
set_option maxRecDepth 20000 in
theorem lp_xs {g : aw_G} {S : aw_S} {E0 : ts_T} {n : Nat} {T : Nat → Int32} {q : Int32} (hw : tsW E0) (h60 : E0.1 ≤ 60) (hc : TPc S n T) {N : nm_T} {res : Except Nat (Nat × Nat × sq_T)} : ∀ (m i p r : Nat) (s : sq_T) (D : aw_S) (w l k e z : Int32) (X : Nat → Int32), m + i = 25 → p ≤ n → itC S E0 N r s D → itOK s (r * 6) → res = xs T n N m p r s → AW g M_Xm_parseRows (aw_rm 8 181 0 0) (aw_F g 0 0 (CG S E0 res (fun (y : Nat × Nat × sq_T) h => ∃ (F : aw_S) (w l k e z : Int32) (X : Nat → Int32), itC S E0 N y.2.1 y.2.2 F ∧ itOK y.2.2 (y.2.1 * 6) ∧ y.1 ≤ n ∧ h = HP (QC F (nI y.1) q w l k e z X)))) 2 [some (.ref 30), some (.ref 18), some (.int (nI i))] [] (HP (QC D (nI p) q w l k e z X)) 0 0 := by
  intro m
  induction m with
  | zero =>
    intro i p r s D w l k e z X hk hp hI hs he
    refine aw_iload_n (aw_d q_Xm_parseRows 2 rfl) rfl rfl ?_
    refine aw_bipush (v := nI 24) (aw_d q_Xm_parseRows 3 rfl) (by decide) ?_
    refine aw_icmpN_gt (tgt := 60) (aw_d q_Xm_parseRows 4 rfl) (by decide) (by (have hc2 := hc.2.1; omega)) (by (have hc2 := hc.2.1; omega)) (fun c5 => ?_) (fun c5 => by exfalso; (have hc2 := hc.2.1; omega))
    refine aw_aload_n (aw_d q_Xm_parseRows 30 rfl) rfl rfl rfl ?_
    refine aw_getf (aw_d q_Xm_parseRows 31 rfl) fL_Xm_9_Xm rfl rfl ?_
    refine cVr (aw_d q_Xm_parseRows 32 rfl) (sp_fail) vL_Xm_167_Sc rfl rfl rfl rfl rfl rfl ⟨aw_le rfl, aw_le rfl⟩ ?_
    exact aw_zret (aw_d q_Xm_parseRows 33 rfl) rfl (rfl) (by rw [he]; exact CG_er (itC_bs hI hw hs) CF_i)
  | succ m ih =>
    intro i p r s D w l k e z X hk hp hI hs he
    refine aw_iload_n (aw_d q_Xm_parseRows 2 rfl) rfl rfl ?_
    refine aw_bipush (v := nI 24) (aw_d q_Xm_parseRows 3 rfl) (by decide) ?_
    refine aw_icmpN_gt (tgt := 60) (aw_d q_Xm_parseRows 4 rfl) (by decide) (by (have hc2 := hc.2.1; omega)) (by (have hc2 := hc.2.1; omega)) (fun c5 => by exfalso; (have hc2 := hc.2.1; omega)) (fun c5 => ?_)
    refine aw_aload_n (aw_d q_Xm_parseRows 5 rfl) rfl rfl rfl ?_
    refine cVr (aw_d q_Xm_parseRows 6 rfl) (sp_isClosing (frC_TP hI.1 hc) hp) vL_Xm_161_Xm rfl rfl rfl rfl rfl rfl ⟨aw_le rfl, aw_le rfl⟩ ?_
    refine aw_ifB_eq (tgt := 17) (aw_d q_Xm_parseRows 7 rfl) (by decide) (fun c12 => ?_) (fun c12 => ?_)
    · refine aw_aload_n (aw_d q_Xm_parseRows 10 rfl) rfl rfl rfl ?_
      refine cVr (aw_d q_Xm_parseRows 11 rfl) (sp_Tb_hasRoomForRow_18 (nmC_T hI.2.1 hI.2.2.1.1 hI.2.2.1.2)) vL_Xm_170_Tb rfl rfl rfl rfl rfl rfl ⟨aw_le rfl, aw_le rfl⟩ ?_
      refine aw_ifB_ne (tgt := 32) (aw_d q_Xm_parseRows 12 rfl) (by decide) (fun c21 => ?_) (fun c21 => ?_)
      · refine aw_aload_n (aw_d q_Xm_parseRows 17 rfl) rfl rfl rfl ?_
        refine aw_getf (aw_d q_Xm_parseRows 18 rfl) fL_Xm_9_Xm rfl rfl ?_
        refine aw_ldcS (aw_d q_Xm_parseRows 19 rfl) tL_Xm_64 ?_
        refine cV (aw_d q_Xm_parseRows 20 rfl) (sp_must (frC_TP hI.1 hc) hp (j := 29) (by decide)) vL_Xm_134_Sc rfl rfl rfl rfl rfl rfl ⟨aw_le rfl, aw_le rfl⟩ (fun r38 h38 hp38 => ?_)
        cases hx38 : mu T (tx 29) p with
        | error u38 =>
          rw [hx38] at hp38
          obtain ⟨rfl, hf38⟩ := hp38
          refine aw_ifN_eq (tgt := 52) (aw_d q_Xm_parseRows 21 rfl) (by decide) (by (have hc2 := hc.2.1; omega)) (fun c41 => ?_) (fun c41 => by exfalso; (have hc2 := hc.2.1; omega))
          refine aw_iconst (v := nI 0) (aw_d q_Xm_parseRows 26 rfl) (by decide) ?_
          exact aw_zret (aw_d q_Xm_parseRows 27 rfl) rfl (rfl) (by rw [he]; simp only [xs, bd_ok, bd_er, if_true, if_false, eq_self, ↓reduceIte, hx38, c12, c21]; exact CG_er (itC_bs hI hw hs) hf38)
        | ok p38 =>
          rw [hx38] at hp38
          obtain ⟨rfl, rfl, hp_38⟩ := hp38
          refine aw_ifN_eq (tgt := 52) (aw_d q_Xm_parseRows 21 rfl) (by decide) (by (have hc2 := hc.2.1; omega)) (fun c41 => by exfalso; (have hc2 := hc.2.1; omega)) (fun c41 => ?_)
          refine aw_aload_n (aw_d q_Xm_parseRows 22 rfl) rfl rfl rfl ?_
          refine aw_aload_n (aw_d q_Xm_parseRows 23 rfl) rfl rfl rfl ?_
          refine cV (aw_d q_Xm_parseRows 24 rfl) (sp_xb hw h60 hc hp_38 (by omega) hI hs) vL_Xm_173_Xm rfl rfl rfl rfl rfl rfl ⟨aw_le rfl, aw_le rfl⟩ (fun r46 h46 hp46 => ?_)
          cases hx46 : xb T n N r 7 p38 0 s with
          | error u46 =>
            rw [hx46] at hp46
            obtain ⟨rfl, F46, hb46, hf46⟩ := hp46
            refine aw_ifN_ne (tgt := 54) (aw_d q_Xm_parseRows 25 rfl) (by decide) (by (have hc2 := hc.2.1; omega)) (fun c49 => by exfalso; (have hc2 := hc.2.1; omega)) (fun c49 => ?_)
            refine aw_iconst (v := nI 0) (aw_d q_Xm_parseRows 26 rfl) (by decide) ?_
            exact aw_zret (aw_d q_Xm_parseRows 27 rfl) rfl (rfl) (by rw [he]; simp only [xs, bd_ok, bd_er, if_true, if_false, eq_self, ↓reduceIte, hx38, hx46, c12, c21]; exact CG_er hb46 hf46)
          | ok y46 =>
            rw [hx46] at hp46
            obtain ⟨rfl, F46, w46, l46, k46, e46, z46, X46, hI46, hs46, hp_46, rfl⟩ := hp46
            have hs46 := itOK_mono hs46 (show r * 6 + 6 ≤ (r + 1) * 6 by omega)
            refine aw_ifN_ne (tgt := 54) (aw_d q_Xm_parseRows 25 rfl) (by decide) (by (have hc2 := hc.2.1; omega)) (fun c49 => ?_) (fun c49 => by exfalso; (have hc2 := hc.2.1; omega))
            refine aw_iinc (aw_d q_Xm_parseRows 28 rfl) rfl (ii1 _) (aw_le rfl) rfl ?_
            refine aw_goto (tgt := 2) (aw_d q_Xm_parseRows 29 rfl) (by decide) ?_
            exact AW.to (ih (i + 1) y46.1 (r + 1) y46.2 F46 _ _ _ _ _ _ (by omega) hp_46 hI46 hs46 (he.trans (by simp only [xs, c12, c21, hx38, hx46, bd_ok, ↓reduceIte]))) rfl rfl rfl rfl
      · refine aw_aload_n (aw_d q_Xm_parseRows 13 rfl) rfl rfl rfl ?_
        refine aw_getf (aw_d q_Xm_parseRows 14 rfl) fL_Xm_9_Xm rfl rfl ?_
        refine cVr (aw_d q_Xm_parseRows 15 rfl) (sp_fail) vL_Xm_167_Sc rfl rfl rfl rfl rfl rfl ⟨aw_le rfl, aw_le rfl⟩ ?_
        exact aw_zret (aw_d q_Xm_parseRows 16 rfl) rfl (rfl) (by rw [he, xs, if_neg c12, if_neg c21]; exact CG_er (itC_bs hI hw hs) CF_i)
    · refine aw_iconst (v := nI 1) (aw_d q_Xm_parseRows 8 rfl) (by decide) ?_
      exact aw_zret (aw_d q_Xm_parseRows 9 rfl) rfl (rfl) (by rw [he, xs, if_pos c12]; exact CG_ok ⟨_, _, _, _, _, _, _, hI, hs, hp, rfl⟩)
set_option maxRecDepth 20000 in
theorem sp_xs {g : aw_G} {S D : aw_S} {E0 : ts_T} {N : nm_T} {n : Nat} {T : Nat → Int32} {p : Nat} {q w l k e z : Int32} {X : Nat → Int32} (hw : tsW E0) (h60 : E0.1 ≤ 60) (hc : TPc S n T) (hp : p ≤ n) (hI : itC S E0 N 0 [] D)  : Sp g M_Xm_parseRows 8 181 0 0 [.ref 30, .ref 18] (HP (QC D (nI p) q w l k e z X)) (CG S E0 (xs T n N 25 p 0 []) (fun (y : Nat × Nat × sq_T) h => ∃ (F : aw_S) (w l k e z : Int32) (X : Nat → Int32), itC S E0 N y.2.1 y.2.2 F ∧ itOK y.2.2 (y.2.1 * 6) ∧ y.1 ≤ n ∧ h = HP (QC F (nI y.1) q w l k e z X))) := by
  refine Sp.of rfl (aw_le rfl) ?_
  refine aw_iconst (v := nI 0) (aw_d q_Xm_parseRows 0 rfl) (by decide) ?_
  refine aw_istore_n (aw_d q_Xm_parseRows 1 rfl) rfl (aw_le rfl) rfl ?_
  exact lp_xs hw h60 hc 25 0 p 0 [] D _ _ _ _ _ _ (by omega) hp hI itOK_nil rfl
set_option maxRecDepth 20000 in
theorem sp_rdX {g : aw_G} {S D : aw_S} {E0 : ts_T} {N : nm_T} {n : Nat} {T : Nat → Int32} {q w l k e z : Int32} {X : Nat → Int32} (hw : tsW E0) (h60 : E0.1 ≤ 60) (hc : TPc S n T) (hI : itC S E0 N 0 [] D)  : Sp g M_Xm_parse 9 203 0 0 [.ref 30, .ref 18] (HP (QC D (nI 0) q w l k e z X)) (CG S E0 (rdX T n N) (fun (y : rd_T) h => ∃ (F : aw_S) (p w l k e z : Int32) (X : Nat → Int32), itC S E0 y.1 y.2.1 y.2.2 F ∧ itOK y.2.2 (y.2.1 * 6) ∧ h = HP (QC F p q w l k e z X))) := by
  refine Sp.of rfl (aw_le rfl) ?_
  refine aw_aload_n (aw_d q_Xm_parse 0 rfl) rfl rfl rfl ?_
  refine aw_getf (aw_d q_Xm_parse 1 rfl) fL_Xm_9_Xm rfl rfl ?_
  refine aw_ldcS (aw_d q_Xm_parse 2 rfl) tL_Xm_37 ?_
  refine cV (aw_d q_Xm_parse 3 rfl) (sp_must (frC_TP hI.1 hc) (Nat.zero_le n) (j := 25) (by decide)) vL_Xm_134_Sc rfl rfl rfl rfl rfl rfl ⟨aw_le rfl, aw_le rfl⟩ (fun r6 h6 hp6 => ?_)
  cases hx6 : mu T (tx 25) 0 with
  | error u6 =>
    rw [hx6] at hp6
    obtain ⟨rfl, hf6⟩ := hp6
    refine aw_ifN_eq (tgt := 66) (aw_d q_Xm_parse 4 rfl) (by decide) (by omega) (fun c9 => ?_) (fun c9 => by exfalso; omega)
    refine aw_iconst (v := nI 0) (aw_d q_Xm_parse 29 rfl) (by decide) ?_
    exact aw_zret (aw_d q_Xm_parse 30 rfl) rfl (rfl) (by simp only [rdX, bd_ok, bd_er, if_true, if_false, eq_self, ↓reduceIte, hx6]; exact CG_er (itC_bs hI hw (itOK_nil (k := 0))) hf6)
  | ok p6 =>
    rw [hx6] at hp6
    obtain ⟨rfl, rfl, hp_6⟩ := hp6
    refine aw_ifN_eq (tgt := 66) (aw_d q_Xm_parse 4 rfl) (by decide) (by omega) (fun c9 => by exfalso; omega) (fun c9 => ?_)
    refine aw_aload_n (aw_d q_Xm_parse 5 rfl) rfl rfl rfl ?_
    refine aw_aload_n (aw_d q_Xm_parse 6 rfl) rfl rfl rfl ?_
    refine cV (aw_d q_Xm_parse 7 rfl) (sp_xk hw h60 hc hp_6 hI) vL_Xm_148_Xm rfl rfl rfl rfl rfl rfl ⟨aw_le rfl, aw_le rfl⟩ (fun r14 h14 hp14 => ?_)
    cases hx14 : xk T n 7 p6 N with
    | error u14 =>
      rw [hx14] at hp14
      obtain ⟨rfl, F14, hb14, hf14⟩ := hp14
      refine aw_ifN_eq (tgt := 66) (aw_d q_Xm_parse 8 rfl) (by decide) (by omega) (fun c17 => ?_) (fun c17 => by exfalso; omega)
      refine aw_iconst (v := nI 0) (aw_d q_Xm_parse 29 rfl) (by decide) ?_
      exact aw_zret (aw_d q_Xm_parse 30 rfl) rfl (rfl) (by simp only [rdX, bd_ok, bd_er, if_true, if_false, eq_self, ↓reduceIte, hx6, hx14]; exact CG_er hb14 hf14)
    | ok y14 =>
      rw [hx14] at hp14
      obtain ⟨rfl, F14, w14, l14, k14, e14, z14, X14, hI14, hp_14, rfl⟩ := hp14
      refine aw_ifN_eq (tgt := 66) (aw_d q_Xm_parse 8 rfl) (by decide) (by omega) (fun c17 => by exfalso; omega) (fun c17 => ?_)
      refine aw_aload_n (aw_d q_Xm_parse 9 rfl) rfl rfl rfl ?_
      refine aw_getf (aw_d q_Xm_parse 10 rfl) fL_Xm_9_Xm rfl rfl ?_
      refine aw_ldcS (aw_d q_Xm_parse 11 rfl) tL_Xm_53 ?_
      refine cV (aw_d q_Xm_parse 12 rfl) (sp_must (frC_TP hI14.1 hc) hp_14 (j := 28) (by decide)) vL_Xm_134_Sc rfl rfl rfl rfl rfl rfl ⟨aw_le rfl, aw_le rfl⟩ (fun r26 h26 hp26 => ?_)
      cases hx26 : mu T (tx 28) y14.1 with
      | error u26 =>
        rw [hx26] at hp26
        obtain ⟨rfl, hf26⟩ := hp26
        refine aw_ifN_eq (tgt := 66) (aw_d q_Xm_parse 13 rfl) (by decide) (by omega) (fun c29 => ?_) (fun c29 => by exfalso; omega)
        refine aw_iconst (v := nI 0) (aw_d q_Xm_parse 29 rfl) (by decide) ?_
        exact aw_zret (aw_d q_Xm_parse 30 rfl) rfl (rfl) (by simp only [rdX, bd_ok, bd_er, if_true, if_false, eq_self, ↓reduceIte, hx6, hx14, hx26]; exact CG_er (itC_bs hI14 hw (itOK_nil (k := 0))) hf26)
      | ok p26 =>
        rw [hx26] at hp26
        obtain ⟨rfl, rfl, hp_26⟩ := hp26
        refine aw_ifN_eq (tgt := 66) (aw_d q_Xm_parse 13 rfl) (by decide) (by omega) (fun c29 => by exfalso; omega) (fun c29 => ?_)
        refine aw_aload_n (aw_d q_Xm_parse 14 rfl) rfl rfl rfl ?_
        refine aw_aload_n (aw_d q_Xm_parse 15 rfl) rfl rfl rfl ?_
        refine cV (aw_d q_Xm_parse 16 rfl) (sp_xs hw h60 hc hp_26 hI14) vL_Xm_152_Xm rfl rfl rfl rfl rfl rfl ⟨aw_le rfl, aw_le rfl⟩ (fun r34 h34 hp34 => ?_)
        cases hx34 : xs T n y14.2 25 p26 0 [] with
        | error u34 =>
          rw [hx34] at hp34
          obtain ⟨rfl, F34, hb34, hf34⟩ := hp34
          refine aw_ifN_eq (tgt := 66) (aw_d q_Xm_parse 17 rfl) (by decide) (by omega) (fun c37 => ?_) (fun c37 => by exfalso; omega)
          refine aw_iconst (v := nI 0) (aw_d q_Xm_parse 29 rfl) (by decide) ?_
          exact aw_zret (aw_d q_Xm_parse 30 rfl) rfl (rfl) (by simp only [rdX, bd_ok, bd_er, if_true, if_false, eq_self, ↓reduceIte, hx6, hx14, hx26, hx34]; exact CG_er hb34 hf34)
        | ok y34 =>
          rw [hx34] at hp34
          obtain ⟨rfl, F34, w34, l34, k34, e34, z34, X34, hI34, hs34, hp_34, rfl⟩ := hp34
          refine aw_ifN_eq (tgt := 66) (aw_d q_Xm_parse 17 rfl) (by decide) (by omega) (fun c37 => by exfalso; omega) (fun c37 => ?_)
          refine aw_aload_n (aw_d q_Xm_parse 18 rfl) rfl rfl rfl ?_
          refine aw_getf (aw_d q_Xm_parse 19 rfl) fL_Xm_9_Xm rfl rfl ?_
          refine aw_ldcS (aw_d q_Xm_parse 20 rfl) tL_Xm_62 ?_
          refine cV (aw_d q_Xm_parse 21 rfl) (sp_must (frC_TP hI34.1 hc) hp_34 (j := 46) (by decide)) vL_Xm_134_Sc rfl rfl rfl rfl rfl rfl ⟨aw_le rfl, aw_le rfl⟩ (fun r46 h46 hp46 => ?_)
          cases hx46 : mu T (tx 46) y34.1 with
          | error u46 =>
            rw [hx46] at hp46
            obtain ⟨rfl, hf46⟩ := hp46
            refine aw_ifN_eq (tgt := 66) (aw_d q_Xm_parse 22 rfl) (by decide) (by omega) (fun c49 => ?_) (fun c49 => by exfalso; omega)
            refine aw_iconst (v := nI 0) (aw_d q_Xm_parse 29 rfl) (by decide) ?_
            exact aw_zret (aw_d q_Xm_parse 30 rfl) rfl (rfl) (by simp only [rdX, bd_ok, bd_er, if_true, if_false, eq_self, ↓reduceIte, hx6, hx14, hx26, hx34, hx46]; exact CG_er (itC_bs hI34 hw hs34) hf46)
          | ok p46 =>
            rw [hx46] at hp46
            obtain ⟨rfl, rfl, hp_46⟩ := hp46
            refine aw_ifN_eq (tgt := 66) (aw_d q_Xm_parse 22 rfl) (by decide) (by omega) (fun c49 => by exfalso; omega) (fun c49 => ?_)
            refine aw_aload_n (aw_d q_Xm_parse 23 rfl) rfl rfl rfl ?_
            refine aw_getf (aw_d q_Xm_parse 24 rfl) fL_Xm_9_Xm rfl rfl ?_
            refine cV (aw_d q_Xm_parse 25 rfl) (sp_mustEnd (frC_TP hI34.1 hc) hp_46) vL_Xm_144_Sc rfl rfl rfl rfl rfl rfl ⟨aw_le rfl, aw_le rfl⟩ (fun r56 h56 hp56 => ?_)
            cases hx56 : me n p46 with
            | error u56 =>
              rw [hx56] at hp56
              obtain ⟨rfl, hf56⟩ := hp56
              refine aw_ifN_eq (tgt := 66) (aw_d q_Xm_parse 26 rfl) (by decide) (by omega) (fun c59 => ?_) (fun c59 => by exfalso; omega)
              refine aw_iconst (v := nI 0) (aw_d q_Xm_parse 29 rfl) (by decide) ?_
              exact aw_zret (aw_d q_Xm_parse 30 rfl) rfl (rfl) (by simp only [rdX, bd_ok, bd_er, if_true, if_false, eq_self, ↓reduceIte, hx6, hx14, hx26, hx34, hx46, hx56]; exact CG_er (itC_bs hI34 hw hs34) hf56)
            | ok p56 =>
              rw [hx56] at hp56
              obtain ⟨rfl, rfl, hp_56⟩ := hp56
              refine aw_ifN_eq (tgt := 66) (aw_d q_Xm_parse 26 rfl) (by decide) (by omega) (fun c59 => by exfalso; omega) (fun c59 => ?_)
              refine aw_iconst (v := nI 1) (aw_d q_Xm_parse 27 rfl) (by decide) ?_
              refine aw_goto (tgt := 67) (aw_d q_Xm_parse 28 rfl) (by decide) ?_
              exact aw_zret (aw_d q_Xm_parse 30 rfl) rfl (rfl) (by simp only [rdX, bd_ok, bd_er, if_true, if_false, eq_self, ↓reduceIte, hx6, hx14, hx26, hx34, hx46, hx56]; exact CG_ok ⟨_, _, _, _, _, _, _, _, hI34, hs34, rfl⟩)
