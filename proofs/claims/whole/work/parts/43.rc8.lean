theorem li_split {S : aw_S} {n : Nat} {q w l : Int32} {X : Nat → Int32} {res : Except Nat (Nat × Option (Nat × Nat × List Int32))} {r : Option Value} {h : aw_hp} (hh : CE S res (fun (y : Nat × Option (Nat × Nat × List Int32)) h => y.1 ≤ n ∧ ((y.2 = none ∧ h = HP (QC S (nI y.1) q w l (-1) (nI 0) (nI 0) X)) ∨ ∃ (w l : Int32) (kd ex : Nat) (M : List Int32), y.2 = some (kd, ex, M) ∧ h = HP (QC S (nI y.1) q w l (nI kd) (nI ex) (nI M.length) (XA M X)) ∧ (kd ≤ 4 ∧ ex < 676 ∧ (kd = 4 → ex < 4) ∧ (kd < 3 → ex = 0)) ∧ M.length ≤ 20 ∧ M.all pTx = true ∧ okL kd M = true)) r h) : (∃ u, res = .error u ∧ r = some (.int (nI 0)) ∧ CF S u h) ∨ (∃ pp, res = .ok (pp, none) ∧ r = some (.int (nI 1)) ∧ pp ≤ n ∧ h = HP (QC S (nI pp) q w l (-1) (nI 0) (nI 0) X)) ∨ ∃ (pp kd ex : Nat) (M : List Int32) (w l : Int32), res = .ok (pp, some (kd, ex, M)) ∧ r = some (.int (nI 1)) ∧ pp ≤ n ∧ h = HP (QC S (nI pp) q w l (nI kd) (nI ex) (nI M.length) (XA M X)) ∧ (kd ≤ 4 ∧ ex < 676 ∧ (kd = 4 → ex < 4) ∧ (kd < 3 → ex = 0)) ∧ M.length ≤ 20 ∧ M.all pTx = true ∧ okL kd M = true := by
  cases res with
  | error u => exact Or.inl ⟨u, rfl, hh.1, hh.2⟩
  | ok y =>
    obtain ⟨pp, o⟩ := y
    obtain ⟨h1, h2, h3⟩ := hh
    rcases h3 with ⟨h3, h4⟩ | ⟨w1, l1, kd, ex, M, h3, h4, h5⟩
    · cases h3; exact Or.inr (Or.inl ⟨pp, rfl, h1, h2, h4⟩)
    · cases h3; exact Or.inr (Or.inr ⟨pp, kd, ex, M, w1, l1, rfl, h1, h2, h4, h5⟩)
set_option maxRecDepth 20000 in
theorem lp_lk_31 {g : aw_G} {S : aw_S} {E0 : ts_T} {n : Nat} {T : Nat → Int32} {q : Int32} (hw : tsW E0) (h60 : E0.1 ≤ 60) (hc : TPc S n T) {res : Except Nat (Nat × nm_T)} : ∀ (m i p : Nat) (N : nm_T) (D : aw_S) (w l k e z : Int32) (X : Nat → Int32), m + i = 7 → p ≤ n → itC S E0 N 0 [] D → res = lk true T n m p N → AW g M_Ln_parseNames (aw_rm 5 107 0 0) (aw_F g 0 0 (CG S E0 res (fun (y : Nat × nm_T) h => ∃ (F : aw_S) (w l k e z : Int32) (X : Nat → Int32), itC S E0 y.2 0 [] F ∧ y.1 ≤ n ∧ h = HP (QC F (nI y.1) q w l k e z X)))) 42 [some (.ref 31), some (.ref 18), some (.int (nI i))] [] (HP (QC D (nI p) q w l k e z X)) 0 0 := by
  intro m
  induction m with
  | zero =>
    intro i p N D w l k e z X hk hp hI he
    refine aw_iload_n (aw_d q_Ln_parseNames 20 rfl) rfl rfl ?_
    refine aw_bipush (v := nI 6) (aw_d q_Ln_parseNames 21 rfl) (by decide) ?_
    refine aw_icmpN_gt (tgt := 107) (aw_d q_Ln_parseNames 22 rfl) (by decide) (by (have hc2 := hc.2.1; omega)) (by (have hc2 := hc.2.1; omega)) (fun c45 => ?_) (fun c45 => by exfalso; (have hc2 := hc.2.1; omega))
    refine aw_aload_n (aw_d q_Ln_parseNames 50 rfl) rfl rfl rfl ?_
    refine aw_getf (aw_d q_Ln_parseNames 51 rfl) fL_Ln_9_Cm rfl rfl ?_
    refine cVr (aw_d q_Ln_parseNames 52 rfl) (sp_fail) vL_Ln_81_Sc rfl rfl rfl rfl rfl rfl ⟨aw_le rfl, aw_le rfl⟩ ?_
    exact aw_zret (aw_d q_Ln_parseNames 53 rfl) rfl (rfl) (by rw [he]; exact CG_er (itC_bs hI hw (itOK_nil (k := 0))) CF_i)
  | succ m ih =>
    intro i p N D w l k e z X hk hp hI he
    refine aw_iload_n (aw_d q_Ln_parseNames 20 rfl) rfl rfl ?_
    refine aw_bipush (v := nI 6) (aw_d q_Ln_parseNames 21 rfl) (by decide) ?_
    refine aw_icmpN_gt (tgt := 107) (aw_d q_Ln_parseNames 22 rfl) (by decide) (by (have hc2 := hc.2.1; omega)) (by (have hc2 := hc.2.1; omega)) (fun c45 => by exfalso; (have hc2 := hc.2.1; omega)) (fun c45 => ?_)
    refine aw_aload_n (aw_d q_Ln_parseNames 23 rfl) rfl rfl rfl ?_
    refine aw_getf (aw_d q_Ln_parseNames 24 rfl) fL_Ln_9_Cm rfl rfl ?_
    refine aw_aload_n (aw_d q_Ln_parseNames 25 rfl) rfl rfl rfl ?_
    refine aw_getf (aw_d q_Ln_parseNames 26 rfl) fL_Ln_23_Cm rfl rfl ?_
    refine cV (aw_d q_Ln_parseNames 27 rfl) (sp_must (frC_TP hI.1 hc) hp (j := 0) (by decide)) vL_Ln_100_Sc rfl rfl rfl rfl rfl rfl ⟨aw_le rfl, aw_le rfl⟩ (fun r56 h56 hp56 => ?_)
    cases hx56 : mu T (tx 0) p with
    | error u56 =>
      rw [hx56] at hp56
      obtain ⟨rfl, hf56⟩ := hp56
      refine aw_ifN_eq (tgt := 73) (aw_d q_Ln_parseNames 28 rfl) (by decide) (by (have hc2 := hc.2.1; omega)) (fun c59 => ?_) (fun c59 => by exfalso; (have hc2 := hc.2.1; omega))
      refine aw_iconst (v := nI 0) (aw_d q_Ln_parseNames 34 rfl) (by decide) ?_
      exact aw_zret (aw_d q_Ln_parseNames 35 rfl) rfl (rfl) (by rw [he]; simp only [lk, bd_ok, bd_er, if_true, if_false, eq_self, ↓reduceIte, hx56, show w_le true = tx 1 from rfl, show w_lm true = tx 0 from rfl]; exact CG_er (itC_bs hI hw (itOK_nil (k := 0))) hf56)
    | ok p56 =>
      rw [hx56] at hp56
      obtain ⟨rfl, rfl, hp_56⟩ := hp56
      refine aw_ifN_eq (tgt := 73) (aw_d q_Ln_parseNames 28 rfl) (by decide) (by (have hc2 := hc.2.1; omega)) (fun c59 => by exfalso; (have hc2 := hc.2.1; omega)) (fun c59 => ?_)
      refine aw_aload_n (aw_d q_Ln_parseNames 29 rfl) rfl rfl rfl ?_
      refine aw_getf (aw_d q_Ln_parseNames 30 rfl) fL_Ln_9_Cm rfl rfl ?_
      refine aw_aload_n (aw_d q_Ln_parseNames 31 rfl) rfl rfl rfl ?_
      refine cV (aw_d q_Ln_parseNames 32 rfl) (sp_newName hI hc hw hp_56) vL_Ln_104_Sc rfl rfl rfl rfl rfl rfl ⟨aw_le rfl, aw_le rfl⟩ (fun r67 h67 hp67 => ?_)
      cases hx67 : nn T n N p56 with
      | error u67 =>
        rw [hx67] at hp67
        obtain ⟨rfl, F67, hb67, hf67⟩ := hp67
        refine aw_ifN_ne (tgt := 75) (aw_d q_Ln_parseNames 33 rfl) (by decide) (by (have hc2 := hc.2.1; omega)) (fun c70 => by exfalso; (have hc2 := hc.2.1; omega)) (fun c70 => ?_)
        refine aw_iconst (v := nI 0) (aw_d q_Ln_parseNames 34 rfl) (by decide) ?_
        exact aw_zret (aw_d q_Ln_parseNames 35 rfl) rfl (rfl) (by rw [he]; simp only [lk, bd_ok, bd_er, if_true, if_false, eq_self, ↓reduceIte, hx56, hx67, show w_le true = tx 1 from rfl, show w_lm true = tx 0 from rfl]; exact CG_er hb67 hf67)
      | ok y67 =>
        rw [hx67] at hp67
        obtain ⟨rfl, F67, w67, l67, hI67, hp_67, rfl⟩ := hp67
        refine aw_ifN_ne (tgt := 75) (aw_d q_Ln_parseNames 33 rfl) (by decide) (by (have hc2 := hc.2.1; omega)) (fun c70 => ?_) (fun c70 => by exfalso; (have hc2 := hc.2.1; omega))
        refine aw_aload_n (aw_d q_Ln_parseNames 36 rfl) rfl rfl rfl ?_
        refine aw_getf (aw_d q_Ln_parseNames 37 rfl) fL_Ln_9_Cm rfl rfl ?_
        refine aw_aload_n (aw_d q_Ln_parseNames 38 rfl) rfl rfl rfl ?_
        refine aw_getf (aw_d q_Ln_parseNames 39 rfl) fL_Ln_27_Cm rfl rfl ?_
        refine cV (aw_d q_Ln_parseNames 40 rfl) (sp_took (frC_TP hI67.1 hc) hp_67 (B := (w_ls true).toInt) rfl) vL_Ln_107_Sc rfl rfl rfl rfl rfl rfl ⟨aw_le rfl, aw_le rfl⟩ (fun r83 h83 hp83 => ?_)
        cases Decidable.em ((T y67.1).toInt = (w_ls true).toInt) with
        | inl hx83 =>
          rw [if_pos hx83, if_pos hx83] at hp83
          obtain ⟨rfl, rfl⟩ := hp83
          have hpn83 : y67.1 + 1 ≤ n := T_lt (frC_TP hI67.1 hc).2.2.2.1 (p := y67.1) (by have hq : (T y67.1).toInt = 44 := hx83; omega)
          refine aw_ifN_ne (tgt := 101) (aw_d q_Ln_parseNames 41 rfl) (by decide) (by (have hc2 := hc.2.1; omega)) (fun c86 => ?_) (fun c86 => by exfalso; (have hc2 := hc.2.1; omega))
          refine aw_iinc (aw_d q_Ln_parseNames 48 rfl) rfl (ii1 _) (aw_le rfl) rfl ?_
          refine aw_goto (tgt := 42) (aw_d q_Ln_parseNames 49 rfl) (by decide) ?_
          exact AW.to (ih (i + 1) (y67.1 + 1) y67.2 F67 _ _ _ _ _ _ (by omega) hpn83 hI67 (he.trans (by simp only [lk, show w_le true = tx 1 from rfl, show w_lm true = tx 0 from rfl, hx56, hx67, hx83, bd_ok, ↓reduceIte]))) rfl rfl rfl rfl
        | inr hx83 =>
          rw [if_neg hx83, if_neg hx83] at hp83
          obtain ⟨rfl, rfl⟩ := hp83
          refine aw_ifN_ne (tgt := 101) (aw_d q_Ln_parseNames 41 rfl) (by decide) (by (have hc2 := hc.2.1; omega)) (fun c86 => by exfalso; (have hc2 := hc.2.1; omega)) (fun c86 => ?_)
          refine aw_aload_n (aw_d q_Ln_parseNames 42 rfl) rfl rfl rfl ?_
          refine aw_getf (aw_d q_Ln_parseNames 43 rfl) fL_Ln_9_Cm rfl rfl ?_
          refine aw_aload_n (aw_d q_Ln_parseNames 44 rfl) rfl rfl rfl ?_
          refine aw_getf (aw_d q_Ln_parseNames 45 rfl) fL_Ln_31_Cm rfl rfl ?_
          refine cV (aw_d q_Ln_parseNames 46 rfl) (sp_must (frC_TP hI67.1 hc) hp_67 (j := 1) (by decide)) vL_Ln_100_Sc rfl rfl rfl rfl rfl rfl ⟨aw_le rfl, aw_le rfl⟩ (fun r97 h97 hp97 => ?_)
          cases hx97 : mu T (tx 1) y67.1 with
          | error u97 =>
            rw [hx97] at hp97
            obtain ⟨rfl, hf97⟩ := hp97
            exact aw_zret (aw_d q_Ln_parseNames 47 rfl) rfl (rfl) (by rw [he]; simp only [lk, bd_ok, bd_er, if_true, if_false, eq_self, ↓reduceIte, hx56, hx67, hx83, hx97, show w_le true = tx 1 from rfl, show w_lm true = tx 0 from rfl]; exact CG_er (itC_bs hI67 hw (itOK_nil (k := 0))) hf97)
          | ok p97 =>
            rw [hx97] at hp97
            obtain ⟨rfl, rfl, hp_97⟩ := hp97
            exact aw_zret (aw_d q_Ln_parseNames 47 rfl) rfl (rfl) (by rw [he]; simp only [lk, bd_ok, bd_er, if_true, if_false, eq_self, ↓reduceIte, hx56, hx67, hx83, hx97, show w_le true = tx 1 from rfl, show w_lm true = tx 0 from rfl]; exact CG_ok ⟨_, _, _, _, _, _, _, hI67, hp_97, rfl⟩)
set_option maxRecDepth 20000 in
theorem sp_ln_31 {g : aw_G} {S D : aw_S} {E0 : ts_T} {N : nm_T} {n : Nat} {T : Nat → Int32} {p : Nat} {q w l k e z : Int32} {X : Nat → Int32} (hw : tsW E0) (h60 : E0.1 ≤ 60) (hc : TPc S n T) (hp : p ≤ n) (hI : itC S E0 N 0 [] D)  : Sp g M_Ln_parseNames 5 107 0 0 [.ref 31, .ref 18] (HP (QC D (nI p) q w l k e z X)) (CG S E0 (ln true T n N p) (fun (y : Nat × nm_T) h => ∃ (F : aw_S) (w l k e z : Int32) (X : Nat → Int32), itC S E0 y.2 0 [] F ∧ y.1 ≤ n ∧ h = HP (QC F (nI y.1) q w l k e z X))) := by
  refine Sp.of rfl (aw_le rfl) ?_
  refine aw_aload_n (aw_d q_Ln_parseNames 0 rfl) rfl rfl rfl ?_
  refine aw_getf (aw_d q_Ln_parseNames 1 rfl) fL_Ln_31_Cm rfl rfl ?_
  refine cT (aw_d q_Ln_parseNames 2 rfl) (by decide) (sp_JS_isEmpty (by decide)) vL_Ln_87_JS rfl rfl rfl rfl ⟨aw_le rfl, aw_le rfl⟩ ?_
  refine aw_ifB_ne (tgt := 40) (aw_d q_Ln_parseNames 3 rfl) (by decide) (fun c7 => by exact absurd c7 (by decide)) (fun c7 => ?_)
  refine aw_aload_n (aw_d q_Ln_parseNames 4 rfl) rfl rfl rfl ?_
  refine aw_getf (aw_d q_Ln_parseNames 5 rfl) fL_Ln_9_Cm rfl rfl ?_
  refine cVr (aw_d q_Ln_parseNames 6 rfl) (sp_next (frC_TP hI.1 hc) hp) vL_Ln_92_Sc rfl rfl rfl rfl rfl rfl ⟨aw_le rfl, aw_le rfl⟩ ?_
  refine aw_aload_n (aw_d q_Ln_parseNames 7 rfl) rfl rfl rfl ?_
  refine aw_getf (aw_d q_Ln_parseNames 8 rfl) fL_Ln_31_Cm rfl rfl ?_
  refine aw_iconst (v := nI 0) (aw_d q_Ln_parseNames 9 rfl) (by decide) ?_
  refine cT (aw_d q_Ln_parseNames 10 rfl) (by decide) (sp_JS_charAt (by decide) (by decide)) vL_Ln_96_JS rfl rfl rfl rfl ⟨aw_le rfl, aw_le rfl⟩ ?_
  refine aw_icmpZ_ne (tgt := 40) (aw_d q_Ln_parseNames 11 rfl) (by decide) (fun c25 => ?_) (fun c25 => ?_)
  · refine aw_iconst (v := nI 0) (aw_d q_Ln_parseNames 18 rfl) (by decide) ?_
    refine aw_istore_n (aw_d q_Ln_parseNames 19 rfl) rfl (aw_le rfl) rfl ?_
    rw [ln, if_neg (show ¬ (T p).toInt = (if true = true then 13 else 10) by have h : (aw_ch 1 0).toInt = 13 := (by decide); show ¬ (T p).toInt = 13; omega)]
    exact AW.to (lp_lk_31 hw h60 hc 7 0 p N D _ _ _ _ _ _ (by omega) hp hI rfl) rfl rfl rfl rfl
  · refine aw_aload_n (aw_d q_Ln_parseNames 12 rfl) rfl rfl rfl ?_
    refine aw_getf (aw_d q_Ln_parseNames 13 rfl) fL_Ln_9_Cm rfl rfl ?_
    refine aw_aload_n (aw_d q_Ln_parseNames 14 rfl) rfl rfl rfl ?_
    refine aw_getf (aw_d q_Ln_parseNames 15 rfl) fL_Ln_31_Cm rfl rfl ?_
    refine cV (aw_d q_Ln_parseNames 16 rfl) (sp_must (frC_TP hI.1 hc) hp (j := 1) (by decide)) vL_Ln_100_Sc rfl rfl rfl rfl rfl rfl ⟨aw_le rfl, aw_le rfl⟩ (fun r36 h36 hp36 => ?_)
    cases hx36 : mu T (tx 1) p with
    | error u36 =>
      rw [hx36] at hp36
      obtain ⟨rfl, hf36⟩ := hp36
      exact aw_zret (aw_d q_Ln_parseNames 17 rfl) rfl (rfl) (by rw [ln, if_pos (show (T p).toInt = (if true = true then 13 else 10) by have h : (aw_ch 1 0).toInt = 13 := (by decide); show (T p).toInt = 13; omega), show w_le true = tx 1 from rfl, hx36, bd_er]; exact CG_er (itC_bs hI hw (itOK_nil (k := 0))) hf36)
    | ok p36 =>
      rw [hx36] at hp36
      obtain ⟨rfl, rfl, hp_36⟩ := hp36
      exact aw_zret (aw_d q_Ln_parseNames 17 rfl) rfl (rfl) (by rw [ln, if_pos (show (T p).toInt = (if true = true then 13 else 10) by have h : (aw_ch 1 0).toInt = 13 := (by decide); show (T p).toInt = 13; omega), show w_le true = tx 1 from rfl, hx36, bd_ok]; exact CG_ok ⟨_, _, _, _, _, _, _, hI, hp_36, rfl⟩)
set_option maxRecDepth 20000 in
theorem lp_lb_31 {g : aw_G} {S : aw_S} {E0 : ts_T} {n : Nat} {T : Nat → Int32} {q : Int32} (hw : tsW E0) (h60 : E0.1 ≤ 60) (hc : TPc S n T) {N : nm_T} {r : Nat} (hr : r < 24) {res : Except Nat (Nat × sq_T)} : ∀ (m v p : Nat) (s : sq_T) (D : aw_S) (w l k e z : Int32) (X : Nat → Int32), m + v = N.1 → p ≤ n → itC S E0 N (r + 1) s D → itOK s (r * 6 + v) → res = lb true T n r m v p s → AW g M_Ln_parseRow (aw_rm 8 177 0 0) (aw_F g 0 0 (CG S E0 res (fun (y : Nat × sq_T) h => ∃ (F : aw_S) (w l k e z : Int32) (X : Nat → Int32), itC S E0 N (r + 1) y.2 F ∧ itOK y.2 (r * 6 + 6) ∧ y.1 ≤ n ∧ h = HP (QC F (nI y.1) q w l k e z X)))) 7 [some (.ref 31), some (.ref 18), some (.int (nI r)), some (.int (nI v))] [] (HP (QC D (nI p) q w l k e z X)) 0 0 := by
  intro m
  induction m with
  | zero =>
    intro v p s D w l k e z X hk hp hI hs he
    refine aw_iload_n (aw_d q_Ln_parseRow 5 rfl) rfl rfl ?_
    refine aw_aload_n (aw_d q_Ln_parseRow 6 rfl) rfl rfl rfl ?_
    refine aw_getf (v := .int (nI (N.1))) (aw_d q_Ln_parseRow 7 rfl) fL_Ln_34_Tb rfl (gk hI.2.1.1) ?_
    refine aw_icmpN_ge (tgt := 109) (aw_d q_Ln_parseRow 8 rfl) (by decide) (by (have hc2 := hc.2.1; have h6 := hI.2.1.2.1; omega)) (by (have hc2 := hc.2.1; have h6 := hI.2.1.2.1; omega)) (fun c12 => ?_) (fun c12 => by exfalso; (have hc2 := hc.2.1; have h6 := hI.2.1.2.1; omega))
    refine aw_aload_n (aw_d q_Ln_parseRow 53 rfl) rfl rfl rfl ?_
    refine aw_getf (aw_d q_Ln_parseRow 54 rfl) fL_Ln_9_Cm rfl rfl ?_
    refine aw_aload_n (aw_d q_Ln_parseRow 55 rfl) rfl rfl rfl ?_
    refine aw_getf (aw_d q_Ln_parseRow 56 rfl) fL_Ln_31_Cm rfl rfl ?_
    refine cV (aw_d q_Ln_parseRow 57 rfl) (sp_must (frC_TP hI.1 hc) hp (j := 1) (by decide)) vL_Ln_100_Sc rfl rfl rfl rfl rfl rfl ⟨aw_le rfl, aw_le rfl⟩ (fun r117 h117 hp117 => ?_)
    cases hx117 : mu T (tx 1) p with
    | error u117 =>
      rw [hx117] at hp117
      obtain ⟨rfl, hf117⟩ := hp117
      exact aw_zret (aw_d q_Ln_parseRow 58 rfl) rfl (rfl) (by rw [he]; simp only [lb, bd_ok, bd_er, if_true, if_false, eq_self, ↓reduceIte, show w_le true = tx 1 from rfl, show w_lm true = tx 0 from rfl, hx117]; exact CG_er (itC_bs hI hw hs) hf117)
    | ok p117 =>
      rw [hx117] at hp117
      obtain ⟨rfl, rfl, hp_117⟩ := hp117
      exact aw_zret (aw_d q_Ln_parseRow 58 rfl) rfl (rfl) (by rw [he]; simp only [lb, bd_ok, bd_er, if_true, if_false, eq_self, ↓reduceIte, show w_le true = tx 1 from rfl, show w_lm true = tx 0 from rfl, hx117]; exact CG_ok ⟨_, _, _, _, _, _, _, hI, itOK_mono hs (by have := hI.2.1.2.1; omega), hp_117, rfl⟩)
  | succ m ih =>
    intro v p s D w l k e z X hk hp hI hs he
    refine aw_iload_n (aw_d q_Ln_parseRow 5 rfl) rfl rfl ?_
    refine aw_aload_n (aw_d q_Ln_parseRow 6 rfl) rfl rfl rfl ?_
    refine aw_getf (v := .int (nI (N.1))) (aw_d q_Ln_parseRow 7 rfl) fL_Ln_34_Tb rfl (gk hI.2.1.1) ?_
    refine aw_icmpN_ge (tgt := 109) (aw_d q_Ln_parseRow 8 rfl) (by decide) (by (have hc2 := hc.2.1; have h6 := hI.2.1.2.1; omega)) (by (have hc2 := hc.2.1; have h6 := hI.2.1.2.1; omega)) (fun c12 => by exfalso; (have hc2 := hc.2.1; have h6 := hI.2.1.2.1; omega)) (fun c12 => ?_)
    refine aw_iload_n (aw_d q_Ln_parseRow 9 rfl) rfl rfl ?_
    refine aw_ifN_le (tgt := 41) (aw_d q_Ln_parseRow 10 rfl) (by decide) (by (have hc2 := hc.2.1; have h6 := hI.2.1.2.1; omega)) (fun c16 => ?_) (fun c16 => ?_)
    · refine aw_aload_n (aw_d q_Ln_parseRow 21 rfl) rfl rfl rfl ?_
      refine aw_getf (aw_d q_Ln_parseRow 22 rfl) fL_Ln_9_Cm rfl rfl ?_
      refine aw_iconst (v := (-1)) (aw_d q_Ln_parseRow 23 rfl) (by decide) ?_
      refine cVv (aw_d q_Ln_parseRow 24 rfl) (sp_beginTerm) vL_Ln_114_Sc rfl rfl rfl rfl rfl rfl ⟨aw_le rfl, aw_le rfl⟩ ?_
      refine aw_aload_n (aw_d q_Ln_parseRow 25 rfl) rfl rfl rfl ?_
      refine cV (aw_d q_Ln_parseRow 26 rfl) (sp_ci (frC_TP hI.1 hc) hp) vL_Ln_117_Cm rfl rfl rfl rfl rfl rfl ⟨aw_le rfl, aw_le rfl⟩ (fun r50 h50 hp50 => ?_)
      rcases li_split hp50 with ⟨u50, hx50, rfl, hf50⟩ | ⟨pp50, hx50, rfl, hp_50, rfl⟩ | ⟨pp50, kd50, ex50, M50, w50, l50, hx50, rfl, hp_50, rfl, hk50, hm50⟩
      · skip -- error
        refine aw_ifN_ne (tgt := 58) (aw_d q_Ln_parseRow 27 rfl) (by decide) (by (have hc2 := hc.2.1; have h6 := hI.2.1.2.1; omega)) (fun c53 => by exfalso; (have hc2 := hc.2.1; have h6 := hI.2.1.2.1; omega)) (fun c53 => ?_)
        refine aw_iconst (v := nI 0) (aw_d q_Ln_parseRow 28 rfl) (by decide) ?_
        exact aw_zret (aw_d q_Ln_parseRow 29 rfl) rfl (rfl) (by rw [he]; simp only [lb, bd_ok, bd_er, if_true, if_false, eq_self, ↓reduceIte, show ¬ 0 < v by omega, li, Bool.false_eq_true, hx50]; exact CG_er (itC_bs hI hw hs) hf50)
      · skip -- none
        refine aw_ifN_ne (tgt := 58) (aw_d q_Ln_parseRow 27 rfl) (by decide) (by (have hc2 := hc.2.1; have h6 := hI.2.1.2.1; omega)) (fun c53 => ?_) (fun c53 => by exfalso; (have hc2 := hc.2.1; have h6 := hI.2.1.2.1; omega))
        refine aw_aload_n (aw_d q_Ln_parseRow 30 rfl) rfl rfl rfl ?_
        refine aw_getf (aw_d q_Ln_parseRow 31 rfl) fL_Ln_9_Cm rfl rfl ?_
        refine aw_getf (v := .int ((-1))) (aw_d q_Ln_parseRow 32 rfl) fL_Ln_120_Sc rfl (gk rfl) ?_
        refine aw_iconst (v := (-1)) (aw_d q_Ln_parseRow 33 rfl) (by decide) ?_
        refine aw_icmpZ_eq (tgt := 103) (aw_d q_Ln_parseRow 34 rfl) (by decide) (fun c66 => ?_) (fun c66 => by exact absurd rfl c66)
        refine aw_iinc (aw_d q_Ln_parseRow 51 rfl) rfl (ii1 _) (aw_le rfl) rfl ?_
        refine aw_goto (tgt := 7) (aw_d q_Ln_parseRow 52 rfl) (by decide) ?_
        exact AW.to (ih (v + 1) pp50 s D _ _ _ _ _ _ (by omega) hp_50 hI (itOK_mono hs (by omega)) (he.trans (by simp only [lb, bd_ok, bd_er, if_true, if_false, eq_self, ↓reduceIte, show ¬ 0 < v by omega, li, Bool.false_eq_true, hx50, adI]))) rfl rfl rfl rfl
      · skip -- some
        refine aw_ifN_ne (tgt := 58) (aw_d q_Ln_parseRow 27 rfl) (by decide) (by (have hc2 := hc.2.1; have h6 := hI.2.1.2.1; omega)) (fun c53 => ?_) (fun c53 => by exfalso; (have hc2 := hc.2.1; have h6 := hI.2.1.2.1; omega))
        refine aw_aload_n (aw_d q_Ln_parseRow 30 rfl) rfl rfl rfl ?_
        refine aw_getf (aw_d q_Ln_parseRow 31 rfl) fL_Ln_9_Cm rfl rfl ?_
        refine aw_getf (v := .int (nI (kd50))) (aw_d q_Ln_parseRow 32 rfl) fL_Ln_120_Sc rfl (gk rfl) ?_
        refine aw_iconst (v := (-1)) (aw_d q_Ln_parseRow 33 rfl) (by decide) ?_
        refine aw_icmpJ_eq (tgt := 103) (aw_d q_Ln_parseRow 34 rfl) (by decide) (by (have hc2 := hc.2.1; have h6 := hI.2.1.2.1; omega)) (fun c66 => by (have h1 : (-1 : Int32).toInt = -1 := rfl; omega)) (fun c66 => ?_)
        refine aw_aload_n (aw_d q_Ln_parseRow 35 rfl) rfl rfl rfl ?_
        refine aw_iload_n (aw_d q_Ln_parseRow 36 rfl) rfl rfl ?_
        refine aw_iload_n (aw_d q_Ln_parseRow 37 rfl) rfl rfl ?_
        refine aw_aload_n (aw_d q_Ln_parseRow 38 rfl) rfl rfl rfl ?_
        refine aw_getf (aw_d q_Ln_parseRow 39 rfl) fL_Ln_19_Cm rfl rfl ?_
        refine aw_aload_n (aw_d q_Ln_parseRow 40 rfl) rfl rfl rfl ?_
        refine aw_getf (aw_d q_Ln_parseRow 41 rfl) fL_Ln_9_Cm rfl rfl ?_
        refine aw_getf (v := .int (nI (kd50))) (aw_d q_Ln_parseRow 42 rfl) fL_Ln_120_Sc rfl (gk rfl) ?_
        refine aw_aload_n (aw_d q_Ln_parseRow 43 rfl) rfl rfl rfl ?_
        refine aw_getf (aw_d q_Ln_parseRow 44 rfl) fL_Ln_9_Cm rfl rfl ?_
        refine aw_getf (v := .int (nI (ex50))) (aw_d q_Ln_parseRow 45 rfl) fL_Ln_123_Sc rfl (gk rfl) ?_
        refine aw_aload_n (aw_d q_Ln_parseRow 46 rfl) rfl rfl rfl ?_
        refine aw_getf (aw_d q_Ln_parseRow 47 rfl) fL_Ln_9_Cm rfl rfl ?_
        refine aw_getf (aw_d q_Ln_parseRow 48 rfl) fL_Ln_126_Sc rfl rfl ?_
        refine cV (aw_d q_Ln_parseRow 49 rfl) (sp_number hI hw h60 hs (c0 := r * 6 + v) (by have h6 := hI.2.1.2.1; omega) (kd := kd50) (ex := ex50) (L := M50) hk50.1 hk50.2.1 hm50.1) vL_Ln_130_Te rfl rfl rfl rfl rfl rfl ⟨aw_le rfl, aw_le rfl⟩ (fun r97 h97 hp97 => ?_)
        obtain ⟨rfl, F97, ht97, hf97, rfl⟩ := hp97
        refine cV (aw_d q_Ln_parseRow 50 rfl) (sp_setD hI ht97 hf97 (r := r) (v := v) hr (by have := hI.2.1.2.1; omega)) vL_Ln_136_Tb rfl rfl rfl rfl rfl rfl ⟨aw_le rfl, aw_le rfl⟩ (fun r100 h100 hp100 => ?_)
        obtain ⟨rfl, G100, hI100, rfl⟩ := hp100
        have hw50 : itW (r * 6 + v, kd50, ex50, M50) := ⟨hk50.1, hm50.1, hk50.2.1, hk50.2.2.1, hk50.2.2.2, hm50.2.1, hm50.2.2⟩
        have hs100 := itOK_add (m := r * 6 + (v + 1)) hs hw50 (by show r * 6 + v ≤ r * 6 + v; omega) (by show r * 6 + v < r * 6 + (v + 1); omega)
        refine aw_iinc (aw_d q_Ln_parseRow 51 rfl) rfl (ii1 _) (aw_le rfl) rfl ?_
        refine aw_goto (tgt := 7) (aw_d q_Ln_parseRow 52 rfl) (by decide) ?_
        exact AW.to (ih (v + 1) pp50 _ G100 _ _ _ _ _ _ (by omega) hp_50 hI100 hs100 (he.trans (by simp only [lb, bd_ok, bd_er, if_true, if_false, eq_self, ↓reduceIte, show ¬ 0 < v by omega, li, Bool.false_eq_true, hx50, adI]))) rfl rfl rfl rfl
    · refine aw_aload_n (aw_d q_Ln_parseRow 11 rfl) rfl rfl rfl ?_
      refine aw_getf (aw_d q_Ln_parseRow 12 rfl) fL_Ln_9_Cm rfl rfl ?_
      refine aw_aload_n (aw_d q_Ln_parseRow 13 rfl) rfl rfl rfl ?_
      refine aw_getf (aw_d q_Ln_parseRow 14 rfl) fL_Ln_27_Cm rfl rfl ?_
      refine cV (aw_d q_Ln_parseRow 15 rfl) (sp_took (frC_TP hI.1 hc) hp (B := (w_ls true).toInt) rfl) vL_Ln_107_Sc rfl rfl rfl rfl rfl rfl ⟨aw_le rfl, aw_le rfl⟩ (fun r27 h27 hp27 => ?_)
      cases Decidable.em ((T p).toInt = (w_ls true).toInt) with
      | inl hx27 =>
        rw [if_pos hx27, if_pos hx27] at hp27
        obtain ⟨rfl, rfl⟩ := hp27
        have hpn27 : p + 1 ≤ n := T_lt (frC_TP hI.1 hc).2.2.2.1 (p := p) (by have hq : (T p).toInt = 44 := hx27; omega)
        refine aw_ifN_ne (tgt := 41) (aw_d q_Ln_parseRow 16 rfl) (by decide) (by (have hc2 := hc.2.1; have h6 := hI.2.1.2.1; omega)) (fun c30 => ?_) (fun c30 => by exfalso; (have hc2 := hc.2.1; have h6 := hI.2.1.2.1; omega))
        refine aw_aload_n (aw_d q_Ln_parseRow 21 rfl) rfl rfl rfl ?_
        refine aw_getf (aw_d q_Ln_parseRow 22 rfl) fL_Ln_9_Cm rfl rfl ?_
        refine aw_iconst (v := (-1)) (aw_d q_Ln_parseRow 23 rfl) (by decide) ?_
        refine cVv (aw_d q_Ln_parseRow 24 rfl) (sp_beginTerm) vL_Ln_114_Sc rfl rfl rfl rfl rfl rfl ⟨aw_le rfl, aw_le rfl⟩ ?_
        refine aw_aload_n (aw_d q_Ln_parseRow 25 rfl) rfl rfl rfl ?_
        refine cV (aw_d q_Ln_parseRow 26 rfl) (sp_ci (frC_TP hI.1 hc) hpn27) vL_Ln_117_Cm rfl rfl rfl rfl rfl rfl ⟨aw_le rfl, aw_le rfl⟩ (fun r50 h50 hp50 => ?_)
        rcases li_split hp50 with ⟨u50, hx50, rfl, hf50⟩ | ⟨pp50, hx50, rfl, hp_50, rfl⟩ | ⟨pp50, kd50, ex50, M50, w50, l50, hx50, rfl, hp_50, rfl, hk50, hm50⟩
        · skip -- error
          refine aw_ifN_ne (tgt := 58) (aw_d q_Ln_parseRow 27 rfl) (by decide) (by (have hc2 := hc.2.1; have h6 := hI.2.1.2.1; omega)) (fun c53 => by exfalso; (have hc2 := hc.2.1; have h6 := hI.2.1.2.1; omega)) (fun c53 => ?_)
          refine aw_iconst (v := nI 0) (aw_d q_Ln_parseRow 28 rfl) (by decide) ?_
          exact aw_zret (aw_d q_Ln_parseRow 29 rfl) rfl (rfl) (by rw [he]; simp only [lb, bd_ok, bd_er, if_true, if_false, eq_self, ↓reduceIte, show 0 < v by omega, hx27, li, Bool.false_eq_true, hx50]; exact CG_er (itC_bs hI hw hs) hf50)
        · skip -- none
          refine aw_ifN_ne (tgt := 58) (aw_d q_Ln_parseRow 27 rfl) (by decide) (by (have hc2 := hc.2.1; have h6 := hI.2.1.2.1; omega)) (fun c53 => ?_) (fun c53 => by exfalso; (have hc2 := hc.2.1; have h6 := hI.2.1.2.1; omega))
          refine aw_aload_n (aw_d q_Ln_parseRow 30 rfl) rfl rfl rfl ?_
          refine aw_getf (aw_d q_Ln_parseRow 31 rfl) fL_Ln_9_Cm rfl rfl ?_
          refine aw_getf (v := .int ((-1))) (aw_d q_Ln_parseRow 32 rfl) fL_Ln_120_Sc rfl (gk rfl) ?_
          refine aw_iconst (v := (-1)) (aw_d q_Ln_parseRow 33 rfl) (by decide) ?_
          refine aw_icmpZ_eq (tgt := 103) (aw_d q_Ln_parseRow 34 rfl) (by decide) (fun c66 => ?_) (fun c66 => by exact absurd rfl c66)
          refine aw_iinc (aw_d q_Ln_parseRow 51 rfl) rfl (ii1 _) (aw_le rfl) rfl ?_
          refine aw_goto (tgt := 7) (aw_d q_Ln_parseRow 52 rfl) (by decide) ?_
          exact AW.to (ih (v + 1) pp50 s D _ _ _ _ _ _ (by omega) hp_50 hI (itOK_mono hs (by omega)) (he.trans (by simp only [lb, bd_ok, bd_er, if_true, if_false, eq_self, ↓reduceIte, show 0 < v by omega, hx27, li, Bool.false_eq_true, hx50, adI]))) rfl rfl rfl rfl
        · skip -- some
          refine aw_ifN_ne (tgt := 58) (aw_d q_Ln_parseRow 27 rfl) (by decide) (by (have hc2 := hc.2.1; have h6 := hI.2.1.2.1; omega)) (fun c53 => ?_) (fun c53 => by exfalso; (have hc2 := hc.2.1; have h6 := hI.2.1.2.1; omega))
          refine aw_aload_n (aw_d q_Ln_parseRow 30 rfl) rfl rfl rfl ?_
          refine aw_getf (aw_d q_Ln_parseRow 31 rfl) fL_Ln_9_Cm rfl rfl ?_
          refine aw_getf (v := .int (nI (kd50))) (aw_d q_Ln_parseRow 32 rfl) fL_Ln_120_Sc rfl (gk rfl) ?_
          refine aw_iconst (v := (-1)) (aw_d q_Ln_parseRow 33 rfl) (by decide) ?_
          refine aw_icmpJ_eq (tgt := 103) (aw_d q_Ln_parseRow 34 rfl) (by decide) (by (have hc2 := hc.2.1; have h6 := hI.2.1.2.1; omega)) (fun c66 => by (have h1 : (-1 : Int32).toInt = -1 := rfl; omega)) (fun c66 => ?_)
          refine aw_aload_n (aw_d q_Ln_parseRow 35 rfl) rfl rfl rfl ?_
          refine aw_iload_n (aw_d q_Ln_parseRow 36 rfl) rfl rfl ?_
          refine aw_iload_n (aw_d q_Ln_parseRow 37 rfl) rfl rfl ?_
          refine aw_aload_n (aw_d q_Ln_parseRow 38 rfl) rfl rfl rfl ?_
          refine aw_getf (aw_d q_Ln_parseRow 39 rfl) fL_Ln_19_Cm rfl rfl ?_
          refine aw_aload_n (aw_d q_Ln_parseRow 40 rfl) rfl rfl rfl ?_
          refine aw_getf (aw_d q_Ln_parseRow 41 rfl) fL_Ln_9_Cm rfl rfl ?_
          refine aw_getf (v := .int (nI (kd50))) (aw_d q_Ln_parseRow 42 rfl) fL_Ln_120_Sc rfl (gk rfl) ?_
          refine aw_aload_n (aw_d q_Ln_parseRow 43 rfl) rfl rfl rfl ?_
          refine aw_getf (aw_d q_Ln_parseRow 44 rfl) fL_Ln_9_Cm rfl rfl ?_
          refine aw_getf (v := .int (nI (ex50))) (aw_d q_Ln_parseRow 45 rfl) fL_Ln_123_Sc rfl (gk rfl) ?_
          refine aw_aload_n (aw_d q_Ln_parseRow 46 rfl) rfl rfl rfl ?_
          refine aw_getf (aw_d q_Ln_parseRow 47 rfl) fL_Ln_9_Cm rfl rfl ?_
          refine aw_getf (aw_d q_Ln_parseRow 48 rfl) fL_Ln_126_Sc rfl rfl ?_
          refine cV (aw_d q_Ln_parseRow 49 rfl) (sp_number hI hw h60 hs (c0 := r * 6 + v) (by have h6 := hI.2.1.2.1; omega) (kd := kd50) (ex := ex50) (L := M50) hk50.1 hk50.2.1 hm50.1) vL_Ln_130_Te rfl rfl rfl rfl rfl rfl ⟨aw_le rfl, aw_le rfl⟩ (fun r97 h97 hp97 => ?_)
          obtain ⟨rfl, F97, ht97, hf97, rfl⟩ := hp97
          refine cV (aw_d q_Ln_parseRow 50 rfl) (sp_setD hI ht97 hf97 (r := r) (v := v) hr (by have := hI.2.1.2.1; omega)) vL_Ln_136_Tb rfl rfl rfl rfl rfl rfl ⟨aw_le rfl, aw_le rfl⟩ (fun r100 h100 hp100 => ?_)
          obtain ⟨rfl, G100, hI100, rfl⟩ := hp100
          have hw50 : itW (r * 6 + v, kd50, ex50, M50) := ⟨hk50.1, hm50.1, hk50.2.1, hk50.2.2.1, hk50.2.2.2, hm50.2.1, hm50.2.2⟩
          have hs100 := itOK_add (m := r * 6 + (v + 1)) hs hw50 (by show r * 6 + v ≤ r * 6 + v; omega) (by show r * 6 + v < r * 6 + (v + 1); omega)
          refine aw_iinc (aw_d q_Ln_parseRow 51 rfl) rfl (ii1 _) (aw_le rfl) rfl ?_
          refine aw_goto (tgt := 7) (aw_d q_Ln_parseRow 52 rfl) (by decide) ?_
          exact AW.to (ih (v + 1) pp50 _ G100 _ _ _ _ _ _ (by omega) hp_50 hI100 hs100 (he.trans (by simp only [lb, bd_ok, bd_er, if_true, if_false, eq_self, ↓reduceIte, show 0 < v by omega, hx27, li, Bool.false_eq_true, hx50, adI]))) rfl rfl rfl rfl
      | inr hx27 =>
        rw [if_neg hx27, if_neg hx27] at hp27
        obtain ⟨rfl, rfl⟩ := hp27
        refine aw_ifN_ne (tgt := 41) (aw_d q_Ln_parseRow 16 rfl) (by decide) (by (have hc2 := hc.2.1; have h6 := hI.2.1.2.1; omega)) (fun c30 => by exfalso; (have hc2 := hc.2.1; have h6 := hI.2.1.2.1; omega)) (fun c30 => ?_)
        refine aw_aload_n (aw_d q_Ln_parseRow 17 rfl) rfl rfl rfl ?_
        refine aw_getf (aw_d q_Ln_parseRow 18 rfl) fL_Ln_9_Cm rfl rfl ?_
        refine cVr (aw_d q_Ln_parseRow 19 rfl) (sp_fail) vL_Ln_81_Sc rfl rfl rfl rfl rfl rfl ⟨aw_le rfl, aw_le rfl⟩ ?_
        exact aw_zret (aw_d q_Ln_parseRow 20 rfl) rfl (rfl) (by rw [he]; simp only [lb, bd_ok, bd_er, if_true, if_false, eq_self, ↓reduceIte, show 0 < v by omega, hx27]; exact CG_er (itC_bs hI hw hs) CF_i)
set_option maxRecDepth 20000 in
theorem sp_lb_31 {g : aw_G} {S D : aw_S} {E0 : ts_T} {N : nm_T} {s : sq_T} {r : Nat} {n : Nat} {T : Nat → Int32} {p : Nat} {q w l k e z : Int32} {X : Nat → Int32} (hw : tsW E0) (h60 : E0.1 ≤ 60) (hc : TPc S n T) (hp : p ≤ n) (hr : r < 24) (hI : itC S E0 N r s D) (hs : itOK s (r * 6))  : Sp g M_Ln_parseRow 8 177 0 0 [.ref 31, .ref 18] (HP (QC D (nI p) q w l k e z X)) (CG S E0 (lb true T n r N.1 0 p s) (fun (y : Nat × sq_T) h => ∃ (F : aw_S) (w l k e z : Int32) (X : Nat → Int32), itC S E0 N (r + 1) y.2 F ∧ itOK y.2 (r * 6 + 6) ∧ y.1 ≤ n ∧ h = HP (QC F (nI y.1) q w l k e z X))) := by
  refine Sp.of rfl (aw_le rfl) ?_
  refine aw_aload_n (aw_d q_Ln_parseRow 0 rfl) rfl rfl rfl ?_
  refine cV (aw_d q_Ln_parseRow 1 rfl) (sp_rowD hI hs hr) vL_Ln_111_Tb rfl rfl rfl rfl rfl rfl ⟨aw_le rfl, aw_le rfl⟩ (fun r1 h1 hp1 => ?_)
  obtain ⟨rfl, F1, hI1, rfl⟩ := hp1
  refine aw_istore_n (aw_d q_Ln_parseRow 2 rfl) rfl (aw_le rfl) rfl ?_
  refine aw_iconst (v := nI 0) (aw_d q_Ln_parseRow 3 rfl) (by decide) ?_
  refine aw_istore_n (aw_d q_Ln_parseRow 4 rfl) rfl (aw_le rfl) rfl ?_
  exact AW.to (lp_lb_31 hw h60 hc hr N.1 0 p s F1 _ _ _ _ _ _ (by omega) hp hI1 hs rfl) rfl rfl rfl rfl
set_option maxRecDepth 20000 in
theorem lp_ls_31 {g : aw_G} {S : aw_S} {E0 : ts_T} {n : Nat} {T : Nat → Int32} {q : Int32} (hw : tsW E0) (h60 : E0.1 ≤ 60) (hc : TPc S n T) {N : nm_T} {res : Except Nat rd_T} : ∀ (m i p r : Nat) (s : sq_T) (D : aw_S) (w l k e z : Int32) (X : Nat → Int32), m + i = 25 → p ≤ n → itC S E0 N r s D → itOK s (r * 6) → res = bd (ls true T n N.1 m p r s) (fun z => .ok (N, z.2)) → AW g M_Ln_parse (aw_rm 9 200 0 0) (aw_F g 0 0 (CG S E0 res (fun (y : rd_T) h => ∃ (F : aw_S) (p w l k e z : Int32) (X : Nat → Int32), itC S E0 y.1 y.2.1 y.2.2 F ∧ itOK y.2.2 (y.2.1 * 6) ∧ h = HP (QC F p q w l k e z X)))) 12 [some (.ref 31), some (.ref 18), some (.int (nI i))] [] (HP (QC D (nI p) q w l k e z X)) 0 0 := by
  intro m
  induction m with
  | zero =>
    intro i p r s D w l k e z X hk hp hI hs he
    refine aw_iload_n (aw_d q_Ln_parse 8 rfl) rfl rfl ?_
    refine aw_bipush (v := nI 24) (aw_d q_Ln_parse 9 rfl) (by decide) ?_
    refine aw_icmpN_gt (tgt := 61) (aw_d q_Ln_parse 10 rfl) (by decide) (by (have hc2 := hc.2.1; omega)) (by (have hc2 := hc.2.1; omega)) (fun c15 => ?_) (fun c15 => by exfalso; (have hc2 := hc.2.1; omega))
    refine aw_aload_n (aw_d q_Ln_parse 32 rfl) rfl rfl rfl ?_
    refine aw_getf (aw_d q_Ln_parse 33 rfl) fL_Ln_9_Cm rfl rfl ?_
    refine cVr (aw_d q_Ln_parse 34 rfl) (sp_fail) vL_Ln_81_Sc rfl rfl rfl rfl rfl rfl ⟨aw_le rfl, aw_le rfl⟩ ?_
    exact aw_zret (aw_d q_Ln_parse 35 rfl) rfl (rfl) (by rw [he]; exact CG_er (itC_bs hI hw hs) CF_i)
  | succ m ih =>
    intro i p r s D w l k e z X hk hp hI hs he
    refine aw_iload_n (aw_d q_Ln_parse 8 rfl) rfl rfl ?_
    refine aw_bipush (v := nI 24) (aw_d q_Ln_parse 9 rfl) (by decide) ?_
    refine aw_icmpN_gt (tgt := 61) (aw_d q_Ln_parse 10 rfl) (by decide) (by (have hc2 := hc.2.1; omega)) (by (have hc2 := hc.2.1; omega)) (fun c15 => by exfalso; (have hc2 := hc.2.1; omega)) (fun c15 => ?_)
    refine aw_aload_n (aw_d q_Ln_parse 11 rfl) rfl rfl rfl ?_
    refine aw_getf (aw_d q_Ln_parse 12 rfl) fL_Ln_9_Cm rfl rfl ?_
    refine cVr (aw_d q_Ln_parse 13 rfl) (sp_isEnded (frC_TP hI.1 hc) hp) vL_Ln_72_Sc rfl rfl rfl rfl rfl rfl ⟨aw_le rfl, aw_le rfl⟩ ?_
    refine aw_ifB_eq (tgt := 30) (aw_d q_Ln_parse 14 rfl) (by decide) (fun c25 => ?_) (fun c25 => ?_)
    · refine aw_aload_n (aw_d q_Ln_parse 17 rfl) rfl rfl rfl ?_
      refine cVr (aw_d q_Ln_parse 18 rfl) (sp_Tb_hasRoomForRow_18 (nmC_T hI.2.1 hI.2.2.1.1 hI.2.2.1.2)) vL_Ln_78_Tb rfl rfl rfl rfl rfl rfl ⟨aw_le rfl, aw_le rfl⟩ ?_
      refine aw_ifB_ne (tgt := 45) (aw_d q_Ln_parse 19 rfl) (by decide) (fun c34 => ?_) (fun c34 => ?_)
      · refine aw_aload_n (aw_d q_Ln_parse 24 rfl) rfl rfl rfl ?_
        refine aw_aload_n (aw_d q_Ln_parse 25 rfl) rfl rfl rfl ?_
        refine cV (aw_d q_Ln_parse 26 rfl) (sp_lb_31 hw h60 hc hp (by omega) hI hs) vL_Ln_84_Cm rfl rfl rfl rfl rfl rfl ⟨aw_le rfl, aw_le rfl⟩ (fun r47 h47 hp47 => ?_)
        cases hx47 : lb true T n r N.1 0 p s with
        | error u47 =>
          rw [hx47] at hp47
          obtain ⟨rfl, F47, hb47, hf47⟩ := hp47
          refine aw_ifN_ne (tgt := 55) (aw_d q_Ln_parse 27 rfl) (by decide) (by (have hc2 := hc.2.1; omega)) (fun c50 => by exfalso; (have hc2 := hc.2.1; omega)) (fun c50 => ?_)
          refine aw_iconst (v := nI 0) (aw_d q_Ln_parse 28 rfl) (by decide) ?_
          exact aw_zret (aw_d q_Ln_parse 29 rfl) rfl (rfl) (by rw [he, ls, if_neg c25, if_pos c34, hx47, bd_er, bd_er]; exact CG_er hb47 hf47)
        | ok y47 =>
          rw [hx47] at hp47
          obtain ⟨rfl, F47, w47, l47, k47, e47, z47, X47, hI47, hs47, hp_47, rfl⟩ := hp47
          have hs47 := itOK_mono hs47 (show r * 6 + 6 ≤ (r + 1) * 6 by omega)
          refine aw_ifN_ne (tgt := 55) (aw_d q_Ln_parse 27 rfl) (by decide) (by (have hc2 := hc.2.1; omega)) (fun c50 => ?_) (fun c50 => by exfalso; (have hc2 := hc.2.1; omega))
          refine aw_iinc (aw_d q_Ln_parse 30 rfl) rfl (ii1 _) (aw_le rfl) rfl ?_
          refine aw_goto (tgt := 12) (aw_d q_Ln_parse 31 rfl) (by decide) ?_
          exact AW.to (ih (i + 1) y47.1 (r + 1) y47.2 F47 _ _ _ _ _ _ (by omega) hp_47 hI47 hs47 (he.trans (by rw [ls, if_neg c25, if_pos c34, hx47, bd_ok]))) rfl rfl rfl rfl
      · refine aw_aload_n (aw_d q_Ln_parse 20 rfl) rfl rfl rfl ?_
        refine aw_getf (aw_d q_Ln_parse 21 rfl) fL_Ln_9_Cm rfl rfl ?_
        refine cVr (aw_d q_Ln_parse 22 rfl) (sp_fail) vL_Ln_81_Sc rfl rfl rfl rfl rfl rfl ⟨aw_le rfl, aw_le rfl⟩ ?_
        exact aw_zret (aw_d q_Ln_parse 23 rfl) rfl (rfl) (by rw [he, ls, if_neg c25, if_neg c34, bd_er]; exact CG_er (itC_bs hI hw hs) CF_i)
    · refine aw_iconst (v := nI 1) (aw_d q_Ln_parse 15 rfl) (by decide) ?_
      exact aw_zret (aw_d q_Ln_parse 16 rfl) rfl (rfl) (by rw [he, ls, if_pos c25, bd_ok]; exact CG_ok ⟨_, _, _, _, _, _, _, _, hI, hs, rfl⟩)
set_option maxRecDepth 20000 in
theorem sp_rdL_31 {g : aw_G} {S D : aw_S} {E0 : ts_T} {N : nm_T} {n : Nat} {T : Nat → Int32} {q w l k e z : Int32} {X : Nat → Int32} (hw : tsW E0) (h60 : E0.1 ≤ 60) (hc : TPc S n T) (hI : itC S E0 N 0 [] D)  : Sp g M_Ln_parse 9 200 0 0 [.ref 31, .ref 18] (HP (QC D (nI 0) q w l k e z X)) (CG S E0 (rdL true T n N) (fun (y : rd_T) h => ∃ (F : aw_S) (p w l k e z : Int32) (X : Nat → Int32), itC S E0 y.1 y.2.1 y.2.2 F ∧ itOK y.2.2 (y.2.1 * 6) ∧ h = HP (QC F p q w l k e z X))) := by
  refine Sp.of rfl (aw_le rfl) ?_
  refine aw_aload_n (aw_d q_Ln_parse 0 rfl) rfl rfl rfl ?_
  refine aw_aload_n (aw_d q_Ln_parse 1 rfl) rfl rfl rfl ?_
  refine cV (aw_d q_Ln_parse 2 rfl) (sp_ln_31 hw h60 hc (Nat.zero_le n) hI) vL_Ln_68_Cm rfl rfl rfl rfl rfl rfl ⟨aw_le rfl, aw_le rfl⟩ (fun r2 h2 hp2 => ?_)
  cases hx2 : ln true T n N 0 with
  | error u2 =>
    rw [hx2] at hp2
    obtain ⟨rfl, F2, hb2, hf2⟩ := hp2
    refine aw_ifN_ne (tgt := 10) (aw_d q_Ln_parse 3 rfl) (by decide) (by omega) (fun c5 => by exfalso; omega) (fun c5 => ?_)
    refine aw_iconst (v := nI 0) (aw_d q_Ln_parse 4 rfl) (by decide) ?_
    exact aw_zret (aw_d q_Ln_parse 5 rfl) rfl (rfl) (by rw [rdL, hx2, bd_er]; exact CG_er hb2 hf2)
  | ok y2 =>
    rw [hx2] at hp2
    obtain ⟨rfl, F2, w2, l2, k2, e2, z2, X2, hI2, hp_2, rfl⟩ := hp2
    refine aw_ifN_ne (tgt := 10) (aw_d q_Ln_parse 3 rfl) (by decide) (by omega) (fun c5 => ?_) (fun c5 => by exfalso; omega)
    refine aw_iconst (v := nI 0) (aw_d q_Ln_parse 6 rfl) (by decide) ?_
    refine aw_istore_n (aw_d q_Ln_parse 7 rfl) rfl (aw_le rfl) rfl ?_
    rw [rdL, hx2, bd_ok]
    exact AW.to (lp_ls_31 hw h60 hc 25 0 y2.1 0 [] F2 _ _ _ _ _ _ (by omega) hp_2 hI2 itOK_nil rfl) rfl rfl rfl rfl
set_option maxRecDepth 20000 in
theorem lp_lk_32 {g : aw_G} {S : aw_S} {E0 : ts_T} {n : Nat} {T : Nat → Int32} {q : Int32} (hw : tsW E0) (h60 : E0.1 ≤ 60) (hc : TPc S n T) {res : Except Nat (Nat × nm_T)} : ∀ (m i p : Nat) (N : nm_T) (D : aw_S) (w l k e z : Int32) (X : Nat → Int32), m + i = 7 → p ≤ n → itC S E0 N 0 [] D → res = lk false T n m p N → AW g M_Ln_parseNames (aw_rm 5 107 0 0) (aw_F g 0 0 (CG S E0 res (fun (y : Nat × nm_T) h => ∃ (F : aw_S) (w l k e z : Int32) (X : Nat → Int32), itC S E0 y.2 0 [] F ∧ y.1 ≤ n ∧ h = HP (QC F (nI y.1) q w l k e z X)))) 42 [some (.ref 32), some (.ref 18), some (.int (nI i))] [] (HP (QC D (nI p) q w l k e z X)) 0 0 := by
  intro m
  induction m with
  | zero =>
    intro i p N D w l k e z X hk hp hI he
    refine aw_iload_n (aw_d q_Ln_parseNames 20 rfl) rfl rfl ?_
    refine aw_bipush (v := nI 6) (aw_d q_Ln_parseNames 21 rfl) (by decide) ?_
    refine aw_icmpN_gt (tgt := 107) (aw_d q_Ln_parseNames 22 rfl) (by decide) (by (have hc2 := hc.2.1; omega)) (by (have hc2 := hc.2.1; omega)) (fun c45 => ?_) (fun c45 => by exfalso; (have hc2 := hc.2.1; omega))
    refine aw_aload_n (aw_d q_Ln_parseNames 50 rfl) rfl rfl rfl ?_
    refine aw_getf (aw_d q_Ln_parseNames 51 rfl) fL_Ln_9_Ta rfl rfl ?_
    refine cVr (aw_d q_Ln_parseNames 52 rfl) (sp_fail) vL_Ln_81_Sc rfl rfl rfl rfl rfl rfl ⟨aw_le rfl, aw_le rfl⟩ ?_
    exact aw_zret (aw_d q_Ln_parseNames 53 rfl) rfl (rfl) (by rw [he]; exact CG_er (itC_bs hI hw (itOK_nil (k := 0))) CF_i)
  | succ m ih =>
    intro i p N D w l k e z X hk hp hI he
    refine aw_iload_n (aw_d q_Ln_parseNames 20 rfl) rfl rfl ?_
    refine aw_bipush (v := nI 6) (aw_d q_Ln_parseNames 21 rfl) (by decide) ?_
    refine aw_icmpN_gt (tgt := 107) (aw_d q_Ln_parseNames 22 rfl) (by decide) (by (have hc2 := hc.2.1; omega)) (by (have hc2 := hc.2.1; omega)) (fun c45 => by exfalso; (have hc2 := hc.2.1; omega)) (fun c45 => ?_)
    refine aw_aload_n (aw_d q_Ln_parseNames 23 rfl) rfl rfl rfl ?_
    refine aw_getf (aw_d q_Ln_parseNames 24 rfl) fL_Ln_9_Ta rfl rfl ?_
    refine aw_aload_n (aw_d q_Ln_parseNames 25 rfl) rfl rfl rfl ?_
    refine aw_getf (aw_d q_Ln_parseNames 26 rfl) fL_Ln_23_Ta rfl rfl ?_
    refine cV (aw_d q_Ln_parseNames 27 rfl) (sp_must (frC_TP hI.1 hc) hp (j := 2) (by decide)) vL_Ln_100_Sc rfl rfl rfl rfl rfl rfl ⟨aw_le rfl, aw_le rfl⟩ (fun r56 h56 hp56 => ?_)
    cases hx56 : mu T (tx 2) p with
    | error u56 =>
      rw [hx56] at hp56
      obtain ⟨rfl, hf56⟩ := hp56
      refine aw_ifN_eq (tgt := 73) (aw_d q_Ln_parseNames 28 rfl) (by decide) (by (have hc2 := hc.2.1; omega)) (fun c59 => ?_) (fun c59 => by exfalso; (have hc2 := hc.2.1; omega))
      refine aw_iconst (v := nI 0) (aw_d q_Ln_parseNames 34 rfl) (by decide) ?_
      exact aw_zret (aw_d q_Ln_parseNames 35 rfl) rfl (rfl) (by rw [he]; simp only [lk, bd_ok, bd_er, if_true, if_false, eq_self, ↓reduceIte, hx56, show w_le false = tx 3 from rfl, show w_lm false = tx 2 from rfl]; exact CG_er (itC_bs hI hw (itOK_nil (k := 0))) hf56)
    | ok p56 =>
      rw [hx56] at hp56
      obtain ⟨rfl, rfl, hp_56⟩ := hp56
      refine aw_ifN_eq (tgt := 73) (aw_d q_Ln_parseNames 28 rfl) (by decide) (by (have hc2 := hc.2.1; omega)) (fun c59 => by exfalso; (have hc2 := hc.2.1; omega)) (fun c59 => ?_)
      refine aw_aload_n (aw_d q_Ln_parseNames 29 rfl) rfl rfl rfl ?_
      refine aw_getf (aw_d q_Ln_parseNames 30 rfl) fL_Ln_9_Ta rfl rfl ?_
      refine aw_aload_n (aw_d q_Ln_parseNames 31 rfl) rfl rfl rfl ?_
      refine cV (aw_d q_Ln_parseNames 32 rfl) (sp_newName hI hc hw hp_56) vL_Ln_104_Sc rfl rfl rfl rfl rfl rfl ⟨aw_le rfl, aw_le rfl⟩ (fun r67 h67 hp67 => ?_)
      cases hx67 : nn T n N p56 with
      | error u67 =>
        rw [hx67] at hp67
        obtain ⟨rfl, F67, hb67, hf67⟩ := hp67
        refine aw_ifN_ne (tgt := 75) (aw_d q_Ln_parseNames 33 rfl) (by decide) (by (have hc2 := hc.2.1; omega)) (fun c70 => by exfalso; (have hc2 := hc.2.1; omega)) (fun c70 => ?_)
        refine aw_iconst (v := nI 0) (aw_d q_Ln_parseNames 34 rfl) (by decide) ?_
        exact aw_zret (aw_d q_Ln_parseNames 35 rfl) rfl (rfl) (by rw [he]; simp only [lk, bd_ok, bd_er, if_true, if_false, eq_self, ↓reduceIte, hx56, hx67, show w_le false = tx 3 from rfl, show w_lm false = tx 2 from rfl]; exact CG_er hb67 hf67)
      | ok y67 =>
        rw [hx67] at hp67
        obtain ⟨rfl, F67, w67, l67, hI67, hp_67, rfl⟩ := hp67
        refine aw_ifN_ne (tgt := 75) (aw_d q_Ln_parseNames 33 rfl) (by decide) (by (have hc2 := hc.2.1; omega)) (fun c70 => ?_) (fun c70 => by exfalso; (have hc2 := hc.2.1; omega))
        refine aw_aload_n (aw_d q_Ln_parseNames 36 rfl) rfl rfl rfl ?_
        refine aw_getf (aw_d q_Ln_parseNames 37 rfl) fL_Ln_9_Ta rfl rfl ?_
        refine aw_aload_n (aw_d q_Ln_parseNames 38 rfl) rfl rfl rfl ?_
        refine aw_getf (aw_d q_Ln_parseNames 39 rfl) fL_Ln_27_Ta rfl rfl ?_
        refine cV (aw_d q_Ln_parseNames 40 rfl) (sp_took (frC_TP hI67.1 hc) hp_67 (B := (w_ls false).toInt) rfl) vL_Ln_107_Sc rfl rfl rfl rfl rfl rfl ⟨aw_le rfl, aw_le rfl⟩ (fun r83 h83 hp83 => ?_)
        cases Decidable.em ((T y67.1).toInt = (w_ls false).toInt) with
        | inl hx83 =>
          rw [if_pos hx83, if_pos hx83] at hp83
          obtain ⟨rfl, rfl⟩ := hp83
          have hpn83 : y67.1 + 1 ≤ n := T_lt (frC_TP hI67.1 hc).2.2.2.1 (p := y67.1) (by have hq : (T y67.1).toInt = 9 := hx83; omega)
          refine aw_ifN_ne (tgt := 101) (aw_d q_Ln_parseNames 41 rfl) (by decide) (by (have hc2 := hc.2.1; omega)) (fun c86 => ?_) (fun c86 => by exfalso; (have hc2 := hc.2.1; omega))
          refine aw_iinc (aw_d q_Ln_parseNames 48 rfl) rfl (ii1 _) (aw_le rfl) rfl ?_
          refine aw_goto (tgt := 42) (aw_d q_Ln_parseNames 49 rfl) (by decide) ?_
          exact AW.to (ih (i + 1) (y67.1 + 1) y67.2 F67 _ _ _ _ _ _ (by omega) hpn83 hI67 (he.trans (by simp only [lk, show w_le false = tx 3 from rfl, show w_lm false = tx 2 from rfl, hx56, hx67, hx83, bd_ok, ↓reduceIte]))) rfl rfl rfl rfl
        | inr hx83 =>
          rw [if_neg hx83, if_neg hx83] at hp83
          obtain ⟨rfl, rfl⟩ := hp83
          refine aw_ifN_ne (tgt := 101) (aw_d q_Ln_parseNames 41 rfl) (by decide) (by (have hc2 := hc.2.1; omega)) (fun c86 => by exfalso; (have hc2 := hc.2.1; omega)) (fun c86 => ?_)
          refine aw_aload_n (aw_d q_Ln_parseNames 42 rfl) rfl rfl rfl ?_
          refine aw_getf (aw_d q_Ln_parseNames 43 rfl) fL_Ln_9_Ta rfl rfl ?_
          refine aw_aload_n (aw_d q_Ln_parseNames 44 rfl) rfl rfl rfl ?_
          refine aw_getf (aw_d q_Ln_parseNames 45 rfl) fL_Ln_31_Ta rfl rfl ?_
          refine cV (aw_d q_Ln_parseNames 46 rfl) (sp_must (frC_TP hI67.1 hc) hp_67 (j := 3) (by decide)) vL_Ln_100_Sc rfl rfl rfl rfl rfl rfl ⟨aw_le rfl, aw_le rfl⟩ (fun r97 h97 hp97 => ?_)
          cases hx97 : mu T (tx 3) y67.1 with
          | error u97 =>
            rw [hx97] at hp97
            obtain ⟨rfl, hf97⟩ := hp97
            exact aw_zret (aw_d q_Ln_parseNames 47 rfl) rfl (rfl) (by rw [he]; simp only [lk, bd_ok, bd_er, if_true, if_false, eq_self, ↓reduceIte, hx56, hx67, hx83, hx97, show w_le false = tx 3 from rfl, show w_lm false = tx 2 from rfl]; exact CG_er (itC_bs hI67 hw (itOK_nil (k := 0))) hf97)
          | ok p97 =>
            rw [hx97] at hp97
            obtain ⟨rfl, rfl, hp_97⟩ := hp97
            exact aw_zret (aw_d q_Ln_parseNames 47 rfl) rfl (rfl) (by rw [he]; simp only [lk, bd_ok, bd_er, if_true, if_false, eq_self, ↓reduceIte, hx56, hx67, hx83, hx97, show w_le false = tx 3 from rfl, show w_lm false = tx 2 from rfl]; exact CG_ok ⟨_, _, _, _, _, _, _, hI67, hp_97, rfl⟩)
set_option maxRecDepth 20000 in
theorem sp_ln_32 {g : aw_G} {S D : aw_S} {E0 : ts_T} {N : nm_T} {n : Nat} {T : Nat → Int32} {p : Nat} {q w l k e z : Int32} {X : Nat → Int32} (hw : tsW E0) (h60 : E0.1 ≤ 60) (hc : TPc S n T) (hp : p ≤ n) (hI : itC S E0 N 0 [] D)  : Sp g M_Ln_parseNames 5 107 0 0 [.ref 32, .ref 18] (HP (QC D (nI p) q w l k e z X)) (CG S E0 (ln false T n N p) (fun (y : Nat × nm_T) h => ∃ (F : aw_S) (w l k e z : Int32) (X : Nat → Int32), itC S E0 y.2 0 [] F ∧ y.1 ≤ n ∧ h = HP (QC F (nI y.1) q w l k e z X))) := by
  refine Sp.of rfl (aw_le rfl) ?_
  refine aw_aload_n (aw_d q_Ln_parseNames 0 rfl) rfl rfl rfl ?_
  refine aw_getf (aw_d q_Ln_parseNames 1 rfl) fL_Ln_31_Ta rfl rfl ?_
  refine cT (aw_d q_Ln_parseNames 2 rfl) (by decide) (sp_JS_isEmpty (by decide)) vL_Ln_87_JS rfl rfl rfl rfl ⟨aw_le rfl, aw_le rfl⟩ ?_
  refine aw_ifB_ne (tgt := 40) (aw_d q_Ln_parseNames 3 rfl) (by decide) (fun c7 => by exact absurd c7 (by decide)) (fun c7 => ?_)
  refine aw_aload_n (aw_d q_Ln_parseNames 4 rfl) rfl rfl rfl ?_
  refine aw_getf (aw_d q_Ln_parseNames 5 rfl) fL_Ln_9_Ta rfl rfl ?_
  refine cVr (aw_d q_Ln_parseNames 6 rfl) (sp_next (frC_TP hI.1 hc) hp) vL_Ln_92_Sc rfl rfl rfl rfl rfl rfl ⟨aw_le rfl, aw_le rfl⟩ ?_
  refine aw_aload_n (aw_d q_Ln_parseNames 7 rfl) rfl rfl rfl ?_
  refine aw_getf (aw_d q_Ln_parseNames 8 rfl) fL_Ln_31_Ta rfl rfl ?_
  refine aw_iconst (v := nI 0) (aw_d q_Ln_parseNames 9 rfl) (by decide) ?_
  refine cT (aw_d q_Ln_parseNames 10 rfl) (by decide) (sp_JS_charAt (by decide) (by decide)) vL_Ln_96_JS rfl rfl rfl rfl ⟨aw_le rfl, aw_le rfl⟩ ?_
  refine aw_icmpZ_ne (tgt := 40) (aw_d q_Ln_parseNames 11 rfl) (by decide) (fun c25 => ?_) (fun c25 => ?_)
  · refine aw_iconst (v := nI 0) (aw_d q_Ln_parseNames 18 rfl) (by decide) ?_
    refine aw_istore_n (aw_d q_Ln_parseNames 19 rfl) rfl (aw_le rfl) rfl ?_
    rw [ln, if_neg (show ¬ (T p).toInt = (if false = true then 13 else 10) by have h : (aw_ch 3 0).toInt = 10 := (by decide); show ¬ (T p).toInt = 10; omega)]
    exact AW.to (lp_lk_32 hw h60 hc 7 0 p N D _ _ _ _ _ _ (by omega) hp hI rfl) rfl rfl rfl rfl
  · refine aw_aload_n (aw_d q_Ln_parseNames 12 rfl) rfl rfl rfl ?_
    refine aw_getf (aw_d q_Ln_parseNames 13 rfl) fL_Ln_9_Ta rfl rfl ?_
    refine aw_aload_n (aw_d q_Ln_parseNames 14 rfl) rfl rfl rfl ?_
    refine aw_getf (aw_d q_Ln_parseNames 15 rfl) fL_Ln_31_Ta rfl rfl ?_
    refine cV (aw_d q_Ln_parseNames 16 rfl) (sp_must (frC_TP hI.1 hc) hp (j := 3) (by decide)) vL_Ln_100_Sc rfl rfl rfl rfl rfl rfl ⟨aw_le rfl, aw_le rfl⟩ (fun r36 h36 hp36 => ?_)
    cases hx36 : mu T (tx 3) p with
    | error u36 =>
      rw [hx36] at hp36
      obtain ⟨rfl, hf36⟩ := hp36
      exact aw_zret (aw_d q_Ln_parseNames 17 rfl) rfl (rfl) (by rw [ln, if_pos (show (T p).toInt = (if false = true then 13 else 10) by have h : (aw_ch 3 0).toInt = 10 := (by decide); show (T p).toInt = 10; omega), show w_le false = tx 3 from rfl, hx36, bd_er]; exact CG_er (itC_bs hI hw (itOK_nil (k := 0))) hf36)
    | ok p36 =>
      rw [hx36] at hp36
      obtain ⟨rfl, rfl, hp_36⟩ := hp36
      exact aw_zret (aw_d q_Ln_parseNames 17 rfl) rfl (rfl) (by rw [ln, if_pos (show (T p).toInt = (if false = true then 13 else 10) by have h : (aw_ch 3 0).toInt = 10 := (by decide); show (T p).toInt = 10; omega), show w_le false = tx 3 from rfl, hx36, bd_ok]; exact CG_ok ⟨_, _, _, _, _, _, _, hI, hp_36, rfl⟩)
set_option maxRecDepth 20000 in
theorem lp_lb_32 {g : aw_G} {S : aw_S} {E0 : ts_T} {n : Nat} {T : Nat → Int32} {q : Int32} (hw : tsW E0) (h60 : E0.1 ≤ 60) (hc : TPc S n T) {N : nm_T} {r : Nat} (hr : r < 24) {res : Except Nat (Nat × sq_T)} : ∀ (m v p : Nat) (s : sq_T) (D : aw_S) (w l k e z : Int32) (X : Nat → Int32), m + v = N.1 → p ≤ n → itC S E0 N (r + 1) s D → itOK s (r * 6 + v) → res = lb false T n r m v p s → AW g M_Ln_parseRow (aw_rm 8 177 0 0) (aw_F g 0 0 (CG S E0 res (fun (y : Nat × sq_T) h => ∃ (F : aw_S) (w l k e z : Int32) (X : Nat → Int32), itC S E0 N (r + 1) y.2 F ∧ itOK y.2 (r * 6 + 6) ∧ y.1 ≤ n ∧ h = HP (QC F (nI y.1) q w l k e z X)))) 7 [some (.ref 32), some (.ref 18), some (.int (nI r)), some (.int (nI v))] [] (HP (QC D (nI p) q w l k e z X)) 0 0 := by
  intro m
  induction m with
  | zero =>
    intro v p s D w l k e z X hk hp hI hs he
    refine aw_iload_n (aw_d q_Ln_parseRow 5 rfl) rfl rfl ?_
    refine aw_aload_n (aw_d q_Ln_parseRow 6 rfl) rfl rfl rfl ?_
    refine aw_getf (v := .int (nI (N.1))) (aw_d q_Ln_parseRow 7 rfl) fL_Ln_34_Tb rfl (gk hI.2.1.1) ?_
    refine aw_icmpN_ge (tgt := 109) (aw_d q_Ln_parseRow 8 rfl) (by decide) (by (have hc2 := hc.2.1; have h6 := hI.2.1.2.1; omega)) (by (have hc2 := hc.2.1; have h6 := hI.2.1.2.1; omega)) (fun c12 => ?_) (fun c12 => by exfalso; (have hc2 := hc.2.1; have h6 := hI.2.1.2.1; omega))
    refine aw_aload_n (aw_d q_Ln_parseRow 53 rfl) rfl rfl rfl ?_
    refine aw_getf (aw_d q_Ln_parseRow 54 rfl) fL_Ln_9_Ta rfl rfl ?_
    refine aw_aload_n (aw_d q_Ln_parseRow 55 rfl) rfl rfl rfl ?_
    refine aw_getf (aw_d q_Ln_parseRow 56 rfl) fL_Ln_31_Ta rfl rfl ?_
    refine cV (aw_d q_Ln_parseRow 57 rfl) (sp_must (frC_TP hI.1 hc) hp (j := 3) (by decide)) vL_Ln_100_Sc rfl rfl rfl rfl rfl rfl ⟨aw_le rfl, aw_le rfl⟩ (fun r117 h117 hp117 => ?_)
    cases hx117 : mu T (tx 3) p with
    | error u117 =>
      rw [hx117] at hp117
      obtain ⟨rfl, hf117⟩ := hp117
      exact aw_zret (aw_d q_Ln_parseRow 58 rfl) rfl (rfl) (by rw [he]; simp only [lb, bd_ok, bd_er, if_true, if_false, eq_self, ↓reduceIte, show w_le false = tx 3 from rfl, show w_lm false = tx 2 from rfl, hx117]; exact CG_er (itC_bs hI hw hs) hf117)
    | ok p117 =>
      rw [hx117] at hp117
      obtain ⟨rfl, rfl, hp_117⟩ := hp117
      exact aw_zret (aw_d q_Ln_parseRow 58 rfl) rfl (rfl) (by rw [he]; simp only [lb, bd_ok, bd_er, if_true, if_false, eq_self, ↓reduceIte, show w_le false = tx 3 from rfl, show w_lm false = tx 2 from rfl, hx117]; exact CG_ok ⟨_, _, _, _, _, _, _, hI, itOK_mono hs (by have := hI.2.1.2.1; omega), hp_117, rfl⟩)
  | succ m ih =>
    intro v p s D w l k e z X hk hp hI hs he
    refine aw_iload_n (aw_d q_Ln_parseRow 5 rfl) rfl rfl ?_
    refine aw_aload_n (aw_d q_Ln_parseRow 6 rfl) rfl rfl rfl ?_
    refine aw_getf (v := .int (nI (N.1))) (aw_d q_Ln_parseRow 7 rfl) fL_Ln_34_Tb rfl (gk hI.2.1.1) ?_
    refine aw_icmpN_ge (tgt := 109) (aw_d q_Ln_parseRow 8 rfl) (by decide) (by (have hc2 := hc.2.1; have h6 := hI.2.1.2.1; omega)) (by (have hc2 := hc.2.1; have h6 := hI.2.1.2.1; omega)) (fun c12 => by exfalso; (have hc2 := hc.2.1; have h6 := hI.2.1.2.1; omega)) (fun c12 => ?_)
    refine aw_iload_n (aw_d q_Ln_parseRow 9 rfl) rfl rfl ?_
    refine aw_ifN_le (tgt := 41) (aw_d q_Ln_parseRow 10 rfl) (by decide) (by (have hc2 := hc.2.1; have h6 := hI.2.1.2.1; omega)) (fun c16 => ?_) (fun c16 => ?_)
    · refine aw_aload_n (aw_d q_Ln_parseRow 21 rfl) rfl rfl rfl ?_
      refine aw_getf (aw_d q_Ln_parseRow 22 rfl) fL_Ln_9_Ta rfl rfl ?_
      refine aw_iconst (v := (-1)) (aw_d q_Ln_parseRow 23 rfl) (by decide) ?_
      refine cVv (aw_d q_Ln_parseRow 24 rfl) (sp_beginTerm) vL_Ln_114_Sc rfl rfl rfl rfl rfl rfl ⟨aw_le rfl, aw_le rfl⟩ ?_
      refine aw_aload_n (aw_d q_Ln_parseRow 25 rfl) rfl rfl rfl ?_
      refine cV (aw_d q_Ln_parseRow 26 rfl) (sp_ti (frC_TP hI.1 hc) hp) vL_Ln_117_Ta rfl rfl rfl rfl rfl rfl ⟨aw_le rfl, aw_le rfl⟩ (fun r50 h50 hp50 => ?_)
      rcases li_split hp50 with ⟨u50, hx50, rfl, hf50⟩ | ⟨pp50, hx50, rfl, hp_50, rfl⟩ | ⟨pp50, kd50, ex50, M50, w50, l50, hx50, rfl, hp_50, rfl, hk50, hm50⟩
      · skip -- error
        refine aw_ifN_ne (tgt := 58) (aw_d q_Ln_parseRow 27 rfl) (by decide) (by (have hc2 := hc.2.1; have h6 := hI.2.1.2.1; omega)) (fun c53 => by exfalso; (have hc2 := hc.2.1; have h6 := hI.2.1.2.1; omega)) (fun c53 => ?_)
        refine aw_iconst (v := nI 0) (aw_d q_Ln_parseRow 28 rfl) (by decide) ?_
        exact aw_zret (aw_d q_Ln_parseRow 29 rfl) rfl (rfl) (by rw [he]; simp only [lb, bd_ok, bd_er, if_true, if_false, eq_self, ↓reduceIte, show ¬ 0 < v by omega, li, Bool.false_eq_true, hx50]; exact CG_er (itC_bs hI hw hs) hf50)
      · skip -- none
        refine aw_ifN_ne (tgt := 58) (aw_d q_Ln_parseRow 27 rfl) (by decide) (by (have hc2 := hc.2.1; have h6 := hI.2.1.2.1; omega)) (fun c53 => ?_) (fun c53 => by exfalso; (have hc2 := hc.2.1; have h6 := hI.2.1.2.1; omega))
        refine aw_aload_n (aw_d q_Ln_parseRow 30 rfl) rfl rfl rfl ?_
        refine aw_getf (aw_d q_Ln_parseRow 31 rfl) fL_Ln_9_Ta rfl rfl ?_
        refine aw_getf (v := .int ((-1))) (aw_d q_Ln_parseRow 32 rfl) fL_Ln_120_Sc rfl (gk rfl) ?_
        refine aw_iconst (v := (-1)) (aw_d q_Ln_parseRow 33 rfl) (by decide) ?_
        refine aw_icmpZ_eq (tgt := 103) (aw_d q_Ln_parseRow 34 rfl) (by decide) (fun c66 => ?_) (fun c66 => by exact absurd rfl c66)
        refine aw_iinc (aw_d q_Ln_parseRow 51 rfl) rfl (ii1 _) (aw_le rfl) rfl ?_
        refine aw_goto (tgt := 7) (aw_d q_Ln_parseRow 52 rfl) (by decide) ?_
        exact AW.to (ih (v + 1) pp50 s D _ _ _ _ _ _ (by omega) hp_50 hI (itOK_mono hs (by omega)) (he.trans (by simp only [lb, bd_ok, bd_er, if_true, if_false, eq_self, ↓reduceIte, show ¬ 0 < v by omega, li, Bool.false_eq_true, hx50, adI]))) rfl rfl rfl rfl
      · skip -- some
        refine aw_ifN_ne (tgt := 58) (aw_d q_Ln_parseRow 27 rfl) (by decide) (by (have hc2 := hc.2.1; have h6 := hI.2.1.2.1; omega)) (fun c53 => ?_) (fun c53 => by exfalso; (have hc2 := hc.2.1; have h6 := hI.2.1.2.1; omega))
        refine aw_aload_n (aw_d q_Ln_parseRow 30 rfl) rfl rfl rfl ?_
        refine aw_getf (aw_d q_Ln_parseRow 31 rfl) fL_Ln_9_Ta rfl rfl ?_
        refine aw_getf (v := .int (nI (kd50))) (aw_d q_Ln_parseRow 32 rfl) fL_Ln_120_Sc rfl (gk rfl) ?_
        refine aw_iconst (v := (-1)) (aw_d q_Ln_parseRow 33 rfl) (by decide) ?_
        refine aw_icmpJ_eq (tgt := 103) (aw_d q_Ln_parseRow 34 rfl) (by decide) (by (have hc2 := hc.2.1; have h6 := hI.2.1.2.1; omega)) (fun c66 => by (have h1 : (-1 : Int32).toInt = -1 := rfl; omega)) (fun c66 => ?_)
        refine aw_aload_n (aw_d q_Ln_parseRow 35 rfl) rfl rfl rfl ?_
        refine aw_iload_n (aw_d q_Ln_parseRow 36 rfl) rfl rfl ?_
        refine aw_iload_n (aw_d q_Ln_parseRow 37 rfl) rfl rfl ?_
        refine aw_aload_n (aw_d q_Ln_parseRow 38 rfl) rfl rfl rfl ?_
        refine aw_getf (aw_d q_Ln_parseRow 39 rfl) fL_Ln_19_Ta rfl rfl ?_
        refine aw_aload_n (aw_d q_Ln_parseRow 40 rfl) rfl rfl rfl ?_
        refine aw_getf (aw_d q_Ln_parseRow 41 rfl) fL_Ln_9_Ta rfl rfl ?_
        refine aw_getf (v := .int (nI (kd50))) (aw_d q_Ln_parseRow 42 rfl) fL_Ln_120_Sc rfl (gk rfl) ?_
        refine aw_aload_n (aw_d q_Ln_parseRow 43 rfl) rfl rfl rfl ?_
        refine aw_getf (aw_d q_Ln_parseRow 44 rfl) fL_Ln_9_Ta rfl rfl ?_
        refine aw_getf (v := .int (nI (ex50))) (aw_d q_Ln_parseRow 45 rfl) fL_Ln_123_Sc rfl (gk rfl) ?_
        refine aw_aload_n (aw_d q_Ln_parseRow 46 rfl) rfl rfl rfl ?_
        refine aw_getf (aw_d q_Ln_parseRow 47 rfl) fL_Ln_9_Ta rfl rfl ?_
        refine aw_getf (aw_d q_Ln_parseRow 48 rfl) fL_Ln_126_Sc rfl rfl ?_
        refine cV (aw_d q_Ln_parseRow 49 rfl) (sp_number hI hw h60 hs (c0 := r * 6 + v) (by have h6 := hI.2.1.2.1; omega) (kd := kd50) (ex := ex50) (L := M50) hk50.1 hk50.2.1 hm50.1) vL_Ln_130_Te rfl rfl rfl rfl rfl rfl ⟨aw_le rfl, aw_le rfl⟩ (fun r97 h97 hp97 => ?_)
        obtain ⟨rfl, F97, ht97, hf97, rfl⟩ := hp97
        refine cV (aw_d q_Ln_parseRow 50 rfl) (sp_setD hI ht97 hf97 (r := r) (v := v) hr (by have := hI.2.1.2.1; omega)) vL_Ln_136_Tb rfl rfl rfl rfl rfl rfl ⟨aw_le rfl, aw_le rfl⟩ (fun r100 h100 hp100 => ?_)
        obtain ⟨rfl, G100, hI100, rfl⟩ := hp100
        have hw50 : itW (r * 6 + v, kd50, ex50, M50) := ⟨hk50.1, hm50.1, hk50.2.1, hk50.2.2.1, hk50.2.2.2, hm50.2.1, hm50.2.2⟩
        have hs100 := itOK_add (m := r * 6 + (v + 1)) hs hw50 (by show r * 6 + v ≤ r * 6 + v; omega) (by show r * 6 + v < r * 6 + (v + 1); omega)
        refine aw_iinc (aw_d q_Ln_parseRow 51 rfl) rfl (ii1 _) (aw_le rfl) rfl ?_
        refine aw_goto (tgt := 7) (aw_d q_Ln_parseRow 52 rfl) (by decide) ?_
        exact AW.to (ih (v + 1) pp50 _ G100 _ _ _ _ _ _ (by omega) hp_50 hI100 hs100 (he.trans (by simp only [lb, bd_ok, bd_er, if_true, if_false, eq_self, ↓reduceIte, show ¬ 0 < v by omega, li, Bool.false_eq_true, hx50, adI]))) rfl rfl rfl rfl
    · refine aw_aload_n (aw_d q_Ln_parseRow 11 rfl) rfl rfl rfl ?_
      refine aw_getf (aw_d q_Ln_parseRow 12 rfl) fL_Ln_9_Ta rfl rfl ?_
      refine aw_aload_n (aw_d q_Ln_parseRow 13 rfl) rfl rfl rfl ?_
      refine aw_getf (aw_d q_Ln_parseRow 14 rfl) fL_Ln_27_Ta rfl rfl ?_
      refine cV (aw_d q_Ln_parseRow 15 rfl) (sp_took (frC_TP hI.1 hc) hp (B := (w_ls false).toInt) rfl) vL_Ln_107_Sc rfl rfl rfl rfl rfl rfl ⟨aw_le rfl, aw_le rfl⟩ (fun r27 h27 hp27 => ?_)
      cases Decidable.em ((T p).toInt = (w_ls false).toInt) with
      | inl hx27 =>
        rw [if_pos hx27, if_pos hx27] at hp27
        obtain ⟨rfl, rfl⟩ := hp27
        have hpn27 : p + 1 ≤ n := T_lt (frC_TP hI.1 hc).2.2.2.1 (p := p) (by have hq : (T p).toInt = 9 := hx27; omega)
        refine aw_ifN_ne (tgt := 41) (aw_d q_Ln_parseRow 16 rfl) (by decide) (by (have hc2 := hc.2.1; have h6 := hI.2.1.2.1; omega)) (fun c30 => ?_) (fun c30 => by exfalso; (have hc2 := hc.2.1; have h6 := hI.2.1.2.1; omega))
        refine aw_aload_n (aw_d q_Ln_parseRow 21 rfl) rfl rfl rfl ?_
        refine aw_getf (aw_d q_Ln_parseRow 22 rfl) fL_Ln_9_Ta rfl rfl ?_
        refine aw_iconst (v := (-1)) (aw_d q_Ln_parseRow 23 rfl) (by decide) ?_
        refine cVv (aw_d q_Ln_parseRow 24 rfl) (sp_beginTerm) vL_Ln_114_Sc rfl rfl rfl rfl rfl rfl ⟨aw_le rfl, aw_le rfl⟩ ?_
        refine aw_aload_n (aw_d q_Ln_parseRow 25 rfl) rfl rfl rfl ?_
        refine cV (aw_d q_Ln_parseRow 26 rfl) (sp_ti (frC_TP hI.1 hc) hpn27) vL_Ln_117_Ta rfl rfl rfl rfl rfl rfl ⟨aw_le rfl, aw_le rfl⟩ (fun r50 h50 hp50 => ?_)
        rcases li_split hp50 with ⟨u50, hx50, rfl, hf50⟩ | ⟨pp50, hx50, rfl, hp_50, rfl⟩ | ⟨pp50, kd50, ex50, M50, w50, l50, hx50, rfl, hp_50, rfl, hk50, hm50⟩
        · skip -- error
          refine aw_ifN_ne (tgt := 58) (aw_d q_Ln_parseRow 27 rfl) (by decide) (by (have hc2 := hc.2.1; have h6 := hI.2.1.2.1; omega)) (fun c53 => by exfalso; (have hc2 := hc.2.1; have h6 := hI.2.1.2.1; omega)) (fun c53 => ?_)
          refine aw_iconst (v := nI 0) (aw_d q_Ln_parseRow 28 rfl) (by decide) ?_
          exact aw_zret (aw_d q_Ln_parseRow 29 rfl) rfl (rfl) (by rw [he]; simp only [lb, bd_ok, bd_er, if_true, if_false, eq_self, ↓reduceIte, show 0 < v by omega, hx27, li, Bool.false_eq_true, hx50]; exact CG_er (itC_bs hI hw hs) hf50)
        · skip -- none
          refine aw_ifN_ne (tgt := 58) (aw_d q_Ln_parseRow 27 rfl) (by decide) (by (have hc2 := hc.2.1; have h6 := hI.2.1.2.1; omega)) (fun c53 => ?_) (fun c53 => by exfalso; (have hc2 := hc.2.1; have h6 := hI.2.1.2.1; omega))
          refine aw_aload_n (aw_d q_Ln_parseRow 30 rfl) rfl rfl rfl ?_
          refine aw_getf (aw_d q_Ln_parseRow 31 rfl) fL_Ln_9_Ta rfl rfl ?_
          refine aw_getf (v := .int ((-1))) (aw_d q_Ln_parseRow 32 rfl) fL_Ln_120_Sc rfl (gk rfl) ?_
          refine aw_iconst (v := (-1)) (aw_d q_Ln_parseRow 33 rfl) (by decide) ?_
          refine aw_icmpZ_eq (tgt := 103) (aw_d q_Ln_parseRow 34 rfl) (by decide) (fun c66 => ?_) (fun c66 => by exact absurd rfl c66)
          refine aw_iinc (aw_d q_Ln_parseRow 51 rfl) rfl (ii1 _) (aw_le rfl) rfl ?_
          refine aw_goto (tgt := 7) (aw_d q_Ln_parseRow 52 rfl) (by decide) ?_
          exact AW.to (ih (v + 1) pp50 s D _ _ _ _ _ _ (by omega) hp_50 hI (itOK_mono hs (by omega)) (he.trans (by simp only [lb, bd_ok, bd_er, if_true, if_false, eq_self, ↓reduceIte, show 0 < v by omega, hx27, li, Bool.false_eq_true, hx50, adI]))) rfl rfl rfl rfl
        · skip -- some
          refine aw_ifN_ne (tgt := 58) (aw_d q_Ln_parseRow 27 rfl) (by decide) (by (have hc2 := hc.2.1; have h6 := hI.2.1.2.1; omega)) (fun c53 => ?_) (fun c53 => by exfalso; (have hc2 := hc.2.1; have h6 := hI.2.1.2.1; omega))
          refine aw_aload_n (aw_d q_Ln_parseRow 30 rfl) rfl rfl rfl ?_
          refine aw_getf (aw_d q_Ln_parseRow 31 rfl) fL_Ln_9_Ta rfl rfl ?_
          refine aw_getf (v := .int (nI (kd50))) (aw_d q_Ln_parseRow 32 rfl) fL_Ln_120_Sc rfl (gk rfl) ?_
          refine aw_iconst (v := (-1)) (aw_d q_Ln_parseRow 33 rfl) (by decide) ?_
          refine aw_icmpJ_eq (tgt := 103) (aw_d q_Ln_parseRow 34 rfl) (by decide) (by (have hc2 := hc.2.1; have h6 := hI.2.1.2.1; omega)) (fun c66 => by (have h1 : (-1 : Int32).toInt = -1 := rfl; omega)) (fun c66 => ?_)
          refine aw_aload_n (aw_d q_Ln_parseRow 35 rfl) rfl rfl rfl ?_
          refine aw_iload_n (aw_d q_Ln_parseRow 36 rfl) rfl rfl ?_
          refine aw_iload_n (aw_d q_Ln_parseRow 37 rfl) rfl rfl ?_
          refine aw_aload_n (aw_d q_Ln_parseRow 38 rfl) rfl rfl rfl ?_
          refine aw_getf (aw_d q_Ln_parseRow 39 rfl) fL_Ln_19_Ta rfl rfl ?_
          refine aw_aload_n (aw_d q_Ln_parseRow 40 rfl) rfl rfl rfl ?_
          refine aw_getf (aw_d q_Ln_parseRow 41 rfl) fL_Ln_9_Ta rfl rfl ?_
          refine aw_getf (v := .int (nI (kd50))) (aw_d q_Ln_parseRow 42 rfl) fL_Ln_120_Sc rfl (gk rfl) ?_
          refine aw_aload_n (aw_d q_Ln_parseRow 43 rfl) rfl rfl rfl ?_
          refine aw_getf (aw_d q_Ln_parseRow 44 rfl) fL_Ln_9_Ta rfl rfl ?_
          refine aw_getf (v := .int (nI (ex50))) (aw_d q_Ln_parseRow 45 rfl) fL_Ln_123_Sc rfl (gk rfl) ?_
          refine aw_aload_n (aw_d q_Ln_parseRow 46 rfl) rfl rfl rfl ?_
          refine aw_getf (aw_d q_Ln_parseRow 47 rfl) fL_Ln_9_Ta rfl rfl ?_
          refine aw_getf (aw_d q_Ln_parseRow 48 rfl) fL_Ln_126_Sc rfl rfl ?_
          refine cV (aw_d q_Ln_parseRow 49 rfl) (sp_number hI hw h60 hs (c0 := r * 6 + v) (by have h6 := hI.2.1.2.1; omega) (kd := kd50) (ex := ex50) (L := M50) hk50.1 hk50.2.1 hm50.1) vL_Ln_130_Te rfl rfl rfl rfl rfl rfl ⟨aw_le rfl, aw_le rfl⟩ (fun r97 h97 hp97 => ?_)
          obtain ⟨rfl, F97, ht97, hf97, rfl⟩ := hp97
          refine cV (aw_d q_Ln_parseRow 50 rfl) (sp_setD hI ht97 hf97 (r := r) (v := v) hr (by have := hI.2.1.2.1; omega)) vL_Ln_136_Tb rfl rfl rfl rfl rfl rfl ⟨aw_le rfl, aw_le rfl⟩ (fun r100 h100 hp100 => ?_)
          obtain ⟨rfl, G100, hI100, rfl⟩ := hp100
          have hw50 : itW (r * 6 + v, kd50, ex50, M50) := ⟨hk50.1, hm50.1, hk50.2.1, hk50.2.2.1, hk50.2.2.2, hm50.2.1, hm50.2.2⟩
          have hs100 := itOK_add (m := r * 6 + (v + 1)) hs hw50 (by show r * 6 + v ≤ r * 6 + v; omega) (by show r * 6 + v < r * 6 + (v + 1); omega)
          refine aw_iinc (aw_d q_Ln_parseRow 51 rfl) rfl (ii1 _) (aw_le rfl) rfl ?_
          refine aw_goto (tgt := 7) (aw_d q_Ln_parseRow 52 rfl) (by decide) ?_
          exact AW.to (ih (v + 1) pp50 _ G100 _ _ _ _ _ _ (by omega) hp_50 hI100 hs100 (he.trans (by simp only [lb, bd_ok, bd_er, if_true, if_false, eq_self, ↓reduceIte, show 0 < v by omega, hx27, li, Bool.false_eq_true, hx50, adI]))) rfl rfl rfl rfl
      | inr hx27 =>
        rw [if_neg hx27, if_neg hx27] at hp27
        obtain ⟨rfl, rfl⟩ := hp27
        refine aw_ifN_ne (tgt := 41) (aw_d q_Ln_parseRow 16 rfl) (by decide) (by (have hc2 := hc.2.1; have h6 := hI.2.1.2.1; omega)) (fun c30 => by exfalso; (have hc2 := hc.2.1; have h6 := hI.2.1.2.1; omega)) (fun c30 => ?_)
        refine aw_aload_n (aw_d q_Ln_parseRow 17 rfl) rfl rfl rfl ?_
        refine aw_getf (aw_d q_Ln_parseRow 18 rfl) fL_Ln_9_Ta rfl rfl ?_
        refine cVr (aw_d q_Ln_parseRow 19 rfl) (sp_fail) vL_Ln_81_Sc rfl rfl rfl rfl rfl rfl ⟨aw_le rfl, aw_le rfl⟩ ?_
        exact aw_zret (aw_d q_Ln_parseRow 20 rfl) rfl (rfl) (by rw [he]; simp only [lb, bd_ok, bd_er, if_true, if_false, eq_self, ↓reduceIte, show 0 < v by omega, hx27]; exact CG_er (itC_bs hI hw hs) CF_i)
set_option maxRecDepth 20000 in
theorem sp_lb_32 {g : aw_G} {S D : aw_S} {E0 : ts_T} {N : nm_T} {s : sq_T} {r : Nat} {n : Nat} {T : Nat → Int32} {p : Nat} {q w l k e z : Int32} {X : Nat → Int32} (hw : tsW E0) (h60 : E0.1 ≤ 60) (hc : TPc S n T) (hp : p ≤ n) (hr : r < 24) (hI : itC S E0 N r s D) (hs : itOK s (r * 6))  : Sp g M_Ln_parseRow 8 177 0 0 [.ref 32, .ref 18] (HP (QC D (nI p) q w l k e z X)) (CG S E0 (lb false T n r N.1 0 p s) (fun (y : Nat × sq_T) h => ∃ (F : aw_S) (w l k e z : Int32) (X : Nat → Int32), itC S E0 N (r + 1) y.2 F ∧ itOK y.2 (r * 6 + 6) ∧ y.1 ≤ n ∧ h = HP (QC F (nI y.1) q w l k e z X))) := by
  refine Sp.of rfl (aw_le rfl) ?_
  refine aw_aload_n (aw_d q_Ln_parseRow 0 rfl) rfl rfl rfl ?_
  refine cV (aw_d q_Ln_parseRow 1 rfl) (sp_rowD hI hs hr) vL_Ln_111_Tb rfl rfl rfl rfl rfl rfl ⟨aw_le rfl, aw_le rfl⟩ (fun r1 h1 hp1 => ?_)
  obtain ⟨rfl, F1, hI1, rfl⟩ := hp1
  refine aw_istore_n (aw_d q_Ln_parseRow 2 rfl) rfl (aw_le rfl) rfl ?_
  refine aw_iconst (v := nI 0) (aw_d q_Ln_parseRow 3 rfl) (by decide) ?_
  refine aw_istore_n (aw_d q_Ln_parseRow 4 rfl) rfl (aw_le rfl) rfl ?_
  exact AW.to (lp_lb_32 hw h60 hc hr N.1 0 p s F1 _ _ _ _ _ _ (by omega) hp hI1 hs rfl) rfl rfl rfl rfl
set_option maxRecDepth 20000 in
theorem lp_ls_32 {g : aw_G} {S : aw_S} {E0 : ts_T} {n : Nat} {T : Nat → Int32} {q : Int32} (hw : tsW E0) (h60 : E0.1 ≤ 60) (hc : TPc S n T) {N : nm_T} {res : Except Nat rd_T} : ∀ (m i p r : Nat) (s : sq_T) (D : aw_S) (w l k e z : Int32) (X : Nat → Int32), m + i = 25 → p ≤ n → itC S E0 N r s D → itOK s (r * 6) → res = bd (ls false T n N.1 m p r s) (fun z => .ok (N, z.2)) → AW g M_Ln_parse (aw_rm 9 200 0 0) (aw_F g 0 0 (CG S E0 res (fun (y : rd_T) h => ∃ (F : aw_S) (p w l k e z : Int32) (X : Nat → Int32), itC S E0 y.1 y.2.1 y.2.2 F ∧ itOK y.2.2 (y.2.1 * 6) ∧ h = HP (QC F p q w l k e z X)))) 12 [some (.ref 32), some (.ref 18), some (.int (nI i))] [] (HP (QC D (nI p) q w l k e z X)) 0 0 := by
  intro m
  induction m with
  | zero =>
    intro i p r s D w l k e z X hk hp hI hs he
    refine aw_iload_n (aw_d q_Ln_parse 8 rfl) rfl rfl ?_
    refine aw_bipush (v := nI 24) (aw_d q_Ln_parse 9 rfl) (by decide) ?_
    refine aw_icmpN_gt (tgt := 61) (aw_d q_Ln_parse 10 rfl) (by decide) (by (have hc2 := hc.2.1; omega)) (by (have hc2 := hc.2.1; omega)) (fun c15 => ?_) (fun c15 => by exfalso; (have hc2 := hc.2.1; omega))
    refine aw_aload_n (aw_d q_Ln_parse 32 rfl) rfl rfl rfl ?_
    refine aw_getf (aw_d q_Ln_parse 33 rfl) fL_Ln_9_Ta rfl rfl ?_
    refine cVr (aw_d q_Ln_parse 34 rfl) (sp_fail) vL_Ln_81_Sc rfl rfl rfl rfl rfl rfl ⟨aw_le rfl, aw_le rfl⟩ ?_
    exact aw_zret (aw_d q_Ln_parse 35 rfl) rfl (rfl) (by rw [he]; exact CG_er (itC_bs hI hw hs) CF_i)
  | succ m ih =>
    intro i p r s D w l k e z X hk hp hI hs he
    refine aw_iload_n (aw_d q_Ln_parse 8 rfl) rfl rfl ?_
    refine aw_bipush (v := nI 24) (aw_d q_Ln_parse 9 rfl) (by decide) ?_
    refine aw_icmpN_gt (tgt := 61) (aw_d q_Ln_parse 10 rfl) (by decide) (by (have hc2 := hc.2.1; omega)) (by (have hc2 := hc.2.1; omega)) (fun c15 => by exfalso; (have hc2 := hc.2.1; omega)) (fun c15 => ?_)
    refine aw_aload_n (aw_d q_Ln_parse 11 rfl) rfl rfl rfl ?_
    refine aw_getf (aw_d q_Ln_parse 12 rfl) fL_Ln_9_Ta rfl rfl ?_
    refine cVr (aw_d q_Ln_parse 13 rfl) (sp_isEnded (frC_TP hI.1 hc) hp) vL_Ln_72_Sc rfl rfl rfl rfl rfl rfl ⟨aw_le rfl, aw_le rfl⟩ ?_
    refine aw_ifB_eq (tgt := 30) (aw_d q_Ln_parse 14 rfl) (by decide) (fun c25 => ?_) (fun c25 => ?_)
    · refine aw_aload_n (aw_d q_Ln_parse 17 rfl) rfl rfl rfl ?_
      refine cVr (aw_d q_Ln_parse 18 rfl) (sp_Tb_hasRoomForRow_18 (nmC_T hI.2.1 hI.2.2.1.1 hI.2.2.1.2)) vL_Ln_78_Tb rfl rfl rfl rfl rfl rfl ⟨aw_le rfl, aw_le rfl⟩ ?_
      refine aw_ifB_ne (tgt := 45) (aw_d q_Ln_parse 19 rfl) (by decide) (fun c34 => ?_) (fun c34 => ?_)
      · refine aw_aload_n (aw_d q_Ln_parse 24 rfl) rfl rfl rfl ?_
        refine aw_aload_n (aw_d q_Ln_parse 25 rfl) rfl rfl rfl ?_
        refine cV (aw_d q_Ln_parse 26 rfl) (sp_lb_32 hw h60 hc hp (by omega) hI hs) vL_Ln_84_Ta rfl rfl rfl rfl rfl rfl ⟨aw_le rfl, aw_le rfl⟩ (fun r47 h47 hp47 => ?_)
        cases hx47 : lb false T n r N.1 0 p s with
        | error u47 =>
          rw [hx47] at hp47
          obtain ⟨rfl, F47, hb47, hf47⟩ := hp47
          refine aw_ifN_ne (tgt := 55) (aw_d q_Ln_parse 27 rfl) (by decide) (by (have hc2 := hc.2.1; omega)) (fun c50 => by exfalso; (have hc2 := hc.2.1; omega)) (fun c50 => ?_)
          refine aw_iconst (v := nI 0) (aw_d q_Ln_parse 28 rfl) (by decide) ?_
          exact aw_zret (aw_d q_Ln_parse 29 rfl) rfl (rfl) (by rw [he, ls, if_neg c25, if_pos c34, hx47, bd_er, bd_er]; exact CG_er hb47 hf47)
        | ok y47 =>
          rw [hx47] at hp47
          obtain ⟨rfl, F47, w47, l47, k47, e47, z47, X47, hI47, hs47, hp_47, rfl⟩ := hp47
          have hs47 := itOK_mono hs47 (show r * 6 + 6 ≤ (r + 1) * 6 by omega)
          refine aw_ifN_ne (tgt := 55) (aw_d q_Ln_parse 27 rfl) (by decide) (by (have hc2 := hc.2.1; omega)) (fun c50 => ?_) (fun c50 => by exfalso; (have hc2 := hc.2.1; omega))
          refine aw_iinc (aw_d q_Ln_parse 30 rfl) rfl (ii1 _) (aw_le rfl) rfl ?_
          refine aw_goto (tgt := 12) (aw_d q_Ln_parse 31 rfl) (by decide) ?_
          exact AW.to (ih (i + 1) y47.1 (r + 1) y47.2 F47 _ _ _ _ _ _ (by omega) hp_47 hI47 hs47 (he.trans (by rw [ls, if_neg c25, if_pos c34, hx47, bd_ok]))) rfl rfl rfl rfl
      · refine aw_aload_n (aw_d q_Ln_parse 20 rfl) rfl rfl rfl ?_
        refine aw_getf (aw_d q_Ln_parse 21 rfl) fL_Ln_9_Ta rfl rfl ?_
        refine cVr (aw_d q_Ln_parse 22 rfl) (sp_fail) vL_Ln_81_Sc rfl rfl rfl rfl rfl rfl ⟨aw_le rfl, aw_le rfl⟩ ?_
        exact aw_zret (aw_d q_Ln_parse 23 rfl) rfl (rfl) (by rw [he, ls, if_neg c25, if_neg c34, bd_er]; exact CG_er (itC_bs hI hw hs) CF_i)
    · refine aw_iconst (v := nI 1) (aw_d q_Ln_parse 15 rfl) (by decide) ?_
      exact aw_zret (aw_d q_Ln_parse 16 rfl) rfl (rfl) (by rw [he, ls, if_pos c25, bd_ok]; exact CG_ok ⟨_, _, _, _, _, _, _, _, hI, hs, rfl⟩)
set_option maxRecDepth 20000 in
theorem sp_rdL_32 {g : aw_G} {S D : aw_S} {E0 : ts_T} {N : nm_T} {n : Nat} {T : Nat → Int32} {q w l k e z : Int32} {X : Nat → Int32} (hw : tsW E0) (h60 : E0.1 ≤ 60) (hc : TPc S n T) (hI : itC S E0 N 0 [] D)  : Sp g M_Ln_parse 9 200 0 0 [.ref 32, .ref 18] (HP (QC D (nI 0) q w l k e z X)) (CG S E0 (rdL false T n N) (fun (y : rd_T) h => ∃ (F : aw_S) (p w l k e z : Int32) (X : Nat → Int32), itC S E0 y.1 y.2.1 y.2.2 F ∧ itOK y.2.2 (y.2.1 * 6) ∧ h = HP (QC F p q w l k e z X))) := by
  refine Sp.of rfl (aw_le rfl) ?_
  refine aw_aload_n (aw_d q_Ln_parse 0 rfl) rfl rfl rfl ?_
  refine aw_aload_n (aw_d q_Ln_parse 1 rfl) rfl rfl rfl ?_
  refine cV (aw_d q_Ln_parse 2 rfl) (sp_ln_32 hw h60 hc (Nat.zero_le n) hI) vL_Ln_68_Ta rfl rfl rfl rfl rfl rfl ⟨aw_le rfl, aw_le rfl⟩ (fun r2 h2 hp2 => ?_)
  cases hx2 : ln false T n N 0 with
  | error u2 =>
    rw [hx2] at hp2
    obtain ⟨rfl, F2, hb2, hf2⟩ := hp2
    refine aw_ifN_ne (tgt := 10) (aw_d q_Ln_parse 3 rfl) (by decide) (by omega) (fun c5 => by exfalso; omega) (fun c5 => ?_)
    refine aw_iconst (v := nI 0) (aw_d q_Ln_parse 4 rfl) (by decide) ?_
    exact aw_zret (aw_d q_Ln_parse 5 rfl) rfl (rfl) (by rw [rdL, hx2, bd_er]; exact CG_er hb2 hf2)
  | ok y2 =>
    rw [hx2] at hp2
    obtain ⟨rfl, F2, w2, l2, k2, e2, z2, X2, hI2, hp_2, rfl⟩ := hp2
    refine aw_ifN_ne (tgt := 10) (aw_d q_Ln_parse 3 rfl) (by decide) (by omega) (fun c5 => ?_) (fun c5 => by exfalso; omega)
    refine aw_iconst (v := nI 0) (aw_d q_Ln_parse 6 rfl) (by decide) ?_
    refine aw_istore_n (aw_d q_Ln_parse 7 rfl) rfl (aw_le rfl) rfl ?_
    rw [rdL, hx2, bd_ok]
    exact AW.to (lp_ls_32 hw h60 hc 25 0 y2.1 0 [] F2 _ _ _ _ _ _ (by omega) hp_2 hI2 itOK_nil rfl) rfl rfl rfl rfl
