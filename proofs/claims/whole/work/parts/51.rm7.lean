theorem jt_eq {T : Nat → Int32} {n p : Nat} : jt T n p = bd (ml T n (tx 66) p) (fun p => bd (kw T n p) (fun y => bd (ml T n (tx 70) y.1) (fun p => vbV T n y.2 p))) := by
  simp only [jt, jv, vbV, bd_bd, bd_ok]
theorem kw_no {T : Nat → Int32} {n p : Nat} (h : we T n p = p) : kw T n p = .error p := by
  have hl : ∀ j, 0 < (tx j).length → ¬ wm T p (we T n p) j = true := fun j hj => by
    rw [wm, h, Nat.sub_self, decide_eq_false (by omega), Bool.false_and]; exact Bool.false_ne_true
  rw [kw, if_neg (hl 67 (by decide)), if_neg (hl 68 (by decide)), if_neg (hl 69 (by decide))]
theorem mu73y {T : Nat → Int32} {p : Nat} (h : (T p).toInt = 125) : mu T (tx 73) p = .ok (p + 1) := mu1 rfl h
set_option maxRecDepth 20000 in
theorem lp_rb {g : aw_G} {S : aw_S} {N : nm_T} {r : Nat} {n : Nat} {T : Nat → Int32} (hc : TPm S n T) {res : Except Nat (Nat × sq_T)} : ∀ (m p lo : Nat) (s : sq_T) (D : aw_S) (x f z : Int32) (X : Nat → Int32) (x3 x4 : Option Value), 7 ≤ m + lo → p ≤ n → x.toInt = (lo : Int) - 1 → lo ≤ 6 → imC S N (r + 1) s D → itOK s (r * 6 + lo) → res = jb T n N r m p lo s → AW g M_Mo_rowBraces (aw_rm 5 113 0 0) (aw_F g 0 0 (fun x h => x = none ∧ match res with
  | .ok y => ∃ (F : aw_S) (f z : Int32) (X : Nat → Int32), (imC S N (r + 1) y.2 F ∧ itOK y.2 (r * 6 + 6)) ∧ y.1 ≤ n ∧ h = HP (QM F (nI y.1) (-1) f z X)
  | .error u => u ≤ 3000 ∧ ∃ (F : aw_S) (b : Nat) (f z : Int32) (X : Nat → Int32), frM S F ∧ b ≤ 3010 ∧ h = HP (QM F (nI b) (nI u) f z X))) 28 [some (.ref 33), some (.int (nI 1)), some (.int x), x3, x4] [] (HP (QM D (nI p) (-1) f z X)) 0 0 := by
  have hc2 := hc.2.1
  intro m
  induction m with
  | zero => intro p lo s D x f z X x3 x4 hk hp hx2 hlo hI hs he; exfalso; omega
  | succ m ih =>
    intro p lo s D x f z X x3 x4 hk hp hx2 hlo hI hs he
    refine aw_iload_n (aw_d q_Mo_rowBraces 15 rfl) rfl rfl ?_
    refine aw_ifN_eq (tgt := 223) (aw_d q_Mo_rowBraces 16 rfl) (by decide) (by (have hc2 := hc.2.1; omega)) (fun c29 => by exfalso; (have hc2 := hc.2.1; omega)) (fun c29 => ?_)
    refine aw_aload_n (aw_d q_Mo_rowBraces 17 rfl) rfl rfl rfl ?_
    refine cVr (aw_d q_Mo_rowBraces 18 rfl) (sp_goesA) vL_Mo_327_Mo rfl rfl rfl rfl rfl rfl ⟨aw_le rfl, aw_le rfl⟩ ?_
    refine aw_ifN_eq (tgt := 223) (aw_d q_Mo_rowBraces 19 rfl) (by decide) (by (have hc2 := hc.2.1; omega)) (fun c36 => by exfalso; (have hc2 := hc.2.1; omega)) (fun c36 => ?_)
    refine aw_aload_n (aw_d q_Mo_rowBraces 20 rfl) rfl rfl rfl ?_
    refine aw_bipush (v := nI 34) (aw_d q_Mo_rowBraces 21 rfl) (by decide) ?_
    refine cV (aw_d q_Mo_rowBraces 22 rfl) (sp_Lsign (res := .ok (p, ())) (A := []) (c := 34) (frM_TP hI.1 hc) (by decide) (RR_st (T := T) hp)) vL_Mo_343_Mo rfl rfl rfl rfl rfl rfl ⟨aw_le rfl, aw_le rfl⟩ (fun r42 h42 hp42 => ?_)
    obtain ⟨rfl, b42, q42, hr42, rfl⟩ := hp42
    rw [bp_ok, show ml T n ([] ++ [32, nI 34]) p = ml T n (tx 61) p from (congrArg (fun L => ml T n L _) (show _ = tx 61 by decide))] at hr42
    cases hx45s : ml T n (tx 61) p with
    | error u45s =>
      rw [hx45s] at hr42
      obtain ⟨hu45s, rfl, hb45s⟩ := hr42
      refine aw_aload_n (aw_d q_Mo_rowBraces 23 rfl) rfl rfl rfl ?_
      refine aw_iload_n (aw_d q_Mo_rowBraces 24 rfl) rfl rfl ?_
      refine cVr (aw_d q_Mo_rowBraces 25 rfl) (sp_rowNI hu45s hb45s) vL_Mo_404_Mo rfl rfl rfl rfl rfl rfl ⟨aw_le rfl, aw_le rfl⟩ ?_
      refine aw_istore_n (aw_d q_Mo_rowBraces 26 rfl) rfl (aw_le rfl) rfl ?_
      refine aw_aload_n (aw_d q_Mo_rowBraces 27 rfl) rfl rfl rfl ?_
      refine aw_ldc2 (aw_d q_Mo_rowBraces 28 rfl) lL_Mo_167 ?_
      refine aw_iconst (v := nI 1) (aw_d q_Mo_rowBraces 29 rfl) (by decide) ?_
      refine cVv (aw_d q_Mo_rowBraces 30 rfl) (sp_mustI hu45s (by decide)) vL_Mo_340_Mo rfl rfl rfl rfl rfl rfl ⟨aw_le rfl, aw_le rfl⟩ ?_
      refine aw_aload_n (aw_d q_Mo_rowBraces 31 rfl) rfl rfl rfl ?_
      refine aw_bipush (v := nI 58) (aw_d q_Mo_rowBraces 32 rfl) (by decide) ?_
      refine cVv (aw_d q_Mo_rowBraces 33 rfl) (sp_signI hu45s) vL_Mo_343_Mo rfl rfl rfl rfl rfl rfl ⟨aw_le rfl, aw_le rfl⟩ ?_
      refine aw_aload_n (aw_d q_Mo_rowBraces 34 rfl) rfl rfl rfl ?_
      refine aw_bipush (v := nI 123) (aw_d q_Mo_rowBraces 35 rfl) (by decide) ?_
      refine cVv (aw_d q_Mo_rowBraces 36 rfl) (sp_signI hu45s) vL_Mo_343_Mo rfl rfl rfl rfl rfl rfl ⟨aw_le rfl, aw_le rfl⟩ ?_
      refine aw_aload_n (aw_d q_Mo_rowBraces 37 rfl) rfl rfl rfl ?_
      refine aw_ldc2 (aw_d q_Mo_rowBraces 38 rfl) lL_Mo_407 ?_
      refine aw_iconst (v := nI 4) (aw_d q_Mo_rowBraces 39 rfl) (by decide) ?_
      refine cVv (aw_d q_Mo_rowBraces 40 rfl) (sp_quotedI hu45s (by decide)) vL_Mo_380_Mo rfl rfl rfl rfl rfl rfl ⟨aw_le rfl, aw_le rfl⟩ ?_
      refine aw_aload_n (aw_d q_Mo_rowBraces 41 rfl) rfl rfl rfl ?_
      refine aw_bipush (v := nI 58) (aw_d q_Mo_rowBraces 42 rfl) (by decide) ?_
      refine cVv (aw_d q_Mo_rowBraces 43 rfl) (sp_signI hu45s) vL_Mo_343_Mo rfl rfl rfl rfl rfl rfl ⟨aw_le rfl, aw_le rfl⟩ ?_
      refine aw_aload_n (aw_d q_Mo_rowBraces 44 rfl) rfl rfl rfl ?_
      refine aw_bipush (v := nI 34) (aw_d q_Mo_rowBraces 45 rfl) (by decide) ?_
      refine cVv (aw_d q_Mo_rowBraces 46 rfl) (sp_signI hu45s) vL_Mo_343_Mo rfl rfl rfl rfl rfl rfl ⟨aw_le rfl, aw_le rfl⟩ ?_
      refine aw_aload_n (aw_d q_Mo_rowBraces 47 rfl) rfl rfl rfl ?_
      refine cVr (aw_d q_Mo_rowBraces 48 rfl) (sp_letI hu45s hb45s) vL_Mo_352_Mo rfl rfl rfl rfl rfl rfl ⟨aw_le rfl, aw_le rfl⟩ ?_
      refine aw_istore_n (aw_d q_Mo_rowBraces 49 rfl) rfl (aw_le rfl) rfl ?_
      refine aw_aload_n (aw_d q_Mo_rowBraces 50 rfl) rfl rfl rfl ?_
      refine cVr (aw_d q_Mo_rowBraces 51 rfl) (sp_goesI hu45s) vL_Mo_327_Mo rfl rfl rfl rfl rfl rfl ⟨aw_le rfl, aw_le rfl⟩ ?_
      refine aw_ifN_ne (tgt := 107) (aw_d q_Mo_rowBraces 52 rfl) (by decide) (by (have hc2 := hc.2.1; omega)) (fun c100 => by exfalso; (have hc2 := hc.2.1; omega)) (fun c100 => ?_)
      refine aw_iconst (v := nI 0) (aw_d q_Mo_rowBraces 53 rfl) (by decide) ?_
      refine aw_goto (tgt := 157) (aw_d q_Mo_rowBraces 54 rfl) (by decide) ?_
      refine aw_istore (aw_d q_Mo_rowBraces 80 rfl) (aw_le rfl) rfl ?_
      refine aw_iload (aw_d q_Mo_rowBraces 81 rfl) rfl ?_
      refine aw_ifN_ge (tgt := 172) (aw_d q_Mo_rowBraces 82 rfl) (by decide) (by (have hc2 := hc.2.1; omega)) (fun c161 => ?_) (fun c161 => by exfalso; (have hc2 := hc.2.1; omega))
      refine aw_aload_n (aw_d q_Mo_rowBraces 87 rfl) rfl rfl rfl ?_
      refine aw_ldc2 (aw_d q_Mo_rowBraces 88 rfl) lL_Mo_167 ?_
      refine aw_iconst (v := nI 1) (aw_d q_Mo_rowBraces 89 rfl) (by decide) ?_
      refine cVv (aw_d q_Mo_rowBraces 90 rfl) (sp_mustI hu45s (by decide)) vL_Mo_340_Mo rfl rfl rfl rfl rfl rfl ⟨aw_le rfl, aw_le rfl⟩ ?_
      refine aw_aload_n (aw_d q_Mo_rowBraces 91 rfl) rfl rfl rfl ?_
      refine aw_bipush (v := nI 44) (aw_d q_Mo_rowBraces 92 rfl) (by decide) ?_
      refine cVv (aw_d q_Mo_rowBraces 93 rfl) (sp_signI hu45s) vL_Mo_343_Mo rfl rfl rfl rfl rfl rfl ⟨aw_le rfl, aw_le rfl⟩ ?_
      refine aw_aload_n (aw_d q_Mo_rowBraces 94 rfl) rfl rfl rfl ?_
      refine aw_ldc2 (aw_d q_Mo_rowBraces 95 rfl) lL_Mo_409 ?_
      refine aw_iconst (v := nI 5) (aw_d q_Mo_rowBraces 96 rfl) (by decide) ?_
      refine cVv (aw_d q_Mo_rowBraces 97 rfl) (sp_quotedI hu45s (by decide)) vL_Mo_380_Mo rfl rfl rfl rfl rfl rfl ⟨aw_le rfl, aw_le rfl⟩ ?_
      refine aw_aload_n (aw_d q_Mo_rowBraces 98 rfl) rfl rfl rfl ?_
      refine aw_bipush (v := nI 58) (aw_d q_Mo_rowBraces 99 rfl) (by decide) ?_
      refine cVv (aw_d q_Mo_rowBraces 100 rfl) (sp_signI hu45s) vL_Mo_343_Mo rfl rfl rfl rfl rfl rfl ⟨aw_le rfl, aw_le rfl⟩ ?_
      refine aw_aload_n (aw_d q_Mo_rowBraces 101 rfl) rfl rfl rfl ?_
      refine aw_bipush (v := nI 34) (aw_d q_Mo_rowBraces 102 rfl) (by decide) ?_
      refine cVv (aw_d q_Mo_rowBraces 103 rfl) (sp_signI hu45s) vL_Mo_343_Mo rfl rfl rfl rfl rfl rfl ⟨aw_le rfl, aw_le rfl⟩ ?_
      refine aw_aload_n (aw_d q_Mo_rowBraces 104 rfl) rfl rfl rfl ?_
      refine aw_iload_n (aw_d q_Mo_rowBraces 105 rfl) rfl rfl ?_
      refine aw_iload (aw_d q_Mo_rowBraces 106 rfl) rfl ?_
      refine cV (aw_d q_Mo_rowBraces 107 rfl) (sp_valBI hu45s hb45s) vL_Mo_411_Mo rfl rfl rfl rfl rfl rfl ⟨aw_le rfl, aw_le rfl⟩ (fun r210 h210 hp210 => ?_)
      obtain ⟨rfl, f210, z210, X210, rfl⟩ := hp210
      refine aw_aload_n (aw_d q_Mo_rowBraces 108 rfl) rfl rfl rfl ?_
      refine aw_bipush (v := nI 125) (aw_d q_Mo_rowBraces 109 rfl) (by decide) ?_
      refine cVr (aw_d q_Mo_rowBraces 110 rfl) (sp_anI hu45s hb45s) vL_Mo_388_Mo rfl rfl rfl rfl rfl rfl ⟨aw_le rfl, aw_le rfl⟩ ?_
      refine aw_istore_n (aw_d q_Mo_rowBraces 111 rfl) rfl (aw_le rfl) rfl ?_
      refine aw_goto (tgt := 28) (aw_d q_Mo_rowBraces 112 rfl) (by decide) ?_
      refine aw_iload_n (aw_d q_Mo_rowBraces 15 rfl) rfl rfl ?_
      refine aw_ifN_eq (tgt := 223) (aw_d q_Mo_rowBraces 16 rfl) (by decide) (by omega) (fun c29 => ?_) (fun c29 => by exfalso; omega)
      refine aw_aload_n (aw_d q_Mo_rowBraces 113 rfl) rfl rfl rfl ?_
      refine aw_bipush (v := nI 125) (aw_d q_Mo_rowBraces 114 rfl) (by decide) ?_
      refine cVv (aw_d q_Mo_rowBraces 115 rfl) (sp_signI hu45s) vL_Mo_343_Mo rfl rfl rfl rfl rfl rfl ⟨aw_le rfl, aw_le rfl⟩ ?_
      exact aw_vret (aw_d q_Mo_rowBraces 116 rfl) rfl (⟨rfl, by rw [show res = .error u45s from he.trans (by simp only [jb, jt_eq, bd_ok, bd_er, if_true, if_false, eq_self, ↓reduceIte, hx45s])]; exact ⟨hu45s, _, _, _, _, _, hI.1, hb45s, rfl⟩⟩)
    | ok p45s =>
      rw [hx45s] at hr42
      obtain ⟨hbb45s, hp_45s, rfl⟩ := hr42
      have hbb45s : b42 = p45s := hbb45s
      subst hbb45s
      refine aw_aload_n (aw_d q_Mo_rowBraces 23 rfl) rfl rfl rfl ?_
      refine aw_iload_n (aw_d q_Mo_rowBraces 24 rfl) rfl rfl ?_
      refine cV (aw_d q_Mo_rowBraces 25 rfl) (sp_rowNA hI hc hp_45s (lo := lo) hx2) vL_Mo_404_Mo rfl rfl rfl rfl rfl rfl ⟨aw_le rfl, aw_le rfl⟩ (fun r47 h47 hp47 => ?_)
      cases hx47 : rn T n N lo b42 with
      | error u47 =>
        rw [hx47] at hp47
        obtain ⟨hue47, ⟨v47, rfl⟩, b47, hb47, rfl⟩ := hp47
        subst hue47
        refine aw_istore_n (aw_d q_Mo_rowBraces 26 rfl) rfl (aw_le rfl) rfl ?_
        refine aw_aload_n (aw_d q_Mo_rowBraces 27 rfl) rfl rfl rfl ?_
        refine aw_ldc2 (aw_d q_Mo_rowBraces 28 rfl) lL_Mo_167 ?_
        refine aw_iconst (v := nI 1) (aw_d q_Mo_rowBraces 29 rfl) (by decide) ?_
        refine cVv (aw_d q_Mo_rowBraces 30 rfl) (sp_mustI (show u47 ≤ 3000 by have := hc.2.1; have := hp_45s; omega) (by decide)) vL_Mo_340_Mo rfl rfl rfl rfl rfl rfl ⟨aw_le rfl, aw_le rfl⟩ ?_
        refine aw_aload_n (aw_d q_Mo_rowBraces 31 rfl) rfl rfl rfl ?_
        refine aw_bipush (v := nI 58) (aw_d q_Mo_rowBraces 32 rfl) (by decide) ?_
        refine cVv (aw_d q_Mo_rowBraces 33 rfl) (sp_signI (show u47 ≤ 3000 by have := hc.2.1; have := hp_45s; omega)) vL_Mo_343_Mo rfl rfl rfl rfl rfl rfl ⟨aw_le rfl, aw_le rfl⟩ ?_
        refine aw_aload_n (aw_d q_Mo_rowBraces 34 rfl) rfl rfl rfl ?_
        refine aw_bipush (v := nI 123) (aw_d q_Mo_rowBraces 35 rfl) (by decide) ?_
        refine cVv (aw_d q_Mo_rowBraces 36 rfl) (sp_signI (show u47 ≤ 3000 by have := hc.2.1; have := hp_45s; omega)) vL_Mo_343_Mo rfl rfl rfl rfl rfl rfl ⟨aw_le rfl, aw_le rfl⟩ ?_
        refine aw_aload_n (aw_d q_Mo_rowBraces 37 rfl) rfl rfl rfl ?_
        refine aw_ldc2 (aw_d q_Mo_rowBraces 38 rfl) lL_Mo_407 ?_
        refine aw_iconst (v := nI 4) (aw_d q_Mo_rowBraces 39 rfl) (by decide) ?_
        refine cVv (aw_d q_Mo_rowBraces 40 rfl) (sp_quotedI (show u47 ≤ 3000 by have := hc.2.1; have := hp_45s; omega) (by decide)) vL_Mo_380_Mo rfl rfl rfl rfl rfl rfl ⟨aw_le rfl, aw_le rfl⟩ ?_
        refine aw_aload_n (aw_d q_Mo_rowBraces 41 rfl) rfl rfl rfl ?_
        refine aw_bipush (v := nI 58) (aw_d q_Mo_rowBraces 42 rfl) (by decide) ?_
        refine cVv (aw_d q_Mo_rowBraces 43 rfl) (sp_signI (show u47 ≤ 3000 by have := hc.2.1; have := hp_45s; omega)) vL_Mo_343_Mo rfl rfl rfl rfl rfl rfl ⟨aw_le rfl, aw_le rfl⟩ ?_
        refine aw_aload_n (aw_d q_Mo_rowBraces 44 rfl) rfl rfl rfl ?_
        refine aw_bipush (v := nI 34) (aw_d q_Mo_rowBraces 45 rfl) (by decide) ?_
        refine cVv (aw_d q_Mo_rowBraces 46 rfl) (sp_signI (show u47 ≤ 3000 by have := hc.2.1; have := hp_45s; omega)) vL_Mo_343_Mo rfl rfl rfl rfl rfl rfl ⟨aw_le rfl, aw_le rfl⟩ ?_
        refine aw_aload_n (aw_d q_Mo_rowBraces 47 rfl) rfl rfl rfl ?_
        refine cVr (aw_d q_Mo_rowBraces 48 rfl) (sp_letI (show u47 ≤ 3000 by have := hc.2.1; have := hp_45s; omega) (show b47 ≤ 3010 by have := hc.2.1; omega)) vL_Mo_352_Mo rfl rfl rfl rfl rfl rfl ⟨aw_le rfl, aw_le rfl⟩ ?_
        refine aw_istore_n (aw_d q_Mo_rowBraces 49 rfl) rfl (aw_le rfl) rfl ?_
        refine aw_aload_n (aw_d q_Mo_rowBraces 50 rfl) rfl rfl rfl ?_
        refine cVr (aw_d q_Mo_rowBraces 51 rfl) (sp_goesI (show u47 ≤ 3000 by have := hc.2.1; have := hp_45s; omega)) vL_Mo_327_Mo rfl rfl rfl rfl rfl rfl ⟨aw_le rfl, aw_le rfl⟩ ?_
        refine aw_ifN_ne (tgt := 107) (aw_d q_Mo_rowBraces 52 rfl) (by decide) (by (have hc2 := hc.2.1; omega)) (fun c100 => by exfalso; (have hc2 := hc.2.1; omega)) (fun c100 => ?_)
        refine aw_iconst (v := nI 0) (aw_d q_Mo_rowBraces 53 rfl) (by decide) ?_
        refine aw_goto (tgt := 157) (aw_d q_Mo_rowBraces 54 rfl) (by decide) ?_
        refine aw_istore (aw_d q_Mo_rowBraces 80 rfl) (aw_le rfl) rfl ?_
        refine aw_iload (aw_d q_Mo_rowBraces 81 rfl) rfl ?_
        refine aw_ifN_ge (tgt := 172) (aw_d q_Mo_rowBraces 82 rfl) (by decide) (by (have hc2 := hc.2.1; omega)) (fun c161 => ?_) (fun c161 => by exfalso; (have hc2 := hc.2.1; omega))
        refine aw_aload_n (aw_d q_Mo_rowBraces 87 rfl) rfl rfl rfl ?_
        refine aw_ldc2 (aw_d q_Mo_rowBraces 88 rfl) lL_Mo_167 ?_
        refine aw_iconst (v := nI 1) (aw_d q_Mo_rowBraces 89 rfl) (by decide) ?_
        refine cVv (aw_d q_Mo_rowBraces 90 rfl) (sp_mustI (show u47 ≤ 3000 by have := hc.2.1; have := hp_45s; omega) (by decide)) vL_Mo_340_Mo rfl rfl rfl rfl rfl rfl ⟨aw_le rfl, aw_le rfl⟩ ?_
        refine aw_aload_n (aw_d q_Mo_rowBraces 91 rfl) rfl rfl rfl ?_
        refine aw_bipush (v := nI 44) (aw_d q_Mo_rowBraces 92 rfl) (by decide) ?_
        refine cVv (aw_d q_Mo_rowBraces 93 rfl) (sp_signI (show u47 ≤ 3000 by have := hc.2.1; have := hp_45s; omega)) vL_Mo_343_Mo rfl rfl rfl rfl rfl rfl ⟨aw_le rfl, aw_le rfl⟩ ?_
        refine aw_aload_n (aw_d q_Mo_rowBraces 94 rfl) rfl rfl rfl ?_
        refine aw_ldc2 (aw_d q_Mo_rowBraces 95 rfl) lL_Mo_409 ?_
        refine aw_iconst (v := nI 5) (aw_d q_Mo_rowBraces 96 rfl) (by decide) ?_
        refine cVv (aw_d q_Mo_rowBraces 97 rfl) (sp_quotedI (show u47 ≤ 3000 by have := hc.2.1; have := hp_45s; omega) (by decide)) vL_Mo_380_Mo rfl rfl rfl rfl rfl rfl ⟨aw_le rfl, aw_le rfl⟩ ?_
        refine aw_aload_n (aw_d q_Mo_rowBraces 98 rfl) rfl rfl rfl ?_
        refine aw_bipush (v := nI 58) (aw_d q_Mo_rowBraces 99 rfl) (by decide) ?_
        refine cVv (aw_d q_Mo_rowBraces 100 rfl) (sp_signI (show u47 ≤ 3000 by have := hc.2.1; have := hp_45s; omega)) vL_Mo_343_Mo rfl rfl rfl rfl rfl rfl ⟨aw_le rfl, aw_le rfl⟩ ?_
        refine aw_aload_n (aw_d q_Mo_rowBraces 101 rfl) rfl rfl rfl ?_
        refine aw_bipush (v := nI 34) (aw_d q_Mo_rowBraces 102 rfl) (by decide) ?_
        refine cVv (aw_d q_Mo_rowBraces 103 rfl) (sp_signI (show u47 ≤ 3000 by have := hc.2.1; have := hp_45s; omega)) vL_Mo_343_Mo rfl rfl rfl rfl rfl rfl ⟨aw_le rfl, aw_le rfl⟩ ?_
        refine aw_aload_n (aw_d q_Mo_rowBraces 104 rfl) rfl rfl rfl ?_
        refine aw_iload_n (aw_d q_Mo_rowBraces 105 rfl) rfl rfl ?_
        refine aw_iload (aw_d q_Mo_rowBraces 106 rfl) rfl ?_
        refine cV (aw_d q_Mo_rowBraces 107 rfl) (sp_valBI (show u47 ≤ 3000 by have := hc.2.1; have := hp_45s; omega) (show b47 ≤ 3010 by have := hc.2.1; omega)) vL_Mo_411_Mo rfl rfl rfl rfl rfl rfl ⟨aw_le rfl, aw_le rfl⟩ (fun r210 h210 hp210 => ?_)
        obtain ⟨rfl, f210, z210, X210, rfl⟩ := hp210
        refine aw_aload_n (aw_d q_Mo_rowBraces 108 rfl) rfl rfl rfl ?_
        refine aw_bipush (v := nI 125) (aw_d q_Mo_rowBraces 109 rfl) (by decide) ?_
        refine cVr (aw_d q_Mo_rowBraces 110 rfl) (sp_anI (show u47 ≤ 3000 by have := hc.2.1; have := hp_45s; omega) (show b47 ≤ 3010 by have := hc.2.1; omega)) vL_Mo_388_Mo rfl rfl rfl rfl rfl rfl ⟨aw_le rfl, aw_le rfl⟩ ?_
        refine aw_istore_n (aw_d q_Mo_rowBraces 111 rfl) rfl (aw_le rfl) rfl ?_
        refine aw_goto (tgt := 28) (aw_d q_Mo_rowBraces 112 rfl) (by decide) ?_
        refine aw_iload_n (aw_d q_Mo_rowBraces 15 rfl) rfl rfl ?_
        refine aw_ifN_eq (tgt := 223) (aw_d q_Mo_rowBraces 16 rfl) (by decide) (by omega) (fun c29 => ?_) (fun c29 => by exfalso; omega)
        refine aw_aload_n (aw_d q_Mo_rowBraces 113 rfl) rfl rfl rfl ?_
        refine aw_bipush (v := nI 125) (aw_d q_Mo_rowBraces 114 rfl) (by decide) ?_
        refine cVv (aw_d q_Mo_rowBraces 115 rfl) (sp_signI (show u47 ≤ 3000 by have := hc.2.1; have := hp_45s; omega)) vL_Mo_343_Mo rfl rfl rfl rfl rfl rfl ⟨aw_le rfl, aw_le rfl⟩ ?_
        exact aw_vret (aw_d q_Mo_rowBraces 116 rfl) rfl (⟨rfl, by rw [show res = .error u47 from he.trans (by simp only [jb, jt_eq, bd_ok, bd_er, if_true, if_false, eq_self, ↓reduceIte, hx45s, hx47])]; exact ⟨(show u47 ≤ 3000 by have := hc.2.1; have := hp_45s; omega), _, _, _, _, _, hI.1, (show b47 ≤ 3010 by have := hc.2.1; omega), rfl⟩⟩)
      | ok y47 =>
        rw [hx47] at hp47
        obtain ⟨rfl, hv47, hlo47, hp_47, rfl⟩ := hp47
        refine aw_istore_n (aw_d q_Mo_rowBraces 26 rfl) rfl (aw_le rfl) rfl ?_
        refine aw_aload_n (aw_d q_Mo_rowBraces 27 rfl) rfl rfl rfl ?_
        refine aw_ldc2 (aw_d q_Mo_rowBraces 28 rfl) lL_Mo_167 ?_
        refine aw_iconst (v := nI 1) (aw_d q_Mo_rowBraces 29 rfl) (by decide) ?_
        refine cV (aw_d q_Mo_rowBraces 30 rfl) (sp_Lmust (res := .ok (y47.1, ())) (A := []) (x := 34) (j := 1) (frM_TP hI.1 hc) (by decide) (by decide) (RR_st (T := T) hp_47)) vL_Mo_340_Mo rfl rfl rfl rfl rfl rfl ⟨aw_le rfl, aw_le rfl⟩ (fun r56 h56 hp56 => ?_)
        obtain ⟨rfl, b56, q56, hr56, rfl⟩ := hp56
        refine aw_aload_n (aw_d q_Mo_rowBraces 31 rfl) rfl rfl rfl ?_
        refine aw_bipush (v := nI 58) (aw_d q_Mo_rowBraces 32 rfl) (by decide) ?_
        refine cV (aw_d q_Mo_rowBraces 33 rfl) (sp_Lsign (res := .ok (y47.1, ())) (A := ([] ++ eB 34 1)) (c := 58) (frM_TP hI.1 hc) (by decide) hr56) vL_Mo_343_Mo rfl rfl rfl rfl rfl rfl ⟨aw_le rfl, aw_le rfl⟩ (fun r62 h62 hp62 => ?_)
        obtain ⟨rfl, b62, q62, hr62, rfl⟩ := hp62
        refine aw_aload_n (aw_d q_Mo_rowBraces 34 rfl) rfl rfl rfl ?_
        refine aw_bipush (v := nI 123) (aw_d q_Mo_rowBraces 35 rfl) (by decide) ?_
        refine cV (aw_d q_Mo_rowBraces 36 rfl) (sp_Lsign (res := .ok (y47.1, ())) (A := (([] ++ eB 34 1) ++ [32, nI 58])) (c := 123) (frM_TP hI.1 hc) (by decide) hr62) vL_Mo_343_Mo rfl rfl rfl rfl rfl rfl ⟨aw_le rfl, aw_le rfl⟩ (fun r68 h68 hp68 => ?_)
        obtain ⟨rfl, b68, q68, hr68, rfl⟩ := hp68
        refine aw_aload_n (aw_d q_Mo_rowBraces 37 rfl) rfl rfl rfl ?_
        refine aw_ldc2 (aw_d q_Mo_rowBraces 38 rfl) lL_Mo_407 ?_
        refine aw_iconst (v := nI 4) (aw_d q_Mo_rowBraces 39 rfl) (by decide) ?_
        refine cV (aw_d q_Mo_rowBraces 40 rfl) (sp_Lquoted (res := .ok (y47.1, ())) (A := ((([] ++ eB 34 1) ++ [32, nI 58]) ++ [32, nI 123])) (x := 1954115685) (j := 4) (frM_TP hI.1 hc) (by decide) (by decide) hr68) vL_Mo_380_Mo rfl rfl rfl rfl rfl rfl ⟨aw_le rfl, aw_le rfl⟩ (fun r76 h76 hp76 => ?_)
        obtain ⟨rfl, b76, q76, hr76, rfl⟩ := hp76
        refine aw_aload_n (aw_d q_Mo_rowBraces 41 rfl) rfl rfl rfl ?_
        refine aw_bipush (v := nI 58) (aw_d q_Mo_rowBraces 42 rfl) (by decide) ?_
        refine cV (aw_d q_Mo_rowBraces 43 rfl) (sp_Lsign (res := .ok (y47.1, ())) (A := (((([] ++ eB 34 1) ++ [32, nI 58]) ++ [32, nI 123]) ++ ([32, 34] ++ eB 1954115685 4 ++ [34]))) (c := 58) (frM_TP hI.1 hc) (by decide) hr76) vL_Mo_343_Mo rfl rfl rfl rfl rfl rfl ⟨aw_le rfl, aw_le rfl⟩ (fun r82 h82 hp82 => ?_)
        obtain ⟨rfl, b82, q82, hr82, rfl⟩ := hp82
        refine aw_aload_n (aw_d q_Mo_rowBraces 44 rfl) rfl rfl rfl ?_
        refine aw_bipush (v := nI 34) (aw_d q_Mo_rowBraces 45 rfl) (by decide) ?_
        refine cV (aw_d q_Mo_rowBraces 46 rfl) (sp_Lsign (res := .ok (y47.1, ())) (A := ((((([] ++ eB 34 1) ++ [32, nI 58]) ++ [32, nI 123]) ++ ([32, 34] ++ eB 1954115685 4 ++ [34])) ++ [32, nI 58])) (c := 34) (frM_TP hI.1 hc) (by decide) hr82) vL_Mo_343_Mo rfl rfl rfl rfl rfl rfl ⟨aw_le rfl, aw_le rfl⟩ (fun r88 h88 hp88 => ?_)
        obtain ⟨rfl, b88, q88, hr88, rfl⟩ := hp88
        rw [bp_ok, show ml T n (((((([] ++ eB 34 1) ++ [32, nI 58]) ++ [32, nI 123]) ++ ([32, 34] ++ eB 1954115685 4 ++ [34])) ++ [32, nI 58]) ++ [32, nI 34]) y47.1 = ml T n (tx 66) y47.1 from (congrArg (fun L => ml T n L _) (show _ = tx 66 by decide))] at hr88
        cases hx91s : ml T n (tx 66) y47.1 with
        | error u91s =>
          rw [hx91s] at hr88
          obtain ⟨hu91s, rfl, hb91s⟩ := hr88
          refine aw_aload_n (aw_d q_Mo_rowBraces 47 rfl) rfl rfl rfl ?_
          refine cVr (aw_d q_Mo_rowBraces 48 rfl) (sp_letI hu91s hb91s) vL_Mo_352_Mo rfl rfl rfl rfl rfl rfl ⟨aw_le rfl, aw_le rfl⟩ ?_
          refine aw_istore_n (aw_d q_Mo_rowBraces 49 rfl) rfl (aw_le rfl) rfl ?_
          refine aw_aload_n (aw_d q_Mo_rowBraces 50 rfl) rfl rfl rfl ?_
          refine cVr (aw_d q_Mo_rowBraces 51 rfl) (sp_goesI hu91s) vL_Mo_327_Mo rfl rfl rfl rfl rfl rfl ⟨aw_le rfl, aw_le rfl⟩ ?_
          refine aw_ifN_ne (tgt := 107) (aw_d q_Mo_rowBraces 52 rfl) (by decide) (by (have hc2 := hc.2.1; omega)) (fun c100 => by exfalso; (have hc2 := hc.2.1; omega)) (fun c100 => ?_)
          refine aw_iconst (v := nI 0) (aw_d q_Mo_rowBraces 53 rfl) (by decide) ?_
          refine aw_goto (tgt := 157) (aw_d q_Mo_rowBraces 54 rfl) (by decide) ?_
          refine aw_istore (aw_d q_Mo_rowBraces 80 rfl) (aw_le rfl) rfl ?_
          refine aw_iload (aw_d q_Mo_rowBraces 81 rfl) rfl ?_
          refine aw_ifN_ge (tgt := 172) (aw_d q_Mo_rowBraces 82 rfl) (by decide) (by (have hc2 := hc.2.1; omega)) (fun c161 => ?_) (fun c161 => by exfalso; (have hc2 := hc.2.1; omega))
          refine aw_aload_n (aw_d q_Mo_rowBraces 87 rfl) rfl rfl rfl ?_
          refine aw_ldc2 (aw_d q_Mo_rowBraces 88 rfl) lL_Mo_167 ?_
          refine aw_iconst (v := nI 1) (aw_d q_Mo_rowBraces 89 rfl) (by decide) ?_
          refine cVv (aw_d q_Mo_rowBraces 90 rfl) (sp_mustI hu91s (by decide)) vL_Mo_340_Mo rfl rfl rfl rfl rfl rfl ⟨aw_le rfl, aw_le rfl⟩ ?_
          refine aw_aload_n (aw_d q_Mo_rowBraces 91 rfl) rfl rfl rfl ?_
          refine aw_bipush (v := nI 44) (aw_d q_Mo_rowBraces 92 rfl) (by decide) ?_
          refine cVv (aw_d q_Mo_rowBraces 93 rfl) (sp_signI hu91s) vL_Mo_343_Mo rfl rfl rfl rfl rfl rfl ⟨aw_le rfl, aw_le rfl⟩ ?_
          refine aw_aload_n (aw_d q_Mo_rowBraces 94 rfl) rfl rfl rfl ?_
          refine aw_ldc2 (aw_d q_Mo_rowBraces 95 rfl) lL_Mo_409 ?_
          refine aw_iconst (v := nI 5) (aw_d q_Mo_rowBraces 96 rfl) (by decide) ?_
          refine cVv (aw_d q_Mo_rowBraces 97 rfl) (sp_quotedI hu91s (by decide)) vL_Mo_380_Mo rfl rfl rfl rfl rfl rfl ⟨aw_le rfl, aw_le rfl⟩ ?_
          refine aw_aload_n (aw_d q_Mo_rowBraces 98 rfl) rfl rfl rfl ?_
          refine aw_bipush (v := nI 58) (aw_d q_Mo_rowBraces 99 rfl) (by decide) ?_
          refine cVv (aw_d q_Mo_rowBraces 100 rfl) (sp_signI hu91s) vL_Mo_343_Mo rfl rfl rfl rfl rfl rfl ⟨aw_le rfl, aw_le rfl⟩ ?_
          refine aw_aload_n (aw_d q_Mo_rowBraces 101 rfl) rfl rfl rfl ?_
          refine aw_bipush (v := nI 34) (aw_d q_Mo_rowBraces 102 rfl) (by decide) ?_
          refine cVv (aw_d q_Mo_rowBraces 103 rfl) (sp_signI hu91s) vL_Mo_343_Mo rfl rfl rfl rfl rfl rfl ⟨aw_le rfl, aw_le rfl⟩ ?_
          refine aw_aload_n (aw_d q_Mo_rowBraces 104 rfl) rfl rfl rfl ?_
          refine aw_iload_n (aw_d q_Mo_rowBraces 105 rfl) rfl rfl ?_
          refine aw_iload (aw_d q_Mo_rowBraces 106 rfl) rfl ?_
          refine cV (aw_d q_Mo_rowBraces 107 rfl) (sp_valBI hu91s hb91s) vL_Mo_411_Mo rfl rfl rfl rfl rfl rfl ⟨aw_le rfl, aw_le rfl⟩ (fun r210 h210 hp210 => ?_)
          obtain ⟨rfl, f210, z210, X210, rfl⟩ := hp210
          refine aw_aload_n (aw_d q_Mo_rowBraces 108 rfl) rfl rfl rfl ?_
          refine aw_bipush (v := nI 125) (aw_d q_Mo_rowBraces 109 rfl) (by decide) ?_
          refine cVr (aw_d q_Mo_rowBraces 110 rfl) (sp_anI hu91s hb91s) vL_Mo_388_Mo rfl rfl rfl rfl rfl rfl ⟨aw_le rfl, aw_le rfl⟩ ?_
          refine aw_istore_n (aw_d q_Mo_rowBraces 111 rfl) rfl (aw_le rfl) rfl ?_
          refine aw_goto (tgt := 28) (aw_d q_Mo_rowBraces 112 rfl) (by decide) ?_
          refine aw_iload_n (aw_d q_Mo_rowBraces 15 rfl) rfl rfl ?_
          refine aw_ifN_eq (tgt := 223) (aw_d q_Mo_rowBraces 16 rfl) (by decide) (by omega) (fun c29 => ?_) (fun c29 => by exfalso; omega)
          refine aw_aload_n (aw_d q_Mo_rowBraces 113 rfl) rfl rfl rfl ?_
          refine aw_bipush (v := nI 125) (aw_d q_Mo_rowBraces 114 rfl) (by decide) ?_
          refine cVv (aw_d q_Mo_rowBraces 115 rfl) (sp_signI hu91s) vL_Mo_343_Mo rfl rfl rfl rfl rfl rfl ⟨aw_le rfl, aw_le rfl⟩ ?_
          exact aw_vret (aw_d q_Mo_rowBraces 116 rfl) rfl (⟨rfl, by rw [show res = .error u91s from he.trans (by simp only [jb, jt_eq, bd_ok, bd_er, if_true, if_false, eq_self, ↓reduceIte, hx45s, hx47, hx91s])]; exact ⟨hu91s, _, _, _, _, _, hI.1, hb91s, rfl⟩⟩)
        | ok p91s =>
          rw [hx91s] at hr88
          obtain ⟨hbb91s, hp_91s, rfl⟩ := hr88
          have hbb91s : b88 = p91s := hbb91s
          subst hbb91s
          refine aw_aload_n (aw_d q_Mo_rowBraces 47 rfl) rfl rfl rfl ?_
          refine cV (aw_d q_Mo_rowBraces 48 rfl) (sp_letA (frM_TP hI.1 hc) hp_91s) vL_Mo_352_Mo rfl rfl rfl rfl rfl rfl ⟨aw_le rfl, aw_le rfl⟩ (fun r92 h92 hp92 => ?_)
          have hwe := we_le (T := T) hp_91s
          obtain ⟨rfl, hp92⟩ := hp92
          rcases hp92 with ⟨hw92, rfl⟩ | ⟨hw92, rfl⟩
          · skip -- no
            refine aw_istore_n (aw_d q_Mo_rowBraces 49 rfl) rfl (aw_le rfl) rfl ?_
            refine aw_aload_n (aw_d q_Mo_rowBraces 50 rfl) rfl rfl rfl ?_
            refine cVr (aw_d q_Mo_rowBraces 51 rfl) (sp_goesI (show b88 ≤ 3000 by have := hc.2.1; omega)) vL_Mo_327_Mo rfl rfl rfl rfl rfl rfl ⟨aw_le rfl, aw_le rfl⟩ ?_
            refine aw_ifN_ne (tgt := 107) (aw_d q_Mo_rowBraces 52 rfl) (by decide) (by (have hc2 := hc.2.1; omega)) (fun c100 => by exfalso; (have hc2 := hc.2.1; omega)) (fun c100 => ?_)
            refine aw_iconst (v := nI 0) (aw_d q_Mo_rowBraces 53 rfl) (by decide) ?_
            refine aw_goto (tgt := 157) (aw_d q_Mo_rowBraces 54 rfl) (by decide) ?_
            refine aw_istore (aw_d q_Mo_rowBraces 80 rfl) (aw_le rfl) rfl ?_
            refine aw_iload (aw_d q_Mo_rowBraces 81 rfl) rfl ?_
            refine aw_ifN_ge (tgt := 172) (aw_d q_Mo_rowBraces 82 rfl) (by decide) (by (have hc2 := hc.2.1; omega)) (fun c161 => ?_) (fun c161 => by exfalso; (have hc2 := hc.2.1; omega))
            refine aw_aload_n (aw_d q_Mo_rowBraces 87 rfl) rfl rfl rfl ?_
            refine aw_ldc2 (aw_d q_Mo_rowBraces 88 rfl) lL_Mo_167 ?_
            refine aw_iconst (v := nI 1) (aw_d q_Mo_rowBraces 89 rfl) (by decide) ?_
            refine cVv (aw_d q_Mo_rowBraces 90 rfl) (sp_mustI (show b88 ≤ 3000 by have := hc.2.1; omega) (by decide)) vL_Mo_340_Mo rfl rfl rfl rfl rfl rfl ⟨aw_le rfl, aw_le rfl⟩ ?_
            refine aw_aload_n (aw_d q_Mo_rowBraces 91 rfl) rfl rfl rfl ?_
            refine aw_bipush (v := nI 44) (aw_d q_Mo_rowBraces 92 rfl) (by decide) ?_
            refine cVv (aw_d q_Mo_rowBraces 93 rfl) (sp_signI (show b88 ≤ 3000 by have := hc.2.1; omega)) vL_Mo_343_Mo rfl rfl rfl rfl rfl rfl ⟨aw_le rfl, aw_le rfl⟩ ?_
            refine aw_aload_n (aw_d q_Mo_rowBraces 94 rfl) rfl rfl rfl ?_
            refine aw_ldc2 (aw_d q_Mo_rowBraces 95 rfl) lL_Mo_409 ?_
            refine aw_iconst (v := nI 5) (aw_d q_Mo_rowBraces 96 rfl) (by decide) ?_
            refine cVv (aw_d q_Mo_rowBraces 97 rfl) (sp_quotedI (show b88 ≤ 3000 by have := hc.2.1; omega) (by decide)) vL_Mo_380_Mo rfl rfl rfl rfl rfl rfl ⟨aw_le rfl, aw_le rfl⟩ ?_
            refine aw_aload_n (aw_d q_Mo_rowBraces 98 rfl) rfl rfl rfl ?_
            refine aw_bipush (v := nI 58) (aw_d q_Mo_rowBraces 99 rfl) (by decide) ?_
            refine cVv (aw_d q_Mo_rowBraces 100 rfl) (sp_signI (show b88 ≤ 3000 by have := hc.2.1; omega)) vL_Mo_343_Mo rfl rfl rfl rfl rfl rfl ⟨aw_le rfl, aw_le rfl⟩ ?_
            refine aw_aload_n (aw_d q_Mo_rowBraces 101 rfl) rfl rfl rfl ?_
            refine aw_bipush (v := nI 34) (aw_d q_Mo_rowBraces 102 rfl) (by decide) ?_
            refine cVv (aw_d q_Mo_rowBraces 103 rfl) (sp_signI (show b88 ≤ 3000 by have := hc.2.1; omega)) vL_Mo_343_Mo rfl rfl rfl rfl rfl rfl ⟨aw_le rfl, aw_le rfl⟩ ?_
            refine aw_aload_n (aw_d q_Mo_rowBraces 104 rfl) rfl rfl rfl ?_
            refine aw_iload_n (aw_d q_Mo_rowBraces 105 rfl) rfl rfl ?_
            refine aw_iload (aw_d q_Mo_rowBraces 106 rfl) rfl ?_
            refine cV (aw_d q_Mo_rowBraces 107 rfl) (sp_valBI (show b88 ≤ 3000 by have := hc.2.1; omega) (show b88 ≤ 3010 by have := hc.2.1; omega)) vL_Mo_411_Mo rfl rfl rfl rfl rfl rfl ⟨aw_le rfl, aw_le rfl⟩ (fun r210 h210 hp210 => ?_)
            obtain ⟨rfl, f210, z210, X210, rfl⟩ := hp210
            refine aw_aload_n (aw_d q_Mo_rowBraces 108 rfl) rfl rfl rfl ?_
            refine aw_bipush (v := nI 125) (aw_d q_Mo_rowBraces 109 rfl) (by decide) ?_
            refine cVr (aw_d q_Mo_rowBraces 110 rfl) (sp_anI (show b88 ≤ 3000 by have := hc.2.1; omega) (show b88 ≤ 3010 by have := hc.2.1; omega)) vL_Mo_388_Mo rfl rfl rfl rfl rfl rfl ⟨aw_le rfl, aw_le rfl⟩ ?_
            refine aw_istore_n (aw_d q_Mo_rowBraces 111 rfl) rfl (aw_le rfl) rfl ?_
            refine aw_goto (tgt := 28) (aw_d q_Mo_rowBraces 112 rfl) (by decide) ?_
            refine aw_iload_n (aw_d q_Mo_rowBraces 15 rfl) rfl rfl ?_
            refine aw_ifN_eq (tgt := 223) (aw_d q_Mo_rowBraces 16 rfl) (by decide) (by omega) (fun c29 => ?_) (fun c29 => by exfalso; omega)
            refine aw_aload_n (aw_d q_Mo_rowBraces 113 rfl) rfl rfl rfl ?_
            refine aw_bipush (v := nI 125) (aw_d q_Mo_rowBraces 114 rfl) (by decide) ?_
            refine cVv (aw_d q_Mo_rowBraces 115 rfl) (sp_signI (show b88 ≤ 3000 by have := hc.2.1; omega)) vL_Mo_343_Mo rfl rfl rfl rfl rfl rfl ⟨aw_le rfl, aw_le rfl⟩ ?_
            exact aw_vret (aw_d q_Mo_rowBraces 116 rfl) rfl (⟨rfl, by rw [show res = .error b88 from he.trans (by simp only [jb, jt_eq, bd_ok, bd_er, if_true, if_false, eq_self, ↓reduceIte, hx45s, hx47, hx91s, kw_no hw92])]; exact ⟨(show b88 ≤ 3000 by have := hc.2.1; omega), _, _, _, _, _, hI.1, (show b88 ≤ 3010 by have := hc.2.1; omega), rfl⟩⟩)
          · skip -- yes
            refine aw_istore_n (aw_d q_Mo_rowBraces 49 rfl) rfl (aw_le rfl) rfl ?_
            refine aw_aload_n (aw_d q_Mo_rowBraces 50 rfl) rfl rfl rfl ?_
            refine cVr (aw_d q_Mo_rowBraces 51 rfl) (sp_goesA) vL_Mo_327_Mo rfl rfl rfl rfl rfl rfl ⟨aw_le rfl, aw_le rfl⟩ ?_
            refine aw_ifN_ne (tgt := 107) (aw_d q_Mo_rowBraces 52 rfl) (by decide) (by (have hc2 := hc.2.1; omega)) (fun c100 => ?_) (fun c100 => by exfalso; (have hc2 := hc.2.1; omega))
            refine aw_aload_n (aw_d q_Mo_rowBraces 55 rfl) rfl rfl rfl ?_
            refine aw_ldc2 (aw_d q_Mo_rowBraces 56 rfl) lL_Mo_195 ?_
            refine aw_iconst (v := nI 3) (aw_d q_Mo_rowBraces 57 rfl) (by decide) ?_
            refine aw_iload_n (aw_d q_Mo_rowBraces 58 rfl) rfl rfl ?_
            refine cVr (aw_d q_Mo_rowBraces 59 rfl) (sp_isW (x := 7697001) (j := 3) (a := b88) (len := we T n b88 - b88) (frM_TP hI.1 hc) (by omega) (by decide)) vL_Mo_359_Mo rfl rfl rfl rfl rfl rfl ⟨aw_le rfl, aw_le rfl⟩ ?_
            refine aw_ifB_eq (tgt := 123) (aw_d q_Mo_rowBraces 60 rfl) (by decide) (fun c116 => ?_) (fun c116 => ?_)
            · rw [wm_eB (T := T) (a := b88) (e := we T n b88) (j := 67) (x := 7697001) (k := 3) (by decide)] at c116
              refine aw_aload_n (aw_d q_Mo_rowBraces 63 rfl) rfl rfl rfl ?_
              refine aw_ldc2 (aw_d q_Mo_rowBraces 64 rfl) lL_Mo_197 ?_
              refine aw_iconst (v := nI 5) (aw_d q_Mo_rowBraces 65 rfl) (by decide) ?_
              refine aw_iload_n (aw_d q_Mo_rowBraces 66 rfl) rfl rfl ?_
              refine cVr (aw_d q_Mo_rowBraces 67 rfl) (sp_isW (x := 422759588965) (j := 5) (a := b88) (len := we T n b88 - b88) (frM_TP hI.1 hc) (by omega) (by decide)) vL_Mo_359_Mo rfl rfl rfl rfl rfl rfl ⟨aw_le rfl, aw_le rfl⟩ ?_
              refine aw_ifB_eq (tgt := 139) (aw_d q_Mo_rowBraces 68 rfl) (by decide) (fun c132 => ?_) (fun c132 => ?_)
              · rw [wm_eB (T := T) (a := b88) (e := we T n b88) (j := 68) (x := 422759588965) (k := 5) (by decide)] at c132
                refine aw_aload_n (aw_d q_Mo_rowBraces 71 rfl) rfl rfl rfl ?_
                refine aw_ldc2 (aw_d q_Mo_rowBraces 72 rfl) lL_Mo_199 ?_
                refine aw_bipush (v := nI 7) (aw_d q_Mo_rowBraces 73 rfl) (by decide) ?_
                refine aw_iload_n (aw_d q_Mo_rowBraces 74 rfl) rfl rfl ?_
                refine cVr (aw_d q_Mo_rowBraces 75 rfl) (sp_isW (x := 30515246123868524) (j := 7) (a := b88) (len := we T n b88 - b88) (frM_TP hI.1 hc) (by omega) (by decide)) vL_Mo_359_Mo rfl rfl rfl rfl rfl rfl ⟨aw_le rfl, aw_le rfl⟩ ?_
                refine aw_ifB_eq (tgt := 156) (aw_d q_Mo_rowBraces 76 rfl) (by decide) (fun c149 => ?_) (fun c149 => ?_)
                · rw [wm_eB (T := T) (a := b88) (e := we T n b88) (j := 69) (x := 30515246123868524) (k := 7) (by decide)] at c149
                  refine aw_iconst (v := (-1)) (aw_d q_Mo_rowBraces 79 rfl) (by decide) ?_
                  refine aw_istore (aw_d q_Mo_rowBraces 80 rfl) (aw_le rfl) rfl ?_
                  refine aw_iload (aw_d q_Mo_rowBraces 81 rfl) rfl ?_
                  refine aw_ifI_ge (tgt := 172) (aw_d q_Mo_rowBraces 82 rfl) (by decide) (fun c161 => by exact absurd c161 (by decide)) (fun c161 => ?_)
                  refine aw_aload_n (aw_d q_Mo_rowBraces 83 rfl) rfl rfl rfl ?_
                  refine aw_aload_n (aw_d q_Mo_rowBraces 84 rfl) rfl rfl rfl ?_
                  refine aw_getf (v := .int (nI (b88))) (aw_d q_Mo_rowBraces 85 rfl) fL_Mo_346_Mo rfl (gk rfl) ?_
                  refine cVv (aw_d q_Mo_rowBraces 86 rfl) (sp_mfailA) vL_Mo_334_Mo rfl rfl rfl rfl rfl rfl ⟨aw_le rfl, aw_le rfl⟩ ?_
                  refine aw_aload_n (aw_d q_Mo_rowBraces 87 rfl) rfl rfl rfl ?_
                  refine aw_ldc2 (aw_d q_Mo_rowBraces 88 rfl) lL_Mo_167 ?_
                  refine aw_iconst (v := nI 1) (aw_d q_Mo_rowBraces 89 rfl) (by decide) ?_
                  refine cVv (aw_d q_Mo_rowBraces 90 rfl) (sp_mustI (show b88 ≤ 3000 by have := hc.2.1; omega) (by decide)) vL_Mo_340_Mo rfl rfl rfl rfl rfl rfl ⟨aw_le rfl, aw_le rfl⟩ ?_
                  refine aw_aload_n (aw_d q_Mo_rowBraces 91 rfl) rfl rfl rfl ?_
                  refine aw_bipush (v := nI 44) (aw_d q_Mo_rowBraces 92 rfl) (by decide) ?_
                  refine cVv (aw_d q_Mo_rowBraces 93 rfl) (sp_signI (show b88 ≤ 3000 by have := hc.2.1; omega)) vL_Mo_343_Mo rfl rfl rfl rfl rfl rfl ⟨aw_le rfl, aw_le rfl⟩ ?_
                  refine aw_aload_n (aw_d q_Mo_rowBraces 94 rfl) rfl rfl rfl ?_
                  refine aw_ldc2 (aw_d q_Mo_rowBraces 95 rfl) lL_Mo_409 ?_
                  refine aw_iconst (v := nI 5) (aw_d q_Mo_rowBraces 96 rfl) (by decide) ?_
                  refine cVv (aw_d q_Mo_rowBraces 97 rfl) (sp_quotedI (show b88 ≤ 3000 by have := hc.2.1; omega) (by decide)) vL_Mo_380_Mo rfl rfl rfl rfl rfl rfl ⟨aw_le rfl, aw_le rfl⟩ ?_
                  refine aw_aload_n (aw_d q_Mo_rowBraces 98 rfl) rfl rfl rfl ?_
                  refine aw_bipush (v := nI 58) (aw_d q_Mo_rowBraces 99 rfl) (by decide) ?_
                  refine cVv (aw_d q_Mo_rowBraces 100 rfl) (sp_signI (show b88 ≤ 3000 by have := hc.2.1; omega)) vL_Mo_343_Mo rfl rfl rfl rfl rfl rfl ⟨aw_le rfl, aw_le rfl⟩ ?_
                  refine aw_aload_n (aw_d q_Mo_rowBraces 101 rfl) rfl rfl rfl ?_
                  refine aw_bipush (v := nI 34) (aw_d q_Mo_rowBraces 102 rfl) (by decide) ?_
                  refine cVv (aw_d q_Mo_rowBraces 103 rfl) (sp_signI (show b88 ≤ 3000 by have := hc.2.1; omega)) vL_Mo_343_Mo rfl rfl rfl rfl rfl rfl ⟨aw_le rfl, aw_le rfl⟩ ?_
                  refine aw_aload_n (aw_d q_Mo_rowBraces 104 rfl) rfl rfl rfl ?_
                  refine aw_iload_n (aw_d q_Mo_rowBraces 105 rfl) rfl rfl ?_
                  refine aw_iload (aw_d q_Mo_rowBraces 106 rfl) rfl ?_
                  refine cV (aw_d q_Mo_rowBraces 107 rfl) (sp_valBI (show b88 ≤ 3000 by have := hc.2.1; omega) (show (we T n b88) ≤ 3010 by have := hc.2.1; omega)) vL_Mo_411_Mo rfl rfl rfl rfl rfl rfl ⟨aw_le rfl, aw_le rfl⟩ (fun r210 h210 hp210 => ?_)
                  obtain ⟨rfl, f210, z210, X210, rfl⟩ := hp210
                  refine aw_aload_n (aw_d q_Mo_rowBraces 108 rfl) rfl rfl rfl ?_
                  refine aw_bipush (v := nI 125) (aw_d q_Mo_rowBraces 109 rfl) (by decide) ?_
                  refine cVr (aw_d q_Mo_rowBraces 110 rfl) (sp_anI (show b88 ≤ 3000 by have := hc.2.1; omega) (show (we T n b88) ≤ 3010 by have := hc.2.1; omega)) vL_Mo_388_Mo rfl rfl rfl rfl rfl rfl ⟨aw_le rfl, aw_le rfl⟩ ?_
                  refine aw_istore_n (aw_d q_Mo_rowBraces 111 rfl) rfl (aw_le rfl) rfl ?_
                  refine aw_goto (tgt := 28) (aw_d q_Mo_rowBraces 112 rfl) (by decide) ?_
                  refine aw_iload_n (aw_d q_Mo_rowBraces 15 rfl) rfl rfl ?_
                  refine aw_ifN_eq (tgt := 223) (aw_d q_Mo_rowBraces 16 rfl) (by decide) (by omega) (fun c29 => ?_) (fun c29 => by exfalso; omega)
                  refine aw_aload_n (aw_d q_Mo_rowBraces 113 rfl) rfl rfl rfl ?_
                  refine aw_bipush (v := nI 125) (aw_d q_Mo_rowBraces 114 rfl) (by decide) ?_
                  refine cVv (aw_d q_Mo_rowBraces 115 rfl) (sp_signI (show b88 ≤ 3000 by have := hc.2.1; omega)) vL_Mo_343_Mo rfl rfl rfl rfl rfl rfl ⟨aw_le rfl, aw_le rfl⟩ ?_
                  exact aw_vret (aw_d q_Mo_rowBraces 116 rfl) rfl (⟨rfl, by rw [show res = .error b88 from he.trans (by simp only [jb, jt_eq, bd_ok, bd_er, if_true, if_false, eq_self, ↓reduceIte, hx45s, hx47, hx91s, show kw T n b88 = .error b88 by rw [kw, if_neg c116, if_neg c132, if_neg c149]])]; exact ⟨(show b88 ≤ 3000 by have := hc.2.1; omega), _, _, _, _, _, hI.1, (show (we T n b88) ≤ 3010 by have := hc.2.1; omega), rfl⟩⟩)
                · rw [wm_eB (T := T) (a := b88) (e := we T n b88) (j := 69) (x := 30515246123868524) (k := 7) (by decide)] at c149
                  refine aw_iconst (v := nI 2) (aw_d q_Mo_rowBraces 77 rfl) (by decide) ?_
                  refine aw_goto (tgt := 157) (aw_d q_Mo_rowBraces 78 rfl) (by decide) ?_
                  refine aw_istore (aw_d q_Mo_rowBraces 80 rfl) (aw_le rfl) rfl ?_
                  refine aw_iload (aw_d q_Mo_rowBraces 81 rfl) rfl ?_
                  refine aw_ifN_ge (tgt := 172) (aw_d q_Mo_rowBraces 82 rfl) (by decide) (by (have hc2 := hc.2.1; omega)) (fun c161 => ?_) (fun c161 => by exfalso; (have hc2 := hc.2.1; omega))
                  refine aw_aload_n (aw_d q_Mo_rowBraces 87 rfl) rfl rfl rfl ?_
                  refine aw_ldc2 (aw_d q_Mo_rowBraces 88 rfl) lL_Mo_167 ?_
                  refine aw_iconst (v := nI 1) (aw_d q_Mo_rowBraces 89 rfl) (by decide) ?_
                  refine cV (aw_d q_Mo_rowBraces 90 rfl) (sp_Lmust (res := .ok ((we T n b88), ())) (A := []) (x := 34) (j := 1) (frM_TP hI.1 hc) (by decide) (by decide) (RR_st (T := T) hwe.2)) vL_Mo_340_Mo rfl rfl rfl rfl rfl rfl ⟨aw_le rfl, aw_le rfl⟩ (fun r177 h177 hp177 => ?_)
                  obtain ⟨rfl, b177, q177, hr177, rfl⟩ := hp177
                  refine aw_aload_n (aw_d q_Mo_rowBraces 91 rfl) rfl rfl rfl ?_
                  refine aw_bipush (v := nI 44) (aw_d q_Mo_rowBraces 92 rfl) (by decide) ?_
                  refine cV (aw_d q_Mo_rowBraces 93 rfl) (sp_Lsign (res := .ok ((we T n b88), ())) (A := ([] ++ eB 34 1)) (c := 44) (frM_TP hI.1 hc) (by decide) hr177) vL_Mo_343_Mo rfl rfl rfl rfl rfl rfl ⟨aw_le rfl, aw_le rfl⟩ (fun r183 h183 hp183 => ?_)
                  obtain ⟨rfl, b183, q183, hr183, rfl⟩ := hp183
                  refine aw_aload_n (aw_d q_Mo_rowBraces 94 rfl) rfl rfl rfl ?_
                  refine aw_ldc2 (aw_d q_Mo_rowBraces 95 rfl) lL_Mo_409 ?_
                  refine aw_iconst (v := nI 5) (aw_d q_Mo_rowBraces 96 rfl) (by decide) ?_
                  refine cV (aw_d q_Mo_rowBraces 97 rfl) (sp_Lquoted (res := .ok ((we T n b88), ())) (A := (([] ++ eB 34 1) ++ [32, nI 44])) (x := 508440638821) (j := 5) (frM_TP hI.1 hc) (by decide) (by decide) hr183) vL_Mo_380_Mo rfl rfl rfl rfl rfl rfl ⟨aw_le rfl, aw_le rfl⟩ (fun r191 h191 hp191 => ?_)
                  obtain ⟨rfl, b191, q191, hr191, rfl⟩ := hp191
                  refine aw_aload_n (aw_d q_Mo_rowBraces 98 rfl) rfl rfl rfl ?_
                  refine aw_bipush (v := nI 58) (aw_d q_Mo_rowBraces 99 rfl) (by decide) ?_
                  refine cV (aw_d q_Mo_rowBraces 100 rfl) (sp_Lsign (res := .ok ((we T n b88), ())) (A := ((([] ++ eB 34 1) ++ [32, nI 44]) ++ ([32, 34] ++ eB 508440638821 5 ++ [34]))) (c := 58) (frM_TP hI.1 hc) (by decide) hr191) vL_Mo_343_Mo rfl rfl rfl rfl rfl rfl ⟨aw_le rfl, aw_le rfl⟩ (fun r197 h197 hp197 => ?_)
                  obtain ⟨rfl, b197, q197, hr197, rfl⟩ := hp197
                  refine aw_aload_n (aw_d q_Mo_rowBraces 101 rfl) rfl rfl rfl ?_
                  refine aw_bipush (v := nI 34) (aw_d q_Mo_rowBraces 102 rfl) (by decide) ?_
                  refine cV (aw_d q_Mo_rowBraces 103 rfl) (sp_Lsign (res := .ok ((we T n b88), ())) (A := (((([] ++ eB 34 1) ++ [32, nI 44]) ++ ([32, 34] ++ eB 508440638821 5 ++ [34])) ++ [32, nI 58])) (c := 34) (frM_TP hI.1 hc) (by decide) hr197) vL_Mo_343_Mo rfl rfl rfl rfl rfl rfl ⟨aw_le rfl, aw_le rfl⟩ (fun r203 h203 hp203 => ?_)
                  obtain ⟨rfl, b203, q203, hr203, rfl⟩ := hp203
                  rw [bp_ok, show ml T n ((((([] ++ eB 34 1) ++ [32, nI 44]) ++ ([32, 34] ++ eB 508440638821 5 ++ [34])) ++ [32, nI 58]) ++ [32, nI 34]) (we T n b88) = ml T n (tx 70) (we T n b88) from (congrArg (fun L => ml T n L _) (show _ = tx 70 by decide))] at hr203
                  cases hx206s : ml T n (tx 70) (we T n b88) with
                  | error u206s =>
                    rw [hx206s] at hr203
                    obtain ⟨hu206s, rfl, hb206s⟩ := hr203
                    refine aw_aload_n (aw_d q_Mo_rowBraces 104 rfl) rfl rfl rfl ?_
                    refine aw_iload_n (aw_d q_Mo_rowBraces 105 rfl) rfl rfl ?_
                    refine aw_iload (aw_d q_Mo_rowBraces 106 rfl) rfl ?_
                    refine cV (aw_d q_Mo_rowBraces 107 rfl) (sp_valBI hu206s hb206s) vL_Mo_411_Mo rfl rfl rfl rfl rfl rfl ⟨aw_le rfl, aw_le rfl⟩ (fun r210 h210 hp210 => ?_)
                    obtain ⟨rfl, f210, z210, X210, rfl⟩ := hp210
                    refine aw_aload_n (aw_d q_Mo_rowBraces 108 rfl) rfl rfl rfl ?_
                    refine aw_bipush (v := nI 125) (aw_d q_Mo_rowBraces 109 rfl) (by decide) ?_
                    refine cVr (aw_d q_Mo_rowBraces 110 rfl) (sp_anI hu206s hb206s) vL_Mo_388_Mo rfl rfl rfl rfl rfl rfl ⟨aw_le rfl, aw_le rfl⟩ ?_
                    refine aw_istore_n (aw_d q_Mo_rowBraces 111 rfl) rfl (aw_le rfl) rfl ?_
                    refine aw_goto (tgt := 28) (aw_d q_Mo_rowBraces 112 rfl) (by decide) ?_
                    refine aw_iload_n (aw_d q_Mo_rowBraces 15 rfl) rfl rfl ?_
                    refine aw_ifN_eq (tgt := 223) (aw_d q_Mo_rowBraces 16 rfl) (by decide) (by omega) (fun c29 => ?_) (fun c29 => by exfalso; omega)
                    refine aw_aload_n (aw_d q_Mo_rowBraces 113 rfl) rfl rfl rfl ?_
                    refine aw_bipush (v := nI 125) (aw_d q_Mo_rowBraces 114 rfl) (by decide) ?_
                    refine cVv (aw_d q_Mo_rowBraces 115 rfl) (sp_signI hu206s) vL_Mo_343_Mo rfl rfl rfl rfl rfl rfl ⟨aw_le rfl, aw_le rfl⟩ ?_
                    exact aw_vret (aw_d q_Mo_rowBraces 116 rfl) rfl (⟨rfl, by rw [show res = .error u206s from he.trans (by simp only [jb, jt_eq, bd_ok, bd_er, if_true, if_false, eq_self, ↓reduceIte, hx45s, hx47, hx91s, hx206s, show kw T n b88 = .ok (we T n b88, 2) by rw [kw, if_neg c116, if_neg c132, if_pos c149]])]; exact ⟨hu206s, _, _, _, _, _, hI.1, hb206s, rfl⟩⟩)
                  | ok p206s =>
                    rw [hx206s] at hr203
                    obtain ⟨hbb206s, hp_206s, rfl⟩ := hr203
                    have hbb206s : b203 = p206s := hbb206s
                    subst hbb206s
                    refine aw_aload_n (aw_d q_Mo_rowBraces 104 rfl) rfl rfl rfl ?_
                    refine aw_iload_n (aw_d q_Mo_rowBraces 105 rfl) rfl rfl ?_
                    refine aw_iload (aw_d q_Mo_rowBraces 106 rfl) rfl ?_
                    refine cV (aw_d q_Mo_rowBraces 107 rfl) (sp_valB (v := y47.2) (kd := 2) hI (itOK_mono hs (by omega)) (by have := hI.2.1.2.1; omega) hc hp_206s (by decide)) vL_Mo_411_Mo rfl rfl rfl rfl rfl rfl ⟨aw_le rfl, aw_le rfl⟩ (fun r210 h210 hp210 => ?_)
                    obtain ⟨rfl, hp210⟩ := hp210
                    cases hx210 : vbV T n 2 b203 with
                    | error u210 =>
                      rw [hx210] at hp210
                      obtain ⟨hu210, F210, b210, f210, z210, X210, hF210, hb210, rfl⟩ := hp210
                      refine aw_aload_n (aw_d q_Mo_rowBraces 108 rfl) rfl rfl rfl ?_
                      refine aw_bipush (v := nI 125) (aw_d q_Mo_rowBraces 109 rfl) (by decide) ?_
                      refine cVr (aw_d q_Mo_rowBraces 110 rfl) (sp_anI hu210 hb210) vL_Mo_388_Mo rfl rfl rfl rfl rfl rfl ⟨aw_le rfl, aw_le rfl⟩ ?_
                      refine aw_istore_n (aw_d q_Mo_rowBraces 111 rfl) rfl (aw_le rfl) rfl ?_
                      refine aw_goto (tgt := 28) (aw_d q_Mo_rowBraces 112 rfl) (by decide) ?_
                      refine aw_iload_n (aw_d q_Mo_rowBraces 15 rfl) rfl rfl ?_
                      refine aw_ifN_eq (tgt := 223) (aw_d q_Mo_rowBraces 16 rfl) (by decide) (by omega) (fun c29 => ?_) (fun c29 => by exfalso; omega)
                      refine aw_aload_n (aw_d q_Mo_rowBraces 113 rfl) rfl rfl rfl ?_
                      refine aw_bipush (v := nI 125) (aw_d q_Mo_rowBraces 114 rfl) (by decide) ?_
                      refine cVv (aw_d q_Mo_rowBraces 115 rfl) (sp_signI hu210) vL_Mo_343_Mo rfl rfl rfl rfl rfl rfl ⟨aw_le rfl, aw_le rfl⟩ ?_
                      exact aw_vret (aw_d q_Mo_rowBraces 116 rfl) rfl (⟨rfl, by rw [show res = .error u210 from he.trans (by simp only [jb, jt_eq, bd_ok, bd_er, if_true, if_false, eq_self, ↓reduceIte, hx45s, hx47, hx91s, hx206s, hx210, show kw T n b88 = .ok (we T n b88, 2) by rw [kw, if_neg c116, if_neg c132, if_pos c149]])]; exact ⟨hu210, _, _, _, _, _, hF210, hb210, rfl⟩⟩)
                    | ok y210 =>
                      rw [hx210] at hp210
                      obtain ⟨F210, f210, z210, X210, ⟨hI210, hw210⟩, hp_210, rfl⟩ := hp210
                      have hs1210 := itOK_add (m := r * 6 + 6) hs hw210 (by show r * 6 + lo ≤ r * 6 + y47.2; omega) (by show r * 6 + y47.2 < r * 6 + 6; have := hI.2.1.2.1; omega)
                      have hs2210 := itOK_add (m := r * 6 + (y47.2 + 1)) hs hw210 (by show r * 6 + lo ≤ r * 6 + y47.2; omega) (by show r * 6 + y47.2 < r * 6 + (y47.2 + 1); omega)
                      refine aw_aload_n (aw_d q_Mo_rowBraces 108 rfl) rfl rfl rfl ?_
                      refine aw_bipush (v := nI 125) (aw_d q_Mo_rowBraces 109 rfl) (by decide) ?_
                      refine cV (aw_d q_Mo_rowBraces 110 rfl) (sp_anA (c := 125) (frM_TP hI210.1 hc) hp_210 (by decide)) vL_Mo_388_Mo rfl rfl rfl rfl rfl rfl ⟨aw_le rfl, aw_le rfl⟩ (fun r216 h216 hp216 => ?_)
                      have hsk216 := sk_le (T := T) hp_210
                      rcases hp216 with ⟨ha216, rfl, rfl⟩ | ⟨ha216, rfl, rfl⟩ | ⟨ha216, hd216, rfl, rfl⟩
                      · skip -- comma
                        have hpn216 : sk T n (y210.1) + 1 ≤ n := T_lt hc.2.2.2.1 (by omega)
                        refine aw_istore_n (aw_d q_Mo_rowBraces 111 rfl) rfl (aw_le rfl) rfl ?_
                        refine aw_goto (tgt := 28) (aw_d q_Mo_rowBraces 112 rfl) (by decide) ?_
                        exact AW.to (ih (sk T n y210.1 + 1) (y47.2 + 1) _ F210 _ _ _ _ _ _ (by omega) hpn216 (by rw [nI_toInt (by have := hI.2.1.2.1; omega)]; omega) (by have := hI.2.1.2.1; omega) hI210 hs2210 (he.trans (by simp only [jb, jt_eq, bd_ok, bd_er, if_true, if_false, eq_self, ↓reduceIte, hx45s, hx47, hx91s, hx206s, hx210, show kw T n b88 = .ok (we T n b88, 2) by rw [kw, if_neg c116, if_neg c132, if_pos c149], ha216]))) rfl rfl rfl rfl
                      · skip -- close
                        have ha216 : (T (sk T n (y210.1))).toInt = 125 := ha216
                        refine aw_istore_n (aw_d q_Mo_rowBraces 111 rfl) rfl (aw_le rfl) rfl ?_
                        refine aw_goto (tgt := 28) (aw_d q_Mo_rowBraces 112 rfl) (by decide) ?_
                        refine aw_iload_n (aw_d q_Mo_rowBraces 15 rfl) rfl rfl ?_
                        refine aw_ifN_eq (tgt := 223) (aw_d q_Mo_rowBraces 16 rfl) (by decide) (by omega) (fun c29 => ?_) (fun c29 => by exfalso; omega)
                        refine aw_aload_n (aw_d q_Mo_rowBraces 113 rfl) rfl rfl rfl ?_
                        refine aw_bipush (v := nI 125) (aw_d q_Mo_rowBraces 114 rfl) (by decide) ?_
                        refine cV (aw_d q_Mo_rowBraces 115 rfl) (sp_Lsign (res := .ok ((sk T n y210.1), ())) (A := []) (c := 125) (frM_TP hI210.1 hc) (by decide) (RR_st (T := T) hsk216.2)) vL_Mo_343_Mo rfl rfl rfl rfl rfl rfl ⟨aw_le rfl, aw_le rfl⟩ (fun r226 h226 hp226 => ?_)
                        obtain ⟨rfl, b226, q226, hr226, rfl⟩ := hp226
                        rw [bp_ok, show ml T n ([] ++ [32, nI 125]) (sk T n y210.1) = mu T (tx 73) (sk T n (sk T n y210.1)) from (cl1 (by decide))] at hr226
                        cases hx229s : mu T (tx 73) (sk T n (sk T n y210.1)) with
                        | error u229s =>
                          rw [hx229s] at hr226
                          obtain ⟨hu229s, rfl, hb229s⟩ := hr226
                          exact aw_vret (aw_d q_Mo_rowBraces 116 rfl) rfl (by rw [sk_no (bl1_no (by omega)), mu73y ha216] at hx229s; cases hx229s)
                        | ok p229s =>
                          rw [hx229s] at hr226
                          obtain ⟨hbb229s, hp_229s, rfl⟩ := hr226
                          have hbb229s : b226 = p229s := hbb229s
                          subst hbb229s
                          exact aw_vret (aw_d q_Mo_rowBraces 116 rfl) rfl (⟨rfl, by rw [sk_no (bl1_no (by omega)), mu73y ha216] at hx229s; cases hx229s; rw [show res = .ok (sk T n y210.1 + 1, s ++ [(r * 6 + y47.2, y210.2)]) from he.trans (by simp only [jb, jt_eq, bd_ok, bd_er, if_true, if_false, eq_self, ↓reduceIte, hx45s, hx47, hx91s, hx206s, hx210, show kw T n b88 = .ok (we T n b88, 2) by rw [kw, if_neg c116, if_neg c132, if_pos c149], show ¬ (T (sk T n y210.1)).toInt = 44 by omega, mu73y ha216])]; exact ⟨_, _, _, _, ⟨hI210, hs1210⟩, hp_229s, rfl⟩⟩)
                      · skip -- no
                        have hd216 : ¬ (T (sk T n (y210.1))).toInt = 125 := hd216
                        refine aw_istore_n (aw_d q_Mo_rowBraces 111 rfl) rfl (aw_le rfl) rfl ?_
                        refine aw_goto (tgt := 28) (aw_d q_Mo_rowBraces 112 rfl) (by decide) ?_
                        refine aw_iload_n (aw_d q_Mo_rowBraces 15 rfl) rfl rfl ?_
                        refine aw_ifN_eq (tgt := 223) (aw_d q_Mo_rowBraces 16 rfl) (by decide) (by omega) (fun c29 => ?_) (fun c29 => by exfalso; omega)
                        refine aw_aload_n (aw_d q_Mo_rowBraces 113 rfl) rfl rfl rfl ?_
                        refine aw_bipush (v := nI 125) (aw_d q_Mo_rowBraces 114 rfl) (by decide) ?_
                        refine cVv (aw_d q_Mo_rowBraces 115 rfl) (sp_signI (show sk T n y210.1 ≤ 3000 by have := hc.2.1; omega)) vL_Mo_343_Mo rfl rfl rfl rfl rfl rfl ⟨aw_le rfl, aw_le rfl⟩ ?_
                        exact aw_vret (aw_d q_Mo_rowBraces 116 rfl) rfl (⟨rfl, by rw [show res = .error (sk T n y210.1) from he.trans (by simp only [jb, jt_eq, bd_ok, bd_er, if_true, if_false, eq_self, ↓reduceIte, hx45s, hx47, hx91s, hx206s, hx210, show kw T n b88 = .ok (we T n b88, 2) by rw [kw, if_neg c116, if_neg c132, if_pos c149], mu73 hd216, show ¬ (T (sk T n y210.1)).toInt = 44 from ha216])]; exact ⟨(show sk T n y210.1 ≤ 3000 by have := hc.2.1; omega), _, _, _, _, _, hI210.1, (show sk T n y210.1 ≤ 3010 by have := hc.2.1; omega), rfl⟩⟩)
              · rw [wm_eB (T := T) (a := b88) (e := we T n b88) (j := 68) (x := 422759588965) (k := 5) (by decide)] at c132
                refine aw_iconst (v := nI 1) (aw_d q_Mo_rowBraces 69 rfl) (by decide) ?_
                refine aw_goto (tgt := 157) (aw_d q_Mo_rowBraces 70 rfl) (by decide) ?_
                refine aw_istore (aw_d q_Mo_rowBraces 80 rfl) (aw_le rfl) rfl ?_
                refine aw_iload (aw_d q_Mo_rowBraces 81 rfl) rfl ?_
                refine aw_ifN_ge (tgt := 172) (aw_d q_Mo_rowBraces 82 rfl) (by decide) (by (have hc2 := hc.2.1; omega)) (fun c161 => ?_) (fun c161 => by exfalso; (have hc2 := hc.2.1; omega))
                refine aw_aload_n (aw_d q_Mo_rowBraces 87 rfl) rfl rfl rfl ?_
                refine aw_ldc2 (aw_d q_Mo_rowBraces 88 rfl) lL_Mo_167 ?_
                refine aw_iconst (v := nI 1) (aw_d q_Mo_rowBraces 89 rfl) (by decide) ?_
                refine cV (aw_d q_Mo_rowBraces 90 rfl) (sp_Lmust (res := .ok ((we T n b88), ())) (A := []) (x := 34) (j := 1) (frM_TP hI.1 hc) (by decide) (by decide) (RR_st (T := T) hwe.2)) vL_Mo_340_Mo rfl rfl rfl rfl rfl rfl ⟨aw_le rfl, aw_le rfl⟩ (fun r177 h177 hp177 => ?_)
                obtain ⟨rfl, b177, q177, hr177, rfl⟩ := hp177
                refine aw_aload_n (aw_d q_Mo_rowBraces 91 rfl) rfl rfl rfl ?_
                refine aw_bipush (v := nI 44) (aw_d q_Mo_rowBraces 92 rfl) (by decide) ?_
                refine cV (aw_d q_Mo_rowBraces 93 rfl) (sp_Lsign (res := .ok ((we T n b88), ())) (A := ([] ++ eB 34 1)) (c := 44) (frM_TP hI.1 hc) (by decide) hr177) vL_Mo_343_Mo rfl rfl rfl rfl rfl rfl ⟨aw_le rfl, aw_le rfl⟩ (fun r183 h183 hp183 => ?_)
                obtain ⟨rfl, b183, q183, hr183, rfl⟩ := hp183
                refine aw_aload_n (aw_d q_Mo_rowBraces 94 rfl) rfl rfl rfl ?_
                refine aw_ldc2 (aw_d q_Mo_rowBraces 95 rfl) lL_Mo_409 ?_
                refine aw_iconst (v := nI 5) (aw_d q_Mo_rowBraces 96 rfl) (by decide) ?_
                refine cV (aw_d q_Mo_rowBraces 97 rfl) (sp_Lquoted (res := .ok ((we T n b88), ())) (A := (([] ++ eB 34 1) ++ [32, nI 44])) (x := 508440638821) (j := 5) (frM_TP hI.1 hc) (by decide) (by decide) hr183) vL_Mo_380_Mo rfl rfl rfl rfl rfl rfl ⟨aw_le rfl, aw_le rfl⟩ (fun r191 h191 hp191 => ?_)
                obtain ⟨rfl, b191, q191, hr191, rfl⟩ := hp191
                refine aw_aload_n (aw_d q_Mo_rowBraces 98 rfl) rfl rfl rfl ?_
                refine aw_bipush (v := nI 58) (aw_d q_Mo_rowBraces 99 rfl) (by decide) ?_
                refine cV (aw_d q_Mo_rowBraces 100 rfl) (sp_Lsign (res := .ok ((we T n b88), ())) (A := ((([] ++ eB 34 1) ++ [32, nI 44]) ++ ([32, 34] ++ eB 508440638821 5 ++ [34]))) (c := 58) (frM_TP hI.1 hc) (by decide) hr191) vL_Mo_343_Mo rfl rfl rfl rfl rfl rfl ⟨aw_le rfl, aw_le rfl⟩ (fun r197 h197 hp197 => ?_)
                obtain ⟨rfl, b197, q197, hr197, rfl⟩ := hp197
                refine aw_aload_n (aw_d q_Mo_rowBraces 101 rfl) rfl rfl rfl ?_
                refine aw_bipush (v := nI 34) (aw_d q_Mo_rowBraces 102 rfl) (by decide) ?_
                refine cV (aw_d q_Mo_rowBraces 103 rfl) (sp_Lsign (res := .ok ((we T n b88), ())) (A := (((([] ++ eB 34 1) ++ [32, nI 44]) ++ ([32, 34] ++ eB 508440638821 5 ++ [34])) ++ [32, nI 58])) (c := 34) (frM_TP hI.1 hc) (by decide) hr197) vL_Mo_343_Mo rfl rfl rfl rfl rfl rfl ⟨aw_le rfl, aw_le rfl⟩ (fun r203 h203 hp203 => ?_)
                obtain ⟨rfl, b203, q203, hr203, rfl⟩ := hp203
                rw [bp_ok, show ml T n ((((([] ++ eB 34 1) ++ [32, nI 44]) ++ ([32, 34] ++ eB 508440638821 5 ++ [34])) ++ [32, nI 58]) ++ [32, nI 34]) (we T n b88) = ml T n (tx 70) (we T n b88) from (congrArg (fun L => ml T n L _) (show _ = tx 70 by decide))] at hr203
                cases hx206s : ml T n (tx 70) (we T n b88) with
                | error u206s =>
                  rw [hx206s] at hr203
                  obtain ⟨hu206s, rfl, hb206s⟩ := hr203
                  refine aw_aload_n (aw_d q_Mo_rowBraces 104 rfl) rfl rfl rfl ?_
                  refine aw_iload_n (aw_d q_Mo_rowBraces 105 rfl) rfl rfl ?_
                  refine aw_iload (aw_d q_Mo_rowBraces 106 rfl) rfl ?_
                  refine cV (aw_d q_Mo_rowBraces 107 rfl) (sp_valBI hu206s hb206s) vL_Mo_411_Mo rfl rfl rfl rfl rfl rfl ⟨aw_le rfl, aw_le rfl⟩ (fun r210 h210 hp210 => ?_)
                  obtain ⟨rfl, f210, z210, X210, rfl⟩ := hp210
                  refine aw_aload_n (aw_d q_Mo_rowBraces 108 rfl) rfl rfl rfl ?_
                  refine aw_bipush (v := nI 125) (aw_d q_Mo_rowBraces 109 rfl) (by decide) ?_
                  refine cVr (aw_d q_Mo_rowBraces 110 rfl) (sp_anI hu206s hb206s) vL_Mo_388_Mo rfl rfl rfl rfl rfl rfl ⟨aw_le rfl, aw_le rfl⟩ ?_
                  refine aw_istore_n (aw_d q_Mo_rowBraces 111 rfl) rfl (aw_le rfl) rfl ?_
                  refine aw_goto (tgt := 28) (aw_d q_Mo_rowBraces 112 rfl) (by decide) ?_
                  refine aw_iload_n (aw_d q_Mo_rowBraces 15 rfl) rfl rfl ?_
                  refine aw_ifN_eq (tgt := 223) (aw_d q_Mo_rowBraces 16 rfl) (by decide) (by omega) (fun c29 => ?_) (fun c29 => by exfalso; omega)
                  refine aw_aload_n (aw_d q_Mo_rowBraces 113 rfl) rfl rfl rfl ?_
                  refine aw_bipush (v := nI 125) (aw_d q_Mo_rowBraces 114 rfl) (by decide) ?_
                  refine cVv (aw_d q_Mo_rowBraces 115 rfl) (sp_signI hu206s) vL_Mo_343_Mo rfl rfl rfl rfl rfl rfl ⟨aw_le rfl, aw_le rfl⟩ ?_
                  exact aw_vret (aw_d q_Mo_rowBraces 116 rfl) rfl (⟨rfl, by rw [show res = .error u206s from he.trans (by simp only [jb, jt_eq, bd_ok, bd_er, if_true, if_false, eq_self, ↓reduceIte, hx45s, hx47, hx91s, hx206s, show kw T n b88 = .ok (we T n b88, 1) by rw [kw, if_neg c116, if_pos c132]])]; exact ⟨hu206s, _, _, _, _, _, hI.1, hb206s, rfl⟩⟩)
                | ok p206s =>
                  rw [hx206s] at hr203
                  obtain ⟨hbb206s, hp_206s, rfl⟩ := hr203
                  have hbb206s : b203 = p206s := hbb206s
                  subst hbb206s
                  refine aw_aload_n (aw_d q_Mo_rowBraces 104 rfl) rfl rfl rfl ?_
                  refine aw_iload_n (aw_d q_Mo_rowBraces 105 rfl) rfl rfl ?_
                  refine aw_iload (aw_d q_Mo_rowBraces 106 rfl) rfl ?_
                  refine cV (aw_d q_Mo_rowBraces 107 rfl) (sp_valB (v := y47.2) (kd := 1) hI (itOK_mono hs (by omega)) (by have := hI.2.1.2.1; omega) hc hp_206s (by decide)) vL_Mo_411_Mo rfl rfl rfl rfl rfl rfl ⟨aw_le rfl, aw_le rfl⟩ (fun r210 h210 hp210 => ?_)
                  obtain ⟨rfl, hp210⟩ := hp210
                  cases hx210 : vbV T n 1 b203 with
                  | error u210 =>
                    rw [hx210] at hp210
                    obtain ⟨hu210, F210, b210, f210, z210, X210, hF210, hb210, rfl⟩ := hp210
                    refine aw_aload_n (aw_d q_Mo_rowBraces 108 rfl) rfl rfl rfl ?_
                    refine aw_bipush (v := nI 125) (aw_d q_Mo_rowBraces 109 rfl) (by decide) ?_
                    refine cVr (aw_d q_Mo_rowBraces 110 rfl) (sp_anI hu210 hb210) vL_Mo_388_Mo rfl rfl rfl rfl rfl rfl ⟨aw_le rfl, aw_le rfl⟩ ?_
                    refine aw_istore_n (aw_d q_Mo_rowBraces 111 rfl) rfl (aw_le rfl) rfl ?_
                    refine aw_goto (tgt := 28) (aw_d q_Mo_rowBraces 112 rfl) (by decide) ?_
                    refine aw_iload_n (aw_d q_Mo_rowBraces 15 rfl) rfl rfl ?_
                    refine aw_ifN_eq (tgt := 223) (aw_d q_Mo_rowBraces 16 rfl) (by decide) (by omega) (fun c29 => ?_) (fun c29 => by exfalso; omega)
                    refine aw_aload_n (aw_d q_Mo_rowBraces 113 rfl) rfl rfl rfl ?_
                    refine aw_bipush (v := nI 125) (aw_d q_Mo_rowBraces 114 rfl) (by decide) ?_
                    refine cVv (aw_d q_Mo_rowBraces 115 rfl) (sp_signI hu210) vL_Mo_343_Mo rfl rfl rfl rfl rfl rfl ⟨aw_le rfl, aw_le rfl⟩ ?_
                    exact aw_vret (aw_d q_Mo_rowBraces 116 rfl) rfl (⟨rfl, by rw [show res = .error u210 from he.trans (by simp only [jb, jt_eq, bd_ok, bd_er, if_true, if_false, eq_self, ↓reduceIte, hx45s, hx47, hx91s, hx206s, hx210, show kw T n b88 = .ok (we T n b88, 1) by rw [kw, if_neg c116, if_pos c132]])]; exact ⟨hu210, _, _, _, _, _, hF210, hb210, rfl⟩⟩)
                  | ok y210 =>
                    rw [hx210] at hp210
                    obtain ⟨F210, f210, z210, X210, ⟨hI210, hw210⟩, hp_210, rfl⟩ := hp210
                    have hs1210 := itOK_add (m := r * 6 + 6) hs hw210 (by show r * 6 + lo ≤ r * 6 + y47.2; omega) (by show r * 6 + y47.2 < r * 6 + 6; have := hI.2.1.2.1; omega)
                    have hs2210 := itOK_add (m := r * 6 + (y47.2 + 1)) hs hw210 (by show r * 6 + lo ≤ r * 6 + y47.2; omega) (by show r * 6 + y47.2 < r * 6 + (y47.2 + 1); omega)
                    refine aw_aload_n (aw_d q_Mo_rowBraces 108 rfl) rfl rfl rfl ?_
                    refine aw_bipush (v := nI 125) (aw_d q_Mo_rowBraces 109 rfl) (by decide) ?_
                    refine cV (aw_d q_Mo_rowBraces 110 rfl) (sp_anA (c := 125) (frM_TP hI210.1 hc) hp_210 (by decide)) vL_Mo_388_Mo rfl rfl rfl rfl rfl rfl ⟨aw_le rfl, aw_le rfl⟩ (fun r216 h216 hp216 => ?_)
                    have hsk216 := sk_le (T := T) hp_210
                    rcases hp216 with ⟨ha216, rfl, rfl⟩ | ⟨ha216, rfl, rfl⟩ | ⟨ha216, hd216, rfl, rfl⟩
                    · skip -- comma
                      have hpn216 : sk T n (y210.1) + 1 ≤ n := T_lt hc.2.2.2.1 (by omega)
                      refine aw_istore_n (aw_d q_Mo_rowBraces 111 rfl) rfl (aw_le rfl) rfl ?_
                      refine aw_goto (tgt := 28) (aw_d q_Mo_rowBraces 112 rfl) (by decide) ?_
                      exact AW.to (ih (sk T n y210.1 + 1) (y47.2 + 1) _ F210 _ _ _ _ _ _ (by omega) hpn216 (by rw [nI_toInt (by have := hI.2.1.2.1; omega)]; omega) (by have := hI.2.1.2.1; omega) hI210 hs2210 (he.trans (by simp only [jb, jt_eq, bd_ok, bd_er, if_true, if_false, eq_self, ↓reduceIte, hx45s, hx47, hx91s, hx206s, hx210, show kw T n b88 = .ok (we T n b88, 1) by rw [kw, if_neg c116, if_pos c132], ha216]))) rfl rfl rfl rfl
                    · skip -- close
                      have ha216 : (T (sk T n (y210.1))).toInt = 125 := ha216
                      refine aw_istore_n (aw_d q_Mo_rowBraces 111 rfl) rfl (aw_le rfl) rfl ?_
                      refine aw_goto (tgt := 28) (aw_d q_Mo_rowBraces 112 rfl) (by decide) ?_
                      refine aw_iload_n (aw_d q_Mo_rowBraces 15 rfl) rfl rfl ?_
                      refine aw_ifN_eq (tgt := 223) (aw_d q_Mo_rowBraces 16 rfl) (by decide) (by omega) (fun c29 => ?_) (fun c29 => by exfalso; omega)
                      refine aw_aload_n (aw_d q_Mo_rowBraces 113 rfl) rfl rfl rfl ?_
                      refine aw_bipush (v := nI 125) (aw_d q_Mo_rowBraces 114 rfl) (by decide) ?_
                      refine cV (aw_d q_Mo_rowBraces 115 rfl) (sp_Lsign (res := .ok ((sk T n y210.1), ())) (A := []) (c := 125) (frM_TP hI210.1 hc) (by decide) (RR_st (T := T) hsk216.2)) vL_Mo_343_Mo rfl rfl rfl rfl rfl rfl ⟨aw_le rfl, aw_le rfl⟩ (fun r226 h226 hp226 => ?_)
                      obtain ⟨rfl, b226, q226, hr226, rfl⟩ := hp226
                      rw [bp_ok, show ml T n ([] ++ [32, nI 125]) (sk T n y210.1) = mu T (tx 73) (sk T n (sk T n y210.1)) from (cl1 (by decide))] at hr226
                      cases hx229s : mu T (tx 73) (sk T n (sk T n y210.1)) with
                      | error u229s =>
                        rw [hx229s] at hr226
                        obtain ⟨hu229s, rfl, hb229s⟩ := hr226
                        exact aw_vret (aw_d q_Mo_rowBraces 116 rfl) rfl (by rw [sk_no (bl1_no (by omega)), mu73y ha216] at hx229s; cases hx229s)
                      | ok p229s =>
                        rw [hx229s] at hr226
                        obtain ⟨hbb229s, hp_229s, rfl⟩ := hr226
                        have hbb229s : b226 = p229s := hbb229s
                        subst hbb229s
                        exact aw_vret (aw_d q_Mo_rowBraces 116 rfl) rfl (⟨rfl, by rw [sk_no (bl1_no (by omega)), mu73y ha216] at hx229s; cases hx229s; rw [show res = .ok (sk T n y210.1 + 1, s ++ [(r * 6 + y47.2, y210.2)]) from he.trans (by simp only [jb, jt_eq, bd_ok, bd_er, if_true, if_false, eq_self, ↓reduceIte, hx45s, hx47, hx91s, hx206s, hx210, show kw T n b88 = .ok (we T n b88, 1) by rw [kw, if_neg c116, if_pos c132], show ¬ (T (sk T n y210.1)).toInt = 44 by omega, mu73y ha216])]; exact ⟨_, _, _, _, ⟨hI210, hs1210⟩, hp_229s, rfl⟩⟩)
                    · skip -- no
                      have hd216 : ¬ (T (sk T n (y210.1))).toInt = 125 := hd216
                      refine aw_istore_n (aw_d q_Mo_rowBraces 111 rfl) rfl (aw_le rfl) rfl ?_
                      refine aw_goto (tgt := 28) (aw_d q_Mo_rowBraces 112 rfl) (by decide) ?_
                      refine aw_iload_n (aw_d q_Mo_rowBraces 15 rfl) rfl rfl ?_
                      refine aw_ifN_eq (tgt := 223) (aw_d q_Mo_rowBraces 16 rfl) (by decide) (by omega) (fun c29 => ?_) (fun c29 => by exfalso; omega)
                      refine aw_aload_n (aw_d q_Mo_rowBraces 113 rfl) rfl rfl rfl ?_
                      refine aw_bipush (v := nI 125) (aw_d q_Mo_rowBraces 114 rfl) (by decide) ?_
                      refine cVv (aw_d q_Mo_rowBraces 115 rfl) (sp_signI (show sk T n y210.1 ≤ 3000 by have := hc.2.1; omega)) vL_Mo_343_Mo rfl rfl rfl rfl rfl rfl ⟨aw_le rfl, aw_le rfl⟩ ?_
                      exact aw_vret (aw_d q_Mo_rowBraces 116 rfl) rfl (⟨rfl, by rw [show res = .error (sk T n y210.1) from he.trans (by simp only [jb, jt_eq, bd_ok, bd_er, if_true, if_false, eq_self, ↓reduceIte, hx45s, hx47, hx91s, hx206s, hx210, show kw T n b88 = .ok (we T n b88, 1) by rw [kw, if_neg c116, if_pos c132], mu73 hd216, show ¬ (T (sk T n y210.1)).toInt = 44 from ha216])]; exact ⟨(show sk T n y210.1 ≤ 3000 by have := hc.2.1; omega), _, _, _, _, _, hI210.1, (show sk T n y210.1 ≤ 3010 by have := hc.2.1; omega), rfl⟩⟩)
            · rw [wm_eB (T := T) (a := b88) (e := we T n b88) (j := 67) (x := 7697001) (k := 3) (by decide)] at c116
              refine aw_iconst (v := nI 0) (aw_d q_Mo_rowBraces 61 rfl) (by decide) ?_
              refine aw_goto (tgt := 157) (aw_d q_Mo_rowBraces 62 rfl) (by decide) ?_
              refine aw_istore (aw_d q_Mo_rowBraces 80 rfl) (aw_le rfl) rfl ?_
              refine aw_iload (aw_d q_Mo_rowBraces 81 rfl) rfl ?_
              refine aw_ifN_ge (tgt := 172) (aw_d q_Mo_rowBraces 82 rfl) (by decide) (by (have hc2 := hc.2.1; omega)) (fun c161 => ?_) (fun c161 => by exfalso; (have hc2 := hc.2.1; omega))
              refine aw_aload_n (aw_d q_Mo_rowBraces 87 rfl) rfl rfl rfl ?_
              refine aw_ldc2 (aw_d q_Mo_rowBraces 88 rfl) lL_Mo_167 ?_
              refine aw_iconst (v := nI 1) (aw_d q_Mo_rowBraces 89 rfl) (by decide) ?_
              refine cV (aw_d q_Mo_rowBraces 90 rfl) (sp_Lmust (res := .ok ((we T n b88), ())) (A := []) (x := 34) (j := 1) (frM_TP hI.1 hc) (by decide) (by decide) (RR_st (T := T) hwe.2)) vL_Mo_340_Mo rfl rfl rfl rfl rfl rfl ⟨aw_le rfl, aw_le rfl⟩ (fun r177 h177 hp177 => ?_)
              obtain ⟨rfl, b177, q177, hr177, rfl⟩ := hp177
              refine aw_aload_n (aw_d q_Mo_rowBraces 91 rfl) rfl rfl rfl ?_
              refine aw_bipush (v := nI 44) (aw_d q_Mo_rowBraces 92 rfl) (by decide) ?_
              refine cV (aw_d q_Mo_rowBraces 93 rfl) (sp_Lsign (res := .ok ((we T n b88), ())) (A := ([] ++ eB 34 1)) (c := 44) (frM_TP hI.1 hc) (by decide) hr177) vL_Mo_343_Mo rfl rfl rfl rfl rfl rfl ⟨aw_le rfl, aw_le rfl⟩ (fun r183 h183 hp183 => ?_)
              obtain ⟨rfl, b183, q183, hr183, rfl⟩ := hp183
              refine aw_aload_n (aw_d q_Mo_rowBraces 94 rfl) rfl rfl rfl ?_
              refine aw_ldc2 (aw_d q_Mo_rowBraces 95 rfl) lL_Mo_409 ?_
              refine aw_iconst (v := nI 5) (aw_d q_Mo_rowBraces 96 rfl) (by decide) ?_
              refine cV (aw_d q_Mo_rowBraces 97 rfl) (sp_Lquoted (res := .ok ((we T n b88), ())) (A := (([] ++ eB 34 1) ++ [32, nI 44])) (x := 508440638821) (j := 5) (frM_TP hI.1 hc) (by decide) (by decide) hr183) vL_Mo_380_Mo rfl rfl rfl rfl rfl rfl ⟨aw_le rfl, aw_le rfl⟩ (fun r191 h191 hp191 => ?_)
              obtain ⟨rfl, b191, q191, hr191, rfl⟩ := hp191
              refine aw_aload_n (aw_d q_Mo_rowBraces 98 rfl) rfl rfl rfl ?_
              refine aw_bipush (v := nI 58) (aw_d q_Mo_rowBraces 99 rfl) (by decide) ?_
              refine cV (aw_d q_Mo_rowBraces 100 rfl) (sp_Lsign (res := .ok ((we T n b88), ())) (A := ((([] ++ eB 34 1) ++ [32, nI 44]) ++ ([32, 34] ++ eB 508440638821 5 ++ [34]))) (c := 58) (frM_TP hI.1 hc) (by decide) hr191) vL_Mo_343_Mo rfl rfl rfl rfl rfl rfl ⟨aw_le rfl, aw_le rfl⟩ (fun r197 h197 hp197 => ?_)
              obtain ⟨rfl, b197, q197, hr197, rfl⟩ := hp197
              refine aw_aload_n (aw_d q_Mo_rowBraces 101 rfl) rfl rfl rfl ?_
              refine aw_bipush (v := nI 34) (aw_d q_Mo_rowBraces 102 rfl) (by decide) ?_
              refine cV (aw_d q_Mo_rowBraces 103 rfl) (sp_Lsign (res := .ok ((we T n b88), ())) (A := (((([] ++ eB 34 1) ++ [32, nI 44]) ++ ([32, 34] ++ eB 508440638821 5 ++ [34])) ++ [32, nI 58])) (c := 34) (frM_TP hI.1 hc) (by decide) hr197) vL_Mo_343_Mo rfl rfl rfl rfl rfl rfl ⟨aw_le rfl, aw_le rfl⟩ (fun r203 h203 hp203 => ?_)
              obtain ⟨rfl, b203, q203, hr203, rfl⟩ := hp203
              rw [bp_ok, show ml T n ((((([] ++ eB 34 1) ++ [32, nI 44]) ++ ([32, 34] ++ eB 508440638821 5 ++ [34])) ++ [32, nI 58]) ++ [32, nI 34]) (we T n b88) = ml T n (tx 70) (we T n b88) from (congrArg (fun L => ml T n L _) (show _ = tx 70 by decide))] at hr203
              cases hx206s : ml T n (tx 70) (we T n b88) with
              | error u206s =>
                rw [hx206s] at hr203
                obtain ⟨hu206s, rfl, hb206s⟩ := hr203
                refine aw_aload_n (aw_d q_Mo_rowBraces 104 rfl) rfl rfl rfl ?_
                refine aw_iload_n (aw_d q_Mo_rowBraces 105 rfl) rfl rfl ?_
                refine aw_iload (aw_d q_Mo_rowBraces 106 rfl) rfl ?_
                refine cV (aw_d q_Mo_rowBraces 107 rfl) (sp_valBI hu206s hb206s) vL_Mo_411_Mo rfl rfl rfl rfl rfl rfl ⟨aw_le rfl, aw_le rfl⟩ (fun r210 h210 hp210 => ?_)
                obtain ⟨rfl, f210, z210, X210, rfl⟩ := hp210
                refine aw_aload_n (aw_d q_Mo_rowBraces 108 rfl) rfl rfl rfl ?_
                refine aw_bipush (v := nI 125) (aw_d q_Mo_rowBraces 109 rfl) (by decide) ?_
                refine cVr (aw_d q_Mo_rowBraces 110 rfl) (sp_anI hu206s hb206s) vL_Mo_388_Mo rfl rfl rfl rfl rfl rfl ⟨aw_le rfl, aw_le rfl⟩ ?_
                refine aw_istore_n (aw_d q_Mo_rowBraces 111 rfl) rfl (aw_le rfl) rfl ?_
                refine aw_goto (tgt := 28) (aw_d q_Mo_rowBraces 112 rfl) (by decide) ?_
                refine aw_iload_n (aw_d q_Mo_rowBraces 15 rfl) rfl rfl ?_
                refine aw_ifN_eq (tgt := 223) (aw_d q_Mo_rowBraces 16 rfl) (by decide) (by omega) (fun c29 => ?_) (fun c29 => by exfalso; omega)
                refine aw_aload_n (aw_d q_Mo_rowBraces 113 rfl) rfl rfl rfl ?_
                refine aw_bipush (v := nI 125) (aw_d q_Mo_rowBraces 114 rfl) (by decide) ?_
                refine cVv (aw_d q_Mo_rowBraces 115 rfl) (sp_signI hu206s) vL_Mo_343_Mo rfl rfl rfl rfl rfl rfl ⟨aw_le rfl, aw_le rfl⟩ ?_
                exact aw_vret (aw_d q_Mo_rowBraces 116 rfl) rfl (⟨rfl, by rw [show res = .error u206s from he.trans (by simp only [jb, jt_eq, bd_ok, bd_er, if_true, if_false, eq_self, ↓reduceIte, hx45s, hx47, hx91s, hx206s, show kw T n b88 = .ok (we T n b88, 0) by rw [kw, if_pos c116]])]; exact ⟨hu206s, _, _, _, _, _, hI.1, hb206s, rfl⟩⟩)
              | ok p206s =>
                rw [hx206s] at hr203
                obtain ⟨hbb206s, hp_206s, rfl⟩ := hr203
                have hbb206s : b203 = p206s := hbb206s
                subst hbb206s
                refine aw_aload_n (aw_d q_Mo_rowBraces 104 rfl) rfl rfl rfl ?_
                refine aw_iload_n (aw_d q_Mo_rowBraces 105 rfl) rfl rfl ?_
                refine aw_iload (aw_d q_Mo_rowBraces 106 rfl) rfl ?_
                refine cV (aw_d q_Mo_rowBraces 107 rfl) (sp_valB (v := y47.2) (kd := 0) hI (itOK_mono hs (by omega)) (by have := hI.2.1.2.1; omega) hc hp_206s (by decide)) vL_Mo_411_Mo rfl rfl rfl rfl rfl rfl ⟨aw_le rfl, aw_le rfl⟩ (fun r210 h210 hp210 => ?_)
                obtain ⟨rfl, hp210⟩ := hp210
                cases hx210 : vbV T n 0 b203 with
                | error u210 =>
                  rw [hx210] at hp210
                  obtain ⟨hu210, F210, b210, f210, z210, X210, hF210, hb210, rfl⟩ := hp210
                  refine aw_aload_n (aw_d q_Mo_rowBraces 108 rfl) rfl rfl rfl ?_
                  refine aw_bipush (v := nI 125) (aw_d q_Mo_rowBraces 109 rfl) (by decide) ?_
                  refine cVr (aw_d q_Mo_rowBraces 110 rfl) (sp_anI hu210 hb210) vL_Mo_388_Mo rfl rfl rfl rfl rfl rfl ⟨aw_le rfl, aw_le rfl⟩ ?_
                  refine aw_istore_n (aw_d q_Mo_rowBraces 111 rfl) rfl (aw_le rfl) rfl ?_
                  refine aw_goto (tgt := 28) (aw_d q_Mo_rowBraces 112 rfl) (by decide) ?_
                  refine aw_iload_n (aw_d q_Mo_rowBraces 15 rfl) rfl rfl ?_
                  refine aw_ifN_eq (tgt := 223) (aw_d q_Mo_rowBraces 16 rfl) (by decide) (by omega) (fun c29 => ?_) (fun c29 => by exfalso; omega)
                  refine aw_aload_n (aw_d q_Mo_rowBraces 113 rfl) rfl rfl rfl ?_
                  refine aw_bipush (v := nI 125) (aw_d q_Mo_rowBraces 114 rfl) (by decide) ?_
                  refine cVv (aw_d q_Mo_rowBraces 115 rfl) (sp_signI hu210) vL_Mo_343_Mo rfl rfl rfl rfl rfl rfl ⟨aw_le rfl, aw_le rfl⟩ ?_
                  exact aw_vret (aw_d q_Mo_rowBraces 116 rfl) rfl (⟨rfl, by rw [show res = .error u210 from he.trans (by simp only [jb, jt_eq, bd_ok, bd_er, if_true, if_false, eq_self, ↓reduceIte, hx45s, hx47, hx91s, hx206s, hx210, show kw T n b88 = .ok (we T n b88, 0) by rw [kw, if_pos c116]])]; exact ⟨hu210, _, _, _, _, _, hF210, hb210, rfl⟩⟩)
                | ok y210 =>
                  rw [hx210] at hp210
                  obtain ⟨F210, f210, z210, X210, ⟨hI210, hw210⟩, hp_210, rfl⟩ := hp210
                  have hs1210 := itOK_add (m := r * 6 + 6) hs hw210 (by show r * 6 + lo ≤ r * 6 + y47.2; omega) (by show r * 6 + y47.2 < r * 6 + 6; have := hI.2.1.2.1; omega)
                  have hs2210 := itOK_add (m := r * 6 + (y47.2 + 1)) hs hw210 (by show r * 6 + lo ≤ r * 6 + y47.2; omega) (by show r * 6 + y47.2 < r * 6 + (y47.2 + 1); omega)
                  refine aw_aload_n (aw_d q_Mo_rowBraces 108 rfl) rfl rfl rfl ?_
                  refine aw_bipush (v := nI 125) (aw_d q_Mo_rowBraces 109 rfl) (by decide) ?_
                  refine cV (aw_d q_Mo_rowBraces 110 rfl) (sp_anA (c := 125) (frM_TP hI210.1 hc) hp_210 (by decide)) vL_Mo_388_Mo rfl rfl rfl rfl rfl rfl ⟨aw_le rfl, aw_le rfl⟩ (fun r216 h216 hp216 => ?_)
                  have hsk216 := sk_le (T := T) hp_210
                  rcases hp216 with ⟨ha216, rfl, rfl⟩ | ⟨ha216, rfl, rfl⟩ | ⟨ha216, hd216, rfl, rfl⟩
                  · skip -- comma
                    have hpn216 : sk T n (y210.1) + 1 ≤ n := T_lt hc.2.2.2.1 (by omega)
                    refine aw_istore_n (aw_d q_Mo_rowBraces 111 rfl) rfl (aw_le rfl) rfl ?_
                    refine aw_goto (tgt := 28) (aw_d q_Mo_rowBraces 112 rfl) (by decide) ?_
                    exact AW.to (ih (sk T n y210.1 + 1) (y47.2 + 1) _ F210 _ _ _ _ _ _ (by omega) hpn216 (by rw [nI_toInt (by have := hI.2.1.2.1; omega)]; omega) (by have := hI.2.1.2.1; omega) hI210 hs2210 (he.trans (by simp only [jb, jt_eq, bd_ok, bd_er, if_true, if_false, eq_self, ↓reduceIte, hx45s, hx47, hx91s, hx206s, hx210, show kw T n b88 = .ok (we T n b88, 0) by rw [kw, if_pos c116], ha216]))) rfl rfl rfl rfl
                  · skip -- close
                    have ha216 : (T (sk T n (y210.1))).toInt = 125 := ha216
                    refine aw_istore_n (aw_d q_Mo_rowBraces 111 rfl) rfl (aw_le rfl) rfl ?_
                    refine aw_goto (tgt := 28) (aw_d q_Mo_rowBraces 112 rfl) (by decide) ?_
                    refine aw_iload_n (aw_d q_Mo_rowBraces 15 rfl) rfl rfl ?_
                    refine aw_ifN_eq (tgt := 223) (aw_d q_Mo_rowBraces 16 rfl) (by decide) (by omega) (fun c29 => ?_) (fun c29 => by exfalso; omega)
                    refine aw_aload_n (aw_d q_Mo_rowBraces 113 rfl) rfl rfl rfl ?_
                    refine aw_bipush (v := nI 125) (aw_d q_Mo_rowBraces 114 rfl) (by decide) ?_
                    refine cV (aw_d q_Mo_rowBraces 115 rfl) (sp_Lsign (res := .ok ((sk T n y210.1), ())) (A := []) (c := 125) (frM_TP hI210.1 hc) (by decide) (RR_st (T := T) hsk216.2)) vL_Mo_343_Mo rfl rfl rfl rfl rfl rfl ⟨aw_le rfl, aw_le rfl⟩ (fun r226 h226 hp226 => ?_)
                    obtain ⟨rfl, b226, q226, hr226, rfl⟩ := hp226
                    rw [bp_ok, show ml T n ([] ++ [32, nI 125]) (sk T n y210.1) = mu T (tx 73) (sk T n (sk T n y210.1)) from (cl1 (by decide))] at hr226
                    cases hx229s : mu T (tx 73) (sk T n (sk T n y210.1)) with
                    | error u229s =>
                      rw [hx229s] at hr226
                      obtain ⟨hu229s, rfl, hb229s⟩ := hr226
                      exact aw_vret (aw_d q_Mo_rowBraces 116 rfl) rfl (by rw [sk_no (bl1_no (by omega)), mu73y ha216] at hx229s; cases hx229s)
                    | ok p229s =>
                      rw [hx229s] at hr226
                      obtain ⟨hbb229s, hp_229s, rfl⟩ := hr226
                      have hbb229s : b226 = p229s := hbb229s
                      subst hbb229s
                      exact aw_vret (aw_d q_Mo_rowBraces 116 rfl) rfl (⟨rfl, by rw [sk_no (bl1_no (by omega)), mu73y ha216] at hx229s; cases hx229s; rw [show res = .ok (sk T n y210.1 + 1, s ++ [(r * 6 + y47.2, y210.2)]) from he.trans (by simp only [jb, jt_eq, bd_ok, bd_er, if_true, if_false, eq_self, ↓reduceIte, hx45s, hx47, hx91s, hx206s, hx210, show kw T n b88 = .ok (we T n b88, 0) by rw [kw, if_pos c116], show ¬ (T (sk T n y210.1)).toInt = 44 by omega, mu73y ha216])]; exact ⟨_, _, _, _, ⟨hI210, hs1210⟩, hp_229s, rfl⟩⟩)
                  · skip -- no
                    have hd216 : ¬ (T (sk T n (y210.1))).toInt = 125 := hd216
                    refine aw_istore_n (aw_d q_Mo_rowBraces 111 rfl) rfl (aw_le rfl) rfl ?_
                    refine aw_goto (tgt := 28) (aw_d q_Mo_rowBraces 112 rfl) (by decide) ?_
                    refine aw_iload_n (aw_d q_Mo_rowBraces 15 rfl) rfl rfl ?_
                    refine aw_ifN_eq (tgt := 223) (aw_d q_Mo_rowBraces 16 rfl) (by decide) (by omega) (fun c29 => ?_) (fun c29 => by exfalso; omega)
                    refine aw_aload_n (aw_d q_Mo_rowBraces 113 rfl) rfl rfl rfl ?_
                    refine aw_bipush (v := nI 125) (aw_d q_Mo_rowBraces 114 rfl) (by decide) ?_
                    refine cVv (aw_d q_Mo_rowBraces 115 rfl) (sp_signI (show sk T n y210.1 ≤ 3000 by have := hc.2.1; omega)) vL_Mo_343_Mo rfl rfl rfl rfl rfl rfl ⟨aw_le rfl, aw_le rfl⟩ ?_
                    exact aw_vret (aw_d q_Mo_rowBraces 116 rfl) rfl (⟨rfl, by rw [show res = .error (sk T n y210.1) from he.trans (by simp only [jb, jt_eq, bd_ok, bd_er, if_true, if_false, eq_self, ↓reduceIte, hx45s, hx47, hx91s, hx206s, hx210, show kw T n b88 = .ok (we T n b88, 0) by rw [kw, if_pos c116], mu73 hd216, show ¬ (T (sk T n y210.1)).toInt = 44 from ha216])]; exact ⟨(show sk T n y210.1 ≤ 3000 by have := hc.2.1; omega), _, _, _, _, _, hI210.1, (show sk T n y210.1 ≤ 3010 by have := hc.2.1; omega), rfl⟩⟩)
def rbV (T : Nat → Int32) (n : Nat) (N : nm_T) (r p : Nat) (s : sq_T) : Except Nat (Nat × sq_T) := if (T (sk T n p)).toInt = 125 then .ok (sk T n p + 1, s) else jb T n N r 7 (sk T n p) 0 s
set_option maxRecDepth 20000 in
theorem sp_rowB {g : aw_G} {S D : aw_S} {N : nm_T} {r : Nat} {s : sq_T} {n : Nat} {T : Nat → Int32} {p : Nat} {f z : Int32} {X : Nat → Int32} (hI : imC S N (r + 1) s D) (hs : itOK s (r * 6)) (hc : TPm S n T) (hp : p ≤ n)  : Sp g M_Mo_rowBraces 5 113 0 0 [.ref 33] (HP (QM D (nI p) (-1) f z X)) (fun x h => x = none ∧ match rbV T n N r p s with
  | .ok y => ∃ (F : aw_S) (f z : Int32) (X : Nat → Int32), (imC S N (r + 1) y.2 F ∧ itOK y.2 (r * 6 + 6)) ∧ y.1 ≤ n ∧ h = HP (QM F (nI y.1) (-1) f z X)
  | .error u => u ≤ 3000 ∧ ∃ (F : aw_S) (b : Nat) (f z : Int32) (X : Nat → Int32), frM S F ∧ b ≤ 3010 ∧ h = HP (QM F (nI b) (nI u) f z X)) := by
  refine Sp.of rfl (aw_le rfl) ?_
  have hc2 := hc.2.1
  have hsk := sk_le (T := T) hp
  refine aw_aload_n (aw_d q_Mo_rowBraces 0 rfl) rfl rfl rfl ?_
  refine cV (aw_d q_Mo_rowBraces 1 rfl) (sp_mblanks (res := .ok (p, ())) (frM_TP hI.1 hc) (RR_ok rfl hp rfl)) vL_Mo_337_Mo rfl rfl rfl rfl rfl rfl ⟨aw_le rfl, aw_le rfl⟩ (fun r1 h1 hp1 => ?_)
  obtain ⟨rfl, b1, q1, ⟨hb1, hp_1, rfl⟩, rfl⟩ := hp1
  have hb1 : b1 = sk T n p := hb1
  subst hb1
  refine aw_aload_n (aw_d q_Mo_rowBraces 2 rfl) rfl rfl rfl ?_
  refine cVr (aw_d q_Mo_rowBraces 3 rfl) (sp_goesA) vL_Mo_327_Mo rfl rfl rfl rfl rfl rfl ⟨aw_le rfl, aw_le rfl⟩ ?_
  refine aw_ifN_eq (tgt := 24) (aw_d q_Mo_rowBraces 4 rfl) (by decide) (by (have hc2 := hc.2.1; omega)) (fun c8 => by exfalso; (have hc2 := hc.2.1; omega)) (fun c8 => ?_)
  refine aw_aload_n (aw_d q_Mo_rowBraces 5 rfl) rfl rfl rfl ?_
  refine cVr (aw_d q_Mo_rowBraces 6 rfl) (sp_peek (frM_TP hI.1 hc) (b := (sk T n p)) (by have := hc.2.1; omega)) vL_Mo_331_Mo rfl rfl rfl rfl rfl rfl ⟨aw_le rfl, aw_le rfl⟩ ?_
  refine aw_bipush (v := nI 125) (aw_d q_Mo_rowBraces 7 rfl) (by decide) ?_
  refine aw_icmpI_eq (tgt := 24) (aw_d q_Mo_rowBraces 8 rfl) (by decide) (by (have hc2 := hc.2.1; omega)) (fun c17 => ?_) (fun c17 => ?_)
  · refine aw_iconst (v := nI 0) (aw_d q_Mo_rowBraces 11 rfl) (by decide) ?_
    refine aw_istore_n (aw_d q_Mo_rowBraces 12 rfl) rfl (aw_le rfl) rfl ?_
    refine aw_iconst (v := (-1)) (aw_d q_Mo_rowBraces 13 rfl) (by decide) ?_
    refine aw_istore_n (aw_d q_Mo_rowBraces 14 rfl) rfl (aw_le rfl) rfl ?_
    refine aw_iload_n (aw_d q_Mo_rowBraces 15 rfl) rfl rfl ?_
    refine aw_ifN_eq (tgt := 223) (aw_d q_Mo_rowBraces 16 rfl) (by decide) (by omega) (fun c29 => ?_) (fun c29 => by exfalso; omega)
    refine aw_aload_n (aw_d q_Mo_rowBraces 113 rfl) rfl rfl rfl ?_
    refine aw_bipush (v := nI 125) (aw_d q_Mo_rowBraces 114 rfl) (by decide) ?_
    refine cV (aw_d q_Mo_rowBraces 115 rfl) (sp_Lsign (res := .ok ((sk T n p), ())) (A := []) (c := 125) (frM_TP hI.1 hc) (by decide) (RR_st (T := T) hsk.2)) vL_Mo_343_Mo rfl rfl rfl rfl rfl rfl ⟨aw_le rfl, aw_le rfl⟩ (fun r226 h226 hp226 => ?_)
    obtain ⟨rfl, b226, q226, hr226, rfl⟩ := hp226
    rw [bp_ok, show ml T n ([] ++ [32, nI 125]) (sk T n p) = mu T (tx 73) (sk T n (sk T n p)) from (cl1 (by decide))] at hr226
    cases hx229s : mu T (tx 73) (sk T n (sk T n p)) with
    | error u229s =>
      rw [hx229s] at hr226
      obtain ⟨hu229s, rfl, hb229s⟩ := hr226
      exact aw_vret (aw_d q_Mo_rowBraces 116 rfl) rfl (by rw [sk_no (p := sk T n p) (bl1_no (by omega)), mu73y (by omega)] at hx229s; cases hx229s)
    | ok p229s =>
      rw [hx229s] at hr226
      obtain ⟨hbb229s, hp_229s, rfl⟩ := hr226
      have hbb229s : b226 = p229s := hbb229s
      subst hbb229s
      exact aw_vret (aw_d q_Mo_rowBraces 116 rfl) rfl (⟨rfl, by rw [sk_no (p := sk T n p) (bl1_no (by omega)), mu73y (by omega)] at hx229s; cases hx229s; rw [rbV, if_pos (by omega)]; exact ⟨_, _, _, _, ⟨hI, itOK_mono hs (by omega)⟩, hp_229s, rfl⟩⟩)
  · refine aw_iconst (v := nI 1) (aw_d q_Mo_rowBraces 9 rfl) (by decide) ?_
    refine aw_goto (tgt := 25) (aw_d q_Mo_rowBraces 10 rfl) (by decide) ?_
    refine aw_istore_n (aw_d q_Mo_rowBraces 12 rfl) rfl (aw_le rfl) rfl ?_
    refine aw_iconst (v := (-1)) (aw_d q_Mo_rowBraces 13 rfl) (by decide) ?_
    refine aw_istore_n (aw_d q_Mo_rowBraces 14 rfl) rfl (aw_le rfl) rfl ?_
    rw [rbV, if_neg (by omega)]
    exact AW.to (lp_rb hc 7 (sk T n p) 0 s D _ _ _ _ _ _ (by omega) hsk.2 (by decide) (by omega) hI hs rfl) rfl rfl rfl rfl
set_option maxRecDepth 20000 in
theorem sp_rowBI {g : aw_G} {S : aw_S} {u b : Nat} {f z : Int32} {X : Nat → Int32} (hu : u ≤ 3000) (hb : b ≤ 3010)  : Sp g M_Mo_rowBraces 5 113 0 0 [.ref 33] (HP (QM S (nI b) (nI u) f z X)) (fun r h => r = none ∧ ∃ (f z : Int32) (X : Nat → Int32), h = HP (QM S (nI b) (nI u) f z X)) := by
  refine Sp.of rfl (aw_le rfl) ?_
  refine aw_aload_n (aw_d q_Mo_rowBraces 0 rfl) rfl rfl rfl ?_
  refine cVv (aw_d q_Mo_rowBraces 1 rfl) (sp_blanksI hu) vL_Mo_337_Mo rfl rfl rfl rfl rfl rfl ⟨aw_le rfl, aw_le rfl⟩ ?_
  refine aw_aload_n (aw_d q_Mo_rowBraces 2 rfl) rfl rfl rfl ?_
  refine cVr (aw_d q_Mo_rowBraces 3 rfl) (sp_goesI hu) vL_Mo_327_Mo rfl rfl rfl rfl rfl rfl ⟨aw_le rfl, aw_le rfl⟩ ?_
  refine aw_ifN_eq (tgt := 24) (aw_d q_Mo_rowBraces 4 rfl) (by decide) (by omega) (fun c8 => ?_) (fun c8 => by exfalso; omega)
  refine aw_iconst (v := nI 0) (aw_d q_Mo_rowBraces 11 rfl) (by decide) ?_
  refine aw_istore_n (aw_d q_Mo_rowBraces 12 rfl) rfl (aw_le rfl) rfl ?_
  refine aw_iconst (v := (-1)) (aw_d q_Mo_rowBraces 13 rfl) (by decide) ?_
  refine aw_istore_n (aw_d q_Mo_rowBraces 14 rfl) rfl (aw_le rfl) rfl ?_
  refine aw_iload_n (aw_d q_Mo_rowBraces 15 rfl) rfl rfl ?_
  refine aw_ifN_eq (tgt := 223) (aw_d q_Mo_rowBraces 16 rfl) (by decide) (by omega) (fun c29 => ?_) (fun c29 => by exfalso; omega)
  refine aw_aload_n (aw_d q_Mo_rowBraces 113 rfl) rfl rfl rfl ?_
  refine aw_bipush (v := nI 125) (aw_d q_Mo_rowBraces 114 rfl) (by decide) ?_
  refine cVv (aw_d q_Mo_rowBraces 115 rfl) (sp_signI hu) vL_Mo_343_Mo rfl rfl rfl rfl rfl rfl ⟨aw_le rfl, aw_le rfl⟩ ?_
  exact aw_vret (aw_d q_Mo_rowBraces 116 rfl) rfl (⟨rfl, _, _, _, rfl⟩)
