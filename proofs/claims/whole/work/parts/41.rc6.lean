set_option maxRecDepth 20000 in
theorem lp_jm {g : aw_G} {S : aw_S} {E0 : ts_T} {n : Nat} {T : Nat → Int32} {q : Int32} (hw : tsW E0) (h60 : E0.1 ≤ 60) (hc : TPc S n T) {res : Except Nat (Nat × nm_T)} : ∀ (m i p : Nat) (N : nm_T) (D : aw_S) (w l k e z : Int32) (X : Nat → Int32), m + i = 7 → p ≤ n → itC S E0 N 0 [] D → res = jm T n m p N → AW g M_Js_parseNames (aw_rm 5 107 0 0) (aw_F g 0 0 (CG S E0 res (fun (y : Nat × nm_T) h => ∃ (F : aw_S) (w l k e z : Int32) (X : Nat → Int32), itC S E0 y.2 0 [] F ∧ y.1 ≤ n ∧ h = HP (QC F (nI y.1) q w l k e z X)))) 16 [some (.ref 29), some (.ref 18), some (.int (nI i))] [] (HP (QC D (nI p) q w l k e z X)) 0 0 := by
  intro m
  induction m with
  | zero =>
    intro i p N D w l k e z X hk hp hI he
    refine aw_iload_n (aw_d q_Js_parseNames 9 rfl) rfl rfl ?_
    refine aw_bipush (v := nI 6) (aw_d q_Js_parseNames 10 rfl) (by decide) ?_
    refine aw_icmpN_gt (tgt := 87) (aw_d q_Js_parseNames 11 rfl) (by decide) (by (have hc2 := hc.2.1; omega)) (by (have hc2 := hc.2.1; omega)) (fun c19 => ?_) (fun c19 => by exfalso; (have hc2 := hc.2.1; omega))
    refine aw_aload_n (aw_d q_Js_parseNames 41 rfl) rfl rfl rfl ?_
    refine aw_getf (aw_d q_Js_parseNames 42 rfl) fL_Js_9_Js rfl rfl ?_
    refine cVr (aw_d q_Js_parseNames 43 rfl) (sp_fail) vL_Js_146_Sc rfl rfl rfl rfl rfl rfl ⟨aw_le rfl, aw_le rfl⟩ ?_
    exact aw_zret (aw_d q_Js_parseNames 44 rfl) rfl (rfl) (by rw [he]; exact CG_er (itC_bs hI hw (itOK_nil (k := 0))) CF_i)
  | succ m ih =>
    intro i p N D w l k e z X hk hp hI he
    refine aw_iload_n (aw_d q_Js_parseNames 9 rfl) rfl rfl ?_
    refine aw_bipush (v := nI 6) (aw_d q_Js_parseNames 10 rfl) (by decide) ?_
    refine aw_icmpN_gt (tgt := 87) (aw_d q_Js_parseNames 11 rfl) (by decide) (by (have hc2 := hc.2.1; omega)) (by (have hc2 := hc.2.1; omega)) (fun c19 => by exfalso; (have hc2 := hc.2.1; omega)) (fun c19 => ?_)
    refine aw_aload_n (aw_d q_Js_parseNames 12 rfl) rfl rfl rfl ?_
    refine aw_getf (aw_d q_Js_parseNames 13 rfl) fL_Js_9_Js rfl rfl ?_
    refine aw_ldcS (aw_d q_Js_parseNames 14 rfl) tL_Js_134 ?_
    refine cV (aw_d q_Js_parseNames 15 rfl) (sp_ml (frC_TP hI.1 hc) hp (j := 61) (by decide)) vL_Js_101_Sc rfl rfl rfl rfl rfl rfl ⟨aw_le rfl, aw_le rfl⟩ (fun r28 h28 hp28 => ?_)
    cases hx28 : ml T n (tx 61) p with
    | error u28 =>
      rw [hx28] at hp28
      obtain ⟨rfl, hf28⟩ := hp28
      refine aw_ifN_eq (tgt := 57) (aw_d q_Js_parseNames 16 rfl) (by decide) (by (have hc2 := hc.2.1; omega)) (fun c31 => ?_) (fun c31 => by exfalso; (have hc2 := hc.2.1; omega))
      refine aw_iconst (v := nI 0) (aw_d q_Js_parseNames 27 rfl) (by decide) ?_
      exact aw_zret (aw_d q_Js_parseNames 28 rfl) rfl (rfl) (by rw [he]; simp only [jm, bd_ok, bd_er, if_true, if_false, eq_self, ↓reduceIte, hx28]; exact CG_er (itC_bs hI hw (itOK_nil (k := 0))) hf28)
    | ok p28 =>
      rw [hx28] at hp28
      obtain ⟨rfl, rfl, hp_28⟩ := hp28
      refine aw_ifN_eq (tgt := 57) (aw_d q_Js_parseNames 16 rfl) (by decide) (by (have hc2 := hc.2.1; omega)) (fun c31 => by exfalso; (have hc2 := hc.2.1; omega)) (fun c31 => ?_)
      refine aw_aload_n (aw_d q_Js_parseNames 17 rfl) rfl rfl rfl ?_
      refine aw_getf (aw_d q_Js_parseNames 18 rfl) fL_Js_9_Js rfl rfl ?_
      refine aw_aload_n (aw_d q_Js_parseNames 19 rfl) rfl rfl rfl ?_
      refine cV (aw_d q_Js_parseNames 20 rfl) (sp_newName hI hc hw hp_28) vL_Js_136_Sc rfl rfl rfl rfl rfl rfl ⟨aw_le rfl, aw_le rfl⟩ (fun r39 h39 hp39 => ?_)
      cases hx39 : nn T n N p28 with
      | error u39 =>
        rw [hx39] at hp39
        obtain ⟨rfl, F39, hb39, hf39⟩ := hp39
        refine aw_ifN_eq (tgt := 57) (aw_d q_Js_parseNames 21 rfl) (by decide) (by (have hc2 := hc.2.1; omega)) (fun c42 => ?_) (fun c42 => by exfalso; (have hc2 := hc.2.1; omega))
        refine aw_iconst (v := nI 0) (aw_d q_Js_parseNames 27 rfl) (by decide) ?_
        exact aw_zret (aw_d q_Js_parseNames 28 rfl) rfl (rfl) (by rw [he]; simp only [jm, bd_ok, bd_er, if_true, if_false, eq_self, ↓reduceIte, hx28, hx39]; exact CG_er hb39 hf39)
      | ok y39 =>
        rw [hx39] at hp39
        obtain ⟨rfl, F39, w39, l39, hI39, hp_39, rfl⟩ := hp39
        refine aw_ifN_eq (tgt := 57) (aw_d q_Js_parseNames 21 rfl) (by decide) (by (have hc2 := hc.2.1; omega)) (fun c42 => by exfalso; (have hc2 := hc.2.1; omega)) (fun c42 => ?_)
        refine aw_aload_n (aw_d q_Js_parseNames 22 rfl) rfl rfl rfl ?_
        refine aw_getf (aw_d q_Js_parseNames 23 rfl) fL_Js_9_Js rfl rfl ?_
        refine aw_ldcS (aw_d q_Js_parseNames 24 rfl) tL_Js_139 ?_
        refine cV (aw_d q_Js_parseNames 25 rfl) (sp_ml (frC_TP hI39.1 hc) hp_39 (j := 62) (by decide)) vL_Js_101_Sc rfl rfl rfl rfl rfl rfl ⟨aw_le rfl, aw_le rfl⟩ (fun r51 h51 hp51 => ?_)
        cases hx51 : ml T n (tx 62) y39.1 with
        | error u51 =>
          rw [hx51] at hp51
          obtain ⟨rfl, hf51⟩ := hp51
          refine aw_ifN_ne (tgt := 59) (aw_d q_Js_parseNames 26 rfl) (by decide) (by (have hc2 := hc.2.1; omega)) (fun c54 => by exfalso; (have hc2 := hc.2.1; omega)) (fun c54 => ?_)
          refine aw_iconst (v := nI 0) (aw_d q_Js_parseNames 27 rfl) (by decide) ?_
          exact aw_zret (aw_d q_Js_parseNames 28 rfl) rfl (rfl) (by rw [he]; simp only [jm, bd_ok, bd_er, if_true, if_false, eq_self, ↓reduceIte, hx28, hx39, hx51]; exact CG_er (itC_bs hI39 hw (itOK_nil (k := 0))) hf51)
        | ok p51 =>
          rw [hx51] at hp51
          obtain ⟨rfl, rfl, hp_51⟩ := hp51
          refine aw_ifN_ne (tgt := 59) (aw_d q_Js_parseNames 26 rfl) (by decide) (by (have hc2 := hc.2.1; omega)) (fun c54 => ?_) (fun c54 => by exfalso; (have hc2 := hc.2.1; omega))
          refine aw_aload_n (aw_d q_Js_parseNames 29 rfl) rfl rfl rfl ?_
          refine aw_getf (aw_d q_Js_parseNames 30 rfl) fL_Js_9_Js rfl rfl ?_
          refine aw_bipush (v := nI 44) (aw_d q_Js_parseNames 31 rfl) (by decide) ?_
          refine cV (aw_d q_Js_parseNames 32 rfl) (sp_took (frC_TP hI39.1 hc) hp_51 (B := 44) rfl) vL_Js_130_Sc rfl rfl rfl rfl rfl rfl ⟨aw_le rfl, aw_le rfl⟩ (fun r65 h65 hp65 => ?_)
          cases Decidable.em ((T p51).toInt = 44) with
          | inl hx65 =>
            rw [if_pos hx65, if_pos hx65] at hp65
            obtain ⟨rfl, rfl⟩ := hp65
            have hpn65 : p51 + 1 ≤ n := T_lt (frC_TP hI39.1 hc).2.2.2.1 (p := p51) (by omega)
            refine aw_ifN_ne (tgt := 81) (aw_d q_Js_parseNames 33 rfl) (by decide) (by (have hc2 := hc.2.1; omega)) (fun c68 => ?_) (fun c68 => by exfalso; (have hc2 := hc.2.1; omega))
            refine aw_iinc (aw_d q_Js_parseNames 39 rfl) rfl (ii1 _) (aw_le rfl) rfl ?_
            refine aw_goto (tgt := 16) (aw_d q_Js_parseNames 40 rfl) (by decide) ?_
            exact AW.to (ih (i + 1) (p51 + 1) y39.2 F39 _ _ _ _ _ _ (by omega) hpn65 hI39 (he.trans (by simp only [jm, hx28, hx39, hx51, hx65, bd_ok, ↓reduceIte]))) rfl rfl rfl rfl
          | inr hx65 =>
            rw [if_neg hx65, if_neg hx65] at hp65
            obtain ⟨rfl, rfl⟩ := hp65
            refine aw_ifN_ne (tgt := 81) (aw_d q_Js_parseNames 33 rfl) (by decide) (by (have hc2 := hc.2.1; omega)) (fun c68 => by exfalso; (have hc2 := hc.2.1; omega)) (fun c68 => ?_)
            refine aw_aload_n (aw_d q_Js_parseNames 34 rfl) rfl rfl rfl ?_
            refine aw_getf (aw_d q_Js_parseNames 35 rfl) fL_Js_9_Js rfl rfl ?_
            refine aw_ldcS (aw_d q_Js_parseNames 36 rfl) tL_Js_141 ?_
            refine cV (aw_d q_Js_parseNames 37 rfl) (sp_must (frC_TP hI39.1 hc) hp_51 (j := 63) (by decide)) vL_Js_143_Sc rfl rfl rfl rfl rfl rfl ⟨aw_le rfl, aw_le rfl⟩ (fun r77 h77 hp77 => ?_)
            cases hx77 : mu T (tx 63) p51 with
            | error u77 =>
              rw [hx77] at hp77
              obtain ⟨rfl, hf77⟩ := hp77
              exact aw_zret (aw_d q_Js_parseNames 38 rfl) rfl (rfl) (by rw [he]; simp only [jm, bd_ok, bd_er, if_true, if_false, eq_self, ↓reduceIte, hx28, hx39, hx51, hx65, hx77]; exact CG_er (itC_bs hI39 hw (itOK_nil (k := 0))) hf77)
            | ok p77 =>
              rw [hx77] at hp77
              obtain ⟨rfl, rfl, hp_77⟩ := hp77
              exact aw_zret (aw_d q_Js_parseNames 38 rfl) rfl (rfl) (by rw [he]; simp only [jm, bd_ok, bd_er, if_true, if_false, eq_self, ↓reduceIte, hx28, hx39, hx51, hx65, hx77]; exact CG_ok ⟨_, _, _, _, _, _, _, hI39, hp_77, rfl⟩)
set_option maxRecDepth 20000 in
theorem sp_jn {g : aw_G} {S D : aw_S} {E0 : ts_T} {N : nm_T} {n : Nat} {T : Nat → Int32} {p : Nat} {q w l k e z : Int32} {X : Nat → Int32} (hw : tsW E0) (h60 : E0.1 ≤ 60) (hc : TPc S n T) (hp : p ≤ n) (hI : itC S E0 N 0 [] D)  : Sp g M_Js_parseNames 5 107 0 0 [.ref 29, .ref 18] (HP (QC D (nI p) q w l k e z X)) (CG S E0 (jn T n N p) (fun (y : Nat × nm_T) h => ∃ (F : aw_S) (w l k e z : Int32) (X : Nat → Int32), itC S E0 y.2 0 [] F ∧ y.1 ≤ n ∧ h = HP (QC F (nI y.1) q w l k e z X))) := by
  refine Sp.of rfl (aw_le rfl) ?_
  refine aw_aload_n (aw_d q_Js_parseNames 0 rfl) rfl rfl rfl ?_
  refine aw_getf (aw_d q_Js_parseNames 1 rfl) fL_Js_9_Js rfl rfl ?_
  refine aw_bipush (v := nI 93) (aw_d q_Js_parseNames 2 rfl) (by decide) ?_
  refine cV (aw_d q_Js_parseNames 3 rfl) (sp_took (frC_TP hI.1 hc) hp (B := 93) rfl) vL_Js_130_Sc rfl rfl rfl rfl rfl rfl ⟨aw_le rfl, aw_le rfl⟩ (fun r6 h6 hp6 => ?_)
  cases Decidable.em ((T p).toInt = 93) with
  | inl hx6 =>
    rw [if_pos hx6, if_pos hx6] at hp6
    obtain ⟨rfl, rfl⟩ := hp6
    have hpn6 : p + 1 ≤ n := T_lt (frC_TP hI.1 hc).2.2.2.1 (p := p) (by omega)
    refine aw_ifN_eq (tgt := 14) (aw_d q_Js_parseNames 4 rfl) (by decide) (by omega) (fun c9 => by exfalso; omega) (fun c9 => ?_)
    refine aw_iconst (v := nI 1) (aw_d q_Js_parseNames 5 rfl) (by decide) ?_
    exact aw_zret (aw_d q_Js_parseNames 6 rfl) rfl (rfl) (by rw [jn, if_pos hx6]; exact CG_ok ⟨_, _, _, _, _, _, _, hI, hpn6, rfl⟩)
  | inr hx6 =>
    rw [if_neg hx6, if_neg hx6] at hp6
    obtain ⟨rfl, rfl⟩ := hp6
    refine aw_ifN_eq (tgt := 14) (aw_d q_Js_parseNames 4 rfl) (by decide) (by omega) (fun c9 => ?_) (fun c9 => by exfalso; omega)
    refine aw_iconst (v := nI 0) (aw_d q_Js_parseNames 7 rfl) (by decide) ?_
    refine aw_istore_n (aw_d q_Js_parseNames 8 rfl) rfl (aw_le rfl) rfl ?_
    rw [jn, if_neg hx6]
    exact lp_jm hw h60 hc 7 0 p N D _ _ _ _ _ _ (by omega) hp hI rfl
set_option maxRecDepth 20000 in
theorem lp_jb {g : aw_G} {S : aw_S} {E0 : ts_T} {n : Nat} {T : Nat → Int32} {q : Int32} (hw : tsW E0) (h60 : E0.1 ≤ 60) (hc : TPc S n T) {N : nm_T} {r : Nat} (hr : r < 24) {res : Except Nat (Nat × sq_T)} : ∀ (m i p lo : Nat) (s : sq_T) (D : aw_S) (x : Int32) (w l k e z : Int32) (X : Nat → Int32), m + i = 7 → p ≤ n → x.toInt = (lo : Int) - 1 → lo ≤ 6 → itC S E0 N (r + 1) s D → itOK s (r * 6 + lo) → res = jb T n N r m p lo s → AW g M_Js_parseRow (aw_rm 7 155 0 0) (aw_F g 0 0 (CG S E0 res (fun (y : Nat × sq_T) h => ∃ (F : aw_S) (w l k e z : Int32) (X : Nat → Int32), itC S E0 N (r + 1) y.2 F ∧ itOK y.2 (r * 6 + 6) ∧ y.1 ≤ n ∧ h = HP (QC F (nI y.1) q w l k e z X)))) 38 [some (.ref 29), some (.ref 18), some (.int (nI r)), some (.int x), some (.int (nI i))] [] (HP (QC D (nI p) q w l k e z X)) 0 0 := by
  intro m
  induction m with
  | zero =>
    intro i p lo s D x w l k e z X hk hp hx3 hlo hI hs he
    refine aw_iload (aw_d q_Js_parseRow 21 rfl) rfl ?_
    refine aw_bipush (v := nI 6) (aw_d q_Js_parseRow 22 rfl) (by decide) ?_
    refine aw_icmpN_gt (tgt := 159) (aw_d q_Js_parseRow 23 rfl) (by decide) (by (have hc2 := hc.2.1; omega)) (by (have hc2 := hc.2.1; omega)) (fun c42 => ?_) (fun c42 => by exfalso; (have hc2 := hc.2.1; omega))
    refine aw_aload_n (aw_d q_Js_parseRow 79 rfl) rfl rfl rfl ?_
    refine aw_getf (aw_d q_Js_parseRow 80 rfl) fL_Js_9_Js rfl rfl ?_
    refine cVr (aw_d q_Js_parseRow 81 rfl) (sp_fail) vL_Js_146_Sc rfl rfl rfl rfl rfl rfl ⟨aw_le rfl, aw_le rfl⟩ ?_
    exact aw_zret (aw_d q_Js_parseRow 82 rfl) rfl (rfl) (by rw [he]; exact CG_er (itC_bs hI hw hs) CF_i)
  | succ m ih =>
    intro i p lo s D x w l k e z X hk hp hx3 hlo hI hs he
    refine aw_iload (aw_d q_Js_parseRow 21 rfl) rfl ?_
    refine aw_bipush (v := nI 6) (aw_d q_Js_parseRow 22 rfl) (by decide) ?_
    refine aw_icmpN_gt (tgt := 159) (aw_d q_Js_parseRow 23 rfl) (by decide) (by (have hc2 := hc.2.1; have h6 := hI.2.1.2.1; omega)) (by (have hc2 := hc.2.1; have h6 := hI.2.1.2.1; omega)) (fun c42 => by exfalso; (have hc2 := hc.2.1; have h6 := hI.2.1.2.1; omega)) (fun c42 => ?_)
    refine aw_aload_n (aw_d q_Js_parseRow 24 rfl) rfl rfl rfl ?_
    refine aw_getf (aw_d q_Js_parseRow 25 rfl) fL_Js_9_Js rfl rfl ?_
    refine aw_ldcS (aw_d q_Js_parseRow 26 rfl) tL_Js_134 ?_
    refine cV (aw_d q_Js_parseRow 27 rfl) (sp_ml (frC_TP hI.1 hc) hp (j := 61) (by decide)) vL_Js_101_Sc rfl rfl rfl rfl rfl rfl ⟨aw_le rfl, aw_le rfl⟩ (fun r51 h51 hp51 => ?_)
    cases hx51 : ml T n (tx 61) p with
    | error u51 =>
      rw [hx51] at hp51
      obtain ⟨rfl, hf51⟩ := hp51
      refine aw_ifN_ne (tgt := 59) (aw_d q_Js_parseRow 28 rfl) (by decide) (by (have hc2 := hc.2.1; have h6 := hI.2.1.2.1; omega)) (fun c54 => by exfalso; (have hc2 := hc.2.1; have h6 := hI.2.1.2.1; omega)) (fun c54 => ?_)
      refine aw_iconst (v := nI 0) (aw_d q_Js_parseRow 29 rfl) (by decide) ?_
      exact aw_zret (aw_d q_Js_parseRow 30 rfl) rfl (rfl) (by rw [he]; simp only [jb, jt, bd_ok, bd_er, if_true, if_false, eq_self, ↓reduceIte, hx51]; exact CG_er (itC_bs hI hw hs) hf51)
    | ok p51 =>
      rw [hx51] at hp51
      obtain ⟨rfl, rfl, hp_51⟩ := hp51
      refine aw_ifN_ne (tgt := 59) (aw_d q_Js_parseRow 28 rfl) (by decide) (by (have hc2 := hc.2.1; have h6 := hI.2.1.2.1; omega)) (fun c54 => ?_) (fun c54 => by exfalso; (have hc2 := hc.2.1; have h6 := hI.2.1.2.1; omega))
      refine aw_aload_n (aw_d q_Js_parseRow 31 rfl) rfl rfl rfl ?_
      refine aw_getf (aw_d q_Js_parseRow 32 rfl) fL_Js_9_Js rfl rfl ?_
      refine aw_aload_n (aw_d q_Js_parseRow 33 rfl) rfl rfl rfl ?_
      refine aw_iload_n (aw_d q_Js_parseRow 34 rfl) rfl rfl ?_
      refine cV (aw_d q_Js_parseRow 35 rfl) (sp_nameBehind hI hc (lo := lo) hx3 hp_51) vL_Js_163_Sc rfl rfl rfl rfl rfl rfl ⟨aw_le rfl, aw_le rfl⟩ (fun r65 h65 hp65 => ?_)
      cases hx65 : rn T n N lo p51 with
      | error u65 =>
        rw [hx65] at hp65
        obtain ⟨rfl, hf65⟩ := hp65
        refine aw_istore_n (aw_d q_Js_parseRow 36 rfl) rfl (aw_le rfl) rfl ?_
        refine aw_iload_n (aw_d q_Js_parseRow 37 rfl) rfl rfl ?_
        refine aw_iconst (v := (-1)) (aw_d q_Js_parseRow 38 rfl) (by decide) ?_
        refine aw_icmpZ_eq (tgt := 88) (aw_d q_Js_parseRow 39 rfl) (by decide) (fun c71 => ?_) (fun c71 => by exact absurd rfl c71)
        refine aw_iconst (v := nI 0) (aw_d q_Js_parseRow 46 rfl) (by decide) ?_
        exact aw_zret (aw_d q_Js_parseRow 47 rfl) rfl (rfl) (by rw [he]; simp only [jb, jt, bd_ok, bd_er, if_true, if_false, eq_self, ↓reduceIte, hx51, hx65]; exact CG_er (itC_bs hI hw hs) hf65)
      | ok y65 =>
        rw [hx65] at hp65
        obtain ⟨rfl, hv65, hlo65, hp_65, w65, l65, rfl⟩ := hp65
        refine aw_istore_n (aw_d q_Js_parseRow 36 rfl) rfl (aw_le rfl) rfl ?_
        refine aw_iload_n (aw_d q_Js_parseRow 37 rfl) rfl rfl ?_
        refine aw_iconst (v := (-1)) (aw_d q_Js_parseRow 38 rfl) (by decide) ?_
        refine aw_icmpJ_eq (tgt := 88) (aw_d q_Js_parseRow 39 rfl) (by decide) (by (have hc2 := hc.2.1; have h6 := hI.2.1.2.1; omega)) (fun c71 => by (have h1 : (-1 : Int32).toInt = -1 := rfl; have h6 := hI.2.1.2.1; omega)) (fun c71 => ?_)
        refine aw_aload_n (aw_d q_Js_parseRow 40 rfl) rfl rfl rfl ?_
        refine cV (aw_d q_Js_parseRow 41 rfl) (sp_parseValue (frC_TP hI.1 hc) hp_65) vL_Js_167_Js rfl rfl rfl rfl rfl rfl ⟨aw_le rfl, aw_le rfl⟩ (fun r75 h75 hp75 => ?_)
        cases hx75 : jv T n y65.1 with
        | error u75 =>
          rw [hx75] at hp75
          obtain ⟨rfl, hf75⟩ := hp75
          refine aw_ifN_eq (tgt := 88) (aw_d q_Js_parseRow 42 rfl) (by decide) (by (have hc2 := hc.2.1; have h6 := hI.2.1.2.1; omega)) (fun c78 => ?_) (fun c78 => by exfalso; (have hc2 := hc.2.1; have h6 := hI.2.1.2.1; omega))
          refine aw_iconst (v := nI 0) (aw_d q_Js_parseRow 46 rfl) (by decide) ?_
          exact aw_zret (aw_d q_Js_parseRow 47 rfl) rfl (rfl) (by rw [he]; simp only [jb, jt, bd_ok, bd_er, if_true, if_false, eq_self, ↓reduceIte, hx51, hx65, hx75]; exact CG_er (itC_bs hI hw hs) hf75)
        | ok y75 =>
          rw [hx75] at hp75
          obtain ⟨pp75, kd75, L75⟩ := y75
          obtain ⟨rfl, ⟨w75, l75, rfl⟩, hy75, hk75, ho75⟩ := hp75
          refine aw_ifN_eq (tgt := 88) (aw_d q_Js_parseRow 42 rfl) (by decide) (by (have hc2 := hc.2.1; have h6 := hI.2.1.2.1; omega)) (fun c78 => by exfalso; (have hc2 := hc.2.1; have h6 := hI.2.1.2.1; omega)) (fun c78 => ?_)
          refine aw_aload_n (aw_d q_Js_parseRow 43 rfl) rfl rfl rfl ?_
          refine cV (aw_d q_Js_parseRow 44 rfl) (sp_parseExtra (kd := kd75) (L := L75) hk75 (frC_TP hI.1 hc) hy75.1) vL_Js_170_Js rfl rfl rfl rfl rfl rfl ⟨aw_le rfl, aw_le rfl⟩ (fun r82 h82 hp82 => ?_)
          cases hx82 : jx T n kd75 pp75 L75 with
          | error u82 =>
            rw [hx82] at hp82
            obtain ⟨rfl, hf82⟩ := hp82
            refine aw_ifN_ne (tgt := 90) (aw_d q_Js_parseRow 45 rfl) (by decide) (by (have hc2 := hc.2.1; have h6 := hI.2.1.2.1; omega)) (fun c85 => by exfalso; (have hc2 := hc.2.1; have h6 := hI.2.1.2.1; omega)) (fun c85 => ?_)
            refine aw_iconst (v := nI 0) (aw_d q_Js_parseRow 46 rfl) (by decide) ?_
            exact aw_zret (aw_d q_Js_parseRow 47 rfl) rfl (rfl) (by rw [he]; simp only [jb, jt, bd_ok, bd_er, if_true, if_false, eq_self, ↓reduceIte, hx51, hx65, hx75, hx82]; exact CG_er (itC_bs hI hw hs) hf82)
          | ok y82 =>
            rw [hx82] at hp82
            obtain ⟨pp82, kd82, ex82, L82⟩ := y82
            obtain ⟨rfl, ⟨w82, l82, rfl⟩, hy82, hk82, he82, h482, h382, hL82, ho82⟩ := hp82
            have hL82 : L75 = L82 := hL82.symm
            subst hL82
            refine aw_ifN_ne (tgt := 90) (aw_d q_Js_parseRow 45 rfl) (by decide) (by (have hc2 := hc.2.1; have h6 := hI.2.1.2.1; omega)) (fun c85 => ?_) (fun c85 => by exfalso; (have hc2 := hc.2.1; have h6 := hI.2.1.2.1; omega))
            refine aw_aload_n (aw_d q_Js_parseRow 48 rfl) rfl rfl rfl ?_
            refine aw_iload_n (aw_d q_Js_parseRow 49 rfl) rfl rfl ?_
            refine aw_iload_n (aw_d q_Js_parseRow 50 rfl) rfl rfl ?_
            refine aw_aload_n (aw_d q_Js_parseRow 51 rfl) rfl rfl rfl ?_
            refine aw_getf (aw_d q_Js_parseRow 52 rfl) fL_Js_19_Js rfl rfl ?_
            refine aw_aload_n (aw_d q_Js_parseRow 53 rfl) rfl rfl rfl ?_
            refine aw_getf (aw_d q_Js_parseRow 54 rfl) fL_Js_9_Js rfl rfl ?_
            refine aw_getf (v := .int (nI (kd82))) (aw_d q_Js_parseRow 55 rfl) fL_Js_173_Sc rfl (gk rfl) ?_
            refine aw_aload_n (aw_d q_Js_parseRow 56 rfl) rfl rfl rfl ?_
            refine aw_getf (aw_d q_Js_parseRow 57 rfl) fL_Js_9_Js rfl rfl ?_
            refine aw_getf (v := .int (nI (ex82))) (aw_d q_Js_parseRow 58 rfl) fL_Js_176_Sc rfl (gk rfl) ?_
            refine aw_aload_n (aw_d q_Js_parseRow 59 rfl) rfl rfl rfl ?_
            refine aw_getf (aw_d q_Js_parseRow 60 rfl) fL_Js_9_Js rfl rfl ?_
            refine aw_getf (aw_d q_Js_parseRow 61 rfl) fL_Js_179_Sc rfl rfl ?_
            refine cV (aw_d q_Js_parseRow 62 rfl) (sp_number hI hw h60 hs (c0 := r * 6 + lo) (by have h6 := hI.2.1.2.1; omega) (kd := kd82) (ex := ex82) (L := L75) hk82 he82 hy75.2.1) vL_Js_183_Te rfl rfl rfl rfl rfl rfl ⟨aw_le rfl, aw_le rfl⟩ (fun r118 h118 hp118 => ?_)
            obtain ⟨rfl, F118, ht118, hf118, rfl⟩ := hp118
            refine cV (aw_d q_Js_parseRow 63 rfl) (sp_setD hI ht118 hf118 (r := r) (v := y65.2) hr (by have := hI.2.1.2.1; omega)) vL_Js_187_Tb rfl rfl rfl rfl rfl rfl ⟨aw_le rfl, aw_le rfl⟩ (fun r121 h121 hp121 => ?_)
            obtain ⟨rfl, G121, hI121, rfl⟩ := hp121
            have hw82 : itW (r * 6 + y65.2, kd82, ex82, L75) := ⟨hk82, hy75.2.1, he82, h482, h382, hy75.2.2, ho82.elim (fun q => by have q : kd82 = kd75 := q; rw [q]; exact ho75) (fun q => okL_big (kd := kd82) (by have q : 2 < kd82 := q; omega))⟩
            have hs121 := itOK_add (m := r * 6 + 6) hs hw82 (by show r * 6 + lo ≤ r * 6 + y65.2; omega) (by show r * 6 + y65.2 < r * 6 + 6; have := hI.2.1.2.1; omega)
            have hs122 := itOK_add (m := r * 6 + (y65.2 + 1)) hs hw82 (by show r * 6 + lo ≤ r * 6 + y65.2; omega) (by show r * 6 + y65.2 < r * 6 + (y65.2 + 1); omega)
            refine aw_aload_n (aw_d q_Js_parseRow 64 rfl) rfl rfl rfl ?_
            refine aw_getf (aw_d q_Js_parseRow 65 rfl) fL_Js_9_Js rfl rfl ?_
            refine cVv (aw_d q_Js_parseRow 66 rfl) (sp_skip (frC_TP hI121.1 hc) hy82) vL_Js_149_Sc rfl rfl rfl rfl rfl rfl ⟨aw_le rfl, aw_le rfl⟩ ?_
            refine aw_aload_n (aw_d q_Js_parseRow 67 rfl) rfl rfl rfl ?_
            refine aw_getf (aw_d q_Js_parseRow 68 rfl) fL_Js_9_Js rfl rfl ?_
            refine aw_bipush (v := nI 44) (aw_d q_Js_parseRow 69 rfl) (by decide) ?_
            refine cV (aw_d q_Js_parseRow 70 rfl) (sp_took (frC_TP hI121.1 hc) (sk_le (T := T) hy82).2 (B := 44) rfl) vL_Js_130_Sc rfl rfl rfl rfl rfl rfl ⟨aw_le rfl, aw_le rfl⟩ (fun r137 h137 hp137 => ?_)
            cases Decidable.em ((T (sk T n pp82)).toInt = 44) with
            | inl hx137 =>
              rw [if_pos hx137, if_pos hx137] at hp137
              obtain ⟨rfl, rfl⟩ := hp137
              have hpn137 : (sk T n pp82) + 1 ≤ n := T_lt (frC_TP hI121.1 hc).2.2.2.1 (p := (sk T n pp82)) (by omega)
              refine aw_ifN_ne (tgt := 153) (aw_d q_Js_parseRow 71 rfl) (by decide) (by (have hc2 := hc.2.1; have h6 := hI.2.1.2.1; omega)) (fun c140 => ?_) (fun c140 => by exfalso; (have hc2 := hc.2.1; have h6 := hI.2.1.2.1; omega))
              refine aw_iinc (aw_d q_Js_parseRow 77 rfl) rfl (ii1 _) (aw_le rfl) rfl ?_
              refine aw_goto (tgt := 38) (aw_d q_Js_parseRow 78 rfl) (by decide) ?_
              exact AW.to (ih (i + 1) (sk T n pp82 + 1) (y65.2 + 1) _ G121 _ _ _ _ _ _ _ (by omega) hpn137 (by rw [nI_toInt (by have := hI.2.1.2.1; omega)]; omega) (by have := hI.2.1.2.1; omega) hI121 hs122 (he.trans (by simp only [jb, jt, hx51, hx65, hx75, hx82, hx137, bd_ok, ↓reduceIte]))) rfl rfl rfl rfl
            | inr hx137 =>
              rw [if_neg hx137, if_neg hx137] at hp137
              obtain ⟨rfl, rfl⟩ := hp137
              refine aw_ifN_ne (tgt := 153) (aw_d q_Js_parseRow 71 rfl) (by decide) (by (have hc2 := hc.2.1; have h6 := hI.2.1.2.1; omega)) (fun c140 => by exfalso; (have hc2 := hc.2.1; have h6 := hI.2.1.2.1; omega)) (fun c140 => ?_)
              refine aw_aload_n (aw_d q_Js_parseRow 72 rfl) rfl rfl rfl ?_
              refine aw_getf (aw_d q_Js_parseRow 73 rfl) fL_Js_9_Js rfl rfl ?_
              refine aw_ldcS (aw_d q_Js_parseRow 74 rfl) tL_Js_191 ?_
              refine cV (aw_d q_Js_parseRow 75 rfl) (sp_must (frC_TP hI121.1 hc) (sk_le (T := T) hy82).2 (j := 73) (by decide)) vL_Js_143_Sc rfl rfl rfl rfl rfl rfl ⟨aw_le rfl, aw_le rfl⟩ (fun r149 h149 hp149 => ?_)
              cases hx149 : mu T (tx 73) (sk T n pp82) with
              | error u149 =>
                rw [hx149] at hp149
                obtain ⟨rfl, hf149⟩ := hp149
                exact aw_zret (aw_d q_Js_parseRow 76 rfl) rfl (rfl) (by rw [he]; simp only [jb, jt, bd_ok, bd_er, if_true, if_false, eq_self, ↓reduceIte, hx51, hx65, hx75, hx82, hx137, hx149]; exact CG_er (itC_bs hI121 hw hs121) hf149)
              | ok p149 =>
                rw [hx149] at hp149
                obtain ⟨rfl, rfl, hp_149⟩ := hp149
                exact aw_zret (aw_d q_Js_parseRow 76 rfl) rfl (rfl) (by rw [he]; simp only [jb, jt, bd_ok, bd_er, if_true, if_false, eq_self, ↓reduceIte, hx51, hx65, hx75, hx82, hx137, hx149]; exact CG_ok ⟨_, _, _, _, _, _, _, hI121, hs121, hp_149, rfl⟩)
set_option maxRecDepth 20000 in
theorem sp_jw {g : aw_G} {S D : aw_S} {E0 : ts_T} {N : nm_T} {s : sq_T} {r : Nat} {n : Nat} {T : Nat → Int32} {p : Nat} {q w l k e z : Int32} {X : Nat → Int32} (hw : tsW E0) (h60 : E0.1 ≤ 60) (hc : TPc S n T) (hp : p ≤ n) (hr : r < 24) (hI : itC S E0 N r s D) (hs : itOK s (r * 6))  : Sp g M_Js_parseRow 7 155 0 0 [.ref 29, .ref 18] (HP (QC D (nI p) q w l k e z X)) (CG S E0 (jw T n N r p s) (fun (y : Nat × sq_T) h => ∃ (F : aw_S) (w l k e z : Int32) (X : Nat → Int32), itC S E0 N (r + 1) y.2 F ∧ itOK y.2 (r * 6 + 6) ∧ y.1 ≤ n ∧ h = HP (QC F (nI y.1) q w l k e z X))) := by
  refine Sp.of rfl (aw_le rfl) ?_
  refine aw_aload_n (aw_d q_Js_parseRow 0 rfl) rfl rfl rfl ?_
  refine aw_getf (aw_d q_Js_parseRow 1 rfl) fL_Js_9_Js rfl rfl ?_
  refine aw_ldcS (aw_d q_Js_parseRow 2 rfl) tL_Js_158 ?_
  refine cV (aw_d q_Js_parseRow 3 rfl) (sp_ml (frC_TP hI.1 hc) hp (j := 65) (by decide)) vL_Js_101_Sc rfl rfl rfl rfl rfl rfl ⟨aw_le rfl, aw_le rfl⟩ (fun r6 h6 hp6 => ?_)
  cases hx6 : ml T n (tx 65) p with
  | error u6 =>
    rw [hx6] at hp6
    obtain ⟨rfl, hf6⟩ := hp6
    refine aw_ifN_ne (tgt := 14) (aw_d q_Js_parseRow 4 rfl) (by decide) (by omega) (fun c9 => by exfalso; omega) (fun c9 => ?_)
    refine aw_iconst (v := nI 0) (aw_d q_Js_parseRow 5 rfl) (by decide) ?_
    exact aw_zret (aw_d q_Js_parseRow 6 rfl) rfl (rfl) (by simp only [jw, hx6, bd_er]; exact CG_er (itC_bs hI hw hs) hf6)
  | ok p6 =>
    rw [hx6] at hp6
    obtain ⟨rfl, rfl, hp_6⟩ := hp6
    refine aw_ifN_ne (tgt := 14) (aw_d q_Js_parseRow 4 rfl) (by decide) (by omega) (fun c9 => ?_) (fun c9 => by exfalso; omega)
    refine aw_aload_n (aw_d q_Js_parseRow 7 rfl) rfl rfl rfl ?_
    refine cV (aw_d q_Js_parseRow 8 rfl) (sp_rowD hI hs hr) vL_Js_160_Tb rfl rfl rfl rfl rfl rfl ⟨aw_le rfl, aw_le rfl⟩ (fun r15 h15 hp15 => ?_)
    obtain ⟨rfl, F15, hI15, rfl⟩ := hp15
    refine aw_istore_n (aw_d q_Js_parseRow 9 rfl) rfl (aw_le rfl) rfl ?_
    refine aw_aload_n (aw_d q_Js_parseRow 10 rfl) rfl rfl rfl ?_
    refine aw_getf (aw_d q_Js_parseRow 11 rfl) fL_Js_9_Js rfl rfl ?_
    refine aw_bipush (v := nI 125) (aw_d q_Js_parseRow 12 rfl) (by decide) ?_
    refine cV (aw_d q_Js_parseRow 13 rfl) (sp_took (frC_TP hI15.1 hc) hp_6 (B := 125) rfl) vL_Js_130_Sc rfl rfl rfl rfl rfl rfl ⟨aw_le rfl, aw_le rfl⟩ (fun r25 h25 hp25 => ?_)
    cases Decidable.em ((T p6).toInt = 125) with
    | inl hx25 =>
      rw [if_pos hx25, if_pos hx25] at hp25
      obtain ⟨rfl, rfl⟩ := hp25
      have hpn25 : p6 + 1 ≤ n := T_lt (frC_TP hI15.1 hc).2.2.2.1 (p := p6) (by omega)
      refine aw_ifN_eq (tgt := 33) (aw_d q_Js_parseRow 14 rfl) (by decide) (by omega) (fun c28 => by exfalso; omega) (fun c28 => ?_)
      refine aw_iconst (v := nI 1) (aw_d q_Js_parseRow 15 rfl) (by decide) ?_
      exact aw_zret (aw_d q_Js_parseRow 16 rfl) rfl (rfl) (by simp only [jw, hx6, bd_ok, hx25, ↓reduceIte]; exact CG_ok ⟨_, _, _, _, _, _, _, hI15, itOK_mono hs (by omega), hpn25, rfl⟩)
    | inr hx25 =>
      rw [if_neg hx25, if_neg hx25] at hp25
      obtain ⟨rfl, rfl⟩ := hp25
      refine aw_ifN_eq (tgt := 33) (aw_d q_Js_parseRow 14 rfl) (by decide) (by omega) (fun c28 => ?_) (fun c28 => by exfalso; omega)
      refine aw_iconst (v := (-1)) (aw_d q_Js_parseRow 17 rfl) (by decide) ?_
      refine aw_istore_n (aw_d q_Js_parseRow 18 rfl) rfl (aw_le rfl) rfl ?_
      refine aw_iconst (v := nI 0) (aw_d q_Js_parseRow 19 rfl) (by decide) ?_
      refine aw_istore (aw_d q_Js_parseRow 20 rfl) (aw_le rfl) rfl ?_
      simp only [jw, hx6, bd_ok, hx25, ↓reduceIte]
      exact AW.to (lp_jb hw h60 hc hr 7 0 p6 0 s F15 _ _ _ _ _ _ _ (by omega) hp_6 (by decide) (by omega) hI15 hs rfl) rfl rfl rfl rfl
set_option maxRecDepth 20000 in
theorem lp_js {g : aw_G} {S : aw_S} {E0 : ts_T} {n : Nat} {T : Nat → Int32} {q : Int32} (hw : tsW E0) (h60 : E0.1 ≤ 60) (hc : TPc S n T) {N : nm_T} {res : Except Nat (Nat × Nat × sq_T)} : ∀ (m i p r : Nat) (s : sq_T) (D : aw_S) (w l k e z : Int32) (X : Nat → Int32), m + i = 25 → p ≤ n → itC S E0 N r s D → itOK s (r * 6) → res = js T n N m p r s → AW g M_Js_parseRows (aw_rm 8 179 0 0) (aw_F g 0 0 (CG S E0 res (fun (y : Nat × Nat × sq_T) h => ∃ (F : aw_S) (w l k e z : Int32) (X : Nat → Int32), itC S E0 N y.2.1 y.2.2 F ∧ itOK y.2.2 (y.2.1 * 6) ∧ y.1 ≤ n ∧ h = HP (QC F (nI y.1) q w l k e z X)))) 16 [some (.ref 29), some (.ref 18), some (.int (nI i))] [] (HP (QC D (nI p) q w l k e z X)) 0 0 := by
  intro m
  induction m with
  | zero =>
    intro i p r s D w l k e z X hk hp hI hs he
    refine aw_iload_n (aw_d q_Js_parseRows 9 rfl) rfl rfl ?_
    refine aw_bipush (v := nI 24) (aw_d q_Js_parseRows 10 rfl) (by decide) ?_
    refine aw_icmpN_gt (tgt := 89) (aw_d q_Js_parseRows 11 rfl) (by decide) (by (have hc2 := hc.2.1; omega)) (by (have hc2 := hc.2.1; omega)) (fun c19 => ?_) (fun c19 => by exfalso; (have hc2 := hc.2.1; omega))
    refine aw_aload_n (aw_d q_Js_parseRows 43 rfl) rfl rfl rfl ?_
    refine aw_getf (aw_d q_Js_parseRows 44 rfl) fL_Js_9_Js rfl rfl ?_
    refine cVr (aw_d q_Js_parseRows 45 rfl) (sp_fail) vL_Js_146_Sc rfl rfl rfl rfl rfl rfl ⟨aw_le rfl, aw_le rfl⟩ ?_
    exact aw_zret (aw_d q_Js_parseRows 46 rfl) rfl (rfl) (by rw [he]; exact CG_er (itC_bs hI hw hs) CF_i)
  | succ m ih =>
    intro i p r s D w l k e z X hk hp hI hs he
    refine aw_iload_n (aw_d q_Js_parseRows 9 rfl) rfl rfl ?_
    refine aw_bipush (v := nI 24) (aw_d q_Js_parseRows 10 rfl) (by decide) ?_
    refine aw_icmpN_gt (tgt := 89) (aw_d q_Js_parseRows 11 rfl) (by decide) (by (have hc2 := hc.2.1; omega)) (by (have hc2 := hc.2.1; omega)) (fun c19 => by exfalso; (have hc2 := hc.2.1; omega)) (fun c19 => ?_)
    refine aw_aload_n (aw_d q_Js_parseRows 12 rfl) rfl rfl rfl ?_
    refine aw_getf (aw_d q_Js_parseRows 13 rfl) fL_Js_9_Js rfl rfl ?_
    refine cVv (aw_d q_Js_parseRows 14 rfl) (sp_skip (frC_TP hI.1 hc) hp) vL_Js_149_Sc rfl rfl rfl rfl rfl rfl ⟨aw_le rfl, aw_le rfl⟩ ?_
    refine aw_aload_n (aw_d q_Js_parseRows 15 rfl) rfl rfl rfl ?_
    refine cVr (aw_d q_Js_parseRows 16 rfl) (sp_Tb_hasRoomForRow_18 (nmC_T hI.2.1 hI.2.2.1.1 hI.2.2.1.2)) vL_Js_152_Tb rfl rfl rfl rfl rfl rfl ⟨aw_le rfl, aw_le rfl⟩ ?_
    refine aw_ifB_ne (tgt := 44) (aw_d q_Js_parseRows 17 rfl) (by decide) (fun c33 => ?_) (fun c33 => ?_)
    · refine aw_aload_n (aw_d q_Js_parseRows 22 rfl) rfl rfl rfl ?_
      refine aw_aload_n (aw_d q_Js_parseRows 23 rfl) rfl rfl rfl ?_
      refine cV (aw_d q_Js_parseRows 24 rfl) (sp_jw hw h60 hc (sk_le (T := T) hp).2 (by omega) hI hs) vL_Js_155_Js rfl rfl rfl rfl rfl rfl ⟨aw_le rfl, aw_le rfl⟩ (fun r46 h46 hp46 => ?_)
      cases hx46 : jw T n N r (sk T n p) s with
      | error u46 =>
        rw [hx46] at hp46
        obtain ⟨rfl, F46, hb46, hf46⟩ := hp46
        refine aw_ifN_ne (tgt := 54) (aw_d q_Js_parseRows 25 rfl) (by decide) (by (have hc2 := hc.2.1; omega)) (fun c49 => by exfalso; (have hc2 := hc.2.1; omega)) (fun c49 => ?_)
        refine aw_iconst (v := nI 0) (aw_d q_Js_parseRows 26 rfl) (by decide) ?_
        exact aw_zret (aw_d q_Js_parseRows 27 rfl) rfl (rfl) (by rw [he]; simp only [js, bd_ok, bd_er, if_true, if_false, eq_self, ↓reduceIte, hx46, c33]; exact CG_er hb46 hf46)
      | ok y46 =>
        rw [hx46] at hp46
        obtain ⟨rfl, F46, w46, l46, k46, e46, z46, X46, hI46, hs46, hp_46, rfl⟩ := hp46
        have hs46 := itOK_mono hs46 (show r * 6 + 6 ≤ (r + 1) * 6 by omega)
        refine aw_ifN_ne (tgt := 54) (aw_d q_Js_parseRows 25 rfl) (by decide) (by (have hc2 := hc.2.1; omega)) (fun c49 => ?_) (fun c49 => by exfalso; (have hc2 := hc.2.1; omega))
        refine aw_aload_n (aw_d q_Js_parseRows 28 rfl) rfl rfl rfl ?_
        refine aw_getf (aw_d q_Js_parseRows 29 rfl) fL_Js_9_Js rfl rfl ?_
        refine cVv (aw_d q_Js_parseRows 30 rfl) (sp_skip (frC_TP hI46.1 hc) hp_46) vL_Js_149_Sc rfl rfl rfl rfl rfl rfl ⟨aw_le rfl, aw_le rfl⟩ ?_
        refine aw_aload_n (aw_d q_Js_parseRows 31 rfl) rfl rfl rfl ?_
        refine aw_getf (aw_d q_Js_parseRows 32 rfl) fL_Js_9_Js rfl rfl ?_
        refine aw_bipush (v := nI 44) (aw_d q_Js_parseRows 33 rfl) (by decide) ?_
        refine cV (aw_d q_Js_parseRows 34 rfl) (sp_took (frC_TP hI46.1 hc) (sk_le (T := T) hp_46).2 (B := 44) rfl) vL_Js_130_Sc rfl rfl rfl rfl rfl rfl ⟨aw_le rfl, aw_le rfl⟩ (fun r67 h67 hp67 => ?_)
        cases Decidable.em ((T (sk T n y46.1)).toInt = 44) with
        | inl hx67 =>
          rw [if_pos hx67, if_pos hx67] at hp67
          obtain ⟨rfl, rfl⟩ := hp67
          have hpn67 : (sk T n y46.1) + 1 ≤ n := T_lt (frC_TP hI46.1 hc).2.2.2.1 (p := (sk T n y46.1)) (by omega)
          refine aw_ifN_ne (tgt := 83) (aw_d q_Js_parseRows 35 rfl) (by decide) (by (have hc2 := hc.2.1; omega)) (fun c70 => ?_) (fun c70 => by exfalso; (have hc2 := hc.2.1; omega))
          refine aw_iinc (aw_d q_Js_parseRows 41 rfl) rfl (ii1 _) (aw_le rfl) rfl ?_
          refine aw_goto (tgt := 16) (aw_d q_Js_parseRows 42 rfl) (by decide) ?_
          exact AW.to (ih (i + 1) (sk T n y46.1 + 1) (r + 1) y46.2 F46 _ _ _ _ _ _ (by omega) hpn67 hI46 hs46 (he.trans (by simp only [js, c33, hx46, hx67, bd_ok, ↓reduceIte]))) rfl rfl rfl rfl
        | inr hx67 =>
          rw [if_neg hx67, if_neg hx67] at hp67
          obtain ⟨rfl, rfl⟩ := hp67
          refine aw_ifN_ne (tgt := 83) (aw_d q_Js_parseRows 35 rfl) (by decide) (by (have hc2 := hc.2.1; omega)) (fun c70 => by exfalso; (have hc2 := hc.2.1; omega)) (fun c70 => ?_)
          refine aw_aload_n (aw_d q_Js_parseRows 36 rfl) rfl rfl rfl ?_
          refine aw_getf (aw_d q_Js_parseRows 37 rfl) fL_Js_9_Js rfl rfl ?_
          refine aw_ldcS (aw_d q_Js_parseRows 38 rfl) tL_Js_141 ?_
          refine cV (aw_d q_Js_parseRows 39 rfl) (sp_must (frC_TP hI46.1 hc) (sk_le (T := T) hp_46).2 (j := 63) (by decide)) vL_Js_143_Sc rfl rfl rfl rfl rfl rfl ⟨aw_le rfl, aw_le rfl⟩ (fun r79 h79 hp79 => ?_)
          cases hx79 : mu T (tx 63) (sk T n y46.1) with
          | error u79 =>
            rw [hx79] at hp79
            obtain ⟨rfl, hf79⟩ := hp79
            exact aw_zret (aw_d q_Js_parseRows 40 rfl) rfl (rfl) (by rw [he]; simp only [js, bd_ok, bd_er, if_true, if_false, eq_self, ↓reduceIte, hx46, hx67, hx79, c33]; exact CG_er (itC_bs hI46 hw hs46) hf79)
          | ok p79 =>
            rw [hx79] at hp79
            obtain ⟨rfl, rfl, hp_79⟩ := hp79
            exact aw_zret (aw_d q_Js_parseRows 40 rfl) rfl (rfl) (by rw [he]; simp only [js, bd_ok, bd_er, if_true, if_false, eq_self, ↓reduceIte, hx46, hx67, hx79, c33]; exact CG_ok ⟨_, _, _, _, _, _, _, hI46, hs46, hp_79, rfl⟩)
    · refine aw_aload_n (aw_d q_Js_parseRows 18 rfl) rfl rfl rfl ?_
      refine aw_getf (aw_d q_Js_parseRows 19 rfl) fL_Js_9_Js rfl rfl ?_
      refine cVr (aw_d q_Js_parseRows 20 rfl) (sp_fail) vL_Js_146_Sc rfl rfl rfl rfl rfl rfl ⟨aw_le rfl, aw_le rfl⟩ ?_
      exact aw_zret (aw_d q_Js_parseRows 21 rfl) rfl (rfl) (by rw [he, js, if_neg c33]; exact CG_er (itC_bs hI hw hs) CF_i)
set_option maxRecDepth 20000 in
theorem sp_jr {g : aw_G} {S D : aw_S} {E0 : ts_T} {N : nm_T} {n : Nat} {T : Nat → Int32} {p : Nat} {q w l k e z : Int32} {X : Nat → Int32} (hw : tsW E0) (h60 : E0.1 ≤ 60) (hc : TPc S n T) (hp : p ≤ n) (hI : itC S E0 N 0 [] D)  : Sp g M_Js_parseRows 8 179 0 0 [.ref 29, .ref 18] (HP (QC D (nI p) q w l k e z X)) (CG S E0 (jr T n N p) (fun (y : Nat × Nat × sq_T) h => ∃ (F : aw_S) (w l k e z : Int32) (X : Nat → Int32), itC S E0 N y.2.1 y.2.2 F ∧ itOK y.2.2 (y.2.1 * 6) ∧ y.1 ≤ n ∧ h = HP (QC F (nI y.1) q w l k e z X))) := by
  refine Sp.of rfl (aw_le rfl) ?_
  refine aw_aload_n (aw_d q_Js_parseRows 0 rfl) rfl rfl rfl ?_
  refine aw_getf (aw_d q_Js_parseRows 1 rfl) fL_Js_9_Js rfl rfl ?_
  refine aw_bipush (v := nI 93) (aw_d q_Js_parseRows 2 rfl) (by decide) ?_
  refine cV (aw_d q_Js_parseRows 3 rfl) (sp_took (frC_TP hI.1 hc) hp (B := 93) rfl) vL_Js_130_Sc rfl rfl rfl rfl rfl rfl ⟨aw_le rfl, aw_le rfl⟩ (fun r6 h6 hp6 => ?_)
  cases Decidable.em ((T p).toInt = 93) with
  | inl hx6 =>
    rw [if_pos hx6, if_pos hx6] at hp6
    obtain ⟨rfl, rfl⟩ := hp6
    have hpn6 : p + 1 ≤ n := T_lt (frC_TP hI.1 hc).2.2.2.1 (p := p) (by omega)
    refine aw_ifN_eq (tgt := 14) (aw_d q_Js_parseRows 4 rfl) (by decide) (by omega) (fun c9 => by exfalso; omega) (fun c9 => ?_)
    refine aw_iconst (v := nI 1) (aw_d q_Js_parseRows 5 rfl) (by decide) ?_
    exact aw_zret (aw_d q_Js_parseRows 6 rfl) rfl (rfl) (by rw [jr, if_pos hx6]; exact CG_ok ⟨_, _, _, _, _, _, _, hI, itOK_nil, hpn6, rfl⟩)
  | inr hx6 =>
    rw [if_neg hx6, if_neg hx6] at hp6
    obtain ⟨rfl, rfl⟩ := hp6
    refine aw_ifN_eq (tgt := 14) (aw_d q_Js_parseRows 4 rfl) (by decide) (by omega) (fun c9 => ?_) (fun c9 => by exfalso; omega)
    refine aw_iconst (v := nI 0) (aw_d q_Js_parseRows 7 rfl) (by decide) ?_
    refine aw_istore_n (aw_d q_Js_parseRows 8 rfl) rfl (aw_le rfl) rfl ?_
    rw [jr, if_neg hx6]
    exact lp_js hw h60 hc 25 0 p 0 [] D _ _ _ _ _ _ (by omega) hp hI itOK_nil rfl
set_option maxRecDepth 20000 in
theorem sp_rdJ {g : aw_G} {S D : aw_S} {E0 : ts_T} {N : nm_T} {n : Nat} {T : Nat → Int32} {q w l k e z : Int32} {X : Nat → Int32} (hw : tsW E0) (h60 : E0.1 ≤ 60) (hc : TPc S n T) (hI : itC S E0 N 0 [] D)  : Sp g M_Js_parse 9 201 0 0 [.ref 29, .ref 18] (HP (QC D (nI 0) q w l k e z X)) (CG S E0 (rdJ T n N) (fun (y : rd_T) h => ∃ (F : aw_S) (p w l k e z : Int32) (X : Nat → Int32), itC S E0 y.1 y.2.1 y.2.2 F ∧ itOK y.2.2 (y.2.1 * 6) ∧ h = HP (QC F p q w l k e z X))) := by
  refine Sp.of rfl (aw_le rfl) ?_
  refine aw_aload_n (aw_d q_Js_parse 0 rfl) rfl rfl rfl ?_
  refine aw_getf (aw_d q_Js_parse 1 rfl) fL_Js_9_Js rfl rfl ?_
  refine aw_ldcS (aw_d q_Js_parse 2 rfl) tL_Js_117 ?_
  refine cV (aw_d q_Js_parse 3 rfl) (sp_ml (frC_TP hI.1 hc) (Nat.zero_le n) (j := 60) (by decide)) vL_Js_101_Sc rfl rfl rfl rfl rfl rfl ⟨aw_le rfl, aw_le rfl⟩ (fun r6 h6 hp6 => ?_)
  cases hx6 : ml T n (tx 60) 0 with
  | error u6 =>
    rw [hx6] at hp6
    obtain ⟨rfl, hf6⟩ := hp6
    refine aw_ifN_eq (tgt := 66) (aw_d q_Js_parse 4 rfl) (by decide) (by omega) (fun c9 => ?_) (fun c9 => by exfalso; omega)
    refine aw_iconst (v := nI 0) (aw_d q_Js_parse 29 rfl) (by decide) ?_
    exact aw_zret (aw_d q_Js_parse 30 rfl) rfl (rfl) (by simp only [rdJ, bd_ok, bd_er, if_true, if_false, eq_self, ↓reduceIte, hx6]; exact CG_er (itC_bs hI hw (itOK_nil (k := 0))) hf6)
  | ok p6 =>
    rw [hx6] at hp6
    obtain ⟨rfl, rfl, hp_6⟩ := hp6
    refine aw_ifN_eq (tgt := 66) (aw_d q_Js_parse 4 rfl) (by decide) (by omega) (fun c9 => by exfalso; omega) (fun c9 => ?_)
    refine aw_aload_n (aw_d q_Js_parse 5 rfl) rfl rfl rfl ?_
    refine aw_aload_n (aw_d q_Js_parse 6 rfl) rfl rfl rfl ?_
    refine cV (aw_d q_Js_parse 7 rfl) (sp_jn hw h60 hc hp_6 hI) vL_Js_119_Js rfl rfl rfl rfl rfl rfl ⟨aw_le rfl, aw_le rfl⟩ (fun r14 h14 hp14 => ?_)
    cases hx14 : jn T n N p6 with
    | error u14 =>
      rw [hx14] at hp14
      obtain ⟨rfl, F14, hb14, hf14⟩ := hp14
      refine aw_ifN_eq (tgt := 66) (aw_d q_Js_parse 8 rfl) (by decide) (by omega) (fun c17 => ?_) (fun c17 => by exfalso; omega)
      refine aw_iconst (v := nI 0) (aw_d q_Js_parse 29 rfl) (by decide) ?_
      exact aw_zret (aw_d q_Js_parse 30 rfl) rfl (rfl) (by simp only [rdJ, bd_ok, bd_er, if_true, if_false, eq_self, ↓reduceIte, hx6, hx14]; exact CG_er hb14 hf14)
    | ok y14 =>
      rw [hx14] at hp14
      obtain ⟨rfl, F14, w14, l14, k14, e14, z14, X14, hI14, hp_14, rfl⟩ := hp14
      refine aw_ifN_eq (tgt := 66) (aw_d q_Js_parse 8 rfl) (by decide) (by omega) (fun c17 => by exfalso; omega) (fun c17 => ?_)
      refine aw_aload_n (aw_d q_Js_parse 9 rfl) rfl rfl rfl ?_
      refine aw_getf (aw_d q_Js_parse 10 rfl) fL_Js_9_Js rfl rfl ?_
      refine aw_ldcS (aw_d q_Js_parse 11 rfl) tL_Js_123 ?_
      refine cV (aw_d q_Js_parse 12 rfl) (sp_ml (frC_TP hI14.1 hc) hp_14 (j := 64) (by decide)) vL_Js_101_Sc rfl rfl rfl rfl rfl rfl ⟨aw_le rfl, aw_le rfl⟩ (fun r26 h26 hp26 => ?_)
      cases hx26 : ml T n (tx 64) y14.1 with
      | error u26 =>
        rw [hx26] at hp26
        obtain ⟨rfl, hf26⟩ := hp26
        refine aw_ifN_eq (tgt := 66) (aw_d q_Js_parse 13 rfl) (by decide) (by omega) (fun c29 => ?_) (fun c29 => by exfalso; omega)
        refine aw_iconst (v := nI 0) (aw_d q_Js_parse 29 rfl) (by decide) ?_
        exact aw_zret (aw_d q_Js_parse 30 rfl) rfl (rfl) (by simp only [rdJ, bd_ok, bd_er, if_true, if_false, eq_self, ↓reduceIte, hx6, hx14, hx26]; exact CG_er (itC_bs hI14 hw (itOK_nil (k := 0))) hf26)
      | ok p26 =>
        rw [hx26] at hp26
        obtain ⟨rfl, rfl, hp_26⟩ := hp26
        refine aw_ifN_eq (tgt := 66) (aw_d q_Js_parse 13 rfl) (by decide) (by omega) (fun c29 => by exfalso; omega) (fun c29 => ?_)
        refine aw_aload_n (aw_d q_Js_parse 14 rfl) rfl rfl rfl ?_
        refine aw_aload_n (aw_d q_Js_parse 15 rfl) rfl rfl rfl ?_
        refine cV (aw_d q_Js_parse 16 rfl) (sp_jr hw h60 hc hp_26 hI14) vL_Js_125_Js rfl rfl rfl rfl rfl rfl ⟨aw_le rfl, aw_le rfl⟩ (fun r34 h34 hp34 => ?_)
        cases hx34 : jr T n y14.2 p26 with
        | error u34 =>
          rw [hx34] at hp34
          obtain ⟨rfl, F34, hb34, hf34⟩ := hp34
          refine aw_ifN_eq (tgt := 66) (aw_d q_Js_parse 17 rfl) (by decide) (by omega) (fun c37 => ?_) (fun c37 => by exfalso; omega)
          refine aw_iconst (v := nI 0) (aw_d q_Js_parse 29 rfl) (by decide) ?_
          exact aw_zret (aw_d q_Js_parse 30 rfl) rfl (rfl) (by simp only [rdJ, bd_ok, bd_er, if_true, if_false, eq_self, ↓reduceIte, hx6, hx14, hx26, hx34]; exact CG_er hb34 hf34)
        | ok y34 =>
          rw [hx34] at hp34
          obtain ⟨rfl, F34, w34, l34, k34, e34, z34, X34, hI34, hs34, hp_34, rfl⟩ := hp34
          refine aw_ifN_eq (tgt := 66) (aw_d q_Js_parse 17 rfl) (by decide) (by omega) (fun c37 => by exfalso; omega) (fun c37 => ?_)
          refine aw_aload_n (aw_d q_Js_parse 18 rfl) rfl rfl rfl ?_
          refine aw_getf (aw_d q_Js_parse 19 rfl) fL_Js_9_Js rfl rfl ?_
          refine aw_ldcS (aw_d q_Js_parse 20 rfl) tL_Js_128 ?_
          refine cV (aw_d q_Js_parse 21 rfl) (sp_ml (frC_TP hI34.1 hc) hp_34 (j := 74) (by decide)) vL_Js_101_Sc rfl rfl rfl rfl rfl rfl ⟨aw_le rfl, aw_le rfl⟩ (fun r46 h46 hp46 => ?_)
          cases hx46 : ml T n (tx 74) y34.1 with
          | error u46 =>
            rw [hx46] at hp46
            obtain ⟨rfl, hf46⟩ := hp46
            refine aw_ifN_eq (tgt := 66) (aw_d q_Js_parse 22 rfl) (by decide) (by omega) (fun c49 => ?_) (fun c49 => by exfalso; omega)
            refine aw_iconst (v := nI 0) (aw_d q_Js_parse 29 rfl) (by decide) ?_
            exact aw_zret (aw_d q_Js_parse 30 rfl) rfl (rfl) (by simp only [rdJ, bd_ok, bd_er, if_true, if_false, eq_self, ↓reduceIte, hx6, hx14, hx26, hx34, hx46]; exact CG_er (itC_bs hI34 hw hs34) hf46)
          | ok p46 =>
            rw [hx46] at hp46
            obtain ⟨rfl, rfl, hp_46⟩ := hp46
            refine aw_ifN_eq (tgt := 66) (aw_d q_Js_parse 22 rfl) (by decide) (by omega) (fun c49 => by exfalso; omega) (fun c49 => ?_)
            refine aw_aload_n (aw_d q_Js_parse 23 rfl) rfl rfl rfl ?_
            refine aw_getf (aw_d q_Js_parse 24 rfl) fL_Js_9_Js rfl rfl ?_
            refine cV (aw_d q_Js_parse 25 rfl) (sp_mustEnd (frC_TP hI34.1 hc) hp_46) vL_Js_113_Sc rfl rfl rfl rfl rfl rfl ⟨aw_le rfl, aw_le rfl⟩ (fun r56 h56 hp56 => ?_)
            cases hx56 : me n p46 with
            | error u56 =>
              rw [hx56] at hp56
              obtain ⟨rfl, hf56⟩ := hp56
              refine aw_ifN_eq (tgt := 66) (aw_d q_Js_parse 26 rfl) (by decide) (by omega) (fun c59 => ?_) (fun c59 => by exfalso; omega)
              refine aw_iconst (v := nI 0) (aw_d q_Js_parse 29 rfl) (by decide) ?_
              exact aw_zret (aw_d q_Js_parse 30 rfl) rfl (rfl) (by simp only [rdJ, bd_ok, bd_er, if_true, if_false, eq_self, ↓reduceIte, hx6, hx14, hx26, hx34, hx46, hx56]; exact CG_er (itC_bs hI34 hw hs34) hf56)
            | ok p56 =>
              rw [hx56] at hp56
              obtain ⟨rfl, rfl, hp_56⟩ := hp56
              refine aw_ifN_eq (tgt := 66) (aw_d q_Js_parse 26 rfl) (by decide) (by omega) (fun c59 => by exfalso; omega) (fun c59 => ?_)
              refine aw_iconst (v := nI 1) (aw_d q_Js_parse 27 rfl) (by decide) ?_
              refine aw_goto (tgt := 67) (aw_d q_Js_parse 28 rfl) (by decide) ?_
              exact aw_zret (aw_d q_Js_parse 30 rfl) rfl (rfl) (by simp only [rdJ, bd_ok, bd_er, if_true, if_false, eq_self, ↓reduceIte, hx6, hx14, hx26, hx34, hx46, hx56]; exact CG_ok ⟨_, _, _, _, _, _, _, _, hI34, hs34, rfl⟩)
