theorem okL_ld {T : Nat → Int32} {a e : Nat} (h1 : ∀ i, a ≤ i → i < e → pLD (T i) = true) (h : 1 ≤ e - a) (h8 : e - a ≤ 8) : okL 1 (ldL T a (e - a)) = true := by
  simp only [okL, okK1', ldL_len]
  rw [decide_eq_true (by omega), Bool.true_and]
  exact (allB_iff _ _ _ _).mpr (fun i _ hi => getD_all (ldL_all h1 _ (by omega)) (by rw [ldL_len]; omega))
theorem pLD_or {b : Int32} (h : pLet b = true ∨ pDig b = true) : pLD b = true := by
  simp only [pLet, pDig, pLD, decide_eq_true_eq] at *
  omega
theorem pLD_no {b : Int32} (h : ¬ pLet b = true) (h2 : ¬ pDig b = true) : ¬ pLD b = true := by
  simp only [pLet, pDig, pLD, decide_eq_true_eq] at *
  omega
set_option maxRecDepth 20000 in
theorem lp_blank {g : aw_G} {S : aw_S} {n : Nat} {T : Nat → Int32} {f : Int32} {X : Nat → Int32} (hc : TPm S n T) {a : Nat} (han : a ≤ n) : ∀ (m p k : Nat) (L : List Int32), m + p = n → a ≤ p → k = p - a → L = ldL T a (min k 20) → (∀ i, a ≤ i → i < p → pLD (T i) = true) → runB pLD T (n - a) a = runB pLD T m p → AW g M_Mo_blankText (aw_rm 2 45 0 0) (aw_F g 0 0 (fun r h => r = none ∧ match bkT T a with
  | .ok y => txOK n y ∧ okL 1 y.2 = true ∧ h = HP (QM S (nI y.1) (-1) f (nI y.2.length) (XA y.2 X))
  | .error u => u ≤ n ∧ ∃ (b : Nat) (z : Int32) (X : Nat → Int32), b ≤ 3010 ∧ h = HP (QM S (nI b) (nI u) f z X))) 20 [some (.ref 33), some (.int (nI a)), some (.int (nI k))] [] (HP (QM S (nI p) (-1) f (nI (L).length) (XA (L) X))) 0 0 := by
  have hc2 := hc.2.1
  intro m
  induction m with
  | zero =>
    intro p k L hk hap hka hL hal he
    have ht : (nI k).toInt = k := nI_toInt (by omega)
    have hll : L.length = min k 20 := by rw [hL, ldL_len]
    have hE : ldE T n a = p := by rw [ldE, he]; rfl
    refine aw_aload_n (aw_d q_Mo_blankText 12 rfl) rfl rfl rfl ?_
    refine cVr (aw_d q_Mo_blankText 13 rfl) (sp_goesA) vL_Mo_327_Mo rfl rfl rfl rfl rfl rfl ⟨aw_le rfl, aw_le rfl⟩ ?_
    refine aw_ifN_eq (tgt := 95) (aw_d q_Mo_blankText 14 rfl) (by decide) (by (have hc2 := hc.2.1; omega)) (fun c24 => by exfalso; (have hc2 := hc.2.1; omega)) (fun c24 => ?_)
    refine aw_aload_n (aw_d q_Mo_blankText 15 rfl) rfl rfl rfl ?_
    refine cVr (aw_d q_Mo_blankText 16 rfl) (sp_peek hc (b := p) (by omega)) vL_Mo_331_Mo rfl rfl rfl rfl rfl rfl ⟨aw_le rfl, aw_le rfl⟩ ?_
    refine cSr (aw_d q_Mo_blankText 17 rfl) (sp_Mo_isLetter) sL_Mo_100 rfl rfl rfl rfl ⟨aw_le rfl, aw_le rfl⟩ ?_
    refine aw_ifB_ne (tgt := 47) (aw_d q_Mo_blankText 18 rfl) (by decide) (fun c34 => by rw [hc.2.2.2.1 p (by omega)] at c34; exact absurd c34 (by decide)) (fun c34 => ?_)
    refine aw_aload_n (aw_d q_Mo_blankText 19 rfl) rfl rfl rfl ?_
    refine cVr (aw_d q_Mo_blankText 20 rfl) (sp_peek hc (b := p) (by omega)) vL_Mo_331_Mo rfl rfl rfl rfl rfl rfl ⟨aw_le rfl, aw_le rfl⟩ ?_
    refine cSr (aw_d q_Mo_blankText 21 rfl) (sp_Mo_isDigit) sL_Mo_103 rfl rfl rfl rfl ⟨aw_le rfl, aw_le rfl⟩ ?_
    refine aw_ifB_eq (tgt := 95) (aw_d q_Mo_blankText 22 rfl) (by decide) (fun c44 => ?_) (fun c44 => by rw [hc.2.2.2.1 p (by omega)] at c44; exact absurd c44 (by decide))
    refine aw_aload_n (aw_d q_Mo_blankText 48 rfl) rfl rfl rfl ?_
    refine cVr (aw_d q_Mo_blankText 49 rfl) (sp_goesA) vL_Mo_327_Mo rfl rfl rfl rfl rfl rfl ⟨aw_le rfl, aw_le rfl⟩ ?_
    refine aw_ifN_eq (tgt := 117) (aw_d q_Mo_blankText 50 rfl) (by decide) (by (have hc2 := hc.2.1; omega)) (fun c99 => by exfalso; (have hc2 := hc.2.1; omega)) (fun c99 => ?_)
    refine aw_iload_n (aw_d q_Mo_blankText 51 rfl) rfl rfl ?_
    refine aw_iconst (v := nI 1) (aw_d q_Mo_blankText 52 rfl) (by decide) ?_
    refine aw_bipush (v := nI 8) (aw_d q_Mo_blankText 53 rfl) (by decide) ?_
    refine cSr (aw_d q_Mo_blankText 54 rfl) (sp_Mo_in (A := 1) (B := 8) rfl rfl) sL_Mo_81 rfl rfl rfl rfl ⟨aw_le rfl, aw_le rfl⟩ ?_
    refine aw_ifB_ne (tgt := 117) (aw_d q_Mo_blankText 55 rfl) (by decide) (fun c109 => ?_) (fun c109 => ?_)
    · exact aw_vret (aw_d q_Mo_blankText 59 rfl) rfl (⟨rfl, by rw [bkT_ok hc.2.2.2.1 han, hE, if_pos (by omega)]; exact ⟨⟨by show p ≤ n; omega, by show (ldL T a (p - a)).length ≤ 20; rw [ldL_len]; omega, List.all_eq_true.mpr (fun b hb => pTx_ld (List.all_eq_true.mp (ldL_all (e := p) hal _ (by omega)) b hb))⟩, okL_ld hal (by omega) (by omega), by show _ = HP (QM S (nI p) (-1) f (nI (ldL T a (p - a)).length) (XA (ldL T a (p - a)) X)); rw [show p - a = min k 20 by omega, ← hL]⟩⟩)
    · refine aw_aload_n (aw_d q_Mo_blankText 56 rfl) rfl rfl rfl ?_
      refine aw_iload_n (aw_d q_Mo_blankText 57 rfl) rfl rfl ?_
      refine cVv (aw_d q_Mo_blankText 58 rfl) (sp_mfailA) vL_Mo_334_Mo rfl rfl rfl rfl rfl rfl ⟨aw_le rfl, aw_le rfl⟩ ?_
      exact aw_vret (aw_d q_Mo_blankText 59 rfl) rfl (⟨rfl, by rw [bkT_ok hc.2.2.2.1 han, hE, if_neg (by omega)]; exact ⟨han, _, _, _, by omega, rfl⟩⟩)
  | succ m ih =>
    intro p k L hk hap hka hL hal he
    have ht : (nI k).toInt = k := nI_toInt (by omega)
    have hll : L.length = min k 20 := by rw [hL, ldL_len]
    refine aw_aload_n (aw_d q_Mo_blankText 12 rfl) rfl rfl rfl ?_
    refine cVr (aw_d q_Mo_blankText 13 rfl) (sp_goesA) vL_Mo_327_Mo rfl rfl rfl rfl rfl rfl ⟨aw_le rfl, aw_le rfl⟩ ?_
    refine aw_ifN_eq (tgt := 95) (aw_d q_Mo_blankText 14 rfl) (by decide) (by (have hc2 := hc.2.1; have hll := congrArg List.length hL; simp only [ldL_len] at hll; omega)) (fun c24 => by exfalso; (have hc2 := hc.2.1; have hll := congrArg List.length hL; simp only [ldL_len] at hll; omega)) (fun c24 => ?_)
    refine aw_aload_n (aw_d q_Mo_blankText 15 rfl) rfl rfl rfl ?_
    refine cVr (aw_d q_Mo_blankText 16 rfl) (sp_peek hc (b := p) (by omega)) vL_Mo_331_Mo rfl rfl rfl rfl rfl rfl ⟨aw_le rfl, aw_le rfl⟩ ?_
    refine cSr (aw_d q_Mo_blankText 17 rfl) (sp_Mo_isLetter) sL_Mo_100 rfl rfl rfl rfl ⟨aw_le rfl, aw_le rfl⟩ ?_
    refine aw_ifB_ne (tgt := 47) (aw_d q_Mo_blankText 18 rfl) (by decide) (fun c34 => ?_) (fun c34 => ?_)
    · refine aw_aload_n (aw_d q_Mo_blankText 23 rfl) rfl rfl rfl ?_
      refine aw_getf (v := .int (nI (L.length))) (aw_d q_Mo_blankText 24 rfl) fL_Mo_93_Mo rfl (gk rfl) ?_
      refine aw_bipush (v := nI 20) (aw_d q_Mo_blankText 25 rfl) (by decide) ?_
      refine aw_icmpN_ge (tgt := 79) (aw_d q_Mo_blankText 26 rfl) (by decide) (by (have hc2 := hc.2.1; have hll := congrArg List.length hL; simp only [ldL_len] at hll; omega)) (by (have hc2 := hc.2.1; have hll := congrArg List.length hL; simp only [ldL_len] at hll; omega)) (fun c53 => ?_) (fun c53 => ?_)
      · refine aw_iinc (aw_d q_Mo_blankText 40 rfl) rfl (ii1 _) (aw_le rfl) rfl ?_
        refine aw_aload_n (aw_d q_Mo_blankText 41 rfl) rfl rfl rfl ?_
        refine aw_dup (aw_d q_Mo_blankText 42 rfl) rfl ?_
        refine aw_getf (v := .int (nI (p))) (aw_d q_Mo_blankText 43 rfl) fL_Mo_324_Mo rfl (gk rfl) ?_
        refine aw_iconst (v := nI 1) (aw_d q_Mo_blankText 44 rfl) (by decide) ?_
        refine aw_iaddN (aw_d q_Mo_blankText 45 rfl) ?_
        refine wi_33_31 (aw_d q_Mo_blankText 46 rfl) pL_Mo_324_Mo ?_
        refine aw_goto (tgt := 20) (aw_d q_Mo_blankText 47 rfl) (by decide) ?_
        have hld : pLD (T p) = true := pLD_or (by first | exact Or.inl c34 | exact Or.inr c44)
        exact AW.to (ih (p + 1) (k + 1) L (by omega) (by omega) (by omega) (by rw [hL, show min (k + 1) 20 = min k 20 by omega]) (fun i h1 h2 => by by_cases hq : i = p; (rw [hq]; exact hld); (exact hal i h1 (by omega))) (he.trans (by rw [runB, if_pos hld]))) rfl rfl rfl rfl
      · refine aw_aload_n (aw_d q_Mo_blankText 27 rfl) rfl rfl rfl ?_
        refine aw_getf (aw_d q_Mo_blankText 28 rfl) fL_Mo_71_Mo rfl rfl ?_
        refine aw_aload_n (aw_d q_Mo_blankText 29 rfl) rfl rfl rfl ?_
        refine aw_getf (v := .int (nI (L.length))) (aw_d q_Mo_blankText 30 rfl) fL_Mo_93_Mo rfl (gk rfl) ?_
        refine aw_aload_n (aw_d q_Mo_blankText 31 rfl) rfl rfl rfl ?_
        refine cVr (aw_d q_Mo_blankText 32 rfl) (sp_peek hc (b := p) (by omega)) vL_Mo_331_Mo rfl rfl rfl rfl rfl rfl ⟨aw_le rfl, aw_le rfl⟩ ?_
        refine wn_54 (aw_d q_Mo_blankText 33 rfl) (by (have hc2 := hc.2.1; have hll := congrArg List.length hL; simp only [ldL_len] at hll; omega)) ?_
        refine aw_aload_n (aw_d q_Mo_blankText 34 rfl) rfl rfl rfl ?_
        refine aw_dup (aw_d q_Mo_blankText 35 rfl) rfl ?_
        refine aw_getf (v := .int (nI (L.length))) (aw_d q_Mo_blankText 36 rfl) fL_Mo_93_Mo rfl (gk rfl) ?_
        refine aw_iconst (v := nI 1) (aw_d q_Mo_blankText 37 rfl) (by decide) ?_
        refine aw_iaddN (aw_d q_Mo_blankText 38 rfl) ?_
        refine wi_33_34 (aw_d q_Mo_blankText 39 rfl) pL_Mo_93_Mo ?_
        refine aw_iinc (aw_d q_Mo_blankText 40 rfl) rfl (ii1 _) (aw_le rfl) rfl ?_
        refine aw_aload_n (aw_d q_Mo_blankText 41 rfl) rfl rfl rfl ?_
        refine aw_dup (aw_d q_Mo_blankText 42 rfl) rfl ?_
        refine aw_getf (v := .int (nI (p))) (aw_d q_Mo_blankText 43 rfl) fL_Mo_324_Mo rfl (gk rfl) ?_
        refine aw_iconst (v := nI 1) (aw_d q_Mo_blankText 44 rfl) (by decide) ?_
        refine aw_iaddN (aw_d q_Mo_blankText 45 rfl) ?_
        refine wi_33_31 (aw_d q_Mo_blankText 46 rfl) pL_Mo_324_Mo ?_
        refine aw_goto (tgt := 20) (aw_d q_Mo_blankText 47 rfl) (by decide) ?_
        have hld : pLD (T p) = true := pLD_or (by first | exact Or.inl c34 | exact Or.inr c44)
        exact AW.to (ih (p + 1) (k + 1) (L ++ [T p]) (by omega) (by omega) (by omega) (by rw [hL, show min (k + 1) 20 = min k 20 + 1 by omega, ldL, show a + min k 20 = p by omega]) (fun i h1 h2 => by by_cases hq : i = p; (rw [hq]; exact hld); (exact hal i h1 (by omega))) (he.trans (by rw [runB, if_pos hld]))) rfl rfl rfl (by rw [← XA_add, List.length_append]; rfl)
    · refine aw_aload_n (aw_d q_Mo_blankText 19 rfl) rfl rfl rfl ?_
      refine cVr (aw_d q_Mo_blankText 20 rfl) (sp_peek hc (b := p) (by omega)) vL_Mo_331_Mo rfl rfl rfl rfl rfl rfl ⟨aw_le rfl, aw_le rfl⟩ ?_
      refine cSr (aw_d q_Mo_blankText 21 rfl) (sp_Mo_isDigit) sL_Mo_103 rfl rfl rfl rfl ⟨aw_le rfl, aw_le rfl⟩ ?_
      refine aw_ifB_eq (tgt := 95) (aw_d q_Mo_blankText 22 rfl) (by decide) (fun c44 => ?_) (fun c44 => ?_)
      · have hE : ldE T n a = p := by rw [ldE, he, runB, if_neg (pLD_no c34 c44)]
        refine aw_aload_n (aw_d q_Mo_blankText 48 rfl) rfl rfl rfl ?_
        refine cVr (aw_d q_Mo_blankText 49 rfl) (sp_goesA) vL_Mo_327_Mo rfl rfl rfl rfl rfl rfl ⟨aw_le rfl, aw_le rfl⟩ ?_
        refine aw_ifN_eq (tgt := 117) (aw_d q_Mo_blankText 50 rfl) (by decide) (by (have hc2 := hc.2.1; have hll := congrArg List.length hL; simp only [ldL_len] at hll; omega)) (fun c99 => by exfalso; (have hc2 := hc.2.1; have hll := congrArg List.length hL; simp only [ldL_len] at hll; omega)) (fun c99 => ?_)
        refine aw_iload_n (aw_d q_Mo_blankText 51 rfl) rfl rfl ?_
        refine aw_iconst (v := nI 1) (aw_d q_Mo_blankText 52 rfl) (by decide) ?_
        refine aw_bipush (v := nI 8) (aw_d q_Mo_blankText 53 rfl) (by decide) ?_
        refine cSr (aw_d q_Mo_blankText 54 rfl) (sp_Mo_in (A := 1) (B := 8) rfl rfl) sL_Mo_81 rfl rfl rfl rfl ⟨aw_le rfl, aw_le rfl⟩ ?_
        refine aw_ifB_ne (tgt := 117) (aw_d q_Mo_blankText 55 rfl) (by decide) (fun c109 => ?_) (fun c109 => ?_)
        · exact aw_vret (aw_d q_Mo_blankText 59 rfl) rfl (⟨rfl, by rw [bkT_ok hc.2.2.2.1 han, hE, if_pos (by omega)]; exact ⟨⟨by show p ≤ n; omega, by show (ldL T a (p - a)).length ≤ 20; rw [ldL_len]; omega, List.all_eq_true.mpr (fun b hb => pTx_ld (List.all_eq_true.mp (ldL_all (e := p) hal _ (by omega)) b hb))⟩, okL_ld hal (by omega) (by omega), by show _ = HP (QM S (nI p) (-1) f (nI (ldL T a (p - a)).length) (XA (ldL T a (p - a)) X)); rw [show p - a = min k 20 by omega, ← hL]⟩⟩)
        · refine aw_aload_n (aw_d q_Mo_blankText 56 rfl) rfl rfl rfl ?_
          refine aw_iload_n (aw_d q_Mo_blankText 57 rfl) rfl rfl ?_
          refine cVv (aw_d q_Mo_blankText 58 rfl) (sp_mfailA) vL_Mo_334_Mo rfl rfl rfl rfl rfl rfl ⟨aw_le rfl, aw_le rfl⟩ ?_
          exact aw_vret (aw_d q_Mo_blankText 59 rfl) rfl (⟨rfl, by rw [bkT_ok hc.2.2.2.1 han, hE, if_neg (by omega)]; exact ⟨han, _, _, _, by omega, rfl⟩⟩)
      · refine aw_aload_n (aw_d q_Mo_blankText 23 rfl) rfl rfl rfl ?_
        refine aw_getf (v := .int (nI (L.length))) (aw_d q_Mo_blankText 24 rfl) fL_Mo_93_Mo rfl (gk rfl) ?_
        refine aw_bipush (v := nI 20) (aw_d q_Mo_blankText 25 rfl) (by decide) ?_
        refine aw_icmpN_ge (tgt := 79) (aw_d q_Mo_blankText 26 rfl) (by decide) (by (have hc2 := hc.2.1; have hll := congrArg List.length hL; simp only [ldL_len] at hll; omega)) (by (have hc2 := hc.2.1; have hll := congrArg List.length hL; simp only [ldL_len] at hll; omega)) (fun c53 => ?_) (fun c53 => ?_)
        · refine aw_iinc (aw_d q_Mo_blankText 40 rfl) rfl (ii1 _) (aw_le rfl) rfl ?_
          refine aw_aload_n (aw_d q_Mo_blankText 41 rfl) rfl rfl rfl ?_
          refine aw_dup (aw_d q_Mo_blankText 42 rfl) rfl ?_
          refine aw_getf (v := .int (nI (p))) (aw_d q_Mo_blankText 43 rfl) fL_Mo_324_Mo rfl (gk rfl) ?_
          refine aw_iconst (v := nI 1) (aw_d q_Mo_blankText 44 rfl) (by decide) ?_
          refine aw_iaddN (aw_d q_Mo_blankText 45 rfl) ?_
          refine wi_33_31 (aw_d q_Mo_blankText 46 rfl) pL_Mo_324_Mo ?_
          refine aw_goto (tgt := 20) (aw_d q_Mo_blankText 47 rfl) (by decide) ?_
          have hld : pLD (T p) = true := pLD_or (by first | exact Or.inl c34 | exact Or.inr c44)
          exact AW.to (ih (p + 1) (k + 1) L (by omega) (by omega) (by omega) (by rw [hL, show min (k + 1) 20 = min k 20 by omega]) (fun i h1 h2 => by by_cases hq : i = p; (rw [hq]; exact hld); (exact hal i h1 (by omega))) (he.trans (by rw [runB, if_pos hld]))) rfl rfl rfl rfl
        · refine aw_aload_n (aw_d q_Mo_blankText 27 rfl) rfl rfl rfl ?_
          refine aw_getf (aw_d q_Mo_blankText 28 rfl) fL_Mo_71_Mo rfl rfl ?_
          refine aw_aload_n (aw_d q_Mo_blankText 29 rfl) rfl rfl rfl ?_
          refine aw_getf (v := .int (nI (L.length))) (aw_d q_Mo_blankText 30 rfl) fL_Mo_93_Mo rfl (gk rfl) ?_
          refine aw_aload_n (aw_d q_Mo_blankText 31 rfl) rfl rfl rfl ?_
          refine cVr (aw_d q_Mo_blankText 32 rfl) (sp_peek hc (b := p) (by omega)) vL_Mo_331_Mo rfl rfl rfl rfl rfl rfl ⟨aw_le rfl, aw_le rfl⟩ ?_
          refine wn_54 (aw_d q_Mo_blankText 33 rfl) (by (have hc2 := hc.2.1; have hll := congrArg List.length hL; simp only [ldL_len] at hll; omega)) ?_
          refine aw_aload_n (aw_d q_Mo_blankText 34 rfl) rfl rfl rfl ?_
          refine aw_dup (aw_d q_Mo_blankText 35 rfl) rfl ?_
          refine aw_getf (v := .int (nI (L.length))) (aw_d q_Mo_blankText 36 rfl) fL_Mo_93_Mo rfl (gk rfl) ?_
          refine aw_iconst (v := nI 1) (aw_d q_Mo_blankText 37 rfl) (by decide) ?_
          refine aw_iaddN (aw_d q_Mo_blankText 38 rfl) ?_
          refine wi_33_34 (aw_d q_Mo_blankText 39 rfl) pL_Mo_93_Mo ?_
          refine aw_iinc (aw_d q_Mo_blankText 40 rfl) rfl (ii1 _) (aw_le rfl) rfl ?_
          refine aw_aload_n (aw_d q_Mo_blankText 41 rfl) rfl rfl rfl ?_
          refine aw_dup (aw_d q_Mo_blankText 42 rfl) rfl ?_
          refine aw_getf (v := .int (nI (p))) (aw_d q_Mo_blankText 43 rfl) fL_Mo_324_Mo rfl (gk rfl) ?_
          refine aw_iconst (v := nI 1) (aw_d q_Mo_blankText 44 rfl) (by decide) ?_
          refine aw_iaddN (aw_d q_Mo_blankText 45 rfl) ?_
          refine wi_33_31 (aw_d q_Mo_blankText 46 rfl) pL_Mo_324_Mo ?_
          refine aw_goto (tgt := 20) (aw_d q_Mo_blankText 47 rfl) (by decide) ?_
          have hld : pLD (T p) = true := pLD_or (by first | exact Or.inl c34 | exact Or.inr c44)
          exact AW.to (ih (p + 1) (k + 1) (L ++ [T p]) (by omega) (by omega) (by omega) (by rw [hL, show min (k + 1) 20 = min k 20 + 1 by omega, ldL, show a + min k 20 = p by omega]) (fun i h1 h2 => by by_cases hq : i = p; (rw [hq]; exact hld); (exact hal i h1 (by omega))) (he.trans (by rw [runB, if_pos hld]))) rfl rfl rfl (by rw [← XA_add, List.length_append]; rfl)
set_option maxRecDepth 20000 in
theorem sp_blankA {g : aw_G} {S : aw_S} {n : Nat} {T : Nat → Int32} {p : Nat} {f z : Int32} {X : Nat → Int32} (hc : TPm S n T) (hp : p ≤ n)  : Sp g M_Mo_blankText 2 45 0 0 [.ref 33] (HP (QM S (nI p) (-1) f z X)) (fun r h => r = none ∧ match bd (mu T (tx 50) p) (bkT T) with
  | .ok y => txOK n y ∧ okL 1 y.2 = true ∧ h = HP (QM S (nI y.1) (-1) f (nI y.2.length) (XA y.2 X))
  | .error u => u ≤ n ∧ ∃ (b : Nat) (z : Int32) (X : Nat → Int32), b ≤ 3010 ∧ h = HP (QM S (nI b) (nI u) f z X)) := by
  refine Sp.of rfl (aw_le rfl) ?_
  have hc2 := hc.2.1
  refine aw_aload_n (aw_d q_Mo_blankText 0 rfl) rfl rfl rfl ?_
  refine aw_ldc2 (aw_d q_Mo_blankText 1 rfl) lL_Mo_277 ?_
  refine aw_iconst (v := nI 2) (aw_d q_Mo_blankText 2 rfl) (by decide) ?_
  refine cV (aw_d q_Mo_blankText 3 rfl) (sp_mmust (res := .ok (p, ())) (x := 24378) (j := 2) hc (by decide) (RR_ok rfl hp rfl)) vL_Mo_340_Mo rfl rfl rfl rfl rfl rfl ⟨aw_le rfl, aw_le rfl⟩ (fun r5 h5 hp5 => ?_)
  obtain ⟨rfl, b5, q5, hr5, rfl⟩ := hp5
  rw [bp_ok, show eB 24378 2 = tx 50 by decide] at hr5
  cases hx5 : mu T (tx 50) p with
  | error u5 =>
    rw [hx5] at hr5
    obtain ⟨hu5, rfl, hb5⟩ := hr5
    refine aw_aload_n (aw_d q_Mo_blankText 4 rfl) rfl rfl rfl ?_
    refine aw_getf (v := .int (nI (b5))) (aw_d q_Mo_blankText 5 rfl) fL_Mo_324_Mo rfl (gk rfl) ?_
    refine aw_istore_n (aw_d q_Mo_blankText 6 rfl) rfl (aw_le rfl) rfl ?_
    refine aw_aload_n (aw_d q_Mo_blankText 7 rfl) rfl rfl rfl ?_
    refine aw_iconst (v := nI 0) (aw_d q_Mo_blankText 8 rfl) (by decide) ?_
    refine wi_33_34 (aw_d q_Mo_blankText 9 rfl) pL_Mo_93_Mo ?_
    refine aw_iconst (v := nI 0) (aw_d q_Mo_blankText 10 rfl) (by decide) ?_
    refine aw_istore_n (aw_d q_Mo_blankText 11 rfl) rfl (aw_le rfl) rfl ?_
    refine aw_aload_n (aw_d q_Mo_blankText 12 rfl) rfl rfl rfl ?_
    refine cVr (aw_d q_Mo_blankText 13 rfl) (sp_goesI (u := u5) (by omega)) vL_Mo_327_Mo rfl rfl rfl rfl rfl rfl ⟨aw_le rfl, aw_le rfl⟩ ?_
    refine aw_ifN_eq (tgt := 95) (aw_d q_Mo_blankText 14 rfl) (by decide) (by omega) (fun c24 => ?_) (fun c24 => by exfalso; omega)
    refine aw_aload_n (aw_d q_Mo_blankText 48 rfl) rfl rfl rfl ?_
    refine cVr (aw_d q_Mo_blankText 49 rfl) (sp_goesI (u := u5) (by omega)) vL_Mo_327_Mo rfl rfl rfl rfl rfl rfl ⟨aw_le rfl, aw_le rfl⟩ ?_
    refine aw_ifN_eq (tgt := 117) (aw_d q_Mo_blankText 50 rfl) (by decide) (by omega) (fun c99 => ?_) (fun c99 => by exfalso; omega)
    exact aw_vret (aw_d q_Mo_blankText 59 rfl) rfl (⟨rfl, by rw [bd_er]; exact ⟨by have := mu_er hc.2.2.2.1 (tx_p0 (by decide)) hp hx5; omega, _, _, _, hb5, rfl⟩⟩)
  | ok p5 =>
    rw [hx5] at hr5
    obtain ⟨hb5, hp_5, rfl⟩ := hr5
    have hb5 : b5 = p5 := hb5
    subst hb5
    refine aw_aload_n (aw_d q_Mo_blankText 4 rfl) rfl rfl rfl ?_
    refine aw_getf (v := .int (nI (b5))) (aw_d q_Mo_blankText 5 rfl) fL_Mo_324_Mo rfl (gk rfl) ?_
    refine aw_istore_n (aw_d q_Mo_blankText 6 rfl) rfl (aw_le rfl) rfl ?_
    refine aw_aload_n (aw_d q_Mo_blankText 7 rfl) rfl rfl rfl ?_
    refine aw_iconst (v := nI 0) (aw_d q_Mo_blankText 8 rfl) (by decide) ?_
    refine wi_33_34 (aw_d q_Mo_blankText 9 rfl) pL_Mo_93_Mo ?_
    refine aw_iconst (v := nI 0) (aw_d q_Mo_blankText 10 rfl) (by decide) ?_
    refine aw_istore_n (aw_d q_Mo_blankText 11 rfl) rfl (aw_le rfl) rfl ?_
    rw [bd_ok]
    exact AW.to (lp_blank hc hp_5 (n - b5) b5 0 [] (by omega) (by omega) (by omega) rfl (fun i h1 h2 => by omega) rfl) rfl rfl rfl (by rw [XA_nil]; rfl)
set_option maxRecDepth 20000 in
theorem sp_blankI {g : aw_G} {S : aw_S} {u b : Nat} {f z : Int32} {X : Nat → Int32} (hu : u ≤ 3000) (hb : b ≤ 3010)  : Sp g M_Mo_blankText 2 45 0 0 [.ref 33] (HP (QM S (nI b) (nI u) f z X)) (fun r h => r = none ∧ h = HP (QM S (nI b) (nI u) f (nI 0) X)) := by
  refine Sp.of rfl (aw_le rfl) ?_
  refine aw_aload_n (aw_d q_Mo_blankText 0 rfl) rfl rfl rfl ?_
  refine aw_ldc2 (aw_d q_Mo_blankText 1 rfl) lL_Mo_277 ?_
  refine aw_iconst (v := nI 2) (aw_d q_Mo_blankText 2 rfl) (by decide) ?_
  refine cVv (aw_d q_Mo_blankText 3 rfl) (sp_mustI hu (by decide)) vL_Mo_340_Mo rfl rfl rfl rfl rfl rfl ⟨aw_le rfl, aw_le rfl⟩ ?_
  refine aw_aload_n (aw_d q_Mo_blankText 4 rfl) rfl rfl rfl ?_
  refine aw_getf (v := .int (nI (b))) (aw_d q_Mo_blankText 5 rfl) fL_Mo_324_Mo rfl (gk rfl) ?_
  refine aw_istore_n (aw_d q_Mo_blankText 6 rfl) rfl (aw_le rfl) rfl ?_
  refine aw_aload_n (aw_d q_Mo_blankText 7 rfl) rfl rfl rfl ?_
  refine aw_iconst (v := nI 0) (aw_d q_Mo_blankText 8 rfl) (by decide) ?_
  refine wi_33_34 (aw_d q_Mo_blankText 9 rfl) pL_Mo_93_Mo ?_
  refine aw_iconst (v := nI 0) (aw_d q_Mo_blankText 10 rfl) (by decide) ?_
  refine aw_istore_n (aw_d q_Mo_blankText 11 rfl) rfl (aw_le rfl) rfl ?_
  refine aw_aload_n (aw_d q_Mo_blankText 12 rfl) rfl rfl rfl ?_
  refine cVr (aw_d q_Mo_blankText 13 rfl) (sp_goesI hu) vL_Mo_327_Mo rfl rfl rfl rfl rfl rfl ⟨aw_le rfl, aw_le rfl⟩ ?_
  refine aw_ifN_eq (tgt := 95) (aw_d q_Mo_blankText 14 rfl) (by decide) (by omega) (fun c24 => ?_) (fun c24 => by exfalso; omega)
  refine aw_aload_n (aw_d q_Mo_blankText 48 rfl) rfl rfl rfl ?_
  refine cVr (aw_d q_Mo_blankText 49 rfl) (sp_goesI hu) vL_Mo_327_Mo rfl rfl rfl rfl rfl rfl ⟨aw_le rfl, aw_le rfl⟩ ?_
  refine aw_ifN_eq (tgt := 117) (aw_d q_Mo_blankText 50 rfl) (by decide) (by omega) (fun c99 => ?_) (fun c99 => by exfalso; omega)
  exact aw_vret (aw_d q_Mo_blankText 59 rfl) rfl (⟨rfl, rfl⟩)
theorem sp_isOfM {g : aw_G} {S : aw_S} {a q f : Int32} {X : Nat → Int32} {L : List Int32} {kd : Nat} (h20 : L.length ≤ 20) (hal : L.all pTx = true) (hkd : kd ≤ 4) : Sp g M_Mo_isOfKind 2 42 0 0 [.ref 33, .int (nI kd)] (HP (QM S a q f (nI (L).length) (XA (L) X))) (fun r h => r = some (.int (if okL kd L = true then nI 1 else nI 0)) ∧ h = HP (QM S a q f (nI (L).length) (XA (L) X))) := by
  have q1 := sp_Mo_isOfKind (g := g) (S := QM S a q f (nI (L).length) (XA (L) X)) (n := L.length) (kd := kd) rfl h20 hkd
  rw [show okM kd ((QM S a q f (nI (L).length) (XA (L) X)).2 54) L.length = okL kd L from okM_K hal] at q1
  exact q1
set_option maxRecDepth 20000 in
theorem sp_checkA {g : aw_G} {S : aw_S} {a f x : Int32} {X : Nat → Int32} {L : List Int32} {kd : Nat} (h20 : L.length ≤ 20) (hal : L.all pTx = true) (hkd : kd ≤ 4)  : Sp g M_Mo_check 3 66 0 0 [.ref 33, .int (nI kd), .int x] (HP (QM S a (-1) f (nI (L).length) (XA (L) X))) (fun r h => r = none ∧ ((okL kd L = true ∧ h = HP (QM S a (-1) f (nI (L).length) (XA (L) X))) ∨ (¬ okL kd L = true ∧ h = HP (QM S a x f (nI (L).length) (XA (L) X))))) := by
  refine Sp.of rfl (aw_le rfl) ?_
  refine aw_aload_n (aw_d q_Mo_check 0 rfl) rfl rfl rfl ?_
  refine cVr (aw_d q_Mo_check 1 rfl) (sp_goesA) vL_Mo_327_Mo rfl rfl rfl rfl rfl rfl ⟨aw_le rfl, aw_le rfl⟩ ?_
  refine aw_ifN_eq (tgt := 20) (aw_d q_Mo_check 2 rfl) (by decide) (by omega) (fun c4 => by exfalso; omega) (fun c4 => ?_)
  refine aw_aload_n (aw_d q_Mo_check 3 rfl) rfl rfl rfl ?_
  refine aw_iload_n (aw_d q_Mo_check 4 rfl) rfl rfl ?_
  refine cVr (aw_d q_Mo_check 5 rfl) (sp_isOfM h20 hal hkd) vL_Mo_120_Mo rfl rfl rfl rfl rfl rfl ⟨aw_le rfl, aw_le rfl⟩ ?_
  refine aw_ifB_ne (tgt := 20) (aw_d q_Mo_check 6 rfl) (by decide) (fun c12 => ?_) (fun c12 => ?_)
  · exact aw_vret (aw_d q_Mo_check 10 rfl) rfl (⟨rfl, by first | exact Or.inl ⟨c12, rfl⟩ | exact Or.inr ⟨c12, rfl⟩⟩)
  · refine aw_aload_n (aw_d q_Mo_check 7 rfl) rfl rfl rfl ?_
    refine aw_iload_n (aw_d q_Mo_check 8 rfl) rfl rfl ?_
    refine cVv (aw_d q_Mo_check 9 rfl) (sp_mfailA) vL_Mo_334_Mo rfl rfl rfl rfl rfl rfl ⟨aw_le rfl, aw_le rfl⟩ ?_
    exact aw_vret (aw_d q_Mo_check 10 rfl) rfl (⟨rfl, by first | exact Or.inl ⟨c12, rfl⟩ | exact Or.inr ⟨c12, rfl⟩⟩)
set_option maxRecDepth 20000 in
theorem sp_checkI {g : aw_G} {S : aw_S} {u b : Nat} {f z : Int32} {X : Nat → Int32} (hu : u ≤ 3000) (hb : b ≤ 3010) {x y : Int32} : Sp g M_Mo_check 3 66 0 0 [.ref 33, .int x, .int y] (HP (QM S (nI b) (nI u) f z X)) (fun r h => r = none ∧ h = HP (QM S (nI b) (nI u) f z X)) := by
  refine Sp.of rfl (aw_le rfl) ?_
  refine aw_aload_n (aw_d q_Mo_check 0 rfl) rfl rfl rfl ?_
  refine cVr (aw_d q_Mo_check 1 rfl) (sp_goesI hu) vL_Mo_327_Mo rfl rfl rfl rfl rfl rfl ⟨aw_le rfl, aw_le rfl⟩ ?_
  refine aw_ifN_eq (tgt := 20) (aw_d q_Mo_check 2 rfl) (by decide) (by omega) (fun c4 => ?_) (fun c4 => by exfalso; omega)
  exact aw_vret (aw_d q_Mo_check 10 rfl) rfl (⟨rfl, rfl⟩)
set_option maxRecDepth 20000 in
theorem lp_give {g : aw_G} {S : aw_S} {D : aw_S} {N : nm_T} {r : Nat} {s : sq_T} {a f : Int32} {X : Nat → Int32} {v kd ex : Nat} {L : List Int32} (hI : imC S N (r + 1) s D) (hs : itOK s (r * 6 + v)) (hv : v < N.1) (h20 : L.length ≤ 20) : ∀ (m k : Nat) (BD : Nat → Int32), m + k = L.length → (∀ i, i < k → BD ((r * 6 + v) * 20 + i) = L.getD i 0) → (∀ j, j < (r * 6 + v) * 20 → BD j = D.2 53 j) → AW g M_Mo_give (aw_rm 1 20 0 0) (aw_F g 0 0 (fun x h => x = none ∧ ∃ F, imC S N (r + 1) (s ++ [(r * 6 + v, kd, ex, L)]) F ∧ h = HP (QM F a (-1) f (nI (L).length) (XA (L) X)))) 51 [some (.ref 33), some (.int (nI v)), some (.int (nI kd)), some (.int (nI ex)), some (.int (nI (r * 6 + v))), some (.int (nI k))] [] (HP (sa (sa (sa (sa (QM D a (-1) f (nI (L).length) (XA (L) X)) 50 (upd (D.2 50) (r * 6 + v) (nI kd))) 51 (upd (D.2 51) (r * 6 + v) (nI ex))) 52 (upd (D.2 52) (r * 6 + v) (nI L.length))) 53 BD)) 0 0 := by
  intro m
  induction m with
  | zero =>
    intro k BD hk b1 b2
    refine aw_iload (aw_d q_Mo_give 31 rfl) rfl ?_
    refine aw_aload_n (aw_d q_Mo_give 32 rfl) rfl rfl rfl ?_
    refine aw_getf (v := .int (nI (L.length))) (aw_d q_Mo_give 33 rfl) fL_Mo_93_Mo rfl (gk rfl) ?_
    refine aw_icmpN_ge (tgt := 86) (aw_d q_Mo_give 34 rfl) (by decide) (by (have hr := hI.2.2.2.1.2; have h6 := hI.2.1.2.1; omega)) (by (have hr := hI.2.2.2.1.2; have h6 := hI.2.1.2.1; omega)) (fun c57 => ?_) (fun c57 => by exfalso; (have hr := hI.2.2.2.1.2; have h6 := hI.2.1.2.1; omega))
    exact aw_vret (aw_d q_Mo_give 49 rfl) rfl (⟨rfl, _, imC_put hI (fun i hi => b1 i (by omega)) b2 hs (by have := hI.2.1.2.1; omega) h20 (by have := hI.2.1.2.1; omega), by rw [QM_sa (by decide), QM_sa (by decide), QM_sa (by decide), QM_sa (by decide)]⟩)
  | succ m ih =>
    intro k BD hk b1 b2
    refine aw_iload (aw_d q_Mo_give 31 rfl) rfl ?_
    refine aw_aload_n (aw_d q_Mo_give 32 rfl) rfl rfl rfl ?_
    refine aw_getf (v := .int (nI (L.length))) (aw_d q_Mo_give 33 rfl) fL_Mo_93_Mo rfl (gk rfl) ?_
    refine aw_icmpN_ge (tgt := 86) (aw_d q_Mo_give 34 rfl) (by decide) (by (have hr := hI.2.2.2.1.2; have h6 := hI.2.1.2.1; omega)) (by (have hr := hI.2.2.2.1.2; have h6 := hI.2.1.2.1; omega)) (fun c57 => by exfalso; (have hr := hI.2.2.2.1.2; have h6 := hI.2.1.2.1; omega)) (fun c57 => ?_)
    refine aw_aload_n (aw_d q_Mo_give 35 rfl) rfl rfl rfl ?_
    refine aw_getf (aw_d q_Mo_give 36 rfl) fL_Mo_68_Mo rfl rfl ?_
    refine aw_bipush (v := nI 20) (aw_d q_Mo_give 37 rfl) (by decide) ?_
    refine aw_iload (aw_d q_Mo_give 38 rfl) rfl ?_
    refine aw_imulN (aw_d q_Mo_give 39 rfl) ?_
    refine aw_iload (aw_d q_Mo_give 40 rfl) rfl ?_
    refine aw_iaddN (aw_d q_Mo_give 41 rfl) ?_
    refine aw_aload_n (aw_d q_Mo_give 42 rfl) rfl rfl rfl ?_
    refine aw_getf (aw_d q_Mo_give 43 rfl) fL_Mo_71_Mo rfl rfl ?_
    refine aw_iload (aw_d q_Mo_give 44 rfl) rfl ?_
    refine aw_ialdK (w := (L.getD k 0)) (aw_d q_Mo_give 45 rfl) rfl (by (have hr := hI.2.2.2.1.2; have h6 := hI.2.1.2.1; omega)) rfl (if_pos (by omega)) ?_
    refine wn_53 (aw_d q_Mo_give 46 rfl) (by (have hr := hI.2.2.2.1.2; have h6 := hI.2.1.2.1; omega)) ?_
    refine aw_iinc (aw_d q_Mo_give 47 rfl) rfl (ii1 _) (aw_le rfl) rfl ?_
    refine aw_goto (tgt := 51) (aw_d q_Mo_give 48 rfl) (by decide) ?_
    exact AW.to (ih (k + 1) (upd BD (20 * (r * 6 + v) + k) (L.getD k 0)) (by omega) (fun i hi => by simp only [upd]; by_cases hik : i = k; (rw [if_pos (by omega), hik]); (rw [if_neg (by omega)]; exact b1 i (by omega))) (fun j hj => by simp only [upd]; rw [if_neg (by omega)]; exact b2 j hj)) rfl rfl rfl rfl
set_option maxRecDepth 20000 in
theorem sp_giveA {g : aw_G} {S D : aw_S} {N : nm_T} {r : Nat} {s : sq_T} {a f : Int32} {X : Nat → Int32} {v kd ex : Nat} {L : List Int32} (hI : imC S N (r + 1) s D) (hs : itOK s (r * 6 + v)) (hv : v < N.1) (h20 : L.length ≤ 20)  : Sp g M_Mo_give 1 20 0 0 [.ref 33, .int (nI v), .int (nI kd), .int (nI ex)] (HP (QM D a (-1) f (nI (L).length) (XA (L) X))) (fun x h => x = none ∧ ∃ F, imC S N (r + 1) (s ++ [(r * 6 + v, kd, ex, L)]) F ∧ h = HP (QM F a (-1) f (nI (L).length) (XA (L) X))) := by
  refine Sp.of rfl (aw_le rfl) ?_
  refine aw_aload_n (aw_d q_Mo_give 0 rfl) rfl rfl rfl ?_
  refine cVr (aw_d q_Mo_give 1 rfl) (sp_goesA) vL_Mo_327_Mo rfl rfl rfl rfl rfl rfl ⟨aw_le rfl, aw_le rfl⟩ ?_
  refine aw_ifN_ne (tgt := 8) (aw_d q_Mo_give 2 rfl) (by decide) (by (have hr := hI.2.2.2.1.2; have h6 := hI.2.1.2.1; omega)) (fun c4 => ?_) (fun c4 => by exfalso; (have hr := hI.2.2.2.1.2; have h6 := hI.2.1.2.1; omega))
  refine aw_bipush (v := nI 6) (aw_d q_Mo_give 4 rfl) (by decide) ?_
  refine aw_aload_n (aw_d q_Mo_give 5 rfl) rfl rfl rfl ?_
  refine aw_getf (v := .int (nI ((r + 1)))) (aw_d q_Mo_give 6 rfl) fL_Mo_375_Mo rfl (gk hI.2.2.2.1.1) ?_
  refine aw_iconst (v := nI 1) (aw_d q_Mo_give 7 rfl) (by decide) ?_
  refine aw_isubN (aw_d q_Mo_give 8 rfl) (by (have hr := hI.2.2.2.1.2; have h6 := hI.2.1.2.1; omega)) ?_
  refine aw_imulN (aw_d q_Mo_give 9 rfl) ?_
  refine aw_iload_n (aw_d q_Mo_give 10 rfl) rfl rfl ?_
  refine aw_iaddN (aw_d q_Mo_give 11 rfl) ?_
  rw [show 6 * (r + 1 - 1) + v = r * 6 + v by omega]
  refine aw_istore (aw_d q_Mo_give 12 rfl) (aw_le rfl) rfl ?_
  refine aw_aload_n (aw_d q_Mo_give 13 rfl) rfl rfl rfl ?_
  refine aw_getf (aw_d q_Mo_give 14 rfl) fL_Mo_59_Mo rfl rfl ?_
  refine aw_iload (aw_d q_Mo_give 15 rfl) rfl ?_
  refine aw_iload_n (aw_d q_Mo_give 16 rfl) rfl rfl ?_
  refine wn_50 (aw_d q_Mo_give 17 rfl) (by (have hr := hI.2.2.2.1.2; have h6 := hI.2.1.2.1; omega)) ?_
  refine aw_aload_n (aw_d q_Mo_give 18 rfl) rfl rfl rfl ?_
  refine aw_getf (aw_d q_Mo_give 19 rfl) fL_Mo_62_Mo rfl rfl ?_
  refine aw_iload (aw_d q_Mo_give 20 rfl) rfl ?_
  refine aw_iload_n (aw_d q_Mo_give 21 rfl) rfl rfl ?_
  refine wn_51 (aw_d q_Mo_give 22 rfl) (by (have hr := hI.2.2.2.1.2; have h6 := hI.2.1.2.1; omega)) ?_
  refine aw_aload_n (aw_d q_Mo_give 23 rfl) rfl rfl rfl ?_
  refine aw_getf (aw_d q_Mo_give 24 rfl) fL_Mo_65_Mo rfl rfl ?_
  refine aw_iload (aw_d q_Mo_give 25 rfl) rfl ?_
  refine aw_aload_n (aw_d q_Mo_give 26 rfl) rfl rfl rfl ?_
  refine aw_getf (v := .int (nI (L.length))) (aw_d q_Mo_give 27 rfl) fL_Mo_93_Mo rfl (gk rfl) ?_
  refine wn_52 (aw_d q_Mo_give 28 rfl) (by (have hr := hI.2.2.2.1.2; have h6 := hI.2.1.2.1; omega)) ?_
  refine aw_iconst (v := nI 0) (aw_d q_Mo_give 29 rfl) (by decide) ?_
  refine aw_istore (aw_d q_Mo_give 30 rfl) (aw_le rfl) rfl ?_
  exact AW.to (lp_give hI hs hv h20 L.length 0 (D.2 53) (by omega) (fun i hi => by omega) (fun j hj => rfl)) rfl rfl rfl rfl
set_option maxRecDepth 20000 in
theorem sp_giveI {g : aw_G} {S : aw_S} {u b : Nat} {f z : Int32} {X : Nat → Int32} (hu : u ≤ 3000) (hb : b ≤ 3010) {x y w : Int32} : Sp g M_Mo_give 1 20 0 0 [.ref 33, .int x, .int y, .int w] (HP (QM S (nI b) (nI u) f z X)) (fun r h => r = none ∧ h = HP (QM S (nI b) (nI u) f z X)) := by
  refine Sp.of rfl (aw_le rfl) ?_
  refine aw_aload_n (aw_d q_Mo_give 0 rfl) rfl rfl rfl ?_
  refine cVr (aw_d q_Mo_give 1 rfl) (sp_goesI hu) vL_Mo_327_Mo rfl rfl rfl rfl rfl rfl ⟨aw_le rfl, aw_le rfl⟩ ?_
  refine aw_ifN_ne (tgt := 8) (aw_d q_Mo_give 2 rfl) (by decide) (by omega) (fun c4 => by exfalso; omega) (fun c4 => ?_)
  exact aw_vret (aw_d q_Mo_give 3 rfl) rfl (⟨rfl, rfl⟩)
set_option maxRecDepth 20000 in
theorem lp_begR {g : aw_G} {S : aw_S} {D : aw_S} {N : nm_T} {R : Nat} {s : sq_T} {a f z x : Int32} {X : Nat → Int32} (hI : imC S N R s D) (hs : itOK s (R * 6)) (h24 : R < 24) : ∀ (m k : Nat) (CD : Nat → Int32), m + k = 6 → (∀ i, i < k → CD (R * 6 + i) = -1) → (∀ j, j < R * 6 → CD j = D.2 50 j) → AW g M_Mo_beginRow (aw_rm 1 21 0 0) (aw_F g 0 0 (fun r h => r = none ∧ ((R < 24 ∧ ∃ F, imC S N (R + 1) s F ∧ h = HP (QM F a (-1) f z X)) ∨ (R = 24 ∧ h = HP (QM D a x f z X))))) 30 [some (.ref 33), some (.int x), some (.int (nI k))] [] (HP (sa (QM D a (-1) f z X) 50 CD)) 0 0 := by
  intro m
  induction m with
  | zero =>
    intro k CD hk b1 b2
    refine aw_iload_n (aw_d q_Mo_beginRow 15 rfl) rfl rfl ?_
    refine aw_bipush (v := nI 6) (aw_d q_Mo_beginRow 16 rfl) (by decide) ?_
    refine aw_icmpN_ge (tgt := 57) (aw_d q_Mo_beginRow 17 rfl) (by decide) (by (have hr := hI.2.2.2.1.2; omega)) (by (have hr := hI.2.2.2.1.2; omega)) (fun c33 => ?_) (fun c33 => by exfalso; (have hr := hI.2.2.2.1.2; omega))
    refine aw_aload_n (aw_d q_Mo_beginRow 30 rfl) rfl rfl rfl ?_
    refine aw_dup (aw_d q_Mo_beginRow 31 rfl) rfl ?_
    refine aw_getf (v := .int (nI (R))) (aw_d q_Mo_beginRow 32 rfl) fL_Mo_375_Mo rfl (gk hI.2.2.2.1.1) ?_
    refine aw_iconst (v := nI 1) (aw_d q_Mo_beginRow 33 rfl) (by decide) ?_
    refine aw_iaddN (aw_d q_Mo_beginRow 34 rfl) ?_
    refine wi_33_26 (aw_d q_Mo_beginRow 35 rfl) pL_Mo_375_Mo ?_
    exact aw_vret (aw_d q_Mo_beginRow 36 rfl) rfl (⟨rfl, Or.inl ⟨h24, _, imC_row hI hs h24 (fun i hi => b1 i (by omega)) b2, by rw [QM_sa (by decide), QM_si (by decide)]⟩⟩)
  | succ m ih =>
    intro k CD hk b1 b2
    refine aw_iload_n (aw_d q_Mo_beginRow 15 rfl) rfl rfl ?_
    refine aw_bipush (v := nI 6) (aw_d q_Mo_beginRow 16 rfl) (by decide) ?_
    refine aw_icmpN_ge (tgt := 57) (aw_d q_Mo_beginRow 17 rfl) (by decide) (by (have hr := hI.2.2.2.1.2; omega)) (by (have hr := hI.2.2.2.1.2; omega)) (fun c33 => by exfalso; (have hr := hI.2.2.2.1.2; omega)) (fun c33 => ?_)
    refine aw_aload_n (aw_d q_Mo_beginRow 18 rfl) rfl rfl rfl ?_
    refine aw_getf (aw_d q_Mo_beginRow 19 rfl) fL_Mo_59_Mo rfl rfl ?_
    refine aw_bipush (v := nI 6) (aw_d q_Mo_beginRow 20 rfl) (by decide) ?_
    refine aw_aload_n (aw_d q_Mo_beginRow 21 rfl) rfl rfl rfl ?_
    refine aw_getf (v := .int (nI (R))) (aw_d q_Mo_beginRow 22 rfl) fL_Mo_375_Mo rfl (gk hI.2.2.2.1.1) ?_
    refine aw_imulN (aw_d q_Mo_beginRow 23 rfl) ?_
    refine aw_iload_n (aw_d q_Mo_beginRow 24 rfl) rfl rfl ?_
    refine aw_iaddN (aw_d q_Mo_beginRow 25 rfl) ?_
    refine aw_iconst (v := (-1)) (aw_d q_Mo_beginRow 26 rfl) (by decide) ?_
    refine wn_50 (aw_d q_Mo_beginRow 27 rfl) (by (have hr := hI.2.2.2.1.2; omega)) ?_
    refine aw_iinc (aw_d q_Mo_beginRow 28 rfl) rfl (ii1 _) (aw_le rfl) rfl ?_
    refine aw_goto (tgt := 30) (aw_d q_Mo_beginRow 29 rfl) (by decide) ?_
    exact AW.to (ih (k + 1) (upd CD (6 * R + k) (-1)) (by omega) (fun i hi => by simp only [upd]; by_cases hik : i = k; (rw [if_pos (by omega)]); (rw [if_neg (by omega)]; exact b1 i (by omega))) (fun j hj => by simp only [upd]; rw [if_neg (by omega)]; exact b2 j hj)) rfl rfl rfl rfl
set_option maxRecDepth 20000 in
theorem sp_begA {g : aw_G} {S D : aw_S} {N : nm_T} {R : Nat} {s : sq_T} {a f z x : Int32} {X : Nat → Int32} (hI : imC S N R s D) (hs : itOK s (R * 6)) (hx : 0 ≤ x.toInt) : Sp g M_Mo_beginRow 1 21 0 0 [.ref 33, .int x] (HP (QM D a (-1) f z X)) (fun r h => r = none ∧ ((R < 24 ∧ ∃ F, imC S N (R + 1) s F ∧ h = HP (QM F a (-1) f z X)) ∨ (R = 24 ∧ h = HP (QM D a x f z X)))) := by
  refine Sp.of rfl (aw_le rfl) ?_
  refine aw_aload_n (aw_d q_Mo_beginRow 0 rfl) rfl rfl rfl ?_
  refine cVr (aw_d q_Mo_beginRow 1 rfl) (sp_goesA) vL_Mo_327_Mo rfl rfl rfl rfl rfl rfl ⟨aw_le rfl, aw_le rfl⟩ ?_
  refine aw_ifN_eq (tgt := 21) (aw_d q_Mo_beginRow 2 rfl) (by decide) (by (have hr := hI.2.2.2.1.2; omega)) (fun c4 => by exfalso; (have hr := hI.2.2.2.1.2; omega)) (fun c4 => ?_)
  refine aw_aload_n (aw_d q_Mo_beginRow 3 rfl) rfl rfl rfl ?_
  refine aw_getf (v := .int (nI (R))) (aw_d q_Mo_beginRow 4 rfl) fL_Mo_375_Mo rfl (gk hI.2.2.2.1.1) ?_
  refine aw_bipush (v := nI 24) (aw_d q_Mo_beginRow 5 rfl) (by decide) ?_
  refine aw_icmpN_ne (tgt := 21) (aw_d q_Mo_beginRow 6 rfl) (by decide) (by (have hr := hI.2.2.2.1.2; omega)) (by (have hr := hI.2.2.2.1.2; omega)) (fun c13 => ?_) (fun c13 => ?_)
  · refine aw_aload_n (aw_d q_Mo_beginRow 10 rfl) rfl rfl rfl ?_
    refine cVr (aw_d q_Mo_beginRow 11 rfl) (sp_goesA) vL_Mo_327_Mo rfl rfl rfl rfl rfl rfl ⟨aw_le rfl, aw_le rfl⟩ ?_
    refine aw_ifN_eq (tgt := 67) (aw_d q_Mo_beginRow 12 rfl) (by decide) (by (have hr := hI.2.2.2.1.2; omega)) (fun c25 => by exfalso; (have hr := hI.2.2.2.1.2; omega)) (fun c25 => ?_)
    refine aw_iconst (v := nI 0) (aw_d q_Mo_beginRow 13 rfl) (by decide) ?_
    refine aw_istore_n (aw_d q_Mo_beginRow 14 rfl) rfl (aw_le rfl) rfl ?_
    exact AW.to (lp_begR hI hs (by have := hI.2.2.2.1.2; omega) 6 0 (D.2 50) (by omega) (fun i hi => by omega) (fun j hj => rfl)) rfl rfl rfl rfl
  · refine aw_aload_n (aw_d q_Mo_beginRow 7 rfl) rfl rfl rfl ?_
    refine aw_iload_n (aw_d q_Mo_beginRow 8 rfl) rfl rfl ?_
    refine cVv (aw_d q_Mo_beginRow 9 rfl) (sp_mfailA) vL_Mo_334_Mo rfl rfl rfl rfl rfl rfl ⟨aw_le rfl, aw_le rfl⟩ ?_
    refine aw_aload_n (aw_d q_Mo_beginRow 10 rfl) rfl rfl rfl ?_
    refine cVr (aw_d q_Mo_beginRow 11 rfl) (sp_goesX hx) vL_Mo_327_Mo rfl rfl rfl rfl rfl rfl ⟨aw_le rfl, aw_le rfl⟩ ?_
    refine aw_ifN_eq (tgt := 67) (aw_d q_Mo_beginRow 12 rfl) (by decide) (by (have hr := hI.2.2.2.1.2; omega)) (fun c25 => ?_) (fun c25 => by exfalso; (have hr := hI.2.2.2.1.2; omega))
    exact aw_vret (aw_d q_Mo_beginRow 36 rfl) rfl (⟨rfl, Or.inr ⟨by omega, rfl⟩⟩)
set_option maxRecDepth 20000 in
theorem sp_begI {g : aw_G} {S : aw_S} {u b : Nat} {f z : Int32} {X : Nat → Int32} (hu : u ≤ 3000) (hb : b ≤ 3010) {x : Int32} : Sp g M_Mo_beginRow 1 21 0 0 [.ref 33, .int x] (HP (QM S (nI b) (nI u) f z X)) (fun r h => r = none ∧ h = HP (QM S (nI b) (nI u) f z X)) := by
  refine Sp.of rfl (aw_le rfl) ?_
  refine aw_aload_n (aw_d q_Mo_beginRow 0 rfl) rfl rfl rfl ?_
  refine cVr (aw_d q_Mo_beginRow 1 rfl) (sp_goesI hu) vL_Mo_327_Mo rfl rfl rfl rfl rfl rfl ⟨aw_le rfl, aw_le rfl⟩ ?_
  refine aw_ifN_eq (tgt := 21) (aw_d q_Mo_beginRow 2 rfl) (by decide) (by omega) (fun c4 => ?_) (fun c4 => by exfalso; omega)
  refine aw_aload_n (aw_d q_Mo_beginRow 10 rfl) rfl rfl rfl ?_
  refine cVr (aw_d q_Mo_beginRow 11 rfl) (sp_goesI hu) vL_Mo_327_Mo rfl rfl rfl rfl rfl rfl ⟨aw_le rfl, aw_le rfl⟩ ?_
  refine aw_ifN_eq (tgt := 67) (aw_d q_Mo_beginRow 12 rfl) (by decide) (by omega) (fun c25 => ?_) (fun c25 => by exfalso; omega)
  exact aw_vret (aw_d q_Mo_beginRow 36 rfl) rfl (⟨rfl, rfl⟩)
