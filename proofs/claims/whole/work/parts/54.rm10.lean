theorem xb_eq {T : Nat → Int32} {n r m p lo : Nat} {N : nm_T} {s : sq_T} : xb T n N r (m + 1) p lo s = if (T p).toInt = 60 ∧ (T (p + 1)).toInt = 47 then bd (mu T (tx 45) p) (fun p => .ok (p, s)) else bd (mu T (tx 30) p) (fun p => bd (rn T n N lo p) (fun y => bd (mu T [34, 62] y.1) (fun p => bd (vtV T n p) (fun w => bd (mu T (tx 44) w.1) (fun p => xb T n N r m p (y.2 + 1) (s ++ [(r * 6 + y.2, w.2)])))))) := by
  simp only [xb, vtV, show tx 75 = [34, 62] ++ [60] by decide, mu_app, bd_bd, bd_ok]
def rpM (S : aw_S) (n : Nat) (res : Except Nat (Nat × rd_T)) (x : Option Value) (h : aw_hp) : Prop := x = none ∧ match res with
  | .ok y => ∃ (F : aw_S) (f z : Int32) (X : Nat → Int32), (imC S y.2.1 y.2.2.1 y.2.2.2 F ∧ itOK y.2.2.2 (y.2.2.1 * 6)) ∧ y.1 ≤ n ∧ h = HP (QM F (nI y.1) (-1) f z X)
  | .error u => u ≤ 3000 ∧ ∃ (F : aw_S) (b : Nat) (f z : Int32) (X : Nat → Int32), frM S F ∧ b ≤ 3010 ∧ h = HP (QM F (nI b) (nI u) f z X)
theorem rpM_er {S F : aw_S} {n u b : Nat} {f z : Int32} {X : Nat → Int32} (h1 : u ≤ 3000) (h2 : frM S F) (h3 : b ≤ 3010) : rpM S n (.error u) none (HP (QM F (nI b) (nI u) f z X)) := ⟨rfl, h1, F, b, f, z, X, h2, h3, rfl⟩
theorem rpM_ok {S F : aw_S} {n p r : Nat} {N : nm_T} {s : sq_T} {f z : Int32} {X : Nat → Int32} (h1 : imC S N r s F) (h2 : itOK s (r * 6)) (h3 : p ≤ n) : rpM S n (.ok (p, N, r, s)) none (HP (QM F (nI p) (-1) f z X)) := ⟨rfl, F, f, z, X, ⟨h1, h2⟩, h3, rfl⟩
theorem mu29 {T : Nat → Int32} {p : Nat} (h : ¬ (T p).toInt = 60) : mu T (tx 29) p = .error p := if_neg (show ¬ (T p).toInt = (60 : Int32).toInt from h)
def xtV (T : Nat → Int32) (n p : Nat) (N : nm_T) (r : Nat) (s : sq_T) : Except Nat (Nat × rd_T) := bd (mu T (tx 46) p) (fun p => bd (me n p) (fun p => .ok (p, N, r, s)))
set_option maxRecDepth 20000 in
theorem xt_tail {g : aw_G} {S : aw_S} {n : Nat} {T : Nat → Int32} (hc : TPm S n T)  : ∀ (p r : Nat) (s : sq_T) (N : nm_T) (D : aw_S) (f z : Int32) (X : Nat → Int32) (x1 : Option Value), p ≤ n → imC S N r s D → itOK s (r * 6) → AW g M_Mo_readTags (aw_rm 5 113 0 0) (aw_F g 0 0 (rpM S n (xtV T n p N r s))) 216 [some (.ref 33), x1] [] (HP (QM D (nI p) (-1) f z X)) 0 0 := by
  have hc2 := hc.2.1
  intro p r s N D f z X x1 hp hI hs
  refine aw_aload_n (aw_d q_Mo_readTags 100 rfl) rfl rfl rfl ?_
  refine aw_ldc2 (aw_d q_Mo_readTags 101 rfl) lL_Mo_247 ?_
  refine aw_bipush (v := nI 8) (aw_d q_Mo_readTags 102 rfl) (by decide) ?_
  refine cV (aw_d q_Mo_readTags 103 rfl) (sp_Umust (res := .ok (p, ())) (A := []) (x := 4336810746235415668) (j := 8) (frM_TP hI.1 hc) (by decide) (RR_su (T := T) hp)) vL_Mo_340_Mo rfl rfl rfl rfl rfl rfl ⟨aw_le rfl, aw_le rfl⟩ (fun r222 h222 hp222 => ?_)
  obtain ⟨rfl, b222, q222, hr222, rfl⟩ := hp222
  refine aw_aload_n (aw_d q_Mo_readTags 104 rfl) rfl rfl rfl ?_
  refine aw_ldc2 (aw_d q_Mo_readTags 105 rfl) lL_Mo_251 ?_
  refine aw_bipush (v := nI 8) (aw_d q_Mo_readTags 106 rfl) (by decide) ?_
  refine cV (aw_d q_Mo_readTags 107 rfl) (sp_Umust (res := .ok (p, ())) (A := ([] ++ eB 4336810746235415668 8)) (x := 8304140937415647602) (j := 8) (frM_TP hI.1 hc) (by decide) hr222) vL_Mo_340_Mo rfl rfl rfl rfl rfl rfl ⟨aw_le rfl, aw_le rfl⟩ (fun r231 h231 hp231 => ?_)
  obtain ⟨rfl, b231, q231, hr231, rfl⟩ := hp231
  refine aw_aload_n (aw_d q_Mo_readTags 108 rfl) rfl rfl rfl ?_
  refine aw_ldc2 (aw_d q_Mo_readTags 109 rfl) lL_Mo_253 ?_
  refine aw_iconst (v := nI 3) (aw_d q_Mo_readTags 110 rfl) (by decide) ?_
  refine cV (aw_d q_Mo_readTags 111 rfl) (sp_Umust (res := .ok (p, ())) (A := (([] ++ eB 4336810746235415668 8) ++ eB 8304140937415647602 8)) (x := 7433278) (j := 3) (frM_TP hI.1 hc) (by decide) hr231) vL_Mo_340_Mo rfl rfl rfl rfl rfl rfl ⟨aw_le rfl, aw_le rfl⟩ (fun r239 h239 hp239 => ?_)
  obtain ⟨rfl, b239, q239, hr239, rfl⟩ := hp239
  rw [bp_ok, show mu T ((([] ++ eB 4336810746235415668 8) ++ eB 8304140937415647602 8) ++ eB 7433278 3) p = mu T (tx 46) p from (congrArg (fun L => mu T L _) (show _ = tx 46 by decide))] at hr239
  cases hx242s : mu T (tx 46) p with
  | error u242s =>
    rw [hx242s] at hr239
    obtain ⟨hu242s, rfl, hb242s⟩ := hr239
    refine aw_aload_n (aw_d q_Mo_readTags 112 rfl) rfl rfl rfl ?_
    refine cVv (aw_d q_Mo_readTags 113 rfl) (sp_endI hu242s) vL_Mo_401_Mo rfl rfl rfl rfl rfl rfl ⟨aw_le rfl, aw_le rfl⟩ ?_
    exact aw_vret (aw_d q_Mo_readTags 114 rfl) rfl (by rw [show xtV T n p N r s = .error u242s by rw [xtV, hx242s, bd_er]]; exact rpM_er hu242s hI.1 hb242s)
  | ok p242s =>
    rw [hx242s] at hr239
    obtain ⟨hbb242s, hp_242s, rfl⟩ := hr239
    have hbb242s : b239 = p242s := hbb242s
    subst hbb242s
    refine aw_aload_n (aw_d q_Mo_readTags 112 rfl) rfl rfl rfl ?_
    refine cV (aw_d q_Mo_readTags 113 rfl) (sp_mend (res := .ok (b239, ())) (frM_TP hI.1 hc) (RR_ok rfl hp_242s rfl)) vL_Mo_401_Mo rfl rfl rfl rfl rfl rfl ⟨aw_le rfl, aw_le rfl⟩ (fun r243 h243 hp243 => ?_)
    obtain ⟨rfl, b243, q243, hr243, rfl⟩ := hp243
    rw [bp_ok] at hr243
    exact aw_vret (aw_d q_Mo_readTags 114 rfl) rfl (by rw [show xtV T n p N r s = bd (me n b239) (fun p => .ok (p, N, r, s)) by rw [xtV, hx242s, bd_ok]]; cases hq : me n b239 with | error u => (rw [hq] at hr243; obtain ⟨h1, rfl, h3⟩ := hr243; exact rpM_er h1 hI.1 h3) | ok w => (rw [hq] at hr243; obtain ⟨h1, h2, rfl⟩ := hr243; have h1 : b243 = w := h1; subst h1; exact rpM_ok hI hs h2))
set_option maxRecDepth 20000 in
theorem xi_83 {g : aw_G} {S D : aw_S} {n u b : Nat} {f z : Int32} {X : Nat → Int32} {x1 : Option Value} {res : Except Nat (Nat × rd_T)} (he : res = .error u) (hu : u ≤ 3000) (hF : frM S D) (hb : b ≤ 3010) : AW g M_Mo_readTags (aw_rm 5 113 0 0) (aw_F g 0 0 (rpM S n (res))) 83 [some (.ref 33), x1] [] (HP (QM D (nI b) (nI u) f z X)) 0 0 := by
  refine aw_aload_n (aw_d q_Mo_readTags 37 rfl) rfl rfl rfl ?_
  refine cVr (aw_d q_Mo_readTags 38 rfl) (sp_goesI hu) vL_Mo_327_Mo rfl rfl rfl rfl rfl rfl ⟨aw_le rfl, aw_le rfl⟩ ?_
  refine aw_ifN_eq (tgt := 216) (aw_d q_Mo_readTags 39 rfl) (by decide) (by omega) (fun c87 => ?_) (fun c87 => by exfalso; omega)
  refine aw_aload_n (aw_d q_Mo_readTags 100 rfl) rfl rfl rfl ?_
  refine aw_ldc2 (aw_d q_Mo_readTags 101 rfl) lL_Mo_247 ?_
  refine aw_bipush (v := nI 8) (aw_d q_Mo_readTags 102 rfl) (by decide) ?_
  refine cVv (aw_d q_Mo_readTags 103 rfl) (sp_mustI hu (by decide)) vL_Mo_340_Mo rfl rfl rfl rfl rfl rfl ⟨aw_le rfl, aw_le rfl⟩ ?_
  refine aw_aload_n (aw_d q_Mo_readTags 104 rfl) rfl rfl rfl ?_
  refine aw_ldc2 (aw_d q_Mo_readTags 105 rfl) lL_Mo_251 ?_
  refine aw_bipush (v := nI 8) (aw_d q_Mo_readTags 106 rfl) (by decide) ?_
  refine cVv (aw_d q_Mo_readTags 107 rfl) (sp_mustI hu (by decide)) vL_Mo_340_Mo rfl rfl rfl rfl rfl rfl ⟨aw_le rfl, aw_le rfl⟩ ?_
  refine aw_aload_n (aw_d q_Mo_readTags 108 rfl) rfl rfl rfl ?_
  refine aw_ldc2 (aw_d q_Mo_readTags 109 rfl) lL_Mo_253 ?_
  refine aw_iconst (v := nI 3) (aw_d q_Mo_readTags 110 rfl) (by decide) ?_
  refine cVv (aw_d q_Mo_readTags 111 rfl) (sp_mustI hu (by decide)) vL_Mo_340_Mo rfl rfl rfl rfl rfl rfl ⟨aw_le rfl, aw_le rfl⟩ ?_
  refine aw_aload_n (aw_d q_Mo_readTags 112 rfl) rfl rfl rfl ?_
  refine cVv (aw_d q_Mo_readTags 113 rfl) (sp_endI hu) vL_Mo_401_Mo rfl rfl rfl rfl rfl rfl ⟨aw_le rfl, aw_le rfl⟩ ?_
  exact aw_vret (aw_d q_Mo_readTags 114 rfl) rfl (by rw [he]; exact rpM_er hu hF hb)
set_option maxRecDepth 20000 in
theorem xi_18 {g : aw_G} {S D : aw_S} {n u b : Nat} {f z : Int32} {X : Nat → Int32} {x1 : Option Value} {res : Except Nat (Nat × rd_T)} (he : res = .error u) (hu : u ≤ 3000) (hF : frM S D) (hb : b ≤ 3010) : AW g M_Mo_readTags (aw_rm 5 113 0 0) (aw_F g 0 0 (rpM S n (res))) 18 [some (.ref 33), x1] [] (HP (QM D (nI b) (nI u) f z X)) 0 0 := by
  refine aw_aload_n (aw_d q_Mo_readTags 8 rfl) rfl rfl rfl ?_
  refine cVr (aw_d q_Mo_readTags 9 rfl) (sp_goesI hu) vL_Mo_327_Mo rfl rfl rfl rfl rfl rfl ⟨aw_le rfl, aw_le rfl⟩ ?_
  refine aw_ifN_eq (tgt := 65) (aw_d q_Mo_readTags 10 rfl) (by decide) (by omega) (fun c22 => ?_) (fun c22 => by exfalso; omega)
  refine aw_aload_n (aw_d q_Mo_readTags 29 rfl) rfl rfl rfl ?_
  refine aw_ldc2 (aw_d q_Mo_readTags 30 rfl) lL_Mo_228 ?_
  refine aw_bipush (v := nI 8) (aw_d q_Mo_readTags 31 rfl) (by decide) ?_
  refine cVv (aw_d q_Mo_readTags 32 rfl) (sp_mustI hu (by decide)) vL_Mo_340_Mo rfl rfl rfl rfl rfl rfl ⟨aw_le rfl, aw_le rfl⟩ ?_
  refine aw_aload_n (aw_d q_Mo_readTags 33 rfl) rfl rfl rfl ?_
  refine aw_ldc2 (aw_d q_Mo_readTags 34 rfl) lL_Mo_230 ?_
  refine aw_bipush (v := nI 8) (aw_d q_Mo_readTags 35 rfl) (by decide) ?_
  refine cVv (aw_d q_Mo_readTags 36 rfl) (sp_mustI hu (by decide)) vL_Mo_340_Mo rfl rfl rfl rfl rfl rfl ⟨aw_le rfl, aw_le rfl⟩ ?_
  refine aw_aload_n (aw_d q_Mo_readTags 37 rfl) rfl rfl rfl ?_
  refine cVr (aw_d q_Mo_readTags 38 rfl) (sp_goesI hu) vL_Mo_327_Mo rfl rfl rfl rfl rfl rfl ⟨aw_le rfl, aw_le rfl⟩ ?_
  refine aw_ifN_eq (tgt := 216) (aw_d q_Mo_readTags 39 rfl) (by decide) (by omega) (fun c87 => ?_) (fun c87 => by exfalso; omega)
  refine aw_aload_n (aw_d q_Mo_readTags 100 rfl) rfl rfl rfl ?_
  refine aw_ldc2 (aw_d q_Mo_readTags 101 rfl) lL_Mo_247 ?_
  refine aw_bipush (v := nI 8) (aw_d q_Mo_readTags 102 rfl) (by decide) ?_
  refine cVv (aw_d q_Mo_readTags 103 rfl) (sp_mustI hu (by decide)) vL_Mo_340_Mo rfl rfl rfl rfl rfl rfl ⟨aw_le rfl, aw_le rfl⟩ ?_
  refine aw_aload_n (aw_d q_Mo_readTags 104 rfl) rfl rfl rfl ?_
  refine aw_ldc2 (aw_d q_Mo_readTags 105 rfl) lL_Mo_251 ?_
  refine aw_bipush (v := nI 8) (aw_d q_Mo_readTags 106 rfl) (by decide) ?_
  refine cVv (aw_d q_Mo_readTags 107 rfl) (sp_mustI hu (by decide)) vL_Mo_340_Mo rfl rfl rfl rfl rfl rfl ⟨aw_le rfl, aw_le rfl⟩ ?_
  refine aw_aload_n (aw_d q_Mo_readTags 108 rfl) rfl rfl rfl ?_
  refine aw_ldc2 (aw_d q_Mo_readTags 109 rfl) lL_Mo_253 ?_
  refine aw_iconst (v := nI 3) (aw_d q_Mo_readTags 110 rfl) (by decide) ?_
  refine cVv (aw_d q_Mo_readTags 111 rfl) (sp_mustI hu (by decide)) vL_Mo_340_Mo rfl rfl rfl rfl rfl rfl ⟨aw_le rfl, aw_le rfl⟩ ?_
  refine aw_aload_n (aw_d q_Mo_readTags 112 rfl) rfl rfl rfl ?_
  refine cVv (aw_d q_Mo_readTags 113 rfl) (sp_endI hu) vL_Mo_401_Mo rfl rfl rfl rfl rfl rfl ⟨aw_le rfl, aw_le rfl⟩ ?_
  exact aw_vret (aw_d q_Mo_readTags 114 rfl) rfl (by rw [he]; exact rpM_er hu hF hb)
set_option maxRecDepth 20000 in
theorem lp_xi {g : aw_G} {S : aw_S} {n : Nat} {T : Nat → Int32} (hc : TPm S n T) {N : nm_T} {r : Nat} {res : Except Nat (Nat × rd_T)} {XB : Except Nat (Nat × sq_T)} (KO : ∀ (p : Nat) (s : sq_T) (D : aw_S) (f z : Int32) (X : Nat → Int32) (x1 : Option Value), p ≤ n → imC S N (r + 1) s D → itOK s (r * 6 + 6) → XB = .ok (p, s) → AW g M_Mo_readTags (aw_rm 5 113 0 0) (aw_F g 0 0 (rpM S n (res))) 83 [some (.ref 33), x1] [] (HP (QM D (nI p) (-1) f z X)) 0 0) (KE : ∀ u : Nat, XB = .error u → res = .error u) : ∀ (m p lo : Nat) (s : sq_T) (D : aw_S) (x f z : Int32) (X : Nat → Int32), 7 ≤ m + lo → p ≤ n → x.toInt = (lo : Int) - 1 → lo ≤ 6 → imC S N (r + 1) s D → itOK s (r * 6 + lo) → XB = xb T n N r m p lo s → AW g M_Mo_readTags (aw_rm 5 113 0 0) (aw_F g 0 0 (rpM S n (res))) 125 [some (.ref 33), some (.int x)] [] (HP (QM D (nI p) (-1) f z X)) 0 0 := by
  have hc2 := hc.2.1
  intro m
  induction m with
  | zero => intro p lo s D x f z X hk hp hx2 hlo hI hs he; exfalso; omega
  | succ m ih =>
    intro p lo s D x f z X hk hp hx2 hlo hI hs he
    refine aw_aload_n (aw_d q_Mo_readTags 57 rfl) rfl rfl rfl ?_
    refine cVr (aw_d q_Mo_readTags 58 rfl) (sp_goesA) vL_Mo_327_Mo rfl rfl rfl rfl rfl rfl ⟨aw_le rfl, aw_le rfl⟩ ?_
    refine aw_ifN_eq (tgt := 196) (aw_d q_Mo_readTags 59 rfl) (by decide) (by (have hc2 := hc.2.1; have h6 := hI.2.1.2.1; omega)) (fun c129 => by exfalso; (have hc2 := hc.2.1; have h6 := hI.2.1.2.1; omega)) (fun c129 => ?_)
    refine aw_aload_n (aw_d q_Mo_readTags 60 rfl) rfl rfl rfl ?_
    refine cVr (aw_d q_Mo_readTags 61 rfl) (sp_mclos (frM_TP hI.1 hc) (b := p) (by have := hc.2.1; have := hp; omega)) vL_Mo_434_Mo rfl rfl rfl rfl rfl rfl ⟨aw_le rfl, aw_le rfl⟩ ?_
    refine aw_ifB_ne (tgt := 196) (aw_d q_Mo_readTags 62 rfl) (by decide) (fun c136 => ?_) (fun c136 => ?_)
    · refine aw_aload_n (aw_d q_Mo_readTags 91 rfl) rfl rfl rfl ?_
      refine aw_ldc2 (aw_d q_Mo_readTags 92 rfl) lL_Mo_247 ?_
      refine aw_bipush (v := nI 8) (aw_d q_Mo_readTags 93 rfl) (by decide) ?_
      refine cV (aw_d q_Mo_readTags 94 rfl) (sp_Umust (res := .ok (p, ())) (A := []) (x := 4336810746235415668) (j := 8) (frM_TP hI.1 hc) (by decide) (RR_su (T := T) hp)) vL_Mo_340_Mo rfl rfl rfl rfl rfl rfl ⟨aw_le rfl, aw_le rfl⟩ (fun r202 h202 hp202 => ?_)
      obtain ⟨rfl, b202, q202, hr202, rfl⟩ := hp202
      refine aw_aload_n (aw_d q_Mo_readTags 95 rfl) rfl rfl rfl ?_
      refine aw_ldc2 (aw_d q_Mo_readTags 96 rfl) lL_Mo_249 ?_
      refine aw_iconst (v := nI 1) (aw_d q_Mo_readTags 97 rfl) (by decide) ?_
      refine cV (aw_d q_Mo_readTags 98 rfl) (sp_Umust (res := .ok (p, ())) (A := ([] ++ eB 4336810746235415668 8)) (x := 62) (j := 1) (frM_TP hI.1 hc) (by decide) hr202) vL_Mo_340_Mo rfl rfl rfl rfl rfl rfl ⟨aw_le rfl, aw_le rfl⟩ (fun r210 h210 hp210 => ?_)
      obtain ⟨rfl, b210, q210, hr210, rfl⟩ := hp210
      rw [bp_ok, show mu T (([] ++ eB 4336810746235415668 8) ++ eB 62 1) p = mu T (tx 45) p from (congrArg (fun L => mu T L _) (show _ = tx 45 by decide))] at hr210
      cases hx213s : mu T (tx 45) p with
      | error u213s =>
        rw [hx213s] at hr210
        obtain ⟨hu213s, rfl, hb213s⟩ := hr210
        refine aw_goto (tgt := 83) (aw_d q_Mo_readTags 99 rfl) (by decide) ?_
        exact AW.to (xi_83 (KE u213s (he.trans (by simp only [xb_eq, bd_ok, bd_er, and_self, if_true, if_false, ↓reduceIte, c136, hx213s]))) hu213s hI.1 hb213s) rfl rfl rfl rfl
      | ok p213s =>
        rw [hx213s] at hr210
        obtain ⟨hbb213s, hp_213s, rfl⟩ := hr210
        have hbb213s : b210 = p213s := hbb213s
        subst hbb213s
        refine aw_goto (tgt := 83) (aw_d q_Mo_readTags 99 rfl) (by decide) ?_
        exact AW.to (KO b210 s D _ _ _ _ hp_213s hI (itOK_mono hs (by omega)) (he.trans (by simp only [xb_eq, bd_ok, bd_er, and_self, if_true, if_false, ↓reduceIte, c136, hx213s]))) rfl rfl rfl rfl
    · refine aw_aload_n (aw_d q_Mo_readTags 63 rfl) rfl rfl rfl ?_
      refine aw_ldc2 (aw_d q_Mo_readTags 64 rfl) lL_Mo_234 ?_
      refine aw_bipush (v := nI 8) (aw_d q_Mo_readTags 65 rfl) (by decide) ?_
      refine cV (aw_d q_Mo_readTags 66 rfl) (sp_Umust (res := .ok (p, ())) (A := []) (x := 4351156112845270631) (j := 8) (frM_TP hI.1 hc) (by decide) (RR_su (T := T) hp)) vL_Mo_340_Mo rfl rfl rfl rfl rfl rfl ⟨aw_le rfl, aw_le rfl⟩ (fun r145 h145 hp145 => ?_)
      obtain ⟨rfl, b145, q145, hr145, rfl⟩ := hp145
      refine aw_aload_n (aw_d q_Mo_readTags 67 rfl) rfl rfl rfl ?_
      refine aw_ldc2 (aw_d q_Mo_readTags 68 rfl) lL_Mo_236 ?_
      refine aw_bipush (v := nI 7) (aw_d q_Mo_readTags 69 rfl) (by decide) ?_
      refine cV (aw_d q_Mo_readTags 70 rfl) (sp_Umust (res := .ok (p, ())) (A := ([] ++ eB 4351156112845270631 8)) (x := 9128563980975394) (j := 7) (frM_TP hI.1 hc) (by decide) hr145) vL_Mo_340_Mo rfl rfl rfl rfl rfl rfl ⟨aw_le rfl, aw_le rfl⟩ (fun r154 h154 hp154 => ?_)
      obtain ⟨rfl, b154, q154, hr154, rfl⟩ := hp154
      rw [bp_ok, show mu T (([] ++ eB 4351156112845270631 8) ++ eB 9128563980975394 7) p = mu T (tx 30) p from (congrArg (fun L => mu T L _) (show _ = tx 30 by decide))] at hr154
      cases hx157s : mu T (tx 30) p with
      | error u157s =>
        rw [hx157s] at hr154
        obtain ⟨hu157s, rfl, hb157s⟩ := hr154
        refine aw_aload_n (aw_d q_Mo_readTags 71 rfl) rfl rfl rfl ?_
        refine aw_iload_n (aw_d q_Mo_readTags 72 rfl) rfl rfl ?_
        refine cVr (aw_d q_Mo_readTags 73 rfl) (sp_rowNI hu157s hb157s) vL_Mo_404_Mo rfl rfl rfl rfl rfl rfl ⟨aw_le rfl, aw_le rfl⟩ ?_
        refine aw_istore_n (aw_d q_Mo_readTags 74 rfl) rfl (aw_le rfl) rfl ?_
        refine aw_aload_n (aw_d q_Mo_readTags 75 rfl) rfl rfl rfl ?_
        refine aw_ldc2 (aw_d q_Mo_readTags 76 rfl) lL_Mo_238 ?_
        refine aw_iconst (v := nI 2) (aw_d q_Mo_readTags 77 rfl) (by decide) ?_
        refine cVv (aw_d q_Mo_readTags 78 rfl) (sp_mustI hu157s (by decide)) vL_Mo_340_Mo rfl rfl rfl rfl rfl rfl ⟨aw_le rfl, aw_le rfl⟩ ?_
        refine aw_aload_n (aw_d q_Mo_readTags 79 rfl) rfl rfl rfl ?_
        refine aw_iload_n (aw_d q_Mo_readTags 80 rfl) rfl rfl ?_
        refine cV (aw_d q_Mo_readTags 81 rfl) (sp_valTI hu157s hb157s (frM_TP hI.1 hc)) vL_Mo_437_Mo rfl rfl rfl rfl rfl rfl ⟨aw_le rfl, aw_le rfl⟩ (fun r173 h173 hp173 => ?_)
        obtain ⟨rfl, f173, z173, X173, rfl⟩ := hp173
        refine aw_aload_n (aw_d q_Mo_readTags 82 rfl) rfl rfl rfl ?_
        refine aw_ldc2 (aw_d q_Mo_readTags 83 rfl) lL_Mo_243 ?_
        refine aw_bipush (v := nI 8) (aw_d q_Mo_readTags 84 rfl) (by decide) ?_
        refine cVv (aw_d q_Mo_readTags 85 rfl) (sp_mustI hu157s (by decide)) vL_Mo_340_Mo rfl rfl rfl rfl rfl rfl ⟨aw_le rfl, aw_le rfl⟩ ?_
        refine aw_aload_n (aw_d q_Mo_readTags 86 rfl) rfl rfl rfl ?_
        refine aw_ldc2 (aw_d q_Mo_readTags 87 rfl) lL_Mo_245 ?_
        refine aw_iconst (v := nI 2) (aw_d q_Mo_readTags 88 rfl) (by decide) ?_
        refine cVv (aw_d q_Mo_readTags 89 rfl) (sp_mustI hu157s (by decide)) vL_Mo_340_Mo rfl rfl rfl rfl rfl rfl ⟨aw_le rfl, aw_le rfl⟩ ?_
        refine aw_goto (tgt := 125) (aw_d q_Mo_readTags 90 rfl) (by decide) ?_
        refine aw_aload_n (aw_d q_Mo_readTags 57 rfl) rfl rfl rfl ?_
        refine cVr (aw_d q_Mo_readTags 58 rfl) (sp_goesI hu157s) vL_Mo_327_Mo rfl rfl rfl rfl rfl rfl ⟨aw_le rfl, aw_le rfl⟩ ?_
        refine aw_ifN_eq (tgt := 196) (aw_d q_Mo_readTags 59 rfl) (by decide) (by omega) (fun c129 => ?_) (fun c129 => by exfalso; omega)
        refine aw_aload_n (aw_d q_Mo_readTags 91 rfl) rfl rfl rfl ?_
        refine aw_ldc2 (aw_d q_Mo_readTags 92 rfl) lL_Mo_247 ?_
        refine aw_bipush (v := nI 8) (aw_d q_Mo_readTags 93 rfl) (by decide) ?_
        refine cVv (aw_d q_Mo_readTags 94 rfl) (sp_mustI hu157s (by decide)) vL_Mo_340_Mo rfl rfl rfl rfl rfl rfl ⟨aw_le rfl, aw_le rfl⟩ ?_
        refine aw_aload_n (aw_d q_Mo_readTags 95 rfl) rfl rfl rfl ?_
        refine aw_ldc2 (aw_d q_Mo_readTags 96 rfl) lL_Mo_249 ?_
        refine aw_iconst (v := nI 1) (aw_d q_Mo_readTags 97 rfl) (by decide) ?_
        refine cVv (aw_d q_Mo_readTags 98 rfl) (sp_mustI hu157s (by decide)) vL_Mo_340_Mo rfl rfl rfl rfl rfl rfl ⟨aw_le rfl, aw_le rfl⟩ ?_
        refine aw_goto (tgt := 83) (aw_d q_Mo_readTags 99 rfl) (by decide) ?_
        exact AW.to (xi_83 (KE u157s (he.trans (by simp only [xb_eq, bd_ok, bd_er, and_self, if_true, if_false, ↓reduceIte, c136, hx157s]))) hu157s hI.1 hb157s) rfl rfl rfl rfl
      | ok p157s =>
        rw [hx157s] at hr154
        obtain ⟨hbb157s, hp_157s, rfl⟩ := hr154
        have hbb157s : b154 = p157s := hbb157s
        subst hbb157s
        refine aw_aload_n (aw_d q_Mo_readTags 71 rfl) rfl rfl rfl ?_
        refine aw_iload_n (aw_d q_Mo_readTags 72 rfl) rfl rfl ?_
        refine cV (aw_d q_Mo_readTags 73 rfl) (sp_rowNA hI hc hp_157s (lo := lo) hx2) vL_Mo_404_Mo rfl rfl rfl rfl rfl rfl ⟨aw_le rfl, aw_le rfl⟩ (fun r159 h159 hp159 => ?_)
        cases hx159 : rn T n N lo b154 with
        | error u159 =>
          rw [hx159] at hp159
          obtain ⟨hue159, ⟨v159, rfl⟩, b159, hb159, rfl⟩ := hp159
          subst hue159
          refine aw_istore_n (aw_d q_Mo_readTags 74 rfl) rfl (aw_le rfl) rfl ?_
          refine aw_aload_n (aw_d q_Mo_readTags 75 rfl) rfl rfl rfl ?_
          refine aw_ldc2 (aw_d q_Mo_readTags 76 rfl) lL_Mo_238 ?_
          refine aw_iconst (v := nI 2) (aw_d q_Mo_readTags 77 rfl) (by decide) ?_
          refine cVv (aw_d q_Mo_readTags 78 rfl) (sp_mustI (show u159 ≤ 3000 by have := hc.2.1; have := hp_157s; omega) (by decide)) vL_Mo_340_Mo rfl rfl rfl rfl rfl rfl ⟨aw_le rfl, aw_le rfl⟩ ?_
          refine aw_aload_n (aw_d q_Mo_readTags 79 rfl) rfl rfl rfl ?_
          refine aw_iload_n (aw_d q_Mo_readTags 80 rfl) rfl rfl ?_
          refine cV (aw_d q_Mo_readTags 81 rfl) (sp_valTI (show u159 ≤ 3000 by have := hc.2.1; have := hp_157s; omega) (show b159 ≤ 3010 by have := hc.2.1; omega) (frM_TP hI.1 hc)) vL_Mo_437_Mo rfl rfl rfl rfl rfl rfl ⟨aw_le rfl, aw_le rfl⟩ (fun r173 h173 hp173 => ?_)
          obtain ⟨rfl, f173, z173, X173, rfl⟩ := hp173
          refine aw_aload_n (aw_d q_Mo_readTags 82 rfl) rfl rfl rfl ?_
          refine aw_ldc2 (aw_d q_Mo_readTags 83 rfl) lL_Mo_243 ?_
          refine aw_bipush (v := nI 8) (aw_d q_Mo_readTags 84 rfl) (by decide) ?_
          refine cVv (aw_d q_Mo_readTags 85 rfl) (sp_mustI (show u159 ≤ 3000 by have := hc.2.1; have := hp_157s; omega) (by decide)) vL_Mo_340_Mo rfl rfl rfl rfl rfl rfl ⟨aw_le rfl, aw_le rfl⟩ ?_
          refine aw_aload_n (aw_d q_Mo_readTags 86 rfl) rfl rfl rfl ?_
          refine aw_ldc2 (aw_d q_Mo_readTags 87 rfl) lL_Mo_245 ?_
          refine aw_iconst (v := nI 2) (aw_d q_Mo_readTags 88 rfl) (by decide) ?_
          refine cVv (aw_d q_Mo_readTags 89 rfl) (sp_mustI (show u159 ≤ 3000 by have := hc.2.1; have := hp_157s; omega) (by decide)) vL_Mo_340_Mo rfl rfl rfl rfl rfl rfl ⟨aw_le rfl, aw_le rfl⟩ ?_
          refine aw_goto (tgt := 125) (aw_d q_Mo_readTags 90 rfl) (by decide) ?_
          refine aw_aload_n (aw_d q_Mo_readTags 57 rfl) rfl rfl rfl ?_
          refine cVr (aw_d q_Mo_readTags 58 rfl) (sp_goesI (show u159 ≤ 3000 by have := hc.2.1; have := hp_157s; omega)) vL_Mo_327_Mo rfl rfl rfl rfl rfl rfl ⟨aw_le rfl, aw_le rfl⟩ ?_
          refine aw_ifN_eq (tgt := 196) (aw_d q_Mo_readTags 59 rfl) (by decide) (by omega) (fun c129 => ?_) (fun c129 => by exfalso; omega)
          refine aw_aload_n (aw_d q_Mo_readTags 91 rfl) rfl rfl rfl ?_
          refine aw_ldc2 (aw_d q_Mo_readTags 92 rfl) lL_Mo_247 ?_
          refine aw_bipush (v := nI 8) (aw_d q_Mo_readTags 93 rfl) (by decide) ?_
          refine cVv (aw_d q_Mo_readTags 94 rfl) (sp_mustI (show u159 ≤ 3000 by have := hc.2.1; have := hp_157s; omega) (by decide)) vL_Mo_340_Mo rfl rfl rfl rfl rfl rfl ⟨aw_le rfl, aw_le rfl⟩ ?_
          refine aw_aload_n (aw_d q_Mo_readTags 95 rfl) rfl rfl rfl ?_
          refine aw_ldc2 (aw_d q_Mo_readTags 96 rfl) lL_Mo_249 ?_
          refine aw_iconst (v := nI 1) (aw_d q_Mo_readTags 97 rfl) (by decide) ?_
          refine cVv (aw_d q_Mo_readTags 98 rfl) (sp_mustI (show u159 ≤ 3000 by have := hc.2.1; have := hp_157s; omega) (by decide)) vL_Mo_340_Mo rfl rfl rfl rfl rfl rfl ⟨aw_le rfl, aw_le rfl⟩ ?_
          refine aw_goto (tgt := 83) (aw_d q_Mo_readTags 99 rfl) (by decide) ?_
          exact AW.to (xi_83 (KE u159 (he.trans (by simp only [xb_eq, bd_ok, bd_er, and_self, if_true, if_false, ↓reduceIte, c136, hx157s, hx159]))) (show u159 ≤ 3000 by have := hc.2.1; have := hp_157s; omega) hI.1 (show b159 ≤ 3010 by have := hc.2.1; omega)) rfl rfl rfl rfl
        | ok y159 =>
          rw [hx159] at hp159
          obtain ⟨rfl, hv159, hlo159, hp_159, rfl⟩ := hp159
          refine aw_istore_n (aw_d q_Mo_readTags 74 rfl) rfl (aw_le rfl) rfl ?_
          refine aw_aload_n (aw_d q_Mo_readTags 75 rfl) rfl rfl rfl ?_
          refine aw_ldc2 (aw_d q_Mo_readTags 76 rfl) lL_Mo_238 ?_
          refine aw_iconst (v := nI 2) (aw_d q_Mo_readTags 77 rfl) (by decide) ?_
          refine cV (aw_d q_Mo_readTags 78 rfl) (sp_Umust (res := .ok (y159.1, ())) (A := []) (x := 8766) (j := 2) (frM_TP hI.1 hc) (by decide) (RR_su (T := T) hp_159)) vL_Mo_340_Mo rfl rfl rfl rfl rfl rfl ⟨aw_le rfl, aw_le rfl⟩ (fun r168 h168 hp168 => ?_)
          obtain ⟨rfl, b168, q168, hr168, rfl⟩ := hp168
          rw [bp_ok, show mu T ([] ++ eB 8766 2) y159.1 = mu T [34, 62] y159.1 from (congrArg (fun L => mu T L _) (show _ = [34, 62] by decide))] at hr168
          cases hx171s : mu T [34, 62] y159.1 with
          | error u171s =>
            rw [hx171s] at hr168
            obtain ⟨hu171s, rfl, hb171s⟩ := hr168
            refine aw_aload_n (aw_d q_Mo_readTags 79 rfl) rfl rfl rfl ?_
            refine aw_iload_n (aw_d q_Mo_readTags 80 rfl) rfl rfl ?_
            refine cV (aw_d q_Mo_readTags 81 rfl) (sp_valTI hu171s hb171s (frM_TP hI.1 hc)) vL_Mo_437_Mo rfl rfl rfl rfl rfl rfl ⟨aw_le rfl, aw_le rfl⟩ (fun r173 h173 hp173 => ?_)
            obtain ⟨rfl, f173, z173, X173, rfl⟩ := hp173
            refine aw_aload_n (aw_d q_Mo_readTags 82 rfl) rfl rfl rfl ?_
            refine aw_ldc2 (aw_d q_Mo_readTags 83 rfl) lL_Mo_243 ?_
            refine aw_bipush (v := nI 8) (aw_d q_Mo_readTags 84 rfl) (by decide) ?_
            refine cVv (aw_d q_Mo_readTags 85 rfl) (sp_mustI hu171s (by decide)) vL_Mo_340_Mo rfl rfl rfl rfl rfl rfl ⟨aw_le rfl, aw_le rfl⟩ ?_
            refine aw_aload_n (aw_d q_Mo_readTags 86 rfl) rfl rfl rfl ?_
            refine aw_ldc2 (aw_d q_Mo_readTags 87 rfl) lL_Mo_245 ?_
            refine aw_iconst (v := nI 2) (aw_d q_Mo_readTags 88 rfl) (by decide) ?_
            refine cVv (aw_d q_Mo_readTags 89 rfl) (sp_mustI hu171s (by decide)) vL_Mo_340_Mo rfl rfl rfl rfl rfl rfl ⟨aw_le rfl, aw_le rfl⟩ ?_
            refine aw_goto (tgt := 125) (aw_d q_Mo_readTags 90 rfl) (by decide) ?_
            refine aw_aload_n (aw_d q_Mo_readTags 57 rfl) rfl rfl rfl ?_
            refine cVr (aw_d q_Mo_readTags 58 rfl) (sp_goesI hu171s) vL_Mo_327_Mo rfl rfl rfl rfl rfl rfl ⟨aw_le rfl, aw_le rfl⟩ ?_
            refine aw_ifN_eq (tgt := 196) (aw_d q_Mo_readTags 59 rfl) (by decide) (by omega) (fun c129 => ?_) (fun c129 => by exfalso; omega)
            refine aw_aload_n (aw_d q_Mo_readTags 91 rfl) rfl rfl rfl ?_
            refine aw_ldc2 (aw_d q_Mo_readTags 92 rfl) lL_Mo_247 ?_
            refine aw_bipush (v := nI 8) (aw_d q_Mo_readTags 93 rfl) (by decide) ?_
            refine cVv (aw_d q_Mo_readTags 94 rfl) (sp_mustI hu171s (by decide)) vL_Mo_340_Mo rfl rfl rfl rfl rfl rfl ⟨aw_le rfl, aw_le rfl⟩ ?_
            refine aw_aload_n (aw_d q_Mo_readTags 95 rfl) rfl rfl rfl ?_
            refine aw_ldc2 (aw_d q_Mo_readTags 96 rfl) lL_Mo_249 ?_
            refine aw_iconst (v := nI 1) (aw_d q_Mo_readTags 97 rfl) (by decide) ?_
            refine cVv (aw_d q_Mo_readTags 98 rfl) (sp_mustI hu171s (by decide)) vL_Mo_340_Mo rfl rfl rfl rfl rfl rfl ⟨aw_le rfl, aw_le rfl⟩ ?_
            refine aw_goto (tgt := 83) (aw_d q_Mo_readTags 99 rfl) (by decide) ?_
            exact AW.to (xi_83 (KE u171s (he.trans (by simp only [xb_eq, bd_ok, bd_er, and_self, if_true, if_false, ↓reduceIte, c136, hx157s, hx159, hx171s]))) hu171s hI.1 hb171s) rfl rfl rfl rfl
          | ok p171s =>
            rw [hx171s] at hr168
            obtain ⟨hbb171s, hp_171s, rfl⟩ := hr168
            have hbb171s : b168 = p171s := hbb171s
            subst hbb171s
            refine aw_aload_n (aw_d q_Mo_readTags 79 rfl) rfl rfl rfl ?_
            refine aw_iload_n (aw_d q_Mo_readTags 80 rfl) rfl rfl ?_
            refine cV (aw_d q_Mo_readTags 81 rfl) (sp_valT (v := y159.2) hI (itOK_mono hs (by omega)) (by have := hI.2.1.2.1; omega) hc hp_171s) vL_Mo_437_Mo rfl rfl rfl rfl rfl rfl ⟨aw_le rfl, aw_le rfl⟩ (fun r173 h173 hp173 => ?_)
            obtain ⟨rfl, hp173⟩ := hp173
            cases hx173 : vtV T n b168 with
            | error u173 =>
              rw [hx173] at hp173
              obtain ⟨hu173, F173, b173, f173, z173, X173, hF173, hb173, rfl⟩ := hp173
              refine aw_aload_n (aw_d q_Mo_readTags 82 rfl) rfl rfl rfl ?_
              refine aw_ldc2 (aw_d q_Mo_readTags 83 rfl) lL_Mo_243 ?_
              refine aw_bipush (v := nI 8) (aw_d q_Mo_readTags 84 rfl) (by decide) ?_
              refine cVv (aw_d q_Mo_readTags 85 rfl) (sp_mustI hu173 (by decide)) vL_Mo_340_Mo rfl rfl rfl rfl rfl rfl ⟨aw_le rfl, aw_le rfl⟩ ?_
              refine aw_aload_n (aw_d q_Mo_readTags 86 rfl) rfl rfl rfl ?_
              refine aw_ldc2 (aw_d q_Mo_readTags 87 rfl) lL_Mo_245 ?_
              refine aw_iconst (v := nI 2) (aw_d q_Mo_readTags 88 rfl) (by decide) ?_
              refine cVv (aw_d q_Mo_readTags 89 rfl) (sp_mustI hu173 (by decide)) vL_Mo_340_Mo rfl rfl rfl rfl rfl rfl ⟨aw_le rfl, aw_le rfl⟩ ?_
              refine aw_goto (tgt := 125) (aw_d q_Mo_readTags 90 rfl) (by decide) ?_
              refine aw_aload_n (aw_d q_Mo_readTags 57 rfl) rfl rfl rfl ?_
              refine cVr (aw_d q_Mo_readTags 58 rfl) (sp_goesI hu173) vL_Mo_327_Mo rfl rfl rfl rfl rfl rfl ⟨aw_le rfl, aw_le rfl⟩ ?_
              refine aw_ifN_eq (tgt := 196) (aw_d q_Mo_readTags 59 rfl) (by decide) (by omega) (fun c129 => ?_) (fun c129 => by exfalso; omega)
              refine aw_aload_n (aw_d q_Mo_readTags 91 rfl) rfl rfl rfl ?_
              refine aw_ldc2 (aw_d q_Mo_readTags 92 rfl) lL_Mo_247 ?_
              refine aw_bipush (v := nI 8) (aw_d q_Mo_readTags 93 rfl) (by decide) ?_
              refine cVv (aw_d q_Mo_readTags 94 rfl) (sp_mustI hu173 (by decide)) vL_Mo_340_Mo rfl rfl rfl rfl rfl rfl ⟨aw_le rfl, aw_le rfl⟩ ?_
              refine aw_aload_n (aw_d q_Mo_readTags 95 rfl) rfl rfl rfl ?_
              refine aw_ldc2 (aw_d q_Mo_readTags 96 rfl) lL_Mo_249 ?_
              refine aw_iconst (v := nI 1) (aw_d q_Mo_readTags 97 rfl) (by decide) ?_
              refine cVv (aw_d q_Mo_readTags 98 rfl) (sp_mustI hu173 (by decide)) vL_Mo_340_Mo rfl rfl rfl rfl rfl rfl ⟨aw_le rfl, aw_le rfl⟩ ?_
              refine aw_goto (tgt := 83) (aw_d q_Mo_readTags 99 rfl) (by decide) ?_
              exact AW.to (xi_83 (KE u173 (he.trans (by simp only [xb_eq, bd_ok, bd_er, and_self, if_true, if_false, ↓reduceIte, c136, hx157s, hx159, hx171s, hx173]))) hu173 hF173 hb173) rfl rfl rfl rfl
            | ok y173 =>
              rw [hx173] at hp173
              obtain ⟨F173, f173, z173, X173, ⟨hI173, hw173⟩, hp_173, rfl⟩ := hp173
              have hs2173 := itOK_add (m := r * 6 + (y159.2 + 1)) hs hw173 (by show r * 6 + lo ≤ r * 6 + y159.2; omega) (by show r * 6 + y159.2 < r * 6 + (y159.2 + 1); omega)
              refine aw_aload_n (aw_d q_Mo_readTags 82 rfl) rfl rfl rfl ?_
              refine aw_ldc2 (aw_d q_Mo_readTags 83 rfl) lL_Mo_243 ?_
              refine aw_bipush (v := nI 8) (aw_d q_Mo_readTags 84 rfl) (by decide) ?_
              refine cV (aw_d q_Mo_readTags 85 rfl) (sp_Umust (res := .ok (y173.1, ())) (A := []) (x := 4336793171144239470) (j := 8) (frM_TP hI173.1 hc) (by decide) (RR_su (T := T) hp_173)) vL_Mo_340_Mo rfl rfl rfl rfl rfl rfl ⟨aw_le rfl, aw_le rfl⟩ (fun r182 h182 hp182 => ?_)
              obtain ⟨rfl, b182, q182, hr182, rfl⟩ := hp182
              refine aw_aload_n (aw_d q_Mo_readTags 86 rfl) rfl rfl rfl ?_
              refine aw_ldc2 (aw_d q_Mo_readTags 87 rfl) lL_Mo_245 ?_
              refine aw_iconst (v := nI 2) (aw_d q_Mo_readTags 88 rfl) (by decide) ?_
              refine cV (aw_d q_Mo_readTags 89 rfl) (sp_Umust (res := .ok (y173.1, ())) (A := ([] ++ eB 4336793171144239470 8)) (x := 26430) (j := 2) (frM_TP hI173.1 hc) (by decide) hr182) vL_Mo_340_Mo rfl rfl rfl rfl rfl rfl ⟨aw_le rfl, aw_le rfl⟩ (fun r190 h190 hp190 => ?_)
              obtain ⟨rfl, b190, q190, hr190, rfl⟩ := hp190
              rw [bp_ok, show mu T (([] ++ eB 4336793171144239470 8) ++ eB 26430 2) y173.1 = mu T (tx 44) y173.1 from (congrArg (fun L => mu T L _) (show _ = tx 44 by decide))] at hr190
              cases hx193s : mu T (tx 44) y173.1 with
              | error u193s =>
                rw [hx193s] at hr190
                obtain ⟨hu193s, rfl, hb193s⟩ := hr190
                refine aw_goto (tgt := 125) (aw_d q_Mo_readTags 90 rfl) (by decide) ?_
                refine aw_aload_n (aw_d q_Mo_readTags 57 rfl) rfl rfl rfl ?_
                refine cVr (aw_d q_Mo_readTags 58 rfl) (sp_goesI hu193s) vL_Mo_327_Mo rfl rfl rfl rfl rfl rfl ⟨aw_le rfl, aw_le rfl⟩ ?_
                refine aw_ifN_eq (tgt := 196) (aw_d q_Mo_readTags 59 rfl) (by decide) (by omega) (fun c129 => ?_) (fun c129 => by exfalso; omega)
                refine aw_aload_n (aw_d q_Mo_readTags 91 rfl) rfl rfl rfl ?_
                refine aw_ldc2 (aw_d q_Mo_readTags 92 rfl) lL_Mo_247 ?_
                refine aw_bipush (v := nI 8) (aw_d q_Mo_readTags 93 rfl) (by decide) ?_
                refine cVv (aw_d q_Mo_readTags 94 rfl) (sp_mustI hu193s (by decide)) vL_Mo_340_Mo rfl rfl rfl rfl rfl rfl ⟨aw_le rfl, aw_le rfl⟩ ?_
                refine aw_aload_n (aw_d q_Mo_readTags 95 rfl) rfl rfl rfl ?_
                refine aw_ldc2 (aw_d q_Mo_readTags 96 rfl) lL_Mo_249 ?_
                refine aw_iconst (v := nI 1) (aw_d q_Mo_readTags 97 rfl) (by decide) ?_
                refine cVv (aw_d q_Mo_readTags 98 rfl) (sp_mustI hu193s (by decide)) vL_Mo_340_Mo rfl rfl rfl rfl rfl rfl ⟨aw_le rfl, aw_le rfl⟩ ?_
                refine aw_goto (tgt := 83) (aw_d q_Mo_readTags 99 rfl) (by decide) ?_
                exact AW.to (xi_83 (KE u193s (he.trans (by simp only [xb_eq, bd_ok, bd_er, and_self, if_true, if_false, ↓reduceIte, c136, hx157s, hx159, hx171s, hx173, hx193s]))) hu193s hI173.1 hb193s) rfl rfl rfl rfl
              | ok p193s =>
                rw [hx193s] at hr190
                obtain ⟨hbb193s, hp_193s, rfl⟩ := hr190
                have hbb193s : b190 = p193s := hbb193s
                subst hbb193s
                refine aw_goto (tgt := 125) (aw_d q_Mo_readTags 90 rfl) (by decide) ?_
                exact AW.to (ih b190 (y159.2 + 1) _ F173 _ _ _ _ (by omega) hp_193s (by rw [nI_toInt (by have := hI.2.1.2.1; omega)]; omega) (by have := hI.2.1.2.1; omega) hI173 hs2173 (he.trans (by simp only [xb_eq, bd_ok, bd_er, and_self, if_true, if_false, ↓reduceIte, c136, hx157s, hx159, hx171s, hx173, hx193s]))) rfl rfl rfl rfl
set_option maxRecDepth 20000 in
theorem lp_xr {g : aw_G} {S : aw_S} {n : Nat} {T : Nat → Int32} (hc : TPm S n T) {N : nm_T} {res : Except Nat (Nat × rd_T)} : ∀ (m p r : Nat) (s : sq_T) (D : aw_S) (f z : Int32) (X : Nat → Int32) (x1 : Option Value), 25 ≤ m + r → p ≤ n → imC S N r s D → itOK s (r * 6) → res = bd (xs T n N m p r s) (fun z => xtV T n z.1 N z.2.1 z.2.2) → AW g M_Mo_readTags (aw_rm 5 113 0 0) (aw_F g 0 0 (rpM S n (res))) 83 [some (.ref 33), x1] [] (HP (QM D (nI p) (-1) f z X)) 0 0 := by
  have hc2 := hc.2.1
  intro m
  induction m with
  | zero => intro p r s D f z X x1 hk hp hI hs he; have := hI.2.2.2.1.2; exfalso; omega
  | succ m ih =>
    intro p r s D f z X x1 hk hp hI hs he
    refine aw_aload_n (aw_d q_Mo_readTags 37 rfl) rfl rfl rfl ?_
    refine cVr (aw_d q_Mo_readTags 38 rfl) (sp_goesA) vL_Mo_327_Mo rfl rfl rfl rfl rfl rfl ⟨aw_le rfl, aw_le rfl⟩ ?_
    refine aw_ifN_eq (tgt := 216) (aw_d q_Mo_readTags 39 rfl) (by decide) (by (have hc2 := hc.2.1; omega)) (fun c87 => by exfalso; (have hc2 := hc.2.1; omega)) (fun c87 => ?_)
    refine aw_aload_n (aw_d q_Mo_readTags 40 rfl) rfl rfl rfl ?_
    refine cVr (aw_d q_Mo_readTags 41 rfl) (sp_mclos (frM_TP hI.1 hc) (b := p) (by have := hc.2.1; have := hp; omega)) vL_Mo_434_Mo rfl rfl rfl rfl rfl rfl ⟨aw_le rfl, aw_le rfl⟩ ?_
    refine aw_ifB_ne (tgt := 216) (aw_d q_Mo_readTags 42 rfl) (by decide) (fun c94 => ?_) (fun c94 => ?_)
    · rw [show res = xtV T n p N r s from he.trans (by rw [xs, if_pos c94]; rfl)]
      exact AW.to (xt_tail hc p r s N D _ _ _ _ hp hI hs) rfl rfl rfl rfl
    · refine aw_aload_n (aw_d q_Mo_readTags 43 rfl) rfl rfl rfl ?_
      refine cVr (aw_d q_Mo_readTags 44 rfl) (sp_peek (frM_TP hI.1 hc) (b := p) (by have := hc.2.1; omega)) vL_Mo_331_Mo rfl rfl rfl rfl rfl rfl ⟨aw_le rfl, aw_le rfl⟩ ?_
      refine aw_bipush (v := nI 60) (aw_d q_Mo_readTags 45 rfl) (by decide) ?_
      refine aw_icmpI_ne (tgt := 114) (aw_d q_Mo_readTags 46 rfl) (by decide) (by (have hc2 := hc.2.1; omega)) (fun c103 => ?_) (fun c103 => ?_)
      · refine aw_aload_n (aw_d q_Mo_readTags 51 rfl) rfl rfl rfl ?_
        refine aw_ldc2 (aw_d q_Mo_readTags 52 rfl) lL_Mo_232 ?_
        refine aw_bipush (v := nI 8) (aw_d q_Mo_readTags 53 rfl) (by decide) ?_
        refine cV (aw_d q_Mo_readTags 54 rfl) (sp_mmust (res := .ok (p, ())) (x := 4355655336186377278) (j := 8) (frM_TP hI.1 hc) (by decide) (RR_ok rfl hp rfl)) vL_Mo_340_Mo rfl rfl rfl rfl rfl rfl ⟨aw_le rfl, aw_le rfl⟩ (fun r120 h120 hp120 => ?_)
        obtain ⟨rfl, b120, q120, hr120, rfl⟩ := hp120
        rw [bp_ok, show mu T (eB 4355655336186377278 8) p = .error p from (show eB 4355655336186377278 8 = tx 29 by decide) ▸ mu29 (by omega)] at hr120
        obtain ⟨-, rfl, hb120⟩ := hr120
        refine aw_iconst (v := (-1)) (aw_d q_Mo_readTags 55 rfl) (by decide) ?_
        refine aw_istore_n (aw_d q_Mo_readTags 56 rfl) rfl (aw_le rfl) rfl ?_
        refine aw_aload_n (aw_d q_Mo_readTags 57 rfl) rfl rfl rfl ?_
        refine cVr (aw_d q_Mo_readTags 58 rfl) (sp_goesI (show p ≤ 3000 by have := hc.2.1; omega)) vL_Mo_327_Mo rfl rfl rfl rfl rfl rfl ⟨aw_le rfl, aw_le rfl⟩ ?_
        refine aw_ifN_eq (tgt := 196) (aw_d q_Mo_readTags 59 rfl) (by decide) (by omega) (fun c129 => ?_) (fun c129 => by exfalso; omega)
        refine aw_aload_n (aw_d q_Mo_readTags 91 rfl) rfl rfl rfl ?_
        refine aw_ldc2 (aw_d q_Mo_readTags 92 rfl) lL_Mo_247 ?_
        refine aw_bipush (v := nI 8) (aw_d q_Mo_readTags 93 rfl) (by decide) ?_
        refine cVv (aw_d q_Mo_readTags 94 rfl) (sp_mustI (show p ≤ 3000 by have := hc.2.1; omega) (by decide)) vL_Mo_340_Mo rfl rfl rfl rfl rfl rfl ⟨aw_le rfl, aw_le rfl⟩ ?_
        refine aw_aload_n (aw_d q_Mo_readTags 95 rfl) rfl rfl rfl ?_
        refine aw_ldc2 (aw_d q_Mo_readTags 96 rfl) lL_Mo_249 ?_
        refine aw_iconst (v := nI 1) (aw_d q_Mo_readTags 97 rfl) (by decide) ?_
        refine cVv (aw_d q_Mo_readTags 98 rfl) (sp_mustI (show p ≤ 3000 by have := hc.2.1; omega) (by decide)) vL_Mo_340_Mo rfl rfl rfl rfl rfl rfl ⟨aw_le rfl, aw_le rfl⟩ ?_
        refine aw_goto (tgt := 83) (aw_d q_Mo_readTags 99 rfl) (by decide) ?_
        exact AW.to (xi_83 (he.trans (by rw [xs, if_neg c94]; by_cases q24 : r < 24; (rw [if_pos q24, mu29 (by omega)]; rfl); (rw [if_neg q24]; rfl))) (show p ≤ 3000 by have := hc.2.1; omega) hI.1 hb120) rfl rfl rfl rfl
      · refine aw_aload_n (aw_d q_Mo_readTags 47 rfl) rfl rfl rfl ?_
        refine aw_aload_n (aw_d q_Mo_readTags 48 rfl) rfl rfl rfl ?_
        refine aw_getf (v := .int (nI (p))) (aw_d q_Mo_readTags 49 rfl) fL_Mo_324_Mo rfl (gk rfl) ?_
        refine cV (aw_d q_Mo_readTags 50 rfl) (sp_begA (R := r) hI hs (by rw [nI_toInt (by have := hc.2.1; omega)]; omega)) vL_Mo_395_Mo rfl rfl rfl rfl rfl rfl ⟨aw_le rfl, aw_le rfl⟩ (fun r111 h111 hp111 => ?_)
        obtain ⟨rfl, hp111⟩ := hp111
        rcases hp111 with ⟨hr111, F111, hI111, rfl⟩ | ⟨hr111, rfl⟩
        · skip -- room
          refine aw_aload_n (aw_d q_Mo_readTags 51 rfl) rfl rfl rfl ?_
          refine aw_ldc2 (aw_d q_Mo_readTags 52 rfl) lL_Mo_232 ?_
          refine aw_bipush (v := nI 8) (aw_d q_Mo_readTags 53 rfl) (by decide) ?_
          refine cV (aw_d q_Mo_readTags 54 rfl) (sp_Umust (res := .ok (p, ())) (A := []) (x := 4355655336186377278) (j := 8) (frM_TP hI111.1 hc) (by decide) (RR_su (T := T) hp)) vL_Mo_340_Mo rfl rfl rfl rfl rfl rfl ⟨aw_le rfl, aw_le rfl⟩ (fun r120 h120 hp120 => ?_)
          obtain ⟨rfl, b120, q120, hr120, rfl⟩ := hp120
          rw [bp_ok, show mu T ([] ++ eB 4355655336186377278 8) p = mu T (tx 29) p from (congrArg (fun L => mu T L _) (show _ = tx 29 by decide))] at hr120
          cases hx123s : mu T (tx 29) p with
          | error u123s =>
            rw [hx123s] at hr120
            obtain ⟨hu123s, rfl, hb123s⟩ := hr120
            refine aw_iconst (v := (-1)) (aw_d q_Mo_readTags 55 rfl) (by decide) ?_
            refine aw_istore_n (aw_d q_Mo_readTags 56 rfl) rfl (aw_le rfl) rfl ?_
            refine aw_aload_n (aw_d q_Mo_readTags 57 rfl) rfl rfl rfl ?_
            refine cVr (aw_d q_Mo_readTags 58 rfl) (sp_goesI hu123s) vL_Mo_327_Mo rfl rfl rfl rfl rfl rfl ⟨aw_le rfl, aw_le rfl⟩ ?_
            refine aw_ifN_eq (tgt := 196) (aw_d q_Mo_readTags 59 rfl) (by decide) (by omega) (fun c129 => ?_) (fun c129 => by exfalso; omega)
            refine aw_aload_n (aw_d q_Mo_readTags 91 rfl) rfl rfl rfl ?_
            refine aw_ldc2 (aw_d q_Mo_readTags 92 rfl) lL_Mo_247 ?_
            refine aw_bipush (v := nI 8) (aw_d q_Mo_readTags 93 rfl) (by decide) ?_
            refine cVv (aw_d q_Mo_readTags 94 rfl) (sp_mustI hu123s (by decide)) vL_Mo_340_Mo rfl rfl rfl rfl rfl rfl ⟨aw_le rfl, aw_le rfl⟩ ?_
            refine aw_aload_n (aw_d q_Mo_readTags 95 rfl) rfl rfl rfl ?_
            refine aw_ldc2 (aw_d q_Mo_readTags 96 rfl) lL_Mo_249 ?_
            refine aw_iconst (v := nI 1) (aw_d q_Mo_readTags 97 rfl) (by decide) ?_
            refine cVv (aw_d q_Mo_readTags 98 rfl) (sp_mustI hu123s (by decide)) vL_Mo_340_Mo rfl rfl rfl rfl rfl rfl ⟨aw_le rfl, aw_le rfl⟩ ?_
            refine aw_goto (tgt := 83) (aw_d q_Mo_readTags 99 rfl) (by decide) ?_
            exact AW.to (xi_83 (he.trans (by rw [xs, if_neg c94, if_pos hr111, hx123s]; rfl)) hu123s hI111.1 hb123s) rfl rfl rfl rfl
          | ok p123s =>
            rw [hx123s] at hr120
            obtain ⟨hbb123s, hp_123s, rfl⟩ := hr120
            have hbb123s : b120 = p123s := hbb123s
            subst hbb123s
            refine aw_iconst (v := (-1)) (aw_d q_Mo_readTags 55 rfl) (by decide) ?_
            refine aw_istore_n (aw_d q_Mo_readTags 56 rfl) rfl (aw_le rfl) rfl ?_
            have hv : res = bd (bd (xb T n N r 7 b120 0 s) (fun y => xs T n N m y.1 (r + 1) y.2)) (fun z => xtV T n z.1 N z.2.1 z.2.2) := he.trans (by rw [xs, if_neg c94, if_pos hr111, hx123s, bd_ok])
            exact AW.to (lp_xi hc (XB := xb T n N r 7 b120 0 s) (fun p s1 D f z X x1 hp1 hI1 hs1 hx1 => ih p (r + 1) s1 D f z X x1 (by omega) hp1 hI1 (itOK_mono hs1 (by omega)) (hv.trans (by rw [hx1, bd_ok]))) (fun u hx1 => hv.trans (by rw [hx1]; rfl)) 7 b120 0 s F111 _ _ _ _ (by omega) hp_123s (by decide) (by omega) hI111 hs rfl) rfl rfl rfl rfl
        · skip -- full
          refine aw_aload_n (aw_d q_Mo_readTags 51 rfl) rfl rfl rfl ?_
          refine aw_ldc2 (aw_d q_Mo_readTags 52 rfl) lL_Mo_232 ?_
          refine aw_bipush (v := nI 8) (aw_d q_Mo_readTags 53 rfl) (by decide) ?_
          refine cVv (aw_d q_Mo_readTags 54 rfl) (sp_mustI (show p ≤ 3000 by have := hc.2.1; omega) (by decide)) vL_Mo_340_Mo rfl rfl rfl rfl rfl rfl ⟨aw_le rfl, aw_le rfl⟩ ?_
          refine aw_iconst (v := (-1)) (aw_d q_Mo_readTags 55 rfl) (by decide) ?_
          refine aw_istore_n (aw_d q_Mo_readTags 56 rfl) rfl (aw_le rfl) rfl ?_
          refine aw_aload_n (aw_d q_Mo_readTags 57 rfl) rfl rfl rfl ?_
          refine cVr (aw_d q_Mo_readTags 58 rfl) (sp_goesI (show p ≤ 3000 by have := hc.2.1; omega)) vL_Mo_327_Mo rfl rfl rfl rfl rfl rfl ⟨aw_le rfl, aw_le rfl⟩ ?_
          refine aw_ifN_eq (tgt := 196) (aw_d q_Mo_readTags 59 rfl) (by decide) (by omega) (fun c129 => ?_) (fun c129 => by exfalso; omega)
          refine aw_aload_n (aw_d q_Mo_readTags 91 rfl) rfl rfl rfl ?_
          refine aw_ldc2 (aw_d q_Mo_readTags 92 rfl) lL_Mo_247 ?_
          refine aw_bipush (v := nI 8) (aw_d q_Mo_readTags 93 rfl) (by decide) ?_
          refine cVv (aw_d q_Mo_readTags 94 rfl) (sp_mustI (show p ≤ 3000 by have := hc.2.1; omega) (by decide)) vL_Mo_340_Mo rfl rfl rfl rfl rfl rfl ⟨aw_le rfl, aw_le rfl⟩ ?_
          refine aw_aload_n (aw_d q_Mo_readTags 95 rfl) rfl rfl rfl ?_
          refine aw_ldc2 (aw_d q_Mo_readTags 96 rfl) lL_Mo_249 ?_
          refine aw_iconst (v := nI 1) (aw_d q_Mo_readTags 97 rfl) (by decide) ?_
          refine cVv (aw_d q_Mo_readTags 98 rfl) (sp_mustI (show p ≤ 3000 by have := hc.2.1; omega) (by decide)) vL_Mo_340_Mo rfl rfl rfl rfl rfl rfl ⟨aw_le rfl, aw_le rfl⟩ ?_
          refine aw_goto (tgt := 83) (aw_d q_Mo_readTags 99 rfl) (by decide) ?_
          exact AW.to (xi_83 (he.trans (by rw [xs, if_neg c94, if_neg (by omega)]; rfl)) (show p ≤ 3000 by have := hc.2.1; omega) hI.1 (show p ≤ 3010 by have := hc.2.1; omega)) rfl rfl rfl rfl
def xmV (T : Nat → Int32) (n p : Nat) (N : nm_T) : Except Nat (Nat × rd_T) := bd (mu T (tx 28) p) (fun p => bd (xs T n N 25 p 0 []) (fun z => xtV T n z.1 N z.2.1 z.2.2))
def rXp (T : Nat → Int32) (n : Nat) (N : nm_T) : Except Nat (Nat × rd_T) := bd (mu T (tx 25) 0) (fun p => bd (xk T n 7 p N) (fun y => xmV T n y.1 y.2))
theorem rXp_X {T : Nat → Int32} {n : Nat} {N : nm_T} : rdX T n N = bd (rXp T n N) (fun y => .ok y.2) := by simp only [rXp, xmV, xtV, rdX, bd_bd, bd_ok]
set_option maxRecDepth 20000 in
theorem xt_mid {g : aw_G} {S : aw_S} {n : Nat} {T : Nat → Int32} (hc : TPm S n T)  : ∀ (p : Nat) (N : nm_T) (D : aw_S) (f z : Int32) (X : Nat → Int32) (x1 : Option Value), p ≤ n → imC S N 0 [] D → AW g M_Mo_readTags (aw_rm 5 113 0 0) (aw_F g 0 0 (rpM S n (xmV T n p N))) 65 [some (.ref 33), x1] [] (HP (QM D (nI p) (-1) f z X)) 0 0 := by
  have hc2 := hc.2.1
  intro p N D f z X x1 hp hI
  refine aw_aload_n (aw_d q_Mo_readTags 29 rfl) rfl rfl rfl ?_
  refine aw_ldc2 (aw_d q_Mo_readTags 30 rfl) lL_Mo_228 ?_
  refine aw_bipush (v := nI 8) (aw_d q_Mo_readTags 31 rfl) (by decide) ?_
  refine cV (aw_d q_Mo_readTags 32 rfl) (sp_Umust (res := .ok (p, ())) (A := []) (x := 4336799750816022076) (j := 8) (frM_TP hI.1 hc) (by decide) (RR_su (T := T) hp)) vL_Mo_340_Mo rfl rfl rfl rfl rfl rfl ⟨aw_le rfl, aw_le rfl⟩ (fun r71 h71 hp71 => ?_)
  obtain ⟨rfl, b71, q71, hr71, rfl⟩ := hp71
  refine aw_aload_n (aw_d q_Mo_readTags 33 rfl) rfl rfl rfl ?_
  refine aw_ldc2 (aw_d q_Mo_readTags 34 rfl) lL_Mo_230 ?_
  refine aw_bipush (v := nI 8) (aw_d q_Mo_readTags 35 rfl) (by decide) ?_
  refine cV (aw_d q_Mo_readTags 36 rfl) (sp_Umust (res := .ok (p, ())) (A := ([] ++ eB 4336799750816022076 8)) (x := 8243121641139499838) (j := 8) (frM_TP hI.1 hc) (by decide) hr71) vL_Mo_340_Mo rfl rfl rfl rfl rfl rfl ⟨aw_le rfl, aw_le rfl⟩ (fun r80 h80 hp80 => ?_)
  obtain ⟨rfl, b80, q80, hr80, rfl⟩ := hp80
  rw [bp_ok, show mu T (([] ++ eB 4336799750816022076 8) ++ eB 8243121641139499838 8) p = mu T (tx 28) p from (congrArg (fun L => mu T L _) (show _ = tx 28 by decide))] at hr80
  cases hxQ : mu T (tx 28) p with
  | error uQ =>
    rw [hxQ] at hr80
    obtain ⟨huQ, rfl, hbQ⟩ := hr80
    exact AW.to (xi_83 (by rw [xmV, hxQ, bd_er]) huQ hI.1 hbQ) rfl rfl rfl rfl
  | ok pQ =>
    rw [hxQ] at hr80
    obtain ⟨hbbQ, hp_Q, rfl⟩ := hr80
    have hbbQ : b80 = pQ := hbbQ
    subst hbbQ
    exact AW.to (lp_xr hc 25 b80 0 [] D _ _ _ _ (by omega) hp_Q hI itOK_nil (by rw [xmV, hxQ, bd_ok])) rfl rfl rfl rfl
set_option maxRecDepth 20000 in
theorem lp_xnm {g : aw_G} {S : aw_S} {n : Nat} {T : Nat → Int32} (hc : TPm S n T) {res : Except Nat (Nat × rd_T)} : ∀ (m p : Nat) (N : nm_T) (D : aw_S) (f z : Int32) (X : Nat → Int32) (x1 : Option Value), 7 ≤ m + N.1 → p ≤ n → imC S N 0 [] D → res = bd (xk T n m p N) (fun y => xmV T n y.1 y.2) → AW g M_Mo_readTags (aw_rm 5 113 0 0) (aw_F g 0 0 (rpM S n (res))) 18 [some (.ref 33), x1] [] (HP (QM D (nI p) (-1) f z X)) 0 0 := by
  have hc2 := hc.2.1
  intro m
  induction m with
  | zero => intro p N D f z X x1 hk hp hI he; have := hI.2.1.2.1; exfalso; omega
  | succ m ih =>
    intro p N D f z X x1 hk hp hI he
    refine aw_aload_n (aw_d q_Mo_readTags 8 rfl) rfl rfl rfl ?_
    refine cVr (aw_d q_Mo_readTags 9 rfl) (sp_goesA) vL_Mo_327_Mo rfl rfl rfl rfl rfl rfl ⟨aw_le rfl, aw_le rfl⟩ ?_
    refine aw_ifN_eq (tgt := 65) (aw_d q_Mo_readTags 10 rfl) (by decide) (by (have hc2 := hc.2.1; omega)) (fun c22 => by exfalso; (have hc2 := hc.2.1; omega)) (fun c22 => ?_)
    refine aw_aload_n (aw_d q_Mo_readTags 11 rfl) rfl rfl rfl ?_
    refine cVr (aw_d q_Mo_readTags 12 rfl) (sp_mclos (frM_TP hI.1 hc) (b := p) (by have := hc.2.1; have := hp; omega)) vL_Mo_434_Mo rfl rfl rfl rfl rfl rfl ⟨aw_le rfl, aw_le rfl⟩ ?_
    refine aw_ifB_ne (tgt := 65) (aw_d q_Mo_readTags 13 rfl) (by decide) (fun c29 => ?_) (fun c29 => ?_)
    · rw [show res = xmV T n p N from he.trans (by rw [xk, if_pos c29, bd_ok])]
      exact AW.to (xt_mid hc p N D _ _ _ _ hp hI) rfl rfl rfl rfl
    · refine aw_aload_n (aw_d q_Mo_readTags 14 rfl) rfl rfl rfl ?_
      refine aw_ldc2 (aw_d q_Mo_readTags 15 rfl) lL_Mo_222 ?_
      refine aw_bipush (v := nI 8) (aw_d q_Mo_readTags 16 rfl) (by decide) ?_
      refine cV (aw_d q_Mo_readTags 17 rfl) (sp_Umust (res := .ok (p, ())) (A := []) (x := 4356776833549689452) (j := 8) (frM_TP hI.1 hc) (by decide) (RR_su (T := T) hp)) vL_Mo_340_Mo rfl rfl rfl rfl rfl rfl ⟨aw_le rfl, aw_le rfl⟩ (fun r38 h38 hp38 => ?_)
      obtain ⟨rfl, b38, q38, hr38, rfl⟩ := hp38
      refine aw_aload_n (aw_d q_Mo_readTags 18 rfl) rfl rfl rfl ?_
      refine aw_ldc2 (aw_d q_Mo_readTags 19 rfl) lL_Mo_224 ?_
      refine aw_bipush (v := nI 8) (aw_d q_Mo_readTags 20 rfl) (by decide) ?_
      refine cV (aw_d q_Mo_readTags 21 rfl) (sp_Umust (res := .ok (p, ())) (A := ([] ++ eB 4356776833549689452 8)) (x := 7286945561811696930) (j := 8) (frM_TP hI.1 hc) (by decide) hr38) vL_Mo_340_Mo rfl rfl rfl rfl rfl rfl ⟨aw_le rfl, aw_le rfl⟩ (fun r47 h47 hp47 => ?_)
      obtain ⟨rfl, b47, q47, hr47, rfl⟩ := hp47
      rw [bp_ok, show mu T (([] ++ eB 4356776833549689452 8) ++ eB 7286945561811696930 8) p = mu T (tx 26) p from (congrArg (fun L => mu T L _) (show _ = tx 26 by decide))] at hr47
      cases hx50s : mu T (tx 26) p with
      | error u50s =>
        rw [hx50s] at hr47
        obtain ⟨hu50s, rfl, hb50s⟩ := hr47
        refine aw_aload_n (aw_d q_Mo_readTags 22 rfl) rfl rfl rfl ?_
        refine cVv (aw_d q_Mo_readTags 23 rfl) (sp_headI hu50s hb50s) vL_Mo_385_Mo rfl rfl rfl rfl rfl rfl ⟨aw_le rfl, aw_le rfl⟩ ?_
        refine aw_aload_n (aw_d q_Mo_readTags 24 rfl) rfl rfl rfl ?_
        refine aw_ldc2 (aw_d q_Mo_readTags 25 rfl) lL_Mo_226 ?_
        refine aw_iconst (v := nI 3) (aw_d q_Mo_readTags 26 rfl) (by decide) ?_
        refine cVv (aw_d q_Mo_readTags 27 rfl) (sp_mustI hu50s (by decide)) vL_Mo_340_Mo rfl rfl rfl rfl rfl rfl ⟨aw_le rfl, aw_le rfl⟩ ?_
        refine aw_goto (tgt := 18) (aw_d q_Mo_readTags 28 rfl) (by decide) ?_
        exact AW.to (xi_18 (he.trans (by simp only [xk, bd_ok, bd_er, and_self, if_true, if_false, ↓reduceIte, c29, hx50s])) hu50s hI.1 hb50s) rfl rfl rfl rfl
      | ok p50s =>
        rw [hx50s] at hr47
        obtain ⟨hbb50s, hp_50s, rfl⟩ := hr47
        have hbb50s : b47 = p50s := hbb50s
        subst hbb50s
        refine aw_aload_n (aw_d q_Mo_readTags 22 rfl) rfl rfl rfl ?_
        refine cV (aw_d q_Mo_readTags 23 rfl) (sp_headA hI hc hp_50s) vL_Mo_385_Mo rfl rfl rfl rfl rfl rfl ⟨aw_le rfl, aw_le rfl⟩ (fun r51 h51 hp51 => ?_)
        obtain ⟨rfl, hp51⟩ := hp51
        cases hx51 : nn T n N b47 with
        | error u51 =>
          rw [hx51] at hp51
          obtain ⟨hue51, b51, hb51, rfl⟩ := hp51
          subst hue51
          refine aw_aload_n (aw_d q_Mo_readTags 24 rfl) rfl rfl rfl ?_
          refine aw_ldc2 (aw_d q_Mo_readTags 25 rfl) lL_Mo_226 ?_
          refine aw_iconst (v := nI 3) (aw_d q_Mo_readTags 26 rfl) (by decide) ?_
          refine cVv (aw_d q_Mo_readTags 27 rfl) (sp_mustI (show u51 ≤ 3000 by have := hc.2.1; have := hp_50s; omega) (by decide)) vL_Mo_340_Mo rfl rfl rfl rfl rfl rfl ⟨aw_le rfl, aw_le rfl⟩ ?_
          refine aw_goto (tgt := 18) (aw_d q_Mo_readTags 28 rfl) (by decide) ?_
          exact AW.to (xi_18 (he.trans (by simp only [xk, bd_ok, bd_er, and_self, if_true, if_false, ↓reduceIte, c29, hx50s, hx51])) (show u51 ≤ 3000 by have := hc.2.1; have := hp_50s; omega) hI.1 (show b51 ≤ 3010 by have := hc.2.1; omega)) rfl rfl rfl rfl
        | ok y51 =>
          rw [hx51] at hp51
          obtain ⟨hp_51, F51, hI51, rfl⟩ := hp51
          refine aw_aload_n (aw_d q_Mo_readTags 24 rfl) rfl rfl rfl ?_
          refine aw_ldc2 (aw_d q_Mo_readTags 25 rfl) lL_Mo_226 ?_
          refine aw_iconst (v := nI 3) (aw_d q_Mo_readTags 26 rfl) (by decide) ?_
          refine cV (aw_d q_Mo_readTags 27 rfl) (sp_Umust (res := .ok (y51.1, ())) (A := []) (x := 2240318) (j := 3) (frM_TP hI51.1 hc) (by decide) (RR_su (T := T) hp_51)) vL_Mo_340_Mo rfl rfl rfl rfl rfl rfl ⟨aw_le rfl, aw_le rfl⟩ (fun r59 h59 hp59 => ?_)
          obtain ⟨rfl, b59, q59, hr59, rfl⟩ := hp59
          rw [bp_ok, show mu T ([] ++ eB 2240318 3) y51.1 = mu T (tx 27) y51.1 from (congrArg (fun L => mu T L _) (show _ = tx 27 by decide))] at hr59
          cases hx62s : mu T (tx 27) y51.1 with
          | error u62s =>
            rw [hx62s] at hr59
            obtain ⟨hu62s, rfl, hb62s⟩ := hr59
            refine aw_goto (tgt := 18) (aw_d q_Mo_readTags 28 rfl) (by decide) ?_
            exact AW.to (xi_18 (he.trans (by simp only [xk, bd_ok, bd_er, and_self, if_true, if_false, ↓reduceIte, c29, hx50s, hx51, hx62s])) hu62s hI51.1 hb62s) rfl rfl rfl rfl
          | ok p62s =>
            rw [hx62s] at hr59
            obtain ⟨hbb62s, hp_62s, rfl⟩ := hr59
            have hbb62s : b59 = p62s := hbb62s
            subst hbb62s
            refine aw_goto (tgt := 18) (aw_d q_Mo_readTags 28 rfl) (by decide) ?_
            exact AW.to (ih b59 y51.2 F51 _ _ _ _ (by have := nn_1 hx51; omega) hp_62s hI51 (he.trans (by simp only [xk, bd_ok, bd_er, and_self, if_true, if_false, ↓reduceIte, c29, hx50s, hx51, hx62s]))) rfl rfl rfl rfl
set_option maxRecDepth 20000 in
theorem sp_readT {g : aw_G} {S D : aw_S} {N : nm_T} {n : Nat} {T : Nat → Int32} {f z : Int32} {X : Nat → Int32} (hI : imC S N 0 [] D) (hc : TPm S n T)  : Sp g M_Mo_readTags 5 113 0 0 [.ref 33] (HP (QM D (nI 0) (-1) f z X)) (rpM S n (rXp T n N)) := by
  refine Sp.of rfl (aw_le rfl) ?_
  have hc2 := hc.2.1
  refine aw_aload_n (aw_d q_Mo_readTags 0 rfl) rfl rfl rfl ?_
  refine aw_ldc2 (aw_d q_Mo_readTags 1 rfl) lL_Mo_218 ?_
  refine aw_bipush (v := nI 8) (aw_d q_Mo_readTags 2 rfl) (by decide) ?_
  refine cV (aw_d q_Mo_readTags 3 rfl) (sp_Umust (res := .ok (0, ())) (A := []) (x := 4355948828431576126) (j := 8) (frM_TP hI.1 hc) (by decide) (RR_su (T := T) (Nat.zero_le n))) vL_Mo_340_Mo rfl rfl rfl rfl rfl rfl ⟨aw_le rfl, aw_le rfl⟩ (fun r6 h6 hp6 => ?_)
  obtain ⟨rfl, b6, q6, hr6, rfl⟩ := hp6
  refine aw_aload_n (aw_d q_Mo_readTags 4 rfl) rfl rfl rfl ?_
  refine aw_ldc2 (aw_d q_Mo_readTags 5 rfl) lL_Mo_220 ?_
  refine aw_bipush (v := nI 6) (aw_d q_Mo_readTags 6 rfl) (by decide) ?_
  refine cV (aw_d q_Mo_readTags 7 rfl) (sp_Umust (res := .ok (0, ())) (A := ([] ++ eB 4355948828431576126 8)) (x := 66419075146814) (j := 6) (frM_TP hI.1 hc) (by decide) hr6) vL_Mo_340_Mo rfl rfl rfl rfl rfl rfl ⟨aw_le rfl, aw_le rfl⟩ (fun r15 h15 hp15 => ?_)
  obtain ⟨rfl, b15, q15, hr15, rfl⟩ := hp15
  rw [bp_ok, show mu T (([] ++ eB 4355948828431576126 8) ++ eB 66419075146814 6) 0 = mu T (tx 25) 0 from (congrArg (fun L => mu T L _) (show _ = tx 25 by decide))] at hr15
  cases hxQ : mu T (tx 25) 0 with
  | error uQ =>
    rw [hxQ] at hr15
    obtain ⟨huQ, rfl, hbQ⟩ := hr15
    exact AW.to (xi_18 (by rw [rXp, hxQ, bd_er]) huQ hI.1 hbQ) rfl rfl rfl rfl
  | ok pQ =>
    rw [hxQ] at hr15
    obtain ⟨hbbQ, hp_Q, rfl⟩ := hr15
    have hbbQ : b15 = pQ := hbbQ
    subst hbbQ
    exact AW.to (lp_xnm hc 7 b15 N D _ _ _ _ (by omega) hp_Q hI (by rw [rXp, hxQ, bd_ok])) rfl rfl rfl rfl
