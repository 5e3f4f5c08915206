set_option maxRecDepth 20000 in
theorem sp_mclos {g : aw_G} {S : aw_S} {n : Nat} {T : Nat → Int32} {b : Nat} {q f z : Int32} {X : Nat → Int32} (hc : TPm S n T) (hb : b ≤ 3010) : Sp g M_Mo_isClosing 1 20 0 0 [.ref 33] (HP (QM S (nI b) q f z X)) (fun r h => r = some (.int (if (T b).toInt = 60 ∧ (T (b + 1)).toInt = 47 then nI 1 else nI 0)) ∧ h = HP (QM S (nI b) q f z X)) := by
  refine Sp.of rfl (aw_le rfl) ?_
  refine aw_aload_n (aw_d q_Mo_isClosing 0 rfl) rfl rfl rfl ?_
  refine cVr (aw_d q_Mo_isClosing 1 rfl) (sp_peek hc (b := b) (by omega)) vL_Mo_331_Mo rfl rfl rfl rfl rfl rfl ⟨aw_le rfl, aw_le rfl⟩ ?_
  refine aw_bipush (v := nI 60) (aw_d q_Mo_isClosing 2 rfl) (by decide) ?_
  refine aw_icmpI_ne (tgt := 22) (aw_d q_Mo_isClosing 3 rfl) (by decide) (by (have hc2 := hc.2.1; omega)) (fun c6 => ?_) (fun c6 => ?_)
  · refine aw_iconst (v := nI 0) (aw_d q_Mo_isClosing 10 rfl) (by decide) ?_
    exact aw_zret (aw_d q_Mo_isClosing 11 rfl) rfl (rfl) (⟨by first | rfl | (rw [if_pos (by omega)]) | (rw [if_neg (by omega)]), rfl⟩)
  · refine aw_aload_n (aw_d q_Mo_isClosing 4 rfl) rfl rfl rfl ?_
    refine cVr (aw_d q_Mo_isClosing 5 rfl) (sp_peekN hc (b := b) (by omega)) vL_Mo_363_Mo rfl rfl rfl rfl rfl rfl ⟨aw_le rfl, aw_le rfl⟩ ?_
    refine aw_bipush (v := nI 47) (aw_d q_Mo_isClosing 6 rfl) (by decide) ?_
    refine aw_icmpI_ne (tgt := 22) (aw_d q_Mo_isClosing 7 rfl) (by decide) (by (have hc2 := hc.2.1; omega)) (fun c15 => ?_) (fun c15 => ?_)
    · refine aw_iconst (v := nI 0) (aw_d q_Mo_isClosing 10 rfl) (by decide) ?_
      exact aw_zret (aw_d q_Mo_isClosing 11 rfl) rfl (rfl) (⟨by first | rfl | (rw [if_pos (by omega)]) | (rw [if_neg (by omega)]), rfl⟩)
    · refine aw_iconst (v := nI 1) (aw_d q_Mo_isClosing 8 rfl) (by decide) ?_
      refine aw_goto (tgt := 23) (aw_d q_Mo_isClosing 9 rfl) (by decide) ?_
      exact aw_zret (aw_d q_Mo_isClosing 11 rfl) rfl (rfl) (⟨by first | rfl | (rw [if_pos (by omega)]) | (rw [if_neg (by omega)]), rfl⟩)
theorem mu_2 {T : Nat → Int32} {i j p : Nat} {L : List Int32} (hL : L = tx i ++ tx j) : mu T L p = bd (mu T (tx i) p) (mu T (tx j)) := by rw [hL, mu_app]
def vtV (T : Nat → Int32) (n p : Nat) : Except Nat it_T := bd (mu T [60] p) (fun p => bd (xm T n p) (fun z => bd (mu T (tx (xc z.2.1)) z.1) (fun q => .ok (q, z.2))))
theorem mu80 {T : Nat → Int32} {p : Nat} (h : ¬ (T p).toInt = 100) : mu T (tx 80) p = .error p := if_neg (show ¬ (T p).toInt = (100 : Int32).toInt from h)
theorem xc_0 : xc 0 = 41 := rfl
theorem xc_1 : xc 1 = 42 := rfl
theorem xc_2 : xc 2 = 43 := rfl
theorem xc_3 : xc 3 = 43 := rfl
theorem xc_4 : xc 4 = 43 := rfl
set_option maxRecDepth 20000 in
theorem sp_valT {g : aw_G} {S D : aw_S} {N : nm_T} {r : Nat} {s : sq_T} {n : Nat} {T : Nat → Int32} {p v : Nat} {f z : Int32} {X : Nat → Int32} (hI : imC S N (r + 1) s D) (hs : itOK s (r * 6 + v)) (hv : v < N.1) (hc : TPm S n T) (hp : p ≤ n)  : Sp g M_Mo_valueTags 4 88 0 0 [.ref 33, .int (nI v)] (HP (QM D (nI p) (-1) f z X)) (fun x h => x = none ∧ match vtV T n p with
  | .ok y => ∃ (F : aw_S) (f z : Int32) (X : Nat → Int32), (imC S N (r + 1) (s ++ [(r * 6 + v, y.2)]) F ∧ itW (r * 6 + v, y.2)) ∧ y.1 ≤ n ∧ h = HP (QM F (nI y.1) (-1) f z X)
  | .error u => u ≤ 3000 ∧ ∃ (F : aw_S) (b : Nat) (f z : Int32) (X : Nat → Int32), frM S F ∧ b ≤ 3010 ∧ h = HP (QM F (nI b) (nI u) f z X)) := by
  refine Sp.of rfl (aw_le rfl) ?_
  have hc2 := hc.2.1
  refine aw_aload_n (aw_d q_Mo_valueTags 0 rfl) rfl rfl rfl ?_
  refine aw_ldc2 (aw_d q_Mo_valueTags 1 rfl) lL_Mo_440 ?_
  refine aw_iconst (v := nI 1) (aw_d q_Mo_valueTags 2 rfl) (by decide) ?_
  refine cV (aw_d q_Mo_valueTags 3 rfl) (sp_Umust (res := .ok (p, ())) (A := []) (x := 60) (j := 1) (frM_TP hI.1 hc) (by decide) (RR_su (T := T) hp)) vL_Mo_340_Mo rfl rfl rfl rfl rfl rfl ⟨aw_le rfl, aw_le rfl⟩ (fun r5 h5 hp5 => ?_)
  obtain ⟨rfl, b5, q5, hr5, rfl⟩ := hp5
  rw [bp_ok, show mu T ([] ++ eB 60 1) p = mu T [60] p from (congrArg (fun L => mu T L _) (show _ = [60] by decide))] at hr5
  cases hx8s : mu T [60] p with
  | error u8s =>
    rw [hx8s] at hr5
    obtain ⟨hu8s, rfl, hb8s⟩ := hr5
    refine aw_aload_n (aw_d q_Mo_valueTags 4 rfl) rfl rfl rfl ?_
    refine cVr (aw_d q_Mo_valueTags 5 rfl) (sp_peek (frM_TP hI.1 hc) (b := b5) (by have := hc.2.1; omega)) vL_Mo_331_Mo rfl rfl rfl rfl rfl rfl ⟨aw_le rfl, aw_le rfl⟩ ?_
    refine aw_istore_n (aw_d q_Mo_valueTags 6 rfl) rfl (aw_le rfl) rfl ?_
    refine aw_iload_n (aw_d q_Mo_valueTags 7 rfl) rfl rfl ?_
    refine aw_bipush (v := nI 117) (aw_d q_Mo_valueTags 8 rfl) (by decide) ?_
    refine aw_icmpI_ne (tgt := 23) (aw_d q_Mo_valueTags 9 rfl) (by decide) (by (have hc2 := hc.2.1; omega)) (fun c16 => ?_) (fun c16 => ?_)
    · refine aw_iload_n (aw_d q_Mo_valueTags 12 rfl) rfl rfl ?_
      refine aw_bipush (v := nI 98) (aw_d q_Mo_valueTags 13 rfl) (by decide) ?_
      refine aw_icmpI_ne (tgt := 33) (aw_d q_Mo_valueTags 14 rfl) (by decide) (by (have hc2 := hc.2.1; omega)) (fun c26 => ?_) (fun c26 => ?_)
      · refine aw_iconst (v := nI 2) (aw_d q_Mo_valueTags 17 rfl) (by decide) ?_
        refine aw_istore_n (aw_d q_Mo_valueTags 18 rfl) rfl (aw_le rfl) rfl ?_
        refine aw_iconst (v := nI 0) (aw_d q_Mo_valueTags 19 rfl) (by decide) ?_
        refine aw_istore (aw_d q_Mo_valueTags 20 rfl) (aw_le rfl) rfl ?_
        refine aw_iload_n (aw_d q_Mo_valueTags 21 rfl) rfl rfl ?_
        refine aw_ifN_ne (tgt := 53) (aw_d q_Mo_valueTags 22 rfl) (by decide) (by (have hc2 := hc.2.1; omega)) (fun c39 => ?_) (fun c39 => by exfalso; (have hc2 := hc.2.1; omega))
        refine aw_iload_n (aw_d q_Mo_valueTags 28 rfl) rfl rfl ?_
        refine aw_iconst (v := nI 1) (aw_d q_Mo_valueTags 29 rfl) (by decide) ?_
        refine aw_icmpN_ne (tgt := 70) (aw_d q_Mo_valueTags 30 rfl) (by decide) (by (have hc2 := hc.2.1; omega)) (by (have hc2 := hc.2.1; omega)) (fun c55 => ?_) (fun c55 => by exfalso; (have hc2 := hc.2.1; omega))
        refine aw_aload_n (aw_d q_Mo_valueTags 36 rfl) rfl rfl rfl ?_
        refine aw_ldc2 (aw_d q_Mo_valueTags 37 rfl) lL_Mo_199 ?_
        refine aw_bipush (v := nI 7) (aw_d q_Mo_valueTags 38 rfl) (by decide) ?_
        refine cVv (aw_d q_Mo_valueTags 39 rfl) (sp_mustI hu8s (by decide)) vL_Mo_340_Mo rfl rfl rfl rfl rfl rfl ⟨aw_le rfl, aw_le rfl⟩ ?_
        refine aw_aload_n (aw_d q_Mo_valueTags 40 rfl) rfl rfl rfl ?_
        refine cVr (aw_d q_Mo_valueTags 41 rfl) (sp_goesI hu8s) vL_Mo_327_Mo rfl rfl rfl rfl rfl rfl ⟨aw_le rfl, aw_le rfl⟩ ?_
        refine aw_ifN_eq (tgt := 195) (aw_d q_Mo_valueTags 42 rfl) (by decide) (by (have hc2 := hc.2.1; omega)) (fun c83 => ?_) (fun c83 => by exfalso; (have hc2 := hc.2.1; omega))
        refine aw_aload_n (aw_d q_Mo_valueTags 97 rfl) rfl rfl rfl ?_
        refine aw_ldc2 (aw_d q_Mo_valueTags 98 rfl) lL_Mo_249 ?_
        refine aw_iconst (v := nI 1) (aw_d q_Mo_valueTags 99 rfl) (by decide) ?_
        refine cVv (aw_d q_Mo_valueTags 100 rfl) (sp_mustI hu8s (by decide)) vL_Mo_340_Mo rfl rfl rfl rfl rfl rfl ⟨aw_le rfl, aw_le rfl⟩ ?_
        refine aw_aload_n (aw_d q_Mo_valueTags 101 rfl) rfl rfl rfl ?_
        refine aw_getf (v := .int (nI (b5))) (aw_d q_Mo_valueTags 102 rfl) fL_Mo_324_Mo rfl (gk rfl) ?_
        refine aw_istore (aw_d q_Mo_valueTags 103 rfl) (aw_le rfl) rfl ?_
        refine aw_aload_n (aw_d q_Mo_valueTags 104 rfl) rfl rfl rfl ?_
        refine cVv (aw_d q_Mo_valueTags 105 rfl) (sp_tagTI hu8s hb8s) vL_Mo_448_Mo rfl rfl rfl rfl rfl rfl ⟨aw_le rfl, aw_le rfl⟩ ?_
        refine aw_aload_n (aw_d q_Mo_valueTags 106 rfl) rfl rfl rfl ?_
        refine aw_iload_n (aw_d q_Mo_valueTags 107 rfl) rfl rfl ?_
        refine aw_iload (aw_d q_Mo_valueTags 108 rfl) rfl ?_
        refine cVv (aw_d q_Mo_valueTags 109 rfl) (sp_checkI hu8s hb8s) vL_Mo_417_Mo rfl rfl rfl rfl rfl rfl ⟨aw_le rfl, aw_le rfl⟩ ?_
        refine aw_aload_n (aw_d q_Mo_valueTags 110 rfl) rfl rfl rfl ?_
        refine aw_iload_n (aw_d q_Mo_valueTags 111 rfl) rfl rfl ?_
        refine aw_iload_n (aw_d q_Mo_valueTags 112 rfl) rfl rfl ?_
        refine aw_iload (aw_d q_Mo_valueTags 113 rfl) rfl ?_
        refine cVv (aw_d q_Mo_valueTags 114 rfl) (sp_giveI hu8s hb8s) vL_Mo_430_Mo rfl rfl rfl rfl rfl rfl ⟨aw_le rfl, aw_le rfl⟩ ?_
        refine aw_iload_n (aw_d q_Mo_valueTags 115 rfl) rfl rfl ?_
        refine aw_ifN_ne (tgt := 244) (aw_d q_Mo_valueTags 116 rfl) (by decide) (by (have hc2 := hc.2.1; omega)) (fun c229 => ?_) (fun c229 => by exfalso; (have hc2 := hc.2.1; omega))
        refine aw_iload_n (aw_d q_Mo_valueTags 122 rfl) rfl rfl ?_
        refine aw_iconst (v := nI 1) (aw_d q_Mo_valueTags 123 rfl) (by decide) ?_
        refine aw_icmpN_ne (tgt := 261) (aw_d q_Mo_valueTags 124 rfl) (by decide) (by (have hc2 := hc.2.1; omega)) (by (have hc2 := hc.2.1; omega)) (fun c246 => ?_) (fun c246 => by exfalso; (have hc2 := hc.2.1; omega))
        refine aw_aload_n (aw_d q_Mo_valueTags 130 rfl) rfl rfl rfl ?_
        refine aw_ldc2 (aw_d q_Mo_valueTags 131 rfl) lL_Mo_273 ?_
        refine aw_bipush (v := nI 8) (aw_d q_Mo_valueTags 132 rfl) (by decide) ?_
        refine cVv (aw_d q_Mo_valueTags 133 rfl) (sp_mustI hu8s (by decide)) vL_Mo_340_Mo rfl rfl rfl rfl rfl rfl ⟨aw_le rfl, aw_le rfl⟩ ?_
        refine aw_aload_n (aw_d q_Mo_valueTags 134 rfl) rfl rfl rfl ?_
        refine aw_ldc2 (aw_d q_Mo_valueTags 135 rfl) lL_Mo_275 ?_
        refine aw_iconst (v := nI 2) (aw_d q_Mo_valueTags 136 rfl) (by decide) ?_
        refine cVv (aw_d q_Mo_valueTags 137 rfl) (sp_mustI hu8s (by decide)) vL_Mo_340_Mo rfl rfl rfl rfl rfl rfl ⟨aw_le rfl, aw_le rfl⟩ ?_
        exact aw_vret (aw_d q_Mo_valueTags 138 rfl) rfl (⟨rfl, by rw [show vtV T n p = .error u8s by simp only [vtV, xm, xo, xy, okT, xc_0, xc_1, xc_2, xc_3, xc_4, bd_bd, Bool.false_eq_true, bd_ok, bd_er, if_true, if_false, eq_self, ↓reduceIte, hx8s, show ¬ (T b5).toInt = 117 by omega, show ¬ (T b5).toInt = 98 by omega]]; exact ⟨hu8s, _, _, _, _, _, hI.1, hb8s, rfl⟩⟩)
      · refine aw_iconst (v := nI 1) (aw_d q_Mo_valueTags 15 rfl) (by decide) ?_
        refine aw_goto (tgt := 34) (aw_d q_Mo_valueTags 16 rfl) (by decide) ?_
        refine aw_istore_n (aw_d q_Mo_valueTags 18 rfl) rfl (aw_le rfl) rfl ?_
        refine aw_iconst (v := nI 0) (aw_d q_Mo_valueTags 19 rfl) (by decide) ?_
        refine aw_istore (aw_d q_Mo_valueTags 20 rfl) (aw_le rfl) rfl ?_
        refine aw_iload_n (aw_d q_Mo_valueTags 21 rfl) rfl rfl ?_
        refine aw_ifN_ne (tgt := 53) (aw_d q_Mo_valueTags 22 rfl) (by decide) (by (have hc2 := hc.2.1; omega)) (fun c39 => ?_) (fun c39 => by exfalso; (have hc2 := hc.2.1; omega))
        refine aw_iload_n (aw_d q_Mo_valueTags 28 rfl) rfl rfl ?_
        refine aw_iconst (v := nI 1) (aw_d q_Mo_valueTags 29 rfl) (by decide) ?_
        refine aw_icmpN_ne (tgt := 70) (aw_d q_Mo_valueTags 30 rfl) (by decide) (by (have hc2 := hc.2.1; omega)) (by (have hc2 := hc.2.1; omega)) (fun c55 => by exfalso; (have hc2 := hc.2.1; omega)) (fun c55 => ?_)
        refine aw_aload_n (aw_d q_Mo_valueTags 31 rfl) rfl rfl rfl ?_
        refine aw_ldc2 (aw_d q_Mo_valueTags 32 rfl) lL_Mo_444 ?_
        refine aw_bipush (v := nI 6) (aw_d q_Mo_valueTags 33 rfl) (by decide) ?_
        refine cVv (aw_d q_Mo_valueTags 34 rfl) (sp_mustI hu8s (by decide)) vL_Mo_340_Mo rfl rfl rfl rfl rfl rfl ⟨aw_le rfl, aw_le rfl⟩ ?_
        refine aw_goto (tgt := 203) (aw_d q_Mo_valueTags 35 rfl) (by decide) ?_
        refine aw_aload_n (aw_d q_Mo_valueTags 101 rfl) rfl rfl rfl ?_
        refine aw_getf (v := .int (nI (b5))) (aw_d q_Mo_valueTags 102 rfl) fL_Mo_324_Mo rfl (gk rfl) ?_
        refine aw_istore (aw_d q_Mo_valueTags 103 rfl) (aw_le rfl) rfl ?_
        refine aw_aload_n (aw_d q_Mo_valueTags 104 rfl) rfl rfl rfl ?_
        refine cVv (aw_d q_Mo_valueTags 105 rfl) (sp_tagTI hu8s hb8s) vL_Mo_448_Mo rfl rfl rfl rfl rfl rfl ⟨aw_le rfl, aw_le rfl⟩ ?_
        refine aw_aload_n (aw_d q_Mo_valueTags 106 rfl) rfl rfl rfl ?_
        refine aw_iload_n (aw_d q_Mo_valueTags 107 rfl) rfl rfl ?_
        refine aw_iload (aw_d q_Mo_valueTags 108 rfl) rfl ?_
        refine cVv (aw_d q_Mo_valueTags 109 rfl) (sp_checkI hu8s hb8s) vL_Mo_417_Mo rfl rfl rfl rfl rfl rfl ⟨aw_le rfl, aw_le rfl⟩ ?_
        refine aw_aload_n (aw_d q_Mo_valueTags 110 rfl) rfl rfl rfl ?_
        refine aw_iload_n (aw_d q_Mo_valueTags 111 rfl) rfl rfl ?_
        refine aw_iload_n (aw_d q_Mo_valueTags 112 rfl) rfl rfl ?_
        refine aw_iload (aw_d q_Mo_valueTags 113 rfl) rfl ?_
        refine cVv (aw_d q_Mo_valueTags 114 rfl) (sp_giveI hu8s hb8s) vL_Mo_430_Mo rfl rfl rfl rfl rfl rfl ⟨aw_le rfl, aw_le rfl⟩ ?_
        refine aw_iload_n (aw_d q_Mo_valueTags 115 rfl) rfl rfl ?_
        refine aw_ifN_ne (tgt := 244) (aw_d q_Mo_valueTags 116 rfl) (by decide) (by (have hc2 := hc.2.1; omega)) (fun c229 => ?_) (fun c229 => by exfalso; (have hc2 := hc.2.1; omega))
        refine aw_iload_n (aw_d q_Mo_valueTags 122 rfl) rfl rfl ?_
        refine aw_iconst (v := nI 1) (aw_d q_Mo_valueTags 123 rfl) (by decide) ?_
        refine aw_icmpN_ne (tgt := 261) (aw_d q_Mo_valueTags 124 rfl) (by decide) (by (have hc2 := hc.2.1; omega)) (by (have hc2 := hc.2.1; omega)) (fun c246 => by exfalso; (have hc2 := hc.2.1; omega)) (fun c246 => ?_)
        refine aw_aload_n (aw_d q_Mo_valueTags 125 rfl) rfl rfl rfl ?_
        refine aw_ldc2 (aw_d q_Mo_valueTags 126 rfl) lL_Mo_271 ?_
        refine aw_bipush (v := nI 8) (aw_d q_Mo_valueTags 127 rfl) (by decide) ?_
        refine cVv (aw_d q_Mo_valueTags 128 rfl) (sp_mustI hu8s (by decide)) vL_Mo_340_Mo rfl rfl rfl rfl rfl rfl ⟨aw_le rfl, aw_le rfl⟩ ?_
        refine aw_goto (tgt := 278) (aw_d q_Mo_valueTags 129 rfl) (by decide) ?_
        exact aw_vret (aw_d q_Mo_valueTags 138 rfl) rfl (⟨rfl, by rw [show vtV T n p = .error u8s by simp only [vtV, xm, xo, xy, okT, xc_0, xc_1, xc_2, xc_3, xc_4, bd_bd, Bool.false_eq_true, bd_ok, bd_er, if_true, if_false, eq_self, ↓reduceIte, hx8s, show ¬ (T b5).toInt = 117 by omega, show ((T b5).toInt = 98) = True from eq_true (by omega)]]; exact ⟨hu8s, _, _, _, _, _, hI.1, hb8s, rfl⟩⟩)
    · refine aw_iconst (v := nI 0) (aw_d q_Mo_valueTags 10 rfl) (by decide) ?_
      refine aw_goto (tgt := 34) (aw_d q_Mo_valueTags 11 rfl) (by decide) ?_
      refine aw_istore_n (aw_d q_Mo_valueTags 18 rfl) rfl (aw_le rfl) rfl ?_
      refine aw_iconst (v := nI 0) (aw_d q_Mo_valueTags 19 rfl) (by decide) ?_
      refine aw_istore (aw_d q_Mo_valueTags 20 rfl) (aw_le rfl) rfl ?_
      refine aw_iload_n (aw_d q_Mo_valueTags 21 rfl) rfl rfl ?_
      refine aw_ifN_ne (tgt := 53) (aw_d q_Mo_valueTags 22 rfl) (by decide) (by (have hc2 := hc.2.1; omega)) (fun c39 => by exfalso; (have hc2 := hc.2.1; omega)) (fun c39 => ?_)
      refine aw_aload_n (aw_d q_Mo_valueTags 23 rfl) rfl rfl rfl ?_
      refine aw_ldc2 (aw_d q_Mo_valueTags 24 rfl) lL_Mo_442 ?_
      refine aw_iconst (v := nI 4) (aw_d q_Mo_valueTags 25 rfl) (by decide) ?_
      refine cVv (aw_d q_Mo_valueTags 26 rfl) (sp_mustI hu8s (by decide)) vL_Mo_340_Mo rfl rfl rfl rfl rfl rfl ⟨aw_le rfl, aw_le rfl⟩ ?_
      refine aw_goto (tgt := 203) (aw_d q_Mo_valueTags 27 rfl) (by decide) ?_
      refine aw_aload_n (aw_d q_Mo_valueTags 101 rfl) rfl rfl rfl ?_
      refine aw_getf (v := .int (nI (b5))) (aw_d q_Mo_valueTags 102 rfl) fL_Mo_324_Mo rfl (gk rfl) ?_
      refine aw_istore (aw_d q_Mo_valueTags 103 rfl) (aw_le rfl) rfl ?_
      refine aw_aload_n (aw_d q_Mo_valueTags 104 rfl) rfl rfl rfl ?_
      refine cVv (aw_d q_Mo_valueTags 105 rfl) (sp_tagTI hu8s hb8s) vL_Mo_448_Mo rfl rfl rfl rfl rfl rfl ⟨aw_le rfl, aw_le rfl⟩ ?_
      refine aw_aload_n (aw_d q_Mo_valueTags 106 rfl) rfl rfl rfl ?_
      refine aw_iload_n (aw_d q_Mo_valueTags 107 rfl) rfl rfl ?_
      refine aw_iload (aw_d q_Mo_valueTags 108 rfl) rfl ?_
      refine cVv (aw_d q_Mo_valueTags 109 rfl) (sp_checkI hu8s hb8s) vL_Mo_417_Mo rfl rfl rfl rfl rfl rfl ⟨aw_le rfl, aw_le rfl⟩ ?_
      refine aw_aload_n (aw_d q_Mo_valueTags 110 rfl) rfl rfl rfl ?_
      refine aw_iload_n (aw_d q_Mo_valueTags 111 rfl) rfl rfl ?_
      refine aw_iload_n (aw_d q_Mo_valueTags 112 rfl) rfl rfl ?_
      refine aw_iload (aw_d q_Mo_valueTags 113 rfl) rfl ?_
      refine cVv (aw_d q_Mo_valueTags 114 rfl) (sp_giveI hu8s hb8s) vL_Mo_430_Mo rfl rfl rfl rfl rfl rfl ⟨aw_le rfl, aw_le rfl⟩ ?_
      refine aw_iload_n (aw_d q_Mo_valueTags 115 rfl) rfl rfl ?_
      refine aw_ifN_ne (tgt := 244) (aw_d q_Mo_valueTags 116 rfl) (by decide) (by (have hc2 := hc.2.1; omega)) (fun c229 => by exfalso; (have hc2 := hc.2.1; omega)) (fun c229 => ?_)
      refine aw_aload_n (aw_d q_Mo_valueTags 117 rfl) rfl rfl rfl ?_
      refine aw_ldc2 (aw_d q_Mo_valueTags 118 rfl) lL_Mo_269 ?_
      refine aw_bipush (v := nI 6) (aw_d q_Mo_valueTags 119 rfl) (by decide) ?_
      refine cVv (aw_d q_Mo_valueTags 120 rfl) (sp_mustI hu8s (by decide)) vL_Mo_340_Mo rfl rfl rfl rfl rfl rfl ⟨aw_le rfl, aw_le rfl⟩ ?_
      refine aw_goto (tgt := 278) (aw_d q_Mo_valueTags 121 rfl) (by decide) ?_
      exact aw_vret (aw_d q_Mo_valueTags 138 rfl) rfl (⟨rfl, by rw [show vtV T n p = .error u8s by simp only [vtV, xm, xo, xy, okT, xc_0, xc_1, xc_2, xc_3, xc_4, bd_bd, Bool.false_eq_true, bd_ok, bd_er, if_true, if_false, eq_self, ↓reduceIte, hx8s, show ((T b5).toInt = 117) = True from eq_true (by omega)]]; exact ⟨hu8s, _, _, _, _, _, hI.1, hb8s, rfl⟩⟩)
  | ok p8s =>
    rw [hx8s] at hr5
    obtain ⟨hbb8s, hp_8s, rfl⟩ := hr5
    have hbb8s : b5 = p8s := hbb8s
    subst hbb8s
    refine aw_aload_n (aw_d q_Mo_valueTags 4 rfl) rfl rfl rfl ?_
    refine cVr (aw_d q_Mo_valueTags 5 rfl) (sp_peek (frM_TP hI.1 hc) (b := b5) (by have := hc.2.1; omega)) vL_Mo_331_Mo rfl rfl rfl rfl rfl rfl ⟨aw_le rfl, aw_le rfl⟩ ?_
    refine aw_istore_n (aw_d q_Mo_valueTags 6 rfl) rfl (aw_le rfl) rfl ?_
    refine aw_iload_n (aw_d q_Mo_valueTags 7 rfl) rfl rfl ?_
    refine aw_bipush (v := nI 117) (aw_d q_Mo_valueTags 8 rfl) (by decide) ?_
    refine aw_icmpI_ne (tgt := 23) (aw_d q_Mo_valueTags 9 rfl) (by decide) (by (have hc2 := hc.2.1; omega)) (fun c16 => ?_) (fun c16 => ?_)
    · refine aw_iload_n (aw_d q_Mo_valueTags 12 rfl) rfl rfl ?_
      refine aw_bipush (v := nI 98) (aw_d q_Mo_valueTags 13 rfl) (by decide) ?_
      refine aw_icmpI_ne (tgt := 33) (aw_d q_Mo_valueTags 14 rfl) (by decide) (by (have hc2 := hc.2.1; omega)) (fun c26 => ?_) (fun c26 => ?_)
      · refine aw_iconst (v := nI 2) (aw_d q_Mo_valueTags 17 rfl) (by decide) ?_
        refine aw_istore_n (aw_d q_Mo_valueTags 18 rfl) rfl (aw_le rfl) rfl ?_
        refine aw_iconst (v := nI 0) (aw_d q_Mo_valueTags 19 rfl) (by decide) ?_
        refine aw_istore (aw_d q_Mo_valueTags 20 rfl) (aw_le rfl) rfl ?_
        refine aw_iload_n (aw_d q_Mo_valueTags 21 rfl) rfl rfl ?_
        refine aw_ifN_ne (tgt := 53) (aw_d q_Mo_valueTags 22 rfl) (by decide) (by (have hc2 := hc.2.1; omega)) (fun c39 => ?_) (fun c39 => by exfalso; (have hc2 := hc.2.1; omega))
        refine aw_iload_n (aw_d q_Mo_valueTags 28 rfl) rfl rfl ?_
        refine aw_iconst (v := nI 1) (aw_d q_Mo_valueTags 29 rfl) (by decide) ?_
        refine aw_icmpN_ne (tgt := 70) (aw_d q_Mo_valueTags 30 rfl) (by decide) (by (have hc2 := hc.2.1; omega)) (by (have hc2 := hc.2.1; omega)) (fun c55 => ?_) (fun c55 => by exfalso; (have hc2 := hc.2.1; omega))
        refine aw_aload_n (aw_d q_Mo_valueTags 36 rfl) rfl rfl rfl ?_
        refine aw_ldc2 (aw_d q_Mo_valueTags 37 rfl) lL_Mo_199 ?_
        refine aw_bipush (v := nI 7) (aw_d q_Mo_valueTags 38 rfl) (by decide) ?_
        refine cV (aw_d q_Mo_valueTags 39 rfl) (sp_Umust (res := .ok (b5, ())) (A := []) (x := 30515246123868524) (j := 7) (frM_TP hI.1 hc) (by decide) (RR_su (T := T) hp_8s)) vL_Mo_340_Mo rfl rfl rfl rfl rfl rfl ⟨aw_le rfl, aw_le rfl⟩ (fun r76 h76 hp76 => ?_)
        obtain ⟨rfl, b76, q76, hr76, rfl⟩ := hp76
        rw [bp_ok, show mu T ([] ++ eB 30515246123868524 7) b5 = mu T (tx 78) b5 from (congrArg (fun L => mu T L _) (show _ = tx 78 by decide))] at hr76
        cases hx79s : mu T (tx 78) b5 with
        | error u79s =>
          rw [hx79s] at hr76
          obtain ⟨hu79s, rfl, hb79s⟩ := hr76
          refine aw_aload_n (aw_d q_Mo_valueTags 40 rfl) rfl rfl rfl ?_
          refine cVr (aw_d q_Mo_valueTags 41 rfl) (sp_goesI hu79s) vL_Mo_327_Mo rfl rfl rfl rfl rfl rfl ⟨aw_le rfl, aw_le rfl⟩ ?_
          refine aw_ifN_eq (tgt := 195) (aw_d q_Mo_valueTags 42 rfl) (by decide) (by (have hc2 := hc.2.1; omega)) (fun c83 => ?_) (fun c83 => by exfalso; (have hc2 := hc.2.1; omega))
          refine aw_aload_n (aw_d q_Mo_valueTags 97 rfl) rfl rfl rfl ?_
          refine aw_ldc2 (aw_d q_Mo_valueTags 98 rfl) lL_Mo_249 ?_
          refine aw_iconst (v := nI 1) (aw_d q_Mo_valueTags 99 rfl) (by decide) ?_
          refine cVv (aw_d q_Mo_valueTags 100 rfl) (sp_mustI hu79s (by decide)) vL_Mo_340_Mo rfl rfl rfl rfl rfl rfl ⟨aw_le rfl, aw_le rfl⟩ ?_
          refine aw_aload_n (aw_d q_Mo_valueTags 101 rfl) rfl rfl rfl ?_
          refine aw_getf (v := .int (nI (b76))) (aw_d q_Mo_valueTags 102 rfl) fL_Mo_324_Mo rfl (gk rfl) ?_
          refine aw_istore (aw_d q_Mo_valueTags 103 rfl) (aw_le rfl) rfl ?_
          refine aw_aload_n (aw_d q_Mo_valueTags 104 rfl) rfl rfl rfl ?_
          refine cVv (aw_d q_Mo_valueTags 105 rfl) (sp_tagTI hu79s hb79s) vL_Mo_448_Mo rfl rfl rfl rfl rfl rfl ⟨aw_le rfl, aw_le rfl⟩ ?_
          refine aw_aload_n (aw_d q_Mo_valueTags 106 rfl) rfl rfl rfl ?_
          refine aw_iload_n (aw_d q_Mo_valueTags 107 rfl) rfl rfl ?_
          refine aw_iload (aw_d q_Mo_valueTags 108 rfl) rfl ?_
          refine cVv (aw_d q_Mo_valueTags 109 rfl) (sp_checkI hu79s hb79s) vL_Mo_417_Mo rfl rfl rfl rfl rfl rfl ⟨aw_le rfl, aw_le rfl⟩ ?_
          refine aw_aload_n (aw_d q_Mo_valueTags 110 rfl) rfl rfl rfl ?_
          refine aw_iload_n (aw_d q_Mo_valueTags 111 rfl) rfl rfl ?_
          refine aw_iload_n (aw_d q_Mo_valueTags 112 rfl) rfl rfl ?_
          refine aw_iload (aw_d q_Mo_valueTags 113 rfl) rfl ?_
          refine cVv (aw_d q_Mo_valueTags 114 rfl) (sp_giveI hu79s hb79s) vL_Mo_430_Mo rfl rfl rfl rfl rfl rfl ⟨aw_le rfl, aw_le rfl⟩ ?_
          refine aw_iload_n (aw_d q_Mo_valueTags 115 rfl) rfl rfl ?_
          refine aw_ifN_ne (tgt := 244) (aw_d q_Mo_valueTags 116 rfl) (by decide) (by (have hc2 := hc.2.1; omega)) (fun c229 => ?_) (fun c229 => by exfalso; (have hc2 := hc.2.1; omega))
          refine aw_iload_n (aw_d q_Mo_valueTags 122 rfl) rfl rfl ?_
          refine aw_iconst (v := nI 1) (aw_d q_Mo_valueTags 123 rfl) (by decide) ?_
          refine aw_icmpN_ne (tgt := 261) (aw_d q_Mo_valueTags 124 rfl) (by decide) (by (have hc2 := hc.2.1; omega)) (by (have hc2 := hc.2.1; omega)) (fun c246 => ?_) (fun c246 => by exfalso; (have hc2 := hc.2.1; omega))
          refine aw_aload_n (aw_d q_Mo_valueTags 130 rfl) rfl rfl rfl ?_
          refine aw_ldc2 (aw_d q_Mo_valueTags 131 rfl) lL_Mo_273 ?_
          refine aw_bipush (v := nI 8) (aw_d q_Mo_valueTags 132 rfl) (by decide) ?_
          refine cVv (aw_d q_Mo_valueTags 133 rfl) (sp_mustI hu79s (by decide)) vL_Mo_340_Mo rfl rfl rfl rfl rfl rfl ⟨aw_le rfl, aw_le rfl⟩ ?_
          refine aw_aload_n (aw_d q_Mo_valueTags 134 rfl) rfl rfl rfl ?_
          refine aw_ldc2 (aw_d q_Mo_valueTags 135 rfl) lL_Mo_275 ?_
          refine aw_iconst (v := nI 2) (aw_d q_Mo_valueTags 136 rfl) (by decide) ?_
          refine cVv (aw_d q_Mo_valueTags 137 rfl) (sp_mustI hu79s (by decide)) vL_Mo_340_Mo rfl rfl rfl rfl rfl rfl ⟨aw_le rfl, aw_le rfl⟩ ?_
          exact aw_vret (aw_d q_Mo_valueTags 138 rfl) rfl (⟨rfl, by rw [show vtV T n p = .error u79s by simp only [vtV, xm, xo, xy, okT, xc_0, xc_1, xc_2, xc_3, xc_4, bd_bd, Bool.false_eq_true, bd_ok, bd_er, if_true, if_false, eq_self, ↓reduceIte, hx8s, hx79s, show ¬ (T b5).toInt = 117 by omega, show ¬ (T b5).toInt = 98 by omega]]; exact ⟨hu79s, _, _, _, _, _, hI.1, hb79s, rfl⟩⟩)
        | ok p79s =>
          rw [hx79s] at hr76
          obtain ⟨hbb79s, hp_79s, rfl⟩ := hr76
          have hbb79s : b76 = p79s := hbb79s
          subst hbb79s
          refine aw_aload_n (aw_d q_Mo_valueTags 40 rfl) rfl rfl rfl ?_
          refine cVr (aw_d q_Mo_valueTags 41 rfl) (sp_goesA) vL_Mo_327_Mo rfl rfl rfl rfl rfl rfl ⟨aw_le rfl, aw_le rfl⟩ ?_
          refine aw_ifN_eq (tgt := 195) (aw_d q_Mo_valueTags 42 rfl) (by decide) (by (have hc2 := hc.2.1; omega)) (fun c83 => by exfalso; (have hc2 := hc.2.1; omega)) (fun c83 => ?_)
          refine aw_aload_n (aw_d q_Mo_valueTags 43 rfl) rfl rfl rfl ?_
          refine cVr (aw_d q_Mo_valueTags 44 rfl) (sp_peek (frM_TP hI.1 hc) (b := b76) (by have := hc.2.1; omega)) vL_Mo_331_Mo rfl rfl rfl rfl rfl rfl ⟨aw_le rfl, aw_le rfl⟩ ?_
          refine aw_bipush (v := nI 32) (aw_d q_Mo_valueTags 45 rfl) (by decide) ?_
          refine aw_icmpI_ne (tgt := 195) (aw_d q_Mo_valueTags 46 rfl) (by decide) (by (have hc2 := hc.2.1; omega)) (fun c92 => ?_) (fun c92 => ?_)
          · refine aw_aload_n (aw_d q_Mo_valueTags 97 rfl) rfl rfl rfl ?_
            refine aw_ldc2 (aw_d q_Mo_valueTags 98 rfl) lL_Mo_249 ?_
            refine aw_iconst (v := nI 1) (aw_d q_Mo_valueTags 99 rfl) (by decide) ?_
            refine cV (aw_d q_Mo_valueTags 100 rfl) (sp_Umust (res := .ok (b76, ())) (A := []) (x := 62) (j := 1) (frM_TP hI.1 hc) (by decide) (RR_su (T := T) hp_79s)) vL_Mo_340_Mo rfl rfl rfl rfl rfl rfl ⟨aw_le rfl, aw_le rfl⟩ (fun r200 h200 hp200 => ?_)
            obtain ⟨rfl, b200, q200, hr200, rfl⟩ := hp200
            rw [bp_ok, show mu T ([] ++ eB 62 1) b76 = mu T (tx 82) b76 from (congrArg (fun L => mu T L _) (show _ = tx 82 by decide))] at hr200
            cases hx203s : mu T (tx 82) b76 with
            | error u203s =>
              rw [hx203s] at hr200
              obtain ⟨hu203s, rfl, hb203s⟩ := hr200
              refine aw_aload_n (aw_d q_Mo_valueTags 101 rfl) rfl rfl rfl ?_
              refine aw_getf (v := .int (nI (b200))) (aw_d q_Mo_valueTags 102 rfl) fL_Mo_324_Mo rfl (gk rfl) ?_
              refine aw_istore (aw_d q_Mo_valueTags 103 rfl) (aw_le rfl) rfl ?_
              refine aw_aload_n (aw_d q_Mo_valueTags 104 rfl) rfl rfl rfl ?_
              refine cVv (aw_d q_Mo_valueTags 105 rfl) (sp_tagTI hu203s hb203s) vL_Mo_448_Mo rfl rfl rfl rfl rfl rfl ⟨aw_le rfl, aw_le rfl⟩ ?_
              refine aw_aload_n (aw_d q_Mo_valueTags 106 rfl) rfl rfl rfl ?_
              refine aw_iload_n (aw_d q_Mo_valueTags 107 rfl) rfl rfl ?_
              refine aw_iload (aw_d q_Mo_valueTags 108 rfl) rfl ?_
              refine cVv (aw_d q_Mo_valueTags 109 rfl) (sp_checkI hu203s hb203s) vL_Mo_417_Mo rfl rfl rfl rfl rfl rfl ⟨aw_le rfl, aw_le rfl⟩ ?_
              refine aw_aload_n (aw_d q_Mo_valueTags 110 rfl) rfl rfl rfl ?_
              refine aw_iload_n (aw_d q_Mo_valueTags 111 rfl) rfl rfl ?_
              refine aw_iload_n (aw_d q_Mo_valueTags 112 rfl) rfl rfl ?_
              refine aw_iload (aw_d q_Mo_valueTags 113 rfl) rfl ?_
              refine cVv (aw_d q_Mo_valueTags 114 rfl) (sp_giveI hu203s hb203s) vL_Mo_430_Mo rfl rfl rfl rfl rfl rfl ⟨aw_le rfl, aw_le rfl⟩ ?_
              refine aw_iload_n (aw_d q_Mo_valueTags 115 rfl) rfl rfl ?_
              refine aw_ifN_ne (tgt := 244) (aw_d q_Mo_valueTags 116 rfl) (by decide) (by (have hc2 := hc.2.1; omega)) (fun c229 => ?_) (fun c229 => by exfalso; (have hc2 := hc.2.1; omega))
              refine aw_iload_n (aw_d q_Mo_valueTags 122 rfl) rfl rfl ?_
              refine aw_iconst (v := nI 1) (aw_d q_Mo_valueTags 123 rfl) (by decide) ?_
              refine aw_icmpN_ne (tgt := 261) (aw_d q_Mo_valueTags 124 rfl) (by decide) (by (have hc2 := hc.2.1; omega)) (by (have hc2 := hc.2.1; omega)) (fun c246 => ?_) (fun c246 => by exfalso; (have hc2 := hc.2.1; omega))
              refine aw_aload_n (aw_d q_Mo_valueTags 130 rfl) rfl rfl rfl ?_
              refine aw_ldc2 (aw_d q_Mo_valueTags 131 rfl) lL_Mo_273 ?_
              refine aw_bipush (v := nI 8) (aw_d q_Mo_valueTags 132 rfl) (by decide) ?_
              refine cVv (aw_d q_Mo_valueTags 133 rfl) (sp_mustI hu203s (by decide)) vL_Mo_340_Mo rfl rfl rfl rfl rfl rfl ⟨aw_le rfl, aw_le rfl⟩ ?_
              refine aw_aload_n (aw_d q_Mo_valueTags 134 rfl) rfl rfl rfl ?_
              refine aw_ldc2 (aw_d q_Mo_valueTags 135 rfl) lL_Mo_275 ?_
              refine aw_iconst (v := nI 2) (aw_d q_Mo_valueTags 136 rfl) (by decide) ?_
              refine cVv (aw_d q_Mo_valueTags 137 rfl) (sp_mustI hu203s (by decide)) vL_Mo_340_Mo rfl rfl rfl rfl rfl rfl ⟨aw_le rfl, aw_le rfl⟩ ?_
              exact aw_vret (aw_d q_Mo_valueTags 138 rfl) rfl (⟨rfl, by rw [show vtV T n p = .error u203s by simp only [vtV, xm, xo, xy, okT, xc_0, xc_1, xc_2, xc_3, xc_4, bd_bd, Bool.false_eq_true, bd_ok, bd_er, if_true, if_false, eq_self, ↓reduceIte, hx8s, hx79s, hx203s, show ¬ (T b5).toInt = 117 by omega, show ¬ (T b5).toInt = 98 by omega, show ¬ (T b76).toInt = 32 by omega]]; exact ⟨hu203s, _, _, _, _, _, hI.1, hb203s, rfl⟩⟩)
            | ok p203s =>
              rw [hx203s] at hr200
              obtain ⟨hbb203s, hp_203s, rfl⟩ := hr200
              have hbb203s : b200 = p203s := hbb203s
              subst hbb203s
              refine aw_aload_n (aw_d q_Mo_valueTags 101 rfl) rfl rfl rfl ?_
              refine aw_getf (v := .int (nI (b200))) (aw_d q_Mo_valueTags 102 rfl) fL_Mo_324_Mo rfl (gk rfl) ?_
              refine aw_istore (aw_d q_Mo_valueTags 103 rfl) (aw_le rfl) rfl ?_
              refine aw_aload_n (aw_d q_Mo_valueTags 104 rfl) rfl rfl rfl ?_
              refine cV (aw_d q_Mo_valueTags 105 rfl) (sp_tagTA (frM_TP hI.1 hc) hp_203s) vL_Mo_448_Mo rfl rfl rfl rfl rfl rfl ⟨aw_le rfl, aw_le rfl⟩ (fun r210 h210 hp210 => ?_)
              obtain ⟨rfl, hp210⟩ := hp210
              cases hx210 : xt T 21 b200 [] with
              | error u210 =>
                rw [hx210] at hp210
                obtain ⟨hu210, b210, z210, X210, hb210, rfl⟩ := hp210
                refine aw_aload_n (aw_d q_Mo_valueTags 106 rfl) rfl rfl rfl ?_
                refine aw_iload_n (aw_d q_Mo_valueTags 107 rfl) rfl rfl ?_
                refine aw_iload (aw_d q_Mo_valueTags 108 rfl) rfl ?_
                refine cVv (aw_d q_Mo_valueTags 109 rfl) (sp_checkI (Nat.le_trans hu210 hc.2.1) hb210) vL_Mo_417_Mo rfl rfl rfl rfl rfl rfl ⟨aw_le rfl, aw_le rfl⟩ ?_
                refine aw_aload_n (aw_d q_Mo_valueTags 110 rfl) rfl rfl rfl ?_
                refine aw_iload_n (aw_d q_Mo_valueTags 111 rfl) rfl rfl ?_
                refine aw_iload_n (aw_d q_Mo_valueTags 112 rfl) rfl rfl ?_
                refine aw_iload (aw_d q_Mo_valueTags 113 rfl) rfl ?_
                refine cVv (aw_d q_Mo_valueTags 114 rfl) (sp_giveI (Nat.le_trans hu210 hc.2.1) hb210) vL_Mo_430_Mo rfl rfl rfl rfl rfl rfl ⟨aw_le rfl, aw_le rfl⟩ ?_
                refine aw_iload_n (aw_d q_Mo_valueTags 115 rfl) rfl rfl ?_
                refine aw_ifN_ne (tgt := 244) (aw_d q_Mo_valueTags 116 rfl) (by decide) (by (have hc2 := hc.2.1; omega)) (fun c229 => ?_) (fun c229 => by exfalso; (have hc2 := hc.2.1; omega))
                refine aw_iload_n (aw_d q_Mo_valueTags 122 rfl) rfl rfl ?_
                refine aw_iconst (v := nI 1) (aw_d q_Mo_valueTags 123 rfl) (by decide) ?_
                refine aw_icmpN_ne (tgt := 261) (aw_d q_Mo_valueTags 124 rfl) (by decide) (by (have hc2 := hc.2.1; omega)) (by (have hc2 := hc.2.1; omega)) (fun c246 => ?_) (fun c246 => by exfalso; (have hc2 := hc.2.1; omega))
                refine aw_aload_n (aw_d q_Mo_valueTags 130 rfl) rfl rfl rfl ?_
                refine aw_ldc2 (aw_d q_Mo_valueTags 131 rfl) lL_Mo_273 ?_
                refine aw_bipush (v := nI 8) (aw_d q_Mo_valueTags 132 rfl) (by decide) ?_
                refine cVv (aw_d q_Mo_valueTags 133 rfl) (sp_mustI (Nat.le_trans hu210 hc.2.1) (by decide)) vL_Mo_340_Mo rfl rfl rfl rfl rfl rfl ⟨aw_le rfl, aw_le rfl⟩ ?_
                refine aw_aload_n (aw_d q_Mo_valueTags 134 rfl) rfl rfl rfl ?_
                refine aw_ldc2 (aw_d q_Mo_valueTags 135 rfl) lL_Mo_275 ?_
                refine aw_iconst (v := nI 2) (aw_d q_Mo_valueTags 136 rfl) (by decide) ?_
                refine cVv (aw_d q_Mo_valueTags 137 rfl) (sp_mustI (Nat.le_trans hu210 hc.2.1) (by decide)) vL_Mo_340_Mo rfl rfl rfl rfl rfl rfl ⟨aw_le rfl, aw_le rfl⟩ ?_
                exact aw_vret (aw_d q_Mo_valueTags 138 rfl) rfl (⟨rfl, by rw [show vtV T n p = .error u210 by simp only [vtV, xm, xo, xy, okT, xc_0, xc_1, xc_2, xc_3, xc_4, bd_bd, Bool.false_eq_true, bd_ok, bd_er, if_true, if_false, eq_self, ↓reduceIte, hx8s, hx79s, hx203s, hx210, show ¬ (T b5).toInt = 117 by omega, show ¬ (T b5).toInt = 98 by omega, show ¬ (T b76).toInt = 32 by omega]]; exact ⟨Nat.le_trans hu210 hc.2.1, _, _, _, _, _, hI.1, hb210, rfl⟩⟩)
              | ok y210 =>
                rw [hx210] at hp210
                obtain ⟨hy210, h60210, rfl⟩ := hp210
                refine aw_aload_n (aw_d q_Mo_valueTags 106 rfl) rfl rfl rfl ?_
                refine aw_iload_n (aw_d q_Mo_valueTags 107 rfl) rfl rfl ?_
                refine aw_iload (aw_d q_Mo_valueTags 108 rfl) rfl ?_
                refine cV (aw_d q_Mo_valueTags 109 rfl) (sp_checkA (L := y210.2) (kd := 2) (x := nI b200) hy210.2.1 hy210.2.2 (by omega)) vL_Mo_417_Mo rfl rfl rfl rfl rfl rfl ⟨aw_le rfl, aw_le rfl⟩ (fun r217 h217 hp217 => ?_)
                obtain ⟨rfl, hp217⟩ := hp217
                rcases hp217 with ⟨hk217, rfl⟩ | ⟨hk217, rfl⟩
                · skip -- ok
                  refine aw_aload_n (aw_d q_Mo_valueTags 110 rfl) rfl rfl rfl ?_
                  refine aw_iload_n (aw_d q_Mo_valueTags 111 rfl) rfl rfl ?_
                  refine aw_iload_n (aw_d q_Mo_valueTags 112 rfl) rfl rfl ?_
                  refine aw_iload (aw_d q_Mo_valueTags 113 rfl) rfl ?_
                  refine cV (aw_d q_Mo_valueTags 114 rfl) (sp_giveA (kd := 2) (ex := 0) (L := y210.2) hI hs hv hy210.2.1) vL_Mo_430_Mo rfl rfl rfl rfl rfl rfl ⟨aw_le rfl, aw_le rfl⟩ (fun r225 h225 hp225 => ?_)
                  obtain ⟨rfl, F225, hI225, rfl⟩ := hp225
                  refine aw_iload_n (aw_d q_Mo_valueTags 115 rfl) rfl rfl ?_
                  refine aw_ifN_ne (tgt := 244) (aw_d q_Mo_valueTags 116 rfl) (by decide) (by (have hc2 := hc.2.1; omega)) (fun c229 => ?_) (fun c229 => by exfalso; (have hc2 := hc.2.1; omega))
                  refine aw_iload_n (aw_d q_Mo_valueTags 122 rfl) rfl rfl ?_
                  refine aw_iconst (v := nI 1) (aw_d q_Mo_valueTags 123 rfl) (by decide) ?_
                  refine aw_icmpN_ne (tgt := 261) (aw_d q_Mo_valueTags 124 rfl) (by decide) (by (have hc2 := hc.2.1; omega)) (by (have hc2 := hc.2.1; omega)) (fun c246 => ?_) (fun c246 => by exfalso; (have hc2 := hc.2.1; omega))
                  refine aw_aload_n (aw_d q_Mo_valueTags 130 rfl) rfl rfl rfl ?_
                  refine aw_ldc2 (aw_d q_Mo_valueTags 131 rfl) lL_Mo_273 ?_
                  refine aw_bipush (v := nI 8) (aw_d q_Mo_valueTags 132 rfl) (by decide) ?_
                  refine cV (aw_d q_Mo_valueTags 133 rfl) (sp_Umust (res := .ok (y210.1, ())) (A := []) (x := 4336804166361248353) (j := 8) (frM_TP hI225.1 hc) (by decide) (RR_su (T := T) hy210.1)) vL_Mo_340_Mo rfl rfl rfl rfl rfl rfl ⟨aw_le rfl, aw_le rfl⟩ (fun r267 h267 hp267 => ?_)
                  obtain ⟨rfl, b267, q267, hr267, rfl⟩ := hp267
                  refine aw_aload_n (aw_d q_Mo_valueTags 134 rfl) rfl rfl rfl ?_
                  refine aw_ldc2 (aw_d q_Mo_valueTags 135 rfl) lL_Mo_275 ?_
                  refine aw_iconst (v := nI 2) (aw_d q_Mo_valueTags 136 rfl) (by decide) ?_
                  refine cV (aw_d q_Mo_valueTags 137 rfl) (sp_Umust (res := .ok (y210.1, ())) (A := ([] ++ eB 4336804166361248353 8)) (x := 27710) (j := 2) (frM_TP hI225.1 hc) (by decide) hr267) vL_Mo_340_Mo rfl rfl rfl rfl rfl rfl ⟨aw_le rfl, aw_le rfl⟩ (fun r275 h275 hp275 => ?_)
                  obtain ⟨rfl, b275, q275, hr275, rfl⟩ := hp275
                  rw [bp_ok, show mu T (([] ++ eB 4336804166361248353 8) ++ eB 27710 2) y210.1 = mu T (tx 43) y210.1 from (congrArg (fun L => mu T L _) (show _ = tx 43 by decide))] at hr275
                  cases hx278s : mu T (tx 43) y210.1 with
                  | error u278s =>
                    rw [hx278s] at hr275
                    obtain ⟨hu278s, rfl, hb278s⟩ := hr275
                    exact aw_vret (aw_d q_Mo_valueTags 138 rfl) rfl (⟨rfl, by rw [show vtV T n p = .error u278s by simp only [vtV, xm, xo, xy, okT, xc_0, xc_1, xc_2, xc_3, xc_4, bd_bd, Bool.false_eq_true, bd_ok, bd_er, if_true, if_false, eq_self, ↓reduceIte, hx8s, hx79s, hx203s, hx210, hx278s, show ¬ (T b5).toInt = 117 by omega, show ¬ (T b5).toInt = 98 by omega, show ¬ (T b76).toInt = 32 by omega, hk217]]; exact ⟨hu278s, _, _, _, _, _, hI225.1, hb278s, rfl⟩⟩)
                  | ok p278s =>
                    rw [hx278s] at hr275
                    obtain ⟨hbb278s, hp_278s, rfl⟩ := hr275
                    have hbb278s : b275 = p278s := hbb278s
                    subst hbb278s
                    exact aw_vret (aw_d q_Mo_valueTags 138 rfl) rfl (⟨rfl, by rw [show vtV T n p = .ok (b275, 2, 0, y210.2) by simp only [vtV, xm, xo, xy, okT, xc_0, xc_1, xc_2, xc_3, xc_4, bd_bd, Bool.false_eq_true, bd_ok, bd_er, if_true, if_false, eq_self, ↓reduceIte, hx8s, hx79s, hx203s, hx210, hx278s, show ¬ (T b5).toInt = 117 by omega, show ¬ (T b5).toInt = 98 by omega, show ¬ (T b76).toInt = 32 by omega, hk217]]; exact ⟨_, _, _, _, ⟨hI225, itW_i (kd := 2) (ex := 0) (by decide) hy210.2.1 (by decide) (fun h => absurd h (by decide)) (fun _ => rfl) hy210.2.2 (hk217)⟩, hp_278s, rfl⟩⟩)
                · skip -- no
                  refine aw_aload_n (aw_d q_Mo_valueTags 110 rfl) rfl rfl rfl ?_
                  refine aw_iload_n (aw_d q_Mo_valueTags 111 rfl) rfl rfl ?_
                  refine aw_iload_n (aw_d q_Mo_valueTags 112 rfl) rfl rfl ?_
                  refine aw_iload (aw_d q_Mo_valueTags 113 rfl) rfl ?_
                  refine cVv (aw_d q_Mo_valueTags 114 rfl) (sp_giveI (show b200 ≤ 3000 by have := hc.2.1; omega) (show y210.1 ≤ 3010 by have := hc.2.1; have := hy210.1; omega)) vL_Mo_430_Mo rfl rfl rfl rfl rfl rfl ⟨aw_le rfl, aw_le rfl⟩ ?_
                  refine aw_iload_n (aw_d q_Mo_valueTags 115 rfl) rfl rfl ?_
                  refine aw_ifN_ne (tgt := 244) (aw_d q_Mo_valueTags 116 rfl) (by decide) (by (have hc2 := hc.2.1; omega)) (fun c229 => ?_) (fun c229 => by exfalso; (have hc2 := hc.2.1; omega))
                  refine aw_iload_n (aw_d q_Mo_valueTags 122 rfl) rfl rfl ?_
                  refine aw_iconst (v := nI 1) (aw_d q_Mo_valueTags 123 rfl) (by decide) ?_
                  refine aw_icmpN_ne (tgt := 261) (aw_d q_Mo_valueTags 124 rfl) (by decide) (by (have hc2 := hc.2.1; omega)) (by (have hc2 := hc.2.1; omega)) (fun c246 => ?_) (fun c246 => by exfalso; (have hc2 := hc.2.1; omega))
                  refine aw_aload_n (aw_d q_Mo_valueTags 130 rfl) rfl rfl rfl ?_
                  refine aw_ldc2 (aw_d q_Mo_valueTags 131 rfl) lL_Mo_273 ?_
                  refine aw_bipush (v := nI 8) (aw_d q_Mo_valueTags 132 rfl) (by decide) ?_
                  refine cVv (aw_d q_Mo_valueTags 133 rfl) (sp_mustI (show b200 ≤ 3000 by have := hc.2.1; omega) (by decide)) vL_Mo_340_Mo rfl rfl rfl rfl rfl rfl ⟨aw_le rfl, aw_le rfl⟩ ?_
                  refine aw_aload_n (aw_d q_Mo_valueTags 134 rfl) rfl rfl rfl ?_
                  refine aw_ldc2 (aw_d q_Mo_valueTags 135 rfl) lL_Mo_275 ?_
                  refine aw_iconst (v := nI 2) (aw_d q_Mo_valueTags 136 rfl) (by decide) ?_
                  refine cVv (aw_d q_Mo_valueTags 137 rfl) (sp_mustI (show b200 ≤ 3000 by have := hc.2.1; omega) (by decide)) vL_Mo_340_Mo rfl rfl rfl rfl rfl rfl ⟨aw_le rfl, aw_le rfl⟩ ?_
                  exact aw_vret (aw_d q_Mo_valueTags 138 rfl) rfl (⟨rfl, by rw [show vtV T n p = .error b200 by simp only [vtV, xm, xo, xy, okT, xc_0, xc_1, xc_2, xc_3, xc_4, bd_bd, Bool.false_eq_true, bd_ok, bd_er, if_true, if_false, eq_self, ↓reduceIte, hx8s, hx79s, hx203s, hx210, show ¬ (T b5).toInt = 117 by omega, show ¬ (T b5).toInt = 98 by omega, show ¬ (T b76).toInt = 32 by omega, hk217]]; exact ⟨by have := hc.2.1; omega, _, _, _, _, _, hI.1, by have := hc.2.1; have := hy210.1; omega, rfl⟩⟩)
          · refine aw_aload_n (aw_d q_Mo_valueTags 47 rfl) rfl rfl rfl ?_
            refine aw_dup (aw_d q_Mo_valueTags 48 rfl) rfl ?_
            refine aw_getf (v := .int (nI (b76))) (aw_d q_Mo_valueTags 49 rfl) fL_Mo_324_Mo rfl (gk rfl) ?_
            refine aw_iconst (v := nI 1) (aw_d q_Mo_valueTags 50 rfl) (by decide) ?_
            refine aw_iaddN (aw_d q_Mo_valueTags 51 rfl) ?_
            refine wi_33_31 (aw_d q_Mo_valueTags 52 rfl) pL_Mo_324_Mo ?_
            have hp105s : b76 + 1 ≤ n := T_lt hc.2.2.2.1 (p := b76) (by omega)
            refine AW.to (h' := HP (QM D (nI (b76 + 1)) (-1) f z X)) ?_ rfl rfl rfl rfl
            · skip
              refine aw_aload_n (aw_d q_Mo_valueTags 53 rfl) rfl rfl rfl ?_
              refine cVr (aw_d q_Mo_valueTags 54 rfl) (sp_peek (frM_TP hI.1 hc) (b := (b76 + 1)) (by have := hc.2.1; omega)) vL_Mo_331_Mo rfl rfl rfl rfl rfl rfl ⟨aw_le rfl, aw_le rfl⟩ ?_
              refine aw_bipush (v := nI 120) (aw_d q_Mo_valueTags 55 rfl) (by decide) ?_
              refine aw_icmpI_ne (tgt := 142) (aw_d q_Mo_valueTags 56 rfl) (by decide) (by (have hc2 := hc.2.1; omega)) (fun c111 => ?_) (fun c111 => ?_)
              · refine aw_aload_n (aw_d q_Mo_valueTags 71 rfl) rfl rfl rfl ?_
                refine cVr (aw_d q_Mo_valueTags 72 rfl) (sp_peek (frM_TP hI.1 hc) (b := (b76 + 1)) (by have := hc.2.1; omega)) vL_Mo_331_Mo rfl rfl rfl rfl rfl rfl ⟨aw_le rfl, aw_le rfl⟩ ?_
                refine aw_bipush (v := nI 100) (aw_d q_Mo_valueTags 73 rfl) (by decide) ?_
                refine aw_icmpI_ne (tgt := 179) (aw_d q_Mo_valueTags 74 rfl) (by decide) (by (have hc2 := hc.2.1; omega)) (fun c148 => ?_) (fun c148 => ?_)
                · refine aw_aload_n (aw_d q_Mo_valueTags 89 rfl) rfl rfl rfl ?_
                  refine aw_aload_n (aw_d q_Mo_valueTags 90 rfl) rfl rfl rfl ?_
                  refine aw_getf (v := .int (nI ((b76 + 1)))) (aw_d q_Mo_valueTags 91 rfl) fL_Mo_324_Mo rfl (gk rfl) ?_
                  refine cVv (aw_d q_Mo_valueTags 92 rfl) (sp_mfailA) vL_Mo_334_Mo rfl rfl rfl rfl rfl rfl ⟨aw_le rfl, aw_le rfl⟩ ?_
                  refine aw_aload_n (aw_d q_Mo_valueTags 93 rfl) rfl rfl rfl ?_
                  refine aw_ldc2 (aw_d q_Mo_valueTags 94 rfl) lL_Mo_167 ?_
                  refine aw_iconst (v := nI 1) (aw_d q_Mo_valueTags 95 rfl) (by decide) ?_
                  refine cVv (aw_d q_Mo_valueTags 96 rfl) (sp_mustI (show (b76 + 1) ≤ 3000 by have := hc.2.1; omega) (by decide)) vL_Mo_340_Mo rfl rfl rfl rfl rfl rfl ⟨aw_le rfl, aw_le rfl⟩ ?_
                  refine aw_aload_n (aw_d q_Mo_valueTags 97 rfl) rfl rfl rfl ?_
                  refine aw_ldc2 (aw_d q_Mo_valueTags 98 rfl) lL_Mo_249 ?_
                  refine aw_iconst (v := nI 1) (aw_d q_Mo_valueTags 99 rfl) (by decide) ?_
                  refine cVv (aw_d q_Mo_valueTags 100 rfl) (sp_mustI (show (b76 + 1) ≤ 3000 by have := hc.2.1; omega) (by decide)) vL_Mo_340_Mo rfl rfl rfl rfl rfl rfl ⟨aw_le rfl, aw_le rfl⟩ ?_
                  refine aw_aload_n (aw_d q_Mo_valueTags 101 rfl) rfl rfl rfl ?_
                  refine aw_getf (v := .int (nI ((b76 + 1)))) (aw_d q_Mo_valueTags 102 rfl) fL_Mo_324_Mo rfl (gk rfl) ?_
                  refine aw_istore (aw_d q_Mo_valueTags 103 rfl) (aw_le rfl) rfl ?_
                  refine aw_aload_n (aw_d q_Mo_valueTags 104 rfl) rfl rfl rfl ?_
                  refine cVv (aw_d q_Mo_valueTags 105 rfl) (sp_tagTI (show (b76 + 1) ≤ 3000 by have := hc.2.1; omega) (show (b76 + 1) ≤ 3010 by have := hc.2.1; omega)) vL_Mo_448_Mo rfl rfl rfl rfl rfl rfl ⟨aw_le rfl, aw_le rfl⟩ ?_
                  refine aw_aload_n (aw_d q_Mo_valueTags 106 rfl) rfl rfl rfl ?_
                  refine aw_iload_n (aw_d q_Mo_valueTags 107 rfl) rfl rfl ?_
                  refine aw_iload (aw_d q_Mo_valueTags 108 rfl) rfl ?_
                  refine cVv (aw_d q_Mo_valueTags 109 rfl) (sp_checkI (show (b76 + 1) ≤ 3000 by have := hc.2.1; omega) (show (b76 + 1) ≤ 3010 by have := hc.2.1; omega)) vL_Mo_417_Mo rfl rfl rfl rfl rfl rfl ⟨aw_le rfl, aw_le rfl⟩ ?_
                  refine aw_aload_n (aw_d q_Mo_valueTags 110 rfl) rfl rfl rfl ?_
                  refine aw_iload_n (aw_d q_Mo_valueTags 111 rfl) rfl rfl ?_
                  refine aw_iload_n (aw_d q_Mo_valueTags 112 rfl) rfl rfl ?_
                  refine aw_iload (aw_d q_Mo_valueTags 113 rfl) rfl ?_
                  refine cVv (aw_d q_Mo_valueTags 114 rfl) (sp_giveI (show (b76 + 1) ≤ 3000 by have := hc.2.1; omega) (show (b76 + 1) ≤ 3010 by have := hc.2.1; omega)) vL_Mo_430_Mo rfl rfl rfl rfl rfl rfl ⟨aw_le rfl, aw_le rfl⟩ ?_
                  refine aw_iload_n (aw_d q_Mo_valueTags 115 rfl) rfl rfl ?_
                  refine aw_ifN_ne (tgt := 244) (aw_d q_Mo_valueTags 116 rfl) (by decide) (by (have hc2 := hc.2.1; omega)) (fun c229 => ?_) (fun c229 => by exfalso; (have hc2 := hc.2.1; omega))
                  refine aw_iload_n (aw_d q_Mo_valueTags 122 rfl) rfl rfl ?_
                  refine aw_iconst (v := nI 1) (aw_d q_Mo_valueTags 123 rfl) (by decide) ?_
                  refine aw_icmpN_ne (tgt := 261) (aw_d q_Mo_valueTags 124 rfl) (by decide) (by (have hc2 := hc.2.1; omega)) (by (have hc2 := hc.2.1; omega)) (fun c246 => ?_) (fun c246 => by exfalso; (have hc2 := hc.2.1; omega))
                  refine aw_aload_n (aw_d q_Mo_valueTags 130 rfl) rfl rfl rfl ?_
                  refine aw_ldc2 (aw_d q_Mo_valueTags 131 rfl) lL_Mo_273 ?_
                  refine aw_bipush (v := nI 8) (aw_d q_Mo_valueTags 132 rfl) (by decide) ?_
                  refine cVv (aw_d q_Mo_valueTags 133 rfl) (sp_mustI (show (b76 + 1) ≤ 3000 by have := hc.2.1; omega) (by decide)) vL_Mo_340_Mo rfl rfl rfl rfl rfl rfl ⟨aw_le rfl, aw_le rfl⟩ ?_
                  refine aw_aload_n (aw_d q_Mo_valueTags 134 rfl) rfl rfl rfl ?_
                  refine aw_ldc2 (aw_d q_Mo_valueTags 135 rfl) lL_Mo_275 ?_
                  refine aw_iconst (v := nI 2) (aw_d q_Mo_valueTags 136 rfl) (by decide) ?_
                  refine cVv (aw_d q_Mo_valueTags 137 rfl) (sp_mustI (show (b76 + 1) ≤ 3000 by have := hc.2.1; omega) (by decide)) vL_Mo_340_Mo rfl rfl rfl rfl rfl rfl ⟨aw_le rfl, aw_le rfl⟩ ?_
                  exact aw_vret (aw_d q_Mo_valueTags 138 rfl) rfl (⟨rfl, by rw [show vtV T n p = .error (b76 + 1) by simp only [vtV, xm, xo, xy, okT, xc_0, xc_1, xc_2, xc_3, xc_4, bd_bd, Bool.false_eq_true, bd_ok, bd_er, if_true, if_false, eq_self, ↓reduceIte, hx8s, hx79s, show ¬ (T b5).toInt = 117 by omega, show ¬ (T b5).toInt = 98 by omega, show ((T b76).toInt = 32) = True from eq_true (by omega), show ¬ (T (b76 + 1)).toInt = 120 by omega, show ¬ (4 = 3) by decide, mu80 (show ¬ (T (b76 + 1)).toInt = 100 by omega)]]; exact ⟨by have := hc.2.1; omega, _, _, _, _, _, hI.1, by have := hc.2.1; omega, rfl⟩⟩)
                · refine aw_aload_n (aw_d q_Mo_valueTags 75 rfl) rfl rfl rfl ?_
                  refine aw_ldc2 (aw_d q_Mo_valueTags 76 rfl) lL_Mo_422 ?_
                  refine aw_bipush (v := nI 8) (aw_d q_Mo_valueTags 77 rfl) (by decide) ?_
                  refine cV (aw_d q_Mo_valueTags 78 rfl) (sp_Umust (res := .ok ((b76 + 1), ())) (A := []) (x := 7233190438448492645) (j := 8) (frM_TP hI.1 hc) (by decide) (RR_su (T := T) hp105s)) vL_Mo_340_Mo rfl rfl rfl rfl rfl rfl ⟨aw_le rfl, aw_le rfl⟩ (fun r157 h157 hp157 => ?_)
                  obtain ⟨rfl, b157, q157, hr157, rfl⟩ := hp157
                  refine aw_aload_n (aw_d q_Mo_valueTags 79 rfl) rfl rfl rfl ?_
                  refine aw_ldc2 (aw_d q_Mo_valueTags 80 rfl) lL_Mo_446 ?_
                  refine aw_iconst (v := nI 2) (aw_d q_Mo_valueTags 81 rfl) (by decide) ?_
                  refine cV (aw_d q_Mo_valueTags 82 rfl) (sp_Umust (res := .ok ((b76 + 1), ())) (A := ([] ++ eB 7233190438448492645 8)) (x := 15650) (j := 2) (frM_TP hI.1 hc) (by decide) hr157) vL_Mo_340_Mo rfl rfl rfl rfl rfl rfl ⟨aw_le rfl, aw_le rfl⟩ (fun r165 h165 hp165 => ?_)
                  obtain ⟨rfl, b165, q165, hr165, rfl⟩ := hp165
                  refine aw_iconst (v := nI 4) (aw_d q_Mo_valueTags 83 rfl) (by decide) ?_
                  refine aw_istore_n (aw_d q_Mo_valueTags 84 rfl) rfl (aw_le rfl) rfl ?_
                  rw [bp_ok, show mu T (([] ++ eB 7233190438448492645 8) ++ eB 15650 2) (b76 + 1) = mu T (tx 80) (b76 + 1) from (congrArg (fun L => mu T L _) (show _ = tx 80 by decide))] at hr165
                  cases hx170s : mu T (tx 80) (b76 + 1) with
                  | error u170s =>
                    rw [hx170s] at hr165
                    obtain ⟨hu170s, rfl, hb170s⟩ := hr165
                    refine aw_aload_n (aw_d q_Mo_valueTags 85 rfl) rfl rfl rfl ?_
                    refine cVr (aw_d q_Mo_valueTags 86 rfl) (sp_typeI hu170s hb170s) vL_Mo_427_Mo rfl rfl rfl rfl rfl rfl ⟨aw_le rfl, aw_le rfl⟩ ?_
                    refine aw_istore (aw_d q_Mo_valueTags 87 rfl) (aw_le rfl) rfl ?_
                    refine aw_goto (tgt := 187) (aw_d q_Mo_valueTags 88 rfl) (by decide) ?_
                    refine aw_aload_n (aw_d q_Mo_valueTags 93 rfl) rfl rfl rfl ?_
                    refine aw_ldc2 (aw_d q_Mo_valueTags 94 rfl) lL_Mo_167 ?_
                    refine aw_iconst (v := nI 1) (aw_d q_Mo_valueTags 95 rfl) (by decide) ?_
                    refine cVv (aw_d q_Mo_valueTags 96 rfl) (sp_mustI hu170s (by decide)) vL_Mo_340_Mo rfl rfl rfl rfl rfl rfl ⟨aw_le rfl, aw_le rfl⟩ ?_
                    refine aw_aload_n (aw_d q_Mo_valueTags 97 rfl) rfl rfl rfl ?_
                    refine aw_ldc2 (aw_d q_Mo_valueTags 98 rfl) lL_Mo_249 ?_
                    refine aw_iconst (v := nI 1) (aw_d q_Mo_valueTags 99 rfl) (by decide) ?_
                    refine cVv (aw_d q_Mo_valueTags 100 rfl) (sp_mustI hu170s (by decide)) vL_Mo_340_Mo rfl rfl rfl rfl rfl rfl ⟨aw_le rfl, aw_le rfl⟩ ?_
                    refine aw_aload_n (aw_d q_Mo_valueTags 101 rfl) rfl rfl rfl ?_
                    refine aw_getf (v := .int (nI (b165))) (aw_d q_Mo_valueTags 102 rfl) fL_Mo_324_Mo rfl (gk rfl) ?_
                    refine aw_istore (aw_d q_Mo_valueTags 103 rfl) (aw_le rfl) rfl ?_
                    refine aw_aload_n (aw_d q_Mo_valueTags 104 rfl) rfl rfl rfl ?_
                    refine cVv (aw_d q_Mo_valueTags 105 rfl) (sp_tagTI hu170s hb170s) vL_Mo_448_Mo rfl rfl rfl rfl rfl rfl ⟨aw_le rfl, aw_le rfl⟩ ?_
                    refine aw_aload_n (aw_d q_Mo_valueTags 106 rfl) rfl rfl rfl ?_
                    refine aw_iload_n (aw_d q_Mo_valueTags 107 rfl) rfl rfl ?_
                    refine aw_iload (aw_d q_Mo_valueTags 108 rfl) rfl ?_
                    refine cVv (aw_d q_Mo_valueTags 109 rfl) (sp_checkI hu170s hb170s) vL_Mo_417_Mo rfl rfl rfl rfl rfl rfl ⟨aw_le rfl, aw_le rfl⟩ ?_
                    refine aw_aload_n (aw_d q_Mo_valueTags 110 rfl) rfl rfl rfl ?_
                    refine aw_iload_n (aw_d q_Mo_valueTags 111 rfl) rfl rfl ?_
                    refine aw_iload_n (aw_d q_Mo_valueTags 112 rfl) rfl rfl ?_
                    refine aw_iload (aw_d q_Mo_valueTags 113 rfl) rfl ?_
                    refine cVv (aw_d q_Mo_valueTags 114 rfl) (sp_giveI hu170s hb170s) vL_Mo_430_Mo rfl rfl rfl rfl rfl rfl ⟨aw_le rfl, aw_le rfl⟩ ?_
                    refine aw_iload_n (aw_d q_Mo_valueTags 115 rfl) rfl rfl ?_
                    refine aw_ifN_ne (tgt := 244) (aw_d q_Mo_valueTags 116 rfl) (by decide) (by (have hc2 := hc.2.1; omega)) (fun c229 => ?_) (fun c229 => by exfalso; (have hc2 := hc.2.1; omega))
                    refine aw_iload_n (aw_d q_Mo_valueTags 122 rfl) rfl rfl ?_
                    refine aw_iconst (v := nI 1) (aw_d q_Mo_valueTags 123 rfl) (by decide) ?_
                    refine aw_icmpN_ne (tgt := 261) (aw_d q_Mo_valueTags 124 rfl) (by decide) (by (have hc2 := hc.2.1; omega)) (by (have hc2 := hc.2.1; omega)) (fun c246 => ?_) (fun c246 => by exfalso; (have hc2 := hc.2.1; omega))
                    refine aw_aload_n (aw_d q_Mo_valueTags 130 rfl) rfl rfl rfl ?_
                    refine aw_ldc2 (aw_d q_Mo_valueTags 131 rfl) lL_Mo_273 ?_
                    refine aw_bipush (v := nI 8) (aw_d q_Mo_valueTags 132 rfl) (by decide) ?_
                    refine cVv (aw_d q_Mo_valueTags 133 rfl) (sp_mustI hu170s (by decide)) vL_Mo_340_Mo rfl rfl rfl rfl rfl rfl ⟨aw_le rfl, aw_le rfl⟩ ?_
                    refine aw_aload_n (aw_d q_Mo_valueTags 134 rfl) rfl rfl rfl ?_
                    refine aw_ldc2 (aw_d q_Mo_valueTags 135 rfl) lL_Mo_275 ?_
                    refine aw_iconst (v := nI 2) (aw_d q_Mo_valueTags 136 rfl) (by decide) ?_
                    refine cVv (aw_d q_Mo_valueTags 137 rfl) (sp_mustI hu170s (by decide)) vL_Mo_340_Mo rfl rfl rfl rfl rfl rfl ⟨aw_le rfl, aw_le rfl⟩ ?_
                    exact aw_vret (aw_d q_Mo_valueTags 138 rfl) rfl (⟨rfl, by rw [show vtV T n p = .error u170s by simp only [vtV, xm, xo, xy, okT, xc_0, xc_1, xc_2, xc_3, xc_4, bd_bd, Bool.false_eq_true, bd_ok, bd_er, if_true, if_false, eq_self, ↓reduceIte, hx8s, hx79s, hx170s, show ¬ (T b5).toInt = 117 by omega, show ¬ (T b5).toInt = 98 by omega, show ((T b76).toInt = 32) = True from eq_true (by omega), show ¬ (T (b76 + 1)).toInt = 120 by omega, show ¬ (4 = 3) by decide]]; exact ⟨hu170s, _, _, _, _, _, hI.1, hb170s, rfl⟩⟩)
                  | ok p170s =>
                    rw [hx170s] at hr165
                    obtain ⟨hbb170s, hp_170s, rfl⟩ := hr165
                    have hbb170s : b165 = p170s := hbb170s
                    subst hbb170s
                    refine aw_aload_n (aw_d q_Mo_valueTags 85 rfl) rfl rfl rfl ?_
                    refine cV (aw_d q_Mo_valueTags 86 rfl) (sp_typeA (frM_TP hI.1 hc) hp_170s) vL_Mo_427_Mo rfl rfl rfl rfl rfl rfl ⟨aw_le rfl, aw_le rfl⟩ (fun r171 h171 hp171 => ?_)
                    cases hx171 : ew T n 4 b165 with
                    | error u171 =>
                      rw [hx171] at hp171
                      obtain ⟨hue171, rfl, b171, hb171, rfl⟩ := hp171
                      subst hue171
                      refine aw_istore (aw_d q_Mo_valueTags 87 rfl) (aw_le rfl) rfl ?_
                      refine aw_goto (tgt := 187) (aw_d q_Mo_valueTags 88 rfl) (by decide) ?_
                      refine aw_aload_n (aw_d q_Mo_valueTags 93 rfl) rfl rfl rfl ?_
                      refine aw_ldc2 (aw_d q_Mo_valueTags 94 rfl) lL_Mo_167 ?_
                      refine aw_iconst (v := nI 1) (aw_d q_Mo_valueTags 95 rfl) (by decide) ?_
                      refine cVv (aw_d q_Mo_valueTags 96 rfl) (sp_mustI (show u171 ≤ 3000 by have := hc.2.1; have := hp_170s; omega) (by decide)) vL_Mo_340_Mo rfl rfl rfl rfl rfl rfl ⟨aw_le rfl, aw_le rfl⟩ ?_
                      refine aw_aload_n (aw_d q_Mo_valueTags 97 rfl) rfl rfl rfl ?_
                      refine aw_ldc2 (aw_d q_Mo_valueTags 98 rfl) lL_Mo_249 ?_
                      refine aw_iconst (v := nI 1) (aw_d q_Mo_valueTags 99 rfl) (by decide) ?_
                      refine cVv (aw_d q_Mo_valueTags 100 rfl) (sp_mustI (show u171 ≤ 3000 by have := hc.2.1; have := hp_170s; omega) (by decide)) vL_Mo_340_Mo rfl rfl rfl rfl rfl rfl ⟨aw_le rfl, aw_le rfl⟩ ?_
                      refine aw_aload_n (aw_d q_Mo_valueTags 101 rfl) rfl rfl rfl ?_
                      refine aw_getf (v := .int (nI (b171))) (aw_d q_Mo_valueTags 102 rfl) fL_Mo_324_Mo rfl (gk rfl) ?_
                      refine aw_istore (aw_d q_Mo_valueTags 103 rfl) (aw_le rfl) rfl ?_
                      refine aw_aload_n (aw_d q_Mo_valueTags 104 rfl) rfl rfl rfl ?_
                      refine cVv (aw_d q_Mo_valueTags 105 rfl) (sp_tagTI (show u171 ≤ 3000 by have := hc.2.1; have := hp_170s; omega) (show b171 ≤ 3010 by have := hc.2.1; omega)) vL_Mo_448_Mo rfl rfl rfl rfl rfl rfl ⟨aw_le rfl, aw_le rfl⟩ ?_
                      refine aw_aload_n (aw_d q_Mo_valueTags 106 rfl) rfl rfl rfl ?_
                      refine aw_iload_n (aw_d q_Mo_valueTags 107 rfl) rfl rfl ?_
                      refine aw_iload (aw_d q_Mo_valueTags 108 rfl) rfl ?_
                      refine cVv (aw_d q_Mo_valueTags 109 rfl) (sp_checkI (show u171 ≤ 3000 by have := hc.2.1; have := hp_170s; omega) (show b171 ≤ 3010 by have := hc.2.1; omega)) vL_Mo_417_Mo rfl rfl rfl rfl rfl rfl ⟨aw_le rfl, aw_le rfl⟩ ?_
                      refine aw_aload_n (aw_d q_Mo_valueTags 110 rfl) rfl rfl rfl ?_
                      refine aw_iload_n (aw_d q_Mo_valueTags 111 rfl) rfl rfl ?_
                      refine aw_iload_n (aw_d q_Mo_valueTags 112 rfl) rfl rfl ?_
                      refine aw_iload (aw_d q_Mo_valueTags 113 rfl) rfl ?_
                      refine cVv (aw_d q_Mo_valueTags 114 rfl) (sp_giveI (show u171 ≤ 3000 by have := hc.2.1; have := hp_170s; omega) (show b171 ≤ 3010 by have := hc.2.1; omega)) vL_Mo_430_Mo rfl rfl rfl rfl rfl rfl ⟨aw_le rfl, aw_le rfl⟩ ?_
                      refine aw_iload_n (aw_d q_Mo_valueTags 115 rfl) rfl rfl ?_
                      refine aw_ifN_ne (tgt := 244) (aw_d q_Mo_valueTags 116 rfl) (by decide) (by (have hc2 := hc.2.1; omega)) (fun c229 => ?_) (fun c229 => by exfalso; (have hc2 := hc.2.1; omega))
                      refine aw_iload_n (aw_d q_Mo_valueTags 122 rfl) rfl rfl ?_
                      refine aw_iconst (v := nI 1) (aw_d q_Mo_valueTags 123 rfl) (by decide) ?_
                      refine aw_icmpN_ne (tgt := 261) (aw_d q_Mo_valueTags 124 rfl) (by decide) (by (have hc2 := hc.2.1; omega)) (by (have hc2 := hc.2.1; omega)) (fun c246 => ?_) (fun c246 => by exfalso; (have hc2 := hc.2.1; omega))
                      refine aw_aload_n (aw_d q_Mo_valueTags 130 rfl) rfl rfl rfl ?_
                      refine aw_ldc2 (aw_d q_Mo_valueTags 131 rfl) lL_Mo_273 ?_
                      refine aw_bipush (v := nI 8) (aw_d q_Mo_valueTags 132 rfl) (by decide) ?_
                      refine cVv (aw_d q_Mo_valueTags 133 rfl) (sp_mustI (show u171 ≤ 3000 by have := hc.2.1; have := hp_170s; omega) (by decide)) vL_Mo_340_Mo rfl rfl rfl rfl rfl rfl ⟨aw_le rfl, aw_le rfl⟩ ?_
                      refine aw_aload_n (aw_d q_Mo_valueTags 134 rfl) rfl rfl rfl ?_
                      refine aw_ldc2 (aw_d q_Mo_valueTags 135 rfl) lL_Mo_275 ?_
                      refine aw_iconst (v := nI 2) (aw_d q_Mo_valueTags 136 rfl) (by decide) ?_
                      refine cVv (aw_d q_Mo_valueTags 137 rfl) (sp_mustI (show u171 ≤ 3000 by have := hc.2.1; have := hp_170s; omega) (by decide)) vL_Mo_340_Mo rfl rfl rfl rfl rfl rfl ⟨aw_le rfl, aw_le rfl⟩ ?_
                      exact aw_vret (aw_d q_Mo_valueTags 138 rfl) rfl (⟨rfl, by rw [show vtV T n p = .error u171 by simp only [vtV, xm, xo, xy, okT, xc_0, xc_1, xc_2, xc_3, xc_4, bd_bd, Bool.false_eq_true, bd_ok, bd_er, if_true, if_false, eq_self, ↓reduceIte, hx8s, hx79s, hx170s, hx171, show ¬ (T b5).toInt = 117 by omega, show ¬ (T b5).toInt = 98 by omega, show ((T b76).toInt = 32) = True from eq_true (by omega), show ¬ (T (b76 + 1)).toInt = 120 by omega, show ¬ (4 = 3) by decide]]; exact ⟨by have := hc.2.1; omega, _, _, _, _, _, hI.1, by have := hc.2.1; omega, rfl⟩⟩)
                    | ok y171 =>
                      rw [hx171] at hp171
                      obtain ⟨rfl, hy171, he171, rfl⟩ := hp171
                      refine aw_istore (aw_d q_Mo_valueTags 87 rfl) (aw_le rfl) rfl ?_
                      refine aw_goto (tgt := 187) (aw_d q_Mo_valueTags 88 rfl) (by decide) ?_
                      refine aw_aload_n (aw_d q_Mo_valueTags 93 rfl) rfl rfl rfl ?_
                      refine aw_ldc2 (aw_d q_Mo_valueTags 94 rfl) lL_Mo_167 ?_
                      refine aw_iconst (v := nI 1) (aw_d q_Mo_valueTags 95 rfl) (by decide) ?_
                      refine cV (aw_d q_Mo_valueTags 96 rfl) (sp_Umust (res := .ok (y171.1, ())) (A := []) (x := 34) (j := 1) (frM_TP hI.1 hc) (by decide) (RR_su (T := T) hy171)) vL_Mo_340_Mo rfl rfl rfl rfl rfl rfl ⟨aw_le rfl, aw_le rfl⟩ (fun r192 h192 hp192 => ?_)
                      obtain ⟨rfl, b192, q192, hr192, rfl⟩ := hp192
                      refine aw_aload_n (aw_d q_Mo_valueTags 97 rfl) rfl rfl rfl ?_
                      refine aw_ldc2 (aw_d q_Mo_valueTags 98 rfl) lL_Mo_249 ?_
                      refine aw_iconst (v := nI 1) (aw_d q_Mo_valueTags 99 rfl) (by decide) ?_
                      refine cV (aw_d q_Mo_valueTags 100 rfl) (sp_Umust (res := .ok (y171.1, ())) (A := ([] ++ eB 34 1)) (x := 62) (j := 1) (frM_TP hI.1 hc) (by decide) hr192) vL_Mo_340_Mo rfl rfl rfl rfl rfl rfl ⟨aw_le rfl, aw_le rfl⟩ (fun r200 h200 hp200 => ?_)
                      obtain ⟨rfl, b200, q200, hr200, rfl⟩ := hp200
                      rw [bp_ok, show mu T (([] ++ eB 34 1) ++ eB 62 1) y171.1 = bd (mu T (tx 81) y171.1) (mu T (tx 82)) from (mu_2 (by decide))] at hr200
                      cases hx203s : bd (mu T (tx 81) y171.1) (mu T (tx 82)) with
                      | error u203s =>
                        rw [hx203s] at hr200
                        obtain ⟨hu203s, rfl, hb203s⟩ := hr200
                        refine aw_aload_n (aw_d q_Mo_valueTags 101 rfl) rfl rfl rfl ?_
                        refine aw_getf (v := .int (nI (b200))) (aw_d q_Mo_valueTags 102 rfl) fL_Mo_324_Mo rfl (gk rfl) ?_
                        refine aw_istore (aw_d q_Mo_valueTags 103 rfl) (aw_le rfl) rfl ?_
                        refine aw_aload_n (aw_d q_Mo_valueTags 104 rfl) rfl rfl rfl ?_
                        refine cVv (aw_d q_Mo_valueTags 105 rfl) (sp_tagTI hu203s hb203s) vL_Mo_448_Mo rfl rfl rfl rfl rfl rfl ⟨aw_le rfl, aw_le rfl⟩ ?_
                        refine aw_aload_n (aw_d q_Mo_valueTags 106 rfl) rfl rfl rfl ?_
                        refine aw_iload_n (aw_d q_Mo_valueTags 107 rfl) rfl rfl ?_
                        refine aw_iload (aw_d q_Mo_valueTags 108 rfl) rfl ?_
                        refine cVv (aw_d q_Mo_valueTags 109 rfl) (sp_checkI hu203s hb203s) vL_Mo_417_Mo rfl rfl rfl rfl rfl rfl ⟨aw_le rfl, aw_le rfl⟩ ?_
                        refine aw_aload_n (aw_d q_Mo_valueTags 110 rfl) rfl rfl rfl ?_
                        refine aw_iload_n (aw_d q_Mo_valueTags 111 rfl) rfl rfl ?_
                        refine aw_iload_n (aw_d q_Mo_valueTags 112 rfl) rfl rfl ?_
                        refine aw_iload (aw_d q_Mo_valueTags 113 rfl) rfl ?_
                        refine cVv (aw_d q_Mo_valueTags 114 rfl) (sp_giveI hu203s hb203s) vL_Mo_430_Mo rfl rfl rfl rfl rfl rfl ⟨aw_le rfl, aw_le rfl⟩ ?_
                        refine aw_iload_n (aw_d q_Mo_valueTags 115 rfl) rfl rfl ?_
                        refine aw_ifN_ne (tgt := 244) (aw_d q_Mo_valueTags 116 rfl) (by decide) (by (have hc2 := hc.2.1; omega)) (fun c229 => ?_) (fun c229 => by exfalso; (have hc2 := hc.2.1; omega))
                        refine aw_iload_n (aw_d q_Mo_valueTags 122 rfl) rfl rfl ?_
                        refine aw_iconst (v := nI 1) (aw_d q_Mo_valueTags 123 rfl) (by decide) ?_
                        refine aw_icmpN_ne (tgt := 261) (aw_d q_Mo_valueTags 124 rfl) (by decide) (by (have hc2 := hc.2.1; omega)) (by (have hc2 := hc.2.1; omega)) (fun c246 => ?_) (fun c246 => by exfalso; (have hc2 := hc.2.1; omega))
                        refine aw_aload_n (aw_d q_Mo_valueTags 130 rfl) rfl rfl rfl ?_
                        refine aw_ldc2 (aw_d q_Mo_valueTags 131 rfl) lL_Mo_273 ?_
                        refine aw_bipush (v := nI 8) (aw_d q_Mo_valueTags 132 rfl) (by decide) ?_
                        refine cVv (aw_d q_Mo_valueTags 133 rfl) (sp_mustI hu203s (by decide)) vL_Mo_340_Mo rfl rfl rfl rfl rfl rfl ⟨aw_le rfl, aw_le rfl⟩ ?_
                        refine aw_aload_n (aw_d q_Mo_valueTags 134 rfl) rfl rfl rfl ?_
                        refine aw_ldc2 (aw_d q_Mo_valueTags 135 rfl) lL_Mo_275 ?_
                        refine aw_iconst (v := nI 2) (aw_d q_Mo_valueTags 136 rfl) (by decide) ?_
                        refine cVv (aw_d q_Mo_valueTags 137 rfl) (sp_mustI hu203s (by decide)) vL_Mo_340_Mo rfl rfl rfl rfl rfl rfl ⟨aw_le rfl, aw_le rfl⟩ ?_
                        exact aw_vret (aw_d q_Mo_valueTags 138 rfl) rfl (⟨rfl, by rw [show vtV T n p = .error u203s by simp only [vtV, xm, xo, xy, okT, xc_0, xc_1, xc_2, xc_3, xc_4, bd_bd, Bool.false_eq_true, bd_ok, bd_er, if_true, if_false, eq_self, ↓reduceIte, hx8s, hx79s, hx170s, hx171, show ∀ k : Nat → Except Nat it_T, bd (mu T (tx 81) y171.1) (fun a => bd (mu T (tx 82) a) k) = bd (.error u203s) k from fun k => by rw [← bd_bd, hx203s], show ¬ (T b5).toInt = 117 by omega, show ¬ (T b5).toInt = 98 by omega, show ((T b76).toInt = 32) = True from eq_true (by omega), show ¬ (T (b76 + 1)).toInt = 120 by omega, show ¬ (4 = 3) by decide]]; exact ⟨hu203s, _, _, _, _, _, hI.1, hb203s, rfl⟩⟩)
                      | ok p203s =>
                        rw [hx203s] at hr200
                        obtain ⟨hbb203s, hp_203s, rfl⟩ := hr200
                        have hbb203s : b200 = p203s := hbb203s
                        subst hbb203s
                        refine aw_aload_n (aw_d q_Mo_valueTags 101 rfl) rfl rfl rfl ?_
                        refine aw_getf (v := .int (nI (b200))) (aw_d q_Mo_valueTags 102 rfl) fL_Mo_324_Mo rfl (gk rfl) ?_
                        refine aw_istore (aw_d q_Mo_valueTags 103 rfl) (aw_le rfl) rfl ?_
                        refine aw_aload_n (aw_d q_Mo_valueTags 104 rfl) rfl rfl rfl ?_
                        refine cV (aw_d q_Mo_valueTags 105 rfl) (sp_tagTA (frM_TP hI.1 hc) hp_203s) vL_Mo_448_Mo rfl rfl rfl rfl rfl rfl ⟨aw_le rfl, aw_le rfl⟩ (fun r210 h210 hp210 => ?_)
                        obtain ⟨rfl, hp210⟩ := hp210
                        cases hx210 : xt T 21 b200 [] with
                        | error u210 =>
                          rw [hx210] at hp210
                          obtain ⟨hu210, b210, z210, X210, hb210, rfl⟩ := hp210
                          refine aw_aload_n (aw_d q_Mo_valueTags 106 rfl) rfl rfl rfl ?_
                          refine aw_iload_n (aw_d q_Mo_valueTags 107 rfl) rfl rfl ?_
                          refine aw_iload (aw_d q_Mo_valueTags 108 rfl) rfl ?_
                          refine cVv (aw_d q_Mo_valueTags 109 rfl) (sp_checkI (Nat.le_trans hu210 hc.2.1) hb210) vL_Mo_417_Mo rfl rfl rfl rfl rfl rfl ⟨aw_le rfl, aw_le rfl⟩ ?_
                          refine aw_aload_n (aw_d q_Mo_valueTags 110 rfl) rfl rfl rfl ?_
                          refine aw_iload_n (aw_d q_Mo_valueTags 111 rfl) rfl rfl ?_
                          refine aw_iload_n (aw_d q_Mo_valueTags 112 rfl) rfl rfl ?_
                          refine aw_iload (aw_d q_Mo_valueTags 113 rfl) rfl ?_
                          refine cVv (aw_d q_Mo_valueTags 114 rfl) (sp_giveI (Nat.le_trans hu210 hc.2.1) hb210) vL_Mo_430_Mo rfl rfl rfl rfl rfl rfl ⟨aw_le rfl, aw_le rfl⟩ ?_
                          refine aw_iload_n (aw_d q_Mo_valueTags 115 rfl) rfl rfl ?_
                          refine aw_ifN_ne (tgt := 244) (aw_d q_Mo_valueTags 116 rfl) (by decide) (by (have hc2 := hc.2.1; omega)) (fun c229 => ?_) (fun c229 => by exfalso; (have hc2 := hc.2.1; omega))
                          refine aw_iload_n (aw_d q_Mo_valueTags 122 rfl) rfl rfl ?_
                          refine aw_iconst (v := nI 1) (aw_d q_Mo_valueTags 123 rfl) (by decide) ?_
                          refine aw_icmpN_ne (tgt := 261) (aw_d q_Mo_valueTags 124 rfl) (by decide) (by (have hc2 := hc.2.1; omega)) (by (have hc2 := hc.2.1; omega)) (fun c246 => ?_) (fun c246 => by exfalso; (have hc2 := hc.2.1; omega))
                          refine aw_aload_n (aw_d q_Mo_valueTags 130 rfl) rfl rfl rfl ?_
                          refine aw_ldc2 (aw_d q_Mo_valueTags 131 rfl) lL_Mo_273 ?_
                          refine aw_bipush (v := nI 8) (aw_d q_Mo_valueTags 132 rfl) (by decide) ?_
                          refine cVv (aw_d q_Mo_valueTags 133 rfl) (sp_mustI (Nat.le_trans hu210 hc.2.1) (by decide)) vL_Mo_340_Mo rfl rfl rfl rfl rfl rfl ⟨aw_le rfl, aw_le rfl⟩ ?_
                          refine aw_aload_n (aw_d q_Mo_valueTags 134 rfl) rfl rfl rfl ?_
                          refine aw_ldc2 (aw_d q_Mo_valueTags 135 rfl) lL_Mo_275 ?_
                          refine aw_iconst (v := nI 2) (aw_d q_Mo_valueTags 136 rfl) (by decide) ?_
                          refine cVv (aw_d q_Mo_valueTags 137 rfl) (sp_mustI (Nat.le_trans hu210 hc.2.1) (by decide)) vL_Mo_340_Mo rfl rfl rfl rfl rfl rfl ⟨aw_le rfl, aw_le rfl⟩ ?_
                          exact aw_vret (aw_d q_Mo_valueTags 138 rfl) rfl (⟨rfl, by rw [show vtV T n p = .error u210 by simp only [vtV, xm, xo, xy, okT, xc_0, xc_1, xc_2, xc_3, xc_4, bd_bd, Bool.false_eq_true, bd_ok, bd_er, if_true, if_false, eq_self, ↓reduceIte, hx8s, hx79s, hx170s, hx171, show ∀ k : Nat → Except Nat it_T, bd (mu T (tx 81) y171.1) (fun a => bd (mu T (tx 82) a) k) = bd (.ok b200) k from fun k => by rw [← bd_bd, hx203s], hx210, show ¬ (T b5).toInt = 117 by omega, show ¬ (T b5).toInt = 98 by omega, show ((T b76).toInt = 32) = True from eq_true (by omega), show ¬ (T (b76 + 1)).toInt = 120 by omega, show ¬ (4 = 3) by decide]]; exact ⟨Nat.le_trans hu210 hc.2.1, _, _, _, _, _, hI.1, hb210, rfl⟩⟩)
                        | ok y210 =>
                          rw [hx210] at hp210
                          obtain ⟨hy210, h60210, rfl⟩ := hp210
                          refine aw_aload_n (aw_d q_Mo_valueTags 106 rfl) rfl rfl rfl ?_
                          refine aw_iload_n (aw_d q_Mo_valueTags 107 rfl) rfl rfl ?_
                          refine aw_iload (aw_d q_Mo_valueTags 108 rfl) rfl ?_
                          refine cV (aw_d q_Mo_valueTags 109 rfl) (sp_checkA (L := y210.2) (kd := 4) (x := nI b200) hy210.2.1 hy210.2.2 (by omega)) vL_Mo_417_Mo rfl rfl rfl rfl rfl rfl ⟨aw_le rfl, aw_le rfl⟩ (fun r217 h217 hp217 => ?_)
                          obtain ⟨rfl, hp217⟩ := hp217
                          rcases hp217 with ⟨hk217, rfl⟩ | ⟨hk217, rfl⟩
                          · skip -- ok
                            refine aw_aload_n (aw_d q_Mo_valueTags 110 rfl) rfl rfl rfl ?_
                            refine aw_iload_n (aw_d q_Mo_valueTags 111 rfl) rfl rfl ?_
                            refine aw_iload_n (aw_d q_Mo_valueTags 112 rfl) rfl rfl ?_
                            refine aw_iload (aw_d q_Mo_valueTags 113 rfl) rfl ?_
                            refine cV (aw_d q_Mo_valueTags 114 rfl) (sp_giveA (kd := 4) (ex := y171.2) (L := y210.2) hI hs hv hy210.2.1) vL_Mo_430_Mo rfl rfl rfl rfl rfl rfl ⟨aw_le rfl, aw_le rfl⟩ (fun r225 h225 hp225 => ?_)
                            obtain ⟨rfl, F225, hI225, rfl⟩ := hp225
                            refine aw_iload_n (aw_d q_Mo_valueTags 115 rfl) rfl rfl ?_
                            refine aw_ifN_ne (tgt := 244) (aw_d q_Mo_valueTags 116 rfl) (by decide) (by (have hc2 := hc.2.1; omega)) (fun c229 => ?_) (fun c229 => by exfalso; (have hc2 := hc.2.1; omega))
                            refine aw_iload_n (aw_d q_Mo_valueTags 122 rfl) rfl rfl ?_
                            refine aw_iconst (v := nI 1) (aw_d q_Mo_valueTags 123 rfl) (by decide) ?_
                            refine aw_icmpN_ne (tgt := 261) (aw_d q_Mo_valueTags 124 rfl) (by decide) (by (have hc2 := hc.2.1; omega)) (by (have hc2 := hc.2.1; omega)) (fun c246 => ?_) (fun c246 => by exfalso; (have hc2 := hc.2.1; omega))
                            refine aw_aload_n (aw_d q_Mo_valueTags 130 rfl) rfl rfl rfl ?_
                            refine aw_ldc2 (aw_d q_Mo_valueTags 131 rfl) lL_Mo_273 ?_
                            refine aw_bipush (v := nI 8) (aw_d q_Mo_valueTags 132 rfl) (by decide) ?_
                            refine cV (aw_d q_Mo_valueTags 133 rfl) (sp_Umust (res := .ok (y210.1, ())) (A := []) (x := 4336804166361248353) (j := 8) (frM_TP hI225.1 hc) (by decide) (RR_su (T := T) hy210.1)) vL_Mo_340_Mo rfl rfl rfl rfl rfl rfl ⟨aw_le rfl, aw_le rfl⟩ (fun r267 h267 hp267 => ?_)
                            obtain ⟨rfl, b267, q267, hr267, rfl⟩ := hp267
                            refine aw_aload_n (aw_d q_Mo_valueTags 134 rfl) rfl rfl rfl ?_
                            refine aw_ldc2 (aw_d q_Mo_valueTags 135 rfl) lL_Mo_275 ?_
                            refine aw_iconst (v := nI 2) (aw_d q_Mo_valueTags 136 rfl) (by decide) ?_
                            refine cV (aw_d q_Mo_valueTags 137 rfl) (sp_Umust (res := .ok (y210.1, ())) (A := ([] ++ eB 4336804166361248353 8)) (x := 27710) (j := 2) (frM_TP hI225.1 hc) (by decide) hr267) vL_Mo_340_Mo rfl rfl rfl rfl rfl rfl ⟨aw_le rfl, aw_le rfl⟩ (fun r275 h275 hp275 => ?_)
                            obtain ⟨rfl, b275, q275, hr275, rfl⟩ := hp275
                            rw [bp_ok, show mu T (([] ++ eB 4336804166361248353 8) ++ eB 27710 2) y210.1 = mu T (tx 43) y210.1 from (congrArg (fun L => mu T L _) (show _ = tx 43 by decide))] at hr275
                            cases hx278s : mu T (tx 43) y210.1 with
                            | error u278s =>
                              rw [hx278s] at hr275
                              obtain ⟨hu278s, rfl, hb278s⟩ := hr275
                              exact aw_vret (aw_d q_Mo_valueTags 138 rfl) rfl (⟨rfl, by rw [show vtV T n p = .error u278s by simp only [vtV, xm, xo, xy, okT, xc_0, xc_1, xc_2, xc_3, xc_4, bd_bd, Bool.false_eq_true, bd_ok, bd_er, if_true, if_false, eq_self, ↓reduceIte, hx8s, hx79s, hx170s, hx171, show ∀ k : Nat → Except Nat it_T, bd (mu T (tx 81) y171.1) (fun a => bd (mu T (tx 82) a) k) = bd (.ok b200) k from fun k => by rw [← bd_bd, hx203s], hx210, hx278s, show ¬ (T b5).toInt = 117 by omega, show ¬ (T b5).toInt = 98 by omega, show ((T b76).toInt = 32) = True from eq_true (by omega), show ¬ (T (b76 + 1)).toInt = 120 by omega, show ¬ (4 = 3) by decide, hk217]]; exact ⟨hu278s, _, _, _, _, _, hI225.1, hb278s, rfl⟩⟩)
                            | ok p278s =>
                              rw [hx278s] at hr275
                              obtain ⟨hbb278s, hp_278s, rfl⟩ := hr275
                              have hbb278s : b275 = p278s := hbb278s
                              subst hbb278s
                              exact aw_vret (aw_d q_Mo_valueTags 138 rfl) rfl (⟨rfl, by rw [show vtV T n p = .ok (b275, 4, y171.2, y210.2) by simp only [vtV, xm, xo, xy, okT, xc_0, xc_1, xc_2, xc_3, xc_4, bd_bd, Bool.false_eq_true, bd_ok, bd_er, if_true, if_false, eq_self, ↓reduceIte, hx8s, hx79s, hx170s, hx171, show ∀ k : Nat → Except Nat it_T, bd (mu T (tx 81) y171.1) (fun a => bd (mu T (tx 82) a) k) = bd (.ok b200) k from fun k => by rw [← bd_bd, hx203s], hx210, hx278s, show ¬ (T b5).toInt = 117 by omega, show ¬ (T b5).toInt = 98 by omega, show ((T b76).toInt = 32) = True from eq_true (by omega), show ¬ (T (b76 + 1)).toInt = 120 by omega, show ¬ (4 = 3) by decide, hk217]]; exact ⟨_, _, _, _, ⟨hI225, itW_i (kd := 4) (ex := y171.2) (by decide) hy210.2.1 (Nat.lt_trans he171 (by decide)) (fun _ => he171) (fun h => absurd h (by decide)) hy210.2.2 (hk217)⟩, hp_278s, rfl⟩⟩)
                          · skip -- no
                            refine aw_aload_n (aw_d q_Mo_valueTags 110 rfl) rfl rfl rfl ?_
                            refine aw_iload_n (aw_d q_Mo_valueTags 111 rfl) rfl rfl ?_
                            refine aw_iload_n (aw_d q_Mo_valueTags 112 rfl) rfl rfl ?_
                            refine aw_iload (aw_d q_Mo_valueTags 113 rfl) rfl ?_
                            refine cVv (aw_d q_Mo_valueTags 114 rfl) (sp_giveI (show b200 ≤ 3000 by have := hc.2.1; omega) (show y210.1 ≤ 3010 by have := hc.2.1; have := hy210.1; omega)) vL_Mo_430_Mo rfl rfl rfl rfl rfl rfl ⟨aw_le rfl, aw_le rfl⟩ ?_
                            refine aw_iload_n (aw_d q_Mo_valueTags 115 rfl) rfl rfl ?_
                            refine aw_ifN_ne (tgt := 244) (aw_d q_Mo_valueTags 116 rfl) (by decide) (by (have hc2 := hc.2.1; omega)) (fun c229 => ?_) (fun c229 => by exfalso; (have hc2 := hc.2.1; omega))
                            refine aw_iload_n (aw_d q_Mo_valueTags 122 rfl) rfl rfl ?_
                            refine aw_iconst (v := nI 1) (aw_d q_Mo_valueTags 123 rfl) (by decide) ?_
                            refine aw_icmpN_ne (tgt := 261) (aw_d q_Mo_valueTags 124 rfl) (by decide) (by (have hc2 := hc.2.1; omega)) (by (have hc2 := hc.2.1; omega)) (fun c246 => ?_) (fun c246 => by exfalso; (have hc2 := hc.2.1; omega))
                            refine aw_aload_n (aw_d q_Mo_valueTags 130 rfl) rfl rfl rfl ?_
                            refine aw_ldc2 (aw_d q_Mo_valueTags 131 rfl) lL_Mo_273 ?_
                            refine aw_bipush (v := nI 8) (aw_d q_Mo_valueTags 132 rfl) (by decide) ?_
                            refine cVv (aw_d q_Mo_valueTags 133 rfl) (sp_mustI (show b200 ≤ 3000 by have := hc.2.1; omega) (by decide)) vL_Mo_340_Mo rfl rfl rfl rfl rfl rfl ⟨aw_le rfl, aw_le rfl⟩ ?_
                            refine aw_aload_n (aw_d q_Mo_valueTags 134 rfl) rfl rfl rfl ?_
                            refine aw_ldc2 (aw_d q_Mo_valueTags 135 rfl) lL_Mo_275 ?_
                            refine aw_iconst (v := nI 2) (aw_d q_Mo_valueTags 136 rfl) (by decide) ?_
                            refine cVv (aw_d q_Mo_valueTags 137 rfl) (sp_mustI (show b200 ≤ 3000 by have := hc.2.1; omega) (by decide)) vL_Mo_340_Mo rfl rfl rfl rfl rfl rfl ⟨aw_le rfl, aw_le rfl⟩ ?_
                            exact aw_vret (aw_d q_Mo_valueTags 138 rfl) rfl (⟨rfl, by rw [show vtV T n p = .error b200 by simp only [vtV, xm, xo, xy, okT, xc_0, xc_1, xc_2, xc_3, xc_4, bd_bd, Bool.false_eq_true, bd_ok, bd_er, if_true, if_false, eq_self, ↓reduceIte, hx8s, hx79s, hx170s, hx171, show ∀ k : Nat → Except Nat it_T, bd (mu T (tx 81) y171.1) (fun a => bd (mu T (tx 82) a) k) = bd (.ok b200) k from fun k => by rw [← bd_bd, hx203s], hx210, show ¬ (T b5).toInt = 117 by omega, show ¬ (T b5).toInt = 98 by omega, show ((T b76).toInt = 32) = True from eq_true (by omega), show ¬ (T (b76 + 1)).toInt = 120 by omega, show ¬ (4 = 3) by decide, hk217]]; exact ⟨by have := hc.2.1; omega, _, _, _, _, _, hI.1, by have := hc.2.1; have := hy210.1; omega, rfl⟩⟩)
              · refine aw_aload_n (aw_d q_Mo_valueTags 57 rfl) rfl rfl rfl ?_
                refine aw_ldc2 (aw_d q_Mo_valueTags 58 rfl) lL_Mo_420 ?_
                refine aw_bipush (v := nI 8) (aw_d q_Mo_valueTags 59 rfl) (by decide) ?_
                refine cV (aw_d q_Mo_valueTags 60 rfl) (sp_Umust (res := .ok ((b76 + 1), ())) (A := []) (x := 8677711055195041383) (j := 8) (frM_TP hI.1 hc) (by decide) (RR_su (T := T) hp105s)) vL_Mo_340_Mo rfl rfl rfl rfl rfl rfl ⟨aw_le rfl, aw_le rfl⟩ (fun r120 h120 hp120 => ?_)
                obtain ⟨rfl, b120, q120, hr120, rfl⟩ := hp120
                refine aw_aload_n (aw_d q_Mo_valueTags 61 rfl) rfl rfl rfl ?_
                refine aw_ldc2 (aw_d q_Mo_valueTags 62 rfl) lL_Mo_446 ?_
                refine aw_iconst (v := nI 2) (aw_d q_Mo_valueTags 63 rfl) (by decide) ?_
                refine cV (aw_d q_Mo_valueTags 64 rfl) (sp_Umust (res := .ok ((b76 + 1), ())) (A := ([] ++ eB 8677711055195041383 8)) (x := 15650) (j := 2) (frM_TP hI.1 hc) (by decide) hr120) vL_Mo_340_Mo rfl rfl rfl rfl rfl rfl ⟨aw_le rfl, aw_le rfl⟩ (fun r128 h128 hp128 => ?_)
                obtain ⟨rfl, b128, q128, hr128, rfl⟩ := hp128
                refine aw_iconst (v := nI 3) (aw_d q_Mo_valueTags 65 rfl) (by decide) ?_
                refine aw_istore_n (aw_d q_Mo_valueTags 66 rfl) rfl (aw_le rfl) rfl ?_
                rw [bp_ok, show mu T (([] ++ eB 8677711055195041383 8) ++ eB 15650 2) (b76 + 1) = mu T (tx 79) (b76 + 1) from (congrArg (fun L => mu T L _) (show _ = tx 79 by decide))] at hr128
                cases hx133s : mu T (tx 79) (b76 + 1) with
                | error u133s =>
                  rw [hx133s] at hr128
                  obtain ⟨hu133s, rfl, hb133s⟩ := hr128
                  refine aw_aload_n (aw_d q_Mo_valueTags 67 rfl) rfl rfl rfl ?_
                  refine cVr (aw_d q_Mo_valueTags 68 rfl) (sp_tagI hu133s hb133s) vL_Mo_424_Mo rfl rfl rfl rfl rfl rfl ⟨aw_le rfl, aw_le rfl⟩ ?_
                  refine aw_istore (aw_d q_Mo_valueTags 69 rfl) (aw_le rfl) rfl ?_
                  refine aw_goto (tgt := 187) (aw_d q_Mo_valueTags 70 rfl) (by decide) ?_
                  refine aw_aload_n (aw_d q_Mo_valueTags 93 rfl) rfl rfl rfl ?_
                  refine aw_ldc2 (aw_d q_Mo_valueTags 94 rfl) lL_Mo_167 ?_
                  refine aw_iconst (v := nI 1) (aw_d q_Mo_valueTags 95 rfl) (by decide) ?_
                  refine cVv (aw_d q_Mo_valueTags 96 rfl) (sp_mustI hu133s (by decide)) vL_Mo_340_Mo rfl rfl rfl rfl rfl rfl ⟨aw_le rfl, aw_le rfl⟩ ?_
                  refine aw_aload_n (aw_d q_Mo_valueTags 97 rfl) rfl rfl rfl ?_
                  refine aw_ldc2 (aw_d q_Mo_valueTags 98 rfl) lL_Mo_249 ?_
                  refine aw_iconst (v := nI 1) (aw_d q_Mo_valueTags 99 rfl) (by decide) ?_
                  refine cVv (aw_d q_Mo_valueTags 100 rfl) (sp_mustI hu133s (by decide)) vL_Mo_340_Mo rfl rfl rfl rfl rfl rfl ⟨aw_le rfl, aw_le rfl⟩ ?_
                  refine aw_aload_n (aw_d q_Mo_valueTags 101 rfl) rfl rfl rfl ?_
                  refine aw_getf (v := .int (nI (b128))) (aw_d q_Mo_valueTags 102 rfl) fL_Mo_324_Mo rfl (gk rfl) ?_
                  refine aw_istore (aw_d q_Mo_valueTags 103 rfl) (aw_le rfl) rfl ?_
                  refine aw_aload_n (aw_d q_Mo_valueTags 104 rfl) rfl rfl rfl ?_
                  refine cVv (aw_d q_Mo_valueTags 105 rfl) (sp_tagTI hu133s hb133s) vL_Mo_448_Mo rfl rfl rfl rfl rfl rfl ⟨aw_le rfl, aw_le rfl⟩ ?_
                  refine aw_aload_n (aw_d q_Mo_valueTags 106 rfl) rfl rfl rfl ?_
                  refine aw_iload_n (aw_d q_Mo_valueTags 107 rfl) rfl rfl ?_
                  refine aw_iload (aw_d q_Mo_valueTags 108 rfl) rfl ?_
                  refine cVv (aw_d q_Mo_valueTags 109 rfl) (sp_checkI hu133s hb133s) vL_Mo_417_Mo rfl rfl rfl rfl rfl rfl ⟨aw_le rfl, aw_le rfl⟩ ?_
                  refine aw_aload_n (aw_d q_Mo_valueTags 110 rfl) rfl rfl rfl ?_
                  refine aw_iload_n (aw_d q_Mo_valueTags 111 rfl) rfl rfl ?_
                  refine aw_iload_n (aw_d q_Mo_valueTags 112 rfl) rfl rfl ?_
                  refine aw_iload (aw_d q_Mo_valueTags 113 rfl) rfl ?_
                  refine cVv (aw_d q_Mo_valueTags 114 rfl) (sp_giveI hu133s hb133s) vL_Mo_430_Mo rfl rfl rfl rfl rfl rfl ⟨aw_le rfl, aw_le rfl⟩ ?_
                  refine aw_iload_n (aw_d q_Mo_valueTags 115 rfl) rfl rfl ?_
                  refine aw_ifN_ne (tgt := 244) (aw_d q_Mo_valueTags 116 rfl) (by decide) (by (have hc2 := hc.2.1; omega)) (fun c229 => ?_) (fun c229 => by exfalso; (have hc2 := hc.2.1; omega))
                  refine aw_iload_n (aw_d q_Mo_valueTags 122 rfl) rfl rfl ?_
                  refine aw_iconst (v := nI 1) (aw_d q_Mo_valueTags 123 rfl) (by decide) ?_
                  refine aw_icmpN_ne (tgt := 261) (aw_d q_Mo_valueTags 124 rfl) (by decide) (by (have hc2 := hc.2.1; omega)) (by (have hc2 := hc.2.1; omega)) (fun c246 => ?_) (fun c246 => by exfalso; (have hc2 := hc.2.1; omega))
                  refine aw_aload_n (aw_d q_Mo_valueTags 130 rfl) rfl rfl rfl ?_
                  refine aw_ldc2 (aw_d q_Mo_valueTags 131 rfl) lL_Mo_273 ?_
                  refine aw_bipush (v := nI 8) (aw_d q_Mo_valueTags 132 rfl) (by decide) ?_
                  refine cVv (aw_d q_Mo_valueTags 133 rfl) (sp_mustI hu133s (by decide)) vL_Mo_340_Mo rfl rfl rfl rfl rfl rfl ⟨aw_le rfl, aw_le rfl⟩ ?_
                  refine aw_aload_n (aw_d q_Mo_valueTags 134 rfl) rfl rfl rfl ?_
                  refine aw_ldc2 (aw_d q_Mo_valueTags 135 rfl) lL_Mo_275 ?_
                  refine aw_iconst (v := nI 2) (aw_d q_Mo_valueTags 136 rfl) (by decide) ?_
                  refine cVv (aw_d q_Mo_valueTags 137 rfl) (sp_mustI hu133s (by decide)) vL_Mo_340_Mo rfl rfl rfl rfl rfl rfl ⟨aw_le rfl, aw_le rfl⟩ ?_
                  exact aw_vret (aw_d q_Mo_valueTags 138 rfl) rfl (⟨rfl, by rw [show vtV T n p = .error u133s by simp only [vtV, xm, xo, xy, okT, xc_0, xc_1, xc_2, xc_3, xc_4, bd_bd, Bool.false_eq_true, bd_ok, bd_er, if_true, if_false, eq_self, ↓reduceIte, hx8s, hx79s, hx133s, show ¬ (T b5).toInt = 117 by omega, show ¬ (T b5).toInt = 98 by omega, show ((T b76).toInt = 32) = True from eq_true (by omega), show ((T (b76 + 1)).toInt = 120) = True from eq_true (by omega)]]; exact ⟨hu133s, _, _, _, _, _, hI.1, hb133s, rfl⟩⟩)
                | ok p133s =>
                  rw [hx133s] at hr128
                  obtain ⟨hbb133s, hp_133s, rfl⟩ := hr128
                  have hbb133s : b128 = p133s := hbb133s
                  subst hbb133s
                  refine aw_aload_n (aw_d q_Mo_valueTags 67 rfl) rfl rfl rfl ?_
                  refine cV (aw_d q_Mo_valueTags 68 rfl) (sp_tagA (frM_TP hI.1 hc) hp_133s) vL_Mo_424_Mo rfl rfl rfl rfl rfl rfl ⟨aw_le rfl, aw_le rfl⟩ (fun r134 h134 hp134 => ?_)
                  cases hx134 : ew T n 3 b128 with
                  | error u134 =>
                    rw [hx134] at hp134
                    obtain ⟨hue134, rfl, b134, hb134, rfl⟩ := hp134
                    subst hue134
                    refine aw_istore (aw_d q_Mo_valueTags 69 rfl) (aw_le rfl) rfl ?_
                    refine aw_goto (tgt := 187) (aw_d q_Mo_valueTags 70 rfl) (by decide) ?_
                    refine aw_aload_n (aw_d q_Mo_valueTags 93 rfl) rfl rfl rfl ?_
                    refine aw_ldc2 (aw_d q_Mo_valueTags 94 rfl) lL_Mo_167 ?_
                    refine aw_iconst (v := nI 1) (aw_d q_Mo_valueTags 95 rfl) (by decide) ?_
                    refine cVv (aw_d q_Mo_valueTags 96 rfl) (sp_mustI (show u134 ≤ 3000 by have := hc.2.1; have := hp_133s; omega) (by decide)) vL_Mo_340_Mo rfl rfl rfl rfl rfl rfl ⟨aw_le rfl, aw_le rfl⟩ ?_
                    refine aw_aload_n (aw_d q_Mo_valueTags 97 rfl) rfl rfl rfl ?_
                    refine aw_ldc2 (aw_d q_Mo_valueTags 98 rfl) lL_Mo_249 ?_
                    refine aw_iconst (v := nI 1) (aw_d q_Mo_valueTags 99 rfl) (by decide) ?_
                    refine cVv (aw_d q_Mo_valueTags 100 rfl) (sp_mustI (show u134 ≤ 3000 by have := hc.2.1; have := hp_133s; omega) (by decide)) vL_Mo_340_Mo rfl rfl rfl rfl rfl rfl ⟨aw_le rfl, aw_le rfl⟩ ?_
                    refine aw_aload_n (aw_d q_Mo_valueTags 101 rfl) rfl rfl rfl ?_
                    refine aw_getf (v := .int (nI (b134))) (aw_d q_Mo_valueTags 102 rfl) fL_Mo_324_Mo rfl (gk rfl) ?_
                    refine aw_istore (aw_d q_Mo_valueTags 103 rfl) (aw_le rfl) rfl ?_
                    refine aw_aload_n (aw_d q_Mo_valueTags 104 rfl) rfl rfl rfl ?_
                    refine cVv (aw_d q_Mo_valueTags 105 rfl) (sp_tagTI (show u134 ≤ 3000 by have := hc.2.1; have := hp_133s; omega) (show b134 ≤ 3010 by have := hc.2.1; omega)) vL_Mo_448_Mo rfl rfl rfl rfl rfl rfl ⟨aw_le rfl, aw_le rfl⟩ ?_
                    refine aw_aload_n (aw_d q_Mo_valueTags 106 rfl) rfl rfl rfl ?_
                    refine aw_iload_n (aw_d q_Mo_valueTags 107 rfl) rfl rfl ?_
                    refine aw_iload (aw_d q_Mo_valueTags 108 rfl) rfl ?_
                    refine cVv (aw_d q_Mo_valueTags 109 rfl) (sp_checkI (show u134 ≤ 3000 by have := hc.2.1; have := hp_133s; omega) (show b134 ≤ 3010 by have := hc.2.1; omega)) vL_Mo_417_Mo rfl rfl rfl rfl rfl rfl ⟨aw_le rfl, aw_le rfl⟩ ?_
                    refine aw_aload_n (aw_d q_Mo_valueTags 110 rfl) rfl rfl rfl ?_
                    refine aw_iload_n (aw_d q_Mo_valueTags 111 rfl) rfl rfl ?_
                    refine aw_iload_n (aw_d q_Mo_valueTags 112 rfl) rfl rfl ?_
                    refine aw_iload (aw_d q_Mo_valueTags 113 rfl) rfl ?_
                    refine cVv (aw_d q_Mo_valueTags 114 rfl) (sp_giveI (show u134 ≤ 3000 by have := hc.2.1; have := hp_133s; omega) (show b134 ≤ 3010 by have := hc.2.1; omega)) vL_Mo_430_Mo rfl rfl rfl rfl rfl rfl ⟨aw_le rfl, aw_le rfl⟩ ?_
                    refine aw_iload_n (aw_d q_Mo_valueTags 115 rfl) rfl rfl ?_
                    refine aw_ifN_ne (tgt := 244) (aw_d q_Mo_valueTags 116 rfl) (by decide) (by (have hc2 := hc.2.1; omega)) (fun c229 => ?_) (fun c229 => by exfalso; (have hc2 := hc.2.1; omega))
                    refine aw_iload_n (aw_d q_Mo_valueTags 122 rfl) rfl rfl ?_
                    refine aw_iconst (v := nI 1) (aw_d q_Mo_valueTags 123 rfl) (by decide) ?_
                    refine aw_icmpN_ne (tgt := 261) (aw_d q_Mo_valueTags 124 rfl) (by decide) (by (have hc2 := hc.2.1; omega)) (by (have hc2 := hc.2.1; omega)) (fun c246 => ?_) (fun c246 => by exfalso; (have hc2 := hc.2.1; omega))
                    refine aw_aload_n (aw_d q_Mo_valueTags 130 rfl) rfl rfl rfl ?_
                    refine aw_ldc2 (aw_d q_Mo_valueTags 131 rfl) lL_Mo_273 ?_
                    refine aw_bipush (v := nI 8) (aw_d q_Mo_valueTags 132 rfl) (by decide) ?_
                    refine cVv (aw_d q_Mo_valueTags 133 rfl) (sp_mustI (show u134 ≤ 3000 by have := hc.2.1; have := hp_133s; omega) (by decide)) vL_Mo_340_Mo rfl rfl rfl rfl rfl rfl ⟨aw_le rfl, aw_le rfl⟩ ?_
                    refine aw_aload_n (aw_d q_Mo_valueTags 134 rfl) rfl rfl rfl ?_
                    refine aw_ldc2 (aw_d q_Mo_valueTags 135 rfl) lL_Mo_275 ?_
                    refine aw_iconst (v := nI 2) (aw_d q_Mo_valueTags 136 rfl) (by decide) ?_
                    refine cVv (aw_d q_Mo_valueTags 137 rfl) (sp_mustI (show u134 ≤ 3000 by have := hc.2.1; have := hp_133s; omega) (by decide)) vL_Mo_340_Mo rfl rfl rfl rfl rfl rfl ⟨aw_le rfl, aw_le rfl⟩ ?_
                    exact aw_vret (aw_d q_Mo_valueTags 138 rfl) rfl (⟨rfl, by rw [show vtV T n p = .error u134 by simp only [vtV, xm, xo, xy, okT, xc_0, xc_1, xc_2, xc_3, xc_4, bd_bd, Bool.false_eq_true, bd_ok, bd_er, if_true, if_false, eq_self, ↓reduceIte, hx8s, hx79s, hx133s, hx134, show ¬ (T b5).toInt = 117 by omega, show ¬ (T b5).toInt = 98 by omega, show ((T b76).toInt = 32) = True from eq_true (by omega), show ((T (b76 + 1)).toInt = 120) = True from eq_true (by omega)]]; exact ⟨by have := hc.2.1; omega, _, _, _, _, _, hI.1, by have := hc.2.1; omega, rfl⟩⟩)
                  | ok y134 =>
                    rw [hx134] at hp134
                    obtain ⟨rfl, hy134, he134, rfl⟩ := hp134
                    refine aw_istore (aw_d q_Mo_valueTags 69 rfl) (aw_le rfl) rfl ?_
                    refine aw_goto (tgt := 187) (aw_d q_Mo_valueTags 70 rfl) (by decide) ?_
                    refine aw_aload_n (aw_d q_Mo_valueTags 93 rfl) rfl rfl rfl ?_
                    refine aw_ldc2 (aw_d q_Mo_valueTags 94 rfl) lL_Mo_167 ?_
                    refine aw_iconst (v := nI 1) (aw_d q_Mo_valueTags 95 rfl) (by decide) ?_
                    refine cV (aw_d q_Mo_valueTags 96 rfl) (sp_Umust (res := .ok (y134.1, ())) (A := []) (x := 34) (j := 1) (frM_TP hI.1 hc) (by decide) (RR_su (T := T) hy134)) vL_Mo_340_Mo rfl rfl rfl rfl rfl rfl ⟨aw_le rfl, aw_le rfl⟩ (fun r192 h192 hp192 => ?_)
                    obtain ⟨rfl, b192, q192, hr192, rfl⟩ := hp192
                    refine aw_aload_n (aw_d q_Mo_valueTags 97 rfl) rfl rfl rfl ?_
                    refine aw_ldc2 (aw_d q_Mo_valueTags 98 rfl) lL_Mo_249 ?_
                    refine aw_iconst (v := nI 1) (aw_d q_Mo_valueTags 99 rfl) (by decide) ?_
                    refine cV (aw_d q_Mo_valueTags 100 rfl) (sp_Umust (res := .ok (y134.1, ())) (A := ([] ++ eB 34 1)) (x := 62) (j := 1) (frM_TP hI.1 hc) (by decide) hr192) vL_Mo_340_Mo rfl rfl rfl rfl rfl rfl ⟨aw_le rfl, aw_le rfl⟩ (fun r200 h200 hp200 => ?_)
                    obtain ⟨rfl, b200, q200, hr200, rfl⟩ := hp200
                    rw [bp_ok, show mu T (([] ++ eB 34 1) ++ eB 62 1) y134.1 = bd (mu T (tx 81) y134.1) (mu T (tx 82)) from (mu_2 (by decide))] at hr200
                    cases hx203s : bd (mu T (tx 81) y134.1) (mu T (tx 82)) with
                    | error u203s =>
                      rw [hx203s] at hr200
                      obtain ⟨hu203s, rfl, hb203s⟩ := hr200
                      refine aw_aload_n (aw_d q_Mo_valueTags 101 rfl) rfl rfl rfl ?_
                      refine aw_getf (v := .int (nI (b200))) (aw_d q_Mo_valueTags 102 rfl) fL_Mo_324_Mo rfl (gk rfl) ?_
                      refine aw_istore (aw_d q_Mo_valueTags 103 rfl) (aw_le rfl) rfl ?_
                      refine aw_aload_n (aw_d q_Mo_valueTags 104 rfl) rfl rfl rfl ?_
                      refine cVv (aw_d q_Mo_valueTags 105 rfl) (sp_tagTI hu203s hb203s) vL_Mo_448_Mo rfl rfl rfl rfl rfl rfl ⟨aw_le rfl, aw_le rfl⟩ ?_
                      refine aw_aload_n (aw_d q_Mo_valueTags 106 rfl) rfl rfl rfl ?_
                      refine aw_iload_n (aw_d q_Mo_valueTags 107 rfl) rfl rfl ?_
                      refine aw_iload (aw_d q_Mo_valueTags 108 rfl) rfl ?_
                      refine cVv (aw_d q_Mo_valueTags 109 rfl) (sp_checkI hu203s hb203s) vL_Mo_417_Mo rfl rfl rfl rfl rfl rfl ⟨aw_le rfl, aw_le rfl⟩ ?_
                      refine aw_aload_n (aw_d q_Mo_valueTags 110 rfl) rfl rfl rfl ?_
                      refine aw_iload_n (aw_d q_Mo_valueTags 111 rfl) rfl rfl ?_
                      refine aw_iload_n (aw_d q_Mo_valueTags 112 rfl) rfl rfl ?_
                      refine aw_iload (aw_d q_Mo_valueTags 113 rfl) rfl ?_
                      refine cVv (aw_d q_Mo_valueTags 114 rfl) (sp_giveI hu203s hb203s) vL_Mo_430_Mo rfl rfl rfl rfl rfl rfl ⟨aw_le rfl, aw_le rfl⟩ ?_
                      refine aw_iload_n (aw_d q_Mo_valueTags 115 rfl) rfl rfl ?_
                      refine aw_ifN_ne (tgt := 244) (aw_d q_Mo_valueTags 116 rfl) (by decide) (by (have hc2 := hc.2.1; omega)) (fun c229 => ?_) (fun c229 => by exfalso; (have hc2 := hc.2.1; omega))
                      refine aw_iload_n (aw_d q_Mo_valueTags 122 rfl) rfl rfl ?_
                      refine aw_iconst (v := nI 1) (aw_d q_Mo_valueTags 123 rfl) (by decide) ?_
                      refine aw_icmpN_ne (tgt := 261) (aw_d q_Mo_valueTags 124 rfl) (by decide) (by (have hc2 := hc.2.1; omega)) (by (have hc2 := hc.2.1; omega)) (fun c246 => ?_) (fun c246 => by exfalso; (have hc2 := hc.2.1; omega))
                      refine aw_aload_n (aw_d q_Mo_valueTags 130 rfl) rfl rfl rfl ?_
                      refine aw_ldc2 (aw_d q_Mo_valueTags 131 rfl) lL_Mo_273 ?_
                      refine aw_bipush (v := nI 8) (aw_d q_Mo_valueTags 132 rfl) (by decide) ?_
                      refine cVv (aw_d q_Mo_valueTags 133 rfl) (sp_mustI hu203s (by decide)) vL_Mo_340_Mo rfl rfl rfl rfl rfl rfl ⟨aw_le rfl, aw_le rfl⟩ ?_
                      refine aw_aload_n (aw_d q_Mo_valueTags 134 rfl) rfl rfl rfl ?_
                      refine aw_ldc2 (aw_d q_Mo_valueTags 135 rfl) lL_Mo_275 ?_
                      refine aw_iconst (v := nI 2) (aw_d q_Mo_valueTags 136 rfl) (by decide) ?_
                      refine cVv (aw_d q_Mo_valueTags 137 rfl) (sp_mustI hu203s (by decide)) vL_Mo_340_Mo rfl rfl rfl rfl rfl rfl ⟨aw_le rfl, aw_le rfl⟩ ?_
                      exact aw_vret (aw_d q_Mo_valueTags 138 rfl) rfl (⟨rfl, by rw [show vtV T n p = .error u203s by simp only [vtV, xm, xo, xy, okT, xc_0, xc_1, xc_2, xc_3, xc_4, bd_bd, Bool.false_eq_true, bd_ok, bd_er, if_true, if_false, eq_self, ↓reduceIte, hx8s, hx79s, hx133s, hx134, show ∀ k : Nat → Except Nat it_T, bd (mu T (tx 81) y134.1) (fun a => bd (mu T (tx 82) a) k) = bd (.error u203s) k from fun k => by rw [← bd_bd, hx203s], show ¬ (T b5).toInt = 117 by omega, show ¬ (T b5).toInt = 98 by omega, show ((T b76).toInt = 32) = True from eq_true (by omega), show ((T (b76 + 1)).toInt = 120) = True from eq_true (by omega)]]; exact ⟨hu203s, _, _, _, _, _, hI.1, hb203s, rfl⟩⟩)
                    | ok p203s =>
                      rw [hx203s] at hr200
                      obtain ⟨hbb203s, hp_203s, rfl⟩ := hr200
                      have hbb203s : b200 = p203s := hbb203s
                      subst hbb203s
                      refine aw_aload_n (aw_d q_Mo_valueTags 101 rfl) rfl rfl rfl ?_
                      refine aw_getf (v := .int (nI (b200))) (aw_d q_Mo_valueTags 102 rfl) fL_Mo_324_Mo rfl (gk rfl) ?_
                      refine aw_istore (aw_d q_Mo_valueTags 103 rfl) (aw_le rfl) rfl ?_
                      refine aw_aload_n (aw_d q_Mo_valueTags 104 rfl) rfl rfl rfl ?_
                      refine cV (aw_d q_Mo_valueTags 105 rfl) (sp_tagTA (frM_TP hI.1 hc) hp_203s) vL_Mo_448_Mo rfl rfl rfl rfl rfl rfl ⟨aw_le rfl, aw_le rfl⟩ (fun r210 h210 hp210 => ?_)
                      obtain ⟨rfl, hp210⟩ := hp210
                      cases hx210 : xt T 21 b200 [] with
                      | error u210 =>
                        rw [hx210] at hp210
                        obtain ⟨hu210, b210, z210, X210, hb210, rfl⟩ := hp210
                        refine aw_aload_n (aw_d q_Mo_valueTags 106 rfl) rfl rfl rfl ?_
                        refine aw_iload_n (aw_d q_Mo_valueTags 107 rfl) rfl rfl ?_
                        refine aw_iload (aw_d q_Mo_valueTags 108 rfl) rfl ?_
                        refine cVv (aw_d q_Mo_valueTags 109 rfl) (sp_checkI (Nat.le_trans hu210 hc.2.1) hb210) vL_Mo_417_Mo rfl rfl rfl rfl rfl rfl ⟨aw_le rfl, aw_le rfl⟩ ?_
                        refine aw_aload_n (aw_d q_Mo_valueTags 110 rfl) rfl rfl rfl ?_
                        refine aw_iload_n (aw_d q_Mo_valueTags 111 rfl) rfl rfl ?_
                        refine aw_iload_n (aw_d q_Mo_valueTags 112 rfl) rfl rfl ?_
                        refine aw_iload (aw_d q_Mo_valueTags 113 rfl) rfl ?_
                        refine cVv (aw_d q_Mo_valueTags 114 rfl) (sp_giveI (Nat.le_trans hu210 hc.2.1) hb210) vL_Mo_430_Mo rfl rfl rfl rfl rfl rfl ⟨aw_le rfl, aw_le rfl⟩ ?_
                        refine aw_iload_n (aw_d q_Mo_valueTags 115 rfl) rfl rfl ?_
                        refine aw_ifN_ne (tgt := 244) (aw_d q_Mo_valueTags 116 rfl) (by decide) (by (have hc2 := hc.2.1; omega)) (fun c229 => ?_) (fun c229 => by exfalso; (have hc2 := hc.2.1; omega))
                        refine aw_iload_n (aw_d q_Mo_valueTags 122 rfl) rfl rfl ?_
                        refine aw_iconst (v := nI 1) (aw_d q_Mo_valueTags 123 rfl) (by decide) ?_
                        refine aw_icmpN_ne (tgt := 261) (aw_d q_Mo_valueTags 124 rfl) (by decide) (by (have hc2 := hc.2.1; omega)) (by (have hc2 := hc.2.1; omega)) (fun c246 => ?_) (fun c246 => by exfalso; (have hc2 := hc.2.1; omega))
                        refine aw_aload_n (aw_d q_Mo_valueTags 130 rfl) rfl rfl rfl ?_
                        refine aw_ldc2 (aw_d q_Mo_valueTags 131 rfl) lL_Mo_273 ?_
                        refine aw_bipush (v := nI 8) (aw_d q_Mo_valueTags 132 rfl) (by decide) ?_
                        refine cVv (aw_d q_Mo_valueTags 133 rfl) (sp_mustI (Nat.le_trans hu210 hc.2.1) (by decide)) vL_Mo_340_Mo rfl rfl rfl rfl rfl rfl ⟨aw_le rfl, aw_le rfl⟩ ?_
                        refine aw_aload_n (aw_d q_Mo_valueTags 134 rfl) rfl rfl rfl ?_
                        refine aw_ldc2 (aw_d q_Mo_valueTags 135 rfl) lL_Mo_275 ?_
                        refine aw_iconst (v := nI 2) (aw_d q_Mo_valueTags 136 rfl) (by decide) ?_
                        refine cVv (aw_d q_Mo_valueTags 137 rfl) (sp_mustI (Nat.le_trans hu210 hc.2.1) (by decide)) vL_Mo_340_Mo rfl rfl rfl rfl rfl rfl ⟨aw_le rfl, aw_le rfl⟩ ?_
                        exact aw_vret (aw_d q_Mo_valueTags 138 rfl) rfl (⟨rfl, by rw [show vtV T n p = .error u210 by simp only [vtV, xm, xo, xy, okT, xc_0, xc_1, xc_2, xc_3, xc_4, bd_bd, Bool.false_eq_true, bd_ok, bd_er, if_true, if_false, eq_self, ↓reduceIte, hx8s, hx79s, hx133s, hx134, show ∀ k : Nat → Except Nat it_T, bd (mu T (tx 81) y134.1) (fun a => bd (mu T (tx 82) a) k) = bd (.ok b200) k from fun k => by rw [← bd_bd, hx203s], hx210, show ¬ (T b5).toInt = 117 by omega, show ¬ (T b5).toInt = 98 by omega, show ((T b76).toInt = 32) = True from eq_true (by omega), show ((T (b76 + 1)).toInt = 120) = True from eq_true (by omega)]]; exact ⟨Nat.le_trans hu210 hc.2.1, _, _, _, _, _, hI.1, hb210, rfl⟩⟩)
                      | ok y210 =>
                        rw [hx210] at hp210
                        obtain ⟨hy210, h60210, rfl⟩ := hp210
                        refine aw_aload_n (aw_d q_Mo_valueTags 106 rfl) rfl rfl rfl ?_
                        refine aw_iload_n (aw_d q_Mo_valueTags 107 rfl) rfl rfl ?_
                        refine aw_iload (aw_d q_Mo_valueTags 108 rfl) rfl ?_
                        refine cV (aw_d q_Mo_valueTags 109 rfl) (sp_checkA (L := y210.2) (kd := 3) (x := nI b200) hy210.2.1 hy210.2.2 (by omega)) vL_Mo_417_Mo rfl rfl rfl rfl rfl rfl ⟨aw_le rfl, aw_le rfl⟩ (fun r217 h217 hp217 => ?_)
                        obtain ⟨rfl, hp217⟩ := hp217
                        rcases hp217 with ⟨hk217, rfl⟩ | ⟨hk217, rfl⟩
                        · skip -- ok
                          refine aw_aload_n (aw_d q_Mo_valueTags 110 rfl) rfl rfl rfl ?_
                          refine aw_iload_n (aw_d q_Mo_valueTags 111 rfl) rfl rfl ?_
                          refine aw_iload_n (aw_d q_Mo_valueTags 112 rfl) rfl rfl ?_
                          refine aw_iload (aw_d q_Mo_valueTags 113 rfl) rfl ?_
                          refine cV (aw_d q_Mo_valueTags 114 rfl) (sp_giveA (kd := 3) (ex := y134.2) (L := y210.2) hI hs hv hy210.2.1) vL_Mo_430_Mo rfl rfl rfl rfl rfl rfl ⟨aw_le rfl, aw_le rfl⟩ (fun r225 h225 hp225 => ?_)
                          obtain ⟨rfl, F225, hI225, rfl⟩ := hp225
                          refine aw_iload_n (aw_d q_Mo_valueTags 115 rfl) rfl rfl ?_
                          refine aw_ifN_ne (tgt := 244) (aw_d q_Mo_valueTags 116 rfl) (by decide) (by (have hc2 := hc.2.1; omega)) (fun c229 => ?_) (fun c229 => by exfalso; (have hc2 := hc.2.1; omega))
                          refine aw_iload_n (aw_d q_Mo_valueTags 122 rfl) rfl rfl ?_
                          refine aw_iconst (v := nI 1) (aw_d q_Mo_valueTags 123 rfl) (by decide) ?_
                          refine aw_icmpN_ne (tgt := 261) (aw_d q_Mo_valueTags 124 rfl) (by decide) (by (have hc2 := hc.2.1; omega)) (by (have hc2 := hc.2.1; omega)) (fun c246 => ?_) (fun c246 => by exfalso; (have hc2 := hc.2.1; omega))
                          refine aw_aload_n (aw_d q_Mo_valueTags 130 rfl) rfl rfl rfl ?_
                          refine aw_ldc2 (aw_d q_Mo_valueTags 131 rfl) lL_Mo_273 ?_
                          refine aw_bipush (v := nI 8) (aw_d q_Mo_valueTags 132 rfl) (by decide) ?_
                          refine cV (aw_d q_Mo_valueTags 133 rfl) (sp_Umust (res := .ok (y210.1, ())) (A := []) (x := 4336804166361248353) (j := 8) (frM_TP hI225.1 hc) (by decide) (RR_su (T := T) hy210.1)) vL_Mo_340_Mo rfl rfl rfl rfl rfl rfl ⟨aw_le rfl, aw_le rfl⟩ (fun r267 h267 hp267 => ?_)
                          obtain ⟨rfl, b267, q267, hr267, rfl⟩ := hp267
                          refine aw_aload_n (aw_d q_Mo_valueTags 134 rfl) rfl rfl rfl ?_
                          refine aw_ldc2 (aw_d q_Mo_valueTags 135 rfl) lL_Mo_275 ?_
                          refine aw_iconst (v := nI 2) (aw_d q_Mo_valueTags 136 rfl) (by decide) ?_
                          refine cV (aw_d q_Mo_valueTags 137 rfl) (sp_Umust (res := .ok (y210.1, ())) (A := ([] ++ eB 4336804166361248353 8)) (x := 27710) (j := 2) (frM_TP hI225.1 hc) (by decide) hr267) vL_Mo_340_Mo rfl rfl rfl rfl rfl rfl ⟨aw_le rfl, aw_le rfl⟩ (fun r275 h275 hp275 => ?_)
                          obtain ⟨rfl, b275, q275, hr275, rfl⟩ := hp275
                          rw [bp_ok, show mu T (([] ++ eB 4336804166361248353 8) ++ eB 27710 2) y210.1 = mu T (tx 43) y210.1 from (congrArg (fun L => mu T L _) (show _ = tx 43 by decide))] at hr275
                          cases hx278s : mu T (tx 43) y210.1 with
                          | error u278s =>
                            rw [hx278s] at hr275
                            obtain ⟨hu278s, rfl, hb278s⟩ := hr275
                            exact aw_vret (aw_d q_Mo_valueTags 138 rfl) rfl (⟨rfl, by rw [show vtV T n p = .error u278s by simp only [vtV, xm, xo, xy, okT, xc_0, xc_1, xc_2, xc_3, xc_4, bd_bd, Bool.false_eq_true, bd_ok, bd_er, if_true, if_false, eq_self, ↓reduceIte, hx8s, hx79s, hx133s, hx134, show ∀ k : Nat → Except Nat it_T, bd (mu T (tx 81) y134.1) (fun a => bd (mu T (tx 82) a) k) = bd (.ok b200) k from fun k => by rw [← bd_bd, hx203s], hx210, hx278s, show ¬ (T b5).toInt = 117 by omega, show ¬ (T b5).toInt = 98 by omega, show ((T b76).toInt = 32) = True from eq_true (by omega), show ((T (b76 + 1)).toInt = 120) = True from eq_true (by omega), hk217]]; exact ⟨hu278s, _, _, _, _, _, hI225.1, hb278s, rfl⟩⟩)
                          | ok p278s =>
                            rw [hx278s] at hr275
                            obtain ⟨hbb278s, hp_278s, rfl⟩ := hr275
                            have hbb278s : b275 = p278s := hbb278s
                            subst hbb278s
                            exact aw_vret (aw_d q_Mo_valueTags 138 rfl) rfl (⟨rfl, by rw [show vtV T n p = .ok (b275, 3, y134.2, y210.2) by simp only [vtV, xm, xo, xy, okT, xc_0, xc_1, xc_2, xc_3, xc_4, bd_bd, Bool.false_eq_true, bd_ok, bd_er, if_true, if_false, eq_self, ↓reduceIte, hx8s, hx79s, hx133s, hx134, show ∀ k : Nat → Except Nat it_T, bd (mu T (tx 81) y134.1) (fun a => bd (mu T (tx 82) a) k) = bd (.ok b200) k from fun k => by rw [← bd_bd, hx203s], hx210, hx278s, show ¬ (T b5).toInt = 117 by omega, show ¬ (T b5).toInt = 98 by omega, show ((T b76).toInt = 32) = True from eq_true (by omega), show ((T (b76 + 1)).toInt = 120) = True from eq_true (by omega), hk217]]; exact ⟨_, _, _, _, ⟨hI225, itW_i (kd := 3) (ex := y134.2) (by decide) hy210.2.1 (he134) (fun h => absurd h (by decide)) (fun h => absurd h (by decide)) hy210.2.2 (hk217)⟩, hp_278s, rfl⟩⟩)
                        · skip -- no
                          refine aw_aload_n (aw_d q_Mo_valueTags 110 rfl) rfl rfl rfl ?_
                          refine aw_iload_n (aw_d q_Mo_valueTags 111 rfl) rfl rfl ?_
                          refine aw_iload_n (aw_d q_Mo_valueTags 112 rfl) rfl rfl ?_
                          refine aw_iload (aw_d q_Mo_valueTags 113 rfl) rfl ?_
                          refine cVv (aw_d q_Mo_valueTags 114 rfl) (sp_giveI (show b200 ≤ 3000 by have := hc.2.1; omega) (show y210.1 ≤ 3010 by have := hc.2.1; have := hy210.1; omega)) vL_Mo_430_Mo rfl rfl rfl rfl rfl rfl ⟨aw_le rfl, aw_le rfl⟩ ?_
                          refine aw_iload_n (aw_d q_Mo_valueTags 115 rfl) rfl rfl ?_
                          refine aw_ifN_ne (tgt := 244) (aw_d q_Mo_valueTags 116 rfl) (by decide) (by (have hc2 := hc.2.1; omega)) (fun c229 => ?_) (fun c229 => by exfalso; (have hc2 := hc.2.1; omega))
                          refine aw_iload_n (aw_d q_Mo_valueTags 122 rfl) rfl rfl ?_
                          refine aw_iconst (v := nI 1) (aw_d q_Mo_valueTags 123 rfl) (by decide) ?_
                          refine aw_icmpN_ne (tgt := 261) (aw_d q_Mo_valueTags 124 rfl) (by decide) (by (have hc2 := hc.2.1; omega)) (by (have hc2 := hc.2.1; omega)) (fun c246 => ?_) (fun c246 => by exfalso; (have hc2 := hc.2.1; omega))
                          refine aw_aload_n (aw_d q_Mo_valueTags 130 rfl) rfl rfl rfl ?_
                          refine aw_ldc2 (aw_d q_Mo_valueTags 131 rfl) lL_Mo_273 ?_
                          refine aw_bipush (v := nI 8) (aw_d q_Mo_valueTags 132 rfl) (by decide) ?_
                          refine cVv (aw_d q_Mo_valueTags 133 rfl) (sp_mustI (show b200 ≤ 3000 by have := hc.2.1; omega) (by decide)) vL_Mo_340_Mo rfl rfl rfl rfl rfl rfl ⟨aw_le rfl, aw_le rfl⟩ ?_
                          refine aw_aload_n (aw_d q_Mo_valueTags 134 rfl) rfl rfl rfl ?_
                          refine aw_ldc2 (aw_d q_Mo_valueTags 135 rfl) lL_Mo_275 ?_
                          refine aw_iconst (v := nI 2) (aw_d q_Mo_valueTags 136 rfl) (by decide) ?_
                          refine cVv (aw_d q_Mo_valueTags 137 rfl) (sp_mustI (show b200 ≤ 3000 by have := hc.2.1; omega) (by decide)) vL_Mo_340_Mo rfl rfl rfl rfl rfl rfl ⟨aw_le rfl, aw_le rfl⟩ ?_
                          exact aw_vret (aw_d q_Mo_valueTags 138 rfl) rfl (⟨rfl, by rw [show vtV T n p = .error b200 by simp only [vtV, xm, xo, xy, okT, xc_0, xc_1, xc_2, xc_3, xc_4, bd_bd, Bool.false_eq_true, bd_ok, bd_er, if_true, if_false, eq_self, ↓reduceIte, hx8s, hx79s, hx133s, hx134, show ∀ k : Nat → Except Nat it_T, bd (mu T (tx 81) y134.1) (fun a => bd (mu T (tx 82) a) k) = bd (.ok b200) k from fun k => by rw [← bd_bd, hx203s], hx210, show ¬ (T b5).toInt = 117 by omega, show ¬ (T b5).toInt = 98 by omega, show ((T b76).toInt = 32) = True from eq_true (by omega), show ((T (b76 + 1)).toInt = 120) = True from eq_true (by omega), hk217]]; exact ⟨by have := hc.2.1; omega, _, _, _, _, _, hI.1, by have := hc.2.1; have := hy210.1; omega, rfl⟩⟩)
      · refine aw_iconst (v := nI 1) (aw_d q_Mo_valueTags 15 rfl) (by decide) ?_
        refine aw_goto (tgt := 34) (aw_d q_Mo_valueTags 16 rfl) (by decide) ?_
        refine aw_istore_n (aw_d q_Mo_valueTags 18 rfl) rfl (aw_le rfl) rfl ?_
        refine aw_iconst (v := nI 0) (aw_d q_Mo_valueTags 19 rfl) (by decide) ?_
        refine aw_istore (aw_d q_Mo_valueTags 20 rfl) (aw_le rfl) rfl ?_
        refine aw_iload_n (aw_d q_Mo_valueTags 21 rfl) rfl rfl ?_
        refine aw_ifN_ne (tgt := 53) (aw_d q_Mo_valueTags 22 rfl) (by decide) (by (have hc2 := hc.2.1; omega)) (fun c39 => ?_) (fun c39 => by exfalso; (have hc2 := hc.2.1; omega))
        refine aw_iload_n (aw_d q_Mo_valueTags 28 rfl) rfl rfl ?_
        refine aw_iconst (v := nI 1) (aw_d q_Mo_valueTags 29 rfl) (by decide) ?_
        refine aw_icmpN_ne (tgt := 70) (aw_d q_Mo_valueTags 30 rfl) (by decide) (by (have hc2 := hc.2.1; omega)) (by (have hc2 := hc.2.1; omega)) (fun c55 => by exfalso; (have hc2 := hc.2.1; omega)) (fun c55 => ?_)
        refine aw_aload_n (aw_d q_Mo_valueTags 31 rfl) rfl rfl rfl ?_
        refine aw_ldc2 (aw_d q_Mo_valueTags 32 rfl) lL_Mo_444 ?_
        refine aw_bipush (v := nI 6) (aw_d q_Mo_valueTags 33 rfl) (by decide) ?_
        refine cV (aw_d q_Mo_valueTags 34 rfl) (sp_Umust (res := .ok (b5, ())) (A := []) (x := 108226454775102) (j := 6) (frM_TP hI.1 hc) (by decide) (RR_su (T := T) hp_8s)) vL_Mo_340_Mo rfl rfl rfl rfl rfl rfl ⟨aw_le rfl, aw_le rfl⟩ (fun r64 h64 hp64 => ?_)
        obtain ⟨rfl, b64, q64, hr64, rfl⟩ := hp64
        refine aw_goto (tgt := 203) (aw_d q_Mo_valueTags 35 rfl) (by decide) ?_
        rw [bp_ok, show mu T ([] ++ eB 108226454775102 6) b5 = mu T (tx 77) b5 from (congrArg (fun L => mu T L _) (show _ = tx 77 by decide))] at hr64
        cases hx203s : mu T (tx 77) b5 with
        | error u203s =>
          rw [hx203s] at hr64
          obtain ⟨hu203s, rfl, hb203s⟩ := hr64
          refine aw_aload_n (aw_d q_Mo_valueTags 101 rfl) rfl rfl rfl ?_
          refine aw_getf (v := .int (nI (b64))) (aw_d q_Mo_valueTags 102 rfl) fL_Mo_324_Mo rfl (gk rfl) ?_
          refine aw_istore (aw_d q_Mo_valueTags 103 rfl) (aw_le rfl) rfl ?_
          refine aw_aload_n (aw_d q_Mo_valueTags 104 rfl) rfl rfl rfl ?_
          refine cVv (aw_d q_Mo_valueTags 105 rfl) (sp_tagTI hu203s hb203s) vL_Mo_448_Mo rfl rfl rfl rfl rfl rfl ⟨aw_le rfl, aw_le rfl⟩ ?_
          refine aw_aload_n (aw_d q_Mo_valueTags 106 rfl) rfl rfl rfl ?_
          refine aw_iload_n (aw_d q_Mo_valueTags 107 rfl) rfl rfl ?_
          refine aw_iload (aw_d q_Mo_valueTags 108 rfl) rfl ?_
          refine cVv (aw_d q_Mo_valueTags 109 rfl) (sp_checkI hu203s hb203s) vL_Mo_417_Mo rfl rfl rfl rfl rfl rfl ⟨aw_le rfl, aw_le rfl⟩ ?_
          refine aw_aload_n (aw_d q_Mo_valueTags 110 rfl) rfl rfl rfl ?_
          refine aw_iload_n (aw_d q_Mo_valueTags 111 rfl) rfl rfl ?_
          refine aw_iload_n (aw_d q_Mo_valueTags 112 rfl) rfl rfl ?_
          refine aw_iload (aw_d q_Mo_valueTags 113 rfl) rfl ?_
          refine cVv (aw_d q_Mo_valueTags 114 rfl) (sp_giveI hu203s hb203s) vL_Mo_430_Mo rfl rfl rfl rfl rfl rfl ⟨aw_le rfl, aw_le rfl⟩ ?_
          refine aw_iload_n (aw_d q_Mo_valueTags 115 rfl) rfl rfl ?_
          refine aw_ifN_ne (tgt := 244) (aw_d q_Mo_valueTags 116 rfl) (by decide) (by (have hc2 := hc.2.1; omega)) (fun c229 => ?_) (fun c229 => by exfalso; (have hc2 := hc.2.1; omega))
          refine aw_iload_n (aw_d q_Mo_valueTags 122 rfl) rfl rfl ?_
          refine aw_iconst (v := nI 1) (aw_d q_Mo_valueTags 123 rfl) (by decide) ?_
          refine aw_icmpN_ne (tgt := 261) (aw_d q_Mo_valueTags 124 rfl) (by decide) (by (have hc2 := hc.2.1; omega)) (by (have hc2 := hc.2.1; omega)) (fun c246 => by exfalso; (have hc2 := hc.2.1; omega)) (fun c246 => ?_)
          refine aw_aload_n (aw_d q_Mo_valueTags 125 rfl) rfl rfl rfl ?_
          refine aw_ldc2 (aw_d q_Mo_valueTags 126 rfl) lL_Mo_271 ?_
          refine aw_bipush (v := nI 8) (aw_d q_Mo_valueTags 127 rfl) (by decide) ?_
          refine cVv (aw_d q_Mo_valueTags 128 rfl) (sp_mustI hu203s (by decide)) vL_Mo_340_Mo rfl rfl rfl rfl rfl rfl ⟨aw_le rfl, aw_le rfl⟩ ?_
          refine aw_goto (tgt := 278) (aw_d q_Mo_valueTags 129 rfl) (by decide) ?_
          exact aw_vret (aw_d q_Mo_valueTags 138 rfl) rfl (⟨rfl, by rw [show vtV T n p = .error u203s by simp only [vtV, xm, xo, xy, okT, xc_0, xc_1, xc_2, xc_3, xc_4, bd_bd, Bool.false_eq_true, bd_ok, bd_er, if_true, if_false, eq_self, ↓reduceIte, hx8s, hx203s, show ¬ (T b5).toInt = 117 by omega, show ((T b5).toInt = 98) = True from eq_true (by omega)]]; exact ⟨hu203s, _, _, _, _, _, hI.1, hb203s, rfl⟩⟩)
        | ok p203s =>
          rw [hx203s] at hr64
          obtain ⟨hbb203s, hp_203s, rfl⟩ := hr64
          have hbb203s : b64 = p203s := hbb203s
          subst hbb203s
          refine aw_aload_n (aw_d q_Mo_valueTags 101 rfl) rfl rfl rfl ?_
          refine aw_getf (v := .int (nI (b64))) (aw_d q_Mo_valueTags 102 rfl) fL_Mo_324_Mo rfl (gk rfl) ?_
          refine aw_istore (aw_d q_Mo_valueTags 103 rfl) (aw_le rfl) rfl ?_
          refine aw_aload_n (aw_d q_Mo_valueTags 104 rfl) rfl rfl rfl ?_
          refine cV (aw_d q_Mo_valueTags 105 rfl) (sp_tagTA (frM_TP hI.1 hc) hp_203s) vL_Mo_448_Mo rfl rfl rfl rfl rfl rfl ⟨aw_le rfl, aw_le rfl⟩ (fun r210 h210 hp210 => ?_)
          obtain ⟨rfl, hp210⟩ := hp210
          cases hx210 : xt T 21 b64 [] with
          | error u210 =>
            rw [hx210] at hp210
            obtain ⟨hu210, b210, z210, X210, hb210, rfl⟩ := hp210
            refine aw_aload_n (aw_d q_Mo_valueTags 106 rfl) rfl rfl rfl ?_
            refine aw_iload_n (aw_d q_Mo_valueTags 107 rfl) rfl rfl ?_
            refine aw_iload (aw_d q_Mo_valueTags 108 rfl) rfl ?_
            refine cVv (aw_d q_Mo_valueTags 109 rfl) (sp_checkI (Nat.le_trans hu210 hc.2.1) hb210) vL_Mo_417_Mo rfl rfl rfl rfl rfl rfl ⟨aw_le rfl, aw_le rfl⟩ ?_
            refine aw_aload_n (aw_d q_Mo_valueTags 110 rfl) rfl rfl rfl ?_
            refine aw_iload_n (aw_d q_Mo_valueTags 111 rfl) rfl rfl ?_
            refine aw_iload_n (aw_d q_Mo_valueTags 112 rfl) rfl rfl ?_
            refine aw_iload (aw_d q_Mo_valueTags 113 rfl) rfl ?_
            refine cVv (aw_d q_Mo_valueTags 114 rfl) (sp_giveI (Nat.le_trans hu210 hc.2.1) hb210) vL_Mo_430_Mo rfl rfl rfl rfl rfl rfl ⟨aw_le rfl, aw_le rfl⟩ ?_
            refine aw_iload_n (aw_d q_Mo_valueTags 115 rfl) rfl rfl ?_
            refine aw_ifN_ne (tgt := 244) (aw_d q_Mo_valueTags 116 rfl) (by decide) (by (have hc2 := hc.2.1; omega)) (fun c229 => ?_) (fun c229 => by exfalso; (have hc2 := hc.2.1; omega))
            refine aw_iload_n (aw_d q_Mo_valueTags 122 rfl) rfl rfl ?_
            refine aw_iconst (v := nI 1) (aw_d q_Mo_valueTags 123 rfl) (by decide) ?_
            refine aw_icmpN_ne (tgt := 261) (aw_d q_Mo_valueTags 124 rfl) (by decide) (by (have hc2 := hc.2.1; omega)) (by (have hc2 := hc.2.1; omega)) (fun c246 => by exfalso; (have hc2 := hc.2.1; omega)) (fun c246 => ?_)
            refine aw_aload_n (aw_d q_Mo_valueTags 125 rfl) rfl rfl rfl ?_
            refine aw_ldc2 (aw_d q_Mo_valueTags 126 rfl) lL_Mo_271 ?_
            refine aw_bipush (v := nI 8) (aw_d q_Mo_valueTags 127 rfl) (by decide) ?_
            refine cVv (aw_d q_Mo_valueTags 128 rfl) (sp_mustI (Nat.le_trans hu210 hc.2.1) (by decide)) vL_Mo_340_Mo rfl rfl rfl rfl rfl rfl ⟨aw_le rfl, aw_le rfl⟩ ?_
            refine aw_goto (tgt := 278) (aw_d q_Mo_valueTags 129 rfl) (by decide) ?_
            exact aw_vret (aw_d q_Mo_valueTags 138 rfl) rfl (⟨rfl, by rw [show vtV T n p = .error u210 by simp only [vtV, xm, xo, xy, okT, xc_0, xc_1, xc_2, xc_3, xc_4, bd_bd, Bool.false_eq_true, bd_ok, bd_er, if_true, if_false, eq_self, ↓reduceIte, hx8s, hx203s, hx210, show ¬ (T b5).toInt = 117 by omega, show ((T b5).toInt = 98) = True from eq_true (by omega)]]; exact ⟨Nat.le_trans hu210 hc.2.1, _, _, _, _, _, hI.1, hb210, rfl⟩⟩)
          | ok y210 =>
            rw [hx210] at hp210
            obtain ⟨hy210, h60210, rfl⟩ := hp210
            refine aw_aload_n (aw_d q_Mo_valueTags 106 rfl) rfl rfl rfl ?_
            refine aw_iload_n (aw_d q_Mo_valueTags 107 rfl) rfl rfl ?_
            refine aw_iload (aw_d q_Mo_valueTags 108 rfl) rfl ?_
            refine cV (aw_d q_Mo_valueTags 109 rfl) (sp_checkA (L := y210.2) (kd := 1) (x := nI b64) hy210.2.1 hy210.2.2 (by omega)) vL_Mo_417_Mo rfl rfl rfl rfl rfl rfl ⟨aw_le rfl, aw_le rfl⟩ (fun r217 h217 hp217 => ?_)
            obtain ⟨rfl, hp217⟩ := hp217
            rcases hp217 with ⟨hk217, rfl⟩ | ⟨hk217, rfl⟩
            · skip -- ok
              refine aw_aload_n (aw_d q_Mo_valueTags 110 rfl) rfl rfl rfl ?_
              refine aw_iload_n (aw_d q_Mo_valueTags 111 rfl) rfl rfl ?_
              refine aw_iload_n (aw_d q_Mo_valueTags 112 rfl) rfl rfl ?_
              refine aw_iload (aw_d q_Mo_valueTags 113 rfl) rfl ?_
              refine cV (aw_d q_Mo_valueTags 114 rfl) (sp_giveA (kd := 1) (ex := 0) (L := y210.2) hI hs hv hy210.2.1) vL_Mo_430_Mo rfl rfl rfl rfl rfl rfl ⟨aw_le rfl, aw_le rfl⟩ (fun r225 h225 hp225 => ?_)
              obtain ⟨rfl, F225, hI225, rfl⟩ := hp225
              refine aw_iload_n (aw_d q_Mo_valueTags 115 rfl) rfl rfl ?_
              refine aw_ifN_ne (tgt := 244) (aw_d q_Mo_valueTags 116 rfl) (by decide) (by (have hc2 := hc.2.1; omega)) (fun c229 => ?_) (fun c229 => by exfalso; (have hc2 := hc.2.1; omega))
              refine aw_iload_n (aw_d q_Mo_valueTags 122 rfl) rfl rfl ?_
              refine aw_iconst (v := nI 1) (aw_d q_Mo_valueTags 123 rfl) (by decide) ?_
              refine aw_icmpN_ne (tgt := 261) (aw_d q_Mo_valueTags 124 rfl) (by decide) (by (have hc2 := hc.2.1; omega)) (by (have hc2 := hc.2.1; omega)) (fun c246 => by exfalso; (have hc2 := hc.2.1; omega)) (fun c246 => ?_)
              refine aw_aload_n (aw_d q_Mo_valueTags 125 rfl) rfl rfl rfl ?_
              refine aw_ldc2 (aw_d q_Mo_valueTags 126 rfl) lL_Mo_271 ?_
              refine aw_bipush (v := nI 8) (aw_d q_Mo_valueTags 127 rfl) (by decide) ?_
              refine cV (aw_d q_Mo_valueTags 128 rfl) (sp_Umust (res := .ok (y210.1, ())) (A := []) (x := 4336793192635852094) (j := 8) (frM_TP hI225.1 hc) (by decide) (RR_su (T := T) hy210.1)) vL_Mo_340_Mo rfl rfl rfl rfl rfl rfl ⟨aw_le rfl, aw_le rfl⟩ (fun r255 h255 hp255 => ?_)
              obtain ⟨rfl, b255, q255, hr255, rfl⟩ := hp255
              refine aw_goto (tgt := 278) (aw_d q_Mo_valueTags 129 rfl) (by decide) ?_
              rw [bp_ok, show mu T ([] ++ eB 4336793192635852094 8) y210.1 = mu T (tx 42) y210.1 from (congrArg (fun L => mu T L _) (show _ = tx 42 by decide))] at hr255
              cases hx278s : mu T (tx 42) y210.1 with
              | error u278s =>
                rw [hx278s] at hr255
                obtain ⟨hu278s, rfl, hb278s⟩ := hr255
                exact aw_vret (aw_d q_Mo_valueTags 138 rfl) rfl (⟨rfl, by rw [show vtV T n p = .error u278s by simp only [vtV, xm, xo, xy, okT, xc_0, xc_1, xc_2, xc_3, xc_4, bd_bd, Bool.false_eq_true, bd_ok, bd_er, if_true, if_false, eq_self, ↓reduceIte, hx8s, hx203s, hx210, hx278s, show ¬ (T b5).toInt = 117 by omega, show ((T b5).toInt = 98) = True from eq_true (by omega), hk217]]; exact ⟨hu278s, _, _, _, _, _, hI225.1, hb278s, rfl⟩⟩)
              | ok p278s =>
                rw [hx278s] at hr255
                obtain ⟨hbb278s, hp_278s, rfl⟩ := hr255
                have hbb278s : b255 = p278s := hbb278s
                subst hbb278s
                exact aw_vret (aw_d q_Mo_valueTags 138 rfl) rfl (⟨rfl, by rw [show vtV T n p = .ok (b255, 1, 0, y210.2) by simp only [vtV, xm, xo, xy, okT, xc_0, xc_1, xc_2, xc_3, xc_4, bd_bd, Bool.false_eq_true, bd_ok, bd_er, if_true, if_false, eq_self, ↓reduceIte, hx8s, hx203s, hx210, hx278s, show ¬ (T b5).toInt = 117 by omega, show ((T b5).toInt = 98) = True from eq_true (by omega), hk217]]; exact ⟨_, _, _, _, ⟨hI225, itW_i (kd := 1) (ex := 0) (by decide) hy210.2.1 (by decide) (fun h => absurd h (by decide)) (fun _ => rfl) hy210.2.2 (hk217)⟩, hp_278s, rfl⟩⟩)
            · skip -- no
              refine aw_aload_n (aw_d q_Mo_valueTags 110 rfl) rfl rfl rfl ?_
              refine aw_iload_n (aw_d q_Mo_valueTags 111 rfl) rfl rfl ?_
              refine aw_iload_n (aw_d q_Mo_valueTags 112 rfl) rfl rfl ?_
              refine aw_iload (aw_d q_Mo_valueTags 113 rfl) rfl ?_
              refine cVv (aw_d q_Mo_valueTags 114 rfl) (sp_giveI (show b64 ≤ 3000 by have := hc.2.1; omega) (show y210.1 ≤ 3010 by have := hc.2.1; have := hy210.1; omega)) vL_Mo_430_Mo rfl rfl rfl rfl rfl rfl ⟨aw_le rfl, aw_le rfl⟩ ?_
              refine aw_iload_n (aw_d q_Mo_valueTags 115 rfl) rfl rfl ?_
              refine aw_ifN_ne (tgt := 244) (aw_d q_Mo_valueTags 116 rfl) (by decide) (by (have hc2 := hc.2.1; omega)) (fun c229 => ?_) (fun c229 => by exfalso; (have hc2 := hc.2.1; omega))
              refine aw_iload_n (aw_d q_Mo_valueTags 122 rfl) rfl rfl ?_
              refine aw_iconst (v := nI 1) (aw_d q_Mo_valueTags 123 rfl) (by decide) ?_
              refine aw_icmpN_ne (tgt := 261) (aw_d q_Mo_valueTags 124 rfl) (by decide) (by (have hc2 := hc.2.1; omega)) (by (have hc2 := hc.2.1; omega)) (fun c246 => by exfalso; (have hc2 := hc.2.1; omega)) (fun c246 => ?_)
              refine aw_aload_n (aw_d q_Mo_valueTags 125 rfl) rfl rfl rfl ?_
              refine aw_ldc2 (aw_d q_Mo_valueTags 126 rfl) lL_Mo_271 ?_
              refine aw_bipush (v := nI 8) (aw_d q_Mo_valueTags 127 rfl) (by decide) ?_
              refine cVv (aw_d q_Mo_valueTags 128 rfl) (sp_mustI (show b64 ≤ 3000 by have := hc.2.1; omega) (by decide)) vL_Mo_340_Mo rfl rfl rfl rfl rfl rfl ⟨aw_le rfl, aw_le rfl⟩ ?_
              refine aw_goto (tgt := 278) (aw_d q_Mo_valueTags 129 rfl) (by decide) ?_
              exact aw_vret (aw_d q_Mo_valueTags 138 rfl) rfl (⟨rfl, by rw [show vtV T n p = .error b64 by simp only [vtV, xm, xo, xy, okT, xc_0, xc_1, xc_2, xc_3, xc_4, bd_bd, Bool.false_eq_true, bd_ok, bd_er, if_true, if_false, eq_self, ↓reduceIte, hx8s, hx203s, hx210, show ¬ (T b5).toInt = 117 by omega, show ((T b5).toInt = 98) = True from eq_true (by omega), hk217]]; exact ⟨by have := hc.2.1; omega, _, _, _, _, _, hI.1, by have := hc.2.1; have := hy210.1; omega, rfl⟩⟩)
    · refine aw_iconst (v := nI 0) (aw_d q_Mo_valueTags 10 rfl) (by decide) ?_
      refine aw_goto (tgt := 34) (aw_d q_Mo_valueTags 11 rfl) (by decide) ?_
      refine aw_istore_n (aw_d q_Mo_valueTags 18 rfl) rfl (aw_le rfl) rfl ?_
      refine aw_iconst (v := nI 0) (aw_d q_Mo_valueTags 19 rfl) (by decide) ?_
      refine aw_istore (aw_d q_Mo_valueTags 20 rfl) (aw_le rfl) rfl ?_
      refine aw_iload_n (aw_d q_Mo_valueTags 21 rfl) rfl rfl ?_
      refine aw_ifN_ne (tgt := 53) (aw_d q_Mo_valueTags 22 rfl) (by decide) (by (have hc2 := hc.2.1; omega)) (fun c39 => by exfalso; (have hc2 := hc.2.1; omega)) (fun c39 => ?_)
      refine aw_aload_n (aw_d q_Mo_valueTags 23 rfl) rfl rfl rfl ?_
      refine aw_ldc2 (aw_d q_Mo_valueTags 24 rfl) lL_Mo_442 ?_
      refine aw_iconst (v := nI 4) (aw_d q_Mo_valueTags 25 rfl) (by decide) ?_
      refine cV (aw_d q_Mo_valueTags 26 rfl) (sp_Umust (res := .ok (b5, ())) (A := []) (x := 1970432318) (j := 4) (frM_TP hI.1 hc) (by decide) (RR_su (T := T) hp_8s)) vL_Mo_340_Mo rfl rfl rfl rfl rfl rfl ⟨aw_le rfl, aw_le rfl⟩ (fun r47 h47 hp47 => ?_)
      obtain ⟨rfl, b47, q47, hr47, rfl⟩ := hp47
      refine aw_goto (tgt := 203) (aw_d q_Mo_valueTags 27 rfl) (by decide) ?_
      rw [bp_ok, show mu T ([] ++ eB 1970432318 4) b5 = mu T (tx 76) b5 from (congrArg (fun L => mu T L _) (show _ = tx 76 by decide))] at hr47
      cases hx203s : mu T (tx 76) b5 with
      | error u203s =>
        rw [hx203s] at hr47
        obtain ⟨hu203s, rfl, hb203s⟩ := hr47
        refine aw_aload_n (aw_d q_Mo_valueTags 101 rfl) rfl rfl rfl ?_
        refine aw_getf (v := .int (nI (b47))) (aw_d q_Mo_valueTags 102 rfl) fL_Mo_324_Mo rfl (gk rfl) ?_
        refine aw_istore (aw_d q_Mo_valueTags 103 rfl) (aw_le rfl) rfl ?_
        refine aw_aload_n (aw_d q_Mo_valueTags 104 rfl) rfl rfl rfl ?_
        refine cVv (aw_d q_Mo_valueTags 105 rfl) (sp_tagTI hu203s hb203s) vL_Mo_448_Mo rfl rfl rfl rfl rfl rfl ⟨aw_le rfl, aw_le rfl⟩ ?_
        refine aw_aload_n (aw_d q_Mo_valueTags 106 rfl) rfl rfl rfl ?_
        refine aw_iload_n (aw_d q_Mo_valueTags 107 rfl) rfl rfl ?_
        refine aw_iload (aw_d q_Mo_valueTags 108 rfl) rfl ?_
        refine cVv (aw_d q_Mo_valueTags 109 rfl) (sp_checkI hu203s hb203s) vL_Mo_417_Mo rfl rfl rfl rfl rfl rfl ⟨aw_le rfl, aw_le rfl⟩ ?_
        refine aw_aload_n (aw_d q_Mo_valueTags 110 rfl) rfl rfl rfl ?_
        refine aw_iload_n (aw_d q_Mo_valueTags 111 rfl) rfl rfl ?_
        refine aw_iload_n (aw_d q_Mo_valueTags 112 rfl) rfl rfl ?_
        refine aw_iload (aw_d q_Mo_valueTags 113 rfl) rfl ?_
        refine cVv (aw_d q_Mo_valueTags 114 rfl) (sp_giveI hu203s hb203s) vL_Mo_430_Mo rfl rfl rfl rfl rfl rfl ⟨aw_le rfl, aw_le rfl⟩ ?_
        refine aw_iload_n (aw_d q_Mo_valueTags 115 rfl) rfl rfl ?_
        refine aw_ifN_ne (tgt := 244) (aw_d q_Mo_valueTags 116 rfl) (by decide) (by (have hc2 := hc.2.1; omega)) (fun c229 => by exfalso; (have hc2 := hc.2.1; omega)) (fun c229 => ?_)
        refine aw_aload_n (aw_d q_Mo_valueTags 117 rfl) rfl rfl rfl ?_
        refine aw_ldc2 (aw_d q_Mo_valueTags 118 rfl) lL_Mo_269 ?_
        refine aw_bipush (v := nI 6) (aw_d q_Mo_valueTags 119 rfl) (by decide) ?_
        refine cVv (aw_d q_Mo_valueTags 120 rfl) (sp_mustI hu203s (by decide)) vL_Mo_340_Mo rfl rfl rfl rfl rfl rfl ⟨aw_le rfl, aw_le rfl⟩ ?_
        refine aw_goto (tgt := 278) (aw_d q_Mo_valueTags 121 rfl) (by decide) ?_
        exact aw_vret (aw_d q_Mo_valueTags 138 rfl) rfl (⟨rfl, by rw [show vtV T n p = .error u203s by simp only [vtV, xm, xo, xy, okT, xc_0, xc_1, xc_2, xc_3, xc_4, bd_bd, Bool.false_eq_true, bd_ok, bd_er, if_true, if_false, eq_self, ↓reduceIte, hx8s, hx203s, show ((T b5).toInt = 117) = True from eq_true (by omega)]]; exact ⟨hu203s, _, _, _, _, _, hI.1, hb203s, rfl⟩⟩)
      | ok p203s =>
        rw [hx203s] at hr47
        obtain ⟨hbb203s, hp_203s, rfl⟩ := hr47
        have hbb203s : b47 = p203s := hbb203s
        subst hbb203s
        refine aw_aload_n (aw_d q_Mo_valueTags 101 rfl) rfl rfl rfl ?_
        refine aw_getf (v := .int (nI (b47))) (aw_d q_Mo_valueTags 102 rfl) fL_Mo_324_Mo rfl (gk rfl) ?_
        refine aw_istore (aw_d q_Mo_valueTags 103 rfl) (aw_le rfl) rfl ?_
        refine aw_aload_n (aw_d q_Mo_valueTags 104 rfl) rfl rfl rfl ?_
        refine cV (aw_d q_Mo_valueTags 105 rfl) (sp_tagTA (frM_TP hI.1 hc) hp_203s) vL_Mo_448_Mo rfl rfl rfl rfl rfl rfl ⟨aw_le rfl, aw_le rfl⟩ (fun r210 h210 hp210 => ?_)
        obtain ⟨rfl, hp210⟩ := hp210
        cases hx210 : xt T 21 b47 [] with
        | error u210 =>
          rw [hx210] at hp210
          obtain ⟨hu210, b210, z210, X210, hb210, rfl⟩ := hp210
          refine aw_aload_n (aw_d q_Mo_valueTags 106 rfl) rfl rfl rfl ?_
          refine aw_iload_n (aw_d q_Mo_valueTags 107 rfl) rfl rfl ?_
          refine aw_iload (aw_d q_Mo_valueTags 108 rfl) rfl ?_
          refine cVv (aw_d q_Mo_valueTags 109 rfl) (sp_checkI (Nat.le_trans hu210 hc.2.1) hb210) vL_Mo_417_Mo rfl rfl rfl rfl rfl rfl ⟨aw_le rfl, aw_le rfl⟩ ?_
          refine aw_aload_n (aw_d q_Mo_valueTags 110 rfl) rfl rfl rfl ?_
          refine aw_iload_n (aw_d q_Mo_valueTags 111 rfl) rfl rfl ?_
          refine aw_iload_n (aw_d q_Mo_valueTags 112 rfl) rfl rfl ?_
          refine aw_iload (aw_d q_Mo_valueTags 113 rfl) rfl ?_
          refine cVv (aw_d q_Mo_valueTags 114 rfl) (sp_giveI (Nat.le_trans hu210 hc.2.1) hb210) vL_Mo_430_Mo rfl rfl rfl rfl rfl rfl ⟨aw_le rfl, aw_le rfl⟩ ?_
          refine aw_iload_n (aw_d q_Mo_valueTags 115 rfl) rfl rfl ?_
          refine aw_ifN_ne (tgt := 244) (aw_d q_Mo_valueTags 116 rfl) (by decide) (by (have hc2 := hc.2.1; omega)) (fun c229 => by exfalso; (have hc2 := hc.2.1; omega)) (fun c229 => ?_)
          refine aw_aload_n (aw_d q_Mo_valueTags 117 rfl) rfl rfl rfl ?_
          refine aw_ldc2 (aw_d q_Mo_valueTags 118 rfl) lL_Mo_269 ?_
          refine aw_bipush (v := nI 6) (aw_d q_Mo_valueTags 119 rfl) (by decide) ?_
          refine cVv (aw_d q_Mo_valueTags 120 rfl) (sp_mustI (Nat.le_trans hu210 hc.2.1) (by decide)) vL_Mo_340_Mo rfl rfl rfl rfl rfl rfl ⟨aw_le rfl, aw_le rfl⟩ ?_
          refine aw_goto (tgt := 278) (aw_d q_Mo_valueTags 121 rfl) (by decide) ?_
          exact aw_vret (aw_d q_Mo_valueTags 138 rfl) rfl (⟨rfl, by rw [show vtV T n p = .error u210 by simp only [vtV, xm, xo, xy, okT, xc_0, xc_1, xc_2, xc_3, xc_4, bd_bd, Bool.false_eq_true, bd_ok, bd_er, if_true, if_false, eq_self, ↓reduceIte, hx8s, hx203s, hx210, show ((T b5).toInt = 117) = True from eq_true (by omega)]]; exact ⟨Nat.le_trans hu210 hc.2.1, _, _, _, _, _, hI.1, hb210, rfl⟩⟩)
        | ok y210 =>
          rw [hx210] at hp210
          obtain ⟨hy210, h60210, rfl⟩ := hp210
          refine aw_aload_n (aw_d q_Mo_valueTags 106 rfl) rfl rfl rfl ?_
          refine aw_iload_n (aw_d q_Mo_valueTags 107 rfl) rfl rfl ?_
          refine aw_iload (aw_d q_Mo_valueTags 108 rfl) rfl ?_
          refine cV (aw_d q_Mo_valueTags 109 rfl) (sp_checkA (L := y210.2) (kd := 0) (x := nI b47) hy210.2.1 hy210.2.2 (by omega)) vL_Mo_417_Mo rfl rfl rfl rfl rfl rfl ⟨aw_le rfl, aw_le rfl⟩ (fun r217 h217 hp217 => ?_)
          obtain ⟨rfl, hp217⟩ := hp217
          rcases hp217 with ⟨hk217, rfl⟩ | ⟨hk217, rfl⟩
          · skip -- ok
            refine aw_aload_n (aw_d q_Mo_valueTags 110 rfl) rfl rfl rfl ?_
            refine aw_iload_n (aw_d q_Mo_valueTags 111 rfl) rfl rfl ?_
            refine aw_iload_n (aw_d q_Mo_valueTags 112 rfl) rfl rfl ?_
            refine aw_iload (aw_d q_Mo_valueTags 113 rfl) rfl ?_
            refine cV (aw_d q_Mo_valueTags 114 rfl) (sp_giveA (kd := 0) (ex := 0) (L := y210.2) hI hs hv hy210.2.1) vL_Mo_430_Mo rfl rfl rfl rfl rfl rfl ⟨aw_le rfl, aw_le rfl⟩ (fun r225 h225 hp225 => ?_)
            obtain ⟨rfl, F225, hI225, rfl⟩ := hp225
            refine aw_iload_n (aw_d q_Mo_valueTags 115 rfl) rfl rfl ?_
            refine aw_ifN_ne (tgt := 244) (aw_d q_Mo_valueTags 116 rfl) (by decide) (by (have hc2 := hc.2.1; omega)) (fun c229 => by exfalso; (have hc2 := hc.2.1; omega)) (fun c229 => ?_)
            refine aw_aload_n (aw_d q_Mo_valueTags 117 rfl) rfl rfl rfl ?_
            refine aw_ldc2 (aw_d q_Mo_valueTags 118 rfl) lL_Mo_269 ?_
            refine aw_bipush (v := nI 6) (aw_d q_Mo_valueTags 119 rfl) (by decide) ?_
            refine cV (aw_d q_Mo_valueTags 120 rfl) (sp_Umust (res := .ok (y210.1, ())) (A := []) (x := 66174531561790) (j := 6) (frM_TP hI225.1 hc) (by decide) (RR_su (T := T) hy210.1)) vL_Mo_340_Mo rfl rfl rfl rfl rfl rfl ⟨aw_le rfl, aw_le rfl⟩ (fun r238 h238 hp238 => ?_)
            obtain ⟨rfl, b238, q238, hr238, rfl⟩ := hp238
            refine aw_goto (tgt := 278) (aw_d q_Mo_valueTags 121 rfl) (by decide) ?_
            rw [bp_ok, show mu T ([] ++ eB 66174531561790 6) y210.1 = mu T (tx 41) y210.1 from (congrArg (fun L => mu T L _) (show _ = tx 41 by decide))] at hr238
            cases hx278s : mu T (tx 41) y210.1 with
            | error u278s =>
              rw [hx278s] at hr238
              obtain ⟨hu278s, rfl, hb278s⟩ := hr238
              exact aw_vret (aw_d q_Mo_valueTags 138 rfl) rfl (⟨rfl, by rw [show vtV T n p = .error u278s by simp only [vtV, xm, xo, xy, okT, xc_0, xc_1, xc_2, xc_3, xc_4, bd_bd, Bool.false_eq_true, bd_ok, bd_er, if_true, if_false, eq_self, ↓reduceIte, hx8s, hx203s, hx210, hx278s, show ((T b5).toInt = 117) = True from eq_true (by omega), hk217]]; exact ⟨hu278s, _, _, _, _, _, hI225.1, hb278s, rfl⟩⟩)
            | ok p278s =>
              rw [hx278s] at hr238
              obtain ⟨hbb278s, hp_278s, rfl⟩ := hr238
              have hbb278s : b238 = p278s := hbb278s
              subst hbb278s
              exact aw_vret (aw_d q_Mo_valueTags 138 rfl) rfl (⟨rfl, by rw [show vtV T n p = .ok (b238, 0, 0, y210.2) by simp only [vtV, xm, xo, xy, okT, xc_0, xc_1, xc_2, xc_3, xc_4, bd_bd, Bool.false_eq_true, bd_ok, bd_er, if_true, if_false, eq_self, ↓reduceIte, hx8s, hx203s, hx210, hx278s, show ((T b5).toInt = 117) = True from eq_true (by omega), hk217]]; exact ⟨_, _, _, _, ⟨hI225, itW_i (kd := 0) (ex := 0) (by decide) hy210.2.1 (by decide) (fun h => absurd h (by decide)) (fun _ => rfl) hy210.2.2 (hk217)⟩, hp_278s, rfl⟩⟩)
          · skip -- no
            refine aw_aload_n (aw_d q_Mo_valueTags 110 rfl) rfl rfl rfl ?_
            refine aw_iload_n (aw_d q_Mo_valueTags 111 rfl) rfl rfl ?_
            refine aw_iload_n (aw_d q_Mo_valueTags 112 rfl) rfl rfl ?_
            refine aw_iload (aw_d q_Mo_valueTags 113 rfl) rfl ?_
            refine cVv (aw_d q_Mo_valueTags 114 rfl) (sp_giveI (show b47 ≤ 3000 by have := hc.2.1; omega) (show y210.1 ≤ 3010 by have := hc.2.1; have := hy210.1; omega)) vL_Mo_430_Mo rfl rfl rfl rfl rfl rfl ⟨aw_le rfl, aw_le rfl⟩ ?_
            refine aw_iload_n (aw_d q_Mo_valueTags 115 rfl) rfl rfl ?_
            refine aw_ifN_ne (tgt := 244) (aw_d q_Mo_valueTags 116 rfl) (by decide) (by (have hc2 := hc.2.1; omega)) (fun c229 => by exfalso; (have hc2 := hc.2.1; omega)) (fun c229 => ?_)
            refine aw_aload_n (aw_d q_Mo_valueTags 117 rfl) rfl rfl rfl ?_
            refine aw_ldc2 (aw_d q_Mo_valueTags 118 rfl) lL_Mo_269 ?_
            refine aw_bipush (v := nI 6) (aw_d q_Mo_valueTags 119 rfl) (by decide) ?_
            refine cVv (aw_d q_Mo_valueTags 120 rfl) (sp_mustI (show b47 ≤ 3000 by have := hc.2.1; omega) (by decide)) vL_Mo_340_Mo rfl rfl rfl rfl rfl rfl ⟨aw_le rfl, aw_le rfl⟩ ?_
            refine aw_goto (tgt := 278) (aw_d q_Mo_valueTags 121 rfl) (by decide) ?_
            exact aw_vret (aw_d q_Mo_valueTags 138 rfl) rfl (⟨rfl, by rw [show vtV T n p = .error b47 by simp only [vtV, xm, xo, xy, okT, xc_0, xc_1, xc_2, xc_3, xc_4, bd_bd, Bool.false_eq_true, bd_ok, bd_er, if_true, if_false, eq_self, ↓reduceIte, hx8s, hx203s, hx210, show ((T b5).toInt = 117) = True from eq_true (by omega), hk217]]; exact ⟨by have := hc.2.1; omega, _, _, _, _, _, hI.1, by have := hc.2.1; have := hy210.1; omega, rfl⟩⟩)
set_option maxRecDepth 20000 in
theorem sp_valTI {g : aw_G} {S : aw_S} {u b : Nat} {f z : Int32} {X : Nat → Int32} (hu : u ≤ 3000) (hb : b ≤ 3010) {x : Int32} {n : Nat} {T : Nat → Int32} (hc : TPm S n T) : Sp g M_Mo_valueTags 4 88 0 0 [.ref 33, .int x] (HP (QM S (nI b) (nI u) f z X)) (fun r h => r = none ∧ ∃ (f z : Int32) (X : Nat → Int32), h = HP (QM S (nI b) (nI u) f z X)) := by
  refine Sp.of rfl (aw_le rfl) ?_
  refine aw_aload_n (aw_d q_Mo_valueTags 0 rfl) rfl rfl rfl ?_
  refine aw_ldc2 (aw_d q_Mo_valueTags 1 rfl) lL_Mo_440 ?_
  refine aw_iconst (v := nI 1) (aw_d q_Mo_valueTags 2 rfl) (by decide) ?_
  refine cVv (aw_d q_Mo_valueTags 3 rfl) (sp_mustI hu (by decide)) vL_Mo_340_Mo rfl rfl rfl rfl rfl rfl ⟨aw_le rfl, aw_le rfl⟩ ?_
  refine aw_aload_n (aw_d q_Mo_valueTags 4 rfl) rfl rfl rfl ?_
  refine cVr (aw_d q_Mo_valueTags 5 rfl) (sp_peek hc (b := b) hb) vL_Mo_331_Mo rfl rfl rfl rfl rfl rfl ⟨aw_le rfl, aw_le rfl⟩ ?_
  refine aw_istore_n (aw_d q_Mo_valueTags 6 rfl) rfl (aw_le rfl) rfl ?_
  refine aw_iload_n (aw_d q_Mo_valueTags 7 rfl) rfl rfl ?_
  refine aw_bipush (v := nI 117) (aw_d q_Mo_valueTags 8 rfl) (by decide) ?_
  refine aw_icmpI_ne (tgt := 23) (aw_d q_Mo_valueTags 9 rfl) (by decide) (by omega) (fun c16 => ?_) (fun c16 => ?_)
  · refine aw_iload_n (aw_d q_Mo_valueTags 12 rfl) rfl rfl ?_
    refine aw_bipush (v := nI 98) (aw_d q_Mo_valueTags 13 rfl) (by decide) ?_
    refine aw_icmpI_ne (tgt := 33) (aw_d q_Mo_valueTags 14 rfl) (by decide) (by omega) (fun c26 => ?_) (fun c26 => ?_)
    · refine aw_iconst (v := nI 2) (aw_d q_Mo_valueTags 17 rfl) (by decide) ?_
      refine aw_istore_n (aw_d q_Mo_valueTags 18 rfl) rfl (aw_le rfl) rfl ?_
      refine aw_iconst (v := nI 0) (aw_d q_Mo_valueTags 19 rfl) (by decide) ?_
      refine aw_istore (aw_d q_Mo_valueTags 20 rfl) (aw_le rfl) rfl ?_
      refine aw_iload_n (aw_d q_Mo_valueTags 21 rfl) rfl rfl ?_
      refine aw_ifN_ne (tgt := 53) (aw_d q_Mo_valueTags 22 rfl) (by decide) (by omega) (fun c39 => ?_) (fun c39 => by exfalso; omega)
      refine aw_iload_n (aw_d q_Mo_valueTags 28 rfl) rfl rfl ?_
      refine aw_iconst (v := nI 1) (aw_d q_Mo_valueTags 29 rfl) (by decide) ?_
      refine aw_icmpN_ne (tgt := 70) (aw_d q_Mo_valueTags 30 rfl) (by decide) (by omega) (by omega) (fun c55 => ?_) (fun c55 => by exfalso; omega)
      refine aw_aload_n (aw_d q_Mo_valueTags 36 rfl) rfl rfl rfl ?_
      refine aw_ldc2 (aw_d q_Mo_valueTags 37 rfl) lL_Mo_199 ?_
      refine aw_bipush (v := nI 7) (aw_d q_Mo_valueTags 38 rfl) (by decide) ?_
      refine cVv (aw_d q_Mo_valueTags 39 rfl) (sp_mustI hu (by decide)) vL_Mo_340_Mo rfl rfl rfl rfl rfl rfl ⟨aw_le rfl, aw_le rfl⟩ ?_
      refine aw_aload_n (aw_d q_Mo_valueTags 40 rfl) rfl rfl rfl ?_
      refine cVr (aw_d q_Mo_valueTags 41 rfl) (sp_goesI hu) vL_Mo_327_Mo rfl rfl rfl rfl rfl rfl ⟨aw_le rfl, aw_le rfl⟩ ?_
      refine aw_ifN_eq (tgt := 195) (aw_d q_Mo_valueTags 42 rfl) (by decide) (by omega) (fun c83 => ?_) (fun c83 => by exfalso; omega)
      refine aw_aload_n (aw_d q_Mo_valueTags 97 rfl) rfl rfl rfl ?_
      refine aw_ldc2 (aw_d q_Mo_valueTags 98 rfl) lL_Mo_249 ?_
      refine aw_iconst (v := nI 1) (aw_d q_Mo_valueTags 99 rfl) (by decide) ?_
      refine cVv (aw_d q_Mo_valueTags 100 rfl) (sp_mustI hu (by decide)) vL_Mo_340_Mo rfl rfl rfl rfl rfl rfl ⟨aw_le rfl, aw_le rfl⟩ ?_
      refine aw_aload_n (aw_d q_Mo_valueTags 101 rfl) rfl rfl rfl ?_
      refine aw_getf (v := .int (nI (b))) (aw_d q_Mo_valueTags 102 rfl) fL_Mo_324_Mo rfl (gk rfl) ?_
      refine aw_istore (aw_d q_Mo_valueTags 103 rfl) (aw_le rfl) rfl ?_
      refine aw_aload_n (aw_d q_Mo_valueTags 104 rfl) rfl rfl rfl ?_
      refine cVv (aw_d q_Mo_valueTags 105 rfl) (sp_tagTI hu hb) vL_Mo_448_Mo rfl rfl rfl rfl rfl rfl ⟨aw_le rfl, aw_le rfl⟩ ?_
      refine aw_aload_n (aw_d q_Mo_valueTags 106 rfl) rfl rfl rfl ?_
      refine aw_iload_n (aw_d q_Mo_valueTags 107 rfl) rfl rfl ?_
      refine aw_iload (aw_d q_Mo_valueTags 108 rfl) rfl ?_
      refine cVv (aw_d q_Mo_valueTags 109 rfl) (sp_checkI hu hb) vL_Mo_417_Mo rfl rfl rfl rfl rfl rfl ⟨aw_le rfl, aw_le rfl⟩ ?_
      refine aw_aload_n (aw_d q_Mo_valueTags 110 rfl) rfl rfl rfl ?_
      refine aw_iload_n (aw_d q_Mo_valueTags 111 rfl) rfl rfl ?_
      refine aw_iload_n (aw_d q_Mo_valueTags 112 rfl) rfl rfl ?_
      refine aw_iload (aw_d q_Mo_valueTags 113 rfl) rfl ?_
      refine cVv (aw_d q_Mo_valueTags 114 rfl) (sp_giveI hu hb) vL_Mo_430_Mo rfl rfl rfl rfl rfl rfl ⟨aw_le rfl, aw_le rfl⟩ ?_
      refine aw_iload_n (aw_d q_Mo_valueTags 115 rfl) rfl rfl ?_
      refine aw_ifN_ne (tgt := 244) (aw_d q_Mo_valueTags 116 rfl) (by decide) (by omega) (fun c229 => ?_) (fun c229 => by exfalso; omega)
      refine aw_iload_n (aw_d q_Mo_valueTags 122 rfl) rfl rfl ?_
      refine aw_iconst (v := nI 1) (aw_d q_Mo_valueTags 123 rfl) (by decide) ?_
      refine aw_icmpN_ne (tgt := 261) (aw_d q_Mo_valueTags 124 rfl) (by decide) (by omega) (by omega) (fun c246 => ?_) (fun c246 => by exfalso; omega)
      refine aw_aload_n (aw_d q_Mo_valueTags 130 rfl) rfl rfl rfl ?_
      refine aw_ldc2 (aw_d q_Mo_valueTags 131 rfl) lL_Mo_273 ?_
      refine aw_bipush (v := nI 8) (aw_d q_Mo_valueTags 132 rfl) (by decide) ?_
      refine cVv (aw_d q_Mo_valueTags 133 rfl) (sp_mustI hu (by decide)) vL_Mo_340_Mo rfl rfl rfl rfl rfl rfl ⟨aw_le rfl, aw_le rfl⟩ ?_
      refine aw_aload_n (aw_d q_Mo_valueTags 134 rfl) rfl rfl rfl ?_
      refine aw_ldc2 (aw_d q_Mo_valueTags 135 rfl) lL_Mo_275 ?_
      refine aw_iconst (v := nI 2) (aw_d q_Mo_valueTags 136 rfl) (by decide) ?_
      refine cVv (aw_d q_Mo_valueTags 137 rfl) (sp_mustI hu (by decide)) vL_Mo_340_Mo rfl rfl rfl rfl rfl rfl ⟨aw_le rfl, aw_le rfl⟩ ?_
      exact aw_vret (aw_d q_Mo_valueTags 138 rfl) rfl (⟨rfl, _, _, _, rfl⟩)
    · refine aw_iconst (v := nI 1) (aw_d q_Mo_valueTags 15 rfl) (by decide) ?_
      refine aw_goto (tgt := 34) (aw_d q_Mo_valueTags 16 rfl) (by decide) ?_
      refine aw_istore_n (aw_d q_Mo_valueTags 18 rfl) rfl (aw_le rfl) rfl ?_
      refine aw_iconst (v := nI 0) (aw_d q_Mo_valueTags 19 rfl) (by decide) ?_
      refine aw_istore (aw_d q_Mo_valueTags 20 rfl) (aw_le rfl) rfl ?_
      refine aw_iload_n (aw_d q_Mo_valueTags 21 rfl) rfl rfl ?_
      refine aw_ifN_ne (tgt := 53) (aw_d q_Mo_valueTags 22 rfl) (by decide) (by omega) (fun c39 => ?_) (fun c39 => by exfalso; omega)
      refine aw_iload_n (aw_d q_Mo_valueTags 28 rfl) rfl rfl ?_
      refine aw_iconst (v := nI 1) (aw_d q_Mo_valueTags 29 rfl) (by decide) ?_
      refine aw_icmpN_ne (tgt := 70) (aw_d q_Mo_valueTags 30 rfl) (by decide) (by omega) (by omega) (fun c55 => by exfalso; omega) (fun c55 => ?_)
      refine aw_aload_n (aw_d q_Mo_valueTags 31 rfl) rfl rfl rfl ?_
      refine aw_ldc2 (aw_d q_Mo_valueTags 32 rfl) lL_Mo_444 ?_
      refine aw_bipush (v := nI 6) (aw_d q_Mo_valueTags 33 rfl) (by decide) ?_
      refine cVv (aw_d q_Mo_valueTags 34 rfl) (sp_mustI hu (by decide)) vL_Mo_340_Mo rfl rfl rfl rfl rfl rfl ⟨aw_le rfl, aw_le rfl⟩ ?_
      refine aw_goto (tgt := 203) (aw_d q_Mo_valueTags 35 rfl) (by decide) ?_
      refine aw_aload_n (aw_d q_Mo_valueTags 101 rfl) rfl rfl rfl ?_
      refine aw_getf (v := .int (nI (b))) (aw_d q_Mo_valueTags 102 rfl) fL_Mo_324_Mo rfl (gk rfl) ?_
      refine aw_istore (aw_d q_Mo_valueTags 103 rfl) (aw_le rfl) rfl ?_
      refine aw_aload_n (aw_d q_Mo_valueTags 104 rfl) rfl rfl rfl ?_
      refine cVv (aw_d q_Mo_valueTags 105 rfl) (sp_tagTI hu hb) vL_Mo_448_Mo rfl rfl rfl rfl rfl rfl ⟨aw_le rfl, aw_le rfl⟩ ?_
      refine aw_aload_n (aw_d q_Mo_valueTags 106 rfl) rfl rfl rfl ?_
      refine aw_iload_n (aw_d q_Mo_valueTags 107 rfl) rfl rfl ?_
      refine aw_iload (aw_d q_Mo_valueTags 108 rfl) rfl ?_
      refine cVv (aw_d q_Mo_valueTags 109 rfl) (sp_checkI hu hb) vL_Mo_417_Mo rfl rfl rfl rfl rfl rfl ⟨aw_le rfl, aw_le rfl⟩ ?_
      refine aw_aload_n (aw_d q_Mo_valueTags 110 rfl) rfl rfl rfl ?_
      refine aw_iload_n (aw_d q_Mo_valueTags 111 rfl) rfl rfl ?_
      refine aw_iload_n (aw_d q_Mo_valueTags 112 rfl) rfl rfl ?_
      refine aw_iload (aw_d q_Mo_valueTags 113 rfl) rfl ?_
      refine cVv (aw_d q_Mo_valueTags 114 rfl) (sp_giveI hu hb) vL_Mo_430_Mo rfl rfl rfl rfl rfl rfl ⟨aw_le rfl, aw_le rfl⟩ ?_
      refine aw_iload_n (aw_d q_Mo_valueTags 115 rfl) rfl rfl ?_
      refine aw_ifN_ne (tgt := 244) (aw_d q_Mo_valueTags 116 rfl) (by decide) (by omega) (fun c229 => ?_) (fun c229 => by exfalso; omega)
      refine aw_iload_n (aw_d q_Mo_valueTags 122 rfl) rfl rfl ?_
      refine aw_iconst (v := nI 1) (aw_d q_Mo_valueTags 123 rfl) (by decide) ?_
      refine aw_icmpN_ne (tgt := 261) (aw_d q_Mo_valueTags 124 rfl) (by decide) (by omega) (by omega) (fun c246 => by exfalso; omega) (fun c246 => ?_)
      refine aw_aload_n (aw_d q_Mo_valueTags 125 rfl) rfl rfl rfl ?_
      refine aw_ldc2 (aw_d q_Mo_valueTags 126 rfl) lL_Mo_271 ?_
      refine aw_bipush (v := nI 8) (aw_d q_Mo_valueTags 127 rfl) (by decide) ?_
      refine cVv (aw_d q_Mo_valueTags 128 rfl) (sp_mustI hu (by decide)) vL_Mo_340_Mo rfl rfl rfl rfl rfl rfl ⟨aw_le rfl, aw_le rfl⟩ ?_
      refine aw_goto (tgt := 278) (aw_d q_Mo_valueTags 129 rfl) (by decide) ?_
      exact aw_vret (aw_d q_Mo_valueTags 138 rfl) rfl (⟨rfl, _, _, _, rfl⟩)
  · refine aw_iconst (v := nI 0) (aw_d q_Mo_valueTags 10 rfl) (by decide) ?_
    refine aw_goto (tgt := 34) (aw_d q_Mo_valueTags 11 rfl) (by decide) ?_
    refine aw_istore_n (aw_d q_Mo_valueTags 18 rfl) rfl (aw_le rfl) rfl ?_
    refine aw_iconst (v := nI 0) (aw_d q_Mo_valueTags 19 rfl) (by decide) ?_
    refine aw_istore (aw_d q_Mo_valueTags 20 rfl) (aw_le rfl) rfl ?_
    refine aw_iload_n (aw_d q_Mo_valueTags 21 rfl) rfl rfl ?_
    refine aw_ifN_ne (tgt := 53) (aw_d q_Mo_valueTags 22 rfl) (by decide) (by omega) (fun c39 => by exfalso; omega) (fun c39 => ?_)
    refine aw_aload_n (aw_d q_Mo_valueTags 23 rfl) rfl rfl rfl ?_
    refine aw_ldc2 (aw_d q_Mo_valueTags 24 rfl) lL_Mo_442 ?_
    refine aw_iconst (v := nI 4) (aw_d q_Mo_valueTags 25 rfl) (by decide) ?_
    refine cVv (aw_d q_Mo_valueTags 26 rfl) (sp_mustI hu (by decide)) vL_Mo_340_Mo rfl rfl rfl rfl rfl rfl ⟨aw_le rfl, aw_le rfl⟩ ?_
    refine aw_goto (tgt := 203) (aw_d q_Mo_valueTags 27 rfl) (by decide) ?_
    refine aw_aload_n (aw_d q_Mo_valueTags 101 rfl) rfl rfl rfl ?_
    refine aw_getf (v := .int (nI (b))) (aw_d q_Mo_valueTags 102 rfl) fL_Mo_324_Mo rfl (gk rfl) ?_
    refine aw_istore (aw_d q_Mo_valueTags 103 rfl) (aw_le rfl) rfl ?_
    refine aw_aload_n (aw_d q_Mo_valueTags 104 rfl) rfl rfl rfl ?_
    refine cVv (aw_d q_Mo_valueTags 105 rfl) (sp_tagTI hu hb) vL_Mo_448_Mo rfl rfl rfl rfl rfl rfl ⟨aw_le rfl, aw_le rfl⟩ ?_
    refine aw_aload_n (aw_d q_Mo_valueTags 106 rfl) rfl rfl rfl ?_
    refine aw_iload_n (aw_d q_Mo_valueTags 107 rfl) rfl rfl ?_
    refine aw_iload (aw_d q_Mo_valueTags 108 rfl) rfl ?_
    refine cVv (aw_d q_Mo_valueTags 109 rfl) (sp_checkI hu hb) vL_Mo_417_Mo rfl rfl rfl rfl rfl rfl ⟨aw_le rfl, aw_le rfl⟩ ?_
    refine aw_aload_n (aw_d q_Mo_valueTags 110 rfl) rfl rfl rfl ?_
    refine aw_iload_n (aw_d q_Mo_valueTags 111 rfl) rfl rfl ?_
    refine aw_iload_n (aw_d q_Mo_valueTags 112 rfl) rfl rfl ?_
    refine aw_iload (aw_d q_Mo_valueTags 113 rfl) rfl ?_
    refine cVv (aw_d q_Mo_valueTags 114 rfl) (sp_giveI hu hb) vL_Mo_430_Mo rfl rfl rfl rfl rfl rfl ⟨aw_le rfl, aw_le rfl⟩ ?_
    refine aw_iload_n (aw_d q_Mo_valueTags 115 rfl) rfl rfl ?_
    refine aw_ifN_ne (tgt := 244) (aw_d q_Mo_valueTags 116 rfl) (by decide) (by omega) (fun c229 => by exfalso; omega) (fun c229 => ?_)
    refine aw_aload_n (aw_d q_Mo_valueTags 117 rfl) rfl rfl rfl ?_
    refine aw_ldc2 (aw_d q_Mo_valueTags 118 rfl) lL_Mo_269 ?_
    refine aw_bipush (v := nI 6) (aw_d q_Mo_valueTags 119 rfl) (by decide) ?_
    refine cVv (aw_d q_Mo_valueTags 120 rfl) (sp_mustI hu (by decide)) vL_Mo_340_Mo rfl rfl rfl rfl rfl rfl ⟨aw_le rfl, aw_le rfl⟩ ?_
    refine aw_goto (tgt := 278) (aw_d q_Mo_valueTags 121 rfl) (by decide) ?_
    exact aw_vret (aw_d q_Mo_valueTags 138 rfl) rfl (⟨rfl, _, _, _, rfl⟩)
