theorem ml62 {T : Nat → Int32} {n p : Nat} : ml T n (tx 62) p = bd (ml T n [34] p) (fun q => .ok (sk T n q)) := by
  rw [show tx 62 = [34] ++ [32] by decide, ml_app]
  rfl
theorem cl3 {T : Nat → Int32} {n p : Nat} {L : List Int32} (j : Nat) (hL : L = [32, 93] ++ tx j) : ml T n L p = bd (mu T (tx 63) (sk T n p)) (ml T n (tx j)) := by
  rw [hL, ml_app, sgn (c := 93) rfl (by decide)]
  rfl
theorem mu63y {T : Nat → Int32} {p : Nat} (h : (T p).toInt = 93) : mu T (tx 63) p = .ok (p + 1) := mu1 rfl h
theorem mu63 {T : Nat → Int32} {p : Nat} (h : ¬ (T p).toInt = 93) : mu T (tx 63) p = .error p := if_neg (show ¬ (T p).toInt = (93 : Int32).toInt from h)
theorem jw_n {T : Nat → Int32} {n r p : Nat} {N : nm_T} {s : sq_T} (h : ¬ (T p).toInt = 123) : jw T n N r p s = .error p := by
  rw [jw, show ml T n (tx 65) p = .error p from by show (if (123 : Int32).toInt = 32 then _ else if (T p).toInt = (123 : Int32).toInt then _ else Except.error p) = _; rw [if_neg (by decide), if_neg (show ¬ (T p).toInt = (123 : Int32).toInt from h)], bd_er]
theorem jw_y {T : Nat → Int32} {n r p : Nat} {N : nm_T} {s : sq_T} (h : (T p).toInt = 123) : jw T n N r p s = rbV T n N r (p + 1) s := by
  rw [jw, show ml T n (tx 65) p = .ok (sk T n (p + 1)) from by show (if (123 : Int32).toInt = 32 then _ else if (T p).toInt = (123 : Int32).toInt then ml T n [32] (p + 1) else Except.error p) = _; rw [if_neg (by decide), if_pos (show (T p).toInt = (123 : Int32).toInt from h)]; exact ml_sp (A := []), bd_ok]
  rfl
theorem sgy {T : Nat → Int32} {n p : Nat} {L : List Int32} (hL : L = [32, 123]) (h : (T p).toInt = 123) : ml T n L p = .ok (p + 1) := by
  rw [sgn hL (by decide), sk_no (bl1_no (by omega))]; exact mu1 rfl h
theorem sgx {T : Nat → Int32} {n p : Nat} {L : List Int32} (hL : L = [32, 123]) (h : ¬ (T (sk T n p)).toInt = 123) : ml T n L p = .error (sk T n p) := by
  rw [sgn hL (by decide)]; exact if_neg (show ¬ (T (sk T n p)).toInt = (123 : Int32).toInt from h)
theorem sk_sk {T : Nat → Int32} {n p : Nat} (hT : ∀ i, n ≤ i → T i = -1) (hp : p ≤ n) : sk T n (sk T n p) = sk T n p := by
  by_cases h : sk T n p < n
  · exact sk_no (runB_end (c := bl1) (n - p) p (by show sk T n p < p + (n - p); omega))
  · exact sk_no (by rw [hT _ (by omega)]; decide)
set_option maxRecDepth 20000 in
theorem rb_tail {g : aw_G} {S : aw_S} {n : Nat} {T : Nat → Int32} (hc : TPm S n T)  : ∀ (p r : Nat) (s : sq_T) (N : nm_T) (D : aw_S) (f z : Int32) (X : Nat → Int32) (x1 : Option Value), p ≤ n → imC S N r s D → itOK s (r * 6) → AW g M_Mo_readBraces (aw_rm 6 137 0 0) (aw_F g 0 0 (fun x h => x = none ∧ match bd (mu T (tx 63) (sk T n p)) (fun p => bd (ml T n (tx 74) p) (fun p => bd (me n p) (fun p => .ok (p, N, r, s)))) with
  | .ok y => ∃ (F : aw_S) (f z : Int32) (X : Nat → Int32), (imC S y.2.1 y.2.2.1 y.2.2.2 F ∧ itOK y.2.2.2 (y.2.2.1 * 6)) ∧ y.1 ≤ n ∧ h = HP (QM F (nI y.1) (-1) f z X)
  | .error u => u ≤ 3000 ∧ ∃ (F : aw_S) (b : Nat) (f z : Int32) (X : Nat → Int32), frM S F ∧ b ≤ 3010 ∧ h = HP (QM F (nI b) (nI u) f z X))) 263 [some (.ref 33), x1] [] (HP (QM D (nI p) (-1) f z X)) 0 0 := by
  have hc2 := hc.2.1
  intro p r s N D f z X x1 hp hI hs
  refine aw_aload_n (aw_d q_Mo_readBraces 129 rfl) rfl rfl rfl ?_
  refine aw_bipush (v := nI 93) (aw_d q_Mo_readBraces 130 rfl) (by decide) ?_
  refine cV (aw_d q_Mo_readBraces 131 rfl) (sp_Lsign (res := .ok (p, ())) (A := []) (c := 93) (frM_TP hI.1 hc) (by decide) (RR_st (T := T) hp)) vL_Mo_343_Mo rfl rfl rfl rfl rfl rfl ⟨aw_le rfl, aw_le rfl⟩ (fun r266 h266 hp266 => ?_)
  obtain ⟨rfl, b266, q266, hr266, rfl⟩ := hp266
  refine aw_aload_n (aw_d q_Mo_readBraces 132 rfl) rfl rfl rfl ?_
  refine aw_bipush (v := nI 125) (aw_d q_Mo_readBraces 133 rfl) (by decide) ?_
  refine cV (aw_d q_Mo_readBraces 134 rfl) (sp_Lsign (res := .ok (p, ())) (A := ([] ++ [32, nI 93])) (c := 125) (frM_TP hI.1 hc) (by decide) hr266) vL_Mo_343_Mo rfl rfl rfl rfl rfl rfl ⟨aw_le rfl, aw_le rfl⟩ (fun r272 h272 hp272 => ?_)
  obtain ⟨rfl, b272, q272, hr272, rfl⟩ := hp272
  refine aw_aload_n (aw_d q_Mo_readBraces 135 rfl) rfl rfl rfl ?_
  refine aw_bipush (v := nI 125) (aw_d q_Mo_readBraces 136 rfl) (by decide) ?_
  refine cV (aw_d q_Mo_readBraces 137 rfl) (sp_Lsign (res := .ok (p, ())) (A := (([] ++ [32, nI 93]) ++ [32, nI 125])) (c := 125) (frM_TP hI.1 hc) (by decide) hr272) vL_Mo_343_Mo rfl rfl rfl rfl rfl rfl ⟨aw_le rfl, aw_le rfl⟩ (fun r278 h278 hp278 => ?_)
  obtain ⟨rfl, b278, q278, hr278, rfl⟩ := hp278
  refine aw_aload_n (aw_d q_Mo_readBraces 138 rfl) rfl rfl rfl ?_
  refine cV (aw_d q_Mo_readBraces 139 rfl) (sp_Lblanks (res := .ok (p, ())) (A := ((([] ++ [32, nI 93]) ++ [32, nI 125]) ++ [32, nI 125]))  (frM_TP hI.1 hc)  hr278) vL_Mo_337_Mo rfl rfl rfl rfl rfl rfl ⟨aw_le rfl, aw_le rfl⟩ (fun r282 h282 hp282 => ?_)
  obtain ⟨rfl, b282, q282, hr282, rfl⟩ := hp282
  rw [bp_ok, show ml T n (((([] ++ [32, nI 93]) ++ [32, nI 125]) ++ [32, nI 125]) ++ [32]) p = bd (mu T (tx 63) (sk T n p)) (ml T n (tx 74)) from (cl3 74 (by decide))] at hr282
  cases hx285s : bd (mu T (tx 63) (sk T n p)) (ml T n (tx 74)) with
  | error u285s =>
    rw [hx285s] at hr282
    obtain ⟨hu285s, rfl, hb285s⟩ := hr282
    refine aw_aload_n (aw_d q_Mo_readBraces 140 rfl) rfl rfl rfl ?_
    refine cVv (aw_d q_Mo_readBraces 141 rfl) (sp_endI hu285s) vL_Mo_401_Mo rfl rfl rfl rfl rfl rfl ⟨aw_le rfl, aw_le rfl⟩ ?_
    exact aw_vret (aw_d q_Mo_readBraces 142 rfl) rfl (⟨rfl, by rw [show bd (mu T (tx 63) (sk T n p)) (fun p => bd (ml T n (tx 74) p) (fun p => bd (me n p) (fun p => .ok (p, N, r, s)))) = .error u285s by rw [← bd_bd, hx285s, bd_er]]; exact ⟨hu285s, _, _, _, _, _, hI.1, hb285s, rfl⟩⟩)
  | ok p285s =>
    rw [hx285s] at hr282
    obtain ⟨hbb285s, hp_285s, rfl⟩ := hr282
    have hbb285s : b282 = p285s := hbb285s
    subst hbb285s
    refine aw_aload_n (aw_d q_Mo_readBraces 140 rfl) rfl rfl rfl ?_
    refine cV (aw_d q_Mo_readBraces 141 rfl) (sp_mend (res := .ok (b282, ())) (frM_TP hI.1 hc) (RR_ok rfl hp_285s rfl)) vL_Mo_401_Mo rfl rfl rfl rfl rfl rfl ⟨aw_le rfl, aw_le rfl⟩ (fun r286 h286 hp286 => ?_)
    obtain ⟨rfl, b286, q286, hr286, rfl⟩ := hp286
    rw [bp_ok] at hr286
    exact aw_vret (aw_d q_Mo_readBraces 142 rfl) rfl (⟨rfl, by rw [show bd (mu T (tx 63) (sk T n p)) (fun p => bd (ml T n (tx 74) p) (fun p => bd (me n p) (fun p => .ok (p, N, r, s)))) = bd (me n b282) (fun p => .ok (p, N, r, s)) by rw [← bd_bd, hx285s, bd_ok]]; cases hq : me n b282 with | error u => (rw [hq] at hr286; obtain ⟨h1, rfl, h3⟩ := hr286; exact ⟨h1, _, _, _, _, _, hI.1, h3, rfl⟩) | ok w => (rw [hq] at hr286; obtain ⟨h1, h2, rfl⟩ := hr286; have h1 : b286 = w := h1; subst h1; exact ⟨_, _, _, _, ⟨hI, hs⟩, h2, rfl⟩)⟩)
set_option maxRecDepth 20000 in
theorem lp_rbR {g : aw_G} {S : aw_S} {n : Nat} {T : Nat → Int32} (hc : TPm S n T) {N : nm_T} {res : Except Nat (Nat × rd_T)} : ∀ (m p r : Nat) (s : sq_T) (D : aw_S) (f z : Int32) (X : Nat → Int32), 25 ≤ m + r → p ≤ n → imC S N r s D → itOK s (r * 6) → res = bd (js T n N m p r s) (fun z => bd (ml T n (tx 74) z.1) (fun p => bd (me n p) (fun p => .ok (p, N, z.2)))) → AW g M_Mo_readBraces (aw_rm 6 137 0 0) (aw_F g 0 0 (fun x h => x = none ∧ match res with
  | .ok y => ∃ (F : aw_S) (f z : Int32) (X : Nat → Int32), (imC S y.2.1 y.2.2.1 y.2.2.2 F ∧ itOK y.2.2.2 (y.2.2.1 * 6)) ∧ y.1 ≤ n ∧ h = HP (QM F (nI y.1) (-1) f z X)
  | .error u => u ≤ 3000 ∧ ∃ (F : aw_S) (b : Nat) (f z : Int32) (X : Nat → Int32), frM S F ∧ b ≤ 3010 ∧ h = HP (QM F (nI b) (nI u) f z X))) 211 [some (.ref 33), some (.int (nI 1))] [] (HP (QM D (nI p) (-1) f z X)) 0 0 := by
  have hc2 := hc.2.1
  intro m
  induction m with
  | zero => intro p r s D f z X hk hp hI hs he; have := hI.2.2.2.1.2; exfalso; omega
  | succ m ih =>
    intro p r s D f z X hk hp hI hs he
    have hsk := sk_le (T := T) hp
    refine aw_iload_n (aw_d q_Mo_readBraces 104 rfl) rfl rfl ?_
    refine aw_ifN_eq (tgt := 263) (aw_d q_Mo_readBraces 105 rfl) (by decide) (by (have hc2 := hc.2.1; omega)) (fun c212 => by exfalso; (have hc2 := hc.2.1; omega)) (fun c212 => ?_)
    refine aw_aload_n (aw_d q_Mo_readBraces 106 rfl) rfl rfl rfl ?_
    refine cVr (aw_d q_Mo_readBraces 107 rfl) (sp_goesA) vL_Mo_327_Mo rfl rfl rfl rfl rfl rfl ⟨aw_le rfl, aw_le rfl⟩ ?_
    refine aw_ifN_eq (tgt := 263) (aw_d q_Mo_readBraces 108 rfl) (by decide) (by (have hc2 := hc.2.1; omega)) (fun c219 => by exfalso; (have hc2 := hc.2.1; omega)) (fun c219 => ?_)
    refine aw_aload_n (aw_d q_Mo_readBraces 109 rfl) rfl rfl rfl ?_
    refine cV (aw_d q_Mo_readBraces 110 rfl) (sp_mblanks (res := .ok (p, ())) (frM_TP hI.1 hc) (RR_ok rfl hp rfl)) vL_Mo_337_Mo rfl rfl rfl rfl rfl rfl ⟨aw_le rfl, aw_le rfl⟩ (fun r223 h223 hp223 => ?_)
    obtain ⟨rfl, b223, q223, ⟨hb223, hp_223, rfl⟩, rfl⟩ := hp223
    have hb223 : b223 = sk T n p := hb223
    subst hb223
    refine aw_aload_n (aw_d q_Mo_readBraces 111 rfl) rfl rfl rfl ?_
    refine cVr (aw_d q_Mo_readBraces 112 rfl) (sp_peek (frM_TP hI.1 hc) (b := (sk T n p)) (by have := hc.2.1; omega)) vL_Mo_331_Mo rfl rfl rfl rfl rfl rfl ⟨aw_le rfl, aw_le rfl⟩ ?_
    refine aw_bipush (v := nI 123) (aw_d q_Mo_readBraces 113 rfl) (by decide) ?_
    refine aw_icmpI_ne (tgt := 243) (aw_d q_Mo_readBraces 114 rfl) (by decide) (by (have hc2 := hc.2.1; omega)) (fun c232 => ?_) (fun c232 => ?_)
    · have c232n : ¬ (T (sk T n p)).toInt = 123 := c232
      refine aw_aload_n (aw_d q_Mo_readBraces 119 rfl) rfl rfl rfl ?_
      refine aw_bipush (v := nI 123) (aw_d q_Mo_readBraces 120 rfl) (by decide) ?_
      refine cV (aw_d q_Mo_readBraces 121 rfl) (sp_msign (res := .ok ((sk T n p), ())) (c := 123) (frM_TP hI.1 hc) (by decide) (RR_ok rfl hsk.2 rfl)) vL_Mo_343_Mo rfl rfl rfl rfl rfl rfl ⟨aw_le rfl, aw_le rfl⟩ (fun r246 h246 hp246 => ?_)
      obtain ⟨rfl, b246, q246, hr246, rfl⟩ := hp246
      rw [bp_ok, show ml T n [32, nI 123] (sk T n p) = .error (sk T n p) from (sgx (by decide) (by rw [sk_sk hc.2.2.2.1 hp]; exact c232n)).trans (by rw [sk_sk hc.2.2.2.1 hp])] at hr246
      obtain ⟨-, rfl, hb246⟩ := hr246
      refine aw_aload_n (aw_d q_Mo_readBraces 122 rfl) rfl rfl rfl ?_
      refine cV (aw_d q_Mo_readBraces 123 rfl) (sp_rowBI (show (sk T n p) ≤ 3000 by have := hc.2.1; omega) hb246) vL_Mo_398_Mo rfl rfl rfl rfl rfl rfl ⟨aw_le rfl, aw_le rfl⟩ (fun r250 h250 hp250 => ?_)
      obtain ⟨rfl, f250, z250, X250, rfl⟩ := hp250
      refine aw_aload_n (aw_d q_Mo_readBraces 124 rfl) rfl rfl rfl ?_
      refine aw_bipush (v := nI 93) (aw_d q_Mo_readBraces 125 rfl) (by decide) ?_
      refine cVr (aw_d q_Mo_readBraces 126 rfl) (sp_anI (show (sk T n p) ≤ 3000 by have := hc.2.1; omega) hb246) vL_Mo_388_Mo rfl rfl rfl rfl rfl rfl ⟨aw_le rfl, aw_le rfl⟩ ?_
      refine aw_istore_n (aw_d q_Mo_readBraces 127 rfl) rfl (aw_le rfl) rfl ?_
      refine aw_goto (tgt := 211) (aw_d q_Mo_readBraces 128 rfl) (by decide) ?_
      refine aw_iload_n (aw_d q_Mo_readBraces 104 rfl) rfl rfl ?_
      refine aw_ifN_eq (tgt := 263) (aw_d q_Mo_readBraces 105 rfl) (by decide) (by omega) (fun c212 => ?_) (fun c212 => by exfalso; omega)
      refine aw_aload_n (aw_d q_Mo_readBraces 129 rfl) rfl rfl rfl ?_
      refine aw_bipush (v := nI 93) (aw_d q_Mo_readBraces 130 rfl) (by decide) ?_
      refine cVv (aw_d q_Mo_readBraces 131 rfl) (sp_signI (show (sk T n p) ≤ 3000 by have := hc.2.1; omega)) vL_Mo_343_Mo rfl rfl rfl rfl rfl rfl ⟨aw_le rfl, aw_le rfl⟩ ?_
      refine aw_aload_n (aw_d q_Mo_readBraces 132 rfl) rfl rfl rfl ?_
      refine aw_bipush (v := nI 125) (aw_d q_Mo_readBraces 133 rfl) (by decide) ?_
      refine cVv (aw_d q_Mo_readBraces 134 rfl) (sp_signI (show (sk T n p) ≤ 3000 by have := hc.2.1; omega)) vL_Mo_343_Mo rfl rfl rfl rfl rfl rfl ⟨aw_le rfl, aw_le rfl⟩ ?_
      refine aw_aload_n (aw_d q_Mo_readBraces 135 rfl) rfl rfl rfl ?_
      refine aw_bipush (v := nI 125) (aw_d q_Mo_readBraces 136 rfl) (by decide) ?_
      refine cVv (aw_d q_Mo_readBraces 137 rfl) (sp_signI (show (sk T n p) ≤ 3000 by have := hc.2.1; omega)) vL_Mo_343_Mo rfl rfl rfl rfl rfl rfl ⟨aw_le rfl, aw_le rfl⟩ ?_
      refine aw_aload_n (aw_d q_Mo_readBraces 138 rfl) rfl rfl rfl ?_
      refine cVv (aw_d q_Mo_readBraces 139 rfl) (sp_blanksI (show (sk T n p) ≤ 3000 by have := hc.2.1; omega)) vL_Mo_337_Mo rfl rfl rfl rfl rfl rfl ⟨aw_le rfl, aw_le rfl⟩ ?_
      refine aw_aload_n (aw_d q_Mo_readBraces 140 rfl) rfl rfl rfl ?_
      refine cVv (aw_d q_Mo_readBraces 141 rfl) (sp_endI (show (sk T n p) ≤ 3000 by have := hc.2.1; omega)) vL_Mo_401_Mo rfl rfl rfl rfl rfl rfl ⟨aw_le rfl, aw_le rfl⟩ ?_
      exact aw_vret (aw_d q_Mo_readBraces 142 rfl) rfl (⟨rfl, by rw [show res = .error (sk T n p) from he.trans (by rw [js]; by_cases q24 : r < 24; (rw [if_pos q24, jw_n c232n]; rfl); (rw [if_neg q24]; rfl))]; exact ⟨(show (sk T n p) ≤ 3000 by have := hc.2.1; omega), _, _, _, _, _, hI.1, hb246, rfl⟩⟩)
    · have c232y : (T (sk T n p)).toInt = 123 := c232
      refine aw_aload_n (aw_d q_Mo_readBraces 115 rfl) rfl rfl rfl ?_
      refine aw_aload_n (aw_d q_Mo_readBraces 116 rfl) rfl rfl rfl ?_
      refine aw_getf (v := .int (nI ((sk T n p)))) (aw_d q_Mo_readBraces 117 rfl) fL_Mo_324_Mo rfl (gk rfl) ?_
      refine cV (aw_d q_Mo_readBraces 118 rfl) (sp_begA (R := r) hI hs (by rw [nI_toInt (by have := hc.2.1; omega)]; omega)) vL_Mo_395_Mo rfl rfl rfl rfl rfl rfl ⟨aw_le rfl, aw_le rfl⟩ (fun r240 h240 hp240 => ?_)
      obtain ⟨rfl, hp240⟩ := hp240
      rcases hp240 with ⟨hr240, F240, hI240, rfl⟩ | ⟨hr240, rfl⟩
      · skip -- room
        refine aw_aload_n (aw_d q_Mo_readBraces 119 rfl) rfl rfl rfl ?_
        refine aw_bipush (v := nI 123) (aw_d q_Mo_readBraces 120 rfl) (by decide) ?_
        refine cV (aw_d q_Mo_readBraces 121 rfl) (sp_msign (res := .ok ((sk T n p), ())) (c := 123) (frM_TP hI240.1 hc) (by decide) (RR_ok rfl hsk.2 rfl)) vL_Mo_343_Mo rfl rfl rfl rfl rfl rfl ⟨aw_le rfl, aw_le rfl⟩ (fun r246 h246 hp246 => ?_)
        obtain ⟨rfl, b246, q246, hr246, rfl⟩ := hp246
        rw [bp_ok, show ml T n [32, nI 123] (sk T n p) = .ok ((sk T n p) + 1) from sgy (by decide) c232y] at hr246
        obtain ⟨hb246, hpb, rfl⟩ := hr246
        have hb246 : b246 = (sk T n p) + 1 := hb246
        subst hb246
        refine aw_aload_n (aw_d q_Mo_readBraces 122 rfl) rfl rfl rfl ?_
        refine cV (aw_d q_Mo_readBraces 123 rfl) (sp_rowB hI240 hs hc hpb) vL_Mo_398_Mo rfl rfl rfl rfl rfl rfl ⟨aw_le rfl, aw_le rfl⟩ (fun r250 h250 hp250 => ?_)
        obtain ⟨rfl, hp250⟩ := hp250
        cases hx250 : rbV T n N r ((sk T n p) + 1) s with
        | error u250 =>
          rw [hx250] at hp250
          obtain ⟨hu250, F250, b250, f250, z250, X250, hF250, hb250, rfl⟩ := hp250
          refine aw_aload_n (aw_d q_Mo_readBraces 124 rfl) rfl rfl rfl ?_
          refine aw_bipush (v := nI 93) (aw_d q_Mo_readBraces 125 rfl) (by decide) ?_
          refine cVr (aw_d q_Mo_readBraces 126 rfl) (sp_anI hu250 hb250) vL_Mo_388_Mo rfl rfl rfl rfl rfl rfl ⟨aw_le rfl, aw_le rfl⟩ ?_
          refine aw_istore_n (aw_d q_Mo_readBraces 127 rfl) rfl (aw_le rfl) rfl ?_
          refine aw_goto (tgt := 211) (aw_d q_Mo_readBraces 128 rfl) (by decide) ?_
          refine aw_iload_n (aw_d q_Mo_readBraces 104 rfl) rfl rfl ?_
          refine aw_ifN_eq (tgt := 263) (aw_d q_Mo_readBraces 105 rfl) (by decide) (by omega) (fun c212 => ?_) (fun c212 => by exfalso; omega)
          refine aw_aload_n (aw_d q_Mo_readBraces 129 rfl) rfl rfl rfl ?_
          refine aw_bipush (v := nI 93) (aw_d q_Mo_readBraces 130 rfl) (by decide) ?_
          refine cVv (aw_d q_Mo_readBraces 131 rfl) (sp_signI hu250) vL_Mo_343_Mo rfl rfl rfl rfl rfl rfl ⟨aw_le rfl, aw_le rfl⟩ ?_
          refine aw_aload_n (aw_d q_Mo_readBraces 132 rfl) rfl rfl rfl ?_
          refine aw_bipush (v := nI 125) (aw_d q_Mo_readBraces 133 rfl) (by decide) ?_
          refine cVv (aw_d q_Mo_readBraces 134 rfl) (sp_signI hu250) vL_Mo_343_Mo rfl rfl rfl rfl rfl rfl ⟨aw_le rfl, aw_le rfl⟩ ?_
          refine aw_aload_n (aw_d q_Mo_readBraces 135 rfl) rfl rfl rfl ?_
          refine aw_bipush (v := nI 125) (aw_d q_Mo_readBraces 136 rfl) (by decide) ?_
          refine cVv (aw_d q_Mo_readBraces 137 rfl) (sp_signI hu250) vL_Mo_343_Mo rfl rfl rfl rfl rfl rfl ⟨aw_le rfl, aw_le rfl⟩ ?_
          refine aw_aload_n (aw_d q_Mo_readBraces 138 rfl) rfl rfl rfl ?_
          refine cVv (aw_d q_Mo_readBraces 139 rfl) (sp_blanksI hu250) vL_Mo_337_Mo rfl rfl rfl rfl rfl rfl ⟨aw_le rfl, aw_le rfl⟩ ?_
          refine aw_aload_n (aw_d q_Mo_readBraces 140 rfl) rfl rfl rfl ?_
          refine cVv (aw_d q_Mo_readBraces 141 rfl) (sp_endI hu250) vL_Mo_401_Mo rfl rfl rfl rfl rfl rfl ⟨aw_le rfl, aw_le rfl⟩ ?_
          exact aw_vret (aw_d q_Mo_readBraces 142 rfl) rfl (⟨rfl, by rw [show res = .error u250 from he.trans (by rw [js, if_pos hr240, jw_y c232y, hx250]; rfl)]; exact ⟨hu250, _, _, _, _, _, hF250, hb250, rfl⟩⟩)
        | ok y250 =>
          rw [hx250] at hp250
          obtain ⟨F250, f250, z250, X250, ⟨hI250, hs250⟩, hp_250, rfl⟩ := hp250
          have hs250 := itOK_mono hs250 (show r * 6 + 6 ≤ (r + 1) * 6 by omega)
          refine aw_aload_n (aw_d q_Mo_readBraces 124 rfl) rfl rfl rfl ?_
          refine aw_bipush (v := nI 93) (aw_d q_Mo_readBraces 125 rfl) (by decide) ?_
          refine cV (aw_d q_Mo_readBraces 126 rfl) (sp_anA (c := 93) (frM_TP hI250.1 hc) hp_250 (by decide)) vL_Mo_388_Mo rfl rfl rfl rfl rfl rfl ⟨aw_le rfl, aw_le rfl⟩ (fun r256 h256 hp256 => ?_)
          have hsk256 := sk_le (T := T) hp_250
          rcases hp256 with ⟨ha256, rfl, rfl⟩ | ⟨ha256, rfl, rfl⟩ | ⟨ha256, hd256, rfl, rfl⟩
          · skip -- comma
            have hpn256 : sk T n (y250.1) + 1 ≤ n := T_lt hc.2.2.2.1 (by omega)
            refine aw_istore_n (aw_d q_Mo_readBraces 127 rfl) rfl (aw_le rfl) rfl ?_
            refine aw_goto (tgt := 211) (aw_d q_Mo_readBraces 128 rfl) (by decide) ?_
            exact AW.to (ih (sk T n y250.1 + 1) (r + 1) y250.2 F250 _ _ _ (by omega) hpn256 hI250 hs250 (he.trans (by rw [js, if_pos hr240, jw_y c232y, hx250, bd_ok, if_pos ha256]))) rfl rfl rfl rfl
          · skip -- close
            have ha256 : (T (sk T n (y250.1))).toInt = 93 := ha256
            refine aw_istore_n (aw_d q_Mo_readBraces 127 rfl) rfl (aw_le rfl) rfl ?_
            refine aw_goto (tgt := 211) (aw_d q_Mo_readBraces 128 rfl) (by decide) ?_
            refine aw_iload_n (aw_d q_Mo_readBraces 104 rfl) rfl rfl ?_
            refine aw_ifN_eq (tgt := 263) (aw_d q_Mo_readBraces 105 rfl) (by decide) (by omega) (fun c212 => ?_) (fun c212 => by exfalso; omega)
            have hv : res = bd (mu T (tx 63) (sk T n (sk T n y250.1))) (fun p => bd (ml T n (tx 74) p) (fun p => bd (me n p) (fun p => .ok (p, N, r + 1, y250.2)))) := he.trans (by rw [sk_sk hc.2.2.2.1 hp_250]; rw [js, if_pos hr240, jw_y c232y, hx250, bd_ok, if_neg (by omega), bd_bd]; simp only [bd_bd, bd_ok])
            rw [hv]
            exact rb_tail hc (sk T n y250.1) (r + 1) y250.2 N F250 _ _ _ _ hsk256.2 hI250 hs250
          · skip -- no
            have hd256 : ¬ (T (sk T n (y250.1))).toInt = 93 := hd256
            refine aw_istore_n (aw_d q_Mo_readBraces 127 rfl) rfl (aw_le rfl) rfl ?_
            refine aw_goto (tgt := 211) (aw_d q_Mo_readBraces 128 rfl) (by decide) ?_
            refine aw_iload_n (aw_d q_Mo_readBraces 104 rfl) rfl rfl ?_
            refine aw_ifN_eq (tgt := 263) (aw_d q_Mo_readBraces 105 rfl) (by decide) (by omega) (fun c212 => ?_) (fun c212 => by exfalso; omega)
            refine aw_aload_n (aw_d q_Mo_readBraces 129 rfl) rfl rfl rfl ?_
            refine aw_bipush (v := nI 93) (aw_d q_Mo_readBraces 130 rfl) (by decide) ?_
            refine cVv (aw_d q_Mo_readBraces 131 rfl) (sp_signI (show sk T n y250.1 ≤ 3000 by have := hc.2.1; omega)) vL_Mo_343_Mo rfl rfl rfl rfl rfl rfl ⟨aw_le rfl, aw_le rfl⟩ ?_
            refine aw_aload_n (aw_d q_Mo_readBraces 132 rfl) rfl rfl rfl ?_
            refine aw_bipush (v := nI 125) (aw_d q_Mo_readBraces 133 rfl) (by decide) ?_
            refine cVv (aw_d q_Mo_readBraces 134 rfl) (sp_signI (show sk T n y250.1 ≤ 3000 by have := hc.2.1; omega)) vL_Mo_343_Mo rfl rfl rfl rfl rfl rfl ⟨aw_le rfl, aw_le rfl⟩ ?_
            refine aw_aload_n (aw_d q_Mo_readBraces 135 rfl) rfl rfl rfl ?_
            refine aw_bipush (v := nI 125) (aw_d q_Mo_readBraces 136 rfl) (by decide) ?_
            refine cVv (aw_d q_Mo_readBraces 137 rfl) (sp_signI (show sk T n y250.1 ≤ 3000 by have := hc.2.1; omega)) vL_Mo_343_Mo rfl rfl rfl rfl rfl rfl ⟨aw_le rfl, aw_le rfl⟩ ?_
            refine aw_aload_n (aw_d q_Mo_readBraces 138 rfl) rfl rfl rfl ?_
            refine cVv (aw_d q_Mo_readBraces 139 rfl) (sp_blanksI (show sk T n y250.1 ≤ 3000 by have := hc.2.1; omega)) vL_Mo_337_Mo rfl rfl rfl rfl rfl rfl ⟨aw_le rfl, aw_le rfl⟩ ?_
            refine aw_aload_n (aw_d q_Mo_readBraces 140 rfl) rfl rfl rfl ?_
            refine cVv (aw_d q_Mo_readBraces 141 rfl) (sp_endI (show sk T n y250.1 ≤ 3000 by have := hc.2.1; omega)) vL_Mo_401_Mo rfl rfl rfl rfl rfl rfl ⟨aw_le rfl, aw_le rfl⟩ ?_
            exact aw_vret (aw_d q_Mo_readBraces 142 rfl) rfl (⟨rfl, by rw [show res = .error (sk T n y250.1) from he.trans (by rw [js, if_pos hr240, jw_y c232y, hx250, bd_ok, if_neg ha256, mu63 hd256]; rfl)]; exact ⟨(show sk T n y250.1 ≤ 3000 by have := hc.2.1; omega), _, _, _, _, _, hI250.1, (show sk T n y250.1 ≤ 3010 by have := hc.2.1; omega), rfl⟩⟩)
      · skip -- full
        refine aw_aload_n (aw_d q_Mo_readBraces 119 rfl) rfl rfl rfl ?_
        refine aw_bipush (v := nI 123) (aw_d q_Mo_readBraces 120 rfl) (by decide) ?_
        refine cVv (aw_d q_Mo_readBraces 121 rfl) (sp_signI (show (sk T n p) ≤ 3000 by have := hc.2.1; omega)) vL_Mo_343_Mo rfl rfl rfl rfl rfl rfl ⟨aw_le rfl, aw_le rfl⟩ ?_
        refine aw_aload_n (aw_d q_Mo_readBraces 122 rfl) rfl rfl rfl ?_
        refine cV (aw_d q_Mo_readBraces 123 rfl) (sp_rowBI (show (sk T n p) ≤ 3000 by have := hc.2.1; omega) (show (sk T n p) ≤ 3010 by have := hc.2.1; omega)) vL_Mo_398_Mo rfl rfl rfl rfl rfl rfl ⟨aw_le rfl, aw_le rfl⟩ (fun r250 h250 hp250 => ?_)
        obtain ⟨rfl, f250, z250, X250, rfl⟩ := hp250
        refine aw_aload_n (aw_d q_Mo_readBraces 124 rfl) rfl rfl rfl ?_
        refine aw_bipush (v := nI 93) (aw_d q_Mo_readBraces 125 rfl) (by decide) ?_
        refine cVr (aw_d q_Mo_readBraces 126 rfl) (sp_anI (show (sk T n p) ≤ 3000 by have := hc.2.1; omega) (show (sk T n p) ≤ 3010 by have := hc.2.1; omega)) vL_Mo_388_Mo rfl rfl rfl rfl rfl rfl ⟨aw_le rfl, aw_le rfl⟩ ?_
        refine aw_istore_n (aw_d q_Mo_readBraces 127 rfl) rfl (aw_le rfl) rfl ?_
        refine aw_goto (tgt := 211) (aw_d q_Mo_readBraces 128 rfl) (by decide) ?_
        refine aw_iload_n (aw_d q_Mo_readBraces 104 rfl) rfl rfl ?_
        refine aw_ifN_eq (tgt := 263) (aw_d q_Mo_readBraces 105 rfl) (by decide) (by omega) (fun c212 => ?_) (fun c212 => by exfalso; omega)
        refine aw_aload_n (aw_d q_Mo_readBraces 129 rfl) rfl rfl rfl ?_
        refine aw_bipush (v := nI 93) (aw_d q_Mo_readBraces 130 rfl) (by decide) ?_
        refine cVv (aw_d q_Mo_readBraces 131 rfl) (sp_signI (show (sk T n p) ≤ 3000 by have := hc.2.1; omega)) vL_Mo_343_Mo rfl rfl rfl rfl rfl rfl ⟨aw_le rfl, aw_le rfl⟩ ?_
        refine aw_aload_n (aw_d q_Mo_readBraces 132 rfl) rfl rfl rfl ?_
        refine aw_bipush (v := nI 125) (aw_d q_Mo_readBraces 133 rfl) (by decide) ?_
        refine cVv (aw_d q_Mo_readBraces 134 rfl) (sp_signI (show (sk T n p) ≤ 3000 by have := hc.2.1; omega)) vL_Mo_343_Mo rfl rfl rfl rfl rfl rfl ⟨aw_le rfl, aw_le rfl⟩ ?_
        refine aw_aload_n (aw_d q_Mo_readBraces 135 rfl) rfl rfl rfl ?_
        refine aw_bipush (v := nI 125) (aw_d q_Mo_readBraces 136 rfl) (by decide) ?_
        refine cVv (aw_d q_Mo_readBraces 137 rfl) (sp_signI (show (sk T n p) ≤ 3000 by have := hc.2.1; omega)) vL_Mo_343_Mo rfl rfl rfl rfl rfl rfl ⟨aw_le rfl, aw_le rfl⟩ ?_
        refine aw_aload_n (aw_d q_Mo_readBraces 138 rfl) rfl rfl rfl ?_
        refine cVv (aw_d q_Mo_readBraces 139 rfl) (sp_blanksI (show (sk T n p) ≤ 3000 by have := hc.2.1; omega)) vL_Mo_337_Mo rfl rfl rfl rfl rfl rfl ⟨aw_le rfl, aw_le rfl⟩ ?_
        refine aw_aload_n (aw_d q_Mo_readBraces 140 rfl) rfl rfl rfl ?_
        refine cVv (aw_d q_Mo_readBraces 141 rfl) (sp_endI (show (sk T n p) ≤ 3000 by have := hc.2.1; omega)) vL_Mo_401_Mo rfl rfl rfl rfl rfl rfl ⟨aw_le rfl, aw_le rfl⟩ ?_
        exact aw_vret (aw_d q_Mo_readBraces 142 rfl) rfl (⟨rfl, by rw [show res = .error (sk T n p) from he.trans (by rw [js, if_neg (by omega)]; rfl)]; exact ⟨(show (sk T n p) ≤ 3000 by have := hc.2.1; omega), _, _, _, _, _, hI.1, (show (sk T n p) ≤ 3010 by have := hc.2.1; omega), rfl⟩⟩)
set_option maxRecDepth 20000 in
theorem rb_mid {g : aw_G} {S : aw_S} {n : Nat} {T : Nat → Int32} (hc : TPm S n T)  : ∀ (p : Nat) (N : nm_T) (D : aw_S) (f z : Int32) (X : Nat → Int32) (x1 : Option Value), p ≤ n → imC S N 0 [] D → AW g M_Mo_readBraces (aw_rm 6 137 0 0) (aw_F g 0 0 (fun x h => x = none ∧ match bd (mu T (tx 63) (sk T n p)) (fun p => bd (ml T n (tx 64) p) (fun p => bd (jr T n N p) (fun z => bd (ml T n (tx 74) z.1) (fun p => bd (me n p) (fun p => .ok (p, N, z.2)))))) with
  | .ok y => ∃ (F : aw_S) (f z : Int32) (X : Nat → Int32), (imC S y.2.1 y.2.2.1 y.2.2.2 F ∧ itOK y.2.2.2 (y.2.2.1 * 6)) ∧ y.1 ≤ n ∧ h = HP (QM F (nI y.1) (-1) f z X)
  | .error u => u ≤ 3000 ∧ ∃ (F : aw_S) (b : Nat) (f z : Int32) (X : Nat → Int32), frM S F ∧ b ≤ 3010 ∧ h = HP (QM F (nI b) (nI u) f z X))) 111 [some (.ref 33), x1] [] (HP (QM D (nI p) (-1) f z X)) 0 0 := by
  have hc2 := hc.2.1
  intro p N D f z X x1 hp hI
  refine aw_aload_n (aw_d q_Mo_readBraces 55 rfl) rfl rfl rfl ?_
  refine aw_bipush (v := nI 93) (aw_d q_Mo_readBraces 56 rfl) (by decide) ?_
  refine cV (aw_d q_Mo_readBraces 57 rfl) (sp_Lsign (res := .ok (p, ())) (A := []) (c := 93) (frM_TP hI.1 hc) (by decide) (RR_st (T := T) hp)) vL_Mo_343_Mo rfl rfl rfl rfl rfl rfl ⟨aw_le rfl, aw_le rfl⟩ (fun r114 h114 hp114 => ?_)
  obtain ⟨rfl, b114, q114, hr114, rfl⟩ := hp114
  refine aw_aload_n (aw_d q_Mo_readBraces 58 rfl) rfl rfl rfl ?_
  refine aw_bipush (v := nI 125) (aw_d q_Mo_readBraces 59 rfl) (by decide) ?_
  refine cV (aw_d q_Mo_readBraces 60 rfl) (sp_Lsign (res := .ok (p, ())) (A := ([] ++ [32, nI 93])) (c := 125) (frM_TP hI.1 hc) (by decide) hr114) vL_Mo_343_Mo rfl rfl rfl rfl rfl rfl ⟨aw_le rfl, aw_le rfl⟩ (fun r120 h120 hp120 => ?_)
  obtain ⟨rfl, b120, q120, hr120, rfl⟩ := hp120
  refine aw_aload_n (aw_d q_Mo_readBraces 61 rfl) rfl rfl rfl ?_
  refine aw_bipush (v := nI 44) (aw_d q_Mo_readBraces 62 rfl) (by decide) ?_
  refine cV (aw_d q_Mo_readBraces 63 rfl) (sp_Lsign (res := .ok (p, ())) (A := (([] ++ [32, nI 93]) ++ [32, nI 125])) (c := 44) (frM_TP hI.1 hc) (by decide) hr120) vL_Mo_343_Mo rfl rfl rfl rfl rfl rfl ⟨aw_le rfl, aw_le rfl⟩ (fun r126 h126 hp126 => ?_)
  obtain ⟨rfl, b126, q126, hr126, rfl⟩ := hp126
  refine aw_aload_n (aw_d q_Mo_readBraces 64 rfl) rfl rfl rfl ?_
  refine aw_ldc2 (aw_d q_Mo_readBraces 65 rfl) lL_Mo_391 ?_
  refine aw_bipush (v := nI 7) (aw_d q_Mo_readBraces 66 rfl) (by decide) ?_
  refine cV (aw_d q_Mo_readBraces 67 rfl) (sp_Lquoted (res := .ok (p, ())) (A := ((([] ++ [32, nI 93]) ++ [32, nI 125]) ++ [32, nI 44])) (x := 32199693910701171) (j := 7) (frM_TP hI.1 hc) (by decide) (by decide) hr126) vL_Mo_380_Mo rfl rfl rfl rfl rfl rfl ⟨aw_le rfl, aw_le rfl⟩ (fun r135 h135 hp135 => ?_)
  obtain ⟨rfl, b135, q135, hr135, rfl⟩ := hp135
  refine aw_aload_n (aw_d q_Mo_readBraces 68 rfl) rfl rfl rfl ?_
  refine aw_bipush (v := nI 58) (aw_d q_Mo_readBraces 69 rfl) (by decide) ?_
  refine cV (aw_d q_Mo_readBraces 70 rfl) (sp_Lsign (res := .ok (p, ())) (A := (((([] ++ [32, nI 93]) ++ [32, nI 125]) ++ [32, nI 44]) ++ ([32, 34] ++ eB 32199693910701171 7 ++ [34]))) (c := 58) (frM_TP hI.1 hc) (by decide) hr135) vL_Mo_343_Mo rfl rfl rfl rfl rfl rfl ⟨aw_le rfl, aw_le rfl⟩ (fun r141 h141 hp141 => ?_)
  obtain ⟨rfl, b141, q141, hr141, rfl⟩ := hp141
  refine aw_aload_n (aw_d q_Mo_readBraces 71 rfl) rfl rfl rfl ?_
  refine aw_bipush (v := nI 123) (aw_d q_Mo_readBraces 72 rfl) (by decide) ?_
  refine cV (aw_d q_Mo_readBraces 73 rfl) (sp_Lsign (res := .ok (p, ())) (A := ((((([] ++ [32, nI 93]) ++ [32, nI 125]) ++ [32, nI 44]) ++ ([32, 34] ++ eB 32199693910701171 7 ++ [34])) ++ [32, nI 58])) (c := 123) (frM_TP hI.1 hc) (by decide) hr141) vL_Mo_343_Mo rfl rfl rfl rfl rfl rfl ⟨aw_le rfl, aw_le rfl⟩ (fun r147 h147 hp147 => ?_)
  obtain ⟨rfl, b147, q147, hr147, rfl⟩ := hp147
  refine aw_aload_n (aw_d q_Mo_readBraces 74 rfl) rfl rfl rfl ?_
  refine aw_bipush (v := nI 34) (aw_d q_Mo_readBraces 75 rfl) (by decide) ?_
  refine cV (aw_d q_Mo_readBraces 76 rfl) (sp_Lsign (res := .ok (p, ())) (A := (((((([] ++ [32, nI 93]) ++ [32, nI 125]) ++ [32, nI 44]) ++ ([32, 34] ++ eB 32199693910701171 7 ++ [34])) ++ [32, nI 58]) ++ [32, nI 123])) (c := 34) (frM_TP hI.1 hc) (by decide) hr147) vL_Mo_343_Mo rfl rfl rfl rfl rfl rfl ⟨aw_le rfl, aw_le rfl⟩ (fun r153 h153 hp153 => ?_)
  obtain ⟨rfl, b153, q153, hr153, rfl⟩ := hp153
  refine aw_aload_n (aw_d q_Mo_readBraces 77 rfl) rfl rfl rfl ?_
  refine aw_ldc2 (aw_d q_Mo_readBraces 78 rfl) lL_Mo_393 ?_
  refine aw_bipush (v := nI 8) (aw_d q_Mo_readBraces 79 rfl) (by decide) ?_
  refine cV (aw_d q_Mo_readBraces 80 rfl) (sp_Lmust (res := .ok (p, ())) (A := ((((((([] ++ [32, nI 93]) ++ [32, nI 125]) ++ [32, nI 44]) ++ ([32, 34] ++ eB 32199693910701171 7 ++ [34])) ++ [32, nI 58]) ++ [32, nI 123]) ++ [32, nI 34])) (x := 7091320465816184691) (j := 8) (frM_TP hI.1 hc) (by decide) (by decide) hr153) vL_Mo_340_Mo rfl rfl rfl rfl rfl rfl ⟨aw_le rfl, aw_le rfl⟩ (fun r162 h162 hp162 => ?_)
  obtain ⟨rfl, b162, q162, hr162, rfl⟩ := hp162
  refine aw_aload_n (aw_d q_Mo_readBraces 81 rfl) rfl rfl rfl ?_
  refine aw_ldc2 (aw_d q_Mo_readBraces 82 rfl) lL_Mo_167 ?_
  refine aw_iconst (v := nI 1) (aw_d q_Mo_readBraces 83 rfl) (by decide) ?_
  refine cV (aw_d q_Mo_readBraces 84 rfl) (sp_Lmust (res := .ok (p, ())) (A := (((((((([] ++ [32, nI 93]) ++ [32, nI 125]) ++ [32, nI 44]) ++ ([32, 34] ++ eB 32199693910701171 7 ++ [34])) ++ [32, nI 58]) ++ [32, nI 123]) ++ [32, nI 34]) ++ eB 7091320465816184691 8)) (x := 34) (j := 1) (frM_TP hI.1 hc) (by decide) (by decide) hr162) vL_Mo_340_Mo rfl rfl rfl rfl rfl rfl ⟨aw_le rfl, aw_le rfl⟩ (fun r170 h170 hp170 => ?_)
  obtain ⟨rfl, b170, q170, hr170, rfl⟩ := hp170
  refine aw_aload_n (aw_d q_Mo_readBraces 85 rfl) rfl rfl rfl ?_
  refine aw_bipush (v := nI 58) (aw_d q_Mo_readBraces 86 rfl) (by decide) ?_
  refine cV (aw_d q_Mo_readBraces 87 rfl) (sp_Lsign (res := .ok (p, ())) (A := ((((((((([] ++ [32, nI 93]) ++ [32, nI 125]) ++ [32, nI 44]) ++ ([32, 34] ++ eB 32199693910701171 7 ++ [34])) ++ [32, nI 58]) ++ [32, nI 123]) ++ [32, nI 34]) ++ eB 7091320465816184691 8) ++ eB 34 1)) (c := 58) (frM_TP hI.1 hc) (by decide) hr170) vL_Mo_343_Mo rfl rfl rfl rfl rfl rfl ⟨aw_le rfl, aw_le rfl⟩ (fun r176 h176 hp176 => ?_)
  obtain ⟨rfl, b176, q176, hr176, rfl⟩ := hp176
  refine aw_aload_n (aw_d q_Mo_readBraces 88 rfl) rfl rfl rfl ?_
  refine aw_bipush (v := nI 91) (aw_d q_Mo_readBraces 89 rfl) (by decide) ?_
  refine cV (aw_d q_Mo_readBraces 90 rfl) (sp_Lsign (res := .ok (p, ())) (A := (((((((((([] ++ [32, nI 93]) ++ [32, nI 125]) ++ [32, nI 44]) ++ ([32, 34] ++ eB 32199693910701171 7 ++ [34])) ++ [32, nI 58]) ++ [32, nI 123]) ++ [32, nI 34]) ++ eB 7091320465816184691 8) ++ eB 34 1) ++ [32, nI 58])) (c := 91) (frM_TP hI.1 hc) (by decide) hr176) vL_Mo_343_Mo rfl rfl rfl rfl rfl rfl ⟨aw_le rfl, aw_le rfl⟩ (fun r182 h182 hp182 => ?_)
  obtain ⟨rfl, b182, q182, hr182, rfl⟩ := hp182
  refine aw_aload_n (aw_d q_Mo_readBraces 91 rfl) rfl rfl rfl ?_
  refine cV (aw_d q_Mo_readBraces 92 rfl) (sp_Lblanks (res := .ok (p, ())) (A := ((((((((((([] ++ [32, nI 93]) ++ [32, nI 125]) ++ [32, nI 44]) ++ ([32, 34] ++ eB 32199693910701171 7 ++ [34])) ++ [32, nI 58]) ++ [32, nI 123]) ++ [32, nI 34]) ++ eB 7091320465816184691 8) ++ eB 34 1) ++ [32, nI 58]) ++ [32, nI 91]))  (frM_TP hI.1 hc)  hr182) vL_Mo_337_Mo rfl rfl rfl rfl rfl rfl ⟨aw_le rfl, aw_le rfl⟩ (fun r186 h186 hp186 => ?_)
  obtain ⟨rfl, b186, q186, hr186, rfl⟩ := hp186
  rw [bp_ok, show ml T n (((((((((((([] ++ [32, nI 93]) ++ [32, nI 125]) ++ [32, nI 44]) ++ ([32, 34] ++ eB 32199693910701171 7 ++ [34])) ++ [32, nI 58]) ++ [32, nI 123]) ++ [32, nI 34]) ++ eB 7091320465816184691 8) ++ eB 34 1) ++ [32, nI 58]) ++ [32, nI 91]) ++ [32]) p = bd (mu T (tx 63) (sk T n p)) (ml T n (tx 64)) from (cl3 64 (by decide))] at hr186
  cases hx189s : bd (mu T (tx 63) (sk T n p)) (ml T n (tx 64)) with
  | error u189s =>
    rw [hx189s] at hr186
    obtain ⟨hu189s, rfl, hb189s⟩ := hr186
    refine aw_aload_n (aw_d q_Mo_readBraces 93 rfl) rfl rfl rfl ?_
    refine cVr (aw_d q_Mo_readBraces 94 rfl) (sp_goesI hu189s) vL_Mo_327_Mo rfl rfl rfl rfl rfl rfl ⟨aw_le rfl, aw_le rfl⟩ ?_
    refine aw_ifN_eq (tgt := 209) (aw_d q_Mo_readBraces 95 rfl) (by decide) (by (have hc2 := hc.2.1; omega)) (fun c193 => ?_) (fun c193 => by exfalso; (have hc2 := hc.2.1; omega))
    refine aw_iconst (v := nI 0) (aw_d q_Mo_readBraces 102 rfl) (by decide) ?_
    refine aw_istore_n (aw_d q_Mo_readBraces 103 rfl) rfl (aw_le rfl) rfl ?_
    refine aw_iload_n (aw_d q_Mo_readBraces 104 rfl) rfl rfl ?_
    refine aw_ifN_eq (tgt := 263) (aw_d q_Mo_readBraces 105 rfl) (by decide) (by omega) (fun c212 => ?_) (fun c212 => by exfalso; omega)
    refine aw_aload_n (aw_d q_Mo_readBraces 129 rfl) rfl rfl rfl ?_
    refine aw_bipush (v := nI 93) (aw_d q_Mo_readBraces 130 rfl) (by decide) ?_
    refine cVv (aw_d q_Mo_readBraces 131 rfl) (sp_signI hu189s) vL_Mo_343_Mo rfl rfl rfl rfl rfl rfl ⟨aw_le rfl, aw_le rfl⟩ ?_
    refine aw_aload_n (aw_d q_Mo_readBraces 132 rfl) rfl rfl rfl ?_
    refine aw_bipush (v := nI 125) (aw_d q_Mo_readBraces 133 rfl) (by decide) ?_
    refine cVv (aw_d q_Mo_readBraces 134 rfl) (sp_signI hu189s) vL_Mo_343_Mo rfl rfl rfl rfl rfl rfl ⟨aw_le rfl, aw_le rfl⟩ ?_
    refine aw_aload_n (aw_d q_Mo_readBraces 135 rfl) rfl rfl rfl ?_
    refine aw_bipush (v := nI 125) (aw_d q_Mo_readBraces 136 rfl) (by decide) ?_
    refine cVv (aw_d q_Mo_readBraces 137 rfl) (sp_signI hu189s) vL_Mo_343_Mo rfl rfl rfl rfl rfl rfl ⟨aw_le rfl, aw_le rfl⟩ ?_
    refine aw_aload_n (aw_d q_Mo_readBraces 138 rfl) rfl rfl rfl ?_
    refine cVv (aw_d q_Mo_readBraces 139 rfl) (sp_blanksI hu189s) vL_Mo_337_Mo rfl rfl rfl rfl rfl rfl ⟨aw_le rfl, aw_le rfl⟩ ?_
    refine aw_aload_n (aw_d q_Mo_readBraces 140 rfl) rfl rfl rfl ?_
    refine cVv (aw_d q_Mo_readBraces 141 rfl) (sp_endI hu189s) vL_Mo_401_Mo rfl rfl rfl rfl rfl rfl ⟨aw_le rfl, aw_le rfl⟩ ?_
    exact aw_vret (aw_d q_Mo_readBraces 142 rfl) rfl (⟨rfl, by rw [show bd (mu T (tx 63) (sk T n p)) (fun p => bd (ml T n (tx 64) p) (fun p => bd (jr T n N p) (fun z => bd (ml T n (tx 74) z.1) (fun p => bd (me n p) (fun p => .ok (p, N, z.2)))))) = .error u189s by rw [← bd_bd, hx189s, bd_er]]; exact ⟨hu189s, _, _, _, _, _, hI.1, hb189s, rfl⟩⟩)
  | ok p189s =>
    rw [hx189s] at hr186
    obtain ⟨hbb189s, hp_189s, rfl⟩ := hr186
    have hbb189s : b186 = p189s := hbb189s
    subst hbb189s
    refine aw_aload_n (aw_d q_Mo_readBraces 93 rfl) rfl rfl rfl ?_
    refine cVr (aw_d q_Mo_readBraces 94 rfl) (sp_goesA) vL_Mo_327_Mo rfl rfl rfl rfl rfl rfl ⟨aw_le rfl, aw_le rfl⟩ ?_
    refine aw_ifN_eq (tgt := 209) (aw_d q_Mo_readBraces 95 rfl) (by decide) (by (have hc2 := hc.2.1; omega)) (fun c193 => by exfalso; (have hc2 := hc.2.1; omega)) (fun c193 => ?_)
    refine aw_aload_n (aw_d q_Mo_readBraces 96 rfl) rfl rfl rfl ?_
    refine cVr (aw_d q_Mo_readBraces 97 rfl) (sp_peek (frM_TP hI.1 hc) (b := b186) (by have := hc.2.1; omega)) vL_Mo_331_Mo rfl rfl rfl rfl rfl rfl ⟨aw_le rfl, aw_le rfl⟩ ?_
    refine aw_bipush (v := nI 93) (aw_d q_Mo_readBraces 98 rfl) (by decide) ?_
    refine aw_icmpI_eq (tgt := 209) (aw_d q_Mo_readBraces 99 rfl) (by decide) (by (have hc2 := hc.2.1; omega)) (fun c202 => ?_) (fun c202 => ?_)
    · refine aw_iconst (v := nI 0) (aw_d q_Mo_readBraces 102 rfl) (by decide) ?_
      refine aw_istore_n (aw_d q_Mo_readBraces 103 rfl) rfl (aw_le rfl) rfl ?_
      rw [show bd (mu T (tx 63) (sk T n p)) (fun p => bd (ml T n (tx 64) p) (fun p => bd (jr T n N p) (fun z => bd (ml T n (tx 74) z.1) (fun p => bd (me n p) (fun p => .ok (p, N, z.2)))))) = bd (jr T n N b186) (fun z => bd (ml T n (tx 74) z.1) (fun p => bd (me n p) (fun p => .ok (p, N, z.2)))) by rw [← bd_bd, hx189s, bd_ok]]
      rw [jr, if_pos (by omega), bd_ok]
      refine aw_iload_n (aw_d q_Mo_readBraces 104 rfl) rfl rfl ?_
      refine aw_ifN_eq (tgt := 263) (aw_d q_Mo_readBraces 105 rfl) (by decide) (by omega) (fun c212 => ?_) (fun c212 => by exfalso; omega)
      rw [show bd (ml T n (tx 74) (b186 + 1)) (fun p => bd (me n p) (fun p => Except.ok (p, N, 0, []))) = bd (mu T (tx 63) (sk T n b186)) (fun p => bd (ml T n (tx 74) p) (fun p => bd (me n p) (fun p => .ok (p, N, 0, [])))) by rw [sk_no (bl1_no (by omega)), mu63y (by omega), bd_ok]]
      exact rb_tail hc b186 0 [] N D _ _ _ _ hp_189s hI itOK_nil
    · refine aw_iconst (v := nI 1) (aw_d q_Mo_readBraces 100 rfl) (by decide) ?_
      refine aw_goto (tgt := 210) (aw_d q_Mo_readBraces 101 rfl) (by decide) ?_
      refine aw_istore_n (aw_d q_Mo_readBraces 103 rfl) rfl (aw_le rfl) rfl ?_
      rw [show bd (mu T (tx 63) (sk T n p)) (fun p => bd (ml T n (tx 64) p) (fun p => bd (jr T n N p) (fun z => bd (ml T n (tx 74) z.1) (fun p => bd (me n p) (fun p => .ok (p, N, z.2)))))) = bd (jr T n N b186) (fun z => bd (ml T n (tx 74) z.1) (fun p => bd (me n p) (fun p => .ok (p, N, z.2)))) by rw [← bd_bd, hx189s, bd_ok]]
      rw [jr, if_neg (by omega)]
      exact AW.to (lp_rbR hc 25 b186 0 [] D _ _ _ (by omega) hp_189s hI itOK_nil rfl) rfl rfl rfl rfl
theorem nn_1 {T : Nat → Int32} {n p : Nat} {N : nm_T} {y : Nat × nm_T} (h : nn T n N p = .ok y) : y.2.1 = N.1 + 1 := by
  simp only [nn] at h
  by_cases hc : (1 ≤ we T n p - p ∧ we T n p - p ≤ 8) ∧ N.1 < 6 ∧ nmF N T p (we T n p - p) = none
  · rw [if_pos hc] at h; cases h; rfl
  · rw [if_neg hc] at h; cases h
set_option maxRecDepth 20000 in
theorem lp_rbN {g : aw_G} {S : aw_S} {n : Nat} {T : Nat → Int32} (hc : TPm S n T) {res : Except Nat (Nat × rd_T)} : ∀ (m p : Nat) (N : nm_T) (D : aw_S) (f z : Int32) (X : Nat → Int32), 7 ≤ m + N.1 → p ≤ n → imC S N 0 [] D → res = bd (jm T n m p N) (fun y => bd (ml T n (tx 64) y.1) (fun p => bd (jr T n y.2 p) (fun z => bd (ml T n (tx 74) z.1) (fun p => bd (me n p) (fun p => .ok (p, y.2, z.2)))))) → AW g M_Mo_readBraces (aw_rm 6 137 0 0) (aw_F g 0 0 (fun x h => x = none ∧ match res with
  | .ok y => ∃ (F : aw_S) (f z : Int32) (X : Nat → Int32), (imC S y.2.1 y.2.2.1 y.2.2.2 F ∧ itOK y.2.2.2 (y.2.2.1 * 6)) ∧ y.1 ≤ n ∧ h = HP (QM F (nI y.1) (-1) f z X)
  | .error u => u ≤ 3000 ∧ ∃ (F : aw_S) (b : Nat) (f z : Int32) (X : Nat → Int32), frM S F ∧ b ≤ 3010 ∧ h = HP (QM F (nI b) (nI u) f z X))) 72 [some (.ref 33), some (.int (nI 1))] [] (HP (QM D (nI p) (-1) f z X)) 0 0 := by
  have hc2 := hc.2.1
  intro m
  induction m with
  | zero => intro p N D f z X hk hp hI he; have := hI.2.1.2.1; exfalso; omega
  | succ m ih =>
    intro p N D f z X hk hp hI he
    refine aw_iload_n (aw_d q_Mo_readBraces 36 rfl) rfl rfl ?_
    refine aw_ifN_eq (tgt := 111) (aw_d q_Mo_readBraces 37 rfl) (by decide) (by (have hc2 := hc.2.1; omega)) (fun c73 => by exfalso; (have hc2 := hc.2.1; omega)) (fun c73 => ?_)
    refine aw_aload_n (aw_d q_Mo_readBraces 38 rfl) rfl rfl rfl ?_
    refine cVr (aw_d q_Mo_readBraces 39 rfl) (sp_goesA) vL_Mo_327_Mo rfl rfl rfl rfl rfl rfl ⟨aw_le rfl, aw_le rfl⟩ ?_
    refine aw_ifN_eq (tgt := 111) (aw_d q_Mo_readBraces 40 rfl) (by decide) (by (have hc2 := hc.2.1; omega)) (fun c80 => by exfalso; (have hc2 := hc.2.1; omega)) (fun c80 => ?_)
    refine aw_aload_n (aw_d q_Mo_readBraces 41 rfl) rfl rfl rfl ?_
    refine aw_bipush (v := nI 34) (aw_d q_Mo_readBraces 42 rfl) (by decide) ?_
    refine cV (aw_d q_Mo_readBraces 43 rfl) (sp_Lsign (res := .ok (p, ())) (A := []) (c := 34) (frM_TP hI.1 hc) (by decide) (RR_st (T := T) hp)) vL_Mo_343_Mo rfl rfl rfl rfl rfl rfl ⟨aw_le rfl, aw_le rfl⟩ (fun r86 h86 hp86 => ?_)
    obtain ⟨rfl, b86, q86, hr86, rfl⟩ := hp86
    rw [bp_ok, show ml T n ([] ++ [32, nI 34]) p = ml T n (tx 61) p from (congrArg (fun L => ml T n L _) (show _ = tx 61 by decide))] at hr86
    cases hx89s : ml T n (tx 61) p with
    | error u89s =>
      rw [hx89s] at hr86
      obtain ⟨hu89s, rfl, hb89s⟩ := hr86
      refine aw_aload_n (aw_d q_Mo_readBraces 44 rfl) rfl rfl rfl ?_
      refine cVv (aw_d q_Mo_readBraces 45 rfl) (sp_headI hu89s hb89s) vL_Mo_385_Mo rfl rfl rfl rfl rfl rfl ⟨aw_le rfl, aw_le rfl⟩ ?_
      refine aw_aload_n (aw_d q_Mo_readBraces 46 rfl) rfl rfl rfl ?_
      refine aw_ldc2 (aw_d q_Mo_readBraces 47 rfl) lL_Mo_167 ?_
      refine aw_iconst (v := nI 1) (aw_d q_Mo_readBraces 48 rfl) (by decide) ?_
      refine cVv (aw_d q_Mo_readBraces 49 rfl) (sp_mustI hu89s (by decide)) vL_Mo_340_Mo rfl rfl rfl rfl rfl rfl ⟨aw_le rfl, aw_le rfl⟩ ?_
      refine aw_aload_n (aw_d q_Mo_readBraces 50 rfl) rfl rfl rfl ?_
      refine aw_bipush (v := nI 93) (aw_d q_Mo_readBraces 51 rfl) (by decide) ?_
      refine cVr (aw_d q_Mo_readBraces 52 rfl) (sp_anI hu89s hb89s) vL_Mo_388_Mo rfl rfl rfl rfl rfl rfl ⟨aw_le rfl, aw_le rfl⟩ ?_
      refine aw_istore_n (aw_d q_Mo_readBraces 53 rfl) rfl (aw_le rfl) rfl ?_
      refine aw_goto (tgt := 72) (aw_d q_Mo_readBraces 54 rfl) (by decide) ?_
      refine aw_iload_n (aw_d q_Mo_readBraces 36 rfl) rfl rfl ?_
      refine aw_ifN_eq (tgt := 111) (aw_d q_Mo_readBraces 37 rfl) (by decide) (by omega) (fun c73 => ?_) (fun c73 => by exfalso; omega)
      refine aw_aload_n (aw_d q_Mo_readBraces 55 rfl) rfl rfl rfl ?_
      refine aw_bipush (v := nI 93) (aw_d q_Mo_readBraces 56 rfl) (by decide) ?_
      refine cVv (aw_d q_Mo_readBraces 57 rfl) (sp_signI hu89s) vL_Mo_343_Mo rfl rfl rfl rfl rfl rfl ⟨aw_le rfl, aw_le rfl⟩ ?_
      refine aw_aload_n (aw_d q_Mo_readBraces 58 rfl) rfl rfl rfl ?_
      refine aw_bipush (v := nI 125) (aw_d q_Mo_readBraces 59 rfl) (by decide) ?_
      refine cVv (aw_d q_Mo_readBraces 60 rfl) (sp_signI hu89s) vL_Mo_343_Mo rfl rfl rfl rfl rfl rfl ⟨aw_le rfl, aw_le rfl⟩ ?_
      refine aw_aload_n (aw_d q_Mo_readBraces 61 rfl) rfl rfl rfl ?_
      refine aw_bipush (v := nI 44) (aw_d q_Mo_readBraces 62 rfl) (by decide) ?_
      refine cVv (aw_d q_Mo_readBraces 63 rfl) (sp_signI hu89s) vL_Mo_343_Mo rfl rfl rfl rfl rfl rfl ⟨aw_le rfl, aw_le rfl⟩ ?_
      refine aw_aload_n (aw_d q_Mo_readBraces 64 rfl) rfl rfl rfl ?_
      refine aw_ldc2 (aw_d q_Mo_readBraces 65 rfl) lL_Mo_391 ?_
      refine aw_bipush (v := nI 7) (aw_d q_Mo_readBraces 66 rfl) (by decide) ?_
      refine cVv (aw_d q_Mo_readBraces 67 rfl) (sp_quotedI hu89s (by decide)) vL_Mo_380_Mo rfl rfl rfl rfl rfl rfl ⟨aw_le rfl, aw_le rfl⟩ ?_
      refine aw_aload_n (aw_d q_Mo_readBraces 68 rfl) rfl rfl rfl ?_
      refine aw_bipush (v := nI 58) (aw_d q_Mo_readBraces 69 rfl) (by decide) ?_
      refine cVv (aw_d q_Mo_readBraces 70 rfl) (sp_signI hu89s) vL_Mo_343_Mo rfl rfl rfl rfl rfl rfl ⟨aw_le rfl, aw_le rfl⟩ ?_
      refine aw_aload_n (aw_d q_Mo_readBraces 71 rfl) rfl rfl rfl ?_
      refine aw_bipush (v := nI 123) (aw_d q_Mo_readBraces 72 rfl) (by decide) ?_
      refine cVv (aw_d q_Mo_readBraces 73 rfl) (sp_signI hu89s) vL_Mo_343_Mo rfl rfl rfl rfl rfl rfl ⟨aw_le rfl, aw_le rfl⟩ ?_
      refine aw_aload_n (aw_d q_Mo_readBraces 74 rfl) rfl rfl rfl ?_
      refine aw_bipush (v := nI 34) (aw_d q_Mo_readBraces 75 rfl) (by decide) ?_
      refine cVv (aw_d q_Mo_readBraces 76 rfl) (sp_signI hu89s) vL_Mo_343_Mo rfl rfl rfl rfl rfl rfl ⟨aw_le rfl, aw_le rfl⟩ ?_
      refine aw_aload_n (aw_d q_Mo_readBraces 77 rfl) rfl rfl rfl ?_
      refine aw_ldc2 (aw_d q_Mo_readBraces 78 rfl) lL_Mo_393 ?_
      refine aw_bipush (v := nI 8) (aw_d q_Mo_readBraces 79 rfl) (by decide) ?_
      refine cVv (aw_d q_Mo_readBraces 80 rfl) (sp_mustI hu89s (by decide)) vL_Mo_340_Mo rfl rfl rfl rfl rfl rfl ⟨aw_le rfl, aw_le rfl⟩ ?_
      refine aw_aload_n (aw_d q_Mo_readBraces 81 rfl) rfl rfl rfl ?_
      refine aw_ldc2 (aw_d q_Mo_readBraces 82 rfl) lL_Mo_167 ?_
      refine aw_iconst (v := nI 1) (aw_d q_Mo_readBraces 83 rfl) (by decide) ?_
      refine cVv (aw_d q_Mo_readBraces 84 rfl) (sp_mustI hu89s (by decide)) vL_Mo_340_Mo rfl rfl rfl rfl rfl rfl ⟨aw_le rfl, aw_le rfl⟩ ?_
      refine aw_aload_n (aw_d q_Mo_readBraces 85 rfl) rfl rfl rfl ?_
      refine aw_bipush (v := nI 58) (aw_d q_Mo_readBraces 86 rfl) (by decide) ?_
      refine cVv (aw_d q_Mo_readBraces 87 rfl) (sp_signI hu89s) vL_Mo_343_Mo rfl rfl rfl rfl rfl rfl ⟨aw_le rfl, aw_le rfl⟩ ?_
      refine aw_aload_n (aw_d q_Mo_readBraces 88 rfl) rfl rfl rfl ?_
      refine aw_bipush (v := nI 91) (aw_d q_Mo_readBraces 89 rfl) (by decide) ?_
      refine cVv (aw_d q_Mo_readBraces 90 rfl) (sp_signI hu89s) vL_Mo_343_Mo rfl rfl rfl rfl rfl rfl ⟨aw_le rfl, aw_le rfl⟩ ?_
      refine aw_aload_n (aw_d q_Mo_readBraces 91 rfl) rfl rfl rfl ?_
      refine cVv (aw_d q_Mo_readBraces 92 rfl) (sp_blanksI hu89s) vL_Mo_337_Mo rfl rfl rfl rfl rfl rfl ⟨aw_le rfl, aw_le rfl⟩ ?_
      refine aw_aload_n (aw_d q_Mo_readBraces 93 rfl) rfl rfl rfl ?_
      refine cVr (aw_d q_Mo_readBraces 94 rfl) (sp_goesI hu89s) vL_Mo_327_Mo rfl rfl rfl rfl rfl rfl ⟨aw_le rfl, aw_le rfl⟩ ?_
      refine aw_ifN_eq (tgt := 209) (aw_d q_Mo_readBraces 95 rfl) (by decide) (by omega) (fun c193 => ?_) (fun c193 => by exfalso; omega)
      refine aw_iconst (v := nI 0) (aw_d q_Mo_readBraces 102 rfl) (by decide) ?_
      refine aw_istore_n (aw_d q_Mo_readBraces 103 rfl) rfl (aw_le rfl) rfl ?_
      refine aw_iload_n (aw_d q_Mo_readBraces 104 rfl) rfl rfl ?_
      refine aw_ifN_eq (tgt := 263) (aw_d q_Mo_readBraces 105 rfl) (by decide) (by omega) (fun c212 => ?_) (fun c212 => by exfalso; omega)
      refine aw_aload_n (aw_d q_Mo_readBraces 129 rfl) rfl rfl rfl ?_
      refine aw_bipush (v := nI 93) (aw_d q_Mo_readBraces 130 rfl) (by decide) ?_
      refine cVv (aw_d q_Mo_readBraces 131 rfl) (sp_signI hu89s) vL_Mo_343_Mo rfl rfl rfl rfl rfl rfl ⟨aw_le rfl, aw_le rfl⟩ ?_
      refine aw_aload_n (aw_d q_Mo_readBraces 132 rfl) rfl rfl rfl ?_
      refine aw_bipush (v := nI 125) (aw_d q_Mo_readBraces 133 rfl) (by decide) ?_
      refine cVv (aw_d q_Mo_readBraces 134 rfl) (sp_signI hu89s) vL_Mo_343_Mo rfl rfl rfl rfl rfl rfl ⟨aw_le rfl, aw_le rfl⟩ ?_
      refine aw_aload_n (aw_d q_Mo_readBraces 135 rfl) rfl rfl rfl ?_
      refine aw_bipush (v := nI 125) (aw_d q_Mo_readBraces 136 rfl) (by decide) ?_
      refine cVv (aw_d q_Mo_readBraces 137 rfl) (sp_signI hu89s) vL_Mo_343_Mo rfl rfl rfl rfl rfl rfl ⟨aw_le rfl, aw_le rfl⟩ ?_
      refine aw_aload_n (aw_d q_Mo_readBraces 138 rfl) rfl rfl rfl ?_
      refine cVv (aw_d q_Mo_readBraces 139 rfl) (sp_blanksI hu89s) vL_Mo_337_Mo rfl rfl rfl rfl rfl rfl ⟨aw_le rfl, aw_le rfl⟩ ?_
      refine aw_aload_n (aw_d q_Mo_readBraces 140 rfl) rfl rfl rfl ?_
      refine cVv (aw_d q_Mo_readBraces 141 rfl) (sp_endI hu89s) vL_Mo_401_Mo rfl rfl rfl rfl rfl rfl ⟨aw_le rfl, aw_le rfl⟩ ?_
      exact aw_vret (aw_d q_Mo_readBraces 142 rfl) rfl (⟨rfl, by rw [show res = .error u89s from he.trans (by simp only [jm, ml62, bd_bd, bd_ok, bd_er, if_true, if_false, eq_self, ↓reduceIte, hx89s])]; exact ⟨hu89s, _, _, _, _, _, hI.1, hb89s, rfl⟩⟩)
    | ok p89s =>
      rw [hx89s] at hr86
      obtain ⟨hbb89s, hp_89s, rfl⟩ := hr86
      have hbb89s : b86 = p89s := hbb89s
      subst hbb89s
      refine aw_aload_n (aw_d q_Mo_readBraces 44 rfl) rfl rfl rfl ?_
      refine cV (aw_d q_Mo_readBraces 45 rfl) (sp_headA hI hc hp_89s) vL_Mo_385_Mo rfl rfl rfl rfl rfl rfl ⟨aw_le rfl, aw_le rfl⟩ (fun r90 h90 hp90 => ?_)
      obtain ⟨rfl, hp90⟩ := hp90
      cases hx90 : nn T n N b86 with
      | error u90 =>
        rw [hx90] at hp90
        obtain ⟨hue90, b90, hb90, rfl⟩ := hp90
        subst hue90
        refine aw_aload_n (aw_d q_Mo_readBraces 46 rfl) rfl rfl rfl ?_
        refine aw_ldc2 (aw_d q_Mo_readBraces 47 rfl) lL_Mo_167 ?_
        refine aw_iconst (v := nI 1) (aw_d q_Mo_readBraces 48 rfl) (by decide) ?_
        refine cVv (aw_d q_Mo_readBraces 49 rfl) (sp_mustI (show u90 ≤ 3000 by have := hc.2.1; have := hp_89s; omega) (by decide)) vL_Mo_340_Mo rfl rfl rfl rfl rfl rfl ⟨aw_le rfl, aw_le rfl⟩ ?_
        refine aw_aload_n (aw_d q_Mo_readBraces 50 rfl) rfl rfl rfl ?_
        refine aw_bipush (v := nI 93) (aw_d q_Mo_readBraces 51 rfl) (by decide) ?_
        refine cVr (aw_d q_Mo_readBraces 52 rfl) (sp_anI (show u90 ≤ 3000 by have := hc.2.1; have := hp_89s; omega) (show b90 ≤ 3010 by have := hc.2.1; omega)) vL_Mo_388_Mo rfl rfl rfl rfl rfl rfl ⟨aw_le rfl, aw_le rfl⟩ ?_
        refine aw_istore_n (aw_d q_Mo_readBraces 53 rfl) rfl (aw_le rfl) rfl ?_
        refine aw_goto (tgt := 72) (aw_d q_Mo_readBraces 54 rfl) (by decide) ?_
        refine aw_iload_n (aw_d q_Mo_readBraces 36 rfl) rfl rfl ?_
        refine aw_ifN_eq (tgt := 111) (aw_d q_Mo_readBraces 37 rfl) (by decide) (by omega) (fun c73 => ?_) (fun c73 => by exfalso; omega)
        refine aw_aload_n (aw_d q_Mo_readBraces 55 rfl) rfl rfl rfl ?_
        refine aw_bipush (v := nI 93) (aw_d q_Mo_readBraces 56 rfl) (by decide) ?_
        refine cVv (aw_d q_Mo_readBraces 57 rfl) (sp_signI (show u90 ≤ 3000 by have := hc.2.1; have := hp_89s; omega)) vL_Mo_343_Mo rfl rfl rfl rfl rfl rfl ⟨aw_le rfl, aw_le rfl⟩ ?_
        refine aw_aload_n (aw_d q_Mo_readBraces 58 rfl) rfl rfl rfl ?_
        refine aw_bipush (v := nI 125) (aw_d q_Mo_readBraces 59 rfl) (by decide) ?_
        refine cVv (aw_d q_Mo_readBraces 60 rfl) (sp_signI (show u90 ≤ 3000 by have := hc.2.1; have := hp_89s; omega)) vL_Mo_343_Mo rfl rfl rfl rfl rfl rfl ⟨aw_le rfl, aw_le rfl⟩ ?_
        refine aw_aload_n (aw_d q_Mo_readBraces 61 rfl) rfl rfl rfl ?_
        refine aw_bipush (v := nI 44) (aw_d q_Mo_readBraces 62 rfl) (by decide) ?_
        refine cVv (aw_d q_Mo_readBraces 63 rfl) (sp_signI (show u90 ≤ 3000 by have := hc.2.1; have := hp_89s; omega)) vL_Mo_343_Mo rfl rfl rfl rfl rfl rfl ⟨aw_le rfl, aw_le rfl⟩ ?_
        refine aw_aload_n (aw_d q_Mo_readBraces 64 rfl) rfl rfl rfl ?_
        refine aw_ldc2 (aw_d q_Mo_readBraces 65 rfl) lL_Mo_391 ?_
        refine aw_bipush (v := nI 7) (aw_d q_Mo_readBraces 66 rfl) (by decide) ?_
        refine cVv (aw_d q_Mo_readBraces 67 rfl) (sp_quotedI (show u90 ≤ 3000 by have := hc.2.1; have := hp_89s; omega) (by decide)) vL_Mo_380_Mo rfl rfl rfl rfl rfl rfl ⟨aw_le rfl, aw_le rfl⟩ ?_
        refine aw_aload_n (aw_d q_Mo_readBraces 68 rfl) rfl rfl rfl ?_
        refine aw_bipush (v := nI 58) (aw_d q_Mo_readBraces 69 rfl) (by decide) ?_
        refine cVv (aw_d q_Mo_readBraces 70 rfl) (sp_signI (show u90 ≤ 3000 by have := hc.2.1; have := hp_89s; omega)) vL_Mo_343_Mo rfl rfl rfl rfl rfl rfl ⟨aw_le rfl, aw_le rfl⟩ ?_
        refine aw_aload_n (aw_d q_Mo_readBraces 71 rfl) rfl rfl rfl ?_
        refine aw_bipush (v := nI 123) (aw_d q_Mo_readBraces 72 rfl) (by decide) ?_
        refine cVv (aw_d q_Mo_readBraces 73 rfl) (sp_signI (show u90 ≤ 3000 by have := hc.2.1; have := hp_89s; omega)) vL_Mo_343_Mo rfl rfl rfl rfl rfl rfl ⟨aw_le rfl, aw_le rfl⟩ ?_
        refine aw_aload_n (aw_d q_Mo_readBraces 74 rfl) rfl rfl rfl ?_
        refine aw_bipush (v := nI 34) (aw_d q_Mo_readBraces 75 rfl) (by decide) ?_
        refine cVv (aw_d q_Mo_readBraces 76 rfl) (sp_signI (show u90 ≤ 3000 by have := hc.2.1; have := hp_89s; omega)) vL_Mo_343_Mo rfl rfl rfl rfl rfl rfl ⟨aw_le rfl, aw_le rfl⟩ ?_
        refine aw_aload_n (aw_d q_Mo_readBraces 77 rfl) rfl rfl rfl ?_
        refine aw_ldc2 (aw_d q_Mo_readBraces 78 rfl) lL_Mo_393 ?_
        refine aw_bipush (v := nI 8) (aw_d q_Mo_readBraces 79 rfl) (by decide) ?_
        refine cVv (aw_d q_Mo_readBraces 80 rfl) (sp_mustI (show u90 ≤ 3000 by have := hc.2.1; have := hp_89s; omega) (by decide)) vL_Mo_340_Mo rfl rfl rfl rfl rfl rfl ⟨aw_le rfl, aw_le rfl⟩ ?_
        refine aw_aload_n (aw_d q_Mo_readBraces 81 rfl) rfl rfl rfl ?_
        refine aw_ldc2 (aw_d q_Mo_readBraces 82 rfl) lL_Mo_167 ?_
        refine aw_iconst (v := nI 1) (aw_d q_Mo_readBraces 83 rfl) (by decide) ?_
        refine cVv (aw_d q_Mo_readBraces 84 rfl) (sp_mustI (show u90 ≤ 3000 by have := hc.2.1; have := hp_89s; omega) (by decide)) vL_Mo_340_Mo rfl rfl rfl rfl rfl rfl ⟨aw_le rfl, aw_le rfl⟩ ?_
        refine aw_aload_n (aw_d q_Mo_readBraces 85 rfl) rfl rfl rfl ?_
        refine aw_bipush (v := nI 58) (aw_d q_Mo_readBraces 86 rfl) (by decide) ?_
        refine cVv (aw_d q_Mo_readBraces 87 rfl) (sp_signI (show u90 ≤ 3000 by have := hc.2.1; have := hp_89s; omega)) vL_Mo_343_Mo rfl rfl rfl rfl rfl rfl ⟨aw_le rfl, aw_le rfl⟩ ?_
        refine aw_aload_n (aw_d q_Mo_readBraces 88 rfl) rfl rfl rfl ?_
        refine aw_bipush (v := nI 91) (aw_d q_Mo_readBraces 89 rfl) (by decide) ?_
        refine cVv (aw_d q_Mo_readBraces 90 rfl) (sp_signI (show u90 ≤ 3000 by have := hc.2.1; have := hp_89s; omega)) vL_Mo_343_Mo rfl rfl rfl rfl rfl rfl ⟨aw_le rfl, aw_le rfl⟩ ?_
        refine aw_aload_n (aw_d q_Mo_readBraces 91 rfl) rfl rfl rfl ?_
        refine cVv (aw_d q_Mo_readBraces 92 rfl) (sp_blanksI (show u90 ≤ 3000 by have := hc.2.1; have := hp_89s; omega)) vL_Mo_337_Mo rfl rfl rfl rfl rfl rfl ⟨aw_le rfl, aw_le rfl⟩ ?_
        refine aw_aload_n (aw_d q_Mo_readBraces 93 rfl) rfl rfl rfl ?_
        refine cVr (aw_d q_Mo_readBraces 94 rfl) (sp_goesI (show u90 ≤ 3000 by have := hc.2.1; have := hp_89s; omega)) vL_Mo_327_Mo rfl rfl rfl rfl rfl rfl ⟨aw_le rfl, aw_le rfl⟩ ?_
        refine aw_ifN_eq (tgt := 209) (aw_d q_Mo_readBraces 95 rfl) (by decide) (by omega) (fun c193 => ?_) (fun c193 => by exfalso; omega)
        refine aw_iconst (v := nI 0) (aw_d q_Mo_readBraces 102 rfl) (by decide) ?_
        refine aw_istore_n (aw_d q_Mo_readBraces 103 rfl) rfl (aw_le rfl) rfl ?_
        refine aw_iload_n (aw_d q_Mo_readBraces 104 rfl) rfl rfl ?_
        refine aw_ifN_eq (tgt := 263) (aw_d q_Mo_readBraces 105 rfl) (by decide) (by omega) (fun c212 => ?_) (fun c212 => by exfalso; omega)
        refine aw_aload_n (aw_d q_Mo_readBraces 129 rfl) rfl rfl rfl ?_
        refine aw_bipush (v := nI 93) (aw_d q_Mo_readBraces 130 rfl) (by decide) ?_
        refine cVv (aw_d q_Mo_readBraces 131 rfl) (sp_signI (show u90 ≤ 3000 by have := hc.2.1; have := hp_89s; omega)) vL_Mo_343_Mo rfl rfl rfl rfl rfl rfl ⟨aw_le rfl, aw_le rfl⟩ ?_
        refine aw_aload_n (aw_d q_Mo_readBraces 132 rfl) rfl rfl rfl ?_
        refine aw_bipush (v := nI 125) (aw_d q_Mo_readBraces 133 rfl) (by decide) ?_
        refine cVv (aw_d q_Mo_readBraces 134 rfl) (sp_signI (show u90 ≤ 3000 by have := hc.2.1; have := hp_89s; omega)) vL_Mo_343_Mo rfl rfl rfl rfl rfl rfl ⟨aw_le rfl, aw_le rfl⟩ ?_
        refine aw_aload_n (aw_d q_Mo_readBraces 135 rfl) rfl rfl rfl ?_
        refine aw_bipush (v := nI 125) (aw_d q_Mo_readBraces 136 rfl) (by decide) ?_
        refine cVv (aw_d q_Mo_readBraces 137 rfl) (sp_signI (show u90 ≤ 3000 by have := hc.2.1; have := hp_89s; omega)) vL_Mo_343_Mo rfl rfl rfl rfl rfl rfl ⟨aw_le rfl, aw_le rfl⟩ ?_
        refine aw_aload_n (aw_d q_Mo_readBraces 138 rfl) rfl rfl rfl ?_
        refine cVv (aw_d q_Mo_readBraces 139 rfl) (sp_blanksI (show u90 ≤ 3000 by have := hc.2.1; have := hp_89s; omega)) vL_Mo_337_Mo rfl rfl rfl rfl rfl rfl ⟨aw_le rfl, aw_le rfl⟩ ?_
        refine aw_aload_n (aw_d q_Mo_readBraces 140 rfl) rfl rfl rfl ?_
        refine cVv (aw_d q_Mo_readBraces 141 rfl) (sp_endI (show u90 ≤ 3000 by have := hc.2.1; have := hp_89s; omega)) vL_Mo_401_Mo rfl rfl rfl rfl rfl rfl ⟨aw_le rfl, aw_le rfl⟩ ?_
        exact aw_vret (aw_d q_Mo_readBraces 142 rfl) rfl (⟨rfl, by rw [show res = .error u90 from he.trans (by simp only [jm, ml62, bd_bd, bd_ok, bd_er, if_true, if_false, eq_self, ↓reduceIte, hx89s, hx90])]; exact ⟨(show u90 ≤ 3000 by have := hc.2.1; have := hp_89s; omega), _, _, _, _, _, hI.1, (show b90 ≤ 3010 by have := hc.2.1; omega), rfl⟩⟩)
      | ok y90 =>
        rw [hx90] at hp90
        obtain ⟨hp_90, F90, hI90, rfl⟩ := hp90
        refine aw_aload_n (aw_d q_Mo_readBraces 46 rfl) rfl rfl rfl ?_
        refine aw_ldc2 (aw_d q_Mo_readBraces 47 rfl) lL_Mo_167 ?_
        refine aw_iconst (v := nI 1) (aw_d q_Mo_readBraces 48 rfl) (by decide) ?_
        refine cV (aw_d q_Mo_readBraces 49 rfl) (sp_Lmust (res := .ok (y90.1, ())) (A := []) (x := 34) (j := 1) (frM_TP hI90.1 hc) (by decide) (by decide) (RR_st (T := T) hp_90)) vL_Mo_340_Mo rfl rfl rfl rfl rfl rfl ⟨aw_le rfl, aw_le rfl⟩ (fun r98 h98 hp98 => ?_)
        obtain ⟨rfl, b98, q98, hr98, rfl⟩ := hp98
        rw [bp_ok, show ml T n ([] ++ eB 34 1) y90.1 = ml T n [34] y90.1 from (congrArg (fun L => ml T n L _) (show _ = [34] by decide))] at hr98
        cases hx101s : ml T n [34] y90.1 with
        | error u101s =>
          rw [hx101s] at hr98
          obtain ⟨hu101s, rfl, hb101s⟩ := hr98
          refine aw_aload_n (aw_d q_Mo_readBraces 50 rfl) rfl rfl rfl ?_
          refine aw_bipush (v := nI 93) (aw_d q_Mo_readBraces 51 rfl) (by decide) ?_
          refine cVr (aw_d q_Mo_readBraces 52 rfl) (sp_anI hu101s hb101s) vL_Mo_388_Mo rfl rfl rfl rfl rfl rfl ⟨aw_le rfl, aw_le rfl⟩ ?_
          refine aw_istore_n (aw_d q_Mo_readBraces 53 rfl) rfl (aw_le rfl) rfl ?_
          refine aw_goto (tgt := 72) (aw_d q_Mo_readBraces 54 rfl) (by decide) ?_
          refine aw_iload_n (aw_d q_Mo_readBraces 36 rfl) rfl rfl ?_
          refine aw_ifN_eq (tgt := 111) (aw_d q_Mo_readBraces 37 rfl) (by decide) (by omega) (fun c73 => ?_) (fun c73 => by exfalso; omega)
          refine aw_aload_n (aw_d q_Mo_readBraces 55 rfl) rfl rfl rfl ?_
          refine aw_bipush (v := nI 93) (aw_d q_Mo_readBraces 56 rfl) (by decide) ?_
          refine cVv (aw_d q_Mo_readBraces 57 rfl) (sp_signI hu101s) vL_Mo_343_Mo rfl rfl rfl rfl rfl rfl ⟨aw_le rfl, aw_le rfl⟩ ?_
          refine aw_aload_n (aw_d q_Mo_readBraces 58 rfl) rfl rfl rfl ?_
          refine aw_bipush (v := nI 125) (aw_d q_Mo_readBraces 59 rfl) (by decide) ?_
          refine cVv (aw_d q_Mo_readBraces 60 rfl) (sp_signI hu101s) vL_Mo_343_Mo rfl rfl rfl rfl rfl rfl ⟨aw_le rfl, aw_le rfl⟩ ?_
          refine aw_aload_n (aw_d q_Mo_readBraces 61 rfl) rfl rfl rfl ?_
          refine aw_bipush (v := nI 44) (aw_d q_Mo_readBraces 62 rfl) (by decide) ?_
          refine cVv (aw_d q_Mo_readBraces 63 rfl) (sp_signI hu101s) vL_Mo_343_Mo rfl rfl rfl rfl rfl rfl ⟨aw_le rfl, aw_le rfl⟩ ?_
          refine aw_aload_n (aw_d q_Mo_readBraces 64 rfl) rfl rfl rfl ?_
          refine aw_ldc2 (aw_d q_Mo_readBraces 65 rfl) lL_Mo_391 ?_
          refine aw_bipush (v := nI 7) (aw_d q_Mo_readBraces 66 rfl) (by decide) ?_
          refine cVv (aw_d q_Mo_readBraces 67 rfl) (sp_quotedI hu101s (by decide)) vL_Mo_380_Mo rfl rfl rfl rfl rfl rfl ⟨aw_le rfl, aw_le rfl⟩ ?_
          refine aw_aload_n (aw_d q_Mo_readBraces 68 rfl) rfl rfl rfl ?_
          refine aw_bipush (v := nI 58) (aw_d q_Mo_readBraces 69 rfl) (by decide) ?_
          refine cVv (aw_d q_Mo_readBraces 70 rfl) (sp_signI hu101s) vL_Mo_343_Mo rfl rfl rfl rfl rfl rfl ⟨aw_le rfl, aw_le rfl⟩ ?_
          refine aw_aload_n (aw_d q_Mo_readBraces 71 rfl) rfl rfl rfl ?_
          refine aw_bipush (v := nI 123) (aw_d q_Mo_readBraces 72 rfl) (by decide) ?_
          refine cVv (aw_d q_Mo_readBraces 73 rfl) (sp_signI hu101s) vL_Mo_343_Mo rfl rfl rfl rfl rfl rfl ⟨aw_le rfl, aw_le rfl⟩ ?_
          refine aw_aload_n (aw_d q_Mo_readBraces 74 rfl) rfl rfl rfl ?_
          refine aw_bipush (v := nI 34) (aw_d q_Mo_readBraces 75 rfl) (by decide) ?_
          refine cVv (aw_d q_Mo_readBraces 76 rfl) (sp_signI hu101s) vL_Mo_343_Mo rfl rfl rfl rfl rfl rfl ⟨aw_le rfl, aw_le rfl⟩ ?_
          refine aw_aload_n (aw_d q_Mo_readBraces 77 rfl) rfl rfl rfl ?_
          refine aw_ldc2 (aw_d q_Mo_readBraces 78 rfl) lL_Mo_393 ?_
          refine aw_bipush (v := nI 8) (aw_d q_Mo_readBraces 79 rfl) (by decide) ?_
          refine cVv (aw_d q_Mo_readBraces 80 rfl) (sp_mustI hu101s (by decide)) vL_Mo_340_Mo rfl rfl rfl rfl rfl rfl ⟨aw_le rfl, aw_le rfl⟩ ?_
          refine aw_aload_n (aw_d q_Mo_readBraces 81 rfl) rfl rfl rfl ?_
          refine aw_ldc2 (aw_d q_Mo_readBraces 82 rfl) lL_Mo_167 ?_
          refine aw_iconst (v := nI 1) (aw_d q_Mo_readBraces 83 rfl) (by decide) ?_
          refine cVv (aw_d q_Mo_readBraces 84 rfl) (sp_mustI hu101s (by decide)) vL_Mo_340_Mo rfl rfl rfl rfl rfl rfl ⟨aw_le rfl, aw_le rfl⟩ ?_
          refine aw_aload_n (aw_d q_Mo_readBraces 85 rfl) rfl rfl rfl ?_
          refine aw_bipush (v := nI 58) (aw_d q_Mo_readBraces 86 rfl) (by decide) ?_
          refine cVv (aw_d q_Mo_readBraces 87 rfl) (sp_signI hu101s) vL_Mo_343_Mo rfl rfl rfl rfl rfl rfl ⟨aw_le rfl, aw_le rfl⟩ ?_
          refine aw_aload_n (aw_d q_Mo_readBraces 88 rfl) rfl rfl rfl ?_
          refine aw_bipush (v := nI 91) (aw_d q_Mo_readBraces 89 rfl) (by decide) ?_
          refine cVv (aw_d q_Mo_readBraces 90 rfl) (sp_signI hu101s) vL_Mo_343_Mo rfl rfl rfl rfl rfl rfl ⟨aw_le rfl, aw_le rfl⟩ ?_
          refine aw_aload_n (aw_d q_Mo_readBraces 91 rfl) rfl rfl rfl ?_
          refine cVv (aw_d q_Mo_readBraces 92 rfl) (sp_blanksI hu101s) vL_Mo_337_Mo rfl rfl rfl rfl rfl rfl ⟨aw_le rfl, aw_le rfl⟩ ?_
          refine aw_aload_n (aw_d q_Mo_readBraces 93 rfl) rfl rfl rfl ?_
          refine cVr (aw_d q_Mo_readBraces 94 rfl) (sp_goesI hu101s) vL_Mo_327_Mo rfl rfl rfl rfl rfl rfl ⟨aw_le rfl, aw_le rfl⟩ ?_
          refine aw_ifN_eq (tgt := 209) (aw_d q_Mo_readBraces 95 rfl) (by decide) (by omega) (fun c193 => ?_) (fun c193 => by exfalso; omega)
          refine aw_iconst (v := nI 0) (aw_d q_Mo_readBraces 102 rfl) (by decide) ?_
          refine aw_istore_n (aw_d q_Mo_readBraces 103 rfl) rfl (aw_le rfl) rfl ?_
          refine aw_iload_n (aw_d q_Mo_readBraces 104 rfl) rfl rfl ?_
          refine aw_ifN_eq (tgt := 263) (aw_d q_Mo_readBraces 105 rfl) (by decide) (by omega) (fun c212 => ?_) (fun c212 => by exfalso; omega)
          refine aw_aload_n (aw_d q_Mo_readBraces 129 rfl) rfl rfl rfl ?_
          refine aw_bipush (v := nI 93) (aw_d q_Mo_readBraces 130 rfl) (by decide) ?_
          refine cVv (aw_d q_Mo_readBraces 131 rfl) (sp_signI hu101s) vL_Mo_343_Mo rfl rfl rfl rfl rfl rfl ⟨aw_le rfl, aw_le rfl⟩ ?_
          refine aw_aload_n (aw_d q_Mo_readBraces 132 rfl) rfl rfl rfl ?_
          refine aw_bipush (v := nI 125) (aw_d q_Mo_readBraces 133 rfl) (by decide) ?_
          refine cVv (aw_d q_Mo_readBraces 134 rfl) (sp_signI hu101s) vL_Mo_343_Mo rfl rfl rfl rfl rfl rfl ⟨aw_le rfl, aw_le rfl⟩ ?_
          refine aw_aload_n (aw_d q_Mo_readBraces 135 rfl) rfl rfl rfl ?_
          refine aw_bipush (v := nI 125) (aw_d q_Mo_readBraces 136 rfl) (by decide) ?_
          refine cVv (aw_d q_Mo_readBraces 137 rfl) (sp_signI hu101s) vL_Mo_343_Mo rfl rfl rfl rfl rfl rfl ⟨aw_le rfl, aw_le rfl⟩ ?_
          refine aw_aload_n (aw_d q_Mo_readBraces 138 rfl) rfl rfl rfl ?_
          refine cVv (aw_d q_Mo_readBraces 139 rfl) (sp_blanksI hu101s) vL_Mo_337_Mo rfl rfl rfl rfl rfl rfl ⟨aw_le rfl, aw_le rfl⟩ ?_
          refine aw_aload_n (aw_d q_Mo_readBraces 140 rfl) rfl rfl rfl ?_
          refine cVv (aw_d q_Mo_readBraces 141 rfl) (sp_endI hu101s) vL_Mo_401_Mo rfl rfl rfl rfl rfl rfl ⟨aw_le rfl, aw_le rfl⟩ ?_
          exact aw_vret (aw_d q_Mo_readBraces 142 rfl) rfl (⟨rfl, by rw [show res = .error u101s from he.trans (by simp only [jm, ml62, bd_bd, bd_ok, bd_er, if_true, if_false, eq_self, ↓reduceIte, hx89s, hx90, hx101s])]; exact ⟨hu101s, _, _, _, _, _, hI90.1, hb101s, rfl⟩⟩)
        | ok p101s =>
          rw [hx101s] at hr98
          obtain ⟨hbb101s, hp_101s, rfl⟩ := hr98
          have hbb101s : b98 = p101s := hbb101s
          subst hbb101s
          refine aw_aload_n (aw_d q_Mo_readBraces 50 rfl) rfl rfl rfl ?_
          refine aw_bipush (v := nI 93) (aw_d q_Mo_readBraces 51 rfl) (by decide) ?_
          refine cV (aw_d q_Mo_readBraces 52 rfl) (sp_anA (c := 93) (frM_TP hI90.1 hc) hp_101s (by decide)) vL_Mo_388_Mo rfl rfl rfl rfl rfl rfl ⟨aw_le rfl, aw_le rfl⟩ (fun r104 h104 hp104 => ?_)
          have hsk104 := sk_le (T := T) hp_101s
          rcases hp104 with ⟨ha104, rfl, rfl⟩ | ⟨ha104, rfl, rfl⟩ | ⟨ha104, hd104, rfl, rfl⟩
          · skip -- comma
            have hpn104 : sk T n (b98) + 1 ≤ n := T_lt hc.2.2.2.1 (by omega)
            refine aw_istore_n (aw_d q_Mo_readBraces 53 rfl) rfl (aw_le rfl) rfl ?_
            refine aw_goto (tgt := 72) (aw_d q_Mo_readBraces 54 rfl) (by decide) ?_
            exact AW.to (ih (sk T n b98 + 1) y90.2 F90 _ _ _ (by have := nn_1 hx90; omega) hpn104 hI90 (he.trans (by simp only [jm, ml62, bd_bd, bd_ok, bd_er, if_true, if_false, eq_self, ↓reduceIte, hx89s, hx90, hx101s, ha104]))) rfl rfl rfl rfl
          · skip -- close
            have ha104 : (T (sk T n (b98))).toInt = 93 := ha104
            refine aw_istore_n (aw_d q_Mo_readBraces 53 rfl) rfl (aw_le rfl) rfl ?_
            refine aw_goto (tgt := 72) (aw_d q_Mo_readBraces 54 rfl) (by decide) ?_
            refine aw_iload_n (aw_d q_Mo_readBraces 36 rfl) rfl rfl ?_
            refine aw_ifN_eq (tgt := 111) (aw_d q_Mo_readBraces 37 rfl) (by decide) (by omega) (fun c73 => ?_) (fun c73 => by exfalso; omega)
            rw [show res = _ from he.trans (show _ = bd (mu T (tx 63) (sk T n (sk T n b98))) (fun p => bd (ml T n (tx 64) p) (fun p => bd (jr T n y90.2 p) (fun z => bd (ml T n (tx 74) z.1) (fun p => bd (me n p) (fun p => .ok (p, y90.2, z.2)))))) by rw [sk_sk hc.2.2.2.1 hp_101s]; simp only [jm, ml62, bd_bd, bd_ok, bd_er, if_true, if_false, eq_self, ↓reduceIte, hx89s, hx90, hx101s, show ¬ (T (sk T n b98)).toInt = 44 by omega])]
            exact rb_mid hc (sk T n b98) y90.2 F90 _ _ _ _ hsk104.2 hI90
          · skip -- no
            have hd104 : ¬ (T (sk T n (b98))).toInt = 93 := hd104
            refine aw_istore_n (aw_d q_Mo_readBraces 53 rfl) rfl (aw_le rfl) rfl ?_
            refine aw_goto (tgt := 72) (aw_d q_Mo_readBraces 54 rfl) (by decide) ?_
            refine aw_iload_n (aw_d q_Mo_readBraces 36 rfl) rfl rfl ?_
            refine aw_ifN_eq (tgt := 111) (aw_d q_Mo_readBraces 37 rfl) (by decide) (by omega) (fun c73 => ?_) (fun c73 => by exfalso; omega)
            refine aw_aload_n (aw_d q_Mo_readBraces 55 rfl) rfl rfl rfl ?_
            refine aw_bipush (v := nI 93) (aw_d q_Mo_readBraces 56 rfl) (by decide) ?_
            refine cVv (aw_d q_Mo_readBraces 57 rfl) (sp_signI (show sk T n b98 ≤ 3000 by have := hc.2.1; omega)) vL_Mo_343_Mo rfl rfl rfl rfl rfl rfl ⟨aw_le rfl, aw_le rfl⟩ ?_
            refine aw_aload_n (aw_d q_Mo_readBraces 58 rfl) rfl rfl rfl ?_
            refine aw_bipush (v := nI 125) (aw_d q_Mo_readBraces 59 rfl) (by decide) ?_
            refine cVv (aw_d q_Mo_readBraces 60 rfl) (sp_signI (show sk T n b98 ≤ 3000 by have := hc.2.1; omega)) vL_Mo_343_Mo rfl rfl rfl rfl rfl rfl ⟨aw_le rfl, aw_le rfl⟩ ?_
            refine aw_aload_n (aw_d q_Mo_readBraces 61 rfl) rfl rfl rfl ?_
            refine aw_bipush (v := nI 44) (aw_d q_Mo_readBraces 62 rfl) (by decide) ?_
            refine cVv (aw_d q_Mo_readBraces 63 rfl) (sp_signI (show sk T n b98 ≤ 3000 by have := hc.2.1; omega)) vL_Mo_343_Mo rfl rfl rfl rfl rfl rfl ⟨aw_le rfl, aw_le rfl⟩ ?_
            refine aw_aload_n (aw_d q_Mo_readBraces 64 rfl) rfl rfl rfl ?_
            refine aw_ldc2 (aw_d q_Mo_readBraces 65 rfl) lL_Mo_391 ?_
            refine aw_bipush (v := nI 7) (aw_d q_Mo_readBraces 66 rfl) (by decide) ?_
            refine cVv (aw_d q_Mo_readBraces 67 rfl) (sp_quotedI (show sk T n b98 ≤ 3000 by have := hc.2.1; omega) (by decide)) vL_Mo_380_Mo rfl rfl rfl rfl rfl rfl ⟨aw_le rfl, aw_le rfl⟩ ?_
            refine aw_aload_n (aw_d q_Mo_readBraces 68 rfl) rfl rfl rfl ?_
            refine aw_bipush (v := nI 58) (aw_d q_Mo_readBraces 69 rfl) (by decide) ?_
            refine cVv (aw_d q_Mo_readBraces 70 rfl) (sp_signI (show sk T n b98 ≤ 3000 by have := hc.2.1; omega)) vL_Mo_343_Mo rfl rfl rfl rfl rfl rfl ⟨aw_le rfl, aw_le rfl⟩ ?_
            refine aw_aload_n (aw_d q_Mo_readBraces 71 rfl) rfl rfl rfl ?_
            refine aw_bipush (v := nI 123) (aw_d q_Mo_readBraces 72 rfl) (by decide) ?_
            refine cVv (aw_d q_Mo_readBraces 73 rfl) (sp_signI (show sk T n b98 ≤ 3000 by have := hc.2.1; omega)) vL_Mo_343_Mo rfl rfl rfl rfl rfl rfl ⟨aw_le rfl, aw_le rfl⟩ ?_
            refine aw_aload_n (aw_d q_Mo_readBraces 74 rfl) rfl rfl rfl ?_
            refine aw_bipush (v := nI 34) (aw_d q_Mo_readBraces 75 rfl) (by decide) ?_
            refine cVv (aw_d q_Mo_readBraces 76 rfl) (sp_signI (show sk T n b98 ≤ 3000 by have := hc.2.1; omega)) vL_Mo_343_Mo rfl rfl rfl rfl rfl rfl ⟨aw_le rfl, aw_le rfl⟩ ?_
            refine aw_aload_n (aw_d q_Mo_readBraces 77 rfl) rfl rfl rfl ?_
            refine aw_ldc2 (aw_d q_Mo_readBraces 78 rfl) lL_Mo_393 ?_
            refine aw_bipush (v := nI 8) (aw_d q_Mo_readBraces 79 rfl) (by decide) ?_
            refine cVv (aw_d q_Mo_readBraces 80 rfl) (sp_mustI (show sk T n b98 ≤ 3000 by have := hc.2.1; omega) (by decide)) vL_Mo_340_Mo rfl rfl rfl rfl rfl rfl ⟨aw_le rfl, aw_le rfl⟩ ?_
            refine aw_aload_n (aw_d q_Mo_readBraces 81 rfl) rfl rfl rfl ?_
            refine aw_ldc2 (aw_d q_Mo_readBraces 82 rfl) lL_Mo_167 ?_
            refine aw_iconst (v := nI 1) (aw_d q_Mo_readBraces 83 rfl) (by decide) ?_
            refine cVv (aw_d q_Mo_readBraces 84 rfl) (sp_mustI (show sk T n b98 ≤ 3000 by have := hc.2.1; omega) (by decide)) vL_Mo_340_Mo rfl rfl rfl rfl rfl rfl ⟨aw_le rfl, aw_le rfl⟩ ?_
            refine aw_aload_n (aw_d q_Mo_readBraces 85 rfl) rfl rfl rfl ?_
            refine aw_bipush (v := nI 58) (aw_d q_Mo_readBraces 86 rfl) (by decide) ?_
            refine cVv (aw_d q_Mo_readBraces 87 rfl) (sp_signI (show sk T n b98 ≤ 3000 by have := hc.2.1; omega)) vL_Mo_343_Mo rfl rfl rfl rfl rfl rfl ⟨aw_le rfl, aw_le rfl⟩ ?_
            refine aw_aload_n (aw_d q_Mo_readBraces 88 rfl) rfl rfl rfl ?_
            refine aw_bipush (v := nI 91) (aw_d q_Mo_readBraces 89 rfl) (by decide) ?_
            refine cVv (aw_d q_Mo_readBraces 90 rfl) (sp_signI (show sk T n b98 ≤ 3000 by have := hc.2.1; omega)) vL_Mo_343_Mo rfl rfl rfl rfl rfl rfl ⟨aw_le rfl, aw_le rfl⟩ ?_
            refine aw_aload_n (aw_d q_Mo_readBraces 91 rfl) rfl rfl rfl ?_
            refine cVv (aw_d q_Mo_readBraces 92 rfl) (sp_blanksI (show sk T n b98 ≤ 3000 by have := hc.2.1; omega)) vL_Mo_337_Mo rfl rfl rfl rfl rfl rfl ⟨aw_le rfl, aw_le rfl⟩ ?_
            refine aw_aload_n (aw_d q_Mo_readBraces 93 rfl) rfl rfl rfl ?_
            refine cVr (aw_d q_Mo_readBraces 94 rfl) (sp_goesI (show sk T n b98 ≤ 3000 by have := hc.2.1; omega)) vL_Mo_327_Mo rfl rfl rfl rfl rfl rfl ⟨aw_le rfl, aw_le rfl⟩ ?_
            refine aw_ifN_eq (tgt := 209) (aw_d q_Mo_readBraces 95 rfl) (by decide) (by omega) (fun c193 => ?_) (fun c193 => by exfalso; omega)
            refine aw_iconst (v := nI 0) (aw_d q_Mo_readBraces 102 rfl) (by decide) ?_
            refine aw_istore_n (aw_d q_Mo_readBraces 103 rfl) rfl (aw_le rfl) rfl ?_
            refine aw_iload_n (aw_d q_Mo_readBraces 104 rfl) rfl rfl ?_
            refine aw_ifN_eq (tgt := 263) (aw_d q_Mo_readBraces 105 rfl) (by decide) (by omega) (fun c212 => ?_) (fun c212 => by exfalso; omega)
            refine aw_aload_n (aw_d q_Mo_readBraces 129 rfl) rfl rfl rfl ?_
            refine aw_bipush (v := nI 93) (aw_d q_Mo_readBraces 130 rfl) (by decide) ?_
            refine cVv (aw_d q_Mo_readBraces 131 rfl) (sp_signI (show sk T n b98 ≤ 3000 by have := hc.2.1; omega)) vL_Mo_343_Mo rfl rfl rfl rfl rfl rfl ⟨aw_le rfl, aw_le rfl⟩ ?_
            refine aw_aload_n (aw_d q_Mo_readBraces 132 rfl) rfl rfl rfl ?_
            refine aw_bipush (v := nI 125) (aw_d q_Mo_readBraces 133 rfl) (by decide) ?_
            refine cVv (aw_d q_Mo_readBraces 134 rfl) (sp_signI (show sk T n b98 ≤ 3000 by have := hc.2.1; omega)) vL_Mo_343_Mo rfl rfl rfl rfl rfl rfl ⟨aw_le rfl, aw_le rfl⟩ ?_
            refine aw_aload_n (aw_d q_Mo_readBraces 135 rfl) rfl rfl rfl ?_
            refine aw_bipush (v := nI 125) (aw_d q_Mo_readBraces 136 rfl) (by decide) ?_
            refine cVv (aw_d q_Mo_readBraces 137 rfl) (sp_signI (show sk T n b98 ≤ 3000 by have := hc.2.1; omega)) vL_Mo_343_Mo rfl rfl rfl rfl rfl rfl ⟨aw_le rfl, aw_le rfl⟩ ?_
            refine aw_aload_n (aw_d q_Mo_readBraces 138 rfl) rfl rfl rfl ?_
            refine cVv (aw_d q_Mo_readBraces 139 rfl) (sp_blanksI (show sk T n b98 ≤ 3000 by have := hc.2.1; omega)) vL_Mo_337_Mo rfl rfl rfl rfl rfl rfl ⟨aw_le rfl, aw_le rfl⟩ ?_
            refine aw_aload_n (aw_d q_Mo_readBraces 140 rfl) rfl rfl rfl ?_
            refine cVv (aw_d q_Mo_readBraces 141 rfl) (sp_endI (show sk T n b98 ≤ 3000 by have := hc.2.1; omega)) vL_Mo_401_Mo rfl rfl rfl rfl rfl rfl ⟨aw_le rfl, aw_le rfl⟩ ?_
            exact aw_vret (aw_d q_Mo_readBraces 142 rfl) rfl (⟨rfl, by rw [show res = .error (sk T n b98) from he.trans (by simp only [jm, ml62, bd_bd, bd_ok, bd_er, if_true, if_false, eq_self, ↓reduceIte, hx89s, hx90, hx101s, show ¬ (T (sk T n b98)).toInt = 44 from ha104, mu63 hd104])]; exact ⟨(show sk T n b98 ≤ 3000 by have := hc.2.1; omega), _, _, _, _, _, hI90.1, (show sk T n b98 ≤ 3010 by have := hc.2.1; omega), rfl⟩⟩)
def rJp (T : Nat → Int32) (n : Nat) (N : nm_T) : Except Nat (Nat × rd_T) := bd (ml T n (tx 60) 0) (fun p => bd (jn T n N p) (fun y => bd (ml T n (tx 64) y.1) (fun p => bd (jr T n y.2 p) (fun z => bd (ml T n (tx 74) z.1) (fun p => bd (me n p) (fun p => .ok (p, y.2, z.2)))))))
theorem rJp_J {T : Nat → Int32} {n : Nat} {N : nm_T} : rdJ T n N = bd (rJp T n N) (fun y => .ok y.2) := by simp only [rJp, rdJ, bd_bd, bd_ok]
set_option maxRecDepth 20000 in
theorem sp_readB {g : aw_G} {S D : aw_S} {N : nm_T} {n : Nat} {T : Nat → Int32} {f z : Int32} {X : Nat → Int32} (hI : imC S N 0 [] D) (hc : TPm S n T)  : Sp g M_Mo_readBraces 6 137 0 0 [.ref 33] (HP (QM D (nI 0) (-1) f z X)) (fun x h => x = none ∧ match rJp T n N with
  | .ok y => ∃ (F : aw_S) (f z : Int32) (X : Nat → Int32), (imC S y.2.1 y.2.2.1 y.2.2.2 F ∧ itOK y.2.2.2 (y.2.2.1 * 6)) ∧ y.1 ≤ n ∧ h = HP (QM F (nI y.1) (-1) f z X)
  | .error u => u ≤ 3000 ∧ ∃ (F : aw_S) (b : Nat) (f z : Int32) (X : Nat → Int32), frM S F ∧ b ≤ 3010 ∧ h = HP (QM F (nI b) (nI u) f z X)) := by
  refine Sp.of rfl (aw_le rfl) ?_
  have hc2 := hc.2.1
  refine aw_aload_n (aw_d q_Mo_readBraces 0 rfl) rfl rfl rfl ?_
  refine aw_bipush (v := nI 123) (aw_d q_Mo_readBraces 1 rfl) (by decide) ?_
  refine cV (aw_d q_Mo_readBraces 2 rfl) (sp_Lsign (res := .ok (0, ())) (A := []) (c := 123) (frM_TP hI.1 hc) (by decide) (RR_st (T := T) (Nat.zero_le n))) vL_Mo_343_Mo rfl rfl rfl rfl rfl rfl ⟨aw_le rfl, aw_le rfl⟩ (fun r3 h3 hp3 => ?_)
  obtain ⟨rfl, b3, q3, hr3, rfl⟩ := hp3
  refine aw_aload_n (aw_d q_Mo_readBraces 3 rfl) rfl rfl rfl ?_
  refine aw_ldc2 (aw_d q_Mo_readBraces 4 rfl) lL_Mo_378 ?_
  refine aw_iconst (v := nI 4) (aw_d q_Mo_readBraces 5 rfl) (by decide) ?_
  refine cV (aw_d q_Mo_readBraces 6 rfl) (sp_Lquoted (res := .ok (0, ())) (A := ([] ++ [32, nI 123])) (x := 1751474532) (j := 4) (frM_TP hI.1 hc) (by decide) (by decide) hr3) vL_Mo_380_Mo rfl rfl rfl rfl rfl rfl ⟨aw_le rfl, aw_le rfl⟩ (fun r11 h11 hp11 => ?_)
  obtain ⟨rfl, b11, q11, hr11, rfl⟩ := hp11
  refine aw_aload_n (aw_d q_Mo_readBraces 7 rfl) rfl rfl rfl ?_
  refine aw_bipush (v := nI 58) (aw_d q_Mo_readBraces 8 rfl) (by decide) ?_
  refine cV (aw_d q_Mo_readBraces 9 rfl) (sp_Lsign (res := .ok (0, ())) (A := (([] ++ [32, nI 123]) ++ ([32, 34] ++ eB 1751474532 4 ++ [34]))) (c := 58) (frM_TP hI.1 hc) (by decide) hr11) vL_Mo_343_Mo rfl rfl rfl rfl rfl rfl ⟨aw_le rfl, aw_le rfl⟩ (fun r17 h17 hp17 => ?_)
  obtain ⟨rfl, b17, q17, hr17, rfl⟩ := hp17
  refine aw_aload_n (aw_d q_Mo_readBraces 10 rfl) rfl rfl rfl ?_
  refine aw_bipush (v := nI 123) (aw_d q_Mo_readBraces 11 rfl) (by decide) ?_
  refine cV (aw_d q_Mo_readBraces 12 rfl) (sp_Lsign (res := .ok (0, ())) (A := ((([] ++ [32, nI 123]) ++ ([32, 34] ++ eB 1751474532 4 ++ [34])) ++ [32, nI 58])) (c := 123) (frM_TP hI.1 hc) (by decide) hr17) vL_Mo_343_Mo rfl rfl rfl rfl rfl rfl ⟨aw_le rfl, aw_le rfl⟩ (fun r23 h23 hp23 => ?_)
  obtain ⟨rfl, b23, q23, hr23, rfl⟩ := hp23
  refine aw_aload_n (aw_d q_Mo_readBraces 13 rfl) rfl rfl rfl ?_
  refine aw_ldc2 (aw_d q_Mo_readBraces 14 rfl) lL_Mo_383 ?_
  refine aw_iconst (v := nI 4) (aw_d q_Mo_readBraces 15 rfl) (by decide) ?_
  refine cV (aw_d q_Mo_readBraces 16 rfl) (sp_Lquoted (res := .ok (0, ())) (A := (((([] ++ [32, nI 123]) ++ ([32, 34] ++ eB 1751474532 4 ++ [34])) ++ [32, nI 58]) ++ [32, nI 123])) (x := 1986097779) (j := 4) (frM_TP hI.1 hc) (by decide) (by decide) hr23) vL_Mo_380_Mo rfl rfl rfl rfl rfl rfl ⟨aw_le rfl, aw_le rfl⟩ (fun r31 h31 hp31 => ?_)
  obtain ⟨rfl, b31, q31, hr31, rfl⟩ := hp31
  refine aw_aload_n (aw_d q_Mo_readBraces 17 rfl) rfl rfl rfl ?_
  refine aw_bipush (v := nI 58) (aw_d q_Mo_readBraces 18 rfl) (by decide) ?_
  refine cV (aw_d q_Mo_readBraces 19 rfl) (sp_Lsign (res := .ok (0, ())) (A := ((((([] ++ [32, nI 123]) ++ ([32, 34] ++ eB 1751474532 4 ++ [34])) ++ [32, nI 58]) ++ [32, nI 123]) ++ ([32, 34] ++ eB 1986097779 4 ++ [34]))) (c := 58) (frM_TP hI.1 hc) (by decide) hr31) vL_Mo_343_Mo rfl rfl rfl rfl rfl rfl ⟨aw_le rfl, aw_le rfl⟩ (fun r37 h37 hp37 => ?_)
  obtain ⟨rfl, b37, q37, hr37, rfl⟩ := hp37
  refine aw_aload_n (aw_d q_Mo_readBraces 20 rfl) rfl rfl rfl ?_
  refine aw_bipush (v := nI 91) (aw_d q_Mo_readBraces 21 rfl) (by decide) ?_
  refine cV (aw_d q_Mo_readBraces 22 rfl) (sp_Lsign (res := .ok (0, ())) (A := (((((([] ++ [32, nI 123]) ++ ([32, 34] ++ eB 1751474532 4 ++ [34])) ++ [32, nI 58]) ++ [32, nI 123]) ++ ([32, 34] ++ eB 1986097779 4 ++ [34])) ++ [32, nI 58])) (c := 91) (frM_TP hI.1 hc) (by decide) hr37) vL_Mo_343_Mo rfl rfl rfl rfl rfl rfl ⟨aw_le rfl, aw_le rfl⟩ (fun r43 h43 hp43 => ?_)
  obtain ⟨rfl, b43, q43, hr43, rfl⟩ := hp43
  refine aw_aload_n (aw_d q_Mo_readBraces 23 rfl) rfl rfl rfl ?_
  refine cV (aw_d q_Mo_readBraces 24 rfl) (sp_Lblanks (res := .ok (0, ())) (A := ((((((([] ++ [32, nI 123]) ++ ([32, 34] ++ eB 1751474532 4 ++ [34])) ++ [32, nI 58]) ++ [32, nI 123]) ++ ([32, 34] ++ eB 1986097779 4 ++ [34])) ++ [32, nI 58]) ++ [32, nI 91]))  (frM_TP hI.1 hc)  hr43) vL_Mo_337_Mo rfl rfl rfl rfl rfl rfl ⟨aw_le rfl, aw_le rfl⟩ (fun r47 h47 hp47 => ?_)
  obtain ⟨rfl, b47, q47, hr47, rfl⟩ := hp47
  rw [bp_ok, show ml T n (((((((([] ++ [32, nI 123]) ++ ([32, 34] ++ eB 1751474532 4 ++ [34])) ++ [32, nI 58]) ++ [32, nI 123]) ++ ([32, 34] ++ eB 1986097779 4 ++ [34])) ++ [32, nI 58]) ++ [32, nI 91]) ++ [32]) 0 = ml T n (tx 60) 0 from (congrArg (fun L => ml T n L _) (show _ = tx 60 by decide))] at hr47
  cases hx50s : ml T n (tx 60) 0 with
  | error u50s =>
    rw [hx50s] at hr47
    obtain ⟨hu50s, rfl, hb50s⟩ := hr47
    refine aw_aload_n (aw_d q_Mo_readBraces 25 rfl) rfl rfl rfl ?_
    refine cVr (aw_d q_Mo_readBraces 26 rfl) (sp_goesI hu50s) vL_Mo_327_Mo rfl rfl rfl rfl rfl rfl ⟨aw_le rfl, aw_le rfl⟩ ?_
    refine aw_ifN_eq (tgt := 70) (aw_d q_Mo_readBraces 27 rfl) (by decide) (by (have hc2 := hc.2.1; omega)) (fun c54 => ?_) (fun c54 => by exfalso; (have hc2 := hc.2.1; omega))
    refine aw_iconst (v := nI 0) (aw_d q_Mo_readBraces 34 rfl) (by decide) ?_
    refine aw_istore_n (aw_d q_Mo_readBraces 35 rfl) rfl (aw_le rfl) rfl ?_
    refine aw_iload_n (aw_d q_Mo_readBraces 36 rfl) rfl rfl ?_
    refine aw_ifN_eq (tgt := 111) (aw_d q_Mo_readBraces 37 rfl) (by decide) (by omega) (fun c73 => ?_) (fun c73 => by exfalso; omega)
    refine aw_aload_n (aw_d q_Mo_readBraces 55 rfl) rfl rfl rfl ?_
    refine aw_bipush (v := nI 93) (aw_d q_Mo_readBraces 56 rfl) (by decide) ?_
    refine cVv (aw_d q_Mo_readBraces 57 rfl) (sp_signI hu50s) vL_Mo_343_Mo rfl rfl rfl rfl rfl rfl ⟨aw_le rfl, aw_le rfl⟩ ?_
    refine aw_aload_n (aw_d q_Mo_readBraces 58 rfl) rfl rfl rfl ?_
    refine aw_bipush (v := nI 125) (aw_d q_Mo_readBraces 59 rfl) (by decide) ?_
    refine cVv (aw_d q_Mo_readBraces 60 rfl) (sp_signI hu50s) vL_Mo_343_Mo rfl rfl rfl rfl rfl rfl ⟨aw_le rfl, aw_le rfl⟩ ?_
    refine aw_aload_n (aw_d q_Mo_readBraces 61 rfl) rfl rfl rfl ?_
    refine aw_bipush (v := nI 44) (aw_d q_Mo_readBraces 62 rfl) (by decide) ?_
    refine cVv (aw_d q_Mo_readBraces 63 rfl) (sp_signI hu50s) vL_Mo_343_Mo rfl rfl rfl rfl rfl rfl ⟨aw_le rfl, aw_le rfl⟩ ?_
    refine aw_aload_n (aw_d q_Mo_readBraces 64 rfl) rfl rfl rfl ?_
    refine aw_ldc2 (aw_d q_Mo_readBraces 65 rfl) lL_Mo_391 ?_
    refine aw_bipush (v := nI 7) (aw_d q_Mo_readBraces 66 rfl) (by decide) ?_
    refine cVv (aw_d q_Mo_readBraces 67 rfl) (sp_quotedI hu50s (by decide)) vL_Mo_380_Mo rfl rfl rfl rfl rfl rfl ⟨aw_le rfl, aw_le rfl⟩ ?_
    refine aw_aload_n (aw_d q_Mo_readBraces 68 rfl) rfl rfl rfl ?_
    refine aw_bipush (v := nI 58) (aw_d q_Mo_readBraces 69 rfl) (by decide) ?_
    refine cVv (aw_d q_Mo_readBraces 70 rfl) (sp_signI hu50s) vL_Mo_343_Mo rfl rfl rfl rfl rfl rfl ⟨aw_le rfl, aw_le rfl⟩ ?_
    refine aw_aload_n (aw_d q_Mo_readBraces 71 rfl) rfl rfl rfl ?_
    refine aw_bipush (v := nI 123) (aw_d q_Mo_readBraces 72 rfl) (by decide) ?_
    refine cVv (aw_d q_Mo_readBraces 73 rfl) (sp_signI hu50s) vL_Mo_343_Mo rfl rfl rfl rfl rfl rfl ⟨aw_le rfl, aw_le rfl⟩ ?_
    refine aw_aload_n (aw_d q_Mo_readBraces 74 rfl) rfl rfl rfl ?_
    refine aw_bipush (v := nI 34) (aw_d q_Mo_readBraces 75 rfl) (by decide) ?_
    refine cVv (aw_d q_Mo_readBraces 76 rfl) (sp_signI hu50s) vL_Mo_343_Mo rfl rfl rfl rfl rfl rfl ⟨aw_le rfl, aw_le rfl⟩ ?_
    refine aw_aload_n (aw_d q_Mo_readBraces 77 rfl) rfl rfl rfl ?_
    refine aw_ldc2 (aw_d q_Mo_readBraces 78 rfl) lL_Mo_393 ?_
    refine aw_bipush (v := nI 8) (aw_d q_Mo_readBraces 79 rfl) (by decide) ?_
    refine cVv (aw_d q_Mo_readBraces 80 rfl) (sp_mustI hu50s (by decide)) vL_Mo_340_Mo rfl rfl rfl rfl rfl rfl ⟨aw_le rfl, aw_le rfl⟩ ?_
    refine aw_aload_n (aw_d q_Mo_readBraces 81 rfl) rfl rfl rfl ?_
    refine aw_ldc2 (aw_d q_Mo_readBraces 82 rfl) lL_Mo_167 ?_
    refine aw_iconst (v := nI 1) (aw_d q_Mo_readBraces 83 rfl) (by decide) ?_
    refine cVv (aw_d q_Mo_readBraces 84 rfl) (sp_mustI hu50s (by decide)) vL_Mo_340_Mo rfl rfl rfl rfl rfl rfl ⟨aw_le rfl, aw_le rfl⟩ ?_
    refine aw_aload_n (aw_d q_Mo_readBraces 85 rfl) rfl rfl rfl ?_
    refine aw_bipush (v := nI 58) (aw_d q_Mo_readBraces 86 rfl) (by decide) ?_
    refine cVv (aw_d q_Mo_readBraces 87 rfl) (sp_signI hu50s) vL_Mo_343_Mo rfl rfl rfl rfl rfl rfl ⟨aw_le rfl, aw_le rfl⟩ ?_
    refine aw_aload_n (aw_d q_Mo_readBraces 88 rfl) rfl rfl rfl ?_
    refine aw_bipush (v := nI 91) (aw_d q_Mo_readBraces 89 rfl) (by decide) ?_
    refine cVv (aw_d q_Mo_readBraces 90 rfl) (sp_signI hu50s) vL_Mo_343_Mo rfl rfl rfl rfl rfl rfl ⟨aw_le rfl, aw_le rfl⟩ ?_
    refine aw_aload_n (aw_d q_Mo_readBraces 91 rfl) rfl rfl rfl ?_
    refine cVv (aw_d q_Mo_readBraces 92 rfl) (sp_blanksI hu50s) vL_Mo_337_Mo rfl rfl rfl rfl rfl rfl ⟨aw_le rfl, aw_le rfl⟩ ?_
    refine aw_aload_n (aw_d q_Mo_readBraces 93 rfl) rfl rfl rfl ?_
    refine cVr (aw_d q_Mo_readBraces 94 rfl) (sp_goesI hu50s) vL_Mo_327_Mo rfl rfl rfl rfl rfl rfl ⟨aw_le rfl, aw_le rfl⟩ ?_
    refine aw_ifN_eq (tgt := 209) (aw_d q_Mo_readBraces 95 rfl) (by decide) (by omega) (fun c193 => ?_) (fun c193 => by exfalso; omega)
    refine aw_iconst (v := nI 0) (aw_d q_Mo_readBraces 102 rfl) (by decide) ?_
    refine aw_istore_n (aw_d q_Mo_readBraces 103 rfl) rfl (aw_le rfl) rfl ?_
    refine aw_iload_n (aw_d q_Mo_readBraces 104 rfl) rfl rfl ?_
    refine aw_ifN_eq (tgt := 263) (aw_d q_Mo_readBraces 105 rfl) (by decide) (by omega) (fun c212 => ?_) (fun c212 => by exfalso; omega)
    refine aw_aload_n (aw_d q_Mo_readBraces 129 rfl) rfl rfl rfl ?_
    refine aw_bipush (v := nI 93) (aw_d q_Mo_readBraces 130 rfl) (by decide) ?_
    refine cVv (aw_d q_Mo_readBraces 131 rfl) (sp_signI hu50s) vL_Mo_343_Mo rfl rfl rfl rfl rfl rfl ⟨aw_le rfl, aw_le rfl⟩ ?_
    refine aw_aload_n (aw_d q_Mo_readBraces 132 rfl) rfl rfl rfl ?_
    refine aw_bipush (v := nI 125) (aw_d q_Mo_readBraces 133 rfl) (by decide) ?_
    refine cVv (aw_d q_Mo_readBraces 134 rfl) (sp_signI hu50s) vL_Mo_343_Mo rfl rfl rfl rfl rfl rfl ⟨aw_le rfl, aw_le rfl⟩ ?_
    refine aw_aload_n (aw_d q_Mo_readBraces 135 rfl) rfl rfl rfl ?_
    refine aw_bipush (v := nI 125) (aw_d q_Mo_readBraces 136 rfl) (by decide) ?_
    refine cVv (aw_d q_Mo_readBraces 137 rfl) (sp_signI hu50s) vL_Mo_343_Mo rfl rfl rfl rfl rfl rfl ⟨aw_le rfl, aw_le rfl⟩ ?_
    refine aw_aload_n (aw_d q_Mo_readBraces 138 rfl) rfl rfl rfl ?_
    refine cVv (aw_d q_Mo_readBraces 139 rfl) (sp_blanksI hu50s) vL_Mo_337_Mo rfl rfl rfl rfl rfl rfl ⟨aw_le rfl, aw_le rfl⟩ ?_
    refine aw_aload_n (aw_d q_Mo_readBraces 140 rfl) rfl rfl rfl ?_
    refine cVv (aw_d q_Mo_readBraces 141 rfl) (sp_endI hu50s) vL_Mo_401_Mo rfl rfl rfl rfl rfl rfl ⟨aw_le rfl, aw_le rfl⟩ ?_
    exact aw_vret (aw_d q_Mo_readBraces 142 rfl) rfl (⟨rfl, by rw [show rJp T n N = .error u50s by rw [rJp, hx50s, bd_er]]; exact ⟨hu50s, _, _, _, _, _, hI.1, hb50s, rfl⟩⟩)
  | ok p50s =>
    rw [hx50s] at hr47
    obtain ⟨hbb50s, hp_50s, rfl⟩ := hr47
    have hbb50s : b47 = p50s := hbb50s
    subst hbb50s
    refine aw_aload_n (aw_d q_Mo_readBraces 25 rfl) rfl rfl rfl ?_
    refine cVr (aw_d q_Mo_readBraces 26 rfl) (sp_goesA) vL_Mo_327_Mo rfl rfl rfl rfl rfl rfl ⟨aw_le rfl, aw_le rfl⟩ ?_
    refine aw_ifN_eq (tgt := 70) (aw_d q_Mo_readBraces 27 rfl) (by decide) (by (have hc2 := hc.2.1; omega)) (fun c54 => by exfalso; (have hc2 := hc.2.1; omega)) (fun c54 => ?_)
    refine aw_aload_n (aw_d q_Mo_readBraces 28 rfl) rfl rfl rfl ?_
    refine cVr (aw_d q_Mo_readBraces 29 rfl) (sp_peek (frM_TP hI.1 hc) (b := b47) (by have := hc.2.1; omega)) vL_Mo_331_Mo rfl rfl rfl rfl rfl rfl ⟨aw_le rfl, aw_le rfl⟩ ?_
    refine aw_bipush (v := nI 93) (aw_d q_Mo_readBraces 30 rfl) (by decide) ?_
    refine aw_icmpI_eq (tgt := 70) (aw_d q_Mo_readBraces 31 rfl) (by decide) (by (have hc2 := hc.2.1; omega)) (fun c63 => ?_) (fun c63 => ?_)
    · refine aw_iconst (v := nI 0) (aw_d q_Mo_readBraces 34 rfl) (by decide) ?_
      refine aw_istore_n (aw_d q_Mo_readBraces 35 rfl) rfl (aw_le rfl) rfl ?_
      refine aw_iload_n (aw_d q_Mo_readBraces 36 rfl) rfl rfl ?_
      refine aw_ifN_eq (tgt := 111) (aw_d q_Mo_readBraces 37 rfl) (by decide) (by omega) (fun c73 => ?_) (fun c73 => by exfalso; omega)
      rw [show rJp T n N = bd (mu T (tx 63) (sk T n b47)) (fun p => bd (ml T n (tx 64) p) (fun p => bd (jr T n N p) (fun z => bd (ml T n (tx 74) z.1) (fun p => bd (me n p) (fun p => .ok (p, N, z.2)))))) by rw [rJp, hx50s, bd_ok, jn, if_pos (by omega), bd_ok, sk_no (bl1_no (by omega)), mu63y (by omega), bd_ok]]
      exact rb_mid hc b47 N D _ _ _ _ hp_50s hI
    · refine aw_iconst (v := nI 1) (aw_d q_Mo_readBraces 32 rfl) (by decide) ?_
      refine aw_goto (tgt := 71) (aw_d q_Mo_readBraces 33 rfl) (by decide) ?_
      refine aw_istore_n (aw_d q_Mo_readBraces 35 rfl) rfl (aw_le rfl) rfl ?_
      rw [show rJp T n N = bd (jm T n 7 b47 N) (fun y => bd (ml T n (tx 64) y.1) (fun p => bd (jr T n y.2 p) (fun z => bd (ml T n (tx 74) z.1) (fun p => bd (me n p) (fun p => .ok (p, y.2, z.2)))))) by rw [rJp, hx50s, bd_ok, jn, if_neg (by omega)]]
      exact AW.to (lp_rbN hc 7 b47 N D _ _ _ (by omega) hp_50s hI rfl) rfl rfl rfl rfl
