theorem h2j {T : Nat → Int32} {n i p : Nat} {L : List Int32} (hi : (tx i).all (fun b => decide (b.toInt ≠ 32)) = true) (hL : L = tx i ++ tx 89) : ml T n L p = bd (mu T (tx i) p) (ml T n (tx 89)) := by rw [hL, ml_app, ml_mu hi]
theorem mu88 {T : Nat → Int32} {p : Nat} (h : ¬ (T p).toInt = 102) : mu T (tx 88) p = .error p := if_neg (show ¬ (T p).toInt = (102 : Int32).toInt from h)
def hpJ (T : Nat → Int32) (n : Nat) : Except Nat Nat := hrJ T n
set_option maxRecDepth 20000 in
theorem sp_Mo_hear_0 {g : aw_G} {S : aw_S} {n : Nat} {T : Nat → Int32} (hc : TPm S n T)  : Sp g M_Mo_hear 4 89 0 0 [.ref 33, .int (nI 0)] (HP S) (fun r h => (match hpJ T n with
  | .ok v => r = some (.int (nI v))
  | .error u => r = some (.int (-10 - nI u))) ∧ ∃ (a q f z : Int32) (X : Nat → Int32), h = HP (nT (QM (mB S) a q f z X))) := by
  refine Sp.of rfl (aw_le rfl) ?_
  have hc2 := hc.2.1
  refine aw_iload_n (aw_d q_Mo_hear 0 rfl) rfl rfl ?_
  refine aw_iconst (v := nI 0) (aw_d q_Mo_hear 1 rfl) (by decide) ?_
  refine aw_iconst (v := nI 1) (aw_d q_Mo_hear 2 rfl) (by decide) ?_
  refine cSr (aw_d q_Mo_hear 3 rfl) (sp_Mo_in (x := nI 0) (A := 0) (B := 1) rfl rfl) sL_Mo_81 rfl rfl rfl rfl ⟨aw_le rfl, aw_le rfl⟩ ?_
  refine aw_ifB_ne (tgt := 16) (aw_d q_Mo_hear 4 rfl) (by decide) (fun c6 => ?_) (fun c6 => by exact absurd (by decide) c6)
  refine aw_aload_n (aw_d q_Mo_hear 10 rfl) rfl rfl rfl ?_
  refine cVv (aw_d q_Mo_hear 11 rfl) (sp_mbegin) vL_Mo_470_Mo rfl rfl rfl rfl rfl rfl ⟨aw_le rfl, aw_le rfl⟩ ?_
  refine aw_iload_n (aw_d q_Mo_hear 12 rfl) rfl rfl ?_
  refine aw_ifN_ne (tgt := 84) (aw_d q_Mo_hear 13 rfl) (by decide) (by (have hc2 := hc.2.1; omega)) (fun c21 => by exfalso; (have hc2 := hc.2.1; omega)) (fun c21 => ?_)
  refine aw_aload_n (aw_d q_Mo_hear 14 rfl) rfl rfl rfl ?_
  refine aw_bipush (v := nI 123) (aw_d q_Mo_hear 15 rfl) (by decide) ?_
  refine cV (aw_d q_Mo_hear 16 rfl) (sp_Lsign (res := .ok (0, ())) (A := []) (c := 123) (mB_TP hc) (by decide) (RR_st (T := T) (Nat.zero_le n))) vL_Mo_343_Mo rfl rfl rfl rfl rfl rfl ⟨aw_le rfl, aw_le rfl⟩ (fun r27 h27 hp27 => ?_)
  obtain ⟨rfl, b27, q27, hr27, rfl⟩ := hp27
  refine aw_aload_n (aw_d q_Mo_hear 17 rfl) rfl rfl rfl ?_
  refine aw_ldc2 (aw_d q_Mo_hear 18 rfl) lL_Mo_378 ?_
  refine aw_iconst (v := nI 4) (aw_d q_Mo_hear 19 rfl) (by decide) ?_
  refine cV (aw_d q_Mo_hear 20 rfl) (sp_Lquoted (res := .ok (0, ())) (A := ([] ++ [32, nI 123])) (x := 1751474532) (j := 4) (mB_TP hc) (by decide) (by decide) hr27) vL_Mo_380_Mo rfl rfl rfl rfl rfl rfl ⟨aw_le rfl, aw_le rfl⟩ (fun r35 h35 hp35 => ?_)
  obtain ⟨rfl, b35, q35, hr35, rfl⟩ := hp35
  refine aw_aload_n (aw_d q_Mo_hear 21 rfl) rfl rfl rfl ?_
  refine aw_bipush (v := nI 58) (aw_d q_Mo_hear 22 rfl) (by decide) ?_
  refine cV (aw_d q_Mo_hear 23 rfl) (sp_Lsign (res := .ok (0, ())) (A := (([] ++ [32, nI 123]) ++ ([32, 34] ++ eB 1751474532 4 ++ [34]))) (c := 58) (mB_TP hc) (by decide) hr35) vL_Mo_343_Mo rfl rfl rfl rfl rfl rfl ⟨aw_le rfl, aw_le rfl⟩ (fun r41 h41 hp41 => ?_)
  obtain ⟨rfl, b41, q41, hr41, rfl⟩ := hp41
  refine aw_aload_n (aw_d q_Mo_hear 24 rfl) rfl rfl rfl ?_
  refine aw_bipush (v := nI 123) (aw_d q_Mo_hear 25 rfl) (by decide) ?_
  refine cV (aw_d q_Mo_hear 26 rfl) (sp_Lsign (res := .ok (0, ())) (A := ((([] ++ [32, nI 123]) ++ ([32, 34] ++ eB 1751474532 4 ++ [34])) ++ [32, nI 58])) (c := 123) (mB_TP hc) (by decide) hr41) vL_Mo_343_Mo rfl rfl rfl rfl rfl rfl ⟨aw_le rfl, aw_le rfl⟩ (fun r47 h47 hp47 => ?_)
  obtain ⟨rfl, b47, q47, hr47, rfl⟩ := hp47
  refine aw_aload_n (aw_d q_Mo_hear 27 rfl) rfl rfl rfl ?_
  refine aw_bipush (v := nI 125) (aw_d q_Mo_hear 28 rfl) (by decide) ?_
  refine cV (aw_d q_Mo_hear 29 rfl) (sp_Lsign (res := .ok (0, ())) (A := (((([] ++ [32, nI 123]) ++ ([32, 34] ++ eB 1751474532 4 ++ [34])) ++ [32, nI 58]) ++ [32, nI 123])) (c := 125) (mB_TP hc) (by decide) hr47) vL_Mo_343_Mo rfl rfl rfl rfl rfl rfl ⟨aw_le rfl, aw_le rfl⟩ (fun r53 h53 hp53 => ?_)
  obtain ⟨rfl, b53, q53, hr53, rfl⟩ := hp53
  refine aw_aload_n (aw_d q_Mo_hear 30 rfl) rfl rfl rfl ?_
  refine aw_bipush (v := nI 44) (aw_d q_Mo_hear 31 rfl) (by decide) ?_
  refine cV (aw_d q_Mo_hear 32 rfl) (sp_Lsign (res := .ok (0, ())) (A := ((((([] ++ [32, nI 123]) ++ ([32, 34] ++ eB 1751474532 4 ++ [34])) ++ [32, nI 58]) ++ [32, nI 123]) ++ [32, nI 125])) (c := 44) (mB_TP hc) (by decide) hr53) vL_Mo_343_Mo rfl rfl rfl rfl rfl rfl ⟨aw_le rfl, aw_le rfl⟩ (fun r59 h59 hp59 => ?_)
  obtain ⟨rfl, b59, q59, hr59, rfl⟩ := hp59
  refine aw_aload_n (aw_d q_Mo_hear 33 rfl) rfl rfl rfl ?_
  refine aw_ldc2 (aw_d q_Mo_hear 34 rfl) lL_Mo_485 ?_
  refine aw_bipush (v := nI 7) (aw_d q_Mo_hear 35 rfl) (by decide) ?_
  refine cV (aw_d q_Mo_hear 36 rfl) (sp_Lquoted (res := .ok (0, ())) (A := (((((([] ++ [32, nI 123]) ++ ([32, 34] ++ eB 1751474532 4 ++ [34])) ++ [32, nI 58]) ++ [32, nI 123]) ++ [32, nI 125]) ++ [32, nI 44])) (x := 27707072068280686) (j := 7) (mB_TP hc) (by decide) (by decide) hr59) vL_Mo_380_Mo rfl rfl rfl rfl rfl rfl ⟨aw_le rfl, aw_le rfl⟩ (fun r68 h68 hp68 => ?_)
  obtain ⟨rfl, b68, q68, hr68, rfl⟩ := hp68
  refine aw_aload_n (aw_d q_Mo_hear 37 rfl) rfl rfl rfl ?_
  refine aw_bipush (v := nI 58) (aw_d q_Mo_hear 38 rfl) (by decide) ?_
  refine cV (aw_d q_Mo_hear 39 rfl) (sp_Lsign (res := .ok (0, ())) (A := ((((((([] ++ [32, nI 123]) ++ ([32, 34] ++ eB 1751474532 4 ++ [34])) ++ [32, nI 58]) ++ [32, nI 123]) ++ [32, nI 125]) ++ [32, nI 44]) ++ ([32, 34] ++ eB 27707072068280686 7 ++ [34]))) (c := 58) (mB_TP hc) (by decide) hr68) vL_Mo_343_Mo rfl rfl rfl rfl rfl rfl ⟨aw_le rfl, aw_le rfl⟩ (fun r74 h74 hp74 => ?_)
  obtain ⟨rfl, b74, q74, hr74, rfl⟩ := hp74
  refine aw_aload_n (aw_d q_Mo_hear 40 rfl) rfl rfl rfl ?_
  refine cV (aw_d q_Mo_hear 41 rfl) (sp_Lblanks (res := .ok (0, ())) (A := (((((((([] ++ [32, nI 123]) ++ ([32, 34] ++ eB 1751474532 4 ++ [34])) ++ [32, nI 58]) ++ [32, nI 123]) ++ [32, nI 125]) ++ [32, nI 44]) ++ ([32, 34] ++ eB 27707072068280686 7 ++ [34])) ++ [32, nI 58]))  (mB_TP hc)  hr74) vL_Mo_337_Mo rfl rfl rfl rfl rfl rfl ⟨aw_le rfl, aw_le rfl⟩ (fun r78 h78 hp78 => ?_)
  obtain ⟨rfl, b78, q78, hr78, rfl⟩ := hp78
  refine aw_goto (tgt := 120) (aw_d q_Mo_hear 42 rfl) (by decide) ?_
  rw [bp_ok, show ml T n ((((((((([] ++ [32, nI 123]) ++ ([32, 34] ++ eB 1751474532 4 ++ [34])) ++ [32, nI 58]) ++ [32, nI 123]) ++ [32, nI 125]) ++ [32, nI 44]) ++ ([32, 34] ++ eB 27707072068280686 7 ++ [34])) ++ [32, nI 58]) ++ [32]) 0 = ml T n (tx 86) 0 from (congrArg (fun L => ml T n L _) (show _ = tx 86 by decide))] at hr78
  cases hx120s : ml T n (tx 86) 0 with
  | error u120s =>
    rw [hx120s] at hr78
    obtain ⟨hu120s, rfl, hb120s⟩ := hr78
    refine aw_aload_n (aw_d q_Mo_hear 59 rfl) rfl rfl rfl ?_
    refine cVr (aw_d q_Mo_hear 60 rfl) (sp_peek (mB_TP hc) (b := b78) (by have := hc.2.1; omega)) vL_Mo_331_Mo rfl rfl rfl rfl rfl rfl ⟨aw_le rfl, aw_le rfl⟩ ?_
    refine aw_bipush (v := nI 116) (aw_d q_Mo_hear 61 rfl) (by decide) ?_
    refine aw_icmpI_ne (tgt := 133) (aw_d q_Mo_hear 62 rfl) (by decide) (by (have hc2 := hc.2.1; omega)) (fun c126 => ?_) (fun c126 => ?_)
    · refine aw_iconst (v := nI 0) (aw_d q_Mo_hear 65 rfl) (by decide) ?_
      refine aw_istore_n (aw_d q_Mo_hear 66 rfl) rfl (aw_le rfl) rfl ?_
      refine aw_aload_n (aw_d q_Mo_hear 67 rfl) rfl rfl rfl ?_
      refine cVr (aw_d q_Mo_hear 68 rfl) (sp_goesI hu120s) vL_Mo_327_Mo rfl rfl rfl rfl rfl rfl ⟨aw_le rfl, aw_le rfl⟩ ?_
      refine aw_ifN_eq (tgt := 163) (aw_d q_Mo_hear 69 rfl) (by decide) (by (have hc2 := hc.2.1; omega)) (fun c139 => ?_) (fun c139 => by exfalso; (have hc2 := hc.2.1; omega))
      refine aw_iload_n (aw_d q_Mo_hear 80 rfl) rfl rfl ?_
      refine aw_ifN_eq (tgt := 178) (aw_d q_Mo_hear 81 rfl) (by decide) (by (have hc2 := hc.2.1; omega)) (fun c164 => ?_) (fun c164 => by exfalso; (have hc2 := hc.2.1; omega))
      refine aw_aload_n (aw_d q_Mo_hear 87 rfl) rfl rfl rfl ?_
      refine aw_ldc2 (aw_d q_Mo_hear 88 rfl) lL_Mo_318 ?_
      refine aw_iconst (v := nI 5) (aw_d q_Mo_hear 89 rfl) (by decide) ?_
      refine cVv (aw_d q_Mo_hear 90 rfl) (sp_mustI hu120s (by decide)) vL_Mo_340_Mo rfl rfl rfl rfl rfl rfl ⟨aw_le rfl, aw_le rfl⟩ ?_
      refine aw_iload_n (aw_d q_Mo_hear 91 rfl) rfl rfl ?_
      refine aw_ifN_ne (tgt := 203) (aw_d q_Mo_hear 92 rfl) (by decide) (by (have hc2 := hc.2.1; omega)) (fun c187 => by exfalso; (have hc2 := hc.2.1; omega)) (fun c187 => ?_)
      refine aw_aload_n (aw_d q_Mo_hear 93 rfl) rfl rfl rfl ?_
      refine aw_bipush (v := nI 125) (aw_d q_Mo_hear 94 rfl) (by decide) ?_
      refine cVv (aw_d q_Mo_hear 95 rfl) (sp_signI hu120s) vL_Mo_343_Mo rfl rfl rfl rfl rfl rfl ⟨aw_le rfl, aw_le rfl⟩ ?_
      refine aw_aload_n (aw_d q_Mo_hear 96 rfl) rfl rfl rfl ?_
      refine cVv (aw_d q_Mo_hear 97 rfl) (sp_blanksI hu120s) vL_Mo_337_Mo rfl rfl rfl rfl rfl rfl ⟨aw_le rfl, aw_le rfl⟩ ?_
      refine aw_goto (tgt := 229) (aw_d q_Mo_hear 98 rfl) (by decide) ?_
      refine aw_aload_n (aw_d q_Mo_hear 111 rfl) rfl rfl rfl ?_
      refine cVv (aw_d q_Mo_hear 112 rfl) (sp_endI hu120s) vL_Mo_401_Mo rfl rfl rfl rfl rfl rfl ⟨aw_le rfl, aw_le rfl⟩ ?_
      refine aw_aload_n (aw_d q_Mo_hear 113 rfl) rfl rfl rfl ?_
      refine cVr (aw_d q_Mo_hear 114 rfl) (sp_goesI hu120s) vL_Mo_327_Mo rfl rfl rfl rfl rfl rfl ⟨aw_le rfl, aw_le rfl⟩ ?_
      refine aw_ifN_ne (tgt := 245) (aw_d q_Mo_hear 115 rfl) (by decide) (by (have hc2 := hc.2.1; omega)) (fun c237 => by exfalso; (have hc2 := hc.2.1; omega)) (fun c237 => ?_)
      refine aw_aload_n (aw_d q_Mo_hear 116 rfl) rfl rfl rfl ?_
      refine cVr (aw_d q_Mo_hear 117 rfl) (sp_faulty) vL_Mo_482_Mo rfl rfl rfl rfl rfl rfl ⟨aw_le rfl, aw_le rfl⟩ ?_
      exact aw_iret (aw_d q_Mo_hear 118 rfl) rfl (by rw [show hpJ T n = .error u120s by simp only [hpJ, hrJ, tr, bd_bd, bd_ok, bd_er, if_true, if_false, ↓reduceIte, hx120s]]; exact ⟨rfl, _, _, _, _, _, rfl⟩)
    · refine aw_iconst (v := nI 1) (aw_d q_Mo_hear 63 rfl) (by decide) ?_
      refine aw_goto (tgt := 134) (aw_d q_Mo_hear 64 rfl) (by decide) ?_
      refine aw_istore_n (aw_d q_Mo_hear 66 rfl) rfl (aw_le rfl) rfl ?_
      refine aw_aload_n (aw_d q_Mo_hear 67 rfl) rfl rfl rfl ?_
      refine cVr (aw_d q_Mo_hear 68 rfl) (sp_goesI hu120s) vL_Mo_327_Mo rfl rfl rfl rfl rfl rfl ⟨aw_le rfl, aw_le rfl⟩ ?_
      refine aw_ifN_eq (tgt := 163) (aw_d q_Mo_hear 69 rfl) (by decide) (by (have hc2 := hc.2.1; omega)) (fun c139 => ?_) (fun c139 => by exfalso; (have hc2 := hc.2.1; omega))
      refine aw_iload_n (aw_d q_Mo_hear 80 rfl) rfl rfl ?_
      refine aw_ifN_eq (tgt := 178) (aw_d q_Mo_hear 81 rfl) (by decide) (by (have hc2 := hc.2.1; omega)) (fun c164 => by exfalso; (have hc2 := hc.2.1; omega)) (fun c164 => ?_)
      refine aw_aload_n (aw_d q_Mo_hear 82 rfl) rfl rfl rfl ?_
      refine aw_ldc2 (aw_d q_Mo_hear 83 rfl) lL_Mo_316 ?_
      refine aw_iconst (v := nI 4) (aw_d q_Mo_hear 84 rfl) (by decide) ?_
      refine cVv (aw_d q_Mo_hear 85 rfl) (sp_mustI hu120s (by decide)) vL_Mo_340_Mo rfl rfl rfl rfl rfl rfl ⟨aw_le rfl, aw_le rfl⟩ ?_
      refine aw_goto (tgt := 186) (aw_d q_Mo_hear 86 rfl) (by decide) ?_
      refine aw_iload_n (aw_d q_Mo_hear 91 rfl) rfl rfl ?_
      refine aw_ifN_ne (tgt := 203) (aw_d q_Mo_hear 92 rfl) (by decide) (by (have hc2 := hc.2.1; omega)) (fun c187 => by exfalso; (have hc2 := hc.2.1; omega)) (fun c187 => ?_)
      refine aw_aload_n (aw_d q_Mo_hear 93 rfl) rfl rfl rfl ?_
      refine aw_bipush (v := nI 125) (aw_d q_Mo_hear 94 rfl) (by decide) ?_
      refine cVv (aw_d q_Mo_hear 95 rfl) (sp_signI hu120s) vL_Mo_343_Mo rfl rfl rfl rfl rfl rfl ⟨aw_le rfl, aw_le rfl⟩ ?_
      refine aw_aload_n (aw_d q_Mo_hear 96 rfl) rfl rfl rfl ?_
      refine cVv (aw_d q_Mo_hear 97 rfl) (sp_blanksI hu120s) vL_Mo_337_Mo rfl rfl rfl rfl rfl rfl ⟨aw_le rfl, aw_le rfl⟩ ?_
      refine aw_goto (tgt := 229) (aw_d q_Mo_hear 98 rfl) (by decide) ?_
      refine aw_aload_n (aw_d q_Mo_hear 111 rfl) rfl rfl rfl ?_
      refine cVv (aw_d q_Mo_hear 112 rfl) (sp_endI hu120s) vL_Mo_401_Mo rfl rfl rfl rfl rfl rfl ⟨aw_le rfl, aw_le rfl⟩ ?_
      refine aw_aload_n (aw_d q_Mo_hear 113 rfl) rfl rfl rfl ?_
      refine cVr (aw_d q_Mo_hear 114 rfl) (sp_goesI hu120s) vL_Mo_327_Mo rfl rfl rfl rfl rfl rfl ⟨aw_le rfl, aw_le rfl⟩ ?_
      refine aw_ifN_ne (tgt := 245) (aw_d q_Mo_hear 115 rfl) (by decide) (by (have hc2 := hc.2.1; omega)) (fun c237 => by exfalso; (have hc2 := hc.2.1; omega)) (fun c237 => ?_)
      refine aw_aload_n (aw_d q_Mo_hear 116 rfl) rfl rfl rfl ?_
      refine cVr (aw_d q_Mo_hear 117 rfl) (sp_faulty) vL_Mo_482_Mo rfl rfl rfl rfl rfl rfl ⟨aw_le rfl, aw_le rfl⟩ ?_
      exact aw_iret (aw_d q_Mo_hear 118 rfl) rfl (by rw [show hpJ T n = .error u120s by simp only [hpJ, hrJ, tr, bd_bd, bd_ok, bd_er, if_true, if_false, ↓reduceIte, hx120s]]; exact ⟨rfl, _, _, _, _, _, rfl⟩)
  | ok p120s =>
    rw [hx120s] at hr78
    obtain ⟨hbb120s, hp_120s, rfl⟩ := hr78
    have hbb120s : b78 = p120s := hbb120s
    subst hbb120s
    refine aw_aload_n (aw_d q_Mo_hear 59 rfl) rfl rfl rfl ?_
    refine cVr (aw_d q_Mo_hear 60 rfl) (sp_peek (mB_TP hc) (b := b78) (by have := hc.2.1; omega)) vL_Mo_331_Mo rfl rfl rfl rfl rfl rfl ⟨aw_le rfl, aw_le rfl⟩ ?_
    refine aw_bipush (v := nI 116) (aw_d q_Mo_hear 61 rfl) (by decide) ?_
    refine aw_icmpI_ne (tgt := 133) (aw_d q_Mo_hear 62 rfl) (by decide) (by (have hc2 := hc.2.1; omega)) (fun c126 => ?_) (fun c126 => ?_)
    · refine aw_iconst (v := nI 0) (aw_d q_Mo_hear 65 rfl) (by decide) ?_
      refine aw_istore_n (aw_d q_Mo_hear 66 rfl) rfl (aw_le rfl) rfl ?_
      refine aw_aload_n (aw_d q_Mo_hear 67 rfl) rfl rfl rfl ?_
      refine cVr (aw_d q_Mo_hear 68 rfl) (sp_goesA) vL_Mo_327_Mo rfl rfl rfl rfl rfl rfl ⟨aw_le rfl, aw_le rfl⟩ ?_
      refine aw_ifN_eq (tgt := 163) (aw_d q_Mo_hear 69 rfl) (by decide) (by (have hc2 := hc.2.1; omega)) (fun c139 => by exfalso; (have hc2 := hc.2.1; omega)) (fun c139 => ?_)
      refine aw_iload_n (aw_d q_Mo_hear 70 rfl) rfl rfl ?_
      refine aw_ifN_ne (tgt := 163) (aw_d q_Mo_hear 71 rfl) (by decide) (by (have hc2 := hc.2.1; omega)) (fun c143 => by exfalso; (have hc2 := hc.2.1; omega)) (fun c143 => ?_)
      refine aw_aload_n (aw_d q_Mo_hear 72 rfl) rfl rfl rfl ?_
      refine cVr (aw_d q_Mo_hear 73 rfl) (sp_peek (mB_TP hc) (b := b78) (by have := hc.2.1; omega)) vL_Mo_331_Mo rfl rfl rfl rfl rfl rfl ⟨aw_le rfl, aw_le rfl⟩ ?_
      refine aw_bipush (v := nI 102) (aw_d q_Mo_hear 74 rfl) (by decide) ?_
      refine aw_icmpI_eq (tgt := 163) (aw_d q_Mo_hear 75 rfl) (by decide) (by (have hc2 := hc.2.1; omega)) (fun c152 => ?_) (fun c152 => ?_)
      · refine aw_iload_n (aw_d q_Mo_hear 80 rfl) rfl rfl ?_
        refine aw_ifN_eq (tgt := 178) (aw_d q_Mo_hear 81 rfl) (by decide) (by (have hc2 := hc.2.1; omega)) (fun c164 => ?_) (fun c164 => by exfalso; (have hc2 := hc.2.1; omega))
        refine aw_aload_n (aw_d q_Mo_hear 87 rfl) rfl rfl rfl ?_
        refine aw_ldc2 (aw_d q_Mo_hear 88 rfl) lL_Mo_318 ?_
        refine aw_iconst (v := nI 5) (aw_d q_Mo_hear 89 rfl) (by decide) ?_
        refine cV (aw_d q_Mo_hear 90 rfl) (sp_Lmust (res := .ok (b78, ())) (A := []) (x := 439721161573) (j := 5) (mB_TP hc) (by decide) (by decide) (RR_st (T := T) hp_120s)) vL_Mo_340_Mo rfl rfl rfl rfl rfl rfl ⟨aw_le rfl, aw_le rfl⟩ (fun r183 h183 hp183 => ?_)
        obtain ⟨rfl, b183, q183, hr183, rfl⟩ := hp183
        refine aw_iload_n (aw_d q_Mo_hear 91 rfl) rfl rfl ?_
        refine aw_ifN_ne (tgt := 203) (aw_d q_Mo_hear 92 rfl) (by decide) (by (have hc2 := hc.2.1; omega)) (fun c187 => by exfalso; (have hc2 := hc.2.1; omega)) (fun c187 => ?_)
        refine aw_aload_n (aw_d q_Mo_hear 93 rfl) rfl rfl rfl ?_
        refine aw_bipush (v := nI 125) (aw_d q_Mo_hear 94 rfl) (by decide) ?_
        refine cV (aw_d q_Mo_hear 95 rfl) (sp_Lsign (res := .ok (b78, ())) (A := ([] ++ eB 439721161573 5)) (c := 125) (mB_TP hc) (by decide) hr183) vL_Mo_343_Mo rfl rfl rfl rfl rfl rfl ⟨aw_le rfl, aw_le rfl⟩ (fun r193 h193 hp193 => ?_)
        obtain ⟨rfl, b193, q193, hr193, rfl⟩ := hp193
        refine aw_aload_n (aw_d q_Mo_hear 96 rfl) rfl rfl rfl ?_
        refine cV (aw_d q_Mo_hear 97 rfl) (sp_Lblanks (res := .ok (b78, ())) (A := (([] ++ eB 439721161573 5) ++ [32, nI 125]))  (mB_TP hc)  hr193) vL_Mo_337_Mo rfl rfl rfl rfl rfl rfl ⟨aw_le rfl, aw_le rfl⟩ (fun r197 h197 hp197 => ?_)
        obtain ⟨rfl, b197, q197, hr197, rfl⟩ := hp197
        refine aw_goto (tgt := 229) (aw_d q_Mo_hear 98 rfl) (by decide) ?_
        rw [bp_ok, show ml T n ((([] ++ eB 439721161573 5) ++ [32, nI 125]) ++ [32]) b78 = bd (mu T (tx 88) b78) (ml T n (tx 89)) from (h2j (by decide) (by decide))] at hr197
        cases hx229s : bd (mu T (tx 88) b78) (ml T n (tx 89)) with
        | error u229s =>
          rw [hx229s] at hr197
          obtain ⟨hu229s, rfl, hb229s⟩ := hr197
          refine aw_aload_n (aw_d q_Mo_hear 111 rfl) rfl rfl rfl ?_
          refine cVv (aw_d q_Mo_hear 112 rfl) (sp_endI hu229s) vL_Mo_401_Mo rfl rfl rfl rfl rfl rfl ⟨aw_le rfl, aw_le rfl⟩ ?_
          refine aw_aload_n (aw_d q_Mo_hear 113 rfl) rfl rfl rfl ?_
          refine cVr (aw_d q_Mo_hear 114 rfl) (sp_goesI hu229s) vL_Mo_327_Mo rfl rfl rfl rfl rfl rfl ⟨aw_le rfl, aw_le rfl⟩ ?_
          refine aw_ifN_ne (tgt := 245) (aw_d q_Mo_hear 115 rfl) (by decide) (by (have hc2 := hc.2.1; omega)) (fun c237 => by exfalso; (have hc2 := hc.2.1; omega)) (fun c237 => ?_)
          refine aw_aload_n (aw_d q_Mo_hear 116 rfl) rfl rfl rfl ?_
          refine cVr (aw_d q_Mo_hear 117 rfl) (sp_faulty) vL_Mo_482_Mo rfl rfl rfl rfl rfl rfl ⟨aw_le rfl, aw_le rfl⟩ ?_
          exact aw_iret (aw_d q_Mo_hear 118 rfl) rfl (by rw [show hpJ T n = .error u229s by simp only [hpJ, hrJ, tr, bd_bd, bd_ok, bd_er, if_true, if_false, ↓reduceIte, hx120s, show ((T b78).toInt = 116) = False from eq_false (by omega), show ∀ k : Nat → Except Nat Nat, bd (mu T (tx 88) b78) (fun a => bd (ml T n (tx 89) a) k) = bd (.error u229s) k from fun k => by rw [← bd_bd, hx229s]]]; exact ⟨rfl, _, _, _, _, _, rfl⟩)
        | ok p229s =>
          rw [hx229s] at hr197
          obtain ⟨hbb229s, hp_229s, rfl⟩ := hr197
          have hbb229s : b197 = p229s := hbb229s
          subst hbb229s
          refine aw_aload_n (aw_d q_Mo_hear 111 rfl) rfl rfl rfl ?_
          refine cV (aw_d q_Mo_hear 112 rfl) (sp_mend (res := .ok (b197, ())) (mB_TP hc) (RR_ok rfl hp_229s rfl)) vL_Mo_401_Mo rfl rfl rfl rfl rfl rfl ⟨aw_le rfl, aw_le rfl⟩ (fun r230 h230 hp230 => ?_)
          obtain ⟨rfl, b230, q230, hr230, rfl⟩ := hp230
          rw [bp_ok] at hr230
          cases hq : me n b197 with
          | error u233s =>
            rw [hq] at hr230
            obtain ⟨hu233s, rfl, hb233s⟩ := hr230
            refine aw_aload_n (aw_d q_Mo_hear 113 rfl) rfl rfl rfl ?_
            refine cVr (aw_d q_Mo_hear 114 rfl) (sp_goesI hu233s) vL_Mo_327_Mo rfl rfl rfl rfl rfl rfl ⟨aw_le rfl, aw_le rfl⟩ ?_
            refine aw_ifN_ne (tgt := 245) (aw_d q_Mo_hear 115 rfl) (by decide) (by (have hc2 := hc.2.1; omega)) (fun c237 => by exfalso; (have hc2 := hc.2.1; omega)) (fun c237 => ?_)
            refine aw_aload_n (aw_d q_Mo_hear 116 rfl) rfl rfl rfl ?_
            refine cVr (aw_d q_Mo_hear 117 rfl) (sp_faulty) vL_Mo_482_Mo rfl rfl rfl rfl rfl rfl ⟨aw_le rfl, aw_le rfl⟩ ?_
            exact aw_iret (aw_d q_Mo_hear 118 rfl) rfl (by rw [show hpJ T n = .error u233s by simp only [hpJ, hrJ, tr, bd_bd, bd_ok, bd_er, if_true, if_false, ↓reduceIte, hx120s, show ((T b78).toInt = 116) = False from eq_false (by omega), show ∀ k : Nat → Except Nat Nat, bd (mu T (tx 88) b78) (fun a => bd (ml T n (tx 89) a) k) = bd (.ok b197) k from fun k => by rw [← bd_bd, hx229s], hq]]; exact ⟨rfl, _, _, _, _, _, rfl⟩)
          | ok w =>
            rw [hq] at hr230
            obtain ⟨h1, h2, rfl⟩ := hr230
            refine aw_aload_n (aw_d q_Mo_hear 113 rfl) rfl rfl rfl ?_
            refine cVr (aw_d q_Mo_hear 114 rfl) (sp_goesA) vL_Mo_327_Mo rfl rfl rfl rfl rfl rfl ⟨aw_le rfl, aw_le rfl⟩ ?_
            refine aw_ifN_ne (tgt := 245) (aw_d q_Mo_hear 115 rfl) (by decide) (by (have hc2 := hc.2.1; omega)) (fun c237 => ?_) (fun c237 => by exfalso; (have hc2 := hc.2.1; omega))
            refine aw_aload_n (aw_d q_Mo_hear 119 rfl) rfl rfl rfl ?_
            refine aw_iconst (v := nI 0) (aw_d q_Mo_hear 120 rfl) (by decide) ?_
            refine wi_33_0 (aw_d q_Mo_hear 121 rfl) pL_Mo_85_Mo ?_
            refine aw_iload_n (aw_d q_Mo_hear 122 rfl) rfl rfl ?_
            refine aw_ifN_eq (tgt := 258) (aw_d q_Mo_hear 123 rfl) (by decide) (by (have hc2 := hc.2.1; omega)) (fun c251 => ?_) (fun c251 => by exfalso; (have hc2 := hc.2.1; omega))
            refine aw_iconst (v := nI 0) (aw_d q_Mo_hear 126 rfl) (by decide) ?_
            exact aw_iret (aw_d q_Mo_hear 127 rfl) rfl (by rw [show hpJ T n = .ok 0 by simp only [hpJ, hrJ, tr, bd_bd, bd_ok, bd_er, if_true, if_false, ↓reduceIte, hx120s, show ((T b78).toInt = 116) = False from eq_false (by omega), show ∀ k : Nat → Except Nat Nat, bd (mu T (tx 88) b78) (fun a => bd (ml T n (tx 89) a) k) = bd (.ok b197) k from fun k => by rw [← bd_bd, hx229s], hq]]; exact ⟨rfl, _, _, _, _, _, rfl⟩)
      · refine aw_aload_n (aw_d q_Mo_hear 76 rfl) rfl rfl rfl ?_
        refine aw_aload_n (aw_d q_Mo_hear 77 rfl) rfl rfl rfl ?_
        refine aw_getf (v := .int (nI (b78))) (aw_d q_Mo_hear 78 rfl) fL_Mo_324_Mo rfl (gk rfl) ?_
        refine cVv (aw_d q_Mo_hear 79 rfl) (sp_mfailA) vL_Mo_334_Mo rfl rfl rfl rfl rfl rfl ⟨aw_le rfl, aw_le rfl⟩ ?_
        refine aw_iload_n (aw_d q_Mo_hear 80 rfl) rfl rfl ?_
        refine aw_ifN_eq (tgt := 178) (aw_d q_Mo_hear 81 rfl) (by decide) (by (have hc2 := hc.2.1; omega)) (fun c164 => ?_) (fun c164 => by exfalso; (have hc2 := hc.2.1; omega))
        refine aw_aload_n (aw_d q_Mo_hear 87 rfl) rfl rfl rfl ?_
        refine aw_ldc2 (aw_d q_Mo_hear 88 rfl) lL_Mo_318 ?_
        refine aw_iconst (v := nI 5) (aw_d q_Mo_hear 89 rfl) (by decide) ?_
        refine cVv (aw_d q_Mo_hear 90 rfl) (sp_mustI (show b78 ≤ 3000 by have := hc.2.1; omega) (by decide)) vL_Mo_340_Mo rfl rfl rfl rfl rfl rfl ⟨aw_le rfl, aw_le rfl⟩ ?_
        refine aw_iload_n (aw_d q_Mo_hear 91 rfl) rfl rfl ?_
        refine aw_ifN_ne (tgt := 203) (aw_d q_Mo_hear 92 rfl) (by decide) (by (have hc2 := hc.2.1; omega)) (fun c187 => by exfalso; (have hc2 := hc.2.1; omega)) (fun c187 => ?_)
        refine aw_aload_n (aw_d q_Mo_hear 93 rfl) rfl rfl rfl ?_
        refine aw_bipush (v := nI 125) (aw_d q_Mo_hear 94 rfl) (by decide) ?_
        refine cVv (aw_d q_Mo_hear 95 rfl) (sp_signI (show b78 ≤ 3000 by have := hc.2.1; omega)) vL_Mo_343_Mo rfl rfl rfl rfl rfl rfl ⟨aw_le rfl, aw_le rfl⟩ ?_
        refine aw_aload_n (aw_d q_Mo_hear 96 rfl) rfl rfl rfl ?_
        refine cVv (aw_d q_Mo_hear 97 rfl) (sp_blanksI (show b78 ≤ 3000 by have := hc.2.1; omega)) vL_Mo_337_Mo rfl rfl rfl rfl rfl rfl ⟨aw_le rfl, aw_le rfl⟩ ?_
        refine aw_goto (tgt := 229) (aw_d q_Mo_hear 98 rfl) (by decide) ?_
        refine aw_aload_n (aw_d q_Mo_hear 111 rfl) rfl rfl rfl ?_
        refine cVv (aw_d q_Mo_hear 112 rfl) (sp_endI (show b78 ≤ 3000 by have := hc.2.1; omega)) vL_Mo_401_Mo rfl rfl rfl rfl rfl rfl ⟨aw_le rfl, aw_le rfl⟩ ?_
        refine aw_aload_n (aw_d q_Mo_hear 113 rfl) rfl rfl rfl ?_
        refine cVr (aw_d q_Mo_hear 114 rfl) (sp_goesI (show b78 ≤ 3000 by have := hc.2.1; omega)) vL_Mo_327_Mo rfl rfl rfl rfl rfl rfl ⟨aw_le rfl, aw_le rfl⟩ ?_
        refine aw_ifN_ne (tgt := 245) (aw_d q_Mo_hear 115 rfl) (by decide) (by (have hc2 := hc.2.1; omega)) (fun c237 => by exfalso; (have hc2 := hc.2.1; omega)) (fun c237 => ?_)
        refine aw_aload_n (aw_d q_Mo_hear 116 rfl) rfl rfl rfl ?_
        refine cVr (aw_d q_Mo_hear 117 rfl) (sp_faulty) vL_Mo_482_Mo rfl rfl rfl rfl rfl rfl ⟨aw_le rfl, aw_le rfl⟩ ?_
        exact aw_iret (aw_d q_Mo_hear 118 rfl) rfl (by rw [show hpJ T n = .error b78 by simp only [hpJ, hrJ, tr, bd_bd, bd_ok, bd_er, if_true, if_false, ↓reduceIte, hx120s, show ((T b78).toInt = 116) = False from eq_false (by omega), mu88 (show ¬ (T b78).toInt = 102 by omega)]]; exact ⟨rfl, _, _, _, _, _, rfl⟩)
    · refine aw_iconst (v := nI 1) (aw_d q_Mo_hear 63 rfl) (by decide) ?_
      refine aw_goto (tgt := 134) (aw_d q_Mo_hear 64 rfl) (by decide) ?_
      refine aw_istore_n (aw_d q_Mo_hear 66 rfl) rfl (aw_le rfl) rfl ?_
      refine aw_aload_n (aw_d q_Mo_hear 67 rfl) rfl rfl rfl ?_
      refine cVr (aw_d q_Mo_hear 68 rfl) (sp_goesA) vL_Mo_327_Mo rfl rfl rfl rfl rfl rfl ⟨aw_le rfl, aw_le rfl⟩ ?_
      refine aw_ifN_eq (tgt := 163) (aw_d q_Mo_hear 69 rfl) (by decide) (by (have hc2 := hc.2.1; omega)) (fun c139 => by exfalso; (have hc2 := hc.2.1; omega)) (fun c139 => ?_)
      refine aw_iload_n (aw_d q_Mo_hear 70 rfl) rfl rfl ?_
      refine aw_ifN_ne (tgt := 163) (aw_d q_Mo_hear 71 rfl) (by decide) (by (have hc2 := hc.2.1; omega)) (fun c143 => ?_) (fun c143 => by exfalso; (have hc2 := hc.2.1; omega))
      refine aw_iload_n (aw_d q_Mo_hear 80 rfl) rfl rfl ?_
      refine aw_ifN_eq (tgt := 178) (aw_d q_Mo_hear 81 rfl) (by decide) (by (have hc2 := hc.2.1; omega)) (fun c164 => by exfalso; (have hc2 := hc.2.1; omega)) (fun c164 => ?_)
      refine aw_aload_n (aw_d q_Mo_hear 82 rfl) rfl rfl rfl ?_
      refine aw_ldc2 (aw_d q_Mo_hear 83 rfl) lL_Mo_316 ?_
      refine aw_iconst (v := nI 4) (aw_d q_Mo_hear 84 rfl) (by decide) ?_
      refine cV (aw_d q_Mo_hear 85 rfl) (sp_Lmust (res := .ok (b78, ())) (A := []) (x := 1953658213) (j := 4) (mB_TP hc) (by decide) (by decide) (RR_st (T := T) hp_120s)) vL_Mo_340_Mo rfl rfl rfl rfl rfl rfl ⟨aw_le rfl, aw_le rfl⟩ (fun r172 h172 hp172 => ?_)
      obtain ⟨rfl, b172, q172, hr172, rfl⟩ := hp172
      refine aw_goto (tgt := 186) (aw_d q_Mo_hear 86 rfl) (by decide) ?_
      refine aw_iload_n (aw_d q_Mo_hear 91 rfl) rfl rfl ?_
      refine aw_ifN_ne (tgt := 203) (aw_d q_Mo_hear 92 rfl) (by decide) (by (have hc2 := hc.2.1; omega)) (fun c187 => by exfalso; (have hc2 := hc.2.1; omega)) (fun c187 => ?_)
      refine aw_aload_n (aw_d q_Mo_hear 93 rfl) rfl rfl rfl ?_
      refine aw_bipush (v := nI 125) (aw_d q_Mo_hear 94 rfl) (by decide) ?_
      refine cV (aw_d q_Mo_hear 95 rfl) (sp_Lsign (res := .ok (b78, ())) (A := ([] ++ eB 1953658213 4)) (c := 125) (mB_TP hc) (by decide) hr172) vL_Mo_343_Mo rfl rfl rfl rfl rfl rfl ⟨aw_le rfl, aw_le rfl⟩ (fun r193 h193 hp193 => ?_)
      obtain ⟨rfl, b193, q193, hr193, rfl⟩ := hp193
      refine aw_aload_n (aw_d q_Mo_hear 96 rfl) rfl rfl rfl ?_
      refine cV (aw_d q_Mo_hear 97 rfl) (sp_Lblanks (res := .ok (b78, ())) (A := (([] ++ eB 1953658213 4) ++ [32, nI 125]))  (mB_TP hc)  hr193) vL_Mo_337_Mo rfl rfl rfl rfl rfl rfl ⟨aw_le rfl, aw_le rfl⟩ (fun r197 h197 hp197 => ?_)
      obtain ⟨rfl, b197, q197, hr197, rfl⟩ := hp197
      refine aw_goto (tgt := 229) (aw_d q_Mo_hear 98 rfl) (by decide) ?_
      rw [bp_ok, show ml T n ((([] ++ eB 1953658213 4) ++ [32, nI 125]) ++ [32]) b78 = bd (mu T (tx 87) b78) (ml T n (tx 89)) from (h2j (by decide) (by decide))] at hr197
      cases hx229s : bd (mu T (tx 87) b78) (ml T n (tx 89)) with
      | error u229s =>
        rw [hx229s] at hr197
        obtain ⟨hu229s, rfl, hb229s⟩ := hr197
        refine aw_aload_n (aw_d q_Mo_hear 111 rfl) rfl rfl rfl ?_
        refine cVv (aw_d q_Mo_hear 112 rfl) (sp_endI hu229s) vL_Mo_401_Mo rfl rfl rfl rfl rfl rfl ⟨aw_le rfl, aw_le rfl⟩ ?_
        refine aw_aload_n (aw_d q_Mo_hear 113 rfl) rfl rfl rfl ?_
        refine cVr (aw_d q_Mo_hear 114 rfl) (sp_goesI hu229s) vL_Mo_327_Mo rfl rfl rfl rfl rfl rfl ⟨aw_le rfl, aw_le rfl⟩ ?_
        refine aw_ifN_ne (tgt := 245) (aw_d q_Mo_hear 115 rfl) (by decide) (by (have hc2 := hc.2.1; omega)) (fun c237 => by exfalso; (have hc2 := hc.2.1; omega)) (fun c237 => ?_)
        refine aw_aload_n (aw_d q_Mo_hear 116 rfl) rfl rfl rfl ?_
        refine cVr (aw_d q_Mo_hear 117 rfl) (sp_faulty) vL_Mo_482_Mo rfl rfl rfl rfl rfl rfl ⟨aw_le rfl, aw_le rfl⟩ ?_
        exact aw_iret (aw_d q_Mo_hear 118 rfl) rfl (by rw [show hpJ T n = .error u229s by simp only [hpJ, hrJ, tr, bd_bd, bd_ok, bd_er, if_true, if_false, ↓reduceIte, hx120s, show ((T b78).toInt = 116) = True from eq_true (by omega), show ∀ k : Nat → Except Nat Nat, bd (mu T (tx 87) b78) (fun a => bd (ml T n (tx 89) a) k) = bd (.error u229s) k from fun k => by rw [← bd_bd, hx229s]]]; exact ⟨rfl, _, _, _, _, _, rfl⟩)
      | ok p229s =>
        rw [hx229s] at hr197
        obtain ⟨hbb229s, hp_229s, rfl⟩ := hr197
        have hbb229s : b197 = p229s := hbb229s
        subst hbb229s
        refine aw_aload_n (aw_d q_Mo_hear 111 rfl) rfl rfl rfl ?_
        refine cV (aw_d q_Mo_hear 112 rfl) (sp_mend (res := .ok (b197, ())) (mB_TP hc) (RR_ok rfl hp_229s rfl)) vL_Mo_401_Mo rfl rfl rfl rfl rfl rfl ⟨aw_le rfl, aw_le rfl⟩ (fun r230 h230 hp230 => ?_)
        obtain ⟨rfl, b230, q230, hr230, rfl⟩ := hp230
        rw [bp_ok] at hr230
        cases hq : me n b197 with
        | error u233s =>
          rw [hq] at hr230
          obtain ⟨hu233s, rfl, hb233s⟩ := hr230
          refine aw_aload_n (aw_d q_Mo_hear 113 rfl) rfl rfl rfl ?_
          refine cVr (aw_d q_Mo_hear 114 rfl) (sp_goesI hu233s) vL_Mo_327_Mo rfl rfl rfl rfl rfl rfl ⟨aw_le rfl, aw_le rfl⟩ ?_
          refine aw_ifN_ne (tgt := 245) (aw_d q_Mo_hear 115 rfl) (by decide) (by (have hc2 := hc.2.1; omega)) (fun c237 => by exfalso; (have hc2 := hc.2.1; omega)) (fun c237 => ?_)
          refine aw_aload_n (aw_d q_Mo_hear 116 rfl) rfl rfl rfl ?_
          refine cVr (aw_d q_Mo_hear 117 rfl) (sp_faulty) vL_Mo_482_Mo rfl rfl rfl rfl rfl rfl ⟨aw_le rfl, aw_le rfl⟩ ?_
          exact aw_iret (aw_d q_Mo_hear 118 rfl) rfl (by rw [show hpJ T n = .error u233s by simp only [hpJ, hrJ, tr, bd_bd, bd_ok, bd_er, if_true, if_false, ↓reduceIte, hx120s, show ((T b78).toInt = 116) = True from eq_true (by omega), show ∀ k : Nat → Except Nat Nat, bd (mu T (tx 87) b78) (fun a => bd (ml T n (tx 89) a) k) = bd (.ok b197) k from fun k => by rw [← bd_bd, hx229s], hq]]; exact ⟨rfl, _, _, _, _, _, rfl⟩)
        | ok w =>
          rw [hq] at hr230
          obtain ⟨h1, h2, rfl⟩ := hr230
          refine aw_aload_n (aw_d q_Mo_hear 113 rfl) rfl rfl rfl ?_
          refine cVr (aw_d q_Mo_hear 114 rfl) (sp_goesA) vL_Mo_327_Mo rfl rfl rfl rfl rfl rfl ⟨aw_le rfl, aw_le rfl⟩ ?_
          refine aw_ifN_ne (tgt := 245) (aw_d q_Mo_hear 115 rfl) (by decide) (by (have hc2 := hc.2.1; omega)) (fun c237 => ?_) (fun c237 => by exfalso; (have hc2 := hc.2.1; omega))
          refine aw_aload_n (aw_d q_Mo_hear 119 rfl) rfl rfl rfl ?_
          refine aw_iconst (v := nI 0) (aw_d q_Mo_hear 120 rfl) (by decide) ?_
          refine wi_33_0 (aw_d q_Mo_hear 121 rfl) pL_Mo_85_Mo ?_
          refine aw_iload_n (aw_d q_Mo_hear 122 rfl) rfl rfl ?_
          refine aw_ifN_eq (tgt := 258) (aw_d q_Mo_hear 123 rfl) (by decide) (by (have hc2 := hc.2.1; omega)) (fun c251 => by exfalso; (have hc2 := hc.2.1; omega)) (fun c251 => ?_)
          refine aw_iconst (v := nI 1) (aw_d q_Mo_hear 124 rfl) (by decide) ?_
          refine aw_goto (tgt := 259) (aw_d q_Mo_hear 125 rfl) (by decide) ?_
          exact aw_iret (aw_d q_Mo_hear 127 rfl) rfl (by rw [show hpJ T n = .ok 1 by simp only [hpJ, hrJ, tr, bd_bd, bd_ok, bd_er, if_true, if_false, ↓reduceIte, hx120s, show ((T b78).toInt = 116) = True from eq_true (by omega), show ∀ k : Nat → Except Nat Nat, bd (mu T (tx 87) b78) (fun a => bd (ml T n (tx 89) a) k) = bd (.ok b197) k from fun k => by rw [← bd_bd, hx229s], hq]]; exact ⟨rfl, _, _, _, _, _, rfl⟩)
def hpX (T : Nat → Int32) (n : Nat) : Except Nat Nat := hrX T n
set_option maxRecDepth 20000 in
theorem sp_Mo_hear_1 {g : aw_G} {S : aw_S} {n : Nat} {T : Nat → Int32} (hc : TPm S n T)  : Sp g M_Mo_hear 4 89 0 0 [.ref 33, .int (nI 1)] (HP S) (fun r h => (match hpX T n with
  | .ok v => r = some (.int (nI v))
  | .error u => r = some (.int (-10 - nI u))) ∧ ∃ (a q f z : Int32) (X : Nat → Int32), h = HP (nT (QM (mB S) a q f z X))) := by
  refine Sp.of rfl (aw_le rfl) ?_
  have hc2 := hc.2.1
  refine aw_iload_n (aw_d q_Mo_hear 0 rfl) rfl rfl ?_
  refine aw_iconst (v := nI 0) (aw_d q_Mo_hear 1 rfl) (by decide) ?_
  refine aw_iconst (v := nI 1) (aw_d q_Mo_hear 2 rfl) (by decide) ?_
  refine cSr (aw_d q_Mo_hear 3 rfl) (sp_Mo_in (x := nI 1) (A := 0) (B := 1) rfl rfl) sL_Mo_81 rfl rfl rfl rfl ⟨aw_le rfl, aw_le rfl⟩ ?_
  refine aw_ifB_ne (tgt := 16) (aw_d q_Mo_hear 4 rfl) (by decide) (fun c6 => ?_) (fun c6 => by exact absurd (by decide) c6)
  refine aw_aload_n (aw_d q_Mo_hear 10 rfl) rfl rfl rfl ?_
  refine cVv (aw_d q_Mo_hear 11 rfl) (sp_mbegin) vL_Mo_470_Mo rfl rfl rfl rfl rfl rfl ⟨aw_le rfl, aw_le rfl⟩ ?_
  refine aw_iload_n (aw_d q_Mo_hear 12 rfl) rfl rfl ?_
  refine aw_ifN_ne (tgt := 84) (aw_d q_Mo_hear 13 rfl) (by decide) (by (have hc2 := hc.2.1; omega)) (fun c21 => ?_) (fun c21 => by exfalso; (have hc2 := hc.2.1; omega))
  refine aw_aload_n (aw_d q_Mo_hear 43 rfl) rfl rfl rfl ?_
  refine aw_ldc2 (aw_d q_Mo_hear 44 rfl) lL_Mo_218 ?_
  refine aw_bipush (v := nI 8) (aw_d q_Mo_hear 45 rfl) (by decide) ?_
  refine cV (aw_d q_Mo_hear 46 rfl) (sp_Umust (res := .ok (0, ())) (A := []) (x := 4355948828431576126) (j := 8) (mB_TP hc) (by decide) (RR_su (T := T) (Nat.zero_le n))) vL_Mo_340_Mo rfl rfl rfl rfl rfl rfl ⟨aw_le rfl, aw_le rfl⟩ (fun r90 h90 hp90 => ?_)
  obtain ⟨rfl, b90, q90, hr90, rfl⟩ := hp90
  refine aw_aload_n (aw_d q_Mo_hear 47 rfl) rfl rfl rfl ?_
  refine aw_ldc2 (aw_d q_Mo_hear 48 rfl) lL_Mo_310 ?_
  refine aw_bipush (v := nI 8) (aw_d q_Mo_hear 49 rfl) (by decide) ?_
  refine cV (aw_d q_Mo_hear 50 rfl) (sp_Umust (res := .ok (0, ())) (A := ([] ++ eB 4355948828431576126 8)) (x := 4352840508821617711) (j := 8) (mB_TP hc) (by decide) hr90) vL_Mo_340_Mo rfl rfl rfl rfl rfl rfl ⟨aw_le rfl, aw_le rfl⟩ (fun r99 h99 hp99 => ?_)
  obtain ⟨rfl, b99, q99, hr99, rfl⟩ := hp99
  refine aw_aload_n (aw_d q_Mo_hear 51 rfl) rfl rfl rfl ?_
  refine aw_ldc2 (aw_d q_Mo_hear 52 rfl) lL_Mo_312 ?_
  refine aw_bipush (v := nI 8) (aw_d q_Mo_hear 53 rfl) (by decide) ?_
  refine cV (aw_d q_Mo_hear 54 rfl) (sp_Umust (res := .ok (0, ())) (A := (([] ++ eB 4355948828431576126 8) ++ eB 4352840508821617711 8)) (x := 7522525835761050223) (j := 8) (mB_TP hc) (by decide) hr99) vL_Mo_340_Mo rfl rfl rfl rfl rfl rfl ⟨aw_le rfl, aw_le rfl⟩ (fun r108 h108 hp108 => ?_)
  obtain ⟨rfl, b108, q108, hr108, rfl⟩ := hp108
  refine aw_aload_n (aw_d q_Mo_hear 55 rfl) rfl rfl rfl ?_
  refine aw_ldc2 (aw_d q_Mo_hear 56 rfl) lL_Mo_314 ?_
  refine aw_bipush (v := nI 6) (aw_d q_Mo_hear 57 rfl) (by decide) ?_
  refine cV (aw_d q_Mo_hear 58 rfl) (sp_Umust (res := .ok (0, ())) (A := ((([] ++ eB 4355948828431576126 8) ++ eB 4352840508821617711 8) ++ eB 7522525835761050223 8)) (x := 122511348035134) (j := 6) (mB_TP hc) (by decide) hr108) vL_Mo_340_Mo rfl rfl rfl rfl rfl rfl ⟨aw_le rfl, aw_le rfl⟩ (fun r117 h117 hp117 => ?_)
  obtain ⟨rfl, b117, q117, hr117, rfl⟩ := hp117
  rw [bp_ok, show mu T (((([] ++ eB 4355948828431576126 8) ++ eB 4352840508821617711 8) ++ eB 7522525835761050223 8) ++ eB 122511348035134 6) 0 = mu T (tx 58) 0 from (congrArg (fun L => mu T L _) (show _ = tx 58 by decide))] at hr117
  cases hx120s : mu T (tx 58) 0 with
  | error u120s =>
    rw [hx120s] at hr117
    obtain ⟨hu120s, rfl, hb120s⟩ := hr117
    refine aw_aload_n (aw_d q_Mo_hear 59 rfl) rfl rfl rfl ?_
    refine cVr (aw_d q_Mo_hear 60 rfl) (sp_peek (mB_TP hc) (b := b117) (by have := hc.2.1; omega)) vL_Mo_331_Mo rfl rfl rfl rfl rfl rfl ⟨aw_le rfl, aw_le rfl⟩ ?_
    refine aw_bipush (v := nI 116) (aw_d q_Mo_hear 61 rfl) (by decide) ?_
    refine aw_icmpI_ne (tgt := 133) (aw_d q_Mo_hear 62 rfl) (by decide) (by (have hc2 := hc.2.1; omega)) (fun c126 => ?_) (fun c126 => ?_)
    · refine aw_iconst (v := nI 0) (aw_d q_Mo_hear 65 rfl) (by decide) ?_
      refine aw_istore_n (aw_d q_Mo_hear 66 rfl) rfl (aw_le rfl) rfl ?_
      refine aw_aload_n (aw_d q_Mo_hear 67 rfl) rfl rfl rfl ?_
      refine cVr (aw_d q_Mo_hear 68 rfl) (sp_goesI hu120s) vL_Mo_327_Mo rfl rfl rfl rfl rfl rfl ⟨aw_le rfl, aw_le rfl⟩ ?_
      refine aw_ifN_eq (tgt := 163) (aw_d q_Mo_hear 69 rfl) (by decide) (by (have hc2 := hc.2.1; omega)) (fun c139 => ?_) (fun c139 => by exfalso; (have hc2 := hc.2.1; omega))
      refine aw_iload_n (aw_d q_Mo_hear 80 rfl) rfl rfl ?_
      refine aw_ifN_eq (tgt := 178) (aw_d q_Mo_hear 81 rfl) (by decide) (by (have hc2 := hc.2.1; omega)) (fun c164 => ?_) (fun c164 => by exfalso; (have hc2 := hc.2.1; omega))
      refine aw_aload_n (aw_d q_Mo_hear 87 rfl) rfl rfl rfl ?_
      refine aw_ldc2 (aw_d q_Mo_hear 88 rfl) lL_Mo_318 ?_
      refine aw_iconst (v := nI 5) (aw_d q_Mo_hear 89 rfl) (by decide) ?_
      refine cVv (aw_d q_Mo_hear 90 rfl) (sp_mustI hu120s (by decide)) vL_Mo_340_Mo rfl rfl rfl rfl rfl rfl ⟨aw_le rfl, aw_le rfl⟩ ?_
      refine aw_iload_n (aw_d q_Mo_hear 91 rfl) rfl rfl ?_
      refine aw_ifN_ne (tgt := 203) (aw_d q_Mo_hear 92 rfl) (by decide) (by (have hc2 := hc.2.1; omega)) (fun c187 => ?_) (fun c187 => by exfalso; (have hc2 := hc.2.1; omega))
      refine aw_aload_n (aw_d q_Mo_hear 99 rfl) rfl rfl rfl ?_
      refine aw_ldc2 (aw_d q_Mo_hear 100 rfl) lL_Mo_320 ?_
      refine aw_bipush (v := nI 8) (aw_d q_Mo_hear 101 rfl) (by decide) ?_
      refine cVv (aw_d q_Mo_hear 102 rfl) (sp_mustI hu120s (by decide)) vL_Mo_340_Mo rfl rfl rfl rfl rfl rfl ⟨aw_le rfl, aw_le rfl⟩ ?_
      refine aw_aload_n (aw_d q_Mo_hear 103 rfl) rfl rfl rfl ?_
      refine aw_ldc2 (aw_d q_Mo_hear 104 rfl) lL_Mo_322 ?_
      refine aw_bipush (v := nI 8) (aw_d q_Mo_hear 105 rfl) (by decide) ?_
      refine cVv (aw_d q_Mo_hear 106 rfl) (sp_mustI hu120s (by decide)) vL_Mo_340_Mo rfl rfl rfl rfl rfl rfl ⟨aw_le rfl, aw_le rfl⟩ ?_
      refine aw_aload_n (aw_d q_Mo_hear 107 rfl) rfl rfl rfl ?_
      refine aw_ldc2 (aw_d q_Mo_hear 108 rfl) lL_Mo_253 ?_
      refine aw_iconst (v := nI 3) (aw_d q_Mo_hear 109 rfl) (by decide) ?_
      refine cVv (aw_d q_Mo_hear 110 rfl) (sp_mustI hu120s (by decide)) vL_Mo_340_Mo rfl rfl rfl rfl rfl rfl ⟨aw_le rfl, aw_le rfl⟩ ?_
      refine aw_aload_n (aw_d q_Mo_hear 111 rfl) rfl rfl rfl ?_
      refine cVv (aw_d q_Mo_hear 112 rfl) (sp_endI hu120s) vL_Mo_401_Mo rfl rfl rfl rfl rfl rfl ⟨aw_le rfl, aw_le rfl⟩ ?_
      refine aw_aload_n (aw_d q_Mo_hear 113 rfl) rfl rfl rfl ?_
      refine cVr (aw_d q_Mo_hear 114 rfl) (sp_goesI hu120s) vL_Mo_327_Mo rfl rfl rfl rfl rfl rfl ⟨aw_le rfl, aw_le rfl⟩ ?_
      refine aw_ifN_ne (tgt := 245) (aw_d q_Mo_hear 115 rfl) (by decide) (by (have hc2 := hc.2.1; omega)) (fun c237 => by exfalso; (have hc2 := hc.2.1; omega)) (fun c237 => ?_)
      refine aw_aload_n (aw_d q_Mo_hear 116 rfl) rfl rfl rfl ?_
      refine cVr (aw_d q_Mo_hear 117 rfl) (sp_faulty) vL_Mo_482_Mo rfl rfl rfl rfl rfl rfl ⟨aw_le rfl, aw_le rfl⟩ ?_
      exact aw_iret (aw_d q_Mo_hear 118 rfl) rfl (by rw [show hpX T n = .error u120s by simp only [hpX, hrX, tr, bd_bd, bd_ok, bd_er, if_true, if_false, ↓reduceIte, hx120s]]; exact ⟨rfl, _, _, _, _, _, rfl⟩)
    · refine aw_iconst (v := nI 1) (aw_d q_Mo_hear 63 rfl) (by decide) ?_
      refine aw_goto (tgt := 134) (aw_d q_Mo_hear 64 rfl) (by decide) ?_
      refine aw_istore_n (aw_d q_Mo_hear 66 rfl) rfl (aw_le rfl) rfl ?_
      refine aw_aload_n (aw_d q_Mo_hear 67 rfl) rfl rfl rfl ?_
      refine cVr (aw_d q_Mo_hear 68 rfl) (sp_goesI hu120s) vL_Mo_327_Mo rfl rfl rfl rfl rfl rfl ⟨aw_le rfl, aw_le rfl⟩ ?_
      refine aw_ifN_eq (tgt := 163) (aw_d q_Mo_hear 69 rfl) (by decide) (by (have hc2 := hc.2.1; omega)) (fun c139 => ?_) (fun c139 => by exfalso; (have hc2 := hc.2.1; omega))
      refine aw_iload_n (aw_d q_Mo_hear 80 rfl) rfl rfl ?_
      refine aw_ifN_eq (tgt := 178) (aw_d q_Mo_hear 81 rfl) (by decide) (by (have hc2 := hc.2.1; omega)) (fun c164 => by exfalso; (have hc2 := hc.2.1; omega)) (fun c164 => ?_)
      refine aw_aload_n (aw_d q_Mo_hear 82 rfl) rfl rfl rfl ?_
      refine aw_ldc2 (aw_d q_Mo_hear 83 rfl) lL_Mo_316 ?_
      refine aw_iconst (v := nI 4) (aw_d q_Mo_hear 84 rfl) (by decide) ?_
      refine cVv (aw_d q_Mo_hear 85 rfl) (sp_mustI hu120s (by decide)) vL_Mo_340_Mo rfl rfl rfl rfl rfl rfl ⟨aw_le rfl, aw_le rfl⟩ ?_
      refine aw_goto (tgt := 186) (aw_d q_Mo_hear 86 rfl) (by decide) ?_
      refine aw_iload_n (aw_d q_Mo_hear 91 rfl) rfl rfl ?_
      refine aw_ifN_ne (tgt := 203) (aw_d q_Mo_hear 92 rfl) (by decide) (by (have hc2 := hc.2.1; omega)) (fun c187 => ?_) (fun c187 => by exfalso; (have hc2 := hc.2.1; omega))
      refine aw_aload_n (aw_d q_Mo_hear 99 rfl) rfl rfl rfl ?_
      refine aw_ldc2 (aw_d q_Mo_hear 100 rfl) lL_Mo_320 ?_
      refine aw_bipush (v := nI 8) (aw_d q_Mo_hear 101 rfl) (by decide) ?_
      refine cVv (aw_d q_Mo_hear 102 rfl) (sp_mustI hu120s (by decide)) vL_Mo_340_Mo rfl rfl rfl rfl rfl rfl ⟨aw_le rfl, aw_le rfl⟩ ?_
      refine aw_aload_n (aw_d q_Mo_hear 103 rfl) rfl rfl rfl ?_
      refine aw_ldc2 (aw_d q_Mo_hear 104 rfl) lL_Mo_322 ?_
      refine aw_bipush (v := nI 8) (aw_d q_Mo_hear 105 rfl) (by decide) ?_
      refine cVv (aw_d q_Mo_hear 106 rfl) (sp_mustI hu120s (by decide)) vL_Mo_340_Mo rfl rfl rfl rfl rfl rfl ⟨aw_le rfl, aw_le rfl⟩ ?_
      refine aw_aload_n (aw_d q_Mo_hear 107 rfl) rfl rfl rfl ?_
      refine aw_ldc2 (aw_d q_Mo_hear 108 rfl) lL_Mo_253 ?_
      refine aw_iconst (v := nI 3) (aw_d q_Mo_hear 109 rfl) (by decide) ?_
      refine cVv (aw_d q_Mo_hear 110 rfl) (sp_mustI hu120s (by decide)) vL_Mo_340_Mo rfl rfl rfl rfl rfl rfl ⟨aw_le rfl, aw_le rfl⟩ ?_
      refine aw_aload_n (aw_d q_Mo_hear 111 rfl) rfl rfl rfl ?_
      refine cVv (aw_d q_Mo_hear 112 rfl) (sp_endI hu120s) vL_Mo_401_Mo rfl rfl rfl rfl rfl rfl ⟨aw_le rfl, aw_le rfl⟩ ?_
      refine aw_aload_n (aw_d q_Mo_hear 113 rfl) rfl rfl rfl ?_
      refine cVr (aw_d q_Mo_hear 114 rfl) (sp_goesI hu120s) vL_Mo_327_Mo rfl rfl rfl rfl rfl rfl ⟨aw_le rfl, aw_le rfl⟩ ?_
      refine aw_ifN_ne (tgt := 245) (aw_d q_Mo_hear 115 rfl) (by decide) (by (have hc2 := hc.2.1; omega)) (fun c237 => by exfalso; (have hc2 := hc.2.1; omega)) (fun c237 => ?_)
      refine aw_aload_n (aw_d q_Mo_hear 116 rfl) rfl rfl rfl ?_
      refine cVr (aw_d q_Mo_hear 117 rfl) (sp_faulty) vL_Mo_482_Mo rfl rfl rfl rfl rfl rfl ⟨aw_le rfl, aw_le rfl⟩ ?_
      exact aw_iret (aw_d q_Mo_hear 118 rfl) rfl (by rw [show hpX T n = .error u120s by simp only [hpX, hrX, tr, bd_bd, bd_ok, bd_er, if_true, if_false, ↓reduceIte, hx120s]]; exact ⟨rfl, _, _, _, _, _, rfl⟩)
  | ok p120s =>
    rw [hx120s] at hr117
    obtain ⟨hbb120s, hp_120s, rfl⟩ := hr117
    have hbb120s : b117 = p120s := hbb120s
    subst hbb120s
    refine aw_aload_n (aw_d q_Mo_hear 59 rfl) rfl rfl rfl ?_
    refine cVr (aw_d q_Mo_hear 60 rfl) (sp_peek (mB_TP hc) (b := b117) (by have := hc.2.1; omega)) vL_Mo_331_Mo rfl rfl rfl rfl rfl rfl ⟨aw_le rfl, aw_le rfl⟩ ?_
    refine aw_bipush (v := nI 116) (aw_d q_Mo_hear 61 rfl) (by decide) ?_
    refine aw_icmpI_ne (tgt := 133) (aw_d q_Mo_hear 62 rfl) (by decide) (by (have hc2 := hc.2.1; omega)) (fun c126 => ?_) (fun c126 => ?_)
    · refine aw_iconst (v := nI 0) (aw_d q_Mo_hear 65 rfl) (by decide) ?_
      refine aw_istore_n (aw_d q_Mo_hear 66 rfl) rfl (aw_le rfl) rfl ?_
      refine aw_aload_n (aw_d q_Mo_hear 67 rfl) rfl rfl rfl ?_
      refine cVr (aw_d q_Mo_hear 68 rfl) (sp_goesA) vL_Mo_327_Mo rfl rfl rfl rfl rfl rfl ⟨aw_le rfl, aw_le rfl⟩ ?_
      refine aw_ifN_eq (tgt := 163) (aw_d q_Mo_hear 69 rfl) (by decide) (by (have hc2 := hc.2.1; omega)) (fun c139 => by exfalso; (have hc2 := hc.2.1; omega)) (fun c139 => ?_)
      refine aw_iload_n (aw_d q_Mo_hear 70 rfl) rfl rfl ?_
      refine aw_ifN_ne (tgt := 163) (aw_d q_Mo_hear 71 rfl) (by decide) (by (have hc2 := hc.2.1; omega)) (fun c143 => by exfalso; (have hc2 := hc.2.1; omega)) (fun c143 => ?_)
      refine aw_aload_n (aw_d q_Mo_hear 72 rfl) rfl rfl rfl ?_
      refine cVr (aw_d q_Mo_hear 73 rfl) (sp_peek (mB_TP hc) (b := b117) (by have := hc.2.1; omega)) vL_Mo_331_Mo rfl rfl rfl rfl rfl rfl ⟨aw_le rfl, aw_le rfl⟩ ?_
      refine aw_bipush (v := nI 102) (aw_d q_Mo_hear 74 rfl) (by decide) ?_
      refine aw_icmpI_eq (tgt := 163) (aw_d q_Mo_hear 75 rfl) (by decide) (by (have hc2 := hc.2.1; omega)) (fun c152 => ?_) (fun c152 => ?_)
      · refine aw_iload_n (aw_d q_Mo_hear 80 rfl) rfl rfl ?_
        refine aw_ifN_eq (tgt := 178) (aw_d q_Mo_hear 81 rfl) (by decide) (by (have hc2 := hc.2.1; omega)) (fun c164 => ?_) (fun c164 => by exfalso; (have hc2 := hc.2.1; omega))
        refine aw_aload_n (aw_d q_Mo_hear 87 rfl) rfl rfl rfl ?_
        refine aw_ldc2 (aw_d q_Mo_hear 88 rfl) lL_Mo_318 ?_
        refine aw_iconst (v := nI 5) (aw_d q_Mo_hear 89 rfl) (by decide) ?_
        refine cV (aw_d q_Mo_hear 90 rfl) (sp_Umust (res := .ok (b117, ())) (A := []) (x := 439721161573) (j := 5) (mB_TP hc) (by decide) (RR_su (T := T) hp_120s)) vL_Mo_340_Mo rfl rfl rfl rfl rfl rfl ⟨aw_le rfl, aw_le rfl⟩ (fun r183 h183 hp183 => ?_)
        obtain ⟨rfl, b183, q183, hr183, rfl⟩ := hp183
        refine aw_iload_n (aw_d q_Mo_hear 91 rfl) rfl rfl ?_
        refine aw_ifN_ne (tgt := 203) (aw_d q_Mo_hear 92 rfl) (by decide) (by (have hc2 := hc.2.1; omega)) (fun c187 => ?_) (fun c187 => by exfalso; (have hc2 := hc.2.1; omega))
        refine aw_aload_n (aw_d q_Mo_hear 99 rfl) rfl rfl rfl ?_
        refine aw_ldc2 (aw_d q_Mo_hear 100 rfl) lL_Mo_320 ?_
        refine aw_bipush (v := nI 8) (aw_d q_Mo_hear 101 rfl) (by decide) ?_
        refine cV (aw_d q_Mo_hear 102 rfl) (sp_Umust (res := .ok (b117, ())) (A := ([] ++ eB 439721161573 5)) (x := 4336793196931343713) (j := 8) (mB_TP hc) (by decide) hr183) vL_Mo_340_Mo rfl rfl rfl rfl rfl rfl ⟨aw_le rfl, aw_le rfl⟩ (fun r209 h209 hp209 => ?_)
        obtain ⟨rfl, b209, q209, hr209, rfl⟩ := hp209
        refine aw_aload_n (aw_d q_Mo_hear 103 rfl) rfl rfl rfl ?_
        refine aw_ldc2 (aw_d q_Mo_hear 104 rfl) lL_Mo_322 ?_
        refine aw_bipush (v := nI 8) (aw_d q_Mo_hear 105 rfl) (by decide) ?_
        refine cV (aw_d q_Mo_hear 106 rfl) (sp_Umust (res := .ok (b117, ())) (A := (([] ++ eB 439721161573 5) ++ eB 4336793196931343713 8)) (x := 7943852967226007922) (j := 8) (mB_TP hc) (by decide) hr209) vL_Mo_340_Mo rfl rfl rfl rfl rfl rfl ⟨aw_le rfl, aw_le rfl⟩ (fun r218 h218 hp218 => ?_)
        obtain ⟨rfl, b218, q218, hr218, rfl⟩ := hp218
        refine aw_aload_n (aw_d q_Mo_hear 107 rfl) rfl rfl rfl ?_
        refine aw_ldc2 (aw_d q_Mo_hear 108 rfl) lL_Mo_253 ?_
        refine aw_iconst (v := nI 3) (aw_d q_Mo_hear 109 rfl) (by decide) ?_
        refine cV (aw_d q_Mo_hear 110 rfl) (sp_Umust (res := .ok (b117, ())) (A := ((([] ++ eB 439721161573 5) ++ eB 4336793196931343713 8) ++ eB 7943852967226007922 8)) (x := 7433278) (j := 3) (mB_TP hc) (by decide) hr218) vL_Mo_340_Mo rfl rfl rfl rfl rfl rfl ⟨aw_le rfl, aw_le rfl⟩ (fun r226 h226 hp226 => ?_)
        obtain ⟨rfl, b226, q226, hr226, rfl⟩ := hp226
        rw [bp_ok, show mu T (((([] ++ eB 439721161573 5) ++ eB 4336793196931343713 8) ++ eB 7943852967226007922 8) ++ eB 7433278 3) b117 = bd (mu T (tx 88) b117) (mu T (tx 59)) from (mu_2 (by decide))] at hr226
        cases hx229s : bd (mu T (tx 88) b117) (mu T (tx 59)) with
        | error u229s =>
          rw [hx229s] at hr226
          obtain ⟨hu229s, rfl, hb229s⟩ := hr226
          refine aw_aload_n (aw_d q_Mo_hear 111 rfl) rfl rfl rfl ?_
          refine cVv (aw_d q_Mo_hear 112 rfl) (sp_endI hu229s) vL_Mo_401_Mo rfl rfl rfl rfl rfl rfl ⟨aw_le rfl, aw_le rfl⟩ ?_
          refine aw_aload_n (aw_d q_Mo_hear 113 rfl) rfl rfl rfl ?_
          refine cVr (aw_d q_Mo_hear 114 rfl) (sp_goesI hu229s) vL_Mo_327_Mo rfl rfl rfl rfl rfl rfl ⟨aw_le rfl, aw_le rfl⟩ ?_
          refine aw_ifN_ne (tgt := 245) (aw_d q_Mo_hear 115 rfl) (by decide) (by (have hc2 := hc.2.1; omega)) (fun c237 => by exfalso; (have hc2 := hc.2.1; omega)) (fun c237 => ?_)
          refine aw_aload_n (aw_d q_Mo_hear 116 rfl) rfl rfl rfl ?_
          refine cVr (aw_d q_Mo_hear 117 rfl) (sp_faulty) vL_Mo_482_Mo rfl rfl rfl rfl rfl rfl ⟨aw_le rfl, aw_le rfl⟩ ?_
          exact aw_iret (aw_d q_Mo_hear 118 rfl) rfl (by rw [show hpX T n = .error u229s by simp only [hpX, hrX, tr, bd_bd, bd_ok, bd_er, if_true, if_false, ↓reduceIte, hx120s, show ((T b117).toInt = 116) = False from eq_false (by omega), show ∀ k : Nat → Except Nat Nat, bd (mu T (tx 88) b117) (fun a => bd (mu T (tx 59) a) k) = bd (.error u229s) k from fun k => by rw [← bd_bd, hx229s]]]; exact ⟨rfl, _, _, _, _, _, rfl⟩)
        | ok p229s =>
          rw [hx229s] at hr226
          obtain ⟨hbb229s, hp_229s, rfl⟩ := hr226
          have hbb229s : b226 = p229s := hbb229s
          subst hbb229s
          refine aw_aload_n (aw_d q_Mo_hear 111 rfl) rfl rfl rfl ?_
          refine cV (aw_d q_Mo_hear 112 rfl) (sp_mend (res := .ok (b226, ())) (mB_TP hc) (RR_ok rfl hp_229s rfl)) vL_Mo_401_Mo rfl rfl rfl rfl rfl rfl ⟨aw_le rfl, aw_le rfl⟩ (fun r230 h230 hp230 => ?_)
          obtain ⟨rfl, b230, q230, hr230, rfl⟩ := hp230
          rw [bp_ok] at hr230
          cases hq : me n b226 with
          | error u233s =>
            rw [hq] at hr230
            obtain ⟨hu233s, rfl, hb233s⟩ := hr230
            refine aw_aload_n (aw_d q_Mo_hear 113 rfl) rfl rfl rfl ?_
            refine cVr (aw_d q_Mo_hear 114 rfl) (sp_goesI hu233s) vL_Mo_327_Mo rfl rfl rfl rfl rfl rfl ⟨aw_le rfl, aw_le rfl⟩ ?_
            refine aw_ifN_ne (tgt := 245) (aw_d q_Mo_hear 115 rfl) (by decide) (by (have hc2 := hc.2.1; omega)) (fun c237 => by exfalso; (have hc2 := hc.2.1; omega)) (fun c237 => ?_)
            refine aw_aload_n (aw_d q_Mo_hear 116 rfl) rfl rfl rfl ?_
            refine cVr (aw_d q_Mo_hear 117 rfl) (sp_faulty) vL_Mo_482_Mo rfl rfl rfl rfl rfl rfl ⟨aw_le rfl, aw_le rfl⟩ ?_
            exact aw_iret (aw_d q_Mo_hear 118 rfl) rfl (by rw [show hpX T n = .error u233s by simp only [hpX, hrX, tr, bd_bd, bd_ok, bd_er, if_true, if_false, ↓reduceIte, hx120s, show ((T b117).toInt = 116) = False from eq_false (by omega), show ∀ k : Nat → Except Nat Nat, bd (mu T (tx 88) b117) (fun a => bd (mu T (tx 59) a) k) = bd (.ok b226) k from fun k => by rw [← bd_bd, hx229s], hq]]; exact ⟨rfl, _, _, _, _, _, rfl⟩)
          | ok w =>
            rw [hq] at hr230
            obtain ⟨h1, h2, rfl⟩ := hr230
            refine aw_aload_n (aw_d q_Mo_hear 113 rfl) rfl rfl rfl ?_
            refine cVr (aw_d q_Mo_hear 114 rfl) (sp_goesA) vL_Mo_327_Mo rfl rfl rfl rfl rfl rfl ⟨aw_le rfl, aw_le rfl⟩ ?_
            refine aw_ifN_ne (tgt := 245) (aw_d q_Mo_hear 115 rfl) (by decide) (by (have hc2 := hc.2.1; omega)) (fun c237 => ?_) (fun c237 => by exfalso; (have hc2 := hc.2.1; omega))
            refine aw_aload_n (aw_d q_Mo_hear 119 rfl) rfl rfl rfl ?_
            refine aw_iconst (v := nI 0) (aw_d q_Mo_hear 120 rfl) (by decide) ?_
            refine wi_33_0 (aw_d q_Mo_hear 121 rfl) pL_Mo_85_Mo ?_
            refine aw_iload_n (aw_d q_Mo_hear 122 rfl) rfl rfl ?_
            refine aw_ifN_eq (tgt := 258) (aw_d q_Mo_hear 123 rfl) (by decide) (by (have hc2 := hc.2.1; omega)) (fun c251 => ?_) (fun c251 => by exfalso; (have hc2 := hc.2.1; omega))
            refine aw_iconst (v := nI 0) (aw_d q_Mo_hear 126 rfl) (by decide) ?_
            exact aw_iret (aw_d q_Mo_hear 127 rfl) rfl (by rw [show hpX T n = .ok 0 by simp only [hpX, hrX, tr, bd_bd, bd_ok, bd_er, if_true, if_false, ↓reduceIte, hx120s, show ((T b117).toInt = 116) = False from eq_false (by omega), show ∀ k : Nat → Except Nat Nat, bd (mu T (tx 88) b117) (fun a => bd (mu T (tx 59) a) k) = bd (.ok b226) k from fun k => by rw [← bd_bd, hx229s], hq]]; exact ⟨rfl, _, _, _, _, _, rfl⟩)
      · refine aw_aload_n (aw_d q_Mo_hear 76 rfl) rfl rfl rfl ?_
        refine aw_aload_n (aw_d q_Mo_hear 77 rfl) rfl rfl rfl ?_
        refine aw_getf (v := .int (nI (b117))) (aw_d q_Mo_hear 78 rfl) fL_Mo_324_Mo rfl (gk rfl) ?_
        refine cVv (aw_d q_Mo_hear 79 rfl) (sp_mfailA) vL_Mo_334_Mo rfl rfl rfl rfl rfl rfl ⟨aw_le rfl, aw_le rfl⟩ ?_
        refine aw_iload_n (aw_d q_Mo_hear 80 rfl) rfl rfl ?_
        refine aw_ifN_eq (tgt := 178) (aw_d q_Mo_hear 81 rfl) (by decide) (by (have hc2 := hc.2.1; omega)) (fun c164 => ?_) (fun c164 => by exfalso; (have hc2 := hc.2.1; omega))
        refine aw_aload_n (aw_d q_Mo_hear 87 rfl) rfl rfl rfl ?_
        refine aw_ldc2 (aw_d q_Mo_hear 88 rfl) lL_Mo_318 ?_
        refine aw_iconst (v := nI 5) (aw_d q_Mo_hear 89 rfl) (by decide) ?_
        refine cVv (aw_d q_Mo_hear 90 rfl) (sp_mustI (show b117 ≤ 3000 by have := hc.2.1; omega) (by decide)) vL_Mo_340_Mo rfl rfl rfl rfl rfl rfl ⟨aw_le rfl, aw_le rfl⟩ ?_
        refine aw_iload_n (aw_d q_Mo_hear 91 rfl) rfl rfl ?_
        refine aw_ifN_ne (tgt := 203) (aw_d q_Mo_hear 92 rfl) (by decide) (by (have hc2 := hc.2.1; omega)) (fun c187 => ?_) (fun c187 => by exfalso; (have hc2 := hc.2.1; omega))
        refine aw_aload_n (aw_d q_Mo_hear 99 rfl) rfl rfl rfl ?_
        refine aw_ldc2 (aw_d q_Mo_hear 100 rfl) lL_Mo_320 ?_
        refine aw_bipush (v := nI 8) (aw_d q_Mo_hear 101 rfl) (by decide) ?_
        refine cVv (aw_d q_Mo_hear 102 rfl) (sp_mustI (show b117 ≤ 3000 by have := hc.2.1; omega) (by decide)) vL_Mo_340_Mo rfl rfl rfl rfl rfl rfl ⟨aw_le rfl, aw_le rfl⟩ ?_
        refine aw_aload_n (aw_d q_Mo_hear 103 rfl) rfl rfl rfl ?_
        refine aw_ldc2 (aw_d q_Mo_hear 104 rfl) lL_Mo_322 ?_
        refine aw_bipush (v := nI 8) (aw_d q_Mo_hear 105 rfl) (by decide) ?_
        refine cVv (aw_d q_Mo_hear 106 rfl) (sp_mustI (show b117 ≤ 3000 by have := hc.2.1; omega) (by decide)) vL_Mo_340_Mo rfl rfl rfl rfl rfl rfl ⟨aw_le rfl, aw_le rfl⟩ ?_
        refine aw_aload_n (aw_d q_Mo_hear 107 rfl) rfl rfl rfl ?_
        refine aw_ldc2 (aw_d q_Mo_hear 108 rfl) lL_Mo_253 ?_
        refine aw_iconst (v := nI 3) (aw_d q_Mo_hear 109 rfl) (by decide) ?_
        refine cVv (aw_d q_Mo_hear 110 rfl) (sp_mustI (show b117 ≤ 3000 by have := hc.2.1; omega) (by decide)) vL_Mo_340_Mo rfl rfl rfl rfl rfl rfl ⟨aw_le rfl, aw_le rfl⟩ ?_
        refine aw_aload_n (aw_d q_Mo_hear 111 rfl) rfl rfl rfl ?_
        refine cVv (aw_d q_Mo_hear 112 rfl) (sp_endI (show b117 ≤ 3000 by have := hc.2.1; omega)) vL_Mo_401_Mo rfl rfl rfl rfl rfl rfl ⟨aw_le rfl, aw_le rfl⟩ ?_
        refine aw_aload_n (aw_d q_Mo_hear 113 rfl) rfl rfl rfl ?_
        refine cVr (aw_d q_Mo_hear 114 rfl) (sp_goesI (show b117 ≤ 3000 by have := hc.2.1; omega)) vL_Mo_327_Mo rfl rfl rfl rfl rfl rfl ⟨aw_le rfl, aw_le rfl⟩ ?_
        refine aw_ifN_ne (tgt := 245) (aw_d q_Mo_hear 115 rfl) (by decide) (by (have hc2 := hc.2.1; omega)) (fun c237 => by exfalso; (have hc2 := hc.2.1; omega)) (fun c237 => ?_)
        refine aw_aload_n (aw_d q_Mo_hear 116 rfl) rfl rfl rfl ?_
        refine cVr (aw_d q_Mo_hear 117 rfl) (sp_faulty) vL_Mo_482_Mo rfl rfl rfl rfl rfl rfl ⟨aw_le rfl, aw_le rfl⟩ ?_
        exact aw_iret (aw_d q_Mo_hear 118 rfl) rfl (by rw [show hpX T n = .error b117 by simp only [hpX, hrX, tr, bd_bd, bd_ok, bd_er, if_true, if_false, ↓reduceIte, hx120s, show ((T b117).toInt = 116) = False from eq_false (by omega), mu88 (show ¬ (T b117).toInt = 102 by omega)]]; exact ⟨rfl, _, _, _, _, _, rfl⟩)
    · refine aw_iconst (v := nI 1) (aw_d q_Mo_hear 63 rfl) (by decide) ?_
      refine aw_goto (tgt := 134) (aw_d q_Mo_hear 64 rfl) (by decide) ?_
      refine aw_istore_n (aw_d q_Mo_hear 66 rfl) rfl (aw_le rfl) rfl ?_
      refine aw_aload_n (aw_d q_Mo_hear 67 rfl) rfl rfl rfl ?_
      refine cVr (aw_d q_Mo_hear 68 rfl) (sp_goesA) vL_Mo_327_Mo rfl rfl rfl rfl rfl rfl ⟨aw_le rfl, aw_le rfl⟩ ?_
      refine aw_ifN_eq (tgt := 163) (aw_d q_Mo_hear 69 rfl) (by decide) (by (have hc2 := hc.2.1; omega)) (fun c139 => by exfalso; (have hc2 := hc.2.1; omega)) (fun c139 => ?_)
      refine aw_iload_n (aw_d q_Mo_hear 70 rfl) rfl rfl ?_
      refine aw_ifN_ne (tgt := 163) (aw_d q_Mo_hear 71 rfl) (by decide) (by (have hc2 := hc.2.1; omega)) (fun c143 => ?_) (fun c143 => by exfalso; (have hc2 := hc.2.1; omega))
      refine aw_iload_n (aw_d q_Mo_hear 80 rfl) rfl rfl ?_
      refine aw_ifN_eq (tgt := 178) (aw_d q_Mo_hear 81 rfl) (by decide) (by (have hc2 := hc.2.1; omega)) (fun c164 => by exfalso; (have hc2 := hc.2.1; omega)) (fun c164 => ?_)
      refine aw_aload_n (aw_d q_Mo_hear 82 rfl) rfl rfl rfl ?_
      refine aw_ldc2 (aw_d q_Mo_hear 83 rfl) lL_Mo_316 ?_
      refine aw_iconst (v := nI 4) (aw_d q_Mo_hear 84 rfl) (by decide) ?_
      refine cV (aw_d q_Mo_hear 85 rfl) (sp_Umust (res := .ok (b117, ())) (A := []) (x := 1953658213) (j := 4) (mB_TP hc) (by decide) (RR_su (T := T) hp_120s)) vL_Mo_340_Mo rfl rfl rfl rfl rfl rfl ⟨aw_le rfl, aw_le rfl⟩ (fun r172 h172 hp172 => ?_)
      obtain ⟨rfl, b172, q172, hr172, rfl⟩ := hp172
      refine aw_goto (tgt := 186) (aw_d q_Mo_hear 86 rfl) (by decide) ?_
      refine aw_iload_n (aw_d q_Mo_hear 91 rfl) rfl rfl ?_
      refine aw_ifN_ne (tgt := 203) (aw_d q_Mo_hear 92 rfl) (by decide) (by (have hc2 := hc.2.1; omega)) (fun c187 => ?_) (fun c187 => by exfalso; (have hc2 := hc.2.1; omega))
      refine aw_aload_n (aw_d q_Mo_hear 99 rfl) rfl rfl rfl ?_
      refine aw_ldc2 (aw_d q_Mo_hear 100 rfl) lL_Mo_320 ?_
      refine aw_bipush (v := nI 8) (aw_d q_Mo_hear 101 rfl) (by decide) ?_
      refine cV (aw_d q_Mo_hear 102 rfl) (sp_Umust (res := .ok (b117, ())) (A := ([] ++ eB 1953658213 4)) (x := 4336793196931343713) (j := 8) (mB_TP hc) (by decide) hr172) vL_Mo_340_Mo rfl rfl rfl rfl rfl rfl ⟨aw_le rfl, aw_le rfl⟩ (fun r209 h209 hp209 => ?_)
      obtain ⟨rfl, b209, q209, hr209, rfl⟩ := hp209
      refine aw_aload_n (aw_d q_Mo_hear 103 rfl) rfl rfl rfl ?_
      refine aw_ldc2 (aw_d q_Mo_hear 104 rfl) lL_Mo_322 ?_
      refine aw_bipush (v := nI 8) (aw_d q_Mo_hear 105 rfl) (by decide) ?_
      refine cV (aw_d q_Mo_hear 106 rfl) (sp_Umust (res := .ok (b117, ())) (A := (([] ++ eB 1953658213 4) ++ eB 4336793196931343713 8)) (x := 7943852967226007922) (j := 8) (mB_TP hc) (by decide) hr209) vL_Mo_340_Mo rfl rfl rfl rfl rfl rfl ⟨aw_le rfl, aw_le rfl⟩ (fun r218 h218 hp218 => ?_)
      obtain ⟨rfl, b218, q218, hr218, rfl⟩ := hp218
      refine aw_aload_n (aw_d q_Mo_hear 107 rfl) rfl rfl rfl ?_
      refine aw_ldc2 (aw_d q_Mo_hear 108 rfl) lL_Mo_253 ?_
      refine aw_iconst (v := nI 3) (aw_d q_Mo_hear 109 rfl) (by decide) ?_
      refine cV (aw_d q_Mo_hear 110 rfl) (sp_Umust (res := .ok (b117, ())) (A := ((([] ++ eB 1953658213 4) ++ eB 4336793196931343713 8) ++ eB 7943852967226007922 8)) (x := 7433278) (j := 3) (mB_TP hc) (by decide) hr218) vL_Mo_340_Mo rfl rfl rfl rfl rfl rfl ⟨aw_le rfl, aw_le rfl⟩ (fun r226 h226 hp226 => ?_)
      obtain ⟨rfl, b226, q226, hr226, rfl⟩ := hp226
      rw [bp_ok, show mu T (((([] ++ eB 1953658213 4) ++ eB 4336793196931343713 8) ++ eB 7943852967226007922 8) ++ eB 7433278 3) b117 = bd (mu T (tx 87) b117) (mu T (tx 59)) from (mu_2 (by decide))] at hr226
      cases hx229s : bd (mu T (tx 87) b117) (mu T (tx 59)) with
      | error u229s =>
        rw [hx229s] at hr226
        obtain ⟨hu229s, rfl, hb229s⟩ := hr226
        refine aw_aload_n (aw_d q_Mo_hear 111 rfl) rfl rfl rfl ?_
        refine cVv (aw_d q_Mo_hear 112 rfl) (sp_endI hu229s) vL_Mo_401_Mo rfl rfl rfl rfl rfl rfl ⟨aw_le rfl, aw_le rfl⟩ ?_
        refine aw_aload_n (aw_d q_Mo_hear 113 rfl) rfl rfl rfl ?_
        refine cVr (aw_d q_Mo_hear 114 rfl) (sp_goesI hu229s) vL_Mo_327_Mo rfl rfl rfl rfl rfl rfl ⟨aw_le rfl, aw_le rfl⟩ ?_
        refine aw_ifN_ne (tgt := 245) (aw_d q_Mo_hear 115 rfl) (by decide) (by (have hc2 := hc.2.1; omega)) (fun c237 => by exfalso; (have hc2 := hc.2.1; omega)) (fun c237 => ?_)
        refine aw_aload_n (aw_d q_Mo_hear 116 rfl) rfl rfl rfl ?_
        refine cVr (aw_d q_Mo_hear 117 rfl) (sp_faulty) vL_Mo_482_Mo rfl rfl rfl rfl rfl rfl ⟨aw_le rfl, aw_le rfl⟩ ?_
        exact aw_iret (aw_d q_Mo_hear 118 rfl) rfl (by rw [show hpX T n = .error u229s by simp only [hpX, hrX, tr, bd_bd, bd_ok, bd_er, if_true, if_false, ↓reduceIte, hx120s, show ((T b117).toInt = 116) = True from eq_true (by omega), show ∀ k : Nat → Except Nat Nat, bd (mu T (tx 87) b117) (fun a => bd (mu T (tx 59) a) k) = bd (.error u229s) k from fun k => by rw [← bd_bd, hx229s]]]; exact ⟨rfl, _, _, _, _, _, rfl⟩)
      | ok p229s =>
        rw [hx229s] at hr226
        obtain ⟨hbb229s, hp_229s, rfl⟩ := hr226
        have hbb229s : b226 = p229s := hbb229s
        subst hbb229s
        refine aw_aload_n (aw_d q_Mo_hear 111 rfl) rfl rfl rfl ?_
        refine cV (aw_d q_Mo_hear 112 rfl) (sp_mend (res := .ok (b226, ())) (mB_TP hc) (RR_ok rfl hp_229s rfl)) vL_Mo_401_Mo rfl rfl rfl rfl rfl rfl ⟨aw_le rfl, aw_le rfl⟩ (fun r230 h230 hp230 => ?_)
        obtain ⟨rfl, b230, q230, hr230, rfl⟩ := hp230
        rw [bp_ok] at hr230
        cases hq : me n b226 with
        | error u233s =>
          rw [hq] at hr230
          obtain ⟨hu233s, rfl, hb233s⟩ := hr230
          refine aw_aload_n (aw_d q_Mo_hear 113 rfl) rfl rfl rfl ?_
          refine cVr (aw_d q_Mo_hear 114 rfl) (sp_goesI hu233s) vL_Mo_327_Mo rfl rfl rfl rfl rfl rfl ⟨aw_le rfl, aw_le rfl⟩ ?_
          refine aw_ifN_ne (tgt := 245) (aw_d q_Mo_hear 115 rfl) (by decide) (by (have hc2 := hc.2.1; omega)) (fun c237 => by exfalso; (have hc2 := hc.2.1; omega)) (fun c237 => ?_)
          refine aw_aload_n (aw_d q_Mo_hear 116 rfl) rfl rfl rfl ?_
          refine cVr (aw_d q_Mo_hear 117 rfl) (sp_faulty) vL_Mo_482_Mo rfl rfl rfl rfl rfl rfl ⟨aw_le rfl, aw_le rfl⟩ ?_
          exact aw_iret (aw_d q_Mo_hear 118 rfl) rfl (by rw [show hpX T n = .error u233s by simp only [hpX, hrX, tr, bd_bd, bd_ok, bd_er, if_true, if_false, ↓reduceIte, hx120s, show ((T b117).toInt = 116) = True from eq_true (by omega), show ∀ k : Nat → Except Nat Nat, bd (mu T (tx 87) b117) (fun a => bd (mu T (tx 59) a) k) = bd (.ok b226) k from fun k => by rw [← bd_bd, hx229s], hq]]; exact ⟨rfl, _, _, _, _, _, rfl⟩)
        | ok w =>
          rw [hq] at hr230
          obtain ⟨h1, h2, rfl⟩ := hr230
          refine aw_aload_n (aw_d q_Mo_hear 113 rfl) rfl rfl rfl ?_
          refine cVr (aw_d q_Mo_hear 114 rfl) (sp_goesA) vL_Mo_327_Mo rfl rfl rfl rfl rfl rfl ⟨aw_le rfl, aw_le rfl⟩ ?_
          refine aw_ifN_ne (tgt := 245) (aw_d q_Mo_hear 115 rfl) (by decide) (by (have hc2 := hc.2.1; omega)) (fun c237 => ?_) (fun c237 => by exfalso; (have hc2 := hc.2.1; omega))
          refine aw_aload_n (aw_d q_Mo_hear 119 rfl) rfl rfl rfl ?_
          refine aw_iconst (v := nI 0) (aw_d q_Mo_hear 120 rfl) (by decide) ?_
          refine wi_33_0 (aw_d q_Mo_hear 121 rfl) pL_Mo_85_Mo ?_
          refine aw_iload_n (aw_d q_Mo_hear 122 rfl) rfl rfl ?_
          refine aw_ifN_eq (tgt := 258) (aw_d q_Mo_hear 123 rfl) (by decide) (by (have hc2 := hc.2.1; omega)) (fun c251 => by exfalso; (have hc2 := hc.2.1; omega)) (fun c251 => ?_)
          refine aw_iconst (v := nI 1) (aw_d q_Mo_hear 124 rfl) (by decide) ?_
          refine aw_goto (tgt := 259) (aw_d q_Mo_hear 125 rfl) (by decide) ?_
          exact aw_iret (aw_d q_Mo_hear 127 rfl) rfl (by rw [show hpX T n = .ok 1 by simp only [hpX, hrX, tr, bd_bd, bd_ok, bd_er, if_true, if_false, ↓reduceIte, hx120s, show ((T b117).toInt = 116) = True from eq_true (by omega), show ∀ k : Nat → Except Nat Nat, bd (mu T (tx 87) b117) (fun a => bd (mu T (tx 59) a) k) = bd (.ok b226) k from fun k => by rw [← bd_bd, hx229s], hq]]; exact ⟨rfl, _, _, _, _, _, rfl⟩)
