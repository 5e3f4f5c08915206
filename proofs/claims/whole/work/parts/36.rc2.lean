def txOK (n : Nat) (y : tx_T) : Prop := y.1 ≤ n ∧ y.2.length ≤ 20 ∧ y.2.all pTx = true
theorem un_ok {sl : Bool} {b c : Int32} (h : un sl b = some c) : pTx c = true := by
  simp only [un] at h
  by_cases h1 : b.toInt = 34 ∨ b.toInt = 92 ∨ (sl = true ∧ b.toInt = 47)
  · rw [if_pos h1] at h; cases h; exact decide_eq_true (by omega)
  · rw [if_neg h1] at h
    by_cases h2 : b.toInt = 116
    · rw [if_pos h2] at h; cases h; decide
    · rw [if_neg h2] at h
      by_cases h3 : b.toInt = 110
      · rw [if_pos h3] at h; cases h; decide
      · rw [if_neg h3] at h
        by_cases h4 : b.toInt = 114
        · rw [if_pos h4] at h; cases h; decide
        · rw [if_neg h4] at h; cases h
theorem un_lt {sl : Bool} {b c : Int32} (h : un sl b = some c) : 0 ≤ b.toInt := by
  simp only [un] at h
  by_cases h1 : b.toInt = 34 ∨ b.toInt = 92 ∨ (sl = true ∧ b.toInt = 47)
  · omega
  · rw [if_neg h1] at h
    by_cases h2 : b.toInt = 116
    · omega
    · rw [if_neg h2] at h
      by_cases h3 : b.toInt = 110
      · omega
      · rw [if_neg h3] at h
        by_cases h4 : b.toInt = 114
        · omega
        · rw [if_neg h4] at h; cases h
theorem pTx_0 {b : Int32} (h : pTx b = true) : 0 ≤ b.toInt := by simp only [pTx, decide_eq_true_eq] at h; omega
theorem uI_no {sl : Bool} {b : Int32} (h : (uI (un sl b)).toInt = (-1 : Int32).toInt) : un sl b = none := by
  cases hu : un sl b with
  | none => rfl
  | some c => rw [hu] at h; have := pTx_0 (un_ok hu); have h1 : c.toInt = -1 := h; omega
theorem uI_so {sl : Bool} {b : Int32} (h : (uI (un sl b)).toInt ≠ (-1 : Int32).toInt) : ∃ c, un sl b = some c := by
  cases hu : un sl b with
  | none => rw [hu] at h; exact absurd rfl h
  | some c => exact ⟨c, rfl⟩
theorem all_add {L : List Int32} {b : Int32} (h : L.all pTx = true) (hb : pTx b = true) : (L ++ [b]).all pTx = true := by simp [List.all_append, h, hb]
theorem len_add {L : List Int32} {b : Int32} : (L ++ [b]).length = L.length + 1 := by simp
theorem pTx_pr {b : Int32} (h : pPr b = true) : pTx b = true := by simp only [pPr, decide_eq_true_eq] at h; exact decide_eq_true (by omega)
theorem pTx_ba {b : Int32} (h : pBa b = true) : pTx b = true := by simp only [pBa, decide_eq_true_eq] at h; exact decide_eq_true (by omega)
theorem pTx_ld {b : Int32} (h : pLD b = true) : pTx b = true := by simp only [pLD, decide_eq_true_eq] at h; exact decide_eq_true (by omega)
theorem okL_XA {kd : Nat} {L : List Int32} {f : Nat → Int32} : okK kd (XA L f) L.length = okL kd L := okK_congr (fun i hi => if_pos hi)
theorem mt_le {T : Nat → Int32} {n : Nat} (h : ∀ i, n ≤ i → T i = -1) : ∀ {L : List Int32} {p : Nat}, p ≤ n → (∀ b ∈ L, 0 ≤ b.toInt) → mt T L p = true → p + L.length ≤ n := by
  intro L
  induction L with
  | nil => intro p hp _ _; exact hp
  | cons b L ih =>
    intro p hp hb hm
    simp only [mt, Bool.and_eq_true, decide_eq_true_eq] at hm
    have h1 : p < n := T_lt h (by rw [hm.1]; exact hb b List.mem_cons_self)
    have := ih (p := p + 1) (by omega) (fun c hc => hb c (List.mem_cons_of_mem _ hc)) hm.2
    simp only [List.length_cons]
    omega
theorem tx_pos : (List.range 90).all (fun j => (tx j).all (fun b => decide (0 ≤ b.toInt))) = true := by decide +kernel
theorem tx_p0 {j : Nat} (hj : j < aw_nS) : ∀ b ∈ tx j, 0 ≤ b.toInt := fun b hb => of_decide_eq_true (List.all_eq_true.mp (List.all_eq_true.mp tx_pos j (List.mem_range.mpr hj)) b hb)
theorem mt_tx {T : Nat → Int32} {n p j : Nat} (h : ∀ i, n ≤ i → T i = -1) (hp : p ≤ n) (hj : j < aw_nS) (hm : mt T (tx j) p = true) : p + aw_len.getD j 0 ≤ n := by
  have := mt_le h hp (tx_p0 hj) hm
  rw [tx_len hj] at this
  exact this
theorem cF_of {S : aw_S} {u : Nat} {h : aw_hp} {p w l k e z : Int32} {X : Nat → Int32} (hh : h = HP (QC S p (nI u) w l k e z X)) : CF S u h := ⟨p, w, l, k, e, z, X, hh⟩
set_option maxRecDepth 20000 in
theorem lp_bt {g : aw_G} {S : aw_S} {n : Nat} {T : Nat → Int32} {q w l k e : Int32} {f : Nat → Int32} (hc : TPc S n T) {a : Nat} {sl : Bool} : ∀ (m i p : Nat) (L : List Int32) (x3 x4 x5 : Option Value), m + i = 21 → p ≤ n → L.length ≤ 20 → L.all pTx = true → bt T sl 21 a [] = bt T sl m p L → AW g M_Sc_backslashedText (aw_rm 2 43 0 0) (aw_F g 0 0 (CE S (bt T sl 21 a []) (fun (y : tx_T) h => h = HP (QC S (nI y.1) q w l k e (nI y.2.length) (XA y.2 f)) ∧ txOK n y))) 2 [some (.ref 26), some (.int (if sl = true then nI 1 else nI 0)), some (.int (nI i)), x3, x4, x5] [] (HP (QC S (nI p) q w l k e (nI (L).length) (XA (L) f))) 0 0 := by
  intro m
  induction m with
  | zero =>
    intro i p L x3 x4 x5 hk hp h20 hal he
    refine aw_iload_n (aw_d q_Sc_backslashedText 2 rfl) rfl rfl ?_
    refine aw_bipush (v := nI 20) (aw_d q_Sc_backslashedText 3 rfl) (by decide) ?_
    refine aw_icmpN_gt (tgt := 124) (aw_d q_Sc_backslashedText 4 rfl) (by decide) (by (have hc2 := hc.2.1; omega)) (by (have hc2 := hc.2.1; omega)) (fun c5 => ?_) (fun c5 => by exfalso; (have hc2 := hc.2.1; omega))
    refine aw_aload_n (aw_d q_Sc_backslashedText 64 rfl) rfl rfl rfl ?_
    refine cVr (aw_d q_Sc_backslashedText 65 rfl) (sp_fail) vL_Sc_60_Sc rfl rfl rfl rfl rfl rfl ⟨aw_le rfl, aw_le rfl⟩ ?_
    exact aw_zret (aw_d q_Sc_backslashedText 66 rfl) rfl (rfl) (by rw [he]; exact CE_er CF_i)
  | succ m ih =>
    intro i p L x3 x4 x5 hk hp h20 hal he
    refine aw_iload_n (aw_d q_Sc_backslashedText 2 rfl) rfl rfl ?_
    refine aw_bipush (v := nI 20) (aw_d q_Sc_backslashedText 3 rfl) (by decide) ?_
    refine aw_icmpN_gt (tgt := 124) (aw_d q_Sc_backslashedText 4 rfl) (by decide) (by (have hc2 := hc.2.1; omega)) (by (have hc2 := hc.2.1; omega)) (fun c5 => by exfalso; (have hc2 := hc.2.1; omega)) (fun c5 => ?_)
    refine aw_aload_n (aw_d q_Sc_backslashedText 5 rfl) rfl rfl rfl ?_
    refine cVr (aw_d q_Sc_backslashedText 6 rfl) (sp_next hc hp) vL_Sc_67_Sc rfl rfl rfl rfl rfl rfl ⟨aw_le rfl, aw_le rfl⟩ ?_
    refine aw_istore_n (aw_d q_Sc_backslashedText 7 rfl) rfl (aw_le rfl) rfl ?_
    refine aw_iload_n (aw_d q_Sc_backslashedText 8 rfl) rfl rfl ?_
    refine aw_bipush (v := nI 34) (aw_d q_Sc_backslashedText 9 rfl) (by decide) ?_
    refine aw_icmpI_ne (tgt := 31) (aw_d q_Sc_backslashedText 10 rfl) (by decide) (by (have hc2 := hc.2.1; omega)) (fun c16 => ?_) (fun c16 => ?_)
    · refine aw_aload_n (aw_d q_Sc_backslashedText 19 rfl) rfl rfl rfl ?_
      refine aw_getf (aw_d q_Sc_backslashedText 20 rfl) fL_Sc_18_Sc rfl rfl ?_
      refine cVr (aw_d q_Sc_backslashedText 21 rfl) (sp_Tx_isFull_27 (n := L.length) rfl h20) vL_Sc_139_Tx rfl rfl rfl rfl rfl rfl ⟨aw_le rfl, aw_le rfl⟩ ?_
      refine aw_ifB_eq (tgt := 46) (aw_d q_Sc_backslashedText 22 rfl) (by decide) (fun c38 => ?_) (fun c38 => ?_)
      · refine aw_iload_n (aw_d q_Sc_backslashedText 26 rfl) rfl rfl ?_
        refine aw_bipush (v := nI 92) (aw_d q_Sc_backslashedText 27 rfl) (by decide) ?_
        refine aw_icmpI_ne (tgt := 56) (aw_d q_Sc_backslashedText 28 rfl) (by decide) (by (have hc2 := hc.2.1; omega)) (fun c49 => ?_) (fun c49 => ?_)
        · refine aw_iconst (v := nI 0) (aw_d q_Sc_backslashedText 31 rfl) (by decide) ?_
          refine aw_istore (aw_d q_Sc_backslashedText 32 rfl) (aw_le rfl) rfl ?_
          refine aw_iload (aw_d q_Sc_backslashedText 33 rfl) rfl ?_
          refine aw_ifN_eq (tgt := 76) (aw_d q_Sc_backslashedText 34 rfl) (by decide) (by (have hc2 := hc.2.1; omega)) (fun c61 => ?_) (fun c61 => by exfalso; (have hc2 := hc.2.1; omega))
          refine aw_iload_n (aw_d q_Sc_backslashedText 41 rfl) rfl rfl ?_
          refine aw_istore (aw_d q_Sc_backslashedText 42 rfl) (aw_le rfl) rfl ?_
          refine aw_iload (aw_d q_Sc_backslashedText 43 rfl) rfl ?_
          refine aw_ifN_ne (tgt := 91) (aw_d q_Sc_backslashedText 44 rfl) (by decide) (by (have hc2 := hc.2.1; omega)) (fun c81 => by exfalso; (have hc2 := hc.2.1; omega)) (fun c81 => ?_)
          refine aw_iload_n (aw_d q_Sc_backslashedText 45 rfl) rfl rfl ?_
          refine cSr (aw_d q_Sc_backslashedText 46 rfl) (sp_RF_isPrinted) sL_Sc_146 rfl rfl rfl rfl ⟨aw_le rfl, aw_le rfl⟩ ?_
          refine aw_ifB_eq (tgt := 97) (aw_d q_Sc_backslashedText 47 rfl) (by decide) (fun c88 => ?_) (fun c88 => ?_)
          · refine aw_aload_n (aw_d q_Sc_backslashedText 51 rfl) rfl rfl rfl ?_
            refine cVr (aw_d q_Sc_backslashedText 52 rfl) (sp_fail) vL_Sc_60_Sc rfl rfl rfl rfl rfl rfl ⟨aw_le rfl, aw_le rfl⟩ ?_
            exact aw_zret (aw_d q_Sc_backslashedText 53 rfl) rfl (rfl) (by have hz : bt T sl (m + 1) p L = .error p := (by first | (rw [bt, if_neg (by omega), if_neg (by omega), if_pos (by omega), hu]; done) | (rw [bt, if_neg (by omega), if_neg (by omega), if_neg (by omega), if_neg c88]; done)); rw [he, hz]; exact CE_er CF_i)
          · refine aw_iload (aw_d q_Sc_backslashedText 48 rfl) rfl ?_
            refine aw_iconst (v := (-1)) (aw_d q_Sc_backslashedText 49 rfl) (by decide) ?_
            refine aw_icmpZ_ne (tgt := 102) (aw_d q_Sc_backslashedText 50 rfl) (by decide) (fun c94 => ?_) (fun c94 => by have := pTx_0 (pTx_pr c88); have h1 : (T p).toInt = -1 := c94; omega)
            refine aw_aload_n (aw_d q_Sc_backslashedText 54 rfl) rfl rfl rfl ?_
            refine aw_iload (aw_d q_Sc_backslashedText 55 rfl) rfl ?_
            refine aw_iload (aw_d q_Sc_backslashedText 56 rfl) rfl ?_
            refine aw_ifN_eq (tgt := 114) (aw_d q_Sc_backslashedText 57 rfl) (by decide) (by (have hc2 := hc.2.1; omega)) (fun c107 => ?_) (fun c107 => by exfalso; (have hc2 := hc.2.1; omega))
            refine aw_iconst (v := nI 1) (aw_d q_Sc_backslashedText 60 rfl) (by decide) ?_
            refine cVv (aw_d q_Sc_backslashedText 61 rfl) (sp_take (by omega)) vL_Sc_149_Sc rfl rfl rfl rfl rfl rfl ⟨aw_le rfl, aw_le rfl⟩ ?_
            refine aw_iinc (aw_d q_Sc_backslashedText 62 rfl) rfl (ii1 _) (aw_le rfl) rfl ?_
            refine aw_goto (tgt := 2) (aw_d q_Sc_backslashedText 63 rfl) (by decide) ?_
            have hpn := T_lt hc.2.2.2.1 (p := p) (pTx_0 (pTx_pr c88))
            exact AW.to (ih (i + 1) (p + 1) (L ++ [T p]) _ _ _ (by omega) (by omega) (by rw [len_add]; omega) (all_add hal (pTx_pr c88)) (he.trans (by rw [bt, if_neg (by omega), if_neg (by omega), if_neg (by omega), if_pos c88]))) rfl rfl rfl rfl
        · refine aw_iconst (v := nI 1) (aw_d q_Sc_backslashedText 29 rfl) (by decide) ?_
          refine aw_goto (tgt := 57) (aw_d q_Sc_backslashedText 30 rfl) (by decide) ?_
          refine aw_istore (aw_d q_Sc_backslashedText 32 rfl) (aw_le rfl) rfl ?_
          refine aw_iload (aw_d q_Sc_backslashedText 33 rfl) rfl ?_
          refine aw_ifN_eq (tgt := 76) (aw_d q_Sc_backslashedText 34 rfl) (by decide) (by (have hc2 := hc.2.1; omega)) (fun c61 => by exfalso; (have hc2 := hc.2.1; omega)) (fun c61 => ?_)
          refine aw_aload_n (aw_d q_Sc_backslashedText 35 rfl) rfl rfl rfl ?_
          refine aw_iconst (v := nI 1) (aw_d q_Sc_backslashedText 36 rfl) (by decide) ?_
          refine cVr (aw_d q_Sc_backslashedText 37 rfl) (sp_ahead hc hp (d := 1) (by omega)) vL_Sc_75_Sc rfl rfl rfl rfl rfl rfl ⟨aw_le rfl, aw_le rfl⟩ ?_
          refine aw_iload_n (aw_d q_Sc_backslashedText 38 rfl) rfl rfl ?_
          refine cSr (aw_d q_Sc_backslashedText 39 rfl) (sp_unescaped) sL_Sc_142 rfl rfl rfl rfl ⟨aw_le rfl, aw_le rfl⟩ ?_
          refine aw_goto (tgt := 77) (aw_d q_Sc_backslashedText 40 rfl) (by decide) ?_
          refine aw_istore (aw_d q_Sc_backslashedText 42 rfl) (aw_le rfl) rfl ?_
          refine aw_iload (aw_d q_Sc_backslashedText 43 rfl) rfl ?_
          refine aw_ifN_ne (tgt := 91) (aw_d q_Sc_backslashedText 44 rfl) (by decide) (by (have hc2 := hc.2.1; omega)) (fun c81 => ?_) (fun c81 => by exfalso; (have hc2 := hc.2.1; omega))
          refine aw_iload (aw_d q_Sc_backslashedText 48 rfl) rfl ?_
          refine aw_iconst (v := (-1)) (aw_d q_Sc_backslashedText 49 rfl) (by decide) ?_
          refine aw_icmpZ_ne (tgt := 102) (aw_d q_Sc_backslashedText 50 rfl) (by decide) (fun c94 => ?_) (fun c94 => ?_)
          · obtain ⟨cc, hu⟩ := uI_so c94
            have hpn := T_lt hc.2.2.2.1 (p := p + 1) (un_lt hu)
            rw [hu]
            refine aw_aload_n (aw_d q_Sc_backslashedText 54 rfl) rfl rfl rfl ?_
            refine aw_iload (aw_d q_Sc_backslashedText 55 rfl) rfl ?_
            refine aw_iload (aw_d q_Sc_backslashedText 56 rfl) rfl ?_
            refine aw_ifN_eq (tgt := 114) (aw_d q_Sc_backslashedText 57 rfl) (by decide) (by (have hc2 := hc.2.1; omega)) (fun c107 => by exfalso; (have hc2 := hc.2.1; omega)) (fun c107 => ?_)
            refine aw_iconst (v := nI 2) (aw_d q_Sc_backslashedText 58 rfl) (by decide) ?_
            refine aw_goto (tgt := 115) (aw_d q_Sc_backslashedText 59 rfl) (by decide) ?_
            refine cVv (aw_d q_Sc_backslashedText 61 rfl) (sp_take (by omega)) vL_Sc_149_Sc rfl rfl rfl rfl rfl rfl ⟨aw_le rfl, aw_le rfl⟩ ?_
            refine aw_iinc (aw_d q_Sc_backslashedText 62 rfl) rfl (ii1 _) (aw_le rfl) rfl ?_
            refine aw_goto (tgt := 2) (aw_d q_Sc_backslashedText 63 rfl) (by decide) ?_
            exact AW.to (ih (i + 1) (p + 2) (L ++ [cc]) _ _ _ (by omega) (by omega) (by rw [len_add]; omega) (all_add hal (un_ok hu)) (he.trans (by rw [bt, if_neg (by omega), if_neg (by omega), if_pos (by omega), hu]))) rfl rfl rfl rfl
          · have hu := uI_no c94
            refine aw_aload_n (aw_d q_Sc_backslashedText 51 rfl) rfl rfl rfl ?_
            refine cVr (aw_d q_Sc_backslashedText 52 rfl) (sp_fail) vL_Sc_60_Sc rfl rfl rfl rfl rfl rfl ⟨aw_le rfl, aw_le rfl⟩ ?_
            exact aw_zret (aw_d q_Sc_backslashedText 53 rfl) rfl (rfl) (by have hz : bt T sl (m + 1) p L = .error p := (by first | (rw [bt, if_neg (by omega), if_neg (by omega), if_pos (by omega), hu]; done) | (rw [bt, if_neg (by omega), if_neg (by omega), if_neg (by omega), if_neg c88]; done)); rw [he, hz]; exact CE_er CF_i)
      · refine aw_aload_n (aw_d q_Sc_backslashedText 23 rfl) rfl rfl rfl ?_
        refine cVr (aw_d q_Sc_backslashedText 24 rfl) (sp_fail) vL_Sc_60_Sc rfl rfl rfl rfl rfl rfl ⟨aw_le rfl, aw_le rfl⟩ ?_
        exact aw_zret (aw_d q_Sc_backslashedText 25 rfl) rfl (rfl) (by rw [he, bt, if_neg (by omega), if_pos (by omega)]; exact CE_er CF_i)
    · refine aw_aload_n (aw_d q_Sc_backslashedText 11 rfl) rfl rfl rfl ?_
      refine aw_dup (aw_d q_Sc_backslashedText 12 rfl) rfl ?_
      refine aw_getf (v := .int (nI (p))) (aw_d q_Sc_backslashedText 13 rfl) fL_Sc_25_Sc rfl (gk rfl) ?_
      refine aw_iconst (v := nI 1) (aw_d q_Sc_backslashedText 14 rfl) (by decide) ?_
      refine aw_iaddN (aw_d q_Sc_backslashedText 15 rfl) ?_
      refine wi_26_1 (aw_d q_Sc_backslashedText 16 rfl) pL_Sc_25_Sc ?_
      refine aw_iconst (v := nI 1) (aw_d q_Sc_backslashedText 17 rfl) (by decide) ?_
      exact aw_zret (aw_d q_Sc_backslashedText 18 rfl) rfl (rfl) (by have hpn := T_lt hc.2.2.2.1 (p := p) (by omega); rw [he, bt, if_pos (by omega)]; exact CE_ok ⟨rfl, ⟨hpn, h20, hal⟩⟩)
set_option maxRecDepth 20000 in
theorem sp_bt {g : aw_G} {S : aw_S} {n : Nat} {T : Nat → Int32} {p : Nat} {q w l k e : Int32} {f : Nat → Int32} (hc : TPc S n T) (hp : p ≤ n) {sl : Bool} : Sp g M_Sc_backslashedText 2 43 0 0 [.ref 26, .int (if sl = true then nI 1 else nI 0)] (HP (QC S (nI p) q w l k e (nI 0) f)) (CE S (bt T sl 21 p []) (fun (y : tx_T) h => h = HP (QC S (nI y.1) q w l k e (nI y.2.length) (XA y.2 f)) ∧ txOK n y)) := by
  refine Sp.of rfl (aw_le rfl) ?_
  refine aw_iconst (v := nI 0) (aw_d q_Sc_backslashedText 0 rfl) (by decide) ?_
  refine aw_istore_n (aw_d q_Sc_backslashedText 1 rfl) rfl (aw_le rfl) rfl ?_
  exact AW.to (lp_bt hc 21 0 p [] _ _ _ (by omega) hp (by decide) rfl rfl) rfl rfl rfl (by rw [XA_nil]; rfl)
set_option maxRecDepth 20000 in
theorem sp_entity {g : aw_G} {S : aw_S} {n : Nat} {T : Nat → Int32} {p : Nat} {q w l k e : Int32} {f : Nat → Int32} {L : List Int32} (hc : TPc S n T) (hp : p ≤ n) (h20 : L.length < 20)  : Sp g M_Xm_tookEntity 5 107 0 0 [.ref 30] (HP (QC S (nI p) q w l k e (nI (L).length) (XA (L) f))) (fun r h => match en T p with
  | none => r = some (.int (nI 0)) ∧ h = HP (QC S (nI p) q w l k e (nI (L).length) (XA (L) f))
  | some c => r = some (.int (nI 1)) ∧ h = HP (QC S (nI (p + c.2)) q w l k e (nI (L ++ [c.1]).length) (XA (L ++ [c.1]) f)) ∧ p + c.2 ≤ n ∧ pTx c.1 = true) := by
  refine Sp.of rfl (aw_le rfl) ?_
  refine aw_aload_n (aw_d q_Xm_tookEntity 0 rfl) rfl rfl rfl ?_
  refine aw_getf (aw_d q_Xm_tookEntity 1 rfl) fL_Xm_9_Xm rfl rfl ?_
  refine aw_ldcS (aw_d q_Xm_tookEntity 2 rfl) tL_Xm_126 ?_
  refine cVr (aw_d q_Xm_tookEntity 3 rfl) (sp_tookAll hc hp (j := 37) (by decide)) vL_Xm_257_Sc rfl rfl rfl rfl rfl rfl ⟨aw_le rfl, aw_le rfl⟩ ?_
  refine aw_ifB_eq (tgt := 18) (aw_d q_Xm_tookEntity 4 rfl) (by decide) (fun c9 => ?_) (fun c9 => ?_)
  · rw [if_neg c9]
    refine aw_aload_n (aw_d q_Xm_tookEntity 8 rfl) rfl rfl rfl ?_
    refine aw_getf (aw_d q_Xm_tookEntity 9 rfl) fL_Xm_9_Xm rfl rfl ?_
    refine aw_ldcS (aw_d q_Xm_tookEntity 10 rfl) tL_Xm_128 ?_
    refine cVr (aw_d q_Xm_tookEntity 11 rfl) (sp_tookAll hc hp (j := 38) (by decide)) vL_Xm_257_Sc rfl rfl rfl rfl rfl rfl ⟨aw_le rfl, aw_le rfl⟩ ?_
    refine aw_ifB_eq (tgt := 36) (aw_d q_Xm_tookEntity 12 rfl) (by decide) (fun c27 => ?_) (fun c27 => ?_)
    · rw [if_neg c27]
      refine aw_aload_n (aw_d q_Xm_tookEntity 16 rfl) rfl rfl rfl ?_
      refine aw_getf (aw_d q_Xm_tookEntity 17 rfl) fL_Xm_9_Xm rfl rfl ?_
      refine aw_ldcS (aw_d q_Xm_tookEntity 18 rfl) tL_Xm_130 ?_
      refine cVr (aw_d q_Xm_tookEntity 19 rfl) (sp_tookAll hc hp (j := 39) (by decide)) vL_Xm_257_Sc rfl rfl rfl rfl rfl rfl ⟨aw_le rfl, aw_le rfl⟩ ?_
      refine aw_ifB_eq (tgt := 54) (aw_d q_Xm_tookEntity 20 rfl) (by decide) (fun c45 => ?_) (fun c45 => ?_)
      · rw [if_neg c45]
        refine aw_aload_n (aw_d q_Xm_tookEntity 24 rfl) rfl rfl rfl ?_
        refine aw_getf (aw_d q_Xm_tookEntity 25 rfl) fL_Xm_9_Xm rfl rfl ?_
        refine aw_ldcS (aw_d q_Xm_tookEntity 26 rfl) tL_Xm_132 ?_
        refine cVr (aw_d q_Xm_tookEntity 27 rfl) (sp_tookAll hc hp (j := 40) (by decide)) vL_Xm_257_Sc rfl rfl rfl rfl rfl rfl ⟨aw_le rfl, aw_le rfl⟩ ?_
        refine aw_ifB_eq (tgt := 72) (aw_d q_Xm_tookEntity 28 rfl) (by decide) (fun c63 => ?_) (fun c63 => ?_)
        · rw [if_neg c63]
          refine aw_aload_n (aw_d q_Xm_tookEntity 32 rfl) rfl rfl rfl ?_
          refine aw_getf (aw_d q_Xm_tookEntity 33 rfl) fL_Xm_9_Xm rfl rfl ?_
          refine aw_ldcSw (aw_d q_Xm_tookEntity 34 rfl) tL_Xm_260 ?_
          refine cVr (aw_d q_Xm_tookEntity 35 rfl) (sp_tookAll hc hp (j := 83) (by decide)) vL_Xm_257_Sc rfl rfl rfl rfl rfl rfl ⟨aw_le rfl, aw_le rfl⟩ ?_
          refine aw_ifB_eq (tgt := 91) (aw_d q_Xm_tookEntity 36 rfl) (by decide) (fun c82 => ?_) (fun c82 => ?_)
          · rw [if_neg c82]
            refine aw_iconst (v := nI 0) (aw_d q_Xm_tookEntity 40 rfl) (by decide) ?_
            exact aw_zret (aw_d q_Xm_tookEntity 41 rfl) rfl (rfl) (by rw [show en T p = none from by rw [en, if_neg c9, if_neg (by omega), if_neg c45, if_neg c63, if_neg c82]]; exact ⟨rfl, rfl⟩)
          · rw [if_pos c82]
            have hpn := mt_tx hc.2.2.2.1 hp (j := 83) (by decide) c82
            have hen : en T p = some (nI 34, 6) := by rw [en, if_neg c9, if_neg c27, if_neg c45, if_neg c63, if_pos c82]
            refine aw_bipush (v := nI 34) (aw_d q_Xm_tookEntity 37 rfl) (by decide) ?_
            refine aw_istore_n (aw_d q_Xm_tookEntity 38 rfl) rfl (aw_le rfl) rfl ?_
            refine aw_goto (tgt := 93) (aw_d q_Xm_tookEntity 39 rfl) (by decide) ?_
            refine aw_aload_n (aw_d q_Xm_tookEntity 42 rfl) rfl rfl rfl ?_
            refine aw_getf (aw_d q_Xm_tookEntity 43 rfl) fL_Xm_9_Xm rfl rfl ?_
            refine aw_getf (aw_d q_Xm_tookEntity 44 rfl) fL_Xm_197_Sc rfl rfl ?_
            refine aw_iload_n (aw_d q_Xm_tookEntity 45 rfl) rfl rfl ?_
            refine cVv (aw_d q_Xm_tookEntity 46 rfl) (sp_Tx_add_27 (n := L.length) rfl h20) vL_Xm_262_Tx rfl rfl rfl rfl rfl rfl ⟨aw_le rfl, aw_le rfl⟩ ?_
            refine aw_iconst (v := nI 1) (aw_d q_Xm_tookEntity 47 rfl) (by decide) ?_
            exact aw_zret (aw_d q_Xm_tookEntity 48 rfl) rfl (rfl) (by rw [hen]; exact ⟨rfl, by rw [← XA_add, List.length_append]; rfl, hpn, by decide⟩)
        · rw [if_pos c63]
          have hpn := mt_tx hc.2.2.2.1 hp (j := 40) (by decide) c63
          have hen : en T p = some (nI 13, 5) := by rw [en, if_neg c9, if_neg c27, if_neg c45, if_pos c63]
          refine aw_bipush (v := nI 13) (aw_d q_Xm_tookEntity 29 rfl) (by decide) ?_
          refine aw_istore_n (aw_d q_Xm_tookEntity 30 rfl) rfl (aw_le rfl) rfl ?_
          refine aw_goto (tgt := 93) (aw_d q_Xm_tookEntity 31 rfl) (by decide) ?_
          refine aw_aload_n (aw_d q_Xm_tookEntity 42 rfl) rfl rfl rfl ?_
          refine aw_getf (aw_d q_Xm_tookEntity 43 rfl) fL_Xm_9_Xm rfl rfl ?_
          refine aw_getf (aw_d q_Xm_tookEntity 44 rfl) fL_Xm_197_Sc rfl rfl ?_
          refine aw_iload_n (aw_d q_Xm_tookEntity 45 rfl) rfl rfl ?_
          refine cVv (aw_d q_Xm_tookEntity 46 rfl) (sp_Tx_add_27 (n := L.length) rfl h20) vL_Xm_262_Tx rfl rfl rfl rfl rfl rfl ⟨aw_le rfl, aw_le rfl⟩ ?_
          refine aw_iconst (v := nI 1) (aw_d q_Xm_tookEntity 47 rfl) (by decide) ?_
          exact aw_zret (aw_d q_Xm_tookEntity 48 rfl) rfl (rfl) (by rw [hen]; exact ⟨rfl, by rw [← XA_add, List.length_append]; rfl, hpn, by decide⟩)
      · rw [if_pos c45]
        have hpn := mt_tx hc.2.2.2.1 hp (j := 39) (by decide) c45
        have hen : en T p = some (nI 62, 4) := by rw [en, if_neg c9, if_neg c27, if_pos c45]
        refine aw_bipush (v := nI 62) (aw_d q_Xm_tookEntity 21 rfl) (by decide) ?_
        refine aw_istore_n (aw_d q_Xm_tookEntity 22 rfl) rfl (aw_le rfl) rfl ?_
        refine aw_goto (tgt := 93) (aw_d q_Xm_tookEntity 23 rfl) (by decide) ?_
        refine aw_aload_n (aw_d q_Xm_tookEntity 42 rfl) rfl rfl rfl ?_
        refine aw_getf (aw_d q_Xm_tookEntity 43 rfl) fL_Xm_9_Xm rfl rfl ?_
        refine aw_getf (aw_d q_Xm_tookEntity 44 rfl) fL_Xm_197_Sc rfl rfl ?_
        refine aw_iload_n (aw_d q_Xm_tookEntity 45 rfl) rfl rfl ?_
        refine cVv (aw_d q_Xm_tookEntity 46 rfl) (sp_Tx_add_27 (n := L.length) rfl h20) vL_Xm_262_Tx rfl rfl rfl rfl rfl rfl ⟨aw_le rfl, aw_le rfl⟩ ?_
        refine aw_iconst (v := nI 1) (aw_d q_Xm_tookEntity 47 rfl) (by decide) ?_
        exact aw_zret (aw_d q_Xm_tookEntity 48 rfl) rfl (rfl) (by rw [hen]; exact ⟨rfl, by rw [← XA_add, List.length_append]; rfl, hpn, by decide⟩)
    · rw [if_pos c27]
      have hpn := mt_tx hc.2.2.2.1 hp (j := 38) (by decide) c27
      have hen : en T p = some (nI 60, 4) := by rw [en, if_neg c9, if_pos c27]
      refine aw_bipush (v := nI 60) (aw_d q_Xm_tookEntity 13 rfl) (by decide) ?_
      refine aw_istore_n (aw_d q_Xm_tookEntity 14 rfl) rfl (aw_le rfl) rfl ?_
      refine aw_goto (tgt := 93) (aw_d q_Xm_tookEntity 15 rfl) (by decide) ?_
      refine aw_aload_n (aw_d q_Xm_tookEntity 42 rfl) rfl rfl rfl ?_
      refine aw_getf (aw_d q_Xm_tookEntity 43 rfl) fL_Xm_9_Xm rfl rfl ?_
      refine aw_getf (aw_d q_Xm_tookEntity 44 rfl) fL_Xm_197_Sc rfl rfl ?_
      refine aw_iload_n (aw_d q_Xm_tookEntity 45 rfl) rfl rfl ?_
      refine cVv (aw_d q_Xm_tookEntity 46 rfl) (sp_Tx_add_27 (n := L.length) rfl h20) vL_Xm_262_Tx rfl rfl rfl rfl rfl rfl ⟨aw_le rfl, aw_le rfl⟩ ?_
      refine aw_iconst (v := nI 1) (aw_d q_Xm_tookEntity 47 rfl) (by decide) ?_
      exact aw_zret (aw_d q_Xm_tookEntity 48 rfl) rfl (rfl) (by rw [hen]; exact ⟨rfl, by rw [← XA_add, List.length_append]; rfl, hpn, by decide⟩)
  · rw [if_pos c9]
    have hpn := mt_tx hc.2.2.2.1 hp (j := 37) (by decide) c9
    have hen : en T p = some (nI 38, 5) := by rw [en, if_pos c9]
    refine aw_bipush (v := nI 38) (aw_d q_Xm_tookEntity 5 rfl) (by decide) ?_
    refine aw_istore_n (aw_d q_Xm_tookEntity 6 rfl) rfl (aw_le rfl) rfl ?_
    refine aw_goto (tgt := 93) (aw_d q_Xm_tookEntity 7 rfl) (by decide) ?_
    refine aw_aload_n (aw_d q_Xm_tookEntity 42 rfl) rfl rfl rfl ?_
    refine aw_getf (aw_d q_Xm_tookEntity 43 rfl) fL_Xm_9_Xm rfl rfl ?_
    refine aw_getf (aw_d q_Xm_tookEntity 44 rfl) fL_Xm_197_Sc rfl rfl ?_
    refine aw_iload_n (aw_d q_Xm_tookEntity 45 rfl) rfl rfl ?_
    refine cVv (aw_d q_Xm_tookEntity 46 rfl) (sp_Tx_add_27 (n := L.length) rfl h20) vL_Xm_262_Tx rfl rfl rfl rfl rfl rfl ⟨aw_le rfl, aw_le rfl⟩ ?_
    refine aw_iconst (v := nI 1) (aw_d q_Xm_tookEntity 47 rfl) (by decide) ?_
    exact aw_zret (aw_d q_Xm_tookEntity 48 rfl) rfl (rfl) (by rw [hen]; exact ⟨rfl, by rw [← XA_add, List.length_append]; rfl, hpn, by decide⟩)
theorem sp_isOfL {g : aw_G} {S : aw_S} {p q w l k e : Int32} {f : Nat → Int32} {L : List Int32} {kd : Nat} (h20 : L.length ≤ 20) (hkd : kd ≤ 4) : Sp g M_Tx_isOf 5 111 0 0 [.ref 27, .int (nI kd)] (HP (QC S p q w l k e (nI (L).length) (XA (L) f))) (fun r h => r = some (.int (if okL kd L = true then nI 1 else nI 0)) ∧ h = HP (QC S p q w l k e (nI (L).length) (XA (L) f))) := by
  have q1 := sp_Tx_isOf_27 (g := g) (S := QC S p q w l k e (nI (L).length) (XA (L) f)) (n := L.length) (kd := kd) rfl h20 hkd
  rw [show okK kd ((QC S p q w l k e (nI (L).length) (XA (L) f)).2 28) L.length = okL kd L from okL_XA] at q1
  exact q1
set_option maxRecDepth 20000 in
theorem lp_xt {g : aw_G} {S : aw_S} {n : Nat} {T : Nat → Int32} {q w l e : Int32} {f : Nat → Int32} (hc : TPc S n T) {a : Nat} {kd : Nat} (hkd : kd ≤ 4) : ∀ (m i p : Nat) (L : List Int32) (x3 : Option Value), m + i = 21 → p ≤ n → L.length ≤ 20 → L.all pTx = true → xt T 21 a [] = xt T m p L → AW g M_Xm_parseText (aw_rm 6 134 0 0) (aw_F g 0 0 (CE S (okT kd a (xt T 21 a [])) (fun (y : tx_T) h => h = HP (QC S (nI y.1) q w l (nI kd) e (nI y.2.length) (XA y.2 f)) ∧ txOK n y ∧ okL kd y.2 = true))) 10 [some (.ref 30), some (.int (nI a)), some (.int (nI i)), x3] [] (HP (QC S (nI p) q w l (nI kd) e (nI (L).length) (XA (L) f))) 0 0 := by
  intro m
  induction m with
  | zero =>
    intro i p L x3 hk hp h20 hal he
    refine aw_iload_n (aw_d q_Xm_parseText 6 rfl) rfl rfl ?_
    refine aw_bipush (v := nI 20) (aw_d q_Xm_parseText 7 rfl) (by decide) ?_
    refine aw_icmpN_gt (tgt := 151) (aw_d q_Xm_parseText 8 rfl) (by decide) (by (have hc2 := hc.2.1; omega)) (by (have hc2 := hc.2.1; omega)) (fun c13 => ?_) (fun c13 => by exfalso; (have hc2 := hc.2.1; omega))
    refine aw_aload_n (aw_d q_Xm_parseText 72 rfl) rfl rfl rfl ?_
    refine aw_getf (aw_d q_Xm_parseText 73 rfl) fL_Xm_9_Xm rfl rfl ?_
    refine cVr (aw_d q_Xm_parseText 74 rfl) (sp_fail) vL_Xm_167_Sc rfl rfl rfl rfl rfl rfl ⟨aw_le rfl, aw_le rfl⟩ ?_
    exact aw_zret (aw_d q_Xm_parseText 75 rfl) rfl (rfl) (by rw [he]; exact CE_er CF_i)
  | succ m ih =>
    intro i p L x3 hk hp h20 hal he
    refine aw_iload_n (aw_d q_Xm_parseText 6 rfl) rfl rfl ?_
    refine aw_bipush (v := nI 20) (aw_d q_Xm_parseText 7 rfl) (by decide) ?_
    refine aw_icmpN_gt (tgt := 151) (aw_d q_Xm_parseText 8 rfl) (by decide) (by (have hc2 := hc.2.1; omega)) (by (have hc2 := hc.2.1; omega)) (fun c13 => by exfalso; (have hc2 := hc.2.1; omega)) (fun c13 => ?_)
    refine aw_aload_n (aw_d q_Xm_parseText 9 rfl) rfl rfl rfl ?_
    refine aw_getf (aw_d q_Xm_parseText 10 rfl) fL_Xm_9_Xm rfl rfl ?_
    refine cVr (aw_d q_Xm_parseText 11 rfl) (sp_next hc hp) vL_Xm_155_Sc rfl rfl rfl rfl rfl rfl ⟨aw_le rfl, aw_le rfl⟩ ?_
    refine aw_istore_n (aw_d q_Xm_parseText 12 rfl) rfl (aw_le rfl) rfl ?_
    refine aw_iload_n (aw_d q_Xm_parseText 13 rfl) rfl rfl ?_
    refine aw_bipush (v := nI 60) (aw_d q_Xm_parseText 14 rfl) (by decide) ?_
    refine aw_icmpI_ne (tgt := 67) (aw_d q_Xm_parseText 15 rfl) (by decide) (by (have hc2 := hc.2.1; omega)) (fun c27 => ?_) (fun c27 => ?_)
    · refine aw_aload_n (aw_d q_Xm_parseText 33 rfl) rfl rfl rfl ?_
      refine aw_getf (aw_d q_Xm_parseText 34 rfl) fL_Xm_9_Xm rfl rfl ?_
      refine aw_getf (aw_d q_Xm_parseText 35 rfl) fL_Xm_197_Sc rfl rfl ?_
      refine cVr (aw_d q_Xm_parseText 36 rfl) (sp_Tx_isFull_27 (n := L.length) rfl h20) vL_Xm_244_Tx rfl rfl rfl rfl rfl rfl ⟨aw_le rfl, aw_le rfl⟩ ?_
      refine aw_ifB_eq (tgt := 88) (aw_d q_Xm_parseText 37 rfl) (by decide) (fun c77 => ?_) (fun c77 => ?_)
      · refine aw_iload_n (aw_d q_Xm_parseText 42 rfl) rfl rfl ?_
        refine aw_bipush (v := nI 38) (aw_d q_Xm_parseText 43 rfl) (by decide) ?_
        refine aw_icmpI_ne (tgt := 109) (aw_d q_Xm_parseText 44 rfl) (by decide) (by (have hc2 := hc.2.1; omega)) (fun c91 => ?_) (fun c91 => ?_)
        · refine aw_iload_n (aw_d q_Xm_parseText 52 rfl) rfl rfl ?_
          refine cSr (aw_d q_Xm_parseText 53 rfl) (sp_RF_isTextByte) sL_Xm_250 rfl rfl rfl rfl ⟨aw_le rfl, aw_le rfl⟩ ?_
          refine aw_ifB_eq (tgt := 128) (aw_d q_Xm_parseText 54 rfl) (by decide) (fun c113 => ?_) (fun c113 => ?_)
          · refine aw_aload_n (aw_d q_Xm_parseText 61 rfl) rfl rfl rfl ?_
            refine aw_getf (aw_d q_Xm_parseText 62 rfl) fL_Xm_9_Xm rfl rfl ?_
            refine cVr (aw_d q_Xm_parseText 63 rfl) (sp_fail) vL_Xm_167_Sc rfl rfl rfl rfl rfl rfl ⟨aw_le rfl, aw_le rfl⟩ ?_
            exact aw_zret (aw_d q_Xm_parseText 64 rfl) rfl (rfl) (by rw [he, xt, if_neg (by omega), if_neg (by omega), if_neg (by omega), if_neg (fun q => by first | exact c113 q.1 | exact q.2.1 c119 | exact q.2.2 c125)]; exact CE_er CF_i)
          · refine aw_iload_n (aw_d q_Xm_parseText 55 rfl) rfl rfl ?_
            refine aw_bipush (v := nI 62) (aw_d q_Xm_parseText 56 rfl) (by decide) ?_
            refine aw_icmpI_eq (tgt := 128) (aw_d q_Xm_parseText 57 rfl) (by decide) (by (have hc2 := hc.2.1; omega)) (fun c119 => ?_) (fun c119 => ?_)
            · refine aw_aload_n (aw_d q_Xm_parseText 61 rfl) rfl rfl rfl ?_
              refine aw_getf (aw_d q_Xm_parseText 62 rfl) fL_Xm_9_Xm rfl rfl ?_
              refine cVr (aw_d q_Xm_parseText 63 rfl) (sp_fail) vL_Xm_167_Sc rfl rfl rfl rfl rfl rfl ⟨aw_le rfl, aw_le rfl⟩ ?_
              exact aw_zret (aw_d q_Xm_parseText 64 rfl) rfl (rfl) (by rw [he, xt, if_neg (by omega), if_neg (by omega), if_neg (by omega), if_neg (fun q => by first | exact c113 q.1 | exact q.2.1 c119 | exact q.2.2 c125)]; exact CE_er CF_i)
            · refine aw_iload_n (aw_d q_Xm_parseText 58 rfl) rfl rfl ?_
              refine aw_bipush (v := nI 13) (aw_d q_Xm_parseText 59 rfl) (by decide) ?_
              refine aw_icmpI_ne (tgt := 136) (aw_d q_Xm_parseText 60 rfl) (by decide) (by (have hc2 := hc.2.1; omega)) (fun c125 => ?_) (fun c125 => ?_)
              · refine aw_aload_n (aw_d q_Xm_parseText 65 rfl) rfl rfl rfl ?_
                refine aw_getf (aw_d q_Xm_parseText 66 rfl) fL_Xm_9_Xm rfl rfl ?_
                refine aw_iload_n (aw_d q_Xm_parseText 67 rfl) rfl rfl ?_
                refine aw_iconst (v := nI 1) (aw_d q_Xm_parseText 68 rfl) (by decide) ?_
                refine cVv (aw_d q_Xm_parseText 69 rfl) (sp_take (by omega)) vL_Xm_253_Sc rfl rfl rfl rfl rfl rfl ⟨aw_le rfl, aw_le rfl⟩ ?_
                refine aw_iinc (aw_d q_Xm_parseText 70 rfl) rfl (ii1 _) (aw_le rfl) rfl ?_
                refine aw_goto (tgt := 10) (aw_d q_Xm_parseText 71 rfl) (by decide) ?_
                have hpn := T_lt hc.2.2.2.1 (p := p) (pTx_0 c113)
                exact AW.to (ih (i + 1) (p + 1) (L ++ [T p]) _ (by omega) (by omega) (by rw [len_add]; omega) (all_add hal c113) (he.trans (by rw [xt, if_neg (by omega), if_neg (by omega), if_neg (by omega), if_pos ⟨c113, by omega, by omega⟩]))) rfl rfl rfl rfl
              · refine aw_aload_n (aw_d q_Xm_parseText 61 rfl) rfl rfl rfl ?_
                refine aw_getf (aw_d q_Xm_parseText 62 rfl) fL_Xm_9_Xm rfl rfl ?_
                refine cVr (aw_d q_Xm_parseText 63 rfl) (sp_fail) vL_Xm_167_Sc rfl rfl rfl rfl rfl rfl ⟨aw_le rfl, aw_le rfl⟩ ?_
                exact aw_zret (aw_d q_Xm_parseText 64 rfl) rfl (rfl) (by rw [he, xt, if_neg (by omega), if_neg (by omega), if_neg (by omega), if_neg (fun q => by first | exact c113 q.1 | exact q.2.1 c119 | exact q.2.2 c125)]; exact CE_er CF_i)
        · refine aw_aload_n (aw_d q_Xm_parseText 45 rfl) rfl rfl rfl ?_
          refine cV (aw_d q_Xm_parseText 46 rfl) (sp_entity hc hp (by omega)) vL_Xm_247_Xm rfl rfl rfl rfl rfl rfl ⟨aw_le rfl, aw_le rfl⟩ (fun r95 h95 hp95 => ?_)
          cases hen : en T p with
          | none =>
            rw [hen] at hp95
            obtain ⟨rfl, rfl⟩ := hp95
            refine aw_ifN_ne (tgt := 145) (aw_d q_Xm_parseText 47 rfl) (by decide) (by (have hc2 := hc.2.1; omega)) (fun c98 => by exfalso; (have hc2 := hc.2.1; omega)) (fun c98 => ?_)
            refine aw_aload_n (aw_d q_Xm_parseText 48 rfl) rfl rfl rfl ?_
            refine aw_getf (aw_d q_Xm_parseText 49 rfl) fL_Xm_9_Xm rfl rfl ?_
            refine cVr (aw_d q_Xm_parseText 50 rfl) (sp_fail) vL_Xm_167_Sc rfl rfl rfl rfl rfl rfl ⟨aw_le rfl, aw_le rfl⟩ ?_
            exact aw_zret (aw_d q_Xm_parseText 51 rfl) rfl (rfl) (by rw [he, xt, if_neg (by omega), if_neg (by omega), if_pos (by omega), hen]; exact CE_er CF_i)
          | some c =>
            rw [hen] at hp95
            obtain ⟨rfl, rfl, hpn, hcc⟩ := hp95
            refine aw_ifN_ne (tgt := 145) (aw_d q_Xm_parseText 47 rfl) (by decide) (by (have hc2 := hc.2.1; omega)) (fun c98 => ?_) (fun c98 => by exfalso; (have hc2 := hc.2.1; omega))
            refine aw_iinc (aw_d q_Xm_parseText 70 rfl) rfl (ii1 _) (aw_le rfl) rfl ?_
            refine aw_goto (tgt := 10) (aw_d q_Xm_parseText 71 rfl) (by decide) ?_
            exact AW.to (ih (i + 1) (p + c.2) (L ++ [c.1]) _ (by omega) hpn (by rw [len_add]; omega) (all_add hal hcc) (he.trans (by rw [xt, if_neg (by omega), if_neg (by omega), if_pos (by omega), hen]))) rfl rfl rfl rfl
      · refine aw_aload_n (aw_d q_Xm_parseText 38 rfl) rfl rfl rfl ?_
        refine aw_getf (aw_d q_Xm_parseText 39 rfl) fL_Xm_9_Xm rfl rfl ?_
        refine cVr (aw_d q_Xm_parseText 40 rfl) (sp_fail) vL_Xm_167_Sc rfl rfl rfl rfl rfl rfl ⟨aw_le rfl, aw_le rfl⟩ ?_
        exact aw_zret (aw_d q_Xm_parseText 41 rfl) rfl (rfl) (by rw [he, xt, if_neg (by omega), if_pos (by omega)]; exact CE_er CF_i)
    · refine aw_aload_n (aw_d q_Xm_parseText 16 rfl) rfl rfl rfl ?_
      refine aw_getf (aw_d q_Xm_parseText 17 rfl) fL_Xm_9_Xm rfl rfl ?_
      refine aw_getf (aw_d q_Xm_parseText 18 rfl) fL_Xm_197_Sc rfl rfl ?_
      refine aw_aload_n (aw_d q_Xm_parseText 19 rfl) rfl rfl rfl ?_
      refine aw_getf (aw_d q_Xm_parseText 20 rfl) fL_Xm_9_Xm rfl rfl ?_
      refine aw_getf (v := .int (nI (kd))) (aw_d q_Xm_parseText 21 rfl) fL_Xm_191_Sc rfl (gk rfl) ?_
      refine cVr (aw_d q_Xm_parseText 22 rfl) (sp_isOfL h20 hkd) vL_Xm_236_Tx rfl rfl rfl rfl rfl rfl ⟨aw_le rfl, aw_le rfl⟩ ?_
      refine aw_ifB_ne (tgt := 61) (aw_d q_Xm_parseText 23 rfl) (by decide) (fun c47 => ?_) (fun c47 => ?_)
      · refine aw_iconst (v := nI 1) (aw_d q_Xm_parseText 29 rfl) (by decide) ?_
        refine aw_goto (tgt := 66) (aw_d q_Xm_parseText 30 rfl) (by decide) ?_
        exact aw_zret (aw_d q_Xm_parseText 32 rfl) rfl (rfl) (by rw [he, xt, if_pos (by omega)]; first | (rw [okT, bd_ok, if_pos c47]; exact CE_ok ⟨rfl, ⟨hp, h20, hal⟩, c47⟩) | (rw [okT, bd_ok, if_neg c47]; exact CE_er CF_i))
      · refine aw_aload_n (aw_d q_Xm_parseText 24 rfl) rfl rfl rfl ?_
        refine aw_getf (aw_d q_Xm_parseText 25 rfl) fL_Xm_9_Xm rfl rfl ?_
        refine aw_iload_n (aw_d q_Xm_parseText 26 rfl) rfl rfl ?_
        refine cVr (aw_d q_Xm_parseText 27 rfl) (sp_failAt) vL_Xm_241_Sc rfl rfl rfl rfl rfl rfl ⟨aw_le rfl, aw_le rfl⟩ ?_
        refine aw_ifN_eq (tgt := 65) (aw_d q_Xm_parseText 28 rfl) (by decide) (by (have hc2 := hc.2.1; omega)) (fun c58 => ?_) (fun c58 => by exfalso; (have hc2 := hc.2.1; omega))
        refine aw_iconst (v := nI 0) (aw_d q_Xm_parseText 31 rfl) (by decide) ?_
        exact aw_zret (aw_d q_Xm_parseText 32 rfl) rfl (rfl) (by rw [he, xt, if_pos (by omega)]; first | (rw [okT, bd_ok, if_pos c47]; exact CE_ok ⟨rfl, ⟨hp, h20, hal⟩, c47⟩) | (rw [okT, bd_ok, if_neg c47]; exact CE_er CF_i))
set_option maxRecDepth 20000 in
theorem sp_xt {g : aw_G} {S : aw_S} {n : Nat} {T : Nat → Int32} {p : Nat} {q w l e : Int32} {f : Nat → Int32} (hc : TPc S n T) (hp : p ≤ n) {kd : Nat} (hkd : kd ≤ 4) : Sp g M_Xm_parseText 6 134 0 0 [.ref 30] (HP (QC S (nI p) q w l (nI kd) e (nI 0) f)) (CE S (okT kd p (xt T 21 p [])) (fun (y : tx_T) h => h = HP (QC S (nI y.1) q w l (nI kd) e (nI y.2.length) (XA y.2 f)) ∧ txOK n y ∧ okL kd y.2 = true)) := by
  refine Sp.of rfl (aw_le rfl) ?_
  refine aw_aload_n (aw_d q_Xm_parseText 0 rfl) rfl rfl rfl ?_
  refine aw_getf (aw_d q_Xm_parseText 1 rfl) fL_Xm_9_Xm rfl rfl ?_
  refine aw_getf (v := .int (nI (p))) (aw_d q_Xm_parseText 2 rfl) fL_Xm_233_Sc rfl (gk rfl) ?_
  refine aw_istore_n (aw_d q_Xm_parseText 3 rfl) rfl (aw_le rfl) rfl ?_
  refine aw_iconst (v := nI 0) (aw_d q_Xm_parseText 4 rfl) (by decide) ?_
  refine aw_istore_n (aw_d q_Xm_parseText 5 rfl) rfl (aw_le rfl) rfl ?_
  exact AW.to (lp_xt hc hkd 21 0 p [] _ (by omega) hp (by decide) rfl rfl) rfl rfl rfl (by rw [XA_nil]; rfl)
