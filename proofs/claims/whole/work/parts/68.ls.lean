theorem lw_cmp {L i : Nat} (hL : L ≤ 2048) (hi : i ≤ L) (h : ¬ (nI L - nI 4 < nI i)) : i + 4 ≤ L := by
  by_cases h4 : 4 ≤ L
  · rw [pk_sub h4, nI_ltI (by omega) (by omega)] at h
    omega
  · have e : L = 0 ∨ L = 1 ∨ L = 2 ∨ L = 3 := by omega
    have e2 : i = 0 ∨ i = 1 ∨ i = 2 ∨ i = 3 := by omega
    exfalso
    apply h
    rcases e with rfl | rfl | rfl | rfl <;> rcases e2 with rfl | rfl | rfl | rfl <;> decide
theorem law_back {nm : String} {g : aw_G} {i : Nat} {S : aw_S} (k : AWL nm g 18 (i + 4) S) : AWL nm g 633 i S := by
  refine aw_iinc (v := nI (i + 4)) (aw_d q_Lw_law 395 rfl) rfl (nI_add i 4) (aw_le rfl) rfl ?_
  exact aw_goto (tgt := 18) (aw_d q_Lw_law 396 rfl) (by decide) k
theorem lw_sw (w : Int32) : w.toInt = 0 ∨ w.toInt = 1 ∨ w.toInt = 2 ∨ w.toInt = 3 ∨ w.toInt = 4 ∨ w.toInt = 5 ∨ w.toInt = 6 ∨ w.toInt = 7 ∨ w.toInt = 8 ∨ w.toInt = 9 ∨ w.toInt = 10 ∨ w.toInt = 11 ∨ w.toInt = 12 ∨ w.toInt = 13 ∨ w.toInt = 14 ∨ w.toInt = 15 ∨ w.toInt = 16 ∨ w.toInt = 17 ∨ w.toInt = 18 ∨ (w.toInt < 0 ∨ 18 < w.toInt) := by omega
theorem law_loop {nm : String} {g : aw_G} (hL : g.2.2.2.2.2.1 ≤ 2048) : ∀ (n i : Nat) (U : U_T) (S : aw_S), i ≤ g.2.2.2.2.2.1 → g.2.2.2.2.2.1 + 1 ≤ i + n → RL U S → AWL nm g 18 i S := by
  intro n
  induction n with
  | zero => intro i U S h1 h2; exact absurd h2 (by omega)
  | succ n ih =>
    intro i U S h1 h2 hR
    refine aw_iload_n (aw_d q_Lw_law 10 rfl) rfl rfl ?_
    refine aw_aload_n (aw_d q_Lw_law 11 rfl) rfl rfl rfl ?_
    refine aw_slen (aw_d q_Lw_law 12 rfl) ?_
    refine aw_iconst (v := nI 4) (aw_d q_Lw_law 13 rfl) (by decide) ?_
    refine aw_isub (aw_d q_Lw_law 14 rfl) ?_
    refine aw_icmp_gt (tgt := 639) (aw_d q_Lw_law 15 rfl) (by decide) (fun z => ?_) (fun z => ?_)
    · refine aw_iconst (v := nI 1) (aw_d q_Lw_law 397 rfl) (by decide) ?_
      exact law_end
    have hi := lw_cmp hL h1 z
    have kb : ∀ (V : U_T) (T : aw_S), RL V T → AWL nm g 633 i T := fun V T hT => law_back (ih (i + 4) V T (by omega) (by omega) hT)
    refine aw_aload_n (aw_d q_Lw_law 16 rfl) rfl rfl rfl ?_
    refine aw_iload_n (aw_d q_Lw_law 17 rfl) rfl rfl ?_
    refine aw_sld (aw_d q_Lw_law 18 rfl) (vp_in_nI (by omega) (by omega)) ?_
    refine aw_bipush (v := nI 31) (aw_d q_Lw_law 19 rfl) (by decide) ?_
    refine aw_iand (aw_d q_Lw_law 20 rfl) ?_
    generalize (g.2.2.2.2.2.2 (nI i).toNatClampNeg &&& nI 31) = w
    rcases lw_sw w with e | e | e | e | e | e | e | e | e | e | e | e | e | e | e | e | e | e | e | e
    · exact aw_tableIn (tgt := 124) (aw_d q_Lw_law 21 rfl) (by omega) (by omega) (by rw [e]; rfl) (by decide) (law_124 hR hL hi kb)
    · exact aw_tableIn (tgt := 187) (aw_d q_Lw_law 21 rfl) (by omega) (by omega) (by rw [e]; rfl) (by decide) (law_187 hR hL hi kb)
    · exact aw_tableIn (tgt := 200) (aw_d q_Lw_law 21 rfl) (by omega) (by omega) (by rw [e]; rfl) (by decide) (law_200 hR hL hi kb)
    · exact aw_tableIn (tgt := 233) (aw_d q_Lw_law 21 rfl) (by omega) (by omega) (by rw [e]; rfl) (by decide) (law_233 hR hL hi kb)
    · exact aw_tableIn (tgt := 266) (aw_d q_Lw_law 21 rfl) (by omega) (by omega) (by rw [e]; rfl) (by decide) (law_266 hR hL hi kb)
    · exact aw_tableIn (tgt := 279) (aw_d q_Lw_law 21 rfl) (by omega) (by omega) (by rw [e]; rfl) (by decide) (law_279 hR hL hi kb)
    · exact aw_tableIn (tgt := 292) (aw_d q_Lw_law 21 rfl) (by omega) (by omega) (by rw [e]; rfl) (by decide) (law_292 hR hL hi kb)
    · exact aw_tableIn (tgt := 335) (aw_d q_Lw_law 21 rfl) (by omega) (by omega) (by rw [e]; rfl) (by decide) (law_335 hR hL hi kb)
    · exact aw_tableIn (tgt := 348) (aw_d q_Lw_law 21 rfl) (by omega) (by omega) (by rw [e]; rfl) (by decide) (law_348 hR hL hi kb)
    · exact aw_tableIn (tgt := 381) (aw_d q_Lw_law 21 rfl) (by omega) (by omega) (by rw [e]; rfl) (by decide) (law_381 hR hL hi kb)
    · exact aw_tableIn (tgt := 404) (aw_d q_Lw_law 21 rfl) (by omega) (by omega) (by rw [e]; rfl) (by decide) (law_404 hR hL hi kb)
    · exact aw_tableIn (tgt := 453) (aw_d q_Lw_law 21 rfl) (by omega) (by omega) (by rw [e]; rfl) (by decide) (law_453 hR hL hi kb)
    · exact aw_tableIn (tgt := 476) (aw_d q_Lw_law 21 rfl) (by omega) (by omega) (by rw [e]; rfl) (by decide) (law_476 hR hL hi kb)
    · exact aw_tableIn (tgt := 499) (aw_d q_Lw_law 21 rfl) (by omega) (by omega) (by rw [e]; rfl) (by decide) (law_499 hR hL hi kb)
    · exact aw_tableIn (tgt := 522) (aw_d q_Lw_law 21 rfl) (by omega) (by omega) (by rw [e]; rfl) (by decide) (law_522 hR hL hi kb)
    · exact aw_tableIn (tgt := 535) (aw_d q_Lw_law 21 rfl) (by omega) (by omega) (by rw [e]; rfl) (by decide) (law_535 hR hL hi kb)
    · exact aw_tableIn (tgt := 574) (aw_d q_Lw_law 21 rfl) (by omega) (by omega) (by rw [e]; rfl) (by decide) (law_574 hR hL hi kb)
    · exact aw_tableIn (tgt := 597) (aw_d q_Lw_law 21 rfl) (by omega) (by omega) (by rw [e]; rfl) (by decide) (law_597 hR hL hi kb)
    · exact aw_tableIn (tgt := 610) (aw_d q_Lw_law 21 rfl) (by omega) (by omega) (by rw [e]; rfl) (by decide) (law_610 hR hL hi kb)
    · exact aw_tableOut (tgt := 633) (aw_d q_Lw_law 21 rfl) e (by decide) (kb U S hR)
