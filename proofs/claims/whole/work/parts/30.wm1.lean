set_option maxRecDepth 20000 in
theorem sp_put1 {g : aw_G} {S : aw_S} {O : List Int32} {b : Int32} (hO : O.length < 2147483648) : Sp g M_Mo_put1 0 0 0 0 [.ref 33, .int b] (HP (MS S O)) (fun r h => r = none ∧ h = HP (MS S (O ++ [b]))) := by
  refine Sp.of rfl (aw_le rfl) ?_
  refine aw_aload_n (aw_d q_Mo_put1 0 rfl) rfl rfl rfl ?_
  refine aw_getf (v := .int (nI (O.length))) (aw_d q_Mo_put1 1 rfl) fL_Mo_132_Mo rfl (gk rfl) ?_
  refine aw_sipush (v := nI 3000) (aw_d q_Mo_put1 2 rfl) (by decide) ?_
  refine aw_icmpN_ge (tgt := 20) (aw_d q_Mo_put1 3 rfl) (by decide) (by omega) (by omega) (fun c7 => ?_) (fun c7 => ?_)
  · refine aw_aload_n (aw_d q_Mo_put1 10 rfl) rfl rfl rfl ?_
    refine aw_dup (aw_d q_Mo_put1 11 rfl) rfl ?_
    refine aw_getf (v := .int (nI (O.length))) (aw_d q_Mo_put1 12 rfl) fL_Mo_132_Mo rfl (gk rfl) ?_
    refine aw_iconst (v := nI 1) (aw_d q_Mo_put1 13 rfl) (by decide) ?_
    refine aw_iaddN (aw_d q_Mo_put1 14 rfl) ?_
    refine wi_33_4 (aw_d q_Mo_put1 15 rfl) pL_Mo_132_Mo ?_
    exact aw_vret (aw_d q_Mo_put1 16 rfl) rfl (⟨rfl, by first | exact congrArg HP (MS_add c7) | exact congrArg HP (MS_full c7)⟩)
  · refine aw_aload_n (aw_d q_Mo_put1 4 rfl) rfl rfl rfl ?_
    refine aw_getf (aw_d q_Mo_put1 5 rfl) fL_Mo_16_Mo rfl rfl ?_
    refine aw_aload_n (aw_d q_Mo_put1 6 rfl) rfl rfl rfl ?_
    refine aw_getf (v := .int (nI (O.length))) (aw_d q_Mo_put1 7 rfl) fL_Mo_132_Mo rfl (gk rfl) ?_
    refine aw_iload_n (aw_d q_Mo_put1 8 rfl) rfl rfl ?_
    refine wn_36 (aw_d q_Mo_put1 9 rfl) (by omega) ?_
    refine aw_aload_n (aw_d q_Mo_put1 10 rfl) rfl rfl rfl ?_
    refine aw_dup (aw_d q_Mo_put1 11 rfl) rfl ?_
    refine aw_getf (v := .int (nI (O.length))) (aw_d q_Mo_put1 12 rfl) fL_Mo_132_Mo rfl (gk rfl) ?_
    refine aw_iconst (v := nI 1) (aw_d q_Mo_put1 13 rfl) (by decide) ?_
    refine aw_iaddN (aw_d q_Mo_put1 14 rfl) ?_
    refine wi_33_4 (aw_d q_Mo_put1 15 rfl) pL_Mo_132_Mo ?_
    exact aw_vret (aw_d q_Mo_put1 16 rfl) rfl (⟨rfl, by first | exact congrArg HP (MS_add c7) | exact congrArg HP (MS_full c7)⟩)
set_option maxRecDepth 20000 in
theorem lp_emit {g : aw_G} {S : aw_S} {O : List Int32} {x : Int64} {j : Nat} (hO : O.length + j < 2147483648) : ∀ (m : Nat) (Q : List Int32), Q ++ eB x m = O ++ eB x j → AW g M_Mo_emit (aw_rm 1 21 0 0) (aw_F g 0 0 (fun r1 h => r1 = none ∧ h = HP (MS S (O ++ eB x j)))) 5 [some (.ref 33), some (.long x), none, some (.int (nI j)), some (.int (dn m))] [] (HP (MS S Q)) 0 0 := by
  intro m
  induction m with
  | zero =>
    intro Q e
    refine aw_iload (aw_d q_Mo_emit 4 rfl) rfl ?_
    refine aw_ifI_lt (tgt := 32) (aw_d q_Mo_emit 5 rfl) (by decide) (fun c7 => ?_) (fun c7 => by exact absurd dn_0 (by omega))
    exact aw_vret (aw_d q_Mo_emit 18 rfl) rfl (⟨rfl, by rw [← e]; simp [eB]⟩)
  | succ m ih =>
    intro Q e
    have hq := congrArg List.length e
    simp only [List.length_append, eB_len] at hq
    refine aw_iload (aw_d q_Mo_emit 4 rfl) rfl ?_
    refine aw_ifN_lt (tgt := 32) (aw_d q_Mo_emit 5 rfl) (by decide) (by omega) (fun c7 => by exfalso; omega) (fun c7 => ?_)
    refine aw_aload_n (aw_d q_Mo_emit 6 rfl) rfl rfl rfl ?_
    refine aw_lload_n (aw_d q_Mo_emit 7 rfl) rfl rfl ?_
    refine aw_bipush (v := nI 8) (aw_d q_Mo_emit 8 rfl) (by decide) ?_
    refine aw_iload (aw_d q_Mo_emit 9 rfl) rfl ?_
    refine aw_imulN (aw_d q_Mo_emit 10 rfl) ?_
    refine aw_lshr (aw_d q_Mo_emit 11 rfl) ?_
    refine aw_ldc2 (aw_d q_Mo_emit 12 rfl) lL_Mo_88 ?_
    refine aw_land (aw_d q_Mo_emit 13 rfl) ?_
    refine aw_l2i (aw_d q_Mo_emit 14 rfl) ?_
    refine cVv (aw_d q_Mo_emit 15 rfl) (sp_put1 (b := bM x m) (by omega)) vL_Mo_135_Mo rfl rfl rfl rfl rfl rfl ⟨aw_le rfl, aw_le rfl⟩ ?_
    refine aw_iinc (v := dn m) (aw_d q_Mo_emit 16 rfl) rfl (dn_dec m) (aw_le rfl) rfl ?_
    refine aw_goto (tgt := 5) (aw_d q_Mo_emit 17 rfl) (by decide) ?_
    exact ih _ (by rw [← e]; simp [eB])
set_option maxRecDepth 20000 in
theorem sp_emit {g : aw_G} {S : aw_S} {O : List Int32} {x : Int64} {j : Nat} (hO : O.length + j < 2147483648) : Sp g M_Mo_emit 1 21 0 0 [.ref 33, .long x, .int (nI j)] (HP (MS S O)) (fun r1 h => r1 = none ∧ h = HP (MS S (O ++ eB x j))) := by
  refine Sp.of rfl (aw_le rfl) ?_
  refine aw_iload_n (aw_d q_Mo_emit 0 rfl) rfl rfl ?_
  refine aw_iconst (v := nI 1) (aw_d q_Mo_emit 1 rfl) (by decide) ?_
  refine aw_isub (aw_d q_Mo_emit 2 rfl) ?_
  refine aw_istore (aw_d q_Mo_emit 3 rfl) (aw_le rfl) rfl ?_
  exact AW.to (lp_emit hO j O rfl) rfl (by rw [dn_sub]; rfl) rfl rfl
theorem catB_len1 {f : Nat → Int32} : ∀ {m k : Nat}, (catB (fun i => [f i]) m k).length = m := by
  intro m
  induction m with
  | zero => intro k; rfl
  | succ m ih => intro k; simp only [catB, List.length_append, List.length_cons, List.length_nil]; rw [ih]; omega
theorem w_n_len {P : xp_T} {v : Nat} (hW : xp_wd P) (hv : v < xp_v P) : (w_n P v).length ≤ 8 := by
  rw [w_n, catB_len1]; exact (hW.2.1 v hv).2
theorem w_t_len {f : Int32 → List Int32} {P : xp_T} {t : Nat} (hW : xp_wd P) (ht : t < xp_t P) (hf : ∀ b, (f b).length ≤ 5) : (w_t f P t).length ≤ 100 := by
  have := catB_len (f := fun i => f (xp_b P t i)) (c := 5) (m := xp_l P t) (k := 0) (fun i _ _ => hf _)
  have h2 := (hW.2.2.2 t ht).2.1
  show (catB _ _ _).length ≤ 100
  omega
theorem w_0_len (b : Int32) : (w_0 b).length ≤ 5 := by simp [w_0]
theorem w_1_len (b : Int32) : (w_1 b).length ≤ 5 := by
  simp only [w_1]
  split
  · decide
  split
  · decide
  split
  · decide
  split
  · decide
  split
  · decide
  simp
theorem w_2_len (b : Int32) : (w_2 b).length ≤ 5 := by
  simp only [w_2]
  split
  · decide
  split
  · decide
  split
  · decide
  split
  · decide
  simp
theorem w_3_len (b : Int32) : (w_3 b).length ≤ 5 := by
  simp only [w_3]
  split <;> simp
theorem tx_19 : ∀ e, e < 4 → (tx (19 + e)).length ≤ 5 := by decide
theorem w_e_len {P : xp_T} {t : Nat} (hW : xp_wd P) (ht : t < xp_t P) (hk : 2 < xp_k P t) : (w_e P t).length ≤ 5 := by
  obtain ⟨h4, -, -, h44, -⟩ := hW.2.2.2 t ht
  simp only [w_e]
  by_cases h : xp_k P t = 3
  · rw [if_pos h]; simp
  · rw [if_neg h]; exact tx_19 _ (h44 (by omega))
set_option maxRecDepth 20000 in
theorem lp_emitName {g : aw_G} {S : aw_S} {O : List Int32} {P : xp_T} (hP : xp_M S P) (hW : xp_wd P) {v : Nat} (hv : v < xp_v P) (hO : (O ++ w_n P v).length < 2147483648) : ∀ (m k : Nat) (Q : List Int32), m + k = xp_nl P v → Q ++ catB (fun i => [xp_nb P v i]) m k = O ++ w_n P v → AW g M_Mo_emitName (aw_rm 1 21 0 0) (aw_F g 0 0 (fun r1 h => r1 = none ∧ h = HP (MS S (O ++ w_n P v)))) 2 [some (.ref 33), some (.int (nI v)), some (.int (nI k))] [] (HP (MS S Q)) 0 0 := by
  intro m
  induction m with
  | zero =>
    intro k Q hk e
    refine aw_iload_n (aw_d q_Mo_emitName 2 rfl) rfl rfl ?_
    refine aw_aload_n (aw_d q_Mo_emitName 3 rfl) rfl rfl rfl ?_
    refine aw_getf (aw_d q_Mo_emitName 4 rfl) fL_Mo_31_Mo rfl rfl ?_
    refine aw_iload_n (aw_d q_Mo_emitName 5 rfl) rfl rfl ?_
    refine aw_ialdK (w := nI (xp_nl P v)) (aw_d q_Mo_emitName 6 rfl) rfl (by (have hz := hW.1; have hz2 := (hW.2.1 v hv).2; omega)) rfl ((hP.2.1 v hv).1) ?_
    refine aw_icmpN_ge (tgt := 33) (aw_d q_Mo_emitName 7 rfl) (by decide) (by (have hz := hW.1; have hz2 := (hW.2.1 v hv).2; omega)) (by (have hz := hW.1; have hz2 := (hW.2.1 v hv).2; omega)) (fun c9 => ?_) (fun c9 => by exfalso; (have hz := hW.1; have hz2 := (hW.2.1 v hv).2; omega))
    exact aw_vret (aw_d q_Mo_emitName 20 rfl) rfl (⟨rfl, by rw [← e]; simp [catB]⟩)
  | succ m ih =>
    intro k Q hk e
    have hq := congrArg List.length e
    simp only [catB, List.length_append, List.length_cons, List.length_nil] at hq
    refine aw_iload_n (aw_d q_Mo_emitName 2 rfl) rfl rfl ?_
    refine aw_aload_n (aw_d q_Mo_emitName 3 rfl) rfl rfl rfl ?_
    refine aw_getf (aw_d q_Mo_emitName 4 rfl) fL_Mo_31_Mo rfl rfl ?_
    refine aw_iload_n (aw_d q_Mo_emitName 5 rfl) rfl rfl ?_
    refine aw_ialdK (w := nI (xp_nl P v)) (aw_d q_Mo_emitName 6 rfl) rfl (by (have hz := hW.1; have hz2 := (hW.2.1 v hv).2; omega)) rfl ((hP.2.1 v hv).1) ?_
    refine aw_icmpN_ge (tgt := 33) (aw_d q_Mo_emitName 7 rfl) (by decide) (by (have hz := hW.1; have hz2 := (hW.2.1 v hv).2; omega)) (by (have hz := hW.1; have hz2 := (hW.2.1 v hv).2; omega)) (fun c9 => by exfalso; (have hz := hW.1; have hz2 := (hW.2.1 v hv).2; omega)) (fun c9 => ?_)
    refine aw_aload_n (aw_d q_Mo_emitName 8 rfl) rfl rfl rfl ?_
    refine aw_aload_n (aw_d q_Mo_emitName 9 rfl) rfl rfl rfl ?_
    refine aw_getf (aw_d q_Mo_emitName 10 rfl) fL_Mo_34_Mo rfl rfl ?_
    refine aw_bipush (v := nI 8) (aw_d q_Mo_emitName 11 rfl) (by decide) ?_
    refine aw_iload_n (aw_d q_Mo_emitName 12 rfl) rfl rfl ?_
    refine aw_imulN (aw_d q_Mo_emitName 13 rfl) ?_
    refine aw_iload_n (aw_d q_Mo_emitName 14 rfl) rfl rfl ?_
    refine aw_iaddN (aw_d q_Mo_emitName 15 rfl) ?_
    refine aw_ialdK (w := (xp_nb P v k)) (aw_d q_Mo_emitName 16 rfl) rfl (by (have hz := hW.1; have hz2 := (hW.2.1 v hv).2; omega)) rfl (by show S.2 42 (8 * v + k) = _; rw [Nat.mul_comm 8 v]; exact (hP.2.1 v hv).2 k (by omega)) ?_
    refine cVv (aw_d q_Mo_emitName 17 rfl) (sp_put1 (by rw [List.length_append] at hO; omega)) vL_Mo_135_Mo rfl rfl rfl rfl rfl rfl ⟨aw_le rfl, aw_le rfl⟩ ?_
    refine aw_iinc (aw_d q_Mo_emitName 18 rfl) rfl (ii1 _) (aw_le rfl) rfl ?_
    refine aw_goto (tgt := 2) (aw_d q_Mo_emitName 19 rfl) (by decide) ?_
    exact ih (k + 1) _ (by omega) (by rw [← e]; simp [catB])
set_option maxRecDepth 20000 in
theorem sp_emitName {g : aw_G} {S : aw_S} {O : List Int32} {P : xp_T} (hP : xp_M S P) (hW : xp_wd P) {v : Nat} (hv : v < xp_v P) (hO : O.length + 8 < 2147483648) : Sp g M_Mo_emitName 1 21 0 0 [.ref 33, .int (nI v)] (HP (MS S O)) (fun r1 h => r1 = none ∧ h = HP (MS S (O ++ w_n P v))) := by
  refine Sp.of rfl (aw_le rfl) ?_
  have hl := w_n_len hW hv
  refine aw_iconst (v := nI 0) (aw_d q_Mo_emitName 0 rfl) (by decide) ?_
  refine aw_istore_n (aw_d q_Mo_emitName 1 rfl) rfl (aw_le rfl) rfl ?_
  exact lp_emitName hP hW hv (by rw [List.length_append]; omega) (xp_nl P v) 0 O (by omega) rfl
theorem eb_34_0 : eB 34 0 = [] := by decide +kernel
theorem eb_34_1 : eB 34 1 = [nI 34] := by decide +kernel
theorem eb_34_2 : eB 34 2 = [nI 0, nI 34] := by decide +kernel
theorem eb_44_0 : eB 44 0 = [] := by decide +kernel
theorem eb_44_1 : eB 44 1 = [nI 44] := by decide +kernel
theorem eb_44_2 : eB 44 2 = [nI 0, nI 44] := by decide +kernel
theorem eb_62_1 : eB 62 1 = [nI 62] := by decide +kernel
theorem eb_63_0 : eB 63 0 = [] := by decide +kernel
theorem eb_63_1 : eB 63 1 = [nI 63] := by decide +kernel
theorem eb_63_2 : eB 63 2 = [nI 0, nI 63] := by decide +kernel
theorem eb_91_1 : eB 91 1 = [nI 91] := by decide +kernel
theorem eb_123_0 : eB 123 0 = [] := by decide +kernel
theorem eb_123_1 : eB 123 1 = [nI 123] := by decide +kernel
theorem eb_123_2 : eB 123 2 = [nI 0, nI 123] := by decide +kernel
theorem eb_8766_2 : eB 8766 2 = [nI 34, nI 62] := by decide +kernel
theorem eb_11298_0 : eB 11298 0 = [] := by decide +kernel
theorem eb_11298_1 : eB 11298 1 = [nI 34] := by decide +kernel
theorem eb_11298_2 : eB 11298 2 = [nI 44, nI 34] := by decide +kernel
theorem eb_11387_0 : eB 11387 0 = [] := by decide +kernel
theorem eb_11387_1 : eB 11387 1 = [nI 123] := by decide +kernel
theorem eb_11387_2 : eB 11387 2 = [nI 44, nI 123] := by decide +kernel
theorem eb_14939_2 : eB 14939 2 = [nI 58, nI 91] := by decide +kernel
theorem eb_24158_2 : eB 24158 2 = [nI 94, nI 94] := by decide +kernel
theorem eb_24378_2 : eB 24378 2 = [nI 95, nI 58] := by decide +kernel
theorem eb_26430_2 : eB 26430 2 = [nI 103, nI 62] := by decide +kernel
theorem eb_27710_2 : eB 27710 2 = [nI 108, nI 62] := by decide +kernel
theorem eb_2240318_3 : eB 2240318 3 = [nI 34, nI 47, nI 62] := by decide +kernel
theorem eb_2243106_3 : eB 2243106 3 = [nI 34, nI 58, nI 34] := by decide +kernel
theorem eb_6126973_3 : eB 6126973 3 = [nI 93, nI 125, nI 125] := by decide +kernel
theorem eb_6634786_3 : eB 6634786 3 = [nI 101, nI 61, nI 34] := by decide +kernel
theorem eb_6765858_3 : eB 6765858 3 = [nI 103, nI 61, nI 34] := by decide +kernel
theorem eb_7433278_3 : eB 7433278 3 = [nI 113, nI 108, nI 62] := by decide +kernel
theorem eb_7697001_3 : eB 7697001 3 = [nI 117, nI 114, nI 105] := by decide +kernel
theorem eb_644314171_4 : eB 644314171 4 = [nI 38, nI 103, nI 116, nI 59] := by decide +kernel
theorem eb_644641851_4 : eB 644641851 4 = [nI 38, nI 108, nI 116, nI 59] := by decide +kernel
theorem eb_1684108389_4 : eB 1684108389 4 = [nI 100, nI 97, nI 116, nI 101] := by decide +kernel
theorem eb_1919246700_4 : eB 1919246700 4 = [nI 114, nI 101, nI 97, nI 108] := by decide +kernel
theorem eb_1953658213_4 : eB 1953658213 4 = [nI 116, nI 114, nI 117, nI 101] := by decide +kernel
theorem eb_163799184187_5 : eB 163799184187 5 = [nI 38, nI 35, nI 49, nI 51, nI 59] := by decide +kernel
theorem eb_164843319355_5 : eB 164843319355 5 = [nI 38, nI 97, nI 109, nI 112, nI 59] := by decide +kernel
theorem eb_259668470078_5 : eB 259668470078 5 = [nI 60, nI 117, nI 114, nI 105, nI 62] := by decide +kernel
theorem eb_422759588965_5 : eB 422759588965 5 = [nI 98, nI 110, nI 111, nI 100, nI 101] := by decide +kernel
theorem eb_435426304570_5 : eB 435426304570 5 = [nI 101, nI 97, nI 110, nI 34, nI 58] := by decide +kernel
theorem eb_439721161573_5 : eB 439721161573 5 = [nI 102, nI 97, nI 108, nI 115, nI 101] := by decide +kernel
theorem eb_474176698914_5 : eB 474176698914 5 = [nI 110, nI 103, nI 34, nI 58, nI 34] := by decide +kernel
theorem eb_482733079074_5 : eB 482733079074 5 = [nI 112, nI 101, nI 34, nI 58, nI 34] := by decide +kernel
theorem eb_500136506472_5 : eB 500136506472 5 = [nI 116, nI 114, nI 117, nI 116, nI 104] := by decide +kernel
theorem eb_512853240933_5 : eB 512853240933 5 = [nI 119, nI 104, nI 111, nI 108, nI 101] := by decide +kernel
theorem eb_66174531561790_6 : eB 66174531561790 6 = [nI 60, nI 47, nI 117, nI 114, nI 105, nI 62] := by decide +kernel
theorem eb_66419075146814_6 : eB 66419075146814 6 = [nI 60, nI 104, nI 101, nI 97, nI 100, nI 62] := by decide +kernel
theorem eb_122511348035134_6 : eB 122511348035134 6 = [nI 111, nI 108, nI 101, nI 97, nI 110, nI 62] := by decide +kernel
theorem eb_9128563980975394_7 : eB 9128563980975394 7 = [nI 32, nI 110, nI 97, nI 109, nI 101, nI 61, nI 34] := by decide +kernel
theorem eb_16996725057414462_7 : eB 16996725057414462 7 = [nI 60, nI 98, nI 110, nI 111, nI 100, nI 101, nI 62] := by decide +kernel
theorem eb_30515246123868524_7 : eB 30515246123868524 7 = [nI 108, nI 105, nI 116, nI 101, nI 114, nI 97, nI 108] := by decide +kernel
theorem eb_2334097659363883376_8 : eB 2334097659363883376 8 = [nI 32, nI 100, nI 97, nI 116, nI 97, nI 116, nI 121, nI 112] := by decide +kernel
theorem eb_2339740318023049582_8 : eB 2339740318023049582 8 = [nI 32, nI 120, nI 109, nI 108, nI 58, nI 108, nI 97, nI 110] := by decide +kernel
theorem eb_2462380988100801893_8 : eB 2462380988100801893 8 = [nI 34, nI 44, nI 34, nI 118, nI 97, nI 108, nI 117, nI 101] := by decide +kernel
theorem eb_2466419133851988069_8 : eB 2466419133851988069 8 = [nI 34, nI 58, nI 123, nI 34, nI 116, nI 121, nI 112, nI 101] := by decide +kernel
theorem eb_3180214656604140665_8 : eB 3180214656604140665 8 = [nI 44, nI 34, nI 100, nI 97, nI 116, nI 97, nI 116, nI 121] := by decide +kernel
theorem eb_3180236698239528033_8 : eB 3180236698239528033 8 = [nI 44, nI 34, nI 120, nI 109, nI 108, nI 58, nI 108, nI 97] := by decide +kernel
theorem eb_4336793171144239470_8 : eB 4336793171144239470 8 = [nI 60, nI 47, nI 98, nI 105, nI 110, nI 100, nI 105, nI 110] := by decide +kernel
theorem eb_4336793192635852094_8 : eB 4336793192635852094 8 = [nI 60, nI 47, nI 98, nI 110, nI 111, nI 100, nI 101, nI 62] := by decide +kernel
theorem eb_4336793196931343713_8 : eB 4336793196931343713 8 = [nI 60, nI 47, nI 98, nI 111, nI 111, nI 108, nI 101, nI 97] := by decide +kernel
theorem eb_4336799750816022076_8 : eB 4336799750816022076 8 = [nI 60, nI 47, nI 104, nI 101, nI 97, nI 100, nI 62, nI 60] := by decide +kernel
theorem eb_4336804166361248353_8 : eB 4336804166361248353 8 = [nI 60, nI 47, nI 108, nI 105, nI 116, nI 101, nI 114, nI 97] := by decide +kernel
theorem eb_4336810746235415668_8 : eB 4336810746235415668 8 = [nI 60, nI 47, nI 114, nI 101, nI 115, nI 117, nI 108, nI 116] := by decide +kernel
theorem eb_4351156112845270631_8 : eB 4351156112845270631 8 = [nI 60, nI 98, nI 105, nI 110, nI 100, nI 105, nI 110, nI 103] := by decide +kernel
theorem eb_4352840508821617711_8 : eB 4352840508821617711 8 = [nI 60, nI 104, nI 101, nI 97, nI 100, nI 62, nI 60, nI 47] := by decide +kernel
theorem eb_4353970888399544684_8 : eB 4353970888399544684 8 = [nI 60, nI 108, nI 105, nI 116, nI 101, nI 114, nI 97, nI 108] := by decide +kernel
theorem eb_4355655336186377278_8 : eB 4355655336186377278 8 = [nI 60, nI 114, nI 101, nI 115, nI 117, nI 108, nI 116, nI 62] := by decide +kernel
theorem eb_4355948828431576126_8 : eB 4355948828431576126 8 = [nI 60, nI 115, nI 112, nI 97, nI 114, nI 113, nI 108, nI 62] := by decide +kernel
theorem eb_4356776833549689452_8 : eB 4356776833549689452 8 = [nI 60, nI 118, nI 97, nI 114, nI 105, nI 97, nI 98, nI 108] := by decide +kernel
theorem eb_6736589144075891573_8 : eB 6736589144075891573 8 = [nI 93, nI 125, nI 44, nI 34, nI 114, nI 101, nI 115, nI 117] := by decide +kernel
theorem eb_7286945561811696930_8 : eB 7286945561811696930 8 = [nI 101, nI 32, nI 110, nI 97, nI 109, nI 101, nI 61, nI 34] := by decide +kernel
theorem eb_7522525835761050223_8 : eB 7522525835761050223 8 = [nI 104, nI 101, nI 97, nI 100, nI 62, nI 60, nI 98, nI 111] := by decide +kernel
theorem eb_7597120025407222562_8 : eB 7597120025407222562 8 = [nI 105, nI 110, nI 100, nI 105, nI 110, nI 103, nI 115, nI 34] := by decide +kernel
theorem eb_7814997844241883746_8 : eB 7814997844241883746 8 = [nI 108, nI 116, nI 115, nI 34, nI 58, nI 123, nI 34, nI 98] := by decide +kernel
theorem eb_7943852967226007922_8 : eB 7943852967226007922 8 = [nI 110, nI 62, nI 60, nI 47, nI 115, nI 112, nI 97, nI 114] := by decide +kernel
theorem eb_8243121641139499838_8 : eB 8243121641139499838 8 = [nI 114, nI 101, nI 115, nI 117, nI 108, nI 116, nI 115, nI 62] := by decide +kernel
theorem eb_8304140937415647602_8 : eB 8304140937415647602 8 = [nI 115, nI 62, nI 60, nI 47, nI 115, nI 112, nI 97, nI 114] := by decide +kernel
theorem eb_8872769000508236346_8 : eB 8872769000508236346 8 = [nI 123, nI 34, nI 104, nI 101, nI 97, nI 100, nI 34, nI 58] := by decide +kernel
theorem eb_8872784376777351738_8 : eB 8872784376777351738 8 = [nI 123, nI 34, nI 118, nI 97, nI 114, nI 115, nI 34, nI 58] := by decide +kernel
theorem eb_8898316964945948524_8 : eB 8898316964945948524 8 = [nI 123, nI 125, nI 44, nI 34, nI 98, nI 111, nI 111, nI 108] := by decide +kernel
theorem tl_0 : tx 0 = [] := rfl
theorem tl_1 : tx 1 = [nI 13, nI 10] := rfl
theorem tl_2 : tx 2 = [nI 63] := rfl
theorem tl_3 : tx 3 = [nI 10] := rfl
theorem tl_5 : tx 5 = [nI 123, nI 34, nI 104, nI 101, nI 97, nI 100, nI 34, nI 58, nI 123, nI 34, nI 118, nI 97, nI 114, nI 115, nI 34, nI 58, nI 91] := rfl
theorem tl_6 : tx 6 = [nI 93, nI 125, nI 44, nI 34, nI 114, nI 101, nI 115, nI 117, nI 108, nI 116, nI 115, nI 34, nI 58, nI 123, nI 34, nI 98, nI 105, nI 110, nI 100, nI 105, nI 110, nI 103, nI 115, nI 34, nI 58, nI 91] := rfl
theorem tl_7 : tx 7 = [nI 58, nI 123, nI 34, nI 116, nI 121, nI 112, nI 101, nI 34, nI 58, nI 34] := rfl
theorem tl_8 : tx 8 = [nI 117, nI 114, nI 105] := rfl
theorem tl_9 : tx 9 = [nI 98, nI 110, nI 111, nI 100, nI 101] := rfl
theorem tl_10 : tx 10 = [nI 108, nI 105, nI 116, nI 101, nI 114, nI 97, nI 108] := rfl
theorem tl_11 : tx 11 = [nI 34, nI 44, nI 34, nI 118, nI 97, nI 108, nI 117, nI 101, nI 34, nI 58, nI 34] := rfl
theorem tl_12 : tx 12 = [nI 92, nI 34] := rfl
theorem tl_13 : tx 13 = [nI 92, nI 92] := rfl
theorem tl_14 : tx 14 = [nI 92, nI 116] := rfl
theorem tl_15 : tx 15 = [nI 92, nI 110] := rfl
theorem tl_16 : tx 16 = [nI 92, nI 114] := rfl
theorem tl_17 : tx 17 = [nI 34, nI 44, nI 34, nI 120, nI 109, nI 108, nI 58, nI 108, nI 97, nI 110, nI 103, nI 34, nI 58, nI 34] := rfl
theorem tl_18 : tx 18 = [nI 34, nI 44, nI 34, nI 100, nI 97, nI 116, nI 97, nI 116, nI 121, nI 112, nI 101, nI 34, nI 58, nI 34] := rfl
theorem tl_19 : tx 19 = [nI 119, nI 104, nI 111, nI 108, nI 101] := rfl
theorem tl_20 : tx 20 = [nI 114, nI 101, nI 97, nI 108] := rfl
theorem tl_21 : tx 21 = [nI 116, nI 114, nI 117, nI 116, nI 104] := rfl
theorem tl_22 : tx 22 = [nI 100, nI 97, nI 116, nI 101] := rfl
theorem tl_23 : tx 23 = [nI 34, nI 125] := rfl
theorem tl_24 : tx 24 = [nI 93, nI 125, nI 125] := rfl
theorem tl_25 : tx 25 = [nI 60, nI 115, nI 112, nI 97, nI 114, nI 113, nI 108, nI 62, nI 60, nI 104, nI 101, nI 97, nI 100, nI 62] := rfl
theorem tl_26 : tx 26 = [nI 60, nI 118, nI 97, nI 114, nI 105, nI 97, nI 98, nI 108, nI 101, nI 32, nI 110, nI 97, nI 109, nI 101, nI 61, nI 34] := rfl
theorem tl_27 : tx 27 = [nI 34, nI 47, nI 62] := rfl
theorem tl_28 : tx 28 = [nI 60, nI 47, nI 104, nI 101, nI 97, nI 100, nI 62, nI 60, nI 114, nI 101, nI 115, nI 117, nI 108, nI 116, nI 115, nI 62] := rfl
theorem tl_29 : tx 29 = [nI 60, nI 114, nI 101, nI 115, nI 117, nI 108, nI 116, nI 62] := rfl
theorem tl_30 : tx 30 = [nI 60, nI 98, nI 105, nI 110, nI 100, nI 105, nI 110, nI 103, nI 32, nI 110, nI 97, nI 109, nI 101, nI 61, nI 34] := rfl
theorem tl_31 : tx 31 = [nI 34, nI 62] := rfl
theorem tl_32 : tx 32 = [nI 60, nI 117, nI 114, nI 105] := rfl
theorem tl_33 : tx 33 = [nI 60, nI 98, nI 110, nI 111, nI 100, nI 101] := rfl
theorem tl_34 : tx 34 = [nI 60, nI 108, nI 105, nI 116, nI 101, nI 114, nI 97, nI 108] := rfl
theorem tl_35 : tx 35 = [nI 32, nI 120, nI 109, nI 108, nI 58, nI 108, nI 97, nI 110, nI 103, nI 61, nI 34] := rfl
theorem tl_36 : tx 36 = [nI 32, nI 100, nI 97, nI 116, nI 97, nI 116, nI 121, nI 112, nI 101, nI 61, nI 34] := rfl
theorem tl_37 : tx 37 = [nI 38, nI 97, nI 109, nI 112, nI 59] := rfl
theorem tl_38 : tx 38 = [nI 38, nI 108, nI 116, nI 59] := rfl
theorem tl_39 : tx 39 = [nI 38, nI 103, nI 116, nI 59] := rfl
theorem tl_40 : tx 40 = [nI 38, nI 35, nI 49, nI 51, nI 59] := rfl
theorem tl_41 : tx 41 = [nI 60, nI 47, nI 117, nI 114, nI 105, nI 62] := rfl
theorem tl_42 : tx 42 = [nI 60, nI 47, nI 98, nI 110, nI 111, nI 100, nI 101, nI 62] := rfl
theorem tl_43 : tx 43 = [nI 60, nI 47, nI 108, nI 105, nI 116, nI 101, nI 114, nI 97, nI 108, nI 62] := rfl
theorem tl_44 : tx 44 = [nI 60, nI 47, nI 98, nI 105, nI 110, nI 100, nI 105, nI 110, nI 103, nI 62] := rfl
theorem tl_45 : tx 45 = [nI 60, nI 47, nI 114, nI 101, nI 115, nI 117, nI 108, nI 116, nI 62] := rfl
theorem tl_46 : tx 46 = [nI 60, nI 47, nI 114, nI 101, nI 115, nI 117, nI 108, nI 116, nI 115, nI 62, nI 60, nI 47, nI 115, nI 112, nI 97, nI 114, nI 113, nI 108, nI 62] := rfl
theorem tl_47 : tx 47 = [nI 95, nI 58] := rfl
theorem tl_48 : tx 48 = [nI 60] := rfl
theorem tl_49 : tx 49 = [nI 62] := rfl
theorem tl_50 : tx 50 = [nI 95, nI 58] := rfl
theorem tl_51 : tx 51 = [] := rfl
theorem tl_52 : tx 52 = [nI 34] := rfl
theorem tl_53 : tx 53 = [nI 34, nI 64] := rfl
theorem tl_54 : tx 54 = [nI 34, nI 94, nI 94] := rfl
theorem tl_55 : tx 55 = [nI 123, nI 34, nI 104, nI 101, nI 97, nI 100, nI 34, nI 58, nI 123, nI 125, nI 44, nI 34, nI 98, nI 111, nI 111, nI 108, nI 101, nI 97, nI 110, nI 34, nI 58] := rfl
theorem tl_56 : tx 56 = [nI 116, nI 114, nI 117, nI 101] := rfl
theorem tl_57 : tx 57 = [nI 102, nI 97, nI 108, nI 115, nI 101] := rfl
theorem tl_58 : tx 58 = [nI 60, nI 115, nI 112, nI 97, nI 114, nI 113, nI 108, nI 62, nI 60, nI 104, nI 101, nI 97, nI 100, nI 62, nI 60, nI 47, nI 104, nI 101, nI 97, nI 100, nI 62, nI 60, nI 98, nI 111, nI 111, nI 108, nI 101, nI 97, nI 110, nI 62] := rfl
theorem tl_59 : tx 59 = [nI 60, nI 47, nI 98, nI 111, nI 111, nI 108, nI 101, nI 97, nI 110, nI 62, nI 60, nI 47, nI 115, nI 112, nI 97, nI 114, nI 113, nI 108, nI 62] := rfl
set_option maxRecDepth 20000 in
theorem sp_emitExtra_3 {g : aw_G} {S : aw_S} {O : List Int32} {P : xp_T} (hP : xp_M S P) (hW : xp_wd P) {t : Nat} (ht : t < xp_t P) (hk : xp_k P t = 3) (hO : O.length + 5 < 2147483648) : Sp g M_Mo_emitExtra 2 45 0 0 [.ref 33, .int (nI t)] (HP (MS S O)) (fun r1 h => r1 = none ∧ h = HP (MS S (O ++ w_e P t))) := by
  refine Sp.of rfl (aw_le rfl) ?_
  refine aw_aload_n (aw_d q_Mo_emitExtra 0 rfl) rfl rfl rfl ?_
  refine aw_getf (aw_d q_Mo_emitExtra 1 rfl) fL_Mo_19_Mo rfl rfl ?_
  refine aw_iload_n (aw_d q_Mo_emitExtra 2 rfl) rfl rfl ?_
  refine aw_ialdK (w := nI (3)) (aw_d q_Mo_emitExtra 3 rfl) rfl (by (have hz := (hW.2.2.2 t ht).2; have hz1 := hW.1; omega)) rfl ((hP.2.2.2 t ht).1.trans (congrArg nI hk)) ?_
  refine aw_iconst (v := nI 3) (aw_d q_Mo_emitExtra 4 rfl) (by decide) ?_
  refine aw_icmpN_ne (tgt := 45) (aw_d q_Mo_emitExtra 5 rfl) (by decide) (by (have hz := (hW.2.2.2 t ht).2; have hz1 := hW.1; omega)) (by (have hz := (hW.2.2.2 t ht).2; have hz1 := hW.1; omega)) (fun c7 => by exfalso; (have hz := (hW.2.2.2 t ht).2; have hz1 := hW.1; omega)) (fun c7 => ?_)
  refine aw_aload_n (aw_d q_Mo_emitExtra 6 rfl) rfl rfl rfl ?_
  refine aw_bipush (v := nI 97) (aw_d q_Mo_emitExtra 7 rfl) (by decide) ?_
  refine aw_aload_n (aw_d q_Mo_emitExtra 8 rfl) rfl rfl rfl ?_
  refine aw_getf (aw_d q_Mo_emitExtra 9 rfl) fL_Mo_22_Mo rfl rfl ?_
  refine aw_iload_n (aw_d q_Mo_emitExtra 10 rfl) rfl rfl ?_
  refine aw_ialdK (w := nI (xp_e P t)) (aw_d q_Mo_emitExtra 11 rfl) rfl (by (have hz := (hW.2.2.2 t ht).2; have hz1 := hW.1; omega)) rfl ((hP.2.2.2 t ht).2.1) ?_
  refine aw_bipush (v := nI 26) (aw_d q_Mo_emitExtra 12 rfl) (by decide) ?_
  refine aw_idivN (aw_d q_Mo_emitExtra 13 rfl) (by (have hz := (hW.2.2.2 t ht).2; have hz1 := hW.1; omega)) (by (have hz := (hW.2.2.2 t ht).2; have hz1 := hW.1; omega)) (by (have hz := (hW.2.2.2 t ht).2; have hz1 := hW.1; omega)) ?_
  refine aw_iaddN (aw_d q_Mo_emitExtra 14 rfl) ?_
  refine cVv (aw_d q_Mo_emitExtra 15 rfl) (sp_put1 (by (try simp only [List.length_append, List.length_cons, List.length_nil, eB_len]); omega)) vL_Mo_135_Mo rfl rfl rfl rfl rfl rfl ⟨aw_le rfl, aw_le rfl⟩ ?_
  refine aw_aload_n (aw_d q_Mo_emitExtra 16 rfl) rfl rfl rfl ?_
  refine aw_bipush (v := nI 97) (aw_d q_Mo_emitExtra 17 rfl) (by decide) ?_
  refine aw_aload_n (aw_d q_Mo_emitExtra 18 rfl) rfl rfl rfl ?_
  refine aw_getf (aw_d q_Mo_emitExtra 19 rfl) fL_Mo_22_Mo rfl rfl ?_
  refine aw_iload_n (aw_d q_Mo_emitExtra 20 rfl) rfl rfl ?_
  refine aw_ialdK (w := nI (xp_e P t)) (aw_d q_Mo_emitExtra 21 rfl) rfl (by (have hz := (hW.2.2.2 t ht).2; have hz1 := hW.1; omega)) rfl ((hP.2.2.2 t ht).2.1) ?_
  refine aw_bipush (v := nI 26) (aw_d q_Mo_emitExtra 22 rfl) (by decide) ?_
  refine aw_iremN (aw_d q_Mo_emitExtra 23 rfl) (by (have hz := (hW.2.2.2 t ht).2; have hz1 := hW.1; omega)) (by (have hz := (hW.2.2.2 t ht).2; have hz1 := hW.1; omega)) (by (have hz := (hW.2.2.2 t ht).2; have hz1 := hW.1; omega)) ?_
  refine aw_iaddN (aw_d q_Mo_emitExtra 24 rfl) ?_
  refine cVv (aw_d q_Mo_emitExtra 25 rfl) (sp_put1 (by (try simp only [List.length_append, List.length_cons, List.length_nil, eB_len]); omega)) vL_Mo_135_Mo rfl rfl rfl rfl rfl rfl ⟨aw_le rfl, aw_le rfl⟩ ?_
  refine aw_goto (tgt := 115) (aw_d q_Mo_emitExtra 26 rfl) (by decide) ?_
  exact aw_vret (aw_d q_Mo_emitExtra 63 rfl) rfl (⟨rfl, by simp [w_e, hk]⟩)
set_option maxRecDepth 20000 in
theorem sp_emitExtra_40 {g : aw_G} {S : aw_S} {O : List Int32} {P : xp_T} (hP : xp_M S P) (hW : xp_wd P) {t : Nat} (ht : t < xp_t P) (hk : xp_k P t = 4) (he : xp_e P t = 0) (hO : O.length + 5 < 2147483648) : Sp g M_Mo_emitExtra 2 45 0 0 [.ref 33, .int (nI t)] (HP (MS S O)) (fun r1 h => r1 = none ∧ h = HP (MS S (O ++ w_e P t))) := by
  refine Sp.of rfl (aw_le rfl) ?_
  refine aw_aload_n (aw_d q_Mo_emitExtra 0 rfl) rfl rfl rfl ?_
  refine aw_getf (aw_d q_Mo_emitExtra 1 rfl) fL_Mo_19_Mo rfl rfl ?_
  refine aw_iload_n (aw_d q_Mo_emitExtra 2 rfl) rfl rfl ?_
  refine aw_ialdK (w := nI (4)) (aw_d q_Mo_emitExtra 3 rfl) rfl (by (have hz := (hW.2.2.2 t ht).2; have hz1 := hW.1; omega)) rfl ((hP.2.2.2 t ht).1.trans (congrArg nI hk)) ?_
  refine aw_iconst (v := nI 3) (aw_d q_Mo_emitExtra 4 rfl) (by decide) ?_
  refine aw_icmpN_ne (tgt := 45) (aw_d q_Mo_emitExtra 5 rfl) (by decide) (by (have hz := (hW.2.2.2 t ht).2; have hz1 := hW.1; omega)) (by (have hz := (hW.2.2.2 t ht).2; have hz1 := hW.1; omega)) (fun c7 => ?_) (fun c7 => by exfalso; (have hz := (hW.2.2.2 t ht).2; have hz1 := hW.1; omega))
  refine aw_aload_n (aw_d q_Mo_emitExtra 27 rfl) rfl rfl rfl ?_
  refine aw_getf (aw_d q_Mo_emitExtra 28 rfl) fL_Mo_22_Mo rfl rfl ?_
  refine aw_iload_n (aw_d q_Mo_emitExtra 29 rfl) rfl rfl ?_
  refine aw_ialdK (w := nI (0)) (aw_d q_Mo_emitExtra 30 rfl) rfl (by (have hz := (hW.2.2.2 t ht).2; have hz1 := hW.1; omega)) rfl ((hP.2.2.2 t ht).2.1.trans (congrArg nI he)) ?_
  refine aw_ifN_ne (tgt := 65) (aw_d q_Mo_emitExtra 31 rfl) (by decide) (by (have hz := (hW.2.2.2 t ht).2; have hz1 := hW.1; omega)) (fun c51 => by exfalso; (have hz := (hW.2.2.2 t ht).2; have hz1 := hW.1; omega)) (fun c51 => ?_)
  refine aw_aload_n (aw_d q_Mo_emitExtra 32 rfl) rfl rfl rfl ?_
  refine aw_ldc2 (aw_d q_Mo_emitExtra 33 rfl) lL_Mo_139 ?_
  refine aw_iconst (v := nI 5) (aw_d q_Mo_emitExtra 34 rfl) (by decide) ?_
  refine cVv (aw_d q_Mo_emitExtra 35 rfl) (sp_emit (by (try simp only [List.length_append, List.length_cons, List.length_nil, eB_len]); omega)) vL_Mo_141_Mo rfl rfl rfl rfl rfl rfl ⟨aw_le rfl, aw_le rfl⟩ ?_
  refine aw_goto (tgt := 115) (aw_d q_Mo_emitExtra 36 rfl) (by decide) ?_
  exact aw_vret (aw_d q_Mo_emitExtra 63 rfl) rfl (⟨rfl, by simp [w_e, hk, he, eb_34_0, eb_34_1, eb_34_2, eb_44_0, eb_44_1, eb_44_2, eb_62_1, eb_63_0, eb_63_1, eb_63_2, eb_91_1, eb_123_0, eb_123_1, eb_123_2, eb_8766_2, eb_11298_0, eb_11298_1, eb_11298_2, eb_11387_0, eb_11387_1, eb_11387_2, eb_14939_2, eb_24158_2, eb_24378_2, eb_26430_2, eb_27710_2, eb_2240318_3, eb_2243106_3, eb_6126973_3, eb_6634786_3, eb_6765858_3, eb_7433278_3, eb_7697001_3, eb_644314171_4, eb_644641851_4, eb_1684108389_4, eb_1919246700_4, eb_1953658213_4, eb_163799184187_5, eb_164843319355_5, eb_259668470078_5, eb_422759588965_5, eb_435426304570_5, eb_439721161573_5, eb_474176698914_5, eb_482733079074_5, eb_500136506472_5, eb_512853240933_5, eb_66174531561790_6, eb_66419075146814_6, eb_122511348035134_6, eb_9128563980975394_7, eb_16996725057414462_7, eb_30515246123868524_7, eb_2334097659363883376_8, eb_2339740318023049582_8, eb_2462380988100801893_8, eb_2466419133851988069_8, eb_3180214656604140665_8, eb_3180236698239528033_8, eb_4336793171144239470_8, eb_4336793192635852094_8, eb_4336793196931343713_8, eb_4336799750816022076_8, eb_4336804166361248353_8, eb_4336810746235415668_8, eb_4351156112845270631_8, eb_4352840508821617711_8, eb_4353970888399544684_8, eb_4355655336186377278_8, eb_4355948828431576126_8, eb_4356776833549689452_8, eb_6736589144075891573_8, eb_7286945561811696930_8, eb_7522525835761050223_8, eb_7597120025407222562_8, eb_7814997844241883746_8, eb_7943852967226007922_8, eb_8243121641139499838_8, eb_8304140937415647602_8, eb_8872769000508236346_8, eb_8872784376777351738_8, eb_8898316964945948524_8, tl_0, tl_1, tl_2, tl_3, tl_5, tl_6, tl_7, tl_8, tl_9, tl_10, tl_11, tl_12, tl_13, tl_14, tl_15, tl_16, tl_17, tl_18, tl_19, tl_20, tl_21, tl_22, tl_23, tl_24, tl_25, tl_26, tl_27, tl_28, tl_29, tl_30, tl_31, tl_32, tl_33, tl_34, tl_35, tl_36, tl_37, tl_38, tl_39, tl_40, tl_41, tl_42, tl_43, tl_44, tl_45, tl_46, tl_47, tl_48, tl_49, tl_50, tl_51, tl_52, tl_53, tl_54, tl_55, tl_56, tl_57, tl_58, tl_59]⟩)
set_option maxRecDepth 20000 in
theorem sp_emitExtra_41 {g : aw_G} {S : aw_S} {O : List Int32} {P : xp_T} (hP : xp_M S P) (hW : xp_wd P) {t : Nat} (ht : t < xp_t P) (hk : xp_k P t = 4) (he : xp_e P t = 1) (hO : O.length + 5 < 2147483648) : Sp g M_Mo_emitExtra 2 45 0 0 [.ref 33, .int (nI t)] (HP (MS S O)) (fun r1 h => r1 = none ∧ h = HP (MS S (O ++ w_e P t))) := by
  refine Sp.of rfl (aw_le rfl) ?_
  refine aw_aload_n (aw_d q_Mo_emitExtra 0 rfl) rfl rfl rfl ?_
  refine aw_getf (aw_d q_Mo_emitExtra 1 rfl) fL_Mo_19_Mo rfl rfl ?_
  refine aw_iload_n (aw_d q_Mo_emitExtra 2 rfl) rfl rfl ?_
  refine aw_ialdK (w := nI (4)) (aw_d q_Mo_emitExtra 3 rfl) rfl (by (have hz := (hW.2.2.2 t ht).2; have hz1 := hW.1; omega)) rfl ((hP.2.2.2 t ht).1.trans (congrArg nI hk)) ?_
  refine aw_iconst (v := nI 3) (aw_d q_Mo_emitExtra 4 rfl) (by decide) ?_
  refine aw_icmpN_ne (tgt := 45) (aw_d q_Mo_emitExtra 5 rfl) (by decide) (by (have hz := (hW.2.2.2 t ht).2; have hz1 := hW.1; omega)) (by (have hz := (hW.2.2.2 t ht).2; have hz1 := hW.1; omega)) (fun c7 => ?_) (fun c7 => by exfalso; (have hz := (hW.2.2.2 t ht).2; have hz1 := hW.1; omega))
  refine aw_aload_n (aw_d q_Mo_emitExtra 27 rfl) rfl rfl rfl ?_
  refine aw_getf (aw_d q_Mo_emitExtra 28 rfl) fL_Mo_22_Mo rfl rfl ?_
  refine aw_iload_n (aw_d q_Mo_emitExtra 29 rfl) rfl rfl ?_
  refine aw_ialdK (w := nI (1)) (aw_d q_Mo_emitExtra 30 rfl) rfl (by (have hz := (hW.2.2.2 t ht).2; have hz1 := hW.1; omega)) rfl ((hP.2.2.2 t ht).2.1.trans (congrArg nI he)) ?_
  refine aw_ifN_ne (tgt := 65) (aw_d q_Mo_emitExtra 31 rfl) (by decide) (by (have hz := (hW.2.2.2 t ht).2; have hz1 := hW.1; omega)) (fun c51 => ?_) (fun c51 => by exfalso; (have hz := (hW.2.2.2 t ht).2; have hz1 := hW.1; omega))
  refine aw_aload_n (aw_d q_Mo_emitExtra 37 rfl) rfl rfl rfl ?_
  refine aw_getf (aw_d q_Mo_emitExtra 38 rfl) fL_Mo_22_Mo rfl rfl ?_
  refine aw_iload_n (aw_d q_Mo_emitExtra 39 rfl) rfl rfl ?_
  refine aw_ialdK (w := nI (1)) (aw_d q_Mo_emitExtra 40 rfl) rfl (by (have hz := (hW.2.2.2 t ht).2; have hz1 := hW.1; omega)) rfl ((hP.2.2.2 t ht).2.1.trans (congrArg nI he)) ?_
  refine aw_iconst (v := nI 1) (aw_d q_Mo_emitExtra 41 rfl) (by decide) ?_
  refine aw_icmpN_ne (tgt := 86) (aw_d q_Mo_emitExtra 42 rfl) (by decide) (by (have hz := (hW.2.2.2 t ht).2; have hz1 := hW.1; omega)) (by (have hz := (hW.2.2.2 t ht).2; have hz1 := hW.1; omega)) (fun c72 => by exfalso; (have hz := (hW.2.2.2 t ht).2; have hz1 := hW.1; omega)) (fun c72 => ?_)
  refine aw_aload_n (aw_d q_Mo_emitExtra 43 rfl) rfl rfl rfl ?_
  refine aw_ldc2 (aw_d q_Mo_emitExtra 44 rfl) lL_Mo_145 ?_
  refine aw_iconst (v := nI 4) (aw_d q_Mo_emitExtra 45 rfl) (by decide) ?_
  refine cVv (aw_d q_Mo_emitExtra 46 rfl) (sp_emit (by (try simp only [List.length_append, List.length_cons, List.length_nil, eB_len]); omega)) vL_Mo_141_Mo rfl rfl rfl rfl rfl rfl ⟨aw_le rfl, aw_le rfl⟩ ?_
  refine aw_goto (tgt := 115) (aw_d q_Mo_emitExtra 47 rfl) (by decide) ?_
  exact aw_vret (aw_d q_Mo_emitExtra 63 rfl) rfl (⟨rfl, by simp [w_e, hk, he, eb_34_0, eb_34_1, eb_34_2, eb_44_0, eb_44_1, eb_44_2, eb_62_1, eb_63_0, eb_63_1, eb_63_2, eb_91_1, eb_123_0, eb_123_1, eb_123_2, eb_8766_2, eb_11298_0, eb_11298_1, eb_11298_2, eb_11387_0, eb_11387_1, eb_11387_2, eb_14939_2, eb_24158_2, eb_24378_2, eb_26430_2, eb_27710_2, eb_2240318_3, eb_2243106_3, eb_6126973_3, eb_6634786_3, eb_6765858_3, eb_7433278_3, eb_7697001_3, eb_644314171_4, eb_644641851_4, eb_1684108389_4, eb_1919246700_4, eb_1953658213_4, eb_163799184187_5, eb_164843319355_5, eb_259668470078_5, eb_422759588965_5, eb_435426304570_5, eb_439721161573_5, eb_474176698914_5, eb_482733079074_5, eb_500136506472_5, eb_512853240933_5, eb_66174531561790_6, eb_66419075146814_6, eb_122511348035134_6, eb_9128563980975394_7, eb_16996725057414462_7, eb_30515246123868524_7, eb_2334097659363883376_8, eb_2339740318023049582_8, eb_2462380988100801893_8, eb_2466419133851988069_8, eb_3180214656604140665_8, eb_3180236698239528033_8, eb_4336793171144239470_8, eb_4336793192635852094_8, eb_4336793196931343713_8, eb_4336799750816022076_8, eb_4336804166361248353_8, eb_4336810746235415668_8, eb_4351156112845270631_8, eb_4352840508821617711_8, eb_4353970888399544684_8, eb_4355655336186377278_8, eb_4355948828431576126_8, eb_4356776833549689452_8, eb_6736589144075891573_8, eb_7286945561811696930_8, eb_7522525835761050223_8, eb_7597120025407222562_8, eb_7814997844241883746_8, eb_7943852967226007922_8, eb_8243121641139499838_8, eb_8304140937415647602_8, eb_8872769000508236346_8, eb_8872784376777351738_8, eb_8898316964945948524_8, tl_0, tl_1, tl_2, tl_3, tl_5, tl_6, tl_7, tl_8, tl_9, tl_10, tl_11, tl_12, tl_13, tl_14, tl_15, tl_16, tl_17, tl_18, tl_19, tl_20, tl_21, tl_22, tl_23, tl_24, tl_25, tl_26, tl_27, tl_28, tl_29, tl_30, tl_31, tl_32, tl_33, tl_34, tl_35, tl_36, tl_37, tl_38, tl_39, tl_40, tl_41, tl_42, tl_43, tl_44, tl_45, tl_46, tl_47, tl_48, tl_49, tl_50, tl_51, tl_52, tl_53, tl_54, tl_55, tl_56, tl_57, tl_58, tl_59]⟩)
set_option maxRecDepth 20000 in
theorem sp_emitExtra_42 {g : aw_G} {S : aw_S} {O : List Int32} {P : xp_T} (hP : xp_M S P) (hW : xp_wd P) {t : Nat} (ht : t < xp_t P) (hk : xp_k P t = 4) (he : xp_e P t = 2) (hO : O.length + 5 < 2147483648) : Sp g M_Mo_emitExtra 2 45 0 0 [.ref 33, .int (nI t)] (HP (MS S O)) (fun r1 h => r1 = none ∧ h = HP (MS S (O ++ w_e P t))) := by
  refine Sp.of rfl (aw_le rfl) ?_
  refine aw_aload_n (aw_d q_Mo_emitExtra 0 rfl) rfl rfl rfl ?_
  refine aw_getf (aw_d q_Mo_emitExtra 1 rfl) fL_Mo_19_Mo rfl rfl ?_
  refine aw_iload_n (aw_d q_Mo_emitExtra 2 rfl) rfl rfl ?_
  refine aw_ialdK (w := nI (4)) (aw_d q_Mo_emitExtra 3 rfl) rfl (by (have hz := (hW.2.2.2 t ht).2; have hz1 := hW.1; omega)) rfl ((hP.2.2.2 t ht).1.trans (congrArg nI hk)) ?_
  refine aw_iconst (v := nI 3) (aw_d q_Mo_emitExtra 4 rfl) (by decide) ?_
  refine aw_icmpN_ne (tgt := 45) (aw_d q_Mo_emitExtra 5 rfl) (by decide) (by (have hz := (hW.2.2.2 t ht).2; have hz1 := hW.1; omega)) (by (have hz := (hW.2.2.2 t ht).2; have hz1 := hW.1; omega)) (fun c7 => ?_) (fun c7 => by exfalso; (have hz := (hW.2.2.2 t ht).2; have hz1 := hW.1; omega))
  refine aw_aload_n (aw_d q_Mo_emitExtra 27 rfl) rfl rfl rfl ?_
  refine aw_getf (aw_d q_Mo_emitExtra 28 rfl) fL_Mo_22_Mo rfl rfl ?_
  refine aw_iload_n (aw_d q_Mo_emitExtra 29 rfl) rfl rfl ?_
  refine aw_ialdK (w := nI (2)) (aw_d q_Mo_emitExtra 30 rfl) rfl (by (have hz := (hW.2.2.2 t ht).2; have hz1 := hW.1; omega)) rfl ((hP.2.2.2 t ht).2.1.trans (congrArg nI he)) ?_
  refine aw_ifN_ne (tgt := 65) (aw_d q_Mo_emitExtra 31 rfl) (by decide) (by (have hz := (hW.2.2.2 t ht).2; have hz1 := hW.1; omega)) (fun c51 => ?_) (fun c51 => by exfalso; (have hz := (hW.2.2.2 t ht).2; have hz1 := hW.1; omega))
  refine aw_aload_n (aw_d q_Mo_emitExtra 37 rfl) rfl rfl rfl ?_
  refine aw_getf (aw_d q_Mo_emitExtra 38 rfl) fL_Mo_22_Mo rfl rfl ?_
  refine aw_iload_n (aw_d q_Mo_emitExtra 39 rfl) rfl rfl ?_
  refine aw_ialdK (w := nI (2)) (aw_d q_Mo_emitExtra 40 rfl) rfl (by (have hz := (hW.2.2.2 t ht).2; have hz1 := hW.1; omega)) rfl ((hP.2.2.2 t ht).2.1.trans (congrArg nI he)) ?_
  refine aw_iconst (v := nI 1) (aw_d q_Mo_emitExtra 41 rfl) (by decide) ?_
  refine aw_icmpN_ne (tgt := 86) (aw_d q_Mo_emitExtra 42 rfl) (by decide) (by (have hz := (hW.2.2.2 t ht).2; have hz1 := hW.1; omega)) (by (have hz := (hW.2.2.2 t ht).2; have hz1 := hW.1; omega)) (fun c72 => ?_) (fun c72 => by exfalso; (have hz := (hW.2.2.2 t ht).2; have hz1 := hW.1; omega))
  refine aw_aload_n (aw_d q_Mo_emitExtra 48 rfl) rfl rfl rfl ?_
  refine aw_getf (aw_d q_Mo_emitExtra 49 rfl) fL_Mo_22_Mo rfl rfl ?_
  refine aw_iload_n (aw_d q_Mo_emitExtra 50 rfl) rfl rfl ?_
  refine aw_ialdK (w := nI (2)) (aw_d q_Mo_emitExtra 51 rfl) rfl (by (have hz := (hW.2.2.2 t ht).2; have hz1 := hW.1; omega)) rfl ((hP.2.2.2 t ht).2.1.trans (congrArg nI he)) ?_
  refine aw_iconst (v := nI 2) (aw_d q_Mo_emitExtra 52 rfl) (by decide) ?_
  refine aw_icmpN_ne (tgt := 107) (aw_d q_Mo_emitExtra 53 rfl) (by decide) (by (have hz := (hW.2.2.2 t ht).2; have hz1 := hW.1; omega)) (by (have hz := (hW.2.2.2 t ht).2; have hz1 := hW.1; omega)) (fun c93 => by exfalso; (have hz := (hW.2.2.2 t ht).2; have hz1 := hW.1; omega)) (fun c93 => ?_)
  refine aw_aload_n (aw_d q_Mo_emitExtra 54 rfl) rfl rfl rfl ?_
  refine aw_ldc2 (aw_d q_Mo_emitExtra 55 rfl) lL_Mo_147 ?_
  refine aw_iconst (v := nI 5) (aw_d q_Mo_emitExtra 56 rfl) (by decide) ?_
  refine cVv (aw_d q_Mo_emitExtra 57 rfl) (sp_emit (by (try simp only [List.length_append, List.length_cons, List.length_nil, eB_len]); omega)) vL_Mo_141_Mo rfl rfl rfl rfl rfl rfl ⟨aw_le rfl, aw_le rfl⟩ ?_
  refine aw_goto (tgt := 115) (aw_d q_Mo_emitExtra 58 rfl) (by decide) ?_
  exact aw_vret (aw_d q_Mo_emitExtra 63 rfl) rfl (⟨rfl, by simp [w_e, hk, he, eb_34_0, eb_34_1, eb_34_2, eb_44_0, eb_44_1, eb_44_2, eb_62_1, eb_63_0, eb_63_1, eb_63_2, eb_91_1, eb_123_0, eb_123_1, eb_123_2, eb_8766_2, eb_11298_0, eb_11298_1, eb_11298_2, eb_11387_0, eb_11387_1, eb_11387_2, eb_14939_2, eb_24158_2, eb_24378_2, eb_26430_2, eb_27710_2, eb_2240318_3, eb_2243106_3, eb_6126973_3, eb_6634786_3, eb_6765858_3, eb_7433278_3, eb_7697001_3, eb_644314171_4, eb_644641851_4, eb_1684108389_4, eb_1919246700_4, eb_1953658213_4, eb_163799184187_5, eb_164843319355_5, eb_259668470078_5, eb_422759588965_5, eb_435426304570_5, eb_439721161573_5, eb_474176698914_5, eb_482733079074_5, eb_500136506472_5, eb_512853240933_5, eb_66174531561790_6, eb_66419075146814_6, eb_122511348035134_6, eb_9128563980975394_7, eb_16996725057414462_7, eb_30515246123868524_7, eb_2334097659363883376_8, eb_2339740318023049582_8, eb_2462380988100801893_8, eb_2466419133851988069_8, eb_3180214656604140665_8, eb_3180236698239528033_8, eb_4336793171144239470_8, eb_4336793192635852094_8, eb_4336793196931343713_8, eb_4336799750816022076_8, eb_4336804166361248353_8, eb_4336810746235415668_8, eb_4351156112845270631_8, eb_4352840508821617711_8, eb_4353970888399544684_8, eb_4355655336186377278_8, eb_4355948828431576126_8, eb_4356776833549689452_8, eb_6736589144075891573_8, eb_7286945561811696930_8, eb_7522525835761050223_8, eb_7597120025407222562_8, eb_7814997844241883746_8, eb_7943852967226007922_8, eb_8243121641139499838_8, eb_8304140937415647602_8, eb_8872769000508236346_8, eb_8872784376777351738_8, eb_8898316964945948524_8, tl_0, tl_1, tl_2, tl_3, tl_5, tl_6, tl_7, tl_8, tl_9, tl_10, tl_11, tl_12, tl_13, tl_14, tl_15, tl_16, tl_17, tl_18, tl_19, tl_20, tl_21, tl_22, tl_23, tl_24, tl_25, tl_26, tl_27, tl_28, tl_29, tl_30, tl_31, tl_32, tl_33, tl_34, tl_35, tl_36, tl_37, tl_38, tl_39, tl_40, tl_41, tl_42, tl_43, tl_44, tl_45, tl_46, tl_47, tl_48, tl_49, tl_50, tl_51, tl_52, tl_53, tl_54, tl_55, tl_56, tl_57, tl_58, tl_59]⟩)
set_option maxRecDepth 20000 in
theorem sp_emitExtra_43 {g : aw_G} {S : aw_S} {O : List Int32} {P : xp_T} (hP : xp_M S P) (hW : xp_wd P) {t : Nat} (ht : t < xp_t P) (hk : xp_k P t = 4) (he : xp_e P t = 3) (hO : O.length + 5 < 2147483648) : Sp g M_Mo_emitExtra 2 45 0 0 [.ref 33, .int (nI t)] (HP (MS S O)) (fun r1 h => r1 = none ∧ h = HP (MS S (O ++ w_e P t))) := by
  refine Sp.of rfl (aw_le rfl) ?_
  refine aw_aload_n (aw_d q_Mo_emitExtra 0 rfl) rfl rfl rfl ?_
  refine aw_getf (aw_d q_Mo_emitExtra 1 rfl) fL_Mo_19_Mo rfl rfl ?_
  refine aw_iload_n (aw_d q_Mo_emitExtra 2 rfl) rfl rfl ?_
  refine aw_ialdK (w := nI (4)) (aw_d q_Mo_emitExtra 3 rfl) rfl (by (have hz := (hW.2.2.2 t ht).2; have hz1 := hW.1; omega)) rfl ((hP.2.2.2 t ht).1.trans (congrArg nI hk)) ?_
  refine aw_iconst (v := nI 3) (aw_d q_Mo_emitExtra 4 rfl) (by decide) ?_
  refine aw_icmpN_ne (tgt := 45) (aw_d q_Mo_emitExtra 5 rfl) (by decide) (by (have hz := (hW.2.2.2 t ht).2; have hz1 := hW.1; omega)) (by (have hz := (hW.2.2.2 t ht).2; have hz1 := hW.1; omega)) (fun c7 => ?_) (fun c7 => by exfalso; (have hz := (hW.2.2.2 t ht).2; have hz1 := hW.1; omega))
  refine aw_aload_n (aw_d q_Mo_emitExtra 27 rfl) rfl rfl rfl ?_
  refine aw_getf (aw_d q_Mo_emitExtra 28 rfl) fL_Mo_22_Mo rfl rfl ?_
  refine aw_iload_n (aw_d q_Mo_emitExtra 29 rfl) rfl rfl ?_
  refine aw_ialdK (w := nI (3)) (aw_d q_Mo_emitExtra 30 rfl) rfl (by (have hz := (hW.2.2.2 t ht).2; have hz1 := hW.1; omega)) rfl ((hP.2.2.2 t ht).2.1.trans (congrArg nI he)) ?_
  refine aw_ifN_ne (tgt := 65) (aw_d q_Mo_emitExtra 31 rfl) (by decide) (by (have hz := (hW.2.2.2 t ht).2; have hz1 := hW.1; omega)) (fun c51 => ?_) (fun c51 => by exfalso; (have hz := (hW.2.2.2 t ht).2; have hz1 := hW.1; omega))
  refine aw_aload_n (aw_d q_Mo_emitExtra 37 rfl) rfl rfl rfl ?_
  refine aw_getf (aw_d q_Mo_emitExtra 38 rfl) fL_Mo_22_Mo rfl rfl ?_
  refine aw_iload_n (aw_d q_Mo_emitExtra 39 rfl) rfl rfl ?_
  refine aw_ialdK (w := nI (3)) (aw_d q_Mo_emitExtra 40 rfl) rfl (by (have hz := (hW.2.2.2 t ht).2; have hz1 := hW.1; omega)) rfl ((hP.2.2.2 t ht).2.1.trans (congrArg nI he)) ?_
  refine aw_iconst (v := nI 1) (aw_d q_Mo_emitExtra 41 rfl) (by decide) ?_
  refine aw_icmpN_ne (tgt := 86) (aw_d q_Mo_emitExtra 42 rfl) (by decide) (by (have hz := (hW.2.2.2 t ht).2; have hz1 := hW.1; omega)) (by (have hz := (hW.2.2.2 t ht).2; have hz1 := hW.1; omega)) (fun c72 => ?_) (fun c72 => by exfalso; (have hz := (hW.2.2.2 t ht).2; have hz1 := hW.1; omega))
  refine aw_aload_n (aw_d q_Mo_emitExtra 48 rfl) rfl rfl rfl ?_
  refine aw_getf (aw_d q_Mo_emitExtra 49 rfl) fL_Mo_22_Mo rfl rfl ?_
  refine aw_iload_n (aw_d q_Mo_emitExtra 50 rfl) rfl rfl ?_
  refine aw_ialdK (w := nI (3)) (aw_d q_Mo_emitExtra 51 rfl) rfl (by (have hz := (hW.2.2.2 t ht).2; have hz1 := hW.1; omega)) rfl ((hP.2.2.2 t ht).2.1.trans (congrArg nI he)) ?_
  refine aw_iconst (v := nI 2) (aw_d q_Mo_emitExtra 52 rfl) (by decide) ?_
  refine aw_icmpN_ne (tgt := 107) (aw_d q_Mo_emitExtra 53 rfl) (by decide) (by (have hz := (hW.2.2.2 t ht).2; have hz1 := hW.1; omega)) (by (have hz := (hW.2.2.2 t ht).2; have hz1 := hW.1; omega)) (fun c93 => ?_) (fun c93 => by exfalso; (have hz := (hW.2.2.2 t ht).2; have hz1 := hW.1; omega))
  refine aw_aload_n (aw_d q_Mo_emitExtra 59 rfl) rfl rfl rfl ?_
  refine aw_ldc2 (aw_d q_Mo_emitExtra 60 rfl) lL_Mo_149 ?_
  refine aw_iconst (v := nI 4) (aw_d q_Mo_emitExtra 61 rfl) (by decide) ?_
  refine cVv (aw_d q_Mo_emitExtra 62 rfl) (sp_emit (by (try simp only [List.length_append, List.length_cons, List.length_nil, eB_len]); omega)) vL_Mo_141_Mo rfl rfl rfl rfl rfl rfl ⟨aw_le rfl, aw_le rfl⟩ ?_
  exact aw_vret (aw_d q_Mo_emitExtra 63 rfl) rfl (⟨rfl, by simp [w_e, hk, he, eb_34_0, eb_34_1, eb_34_2, eb_44_0, eb_44_1, eb_44_2, eb_62_1, eb_63_0, eb_63_1, eb_63_2, eb_91_1, eb_123_0, eb_123_1, eb_123_2, eb_8766_2, eb_11298_0, eb_11298_1, eb_11298_2, eb_11387_0, eb_11387_1, eb_11387_2, eb_14939_2, eb_24158_2, eb_24378_2, eb_26430_2, eb_27710_2, eb_2240318_3, eb_2243106_3, eb_6126973_3, eb_6634786_3, eb_6765858_3, eb_7433278_3, eb_7697001_3, eb_644314171_4, eb_644641851_4, eb_1684108389_4, eb_1919246700_4, eb_1953658213_4, eb_163799184187_5, eb_164843319355_5, eb_259668470078_5, eb_422759588965_5, eb_435426304570_5, eb_439721161573_5, eb_474176698914_5, eb_482733079074_5, eb_500136506472_5, eb_512853240933_5, eb_66174531561790_6, eb_66419075146814_6, eb_122511348035134_6, eb_9128563980975394_7, eb_16996725057414462_7, eb_30515246123868524_7, eb_2334097659363883376_8, eb_2339740318023049582_8, eb_2462380988100801893_8, eb_2466419133851988069_8, eb_3180214656604140665_8, eb_3180236698239528033_8, eb_4336793171144239470_8, eb_4336793192635852094_8, eb_4336793196931343713_8, eb_4336799750816022076_8, eb_4336804166361248353_8, eb_4336810746235415668_8, eb_4351156112845270631_8, eb_4352840508821617711_8, eb_4353970888399544684_8, eb_4355655336186377278_8, eb_4355948828431576126_8, eb_4356776833549689452_8, eb_6736589144075891573_8, eb_7286945561811696930_8, eb_7522525835761050223_8, eb_7597120025407222562_8, eb_7814997844241883746_8, eb_7943852967226007922_8, eb_8243121641139499838_8, eb_8304140937415647602_8, eb_8872769000508236346_8, eb_8872784376777351738_8, eb_8898316964945948524_8, tl_0, tl_1, tl_2, tl_3, tl_5, tl_6, tl_7, tl_8, tl_9, tl_10, tl_11, tl_12, tl_13, tl_14, tl_15, tl_16, tl_17, tl_18, tl_19, tl_20, tl_21, tl_22, tl_23, tl_24, tl_25, tl_26, tl_27, tl_28, tl_29, tl_30, tl_31, tl_32, tl_33, tl_34, tl_35, tl_36, tl_37, tl_38, tl_39, tl_40, tl_41, tl_42, tl_43, tl_44, tl_45, tl_46, tl_47, tl_48, tl_49, tl_50, tl_51, tl_52, tl_53, tl_54, tl_55, tl_56, tl_57, tl_58, tl_59]⟩)
theorem sp_emitExtra {g : aw_G} {S : aw_S} {O : List Int32} {P : xp_T} (hP : xp_M S P) (hW : xp_wd P) {t : Nat} (ht : t < xp_t P) (hk : 2 < xp_k P t) (hO : O.length + 5 < 2147483648) : Sp g M_Mo_emitExtra 2 45 0 0 [.ref 33, .int (nI t)] (HP (MS S O)) (fun r h => r = none ∧ h = HP (MS S (O ++ w_e P t))) := by
  obtain ⟨h4, -, -, h44, -⟩ := hW.2.2.2 t ht
  rcases (show xp_k P t = 3 ∨ xp_k P t = 4 by omega) with h | h
  · exact sp_emitExtra_3 hP hW ht h hO
  · rcases (show xp_e P t = 0 ∨ xp_e P t = 1 ∨ xp_e P t = 2 ∨ xp_e P t = 3 by have := h44 h; omega) with e | e | e | e
    · exact sp_emitExtra_40 hP hW ht h e hO
    · exact sp_emitExtra_41 hP hW ht h e hO
    · exact sp_emitExtra_42 hP hW ht h e hO
    · exact sp_emitExtra_43 hP hW ht h e hO
theorem w1_a {b : Int32} (h : b.toInt = 34 ∨ b.toInt = 92) : w_1 b = [nI 92, b] := by
  rcases h with h | h
  · rw [w_1, if_pos h, (zi_eq (b := 34) (by decide)).mpr h]; rfl
  · rw [w_1, if_neg (by omega), if_pos h, (zi_eq (b := 92) (by decide)).mpr h]; rfl
theorem w1_9 {b : Int32} (h : b.toInt = 9) : w_1 b = [nI 92, nI 116] := by rw [w_1, if_neg (by omega), if_neg (by omega), if_pos h]; rfl
theorem w1_10 {b : Int32} (h : b.toInt = 10) : w_1 b = [nI 92, nI 110] := by rw [w_1, if_neg (by omega), if_neg (by omega), if_neg (by omega), if_pos h]; rfl
theorem w1_13 {b : Int32} (h : b.toInt = 13) : w_1 b = [nI 92, nI 114] := by rw [w_1, if_neg (by omega), if_neg (by omega), if_neg (by omega), if_neg (by omega), if_pos h]; rfl
theorem w1_n {b : Int32} (h : b.toInt ≠ 34 ∧ b.toInt ≠ 92 ∧ 32 ≤ b.toInt) : w_1 b = [b] := by rw [w_1, if_neg (by omega), if_neg (by omega), if_neg (by omega), if_neg (by omega), if_neg (by omega)]
theorem w2_38 {b : Int32} (h : b.toInt = 38) : w_2 b = tx 37 := by rw [w_2, if_pos h]
theorem w2_60 {b : Int32} (h : b.toInt = 60) : w_2 b = tx 38 := by rw [w_2, if_neg (by omega), if_pos h]
theorem w2_62 {b : Int32} (h : b.toInt = 62) : w_2 b = tx 39 := by rw [w_2, if_neg (by omega), if_neg (by omega), if_pos h]
theorem w2_13 {b : Int32} (h : b.toInt = 13) : w_2 b = tx 40 := by rw [w_2, if_neg (by omega), if_neg (by omega), if_neg (by omega), if_pos h]
theorem w2_n {b : Int32} (h : b.toInt ≠ 38 ∧ b.toInt ≠ 60 ∧ b.toInt ≠ 62 ∧ b.toInt ≠ 13) : w_2 b = [b] := by rw [w_2, if_neg (by omega), if_neg (by omega), if_neg (by omega), if_neg (by omega)]
theorem w3_34 {b : Int32} (h : b.toInt = 34) : w_3 b = [b, b] := by rw [w_3, if_pos h, (zi_eq (b := 34) (by decide)).mpr h]
theorem w3_n {b : Int32} (h : b.toInt ≠ 34) : w_3 b = [b] := by rw [w_3, if_neg h]
set_option maxRecDepth 20000 in
theorem lp_emitText_0 {g : aw_G} {S : aw_S} {O : List Int32} {P : xp_T} (hP : xp_M S P) (hW : xp_wd P) {t : Nat} (ht : t < xp_t P) (hO : (O ++ w_t w_0 P t).length + 10 < 2147483648) : ∀ (m k : Nat) (Q : List Int32) (x4 : Option Value), m + k = xp_l P t → Q ++ catB (fun i => w_0 (xp_b P t i)) m k = O ++ w_t w_0 P t → AW g M_Mo_emitText (aw_rm 2 45 0 0) (aw_F g 0 0 (fun r1 h => r1 = none ∧ h = HP (MS S (O ++ w_t w_0 P t)))) 2 [some (.ref 33), some (.int (nI t)), some (.int (nI 0)), some (.int (nI k)), x4] [] (HP (MS S Q)) 0 0 := by
  intro m
  induction m with
  | zero =>
    intro k Q x4 hk e
    refine aw_iload_n (aw_d q_Mo_emitText 2 rfl) rfl rfl ?_
    refine aw_aload_n (aw_d q_Mo_emitText 3 rfl) rfl rfl rfl ?_
    refine aw_getf (aw_d q_Mo_emitText 4 rfl) fL_Mo_25_Mo rfl rfl ?_
    refine aw_iload_n (aw_d q_Mo_emitText 5 rfl) rfl rfl ?_
    refine aw_ialdK (w := nI (xp_l P t)) (aw_d q_Mo_emitText 6 rfl) rfl (by (have hz := (hW.2.2.2 t ht).2; have hz1 := hW.1; omega)) rfl ((hP.2.2.2 t ht).2.2.1) ?_
    refine aw_icmpN_ge (tgt := 224) (aw_d q_Mo_emitText 7 rfl) (by decide) (by (have hz := (hW.2.2.2 t ht).2; have hz1 := hW.1; omega)) (by (have hz := (hW.2.2.2 t ht).2; have hz1 := hW.1; omega)) (fun c9 => ?_) (fun c9 => by exfalso; (have hz := (hW.2.2.2 t ht).2; have hz1 := hW.1; omega))
    exact aw_vret (aw_d q_Mo_emitText 109 rfl) rfl (⟨rfl, by rw [← e]; simp [catB]⟩)
  | succ m ih =>
    intro k Q x4 hk e
    have hq := congrArg List.length e
    simp only [catB, List.length_append, List.length_cons, List.length_nil] at hq
    refine aw_iload_n (aw_d q_Mo_emitText 2 rfl) rfl rfl ?_
    refine aw_aload_n (aw_d q_Mo_emitText 3 rfl) rfl rfl rfl ?_
    refine aw_getf (aw_d q_Mo_emitText 4 rfl) fL_Mo_25_Mo rfl rfl ?_
    refine aw_iload_n (aw_d q_Mo_emitText 5 rfl) rfl rfl ?_
    refine aw_ialdK (w := nI (xp_l P t)) (aw_d q_Mo_emitText 6 rfl) rfl (by (have hz := (hW.2.2.2 t ht).2; have hz1 := hW.1; omega)) rfl ((hP.2.2.2 t ht).2.2.1) ?_
    refine aw_icmpN_ge (tgt := 224) (aw_d q_Mo_emitText 7 rfl) (by decide) (by (have hz := (hW.2.2.2 t ht).2; have hz1 := hW.1; omega)) (by (have hz := (hW.2.2.2 t ht).2; have hz1 := hW.1; omega)) (fun c9 => by exfalso; (have hz := (hW.2.2.2 t ht).2; have hz1 := hW.1; omega)) (fun c9 => ?_)
    refine aw_aload_n (aw_d q_Mo_emitText 8 rfl) rfl rfl rfl ?_
    refine aw_getf (aw_d q_Mo_emitText 9 rfl) fL_Mo_28_Mo rfl rfl ?_
    refine aw_bipush (v := nI 20) (aw_d q_Mo_emitText 10 rfl) (by decide) ?_
    refine aw_iload_n (aw_d q_Mo_emitText 11 rfl) rfl rfl ?_
    refine aw_imulN (aw_d q_Mo_emitText 12 rfl) ?_
    refine aw_iload_n (aw_d q_Mo_emitText 13 rfl) rfl rfl ?_
    refine aw_iaddN (aw_d q_Mo_emitText 14 rfl) ?_
    refine aw_ialdK (w := (xp_b P t k)) (aw_d q_Mo_emitText 15 rfl) rfl (by (have hz := (hW.2.2.2 t ht).2; have hz1 := hW.1; omega)) rfl (by show S.2 40 (20 * t + k) = _; rw [Nat.mul_comm 20 t]; exact (hP.2.2.2 t ht).2.2.2 k (by omega)) ?_
    refine aw_istore (aw_d q_Mo_emitText 16 rfl) (aw_le rfl) rfl ?_
    have hb : _ ∨ _ := of_decide_eq_true ((hW.2.2.2 t ht).2.2.2.2.2.1 k (by omega))
    refine aw_iload_n (aw_d q_Mo_emitText 17 rfl) rfl rfl ?_
    refine aw_iconst (v := nI 1) (aw_d q_Mo_emitText 18 rfl) (by decide) ?_
    refine aw_icmpN_ne (tgt := 102) (aw_d q_Mo_emitText 19 rfl) (by decide) (by (have hz := (hW.2.2.2 t ht).2; have hz1 := hW.1; omega)) (by (have hz := (hW.2.2.2 t ht).2; have hz1 := hW.1; omega)) (fun c27 => ?_) (fun c27 => by exfalso; (have hz := (hW.2.2.2 t ht).2; have hz1 := hW.1; omega))
    refine aw_iload_n (aw_d q_Mo_emitText 51 rfl) rfl rfl ?_
    refine aw_iconst (v := nI 2) (aw_d q_Mo_emitText 52 rfl) (by decide) ?_
    refine aw_icmpN_ne (tgt := 125) (aw_d q_Mo_emitText 53 rfl) (by decide) (by (have hz := (hW.2.2.2 t ht).2; have hz1 := hW.1; omega)) (by (have hz := (hW.2.2.2 t ht).2; have hz1 := hW.1; omega)) (fun c104 => ?_) (fun c104 => by exfalso; (have hz := (hW.2.2.2 t ht).2; have hz1 := hW.1; omega))
    refine aw_iload_n (aw_d q_Mo_emitText 62 rfl) rfl rfl ?_
    refine aw_iconst (v := nI 2) (aw_d q_Mo_emitText 63 rfl) (by decide) ?_
    refine aw_icmpN_ne (tgt := 148) (aw_d q_Mo_emitText 64 rfl) (by decide) (by (have hz := (hW.2.2.2 t ht).2; have hz1 := hW.1; omega)) (by (have hz := (hW.2.2.2 t ht).2; have hz1 := hW.1; omega)) (fun c127 => ?_) (fun c127 => by exfalso; (have hz := (hW.2.2.2 t ht).2; have hz1 := hW.1; omega))
    refine aw_iload_n (aw_d q_Mo_emitText 73 rfl) rfl rfl ?_
    refine aw_iconst (v := nI 2) (aw_d q_Mo_emitText 74 rfl) (by decide) ?_
    refine aw_icmpN_ne (tgt := 171) (aw_d q_Mo_emitText 75 rfl) (by decide) (by (have hz := (hW.2.2.2 t ht).2; have hz1 := hW.1; omega)) (by (have hz := (hW.2.2.2 t ht).2; have hz1 := hW.1; omega)) (fun c150 => ?_) (fun c150 => by exfalso; (have hz := (hW.2.2.2 t ht).2; have hz1 := hW.1; omega))
    refine aw_iload_n (aw_d q_Mo_emitText 84 rfl) rfl rfl ?_
    refine aw_iconst (v := nI 2) (aw_d q_Mo_emitText 85 rfl) (by decide) ?_
    refine aw_icmpN_ne (tgt := 194) (aw_d q_Mo_emitText 86 rfl) (by decide) (by (have hz := (hW.2.2.2 t ht).2; have hz1 := hW.1; omega)) (by (have hz := (hW.2.2.2 t ht).2; have hz1 := hW.1; omega)) (fun c173 => ?_) (fun c173 => by exfalso; (have hz := (hW.2.2.2 t ht).2; have hz1 := hW.1; omega))
    refine aw_aload_n (aw_d q_Mo_emitText 95 rfl) rfl rfl rfl ?_
    refine aw_iload (aw_d q_Mo_emitText 96 rfl) rfl ?_
    refine cVv (aw_d q_Mo_emitText 97 rfl) (sp_put1 (by simp only [List.length_append, List.length_cons, List.length_nil, eB_len] at hO ⊢; omega)) vL_Mo_135_Mo rfl rfl rfl rfl rfl rfl ⟨aw_le rfl, aw_le rfl⟩ ?_
    refine aw_iload_n (aw_d q_Mo_emitText 98 rfl) rfl rfl ?_
    refine aw_iconst (v := nI 3) (aw_d q_Mo_emitText 99 rfl) (by decide) ?_
    refine aw_icmpN_ne (tgt := 218) (aw_d q_Mo_emitText 100 rfl) (by decide) (by (have hz := (hW.2.2.2 t ht).2; have hz1 := hW.1; omega)) (by (have hz := (hW.2.2.2 t ht).2; have hz1 := hW.1; omega)) (fun c202 => ?_) (fun c202 => by exfalso; (have hz := (hW.2.2.2 t ht).2; have hz1 := hW.1; omega))
    refine aw_iinc (aw_d q_Mo_emitText 107 rfl) rfl (ii1 _) (aw_le rfl) rfl ?_
    refine aw_goto (tgt := 2) (aw_d q_Mo_emitText 108 rfl) (by decide) ?_
    exact ih (k + 1) _ _ (by omega) (by rw [← e]; simp [catB, w_0])
set_option maxRecDepth 20000 in
theorem sp_emitText_0 {g : aw_G} {S : aw_S} {O : List Int32} {P : xp_T} (hP : xp_M S P) (hW : xp_wd P) {t : Nat} (ht : t < xp_t P) (hO : O.length + 200 < 2147483648) : Sp g M_Mo_emitText 2 45 0 0 [.ref 33, .int (nI t), .int (nI 0)] (HP (MS S O)) (fun r1 h => r1 = none ∧ h = HP (MS S (O ++ w_t w_0 P t))) := by
  refine Sp.of rfl (aw_le rfl) ?_
  have hl := w_t_len (f := w_0) hW ht w_0_len
  refine aw_iconst (v := nI 0) (aw_d q_Mo_emitText 0 rfl) (by decide) ?_
  refine aw_istore_n (aw_d q_Mo_emitText 1 rfl) rfl (aw_le rfl) rfl ?_
  exact lp_emitText_0 hP hW ht (by rw [List.length_append]; omega) (xp_l P t) 0 O _ (by omega) rfl
set_option maxRecDepth 20000 in
theorem lp_emitText_1 {g : aw_G} {S : aw_S} {O : List Int32} {P : xp_T} (hP : xp_M S P) (hW : xp_wd P) {t : Nat} (ht : t < xp_t P) (hO : (O ++ w_t w_1 P t).length + 10 < 2147483648) : ∀ (m k : Nat) (Q : List Int32) (x4 : Option Value), m + k = xp_l P t → Q ++ catB (fun i => w_1 (xp_b P t i)) m k = O ++ w_t w_1 P t → AW g M_Mo_emitText (aw_rm 2 45 0 0) (aw_F g 0 0 (fun r1 h => r1 = none ∧ h = HP (MS S (O ++ w_t w_1 P t)))) 2 [some (.ref 33), some (.int (nI t)), some (.int (nI 1)), some (.int (nI k)), x4] [] (HP (MS S Q)) 0 0 := by
  intro m
  induction m with
  | zero =>
    intro k Q x4 hk e
    refine aw_iload_n (aw_d q_Mo_emitText 2 rfl) rfl rfl ?_
    refine aw_aload_n (aw_d q_Mo_emitText 3 rfl) rfl rfl rfl ?_
    refine aw_getf (aw_d q_Mo_emitText 4 rfl) fL_Mo_25_Mo rfl rfl ?_
    refine aw_iload_n (aw_d q_Mo_emitText 5 rfl) rfl rfl ?_
    refine aw_ialdK (w := nI (xp_l P t)) (aw_d q_Mo_emitText 6 rfl) rfl (by (have hz := (hW.2.2.2 t ht).2; have hz1 := hW.1; omega)) rfl ((hP.2.2.2 t ht).2.2.1) ?_
    refine aw_icmpN_ge (tgt := 224) (aw_d q_Mo_emitText 7 rfl) (by decide) (by (have hz := (hW.2.2.2 t ht).2; have hz1 := hW.1; omega)) (by (have hz := (hW.2.2.2 t ht).2; have hz1 := hW.1; omega)) (fun c9 => ?_) (fun c9 => by exfalso; (have hz := (hW.2.2.2 t ht).2; have hz1 := hW.1; omega))
    exact aw_vret (aw_d q_Mo_emitText 109 rfl) rfl (⟨rfl, by rw [← e]; simp [catB]⟩)
  | succ m ih =>
    intro k Q x4 hk e
    have hq := congrArg List.length e
    simp only [catB, List.length_append, List.length_cons, List.length_nil] at hq
    refine aw_iload_n (aw_d q_Mo_emitText 2 rfl) rfl rfl ?_
    refine aw_aload_n (aw_d q_Mo_emitText 3 rfl) rfl rfl rfl ?_
    refine aw_getf (aw_d q_Mo_emitText 4 rfl) fL_Mo_25_Mo rfl rfl ?_
    refine aw_iload_n (aw_d q_Mo_emitText 5 rfl) rfl rfl ?_
    refine aw_ialdK (w := nI (xp_l P t)) (aw_d q_Mo_emitText 6 rfl) rfl (by (have hz := (hW.2.2.2 t ht).2; have hz1 := hW.1; omega)) rfl ((hP.2.2.2 t ht).2.2.1) ?_
    refine aw_icmpN_ge (tgt := 224) (aw_d q_Mo_emitText 7 rfl) (by decide) (by (have hz := (hW.2.2.2 t ht).2; have hz1 := hW.1; omega)) (by (have hz := (hW.2.2.2 t ht).2; have hz1 := hW.1; omega)) (fun c9 => by exfalso; (have hz := (hW.2.2.2 t ht).2; have hz1 := hW.1; omega)) (fun c9 => ?_)
    refine aw_aload_n (aw_d q_Mo_emitText 8 rfl) rfl rfl rfl ?_
    refine aw_getf (aw_d q_Mo_emitText 9 rfl) fL_Mo_28_Mo rfl rfl ?_
    refine aw_bipush (v := nI 20) (aw_d q_Mo_emitText 10 rfl) (by decide) ?_
    refine aw_iload_n (aw_d q_Mo_emitText 11 rfl) rfl rfl ?_
    refine aw_imulN (aw_d q_Mo_emitText 12 rfl) ?_
    refine aw_iload_n (aw_d q_Mo_emitText 13 rfl) rfl rfl ?_
    refine aw_iaddN (aw_d q_Mo_emitText 14 rfl) ?_
    refine aw_ialdK (w := (xp_b P t k)) (aw_d q_Mo_emitText 15 rfl) rfl (by (have hz := (hW.2.2.2 t ht).2; have hz1 := hW.1; omega)) rfl (by show S.2 40 (20 * t + k) = _; rw [Nat.mul_comm 20 t]; exact (hP.2.2.2 t ht).2.2.2 k (by omega)) ?_
    refine aw_istore (aw_d q_Mo_emitText 16 rfl) (aw_le rfl) rfl ?_
    have hb : _ ∨ _ := of_decide_eq_true ((hW.2.2.2 t ht).2.2.2.2.2.1 k (by omega))
    refine aw_iload_n (aw_d q_Mo_emitText 17 rfl) rfl rfl ?_
    refine aw_iconst (v := nI 1) (aw_d q_Mo_emitText 18 rfl) (by decide) ?_
    refine aw_icmpN_ne (tgt := 102) (aw_d q_Mo_emitText 19 rfl) (by decide) (by (have hz := (hW.2.2.2 t ht).2; have hz1 := hW.1; omega)) (by (have hz := (hW.2.2.2 t ht).2; have hz1 := hW.1; omega)) (fun c27 => by exfalso; (have hz := (hW.2.2.2 t ht).2; have hz1 := hW.1; omega)) (fun c27 => ?_)
    refine aw_iload (aw_d q_Mo_emitText 20 rfl) rfl ?_
    refine aw_bipush (v := nI 34) (aw_d q_Mo_emitText 21 rfl) (by decide) ?_
    refine aw_icmpI_eq (tgt := 51) (aw_d q_Mo_emitText 22 rfl) (by decide) (by (have hz := (hW.2.2.2 t ht).2; have hz1 := hW.1; omega)) (fun c34 => ?_) (fun c34 => ?_)
    · refine aw_aload_n (aw_d q_Mo_emitText 29 rfl) rfl rfl rfl ?_
      refine aw_bipush (v := nI 92) (aw_d q_Mo_emitText 30 rfl) (by decide) ?_
      refine cVv (aw_d q_Mo_emitText 31 rfl) (sp_put1 (by simp only [List.length_append, List.length_cons, List.length_nil, eB_len] at hO ⊢; omega)) vL_Mo_135_Mo rfl rfl rfl rfl rfl rfl ⟨aw_le rfl, aw_le rfl⟩ ?_
      refine aw_aload_n (aw_d q_Mo_emitText 32 rfl) rfl rfl rfl ?_
      refine aw_iload (aw_d q_Mo_emitText 33 rfl) rfl ?_
      refine aw_bipush (v := nI 9) (aw_d q_Mo_emitText 34 rfl) (by decide) ?_
      refine aw_icmpI_ne (tgt := 70) (aw_d q_Mo_emitText 35 rfl) (by decide) (by (have hz := (hW.2.2.2 t ht).2; have hz1 := hW.1; omega)) (fun c62 => ?_) (fun c62 => ?_)
      · refine aw_iload (aw_d q_Mo_emitText 38 rfl) rfl ?_
        refine aw_bipush (v := nI 10) (aw_d q_Mo_emitText 39 rfl) (by decide) ?_
        refine aw_icmpI_ne (tgt := 82) (aw_d q_Mo_emitText 40 rfl) (by decide) (by (have hz := (hW.2.2.2 t ht).2; have hz1 := hW.1; omega)) (fun c74 => ?_) (fun c74 => ?_)
        · refine aw_iload (aw_d q_Mo_emitText 43 rfl) rfl ?_
          refine aw_bipush (v := nI 13) (aw_d q_Mo_emitText 44 rfl) (by decide) ?_
          refine aw_icmpI_ne (tgt := 94) (aw_d q_Mo_emitText 45 rfl) (by decide) (by (have hz := (hW.2.2.2 t ht).2; have hz1 := hW.1; omega)) (fun c86 => ?_) (fun c86 => ?_)
          · refine aw_iload (aw_d q_Mo_emitText 48 rfl) rfl ?_
            refine cVv (aw_d q_Mo_emitText 49 rfl) (sp_put1 (by simp only [List.length_append, List.length_cons, List.length_nil, eB_len] at hO ⊢; omega)) vL_Mo_135_Mo rfl rfl rfl rfl rfl rfl ⟨aw_le rfl, aw_le rfl⟩ ?_
            refine aw_goto (tgt := 218) (aw_d q_Mo_emitText 50 rfl) (by decide) ?_
            refine aw_iinc (aw_d q_Mo_emitText 107 rfl) rfl (ii1 _) (aw_le rfl) rfl ?_
            refine aw_goto (tgt := 2) (aw_d q_Mo_emitText 108 rfl) (by decide) ?_
            exact ih (k + 1) _ _ (by omega) (by rw [← e]; simp only [catB]; first | (exfalso; omega) | (rw [w1_a (b := xp_b P t k) (by omega)]; simp [List.append_assoc]; done) | (rw [w1_9 (b := xp_b P t k) (by omega)]; simp [List.append_assoc]; done) | (rw [w1_10 (b := xp_b P t k) (by omega)]; simp [List.append_assoc]; done) | (rw [w1_13 (b := xp_b P t k) (by omega)]; simp [List.append_assoc]; done) | (rw [w1_n (b := xp_b P t k) (by omega)]; simp [List.append_assoc]; done))
          · refine aw_bipush (v := nI 114) (aw_d q_Mo_emitText 46 rfl) (by decide) ?_
            refine aw_goto (tgt := 96) (aw_d q_Mo_emitText 47 rfl) (by decide) ?_
            refine cVv (aw_d q_Mo_emitText 49 rfl) (sp_put1 (by simp only [List.length_append, List.length_cons, List.length_nil, eB_len] at hO ⊢; omega)) vL_Mo_135_Mo rfl rfl rfl rfl rfl rfl ⟨aw_le rfl, aw_le rfl⟩ ?_
            refine aw_goto (tgt := 218) (aw_d q_Mo_emitText 50 rfl) (by decide) ?_
            refine aw_iinc (aw_d q_Mo_emitText 107 rfl) rfl (ii1 _) (aw_le rfl) rfl ?_
            refine aw_goto (tgt := 2) (aw_d q_Mo_emitText 108 rfl) (by decide) ?_
            exact ih (k + 1) _ _ (by omega) (by rw [← e]; simp only [catB]; first | (exfalso; omega) | (rw [w1_a (b := xp_b P t k) (by omega)]; simp [List.append_assoc]; done) | (rw [w1_9 (b := xp_b P t k) (by omega)]; simp [List.append_assoc]; done) | (rw [w1_10 (b := xp_b P t k) (by omega)]; simp [List.append_assoc]; done) | (rw [w1_13 (b := xp_b P t k) (by omega)]; simp [List.append_assoc]; done) | (rw [w1_n (b := xp_b P t k) (by omega)]; simp [List.append_assoc]; done))
        · refine aw_bipush (v := nI 110) (aw_d q_Mo_emitText 41 rfl) (by decide) ?_
          refine aw_goto (tgt := 96) (aw_d q_Mo_emitText 42 rfl) (by decide) ?_
          refine cVv (aw_d q_Mo_emitText 49 rfl) (sp_put1 (by simp only [List.length_append, List.length_cons, List.length_nil, eB_len] at hO ⊢; omega)) vL_Mo_135_Mo rfl rfl rfl rfl rfl rfl ⟨aw_le rfl, aw_le rfl⟩ ?_
          refine aw_goto (tgt := 218) (aw_d q_Mo_emitText 50 rfl) (by decide) ?_
          refine aw_iinc (aw_d q_Mo_emitText 107 rfl) rfl (ii1 _) (aw_le rfl) rfl ?_
          refine aw_goto (tgt := 2) (aw_d q_Mo_emitText 108 rfl) (by decide) ?_
          exact ih (k + 1) _ _ (by omega) (by rw [← e]; simp only [catB]; first | (exfalso; omega) | (rw [w1_a (b := xp_b P t k) (by omega)]; simp [List.append_assoc]; done) | (rw [w1_9 (b := xp_b P t k) (by omega)]; simp [List.append_assoc]; done) | (rw [w1_10 (b := xp_b P t k) (by omega)]; simp [List.append_assoc]; done) | (rw [w1_13 (b := xp_b P t k) (by omega)]; simp [List.append_assoc]; done) | (rw [w1_n (b := xp_b P t k) (by omega)]; simp [List.append_assoc]; done))
      · refine aw_bipush (v := nI 116) (aw_d q_Mo_emitText 36 rfl) (by decide) ?_
        refine aw_goto (tgt := 96) (aw_d q_Mo_emitText 37 rfl) (by decide) ?_
        refine cVv (aw_d q_Mo_emitText 49 rfl) (sp_put1 (by simp only [List.length_append, List.length_cons, List.length_nil, eB_len] at hO ⊢; omega)) vL_Mo_135_Mo rfl rfl rfl rfl rfl rfl ⟨aw_le rfl, aw_le rfl⟩ ?_
        refine aw_goto (tgt := 218) (aw_d q_Mo_emitText 50 rfl) (by decide) ?_
        refine aw_iinc (aw_d q_Mo_emitText 107 rfl) rfl (ii1 _) (aw_le rfl) rfl ?_
        refine aw_goto (tgt := 2) (aw_d q_Mo_emitText 108 rfl) (by decide) ?_
        exact ih (k + 1) _ _ (by omega) (by rw [← e]; simp only [catB]; first | (exfalso; omega) | (rw [w1_a (b := xp_b P t k) (by omega)]; simp [List.append_assoc]; done) | (rw [w1_9 (b := xp_b P t k) (by omega)]; simp [List.append_assoc]; done) | (rw [w1_10 (b := xp_b P t k) (by omega)]; simp [List.append_assoc]; done) | (rw [w1_13 (b := xp_b P t k) (by omega)]; simp [List.append_assoc]; done) | (rw [w1_n (b := xp_b P t k) (by omega)]; simp [List.append_assoc]; done))
    · refine aw_iload (aw_d q_Mo_emitText 23 rfl) rfl ?_
      refine aw_bipush (v := nI 92) (aw_d q_Mo_emitText 24 rfl) (by decide) ?_
      refine aw_icmpI_eq (tgt := 51) (aw_d q_Mo_emitText 25 rfl) (by decide) (by (have hz := (hW.2.2.2 t ht).2; have hz1 := hW.1; omega)) (fun c41 => ?_) (fun c41 => ?_)
      · refine aw_aload_n (aw_d q_Mo_emitText 29 rfl) rfl rfl rfl ?_
        refine aw_bipush (v := nI 92) (aw_d q_Mo_emitText 30 rfl) (by decide) ?_
        refine cVv (aw_d q_Mo_emitText 31 rfl) (sp_put1 (by simp only [List.length_append, List.length_cons, List.length_nil, eB_len] at hO ⊢; omega)) vL_Mo_135_Mo rfl rfl rfl rfl rfl rfl ⟨aw_le rfl, aw_le rfl⟩ ?_
        refine aw_aload_n (aw_d q_Mo_emitText 32 rfl) rfl rfl rfl ?_
        refine aw_iload (aw_d q_Mo_emitText 33 rfl) rfl ?_
        refine aw_bipush (v := nI 9) (aw_d q_Mo_emitText 34 rfl) (by decide) ?_
        refine aw_icmpI_ne (tgt := 70) (aw_d q_Mo_emitText 35 rfl) (by decide) (by (have hz := (hW.2.2.2 t ht).2; have hz1 := hW.1; omega)) (fun c62 => ?_) (fun c62 => ?_)
        · refine aw_iload (aw_d q_Mo_emitText 38 rfl) rfl ?_
          refine aw_bipush (v := nI 10) (aw_d q_Mo_emitText 39 rfl) (by decide) ?_
          refine aw_icmpI_ne (tgt := 82) (aw_d q_Mo_emitText 40 rfl) (by decide) (by (have hz := (hW.2.2.2 t ht).2; have hz1 := hW.1; omega)) (fun c74 => ?_) (fun c74 => ?_)
          · refine aw_iload (aw_d q_Mo_emitText 43 rfl) rfl ?_
            refine aw_bipush (v := nI 13) (aw_d q_Mo_emitText 44 rfl) (by decide) ?_
            refine aw_icmpI_ne (tgt := 94) (aw_d q_Mo_emitText 45 rfl) (by decide) (by (have hz := (hW.2.2.2 t ht).2; have hz1 := hW.1; omega)) (fun c86 => ?_) (fun c86 => ?_)
            · refine aw_iload (aw_d q_Mo_emitText 48 rfl) rfl ?_
              refine cVv (aw_d q_Mo_emitText 49 rfl) (sp_put1 (by simp only [List.length_append, List.length_cons, List.length_nil, eB_len] at hO ⊢; omega)) vL_Mo_135_Mo rfl rfl rfl rfl rfl rfl ⟨aw_le rfl, aw_le rfl⟩ ?_
              refine aw_goto (tgt := 218) (aw_d q_Mo_emitText 50 rfl) (by decide) ?_
              refine aw_iinc (aw_d q_Mo_emitText 107 rfl) rfl (ii1 _) (aw_le rfl) rfl ?_
              refine aw_goto (tgt := 2) (aw_d q_Mo_emitText 108 rfl) (by decide) ?_
              exact ih (k + 1) _ _ (by omega) (by rw [← e]; simp only [catB]; first | (exfalso; omega) | (rw [w1_a (b := xp_b P t k) (by omega)]; simp [List.append_assoc]; done) | (rw [w1_9 (b := xp_b P t k) (by omega)]; simp [List.append_assoc]; done) | (rw [w1_10 (b := xp_b P t k) (by omega)]; simp [List.append_assoc]; done) | (rw [w1_13 (b := xp_b P t k) (by omega)]; simp [List.append_assoc]; done) | (rw [w1_n (b := xp_b P t k) (by omega)]; simp [List.append_assoc]; done))
            · refine aw_bipush (v := nI 114) (aw_d q_Mo_emitText 46 rfl) (by decide) ?_
              refine aw_goto (tgt := 96) (aw_d q_Mo_emitText 47 rfl) (by decide) ?_
              refine cVv (aw_d q_Mo_emitText 49 rfl) (sp_put1 (by simp only [List.length_append, List.length_cons, List.length_nil, eB_len] at hO ⊢; omega)) vL_Mo_135_Mo rfl rfl rfl rfl rfl rfl ⟨aw_le rfl, aw_le rfl⟩ ?_
              refine aw_goto (tgt := 218) (aw_d q_Mo_emitText 50 rfl) (by decide) ?_
              refine aw_iinc (aw_d q_Mo_emitText 107 rfl) rfl (ii1 _) (aw_le rfl) rfl ?_
              refine aw_goto (tgt := 2) (aw_d q_Mo_emitText 108 rfl) (by decide) ?_
              exact ih (k + 1) _ _ (by omega) (by rw [← e]; simp only [catB]; first | (exfalso; omega) | (rw [w1_a (b := xp_b P t k) (by omega)]; simp [List.append_assoc]; done) | (rw [w1_9 (b := xp_b P t k) (by omega)]; simp [List.append_assoc]; done) | (rw [w1_10 (b := xp_b P t k) (by omega)]; simp [List.append_assoc]; done) | (rw [w1_13 (b := xp_b P t k) (by omega)]; simp [List.append_assoc]; done) | (rw [w1_n (b := xp_b P t k) (by omega)]; simp [List.append_assoc]; done))
          · refine aw_bipush (v := nI 110) (aw_d q_Mo_emitText 41 rfl) (by decide) ?_
            refine aw_goto (tgt := 96) (aw_d q_Mo_emitText 42 rfl) (by decide) ?_
            refine cVv (aw_d q_Mo_emitText 49 rfl) (sp_put1 (by simp only [List.length_append, List.length_cons, List.length_nil, eB_len] at hO ⊢; omega)) vL_Mo_135_Mo rfl rfl rfl rfl rfl rfl ⟨aw_le rfl, aw_le rfl⟩ ?_
            refine aw_goto (tgt := 218) (aw_d q_Mo_emitText 50 rfl) (by decide) ?_
            refine aw_iinc (aw_d q_Mo_emitText 107 rfl) rfl (ii1 _) (aw_le rfl) rfl ?_
            refine aw_goto (tgt := 2) (aw_d q_Mo_emitText 108 rfl) (by decide) ?_
            exact ih (k + 1) _ _ (by omega) (by rw [← e]; simp only [catB]; first | (exfalso; omega) | (rw [w1_a (b := xp_b P t k) (by omega)]; simp [List.append_assoc]; done) | (rw [w1_9 (b := xp_b P t k) (by omega)]; simp [List.append_assoc]; done) | (rw [w1_10 (b := xp_b P t k) (by omega)]; simp [List.append_assoc]; done) | (rw [w1_13 (b := xp_b P t k) (by omega)]; simp [List.append_assoc]; done) | (rw [w1_n (b := xp_b P t k) (by omega)]; simp [List.append_assoc]; done))
        · refine aw_bipush (v := nI 116) (aw_d q_Mo_emitText 36 rfl) (by decide) ?_
          refine aw_goto (tgt := 96) (aw_d q_Mo_emitText 37 rfl) (by decide) ?_
          refine cVv (aw_d q_Mo_emitText 49 rfl) (sp_put1 (by simp only [List.length_append, List.length_cons, List.length_nil, eB_len] at hO ⊢; omega)) vL_Mo_135_Mo rfl rfl rfl rfl rfl rfl ⟨aw_le rfl, aw_le rfl⟩ ?_
          refine aw_goto (tgt := 218) (aw_d q_Mo_emitText 50 rfl) (by decide) ?_
          refine aw_iinc (aw_d q_Mo_emitText 107 rfl) rfl (ii1 _) (aw_le rfl) rfl ?_
          refine aw_goto (tgt := 2) (aw_d q_Mo_emitText 108 rfl) (by decide) ?_
          exact ih (k + 1) _ _ (by omega) (by rw [← e]; simp only [catB]; first | (exfalso; omega) | (rw [w1_a (b := xp_b P t k) (by omega)]; simp [List.append_assoc]; done) | (rw [w1_9 (b := xp_b P t k) (by omega)]; simp [List.append_assoc]; done) | (rw [w1_10 (b := xp_b P t k) (by omega)]; simp [List.append_assoc]; done) | (rw [w1_13 (b := xp_b P t k) (by omega)]; simp [List.append_assoc]; done) | (rw [w1_n (b := xp_b P t k) (by omega)]; simp [List.append_assoc]; done))
      · refine aw_iload (aw_d q_Mo_emitText 26 rfl) rfl ?_
        refine aw_bipush (v := nI 32) (aw_d q_Mo_emitText 27 rfl) (by decide) ?_
        refine aw_icmpI_ge (tgt := 102) (aw_d q_Mo_emitText 28 rfl) (by decide) (by (have hz := (hW.2.2.2 t ht).2; have hz1 := hW.1; omega)) (fun c48 => ?_) (fun c48 => ?_)
        · refine aw_iload_n (aw_d q_Mo_emitText 51 rfl) rfl rfl ?_
          refine aw_iconst (v := nI 2) (aw_d q_Mo_emitText 52 rfl) (by decide) ?_
          refine aw_icmpN_ne (tgt := 125) (aw_d q_Mo_emitText 53 rfl) (by decide) (by (have hz := (hW.2.2.2 t ht).2; have hz1 := hW.1; omega)) (by (have hz := (hW.2.2.2 t ht).2; have hz1 := hW.1; omega)) (fun c104 => ?_) (fun c104 => by exfalso; (have hz := (hW.2.2.2 t ht).2; have hz1 := hW.1; omega))
          refine aw_iload_n (aw_d q_Mo_emitText 62 rfl) rfl rfl ?_
          refine aw_iconst (v := nI 2) (aw_d q_Mo_emitText 63 rfl) (by decide) ?_
          refine aw_icmpN_ne (tgt := 148) (aw_d q_Mo_emitText 64 rfl) (by decide) (by (have hz := (hW.2.2.2 t ht).2; have hz1 := hW.1; omega)) (by (have hz := (hW.2.2.2 t ht).2; have hz1 := hW.1; omega)) (fun c127 => ?_) (fun c127 => by exfalso; (have hz := (hW.2.2.2 t ht).2; have hz1 := hW.1; omega))
          refine aw_iload_n (aw_d q_Mo_emitText 73 rfl) rfl rfl ?_
          refine aw_iconst (v := nI 2) (aw_d q_Mo_emitText 74 rfl) (by decide) ?_
          refine aw_icmpN_ne (tgt := 171) (aw_d q_Mo_emitText 75 rfl) (by decide) (by (have hz := (hW.2.2.2 t ht).2; have hz1 := hW.1; omega)) (by (have hz := (hW.2.2.2 t ht).2; have hz1 := hW.1; omega)) (fun c150 => ?_) (fun c150 => by exfalso; (have hz := (hW.2.2.2 t ht).2; have hz1 := hW.1; omega))
          refine aw_iload_n (aw_d q_Mo_emitText 84 rfl) rfl rfl ?_
          refine aw_iconst (v := nI 2) (aw_d q_Mo_emitText 85 rfl) (by decide) ?_
          refine aw_icmpN_ne (tgt := 194) (aw_d q_Mo_emitText 86 rfl) (by decide) (by (have hz := (hW.2.2.2 t ht).2; have hz1 := hW.1; omega)) (by (have hz := (hW.2.2.2 t ht).2; have hz1 := hW.1; omega)) (fun c173 => ?_) (fun c173 => by exfalso; (have hz := (hW.2.2.2 t ht).2; have hz1 := hW.1; omega))
          refine aw_aload_n (aw_d q_Mo_emitText 95 rfl) rfl rfl rfl ?_
          refine aw_iload (aw_d q_Mo_emitText 96 rfl) rfl ?_
          refine cVv (aw_d q_Mo_emitText 97 rfl) (sp_put1 (by simp only [List.length_append, List.length_cons, List.length_nil, eB_len] at hO ⊢; omega)) vL_Mo_135_Mo rfl rfl rfl rfl rfl rfl ⟨aw_le rfl, aw_le rfl⟩ ?_
          refine aw_iload_n (aw_d q_Mo_emitText 98 rfl) rfl rfl ?_
          refine aw_iconst (v := nI 3) (aw_d q_Mo_emitText 99 rfl) (by decide) ?_
          refine aw_icmpN_ne (tgt := 218) (aw_d q_Mo_emitText 100 rfl) (by decide) (by (have hz := (hW.2.2.2 t ht).2; have hz1 := hW.1; omega)) (by (have hz := (hW.2.2.2 t ht).2; have hz1 := hW.1; omega)) (fun c202 => ?_) (fun c202 => by exfalso; (have hz := (hW.2.2.2 t ht).2; have hz1 := hW.1; omega))
          refine aw_iinc (aw_d q_Mo_emitText 107 rfl) rfl (ii1 _) (aw_le rfl) rfl ?_
          refine aw_goto (tgt := 2) (aw_d q_Mo_emitText 108 rfl) (by decide) ?_
          exact ih (k + 1) _ _ (by omega) (by rw [← e]; simp only [catB]; first | (exfalso; omega) | (rw [w1_a (b := xp_b P t k) (by omega)]; simp [List.append_assoc]; done) | (rw [w1_9 (b := xp_b P t k) (by omega)]; simp [List.append_assoc]; done) | (rw [w1_10 (b := xp_b P t k) (by omega)]; simp [List.append_assoc]; done) | (rw [w1_13 (b := xp_b P t k) (by omega)]; simp [List.append_assoc]; done) | (rw [w1_n (b := xp_b P t k) (by omega)]; simp [List.append_assoc]; done))
        · refine aw_aload_n (aw_d q_Mo_emitText 29 rfl) rfl rfl rfl ?_
          refine aw_bipush (v := nI 92) (aw_d q_Mo_emitText 30 rfl) (by decide) ?_
          refine cVv (aw_d q_Mo_emitText 31 rfl) (sp_put1 (by simp only [List.length_append, List.length_cons, List.length_nil, eB_len] at hO ⊢; omega)) vL_Mo_135_Mo rfl rfl rfl rfl rfl rfl ⟨aw_le rfl, aw_le rfl⟩ ?_
          refine aw_aload_n (aw_d q_Mo_emitText 32 rfl) rfl rfl rfl ?_
          refine aw_iload (aw_d q_Mo_emitText 33 rfl) rfl ?_
          refine aw_bipush (v := nI 9) (aw_d q_Mo_emitText 34 rfl) (by decide) ?_
          refine aw_icmpI_ne (tgt := 70) (aw_d q_Mo_emitText 35 rfl) (by decide) (by (have hz := (hW.2.2.2 t ht).2; have hz1 := hW.1; omega)) (fun c62 => ?_) (fun c62 => ?_)
          · refine aw_iload (aw_d q_Mo_emitText 38 rfl) rfl ?_
            refine aw_bipush (v := nI 10) (aw_d q_Mo_emitText 39 rfl) (by decide) ?_
            refine aw_icmpI_ne (tgt := 82) (aw_d q_Mo_emitText 40 rfl) (by decide) (by (have hz := (hW.2.2.2 t ht).2; have hz1 := hW.1; omega)) (fun c74 => ?_) (fun c74 => ?_)
            · refine aw_iload (aw_d q_Mo_emitText 43 rfl) rfl ?_
              refine aw_bipush (v := nI 13) (aw_d q_Mo_emitText 44 rfl) (by decide) ?_
              refine aw_icmpI_ne (tgt := 94) (aw_d q_Mo_emitText 45 rfl) (by decide) (by (have hz := (hW.2.2.2 t ht).2; have hz1 := hW.1; omega)) (fun c86 => ?_) (fun c86 => ?_)
              · refine aw_iload (aw_d q_Mo_emitText 48 rfl) rfl ?_
                refine cVv (aw_d q_Mo_emitText 49 rfl) (sp_put1 (by simp only [List.length_append, List.length_cons, List.length_nil, eB_len] at hO ⊢; omega)) vL_Mo_135_Mo rfl rfl rfl rfl rfl rfl ⟨aw_le rfl, aw_le rfl⟩ ?_
                refine aw_goto (tgt := 218) (aw_d q_Mo_emitText 50 rfl) (by decide) ?_
                refine aw_iinc (aw_d q_Mo_emitText 107 rfl) rfl (ii1 _) (aw_le rfl) rfl ?_
                refine aw_goto (tgt := 2) (aw_d q_Mo_emitText 108 rfl) (by decide) ?_
                exact ih (k + 1) _ _ (by omega) (by rw [← e]; simp only [catB]; first | (exfalso; omega) | (rw [w1_a (b := xp_b P t k) (by omega)]; simp [List.append_assoc]; done) | (rw [w1_9 (b := xp_b P t k) (by omega)]; simp [List.append_assoc]; done) | (rw [w1_10 (b := xp_b P t k) (by omega)]; simp [List.append_assoc]; done) | (rw [w1_13 (b := xp_b P t k) (by omega)]; simp [List.append_assoc]; done) | (rw [w1_n (b := xp_b P t k) (by omega)]; simp [List.append_assoc]; done))
              · refine aw_bipush (v := nI 114) (aw_d q_Mo_emitText 46 rfl) (by decide) ?_
                refine aw_goto (tgt := 96) (aw_d q_Mo_emitText 47 rfl) (by decide) ?_
                refine cVv (aw_d q_Mo_emitText 49 rfl) (sp_put1 (by simp only [List.length_append, List.length_cons, List.length_nil, eB_len] at hO ⊢; omega)) vL_Mo_135_Mo rfl rfl rfl rfl rfl rfl ⟨aw_le rfl, aw_le rfl⟩ ?_
                refine aw_goto (tgt := 218) (aw_d q_Mo_emitText 50 rfl) (by decide) ?_
                refine aw_iinc (aw_d q_Mo_emitText 107 rfl) rfl (ii1 _) (aw_le rfl) rfl ?_
                refine aw_goto (tgt := 2) (aw_d q_Mo_emitText 108 rfl) (by decide) ?_
                exact ih (k + 1) _ _ (by omega) (by rw [← e]; simp only [catB]; first | (exfalso; omega) | (rw [w1_a (b := xp_b P t k) (by omega)]; simp [List.append_assoc]; done) | (rw [w1_9 (b := xp_b P t k) (by omega)]; simp [List.append_assoc]; done) | (rw [w1_10 (b := xp_b P t k) (by omega)]; simp [List.append_assoc]; done) | (rw [w1_13 (b := xp_b P t k) (by omega)]; simp [List.append_assoc]; done) | (rw [w1_n (b := xp_b P t k) (by omega)]; simp [List.append_assoc]; done))
            · refine aw_bipush (v := nI 110) (aw_d q_Mo_emitText 41 rfl) (by decide) ?_
              refine aw_goto (tgt := 96) (aw_d q_Mo_emitText 42 rfl) (by decide) ?_
              refine cVv (aw_d q_Mo_emitText 49 rfl) (sp_put1 (by simp only [List.length_append, List.length_cons, List.length_nil, eB_len] at hO ⊢; omega)) vL_Mo_135_Mo rfl rfl rfl rfl rfl rfl ⟨aw_le rfl, aw_le rfl⟩ ?_
              refine aw_goto (tgt := 218) (aw_d q_Mo_emitText 50 rfl) (by decide) ?_
              refine aw_iinc (aw_d q_Mo_emitText 107 rfl) rfl (ii1 _) (aw_le rfl) rfl ?_
              refine aw_goto (tgt := 2) (aw_d q_Mo_emitText 108 rfl) (by decide) ?_
              exact ih (k + 1) _ _ (by omega) (by rw [← e]; simp only [catB]; first | (exfalso; omega) | (rw [w1_a (b := xp_b P t k) (by omega)]; simp [List.append_assoc]; done) | (rw [w1_9 (b := xp_b P t k) (by omega)]; simp [List.append_assoc]; done) | (rw [w1_10 (b := xp_b P t k) (by omega)]; simp [List.append_assoc]; done) | (rw [w1_13 (b := xp_b P t k) (by omega)]; simp [List.append_assoc]; done) | (rw [w1_n (b := xp_b P t k) (by omega)]; simp [List.append_assoc]; done))
          · refine aw_bipush (v := nI 116) (aw_d q_Mo_emitText 36 rfl) (by decide) ?_
            refine aw_goto (tgt := 96) (aw_d q_Mo_emitText 37 rfl) (by decide) ?_
            refine cVv (aw_d q_Mo_emitText 49 rfl) (sp_put1 (by simp only [List.length_append, List.length_cons, List.length_nil, eB_len] at hO ⊢; omega)) vL_Mo_135_Mo rfl rfl rfl rfl rfl rfl ⟨aw_le rfl, aw_le rfl⟩ ?_
            refine aw_goto (tgt := 218) (aw_d q_Mo_emitText 50 rfl) (by decide) ?_
            refine aw_iinc (aw_d q_Mo_emitText 107 rfl) rfl (ii1 _) (aw_le rfl) rfl ?_
            refine aw_goto (tgt := 2) (aw_d q_Mo_emitText 108 rfl) (by decide) ?_
            exact ih (k + 1) _ _ (by omega) (by rw [← e]; simp only [catB]; first | (exfalso; omega) | (rw [w1_a (b := xp_b P t k) (by omega)]; simp [List.append_assoc]; done) | (rw [w1_9 (b := xp_b P t k) (by omega)]; simp [List.append_assoc]; done) | (rw [w1_10 (b := xp_b P t k) (by omega)]; simp [List.append_assoc]; done) | (rw [w1_13 (b := xp_b P t k) (by omega)]; simp [List.append_assoc]; done) | (rw [w1_n (b := xp_b P t k) (by omega)]; simp [List.append_assoc]; done))
set_option maxRecDepth 20000 in
theorem sp_emitText_1 {g : aw_G} {S : aw_S} {O : List Int32} {P : xp_T} (hP : xp_M S P) (hW : xp_wd P) {t : Nat} (ht : t < xp_t P) (hO : O.length + 200 < 2147483648) : Sp g M_Mo_emitText 2 45 0 0 [.ref 33, .int (nI t), .int (nI 1)] (HP (MS S O)) (fun r1 h => r1 = none ∧ h = HP (MS S (O ++ w_t w_1 P t))) := by
  refine Sp.of rfl (aw_le rfl) ?_
  have hl := w_t_len (f := w_1) hW ht w_1_len
  refine aw_iconst (v := nI 0) (aw_d q_Mo_emitText 0 rfl) (by decide) ?_
  refine aw_istore_n (aw_d q_Mo_emitText 1 rfl) rfl (aw_le rfl) rfl ?_
  exact lp_emitText_1 hP hW ht (by rw [List.length_append]; omega) (xp_l P t) 0 O _ (by omega) rfl
set_option maxRecDepth 20000 in
theorem lp_emitText_2 {g : aw_G} {S : aw_S} {O : List Int32} {P : xp_T} (hP : xp_M S P) (hW : xp_wd P) {t : Nat} (ht : t < xp_t P) (hO : (O ++ w_t w_2 P t).length + 10 < 2147483648) : ∀ (m k : Nat) (Q : List Int32) (x4 : Option Value), m + k = xp_l P t → Q ++ catB (fun i => w_2 (xp_b P t i)) m k = O ++ w_t w_2 P t → AW g M_Mo_emitText (aw_rm 2 45 0 0) (aw_F g 0 0 (fun r1 h => r1 = none ∧ h = HP (MS S (O ++ w_t w_2 P t)))) 2 [some (.ref 33), some (.int (nI t)), some (.int (nI 2)), some (.int (nI k)), x4] [] (HP (MS S Q)) 0 0 := by
  intro m
  induction m with
  | zero =>
    intro k Q x4 hk e
    refine aw_iload_n (aw_d q_Mo_emitText 2 rfl) rfl rfl ?_
    refine aw_aload_n (aw_d q_Mo_emitText 3 rfl) rfl rfl rfl ?_
    refine aw_getf (aw_d q_Mo_emitText 4 rfl) fL_Mo_25_Mo rfl rfl ?_
    refine aw_iload_n (aw_d q_Mo_emitText 5 rfl) rfl rfl ?_
    refine aw_ialdK (w := nI (xp_l P t)) (aw_d q_Mo_emitText 6 rfl) rfl (by (have hz := (hW.2.2.2 t ht).2; have hz1 := hW.1; omega)) rfl ((hP.2.2.2 t ht).2.2.1) ?_
    refine aw_icmpN_ge (tgt := 224) (aw_d q_Mo_emitText 7 rfl) (by decide) (by (have hz := (hW.2.2.2 t ht).2; have hz1 := hW.1; omega)) (by (have hz := (hW.2.2.2 t ht).2; have hz1 := hW.1; omega)) (fun c9 => ?_) (fun c9 => by exfalso; (have hz := (hW.2.2.2 t ht).2; have hz1 := hW.1; omega))
    exact aw_vret (aw_d q_Mo_emitText 109 rfl) rfl (⟨rfl, by rw [← e]; simp [catB]⟩)
  | succ m ih =>
    intro k Q x4 hk e
    have hq := congrArg List.length e
    simp only [catB, List.length_append, List.length_cons, List.length_nil] at hq
    refine aw_iload_n (aw_d q_Mo_emitText 2 rfl) rfl rfl ?_
    refine aw_aload_n (aw_d q_Mo_emitText 3 rfl) rfl rfl rfl ?_
    refine aw_getf (aw_d q_Mo_emitText 4 rfl) fL_Mo_25_Mo rfl rfl ?_
    refine aw_iload_n (aw_d q_Mo_emitText 5 rfl) rfl rfl ?_
    refine aw_ialdK (w := nI (xp_l P t)) (aw_d q_Mo_emitText 6 rfl) rfl (by (have hz := (hW.2.2.2 t ht).2; have hz1 := hW.1; omega)) rfl ((hP.2.2.2 t ht).2.2.1) ?_
    refine aw_icmpN_ge (tgt := 224) (aw_d q_Mo_emitText 7 rfl) (by decide) (by (have hz := (hW.2.2.2 t ht).2; have hz1 := hW.1; omega)) (by (have hz := (hW.2.2.2 t ht).2; have hz1 := hW.1; omega)) (fun c9 => by exfalso; (have hz := (hW.2.2.2 t ht).2; have hz1 := hW.1; omega)) (fun c9 => ?_)
    refine aw_aload_n (aw_d q_Mo_emitText 8 rfl) rfl rfl rfl ?_
    refine aw_getf (aw_d q_Mo_emitText 9 rfl) fL_Mo_28_Mo rfl rfl ?_
    refine aw_bipush (v := nI 20) (aw_d q_Mo_emitText 10 rfl) (by decide) ?_
    refine aw_iload_n (aw_d q_Mo_emitText 11 rfl) rfl rfl ?_
    refine aw_imulN (aw_d q_Mo_emitText 12 rfl) ?_
    refine aw_iload_n (aw_d q_Mo_emitText 13 rfl) rfl rfl ?_
    refine aw_iaddN (aw_d q_Mo_emitText 14 rfl) ?_
    refine aw_ialdK (w := (xp_b P t k)) (aw_d q_Mo_emitText 15 rfl) rfl (by (have hz := (hW.2.2.2 t ht).2; have hz1 := hW.1; omega)) rfl (by show S.2 40 (20 * t + k) = _; rw [Nat.mul_comm 20 t]; exact (hP.2.2.2 t ht).2.2.2 k (by omega)) ?_
    refine aw_istore (aw_d q_Mo_emitText 16 rfl) (aw_le rfl) rfl ?_
    have hb : _ ∨ _ := of_decide_eq_true ((hW.2.2.2 t ht).2.2.2.2.2.1 k (by omega))
    refine aw_iload_n (aw_d q_Mo_emitText 17 rfl) rfl rfl ?_
    refine aw_iconst (v := nI 1) (aw_d q_Mo_emitText 18 rfl) (by decide) ?_
    refine aw_icmpN_ne (tgt := 102) (aw_d q_Mo_emitText 19 rfl) (by decide) (by (have hz := (hW.2.2.2 t ht).2; have hz1 := hW.1; omega)) (by (have hz := (hW.2.2.2 t ht).2; have hz1 := hW.1; omega)) (fun c27 => ?_) (fun c27 => by exfalso; (have hz := (hW.2.2.2 t ht).2; have hz1 := hW.1; omega))
    refine aw_iload_n (aw_d q_Mo_emitText 51 rfl) rfl rfl ?_
    refine aw_iconst (v := nI 2) (aw_d q_Mo_emitText 52 rfl) (by decide) ?_
    refine aw_icmpN_ne (tgt := 125) (aw_d q_Mo_emitText 53 rfl) (by decide) (by (have hz := (hW.2.2.2 t ht).2; have hz1 := hW.1; omega)) (by (have hz := (hW.2.2.2 t ht).2; have hz1 := hW.1; omega)) (fun c104 => by exfalso; (have hz := (hW.2.2.2 t ht).2; have hz1 := hW.1; omega)) (fun c104 => ?_)
    refine aw_iload (aw_d q_Mo_emitText 54 rfl) rfl ?_
    refine aw_bipush (v := nI 38) (aw_d q_Mo_emitText 55 rfl) (by decide) ?_
    refine aw_icmpI_ne (tgt := 125) (aw_d q_Mo_emitText 56 rfl) (by decide) (by (have hz := (hW.2.2.2 t ht).2; have hz1 := hW.1; omega)) (fun c111 => ?_) (fun c111 => ?_)
    · refine aw_iload_n (aw_d q_Mo_emitText 62 rfl) rfl rfl ?_
      refine aw_iconst (v := nI 2) (aw_d q_Mo_emitText 63 rfl) (by decide) ?_
      refine aw_icmpN_ne (tgt := 148) (aw_d q_Mo_emitText 64 rfl) (by decide) (by (have hz := (hW.2.2.2 t ht).2; have hz1 := hW.1; omega)) (by (have hz := (hW.2.2.2 t ht).2; have hz1 := hW.1; omega)) (fun c127 => by exfalso; (have hz := (hW.2.2.2 t ht).2; have hz1 := hW.1; omega)) (fun c127 => ?_)
      refine aw_iload (aw_d q_Mo_emitText 65 rfl) rfl ?_
      refine aw_bipush (v := nI 60) (aw_d q_Mo_emitText 66 rfl) (by decide) ?_
      refine aw_icmpI_ne (tgt := 148) (aw_d q_Mo_emitText 67 rfl) (by decide) (by (have hz := (hW.2.2.2 t ht).2; have hz1 := hW.1; omega)) (fun c134 => ?_) (fun c134 => ?_)
      · refine aw_iload_n (aw_d q_Mo_emitText 73 rfl) rfl rfl ?_
        refine aw_iconst (v := nI 2) (aw_d q_Mo_emitText 74 rfl) (by decide) ?_
        refine aw_icmpN_ne (tgt := 171) (aw_d q_Mo_emitText 75 rfl) (by decide) (by (have hz := (hW.2.2.2 t ht).2; have hz1 := hW.1; omega)) (by (have hz := (hW.2.2.2 t ht).2; have hz1 := hW.1; omega)) (fun c150 => by exfalso; (have hz := (hW.2.2.2 t ht).2; have hz1 := hW.1; omega)) (fun c150 => ?_)
        refine aw_iload (aw_d q_Mo_emitText 76 rfl) rfl ?_
        refine aw_bipush (v := nI 62) (aw_d q_Mo_emitText 77 rfl) (by decide) ?_
        refine aw_icmpI_ne (tgt := 171) (aw_d q_Mo_emitText 78 rfl) (by decide) (by (have hz := (hW.2.2.2 t ht).2; have hz1 := hW.1; omega)) (fun c157 => ?_) (fun c157 => ?_)
        · refine aw_iload_n (aw_d q_Mo_emitText 84 rfl) rfl rfl ?_
          refine aw_iconst (v := nI 2) (aw_d q_Mo_emitText 85 rfl) (by decide) ?_
          refine aw_icmpN_ne (tgt := 194) (aw_d q_Mo_emitText 86 rfl) (by decide) (by (have hz := (hW.2.2.2 t ht).2; have hz1 := hW.1; omega)) (by (have hz := (hW.2.2.2 t ht).2; have hz1 := hW.1; omega)) (fun c173 => by exfalso; (have hz := (hW.2.2.2 t ht).2; have hz1 := hW.1; omega)) (fun c173 => ?_)
          refine aw_iload (aw_d q_Mo_emitText 87 rfl) rfl ?_
          refine aw_bipush (v := nI 13) (aw_d q_Mo_emitText 88 rfl) (by decide) ?_
          refine aw_icmpI_ne (tgt := 194) (aw_d q_Mo_emitText 89 rfl) (by decide) (by (have hz := (hW.2.2.2 t ht).2; have hz1 := hW.1; omega)) (fun c180 => ?_) (fun c180 => ?_)
          · refine aw_aload_n (aw_d q_Mo_emitText 95 rfl) rfl rfl rfl ?_
            refine aw_iload (aw_d q_Mo_emitText 96 rfl) rfl ?_
            refine cVv (aw_d q_Mo_emitText 97 rfl) (sp_put1 (by simp only [List.length_append, List.length_cons, List.length_nil, eB_len] at hO ⊢; omega)) vL_Mo_135_Mo rfl rfl rfl rfl rfl rfl ⟨aw_le rfl, aw_le rfl⟩ ?_
            refine aw_iload_n (aw_d q_Mo_emitText 98 rfl) rfl rfl ?_
            refine aw_iconst (v := nI 3) (aw_d q_Mo_emitText 99 rfl) (by decide) ?_
            refine aw_icmpN_ne (tgt := 218) (aw_d q_Mo_emitText 100 rfl) (by decide) (by (have hz := (hW.2.2.2 t ht).2; have hz1 := hW.1; omega)) (by (have hz := (hW.2.2.2 t ht).2; have hz1 := hW.1; omega)) (fun c202 => ?_) (fun c202 => by exfalso; (have hz := (hW.2.2.2 t ht).2; have hz1 := hW.1; omega))
            refine aw_iinc (aw_d q_Mo_emitText 107 rfl) rfl (ii1 _) (aw_le rfl) rfl ?_
            refine aw_goto (tgt := 2) (aw_d q_Mo_emitText 108 rfl) (by decide) ?_
            exact ih (k + 1) _ _ (by omega) (by rw [← e]; simp only [catB]; first | (exfalso; omega) | (rw [w2_38 (b := xp_b P t k) (by omega)]; simp [eb_34_0, eb_34_1, eb_34_2, eb_44_0, eb_44_1, eb_44_2, eb_62_1, eb_63_0, eb_63_1, eb_63_2, eb_91_1, eb_123_0, eb_123_1, eb_123_2, eb_8766_2, eb_11298_0, eb_11298_1, eb_11298_2, eb_11387_0, eb_11387_1, eb_11387_2, eb_14939_2, eb_24158_2, eb_24378_2, eb_26430_2, eb_27710_2, eb_2240318_3, eb_2243106_3, eb_6126973_3, eb_6634786_3, eb_6765858_3, eb_7433278_3, eb_7697001_3, eb_644314171_4, eb_644641851_4, eb_1684108389_4, eb_1919246700_4, eb_1953658213_4, eb_163799184187_5, eb_164843319355_5, eb_259668470078_5, eb_422759588965_5, eb_435426304570_5, eb_439721161573_5, eb_474176698914_5, eb_482733079074_5, eb_500136506472_5, eb_512853240933_5, eb_66174531561790_6, eb_66419075146814_6, eb_122511348035134_6, eb_9128563980975394_7, eb_16996725057414462_7, eb_30515246123868524_7, eb_2334097659363883376_8, eb_2339740318023049582_8, eb_2462380988100801893_8, eb_2466419133851988069_8, eb_3180214656604140665_8, eb_3180236698239528033_8, eb_4336793171144239470_8, eb_4336793192635852094_8, eb_4336793196931343713_8, eb_4336799750816022076_8, eb_4336804166361248353_8, eb_4336810746235415668_8, eb_4351156112845270631_8, eb_4352840508821617711_8, eb_4353970888399544684_8, eb_4355655336186377278_8, eb_4355948828431576126_8, eb_4356776833549689452_8, eb_6736589144075891573_8, eb_7286945561811696930_8, eb_7522525835761050223_8, eb_7597120025407222562_8, eb_7814997844241883746_8, eb_7943852967226007922_8, eb_8243121641139499838_8, eb_8304140937415647602_8, eb_8872769000508236346_8, eb_8872784376777351738_8, eb_8898316964945948524_8, tl_0, tl_1, tl_2, tl_3, tl_5, tl_6, tl_7, tl_8, tl_9, tl_10, tl_11, tl_12, tl_13, tl_14, tl_15, tl_16, tl_17, tl_18, tl_19, tl_20, tl_21, tl_22, tl_23, tl_24, tl_25, tl_26, tl_27, tl_28, tl_29, tl_30, tl_31, tl_32, tl_33, tl_34, tl_35, tl_36, tl_37, tl_38, tl_39, tl_40, tl_41, tl_42, tl_43, tl_44, tl_45, tl_46, tl_47, tl_48, tl_49, tl_50, tl_51, tl_52, tl_53, tl_54, tl_55, tl_56, tl_57, tl_58, tl_59]; done) | (rw [w2_60 (b := xp_b P t k) (by omega)]; simp [eb_34_0, eb_34_1, eb_34_2, eb_44_0, eb_44_1, eb_44_2, eb_62_1, eb_63_0, eb_63_1, eb_63_2, eb_91_1, eb_123_0, eb_123_1, eb_123_2, eb_8766_2, eb_11298_0, eb_11298_1, eb_11298_2, eb_11387_0, eb_11387_1, eb_11387_2, eb_14939_2, eb_24158_2, eb_24378_2, eb_26430_2, eb_27710_2, eb_2240318_3, eb_2243106_3, eb_6126973_3, eb_6634786_3, eb_6765858_3, eb_7433278_3, eb_7697001_3, eb_644314171_4, eb_644641851_4, eb_1684108389_4, eb_1919246700_4, eb_1953658213_4, eb_163799184187_5, eb_164843319355_5, eb_259668470078_5, eb_422759588965_5, eb_435426304570_5, eb_439721161573_5, eb_474176698914_5, eb_482733079074_5, eb_500136506472_5, eb_512853240933_5, eb_66174531561790_6, eb_66419075146814_6, eb_122511348035134_6, eb_9128563980975394_7, eb_16996725057414462_7, eb_30515246123868524_7, eb_2334097659363883376_8, eb_2339740318023049582_8, eb_2462380988100801893_8, eb_2466419133851988069_8, eb_3180214656604140665_8, eb_3180236698239528033_8, eb_4336793171144239470_8, eb_4336793192635852094_8, eb_4336793196931343713_8, eb_4336799750816022076_8, eb_4336804166361248353_8, eb_4336810746235415668_8, eb_4351156112845270631_8, eb_4352840508821617711_8, eb_4353970888399544684_8, eb_4355655336186377278_8, eb_4355948828431576126_8, eb_4356776833549689452_8, eb_6736589144075891573_8, eb_7286945561811696930_8, eb_7522525835761050223_8, eb_7597120025407222562_8, eb_7814997844241883746_8, eb_7943852967226007922_8, eb_8243121641139499838_8, eb_8304140937415647602_8, eb_8872769000508236346_8, eb_8872784376777351738_8, eb_8898316964945948524_8, tl_0, tl_1, tl_2, tl_3, tl_5, tl_6, tl_7, tl_8, tl_9, tl_10, tl_11, tl_12, tl_13, tl_14, tl_15, tl_16, tl_17, tl_18, tl_19, tl_20, tl_21, tl_22, tl_23, tl_24, tl_25, tl_26, tl_27, tl_28, tl_29, tl_30, tl_31, tl_32, tl_33, tl_34, tl_35, tl_36, tl_37, tl_38, tl_39, tl_40, tl_41, tl_42, tl_43, tl_44, tl_45, tl_46, tl_47, tl_48, tl_49, tl_50, tl_51, tl_52, tl_53, tl_54, tl_55, tl_56, tl_57, tl_58, tl_59]; done) | (rw [w2_62 (b := xp_b P t k) (by omega)]; simp [eb_34_0, eb_34_1, eb_34_2, eb_44_0, eb_44_1, eb_44_2, eb_62_1, eb_63_0, eb_63_1, eb_63_2, eb_91_1, eb_123_0, eb_123_1, eb_123_2, eb_8766_2, eb_11298_0, eb_11298_1, eb_11298_2, eb_11387_0, eb_11387_1, eb_11387_2, eb_14939_2, eb_24158_2, eb_24378_2, eb_26430_2, eb_27710_2, eb_2240318_3, eb_2243106_3, eb_6126973_3, eb_6634786_3, eb_6765858_3, eb_7433278_3, eb_7697001_3, eb_644314171_4, eb_644641851_4, eb_1684108389_4, eb_1919246700_4, eb_1953658213_4, eb_163799184187_5, eb_164843319355_5, eb_259668470078_5, eb_422759588965_5, eb_435426304570_5, eb_439721161573_5, eb_474176698914_5, eb_482733079074_5, eb_500136506472_5, eb_512853240933_5, eb_66174531561790_6, eb_66419075146814_6, eb_122511348035134_6, eb_9128563980975394_7, eb_16996725057414462_7, eb_30515246123868524_7, eb_2334097659363883376_8, eb_2339740318023049582_8, eb_2462380988100801893_8, eb_2466419133851988069_8, eb_3180214656604140665_8, eb_3180236698239528033_8, eb_4336793171144239470_8, eb_4336793192635852094_8, eb_4336793196931343713_8, eb_4336799750816022076_8, eb_4336804166361248353_8, eb_4336810746235415668_8, eb_4351156112845270631_8, eb_4352840508821617711_8, eb_4353970888399544684_8, eb_4355655336186377278_8, eb_4355948828431576126_8, eb_4356776833549689452_8, eb_6736589144075891573_8, eb_7286945561811696930_8, eb_7522525835761050223_8, eb_7597120025407222562_8, eb_7814997844241883746_8, eb_7943852967226007922_8, eb_8243121641139499838_8, eb_8304140937415647602_8, eb_8872769000508236346_8, eb_8872784376777351738_8, eb_8898316964945948524_8, tl_0, tl_1, tl_2, tl_3, tl_5, tl_6, tl_7, tl_8, tl_9, tl_10, tl_11, tl_12, tl_13, tl_14, tl_15, tl_16, tl_17, tl_18, tl_19, tl_20, tl_21, tl_22, tl_23, tl_24, tl_25, tl_26, tl_27, tl_28, tl_29, tl_30, tl_31, tl_32, tl_33, tl_34, tl_35, tl_36, tl_37, tl_38, tl_39, tl_40, tl_41, tl_42, tl_43, tl_44, tl_45, tl_46, tl_47, tl_48, tl_49, tl_50, tl_51, tl_52, tl_53, tl_54, tl_55, tl_56, tl_57, tl_58, tl_59]; done) | (rw [w2_13 (b := xp_b P t k) (by omega)]; simp [eb_34_0, eb_34_1, eb_34_2, eb_44_0, eb_44_1, eb_44_2, eb_62_1, eb_63_0, eb_63_1, eb_63_2, eb_91_1, eb_123_0, eb_123_1, eb_123_2, eb_8766_2, eb_11298_0, eb_11298_1, eb_11298_2, eb_11387_0, eb_11387_1, eb_11387_2, eb_14939_2, eb_24158_2, eb_24378_2, eb_26430_2, eb_27710_2, eb_2240318_3, eb_2243106_3, eb_6126973_3, eb_6634786_3, eb_6765858_3, eb_7433278_3, eb_7697001_3, eb_644314171_4, eb_644641851_4, eb_1684108389_4, eb_1919246700_4, eb_1953658213_4, eb_163799184187_5, eb_164843319355_5, eb_259668470078_5, eb_422759588965_5, eb_435426304570_5, eb_439721161573_5, eb_474176698914_5, eb_482733079074_5, eb_500136506472_5, eb_512853240933_5, eb_66174531561790_6, eb_66419075146814_6, eb_122511348035134_6, eb_9128563980975394_7, eb_16996725057414462_7, eb_30515246123868524_7, eb_2334097659363883376_8, eb_2339740318023049582_8, eb_2462380988100801893_8, eb_2466419133851988069_8, eb_3180214656604140665_8, eb_3180236698239528033_8, eb_4336793171144239470_8, eb_4336793192635852094_8, eb_4336793196931343713_8, eb_4336799750816022076_8, eb_4336804166361248353_8, eb_4336810746235415668_8, eb_4351156112845270631_8, eb_4352840508821617711_8, eb_4353970888399544684_8, eb_4355655336186377278_8, eb_4355948828431576126_8, eb_4356776833549689452_8, eb_6736589144075891573_8, eb_7286945561811696930_8, eb_7522525835761050223_8, eb_7597120025407222562_8, eb_7814997844241883746_8, eb_7943852967226007922_8, eb_8243121641139499838_8, eb_8304140937415647602_8, eb_8872769000508236346_8, eb_8872784376777351738_8, eb_8898316964945948524_8, tl_0, tl_1, tl_2, tl_3, tl_5, tl_6, tl_7, tl_8, tl_9, tl_10, tl_11, tl_12, tl_13, tl_14, tl_15, tl_16, tl_17, tl_18, tl_19, tl_20, tl_21, tl_22, tl_23, tl_24, tl_25, tl_26, tl_27, tl_28, tl_29, tl_30, tl_31, tl_32, tl_33, tl_34, tl_35, tl_36, tl_37, tl_38, tl_39, tl_40, tl_41, tl_42, tl_43, tl_44, tl_45, tl_46, tl_47, tl_48, tl_49, tl_50, tl_51, tl_52, tl_53, tl_54, tl_55, tl_56, tl_57, tl_58, tl_59]; done) | (rw [w2_n (b := xp_b P t k) (by omega)]; simp [eb_34_0, eb_34_1, eb_34_2, eb_44_0, eb_44_1, eb_44_2, eb_62_1, eb_63_0, eb_63_1, eb_63_2, eb_91_1, eb_123_0, eb_123_1, eb_123_2, eb_8766_2, eb_11298_0, eb_11298_1, eb_11298_2, eb_11387_0, eb_11387_1, eb_11387_2, eb_14939_2, eb_24158_2, eb_24378_2, eb_26430_2, eb_27710_2, eb_2240318_3, eb_2243106_3, eb_6126973_3, eb_6634786_3, eb_6765858_3, eb_7433278_3, eb_7697001_3, eb_644314171_4, eb_644641851_4, eb_1684108389_4, eb_1919246700_4, eb_1953658213_4, eb_163799184187_5, eb_164843319355_5, eb_259668470078_5, eb_422759588965_5, eb_435426304570_5, eb_439721161573_5, eb_474176698914_5, eb_482733079074_5, eb_500136506472_5, eb_512853240933_5, eb_66174531561790_6, eb_66419075146814_6, eb_122511348035134_6, eb_9128563980975394_7, eb_16996725057414462_7, eb_30515246123868524_7, eb_2334097659363883376_8, eb_2339740318023049582_8, eb_2462380988100801893_8, eb_2466419133851988069_8, eb_3180214656604140665_8, eb_3180236698239528033_8, eb_4336793171144239470_8, eb_4336793192635852094_8, eb_4336793196931343713_8, eb_4336799750816022076_8, eb_4336804166361248353_8, eb_4336810746235415668_8, eb_4351156112845270631_8, eb_4352840508821617711_8, eb_4353970888399544684_8, eb_4355655336186377278_8, eb_4355948828431576126_8, eb_4356776833549689452_8, eb_6736589144075891573_8, eb_7286945561811696930_8, eb_7522525835761050223_8, eb_7597120025407222562_8, eb_7814997844241883746_8, eb_7943852967226007922_8, eb_8243121641139499838_8, eb_8304140937415647602_8, eb_8872769000508236346_8, eb_8872784376777351738_8, eb_8898316964945948524_8, tl_0, tl_1, tl_2, tl_3, tl_5, tl_6, tl_7, tl_8, tl_9, tl_10, tl_11, tl_12, tl_13, tl_14, tl_15, tl_16, tl_17, tl_18, tl_19, tl_20, tl_21, tl_22, tl_23, tl_24, tl_25, tl_26, tl_27, tl_28, tl_29, tl_30, tl_31, tl_32, tl_33, tl_34, tl_35, tl_36, tl_37, tl_38, tl_39, tl_40, tl_41, tl_42, tl_43, tl_44, tl_45, tl_46, tl_47, tl_48, tl_49, tl_50, tl_51, tl_52, tl_53, tl_54, tl_55, tl_56, tl_57, tl_58, tl_59]; done))
          · refine aw_aload_n (aw_d q_Mo_emitText 90 rfl) rfl rfl rfl ?_
            refine aw_ldc2 (aw_d q_Mo_emitText 91 rfl) lL_Mo_157 ?_
            refine aw_iconst (v := nI 5) (aw_d q_Mo_emitText 92 rfl) (by decide) ?_
            refine cVv (aw_d q_Mo_emitText 93 rfl) (sp_emit (by simp only [List.length_append, List.length_cons, List.length_nil, eB_len] at hO ⊢; omega)) vL_Mo_141_Mo rfl rfl rfl rfl rfl rfl ⟨aw_le rfl, aw_le rfl⟩ ?_
            refine aw_goto (tgt := 218) (aw_d q_Mo_emitText 94 rfl) (by decide) ?_
            refine aw_iinc (aw_d q_Mo_emitText 107 rfl) rfl (ii1 _) (aw_le rfl) rfl ?_
            refine aw_goto (tgt := 2) (aw_d q_Mo_emitText 108 rfl) (by decide) ?_
            exact ih (k + 1) _ _ (by omega) (by rw [← e]; simp only [catB]; first | (exfalso; omega) | (rw [w2_38 (b := xp_b P t k) (by omega)]; simp [eb_34_0, eb_34_1, eb_34_2, eb_44_0, eb_44_1, eb_44_2, eb_62_1, eb_63_0, eb_63_1, eb_63_2, eb_91_1, eb_123_0, eb_123_1, eb_123_2, eb_8766_2, eb_11298_0, eb_11298_1, eb_11298_2, eb_11387_0, eb_11387_1, eb_11387_2, eb_14939_2, eb_24158_2, eb_24378_2, eb_26430_2, eb_27710_2, eb_2240318_3, eb_2243106_3, eb_6126973_3, eb_6634786_3, eb_6765858_3, eb_7433278_3, eb_7697001_3, eb_644314171_4, eb_644641851_4, eb_1684108389_4, eb_1919246700_4, eb_1953658213_4, eb_163799184187_5, eb_164843319355_5, eb_259668470078_5, eb_422759588965_5, eb_435426304570_5, eb_439721161573_5, eb_474176698914_5, eb_482733079074_5, eb_500136506472_5, eb_512853240933_5, eb_66174531561790_6, eb_66419075146814_6, eb_122511348035134_6, eb_9128563980975394_7, eb_16996725057414462_7, eb_30515246123868524_7, eb_2334097659363883376_8, eb_2339740318023049582_8, eb_2462380988100801893_8, eb_2466419133851988069_8, eb_3180214656604140665_8, eb_3180236698239528033_8, eb_4336793171144239470_8, eb_4336793192635852094_8, eb_4336793196931343713_8, eb_4336799750816022076_8, eb_4336804166361248353_8, eb_4336810746235415668_8, eb_4351156112845270631_8, eb_4352840508821617711_8, eb_4353970888399544684_8, eb_4355655336186377278_8, eb_4355948828431576126_8, eb_4356776833549689452_8, eb_6736589144075891573_8, eb_7286945561811696930_8, eb_7522525835761050223_8, eb_7597120025407222562_8, eb_7814997844241883746_8, eb_7943852967226007922_8, eb_8243121641139499838_8, eb_8304140937415647602_8, eb_8872769000508236346_8, eb_8872784376777351738_8, eb_8898316964945948524_8, tl_0, tl_1, tl_2, tl_3, tl_5, tl_6, tl_7, tl_8, tl_9, tl_10, tl_11, tl_12, tl_13, tl_14, tl_15, tl_16, tl_17, tl_18, tl_19, tl_20, tl_21, tl_22, tl_23, tl_24, tl_25, tl_26, tl_27, tl_28, tl_29, tl_30, tl_31, tl_32, tl_33, tl_34, tl_35, tl_36, tl_37, tl_38, tl_39, tl_40, tl_41, tl_42, tl_43, tl_44, tl_45, tl_46, tl_47, tl_48, tl_49, tl_50, tl_51, tl_52, tl_53, tl_54, tl_55, tl_56, tl_57, tl_58, tl_59]; done) | (rw [w2_60 (b := xp_b P t k) (by omega)]; simp [eb_34_0, eb_34_1, eb_34_2, eb_44_0, eb_44_1, eb_44_2, eb_62_1, eb_63_0, eb_63_1, eb_63_2, eb_91_1, eb_123_0, eb_123_1, eb_123_2, eb_8766_2, eb_11298_0, eb_11298_1, eb_11298_2, eb_11387_0, eb_11387_1, eb_11387_2, eb_14939_2, eb_24158_2, eb_24378_2, eb_26430_2, eb_27710_2, eb_2240318_3, eb_2243106_3, eb_6126973_3, eb_6634786_3, eb_6765858_3, eb_7433278_3, eb_7697001_3, eb_644314171_4, eb_644641851_4, eb_1684108389_4, eb_1919246700_4, eb_1953658213_4, eb_163799184187_5, eb_164843319355_5, eb_259668470078_5, eb_422759588965_5, eb_435426304570_5, eb_439721161573_5, eb_474176698914_5, eb_482733079074_5, eb_500136506472_5, eb_512853240933_5, eb_66174531561790_6, eb_66419075146814_6, eb_122511348035134_6, eb_9128563980975394_7, eb_16996725057414462_7, eb_30515246123868524_7, eb_2334097659363883376_8, eb_2339740318023049582_8, eb_2462380988100801893_8, eb_2466419133851988069_8, eb_3180214656604140665_8, eb_3180236698239528033_8, eb_4336793171144239470_8, eb_4336793192635852094_8, eb_4336793196931343713_8, eb_4336799750816022076_8, eb_4336804166361248353_8, eb_4336810746235415668_8, eb_4351156112845270631_8, eb_4352840508821617711_8, eb_4353970888399544684_8, eb_4355655336186377278_8, eb_4355948828431576126_8, eb_4356776833549689452_8, eb_6736589144075891573_8, eb_7286945561811696930_8, eb_7522525835761050223_8, eb_7597120025407222562_8, eb_7814997844241883746_8, eb_7943852967226007922_8, eb_8243121641139499838_8, eb_8304140937415647602_8, eb_8872769000508236346_8, eb_8872784376777351738_8, eb_8898316964945948524_8, tl_0, tl_1, tl_2, tl_3, tl_5, tl_6, tl_7, tl_8, tl_9, tl_10, tl_11, tl_12, tl_13, tl_14, tl_15, tl_16, tl_17, tl_18, tl_19, tl_20, tl_21, tl_22, tl_23, tl_24, tl_25, tl_26, tl_27, tl_28, tl_29, tl_30, tl_31, tl_32, tl_33, tl_34, tl_35, tl_36, tl_37, tl_38, tl_39, tl_40, tl_41, tl_42, tl_43, tl_44, tl_45, tl_46, tl_47, tl_48, tl_49, tl_50, tl_51, tl_52, tl_53, tl_54, tl_55, tl_56, tl_57, tl_58, tl_59]; done) | (rw [w2_62 (b := xp_b P t k) (by omega)]; simp [eb_34_0, eb_34_1, eb_34_2, eb_44_0, eb_44_1, eb_44_2, eb_62_1, eb_63_0, eb_63_1, eb_63_2, eb_91_1, eb_123_0, eb_123_1, eb_123_2, eb_8766_2, eb_11298_0, eb_11298_1, eb_11298_2, eb_11387_0, eb_11387_1, eb_11387_2, eb_14939_2, eb_24158_2, eb_24378_2, eb_26430_2, eb_27710_2, eb_2240318_3, eb_2243106_3, eb_6126973_3, eb_6634786_3, eb_6765858_3, eb_7433278_3, eb_7697001_3, eb_644314171_4, eb_644641851_4, eb_1684108389_4, eb_1919246700_4, eb_1953658213_4, eb_163799184187_5, eb_164843319355_5, eb_259668470078_5, eb_422759588965_5, eb_435426304570_5, eb_439721161573_5, eb_474176698914_5, eb_482733079074_5, eb_500136506472_5, eb_512853240933_5, eb_66174531561790_6, eb_66419075146814_6, eb_122511348035134_6, eb_9128563980975394_7, eb_16996725057414462_7, eb_30515246123868524_7, eb_2334097659363883376_8, eb_2339740318023049582_8, eb_2462380988100801893_8, eb_2466419133851988069_8, eb_3180214656604140665_8, eb_3180236698239528033_8, eb_4336793171144239470_8, eb_4336793192635852094_8, eb_4336793196931343713_8, eb_4336799750816022076_8, eb_4336804166361248353_8, eb_4336810746235415668_8, eb_4351156112845270631_8, eb_4352840508821617711_8, eb_4353970888399544684_8, eb_4355655336186377278_8, eb_4355948828431576126_8, eb_4356776833549689452_8, eb_6736589144075891573_8, eb_7286945561811696930_8, eb_7522525835761050223_8, eb_7597120025407222562_8, eb_7814997844241883746_8, eb_7943852967226007922_8, eb_8243121641139499838_8, eb_8304140937415647602_8, eb_8872769000508236346_8, eb_8872784376777351738_8, eb_8898316964945948524_8, tl_0, tl_1, tl_2, tl_3, tl_5, tl_6, tl_7, tl_8, tl_9, tl_10, tl_11, tl_12, tl_13, tl_14, tl_15, tl_16, tl_17, tl_18, tl_19, tl_20, tl_21, tl_22, tl_23, tl_24, tl_25, tl_26, tl_27, tl_28, tl_29, tl_30, tl_31, tl_32, tl_33, tl_34, tl_35, tl_36, tl_37, tl_38, tl_39, tl_40, tl_41, tl_42, tl_43, tl_44, tl_45, tl_46, tl_47, tl_48, tl_49, tl_50, tl_51, tl_52, tl_53, tl_54, tl_55, tl_56, tl_57, tl_58, tl_59]; done) | (rw [w2_13 (b := xp_b P t k) (by omega)]; simp [eb_34_0, eb_34_1, eb_34_2, eb_44_0, eb_44_1, eb_44_2, eb_62_1, eb_63_0, eb_63_1, eb_63_2, eb_91_1, eb_123_0, eb_123_1, eb_123_2, eb_8766_2, eb_11298_0, eb_11298_1, eb_11298_2, eb_11387_0, eb_11387_1, eb_11387_2, eb_14939_2, eb_24158_2, eb_24378_2, eb_26430_2, eb_27710_2, eb_2240318_3, eb_2243106_3, eb_6126973_3, eb_6634786_3, eb_6765858_3, eb_7433278_3, eb_7697001_3, eb_644314171_4, eb_644641851_4, eb_1684108389_4, eb_1919246700_4, eb_1953658213_4, eb_163799184187_5, eb_164843319355_5, eb_259668470078_5, eb_422759588965_5, eb_435426304570_5, eb_439721161573_5, eb_474176698914_5, eb_482733079074_5, eb_500136506472_5, eb_512853240933_5, eb_66174531561790_6, eb_66419075146814_6, eb_122511348035134_6, eb_9128563980975394_7, eb_16996725057414462_7, eb_30515246123868524_7, eb_2334097659363883376_8, eb_2339740318023049582_8, eb_2462380988100801893_8, eb_2466419133851988069_8, eb_3180214656604140665_8, eb_3180236698239528033_8, eb_4336793171144239470_8, eb_4336793192635852094_8, eb_4336793196931343713_8, eb_4336799750816022076_8, eb_4336804166361248353_8, eb_4336810746235415668_8, eb_4351156112845270631_8, eb_4352840508821617711_8, eb_4353970888399544684_8, eb_4355655336186377278_8, eb_4355948828431576126_8, eb_4356776833549689452_8, eb_6736589144075891573_8, eb_7286945561811696930_8, eb_7522525835761050223_8, eb_7597120025407222562_8, eb_7814997844241883746_8, eb_7943852967226007922_8, eb_8243121641139499838_8, eb_8304140937415647602_8, eb_8872769000508236346_8, eb_8872784376777351738_8, eb_8898316964945948524_8, tl_0, tl_1, tl_2, tl_3, tl_5, tl_6, tl_7, tl_8, tl_9, tl_10, tl_11, tl_12, tl_13, tl_14, tl_15, tl_16, tl_17, tl_18, tl_19, tl_20, tl_21, tl_22, tl_23, tl_24, tl_25, tl_26, tl_27, tl_28, tl_29, tl_30, tl_31, tl_32, tl_33, tl_34, tl_35, tl_36, tl_37, tl_38, tl_39, tl_40, tl_41, tl_42, tl_43, tl_44, tl_45, tl_46, tl_47, tl_48, tl_49, tl_50, tl_51, tl_52, tl_53, tl_54, tl_55, tl_56, tl_57, tl_58, tl_59]; done) | (rw [w2_n (b := xp_b P t k) (by omega)]; simp [eb_34_0, eb_34_1, eb_34_2, eb_44_0, eb_44_1, eb_44_2, eb_62_1, eb_63_0, eb_63_1, eb_63_2, eb_91_1, eb_123_0, eb_123_1, eb_123_2, eb_8766_2, eb_11298_0, eb_11298_1, eb_11298_2, eb_11387_0, eb_11387_1, eb_11387_2, eb_14939_2, eb_24158_2, eb_24378_2, eb_26430_2, eb_27710_2, eb_2240318_3, eb_2243106_3, eb_6126973_3, eb_6634786_3, eb_6765858_3, eb_7433278_3, eb_7697001_3, eb_644314171_4, eb_644641851_4, eb_1684108389_4, eb_1919246700_4, eb_1953658213_4, eb_163799184187_5, eb_164843319355_5, eb_259668470078_5, eb_422759588965_5, eb_435426304570_5, eb_439721161573_5, eb_474176698914_5, eb_482733079074_5, eb_500136506472_5, eb_512853240933_5, eb_66174531561790_6, eb_66419075146814_6, eb_122511348035134_6, eb_9128563980975394_7, eb_16996725057414462_7, eb_30515246123868524_7, eb_2334097659363883376_8, eb_2339740318023049582_8, eb_2462380988100801893_8, eb_2466419133851988069_8, eb_3180214656604140665_8, eb_3180236698239528033_8, eb_4336793171144239470_8, eb_4336793192635852094_8, eb_4336793196931343713_8, eb_4336799750816022076_8, eb_4336804166361248353_8, eb_4336810746235415668_8, eb_4351156112845270631_8, eb_4352840508821617711_8, eb_4353970888399544684_8, eb_4355655336186377278_8, eb_4355948828431576126_8, eb_4356776833549689452_8, eb_6736589144075891573_8, eb_7286945561811696930_8, eb_7522525835761050223_8, eb_7597120025407222562_8, eb_7814997844241883746_8, eb_7943852967226007922_8, eb_8243121641139499838_8, eb_8304140937415647602_8, eb_8872769000508236346_8, eb_8872784376777351738_8, eb_8898316964945948524_8, tl_0, tl_1, tl_2, tl_3, tl_5, tl_6, tl_7, tl_8, tl_9, tl_10, tl_11, tl_12, tl_13, tl_14, tl_15, tl_16, tl_17, tl_18, tl_19, tl_20, tl_21, tl_22, tl_23, tl_24, tl_25, tl_26, tl_27, tl_28, tl_29, tl_30, tl_31, tl_32, tl_33, tl_34, tl_35, tl_36, tl_37, tl_38, tl_39, tl_40, tl_41, tl_42, tl_43, tl_44, tl_45, tl_46, tl_47, tl_48, tl_49, tl_50, tl_51, tl_52, tl_53, tl_54, tl_55, tl_56, tl_57, tl_58, tl_59]; done))
        · refine aw_aload_n (aw_d q_Mo_emitText 79 rfl) rfl rfl rfl ?_
          refine aw_ldc2 (aw_d q_Mo_emitText 80 rfl) lL_Mo_155 ?_
          refine aw_iconst (v := nI 4) (aw_d q_Mo_emitText 81 rfl) (by decide) ?_
          refine cVv (aw_d q_Mo_emitText 82 rfl) (sp_emit (by simp only [List.length_append, List.length_cons, List.length_nil, eB_len] at hO ⊢; omega)) vL_Mo_141_Mo rfl rfl rfl rfl rfl rfl ⟨aw_le rfl, aw_le rfl⟩ ?_
          refine aw_goto (tgt := 218) (aw_d q_Mo_emitText 83 rfl) (by decide) ?_
          refine aw_iinc (aw_d q_Mo_emitText 107 rfl) rfl (ii1 _) (aw_le rfl) rfl ?_
          refine aw_goto (tgt := 2) (aw_d q_Mo_emitText 108 rfl) (by decide) ?_
          exact ih (k + 1) _ _ (by omega) (by rw [← e]; simp only [catB]; first | (exfalso; omega) | (rw [w2_38 (b := xp_b P t k) (by omega)]; simp [eb_34_0, eb_34_1, eb_34_2, eb_44_0, eb_44_1, eb_44_2, eb_62_1, eb_63_0, eb_63_1, eb_63_2, eb_91_1, eb_123_0, eb_123_1, eb_123_2, eb_8766_2, eb_11298_0, eb_11298_1, eb_11298_2, eb_11387_0, eb_11387_1, eb_11387_2, eb_14939_2, eb_24158_2, eb_24378_2, eb_26430_2, eb_27710_2, eb_2240318_3, eb_2243106_3, eb_6126973_3, eb_6634786_3, eb_6765858_3, eb_7433278_3, eb_7697001_3, eb_644314171_4, eb_644641851_4, eb_1684108389_4, eb_1919246700_4, eb_1953658213_4, eb_163799184187_5, eb_164843319355_5, eb_259668470078_5, eb_422759588965_5, eb_435426304570_5, eb_439721161573_5, eb_474176698914_5, eb_482733079074_5, eb_500136506472_5, eb_512853240933_5, eb_66174531561790_6, eb_66419075146814_6, eb_122511348035134_6, eb_9128563980975394_7, eb_16996725057414462_7, eb_30515246123868524_7, eb_2334097659363883376_8, eb_2339740318023049582_8, eb_2462380988100801893_8, eb_2466419133851988069_8, eb_3180214656604140665_8, eb_3180236698239528033_8, eb_4336793171144239470_8, eb_4336793192635852094_8, eb_4336793196931343713_8, eb_4336799750816022076_8, eb_4336804166361248353_8, eb_4336810746235415668_8, eb_4351156112845270631_8, eb_4352840508821617711_8, eb_4353970888399544684_8, eb_4355655336186377278_8, eb_4355948828431576126_8, eb_4356776833549689452_8, eb_6736589144075891573_8, eb_7286945561811696930_8, eb_7522525835761050223_8, eb_7597120025407222562_8, eb_7814997844241883746_8, eb_7943852967226007922_8, eb_8243121641139499838_8, eb_8304140937415647602_8, eb_8872769000508236346_8, eb_8872784376777351738_8, eb_8898316964945948524_8, tl_0, tl_1, tl_2, tl_3, tl_5, tl_6, tl_7, tl_8, tl_9, tl_10, tl_11, tl_12, tl_13, tl_14, tl_15, tl_16, tl_17, tl_18, tl_19, tl_20, tl_21, tl_22, tl_23, tl_24, tl_25, tl_26, tl_27, tl_28, tl_29, tl_30, tl_31, tl_32, tl_33, tl_34, tl_35, tl_36, tl_37, tl_38, tl_39, tl_40, tl_41, tl_42, tl_43, tl_44, tl_45, tl_46, tl_47, tl_48, tl_49, tl_50, tl_51, tl_52, tl_53, tl_54, tl_55, tl_56, tl_57, tl_58, tl_59]; done) | (rw [w2_60 (b := xp_b P t k) (by omega)]; simp [eb_34_0, eb_34_1, eb_34_2, eb_44_0, eb_44_1, eb_44_2, eb_62_1, eb_63_0, eb_63_1, eb_63_2, eb_91_1, eb_123_0, eb_123_1, eb_123_2, eb_8766_2, eb_11298_0, eb_11298_1, eb_11298_2, eb_11387_0, eb_11387_1, eb_11387_2, eb_14939_2, eb_24158_2, eb_24378_2, eb_26430_2, eb_27710_2, eb_2240318_3, eb_2243106_3, eb_6126973_3, eb_6634786_3, eb_6765858_3, eb_7433278_3, eb_7697001_3, eb_644314171_4, eb_644641851_4, eb_1684108389_4, eb_1919246700_4, eb_1953658213_4, eb_163799184187_5, eb_164843319355_5, eb_259668470078_5, eb_422759588965_5, eb_435426304570_5, eb_439721161573_5, eb_474176698914_5, eb_482733079074_5, eb_500136506472_5, eb_512853240933_5, eb_66174531561790_6, eb_66419075146814_6, eb_122511348035134_6, eb_9128563980975394_7, eb_16996725057414462_7, eb_30515246123868524_7, eb_2334097659363883376_8, eb_2339740318023049582_8, eb_2462380988100801893_8, eb_2466419133851988069_8, eb_3180214656604140665_8, eb_3180236698239528033_8, eb_4336793171144239470_8, eb_4336793192635852094_8, eb_4336793196931343713_8, eb_4336799750816022076_8, eb_4336804166361248353_8, eb_4336810746235415668_8, eb_4351156112845270631_8, eb_4352840508821617711_8, eb_4353970888399544684_8, eb_4355655336186377278_8, eb_4355948828431576126_8, eb_4356776833549689452_8, eb_6736589144075891573_8, eb_7286945561811696930_8, eb_7522525835761050223_8, eb_7597120025407222562_8, eb_7814997844241883746_8, eb_7943852967226007922_8, eb_8243121641139499838_8, eb_8304140937415647602_8, eb_8872769000508236346_8, eb_8872784376777351738_8, eb_8898316964945948524_8, tl_0, tl_1, tl_2, tl_3, tl_5, tl_6, tl_7, tl_8, tl_9, tl_10, tl_11, tl_12, tl_13, tl_14, tl_15, tl_16, tl_17, tl_18, tl_19, tl_20, tl_21, tl_22, tl_23, tl_24, tl_25, tl_26, tl_27, tl_28, tl_29, tl_30, tl_31, tl_32, tl_33, tl_34, tl_35, tl_36, tl_37, tl_38, tl_39, tl_40, tl_41, tl_42, tl_43, tl_44, tl_45, tl_46, tl_47, tl_48, tl_49, tl_50, tl_51, tl_52, tl_53, tl_54, tl_55, tl_56, tl_57, tl_58, tl_59]; done) | (rw [w2_62 (b := xp_b P t k) (by omega)]; simp [eb_34_0, eb_34_1, eb_34_2, eb_44_0, eb_44_1, eb_44_2, eb_62_1, eb_63_0, eb_63_1, eb_63_2, eb_91_1, eb_123_0, eb_123_1, eb_123_2, eb_8766_2, eb_11298_0, eb_11298_1, eb_11298_2, eb_11387_0, eb_11387_1, eb_11387_2, eb_14939_2, eb_24158_2, eb_24378_2, eb_26430_2, eb_27710_2, eb_2240318_3, eb_2243106_3, eb_6126973_3, eb_6634786_3, eb_6765858_3, eb_7433278_3, eb_7697001_3, eb_644314171_4, eb_644641851_4, eb_1684108389_4, eb_1919246700_4, eb_1953658213_4, eb_163799184187_5, eb_164843319355_5, eb_259668470078_5, eb_422759588965_5, eb_435426304570_5, eb_439721161573_5, eb_474176698914_5, eb_482733079074_5, eb_500136506472_5, eb_512853240933_5, eb_66174531561790_6, eb_66419075146814_6, eb_122511348035134_6, eb_9128563980975394_7, eb_16996725057414462_7, eb_30515246123868524_7, eb_2334097659363883376_8, eb_2339740318023049582_8, eb_2462380988100801893_8, eb_2466419133851988069_8, eb_3180214656604140665_8, eb_3180236698239528033_8, eb_4336793171144239470_8, eb_4336793192635852094_8, eb_4336793196931343713_8, eb_4336799750816022076_8, eb_4336804166361248353_8, eb_4336810746235415668_8, eb_4351156112845270631_8, eb_4352840508821617711_8, eb_4353970888399544684_8, eb_4355655336186377278_8, eb_4355948828431576126_8, eb_4356776833549689452_8, eb_6736589144075891573_8, eb_7286945561811696930_8, eb_7522525835761050223_8, eb_7597120025407222562_8, eb_7814997844241883746_8, eb_7943852967226007922_8, eb_8243121641139499838_8, eb_8304140937415647602_8, eb_8872769000508236346_8, eb_8872784376777351738_8, eb_8898316964945948524_8, tl_0, tl_1, tl_2, tl_3, tl_5, tl_6, tl_7, tl_8, tl_9, tl_10, tl_11, tl_12, tl_13, tl_14, tl_15, tl_16, tl_17, tl_18, tl_19, tl_20, tl_21, tl_22, tl_23, tl_24, tl_25, tl_26, tl_27, tl_28, tl_29, tl_30, tl_31, tl_32, tl_33, tl_34, tl_35, tl_36, tl_37, tl_38, tl_39, tl_40, tl_41, tl_42, tl_43, tl_44, tl_45, tl_46, tl_47, tl_48, tl_49, tl_50, tl_51, tl_52, tl_53, tl_54, tl_55, tl_56, tl_57, tl_58, tl_59]; done) | (rw [w2_13 (b := xp_b P t k) (by omega)]; simp [eb_34_0, eb_34_1, eb_34_2, eb_44_0, eb_44_1, eb_44_2, eb_62_1, eb_63_0, eb_63_1, eb_63_2, eb_91_1, eb_123_0, eb_123_1, eb_123_2, eb_8766_2, eb_11298_0, eb_11298_1, eb_11298_2, eb_11387_0, eb_11387_1, eb_11387_2, eb_14939_2, eb_24158_2, eb_24378_2, eb_26430_2, eb_27710_2, eb_2240318_3, eb_2243106_3, eb_6126973_3, eb_6634786_3, eb_6765858_3, eb_7433278_3, eb_7697001_3, eb_644314171_4, eb_644641851_4, eb_1684108389_4, eb_1919246700_4, eb_1953658213_4, eb_163799184187_5, eb_164843319355_5, eb_259668470078_5, eb_422759588965_5, eb_435426304570_5, eb_439721161573_5, eb_474176698914_5, eb_482733079074_5, eb_500136506472_5, eb_512853240933_5, eb_66174531561790_6, eb_66419075146814_6, eb_122511348035134_6, eb_9128563980975394_7, eb_16996725057414462_7, eb_30515246123868524_7, eb_2334097659363883376_8, eb_2339740318023049582_8, eb_2462380988100801893_8, eb_2466419133851988069_8, eb_3180214656604140665_8, eb_3180236698239528033_8, eb_4336793171144239470_8, eb_4336793192635852094_8, eb_4336793196931343713_8, eb_4336799750816022076_8, eb_4336804166361248353_8, eb_4336810746235415668_8, eb_4351156112845270631_8, eb_4352840508821617711_8, eb_4353970888399544684_8, eb_4355655336186377278_8, eb_4355948828431576126_8, eb_4356776833549689452_8, eb_6736589144075891573_8, eb_7286945561811696930_8, eb_7522525835761050223_8, eb_7597120025407222562_8, eb_7814997844241883746_8, eb_7943852967226007922_8, eb_8243121641139499838_8, eb_8304140937415647602_8, eb_8872769000508236346_8, eb_8872784376777351738_8, eb_8898316964945948524_8, tl_0, tl_1, tl_2, tl_3, tl_5, tl_6, tl_7, tl_8, tl_9, tl_10, tl_11, tl_12, tl_13, tl_14, tl_15, tl_16, tl_17, tl_18, tl_19, tl_20, tl_21, tl_22, tl_23, tl_24, tl_25, tl_26, tl_27, tl_28, tl_29, tl_30, tl_31, tl_32, tl_33, tl_34, tl_35, tl_36, tl_37, tl_38, tl_39, tl_40, tl_41, tl_42, tl_43, tl_44, tl_45, tl_46, tl_47, tl_48, tl_49, tl_50, tl_51, tl_52, tl_53, tl_54, tl_55, tl_56, tl_57, tl_58, tl_59]; done) | (rw [w2_n (b := xp_b P t k) (by omega)]; simp [eb_34_0, eb_34_1, eb_34_2, eb_44_0, eb_44_1, eb_44_2, eb_62_1, eb_63_0, eb_63_1, eb_63_2, eb_91_1, eb_123_0, eb_123_1, eb_123_2, eb_8766_2, eb_11298_0, eb_11298_1, eb_11298_2, eb_11387_0, eb_11387_1, eb_11387_2, eb_14939_2, eb_24158_2, eb_24378_2, eb_26430_2, eb_27710_2, eb_2240318_3, eb_2243106_3, eb_6126973_3, eb_6634786_3, eb_6765858_3, eb_7433278_3, eb_7697001_3, eb_644314171_4, eb_644641851_4, eb_1684108389_4, eb_1919246700_4, eb_1953658213_4, eb_163799184187_5, eb_164843319355_5, eb_259668470078_5, eb_422759588965_5, eb_435426304570_5, eb_439721161573_5, eb_474176698914_5, eb_482733079074_5, eb_500136506472_5, eb_512853240933_5, eb_66174531561790_6, eb_66419075146814_6, eb_122511348035134_6, eb_9128563980975394_7, eb_16996725057414462_7, eb_30515246123868524_7, eb_2334097659363883376_8, eb_2339740318023049582_8, eb_2462380988100801893_8, eb_2466419133851988069_8, eb_3180214656604140665_8, eb_3180236698239528033_8, eb_4336793171144239470_8, eb_4336793192635852094_8, eb_4336793196931343713_8, eb_4336799750816022076_8, eb_4336804166361248353_8, eb_4336810746235415668_8, eb_4351156112845270631_8, eb_4352840508821617711_8, eb_4353970888399544684_8, eb_4355655336186377278_8, eb_4355948828431576126_8, eb_4356776833549689452_8, eb_6736589144075891573_8, eb_7286945561811696930_8, eb_7522525835761050223_8, eb_7597120025407222562_8, eb_7814997844241883746_8, eb_7943852967226007922_8, eb_8243121641139499838_8, eb_8304140937415647602_8, eb_8872769000508236346_8, eb_8872784376777351738_8, eb_8898316964945948524_8, tl_0, tl_1, tl_2, tl_3, tl_5, tl_6, tl_7, tl_8, tl_9, tl_10, tl_11, tl_12, tl_13, tl_14, tl_15, tl_16, tl_17, tl_18, tl_19, tl_20, tl_21, tl_22, tl_23, tl_24, tl_25, tl_26, tl_27, tl_28, tl_29, tl_30, tl_31, tl_32, tl_33, tl_34, tl_35, tl_36, tl_37, tl_38, tl_39, tl_40, tl_41, tl_42, tl_43, tl_44, tl_45, tl_46, tl_47, tl_48, tl_49, tl_50, tl_51, tl_52, tl_53, tl_54, tl_55, tl_56, tl_57, tl_58, tl_59]; done))
      · refine aw_aload_n (aw_d q_Mo_emitText 68 rfl) rfl rfl rfl ?_
        refine aw_ldc2 (aw_d q_Mo_emitText 69 rfl) lL_Mo_153 ?_
        refine aw_iconst (v := nI 4) (aw_d q_Mo_emitText 70 rfl) (by decide) ?_
        refine cVv (aw_d q_Mo_emitText 71 rfl) (sp_emit (by simp only [List.length_append, List.length_cons, List.length_nil, eB_len] at hO ⊢; omega)) vL_Mo_141_Mo rfl rfl rfl rfl rfl rfl ⟨aw_le rfl, aw_le rfl⟩ ?_
        refine aw_goto (tgt := 218) (aw_d q_Mo_emitText 72 rfl) (by decide) ?_
        refine aw_iinc (aw_d q_Mo_emitText 107 rfl) rfl (ii1 _) (aw_le rfl) rfl ?_
        refine aw_goto (tgt := 2) (aw_d q_Mo_emitText 108 rfl) (by decide) ?_
        exact ih (k + 1) _ _ (by omega) (by rw [← e]; simp only [catB]; first | (exfalso; omega) | (rw [w2_38 (b := xp_b P t k) (by omega)]; simp [eb_34_0, eb_34_1, eb_34_2, eb_44_0, eb_44_1, eb_44_2, eb_62_1, eb_63_0, eb_63_1, eb_63_2, eb_91_1, eb_123_0, eb_123_1, eb_123_2, eb_8766_2, eb_11298_0, eb_11298_1, eb_11298_2, eb_11387_0, eb_11387_1, eb_11387_2, eb_14939_2, eb_24158_2, eb_24378_2, eb_26430_2, eb_27710_2, eb_2240318_3, eb_2243106_3, eb_6126973_3, eb_6634786_3, eb_6765858_3, eb_7433278_3, eb_7697001_3, eb_644314171_4, eb_644641851_4, eb_1684108389_4, eb_1919246700_4, eb_1953658213_4, eb_163799184187_5, eb_164843319355_5, eb_259668470078_5, eb_422759588965_5, eb_435426304570_5, eb_439721161573_5, eb_474176698914_5, eb_482733079074_5, eb_500136506472_5, eb_512853240933_5, eb_66174531561790_6, eb_66419075146814_6, eb_122511348035134_6, eb_9128563980975394_7, eb_16996725057414462_7, eb_30515246123868524_7, eb_2334097659363883376_8, eb_2339740318023049582_8, eb_2462380988100801893_8, eb_2466419133851988069_8, eb_3180214656604140665_8, eb_3180236698239528033_8, eb_4336793171144239470_8, eb_4336793192635852094_8, eb_4336793196931343713_8, eb_4336799750816022076_8, eb_4336804166361248353_8, eb_4336810746235415668_8, eb_4351156112845270631_8, eb_4352840508821617711_8, eb_4353970888399544684_8, eb_4355655336186377278_8, eb_4355948828431576126_8, eb_4356776833549689452_8, eb_6736589144075891573_8, eb_7286945561811696930_8, eb_7522525835761050223_8, eb_7597120025407222562_8, eb_7814997844241883746_8, eb_7943852967226007922_8, eb_8243121641139499838_8, eb_8304140937415647602_8, eb_8872769000508236346_8, eb_8872784376777351738_8, eb_8898316964945948524_8, tl_0, tl_1, tl_2, tl_3, tl_5, tl_6, tl_7, tl_8, tl_9, tl_10, tl_11, tl_12, tl_13, tl_14, tl_15, tl_16, tl_17, tl_18, tl_19, tl_20, tl_21, tl_22, tl_23, tl_24, tl_25, tl_26, tl_27, tl_28, tl_29, tl_30, tl_31, tl_32, tl_33, tl_34, tl_35, tl_36, tl_37, tl_38, tl_39, tl_40, tl_41, tl_42, tl_43, tl_44, tl_45, tl_46, tl_47, tl_48, tl_49, tl_50, tl_51, tl_52, tl_53, tl_54, tl_55, tl_56, tl_57, tl_58, tl_59]; done) | (rw [w2_60 (b := xp_b P t k) (by omega)]; simp [eb_34_0, eb_34_1, eb_34_2, eb_44_0, eb_44_1, eb_44_2, eb_62_1, eb_63_0, eb_63_1, eb_63_2, eb_91_1, eb_123_0, eb_123_1, eb_123_2, eb_8766_2, eb_11298_0, eb_11298_1, eb_11298_2, eb_11387_0, eb_11387_1, eb_11387_2, eb_14939_2, eb_24158_2, eb_24378_2, eb_26430_2, eb_27710_2, eb_2240318_3, eb_2243106_3, eb_6126973_3, eb_6634786_3, eb_6765858_3, eb_7433278_3, eb_7697001_3, eb_644314171_4, eb_644641851_4, eb_1684108389_4, eb_1919246700_4, eb_1953658213_4, eb_163799184187_5, eb_164843319355_5, eb_259668470078_5, eb_422759588965_5, eb_435426304570_5, eb_439721161573_5, eb_474176698914_5, eb_482733079074_5, eb_500136506472_5, eb_512853240933_5, eb_66174531561790_6, eb_66419075146814_6, eb_122511348035134_6, eb_9128563980975394_7, eb_16996725057414462_7, eb_30515246123868524_7, eb_2334097659363883376_8, eb_2339740318023049582_8, eb_2462380988100801893_8, eb_2466419133851988069_8, eb_3180214656604140665_8, eb_3180236698239528033_8, eb_4336793171144239470_8, eb_4336793192635852094_8, eb_4336793196931343713_8, eb_4336799750816022076_8, eb_4336804166361248353_8, eb_4336810746235415668_8, eb_4351156112845270631_8, eb_4352840508821617711_8, eb_4353970888399544684_8, eb_4355655336186377278_8, eb_4355948828431576126_8, eb_4356776833549689452_8, eb_6736589144075891573_8, eb_7286945561811696930_8, eb_7522525835761050223_8, eb_7597120025407222562_8, eb_7814997844241883746_8, eb_7943852967226007922_8, eb_8243121641139499838_8, eb_8304140937415647602_8, eb_8872769000508236346_8, eb_8872784376777351738_8, eb_8898316964945948524_8, tl_0, tl_1, tl_2, tl_3, tl_5, tl_6, tl_7, tl_8, tl_9, tl_10, tl_11, tl_12, tl_13, tl_14, tl_15, tl_16, tl_17, tl_18, tl_19, tl_20, tl_21, tl_22, tl_23, tl_24, tl_25, tl_26, tl_27, tl_28, tl_29, tl_30, tl_31, tl_32, tl_33, tl_34, tl_35, tl_36, tl_37, tl_38, tl_39, tl_40, tl_41, tl_42, tl_43, tl_44, tl_45, tl_46, tl_47, tl_48, tl_49, tl_50, tl_51, tl_52, tl_53, tl_54, tl_55, tl_56, tl_57, tl_58, tl_59]; done) | (rw [w2_62 (b := xp_b P t k) (by omega)]; simp [eb_34_0, eb_34_1, eb_34_2, eb_44_0, eb_44_1, eb_44_2, eb_62_1, eb_63_0, eb_63_1, eb_63_2, eb_91_1, eb_123_0, eb_123_1, eb_123_2, eb_8766_2, eb_11298_0, eb_11298_1, eb_11298_2, eb_11387_0, eb_11387_1, eb_11387_2, eb_14939_2, eb_24158_2, eb_24378_2, eb_26430_2, eb_27710_2, eb_2240318_3, eb_2243106_3, eb_6126973_3, eb_6634786_3, eb_6765858_3, eb_7433278_3, eb_7697001_3, eb_644314171_4, eb_644641851_4, eb_1684108389_4, eb_1919246700_4, eb_1953658213_4, eb_163799184187_5, eb_164843319355_5, eb_259668470078_5, eb_422759588965_5, eb_435426304570_5, eb_439721161573_5, eb_474176698914_5, eb_482733079074_5, eb_500136506472_5, eb_512853240933_5, eb_66174531561790_6, eb_66419075146814_6, eb_122511348035134_6, eb_9128563980975394_7, eb_16996725057414462_7, eb_30515246123868524_7, eb_2334097659363883376_8, eb_2339740318023049582_8, eb_2462380988100801893_8, eb_2466419133851988069_8, eb_3180214656604140665_8, eb_3180236698239528033_8, eb_4336793171144239470_8, eb_4336793192635852094_8, eb_4336793196931343713_8, eb_4336799750816022076_8, eb_4336804166361248353_8, eb_4336810746235415668_8, eb_4351156112845270631_8, eb_4352840508821617711_8, eb_4353970888399544684_8, eb_4355655336186377278_8, eb_4355948828431576126_8, eb_4356776833549689452_8, eb_6736589144075891573_8, eb_7286945561811696930_8, eb_7522525835761050223_8, eb_7597120025407222562_8, eb_7814997844241883746_8, eb_7943852967226007922_8, eb_8243121641139499838_8, eb_8304140937415647602_8, eb_8872769000508236346_8, eb_8872784376777351738_8, eb_8898316964945948524_8, tl_0, tl_1, tl_2, tl_3, tl_5, tl_6, tl_7, tl_8, tl_9, tl_10, tl_11, tl_12, tl_13, tl_14, tl_15, tl_16, tl_17, tl_18, tl_19, tl_20, tl_21, tl_22, tl_23, tl_24, tl_25, tl_26, tl_27, tl_28, tl_29, tl_30, tl_31, tl_32, tl_33, tl_34, tl_35, tl_36, tl_37, tl_38, tl_39, tl_40, tl_41, tl_42, tl_43, tl_44, tl_45, tl_46, tl_47, tl_48, tl_49, tl_50, tl_51, tl_52, tl_53, tl_54, tl_55, tl_56, tl_57, tl_58, tl_59]; done) | (rw [w2_13 (b := xp_b P t k) (by omega)]; simp [eb_34_0, eb_34_1, eb_34_2, eb_44_0, eb_44_1, eb_44_2, eb_62_1, eb_63_0, eb_63_1, eb_63_2, eb_91_1, eb_123_0, eb_123_1, eb_123_2, eb_8766_2, eb_11298_0, eb_11298_1, eb_11298_2, eb_11387_0, eb_11387_1, eb_11387_2, eb_14939_2, eb_24158_2, eb_24378_2, eb_26430_2, eb_27710_2, eb_2240318_3, eb_2243106_3, eb_6126973_3, eb_6634786_3, eb_6765858_3, eb_7433278_3, eb_7697001_3, eb_644314171_4, eb_644641851_4, eb_1684108389_4, eb_1919246700_4, eb_1953658213_4, eb_163799184187_5, eb_164843319355_5, eb_259668470078_5, eb_422759588965_5, eb_435426304570_5, eb_439721161573_5, eb_474176698914_5, eb_482733079074_5, eb_500136506472_5, eb_512853240933_5, eb_66174531561790_6, eb_66419075146814_6, eb_122511348035134_6, eb_9128563980975394_7, eb_16996725057414462_7, eb_30515246123868524_7, eb_2334097659363883376_8, eb_2339740318023049582_8, eb_2462380988100801893_8, eb_2466419133851988069_8, eb_3180214656604140665_8, eb_3180236698239528033_8, eb_4336793171144239470_8, eb_4336793192635852094_8, eb_4336793196931343713_8, eb_4336799750816022076_8, eb_4336804166361248353_8, eb_4336810746235415668_8, eb_4351156112845270631_8, eb_4352840508821617711_8, eb_4353970888399544684_8, eb_4355655336186377278_8, eb_4355948828431576126_8, eb_4356776833549689452_8, eb_6736589144075891573_8, eb_7286945561811696930_8, eb_7522525835761050223_8, eb_7597120025407222562_8, eb_7814997844241883746_8, eb_7943852967226007922_8, eb_8243121641139499838_8, eb_8304140937415647602_8, eb_8872769000508236346_8, eb_8872784376777351738_8, eb_8898316964945948524_8, tl_0, tl_1, tl_2, tl_3, tl_5, tl_6, tl_7, tl_8, tl_9, tl_10, tl_11, tl_12, tl_13, tl_14, tl_15, tl_16, tl_17, tl_18, tl_19, tl_20, tl_21, tl_22, tl_23, tl_24, tl_25, tl_26, tl_27, tl_28, tl_29, tl_30, tl_31, tl_32, tl_33, tl_34, tl_35, tl_36, tl_37, tl_38, tl_39, tl_40, tl_41, tl_42, tl_43, tl_44, tl_45, tl_46, tl_47, tl_48, tl_49, tl_50, tl_51, tl_52, tl_53, tl_54, tl_55, tl_56, tl_57, tl_58, tl_59]; done) | (rw [w2_n (b := xp_b P t k) (by omega)]; simp [eb_34_0, eb_34_1, eb_34_2, eb_44_0, eb_44_1, eb_44_2, eb_62_1, eb_63_0, eb_63_1, eb_63_2, eb_91_1, eb_123_0, eb_123_1, eb_123_2, eb_8766_2, eb_11298_0, eb_11298_1, eb_11298_2, eb_11387_0, eb_11387_1, eb_11387_2, eb_14939_2, eb_24158_2, eb_24378_2, eb_26430_2, eb_27710_2, eb_2240318_3, eb_2243106_3, eb_6126973_3, eb_6634786_3, eb_6765858_3, eb_7433278_3, eb_7697001_3, eb_644314171_4, eb_644641851_4, eb_1684108389_4, eb_1919246700_4, eb_1953658213_4, eb_163799184187_5, eb_164843319355_5, eb_259668470078_5, eb_422759588965_5, eb_435426304570_5, eb_439721161573_5, eb_474176698914_5, eb_482733079074_5, eb_500136506472_5, eb_512853240933_5, eb_66174531561790_6, eb_66419075146814_6, eb_122511348035134_6, eb_9128563980975394_7, eb_16996725057414462_7, eb_30515246123868524_7, eb_2334097659363883376_8, eb_2339740318023049582_8, eb_2462380988100801893_8, eb_2466419133851988069_8, eb_3180214656604140665_8, eb_3180236698239528033_8, eb_4336793171144239470_8, eb_4336793192635852094_8, eb_4336793196931343713_8, eb_4336799750816022076_8, eb_4336804166361248353_8, eb_4336810746235415668_8, eb_4351156112845270631_8, eb_4352840508821617711_8, eb_4353970888399544684_8, eb_4355655336186377278_8, eb_4355948828431576126_8, eb_4356776833549689452_8, eb_6736589144075891573_8, eb_7286945561811696930_8, eb_7522525835761050223_8, eb_7597120025407222562_8, eb_7814997844241883746_8, eb_7943852967226007922_8, eb_8243121641139499838_8, eb_8304140937415647602_8, eb_8872769000508236346_8, eb_8872784376777351738_8, eb_8898316964945948524_8, tl_0, tl_1, tl_2, tl_3, tl_5, tl_6, tl_7, tl_8, tl_9, tl_10, tl_11, tl_12, tl_13, tl_14, tl_15, tl_16, tl_17, tl_18, tl_19, tl_20, tl_21, tl_22, tl_23, tl_24, tl_25, tl_26, tl_27, tl_28, tl_29, tl_30, tl_31, tl_32, tl_33, tl_34, tl_35, tl_36, tl_37, tl_38, tl_39, tl_40, tl_41, tl_42, tl_43, tl_44, tl_45, tl_46, tl_47, tl_48, tl_49, tl_50, tl_51, tl_52, tl_53, tl_54, tl_55, tl_56, tl_57, tl_58, tl_59]; done))
    · refine aw_aload_n (aw_d q_Mo_emitText 57 rfl) rfl rfl rfl ?_
      refine aw_ldc2 (aw_d q_Mo_emitText 58 rfl) lL_Mo_151 ?_
      refine aw_iconst (v := nI 5) (aw_d q_Mo_emitText 59 rfl) (by decide) ?_
      refine cVv (aw_d q_Mo_emitText 60 rfl) (sp_emit (by simp only [List.length_append, List.length_cons, List.length_nil, eB_len] at hO ⊢; omega)) vL_Mo_141_Mo rfl rfl rfl rfl rfl rfl ⟨aw_le rfl, aw_le rfl⟩ ?_
      refine aw_goto (tgt := 218) (aw_d q_Mo_emitText 61 rfl) (by decide) ?_
      refine aw_iinc (aw_d q_Mo_emitText 107 rfl) rfl (ii1 _) (aw_le rfl) rfl ?_
      refine aw_goto (tgt := 2) (aw_d q_Mo_emitText 108 rfl) (by decide) ?_
      exact ih (k + 1) _ _ (by omega) (by rw [← e]; simp only [catB]; first | (exfalso; omega) | (rw [w2_38 (b := xp_b P t k) (by omega)]; simp [eb_34_0, eb_34_1, eb_34_2, eb_44_0, eb_44_1, eb_44_2, eb_62_1, eb_63_0, eb_63_1, eb_63_2, eb_91_1, eb_123_0, eb_123_1, eb_123_2, eb_8766_2, eb_11298_0, eb_11298_1, eb_11298_2, eb_11387_0, eb_11387_1, eb_11387_2, eb_14939_2, eb_24158_2, eb_24378_2, eb_26430_2, eb_27710_2, eb_2240318_3, eb_2243106_3, eb_6126973_3, eb_6634786_3, eb_6765858_3, eb_7433278_3, eb_7697001_3, eb_644314171_4, eb_644641851_4, eb_1684108389_4, eb_1919246700_4, eb_1953658213_4, eb_163799184187_5, eb_164843319355_5, eb_259668470078_5, eb_422759588965_5, eb_435426304570_5, eb_439721161573_5, eb_474176698914_5, eb_482733079074_5, eb_500136506472_5, eb_512853240933_5, eb_66174531561790_6, eb_66419075146814_6, eb_122511348035134_6, eb_9128563980975394_7, eb_16996725057414462_7, eb_30515246123868524_7, eb_2334097659363883376_8, eb_2339740318023049582_8, eb_2462380988100801893_8, eb_2466419133851988069_8, eb_3180214656604140665_8, eb_3180236698239528033_8, eb_4336793171144239470_8, eb_4336793192635852094_8, eb_4336793196931343713_8, eb_4336799750816022076_8, eb_4336804166361248353_8, eb_4336810746235415668_8, eb_4351156112845270631_8, eb_4352840508821617711_8, eb_4353970888399544684_8, eb_4355655336186377278_8, eb_4355948828431576126_8, eb_4356776833549689452_8, eb_6736589144075891573_8, eb_7286945561811696930_8, eb_7522525835761050223_8, eb_7597120025407222562_8, eb_7814997844241883746_8, eb_7943852967226007922_8, eb_8243121641139499838_8, eb_8304140937415647602_8, eb_8872769000508236346_8, eb_8872784376777351738_8, eb_8898316964945948524_8, tl_0, tl_1, tl_2, tl_3, tl_5, tl_6, tl_7, tl_8, tl_9, tl_10, tl_11, tl_12, tl_13, tl_14, tl_15, tl_16, tl_17, tl_18, tl_19, tl_20, tl_21, tl_22, tl_23, tl_24, tl_25, tl_26, tl_27, tl_28, tl_29, tl_30, tl_31, tl_32, tl_33, tl_34, tl_35, tl_36, tl_37, tl_38, tl_39, tl_40, tl_41, tl_42, tl_43, tl_44, tl_45, tl_46, tl_47, tl_48, tl_49, tl_50, tl_51, tl_52, tl_53, tl_54, tl_55, tl_56, tl_57, tl_58, tl_59]; done) | (rw [w2_60 (b := xp_b P t k) (by omega)]; simp [eb_34_0, eb_34_1, eb_34_2, eb_44_0, eb_44_1, eb_44_2, eb_62_1, eb_63_0, eb_63_1, eb_63_2, eb_91_1, eb_123_0, eb_123_1, eb_123_2, eb_8766_2, eb_11298_0, eb_11298_1, eb_11298_2, eb_11387_0, eb_11387_1, eb_11387_2, eb_14939_2, eb_24158_2, eb_24378_2, eb_26430_2, eb_27710_2, eb_2240318_3, eb_2243106_3, eb_6126973_3, eb_6634786_3, eb_6765858_3, eb_7433278_3, eb_7697001_3, eb_644314171_4, eb_644641851_4, eb_1684108389_4, eb_1919246700_4, eb_1953658213_4, eb_163799184187_5, eb_164843319355_5, eb_259668470078_5, eb_422759588965_5, eb_435426304570_5, eb_439721161573_5, eb_474176698914_5, eb_482733079074_5, eb_500136506472_5, eb_512853240933_5, eb_66174531561790_6, eb_66419075146814_6, eb_122511348035134_6, eb_9128563980975394_7, eb_16996725057414462_7, eb_30515246123868524_7, eb_2334097659363883376_8, eb_2339740318023049582_8, eb_2462380988100801893_8, eb_2466419133851988069_8, eb_3180214656604140665_8, eb_3180236698239528033_8, eb_4336793171144239470_8, eb_4336793192635852094_8, eb_4336793196931343713_8, eb_4336799750816022076_8, eb_4336804166361248353_8, eb_4336810746235415668_8, eb_4351156112845270631_8, eb_4352840508821617711_8, eb_4353970888399544684_8, eb_4355655336186377278_8, eb_4355948828431576126_8, eb_4356776833549689452_8, eb_6736589144075891573_8, eb_7286945561811696930_8, eb_7522525835761050223_8, eb_7597120025407222562_8, eb_7814997844241883746_8, eb_7943852967226007922_8, eb_8243121641139499838_8, eb_8304140937415647602_8, eb_8872769000508236346_8, eb_8872784376777351738_8, eb_8898316964945948524_8, tl_0, tl_1, tl_2, tl_3, tl_5, tl_6, tl_7, tl_8, tl_9, tl_10, tl_11, tl_12, tl_13, tl_14, tl_15, tl_16, tl_17, tl_18, tl_19, tl_20, tl_21, tl_22, tl_23, tl_24, tl_25, tl_26, tl_27, tl_28, tl_29, tl_30, tl_31, tl_32, tl_33, tl_34, tl_35, tl_36, tl_37, tl_38, tl_39, tl_40, tl_41, tl_42, tl_43, tl_44, tl_45, tl_46, tl_47, tl_48, tl_49, tl_50, tl_51, tl_52, tl_53, tl_54, tl_55, tl_56, tl_57, tl_58, tl_59]; done) | (rw [w2_62 (b := xp_b P t k) (by omega)]; simp [eb_34_0, eb_34_1, eb_34_2, eb_44_0, eb_44_1, eb_44_2, eb_62_1, eb_63_0, eb_63_1, eb_63_2, eb_91_1, eb_123_0, eb_123_1, eb_123_2, eb_8766_2, eb_11298_0, eb_11298_1, eb_11298_2, eb_11387_0, eb_11387_1, eb_11387_2, eb_14939_2, eb_24158_2, eb_24378_2, eb_26430_2, eb_27710_2, eb_2240318_3, eb_2243106_3, eb_6126973_3, eb_6634786_3, eb_6765858_3, eb_7433278_3, eb_7697001_3, eb_644314171_4, eb_644641851_4, eb_1684108389_4, eb_1919246700_4, eb_1953658213_4, eb_163799184187_5, eb_164843319355_5, eb_259668470078_5, eb_422759588965_5, eb_435426304570_5, eb_439721161573_5, eb_474176698914_5, eb_482733079074_5, eb_500136506472_5, eb_512853240933_5, eb_66174531561790_6, eb_66419075146814_6, eb_122511348035134_6, eb_9128563980975394_7, eb_16996725057414462_7, eb_30515246123868524_7, eb_2334097659363883376_8, eb_2339740318023049582_8, eb_2462380988100801893_8, eb_2466419133851988069_8, eb_3180214656604140665_8, eb_3180236698239528033_8, eb_4336793171144239470_8, eb_4336793192635852094_8, eb_4336793196931343713_8, eb_4336799750816022076_8, eb_4336804166361248353_8, eb_4336810746235415668_8, eb_4351156112845270631_8, eb_4352840508821617711_8, eb_4353970888399544684_8, eb_4355655336186377278_8, eb_4355948828431576126_8, eb_4356776833549689452_8, eb_6736589144075891573_8, eb_7286945561811696930_8, eb_7522525835761050223_8, eb_7597120025407222562_8, eb_7814997844241883746_8, eb_7943852967226007922_8, eb_8243121641139499838_8, eb_8304140937415647602_8, eb_8872769000508236346_8, eb_8872784376777351738_8, eb_8898316964945948524_8, tl_0, tl_1, tl_2, tl_3, tl_5, tl_6, tl_7, tl_8, tl_9, tl_10, tl_11, tl_12, tl_13, tl_14, tl_15, tl_16, tl_17, tl_18, tl_19, tl_20, tl_21, tl_22, tl_23, tl_24, tl_25, tl_26, tl_27, tl_28, tl_29, tl_30, tl_31, tl_32, tl_33, tl_34, tl_35, tl_36, tl_37, tl_38, tl_39, tl_40, tl_41, tl_42, tl_43, tl_44, tl_45, tl_46, tl_47, tl_48, tl_49, tl_50, tl_51, tl_52, tl_53, tl_54, tl_55, tl_56, tl_57, tl_58, tl_59]; done) | (rw [w2_13 (b := xp_b P t k) (by omega)]; simp [eb_34_0, eb_34_1, eb_34_2, eb_44_0, eb_44_1, eb_44_2, eb_62_1, eb_63_0, eb_63_1, eb_63_2, eb_91_1, eb_123_0, eb_123_1, eb_123_2, eb_8766_2, eb_11298_0, eb_11298_1, eb_11298_2, eb_11387_0, eb_11387_1, eb_11387_2, eb_14939_2, eb_24158_2, eb_24378_2, eb_26430_2, eb_27710_2, eb_2240318_3, eb_2243106_3, eb_6126973_3, eb_6634786_3, eb_6765858_3, eb_7433278_3, eb_7697001_3, eb_644314171_4, eb_644641851_4, eb_1684108389_4, eb_1919246700_4, eb_1953658213_4, eb_163799184187_5, eb_164843319355_5, eb_259668470078_5, eb_422759588965_5, eb_435426304570_5, eb_439721161573_5, eb_474176698914_5, eb_482733079074_5, eb_500136506472_5, eb_512853240933_5, eb_66174531561790_6, eb_66419075146814_6, eb_122511348035134_6, eb_9128563980975394_7, eb_16996725057414462_7, eb_30515246123868524_7, eb_2334097659363883376_8, eb_2339740318023049582_8, eb_2462380988100801893_8, eb_2466419133851988069_8, eb_3180214656604140665_8, eb_3180236698239528033_8, eb_4336793171144239470_8, eb_4336793192635852094_8, eb_4336793196931343713_8, eb_4336799750816022076_8, eb_4336804166361248353_8, eb_4336810746235415668_8, eb_4351156112845270631_8, eb_4352840508821617711_8, eb_4353970888399544684_8, eb_4355655336186377278_8, eb_4355948828431576126_8, eb_4356776833549689452_8, eb_6736589144075891573_8, eb_7286945561811696930_8, eb_7522525835761050223_8, eb_7597120025407222562_8, eb_7814997844241883746_8, eb_7943852967226007922_8, eb_8243121641139499838_8, eb_8304140937415647602_8, eb_8872769000508236346_8, eb_8872784376777351738_8, eb_8898316964945948524_8, tl_0, tl_1, tl_2, tl_3, tl_5, tl_6, tl_7, tl_8, tl_9, tl_10, tl_11, tl_12, tl_13, tl_14, tl_15, tl_16, tl_17, tl_18, tl_19, tl_20, tl_21, tl_22, tl_23, tl_24, tl_25, tl_26, tl_27, tl_28, tl_29, tl_30, tl_31, tl_32, tl_33, tl_34, tl_35, tl_36, tl_37, tl_38, tl_39, tl_40, tl_41, tl_42, tl_43, tl_44, tl_45, tl_46, tl_47, tl_48, tl_49, tl_50, tl_51, tl_52, tl_53, tl_54, tl_55, tl_56, tl_57, tl_58, tl_59]; done) | (rw [w2_n (b := xp_b P t k) (by omega)]; simp [eb_34_0, eb_34_1, eb_34_2, eb_44_0, eb_44_1, eb_44_2, eb_62_1, eb_63_0, eb_63_1, eb_63_2, eb_91_1, eb_123_0, eb_123_1, eb_123_2, eb_8766_2, eb_11298_0, eb_11298_1, eb_11298_2, eb_11387_0, eb_11387_1, eb_11387_2, eb_14939_2, eb_24158_2, eb_24378_2, eb_26430_2, eb_27710_2, eb_2240318_3, eb_2243106_3, eb_6126973_3, eb_6634786_3, eb_6765858_3, eb_7433278_3, eb_7697001_3, eb_644314171_4, eb_644641851_4, eb_1684108389_4, eb_1919246700_4, eb_1953658213_4, eb_163799184187_5, eb_164843319355_5, eb_259668470078_5, eb_422759588965_5, eb_435426304570_5, eb_439721161573_5, eb_474176698914_5, eb_482733079074_5, eb_500136506472_5, eb_512853240933_5, eb_66174531561790_6, eb_66419075146814_6, eb_122511348035134_6, eb_9128563980975394_7, eb_16996725057414462_7, eb_30515246123868524_7, eb_2334097659363883376_8, eb_2339740318023049582_8, eb_2462380988100801893_8, eb_2466419133851988069_8, eb_3180214656604140665_8, eb_3180236698239528033_8, eb_4336793171144239470_8, eb_4336793192635852094_8, eb_4336793196931343713_8, eb_4336799750816022076_8, eb_4336804166361248353_8, eb_4336810746235415668_8, eb_4351156112845270631_8, eb_4352840508821617711_8, eb_4353970888399544684_8, eb_4355655336186377278_8, eb_4355948828431576126_8, eb_4356776833549689452_8, eb_6736589144075891573_8, eb_7286945561811696930_8, eb_7522525835761050223_8, eb_7597120025407222562_8, eb_7814997844241883746_8, eb_7943852967226007922_8, eb_8243121641139499838_8, eb_8304140937415647602_8, eb_8872769000508236346_8, eb_8872784376777351738_8, eb_8898316964945948524_8, tl_0, tl_1, tl_2, tl_3, tl_5, tl_6, tl_7, tl_8, tl_9, tl_10, tl_11, tl_12, tl_13, tl_14, tl_15, tl_16, tl_17, tl_18, tl_19, tl_20, tl_21, tl_22, tl_23, tl_24, tl_25, tl_26, tl_27, tl_28, tl_29, tl_30, tl_31, tl_32, tl_33, tl_34, tl_35, tl_36, tl_37, tl_38, tl_39, tl_40, tl_41, tl_42, tl_43, tl_44, tl_45, tl_46, tl_47, tl_48, tl_49, tl_50, tl_51, tl_52, tl_53, tl_54, tl_55, tl_56, tl_57, tl_58, tl_59]; done))
set_option maxRecDepth 20000 in
theorem sp_emitText_2 {g : aw_G} {S : aw_S} {O : List Int32} {P : xp_T} (hP : xp_M S P) (hW : xp_wd P) {t : Nat} (ht : t < xp_t P) (hO : O.length + 200 < 2147483648) : Sp g M_Mo_emitText 2 45 0 0 [.ref 33, .int (nI t), .int (nI 2)] (HP (MS S O)) (fun r1 h => r1 = none ∧ h = HP (MS S (O ++ w_t w_2 P t))) := by
  refine Sp.of rfl (aw_le rfl) ?_
  have hl := w_t_len (f := w_2) hW ht w_2_len
  refine aw_iconst (v := nI 0) (aw_d q_Mo_emitText 0 rfl) (by decide) ?_
  refine aw_istore_n (aw_d q_Mo_emitText 1 rfl) rfl (aw_le rfl) rfl ?_
  exact lp_emitText_2 hP hW ht (by rw [List.length_append]; omega) (xp_l P t) 0 O _ (by omega) rfl
set_option maxRecDepth 20000 in
theorem lp_emitText_3 {g : aw_G} {S : aw_S} {O : List Int32} {P : xp_T} (hP : xp_M S P) (hW : xp_wd P) {t : Nat} (ht : t < xp_t P) (hO : (O ++ w_t w_3 P t).length + 10 < 2147483648) : ∀ (m k : Nat) (Q : List Int32) (x4 : Option Value), m + k = xp_l P t → Q ++ catB (fun i => w_3 (xp_b P t i)) m k = O ++ w_t w_3 P t → AW g M_Mo_emitText (aw_rm 2 45 0 0) (aw_F g 0 0 (fun r1 h => r1 = none ∧ h = HP (MS S (O ++ w_t w_3 P t)))) 2 [some (.ref 33), some (.int (nI t)), some (.int (nI 3)), some (.int (nI k)), x4] [] (HP (MS S Q)) 0 0 := by
  intro m
  induction m with
  | zero =>
    intro k Q x4 hk e
    refine aw_iload_n (aw_d q_Mo_emitText 2 rfl) rfl rfl ?_
    refine aw_aload_n (aw_d q_Mo_emitText 3 rfl) rfl rfl rfl ?_
    refine aw_getf (aw_d q_Mo_emitText 4 rfl) fL_Mo_25_Mo rfl rfl ?_
    refine aw_iload_n (aw_d q_Mo_emitText 5 rfl) rfl rfl ?_
    refine aw_ialdK (w := nI (xp_l P t)) (aw_d q_Mo_emitText 6 rfl) rfl (by (have hz := (hW.2.2.2 t ht).2; have hz1 := hW.1; omega)) rfl ((hP.2.2.2 t ht).2.2.1) ?_
    refine aw_icmpN_ge (tgt := 224) (aw_d q_Mo_emitText 7 rfl) (by decide) (by (have hz := (hW.2.2.2 t ht).2; have hz1 := hW.1; omega)) (by (have hz := (hW.2.2.2 t ht).2; have hz1 := hW.1; omega)) (fun c9 => ?_) (fun c9 => by exfalso; (have hz := (hW.2.2.2 t ht).2; have hz1 := hW.1; omega))
    exact aw_vret (aw_d q_Mo_emitText 109 rfl) rfl (⟨rfl, by rw [← e]; simp [catB]⟩)
  | succ m ih =>
    intro k Q x4 hk e
    have hq := congrArg List.length e
    simp only [catB, List.length_append, List.length_cons, List.length_nil] at hq
    refine aw_iload_n (aw_d q_Mo_emitText 2 rfl) rfl rfl ?_
    refine aw_aload_n (aw_d q_Mo_emitText 3 rfl) rfl rfl rfl ?_
    refine aw_getf (aw_d q_Mo_emitText 4 rfl) fL_Mo_25_Mo rfl rfl ?_
    refine aw_iload_n (aw_d q_Mo_emitText 5 rfl) rfl rfl ?_
    refine aw_ialdK (w := nI (xp_l P t)) (aw_d q_Mo_emitText 6 rfl) rfl (by (have hz := (hW.2.2.2 t ht).2; have hz1 := hW.1; omega)) rfl ((hP.2.2.2 t ht).2.2.1) ?_
    refine aw_icmpN_ge (tgt := 224) (aw_d q_Mo_emitText 7 rfl) (by decide) (by (have hz := (hW.2.2.2 t ht).2; have hz1 := hW.1; omega)) (by (have hz := (hW.2.2.2 t ht).2; have hz1 := hW.1; omega)) (fun c9 => by exfalso; (have hz := (hW.2.2.2 t ht).2; have hz1 := hW.1; omega)) (fun c9 => ?_)
    refine aw_aload_n (aw_d q_Mo_emitText 8 rfl) rfl rfl rfl ?_
    refine aw_getf (aw_d q_Mo_emitText 9 rfl) fL_Mo_28_Mo rfl rfl ?_
    refine aw_bipush (v := nI 20) (aw_d q_Mo_emitText 10 rfl) (by decide) ?_
    refine aw_iload_n (aw_d q_Mo_emitText 11 rfl) rfl rfl ?_
    refine aw_imulN (aw_d q_Mo_emitText 12 rfl) ?_
    refine aw_iload_n (aw_d q_Mo_emitText 13 rfl) rfl rfl ?_
    refine aw_iaddN (aw_d q_Mo_emitText 14 rfl) ?_
    refine aw_ialdK (w := (xp_b P t k)) (aw_d q_Mo_emitText 15 rfl) rfl (by (have hz := (hW.2.2.2 t ht).2; have hz1 := hW.1; omega)) rfl (by show S.2 40 (20 * t + k) = _; rw [Nat.mul_comm 20 t]; exact (hP.2.2.2 t ht).2.2.2 k (by omega)) ?_
    refine aw_istore (aw_d q_Mo_emitText 16 rfl) (aw_le rfl) rfl ?_
    have hb : _ ∨ _ := of_decide_eq_true ((hW.2.2.2 t ht).2.2.2.2.2.1 k (by omega))
    refine aw_iload_n (aw_d q_Mo_emitText 17 rfl) rfl rfl ?_
    refine aw_iconst (v := nI 1) (aw_d q_Mo_emitText 18 rfl) (by decide) ?_
    refine aw_icmpN_ne (tgt := 102) (aw_d q_Mo_emitText 19 rfl) (by decide) (by (have hz := (hW.2.2.2 t ht).2; have hz1 := hW.1; omega)) (by (have hz := (hW.2.2.2 t ht).2; have hz1 := hW.1; omega)) (fun c27 => ?_) (fun c27 => by exfalso; (have hz := (hW.2.2.2 t ht).2; have hz1 := hW.1; omega))
    refine aw_iload_n (aw_d q_Mo_emitText 51 rfl) rfl rfl ?_
    refine aw_iconst (v := nI 2) (aw_d q_Mo_emitText 52 rfl) (by decide) ?_
    refine aw_icmpN_ne (tgt := 125) (aw_d q_Mo_emitText 53 rfl) (by decide) (by (have hz := (hW.2.2.2 t ht).2; have hz1 := hW.1; omega)) (by (have hz := (hW.2.2.2 t ht).2; have hz1 := hW.1; omega)) (fun c104 => ?_) (fun c104 => by exfalso; (have hz := (hW.2.2.2 t ht).2; have hz1 := hW.1; omega))
    refine aw_iload_n (aw_d q_Mo_emitText 62 rfl) rfl rfl ?_
    refine aw_iconst (v := nI 2) (aw_d q_Mo_emitText 63 rfl) (by decide) ?_
    refine aw_icmpN_ne (tgt := 148) (aw_d q_Mo_emitText 64 rfl) (by decide) (by (have hz := (hW.2.2.2 t ht).2; have hz1 := hW.1; omega)) (by (have hz := (hW.2.2.2 t ht).2; have hz1 := hW.1; omega)) (fun c127 => ?_) (fun c127 => by exfalso; (have hz := (hW.2.2.2 t ht).2; have hz1 := hW.1; omega))
    refine aw_iload_n (aw_d q_Mo_emitText 73 rfl) rfl rfl ?_
    refine aw_iconst (v := nI 2) (aw_d q_Mo_emitText 74 rfl) (by decide) ?_
    refine aw_icmpN_ne (tgt := 171) (aw_d q_Mo_emitText 75 rfl) (by decide) (by (have hz := (hW.2.2.2 t ht).2; have hz1 := hW.1; omega)) (by (have hz := (hW.2.2.2 t ht).2; have hz1 := hW.1; omega)) (fun c150 => ?_) (fun c150 => by exfalso; (have hz := (hW.2.2.2 t ht).2; have hz1 := hW.1; omega))
    refine aw_iload_n (aw_d q_Mo_emitText 84 rfl) rfl rfl ?_
    refine aw_iconst (v := nI 2) (aw_d q_Mo_emitText 85 rfl) (by decide) ?_
    refine aw_icmpN_ne (tgt := 194) (aw_d q_Mo_emitText 86 rfl) (by decide) (by (have hz := (hW.2.2.2 t ht).2; have hz1 := hW.1; omega)) (by (have hz := (hW.2.2.2 t ht).2; have hz1 := hW.1; omega)) (fun c173 => ?_) (fun c173 => by exfalso; (have hz := (hW.2.2.2 t ht).2; have hz1 := hW.1; omega))
    refine aw_aload_n (aw_d q_Mo_emitText 95 rfl) rfl rfl rfl ?_
    refine aw_iload (aw_d q_Mo_emitText 96 rfl) rfl ?_
    refine cVv (aw_d q_Mo_emitText 97 rfl) (sp_put1 (by simp only [List.length_append, List.length_cons, List.length_nil, eB_len] at hO ⊢; omega)) vL_Mo_135_Mo rfl rfl rfl rfl rfl rfl ⟨aw_le rfl, aw_le rfl⟩ ?_
    refine aw_iload_n (aw_d q_Mo_emitText 98 rfl) rfl rfl ?_
    refine aw_iconst (v := nI 3) (aw_d q_Mo_emitText 99 rfl) (by decide) ?_
    refine aw_icmpN_ne (tgt := 218) (aw_d q_Mo_emitText 100 rfl) (by decide) (by (have hz := (hW.2.2.2 t ht).2; have hz1 := hW.1; omega)) (by (have hz := (hW.2.2.2 t ht).2; have hz1 := hW.1; omega)) (fun c202 => by exfalso; (have hz := (hW.2.2.2 t ht).2; have hz1 := hW.1; omega)) (fun c202 => ?_)
    refine aw_iload (aw_d q_Mo_emitText 101 rfl) rfl ?_
    refine aw_bipush (v := nI 34) (aw_d q_Mo_emitText 102 rfl) (by decide) ?_
    refine aw_icmpI_ne (tgt := 218) (aw_d q_Mo_emitText 103 rfl) (by decide) (by (have hz := (hW.2.2.2 t ht).2; have hz1 := hW.1; omega)) (fun c209 => ?_) (fun c209 => ?_)
    · refine aw_iinc (aw_d q_Mo_emitText 107 rfl) rfl (ii1 _) (aw_le rfl) rfl ?_
      refine aw_goto (tgt := 2) (aw_d q_Mo_emitText 108 rfl) (by decide) ?_
      exact ih (k + 1) _ _ (by omega) (by rw [← e]; simp only [catB]; first | (exfalso; omega) | (rw [w3_34 (b := xp_b P t k) (by omega)]; simp [List.append_assoc]; done) | (rw [w3_n (b := xp_b P t k) (by omega)]; simp [List.append_assoc]; done))
    · refine aw_aload_n (aw_d q_Mo_emitText 104 rfl) rfl rfl rfl ?_
      refine aw_iload (aw_d q_Mo_emitText 105 rfl) rfl ?_
      refine cVv (aw_d q_Mo_emitText 106 rfl) (sp_put1 (by simp only [List.length_append, List.length_cons, List.length_nil, eB_len] at hO ⊢; omega)) vL_Mo_135_Mo rfl rfl rfl rfl rfl rfl ⟨aw_le rfl, aw_le rfl⟩ ?_
      refine aw_iinc (aw_d q_Mo_emitText 107 rfl) rfl (ii1 _) (aw_le rfl) rfl ?_
      refine aw_goto (tgt := 2) (aw_d q_Mo_emitText 108 rfl) (by decide) ?_
      exact ih (k + 1) _ _ (by omega) (by rw [← e]; simp only [catB]; first | (exfalso; omega) | (rw [w3_34 (b := xp_b P t k) (by omega)]; simp [List.append_assoc]; done) | (rw [w3_n (b := xp_b P t k) (by omega)]; simp [List.append_assoc]; done))
set_option maxRecDepth 20000 in
theorem sp_emitText_3 {g : aw_G} {S : aw_S} {O : List Int32} {P : xp_T} (hP : xp_M S P) (hW : xp_wd P) {t : Nat} (ht : t < xp_t P) (hO : O.length + 200 < 2147483648) : Sp g M_Mo_emitText 2 45 0 0 [.ref 33, .int (nI t), .int (nI 3)] (HP (MS S O)) (fun r1 h => r1 = none ∧ h = HP (MS S (O ++ w_t w_3 P t))) := by
  refine Sp.of rfl (aw_le rfl) ?_
  have hl := w_t_len (f := w_3) hW ht w_3_len
  refine aw_iconst (v := nI 0) (aw_d q_Mo_emitText 0 rfl) (by decide) ?_
  refine aw_istore_n (aw_d q_Mo_emitText 1 rfl) rfl (aw_le rfl) rfl ?_
  exact lp_emitText_3 hP hW ht (by rw [List.length_append]; omega) (xp_l P t) 0 O _ (by omega) rfl
