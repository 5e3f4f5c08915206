set_option maxRecDepth 20000 in
theorem sp_Mo_bindBraces_0 {g : aw_G} {S : aw_S} {O : List Int32} {P : xp_T} (hP : xp_M S P) (hW : xp_wd P) {t : Nat} (ht : t < xp_t P) (hk : xp_k P t = 0) (hO : O.length + 1000 < 2147483648) : Sp g M_Mo_bindBraces 3 69 0 0 [.ref 33, .int (nI t)] (HP (MS S O)) (fun r1 h => r1 = none ∧ h = HP (MS S (O ++ (nI 34 :: w_jt P t)))) := by
  refine Sp.of rfl (aw_le rfl) ?_
  have hl1 := w_t_len (f := w_1) hW ht w_1_len
  refine aw_aload_n (aw_d q_Mo_bindBraces 0 rfl) rfl rfl rfl ?_
  refine aw_ldc2 (aw_d q_Mo_bindBraces 1 rfl) lL_Mo_191 ?_
  refine aw_bipush (v := nI 8) (aw_d q_Mo_bindBraces 2 rfl) (by decide) ?_
  refine cVv (aw_d q_Mo_bindBraces 3 rfl) (sp_emit (by (try simp only [List.length_append, List.length_cons, List.length_nil, eB_len]); omega)) vL_Mo_141_Mo rfl rfl rfl rfl rfl rfl ⟨aw_le rfl, aw_le rfl⟩ ?_
  refine aw_aload_n (aw_d q_Mo_bindBraces 4 rfl) rfl rfl rfl ?_
  refine aw_ldc2 (aw_d q_Mo_bindBraces 5 rfl) lL_Mo_193 ?_
  refine aw_iconst (v := nI 3) (aw_d q_Mo_bindBraces 6 rfl) (by decide) ?_
  refine cVv (aw_d q_Mo_bindBraces 7 rfl) (sp_emit (by (try simp only [List.length_append, List.length_cons, List.length_nil, eB_len]); omega)) vL_Mo_141_Mo rfl rfl rfl rfl rfl rfl ⟨aw_le rfl, aw_le rfl⟩ ?_
  refine aw_aload_n (aw_d q_Mo_bindBraces 8 rfl) rfl rfl rfl ?_
  refine aw_getf (aw_d q_Mo_bindBraces 9 rfl) fL_Mo_19_Mo rfl rfl ?_
  refine aw_iload_n (aw_d q_Mo_bindBraces 10 rfl) rfl rfl ?_
  refine aw_ialdK (w := nI (0)) (aw_d q_Mo_bindBraces 11 rfl) rfl (by (have hz := (hW.2.2.2 t ht).2; have hz1 := hW.1; omega)) rfl ((hP.2.2.2 t ht).1.trans (congrArg nI hk)) ?_
  refine aw_ifN_ne (tgt := 37) (aw_d q_Mo_bindBraces 12 rfl) (by decide) (by (have hz := (hW.2.2.2 t ht).2; have hz1 := hW.1; omega)) (fun c23 => by exfalso; (have hz := (hW.2.2.2 t ht).2; have hz1 := hW.1; omega)) (fun c23 => ?_)
  refine aw_aload_n (aw_d q_Mo_bindBraces 13 rfl) rfl rfl rfl ?_
  refine aw_ldc2 (aw_d q_Mo_bindBraces 14 rfl) lL_Mo_195 ?_
  refine aw_iconst (v := nI 3) (aw_d q_Mo_bindBraces 15 rfl) (by decide) ?_
  refine cVv (aw_d q_Mo_bindBraces 16 rfl) (sp_emit (by (try simp only [List.length_append, List.length_cons, List.length_nil, eB_len]); omega)) vL_Mo_141_Mo rfl rfl rfl rfl rfl rfl ⟨aw_le rfl, aw_le rfl⟩ ?_
  refine aw_goto (tgt := 67) (aw_d q_Mo_bindBraces 17 rfl) (by decide) ?_
  refine aw_aload_n (aw_d q_Mo_bindBraces 33 rfl) rfl rfl rfl ?_
  refine aw_ldc2 (aw_d q_Mo_bindBraces 34 rfl) lL_Mo_201 ?_
  refine aw_bipush (v := nI 8) (aw_d q_Mo_bindBraces 35 rfl) (by decide) ?_
  refine cVv (aw_d q_Mo_bindBraces 36 rfl) (sp_emit (by (try simp only [List.length_append, List.length_cons, List.length_nil, eB_len]); omega)) vL_Mo_141_Mo rfl rfl rfl rfl rfl rfl ⟨aw_le rfl, aw_le rfl⟩ ?_
  refine aw_aload_n (aw_d q_Mo_bindBraces 37 rfl) rfl rfl rfl ?_
  refine aw_ldc2 (aw_d q_Mo_bindBraces 38 rfl) lL_Mo_193 ?_
  refine aw_iconst (v := nI 3) (aw_d q_Mo_bindBraces 39 rfl) (by decide) ?_
  refine cVv (aw_d q_Mo_bindBraces 40 rfl) (sp_emit (by (try simp only [List.length_append, List.length_cons, List.length_nil, eB_len]); omega)) vL_Mo_141_Mo rfl rfl rfl rfl rfl rfl ⟨aw_le rfl, aw_le rfl⟩ ?_
  refine aw_aload_n (aw_d q_Mo_bindBraces 41 rfl) rfl rfl rfl ?_
  refine aw_iload_n (aw_d q_Mo_bindBraces 42 rfl) rfl rfl ?_
  refine aw_iconst (v := nI 1) (aw_d q_Mo_bindBraces 43 rfl) (by decide) ?_
  refine cVv (aw_d q_Mo_bindBraces 44 rfl) (sp_emitText_1 hP hW ht (by (try simp only [List.length_append, List.length_cons, List.length_nil, eB_len]); omega)) vL_Mo_203_Mo rfl rfl rfl rfl rfl rfl ⟨aw_le rfl, aw_le rfl⟩ ?_
  refine aw_aload_n (aw_d q_Mo_bindBraces 45 rfl) rfl rfl rfl ?_
  refine aw_bipush (v := nI 34) (aw_d q_Mo_bindBraces 46 rfl) (by decide) ?_
  refine cVv (aw_d q_Mo_bindBraces 47 rfl) (sp_put1 (by (try simp only [List.length_append, List.length_cons, List.length_nil, eB_len]); omega)) vL_Mo_135_Mo rfl rfl rfl rfl rfl rfl ⟨aw_le rfl, aw_le rfl⟩ ?_
  refine aw_aload_n (aw_d q_Mo_bindBraces 48 rfl) rfl rfl rfl ?_
  refine aw_getf (aw_d q_Mo_bindBraces 49 rfl) fL_Mo_19_Mo rfl rfl ?_
  refine aw_iload_n (aw_d q_Mo_bindBraces 50 rfl) rfl rfl ?_
  refine aw_ialdK (w := nI (0)) (aw_d q_Mo_bindBraces 51 rfl) rfl (by (have hz := (hW.2.2.2 t ht).2; have hz1 := hW.1; omega)) rfl ((hP.2.2.2 t ht).1.trans (congrArg nI hk)) ?_
  refine aw_iconst (v := nI 3) (aw_d q_Mo_bindBraces 52 rfl) (by decide) ?_
  refine aw_icmpN_ne (tgt := 126) (aw_d q_Mo_bindBraces 53 rfl) (by decide) (by (have hz := (hW.2.2.2 t ht).2; have hz1 := hW.1; omega)) (by (have hz := (hW.2.2.2 t ht).2; have hz1 := hW.1; omega)) (fun c103 => ?_) (fun c103 => by exfalso; (have hz := (hW.2.2.2 t ht).2; have hz1 := hW.1; omega))
  refine aw_aload_n (aw_d q_Mo_bindBraces 63 rfl) rfl rfl rfl ?_
  refine aw_getf (aw_d q_Mo_bindBraces 64 rfl) fL_Mo_19_Mo rfl rfl ?_
  refine aw_iload_n (aw_d q_Mo_bindBraces 65 rfl) rfl rfl ?_
  refine aw_ialdK (w := nI (0)) (aw_d q_Mo_bindBraces 66 rfl) rfl (by (have hz := (hW.2.2.2 t ht).2; have hz1 := hW.1; omega)) rfl ((hP.2.2.2 t ht).1.trans (congrArg nI hk)) ?_
  refine aw_iconst (v := nI 4) (aw_d q_Mo_bindBraces 67 rfl) (by decide) ?_
  refine aw_icmpN_ne (tgt := 153) (aw_d q_Mo_bindBraces 68 rfl) (by decide) (by (have hz := (hW.2.2.2 t ht).2; have hz1 := hW.1; omega)) (by (have hz := (hW.2.2.2 t ht).2; have hz1 := hW.1; omega)) (fun c133 => ?_) (fun c133 => by exfalso; (have hz := (hW.2.2.2 t ht).2; have hz1 := hW.1; omega))
  refine aw_aload_n (aw_d q_Mo_bindBraces 77 rfl) rfl rfl rfl ?_
  refine aw_getf (aw_d q_Mo_bindBraces 78 rfl) fL_Mo_19_Mo rfl rfl ?_
  refine aw_iload_n (aw_d q_Mo_bindBraces 79 rfl) rfl rfl ?_
  refine aw_ialdK (w := nI (0)) (aw_d q_Mo_bindBraces 80 rfl) rfl (by (have hz := (hW.2.2.2 t ht).2; have hz1 := hW.1; omega)) rfl ((hP.2.2.2 t ht).1.trans (congrArg nI hk)) ?_
  refine aw_iconst (v := nI 2) (aw_d q_Mo_bindBraces 81 rfl) (by decide) ?_
  refine aw_icmpN_le (tgt := 174) (aw_d q_Mo_bindBraces 82 rfl) (by decide) (by (have hz := (hW.2.2.2 t ht).2; have hz1 := hW.1; omega)) (by (have hz := (hW.2.2.2 t ht).2; have hz1 := hW.1; omega)) (fun c160 => ?_) (fun c160 => by exfalso; (have hz := (hW.2.2.2 t ht).2; have hz1 := hW.1; omega))
  refine aw_aload_n (aw_d q_Mo_bindBraces 89 rfl) rfl rfl rfl ?_
  refine aw_bipush (v := nI 125) (aw_d q_Mo_bindBraces 90 rfl) (by decide) ?_
  refine cVv (aw_d q_Mo_bindBraces 91 rfl) (sp_put1 (by (try simp only [List.length_append, List.length_cons, List.length_nil, eB_len]); omega)) vL_Mo_135_Mo rfl rfl rfl rfl rfl rfl ⟨aw_le rfl, aw_le rfl⟩ ?_
  exact aw_vret (aw_d q_Mo_bindBraces 92 rfl) rfl (⟨rfl, by simp [w_jt, hk, eb_34_0, eb_34_1, eb_34_2, eb_44_0, eb_44_1, eb_44_2, eb_62_1, eb_63_0, eb_63_1, eb_63_2, eb_91_1, eb_123_0, eb_123_1, eb_123_2, eb_8766_2, eb_11298_0, eb_11298_1, eb_11298_2, eb_11387_0, eb_11387_1, eb_11387_2, eb_14939_2, eb_24158_2, eb_24378_2, eb_26430_2, eb_27710_2, eb_2240318_3, eb_2243106_3, eb_6126973_3, eb_6634786_3, eb_6765858_3, eb_7433278_3, eb_7697001_3, eb_644314171_4, eb_644641851_4, eb_1684108389_4, eb_1919246700_4, eb_1953658213_4, eb_163799184187_5, eb_164843319355_5, eb_259668470078_5, eb_422759588965_5, eb_435426304570_5, eb_439721161573_5, eb_474176698914_5, eb_482733079074_5, eb_500136506472_5, eb_512853240933_5, eb_66174531561790_6, eb_66419075146814_6, eb_122511348035134_6, eb_9128563980975394_7, eb_16996725057414462_7, eb_30515246123868524_7, eb_2334097659363883376_8, eb_2339740318023049582_8, eb_2462380988100801893_8, eb_2466419133851988069_8, eb_3180214656604140665_8, eb_3180236698239528033_8, eb_4336793171144239470_8, eb_4336793192635852094_8, eb_4336793196931343713_8, eb_4336799750816022076_8, eb_4336804166361248353_8, eb_4336810746235415668_8, eb_4351156112845270631_8, eb_4352840508821617711_8, eb_4353970888399544684_8, eb_4355655336186377278_8, eb_4355948828431576126_8, eb_4356776833549689452_8, eb_6736589144075891573_8, eb_7286945561811696930_8, eb_7522525835761050223_8, eb_7597120025407222562_8, eb_7814997844241883746_8, eb_7943852967226007922_8, eb_8243121641139499838_8, eb_8304140937415647602_8, eb_8872769000508236346_8, eb_8872784376777351738_8, eb_8898316964945948524_8, tl_0, tl_1, tl_2, tl_3, tl_5, tl_6, tl_7, tl_8, tl_9, tl_10, tl_11, tl_12, tl_13, tl_14, tl_15, tl_16, tl_17, tl_18, tl_19, tl_20, tl_21, tl_22, tl_23, tl_24, tl_25, tl_26, tl_27, tl_28, tl_29, tl_30, tl_31, tl_32, tl_33, tl_34, tl_35, tl_36, tl_37, tl_38, tl_39, tl_40, tl_41, tl_42, tl_43, tl_44, tl_45, tl_46, tl_47, tl_48, tl_49, tl_50, tl_51, tl_52, tl_53, tl_54, tl_55, tl_56, tl_57, tl_58, tl_59]⟩)
set_option maxRecDepth 20000 in
theorem sp_Mo_bindBraces_1 {g : aw_G} {S : aw_S} {O : List Int32} {P : xp_T} (hP : xp_M S P) (hW : xp_wd P) {t : Nat} (ht : t < xp_t P) (hk : xp_k P t = 1) (hO : O.length + 1000 < 2147483648) : Sp g M_Mo_bindBraces 3 69 0 0 [.ref 33, .int (nI t)] (HP (MS S O)) (fun r1 h => r1 = none ∧ h = HP (MS S (O ++ (nI 34 :: w_jt P t)))) := by
  refine Sp.of rfl (aw_le rfl) ?_
  have hl1 := w_t_len (f := w_1) hW ht w_1_len
  refine aw_aload_n (aw_d q_Mo_bindBraces 0 rfl) rfl rfl rfl ?_
  refine aw_ldc2 (aw_d q_Mo_bindBraces 1 rfl) lL_Mo_191 ?_
  refine aw_bipush (v := nI 8) (aw_d q_Mo_bindBraces 2 rfl) (by decide) ?_
  refine cVv (aw_d q_Mo_bindBraces 3 rfl) (sp_emit (by (try simp only [List.length_append, List.length_cons, List.length_nil, eB_len]); omega)) vL_Mo_141_Mo rfl rfl rfl rfl rfl rfl ⟨aw_le rfl, aw_le rfl⟩ ?_
  refine aw_aload_n (aw_d q_Mo_bindBraces 4 rfl) rfl rfl rfl ?_
  refine aw_ldc2 (aw_d q_Mo_bindBraces 5 rfl) lL_Mo_193 ?_
  refine aw_iconst (v := nI 3) (aw_d q_Mo_bindBraces 6 rfl) (by decide) ?_
  refine cVv (aw_d q_Mo_bindBraces 7 rfl) (sp_emit (by (try simp only [List.length_append, List.length_cons, List.length_nil, eB_len]); omega)) vL_Mo_141_Mo rfl rfl rfl rfl rfl rfl ⟨aw_le rfl, aw_le rfl⟩ ?_
  refine aw_aload_n (aw_d q_Mo_bindBraces 8 rfl) rfl rfl rfl ?_
  refine aw_getf (aw_d q_Mo_bindBraces 9 rfl) fL_Mo_19_Mo rfl rfl ?_
  refine aw_iload_n (aw_d q_Mo_bindBraces 10 rfl) rfl rfl ?_
  refine aw_ialdK (w := nI (1)) (aw_d q_Mo_bindBraces 11 rfl) rfl (by (have hz := (hW.2.2.2 t ht).2; have hz1 := hW.1; omega)) rfl ((hP.2.2.2 t ht).1.trans (congrArg nI hk)) ?_
  refine aw_ifN_ne (tgt := 37) (aw_d q_Mo_bindBraces 12 rfl) (by decide) (by (have hz := (hW.2.2.2 t ht).2; have hz1 := hW.1; omega)) (fun c23 => ?_) (fun c23 => by exfalso; (have hz := (hW.2.2.2 t ht).2; have hz1 := hW.1; omega))
  refine aw_aload_n (aw_d q_Mo_bindBraces 18 rfl) rfl rfl rfl ?_
  refine aw_getf (aw_d q_Mo_bindBraces 19 rfl) fL_Mo_19_Mo rfl rfl ?_
  refine aw_iload_n (aw_d q_Mo_bindBraces 20 rfl) rfl rfl ?_
  refine aw_ialdK (w := nI (1)) (aw_d q_Mo_bindBraces 21 rfl) rfl (by (have hz := (hW.2.2.2 t ht).2; have hz1 := hW.1; omega)) rfl ((hP.2.2.2 t ht).1.trans (congrArg nI hk)) ?_
  refine aw_iconst (v := nI 1) (aw_d q_Mo_bindBraces 22 rfl) (by decide) ?_
  refine aw_icmpN_ne (tgt := 58) (aw_d q_Mo_bindBraces 23 rfl) (by decide) (by (have hz := (hW.2.2.2 t ht).2; have hz1 := hW.1; omega)) (by (have hz := (hW.2.2.2 t ht).2; have hz1 := hW.1; omega)) (fun c44 => by exfalso; (have hz := (hW.2.2.2 t ht).2; have hz1 := hW.1; omega)) (fun c44 => ?_)
  refine aw_aload_n (aw_d q_Mo_bindBraces 24 rfl) rfl rfl rfl ?_
  refine aw_ldc2 (aw_d q_Mo_bindBraces 25 rfl) lL_Mo_197 ?_
  refine aw_iconst (v := nI 5) (aw_d q_Mo_bindBraces 26 rfl) (by decide) ?_
  refine cVv (aw_d q_Mo_bindBraces 27 rfl) (sp_emit (by (try simp only [List.length_append, List.length_cons, List.length_nil, eB_len]); omega)) vL_Mo_141_Mo rfl rfl rfl rfl rfl rfl ⟨aw_le rfl, aw_le rfl⟩ ?_
  refine aw_goto (tgt := 67) (aw_d q_Mo_bindBraces 28 rfl) (by decide) ?_
  refine aw_aload_n (aw_d q_Mo_bindBraces 33 rfl) rfl rfl rfl ?_
  refine aw_ldc2 (aw_d q_Mo_bindBraces 34 rfl) lL_Mo_201 ?_
  refine aw_bipush (v := nI 8) (aw_d q_Mo_bindBraces 35 rfl) (by decide) ?_
  refine cVv (aw_d q_Mo_bindBraces 36 rfl) (sp_emit (by (try simp only [List.length_append, List.length_cons, List.length_nil, eB_len]); omega)) vL_Mo_141_Mo rfl rfl rfl rfl rfl rfl ⟨aw_le rfl, aw_le rfl⟩ ?_
  refine aw_aload_n (aw_d q_Mo_bindBraces 37 rfl) rfl rfl rfl ?_
  refine aw_ldc2 (aw_d q_Mo_bindBraces 38 rfl) lL_Mo_193 ?_
  refine aw_iconst (v := nI 3) (aw_d q_Mo_bindBraces 39 rfl) (by decide) ?_
  refine cVv (aw_d q_Mo_bindBraces 40 rfl) (sp_emit (by (try simp only [List.length_append, List.length_cons, List.length_nil, eB_len]); omega)) vL_Mo_141_Mo rfl rfl rfl rfl rfl rfl ⟨aw_le rfl, aw_le rfl⟩ ?_
  refine aw_aload_n (aw_d q_Mo_bindBraces 41 rfl) rfl rfl rfl ?_
  refine aw_iload_n (aw_d q_Mo_bindBraces 42 rfl) rfl rfl ?_
  refine aw_iconst (v := nI 1) (aw_d q_Mo_bindBraces 43 rfl) (by decide) ?_
  refine cVv (aw_d q_Mo_bindBraces 44 rfl) (sp_emitText_1 hP hW ht (by (try simp only [List.length_append, List.length_cons, List.length_nil, eB_len]); omega)) vL_Mo_203_Mo rfl rfl rfl rfl rfl rfl ⟨aw_le rfl, aw_le rfl⟩ ?_
  refine aw_aload_n (aw_d q_Mo_bindBraces 45 rfl) rfl rfl rfl ?_
  refine aw_bipush (v := nI 34) (aw_d q_Mo_bindBraces 46 rfl) (by decide) ?_
  refine cVv (aw_d q_Mo_bindBraces 47 rfl) (sp_put1 (by (try simp only [List.length_append, List.length_cons, List.length_nil, eB_len]); omega)) vL_Mo_135_Mo rfl rfl rfl rfl rfl rfl ⟨aw_le rfl, aw_le rfl⟩ ?_
  refine aw_aload_n (aw_d q_Mo_bindBraces 48 rfl) rfl rfl rfl ?_
  refine aw_getf (aw_d q_Mo_bindBraces 49 rfl) fL_Mo_19_Mo rfl rfl ?_
  refine aw_iload_n (aw_d q_Mo_bindBraces 50 rfl) rfl rfl ?_
  refine aw_ialdK (w := nI (1)) (aw_d q_Mo_bindBraces 51 rfl) rfl (by (have hz := (hW.2.2.2 t ht).2; have hz1 := hW.1; omega)) rfl ((hP.2.2.2 t ht).1.trans (congrArg nI hk)) ?_
  refine aw_iconst (v := nI 3) (aw_d q_Mo_bindBraces 52 rfl) (by decide) ?_
  refine aw_icmpN_ne (tgt := 126) (aw_d q_Mo_bindBraces 53 rfl) (by decide) (by (have hz := (hW.2.2.2 t ht).2; have hz1 := hW.1; omega)) (by (have hz := (hW.2.2.2 t ht).2; have hz1 := hW.1; omega)) (fun c103 => ?_) (fun c103 => by exfalso; (have hz := (hW.2.2.2 t ht).2; have hz1 := hW.1; omega))
  refine aw_aload_n (aw_d q_Mo_bindBraces 63 rfl) rfl rfl rfl ?_
  refine aw_getf (aw_d q_Mo_bindBraces 64 rfl) fL_Mo_19_Mo rfl rfl ?_
  refine aw_iload_n (aw_d q_Mo_bindBraces 65 rfl) rfl rfl ?_
  refine aw_ialdK (w := nI (1)) (aw_d q_Mo_bindBraces 66 rfl) rfl (by (have hz := (hW.2.2.2 t ht).2; have hz1 := hW.1; omega)) rfl ((hP.2.2.2 t ht).1.trans (congrArg nI hk)) ?_
  refine aw_iconst (v := nI 4) (aw_d q_Mo_bindBraces 67 rfl) (by decide) ?_
  refine aw_icmpN_ne (tgt := 153) (aw_d q_Mo_bindBraces 68 rfl) (by decide) (by (have hz := (hW.2.2.2 t ht).2; have hz1 := hW.1; omega)) (by (have hz := (hW.2.2.2 t ht).2; have hz1 := hW.1; omega)) (fun c133 => ?_) (fun c133 => by exfalso; (have hz := (hW.2.2.2 t ht).2; have hz1 := hW.1; omega))
  refine aw_aload_n (aw_d q_Mo_bindBraces 77 rfl) rfl rfl rfl ?_
  refine aw_getf (aw_d q_Mo_bindBraces 78 rfl) fL_Mo_19_Mo rfl rfl ?_
  refine aw_iload_n (aw_d q_Mo_bindBraces 79 rfl) rfl rfl ?_
  refine aw_ialdK (w := nI (1)) (aw_d q_Mo_bindBraces 80 rfl) rfl (by (have hz := (hW.2.2.2 t ht).2; have hz1 := hW.1; omega)) rfl ((hP.2.2.2 t ht).1.trans (congrArg nI hk)) ?_
  refine aw_iconst (v := nI 2) (aw_d q_Mo_bindBraces 81 rfl) (by decide) ?_
  refine aw_icmpN_le (tgt := 174) (aw_d q_Mo_bindBraces 82 rfl) (by decide) (by (have hz := (hW.2.2.2 t ht).2; have hz1 := hW.1; omega)) (by (have hz := (hW.2.2.2 t ht).2; have hz1 := hW.1; omega)) (fun c160 => ?_) (fun c160 => by exfalso; (have hz := (hW.2.2.2 t ht).2; have hz1 := hW.1; omega))
  refine aw_aload_n (aw_d q_Mo_bindBraces 89 rfl) rfl rfl rfl ?_
  refine aw_bipush (v := nI 125) (aw_d q_Mo_bindBraces 90 rfl) (by decide) ?_
  refine cVv (aw_d q_Mo_bindBraces 91 rfl) (sp_put1 (by (try simp only [List.length_append, List.length_cons, List.length_nil, eB_len]); omega)) vL_Mo_135_Mo rfl rfl rfl rfl rfl rfl ⟨aw_le rfl, aw_le rfl⟩ ?_
  exact aw_vret (aw_d q_Mo_bindBraces 92 rfl) rfl (⟨rfl, by simp [w_jt, hk, eb_34_0, eb_34_1, eb_34_2, eb_44_0, eb_44_1, eb_44_2, eb_62_1, eb_63_0, eb_63_1, eb_63_2, eb_91_1, eb_123_0, eb_123_1, eb_123_2, eb_8766_2, eb_11298_0, eb_11298_1, eb_11298_2, eb_11387_0, eb_11387_1, eb_11387_2, eb_14939_2, eb_24158_2, eb_24378_2, eb_26430_2, eb_27710_2, eb_2240318_3, eb_2243106_3, eb_6126973_3, eb_6634786_3, eb_6765858_3, eb_7433278_3, eb_7697001_3, eb_644314171_4, eb_644641851_4, eb_1684108389_4, eb_1919246700_4, eb_1953658213_4, eb_163799184187_5, eb_164843319355_5, eb_259668470078_5, eb_422759588965_5, eb_435426304570_5, eb_439721161573_5, eb_474176698914_5, eb_482733079074_5, eb_500136506472_5, eb_512853240933_5, eb_66174531561790_6, eb_66419075146814_6, eb_122511348035134_6, eb_9128563980975394_7, eb_16996725057414462_7, eb_30515246123868524_7, eb_2334097659363883376_8, eb_2339740318023049582_8, eb_2462380988100801893_8, eb_2466419133851988069_8, eb_3180214656604140665_8, eb_3180236698239528033_8, eb_4336793171144239470_8, eb_4336793192635852094_8, eb_4336793196931343713_8, eb_4336799750816022076_8, eb_4336804166361248353_8, eb_4336810746235415668_8, eb_4351156112845270631_8, eb_4352840508821617711_8, eb_4353970888399544684_8, eb_4355655336186377278_8, eb_4355948828431576126_8, eb_4356776833549689452_8, eb_6736589144075891573_8, eb_7286945561811696930_8, eb_7522525835761050223_8, eb_7597120025407222562_8, eb_7814997844241883746_8, eb_7943852967226007922_8, eb_8243121641139499838_8, eb_8304140937415647602_8, eb_8872769000508236346_8, eb_8872784376777351738_8, eb_8898316964945948524_8, tl_0, tl_1, tl_2, tl_3, tl_5, tl_6, tl_7, tl_8, tl_9, tl_10, tl_11, tl_12, tl_13, tl_14, tl_15, tl_16, tl_17, tl_18, tl_19, tl_20, tl_21, tl_22, tl_23, tl_24, tl_25, tl_26, tl_27, tl_28, tl_29, tl_30, tl_31, tl_32, tl_33, tl_34, tl_35, tl_36, tl_37, tl_38, tl_39, tl_40, tl_41, tl_42, tl_43, tl_44, tl_45, tl_46, tl_47, tl_48, tl_49, tl_50, tl_51, tl_52, tl_53, tl_54, tl_55, tl_56, tl_57, tl_58, tl_59]⟩)
set_option maxRecDepth 20000 in
theorem sp_Mo_bindBraces_2 {g : aw_G} {S : aw_S} {O : List Int32} {P : xp_T} (hP : xp_M S P) (hW : xp_wd P) {t : Nat} (ht : t < xp_t P) (hk : xp_k P t = 2) (hO : O.length + 1000 < 2147483648) : Sp g M_Mo_bindBraces 3 69 0 0 [.ref 33, .int (nI t)] (HP (MS S O)) (fun r1 h => r1 = none ∧ h = HP (MS S (O ++ (nI 34 :: w_jt P t)))) := by
  refine Sp.of rfl (aw_le rfl) ?_
  have hl1 := w_t_len (f := w_1) hW ht w_1_len
  refine aw_aload_n (aw_d q_Mo_bindBraces 0 rfl) rfl rfl rfl ?_
  refine aw_ldc2 (aw_d q_Mo_bindBraces 1 rfl) lL_Mo_191 ?_
  refine aw_bipush (v := nI 8) (aw_d q_Mo_bindBraces 2 rfl) (by decide) ?_
  refine cVv (aw_d q_Mo_bindBraces 3 rfl) (sp_emit (by (try simp only [List.length_append, List.length_cons, List.length_nil, eB_len]); omega)) vL_Mo_141_Mo rfl rfl rfl rfl rfl rfl ⟨aw_le rfl, aw_le rfl⟩ ?_
  refine aw_aload_n (aw_d q_Mo_bindBraces 4 rfl) rfl rfl rfl ?_
  refine aw_ldc2 (aw_d q_Mo_bindBraces 5 rfl) lL_Mo_193 ?_
  refine aw_iconst (v := nI 3) (aw_d q_Mo_bindBraces 6 rfl) (by decide) ?_
  refine cVv (aw_d q_Mo_bindBraces 7 rfl) (sp_emit (by (try simp only [List.length_append, List.length_cons, List.length_nil, eB_len]); omega)) vL_Mo_141_Mo rfl rfl rfl rfl rfl rfl ⟨aw_le rfl, aw_le rfl⟩ ?_
  refine aw_aload_n (aw_d q_Mo_bindBraces 8 rfl) rfl rfl rfl ?_
  refine aw_getf (aw_d q_Mo_bindBraces 9 rfl) fL_Mo_19_Mo rfl rfl ?_
  refine aw_iload_n (aw_d q_Mo_bindBraces 10 rfl) rfl rfl ?_
  refine aw_ialdK (w := nI (2)) (aw_d q_Mo_bindBraces 11 rfl) rfl (by (have hz := (hW.2.2.2 t ht).2; have hz1 := hW.1; omega)) rfl ((hP.2.2.2 t ht).1.trans (congrArg nI hk)) ?_
  refine aw_ifN_ne (tgt := 37) (aw_d q_Mo_bindBraces 12 rfl) (by decide) (by (have hz := (hW.2.2.2 t ht).2; have hz1 := hW.1; omega)) (fun c23 => ?_) (fun c23 => by exfalso; (have hz := (hW.2.2.2 t ht).2; have hz1 := hW.1; omega))
  refine aw_aload_n (aw_d q_Mo_bindBraces 18 rfl) rfl rfl rfl ?_
  refine aw_getf (aw_d q_Mo_bindBraces 19 rfl) fL_Mo_19_Mo rfl rfl ?_
  refine aw_iload_n (aw_d q_Mo_bindBraces 20 rfl) rfl rfl ?_
  refine aw_ialdK (w := nI (2)) (aw_d q_Mo_bindBraces 21 rfl) rfl (by (have hz := (hW.2.2.2 t ht).2; have hz1 := hW.1; omega)) rfl ((hP.2.2.2 t ht).1.trans (congrArg nI hk)) ?_
  refine aw_iconst (v := nI 1) (aw_d q_Mo_bindBraces 22 rfl) (by decide) ?_
  refine aw_icmpN_ne (tgt := 58) (aw_d q_Mo_bindBraces 23 rfl) (by decide) (by (have hz := (hW.2.2.2 t ht).2; have hz1 := hW.1; omega)) (by (have hz := (hW.2.2.2 t ht).2; have hz1 := hW.1; omega)) (fun c44 => ?_) (fun c44 => by exfalso; (have hz := (hW.2.2.2 t ht).2; have hz1 := hW.1; omega))
  refine aw_aload_n (aw_d q_Mo_bindBraces 29 rfl) rfl rfl rfl ?_
  refine aw_ldc2 (aw_d q_Mo_bindBraces 30 rfl) lL_Mo_199 ?_
  refine aw_bipush (v := nI 7) (aw_d q_Mo_bindBraces 31 rfl) (by decide) ?_
  refine cVv (aw_d q_Mo_bindBraces 32 rfl) (sp_emit (by (try simp only [List.length_append, List.length_cons, List.length_nil, eB_len]); omega)) vL_Mo_141_Mo rfl rfl rfl rfl rfl rfl ⟨aw_le rfl, aw_le rfl⟩ ?_
  refine aw_aload_n (aw_d q_Mo_bindBraces 33 rfl) rfl rfl rfl ?_
  refine aw_ldc2 (aw_d q_Mo_bindBraces 34 rfl) lL_Mo_201 ?_
  refine aw_bipush (v := nI 8) (aw_d q_Mo_bindBraces 35 rfl) (by decide) ?_
  refine cVv (aw_d q_Mo_bindBraces 36 rfl) (sp_emit (by (try simp only [List.length_append, List.length_cons, List.length_nil, eB_len]); omega)) vL_Mo_141_Mo rfl rfl rfl rfl rfl rfl ⟨aw_le rfl, aw_le rfl⟩ ?_
  refine aw_aload_n (aw_d q_Mo_bindBraces 37 rfl) rfl rfl rfl ?_
  refine aw_ldc2 (aw_d q_Mo_bindBraces 38 rfl) lL_Mo_193 ?_
  refine aw_iconst (v := nI 3) (aw_d q_Mo_bindBraces 39 rfl) (by decide) ?_
  refine cVv (aw_d q_Mo_bindBraces 40 rfl) (sp_emit (by (try simp only [List.length_append, List.length_cons, List.length_nil, eB_len]); omega)) vL_Mo_141_Mo rfl rfl rfl rfl rfl rfl ⟨aw_le rfl, aw_le rfl⟩ ?_
  refine aw_aload_n (aw_d q_Mo_bindBraces 41 rfl) rfl rfl rfl ?_
  refine aw_iload_n (aw_d q_Mo_bindBraces 42 rfl) rfl rfl ?_
  refine aw_iconst (v := nI 1) (aw_d q_Mo_bindBraces 43 rfl) (by decide) ?_
  refine cVv (aw_d q_Mo_bindBraces 44 rfl) (sp_emitText_1 hP hW ht (by (try simp only [List.length_append, List.length_cons, List.length_nil, eB_len]); omega)) vL_Mo_203_Mo rfl rfl rfl rfl rfl rfl ⟨aw_le rfl, aw_le rfl⟩ ?_
  refine aw_aload_n (aw_d q_Mo_bindBraces 45 rfl) rfl rfl rfl ?_
  refine aw_bipush (v := nI 34) (aw_d q_Mo_bindBraces 46 rfl) (by decide) ?_
  refine cVv (aw_d q_Mo_bindBraces 47 rfl) (sp_put1 (by (try simp only [List.length_append, List.length_cons, List.length_nil, eB_len]); omega)) vL_Mo_135_Mo rfl rfl rfl rfl rfl rfl ⟨aw_le rfl, aw_le rfl⟩ ?_
  refine aw_aload_n (aw_d q_Mo_bindBraces 48 rfl) rfl rfl rfl ?_
  refine aw_getf (aw_d q_Mo_bindBraces 49 rfl) fL_Mo_19_Mo rfl rfl ?_
  refine aw_iload_n (aw_d q_Mo_bindBraces 50 rfl) rfl rfl ?_
  refine aw_ialdK (w := nI (2)) (aw_d q_Mo_bindBraces 51 rfl) rfl (by (have hz := (hW.2.2.2 t ht).2; have hz1 := hW.1; omega)) rfl ((hP.2.2.2 t ht).1.trans (congrArg nI hk)) ?_
  refine aw_iconst (v := nI 3) (aw_d q_Mo_bindBraces 52 rfl) (by decide) ?_
  refine aw_icmpN_ne (tgt := 126) (aw_d q_Mo_bindBraces 53 rfl) (by decide) (by (have hz := (hW.2.2.2 t ht).2; have hz1 := hW.1; omega)) (by (have hz := (hW.2.2.2 t ht).2; have hz1 := hW.1; omega)) (fun c103 => ?_) (fun c103 => by exfalso; (have hz := (hW.2.2.2 t ht).2; have hz1 := hW.1; omega))
  refine aw_aload_n (aw_d q_Mo_bindBraces 63 rfl) rfl rfl rfl ?_
  refine aw_getf (aw_d q_Mo_bindBraces 64 rfl) fL_Mo_19_Mo rfl rfl ?_
  refine aw_iload_n (aw_d q_Mo_bindBraces 65 rfl) rfl rfl ?_
  refine aw_ialdK (w := nI (2)) (aw_d q_Mo_bindBraces 66 rfl) rfl (by (have hz := (hW.2.2.2 t ht).2; have hz1 := hW.1; omega)) rfl ((hP.2.2.2 t ht).1.trans (congrArg nI hk)) ?_
  refine aw_iconst (v := nI 4) (aw_d q_Mo_bindBraces 67 rfl) (by decide) ?_
  refine aw_icmpN_ne (tgt := 153) (aw_d q_Mo_bindBraces 68 rfl) (by decide) (by (have hz := (hW.2.2.2 t ht).2; have hz1 := hW.1; omega)) (by (have hz := (hW.2.2.2 t ht).2; have hz1 := hW.1; omega)) (fun c133 => ?_) (fun c133 => by exfalso; (have hz := (hW.2.2.2 t ht).2; have hz1 := hW.1; omega))
  refine aw_aload_n (aw_d q_Mo_bindBraces 77 rfl) rfl rfl rfl ?_
  refine aw_getf (aw_d q_Mo_bindBraces 78 rfl) fL_Mo_19_Mo rfl rfl ?_
  refine aw_iload_n (aw_d q_Mo_bindBraces 79 rfl) rfl rfl ?_
  refine aw_ialdK (w := nI (2)) (aw_d q_Mo_bindBraces 80 rfl) rfl (by (have hz := (hW.2.2.2 t ht).2; have hz1 := hW.1; omega)) rfl ((hP.2.2.2 t ht).1.trans (congrArg nI hk)) ?_
  refine aw_iconst (v := nI 2) (aw_d q_Mo_bindBraces 81 rfl) (by decide) ?_
  refine aw_icmpN_le (tgt := 174) (aw_d q_Mo_bindBraces 82 rfl) (by decide) (by (have hz := (hW.2.2.2 t ht).2; have hz1 := hW.1; omega)) (by (have hz := (hW.2.2.2 t ht).2; have hz1 := hW.1; omega)) (fun c160 => ?_) (fun c160 => by exfalso; (have hz := (hW.2.2.2 t ht).2; have hz1 := hW.1; omega))
  refine aw_aload_n (aw_d q_Mo_bindBraces 89 rfl) rfl rfl rfl ?_
  refine aw_bipush (v := nI 125) (aw_d q_Mo_bindBraces 90 rfl) (by decide) ?_
  refine cVv (aw_d q_Mo_bindBraces 91 rfl) (sp_put1 (by (try simp only [List.length_append, List.length_cons, List.length_nil, eB_len]); omega)) vL_Mo_135_Mo rfl rfl rfl rfl rfl rfl ⟨aw_le rfl, aw_le rfl⟩ ?_
  exact aw_vret (aw_d q_Mo_bindBraces 92 rfl) rfl (⟨rfl, by simp [w_jt, hk, eb_34_0, eb_34_1, eb_34_2, eb_44_0, eb_44_1, eb_44_2, eb_62_1, eb_63_0, eb_63_1, eb_63_2, eb_91_1, eb_123_0, eb_123_1, eb_123_2, eb_8766_2, eb_11298_0, eb_11298_1, eb_11298_2, eb_11387_0, eb_11387_1, eb_11387_2, eb_14939_2, eb_24158_2, eb_24378_2, eb_26430_2, eb_27710_2, eb_2240318_3, eb_2243106_3, eb_6126973_3, eb_6634786_3, eb_6765858_3, eb_7433278_3, eb_7697001_3, eb_644314171_4, eb_644641851_4, eb_1684108389_4, eb_1919246700_4, eb_1953658213_4, eb_163799184187_5, eb_164843319355_5, eb_259668470078_5, eb_422759588965_5, eb_435426304570_5, eb_439721161573_5, eb_474176698914_5, eb_482733079074_5, eb_500136506472_5, eb_512853240933_5, eb_66174531561790_6, eb_66419075146814_6, eb_122511348035134_6, eb_9128563980975394_7, eb_16996725057414462_7, eb_30515246123868524_7, eb_2334097659363883376_8, eb_2339740318023049582_8, eb_2462380988100801893_8, eb_2466419133851988069_8, eb_3180214656604140665_8, eb_3180236698239528033_8, eb_4336793171144239470_8, eb_4336793192635852094_8, eb_4336793196931343713_8, eb_4336799750816022076_8, eb_4336804166361248353_8, eb_4336810746235415668_8, eb_4351156112845270631_8, eb_4352840508821617711_8, eb_4353970888399544684_8, eb_4355655336186377278_8, eb_4355948828431576126_8, eb_4356776833549689452_8, eb_6736589144075891573_8, eb_7286945561811696930_8, eb_7522525835761050223_8, eb_7597120025407222562_8, eb_7814997844241883746_8, eb_7943852967226007922_8, eb_8243121641139499838_8, eb_8304140937415647602_8, eb_8872769000508236346_8, eb_8872784376777351738_8, eb_8898316964945948524_8, tl_0, tl_1, tl_2, tl_3, tl_5, tl_6, tl_7, tl_8, tl_9, tl_10, tl_11, tl_12, tl_13, tl_14, tl_15, tl_16, tl_17, tl_18, tl_19, tl_20, tl_21, tl_22, tl_23, tl_24, tl_25, tl_26, tl_27, tl_28, tl_29, tl_30, tl_31, tl_32, tl_33, tl_34, tl_35, tl_36, tl_37, tl_38, tl_39, tl_40, tl_41, tl_42, tl_43, tl_44, tl_45, tl_46, tl_47, tl_48, tl_49, tl_50, tl_51, tl_52, tl_53, tl_54, tl_55, tl_56, tl_57, tl_58, tl_59]⟩)
set_option maxRecDepth 20000 in
theorem sp_Mo_bindBraces_3 {g : aw_G} {S : aw_S} {O : List Int32} {P : xp_T} (hP : xp_M S P) (hW : xp_wd P) {t : Nat} (ht : t < xp_t P) (hk : xp_k P t = 3) (hO : O.length + 1000 < 2147483648) : Sp g M_Mo_bindBraces 3 69 0 0 [.ref 33, .int (nI t)] (HP (MS S O)) (fun r1 h => r1 = none ∧ h = HP (MS S (O ++ (nI 34 :: w_jt P t)))) := by
  refine Sp.of rfl (aw_le rfl) ?_
  have hl1 := w_t_len (f := w_1) hW ht w_1_len
  have hle := w_e_len hW ht (by omega)
  refine aw_aload_n (aw_d q_Mo_bindBraces 0 rfl) rfl rfl rfl ?_
  refine aw_ldc2 (aw_d q_Mo_bindBraces 1 rfl) lL_Mo_191 ?_
  refine aw_bipush (v := nI 8) (aw_d q_Mo_bindBraces 2 rfl) (by decide) ?_
  refine cVv (aw_d q_Mo_bindBraces 3 rfl) (sp_emit (by (try simp only [List.length_append, List.length_cons, List.length_nil, eB_len]); omega)) vL_Mo_141_Mo rfl rfl rfl rfl rfl rfl ⟨aw_le rfl, aw_le rfl⟩ ?_
  refine aw_aload_n (aw_d q_Mo_bindBraces 4 rfl) rfl rfl rfl ?_
  refine aw_ldc2 (aw_d q_Mo_bindBraces 5 rfl) lL_Mo_193 ?_
  refine aw_iconst (v := nI 3) (aw_d q_Mo_bindBraces 6 rfl) (by decide) ?_
  refine cVv (aw_d q_Mo_bindBraces 7 rfl) (sp_emit (by (try simp only [List.length_append, List.length_cons, List.length_nil, eB_len]); omega)) vL_Mo_141_Mo rfl rfl rfl rfl rfl rfl ⟨aw_le rfl, aw_le rfl⟩ ?_
  refine aw_aload_n (aw_d q_Mo_bindBraces 8 rfl) rfl rfl rfl ?_
  refine aw_getf (aw_d q_Mo_bindBraces 9 rfl) fL_Mo_19_Mo rfl rfl ?_
  refine aw_iload_n (aw_d q_Mo_bindBraces 10 rfl) rfl rfl ?_
  refine aw_ialdK (w := nI (3)) (aw_d q_Mo_bindBraces 11 rfl) rfl (by (have hz := (hW.2.2.2 t ht).2; have hz1 := hW.1; omega)) rfl ((hP.2.2.2 t ht).1.trans (congrArg nI hk)) ?_
  refine aw_ifN_ne (tgt := 37) (aw_d q_Mo_bindBraces 12 rfl) (by decide) (by (have hz := (hW.2.2.2 t ht).2; have hz1 := hW.1; omega)) (fun c23 => ?_) (fun c23 => by exfalso; (have hz := (hW.2.2.2 t ht).2; have hz1 := hW.1; omega))
  refine aw_aload_n (aw_d q_Mo_bindBraces 18 rfl) rfl rfl rfl ?_
  refine aw_getf (aw_d q_Mo_bindBraces 19 rfl) fL_Mo_19_Mo rfl rfl ?_
  refine aw_iload_n (aw_d q_Mo_bindBraces 20 rfl) rfl rfl ?_
  refine aw_ialdK (w := nI (3)) (aw_d q_Mo_bindBraces 21 rfl) rfl (by (have hz := (hW.2.2.2 t ht).2; have hz1 := hW.1; omega)) rfl ((hP.2.2.2 t ht).1.trans (congrArg nI hk)) ?_
  refine aw_iconst (v := nI 1) (aw_d q_Mo_bindBraces 22 rfl) (by decide) ?_
  refine aw_icmpN_ne (tgt := 58) (aw_d q_Mo_bindBraces 23 rfl) (by decide) (by (have hz := (hW.2.2.2 t ht).2; have hz1 := hW.1; omega)) (by (have hz := (hW.2.2.2 t ht).2; have hz1 := hW.1; omega)) (fun c44 => ?_) (fun c44 => by exfalso; (have hz := (hW.2.2.2 t ht).2; have hz1 := hW.1; omega))
  refine aw_aload_n (aw_d q_Mo_bindBraces 29 rfl) rfl rfl rfl ?_
  refine aw_ldc2 (aw_d q_Mo_bindBraces 30 rfl) lL_Mo_199 ?_
  refine aw_bipush (v := nI 7) (aw_d q_Mo_bindBraces 31 rfl) (by decide) ?_
  refine cVv (aw_d q_Mo_bindBraces 32 rfl) (sp_emit (by (try simp only [List.length_append, List.length_cons, List.length_nil, eB_len]); omega)) vL_Mo_141_Mo rfl rfl rfl rfl rfl rfl ⟨aw_le rfl, aw_le rfl⟩ ?_
  refine aw_aload_n (aw_d q_Mo_bindBraces 33 rfl) rfl rfl rfl ?_
  refine aw_ldc2 (aw_d q_Mo_bindBraces 34 rfl) lL_Mo_201 ?_
  refine aw_bipush (v := nI 8) (aw_d q_Mo_bindBraces 35 rfl) (by decide) ?_
  refine cVv (aw_d q_Mo_bindBraces 36 rfl) (sp_emit (by (try simp only [List.length_append, List.length_cons, List.length_nil, eB_len]); omega)) vL_Mo_141_Mo rfl rfl rfl rfl rfl rfl ⟨aw_le rfl, aw_le rfl⟩ ?_
  refine aw_aload_n (aw_d q_Mo_bindBraces 37 rfl) rfl rfl rfl ?_
  refine aw_ldc2 (aw_d q_Mo_bindBraces 38 rfl) lL_Mo_193 ?_
  refine aw_iconst (v := nI 3) (aw_d q_Mo_bindBraces 39 rfl) (by decide) ?_
  refine cVv (aw_d q_Mo_bindBraces 40 rfl) (sp_emit (by (try simp only [List.length_append, List.length_cons, List.length_nil, eB_len]); omega)) vL_Mo_141_Mo rfl rfl rfl rfl rfl rfl ⟨aw_le rfl, aw_le rfl⟩ ?_
  refine aw_aload_n (aw_d q_Mo_bindBraces 41 rfl) rfl rfl rfl ?_
  refine aw_iload_n (aw_d q_Mo_bindBraces 42 rfl) rfl rfl ?_
  refine aw_iconst (v := nI 1) (aw_d q_Mo_bindBraces 43 rfl) (by decide) ?_
  refine cVv (aw_d q_Mo_bindBraces 44 rfl) (sp_emitText_1 hP hW ht (by (try simp only [List.length_append, List.length_cons, List.length_nil, eB_len]); omega)) vL_Mo_203_Mo rfl rfl rfl rfl rfl rfl ⟨aw_le rfl, aw_le rfl⟩ ?_
  refine aw_aload_n (aw_d q_Mo_bindBraces 45 rfl) rfl rfl rfl ?_
  refine aw_bipush (v := nI 34) (aw_d q_Mo_bindBraces 46 rfl) (by decide) ?_
  refine cVv (aw_d q_Mo_bindBraces 47 rfl) (sp_put1 (by (try simp only [List.length_append, List.length_cons, List.length_nil, eB_len]); omega)) vL_Mo_135_Mo rfl rfl rfl rfl rfl rfl ⟨aw_le rfl, aw_le rfl⟩ ?_
  refine aw_aload_n (aw_d q_Mo_bindBraces 48 rfl) rfl rfl rfl ?_
  refine aw_getf (aw_d q_Mo_bindBraces 49 rfl) fL_Mo_19_Mo rfl rfl ?_
  refine aw_iload_n (aw_d q_Mo_bindBraces 50 rfl) rfl rfl ?_
  refine aw_ialdK (w := nI (3)) (aw_d q_Mo_bindBraces 51 rfl) rfl (by (have hz := (hW.2.2.2 t ht).2; have hz1 := hW.1; omega)) rfl ((hP.2.2.2 t ht).1.trans (congrArg nI hk)) ?_
  refine aw_iconst (v := nI 3) (aw_d q_Mo_bindBraces 52 rfl) (by decide) ?_
  refine aw_icmpN_ne (tgt := 126) (aw_d q_Mo_bindBraces 53 rfl) (by decide) (by (have hz := (hW.2.2.2 t ht).2; have hz1 := hW.1; omega)) (by (have hz := (hW.2.2.2 t ht).2; have hz1 := hW.1; omega)) (fun c103 => by exfalso; (have hz := (hW.2.2.2 t ht).2; have hz1 := hW.1; omega)) (fun c103 => ?_)
  refine aw_aload_n (aw_d q_Mo_bindBraces 54 rfl) rfl rfl rfl ?_
  refine aw_ldc2 (aw_d q_Mo_bindBraces 55 rfl) lL_Mo_207 ?_
  refine aw_bipush (v := nI 8) (aw_d q_Mo_bindBraces 56 rfl) (by decide) ?_
  refine cVv (aw_d q_Mo_bindBraces 57 rfl) (sp_emit (by (try simp only [List.length_append, List.length_cons, List.length_nil, eB_len]); omega)) vL_Mo_141_Mo rfl rfl rfl rfl rfl rfl ⟨aw_le rfl, aw_le rfl⟩ ?_
  refine aw_aload_n (aw_d q_Mo_bindBraces 58 rfl) rfl rfl rfl ?_
  refine aw_ldc2 (aw_d q_Mo_bindBraces 59 rfl) lL_Mo_209 ?_
  refine aw_iconst (v := nI 5) (aw_d q_Mo_bindBraces 60 rfl) (by decide) ?_
  refine cVv (aw_d q_Mo_bindBraces 61 rfl) (sp_emit (by (try simp only [List.length_append, List.length_cons, List.length_nil, eB_len]); omega)) vL_Mo_141_Mo rfl rfl rfl rfl rfl rfl ⟨aw_le rfl, aw_le rfl⟩ ?_
  refine aw_goto (tgt := 153) (aw_d q_Mo_bindBraces 62 rfl) (by decide) ?_
  refine aw_aload_n (aw_d q_Mo_bindBraces 77 rfl) rfl rfl rfl ?_
  refine aw_getf (aw_d q_Mo_bindBraces 78 rfl) fL_Mo_19_Mo rfl rfl ?_
  refine aw_iload_n (aw_d q_Mo_bindBraces 79 rfl) rfl rfl ?_
  refine aw_ialdK (w := nI (3)) (aw_d q_Mo_bindBraces 80 rfl) rfl (by (have hz := (hW.2.2.2 t ht).2; have hz1 := hW.1; omega)) rfl ((hP.2.2.2 t ht).1.trans (congrArg nI hk)) ?_
  refine aw_iconst (v := nI 2) (aw_d q_Mo_bindBraces 81 rfl) (by decide) ?_
  refine aw_icmpN_le (tgt := 174) (aw_d q_Mo_bindBraces 82 rfl) (by decide) (by (have hz := (hW.2.2.2 t ht).2; have hz1 := hW.1; omega)) (by (have hz := (hW.2.2.2 t ht).2; have hz1 := hW.1; omega)) (fun c160 => by exfalso; (have hz := (hW.2.2.2 t ht).2; have hz1 := hW.1; omega)) (fun c160 => ?_)
  refine aw_aload_n (aw_d q_Mo_bindBraces 83 rfl) rfl rfl rfl ?_
  refine aw_iload_n (aw_d q_Mo_bindBraces 84 rfl) rfl rfl ?_
  refine cVv (aw_d q_Mo_bindBraces 85 rfl) (sp_emitExtra hP hW ht (by omega) (by (try simp only [List.length_append, List.length_cons, List.length_nil, eB_len]); omega)) vL_Mo_215_Mo rfl rfl rfl rfl rfl rfl ⟨aw_le rfl, aw_le rfl⟩ ?_
  refine aw_aload_n (aw_d q_Mo_bindBraces 86 rfl) rfl rfl rfl ?_
  refine aw_bipush (v := nI 34) (aw_d q_Mo_bindBraces 87 rfl) (by decide) ?_
  refine cVv (aw_d q_Mo_bindBraces 88 rfl) (sp_put1 (by (try simp only [List.length_append, List.length_cons, List.length_nil, eB_len]); omega)) vL_Mo_135_Mo rfl rfl rfl rfl rfl rfl ⟨aw_le rfl, aw_le rfl⟩ ?_
  refine aw_aload_n (aw_d q_Mo_bindBraces 89 rfl) rfl rfl rfl ?_
  refine aw_bipush (v := nI 125) (aw_d q_Mo_bindBraces 90 rfl) (by decide) ?_
  refine cVv (aw_d q_Mo_bindBraces 91 rfl) (sp_put1 (by (try simp only [List.length_append, List.length_cons, List.length_nil, eB_len]); omega)) vL_Mo_135_Mo rfl rfl rfl rfl rfl rfl ⟨aw_le rfl, aw_le rfl⟩ ?_
  exact aw_vret (aw_d q_Mo_bindBraces 92 rfl) rfl (⟨rfl, by simp [w_jt, hk, eb_34_0, eb_34_1, eb_34_2, eb_44_0, eb_44_1, eb_44_2, eb_62_1, eb_63_0, eb_63_1, eb_63_2, eb_91_1, eb_123_0, eb_123_1, eb_123_2, eb_8766_2, eb_11298_0, eb_11298_1, eb_11298_2, eb_11387_0, eb_11387_1, eb_11387_2, eb_14939_2, eb_24158_2, eb_24378_2, eb_26430_2, eb_27710_2, eb_2240318_3, eb_2243106_3, eb_6126973_3, eb_6634786_3, eb_6765858_3, eb_7433278_3, eb_7697001_3, eb_644314171_4, eb_644641851_4, eb_1684108389_4, eb_1919246700_4, eb_1953658213_4, eb_163799184187_5, eb_164843319355_5, eb_259668470078_5, eb_422759588965_5, eb_435426304570_5, eb_439721161573_5, eb_474176698914_5, eb_482733079074_5, eb_500136506472_5, eb_512853240933_5, eb_66174531561790_6, eb_66419075146814_6, eb_122511348035134_6, eb_9128563980975394_7, eb_16996725057414462_7, eb_30515246123868524_7, eb_2334097659363883376_8, eb_2339740318023049582_8, eb_2462380988100801893_8, eb_2466419133851988069_8, eb_3180214656604140665_8, eb_3180236698239528033_8, eb_4336793171144239470_8, eb_4336793192635852094_8, eb_4336793196931343713_8, eb_4336799750816022076_8, eb_4336804166361248353_8, eb_4336810746235415668_8, eb_4351156112845270631_8, eb_4352840508821617711_8, eb_4353970888399544684_8, eb_4355655336186377278_8, eb_4355948828431576126_8, eb_4356776833549689452_8, eb_6736589144075891573_8, eb_7286945561811696930_8, eb_7522525835761050223_8, eb_7597120025407222562_8, eb_7814997844241883746_8, eb_7943852967226007922_8, eb_8243121641139499838_8, eb_8304140937415647602_8, eb_8872769000508236346_8, eb_8872784376777351738_8, eb_8898316964945948524_8, tl_0, tl_1, tl_2, tl_3, tl_5, tl_6, tl_7, tl_8, tl_9, tl_10, tl_11, tl_12, tl_13, tl_14, tl_15, tl_16, tl_17, tl_18, tl_19, tl_20, tl_21, tl_22, tl_23, tl_24, tl_25, tl_26, tl_27, tl_28, tl_29, tl_30, tl_31, tl_32, tl_33, tl_34, tl_35, tl_36, tl_37, tl_38, tl_39, tl_40, tl_41, tl_42, tl_43, tl_44, tl_45, tl_46, tl_47, tl_48, tl_49, tl_50, tl_51, tl_52, tl_53, tl_54, tl_55, tl_56, tl_57, tl_58, tl_59]⟩)
set_option maxRecDepth 20000 in
theorem sp_Mo_bindBraces_4 {g : aw_G} {S : aw_S} {O : List Int32} {P : xp_T} (hP : xp_M S P) (hW : xp_wd P) {t : Nat} (ht : t < xp_t P) (hk : xp_k P t = 4) (hO : O.length + 1000 < 2147483648) : Sp g M_Mo_bindBraces 3 69 0 0 [.ref 33, .int (nI t)] (HP (MS S O)) (fun r1 h => r1 = none ∧ h = HP (MS S (O ++ (nI 34 :: w_jt P t)))) := by
  refine Sp.of rfl (aw_le rfl) ?_
  have hl1 := w_t_len (f := w_1) hW ht w_1_len
  have hle := w_e_len hW ht (by omega)
  refine aw_aload_n (aw_d q_Mo_bindBraces 0 rfl) rfl rfl rfl ?_
  refine aw_ldc2 (aw_d q_Mo_bindBraces 1 rfl) lL_Mo_191 ?_
  refine aw_bipush (v := nI 8) (aw_d q_Mo_bindBraces 2 rfl) (by decide) ?_
  refine cVv (aw_d q_Mo_bindBraces 3 rfl) (sp_emit (by (try simp only [List.length_append, List.length_cons, List.length_nil, eB_len]); omega)) vL_Mo_141_Mo rfl rfl rfl rfl rfl rfl ⟨aw_le rfl, aw_le rfl⟩ ?_
  refine aw_aload_n (aw_d q_Mo_bindBraces 4 rfl) rfl rfl rfl ?_
  refine aw_ldc2 (aw_d q_Mo_bindBraces 5 rfl) lL_Mo_193 ?_
  refine aw_iconst (v := nI 3) (aw_d q_Mo_bindBraces 6 rfl) (by decide) ?_
  refine cVv (aw_d q_Mo_bindBraces 7 rfl) (sp_emit (by (try simp only [List.length_append, List.length_cons, List.length_nil, eB_len]); omega)) vL_Mo_141_Mo rfl rfl rfl rfl rfl rfl ⟨aw_le rfl, aw_le rfl⟩ ?_
  refine aw_aload_n (aw_d q_Mo_bindBraces 8 rfl) rfl rfl rfl ?_
  refine aw_getf (aw_d q_Mo_bindBraces 9 rfl) fL_Mo_19_Mo rfl rfl ?_
  refine aw_iload_n (aw_d q_Mo_bindBraces 10 rfl) rfl rfl ?_
  refine aw_ialdK (w := nI (4)) (aw_d q_Mo_bindBraces 11 rfl) rfl (by (have hz := (hW.2.2.2 t ht).2; have hz1 := hW.1; omega)) rfl ((hP.2.2.2 t ht).1.trans (congrArg nI hk)) ?_
  refine aw_ifN_ne (tgt := 37) (aw_d q_Mo_bindBraces 12 rfl) (by decide) (by (have hz := (hW.2.2.2 t ht).2; have hz1 := hW.1; omega)) (fun c23 => ?_) (fun c23 => by exfalso; (have hz := (hW.2.2.2 t ht).2; have hz1 := hW.1; omega))
  refine aw_aload_n (aw_d q_Mo_bindBraces 18 rfl) rfl rfl rfl ?_
  refine aw_getf (aw_d q_Mo_bindBraces 19 rfl) fL_Mo_19_Mo rfl rfl ?_
  refine aw_iload_n (aw_d q_Mo_bindBraces 20 rfl) rfl rfl ?_
  refine aw_ialdK (w := nI (4)) (aw_d q_Mo_bindBraces 21 rfl) rfl (by (have hz := (hW.2.2.2 t ht).2; have hz1 := hW.1; omega)) rfl ((hP.2.2.2 t ht).1.trans (congrArg nI hk)) ?_
  refine aw_iconst (v := nI 1) (aw_d q_Mo_bindBraces 22 rfl) (by decide) ?_
  refine aw_icmpN_ne (tgt := 58) (aw_d q_Mo_bindBraces 23 rfl) (by decide) (by (have hz := (hW.2.2.2 t ht).2; have hz1 := hW.1; omega)) (by (have hz := (hW.2.2.2 t ht).2; have hz1 := hW.1; omega)) (fun c44 => ?_) (fun c44 => by exfalso; (have hz := (hW.2.2.2 t ht).2; have hz1 := hW.1; omega))
  refine aw_aload_n (aw_d q_Mo_bindBraces 29 rfl) rfl rfl rfl ?_
  refine aw_ldc2 (aw_d q_Mo_bindBraces 30 rfl) lL_Mo_199 ?_
  refine aw_bipush (v := nI 7) (aw_d q_Mo_bindBraces 31 rfl) (by decide) ?_
  refine cVv (aw_d q_Mo_bindBraces 32 rfl) (sp_emit (by (try simp only [List.length_append, List.length_cons, List.length_nil, eB_len]); omega)) vL_Mo_141_Mo rfl rfl rfl rfl rfl rfl ⟨aw_le rfl, aw_le rfl⟩ ?_
  refine aw_aload_n (aw_d q_Mo_bindBraces 33 rfl) rfl rfl rfl ?_
  refine aw_ldc2 (aw_d q_Mo_bindBraces 34 rfl) lL_Mo_201 ?_
  refine aw_bipush (v := nI 8) (aw_d q_Mo_bindBraces 35 rfl) (by decide) ?_
  refine cVv (aw_d q_Mo_bindBraces 36 rfl) (sp_emit (by (try simp only [List.length_append, List.length_cons, List.length_nil, eB_len]); omega)) vL_Mo_141_Mo rfl rfl rfl rfl rfl rfl ⟨aw_le rfl, aw_le rfl⟩ ?_
  refine aw_aload_n (aw_d q_Mo_bindBraces 37 rfl) rfl rfl rfl ?_
  refine aw_ldc2 (aw_d q_Mo_bindBraces 38 rfl) lL_Mo_193 ?_
  refine aw_iconst (v := nI 3) (aw_d q_Mo_bindBraces 39 rfl) (by decide) ?_
  refine cVv (aw_d q_Mo_bindBraces 40 rfl) (sp_emit (by (try simp only [List.length_append, List.length_cons, List.length_nil, eB_len]); omega)) vL_Mo_141_Mo rfl rfl rfl rfl rfl rfl ⟨aw_le rfl, aw_le rfl⟩ ?_
  refine aw_aload_n (aw_d q_Mo_bindBraces 41 rfl) rfl rfl rfl ?_
  refine aw_iload_n (aw_d q_Mo_bindBraces 42 rfl) rfl rfl ?_
  refine aw_iconst (v := nI 1) (aw_d q_Mo_bindBraces 43 rfl) (by decide) ?_
  refine cVv (aw_d q_Mo_bindBraces 44 rfl) (sp_emitText_1 hP hW ht (by (try simp only [List.length_append, List.length_cons, List.length_nil, eB_len]); omega)) vL_Mo_203_Mo rfl rfl rfl rfl rfl rfl ⟨aw_le rfl, aw_le rfl⟩ ?_
  refine aw_aload_n (aw_d q_Mo_bindBraces 45 rfl) rfl rfl rfl ?_
  refine aw_bipush (v := nI 34) (aw_d q_Mo_bindBraces 46 rfl) (by decide) ?_
  refine cVv (aw_d q_Mo_bindBraces 47 rfl) (sp_put1 (by (try simp only [List.length_append, List.length_cons, List.length_nil, eB_len]); omega)) vL_Mo_135_Mo rfl rfl rfl rfl rfl rfl ⟨aw_le rfl, aw_le rfl⟩ ?_
  refine aw_aload_n (aw_d q_Mo_bindBraces 48 rfl) rfl rfl rfl ?_
  refine aw_getf (aw_d q_Mo_bindBraces 49 rfl) fL_Mo_19_Mo rfl rfl ?_
  refine aw_iload_n (aw_d q_Mo_bindBraces 50 rfl) rfl rfl ?_
  refine aw_ialdK (w := nI (4)) (aw_d q_Mo_bindBraces 51 rfl) rfl (by (have hz := (hW.2.2.2 t ht).2; have hz1 := hW.1; omega)) rfl ((hP.2.2.2 t ht).1.trans (congrArg nI hk)) ?_
  refine aw_iconst (v := nI 3) (aw_d q_Mo_bindBraces 52 rfl) (by decide) ?_
  refine aw_icmpN_ne (tgt := 126) (aw_d q_Mo_bindBraces 53 rfl) (by decide) (by (have hz := (hW.2.2.2 t ht).2; have hz1 := hW.1; omega)) (by (have hz := (hW.2.2.2 t ht).2; have hz1 := hW.1; omega)) (fun c103 => ?_) (fun c103 => by exfalso; (have hz := (hW.2.2.2 t ht).2; have hz1 := hW.1; omega))
  refine aw_aload_n (aw_d q_Mo_bindBraces 63 rfl) rfl rfl rfl ?_
  refine aw_getf (aw_d q_Mo_bindBraces 64 rfl) fL_Mo_19_Mo rfl rfl ?_
  refine aw_iload_n (aw_d q_Mo_bindBraces 65 rfl) rfl rfl ?_
  refine aw_ialdK (w := nI (4)) (aw_d q_Mo_bindBraces 66 rfl) rfl (by (have hz := (hW.2.2.2 t ht).2; have hz1 := hW.1; omega)) rfl ((hP.2.2.2 t ht).1.trans (congrArg nI hk)) ?_
  refine aw_iconst (v := nI 4) (aw_d q_Mo_bindBraces 67 rfl) (by decide) ?_
  refine aw_icmpN_ne (tgt := 153) (aw_d q_Mo_bindBraces 68 rfl) (by decide) (by (have hz := (hW.2.2.2 t ht).2; have hz1 := hW.1; omega)) (by (have hz := (hW.2.2.2 t ht).2; have hz1 := hW.1; omega)) (fun c133 => by exfalso; (have hz := (hW.2.2.2 t ht).2; have hz1 := hW.1; omega)) (fun c133 => ?_)
  refine aw_aload_n (aw_d q_Mo_bindBraces 69 rfl) rfl rfl rfl ?_
  refine aw_ldc2 (aw_d q_Mo_bindBraces 70 rfl) lL_Mo_211 ?_
  refine aw_bipush (v := nI 8) (aw_d q_Mo_bindBraces 71 rfl) (by decide) ?_
  refine cVv (aw_d q_Mo_bindBraces 72 rfl) (sp_emit (by (try simp only [List.length_append, List.length_cons, List.length_nil, eB_len]); omega)) vL_Mo_141_Mo rfl rfl rfl rfl rfl rfl ⟨aw_le rfl, aw_le rfl⟩ ?_
  refine aw_aload_n (aw_d q_Mo_bindBraces 73 rfl) rfl rfl rfl ?_
  refine aw_ldc2 (aw_d q_Mo_bindBraces 74 rfl) lL_Mo_213 ?_
  refine aw_iconst (v := nI 5) (aw_d q_Mo_bindBraces 75 rfl) (by decide) ?_
  refine cVv (aw_d q_Mo_bindBraces 76 rfl) (sp_emit (by (try simp only [List.length_append, List.length_cons, List.length_nil, eB_len]); omega)) vL_Mo_141_Mo rfl rfl rfl rfl rfl rfl ⟨aw_le rfl, aw_le rfl⟩ ?_
  refine aw_aload_n (aw_d q_Mo_bindBraces 77 rfl) rfl rfl rfl ?_
  refine aw_getf (aw_d q_Mo_bindBraces 78 rfl) fL_Mo_19_Mo rfl rfl ?_
  refine aw_iload_n (aw_d q_Mo_bindBraces 79 rfl) rfl rfl ?_
  refine aw_ialdK (w := nI (4)) (aw_d q_Mo_bindBraces 80 rfl) rfl (by (have hz := (hW.2.2.2 t ht).2; have hz1 := hW.1; omega)) rfl ((hP.2.2.2 t ht).1.trans (congrArg nI hk)) ?_
  refine aw_iconst (v := nI 2) (aw_d q_Mo_bindBraces 81 rfl) (by decide) ?_
  refine aw_icmpN_le (tgt := 174) (aw_d q_Mo_bindBraces 82 rfl) (by decide) (by (have hz := (hW.2.2.2 t ht).2; have hz1 := hW.1; omega)) (by (have hz := (hW.2.2.2 t ht).2; have hz1 := hW.1; omega)) (fun c160 => by exfalso; (have hz := (hW.2.2.2 t ht).2; have hz1 := hW.1; omega)) (fun c160 => ?_)
  refine aw_aload_n (aw_d q_Mo_bindBraces 83 rfl) rfl rfl rfl ?_
  refine aw_iload_n (aw_d q_Mo_bindBraces 84 rfl) rfl rfl ?_
  refine cVv (aw_d q_Mo_bindBraces 85 rfl) (sp_emitExtra hP hW ht (by omega) (by (try simp only [List.length_append, List.length_cons, List.length_nil, eB_len]); omega)) vL_Mo_215_Mo rfl rfl rfl rfl rfl rfl ⟨aw_le rfl, aw_le rfl⟩ ?_
  refine aw_aload_n (aw_d q_Mo_bindBraces 86 rfl) rfl rfl rfl ?_
  refine aw_bipush (v := nI 34) (aw_d q_Mo_bindBraces 87 rfl) (by decide) ?_
  refine cVv (aw_d q_Mo_bindBraces 88 rfl) (sp_put1 (by (try simp only [List.length_append, List.length_cons, List.length_nil, eB_len]); omega)) vL_Mo_135_Mo rfl rfl rfl rfl rfl rfl ⟨aw_le rfl, aw_le rfl⟩ ?_
  refine aw_aload_n (aw_d q_Mo_bindBraces 89 rfl) rfl rfl rfl ?_
  refine aw_bipush (v := nI 125) (aw_d q_Mo_bindBraces 90 rfl) (by decide) ?_
  refine cVv (aw_d q_Mo_bindBraces 91 rfl) (sp_put1 (by (try simp only [List.length_append, List.length_cons, List.length_nil, eB_len]); omega)) vL_Mo_135_Mo rfl rfl rfl rfl rfl rfl ⟨aw_le rfl, aw_le rfl⟩ ?_
  exact aw_vret (aw_d q_Mo_bindBraces 92 rfl) rfl (⟨rfl, by simp [w_jt, hk, eb_34_0, eb_34_1, eb_34_2, eb_44_0, eb_44_1, eb_44_2, eb_62_1, eb_63_0, eb_63_1, eb_63_2, eb_91_1, eb_123_0, eb_123_1, eb_123_2, eb_8766_2, eb_11298_0, eb_11298_1, eb_11298_2, eb_11387_0, eb_11387_1, eb_11387_2, eb_14939_2, eb_24158_2, eb_24378_2, eb_26430_2, eb_27710_2, eb_2240318_3, eb_2243106_3, eb_6126973_3, eb_6634786_3, eb_6765858_3, eb_7433278_3, eb_7697001_3, eb_644314171_4, eb_644641851_4, eb_1684108389_4, eb_1919246700_4, eb_1953658213_4, eb_163799184187_5, eb_164843319355_5, eb_259668470078_5, eb_422759588965_5, eb_435426304570_5, eb_439721161573_5, eb_474176698914_5, eb_482733079074_5, eb_500136506472_5, eb_512853240933_5, eb_66174531561790_6, eb_66419075146814_6, eb_122511348035134_6, eb_9128563980975394_7, eb_16996725057414462_7, eb_30515246123868524_7, eb_2334097659363883376_8, eb_2339740318023049582_8, eb_2462380988100801893_8, eb_2466419133851988069_8, eb_3180214656604140665_8, eb_3180236698239528033_8, eb_4336793171144239470_8, eb_4336793192635852094_8, eb_4336793196931343713_8, eb_4336799750816022076_8, eb_4336804166361248353_8, eb_4336810746235415668_8, eb_4351156112845270631_8, eb_4352840508821617711_8, eb_4353970888399544684_8, eb_4355655336186377278_8, eb_4355948828431576126_8, eb_4356776833549689452_8, eb_6736589144075891573_8, eb_7286945561811696930_8, eb_7522525835761050223_8, eb_7597120025407222562_8, eb_7814997844241883746_8, eb_7943852967226007922_8, eb_8243121641139499838_8, eb_8304140937415647602_8, eb_8872769000508236346_8, eb_8872784376777351738_8, eb_8898316964945948524_8, tl_0, tl_1, tl_2, tl_3, tl_5, tl_6, tl_7, tl_8, tl_9, tl_10, tl_11, tl_12, tl_13, tl_14, tl_15, tl_16, tl_17, tl_18, tl_19, tl_20, tl_21, tl_22, tl_23, tl_24, tl_25, tl_26, tl_27, tl_28, tl_29, tl_30, tl_31, tl_32, tl_33, tl_34, tl_35, tl_36, tl_37, tl_38, tl_39, tl_40, tl_41, tl_42, tl_43, tl_44, tl_45, tl_46, tl_47, tl_48, tl_49, tl_50, tl_51, tl_52, tl_53, tl_54, tl_55, tl_56, tl_57, tl_58, tl_59]⟩)
theorem sp_Mo_bindBraces {g : aw_G} {S : aw_S} {O : List Int32} {P : xp_T} (hP : xp_M S P) (hW : xp_wd P) {t : Nat} (ht : t < xp_t P) (hO : O.length + 1000 < 2147483648) : Sp g M_Mo_bindBraces 3 69 0 0 [.ref 33, .int (nI t)] (HP (MS S O)) (fun r h => r = none ∧ h = HP (MS S (O ++ (nI 34 :: w_jt P t)))) := by
  rcases (show xp_k P t = 0 ∨ xp_k P t = 1 ∨ xp_k P t = 2 ∨ xp_k P t = 3 ∨ xp_k P t = 4 by have := (hW.2.2.2 t ht).1; omega) with h | h | h | h | h
  · exact sp_Mo_bindBraces_0 hP hW ht h hO
  · exact sp_Mo_bindBraces_1 hP hW ht h hO
  · exact sp_Mo_bindBraces_2 hP hW ht h hO
  · exact sp_Mo_bindBraces_3 hP hW ht h hO
  · exact sp_Mo_bindBraces_4 hP hW ht h hO
set_option maxRecDepth 20000 in
theorem sp_Mo_bindTags_0 {g : aw_G} {S : aw_S} {O : List Int32} {P : xp_T} (hP : xp_M S P) (hW : xp_wd P) {t : Nat} (ht : t < xp_t P) (hk : xp_k P t = 0) (hO : O.length + 1000 < 2147483648) : Sp g M_Mo_bindTags 3 69 0 0 [.ref 33, .int (nI t)] (HP (MS S O)) (fun r1 h => r1 = none ∧ h = HP (MS S (O ++ w_xt P t))) := by
  refine Sp.of rfl (aw_le rfl) ?_
  have hl2 := w_t_len (f := w_2) hW ht w_2_len
  refine aw_aload_n (aw_d q_Mo_bindTags 0 rfl) rfl rfl rfl ?_
  refine aw_getf (aw_d q_Mo_bindTags 1 rfl) fL_Mo_19_Mo rfl rfl ?_
  refine aw_iload_n (aw_d q_Mo_bindTags 2 rfl) rfl rfl ?_
  refine aw_ialdK (w := nI (0)) (aw_d q_Mo_bindTags 3 rfl) rfl (by (have hz := (hW.2.2.2 t ht).2; have hz1 := hW.1; omega)) rfl ((hP.2.2.2 t ht).1.trans (congrArg nI hk)) ?_
  refine aw_ifN_ne (tgt := 20) (aw_d q_Mo_bindTags 4 rfl) (by decide) (by (have hz := (hW.2.2.2 t ht).2; have hz1 := hW.1; omega)) (fun c6 => by exfalso; (have hz := (hW.2.2.2 t ht).2; have hz1 := hW.1; omega)) (fun c6 => ?_)
  refine aw_aload_n (aw_d q_Mo_bindTags 5 rfl) rfl rfl rfl ?_
  refine aw_ldc2 (aw_d q_Mo_bindTags 6 rfl) lL_Mo_255 ?_
  refine aw_iconst (v := nI 5) (aw_d q_Mo_bindTags 7 rfl) (by decide) ?_
  refine cVv (aw_d q_Mo_bindTags 8 rfl) (sp_emit (by (try simp only [List.length_append, List.length_cons, List.length_nil, eB_len]); omega)) vL_Mo_141_Mo rfl rfl rfl rfl rfl rfl ⟨aw_le rfl, aw_le rfl⟩ ?_
  refine aw_goto (tgt := 135) (aw_d q_Mo_bindTags 9 rfl) (by decide) ?_
  refine aw_aload_n (aw_d q_Mo_bindTags 69 rfl) rfl rfl rfl ?_
  refine aw_iload_n (aw_d q_Mo_bindTags 70 rfl) rfl rfl ?_
  refine aw_iconst (v := nI 2) (aw_d q_Mo_bindTags 71 rfl) (by decide) ?_
  refine cVv (aw_d q_Mo_bindTags 72 rfl) (sp_emitText_2 hP hW ht (by (try simp only [List.length_append, List.length_cons, List.length_nil, eB_len]); omega)) vL_Mo_203_Mo rfl rfl rfl rfl rfl rfl ⟨aw_le rfl, aw_le rfl⟩ ?_
  refine aw_aload_n (aw_d q_Mo_bindTags 73 rfl) rfl rfl rfl ?_
  refine aw_getf (aw_d q_Mo_bindTags 74 rfl) fL_Mo_19_Mo rfl rfl ?_
  refine aw_iload_n (aw_d q_Mo_bindTags 75 rfl) rfl rfl ?_
  refine aw_ialdK (w := nI (0)) (aw_d q_Mo_bindTags 76 rfl) rfl (by (have hz := (hW.2.2.2 t ht).2; have hz1 := hW.1; omega)) rfl ((hP.2.2.2 t ht).1.trans (congrArg nI hk)) ?_
  refine aw_ifN_ne (tgt := 162) (aw_d q_Mo_bindTags 77 rfl) (by decide) (by (have hz := (hW.2.2.2 t ht).2; have hz1 := hW.1; omega)) (fun c147 => by exfalso; (have hz := (hW.2.2.2 t ht).2; have hz1 := hW.1; omega)) (fun c147 => ?_)
  refine aw_aload_n (aw_d q_Mo_bindTags 78 rfl) rfl rfl rfl ?_
  refine aw_ldc2 (aw_d q_Mo_bindTags 79 rfl) lL_Mo_269 ?_
  refine aw_bipush (v := nI 6) (aw_d q_Mo_bindTags 80 rfl) (by decide) ?_
  refine cVv (aw_d q_Mo_bindTags 81 rfl) (sp_emit (by (try simp only [List.length_append, List.length_cons, List.length_nil, eB_len]); omega)) vL_Mo_141_Mo rfl rfl rfl rfl rfl rfl ⟨aw_le rfl, aw_le rfl⟩ ?_
  refine aw_goto (tgt := 201) (aw_d q_Mo_bindTags 82 rfl) (by decide) ?_
  exact aw_vret (aw_d q_Mo_bindTags 102 rfl) rfl (⟨rfl, by simp [w_xt, hk, eb_34_0, eb_34_1, eb_34_2, eb_44_0, eb_44_1, eb_44_2, eb_62_1, eb_63_0, eb_63_1, eb_63_2, eb_91_1, eb_123_0, eb_123_1, eb_123_2, eb_8766_2, eb_11298_0, eb_11298_1, eb_11298_2, eb_11387_0, eb_11387_1, eb_11387_2, eb_14939_2, eb_24158_2, eb_24378_2, eb_26430_2, eb_27710_2, eb_2240318_3, eb_2243106_3, eb_6126973_3, eb_6634786_3, eb_6765858_3, eb_7433278_3, eb_7697001_3, eb_644314171_4, eb_644641851_4, eb_1684108389_4, eb_1919246700_4, eb_1953658213_4, eb_163799184187_5, eb_164843319355_5, eb_259668470078_5, eb_422759588965_5, eb_435426304570_5, eb_439721161573_5, eb_474176698914_5, eb_482733079074_5, eb_500136506472_5, eb_512853240933_5, eb_66174531561790_6, eb_66419075146814_6, eb_122511348035134_6, eb_9128563980975394_7, eb_16996725057414462_7, eb_30515246123868524_7, eb_2334097659363883376_8, eb_2339740318023049582_8, eb_2462380988100801893_8, eb_2466419133851988069_8, eb_3180214656604140665_8, eb_3180236698239528033_8, eb_4336793171144239470_8, eb_4336793192635852094_8, eb_4336793196931343713_8, eb_4336799750816022076_8, eb_4336804166361248353_8, eb_4336810746235415668_8, eb_4351156112845270631_8, eb_4352840508821617711_8, eb_4353970888399544684_8, eb_4355655336186377278_8, eb_4355948828431576126_8, eb_4356776833549689452_8, eb_6736589144075891573_8, eb_7286945561811696930_8, eb_7522525835761050223_8, eb_7597120025407222562_8, eb_7814997844241883746_8, eb_7943852967226007922_8, eb_8243121641139499838_8, eb_8304140937415647602_8, eb_8872769000508236346_8, eb_8872784376777351738_8, eb_8898316964945948524_8, tl_0, tl_1, tl_2, tl_3, tl_5, tl_6, tl_7, tl_8, tl_9, tl_10, tl_11, tl_12, tl_13, tl_14, tl_15, tl_16, tl_17, tl_18, tl_19, tl_20, tl_21, tl_22, tl_23, tl_24, tl_25, tl_26, tl_27, tl_28, tl_29, tl_30, tl_31, tl_32, tl_33, tl_34, tl_35, tl_36, tl_37, tl_38, tl_39, tl_40, tl_41, tl_42, tl_43, tl_44, tl_45, tl_46, tl_47, tl_48, tl_49, tl_50, tl_51, tl_52, tl_53, tl_54, tl_55, tl_56, tl_57, tl_58, tl_59]⟩)
set_option maxRecDepth 20000 in
theorem sp_Mo_bindTags_1 {g : aw_G} {S : aw_S} {O : List Int32} {P : xp_T} (hP : xp_M S P) (hW : xp_wd P) {t : Nat} (ht : t < xp_t P) (hk : xp_k P t = 1) (hO : O.length + 1000 < 2147483648) : Sp g M_Mo_bindTags 3 69 0 0 [.ref 33, .int (nI t)] (HP (MS S O)) (fun r1 h => r1 = none ∧ h = HP (MS S (O ++ w_xt P t))) := by
  refine Sp.of rfl (aw_le rfl) ?_
  have hl2 := w_t_len (f := w_2) hW ht w_2_len
  refine aw_aload_n (aw_d q_Mo_bindTags 0 rfl) rfl rfl rfl ?_
  refine aw_getf (aw_d q_Mo_bindTags 1 rfl) fL_Mo_19_Mo rfl rfl ?_
  refine aw_iload_n (aw_d q_Mo_bindTags 2 rfl) rfl rfl ?_
  refine aw_ialdK (w := nI (1)) (aw_d q_Mo_bindTags 3 rfl) rfl (by (have hz := (hW.2.2.2 t ht).2; have hz1 := hW.1; omega)) rfl ((hP.2.2.2 t ht).1.trans (congrArg nI hk)) ?_
  refine aw_ifN_ne (tgt := 20) (aw_d q_Mo_bindTags 4 rfl) (by decide) (by (have hz := (hW.2.2.2 t ht).2; have hz1 := hW.1; omega)) (fun c6 => ?_) (fun c6 => by exfalso; (have hz := (hW.2.2.2 t ht).2; have hz1 := hW.1; omega))
  refine aw_aload_n (aw_d q_Mo_bindTags 10 rfl) rfl rfl rfl ?_
  refine aw_getf (aw_d q_Mo_bindTags 11 rfl) fL_Mo_19_Mo rfl rfl ?_
  refine aw_iload_n (aw_d q_Mo_bindTags 12 rfl) rfl rfl ?_
  refine aw_ialdK (w := nI (1)) (aw_d q_Mo_bindTags 13 rfl) rfl (by (have hz := (hW.2.2.2 t ht).2; have hz1 := hW.1; omega)) rfl ((hP.2.2.2 t ht).1.trans (congrArg nI hk)) ?_
  refine aw_iconst (v := nI 1) (aw_d q_Mo_bindTags 14 rfl) (by decide) ?_
  refine aw_icmpN_ne (tgt := 42) (aw_d q_Mo_bindTags 15 rfl) (by decide) (by (have hz := (hW.2.2.2 t ht).2; have hz1 := hW.1; omega)) (by (have hz := (hW.2.2.2 t ht).2; have hz1 := hW.1; omega)) (fun c27 => by exfalso; (have hz := (hW.2.2.2 t ht).2; have hz1 := hW.1; omega)) (fun c27 => ?_)
  refine aw_aload_n (aw_d q_Mo_bindTags 16 rfl) rfl rfl rfl ?_
  refine aw_ldc2 (aw_d q_Mo_bindTags 17 rfl) lL_Mo_257 ?_
  refine aw_bipush (v := nI 7) (aw_d q_Mo_bindTags 18 rfl) (by decide) ?_
  refine cVv (aw_d q_Mo_bindTags 19 rfl) (sp_emit (by (try simp only [List.length_append, List.length_cons, List.length_nil, eB_len]); omega)) vL_Mo_141_Mo rfl rfl rfl rfl rfl rfl ⟨aw_le rfl, aw_le rfl⟩ ?_
  refine aw_goto (tgt := 135) (aw_d q_Mo_bindTags 20 rfl) (by decide) ?_
  refine aw_aload_n (aw_d q_Mo_bindTags 69 rfl) rfl rfl rfl ?_
  refine aw_iload_n (aw_d q_Mo_bindTags 70 rfl) rfl rfl ?_
  refine aw_iconst (v := nI 2) (aw_d q_Mo_bindTags 71 rfl) (by decide) ?_
  refine cVv (aw_d q_Mo_bindTags 72 rfl) (sp_emitText_2 hP hW ht (by (try simp only [List.length_append, List.length_cons, List.length_nil, eB_len]); omega)) vL_Mo_203_Mo rfl rfl rfl rfl rfl rfl ⟨aw_le rfl, aw_le rfl⟩ ?_
  refine aw_aload_n (aw_d q_Mo_bindTags 73 rfl) rfl rfl rfl ?_
  refine aw_getf (aw_d q_Mo_bindTags 74 rfl) fL_Mo_19_Mo rfl rfl ?_
  refine aw_iload_n (aw_d q_Mo_bindTags 75 rfl) rfl rfl ?_
  refine aw_ialdK (w := nI (1)) (aw_d q_Mo_bindTags 76 rfl) rfl (by (have hz := (hW.2.2.2 t ht).2; have hz1 := hW.1; omega)) rfl ((hP.2.2.2 t ht).1.trans (congrArg nI hk)) ?_
  refine aw_ifN_ne (tgt := 162) (aw_d q_Mo_bindTags 77 rfl) (by decide) (by (have hz := (hW.2.2.2 t ht).2; have hz1 := hW.1; omega)) (fun c147 => ?_) (fun c147 => by exfalso; (have hz := (hW.2.2.2 t ht).2; have hz1 := hW.1; omega))
  refine aw_aload_n (aw_d q_Mo_bindTags 83 rfl) rfl rfl rfl ?_
  refine aw_getf (aw_d q_Mo_bindTags 84 rfl) fL_Mo_19_Mo rfl rfl ?_
  refine aw_iload_n (aw_d q_Mo_bindTags 85 rfl) rfl rfl ?_
  refine aw_ialdK (w := nI (1)) (aw_d q_Mo_bindTags 86 rfl) rfl (by (have hz := (hW.2.2.2 t ht).2; have hz1 := hW.1; omega)) rfl ((hP.2.2.2 t ht).1.trans (congrArg nI hk)) ?_
  refine aw_iconst (v := nI 1) (aw_d q_Mo_bindTags 87 rfl) (by decide) ?_
  refine aw_icmpN_ne (tgt := 184) (aw_d q_Mo_bindTags 88 rfl) (by decide) (by (have hz := (hW.2.2.2 t ht).2; have hz1 := hW.1; omega)) (by (have hz := (hW.2.2.2 t ht).2; have hz1 := hW.1; omega)) (fun c169 => by exfalso; (have hz := (hW.2.2.2 t ht).2; have hz1 := hW.1; omega)) (fun c169 => ?_)
  refine aw_aload_n (aw_d q_Mo_bindTags 89 rfl) rfl rfl rfl ?_
  refine aw_ldc2 (aw_d q_Mo_bindTags 90 rfl) lL_Mo_271 ?_
  refine aw_bipush (v := nI 8) (aw_d q_Mo_bindTags 91 rfl) (by decide) ?_
  refine cVv (aw_d q_Mo_bindTags 92 rfl) (sp_emit (by (try simp only [List.length_append, List.length_cons, List.length_nil, eB_len]); omega)) vL_Mo_141_Mo rfl rfl rfl rfl rfl rfl ⟨aw_le rfl, aw_le rfl⟩ ?_
  refine aw_goto (tgt := 201) (aw_d q_Mo_bindTags 93 rfl) (by decide) ?_
  exact aw_vret (aw_d q_Mo_bindTags 102 rfl) rfl (⟨rfl, by simp [w_xt, hk, eb_34_0, eb_34_1, eb_34_2, eb_44_0, eb_44_1, eb_44_2, eb_62_1, eb_63_0, eb_63_1, eb_63_2, eb_91_1, eb_123_0, eb_123_1, eb_123_2, eb_8766_2, eb_11298_0, eb_11298_1, eb_11298_2, eb_11387_0, eb_11387_1, eb_11387_2, eb_14939_2, eb_24158_2, eb_24378_2, eb_26430_2, eb_27710_2, eb_2240318_3, eb_2243106_3, eb_6126973_3, eb_6634786_3, eb_6765858_3, eb_7433278_3, eb_7697001_3, eb_644314171_4, eb_644641851_4, eb_1684108389_4, eb_1919246700_4, eb_1953658213_4, eb_163799184187_5, eb_164843319355_5, eb_259668470078_5, eb_422759588965_5, eb_435426304570_5, eb_439721161573_5, eb_474176698914_5, eb_482733079074_5, eb_500136506472_5, eb_512853240933_5, eb_66174531561790_6, eb_66419075146814_6, eb_122511348035134_6, eb_9128563980975394_7, eb_16996725057414462_7, eb_30515246123868524_7, eb_2334097659363883376_8, eb_2339740318023049582_8, eb_2462380988100801893_8, eb_2466419133851988069_8, eb_3180214656604140665_8, eb_3180236698239528033_8, eb_4336793171144239470_8, eb_4336793192635852094_8, eb_4336793196931343713_8, eb_4336799750816022076_8, eb_4336804166361248353_8, eb_4336810746235415668_8, eb_4351156112845270631_8, eb_4352840508821617711_8, eb_4353970888399544684_8, eb_4355655336186377278_8, eb_4355948828431576126_8, eb_4356776833549689452_8, eb_6736589144075891573_8, eb_7286945561811696930_8, eb_7522525835761050223_8, eb_7597120025407222562_8, eb_7814997844241883746_8, eb_7943852967226007922_8, eb_8243121641139499838_8, eb_8304140937415647602_8, eb_8872769000508236346_8, eb_8872784376777351738_8, eb_8898316964945948524_8, tl_0, tl_1, tl_2, tl_3, tl_5, tl_6, tl_7, tl_8, tl_9, tl_10, tl_11, tl_12, tl_13, tl_14, tl_15, tl_16, tl_17, tl_18, tl_19, tl_20, tl_21, tl_22, tl_23, tl_24, tl_25, tl_26, tl_27, tl_28, tl_29, tl_30, tl_31, tl_32, tl_33, tl_34, tl_35, tl_36, tl_37, tl_38, tl_39, tl_40, tl_41, tl_42, tl_43, tl_44, tl_45, tl_46, tl_47, tl_48, tl_49, tl_50, tl_51, tl_52, tl_53, tl_54, tl_55, tl_56, tl_57, tl_58, tl_59]⟩)
set_option maxRecDepth 20000 in
theorem sp_Mo_bindTags_2 {g : aw_G} {S : aw_S} {O : List Int32} {P : xp_T} (hP : xp_M S P) (hW : xp_wd P) {t : Nat} (ht : t < xp_t P) (hk : xp_k P t = 2) (hO : O.length + 1000 < 2147483648) : Sp g M_Mo_bindTags 3 69 0 0 [.ref 33, .int (nI t)] (HP (MS S O)) (fun r1 h => r1 = none ∧ h = HP (MS S (O ++ w_xt P t))) := by
  refine Sp.of rfl (aw_le rfl) ?_
  have hl2 := w_t_len (f := w_2) hW ht w_2_len
  refine aw_aload_n (aw_d q_Mo_bindTags 0 rfl) rfl rfl rfl ?_
  refine aw_getf (aw_d q_Mo_bindTags 1 rfl) fL_Mo_19_Mo rfl rfl ?_
  refine aw_iload_n (aw_d q_Mo_bindTags 2 rfl) rfl rfl ?_
  refine aw_ialdK (w := nI (2)) (aw_d q_Mo_bindTags 3 rfl) rfl (by (have hz := (hW.2.2.2 t ht).2; have hz1 := hW.1; omega)) rfl ((hP.2.2.2 t ht).1.trans (congrArg nI hk)) ?_
  refine aw_ifN_ne (tgt := 20) (aw_d q_Mo_bindTags 4 rfl) (by decide) (by (have hz := (hW.2.2.2 t ht).2; have hz1 := hW.1; omega)) (fun c6 => ?_) (fun c6 => by exfalso; (have hz := (hW.2.2.2 t ht).2; have hz1 := hW.1; omega))
  refine aw_aload_n (aw_d q_Mo_bindTags 10 rfl) rfl rfl rfl ?_
  refine aw_getf (aw_d q_Mo_bindTags 11 rfl) fL_Mo_19_Mo rfl rfl ?_
  refine aw_iload_n (aw_d q_Mo_bindTags 12 rfl) rfl rfl ?_
  refine aw_ialdK (w := nI (2)) (aw_d q_Mo_bindTags 13 rfl) rfl (by (have hz := (hW.2.2.2 t ht).2; have hz1 := hW.1; omega)) rfl ((hP.2.2.2 t ht).1.trans (congrArg nI hk)) ?_
  refine aw_iconst (v := nI 1) (aw_d q_Mo_bindTags 14 rfl) (by decide) ?_
  refine aw_icmpN_ne (tgt := 42) (aw_d q_Mo_bindTags 15 rfl) (by decide) (by (have hz := (hW.2.2.2 t ht).2; have hz1 := hW.1; omega)) (by (have hz := (hW.2.2.2 t ht).2; have hz1 := hW.1; omega)) (fun c27 => ?_) (fun c27 => by exfalso; (have hz := (hW.2.2.2 t ht).2; have hz1 := hW.1; omega))
  refine aw_aload_n (aw_d q_Mo_bindTags 21 rfl) rfl rfl rfl ?_
  refine aw_ldc2 (aw_d q_Mo_bindTags 22 rfl) lL_Mo_259 ?_
  refine aw_bipush (v := nI 8) (aw_d q_Mo_bindTags 23 rfl) (by decide) ?_
  refine cVv (aw_d q_Mo_bindTags 24 rfl) (sp_emit (by (try simp only [List.length_append, List.length_cons, List.length_nil, eB_len]); omega)) vL_Mo_141_Mo rfl rfl rfl rfl rfl rfl ⟨aw_le rfl, aw_le rfl⟩ ?_
  refine aw_aload_n (aw_d q_Mo_bindTags 25 rfl) rfl rfl rfl ?_
  refine aw_getf (aw_d q_Mo_bindTags 26 rfl) fL_Mo_19_Mo rfl rfl ?_
  refine aw_iload_n (aw_d q_Mo_bindTags 27 rfl) rfl rfl ?_
  refine aw_ialdK (w := nI (2)) (aw_d q_Mo_bindTags 28 rfl) rfl (by (have hz := (hW.2.2.2 t ht).2; have hz1 := hW.1; omega)) rfl ((hP.2.2.2 t ht).1.trans (congrArg nI hk)) ?_
  refine aw_iconst (v := nI 3) (aw_d q_Mo_bindTags 29 rfl) (by decide) ?_
  refine aw_icmpN_ne (tgt := 81) (aw_d q_Mo_bindTags 30 rfl) (by decide) (by (have hz := (hW.2.2.2 t ht).2; have hz1 := hW.1; omega)) (by (have hz := (hW.2.2.2 t ht).2; have hz1 := hW.1; omega)) (fun c58 => ?_) (fun c58 => by exfalso; (have hz := (hW.2.2.2 t ht).2; have hz1 := hW.1; omega))
  refine aw_aload_n (aw_d q_Mo_bindTags 40 rfl) rfl rfl rfl ?_
  refine aw_getf (aw_d q_Mo_bindTags 41 rfl) fL_Mo_19_Mo rfl rfl ?_
  refine aw_iload_n (aw_d q_Mo_bindTags 42 rfl) rfl rfl ?_
  refine aw_ialdK (w := nI (2)) (aw_d q_Mo_bindTags 43 rfl) rfl (by (have hz := (hW.2.2.2 t ht).2; have hz1 := hW.1; omega)) rfl ((hP.2.2.2 t ht).1.trans (congrArg nI hk)) ?_
  refine aw_iconst (v := nI 4) (aw_d q_Mo_bindTags 44 rfl) (by decide) ?_
  refine aw_icmpN_ne (tgt := 108) (aw_d q_Mo_bindTags 45 rfl) (by decide) (by (have hz := (hW.2.2.2 t ht).2; have hz1 := hW.1; omega)) (by (have hz := (hW.2.2.2 t ht).2; have hz1 := hW.1; omega)) (fun c88 => ?_) (fun c88 => by exfalso; (have hz := (hW.2.2.2 t ht).2; have hz1 := hW.1; omega))
  refine aw_aload_n (aw_d q_Mo_bindTags 54 rfl) rfl rfl rfl ?_
  refine aw_getf (aw_d q_Mo_bindTags 55 rfl) fL_Mo_19_Mo rfl rfl ?_
  refine aw_iload_n (aw_d q_Mo_bindTags 56 rfl) rfl rfl ?_
  refine aw_ialdK (w := nI (2)) (aw_d q_Mo_bindTags 57 rfl) rfl (by (have hz := (hW.2.2.2 t ht).2; have hz1 := hW.1; omega)) rfl ((hP.2.2.2 t ht).1.trans (congrArg nI hk)) ?_
  refine aw_iconst (v := nI 2) (aw_d q_Mo_bindTags 58 rfl) (by decide) ?_
  refine aw_icmpN_le (tgt := 129) (aw_d q_Mo_bindTags 59 rfl) (by decide) (by (have hz := (hW.2.2.2 t ht).2; have hz1 := hW.1; omega)) (by (have hz := (hW.2.2.2 t ht).2; have hz1 := hW.1; omega)) (fun c115 => ?_) (fun c115 => by exfalso; (have hz := (hW.2.2.2 t ht).2; have hz1 := hW.1; omega))
  refine aw_aload_n (aw_d q_Mo_bindTags 66 rfl) rfl rfl rfl ?_
  refine aw_bipush (v := nI 62) (aw_d q_Mo_bindTags 67 rfl) (by decide) ?_
  refine cVv (aw_d q_Mo_bindTags 68 rfl) (sp_put1 (by (try simp only [List.length_append, List.length_cons, List.length_nil, eB_len]); omega)) vL_Mo_135_Mo rfl rfl rfl rfl rfl rfl ⟨aw_le rfl, aw_le rfl⟩ ?_
  refine aw_aload_n (aw_d q_Mo_bindTags 69 rfl) rfl rfl rfl ?_
  refine aw_iload_n (aw_d q_Mo_bindTags 70 rfl) rfl rfl ?_
  refine aw_iconst (v := nI 2) (aw_d q_Mo_bindTags 71 rfl) (by decide) ?_
  refine cVv (aw_d q_Mo_bindTags 72 rfl) (sp_emitText_2 hP hW ht (by (try simp only [List.length_append, List.length_cons, List.length_nil, eB_len]); omega)) vL_Mo_203_Mo rfl rfl rfl rfl rfl rfl ⟨aw_le rfl, aw_le rfl⟩ ?_
  refine aw_aload_n (aw_d q_Mo_bindTags 73 rfl) rfl rfl rfl ?_
  refine aw_getf (aw_d q_Mo_bindTags 74 rfl) fL_Mo_19_Mo rfl rfl ?_
  refine aw_iload_n (aw_d q_Mo_bindTags 75 rfl) rfl rfl ?_
  refine aw_ialdK (w := nI (2)) (aw_d q_Mo_bindTags 76 rfl) rfl (by (have hz := (hW.2.2.2 t ht).2; have hz1 := hW.1; omega)) rfl ((hP.2.2.2 t ht).1.trans (congrArg nI hk)) ?_
  refine aw_ifN_ne (tgt := 162) (aw_d q_Mo_bindTags 77 rfl) (by decide) (by (have hz := (hW.2.2.2 t ht).2; have hz1 := hW.1; omega)) (fun c147 => ?_) (fun c147 => by exfalso; (have hz := (hW.2.2.2 t ht).2; have hz1 := hW.1; omega))
  refine aw_aload_n (aw_d q_Mo_bindTags 83 rfl) rfl rfl rfl ?_
  refine aw_getf (aw_d q_Mo_bindTags 84 rfl) fL_Mo_19_Mo rfl rfl ?_
  refine aw_iload_n (aw_d q_Mo_bindTags 85 rfl) rfl rfl ?_
  refine aw_ialdK (w := nI (2)) (aw_d q_Mo_bindTags 86 rfl) rfl (by (have hz := (hW.2.2.2 t ht).2; have hz1 := hW.1; omega)) rfl ((hP.2.2.2 t ht).1.trans (congrArg nI hk)) ?_
  refine aw_iconst (v := nI 1) (aw_d q_Mo_bindTags 87 rfl) (by decide) ?_
  refine aw_icmpN_ne (tgt := 184) (aw_d q_Mo_bindTags 88 rfl) (by decide) (by (have hz := (hW.2.2.2 t ht).2; have hz1 := hW.1; omega)) (by (have hz := (hW.2.2.2 t ht).2; have hz1 := hW.1; omega)) (fun c169 => ?_) (fun c169 => by exfalso; (have hz := (hW.2.2.2 t ht).2; have hz1 := hW.1; omega))
  refine aw_aload_n (aw_d q_Mo_bindTags 94 rfl) rfl rfl rfl ?_
  refine aw_ldc2 (aw_d q_Mo_bindTags 95 rfl) lL_Mo_273 ?_
  refine aw_bipush (v := nI 8) (aw_d q_Mo_bindTags 96 rfl) (by decide) ?_
  refine cVv (aw_d q_Mo_bindTags 97 rfl) (sp_emit (by (try simp only [List.length_append, List.length_cons, List.length_nil, eB_len]); omega)) vL_Mo_141_Mo rfl rfl rfl rfl rfl rfl ⟨aw_le rfl, aw_le rfl⟩ ?_
  refine aw_aload_n (aw_d q_Mo_bindTags 98 rfl) rfl rfl rfl ?_
  refine aw_ldc2 (aw_d q_Mo_bindTags 99 rfl) lL_Mo_275 ?_
  refine aw_iconst (v := nI 2) (aw_d q_Mo_bindTags 100 rfl) (by decide) ?_
  refine cVv (aw_d q_Mo_bindTags 101 rfl) (sp_emit (by (try simp only [List.length_append, List.length_cons, List.length_nil, eB_len]); omega)) vL_Mo_141_Mo rfl rfl rfl rfl rfl rfl ⟨aw_le rfl, aw_le rfl⟩ ?_
  exact aw_vret (aw_d q_Mo_bindTags 102 rfl) rfl (⟨rfl, by simp [w_xt, hk, eb_34_0, eb_34_1, eb_34_2, eb_44_0, eb_44_1, eb_44_2, eb_62_1, eb_63_0, eb_63_1, eb_63_2, eb_91_1, eb_123_0, eb_123_1, eb_123_2, eb_8766_2, eb_11298_0, eb_11298_1, eb_11298_2, eb_11387_0, eb_11387_1, eb_11387_2, eb_14939_2, eb_24158_2, eb_24378_2, eb_26430_2, eb_27710_2, eb_2240318_3, eb_2243106_3, eb_6126973_3, eb_6634786_3, eb_6765858_3, eb_7433278_3, eb_7697001_3, eb_644314171_4, eb_644641851_4, eb_1684108389_4, eb_1919246700_4, eb_1953658213_4, eb_163799184187_5, eb_164843319355_5, eb_259668470078_5, eb_422759588965_5, eb_435426304570_5, eb_439721161573_5, eb_474176698914_5, eb_482733079074_5, eb_500136506472_5, eb_512853240933_5, eb_66174531561790_6, eb_66419075146814_6, eb_122511348035134_6, eb_9128563980975394_7, eb_16996725057414462_7, eb_30515246123868524_7, eb_2334097659363883376_8, eb_2339740318023049582_8, eb_2462380988100801893_8, eb_2466419133851988069_8, eb_3180214656604140665_8, eb_3180236698239528033_8, eb_4336793171144239470_8, eb_4336793192635852094_8, eb_4336793196931343713_8, eb_4336799750816022076_8, eb_4336804166361248353_8, eb_4336810746235415668_8, eb_4351156112845270631_8, eb_4352840508821617711_8, eb_4353970888399544684_8, eb_4355655336186377278_8, eb_4355948828431576126_8, eb_4356776833549689452_8, eb_6736589144075891573_8, eb_7286945561811696930_8, eb_7522525835761050223_8, eb_7597120025407222562_8, eb_7814997844241883746_8, eb_7943852967226007922_8, eb_8243121641139499838_8, eb_8304140937415647602_8, eb_8872769000508236346_8, eb_8872784376777351738_8, eb_8898316964945948524_8, tl_0, tl_1, tl_2, tl_3, tl_5, tl_6, tl_7, tl_8, tl_9, tl_10, tl_11, tl_12, tl_13, tl_14, tl_15, tl_16, tl_17, tl_18, tl_19, tl_20, tl_21, tl_22, tl_23, tl_24, tl_25, tl_26, tl_27, tl_28, tl_29, tl_30, tl_31, tl_32, tl_33, tl_34, tl_35, tl_36, tl_37, tl_38, tl_39, tl_40, tl_41, tl_42, tl_43, tl_44, tl_45, tl_46, tl_47, tl_48, tl_49, tl_50, tl_51, tl_52, tl_53, tl_54, tl_55, tl_56, tl_57, tl_58, tl_59]⟩)
set_option maxRecDepth 20000 in
theorem sp_Mo_bindTags_3 {g : aw_G} {S : aw_S} {O : List Int32} {P : xp_T} (hP : xp_M S P) (hW : xp_wd P) {t : Nat} (ht : t < xp_t P) (hk : xp_k P t = 3) (hO : O.length + 1000 < 2147483648) : Sp g M_Mo_bindTags 3 69 0 0 [.ref 33, .int (nI t)] (HP (MS S O)) (fun r1 h => r1 = none ∧ h = HP (MS S (O ++ w_xt P t))) := by
  refine Sp.of rfl (aw_le rfl) ?_
  have hl2 := w_t_len (f := w_2) hW ht w_2_len
  have hle := w_e_len hW ht (by omega)
  refine aw_aload_n (aw_d q_Mo_bindTags 0 rfl) rfl rfl rfl ?_
  refine aw_getf (aw_d q_Mo_bindTags 1 rfl) fL_Mo_19_Mo rfl rfl ?_
  refine aw_iload_n (aw_d q_Mo_bindTags 2 rfl) rfl rfl ?_
  refine aw_ialdK (w := nI (3)) (aw_d q_Mo_bindTags 3 rfl) rfl (by (have hz := (hW.2.2.2 t ht).2; have hz1 := hW.1; omega)) rfl ((hP.2.2.2 t ht).1.trans (congrArg nI hk)) ?_
  refine aw_ifN_ne (tgt := 20) (aw_d q_Mo_bindTags 4 rfl) (by decide) (by (have hz := (hW.2.2.2 t ht).2; have hz1 := hW.1; omega)) (fun c6 => ?_) (fun c6 => by exfalso; (have hz := (hW.2.2.2 t ht).2; have hz1 := hW.1; omega))
  refine aw_aload_n (aw_d q_Mo_bindTags 10 rfl) rfl rfl rfl ?_
  refine aw_getf (aw_d q_Mo_bindTags 11 rfl) fL_Mo_19_Mo rfl rfl ?_
  refine aw_iload_n (aw_d q_Mo_bindTags 12 rfl) rfl rfl ?_
  refine aw_ialdK (w := nI (3)) (aw_d q_Mo_bindTags 13 rfl) rfl (by (have hz := (hW.2.2.2 t ht).2; have hz1 := hW.1; omega)) rfl ((hP.2.2.2 t ht).1.trans (congrArg nI hk)) ?_
  refine aw_iconst (v := nI 1) (aw_d q_Mo_bindTags 14 rfl) (by decide) ?_
  refine aw_icmpN_ne (tgt := 42) (aw_d q_Mo_bindTags 15 rfl) (by decide) (by (have hz := (hW.2.2.2 t ht).2; have hz1 := hW.1; omega)) (by (have hz := (hW.2.2.2 t ht).2; have hz1 := hW.1; omega)) (fun c27 => ?_) (fun c27 => by exfalso; (have hz := (hW.2.2.2 t ht).2; have hz1 := hW.1; omega))
  refine aw_aload_n (aw_d q_Mo_bindTags 21 rfl) rfl rfl rfl ?_
  refine aw_ldc2 (aw_d q_Mo_bindTags 22 rfl) lL_Mo_259 ?_
  refine aw_bipush (v := nI 8) (aw_d q_Mo_bindTags 23 rfl) (by decide) ?_
  refine cVv (aw_d q_Mo_bindTags 24 rfl) (sp_emit (by (try simp only [List.length_append, List.length_cons, List.length_nil, eB_len]); omega)) vL_Mo_141_Mo rfl rfl rfl rfl rfl rfl ⟨aw_le rfl, aw_le rfl⟩ ?_
  refine aw_aload_n (aw_d q_Mo_bindTags 25 rfl) rfl rfl rfl ?_
  refine aw_getf (aw_d q_Mo_bindTags 26 rfl) fL_Mo_19_Mo rfl rfl ?_
  refine aw_iload_n (aw_d q_Mo_bindTags 27 rfl) rfl rfl ?_
  refine aw_ialdK (w := nI (3)) (aw_d q_Mo_bindTags 28 rfl) rfl (by (have hz := (hW.2.2.2 t ht).2; have hz1 := hW.1; omega)) rfl ((hP.2.2.2 t ht).1.trans (congrArg nI hk)) ?_
  refine aw_iconst (v := nI 3) (aw_d q_Mo_bindTags 29 rfl) (by decide) ?_
  refine aw_icmpN_ne (tgt := 81) (aw_d q_Mo_bindTags 30 rfl) (by decide) (by (have hz := (hW.2.2.2 t ht).2; have hz1 := hW.1; omega)) (by (have hz := (hW.2.2.2 t ht).2; have hz1 := hW.1; omega)) (fun c58 => by exfalso; (have hz := (hW.2.2.2 t ht).2; have hz1 := hW.1; omega)) (fun c58 => ?_)
  refine aw_aload_n (aw_d q_Mo_bindTags 31 rfl) rfl rfl rfl ?_
  refine aw_ldc2 (aw_d q_Mo_bindTags 32 rfl) lL_Mo_261 ?_
  refine aw_bipush (v := nI 8) (aw_d q_Mo_bindTags 33 rfl) (by decide) ?_
  refine cVv (aw_d q_Mo_bindTags 34 rfl) (sp_emit (by (try simp only [List.length_append, List.length_cons, List.length_nil, eB_len]); omega)) vL_Mo_141_Mo rfl rfl rfl rfl rfl rfl ⟨aw_le rfl, aw_le rfl⟩ ?_
  refine aw_aload_n (aw_d q_Mo_bindTags 35 rfl) rfl rfl rfl ?_
  refine aw_ldc2 (aw_d q_Mo_bindTags 36 rfl) lL_Mo_263 ?_
  refine aw_iconst (v := nI 3) (aw_d q_Mo_bindTags 37 rfl) (by decide) ?_
  refine cVv (aw_d q_Mo_bindTags 38 rfl) (sp_emit (by (try simp only [List.length_append, List.length_cons, List.length_nil, eB_len]); omega)) vL_Mo_141_Mo rfl rfl rfl rfl rfl rfl ⟨aw_le rfl, aw_le rfl⟩ ?_
  refine aw_goto (tgt := 108) (aw_d q_Mo_bindTags 39 rfl) (by decide) ?_
  refine aw_aload_n (aw_d q_Mo_bindTags 54 rfl) rfl rfl rfl ?_
  refine aw_getf (aw_d q_Mo_bindTags 55 rfl) fL_Mo_19_Mo rfl rfl ?_
  refine aw_iload_n (aw_d q_Mo_bindTags 56 rfl) rfl rfl ?_
  refine aw_ialdK (w := nI (3)) (aw_d q_Mo_bindTags 57 rfl) rfl (by (have hz := (hW.2.2.2 t ht).2; have hz1 := hW.1; omega)) rfl ((hP.2.2.2 t ht).1.trans (congrArg nI hk)) ?_
  refine aw_iconst (v := nI 2) (aw_d q_Mo_bindTags 58 rfl) (by decide) ?_
  refine aw_icmpN_le (tgt := 129) (aw_d q_Mo_bindTags 59 rfl) (by decide) (by (have hz := (hW.2.2.2 t ht).2; have hz1 := hW.1; omega)) (by (have hz := (hW.2.2.2 t ht).2; have hz1 := hW.1; omega)) (fun c115 => by exfalso; (have hz := (hW.2.2.2 t ht).2; have hz1 := hW.1; omega)) (fun c115 => ?_)
  refine aw_aload_n (aw_d q_Mo_bindTags 60 rfl) rfl rfl rfl ?_
  refine aw_iload_n (aw_d q_Mo_bindTags 61 rfl) rfl rfl ?_
  refine cVv (aw_d q_Mo_bindTags 62 rfl) (sp_emitExtra hP hW ht (by omega) (by (try simp only [List.length_append, List.length_cons, List.length_nil, eB_len]); omega)) vL_Mo_215_Mo rfl rfl rfl rfl rfl rfl ⟨aw_le rfl, aw_le rfl⟩ ?_
  refine aw_aload_n (aw_d q_Mo_bindTags 63 rfl) rfl rfl rfl ?_
  refine aw_bipush (v := nI 34) (aw_d q_Mo_bindTags 64 rfl) (by decide) ?_
  refine cVv (aw_d q_Mo_bindTags 65 rfl) (sp_put1 (by (try simp only [List.length_append, List.length_cons, List.length_nil, eB_len]); omega)) vL_Mo_135_Mo rfl rfl rfl rfl rfl rfl ⟨aw_le rfl, aw_le rfl⟩ ?_
  refine aw_aload_n (aw_d q_Mo_bindTags 66 rfl) rfl rfl rfl ?_
  refine aw_bipush (v := nI 62) (aw_d q_Mo_bindTags 67 rfl) (by decide) ?_
  refine cVv (aw_d q_Mo_bindTags 68 rfl) (sp_put1 (by (try simp only [List.length_append, List.length_cons, List.length_nil, eB_len]); omega)) vL_Mo_135_Mo rfl rfl rfl rfl rfl rfl ⟨aw_le rfl, aw_le rfl⟩ ?_
  refine aw_aload_n (aw_d q_Mo_bindTags 69 rfl) rfl rfl rfl ?_
  refine aw_iload_n (aw_d q_Mo_bindTags 70 rfl) rfl rfl ?_
  refine aw_iconst (v := nI 2) (aw_d q_Mo_bindTags 71 rfl) (by decide) ?_
  refine cVv (aw_d q_Mo_bindTags 72 rfl) (sp_emitText_2 hP hW ht (by (try simp only [List.length_append, List.length_cons, List.length_nil, eB_len]); omega)) vL_Mo_203_Mo rfl rfl rfl rfl rfl rfl ⟨aw_le rfl, aw_le rfl⟩ ?_
  refine aw_aload_n (aw_d q_Mo_bindTags 73 rfl) rfl rfl rfl ?_
  refine aw_getf (aw_d q_Mo_bindTags 74 rfl) fL_Mo_19_Mo rfl rfl ?_
  refine aw_iload_n (aw_d q_Mo_bindTags 75 rfl) rfl rfl ?_
  refine aw_ialdK (w := nI (3)) (aw_d q_Mo_bindTags 76 rfl) rfl (by (have hz := (hW.2.2.2 t ht).2; have hz1 := hW.1; omega)) rfl ((hP.2.2.2 t ht).1.trans (congrArg nI hk)) ?_
  refine aw_ifN_ne (tgt := 162) (aw_d q_Mo_bindTags 77 rfl) (by decide) (by (have hz := (hW.2.2.2 t ht).2; have hz1 := hW.1; omega)) (fun c147 => ?_) (fun c147 => by exfalso; (have hz := (hW.2.2.2 t ht).2; have hz1 := hW.1; omega))
  refine aw_aload_n (aw_d q_Mo_bindTags 83 rfl) rfl rfl rfl ?_
  refine aw_getf (aw_d q_Mo_bindTags 84 rfl) fL_Mo_19_Mo rfl rfl ?_
  refine aw_iload_n (aw_d q_Mo_bindTags 85 rfl) rfl rfl ?_
  refine aw_ialdK (w := nI (3)) (aw_d q_Mo_bindTags 86 rfl) rfl (by (have hz := (hW.2.2.2 t ht).2; have hz1 := hW.1; omega)) rfl ((hP.2.2.2 t ht).1.trans (congrArg nI hk)) ?_
  refine aw_iconst (v := nI 1) (aw_d q_Mo_bindTags 87 rfl) (by decide) ?_
  refine aw_icmpN_ne (tgt := 184) (aw_d q_Mo_bindTags 88 rfl) (by decide) (by (have hz := (hW.2.2.2 t ht).2; have hz1 := hW.1; omega)) (by (have hz := (hW.2.2.2 t ht).2; have hz1 := hW.1; omega)) (fun c169 => ?_) (fun c169 => by exfalso; (have hz := (hW.2.2.2 t ht).2; have hz1 := hW.1; omega))
  refine aw_aload_n (aw_d q_Mo_bindTags 94 rfl) rfl rfl rfl ?_
  refine aw_ldc2 (aw_d q_Mo_bindTags 95 rfl) lL_Mo_273 ?_
  refine aw_bipush (v := nI 8) (aw_d q_Mo_bindTags 96 rfl) (by decide) ?_
  refine cVv (aw_d q_Mo_bindTags 97 rfl) (sp_emit (by (try simp only [List.length_append, List.length_cons, List.length_nil, eB_len]); omega)) vL_Mo_141_Mo rfl rfl rfl rfl rfl rfl ⟨aw_le rfl, aw_le rfl⟩ ?_
  refine aw_aload_n (aw_d q_Mo_bindTags 98 rfl) rfl rfl rfl ?_
  refine aw_ldc2 (aw_d q_Mo_bindTags 99 rfl) lL_Mo_275 ?_
  refine aw_iconst (v := nI 2) (aw_d q_Mo_bindTags 100 rfl) (by decide) ?_
  refine cVv (aw_d q_Mo_bindTags 101 rfl) (sp_emit (by (try simp only [List.length_append, List.length_cons, List.length_nil, eB_len]); omega)) vL_Mo_141_Mo rfl rfl rfl rfl rfl rfl ⟨aw_le rfl, aw_le rfl⟩ ?_
  exact aw_vret (aw_d q_Mo_bindTags 102 rfl) rfl (⟨rfl, by simp [w_xt, hk, eb_34_0, eb_34_1, eb_34_2, eb_44_0, eb_44_1, eb_44_2, eb_62_1, eb_63_0, eb_63_1, eb_63_2, eb_91_1, eb_123_0, eb_123_1, eb_123_2, eb_8766_2, eb_11298_0, eb_11298_1, eb_11298_2, eb_11387_0, eb_11387_1, eb_11387_2, eb_14939_2, eb_24158_2, eb_24378_2, eb_26430_2, eb_27710_2, eb_2240318_3, eb_2243106_3, eb_6126973_3, eb_6634786_3, eb_6765858_3, eb_7433278_3, eb_7697001_3, eb_644314171_4, eb_644641851_4, eb_1684108389_4, eb_1919246700_4, eb_1953658213_4, eb_163799184187_5, eb_164843319355_5, eb_259668470078_5, eb_422759588965_5, eb_435426304570_5, eb_439721161573_5, eb_474176698914_5, eb_482733079074_5, eb_500136506472_5, eb_512853240933_5, eb_66174531561790_6, eb_66419075146814_6, eb_122511348035134_6, eb_9128563980975394_7, eb_16996725057414462_7, eb_30515246123868524_7, eb_2334097659363883376_8, eb_2339740318023049582_8, eb_2462380988100801893_8, eb_2466419133851988069_8, eb_3180214656604140665_8, eb_3180236698239528033_8, eb_4336793171144239470_8, eb_4336793192635852094_8, eb_4336793196931343713_8, eb_4336799750816022076_8, eb_4336804166361248353_8, eb_4336810746235415668_8, eb_4351156112845270631_8, eb_4352840508821617711_8, eb_4353970888399544684_8, eb_4355655336186377278_8, eb_4355948828431576126_8, eb_4356776833549689452_8, eb_6736589144075891573_8, eb_7286945561811696930_8, eb_7522525835761050223_8, eb_7597120025407222562_8, eb_7814997844241883746_8, eb_7943852967226007922_8, eb_8243121641139499838_8, eb_8304140937415647602_8, eb_8872769000508236346_8, eb_8872784376777351738_8, eb_8898316964945948524_8, tl_0, tl_1, tl_2, tl_3, tl_5, tl_6, tl_7, tl_8, tl_9, tl_10, tl_11, tl_12, tl_13, tl_14, tl_15, tl_16, tl_17, tl_18, tl_19, tl_20, tl_21, tl_22, tl_23, tl_24, tl_25, tl_26, tl_27, tl_28, tl_29, tl_30, tl_31, tl_32, tl_33, tl_34, tl_35, tl_36, tl_37, tl_38, tl_39, tl_40, tl_41, tl_42, tl_43, tl_44, tl_45, tl_46, tl_47, tl_48, tl_49, tl_50, tl_51, tl_52, tl_53, tl_54, tl_55, tl_56, tl_57, tl_58, tl_59]⟩)
set_option maxRecDepth 20000 in
theorem sp_Mo_bindTags_4 {g : aw_G} {S : aw_S} {O : List Int32} {P : xp_T} (hP : xp_M S P) (hW : xp_wd P) {t : Nat} (ht : t < xp_t P) (hk : xp_k P t = 4) (hO : O.length + 1000 < 2147483648) : Sp g M_Mo_bindTags 3 69 0 0 [.ref 33, .int (nI t)] (HP (MS S O)) (fun r1 h => r1 = none ∧ h = HP (MS S (O ++ w_xt P t))) := by
  refine Sp.of rfl (aw_le rfl) ?_
  have hl2 := w_t_len (f := w_2) hW ht w_2_len
  have hle := w_e_len hW ht (by omega)
  refine aw_aload_n (aw_d q_Mo_bindTags 0 rfl) rfl rfl rfl ?_
  refine aw_getf (aw_d q_Mo_bindTags 1 rfl) fL_Mo_19_Mo rfl rfl ?_
  refine aw_iload_n (aw_d q_Mo_bindTags 2 rfl) rfl rfl ?_
  refine aw_ialdK (w := nI (4)) (aw_d q_Mo_bindTags 3 rfl) rfl (by (have hz := (hW.2.2.2 t ht).2; have hz1 := hW.1; omega)) rfl ((hP.2.2.2 t ht).1.trans (congrArg nI hk)) ?_
  refine aw_ifN_ne (tgt := 20) (aw_d q_Mo_bindTags 4 rfl) (by decide) (by (have hz := (hW.2.2.2 t ht).2; have hz1 := hW.1; omega)) (fun c6 => ?_) (fun c6 => by exfalso; (have hz := (hW.2.2.2 t ht).2; have hz1 := hW.1; omega))
  refine aw_aload_n (aw_d q_Mo_bindTags 10 rfl) rfl rfl rfl ?_
  refine aw_getf (aw_d q_Mo_bindTags 11 rfl) fL_Mo_19_Mo rfl rfl ?_
  refine aw_iload_n (aw_d q_Mo_bindTags 12 rfl) rfl rfl ?_
  refine aw_ialdK (w := nI (4)) (aw_d q_Mo_bindTags 13 rfl) rfl (by (have hz := (hW.2.2.2 t ht).2; have hz1 := hW.1; omega)) rfl ((hP.2.2.2 t ht).1.trans (congrArg nI hk)) ?_
  refine aw_iconst (v := nI 1) (aw_d q_Mo_bindTags 14 rfl) (by decide) ?_
  refine aw_icmpN_ne (tgt := 42) (aw_d q_Mo_bindTags 15 rfl) (by decide) (by (have hz := (hW.2.2.2 t ht).2; have hz1 := hW.1; omega)) (by (have hz := (hW.2.2.2 t ht).2; have hz1 := hW.1; omega)) (fun c27 => ?_) (fun c27 => by exfalso; (have hz := (hW.2.2.2 t ht).2; have hz1 := hW.1; omega))
  refine aw_aload_n (aw_d q_Mo_bindTags 21 rfl) rfl rfl rfl ?_
  refine aw_ldc2 (aw_d q_Mo_bindTags 22 rfl) lL_Mo_259 ?_
  refine aw_bipush (v := nI 8) (aw_d q_Mo_bindTags 23 rfl) (by decide) ?_
  refine cVv (aw_d q_Mo_bindTags 24 rfl) (sp_emit (by (try simp only [List.length_append, List.length_cons, List.length_nil, eB_len]); omega)) vL_Mo_141_Mo rfl rfl rfl rfl rfl rfl ⟨aw_le rfl, aw_le rfl⟩ ?_
  refine aw_aload_n (aw_d q_Mo_bindTags 25 rfl) rfl rfl rfl ?_
  refine aw_getf (aw_d q_Mo_bindTags 26 rfl) fL_Mo_19_Mo rfl rfl ?_
  refine aw_iload_n (aw_d q_Mo_bindTags 27 rfl) rfl rfl ?_
  refine aw_ialdK (w := nI (4)) (aw_d q_Mo_bindTags 28 rfl) rfl (by (have hz := (hW.2.2.2 t ht).2; have hz1 := hW.1; omega)) rfl ((hP.2.2.2 t ht).1.trans (congrArg nI hk)) ?_
  refine aw_iconst (v := nI 3) (aw_d q_Mo_bindTags 29 rfl) (by decide) ?_
  refine aw_icmpN_ne (tgt := 81) (aw_d q_Mo_bindTags 30 rfl) (by decide) (by (have hz := (hW.2.2.2 t ht).2; have hz1 := hW.1; omega)) (by (have hz := (hW.2.2.2 t ht).2; have hz1 := hW.1; omega)) (fun c58 => ?_) (fun c58 => by exfalso; (have hz := (hW.2.2.2 t ht).2; have hz1 := hW.1; omega))
  refine aw_aload_n (aw_d q_Mo_bindTags 40 rfl) rfl rfl rfl ?_
  refine aw_getf (aw_d q_Mo_bindTags 41 rfl) fL_Mo_19_Mo rfl rfl ?_
  refine aw_iload_n (aw_d q_Mo_bindTags 42 rfl) rfl rfl ?_
  refine aw_ialdK (w := nI (4)) (aw_d q_Mo_bindTags 43 rfl) rfl (by (have hz := (hW.2.2.2 t ht).2; have hz1 := hW.1; omega)) rfl ((hP.2.2.2 t ht).1.trans (congrArg nI hk)) ?_
  refine aw_iconst (v := nI 4) (aw_d q_Mo_bindTags 44 rfl) (by decide) ?_
  refine aw_icmpN_ne (tgt := 108) (aw_d q_Mo_bindTags 45 rfl) (by decide) (by (have hz := (hW.2.2.2 t ht).2; have hz1 := hW.1; omega)) (by (have hz := (hW.2.2.2 t ht).2; have hz1 := hW.1; omega)) (fun c88 => by exfalso; (have hz := (hW.2.2.2 t ht).2; have hz1 := hW.1; omega)) (fun c88 => ?_)
  refine aw_aload_n (aw_d q_Mo_bindTags 46 rfl) rfl rfl rfl ?_
  refine aw_ldc2 (aw_d q_Mo_bindTags 47 rfl) lL_Mo_265 ?_
  refine aw_bipush (v := nI 8) (aw_d q_Mo_bindTags 48 rfl) (by decide) ?_
  refine cVv (aw_d q_Mo_bindTags 49 rfl) (sp_emit (by (try simp only [List.length_append, List.length_cons, List.length_nil, eB_len]); omega)) vL_Mo_141_Mo rfl rfl rfl rfl rfl rfl ⟨aw_le rfl, aw_le rfl⟩ ?_
  refine aw_aload_n (aw_d q_Mo_bindTags 50 rfl) rfl rfl rfl ?_
  refine aw_ldc2 (aw_d q_Mo_bindTags 51 rfl) lL_Mo_267 ?_
  refine aw_iconst (v := nI 3) (aw_d q_Mo_bindTags 52 rfl) (by decide) ?_
  refine cVv (aw_d q_Mo_bindTags 53 rfl) (sp_emit (by (try simp only [List.length_append, List.length_cons, List.length_nil, eB_len]); omega)) vL_Mo_141_Mo rfl rfl rfl rfl rfl rfl ⟨aw_le rfl, aw_le rfl⟩ ?_
  refine aw_aload_n (aw_d q_Mo_bindTags 54 rfl) rfl rfl rfl ?_
  refine aw_getf (aw_d q_Mo_bindTags 55 rfl) fL_Mo_19_Mo rfl rfl ?_
  refine aw_iload_n (aw_d q_Mo_bindTags 56 rfl) rfl rfl ?_
  refine aw_ialdK (w := nI (4)) (aw_d q_Mo_bindTags 57 rfl) rfl (by (have hz := (hW.2.2.2 t ht).2; have hz1 := hW.1; omega)) rfl ((hP.2.2.2 t ht).1.trans (congrArg nI hk)) ?_
  refine aw_iconst (v := nI 2) (aw_d q_Mo_bindTags 58 rfl) (by decide) ?_
  refine aw_icmpN_le (tgt := 129) (aw_d q_Mo_bindTags 59 rfl) (by decide) (by (have hz := (hW.2.2.2 t ht).2; have hz1 := hW.1; omega)) (by (have hz := (hW.2.2.2 t ht).2; have hz1 := hW.1; omega)) (fun c115 => by exfalso; (have hz := (hW.2.2.2 t ht).2; have hz1 := hW.1; omega)) (fun c115 => ?_)
  refine aw_aload_n (aw_d q_Mo_bindTags 60 rfl) rfl rfl rfl ?_
  refine aw_iload_n (aw_d q_Mo_bindTags 61 rfl) rfl rfl ?_
  refine cVv (aw_d q_Mo_bindTags 62 rfl) (sp_emitExtra hP hW ht (by omega) (by (try simp only [List.length_append, List.length_cons, List.length_nil, eB_len]); omega)) vL_Mo_215_Mo rfl rfl rfl rfl rfl rfl ⟨aw_le rfl, aw_le rfl⟩ ?_
  refine aw_aload_n (aw_d q_Mo_bindTags 63 rfl) rfl rfl rfl ?_
  refine aw_bipush (v := nI 34) (aw_d q_Mo_bindTags 64 rfl) (by decide) ?_
  refine cVv (aw_d q_Mo_bindTags 65 rfl) (sp_put1 (by (try simp only [List.length_append, List.length_cons, List.length_nil, eB_len]); omega)) vL_Mo_135_Mo rfl rfl rfl rfl rfl rfl ⟨aw_le rfl, aw_le rfl⟩ ?_
  refine aw_aload_n (aw_d q_Mo_bindTags 66 rfl) rfl rfl rfl ?_
  refine aw_bipush (v := nI 62) (aw_d q_Mo_bindTags 67 rfl) (by decide) ?_
  refine cVv (aw_d q_Mo_bindTags 68 rfl) (sp_put1 (by (try simp only [List.length_append, List.length_cons, List.length_nil, eB_len]); omega)) vL_Mo_135_Mo rfl rfl rfl rfl rfl rfl ⟨aw_le rfl, aw_le rfl⟩ ?_
  refine aw_aload_n (aw_d q_Mo_bindTags 69 rfl) rfl rfl rfl ?_
  refine aw_iload_n (aw_d q_Mo_bindTags 70 rfl) rfl rfl ?_
  refine aw_iconst (v := nI 2) (aw_d q_Mo_bindTags 71 rfl) (by decide) ?_
  refine cVv (aw_d q_Mo_bindTags 72 rfl) (sp_emitText_2 hP hW ht (by (try simp only [List.length_append, List.length_cons, List.length_nil, eB_len]); omega)) vL_Mo_203_Mo rfl rfl rfl rfl rfl rfl ⟨aw_le rfl, aw_le rfl⟩ ?_
  refine aw_aload_n (aw_d q_Mo_bindTags 73 rfl) rfl rfl rfl ?_
  refine aw_getf (aw_d q_Mo_bindTags 74 rfl) fL_Mo_19_Mo rfl rfl ?_
  refine aw_iload_n (aw_d q_Mo_bindTags 75 rfl) rfl rfl ?_
  refine aw_ialdK (w := nI (4)) (aw_d q_Mo_bindTags 76 rfl) rfl (by (have hz := (hW.2.2.2 t ht).2; have hz1 := hW.1; omega)) rfl ((hP.2.2.2 t ht).1.trans (congrArg nI hk)) ?_
  refine aw_ifN_ne (tgt := 162) (aw_d q_Mo_bindTags 77 rfl) (by decide) (by (have hz := (hW.2.2.2 t ht).2; have hz1 := hW.1; omega)) (fun c147 => ?_) (fun c147 => by exfalso; (have hz := (hW.2.2.2 t ht).2; have hz1 := hW.1; omega))
  refine aw_aload_n (aw_d q_Mo_bindTags 83 rfl) rfl rfl rfl ?_
  refine aw_getf (aw_d q_Mo_bindTags 84 rfl) fL_Mo_19_Mo rfl rfl ?_
  refine aw_iload_n (aw_d q_Mo_bindTags 85 rfl) rfl rfl ?_
  refine aw_ialdK (w := nI (4)) (aw_d q_Mo_bindTags 86 rfl) rfl (by (have hz := (hW.2.2.2 t ht).2; have hz1 := hW.1; omega)) rfl ((hP.2.2.2 t ht).1.trans (congrArg nI hk)) ?_
  refine aw_iconst (v := nI 1) (aw_d q_Mo_bindTags 87 rfl) (by decide) ?_
  refine aw_icmpN_ne (tgt := 184) (aw_d q_Mo_bindTags 88 rfl) (by decide) (by (have hz := (hW.2.2.2 t ht).2; have hz1 := hW.1; omega)) (by (have hz := (hW.2.2.2 t ht).2; have hz1 := hW.1; omega)) (fun c169 => ?_) (fun c169 => by exfalso; (have hz := (hW.2.2.2 t ht).2; have hz1 := hW.1; omega))
  refine aw_aload_n (aw_d q_Mo_bindTags 94 rfl) rfl rfl rfl ?_
  refine aw_ldc2 (aw_d q_Mo_bindTags 95 rfl) lL_Mo_273 ?_
  refine aw_bipush (v := nI 8) (aw_d q_Mo_bindTags 96 rfl) (by decide) ?_
  refine cVv (aw_d q_Mo_bindTags 97 rfl) (sp_emit (by (try simp only [List.length_append, List.length_cons, List.length_nil, eB_len]); omega)) vL_Mo_141_Mo rfl rfl rfl rfl rfl rfl ⟨aw_le rfl, aw_le rfl⟩ ?_
  refine aw_aload_n (aw_d q_Mo_bindTags 98 rfl) rfl rfl rfl ?_
  refine aw_ldc2 (aw_d q_Mo_bindTags 99 rfl) lL_Mo_275 ?_
  refine aw_iconst (v := nI 2) (aw_d q_Mo_bindTags 100 rfl) (by decide) ?_
  refine cVv (aw_d q_Mo_bindTags 101 rfl) (sp_emit (by (try simp only [List.length_append, List.length_cons, List.length_nil, eB_len]); omega)) vL_Mo_141_Mo rfl rfl rfl rfl rfl rfl ⟨aw_le rfl, aw_le rfl⟩ ?_
  exact aw_vret (aw_d q_Mo_bindTags 102 rfl) rfl (⟨rfl, by simp [w_xt, hk, eb_34_0, eb_34_1, eb_34_2, eb_44_0, eb_44_1, eb_44_2, eb_62_1, eb_63_0, eb_63_1, eb_63_2, eb_91_1, eb_123_0, eb_123_1, eb_123_2, eb_8766_2, eb_11298_0, eb_11298_1, eb_11298_2, eb_11387_0, eb_11387_1, eb_11387_2, eb_14939_2, eb_24158_2, eb_24378_2, eb_26430_2, eb_27710_2, eb_2240318_3, eb_2243106_3, eb_6126973_3, eb_6634786_3, eb_6765858_3, eb_7433278_3, eb_7697001_3, eb_644314171_4, eb_644641851_4, eb_1684108389_4, eb_1919246700_4, eb_1953658213_4, eb_163799184187_5, eb_164843319355_5, eb_259668470078_5, eb_422759588965_5, eb_435426304570_5, eb_439721161573_5, eb_474176698914_5, eb_482733079074_5, eb_500136506472_5, eb_512853240933_5, eb_66174531561790_6, eb_66419075146814_6, eb_122511348035134_6, eb_9128563980975394_7, eb_16996725057414462_7, eb_30515246123868524_7, eb_2334097659363883376_8, eb_2339740318023049582_8, eb_2462380988100801893_8, eb_2466419133851988069_8, eb_3180214656604140665_8, eb_3180236698239528033_8, eb_4336793171144239470_8, eb_4336793192635852094_8, eb_4336793196931343713_8, eb_4336799750816022076_8, eb_4336804166361248353_8, eb_4336810746235415668_8, eb_4351156112845270631_8, eb_4352840508821617711_8, eb_4353970888399544684_8, eb_4355655336186377278_8, eb_4355948828431576126_8, eb_4356776833549689452_8, eb_6736589144075891573_8, eb_7286945561811696930_8, eb_7522525835761050223_8, eb_7597120025407222562_8, eb_7814997844241883746_8, eb_7943852967226007922_8, eb_8243121641139499838_8, eb_8304140937415647602_8, eb_8872769000508236346_8, eb_8872784376777351738_8, eb_8898316964945948524_8, tl_0, tl_1, tl_2, tl_3, tl_5, tl_6, tl_7, tl_8, tl_9, tl_10, tl_11, tl_12, tl_13, tl_14, tl_15, tl_16, tl_17, tl_18, tl_19, tl_20, tl_21, tl_22, tl_23, tl_24, tl_25, tl_26, tl_27, tl_28, tl_29, tl_30, tl_31, tl_32, tl_33, tl_34, tl_35, tl_36, tl_37, tl_38, tl_39, tl_40, tl_41, tl_42, tl_43, tl_44, tl_45, tl_46, tl_47, tl_48, tl_49, tl_50, tl_51, tl_52, tl_53, tl_54, tl_55, tl_56, tl_57, tl_58, tl_59]⟩)
theorem sp_Mo_bindTags {g : aw_G} {S : aw_S} {O : List Int32} {P : xp_T} (hP : xp_M S P) (hW : xp_wd P) {t : Nat} (ht : t < xp_t P) (hO : O.length + 1000 < 2147483648) : Sp g M_Mo_bindTags 3 69 0 0 [.ref 33, .int (nI t)] (HP (MS S O)) (fun r h => r = none ∧ h = HP (MS S (O ++ w_xt P t))) := by
  rcases (show xp_k P t = 0 ∨ xp_k P t = 1 ∨ xp_k P t = 2 ∨ xp_k P t = 3 ∨ xp_k P t = 4 by have := (hW.2.2.2 t ht).1; omega) with h | h | h | h | h
  · exact sp_Mo_bindTags_0 hP hW ht h hO
  · exact sp_Mo_bindTags_1 hP hW ht h hO
  · exact sp_Mo_bindTags_2 hP hW ht h hO
  · exact sp_Mo_bindTags_3 hP hW ht h hO
  · exact sp_Mo_bindTags_4 hP hW ht h hO
theorem w_q_k0 {P : xp_T} {t : Nat} (ho : xp_ok P t) (hk : xp_k P t = 0) : 0 < xp_l P t := by
  have h := ho.2.2.2.2.2.2
  simp only [okK] at h
  rw [if_pos hk, Bool.and_eq_true] at h
  exact of_decide_eq_true h.1
set_option maxRecDepth 20000 in
theorem lp_isQuoted_0 {g : aw_G} {S : aw_S} {O : List Int32} {P : xp_T} (hP : xp_M S P) (hW : xp_wd P) {t : Nat} (ht : t < xp_t P) (hk : xp_k P t = 0) {u3 : Int32} : ∀ (m k : Nat) (q : Bool) (x6 : Option Value), m + k = xp_l P t → w_qu P t = (q || !(allB (fun b => !(w_q1 b)) (xp_b P t) m k)) → AW g M_Mo_isQuoted (aw_rm 0 0 0 0) (aw_F g 0 0 (fun r1 h => r1 = some (.int (if w_qu P t = true then nI 1 else nI 0)) ∧ h = HP (MS S O))) 76 [some (.ref 33), some (.int (nI t)), some (.int (nI (xp_l P t))), some (.int u3), some (.int (if q = true then nI 1 else nI 0)), some (.int (nI k)), x6] [] (HP (MS S O)) 0 0 := by
  intro m
  induction m with
  | zero =>
    intro k q x6 hk2 e
    refine aw_iload (aw_d q_Mo_isQuoted 46 rfl) rfl ?_
    refine aw_iload_n (aw_d q_Mo_isQuoted 47 rfl) rfl rfl ?_
    refine aw_icmpN_ge (tgt := 142) (aw_d q_Mo_isQuoted 48 rfl) (by decide) (by (have hz := (hW.2.2.2 t ht).2; have hz1 := hW.1; omega)) (by (have hz := (hW.2.2.2 t ht).2; have hz1 := hW.1; omega)) (fun c79 => ?_) (fun c79 => by exfalso; (have hz := (hW.2.2.2 t ht).2; have hz1 := hW.1; omega))
    refine aw_aload_n (aw_d q_Mo_isQuoted 78 rfl) rfl rfl rfl ?_
    refine aw_getf (aw_d q_Mo_isQuoted 79 rfl) fL_Mo_19_Mo rfl rfl ?_
    refine aw_iload_n (aw_d q_Mo_isQuoted 80 rfl) rfl rfl ?_
    refine aw_ialdK (w := nI (0)) (aw_d q_Mo_isQuoted 81 rfl) rfl (by (have hz := (hW.2.2.2 t ht).2; have hz1 := hW.1; omega)) rfl ((hP.2.2.2 t ht).1.trans (congrArg nI hk)) ?_
    refine aw_iconst (v := nI 1) (aw_d q_Mo_isQuoted 82 rfl) (by decide) ?_
    refine aw_icmpN_eq (tgt := 161) (aw_d q_Mo_isQuoted 83 rfl) (by decide) (by (have hz := (hW.2.2.2 t ht).2; have hz1 := hW.1; omega)) (by (have hz := (hW.2.2.2 t ht).2; have hz1 := hW.1; omega)) (fun c149 => by exfalso; (have hz := (hW.2.2.2 t ht).2; have hz1 := hW.1; omega)) (fun c149 => ?_)
    refine aw_iload (aw_d q_Mo_isQuoted 84 rfl) rfl ?_
    refine aw_ifB_eq (tgt := 161) (aw_d q_Mo_isQuoted 85 rfl) (by decide) (fun c154 => ?_) (fun c154 => ?_)
    · refine aw_iconst (v := nI 0) (aw_d q_Mo_isQuoted 88 rfl) (by decide) ?_
      exact aw_zret (aw_d q_Mo_isQuoted 89 rfl) rfl (rfl) (⟨by simp only [allB] at e; first | (rw [if_neg (by rw [e]; simpa using c154)]; done) | (rw [if_pos (by rw [e, c154]; rfl)]; done), rfl⟩)
    · refine aw_iconst (v := nI 1) (aw_d q_Mo_isQuoted 86 rfl) (by decide) ?_
      refine aw_goto (tgt := 162) (aw_d q_Mo_isQuoted 87 rfl) (by decide) ?_
      exact aw_zret (aw_d q_Mo_isQuoted 89 rfl) rfl (rfl) (⟨by simp only [allB] at e; first | (rw [if_neg (by rw [e]; simpa using c154)]; done) | (rw [if_pos (by rw [e, c154]; rfl)]; done), rfl⟩)
  | succ m ih =>
    intro k q x6 hk2 e
    refine aw_iload (aw_d q_Mo_isQuoted 46 rfl) rfl ?_
    refine aw_iload_n (aw_d q_Mo_isQuoted 47 rfl) rfl rfl ?_
    refine aw_icmpN_ge (tgt := 142) (aw_d q_Mo_isQuoted 48 rfl) (by decide) (by (have hz := (hW.2.2.2 t ht).2; have hz1 := hW.1; omega)) (by (have hz := (hW.2.2.2 t ht).2; have hz1 := hW.1; omega)) (fun c79 => by exfalso; (have hz := (hW.2.2.2 t ht).2; have hz1 := hW.1; omega)) (fun c79 => ?_)
    refine aw_aload_n (aw_d q_Mo_isQuoted 49 rfl) rfl rfl rfl ?_
    refine aw_getf (aw_d q_Mo_isQuoted 50 rfl) fL_Mo_28_Mo rfl rfl ?_
    refine aw_bipush (v := nI 20) (aw_d q_Mo_isQuoted 51 rfl) (by decide) ?_
    refine aw_iload_n (aw_d q_Mo_isQuoted 52 rfl) rfl rfl ?_
    refine aw_imulN (aw_d q_Mo_isQuoted 53 rfl) ?_
    refine aw_iload (aw_d q_Mo_isQuoted 54 rfl) rfl ?_
    refine aw_iaddN (aw_d q_Mo_isQuoted 55 rfl) ?_
    refine aw_ialdK (w := (xp_b P t k)) (aw_d q_Mo_isQuoted 56 rfl) rfl (by (have hz := (hW.2.2.2 t ht).2; have hz1 := hW.1; omega)) rfl (by show S.2 40 (20 * t + k) = _; rw [Nat.mul_comm 20 t]; exact (hP.2.2.2 t ht).2.2.2 k (by omega)) ?_
    refine aw_istore (aw_d q_Mo_isQuoted 57 rfl) (aw_le rfl) rfl ?_
    refine aw_iload (aw_d q_Mo_isQuoted 58 rfl) rfl ?_
    refine aw_ifB_ne (tgt := 129) (aw_d q_Mo_isQuoted 59 rfl) (by decide) (fun c98 => ?_) (fun c98 => ?_)
    · refine aw_iconst (v := nI 1) (aw_d q_Mo_isQuoted 72 rfl) (by decide) ?_
      refine aw_goto (tgt := 134) (aw_d q_Mo_isQuoted 73 rfl) (by decide) ?_
      refine aw_istore (aw_d q_Mo_isQuoted 75 rfl) (aw_le rfl) rfl ?_
      refine aw_iinc (aw_d q_Mo_isQuoted 76 rfl) rfl (ii1 _) (aw_le rfl) rfl ?_
      refine aw_goto (tgt := 76) (aw_d q_Mo_isQuoted 77 rfl) (by decide) ?_
      exact AW.to (ih (k + 1) true _ (by omega) (by rw [e]; simp only [allB]; first | (rw [c98]; rfl) | (rw [show w_q1 (xp_b P t k) = true from decide_eq_true (by omega)]; cases q <;> rfl))) rfl rfl rfl rfl
    · refine aw_iload (aw_d q_Mo_isQuoted 60 rfl) rfl ?_
      refine aw_bipush (v := nI 44) (aw_d q_Mo_isQuoted 61 rfl) (by decide) ?_
      refine aw_icmpI_eq (tgt := 129) (aw_d q_Mo_isQuoted 62 rfl) (by decide) (by (have hz := (hW.2.2.2 t ht).2; have hz1 := hW.1; omega)) (fun c105 => ?_) (fun c105 => ?_)
      · refine aw_iconst (v := nI 1) (aw_d q_Mo_isQuoted 72 rfl) (by decide) ?_
        refine aw_goto (tgt := 134) (aw_d q_Mo_isQuoted 73 rfl) (by decide) ?_
        refine aw_istore (aw_d q_Mo_isQuoted 75 rfl) (aw_le rfl) rfl ?_
        refine aw_iinc (aw_d q_Mo_isQuoted 76 rfl) rfl (ii1 _) (aw_le rfl) rfl ?_
        refine aw_goto (tgt := 76) (aw_d q_Mo_isQuoted 77 rfl) (by decide) ?_
        exact AW.to (ih (k + 1) true _ (by omega) (by rw [e]; simp only [allB]; first | (rw [c98]; rfl) | (rw [show w_q1 (xp_b P t k) = true from decide_eq_true (by omega)]; cases q <;> rfl))) rfl rfl rfl rfl
      · refine aw_iload (aw_d q_Mo_isQuoted 63 rfl) rfl ?_
        refine aw_bipush (v := nI 34) (aw_d q_Mo_isQuoted 64 rfl) (by decide) ?_
        refine aw_icmpI_eq (tgt := 129) (aw_d q_Mo_isQuoted 65 rfl) (by decide) (by (have hz := (hW.2.2.2 t ht).2; have hz1 := hW.1; omega)) (fun c112 => ?_) (fun c112 => ?_)
        · refine aw_iconst (v := nI 1) (aw_d q_Mo_isQuoted 72 rfl) (by decide) ?_
          refine aw_goto (tgt := 134) (aw_d q_Mo_isQuoted 73 rfl) (by decide) ?_
          refine aw_istore (aw_d q_Mo_isQuoted 75 rfl) (aw_le rfl) rfl ?_
          refine aw_iinc (aw_d q_Mo_isQuoted 76 rfl) rfl (ii1 _) (aw_le rfl) rfl ?_
          refine aw_goto (tgt := 76) (aw_d q_Mo_isQuoted 77 rfl) (by decide) ?_
          exact AW.to (ih (k + 1) true _ (by omega) (by rw [e]; simp only [allB]; first | (rw [c98]; rfl) | (rw [show w_q1 (xp_b P t k) = true from decide_eq_true (by omega)]; cases q <;> rfl))) rfl rfl rfl rfl
        · refine aw_iload (aw_d q_Mo_isQuoted 66 rfl) rfl ?_
          refine aw_bipush (v := nI 10) (aw_d q_Mo_isQuoted 67 rfl) (by decide) ?_
          refine aw_icmpI_eq (tgt := 129) (aw_d q_Mo_isQuoted 68 rfl) (by decide) (by (have hz := (hW.2.2.2 t ht).2; have hz1 := hW.1; omega)) (fun c119 => ?_) (fun c119 => ?_)
          · refine aw_iconst (v := nI 1) (aw_d q_Mo_isQuoted 72 rfl) (by decide) ?_
            refine aw_goto (tgt := 134) (aw_d q_Mo_isQuoted 73 rfl) (by decide) ?_
            refine aw_istore (aw_d q_Mo_isQuoted 75 rfl) (aw_le rfl) rfl ?_
            refine aw_iinc (aw_d q_Mo_isQuoted 76 rfl) rfl (ii1 _) (aw_le rfl) rfl ?_
            refine aw_goto (tgt := 76) (aw_d q_Mo_isQuoted 77 rfl) (by decide) ?_
            exact AW.to (ih (k + 1) true _ (by omega) (by rw [e]; simp only [allB]; first | (rw [c98]; rfl) | (rw [show w_q1 (xp_b P t k) = true from decide_eq_true (by omega)]; cases q <;> rfl))) rfl rfl rfl rfl
          · refine aw_iload (aw_d q_Mo_isQuoted 69 rfl) rfl ?_
            refine aw_bipush (v := nI 13) (aw_d q_Mo_isQuoted 70 rfl) (by decide) ?_
            refine aw_icmpI_ne (tgt := 133) (aw_d q_Mo_isQuoted 71 rfl) (by decide) (by (have hz := (hW.2.2.2 t ht).2; have hz1 := hW.1; omega)) (fun c126 => ?_) (fun c126 => ?_)
            · refine aw_iconst (v := nI 0) (aw_d q_Mo_isQuoted 74 rfl) (by decide) ?_
              refine aw_istore (aw_d q_Mo_isQuoted 75 rfl) (aw_le rfl) rfl ?_
              refine aw_iinc (aw_d q_Mo_isQuoted 76 rfl) rfl (ii1 _) (aw_le rfl) rfl ?_
              refine aw_goto (tgt := 76) (aw_d q_Mo_isQuoted 77 rfl) (by decide) ?_
              exact AW.to (ih (k + 1) false _ (by omega) (by rw [e]; simp only [allB]; rw [show q = false from by simpa using c98, show w_q1 (xp_b P t k) = false from decide_eq_false (by omega)]; rfl)) rfl rfl rfl rfl
            · refine aw_iconst (v := nI 1) (aw_d q_Mo_isQuoted 72 rfl) (by decide) ?_
              refine aw_goto (tgt := 134) (aw_d q_Mo_isQuoted 73 rfl) (by decide) ?_
              refine aw_istore (aw_d q_Mo_isQuoted 75 rfl) (aw_le rfl) rfl ?_
              refine aw_iinc (aw_d q_Mo_isQuoted 76 rfl) rfl (ii1 _) (aw_le rfl) rfl ?_
              refine aw_goto (tgt := 76) (aw_d q_Mo_isQuoted 77 rfl) (by decide) ?_
              exact AW.to (ih (k + 1) true _ (by omega) (by rw [e]; simp only [allB]; first | (rw [c98]; rfl) | (rw [show w_q1 (xp_b P t k) = true from decide_eq_true (by omega)]; cases q <;> rfl))) rfl rfl rfl rfl
set_option maxRecDepth 20000 in
theorem sp_isQuoted_0 {g : aw_G} {S : aw_S} {O : List Int32} {P : xp_T} (hP : xp_M S P) (hW : xp_wd P) {t : Nat} (ht : t < xp_t P) (hk : xp_k P t = 0) : Sp g M_Mo_isQuoted 0 0 0 0 [.ref 33, .int (nI t)] (HP (MS S O)) (fun r1 h => r1 = some (.int (if w_qu P t = true then nI 1 else nI 0)) ∧ h = HP (MS S O)) := by
  refine Sp.of rfl (aw_le rfl) ?_
  have hk0 := w_q_k0 (hW.2.2.2 t ht) hk
  refine aw_aload_n (aw_d q_Mo_isQuoted 0 rfl) rfl rfl rfl ?_
  refine aw_getf (aw_d q_Mo_isQuoted 1 rfl) fL_Mo_25_Mo rfl rfl ?_
  refine aw_iload_n (aw_d q_Mo_isQuoted 2 rfl) rfl rfl ?_
  refine aw_ialdK (w := nI (xp_l P t)) (aw_d q_Mo_isQuoted 3 rfl) rfl (by (have hz := (hW.2.2.2 t ht).2; have hz1 := hW.1; omega)) rfl ((hP.2.2.2 t ht).2.2.1) ?_
  refine aw_istore_n (aw_d q_Mo_isQuoted 4 rfl) rfl (aw_le rfl) rfl ?_
  refine aw_iload_n (aw_d q_Mo_isQuoted 5 rfl) rfl rfl ?_
  refine aw_iconst (v := nI 1) (aw_d q_Mo_isQuoted 6 rfl) (by decide) ?_
  refine aw_icmpN_le (tgt := 46) (aw_d q_Mo_isQuoted 7 rfl) (by decide) (by (have hz := (hW.2.2.2 t ht).2; have hz1 := hW.1; omega)) (by (have hz := (hW.2.2.2 t ht).2; have hz1 := hW.1; omega)) (fun c9 => ?_) (fun c9 => ?_)
  · refine aw_iconst (v := nI 0) (aw_d q_Mo_isQuoted 28 rfl) (by decide) ?_
    refine aw_istore_n (aw_d q_Mo_isQuoted 29 rfl) rfl (aw_le rfl) rfl ?_
    refine aw_iload_n (aw_d q_Mo_isQuoted 30 rfl) rfl rfl ?_
    refine aw_ifN_ne (tgt := 66) (aw_d q_Mo_isQuoted 31 rfl) (by decide) (by (have hz := (hW.2.2.2 t ht).2; have hz1 := hW.1; omega)) (fun c49 => by exfalso; (have hz := (hW.2.2.2 t ht).2; have hz1 := hW.1; omega)) (fun c49 => ?_)
    refine aw_aload_n (aw_d q_Mo_isQuoted 32 rfl) rfl rfl rfl ?_
    refine aw_getf (aw_d q_Mo_isQuoted 33 rfl) fL_Mo_19_Mo rfl rfl ?_
    refine aw_iload_n (aw_d q_Mo_isQuoted 34 rfl) rfl rfl ?_
    refine aw_ialdK (w := nI (0)) (aw_d q_Mo_isQuoted 35 rfl) rfl (by (have hz := (hW.2.2.2 t ht).2; have hz1 := hW.1; omega)) rfl ((hP.2.2.2 t ht).1.trans (congrArg nI hk)) ?_
    refine aw_iconst (v := nI 1) (aw_d q_Mo_isQuoted 36 rfl) (by decide) ?_
    refine aw_icmpN_le (tgt := 70) (aw_d q_Mo_isQuoted 37 rfl) (by decide) (by (have hz := (hW.2.2.2 t ht).2; have hz1 := hW.1; omega)) (by (have hz := (hW.2.2.2 t ht).2; have hz1 := hW.1; omega)) (fun c59 => ?_) (fun c59 => by exfalso; (have hz := (hW.2.2.2 t ht).2; have hz1 := hW.1; omega))
    refine aw_iconst (v := nI 0) (aw_d q_Mo_isQuoted 42 rfl) (by decide) ?_
    refine aw_istore (aw_d q_Mo_isQuoted 43 rfl) (aw_le rfl) rfl ?_
    refine aw_iconst (v := nI 0) (aw_d q_Mo_isQuoted 44 rfl) (by decide) ?_
    refine aw_istore (aw_d q_Mo_isQuoted 45 rfl) (aw_le rfl) rfl ?_
    exact AW.to (lp_isQuoted_0 hP hW ht hk (xp_l P t) 0 false _ (by omega) (by rw [w_qu_lp (by omega) (fun q => by omega)]; rfl)) rfl rfl rfl rfl
  · refine aw_aload_n (aw_d q_Mo_isQuoted 8 rfl) rfl rfl rfl ?_
    refine aw_getf (aw_d q_Mo_isQuoted 9 rfl) fL_Mo_28_Mo rfl rfl ?_
    refine aw_bipush (v := nI 20) (aw_d q_Mo_isQuoted 10 rfl) (by decide) ?_
    refine aw_iload_n (aw_d q_Mo_isQuoted 11 rfl) rfl rfl ?_
    refine aw_imulN (aw_d q_Mo_isQuoted 12 rfl) ?_
    refine aw_ialdK (w := (xp_b P t 0)) (aw_d q_Mo_isQuoted 13 rfl) rfl (by (have hz := (hW.2.2.2 t ht).2; have hz1 := hW.1; omega)) rfl (by show S.2 40 (20 * t) = _; rw [Nat.mul_comm 20 t]; exact (hP.2.2.2 t ht).2.2.2 0 (by omega)) ?_
    refine aw_bipush (v := nI 95) (aw_d q_Mo_isQuoted 14 rfl) (by decide) ?_
    refine aw_icmpI_ne (tgt := 46) (aw_d q_Mo_isQuoted 15 rfl) (by decide) (by (have hz := (hW.2.2.2 t ht).2; have hz1 := hW.1; omega)) (fun c23 => ?_) (fun c23 => ?_)
    · refine aw_iconst (v := nI 0) (aw_d q_Mo_isQuoted 28 rfl) (by decide) ?_
      refine aw_istore_n (aw_d q_Mo_isQuoted 29 rfl) rfl (aw_le rfl) rfl ?_
      refine aw_iload_n (aw_d q_Mo_isQuoted 30 rfl) rfl rfl ?_
      refine aw_ifN_ne (tgt := 66) (aw_d q_Mo_isQuoted 31 rfl) (by decide) (by (have hz := (hW.2.2.2 t ht).2; have hz1 := hW.1; omega)) (fun c49 => by exfalso; (have hz := (hW.2.2.2 t ht).2; have hz1 := hW.1; omega)) (fun c49 => ?_)
      refine aw_aload_n (aw_d q_Mo_isQuoted 32 rfl) rfl rfl rfl ?_
      refine aw_getf (aw_d q_Mo_isQuoted 33 rfl) fL_Mo_19_Mo rfl rfl ?_
      refine aw_iload_n (aw_d q_Mo_isQuoted 34 rfl) rfl rfl ?_
      refine aw_ialdK (w := nI (0)) (aw_d q_Mo_isQuoted 35 rfl) rfl (by (have hz := (hW.2.2.2 t ht).2; have hz1 := hW.1; omega)) rfl ((hP.2.2.2 t ht).1.trans (congrArg nI hk)) ?_
      refine aw_iconst (v := nI 1) (aw_d q_Mo_isQuoted 36 rfl) (by decide) ?_
      refine aw_icmpN_le (tgt := 70) (aw_d q_Mo_isQuoted 37 rfl) (by decide) (by (have hz := (hW.2.2.2 t ht).2; have hz1 := hW.1; omega)) (by (have hz := (hW.2.2.2 t ht).2; have hz1 := hW.1; omega)) (fun c59 => ?_) (fun c59 => by exfalso; (have hz := (hW.2.2.2 t ht).2; have hz1 := hW.1; omega))
      refine aw_iconst (v := nI 0) (aw_d q_Mo_isQuoted 42 rfl) (by decide) ?_
      refine aw_istore (aw_d q_Mo_isQuoted 43 rfl) (aw_le rfl) rfl ?_
      refine aw_iconst (v := nI 0) (aw_d q_Mo_isQuoted 44 rfl) (by decide) ?_
      refine aw_istore (aw_d q_Mo_isQuoted 45 rfl) (aw_le rfl) rfl ?_
      exact AW.to (lp_isQuoted_0 hP hW ht hk (xp_l P t) 0 false _ (by omega) (by rw [w_qu_lp (by omega) (fun q => by omega)]; rfl)) rfl rfl rfl rfl
    · refine aw_aload_n (aw_d q_Mo_isQuoted 16 rfl) rfl rfl rfl ?_
      refine aw_getf (aw_d q_Mo_isQuoted 17 rfl) fL_Mo_28_Mo rfl rfl ?_
      refine aw_bipush (v := nI 20) (aw_d q_Mo_isQuoted 18 rfl) (by decide) ?_
      refine aw_iload_n (aw_d q_Mo_isQuoted 19 rfl) rfl rfl ?_
      refine aw_imulN (aw_d q_Mo_isQuoted 20 rfl) ?_
      refine aw_iconst (v := nI 1) (aw_d q_Mo_isQuoted 21 rfl) (by decide) ?_
      refine aw_iaddN (aw_d q_Mo_isQuoted 22 rfl) ?_
      refine aw_ialdK (w := (xp_b P t 1)) (aw_d q_Mo_isQuoted 23 rfl) rfl (by (have hz := (hW.2.2.2 t ht).2; have hz1 := hW.1; omega)) rfl (by show S.2 40 (20 * t + 1) = _; rw [Nat.mul_comm 20 t]; exact (hP.2.2.2 t ht).2.2.2 1 (by omega)) ?_
      refine aw_bipush (v := nI 58) (aw_d q_Mo_isQuoted 24 rfl) (by decide) ?_
      refine aw_icmpI_ne (tgt := 46) (aw_d q_Mo_isQuoted 25 rfl) (by decide) (by (have hz := (hW.2.2.2 t ht).2; have hz1 := hW.1; omega)) (fun c39 => ?_) (fun c39 => ?_)
      · refine aw_iconst (v := nI 0) (aw_d q_Mo_isQuoted 28 rfl) (by decide) ?_
        refine aw_istore_n (aw_d q_Mo_isQuoted 29 rfl) rfl (aw_le rfl) rfl ?_
        refine aw_iload_n (aw_d q_Mo_isQuoted 30 rfl) rfl rfl ?_
        refine aw_ifN_ne (tgt := 66) (aw_d q_Mo_isQuoted 31 rfl) (by decide) (by (have hz := (hW.2.2.2 t ht).2; have hz1 := hW.1; omega)) (fun c49 => by exfalso; (have hz := (hW.2.2.2 t ht).2; have hz1 := hW.1; omega)) (fun c49 => ?_)
        refine aw_aload_n (aw_d q_Mo_isQuoted 32 rfl) rfl rfl rfl ?_
        refine aw_getf (aw_d q_Mo_isQuoted 33 rfl) fL_Mo_19_Mo rfl rfl ?_
        refine aw_iload_n (aw_d q_Mo_isQuoted 34 rfl) rfl rfl ?_
        refine aw_ialdK (w := nI (0)) (aw_d q_Mo_isQuoted 35 rfl) rfl (by (have hz := (hW.2.2.2 t ht).2; have hz1 := hW.1; omega)) rfl ((hP.2.2.2 t ht).1.trans (congrArg nI hk)) ?_
        refine aw_iconst (v := nI 1) (aw_d q_Mo_isQuoted 36 rfl) (by decide) ?_
        refine aw_icmpN_le (tgt := 70) (aw_d q_Mo_isQuoted 37 rfl) (by decide) (by (have hz := (hW.2.2.2 t ht).2; have hz1 := hW.1; omega)) (by (have hz := (hW.2.2.2 t ht).2; have hz1 := hW.1; omega)) (fun c59 => ?_) (fun c59 => by exfalso; (have hz := (hW.2.2.2 t ht).2; have hz1 := hW.1; omega))
        refine aw_iconst (v := nI 0) (aw_d q_Mo_isQuoted 42 rfl) (by decide) ?_
        refine aw_istore (aw_d q_Mo_isQuoted 43 rfl) (aw_le rfl) rfl ?_
        refine aw_iconst (v := nI 0) (aw_d q_Mo_isQuoted 44 rfl) (by decide) ?_
        refine aw_istore (aw_d q_Mo_isQuoted 45 rfl) (aw_le rfl) rfl ?_
        exact AW.to (lp_isQuoted_0 hP hW ht hk (xp_l P t) 0 false _ (by omega) (by rw [w_qu_lp (by omega) (fun q => by omega)]; rfl)) rfl rfl rfl rfl
      · refine aw_iconst (v := nI 1) (aw_d q_Mo_isQuoted 26 rfl) (by decide) ?_
        refine aw_goto (tgt := 47) (aw_d q_Mo_isQuoted 27 rfl) (by decide) ?_
        refine aw_istore_n (aw_d q_Mo_isQuoted 29 rfl) rfl (aw_le rfl) rfl ?_
        refine aw_iload_n (aw_d q_Mo_isQuoted 30 rfl) rfl rfl ?_
        refine aw_ifN_ne (tgt := 66) (aw_d q_Mo_isQuoted 31 rfl) (by decide) (by (have hz := (hW.2.2.2 t ht).2; have hz1 := hW.1; omega)) (fun c49 => ?_) (fun c49 => by exfalso; (have hz := (hW.2.2.2 t ht).2; have hz1 := hW.1; omega))
        refine aw_iconst (v := nI 1) (aw_d q_Mo_isQuoted 40 rfl) (by decide) ?_
        refine aw_goto (tgt := 71) (aw_d q_Mo_isQuoted 41 rfl) (by decide) ?_
        refine aw_istore (aw_d q_Mo_isQuoted 43 rfl) (aw_le rfl) rfl ?_
        refine aw_iconst (v := nI 0) (aw_d q_Mo_isQuoted 44 rfl) (by decide) ?_
        refine aw_istore (aw_d q_Mo_isQuoted 45 rfl) (aw_le rfl) rfl ?_
        exact AW.to (lp_isQuoted_0 hP hW ht hk (xp_l P t) 0 true _ (by omega) (by rw [show w_qu P t = true from by first | (refine w_qu_2 ⟨?_, ?_, ?_⟩ <;> omega; done) | (refine w_qu_1 ?_; omega; done)]; rfl)) rfl rfl rfl rfl
set_option maxRecDepth 20000 in
theorem lp_isQuoted_1 {g : aw_G} {S : aw_S} {O : List Int32} {P : xp_T} (hP : xp_M S P) (hW : xp_wd P) {t : Nat} (ht : t < xp_t P) (hk : xp_k P t = 1) {u3 : Int32} : ∀ (m k : Nat) (q : Bool) (x6 : Option Value), m + k = xp_l P t → AW g M_Mo_isQuoted (aw_rm 0 0 0 0) (aw_F g 0 0 (fun r1 h => r1 = some (.int (nI 0)) ∧ h = HP (MS S O))) 76 [some (.ref 33), some (.int (nI t)), some (.int (nI (xp_l P t))), some (.int u3), some (.int (if q = true then nI 1 else nI 0)), some (.int (nI k)), x6] [] (HP (MS S O)) 0 0 := by
  intro m
  induction m with
  | zero =>
    intro k q x6 hk2
    refine aw_iload (aw_d q_Mo_isQuoted 46 rfl) rfl ?_
    refine aw_iload_n (aw_d q_Mo_isQuoted 47 rfl) rfl rfl ?_
    refine aw_icmpN_ge (tgt := 142) (aw_d q_Mo_isQuoted 48 rfl) (by decide) (by (have hz := (hW.2.2.2 t ht).2; have hz1 := hW.1; omega)) (by (have hz := (hW.2.2.2 t ht).2; have hz1 := hW.1; omega)) (fun c79 => ?_) (fun c79 => by exfalso; (have hz := (hW.2.2.2 t ht).2; have hz1 := hW.1; omega))
    refine aw_aload_n (aw_d q_Mo_isQuoted 78 rfl) rfl rfl rfl ?_
    refine aw_getf (aw_d q_Mo_isQuoted 79 rfl) fL_Mo_19_Mo rfl rfl ?_
    refine aw_iload_n (aw_d q_Mo_isQuoted 80 rfl) rfl rfl ?_
    refine aw_ialdK (w := nI (1)) (aw_d q_Mo_isQuoted 81 rfl) rfl (by (have hz := (hW.2.2.2 t ht).2; have hz1 := hW.1; omega)) rfl ((hP.2.2.2 t ht).1.trans (congrArg nI hk)) ?_
    refine aw_iconst (v := nI 1) (aw_d q_Mo_isQuoted 82 rfl) (by decide) ?_
    refine aw_icmpN_eq (tgt := 161) (aw_d q_Mo_isQuoted 83 rfl) (by decide) (by (have hz := (hW.2.2.2 t ht).2; have hz1 := hW.1; omega)) (by (have hz := (hW.2.2.2 t ht).2; have hz1 := hW.1; omega)) (fun c149 => ?_) (fun c149 => by exfalso; (have hz := (hW.2.2.2 t ht).2; have hz1 := hW.1; omega))
    refine aw_iconst (v := nI 0) (aw_d q_Mo_isQuoted 88 rfl) (by decide) ?_
    exact aw_zret (aw_d q_Mo_isQuoted 89 rfl) rfl (rfl) (⟨by rfl, rfl⟩)
  | succ m ih =>
    intro k q x6 hk2
    refine aw_iload (aw_d q_Mo_isQuoted 46 rfl) rfl ?_
    refine aw_iload_n (aw_d q_Mo_isQuoted 47 rfl) rfl rfl ?_
    refine aw_icmpN_ge (tgt := 142) (aw_d q_Mo_isQuoted 48 rfl) (by decide) (by (have hz := (hW.2.2.2 t ht).2; have hz1 := hW.1; omega)) (by (have hz := (hW.2.2.2 t ht).2; have hz1 := hW.1; omega)) (fun c79 => by exfalso; (have hz := (hW.2.2.2 t ht).2; have hz1 := hW.1; omega)) (fun c79 => ?_)
    refine aw_aload_n (aw_d q_Mo_isQuoted 49 rfl) rfl rfl rfl ?_
    refine aw_getf (aw_d q_Mo_isQuoted 50 rfl) fL_Mo_28_Mo rfl rfl ?_
    refine aw_bipush (v := nI 20) (aw_d q_Mo_isQuoted 51 rfl) (by decide) ?_
    refine aw_iload_n (aw_d q_Mo_isQuoted 52 rfl) rfl rfl ?_
    refine aw_imulN (aw_d q_Mo_isQuoted 53 rfl) ?_
    refine aw_iload (aw_d q_Mo_isQuoted 54 rfl) rfl ?_
    refine aw_iaddN (aw_d q_Mo_isQuoted 55 rfl) ?_
    refine aw_ialdK (w := (xp_b P t k)) (aw_d q_Mo_isQuoted 56 rfl) rfl (by (have hz := (hW.2.2.2 t ht).2; have hz1 := hW.1; omega)) rfl (by show S.2 40 (20 * t + k) = _; rw [Nat.mul_comm 20 t]; exact (hP.2.2.2 t ht).2.2.2 k (by omega)) ?_
    refine aw_istore (aw_d q_Mo_isQuoted 57 rfl) (aw_le rfl) rfl ?_
    refine aw_iload (aw_d q_Mo_isQuoted 58 rfl) rfl ?_
    refine aw_ifB_ne (tgt := 129) (aw_d q_Mo_isQuoted 59 rfl) (by decide) (fun c98 => ?_) (fun c98 => ?_)
    · refine aw_iconst (v := nI 1) (aw_d q_Mo_isQuoted 72 rfl) (by decide) ?_
      refine aw_goto (tgt := 134) (aw_d q_Mo_isQuoted 73 rfl) (by decide) ?_
      refine aw_istore (aw_d q_Mo_isQuoted 75 rfl) (aw_le rfl) rfl ?_
      refine aw_iinc (aw_d q_Mo_isQuoted 76 rfl) rfl (ii1 _) (aw_le rfl) rfl ?_
      refine aw_goto (tgt := 76) (aw_d q_Mo_isQuoted 77 rfl) (by decide) ?_
      exact AW.to (ih (k + 1) true _ (by omega)) rfl rfl rfl rfl
    · refine aw_iload (aw_d q_Mo_isQuoted 60 rfl) rfl ?_
      refine aw_bipush (v := nI 44) (aw_d q_Mo_isQuoted 61 rfl) (by decide) ?_
      refine aw_icmpI_eq (tgt := 129) (aw_d q_Mo_isQuoted 62 rfl) (by decide) (by (have hz := (hW.2.2.2 t ht).2; have hz1 := hW.1; omega)) (fun c105 => ?_) (fun c105 => ?_)
      · refine aw_iconst (v := nI 1) (aw_d q_Mo_isQuoted 72 rfl) (by decide) ?_
        refine aw_goto (tgt := 134) (aw_d q_Mo_isQuoted 73 rfl) (by decide) ?_
        refine aw_istore (aw_d q_Mo_isQuoted 75 rfl) (aw_le rfl) rfl ?_
        refine aw_iinc (aw_d q_Mo_isQuoted 76 rfl) rfl (ii1 _) (aw_le rfl) rfl ?_
        refine aw_goto (tgt := 76) (aw_d q_Mo_isQuoted 77 rfl) (by decide) ?_
        exact AW.to (ih (k + 1) true _ (by omega)) rfl rfl rfl rfl
      · refine aw_iload (aw_d q_Mo_isQuoted 63 rfl) rfl ?_
        refine aw_bipush (v := nI 34) (aw_d q_Mo_isQuoted 64 rfl) (by decide) ?_
        refine aw_icmpI_eq (tgt := 129) (aw_d q_Mo_isQuoted 65 rfl) (by decide) (by (have hz := (hW.2.2.2 t ht).2; have hz1 := hW.1; omega)) (fun c112 => ?_) (fun c112 => ?_)
        · refine aw_iconst (v := nI 1) (aw_d q_Mo_isQuoted 72 rfl) (by decide) ?_
          refine aw_goto (tgt := 134) (aw_d q_Mo_isQuoted 73 rfl) (by decide) ?_
          refine aw_istore (aw_d q_Mo_isQuoted 75 rfl) (aw_le rfl) rfl ?_
          refine aw_iinc (aw_d q_Mo_isQuoted 76 rfl) rfl (ii1 _) (aw_le rfl) rfl ?_
          refine aw_goto (tgt := 76) (aw_d q_Mo_isQuoted 77 rfl) (by decide) ?_
          exact AW.to (ih (k + 1) true _ (by omega)) rfl rfl rfl rfl
        · refine aw_iload (aw_d q_Mo_isQuoted 66 rfl) rfl ?_
          refine aw_bipush (v := nI 10) (aw_d q_Mo_isQuoted 67 rfl) (by decide) ?_
          refine aw_icmpI_eq (tgt := 129) (aw_d q_Mo_isQuoted 68 rfl) (by decide) (by (have hz := (hW.2.2.2 t ht).2; have hz1 := hW.1; omega)) (fun c119 => ?_) (fun c119 => ?_)
          · refine aw_iconst (v := nI 1) (aw_d q_Mo_isQuoted 72 rfl) (by decide) ?_
            refine aw_goto (tgt := 134) (aw_d q_Mo_isQuoted 73 rfl) (by decide) ?_
            refine aw_istore (aw_d q_Mo_isQuoted 75 rfl) (aw_le rfl) rfl ?_
            refine aw_iinc (aw_d q_Mo_isQuoted 76 rfl) rfl (ii1 _) (aw_le rfl) rfl ?_
            refine aw_goto (tgt := 76) (aw_d q_Mo_isQuoted 77 rfl) (by decide) ?_
            exact AW.to (ih (k + 1) true _ (by omega)) rfl rfl rfl rfl
          · refine aw_iload (aw_d q_Mo_isQuoted 69 rfl) rfl ?_
            refine aw_bipush (v := nI 13) (aw_d q_Mo_isQuoted 70 rfl) (by decide) ?_
            refine aw_icmpI_ne (tgt := 133) (aw_d q_Mo_isQuoted 71 rfl) (by decide) (by (have hz := (hW.2.2.2 t ht).2; have hz1 := hW.1; omega)) (fun c126 => ?_) (fun c126 => ?_)
            · refine aw_iconst (v := nI 0) (aw_d q_Mo_isQuoted 74 rfl) (by decide) ?_
              refine aw_istore (aw_d q_Mo_isQuoted 75 rfl) (aw_le rfl) rfl ?_
              refine aw_iinc (aw_d q_Mo_isQuoted 76 rfl) rfl (ii1 _) (aw_le rfl) rfl ?_
              refine aw_goto (tgt := 76) (aw_d q_Mo_isQuoted 77 rfl) (by decide) ?_
              exact AW.to (ih (k + 1) false _ (by omega)) rfl rfl rfl rfl
            · refine aw_iconst (v := nI 1) (aw_d q_Mo_isQuoted 72 rfl) (by decide) ?_
              refine aw_goto (tgt := 134) (aw_d q_Mo_isQuoted 73 rfl) (by decide) ?_
              refine aw_istore (aw_d q_Mo_isQuoted 75 rfl) (aw_le rfl) rfl ?_
              refine aw_iinc (aw_d q_Mo_isQuoted 76 rfl) rfl (ii1 _) (aw_le rfl) rfl ?_
              refine aw_goto (tgt := 76) (aw_d q_Mo_isQuoted 77 rfl) (by decide) ?_
              exact AW.to (ih (k + 1) true _ (by omega)) rfl rfl rfl rfl
set_option maxRecDepth 20000 in
theorem sp_isQuoted_1 {g : aw_G} {S : aw_S} {O : List Int32} {P : xp_T} (hP : xp_M S P) (hW : xp_wd P) {t : Nat} (ht : t < xp_t P) (hk : xp_k P t = 1) : Sp g M_Mo_isQuoted 0 0 0 0 [.ref 33, .int (nI t)] (HP (MS S O)) (fun r1 h => r1 = some (.int (nI 0)) ∧ h = HP (MS S O)) := by
  refine Sp.of rfl (aw_le rfl) ?_
  refine aw_aload_n (aw_d q_Mo_isQuoted 0 rfl) rfl rfl rfl ?_
  refine aw_getf (aw_d q_Mo_isQuoted 1 rfl) fL_Mo_25_Mo rfl rfl ?_
  refine aw_iload_n (aw_d q_Mo_isQuoted 2 rfl) rfl rfl ?_
  refine aw_ialdK (w := nI (xp_l P t)) (aw_d q_Mo_isQuoted 3 rfl) rfl (by (have hz := (hW.2.2.2 t ht).2; have hz1 := hW.1; omega)) rfl ((hP.2.2.2 t ht).2.2.1) ?_
  refine aw_istore_n (aw_d q_Mo_isQuoted 4 rfl) rfl (aw_le rfl) rfl ?_
  refine aw_iload_n (aw_d q_Mo_isQuoted 5 rfl) rfl rfl ?_
  refine aw_iconst (v := nI 1) (aw_d q_Mo_isQuoted 6 rfl) (by decide) ?_
  refine aw_icmpN_le (tgt := 46) (aw_d q_Mo_isQuoted 7 rfl) (by decide) (by (have hz := (hW.2.2.2 t ht).2; have hz1 := hW.1; omega)) (by (have hz := (hW.2.2.2 t ht).2; have hz1 := hW.1; omega)) (fun c9 => ?_) (fun c9 => ?_)
  · refine aw_iconst (v := nI 0) (aw_d q_Mo_isQuoted 28 rfl) (by decide) ?_
    refine aw_istore_n (aw_d q_Mo_isQuoted 29 rfl) rfl (aw_le rfl) rfl ?_
    refine aw_iload_n (aw_d q_Mo_isQuoted 30 rfl) rfl rfl ?_
    refine aw_ifN_ne (tgt := 66) (aw_d q_Mo_isQuoted 31 rfl) (by decide) (by (have hz := (hW.2.2.2 t ht).2; have hz1 := hW.1; omega)) (fun c49 => by exfalso; (have hz := (hW.2.2.2 t ht).2; have hz1 := hW.1; omega)) (fun c49 => ?_)
    refine aw_aload_n (aw_d q_Mo_isQuoted 32 rfl) rfl rfl rfl ?_
    refine aw_getf (aw_d q_Mo_isQuoted 33 rfl) fL_Mo_19_Mo rfl rfl ?_
    refine aw_iload_n (aw_d q_Mo_isQuoted 34 rfl) rfl rfl ?_
    refine aw_ialdK (w := nI (1)) (aw_d q_Mo_isQuoted 35 rfl) rfl (by (have hz := (hW.2.2.2 t ht).2; have hz1 := hW.1; omega)) rfl ((hP.2.2.2 t ht).1.trans (congrArg nI hk)) ?_
    refine aw_iconst (v := nI 1) (aw_d q_Mo_isQuoted 36 rfl) (by decide) ?_
    refine aw_icmpN_le (tgt := 70) (aw_d q_Mo_isQuoted 37 rfl) (by decide) (by (have hz := (hW.2.2.2 t ht).2; have hz1 := hW.1; omega)) (by (have hz := (hW.2.2.2 t ht).2; have hz1 := hW.1; omega)) (fun c59 => ?_) (fun c59 => by exfalso; (have hz := (hW.2.2.2 t ht).2; have hz1 := hW.1; omega))
    refine aw_iconst (v := nI 0) (aw_d q_Mo_isQuoted 42 rfl) (by decide) ?_
    refine aw_istore (aw_d q_Mo_isQuoted 43 rfl) (aw_le rfl) rfl ?_
    refine aw_iconst (v := nI 0) (aw_d q_Mo_isQuoted 44 rfl) (by decide) ?_
    refine aw_istore (aw_d q_Mo_isQuoted 45 rfl) (aw_le rfl) rfl ?_
    exact AW.to (lp_isQuoted_1 hP hW ht hk (xp_l P t) 0 false _ (by omega)) rfl rfl rfl rfl
  · refine aw_aload_n (aw_d q_Mo_isQuoted 8 rfl) rfl rfl rfl ?_
    refine aw_getf (aw_d q_Mo_isQuoted 9 rfl) fL_Mo_28_Mo rfl rfl ?_
    refine aw_bipush (v := nI 20) (aw_d q_Mo_isQuoted 10 rfl) (by decide) ?_
    refine aw_iload_n (aw_d q_Mo_isQuoted 11 rfl) rfl rfl ?_
    refine aw_imulN (aw_d q_Mo_isQuoted 12 rfl) ?_
    refine aw_ialdK (w := (xp_b P t 0)) (aw_d q_Mo_isQuoted 13 rfl) rfl (by (have hz := (hW.2.2.2 t ht).2; have hz1 := hW.1; omega)) rfl (by show S.2 40 (20 * t) = _; rw [Nat.mul_comm 20 t]; exact (hP.2.2.2 t ht).2.2.2 0 (by omega)) ?_
    refine aw_bipush (v := nI 95) (aw_d q_Mo_isQuoted 14 rfl) (by decide) ?_
    refine aw_icmpI_ne (tgt := 46) (aw_d q_Mo_isQuoted 15 rfl) (by decide) (by (have hz := (hW.2.2.2 t ht).2; have hz1 := hW.1; omega)) (fun c23 => ?_) (fun c23 => ?_)
    · refine aw_iconst (v := nI 0) (aw_d q_Mo_isQuoted 28 rfl) (by decide) ?_
      refine aw_istore_n (aw_d q_Mo_isQuoted 29 rfl) rfl (aw_le rfl) rfl ?_
      refine aw_iload_n (aw_d q_Mo_isQuoted 30 rfl) rfl rfl ?_
      refine aw_ifN_ne (tgt := 66) (aw_d q_Mo_isQuoted 31 rfl) (by decide) (by (have hz := (hW.2.2.2 t ht).2; have hz1 := hW.1; omega)) (fun c49 => by exfalso; (have hz := (hW.2.2.2 t ht).2; have hz1 := hW.1; omega)) (fun c49 => ?_)
      refine aw_aload_n (aw_d q_Mo_isQuoted 32 rfl) rfl rfl rfl ?_
      refine aw_getf (aw_d q_Mo_isQuoted 33 rfl) fL_Mo_19_Mo rfl rfl ?_
      refine aw_iload_n (aw_d q_Mo_isQuoted 34 rfl) rfl rfl ?_
      refine aw_ialdK (w := nI (1)) (aw_d q_Mo_isQuoted 35 rfl) rfl (by (have hz := (hW.2.2.2 t ht).2; have hz1 := hW.1; omega)) rfl ((hP.2.2.2 t ht).1.trans (congrArg nI hk)) ?_
      refine aw_iconst (v := nI 1) (aw_d q_Mo_isQuoted 36 rfl) (by decide) ?_
      refine aw_icmpN_le (tgt := 70) (aw_d q_Mo_isQuoted 37 rfl) (by decide) (by (have hz := (hW.2.2.2 t ht).2; have hz1 := hW.1; omega)) (by (have hz := (hW.2.2.2 t ht).2; have hz1 := hW.1; omega)) (fun c59 => ?_) (fun c59 => by exfalso; (have hz := (hW.2.2.2 t ht).2; have hz1 := hW.1; omega))
      refine aw_iconst (v := nI 0) (aw_d q_Mo_isQuoted 42 rfl) (by decide) ?_
      refine aw_istore (aw_d q_Mo_isQuoted 43 rfl) (aw_le rfl) rfl ?_
      refine aw_iconst (v := nI 0) (aw_d q_Mo_isQuoted 44 rfl) (by decide) ?_
      refine aw_istore (aw_d q_Mo_isQuoted 45 rfl) (aw_le rfl) rfl ?_
      exact AW.to (lp_isQuoted_1 hP hW ht hk (xp_l P t) 0 false _ (by omega)) rfl rfl rfl rfl
    · refine aw_aload_n (aw_d q_Mo_isQuoted 16 rfl) rfl rfl rfl ?_
      refine aw_getf (aw_d q_Mo_isQuoted 17 rfl) fL_Mo_28_Mo rfl rfl ?_
      refine aw_bipush (v := nI 20) (aw_d q_Mo_isQuoted 18 rfl) (by decide) ?_
      refine aw_iload_n (aw_d q_Mo_isQuoted 19 rfl) rfl rfl ?_
      refine aw_imulN (aw_d q_Mo_isQuoted 20 rfl) ?_
      refine aw_iconst (v := nI 1) (aw_d q_Mo_isQuoted 21 rfl) (by decide) ?_
      refine aw_iaddN (aw_d q_Mo_isQuoted 22 rfl) ?_
      refine aw_ialdK (w := (xp_b P t 1)) (aw_d q_Mo_isQuoted 23 rfl) rfl (by (have hz := (hW.2.2.2 t ht).2; have hz1 := hW.1; omega)) rfl (by show S.2 40 (20 * t + 1) = _; rw [Nat.mul_comm 20 t]; exact (hP.2.2.2 t ht).2.2.2 1 (by omega)) ?_
      refine aw_bipush (v := nI 58) (aw_d q_Mo_isQuoted 24 rfl) (by decide) ?_
      refine aw_icmpI_ne (tgt := 46) (aw_d q_Mo_isQuoted 25 rfl) (by decide) (by (have hz := (hW.2.2.2 t ht).2; have hz1 := hW.1; omega)) (fun c39 => ?_) (fun c39 => ?_)
      · refine aw_iconst (v := nI 0) (aw_d q_Mo_isQuoted 28 rfl) (by decide) ?_
        refine aw_istore_n (aw_d q_Mo_isQuoted 29 rfl) rfl (aw_le rfl) rfl ?_
        refine aw_iload_n (aw_d q_Mo_isQuoted 30 rfl) rfl rfl ?_
        refine aw_ifN_ne (tgt := 66) (aw_d q_Mo_isQuoted 31 rfl) (by decide) (by (have hz := (hW.2.2.2 t ht).2; have hz1 := hW.1; omega)) (fun c49 => by exfalso; (have hz := (hW.2.2.2 t ht).2; have hz1 := hW.1; omega)) (fun c49 => ?_)
        refine aw_aload_n (aw_d q_Mo_isQuoted 32 rfl) rfl rfl rfl ?_
        refine aw_getf (aw_d q_Mo_isQuoted 33 rfl) fL_Mo_19_Mo rfl rfl ?_
        refine aw_iload_n (aw_d q_Mo_isQuoted 34 rfl) rfl rfl ?_
        refine aw_ialdK (w := nI (1)) (aw_d q_Mo_isQuoted 35 rfl) rfl (by (have hz := (hW.2.2.2 t ht).2; have hz1 := hW.1; omega)) rfl ((hP.2.2.2 t ht).1.trans (congrArg nI hk)) ?_
        refine aw_iconst (v := nI 1) (aw_d q_Mo_isQuoted 36 rfl) (by decide) ?_
        refine aw_icmpN_le (tgt := 70) (aw_d q_Mo_isQuoted 37 rfl) (by decide) (by (have hz := (hW.2.2.2 t ht).2; have hz1 := hW.1; omega)) (by (have hz := (hW.2.2.2 t ht).2; have hz1 := hW.1; omega)) (fun c59 => ?_) (fun c59 => by exfalso; (have hz := (hW.2.2.2 t ht).2; have hz1 := hW.1; omega))
        refine aw_iconst (v := nI 0) (aw_d q_Mo_isQuoted 42 rfl) (by decide) ?_
        refine aw_istore (aw_d q_Mo_isQuoted 43 rfl) (aw_le rfl) rfl ?_
        refine aw_iconst (v := nI 0) (aw_d q_Mo_isQuoted 44 rfl) (by decide) ?_
        refine aw_istore (aw_d q_Mo_isQuoted 45 rfl) (aw_le rfl) rfl ?_
        exact AW.to (lp_isQuoted_1 hP hW ht hk (xp_l P t) 0 false _ (by omega)) rfl rfl rfl rfl
      · refine aw_iconst (v := nI 1) (aw_d q_Mo_isQuoted 26 rfl) (by decide) ?_
        refine aw_goto (tgt := 47) (aw_d q_Mo_isQuoted 27 rfl) (by decide) ?_
        refine aw_istore_n (aw_d q_Mo_isQuoted 29 rfl) rfl (aw_le rfl) rfl ?_
        refine aw_iload_n (aw_d q_Mo_isQuoted 30 rfl) rfl rfl ?_
        refine aw_ifN_ne (tgt := 66) (aw_d q_Mo_isQuoted 31 rfl) (by decide) (by (have hz := (hW.2.2.2 t ht).2; have hz1 := hW.1; omega)) (fun c49 => ?_) (fun c49 => by exfalso; (have hz := (hW.2.2.2 t ht).2; have hz1 := hW.1; omega))
        refine aw_iconst (v := nI 1) (aw_d q_Mo_isQuoted 40 rfl) (by decide) ?_
        refine aw_goto (tgt := 71) (aw_d q_Mo_isQuoted 41 rfl) (by decide) ?_
        refine aw_istore (aw_d q_Mo_isQuoted 43 rfl) (aw_le rfl) rfl ?_
        refine aw_iconst (v := nI 0) (aw_d q_Mo_isQuoted 44 rfl) (by decide) ?_
        refine aw_istore (aw_d q_Mo_isQuoted 45 rfl) (aw_le rfl) rfl ?_
        exact AW.to (lp_isQuoted_1 hP hW ht hk (xp_l P t) 0 true _ (by omega)) rfl rfl rfl rfl
set_option maxRecDepth 20000 in
theorem lp_isQuoted_2 {g : aw_G} {S : aw_S} {O : List Int32} {P : xp_T} (hP : xp_M S P) (hW : xp_wd P) {t : Nat} (ht : t < xp_t P) (hk : xp_k P t = 2) {u3 : Int32} : ∀ (m k : Nat) (q : Bool) (x6 : Option Value), m + k = xp_l P t → w_qu P t = (q || !(allB (fun b => !(w_q1 b)) (xp_b P t) m k)) → AW g M_Mo_isQuoted (aw_rm 0 0 0 0) (aw_F g 0 0 (fun r1 h => r1 = some (.int (if w_qu P t = true then nI 1 else nI 0)) ∧ h = HP (MS S O))) 76 [some (.ref 33), some (.int (nI t)), some (.int (nI (xp_l P t))), some (.int u3), some (.int (if q = true then nI 1 else nI 0)), some (.int (nI k)), x6] [] (HP (MS S O)) 0 0 := by
  intro m
  induction m with
  | zero =>
    intro k q x6 hk2 e
    refine aw_iload (aw_d q_Mo_isQuoted 46 rfl) rfl ?_
    refine aw_iload_n (aw_d q_Mo_isQuoted 47 rfl) rfl rfl ?_
    refine aw_icmpN_ge (tgt := 142) (aw_d q_Mo_isQuoted 48 rfl) (by decide) (by (have hz := (hW.2.2.2 t ht).2; have hz1 := hW.1; omega)) (by (have hz := (hW.2.2.2 t ht).2; have hz1 := hW.1; omega)) (fun c79 => ?_) (fun c79 => by exfalso; (have hz := (hW.2.2.2 t ht).2; have hz1 := hW.1; omega))
    refine aw_aload_n (aw_d q_Mo_isQuoted 78 rfl) rfl rfl rfl ?_
    refine aw_getf (aw_d q_Mo_isQuoted 79 rfl) fL_Mo_19_Mo rfl rfl ?_
    refine aw_iload_n (aw_d q_Mo_isQuoted 80 rfl) rfl rfl ?_
    refine aw_ialdK (w := nI (2)) (aw_d q_Mo_isQuoted 81 rfl) rfl (by (have hz := (hW.2.2.2 t ht).2; have hz1 := hW.1; omega)) rfl ((hP.2.2.2 t ht).1.trans (congrArg nI hk)) ?_
    refine aw_iconst (v := nI 1) (aw_d q_Mo_isQuoted 82 rfl) (by decide) ?_
    refine aw_icmpN_eq (tgt := 161) (aw_d q_Mo_isQuoted 83 rfl) (by decide) (by (have hz := (hW.2.2.2 t ht).2; have hz1 := hW.1; omega)) (by (have hz := (hW.2.2.2 t ht).2; have hz1 := hW.1; omega)) (fun c149 => by exfalso; (have hz := (hW.2.2.2 t ht).2; have hz1 := hW.1; omega)) (fun c149 => ?_)
    refine aw_iload (aw_d q_Mo_isQuoted 84 rfl) rfl ?_
    refine aw_ifB_eq (tgt := 161) (aw_d q_Mo_isQuoted 85 rfl) (by decide) (fun c154 => ?_) (fun c154 => ?_)
    · refine aw_iconst (v := nI 0) (aw_d q_Mo_isQuoted 88 rfl) (by decide) ?_
      exact aw_zret (aw_d q_Mo_isQuoted 89 rfl) rfl (rfl) (⟨by simp only [allB] at e; first | (rw [if_neg (by rw [e]; simpa using c154)]; done) | (rw [if_pos (by rw [e, c154]; rfl)]; done), rfl⟩)
    · refine aw_iconst (v := nI 1) (aw_d q_Mo_isQuoted 86 rfl) (by decide) ?_
      refine aw_goto (tgt := 162) (aw_d q_Mo_isQuoted 87 rfl) (by decide) ?_
      exact aw_zret (aw_d q_Mo_isQuoted 89 rfl) rfl (rfl) (⟨by simp only [allB] at e; first | (rw [if_neg (by rw [e]; simpa using c154)]; done) | (rw [if_pos (by rw [e, c154]; rfl)]; done), rfl⟩)
  | succ m ih =>
    intro k q x6 hk2 e
    refine aw_iload (aw_d q_Mo_isQuoted 46 rfl) rfl ?_
    refine aw_iload_n (aw_d q_Mo_isQuoted 47 rfl) rfl rfl ?_
    refine aw_icmpN_ge (tgt := 142) (aw_d q_Mo_isQuoted 48 rfl) (by decide) (by (have hz := (hW.2.2.2 t ht).2; have hz1 := hW.1; omega)) (by (have hz := (hW.2.2.2 t ht).2; have hz1 := hW.1; omega)) (fun c79 => by exfalso; (have hz := (hW.2.2.2 t ht).2; have hz1 := hW.1; omega)) (fun c79 => ?_)
    refine aw_aload_n (aw_d q_Mo_isQuoted 49 rfl) rfl rfl rfl ?_
    refine aw_getf (aw_d q_Mo_isQuoted 50 rfl) fL_Mo_28_Mo rfl rfl ?_
    refine aw_bipush (v := nI 20) (aw_d q_Mo_isQuoted 51 rfl) (by decide) ?_
    refine aw_iload_n (aw_d q_Mo_isQuoted 52 rfl) rfl rfl ?_
    refine aw_imulN (aw_d q_Mo_isQuoted 53 rfl) ?_
    refine aw_iload (aw_d q_Mo_isQuoted 54 rfl) rfl ?_
    refine aw_iaddN (aw_d q_Mo_isQuoted 55 rfl) ?_
    refine aw_ialdK (w := (xp_b P t k)) (aw_d q_Mo_isQuoted 56 rfl) rfl (by (have hz := (hW.2.2.2 t ht).2; have hz1 := hW.1; omega)) rfl (by show S.2 40 (20 * t + k) = _; rw [Nat.mul_comm 20 t]; exact (hP.2.2.2 t ht).2.2.2 k (by omega)) ?_
    refine aw_istore (aw_d q_Mo_isQuoted 57 rfl) (aw_le rfl) rfl ?_
    refine aw_iload (aw_d q_Mo_isQuoted 58 rfl) rfl ?_
    refine aw_ifB_ne (tgt := 129) (aw_d q_Mo_isQuoted 59 rfl) (by decide) (fun c98 => ?_) (fun c98 => ?_)
    · refine aw_iconst (v := nI 1) (aw_d q_Mo_isQuoted 72 rfl) (by decide) ?_
      refine aw_goto (tgt := 134) (aw_d q_Mo_isQuoted 73 rfl) (by decide) ?_
      refine aw_istore (aw_d q_Mo_isQuoted 75 rfl) (aw_le rfl) rfl ?_
      refine aw_iinc (aw_d q_Mo_isQuoted 76 rfl) rfl (ii1 _) (aw_le rfl) rfl ?_
      refine aw_goto (tgt := 76) (aw_d q_Mo_isQuoted 77 rfl) (by decide) ?_
      exact AW.to (ih (k + 1) true _ (by omega) (by rw [e]; simp only [allB]; first | (rw [c98]; rfl) | (rw [show w_q1 (xp_b P t k) = true from decide_eq_true (by omega)]; cases q <;> rfl))) rfl rfl rfl rfl
    · refine aw_iload (aw_d q_Mo_isQuoted 60 rfl) rfl ?_
      refine aw_bipush (v := nI 44) (aw_d q_Mo_isQuoted 61 rfl) (by decide) ?_
      refine aw_icmpI_eq (tgt := 129) (aw_d q_Mo_isQuoted 62 rfl) (by decide) (by (have hz := (hW.2.2.2 t ht).2; have hz1 := hW.1; omega)) (fun c105 => ?_) (fun c105 => ?_)
      · refine aw_iconst (v := nI 1) (aw_d q_Mo_isQuoted 72 rfl) (by decide) ?_
        refine aw_goto (tgt := 134) (aw_d q_Mo_isQuoted 73 rfl) (by decide) ?_
        refine aw_istore (aw_d q_Mo_isQuoted 75 rfl) (aw_le rfl) rfl ?_
        refine aw_iinc (aw_d q_Mo_isQuoted 76 rfl) rfl (ii1 _) (aw_le rfl) rfl ?_
        refine aw_goto (tgt := 76) (aw_d q_Mo_isQuoted 77 rfl) (by decide) ?_
        exact AW.to (ih (k + 1) true _ (by omega) (by rw [e]; simp only [allB]; first | (rw [c98]; rfl) | (rw [show w_q1 (xp_b P t k) = true from decide_eq_true (by omega)]; cases q <;> rfl))) rfl rfl rfl rfl
      · refine aw_iload (aw_d q_Mo_isQuoted 63 rfl) rfl ?_
        refine aw_bipush (v := nI 34) (aw_d q_Mo_isQuoted 64 rfl) (by decide) ?_
        refine aw_icmpI_eq (tgt := 129) (aw_d q_Mo_isQuoted 65 rfl) (by decide) (by (have hz := (hW.2.2.2 t ht).2; have hz1 := hW.1; omega)) (fun c112 => ?_) (fun c112 => ?_)
        · refine aw_iconst (v := nI 1) (aw_d q_Mo_isQuoted 72 rfl) (by decide) ?_
          refine aw_goto (tgt := 134) (aw_d q_Mo_isQuoted 73 rfl) (by decide) ?_
          refine aw_istore (aw_d q_Mo_isQuoted 75 rfl) (aw_le rfl) rfl ?_
          refine aw_iinc (aw_d q_Mo_isQuoted 76 rfl) rfl (ii1 _) (aw_le rfl) rfl ?_
          refine aw_goto (tgt := 76) (aw_d q_Mo_isQuoted 77 rfl) (by decide) ?_
          exact AW.to (ih (k + 1) true _ (by omega) (by rw [e]; simp only [allB]; first | (rw [c98]; rfl) | (rw [show w_q1 (xp_b P t k) = true from decide_eq_true (by omega)]; cases q <;> rfl))) rfl rfl rfl rfl
        · refine aw_iload (aw_d q_Mo_isQuoted 66 rfl) rfl ?_
          refine aw_bipush (v := nI 10) (aw_d q_Mo_isQuoted 67 rfl) (by decide) ?_
          refine aw_icmpI_eq (tgt := 129) (aw_d q_Mo_isQuoted 68 rfl) (by decide) (by (have hz := (hW.2.2.2 t ht).2; have hz1 := hW.1; omega)) (fun c119 => ?_) (fun c119 => ?_)
          · refine aw_iconst (v := nI 1) (aw_d q_Mo_isQuoted 72 rfl) (by decide) ?_
            refine aw_goto (tgt := 134) (aw_d q_Mo_isQuoted 73 rfl) (by decide) ?_
            refine aw_istore (aw_d q_Mo_isQuoted 75 rfl) (aw_le rfl) rfl ?_
            refine aw_iinc (aw_d q_Mo_isQuoted 76 rfl) rfl (ii1 _) (aw_le rfl) rfl ?_
            refine aw_goto (tgt := 76) (aw_d q_Mo_isQuoted 77 rfl) (by decide) ?_
            exact AW.to (ih (k + 1) true _ (by omega) (by rw [e]; simp only [allB]; first | (rw [c98]; rfl) | (rw [show w_q1 (xp_b P t k) = true from decide_eq_true (by omega)]; cases q <;> rfl))) rfl rfl rfl rfl
          · refine aw_iload (aw_d q_Mo_isQuoted 69 rfl) rfl ?_
            refine aw_bipush (v := nI 13) (aw_d q_Mo_isQuoted 70 rfl) (by decide) ?_
            refine aw_icmpI_ne (tgt := 133) (aw_d q_Mo_isQuoted 71 rfl) (by decide) (by (have hz := (hW.2.2.2 t ht).2; have hz1 := hW.1; omega)) (fun c126 => ?_) (fun c126 => ?_)
            · refine aw_iconst (v := nI 0) (aw_d q_Mo_isQuoted 74 rfl) (by decide) ?_
              refine aw_istore (aw_d q_Mo_isQuoted 75 rfl) (aw_le rfl) rfl ?_
              refine aw_iinc (aw_d q_Mo_isQuoted 76 rfl) rfl (ii1 _) (aw_le rfl) rfl ?_
              refine aw_goto (tgt := 76) (aw_d q_Mo_isQuoted 77 rfl) (by decide) ?_
              exact AW.to (ih (k + 1) false _ (by omega) (by rw [e]; simp only [allB]; rw [show q = false from by simpa using c98, show w_q1 (xp_b P t k) = false from decide_eq_false (by omega)]; rfl)) rfl rfl rfl rfl
            · refine aw_iconst (v := nI 1) (aw_d q_Mo_isQuoted 72 rfl) (by decide) ?_
              refine aw_goto (tgt := 134) (aw_d q_Mo_isQuoted 73 rfl) (by decide) ?_
              refine aw_istore (aw_d q_Mo_isQuoted 75 rfl) (aw_le rfl) rfl ?_
              refine aw_iinc (aw_d q_Mo_isQuoted 76 rfl) rfl (ii1 _) (aw_le rfl) rfl ?_
              refine aw_goto (tgt := 76) (aw_d q_Mo_isQuoted 77 rfl) (by decide) ?_
              exact AW.to (ih (k + 1) true _ (by omega) (by rw [e]; simp only [allB]; first | (rw [c98]; rfl) | (rw [show w_q1 (xp_b P t k) = true from decide_eq_true (by omega)]; cases q <;> rfl))) rfl rfl rfl rfl
set_option maxRecDepth 20000 in
theorem sp_isQuoted_2 {g : aw_G} {S : aw_S} {O : List Int32} {P : xp_T} (hP : xp_M S P) (hW : xp_wd P) {t : Nat} (ht : t < xp_t P) (hk : xp_k P t = 2) : Sp g M_Mo_isQuoted 0 0 0 0 [.ref 33, .int (nI t)] (HP (MS S O)) (fun r1 h => r1 = some (.int (if w_qu P t = true then nI 1 else nI 0)) ∧ h = HP (MS S O)) := by
  refine Sp.of rfl (aw_le rfl) ?_
  refine aw_aload_n (aw_d q_Mo_isQuoted 0 rfl) rfl rfl rfl ?_
  refine aw_getf (aw_d q_Mo_isQuoted 1 rfl) fL_Mo_25_Mo rfl rfl ?_
  refine aw_iload_n (aw_d q_Mo_isQuoted 2 rfl) rfl rfl ?_
  refine aw_ialdK (w := nI (xp_l P t)) (aw_d q_Mo_isQuoted 3 rfl) rfl (by (have hz := (hW.2.2.2 t ht).2; have hz1 := hW.1; omega)) rfl ((hP.2.2.2 t ht).2.2.1) ?_
  refine aw_istore_n (aw_d q_Mo_isQuoted 4 rfl) rfl (aw_le rfl) rfl ?_
  refine aw_iload_n (aw_d q_Mo_isQuoted 5 rfl) rfl rfl ?_
  refine aw_iconst (v := nI 1) (aw_d q_Mo_isQuoted 6 rfl) (by decide) ?_
  refine aw_icmpN_le (tgt := 46) (aw_d q_Mo_isQuoted 7 rfl) (by decide) (by (have hz := (hW.2.2.2 t ht).2; have hz1 := hW.1; omega)) (by (have hz := (hW.2.2.2 t ht).2; have hz1 := hW.1; omega)) (fun c9 => ?_) (fun c9 => ?_)
  · refine aw_iconst (v := nI 0) (aw_d q_Mo_isQuoted 28 rfl) (by decide) ?_
    refine aw_istore_n (aw_d q_Mo_isQuoted 29 rfl) rfl (aw_le rfl) rfl ?_
    refine aw_iload_n (aw_d q_Mo_isQuoted 30 rfl) rfl rfl ?_
    refine aw_ifN_ne (tgt := 66) (aw_d q_Mo_isQuoted 31 rfl) (by decide) (by (have hz := (hW.2.2.2 t ht).2; have hz1 := hW.1; omega)) (fun c49 => by exfalso; (have hz := (hW.2.2.2 t ht).2; have hz1 := hW.1; omega)) (fun c49 => ?_)
    refine aw_aload_n (aw_d q_Mo_isQuoted 32 rfl) rfl rfl rfl ?_
    refine aw_getf (aw_d q_Mo_isQuoted 33 rfl) fL_Mo_19_Mo rfl rfl ?_
    refine aw_iload_n (aw_d q_Mo_isQuoted 34 rfl) rfl rfl ?_
    refine aw_ialdK (w := nI (2)) (aw_d q_Mo_isQuoted 35 rfl) rfl (by (have hz := (hW.2.2.2 t ht).2; have hz1 := hW.1; omega)) rfl ((hP.2.2.2 t ht).1.trans (congrArg nI hk)) ?_
    refine aw_iconst (v := nI 1) (aw_d q_Mo_isQuoted 36 rfl) (by decide) ?_
    refine aw_icmpN_le (tgt := 70) (aw_d q_Mo_isQuoted 37 rfl) (by decide) (by (have hz := (hW.2.2.2 t ht).2; have hz1 := hW.1; omega)) (by (have hz := (hW.2.2.2 t ht).2; have hz1 := hW.1; omega)) (fun c59 => by exfalso; (have hz := (hW.2.2.2 t ht).2; have hz1 := hW.1; omega)) (fun c59 => ?_)
    refine aw_iload_n (aw_d q_Mo_isQuoted 38 rfl) rfl rfl ?_
    refine aw_ifN_ne (tgt := 70) (aw_d q_Mo_isQuoted 39 rfl) (by decide) (by (have hz := (hW.2.2.2 t ht).2; have hz1 := hW.1; omega)) (fun c63 => ?_) (fun c63 => ?_)
    · refine aw_iconst (v := nI 0) (aw_d q_Mo_isQuoted 42 rfl) (by decide) ?_
      refine aw_istore (aw_d q_Mo_isQuoted 43 rfl) (aw_le rfl) rfl ?_
      refine aw_iconst (v := nI 0) (aw_d q_Mo_isQuoted 44 rfl) (by decide) ?_
      refine aw_istore (aw_d q_Mo_isQuoted 45 rfl) (aw_le rfl) rfl ?_
      exact AW.to (lp_isQuoted_2 hP hW ht hk (xp_l P t) 0 false _ (by omega) (by rw [w_qu_lp (by omega) (fun q => by omega)]; rfl)) rfl rfl rfl rfl
    · refine aw_iconst (v := nI 1) (aw_d q_Mo_isQuoted 40 rfl) (by decide) ?_
      refine aw_goto (tgt := 71) (aw_d q_Mo_isQuoted 41 rfl) (by decide) ?_
      refine aw_istore (aw_d q_Mo_isQuoted 43 rfl) (aw_le rfl) rfl ?_
      refine aw_iconst (v := nI 0) (aw_d q_Mo_isQuoted 44 rfl) (by decide) ?_
      refine aw_istore (aw_d q_Mo_isQuoted 45 rfl) (aw_le rfl) rfl ?_
      exact AW.to (lp_isQuoted_2 hP hW ht hk (xp_l P t) 0 true _ (by omega) (by rw [show w_qu P t = true from by first | (refine w_qu_2 ⟨?_, ?_, ?_⟩ <;> omega; done) | (refine w_qu_1 ?_; omega; done)]; rfl)) rfl rfl rfl rfl
  · refine aw_aload_n (aw_d q_Mo_isQuoted 8 rfl) rfl rfl rfl ?_
    refine aw_getf (aw_d q_Mo_isQuoted 9 rfl) fL_Mo_28_Mo rfl rfl ?_
    refine aw_bipush (v := nI 20) (aw_d q_Mo_isQuoted 10 rfl) (by decide) ?_
    refine aw_iload_n (aw_d q_Mo_isQuoted 11 rfl) rfl rfl ?_
    refine aw_imulN (aw_d q_Mo_isQuoted 12 rfl) ?_
    refine aw_ialdK (w := (xp_b P t 0)) (aw_d q_Mo_isQuoted 13 rfl) rfl (by (have hz := (hW.2.2.2 t ht).2; have hz1 := hW.1; omega)) rfl (by show S.2 40 (20 * t) = _; rw [Nat.mul_comm 20 t]; exact (hP.2.2.2 t ht).2.2.2 0 (by omega)) ?_
    refine aw_bipush (v := nI 95) (aw_d q_Mo_isQuoted 14 rfl) (by decide) ?_
    refine aw_icmpI_ne (tgt := 46) (aw_d q_Mo_isQuoted 15 rfl) (by decide) (by (have hz := (hW.2.2.2 t ht).2; have hz1 := hW.1; omega)) (fun c23 => ?_) (fun c23 => ?_)
    · refine aw_iconst (v := nI 0) (aw_d q_Mo_isQuoted 28 rfl) (by decide) ?_
      refine aw_istore_n (aw_d q_Mo_isQuoted 29 rfl) rfl (aw_le rfl) rfl ?_
      refine aw_iload_n (aw_d q_Mo_isQuoted 30 rfl) rfl rfl ?_
      refine aw_ifN_ne (tgt := 66) (aw_d q_Mo_isQuoted 31 rfl) (by decide) (by (have hz := (hW.2.2.2 t ht).2; have hz1 := hW.1; omega)) (fun c49 => by exfalso; (have hz := (hW.2.2.2 t ht).2; have hz1 := hW.1; omega)) (fun c49 => ?_)
      refine aw_aload_n (aw_d q_Mo_isQuoted 32 rfl) rfl rfl rfl ?_
      refine aw_getf (aw_d q_Mo_isQuoted 33 rfl) fL_Mo_19_Mo rfl rfl ?_
      refine aw_iload_n (aw_d q_Mo_isQuoted 34 rfl) rfl rfl ?_
      refine aw_ialdK (w := nI (2)) (aw_d q_Mo_isQuoted 35 rfl) rfl (by (have hz := (hW.2.2.2 t ht).2; have hz1 := hW.1; omega)) rfl ((hP.2.2.2 t ht).1.trans (congrArg nI hk)) ?_
      refine aw_iconst (v := nI 1) (aw_d q_Mo_isQuoted 36 rfl) (by decide) ?_
      refine aw_icmpN_le (tgt := 70) (aw_d q_Mo_isQuoted 37 rfl) (by decide) (by (have hz := (hW.2.2.2 t ht).2; have hz1 := hW.1; omega)) (by (have hz := (hW.2.2.2 t ht).2; have hz1 := hW.1; omega)) (fun c59 => by exfalso; (have hz := (hW.2.2.2 t ht).2; have hz1 := hW.1; omega)) (fun c59 => ?_)
      refine aw_iload_n (aw_d q_Mo_isQuoted 38 rfl) rfl rfl ?_
      refine aw_ifN_ne (tgt := 70) (aw_d q_Mo_isQuoted 39 rfl) (by decide) (by (have hz := (hW.2.2.2 t ht).2; have hz1 := hW.1; omega)) (fun c63 => ?_) (fun c63 => ?_)
      · refine aw_iconst (v := nI 0) (aw_d q_Mo_isQuoted 42 rfl) (by decide) ?_
        refine aw_istore (aw_d q_Mo_isQuoted 43 rfl) (aw_le rfl) rfl ?_
        refine aw_iconst (v := nI 0) (aw_d q_Mo_isQuoted 44 rfl) (by decide) ?_
        refine aw_istore (aw_d q_Mo_isQuoted 45 rfl) (aw_le rfl) rfl ?_
        exact AW.to (lp_isQuoted_2 hP hW ht hk (xp_l P t) 0 false _ (by omega) (by rw [w_qu_lp (by omega) (fun q => by omega)]; rfl)) rfl rfl rfl rfl
      · refine aw_iconst (v := nI 1) (aw_d q_Mo_isQuoted 40 rfl) (by decide) ?_
        refine aw_goto (tgt := 71) (aw_d q_Mo_isQuoted 41 rfl) (by decide) ?_
        refine aw_istore (aw_d q_Mo_isQuoted 43 rfl) (aw_le rfl) rfl ?_
        refine aw_iconst (v := nI 0) (aw_d q_Mo_isQuoted 44 rfl) (by decide) ?_
        refine aw_istore (aw_d q_Mo_isQuoted 45 rfl) (aw_le rfl) rfl ?_
        exact AW.to (lp_isQuoted_2 hP hW ht hk (xp_l P t) 0 true _ (by omega) (by rw [show w_qu P t = true from by first | (refine w_qu_2 ⟨?_, ?_, ?_⟩ <;> omega; done) | (refine w_qu_1 ?_; omega; done)]; rfl)) rfl rfl rfl rfl
    · refine aw_aload_n (aw_d q_Mo_isQuoted 16 rfl) rfl rfl rfl ?_
      refine aw_getf (aw_d q_Mo_isQuoted 17 rfl) fL_Mo_28_Mo rfl rfl ?_
      refine aw_bipush (v := nI 20) (aw_d q_Mo_isQuoted 18 rfl) (by decide) ?_
      refine aw_iload_n (aw_d q_Mo_isQuoted 19 rfl) rfl rfl ?_
      refine aw_imulN (aw_d q_Mo_isQuoted 20 rfl) ?_
      refine aw_iconst (v := nI 1) (aw_d q_Mo_isQuoted 21 rfl) (by decide) ?_
      refine aw_iaddN (aw_d q_Mo_isQuoted 22 rfl) ?_
      refine aw_ialdK (w := (xp_b P t 1)) (aw_d q_Mo_isQuoted 23 rfl) rfl (by (have hz := (hW.2.2.2 t ht).2; have hz1 := hW.1; omega)) rfl (by show S.2 40 (20 * t + 1) = _; rw [Nat.mul_comm 20 t]; exact (hP.2.2.2 t ht).2.2.2 1 (by omega)) ?_
      refine aw_bipush (v := nI 58) (aw_d q_Mo_isQuoted 24 rfl) (by decide) ?_
      refine aw_icmpI_ne (tgt := 46) (aw_d q_Mo_isQuoted 25 rfl) (by decide) (by (have hz := (hW.2.2.2 t ht).2; have hz1 := hW.1; omega)) (fun c39 => ?_) (fun c39 => ?_)
      · refine aw_iconst (v := nI 0) (aw_d q_Mo_isQuoted 28 rfl) (by decide) ?_
        refine aw_istore_n (aw_d q_Mo_isQuoted 29 rfl) rfl (aw_le rfl) rfl ?_
        refine aw_iload_n (aw_d q_Mo_isQuoted 30 rfl) rfl rfl ?_
        refine aw_ifN_ne (tgt := 66) (aw_d q_Mo_isQuoted 31 rfl) (by decide) (by (have hz := (hW.2.2.2 t ht).2; have hz1 := hW.1; omega)) (fun c49 => by exfalso; (have hz := (hW.2.2.2 t ht).2; have hz1 := hW.1; omega)) (fun c49 => ?_)
        refine aw_aload_n (aw_d q_Mo_isQuoted 32 rfl) rfl rfl rfl ?_
        refine aw_getf (aw_d q_Mo_isQuoted 33 rfl) fL_Mo_19_Mo rfl rfl ?_
        refine aw_iload_n (aw_d q_Mo_isQuoted 34 rfl) rfl rfl ?_
        refine aw_ialdK (w := nI (2)) (aw_d q_Mo_isQuoted 35 rfl) rfl (by (have hz := (hW.2.2.2 t ht).2; have hz1 := hW.1; omega)) rfl ((hP.2.2.2 t ht).1.trans (congrArg nI hk)) ?_
        refine aw_iconst (v := nI 1) (aw_d q_Mo_isQuoted 36 rfl) (by decide) ?_
        refine aw_icmpN_le (tgt := 70) (aw_d q_Mo_isQuoted 37 rfl) (by decide) (by (have hz := (hW.2.2.2 t ht).2; have hz1 := hW.1; omega)) (by (have hz := (hW.2.2.2 t ht).2; have hz1 := hW.1; omega)) (fun c59 => by exfalso; (have hz := (hW.2.2.2 t ht).2; have hz1 := hW.1; omega)) (fun c59 => ?_)
        refine aw_iload_n (aw_d q_Mo_isQuoted 38 rfl) rfl rfl ?_
        refine aw_ifN_ne (tgt := 70) (aw_d q_Mo_isQuoted 39 rfl) (by decide) (by (have hz := (hW.2.2.2 t ht).2; have hz1 := hW.1; omega)) (fun c63 => ?_) (fun c63 => ?_)
        · refine aw_iconst (v := nI 0) (aw_d q_Mo_isQuoted 42 rfl) (by decide) ?_
          refine aw_istore (aw_d q_Mo_isQuoted 43 rfl) (aw_le rfl) rfl ?_
          refine aw_iconst (v := nI 0) (aw_d q_Mo_isQuoted 44 rfl) (by decide) ?_
          refine aw_istore (aw_d q_Mo_isQuoted 45 rfl) (aw_le rfl) rfl ?_
          exact AW.to (lp_isQuoted_2 hP hW ht hk (xp_l P t) 0 false _ (by omega) (by rw [w_qu_lp (by omega) (fun q => by omega)]; rfl)) rfl rfl rfl rfl
        · refine aw_iconst (v := nI 1) (aw_d q_Mo_isQuoted 40 rfl) (by decide) ?_
          refine aw_goto (tgt := 71) (aw_d q_Mo_isQuoted 41 rfl) (by decide) ?_
          refine aw_istore (aw_d q_Mo_isQuoted 43 rfl) (aw_le rfl) rfl ?_
          refine aw_iconst (v := nI 0) (aw_d q_Mo_isQuoted 44 rfl) (by decide) ?_
          refine aw_istore (aw_d q_Mo_isQuoted 45 rfl) (aw_le rfl) rfl ?_
          exact AW.to (lp_isQuoted_2 hP hW ht hk (xp_l P t) 0 true _ (by omega) (by rw [show w_qu P t = true from by first | (refine w_qu_2 ⟨?_, ?_, ?_⟩ <;> omega; done) | (refine w_qu_1 ?_; omega; done)]; rfl)) rfl rfl rfl rfl
      · refine aw_iconst (v := nI 1) (aw_d q_Mo_isQuoted 26 rfl) (by decide) ?_
        refine aw_goto (tgt := 47) (aw_d q_Mo_isQuoted 27 rfl) (by decide) ?_
        refine aw_istore_n (aw_d q_Mo_isQuoted 29 rfl) rfl (aw_le rfl) rfl ?_
        refine aw_iload_n (aw_d q_Mo_isQuoted 30 rfl) rfl rfl ?_
        refine aw_ifN_ne (tgt := 66) (aw_d q_Mo_isQuoted 31 rfl) (by decide) (by (have hz := (hW.2.2.2 t ht).2; have hz1 := hW.1; omega)) (fun c49 => ?_) (fun c49 => by exfalso; (have hz := (hW.2.2.2 t ht).2; have hz1 := hW.1; omega))
        refine aw_iconst (v := nI 1) (aw_d q_Mo_isQuoted 40 rfl) (by decide) ?_
        refine aw_goto (tgt := 71) (aw_d q_Mo_isQuoted 41 rfl) (by decide) ?_
        refine aw_istore (aw_d q_Mo_isQuoted 43 rfl) (aw_le rfl) rfl ?_
        refine aw_iconst (v := nI 0) (aw_d q_Mo_isQuoted 44 rfl) (by decide) ?_
        refine aw_istore (aw_d q_Mo_isQuoted 45 rfl) (aw_le rfl) rfl ?_
        exact AW.to (lp_isQuoted_2 hP hW ht hk (xp_l P t) 0 true _ (by omega) (by rw [show w_qu P t = true from by first | (refine w_qu_2 ⟨?_, ?_, ?_⟩ <;> omega; done) | (refine w_qu_1 ?_; omega; done)]; rfl)) rfl rfl rfl rfl
set_option maxRecDepth 20000 in
theorem lp_isQuoted_3 {g : aw_G} {S : aw_S} {O : List Int32} {P : xp_T} (hP : xp_M S P) (hW : xp_wd P) {t : Nat} (ht : t < xp_t P) (hk : xp_k P t = 3) {u3 : Int32} : ∀ (m k : Nat) (q : Bool) (x6 : Option Value), m + k = xp_l P t → w_qu P t = (q || !(allB (fun b => !(w_q1 b)) (xp_b P t) m k)) → AW g M_Mo_isQuoted (aw_rm 0 0 0 0) (aw_F g 0 0 (fun r1 h => r1 = some (.int (if w_qu P t = true then nI 1 else nI 0)) ∧ h = HP (MS S O))) 76 [some (.ref 33), some (.int (nI t)), some (.int (nI (xp_l P t))), some (.int u3), some (.int (if q = true then nI 1 else nI 0)), some (.int (nI k)), x6] [] (HP (MS S O)) 0 0 := by
  intro m
  induction m with
  | zero =>
    intro k q x6 hk2 e
    refine aw_iload (aw_d q_Mo_isQuoted 46 rfl) rfl ?_
    refine aw_iload_n (aw_d q_Mo_isQuoted 47 rfl) rfl rfl ?_
    refine aw_icmpN_ge (tgt := 142) (aw_d q_Mo_isQuoted 48 rfl) (by decide) (by (have hz := (hW.2.2.2 t ht).2; have hz1 := hW.1; omega)) (by (have hz := (hW.2.2.2 t ht).2; have hz1 := hW.1; omega)) (fun c79 => ?_) (fun c79 => by exfalso; (have hz := (hW.2.2.2 t ht).2; have hz1 := hW.1; omega))
    refine aw_aload_n (aw_d q_Mo_isQuoted 78 rfl) rfl rfl rfl ?_
    refine aw_getf (aw_d q_Mo_isQuoted 79 rfl) fL_Mo_19_Mo rfl rfl ?_
    refine aw_iload_n (aw_d q_Mo_isQuoted 80 rfl) rfl rfl ?_
    refine aw_ialdK (w := nI (3)) (aw_d q_Mo_isQuoted 81 rfl) rfl (by (have hz := (hW.2.2.2 t ht).2; have hz1 := hW.1; omega)) rfl ((hP.2.2.2 t ht).1.trans (congrArg nI hk)) ?_
    refine aw_iconst (v := nI 1) (aw_d q_Mo_isQuoted 82 rfl) (by decide) ?_
    refine aw_icmpN_eq (tgt := 161) (aw_d q_Mo_isQuoted 83 rfl) (by decide) (by (have hz := (hW.2.2.2 t ht).2; have hz1 := hW.1; omega)) (by (have hz := (hW.2.2.2 t ht).2; have hz1 := hW.1; omega)) (fun c149 => by exfalso; (have hz := (hW.2.2.2 t ht).2; have hz1 := hW.1; omega)) (fun c149 => ?_)
    refine aw_iload (aw_d q_Mo_isQuoted 84 rfl) rfl ?_
    refine aw_ifB_eq (tgt := 161) (aw_d q_Mo_isQuoted 85 rfl) (by decide) (fun c154 => ?_) (fun c154 => ?_)
    · refine aw_iconst (v := nI 0) (aw_d q_Mo_isQuoted 88 rfl) (by decide) ?_
      exact aw_zret (aw_d q_Mo_isQuoted 89 rfl) rfl (rfl) (⟨by simp only [allB] at e; first | (rw [if_neg (by rw [e]; simpa using c154)]; done) | (rw [if_pos (by rw [e, c154]; rfl)]; done), rfl⟩)
    · refine aw_iconst (v := nI 1) (aw_d q_Mo_isQuoted 86 rfl) (by decide) ?_
      refine aw_goto (tgt := 162) (aw_d q_Mo_isQuoted 87 rfl) (by decide) ?_
      exact aw_zret (aw_d q_Mo_isQuoted 89 rfl) rfl (rfl) (⟨by simp only [allB] at e; first | (rw [if_neg (by rw [e]; simpa using c154)]; done) | (rw [if_pos (by rw [e, c154]; rfl)]; done), rfl⟩)
  | succ m ih =>
    intro k q x6 hk2 e
    refine aw_iload (aw_d q_Mo_isQuoted 46 rfl) rfl ?_
    refine aw_iload_n (aw_d q_Mo_isQuoted 47 rfl) rfl rfl ?_
    refine aw_icmpN_ge (tgt := 142) (aw_d q_Mo_isQuoted 48 rfl) (by decide) (by (have hz := (hW.2.2.2 t ht).2; have hz1 := hW.1; omega)) (by (have hz := (hW.2.2.2 t ht).2; have hz1 := hW.1; omega)) (fun c79 => by exfalso; (have hz := (hW.2.2.2 t ht).2; have hz1 := hW.1; omega)) (fun c79 => ?_)
    refine aw_aload_n (aw_d q_Mo_isQuoted 49 rfl) rfl rfl rfl ?_
    refine aw_getf (aw_d q_Mo_isQuoted 50 rfl) fL_Mo_28_Mo rfl rfl ?_
    refine aw_bipush (v := nI 20) (aw_d q_Mo_isQuoted 51 rfl) (by decide) ?_
    refine aw_iload_n (aw_d q_Mo_isQuoted 52 rfl) rfl rfl ?_
    refine aw_imulN (aw_d q_Mo_isQuoted 53 rfl) ?_
    refine aw_iload (aw_d q_Mo_isQuoted 54 rfl) rfl ?_
    refine aw_iaddN (aw_d q_Mo_isQuoted 55 rfl) ?_
    refine aw_ialdK (w := (xp_b P t k)) (aw_d q_Mo_isQuoted 56 rfl) rfl (by (have hz := (hW.2.2.2 t ht).2; have hz1 := hW.1; omega)) rfl (by show S.2 40 (20 * t + k) = _; rw [Nat.mul_comm 20 t]; exact (hP.2.2.2 t ht).2.2.2 k (by omega)) ?_
    refine aw_istore (aw_d q_Mo_isQuoted 57 rfl) (aw_le rfl) rfl ?_
    refine aw_iload (aw_d q_Mo_isQuoted 58 rfl) rfl ?_
    refine aw_ifB_ne (tgt := 129) (aw_d q_Mo_isQuoted 59 rfl) (by decide) (fun c98 => ?_) (fun c98 => ?_)
    · refine aw_iconst (v := nI 1) (aw_d q_Mo_isQuoted 72 rfl) (by decide) ?_
      refine aw_goto (tgt := 134) (aw_d q_Mo_isQuoted 73 rfl) (by decide) ?_
      refine aw_istore (aw_d q_Mo_isQuoted 75 rfl) (aw_le rfl) rfl ?_
      refine aw_iinc (aw_d q_Mo_isQuoted 76 rfl) rfl (ii1 _) (aw_le rfl) rfl ?_
      refine aw_goto (tgt := 76) (aw_d q_Mo_isQuoted 77 rfl) (by decide) ?_
      exact AW.to (ih (k + 1) true _ (by omega) (by rw [e]; simp only [allB]; first | (rw [c98]; rfl) | (rw [show w_q1 (xp_b P t k) = true from decide_eq_true (by omega)]; cases q <;> rfl))) rfl rfl rfl rfl
    · refine aw_iload (aw_d q_Mo_isQuoted 60 rfl) rfl ?_
      refine aw_bipush (v := nI 44) (aw_d q_Mo_isQuoted 61 rfl) (by decide) ?_
      refine aw_icmpI_eq (tgt := 129) (aw_d q_Mo_isQuoted 62 rfl) (by decide) (by (have hz := (hW.2.2.2 t ht).2; have hz1 := hW.1; omega)) (fun c105 => ?_) (fun c105 => ?_)
      · refine aw_iconst (v := nI 1) (aw_d q_Mo_isQuoted 72 rfl) (by decide) ?_
        refine aw_goto (tgt := 134) (aw_d q_Mo_isQuoted 73 rfl) (by decide) ?_
        refine aw_istore (aw_d q_Mo_isQuoted 75 rfl) (aw_le rfl) rfl ?_
        refine aw_iinc (aw_d q_Mo_isQuoted 76 rfl) rfl (ii1 _) (aw_le rfl) rfl ?_
        refine aw_goto (tgt := 76) (aw_d q_Mo_isQuoted 77 rfl) (by decide) ?_
        exact AW.to (ih (k + 1) true _ (by omega) (by rw [e]; simp only [allB]; first | (rw [c98]; rfl) | (rw [show w_q1 (xp_b P t k) = true from decide_eq_true (by omega)]; cases q <;> rfl))) rfl rfl rfl rfl
      · refine aw_iload (aw_d q_Mo_isQuoted 63 rfl) rfl ?_
        refine aw_bipush (v := nI 34) (aw_d q_Mo_isQuoted 64 rfl) (by decide) ?_
        refine aw_icmpI_eq (tgt := 129) (aw_d q_Mo_isQuoted 65 rfl) (by decide) (by (have hz := (hW.2.2.2 t ht).2; have hz1 := hW.1; omega)) (fun c112 => ?_) (fun c112 => ?_)
        · refine aw_iconst (v := nI 1) (aw_d q_Mo_isQuoted 72 rfl) (by decide) ?_
          refine aw_goto (tgt := 134) (aw_d q_Mo_isQuoted 73 rfl) (by decide) ?_
          refine aw_istore (aw_d q_Mo_isQuoted 75 rfl) (aw_le rfl) rfl ?_
          refine aw_iinc (aw_d q_Mo_isQuoted 76 rfl) rfl (ii1 _) (aw_le rfl) rfl ?_
          refine aw_goto (tgt := 76) (aw_d q_Mo_isQuoted 77 rfl) (by decide) ?_
          exact AW.to (ih (k + 1) true _ (by omega) (by rw [e]; simp only [allB]; first | (rw [c98]; rfl) | (rw [show w_q1 (xp_b P t k) = true from decide_eq_true (by omega)]; cases q <;> rfl))) rfl rfl rfl rfl
        · refine aw_iload (aw_d q_Mo_isQuoted 66 rfl) rfl ?_
          refine aw_bipush (v := nI 10) (aw_d q_Mo_isQuoted 67 rfl) (by decide) ?_
          refine aw_icmpI_eq (tgt := 129) (aw_d q_Mo_isQuoted 68 rfl) (by decide) (by (have hz := (hW.2.2.2 t ht).2; have hz1 := hW.1; omega)) (fun c119 => ?_) (fun c119 => ?_)
          · refine aw_iconst (v := nI 1) (aw_d q_Mo_isQuoted 72 rfl) (by decide) ?_
            refine aw_goto (tgt := 134) (aw_d q_Mo_isQuoted 73 rfl) (by decide) ?_
            refine aw_istore (aw_d q_Mo_isQuoted 75 rfl) (aw_le rfl) rfl ?_
            refine aw_iinc (aw_d q_Mo_isQuoted 76 rfl) rfl (ii1 _) (aw_le rfl) rfl ?_
            refine aw_goto (tgt := 76) (aw_d q_Mo_isQuoted 77 rfl) (by decide) ?_
            exact AW.to (ih (k + 1) true _ (by omega) (by rw [e]; simp only [allB]; first | (rw [c98]; rfl) | (rw [show w_q1 (xp_b P t k) = true from decide_eq_true (by omega)]; cases q <;> rfl))) rfl rfl rfl rfl
          · refine aw_iload (aw_d q_Mo_isQuoted 69 rfl) rfl ?_
            refine aw_bipush (v := nI 13) (aw_d q_Mo_isQuoted 70 rfl) (by decide) ?_
            refine aw_icmpI_ne (tgt := 133) (aw_d q_Mo_isQuoted 71 rfl) (by decide) (by (have hz := (hW.2.2.2 t ht).2; have hz1 := hW.1; omega)) (fun c126 => ?_) (fun c126 => ?_)
            · refine aw_iconst (v := nI 0) (aw_d q_Mo_isQuoted 74 rfl) (by decide) ?_
              refine aw_istore (aw_d q_Mo_isQuoted 75 rfl) (aw_le rfl) rfl ?_
              refine aw_iinc (aw_d q_Mo_isQuoted 76 rfl) rfl (ii1 _) (aw_le rfl) rfl ?_
              refine aw_goto (tgt := 76) (aw_d q_Mo_isQuoted 77 rfl) (by decide) ?_
              exact AW.to (ih (k + 1) false _ (by omega) (by rw [e]; simp only [allB]; rw [show q = false from by simpa using c98, show w_q1 (xp_b P t k) = false from decide_eq_false (by omega)]; rfl)) rfl rfl rfl rfl
            · refine aw_iconst (v := nI 1) (aw_d q_Mo_isQuoted 72 rfl) (by decide) ?_
              refine aw_goto (tgt := 134) (aw_d q_Mo_isQuoted 73 rfl) (by decide) ?_
              refine aw_istore (aw_d q_Mo_isQuoted 75 rfl) (aw_le rfl) rfl ?_
              refine aw_iinc (aw_d q_Mo_isQuoted 76 rfl) rfl (ii1 _) (aw_le rfl) rfl ?_
              refine aw_goto (tgt := 76) (aw_d q_Mo_isQuoted 77 rfl) (by decide) ?_
              exact AW.to (ih (k + 1) true _ (by omega) (by rw [e]; simp only [allB]; first | (rw [c98]; rfl) | (rw [show w_q1 (xp_b P t k) = true from decide_eq_true (by omega)]; cases q <;> rfl))) rfl rfl rfl rfl
set_option maxRecDepth 20000 in
theorem sp_isQuoted_3 {g : aw_G} {S : aw_S} {O : List Int32} {P : xp_T} (hP : xp_M S P) (hW : xp_wd P) {t : Nat} (ht : t < xp_t P) (hk : xp_k P t = 3) : Sp g M_Mo_isQuoted 0 0 0 0 [.ref 33, .int (nI t)] (HP (MS S O)) (fun r1 h => r1 = some (.int (if w_qu P t = true then nI 1 else nI 0)) ∧ h = HP (MS S O)) := by
  refine Sp.of rfl (aw_le rfl) ?_
  refine aw_aload_n (aw_d q_Mo_isQuoted 0 rfl) rfl rfl rfl ?_
  refine aw_getf (aw_d q_Mo_isQuoted 1 rfl) fL_Mo_25_Mo rfl rfl ?_
  refine aw_iload_n (aw_d q_Mo_isQuoted 2 rfl) rfl rfl ?_
  refine aw_ialdK (w := nI (xp_l P t)) (aw_d q_Mo_isQuoted 3 rfl) rfl (by (have hz := (hW.2.2.2 t ht).2; have hz1 := hW.1; omega)) rfl ((hP.2.2.2 t ht).2.2.1) ?_
  refine aw_istore_n (aw_d q_Mo_isQuoted 4 rfl) rfl (aw_le rfl) rfl ?_
  refine aw_iload_n (aw_d q_Mo_isQuoted 5 rfl) rfl rfl ?_
  refine aw_iconst (v := nI 1) (aw_d q_Mo_isQuoted 6 rfl) (by decide) ?_
  refine aw_icmpN_le (tgt := 46) (aw_d q_Mo_isQuoted 7 rfl) (by decide) (by (have hz := (hW.2.2.2 t ht).2; have hz1 := hW.1; omega)) (by (have hz := (hW.2.2.2 t ht).2; have hz1 := hW.1; omega)) (fun c9 => ?_) (fun c9 => ?_)
  · refine aw_iconst (v := nI 0) (aw_d q_Mo_isQuoted 28 rfl) (by decide) ?_
    refine aw_istore_n (aw_d q_Mo_isQuoted 29 rfl) rfl (aw_le rfl) rfl ?_
    refine aw_iload_n (aw_d q_Mo_isQuoted 30 rfl) rfl rfl ?_
    refine aw_ifN_ne (tgt := 66) (aw_d q_Mo_isQuoted 31 rfl) (by decide) (by (have hz := (hW.2.2.2 t ht).2; have hz1 := hW.1; omega)) (fun c49 => by exfalso; (have hz := (hW.2.2.2 t ht).2; have hz1 := hW.1; omega)) (fun c49 => ?_)
    refine aw_aload_n (aw_d q_Mo_isQuoted 32 rfl) rfl rfl rfl ?_
    refine aw_getf (aw_d q_Mo_isQuoted 33 rfl) fL_Mo_19_Mo rfl rfl ?_
    refine aw_iload_n (aw_d q_Mo_isQuoted 34 rfl) rfl rfl ?_
    refine aw_ialdK (w := nI (3)) (aw_d q_Mo_isQuoted 35 rfl) rfl (by (have hz := (hW.2.2.2 t ht).2; have hz1 := hW.1; omega)) rfl ((hP.2.2.2 t ht).1.trans (congrArg nI hk)) ?_
    refine aw_iconst (v := nI 1) (aw_d q_Mo_isQuoted 36 rfl) (by decide) ?_
    refine aw_icmpN_le (tgt := 70) (aw_d q_Mo_isQuoted 37 rfl) (by decide) (by (have hz := (hW.2.2.2 t ht).2; have hz1 := hW.1; omega)) (by (have hz := (hW.2.2.2 t ht).2; have hz1 := hW.1; omega)) (fun c59 => by exfalso; (have hz := (hW.2.2.2 t ht).2; have hz1 := hW.1; omega)) (fun c59 => ?_)
    refine aw_iload_n (aw_d q_Mo_isQuoted 38 rfl) rfl rfl ?_
    refine aw_ifN_ne (tgt := 70) (aw_d q_Mo_isQuoted 39 rfl) (by decide) (by (have hz := (hW.2.2.2 t ht).2; have hz1 := hW.1; omega)) (fun c63 => ?_) (fun c63 => ?_)
    · refine aw_iconst (v := nI 0) (aw_d q_Mo_isQuoted 42 rfl) (by decide) ?_
      refine aw_istore (aw_d q_Mo_isQuoted 43 rfl) (aw_le rfl) rfl ?_
      refine aw_iconst (v := nI 0) (aw_d q_Mo_isQuoted 44 rfl) (by decide) ?_
      refine aw_istore (aw_d q_Mo_isQuoted 45 rfl) (aw_le rfl) rfl ?_
      exact AW.to (lp_isQuoted_3 hP hW ht hk (xp_l P t) 0 false _ (by omega) (by rw [w_qu_lp (by omega) (fun q => by omega)]; rfl)) rfl rfl rfl rfl
    · refine aw_iconst (v := nI 1) (aw_d q_Mo_isQuoted 40 rfl) (by decide) ?_
      refine aw_goto (tgt := 71) (aw_d q_Mo_isQuoted 41 rfl) (by decide) ?_
      refine aw_istore (aw_d q_Mo_isQuoted 43 rfl) (aw_le rfl) rfl ?_
      refine aw_iconst (v := nI 0) (aw_d q_Mo_isQuoted 44 rfl) (by decide) ?_
      refine aw_istore (aw_d q_Mo_isQuoted 45 rfl) (aw_le rfl) rfl ?_
      exact AW.to (lp_isQuoted_3 hP hW ht hk (xp_l P t) 0 true _ (by omega) (by rw [show w_qu P t = true from by first | (refine w_qu_2 ⟨?_, ?_, ?_⟩ <;> omega; done) | (refine w_qu_1 ?_; omega; done)]; rfl)) rfl rfl rfl rfl
  · refine aw_aload_n (aw_d q_Mo_isQuoted 8 rfl) rfl rfl rfl ?_
    refine aw_getf (aw_d q_Mo_isQuoted 9 rfl) fL_Mo_28_Mo rfl rfl ?_
    refine aw_bipush (v := nI 20) (aw_d q_Mo_isQuoted 10 rfl) (by decide) ?_
    refine aw_iload_n (aw_d q_Mo_isQuoted 11 rfl) rfl rfl ?_
    refine aw_imulN (aw_d q_Mo_isQuoted 12 rfl) ?_
    refine aw_ialdK (w := (xp_b P t 0)) (aw_d q_Mo_isQuoted 13 rfl) rfl (by (have hz := (hW.2.2.2 t ht).2; have hz1 := hW.1; omega)) rfl (by show S.2 40 (20 * t) = _; rw [Nat.mul_comm 20 t]; exact (hP.2.2.2 t ht).2.2.2 0 (by omega)) ?_
    refine aw_bipush (v := nI 95) (aw_d q_Mo_isQuoted 14 rfl) (by decide) ?_
    refine aw_icmpI_ne (tgt := 46) (aw_d q_Mo_isQuoted 15 rfl) (by decide) (by (have hz := (hW.2.2.2 t ht).2; have hz1 := hW.1; omega)) (fun c23 => ?_) (fun c23 => ?_)
    · refine aw_iconst (v := nI 0) (aw_d q_Mo_isQuoted 28 rfl) (by decide) ?_
      refine aw_istore_n (aw_d q_Mo_isQuoted 29 rfl) rfl (aw_le rfl) rfl ?_
      refine aw_iload_n (aw_d q_Mo_isQuoted 30 rfl) rfl rfl ?_
      refine aw_ifN_ne (tgt := 66) (aw_d q_Mo_isQuoted 31 rfl) (by decide) (by (have hz := (hW.2.2.2 t ht).2; have hz1 := hW.1; omega)) (fun c49 => by exfalso; (have hz := (hW.2.2.2 t ht).2; have hz1 := hW.1; omega)) (fun c49 => ?_)
      refine aw_aload_n (aw_d q_Mo_isQuoted 32 rfl) rfl rfl rfl ?_
      refine aw_getf (aw_d q_Mo_isQuoted 33 rfl) fL_Mo_19_Mo rfl rfl ?_
      refine aw_iload_n (aw_d q_Mo_isQuoted 34 rfl) rfl rfl ?_
      refine aw_ialdK (w := nI (3)) (aw_d q_Mo_isQuoted 35 rfl) rfl (by (have hz := (hW.2.2.2 t ht).2; have hz1 := hW.1; omega)) rfl ((hP.2.2.2 t ht).1.trans (congrArg nI hk)) ?_
      refine aw_iconst (v := nI 1) (aw_d q_Mo_isQuoted 36 rfl) (by decide) ?_
      refine aw_icmpN_le (tgt := 70) (aw_d q_Mo_isQuoted 37 rfl) (by decide) (by (have hz := (hW.2.2.2 t ht).2; have hz1 := hW.1; omega)) (by (have hz := (hW.2.2.2 t ht).2; have hz1 := hW.1; omega)) (fun c59 => by exfalso; (have hz := (hW.2.2.2 t ht).2; have hz1 := hW.1; omega)) (fun c59 => ?_)
      refine aw_iload_n (aw_d q_Mo_isQuoted 38 rfl) rfl rfl ?_
      refine aw_ifN_ne (tgt := 70) (aw_d q_Mo_isQuoted 39 rfl) (by decide) (by (have hz := (hW.2.2.2 t ht).2; have hz1 := hW.1; omega)) (fun c63 => ?_) (fun c63 => ?_)
      · refine aw_iconst (v := nI 0) (aw_d q_Mo_isQuoted 42 rfl) (by decide) ?_
        refine aw_istore (aw_d q_Mo_isQuoted 43 rfl) (aw_le rfl) rfl ?_
        refine aw_iconst (v := nI 0) (aw_d q_Mo_isQuoted 44 rfl) (by decide) ?_
        refine aw_istore (aw_d q_Mo_isQuoted 45 rfl) (aw_le rfl) rfl ?_
        exact AW.to (lp_isQuoted_3 hP hW ht hk (xp_l P t) 0 false _ (by omega) (by rw [w_qu_lp (by omega) (fun q => by omega)]; rfl)) rfl rfl rfl rfl
      · refine aw_iconst (v := nI 1) (aw_d q_Mo_isQuoted 40 rfl) (by decide) ?_
        refine aw_goto (tgt := 71) (aw_d q_Mo_isQuoted 41 rfl) (by decide) ?_
        refine aw_istore (aw_d q_Mo_isQuoted 43 rfl) (aw_le rfl) rfl ?_
        refine aw_iconst (v := nI 0) (aw_d q_Mo_isQuoted 44 rfl) (by decide) ?_
        refine aw_istore (aw_d q_Mo_isQuoted 45 rfl) (aw_le rfl) rfl ?_
        exact AW.to (lp_isQuoted_3 hP hW ht hk (xp_l P t) 0 true _ (by omega) (by rw [show w_qu P t = true from by first | (refine w_qu_2 ⟨?_, ?_, ?_⟩ <;> omega; done) | (refine w_qu_1 ?_; omega; done)]; rfl)) rfl rfl rfl rfl
    · refine aw_aload_n (aw_d q_Mo_isQuoted 16 rfl) rfl rfl rfl ?_
      refine aw_getf (aw_d q_Mo_isQuoted 17 rfl) fL_Mo_28_Mo rfl rfl ?_
      refine aw_bipush (v := nI 20) (aw_d q_Mo_isQuoted 18 rfl) (by decide) ?_
      refine aw_iload_n (aw_d q_Mo_isQuoted 19 rfl) rfl rfl ?_
      refine aw_imulN (aw_d q_Mo_isQuoted 20 rfl) ?_
      refine aw_iconst (v := nI 1) (aw_d q_Mo_isQuoted 21 rfl) (by decide) ?_
      refine aw_iaddN (aw_d q_Mo_isQuoted 22 rfl) ?_
      refine aw_ialdK (w := (xp_b P t 1)) (aw_d q_Mo_isQuoted 23 rfl) rfl (by (have hz := (hW.2.2.2 t ht).2; have hz1 := hW.1; omega)) rfl (by show S.2 40 (20 * t + 1) = _; rw [Nat.mul_comm 20 t]; exact (hP.2.2.2 t ht).2.2.2 1 (by omega)) ?_
      refine aw_bipush (v := nI 58) (aw_d q_Mo_isQuoted 24 rfl) (by decide) ?_
      refine aw_icmpI_ne (tgt := 46) (aw_d q_Mo_isQuoted 25 rfl) (by decide) (by (have hz := (hW.2.2.2 t ht).2; have hz1 := hW.1; omega)) (fun c39 => ?_) (fun c39 => ?_)
      · refine aw_iconst (v := nI 0) (aw_d q_Mo_isQuoted 28 rfl) (by decide) ?_
        refine aw_istore_n (aw_d q_Mo_isQuoted 29 rfl) rfl (aw_le rfl) rfl ?_
        refine aw_iload_n (aw_d q_Mo_isQuoted 30 rfl) rfl rfl ?_
        refine aw_ifN_ne (tgt := 66) (aw_d q_Mo_isQuoted 31 rfl) (by decide) (by (have hz := (hW.2.2.2 t ht).2; have hz1 := hW.1; omega)) (fun c49 => by exfalso; (have hz := (hW.2.2.2 t ht).2; have hz1 := hW.1; omega)) (fun c49 => ?_)
        refine aw_aload_n (aw_d q_Mo_isQuoted 32 rfl) rfl rfl rfl ?_
        refine aw_getf (aw_d q_Mo_isQuoted 33 rfl) fL_Mo_19_Mo rfl rfl ?_
        refine aw_iload_n (aw_d q_Mo_isQuoted 34 rfl) rfl rfl ?_
        refine aw_ialdK (w := nI (3)) (aw_d q_Mo_isQuoted 35 rfl) rfl (by (have hz := (hW.2.2.2 t ht).2; have hz1 := hW.1; omega)) rfl ((hP.2.2.2 t ht).1.trans (congrArg nI hk)) ?_
        refine aw_iconst (v := nI 1) (aw_d q_Mo_isQuoted 36 rfl) (by decide) ?_
        refine aw_icmpN_le (tgt := 70) (aw_d q_Mo_isQuoted 37 rfl) (by decide) (by (have hz := (hW.2.2.2 t ht).2; have hz1 := hW.1; omega)) (by (have hz := (hW.2.2.2 t ht).2; have hz1 := hW.1; omega)) (fun c59 => by exfalso; (have hz := (hW.2.2.2 t ht).2; have hz1 := hW.1; omega)) (fun c59 => ?_)
        refine aw_iload_n (aw_d q_Mo_isQuoted 38 rfl) rfl rfl ?_
        refine aw_ifN_ne (tgt := 70) (aw_d q_Mo_isQuoted 39 rfl) (by decide) (by (have hz := (hW.2.2.2 t ht).2; have hz1 := hW.1; omega)) (fun c63 => ?_) (fun c63 => ?_)
        · refine aw_iconst (v := nI 0) (aw_d q_Mo_isQuoted 42 rfl) (by decide) ?_
          refine aw_istore (aw_d q_Mo_isQuoted 43 rfl) (aw_le rfl) rfl ?_
          refine aw_iconst (v := nI 0) (aw_d q_Mo_isQuoted 44 rfl) (by decide) ?_
          refine aw_istore (aw_d q_Mo_isQuoted 45 rfl) (aw_le rfl) rfl ?_
          exact AW.to (lp_isQuoted_3 hP hW ht hk (xp_l P t) 0 false _ (by omega) (by rw [w_qu_lp (by omega) (fun q => by omega)]; rfl)) rfl rfl rfl rfl
        · refine aw_iconst (v := nI 1) (aw_d q_Mo_isQuoted 40 rfl) (by decide) ?_
          refine aw_goto (tgt := 71) (aw_d q_Mo_isQuoted 41 rfl) (by decide) ?_
          refine aw_istore (aw_d q_Mo_isQuoted 43 rfl) (aw_le rfl) rfl ?_
          refine aw_iconst (v := nI 0) (aw_d q_Mo_isQuoted 44 rfl) (by decide) ?_
          refine aw_istore (aw_d q_Mo_isQuoted 45 rfl) (aw_le rfl) rfl ?_
          exact AW.to (lp_isQuoted_3 hP hW ht hk (xp_l P t) 0 true _ (by omega) (by rw [show w_qu P t = true from by first | (refine w_qu_2 ⟨?_, ?_, ?_⟩ <;> omega; done) | (refine w_qu_1 ?_; omega; done)]; rfl)) rfl rfl rfl rfl
      · refine aw_iconst (v := nI 1) (aw_d q_Mo_isQuoted 26 rfl) (by decide) ?_
        refine aw_goto (tgt := 47) (aw_d q_Mo_isQuoted 27 rfl) (by decide) ?_
        refine aw_istore_n (aw_d q_Mo_isQuoted 29 rfl) rfl (aw_le rfl) rfl ?_
        refine aw_iload_n (aw_d q_Mo_isQuoted 30 rfl) rfl rfl ?_
        refine aw_ifN_ne (tgt := 66) (aw_d q_Mo_isQuoted 31 rfl) (by decide) (by (have hz := (hW.2.2.2 t ht).2; have hz1 := hW.1; omega)) (fun c49 => ?_) (fun c49 => by exfalso; (have hz := (hW.2.2.2 t ht).2; have hz1 := hW.1; omega))
        refine aw_iconst (v := nI 1) (aw_d q_Mo_isQuoted 40 rfl) (by decide) ?_
        refine aw_goto (tgt := 71) (aw_d q_Mo_isQuoted 41 rfl) (by decide) ?_
        refine aw_istore (aw_d q_Mo_isQuoted 43 rfl) (aw_le rfl) rfl ?_
        refine aw_iconst (v := nI 0) (aw_d q_Mo_isQuoted 44 rfl) (by decide) ?_
        refine aw_istore (aw_d q_Mo_isQuoted 45 rfl) (aw_le rfl) rfl ?_
        exact AW.to (lp_isQuoted_3 hP hW ht hk (xp_l P t) 0 true _ (by omega) (by rw [show w_qu P t = true from by first | (refine w_qu_2 ⟨?_, ?_, ?_⟩ <;> omega; done) | (refine w_qu_1 ?_; omega; done)]; rfl)) rfl rfl rfl rfl
set_option maxRecDepth 20000 in
theorem lp_isQuoted_4 {g : aw_G} {S : aw_S} {O : List Int32} {P : xp_T} (hP : xp_M S P) (hW : xp_wd P) {t : Nat} (ht : t < xp_t P) (hk : xp_k P t = 4) {u3 : Int32} : ∀ (m k : Nat) (q : Bool) (x6 : Option Value), m + k = xp_l P t → w_qu P t = (q || !(allB (fun b => !(w_q1 b)) (xp_b P t) m k)) → AW g M_Mo_isQuoted (aw_rm 0 0 0 0) (aw_F g 0 0 (fun r1 h => r1 = some (.int (if w_qu P t = true then nI 1 else nI 0)) ∧ h = HP (MS S O))) 76 [some (.ref 33), some (.int (nI t)), some (.int (nI (xp_l P t))), some (.int u3), some (.int (if q = true then nI 1 else nI 0)), some (.int (nI k)), x6] [] (HP (MS S O)) 0 0 := by
  intro m
  induction m with
  | zero =>
    intro k q x6 hk2 e
    refine aw_iload (aw_d q_Mo_isQuoted 46 rfl) rfl ?_
    refine aw_iload_n (aw_d q_Mo_isQuoted 47 rfl) rfl rfl ?_
    refine aw_icmpN_ge (tgt := 142) (aw_d q_Mo_isQuoted 48 rfl) (by decide) (by (have hz := (hW.2.2.2 t ht).2; have hz1 := hW.1; omega)) (by (have hz := (hW.2.2.2 t ht).2; have hz1 := hW.1; omega)) (fun c79 => ?_) (fun c79 => by exfalso; (have hz := (hW.2.2.2 t ht).2; have hz1 := hW.1; omega))
    refine aw_aload_n (aw_d q_Mo_isQuoted 78 rfl) rfl rfl rfl ?_
    refine aw_getf (aw_d q_Mo_isQuoted 79 rfl) fL_Mo_19_Mo rfl rfl ?_
    refine aw_iload_n (aw_d q_Mo_isQuoted 80 rfl) rfl rfl ?_
    refine aw_ialdK (w := nI (4)) (aw_d q_Mo_isQuoted 81 rfl) rfl (by (have hz := (hW.2.2.2 t ht).2; have hz1 := hW.1; omega)) rfl ((hP.2.2.2 t ht).1.trans (congrArg nI hk)) ?_
    refine aw_iconst (v := nI 1) (aw_d q_Mo_isQuoted 82 rfl) (by decide) ?_
    refine aw_icmpN_eq (tgt := 161) (aw_d q_Mo_isQuoted 83 rfl) (by decide) (by (have hz := (hW.2.2.2 t ht).2; have hz1 := hW.1; omega)) (by (have hz := (hW.2.2.2 t ht).2; have hz1 := hW.1; omega)) (fun c149 => by exfalso; (have hz := (hW.2.2.2 t ht).2; have hz1 := hW.1; omega)) (fun c149 => ?_)
    refine aw_iload (aw_d q_Mo_isQuoted 84 rfl) rfl ?_
    refine aw_ifB_eq (tgt := 161) (aw_d q_Mo_isQuoted 85 rfl) (by decide) (fun c154 => ?_) (fun c154 => ?_)
    · refine aw_iconst (v := nI 0) (aw_d q_Mo_isQuoted 88 rfl) (by decide) ?_
      exact aw_zret (aw_d q_Mo_isQuoted 89 rfl) rfl (rfl) (⟨by simp only [allB] at e; first | (rw [if_neg (by rw [e]; simpa using c154)]; done) | (rw [if_pos (by rw [e, c154]; rfl)]; done), rfl⟩)
    · refine aw_iconst (v := nI 1) (aw_d q_Mo_isQuoted 86 rfl) (by decide) ?_
      refine aw_goto (tgt := 162) (aw_d q_Mo_isQuoted 87 rfl) (by decide) ?_
      exact aw_zret (aw_d q_Mo_isQuoted 89 rfl) rfl (rfl) (⟨by simp only [allB] at e; first | (rw [if_neg (by rw [e]; simpa using c154)]; done) | (rw [if_pos (by rw [e, c154]; rfl)]; done), rfl⟩)
  | succ m ih =>
    intro k q x6 hk2 e
    refine aw_iload (aw_d q_Mo_isQuoted 46 rfl) rfl ?_
    refine aw_iload_n (aw_d q_Mo_isQuoted 47 rfl) rfl rfl ?_
    refine aw_icmpN_ge (tgt := 142) (aw_d q_Mo_isQuoted 48 rfl) (by decide) (by (have hz := (hW.2.2.2 t ht).2; have hz1 := hW.1; omega)) (by (have hz := (hW.2.2.2 t ht).2; have hz1 := hW.1; omega)) (fun c79 => by exfalso; (have hz := (hW.2.2.2 t ht).2; have hz1 := hW.1; omega)) (fun c79 => ?_)
    refine aw_aload_n (aw_d q_Mo_isQuoted 49 rfl) rfl rfl rfl ?_
    refine aw_getf (aw_d q_Mo_isQuoted 50 rfl) fL_Mo_28_Mo rfl rfl ?_
    refine aw_bipush (v := nI 20) (aw_d q_Mo_isQuoted 51 rfl) (by decide) ?_
    refine aw_iload_n (aw_d q_Mo_isQuoted 52 rfl) rfl rfl ?_
    refine aw_imulN (aw_d q_Mo_isQuoted 53 rfl) ?_
    refine aw_iload (aw_d q_Mo_isQuoted 54 rfl) rfl ?_
    refine aw_iaddN (aw_d q_Mo_isQuoted 55 rfl) ?_
    refine aw_ialdK (w := (xp_b P t k)) (aw_d q_Mo_isQuoted 56 rfl) rfl (by (have hz := (hW.2.2.2 t ht).2; have hz1 := hW.1; omega)) rfl (by show S.2 40 (20 * t + k) = _; rw [Nat.mul_comm 20 t]; exact (hP.2.2.2 t ht).2.2.2 k (by omega)) ?_
    refine aw_istore (aw_d q_Mo_isQuoted 57 rfl) (aw_le rfl) rfl ?_
    refine aw_iload (aw_d q_Mo_isQuoted 58 rfl) rfl ?_
    refine aw_ifB_ne (tgt := 129) (aw_d q_Mo_isQuoted 59 rfl) (by decide) (fun c98 => ?_) (fun c98 => ?_)
    · refine aw_iconst (v := nI 1) (aw_d q_Mo_isQuoted 72 rfl) (by decide) ?_
      refine aw_goto (tgt := 134) (aw_d q_Mo_isQuoted 73 rfl) (by decide) ?_
      refine aw_istore (aw_d q_Mo_isQuoted 75 rfl) (aw_le rfl) rfl ?_
      refine aw_iinc (aw_d q_Mo_isQuoted 76 rfl) rfl (ii1 _) (aw_le rfl) rfl ?_
      refine aw_goto (tgt := 76) (aw_d q_Mo_isQuoted 77 rfl) (by decide) ?_
      exact AW.to (ih (k + 1) true _ (by omega) (by rw [e]; simp only [allB]; first | (rw [c98]; rfl) | (rw [show w_q1 (xp_b P t k) = true from decide_eq_true (by omega)]; cases q <;> rfl))) rfl rfl rfl rfl
    · refine aw_iload (aw_d q_Mo_isQuoted 60 rfl) rfl ?_
      refine aw_bipush (v := nI 44) (aw_d q_Mo_isQuoted 61 rfl) (by decide) ?_
      refine aw_icmpI_eq (tgt := 129) (aw_d q_Mo_isQuoted 62 rfl) (by decide) (by (have hz := (hW.2.2.2 t ht).2; have hz1 := hW.1; omega)) (fun c105 => ?_) (fun c105 => ?_)
      · refine aw_iconst (v := nI 1) (aw_d q_Mo_isQuoted 72 rfl) (by decide) ?_
        refine aw_goto (tgt := 134) (aw_d q_Mo_isQuoted 73 rfl) (by decide) ?_
        refine aw_istore (aw_d q_Mo_isQuoted 75 rfl) (aw_le rfl) rfl ?_
        refine aw_iinc (aw_d q_Mo_isQuoted 76 rfl) rfl (ii1 _) (aw_le rfl) rfl ?_
        refine aw_goto (tgt := 76) (aw_d q_Mo_isQuoted 77 rfl) (by decide) ?_
        exact AW.to (ih (k + 1) true _ (by omega) (by rw [e]; simp only [allB]; first | (rw [c98]; rfl) | (rw [show w_q1 (xp_b P t k) = true from decide_eq_true (by omega)]; cases q <;> rfl))) rfl rfl rfl rfl
      · refine aw_iload (aw_d q_Mo_isQuoted 63 rfl) rfl ?_
        refine aw_bipush (v := nI 34) (aw_d q_Mo_isQuoted 64 rfl) (by decide) ?_
        refine aw_icmpI_eq (tgt := 129) (aw_d q_Mo_isQuoted 65 rfl) (by decide) (by (have hz := (hW.2.2.2 t ht).2; have hz1 := hW.1; omega)) (fun c112 => ?_) (fun c112 => ?_)
        · refine aw_iconst (v := nI 1) (aw_d q_Mo_isQuoted 72 rfl) (by decide) ?_
          refine aw_goto (tgt := 134) (aw_d q_Mo_isQuoted 73 rfl) (by decide) ?_
          refine aw_istore (aw_d q_Mo_isQuoted 75 rfl) (aw_le rfl) rfl ?_
          refine aw_iinc (aw_d q_Mo_isQuoted 76 rfl) rfl (ii1 _) (aw_le rfl) rfl ?_
          refine aw_goto (tgt := 76) (aw_d q_Mo_isQuoted 77 rfl) (by decide) ?_
          exact AW.to (ih (k + 1) true _ (by omega) (by rw [e]; simp only [allB]; first | (rw [c98]; rfl) | (rw [show w_q1 (xp_b P t k) = true from decide_eq_true (by omega)]; cases q <;> rfl))) rfl rfl rfl rfl
        · refine aw_iload (aw_d q_Mo_isQuoted 66 rfl) rfl ?_
          refine aw_bipush (v := nI 10) (aw_d q_Mo_isQuoted 67 rfl) (by decide) ?_
          refine aw_icmpI_eq (tgt := 129) (aw_d q_Mo_isQuoted 68 rfl) (by decide) (by (have hz := (hW.2.2.2 t ht).2; have hz1 := hW.1; omega)) (fun c119 => ?_) (fun c119 => ?_)
          · refine aw_iconst (v := nI 1) (aw_d q_Mo_isQuoted 72 rfl) (by decide) ?_
            refine aw_goto (tgt := 134) (aw_d q_Mo_isQuoted 73 rfl) (by decide) ?_
            refine aw_istore (aw_d q_Mo_isQuoted 75 rfl) (aw_le rfl) rfl ?_
            refine aw_iinc (aw_d q_Mo_isQuoted 76 rfl) rfl (ii1 _) (aw_le rfl) rfl ?_
            refine aw_goto (tgt := 76) (aw_d q_Mo_isQuoted 77 rfl) (by decide) ?_
            exact AW.to (ih (k + 1) true _ (by omega) (by rw [e]; simp only [allB]; first | (rw [c98]; rfl) | (rw [show w_q1 (xp_b P t k) = true from decide_eq_true (by omega)]; cases q <;> rfl))) rfl rfl rfl rfl
          · refine aw_iload (aw_d q_Mo_isQuoted 69 rfl) rfl ?_
            refine aw_bipush (v := nI 13) (aw_d q_Mo_isQuoted 70 rfl) (by decide) ?_
            refine aw_icmpI_ne (tgt := 133) (aw_d q_Mo_isQuoted 71 rfl) (by decide) (by (have hz := (hW.2.2.2 t ht).2; have hz1 := hW.1; omega)) (fun c126 => ?_) (fun c126 => ?_)
            · refine aw_iconst (v := nI 0) (aw_d q_Mo_isQuoted 74 rfl) (by decide) ?_
              refine aw_istore (aw_d q_Mo_isQuoted 75 rfl) (aw_le rfl) rfl ?_
              refine aw_iinc (aw_d q_Mo_isQuoted 76 rfl) rfl (ii1 _) (aw_le rfl) rfl ?_
              refine aw_goto (tgt := 76) (aw_d q_Mo_isQuoted 77 rfl) (by decide) ?_
              exact AW.to (ih (k + 1) false _ (by omega) (by rw [e]; simp only [allB]; rw [show q = false from by simpa using c98, show w_q1 (xp_b P t k) = false from decide_eq_false (by omega)]; rfl)) rfl rfl rfl rfl
            · refine aw_iconst (v := nI 1) (aw_d q_Mo_isQuoted 72 rfl) (by decide) ?_
              refine aw_goto (tgt := 134) (aw_d q_Mo_isQuoted 73 rfl) (by decide) ?_
              refine aw_istore (aw_d q_Mo_isQuoted 75 rfl) (aw_le rfl) rfl ?_
              refine aw_iinc (aw_d q_Mo_isQuoted 76 rfl) rfl (ii1 _) (aw_le rfl) rfl ?_
              refine aw_goto (tgt := 76) (aw_d q_Mo_isQuoted 77 rfl) (by decide) ?_
              exact AW.to (ih (k + 1) true _ (by omega) (by rw [e]; simp only [allB]; first | (rw [c98]; rfl) | (rw [show w_q1 (xp_b P t k) = true from decide_eq_true (by omega)]; cases q <;> rfl))) rfl rfl rfl rfl
set_option maxRecDepth 20000 in
theorem sp_isQuoted_4 {g : aw_G} {S : aw_S} {O : List Int32} {P : xp_T} (hP : xp_M S P) (hW : xp_wd P) {t : Nat} (ht : t < xp_t P) (hk : xp_k P t = 4) : Sp g M_Mo_isQuoted 0 0 0 0 [.ref 33, .int (nI t)] (HP (MS S O)) (fun r1 h => r1 = some (.int (if w_qu P t = true then nI 1 else nI 0)) ∧ h = HP (MS S O)) := by
  refine Sp.of rfl (aw_le rfl) ?_
  refine aw_aload_n (aw_d q_Mo_isQuoted 0 rfl) rfl rfl rfl ?_
  refine aw_getf (aw_d q_Mo_isQuoted 1 rfl) fL_Mo_25_Mo rfl rfl ?_
  refine aw_iload_n (aw_d q_Mo_isQuoted 2 rfl) rfl rfl ?_
  refine aw_ialdK (w := nI (xp_l P t)) (aw_d q_Mo_isQuoted 3 rfl) rfl (by (have hz := (hW.2.2.2 t ht).2; have hz1 := hW.1; omega)) rfl ((hP.2.2.2 t ht).2.2.1) ?_
  refine aw_istore_n (aw_d q_Mo_isQuoted 4 rfl) rfl (aw_le rfl) rfl ?_
  refine aw_iload_n (aw_d q_Mo_isQuoted 5 rfl) rfl rfl ?_
  refine aw_iconst (v := nI 1) (aw_d q_Mo_isQuoted 6 rfl) (by decide) ?_
  refine aw_icmpN_le (tgt := 46) (aw_d q_Mo_isQuoted 7 rfl) (by decide) (by (have hz := (hW.2.2.2 t ht).2; have hz1 := hW.1; omega)) (by (have hz := (hW.2.2.2 t ht).2; have hz1 := hW.1; omega)) (fun c9 => ?_) (fun c9 => ?_)
  · refine aw_iconst (v := nI 0) (aw_d q_Mo_isQuoted 28 rfl) (by decide) ?_
    refine aw_istore_n (aw_d q_Mo_isQuoted 29 rfl) rfl (aw_le rfl) rfl ?_
    refine aw_iload_n (aw_d q_Mo_isQuoted 30 rfl) rfl rfl ?_
    refine aw_ifN_ne (tgt := 66) (aw_d q_Mo_isQuoted 31 rfl) (by decide) (by (have hz := (hW.2.2.2 t ht).2; have hz1 := hW.1; omega)) (fun c49 => by exfalso; (have hz := (hW.2.2.2 t ht).2; have hz1 := hW.1; omega)) (fun c49 => ?_)
    refine aw_aload_n (aw_d q_Mo_isQuoted 32 rfl) rfl rfl rfl ?_
    refine aw_getf (aw_d q_Mo_isQuoted 33 rfl) fL_Mo_19_Mo rfl rfl ?_
    refine aw_iload_n (aw_d q_Mo_isQuoted 34 rfl) rfl rfl ?_
    refine aw_ialdK (w := nI (4)) (aw_d q_Mo_isQuoted 35 rfl) rfl (by (have hz := (hW.2.2.2 t ht).2; have hz1 := hW.1; omega)) rfl ((hP.2.2.2 t ht).1.trans (congrArg nI hk)) ?_
    refine aw_iconst (v := nI 1) (aw_d q_Mo_isQuoted 36 rfl) (by decide) ?_
    refine aw_icmpN_le (tgt := 70) (aw_d q_Mo_isQuoted 37 rfl) (by decide) (by (have hz := (hW.2.2.2 t ht).2; have hz1 := hW.1; omega)) (by (have hz := (hW.2.2.2 t ht).2; have hz1 := hW.1; omega)) (fun c59 => by exfalso; (have hz := (hW.2.2.2 t ht).2; have hz1 := hW.1; omega)) (fun c59 => ?_)
    refine aw_iload_n (aw_d q_Mo_isQuoted 38 rfl) rfl rfl ?_
    refine aw_ifN_ne (tgt := 70) (aw_d q_Mo_isQuoted 39 rfl) (by decide) (by (have hz := (hW.2.2.2 t ht).2; have hz1 := hW.1; omega)) (fun c63 => ?_) (fun c63 => ?_)
    · refine aw_iconst (v := nI 0) (aw_d q_Mo_isQuoted 42 rfl) (by decide) ?_
      refine aw_istore (aw_d q_Mo_isQuoted 43 rfl) (aw_le rfl) rfl ?_
      refine aw_iconst (v := nI 0) (aw_d q_Mo_isQuoted 44 rfl) (by decide) ?_
      refine aw_istore (aw_d q_Mo_isQuoted 45 rfl) (aw_le rfl) rfl ?_
      exact AW.to (lp_isQuoted_4 hP hW ht hk (xp_l P t) 0 false _ (by omega) (by rw [w_qu_lp (by omega) (fun q => by omega)]; rfl)) rfl rfl rfl rfl
    · refine aw_iconst (v := nI 1) (aw_d q_Mo_isQuoted 40 rfl) (by decide) ?_
      refine aw_goto (tgt := 71) (aw_d q_Mo_isQuoted 41 rfl) (by decide) ?_
      refine aw_istore (aw_d q_Mo_isQuoted 43 rfl) (aw_le rfl) rfl ?_
      refine aw_iconst (v := nI 0) (aw_d q_Mo_isQuoted 44 rfl) (by decide) ?_
      refine aw_istore (aw_d q_Mo_isQuoted 45 rfl) (aw_le rfl) rfl ?_
      exact AW.to (lp_isQuoted_4 hP hW ht hk (xp_l P t) 0 true _ (by omega) (by rw [show w_qu P t = true from by first | (refine w_qu_2 ⟨?_, ?_, ?_⟩ <;> omega; done) | (refine w_qu_1 ?_; omega; done)]; rfl)) rfl rfl rfl rfl
  · refine aw_aload_n (aw_d q_Mo_isQuoted 8 rfl) rfl rfl rfl ?_
    refine aw_getf (aw_d q_Mo_isQuoted 9 rfl) fL_Mo_28_Mo rfl rfl ?_
    refine aw_bipush (v := nI 20) (aw_d q_Mo_isQuoted 10 rfl) (by decide) ?_
    refine aw_iload_n (aw_d q_Mo_isQuoted 11 rfl) rfl rfl ?_
    refine aw_imulN (aw_d q_Mo_isQuoted 12 rfl) ?_
    refine aw_ialdK (w := (xp_b P t 0)) (aw_d q_Mo_isQuoted 13 rfl) rfl (by (have hz := (hW.2.2.2 t ht).2; have hz1 := hW.1; omega)) rfl (by show S.2 40 (20 * t) = _; rw [Nat.mul_comm 20 t]; exact (hP.2.2.2 t ht).2.2.2 0 (by omega)) ?_
    refine aw_bipush (v := nI 95) (aw_d q_Mo_isQuoted 14 rfl) (by decide) ?_
    refine aw_icmpI_ne (tgt := 46) (aw_d q_Mo_isQuoted 15 rfl) (by decide) (by (have hz := (hW.2.2.2 t ht).2; have hz1 := hW.1; omega)) (fun c23 => ?_) (fun c23 => ?_)
    · refine aw_iconst (v := nI 0) (aw_d q_Mo_isQuoted 28 rfl) (by decide) ?_
      refine aw_istore_n (aw_d q_Mo_isQuoted 29 rfl) rfl (aw_le rfl) rfl ?_
      refine aw_iload_n (aw_d q_Mo_isQuoted 30 rfl) rfl rfl ?_
      refine aw_ifN_ne (tgt := 66) (aw_d q_Mo_isQuoted 31 rfl) (by decide) (by (have hz := (hW.2.2.2 t ht).2; have hz1 := hW.1; omega)) (fun c49 => by exfalso; (have hz := (hW.2.2.2 t ht).2; have hz1 := hW.1; omega)) (fun c49 => ?_)
      refine aw_aload_n (aw_d q_Mo_isQuoted 32 rfl) rfl rfl rfl ?_
      refine aw_getf (aw_d q_Mo_isQuoted 33 rfl) fL_Mo_19_Mo rfl rfl ?_
      refine aw_iload_n (aw_d q_Mo_isQuoted 34 rfl) rfl rfl ?_
      refine aw_ialdK (w := nI (4)) (aw_d q_Mo_isQuoted 35 rfl) rfl (by (have hz := (hW.2.2.2 t ht).2; have hz1 := hW.1; omega)) rfl ((hP.2.2.2 t ht).1.trans (congrArg nI hk)) ?_
      refine aw_iconst (v := nI 1) (aw_d q_Mo_isQuoted 36 rfl) (by decide) ?_
      refine aw_icmpN_le (tgt := 70) (aw_d q_Mo_isQuoted 37 rfl) (by decide) (by (have hz := (hW.2.2.2 t ht).2; have hz1 := hW.1; omega)) (by (have hz := (hW.2.2.2 t ht).2; have hz1 := hW.1; omega)) (fun c59 => by exfalso; (have hz := (hW.2.2.2 t ht).2; have hz1 := hW.1; omega)) (fun c59 => ?_)
      refine aw_iload_n (aw_d q_Mo_isQuoted 38 rfl) rfl rfl ?_
      refine aw_ifN_ne (tgt := 70) (aw_d q_Mo_isQuoted 39 rfl) (by decide) (by (have hz := (hW.2.2.2 t ht).2; have hz1 := hW.1; omega)) (fun c63 => ?_) (fun c63 => ?_)
      · refine aw_iconst (v := nI 0) (aw_d q_Mo_isQuoted 42 rfl) (by decide) ?_
        refine aw_istore (aw_d q_Mo_isQuoted 43 rfl) (aw_le rfl) rfl ?_
        refine aw_iconst (v := nI 0) (aw_d q_Mo_isQuoted 44 rfl) (by decide) ?_
        refine aw_istore (aw_d q_Mo_isQuoted 45 rfl) (aw_le rfl) rfl ?_
        exact AW.to (lp_isQuoted_4 hP hW ht hk (xp_l P t) 0 false _ (by omega) (by rw [w_qu_lp (by omega) (fun q => by omega)]; rfl)) rfl rfl rfl rfl
      · refine aw_iconst (v := nI 1) (aw_d q_Mo_isQuoted 40 rfl) (by decide) ?_
        refine aw_goto (tgt := 71) (aw_d q_Mo_isQuoted 41 rfl) (by decide) ?_
        refine aw_istore (aw_d q_Mo_isQuoted 43 rfl) (aw_le rfl) rfl ?_
        refine aw_iconst (v := nI 0) (aw_d q_Mo_isQuoted 44 rfl) (by decide) ?_
        refine aw_istore (aw_d q_Mo_isQuoted 45 rfl) (aw_le rfl) rfl ?_
        exact AW.to (lp_isQuoted_4 hP hW ht hk (xp_l P t) 0 true _ (by omega) (by rw [show w_qu P t = true from by first | (refine w_qu_2 ⟨?_, ?_, ?_⟩ <;> omega; done) | (refine w_qu_1 ?_; omega; done)]; rfl)) rfl rfl rfl rfl
    · refine aw_aload_n (aw_d q_Mo_isQuoted 16 rfl) rfl rfl rfl ?_
      refine aw_getf (aw_d q_Mo_isQuoted 17 rfl) fL_Mo_28_Mo rfl rfl ?_
      refine aw_bipush (v := nI 20) (aw_d q_Mo_isQuoted 18 rfl) (by decide) ?_
      refine aw_iload_n (aw_d q_Mo_isQuoted 19 rfl) rfl rfl ?_
      refine aw_imulN (aw_d q_Mo_isQuoted 20 rfl) ?_
      refine aw_iconst (v := nI 1) (aw_d q_Mo_isQuoted 21 rfl) (by decide) ?_
      refine aw_iaddN (aw_d q_Mo_isQuoted 22 rfl) ?_
      refine aw_ialdK (w := (xp_b P t 1)) (aw_d q_Mo_isQuoted 23 rfl) rfl (by (have hz := (hW.2.2.2 t ht).2; have hz1 := hW.1; omega)) rfl (by show S.2 40 (20 * t + 1) = _; rw [Nat.mul_comm 20 t]; exact (hP.2.2.2 t ht).2.2.2 1 (by omega)) ?_
      refine aw_bipush (v := nI 58) (aw_d q_Mo_isQuoted 24 rfl) (by decide) ?_
      refine aw_icmpI_ne (tgt := 46) (aw_d q_Mo_isQuoted 25 rfl) (by decide) (by (have hz := (hW.2.2.2 t ht).2; have hz1 := hW.1; omega)) (fun c39 => ?_) (fun c39 => ?_)
      · refine aw_iconst (v := nI 0) (aw_d q_Mo_isQuoted 28 rfl) (by decide) ?_
        refine aw_istore_n (aw_d q_Mo_isQuoted 29 rfl) rfl (aw_le rfl) rfl ?_
        refine aw_iload_n (aw_d q_Mo_isQuoted 30 rfl) rfl rfl ?_
        refine aw_ifN_ne (tgt := 66) (aw_d q_Mo_isQuoted 31 rfl) (by decide) (by (have hz := (hW.2.2.2 t ht).2; have hz1 := hW.1; omega)) (fun c49 => by exfalso; (have hz := (hW.2.2.2 t ht).2; have hz1 := hW.1; omega)) (fun c49 => ?_)
        refine aw_aload_n (aw_d q_Mo_isQuoted 32 rfl) rfl rfl rfl ?_
        refine aw_getf (aw_d q_Mo_isQuoted 33 rfl) fL_Mo_19_Mo rfl rfl ?_
        refine aw_iload_n (aw_d q_Mo_isQuoted 34 rfl) rfl rfl ?_
        refine aw_ialdK (w := nI (4)) (aw_d q_Mo_isQuoted 35 rfl) rfl (by (have hz := (hW.2.2.2 t ht).2; have hz1 := hW.1; omega)) rfl ((hP.2.2.2 t ht).1.trans (congrArg nI hk)) ?_
        refine aw_iconst (v := nI 1) (aw_d q_Mo_isQuoted 36 rfl) (by decide) ?_
        refine aw_icmpN_le (tgt := 70) (aw_d q_Mo_isQuoted 37 rfl) (by decide) (by (have hz := (hW.2.2.2 t ht).2; have hz1 := hW.1; omega)) (by (have hz := (hW.2.2.2 t ht).2; have hz1 := hW.1; omega)) (fun c59 => by exfalso; (have hz := (hW.2.2.2 t ht).2; have hz1 := hW.1; omega)) (fun c59 => ?_)
        refine aw_iload_n (aw_d q_Mo_isQuoted 38 rfl) rfl rfl ?_
        refine aw_ifN_ne (tgt := 70) (aw_d q_Mo_isQuoted 39 rfl) (by decide) (by (have hz := (hW.2.2.2 t ht).2; have hz1 := hW.1; omega)) (fun c63 => ?_) (fun c63 => ?_)
        · refine aw_iconst (v := nI 0) (aw_d q_Mo_isQuoted 42 rfl) (by decide) ?_
          refine aw_istore (aw_d q_Mo_isQuoted 43 rfl) (aw_le rfl) rfl ?_
          refine aw_iconst (v := nI 0) (aw_d q_Mo_isQuoted 44 rfl) (by decide) ?_
          refine aw_istore (aw_d q_Mo_isQuoted 45 rfl) (aw_le rfl) rfl ?_
          exact AW.to (lp_isQuoted_4 hP hW ht hk (xp_l P t) 0 false _ (by omega) (by rw [w_qu_lp (by omega) (fun q => by omega)]; rfl)) rfl rfl rfl rfl
        · refine aw_iconst (v := nI 1) (aw_d q_Mo_isQuoted 40 rfl) (by decide) ?_
          refine aw_goto (tgt := 71) (aw_d q_Mo_isQuoted 41 rfl) (by decide) ?_
          refine aw_istore (aw_d q_Mo_isQuoted 43 rfl) (aw_le rfl) rfl ?_
          refine aw_iconst (v := nI 0) (aw_d q_Mo_isQuoted 44 rfl) (by decide) ?_
          refine aw_istore (aw_d q_Mo_isQuoted 45 rfl) (aw_le rfl) rfl ?_
          exact AW.to (lp_isQuoted_4 hP hW ht hk (xp_l P t) 0 true _ (by omega) (by rw [show w_qu P t = true from by first | (refine w_qu_2 ⟨?_, ?_, ?_⟩ <;> omega; done) | (refine w_qu_1 ?_; omega; done)]; rfl)) rfl rfl rfl rfl
      · refine aw_iconst (v := nI 1) (aw_d q_Mo_isQuoted 26 rfl) (by decide) ?_
        refine aw_goto (tgt := 47) (aw_d q_Mo_isQuoted 27 rfl) (by decide) ?_
        refine aw_istore_n (aw_d q_Mo_isQuoted 29 rfl) rfl (aw_le rfl) rfl ?_
        refine aw_iload_n (aw_d q_Mo_isQuoted 30 rfl) rfl rfl ?_
        refine aw_ifN_ne (tgt := 66) (aw_d q_Mo_isQuoted 31 rfl) (by decide) (by (have hz := (hW.2.2.2 t ht).2; have hz1 := hW.1; omega)) (fun c49 => ?_) (fun c49 => by exfalso; (have hz := (hW.2.2.2 t ht).2; have hz1 := hW.1; omega))
        refine aw_iconst (v := nI 1) (aw_d q_Mo_isQuoted 40 rfl) (by decide) ?_
        refine aw_goto (tgt := 71) (aw_d q_Mo_isQuoted 41 rfl) (by decide) ?_
        refine aw_istore (aw_d q_Mo_isQuoted 43 rfl) (aw_le rfl) rfl ?_
        refine aw_iconst (v := nI 0) (aw_d q_Mo_isQuoted 44 rfl) (by decide) ?_
        refine aw_istore (aw_d q_Mo_isQuoted 45 rfl) (aw_le rfl) rfl ?_
        exact AW.to (lp_isQuoted_4 hP hW ht hk (xp_l P t) 0 true _ (by omega) (by rw [show w_qu P t = true from by first | (refine w_qu_2 ⟨?_, ?_, ?_⟩ <;> omega; done) | (refine w_qu_1 ?_; omega; done)]; rfl)) rfl rfl rfl rfl
set_option maxRecDepth 20000 in
theorem sp_Mo_bindComma_0 {g : aw_G} {S : aw_S} {O : List Int32} {P : xp_T} (hP : xp_M S P) (hW : xp_wd P) {t : Nat} (ht : t < xp_t P) (hk : xp_k P t = 0) (hO : O.length + 1000 < 2147483648) : Sp g M_Mo_bindComma 3 69 0 0 [.ref 33, .int (nI t)] (HP (MS S O)) (fun r1 h => r1 = none ∧ h = HP (MS S (O ++ w_ct P t))) := by
  refine Sp.of rfl (aw_le rfl) ?_
  have hl0 := w_t_len (f := w_0) hW ht w_0_len
  have hl3 := w_t_len (f := w_3) hW ht w_3_len
  refine aw_aload_n (aw_d q_Mo_bindComma 0 rfl) rfl rfl rfl ?_
  refine aw_getf (aw_d q_Mo_bindComma 1 rfl) fL_Mo_19_Mo rfl rfl ?_
  refine aw_iload_n (aw_d q_Mo_bindComma 2 rfl) rfl rfl ?_
  refine aw_ialdK (w := nI (0)) (aw_d q_Mo_bindComma 3 rfl) rfl (by (have hz := (hW.2.2.2 t ht).2; have hz1 := hW.1; omega)) rfl ((hP.2.2.2 t ht).1.trans (congrArg nI hk)) ?_
  refine aw_iconst (v := nI 1) (aw_d q_Mo_bindComma 4 rfl) (by decide) ?_
  refine aw_icmpN_ne (tgt := 18) (aw_d q_Mo_bindComma 5 rfl) (by decide) (by (have hz := (hW.2.2.2 t ht).2; have hz1 := hW.1; omega)) (by (have hz := (hW.2.2.2 t ht).2; have hz1 := hW.1; omega)) (fun c7 => ?_) (fun c7 => by exfalso; (have hz := (hW.2.2.2 t ht).2; have hz1 := hW.1; omega))
  refine aw_aload_n (aw_d q_Mo_bindComma 10 rfl) rfl rfl rfl ?_
  refine aw_iload_n (aw_d q_Mo_bindComma 11 rfl) rfl rfl ?_
  refine cVr (aw_d q_Mo_bindComma 12 rfl) (sp_isQuoted_0 hP hW ht hk) vL_Mo_279_Mo rfl rfl rfl rfl rfl rfl ⟨aw_le rfl, aw_le rfl⟩ ?_
  refine aw_ifB_eq (tgt := 47) (aw_d q_Mo_bindComma 13 rfl) (by decide) (fun c23 => ?_) (fun c23 => ?_)
  · refine aw_aload_n (aw_d q_Mo_bindComma 25 rfl) rfl rfl rfl ?_
    refine aw_iload_n (aw_d q_Mo_bindComma 26 rfl) rfl rfl ?_
    refine aw_iconst (v := nI 0) (aw_d q_Mo_bindComma 27 rfl) (by decide) ?_
    refine cVv (aw_d q_Mo_bindComma 28 rfl) (sp_emitText_0 hP hW ht (by (try simp only [List.length_append, List.length_cons, List.length_nil, eB_len]); omega)) vL_Mo_203_Mo rfl rfl rfl rfl rfl rfl ⟨aw_le rfl, aw_le rfl⟩ ?_
    exact aw_vret (aw_d q_Mo_bindComma 29 rfl) rfl (⟨rfl, by simp [w_ct, hk, eb_34_0, eb_34_1, eb_34_2, eb_44_0, eb_44_1, eb_44_2, eb_62_1, eb_63_0, eb_63_1, eb_63_2, eb_91_1, eb_123_0, eb_123_1, eb_123_2, eb_8766_2, eb_11298_0, eb_11298_1, eb_11298_2, eb_11387_0, eb_11387_1, eb_11387_2, eb_14939_2, eb_24158_2, eb_24378_2, eb_26430_2, eb_27710_2, eb_2240318_3, eb_2243106_3, eb_6126973_3, eb_6634786_3, eb_6765858_3, eb_7433278_3, eb_7697001_3, eb_644314171_4, eb_644641851_4, eb_1684108389_4, eb_1919246700_4, eb_1953658213_4, eb_163799184187_5, eb_164843319355_5, eb_259668470078_5, eb_422759588965_5, eb_435426304570_5, eb_439721161573_5, eb_474176698914_5, eb_482733079074_5, eb_500136506472_5, eb_512853240933_5, eb_66174531561790_6, eb_66419075146814_6, eb_122511348035134_6, eb_9128563980975394_7, eb_16996725057414462_7, eb_30515246123868524_7, eb_2334097659363883376_8, eb_2339740318023049582_8, eb_2462380988100801893_8, eb_2466419133851988069_8, eb_3180214656604140665_8, eb_3180236698239528033_8, eb_4336793171144239470_8, eb_4336793192635852094_8, eb_4336793196931343713_8, eb_4336799750816022076_8, eb_4336804166361248353_8, eb_4336810746235415668_8, eb_4351156112845270631_8, eb_4352840508821617711_8, eb_4353970888399544684_8, eb_4355655336186377278_8, eb_4355948828431576126_8, eb_4356776833549689452_8, eb_6736589144075891573_8, eb_7286945561811696930_8, eb_7522525835761050223_8, eb_7597120025407222562_8, eb_7814997844241883746_8, eb_7943852967226007922_8, eb_8243121641139499838_8, eb_8304140937415647602_8, eb_8872769000508236346_8, eb_8872784376777351738_8, eb_8898316964945948524_8, tl_0, tl_1, tl_2, tl_3, tl_5, tl_6, tl_7, tl_8, tl_9, tl_10, tl_11, tl_12, tl_13, tl_14, tl_15, tl_16, tl_17, tl_18, tl_19, tl_20, tl_21, tl_22, tl_23, tl_24, tl_25, tl_26, tl_27, tl_28, tl_29, tl_30, tl_31, tl_32, tl_33, tl_34, tl_35, tl_36, tl_37, tl_38, tl_39, tl_40, tl_41, tl_42, tl_43, tl_44, tl_45, tl_46, tl_47, tl_48, tl_49, tl_50, tl_51, tl_52, tl_53, tl_54, tl_55, tl_56, tl_57, tl_58, tl_59, c23]⟩)
  · refine aw_aload_n (aw_d q_Mo_bindComma 14 rfl) rfl rfl rfl ?_
    refine aw_bipush (v := nI 34) (aw_d q_Mo_bindComma 15 rfl) (by decide) ?_
    refine cVv (aw_d q_Mo_bindComma 16 rfl) (sp_put1 (by (try simp only [List.length_append, List.length_cons, List.length_nil, eB_len]); omega)) vL_Mo_135_Mo rfl rfl rfl rfl rfl rfl ⟨aw_le rfl, aw_le rfl⟩ ?_
    refine aw_aload_n (aw_d q_Mo_bindComma 17 rfl) rfl rfl rfl ?_
    refine aw_iload_n (aw_d q_Mo_bindComma 18 rfl) rfl rfl ?_
    refine aw_iconst (v := nI 3) (aw_d q_Mo_bindComma 19 rfl) (by decide) ?_
    refine cVv (aw_d q_Mo_bindComma 20 rfl) (sp_emitText_3 hP hW ht (by (try simp only [List.length_append, List.length_cons, List.length_nil, eB_len]); omega)) vL_Mo_203_Mo rfl rfl rfl rfl rfl rfl ⟨aw_le rfl, aw_le rfl⟩ ?_
    refine aw_aload_n (aw_d q_Mo_bindComma 21 rfl) rfl rfl rfl ?_
    refine aw_bipush (v := nI 34) (aw_d q_Mo_bindComma 22 rfl) (by decide) ?_
    refine cVv (aw_d q_Mo_bindComma 23 rfl) (sp_put1 (by (try simp only [List.length_append, List.length_cons, List.length_nil, eB_len]); omega)) vL_Mo_135_Mo rfl rfl rfl rfl rfl rfl ⟨aw_le rfl, aw_le rfl⟩ ?_
    refine aw_goto (tgt := 53) (aw_d q_Mo_bindComma 24 rfl) (by decide) ?_
    exact aw_vret (aw_d q_Mo_bindComma 29 rfl) rfl (⟨rfl, by simp [w_ct, hk, eb_34_0, eb_34_1, eb_34_2, eb_44_0, eb_44_1, eb_44_2, eb_62_1, eb_63_0, eb_63_1, eb_63_2, eb_91_1, eb_123_0, eb_123_1, eb_123_2, eb_8766_2, eb_11298_0, eb_11298_1, eb_11298_2, eb_11387_0, eb_11387_1, eb_11387_2, eb_14939_2, eb_24158_2, eb_24378_2, eb_26430_2, eb_27710_2, eb_2240318_3, eb_2243106_3, eb_6126973_3, eb_6634786_3, eb_6765858_3, eb_7433278_3, eb_7697001_3, eb_644314171_4, eb_644641851_4, eb_1684108389_4, eb_1919246700_4, eb_1953658213_4, eb_163799184187_5, eb_164843319355_5, eb_259668470078_5, eb_422759588965_5, eb_435426304570_5, eb_439721161573_5, eb_474176698914_5, eb_482733079074_5, eb_500136506472_5, eb_512853240933_5, eb_66174531561790_6, eb_66419075146814_6, eb_122511348035134_6, eb_9128563980975394_7, eb_16996725057414462_7, eb_30515246123868524_7, eb_2334097659363883376_8, eb_2339740318023049582_8, eb_2462380988100801893_8, eb_2466419133851988069_8, eb_3180214656604140665_8, eb_3180236698239528033_8, eb_4336793171144239470_8, eb_4336793192635852094_8, eb_4336793196931343713_8, eb_4336799750816022076_8, eb_4336804166361248353_8, eb_4336810746235415668_8, eb_4351156112845270631_8, eb_4352840508821617711_8, eb_4353970888399544684_8, eb_4355655336186377278_8, eb_4355948828431576126_8, eb_4356776833549689452_8, eb_6736589144075891573_8, eb_7286945561811696930_8, eb_7522525835761050223_8, eb_7597120025407222562_8, eb_7814997844241883746_8, eb_7943852967226007922_8, eb_8243121641139499838_8, eb_8304140937415647602_8, eb_8872769000508236346_8, eb_8872784376777351738_8, eb_8898316964945948524_8, tl_0, tl_1, tl_2, tl_3, tl_5, tl_6, tl_7, tl_8, tl_9, tl_10, tl_11, tl_12, tl_13, tl_14, tl_15, tl_16, tl_17, tl_18, tl_19, tl_20, tl_21, tl_22, tl_23, tl_24, tl_25, tl_26, tl_27, tl_28, tl_29, tl_30, tl_31, tl_32, tl_33, tl_34, tl_35, tl_36, tl_37, tl_38, tl_39, tl_40, tl_41, tl_42, tl_43, tl_44, tl_45, tl_46, tl_47, tl_48, tl_49, tl_50, tl_51, tl_52, tl_53, tl_54, tl_55, tl_56, tl_57, tl_58, tl_59, c23]⟩)
set_option maxRecDepth 20000 in
theorem sp_Mo_bindComma_1 {g : aw_G} {S : aw_S} {O : List Int32} {P : xp_T} (hP : xp_M S P) (hW : xp_wd P) {t : Nat} (ht : t < xp_t P) (hk : xp_k P t = 1) (hO : O.length + 1000 < 2147483648) : Sp g M_Mo_bindComma 3 69 0 0 [.ref 33, .int (nI t)] (HP (MS S O)) (fun r1 h => r1 = none ∧ h = HP (MS S (O ++ w_ct P t))) := by
  refine Sp.of rfl (aw_le rfl) ?_
  have hl0 := w_t_len (f := w_0) hW ht w_0_len
  have hl3 := w_t_len (f := w_3) hW ht w_3_len
  refine aw_aload_n (aw_d q_Mo_bindComma 0 rfl) rfl rfl rfl ?_
  refine aw_getf (aw_d q_Mo_bindComma 1 rfl) fL_Mo_19_Mo rfl rfl ?_
  refine aw_iload_n (aw_d q_Mo_bindComma 2 rfl) rfl rfl ?_
  refine aw_ialdK (w := nI (1)) (aw_d q_Mo_bindComma 3 rfl) rfl (by (have hz := (hW.2.2.2 t ht).2; have hz1 := hW.1; omega)) rfl ((hP.2.2.2 t ht).1.trans (congrArg nI hk)) ?_
  refine aw_iconst (v := nI 1) (aw_d q_Mo_bindComma 4 rfl) (by decide) ?_
  refine aw_icmpN_ne (tgt := 18) (aw_d q_Mo_bindComma 5 rfl) (by decide) (by (have hz := (hW.2.2.2 t ht).2; have hz1 := hW.1; omega)) (by (have hz := (hW.2.2.2 t ht).2; have hz1 := hW.1; omega)) (fun c7 => by exfalso; (have hz := (hW.2.2.2 t ht).2; have hz1 := hW.1; omega)) (fun c7 => ?_)
  refine aw_aload_n (aw_d q_Mo_bindComma 6 rfl) rfl rfl rfl ?_
  refine aw_ldc2 (aw_d q_Mo_bindComma 7 rfl) lL_Mo_277 ?_
  refine aw_iconst (v := nI 2) (aw_d q_Mo_bindComma 8 rfl) (by decide) ?_
  refine cVv (aw_d q_Mo_bindComma 9 rfl) (sp_emit (by (try simp only [List.length_append, List.length_cons, List.length_nil, eB_len]); omega)) vL_Mo_141_Mo rfl rfl rfl rfl rfl rfl ⟨aw_le rfl, aw_le rfl⟩ ?_
  refine aw_aload_n (aw_d q_Mo_bindComma 10 rfl) rfl rfl rfl ?_
  refine aw_iload_n (aw_d q_Mo_bindComma 11 rfl) rfl rfl ?_
  refine cVr (aw_d q_Mo_bindComma 12 rfl) (sp_isQuoted_1 hP hW ht hk) vL_Mo_279_Mo rfl rfl rfl rfl rfl rfl ⟨aw_le rfl, aw_le rfl⟩ ?_
  refine aw_ifN_eq (tgt := 47) (aw_d q_Mo_bindComma 13 rfl) (by decide) (by (have hz := (hW.2.2.2 t ht).2; have hz1 := hW.1; omega)) (fun c23 => ?_) (fun c23 => by exfalso; (have hz := (hW.2.2.2 t ht).2; have hz1 := hW.1; omega))
  refine aw_aload_n (aw_d q_Mo_bindComma 25 rfl) rfl rfl rfl ?_
  refine aw_iload_n (aw_d q_Mo_bindComma 26 rfl) rfl rfl ?_
  refine aw_iconst (v := nI 0) (aw_d q_Mo_bindComma 27 rfl) (by decide) ?_
  refine cVv (aw_d q_Mo_bindComma 28 rfl) (sp_emitText_0 hP hW ht (by (try simp only [List.length_append, List.length_cons, List.length_nil, eB_len]); omega)) vL_Mo_203_Mo rfl rfl rfl rfl rfl rfl ⟨aw_le rfl, aw_le rfl⟩ ?_
  exact aw_vret (aw_d q_Mo_bindComma 29 rfl) rfl (⟨rfl, by simp [w_ct, hk, eb_34_0, eb_34_1, eb_34_2, eb_44_0, eb_44_1, eb_44_2, eb_62_1, eb_63_0, eb_63_1, eb_63_2, eb_91_1, eb_123_0, eb_123_1, eb_123_2, eb_8766_2, eb_11298_0, eb_11298_1, eb_11298_2, eb_11387_0, eb_11387_1, eb_11387_2, eb_14939_2, eb_24158_2, eb_24378_2, eb_26430_2, eb_27710_2, eb_2240318_3, eb_2243106_3, eb_6126973_3, eb_6634786_3, eb_6765858_3, eb_7433278_3, eb_7697001_3, eb_644314171_4, eb_644641851_4, eb_1684108389_4, eb_1919246700_4, eb_1953658213_4, eb_163799184187_5, eb_164843319355_5, eb_259668470078_5, eb_422759588965_5, eb_435426304570_5, eb_439721161573_5, eb_474176698914_5, eb_482733079074_5, eb_500136506472_5, eb_512853240933_5, eb_66174531561790_6, eb_66419075146814_6, eb_122511348035134_6, eb_9128563980975394_7, eb_16996725057414462_7, eb_30515246123868524_7, eb_2334097659363883376_8, eb_2339740318023049582_8, eb_2462380988100801893_8, eb_2466419133851988069_8, eb_3180214656604140665_8, eb_3180236698239528033_8, eb_4336793171144239470_8, eb_4336793192635852094_8, eb_4336793196931343713_8, eb_4336799750816022076_8, eb_4336804166361248353_8, eb_4336810746235415668_8, eb_4351156112845270631_8, eb_4352840508821617711_8, eb_4353970888399544684_8, eb_4355655336186377278_8, eb_4355948828431576126_8, eb_4356776833549689452_8, eb_6736589144075891573_8, eb_7286945561811696930_8, eb_7522525835761050223_8, eb_7597120025407222562_8, eb_7814997844241883746_8, eb_7943852967226007922_8, eb_8243121641139499838_8, eb_8304140937415647602_8, eb_8872769000508236346_8, eb_8872784376777351738_8, eb_8898316964945948524_8, tl_0, tl_1, tl_2, tl_3, tl_5, tl_6, tl_7, tl_8, tl_9, tl_10, tl_11, tl_12, tl_13, tl_14, tl_15, tl_16, tl_17, tl_18, tl_19, tl_20, tl_21, tl_22, tl_23, tl_24, tl_25, tl_26, tl_27, tl_28, tl_29, tl_30, tl_31, tl_32, tl_33, tl_34, tl_35, tl_36, tl_37, tl_38, tl_39, tl_40, tl_41, tl_42, tl_43, tl_44, tl_45, tl_46, tl_47, tl_48, tl_49, tl_50, tl_51, tl_52, tl_53, tl_54, tl_55, tl_56, tl_57, tl_58, tl_59]⟩)
set_option maxRecDepth 20000 in
theorem sp_Mo_bindComma_2 {g : aw_G} {S : aw_S} {O : List Int32} {P : xp_T} (hP : xp_M S P) (hW : xp_wd P) {t : Nat} (ht : t < xp_t P) (hk : xp_k P t = 2) (hO : O.length + 1000 < 2147483648) : Sp g M_Mo_bindComma 3 69 0 0 [.ref 33, .int (nI t)] (HP (MS S O)) (fun r1 h => r1 = none ∧ h = HP (MS S (O ++ w_ct P t))) := by
  refine Sp.of rfl (aw_le rfl) ?_
  have hl0 := w_t_len (f := w_0) hW ht w_0_len
  have hl3 := w_t_len (f := w_3) hW ht w_3_len
  refine aw_aload_n (aw_d q_Mo_bindComma 0 rfl) rfl rfl rfl ?_
  refine aw_getf (aw_d q_Mo_bindComma 1 rfl) fL_Mo_19_Mo rfl rfl ?_
  refine aw_iload_n (aw_d q_Mo_bindComma 2 rfl) rfl rfl ?_
  refine aw_ialdK (w := nI (2)) (aw_d q_Mo_bindComma 3 rfl) rfl (by (have hz := (hW.2.2.2 t ht).2; have hz1 := hW.1; omega)) rfl ((hP.2.2.2 t ht).1.trans (congrArg nI hk)) ?_
  refine aw_iconst (v := nI 1) (aw_d q_Mo_bindComma 4 rfl) (by decide) ?_
  refine aw_icmpN_ne (tgt := 18) (aw_d q_Mo_bindComma 5 rfl) (by decide) (by (have hz := (hW.2.2.2 t ht).2; have hz1 := hW.1; omega)) (by (have hz := (hW.2.2.2 t ht).2; have hz1 := hW.1; omega)) (fun c7 => ?_) (fun c7 => by exfalso; (have hz := (hW.2.2.2 t ht).2; have hz1 := hW.1; omega))
  refine aw_aload_n (aw_d q_Mo_bindComma 10 rfl) rfl rfl rfl ?_
  refine aw_iload_n (aw_d q_Mo_bindComma 11 rfl) rfl rfl ?_
  refine cVr (aw_d q_Mo_bindComma 12 rfl) (sp_isQuoted_2 hP hW ht hk) vL_Mo_279_Mo rfl rfl rfl rfl rfl rfl ⟨aw_le rfl, aw_le rfl⟩ ?_
  refine aw_ifB_eq (tgt := 47) (aw_d q_Mo_bindComma 13 rfl) (by decide) (fun c23 => ?_) (fun c23 => ?_)
  · refine aw_aload_n (aw_d q_Mo_bindComma 25 rfl) rfl rfl rfl ?_
    refine aw_iload_n (aw_d q_Mo_bindComma 26 rfl) rfl rfl ?_
    refine aw_iconst (v := nI 0) (aw_d q_Mo_bindComma 27 rfl) (by decide) ?_
    refine cVv (aw_d q_Mo_bindComma 28 rfl) (sp_emitText_0 hP hW ht (by (try simp only [List.length_append, List.length_cons, List.length_nil, eB_len]); omega)) vL_Mo_203_Mo rfl rfl rfl rfl rfl rfl ⟨aw_le rfl, aw_le rfl⟩ ?_
    exact aw_vret (aw_d q_Mo_bindComma 29 rfl) rfl (⟨rfl, by simp [w_ct, hk, eb_34_0, eb_34_1, eb_34_2, eb_44_0, eb_44_1, eb_44_2, eb_62_1, eb_63_0, eb_63_1, eb_63_2, eb_91_1, eb_123_0, eb_123_1, eb_123_2, eb_8766_2, eb_11298_0, eb_11298_1, eb_11298_2, eb_11387_0, eb_11387_1, eb_11387_2, eb_14939_2, eb_24158_2, eb_24378_2, eb_26430_2, eb_27710_2, eb_2240318_3, eb_2243106_3, eb_6126973_3, eb_6634786_3, eb_6765858_3, eb_7433278_3, eb_7697001_3, eb_644314171_4, eb_644641851_4, eb_1684108389_4, eb_1919246700_4, eb_1953658213_4, eb_163799184187_5, eb_164843319355_5, eb_259668470078_5, eb_422759588965_5, eb_435426304570_5, eb_439721161573_5, eb_474176698914_5, eb_482733079074_5, eb_500136506472_5, eb_512853240933_5, eb_66174531561790_6, eb_66419075146814_6, eb_122511348035134_6, eb_9128563980975394_7, eb_16996725057414462_7, eb_30515246123868524_7, eb_2334097659363883376_8, eb_2339740318023049582_8, eb_2462380988100801893_8, eb_2466419133851988069_8, eb_3180214656604140665_8, eb_3180236698239528033_8, eb_4336793171144239470_8, eb_4336793192635852094_8, eb_4336793196931343713_8, eb_4336799750816022076_8, eb_4336804166361248353_8, eb_4336810746235415668_8, eb_4351156112845270631_8, eb_4352840508821617711_8, eb_4353970888399544684_8, eb_4355655336186377278_8, eb_4355948828431576126_8, eb_4356776833549689452_8, eb_6736589144075891573_8, eb_7286945561811696930_8, eb_7522525835761050223_8, eb_7597120025407222562_8, eb_7814997844241883746_8, eb_7943852967226007922_8, eb_8243121641139499838_8, eb_8304140937415647602_8, eb_8872769000508236346_8, eb_8872784376777351738_8, eb_8898316964945948524_8, tl_0, tl_1, tl_2, tl_3, tl_5, tl_6, tl_7, tl_8, tl_9, tl_10, tl_11, tl_12, tl_13, tl_14, tl_15, tl_16, tl_17, tl_18, tl_19, tl_20, tl_21, tl_22, tl_23, tl_24, tl_25, tl_26, tl_27, tl_28, tl_29, tl_30, tl_31, tl_32, tl_33, tl_34, tl_35, tl_36, tl_37, tl_38, tl_39, tl_40, tl_41, tl_42, tl_43, tl_44, tl_45, tl_46, tl_47, tl_48, tl_49, tl_50, tl_51, tl_52, tl_53, tl_54, tl_55, tl_56, tl_57, tl_58, tl_59, c23]⟩)
  · refine aw_aload_n (aw_d q_Mo_bindComma 14 rfl) rfl rfl rfl ?_
    refine aw_bipush (v := nI 34) (aw_d q_Mo_bindComma 15 rfl) (by decide) ?_
    refine cVv (aw_d q_Mo_bindComma 16 rfl) (sp_put1 (by (try simp only [List.length_append, List.length_cons, List.length_nil, eB_len]); omega)) vL_Mo_135_Mo rfl rfl rfl rfl rfl rfl ⟨aw_le rfl, aw_le rfl⟩ ?_
    refine aw_aload_n (aw_d q_Mo_bindComma 17 rfl) rfl rfl rfl ?_
    refine aw_iload_n (aw_d q_Mo_bindComma 18 rfl) rfl rfl ?_
    refine aw_iconst (v := nI 3) (aw_d q_Mo_bindComma 19 rfl) (by decide) ?_
    refine cVv (aw_d q_Mo_bindComma 20 rfl) (sp_emitText_3 hP hW ht (by (try simp only [List.length_append, List.length_cons, List.length_nil, eB_len]); omega)) vL_Mo_203_Mo rfl rfl rfl rfl rfl rfl ⟨aw_le rfl, aw_le rfl⟩ ?_
    refine aw_aload_n (aw_d q_Mo_bindComma 21 rfl) rfl rfl rfl ?_
    refine aw_bipush (v := nI 34) (aw_d q_Mo_bindComma 22 rfl) (by decide) ?_
    refine cVv (aw_d q_Mo_bindComma 23 rfl) (sp_put1 (by (try simp only [List.length_append, List.length_cons, List.length_nil, eB_len]); omega)) vL_Mo_135_Mo rfl rfl rfl rfl rfl rfl ⟨aw_le rfl, aw_le rfl⟩ ?_
    refine aw_goto (tgt := 53) (aw_d q_Mo_bindComma 24 rfl) (by decide) ?_
    exact aw_vret (aw_d q_Mo_bindComma 29 rfl) rfl (⟨rfl, by simp [w_ct, hk, eb_34_0, eb_34_1, eb_34_2, eb_44_0, eb_44_1, eb_44_2, eb_62_1, eb_63_0, eb_63_1, eb_63_2, eb_91_1, eb_123_0, eb_123_1, eb_123_2, eb_8766_2, eb_11298_0, eb_11298_1, eb_11298_2, eb_11387_0, eb_11387_1, eb_11387_2, eb_14939_2, eb_24158_2, eb_24378_2, eb_26430_2, eb_27710_2, eb_2240318_3, eb_2243106_3, eb_6126973_3, eb_6634786_3, eb_6765858_3, eb_7433278_3, eb_7697001_3, eb_644314171_4, eb_644641851_4, eb_1684108389_4, eb_1919246700_4, eb_1953658213_4, eb_163799184187_5, eb_164843319355_5, eb_259668470078_5, eb_422759588965_5, eb_435426304570_5, eb_439721161573_5, eb_474176698914_5, eb_482733079074_5, eb_500136506472_5, eb_512853240933_5, eb_66174531561790_6, eb_66419075146814_6, eb_122511348035134_6, eb_9128563980975394_7, eb_16996725057414462_7, eb_30515246123868524_7, eb_2334097659363883376_8, eb_2339740318023049582_8, eb_2462380988100801893_8, eb_2466419133851988069_8, eb_3180214656604140665_8, eb_3180236698239528033_8, eb_4336793171144239470_8, eb_4336793192635852094_8, eb_4336793196931343713_8, eb_4336799750816022076_8, eb_4336804166361248353_8, eb_4336810746235415668_8, eb_4351156112845270631_8, eb_4352840508821617711_8, eb_4353970888399544684_8, eb_4355655336186377278_8, eb_4355948828431576126_8, eb_4356776833549689452_8, eb_6736589144075891573_8, eb_7286945561811696930_8, eb_7522525835761050223_8, eb_7597120025407222562_8, eb_7814997844241883746_8, eb_7943852967226007922_8, eb_8243121641139499838_8, eb_8304140937415647602_8, eb_8872769000508236346_8, eb_8872784376777351738_8, eb_8898316964945948524_8, tl_0, tl_1, tl_2, tl_3, tl_5, tl_6, tl_7, tl_8, tl_9, tl_10, tl_11, tl_12, tl_13, tl_14, tl_15, tl_16, tl_17, tl_18, tl_19, tl_20, tl_21, tl_22, tl_23, tl_24, tl_25, tl_26, tl_27, tl_28, tl_29, tl_30, tl_31, tl_32, tl_33, tl_34, tl_35, tl_36, tl_37, tl_38, tl_39, tl_40, tl_41, tl_42, tl_43, tl_44, tl_45, tl_46, tl_47, tl_48, tl_49, tl_50, tl_51, tl_52, tl_53, tl_54, tl_55, tl_56, tl_57, tl_58, tl_59, c23]⟩)
set_option maxRecDepth 20000 in
theorem sp_Mo_bindComma_3 {g : aw_G} {S : aw_S} {O : List Int32} {P : xp_T} (hP : xp_M S P) (hW : xp_wd P) {t : Nat} (ht : t < xp_t P) (hk : xp_k P t = 3) (hO : O.length + 1000 < 2147483648) : Sp g M_Mo_bindComma 3 69 0 0 [.ref 33, .int (nI t)] (HP (MS S O)) (fun r1 h => r1 = none ∧ h = HP (MS S (O ++ w_ct P t))) := by
  refine Sp.of rfl (aw_le rfl) ?_
  have hl0 := w_t_len (f := w_0) hW ht w_0_len
  have hl3 := w_t_len (f := w_3) hW ht w_3_len
  refine aw_aload_n (aw_d q_Mo_bindComma 0 rfl) rfl rfl rfl ?_
  refine aw_getf (aw_d q_Mo_bindComma 1 rfl) fL_Mo_19_Mo rfl rfl ?_
  refine aw_iload_n (aw_d q_Mo_bindComma 2 rfl) rfl rfl ?_
  refine aw_ialdK (w := nI (3)) (aw_d q_Mo_bindComma 3 rfl) rfl (by (have hz := (hW.2.2.2 t ht).2; have hz1 := hW.1; omega)) rfl ((hP.2.2.2 t ht).1.trans (congrArg nI hk)) ?_
  refine aw_iconst (v := nI 1) (aw_d q_Mo_bindComma 4 rfl) (by decide) ?_
  refine aw_icmpN_ne (tgt := 18) (aw_d q_Mo_bindComma 5 rfl) (by decide) (by (have hz := (hW.2.2.2 t ht).2; have hz1 := hW.1; omega)) (by (have hz := (hW.2.2.2 t ht).2; have hz1 := hW.1; omega)) (fun c7 => ?_) (fun c7 => by exfalso; (have hz := (hW.2.2.2 t ht).2; have hz1 := hW.1; omega))
  refine aw_aload_n (aw_d q_Mo_bindComma 10 rfl) rfl rfl rfl ?_
  refine aw_iload_n (aw_d q_Mo_bindComma 11 rfl) rfl rfl ?_
  refine cVr (aw_d q_Mo_bindComma 12 rfl) (sp_isQuoted_3 hP hW ht hk) vL_Mo_279_Mo rfl rfl rfl rfl rfl rfl ⟨aw_le rfl, aw_le rfl⟩ ?_
  refine aw_ifB_eq (tgt := 47) (aw_d q_Mo_bindComma 13 rfl) (by decide) (fun c23 => ?_) (fun c23 => ?_)
  · refine aw_aload_n (aw_d q_Mo_bindComma 25 rfl) rfl rfl rfl ?_
    refine aw_iload_n (aw_d q_Mo_bindComma 26 rfl) rfl rfl ?_
    refine aw_iconst (v := nI 0) (aw_d q_Mo_bindComma 27 rfl) (by decide) ?_
    refine cVv (aw_d q_Mo_bindComma 28 rfl) (sp_emitText_0 hP hW ht (by (try simp only [List.length_append, List.length_cons, List.length_nil, eB_len]); omega)) vL_Mo_203_Mo rfl rfl rfl rfl rfl rfl ⟨aw_le rfl, aw_le rfl⟩ ?_
    exact aw_vret (aw_d q_Mo_bindComma 29 rfl) rfl (⟨rfl, by simp [w_ct, hk, eb_34_0, eb_34_1, eb_34_2, eb_44_0, eb_44_1, eb_44_2, eb_62_1, eb_63_0, eb_63_1, eb_63_2, eb_91_1, eb_123_0, eb_123_1, eb_123_2, eb_8766_2, eb_11298_0, eb_11298_1, eb_11298_2, eb_11387_0, eb_11387_1, eb_11387_2, eb_14939_2, eb_24158_2, eb_24378_2, eb_26430_2, eb_27710_2, eb_2240318_3, eb_2243106_3, eb_6126973_3, eb_6634786_3, eb_6765858_3, eb_7433278_3, eb_7697001_3, eb_644314171_4, eb_644641851_4, eb_1684108389_4, eb_1919246700_4, eb_1953658213_4, eb_163799184187_5, eb_164843319355_5, eb_259668470078_5, eb_422759588965_5, eb_435426304570_5, eb_439721161573_5, eb_474176698914_5, eb_482733079074_5, eb_500136506472_5, eb_512853240933_5, eb_66174531561790_6, eb_66419075146814_6, eb_122511348035134_6, eb_9128563980975394_7, eb_16996725057414462_7, eb_30515246123868524_7, eb_2334097659363883376_8, eb_2339740318023049582_8, eb_2462380988100801893_8, eb_2466419133851988069_8, eb_3180214656604140665_8, eb_3180236698239528033_8, eb_4336793171144239470_8, eb_4336793192635852094_8, eb_4336793196931343713_8, eb_4336799750816022076_8, eb_4336804166361248353_8, eb_4336810746235415668_8, eb_4351156112845270631_8, eb_4352840508821617711_8, eb_4353970888399544684_8, eb_4355655336186377278_8, eb_4355948828431576126_8, eb_4356776833549689452_8, eb_6736589144075891573_8, eb_7286945561811696930_8, eb_7522525835761050223_8, eb_7597120025407222562_8, eb_7814997844241883746_8, eb_7943852967226007922_8, eb_8243121641139499838_8, eb_8304140937415647602_8, eb_8872769000508236346_8, eb_8872784376777351738_8, eb_8898316964945948524_8, tl_0, tl_1, tl_2, tl_3, tl_5, tl_6, tl_7, tl_8, tl_9, tl_10, tl_11, tl_12, tl_13, tl_14, tl_15, tl_16, tl_17, tl_18, tl_19, tl_20, tl_21, tl_22, tl_23, tl_24, tl_25, tl_26, tl_27, tl_28, tl_29, tl_30, tl_31, tl_32, tl_33, tl_34, tl_35, tl_36, tl_37, tl_38, tl_39, tl_40, tl_41, tl_42, tl_43, tl_44, tl_45, tl_46, tl_47, tl_48, tl_49, tl_50, tl_51, tl_52, tl_53, tl_54, tl_55, tl_56, tl_57, tl_58, tl_59, c23]⟩)
  · refine aw_aload_n (aw_d q_Mo_bindComma 14 rfl) rfl rfl rfl ?_
    refine aw_bipush (v := nI 34) (aw_d q_Mo_bindComma 15 rfl) (by decide) ?_
    refine cVv (aw_d q_Mo_bindComma 16 rfl) (sp_put1 (by (try simp only [List.length_append, List.length_cons, List.length_nil, eB_len]); omega)) vL_Mo_135_Mo rfl rfl rfl rfl rfl rfl ⟨aw_le rfl, aw_le rfl⟩ ?_
    refine aw_aload_n (aw_d q_Mo_bindComma 17 rfl) rfl rfl rfl ?_
    refine aw_iload_n (aw_d q_Mo_bindComma 18 rfl) rfl rfl ?_
    refine aw_iconst (v := nI 3) (aw_d q_Mo_bindComma 19 rfl) (by decide) ?_
    refine cVv (aw_d q_Mo_bindComma 20 rfl) (sp_emitText_3 hP hW ht (by (try simp only [List.length_append, List.length_cons, List.length_nil, eB_len]); omega)) vL_Mo_203_Mo rfl rfl rfl rfl rfl rfl ⟨aw_le rfl, aw_le rfl⟩ ?_
    refine aw_aload_n (aw_d q_Mo_bindComma 21 rfl) rfl rfl rfl ?_
    refine aw_bipush (v := nI 34) (aw_d q_Mo_bindComma 22 rfl) (by decide) ?_
    refine cVv (aw_d q_Mo_bindComma 23 rfl) (sp_put1 (by (try simp only [List.length_append, List.length_cons, List.length_nil, eB_len]); omega)) vL_Mo_135_Mo rfl rfl rfl rfl rfl rfl ⟨aw_le rfl, aw_le rfl⟩ ?_
    refine aw_goto (tgt := 53) (aw_d q_Mo_bindComma 24 rfl) (by decide) ?_
    exact aw_vret (aw_d q_Mo_bindComma 29 rfl) rfl (⟨rfl, by simp [w_ct, hk, eb_34_0, eb_34_1, eb_34_2, eb_44_0, eb_44_1, eb_44_2, eb_62_1, eb_63_0, eb_63_1, eb_63_2, eb_91_1, eb_123_0, eb_123_1, eb_123_2, eb_8766_2, eb_11298_0, eb_11298_1, eb_11298_2, eb_11387_0, eb_11387_1, eb_11387_2, eb_14939_2, eb_24158_2, eb_24378_2, eb_26430_2, eb_27710_2, eb_2240318_3, eb_2243106_3, eb_6126973_3, eb_6634786_3, eb_6765858_3, eb_7433278_3, eb_7697001_3, eb_644314171_4, eb_644641851_4, eb_1684108389_4, eb_1919246700_4, eb_1953658213_4, eb_163799184187_5, eb_164843319355_5, eb_259668470078_5, eb_422759588965_5, eb_435426304570_5, eb_439721161573_5, eb_474176698914_5, eb_482733079074_5, eb_500136506472_5, eb_512853240933_5, eb_66174531561790_6, eb_66419075146814_6, eb_122511348035134_6, eb_9128563980975394_7, eb_16996725057414462_7, eb_30515246123868524_7, eb_2334097659363883376_8, eb_2339740318023049582_8, eb_2462380988100801893_8, eb_2466419133851988069_8, eb_3180214656604140665_8, eb_3180236698239528033_8, eb_4336793171144239470_8, eb_4336793192635852094_8, eb_4336793196931343713_8, eb_4336799750816022076_8, eb_4336804166361248353_8, eb_4336810746235415668_8, eb_4351156112845270631_8, eb_4352840508821617711_8, eb_4353970888399544684_8, eb_4355655336186377278_8, eb_4355948828431576126_8, eb_4356776833549689452_8, eb_6736589144075891573_8, eb_7286945561811696930_8, eb_7522525835761050223_8, eb_7597120025407222562_8, eb_7814997844241883746_8, eb_7943852967226007922_8, eb_8243121641139499838_8, eb_8304140937415647602_8, eb_8872769000508236346_8, eb_8872784376777351738_8, eb_8898316964945948524_8, tl_0, tl_1, tl_2, tl_3, tl_5, tl_6, tl_7, tl_8, tl_9, tl_10, tl_11, tl_12, tl_13, tl_14, tl_15, tl_16, tl_17, tl_18, tl_19, tl_20, tl_21, tl_22, tl_23, tl_24, tl_25, tl_26, tl_27, tl_28, tl_29, tl_30, tl_31, tl_32, tl_33, tl_34, tl_35, tl_36, tl_37, tl_38, tl_39, tl_40, tl_41, tl_42, tl_43, tl_44, tl_45, tl_46, tl_47, tl_48, tl_49, tl_50, tl_51, tl_52, tl_53, tl_54, tl_55, tl_56, tl_57, tl_58, tl_59, c23]⟩)
set_option maxRecDepth 20000 in
theorem sp_Mo_bindComma_4 {g : aw_G} {S : aw_S} {O : List Int32} {P : xp_T} (hP : xp_M S P) (hW : xp_wd P) {t : Nat} (ht : t < xp_t P) (hk : xp_k P t = 4) (hO : O.length + 1000 < 2147483648) : Sp g M_Mo_bindComma 3 69 0 0 [.ref 33, .int (nI t)] (HP (MS S O)) (fun r1 h => r1 = none ∧ h = HP (MS S (O ++ w_ct P t))) := by
  refine Sp.of rfl (aw_le rfl) ?_
  have hl0 := w_t_len (f := w_0) hW ht w_0_len
  have hl3 := w_t_len (f := w_3) hW ht w_3_len
  refine aw_aload_n (aw_d q_Mo_bindComma 0 rfl) rfl rfl rfl ?_
  refine aw_getf (aw_d q_Mo_bindComma 1 rfl) fL_Mo_19_Mo rfl rfl ?_
  refine aw_iload_n (aw_d q_Mo_bindComma 2 rfl) rfl rfl ?_
  refine aw_ialdK (w := nI (4)) (aw_d q_Mo_bindComma 3 rfl) rfl (by (have hz := (hW.2.2.2 t ht).2; have hz1 := hW.1; omega)) rfl ((hP.2.2.2 t ht).1.trans (congrArg nI hk)) ?_
  refine aw_iconst (v := nI 1) (aw_d q_Mo_bindComma 4 rfl) (by decide) ?_
  refine aw_icmpN_ne (tgt := 18) (aw_d q_Mo_bindComma 5 rfl) (by decide) (by (have hz := (hW.2.2.2 t ht).2; have hz1 := hW.1; omega)) (by (have hz := (hW.2.2.2 t ht).2; have hz1 := hW.1; omega)) (fun c7 => ?_) (fun c7 => by exfalso; (have hz := (hW.2.2.2 t ht).2; have hz1 := hW.1; omega))
  refine aw_aload_n (aw_d q_Mo_bindComma 10 rfl) rfl rfl rfl ?_
  refine aw_iload_n (aw_d q_Mo_bindComma 11 rfl) rfl rfl ?_
  refine cVr (aw_d q_Mo_bindComma 12 rfl) (sp_isQuoted_4 hP hW ht hk) vL_Mo_279_Mo rfl rfl rfl rfl rfl rfl ⟨aw_le rfl, aw_le rfl⟩ ?_
  refine aw_ifB_eq (tgt := 47) (aw_d q_Mo_bindComma 13 rfl) (by decide) (fun c23 => ?_) (fun c23 => ?_)
  · refine aw_aload_n (aw_d q_Mo_bindComma 25 rfl) rfl rfl rfl ?_
    refine aw_iload_n (aw_d q_Mo_bindComma 26 rfl) rfl rfl ?_
    refine aw_iconst (v := nI 0) (aw_d q_Mo_bindComma 27 rfl) (by decide) ?_
    refine cVv (aw_d q_Mo_bindComma 28 rfl) (sp_emitText_0 hP hW ht (by (try simp only [List.length_append, List.length_cons, List.length_nil, eB_len]); omega)) vL_Mo_203_Mo rfl rfl rfl rfl rfl rfl ⟨aw_le rfl, aw_le rfl⟩ ?_
    exact aw_vret (aw_d q_Mo_bindComma 29 rfl) rfl (⟨rfl, by simp [w_ct, hk, eb_34_0, eb_34_1, eb_34_2, eb_44_0, eb_44_1, eb_44_2, eb_62_1, eb_63_0, eb_63_1, eb_63_2, eb_91_1, eb_123_0, eb_123_1, eb_123_2, eb_8766_2, eb_11298_0, eb_11298_1, eb_11298_2, eb_11387_0, eb_11387_1, eb_11387_2, eb_14939_2, eb_24158_2, eb_24378_2, eb_26430_2, eb_27710_2, eb_2240318_3, eb_2243106_3, eb_6126973_3, eb_6634786_3, eb_6765858_3, eb_7433278_3, eb_7697001_3, eb_644314171_4, eb_644641851_4, eb_1684108389_4, eb_1919246700_4, eb_1953658213_4, eb_163799184187_5, eb_164843319355_5, eb_259668470078_5, eb_422759588965_5, eb_435426304570_5, eb_439721161573_5, eb_474176698914_5, eb_482733079074_5, eb_500136506472_5, eb_512853240933_5, eb_66174531561790_6, eb_66419075146814_6, eb_122511348035134_6, eb_9128563980975394_7, eb_16996725057414462_7, eb_30515246123868524_7, eb_2334097659363883376_8, eb_2339740318023049582_8, eb_2462380988100801893_8, eb_2466419133851988069_8, eb_3180214656604140665_8, eb_3180236698239528033_8, eb_4336793171144239470_8, eb_4336793192635852094_8, eb_4336793196931343713_8, eb_4336799750816022076_8, eb_4336804166361248353_8, eb_4336810746235415668_8, eb_4351156112845270631_8, eb_4352840508821617711_8, eb_4353970888399544684_8, eb_4355655336186377278_8, eb_4355948828431576126_8, eb_4356776833549689452_8, eb_6736589144075891573_8, eb_7286945561811696930_8, eb_7522525835761050223_8, eb_7597120025407222562_8, eb_7814997844241883746_8, eb_7943852967226007922_8, eb_8243121641139499838_8, eb_8304140937415647602_8, eb_8872769000508236346_8, eb_8872784376777351738_8, eb_8898316964945948524_8, tl_0, tl_1, tl_2, tl_3, tl_5, tl_6, tl_7, tl_8, tl_9, tl_10, tl_11, tl_12, tl_13, tl_14, tl_15, tl_16, tl_17, tl_18, tl_19, tl_20, tl_21, tl_22, tl_23, tl_24, tl_25, tl_26, tl_27, tl_28, tl_29, tl_30, tl_31, tl_32, tl_33, tl_34, tl_35, tl_36, tl_37, tl_38, tl_39, tl_40, tl_41, tl_42, tl_43, tl_44, tl_45, tl_46, tl_47, tl_48, tl_49, tl_50, tl_51, tl_52, tl_53, tl_54, tl_55, tl_56, tl_57, tl_58, tl_59, c23]⟩)
  · refine aw_aload_n (aw_d q_Mo_bindComma 14 rfl) rfl rfl rfl ?_
    refine aw_bipush (v := nI 34) (aw_d q_Mo_bindComma 15 rfl) (by decide) ?_
    refine cVv (aw_d q_Mo_bindComma 16 rfl) (sp_put1 (by (try simp only [List.length_append, List.length_cons, List.length_nil, eB_len]); omega)) vL_Mo_135_Mo rfl rfl rfl rfl rfl rfl ⟨aw_le rfl, aw_le rfl⟩ ?_
    refine aw_aload_n (aw_d q_Mo_bindComma 17 rfl) rfl rfl rfl ?_
    refine aw_iload_n (aw_d q_Mo_bindComma 18 rfl) rfl rfl ?_
    refine aw_iconst (v := nI 3) (aw_d q_Mo_bindComma 19 rfl) (by decide) ?_
    refine cVv (aw_d q_Mo_bindComma 20 rfl) (sp_emitText_3 hP hW ht (by (try simp only [List.length_append, List.length_cons, List.length_nil, eB_len]); omega)) vL_Mo_203_Mo rfl rfl rfl rfl rfl rfl ⟨aw_le rfl, aw_le rfl⟩ ?_
    refine aw_aload_n (aw_d q_Mo_bindComma 21 rfl) rfl rfl rfl ?_
    refine aw_bipush (v := nI 34) (aw_d q_Mo_bindComma 22 rfl) (by decide) ?_
    refine cVv (aw_d q_Mo_bindComma 23 rfl) (sp_put1 (by (try simp only [List.length_append, List.length_cons, List.length_nil, eB_len]); omega)) vL_Mo_135_Mo rfl rfl rfl rfl rfl rfl ⟨aw_le rfl, aw_le rfl⟩ ?_
    refine aw_goto (tgt := 53) (aw_d q_Mo_bindComma 24 rfl) (by decide) ?_
    exact aw_vret (aw_d q_Mo_bindComma 29 rfl) rfl (⟨rfl, by simp [w_ct, hk, eb_34_0, eb_34_1, eb_34_2, eb_44_0, eb_44_1, eb_44_2, eb_62_1, eb_63_0, eb_63_1, eb_63_2, eb_91_1, eb_123_0, eb_123_1, eb_123_2, eb_8766_2, eb_11298_0, eb_11298_1, eb_11298_2, eb_11387_0, eb_11387_1, eb_11387_2, eb_14939_2, eb_24158_2, eb_24378_2, eb_26430_2, eb_27710_2, eb_2240318_3, eb_2243106_3, eb_6126973_3, eb_6634786_3, eb_6765858_3, eb_7433278_3, eb_7697001_3, eb_644314171_4, eb_644641851_4, eb_1684108389_4, eb_1919246700_4, eb_1953658213_4, eb_163799184187_5, eb_164843319355_5, eb_259668470078_5, eb_422759588965_5, eb_435426304570_5, eb_439721161573_5, eb_474176698914_5, eb_482733079074_5, eb_500136506472_5, eb_512853240933_5, eb_66174531561790_6, eb_66419075146814_6, eb_122511348035134_6, eb_9128563980975394_7, eb_16996725057414462_7, eb_30515246123868524_7, eb_2334097659363883376_8, eb_2339740318023049582_8, eb_2462380988100801893_8, eb_2466419133851988069_8, eb_3180214656604140665_8, eb_3180236698239528033_8, eb_4336793171144239470_8, eb_4336793192635852094_8, eb_4336793196931343713_8, eb_4336799750816022076_8, eb_4336804166361248353_8, eb_4336810746235415668_8, eb_4351156112845270631_8, eb_4352840508821617711_8, eb_4353970888399544684_8, eb_4355655336186377278_8, eb_4355948828431576126_8, eb_4356776833549689452_8, eb_6736589144075891573_8, eb_7286945561811696930_8, eb_7522525835761050223_8, eb_7597120025407222562_8, eb_7814997844241883746_8, eb_7943852967226007922_8, eb_8243121641139499838_8, eb_8304140937415647602_8, eb_8872769000508236346_8, eb_8872784376777351738_8, eb_8898316964945948524_8, tl_0, tl_1, tl_2, tl_3, tl_5, tl_6, tl_7, tl_8, tl_9, tl_10, tl_11, tl_12, tl_13, tl_14, tl_15, tl_16, tl_17, tl_18, tl_19, tl_20, tl_21, tl_22, tl_23, tl_24, tl_25, tl_26, tl_27, tl_28, tl_29, tl_30, tl_31, tl_32, tl_33, tl_34, tl_35, tl_36, tl_37, tl_38, tl_39, tl_40, tl_41, tl_42, tl_43, tl_44, tl_45, tl_46, tl_47, tl_48, tl_49, tl_50, tl_51, tl_52, tl_53, tl_54, tl_55, tl_56, tl_57, tl_58, tl_59, c23]⟩)
theorem sp_Mo_bindComma {g : aw_G} {S : aw_S} {O : List Int32} {P : xp_T} (hP : xp_M S P) (hW : xp_wd P) {t : Nat} (ht : t < xp_t P) (hO : O.length + 1000 < 2147483648) : Sp g M_Mo_bindComma 3 69 0 0 [.ref 33, .int (nI t)] (HP (MS S O)) (fun r h => r = none ∧ h = HP (MS S (O ++ w_ct P t))) := by
  rcases (show xp_k P t = 0 ∨ xp_k P t = 1 ∨ xp_k P t = 2 ∨ xp_k P t = 3 ∨ xp_k P t = 4 by have := (hW.2.2.2 t ht).1; omega) with h | h | h | h | h
  · exact sp_Mo_bindComma_0 hP hW ht h hO
  · exact sp_Mo_bindComma_1 hP hW ht h hO
  · exact sp_Mo_bindComma_2 hP hW ht h hO
  · exact sp_Mo_bindComma_3 hP hW ht h hO
  · exact sp_Mo_bindComma_4 hP hW ht h hO
set_option maxRecDepth 20000 in
theorem sp_Mo_bindTab_0 {g : aw_G} {S : aw_S} {O : List Int32} {P : xp_T} (hP : xp_M S P) (hW : xp_wd P) {t : Nat} (ht : t < xp_t P) (hk : xp_k P t = 0) (hO : O.length + 1000 < 2147483648) : Sp g M_Mo_bindTab 3 69 0 0 [.ref 33, .int (nI t)] (HP (MS S O)) (fun r1 h => r1 = none ∧ h = HP (MS S (O ++ w_tt P t))) := by
  refine Sp.of rfl (aw_le rfl) ?_
  have hl0 := w_t_len (f := w_0) hW ht w_0_len
  have hl1 := w_t_len (f := w_1) hW ht w_1_len
  refine aw_aload_n (aw_d q_Mo_bindTab 0 rfl) rfl rfl rfl ?_
  refine aw_getf (aw_d q_Mo_bindTab 1 rfl) fL_Mo_19_Mo rfl rfl ?_
  refine aw_iload_n (aw_d q_Mo_bindTab 2 rfl) rfl rfl ?_
  refine aw_ialdK (w := nI (0)) (aw_d q_Mo_bindTab 3 rfl) rfl (by (have hz := (hW.2.2.2 t ht).2; have hz1 := hW.1; omega)) rfl ((hP.2.2.2 t ht).1.trans (congrArg nI hk)) ?_
  refine aw_ifN_ne (tgt := 30) (aw_d q_Mo_bindTab 4 rfl) (by decide) (by (have hz := (hW.2.2.2 t ht).2; have hz1 := hW.1; omega)) (fun c6 => by exfalso; (have hz := (hW.2.2.2 t ht).2; have hz1 := hW.1; omega)) (fun c6 => ?_)
  refine aw_aload_n (aw_d q_Mo_bindTab 5 rfl) rfl rfl rfl ?_
  refine aw_bipush (v := nI 60) (aw_d q_Mo_bindTab 6 rfl) (by decide) ?_
  refine cVv (aw_d q_Mo_bindTab 7 rfl) (sp_put1 (by (try simp only [List.length_append, List.length_cons, List.length_nil, eB_len]); omega)) vL_Mo_135_Mo rfl rfl rfl rfl rfl rfl ⟨aw_le rfl, aw_le rfl⟩ ?_
  refine aw_aload_n (aw_d q_Mo_bindTab 8 rfl) rfl rfl rfl ?_
  refine aw_iload_n (aw_d q_Mo_bindTab 9 rfl) rfl rfl ?_
  refine aw_iconst (v := nI 0) (aw_d q_Mo_bindTab 10 rfl) (by decide) ?_
  refine cVv (aw_d q_Mo_bindTab 11 rfl) (sp_emitText_0 hP hW ht (by (try simp only [List.length_append, List.length_cons, List.length_nil, eB_len]); omega)) vL_Mo_203_Mo rfl rfl rfl rfl rfl rfl ⟨aw_le rfl, aw_le rfl⟩ ?_
  refine aw_aload_n (aw_d q_Mo_bindTab 12 rfl) rfl rfl rfl ?_
  refine aw_bipush (v := nI 62) (aw_d q_Mo_bindTab 13 rfl) (by decide) ?_
  refine cVv (aw_d q_Mo_bindTab 14 rfl) (sp_put1 (by (try simp only [List.length_append, List.length_cons, List.length_nil, eB_len]); omega)) vL_Mo_135_Mo rfl rfl rfl rfl rfl rfl ⟨aw_le rfl, aw_le rfl⟩ ?_
  refine aw_goto (tgt := 127) (aw_d q_Mo_bindTab 15 rfl) (by decide) ?_
  exact aw_vret (aw_d q_Mo_bindTab 70 rfl) rfl (⟨rfl, by simp [w_tt, hk, eb_34_0, eb_34_1, eb_34_2, eb_44_0, eb_44_1, eb_44_2, eb_62_1, eb_63_0, eb_63_1, eb_63_2, eb_91_1, eb_123_0, eb_123_1, eb_123_2, eb_8766_2, eb_11298_0, eb_11298_1, eb_11298_2, eb_11387_0, eb_11387_1, eb_11387_2, eb_14939_2, eb_24158_2, eb_24378_2, eb_26430_2, eb_27710_2, eb_2240318_3, eb_2243106_3, eb_6126973_3, eb_6634786_3, eb_6765858_3, eb_7433278_3, eb_7697001_3, eb_644314171_4, eb_644641851_4, eb_1684108389_4, eb_1919246700_4, eb_1953658213_4, eb_163799184187_5, eb_164843319355_5, eb_259668470078_5, eb_422759588965_5, eb_435426304570_5, eb_439721161573_5, eb_474176698914_5, eb_482733079074_5, eb_500136506472_5, eb_512853240933_5, eb_66174531561790_6, eb_66419075146814_6, eb_122511348035134_6, eb_9128563980975394_7, eb_16996725057414462_7, eb_30515246123868524_7, eb_2334097659363883376_8, eb_2339740318023049582_8, eb_2462380988100801893_8, eb_2466419133851988069_8, eb_3180214656604140665_8, eb_3180236698239528033_8, eb_4336793171144239470_8, eb_4336793192635852094_8, eb_4336793196931343713_8, eb_4336799750816022076_8, eb_4336804166361248353_8, eb_4336810746235415668_8, eb_4351156112845270631_8, eb_4352840508821617711_8, eb_4353970888399544684_8, eb_4355655336186377278_8, eb_4355948828431576126_8, eb_4356776833549689452_8, eb_6736589144075891573_8, eb_7286945561811696930_8, eb_7522525835761050223_8, eb_7597120025407222562_8, eb_7814997844241883746_8, eb_7943852967226007922_8, eb_8243121641139499838_8, eb_8304140937415647602_8, eb_8872769000508236346_8, eb_8872784376777351738_8, eb_8898316964945948524_8, tl_0, tl_1, tl_2, tl_3, tl_5, tl_6, tl_7, tl_8, tl_9, tl_10, tl_11, tl_12, tl_13, tl_14, tl_15, tl_16, tl_17, tl_18, tl_19, tl_20, tl_21, tl_22, tl_23, tl_24, tl_25, tl_26, tl_27, tl_28, tl_29, tl_30, tl_31, tl_32, tl_33, tl_34, tl_35, tl_36, tl_37, tl_38, tl_39, tl_40, tl_41, tl_42, tl_43, tl_44, tl_45, tl_46, tl_47, tl_48, tl_49, tl_50, tl_51, tl_52, tl_53, tl_54, tl_55, tl_56, tl_57, tl_58, tl_59]⟩)
set_option maxRecDepth 20000 in
theorem sp_Mo_bindTab_1 {g : aw_G} {S : aw_S} {O : List Int32} {P : xp_T} (hP : xp_M S P) (hW : xp_wd P) {t : Nat} (ht : t < xp_t P) (hk : xp_k P t = 1) (hO : O.length + 1000 < 2147483648) : Sp g M_Mo_bindTab 3 69 0 0 [.ref 33, .int (nI t)] (HP (MS S O)) (fun r1 h => r1 = none ∧ h = HP (MS S (O ++ w_tt P t))) := by
  refine Sp.of rfl (aw_le rfl) ?_
  have hl0 := w_t_len (f := w_0) hW ht w_0_len
  have hl1 := w_t_len (f := w_1) hW ht w_1_len
  refine aw_aload_n (aw_d q_Mo_bindTab 0 rfl) rfl rfl rfl ?_
  refine aw_getf (aw_d q_Mo_bindTab 1 rfl) fL_Mo_19_Mo rfl rfl ?_
  refine aw_iload_n (aw_d q_Mo_bindTab 2 rfl) rfl rfl ?_
  refine aw_ialdK (w := nI (1)) (aw_d q_Mo_bindTab 3 rfl) rfl (by (have hz := (hW.2.2.2 t ht).2; have hz1 := hW.1; omega)) rfl ((hP.2.2.2 t ht).1.trans (congrArg nI hk)) ?_
  refine aw_ifN_ne (tgt := 30) (aw_d q_Mo_bindTab 4 rfl) (by decide) (by (have hz := (hW.2.2.2 t ht).2; have hz1 := hW.1; omega)) (fun c6 => ?_) (fun c6 => by exfalso; (have hz := (hW.2.2.2 t ht).2; have hz1 := hW.1; omega))
  refine aw_aload_n (aw_d q_Mo_bindTab 16 rfl) rfl rfl rfl ?_
  refine aw_getf (aw_d q_Mo_bindTab 17 rfl) fL_Mo_19_Mo rfl rfl ?_
  refine aw_iload_n (aw_d q_Mo_bindTab 18 rfl) rfl rfl ?_
  refine aw_ialdK (w := nI (1)) (aw_d q_Mo_bindTab 19 rfl) rfl (by (have hz := (hW.2.2.2 t ht).2; have hz1 := hW.1; omega)) rfl ((hP.2.2.2 t ht).1.trans (congrArg nI hk)) ?_
  refine aw_iconst (v := nI 1) (aw_d q_Mo_bindTab 20 rfl) (by decide) ?_
  refine aw_icmpN_ne (tgt := 57) (aw_d q_Mo_bindTab 21 rfl) (by decide) (by (have hz := (hW.2.2.2 t ht).2; have hz1 := hW.1; omega)) (by (have hz := (hW.2.2.2 t ht).2; have hz1 := hW.1; omega)) (fun c37 => by exfalso; (have hz := (hW.2.2.2 t ht).2; have hz1 := hW.1; omega)) (fun c37 => ?_)
  refine aw_aload_n (aw_d q_Mo_bindTab 22 rfl) rfl rfl rfl ?_
  refine aw_ldc2 (aw_d q_Mo_bindTab 23 rfl) lL_Mo_277 ?_
  refine aw_iconst (v := nI 2) (aw_d q_Mo_bindTab 24 rfl) (by decide) ?_
  refine cVv (aw_d q_Mo_bindTab 25 rfl) (sp_emit (by (try simp only [List.length_append, List.length_cons, List.length_nil, eB_len]); omega)) vL_Mo_141_Mo rfl rfl rfl rfl rfl rfl ⟨aw_le rfl, aw_le rfl⟩ ?_
  refine aw_aload_n (aw_d q_Mo_bindTab 26 rfl) rfl rfl rfl ?_
  refine aw_iload_n (aw_d q_Mo_bindTab 27 rfl) rfl rfl ?_
  refine aw_iconst (v := nI 0) (aw_d q_Mo_bindTab 28 rfl) (by decide) ?_
  refine cVv (aw_d q_Mo_bindTab 29 rfl) (sp_emitText_0 hP hW ht (by (try simp only [List.length_append, List.length_cons, List.length_nil, eB_len]); omega)) vL_Mo_203_Mo rfl rfl rfl rfl rfl rfl ⟨aw_le rfl, aw_le rfl⟩ ?_
  refine aw_goto (tgt := 127) (aw_d q_Mo_bindTab 30 rfl) (by decide) ?_
  exact aw_vret (aw_d q_Mo_bindTab 70 rfl) rfl (⟨rfl, by simp [w_tt, hk, eb_34_0, eb_34_1, eb_34_2, eb_44_0, eb_44_1, eb_44_2, eb_62_1, eb_63_0, eb_63_1, eb_63_2, eb_91_1, eb_123_0, eb_123_1, eb_123_2, eb_8766_2, eb_11298_0, eb_11298_1, eb_11298_2, eb_11387_0, eb_11387_1, eb_11387_2, eb_14939_2, eb_24158_2, eb_24378_2, eb_26430_2, eb_27710_2, eb_2240318_3, eb_2243106_3, eb_6126973_3, eb_6634786_3, eb_6765858_3, eb_7433278_3, eb_7697001_3, eb_644314171_4, eb_644641851_4, eb_1684108389_4, eb_1919246700_4, eb_1953658213_4, eb_163799184187_5, eb_164843319355_5, eb_259668470078_5, eb_422759588965_5, eb_435426304570_5, eb_439721161573_5, eb_474176698914_5, eb_482733079074_5, eb_500136506472_5, eb_512853240933_5, eb_66174531561790_6, eb_66419075146814_6, eb_122511348035134_6, eb_9128563980975394_7, eb_16996725057414462_7, eb_30515246123868524_7, eb_2334097659363883376_8, eb_2339740318023049582_8, eb_2462380988100801893_8, eb_2466419133851988069_8, eb_3180214656604140665_8, eb_3180236698239528033_8, eb_4336793171144239470_8, eb_4336793192635852094_8, eb_4336793196931343713_8, eb_4336799750816022076_8, eb_4336804166361248353_8, eb_4336810746235415668_8, eb_4351156112845270631_8, eb_4352840508821617711_8, eb_4353970888399544684_8, eb_4355655336186377278_8, eb_4355948828431576126_8, eb_4356776833549689452_8, eb_6736589144075891573_8, eb_7286945561811696930_8, eb_7522525835761050223_8, eb_7597120025407222562_8, eb_7814997844241883746_8, eb_7943852967226007922_8, eb_8243121641139499838_8, eb_8304140937415647602_8, eb_8872769000508236346_8, eb_8872784376777351738_8, eb_8898316964945948524_8, tl_0, tl_1, tl_2, tl_3, tl_5, tl_6, tl_7, tl_8, tl_9, tl_10, tl_11, tl_12, tl_13, tl_14, tl_15, tl_16, tl_17, tl_18, tl_19, tl_20, tl_21, tl_22, tl_23, tl_24, tl_25, tl_26, tl_27, tl_28, tl_29, tl_30, tl_31, tl_32, tl_33, tl_34, tl_35, tl_36, tl_37, tl_38, tl_39, tl_40, tl_41, tl_42, tl_43, tl_44, tl_45, tl_46, tl_47, tl_48, tl_49, tl_50, tl_51, tl_52, tl_53, tl_54, tl_55, tl_56, tl_57, tl_58, tl_59]⟩)
set_option maxRecDepth 20000 in
theorem sp_Mo_bindTab_2 {g : aw_G} {S : aw_S} {O : List Int32} {P : xp_T} (hP : xp_M S P) (hW : xp_wd P) {t : Nat} (ht : t < xp_t P) (hk : xp_k P t = 2) (hO : O.length + 1000 < 2147483648) : Sp g M_Mo_bindTab 3 69 0 0 [.ref 33, .int (nI t)] (HP (MS S O)) (fun r1 h => r1 = none ∧ h = HP (MS S (O ++ w_tt P t))) := by
  refine Sp.of rfl (aw_le rfl) ?_
  have hl0 := w_t_len (f := w_0) hW ht w_0_len
  have hl1 := w_t_len (f := w_1) hW ht w_1_len
  refine aw_aload_n (aw_d q_Mo_bindTab 0 rfl) rfl rfl rfl ?_
  refine aw_getf (aw_d q_Mo_bindTab 1 rfl) fL_Mo_19_Mo rfl rfl ?_
  refine aw_iload_n (aw_d q_Mo_bindTab 2 rfl) rfl rfl ?_
  refine aw_ialdK (w := nI (2)) (aw_d q_Mo_bindTab 3 rfl) rfl (by (have hz := (hW.2.2.2 t ht).2; have hz1 := hW.1; omega)) rfl ((hP.2.2.2 t ht).1.trans (congrArg nI hk)) ?_
  refine aw_ifN_ne (tgt := 30) (aw_d q_Mo_bindTab 4 rfl) (by decide) (by (have hz := (hW.2.2.2 t ht).2; have hz1 := hW.1; omega)) (fun c6 => ?_) (fun c6 => by exfalso; (have hz := (hW.2.2.2 t ht).2; have hz1 := hW.1; omega))
  refine aw_aload_n (aw_d q_Mo_bindTab 16 rfl) rfl rfl rfl ?_
  refine aw_getf (aw_d q_Mo_bindTab 17 rfl) fL_Mo_19_Mo rfl rfl ?_
  refine aw_iload_n (aw_d q_Mo_bindTab 18 rfl) rfl rfl ?_
  refine aw_ialdK (w := nI (2)) (aw_d q_Mo_bindTab 19 rfl) rfl (by (have hz := (hW.2.2.2 t ht).2; have hz1 := hW.1; omega)) rfl ((hP.2.2.2 t ht).1.trans (congrArg nI hk)) ?_
  refine aw_iconst (v := nI 1) (aw_d q_Mo_bindTab 20 rfl) (by decide) ?_
  refine aw_icmpN_ne (tgt := 57) (aw_d q_Mo_bindTab 21 rfl) (by decide) (by (have hz := (hW.2.2.2 t ht).2; have hz1 := hW.1; omega)) (by (have hz := (hW.2.2.2 t ht).2; have hz1 := hW.1; omega)) (fun c37 => ?_) (fun c37 => by exfalso; (have hz := (hW.2.2.2 t ht).2; have hz1 := hW.1; omega))
  refine aw_aload_n (aw_d q_Mo_bindTab 31 rfl) rfl rfl rfl ?_
  refine aw_bipush (v := nI 34) (aw_d q_Mo_bindTab 32 rfl) (by decide) ?_
  refine cVv (aw_d q_Mo_bindTab 33 rfl) (sp_put1 (by (try simp only [List.length_append, List.length_cons, List.length_nil, eB_len]); omega)) vL_Mo_135_Mo rfl rfl rfl rfl rfl rfl ⟨aw_le rfl, aw_le rfl⟩ ?_
  refine aw_aload_n (aw_d q_Mo_bindTab 34 rfl) rfl rfl rfl ?_
  refine aw_iload_n (aw_d q_Mo_bindTab 35 rfl) rfl rfl ?_
  refine aw_iconst (v := nI 1) (aw_d q_Mo_bindTab 36 rfl) (by decide) ?_
  refine cVv (aw_d q_Mo_bindTab 37 rfl) (sp_emitText_1 hP hW ht (by (try simp only [List.length_append, List.length_cons, List.length_nil, eB_len]); omega)) vL_Mo_203_Mo rfl rfl rfl rfl rfl rfl ⟨aw_le rfl, aw_le rfl⟩ ?_
  refine aw_aload_n (aw_d q_Mo_bindTab 38 rfl) rfl rfl rfl ?_
  refine aw_bipush (v := nI 34) (aw_d q_Mo_bindTab 39 rfl) (by decide) ?_
  refine cVv (aw_d q_Mo_bindTab 40 rfl) (sp_put1 (by (try simp only [List.length_append, List.length_cons, List.length_nil, eB_len]); omega)) vL_Mo_135_Mo rfl rfl rfl rfl rfl rfl ⟨aw_le rfl, aw_le rfl⟩ ?_
  refine aw_aload_n (aw_d q_Mo_bindTab 41 rfl) rfl rfl rfl ?_
  refine aw_getf (aw_d q_Mo_bindTab 42 rfl) fL_Mo_19_Mo rfl rfl ?_
  refine aw_iload_n (aw_d q_Mo_bindTab 43 rfl) rfl rfl ?_
  refine aw_ialdK (w := nI (2)) (aw_d q_Mo_bindTab 44 rfl) rfl (by (have hz := (hW.2.2.2 t ht).2; have hz1 := hW.1; omega)) rfl ((hP.2.2.2 t ht).1.trans (congrArg nI hk)) ?_
  refine aw_iconst (v := nI 3) (aw_d q_Mo_bindTab 45 rfl) (by decide) ?_
  refine aw_icmpN_ne (tgt := 94) (aw_d q_Mo_bindTab 46 rfl) (by decide) (by (have hz := (hW.2.2.2 t ht).2; have hz1 := hW.1; omega)) (by (have hz := (hW.2.2.2 t ht).2; have hz1 := hW.1; omega)) (fun c82 => ?_) (fun c82 => by exfalso; (have hz := (hW.2.2.2 t ht).2; have hz1 := hW.1; omega))
  refine aw_aload_n (aw_d q_Mo_bindTab 51 rfl) rfl rfl rfl ?_
  refine aw_getf (aw_d q_Mo_bindTab 52 rfl) fL_Mo_19_Mo rfl rfl ?_
  refine aw_iload_n (aw_d q_Mo_bindTab 53 rfl) rfl rfl ?_
  refine aw_ialdK (w := nI (2)) (aw_d q_Mo_bindTab 54 rfl) rfl (by (have hz := (hW.2.2.2 t ht).2; have hz1 := hW.1; omega)) rfl ((hP.2.2.2 t ht).1.trans (congrArg nI hk)) ?_
  refine aw_iconst (v := nI 4) (aw_d q_Mo_bindTab 55 rfl) (by decide) ?_
  refine aw_icmpN_ne (tgt := 112) (aw_d q_Mo_bindTab 56 rfl) (by decide) (by (have hz := (hW.2.2.2 t ht).2; have hz1 := hW.1; omega)) (by (have hz := (hW.2.2.2 t ht).2; have hz1 := hW.1; omega)) (fun c101 => ?_) (fun c101 => by exfalso; (have hz := (hW.2.2.2 t ht).2; have hz1 := hW.1; omega))
  refine aw_aload_n (aw_d q_Mo_bindTab 61 rfl) rfl rfl rfl ?_
  refine aw_getf (aw_d q_Mo_bindTab 62 rfl) fL_Mo_19_Mo rfl rfl ?_
  refine aw_iload_n (aw_d q_Mo_bindTab 63 rfl) rfl rfl ?_
  refine aw_ialdK (w := nI (2)) (aw_d q_Mo_bindTab 64 rfl) rfl (by (have hz := (hW.2.2.2 t ht).2; have hz1 := hW.1; omega)) rfl ((hP.2.2.2 t ht).1.trans (congrArg nI hk)) ?_
  refine aw_iconst (v := nI 2) (aw_d q_Mo_bindTab 65 rfl) (by decide) ?_
  refine aw_icmpN_le (tgt := 127) (aw_d q_Mo_bindTab 66 rfl) (by decide) (by (have hz := (hW.2.2.2 t ht).2; have hz1 := hW.1; omega)) (by (have hz := (hW.2.2.2 t ht).2; have hz1 := hW.1; omega)) (fun c119 => ?_) (fun c119 => by exfalso; (have hz := (hW.2.2.2 t ht).2; have hz1 := hW.1; omega))
  exact aw_vret (aw_d q_Mo_bindTab 70 rfl) rfl (⟨rfl, by simp [w_tt, hk, eb_34_0, eb_34_1, eb_34_2, eb_44_0, eb_44_1, eb_44_2, eb_62_1, eb_63_0, eb_63_1, eb_63_2, eb_91_1, eb_123_0, eb_123_1, eb_123_2, eb_8766_2, eb_11298_0, eb_11298_1, eb_11298_2, eb_11387_0, eb_11387_1, eb_11387_2, eb_14939_2, eb_24158_2, eb_24378_2, eb_26430_2, eb_27710_2, eb_2240318_3, eb_2243106_3, eb_6126973_3, eb_6634786_3, eb_6765858_3, eb_7433278_3, eb_7697001_3, eb_644314171_4, eb_644641851_4, eb_1684108389_4, eb_1919246700_4, eb_1953658213_4, eb_163799184187_5, eb_164843319355_5, eb_259668470078_5, eb_422759588965_5, eb_435426304570_5, eb_439721161573_5, eb_474176698914_5, eb_482733079074_5, eb_500136506472_5, eb_512853240933_5, eb_66174531561790_6, eb_66419075146814_6, eb_122511348035134_6, eb_9128563980975394_7, eb_16996725057414462_7, eb_30515246123868524_7, eb_2334097659363883376_8, eb_2339740318023049582_8, eb_2462380988100801893_8, eb_2466419133851988069_8, eb_3180214656604140665_8, eb_3180236698239528033_8, eb_4336793171144239470_8, eb_4336793192635852094_8, eb_4336793196931343713_8, eb_4336799750816022076_8, eb_4336804166361248353_8, eb_4336810746235415668_8, eb_4351156112845270631_8, eb_4352840508821617711_8, eb_4353970888399544684_8, eb_4355655336186377278_8, eb_4355948828431576126_8, eb_4356776833549689452_8, eb_6736589144075891573_8, eb_7286945561811696930_8, eb_7522525835761050223_8, eb_7597120025407222562_8, eb_7814997844241883746_8, eb_7943852967226007922_8, eb_8243121641139499838_8, eb_8304140937415647602_8, eb_8872769000508236346_8, eb_8872784376777351738_8, eb_8898316964945948524_8, tl_0, tl_1, tl_2, tl_3, tl_5, tl_6, tl_7, tl_8, tl_9, tl_10, tl_11, tl_12, tl_13, tl_14, tl_15, tl_16, tl_17, tl_18, tl_19, tl_20, tl_21, tl_22, tl_23, tl_24, tl_25, tl_26, tl_27, tl_28, tl_29, tl_30, tl_31, tl_32, tl_33, tl_34, tl_35, tl_36, tl_37, tl_38, tl_39, tl_40, tl_41, tl_42, tl_43, tl_44, tl_45, tl_46, tl_47, tl_48, tl_49, tl_50, tl_51, tl_52, tl_53, tl_54, tl_55, tl_56, tl_57, tl_58, tl_59]⟩)
set_option maxRecDepth 20000 in
theorem sp_Mo_bindTab_3 {g : aw_G} {S : aw_S} {O : List Int32} {P : xp_T} (hP : xp_M S P) (hW : xp_wd P) {t : Nat} (ht : t < xp_t P) (hk : xp_k P t = 3) (hO : O.length + 1000 < 2147483648) : Sp g M_Mo_bindTab 3 69 0 0 [.ref 33, .int (nI t)] (HP (MS S O)) (fun r1 h => r1 = none ∧ h = HP (MS S (O ++ w_tt P t))) := by
  refine Sp.of rfl (aw_le rfl) ?_
  have hl0 := w_t_len (f := w_0) hW ht w_0_len
  have hl1 := w_t_len (f := w_1) hW ht w_1_len
  have hle := w_e_len hW ht (by omega)
  refine aw_aload_n (aw_d q_Mo_bindTab 0 rfl) rfl rfl rfl ?_
  refine aw_getf (aw_d q_Mo_bindTab 1 rfl) fL_Mo_19_Mo rfl rfl ?_
  refine aw_iload_n (aw_d q_Mo_bindTab 2 rfl) rfl rfl ?_
  refine aw_ialdK (w := nI (3)) (aw_d q_Mo_bindTab 3 rfl) rfl (by (have hz := (hW.2.2.2 t ht).2; have hz1 := hW.1; omega)) rfl ((hP.2.2.2 t ht).1.trans (congrArg nI hk)) ?_
  refine aw_ifN_ne (tgt := 30) (aw_d q_Mo_bindTab 4 rfl) (by decide) (by (have hz := (hW.2.2.2 t ht).2; have hz1 := hW.1; omega)) (fun c6 => ?_) (fun c6 => by exfalso; (have hz := (hW.2.2.2 t ht).2; have hz1 := hW.1; omega))
  refine aw_aload_n (aw_d q_Mo_bindTab 16 rfl) rfl rfl rfl ?_
  refine aw_getf (aw_d q_Mo_bindTab 17 rfl) fL_Mo_19_Mo rfl rfl ?_
  refine aw_iload_n (aw_d q_Mo_bindTab 18 rfl) rfl rfl ?_
  refine aw_ialdK (w := nI (3)) (aw_d q_Mo_bindTab 19 rfl) rfl (by (have hz := (hW.2.2.2 t ht).2; have hz1 := hW.1; omega)) rfl ((hP.2.2.2 t ht).1.trans (congrArg nI hk)) ?_
  refine aw_iconst (v := nI 1) (aw_d q_Mo_bindTab 20 rfl) (by decide) ?_
  refine aw_icmpN_ne (tgt := 57) (aw_d q_Mo_bindTab 21 rfl) (by decide) (by (have hz := (hW.2.2.2 t ht).2; have hz1 := hW.1; omega)) (by (have hz := (hW.2.2.2 t ht).2; have hz1 := hW.1; omega)) (fun c37 => ?_) (fun c37 => by exfalso; (have hz := (hW.2.2.2 t ht).2; have hz1 := hW.1; omega))
  refine aw_aload_n (aw_d q_Mo_bindTab 31 rfl) rfl rfl rfl ?_
  refine aw_bipush (v := nI 34) (aw_d q_Mo_bindTab 32 rfl) (by decide) ?_
  refine cVv (aw_d q_Mo_bindTab 33 rfl) (sp_put1 (by (try simp only [List.length_append, List.length_cons, List.length_nil, eB_len]); omega)) vL_Mo_135_Mo rfl rfl rfl rfl rfl rfl ⟨aw_le rfl, aw_le rfl⟩ ?_
  refine aw_aload_n (aw_d q_Mo_bindTab 34 rfl) rfl rfl rfl ?_
  refine aw_iload_n (aw_d q_Mo_bindTab 35 rfl) rfl rfl ?_
  refine aw_iconst (v := nI 1) (aw_d q_Mo_bindTab 36 rfl) (by decide) ?_
  refine cVv (aw_d q_Mo_bindTab 37 rfl) (sp_emitText_1 hP hW ht (by (try simp only [List.length_append, List.length_cons, List.length_nil, eB_len]); omega)) vL_Mo_203_Mo rfl rfl rfl rfl rfl rfl ⟨aw_le rfl, aw_le rfl⟩ ?_
  refine aw_aload_n (aw_d q_Mo_bindTab 38 rfl) rfl rfl rfl ?_
  refine aw_bipush (v := nI 34) (aw_d q_Mo_bindTab 39 rfl) (by decide) ?_
  refine cVv (aw_d q_Mo_bindTab 40 rfl) (sp_put1 (by (try simp only [List.length_append, List.length_cons, List.length_nil, eB_len]); omega)) vL_Mo_135_Mo rfl rfl rfl rfl rfl rfl ⟨aw_le rfl, aw_le rfl⟩ ?_
  refine aw_aload_n (aw_d q_Mo_bindTab 41 rfl) rfl rfl rfl ?_
  refine aw_getf (aw_d q_Mo_bindTab 42 rfl) fL_Mo_19_Mo rfl rfl ?_
  refine aw_iload_n (aw_d q_Mo_bindTab 43 rfl) rfl rfl ?_
  refine aw_ialdK (w := nI (3)) (aw_d q_Mo_bindTab 44 rfl) rfl (by (have hz := (hW.2.2.2 t ht).2; have hz1 := hW.1; omega)) rfl ((hP.2.2.2 t ht).1.trans (congrArg nI hk)) ?_
  refine aw_iconst (v := nI 3) (aw_d q_Mo_bindTab 45 rfl) (by decide) ?_
  refine aw_icmpN_ne (tgt := 94) (aw_d q_Mo_bindTab 46 rfl) (by decide) (by (have hz := (hW.2.2.2 t ht).2; have hz1 := hW.1; omega)) (by (have hz := (hW.2.2.2 t ht).2; have hz1 := hW.1; omega)) (fun c82 => by exfalso; (have hz := (hW.2.2.2 t ht).2; have hz1 := hW.1; omega)) (fun c82 => ?_)
  refine aw_aload_n (aw_d q_Mo_bindTab 47 rfl) rfl rfl rfl ?_
  refine aw_bipush (v := nI 64) (aw_d q_Mo_bindTab 48 rfl) (by decide) ?_
  refine cVv (aw_d q_Mo_bindTab 49 rfl) (sp_put1 (by (try simp only [List.length_append, List.length_cons, List.length_nil, eB_len]); omega)) vL_Mo_135_Mo rfl rfl rfl rfl rfl rfl ⟨aw_le rfl, aw_le rfl⟩ ?_
  refine aw_goto (tgt := 112) (aw_d q_Mo_bindTab 50 rfl) (by decide) ?_
  refine aw_aload_n (aw_d q_Mo_bindTab 61 rfl) rfl rfl rfl ?_
  refine aw_getf (aw_d q_Mo_bindTab 62 rfl) fL_Mo_19_Mo rfl rfl ?_
  refine aw_iload_n (aw_d q_Mo_bindTab 63 rfl) rfl rfl ?_
  refine aw_ialdK (w := nI (3)) (aw_d q_Mo_bindTab 64 rfl) rfl (by (have hz := (hW.2.2.2 t ht).2; have hz1 := hW.1; omega)) rfl ((hP.2.2.2 t ht).1.trans (congrArg nI hk)) ?_
  refine aw_iconst (v := nI 2) (aw_d q_Mo_bindTab 65 rfl) (by decide) ?_
  refine aw_icmpN_le (tgt := 127) (aw_d q_Mo_bindTab 66 rfl) (by decide) (by (have hz := (hW.2.2.2 t ht).2; have hz1 := hW.1; omega)) (by (have hz := (hW.2.2.2 t ht).2; have hz1 := hW.1; omega)) (fun c119 => by exfalso; (have hz := (hW.2.2.2 t ht).2; have hz1 := hW.1; omega)) (fun c119 => ?_)
  refine aw_aload_n (aw_d q_Mo_bindTab 67 rfl) rfl rfl rfl ?_
  refine aw_iload_n (aw_d q_Mo_bindTab 68 rfl) rfl rfl ?_
  refine cVv (aw_d q_Mo_bindTab 69 rfl) (sp_emitExtra hP hW ht (by omega) (by (try simp only [List.length_append, List.length_cons, List.length_nil, eB_len]); omega)) vL_Mo_215_Mo rfl rfl rfl rfl rfl rfl ⟨aw_le rfl, aw_le rfl⟩ ?_
  exact aw_vret (aw_d q_Mo_bindTab 70 rfl) rfl (⟨rfl, by simp [w_tt, hk, eb_34_0, eb_34_1, eb_34_2, eb_44_0, eb_44_1, eb_44_2, eb_62_1, eb_63_0, eb_63_1, eb_63_2, eb_91_1, eb_123_0, eb_123_1, eb_123_2, eb_8766_2, eb_11298_0, eb_11298_1, eb_11298_2, eb_11387_0, eb_11387_1, eb_11387_2, eb_14939_2, eb_24158_2, eb_24378_2, eb_26430_2, eb_27710_2, eb_2240318_3, eb_2243106_3, eb_6126973_3, eb_6634786_3, eb_6765858_3, eb_7433278_3, eb_7697001_3, eb_644314171_4, eb_644641851_4, eb_1684108389_4, eb_1919246700_4, eb_1953658213_4, eb_163799184187_5, eb_164843319355_5, eb_259668470078_5, eb_422759588965_5, eb_435426304570_5, eb_439721161573_5, eb_474176698914_5, eb_482733079074_5, eb_500136506472_5, eb_512853240933_5, eb_66174531561790_6, eb_66419075146814_6, eb_122511348035134_6, eb_9128563980975394_7, eb_16996725057414462_7, eb_30515246123868524_7, eb_2334097659363883376_8, eb_2339740318023049582_8, eb_2462380988100801893_8, eb_2466419133851988069_8, eb_3180214656604140665_8, eb_3180236698239528033_8, eb_4336793171144239470_8, eb_4336793192635852094_8, eb_4336793196931343713_8, eb_4336799750816022076_8, eb_4336804166361248353_8, eb_4336810746235415668_8, eb_4351156112845270631_8, eb_4352840508821617711_8, eb_4353970888399544684_8, eb_4355655336186377278_8, eb_4355948828431576126_8, eb_4356776833549689452_8, eb_6736589144075891573_8, eb_7286945561811696930_8, eb_7522525835761050223_8, eb_7597120025407222562_8, eb_7814997844241883746_8, eb_7943852967226007922_8, eb_8243121641139499838_8, eb_8304140937415647602_8, eb_8872769000508236346_8, eb_8872784376777351738_8, eb_8898316964945948524_8, tl_0, tl_1, tl_2, tl_3, tl_5, tl_6, tl_7, tl_8, tl_9, tl_10, tl_11, tl_12, tl_13, tl_14, tl_15, tl_16, tl_17, tl_18, tl_19, tl_20, tl_21, tl_22, tl_23, tl_24, tl_25, tl_26, tl_27, tl_28, tl_29, tl_30, tl_31, tl_32, tl_33, tl_34, tl_35, tl_36, tl_37, tl_38, tl_39, tl_40, tl_41, tl_42, tl_43, tl_44, tl_45, tl_46, tl_47, tl_48, tl_49, tl_50, tl_51, tl_52, tl_53, tl_54, tl_55, tl_56, tl_57, tl_58, tl_59]⟩)
set_option maxRecDepth 20000 in
theorem sp_Mo_bindTab_4 {g : aw_G} {S : aw_S} {O : List Int32} {P : xp_T} (hP : xp_M S P) (hW : xp_wd P) {t : Nat} (ht : t < xp_t P) (hk : xp_k P t = 4) (hO : O.length + 1000 < 2147483648) : Sp g M_Mo_bindTab 3 69 0 0 [.ref 33, .int (nI t)] (HP (MS S O)) (fun r1 h => r1 = none ∧ h = HP (MS S (O ++ w_tt P t))) := by
  refine Sp.of rfl (aw_le rfl) ?_
  have hl0 := w_t_len (f := w_0) hW ht w_0_len
  have hl1 := w_t_len (f := w_1) hW ht w_1_len
  have hle := w_e_len hW ht (by omega)
  refine aw_aload_n (aw_d q_Mo_bindTab 0 rfl) rfl rfl rfl ?_
  refine aw_getf (aw_d q_Mo_bindTab 1 rfl) fL_Mo_19_Mo rfl rfl ?_
  refine aw_iload_n (aw_d q_Mo_bindTab 2 rfl) rfl rfl ?_
  refine aw_ialdK (w := nI (4)) (aw_d q_Mo_bindTab 3 rfl) rfl (by (have hz := (hW.2.2.2 t ht).2; have hz1 := hW.1; omega)) rfl ((hP.2.2.2 t ht).1.trans (congrArg nI hk)) ?_
  refine aw_ifN_ne (tgt := 30) (aw_d q_Mo_bindTab 4 rfl) (by decide) (by (have hz := (hW.2.2.2 t ht).2; have hz1 := hW.1; omega)) (fun c6 => ?_) (fun c6 => by exfalso; (have hz := (hW.2.2.2 t ht).2; have hz1 := hW.1; omega))
  refine aw_aload_n (aw_d q_Mo_bindTab 16 rfl) rfl rfl rfl ?_
  refine aw_getf (aw_d q_Mo_bindTab 17 rfl) fL_Mo_19_Mo rfl rfl ?_
  refine aw_iload_n (aw_d q_Mo_bindTab 18 rfl) rfl rfl ?_
  refine aw_ialdK (w := nI (4)) (aw_d q_Mo_bindTab 19 rfl) rfl (by (have hz := (hW.2.2.2 t ht).2; have hz1 := hW.1; omega)) rfl ((hP.2.2.2 t ht).1.trans (congrArg nI hk)) ?_
  refine aw_iconst (v := nI 1) (aw_d q_Mo_bindTab 20 rfl) (by decide) ?_
  refine aw_icmpN_ne (tgt := 57) (aw_d q_Mo_bindTab 21 rfl) (by decide) (by (have hz := (hW.2.2.2 t ht).2; have hz1 := hW.1; omega)) (by (have hz := (hW.2.2.2 t ht).2; have hz1 := hW.1; omega)) (fun c37 => ?_) (fun c37 => by exfalso; (have hz := (hW.2.2.2 t ht).2; have hz1 := hW.1; omega))
  refine aw_aload_n (aw_d q_Mo_bindTab 31 rfl) rfl rfl rfl ?_
  refine aw_bipush (v := nI 34) (aw_d q_Mo_bindTab 32 rfl) (by decide) ?_
  refine cVv (aw_d q_Mo_bindTab 33 rfl) (sp_put1 (by (try simp only [List.length_append, List.length_cons, List.length_nil, eB_len]); omega)) vL_Mo_135_Mo rfl rfl rfl rfl rfl rfl ⟨aw_le rfl, aw_le rfl⟩ ?_
  refine aw_aload_n (aw_d q_Mo_bindTab 34 rfl) rfl rfl rfl ?_
  refine aw_iload_n (aw_d q_Mo_bindTab 35 rfl) rfl rfl ?_
  refine aw_iconst (v := nI 1) (aw_d q_Mo_bindTab 36 rfl) (by decide) ?_
  refine cVv (aw_d q_Mo_bindTab 37 rfl) (sp_emitText_1 hP hW ht (by (try simp only [List.length_append, List.length_cons, List.length_nil, eB_len]); omega)) vL_Mo_203_Mo rfl rfl rfl rfl rfl rfl ⟨aw_le rfl, aw_le rfl⟩ ?_
  refine aw_aload_n (aw_d q_Mo_bindTab 38 rfl) rfl rfl rfl ?_
  refine aw_bipush (v := nI 34) (aw_d q_Mo_bindTab 39 rfl) (by decide) ?_
  refine cVv (aw_d q_Mo_bindTab 40 rfl) (sp_put1 (by (try simp only [List.length_append, List.length_cons, List.length_nil, eB_len]); omega)) vL_Mo_135_Mo rfl rfl rfl rfl rfl rfl ⟨aw_le rfl, aw_le rfl⟩ ?_
  refine aw_aload_n (aw_d q_Mo_bindTab 41 rfl) rfl rfl rfl ?_
  refine aw_getf (aw_d q_Mo_bindTab 42 rfl) fL_Mo_19_Mo rfl rfl ?_
  refine aw_iload_n (aw_d q_Mo_bindTab 43 rfl) rfl rfl ?_
  refine aw_ialdK (w := nI (4)) (aw_d q_Mo_bindTab 44 rfl) rfl (by (have hz := (hW.2.2.2 t ht).2; have hz1 := hW.1; omega)) rfl ((hP.2.2.2 t ht).1.trans (congrArg nI hk)) ?_
  refine aw_iconst (v := nI 3) (aw_d q_Mo_bindTab 45 rfl) (by decide) ?_
  refine aw_icmpN_ne (tgt := 94) (aw_d q_Mo_bindTab 46 rfl) (by decide) (by (have hz := (hW.2.2.2 t ht).2; have hz1 := hW.1; omega)) (by (have hz := (hW.2.2.2 t ht).2; have hz1 := hW.1; omega)) (fun c82 => ?_) (fun c82 => by exfalso; (have hz := (hW.2.2.2 t ht).2; have hz1 := hW.1; omega))
  refine aw_aload_n (aw_d q_Mo_bindTab 51 rfl) rfl rfl rfl ?_
  refine aw_getf (aw_d q_Mo_bindTab 52 rfl) fL_Mo_19_Mo rfl rfl ?_
  refine aw_iload_n (aw_d q_Mo_bindTab 53 rfl) rfl rfl ?_
  refine aw_ialdK (w := nI (4)) (aw_d q_Mo_bindTab 54 rfl) rfl (by (have hz := (hW.2.2.2 t ht).2; have hz1 := hW.1; omega)) rfl ((hP.2.2.2 t ht).1.trans (congrArg nI hk)) ?_
  refine aw_iconst (v := nI 4) (aw_d q_Mo_bindTab 55 rfl) (by decide) ?_
  refine aw_icmpN_ne (tgt := 112) (aw_d q_Mo_bindTab 56 rfl) (by decide) (by (have hz := (hW.2.2.2 t ht).2; have hz1 := hW.1; omega)) (by (have hz := (hW.2.2.2 t ht).2; have hz1 := hW.1; omega)) (fun c101 => by exfalso; (have hz := (hW.2.2.2 t ht).2; have hz1 := hW.1; omega)) (fun c101 => ?_)
  refine aw_aload_n (aw_d q_Mo_bindTab 57 rfl) rfl rfl rfl ?_
  refine aw_ldc2 (aw_d q_Mo_bindTab 58 rfl) lL_Mo_282 ?_
  refine aw_iconst (v := nI 2) (aw_d q_Mo_bindTab 59 rfl) (by decide) ?_
  refine cVv (aw_d q_Mo_bindTab 60 rfl) (sp_emit (by (try simp only [List.length_append, List.length_cons, List.length_nil, eB_len]); omega)) vL_Mo_141_Mo rfl rfl rfl rfl rfl rfl ⟨aw_le rfl, aw_le rfl⟩ ?_
  refine aw_aload_n (aw_d q_Mo_bindTab 61 rfl) rfl rfl rfl ?_
  refine aw_getf (aw_d q_Mo_bindTab 62 rfl) fL_Mo_19_Mo rfl rfl ?_
  refine aw_iload_n (aw_d q_Mo_bindTab 63 rfl) rfl rfl ?_
  refine aw_ialdK (w := nI (4)) (aw_d q_Mo_bindTab 64 rfl) rfl (by (have hz := (hW.2.2.2 t ht).2; have hz1 := hW.1; omega)) rfl ((hP.2.2.2 t ht).1.trans (congrArg nI hk)) ?_
  refine aw_iconst (v := nI 2) (aw_d q_Mo_bindTab 65 rfl) (by decide) ?_
  refine aw_icmpN_le (tgt := 127) (aw_d q_Mo_bindTab 66 rfl) (by decide) (by (have hz := (hW.2.2.2 t ht).2; have hz1 := hW.1; omega)) (by (have hz := (hW.2.2.2 t ht).2; have hz1 := hW.1; omega)) (fun c119 => by exfalso; (have hz := (hW.2.2.2 t ht).2; have hz1 := hW.1; omega)) (fun c119 => ?_)
  refine aw_aload_n (aw_d q_Mo_bindTab 67 rfl) rfl rfl rfl ?_
  refine aw_iload_n (aw_d q_Mo_bindTab 68 rfl) rfl rfl ?_
  refine cVv (aw_d q_Mo_bindTab 69 rfl) (sp_emitExtra hP hW ht (by omega) (by (try simp only [List.length_append, List.length_cons, List.length_nil, eB_len]); omega)) vL_Mo_215_Mo rfl rfl rfl rfl rfl rfl ⟨aw_le rfl, aw_le rfl⟩ ?_
  exact aw_vret (aw_d q_Mo_bindTab 70 rfl) rfl (⟨rfl, by simp [w_tt, hk, eb_34_0, eb_34_1, eb_34_2, eb_44_0, eb_44_1, eb_44_2, eb_62_1, eb_63_0, eb_63_1, eb_63_2, eb_91_1, eb_123_0, eb_123_1, eb_123_2, eb_8766_2, eb_11298_0, eb_11298_1, eb_11298_2, eb_11387_0, eb_11387_1, eb_11387_2, eb_14939_2, eb_24158_2, eb_24378_2, eb_26430_2, eb_27710_2, eb_2240318_3, eb_2243106_3, eb_6126973_3, eb_6634786_3, eb_6765858_3, eb_7433278_3, eb_7697001_3, eb_644314171_4, eb_644641851_4, eb_1684108389_4, eb_1919246700_4, eb_1953658213_4, eb_163799184187_5, eb_164843319355_5, eb_259668470078_5, eb_422759588965_5, eb_435426304570_5, eb_439721161573_5, eb_474176698914_5, eb_482733079074_5, eb_500136506472_5, eb_512853240933_5, eb_66174531561790_6, eb_66419075146814_6, eb_122511348035134_6, eb_9128563980975394_7, eb_16996725057414462_7, eb_30515246123868524_7, eb_2334097659363883376_8, eb_2339740318023049582_8, eb_2462380988100801893_8, eb_2466419133851988069_8, eb_3180214656604140665_8, eb_3180236698239528033_8, eb_4336793171144239470_8, eb_4336793192635852094_8, eb_4336793196931343713_8, eb_4336799750816022076_8, eb_4336804166361248353_8, eb_4336810746235415668_8, eb_4351156112845270631_8, eb_4352840508821617711_8, eb_4353970888399544684_8, eb_4355655336186377278_8, eb_4355948828431576126_8, eb_4356776833549689452_8, eb_6736589144075891573_8, eb_7286945561811696930_8, eb_7522525835761050223_8, eb_7597120025407222562_8, eb_7814997844241883746_8, eb_7943852967226007922_8, eb_8243121641139499838_8, eb_8304140937415647602_8, eb_8872769000508236346_8, eb_8872784376777351738_8, eb_8898316964945948524_8, tl_0, tl_1, tl_2, tl_3, tl_5, tl_6, tl_7, tl_8, tl_9, tl_10, tl_11, tl_12, tl_13, tl_14, tl_15, tl_16, tl_17, tl_18, tl_19, tl_20, tl_21, tl_22, tl_23, tl_24, tl_25, tl_26, tl_27, tl_28, tl_29, tl_30, tl_31, tl_32, tl_33, tl_34, tl_35, tl_36, tl_37, tl_38, tl_39, tl_40, tl_41, tl_42, tl_43, tl_44, tl_45, tl_46, tl_47, tl_48, tl_49, tl_50, tl_51, tl_52, tl_53, tl_54, tl_55, tl_56, tl_57, tl_58, tl_59]⟩)
theorem sp_Mo_bindTab {g : aw_G} {S : aw_S} {O : List Int32} {P : xp_T} (hP : xp_M S P) (hW : xp_wd P) {t : Nat} (ht : t < xp_t P) (hO : O.length + 1000 < 2147483648) : Sp g M_Mo_bindTab 3 69 0 0 [.ref 33, .int (nI t)] (HP (MS S O)) (fun r h => r = none ∧ h = HP (MS S (O ++ w_tt P t))) := by
  rcases (show xp_k P t = 0 ∨ xp_k P t = 1 ∨ xp_k P t = 2 ∨ xp_k P t = 3 ∨ xp_k P t = 4 by have := (hW.2.2.2 t ht).1; omega) with h | h | h | h | h
  · exact sp_Mo_bindTab_0 hP hW ht h hO
  · exact sp_Mo_bindTab_1 hP hW ht h hO
  · exact sp_Mo_bindTab_2 hP hW ht h hO
  · exact sp_Mo_bindTab_3 hP hW ht h hO
  · exact sp_Mo_bindTab_4 hP hW ht h hO
