set_option maxRecDepth 20000 in
theorem lp_wB_in {g : aw_G} {S : aw_S} {Post : Option Value → aw_hp → Prop} {P : xp_T} (hP : xp_M S P) (hW : xp_wd P) {r : Nat} (hr : r < xp_r P) {F : List Int32} (hF : F.length + 10000 < 2147483648) : ∀ (m v : Nat) (b : Bool) (Q : List Int32) (x4 : Option Value), m + v = xp_v P → Q ++ rjB (xp_c P r) (fun v t => w_jn P v ++ w_jt P t) m v b = F → (∀ x2 x4 : Option Value, AW g M_Mo_writeBraces (aw_rm 4 90 0 0) (aw_F g 0 0 Post) 233 [some (.ref 33), some (.int (nI r)), x2, some (.int (nI (xp_v P))), x4] [] (HP (MS S F)) 0 0) → AW g M_Mo_writeBraces (aw_rm 4 90 0 0) (aw_F g 0 0 (Post)) 166 [some (.ref 33), some (.int (nI r)), some (.int (if b = true then nI 1 else nI 0)), some (.int (nI v)), x4] [] (HP (MS S Q)) 0 0 := by
  intro m
  induction m with
  | zero =>
    intro v b Q x4 hk e kk
    refine aw_iload_n (aw_d q_Mo_writeBraces 84 rfl) rfl rfl ?_
    refine aw_aload_n (aw_d q_Mo_writeBraces 85 rfl) rfl rfl rfl ?_
    refine aw_getf (v := .int (nI (xp_v P))) (aw_d q_Mo_writeBraces 86 rfl) fL_Mo_126_Mo rfl (gk hP.1.2.1) ?_
    refine aw_icmpN_ge (tgt := 233) (aw_d q_Mo_writeBraces 87 rfl) (by decide) (by (have hz1 := hW.1; omega)) (by (have hz1 := hW.1; omega)) (fun c171 => ?_) (fun c171 => by exfalso; (have hz1 := hW.1; omega))
    have hve : v = xp_v P := by omega
    subst hve
    simp only [catB, rjB, List.append_nil] at e
    subst e
    exact kk _ _
  | succ m ih =>
    intro v b Q x4 hk e kk
    have hq := congrArg List.length e
    rw [List.length_append] at hq
    have hln := w_n_len hW (v := v) (by omega)
    have hct : ∀ t, xp_c P r v = some t → t < xp_t P := fun t h => hW.2.2.1 r v t hr (by omega) h
    cases hc : xp_c P r v with
    | none =>
      refine aw_iload_n (aw_d q_Mo_writeBraces 84 rfl) rfl rfl ?_
      refine aw_aload_n (aw_d q_Mo_writeBraces 85 rfl) rfl rfl rfl ?_
      refine aw_getf (v := .int (nI (xp_v P))) (aw_d q_Mo_writeBraces 86 rfl) fL_Mo_126_Mo rfl (gk hP.1.2.1) ?_
      refine aw_icmpN_ge (tgt := 233) (aw_d q_Mo_writeBraces 87 rfl) (by decide) (by (have hz1 := hW.1; omega)) (by (have hz1 := hW.1; omega)) (fun c171 => by exfalso; (have hz1 := hW.1; omega)) (fun c171 => ?_)
      refine aw_aload_n (aw_d q_Mo_writeBraces 88 rfl) rfl rfl rfl ?_
      refine aw_getf (aw_d q_Mo_writeBraces 89 rfl) fL_Mo_37_Mo rfl rfl ?_
      refine aw_bipush (v := nI 6) (aw_d q_Mo_writeBraces 90 rfl) (by decide) ?_
      refine aw_iload_n (aw_d q_Mo_writeBraces 91 rfl) rfl rfl ?_
      refine aw_imulN (aw_d q_Mo_writeBraces 92 rfl) ?_
      refine aw_iload_n (aw_d q_Mo_writeBraces 93 rfl) rfl rfl ?_
      refine aw_iaddN (aw_d q_Mo_writeBraces 94 rfl) ?_
      refine aw_ialdK (w := (-1)) (aw_d q_Mo_writeBraces 95 rfl) rfl (by (have hz1 := hW.1; omega)) rfl (by show S.2 43 (6 * r + v) = _; rw [Nat.mul_comm 6 r, hP.2.2.1 r v hr (by omega), hc]; rfl) ?_
      refine aw_istore (aw_d q_Mo_writeBraces 96 rfl) (aw_le rfl) rfl ?_
      refine aw_iload (aw_d q_Mo_writeBraces 97 rfl) rfl ?_
      refine aw_ifI_lt (tgt := 227) (aw_d q_Mo_writeBraces 98 rfl) (by decide) (fun c189 => ?_) (fun c189 => by exact absurd c189 (by decide))
      refine aw_iinc (aw_d q_Mo_writeBraces 118 rfl) rfl (ii1 _) (aw_le rfl) rfl ?_
      refine aw_goto (tgt := 166) (aw_d q_Mo_writeBraces 119 rfl) (by decide) ?_
      exact ih (v + 1) b _ _ (by omega) (by rw [← e]; simp [catB, rjB, hc, eb_34_0, eb_34_1, eb_34_2, eb_44_0, eb_44_1, eb_44_2, eb_62_1, eb_63_0, eb_63_1, eb_63_2, eb_91_1, eb_123_0, eb_123_1, eb_123_2, eb_8766_2, eb_11298_0, eb_11298_1, eb_11298_2, eb_11387_0, eb_11387_1, eb_11387_2, eb_14939_2, eb_24158_2, eb_24378_2, eb_26430_2, eb_27710_2, eb_2240318_3, eb_2243106_3, eb_6126973_3, eb_6634786_3, eb_6765858_3, eb_7433278_3, eb_7697001_3, eb_644314171_4, eb_644641851_4, eb_1684108389_4, eb_1919246700_4, eb_1953658213_4, eb_163799184187_5, eb_164843319355_5, eb_259668470078_5, eb_422759588965_5, eb_435426304570_5, eb_439721161573_5, eb_474176698914_5, eb_482733079074_5, eb_500136506472_5, eb_512853240933_5, eb_66174531561790_6, eb_66419075146814_6, eb_122511348035134_6, eb_9128563980975394_7, eb_16996725057414462_7, eb_30515246123868524_7, eb_2334097659363883376_8, eb_2339740318023049582_8, eb_2462380988100801893_8, eb_2466419133851988069_8, eb_3180214656604140665_8, eb_3180236698239528033_8, eb_4336793171144239470_8, eb_4336793192635852094_8, eb_4336793196931343713_8, eb_4336799750816022076_8, eb_4336804166361248353_8, eb_4336810746235415668_8, eb_4351156112845270631_8, eb_4352840508821617711_8, eb_4353970888399544684_8, eb_4355655336186377278_8, eb_4355948828431576126_8, eb_4356776833549689452_8, eb_6736589144075891573_8, eb_7286945561811696930_8, eb_7522525835761050223_8, eb_7597120025407222562_8, eb_7814997844241883746_8, eb_7943852967226007922_8, eb_8243121641139499838_8, eb_8304140937415647602_8, eb_8872769000508236346_8, eb_8872784376777351738_8, eb_8898316964945948524_8, tl_0, tl_1, tl_2, tl_3, tl_5, tl_6, tl_7, tl_8, tl_9, tl_10, tl_11, tl_12, tl_13, tl_14, tl_15, tl_16, tl_17, tl_18, tl_19, tl_20, tl_21, tl_22, tl_23, tl_24, tl_25, tl_26, tl_27, tl_28, tl_29, tl_30, tl_31, tl_32, tl_33, tl_34, tl_35, tl_36, tl_37, tl_38, tl_39, tl_40, tl_41, tl_42, tl_43, tl_44, tl_45, tl_46, tl_47, tl_48, tl_49, tl_50, tl_51, tl_52, tl_53, tl_54, tl_55, tl_56, tl_57, tl_58, tl_59]) kk
    | some t =>
      have ht := hct t hc
      refine aw_iload_n (aw_d q_Mo_writeBraces 84 rfl) rfl rfl ?_
      refine aw_aload_n (aw_d q_Mo_writeBraces 85 rfl) rfl rfl rfl ?_
      refine aw_getf (v := .int (nI (xp_v P))) (aw_d q_Mo_writeBraces 86 rfl) fL_Mo_126_Mo rfl (gk hP.1.2.1) ?_
      refine aw_icmpN_ge (tgt := 233) (aw_d q_Mo_writeBraces 87 rfl) (by decide) (by (have hz1 := hW.1; omega)) (by (have hz1 := hW.1; omega)) (fun c171 => by exfalso; (have hz1 := hW.1; omega)) (fun c171 => ?_)
      refine aw_aload_n (aw_d q_Mo_writeBraces 88 rfl) rfl rfl rfl ?_
      refine aw_getf (aw_d q_Mo_writeBraces 89 rfl) fL_Mo_37_Mo rfl rfl ?_
      refine aw_bipush (v := nI 6) (aw_d q_Mo_writeBraces 90 rfl) (by decide) ?_
      refine aw_iload_n (aw_d q_Mo_writeBraces 91 rfl) rfl rfl ?_
      refine aw_imulN (aw_d q_Mo_writeBraces 92 rfl) ?_
      refine aw_iload_n (aw_d q_Mo_writeBraces 93 rfl) rfl rfl ?_
      refine aw_iaddN (aw_d q_Mo_writeBraces 94 rfl) ?_
      refine aw_ialdK (w := (nI t)) (aw_d q_Mo_writeBraces 95 rfl) rfl (by (have hz1 := hW.1; omega)) rfl (by show S.2 43 (6 * r + v) = _; rw [Nat.mul_comm 6 r, hP.2.2.1 r v hr (by omega), hc]; rfl) ?_
      refine aw_istore (aw_d q_Mo_writeBraces 96 rfl) (aw_le rfl) rfl ?_
      refine aw_iload (aw_d q_Mo_writeBraces 97 rfl) rfl ?_
      refine aw_ifN_lt (tgt := 227) (aw_d q_Mo_writeBraces 98 rfl) (by decide) (by (have hz1 := hW.1; omega)) (fun c189 => by exfalso; (have hz1 := hW.1; omega)) (fun c189 => ?_)
      refine aw_aload_n (aw_d q_Mo_writeBraces 99 rfl) rfl rfl rfl ?_
      refine aw_ldc2 (aw_d q_Mo_writeBraces 100 rfl) lL_Mo_184 ?_
      refine aw_iload_n (aw_d q_Mo_writeBraces 101 rfl) rfl rfl ?_
      refine aw_ifB_eq (tgt := 204) (aw_d q_Mo_writeBraces 102 rfl) (by decide) (fun c197 => ?_) (fun c197 => ?_)
      · refine aw_iconst (v := nI 1) (aw_d q_Mo_writeBraces 105 rfl) (by decide) ?_
        refine cVv (aw_d q_Mo_writeBraces 106 rfl) (sp_emit (by (try simp only [List.length_append, List.length_cons, List.length_nil, eB_len]); omega)) vL_Mo_141_Mo rfl rfl rfl rfl rfl rfl ⟨aw_le rfl, aw_le rfl⟩ ?_
        refine aw_aload_n (aw_d q_Mo_writeBraces 107 rfl) rfl rfl rfl ?_
        refine aw_bipush (v := nI 34) (aw_d q_Mo_writeBraces 108 rfl) (by decide) ?_
        refine cVv (aw_d q_Mo_writeBraces 109 rfl) (sp_put1 (by (try simp only [List.length_append, List.length_cons, List.length_nil, eB_len]); omega)) vL_Mo_135_Mo rfl rfl rfl rfl rfl rfl ⟨aw_le rfl, aw_le rfl⟩ ?_
        refine aw_aload_n (aw_d q_Mo_writeBraces 110 rfl) rfl rfl rfl ?_
        refine aw_iload_n (aw_d q_Mo_writeBraces 111 rfl) rfl rfl ?_
        refine cVv (aw_d q_Mo_writeBraces 112 rfl) (sp_emitName hP hW (v := v) (by omega) (by (try simp only [List.length_append, List.length_cons, List.length_nil, eB_len]); omega)) vL_Mo_169_Mo rfl rfl rfl rfl rfl rfl ⟨aw_le rfl, aw_le rfl⟩ ?_
        refine aw_aload_n (aw_d q_Mo_writeBraces 113 rfl) rfl rfl rfl ?_
        refine aw_iload (aw_d q_Mo_writeBraces 114 rfl) rfl ?_
        refine cVv (aw_d q_Mo_writeBraces 115 rfl) (sp_Mo_bindBraces hP hW ht (by (try simp only [List.length_append, List.length_cons, List.length_nil, eB_len]); omega)) vL_Mo_186_Mo rfl rfl rfl rfl rfl rfl ⟨aw_le rfl, aw_le rfl⟩ ?_
        refine aw_iconst (v := nI 0) (aw_d q_Mo_writeBraces 116 rfl) (by decide) ?_
        refine aw_istore_n (aw_d q_Mo_writeBraces 117 rfl) rfl (aw_le rfl) rfl ?_
        refine aw_iinc (aw_d q_Mo_writeBraces 118 rfl) rfl (ii1 _) (aw_le rfl) rfl ?_
        refine aw_goto (tgt := 166) (aw_d q_Mo_writeBraces 119 rfl) (by decide) ?_
        exact AW.to (ih (v + 1) false _ _ (by omega) (by rw [← e]; simp [catB, rjB, hc, w_jn, eb_34_0, eb_34_1, eb_34_2, eb_44_0, eb_44_1, eb_44_2, eb_62_1, eb_63_0, eb_63_1, eb_63_2, eb_91_1, eb_123_0, eb_123_1, eb_123_2, eb_8766_2, eb_11298_0, eb_11298_1, eb_11298_2, eb_11387_0, eb_11387_1, eb_11387_2, eb_14939_2, eb_24158_2, eb_24378_2, eb_26430_2, eb_27710_2, eb_2240318_3, eb_2243106_3, eb_6126973_3, eb_6634786_3, eb_6765858_3, eb_7433278_3, eb_7697001_3, eb_644314171_4, eb_644641851_4, eb_1684108389_4, eb_1919246700_4, eb_1953658213_4, eb_163799184187_5, eb_164843319355_5, eb_259668470078_5, eb_422759588965_5, eb_435426304570_5, eb_439721161573_5, eb_474176698914_5, eb_482733079074_5, eb_500136506472_5, eb_512853240933_5, eb_66174531561790_6, eb_66419075146814_6, eb_122511348035134_6, eb_9128563980975394_7, eb_16996725057414462_7, eb_30515246123868524_7, eb_2334097659363883376_8, eb_2339740318023049582_8, eb_2462380988100801893_8, eb_2466419133851988069_8, eb_3180214656604140665_8, eb_3180236698239528033_8, eb_4336793171144239470_8, eb_4336793192635852094_8, eb_4336793196931343713_8, eb_4336799750816022076_8, eb_4336804166361248353_8, eb_4336810746235415668_8, eb_4351156112845270631_8, eb_4352840508821617711_8, eb_4353970888399544684_8, eb_4355655336186377278_8, eb_4355948828431576126_8, eb_4356776833549689452_8, eb_6736589144075891573_8, eb_7286945561811696930_8, eb_7522525835761050223_8, eb_7597120025407222562_8, eb_7814997844241883746_8, eb_7943852967226007922_8, eb_8243121641139499838_8, eb_8304140937415647602_8, eb_8872769000508236346_8, eb_8872784376777351738_8, eb_8898316964945948524_8, tl_0, tl_1, tl_2, tl_3, tl_5, tl_6, tl_7, tl_8, tl_9, tl_10, tl_11, tl_12, tl_13, tl_14, tl_15, tl_16, tl_17, tl_18, tl_19, tl_20, tl_21, tl_22, tl_23, tl_24, tl_25, tl_26, tl_27, tl_28, tl_29, tl_30, tl_31, tl_32, tl_33, tl_34, tl_35, tl_36, tl_37, tl_38, tl_39, tl_40, tl_41, tl_42, tl_43, tl_44, tl_45, tl_46, tl_47, tl_48, tl_49, tl_50, tl_51, tl_52, tl_53, tl_54, tl_55, tl_56, tl_57, tl_58, tl_59, c197]) kk) rfl rfl rfl rfl
      · refine aw_iconst (v := nI 0) (aw_d q_Mo_writeBraces 103 rfl) (by decide) ?_
        refine aw_goto (tgt := 205) (aw_d q_Mo_writeBraces 104 rfl) (by decide) ?_
        refine cVv (aw_d q_Mo_writeBraces 106 rfl) (sp_emit (by (try simp only [List.length_append, List.length_cons, List.length_nil, eB_len]); omega)) vL_Mo_141_Mo rfl rfl rfl rfl rfl rfl ⟨aw_le rfl, aw_le rfl⟩ ?_
        refine aw_aload_n (aw_d q_Mo_writeBraces 107 rfl) rfl rfl rfl ?_
        refine aw_bipush (v := nI 34) (aw_d q_Mo_writeBraces 108 rfl) (by decide) ?_
        refine cVv (aw_d q_Mo_writeBraces 109 rfl) (sp_put1 (by (try simp only [List.length_append, List.length_cons, List.length_nil, eB_len]); omega)) vL_Mo_135_Mo rfl rfl rfl rfl rfl rfl ⟨aw_le rfl, aw_le rfl⟩ ?_
        refine aw_aload_n (aw_d q_Mo_writeBraces 110 rfl) rfl rfl rfl ?_
        refine aw_iload_n (aw_d q_Mo_writeBraces 111 rfl) rfl rfl ?_
        refine cVv (aw_d q_Mo_writeBraces 112 rfl) (sp_emitName hP hW (v := v) (by omega) (by (try simp only [List.length_append, List.length_cons, List.length_nil, eB_len]); omega)) vL_Mo_169_Mo rfl rfl rfl rfl rfl rfl ⟨aw_le rfl, aw_le rfl⟩ ?_
        refine aw_aload_n (aw_d q_Mo_writeBraces 113 rfl) rfl rfl rfl ?_
        refine aw_iload (aw_d q_Mo_writeBraces 114 rfl) rfl ?_
        refine cVv (aw_d q_Mo_writeBraces 115 rfl) (sp_Mo_bindBraces hP hW ht (by (try simp only [List.length_append, List.length_cons, List.length_nil, eB_len]); omega)) vL_Mo_186_Mo rfl rfl rfl rfl rfl rfl ⟨aw_le rfl, aw_le rfl⟩ ?_
        refine aw_iconst (v := nI 0) (aw_d q_Mo_writeBraces 116 rfl) (by decide) ?_
        refine aw_istore_n (aw_d q_Mo_writeBraces 117 rfl) rfl (aw_le rfl) rfl ?_
        refine aw_iinc (aw_d q_Mo_writeBraces 118 rfl) rfl (ii1 _) (aw_le rfl) rfl ?_
        refine aw_goto (tgt := 166) (aw_d q_Mo_writeBraces 119 rfl) (by decide) ?_
        exact AW.to (ih (v + 1) false _ _ (by omega) (by rw [← e]; simp [catB, rjB, hc, w_jn, eb_34_0, eb_34_1, eb_34_2, eb_44_0, eb_44_1, eb_44_2, eb_62_1, eb_63_0, eb_63_1, eb_63_2, eb_91_1, eb_123_0, eb_123_1, eb_123_2, eb_8766_2, eb_11298_0, eb_11298_1, eb_11298_2, eb_11387_0, eb_11387_1, eb_11387_2, eb_14939_2, eb_24158_2, eb_24378_2, eb_26430_2, eb_27710_2, eb_2240318_3, eb_2243106_3, eb_6126973_3, eb_6634786_3, eb_6765858_3, eb_7433278_3, eb_7697001_3, eb_644314171_4, eb_644641851_4, eb_1684108389_4, eb_1919246700_4, eb_1953658213_4, eb_163799184187_5, eb_164843319355_5, eb_259668470078_5, eb_422759588965_5, eb_435426304570_5, eb_439721161573_5, eb_474176698914_5, eb_482733079074_5, eb_500136506472_5, eb_512853240933_5, eb_66174531561790_6, eb_66419075146814_6, eb_122511348035134_6, eb_9128563980975394_7, eb_16996725057414462_7, eb_30515246123868524_7, eb_2334097659363883376_8, eb_2339740318023049582_8, eb_2462380988100801893_8, eb_2466419133851988069_8, eb_3180214656604140665_8, eb_3180236698239528033_8, eb_4336793171144239470_8, eb_4336793192635852094_8, eb_4336793196931343713_8, eb_4336799750816022076_8, eb_4336804166361248353_8, eb_4336810746235415668_8, eb_4351156112845270631_8, eb_4352840508821617711_8, eb_4353970888399544684_8, eb_4355655336186377278_8, eb_4355948828431576126_8, eb_4356776833549689452_8, eb_6736589144075891573_8, eb_7286945561811696930_8, eb_7522525835761050223_8, eb_7597120025407222562_8, eb_7814997844241883746_8, eb_7943852967226007922_8, eb_8243121641139499838_8, eb_8304140937415647602_8, eb_8872769000508236346_8, eb_8872784376777351738_8, eb_8898316964945948524_8, tl_0, tl_1, tl_2, tl_3, tl_5, tl_6, tl_7, tl_8, tl_9, tl_10, tl_11, tl_12, tl_13, tl_14, tl_15, tl_16, tl_17, tl_18, tl_19, tl_20, tl_21, tl_22, tl_23, tl_24, tl_25, tl_26, tl_27, tl_28, tl_29, tl_30, tl_31, tl_32, tl_33, tl_34, tl_35, tl_36, tl_37, tl_38, tl_39, tl_40, tl_41, tl_42, tl_43, tl_44, tl_45, tl_46, tl_47, tl_48, tl_49, tl_50, tl_51, tl_52, tl_53, tl_54, tl_55, tl_56, tl_57, tl_58, tl_59, c197]) kk) rfl rfl rfl rfl
set_option maxRecDepth 20000 in
theorem lp_wB2 {g : aw_G} {S : aw_S} {O : List Int32} {P : xp_T} (hP : xp_M S P) (hW : xp_wd P) (hF : (O ++ w_j P).length + 10000 < 2147483648) : ∀ (m r : Nat) (Q : List Int32) (x2 x3 x4 : Option Value), m + r = xp_r P → Q ++ (catB (fun r => w_se (nI 44) r ++ w_jr P r) m r ++ tx 24) = O ++ w_j P → AW g M_Mo_writeBraces (aw_rm 4 90 0 0) (aw_F g 0 0 (fun r1 h => r1 = none ∧ h = HP (MS S (O ++ w_j P)))) 122 [some (.ref 33), some (.int (nI r)), x2, x3, x4] [] (HP (MS S Q)) 0 0 := by
  intro m
  induction m with
  | zero =>
    intro r Q x2 x3 x4 hk e
    have hF2 := hF
    rw [List.length_append] at hF2
    have hq := congrArg List.length e
    simp only [List.length_append] at hq
    refine aw_iload_n (aw_d q_Mo_writeBraces 60 rfl) rfl rfl ?_
    refine aw_aload_n (aw_d q_Mo_writeBraces 61 rfl) rfl rfl rfl ?_
    refine aw_getf (v := .int (nI (xp_r P))) (aw_d q_Mo_writeBraces 62 rfl) fL_Mo_129_Mo rfl (gk hP.1.2.2) ?_
    refine aw_icmpN_ge (tgt := 245) (aw_d q_Mo_writeBraces 63 rfl) (by decide) (by (have hz1 := hW.1; omega)) (by (have hz1 := hW.1; omega)) (fun c127 => ?_) (fun c127 => by exfalso; (have hz1 := hW.1; omega))
    refine aw_aload_n (aw_d q_Mo_writeBraces 125 rfl) rfl rfl rfl ?_
    refine aw_ldc2 (aw_d q_Mo_writeBraces 126 rfl) lL_Mo_189 ?_
    refine aw_iconst (v := nI 3) (aw_d q_Mo_writeBraces 127 rfl) (by decide) ?_
    refine cVv (aw_d q_Mo_writeBraces 128 rfl) (sp_emit (by (try simp only [List.length_append, List.length_cons, List.length_nil, eB_len]); omega)) vL_Mo_141_Mo rfl rfl rfl rfl rfl rfl ⟨aw_le rfl, aw_le rfl⟩ ?_
    exact aw_vret (aw_d q_Mo_writeBraces 129 rfl) rfl (⟨rfl, by rw [← e]; simp [catB, w_se, eb_34_0, eb_34_1, eb_34_2, eb_44_0, eb_44_1, eb_44_2, eb_62_1, eb_63_0, eb_63_1, eb_63_2, eb_91_1, eb_123_0, eb_123_1, eb_123_2, eb_8766_2, eb_11298_0, eb_11298_1, eb_11298_2, eb_11387_0, eb_11387_1, eb_11387_2, eb_14939_2, eb_24158_2, eb_24378_2, eb_26430_2, eb_27710_2, eb_2240318_3, eb_2243106_3, eb_6126973_3, eb_6634786_3, eb_6765858_3, eb_7433278_3, eb_7697001_3, eb_644314171_4, eb_644641851_4, eb_1684108389_4, eb_1919246700_4, eb_1953658213_4, eb_163799184187_5, eb_164843319355_5, eb_259668470078_5, eb_422759588965_5, eb_435426304570_5, eb_439721161573_5, eb_474176698914_5, eb_482733079074_5, eb_500136506472_5, eb_512853240933_5, eb_66174531561790_6, eb_66419075146814_6, eb_122511348035134_6, eb_9128563980975394_7, eb_16996725057414462_7, eb_30515246123868524_7, eb_2334097659363883376_8, eb_2339740318023049582_8, eb_2462380988100801893_8, eb_2466419133851988069_8, eb_3180214656604140665_8, eb_3180236698239528033_8, eb_4336793171144239470_8, eb_4336793192635852094_8, eb_4336793196931343713_8, eb_4336799750816022076_8, eb_4336804166361248353_8, eb_4336810746235415668_8, eb_4351156112845270631_8, eb_4352840508821617711_8, eb_4353970888399544684_8, eb_4355655336186377278_8, eb_4355948828431576126_8, eb_4356776833549689452_8, eb_6736589144075891573_8, eb_7286945561811696930_8, eb_7522525835761050223_8, eb_7597120025407222562_8, eb_7814997844241883746_8, eb_7943852967226007922_8, eb_8243121641139499838_8, eb_8304140937415647602_8, eb_8872769000508236346_8, eb_8872784376777351738_8, eb_8898316964945948524_8, tl_0, tl_1, tl_2, tl_3, tl_5, tl_6, tl_7, tl_8, tl_9, tl_10, tl_11, tl_12, tl_13, tl_14, tl_15, tl_16, tl_17, tl_18, tl_19, tl_20, tl_21, tl_22, tl_23, tl_24, tl_25, tl_26, tl_27, tl_28, tl_29, tl_30, tl_31, tl_32, tl_33, tl_34, tl_35, tl_36, tl_37, tl_38, tl_39, tl_40, tl_41, tl_42, tl_43, tl_44, tl_45, tl_46, tl_47, tl_48, tl_49, tl_50, tl_51, tl_52, tl_53, tl_54, tl_55, tl_56, tl_57, tl_58, tl_59]⟩)
  | succ m ih =>
    intro r Q x2 x3 x4 hk e
    have hF2 := hF
    rw [List.length_append] at hF2
    have hq := congrArg List.length e
    simp only [catB, List.length_append, List.length_cons, List.length_nil, w_jr] at hq
    refine aw_iload_n (aw_d q_Mo_writeBraces 60 rfl) rfl rfl ?_
    refine aw_aload_n (aw_d q_Mo_writeBraces 61 rfl) rfl rfl rfl ?_
    refine aw_getf (v := .int (nI (xp_r P))) (aw_d q_Mo_writeBraces 62 rfl) fL_Mo_129_Mo rfl (gk hP.1.2.2) ?_
    refine aw_icmpN_ge (tgt := 245) (aw_d q_Mo_writeBraces 63 rfl) (by decide) (by (have hz1 := hW.1; omega)) (by (have hz1 := hW.1; omega)) (fun c127 => by exfalso; (have hz1 := hW.1; omega)) (fun c127 => ?_)
    refine aw_aload_n (aw_d q_Mo_writeBraces 64 rfl) rfl rfl rfl ?_
    refine aw_ldc2 (aw_d q_Mo_writeBraces 65 rfl) lL_Mo_180 ?_
    refine aw_iload_n (aw_d q_Mo_writeBraces 66 rfl) rfl rfl ?_
    refine aw_ifN_le (tgt := 142) (aw_d q_Mo_writeBraces 67 rfl) (by decide) (by (have hz1 := hW.1; omega)) (fun c135 => ?_) (fun c135 => ?_)
    · refine aw_iconst (v := nI 0) (aw_d q_Mo_writeBraces 70 rfl) (by decide) ?_
      refine cVv (aw_d q_Mo_writeBraces 71 rfl) (sp_emit (by (try simp only [List.length_append, List.length_cons, List.length_nil, eB_len]); omega)) vL_Mo_141_Mo rfl rfl rfl rfl rfl rfl ⟨aw_le rfl, aw_le rfl⟩ ?_
      refine aw_aload_n (aw_d q_Mo_writeBraces 72 rfl) rfl rfl rfl ?_
      refine aw_ldc2 (aw_d q_Mo_writeBraces 73 rfl) lL_Mo_182 ?_
      refine aw_iload_n (aw_d q_Mo_writeBraces 74 rfl) rfl rfl ?_
      refine aw_ifN_le (tgt := 158) (aw_d q_Mo_writeBraces 75 rfl) (by decide) (by (have hz1 := hW.1; omega)) (fun c151 => ?_) (fun c151 => by exfalso; (have hz1 := hW.1; omega))
      refine aw_iconst (v := nI 1) (aw_d q_Mo_writeBraces 78 rfl) (by decide) ?_
      refine cVv (aw_d q_Mo_writeBraces 79 rfl) (sp_emit (by (try simp only [List.length_append, List.length_cons, List.length_nil, eB_len]); omega)) vL_Mo_141_Mo rfl rfl rfl rfl rfl rfl ⟨aw_le rfl, aw_le rfl⟩ ?_
      refine aw_iconst (v := nI 1) (aw_d q_Mo_writeBraces 80 rfl) (by decide) ?_
      refine aw_istore_n (aw_d q_Mo_writeBraces 81 rfl) rfl (aw_le rfl) rfl ?_
      refine aw_iconst (v := nI 0) (aw_d q_Mo_writeBraces 82 rfl) (by decide) ?_
      refine aw_istore_n (aw_d q_Mo_writeBraces 83 rfl) rfl (aw_le rfl) rfl ?_
      refine AW.to (lp_wB_in hP hW (r := r) (by omega) (by (try simp only [List.length_append, List.length_cons, List.length_nil, eB_len]); omega) (xp_v P) 0 true _ _ (by omega) rfl (fun x2 x4 => ?_)) rfl rfl rfl rfl
      refine aw_aload_n (aw_d q_Mo_writeBraces 120 rfl) rfl rfl rfl ?_
      refine aw_bipush (v := nI 125) (aw_d q_Mo_writeBraces 121 rfl) (by decide) ?_
      refine cVv (aw_d q_Mo_writeBraces 122 rfl) (sp_put1 (by (try simp only [List.length_append, List.length_cons, List.length_nil, eB_len]); omega)) vL_Mo_135_Mo rfl rfl rfl rfl rfl rfl ⟨aw_le rfl, aw_le rfl⟩ ?_
      refine aw_iinc (aw_d q_Mo_writeBraces 123 rfl) rfl (ii1 _) (aw_le rfl) rfl ?_
      refine aw_goto (tgt := 122) (aw_d q_Mo_writeBraces 124 rfl) (by decide) ?_
      exact ih (r + 1) _ _ _ _ (by omega) (by rw [← e]; simp [catB, w_jr, w_se, eb_34_0, eb_34_1, eb_34_2, eb_44_0, eb_44_1, eb_44_2, eb_62_1, eb_63_0, eb_63_1, eb_63_2, eb_91_1, eb_123_0, eb_123_1, eb_123_2, eb_8766_2, eb_11298_0, eb_11298_1, eb_11298_2, eb_11387_0, eb_11387_1, eb_11387_2, eb_14939_2, eb_24158_2, eb_24378_2, eb_26430_2, eb_27710_2, eb_2240318_3, eb_2243106_3, eb_6126973_3, eb_6634786_3, eb_6765858_3, eb_7433278_3, eb_7697001_3, eb_644314171_4, eb_644641851_4, eb_1684108389_4, eb_1919246700_4, eb_1953658213_4, eb_163799184187_5, eb_164843319355_5, eb_259668470078_5, eb_422759588965_5, eb_435426304570_5, eb_439721161573_5, eb_474176698914_5, eb_482733079074_5, eb_500136506472_5, eb_512853240933_5, eb_66174531561790_6, eb_66419075146814_6, eb_122511348035134_6, eb_9128563980975394_7, eb_16996725057414462_7, eb_30515246123868524_7, eb_2334097659363883376_8, eb_2339740318023049582_8, eb_2462380988100801893_8, eb_2466419133851988069_8, eb_3180214656604140665_8, eb_3180236698239528033_8, eb_4336793171144239470_8, eb_4336793192635852094_8, eb_4336793196931343713_8, eb_4336799750816022076_8, eb_4336804166361248353_8, eb_4336810746235415668_8, eb_4351156112845270631_8, eb_4352840508821617711_8, eb_4353970888399544684_8, eb_4355655336186377278_8, eb_4355948828431576126_8, eb_4356776833549689452_8, eb_6736589144075891573_8, eb_7286945561811696930_8, eb_7522525835761050223_8, eb_7597120025407222562_8, eb_7814997844241883746_8, eb_7943852967226007922_8, eb_8243121641139499838_8, eb_8304140937415647602_8, eb_8872769000508236346_8, eb_8872784376777351738_8, eb_8898316964945948524_8, tl_0, tl_1, tl_2, tl_3, tl_5, tl_6, tl_7, tl_8, tl_9, tl_10, tl_11, tl_12, tl_13, tl_14, tl_15, tl_16, tl_17, tl_18, tl_19, tl_20, tl_21, tl_22, tl_23, tl_24, tl_25, tl_26, tl_27, tl_28, tl_29, tl_30, tl_31, tl_32, tl_33, tl_34, tl_35, tl_36, tl_37, tl_38, tl_39, tl_40, tl_41, tl_42, tl_43, tl_44, tl_45, tl_46, tl_47, tl_48, tl_49, tl_50, tl_51, tl_52, tl_53, tl_54, tl_55, tl_56, tl_57, tl_58, tl_59, c135])
    · refine aw_iconst (v := nI 2) (aw_d q_Mo_writeBraces 68 rfl) (by decide) ?_
      refine aw_goto (tgt := 143) (aw_d q_Mo_writeBraces 69 rfl) (by decide) ?_
      refine cVv (aw_d q_Mo_writeBraces 71 rfl) (sp_emit (by (try simp only [List.length_append, List.length_cons, List.length_nil, eB_len]); omega)) vL_Mo_141_Mo rfl rfl rfl rfl rfl rfl ⟨aw_le rfl, aw_le rfl⟩ ?_
      refine aw_aload_n (aw_d q_Mo_writeBraces 72 rfl) rfl rfl rfl ?_
      refine aw_ldc2 (aw_d q_Mo_writeBraces 73 rfl) lL_Mo_182 ?_
      refine aw_iload_n (aw_d q_Mo_writeBraces 74 rfl) rfl rfl ?_
      refine aw_ifN_le (tgt := 158) (aw_d q_Mo_writeBraces 75 rfl) (by decide) (by (have hz1 := hW.1; omega)) (fun c151 => by exfalso; (have hz1 := hW.1; omega)) (fun c151 => ?_)
      refine aw_iconst (v := nI 0) (aw_d q_Mo_writeBraces 76 rfl) (by decide) ?_
      refine aw_goto (tgt := 159) (aw_d q_Mo_writeBraces 77 rfl) (by decide) ?_
      refine cVv (aw_d q_Mo_writeBraces 79 rfl) (sp_emit (by (try simp only [List.length_append, List.length_cons, List.length_nil, eB_len]); omega)) vL_Mo_141_Mo rfl rfl rfl rfl rfl rfl ⟨aw_le rfl, aw_le rfl⟩ ?_
      refine aw_iconst (v := nI 1) (aw_d q_Mo_writeBraces 80 rfl) (by decide) ?_
      refine aw_istore_n (aw_d q_Mo_writeBraces 81 rfl) rfl (aw_le rfl) rfl ?_
      refine aw_iconst (v := nI 0) (aw_d q_Mo_writeBraces 82 rfl) (by decide) ?_
      refine aw_istore_n (aw_d q_Mo_writeBraces 83 rfl) rfl (aw_le rfl) rfl ?_
      refine AW.to (lp_wB_in hP hW (r := r) (by omega) (by (try simp only [List.length_append, List.length_cons, List.length_nil, eB_len]); omega) (xp_v P) 0 true _ _ (by omega) rfl (fun x2 x4 => ?_)) rfl rfl rfl rfl
      refine aw_aload_n (aw_d q_Mo_writeBraces 120 rfl) rfl rfl rfl ?_
      refine aw_bipush (v := nI 125) (aw_d q_Mo_writeBraces 121 rfl) (by decide) ?_
      refine cVv (aw_d q_Mo_writeBraces 122 rfl) (sp_put1 (by (try simp only [List.length_append, List.length_cons, List.length_nil, eB_len]); omega)) vL_Mo_135_Mo rfl rfl rfl rfl rfl rfl ⟨aw_le rfl, aw_le rfl⟩ ?_
      refine aw_iinc (aw_d q_Mo_writeBraces 123 rfl) rfl (ii1 _) (aw_le rfl) rfl ?_
      refine aw_goto (tgt := 122) (aw_d q_Mo_writeBraces 124 rfl) (by decide) ?_
      exact ih (r + 1) _ _ _ _ (by omega) (by rw [← e]; simp [catB, w_jr, w_se, eb_34_0, eb_34_1, eb_34_2, eb_44_0, eb_44_1, eb_44_2, eb_62_1, eb_63_0, eb_63_1, eb_63_2, eb_91_1, eb_123_0, eb_123_1, eb_123_2, eb_8766_2, eb_11298_0, eb_11298_1, eb_11298_2, eb_11387_0, eb_11387_1, eb_11387_2, eb_14939_2, eb_24158_2, eb_24378_2, eb_26430_2, eb_27710_2, eb_2240318_3, eb_2243106_3, eb_6126973_3, eb_6634786_3, eb_6765858_3, eb_7433278_3, eb_7697001_3, eb_644314171_4, eb_644641851_4, eb_1684108389_4, eb_1919246700_4, eb_1953658213_4, eb_163799184187_5, eb_164843319355_5, eb_259668470078_5, eb_422759588965_5, eb_435426304570_5, eb_439721161573_5, eb_474176698914_5, eb_482733079074_5, eb_500136506472_5, eb_512853240933_5, eb_66174531561790_6, eb_66419075146814_6, eb_122511348035134_6, eb_9128563980975394_7, eb_16996725057414462_7, eb_30515246123868524_7, eb_2334097659363883376_8, eb_2339740318023049582_8, eb_2462380988100801893_8, eb_2466419133851988069_8, eb_3180214656604140665_8, eb_3180236698239528033_8, eb_4336793171144239470_8, eb_4336793192635852094_8, eb_4336793196931343713_8, eb_4336799750816022076_8, eb_4336804166361248353_8, eb_4336810746235415668_8, eb_4351156112845270631_8, eb_4352840508821617711_8, eb_4353970888399544684_8, eb_4355655336186377278_8, eb_4355948828431576126_8, eb_4356776833549689452_8, eb_6736589144075891573_8, eb_7286945561811696930_8, eb_7522525835761050223_8, eb_7597120025407222562_8, eb_7814997844241883746_8, eb_7943852967226007922_8, eb_8243121641139499838_8, eb_8304140937415647602_8, eb_8872769000508236346_8, eb_8872784376777351738_8, eb_8898316964945948524_8, tl_0, tl_1, tl_2, tl_3, tl_5, tl_6, tl_7, tl_8, tl_9, tl_10, tl_11, tl_12, tl_13, tl_14, tl_15, tl_16, tl_17, tl_18, tl_19, tl_20, tl_21, tl_22, tl_23, tl_24, tl_25, tl_26, tl_27, tl_28, tl_29, tl_30, tl_31, tl_32, tl_33, tl_34, tl_35, tl_36, tl_37, tl_38, tl_39, tl_40, tl_41, tl_42, tl_43, tl_44, tl_45, tl_46, tl_47, tl_48, tl_49, tl_50, tl_51, tl_52, tl_53, tl_54, tl_55, tl_56, tl_57, tl_58, tl_59, c135])
set_option maxRecDepth 20000 in
theorem lp_wB1 {g : aw_G} {S : aw_S} {O : List Int32} {P : xp_T} (hP : xp_M S P) (hW : xp_wd P) (hF : (O ++ w_j P).length + 10000 < 2147483648) : ∀ (m v : Nat) (Q : List Int32), m + v = xp_v P → Q ++ (catB (fun v => w_se (nI 44) v ++ w_jn P v) m v ++ (tx 6 ++ (catB (fun r => w_se (nI 44) r ++ w_jr P r) (xp_r P) 0 ++ tx 24))) = O ++ w_j P → AW g M_Mo_writeBraces (aw_rm 4 90 0 0) (aw_F g 0 0 (fun r1 h => r1 = none ∧ h = HP (MS S (O ++ w_j P)))) 28 [some (.ref 33), some (.int (nI v)), none, none, none] [] (HP (MS S Q)) 0 0 := by
  intro m
  induction m with
  | zero =>
    intro v Q hk e
    have hF2 := hF
    rw [List.length_append] at hF2
    have hq := congrArg List.length e
    simp only [List.length_append] at hq
    refine aw_iload_n (aw_d q_Mo_writeBraces 14 rfl) rfl rfl ?_
    refine aw_aload_n (aw_d q_Mo_writeBraces 15 rfl) rfl rfl rfl ?_
    refine aw_getf (v := .int (nI (xp_v P))) (aw_d q_Mo_writeBraces 16 rfl) fL_Mo_126_Mo rfl (gk hP.1.2.1) ?_
    refine aw_icmpN_ge (tgt := 85) (aw_d q_Mo_writeBraces 17 rfl) (by decide) (by (have hz1 := hW.1; omega)) (by (have hz1 := hW.1; omega)) (fun c33 => ?_) (fun c33 => by exfalso; (have hz1 := hW.1; omega))
    refine aw_aload_n (aw_d q_Mo_writeBraces 42 rfl) rfl rfl rfl ?_
    refine aw_ldc2 (aw_d q_Mo_writeBraces 43 rfl) lL_Mo_172 ?_
    refine aw_bipush (v := nI 8) (aw_d q_Mo_writeBraces 44 rfl) (by decide) ?_
    refine cVv (aw_d q_Mo_writeBraces 45 rfl) (sp_emit (by (try simp only [List.length_append, List.length_cons, List.length_nil, eB_len]); omega)) vL_Mo_141_Mo rfl rfl rfl rfl rfl rfl ⟨aw_le rfl, aw_le rfl⟩ ?_
    refine aw_aload_n (aw_d q_Mo_writeBraces 46 rfl) rfl rfl rfl ?_
    refine aw_ldc2 (aw_d q_Mo_writeBraces 47 rfl) lL_Mo_174 ?_
    refine aw_bipush (v := nI 8) (aw_d q_Mo_writeBraces 48 rfl) (by decide) ?_
    refine cVv (aw_d q_Mo_writeBraces 49 rfl) (sp_emit (by (try simp only [List.length_append, List.length_cons, List.length_nil, eB_len]); omega)) vL_Mo_141_Mo rfl rfl rfl rfl rfl rfl ⟨aw_le rfl, aw_le rfl⟩ ?_
    refine aw_aload_n (aw_d q_Mo_writeBraces 50 rfl) rfl rfl rfl ?_
    refine aw_ldc2 (aw_d q_Mo_writeBraces 51 rfl) lL_Mo_176 ?_
    refine aw_bipush (v := nI 8) (aw_d q_Mo_writeBraces 52 rfl) (by decide) ?_
    refine cVv (aw_d q_Mo_writeBraces 53 rfl) (sp_emit (by (try simp only [List.length_append, List.length_cons, List.length_nil, eB_len]); omega)) vL_Mo_141_Mo rfl rfl rfl rfl rfl rfl ⟨aw_le rfl, aw_le rfl⟩ ?_
    refine aw_aload_n (aw_d q_Mo_writeBraces 54 rfl) rfl rfl rfl ?_
    refine aw_ldc2 (aw_d q_Mo_writeBraces 55 rfl) lL_Mo_178 ?_
    refine aw_iconst (v := nI 2) (aw_d q_Mo_writeBraces 56 rfl) (by decide) ?_
    refine cVv (aw_d q_Mo_writeBraces 57 rfl) (sp_emit (by (try simp only [List.length_append, List.length_cons, List.length_nil, eB_len]); omega)) vL_Mo_141_Mo rfl rfl rfl rfl rfl rfl ⟨aw_le rfl, aw_le rfl⟩ ?_
    refine aw_iconst (v := nI 0) (aw_d q_Mo_writeBraces 58 rfl) (by decide) ?_
    refine aw_istore_n (aw_d q_Mo_writeBraces 59 rfl) rfl (aw_le rfl) rfl ?_
    exact lp_wB2 hP hW hF (xp_r P) 0 _ _ _ _ (by omega) (by rw [← e]; simp [catB, w_se, eb_34_0, eb_34_1, eb_34_2, eb_44_0, eb_44_1, eb_44_2, eb_62_1, eb_63_0, eb_63_1, eb_63_2, eb_91_1, eb_123_0, eb_123_1, eb_123_2, eb_8766_2, eb_11298_0, eb_11298_1, eb_11298_2, eb_11387_0, eb_11387_1, eb_11387_2, eb_14939_2, eb_24158_2, eb_24378_2, eb_26430_2, eb_27710_2, eb_2240318_3, eb_2243106_3, eb_6126973_3, eb_6634786_3, eb_6765858_3, eb_7433278_3, eb_7697001_3, eb_644314171_4, eb_644641851_4, eb_1684108389_4, eb_1919246700_4, eb_1953658213_4, eb_163799184187_5, eb_164843319355_5, eb_259668470078_5, eb_422759588965_5, eb_435426304570_5, eb_439721161573_5, eb_474176698914_5, eb_482733079074_5, eb_500136506472_5, eb_512853240933_5, eb_66174531561790_6, eb_66419075146814_6, eb_122511348035134_6, eb_9128563980975394_7, eb_16996725057414462_7, eb_30515246123868524_7, eb_2334097659363883376_8, eb_2339740318023049582_8, eb_2462380988100801893_8, eb_2466419133851988069_8, eb_3180214656604140665_8, eb_3180236698239528033_8, eb_4336793171144239470_8, eb_4336793192635852094_8, eb_4336793196931343713_8, eb_4336799750816022076_8, eb_4336804166361248353_8, eb_4336810746235415668_8, eb_4351156112845270631_8, eb_4352840508821617711_8, eb_4353970888399544684_8, eb_4355655336186377278_8, eb_4355948828431576126_8, eb_4356776833549689452_8, eb_6736589144075891573_8, eb_7286945561811696930_8, eb_7522525835761050223_8, eb_7597120025407222562_8, eb_7814997844241883746_8, eb_7943852967226007922_8, eb_8243121641139499838_8, eb_8304140937415647602_8, eb_8872769000508236346_8, eb_8872784376777351738_8, eb_8898316964945948524_8, tl_0, tl_1, tl_2, tl_3, tl_5, tl_6, tl_7, tl_8, tl_9, tl_10, tl_11, tl_12, tl_13, tl_14, tl_15, tl_16, tl_17, tl_18, tl_19, tl_20, tl_21, tl_22, tl_23, tl_24, tl_25, tl_26, tl_27, tl_28, tl_29, tl_30, tl_31, tl_32, tl_33, tl_34, tl_35, tl_36, tl_37, tl_38, tl_39, tl_40, tl_41, tl_42, tl_43, tl_44, tl_45, tl_46, tl_47, tl_48, tl_49, tl_50, tl_51, tl_52, tl_53, tl_54, tl_55, tl_56, tl_57, tl_58, tl_59])
  | succ m ih =>
    intro v Q hk e
    have hF2 := hF
    rw [List.length_append] at hF2
    have hq := congrArg List.length e
    simp only [catB, List.length_append, List.length_cons, List.length_nil] at hq
    have hln := w_n_len hW (v := v) (by omega)
    refine aw_iload_n (aw_d q_Mo_writeBraces 14 rfl) rfl rfl ?_
    refine aw_aload_n (aw_d q_Mo_writeBraces 15 rfl) rfl rfl rfl ?_
    refine aw_getf (v := .int (nI (xp_v P))) (aw_d q_Mo_writeBraces 16 rfl) fL_Mo_126_Mo rfl (gk hP.1.2.1) ?_
    refine aw_icmpN_ge (tgt := 85) (aw_d q_Mo_writeBraces 17 rfl) (by decide) (by (have hz1 := hW.1; omega)) (by (have hz1 := hW.1; omega)) (fun c33 => by exfalso; (have hz1 := hW.1; omega)) (fun c33 => ?_)
    refine aw_aload_n (aw_d q_Mo_writeBraces 18 rfl) rfl rfl rfl ?_
    refine aw_ldc2 (aw_d q_Mo_writeBraces 19 rfl) lL_Mo_165 ?_
    refine aw_iload_n (aw_d q_Mo_writeBraces 20 rfl) rfl rfl ?_
    refine aw_ifN_le (tgt := 48) (aw_d q_Mo_writeBraces 21 rfl) (by decide) (by (have hz1 := hW.1; omega)) (fun c41 => ?_) (fun c41 => ?_)
    · refine aw_iconst (v := nI 0) (aw_d q_Mo_writeBraces 24 rfl) (by decide) ?_
      refine cVv (aw_d q_Mo_writeBraces 25 rfl) (sp_emit (by (try simp only [List.length_append, List.length_cons, List.length_nil, eB_len]); omega)) vL_Mo_141_Mo rfl rfl rfl rfl rfl rfl ⟨aw_le rfl, aw_le rfl⟩ ?_
      refine aw_aload_n (aw_d q_Mo_writeBraces 26 rfl) rfl rfl rfl ?_
      refine aw_ldc2 (aw_d q_Mo_writeBraces 27 rfl) lL_Mo_167 ?_
      refine aw_iload_n (aw_d q_Mo_writeBraces 28 rfl) rfl rfl ?_
      refine aw_ifN_le (tgt := 64) (aw_d q_Mo_writeBraces 29 rfl) (by decide) (by (have hz1 := hW.1; omega)) (fun c57 => ?_) (fun c57 => by exfalso; (have hz1 := hW.1; omega))
      refine aw_iconst (v := nI 1) (aw_d q_Mo_writeBraces 32 rfl) (by decide) ?_
      refine cVv (aw_d q_Mo_writeBraces 33 rfl) (sp_emit (by (try simp only [List.length_append, List.length_cons, List.length_nil, eB_len]); omega)) vL_Mo_141_Mo rfl rfl rfl rfl rfl rfl ⟨aw_le rfl, aw_le rfl⟩ ?_
      refine aw_aload_n (aw_d q_Mo_writeBraces 34 rfl) rfl rfl rfl ?_
      refine aw_iload_n (aw_d q_Mo_writeBraces 35 rfl) rfl rfl ?_
      refine cVv (aw_d q_Mo_writeBraces 36 rfl) (sp_emitName hP hW (v := v) (by omega) (by (try simp only [List.length_append, List.length_cons, List.length_nil, eB_len]); omega)) vL_Mo_169_Mo rfl rfl rfl rfl rfl rfl ⟨aw_le rfl, aw_le rfl⟩ ?_
      refine aw_aload_n (aw_d q_Mo_writeBraces 37 rfl) rfl rfl rfl ?_
      refine aw_bipush (v := nI 34) (aw_d q_Mo_writeBraces 38 rfl) (by decide) ?_
      refine cVv (aw_d q_Mo_writeBraces 39 rfl) (sp_put1 (by (try simp only [List.length_append, List.length_cons, List.length_nil, eB_len]); omega)) vL_Mo_135_Mo rfl rfl rfl rfl rfl rfl ⟨aw_le rfl, aw_le rfl⟩ ?_
      refine aw_iinc (aw_d q_Mo_writeBraces 40 rfl) rfl (ii1 _) (aw_le rfl) rfl ?_
      refine aw_goto (tgt := 28) (aw_d q_Mo_writeBraces 41 rfl) (by decide) ?_
      exact ih (v + 1) _ (by omega) (by rw [← e]; simp [catB, w_jn, w_se, eb_34_0, eb_34_1, eb_34_2, eb_44_0, eb_44_1, eb_44_2, eb_62_1, eb_63_0, eb_63_1, eb_63_2, eb_91_1, eb_123_0, eb_123_1, eb_123_2, eb_8766_2, eb_11298_0, eb_11298_1, eb_11298_2, eb_11387_0, eb_11387_1, eb_11387_2, eb_14939_2, eb_24158_2, eb_24378_2, eb_26430_2, eb_27710_2, eb_2240318_3, eb_2243106_3, eb_6126973_3, eb_6634786_3, eb_6765858_3, eb_7433278_3, eb_7697001_3, eb_644314171_4, eb_644641851_4, eb_1684108389_4, eb_1919246700_4, eb_1953658213_4, eb_163799184187_5, eb_164843319355_5, eb_259668470078_5, eb_422759588965_5, eb_435426304570_5, eb_439721161573_5, eb_474176698914_5, eb_482733079074_5, eb_500136506472_5, eb_512853240933_5, eb_66174531561790_6, eb_66419075146814_6, eb_122511348035134_6, eb_9128563980975394_7, eb_16996725057414462_7, eb_30515246123868524_7, eb_2334097659363883376_8, eb_2339740318023049582_8, eb_2462380988100801893_8, eb_2466419133851988069_8, eb_3180214656604140665_8, eb_3180236698239528033_8, eb_4336793171144239470_8, eb_4336793192635852094_8, eb_4336793196931343713_8, eb_4336799750816022076_8, eb_4336804166361248353_8, eb_4336810746235415668_8, eb_4351156112845270631_8, eb_4352840508821617711_8, eb_4353970888399544684_8, eb_4355655336186377278_8, eb_4355948828431576126_8, eb_4356776833549689452_8, eb_6736589144075891573_8, eb_7286945561811696930_8, eb_7522525835761050223_8, eb_7597120025407222562_8, eb_7814997844241883746_8, eb_7943852967226007922_8, eb_8243121641139499838_8, eb_8304140937415647602_8, eb_8872769000508236346_8, eb_8872784376777351738_8, eb_8898316964945948524_8, tl_0, tl_1, tl_2, tl_3, tl_5, tl_6, tl_7, tl_8, tl_9, tl_10, tl_11, tl_12, tl_13, tl_14, tl_15, tl_16, tl_17, tl_18, tl_19, tl_20, tl_21, tl_22, tl_23, tl_24, tl_25, tl_26, tl_27, tl_28, tl_29, tl_30, tl_31, tl_32, tl_33, tl_34, tl_35, tl_36, tl_37, tl_38, tl_39, tl_40, tl_41, tl_42, tl_43, tl_44, tl_45, tl_46, tl_47, tl_48, tl_49, tl_50, tl_51, tl_52, tl_53, tl_54, tl_55, tl_56, tl_57, tl_58, tl_59, c41])
    · refine aw_iconst (v := nI 2) (aw_d q_Mo_writeBraces 22 rfl) (by decide) ?_
      refine aw_goto (tgt := 49) (aw_d q_Mo_writeBraces 23 rfl) (by decide) ?_
      refine cVv (aw_d q_Mo_writeBraces 25 rfl) (sp_emit (by (try simp only [List.length_append, List.length_cons, List.length_nil, eB_len]); omega)) vL_Mo_141_Mo rfl rfl rfl rfl rfl rfl ⟨aw_le rfl, aw_le rfl⟩ ?_
      refine aw_aload_n (aw_d q_Mo_writeBraces 26 rfl) rfl rfl rfl ?_
      refine aw_ldc2 (aw_d q_Mo_writeBraces 27 rfl) lL_Mo_167 ?_
      refine aw_iload_n (aw_d q_Mo_writeBraces 28 rfl) rfl rfl ?_
      refine aw_ifN_le (tgt := 64) (aw_d q_Mo_writeBraces 29 rfl) (by decide) (by (have hz1 := hW.1; omega)) (fun c57 => by exfalso; (have hz1 := hW.1; omega)) (fun c57 => ?_)
      refine aw_iconst (v := nI 0) (aw_d q_Mo_writeBraces 30 rfl) (by decide) ?_
      refine aw_goto (tgt := 65) (aw_d q_Mo_writeBraces 31 rfl) (by decide) ?_
      refine cVv (aw_d q_Mo_writeBraces 33 rfl) (sp_emit (by (try simp only [List.length_append, List.length_cons, List.length_nil, eB_len]); omega)) vL_Mo_141_Mo rfl rfl rfl rfl rfl rfl ⟨aw_le rfl, aw_le rfl⟩ ?_
      refine aw_aload_n (aw_d q_Mo_writeBraces 34 rfl) rfl rfl rfl ?_
      refine aw_iload_n (aw_d q_Mo_writeBraces 35 rfl) rfl rfl ?_
      refine cVv (aw_d q_Mo_writeBraces 36 rfl) (sp_emitName hP hW (v := v) (by omega) (by (try simp only [List.length_append, List.length_cons, List.length_nil, eB_len]); omega)) vL_Mo_169_Mo rfl rfl rfl rfl rfl rfl ⟨aw_le rfl, aw_le rfl⟩ ?_
      refine aw_aload_n (aw_d q_Mo_writeBraces 37 rfl) rfl rfl rfl ?_
      refine aw_bipush (v := nI 34) (aw_d q_Mo_writeBraces 38 rfl) (by decide) ?_
      refine cVv (aw_d q_Mo_writeBraces 39 rfl) (sp_put1 (by (try simp only [List.length_append, List.length_cons, List.length_nil, eB_len]); omega)) vL_Mo_135_Mo rfl rfl rfl rfl rfl rfl ⟨aw_le rfl, aw_le rfl⟩ ?_
      refine aw_iinc (aw_d q_Mo_writeBraces 40 rfl) rfl (ii1 _) (aw_le rfl) rfl ?_
      refine aw_goto (tgt := 28) (aw_d q_Mo_writeBraces 41 rfl) (by decide) ?_
      exact ih (v + 1) _ (by omega) (by rw [← e]; simp [catB, w_jn, w_se, eb_34_0, eb_34_1, eb_34_2, eb_44_0, eb_44_1, eb_44_2, eb_62_1, eb_63_0, eb_63_1, eb_63_2, eb_91_1, eb_123_0, eb_123_1, eb_123_2, eb_8766_2, eb_11298_0, eb_11298_1, eb_11298_2, eb_11387_0, eb_11387_1, eb_11387_2, eb_14939_2, eb_24158_2, eb_24378_2, eb_26430_2, eb_27710_2, eb_2240318_3, eb_2243106_3, eb_6126973_3, eb_6634786_3, eb_6765858_3, eb_7433278_3, eb_7697001_3, eb_644314171_4, eb_644641851_4, eb_1684108389_4, eb_1919246700_4, eb_1953658213_4, eb_163799184187_5, eb_164843319355_5, eb_259668470078_5, eb_422759588965_5, eb_435426304570_5, eb_439721161573_5, eb_474176698914_5, eb_482733079074_5, eb_500136506472_5, eb_512853240933_5, eb_66174531561790_6, eb_66419075146814_6, eb_122511348035134_6, eb_9128563980975394_7, eb_16996725057414462_7, eb_30515246123868524_7, eb_2334097659363883376_8, eb_2339740318023049582_8, eb_2462380988100801893_8, eb_2466419133851988069_8, eb_3180214656604140665_8, eb_3180236698239528033_8, eb_4336793171144239470_8, eb_4336793192635852094_8, eb_4336793196931343713_8, eb_4336799750816022076_8, eb_4336804166361248353_8, eb_4336810746235415668_8, eb_4351156112845270631_8, eb_4352840508821617711_8, eb_4353970888399544684_8, eb_4355655336186377278_8, eb_4355948828431576126_8, eb_4356776833549689452_8, eb_6736589144075891573_8, eb_7286945561811696930_8, eb_7522525835761050223_8, eb_7597120025407222562_8, eb_7814997844241883746_8, eb_7943852967226007922_8, eb_8243121641139499838_8, eb_8304140937415647602_8, eb_8872769000508236346_8, eb_8872784376777351738_8, eb_8898316964945948524_8, tl_0, tl_1, tl_2, tl_3, tl_5, tl_6, tl_7, tl_8, tl_9, tl_10, tl_11, tl_12, tl_13, tl_14, tl_15, tl_16, tl_17, tl_18, tl_19, tl_20, tl_21, tl_22, tl_23, tl_24, tl_25, tl_26, tl_27, tl_28, tl_29, tl_30, tl_31, tl_32, tl_33, tl_34, tl_35, tl_36, tl_37, tl_38, tl_39, tl_40, tl_41, tl_42, tl_43, tl_44, tl_45, tl_46, tl_47, tl_48, tl_49, tl_50, tl_51, tl_52, tl_53, tl_54, tl_55, tl_56, tl_57, tl_58, tl_59, c41])
set_option maxRecDepth 20000 in
theorem sp_writeBraces {g : aw_G} {S : aw_S} {O : List Int32} {P : xp_T} (hP : xp_M S P) (hW : xp_wd P) (hF : (O ++ w_j P).length + 10000 < 2147483648) : Sp g M_Mo_writeBraces 4 90 0 0 [.ref 33] (HP (MS S O)) (fun r1 h => r1 = none ∧ h = HP (MS S (O ++ w_j P))) := by
  refine Sp.of rfl (aw_le rfl) ?_
  have hq := hF
  simp only [List.length_append] at hq
  refine aw_aload_n (aw_d q_Mo_writeBraces 0 rfl) rfl rfl rfl ?_
  refine aw_ldc2 (aw_d q_Mo_writeBraces 1 rfl) lL_Mo_159 ?_
  refine aw_bipush (v := nI 8) (aw_d q_Mo_writeBraces 2 rfl) (by decide) ?_
  refine cVv (aw_d q_Mo_writeBraces 3 rfl) (sp_emit (by (try simp only [List.length_append, List.length_cons, List.length_nil, eB_len]); omega)) vL_Mo_141_Mo rfl rfl rfl rfl rfl rfl ⟨aw_le rfl, aw_le rfl⟩ ?_
  refine aw_aload_n (aw_d q_Mo_writeBraces 4 rfl) rfl rfl rfl ?_
  refine aw_ldc2 (aw_d q_Mo_writeBraces 5 rfl) lL_Mo_161 ?_
  refine aw_bipush (v := nI 8) (aw_d q_Mo_writeBraces 6 rfl) (by decide) ?_
  refine cVv (aw_d q_Mo_writeBraces 7 rfl) (sp_emit (by (try simp only [List.length_append, List.length_cons, List.length_nil, eB_len]); omega)) vL_Mo_141_Mo rfl rfl rfl rfl rfl rfl ⟨aw_le rfl, aw_le rfl⟩ ?_
  refine aw_aload_n (aw_d q_Mo_writeBraces 8 rfl) rfl rfl rfl ?_
  refine aw_ldc2 (aw_d q_Mo_writeBraces 9 rfl) lL_Mo_163 ?_
  refine aw_iconst (v := nI 1) (aw_d q_Mo_writeBraces 10 rfl) (by decide) ?_
  refine cVv (aw_d q_Mo_writeBraces 11 rfl) (sp_emit (by (try simp only [List.length_append, List.length_cons, List.length_nil, eB_len]); omega)) vL_Mo_141_Mo rfl rfl rfl rfl rfl rfl ⟨aw_le rfl, aw_le rfl⟩ ?_
  refine aw_iconst (v := nI 0) (aw_d q_Mo_writeBraces 12 rfl) (by decide) ?_
  refine aw_istore_n (aw_d q_Mo_writeBraces 13 rfl) rfl (aw_le rfl) rfl ?_
  exact lp_wB1 hP hW hF (xp_v P) 0 _ (by omega) (by simp [w_j, eb_34_0, eb_34_1, eb_34_2, eb_44_0, eb_44_1, eb_44_2, eb_62_1, eb_63_0, eb_63_1, eb_63_2, eb_91_1, eb_123_0, eb_123_1, eb_123_2, eb_8766_2, eb_11298_0, eb_11298_1, eb_11298_2, eb_11387_0, eb_11387_1, eb_11387_2, eb_14939_2, eb_24158_2, eb_24378_2, eb_26430_2, eb_27710_2, eb_2240318_3, eb_2243106_3, eb_6126973_3, eb_6634786_3, eb_6765858_3, eb_7433278_3, eb_7697001_3, eb_644314171_4, eb_644641851_4, eb_1684108389_4, eb_1919246700_4, eb_1953658213_4, eb_163799184187_5, eb_164843319355_5, eb_259668470078_5, eb_422759588965_5, eb_435426304570_5, eb_439721161573_5, eb_474176698914_5, eb_482733079074_5, eb_500136506472_5, eb_512853240933_5, eb_66174531561790_6, eb_66419075146814_6, eb_122511348035134_6, eb_9128563980975394_7, eb_16996725057414462_7, eb_30515246123868524_7, eb_2334097659363883376_8, eb_2339740318023049582_8, eb_2462380988100801893_8, eb_2466419133851988069_8, eb_3180214656604140665_8, eb_3180236698239528033_8, eb_4336793171144239470_8, eb_4336793192635852094_8, eb_4336793196931343713_8, eb_4336799750816022076_8, eb_4336804166361248353_8, eb_4336810746235415668_8, eb_4351156112845270631_8, eb_4352840508821617711_8, eb_4353970888399544684_8, eb_4355655336186377278_8, eb_4355948828431576126_8, eb_4356776833549689452_8, eb_6736589144075891573_8, eb_7286945561811696930_8, eb_7522525835761050223_8, eb_7597120025407222562_8, eb_7814997844241883746_8, eb_7943852967226007922_8, eb_8243121641139499838_8, eb_8304140937415647602_8, eb_8872769000508236346_8, eb_8872784376777351738_8, eb_8898316964945948524_8, tl_0, tl_1, tl_2, tl_3, tl_5, tl_6, tl_7, tl_8, tl_9, tl_10, tl_11, tl_12, tl_13, tl_14, tl_15, tl_16, tl_17, tl_18, tl_19, tl_20, tl_21, tl_22, tl_23, tl_24, tl_25, tl_26, tl_27, tl_28, tl_29, tl_30, tl_31, tl_32, tl_33, tl_34, tl_35, tl_36, tl_37, tl_38, tl_39, tl_40, tl_41, tl_42, tl_43, tl_44, tl_45, tl_46, tl_47, tl_48, tl_49, tl_50, tl_51, tl_52, tl_53, tl_54, tl_55, tl_56, tl_57, tl_58, tl_59])
theorem tx_l : ∀ j, j < 60 → (tx j).length ≤ 30 := by decide
theorem if_len {c : Prop} [Decidable c] {a b : List Int32} {n : Nat} (ha : a.length ≤ n) (hb : b.length ≤ n) : (if c then a else b).length ≤ n := by
  split
  · exact ha
  · exact hb
theorem w_xt_len {P : xp_T} {t : Nat} (hW : xp_wd P) (ht : t < xp_t P) : (w_xt P t).length ≤ 250 := by
  have h1 := w_t_len (f := w_2) hW ht w_2_len
  have h2 : (if xp_k P t = 0 then tx 32 else if xp_k P t = 1 then tx 33 else tx 34).length ≤ 30 := if_len (tx_l _ (by decide)) (if_len (tx_l _ (by decide)) (tx_l _ (by decide)))
  have h3 : (if xp_k P t = 0 then tx 41 else if xp_k P t = 1 then tx 42 else tx 43).length ≤ 30 := if_len (tx_l _ (by decide)) (if_len (tx_l _ (by decide)) (tx_l _ (by decide)))
  have h4 : (if xp_k P t = 3 then tx 35 ++ (w_e P t ++ [nI 34]) else if xp_k P t = 4 then tx 36 ++ (w_e P t ++ [nI 34]) else []).length ≤ 60 := by
    have a := tx_l 35 (by decide)
    have b := tx_l 36 (by decide)
    split
    · have := w_e_len hW ht (by omega); simp only [List.length_append, List.length_cons, List.length_nil]; omega
    · split
      · have := w_e_len hW ht (by omega); simp only [List.length_append, List.length_cons, List.length_nil]; omega
      · simp
  simp only [w_xt, List.length_append, List.length_cons]
  omega
theorem w_jt_len {P : xp_T} {t : Nat} (hW : xp_wd P) (ht : t < xp_t P) : (w_jt P t).length ≤ 300 := by
  have h1 := w_t_len (f := w_1) hW ht w_1_len
  have h2 : (if xp_k P t = 0 then tx 8 else if xp_k P t = 1 then tx 9 else tx 10).length ≤ 30 := if_len (tx_l _ (by decide)) (if_len (tx_l _ (by decide)) (tx_l _ (by decide)))
  have h4 : (if xp_k P t = 3 then tx 17 ++ w_e P t else if xp_k P t = 4 then tx 18 ++ w_e P t else []).length ≤ 60 := by
    have a := tx_l 17 (by decide)
    have b := tx_l 18 (by decide)
    split
    · have := w_e_len hW ht (by omega); simp only [List.length_append]; omega
    · split
      · have := w_e_len hW ht (by omega); simp only [List.length_append]; omega
      · simp
  have a := tx_l 7 (by decide)
  have b := tx_l 11 (by decide)
  have c := tx_l 23 (by decide)
  simp only [w_jt, List.length_append]
  omega
theorem w_ct_len {P : xp_T} {t : Nat} (hW : xp_wd P) (ht : t < xp_t P) : (w_ct P t).length ≤ 300 := by
  have h0 := w_t_len (f := w_0) hW ht w_0_len
  have h3 := w_t_len (f := w_3) hW ht w_3_len
  have a := tx_l 47 (by decide)
  simp only [w_ct]
  split
  · simp only [List.length_append]; omega
  · split
    · simp only [List.length_append, List.length_cons, List.length_nil]; omega
    · omega
theorem w_tt_len {P : xp_T} {t : Nat} (hW : xp_wd P) (ht : t < xp_t P) : (w_tt P t).length ≤ 300 := by
  have h0 := w_t_len (f := w_0) hW ht w_0_len
  have h1 := w_t_len (f := w_1) hW ht w_1_len
  have a := tx_l 50 (by decide)
  have b := tx_l 52 (by decide)
  have c := tx_l 53 (by decide)
  have d := tx_l 54 (by decide)
  obtain ⟨hk4, -⟩ := hW.2.2.2 t ht
  simp only [w_tt]
  split
  · simp only [List.length_append, List.length_cons, List.length_nil]; omega
  · split
    · simp only [List.length_append]; omega
    · simp only [List.length_append, List.length_cons]
      split
      · omega
      · split
        · have := w_e_len hW ht (by omega); simp only [List.length_append]; omega
        · have := w_e_len hW ht (by omega); simp only [List.length_append]; omega
set_option maxRecDepth 20000 in
theorem lp_wT_in {g : aw_G} {S : aw_S} {Post : Option Value → aw_hp → Prop} {P : xp_T} (hP : xp_M S P) (hW : xp_wd P) {r : Nat} (hr : r < xp_r P) {F : List Int32} (hF : F.length + 10000 < 2147483648) : ∀ (m v : Nat) (Q : List Int32) (x3 : Option Value), m + v = xp_v P → Q ++ catB (w_xc P r) m v = F → (∀ x3 : Option Value, AW g M_Mo_writeTags (aw_rm 4 90 0 0) (aw_F g 0 0 Post) 187 [some (.ref 33), some (.int (nI r)), some (.int (nI (xp_v P))), x3] [] (HP (MS S F)) 0 0) → AW g M_Mo_writeTags (aw_rm 4 90 0 0) (aw_F g 0 0 (Post)) 104 [some (.ref 33), some (.int (nI r)), some (.int (nI v)), x3] [] (HP (MS S Q)) 0 0 := by
  intro m
  induction m with
  | zero =>
    intro v Q x3 hk e kk
    refine aw_iload_n (aw_d q_Mo_writeTags 51 rfl) rfl rfl ?_
    refine aw_aload_n (aw_d q_Mo_writeTags 52 rfl) rfl rfl rfl ?_
    refine aw_getf (v := .int (nI (xp_v P))) (aw_d q_Mo_writeTags 53 rfl) fL_Mo_126_Mo rfl (gk hP.1.2.1) ?_
    refine aw_icmpN_ge (tgt := 187) (aw_d q_Mo_writeTags 54 rfl) (by decide) (by (have hz1 := hW.1; omega)) (by (have hz1 := hW.1; omega)) (fun c109 => ?_) (fun c109 => by exfalso; (have hz1 := hW.1; omega))
    have hve : v = xp_v P := by omega
    subst hve
    simp only [catB, rjB, List.append_nil] at e
    subst e
    exact kk _
  | succ m ih =>
    intro v Q x3 hk e kk
    have hq := congrArg List.length e
    rw [List.length_append] at hq
    have hln := w_n_len hW (v := v) (by omega)
    have hct : ∀ t, xp_c P r v = some t → t < xp_t P := fun t h => hW.2.2.1 r v t hr (by omega) h
    cases hc : xp_c P r v with
    | none =>
      refine aw_iload_n (aw_d q_Mo_writeTags 51 rfl) rfl rfl ?_
      refine aw_aload_n (aw_d q_Mo_writeTags 52 rfl) rfl rfl rfl ?_
      refine aw_getf (v := .int (nI (xp_v P))) (aw_d q_Mo_writeTags 53 rfl) fL_Mo_126_Mo rfl (gk hP.1.2.1) ?_
      refine aw_icmpN_ge (tgt := 187) (aw_d q_Mo_writeTags 54 rfl) (by decide) (by (have hz1 := hW.1; omega)) (by (have hz1 := hW.1; omega)) (fun c109 => by exfalso; (have hz1 := hW.1; omega)) (fun c109 => ?_)
      refine aw_aload_n (aw_d q_Mo_writeTags 55 rfl) rfl rfl rfl ?_
      refine aw_getf (aw_d q_Mo_writeTags 56 rfl) fL_Mo_37_Mo rfl rfl ?_
      refine aw_bipush (v := nI 6) (aw_d q_Mo_writeTags 57 rfl) (by decide) ?_
      refine aw_iload_n (aw_d q_Mo_writeTags 58 rfl) rfl rfl ?_
      refine aw_imulN (aw_d q_Mo_writeTags 59 rfl) ?_
      refine aw_iload_n (aw_d q_Mo_writeTags 60 rfl) rfl rfl ?_
      refine aw_iaddN (aw_d q_Mo_writeTags 61 rfl) ?_
      refine aw_ialdK (w := (-1)) (aw_d q_Mo_writeTags 62 rfl) rfl (by (have hz1 := hW.1; omega)) rfl (by show S.2 43 (6 * r + v) = _; rw [Nat.mul_comm 6 r, hP.2.2.1 r v hr (by omega), hc]; rfl) ?_
      refine aw_istore_n (aw_d q_Mo_writeTags 63 rfl) rfl (aw_le rfl) rfl ?_
      refine aw_iload_n (aw_d q_Mo_writeTags 64 rfl) rfl rfl ?_
      refine aw_ifI_lt (tgt := 181) (aw_d q_Mo_writeTags 65 rfl) (by decide) (fun c125 => ?_) (fun c125 => by exact absurd c125 (by decide))
      refine aw_iinc (aw_d q_Mo_writeTags 92 rfl) rfl (ii1 _) (aw_le rfl) rfl ?_
      refine aw_goto (tgt := 104) (aw_d q_Mo_writeTags 93 rfl) (by decide) ?_
      exact ih (v + 1) _ _ (by omega) (by rw [← e]; simp [catB, w_xc, hc, eb_34_0, eb_34_1, eb_34_2, eb_44_0, eb_44_1, eb_44_2, eb_62_1, eb_63_0, eb_63_1, eb_63_2, eb_91_1, eb_123_0, eb_123_1, eb_123_2, eb_8766_2, eb_11298_0, eb_11298_1, eb_11298_2, eb_11387_0, eb_11387_1, eb_11387_2, eb_14939_2, eb_24158_2, eb_24378_2, eb_26430_2, eb_27710_2, eb_2240318_3, eb_2243106_3, eb_6126973_3, eb_6634786_3, eb_6765858_3, eb_7433278_3, eb_7697001_3, eb_644314171_4, eb_644641851_4, eb_1684108389_4, eb_1919246700_4, eb_1953658213_4, eb_163799184187_5, eb_164843319355_5, eb_259668470078_5, eb_422759588965_5, eb_435426304570_5, eb_439721161573_5, eb_474176698914_5, eb_482733079074_5, eb_500136506472_5, eb_512853240933_5, eb_66174531561790_6, eb_66419075146814_6, eb_122511348035134_6, eb_9128563980975394_7, eb_16996725057414462_7, eb_30515246123868524_7, eb_2334097659363883376_8, eb_2339740318023049582_8, eb_2462380988100801893_8, eb_2466419133851988069_8, eb_3180214656604140665_8, eb_3180236698239528033_8, eb_4336793171144239470_8, eb_4336793192635852094_8, eb_4336793196931343713_8, eb_4336799750816022076_8, eb_4336804166361248353_8, eb_4336810746235415668_8, eb_4351156112845270631_8, eb_4352840508821617711_8, eb_4353970888399544684_8, eb_4355655336186377278_8, eb_4355948828431576126_8, eb_4356776833549689452_8, eb_6736589144075891573_8, eb_7286945561811696930_8, eb_7522525835761050223_8, eb_7597120025407222562_8, eb_7814997844241883746_8, eb_7943852967226007922_8, eb_8243121641139499838_8, eb_8304140937415647602_8, eb_8872769000508236346_8, eb_8872784376777351738_8, eb_8898316964945948524_8, tl_0, tl_1, tl_2, tl_3, tl_5, tl_6, tl_7, tl_8, tl_9, tl_10, tl_11, tl_12, tl_13, tl_14, tl_15, tl_16, tl_17, tl_18, tl_19, tl_20, tl_21, tl_22, tl_23, tl_24, tl_25, tl_26, tl_27, tl_28, tl_29, tl_30, tl_31, tl_32, tl_33, tl_34, tl_35, tl_36, tl_37, tl_38, tl_39, tl_40, tl_41, tl_42, tl_43, tl_44, tl_45, tl_46, tl_47, tl_48, tl_49, tl_50, tl_51, tl_52, tl_53, tl_54, tl_55, tl_56, tl_57, tl_58, tl_59]) kk
    | some t =>
      have ht := hct t hc
      have hxl := w_xt_len hW ht
      refine aw_iload_n (aw_d q_Mo_writeTags 51 rfl) rfl rfl ?_
      refine aw_aload_n (aw_d q_Mo_writeTags 52 rfl) rfl rfl rfl ?_
      refine aw_getf (v := .int (nI (xp_v P))) (aw_d q_Mo_writeTags 53 rfl) fL_Mo_126_Mo rfl (gk hP.1.2.1) ?_
      refine aw_icmpN_ge (tgt := 187) (aw_d q_Mo_writeTags 54 rfl) (by decide) (by (have hz1 := hW.1; omega)) (by (have hz1 := hW.1; omega)) (fun c109 => by exfalso; (have hz1 := hW.1; omega)) (fun c109 => ?_)
      refine aw_aload_n (aw_d q_Mo_writeTags 55 rfl) rfl rfl rfl ?_
      refine aw_getf (aw_d q_Mo_writeTags 56 rfl) fL_Mo_37_Mo rfl rfl ?_
      refine aw_bipush (v := nI 6) (aw_d q_Mo_writeTags 57 rfl) (by decide) ?_
      refine aw_iload_n (aw_d q_Mo_writeTags 58 rfl) rfl rfl ?_
      refine aw_imulN (aw_d q_Mo_writeTags 59 rfl) ?_
      refine aw_iload_n (aw_d q_Mo_writeTags 60 rfl) rfl rfl ?_
      refine aw_iaddN (aw_d q_Mo_writeTags 61 rfl) ?_
      refine aw_ialdK (w := (nI t)) (aw_d q_Mo_writeTags 62 rfl) rfl (by (have hz1 := hW.1; omega)) rfl (by show S.2 43 (6 * r + v) = _; rw [Nat.mul_comm 6 r, hP.2.2.1 r v hr (by omega), hc]; rfl) ?_
      refine aw_istore_n (aw_d q_Mo_writeTags 63 rfl) rfl (aw_le rfl) rfl ?_
      refine aw_iload_n (aw_d q_Mo_writeTags 64 rfl) rfl rfl ?_
      refine aw_ifN_lt (tgt := 181) (aw_d q_Mo_writeTags 65 rfl) (by decide) (by (have hz1 := hW.1; omega)) (fun c125 => by exfalso; (have hz1 := hW.1; omega)) (fun c125 => ?_)
      refine aw_aload_n (aw_d q_Mo_writeTags 66 rfl) rfl rfl rfl ?_
      refine aw_ldc2 (aw_d q_Mo_writeTags 67 rfl) lL_Mo_234 ?_
      refine aw_bipush (v := nI 8) (aw_d q_Mo_writeTags 68 rfl) (by decide) ?_
      refine cVv (aw_d q_Mo_writeTags 69 rfl) (sp_emit (by (try simp only [List.length_append, List.length_cons, List.length_nil, eB_len]); omega)) vL_Mo_141_Mo rfl rfl rfl rfl rfl rfl ⟨aw_le rfl, aw_le rfl⟩ ?_
      refine aw_aload_n (aw_d q_Mo_writeTags 70 rfl) rfl rfl rfl ?_
      refine aw_ldc2 (aw_d q_Mo_writeTags 71 rfl) lL_Mo_236 ?_
      refine aw_bipush (v := nI 7) (aw_d q_Mo_writeTags 72 rfl) (by decide) ?_
      refine cVv (aw_d q_Mo_writeTags 73 rfl) (sp_emit (by (try simp only [List.length_append, List.length_cons, List.length_nil, eB_len]); omega)) vL_Mo_141_Mo rfl rfl rfl rfl rfl rfl ⟨aw_le rfl, aw_le rfl⟩ ?_
      refine aw_aload_n (aw_d q_Mo_writeTags 74 rfl) rfl rfl rfl ?_
      refine aw_iload_n (aw_d q_Mo_writeTags 75 rfl) rfl rfl ?_
      refine cVv (aw_d q_Mo_writeTags 76 rfl) (sp_emitName hP hW (v := v) (by omega) (by (try simp only [List.length_append, List.length_cons, List.length_nil, eB_len]); omega)) vL_Mo_169_Mo rfl rfl rfl rfl rfl rfl ⟨aw_le rfl, aw_le rfl⟩ ?_
      refine aw_aload_n (aw_d q_Mo_writeTags 77 rfl) rfl rfl rfl ?_
      refine aw_ldc2 (aw_d q_Mo_writeTags 78 rfl) lL_Mo_238 ?_
      refine aw_iconst (v := nI 2) (aw_d q_Mo_writeTags 79 rfl) (by decide) ?_
      refine cVv (aw_d q_Mo_writeTags 80 rfl) (sp_emit (by (try simp only [List.length_append, List.length_cons, List.length_nil, eB_len]); omega)) vL_Mo_141_Mo rfl rfl rfl rfl rfl rfl ⟨aw_le rfl, aw_le rfl⟩ ?_
      refine aw_aload_n (aw_d q_Mo_writeTags 81 rfl) rfl rfl rfl ?_
      refine aw_iload_n (aw_d q_Mo_writeTags 82 rfl) rfl rfl ?_
      refine cVv (aw_d q_Mo_writeTags 83 rfl) (sp_Mo_bindTags hP hW ht (by (try simp only [List.length_append, List.length_cons, List.length_nil, eB_len]); omega)) vL_Mo_240_Mo rfl rfl rfl rfl rfl rfl ⟨aw_le rfl, aw_le rfl⟩ ?_
      refine aw_aload_n (aw_d q_Mo_writeTags 84 rfl) rfl rfl rfl ?_
      refine aw_ldc2 (aw_d q_Mo_writeTags 85 rfl) lL_Mo_243 ?_
      refine aw_bipush (v := nI 8) (aw_d q_Mo_writeTags 86 rfl) (by decide) ?_
      refine cVv (aw_d q_Mo_writeTags 87 rfl) (sp_emit (by (try simp only [List.length_append, List.length_cons, List.length_nil, eB_len]); omega)) vL_Mo_141_Mo rfl rfl rfl rfl rfl rfl ⟨aw_le rfl, aw_le rfl⟩ ?_
      refine aw_aload_n (aw_d q_Mo_writeTags 88 rfl) rfl rfl rfl ?_
      refine aw_ldc2 (aw_d q_Mo_writeTags 89 rfl) lL_Mo_245 ?_
      refine aw_iconst (v := nI 2) (aw_d q_Mo_writeTags 90 rfl) (by decide) ?_
      refine cVv (aw_d q_Mo_writeTags 91 rfl) (sp_emit (by (try simp only [List.length_append, List.length_cons, List.length_nil, eB_len]); omega)) vL_Mo_141_Mo rfl rfl rfl rfl rfl rfl ⟨aw_le rfl, aw_le rfl⟩ ?_
      refine aw_iinc (aw_d q_Mo_writeTags 92 rfl) rfl (ii1 _) (aw_le rfl) rfl ?_
      refine aw_goto (tgt := 104) (aw_d q_Mo_writeTags 93 rfl) (by decide) ?_
      exact AW.to (ih (v + 1) _ _ (by omega) (by rw [← e]; simp [catB, w_xc, hc, eb_34_0, eb_34_1, eb_34_2, eb_44_0, eb_44_1, eb_44_2, eb_62_1, eb_63_0, eb_63_1, eb_63_2, eb_91_1, eb_123_0, eb_123_1, eb_123_2, eb_8766_2, eb_11298_0, eb_11298_1, eb_11298_2, eb_11387_0, eb_11387_1, eb_11387_2, eb_14939_2, eb_24158_2, eb_24378_2, eb_26430_2, eb_27710_2, eb_2240318_3, eb_2243106_3, eb_6126973_3, eb_6634786_3, eb_6765858_3, eb_7433278_3, eb_7697001_3, eb_644314171_4, eb_644641851_4, eb_1684108389_4, eb_1919246700_4, eb_1953658213_4, eb_163799184187_5, eb_164843319355_5, eb_259668470078_5, eb_422759588965_5, eb_435426304570_5, eb_439721161573_5, eb_474176698914_5, eb_482733079074_5, eb_500136506472_5, eb_512853240933_5, eb_66174531561790_6, eb_66419075146814_6, eb_122511348035134_6, eb_9128563980975394_7, eb_16996725057414462_7, eb_30515246123868524_7, eb_2334097659363883376_8, eb_2339740318023049582_8, eb_2462380988100801893_8, eb_2466419133851988069_8, eb_3180214656604140665_8, eb_3180236698239528033_8, eb_4336793171144239470_8, eb_4336793192635852094_8, eb_4336793196931343713_8, eb_4336799750816022076_8, eb_4336804166361248353_8, eb_4336810746235415668_8, eb_4351156112845270631_8, eb_4352840508821617711_8, eb_4353970888399544684_8, eb_4355655336186377278_8, eb_4355948828431576126_8, eb_4356776833549689452_8, eb_6736589144075891573_8, eb_7286945561811696930_8, eb_7522525835761050223_8, eb_7597120025407222562_8, eb_7814997844241883746_8, eb_7943852967226007922_8, eb_8243121641139499838_8, eb_8304140937415647602_8, eb_8872769000508236346_8, eb_8872784376777351738_8, eb_8898316964945948524_8, tl_0, tl_1, tl_2, tl_3, tl_5, tl_6, tl_7, tl_8, tl_9, tl_10, tl_11, tl_12, tl_13, tl_14, tl_15, tl_16, tl_17, tl_18, tl_19, tl_20, tl_21, tl_22, tl_23, tl_24, tl_25, tl_26, tl_27, tl_28, tl_29, tl_30, tl_31, tl_32, tl_33, tl_34, tl_35, tl_36, tl_37, tl_38, tl_39, tl_40, tl_41, tl_42, tl_43, tl_44, tl_45, tl_46, tl_47, tl_48, tl_49, tl_50, tl_51, tl_52, tl_53, tl_54, tl_55, tl_56, tl_57, tl_58, tl_59]) kk) rfl rfl rfl rfl
set_option maxRecDepth 20000 in
theorem lp_wT2 {g : aw_G} {S : aw_S} {O : List Int32} {P : xp_T} (hP : xp_M S P) (hW : xp_wd P) (hF : (O ++ w_x P).length + 10000 < 2147483648) : ∀ (m r : Nat) (Q : List Int32) (x2 x3 : Option Value), m + r = xp_r P → Q ++ (catB (w_xr P) m r ++ tx 46) = O ++ w_x P → AW g M_Mo_writeTags (aw_rm 4 90 0 0) (aw_F g 0 0 (fun r1 h => r1 = none ∧ h = HP (MS S (O ++ w_x P)))) 85 [some (.ref 33), some (.int (nI r)), x2, x3] [] (HP (MS S Q)) 0 0 := by
  intro m
  induction m with
  | zero =>
    intro r Q x2 x3 hk e
    have hF2 := hF
    rw [List.length_append] at hF2
    have hq := congrArg List.length e
    simp only [List.length_append] at hq
    refine aw_iload_n (aw_d q_Mo_writeTags 41 rfl) rfl rfl ?_
    refine aw_aload_n (aw_d q_Mo_writeTags 42 rfl) rfl rfl rfl ?_
    refine aw_getf (v := .int (nI (xp_r P))) (aw_d q_Mo_writeTags 43 rfl) fL_Mo_129_Mo rfl (gk hP.1.2.2) ?_
    refine aw_icmpN_ge (tgt := 210) (aw_d q_Mo_writeTags 44 rfl) (by decide) (by (have hz1 := hW.1; omega)) (by (have hz1 := hW.1; omega)) (fun c90 => ?_) (fun c90 => by exfalso; (have hz1 := hW.1; omega))
    refine aw_aload_n (aw_d q_Mo_writeTags 104 rfl) rfl rfl rfl ?_
    refine aw_ldc2 (aw_d q_Mo_writeTags 105 rfl) lL_Mo_247 ?_
    refine aw_bipush (v := nI 8) (aw_d q_Mo_writeTags 106 rfl) (by decide) ?_
    refine cVv (aw_d q_Mo_writeTags 107 rfl) (sp_emit (by (try simp only [List.length_append, List.length_cons, List.length_nil, eB_len]); omega)) vL_Mo_141_Mo rfl rfl rfl rfl rfl rfl ⟨aw_le rfl, aw_le rfl⟩ ?_
    refine aw_aload_n (aw_d q_Mo_writeTags 108 rfl) rfl rfl rfl ?_
    refine aw_ldc2 (aw_d q_Mo_writeTags 109 rfl) lL_Mo_251 ?_
    refine aw_bipush (v := nI 8) (aw_d q_Mo_writeTags 110 rfl) (by decide) ?_
    refine cVv (aw_d q_Mo_writeTags 111 rfl) (sp_emit (by (try simp only [List.length_append, List.length_cons, List.length_nil, eB_len]); omega)) vL_Mo_141_Mo rfl rfl rfl rfl rfl rfl ⟨aw_le rfl, aw_le rfl⟩ ?_
    refine aw_aload_n (aw_d q_Mo_writeTags 112 rfl) rfl rfl rfl ?_
    refine aw_ldc2 (aw_d q_Mo_writeTags 113 rfl) lL_Mo_253 ?_
    refine aw_iconst (v := nI 3) (aw_d q_Mo_writeTags 114 rfl) (by decide) ?_
    refine cVv (aw_d q_Mo_writeTags 115 rfl) (sp_emit (by (try simp only [List.length_append, List.length_cons, List.length_nil, eB_len]); omega)) vL_Mo_141_Mo rfl rfl rfl rfl rfl rfl ⟨aw_le rfl, aw_le rfl⟩ ?_
    exact aw_vret (aw_d q_Mo_writeTags 116 rfl) rfl (⟨rfl, by rw [← e]; simp [catB, w_se, eb_34_0, eb_34_1, eb_34_2, eb_44_0, eb_44_1, eb_44_2, eb_62_1, eb_63_0, eb_63_1, eb_63_2, eb_91_1, eb_123_0, eb_123_1, eb_123_2, eb_8766_2, eb_11298_0, eb_11298_1, eb_11298_2, eb_11387_0, eb_11387_1, eb_11387_2, eb_14939_2, eb_24158_2, eb_24378_2, eb_26430_2, eb_27710_2, eb_2240318_3, eb_2243106_3, eb_6126973_3, eb_6634786_3, eb_6765858_3, eb_7433278_3, eb_7697001_3, eb_644314171_4, eb_644641851_4, eb_1684108389_4, eb_1919246700_4, eb_1953658213_4, eb_163799184187_5, eb_164843319355_5, eb_259668470078_5, eb_422759588965_5, eb_435426304570_5, eb_439721161573_5, eb_474176698914_5, eb_482733079074_5, eb_500136506472_5, eb_512853240933_5, eb_66174531561790_6, eb_66419075146814_6, eb_122511348035134_6, eb_9128563980975394_7, eb_16996725057414462_7, eb_30515246123868524_7, eb_2334097659363883376_8, eb_2339740318023049582_8, eb_2462380988100801893_8, eb_2466419133851988069_8, eb_3180214656604140665_8, eb_3180236698239528033_8, eb_4336793171144239470_8, eb_4336793192635852094_8, eb_4336793196931343713_8, eb_4336799750816022076_8, eb_4336804166361248353_8, eb_4336810746235415668_8, eb_4351156112845270631_8, eb_4352840508821617711_8, eb_4353970888399544684_8, eb_4355655336186377278_8, eb_4355948828431576126_8, eb_4356776833549689452_8, eb_6736589144075891573_8, eb_7286945561811696930_8, eb_7522525835761050223_8, eb_7597120025407222562_8, eb_7814997844241883746_8, eb_7943852967226007922_8, eb_8243121641139499838_8, eb_8304140937415647602_8, eb_8872769000508236346_8, eb_8872784376777351738_8, eb_8898316964945948524_8, tl_0, tl_1, tl_2, tl_3, tl_5, tl_6, tl_7, tl_8, tl_9, tl_10, tl_11, tl_12, tl_13, tl_14, tl_15, tl_16, tl_17, tl_18, tl_19, tl_20, tl_21, tl_22, tl_23, tl_24, tl_25, tl_26, tl_27, tl_28, tl_29, tl_30, tl_31, tl_32, tl_33, tl_34, tl_35, tl_36, tl_37, tl_38, tl_39, tl_40, tl_41, tl_42, tl_43, tl_44, tl_45, tl_46, tl_47, tl_48, tl_49, tl_50, tl_51, tl_52, tl_53, tl_54, tl_55, tl_56, tl_57, tl_58, tl_59]⟩)
  | succ m ih =>
    intro r Q x2 x3 hk e
    have hF2 := hF
    rw [List.length_append] at hF2
    have hq := congrArg List.length e
    simp only [catB, List.length_append, List.length_cons, List.length_nil, w_xr, tl_29, tl_45] at hq
    refine aw_iload_n (aw_d q_Mo_writeTags 41 rfl) rfl rfl ?_
    refine aw_aload_n (aw_d q_Mo_writeTags 42 rfl) rfl rfl rfl ?_
    refine aw_getf (v := .int (nI (xp_r P))) (aw_d q_Mo_writeTags 43 rfl) fL_Mo_129_Mo rfl (gk hP.1.2.2) ?_
    refine aw_icmpN_ge (tgt := 210) (aw_d q_Mo_writeTags 44 rfl) (by decide) (by (have hz1 := hW.1; omega)) (by (have hz1 := hW.1; omega)) (fun c90 => by exfalso; (have hz1 := hW.1; omega)) (fun c90 => ?_)
    refine aw_aload_n (aw_d q_Mo_writeTags 45 rfl) rfl rfl rfl ?_
    refine aw_ldc2 (aw_d q_Mo_writeTags 46 rfl) lL_Mo_232 ?_
    refine aw_bipush (v := nI 8) (aw_d q_Mo_writeTags 47 rfl) (by decide) ?_
    refine cVv (aw_d q_Mo_writeTags 48 rfl) (sp_emit (by (try simp only [List.length_append, List.length_cons, List.length_nil, eB_len]); omega)) vL_Mo_141_Mo rfl rfl rfl rfl rfl rfl ⟨aw_le rfl, aw_le rfl⟩ ?_
    refine aw_iconst (v := nI 0) (aw_d q_Mo_writeTags 49 rfl) (by decide) ?_
    refine aw_istore_n (aw_d q_Mo_writeTags 50 rfl) rfl (aw_le rfl) rfl ?_
    refine AW.to (lp_wT_in hP hW (r := r) (by omega) (by (try simp only [List.length_append, List.length_cons, List.length_nil, eB_len]); omega) (xp_v P) 0 _ _ (by omega) rfl (fun x3 => ?_)) rfl rfl rfl rfl
    refine aw_aload_n (aw_d q_Mo_writeTags 94 rfl) rfl rfl rfl ?_
    refine aw_ldc2 (aw_d q_Mo_writeTags 95 rfl) lL_Mo_247 ?_
    refine aw_bipush (v := nI 8) (aw_d q_Mo_writeTags 96 rfl) (by decide) ?_
    refine cVv (aw_d q_Mo_writeTags 97 rfl) (sp_emit (by (try simp only [List.length_append, List.length_cons, List.length_nil, eB_len]); omega)) vL_Mo_141_Mo rfl rfl rfl rfl rfl rfl ⟨aw_le rfl, aw_le rfl⟩ ?_
    refine aw_aload_n (aw_d q_Mo_writeTags 98 rfl) rfl rfl rfl ?_
    refine aw_ldc2 (aw_d q_Mo_writeTags 99 rfl) lL_Mo_249 ?_
    refine aw_iconst (v := nI 1) (aw_d q_Mo_writeTags 100 rfl) (by decide) ?_
    refine cVv (aw_d q_Mo_writeTags 101 rfl) (sp_emit (by (try simp only [List.length_append, List.length_cons, List.length_nil, eB_len]); omega)) vL_Mo_141_Mo rfl rfl rfl rfl rfl rfl ⟨aw_le rfl, aw_le rfl⟩ ?_
    refine aw_iinc (aw_d q_Mo_writeTags 102 rfl) rfl (ii1 _) (aw_le rfl) rfl ?_
    refine aw_goto (tgt := 85) (aw_d q_Mo_writeTags 103 rfl) (by decide) ?_
    exact ih (r + 1) _ _ _ (by omega) (by rw [← e]; simp [catB, w_xr, eb_34_0, eb_34_1, eb_34_2, eb_44_0, eb_44_1, eb_44_2, eb_62_1, eb_63_0, eb_63_1, eb_63_2, eb_91_1, eb_123_0, eb_123_1, eb_123_2, eb_8766_2, eb_11298_0, eb_11298_1, eb_11298_2, eb_11387_0, eb_11387_1, eb_11387_2, eb_14939_2, eb_24158_2, eb_24378_2, eb_26430_2, eb_27710_2, eb_2240318_3, eb_2243106_3, eb_6126973_3, eb_6634786_3, eb_6765858_3, eb_7433278_3, eb_7697001_3, eb_644314171_4, eb_644641851_4, eb_1684108389_4, eb_1919246700_4, eb_1953658213_4, eb_163799184187_5, eb_164843319355_5, eb_259668470078_5, eb_422759588965_5, eb_435426304570_5, eb_439721161573_5, eb_474176698914_5, eb_482733079074_5, eb_500136506472_5, eb_512853240933_5, eb_66174531561790_6, eb_66419075146814_6, eb_122511348035134_6, eb_9128563980975394_7, eb_16996725057414462_7, eb_30515246123868524_7, eb_2334097659363883376_8, eb_2339740318023049582_8, eb_2462380988100801893_8, eb_2466419133851988069_8, eb_3180214656604140665_8, eb_3180236698239528033_8, eb_4336793171144239470_8, eb_4336793192635852094_8, eb_4336793196931343713_8, eb_4336799750816022076_8, eb_4336804166361248353_8, eb_4336810746235415668_8, eb_4351156112845270631_8, eb_4352840508821617711_8, eb_4353970888399544684_8, eb_4355655336186377278_8, eb_4355948828431576126_8, eb_4356776833549689452_8, eb_6736589144075891573_8, eb_7286945561811696930_8, eb_7522525835761050223_8, eb_7597120025407222562_8, eb_7814997844241883746_8, eb_7943852967226007922_8, eb_8243121641139499838_8, eb_8304140937415647602_8, eb_8872769000508236346_8, eb_8872784376777351738_8, eb_8898316964945948524_8, tl_0, tl_1, tl_2, tl_3, tl_5, tl_6, tl_7, tl_8, tl_9, tl_10, tl_11, tl_12, tl_13, tl_14, tl_15, tl_16, tl_17, tl_18, tl_19, tl_20, tl_21, tl_22, tl_23, tl_24, tl_25, tl_26, tl_27, tl_28, tl_29, tl_30, tl_31, tl_32, tl_33, tl_34, tl_35, tl_36, tl_37, tl_38, tl_39, tl_40, tl_41, tl_42, tl_43, tl_44, tl_45, tl_46, tl_47, tl_48, tl_49, tl_50, tl_51, tl_52, tl_53, tl_54, tl_55, tl_56, tl_57, tl_58, tl_59])
set_option maxRecDepth 20000 in
theorem lp_wT1 {g : aw_G} {S : aw_S} {O : List Int32} {P : xp_T} (hP : xp_M S P) (hW : xp_wd P) (hF : (O ++ w_x P).length + 10000 < 2147483648) : ∀ (m v : Nat) (Q : List Int32), m + v = xp_v P → Q ++ (catB (fun v => tx 26 ++ (w_n P v ++ tx 27)) m v ++ (tx 28 ++ (catB (w_xr P) (xp_r P) 0 ++ tx 46))) = O ++ w_x P → AW g M_Mo_writeTags (aw_rm 4 90 0 0) (aw_F g 0 0 (fun r1 h => r1 = none ∧ h = HP (MS S (O ++ w_x P)))) 20 [some (.ref 33), some (.int (nI v)), none, none] [] (HP (MS S Q)) 0 0 := by
  intro m
  induction m with
  | zero =>
    intro v Q hk e
    have hF2 := hF
    rw [List.length_append] at hF2
    have hq := congrArg List.length e
    simp only [List.length_append] at hq
    refine aw_iload_n (aw_d q_Mo_writeTags 10 rfl) rfl rfl ?_
    refine aw_aload_n (aw_d q_Mo_writeTags 11 rfl) rfl rfl rfl ?_
    refine aw_getf (v := .int (nI (xp_v P))) (aw_d q_Mo_writeTags 12 rfl) fL_Mo_126_Mo rfl (gk hP.1.2.1) ?_
    refine aw_icmpN_ge (tgt := 65) (aw_d q_Mo_writeTags 13 rfl) (by decide) (by (have hz1 := hW.1; omega)) (by (have hz1 := hW.1; omega)) (fun c25 => ?_) (fun c25 => by exfalso; (have hz1 := hW.1; omega))
    refine aw_aload_n (aw_d q_Mo_writeTags 31 rfl) rfl rfl rfl ?_
    refine aw_ldc2 (aw_d q_Mo_writeTags 32 rfl) lL_Mo_228 ?_
    refine aw_bipush (v := nI 8) (aw_d q_Mo_writeTags 33 rfl) (by decide) ?_
    refine cVv (aw_d q_Mo_writeTags 34 rfl) (sp_emit (by (try simp only [List.length_append, List.length_cons, List.length_nil, eB_len]); omega)) vL_Mo_141_Mo rfl rfl rfl rfl rfl rfl ⟨aw_le rfl, aw_le rfl⟩ ?_
    refine aw_aload_n (aw_d q_Mo_writeTags 35 rfl) rfl rfl rfl ?_
    refine aw_ldc2 (aw_d q_Mo_writeTags 36 rfl) lL_Mo_230 ?_
    refine aw_bipush (v := nI 8) (aw_d q_Mo_writeTags 37 rfl) (by decide) ?_
    refine cVv (aw_d q_Mo_writeTags 38 rfl) (sp_emit (by (try simp only [List.length_append, List.length_cons, List.length_nil, eB_len]); omega)) vL_Mo_141_Mo rfl rfl rfl rfl rfl rfl ⟨aw_le rfl, aw_le rfl⟩ ?_
    refine aw_iconst (v := nI 0) (aw_d q_Mo_writeTags 39 rfl) (by decide) ?_
    refine aw_istore_n (aw_d q_Mo_writeTags 40 rfl) rfl (aw_le rfl) rfl ?_
    exact lp_wT2 hP hW hF (xp_r P) 0 _ _ _ (by omega) (by rw [← e]; simp [catB, w_se, eb_34_0, eb_34_1, eb_34_2, eb_44_0, eb_44_1, eb_44_2, eb_62_1, eb_63_0, eb_63_1, eb_63_2, eb_91_1, eb_123_0, eb_123_1, eb_123_2, eb_8766_2, eb_11298_0, eb_11298_1, eb_11298_2, eb_11387_0, eb_11387_1, eb_11387_2, eb_14939_2, eb_24158_2, eb_24378_2, eb_26430_2, eb_27710_2, eb_2240318_3, eb_2243106_3, eb_6126973_3, eb_6634786_3, eb_6765858_3, eb_7433278_3, eb_7697001_3, eb_644314171_4, eb_644641851_4, eb_1684108389_4, eb_1919246700_4, eb_1953658213_4, eb_163799184187_5, eb_164843319355_5, eb_259668470078_5, eb_422759588965_5, eb_435426304570_5, eb_439721161573_5, eb_474176698914_5, eb_482733079074_5, eb_500136506472_5, eb_512853240933_5, eb_66174531561790_6, eb_66419075146814_6, eb_122511348035134_6, eb_9128563980975394_7, eb_16996725057414462_7, eb_30515246123868524_7, eb_2334097659363883376_8, eb_2339740318023049582_8, eb_2462380988100801893_8, eb_2466419133851988069_8, eb_3180214656604140665_8, eb_3180236698239528033_8, eb_4336793171144239470_8, eb_4336793192635852094_8, eb_4336793196931343713_8, eb_4336799750816022076_8, eb_4336804166361248353_8, eb_4336810746235415668_8, eb_4351156112845270631_8, eb_4352840508821617711_8, eb_4353970888399544684_8, eb_4355655336186377278_8, eb_4355948828431576126_8, eb_4356776833549689452_8, eb_6736589144075891573_8, eb_7286945561811696930_8, eb_7522525835761050223_8, eb_7597120025407222562_8, eb_7814997844241883746_8, eb_7943852967226007922_8, eb_8243121641139499838_8, eb_8304140937415647602_8, eb_8872769000508236346_8, eb_8872784376777351738_8, eb_8898316964945948524_8, tl_0, tl_1, tl_2, tl_3, tl_5, tl_6, tl_7, tl_8, tl_9, tl_10, tl_11, tl_12, tl_13, tl_14, tl_15, tl_16, tl_17, tl_18, tl_19, tl_20, tl_21, tl_22, tl_23, tl_24, tl_25, tl_26, tl_27, tl_28, tl_29, tl_30, tl_31, tl_32, tl_33, tl_34, tl_35, tl_36, tl_37, tl_38, tl_39, tl_40, tl_41, tl_42, tl_43, tl_44, tl_45, tl_46, tl_47, tl_48, tl_49, tl_50, tl_51, tl_52, tl_53, tl_54, tl_55, tl_56, tl_57, tl_58, tl_59])
  | succ m ih =>
    intro v Q hk e
    have hF2 := hF
    rw [List.length_append] at hF2
    have hq := congrArg List.length e
    simp only [catB, List.length_append, List.length_cons, List.length_nil] at hq
    have hln := w_n_len hW (v := v) (by omega)
    refine aw_iload_n (aw_d q_Mo_writeTags 10 rfl) rfl rfl ?_
    refine aw_aload_n (aw_d q_Mo_writeTags 11 rfl) rfl rfl rfl ?_
    refine aw_getf (v := .int (nI (xp_v P))) (aw_d q_Mo_writeTags 12 rfl) fL_Mo_126_Mo rfl (gk hP.1.2.1) ?_
    refine aw_icmpN_ge (tgt := 65) (aw_d q_Mo_writeTags 13 rfl) (by decide) (by (have hz1 := hW.1; omega)) (by (have hz1 := hW.1; omega)) (fun c25 => by exfalso; (have hz1 := hW.1; omega)) (fun c25 => ?_)
    refine aw_aload_n (aw_d q_Mo_writeTags 14 rfl) rfl rfl rfl ?_
    refine aw_ldc2 (aw_d q_Mo_writeTags 15 rfl) lL_Mo_222 ?_
    refine aw_bipush (v := nI 8) (aw_d q_Mo_writeTags 16 rfl) (by decide) ?_
    refine cVv (aw_d q_Mo_writeTags 17 rfl) (sp_emit (by (try simp only [List.length_append, List.length_cons, List.length_nil, eB_len]); omega)) vL_Mo_141_Mo rfl rfl rfl rfl rfl rfl ⟨aw_le rfl, aw_le rfl⟩ ?_
    refine aw_aload_n (aw_d q_Mo_writeTags 18 rfl) rfl rfl rfl ?_
    refine aw_ldc2 (aw_d q_Mo_writeTags 19 rfl) lL_Mo_224 ?_
    refine aw_bipush (v := nI 8) (aw_d q_Mo_writeTags 20 rfl) (by decide) ?_
    refine cVv (aw_d q_Mo_writeTags 21 rfl) (sp_emit (by (try simp only [List.length_append, List.length_cons, List.length_nil, eB_len]); omega)) vL_Mo_141_Mo rfl rfl rfl rfl rfl rfl ⟨aw_le rfl, aw_le rfl⟩ ?_
    refine aw_aload_n (aw_d q_Mo_writeTags 22 rfl) rfl rfl rfl ?_
    refine aw_iload_n (aw_d q_Mo_writeTags 23 rfl) rfl rfl ?_
    refine cVv (aw_d q_Mo_writeTags 24 rfl) (sp_emitName hP hW (v := v) (by omega) (by (try simp only [List.length_append, List.length_cons, List.length_nil, eB_len]); omega)) vL_Mo_169_Mo rfl rfl rfl rfl rfl rfl ⟨aw_le rfl, aw_le rfl⟩ ?_
    refine aw_aload_n (aw_d q_Mo_writeTags 25 rfl) rfl rfl rfl ?_
    refine aw_ldc2 (aw_d q_Mo_writeTags 26 rfl) lL_Mo_226 ?_
    refine aw_iconst (v := nI 3) (aw_d q_Mo_writeTags 27 rfl) (by decide) ?_
    refine cVv (aw_d q_Mo_writeTags 28 rfl) (sp_emit (by (try simp only [List.length_append, List.length_cons, List.length_nil, eB_len]); omega)) vL_Mo_141_Mo rfl rfl rfl rfl rfl rfl ⟨aw_le rfl, aw_le rfl⟩ ?_
    refine aw_iinc (aw_d q_Mo_writeTags 29 rfl) rfl (ii1 _) (aw_le rfl) rfl ?_
    refine aw_goto (tgt := 20) (aw_d q_Mo_writeTags 30 rfl) (by decide) ?_
    exact ih (v + 1) _ (by omega) (by rw [← e]; simp [catB, w_se, eb_34_0, eb_34_1, eb_34_2, eb_44_0, eb_44_1, eb_44_2, eb_62_1, eb_63_0, eb_63_1, eb_63_2, eb_91_1, eb_123_0, eb_123_1, eb_123_2, eb_8766_2, eb_11298_0, eb_11298_1, eb_11298_2, eb_11387_0, eb_11387_1, eb_11387_2, eb_14939_2, eb_24158_2, eb_24378_2, eb_26430_2, eb_27710_2, eb_2240318_3, eb_2243106_3, eb_6126973_3, eb_6634786_3, eb_6765858_3, eb_7433278_3, eb_7697001_3, eb_644314171_4, eb_644641851_4, eb_1684108389_4, eb_1919246700_4, eb_1953658213_4, eb_163799184187_5, eb_164843319355_5, eb_259668470078_5, eb_422759588965_5, eb_435426304570_5, eb_439721161573_5, eb_474176698914_5, eb_482733079074_5, eb_500136506472_5, eb_512853240933_5, eb_66174531561790_6, eb_66419075146814_6, eb_122511348035134_6, eb_9128563980975394_7, eb_16996725057414462_7, eb_30515246123868524_7, eb_2334097659363883376_8, eb_2339740318023049582_8, eb_2462380988100801893_8, eb_2466419133851988069_8, eb_3180214656604140665_8, eb_3180236698239528033_8, eb_4336793171144239470_8, eb_4336793192635852094_8, eb_4336793196931343713_8, eb_4336799750816022076_8, eb_4336804166361248353_8, eb_4336810746235415668_8, eb_4351156112845270631_8, eb_4352840508821617711_8, eb_4353970888399544684_8, eb_4355655336186377278_8, eb_4355948828431576126_8, eb_4356776833549689452_8, eb_6736589144075891573_8, eb_7286945561811696930_8, eb_7522525835761050223_8, eb_7597120025407222562_8, eb_7814997844241883746_8, eb_7943852967226007922_8, eb_8243121641139499838_8, eb_8304140937415647602_8, eb_8872769000508236346_8, eb_8872784376777351738_8, eb_8898316964945948524_8, tl_0, tl_1, tl_2, tl_3, tl_5, tl_6, tl_7, tl_8, tl_9, tl_10, tl_11, tl_12, tl_13, tl_14, tl_15, tl_16, tl_17, tl_18, tl_19, tl_20, tl_21, tl_22, tl_23, tl_24, tl_25, tl_26, tl_27, tl_28, tl_29, tl_30, tl_31, tl_32, tl_33, tl_34, tl_35, tl_36, tl_37, tl_38, tl_39, tl_40, tl_41, tl_42, tl_43, tl_44, tl_45, tl_46, tl_47, tl_48, tl_49, tl_50, tl_51, tl_52, tl_53, tl_54, tl_55, tl_56, tl_57, tl_58, tl_59])
set_option maxRecDepth 20000 in
theorem sp_writeTags {g : aw_G} {S : aw_S} {O : List Int32} {P : xp_T} (hP : xp_M S P) (hW : xp_wd P) (hF : (O ++ w_x P).length + 10000 < 2147483648) : Sp g M_Mo_writeTags 4 90 0 0 [.ref 33] (HP (MS S O)) (fun r1 h => r1 = none ∧ h = HP (MS S (O ++ w_x P))) := by
  refine Sp.of rfl (aw_le rfl) ?_
  have hq := hF
  simp only [List.length_append] at hq
  refine aw_aload_n (aw_d q_Mo_writeTags 0 rfl) rfl rfl rfl ?_
  refine aw_ldc2 (aw_d q_Mo_writeTags 1 rfl) lL_Mo_218 ?_
  refine aw_bipush (v := nI 8) (aw_d q_Mo_writeTags 2 rfl) (by decide) ?_
  refine cVv (aw_d q_Mo_writeTags 3 rfl) (sp_emit (by (try simp only [List.length_append, List.length_cons, List.length_nil, eB_len]); omega)) vL_Mo_141_Mo rfl rfl rfl rfl rfl rfl ⟨aw_le rfl, aw_le rfl⟩ ?_
  refine aw_aload_n (aw_d q_Mo_writeTags 4 rfl) rfl rfl rfl ?_
  refine aw_ldc2 (aw_d q_Mo_writeTags 5 rfl) lL_Mo_220 ?_
  refine aw_bipush (v := nI 6) (aw_d q_Mo_writeTags 6 rfl) (by decide) ?_
  refine cVv (aw_d q_Mo_writeTags 7 rfl) (sp_emit (by (try simp only [List.length_append, List.length_cons, List.length_nil, eB_len]); omega)) vL_Mo_141_Mo rfl rfl rfl rfl rfl rfl ⟨aw_le rfl, aw_le rfl⟩ ?_
  refine aw_iconst (v := nI 0) (aw_d q_Mo_writeTags 8 rfl) (by decide) ?_
  refine aw_istore_n (aw_d q_Mo_writeTags 9 rfl) rfl (aw_le rfl) rfl ?_
  exact lp_wT1 hP hW hF (xp_v P) 0 _ (by omega) (by simp [w_x, eb_34_0, eb_34_1, eb_34_2, eb_44_0, eb_44_1, eb_44_2, eb_62_1, eb_63_0, eb_63_1, eb_63_2, eb_91_1, eb_123_0, eb_123_1, eb_123_2, eb_8766_2, eb_11298_0, eb_11298_1, eb_11298_2, eb_11387_0, eb_11387_1, eb_11387_2, eb_14939_2, eb_24158_2, eb_24378_2, eb_26430_2, eb_27710_2, eb_2240318_3, eb_2243106_3, eb_6126973_3, eb_6634786_3, eb_6765858_3, eb_7433278_3, eb_7697001_3, eb_644314171_4, eb_644641851_4, eb_1684108389_4, eb_1919246700_4, eb_1953658213_4, eb_163799184187_5, eb_164843319355_5, eb_259668470078_5, eb_422759588965_5, eb_435426304570_5, eb_439721161573_5, eb_474176698914_5, eb_482733079074_5, eb_500136506472_5, eb_512853240933_5, eb_66174531561790_6, eb_66419075146814_6, eb_122511348035134_6, eb_9128563980975394_7, eb_16996725057414462_7, eb_30515246123868524_7, eb_2334097659363883376_8, eb_2339740318023049582_8, eb_2462380988100801893_8, eb_2466419133851988069_8, eb_3180214656604140665_8, eb_3180236698239528033_8, eb_4336793171144239470_8, eb_4336793192635852094_8, eb_4336793196931343713_8, eb_4336799750816022076_8, eb_4336804166361248353_8, eb_4336810746235415668_8, eb_4351156112845270631_8, eb_4352840508821617711_8, eb_4353970888399544684_8, eb_4355655336186377278_8, eb_4355948828431576126_8, eb_4356776833549689452_8, eb_6736589144075891573_8, eb_7286945561811696930_8, eb_7522525835761050223_8, eb_7597120025407222562_8, eb_7814997844241883746_8, eb_7943852967226007922_8, eb_8243121641139499838_8, eb_8304140937415647602_8, eb_8872769000508236346_8, eb_8872784376777351738_8, eb_8898316964945948524_8, tl_0, tl_1, tl_2, tl_3, tl_5, tl_6, tl_7, tl_8, tl_9, tl_10, tl_11, tl_12, tl_13, tl_14, tl_15, tl_16, tl_17, tl_18, tl_19, tl_20, tl_21, tl_22, tl_23, tl_24, tl_25, tl_26, tl_27, tl_28, tl_29, tl_30, tl_31, tl_32, tl_33, tl_34, tl_35, tl_36, tl_37, tl_38, tl_39, tl_40, tl_41, tl_42, tl_43, tl_44, tl_45, tl_46, tl_47, tl_48, tl_49, tl_50, tl_51, tl_52, tl_53, tl_54, tl_55, tl_56, tl_57, tl_58, tl_59])
set_option maxRecDepth 20000 in
theorem lp_wLh_0 {g : aw_G} {S : aw_S} {Post : Option Value → aw_hp → Prop} {P : xp_T} (hP : xp_M S P) (hW : xp_wd P) {F : List Int32} (hF : F.length + 10000 < 2147483648) : ∀ (m v : Nat) (Q : List Int32), m + v = xp_v P → Q ++ catB (fun v => w_se (w_ls false) v ++ (w_lm false ++ w_n P v)) m v = F → AW g M_Mo_writeLines (aw_rm 4 90 0 0) (aw_F g 0 0 Post) 138 [some (.ref 33), some (.int (nI 0)), some (.int (-1)), some (.int (nI (xp_v P)))] [] (HP (MS S F)) 0 0 → AW g M_Mo_writeLines (aw_rm 4 90 0 0) (aw_F g 0 0 (Post)) 12 [some (.ref 33), some (.int (nI 0)), some (.int (-1)), some (.int (nI v))] [] (HP (MS S Q)) 0 0 := by
  intro m
  induction m with
  | zero =>
    intro v Q hk e kk
    refine aw_iload_n (aw_d q_Mo_writeLines 8 rfl) rfl rfl ?_
    refine aw_aload_n (aw_d q_Mo_writeLines 9 rfl) rfl rfl rfl ?_
    refine aw_getf (v := .int (nI (xp_v P))) (aw_d q_Mo_writeLines 10 rfl) fL_Mo_126_Mo rfl (gk hP.1.2.1) ?_
    refine aw_icmpN_ge (tgt := 138) (aw_d q_Mo_writeLines 11 rfl) (by decide) (by (have hz1 := hW.1; omega)) (by (have hz1 := hW.1; omega)) (fun c17 => ?_) (fun c17 => by exfalso; (have hz1 := hW.1; omega))
    have hve : v = xp_v P := by omega
    subst hve
    simp only [catB, rjB, List.append_nil] at e
    subst e
    exact kk
  | succ m ih =>
    intro v Q hk e kk
    have hq := congrArg List.length e
    rw [List.length_append] at hq
    have hln := w_n_len hW (v := v) (by omega)
    refine aw_iload_n (aw_d q_Mo_writeLines 8 rfl) rfl rfl ?_
    refine aw_aload_n (aw_d q_Mo_writeLines 9 rfl) rfl rfl rfl ?_
    refine aw_getf (v := .int (nI (xp_v P))) (aw_d q_Mo_writeLines 10 rfl) fL_Mo_126_Mo rfl (gk hP.1.2.1) ?_
    refine aw_icmpN_ge (tgt := 138) (aw_d q_Mo_writeLines 11 rfl) (by decide) (by (have hz1 := hW.1; omega)) (by (have hz1 := hW.1; omega)) (fun c17 => by exfalso; (have hz1 := hW.1; omega)) (fun c17 => ?_)
    refine aw_iload_n (aw_d q_Mo_writeLines 12 rfl) rfl rfl ?_
    refine aw_ifN_le (tgt := 39) (aw_d q_Mo_writeLines 13 rfl) (by decide) (by (have hz1 := hW.1; omega)) (fun c21 => ?_) (fun c21 => ?_)
    · have hse : ∀ c, w_se c v = [] := fun c => if_neg (by omega)
      refine aw_iload_n (aw_d q_Mo_writeLines 21 rfl) rfl rfl ?_
      refine aw_ifI_ge (tgt := 67) (aw_d q_Mo_writeLines 22 rfl) (by decide) (fun c40 => by exact absurd c40 (by decide)) (fun c40 => ?_)
      refine aw_aload_n (aw_d q_Mo_writeLines 23 rfl) rfl rfl rfl ?_
      refine aw_ldc2 (aw_d q_Mo_writeLines 24 rfl) lL_Mo_284 ?_
      refine aw_iload_n (aw_d q_Mo_writeLines 25 rfl) rfl rfl ?_
      refine aw_ifN_eq (tgt := 55) (aw_d q_Mo_writeLines 26 rfl) (by decide) (by (have hz1 := hW.1; omega)) (fun c48 => ?_) (fun c48 => by exfalso; (have hz1 := hW.1; omega))
      refine aw_iconst (v := nI 1) (aw_d q_Mo_writeLines 29 rfl) (by decide) ?_
      refine cVv (aw_d q_Mo_writeLines 30 rfl) (sp_emit (by (try simp only [List.length_append, List.length_cons, List.length_nil, eB_len]); omega)) vL_Mo_141_Mo rfl rfl rfl rfl rfl rfl ⟨aw_le rfl, aw_le rfl⟩ ?_
      refine aw_aload_n (aw_d q_Mo_writeLines 31 rfl) rfl rfl rfl ?_
      refine aw_iload_n (aw_d q_Mo_writeLines 32 rfl) rfl rfl ?_
      refine cVv (aw_d q_Mo_writeLines 33 rfl) (sp_emitName hP hW (v := v) (by omega) (by (try simp only [List.length_append, List.length_cons, List.length_nil, eB_len]); omega)) vL_Mo_169_Mo rfl rfl rfl rfl rfl rfl ⟨aw_le rfl, aw_le rfl⟩ ?_
      refine aw_goto (tgt := 132) (aw_d q_Mo_writeLines 34 rfl) (by decide) ?_
      refine aw_iinc (aw_d q_Mo_writeLines 76 rfl) rfl (ii1 _) (aw_le rfl) rfl ?_
      refine aw_goto (tgt := 12) (aw_d q_Mo_writeLines 77 rfl) (by decide) ?_
      exact ih (v + 1) _ (by omega) (by rw [← e]; simp [catB, hse, w_ls, w_lm, eb_34_0, eb_34_1, eb_34_2, eb_44_0, eb_44_1, eb_44_2, eb_62_1, eb_63_0, eb_63_1, eb_63_2, eb_91_1, eb_123_0, eb_123_1, eb_123_2, eb_8766_2, eb_11298_0, eb_11298_1, eb_11298_2, eb_11387_0, eb_11387_1, eb_11387_2, eb_14939_2, eb_24158_2, eb_24378_2, eb_26430_2, eb_27710_2, eb_2240318_3, eb_2243106_3, eb_6126973_3, eb_6634786_3, eb_6765858_3, eb_7433278_3, eb_7697001_3, eb_644314171_4, eb_644641851_4, eb_1684108389_4, eb_1919246700_4, eb_1953658213_4, eb_163799184187_5, eb_164843319355_5, eb_259668470078_5, eb_422759588965_5, eb_435426304570_5, eb_439721161573_5, eb_474176698914_5, eb_482733079074_5, eb_500136506472_5, eb_512853240933_5, eb_66174531561790_6, eb_66419075146814_6, eb_122511348035134_6, eb_9128563980975394_7, eb_16996725057414462_7, eb_30515246123868524_7, eb_2334097659363883376_8, eb_2339740318023049582_8, eb_2462380988100801893_8, eb_2466419133851988069_8, eb_3180214656604140665_8, eb_3180236698239528033_8, eb_4336793171144239470_8, eb_4336793192635852094_8, eb_4336793196931343713_8, eb_4336799750816022076_8, eb_4336804166361248353_8, eb_4336810746235415668_8, eb_4351156112845270631_8, eb_4352840508821617711_8, eb_4353970888399544684_8, eb_4355655336186377278_8, eb_4355948828431576126_8, eb_4356776833549689452_8, eb_6736589144075891573_8, eb_7286945561811696930_8, eb_7522525835761050223_8, eb_7597120025407222562_8, eb_7814997844241883746_8, eb_7943852967226007922_8, eb_8243121641139499838_8, eb_8304140937415647602_8, eb_8872769000508236346_8, eb_8872784376777351738_8, eb_8898316964945948524_8, tl_0, tl_1, tl_2, tl_3, tl_5, tl_6, tl_7, tl_8, tl_9, tl_10, tl_11, tl_12, tl_13, tl_14, tl_15, tl_16, tl_17, tl_18, tl_19, tl_20, tl_21, tl_22, tl_23, tl_24, tl_25, tl_26, tl_27, tl_28, tl_29, tl_30, tl_31, tl_32, tl_33, tl_34, tl_35, tl_36, tl_37, tl_38, tl_39, tl_40, tl_41, tl_42, tl_43, tl_44, tl_45, tl_46, tl_47, tl_48, tl_49, tl_50, tl_51, tl_52, tl_53, tl_54, tl_55, tl_56, tl_57, tl_58, tl_59]) kk
    · have hse : ∀ c, w_se c v = [c] := fun c => if_pos c21
      refine aw_aload_n (aw_d q_Mo_writeLines 14 rfl) rfl rfl rfl ?_
      refine aw_iload_n (aw_d q_Mo_writeLines 15 rfl) rfl rfl ?_
      refine aw_ifN_eq (tgt := 34) (aw_d q_Mo_writeLines 16 rfl) (by decide) (by (have hz1 := hW.1; omega)) (fun c26 => ?_) (fun c26 => by exfalso; (have hz1 := hW.1; omega))
      refine aw_bipush (v := nI 9) (aw_d q_Mo_writeLines 19 rfl) (by decide) ?_
      refine cVv (aw_d q_Mo_writeLines 20 rfl) (sp_put1 (by (try simp only [List.length_append, List.length_cons, List.length_nil, eB_len]); omega)) vL_Mo_135_Mo rfl rfl rfl rfl rfl rfl ⟨aw_le rfl, aw_le rfl⟩ ?_
      refine aw_iload_n (aw_d q_Mo_writeLines 21 rfl) rfl rfl ?_
      refine aw_ifI_ge (tgt := 67) (aw_d q_Mo_writeLines 22 rfl) (by decide) (fun c40 => by exact absurd c40 (by decide)) (fun c40 => ?_)
      refine aw_aload_n (aw_d q_Mo_writeLines 23 rfl) rfl rfl rfl ?_
      refine aw_ldc2 (aw_d q_Mo_writeLines 24 rfl) lL_Mo_284 ?_
      refine aw_iload_n (aw_d q_Mo_writeLines 25 rfl) rfl rfl ?_
      refine aw_ifN_eq (tgt := 55) (aw_d q_Mo_writeLines 26 rfl) (by decide) (by (have hz1 := hW.1; omega)) (fun c48 => ?_) (fun c48 => by exfalso; (have hz1 := hW.1; omega))
      refine aw_iconst (v := nI 1) (aw_d q_Mo_writeLines 29 rfl) (by decide) ?_
      refine cVv (aw_d q_Mo_writeLines 30 rfl) (sp_emit (by (try simp only [List.length_append, List.length_cons, List.length_nil, eB_len]); omega)) vL_Mo_141_Mo rfl rfl rfl rfl rfl rfl ⟨aw_le rfl, aw_le rfl⟩ ?_
      refine aw_aload_n (aw_d q_Mo_writeLines 31 rfl) rfl rfl rfl ?_
      refine aw_iload_n (aw_d q_Mo_writeLines 32 rfl) rfl rfl ?_
      refine cVv (aw_d q_Mo_writeLines 33 rfl) (sp_emitName hP hW (v := v) (by omega) (by (try simp only [List.length_append, List.length_cons, List.length_nil, eB_len]); omega)) vL_Mo_169_Mo rfl rfl rfl rfl rfl rfl ⟨aw_le rfl, aw_le rfl⟩ ?_
      refine aw_goto (tgt := 132) (aw_d q_Mo_writeLines 34 rfl) (by decide) ?_
      refine aw_iinc (aw_d q_Mo_writeLines 76 rfl) rfl (ii1 _) (aw_le rfl) rfl ?_
      refine aw_goto (tgt := 12) (aw_d q_Mo_writeLines 77 rfl) (by decide) ?_
      exact ih (v + 1) _ (by omega) (by rw [← e]; simp [catB, hse, w_ls, w_lm, eb_34_0, eb_34_1, eb_34_2, eb_44_0, eb_44_1, eb_44_2, eb_62_1, eb_63_0, eb_63_1, eb_63_2, eb_91_1, eb_123_0, eb_123_1, eb_123_2, eb_8766_2, eb_11298_0, eb_11298_1, eb_11298_2, eb_11387_0, eb_11387_1, eb_11387_2, eb_14939_2, eb_24158_2, eb_24378_2, eb_26430_2, eb_27710_2, eb_2240318_3, eb_2243106_3, eb_6126973_3, eb_6634786_3, eb_6765858_3, eb_7433278_3, eb_7697001_3, eb_644314171_4, eb_644641851_4, eb_1684108389_4, eb_1919246700_4, eb_1953658213_4, eb_163799184187_5, eb_164843319355_5, eb_259668470078_5, eb_422759588965_5, eb_435426304570_5, eb_439721161573_5, eb_474176698914_5, eb_482733079074_5, eb_500136506472_5, eb_512853240933_5, eb_66174531561790_6, eb_66419075146814_6, eb_122511348035134_6, eb_9128563980975394_7, eb_16996725057414462_7, eb_30515246123868524_7, eb_2334097659363883376_8, eb_2339740318023049582_8, eb_2462380988100801893_8, eb_2466419133851988069_8, eb_3180214656604140665_8, eb_3180236698239528033_8, eb_4336793171144239470_8, eb_4336793192635852094_8, eb_4336793196931343713_8, eb_4336799750816022076_8, eb_4336804166361248353_8, eb_4336810746235415668_8, eb_4351156112845270631_8, eb_4352840508821617711_8, eb_4353970888399544684_8, eb_4355655336186377278_8, eb_4355948828431576126_8, eb_4356776833549689452_8, eb_6736589144075891573_8, eb_7286945561811696930_8, eb_7522525835761050223_8, eb_7597120025407222562_8, eb_7814997844241883746_8, eb_7943852967226007922_8, eb_8243121641139499838_8, eb_8304140937415647602_8, eb_8872769000508236346_8, eb_8872784376777351738_8, eb_8898316964945948524_8, tl_0, tl_1, tl_2, tl_3, tl_5, tl_6, tl_7, tl_8, tl_9, tl_10, tl_11, tl_12, tl_13, tl_14, tl_15, tl_16, tl_17, tl_18, tl_19, tl_20, tl_21, tl_22, tl_23, tl_24, tl_25, tl_26, tl_27, tl_28, tl_29, tl_30, tl_31, tl_32, tl_33, tl_34, tl_35, tl_36, tl_37, tl_38, tl_39, tl_40, tl_41, tl_42, tl_43, tl_44, tl_45, tl_46, tl_47, tl_48, tl_49, tl_50, tl_51, tl_52, tl_53, tl_54, tl_55, tl_56, tl_57, tl_58, tl_59]) kk
set_option maxRecDepth 20000 in
theorem lp_wLr_0 {g : aw_G} {S : aw_S} {Post : Option Value → aw_hp → Prop} {P : xp_T} (hP : xp_M S P) (hW : xp_wd P) {r : Nat} (hr : r < xp_r P) {F : List Int32} (hF : F.length + 10000 < 2147483648) : ∀ (m v : Nat) (Q : List Int32), m + v = xp_v P → Q ++ catB (fun v => w_se (w_ls false) v ++ w_lc false P r v) m v = F → AW g M_Mo_writeLines (aw_rm 4 90 0 0) (aw_F g 0 0 Post) 138 [some (.ref 33), some (.int (nI 0)), some (.int (nI r)), some (.int (nI (xp_v P)))] [] (HP (MS S F)) 0 0 → AW g M_Mo_writeLines (aw_rm 4 90 0 0) (aw_F g 0 0 (Post)) 12 [some (.ref 33), some (.int (nI 0)), some (.int (nI r)), some (.int (nI v))] [] (HP (MS S Q)) 0 0 := by
  intro m
  induction m with
  | zero =>
    intro v Q hk e kk
    refine aw_iload_n (aw_d q_Mo_writeLines 8 rfl) rfl rfl ?_
    refine aw_aload_n (aw_d q_Mo_writeLines 9 rfl) rfl rfl rfl ?_
    refine aw_getf (v := .int (nI (xp_v P))) (aw_d q_Mo_writeLines 10 rfl) fL_Mo_126_Mo rfl (gk hP.1.2.1) ?_
    refine aw_icmpN_ge (tgt := 138) (aw_d q_Mo_writeLines 11 rfl) (by decide) (by (have hz1 := hW.1; omega)) (by (have hz1 := hW.1; omega)) (fun c17 => ?_) (fun c17 => by exfalso; (have hz1 := hW.1; omega))
    have hve : v = xp_v P := by omega
    subst hve
    simp only [catB, rjB, List.append_nil] at e
    subst e
    exact kk
  | succ m ih =>
    intro v Q hk e kk
    have hq := congrArg List.length e
    rw [List.length_append] at hq
    have hln := w_n_len hW (v := v) (by omega)
    have hct : ∀ t, xp_c P r v = some t → t < xp_t P := fun t h => hW.2.2.1 r v t hr (by omega) h
    cases hc : xp_c P r v with
    | none =>
      refine aw_iload_n (aw_d q_Mo_writeLines 8 rfl) rfl rfl ?_
      refine aw_aload_n (aw_d q_Mo_writeLines 9 rfl) rfl rfl rfl ?_
      refine aw_getf (v := .int (nI (xp_v P))) (aw_d q_Mo_writeLines 10 rfl) fL_Mo_126_Mo rfl (gk hP.1.2.1) ?_
      refine aw_icmpN_ge (tgt := 138) (aw_d q_Mo_writeLines 11 rfl) (by decide) (by (have hz1 := hW.1; omega)) (by (have hz1 := hW.1; omega)) (fun c17 => by exfalso; (have hz1 := hW.1; omega)) (fun c17 => ?_)
      refine aw_iload_n (aw_d q_Mo_writeLines 12 rfl) rfl rfl ?_
      refine aw_ifN_le (tgt := 39) (aw_d q_Mo_writeLines 13 rfl) (by decide) (by (have hz1 := hW.1; omega)) (fun c21 => ?_) (fun c21 => ?_)
      · have hse : ∀ c, w_se c v = [] := fun c => if_neg (by omega)
        refine aw_iload_n (aw_d q_Mo_writeLines 21 rfl) rfl rfl ?_
        refine aw_ifN_ge (tgt := 67) (aw_d q_Mo_writeLines 22 rfl) (by decide) (by (have hz1 := hW.1; omega)) (fun c40 => ?_) (fun c40 => by exfalso; (have hz1 := hW.1; omega))
        refine aw_aload_n (aw_d q_Mo_writeLines 35 rfl) rfl rfl rfl ?_
        refine aw_getf (aw_d q_Mo_writeLines 36 rfl) fL_Mo_37_Mo rfl rfl ?_
        refine aw_bipush (v := nI 6) (aw_d q_Mo_writeLines 37 rfl) (by decide) ?_
        refine aw_iload_n (aw_d q_Mo_writeLines 38 rfl) rfl rfl ?_
        refine aw_imulN (aw_d q_Mo_writeLines 39 rfl) ?_
        refine aw_iload_n (aw_d q_Mo_writeLines 40 rfl) rfl rfl ?_
        refine aw_iaddN (aw_d q_Mo_writeLines 41 rfl) ?_
        refine aw_ialdK (w := (-1)) (aw_d q_Mo_writeLines 42 rfl) rfl (by (have hz1 := hW.1; omega)) rfl (by show S.2 43 (6 * r + v) = _; rw [Nat.mul_comm 6 r, hP.2.2.1 r v hr (by omega), hc]; rfl) ?_
        refine aw_ifI_lt (tgt := 103) (aw_d q_Mo_writeLines 43 rfl) (by decide) (fun c78 => ?_) (fun c78 => by exact absurd c78 (by decide))
        refine aw_aload_n (aw_d q_Mo_writeLines 57 rfl) rfl rfl rfl ?_
        refine aw_getf (aw_d q_Mo_writeLines 58 rfl) fL_Mo_37_Mo rfl rfl ?_
        refine aw_bipush (v := nI 6) (aw_d q_Mo_writeLines 59 rfl) (by decide) ?_
        refine aw_iload_n (aw_d q_Mo_writeLines 60 rfl) rfl rfl ?_
        refine aw_imulN (aw_d q_Mo_writeLines 61 rfl) ?_
        refine aw_iload_n (aw_d q_Mo_writeLines 62 rfl) rfl rfl ?_
        refine aw_iaddN (aw_d q_Mo_writeLines 63 rfl) ?_
        refine aw_ialdK (w := (-1)) (aw_d q_Mo_writeLines 64 rfl) rfl (by (have hz1 := hW.1; omega)) rfl (by show S.2 43 (6 * r + v) = _; rw [Nat.mul_comm 6 r, hP.2.2.1 r v hr (by omega), hc]; rfl) ?_
        refine aw_ifI_lt (tgt := 132) (aw_d q_Mo_writeLines 65 rfl) (by decide) (fun c114 => ?_) (fun c114 => by exact absurd c114 (by decide))
        refine aw_iinc (aw_d q_Mo_writeLines 76 rfl) rfl (ii1 _) (aw_le rfl) rfl ?_
        refine aw_goto (tgt := 12) (aw_d q_Mo_writeLines 77 rfl) (by decide) ?_
        exact ih (v + 1) _ (by omega) (by rw [← e]; simp [catB, hse, w_ls, w_lc, hc, eb_34_0, eb_34_1, eb_34_2, eb_44_0, eb_44_1, eb_44_2, eb_62_1, eb_63_0, eb_63_1, eb_63_2, eb_91_1, eb_123_0, eb_123_1, eb_123_2, eb_8766_2, eb_11298_0, eb_11298_1, eb_11298_2, eb_11387_0, eb_11387_1, eb_11387_2, eb_14939_2, eb_24158_2, eb_24378_2, eb_26430_2, eb_27710_2, eb_2240318_3, eb_2243106_3, eb_6126973_3, eb_6634786_3, eb_6765858_3, eb_7433278_3, eb_7697001_3, eb_644314171_4, eb_644641851_4, eb_1684108389_4, eb_1919246700_4, eb_1953658213_4, eb_163799184187_5, eb_164843319355_5, eb_259668470078_5, eb_422759588965_5, eb_435426304570_5, eb_439721161573_5, eb_474176698914_5, eb_482733079074_5, eb_500136506472_5, eb_512853240933_5, eb_66174531561790_6, eb_66419075146814_6, eb_122511348035134_6, eb_9128563980975394_7, eb_16996725057414462_7, eb_30515246123868524_7, eb_2334097659363883376_8, eb_2339740318023049582_8, eb_2462380988100801893_8, eb_2466419133851988069_8, eb_3180214656604140665_8, eb_3180236698239528033_8, eb_4336793171144239470_8, eb_4336793192635852094_8, eb_4336793196931343713_8, eb_4336799750816022076_8, eb_4336804166361248353_8, eb_4336810746235415668_8, eb_4351156112845270631_8, eb_4352840508821617711_8, eb_4353970888399544684_8, eb_4355655336186377278_8, eb_4355948828431576126_8, eb_4356776833549689452_8, eb_6736589144075891573_8, eb_7286945561811696930_8, eb_7522525835761050223_8, eb_7597120025407222562_8, eb_7814997844241883746_8, eb_7943852967226007922_8, eb_8243121641139499838_8, eb_8304140937415647602_8, eb_8872769000508236346_8, eb_8872784376777351738_8, eb_8898316964945948524_8, tl_0, tl_1, tl_2, tl_3, tl_5, tl_6, tl_7, tl_8, tl_9, tl_10, tl_11, tl_12, tl_13, tl_14, tl_15, tl_16, tl_17, tl_18, tl_19, tl_20, tl_21, tl_22, tl_23, tl_24, tl_25, tl_26, tl_27, tl_28, tl_29, tl_30, tl_31, tl_32, tl_33, tl_34, tl_35, tl_36, tl_37, tl_38, tl_39, tl_40, tl_41, tl_42, tl_43, tl_44, tl_45, tl_46, tl_47, tl_48, tl_49, tl_50, tl_51, tl_52, tl_53, tl_54, tl_55, tl_56, tl_57, tl_58, tl_59]) kk
      · have hse : ∀ c, w_se c v = [c] := fun c => if_pos c21
        refine aw_aload_n (aw_d q_Mo_writeLines 14 rfl) rfl rfl rfl ?_
        refine aw_iload_n (aw_d q_Mo_writeLines 15 rfl) rfl rfl ?_
        refine aw_ifN_eq (tgt := 34) (aw_d q_Mo_writeLines 16 rfl) (by decide) (by (have hz1 := hW.1; omega)) (fun c26 => ?_) (fun c26 => by exfalso; (have hz1 := hW.1; omega))
        refine aw_bipush (v := nI 9) (aw_d q_Mo_writeLines 19 rfl) (by decide) ?_
        refine cVv (aw_d q_Mo_writeLines 20 rfl) (sp_put1 (by (try simp only [List.length_append, List.length_cons, List.length_nil, eB_len]); omega)) vL_Mo_135_Mo rfl rfl rfl rfl rfl rfl ⟨aw_le rfl, aw_le rfl⟩ ?_
        refine aw_iload_n (aw_d q_Mo_writeLines 21 rfl) rfl rfl ?_
        refine aw_ifN_ge (tgt := 67) (aw_d q_Mo_writeLines 22 rfl) (by decide) (by (have hz1 := hW.1; omega)) (fun c40 => ?_) (fun c40 => by exfalso; (have hz1 := hW.1; omega))
        refine aw_aload_n (aw_d q_Mo_writeLines 35 rfl) rfl rfl rfl ?_
        refine aw_getf (aw_d q_Mo_writeLines 36 rfl) fL_Mo_37_Mo rfl rfl ?_
        refine aw_bipush (v := nI 6) (aw_d q_Mo_writeLines 37 rfl) (by decide) ?_
        refine aw_iload_n (aw_d q_Mo_writeLines 38 rfl) rfl rfl ?_
        refine aw_imulN (aw_d q_Mo_writeLines 39 rfl) ?_
        refine aw_iload_n (aw_d q_Mo_writeLines 40 rfl) rfl rfl ?_
        refine aw_iaddN (aw_d q_Mo_writeLines 41 rfl) ?_
        refine aw_ialdK (w := (-1)) (aw_d q_Mo_writeLines 42 rfl) rfl (by (have hz1 := hW.1; omega)) rfl (by show S.2 43 (6 * r + v) = _; rw [Nat.mul_comm 6 r, hP.2.2.1 r v hr (by omega), hc]; rfl) ?_
        refine aw_ifI_lt (tgt := 103) (aw_d q_Mo_writeLines 43 rfl) (by decide) (fun c78 => ?_) (fun c78 => by exact absurd c78 (by decide))
        refine aw_aload_n (aw_d q_Mo_writeLines 57 rfl) rfl rfl rfl ?_
        refine aw_getf (aw_d q_Mo_writeLines 58 rfl) fL_Mo_37_Mo rfl rfl ?_
        refine aw_bipush (v := nI 6) (aw_d q_Mo_writeLines 59 rfl) (by decide) ?_
        refine aw_iload_n (aw_d q_Mo_writeLines 60 rfl) rfl rfl ?_
        refine aw_imulN (aw_d q_Mo_writeLines 61 rfl) ?_
        refine aw_iload_n (aw_d q_Mo_writeLines 62 rfl) rfl rfl ?_
        refine aw_iaddN (aw_d q_Mo_writeLines 63 rfl) ?_
        refine aw_ialdK (w := (-1)) (aw_d q_Mo_writeLines 64 rfl) rfl (by (have hz1 := hW.1; omega)) rfl (by show S.2 43 (6 * r + v) = _; rw [Nat.mul_comm 6 r, hP.2.2.1 r v hr (by omega), hc]; rfl) ?_
        refine aw_ifI_lt (tgt := 132) (aw_d q_Mo_writeLines 65 rfl) (by decide) (fun c114 => ?_) (fun c114 => by exact absurd c114 (by decide))
        refine aw_iinc (aw_d q_Mo_writeLines 76 rfl) rfl (ii1 _) (aw_le rfl) rfl ?_
        refine aw_goto (tgt := 12) (aw_d q_Mo_writeLines 77 rfl) (by decide) ?_
        exact ih (v + 1) _ (by omega) (by rw [← e]; simp [catB, hse, w_ls, w_lc, hc, eb_34_0, eb_34_1, eb_34_2, eb_44_0, eb_44_1, eb_44_2, eb_62_1, eb_63_0, eb_63_1, eb_63_2, eb_91_1, eb_123_0, eb_123_1, eb_123_2, eb_8766_2, eb_11298_0, eb_11298_1, eb_11298_2, eb_11387_0, eb_11387_1, eb_11387_2, eb_14939_2, eb_24158_2, eb_24378_2, eb_26430_2, eb_27710_2, eb_2240318_3, eb_2243106_3, eb_6126973_3, eb_6634786_3, eb_6765858_3, eb_7433278_3, eb_7697001_3, eb_644314171_4, eb_644641851_4, eb_1684108389_4, eb_1919246700_4, eb_1953658213_4, eb_163799184187_5, eb_164843319355_5, eb_259668470078_5, eb_422759588965_5, eb_435426304570_5, eb_439721161573_5, eb_474176698914_5, eb_482733079074_5, eb_500136506472_5, eb_512853240933_5, eb_66174531561790_6, eb_66419075146814_6, eb_122511348035134_6, eb_9128563980975394_7, eb_16996725057414462_7, eb_30515246123868524_7, eb_2334097659363883376_8, eb_2339740318023049582_8, eb_2462380988100801893_8, eb_2466419133851988069_8, eb_3180214656604140665_8, eb_3180236698239528033_8, eb_4336793171144239470_8, eb_4336793192635852094_8, eb_4336793196931343713_8, eb_4336799750816022076_8, eb_4336804166361248353_8, eb_4336810746235415668_8, eb_4351156112845270631_8, eb_4352840508821617711_8, eb_4353970888399544684_8, eb_4355655336186377278_8, eb_4355948828431576126_8, eb_4356776833549689452_8, eb_6736589144075891573_8, eb_7286945561811696930_8, eb_7522525835761050223_8, eb_7597120025407222562_8, eb_7814997844241883746_8, eb_7943852967226007922_8, eb_8243121641139499838_8, eb_8304140937415647602_8, eb_8872769000508236346_8, eb_8872784376777351738_8, eb_8898316964945948524_8, tl_0, tl_1, tl_2, tl_3, tl_5, tl_6, tl_7, tl_8, tl_9, tl_10, tl_11, tl_12, tl_13, tl_14, tl_15, tl_16, tl_17, tl_18, tl_19, tl_20, tl_21, tl_22, tl_23, tl_24, tl_25, tl_26, tl_27, tl_28, tl_29, tl_30, tl_31, tl_32, tl_33, tl_34, tl_35, tl_36, tl_37, tl_38, tl_39, tl_40, tl_41, tl_42, tl_43, tl_44, tl_45, tl_46, tl_47, tl_48, tl_49, tl_50, tl_51, tl_52, tl_53, tl_54, tl_55, tl_56, tl_57, tl_58, tl_59]) kk
    | some t =>
      have ht := hct t hc
      refine aw_iload_n (aw_d q_Mo_writeLines 8 rfl) rfl rfl ?_
      refine aw_aload_n (aw_d q_Mo_writeLines 9 rfl) rfl rfl rfl ?_
      refine aw_getf (v := .int (nI (xp_v P))) (aw_d q_Mo_writeLines 10 rfl) fL_Mo_126_Mo rfl (gk hP.1.2.1) ?_
      refine aw_icmpN_ge (tgt := 138) (aw_d q_Mo_writeLines 11 rfl) (by decide) (by (have hz1 := hW.1; omega)) (by (have hz1 := hW.1; omega)) (fun c17 => by exfalso; (have hz1 := hW.1; omega)) (fun c17 => ?_)
      refine aw_iload_n (aw_d q_Mo_writeLines 12 rfl) rfl rfl ?_
      refine aw_ifN_le (tgt := 39) (aw_d q_Mo_writeLines 13 rfl) (by decide) (by (have hz1 := hW.1; omega)) (fun c21 => ?_) (fun c21 => ?_)
      · have hse : ∀ c, w_se c v = [] := fun c => if_neg (by omega)
        refine aw_iload_n (aw_d q_Mo_writeLines 21 rfl) rfl rfl ?_
        refine aw_ifN_ge (tgt := 67) (aw_d q_Mo_writeLines 22 rfl) (by decide) (by (have hz1 := hW.1; omega)) (fun c40 => ?_) (fun c40 => by exfalso; (have hz1 := hW.1; omega))
        refine aw_aload_n (aw_d q_Mo_writeLines 35 rfl) rfl rfl rfl ?_
        refine aw_getf (aw_d q_Mo_writeLines 36 rfl) fL_Mo_37_Mo rfl rfl ?_
        refine aw_bipush (v := nI 6) (aw_d q_Mo_writeLines 37 rfl) (by decide) ?_
        refine aw_iload_n (aw_d q_Mo_writeLines 38 rfl) rfl rfl ?_
        refine aw_imulN (aw_d q_Mo_writeLines 39 rfl) ?_
        refine aw_iload_n (aw_d q_Mo_writeLines 40 rfl) rfl rfl ?_
        refine aw_iaddN (aw_d q_Mo_writeLines 41 rfl) ?_
        refine aw_ialdK (w := (nI t)) (aw_d q_Mo_writeLines 42 rfl) rfl (by (have hz1 := hW.1; omega)) rfl (by show S.2 43 (6 * r + v) = _; rw [Nat.mul_comm 6 r, hP.2.2.1 r v hr (by omega), hc]; rfl) ?_
        refine aw_ifN_lt (tgt := 103) (aw_d q_Mo_writeLines 43 rfl) (by decide) (by (have hz1 := hW.1; omega)) (fun c78 => by exfalso; (have hz1 := hW.1; omega)) (fun c78 => ?_)
        refine aw_iload_n (aw_d q_Mo_writeLines 44 rfl) rfl rfl ?_
        refine aw_ifN_eq (tgt := 103) (aw_d q_Mo_writeLines 45 rfl) (by decide) (by (have hz1 := hW.1; omega)) (fun c82 => ?_) (fun c82 => by exfalso; (have hz1 := hW.1; omega))
        refine aw_aload_n (aw_d q_Mo_writeLines 57 rfl) rfl rfl rfl ?_
        refine aw_getf (aw_d q_Mo_writeLines 58 rfl) fL_Mo_37_Mo rfl rfl ?_
        refine aw_bipush (v := nI 6) (aw_d q_Mo_writeLines 59 rfl) (by decide) ?_
        refine aw_iload_n (aw_d q_Mo_writeLines 60 rfl) rfl rfl ?_
        refine aw_imulN (aw_d q_Mo_writeLines 61 rfl) ?_
        refine aw_iload_n (aw_d q_Mo_writeLines 62 rfl) rfl rfl ?_
        refine aw_iaddN (aw_d q_Mo_writeLines 63 rfl) ?_
        refine aw_ialdK (w := (nI t)) (aw_d q_Mo_writeLines 64 rfl) rfl (by (have hz1 := hW.1; omega)) rfl (by show S.2 43 (6 * r + v) = _; rw [Nat.mul_comm 6 r, hP.2.2.1 r v hr (by omega), hc]; rfl) ?_
        refine aw_ifN_lt (tgt := 132) (aw_d q_Mo_writeLines 65 rfl) (by decide) (by (have hz1 := hW.1; omega)) (fun c114 => by exfalso; (have hz1 := hW.1; omega)) (fun c114 => ?_)
        refine aw_aload_n (aw_d q_Mo_writeLines 66 rfl) rfl rfl rfl ?_
        refine aw_aload_n (aw_d q_Mo_writeLines 67 rfl) rfl rfl rfl ?_
        refine aw_getf (aw_d q_Mo_writeLines 68 rfl) fL_Mo_37_Mo rfl rfl ?_
        refine aw_bipush (v := nI 6) (aw_d q_Mo_writeLines 69 rfl) (by decide) ?_
        refine aw_iload_n (aw_d q_Mo_writeLines 70 rfl) rfl rfl ?_
        refine aw_imulN (aw_d q_Mo_writeLines 71 rfl) ?_
        refine aw_iload_n (aw_d q_Mo_writeLines 72 rfl) rfl rfl ?_
        refine aw_iaddN (aw_d q_Mo_writeLines 73 rfl) ?_
        refine aw_ialdK (w := (nI t)) (aw_d q_Mo_writeLines 74 rfl) rfl (by (have hz1 := hW.1; omega)) rfl (by show S.2 43 (6 * r + v) = _; rw [Nat.mul_comm 6 r, hP.2.2.1 r v hr (by omega), hc]; rfl) ?_
        refine cVv (aw_d q_Mo_writeLines 75 rfl) (sp_Mo_bindTab hP hW ht (by (try simp only [List.length_append, List.length_cons, List.length_nil, eB_len]); omega)) vL_Mo_289_Mo rfl rfl rfl rfl rfl rfl ⟨aw_le rfl, aw_le rfl⟩ ?_
        refine aw_iinc (aw_d q_Mo_writeLines 76 rfl) rfl (ii1 _) (aw_le rfl) rfl ?_
        refine aw_goto (tgt := 12) (aw_d q_Mo_writeLines 77 rfl) (by decide) ?_
        exact ih (v + 1) _ (by omega) (by rw [← e]; simp [catB, hse, w_ls, w_lc, w_lt, hc, eb_34_0, eb_34_1, eb_34_2, eb_44_0, eb_44_1, eb_44_2, eb_62_1, eb_63_0, eb_63_1, eb_63_2, eb_91_1, eb_123_0, eb_123_1, eb_123_2, eb_8766_2, eb_11298_0, eb_11298_1, eb_11298_2, eb_11387_0, eb_11387_1, eb_11387_2, eb_14939_2, eb_24158_2, eb_24378_2, eb_26430_2, eb_27710_2, eb_2240318_3, eb_2243106_3, eb_6126973_3, eb_6634786_3, eb_6765858_3, eb_7433278_3, eb_7697001_3, eb_644314171_4, eb_644641851_4, eb_1684108389_4, eb_1919246700_4, eb_1953658213_4, eb_163799184187_5, eb_164843319355_5, eb_259668470078_5, eb_422759588965_5, eb_435426304570_5, eb_439721161573_5, eb_474176698914_5, eb_482733079074_5, eb_500136506472_5, eb_512853240933_5, eb_66174531561790_6, eb_66419075146814_6, eb_122511348035134_6, eb_9128563980975394_7, eb_16996725057414462_7, eb_30515246123868524_7, eb_2334097659363883376_8, eb_2339740318023049582_8, eb_2462380988100801893_8, eb_2466419133851988069_8, eb_3180214656604140665_8, eb_3180236698239528033_8, eb_4336793171144239470_8, eb_4336793192635852094_8, eb_4336793196931343713_8, eb_4336799750816022076_8, eb_4336804166361248353_8, eb_4336810746235415668_8, eb_4351156112845270631_8, eb_4352840508821617711_8, eb_4353970888399544684_8, eb_4355655336186377278_8, eb_4355948828431576126_8, eb_4356776833549689452_8, eb_6736589144075891573_8, eb_7286945561811696930_8, eb_7522525835761050223_8, eb_7597120025407222562_8, eb_7814997844241883746_8, eb_7943852967226007922_8, eb_8243121641139499838_8, eb_8304140937415647602_8, eb_8872769000508236346_8, eb_8872784376777351738_8, eb_8898316964945948524_8, tl_0, tl_1, tl_2, tl_3, tl_5, tl_6, tl_7, tl_8, tl_9, tl_10, tl_11, tl_12, tl_13, tl_14, tl_15, tl_16, tl_17, tl_18, tl_19, tl_20, tl_21, tl_22, tl_23, tl_24, tl_25, tl_26, tl_27, tl_28, tl_29, tl_30, tl_31, tl_32, tl_33, tl_34, tl_35, tl_36, tl_37, tl_38, tl_39, tl_40, tl_41, tl_42, tl_43, tl_44, tl_45, tl_46, tl_47, tl_48, tl_49, tl_50, tl_51, tl_52, tl_53, tl_54, tl_55, tl_56, tl_57, tl_58, tl_59]) kk
      · have hse : ∀ c, w_se c v = [c] := fun c => if_pos c21
        refine aw_aload_n (aw_d q_Mo_writeLines 14 rfl) rfl rfl rfl ?_
        refine aw_iload_n (aw_d q_Mo_writeLines 15 rfl) rfl rfl ?_
        refine aw_ifN_eq (tgt := 34) (aw_d q_Mo_writeLines 16 rfl) (by decide) (by (have hz1 := hW.1; omega)) (fun c26 => ?_) (fun c26 => by exfalso; (have hz1 := hW.1; omega))
        refine aw_bipush (v := nI 9) (aw_d q_Mo_writeLines 19 rfl) (by decide) ?_
        refine cVv (aw_d q_Mo_writeLines 20 rfl) (sp_put1 (by (try simp only [List.length_append, List.length_cons, List.length_nil, eB_len]); omega)) vL_Mo_135_Mo rfl rfl rfl rfl rfl rfl ⟨aw_le rfl, aw_le rfl⟩ ?_
        refine aw_iload_n (aw_d q_Mo_writeLines 21 rfl) rfl rfl ?_
        refine aw_ifN_ge (tgt := 67) (aw_d q_Mo_writeLines 22 rfl) (by decide) (by (have hz1 := hW.1; omega)) (fun c40 => ?_) (fun c40 => by exfalso; (have hz1 := hW.1; omega))
        refine aw_aload_n (aw_d q_Mo_writeLines 35 rfl) rfl rfl rfl ?_
        refine aw_getf (aw_d q_Mo_writeLines 36 rfl) fL_Mo_37_Mo rfl rfl ?_
        refine aw_bipush (v := nI 6) (aw_d q_Mo_writeLines 37 rfl) (by decide) ?_
        refine aw_iload_n (aw_d q_Mo_writeLines 38 rfl) rfl rfl ?_
        refine aw_imulN (aw_d q_Mo_writeLines 39 rfl) ?_
        refine aw_iload_n (aw_d q_Mo_writeLines 40 rfl) rfl rfl ?_
        refine aw_iaddN (aw_d q_Mo_writeLines 41 rfl) ?_
        refine aw_ialdK (w := (nI t)) (aw_d q_Mo_writeLines 42 rfl) rfl (by (have hz1 := hW.1; omega)) rfl (by show S.2 43 (6 * r + v) = _; rw [Nat.mul_comm 6 r, hP.2.2.1 r v hr (by omega), hc]; rfl) ?_
        refine aw_ifN_lt (tgt := 103) (aw_d q_Mo_writeLines 43 rfl) (by decide) (by (have hz1 := hW.1; omega)) (fun c78 => by exfalso; (have hz1 := hW.1; omega)) (fun c78 => ?_)
        refine aw_iload_n (aw_d q_Mo_writeLines 44 rfl) rfl rfl ?_
        refine aw_ifN_eq (tgt := 103) (aw_d q_Mo_writeLines 45 rfl) (by decide) (by (have hz1 := hW.1; omega)) (fun c82 => ?_) (fun c82 => by exfalso; (have hz1 := hW.1; omega))
        refine aw_aload_n (aw_d q_Mo_writeLines 57 rfl) rfl rfl rfl ?_
        refine aw_getf (aw_d q_Mo_writeLines 58 rfl) fL_Mo_37_Mo rfl rfl ?_
        refine aw_bipush (v := nI 6) (aw_d q_Mo_writeLines 59 rfl) (by decide) ?_
        refine aw_iload_n (aw_d q_Mo_writeLines 60 rfl) rfl rfl ?_
        refine aw_imulN (aw_d q_Mo_writeLines 61 rfl) ?_
        refine aw_iload_n (aw_d q_Mo_writeLines 62 rfl) rfl rfl ?_
        refine aw_iaddN (aw_d q_Mo_writeLines 63 rfl) ?_
        refine aw_ialdK (w := (nI t)) (aw_d q_Mo_writeLines 64 rfl) rfl (by (have hz1 := hW.1; omega)) rfl (by show S.2 43 (6 * r + v) = _; rw [Nat.mul_comm 6 r, hP.2.2.1 r v hr (by omega), hc]; rfl) ?_
        refine aw_ifN_lt (tgt := 132) (aw_d q_Mo_writeLines 65 rfl) (by decide) (by (have hz1 := hW.1; omega)) (fun c114 => by exfalso; (have hz1 := hW.1; omega)) (fun c114 => ?_)
        refine aw_aload_n (aw_d q_Mo_writeLines 66 rfl) rfl rfl rfl ?_
        refine aw_aload_n (aw_d q_Mo_writeLines 67 rfl) rfl rfl rfl ?_
        refine aw_getf (aw_d q_Mo_writeLines 68 rfl) fL_Mo_37_Mo rfl rfl ?_
        refine aw_bipush (v := nI 6) (aw_d q_Mo_writeLines 69 rfl) (by decide) ?_
        refine aw_iload_n (aw_d q_Mo_writeLines 70 rfl) rfl rfl ?_
        refine aw_imulN (aw_d q_Mo_writeLines 71 rfl) ?_
        refine aw_iload_n (aw_d q_Mo_writeLines 72 rfl) rfl rfl ?_
        refine aw_iaddN (aw_d q_Mo_writeLines 73 rfl) ?_
        refine aw_ialdK (w := (nI t)) (aw_d q_Mo_writeLines 74 rfl) rfl (by (have hz1 := hW.1; omega)) rfl (by show S.2 43 (6 * r + v) = _; rw [Nat.mul_comm 6 r, hP.2.2.1 r v hr (by omega), hc]; rfl) ?_
        refine cVv (aw_d q_Mo_writeLines 75 rfl) (sp_Mo_bindTab hP hW ht (by (try simp only [List.length_append, List.length_cons, List.length_nil, eB_len]); omega)) vL_Mo_289_Mo rfl rfl rfl rfl rfl rfl ⟨aw_le rfl, aw_le rfl⟩ ?_
        refine aw_iinc (aw_d q_Mo_writeLines 76 rfl) rfl (ii1 _) (aw_le rfl) rfl ?_
        refine aw_goto (tgt := 12) (aw_d q_Mo_writeLines 77 rfl) (by decide) ?_
        exact ih (v + 1) _ (by omega) (by rw [← e]; simp [catB, hse, w_ls, w_lc, w_lt, hc, eb_34_0, eb_34_1, eb_34_2, eb_44_0, eb_44_1, eb_44_2, eb_62_1, eb_63_0, eb_63_1, eb_63_2, eb_91_1, eb_123_0, eb_123_1, eb_123_2, eb_8766_2, eb_11298_0, eb_11298_1, eb_11298_2, eb_11387_0, eb_11387_1, eb_11387_2, eb_14939_2, eb_24158_2, eb_24378_2, eb_26430_2, eb_27710_2, eb_2240318_3, eb_2243106_3, eb_6126973_3, eb_6634786_3, eb_6765858_3, eb_7433278_3, eb_7697001_3, eb_644314171_4, eb_644641851_4, eb_1684108389_4, eb_1919246700_4, eb_1953658213_4, eb_163799184187_5, eb_164843319355_5, eb_259668470078_5, eb_422759588965_5, eb_435426304570_5, eb_439721161573_5, eb_474176698914_5, eb_482733079074_5, eb_500136506472_5, eb_512853240933_5, eb_66174531561790_6, eb_66419075146814_6, eb_122511348035134_6, eb_9128563980975394_7, eb_16996725057414462_7, eb_30515246123868524_7, eb_2334097659363883376_8, eb_2339740318023049582_8, eb_2462380988100801893_8, eb_2466419133851988069_8, eb_3180214656604140665_8, eb_3180236698239528033_8, eb_4336793171144239470_8, eb_4336793192635852094_8, eb_4336793196931343713_8, eb_4336799750816022076_8, eb_4336804166361248353_8, eb_4336810746235415668_8, eb_4351156112845270631_8, eb_4352840508821617711_8, eb_4353970888399544684_8, eb_4355655336186377278_8, eb_4355948828431576126_8, eb_4356776833549689452_8, eb_6736589144075891573_8, eb_7286945561811696930_8, eb_7522525835761050223_8, eb_7597120025407222562_8, eb_7814997844241883746_8, eb_7943852967226007922_8, eb_8243121641139499838_8, eb_8304140937415647602_8, eb_8872769000508236346_8, eb_8872784376777351738_8, eb_8898316964945948524_8, tl_0, tl_1, tl_2, tl_3, tl_5, tl_6, tl_7, tl_8, tl_9, tl_10, tl_11, tl_12, tl_13, tl_14, tl_15, tl_16, tl_17, tl_18, tl_19, tl_20, tl_21, tl_22, tl_23, tl_24, tl_25, tl_26, tl_27, tl_28, tl_29, tl_30, tl_31, tl_32, tl_33, tl_34, tl_35, tl_36, tl_37, tl_38, tl_39, tl_40, tl_41, tl_42, tl_43, tl_44, tl_45, tl_46, tl_47, tl_48, tl_49, tl_50, tl_51, tl_52, tl_53, tl_54, tl_55, tl_56, tl_57, tl_58, tl_59]) kk
set_option maxRecDepth 20000 in
theorem lp_wL2_0 {g : aw_G} {S : aw_S} {O : List Int32} {P : xp_T} (hP : xp_M S P) (hW : xp_wd P) (hF : (O ++ w_l false P).length + 10000 < 2147483648) : ∀ (m r : Nat) (Q : List Int32) (x3 : Option Value), m + r = xp_r P → Q ++ catB (w_lr false P) m r = O ++ w_l false P → AW g M_Mo_writeLines (aw_rm 4 90 0 0) (aw_F g 0 0 (fun r1 h => r1 = none ∧ h = HP (MS S (O ++ w_l false P)))) 2 [some (.ref 33), some (.int (nI 0)), some (.int (nI r)), x3] [] (HP (MS S Q)) 0 0 := by
  intro m
  induction m with
  | zero =>
    intro r Q x3 hk e
    have hF2 := hF
    rw [List.length_append] at hF2
    have hq := congrArg List.length e
    simp only [List.length_append] at hq
    refine aw_iload_n (aw_d q_Mo_writeLines 2 rfl) rfl rfl ?_
    refine aw_aload_n (aw_d q_Mo_writeLines 3 rfl) rfl rfl rfl ?_
    refine aw_getf (v := .int (nI (xp_r P))) (aw_d q_Mo_writeLines 4 rfl) fL_Mo_129_Mo rfl (gk hP.1.2.2) ?_
    refine aw_icmpN_ge (tgt := 160) (aw_d q_Mo_writeLines 5 rfl) (by decide) (by (have hz1 := hW.1; omega)) (by (have hz1 := hW.1; omega)) (fun c7 => ?_) (fun c7 => by exfalso; (have hz1 := hW.1; omega))
    exact aw_vret (aw_d q_Mo_writeLines 88 rfl) rfl (⟨rfl, by rw [← e]; simp [catB, w_se, eb_34_0, eb_34_1, eb_34_2, eb_44_0, eb_44_1, eb_44_2, eb_62_1, eb_63_0, eb_63_1, eb_63_2, eb_91_1, eb_123_0, eb_123_1, eb_123_2, eb_8766_2, eb_11298_0, eb_11298_1, eb_11298_2, eb_11387_0, eb_11387_1, eb_11387_2, eb_14939_2, eb_24158_2, eb_24378_2, eb_26430_2, eb_27710_2, eb_2240318_3, eb_2243106_3, eb_6126973_3, eb_6634786_3, eb_6765858_3, eb_7433278_3, eb_7697001_3, eb_644314171_4, eb_644641851_4, eb_1684108389_4, eb_1919246700_4, eb_1953658213_4, eb_163799184187_5, eb_164843319355_5, eb_259668470078_5, eb_422759588965_5, eb_435426304570_5, eb_439721161573_5, eb_474176698914_5, eb_482733079074_5, eb_500136506472_5, eb_512853240933_5, eb_66174531561790_6, eb_66419075146814_6, eb_122511348035134_6, eb_9128563980975394_7, eb_16996725057414462_7, eb_30515246123868524_7, eb_2334097659363883376_8, eb_2339740318023049582_8, eb_2462380988100801893_8, eb_2466419133851988069_8, eb_3180214656604140665_8, eb_3180236698239528033_8, eb_4336793171144239470_8, eb_4336793192635852094_8, eb_4336793196931343713_8, eb_4336799750816022076_8, eb_4336804166361248353_8, eb_4336810746235415668_8, eb_4351156112845270631_8, eb_4352840508821617711_8, eb_4353970888399544684_8, eb_4355655336186377278_8, eb_4355948828431576126_8, eb_4356776833549689452_8, eb_6736589144075891573_8, eb_7286945561811696930_8, eb_7522525835761050223_8, eb_7597120025407222562_8, eb_7814997844241883746_8, eb_7943852967226007922_8, eb_8243121641139499838_8, eb_8304140937415647602_8, eb_8872769000508236346_8, eb_8872784376777351738_8, eb_8898316964945948524_8, tl_0, tl_1, tl_2, tl_3, tl_5, tl_6, tl_7, tl_8, tl_9, tl_10, tl_11, tl_12, tl_13, tl_14, tl_15, tl_16, tl_17, tl_18, tl_19, tl_20, tl_21, tl_22, tl_23, tl_24, tl_25, tl_26, tl_27, tl_28, tl_29, tl_30, tl_31, tl_32, tl_33, tl_34, tl_35, tl_36, tl_37, tl_38, tl_39, tl_40, tl_41, tl_42, tl_43, tl_44, tl_45, tl_46, tl_47, tl_48, tl_49, tl_50, tl_51, tl_52, tl_53, tl_54, tl_55, tl_56, tl_57, tl_58, tl_59]⟩)
  | succ m ih =>
    intro r Q x3 hk e
    have hF2 := hF
    rw [List.length_append] at hF2
    have hq := congrArg List.length e
    simp only [catB, List.length_append, List.length_cons, List.length_nil, w_lr] at hq
    refine aw_iload_n (aw_d q_Mo_writeLines 2 rfl) rfl rfl ?_
    refine aw_aload_n (aw_d q_Mo_writeLines 3 rfl) rfl rfl rfl ?_
    refine aw_getf (v := .int (nI (xp_r P))) (aw_d q_Mo_writeLines 4 rfl) fL_Mo_129_Mo rfl (gk hP.1.2.2) ?_
    refine aw_icmpN_ge (tgt := 160) (aw_d q_Mo_writeLines 5 rfl) (by decide) (by (have hz1 := hW.1; omega)) (by (have hz1 := hW.1; omega)) (fun c7 => by exfalso; (have hz1 := hW.1; omega)) (fun c7 => ?_)
    refine aw_iconst (v := nI 0) (aw_d q_Mo_writeLines 6 rfl) (by decide) ?_
    refine aw_istore_n (aw_d q_Mo_writeLines 7 rfl) rfl (aw_le rfl) rfl ?_
    refine AW.to (lp_wLr_0 hP hW (r := r) (by omega) (by (try simp only [List.length_append, List.length_cons, List.length_nil, eB_len]); omega) (xp_v P) 0 Q (by omega) rfl ?_) rfl rfl rfl rfl
    refine aw_iload_n (aw_d q_Mo_writeLines 78 rfl) rfl rfl ?_
    refine aw_ifN_eq (tgt := 148) (aw_d q_Mo_writeLines 79 rfl) (by decide) (by (have hz1 := hW.1; omega)) (fun c139 => ?_) (fun c139 => by exfalso; (have hz1 := hW.1; omega))
    refine aw_aload_n (aw_d q_Mo_writeLines 83 rfl) rfl rfl rfl ?_
    refine aw_bipush (v := nI 10) (aw_d q_Mo_writeLines 84 rfl) (by decide) ?_
    refine cVv (aw_d q_Mo_writeLines 85 rfl) (sp_put1 (by (try simp only [List.length_append, List.length_cons, List.length_nil, eB_len]); omega)) vL_Mo_135_Mo rfl rfl rfl rfl rfl rfl ⟨aw_le rfl, aw_le rfl⟩ ?_
    refine aw_iinc (aw_d q_Mo_writeLines 86 rfl) rfl (ii1 _) (aw_le rfl) rfl ?_
    refine aw_goto (tgt := 2) (aw_d q_Mo_writeLines 87 rfl) (by decide) ?_
    exact ih (r + 1) _ _ (by omega) (by rw [← e]; simp [catB, w_lr, w_le, eb_34_0, eb_34_1, eb_34_2, eb_44_0, eb_44_1, eb_44_2, eb_62_1, eb_63_0, eb_63_1, eb_63_2, eb_91_1, eb_123_0, eb_123_1, eb_123_2, eb_8766_2, eb_11298_0, eb_11298_1, eb_11298_2, eb_11387_0, eb_11387_1, eb_11387_2, eb_14939_2, eb_24158_2, eb_24378_2, eb_26430_2, eb_27710_2, eb_2240318_3, eb_2243106_3, eb_6126973_3, eb_6634786_3, eb_6765858_3, eb_7433278_3, eb_7697001_3, eb_644314171_4, eb_644641851_4, eb_1684108389_4, eb_1919246700_4, eb_1953658213_4, eb_163799184187_5, eb_164843319355_5, eb_259668470078_5, eb_422759588965_5, eb_435426304570_5, eb_439721161573_5, eb_474176698914_5, eb_482733079074_5, eb_500136506472_5, eb_512853240933_5, eb_66174531561790_6, eb_66419075146814_6, eb_122511348035134_6, eb_9128563980975394_7, eb_16996725057414462_7, eb_30515246123868524_7, eb_2334097659363883376_8, eb_2339740318023049582_8, eb_2462380988100801893_8, eb_2466419133851988069_8, eb_3180214656604140665_8, eb_3180236698239528033_8, eb_4336793171144239470_8, eb_4336793192635852094_8, eb_4336793196931343713_8, eb_4336799750816022076_8, eb_4336804166361248353_8, eb_4336810746235415668_8, eb_4351156112845270631_8, eb_4352840508821617711_8, eb_4353970888399544684_8, eb_4355655336186377278_8, eb_4355948828431576126_8, eb_4356776833549689452_8, eb_6736589144075891573_8, eb_7286945561811696930_8, eb_7522525835761050223_8, eb_7597120025407222562_8, eb_7814997844241883746_8, eb_7943852967226007922_8, eb_8243121641139499838_8, eb_8304140937415647602_8, eb_8872769000508236346_8, eb_8872784376777351738_8, eb_8898316964945948524_8, tl_0, tl_1, tl_2, tl_3, tl_5, tl_6, tl_7, tl_8, tl_9, tl_10, tl_11, tl_12, tl_13, tl_14, tl_15, tl_16, tl_17, tl_18, tl_19, tl_20, tl_21, tl_22, tl_23, tl_24, tl_25, tl_26, tl_27, tl_28, tl_29, tl_30, tl_31, tl_32, tl_33, tl_34, tl_35, tl_36, tl_37, tl_38, tl_39, tl_40, tl_41, tl_42, tl_43, tl_44, tl_45, tl_46, tl_47, tl_48, tl_49, tl_50, tl_51, tl_52, tl_53, tl_54, tl_55, tl_56, tl_57, tl_58, tl_59])
set_option maxRecDepth 20000 in
theorem sp_writeLines_0 {g : aw_G} {S : aw_S} {O : List Int32} {P : xp_T} (hP : xp_M S P) (hW : xp_wd P) (hF : (O ++ w_l false P).length + 10000 < 2147483648) : Sp g M_Mo_writeLines 4 90 0 0 [.ref 33, .int (nI 0)] (HP (MS S O)) (fun r1 h => r1 = none ∧ h = HP (MS S (O ++ w_l false P))) := by
  refine Sp.of rfl (aw_le rfl) ?_
  have hq := hF
  simp only [w_l, List.length_append] at hq
  refine aw_iconst (v := (-1)) (aw_d q_Mo_writeLines 0 rfl) (by decide) ?_
  refine aw_istore_n (aw_d q_Mo_writeLines 1 rfl) rfl (aw_le rfl) rfl ?_
  refine aw_iload_n (aw_d q_Mo_writeLines 2 rfl) rfl rfl ?_
  refine aw_aload_n (aw_d q_Mo_writeLines 3 rfl) rfl rfl rfl ?_
  refine aw_getf (v := .int (nI (xp_r P))) (aw_d q_Mo_writeLines 4 rfl) fL_Mo_129_Mo rfl (gk hP.1.2.2) ?_
  refine aw_icmpI_ge (tgt := 160) (aw_d q_Mo_writeLines 5 rfl) (by decide) (by (have hz1 := hW.1; omega)) (fun c7 => by have h1 : (-1 : Int32).toInt = -1 := rfl; omega) (fun c7 => ?_)
  refine aw_iconst (v := nI 0) (aw_d q_Mo_writeLines 6 rfl) (by decide) ?_
  refine aw_istore_n (aw_d q_Mo_writeLines 7 rfl) rfl (aw_le rfl) rfl ?_
  refine AW.to (lp_wLh_0 hP hW (by (try simp only [List.length_append, List.length_cons, List.length_nil, eB_len]); omega) (xp_v P) 0 O (by omega) rfl ?_) rfl rfl rfl rfl
  refine aw_iload_n (aw_d q_Mo_writeLines 78 rfl) rfl rfl ?_
  refine aw_ifN_eq (tgt := 148) (aw_d q_Mo_writeLines 79 rfl) (by decide) (by (have hz1 := hW.1; omega)) (fun c139 => ?_) (fun c139 => by exfalso; (have hz1 := hW.1; omega))
  refine aw_aload_n (aw_d q_Mo_writeLines 83 rfl) rfl rfl rfl ?_
  refine aw_bipush (v := nI 10) (aw_d q_Mo_writeLines 84 rfl) (by decide) ?_
  refine cVv (aw_d q_Mo_writeLines 85 rfl) (sp_put1 (by (try simp only [List.length_append, List.length_cons, List.length_nil, eB_len]); omega)) vL_Mo_135_Mo rfl rfl rfl rfl rfl rfl ⟨aw_le rfl, aw_le rfl⟩ ?_
  refine aw_iinc (v := nI 0) (aw_d q_Mo_writeLines 86 rfl) rfl (by decide) (aw_le rfl) rfl ?_
  refine aw_goto (tgt := 2) (aw_d q_Mo_writeLines 87 rfl) (by decide) ?_
  exact lp_wL2_0 hP hW hF (xp_r P) 0 _ _ (by omega) (by simp [w_l, w_le, tl_0, tl_1, tl_2, tl_3, tl_5, tl_6, tl_7, tl_8, tl_9, tl_10, tl_11, tl_12, tl_13, tl_14, tl_15, tl_16, tl_17, tl_18, tl_19, tl_20, tl_21, tl_22, tl_23, tl_24, tl_25, tl_26, tl_27, tl_28, tl_29, tl_30, tl_31, tl_32, tl_33, tl_34, tl_35, tl_36, tl_37, tl_38, tl_39, tl_40, tl_41, tl_42, tl_43, tl_44, tl_45, tl_46, tl_47, tl_48, tl_49, tl_50, tl_51, tl_52, tl_53, tl_54, tl_55, tl_56, tl_57, tl_58, tl_59])
set_option maxRecDepth 20000 in
theorem lp_wLh_1 {g : aw_G} {S : aw_S} {Post : Option Value → aw_hp → Prop} {P : xp_T} (hP : xp_M S P) (hW : xp_wd P) {F : List Int32} (hF : F.length + 10000 < 2147483648) : ∀ (m v : Nat) (Q : List Int32), m + v = xp_v P → Q ++ catB (fun v => w_se (w_ls true) v ++ (w_lm true ++ w_n P v)) m v = F → AW g M_Mo_writeLines (aw_rm 4 90 0 0) (aw_F g 0 0 Post) 138 [some (.ref 33), some (.int (nI 1)), some (.int (-1)), some (.int (nI (xp_v P)))] [] (HP (MS S F)) 0 0 → AW g M_Mo_writeLines (aw_rm 4 90 0 0) (aw_F g 0 0 (Post)) 12 [some (.ref 33), some (.int (nI 1)), some (.int (-1)), some (.int (nI v))] [] (HP (MS S Q)) 0 0 := by
  intro m
  induction m with
  | zero =>
    intro v Q hk e kk
    refine aw_iload_n (aw_d q_Mo_writeLines 8 rfl) rfl rfl ?_
    refine aw_aload_n (aw_d q_Mo_writeLines 9 rfl) rfl rfl rfl ?_
    refine aw_getf (v := .int (nI (xp_v P))) (aw_d q_Mo_writeLines 10 rfl) fL_Mo_126_Mo rfl (gk hP.1.2.1) ?_
    refine aw_icmpN_ge (tgt := 138) (aw_d q_Mo_writeLines 11 rfl) (by decide) (by (have hz1 := hW.1; omega)) (by (have hz1 := hW.1; omega)) (fun c17 => ?_) (fun c17 => by exfalso; (have hz1 := hW.1; omega))
    have hve : v = xp_v P := by omega
    subst hve
    simp only [catB, rjB, List.append_nil] at e
    subst e
    exact kk
  | succ m ih =>
    intro v Q hk e kk
    have hq := congrArg List.length e
    rw [List.length_append] at hq
    have hln := w_n_len hW (v := v) (by omega)
    refine aw_iload_n (aw_d q_Mo_writeLines 8 rfl) rfl rfl ?_
    refine aw_aload_n (aw_d q_Mo_writeLines 9 rfl) rfl rfl rfl ?_
    refine aw_getf (v := .int (nI (xp_v P))) (aw_d q_Mo_writeLines 10 rfl) fL_Mo_126_Mo rfl (gk hP.1.2.1) ?_
    refine aw_icmpN_ge (tgt := 138) (aw_d q_Mo_writeLines 11 rfl) (by decide) (by (have hz1 := hW.1; omega)) (by (have hz1 := hW.1; omega)) (fun c17 => by exfalso; (have hz1 := hW.1; omega)) (fun c17 => ?_)
    refine aw_iload_n (aw_d q_Mo_writeLines 12 rfl) rfl rfl ?_
    refine aw_ifN_le (tgt := 39) (aw_d q_Mo_writeLines 13 rfl) (by decide) (by (have hz1 := hW.1; omega)) (fun c21 => ?_) (fun c21 => ?_)
    · have hse : ∀ c, w_se c v = [] := fun c => if_neg (by omega)
      refine aw_iload_n (aw_d q_Mo_writeLines 21 rfl) rfl rfl ?_
      refine aw_ifI_ge (tgt := 67) (aw_d q_Mo_writeLines 22 rfl) (by decide) (fun c40 => by exact absurd c40 (by decide)) (fun c40 => ?_)
      refine aw_aload_n (aw_d q_Mo_writeLines 23 rfl) rfl rfl rfl ?_
      refine aw_ldc2 (aw_d q_Mo_writeLines 24 rfl) lL_Mo_284 ?_
      refine aw_iload_n (aw_d q_Mo_writeLines 25 rfl) rfl rfl ?_
      refine aw_ifN_eq (tgt := 55) (aw_d q_Mo_writeLines 26 rfl) (by decide) (by (have hz1 := hW.1; omega)) (fun c48 => by exfalso; (have hz1 := hW.1; omega)) (fun c48 => ?_)
      refine aw_iconst (v := nI 0) (aw_d q_Mo_writeLines 27 rfl) (by decide) ?_
      refine aw_goto (tgt := 56) (aw_d q_Mo_writeLines 28 rfl) (by decide) ?_
      refine cVv (aw_d q_Mo_writeLines 30 rfl) (sp_emit (by (try simp only [List.length_append, List.length_cons, List.length_nil, eB_len]); omega)) vL_Mo_141_Mo rfl rfl rfl rfl rfl rfl ⟨aw_le rfl, aw_le rfl⟩ ?_
      refine aw_aload_n (aw_d q_Mo_writeLines 31 rfl) rfl rfl rfl ?_
      refine aw_iload_n (aw_d q_Mo_writeLines 32 rfl) rfl rfl ?_
      refine cVv (aw_d q_Mo_writeLines 33 rfl) (sp_emitName hP hW (v := v) (by omega) (by (try simp only [List.length_append, List.length_cons, List.length_nil, eB_len]); omega)) vL_Mo_169_Mo rfl rfl rfl rfl rfl rfl ⟨aw_le rfl, aw_le rfl⟩ ?_
      refine aw_goto (tgt := 132) (aw_d q_Mo_writeLines 34 rfl) (by decide) ?_
      refine aw_iinc (aw_d q_Mo_writeLines 76 rfl) rfl (ii1 _) (aw_le rfl) rfl ?_
      refine aw_goto (tgt := 12) (aw_d q_Mo_writeLines 77 rfl) (by decide) ?_
      exact ih (v + 1) _ (by omega) (by rw [← e]; simp [catB, hse, w_ls, w_lm, eb_34_0, eb_34_1, eb_34_2, eb_44_0, eb_44_1, eb_44_2, eb_62_1, eb_63_0, eb_63_1, eb_63_2, eb_91_1, eb_123_0, eb_123_1, eb_123_2, eb_8766_2, eb_11298_0, eb_11298_1, eb_11298_2, eb_11387_0, eb_11387_1, eb_11387_2, eb_14939_2, eb_24158_2, eb_24378_2, eb_26430_2, eb_27710_2, eb_2240318_3, eb_2243106_3, eb_6126973_3, eb_6634786_3, eb_6765858_3, eb_7433278_3, eb_7697001_3, eb_644314171_4, eb_644641851_4, eb_1684108389_4, eb_1919246700_4, eb_1953658213_4, eb_163799184187_5, eb_164843319355_5, eb_259668470078_5, eb_422759588965_5, eb_435426304570_5, eb_439721161573_5, eb_474176698914_5, eb_482733079074_5, eb_500136506472_5, eb_512853240933_5, eb_66174531561790_6, eb_66419075146814_6, eb_122511348035134_6, eb_9128563980975394_7, eb_16996725057414462_7, eb_30515246123868524_7, eb_2334097659363883376_8, eb_2339740318023049582_8, eb_2462380988100801893_8, eb_2466419133851988069_8, eb_3180214656604140665_8, eb_3180236698239528033_8, eb_4336793171144239470_8, eb_4336793192635852094_8, eb_4336793196931343713_8, eb_4336799750816022076_8, eb_4336804166361248353_8, eb_4336810746235415668_8, eb_4351156112845270631_8, eb_4352840508821617711_8, eb_4353970888399544684_8, eb_4355655336186377278_8, eb_4355948828431576126_8, eb_4356776833549689452_8, eb_6736589144075891573_8, eb_7286945561811696930_8, eb_7522525835761050223_8, eb_7597120025407222562_8, eb_7814997844241883746_8, eb_7943852967226007922_8, eb_8243121641139499838_8, eb_8304140937415647602_8, eb_8872769000508236346_8, eb_8872784376777351738_8, eb_8898316964945948524_8, tl_0, tl_1, tl_2, tl_3, tl_5, tl_6, tl_7, tl_8, tl_9, tl_10, tl_11, tl_12, tl_13, tl_14, tl_15, tl_16, tl_17, tl_18, tl_19, tl_20, tl_21, tl_22, tl_23, tl_24, tl_25, tl_26, tl_27, tl_28, tl_29, tl_30, tl_31, tl_32, tl_33, tl_34, tl_35, tl_36, tl_37, tl_38, tl_39, tl_40, tl_41, tl_42, tl_43, tl_44, tl_45, tl_46, tl_47, tl_48, tl_49, tl_50, tl_51, tl_52, tl_53, tl_54, tl_55, tl_56, tl_57, tl_58, tl_59]) kk
    · have hse : ∀ c, w_se c v = [c] := fun c => if_pos c21
      refine aw_aload_n (aw_d q_Mo_writeLines 14 rfl) rfl rfl rfl ?_
      refine aw_iload_n (aw_d q_Mo_writeLines 15 rfl) rfl rfl ?_
      refine aw_ifN_eq (tgt := 34) (aw_d q_Mo_writeLines 16 rfl) (by decide) (by (have hz1 := hW.1; omega)) (fun c26 => by exfalso; (have hz1 := hW.1; omega)) (fun c26 => ?_)
      refine aw_bipush (v := nI 44) (aw_d q_Mo_writeLines 17 rfl) (by decide) ?_
      refine aw_goto (tgt := 36) (aw_d q_Mo_writeLines 18 rfl) (by decide) ?_
      refine cVv (aw_d q_Mo_writeLines 20 rfl) (sp_put1 (by (try simp only [List.length_append, List.length_cons, List.length_nil, eB_len]); omega)) vL_Mo_135_Mo rfl rfl rfl rfl rfl rfl ⟨aw_le rfl, aw_le rfl⟩ ?_
      refine aw_iload_n (aw_d q_Mo_writeLines 21 rfl) rfl rfl ?_
      refine aw_ifI_ge (tgt := 67) (aw_d q_Mo_writeLines 22 rfl) (by decide) (fun c40 => by exact absurd c40 (by decide)) (fun c40 => ?_)
      refine aw_aload_n (aw_d q_Mo_writeLines 23 rfl) rfl rfl rfl ?_
      refine aw_ldc2 (aw_d q_Mo_writeLines 24 rfl) lL_Mo_284 ?_
      refine aw_iload_n (aw_d q_Mo_writeLines 25 rfl) rfl rfl ?_
      refine aw_ifN_eq (tgt := 55) (aw_d q_Mo_writeLines 26 rfl) (by decide) (by (have hz1 := hW.1; omega)) (fun c48 => by exfalso; (have hz1 := hW.1; omega)) (fun c48 => ?_)
      refine aw_iconst (v := nI 0) (aw_d q_Mo_writeLines 27 rfl) (by decide) ?_
      refine aw_goto (tgt := 56) (aw_d q_Mo_writeLines 28 rfl) (by decide) ?_
      refine cVv (aw_d q_Mo_writeLines 30 rfl) (sp_emit (by (try simp only [List.length_append, List.length_cons, List.length_nil, eB_len]); omega)) vL_Mo_141_Mo rfl rfl rfl rfl rfl rfl ⟨aw_le rfl, aw_le rfl⟩ ?_
      refine aw_aload_n (aw_d q_Mo_writeLines 31 rfl) rfl rfl rfl ?_
      refine aw_iload_n (aw_d q_Mo_writeLines 32 rfl) rfl rfl ?_
      refine cVv (aw_d q_Mo_writeLines 33 rfl) (sp_emitName hP hW (v := v) (by omega) (by (try simp only [List.length_append, List.length_cons, List.length_nil, eB_len]); omega)) vL_Mo_169_Mo rfl rfl rfl rfl rfl rfl ⟨aw_le rfl, aw_le rfl⟩ ?_
      refine aw_goto (tgt := 132) (aw_d q_Mo_writeLines 34 rfl) (by decide) ?_
      refine aw_iinc (aw_d q_Mo_writeLines 76 rfl) rfl (ii1 _) (aw_le rfl) rfl ?_
      refine aw_goto (tgt := 12) (aw_d q_Mo_writeLines 77 rfl) (by decide) ?_
      exact ih (v + 1) _ (by omega) (by rw [← e]; simp [catB, hse, w_ls, w_lm, eb_34_0, eb_34_1, eb_34_2, eb_44_0, eb_44_1, eb_44_2, eb_62_1, eb_63_0, eb_63_1, eb_63_2, eb_91_1, eb_123_0, eb_123_1, eb_123_2, eb_8766_2, eb_11298_0, eb_11298_1, eb_11298_2, eb_11387_0, eb_11387_1, eb_11387_2, eb_14939_2, eb_24158_2, eb_24378_2, eb_26430_2, eb_27710_2, eb_2240318_3, eb_2243106_3, eb_6126973_3, eb_6634786_3, eb_6765858_3, eb_7433278_3, eb_7697001_3, eb_644314171_4, eb_644641851_4, eb_1684108389_4, eb_1919246700_4, eb_1953658213_4, eb_163799184187_5, eb_164843319355_5, eb_259668470078_5, eb_422759588965_5, eb_435426304570_5, eb_439721161573_5, eb_474176698914_5, eb_482733079074_5, eb_500136506472_5, eb_512853240933_5, eb_66174531561790_6, eb_66419075146814_6, eb_122511348035134_6, eb_9128563980975394_7, eb_16996725057414462_7, eb_30515246123868524_7, eb_2334097659363883376_8, eb_2339740318023049582_8, eb_2462380988100801893_8, eb_2466419133851988069_8, eb_3180214656604140665_8, eb_3180236698239528033_8, eb_4336793171144239470_8, eb_4336793192635852094_8, eb_4336793196931343713_8, eb_4336799750816022076_8, eb_4336804166361248353_8, eb_4336810746235415668_8, eb_4351156112845270631_8, eb_4352840508821617711_8, eb_4353970888399544684_8, eb_4355655336186377278_8, eb_4355948828431576126_8, eb_4356776833549689452_8, eb_6736589144075891573_8, eb_7286945561811696930_8, eb_7522525835761050223_8, eb_7597120025407222562_8, eb_7814997844241883746_8, eb_7943852967226007922_8, eb_8243121641139499838_8, eb_8304140937415647602_8, eb_8872769000508236346_8, eb_8872784376777351738_8, eb_8898316964945948524_8, tl_0, tl_1, tl_2, tl_3, tl_5, tl_6, tl_7, tl_8, tl_9, tl_10, tl_11, tl_12, tl_13, tl_14, tl_15, tl_16, tl_17, tl_18, tl_19, tl_20, tl_21, tl_22, tl_23, tl_24, tl_25, tl_26, tl_27, tl_28, tl_29, tl_30, tl_31, tl_32, tl_33, tl_34, tl_35, tl_36, tl_37, tl_38, tl_39, tl_40, tl_41, tl_42, tl_43, tl_44, tl_45, tl_46, tl_47, tl_48, tl_49, tl_50, tl_51, tl_52, tl_53, tl_54, tl_55, tl_56, tl_57, tl_58, tl_59]) kk
set_option maxRecDepth 20000 in
theorem lp_wLr_1 {g : aw_G} {S : aw_S} {Post : Option Value → aw_hp → Prop} {P : xp_T} (hP : xp_M S P) (hW : xp_wd P) {r : Nat} (hr : r < xp_r P) {F : List Int32} (hF : F.length + 10000 < 2147483648) : ∀ (m v : Nat) (Q : List Int32), m + v = xp_v P → Q ++ catB (fun v => w_se (w_ls true) v ++ w_lc true P r v) m v = F → AW g M_Mo_writeLines (aw_rm 4 90 0 0) (aw_F g 0 0 Post) 138 [some (.ref 33), some (.int (nI 1)), some (.int (nI r)), some (.int (nI (xp_v P)))] [] (HP (MS S F)) 0 0 → AW g M_Mo_writeLines (aw_rm 4 90 0 0) (aw_F g 0 0 (Post)) 12 [some (.ref 33), some (.int (nI 1)), some (.int (nI r)), some (.int (nI v))] [] (HP (MS S Q)) 0 0 := by
  intro m
  induction m with
  | zero =>
    intro v Q hk e kk
    refine aw_iload_n (aw_d q_Mo_writeLines 8 rfl) rfl rfl ?_
    refine aw_aload_n (aw_d q_Mo_writeLines 9 rfl) rfl rfl rfl ?_
    refine aw_getf (v := .int (nI (xp_v P))) (aw_d q_Mo_writeLines 10 rfl) fL_Mo_126_Mo rfl (gk hP.1.2.1) ?_
    refine aw_icmpN_ge (tgt := 138) (aw_d q_Mo_writeLines 11 rfl) (by decide) (by (have hz1 := hW.1; omega)) (by (have hz1 := hW.1; omega)) (fun c17 => ?_) (fun c17 => by exfalso; (have hz1 := hW.1; omega))
    have hve : v = xp_v P := by omega
    subst hve
    simp only [catB, rjB, List.append_nil] at e
    subst e
    exact kk
  | succ m ih =>
    intro v Q hk e kk
    have hq := congrArg List.length e
    rw [List.length_append] at hq
    have hln := w_n_len hW (v := v) (by omega)
    have hct : ∀ t, xp_c P r v = some t → t < xp_t P := fun t h => hW.2.2.1 r v t hr (by omega) h
    cases hc : xp_c P r v with
    | none =>
      refine aw_iload_n (aw_d q_Mo_writeLines 8 rfl) rfl rfl ?_
      refine aw_aload_n (aw_d q_Mo_writeLines 9 rfl) rfl rfl rfl ?_
      refine aw_getf (v := .int (nI (xp_v P))) (aw_d q_Mo_writeLines 10 rfl) fL_Mo_126_Mo rfl (gk hP.1.2.1) ?_
      refine aw_icmpN_ge (tgt := 138) (aw_d q_Mo_writeLines 11 rfl) (by decide) (by (have hz1 := hW.1; omega)) (by (have hz1 := hW.1; omega)) (fun c17 => by exfalso; (have hz1 := hW.1; omega)) (fun c17 => ?_)
      refine aw_iload_n (aw_d q_Mo_writeLines 12 rfl) rfl rfl ?_
      refine aw_ifN_le (tgt := 39) (aw_d q_Mo_writeLines 13 rfl) (by decide) (by (have hz1 := hW.1; omega)) (fun c21 => ?_) (fun c21 => ?_)
      · have hse : ∀ c, w_se c v = [] := fun c => if_neg (by omega)
        refine aw_iload_n (aw_d q_Mo_writeLines 21 rfl) rfl rfl ?_
        refine aw_ifN_ge (tgt := 67) (aw_d q_Mo_writeLines 22 rfl) (by decide) (by (have hz1 := hW.1; omega)) (fun c40 => ?_) (fun c40 => by exfalso; (have hz1 := hW.1; omega))
        refine aw_aload_n (aw_d q_Mo_writeLines 35 rfl) rfl rfl rfl ?_
        refine aw_getf (aw_d q_Mo_writeLines 36 rfl) fL_Mo_37_Mo rfl rfl ?_
        refine aw_bipush (v := nI 6) (aw_d q_Mo_writeLines 37 rfl) (by decide) ?_
        refine aw_iload_n (aw_d q_Mo_writeLines 38 rfl) rfl rfl ?_
        refine aw_imulN (aw_d q_Mo_writeLines 39 rfl) ?_
        refine aw_iload_n (aw_d q_Mo_writeLines 40 rfl) rfl rfl ?_
        refine aw_iaddN (aw_d q_Mo_writeLines 41 rfl) ?_
        refine aw_ialdK (w := (-1)) (aw_d q_Mo_writeLines 42 rfl) rfl (by (have hz1 := hW.1; omega)) rfl (by show S.2 43 (6 * r + v) = _; rw [Nat.mul_comm 6 r, hP.2.2.1 r v hr (by omega), hc]; rfl) ?_
        refine aw_ifI_lt (tgt := 103) (aw_d q_Mo_writeLines 43 rfl) (by decide) (fun c78 => ?_) (fun c78 => by exact absurd c78 (by decide))
        refine aw_aload_n (aw_d q_Mo_writeLines 57 rfl) rfl rfl rfl ?_
        refine aw_getf (aw_d q_Mo_writeLines 58 rfl) fL_Mo_37_Mo rfl rfl ?_
        refine aw_bipush (v := nI 6) (aw_d q_Mo_writeLines 59 rfl) (by decide) ?_
        refine aw_iload_n (aw_d q_Mo_writeLines 60 rfl) rfl rfl ?_
        refine aw_imulN (aw_d q_Mo_writeLines 61 rfl) ?_
        refine aw_iload_n (aw_d q_Mo_writeLines 62 rfl) rfl rfl ?_
        refine aw_iaddN (aw_d q_Mo_writeLines 63 rfl) ?_
        refine aw_ialdK (w := (-1)) (aw_d q_Mo_writeLines 64 rfl) rfl (by (have hz1 := hW.1; omega)) rfl (by show S.2 43 (6 * r + v) = _; rw [Nat.mul_comm 6 r, hP.2.2.1 r v hr (by omega), hc]; rfl) ?_
        refine aw_ifI_lt (tgt := 132) (aw_d q_Mo_writeLines 65 rfl) (by decide) (fun c114 => ?_) (fun c114 => by exact absurd c114 (by decide))
        refine aw_iinc (aw_d q_Mo_writeLines 76 rfl) rfl (ii1 _) (aw_le rfl) rfl ?_
        refine aw_goto (tgt := 12) (aw_d q_Mo_writeLines 77 rfl) (by decide) ?_
        exact ih (v + 1) _ (by omega) (by rw [← e]; simp [catB, hse, w_ls, w_lc, hc, eb_34_0, eb_34_1, eb_34_2, eb_44_0, eb_44_1, eb_44_2, eb_62_1, eb_63_0, eb_63_1, eb_63_2, eb_91_1, eb_123_0, eb_123_1, eb_123_2, eb_8766_2, eb_11298_0, eb_11298_1, eb_11298_2, eb_11387_0, eb_11387_1, eb_11387_2, eb_14939_2, eb_24158_2, eb_24378_2, eb_26430_2, eb_27710_2, eb_2240318_3, eb_2243106_3, eb_6126973_3, eb_6634786_3, eb_6765858_3, eb_7433278_3, eb_7697001_3, eb_644314171_4, eb_644641851_4, eb_1684108389_4, eb_1919246700_4, eb_1953658213_4, eb_163799184187_5, eb_164843319355_5, eb_259668470078_5, eb_422759588965_5, eb_435426304570_5, eb_439721161573_5, eb_474176698914_5, eb_482733079074_5, eb_500136506472_5, eb_512853240933_5, eb_66174531561790_6, eb_66419075146814_6, eb_122511348035134_6, eb_9128563980975394_7, eb_16996725057414462_7, eb_30515246123868524_7, eb_2334097659363883376_8, eb_2339740318023049582_8, eb_2462380988100801893_8, eb_2466419133851988069_8, eb_3180214656604140665_8, eb_3180236698239528033_8, eb_4336793171144239470_8, eb_4336793192635852094_8, eb_4336793196931343713_8, eb_4336799750816022076_8, eb_4336804166361248353_8, eb_4336810746235415668_8, eb_4351156112845270631_8, eb_4352840508821617711_8, eb_4353970888399544684_8, eb_4355655336186377278_8, eb_4355948828431576126_8, eb_4356776833549689452_8, eb_6736589144075891573_8, eb_7286945561811696930_8, eb_7522525835761050223_8, eb_7597120025407222562_8, eb_7814997844241883746_8, eb_7943852967226007922_8, eb_8243121641139499838_8, eb_8304140937415647602_8, eb_8872769000508236346_8, eb_8872784376777351738_8, eb_8898316964945948524_8, tl_0, tl_1, tl_2, tl_3, tl_5, tl_6, tl_7, tl_8, tl_9, tl_10, tl_11, tl_12, tl_13, tl_14, tl_15, tl_16, tl_17, tl_18, tl_19, tl_20, tl_21, tl_22, tl_23, tl_24, tl_25, tl_26, tl_27, tl_28, tl_29, tl_30, tl_31, tl_32, tl_33, tl_34, tl_35, tl_36, tl_37, tl_38, tl_39, tl_40, tl_41, tl_42, tl_43, tl_44, tl_45, tl_46, tl_47, tl_48, tl_49, tl_50, tl_51, tl_52, tl_53, tl_54, tl_55, tl_56, tl_57, tl_58, tl_59]) kk
      · have hse : ∀ c, w_se c v = [c] := fun c => if_pos c21
        refine aw_aload_n (aw_d q_Mo_writeLines 14 rfl) rfl rfl rfl ?_
        refine aw_iload_n (aw_d q_Mo_writeLines 15 rfl) rfl rfl ?_
        refine aw_ifN_eq (tgt := 34) (aw_d q_Mo_writeLines 16 rfl) (by decide) (by (have hz1 := hW.1; omega)) (fun c26 => by exfalso; (have hz1 := hW.1; omega)) (fun c26 => ?_)
        refine aw_bipush (v := nI 44) (aw_d q_Mo_writeLines 17 rfl) (by decide) ?_
        refine aw_goto (tgt := 36) (aw_d q_Mo_writeLines 18 rfl) (by decide) ?_
        refine cVv (aw_d q_Mo_writeLines 20 rfl) (sp_put1 (by (try simp only [List.length_append, List.length_cons, List.length_nil, eB_len]); omega)) vL_Mo_135_Mo rfl rfl rfl rfl rfl rfl ⟨aw_le rfl, aw_le rfl⟩ ?_
        refine aw_iload_n (aw_d q_Mo_writeLines 21 rfl) rfl rfl ?_
        refine aw_ifN_ge (tgt := 67) (aw_d q_Mo_writeLines 22 rfl) (by decide) (by (have hz1 := hW.1; omega)) (fun c40 => ?_) (fun c40 => by exfalso; (have hz1 := hW.1; omega))
        refine aw_aload_n (aw_d q_Mo_writeLines 35 rfl) rfl rfl rfl ?_
        refine aw_getf (aw_d q_Mo_writeLines 36 rfl) fL_Mo_37_Mo rfl rfl ?_
        refine aw_bipush (v := nI 6) (aw_d q_Mo_writeLines 37 rfl) (by decide) ?_
        refine aw_iload_n (aw_d q_Mo_writeLines 38 rfl) rfl rfl ?_
        refine aw_imulN (aw_d q_Mo_writeLines 39 rfl) ?_
        refine aw_iload_n (aw_d q_Mo_writeLines 40 rfl) rfl rfl ?_
        refine aw_iaddN (aw_d q_Mo_writeLines 41 rfl) ?_
        refine aw_ialdK (w := (-1)) (aw_d q_Mo_writeLines 42 rfl) rfl (by (have hz1 := hW.1; omega)) rfl (by show S.2 43 (6 * r + v) = _; rw [Nat.mul_comm 6 r, hP.2.2.1 r v hr (by omega), hc]; rfl) ?_
        refine aw_ifI_lt (tgt := 103) (aw_d q_Mo_writeLines 43 rfl) (by decide) (fun c78 => ?_) (fun c78 => by exact absurd c78 (by decide))
        refine aw_aload_n (aw_d q_Mo_writeLines 57 rfl) rfl rfl rfl ?_
        refine aw_getf (aw_d q_Mo_writeLines 58 rfl) fL_Mo_37_Mo rfl rfl ?_
        refine aw_bipush (v := nI 6) (aw_d q_Mo_writeLines 59 rfl) (by decide) ?_
        refine aw_iload_n (aw_d q_Mo_writeLines 60 rfl) rfl rfl ?_
        refine aw_imulN (aw_d q_Mo_writeLines 61 rfl) ?_
        refine aw_iload_n (aw_d q_Mo_writeLines 62 rfl) rfl rfl ?_
        refine aw_iaddN (aw_d q_Mo_writeLines 63 rfl) ?_
        refine aw_ialdK (w := (-1)) (aw_d q_Mo_writeLines 64 rfl) rfl (by (have hz1 := hW.1; omega)) rfl (by show S.2 43 (6 * r + v) = _; rw [Nat.mul_comm 6 r, hP.2.2.1 r v hr (by omega), hc]; rfl) ?_
        refine aw_ifI_lt (tgt := 132) (aw_d q_Mo_writeLines 65 rfl) (by decide) (fun c114 => ?_) (fun c114 => by exact absurd c114 (by decide))
        refine aw_iinc (aw_d q_Mo_writeLines 76 rfl) rfl (ii1 _) (aw_le rfl) rfl ?_
        refine aw_goto (tgt := 12) (aw_d q_Mo_writeLines 77 rfl) (by decide) ?_
        exact ih (v + 1) _ (by omega) (by rw [← e]; simp [catB, hse, w_ls, w_lc, hc, eb_34_0, eb_34_1, eb_34_2, eb_44_0, eb_44_1, eb_44_2, eb_62_1, eb_63_0, eb_63_1, eb_63_2, eb_91_1, eb_123_0, eb_123_1, eb_123_2, eb_8766_2, eb_11298_0, eb_11298_1, eb_11298_2, eb_11387_0, eb_11387_1, eb_11387_2, eb_14939_2, eb_24158_2, eb_24378_2, eb_26430_2, eb_27710_2, eb_2240318_3, eb_2243106_3, eb_6126973_3, eb_6634786_3, eb_6765858_3, eb_7433278_3, eb_7697001_3, eb_644314171_4, eb_644641851_4, eb_1684108389_4, eb_1919246700_4, eb_1953658213_4, eb_163799184187_5, eb_164843319355_5, eb_259668470078_5, eb_422759588965_5, eb_435426304570_5, eb_439721161573_5, eb_474176698914_5, eb_482733079074_5, eb_500136506472_5, eb_512853240933_5, eb_66174531561790_6, eb_66419075146814_6, eb_122511348035134_6, eb_9128563980975394_7, eb_16996725057414462_7, eb_30515246123868524_7, eb_2334097659363883376_8, eb_2339740318023049582_8, eb_2462380988100801893_8, eb_2466419133851988069_8, eb_3180214656604140665_8, eb_3180236698239528033_8, eb_4336793171144239470_8, eb_4336793192635852094_8, eb_4336793196931343713_8, eb_4336799750816022076_8, eb_4336804166361248353_8, eb_4336810746235415668_8, eb_4351156112845270631_8, eb_4352840508821617711_8, eb_4353970888399544684_8, eb_4355655336186377278_8, eb_4355948828431576126_8, eb_4356776833549689452_8, eb_6736589144075891573_8, eb_7286945561811696930_8, eb_7522525835761050223_8, eb_7597120025407222562_8, eb_7814997844241883746_8, eb_7943852967226007922_8, eb_8243121641139499838_8, eb_8304140937415647602_8, eb_8872769000508236346_8, eb_8872784376777351738_8, eb_8898316964945948524_8, tl_0, tl_1, tl_2, tl_3, tl_5, tl_6, tl_7, tl_8, tl_9, tl_10, tl_11, tl_12, tl_13, tl_14, tl_15, tl_16, tl_17, tl_18, tl_19, tl_20, tl_21, tl_22, tl_23, tl_24, tl_25, tl_26, tl_27, tl_28, tl_29, tl_30, tl_31, tl_32, tl_33, tl_34, tl_35, tl_36, tl_37, tl_38, tl_39, tl_40, tl_41, tl_42, tl_43, tl_44, tl_45, tl_46, tl_47, tl_48, tl_49, tl_50, tl_51, tl_52, tl_53, tl_54, tl_55, tl_56, tl_57, tl_58, tl_59]) kk
    | some t =>
      have ht := hct t hc
      refine aw_iload_n (aw_d q_Mo_writeLines 8 rfl) rfl rfl ?_
      refine aw_aload_n (aw_d q_Mo_writeLines 9 rfl) rfl rfl rfl ?_
      refine aw_getf (v := .int (nI (xp_v P))) (aw_d q_Mo_writeLines 10 rfl) fL_Mo_126_Mo rfl (gk hP.1.2.1) ?_
      refine aw_icmpN_ge (tgt := 138) (aw_d q_Mo_writeLines 11 rfl) (by decide) (by (have hz1 := hW.1; omega)) (by (have hz1 := hW.1; omega)) (fun c17 => by exfalso; (have hz1 := hW.1; omega)) (fun c17 => ?_)
      refine aw_iload_n (aw_d q_Mo_writeLines 12 rfl) rfl rfl ?_
      refine aw_ifN_le (tgt := 39) (aw_d q_Mo_writeLines 13 rfl) (by decide) (by (have hz1 := hW.1; omega)) (fun c21 => ?_) (fun c21 => ?_)
      · have hse : ∀ c, w_se c v = [] := fun c => if_neg (by omega)
        refine aw_iload_n (aw_d q_Mo_writeLines 21 rfl) rfl rfl ?_
        refine aw_ifN_ge (tgt := 67) (aw_d q_Mo_writeLines 22 rfl) (by decide) (by (have hz1 := hW.1; omega)) (fun c40 => ?_) (fun c40 => by exfalso; (have hz1 := hW.1; omega))
        refine aw_aload_n (aw_d q_Mo_writeLines 35 rfl) rfl rfl rfl ?_
        refine aw_getf (aw_d q_Mo_writeLines 36 rfl) fL_Mo_37_Mo rfl rfl ?_
        refine aw_bipush (v := nI 6) (aw_d q_Mo_writeLines 37 rfl) (by decide) ?_
        refine aw_iload_n (aw_d q_Mo_writeLines 38 rfl) rfl rfl ?_
        refine aw_imulN (aw_d q_Mo_writeLines 39 rfl) ?_
        refine aw_iload_n (aw_d q_Mo_writeLines 40 rfl) rfl rfl ?_
        refine aw_iaddN (aw_d q_Mo_writeLines 41 rfl) ?_
        refine aw_ialdK (w := (nI t)) (aw_d q_Mo_writeLines 42 rfl) rfl (by (have hz1 := hW.1; omega)) rfl (by show S.2 43 (6 * r + v) = _; rw [Nat.mul_comm 6 r, hP.2.2.1 r v hr (by omega), hc]; rfl) ?_
        refine aw_ifN_lt (tgt := 103) (aw_d q_Mo_writeLines 43 rfl) (by decide) (by (have hz1 := hW.1; omega)) (fun c78 => by exfalso; (have hz1 := hW.1; omega)) (fun c78 => ?_)
        refine aw_iload_n (aw_d q_Mo_writeLines 44 rfl) rfl rfl ?_
        refine aw_ifN_eq (tgt := 103) (aw_d q_Mo_writeLines 45 rfl) (by decide) (by (have hz1 := hW.1; omega)) (fun c82 => by exfalso; (have hz1 := hW.1; omega)) (fun c82 => ?_)
        refine aw_aload_n (aw_d q_Mo_writeLines 46 rfl) rfl rfl rfl ?_
        refine aw_aload_n (aw_d q_Mo_writeLines 47 rfl) rfl rfl rfl ?_
        refine aw_getf (aw_d q_Mo_writeLines 48 rfl) fL_Mo_37_Mo rfl rfl ?_
        refine aw_bipush (v := nI 6) (aw_d q_Mo_writeLines 49 rfl) (by decide) ?_
        refine aw_iload_n (aw_d q_Mo_writeLines 50 rfl) rfl rfl ?_
        refine aw_imulN (aw_d q_Mo_writeLines 51 rfl) ?_
        refine aw_iload_n (aw_d q_Mo_writeLines 52 rfl) rfl rfl ?_
        refine aw_iaddN (aw_d q_Mo_writeLines 53 rfl) ?_
        refine aw_ialdK (w := (nI t)) (aw_d q_Mo_writeLines 54 rfl) rfl (by (have hz1 := hW.1; omega)) rfl (by show S.2 43 (6 * r + v) = _; rw [Nat.mul_comm 6 r, hP.2.2.1 r v hr (by omega), hc]; rfl) ?_
        refine cVv (aw_d q_Mo_writeLines 55 rfl) (sp_Mo_bindComma hP hW ht (by (try simp only [List.length_append, List.length_cons, List.length_nil, eB_len]); omega)) vL_Mo_286_Mo rfl rfl rfl rfl rfl rfl ⟨aw_le rfl, aw_le rfl⟩ ?_
        refine aw_goto (tgt := 132) (aw_d q_Mo_writeLines 56 rfl) (by decide) ?_
        refine aw_iinc (aw_d q_Mo_writeLines 76 rfl) rfl (ii1 _) (aw_le rfl) rfl ?_
        refine aw_goto (tgt := 12) (aw_d q_Mo_writeLines 77 rfl) (by decide) ?_
        exact ih (v + 1) _ (by omega) (by rw [← e]; simp [catB, hse, w_ls, w_lc, w_lt, hc, eb_34_0, eb_34_1, eb_34_2, eb_44_0, eb_44_1, eb_44_2, eb_62_1, eb_63_0, eb_63_1, eb_63_2, eb_91_1, eb_123_0, eb_123_1, eb_123_2, eb_8766_2, eb_11298_0, eb_11298_1, eb_11298_2, eb_11387_0, eb_11387_1, eb_11387_2, eb_14939_2, eb_24158_2, eb_24378_2, eb_26430_2, eb_27710_2, eb_2240318_3, eb_2243106_3, eb_6126973_3, eb_6634786_3, eb_6765858_3, eb_7433278_3, eb_7697001_3, eb_644314171_4, eb_644641851_4, eb_1684108389_4, eb_1919246700_4, eb_1953658213_4, eb_163799184187_5, eb_164843319355_5, eb_259668470078_5, eb_422759588965_5, eb_435426304570_5, eb_439721161573_5, eb_474176698914_5, eb_482733079074_5, eb_500136506472_5, eb_512853240933_5, eb_66174531561790_6, eb_66419075146814_6, eb_122511348035134_6, eb_9128563980975394_7, eb_16996725057414462_7, eb_30515246123868524_7, eb_2334097659363883376_8, eb_2339740318023049582_8, eb_2462380988100801893_8, eb_2466419133851988069_8, eb_3180214656604140665_8, eb_3180236698239528033_8, eb_4336793171144239470_8, eb_4336793192635852094_8, eb_4336793196931343713_8, eb_4336799750816022076_8, eb_4336804166361248353_8, eb_4336810746235415668_8, eb_4351156112845270631_8, eb_4352840508821617711_8, eb_4353970888399544684_8, eb_4355655336186377278_8, eb_4355948828431576126_8, eb_4356776833549689452_8, eb_6736589144075891573_8, eb_7286945561811696930_8, eb_7522525835761050223_8, eb_7597120025407222562_8, eb_7814997844241883746_8, eb_7943852967226007922_8, eb_8243121641139499838_8, eb_8304140937415647602_8, eb_8872769000508236346_8, eb_8872784376777351738_8, eb_8898316964945948524_8, tl_0, tl_1, tl_2, tl_3, tl_5, tl_6, tl_7, tl_8, tl_9, tl_10, tl_11, tl_12, tl_13, tl_14, tl_15, tl_16, tl_17, tl_18, tl_19, tl_20, tl_21, tl_22, tl_23, tl_24, tl_25, tl_26, tl_27, tl_28, tl_29, tl_30, tl_31, tl_32, tl_33, tl_34, tl_35, tl_36, tl_37, tl_38, tl_39, tl_40, tl_41, tl_42, tl_43, tl_44, tl_45, tl_46, tl_47, tl_48, tl_49, tl_50, tl_51, tl_52, tl_53, tl_54, tl_55, tl_56, tl_57, tl_58, tl_59]) kk
      · have hse : ∀ c, w_se c v = [c] := fun c => if_pos c21
        refine aw_aload_n (aw_d q_Mo_writeLines 14 rfl) rfl rfl rfl ?_
        refine aw_iload_n (aw_d q_Mo_writeLines 15 rfl) rfl rfl ?_
        refine aw_ifN_eq (tgt := 34) (aw_d q_Mo_writeLines 16 rfl) (by decide) (by (have hz1 := hW.1; omega)) (fun c26 => by exfalso; (have hz1 := hW.1; omega)) (fun c26 => ?_)
        refine aw_bipush (v := nI 44) (aw_d q_Mo_writeLines 17 rfl) (by decide) ?_
        refine aw_goto (tgt := 36) (aw_d q_Mo_writeLines 18 rfl) (by decide) ?_
        refine cVv (aw_d q_Mo_writeLines 20 rfl) (sp_put1 (by (try simp only [List.length_append, List.length_cons, List.length_nil, eB_len]); omega)) vL_Mo_135_Mo rfl rfl rfl rfl rfl rfl ⟨aw_le rfl, aw_le rfl⟩ ?_
        refine aw_iload_n (aw_d q_Mo_writeLines 21 rfl) rfl rfl ?_
        refine aw_ifN_ge (tgt := 67) (aw_d q_Mo_writeLines 22 rfl) (by decide) (by (have hz1 := hW.1; omega)) (fun c40 => ?_) (fun c40 => by exfalso; (have hz1 := hW.1; omega))
        refine aw_aload_n (aw_d q_Mo_writeLines 35 rfl) rfl rfl rfl ?_
        refine aw_getf (aw_d q_Mo_writeLines 36 rfl) fL_Mo_37_Mo rfl rfl ?_
        refine aw_bipush (v := nI 6) (aw_d q_Mo_writeLines 37 rfl) (by decide) ?_
        refine aw_iload_n (aw_d q_Mo_writeLines 38 rfl) rfl rfl ?_
        refine aw_imulN (aw_d q_Mo_writeLines 39 rfl) ?_
        refine aw_iload_n (aw_d q_Mo_writeLines 40 rfl) rfl rfl ?_
        refine aw_iaddN (aw_d q_Mo_writeLines 41 rfl) ?_
        refine aw_ialdK (w := (nI t)) (aw_d q_Mo_writeLines 42 rfl) rfl (by (have hz1 := hW.1; omega)) rfl (by show S.2 43 (6 * r + v) = _; rw [Nat.mul_comm 6 r, hP.2.2.1 r v hr (by omega), hc]; rfl) ?_
        refine aw_ifN_lt (tgt := 103) (aw_d q_Mo_writeLines 43 rfl) (by decide) (by (have hz1 := hW.1; omega)) (fun c78 => by exfalso; (have hz1 := hW.1; omega)) (fun c78 => ?_)
        refine aw_iload_n (aw_d q_Mo_writeLines 44 rfl) rfl rfl ?_
        refine aw_ifN_eq (tgt := 103) (aw_d q_Mo_writeLines 45 rfl) (by decide) (by (have hz1 := hW.1; omega)) (fun c82 => by exfalso; (have hz1 := hW.1; omega)) (fun c82 => ?_)
        refine aw_aload_n (aw_d q_Mo_writeLines 46 rfl) rfl rfl rfl ?_
        refine aw_aload_n (aw_d q_Mo_writeLines 47 rfl) rfl rfl rfl ?_
        refine aw_getf (aw_d q_Mo_writeLines 48 rfl) fL_Mo_37_Mo rfl rfl ?_
        refine aw_bipush (v := nI 6) (aw_d q_Mo_writeLines 49 rfl) (by decide) ?_
        refine aw_iload_n (aw_d q_Mo_writeLines 50 rfl) rfl rfl ?_
        refine aw_imulN (aw_d q_Mo_writeLines 51 rfl) ?_
        refine aw_iload_n (aw_d q_Mo_writeLines 52 rfl) rfl rfl ?_
        refine aw_iaddN (aw_d q_Mo_writeLines 53 rfl) ?_
        refine aw_ialdK (w := (nI t)) (aw_d q_Mo_writeLines 54 rfl) rfl (by (have hz1 := hW.1; omega)) rfl (by show S.2 43 (6 * r + v) = _; rw [Nat.mul_comm 6 r, hP.2.2.1 r v hr (by omega), hc]; rfl) ?_
        refine cVv (aw_d q_Mo_writeLines 55 rfl) (sp_Mo_bindComma hP hW ht (by (try simp only [List.length_append, List.length_cons, List.length_nil, eB_len]); omega)) vL_Mo_286_Mo rfl rfl rfl rfl rfl rfl ⟨aw_le rfl, aw_le rfl⟩ ?_
        refine aw_goto (tgt := 132) (aw_d q_Mo_writeLines 56 rfl) (by decide) ?_
        refine aw_iinc (aw_d q_Mo_writeLines 76 rfl) rfl (ii1 _) (aw_le rfl) rfl ?_
        refine aw_goto (tgt := 12) (aw_d q_Mo_writeLines 77 rfl) (by decide) ?_
        exact ih (v + 1) _ (by omega) (by rw [← e]; simp [catB, hse, w_ls, w_lc, w_lt, hc, eb_34_0, eb_34_1, eb_34_2, eb_44_0, eb_44_1, eb_44_2, eb_62_1, eb_63_0, eb_63_1, eb_63_2, eb_91_1, eb_123_0, eb_123_1, eb_123_2, eb_8766_2, eb_11298_0, eb_11298_1, eb_11298_2, eb_11387_0, eb_11387_1, eb_11387_2, eb_14939_2, eb_24158_2, eb_24378_2, eb_26430_2, eb_27710_2, eb_2240318_3, eb_2243106_3, eb_6126973_3, eb_6634786_3, eb_6765858_3, eb_7433278_3, eb_7697001_3, eb_644314171_4, eb_644641851_4, eb_1684108389_4, eb_1919246700_4, eb_1953658213_4, eb_163799184187_5, eb_164843319355_5, eb_259668470078_5, eb_422759588965_5, eb_435426304570_5, eb_439721161573_5, eb_474176698914_5, eb_482733079074_5, eb_500136506472_5, eb_512853240933_5, eb_66174531561790_6, eb_66419075146814_6, eb_122511348035134_6, eb_9128563980975394_7, eb_16996725057414462_7, eb_30515246123868524_7, eb_2334097659363883376_8, eb_2339740318023049582_8, eb_2462380988100801893_8, eb_2466419133851988069_8, eb_3180214656604140665_8, eb_3180236698239528033_8, eb_4336793171144239470_8, eb_4336793192635852094_8, eb_4336793196931343713_8, eb_4336799750816022076_8, eb_4336804166361248353_8, eb_4336810746235415668_8, eb_4351156112845270631_8, eb_4352840508821617711_8, eb_4353970888399544684_8, eb_4355655336186377278_8, eb_4355948828431576126_8, eb_4356776833549689452_8, eb_6736589144075891573_8, eb_7286945561811696930_8, eb_7522525835761050223_8, eb_7597120025407222562_8, eb_7814997844241883746_8, eb_7943852967226007922_8, eb_8243121641139499838_8, eb_8304140937415647602_8, eb_8872769000508236346_8, eb_8872784376777351738_8, eb_8898316964945948524_8, tl_0, tl_1, tl_2, tl_3, tl_5, tl_6, tl_7, tl_8, tl_9, tl_10, tl_11, tl_12, tl_13, tl_14, tl_15, tl_16, tl_17, tl_18, tl_19, tl_20, tl_21, tl_22, tl_23, tl_24, tl_25, tl_26, tl_27, tl_28, tl_29, tl_30, tl_31, tl_32, tl_33, tl_34, tl_35, tl_36, tl_37, tl_38, tl_39, tl_40, tl_41, tl_42, tl_43, tl_44, tl_45, tl_46, tl_47, tl_48, tl_49, tl_50, tl_51, tl_52, tl_53, tl_54, tl_55, tl_56, tl_57, tl_58, tl_59]) kk
set_option maxRecDepth 20000 in
theorem lp_wL2_1 {g : aw_G} {S : aw_S} {O : List Int32} {P : xp_T} (hP : xp_M S P) (hW : xp_wd P) (hF : (O ++ w_l true P).length + 10000 < 2147483648) : ∀ (m r : Nat) (Q : List Int32) (x3 : Option Value), m + r = xp_r P → Q ++ catB (w_lr true P) m r = O ++ w_l true P → AW g M_Mo_writeLines (aw_rm 4 90 0 0) (aw_F g 0 0 (fun r1 h => r1 = none ∧ h = HP (MS S (O ++ w_l true P)))) 2 [some (.ref 33), some (.int (nI 1)), some (.int (nI r)), x3] [] (HP (MS S Q)) 0 0 := by
  intro m
  induction m with
  | zero =>
    intro r Q x3 hk e
    have hF2 := hF
    rw [List.length_append] at hF2
    have hq := congrArg List.length e
    simp only [List.length_append] at hq
    refine aw_iload_n (aw_d q_Mo_writeLines 2 rfl) rfl rfl ?_
    refine aw_aload_n (aw_d q_Mo_writeLines 3 rfl) rfl rfl rfl ?_
    refine aw_getf (v := .int (nI (xp_r P))) (aw_d q_Mo_writeLines 4 rfl) fL_Mo_129_Mo rfl (gk hP.1.2.2) ?_
    refine aw_icmpN_ge (tgt := 160) (aw_d q_Mo_writeLines 5 rfl) (by decide) (by (have hz1 := hW.1; omega)) (by (have hz1 := hW.1; omega)) (fun c7 => ?_) (fun c7 => by exfalso; (have hz1 := hW.1; omega))
    exact aw_vret (aw_d q_Mo_writeLines 88 rfl) rfl (⟨rfl, by rw [← e]; simp [catB, w_se, eb_34_0, eb_34_1, eb_34_2, eb_44_0, eb_44_1, eb_44_2, eb_62_1, eb_63_0, eb_63_1, eb_63_2, eb_91_1, eb_123_0, eb_123_1, eb_123_2, eb_8766_2, eb_11298_0, eb_11298_1, eb_11298_2, eb_11387_0, eb_11387_1, eb_11387_2, eb_14939_2, eb_24158_2, eb_24378_2, eb_26430_2, eb_27710_2, eb_2240318_3, eb_2243106_3, eb_6126973_3, eb_6634786_3, eb_6765858_3, eb_7433278_3, eb_7697001_3, eb_644314171_4, eb_644641851_4, eb_1684108389_4, eb_1919246700_4, eb_1953658213_4, eb_163799184187_5, eb_164843319355_5, eb_259668470078_5, eb_422759588965_5, eb_435426304570_5, eb_439721161573_5, eb_474176698914_5, eb_482733079074_5, eb_500136506472_5, eb_512853240933_5, eb_66174531561790_6, eb_66419075146814_6, eb_122511348035134_6, eb_9128563980975394_7, eb_16996725057414462_7, eb_30515246123868524_7, eb_2334097659363883376_8, eb_2339740318023049582_8, eb_2462380988100801893_8, eb_2466419133851988069_8, eb_3180214656604140665_8, eb_3180236698239528033_8, eb_4336793171144239470_8, eb_4336793192635852094_8, eb_4336793196931343713_8, eb_4336799750816022076_8, eb_4336804166361248353_8, eb_4336810746235415668_8, eb_4351156112845270631_8, eb_4352840508821617711_8, eb_4353970888399544684_8, eb_4355655336186377278_8, eb_4355948828431576126_8, eb_4356776833549689452_8, eb_6736589144075891573_8, eb_7286945561811696930_8, eb_7522525835761050223_8, eb_7597120025407222562_8, eb_7814997844241883746_8, eb_7943852967226007922_8, eb_8243121641139499838_8, eb_8304140937415647602_8, eb_8872769000508236346_8, eb_8872784376777351738_8, eb_8898316964945948524_8, tl_0, tl_1, tl_2, tl_3, tl_5, tl_6, tl_7, tl_8, tl_9, tl_10, tl_11, tl_12, tl_13, tl_14, tl_15, tl_16, tl_17, tl_18, tl_19, tl_20, tl_21, tl_22, tl_23, tl_24, tl_25, tl_26, tl_27, tl_28, tl_29, tl_30, tl_31, tl_32, tl_33, tl_34, tl_35, tl_36, tl_37, tl_38, tl_39, tl_40, tl_41, tl_42, tl_43, tl_44, tl_45, tl_46, tl_47, tl_48, tl_49, tl_50, tl_51, tl_52, tl_53, tl_54, tl_55, tl_56, tl_57, tl_58, tl_59]⟩)
  | succ m ih =>
    intro r Q x3 hk e
    have hF2 := hF
    rw [List.length_append] at hF2
    have hq := congrArg List.length e
    simp only [catB, List.length_append, List.length_cons, List.length_nil, w_lr] at hq
    refine aw_iload_n (aw_d q_Mo_writeLines 2 rfl) rfl rfl ?_
    refine aw_aload_n (aw_d q_Mo_writeLines 3 rfl) rfl rfl rfl ?_
    refine aw_getf (v := .int (nI (xp_r P))) (aw_d q_Mo_writeLines 4 rfl) fL_Mo_129_Mo rfl (gk hP.1.2.2) ?_
    refine aw_icmpN_ge (tgt := 160) (aw_d q_Mo_writeLines 5 rfl) (by decide) (by (have hz1 := hW.1; omega)) (by (have hz1 := hW.1; omega)) (fun c7 => by exfalso; (have hz1 := hW.1; omega)) (fun c7 => ?_)
    refine aw_iconst (v := nI 0) (aw_d q_Mo_writeLines 6 rfl) (by decide) ?_
    refine aw_istore_n (aw_d q_Mo_writeLines 7 rfl) rfl (aw_le rfl) rfl ?_
    refine AW.to (lp_wLr_1 hP hW (r := r) (by omega) (by (try simp only [List.length_append, List.length_cons, List.length_nil, eB_len]); omega) (xp_v P) 0 Q (by omega) rfl ?_) rfl rfl rfl rfl
    refine aw_iload_n (aw_d q_Mo_writeLines 78 rfl) rfl rfl ?_
    refine aw_ifN_eq (tgt := 148) (aw_d q_Mo_writeLines 79 rfl) (by decide) (by (have hz1 := hW.1; omega)) (fun c139 => by exfalso; (have hz1 := hW.1; omega)) (fun c139 => ?_)
    refine aw_aload_n (aw_d q_Mo_writeLines 80 rfl) rfl rfl rfl ?_
    refine aw_bipush (v := nI 13) (aw_d q_Mo_writeLines 81 rfl) (by decide) ?_
    refine cVv (aw_d q_Mo_writeLines 82 rfl) (sp_put1 (by (try simp only [List.length_append, List.length_cons, List.length_nil, eB_len]); omega)) vL_Mo_135_Mo rfl rfl rfl rfl rfl rfl ⟨aw_le rfl, aw_le rfl⟩ ?_
    refine aw_aload_n (aw_d q_Mo_writeLines 83 rfl) rfl rfl rfl ?_
    refine aw_bipush (v := nI 10) (aw_d q_Mo_writeLines 84 rfl) (by decide) ?_
    refine cVv (aw_d q_Mo_writeLines 85 rfl) (sp_put1 (by (try simp only [List.length_append, List.length_cons, List.length_nil, eB_len]); omega)) vL_Mo_135_Mo rfl rfl rfl rfl rfl rfl ⟨aw_le rfl, aw_le rfl⟩ ?_
    refine aw_iinc (aw_d q_Mo_writeLines 86 rfl) rfl (ii1 _) (aw_le rfl) rfl ?_
    refine aw_goto (tgt := 2) (aw_d q_Mo_writeLines 87 rfl) (by decide) ?_
    exact ih (r + 1) _ _ (by omega) (by rw [← e]; simp [catB, w_lr, w_le, eb_34_0, eb_34_1, eb_34_2, eb_44_0, eb_44_1, eb_44_2, eb_62_1, eb_63_0, eb_63_1, eb_63_2, eb_91_1, eb_123_0, eb_123_1, eb_123_2, eb_8766_2, eb_11298_0, eb_11298_1, eb_11298_2, eb_11387_0, eb_11387_1, eb_11387_2, eb_14939_2, eb_24158_2, eb_24378_2, eb_26430_2, eb_27710_2, eb_2240318_3, eb_2243106_3, eb_6126973_3, eb_6634786_3, eb_6765858_3, eb_7433278_3, eb_7697001_3, eb_644314171_4, eb_644641851_4, eb_1684108389_4, eb_1919246700_4, eb_1953658213_4, eb_163799184187_5, eb_164843319355_5, eb_259668470078_5, eb_422759588965_5, eb_435426304570_5, eb_439721161573_5, eb_474176698914_5, eb_482733079074_5, eb_500136506472_5, eb_512853240933_5, eb_66174531561790_6, eb_66419075146814_6, eb_122511348035134_6, eb_9128563980975394_7, eb_16996725057414462_7, eb_30515246123868524_7, eb_2334097659363883376_8, eb_2339740318023049582_8, eb_2462380988100801893_8, eb_2466419133851988069_8, eb_3180214656604140665_8, eb_3180236698239528033_8, eb_4336793171144239470_8, eb_4336793192635852094_8, eb_4336793196931343713_8, eb_4336799750816022076_8, eb_4336804166361248353_8, eb_4336810746235415668_8, eb_4351156112845270631_8, eb_4352840508821617711_8, eb_4353970888399544684_8, eb_4355655336186377278_8, eb_4355948828431576126_8, eb_4356776833549689452_8, eb_6736589144075891573_8, eb_7286945561811696930_8, eb_7522525835761050223_8, eb_7597120025407222562_8, eb_7814997844241883746_8, eb_7943852967226007922_8, eb_8243121641139499838_8, eb_8304140937415647602_8, eb_8872769000508236346_8, eb_8872784376777351738_8, eb_8898316964945948524_8, tl_0, tl_1, tl_2, tl_3, tl_5, tl_6, tl_7, tl_8, tl_9, tl_10, tl_11, tl_12, tl_13, tl_14, tl_15, tl_16, tl_17, tl_18, tl_19, tl_20, tl_21, tl_22, tl_23, tl_24, tl_25, tl_26, tl_27, tl_28, tl_29, tl_30, tl_31, tl_32, tl_33, tl_34, tl_35, tl_36, tl_37, tl_38, tl_39, tl_40, tl_41, tl_42, tl_43, tl_44, tl_45, tl_46, tl_47, tl_48, tl_49, tl_50, tl_51, tl_52, tl_53, tl_54, tl_55, tl_56, tl_57, tl_58, tl_59])
set_option maxRecDepth 20000 in
theorem sp_writeLines_1 {g : aw_G} {S : aw_S} {O : List Int32} {P : xp_T} (hP : xp_M S P) (hW : xp_wd P) (hF : (O ++ w_l true P).length + 10000 < 2147483648) : Sp g M_Mo_writeLines 4 90 0 0 [.ref 33, .int (nI 1)] (HP (MS S O)) (fun r1 h => r1 = none ∧ h = HP (MS S (O ++ w_l true P))) := by
  refine Sp.of rfl (aw_le rfl) ?_
  have hq := hF
  simp only [w_l, List.length_append] at hq
  refine aw_iconst (v := (-1)) (aw_d q_Mo_writeLines 0 rfl) (by decide) ?_
  refine aw_istore_n (aw_d q_Mo_writeLines 1 rfl) rfl (aw_le rfl) rfl ?_
  refine aw_iload_n (aw_d q_Mo_writeLines 2 rfl) rfl rfl ?_
  refine aw_aload_n (aw_d q_Mo_writeLines 3 rfl) rfl rfl rfl ?_
  refine aw_getf (v := .int (nI (xp_r P))) (aw_d q_Mo_writeLines 4 rfl) fL_Mo_129_Mo rfl (gk hP.1.2.2) ?_
  refine aw_icmpI_ge (tgt := 160) (aw_d q_Mo_writeLines 5 rfl) (by decide) (by (have hz1 := hW.1; omega)) (fun c7 => by have h1 : (-1 : Int32).toInt = -1 := rfl; omega) (fun c7 => ?_)
  refine aw_iconst (v := nI 0) (aw_d q_Mo_writeLines 6 rfl) (by decide) ?_
  refine aw_istore_n (aw_d q_Mo_writeLines 7 rfl) rfl (aw_le rfl) rfl ?_
  refine AW.to (lp_wLh_1 hP hW (by (try simp only [List.length_append, List.length_cons, List.length_nil, eB_len]); omega) (xp_v P) 0 O (by omega) rfl ?_) rfl rfl rfl rfl
  refine aw_iload_n (aw_d q_Mo_writeLines 78 rfl) rfl rfl ?_
  refine aw_ifN_eq (tgt := 148) (aw_d q_Mo_writeLines 79 rfl) (by decide) (by (have hz1 := hW.1; omega)) (fun c139 => by exfalso; (have hz1 := hW.1; omega)) (fun c139 => ?_)
  refine aw_aload_n (aw_d q_Mo_writeLines 80 rfl) rfl rfl rfl ?_
  refine aw_bipush (v := nI 13) (aw_d q_Mo_writeLines 81 rfl) (by decide) ?_
  refine cVv (aw_d q_Mo_writeLines 82 rfl) (sp_put1 (by (try simp only [List.length_append, List.length_cons, List.length_nil, eB_len]); omega)) vL_Mo_135_Mo rfl rfl rfl rfl rfl rfl ⟨aw_le rfl, aw_le rfl⟩ ?_
  refine aw_aload_n (aw_d q_Mo_writeLines 83 rfl) rfl rfl rfl ?_
  refine aw_bipush (v := nI 10) (aw_d q_Mo_writeLines 84 rfl) (by decide) ?_
  refine cVv (aw_d q_Mo_writeLines 85 rfl) (sp_put1 (by (try simp only [List.length_append, List.length_cons, List.length_nil, eB_len]); omega)) vL_Mo_135_Mo rfl rfl rfl rfl rfl rfl ⟨aw_le rfl, aw_le rfl⟩ ?_
  refine aw_iinc (v := nI 0) (aw_d q_Mo_writeLines 86 rfl) rfl (by decide) (aw_le rfl) rfl ?_
  refine aw_goto (tgt := 2) (aw_d q_Mo_writeLines 87 rfl) (by decide) ?_
  exact lp_wL2_1 hP hW hF (xp_r P) 0 _ _ (by omega) (by simp [w_l, w_le, tl_0, tl_1, tl_2, tl_3, tl_5, tl_6, tl_7, tl_8, tl_9, tl_10, tl_11, tl_12, tl_13, tl_14, tl_15, tl_16, tl_17, tl_18, tl_19, tl_20, tl_21, tl_22, tl_23, tl_24, tl_25, tl_26, tl_27, tl_28, tl_29, tl_30, tl_31, tl_32, tl_33, tl_34, tl_35, tl_36, tl_37, tl_38, tl_39, tl_40, tl_41, tl_42, tl_43, tl_44, tl_45, tl_46, tl_47, tl_48, tl_49, tl_50, tl_51, tl_52, tl_53, tl_54, tl_55, tl_56, tl_57, tl_58, tl_59])
