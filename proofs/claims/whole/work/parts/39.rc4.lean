theorem mu1 {T : Nat → Int32} {p : Nat} {b : Int32} {L : List Int32} (hL : L = [b]) (h : (T p).toInt = b.toInt) : mu T L p = .ok (p + 1) := by rw [hL, mu, if_pos h, mu]
set_option maxRecDepth 20000 in
theorem sp_parseValue {g : aw_G} {S : aw_S} {n : Nat} {T : Nat → Int32} {p : Nat} {q w l k e z : Int32} {X : Nat → Int32} (hc : TPc S n T) (hp : p ≤ n) : Sp g M_Js_parseValue 6 134 0 0 [.ref 29] (HP (QC S (nI p) q w l k e z X)) (CE S (jv T n p) (fun (y : Nat × Nat × List Int32) h => (∃ w l, h = HP (QC S (nI y.1) q w l (nI y.2.1) (nI 0) (nI y.2.2.length) (XA y.2.2 X))) ∧ txOK n (y.1, y.2.2) ∧ y.2.1 ≤ 2 ∧ okL y.2.1 y.2.2 = true)) := by
  refine Sp.of rfl (aw_le rfl) ?_
  refine aw_aload_n (aw_d q_Js_parseValue 0 rfl) rfl rfl rfl ?_
  refine aw_getf (aw_d q_Js_parseValue 1 rfl) fL_Js_9_Js rfl rfl ?_
  refine aw_ldcS (aw_d q_Js_parseValue 2 rfl) tL_Js_193 ?_
  refine cV (aw_d q_Js_parseValue 3 rfl) (sp_ml hc hp (j := 66) (by decide)) vL_Js_101_Sc rfl rfl rfl rfl rfl rfl ⟨aw_le rfl, aw_le rfl⟩ (fun r6 h6 hp6 => ?_)
  cases hx6 : ml T n (tx 66) p with
  | error u6 =>
    rw [hx6] at hp6
    obtain ⟨rfl, hf6⟩ := hp6
    refine aw_ifN_eq (tgt := 22) (aw_d q_Js_parseValue 4 rfl) (by decide) (by omega) (fun c9 => ?_) (fun c9 => by exfalso; omega)
    refine aw_iconst (v := nI 0) (aw_d q_Js_parseValue 9 rfl) (by decide) ?_
    exact aw_zret (aw_d q_Js_parseValue 10 rfl) rfl (rfl) (by simp only [jv, okT, bd_ok, bd_er, if_true, if_false, eq_self, ↓reduceIte, hx6]; exact CE_er hf6)
  | ok p6 =>
    rw [hx6] at hp6
    obtain ⟨rfl, rfl, hp_6⟩ := hp6
    refine aw_ifN_eq (tgt := 22) (aw_d q_Js_parseValue 4 rfl) (by decide) (by omega) (fun c9 => by exfalso; omega) (fun c9 => ?_)
    refine aw_aload_n (aw_d q_Js_parseValue 5 rfl) rfl rfl rfl ?_
    refine aw_getf (aw_d q_Js_parseValue 6 rfl) fL_Js_9_Js rfl rfl ?_
    refine cV (aw_d q_Js_parseValue 7 rfl) (sp_kindWord hc hp_6) vL_Js_195_Sc rfl rfl rfl rfl rfl rfl ⟨aw_le rfl, aw_le rfl⟩ (fun r16 h16 hp16 => ?_)
    cases hx16 : kw T n p6 with
    | error u16 =>
      rw [hx16] at hp16
      obtain ⟨rfl, hf16⟩ := hp16
      refine aw_ifN_ne (tgt := 24) (aw_d q_Js_parseValue 8 rfl) (by decide) (by omega) (fun c19 => by exfalso; omega) (fun c19 => ?_)
      refine aw_iconst (v := nI 0) (aw_d q_Js_parseValue 9 rfl) (by decide) ?_
      exact aw_zret (aw_d q_Js_parseValue 10 rfl) rfl (rfl) (by simp only [jv, okT, bd_ok, bd_er, if_true, if_false, eq_self, ↓reduceIte, hx6, hx16]; exact CE_er hf16)
    | ok y16 =>
      rw [hx16] at hp16
      obtain ⟨rfl, ⟨w16, l16, rfl⟩, hy16⟩ := hp16
      refine aw_ifN_ne (tgt := 24) (aw_d q_Js_parseValue 8 rfl) (by decide) (by omega) (fun c19 => ?_) (fun c19 => by exfalso; omega)
      refine aw_aload_n (aw_d q_Js_parseValue 11 rfl) rfl rfl rfl ?_
      refine aw_getf (aw_d q_Js_parseValue 12 rfl) fL_Js_9_Js rfl rfl ?_
      refine aw_ldcS (aw_d q_Js_parseValue 13 rfl) tL_Js_198 ?_
      refine cV (aw_d q_Js_parseValue 14 rfl) (sp_ml hc hy16.1 (j := 70) (by decide)) vL_Js_101_Sc rfl rfl rfl rfl rfl rfl ⟨aw_le rfl, aw_le rfl⟩ (fun r30 h30 hp30 => ?_)
      cases hx30 : ml T n (tx 70) y16.1 with
      | error u30 =>
        rw [hx30] at hp30
        obtain ⟨rfl, hf30⟩ := hp30
        refine aw_ifN_ne (tgt := 38) (aw_d q_Js_parseValue 15 rfl) (by decide) (by omega) (fun c33 => by exfalso; omega) (fun c33 => ?_)
        refine aw_iconst (v := nI 0) (aw_d q_Js_parseValue 16 rfl) (by decide) ?_
        exact aw_zret (aw_d q_Js_parseValue 17 rfl) rfl (rfl) (by simp only [jv, okT, bd_ok, bd_er, if_true, if_false, eq_self, ↓reduceIte, hx6, hx16, hx30]; exact CE_er hf30)
      | ok p30 =>
        rw [hx30] at hp30
        obtain ⟨rfl, rfl, hp_30⟩ := hp30
        refine aw_ifN_ne (tgt := 38) (aw_d q_Js_parseValue 15 rfl) (by decide) (by omega) (fun c33 => ?_) (fun c33 => by exfalso; omega)
        refine aw_aload_n (aw_d q_Js_parseValue 18 rfl) rfl rfl rfl ?_
        refine aw_getf (aw_d q_Js_parseValue 19 rfl) fL_Js_9_Js rfl rfl ?_
        refine aw_getf (v := .int (nI (p30))) (aw_d q_Js_parseValue 20 rfl) fL_Js_200_Sc rfl (gk rfl) ?_
        refine aw_istore_n (aw_d q_Js_parseValue 21 rfl) rfl (aw_le rfl) rfl ?_
        refine aw_aload_n (aw_d q_Js_parseValue 22 rfl) rfl rfl rfl ?_
        refine aw_getf (aw_d q_Js_parseValue 23 rfl) fL_Js_9_Js rfl rfl ?_
        refine aw_iconst (v := nI 1) (aw_d q_Js_parseValue 24 rfl) (by decide) ?_
        refine cV (aw_d q_Js_parseValue 25 rfl) (sp_bt hc hp_30 (sl := true)) vL_Js_203_Sc rfl rfl rfl rfl rfl rfl ⟨aw_le rfl, aw_le rfl⟩ (fun r51 h51 hp51 => ?_)
        cases hx51 : bt T true 21 p30 [] with
        | error u51 =>
          rw [hx51] at hp51
          obtain ⟨rfl, hf51⟩ := hp51
          refine aw_ifN_ne (tgt := 59) (aw_d q_Js_parseValue 26 rfl) (by decide) (by omega) (fun c54 => by exfalso; omega) (fun c54 => ?_)
          refine aw_iconst (v := nI 0) (aw_d q_Js_parseValue 27 rfl) (by decide) ?_
          exact aw_zret (aw_d q_Js_parseValue 28 rfl) rfl (rfl) (by simp only [jv, okT, bd_ok, bd_er, if_true, if_false, eq_self, ↓reduceIte, hx6, hx16, hx30, hx51]; exact CE_er hf51)
        | ok y51 =>
          rw [hx51] at hp51
          obtain ⟨rfl, rfl, hy51⟩ := hp51
          refine aw_ifN_ne (tgt := 59) (aw_d q_Js_parseValue 26 rfl) (by decide) (by omega) (fun c54 => ?_) (fun c54 => by exfalso; omega)
          refine aw_aload_n (aw_d q_Js_parseValue 29 rfl) rfl rfl rfl ?_
          refine aw_getf (aw_d q_Js_parseValue 30 rfl) fL_Js_9_Js rfl rfl ?_
          refine aw_getf (aw_d q_Js_parseValue 31 rfl) fL_Js_179_Sc rfl rfl ?_
          refine aw_aload_n (aw_d q_Js_parseValue 32 rfl) rfl rfl rfl ?_
          refine aw_getf (aw_d q_Js_parseValue 33 rfl) fL_Js_9_Js rfl rfl ?_
          refine aw_getf (v := .int (nI (y16.2))) (aw_d q_Js_parseValue 34 rfl) fL_Js_173_Sc rfl (gk rfl) ?_
          refine cVr (aw_d q_Js_parseValue 35 rfl) (sp_isOfL hy51.2.1 (by omega)) vL_Js_207_Tx rfl rfl rfl rfl rfl rfl ⟨aw_le rfl, aw_le rfl⟩ ?_
          refine aw_ifB_ne (tgt := 90) (aw_d q_Js_parseValue 36 rfl) (by decide) (fun c76 => ?_) (fun c76 => ?_)
          · refine aw_iconst (v := nI 1) (aw_d q_Js_parseValue 42 rfl) (by decide) ?_
            refine aw_goto (tgt := 95) (aw_d q_Js_parseValue 43 rfl) (by decide) ?_
            exact aw_zret (aw_d q_Js_parseValue 45 rfl) rfl (rfl) (by simp only [jv, okT, bd_ok, bd_er, if_true, if_false, eq_self, ↓reduceIte, hx6, hx16, hx30, hx51, c76]; exact CE_ok ⟨⟨_, _, rfl⟩, hy51, hy16.2, c76⟩)
          · refine aw_aload_n (aw_d q_Js_parseValue 37 rfl) rfl rfl rfl ?_
            refine aw_getf (aw_d q_Js_parseValue 38 rfl) fL_Js_9_Js rfl rfl ?_
            refine aw_iload_n (aw_d q_Js_parseValue 39 rfl) rfl rfl ?_
            refine cVr (aw_d q_Js_parseValue 40 rfl) (sp_failAt) vL_Js_212_Sc rfl rfl rfl rfl rfl rfl ⟨aw_le rfl, aw_le rfl⟩ ?_
            refine aw_ifN_eq (tgt := 94) (aw_d q_Js_parseValue 41 rfl) (by decide) (by omega) (fun c87 => ?_) (fun c87 => by exfalso; omega)
            refine aw_iconst (v := nI 0) (aw_d q_Js_parseValue 44 rfl) (by decide) ?_
            exact aw_zret (aw_d q_Js_parseValue 45 rfl) rfl (rfl) (by simp only [jv, okT, bd_ok, bd_er, if_true, if_false, eq_self, ↓reduceIte, hx6, hx16, hx30, hx51, c76]; exact CE_er CF_i)
theorem jx_no {T : Nat → Int32} {n kd p : Nat} {L : List Int32} (h : ¬ (kd = 2 ∧ (T (sk T n p)).toInt = 44)) : jx T n kd p L = bd (mu T (tx 73) (sk T n p)) (fun p => .ok (p, kd, 0, L)) := if_neg h
theorem jx_3 {T : Nat → Int32} {n kd p a : Nat} {L : List Int32} (h1 : kd = 2) (h2 : (T (sk T n p)).toInt = 44) (h3 : ml T n (tx 61) (sk T n p + 1) = .ok a) (h4 : (T a).toInt = 120) : jx T n kd p L = bd (ml T n (tx 71) a) (fun p => bd (ew T n 3 p) (fun y => bd (ml T n (tx 62) y.1) (fun p => bd (mu T (tx 73) p) (fun p => .ok (p, 3, y.2, L))))) := by
  rw [jx, if_pos ⟨h1, h2⟩, h3, bd_ok, if_pos h4, jy, bd_bd]
  simp only [bd_bd, bd_ok, ↓reduceIte]
theorem jx_4 {T : Nat → Int32} {n kd p a : Nat} {L : List Int32} (h1 : kd = 2) (h2 : (T (sk T n p)).toInt = 44) (h3 : ml T n (tx 61) (sk T n p + 1) = .ok a) (h4 : ¬ (T a).toInt = 120) : jx T n kd p L = bd (ml T n (tx 72) a) (fun p => bd (ew T n 4 p) (fun y => bd (ml T n (tx 62) y.1) (fun p => bd (mu T (tx 73) p) (fun p => .ok (p, 4, y.2, L))))) := by
  rw [jx, if_pos ⟨h1, h2⟩, h3, bd_ok, if_neg h4, jy, bd_bd]
  simp only [bd_bd, bd_ok, show ¬ (4 = 3) by decide, if_false]
theorem jx_e {T : Nat → Int32} {n kd p u : Nat} {L : List Int32} (h1 : kd = 2) (h2 : (T (sk T n p)).toInt = 44) (h3 : ml T n (tx 61) (sk T n p + 1) = .error u) : jx T n kd p L = .error u := by
  rw [jx, if_pos ⟨h1, h2⟩, h3, bd_er]
set_option maxRecDepth 20000 in
theorem sp_parseExtra {g : aw_G} {S : aw_S} {n : Nat} {T : Nat → Int32} {p kd : Nat} {q w l z : Int32} {X : Nat → Int32} {L : List Int32} (hkd : kd ≤ 2) (hc : TPc S n T) (hp : p ≤ n) : Sp g M_Js_parseExtra 6 129 0 0 [.ref 29] (HP (QC S (nI p) q w l (nI kd) (nI 0) z X)) (CE S (jx T n kd p L) (fun (y : it_T) h => (∃ w l, h = HP (QC S (nI y.1) q w l (nI y.2.1) (nI y.2.2.1) z X)) ∧ y.1 ≤ n ∧ y.2.1 ≤ 4 ∧ y.2.2.1 < 676 ∧ (y.2.1 = 4 → y.2.2.1 < 4) ∧ (y.2.1 < 3 → y.2.2.1 = 0) ∧ y.2.2.2 = L ∧ (y.2.1 = kd ∨ 2 < y.2.1))) := by
  refine Sp.of rfl (aw_le rfl) ?_
  refine aw_aload_n (aw_d q_Js_parseExtra 0 rfl) rfl rfl rfl ?_
  refine aw_getf (aw_d q_Js_parseExtra 1 rfl) fL_Js_9_Js rfl rfl ?_
  refine cVv (aw_d q_Js_parseExtra 2 rfl) (sp_skip hc hp) vL_Js_149_Sc rfl rfl rfl rfl rfl rfl ⟨aw_le rfl, aw_le rfl⟩ ?_
  refine aw_aload_n (aw_d q_Js_parseExtra 3 rfl) rfl rfl rfl ?_
  refine aw_getf (aw_d q_Js_parseExtra 4 rfl) fL_Js_9_Js rfl rfl ?_
  refine aw_getf (v := .int (nI (kd))) (aw_d q_Js_parseExtra 5 rfl) fL_Js_173_Sc rfl (gk rfl) ?_
  refine aw_iconst (v := nI 2) (aw_d q_Js_parseExtra 6 rfl) (by decide) ?_
  refine aw_icmpN_ne (tgt := 118) (aw_d q_Js_parseExtra 7 rfl) (by decide) (by omega) (by omega) (fun c15 => ?_) (fun c15 => ?_)
  · refine aw_aload_n (aw_d q_Js_parseExtra 56 rfl) rfl rfl rfl ?_
    refine aw_getf (aw_d q_Js_parseExtra 57 rfl) fL_Js_9_Js rfl rfl ?_
    refine aw_ldcS (aw_d q_Js_parseExtra 58 rfl) tL_Js_191 ?_
    refine cV (aw_d q_Js_parseExtra 59 rfl) (sp_must hc (sk_le (T := T) hp).2 (j := 73) (by decide)) vL_Js_143_Sc rfl rfl rfl rfl rfl rfl ⟨aw_le rfl, aw_le rfl⟩ (fun r124 h124 hp124 => ?_)
    cases hx124 : mu T (tx 73) (sk T n p) with
    | error u124 =>
      rw [hx124] at hp124
      obtain ⟨rfl, hf124⟩ := hp124
      exact aw_zret (aw_d q_Js_parseExtra 60 rfl) rfl (rfl) (by rw [jx_no (fun q => c15 q.1)]; simp only [bd_ok, bd_er, if_true, if_false, eq_self, ↓reduceIte, hx124]; exact CE_er hf124)
    | ok p124 =>
      rw [hx124] at hp124
      obtain ⟨rfl, rfl, hp_124⟩ := hp124
      exact aw_zret (aw_d q_Js_parseExtra 60 rfl) rfl (rfl) (by rw [jx_no (fun q => c15 q.1)]; simp only [bd_ok, bd_er, if_true, if_false, eq_self, ↓reduceIte, hx124]; exact CE_ok ⟨⟨_, _, rfl⟩, hp_124, by show kd ≤ 4; omega, by simp, fun _ => by simp, fun _ => rfl, rfl, Or.inl rfl⟩)
  · refine aw_aload_n (aw_d q_Js_parseExtra 8 rfl) rfl rfl rfl ?_
    refine aw_getf (aw_d q_Js_parseExtra 9 rfl) fL_Js_9_Js rfl rfl ?_
    refine aw_bipush (v := nI 44) (aw_d q_Js_parseExtra 10 rfl) (by decide) ?_
    refine cV (aw_d q_Js_parseExtra 11 rfl) (sp_took hc (sk_le (T := T) hp).2 (B := 44) rfl) vL_Js_130_Sc rfl rfl rfl rfl rfl rfl ⟨aw_le rfl, aw_le rfl⟩ (fun r24 h24 hp24 => ?_)
    cases Decidable.em ((T (sk T n p)).toInt = 44) with
    | inl hx24 =>
      rw [if_pos hx24, if_pos hx24] at hp24
      obtain ⟨rfl, rfl⟩ := hp24
      have hpn24 : (sk T n p) + 1 ≤ n := T_lt hc.2.2.2.1 (p := (sk T n p)) (by omega)
      refine aw_ifN_eq (tgt := 118) (aw_d q_Js_parseExtra 12 rfl) (by decide) (by omega) (fun c27 => by exfalso; omega) (fun c27 => ?_)
      refine aw_aload_n (aw_d q_Js_parseExtra 13 rfl) rfl rfl rfl ?_
      refine aw_getf (aw_d q_Js_parseExtra 14 rfl) fL_Js_9_Js rfl rfl ?_
      refine aw_ldcS (aw_d q_Js_parseExtra 15 rfl) tL_Js_134 ?_
      refine cV (aw_d q_Js_parseExtra 16 rfl) (sp_ml hc hpn24 (j := 61) (by decide)) vL_Js_101_Sc rfl rfl rfl rfl rfl rfl ⟨aw_le rfl, aw_le rfl⟩ (fun r36 h36 hp36 => ?_)
      cases hx36 : ml T n (tx 61) ((sk T n p) + 1) with
      | error u36 =>
        rw [hx36] at hp36
        obtain ⟨rfl, hf36⟩ := hp36
        refine aw_ifN_ne (tgt := 44) (aw_d q_Js_parseExtra 17 rfl) (by decide) (by omega) (fun c39 => by exfalso; omega) (fun c39 => ?_)
        refine aw_iconst (v := nI 0) (aw_d q_Js_parseExtra 18 rfl) (by decide) ?_
        exact aw_zret (aw_d q_Js_parseExtra 19 rfl) rfl (rfl) (by rw [jx_e (by omega) hx24 hx36]; exact CE_er hf36)
      | ok p36 =>
        rw [hx36] at hp36
        obtain ⟨rfl, rfl, hp_36⟩ := hp36
        refine aw_ifN_ne (tgt := 44) (aw_d q_Js_parseExtra 17 rfl) (by decide) (by omega) (fun c39 => ?_) (fun c39 => by exfalso; omega)
        refine aw_aload_n (aw_d q_Js_parseExtra 20 rfl) rfl rfl rfl ?_
        refine aw_getf (aw_d q_Js_parseExtra 21 rfl) fL_Js_9_Js rfl rfl ?_
        refine cVr (aw_d q_Js_parseExtra 22 rfl) (sp_next hc hp_36) vL_Js_215_Sc rfl rfl rfl rfl rfl rfl ⟨aw_le rfl, aw_le rfl⟩ ?_
        refine aw_bipush (v := nI 120) (aw_d q_Js_parseExtra 23 rfl) (by decide) ?_
        refine aw_icmpI_ne (tgt := 60) (aw_d q_Js_parseExtra 24 rfl) (by decide) (by omega) (fun c53 => ?_) (fun c53 => ?_)
        · refine aw_iconst (v := nI 0) (aw_d q_Js_parseExtra 27 rfl) (by decide) ?_
          refine aw_istore_n (aw_d q_Js_parseExtra 28 rfl) rfl (aw_le rfl) rfl ?_
          refine aw_aload_n (aw_d q_Js_parseExtra 29 rfl) rfl rfl rfl ?_
          refine aw_getf (aw_d q_Js_parseExtra 30 rfl) fL_Js_9_Js rfl rfl ?_
          refine aw_iload_n (aw_d q_Js_parseExtra 31 rfl) rfl rfl ?_
          refine aw_ifN_eq (tgt := 75) (aw_d q_Js_parseExtra 32 rfl) (by decide) (by omega) (fun c67 => ?_) (fun c67 => by exfalso; omega)
          refine aw_ldcS (aw_d q_Js_parseExtra 35 rfl) tL_Js_220 ?_
          refine cV (aw_d q_Js_parseExtra 36 rfl) (sp_ml hc hp_36 (j := 72) (by decide)) vL_Js_101_Sc rfl rfl rfl rfl rfl rfl ⟨aw_le rfl, aw_le rfl⟩ (fun r77 h77 hp77 => ?_)
          cases hx77 : ml T n (tx 72) p36 with
          | error u77 =>
            rw [hx77] at hp77
            obtain ⟨rfl, hf77⟩ := hp77
            refine aw_ifN_ne (tgt := 85) (aw_d q_Js_parseExtra 37 rfl) (by decide) (by omega) (fun c80 => by exfalso; omega) (fun c80 => ?_)
            refine aw_iconst (v := nI 0) (aw_d q_Js_parseExtra 38 rfl) (by decide) ?_
            exact aw_zret (aw_d q_Js_parseExtra 39 rfl) rfl (rfl) (by rw [jx_4 (by omega) hx24 hx36 (show ¬ (T p36).toInt = 120 from c53)]; simp only [bd_ok, bd_er, if_true, if_false, eq_self, ↓reduceIte, hx77]; exact CE_er hf77)
          | ok p77 =>
            rw [hx77] at hp77
            obtain ⟨rfl, rfl, hp_77⟩ := hp77
            refine aw_ifN_ne (tgt := 85) (aw_d q_Js_parseExtra 37 rfl) (by decide) (by omega) (fun c80 => ?_) (fun c80 => by exfalso; omega)
            refine aw_aload_n (aw_d q_Js_parseExtra 40 rfl) rfl rfl rfl ?_
            refine aw_getf (aw_d q_Js_parseExtra 41 rfl) fL_Js_9_Js rfl rfl ?_
            refine aw_iload_n (aw_d q_Js_parseExtra 42 rfl) rfl rfl ?_
            refine aw_ifN_eq (tgt := 97) (aw_d q_Js_parseExtra 43 rfl) (by decide) (by omega) (fun c90 => ?_) (fun c90 => by exfalso; omega)
            refine aw_iconst (v := nI 4) (aw_d q_Js_parseExtra 46 rfl) (by decide) ?_
            refine cV (aw_d q_Js_parseExtra 47 rfl) (sp_extra_4 hc hp_77) vL_Js_222_Sc rfl rfl rfl rfl rfl rfl ⟨aw_le rfl, aw_le rfl⟩ (fun r98 h98 hp98 => ?_)
            cases hx98 : ew T n 4 p77 with
            | error u98 =>
              rw [hx98] at hp98
              obtain ⟨rfl, hf98⟩ := hp98
              refine aw_ifN_eq (tgt := 116) (aw_d q_Js_parseExtra 48 rfl) (by decide) (by omega) (fun c101 => ?_) (fun c101 => by exfalso; omega)
              refine aw_iconst (v := nI 0) (aw_d q_Js_parseExtra 54 rfl) (by decide) ?_
              exact aw_zret (aw_d q_Js_parseExtra 55 rfl) rfl (rfl) (by rw [jx_4 (by omega) hx24 hx36 (show ¬ (T p36).toInt = 120 from c53)]; simp only [bd_ok, bd_er, if_true, if_false, eq_self, ↓reduceIte, hx77, hx98]; exact CE_er hf98)
            | ok y98 =>
              rw [hx98] at hp98
              obtain ⟨rfl, ⟨w98, l98, rfl⟩, hy98⟩ := hp98
              refine aw_ifN_eq (tgt := 116) (aw_d q_Js_parseExtra 48 rfl) (by decide) (by omega) (fun c101 => by exfalso; omega) (fun c101 => ?_)
              refine aw_aload_n (aw_d q_Js_parseExtra 49 rfl) rfl rfl rfl ?_
              refine aw_getf (aw_d q_Js_parseExtra 50 rfl) fL_Js_9_Js rfl rfl ?_
              refine aw_ldcS (aw_d q_Js_parseExtra 51 rfl) tL_Js_139 ?_
              refine cV (aw_d q_Js_parseExtra 52 rfl) (sp_ml hc hy98.1 (j := 62) (by decide)) vL_Js_101_Sc rfl rfl rfl rfl rfl rfl ⟨aw_le rfl, aw_le rfl⟩ (fun r110 h110 hp110 => ?_)
              cases hx110 : ml T n (tx 62) y98.1 with
              | error u110 =>
                rw [hx110] at hp110
                obtain ⟨rfl, hf110⟩ := hp110
                refine aw_ifN_ne (tgt := 118) (aw_d q_Js_parseExtra 53 rfl) (by decide) (by omega) (fun c113 => by exfalso; omega) (fun c113 => ?_)
                refine aw_iconst (v := nI 0) (aw_d q_Js_parseExtra 54 rfl) (by decide) ?_
                exact aw_zret (aw_d q_Js_parseExtra 55 rfl) rfl (rfl) (by rw [jx_4 (by omega) hx24 hx36 (show ¬ (T p36).toInt = 120 from c53)]; simp only [bd_ok, bd_er, if_true, if_false, eq_self, ↓reduceIte, hx77, hx98, hx110]; exact CE_er hf110)
              | ok p110 =>
                rw [hx110] at hp110
                obtain ⟨rfl, rfl, hp_110⟩ := hp110
                refine aw_ifN_ne (tgt := 118) (aw_d q_Js_parseExtra 53 rfl) (by decide) (by omega) (fun c113 => ?_) (fun c113 => by exfalso; omega)
                refine aw_aload_n (aw_d q_Js_parseExtra 56 rfl) rfl rfl rfl ?_
                refine aw_getf (aw_d q_Js_parseExtra 57 rfl) fL_Js_9_Js rfl rfl ?_
                refine aw_ldcS (aw_d q_Js_parseExtra 58 rfl) tL_Js_191 ?_
                refine cV (aw_d q_Js_parseExtra 59 rfl) (sp_must hc hp_110 (j := 73) (by decide)) vL_Js_143_Sc rfl rfl rfl rfl rfl rfl ⟨aw_le rfl, aw_le rfl⟩ (fun r124 h124 hp124 => ?_)
                cases hx124 : mu T (tx 73) p110 with
                | error u124 =>
                  rw [hx124] at hp124
                  obtain ⟨rfl, hf124⟩ := hp124
                  exact aw_zret (aw_d q_Js_parseExtra 60 rfl) rfl (rfl) (by rw [jx_4 (by omega) hx24 hx36 (show ¬ (T p36).toInt = 120 from c53)]; simp only [bd_ok, bd_er, if_true, if_false, eq_self, ↓reduceIte, hx77, hx98, hx110, hx124]; exact CE_er hf124)
                | ok p124 =>
                  rw [hx124] at hp124
                  obtain ⟨rfl, rfl, hp_124⟩ := hp124
                  exact aw_zret (aw_d q_Js_parseExtra 60 rfl) rfl (rfl) (by rw [jx_4 (by omega) hx24 hx36 (show ¬ (T p36).toInt = 120 from c53)]; simp only [bd_ok, bd_er, if_true, if_false, eq_self, ↓reduceIte, hx77, hx98, hx110, hx124]; exact CE_ok ⟨⟨_, _, rfl⟩, hp_124, by simp, Nat.lt_trans hy98.2 (by decide), fun _ => hy98.2, fun h => by simp at h, rfl, Or.inr (by simp)⟩)
        · refine aw_iconst (v := nI 1) (aw_d q_Js_parseExtra 25 rfl) (by decide) ?_
          refine aw_goto (tgt := 61) (aw_d q_Js_parseExtra 26 rfl) (by decide) ?_
          refine aw_istore_n (aw_d q_Js_parseExtra 28 rfl) rfl (aw_le rfl) rfl ?_
          refine aw_aload_n (aw_d q_Js_parseExtra 29 rfl) rfl rfl rfl ?_
          refine aw_getf (aw_d q_Js_parseExtra 30 rfl) fL_Js_9_Js rfl rfl ?_
          refine aw_iload_n (aw_d q_Js_parseExtra 31 rfl) rfl rfl ?_
          refine aw_ifN_eq (tgt := 75) (aw_d q_Js_parseExtra 32 rfl) (by decide) (by omega) (fun c67 => by exfalso; omega) (fun c67 => ?_)
          refine aw_ldcS (aw_d q_Js_parseExtra 33 rfl) tL_Js_218 ?_
          refine aw_goto (tgt := 77) (aw_d q_Js_parseExtra 34 rfl) (by decide) ?_
          refine cV (aw_d q_Js_parseExtra 36 rfl) (sp_ml hc hp_36 (j := 71) (by decide)) vL_Js_101_Sc rfl rfl rfl rfl rfl rfl ⟨aw_le rfl, aw_le rfl⟩ (fun r77 h77 hp77 => ?_)
          cases hx77 : ml T n (tx 71) p36 with
          | error u77 =>
            rw [hx77] at hp77
            obtain ⟨rfl, hf77⟩ := hp77
            refine aw_ifN_ne (tgt := 85) (aw_d q_Js_parseExtra 37 rfl) (by decide) (by omega) (fun c80 => by exfalso; omega) (fun c80 => ?_)
            refine aw_iconst (v := nI 0) (aw_d q_Js_parseExtra 38 rfl) (by decide) ?_
            exact aw_zret (aw_d q_Js_parseExtra 39 rfl) rfl (rfl) (by rw [jx_3 (by omega) hx24 hx36 (show (T p36).toInt = 120 from c53)]; simp only [bd_ok, bd_er, if_true, if_false, eq_self, ↓reduceIte, hx77]; exact CE_er hf77)
          | ok p77 =>
            rw [hx77] at hp77
            obtain ⟨rfl, rfl, hp_77⟩ := hp77
            refine aw_ifN_ne (tgt := 85) (aw_d q_Js_parseExtra 37 rfl) (by decide) (by omega) (fun c80 => ?_) (fun c80 => by exfalso; omega)
            refine aw_aload_n (aw_d q_Js_parseExtra 40 rfl) rfl rfl rfl ?_
            refine aw_getf (aw_d q_Js_parseExtra 41 rfl) fL_Js_9_Js rfl rfl ?_
            refine aw_iload_n (aw_d q_Js_parseExtra 42 rfl) rfl rfl ?_
            refine aw_ifN_eq (tgt := 97) (aw_d q_Js_parseExtra 43 rfl) (by decide) (by omega) (fun c90 => by exfalso; omega) (fun c90 => ?_)
            refine aw_iconst (v := nI 3) (aw_d q_Js_parseExtra 44 rfl) (by decide) ?_
            refine aw_goto (tgt := 98) (aw_d q_Js_parseExtra 45 rfl) (by decide) ?_
            refine cV (aw_d q_Js_parseExtra 47 rfl) (sp_extra_3 hc hp_77) vL_Js_222_Sc rfl rfl rfl rfl rfl rfl ⟨aw_le rfl, aw_le rfl⟩ (fun r98 h98 hp98 => ?_)
            cases hx98 : ew T n 3 p77 with
            | error u98 =>
              rw [hx98] at hp98
              obtain ⟨rfl, hf98⟩ := hp98
              refine aw_ifN_eq (tgt := 116) (aw_d q_Js_parseExtra 48 rfl) (by decide) (by omega) (fun c101 => ?_) (fun c101 => by exfalso; omega)
              refine aw_iconst (v := nI 0) (aw_d q_Js_parseExtra 54 rfl) (by decide) ?_
              exact aw_zret (aw_d q_Js_parseExtra 55 rfl) rfl (rfl) (by rw [jx_3 (by omega) hx24 hx36 (show (T p36).toInt = 120 from c53)]; simp only [bd_ok, bd_er, if_true, if_false, eq_self, ↓reduceIte, hx77, hx98]; exact CE_er hf98)
            | ok y98 =>
              rw [hx98] at hp98
              obtain ⟨rfl, ⟨w98, l98, rfl⟩, hy98⟩ := hp98
              refine aw_ifN_eq (tgt := 116) (aw_d q_Js_parseExtra 48 rfl) (by decide) (by omega) (fun c101 => by exfalso; omega) (fun c101 => ?_)
              refine aw_aload_n (aw_d q_Js_parseExtra 49 rfl) rfl rfl rfl ?_
              refine aw_getf (aw_d q_Js_parseExtra 50 rfl) fL_Js_9_Js rfl rfl ?_
              refine aw_ldcS (aw_d q_Js_parseExtra 51 rfl) tL_Js_139 ?_
              refine cV (aw_d q_Js_parseExtra 52 rfl) (sp_ml hc hy98.1 (j := 62) (by decide)) vL_Js_101_Sc rfl rfl rfl rfl rfl rfl ⟨aw_le rfl, aw_le rfl⟩ (fun r110 h110 hp110 => ?_)
              cases hx110 : ml T n (tx 62) y98.1 with
              | error u110 =>
                rw [hx110] at hp110
                obtain ⟨rfl, hf110⟩ := hp110
                refine aw_ifN_ne (tgt := 118) (aw_d q_Js_parseExtra 53 rfl) (by decide) (by omega) (fun c113 => by exfalso; omega) (fun c113 => ?_)
                refine aw_iconst (v := nI 0) (aw_d q_Js_parseExtra 54 rfl) (by decide) ?_
                exact aw_zret (aw_d q_Js_parseExtra 55 rfl) rfl (rfl) (by rw [jx_3 (by omega) hx24 hx36 (show (T p36).toInt = 120 from c53)]; simp only [bd_ok, bd_er, if_true, if_false, eq_self, ↓reduceIte, hx77, hx98, hx110]; exact CE_er hf110)
              | ok p110 =>
                rw [hx110] at hp110
                obtain ⟨rfl, rfl, hp_110⟩ := hp110
                refine aw_ifN_ne (tgt := 118) (aw_d q_Js_parseExtra 53 rfl) (by decide) (by omega) (fun c113 => ?_) (fun c113 => by exfalso; omega)
                refine aw_aload_n (aw_d q_Js_parseExtra 56 rfl) rfl rfl rfl ?_
                refine aw_getf (aw_d q_Js_parseExtra 57 rfl) fL_Js_9_Js rfl rfl ?_
                refine aw_ldcS (aw_d q_Js_parseExtra 58 rfl) tL_Js_191 ?_
                refine cV (aw_d q_Js_parseExtra 59 rfl) (sp_must hc hp_110 (j := 73) (by decide)) vL_Js_143_Sc rfl rfl rfl rfl rfl rfl ⟨aw_le rfl, aw_le rfl⟩ (fun r124 h124 hp124 => ?_)
                cases hx124 : mu T (tx 73) p110 with
                | error u124 =>
                  rw [hx124] at hp124
                  obtain ⟨rfl, hf124⟩ := hp124
                  exact aw_zret (aw_d q_Js_parseExtra 60 rfl) rfl (rfl) (by rw [jx_3 (by omega) hx24 hx36 (show (T p36).toInt = 120 from c53)]; simp only [bd_ok, bd_er, if_true, if_false, eq_self, ↓reduceIte, hx77, hx98, hx110, hx124]; exact CE_er hf124)
                | ok p124 =>
                  rw [hx124] at hp124
                  obtain ⟨rfl, rfl, hp_124⟩ := hp124
                  exact aw_zret (aw_d q_Js_parseExtra 60 rfl) rfl (rfl) (by rw [jx_3 (by omega) hx24 hx36 (show (T p36).toInt = 120 from c53)]; simp only [bd_ok, bd_er, if_true, if_false, eq_self, ↓reduceIte, hx77, hx98, hx110, hx124]; exact CE_ok ⟨⟨_, _, rfl⟩, hp_124, by simp, hy98.2, fun h => by simp at h, fun h => by simp at h, rfl, Or.inr (by simp)⟩)
    | inr hx24 =>
      rw [if_neg hx24, if_neg hx24] at hp24
      obtain ⟨rfl, rfl⟩ := hp24
      refine aw_ifN_eq (tgt := 118) (aw_d q_Js_parseExtra 12 rfl) (by decide) (by omega) (fun c27 => ?_) (fun c27 => by exfalso; omega)
      refine aw_aload_n (aw_d q_Js_parseExtra 56 rfl) rfl rfl rfl ?_
      refine aw_getf (aw_d q_Js_parseExtra 57 rfl) fL_Js_9_Js rfl rfl ?_
      refine aw_ldcS (aw_d q_Js_parseExtra 58 rfl) tL_Js_191 ?_
      refine cV (aw_d q_Js_parseExtra 59 rfl) (sp_must hc (sk_le (T := T) hp).2 (j := 73) (by decide)) vL_Js_143_Sc rfl rfl rfl rfl rfl rfl ⟨aw_le rfl, aw_le rfl⟩ (fun r124 h124 hp124 => ?_)
      cases hx124 : mu T (tx 73) (sk T n p) with
      | error u124 =>
        rw [hx124] at hp124
        obtain ⟨rfl, hf124⟩ := hp124
        exact aw_zret (aw_d q_Js_parseExtra 60 rfl) rfl (rfl) (by rw [jx_no (fun q => hx24 q.2)]; simp only [bd_ok, bd_er, if_true, if_false, eq_self, ↓reduceIte, hx124]; exact CE_er hf124)
      | ok p124 =>
        rw [hx124] at hp124
        obtain ⟨rfl, rfl, hp_124⟩ := hp124
        exact aw_zret (aw_d q_Js_parseExtra 60 rfl) rfl (rfl) (by rw [jx_no (fun q => hx24 q.2)]; simp only [bd_ok, bd_er, if_true, if_false, eq_self, ↓reduceIte, hx124]; exact CE_ok ⟨⟨_, _, rfl⟩, hp_124, by show kd ≤ 4; omega, by simp, fun _ => by simp, fun _ => rfl, rfl, Or.inl rfl⟩)
set_option maxRecDepth 20000 in
theorem sp_xo {g : aw_G} {S : aw_S} {n : Nat} {T : Nat → Int32} {p : Nat} {q w l k e z : Int32} {X : Nat → Int32} (hc : TPc S n T) (hp : p ≤ n) : Sp g M_Xm_parseOpening 6 129 0 0 [.ref 30] (HP (QC S (nI p) q w l k e z X)) (CE S (xo T n p) (fun (y : Nat × Nat × Nat) h => (∃ w l, h = HP (QC S (nI y.1) q w l (nI y.2.1) (nI y.2.2) (nI 0) X)) ∧ y.1 ≤ n ∧ y.2.1 ≤ 4 ∧ y.2.2 < 676 ∧ (y.2.1 = 4 → y.2.2 < 4) ∧ (y.2.1 < 3 → y.2.2 = 0))) := by
  refine Sp.of rfl (aw_le rfl) ?_
  refine aw_aload_n (aw_d q_Xm_parseOpening 0 rfl) rfl rfl rfl ?_
  refine aw_getf (aw_d q_Xm_parseOpening 1 rfl) fL_Xm_9_Xm rfl rfl ?_
  refine cVr (aw_d q_Xm_parseOpening 2 rfl) (sp_next hc hp) vL_Xm_155_Sc rfl rfl rfl rfl rfl rfl ⟨aw_le rfl, aw_le rfl⟩ ?_
  rcases (show (T p).toInt = 98 ∨ (T p).toInt = 117 ∨ ((T p).toInt ≠ 98 ∧ (T p).toInt ≠ 117) by omega) with hsw | hsw | hsw
  · refine aw_lookup (tgt := 50) (aw_d q_Xm_parseOpening 3 rfl) (by decide) (by rw [hsw]; try rfl) (by decide) ?_
    refine aw_aload_n (aw_d q_Xm_parseOpening 13 rfl) rfl rfl rfl ?_
    refine aw_getf (aw_d q_Xm_parseOpening 14 rfl) fL_Xm_9_Xm rfl rfl ?_
    refine aw_iconst (v := nI 1) (aw_d q_Xm_parseOpening 15 rfl) (by decide) ?_
    refine cVv (aw_d q_Xm_parseOpening 16 rfl) (sp_beginTerm) vL_Xm_209_Sc rfl rfl rfl rfl rfl rfl ⟨aw_le rfl, aw_le rfl⟩ ?_
    refine aw_aload_n (aw_d q_Xm_parseOpening 17 rfl) rfl rfl rfl ?_
    refine aw_getf (aw_d q_Xm_parseOpening 18 rfl) fL_Xm_9_Xm rfl rfl ?_
    refine aw_ldcS (aw_d q_Xm_parseOpening 19 rfl) tL_Xm_214 ?_
    refine cV (aw_d q_Xm_parseOpening 20 rfl) (sp_must hc hp (j := 77) (by decide)) vL_Xm_134_Sc rfl rfl rfl rfl rfl rfl ⟨aw_le rfl, aw_le rfl⟩ (fun r64 h64 hp64 => ?_)
    cases hx64 : mu T (tx 77) p with
    | error u64 =>
      rw [hx64] at hp64
      obtain ⟨rfl, hf64⟩ := hp64
      exact aw_zret (aw_d q_Xm_parseOpening 21 rfl) rfl (rfl) (by simp only [xo, bd_ok, bd_er, if_true, if_false, eq_self, ↓reduceIte, show ¬ (T p).toInt = 117 by omega, hsw, hx64]; exact CE_er hf64)
    | ok p64 =>
      rw [hx64] at hp64
      obtain ⟨rfl, rfl, hp_64⟩ := hp64
      exact aw_zret (aw_d q_Xm_parseOpening 21 rfl) rfl (rfl) (by simp only [xo, bd_ok, bd_er, if_true, if_false, eq_self, ↓reduceIte, show ¬ (T p).toInt = 117 by omega, hsw, hx64]; exact CE_ok ⟨⟨_, _, rfl⟩, hp_64, by simp, by simp, fun h => by simp at h, fun _ => rfl⟩)
  · refine aw_lookup (tgt := 32) (aw_d q_Xm_parseOpening 3 rfl) (by decide) (by rw [hsw]; try rfl) (by decide) ?_
    refine aw_aload_n (aw_d q_Xm_parseOpening 4 rfl) rfl rfl rfl ?_
    refine aw_getf (aw_d q_Xm_parseOpening 5 rfl) fL_Xm_9_Xm rfl rfl ?_
    refine aw_iconst (v := nI 0) (aw_d q_Xm_parseOpening 6 rfl) (by decide) ?_
    refine cVv (aw_d q_Xm_parseOpening 7 rfl) (sp_beginTerm) vL_Xm_209_Sc rfl rfl rfl rfl rfl rfl ⟨aw_le rfl, aw_le rfl⟩ ?_
    refine aw_aload_n (aw_d q_Xm_parseOpening 8 rfl) rfl rfl rfl ?_
    refine aw_getf (aw_d q_Xm_parseOpening 9 rfl) fL_Xm_9_Xm rfl rfl ?_
    refine aw_ldcS (aw_d q_Xm_parseOpening 10 rfl) tL_Xm_212 ?_
    refine cV (aw_d q_Xm_parseOpening 11 rfl) (sp_must hc hp (j := 76) (by decide)) vL_Xm_134_Sc rfl rfl rfl rfl rfl rfl ⟨aw_le rfl, aw_le rfl⟩ (fun r46 h46 hp46 => ?_)
    cases hx46 : mu T (tx 76) p with
    | error u46 =>
      rw [hx46] at hp46
      obtain ⟨rfl, hf46⟩ := hp46
      exact aw_zret (aw_d q_Xm_parseOpening 12 rfl) rfl (rfl) (by simp only [xo, bd_ok, bd_er, if_true, if_false, eq_self, ↓reduceIte, hsw, hx46]; exact CE_er hf46)
    | ok p46 =>
      rw [hx46] at hp46
      obtain ⟨rfl, rfl, hp_46⟩ := hp46
      exact aw_zret (aw_d q_Xm_parseOpening 12 rfl) rfl (rfl) (by simp only [xo, bd_ok, bd_er, if_true, if_false, eq_self, ↓reduceIte, hsw, hx46]; exact CE_ok ⟨⟨_, _, rfl⟩, hp_46, by simp, by simp, fun h => by simp at h, fun _ => rfl⟩)
  · refine aw_lookup (tgt := 68) (aw_d q_Xm_parseOpening 3 rfl) (by decide) (lk_out (by intro q hq; simp at hq; rcases hq with rfl | rfl <;> (dsimp only; omega))) (by decide) ?_
    refine aw_aload_n (aw_d q_Xm_parseOpening 22 rfl) rfl rfl rfl ?_
    refine aw_getf (aw_d q_Xm_parseOpening 23 rfl) fL_Xm_9_Xm rfl rfl ?_
    refine aw_iconst (v := nI 2) (aw_d q_Xm_parseOpening 24 rfl) (by decide) ?_
    refine cVv (aw_d q_Xm_parseOpening 25 rfl) (sp_beginTerm) vL_Xm_209_Sc rfl rfl rfl rfl rfl rfl ⟨aw_le rfl, aw_le rfl⟩ ?_
    refine aw_aload_n (aw_d q_Xm_parseOpening 26 rfl) rfl rfl rfl ?_
    refine aw_getf (aw_d q_Xm_parseOpening 27 rfl) fL_Xm_9_Xm rfl rfl ?_
    refine aw_ldcS (aw_d q_Xm_parseOpening 28 rfl) tL_Xm_216 ?_
    refine cV (aw_d q_Xm_parseOpening 29 rfl) (sp_must hc hp (j := 78) (by decide)) vL_Xm_134_Sc rfl rfl rfl rfl rfl rfl ⟨aw_le rfl, aw_le rfl⟩ (fun r82 h82 hp82 => ?_)
    cases hx82 : mu T (tx 78) p with
    | error u82 =>
      rw [hx82] at hp82
      obtain ⟨rfl, hf82⟩ := hp82
      refine aw_ifN_ne (tgt := 90) (aw_d q_Xm_parseOpening 30 rfl) (by decide) (by omega) (fun c85 => by exfalso; omega) (fun c85 => ?_)
      refine aw_iconst (v := nI 0) (aw_d q_Xm_parseOpening 31 rfl) (by decide) ?_
      exact aw_zret (aw_d q_Xm_parseOpening 32 rfl) rfl (rfl) (by simp only [xo, bd_ok, bd_er, if_true, if_false, eq_self, ↓reduceIte, show ¬ (T p).toInt = 117 by omega, show ¬ (T p).toInt = 98 by omega, hx82]; exact CE_er hf82)
    | ok p82 =>
      rw [hx82] at hp82
      obtain ⟨rfl, rfl, hp_82⟩ := hp82
      refine aw_ifN_ne (tgt := 90) (aw_d q_Xm_parseOpening 30 rfl) (by decide) (by omega) (fun c85 => ?_) (fun c85 => by exfalso; omega)
      refine aw_aload_n (aw_d q_Xm_parseOpening 33 rfl) rfl rfl rfl ?_
      refine aw_getf (aw_d q_Xm_parseOpening 34 rfl) fL_Xm_9_Xm rfl rfl ?_
      refine aw_bipush (v := nI 32) (aw_d q_Xm_parseOpening 35 rfl) (by decide) ?_
      refine cV (aw_d q_Xm_parseOpening 36 rfl) (sp_took hc hp_82 (B := 32) rfl) vL_Xm_218_Sc rfl rfl rfl rfl rfl rfl ⟨aw_le rfl, aw_le rfl⟩ (fun r96 h96 hp96 => ?_)
      cases Decidable.em ((T p82).toInt = 32) with
      | inl hx96 =>
        rw [if_pos hx96, if_pos hx96] at hp96
        obtain ⟨rfl, rfl⟩ := hp96
        have hpn96 : p82 + 1 ≤ n := T_lt hc.2.2.2.1 (p := p82) (by omega)
        refine aw_ifN_eq (tgt := 176) (aw_d q_Xm_parseOpening 37 rfl) (by decide) (by omega) (fun c99 => by exfalso; omega) (fun c99 => ?_)
        refine aw_aload_n (aw_d q_Xm_parseOpening 38 rfl) rfl rfl rfl ?_
        refine aw_getf (aw_d q_Xm_parseOpening 39 rfl) fL_Xm_9_Xm rfl rfl ?_
        refine cVr (aw_d q_Xm_parseOpening 40 rfl) (sp_next hc hpn96) vL_Xm_155_Sc rfl rfl rfl rfl rfl rfl ⟨aw_le rfl, aw_le rfl⟩ ?_
        refine aw_bipush (v := nI 120) (aw_d q_Xm_parseOpening 41 rfl) (by decide) ?_
        refine aw_icmpI_ne (tgt := 118) (aw_d q_Xm_parseOpening 42 rfl) (by decide) (by omega) (fun c111 => ?_) (fun c111 => ?_)
        · refine aw_iconst (v := nI 0) (aw_d q_Xm_parseOpening 45 rfl) (by decide) ?_
          refine aw_istore_n (aw_d q_Xm_parseOpening 46 rfl) rfl (aw_le rfl) rfl ?_
          refine aw_aload_n (aw_d q_Xm_parseOpening 47 rfl) rfl rfl rfl ?_
          refine aw_getf (aw_d q_Xm_parseOpening 48 rfl) fL_Xm_9_Xm rfl rfl ?_
          refine aw_iload_n (aw_d q_Xm_parseOpening 49 rfl) rfl rfl ?_
          refine aw_ifN_eq (tgt := 133) (aw_d q_Xm_parseOpening 50 rfl) (by decide) (by omega) (fun c125 => ?_) (fun c125 => by exfalso; omega)
          refine aw_ldcS (aw_d q_Xm_parseOpening 53 rfl) tL_Xm_224 ?_
          refine cV (aw_d q_Xm_parseOpening 54 rfl) (sp_must hc hpn96 (j := 80) (by decide)) vL_Xm_134_Sc rfl rfl rfl rfl rfl rfl ⟨aw_le rfl, aw_le rfl⟩ (fun r135 h135 hp135 => ?_)
          cases hx135 : mu T (tx 80) (p82 + 1) with
          | error u135 =>
            rw [hx135] at hp135
            obtain ⟨rfl, hf135⟩ := hp135
            refine aw_ifN_ne (tgt := 143) (aw_d q_Xm_parseOpening 55 rfl) (by decide) (by omega) (fun c138 => by exfalso; omega) (fun c138 => ?_)
            refine aw_iconst (v := nI 0) (aw_d q_Xm_parseOpening 56 rfl) (by decide) ?_
            exact aw_zret (aw_d q_Xm_parseOpening 57 rfl) rfl (rfl) (by simp only [xo, bd_ok, bd_er, if_true, if_false, eq_self, ↓reduceIte, show ¬ (T p).toInt = 117 by omega, show ¬ (T p).toInt = 98 by omega, hx96, show ¬ (T (p82 + 1)).toInt = 120 from c111, show ¬ (4 = 3) by decide, xy, hx82, hx135]; exact CE_er hf135)
          | ok p135 =>
            rw [hx135] at hp135
            obtain ⟨rfl, rfl, hp_135⟩ := hp135
            refine aw_ifN_ne (tgt := 143) (aw_d q_Xm_parseOpening 55 rfl) (by decide) (by omega) (fun c138 => ?_) (fun c138 => by exfalso; omega)
            refine aw_aload_n (aw_d q_Xm_parseOpening 58 rfl) rfl rfl rfl ?_
            refine aw_getf (aw_d q_Xm_parseOpening 59 rfl) fL_Xm_9_Xm rfl rfl ?_
            refine aw_iload_n (aw_d q_Xm_parseOpening 60 rfl) rfl rfl ?_
            refine aw_ifN_eq (tgt := 155) (aw_d q_Xm_parseOpening 61 rfl) (by decide) (by omega) (fun c148 => ?_) (fun c148 => by exfalso; omega)
            refine aw_iconst (v := nI 4) (aw_d q_Xm_parseOpening 64 rfl) (by decide) ?_
            refine cV (aw_d q_Xm_parseOpening 65 rfl) (sp_extra_4 hc hp_135) vL_Xm_226_Sc rfl rfl rfl rfl rfl rfl ⟨aw_le rfl, aw_le rfl⟩ (fun r156 h156 hp156 => ?_)
            cases hx156 : ew T n 4 p135 with
            | error u156 =>
              rw [hx156] at hp156
              obtain ⟨rfl, hf156⟩ := hp156
              refine aw_ifN_eq (tgt := 174) (aw_d q_Xm_parseOpening 66 rfl) (by decide) (by omega) (fun c159 => ?_) (fun c159 => by exfalso; omega)
              refine aw_iconst (v := nI 0) (aw_d q_Xm_parseOpening 72 rfl) (by decide) ?_
              exact aw_zret (aw_d q_Xm_parseOpening 73 rfl) rfl (rfl) (by simp only [xo, bd_ok, bd_er, if_true, if_false, eq_self, ↓reduceIte, show ¬ (T p).toInt = 117 by omega, show ¬ (T p).toInt = 98 by omega, hx96, show ¬ (T (p82 + 1)).toInt = 120 from c111, show ¬ (4 = 3) by decide, xy, hx82, hx135, hx156]; exact CE_er hf156)
            | ok y156 =>
              rw [hx156] at hp156
              obtain ⟨rfl, ⟨w156, l156, rfl⟩, hy156⟩ := hp156
              refine aw_ifN_eq (tgt := 174) (aw_d q_Xm_parseOpening 66 rfl) (by decide) (by omega) (fun c159 => by exfalso; omega) (fun c159 => ?_)
              refine aw_aload_n (aw_d q_Xm_parseOpening 67 rfl) rfl rfl rfl ?_
              refine aw_getf (aw_d q_Xm_parseOpening 68 rfl) fL_Xm_9_Xm rfl rfl ?_
              refine aw_ldcS (aw_d q_Xm_parseOpening 69 rfl) tL_Xm_229 ?_
              refine cV (aw_d q_Xm_parseOpening 70 rfl) (sp_must hc hy156.1 (j := 81) (by decide)) vL_Xm_134_Sc rfl rfl rfl rfl rfl rfl ⟨aw_le rfl, aw_le rfl⟩ (fun r168 h168 hp168 => ?_)
              cases hx168 : mu T (tx 81) y156.1 with
              | error u168 =>
                rw [hx168] at hp168
                obtain ⟨rfl, hf168⟩ := hp168
                refine aw_ifN_ne (tgt := 176) (aw_d q_Xm_parseOpening 71 rfl) (by decide) (by omega) (fun c171 => by exfalso; omega) (fun c171 => ?_)
                refine aw_iconst (v := nI 0) (aw_d q_Xm_parseOpening 72 rfl) (by decide) ?_
                exact aw_zret (aw_d q_Xm_parseOpening 73 rfl) rfl (rfl) (by simp only [xo, bd_ok, bd_er, if_true, if_false, eq_self, ↓reduceIte, show ¬ (T p).toInt = 117 by omega, show ¬ (T p).toInt = 98 by omega, hx96, show ¬ (T (p82 + 1)).toInt = 120 from c111, show ¬ (4 = 3) by decide, xy, hx82, hx135, hx156, hx168]; exact CE_er hf168)
              | ok p168 =>
                rw [hx168] at hp168
                obtain ⟨rfl, rfl, hp_168⟩ := hp168
                refine aw_ifN_ne (tgt := 176) (aw_d q_Xm_parseOpening 71 rfl) (by decide) (by omega) (fun c171 => ?_) (fun c171 => by exfalso; omega)
                refine aw_aload_n (aw_d q_Xm_parseOpening 74 rfl) rfl rfl rfl ?_
                refine aw_getf (aw_d q_Xm_parseOpening 75 rfl) fL_Xm_9_Xm rfl rfl ?_
                refine aw_ldcS (aw_d q_Xm_parseOpening 76 rfl) tL_Xm_231 ?_
                refine cV (aw_d q_Xm_parseOpening 77 rfl) (sp_must hc hp_168 (j := 82) (by decide)) vL_Xm_134_Sc rfl rfl rfl rfl rfl rfl ⟨aw_le rfl, aw_le rfl⟩ (fun r182 h182 hp182 => ?_)
                cases hx182 : mu T (tx 82) p168 with
                | error u182 =>
                  rw [hx182] at hp182
                  obtain ⟨rfl, hf182⟩ := hp182
                  exact aw_zret (aw_d q_Xm_parseOpening 78 rfl) rfl (rfl) (by simp only [xo, bd_ok, bd_er, if_true, if_false, eq_self, ↓reduceIte, show ¬ (T p).toInt = 117 by omega, show ¬ (T p).toInt = 98 by omega, hx96, show ¬ (T (p82 + 1)).toInt = 120 from c111, show ¬ (4 = 3) by decide, xy, hx82, hx135, hx156, hx168, hx182]; exact CE_er hf182)
                | ok p182 =>
                  rw [hx182] at hp182
                  obtain ⟨rfl, rfl, hp_182⟩ := hp182
                  exact aw_zret (aw_d q_Xm_parseOpening 78 rfl) rfl (rfl) (by simp only [xo, bd_ok, bd_er, if_true, if_false, eq_self, ↓reduceIte, show ¬ (T p).toInt = 117 by omega, show ¬ (T p).toInt = 98 by omega, hx96, show ¬ (T (p82 + 1)).toInt = 120 from c111, show ¬ (4 = 3) by decide, xy, hx82, hx135, hx156, hx168, hx182]; exact CE_ok ⟨⟨_, _, rfl⟩, hp_182, by simp, Nat.lt_trans hy156.2 (by decide), fun _ => hy156.2, fun h => by simp at h⟩)
        · refine aw_iconst (v := nI 1) (aw_d q_Xm_parseOpening 43 rfl) (by decide) ?_
          refine aw_goto (tgt := 119) (aw_d q_Xm_parseOpening 44 rfl) (by decide) ?_
          refine aw_istore_n (aw_d q_Xm_parseOpening 46 rfl) rfl (aw_le rfl) rfl ?_
          refine aw_aload_n (aw_d q_Xm_parseOpening 47 rfl) rfl rfl rfl ?_
          refine aw_getf (aw_d q_Xm_parseOpening 48 rfl) fL_Xm_9_Xm rfl rfl ?_
          refine aw_iload_n (aw_d q_Xm_parseOpening 49 rfl) rfl rfl ?_
          refine aw_ifN_eq (tgt := 133) (aw_d q_Xm_parseOpening 50 rfl) (by decide) (by omega) (fun c125 => by exfalso; omega) (fun c125 => ?_)
          refine aw_ldcS (aw_d q_Xm_parseOpening 51 rfl) tL_Xm_222 ?_
          refine aw_goto (tgt := 135) (aw_d q_Xm_parseOpening 52 rfl) (by decide) ?_
          refine cV (aw_d q_Xm_parseOpening 54 rfl) (sp_must hc hpn96 (j := 79) (by decide)) vL_Xm_134_Sc rfl rfl rfl rfl rfl rfl ⟨aw_le rfl, aw_le rfl⟩ (fun r135 h135 hp135 => ?_)
          cases hx135 : mu T (tx 79) (p82 + 1) with
          | error u135 =>
            rw [hx135] at hp135
            obtain ⟨rfl, hf135⟩ := hp135
            refine aw_ifN_ne (tgt := 143) (aw_d q_Xm_parseOpening 55 rfl) (by decide) (by omega) (fun c138 => by exfalso; omega) (fun c138 => ?_)
            refine aw_iconst (v := nI 0) (aw_d q_Xm_parseOpening 56 rfl) (by decide) ?_
            exact aw_zret (aw_d q_Xm_parseOpening 57 rfl) rfl (rfl) (by simp only [xo, bd_ok, bd_er, if_true, if_false, eq_self, ↓reduceIte, show ¬ (T p).toInt = 117 by omega, show ¬ (T p).toInt = 98 by omega, hx96, show (T (p82 + 1)).toInt = 120 from c111, xy, hx82, hx135]; exact CE_er hf135)
          | ok p135 =>
            rw [hx135] at hp135
            obtain ⟨rfl, rfl, hp_135⟩ := hp135
            refine aw_ifN_ne (tgt := 143) (aw_d q_Xm_parseOpening 55 rfl) (by decide) (by omega) (fun c138 => ?_) (fun c138 => by exfalso; omega)
            refine aw_aload_n (aw_d q_Xm_parseOpening 58 rfl) rfl rfl rfl ?_
            refine aw_getf (aw_d q_Xm_parseOpening 59 rfl) fL_Xm_9_Xm rfl rfl ?_
            refine aw_iload_n (aw_d q_Xm_parseOpening 60 rfl) rfl rfl ?_
            refine aw_ifN_eq (tgt := 155) (aw_d q_Xm_parseOpening 61 rfl) (by decide) (by omega) (fun c148 => by exfalso; omega) (fun c148 => ?_)
            refine aw_iconst (v := nI 3) (aw_d q_Xm_parseOpening 62 rfl) (by decide) ?_
            refine aw_goto (tgt := 156) (aw_d q_Xm_parseOpening 63 rfl) (by decide) ?_
            refine cV (aw_d q_Xm_parseOpening 65 rfl) (sp_extra_3 hc hp_135) vL_Xm_226_Sc rfl rfl rfl rfl rfl rfl ⟨aw_le rfl, aw_le rfl⟩ (fun r156 h156 hp156 => ?_)
            cases hx156 : ew T n 3 p135 with
            | error u156 =>
              rw [hx156] at hp156
              obtain ⟨rfl, hf156⟩ := hp156
              refine aw_ifN_eq (tgt := 174) (aw_d q_Xm_parseOpening 66 rfl) (by decide) (by omega) (fun c159 => ?_) (fun c159 => by exfalso; omega)
              refine aw_iconst (v := nI 0) (aw_d q_Xm_parseOpening 72 rfl) (by decide) ?_
              exact aw_zret (aw_d q_Xm_parseOpening 73 rfl) rfl (rfl) (by simp only [xo, bd_ok, bd_er, if_true, if_false, eq_self, ↓reduceIte, show ¬ (T p).toInt = 117 by omega, show ¬ (T p).toInt = 98 by omega, hx96, show (T (p82 + 1)).toInt = 120 from c111, xy, hx82, hx135, hx156]; exact CE_er hf156)
            | ok y156 =>
              rw [hx156] at hp156
              obtain ⟨rfl, ⟨w156, l156, rfl⟩, hy156⟩ := hp156
              refine aw_ifN_eq (tgt := 174) (aw_d q_Xm_parseOpening 66 rfl) (by decide) (by omega) (fun c159 => by exfalso; omega) (fun c159 => ?_)
              refine aw_aload_n (aw_d q_Xm_parseOpening 67 rfl) rfl rfl rfl ?_
              refine aw_getf (aw_d q_Xm_parseOpening 68 rfl) fL_Xm_9_Xm rfl rfl ?_
              refine aw_ldcS (aw_d q_Xm_parseOpening 69 rfl) tL_Xm_229 ?_
              refine cV (aw_d q_Xm_parseOpening 70 rfl) (sp_must hc hy156.1 (j := 81) (by decide)) vL_Xm_134_Sc rfl rfl rfl rfl rfl rfl ⟨aw_le rfl, aw_le rfl⟩ (fun r168 h168 hp168 => ?_)
              cases hx168 : mu T (tx 81) y156.1 with
              | error u168 =>
                rw [hx168] at hp168
                obtain ⟨rfl, hf168⟩ := hp168
                refine aw_ifN_ne (tgt := 176) (aw_d q_Xm_parseOpening 71 rfl) (by decide) (by omega) (fun c171 => by exfalso; omega) (fun c171 => ?_)
                refine aw_iconst (v := nI 0) (aw_d q_Xm_parseOpening 72 rfl) (by decide) ?_
                exact aw_zret (aw_d q_Xm_parseOpening 73 rfl) rfl (rfl) (by simp only [xo, bd_ok, bd_er, if_true, if_false, eq_self, ↓reduceIte, show ¬ (T p).toInt = 117 by omega, show ¬ (T p).toInt = 98 by omega, hx96, show (T (p82 + 1)).toInt = 120 from c111, xy, hx82, hx135, hx156, hx168]; exact CE_er hf168)
              | ok p168 =>
                rw [hx168] at hp168
                obtain ⟨rfl, rfl, hp_168⟩ := hp168
                refine aw_ifN_ne (tgt := 176) (aw_d q_Xm_parseOpening 71 rfl) (by decide) (by omega) (fun c171 => ?_) (fun c171 => by exfalso; omega)
                refine aw_aload_n (aw_d q_Xm_parseOpening 74 rfl) rfl rfl rfl ?_
                refine aw_getf (aw_d q_Xm_parseOpening 75 rfl) fL_Xm_9_Xm rfl rfl ?_
                refine aw_ldcS (aw_d q_Xm_parseOpening 76 rfl) tL_Xm_231 ?_
                refine cV (aw_d q_Xm_parseOpening 77 rfl) (sp_must hc hp_168 (j := 82) (by decide)) vL_Xm_134_Sc rfl rfl rfl rfl rfl rfl ⟨aw_le rfl, aw_le rfl⟩ (fun r182 h182 hp182 => ?_)
                cases hx182 : mu T (tx 82) p168 with
                | error u182 =>
                  rw [hx182] at hp182
                  obtain ⟨rfl, hf182⟩ := hp182
                  exact aw_zret (aw_d q_Xm_parseOpening 78 rfl) rfl (rfl) (by simp only [xo, bd_ok, bd_er, if_true, if_false, eq_self, ↓reduceIte, show ¬ (T p).toInt = 117 by omega, show ¬ (T p).toInt = 98 by omega, hx96, show (T (p82 + 1)).toInt = 120 from c111, xy, hx82, hx135, hx156, hx168, hx182]; exact CE_er hf182)
                | ok p182 =>
                  rw [hx182] at hp182
                  obtain ⟨rfl, rfl, hp_182⟩ := hp182
                  exact aw_zret (aw_d q_Xm_parseOpening 78 rfl) rfl (rfl) (by simp only [xo, bd_ok, bd_er, if_true, if_false, eq_self, ↓reduceIte, show ¬ (T p).toInt = 117 by omega, show ¬ (T p).toInt = 98 by omega, hx96, show (T (p82 + 1)).toInt = 120 from c111, xy, hx82, hx135, hx156, hx168, hx182]; exact CE_ok ⟨⟨_, _, rfl⟩, hp_182, by simp, hy156.2, fun h => by simp at h, fun h => by simp at h⟩)
      | inr hx96 =>
        rw [if_neg hx96, if_neg hx96] at hp96
        obtain ⟨rfl, rfl⟩ := hp96
        refine aw_ifN_eq (tgt := 176) (aw_d q_Xm_parseOpening 37 rfl) (by decide) (by omega) (fun c99 => ?_) (fun c99 => by exfalso; omega)
        refine aw_aload_n (aw_d q_Xm_parseOpening 74 rfl) rfl rfl rfl ?_
        refine aw_getf (aw_d q_Xm_parseOpening 75 rfl) fL_Xm_9_Xm rfl rfl ?_
        refine aw_ldcS (aw_d q_Xm_parseOpening 76 rfl) tL_Xm_231 ?_
        refine cV (aw_d q_Xm_parseOpening 77 rfl) (sp_must hc hp_82 (j := 82) (by decide)) vL_Xm_134_Sc rfl rfl rfl rfl rfl rfl ⟨aw_le rfl, aw_le rfl⟩ (fun r182 h182 hp182 => ?_)
        cases hx182 : mu T (tx 82) p82 with
        | error u182 =>
          rw [hx182] at hp182
          obtain ⟨rfl, hf182⟩ := hp182
          exact aw_zret (aw_d q_Xm_parseOpening 78 rfl) rfl (rfl) (by simp only [xo, bd_ok, bd_er, if_true, if_false, eq_self, ↓reduceIte, show ¬ (T p).toInt = 117 by omega, show ¬ (T p).toInt = 98 by omega, hx96, hx82, hx182]; exact CE_er hf182)
        | ok p182 =>
          rw [hx182] at hp182
          obtain ⟨rfl, rfl, hp_182⟩ := hp182
          exact aw_zret (aw_d q_Xm_parseOpening 78 rfl) rfl (rfl) (by simp only [xo, bd_ok, bd_er, if_true, if_false, eq_self, ↓reduceIte, show ¬ (T p).toInt = 117 by omega, show ¬ (T p).toInt = 98 by omega, hx96, hx82, hx182]; exact CE_ok ⟨⟨_, _, rfl⟩, hp_182, by simp, by simp, fun h => by simp at h, fun _ => rfl⟩)
set_option maxRecDepth 20000 in
theorem sp_isClosing {g : aw_G} {S : aw_S} {n : Nat} {T : Nat → Int32} {p : Nat} {q w l k e z : Int32} {X : Nat → Int32} (hc : TPc S n T) (hp : p ≤ n) : Sp g M_Xm_isClosing 1 22 0 0 [.ref 30] (HP (QC S (nI p) q w l k e z X)) (fun r h => r = some (.int (if (T p).toInt = 60 ∧ (T (p + 1)).toInt = 47 then nI 1 else nI 0)) ∧ h = HP (QC S (nI p) q w l k e z X)) := by
  refine Sp.of rfl (aw_le rfl) ?_
  refine aw_aload_n (aw_d q_Xm_isClosing 0 rfl) rfl rfl rfl ?_
  refine aw_getf (aw_d q_Xm_isClosing 1 rfl) fL_Xm_9_Xm rfl rfl ?_
  refine cVr (aw_d q_Xm_isClosing 2 rfl) (sp_next hc hp) vL_Xm_155_Sc rfl rfl rfl rfl rfl rfl ⟨aw_le rfl, aw_le rfl⟩ ?_
  refine aw_bipush (v := nI 60) (aw_d q_Xm_isClosing 3 rfl) (by decide) ?_
  refine aw_icmpI_ne (tgt := 29) (aw_d q_Xm_isClosing 4 rfl) (by decide) (by omega) (fun c9 => ?_) (fun c9 => ?_)
  · refine aw_iconst (v := nI 0) (aw_d q_Xm_isClosing 13 rfl) (by decide) ?_
    exact aw_zret (aw_d q_Xm_isClosing 14 rfl) rfl (rfl) (⟨by first | rfl | (rw [if_pos (by omega)]) | (rw [if_neg (by omega)]), rfl⟩)
  · refine aw_aload_n (aw_d q_Xm_isClosing 5 rfl) rfl rfl rfl ?_
    refine aw_getf (aw_d q_Xm_isClosing 6 rfl) fL_Xm_9_Xm rfl rfl ?_
    refine aw_iconst (v := nI 1) (aw_d q_Xm_isClosing 7 rfl) (by decide) ?_
    refine cVr (aw_d q_Xm_isClosing 8 rfl) (sp_ahead hc hp (d := 1) (by omega)) vL_Xm_158_Sc rfl rfl rfl rfl rfl rfl ⟨aw_le rfl, aw_le rfl⟩ ?_
    refine aw_bipush (v := nI 47) (aw_d q_Xm_isClosing 9 rfl) (by decide) ?_
    refine aw_icmpI_ne (tgt := 29) (aw_d q_Xm_isClosing 10 rfl) (by decide) (by omega) (fun c22 => ?_) (fun c22 => ?_)
    · refine aw_iconst (v := nI 0) (aw_d q_Xm_isClosing 13 rfl) (by decide) ?_
      exact aw_zret (aw_d q_Xm_isClosing 14 rfl) rfl (rfl) (⟨by first | rfl | (rw [if_pos (by omega)]) | (rw [if_neg (by omega)]), rfl⟩)
    · refine aw_iconst (v := nI 1) (aw_d q_Xm_isClosing 11 rfl) (by decide) ?_
      refine aw_goto (tgt := 30) (aw_d q_Xm_isClosing 12 rfl) (by decide) ?_
      exact aw_zret (aw_d q_Xm_isClosing 14 rfl) rfl (rfl) (⟨by first | rfl | (rw [if_pos (by omega)]) | (rw [if_neg (by omega)]), rfl⟩)
set_option maxRecDepth 20000 in
theorem sp_parseLiteral {g : aw_G} {S : aw_S} {n : Nat} {T : Nat → Int32} {p : Nat} {q w l k e z : Int32} {X : Nat → Int32} (hc : TPc S n T) (hp : p ≤ n) : Sp g M_Ta_parseLiteral 6 129 0 0 [.ref 32] (HP (QC S (nI p) q w l k e z X)) (CE S (bd (bt T false 21 p []) (fun z => tl T n z.1 z.2)) (fun (y : Nat × Option (Nat × Nat × List Int32)) h => y.1 ≤ n ∧ ∃ (w l : Int32) (kd ex : Nat) (M : List Int32), y.2 = some (kd, ex, M) ∧ h = HP (QC S (nI y.1) q w l (nI kd) (nI ex) (nI M.length) (XA M X)) ∧ (kd ≤ 4 ∧ ex < 676 ∧ (kd = 4 → ex < 4) ∧ (kd < 3 → ex = 0)) ∧ M.length ≤ 20 ∧ M.all pTx = true ∧ okL kd M = true)) := by
  refine Sp.of rfl (aw_le rfl) ?_
  refine aw_aload_n (aw_d q_Ta_parseLiteral 0 rfl) rfl rfl rfl ?_
  refine aw_getf (aw_d q_Ta_parseLiteral 1 rfl) fL_Ta_60_Ta rfl rfl ?_
  refine aw_iconst (v := nI 2) (aw_d q_Ta_parseLiteral 2 rfl) (by decide) ?_
  refine cVv (aw_d q_Ta_parseLiteral 3 rfl) (sp_beginTerm) vL_Ta_88_Sc rfl rfl rfl rfl rfl rfl ⟨aw_le rfl, aw_le rfl⟩ ?_
  refine aw_aload_n (aw_d q_Ta_parseLiteral 4 rfl) rfl rfl rfl ?_
  refine aw_getf (aw_d q_Ta_parseLiteral 5 rfl) fL_Ta_60_Ta rfl rfl ?_
  refine aw_iconst (v := nI 0) (aw_d q_Ta_parseLiteral 6 rfl) (by decide) ?_
  refine cV (aw_d q_Ta_parseLiteral 7 rfl) (sp_bt hc hp (sl := false)) vL_Ta_121_Sc rfl rfl rfl rfl rfl rfl ⟨aw_le rfl, aw_le rfl⟩ (fun r13 h13 hp13 => ?_)
  cases hx13 : bt T false 21 p [] with
  | error u13 =>
    rw [hx13] at hp13
    obtain ⟨rfl, hf13⟩ := hp13
    refine aw_ifN_ne (tgt := 21) (aw_d q_Ta_parseLiteral 8 rfl) (by decide) (by omega) (fun c16 => by exfalso; omega) (fun c16 => ?_)
    refine aw_iconst (v := nI 0) (aw_d q_Ta_parseLiteral 9 rfl) (by decide) ?_
    exact aw_zret (aw_d q_Ta_parseLiteral 10 rfl) rfl (rfl) (by simp only [tl, bd_ok, bd_er, if_true, if_false, eq_self, ↓reduceIte, hx13]; exact CE_er hf13)
  | ok y13 =>
    rw [hx13] at hp13
    obtain ⟨rfl, rfl, hy13⟩ := hp13
    refine aw_ifN_ne (tgt := 21) (aw_d q_Ta_parseLiteral 8 rfl) (by decide) (by omega) (fun c16 => ?_) (fun c16 => by exfalso; omega)
    refine aw_aload_n (aw_d q_Ta_parseLiteral 11 rfl) rfl rfl rfl ?_
    refine aw_getf (aw_d q_Ta_parseLiteral 12 rfl) fL_Ta_60_Ta rfl rfl ?_
    refine cVr (aw_d q_Ta_parseLiteral 13 rfl) (sp_next hc hy13.1) vL_Ta_64_Sc rfl rfl rfl rfl rfl rfl ⟨aw_le rfl, aw_le rfl⟩ ?_
    rcases (show (T y13.1).toInt = 64 ∨ (T y13.1).toInt = 94 ∨ ((T y13.1).toInt ≠ 64 ∧ (T y13.1).toInt ≠ 94) by omega) with hsw | hsw | hsw
    · refine aw_lookup (tgt := 56) (aw_d q_Ta_parseLiteral 14 rfl) (by decide) (by rw [hsw]; try rfl) (by decide) ?_
      refine aw_aload_n (aw_d q_Ta_parseLiteral 15 rfl) rfl rfl rfl ?_
      refine aw_getf (aw_d q_Ta_parseLiteral 16 rfl) fL_Ta_60_Ta rfl rfl ?_
      refine aw_ldcS (aw_d q_Ta_parseLiteral 17 rfl) tL_Ta_125 ?_
      refine cV (aw_d q_Ta_parseLiteral 18 rfl) (sp_must hc hy13.1 (j := 84) (by decide)) vL_Ta_70_Sc rfl rfl rfl rfl rfl rfl ⟨aw_le rfl, aw_le rfl⟩ (fun r62 h62 hp62 => ?_)
      cases hx62 : mu T (tx 84) y13.1 with
      | error u62 =>
        rw [hx62] at hp62
        obtain ⟨rfl, hf62⟩ := hp62
        refine aw_ifN_eq (tgt := 83) (aw_d q_Ta_parseLiteral 19 rfl) (by decide) (by omega) (fun c65 => ?_) (fun c65 => by exfalso; omega)
        refine aw_iconst (v := nI 0) (aw_d q_Ta_parseLiteral 27 rfl) (by decide) ?_
        exact aw_zret (aw_d q_Ta_parseLiteral 28 rfl) rfl (rfl) (by simp only [tl, bd_ok, bd_er, if_true, if_false, eq_self, ↓reduceIte, hsw, hx13, hx62]; exact CE_er hf62)
      | ok p62 =>
        rw [hx62] at hp62
        obtain ⟨rfl, rfl, hp_62⟩ := hp62
        refine aw_ifN_eq (tgt := 83) (aw_d q_Ta_parseLiteral 19 rfl) (by decide) (by omega) (fun c65 => by exfalso; omega) (fun c65 => ?_)
        refine aw_aload_n (aw_d q_Ta_parseLiteral 20 rfl) rfl rfl rfl ?_
        refine aw_getf (aw_d q_Ta_parseLiteral 21 rfl) fL_Ta_60_Ta rfl rfl ?_
        refine aw_iconst (v := nI 3) (aw_d q_Ta_parseLiteral 22 rfl) (by decide) ?_
        refine cV (aw_d q_Ta_parseLiteral 23 rfl) (sp_extra_3 hc hp_62) vL_Ta_127_Sc rfl rfl rfl rfl rfl rfl ⟨aw_le rfl, aw_le rfl⟩ (fun r73 h73 hp73 => ?_)
        cases hx73 : ew T n 3 p62 with
        | error u73 =>
          rw [hx73] at hp73
          obtain ⟨rfl, hf73⟩ := hp73
          refine aw_ifN_eq (tgt := 83) (aw_d q_Ta_parseLiteral 24 rfl) (by decide) (by omega) (fun c76 => ?_) (fun c76 => by exfalso; omega)
          refine aw_iconst (v := nI 0) (aw_d q_Ta_parseLiteral 27 rfl) (by decide) ?_
          exact aw_zret (aw_d q_Ta_parseLiteral 28 rfl) rfl (rfl) (by simp only [tl, bd_ok, bd_er, if_true, if_false, eq_self, ↓reduceIte, hsw, hx13, hx62, hx73]; exact CE_er hf73)
        | ok y73 =>
          rw [hx73] at hp73
          obtain ⟨rfl, ⟨w73, l73, rfl⟩, hy73⟩ := hp73
          refine aw_ifN_eq (tgt := 83) (aw_d q_Ta_parseLiteral 24 rfl) (by decide) (by omega) (fun c76 => by exfalso; omega) (fun c76 => ?_)
          refine aw_iconst (v := nI 1) (aw_d q_Ta_parseLiteral 25 rfl) (by decide) ?_
          refine aw_goto (tgt := 84) (aw_d q_Ta_parseLiteral 26 rfl) (by decide) ?_
          exact aw_zret (aw_d q_Ta_parseLiteral 28 rfl) rfl (rfl) (by simp only [tl, bd_ok, bd_er, if_true, if_false, eq_self, ↓reduceIte, hsw, hx13, hx62, hx73]; exact CE_ok ⟨hy73.1, _, _, 3, y73.2, y13.2, rfl, rfl, ⟨by decide, hy73.2, fun h => absurd h (by decide), fun h => absurd h (by decide)⟩, hy13.2.1, hy13.2.2, rfl⟩)
    · refine aw_lookup (tgt := 85) (aw_d q_Ta_parseLiteral 14 rfl) (by decide) (by rw [hsw]; try rfl) (by decide) ?_
      refine aw_aload_n (aw_d q_Ta_parseLiteral 29 rfl) rfl rfl rfl ?_
      refine aw_getf (aw_d q_Ta_parseLiteral 30 rfl) fL_Ta_60_Ta rfl rfl ?_
      refine aw_ldcS (aw_d q_Ta_parseLiteral 31 rfl) tL_Ta_130 ?_
      refine cV (aw_d q_Ta_parseLiteral 32 rfl) (sp_must hc hy13.1 (j := 85) (by decide)) vL_Ta_70_Sc rfl rfl rfl rfl rfl rfl ⟨aw_le rfl, aw_le rfl⟩ (fun r91 h91 hp91 => ?_)
      cases hx91 : mu T (tx 85) y13.1 with
      | error u91 =>
        rw [hx91] at hp91
        obtain ⟨rfl, hf91⟩ := hp91
        refine aw_ifN_eq (tgt := 112) (aw_d q_Ta_parseLiteral 33 rfl) (by decide) (by omega) (fun c94 => ?_) (fun c94 => by exfalso; omega)
        refine aw_iconst (v := nI 0) (aw_d q_Ta_parseLiteral 41 rfl) (by decide) ?_
        exact aw_zret (aw_d q_Ta_parseLiteral 42 rfl) rfl (rfl) (by simp only [tl, bd_ok, bd_er, if_true, if_false, eq_self, ↓reduceIte, show ¬ (T y13.1).toInt = 64 by omega, hsw, hx13, hx91]; exact CE_er hf91)
      | ok p91 =>
        rw [hx91] at hp91
        obtain ⟨rfl, rfl, hp_91⟩ := hp91
        refine aw_ifN_eq (tgt := 112) (aw_d q_Ta_parseLiteral 33 rfl) (by decide) (by omega) (fun c94 => by exfalso; omega) (fun c94 => ?_)
        refine aw_aload_n (aw_d q_Ta_parseLiteral 34 rfl) rfl rfl rfl ?_
        refine aw_getf (aw_d q_Ta_parseLiteral 35 rfl) fL_Ta_60_Ta rfl rfl ?_
        refine aw_iconst (v := nI 4) (aw_d q_Ta_parseLiteral 36 rfl) (by decide) ?_
        refine cV (aw_d q_Ta_parseLiteral 37 rfl) (sp_extra_4 hc hp_91) vL_Ta_127_Sc rfl rfl rfl rfl rfl rfl ⟨aw_le rfl, aw_le rfl⟩ (fun r102 h102 hp102 => ?_)
        cases hx102 : ew T n 4 p91 with
        | error u102 =>
          rw [hx102] at hp102
          obtain ⟨rfl, hf102⟩ := hp102
          refine aw_ifN_eq (tgt := 112) (aw_d q_Ta_parseLiteral 38 rfl) (by decide) (by omega) (fun c105 => ?_) (fun c105 => by exfalso; omega)
          refine aw_iconst (v := nI 0) (aw_d q_Ta_parseLiteral 41 rfl) (by decide) ?_
          exact aw_zret (aw_d q_Ta_parseLiteral 42 rfl) rfl (rfl) (by simp only [tl, bd_ok, bd_er, if_true, if_false, eq_self, ↓reduceIte, show ¬ (T y13.1).toInt = 64 by omega, hsw, hx13, hx91, hx102]; exact CE_er hf102)
        | ok y102 =>
          rw [hx102] at hp102
          obtain ⟨rfl, ⟨w102, l102, rfl⟩, hy102⟩ := hp102
          refine aw_ifN_eq (tgt := 112) (aw_d q_Ta_parseLiteral 38 rfl) (by decide) (by omega) (fun c105 => by exfalso; omega) (fun c105 => ?_)
          refine aw_iconst (v := nI 1) (aw_d q_Ta_parseLiteral 39 rfl) (by decide) ?_
          refine aw_goto (tgt := 113) (aw_d q_Ta_parseLiteral 40 rfl) (by decide) ?_
          exact aw_zret (aw_d q_Ta_parseLiteral 42 rfl) rfl (rfl) (by simp only [tl, bd_ok, bd_er, if_true, if_false, eq_self, ↓reduceIte, show ¬ (T y13.1).toInt = 64 by omega, hsw, hx13, hx91, hx102]; exact CE_ok ⟨hy102.1, _, _, 4, y102.2, y13.2, rfl, rfl, ⟨by decide, Nat.lt_trans hy102.2 (by decide), fun _ => hy102.2, fun h => absurd h (by decide)⟩, hy13.2.1, hy13.2.2, rfl⟩)
    · refine aw_lookup (tgt := 114) (aw_d q_Ta_parseLiteral 14 rfl) (by decide) (lk_out (by intro q hq; simp at hq; rcases hq with rfl | rfl <;> (dsimp only; omega))) (by decide) ?_
      refine aw_iconst (v := nI 1) (aw_d q_Ta_parseLiteral 43 rfl) (by decide) ?_
      exact aw_zret (aw_d q_Ta_parseLiteral 44 rfl) rfl (rfl) (by simp only [tl, bd_ok, bd_er, if_true, if_false, eq_self, ↓reduceIte, show ¬ (T y13.1).toInt = 64 by omega, show ¬ (T y13.1).toInt = 94 by omega, hx13]; exact CE_ok ⟨hy13.1, _, _, 2, 0, y13.2, rfl, rfl, ⟨by decide, by decide, fun h => absurd h (by decide), fun _ => rfl⟩, hy13.2.1, hy13.2.2, rfl⟩)
set_option maxRecDepth 20000 in
theorem sp_ci {g : aw_G} {S : aw_S} {n : Nat} {T : Nat → Int32} {p : Nat} {q w l : Int32} {X : Nat → Int32} (hc : TPc S n T) (hp : p ≤ n) : Sp g M_Cm_parseTerm 7 156 0 0 [.ref 31] (HP (QC S (nI p) q w l (-1) (nI 0) (nI 0) X)) (CE S (ci T p) (fun (y : Nat × Option (Nat × Nat × List Int32)) h => y.1 ≤ n ∧ ((y.2 = none ∧ h = HP (QC S (nI y.1) q w l (-1) (nI 0) (nI 0) X)) ∨ ∃ (w l : Int32) (kd ex : Nat) (M : List Int32), y.2 = some (kd, ex, M) ∧ h = HP (QC S (nI y.1) q w l (nI kd) (nI ex) (nI M.length) (XA M X)) ∧ (kd ≤ 4 ∧ ex < 676 ∧ (kd = 4 → ex < 4) ∧ (kd < 3 → ex = 0)) ∧ M.length ≤ 20 ∧ M.all pTx = true ∧ okL kd M = true))) := by
  refine Sp.of rfl (aw_le rfl) ?_
  refine aw_aload_n (aw_d q_Cm_parseTerm 0 rfl) rfl rfl rfl ?_
  refine aw_getf (aw_d q_Cm_parseTerm 1 rfl) fL_Cm_59_Cm rfl rfl ?_
  refine aw_bipush (v := nI 34) (aw_d q_Cm_parseTerm 2 rfl) (by decide) ?_
  refine cV (aw_d q_Cm_parseTerm 3 rfl) (sp_took hc hp (B := 34) rfl) vL_Cm_63_Sc rfl rfl rfl rfl rfl rfl ⟨aw_le rfl, aw_le rfl⟩ (fun r6 h6 hp6 => ?_)
  cases Decidable.em ((T p).toInt = 34) with
  | inl hx6 =>
    rw [if_pos hx6, if_pos hx6] at hp6
    obtain ⟨rfl, rfl⟩ := hp6
    have hpn6 : p + 1 ≤ n := T_lt hc.2.2.2.1 (p := p) (by omega)
    refine aw_ifN_eq (tgt := 17) (aw_d q_Cm_parseTerm 4 rfl) (by decide) (by omega) (fun c9 => by exfalso; omega) (fun c9 => ?_)
    refine aw_aload_n (aw_d q_Cm_parseTerm 5 rfl) rfl rfl rfl ?_
    refine cV (aw_d q_Cm_parseTerm 6 rfl) (sp_cq hc hpn6) vL_Cm_68_Cm rfl rfl rfl rfl rfl rfl ⟨aw_le rfl, aw_le rfl⟩ (fun r13 h13 hp13 => ?_)
    cases hx13 : cq T 21 (p + 1) [] with
    | error u13 =>
      rw [hx13] at hp13
      obtain ⟨rfl, hf13⟩ := hp13
      exact aw_zret (aw_d q_Cm_parseTerm 7 rfl) rfl (rfl) (by simp only [ci, bd_ok, bd_er, if_true, if_false, eq_self, ↓reduceIte, hx6, hx13]; exact CE_er hf13)
    | ok y13 =>
      rw [hx13] at hp13
      obtain ⟨rfl, rfl, hy13⟩ := hp13
      exact aw_zret (aw_d q_Cm_parseTerm 7 rfl) rfl (rfl) (by simp only [ci, bd_ok, bd_er, if_true, if_false, eq_self, ↓reduceIte, hx6, hx13]; exact CE_ok ⟨hy13.1, Or.inr ⟨_, _, 2, 0, y13.2, rfl, rfl, ⟨by decide, by decide, fun h => absurd h (by decide), fun _ => rfl⟩, hy13.2.1, hy13.2.2, rfl⟩⟩)
  | inr hx6 =>
    rw [if_neg hx6, if_neg hx6] at hp6
    obtain ⟨rfl, rfl⟩ := hp6
    refine aw_ifN_eq (tgt := 17) (aw_d q_Cm_parseTerm 4 rfl) (by decide) (by omega) (fun c9 => ?_) (fun c9 => by exfalso; omega)
    refine aw_aload_n (aw_d q_Cm_parseTerm 8 rfl) rfl rfl rfl ?_
    refine aw_getf (aw_d q_Cm_parseTerm 9 rfl) fL_Cm_59_Cm rfl rfl ?_
    refine aw_ldcS (aw_d q_Cm_parseTerm 10 rfl) tL_Cm_29 ?_
    refine cVr (aw_d q_Cm_parseTerm 11 rfl) (sp_tookAll hc hp (j := 47) (by decide)) vL_Cm_72_Sc rfl rfl rfl rfl rfl rfl ⟨aw_le rfl, aw_le rfl⟩ ?_
    refine aw_ifB_eq (tgt := 34) (aw_d q_Cm_parseTerm 12 rfl) (by decide) (fun c26 => ?_) (fun c26 => ?_)
    · rw [if_neg c26]
      refine aw_aload_n (aw_d q_Cm_parseTerm 16 rfl) rfl rfl rfl ?_
      refine aw_getf (aw_d q_Cm_parseTerm 17 rfl) fL_Cm_59_Cm rfl rfl ?_
      refine cVr (aw_d q_Cm_parseTerm 18 rfl) (sp_next hc hp) vL_Cm_79_Sc rfl rfl rfl rfl rfl rfl ⟨aw_le rfl, aw_le rfl⟩ ?_
      refine cSr (aw_d q_Cm_parseTerm 19 rfl) (sp_isBare) sL_Cm_83 rfl rfl rfl rfl ⟨aw_le rfl, aw_le rfl⟩ ?_
      refine aw_ifB_eq (tgt := 54) (aw_d q_Cm_parseTerm 20 rfl) (by decide) (fun c44 => ?_) (fun c44 => ?_)
      · refine aw_iconst (v := nI 1) (aw_d q_Cm_parseTerm 24 rfl) (by decide) ?_
        refine aw_goto (tgt := 59) (aw_d q_Cm_parseTerm 25 rfl) (by decide) ?_
        exact aw_zret (aw_d q_Cm_parseTerm 27 rfl) rfl (rfl) (by simp only [ci, bd_ok, bd_er, if_true, if_false, eq_self, ↓reduceIte, hx6, c26, c44]; exact CE_ok ⟨hp, Or.inl ⟨rfl, rfl⟩⟩)
      · refine aw_aload_n (aw_d q_Cm_parseTerm 21 rfl) rfl rfl rfl ?_
        refine cV (aw_d q_Cm_parseTerm 22 rfl) (sp_cb hc hp) vL_Cm_86_Cm rfl rfl rfl rfl rfl rfl ⟨aw_le rfl, aw_le rfl⟩ (fun r48 h48 hp48 => ?_)
        cases hx48 : cb T 21 p [] with
        | error u48 =>
          rw [hx48] at hp48
          obtain ⟨rfl, hf48⟩ := hp48
          refine aw_ifN_eq (tgt := 58) (aw_d q_Cm_parseTerm 23 rfl) (by decide) (by omega) (fun c51 => ?_) (fun c51 => by exfalso; omega)
          refine aw_iconst (v := nI 0) (aw_d q_Cm_parseTerm 26 rfl) (by decide) ?_
          exact aw_zret (aw_d q_Cm_parseTerm 27 rfl) rfl (rfl) (by simp only [ci, bd_ok, bd_er, if_true, if_false, eq_self, ↓reduceIte, hx6, c26, c44, hx48]; exact CE_er hf48)
        | ok y48 =>
          rw [hx48] at hp48
          obtain ⟨rfl, rfl, hy48⟩ := hp48
          refine aw_ifN_eq (tgt := 58) (aw_d q_Cm_parseTerm 23 rfl) (by decide) (by omega) (fun c51 => by exfalso; omega) (fun c51 => ?_)
          refine aw_iconst (v := nI 1) (aw_d q_Cm_parseTerm 24 rfl) (by decide) ?_
          refine aw_goto (tgt := 59) (aw_d q_Cm_parseTerm 25 rfl) (by decide) ?_
          exact aw_zret (aw_d q_Cm_parseTerm 27 rfl) rfl (rfl) (by simp only [ci, bd_ok, bd_er, if_true, if_false, eq_self, ↓reduceIte, hx6, c26, c44, hx48]; exact CE_ok ⟨hy48.1, Or.inr ⟨_, _, 2, 0, y48.2, rfl, rfl, ⟨by decide, by decide, fun h => absurd h (by decide), fun _ => rfl⟩, hy48.2.1, hy48.2.2, rfl⟩⟩)
    · rw [if_pos c26]
      have hpn26 := mt_tx hc.2.2.2.1 hp (j := 47) (by decide) c26
      refine aw_aload_n (aw_d q_Cm_parseTerm 13 rfl) rfl rfl rfl ?_
      refine cV (aw_d q_Cm_parseTerm 14 rfl) (sp_bk_31 hc (p := p + 2) hpn26) vL_Cm_76_Cm rfl rfl rfl rfl rfl rfl ⟨aw_le rfl, aw_le rfl⟩ (fun r30 h30 hp30 => ?_)
      cases hx30 : bkT T (p + 2) with
      | error u30 =>
        rw [hx30] at hp30
        obtain ⟨rfl, hf30⟩ := hp30
        exact aw_zret (aw_d q_Cm_parseTerm 15 rfl) rfl (rfl) (by simp only [ci, bd_ok, bd_er, if_true, if_false, eq_self, ↓reduceIte, hx6, c26, hx30]; exact CE_er hf30)
      | ok y30 =>
        rw [hx30] at hp30
        obtain ⟨rfl, rfl, hy30⟩ := hp30
        exact aw_zret (aw_d q_Cm_parseTerm 15 rfl) rfl (rfl) (by simp only [ci, bd_ok, bd_er, if_true, if_false, eq_self, ↓reduceIte, hx6, c26, hx30]; exact CE_ok ⟨hy30.1.1, Or.inr ⟨_, _, 1, 0, y30.2, rfl, rfl, ⟨by decide, by decide, fun h => absurd h (by decide), fun _ => rfl⟩, hy30.1.2.1, hy30.1.2.2, hy30.2⟩⟩)
set_option maxRecDepth 20000 in
theorem sp_ti {g : aw_G} {S : aw_S} {n : Nat} {T : Nat → Int32} {p : Nat} {q w l : Int32} {X : Nat → Int32} (hc : TPc S n T) (hp : p ≤ n) : Sp g M_Ta_parseTerm 7 157 0 0 [.ref 32] (HP (QC S (nI p) q w l (-1) (nI 0) (nI 0) X)) (CE S (ti T n p) (fun (y : Nat × Option (Nat × Nat × List Int32)) h => y.1 ≤ n ∧ ((y.2 = none ∧ h = HP (QC S (nI y.1) q w l (-1) (nI 0) (nI 0) X)) ∨ ∃ (w l : Int32) (kd ex : Nat) (M : List Int32), y.2 = some (kd, ex, M) ∧ h = HP (QC S (nI y.1) q w l (nI kd) (nI ex) (nI M.length) (XA M X)) ∧ (kd ≤ 4 ∧ ex < 676 ∧ (kd = 4 → ex < 4) ∧ (kd < 3 → ex = 0)) ∧ M.length ≤ 20 ∧ M.all pTx = true ∧ okL kd M = true))) := by
  refine Sp.of rfl (aw_le rfl) ?_
  refine aw_aload_n (aw_d q_Ta_parseTerm 0 rfl) rfl rfl rfl ?_
  refine aw_getf (aw_d q_Ta_parseTerm 1 rfl) fL_Ta_60_Ta rfl rfl ?_
  refine cVr (aw_d q_Ta_parseTerm 2 rfl) (sp_next hc hp) vL_Ta_64_Sc rfl rfl rfl rfl rfl rfl ⟨aw_le rfl, aw_le rfl⟩ ?_
  rcases (show (T p).toInt = 34 ∨ (T p).toInt = 60 ∨ (T p).toInt = 95 ∨ ((T p).toInt ≠ 34 ∧ (T p).toInt ≠ 60 ∧ (T p).toInt ≠ 95) by omega) with hsw | hsw | hsw | hsw
  · refine aw_lookup (tgt := 90) (aw_d q_Ta_parseTerm 3 rfl) (by decide) (by rw [hsw]; try rfl) (by decide) ?_
    refine aw_aload_n (aw_d q_Ta_parseTerm 28 rfl) rfl rfl rfl ?_
    refine aw_getf (aw_d q_Ta_parseTerm 29 rfl) fL_Ta_60_Ta rfl rfl ?_
    refine aw_ldcS (aw_d q_Ta_parseTerm 30 rfl) tL_Ta_37 ?_
    refine cV (aw_d q_Ta_parseTerm 31 rfl) (sp_must hc hp (j := 52) (by decide)) vL_Ta_70_Sc rfl rfl rfl rfl rfl rfl ⟨aw_le rfl, aw_le rfl⟩ (fun r96 h96 hp96 => ?_)
    rw [show mu T (tx 52) p = .ok (p + 1) from mu1 (b := 34) (by decide) (by rw [hsw]; rfl)] at hp96
    obtain ⟨rfl, rfl, hpm⟩ := hp96
    refine aw_ifN_eq (tgt := 113) (aw_d q_Ta_parseTerm 32 rfl) (by decide) (by omega) (fun c99 => by exfalso; omega) (fun c99 => ?_)
    refine aw_aload_n (aw_d q_Ta_parseTerm 33 rfl) rfl rfl rfl ?_
    refine cV (aw_d q_Ta_parseTerm 34 rfl) (sp_parseLiteral hc hpm) vL_Ta_81_Ta rfl rfl rfl rfl rfl rfl ⟨aw_le rfl, aw_le rfl⟩ (fun r103 h103 hp103 => ?_)
    cases hx103 : bd (bt T false 21 (p + 1) []) (fun z => tl T n z.1 z.2) with
    | error u103 =>
      rw [hx103] at hp103
      obtain ⟨rfl, hf103⟩ := hp103
      refine aw_ifN_eq (tgt := 113) (aw_d q_Ta_parseTerm 35 rfl) (by decide) (by omega) (fun c106 => ?_) (fun c106 => by exfalso; omega)
      refine aw_iconst (v := nI 0) (aw_d q_Ta_parseTerm 38 rfl) (by decide) ?_
      exact aw_zret (aw_d q_Ta_parseTerm 39 rfl) rfl (rfl) (by simp only [ti, bd_ok, bd_er, if_true, if_false, eq_self, ↓reduceIte, show ¬ (T p).toInt = 60 by omega, show ¬ (T p).toInt = 95 by omega, hsw, hx103]; exact CE_er hf103)
    | ok y103 =>
      rw [hx103] at hp103
      obtain ⟨rfl, hy103, w103, l103, kd103, ex103, M103, he103, rfl, hm103⟩ := hp103
      refine aw_ifN_eq (tgt := 113) (aw_d q_Ta_parseTerm 35 rfl) (by decide) (by omega) (fun c106 => by exfalso; omega) (fun c106 => ?_)
      refine aw_iconst (v := nI 1) (aw_d q_Ta_parseTerm 36 rfl) (by decide) ?_
      refine aw_goto (tgt := 114) (aw_d q_Ta_parseTerm 37 rfl) (by decide) ?_
      exact aw_zret (aw_d q_Ta_parseTerm 39 rfl) rfl (rfl) (by simp only [ti, bd_ok, bd_er, if_true, if_false, eq_self, ↓reduceIte, show ¬ (T p).toInt = 60 by omega, show ¬ (T p).toInt = 95 by omega, hsw, hx103]; exact CE_ok ⟨hy103, Or.inr ⟨_, _, kd103, ex103, M103, he103, rfl, hm103⟩⟩)
  · refine aw_lookup (tgt := 40) (aw_d q_Ta_parseTerm 3 rfl) (by decide) (by rw [hsw]; try rfl) (by decide) ?_
    refine aw_aload_n (aw_d q_Ta_parseTerm 4 rfl) rfl rfl rfl ?_
    refine aw_getf (aw_d q_Ta_parseTerm 5 rfl) fL_Ta_60_Ta rfl rfl ?_
    refine aw_ldcS (aw_d q_Ta_parseTerm 6 rfl) tL_Ta_25 ?_
    refine cV (aw_d q_Ta_parseTerm 7 rfl) (sp_must hc hp (j := 48) (by decide)) vL_Ta_70_Sc rfl rfl rfl rfl rfl rfl ⟨aw_le rfl, aw_le rfl⟩ (fun r46 h46 hp46 => ?_)
    rw [show mu T (tx 48) p = .ok (p + 1) from mu1 (b := 60) (by decide) (by rw [hsw]; rfl)] at hp46
    obtain ⟨rfl, rfl, hpm⟩ := hp46
    refine aw_ifN_eq (tgt := 63) (aw_d q_Ta_parseTerm 8 rfl) (by decide) (by omega) (fun c49 => by exfalso; omega) (fun c49 => ?_)
    refine aw_aload_n (aw_d q_Ta_parseTerm 9 rfl) rfl rfl rfl ?_
    refine cV (aw_d q_Ta_parseTerm 10 rfl) (sp_xn hc hpm) vL_Ta_74_Ta rfl rfl rfl rfl rfl rfl ⟨aw_le rfl, aw_le rfl⟩ (fun r53 h53 hp53 => ?_)
    cases hx53 : okT 0 (p + 1) (xn T 21 (p + 1) []) with
    | error u53 =>
      rw [hx53] at hp53
      obtain ⟨rfl, hf53⟩ := hp53
      refine aw_ifN_eq (tgt := 63) (aw_d q_Ta_parseTerm 11 rfl) (by decide) (by omega) (fun c56 => ?_) (fun c56 => by exfalso; omega)
      refine aw_iconst (v := nI 0) (aw_d q_Ta_parseTerm 14 rfl) (by decide) ?_
      exact aw_zret (aw_d q_Ta_parseTerm 15 rfl) rfl (rfl) (by simp only [ti, bd_ok, bd_er, if_true, if_false, eq_self, ↓reduceIte, hsw, hx53]; exact CE_er hf53)
    | ok y53 =>
      rw [hx53] at hp53
      obtain ⟨rfl, rfl, hy53⟩ := hp53
      refine aw_ifN_eq (tgt := 63) (aw_d q_Ta_parseTerm 11 rfl) (by decide) (by omega) (fun c56 => by exfalso; omega) (fun c56 => ?_)
      refine aw_iconst (v := nI 1) (aw_d q_Ta_parseTerm 12 rfl) (by decide) ?_
      refine aw_goto (tgt := 64) (aw_d q_Ta_parseTerm 13 rfl) (by decide) ?_
      exact aw_zret (aw_d q_Ta_parseTerm 15 rfl) rfl (rfl) (by simp only [ti, bd_ok, bd_er, if_true, if_false, eq_self, ↓reduceIte, hsw, hx53]; exact CE_ok ⟨hy53.1, Or.inr ⟨_, _, 0, 0, y53.2, rfl, rfl, ⟨by decide, by decide, fun h => absurd h (by decide), fun _ => rfl⟩, hy53.2.1.2.1, hy53.2.1.2.2, hy53.2.2⟩⟩)
  · refine aw_lookup (tgt := 65) (aw_d q_Ta_parseTerm 3 rfl) (by decide) (by rw [hsw]; try rfl) (by decide) ?_
    refine aw_aload_n (aw_d q_Ta_parseTerm 16 rfl) rfl rfl rfl ?_
    refine aw_getf (aw_d q_Ta_parseTerm 17 rfl) fL_Ta_60_Ta rfl rfl ?_
    refine aw_ldcS (aw_d q_Ta_parseTerm 18 rfl) tL_Ta_33 ?_
    refine cV (aw_d q_Ta_parseTerm 19 rfl) (sp_must hc hp (j := 50) (by decide)) vL_Ta_70_Sc rfl rfl rfl rfl rfl rfl ⟨aw_le rfl, aw_le rfl⟩ (fun r71 h71 hp71 => ?_)
    cases hx71 : mu T (tx 50) p with
    | error u71 =>
      rw [hx71] at hp71
      obtain ⟨rfl, hf71⟩ := hp71
      refine aw_ifN_eq (tgt := 88) (aw_d q_Ta_parseTerm 20 rfl) (by decide) (by omega) (fun c74 => ?_) (fun c74 => by exfalso; omega)
      refine aw_iconst (v := nI 0) (aw_d q_Ta_parseTerm 26 rfl) (by decide) ?_
      exact aw_zret (aw_d q_Ta_parseTerm 27 rfl) rfl (rfl) (by simp only [ti, bd_ok, bd_er, if_true, if_false, eq_self, ↓reduceIte, show ¬ (T p).toInt = 60 by omega, hsw, hx71]; exact CE_er hf71)
    | ok p71 =>
      rw [hx71] at hp71
      obtain ⟨rfl, rfl, hp_71⟩ := hp71
      refine aw_ifN_eq (tgt := 88) (aw_d q_Ta_parseTerm 20 rfl) (by decide) (by omega) (fun c74 => by exfalso; omega) (fun c74 => ?_)
      refine aw_aload_n (aw_d q_Ta_parseTerm 21 rfl) rfl rfl rfl ?_
      refine cV (aw_d q_Ta_parseTerm 22 rfl) (sp_bk_32 hc hp_71) vL_Ta_78_Ta rfl rfl rfl rfl rfl rfl ⟨aw_le rfl, aw_le rfl⟩ (fun r78 h78 hp78 => ?_)
      cases hx78 : bkT T p71 with
      | error u78 =>
        rw [hx78] at hp78
        obtain ⟨rfl, hf78⟩ := hp78
        refine aw_ifN_eq (tgt := 88) (aw_d q_Ta_parseTerm 23 rfl) (by decide) (by omega) (fun c81 => ?_) (fun c81 => by exfalso; omega)
        refine aw_iconst (v := nI 0) (aw_d q_Ta_parseTerm 26 rfl) (by decide) ?_
        exact aw_zret (aw_d q_Ta_parseTerm 27 rfl) rfl (rfl) (by simp only [ti, bd_ok, bd_er, if_true, if_false, eq_self, ↓reduceIte, show ¬ (T p).toInt = 60 by omega, hsw, hx71, hx78]; exact CE_er hf78)
      | ok y78 =>
        rw [hx78] at hp78
        obtain ⟨rfl, rfl, hy78⟩ := hp78
        refine aw_ifN_eq (tgt := 88) (aw_d q_Ta_parseTerm 23 rfl) (by decide) (by omega) (fun c81 => by exfalso; omega) (fun c81 => ?_)
        refine aw_iconst (v := nI 1) (aw_d q_Ta_parseTerm 24 rfl) (by decide) ?_
        refine aw_goto (tgt := 89) (aw_d q_Ta_parseTerm 25 rfl) (by decide) ?_
        exact aw_zret (aw_d q_Ta_parseTerm 27 rfl) rfl (rfl) (by simp only [ti, bd_ok, bd_er, if_true, if_false, eq_self, ↓reduceIte, show ¬ (T p).toInt = 60 by omega, hsw, hx71, hx78]; exact CE_ok ⟨hy78.1.1, Or.inr ⟨_, _, 1, 0, y78.2, rfl, rfl, ⟨by decide, by decide, fun h => absurd h (by decide), fun _ => rfl⟩, hy78.1.2.1, hy78.1.2.2, hy78.2⟩⟩)
  · refine aw_lookup (tgt := 115) (aw_d q_Ta_parseTerm 3 rfl) (by decide) (lk_out (by intro q hq; simp at hq; rcases hq with rfl | rfl | rfl <;> (dsimp only; omega))) (by decide) ?_
    refine aw_iconst (v := nI 1) (aw_d q_Ta_parseTerm 40 rfl) (by decide) ?_
    exact aw_zret (aw_d q_Ta_parseTerm 41 rfl) rfl (rfl) (by simp only [ti, bd_ok, bd_er, if_true, if_false, eq_self, ↓reduceIte, show ¬ (T p).toInt = 60 by omega, show ¬ (T p).toInt = 95 by omega, show ¬ (T p).toInt = 34 by omega]; exact CE_ok ⟨hp, Or.inl ⟨rfl, rfl⟩⟩)
theorem me_n {n p u : Nat} (h : me n p = .ok u) (hu : u ≤ n) : u = n := by
  simp only [me] at h
  by_cases q : n ≤ p
  · rw [if_pos q] at h; cases h; omega
  · rw [if_neg q] at h; cases h
set_option maxRecDepth 20000 in
theorem sp_truthJ {g : aw_G} {S : aw_S} {n : Nat} {T : Nat → Int32} {q w l k e z : Int32} {X : Nat → Int32} (hc : TPc S n T) : Sp g M_Js_parseTruth 6 127 0 0 [.ref 29] (HP (QC S (nI 0) q w l k e z X)) (fun r h => match hrJ T n with
  | .ok v => r = some (.int (nI v)) ∧ v < 2 ∧ h = HP (QC S (nI n) q w l k e z X)
  | .error u => r = some (.int (-1)) ∧ CF S u h) := by
  refine Sp.of rfl (aw_le rfl) ?_
  refine aw_aload_n (aw_d q_Js_parseTruth 0 rfl) rfl rfl rfl ?_
  refine aw_getf (aw_d q_Js_parseTruth 1 rfl) fL_Js_9_Js rfl rfl ?_
  refine aw_ldcS (aw_d q_Js_parseTruth 2 rfl) tL_Js_99 ?_
  refine cV (aw_d q_Js_parseTruth 3 rfl) (sp_ml hc (Nat.zero_le n) (j := 86) (by decide)) vL_Js_101_Sc rfl rfl rfl rfl rfl rfl ⟨aw_le rfl, aw_le rfl⟩ (fun r6 h6 hp6 => ?_)
  cases hx6 : ml T n (tx 86) 0 with
  | error u6 =>
    rw [hx6] at hp6
    obtain ⟨rfl, hf6⟩ := hp6
    refine aw_ifN_ne (tgt := 14) (aw_d q_Js_parseTruth 4 rfl) (by decide) (by omega) (fun c9 => by exfalso; omega) (fun c9 => ?_)
    refine aw_iconst (v := (-1)) (aw_d q_Js_parseTruth 5 rfl) (by decide) ?_
    exact aw_iret (aw_d q_Js_parseTruth 6 rfl) rfl (by simp only [hrJ, bd_ok, bd_er, if_true, if_false, eq_self, ↓reduceIte, hx6]; exact ⟨by first | trivial | rfl, hf6⟩)
  | ok p6 =>
    rw [hx6] at hp6
    obtain ⟨rfl, rfl, hp_6⟩ := hp6
    refine aw_ifN_ne (tgt := 14) (aw_d q_Js_parseTruth 4 rfl) (by decide) (by omega) (fun c9 => ?_) (fun c9 => by exfalso; omega)
    refine aw_aload_n (aw_d q_Js_parseTruth 7 rfl) rfl rfl rfl ?_
    refine aw_getf (aw_d q_Js_parseTruth 8 rfl) fL_Js_9_Js rfl rfl ?_
    refine cV (aw_d q_Js_parseTruth 9 rfl) (sp_truth hc hp_6) vL_Js_107_Sc rfl rfl rfl rfl rfl rfl ⟨aw_le rfl, aw_le rfl⟩ (fun r18 h18 hp18 => ?_)
    cases hx18 : tr T p6 with
    | error u18 =>
      rw [hx18] at hp18
      obtain ⟨rfl, hf18⟩ := hp18
      refine aw_istore_n (aw_d q_Js_parseTruth 10 rfl) rfl (aw_le rfl) rfl ?_
      refine aw_iload_n (aw_d q_Js_parseTruth 11 rfl) rfl rfl ?_
      refine aw_iconst (v := (-1)) (aw_d q_Js_parseTruth 12 rfl) (by decide) ?_
      refine aw_icmpZ_eq (tgt := 53) (aw_d q_Js_parseTruth 13 rfl) (by decide) (fun c24 => ?_) (fun c24 => by exact absurd rfl c24)
      refine aw_iconst (v := (-1)) (aw_d q_Js_parseTruth 25 rfl) (by decide) ?_
      exact aw_iret (aw_d q_Js_parseTruth 26 rfl) rfl (by simp only [hrJ, bd_ok, bd_er, if_true, if_false, eq_self, ↓reduceIte, hx6, hx18]; exact ⟨by first | trivial | rfl, hf18⟩)
    | ok y18 =>
      rw [hx18] at hp18
      obtain ⟨rfl, rfl, hy18⟩ := hp18
      refine aw_istore_n (aw_d q_Js_parseTruth 10 rfl) rfl (aw_le rfl) rfl ?_
      refine aw_iload_n (aw_d q_Js_parseTruth 11 rfl) rfl rfl ?_
      refine aw_iconst (v := (-1)) (aw_d q_Js_parseTruth 12 rfl) (by decide) ?_
      refine aw_icmpJ_eq (tgt := 53) (aw_d q_Js_parseTruth 13 rfl) (by decide) (by omega) (fun c24 => by (have := hy18.2; have h1 : (-1 : Int32).toInt = -1 := rfl; have h2 := nI_toInt (n := y18.2) (by omega); omega)) (fun c24 => ?_)
      refine aw_aload_n (aw_d q_Js_parseTruth 14 rfl) rfl rfl rfl ?_
      refine aw_getf (aw_d q_Js_parseTruth 15 rfl) fL_Js_9_Js rfl rfl ?_
      refine aw_ldcS (aw_d q_Js_parseTruth 16 rfl) tL_Js_111 ?_
      refine cV (aw_d q_Js_parseTruth 17 rfl) (sp_ml hc hy18.1 (j := 89) (by decide)) vL_Js_101_Sc rfl rfl rfl rfl rfl rfl ⟨aw_le rfl, aw_le rfl⟩ (fun r33 h33 hp33 => ?_)
      cases hx33 : ml T n (tx 89) y18.1 with
      | error u33 =>
        rw [hx33] at hp33
        obtain ⟨rfl, hf33⟩ := hp33
        refine aw_ifN_eq (tgt := 53) (aw_d q_Js_parseTruth 18 rfl) (by decide) (by omega) (fun c36 => ?_) (fun c36 => by exfalso; omega)
        refine aw_iconst (v := (-1)) (aw_d q_Js_parseTruth 25 rfl) (by decide) ?_
        exact aw_iret (aw_d q_Js_parseTruth 26 rfl) rfl (by simp only [hrJ, bd_ok, bd_er, if_true, if_false, eq_self, ↓reduceIte, hx6, hx18, hx33]; exact ⟨by first | trivial | rfl, hf33⟩)
      | ok p33 =>
        rw [hx33] at hp33
        obtain ⟨rfl, rfl, hp_33⟩ := hp33
        refine aw_ifN_eq (tgt := 53) (aw_d q_Js_parseTruth 18 rfl) (by decide) (by omega) (fun c36 => by exfalso; omega) (fun c36 => ?_)
        refine aw_aload_n (aw_d q_Js_parseTruth 19 rfl) rfl rfl rfl ?_
        refine aw_getf (aw_d q_Js_parseTruth 20 rfl) fL_Js_9_Js rfl rfl ?_
        refine cV (aw_d q_Js_parseTruth 21 rfl) (sp_mustEnd hc hp_33) vL_Js_113_Sc rfl rfl rfl rfl rfl rfl ⟨aw_le rfl, aw_le rfl⟩ (fun r43 h43 hp43 => ?_)
        cases hx43 : me n p33 with
        | error u43 =>
          rw [hx43] at hp43
          obtain ⟨rfl, hf43⟩ := hp43
          refine aw_ifN_eq (tgt := 53) (aw_d q_Js_parseTruth 22 rfl) (by decide) (by omega) (fun c46 => ?_) (fun c46 => by exfalso; omega)
          refine aw_iconst (v := (-1)) (aw_d q_Js_parseTruth 25 rfl) (by decide) ?_
          exact aw_iret (aw_d q_Js_parseTruth 26 rfl) rfl (by simp only [hrJ, bd_ok, bd_er, if_true, if_false, eq_self, ↓reduceIte, hx6, hx18, hx33, hx43]; exact ⟨by first | trivial | rfl, hf43⟩)
        | ok p43 =>
          rw [hx43] at hp43
          obtain ⟨rfl, rfl, hp_43⟩ := hp43
          refine aw_ifN_eq (tgt := 53) (aw_d q_Js_parseTruth 22 rfl) (by decide) (by omega) (fun c46 => by exfalso; omega) (fun c46 => ?_)
          refine aw_iload_n (aw_d q_Js_parseTruth 23 rfl) rfl rfl ?_
          refine aw_goto (tgt := 54) (aw_d q_Js_parseTruth 24 rfl) (by decide) ?_
          exact aw_iret (aw_d q_Js_parseTruth 26 rfl) rfl (by simp only [hrJ, bd_ok, bd_er, if_true, if_false, eq_self, ↓reduceIte, hx6, hx18, hx33, hx43]; exact ⟨by first | trivial | rfl, hy18.2, by rw [me_n hx43 hp_43]⟩)
set_option maxRecDepth 20000 in
theorem sp_truthX {g : aw_G} {S : aw_S} {n : Nat} {T : Nat → Int32} {q w l k e z : Int32} {X : Nat → Int32} (hc : TPc S n T) : Sp g M_Xm_parseTruth 6 127 0 0 [.ref 30] (HP (QC S (nI 0) q w l k e z X)) (fun r h => match hrX T n with
  | .ok v => r = some (.int (nI v)) ∧ v < 2 ∧ h = HP (QC S (nI n) q w l k e z X)
  | .error u => r = some (.int (-1)) ∧ CF S u h) := by
  refine Sp.of rfl (aw_le rfl) ?_
  refine aw_aload_n (aw_d q_Xm_parseTruth 0 rfl) rfl rfl rfl ?_
  refine aw_getf (aw_d q_Xm_parseTruth 1 rfl) fL_Xm_9_Xm rfl rfl ?_
  refine aw_ldcS (aw_d q_Xm_parseTruth 2 rfl) tL_Xm_23 ?_
  refine cV (aw_d q_Xm_parseTruth 3 rfl) (sp_must hc (Nat.zero_le n) (j := 58) (by decide)) vL_Xm_134_Sc rfl rfl rfl rfl rfl rfl ⟨aw_le rfl, aw_le rfl⟩ (fun r6 h6 hp6 => ?_)
  cases hx6 : mu T (tx 58) 0 with
  | error u6 =>
    rw [hx6] at hp6
    obtain ⟨rfl, hf6⟩ := hp6
    refine aw_ifN_ne (tgt := 14) (aw_d q_Xm_parseTruth 4 rfl) (by decide) (by omega) (fun c9 => by exfalso; omega) (fun c9 => ?_)
    refine aw_iconst (v := (-1)) (aw_d q_Xm_parseTruth 5 rfl) (by decide) ?_
    exact aw_iret (aw_d q_Xm_parseTruth 6 rfl) rfl (by simp only [hrX, bd_ok, bd_er, if_true, if_false, eq_self, ↓reduceIte, hx6]; exact ⟨by first | trivial | rfl, hf6⟩)
  | ok p6 =>
    rw [hx6] at hp6
    obtain ⟨rfl, rfl, hp_6⟩ := hp6
    refine aw_ifN_ne (tgt := 14) (aw_d q_Xm_parseTruth 4 rfl) (by decide) (by omega) (fun c9 => ?_) (fun c9 => by exfalso; omega)
    refine aw_aload_n (aw_d q_Xm_parseTruth 7 rfl) rfl rfl rfl ?_
    refine aw_getf (aw_d q_Xm_parseTruth 8 rfl) fL_Xm_9_Xm rfl rfl ?_
    refine cV (aw_d q_Xm_parseTruth 9 rfl) (sp_truth hc hp_6) vL_Xm_140_Sc rfl rfl rfl rfl rfl rfl ⟨aw_le rfl, aw_le rfl⟩ (fun r18 h18 hp18 => ?_)
    cases hx18 : tr T p6 with
    | error u18 =>
      rw [hx18] at hp18
      obtain ⟨rfl, hf18⟩ := hp18
      refine aw_istore_n (aw_d q_Xm_parseTruth 10 rfl) rfl (aw_le rfl) rfl ?_
      refine aw_iload_n (aw_d q_Xm_parseTruth 11 rfl) rfl rfl ?_
      refine aw_iconst (v := (-1)) (aw_d q_Xm_parseTruth 12 rfl) (by decide) ?_
      refine aw_icmpZ_eq (tgt := 53) (aw_d q_Xm_parseTruth 13 rfl) (by decide) (fun c24 => ?_) (fun c24 => by exact absurd rfl c24)
      refine aw_iconst (v := (-1)) (aw_d q_Xm_parseTruth 25 rfl) (by decide) ?_
      exact aw_iret (aw_d q_Xm_parseTruth 26 rfl) rfl (by simp only [hrX, bd_ok, bd_er, if_true, if_false, eq_self, ↓reduceIte, hx6, hx18]; exact ⟨by first | trivial | rfl, hf18⟩)
    | ok y18 =>
      rw [hx18] at hp18
      obtain ⟨rfl, rfl, hy18⟩ := hp18
      refine aw_istore_n (aw_d q_Xm_parseTruth 10 rfl) rfl (aw_le rfl) rfl ?_
      refine aw_iload_n (aw_d q_Xm_parseTruth 11 rfl) rfl rfl ?_
      refine aw_iconst (v := (-1)) (aw_d q_Xm_parseTruth 12 rfl) (by decide) ?_
      refine aw_icmpJ_eq (tgt := 53) (aw_d q_Xm_parseTruth 13 rfl) (by decide) (by omega) (fun c24 => by (have := hy18.2; have h1 : (-1 : Int32).toInt = -1 := rfl; have h2 := nI_toInt (n := y18.2) (by omega); omega)) (fun c24 => ?_)
      refine aw_aload_n (aw_d q_Xm_parseTruth 14 rfl) rfl rfl rfl ?_
      refine aw_getf (aw_d q_Xm_parseTruth 15 rfl) fL_Xm_9_Xm rfl rfl ?_
      refine aw_ldcS (aw_d q_Xm_parseTruth 16 rfl) tL_Xm_35 ?_
      refine cV (aw_d q_Xm_parseTruth 17 rfl) (sp_must hc hy18.1 (j := 59) (by decide)) vL_Xm_134_Sc rfl rfl rfl rfl rfl rfl ⟨aw_le rfl, aw_le rfl⟩ (fun r33 h33 hp33 => ?_)
      cases hx33 : mu T (tx 59) y18.1 with
      | error u33 =>
        rw [hx33] at hp33
        obtain ⟨rfl, hf33⟩ := hp33
        refine aw_ifN_eq (tgt := 53) (aw_d q_Xm_parseTruth 18 rfl) (by decide) (by omega) (fun c36 => ?_) (fun c36 => by exfalso; omega)
        refine aw_iconst (v := (-1)) (aw_d q_Xm_parseTruth 25 rfl) (by decide) ?_
        exact aw_iret (aw_d q_Xm_parseTruth 26 rfl) rfl (by simp only [hrX, bd_ok, bd_er, if_true, if_false, eq_self, ↓reduceIte, hx6, hx18, hx33]; exact ⟨by first | trivial | rfl, hf33⟩)
      | ok p33 =>
        rw [hx33] at hp33
        obtain ⟨rfl, rfl, hp_33⟩ := hp33
        refine aw_ifN_eq (tgt := 53) (aw_d q_Xm_parseTruth 18 rfl) (by decide) (by omega) (fun c36 => by exfalso; omega) (fun c36 => ?_)
        refine aw_aload_n (aw_d q_Xm_parseTruth 19 rfl) rfl rfl rfl ?_
        refine aw_getf (aw_d q_Xm_parseTruth 20 rfl) fL_Xm_9_Xm rfl rfl ?_
        refine cV (aw_d q_Xm_parseTruth 21 rfl) (sp_mustEnd hc hp_33) vL_Xm_144_Sc rfl rfl rfl rfl rfl rfl ⟨aw_le rfl, aw_le rfl⟩ (fun r43 h43 hp43 => ?_)
        cases hx43 : me n p33 with
        | error u43 =>
          rw [hx43] at hp43
          obtain ⟨rfl, hf43⟩ := hp43
          refine aw_ifN_eq (tgt := 53) (aw_d q_Xm_parseTruth 22 rfl) (by decide) (by omega) (fun c46 => ?_) (fun c46 => by exfalso; omega)
          refine aw_iconst (v := (-1)) (aw_d q_Xm_parseTruth 25 rfl) (by decide) ?_
          exact aw_iret (aw_d q_Xm_parseTruth 26 rfl) rfl (by simp only [hrX, bd_ok, bd_er, if_true, if_false, eq_self, ↓reduceIte, hx6, hx18, hx33, hx43]; exact ⟨by first | trivial | rfl, hf43⟩)
        | ok p43 =>
          rw [hx43] at hp43
          obtain ⟨rfl, rfl, hp_43⟩ := hp43
          refine aw_ifN_eq (tgt := 53) (aw_d q_Xm_parseTruth 22 rfl) (by decide) (by omega) (fun c46 => by exfalso; omega) (fun c46 => ?_)
          refine aw_iload_n (aw_d q_Xm_parseTruth 23 rfl) rfl rfl ?_
          refine aw_goto (tgt := 54) (aw_d q_Xm_parseTruth 24 rfl) (by decide) ?_
          exact aw_iret (aw_d q_Xm_parseTruth 26 rfl) rfl (by simp only [hrX, bd_ok, bd_er, if_true, if_false, eq_self, ↓reduceIte, hx6, hx18, hx33, hx43]; exact ⟨by first | trivial | rfl, hy18.2, by rw [me_n hx43 hp_43]⟩)
