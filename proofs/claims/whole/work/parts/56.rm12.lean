set_option maxRecDepth 20000 in
theorem sp_must1 {g : aw_G} {S : aw_S} {n : Nat} {T : Nat → Int32} {p : Nat} {f z : Int32} {X : Nat → Int32} {x : Int64} (hc : TPm S n T) (hp : p ≤ n)  : Sp g M_Mo_must 1 21 0 0 [.ref 33, .long x, .int (nI 1)] (HP (QM S (nI p) (-1) f z X)) (fun r h => r = none ∧ (((T p).toInt = (bM x 0).toInt ∧ h = HP (QM S (nI (p + 1)) (-1) f z X)) ∨ (¬ (T p).toInt = (bM x 0).toInt ∧ h = HP (QM S (nI p) (nI p) f z X)))) := by
  refine Sp.of rfl (aw_le rfl) ?_
  have hc2 := hc.2.1
  refine aw_iload_n (aw_d q_Mo_must 0 rfl) rfl rfl ?_
  refine aw_iconst (v := nI 1) (aw_d q_Mo_must 1 rfl) (by decide) ?_
  refine aw_isub (aw_d q_Mo_must 2 rfl) ?_
  refine aw_istore (aw_d q_Mo_must 3 rfl) (aw_le rfl) rfl ?_
  refine aw_iload (aw_d q_Mo_must 4 rfl) rfl ?_
  refine aw_ifI_lt (tgt := 63) (aw_d q_Mo_must 5 rfl) (by decide) (fun c7 => by exact absurd c7 (by decide)) (fun c7 => ?_)
  refine aw_aload_n (aw_d q_Mo_must 6 rfl) rfl rfl rfl ?_
  refine cVr (aw_d q_Mo_must 7 rfl) (sp_goesA) vL_Mo_327_Mo rfl rfl rfl rfl rfl rfl ⟨aw_le rfl, aw_le rfl⟩ ?_
  refine aw_ifN_eq (tgt := 63) (aw_d q_Mo_must 8 rfl) (by decide) (by omega) (fun c14 => by exfalso; omega) (fun c14 => ?_)
  refine aw_aload_n (aw_d q_Mo_must 9 rfl) rfl rfl rfl ?_
  refine cVr (aw_d q_Mo_must 10 rfl) (sp_peek hc (b := p) (by omega)) vL_Mo_331_Mo rfl rfl rfl rfl rfl rfl ⟨aw_le rfl, aw_le rfl⟩ ?_
  refine aw_lload_n (aw_d q_Mo_must 11 rfl) rfl rfl ?_
  refine aw_bipush (v := nI 8) (aw_d q_Mo_must 12 rfl) (by decide) ?_
  refine aw_iload (aw_d q_Mo_must 13 rfl) rfl ?_
  refine aw_imul (aw_d q_Mo_must 14 rfl) ?_
  refine aw_lshr (aw_d q_Mo_must 15 rfl) ?_
  refine aw_ldc2 (aw_d q_Mo_must 16 rfl) lL_Mo_88 ?_
  refine aw_land (aw_d q_Mo_must 17 rfl) ?_
  refine aw_l2i (aw_d q_Mo_must 18 rfl) ?_
  refine aw_icmpZ_ne (tgt := 49) (aw_d q_Mo_must 19 rfl) (by decide) (fun c33 => ?_) (fun c33 => ?_)
  · have e33 : nI 8 * (nI 1 - nI 1) = nI (8 * 0) := by decide
    rw [e33] at c33
    have c33 : ¬ (T p).toInt = (bM x 0).toInt := c33
    refine aw_aload_n (aw_d q_Mo_must 27 rfl) rfl rfl rfl ?_
    refine aw_aload_n (aw_d q_Mo_must 28 rfl) rfl rfl rfl ?_
    refine aw_getf (v := .int (nI (p))) (aw_d q_Mo_must 29 rfl) fL_Mo_324_Mo rfl (gk rfl) ?_
    refine cVv (aw_d q_Mo_must 30 rfl) (sp_mfailA) vL_Mo_334_Mo rfl rfl rfl rfl rfl rfl ⟨aw_le rfl, aw_le rfl⟩ ?_
    refine aw_iinc (aw_d q_Mo_must 31 rfl) rfl rfl (aw_le rfl) rfl ?_
    refine aw_goto (tgt := 5) (aw_d q_Mo_must 32 rfl) (by decide) ?_
    refine aw_iload (aw_d q_Mo_must 4 rfl) rfl ?_
    refine aw_ifI_lt (tgt := 63) (aw_d q_Mo_must 5 rfl) (by decide) (fun c7 => ?_) (fun c7 => by exact absurd (show (nI 1 - nI 1 + Int32.ofInt (-1)).toInt < 0 by decide) (by omega))
    exact aw_vret (aw_d q_Mo_must 33 rfl) rfl (⟨rfl, Or.inr ⟨c33, rfl⟩⟩)
  · have e33 : nI 8 * (nI 1 - nI 1) = nI (8 * 0) := by decide
    rw [e33] at c33
    have c33 : (T p).toInt = (bM x 0).toInt := c33
    refine aw_aload_n (aw_d q_Mo_must 20 rfl) rfl rfl rfl ?_
    refine aw_dup (aw_d q_Mo_must 21 rfl) rfl ?_
    refine aw_getf (v := .int (nI (p))) (aw_d q_Mo_must 22 rfl) fL_Mo_324_Mo rfl (gk rfl) ?_
    refine aw_iconst (v := nI 1) (aw_d q_Mo_must 23 rfl) (by decide) ?_
    refine aw_iaddN (aw_d q_Mo_must 24 rfl) ?_
    refine wi_33_31 (aw_d q_Mo_must 25 rfl) pL_Mo_324_Mo ?_
    refine aw_goto (tgt := 57) (aw_d q_Mo_must 26 rfl) (by decide) ?_
    refine aw_iinc (aw_d q_Mo_must 31 rfl) rfl rfl (aw_le rfl) rfl ?_
    refine aw_goto (tgt := 5) (aw_d q_Mo_must 32 rfl) (by decide) ?_
    refine aw_iload (aw_d q_Mo_must 4 rfl) rfl ?_
    refine aw_ifI_lt (tgt := 63) (aw_d q_Mo_must 5 rfl) (by decide) (fun c7 => ?_) (fun c7 => by exact absurd (show (nI 1 - nI 1 + Int32.ofInt (-1)).toInt < 0 by decide) (by omega))
    exact aw_vret (aw_d q_Mo_must 33 rfl) rfl (⟨rfl, Or.inl ⟨c33, rfl⟩⟩)
def llV (c : Bool) (T : Nat → Int32) (n p : Nat) (N : nm_T) (m r : Nat) (s : sq_T) : Except Nat (Nat × rd_T) := bd (ls c T n N.1 m p r s) (fun z => .ok (z.1, N, z.2))
def lmV (c : Bool) (T : Nat → Int32) (n p : Nat) (N : nm_T) : Except Nat (Nat × rd_T) := bd (mu T (w_le c) p) (fun p => llV c T n p N 25 0 [])
def rLp (c : Bool) (T : Nat → Int32) (n : Nat) (N : nm_T) : Except Nat (Nat × rd_T) := bd (ln c T n N 0) (fun y => llV c T n y.1 y.2 25 0 [])
theorem rLp_L {c : Bool} {T : Nat → Int32} {n : Nat} {N : nm_T} : rdL c T n N = bd (rLp c T n N) (fun y => .ok y.2) := by simp only [rLp, llV, rdL, bd_bd, bd_ok]
set_option maxRecDepth 20000 in
theorem sp_Uend_t {g : aw_G} {S : aw_S} {n : Nat} {T : Nat → Int32} {b : Nat} {q f z : Int32} {X : Nat → Int32} {β : Type} {res : Except Nat (Nat × β)} {A : List Int32} (hc : TPm S n T) (hr : RR n (bp res (mu T A)) b q) : Sp g M_Mo_lineEnd 2 45 0 0 [.ref 33, .int (nI 1)] (HP (QM S (nI b) q f z X)) (fun r h => r = none ∧ ∃ (b : Nat) (q : Int32), RR n (bp res (mu T (A ++ w_le true))) b q ∧ h = HP (QM S (nI b) q f z X)) := by
  refine Sp.of rfl (aw_le rfl) ?_
  refine aw_iload_n (aw_d q_Mo_lineEnd 0 rfl) rfl rfl ?_
  refine aw_ifN_eq (tgt := 12) (aw_d q_Mo_lineEnd 1 rfl) (by decide) (by omega) (fun c1 => by exfalso; omega) (fun c1 => ?_)
  refine aw_aload_n (aw_d q_Mo_lineEnd 2 rfl) rfl rfl rfl ?_
  refine aw_ldc2 (aw_d q_Mo_lineEnd 3 rfl) lL_Mo_451 ?_
  refine aw_iconst (v := nI 1) (aw_d q_Mo_lineEnd 4 rfl) (by decide) ?_
  refine cV (aw_d q_Mo_lineEnd 5 rfl) (sp_Umust (res := res) (A := A) (x := 13) (j := 1) hc (by decide) hr) vL_Mo_340_Mo rfl rfl rfl rfl rfl rfl ⟨aw_le rfl, aw_le rfl⟩ (fun r9 h9 hp9 => ?_)
  obtain ⟨rfl, b9, q9, hr9, rfl⟩ := hp9
  refine aw_aload_n (aw_d q_Mo_lineEnd 6 rfl) rfl rfl rfl ?_
  refine aw_ldc2 (aw_d q_Mo_lineEnd 7 rfl) lL_Mo_453 ?_
  refine aw_iconst (v := nI 1) (aw_d q_Mo_lineEnd 8 rfl) (by decide) ?_
  refine cV (aw_d q_Mo_lineEnd 9 rfl) (sp_Umust (res := res) (A := (A ++ eB 13 1)) (x := 10) (j := 1) hc (by decide) hr9) vL_Mo_340_Mo rfl rfl rfl rfl rfl rfl ⟨aw_le rfl, aw_le rfl⟩ (fun r17 h17 hp17 => ?_)
  obtain ⟨rfl, b17, q17, hr17, rfl⟩ := hp17
  exact aw_vret (aw_d q_Mo_lineEnd 10 rfl) rfl (⟨rfl, _, _, by rw [show A ++ w_le true = (A ++ eB 13 1) ++ eB 10 1 by rw [List.append_assoc]; rfl]; exact hr17, rfl⟩)
set_option maxRecDepth 20000 in
theorem sp_endLI_t {g : aw_G} {S : aw_S} {u b : Nat} {f z : Int32} {X : Nat → Int32} (hu : u ≤ 3000) (hb : b ≤ 3010)  : Sp g M_Mo_lineEnd 2 45 0 0 [.ref 33, .int (nI 1)] (HP (QM S (nI b) (nI u) f z X)) (fun r h => r = none ∧ h = HP (QM S (nI b) (nI u) f z X)) := by
  refine Sp.of rfl (aw_le rfl) ?_
  refine aw_iload_n (aw_d q_Mo_lineEnd 0 rfl) rfl rfl ?_
  refine aw_ifN_eq (tgt := 12) (aw_d q_Mo_lineEnd 1 rfl) (by decide) (by omega) (fun c1 => by exfalso; omega) (fun c1 => ?_)
  refine aw_aload_n (aw_d q_Mo_lineEnd 2 rfl) rfl rfl rfl ?_
  refine aw_ldc2 (aw_d q_Mo_lineEnd 3 rfl) lL_Mo_451 ?_
  refine aw_iconst (v := nI 1) (aw_d q_Mo_lineEnd 4 rfl) (by decide) ?_
  refine cVv (aw_d q_Mo_lineEnd 5 rfl) (sp_mustI hu (by decide)) vL_Mo_340_Mo rfl rfl rfl rfl rfl rfl ⟨aw_le rfl, aw_le rfl⟩ ?_
  refine aw_aload_n (aw_d q_Mo_lineEnd 6 rfl) rfl rfl rfl ?_
  refine aw_ldc2 (aw_d q_Mo_lineEnd 7 rfl) lL_Mo_453 ?_
  refine aw_iconst (v := nI 1) (aw_d q_Mo_lineEnd 8 rfl) (by decide) ?_
  refine cVv (aw_d q_Mo_lineEnd 9 rfl) (sp_mustI hu (by decide)) vL_Mo_340_Mo rfl rfl rfl rfl rfl rfl ⟨aw_le rfl, aw_le rfl⟩ ?_
  exact aw_vret (aw_d q_Mo_lineEnd 10 rfl) rfl (⟨rfl, rfl⟩)
set_option maxRecDepth 20000 in
theorem li_116_t {g : aw_G} {S D : aw_S} {n u b : Nat} {f z : Int32} {X : Nat → Int32} {x4 : Int32} {x5 : Option Value} {res : Except Nat (Nat × rd_T)} (he : res = .error u) (hu : u ≤ 3000) (hF : frM S D) (hb : b ≤ 3010) : AW g M_Mo_readLines (aw_rm 5 112 0 0) (aw_F g 0 0 (rpM S n (res))) 116 [some (.ref 33), some (.int (nI 1)), some (.int (nI 44)), some (.int (nI 13)), some (.int x4), x5] [] (HP (QM D (nI b) (nI u) f z X)) 0 0 := by
  refine aw_aload_n (aw_d q_Mo_readLines 58 rfl) rfl rfl rfl ?_
  refine cVr (aw_d q_Mo_readLines 59 rfl) (sp_goesI hu) vL_Mo_327_Mo rfl rfl rfl rfl rfl rfl ⟨aw_le rfl, aw_le rfl⟩ ?_
  refine aw_ifN_eq (tgt := 206) (aw_d q_Mo_readLines 60 rfl) (by decide) (by omega) (fun c120 => ?_) (fun c120 => by exfalso; omega)
  exact aw_vret (aw_d q_Mo_readLines 101 rfl) rfl (by rw [he]; exact rpM_er hu hF hb)
set_option maxRecDepth 20000 in
theorem lp_lv_t {g : aw_G} {S : aw_S} {n : Nat} {T : Nat → Int32} (hc : TPm S n T) {N : nm_T} {r : Nat} {res : Except Nat (Nat × rd_T)} {XB : Except Nat (Nat × sq_T)} (KO : ∀ (p : Nat) (s : sq_T) (D : aw_S) (f z : Int32) (X : Nat → Int32) (x4 : Int32) (x5 : Option Value), p ≤ n → imC S N (r + 1) s D → itOK s (r * 6 + 6) → XB = .ok (p, s) → AW g M_Mo_readLines (aw_rm 5 112 0 0) (aw_F g 0 0 (rpM S n (res))) 116 [some (.ref 33), some (.int (nI 1)), some (.int (nI 44)), some (.int (nI 13)), some (.int x4), x5] [] (HP (QM D (nI p) (-1) f z X)) 0 0) (KE : ∀ u : Nat, XB = .error u → res = .error u) : ∀ (m v p : Nat) (s : sq_T) (D : aw_S) (f z : Int32) (X : Nat → Int32) (x4 : Int32), m + v = N.1 → p ≤ n → imC S N (r + 1) s D → itOK s (r * 6 + v) → XB = lb true T n r m v p s → AW g M_Mo_readLines (aw_rm 5 112 0 0) (aw_F g 0 0 (rpM S n (res))) 145 [some (.ref 33), some (.int (nI 1)), some (.int (nI 44)), some (.int (nI 13)), some (.int x4), some (.int (nI v))] [] (HP (QM D (nI p) (-1) f z X)) 0 0 := by
  have hc2 := hc.2.1
  intro m
  induction m with
  | zero =>
    intro v p s D f z X x4 hk hp hI hs he
    refine aw_iload (aw_d q_Mo_readLines 72 rfl) rfl ?_
    refine aw_aload_n (aw_d q_Mo_readLines 73 rfl) rfl rfl rfl ?_
    refine aw_getf (v := .int (nI (N.1))) (aw_d q_Mo_readLines 74 rfl) fL_Mo_349_Mo rfl (gk hI.2.1.1) ?_
    refine aw_icmpN_ge (tgt := 198) (aw_d q_Mo_readLines 75 rfl) (by decide) (by (have hc2 := hc.2.1; have h6 := hI.2.1.2.1; omega)) (by (have hc2 := hc.2.1; have h6 := hI.2.1.2.1; omega)) (fun c151 => ?_) (fun c151 => by exfalso; (have hc2 := hc.2.1; have h6 := hI.2.1.2.1; omega))
    refine aw_aload_n (aw_d q_Mo_readLines 97 rfl) rfl rfl rfl ?_
    refine aw_iload_n (aw_d q_Mo_readLines 98 rfl) rfl rfl ?_
    refine cV (aw_d q_Mo_readLines 99 rfl) (sp_Uend_t (res := .ok (p, ())) (A := []) (frM_TP hI.1 hc) (RR_su (T := T) hp)) vL_Mo_455_Mo rfl rfl rfl rfl rfl rfl ⟨aw_le rfl, aw_le rfl⟩ (fun r200 h200 hp200 => ?_)
    obtain ⟨rfl, b200, q200, hr200, rfl⟩ := hp200
    rw [bp_ok, show mu T ([] ++ w_le true) p = mu T (w_le true) p from rfl] at hr200
    cases hx203s : mu T (w_le true) p with
    | error u203s =>
      rw [hx203s] at hr200
      obtain ⟨hu203s, rfl, hb203s⟩ := hr200
      refine aw_goto (tgt := 116) (aw_d q_Mo_readLines 100 rfl) (by decide) ?_
      exact AW.to (li_116_t (KE u203s (he.trans (by simp only [lb, bd_ok, bd_er, and_self, if_true, if_false, Bool.false_eq_true, ↓reduceIte, hx203s]))) hu203s hI.1 hb203s) rfl rfl rfl rfl
    | ok p203s =>
      rw [hx203s] at hr200
      obtain ⟨hbb203s, hp_203s, rfl⟩ := hr200
      have hbb203s : b200 = p203s := hbb203s
      subst hbb203s
      refine aw_goto (tgt := 116) (aw_d q_Mo_readLines 100 rfl) (by decide) ?_
      exact AW.to (KO b200 s D _ _ _ _ _ hp_203s hI (itOK_mono hs (by have := hI.2.1.2.1; omega)) (he.trans (by simp only [lb, bd_ok, bd_er, and_self, if_true, if_false, Bool.false_eq_true, ↓reduceIte, hx203s]))) rfl rfl rfl rfl
  | succ m ih =>
    intro v p s D f z X x4 hk hp hI hs he
    refine aw_iload (aw_d q_Mo_readLines 72 rfl) rfl ?_
    refine aw_aload_n (aw_d q_Mo_readLines 73 rfl) rfl rfl rfl ?_
    refine aw_getf (v := .int (nI (N.1))) (aw_d q_Mo_readLines 74 rfl) fL_Mo_349_Mo rfl (gk hI.2.1.1) ?_
    refine aw_icmpN_ge (tgt := 198) (aw_d q_Mo_readLines 75 rfl) (by decide) (by (have hc2 := hc.2.1; have h6 := hI.2.1.2.1; omega)) (by (have hc2 := hc.2.1; have h6 := hI.2.1.2.1; omega)) (fun c151 => by exfalso; (have hc2 := hc.2.1; have h6 := hI.2.1.2.1; omega)) (fun c151 => ?_)
    refine aw_aload_n (aw_d q_Mo_readLines 76 rfl) rfl rfl rfl ?_
    refine cVr (aw_d q_Mo_readLines 77 rfl) (sp_goesA) vL_Mo_327_Mo rfl rfl rfl rfl rfl rfl ⟨aw_le rfl, aw_le rfl⟩ ?_
    refine aw_ifN_eq (tgt := 198) (aw_d q_Mo_readLines 78 rfl) (by decide) (by (have hc2 := hc.2.1; have h6 := hI.2.1.2.1; omega)) (fun c158 => by exfalso; (have hc2 := hc.2.1; have h6 := hI.2.1.2.1; omega)) (fun c158 => ?_)
    refine aw_iload (aw_d q_Mo_readLines 79 rfl) rfl ?_
    refine aw_ifN_le (tgt := 173) (aw_d q_Mo_readLines 80 rfl) (by decide) (by (have hc2 := hc.2.1; have h6 := hI.2.1.2.1; omega)) (fun c163 => ?_) (fun c163 => ?_)
    · refine aw_iload_n (aw_d q_Mo_readLines 86 rfl) rfl rfl ?_
      refine aw_ifN_eq (tgt := 186) (aw_d q_Mo_readLines 87 rfl) (by decide) (by (have hc2 := hc.2.1; have h6 := hI.2.1.2.1; omega)) (fun c174 => by exfalso; (have hc2 := hc.2.1; have h6 := hI.2.1.2.1; omega)) (fun c174 => ?_)
      refine aw_aload_n (aw_d q_Mo_readLines 88 rfl) rfl rfl rfl ?_
      refine aw_iload (aw_d q_Mo_readLines 89 rfl) rfl ?_
      refine cV (aw_d q_Mo_readLines 90 rfl) (sp_cvA hI hs (by have := hI.2.1.2.1; omega) hc hp) vL_Mo_458_Mo rfl rfl rfl rfl rfl rfl ⟨aw_le rfl, aw_le rfl⟩ (fun r180 h180 hp180 => ?_)
      cases hx180 : cv T p with
      | error u180 =>
        rw [hx180] at hp180
        obtain ⟨rfl, hu180, F180, b180, f180, z180, X180, hF180, hb180, rfl⟩ := hp180
        refine aw_goto (tgt := 192) (aw_d q_Mo_readLines 91 rfl) (by decide) ?_
        refine aw_iinc (aw_d q_Mo_readLines 95 rfl) rfl (ii1 _) (aw_le rfl) rfl ?_
        refine aw_goto (tgt := 145) (aw_d q_Mo_readLines 96 rfl) (by decide) ?_
        refine aw_iload (aw_d q_Mo_readLines 72 rfl) rfl ?_
        refine aw_aload_n (aw_d q_Mo_readLines 73 rfl) rfl rfl rfl ?_
        refine aw_getf (aw_d q_Mo_readLines 74 rfl) fL_Mo_349_Mo rfl rfl ?_
        refine aw_icmpJ_ge (tgt := 198) (aw_d q_Mo_readLines 75 rfl) (by decide) (by (have hc2 := hc.2.1; have h6 := hI.2.1.2.1; omega)) (fun c151 => ?_) (fun c151 => ?_)
        · refine aw_aload_n (aw_d q_Mo_readLines 97 rfl) rfl rfl rfl ?_
          refine aw_iload_n (aw_d q_Mo_readLines 98 rfl) rfl rfl ?_
          refine cVv (aw_d q_Mo_readLines 99 rfl) (sp_endLI_t hu180 hb180) vL_Mo_455_Mo rfl rfl rfl rfl rfl rfl ⟨aw_le rfl, aw_le rfl⟩ ?_
          refine aw_goto (tgt := 116) (aw_d q_Mo_readLines 100 rfl) (by decide) ?_
          exact AW.to (li_116_t (KE u180 (he.trans (by simp only [lb_lv hc.2.2.2.1, lv, bd_ok, bd_er, and_self, if_true, if_false, Bool.false_eq_true, ↓reduceIte, show ¬ 0 < v by omega, hx180]))) hu180 hF180 hb180) rfl rfl rfl rfl
        · refine aw_aload_n (aw_d q_Mo_readLines 76 rfl) rfl rfl rfl ?_
          refine cVr (aw_d q_Mo_readLines 77 rfl) (sp_goesI hu180) vL_Mo_327_Mo rfl rfl rfl rfl rfl rfl ⟨aw_le rfl, aw_le rfl⟩ ?_
          refine aw_ifN_eq (tgt := 198) (aw_d q_Mo_readLines 78 rfl) (by decide) (by (have hc2 := hc.2.1; have h6 := hI.2.1.2.1; omega)) (fun c158 => ?_) (fun c158 => by exfalso; (have hc2 := hc.2.1; have h6 := hI.2.1.2.1; omega))
          refine aw_aload_n (aw_d q_Mo_readLines 97 rfl) rfl rfl rfl ?_
          refine aw_iload_n (aw_d q_Mo_readLines 98 rfl) rfl rfl ?_
          refine cVv (aw_d q_Mo_readLines 99 rfl) (sp_endLI_t hu180 hb180) vL_Mo_455_Mo rfl rfl rfl rfl rfl rfl ⟨aw_le rfl, aw_le rfl⟩ ?_
          refine aw_goto (tgt := 116) (aw_d q_Mo_readLines 100 rfl) (by decide) ?_
          exact AW.to (li_116_t (KE u180 (he.trans (by simp only [lb_lv hc.2.2.2.1, lv, bd_ok, bd_er, and_self, if_true, if_false, Bool.false_eq_true, ↓reduceIte, show ¬ 0 < v by omega, hx180]))) hu180 hF180 hb180) rfl rfl rfl rfl
      | ok y180 =>
        rw [hx180] at hp180
        obtain ⟨rfl, F180, f180, z180, X180, ⟨hI180, hs180⟩, hp_180, rfl⟩ := hp180
        refine aw_goto (tgt := 192) (aw_d q_Mo_readLines 91 rfl) (by decide) ?_
        refine aw_iinc (aw_d q_Mo_readLines 95 rfl) rfl (ii1 _) (aw_le rfl) rfl ?_
        refine aw_goto (tgt := 145) (aw_d q_Mo_readLines 96 rfl) (by decide) ?_
        exact AW.to (ih (v + 1) y180.1 _ F180 _ _ _ _ (by omega) hp_180 hI180 hs180 (he.trans (by simp only [lb_lv hc.2.2.2.1, lv, bd_ok, bd_er, and_self, if_true, if_false, Bool.false_eq_true, ↓reduceIte, show ¬ 0 < v by omega, hx180]))) rfl rfl rfl rfl
    · refine aw_aload_n (aw_d q_Mo_readLines 81 rfl) rfl rfl rfl ?_
      refine aw_iload_n (aw_d q_Mo_readLines 82 rfl) rfl rfl ?_
      refine aw_i2l (aw_d q_Mo_readLines 83 rfl) ?_
      refine aw_iconst (v := nI 1) (aw_d q_Mo_readLines 84 rfl) (by decide) ?_
      refine cV (aw_d q_Mo_readLines 85 rfl) (sp_must1 (x := (nI 44).toInt64) (frM_TP hI.1 hc) hp) vL_Mo_340_Mo rfl rfl rfl rfl rfl rfl ⟨aw_le rfl, aw_le rfl⟩ (fun r170 h170 hp170 => ?_)
      rw [show bM (nI 44).toInt64 0 = w_ls true by decide] at hp170
      obtain ⟨rfl, hp170⟩ := hp170
      rcases hp170 with ⟨hm170, rfl⟩ | ⟨hm170, rfl⟩
      · skip -- yes
        have hpn170 : p + 1 ≤ n := T_lt hc.2.2.2.1 (p := p) (by have hq : (T p).toInt = 44 := hm170; omega)
        refine aw_iload_n (aw_d q_Mo_readLines 86 rfl) rfl rfl ?_
        refine aw_ifN_eq (tgt := 186) (aw_d q_Mo_readLines 87 rfl) (by decide) (by (have hc2 := hc.2.1; have h6 := hI.2.1.2.1; omega)) (fun c174 => by exfalso; (have hc2 := hc.2.1; have h6 := hI.2.1.2.1; omega)) (fun c174 => ?_)
        refine aw_aload_n (aw_d q_Mo_readLines 88 rfl) rfl rfl rfl ?_
        refine aw_iload (aw_d q_Mo_readLines 89 rfl) rfl ?_
        refine cV (aw_d q_Mo_readLines 90 rfl) (sp_cvA hI hs (by have := hI.2.1.2.1; omega) hc hpn170) vL_Mo_458_Mo rfl rfl rfl rfl rfl rfl ⟨aw_le rfl, aw_le rfl⟩ (fun r180 h180 hp180 => ?_)
        cases hx180 : cv T (p + 1) with
        | error u180 =>
          rw [hx180] at hp180
          obtain ⟨rfl, hu180, F180, b180, f180, z180, X180, hF180, hb180, rfl⟩ := hp180
          refine aw_goto (tgt := 192) (aw_d q_Mo_readLines 91 rfl) (by decide) ?_
          refine aw_iinc (aw_d q_Mo_readLines 95 rfl) rfl (ii1 _) (aw_le rfl) rfl ?_
          refine aw_goto (tgt := 145) (aw_d q_Mo_readLines 96 rfl) (by decide) ?_
          refine aw_iload (aw_d q_Mo_readLines 72 rfl) rfl ?_
          refine aw_aload_n (aw_d q_Mo_readLines 73 rfl) rfl rfl rfl ?_
          refine aw_getf (aw_d q_Mo_readLines 74 rfl) fL_Mo_349_Mo rfl rfl ?_
          refine aw_icmpJ_ge (tgt := 198) (aw_d q_Mo_readLines 75 rfl) (by decide) (by (have hc2 := hc.2.1; have h6 := hI.2.1.2.1; omega)) (fun c151 => ?_) (fun c151 => ?_)
          · refine aw_aload_n (aw_d q_Mo_readLines 97 rfl) rfl rfl rfl ?_
            refine aw_iload_n (aw_d q_Mo_readLines 98 rfl) rfl rfl ?_
            refine cVv (aw_d q_Mo_readLines 99 rfl) (sp_endLI_t hu180 hb180) vL_Mo_455_Mo rfl rfl rfl rfl rfl rfl ⟨aw_le rfl, aw_le rfl⟩ ?_
            refine aw_goto (tgt := 116) (aw_d q_Mo_readLines 100 rfl) (by decide) ?_
            exact AW.to (li_116_t (KE u180 (he.trans (by simp only [lb_lv hc.2.2.2.1, lv, bd_ok, bd_er, and_self, if_true, if_false, Bool.false_eq_true, ↓reduceIte, show 0 < v by omega, hm170, hx180]))) hu180 hF180 hb180) rfl rfl rfl rfl
          · refine aw_aload_n (aw_d q_Mo_readLines 76 rfl) rfl rfl rfl ?_
            refine cVr (aw_d q_Mo_readLines 77 rfl) (sp_goesI hu180) vL_Mo_327_Mo rfl rfl rfl rfl rfl rfl ⟨aw_le rfl, aw_le rfl⟩ ?_
            refine aw_ifN_eq (tgt := 198) (aw_d q_Mo_readLines 78 rfl) (by decide) (by (have hc2 := hc.2.1; have h6 := hI.2.1.2.1; omega)) (fun c158 => ?_) (fun c158 => by exfalso; (have hc2 := hc.2.1; have h6 := hI.2.1.2.1; omega))
            refine aw_aload_n (aw_d q_Mo_readLines 97 rfl) rfl rfl rfl ?_
            refine aw_iload_n (aw_d q_Mo_readLines 98 rfl) rfl rfl ?_
            refine cVv (aw_d q_Mo_readLines 99 rfl) (sp_endLI_t hu180 hb180) vL_Mo_455_Mo rfl rfl rfl rfl rfl rfl ⟨aw_le rfl, aw_le rfl⟩ ?_
            refine aw_goto (tgt := 116) (aw_d q_Mo_readLines 100 rfl) (by decide) ?_
            exact AW.to (li_116_t (KE u180 (he.trans (by simp only [lb_lv hc.2.2.2.1, lv, bd_ok, bd_er, and_self, if_true, if_false, Bool.false_eq_true, ↓reduceIte, show 0 < v by omega, hm170, hx180]))) hu180 hF180 hb180) rfl rfl rfl rfl
        | ok y180 =>
          rw [hx180] at hp180
          obtain ⟨rfl, F180, f180, z180, X180, ⟨hI180, hs180⟩, hp_180, rfl⟩ := hp180
          refine aw_goto (tgt := 192) (aw_d q_Mo_readLines 91 rfl) (by decide) ?_
          refine aw_iinc (aw_d q_Mo_readLines 95 rfl) rfl (ii1 _) (aw_le rfl) rfl ?_
          refine aw_goto (tgt := 145) (aw_d q_Mo_readLines 96 rfl) (by decide) ?_
          exact AW.to (ih (v + 1) y180.1 _ F180 _ _ _ _ (by omega) hp_180 hI180 hs180 (he.trans (by simp only [lb_lv hc.2.2.2.1, lv, bd_ok, bd_er, and_self, if_true, if_false, Bool.false_eq_true, ↓reduceIte, show 0 < v by omega, hm170, hx180]))) rfl rfl rfl rfl
      · skip -- no
        refine aw_iload_n (aw_d q_Mo_readLines 86 rfl) rfl rfl ?_
        refine aw_ifN_eq (tgt := 186) (aw_d q_Mo_readLines 87 rfl) (by decide) (by (have hc2 := hc.2.1; have h6 := hI.2.1.2.1; omega)) (fun c174 => by exfalso; (have hc2 := hc.2.1; have h6 := hI.2.1.2.1; omega)) (fun c174 => ?_)
        refine aw_aload_n (aw_d q_Mo_readLines 88 rfl) rfl rfl rfl ?_
        refine aw_iload (aw_d q_Mo_readLines 89 rfl) rfl ?_
        refine cV (aw_d q_Mo_readLines 90 rfl) (sp_cvI (show p ≤ 3000 by omega) (show p ≤ 3000 by omega) (frM_TP hI.1 hc)) vL_Mo_458_Mo rfl rfl rfl rfl rfl rfl ⟨aw_le rfl, aw_le rfl⟩ (fun r180 h180 hp180 => ?_)
        obtain ⟨rfl, b180, f180, z180, X180, hb180, rfl⟩ := hp180
        refine aw_goto (tgt := 192) (aw_d q_Mo_readLines 91 rfl) (by decide) ?_
        refine aw_iinc (aw_d q_Mo_readLines 95 rfl) rfl (ii1 _) (aw_le rfl) rfl ?_
        refine aw_goto (tgt := 145) (aw_d q_Mo_readLines 96 rfl) (by decide) ?_
        refine aw_iload (aw_d q_Mo_readLines 72 rfl) rfl ?_
        refine aw_aload_n (aw_d q_Mo_readLines 73 rfl) rfl rfl rfl ?_
        refine aw_getf (aw_d q_Mo_readLines 74 rfl) fL_Mo_349_Mo rfl rfl ?_
        refine aw_icmpJ_ge (tgt := 198) (aw_d q_Mo_readLines 75 rfl) (by decide) (by (have hc2 := hc.2.1; have h6 := hI.2.1.2.1; omega)) (fun c151 => ?_) (fun c151 => ?_)
        · refine aw_aload_n (aw_d q_Mo_readLines 97 rfl) rfl rfl rfl ?_
          refine aw_iload_n (aw_d q_Mo_readLines 98 rfl) rfl rfl ?_
          refine cVv (aw_d q_Mo_readLines 99 rfl) (sp_endLI_t (show p ≤ 3000 by omega) (show b180 ≤ 3010 by omega)) vL_Mo_455_Mo rfl rfl rfl rfl rfl rfl ⟨aw_le rfl, aw_le rfl⟩ ?_
          refine aw_goto (tgt := 116) (aw_d q_Mo_readLines 100 rfl) (by decide) ?_
          exact AW.to (li_116_t (KE p (he.trans (by simp only [lb_lv hc.2.2.2.1, lv, bd_ok, bd_er, and_self, if_true, if_false, Bool.false_eq_true, ↓reduceIte, show 0 < v by omega, hm170]))) (show p ≤ 3000 by omega) hI.1 (show b180 ≤ 3010 by omega)) rfl rfl rfl rfl
        · refine aw_aload_n (aw_d q_Mo_readLines 76 rfl) rfl rfl rfl ?_
          refine cVr (aw_d q_Mo_readLines 77 rfl) (sp_goesI (show p ≤ 3000 by omega)) vL_Mo_327_Mo rfl rfl rfl rfl rfl rfl ⟨aw_le rfl, aw_le rfl⟩ ?_
          refine aw_ifN_eq (tgt := 198) (aw_d q_Mo_readLines 78 rfl) (by decide) (by (have hc2 := hc.2.1; have h6 := hI.2.1.2.1; omega)) (fun c158 => ?_) (fun c158 => by exfalso; (have hc2 := hc.2.1; have h6 := hI.2.1.2.1; omega))
          refine aw_aload_n (aw_d q_Mo_readLines 97 rfl) rfl rfl rfl ?_
          refine aw_iload_n (aw_d q_Mo_readLines 98 rfl) rfl rfl ?_
          refine cVv (aw_d q_Mo_readLines 99 rfl) (sp_endLI_t (show p ≤ 3000 by omega) (show b180 ≤ 3010 by omega)) vL_Mo_455_Mo rfl rfl rfl rfl rfl rfl ⟨aw_le rfl, aw_le rfl⟩ ?_
          refine aw_goto (tgt := 116) (aw_d q_Mo_readLines 100 rfl) (by decide) ?_
          exact AW.to (li_116_t (KE p (he.trans (by simp only [lb_lv hc.2.2.2.1, lv, bd_ok, bd_er, and_self, if_true, if_false, Bool.false_eq_true, ↓reduceIte, show 0 < v by omega, hm170]))) (show p ≤ 3000 by omega) hI.1 (show b180 ≤ 3010 by omega)) rfl rfl rfl rfl
set_option maxRecDepth 20000 in
theorem lp_lr_t {g : aw_G} {S : aw_S} {n : Nat} {T : Nat → Int32} (hc : TPm S n T) {N : nm_T} {res : Except Nat (Nat × rd_T)} : ∀ (m p r : Nat) (s : sq_T) (D : aw_S) (f z : Int32) (X : Nat → Int32) (x4 : Int32) (x5 : Option Value), 25 ≤ m + r → p ≤ n → imC S N r s D → itOK s (r * 6) → res = llV true T n p N m r s → AW g M_Mo_readLines (aw_rm 5 112 0 0) (aw_F g 0 0 (rpM S n (res))) 116 [some (.ref 33), some (.int (nI 1)), some (.int (nI 44)), some (.int (nI 13)), some (.int x4), x5] [] (HP (QM D (nI p) (-1) f z X)) 0 0 := by
  have hc2 := hc.2.1
  intro m
  induction m with
  | zero => intro p r s D f z X x4 x5 hk hp hI hs he; have := hI.2.2.2.1.2; exfalso; omega
  | succ m ih =>
    intro p r s D f z X x4 x5 hk hp hI hs he
    refine aw_aload_n (aw_d q_Mo_readLines 58 rfl) rfl rfl rfl ?_
    refine cVr (aw_d q_Mo_readLines 59 rfl) (sp_goesA) vL_Mo_327_Mo rfl rfl rfl rfl rfl rfl ⟨aw_le rfl, aw_le rfl⟩ ?_
    refine aw_ifN_eq (tgt := 206) (aw_d q_Mo_readLines 60 rfl) (by decide) (by (have hc2 := hc.2.1; have h6 := hI.2.1.2.1; omega)) (fun c120 => by exfalso; (have hc2 := hc.2.1; have h6 := hI.2.1.2.1; omega)) (fun c120 => ?_)
    refine aw_aload_n (aw_d q_Mo_readLines 61 rfl) rfl rfl rfl ?_
    refine aw_getf (v := .int (nI (p))) (aw_d q_Mo_readLines 62 rfl) fL_Mo_324_Mo rfl (gk rfl) ?_
    refine aw_aload_n (aw_d q_Mo_readLines 63 rfl) rfl rfl rfl ?_
    refine aw_getf (v := .int (nI (n))) (aw_d q_Mo_readLines 64 rfl) fL_Mo_85_Mo rfl (gk (frM_TP hI.1 hc).1) ?_
    refine aw_icmpN_ge (tgt := 206) (aw_d q_Mo_readLines 65 rfl) (by decide) (by (have hc2 := hc.2.1; have h6 := hI.2.1.2.1; omega)) (by (have hc2 := hc.2.1; have h6 := hI.2.1.2.1; omega)) (fun c131 => ?_) (fun c131 => ?_)
    · exact aw_vret (aw_d q_Mo_readLines 101 rfl) rfl (by rw [show res = .ok (p, N, r, s) from he.trans (by rw [llV, ls, if_pos (by omega), bd_ok])]; exact rpM_ok hI hs hp)
    · refine aw_aload_n (aw_d q_Mo_readLines 66 rfl) rfl rfl rfl ?_
      refine aw_aload_n (aw_d q_Mo_readLines 67 rfl) rfl rfl rfl ?_
      refine aw_getf (v := .int (nI (p))) (aw_d q_Mo_readLines 68 rfl) fL_Mo_324_Mo rfl (gk rfl) ?_
      refine cV (aw_d q_Mo_readLines 69 rfl) (sp_begA (R := r) hI hs (by rw [nI_toInt (by have := hc.2.1; omega)]; omega)) vL_Mo_395_Mo rfl rfl rfl rfl rfl rfl ⟨aw_le rfl, aw_le rfl⟩ (fun r139 h139 hp139 => ?_)
      obtain ⟨rfl, hp139⟩ := hp139
      rcases hp139 with ⟨hr139, F139, hI139, rfl⟩ | ⟨hr139, rfl⟩
      · skip -- room
        refine aw_iconst (v := nI 0) (aw_d q_Mo_readLines 70 rfl) (by decide) ?_
        refine aw_istore (aw_d q_Mo_readLines 71 rfl) (aw_le rfl) rfl ?_
        have hv : res = bd (bd (lb true T n r N.1 0 p s) (fun y => ls true T n N.1 m y.1 (r + 1) y.2)) (fun z => .ok (z.1, N, z.2)) := he.trans (by rw [llV, ls, if_neg (by omega), if_pos hr139])
        exact AW.to (lp_lv_t hc (XB := lb true T n r N.1 0 p s) (fun p s1 D f z X x4 x5 hp1 hI1 hs1 hx1 => ih p (r + 1) s1 D f z X x4 x5 (by omega) hp1 hI1 (itOK_mono hs1 (by omega)) (hv.trans (by rw [hx1, bd_ok]; rfl))) (fun u hx1 => hv.trans (by rw [hx1]; rfl)) N.1 0 p s F139 _ _ _ _ (by omega) hp hI139 hs rfl) rfl rfl rfl rfl
      · skip -- full
        refine aw_iconst (v := nI 0) (aw_d q_Mo_readLines 70 rfl) (by decide) ?_
        refine aw_istore (aw_d q_Mo_readLines 71 rfl) (aw_le rfl) rfl ?_
        refine aw_iload (aw_d q_Mo_readLines 72 rfl) rfl ?_
        refine aw_aload_n (aw_d q_Mo_readLines 73 rfl) rfl rfl rfl ?_
        refine aw_getf (aw_d q_Mo_readLines 74 rfl) fL_Mo_349_Mo rfl rfl ?_
        refine aw_icmpJ_ge (tgt := 198) (aw_d q_Mo_readLines 75 rfl) (by decide) (by (have hc2 := hc.2.1; have h6 := hI.2.1.2.1; omega)) (fun c151 => ?_) (fun c151 => ?_)
        · refine aw_aload_n (aw_d q_Mo_readLines 97 rfl) rfl rfl rfl ?_
          refine aw_iload_n (aw_d q_Mo_readLines 98 rfl) rfl rfl ?_
          refine cVv (aw_d q_Mo_readLines 99 rfl) (sp_endLI_t (show p ≤ 3000 by have := hc.2.1; omega) (show p ≤ 3010 by have := hc.2.1; omega)) vL_Mo_455_Mo rfl rfl rfl rfl rfl rfl ⟨aw_le rfl, aw_le rfl⟩ ?_
          refine aw_goto (tgt := 116) (aw_d q_Mo_readLines 100 rfl) (by decide) ?_
          exact AW.to (li_116_t (he.trans (by rw [llV, ls, if_neg (by omega), if_neg (by omega)]; rfl)) (show p ≤ 3000 by have := hc.2.1; omega) hI.1 (show p ≤ 3010 by have := hc.2.1; omega)) rfl rfl rfl rfl
        · refine aw_aload_n (aw_d q_Mo_readLines 76 rfl) rfl rfl rfl ?_
          refine cVr (aw_d q_Mo_readLines 77 rfl) (sp_goesI (show p ≤ 3000 by have := hc.2.1; omega)) vL_Mo_327_Mo rfl rfl rfl rfl rfl rfl ⟨aw_le rfl, aw_le rfl⟩ ?_
          refine aw_ifN_eq (tgt := 198) (aw_d q_Mo_readLines 78 rfl) (by decide) (by (have hc2 := hc.2.1; have h6 := hI.2.1.2.1; omega)) (fun c158 => ?_) (fun c158 => by exfalso; (have hc2 := hc.2.1; have h6 := hI.2.1.2.1; omega))
          refine aw_aload_n (aw_d q_Mo_readLines 97 rfl) rfl rfl rfl ?_
          refine aw_iload_n (aw_d q_Mo_readLines 98 rfl) rfl rfl ?_
          refine cVv (aw_d q_Mo_readLines 99 rfl) (sp_endLI_t (show p ≤ 3000 by have := hc.2.1; omega) (show p ≤ 3010 by have := hc.2.1; omega)) vL_Mo_455_Mo rfl rfl rfl rfl rfl rfl ⟨aw_le rfl, aw_le rfl⟩ ?_
          refine aw_goto (tgt := 116) (aw_d q_Mo_readLines 100 rfl) (by decide) ?_
          exact AW.to (li_116_t (he.trans (by rw [llV, ls, if_neg (by omega), if_neg (by omega)]; rfl)) (show p ≤ 3000 by have := hc.2.1; omega) hI.1 (show p ≤ 3010 by have := hc.2.1; omega)) rfl rfl rfl rfl
set_option maxRecDepth 20000 in
theorem ln_mid_t {g : aw_G} {S : aw_S} {n : Nat} {T : Nat → Int32} (hc : TPm S n T)  : ∀ (p : Nat) (N : nm_T) (D : aw_S) (f z : Int32) (X : Nat → Int32) (x4 : Int32) (x5 : Option Value), p ≤ n → imC S N 0 [] D → AW g M_Mo_readLines (aw_rm 5 112 0 0) (aw_F g 0 0 (rpM S n (lmV true T n p N))) 111 [some (.ref 33), some (.int (nI 1)), some (.int (nI 44)), some (.int (nI 13)), some (.int x4), x5] [] (HP (QM D (nI p) (-1) f z X)) 0 0 := by
  have hc2 := hc.2.1
  intro p N D f z X x4 x5 hp hI
  refine aw_aload_n (aw_d q_Mo_readLines 55 rfl) rfl rfl rfl ?_
  refine aw_iload_n (aw_d q_Mo_readLines 56 rfl) rfl rfl ?_
  refine cV (aw_d q_Mo_readLines 57 rfl) (sp_Uend_t (res := .ok (p, ())) (A := []) (frM_TP hI.1 hc) (RR_su (T := T) hp)) vL_Mo_455_Mo rfl rfl rfl rfl rfl rfl ⟨aw_le rfl, aw_le rfl⟩ (fun r113 h113 hp113 => ?_)
  obtain ⟨rfl, b113, q113, hr113, rfl⟩ := hp113
  rw [bp_ok, show mu T ([] ++ w_le true) p = mu T (w_le true) p from rfl] at hr113
  cases hxQ : mu T (w_le true) p with
  | error uQ =>
    rw [hxQ] at hr113
    obtain ⟨huQ, rfl, hbQ⟩ := hr113
    exact AW.to (li_116_t (by rw [lmV, hxQ, bd_er]) huQ hI.1 hbQ) rfl rfl rfl rfl
  | ok pQ =>
    rw [hxQ] at hr113
    obtain ⟨hbbQ, hp_Q, rfl⟩ := hr113
    have hbbQ : b113 = pQ := hbbQ
    subst hbbQ
    exact AW.to (lp_lr_t hc 25 b113 0 [] D _ _ _ _ _ (by omega) hp_Q hI itOK_nil (by rw [lmV, hxQ, bd_ok])) rfl rfl rfl rfl
set_option maxRecDepth 20000 in
theorem lp_lk2_t {g : aw_G} {S : aw_S} {n : Nat} {T : Nat → Int32} (hc : TPm S n T) {res : Except Nat (Nat × rd_T)} : ∀ (m p : Nat) (N : nm_T) (D : aw_S) (f z : Int32) (X : Nat → Int32) (x5 : Option Value), 7 ≤ m + N.1 → p ≤ n → imC S N 0 [] D → res = bd (lk true T n m p N) (fun y => llV true T n y.1 y.2 25 0 []) → AW g M_Mo_readLines (aw_rm 5 112 0 0) (aw_F g 0 0 (rpM S n (res))) 39 [some (.ref 33), some (.int (nI 1)), some (.int (nI 44)), some (.int (nI 13)), some (.int (nI 1)), x5] [] (HP (QM D (nI p) (-1) f z X)) 0 0 := by
  have hc2 := hc.2.1
  intro m
  induction m with
  | zero => intro p N D f z X x5 hk hp hI he; have := hI.2.1.2.1; exfalso; omega
  | succ m ih =>
    intro p N D f z X x5 hk hp hI he
    refine aw_iload (aw_d q_Mo_readLines 20 rfl) rfl ?_
    refine aw_ifN_eq (tgt := 111) (aw_d q_Mo_readLines 21 rfl) (by decide) (by (have hc2 := hc.2.1; have h6 := hI.2.1.2.1; omega)) (fun c41 => by exfalso; (have hc2 := hc.2.1; have h6 := hI.2.1.2.1; omega)) (fun c41 => ?_)
    refine aw_aload_n (aw_d q_Mo_readLines 22 rfl) rfl rfl rfl ?_
    refine cVr (aw_d q_Mo_readLines 23 rfl) (sp_goesA) vL_Mo_327_Mo rfl rfl rfl rfl rfl rfl ⟨aw_le rfl, aw_le rfl⟩ ?_
    refine aw_ifN_eq (tgt := 111) (aw_d q_Mo_readLines 24 rfl) (by decide) (by (have hc2 := hc.2.1; have h6 := hI.2.1.2.1; omega)) (fun c48 => by exfalso; (have hc2 := hc.2.1; have h6 := hI.2.1.2.1; omega)) (fun c48 => ?_)
    refine aw_iload_n (aw_d q_Mo_readLines 25 rfl) rfl rfl ?_
    refine aw_ifN_ne (tgt := 63) (aw_d q_Mo_readLines 26 rfl) (by decide) (by (have hc2 := hc.2.1; have h6 := hI.2.1.2.1; omega)) (fun c52 => ?_) (fun c52 => by exfalso; (have hc2 := hc.2.1; have h6 := hI.2.1.2.1; omega))
    refine aw_aload_n (aw_d q_Mo_readLines 31 rfl) rfl rfl rfl ?_
    refine cV (aw_d q_Mo_readLines 32 rfl) (sp_headA hI hc hp) vL_Mo_385_Mo rfl rfl rfl rfl rfl rfl ⟨aw_le rfl, aw_le rfl⟩ (fun r64 h64 hp64 => ?_)
    obtain ⟨rfl, hp64⟩ := hp64
    cases hx64 : nn T n N p with
    | error u64 =>
      rw [hx64] at hp64
      obtain ⟨hue64, b64, hb64, rfl⟩ := hp64
      subst hue64
      refine aw_aload_n (aw_d q_Mo_readLines 33 rfl) rfl rfl rfl ?_
      refine cVr (aw_d q_Mo_readLines 34 rfl) (sp_goesI (show u64 ≤ 3000 by have := hc.2.1; have := hp; omega)) vL_Mo_327_Mo rfl rfl rfl rfl rfl rfl ⟨aw_le rfl, aw_le rfl⟩ ?_
      refine aw_ifN_eq (tgt := 86) (aw_d q_Mo_readLines 35 rfl) (by decide) (by (have hc2 := hc.2.1; have h6 := hI.2.1.2.1; omega)) (fun c71 => ?_) (fun c71 => by exfalso; (have hc2 := hc.2.1; have h6 := hI.2.1.2.1; omega))
      refine aw_iconst (v := nI 0) (aw_d q_Mo_readLines 42 rfl) (by decide) ?_
      refine aw_istore (aw_d q_Mo_readLines 43 rfl) (aw_le rfl) rfl ?_
      refine aw_aload_n (aw_d q_Mo_readLines 44 rfl) rfl rfl rfl ?_
      refine aw_dup (aw_d q_Mo_readLines 45 rfl) rfl ?_
      refine aw_getf (v := .int (nI (b64))) (aw_d q_Mo_readLines 46 rfl) fL_Mo_324_Mo rfl (gk rfl) ?_
      refine aw_iload (aw_d q_Mo_readLines 47 rfl) rfl ?_
      refine aw_ifN_eq (tgt := 103) (aw_d q_Mo_readLines 48 rfl) (by decide) (by (have hc2 := hc.2.1; have h6 := hI.2.1.2.1; omega)) (fun c96 => ?_) (fun c96 => by exfalso; (have hc2 := hc.2.1; have h6 := hI.2.1.2.1; omega))
      refine aw_iconst (v := nI 0) (aw_d q_Mo_readLines 51 rfl) (by decide) ?_
      refine aw_iaddN (aw_d q_Mo_readLines 52 rfl) ?_
      refine wi_33_31 (aw_d q_Mo_readLines 53 rfl) pL_Mo_324_Mo ?_
      refine aw_goto (tgt := 39) (aw_d q_Mo_readLines 54 rfl) (by decide) ?_
      refine aw_iload (aw_d q_Mo_readLines 20 rfl) rfl ?_
      refine aw_ifN_eq (tgt := 111) (aw_d q_Mo_readLines 21 rfl) (by decide) (by (have hc2 := hc.2.1; have h6 := hI.2.1.2.1; omega)) (fun c41 => ?_) (fun c41 => by exfalso; (have hc2 := hc.2.1; have h6 := hI.2.1.2.1; omega))
      refine aw_aload_n (aw_d q_Mo_readLines 55 rfl) rfl rfl rfl ?_
      refine aw_iload_n (aw_d q_Mo_readLines 56 rfl) rfl rfl ?_
      refine cVv (aw_d q_Mo_readLines 57 rfl) (sp_endLI_t (show u64 ≤ 3000 by have := hc.2.1; have := hp; omega) (show b64 ≤ 3010 by have := hc.2.1; omega)) vL_Mo_455_Mo rfl rfl rfl rfl rfl rfl ⟨aw_le rfl, aw_le rfl⟩ ?_
      exact AW.to (li_116_t (he.trans (by simp only [lk, bd_ok, bd_er, and_self, if_true, if_false, Bool.false_eq_true, ↓reduceIte, show ∀ q, mu T (w_lm true) q = .ok q from fun _ => rfl, hx64])) (show u64 ≤ 3000 by have := hc.2.1; have := hp; omega) hI.1 (show b64 ≤ 3010 by have := hc.2.1; omega)) rfl rfl rfl rfl
    | ok y64 =>
      rw [hx64] at hp64
      obtain ⟨hp_64, F64, hI64, rfl⟩ := hp64
      refine aw_aload_n (aw_d q_Mo_readLines 33 rfl) rfl rfl rfl ?_
      refine cVr (aw_d q_Mo_readLines 34 rfl) (sp_goesA) vL_Mo_327_Mo rfl rfl rfl rfl rfl rfl ⟨aw_le rfl, aw_le rfl⟩ ?_
      refine aw_ifN_eq (tgt := 86) (aw_d q_Mo_readLines 35 rfl) (by decide) (by (have hc2 := hc.2.1; have h6 := hI.2.1.2.1; omega)) (fun c71 => by exfalso; (have hc2 := hc.2.1; have h6 := hI.2.1.2.1; omega)) (fun c71 => ?_)
      refine aw_aload_n (aw_d q_Mo_readLines 36 rfl) rfl rfl rfl ?_
      refine cVr (aw_d q_Mo_readLines 37 rfl) (sp_peek (frM_TP hI64.1 hc) (b := y64.1) (by have := hc.2.1; omega)) vL_Mo_331_Mo rfl rfl rfl rfl rfl rfl ⟨aw_le rfl, aw_le rfl⟩ ?_
      refine aw_iload_n (aw_d q_Mo_readLines 38 rfl) rfl rfl ?_
      refine aw_icmpI_ne (tgt := 86) (aw_d q_Mo_readLines 39 rfl) (by decide) (by (have hc2 := hc.2.1; have h6 := hI.2.1.2.1; omega)) (fun c79 => ?_) (fun c79 => ?_)
      · refine aw_iconst (v := nI 0) (aw_d q_Mo_readLines 42 rfl) (by decide) ?_
        refine aw_istore (aw_d q_Mo_readLines 43 rfl) (aw_le rfl) rfl ?_
        refine aw_aload_n (aw_d q_Mo_readLines 44 rfl) rfl rfl rfl ?_
        refine aw_dup (aw_d q_Mo_readLines 45 rfl) rfl ?_
        refine aw_getf (v := .int (nI (y64.1))) (aw_d q_Mo_readLines 46 rfl) fL_Mo_324_Mo rfl (gk rfl) ?_
        refine aw_iload (aw_d q_Mo_readLines 47 rfl) rfl ?_
        refine aw_ifN_eq (tgt := 103) (aw_d q_Mo_readLines 48 rfl) (by decide) (by (have hc2 := hc.2.1; have h6 := hI.2.1.2.1; omega)) (fun c96 => ?_) (fun c96 => by exfalso; (have hc2 := hc.2.1; have h6 := hI.2.1.2.1; omega))
        refine aw_iconst (v := nI 0) (aw_d q_Mo_readLines 51 rfl) (by decide) ?_
        refine aw_iaddN (aw_d q_Mo_readLines 52 rfl) ?_
        refine wi_33_31 (aw_d q_Mo_readLines 53 rfl) pL_Mo_324_Mo ?_
        refine aw_goto (tgt := 39) (aw_d q_Mo_readLines 54 rfl) (by decide) ?_
        have hbt : ¬ (T y64.1).toInt = (w_ls true).toInt := show ¬ (T y64.1).toInt = 44 by omega
        refine AW.to (h' := HP (QM F64 (nI y64.1) (-1) (nI p) z X)) ?_ rfl rfl rfl rfl
        refine aw_iload (aw_d q_Mo_readLines 20 rfl) rfl ?_
        refine aw_ifN_eq (tgt := 111) (aw_d q_Mo_readLines 21 rfl) (by decide) (by (have hc2 := hc.2.1; have h6 := hI.2.1.2.1; omega)) (fun c41 => ?_) (fun c41 => by exfalso; (have hc2 := hc.2.1; have h6 := hI.2.1.2.1; omega))
        rw [show res = lmV true T n y64.1 y64.2 from he.trans (by simp only [lk, lmV, bd_bd, bd_ok, bd_er, and_self, if_true, if_false, Bool.false_eq_true, ↓reduceIte, show ∀ q, mu T (w_lm true) q = .ok q from fun _ => rfl, hx64, hbt])]
        exact AW.to (ln_mid_t hc y64.1 y64.2 F64 _ _ _ _ _ hp_64 hI64) rfl rfl rfl rfl
      · refine aw_iconst (v := nI 1) (aw_d q_Mo_readLines 40 rfl) (by decide) ?_
        refine aw_goto (tgt := 87) (aw_d q_Mo_readLines 41 rfl) (by decide) ?_
        refine aw_istore (aw_d q_Mo_readLines 43 rfl) (aw_le rfl) rfl ?_
        refine aw_aload_n (aw_d q_Mo_readLines 44 rfl) rfl rfl rfl ?_
        refine aw_dup (aw_d q_Mo_readLines 45 rfl) rfl ?_
        refine aw_getf (v := .int (nI (y64.1))) (aw_d q_Mo_readLines 46 rfl) fL_Mo_324_Mo rfl (gk rfl) ?_
        refine aw_iload (aw_d q_Mo_readLines 47 rfl) rfl ?_
        refine aw_ifN_eq (tgt := 103) (aw_d q_Mo_readLines 48 rfl) (by decide) (by (have hc2 := hc.2.1; have h6 := hI.2.1.2.1; omega)) (fun c96 => by exfalso; (have hc2 := hc.2.1; have h6 := hI.2.1.2.1; omega)) (fun c96 => ?_)
        refine aw_iconst (v := nI 1) (aw_d q_Mo_readLines 49 rfl) (by decide) ?_
        refine aw_goto (tgt := 104) (aw_d q_Mo_readLines 50 rfl) (by decide) ?_
        refine aw_iaddN (aw_d q_Mo_readLines 52 rfl) ?_
        refine wi_33_31 (aw_d q_Mo_readLines 53 rfl) pL_Mo_324_Mo ?_
        refine aw_goto (tgt := 39) (aw_d q_Mo_readLines 54 rfl) (by decide) ?_
        have hbt : (T y64.1).toInt = (w_ls true).toInt := show (T y64.1).toInt = 44 by omega
        have hpn : y64.1 + 1 ≤ n := T_lt hc.2.2.2.1 (p := y64.1) (by omega)
        exact AW.to (ih (y64.1 + 1) y64.2 F64 _ _ _ _ (by have := nn_1 hx64; omega) hpn hI64 (he.trans (by simp only [lk, bd_ok, bd_er, and_self, if_true, if_false, Bool.false_eq_true, ↓reduceIte, show ∀ q, mu T (w_lm true) q = .ok q from fun _ => rfl, hx64, hbt]))) rfl rfl rfl rfl
set_option maxRecDepth 20000 in
theorem sp_readL_t {g : aw_G} {S D : aw_S} {N : nm_T} {n : Nat} {T : Nat → Int32} {f z : Int32} {X : Nat → Int32} (hI : imC S N 0 [] D) (hc : TPm S n T)  : Sp g M_Mo_readLines 5 112 0 0 [.ref 33, .int (nI 1)] (HP (QM D (nI 0) (-1) f z X)) (rpM S n (rLp true T n N)) := by
  refine Sp.of rfl (aw_le rfl) ?_
  have hc2 := hc.2.1
  refine aw_iload_n (aw_d q_Mo_readLines 0 rfl) rfl rfl ?_
  refine aw_ifN_eq (tgt := 9) (aw_d q_Mo_readLines 1 rfl) (by decide) (by (have hc2 := hc.2.1; have h6 := hI.2.1.2.1; omega)) (fun c1 => by exfalso; (have hc2 := hc.2.1; have h6 := hI.2.1.2.1; omega)) (fun c1 => ?_)
  refine aw_bipush (v := nI 44) (aw_d q_Mo_readLines 2 rfl) (by decide) ?_
  refine aw_goto (tgt := 11) (aw_d q_Mo_readLines 3 rfl) (by decide) ?_
  refine aw_istore_n (aw_d q_Mo_readLines 5 rfl) rfl (aw_le rfl) rfl ?_
  refine aw_iload_n (aw_d q_Mo_readLines 6 rfl) rfl rfl ?_
  refine aw_ifN_eq (tgt := 21) (aw_d q_Mo_readLines 7 rfl) (by decide) (by (have hc2 := hc.2.1; have h6 := hI.2.1.2.1; omega)) (fun c13 => by exfalso; (have hc2 := hc.2.1; have h6 := hI.2.1.2.1; omega)) (fun c13 => ?_)
  refine aw_bipush (v := nI 13) (aw_d q_Mo_readLines 8 rfl) (by decide) ?_
  refine aw_goto (tgt := 23) (aw_d q_Mo_readLines 9 rfl) (by decide) ?_
  refine aw_istore_n (aw_d q_Mo_readLines 11 rfl) rfl (aw_le rfl) rfl ?_
  refine aw_aload_n (aw_d q_Mo_readLines 12 rfl) rfl rfl rfl ?_
  refine cVr (aw_d q_Mo_readLines 13 rfl) (sp_peek (frM_TP hI.1 hc) (b := 0) (by have := hc.2.1; omega)) vL_Mo_331_Mo rfl rfl rfl rfl rfl rfl ⟨aw_le rfl, aw_le rfl⟩ ?_
  refine aw_iload_n (aw_d q_Mo_readLines 14 rfl) rfl rfl ?_
  refine aw_icmpI_eq (tgt := 36) (aw_d q_Mo_readLines 15 rfl) (by decide) (by (have hc2 := hc.2.1; have h6 := hI.2.1.2.1; omega)) (fun c29 => ?_) (fun c29 => ?_)
  · refine aw_iconst (v := nI 0) (aw_d q_Mo_readLines 18 rfl) (by decide) ?_
    refine aw_istore (aw_d q_Mo_readLines 19 rfl) (aw_le rfl) rfl ?_
    refine aw_iload (aw_d q_Mo_readLines 20 rfl) rfl ?_
    refine aw_ifN_eq (tgt := 111) (aw_d q_Mo_readLines 21 rfl) (by decide) (by (have hc2 := hc.2.1; have h6 := hI.2.1.2.1; omega)) (fun c41 => ?_) (fun c41 => by exfalso; (have hc2 := hc.2.1; have h6 := hI.2.1.2.1; omega))
    rw [show rLp true T n N = lmV true T n 0 N by rw [rLp, ln, if_pos (show (T 0).toInt = (if true = true then 13 else 10) from (show (T 0).toInt = 13 by omega)), lmV, bd_bd]; simp only [bd_ok]]
    exact AW.to (ln_mid_t hc 0 N D _ _ _ _ _ (Nat.zero_le n) hI) rfl rfl rfl rfl
  · refine aw_iconst (v := nI 1) (aw_d q_Mo_readLines 16 rfl) (by decide) ?_
    refine aw_goto (tgt := 37) (aw_d q_Mo_readLines 17 rfl) (by decide) ?_
    refine aw_istore (aw_d q_Mo_readLines 19 rfl) (aw_le rfl) rfl ?_
    exact AW.to (lp_lk2_t hc 7 0 N D _ _ _ _ (by omega) (Nat.zero_le n) hI (by rw [rLp, ln, if_neg (show ¬ (T 0).toInt = (if true = true then 13 else 10) from (show ¬ (T 0).toInt = 13 by omega))])) rfl rfl rfl rfl
set_option maxRecDepth 20000 in
theorem sp_Uend_f {g : aw_G} {S : aw_S} {n : Nat} {T : Nat → Int32} {b : Nat} {q f z : Int32} {X : Nat → Int32} {β : Type} {res : Except Nat (Nat × β)} {A : List Int32} (hc : TPm S n T) (hr : RR n (bp res (mu T A)) b q) : Sp g M_Mo_lineEnd 2 45 0 0 [.ref 33, .int (nI 0)] (HP (QM S (nI b) q f z X)) (fun r h => r = none ∧ ∃ (b : Nat) (q : Int32), RR n (bp res (mu T (A ++ w_le false))) b q ∧ h = HP (QM S (nI b) q f z X)) := by
  refine Sp.of rfl (aw_le rfl) ?_
  refine aw_iload_n (aw_d q_Mo_lineEnd 0 rfl) rfl rfl ?_
  refine aw_ifN_eq (tgt := 12) (aw_d q_Mo_lineEnd 1 rfl) (by decide) (by omega) (fun c1 => ?_) (fun c1 => by exfalso; omega)
  refine aw_aload_n (aw_d q_Mo_lineEnd 6 rfl) rfl rfl rfl ?_
  refine aw_ldc2 (aw_d q_Mo_lineEnd 7 rfl) lL_Mo_453 ?_
  refine aw_iconst (v := nI 1) (aw_d q_Mo_lineEnd 8 rfl) (by decide) ?_
  refine cV (aw_d q_Mo_lineEnd 9 rfl) (sp_Umust (res := res) (A := A) (x := 10) (j := 1) hc (by decide) hr) vL_Mo_340_Mo rfl rfl rfl rfl rfl rfl ⟨aw_le rfl, aw_le rfl⟩ (fun r17 h17 hp17 => ?_)
  obtain ⟨rfl, b17, q17, hr17, rfl⟩ := hp17
  exact aw_vret (aw_d q_Mo_lineEnd 10 rfl) rfl (⟨rfl, _, _, by rw [show A ++ w_le false = A ++ eB 10 1 from rfl]; exact hr17, rfl⟩)
set_option maxRecDepth 20000 in
theorem sp_endLI_f {g : aw_G} {S : aw_S} {u b : Nat} {f z : Int32} {X : Nat → Int32} (hu : u ≤ 3000) (hb : b ≤ 3010)  : Sp g M_Mo_lineEnd 2 45 0 0 [.ref 33, .int (nI 0)] (HP (QM S (nI b) (nI u) f z X)) (fun r h => r = none ∧ h = HP (QM S (nI b) (nI u) f z X)) := by
  refine Sp.of rfl (aw_le rfl) ?_
  refine aw_iload_n (aw_d q_Mo_lineEnd 0 rfl) rfl rfl ?_
  refine aw_ifN_eq (tgt := 12) (aw_d q_Mo_lineEnd 1 rfl) (by decide) (by omega) (fun c1 => ?_) (fun c1 => by exfalso; omega)
  refine aw_aload_n (aw_d q_Mo_lineEnd 6 rfl) rfl rfl rfl ?_
  refine aw_ldc2 (aw_d q_Mo_lineEnd 7 rfl) lL_Mo_453 ?_
  refine aw_iconst (v := nI 1) (aw_d q_Mo_lineEnd 8 rfl) (by decide) ?_
  refine cVv (aw_d q_Mo_lineEnd 9 rfl) (sp_mustI hu (by decide)) vL_Mo_340_Mo rfl rfl rfl rfl rfl rfl ⟨aw_le rfl, aw_le rfl⟩ ?_
  exact aw_vret (aw_d q_Mo_lineEnd 10 rfl) rfl (⟨rfl, rfl⟩)
set_option maxRecDepth 20000 in
theorem li_116_f {g : aw_G} {S D : aw_S} {n u b : Nat} {f z : Int32} {X : Nat → Int32} {x4 : Int32} {x5 : Option Value} {res : Except Nat (Nat × rd_T)} (he : res = .error u) (hu : u ≤ 3000) (hF : frM S D) (hb : b ≤ 3010) : AW g M_Mo_readLines (aw_rm 5 112 0 0) (aw_F g 0 0 (rpM S n (res))) 116 [some (.ref 33), some (.int (nI 0)), some (.int (nI 9)), some (.int (nI 10)), some (.int x4), x5] [] (HP (QM D (nI b) (nI u) f z X)) 0 0 := by
  refine aw_aload_n (aw_d q_Mo_readLines 58 rfl) rfl rfl rfl ?_
  refine cVr (aw_d q_Mo_readLines 59 rfl) (sp_goesI hu) vL_Mo_327_Mo rfl rfl rfl rfl rfl rfl ⟨aw_le rfl, aw_le rfl⟩ ?_
  refine aw_ifN_eq (tgt := 206) (aw_d q_Mo_readLines 60 rfl) (by decide) (by omega) (fun c120 => ?_) (fun c120 => by exfalso; omega)
  exact aw_vret (aw_d q_Mo_readLines 101 rfl) rfl (by rw [he]; exact rpM_er hu hF hb)
set_option maxRecDepth 20000 in
theorem lp_lv_f {g : aw_G} {S : aw_S} {n : Nat} {T : Nat → Int32} (hc : TPm S n T) {N : nm_T} {r : Nat} {res : Except Nat (Nat × rd_T)} {XB : Except Nat (Nat × sq_T)} (KO : ∀ (p : Nat) (s : sq_T) (D : aw_S) (f z : Int32) (X : Nat → Int32) (x4 : Int32) (x5 : Option Value), p ≤ n → imC S N (r + 1) s D → itOK s (r * 6 + 6) → XB = .ok (p, s) → AW g M_Mo_readLines (aw_rm 5 112 0 0) (aw_F g 0 0 (rpM S n (res))) 116 [some (.ref 33), some (.int (nI 0)), some (.int (nI 9)), some (.int (nI 10)), some (.int x4), x5] [] (HP (QM D (nI p) (-1) f z X)) 0 0) (KE : ∀ u : Nat, XB = .error u → res = .error u) : ∀ (m v p : Nat) (s : sq_T) (D : aw_S) (f z : Int32) (X : Nat → Int32) (x4 : Int32), m + v = N.1 → p ≤ n → imC S N (r + 1) s D → itOK s (r * 6 + v) → XB = lb false T n r m v p s → AW g M_Mo_readLines (aw_rm 5 112 0 0) (aw_F g 0 0 (rpM S n (res))) 145 [some (.ref 33), some (.int (nI 0)), some (.int (nI 9)), some (.int (nI 10)), some (.int x4), some (.int (nI v))] [] (HP (QM D (nI p) (-1) f z X)) 0 0 := by
  have hc2 := hc.2.1
  intro m
  induction m with
  | zero =>
    intro v p s D f z X x4 hk hp hI hs he
    refine aw_iload (aw_d q_Mo_readLines 72 rfl) rfl ?_
    refine aw_aload_n (aw_d q_Mo_readLines 73 rfl) rfl rfl rfl ?_
    refine aw_getf (v := .int (nI (N.1))) (aw_d q_Mo_readLines 74 rfl) fL_Mo_349_Mo rfl (gk hI.2.1.1) ?_
    refine aw_icmpN_ge (tgt := 198) (aw_d q_Mo_readLines 75 rfl) (by decide) (by (have hc2 := hc.2.1; have h6 := hI.2.1.2.1; omega)) (by (have hc2 := hc.2.1; have h6 := hI.2.1.2.1; omega)) (fun c151 => ?_) (fun c151 => by exfalso; (have hc2 := hc.2.1; have h6 := hI.2.1.2.1; omega))
    refine aw_aload_n (aw_d q_Mo_readLines 97 rfl) rfl rfl rfl ?_
    refine aw_iload_n (aw_d q_Mo_readLines 98 rfl) rfl rfl ?_
    refine cV (aw_d q_Mo_readLines 99 rfl) (sp_Uend_f (res := .ok (p, ())) (A := []) (frM_TP hI.1 hc) (RR_su (T := T) hp)) vL_Mo_455_Mo rfl rfl rfl rfl rfl rfl ⟨aw_le rfl, aw_le rfl⟩ (fun r200 h200 hp200 => ?_)
    obtain ⟨rfl, b200, q200, hr200, rfl⟩ := hp200
    rw [bp_ok, show mu T ([] ++ w_le false) p = mu T (w_le false) p from rfl] at hr200
    cases hx203s : mu T (w_le false) p with
    | error u203s =>
      rw [hx203s] at hr200
      obtain ⟨hu203s, rfl, hb203s⟩ := hr200
      refine aw_goto (tgt := 116) (aw_d q_Mo_readLines 100 rfl) (by decide) ?_
      exact AW.to (li_116_f (KE u203s (he.trans (by simp only [lb, bd_ok, bd_er, and_self, if_true, if_false, Bool.false_eq_true, ↓reduceIte, hx203s]))) hu203s hI.1 hb203s) rfl rfl rfl rfl
    | ok p203s =>
      rw [hx203s] at hr200
      obtain ⟨hbb203s, hp_203s, rfl⟩ := hr200
      have hbb203s : b200 = p203s := hbb203s
      subst hbb203s
      refine aw_goto (tgt := 116) (aw_d q_Mo_readLines 100 rfl) (by decide) ?_
      exact AW.to (KO b200 s D _ _ _ _ _ hp_203s hI (itOK_mono hs (by have := hI.2.1.2.1; omega)) (he.trans (by simp only [lb, bd_ok, bd_er, and_self, if_true, if_false, Bool.false_eq_true, ↓reduceIte, hx203s]))) rfl rfl rfl rfl
  | succ m ih =>
    intro v p s D f z X x4 hk hp hI hs he
    refine aw_iload (aw_d q_Mo_readLines 72 rfl) rfl ?_
    refine aw_aload_n (aw_d q_Mo_readLines 73 rfl) rfl rfl rfl ?_
    refine aw_getf (v := .int (nI (N.1))) (aw_d q_Mo_readLines 74 rfl) fL_Mo_349_Mo rfl (gk hI.2.1.1) ?_
    refine aw_icmpN_ge (tgt := 198) (aw_d q_Mo_readLines 75 rfl) (by decide) (by (have hc2 := hc.2.1; have h6 := hI.2.1.2.1; omega)) (by (have hc2 := hc.2.1; have h6 := hI.2.1.2.1; omega)) (fun c151 => by exfalso; (have hc2 := hc.2.1; have h6 := hI.2.1.2.1; omega)) (fun c151 => ?_)
    refine aw_aload_n (aw_d q_Mo_readLines 76 rfl) rfl rfl rfl ?_
    refine cVr (aw_d q_Mo_readLines 77 rfl) (sp_goesA) vL_Mo_327_Mo rfl rfl rfl rfl rfl rfl ⟨aw_le rfl, aw_le rfl⟩ ?_
    refine aw_ifN_eq (tgt := 198) (aw_d q_Mo_readLines 78 rfl) (by decide) (by (have hc2 := hc.2.1; have h6 := hI.2.1.2.1; omega)) (fun c158 => by exfalso; (have hc2 := hc.2.1; have h6 := hI.2.1.2.1; omega)) (fun c158 => ?_)
    refine aw_iload (aw_d q_Mo_readLines 79 rfl) rfl ?_
    refine aw_ifN_le (tgt := 173) (aw_d q_Mo_readLines 80 rfl) (by decide) (by (have hc2 := hc.2.1; have h6 := hI.2.1.2.1; omega)) (fun c163 => ?_) (fun c163 => ?_)
    · refine aw_iload_n (aw_d q_Mo_readLines 86 rfl) rfl rfl ?_
      refine aw_ifN_eq (tgt := 186) (aw_d q_Mo_readLines 87 rfl) (by decide) (by (have hc2 := hc.2.1; have h6 := hI.2.1.2.1; omega)) (fun c174 => ?_) (fun c174 => by exfalso; (have hc2 := hc.2.1; have h6 := hI.2.1.2.1; omega))
      refine aw_aload_n (aw_d q_Mo_readLines 92 rfl) rfl rfl rfl ?_
      refine aw_iload (aw_d q_Mo_readLines 93 rfl) rfl ?_
      refine cV (aw_d q_Mo_readLines 94 rfl) (sp_tvA hI hs (by have := hI.2.1.2.1; omega) hc hp) vL_Mo_461_Mo rfl rfl rfl rfl rfl rfl ⟨aw_le rfl, aw_le rfl⟩ (fun r189 h189 hp189 => ?_)
      cases hx189 : ti T n p with
      | error u189 =>
        rw [hx189] at hp189
        obtain ⟨rfl, hu189, F189, b189, f189, z189, X189, hF189, hb189, rfl⟩ := hp189
        refine aw_iinc (aw_d q_Mo_readLines 95 rfl) rfl (ii1 _) (aw_le rfl) rfl ?_
        refine aw_goto (tgt := 145) (aw_d q_Mo_readLines 96 rfl) (by decide) ?_
        refine aw_iload (aw_d q_Mo_readLines 72 rfl) rfl ?_
        refine aw_aload_n (aw_d q_Mo_readLines 73 rfl) rfl rfl rfl ?_
        refine aw_getf (aw_d q_Mo_readLines 74 rfl) fL_Mo_349_Mo rfl rfl ?_
        refine aw_icmpJ_ge (tgt := 198) (aw_d q_Mo_readLines 75 rfl) (by decide) (by (have hc2 := hc.2.1; have h6 := hI.2.1.2.1; omega)) (fun c151 => ?_) (fun c151 => ?_)
        · refine aw_aload_n (aw_d q_Mo_readLines 97 rfl) rfl rfl rfl ?_
          refine aw_iload_n (aw_d q_Mo_readLines 98 rfl) rfl rfl ?_
          refine cVv (aw_d q_Mo_readLines 99 rfl) (sp_endLI_f hu189 hb189) vL_Mo_455_Mo rfl rfl rfl rfl rfl rfl ⟨aw_le rfl, aw_le rfl⟩ ?_
          refine aw_goto (tgt := 116) (aw_d q_Mo_readLines 100 rfl) (by decide) ?_
          exact AW.to (li_116_f (KE u189 (he.trans (by simp only [lb_lv hc.2.2.2.1, lv, bd_ok, bd_er, and_self, if_true, if_false, Bool.false_eq_true, ↓reduceIte, show ¬ 0 < v by omega, hx189]))) hu189 hF189 hb189) rfl rfl rfl rfl
        · refine aw_aload_n (aw_d q_Mo_readLines 76 rfl) rfl rfl rfl ?_
          refine cVr (aw_d q_Mo_readLines 77 rfl) (sp_goesI hu189) vL_Mo_327_Mo rfl rfl rfl rfl rfl rfl ⟨aw_le rfl, aw_le rfl⟩ ?_
          refine aw_ifN_eq (tgt := 198) (aw_d q_Mo_readLines 78 rfl) (by decide) (by (have hc2 := hc.2.1; have h6 := hI.2.1.2.1; omega)) (fun c158 => ?_) (fun c158 => by exfalso; (have hc2 := hc.2.1; have h6 := hI.2.1.2.1; omega))
          refine aw_aload_n (aw_d q_Mo_readLines 97 rfl) rfl rfl rfl ?_
          refine aw_iload_n (aw_d q_Mo_readLines 98 rfl) rfl rfl ?_
          refine cVv (aw_d q_Mo_readLines 99 rfl) (sp_endLI_f hu189 hb189) vL_Mo_455_Mo rfl rfl rfl rfl rfl rfl ⟨aw_le rfl, aw_le rfl⟩ ?_
          refine aw_goto (tgt := 116) (aw_d q_Mo_readLines 100 rfl) (by decide) ?_
          exact AW.to (li_116_f (KE u189 (he.trans (by simp only [lb_lv hc.2.2.2.1, lv, bd_ok, bd_er, and_self, if_true, if_false, Bool.false_eq_true, ↓reduceIte, show ¬ 0 < v by omega, hx189]))) hu189 hF189 hb189) rfl rfl rfl rfl
      | ok y189 =>
        rw [hx189] at hp189
        obtain ⟨rfl, F189, f189, z189, X189, ⟨hI189, hs189⟩, hp_189, rfl⟩ := hp189
        refine aw_iinc (aw_d q_Mo_readLines 95 rfl) rfl (ii1 _) (aw_le rfl) rfl ?_
        refine aw_goto (tgt := 145) (aw_d q_Mo_readLines 96 rfl) (by decide) ?_
        exact AW.to (ih (v + 1) y189.1 _ F189 _ _ _ _ (by omega) hp_189 hI189 hs189 (he.trans (by simp only [lb_lv hc.2.2.2.1, lv, bd_ok, bd_er, and_self, if_true, if_false, Bool.false_eq_true, ↓reduceIte, show ¬ 0 < v by omega, hx189]))) rfl rfl rfl rfl
    · refine aw_aload_n (aw_d q_Mo_readLines 81 rfl) rfl rfl rfl ?_
      refine aw_iload_n (aw_d q_Mo_readLines 82 rfl) rfl rfl ?_
      refine aw_i2l (aw_d q_Mo_readLines 83 rfl) ?_
      refine aw_iconst (v := nI 1) (aw_d q_Mo_readLines 84 rfl) (by decide) ?_
      refine cV (aw_d q_Mo_readLines 85 rfl) (sp_must1 (x := (nI 9).toInt64) (frM_TP hI.1 hc) hp) vL_Mo_340_Mo rfl rfl rfl rfl rfl rfl ⟨aw_le rfl, aw_le rfl⟩ (fun r170 h170 hp170 => ?_)
      rw [show bM (nI 9).toInt64 0 = w_ls false by decide] at hp170
      obtain ⟨rfl, hp170⟩ := hp170
      rcases hp170 with ⟨hm170, rfl⟩ | ⟨hm170, rfl⟩
      · skip -- yes
        have hpn170 : p + 1 ≤ n := T_lt hc.2.2.2.1 (p := p) (by have hq : (T p).toInt = 9 := hm170; omega)
        refine aw_iload_n (aw_d q_Mo_readLines 86 rfl) rfl rfl ?_
        refine aw_ifN_eq (tgt := 186) (aw_d q_Mo_readLines 87 rfl) (by decide) (by (have hc2 := hc.2.1; have h6 := hI.2.1.2.1; omega)) (fun c174 => ?_) (fun c174 => by exfalso; (have hc2 := hc.2.1; have h6 := hI.2.1.2.1; omega))
        refine aw_aload_n (aw_d q_Mo_readLines 92 rfl) rfl rfl rfl ?_
        refine aw_iload (aw_d q_Mo_readLines 93 rfl) rfl ?_
        refine cV (aw_d q_Mo_readLines 94 rfl) (sp_tvA hI hs (by have := hI.2.1.2.1; omega) hc hpn170) vL_Mo_461_Mo rfl rfl rfl rfl rfl rfl ⟨aw_le rfl, aw_le rfl⟩ (fun r189 h189 hp189 => ?_)
        cases hx189 : ti T n (p + 1) with
        | error u189 =>
          rw [hx189] at hp189
          obtain ⟨rfl, hu189, F189, b189, f189, z189, X189, hF189, hb189, rfl⟩ := hp189
          refine aw_iinc (aw_d q_Mo_readLines 95 rfl) rfl (ii1 _) (aw_le rfl) rfl ?_
          refine aw_goto (tgt := 145) (aw_d q_Mo_readLines 96 rfl) (by decide) ?_
          refine aw_iload (aw_d q_Mo_readLines 72 rfl) rfl ?_
          refine aw_aload_n (aw_d q_Mo_readLines 73 rfl) rfl rfl rfl ?_
          refine aw_getf (aw_d q_Mo_readLines 74 rfl) fL_Mo_349_Mo rfl rfl ?_
          refine aw_icmpJ_ge (tgt := 198) (aw_d q_Mo_readLines 75 rfl) (by decide) (by (have hc2 := hc.2.1; have h6 := hI.2.1.2.1; omega)) (fun c151 => ?_) (fun c151 => ?_)
          · refine aw_aload_n (aw_d q_Mo_readLines 97 rfl) rfl rfl rfl ?_
            refine aw_iload_n (aw_d q_Mo_readLines 98 rfl) rfl rfl ?_
            refine cVv (aw_d q_Mo_readLines 99 rfl) (sp_endLI_f hu189 hb189) vL_Mo_455_Mo rfl rfl rfl rfl rfl rfl ⟨aw_le rfl, aw_le rfl⟩ ?_
            refine aw_goto (tgt := 116) (aw_d q_Mo_readLines 100 rfl) (by decide) ?_
            exact AW.to (li_116_f (KE u189 (he.trans (by simp only [lb_lv hc.2.2.2.1, lv, bd_ok, bd_er, and_self, if_true, if_false, Bool.false_eq_true, ↓reduceIte, show 0 < v by omega, hm170, hx189]))) hu189 hF189 hb189) rfl rfl rfl rfl
          · refine aw_aload_n (aw_d q_Mo_readLines 76 rfl) rfl rfl rfl ?_
            refine cVr (aw_d q_Mo_readLines 77 rfl) (sp_goesI hu189) vL_Mo_327_Mo rfl rfl rfl rfl rfl rfl ⟨aw_le rfl, aw_le rfl⟩ ?_
            refine aw_ifN_eq (tgt := 198) (aw_d q_Mo_readLines 78 rfl) (by decide) (by (have hc2 := hc.2.1; have h6 := hI.2.1.2.1; omega)) (fun c158 => ?_) (fun c158 => by exfalso; (have hc2 := hc.2.1; have h6 := hI.2.1.2.1; omega))
            refine aw_aload_n (aw_d q_Mo_readLines 97 rfl) rfl rfl rfl ?_
            refine aw_iload_n (aw_d q_Mo_readLines 98 rfl) rfl rfl ?_
            refine cVv (aw_d q_Mo_readLines 99 rfl) (sp_endLI_f hu189 hb189) vL_Mo_455_Mo rfl rfl rfl rfl rfl rfl ⟨aw_le rfl, aw_le rfl⟩ ?_
            refine aw_goto (tgt := 116) (aw_d q_Mo_readLines 100 rfl) (by decide) ?_
            exact AW.to (li_116_f (KE u189 (he.trans (by simp only [lb_lv hc.2.2.2.1, lv, bd_ok, bd_er, and_self, if_true, if_false, Bool.false_eq_true, ↓reduceIte, show 0 < v by omega, hm170, hx189]))) hu189 hF189 hb189) rfl rfl rfl rfl
        | ok y189 =>
          rw [hx189] at hp189
          obtain ⟨rfl, F189, f189, z189, X189, ⟨hI189, hs189⟩, hp_189, rfl⟩ := hp189
          refine aw_iinc (aw_d q_Mo_readLines 95 rfl) rfl (ii1 _) (aw_le rfl) rfl ?_
          refine aw_goto (tgt := 145) (aw_d q_Mo_readLines 96 rfl) (by decide) ?_
          exact AW.to (ih (v + 1) y189.1 _ F189 _ _ _ _ (by omega) hp_189 hI189 hs189 (he.trans (by simp only [lb_lv hc.2.2.2.1, lv, bd_ok, bd_er, and_self, if_true, if_false, Bool.false_eq_true, ↓reduceIte, show 0 < v by omega, hm170, hx189]))) rfl rfl rfl rfl
      · skip -- no
        refine aw_iload_n (aw_d q_Mo_readLines 86 rfl) rfl rfl ?_
        refine aw_ifN_eq (tgt := 186) (aw_d q_Mo_readLines 87 rfl) (by decide) (by (have hc2 := hc.2.1; have h6 := hI.2.1.2.1; omega)) (fun c174 => ?_) (fun c174 => by exfalso; (have hc2 := hc.2.1; have h6 := hI.2.1.2.1; omega))
        refine aw_aload_n (aw_d q_Mo_readLines 92 rfl) rfl rfl rfl ?_
        refine aw_iload (aw_d q_Mo_readLines 93 rfl) rfl ?_
        refine cV (aw_d q_Mo_readLines 94 rfl) (sp_tvI (show p ≤ 3000 by omega) (show p ≤ 3000 by omega) (frM_TP hI.1 hc)) vL_Mo_461_Mo rfl rfl rfl rfl rfl rfl ⟨aw_le rfl, aw_le rfl⟩ (fun r189 h189 hp189 => ?_)
        obtain ⟨rfl, b189, f189, z189, X189, hb189, rfl⟩ := hp189
        refine aw_iinc (aw_d q_Mo_readLines 95 rfl) rfl (ii1 _) (aw_le rfl) rfl ?_
        refine aw_goto (tgt := 145) (aw_d q_Mo_readLines 96 rfl) (by decide) ?_
        refine aw_iload (aw_d q_Mo_readLines 72 rfl) rfl ?_
        refine aw_aload_n (aw_d q_Mo_readLines 73 rfl) rfl rfl rfl ?_
        refine aw_getf (aw_d q_Mo_readLines 74 rfl) fL_Mo_349_Mo rfl rfl ?_
        refine aw_icmpJ_ge (tgt := 198) (aw_d q_Mo_readLines 75 rfl) (by decide) (by (have hc2 := hc.2.1; have h6 := hI.2.1.2.1; omega)) (fun c151 => ?_) (fun c151 => ?_)
        · refine aw_aload_n (aw_d q_Mo_readLines 97 rfl) rfl rfl rfl ?_
          refine aw_iload_n (aw_d q_Mo_readLines 98 rfl) rfl rfl ?_
          refine cVv (aw_d q_Mo_readLines 99 rfl) (sp_endLI_f (show p ≤ 3000 by omega) (show b189 ≤ 3010 by omega)) vL_Mo_455_Mo rfl rfl rfl rfl rfl rfl ⟨aw_le rfl, aw_le rfl⟩ ?_
          refine aw_goto (tgt := 116) (aw_d q_Mo_readLines 100 rfl) (by decide) ?_
          exact AW.to (li_116_f (KE p (he.trans (by simp only [lb_lv hc.2.2.2.1, lv, bd_ok, bd_er, and_self, if_true, if_false, Bool.false_eq_true, ↓reduceIte, show 0 < v by omega, hm170]))) (show p ≤ 3000 by omega) hI.1 (show b189 ≤ 3010 by omega)) rfl rfl rfl rfl
        · refine aw_aload_n (aw_d q_Mo_readLines 76 rfl) rfl rfl rfl ?_
          refine cVr (aw_d q_Mo_readLines 77 rfl) (sp_goesI (show p ≤ 3000 by omega)) vL_Mo_327_Mo rfl rfl rfl rfl rfl rfl ⟨aw_le rfl, aw_le rfl⟩ ?_
          refine aw_ifN_eq (tgt := 198) (aw_d q_Mo_readLines 78 rfl) (by decide) (by (have hc2 := hc.2.1; have h6 := hI.2.1.2.1; omega)) (fun c158 => ?_) (fun c158 => by exfalso; (have hc2 := hc.2.1; have h6 := hI.2.1.2.1; omega))
          refine aw_aload_n (aw_d q_Mo_readLines 97 rfl) rfl rfl rfl ?_
          refine aw_iload_n (aw_d q_Mo_readLines 98 rfl) rfl rfl ?_
          refine cVv (aw_d q_Mo_readLines 99 rfl) (sp_endLI_f (show p ≤ 3000 by omega) (show b189 ≤ 3010 by omega)) vL_Mo_455_Mo rfl rfl rfl rfl rfl rfl ⟨aw_le rfl, aw_le rfl⟩ ?_
          refine aw_goto (tgt := 116) (aw_d q_Mo_readLines 100 rfl) (by decide) ?_
          exact AW.to (li_116_f (KE p (he.trans (by simp only [lb_lv hc.2.2.2.1, lv, bd_ok, bd_er, and_self, if_true, if_false, Bool.false_eq_true, ↓reduceIte, show 0 < v by omega, hm170]))) (show p ≤ 3000 by omega) hI.1 (show b189 ≤ 3010 by omega)) rfl rfl rfl rfl
set_option maxRecDepth 20000 in
theorem lp_lr_f {g : aw_G} {S : aw_S} {n : Nat} {T : Nat → Int32} (hc : TPm S n T) {N : nm_T} {res : Except Nat (Nat × rd_T)} : ∀ (m p r : Nat) (s : sq_T) (D : aw_S) (f z : Int32) (X : Nat → Int32) (x4 : Int32) (x5 : Option Value), 25 ≤ m + r → p ≤ n → imC S N r s D → itOK s (r * 6) → res = llV false T n p N m r s → AW g M_Mo_readLines (aw_rm 5 112 0 0) (aw_F g 0 0 (rpM S n (res))) 116 [some (.ref 33), some (.int (nI 0)), some (.int (nI 9)), some (.int (nI 10)), some (.int x4), x5] [] (HP (QM D (nI p) (-1) f z X)) 0 0 := by
  have hc2 := hc.2.1
  intro m
  induction m with
  | zero => intro p r s D f z X x4 x5 hk hp hI hs he; have := hI.2.2.2.1.2; exfalso; omega
  | succ m ih =>
    intro p r s D f z X x4 x5 hk hp hI hs he
    refine aw_aload_n (aw_d q_Mo_readLines 58 rfl) rfl rfl rfl ?_
    refine cVr (aw_d q_Mo_readLines 59 rfl) (sp_goesA) vL_Mo_327_Mo rfl rfl rfl rfl rfl rfl ⟨aw_le rfl, aw_le rfl⟩ ?_
    refine aw_ifN_eq (tgt := 206) (aw_d q_Mo_readLines 60 rfl) (by decide) (by (have hc2 := hc.2.1; have h6 := hI.2.1.2.1; omega)) (fun c120 => by exfalso; (have hc2 := hc.2.1; have h6 := hI.2.1.2.1; omega)) (fun c120 => ?_)
    refine aw_aload_n (aw_d q_Mo_readLines 61 rfl) rfl rfl rfl ?_
    refine aw_getf (v := .int (nI (p))) (aw_d q_Mo_readLines 62 rfl) fL_Mo_324_Mo rfl (gk rfl) ?_
    refine aw_aload_n (aw_d q_Mo_readLines 63 rfl) rfl rfl rfl ?_
    refine aw_getf (v := .int (nI (n))) (aw_d q_Mo_readLines 64 rfl) fL_Mo_85_Mo rfl (gk (frM_TP hI.1 hc).1) ?_
    refine aw_icmpN_ge (tgt := 206) (aw_d q_Mo_readLines 65 rfl) (by decide) (by (have hc2 := hc.2.1; have h6 := hI.2.1.2.1; omega)) (by (have hc2 := hc.2.1; have h6 := hI.2.1.2.1; omega)) (fun c131 => ?_) (fun c131 => ?_)
    · exact aw_vret (aw_d q_Mo_readLines 101 rfl) rfl (by rw [show res = .ok (p, N, r, s) from he.trans (by rw [llV, ls, if_pos (by omega), bd_ok])]; exact rpM_ok hI hs hp)
    · refine aw_aload_n (aw_d q_Mo_readLines 66 rfl) rfl rfl rfl ?_
      refine aw_aload_n (aw_d q_Mo_readLines 67 rfl) rfl rfl rfl ?_
      refine aw_getf (v := .int (nI (p))) (aw_d q_Mo_readLines 68 rfl) fL_Mo_324_Mo rfl (gk rfl) ?_
      refine cV (aw_d q_Mo_readLines 69 rfl) (sp_begA (R := r) hI hs (by rw [nI_toInt (by have := hc.2.1; omega)]; omega)) vL_Mo_395_Mo rfl rfl rfl rfl rfl rfl ⟨aw_le rfl, aw_le rfl⟩ (fun r139 h139 hp139 => ?_)
      obtain ⟨rfl, hp139⟩ := hp139
      rcases hp139 with ⟨hr139, F139, hI139, rfl⟩ | ⟨hr139, rfl⟩
      · skip -- room
        refine aw_iconst (v := nI 0) (aw_d q_Mo_readLines 70 rfl) (by decide) ?_
        refine aw_istore (aw_d q_Mo_readLines 71 rfl) (aw_le rfl) rfl ?_
        have hv : res = bd (bd (lb false T n r N.1 0 p s) (fun y => ls false T n N.1 m y.1 (r + 1) y.2)) (fun z => .ok (z.1, N, z.2)) := he.trans (by rw [llV, ls, if_neg (by omega), if_pos hr139])
        exact AW.to (lp_lv_f hc (XB := lb false T n r N.1 0 p s) (fun p s1 D f z X x4 x5 hp1 hI1 hs1 hx1 => ih p (r + 1) s1 D f z X x4 x5 (by omega) hp1 hI1 (itOK_mono hs1 (by omega)) (hv.trans (by rw [hx1, bd_ok]; rfl))) (fun u hx1 => hv.trans (by rw [hx1]; rfl)) N.1 0 p s F139 _ _ _ _ (by omega) hp hI139 hs rfl) rfl rfl rfl rfl
      · skip -- full
        refine aw_iconst (v := nI 0) (aw_d q_Mo_readLines 70 rfl) (by decide) ?_
        refine aw_istore (aw_d q_Mo_readLines 71 rfl) (aw_le rfl) rfl ?_
        refine aw_iload (aw_d q_Mo_readLines 72 rfl) rfl ?_
        refine aw_aload_n (aw_d q_Mo_readLines 73 rfl) rfl rfl rfl ?_
        refine aw_getf (aw_d q_Mo_readLines 74 rfl) fL_Mo_349_Mo rfl rfl ?_
        refine aw_icmpJ_ge (tgt := 198) (aw_d q_Mo_readLines 75 rfl) (by decide) (by (have hc2 := hc.2.1; have h6 := hI.2.1.2.1; omega)) (fun c151 => ?_) (fun c151 => ?_)
        · refine aw_aload_n (aw_d q_Mo_readLines 97 rfl) rfl rfl rfl ?_
          refine aw_iload_n (aw_d q_Mo_readLines 98 rfl) rfl rfl ?_
          refine cVv (aw_d q_Mo_readLines 99 rfl) (sp_endLI_f (show p ≤ 3000 by have := hc.2.1; omega) (show p ≤ 3010 by have := hc.2.1; omega)) vL_Mo_455_Mo rfl rfl rfl rfl rfl rfl ⟨aw_le rfl, aw_le rfl⟩ ?_
          refine aw_goto (tgt := 116) (aw_d q_Mo_readLines 100 rfl) (by decide) ?_
          exact AW.to (li_116_f (he.trans (by rw [llV, ls, if_neg (by omega), if_neg (by omega)]; rfl)) (show p ≤ 3000 by have := hc.2.1; omega) hI.1 (show p ≤ 3010 by have := hc.2.1; omega)) rfl rfl rfl rfl
        · refine aw_aload_n (aw_d q_Mo_readLines 76 rfl) rfl rfl rfl ?_
          refine cVr (aw_d q_Mo_readLines 77 rfl) (sp_goesI (show p ≤ 3000 by have := hc.2.1; omega)) vL_Mo_327_Mo rfl rfl rfl rfl rfl rfl ⟨aw_le rfl, aw_le rfl⟩ ?_
          refine aw_ifN_eq (tgt := 198) (aw_d q_Mo_readLines 78 rfl) (by decide) (by (have hc2 := hc.2.1; have h6 := hI.2.1.2.1; omega)) (fun c158 => ?_) (fun c158 => by exfalso; (have hc2 := hc.2.1; have h6 := hI.2.1.2.1; omega))
          refine aw_aload_n (aw_d q_Mo_readLines 97 rfl) rfl rfl rfl ?_
          refine aw_iload_n (aw_d q_Mo_readLines 98 rfl) rfl rfl ?_
          refine cVv (aw_d q_Mo_readLines 99 rfl) (sp_endLI_f (show p ≤ 3000 by have := hc.2.1; omega) (show p ≤ 3010 by have := hc.2.1; omega)) vL_Mo_455_Mo rfl rfl rfl rfl rfl rfl ⟨aw_le rfl, aw_le rfl⟩ ?_
          refine aw_goto (tgt := 116) (aw_d q_Mo_readLines 100 rfl) (by decide) ?_
          exact AW.to (li_116_f (he.trans (by rw [llV, ls, if_neg (by omega), if_neg (by omega)]; rfl)) (show p ≤ 3000 by have := hc.2.1; omega) hI.1 (show p ≤ 3010 by have := hc.2.1; omega)) rfl rfl rfl rfl
set_option maxRecDepth 20000 in
theorem ln_mid_f {g : aw_G} {S : aw_S} {n : Nat} {T : Nat → Int32} (hc : TPm S n T)  : ∀ (p : Nat) (N : nm_T) (D : aw_S) (f z : Int32) (X : Nat → Int32) (x4 : Int32) (x5 : Option Value), p ≤ n → imC S N 0 [] D → AW g M_Mo_readLines (aw_rm 5 112 0 0) (aw_F g 0 0 (rpM S n (lmV false T n p N))) 111 [some (.ref 33), some (.int (nI 0)), some (.int (nI 9)), some (.int (nI 10)), some (.int x4), x5] [] (HP (QM D (nI p) (-1) f z X)) 0 0 := by
  have hc2 := hc.2.1
  intro p N D f z X x4 x5 hp hI
  refine aw_aload_n (aw_d q_Mo_readLines 55 rfl) rfl rfl rfl ?_
  refine aw_iload_n (aw_d q_Mo_readLines 56 rfl) rfl rfl ?_
  refine cV (aw_d q_Mo_readLines 57 rfl) (sp_Uend_f (res := .ok (p, ())) (A := []) (frM_TP hI.1 hc) (RR_su (T := T) hp)) vL_Mo_455_Mo rfl rfl rfl rfl rfl rfl ⟨aw_le rfl, aw_le rfl⟩ (fun r113 h113 hp113 => ?_)
  obtain ⟨rfl, b113, q113, hr113, rfl⟩ := hp113
  rw [bp_ok, show mu T ([] ++ w_le false) p = mu T (w_le false) p from rfl] at hr113
  cases hxQ : mu T (w_le false) p with
  | error uQ =>
    rw [hxQ] at hr113
    obtain ⟨huQ, rfl, hbQ⟩ := hr113
    exact AW.to (li_116_f (by rw [lmV, hxQ, bd_er]) huQ hI.1 hbQ) rfl rfl rfl rfl
  | ok pQ =>
    rw [hxQ] at hr113
    obtain ⟨hbbQ, hp_Q, rfl⟩ := hr113
    have hbbQ : b113 = pQ := hbbQ
    subst hbbQ
    exact AW.to (lp_lr_f hc 25 b113 0 [] D _ _ _ _ _ (by omega) hp_Q hI itOK_nil (by rw [lmV, hxQ, bd_ok])) rfl rfl rfl rfl
set_option maxRecDepth 20000 in
theorem lp_lk2_f {g : aw_G} {S : aw_S} {n : Nat} {T : Nat → Int32} (hc : TPm S n T) {res : Except Nat (Nat × rd_T)} : ∀ (m p : Nat) (N : nm_T) (D : aw_S) (f z : Int32) (X : Nat → Int32) (x5 : Option Value), 7 ≤ m + N.1 → p ≤ n → imC S N 0 [] D → res = bd (lk false T n m p N) (fun y => llV false T n y.1 y.2 25 0 []) → AW g M_Mo_readLines (aw_rm 5 112 0 0) (aw_F g 0 0 (rpM S n (res))) 39 [some (.ref 33), some (.int (nI 0)), some (.int (nI 9)), some (.int (nI 10)), some (.int (nI 1)), x5] [] (HP (QM D (nI p) (-1) f z X)) 0 0 := by
  have hc2 := hc.2.1
  intro m
  induction m with
  | zero => intro p N D f z X x5 hk hp hI he; have := hI.2.1.2.1; exfalso; omega
  | succ m ih =>
    intro p N D f z X x5 hk hp hI he
    refine aw_iload (aw_d q_Mo_readLines 20 rfl) rfl ?_
    refine aw_ifN_eq (tgt := 111) (aw_d q_Mo_readLines 21 rfl) (by decide) (by (have hc2 := hc.2.1; have h6 := hI.2.1.2.1; omega)) (fun c41 => by exfalso; (have hc2 := hc.2.1; have h6 := hI.2.1.2.1; omega)) (fun c41 => ?_)
    refine aw_aload_n (aw_d q_Mo_readLines 22 rfl) rfl rfl rfl ?_
    refine cVr (aw_d q_Mo_readLines 23 rfl) (sp_goesA) vL_Mo_327_Mo rfl rfl rfl rfl rfl rfl ⟨aw_le rfl, aw_le rfl⟩ ?_
    refine aw_ifN_eq (tgt := 111) (aw_d q_Mo_readLines 24 rfl) (by decide) (by (have hc2 := hc.2.1; have h6 := hI.2.1.2.1; omega)) (fun c48 => by exfalso; (have hc2 := hc.2.1; have h6 := hI.2.1.2.1; omega)) (fun c48 => ?_)
    refine aw_iload_n (aw_d q_Mo_readLines 25 rfl) rfl rfl ?_
    refine aw_ifN_ne (tgt := 63) (aw_d q_Mo_readLines 26 rfl) (by decide) (by (have hc2 := hc.2.1; have h6 := hI.2.1.2.1; omega)) (fun c52 => by exfalso; (have hc2 := hc.2.1; have h6 := hI.2.1.2.1; omega)) (fun c52 => ?_)
    refine aw_aload_n (aw_d q_Mo_readLines 27 rfl) rfl rfl rfl ?_
    refine aw_ldc2 (aw_d q_Mo_readLines 28 rfl) lL_Mo_284 ?_
    refine aw_iconst (v := nI 1) (aw_d q_Mo_readLines 29 rfl) (by decide) ?_
    refine cV (aw_d q_Mo_readLines 30 rfl) (sp_Umust (res := .ok (p, ())) (A := []) (x := 63) (j := 1) (frM_TP hI.1 hc) (by decide) (RR_su (T := T) hp)) vL_Mo_340_Mo rfl rfl rfl rfl rfl rfl ⟨aw_le rfl, aw_le rfl⟩ (fun r60 h60 hp60 => ?_)
    obtain ⟨rfl, b60, q60, hr60, rfl⟩ := hp60
    rw [bp_ok, show mu T ([] ++ eB 63 1) p = mu T (tx 2) p from (congrArg (fun L => mu T L _) (show _ = tx 2 by decide))] at hr60
    cases hx63s : mu T (tx 2) p with
    | error u63s =>
      rw [hx63s] at hr60
      obtain ⟨hu63s, rfl, hb63s⟩ := hr60
      refine aw_aload_n (aw_d q_Mo_readLines 31 rfl) rfl rfl rfl ?_
      refine cVv (aw_d q_Mo_readLines 32 rfl) (sp_headI hu63s hb63s) vL_Mo_385_Mo rfl rfl rfl rfl rfl rfl ⟨aw_le rfl, aw_le rfl⟩ ?_
      refine aw_aload_n (aw_d q_Mo_readLines 33 rfl) rfl rfl rfl ?_
      refine cVr (aw_d q_Mo_readLines 34 rfl) (sp_goesI hu63s) vL_Mo_327_Mo rfl rfl rfl rfl rfl rfl ⟨aw_le rfl, aw_le rfl⟩ ?_
      refine aw_ifN_eq (tgt := 86) (aw_d q_Mo_readLines 35 rfl) (by decide) (by (have hc2 := hc.2.1; have h6 := hI.2.1.2.1; omega)) (fun c71 => ?_) (fun c71 => by exfalso; (have hc2 := hc.2.1; have h6 := hI.2.1.2.1; omega))
      refine aw_iconst (v := nI 0) (aw_d q_Mo_readLines 42 rfl) (by decide) ?_
      refine aw_istore (aw_d q_Mo_readLines 43 rfl) (aw_le rfl) rfl ?_
      refine aw_aload_n (aw_d q_Mo_readLines 44 rfl) rfl rfl rfl ?_
      refine aw_dup (aw_d q_Mo_readLines 45 rfl) rfl ?_
      refine aw_getf (v := .int (nI (b60))) (aw_d q_Mo_readLines 46 rfl) fL_Mo_324_Mo rfl (gk rfl) ?_
      refine aw_iload (aw_d q_Mo_readLines 47 rfl) rfl ?_
      refine aw_ifN_eq (tgt := 103) (aw_d q_Mo_readLines 48 rfl) (by decide) (by (have hc2 := hc.2.1; have h6 := hI.2.1.2.1; omega)) (fun c96 => ?_) (fun c96 => by exfalso; (have hc2 := hc.2.1; have h6 := hI.2.1.2.1; omega))
      refine aw_iconst (v := nI 0) (aw_d q_Mo_readLines 51 rfl) (by decide) ?_
      refine aw_iaddN (aw_d q_Mo_readLines 52 rfl) ?_
      refine wi_33_31 (aw_d q_Mo_readLines 53 rfl) pL_Mo_324_Mo ?_
      refine aw_goto (tgt := 39) (aw_d q_Mo_readLines 54 rfl) (by decide) ?_
      refine aw_iload (aw_d q_Mo_readLines 20 rfl) rfl ?_
      refine aw_ifN_eq (tgt := 111) (aw_d q_Mo_readLines 21 rfl) (by decide) (by (have hc2 := hc.2.1; have h6 := hI.2.1.2.1; omega)) (fun c41 => ?_) (fun c41 => by exfalso; (have hc2 := hc.2.1; have h6 := hI.2.1.2.1; omega))
      refine aw_aload_n (aw_d q_Mo_readLines 55 rfl) rfl rfl rfl ?_
      refine aw_iload_n (aw_d q_Mo_readLines 56 rfl) rfl rfl ?_
      refine cVv (aw_d q_Mo_readLines 57 rfl) (sp_endLI_f hu63s hb63s) vL_Mo_455_Mo rfl rfl rfl rfl rfl rfl ⟨aw_le rfl, aw_le rfl⟩ ?_
      exact AW.to (li_116_f (he.trans (by simp only [lk, bd_ok, bd_er, and_self, if_true, if_false, Bool.false_eq_true, ↓reduceIte, show ∀ q, mu T (w_lm false) q = mu T (tx 2) q from fun _ => rfl, hx63s])) hu63s hI.1 hb63s) rfl rfl rfl rfl
    | ok p63s =>
      rw [hx63s] at hr60
      obtain ⟨hbb63s, hp_63s, rfl⟩ := hr60
      have hbb63s : b60 = p63s := hbb63s
      subst hbb63s
      refine aw_aload_n (aw_d q_Mo_readLines 31 rfl) rfl rfl rfl ?_
      refine cV (aw_d q_Mo_readLines 32 rfl) (sp_headA hI hc hp_63s) vL_Mo_385_Mo rfl rfl rfl rfl rfl rfl ⟨aw_le rfl, aw_le rfl⟩ (fun r64 h64 hp64 => ?_)
      obtain ⟨rfl, hp64⟩ := hp64
      cases hx64 : nn T n N b60 with
      | error u64 =>
        rw [hx64] at hp64
        obtain ⟨hue64, b64, hb64, rfl⟩ := hp64
        subst hue64
        refine aw_aload_n (aw_d q_Mo_readLines 33 rfl) rfl rfl rfl ?_
        refine cVr (aw_d q_Mo_readLines 34 rfl) (sp_goesI (show u64 ≤ 3000 by have := hc.2.1; have := hp_63s; omega)) vL_Mo_327_Mo rfl rfl rfl rfl rfl rfl ⟨aw_le rfl, aw_le rfl⟩ ?_
        refine aw_ifN_eq (tgt := 86) (aw_d q_Mo_readLines 35 rfl) (by decide) (by (have hc2 := hc.2.1; have h6 := hI.2.1.2.1; omega)) (fun c71 => ?_) (fun c71 => by exfalso; (have hc2 := hc.2.1; have h6 := hI.2.1.2.1; omega))
        refine aw_iconst (v := nI 0) (aw_d q_Mo_readLines 42 rfl) (by decide) ?_
        refine aw_istore (aw_d q_Mo_readLines 43 rfl) (aw_le rfl) rfl ?_
        refine aw_aload_n (aw_d q_Mo_readLines 44 rfl) rfl rfl rfl ?_
        refine aw_dup (aw_d q_Mo_readLines 45 rfl) rfl ?_
        refine aw_getf (v := .int (nI (b64))) (aw_d q_Mo_readLines 46 rfl) fL_Mo_324_Mo rfl (gk rfl) ?_
        refine aw_iload (aw_d q_Mo_readLines 47 rfl) rfl ?_
        refine aw_ifN_eq (tgt := 103) (aw_d q_Mo_readLines 48 rfl) (by decide) (by (have hc2 := hc.2.1; have h6 := hI.2.1.2.1; omega)) (fun c96 => ?_) (fun c96 => by exfalso; (have hc2 := hc.2.1; have h6 := hI.2.1.2.1; omega))
        refine aw_iconst (v := nI 0) (aw_d q_Mo_readLines 51 rfl) (by decide) ?_
        refine aw_iaddN (aw_d q_Mo_readLines 52 rfl) ?_
        refine wi_33_31 (aw_d q_Mo_readLines 53 rfl) pL_Mo_324_Mo ?_
        refine aw_goto (tgt := 39) (aw_d q_Mo_readLines 54 rfl) (by decide) ?_
        refine aw_iload (aw_d q_Mo_readLines 20 rfl) rfl ?_
        refine aw_ifN_eq (tgt := 111) (aw_d q_Mo_readLines 21 rfl) (by decide) (by (have hc2 := hc.2.1; have h6 := hI.2.1.2.1; omega)) (fun c41 => ?_) (fun c41 => by exfalso; (have hc2 := hc.2.1; have h6 := hI.2.1.2.1; omega))
        refine aw_aload_n (aw_d q_Mo_readLines 55 rfl) rfl rfl rfl ?_
        refine aw_iload_n (aw_d q_Mo_readLines 56 rfl) rfl rfl ?_
        refine cVv (aw_d q_Mo_readLines 57 rfl) (sp_endLI_f (show u64 ≤ 3000 by have := hc.2.1; have := hp_63s; omega) (show b64 ≤ 3010 by have := hc.2.1; omega)) vL_Mo_455_Mo rfl rfl rfl rfl rfl rfl ⟨aw_le rfl, aw_le rfl⟩ ?_
        exact AW.to (li_116_f (he.trans (by simp only [lk, bd_ok, bd_er, and_self, if_true, if_false, Bool.false_eq_true, ↓reduceIte, show ∀ q, mu T (w_lm false) q = mu T (tx 2) q from fun _ => rfl, hx63s, hx64])) (show u64 ≤ 3000 by have := hc.2.1; have := hp_63s; omega) hI.1 (show b64 ≤ 3010 by have := hc.2.1; omega)) rfl rfl rfl rfl
      | ok y64 =>
        rw [hx64] at hp64
        obtain ⟨hp_64, F64, hI64, rfl⟩ := hp64
        refine aw_aload_n (aw_d q_Mo_readLines 33 rfl) rfl rfl rfl ?_
        refine cVr (aw_d q_Mo_readLines 34 rfl) (sp_goesA) vL_Mo_327_Mo rfl rfl rfl rfl rfl rfl ⟨aw_le rfl, aw_le rfl⟩ ?_
        refine aw_ifN_eq (tgt := 86) (aw_d q_Mo_readLines 35 rfl) (by decide) (by (have hc2 := hc.2.1; have h6 := hI.2.1.2.1; omega)) (fun c71 => by exfalso; (have hc2 := hc.2.1; have h6 := hI.2.1.2.1; omega)) (fun c71 => ?_)
        refine aw_aload_n (aw_d q_Mo_readLines 36 rfl) rfl rfl rfl ?_
        refine cVr (aw_d q_Mo_readLines 37 rfl) (sp_peek (frM_TP hI64.1 hc) (b := y64.1) (by have := hc.2.1; omega)) vL_Mo_331_Mo rfl rfl rfl rfl rfl rfl ⟨aw_le rfl, aw_le rfl⟩ ?_
        refine aw_iload_n (aw_d q_Mo_readLines 38 rfl) rfl rfl ?_
        refine aw_icmpI_ne (tgt := 86) (aw_d q_Mo_readLines 39 rfl) (by decide) (by (have hc2 := hc.2.1; have h6 := hI.2.1.2.1; omega)) (fun c79 => ?_) (fun c79 => ?_)
        · refine aw_iconst (v := nI 0) (aw_d q_Mo_readLines 42 rfl) (by decide) ?_
          refine aw_istore (aw_d q_Mo_readLines 43 rfl) (aw_le rfl) rfl ?_
          refine aw_aload_n (aw_d q_Mo_readLines 44 rfl) rfl rfl rfl ?_
          refine aw_dup (aw_d q_Mo_readLines 45 rfl) rfl ?_
          refine aw_getf (v := .int (nI (y64.1))) (aw_d q_Mo_readLines 46 rfl) fL_Mo_324_Mo rfl (gk rfl) ?_
          refine aw_iload (aw_d q_Mo_readLines 47 rfl) rfl ?_
          refine aw_ifN_eq (tgt := 103) (aw_d q_Mo_readLines 48 rfl) (by decide) (by (have hc2 := hc.2.1; have h6 := hI.2.1.2.1; omega)) (fun c96 => ?_) (fun c96 => by exfalso; (have hc2 := hc.2.1; have h6 := hI.2.1.2.1; omega))
          refine aw_iconst (v := nI 0) (aw_d q_Mo_readLines 51 rfl) (by decide) ?_
          refine aw_iaddN (aw_d q_Mo_readLines 52 rfl) ?_
          refine wi_33_31 (aw_d q_Mo_readLines 53 rfl) pL_Mo_324_Mo ?_
          refine aw_goto (tgt := 39) (aw_d q_Mo_readLines 54 rfl) (by decide) ?_
          have hbt : ¬ (T y64.1).toInt = (w_ls false).toInt := show ¬ (T y64.1).toInt = 9 by omega
          refine AW.to (h' := HP (QM F64 (nI y64.1) (-1) (nI b60) z X)) ?_ rfl rfl rfl rfl
          refine aw_iload (aw_d q_Mo_readLines 20 rfl) rfl ?_
          refine aw_ifN_eq (tgt := 111) (aw_d q_Mo_readLines 21 rfl) (by decide) (by (have hc2 := hc.2.1; have h6 := hI.2.1.2.1; omega)) (fun c41 => ?_) (fun c41 => by exfalso; (have hc2 := hc.2.1; have h6 := hI.2.1.2.1; omega))
          rw [show res = lmV false T n y64.1 y64.2 from he.trans (by simp only [lk, lmV, bd_bd, bd_ok, bd_er, and_self, if_true, if_false, Bool.false_eq_true, ↓reduceIte, show ∀ q, mu T (w_lm false) q = mu T (tx 2) q from fun _ => rfl, hx63s, hx64, hbt])]
          exact AW.to (ln_mid_f hc y64.1 y64.2 F64 _ _ _ _ _ hp_64 hI64) rfl rfl rfl rfl
        · refine aw_iconst (v := nI 1) (aw_d q_Mo_readLines 40 rfl) (by decide) ?_
          refine aw_goto (tgt := 87) (aw_d q_Mo_readLines 41 rfl) (by decide) ?_
          refine aw_istore (aw_d q_Mo_readLines 43 rfl) (aw_le rfl) rfl ?_
          refine aw_aload_n (aw_d q_Mo_readLines 44 rfl) rfl rfl rfl ?_
          refine aw_dup (aw_d q_Mo_readLines 45 rfl) rfl ?_
          refine aw_getf (v := .int (nI (y64.1))) (aw_d q_Mo_readLines 46 rfl) fL_Mo_324_Mo rfl (gk rfl) ?_
          refine aw_iload (aw_d q_Mo_readLines 47 rfl) rfl ?_
          refine aw_ifN_eq (tgt := 103) (aw_d q_Mo_readLines 48 rfl) (by decide) (by (have hc2 := hc.2.1; have h6 := hI.2.1.2.1; omega)) (fun c96 => by exfalso; (have hc2 := hc.2.1; have h6 := hI.2.1.2.1; omega)) (fun c96 => ?_)
          refine aw_iconst (v := nI 1) (aw_d q_Mo_readLines 49 rfl) (by decide) ?_
          refine aw_goto (tgt := 104) (aw_d q_Mo_readLines 50 rfl) (by decide) ?_
          refine aw_iaddN (aw_d q_Mo_readLines 52 rfl) ?_
          refine wi_33_31 (aw_d q_Mo_readLines 53 rfl) pL_Mo_324_Mo ?_
          refine aw_goto (tgt := 39) (aw_d q_Mo_readLines 54 rfl) (by decide) ?_
          have hbt : (T y64.1).toInt = (w_ls false).toInt := show (T y64.1).toInt = 9 by omega
          have hpn : y64.1 + 1 ≤ n := T_lt hc.2.2.2.1 (p := y64.1) (by omega)
          exact AW.to (ih (y64.1 + 1) y64.2 F64 _ _ _ _ (by have := nn_1 hx64; omega) hpn hI64 (he.trans (by simp only [lk, bd_ok, bd_er, and_self, if_true, if_false, Bool.false_eq_true, ↓reduceIte, show ∀ q, mu T (w_lm false) q = mu T (tx 2) q from fun _ => rfl, hx63s, hx64, hbt]))) rfl rfl rfl rfl
set_option maxRecDepth 20000 in
theorem sp_readL_f {g : aw_G} {S D : aw_S} {N : nm_T} {n : Nat} {T : Nat → Int32} {f z : Int32} {X : Nat → Int32} (hI : imC S N 0 [] D) (hc : TPm S n T)  : Sp g M_Mo_readLines 5 112 0 0 [.ref 33, .int (nI 0)] (HP (QM D (nI 0) (-1) f z X)) (rpM S n (rLp false T n N)) := by
  refine Sp.of rfl (aw_le rfl) ?_
  have hc2 := hc.2.1
  refine aw_iload_n (aw_d q_Mo_readLines 0 rfl) rfl rfl ?_
  refine aw_ifN_eq (tgt := 9) (aw_d q_Mo_readLines 1 rfl) (by decide) (by (have hc2 := hc.2.1; have h6 := hI.2.1.2.1; omega)) (fun c1 => ?_) (fun c1 => by exfalso; (have hc2 := hc.2.1; have h6 := hI.2.1.2.1; omega))
  refine aw_bipush (v := nI 9) (aw_d q_Mo_readLines 4 rfl) (by decide) ?_
  refine aw_istore_n (aw_d q_Mo_readLines 5 rfl) rfl (aw_le rfl) rfl ?_
  refine aw_iload_n (aw_d q_Mo_readLines 6 rfl) rfl rfl ?_
  refine aw_ifN_eq (tgt := 21) (aw_d q_Mo_readLines 7 rfl) (by decide) (by (have hc2 := hc.2.1; have h6 := hI.2.1.2.1; omega)) (fun c13 => ?_) (fun c13 => by exfalso; (have hc2 := hc.2.1; have h6 := hI.2.1.2.1; omega))
  refine aw_bipush (v := nI 10) (aw_d q_Mo_readLines 10 rfl) (by decide) ?_
  refine aw_istore_n (aw_d q_Mo_readLines 11 rfl) rfl (aw_le rfl) rfl ?_
  refine aw_aload_n (aw_d q_Mo_readLines 12 rfl) rfl rfl rfl ?_
  refine cVr (aw_d q_Mo_readLines 13 rfl) (sp_peek (frM_TP hI.1 hc) (b := 0) (by have := hc.2.1; omega)) vL_Mo_331_Mo rfl rfl rfl rfl rfl rfl ⟨aw_le rfl, aw_le rfl⟩ ?_
  refine aw_iload_n (aw_d q_Mo_readLines 14 rfl) rfl rfl ?_
  refine aw_icmpI_eq (tgt := 36) (aw_d q_Mo_readLines 15 rfl) (by decide) (by (have hc2 := hc.2.1; have h6 := hI.2.1.2.1; omega)) (fun c29 => ?_) (fun c29 => ?_)
  · refine aw_iconst (v := nI 0) (aw_d q_Mo_readLines 18 rfl) (by decide) ?_
    refine aw_istore (aw_d q_Mo_readLines 19 rfl) (aw_le rfl) rfl ?_
    refine aw_iload (aw_d q_Mo_readLines 20 rfl) rfl ?_
    refine aw_ifN_eq (tgt := 111) (aw_d q_Mo_readLines 21 rfl) (by decide) (by (have hc2 := hc.2.1; have h6 := hI.2.1.2.1; omega)) (fun c41 => ?_) (fun c41 => by exfalso; (have hc2 := hc.2.1; have h6 := hI.2.1.2.1; omega))
    rw [show rLp false T n N = lmV false T n 0 N by rw [rLp, ln, if_pos (show (T 0).toInt = (if false = true then 13 else 10) from (show (T 0).toInt = 10 by omega)), lmV, bd_bd]; simp only [bd_ok]]
    exact AW.to (ln_mid_f hc 0 N D _ _ _ _ _ (Nat.zero_le n) hI) rfl rfl rfl rfl
  · refine aw_iconst (v := nI 1) (aw_d q_Mo_readLines 16 rfl) (by decide) ?_
    refine aw_goto (tgt := 37) (aw_d q_Mo_readLines 17 rfl) (by decide) ?_
    refine aw_istore (aw_d q_Mo_readLines 19 rfl) (aw_le rfl) rfl ?_
    exact AW.to (lp_lk2_f hc 7 0 N D _ _ _ _ (by omega) (Nat.zero_le n) hI (by rw [rLp, ln, if_neg (show ¬ (T 0).toInt = (if false = true then 13 else 10) from (show ¬ (T 0).toInt = 10 by omega))])) rfl rfl rfl rfl
