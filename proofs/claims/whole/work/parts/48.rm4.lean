theorem un_q {sl : Bool} {b : Int32} (h : b.toInt = 34 ∨ b.toInt = 92) : un sl b = some b := if_pos (by omega)
theorem un_s {b : Int32} (h : b.toInt = 47) : un true b = some b := if_pos (Or.inr (Or.inr ⟨rfl, h⟩))
theorem un_x {sl : Bool} {b : Int32} (h : ¬ b.toInt = 34) (h2 : ¬ b.toInt = 92) (h3 : ¬ (sl = true ∧ b.toInt = 47)) : un sl b = if b.toInt = 116 then some (nI 9) else if b.toInt = 110 then some (nI 10) else if b.toInt = 114 then some (nI 13) else none := if_neg (fun q => by rcases q with q | q | q; exact h q; exact h2 q; exact h3 q)
theorem okM_K {kd : Nat} {L : List Int32} {f : Nat → Int32} (hL : L.all pTx = true) : okM kd (XA L f) L.length = okL kd L := by
  rw [okM_congr (k := kd) (n := L.length) (f := XA L f) (e := fun i => L.getD i 0) (fun i hi => if_pos hi)]
  simp only [okM, okL, okK]
  by_cases h0 : kd = 0
  · rw [if_pos h0, if_pos h0]
  · rw [if_neg h0, if_neg h0]
    by_cases h1 : kd = 1
    · rw [if_pos h1, if_pos h1, show decide (1 ≤ L.length ∧ L.length ≤ 8) = decide (0 < L.length ∧ L.length ≤ 8) from by congr 1]
    · rw [if_neg h1, if_neg h1]
      exact (allB_iff _ _ _ _).mpr (fun i _ hi => getD_all hL (by omega))
/-! a blank's letters: as many as there are -/
def ldE (T : Nat → Int32) (n p : Nat) : Nat := runB pLD T (n - p) p
def ldL (T : Nat → Int32) (p : Nat) : Nat → List Int32
  | 0 => []
  | m + 1 => ldL T p m ++ [T (p + m)]
theorem ldL_len {T : Nat → Int32} {p : Nat} : ∀ m, (ldL T p m).length = m
  | 0 => rfl
  | m + 1 => by simp only [ldL, List.length_append, List.length_singleton, ldL_len m]
theorem ldL_all {T : Nat → Int32} {p e : Nat} (h : ∀ i, p ≤ i → i < e → pLD (T i) = true) : ∀ m, p + m ≤ e → (ldL T p m).all pLD = true := by
  intro m
  induction m with
  | zero => intro _; rfl
  | succ m ih =>
    intro hm
    simp only [ldL, List.all_append, List.all_cons, List.all_nil, Bool.and_true, Bool.and_eq_true]
    exact ⟨ih (by omega), h (p + m) (by omega) (by omega)⟩
theorem runB_end {c : Int32 → Bool} {T : Nat → Int32} : ∀ m p, runB c T m p < p + m → c (T (runB c T m p)) = false := by
  intro m
  induction m with
  | zero => intro p h; simp only [runB] at h; omega
  | succ m ih =>
    intro p h
    simp only [runB] at h ⊢
    by_cases hc : c (T p) = true
    · rw [if_pos hc] at h ⊢; exact ih (p + 1) (by omega)
    · rw [if_neg hc]; simpa using hc
theorem bk_run {T : Nat → Int32} {a e : Nat} (h1 : ∀ i, a ≤ i → i < e → pLD (T i) = true) (h2 : pLD (T e) = false) (hae : a ≤ e) : ∀ m k, m + k = 9 → a + k ≤ e → bk T m (a + k) (ldL T a k) = (min e (a + 9), ldL T a (min (e - a) 9)) := by
  intro m
  induction m with
  | zero => intro k hk hle; simp only [bk]; rw [show min e (a + 9) = a + k by omega, show min (e - a) 9 = k by omega]
  | succ m ih =>
    intro k hk hle
    simp only [bk]
    by_cases hc : pLD (T (a + k)) = true
    · have hlt : a + k < e := by
        refine Nat.lt_of_le_of_ne hle (fun q => ?_)
        rw [q, h2] at hc; cases hc
      rw [if_pos hc]
      have := ih (k + 1) (by omega) (by omega)
      simp only [ldL] at this
      exact this
    · rw [if_neg hc]
      have : e = a + k := by
        refine Nat.le_antisymm (Nat.le_of_not_lt (fun q => ?_)) hle
        exact hc (h1 _ (by omega) q)
      rw [show min e (a + 9) = a + k by omega, show min (e - a) 9 = k by omega]
theorem okK1' (f : Nat → Int32) (n : Nat) : okK 1 f n = (decide (0 < n ∧ n ≤ 8) && allB pLD f n 0) := rfl
theorem bkT_ok {T : Nat → Int32} {n p : Nat} (hT : ∀ i, n ≤ i → T i = -1) (hp : p ≤ n) : bkT T p = if 1 ≤ ldE T n p - p ∧ ldE T n p - p ≤ 8 then .ok (ldE T n p, ldL T p (ldE T n p - p)) else .error p := by
  have hle := runB_le (c := pLD) (T := T) (n - p) p
  have h1 : ∀ i, p ≤ i → i < ldE T n p → pLD (T i) = true := fun i a b => runB_all (n - p) p i a b
  have h2 : pLD (T (ldE T n p)) = false := by
    by_cases hq : ldE T n p < n
    · exact runB_end (n - p) p (by show ldE T n p < _; omega)
    · rw [hT _ (by omega)]; decide
  have hb := bk_run h1 h2 (by show p ≤ runB pLD T (n - p) p; exact hle.1) 9 0 rfl hle.1
  have hle2 : p ≤ ldE T n p := hle.1
  rw [show bk T 9 (p + 0) (ldL T p 0) = bk T 9 p [] from rfl] at hb
  rw [bkT, hb, okT, bd_ok]
  by_cases hc : 1 ≤ ldE T n p - p ∧ ldE T n p - p ≤ 8
  · rw [if_pos hc, show min (ldE T n p) (p + 9) = ldE T n p by omega, show min (ldE T n p - p) 9 = ldE T n p - p by omega]
    have : okL 1 (ldL T p (ldE T n p - p)) = true := by
      simp only [okL, okK1', ldL_len]
      rw [decide_eq_true (by omega), Bool.true_and]
      exact (allB_iff _ _ _ _).mpr (fun i _ hi => getD_all (ldL_all h1 _ (by omega)) (by rw [ldL_len]; omega))
    rw [if_pos this]
  · rw [if_neg hc]
    have : ¬ okL 1 (ldL T p (min (ldE T n p - p) 9)) = true := by
      simp only [okL, okK1', ldL_len]
      rw [decide_eq_false (by omega), Bool.false_and]
      exact Bool.false_ne_true
    rw [if_neg this]
set_option maxRecDepth 20000 in
theorem sp_add {g : aw_G} {S : aw_S} {a f c x : Int32} {X : Nat → Int32} {L : List Int32} (h20 : L.length ≤ 20)  : Sp g M_Mo_add 1 21 0 0 [.ref 33, .int c, .int x] (HP (QM S a (-1) f (nI (L).length) (XA (L) X))) (fun r h => r = none ∧ ((L.length = 20 ∧ h = HP (QM S a x f (nI (L).length) (XA (L) X))) ∨ (L.length < 20 ∧ h = HP (QM S a (-1) f (nI (L ++ [c]).length) (XA (L ++ [c]) X))))) := by
  refine Sp.of rfl (aw_le rfl) ?_
  refine aw_aload_n (aw_d q_Mo_add 0 rfl) rfl rfl rfl ?_
  refine aw_getf (v := .int (nI (L.length))) (aw_d q_Mo_add 1 rfl) fL_Mo_93_Mo rfl (gk rfl) ?_
  refine aw_bipush (v := nI 20) (aw_d q_Mo_add 2 rfl) (by decide) ?_
  refine aw_icmpN_ne (tgt := 17) (aw_d q_Mo_add 3 rfl) (by decide) (by omega) (by omega) (fun c6 => ?_) (fun c6 => ?_)
  · refine aw_aload_n (aw_d q_Mo_add 8 rfl) rfl rfl rfl ?_
    refine aw_getf (aw_d q_Mo_add 9 rfl) fL_Mo_71_Mo rfl rfl ?_
    refine aw_aload_n (aw_d q_Mo_add 10 rfl) rfl rfl rfl ?_
    refine aw_getf (v := .int (nI (L.length))) (aw_d q_Mo_add 11 rfl) fL_Mo_93_Mo rfl (gk rfl) ?_
    refine aw_iload_n (aw_d q_Mo_add 12 rfl) rfl rfl ?_
    refine wn_54 (aw_d q_Mo_add 13 rfl) (by omega) ?_
    refine aw_aload_n (aw_d q_Mo_add 14 rfl) rfl rfl rfl ?_
    refine aw_dup (aw_d q_Mo_add 15 rfl) rfl ?_
    refine aw_getf (v := .int (nI (L.length))) (aw_d q_Mo_add 16 rfl) fL_Mo_93_Mo rfl (gk rfl) ?_
    refine aw_iconst (v := nI 1) (aw_d q_Mo_add 17 rfl) (by decide) ?_
    refine aw_iaddN (aw_d q_Mo_add 18 rfl) ?_
    refine wi_33_34 (aw_d q_Mo_add 19 rfl) pL_Mo_93_Mo ?_
    exact aw_vret (aw_d q_Mo_add 20 rfl) rfl (⟨rfl, Or.inr ⟨by omega, by rw [← XA_add, List.length_append]; rfl⟩⟩)
  · refine aw_aload_n (aw_d q_Mo_add 4 rfl) rfl rfl rfl ?_
    refine aw_iload_n (aw_d q_Mo_add 5 rfl) rfl rfl ?_
    refine cVv (aw_d q_Mo_add 6 rfl) (sp_mfailA) vL_Mo_334_Mo rfl rfl rfl rfl rfl rfl ⟨aw_le rfl, aw_le rfl⟩ ?_
    refine aw_goto (tgt := 37) (aw_d q_Mo_add 7 rfl) (by decide) ?_
    exact aw_vret (aw_d q_Mo_add 20 rfl) rfl (⟨rfl, Or.inl ⟨c6, rfl⟩⟩)
set_option maxRecDepth 20000 in
theorem lp_esc {g : aw_G} {S : aw_S} {n : Nat} {T : Nat → Int32} {f : Int32} {X : Nat → Int32} (hc : TPm S n T) {a : Nat} {sl : Bool} : ∀ (m p : Nat) (L : List Int32) (x2 x3 x4 x5 : Option Value), m + L.length = 21 → p ≤ n → L.length ≤ 20 → L.all pTx = true → bt T sl 21 a [] = bt T sl m p L → AW g M_Mo_escapedText (aw_rm 2 43 0 0) (aw_F g 0 0 (fun r h => r = none ∧ match bt T sl 21 a [] with
  | .ok y => txOK n y ∧ (1 ≤ y.1 ∧ (T (y.1 - 1)).toInt = 34) ∧ h = HP (QM S (nI (y.1 - 1)) (-1) f (nI y.2.length) (XA y.2 X))
  | .error u => u ≤ n ∧ ∃ (b : Nat) (z : Int32) (X : Nat → Int32), b ≤ 3010 ∧ h = HP (QM S (nI b) (nI u) f z X))) 5 [some (.ref 33), some (.int (if sl = true then nI 1 else nI 0)), x2, x3, x4, x5] [] (HP (QM S (nI p) (-1) f (nI (L).length) (XA (L) X))) 0 0 := by
  have hc2 := hc.2.1
  intro m
  induction m with
  | zero => intro p L x2 x3 x4 x5 hk hp h20 hal he; exfalso; omega
  | succ m ih =>
    intro p L x2 x3 x4 x5 hk hp h20 hal he
    refine aw_aload_n (aw_d q_Mo_escapedText 3 rfl) rfl rfl rfl ?_
    refine cVr (aw_d q_Mo_escapedText 4 rfl) (sp_goesA) vL_Mo_327_Mo rfl rfl rfl rfl rfl rfl ⟨aw_le rfl, aw_le rfl⟩ ?_
    refine aw_ifN_eq (tgt := 183) (aw_d q_Mo_escapedText 5 rfl) (by decide) (by (have hc2 := hc.2.1; omega)) (fun c9 => by exfalso; (have hc2 := hc.2.1; omega)) (fun c9 => ?_)
    refine aw_aload_n (aw_d q_Mo_escapedText 6 rfl) rfl rfl rfl ?_
    refine cVr (aw_d q_Mo_escapedText 7 rfl) (sp_peek hc (b := p) (by omega)) vL_Mo_331_Mo rfl rfl rfl rfl rfl rfl ⟨aw_le rfl, aw_le rfl⟩ ?_
    refine aw_bipush (v := nI 34) (aw_d q_Mo_escapedText 8 rfl) (by decide) ?_
    refine aw_icmpI_eq (tgt := 183) (aw_d q_Mo_escapedText 9 rfl) (by decide) (by (have hc2 := hc.2.1; omega)) (fun c18 => ?_) (fun c18 => ?_)
    · exact aw_vret (aw_d q_Mo_escapedText 89 rfl) rfl (⟨rfl, by have hpn := T_lt hc.2.2.2.1 (p := p) (by omega); rw [he, bt, if_pos (by omega)]; exact ⟨⟨hpn, h20, hal⟩, ⟨by simp, by show (T (p + 1 - 1)).toInt = 34; rw [Nat.add_sub_cancel]; omega⟩, rfl⟩⟩)
    · refine aw_aload_n (aw_d q_Mo_escapedText 10 rfl) rfl rfl rfl ?_
      refine cVr (aw_d q_Mo_escapedText 11 rfl) (sp_peek hc (b := p) (by omega)) vL_Mo_331_Mo rfl rfl rfl rfl rfl rfl ⟨aw_le rfl, aw_le rfl⟩ ?_
      refine aw_istore_n (aw_d q_Mo_escapedText 12 rfl) rfl (aw_le rfl) rfl ?_
      refine aw_aload_n (aw_d q_Mo_escapedText 13 rfl) rfl rfl rfl ?_
      refine aw_getf (v := .int (nI (p))) (aw_d q_Mo_escapedText 14 rfl) fL_Mo_324_Mo rfl (gk rfl) ?_
      refine aw_istore_n (aw_d q_Mo_escapedText 15 rfl) rfl (aw_le rfl) rfl ?_
      refine aw_iload_n (aw_d q_Mo_escapedText 16 rfl) rfl rfl ?_
      refine aw_bipush (v := nI 92) (aw_d q_Mo_escapedText 17 rfl) (by decide) ?_
      refine aw_icmpI_ne (tgt := 145) (aw_d q_Mo_escapedText 18 rfl) (by decide) (by (have hc2 := hc.2.1; omega)) (fun c34 => ?_) (fun c34 => ?_)
      · refine aw_iload_n (aw_d q_Mo_escapedText 69 rfl) rfl rfl ?_
        refine aw_bipush (v := nI 32) (aw_d q_Mo_escapedText 70 rfl) (by decide) ?_
        refine aw_bipush (v := nI 126) (aw_d q_Mo_escapedText 71 rfl) (by decide) ?_
        refine cSr (aw_d q_Mo_escapedText 72 rfl) (sp_Mo_in (A := 32) (B := 126) rfl rfl) sL_Mo_81 rfl rfl rfl rfl ⟨aw_le rfl, aw_le rfl⟩ ?_
        refine aw_ifB_eq (tgt := 175) (aw_d q_Mo_escapedText 73 rfl) (by decide) (fun c153 => ?_) (fun c153 => ?_)
        · refine aw_aload_n (aw_d q_Mo_escapedText 85 rfl) rfl rfl rfl ?_
          refine aw_iload_n (aw_d q_Mo_escapedText 86 rfl) rfl rfl ?_
          refine cVv (aw_d q_Mo_escapedText 87 rfl) (sp_mfailA) vL_Mo_334_Mo rfl rfl rfl rfl rfl rfl ⟨aw_le rfl, aw_le rfl⟩ ?_
          refine aw_goto (tgt := 5) (aw_d q_Mo_escapedText 88 rfl) (by decide) ?_
          have hz : bt T sl 21 a [] = .error p := he.trans (by rw [bt, if_neg (by omega)]; by_cases q20 : 20 ≤ L.length; (rw [if_pos q20]); (rw [if_neg q20, if_neg (by omega), if_neg (show ¬ pPr (T p) = true from fun q => c153 (of_decide_eq_true q))]))
          refine aw_aload_n (aw_d q_Mo_escapedText 3 rfl) rfl rfl rfl ?_
          refine cVr (aw_d q_Mo_escapedText 4 rfl) (sp_goesI (u := p) (by omega)) vL_Mo_327_Mo rfl rfl rfl rfl rfl rfl ⟨aw_le rfl, aw_le rfl⟩ ?_
          refine aw_ifN_eq (tgt := 183) (aw_d q_Mo_escapedText 5 rfl) (by decide) (by omega) (fun c9 => ?_) (fun c9 => by exfalso; omega)
          exact aw_vret (aw_d q_Mo_escapedText 89 rfl) rfl (⟨rfl, by rw [hz]; exact ⟨hp, _, _, _, by omega, rfl⟩⟩)
        · refine aw_aload_n (aw_d q_Mo_escapedText 74 rfl) rfl rfl rfl ?_
          refine aw_iload_n (aw_d q_Mo_escapedText 75 rfl) rfl rfl ?_
          refine aw_iload_n (aw_d q_Mo_escapedText 76 rfl) rfl rfl ?_
          refine cV (aw_d q_Mo_escapedText 77 rfl) (sp_add (L := L) (x := nI p) (c := (T p)) h20) vL_Mo_366_Mo rfl rfl rfl rfl rfl rfl ⟨aw_le rfl, aw_le rfl⟩ (fun r159 h159 hp159 => ?_)
          obtain ⟨rfl, hp159⟩ := hp159
          rcases hp159 with ⟨hl159, rfl⟩ | ⟨hl159, rfl⟩
          · skip -- full
            refine aw_aload_n (aw_d q_Mo_escapedText 78 rfl) rfl rfl rfl ?_
            refine aw_dup (aw_d q_Mo_escapedText 79 rfl) rfl ?_
            refine aw_getf (v := .int (nI (p))) (aw_d q_Mo_escapedText 80 rfl) fL_Mo_324_Mo rfl (gk rfl) ?_
            refine aw_iconst (v := nI 1) (aw_d q_Mo_escapedText 81 rfl) (by decide) ?_
            refine aw_iaddN (aw_d q_Mo_escapedText 82 rfl) ?_
            refine wi_33_31 (aw_d q_Mo_escapedText 83 rfl) pL_Mo_324_Mo ?_
            refine aw_goto (tgt := 180) (aw_d q_Mo_escapedText 84 rfl) (by decide) ?_
            refine aw_goto (tgt := 5) (aw_d q_Mo_escapedText 88 rfl) (by decide) ?_
            have hz : bt T sl 21 a [] = .error p := he.trans (by rw [bt, if_neg (by omega), if_pos (by omega)])
            refine aw_aload_n (aw_d q_Mo_escapedText 3 rfl) rfl rfl rfl ?_
            refine cVr (aw_d q_Mo_escapedText 4 rfl) (sp_goesI (u := p) (by omega)) vL_Mo_327_Mo rfl rfl rfl rfl rfl rfl ⟨aw_le rfl, aw_le rfl⟩ ?_
            refine aw_ifN_eq (tgt := 183) (aw_d q_Mo_escapedText 5 rfl) (by decide) (by omega) (fun c9 => ?_) (fun c9 => by exfalso; omega)
            exact aw_vret (aw_d q_Mo_escapedText 89 rfl) rfl (⟨rfl, by rw [hz]; exact ⟨hp, _, _, _, by omega, rfl⟩⟩)
          · skip -- add
            refine aw_aload_n (aw_d q_Mo_escapedText 78 rfl) rfl rfl rfl ?_
            refine aw_dup (aw_d q_Mo_escapedText 79 rfl) rfl ?_
            refine aw_getf (v := .int (nI (p))) (aw_d q_Mo_escapedText 80 rfl) fL_Mo_324_Mo rfl (gk rfl) ?_
            refine aw_iconst (v := nI 1) (aw_d q_Mo_escapedText 81 rfl) (by decide) ?_
            refine aw_iaddN (aw_d q_Mo_escapedText 82 rfl) ?_
            refine wi_33_31 (aw_d q_Mo_escapedText 83 rfl) pL_Mo_324_Mo ?_
            refine aw_goto (tgt := 180) (aw_d q_Mo_escapedText 84 rfl) (by decide) ?_
            refine aw_goto (tgt := 5) (aw_d q_Mo_escapedText 88 rfl) (by decide) ?_
            have c153 : pPr (T p) = true := decide_eq_true c153
            have hpn := T_lt hc.2.2.2.1 (p := p) (pTx_0 (pTx_pr c153))
            exact AW.to (ih (p + 1) (L ++ [T p]) _ _ _ _ (by rw [len_add]; omega) hpn (by rw [len_add]; omega) (all_add hal (pTx_pr c153)) (he.trans (by rw [bt, if_neg (by omega), if_neg (by omega), if_neg (by omega), if_pos c153]))) rfl rfl rfl rfl
      · refine aw_aload_n (aw_d q_Mo_escapedText 19 rfl) rfl rfl rfl ?_
        refine cVr (aw_d q_Mo_escapedText 20 rfl) (sp_peekN hc (b := p) (by omega)) vL_Mo_363_Mo rfl rfl rfl rfl rfl rfl ⟨aw_le rfl, aw_le rfl⟩ ?_
        refine aw_istore (aw_d q_Mo_escapedText 21 rfl) (aw_le rfl) rfl ?_
        refine aw_iload (aw_d q_Mo_escapedText 22 rfl) rfl ?_
        refine aw_bipush (v := nI 34) (aw_d q_Mo_escapedText 23 rfl) (by decide) ?_
        refine aw_icmpI_eq (tgt := 68) (aw_d q_Mo_escapedText 24 rfl) (by decide) (by (have hc2 := hc.2.1; omega)) (fun c47 => ?_) (fun c47 => ?_)
        · refine aw_iload (aw_d q_Mo_escapedText 33 rfl) rfl ?_
          refine aw_goto (tgt := 110) (aw_d q_Mo_escapedText 34 rfl) (by decide) ?_
          refine aw_istore (aw_d q_Mo_escapedText 51 rfl) (aw_le rfl) rfl ?_
          refine aw_iload (aw_d q_Mo_escapedText 52 rfl) rfl ?_
          refine aw_ifI_ge (tgt := 125) (aw_d q_Mo_escapedText 53 rfl) (by decide) (fun c114 => ?_) (fun c114 => by exfalso; omega)
          refine aw_aload_n (aw_d q_Mo_escapedText 58 rfl) rfl rfl rfl ?_
          refine aw_iload (aw_d q_Mo_escapedText 59 rfl) rfl ?_
          refine aw_iload_n (aw_d q_Mo_escapedText 60 rfl) rfl rfl ?_
          refine cV (aw_d q_Mo_escapedText 61 rfl) (sp_add (L := L) (x := nI p) (c := (T (p + 1))) h20) vL_Mo_366_Mo rfl rfl rfl rfl rfl rfl ⟨aw_le rfl, aw_le rfl⟩ (fun r129 h129 hp129 => ?_)
          obtain ⟨rfl, hp129⟩ := hp129
          rcases hp129 with ⟨hl129, rfl⟩ | ⟨hl129, rfl⟩
          · skip -- full
            refine aw_aload_n (aw_d q_Mo_escapedText 62 rfl) rfl rfl rfl ?_
            refine aw_aload_n (aw_d q_Mo_escapedText 63 rfl) rfl rfl rfl ?_
            refine aw_getf (v := .int (nI (p))) (aw_d q_Mo_escapedText 64 rfl) fL_Mo_324_Mo rfl (gk rfl) ?_
            refine aw_iconst (v := nI 2) (aw_d q_Mo_escapedText 65 rfl) (by decide) ?_
            refine aw_iaddN (aw_d q_Mo_escapedText 66 rfl) ?_
            refine wi_33_31 (aw_d q_Mo_escapedText 67 rfl) pL_Mo_324_Mo ?_
            refine aw_goto (tgt := 180) (aw_d q_Mo_escapedText 68 rfl) (by decide) ?_
            refine aw_goto (tgt := 5) (aw_d q_Mo_escapedText 88 rfl) (by decide) ?_
            have hun : un sl (T (p + 1)) = some (T (p + 1)) := un_q (by omega)
            have hz : bt T sl 21 a [] = .error p := he.trans (by rw [bt, if_neg (by omega), if_pos (by omega)])
            refine aw_aload_n (aw_d q_Mo_escapedText 3 rfl) rfl rfl rfl ?_
            refine cVr (aw_d q_Mo_escapedText 4 rfl) (sp_goesI (u := p) (by omega)) vL_Mo_327_Mo rfl rfl rfl rfl rfl rfl ⟨aw_le rfl, aw_le rfl⟩ ?_
            refine aw_ifN_eq (tgt := 183) (aw_d q_Mo_escapedText 5 rfl) (by decide) (by omega) (fun c9 => ?_) (fun c9 => by exfalso; omega)
            exact aw_vret (aw_d q_Mo_escapedText 89 rfl) rfl (⟨rfl, by rw [hz]; exact ⟨hp, _, _, _, by omega, rfl⟩⟩)
          · skip -- add
            refine aw_aload_n (aw_d q_Mo_escapedText 62 rfl) rfl rfl rfl ?_
            refine aw_aload_n (aw_d q_Mo_escapedText 63 rfl) rfl rfl rfl ?_
            refine aw_getf (v := .int (nI (p))) (aw_d q_Mo_escapedText 64 rfl) fL_Mo_324_Mo rfl (gk rfl) ?_
            refine aw_iconst (v := nI 2) (aw_d q_Mo_escapedText 65 rfl) (by decide) ?_
            refine aw_iaddN (aw_d q_Mo_escapedText 66 rfl) ?_
            refine wi_33_31 (aw_d q_Mo_escapedText 67 rfl) pL_Mo_324_Mo ?_
            refine aw_goto (tgt := 180) (aw_d q_Mo_escapedText 68 rfl) (by decide) ?_
            refine aw_goto (tgt := 5) (aw_d q_Mo_escapedText 88 rfl) (by decide) ?_
            have hun : un sl (T (p + 1)) = some (T (p + 1)) := un_q (by omega)
            have hpn := T_lt hc.2.2.2.1 (p := p + 1) (un_lt hun)
            exact AW.to (ih (p + 2) (L ++ [T (p + 1)]) _ _ _ _ (by rw [len_add]; omega) hpn (by rw [len_add]; omega) (all_add hal (un_ok hun)) (he.trans (by rw [bt, if_neg (by omega), if_neg (by omega), if_pos (by omega), hun]))) rfl rfl rfl rfl
        · refine aw_iload (aw_d q_Mo_escapedText 25 rfl) rfl ?_
          refine aw_bipush (v := nI 92) (aw_d q_Mo_escapedText 26 rfl) (by decide) ?_
          refine aw_icmpI_eq (tgt := 68) (aw_d q_Mo_escapedText 27 rfl) (by decide) (by (have hc2 := hc.2.1; omega)) (fun c54 => ?_) (fun c54 => ?_)
          · refine aw_iload (aw_d q_Mo_escapedText 33 rfl) rfl ?_
            refine aw_goto (tgt := 110) (aw_d q_Mo_escapedText 34 rfl) (by decide) ?_
            refine aw_istore (aw_d q_Mo_escapedText 51 rfl) (aw_le rfl) rfl ?_
            refine aw_iload (aw_d q_Mo_escapedText 52 rfl) rfl ?_
            refine aw_ifI_ge (tgt := 125) (aw_d q_Mo_escapedText 53 rfl) (by decide) (fun c114 => ?_) (fun c114 => by exfalso; omega)
            refine aw_aload_n (aw_d q_Mo_escapedText 58 rfl) rfl rfl rfl ?_
            refine aw_iload (aw_d q_Mo_escapedText 59 rfl) rfl ?_
            refine aw_iload_n (aw_d q_Mo_escapedText 60 rfl) rfl rfl ?_
            refine cV (aw_d q_Mo_escapedText 61 rfl) (sp_add (L := L) (x := nI p) (c := (T (p + 1))) h20) vL_Mo_366_Mo rfl rfl rfl rfl rfl rfl ⟨aw_le rfl, aw_le rfl⟩ (fun r129 h129 hp129 => ?_)
            obtain ⟨rfl, hp129⟩ := hp129
            rcases hp129 with ⟨hl129, rfl⟩ | ⟨hl129, rfl⟩
            · skip -- full
              refine aw_aload_n (aw_d q_Mo_escapedText 62 rfl) rfl rfl rfl ?_
              refine aw_aload_n (aw_d q_Mo_escapedText 63 rfl) rfl rfl rfl ?_
              refine aw_getf (v := .int (nI (p))) (aw_d q_Mo_escapedText 64 rfl) fL_Mo_324_Mo rfl (gk rfl) ?_
              refine aw_iconst (v := nI 2) (aw_d q_Mo_escapedText 65 rfl) (by decide) ?_
              refine aw_iaddN (aw_d q_Mo_escapedText 66 rfl) ?_
              refine wi_33_31 (aw_d q_Mo_escapedText 67 rfl) pL_Mo_324_Mo ?_
              refine aw_goto (tgt := 180) (aw_d q_Mo_escapedText 68 rfl) (by decide) ?_
              refine aw_goto (tgt := 5) (aw_d q_Mo_escapedText 88 rfl) (by decide) ?_
              have hun : un sl (T (p + 1)) = some (T (p + 1)) := un_q (by omega)
              have hz : bt T sl 21 a [] = .error p := he.trans (by rw [bt, if_neg (by omega), if_pos (by omega)])
              refine aw_aload_n (aw_d q_Mo_escapedText 3 rfl) rfl rfl rfl ?_
              refine cVr (aw_d q_Mo_escapedText 4 rfl) (sp_goesI (u := p) (by omega)) vL_Mo_327_Mo rfl rfl rfl rfl rfl rfl ⟨aw_le rfl, aw_le rfl⟩ ?_
              refine aw_ifN_eq (tgt := 183) (aw_d q_Mo_escapedText 5 rfl) (by decide) (by omega) (fun c9 => ?_) (fun c9 => by exfalso; omega)
              exact aw_vret (aw_d q_Mo_escapedText 89 rfl) rfl (⟨rfl, by rw [hz]; exact ⟨hp, _, _, _, by omega, rfl⟩⟩)
            · skip -- add
              refine aw_aload_n (aw_d q_Mo_escapedText 62 rfl) rfl rfl rfl ?_
              refine aw_aload_n (aw_d q_Mo_escapedText 63 rfl) rfl rfl rfl ?_
              refine aw_getf (v := .int (nI (p))) (aw_d q_Mo_escapedText 64 rfl) fL_Mo_324_Mo rfl (gk rfl) ?_
              refine aw_iconst (v := nI 2) (aw_d q_Mo_escapedText 65 rfl) (by decide) ?_
              refine aw_iaddN (aw_d q_Mo_escapedText 66 rfl) ?_
              refine wi_33_31 (aw_d q_Mo_escapedText 67 rfl) pL_Mo_324_Mo ?_
              refine aw_goto (tgt := 180) (aw_d q_Mo_escapedText 68 rfl) (by decide) ?_
              refine aw_goto (tgt := 5) (aw_d q_Mo_escapedText 88 rfl) (by decide) ?_
              have hun : un sl (T (p + 1)) = some (T (p + 1)) := un_q (by omega)
              have hpn := T_lt hc.2.2.2.1 (p := p + 1) (un_lt hun)
              exact AW.to (ih (p + 2) (L ++ [T (p + 1)]) _ _ _ _ (by rw [len_add]; omega) hpn (by rw [len_add]; omega) (all_add hal (un_ok hun)) (he.trans (by rw [bt, if_neg (by omega), if_neg (by omega), if_pos (by omega), hun]))) rfl rfl rfl rfl
          · refine aw_iload_n (aw_d q_Mo_escapedText 28 rfl) rfl rfl ?_
            refine aw_ifB_eq (tgt := 73) (aw_d q_Mo_escapedText 29 rfl) (by decide) (fun c58 => ?_) (fun c58 => ?_)
            · refine aw_iload (aw_d q_Mo_escapedText 35 rfl) rfl ?_
              refine aw_bipush (v := nI 116) (aw_d q_Mo_escapedText 36 rfl) (by decide) ?_
              refine aw_icmpI_ne (tgt := 85) (aw_d q_Mo_escapedText 37 rfl) (by decide) (by (have hc2 := hc.2.1; omega)) (fun c77 => ?_) (fun c77 => ?_)
              · refine aw_iload (aw_d q_Mo_escapedText 40 rfl) rfl ?_
                refine aw_bipush (v := nI 110) (aw_d q_Mo_escapedText 41 rfl) (by decide) ?_
                refine aw_icmpI_ne (tgt := 97) (aw_d q_Mo_escapedText 42 rfl) (by decide) (by (have hc2 := hc.2.1; omega)) (fun c89 => ?_) (fun c89 => ?_)
                · refine aw_iload (aw_d q_Mo_escapedText 45 rfl) rfl ?_
                  refine aw_bipush (v := nI 114) (aw_d q_Mo_escapedText 46 rfl) (by decide) ?_
                  refine aw_icmpI_ne (tgt := 109) (aw_d q_Mo_escapedText 47 rfl) (by decide) (by (have hc2 := hc.2.1; omega)) (fun c101 => ?_) (fun c101 => ?_)
                  · refine aw_iconst (v := (-1)) (aw_d q_Mo_escapedText 50 rfl) (by decide) ?_
                    refine aw_istore (aw_d q_Mo_escapedText 51 rfl) (aw_le rfl) rfl ?_
                    refine aw_iload (aw_d q_Mo_escapedText 52 rfl) rfl ?_
                    refine aw_ifI_ge (tgt := 125) (aw_d q_Mo_escapedText 53 rfl) (by decide) (fun c114 => by exact absurd c114 (by decide)) (fun c114 => ?_)
                    refine aw_aload_n (aw_d q_Mo_escapedText 54 rfl) rfl rfl rfl ?_
                    refine aw_iload_n (aw_d q_Mo_escapedText 55 rfl) rfl rfl ?_
                    refine cVv (aw_d q_Mo_escapedText 56 rfl) (sp_mfailA) vL_Mo_334_Mo rfl rfl rfl rfl rfl rfl ⟨aw_le rfl, aw_le rfl⟩ ?_
                    refine aw_goto (tgt := 142) (aw_d q_Mo_escapedText 57 rfl) (by decide) ?_
                    refine aw_goto (tgt := 180) (aw_d q_Mo_escapedText 68 rfl) (by decide) ?_
                    refine aw_goto (tgt := 5) (aw_d q_Mo_escapedText 88 rfl) (by decide) ?_
                    have hun : un sl (T (p + 1)) = none := by rw [un_x (by omega) (by omega) (fun q => absurd q.1 c58), if_neg (by omega), if_neg (by omega), if_neg (by omega)]
                    have hz : bt T sl 21 a [] = .error p := he.trans (by rw [bt, if_neg (by omega)]; by_cases q20 : 20 ≤ L.length; (rw [if_pos q20]); (rw [if_neg q20, if_pos (by omega), hun]))
                    refine aw_aload_n (aw_d q_Mo_escapedText 3 rfl) rfl rfl rfl ?_
                    refine cVr (aw_d q_Mo_escapedText 4 rfl) (sp_goesI (u := p) (by omega)) vL_Mo_327_Mo rfl rfl rfl rfl rfl rfl ⟨aw_le rfl, aw_le rfl⟩ ?_
                    refine aw_ifN_eq (tgt := 183) (aw_d q_Mo_escapedText 5 rfl) (by decide) (by omega) (fun c9 => ?_) (fun c9 => by exfalso; omega)
                    exact aw_vret (aw_d q_Mo_escapedText 89 rfl) rfl (⟨rfl, by rw [hz]; exact ⟨hp, _, _, _, by omega, rfl⟩⟩)
                  · refine aw_bipush (v := nI 13) (aw_d q_Mo_escapedText 48 rfl) (by decide) ?_
                    refine aw_goto (tgt := 110) (aw_d q_Mo_escapedText 49 rfl) (by decide) ?_
                    refine aw_istore (aw_d q_Mo_escapedText 51 rfl) (aw_le rfl) rfl ?_
                    refine aw_iload (aw_d q_Mo_escapedText 52 rfl) rfl ?_
                    refine aw_ifN_ge (tgt := 125) (aw_d q_Mo_escapedText 53 rfl) (by decide) (by (have hc2 := hc.2.1; omega)) (fun c114 => ?_) (fun c114 => by exfalso; (have hc2 := hc.2.1; omega))
                    refine aw_aload_n (aw_d q_Mo_escapedText 58 rfl) rfl rfl rfl ?_
                    refine aw_iload (aw_d q_Mo_escapedText 59 rfl) rfl ?_
                    refine aw_iload_n (aw_d q_Mo_escapedText 60 rfl) rfl rfl ?_
                    refine cV (aw_d q_Mo_escapedText 61 rfl) (sp_add (L := L) (x := nI p) (c := (nI 13)) h20) vL_Mo_366_Mo rfl rfl rfl rfl rfl rfl ⟨aw_le rfl, aw_le rfl⟩ (fun r129 h129 hp129 => ?_)
                    obtain ⟨rfl, hp129⟩ := hp129
                    rcases hp129 with ⟨hl129, rfl⟩ | ⟨hl129, rfl⟩
                    · skip -- full
                      refine aw_aload_n (aw_d q_Mo_escapedText 62 rfl) rfl rfl rfl ?_
                      refine aw_aload_n (aw_d q_Mo_escapedText 63 rfl) rfl rfl rfl ?_
                      refine aw_getf (v := .int (nI (p))) (aw_d q_Mo_escapedText 64 rfl) fL_Mo_324_Mo rfl (gk rfl) ?_
                      refine aw_iconst (v := nI 2) (aw_d q_Mo_escapedText 65 rfl) (by decide) ?_
                      refine aw_iaddN (aw_d q_Mo_escapedText 66 rfl) ?_
                      refine wi_33_31 (aw_d q_Mo_escapedText 67 rfl) pL_Mo_324_Mo ?_
                      refine aw_goto (tgt := 180) (aw_d q_Mo_escapedText 68 rfl) (by decide) ?_
                      refine aw_goto (tgt := 5) (aw_d q_Mo_escapedText 88 rfl) (by decide) ?_
                      have hun : un sl (T (p + 1)) = some (nI 13) := by rw [un_x (by omega) (by omega) (fun q => absurd q.1 c58), if_neg (by omega), if_neg (by omega), if_pos (by omega)]
                      have hz : bt T sl 21 a [] = .error p := he.trans (by rw [bt, if_neg (by omega), if_pos (by omega)])
                      refine aw_aload_n (aw_d q_Mo_escapedText 3 rfl) rfl rfl rfl ?_
                      refine cVr (aw_d q_Mo_escapedText 4 rfl) (sp_goesI (u := p) (by omega)) vL_Mo_327_Mo rfl rfl rfl rfl rfl rfl ⟨aw_le rfl, aw_le rfl⟩ ?_
                      refine aw_ifN_eq (tgt := 183) (aw_d q_Mo_escapedText 5 rfl) (by decide) (by omega) (fun c9 => ?_) (fun c9 => by exfalso; omega)
                      exact aw_vret (aw_d q_Mo_escapedText 89 rfl) rfl (⟨rfl, by rw [hz]; exact ⟨hp, _, _, _, by omega, rfl⟩⟩)
                    · skip -- add
                      refine aw_aload_n (aw_d q_Mo_escapedText 62 rfl) rfl rfl rfl ?_
                      refine aw_aload_n (aw_d q_Mo_escapedText 63 rfl) rfl rfl rfl ?_
                      refine aw_getf (v := .int (nI (p))) (aw_d q_Mo_escapedText 64 rfl) fL_Mo_324_Mo rfl (gk rfl) ?_
                      refine aw_iconst (v := nI 2) (aw_d q_Mo_escapedText 65 rfl) (by decide) ?_
                      refine aw_iaddN (aw_d q_Mo_escapedText 66 rfl) ?_
                      refine wi_33_31 (aw_d q_Mo_escapedText 67 rfl) pL_Mo_324_Mo ?_
                      refine aw_goto (tgt := 180) (aw_d q_Mo_escapedText 68 rfl) (by decide) ?_
                      refine aw_goto (tgt := 5) (aw_d q_Mo_escapedText 88 rfl) (by decide) ?_
                      have hun : un sl (T (p + 1)) = some (nI 13) := by rw [un_x (by omega) (by omega) (fun q => absurd q.1 c58), if_neg (by omega), if_neg (by omega), if_pos (by omega)]
                      have hpn := T_lt hc.2.2.2.1 (p := p + 1) (un_lt hun)
                      exact AW.to (ih (p + 2) (L ++ [nI 13]) _ _ _ _ (by rw [len_add]; omega) hpn (by rw [len_add]; omega) (all_add hal (un_ok hun)) (he.trans (by rw [bt, if_neg (by omega), if_neg (by omega), if_pos (by omega), hun]))) rfl rfl rfl rfl
                · refine aw_bipush (v := nI 10) (aw_d q_Mo_escapedText 43 rfl) (by decide) ?_
                  refine aw_goto (tgt := 110) (aw_d q_Mo_escapedText 44 rfl) (by decide) ?_
                  refine aw_istore (aw_d q_Mo_escapedText 51 rfl) (aw_le rfl) rfl ?_
                  refine aw_iload (aw_d q_Mo_escapedText 52 rfl) rfl ?_
                  refine aw_ifN_ge (tgt := 125) (aw_d q_Mo_escapedText 53 rfl) (by decide) (by (have hc2 := hc.2.1; omega)) (fun c114 => ?_) (fun c114 => by exfalso; (have hc2 := hc.2.1; omega))
                  refine aw_aload_n (aw_d q_Mo_escapedText 58 rfl) rfl rfl rfl ?_
                  refine aw_iload (aw_d q_Mo_escapedText 59 rfl) rfl ?_
                  refine aw_iload_n (aw_d q_Mo_escapedText 60 rfl) rfl rfl ?_
                  refine cV (aw_d q_Mo_escapedText 61 rfl) (sp_add (L := L) (x := nI p) (c := (nI 10)) h20) vL_Mo_366_Mo rfl rfl rfl rfl rfl rfl ⟨aw_le rfl, aw_le rfl⟩ (fun r129 h129 hp129 => ?_)
                  obtain ⟨rfl, hp129⟩ := hp129
                  rcases hp129 with ⟨hl129, rfl⟩ | ⟨hl129, rfl⟩
                  · skip -- full
                    refine aw_aload_n (aw_d q_Mo_escapedText 62 rfl) rfl rfl rfl ?_
                    refine aw_aload_n (aw_d q_Mo_escapedText 63 rfl) rfl rfl rfl ?_
                    refine aw_getf (v := .int (nI (p))) (aw_d q_Mo_escapedText 64 rfl) fL_Mo_324_Mo rfl (gk rfl) ?_
                    refine aw_iconst (v := nI 2) (aw_d q_Mo_escapedText 65 rfl) (by decide) ?_
                    refine aw_iaddN (aw_d q_Mo_escapedText 66 rfl) ?_
                    refine wi_33_31 (aw_d q_Mo_escapedText 67 rfl) pL_Mo_324_Mo ?_
                    refine aw_goto (tgt := 180) (aw_d q_Mo_escapedText 68 rfl) (by decide) ?_
                    refine aw_goto (tgt := 5) (aw_d q_Mo_escapedText 88 rfl) (by decide) ?_
                    have hun : un sl (T (p + 1)) = some (nI 10) := by rw [un_x (by omega) (by omega) (fun q => absurd q.1 c58), if_neg (by omega), if_pos (by omega)]
                    have hz : bt T sl 21 a [] = .error p := he.trans (by rw [bt, if_neg (by omega), if_pos (by omega)])
                    refine aw_aload_n (aw_d q_Mo_escapedText 3 rfl) rfl rfl rfl ?_
                    refine cVr (aw_d q_Mo_escapedText 4 rfl) (sp_goesI (u := p) (by omega)) vL_Mo_327_Mo rfl rfl rfl rfl rfl rfl ⟨aw_le rfl, aw_le rfl⟩ ?_
                    refine aw_ifN_eq (tgt := 183) (aw_d q_Mo_escapedText 5 rfl) (by decide) (by omega) (fun c9 => ?_) (fun c9 => by exfalso; omega)
                    exact aw_vret (aw_d q_Mo_escapedText 89 rfl) rfl (⟨rfl, by rw [hz]; exact ⟨hp, _, _, _, by omega, rfl⟩⟩)
                  · skip -- add
                    refine aw_aload_n (aw_d q_Mo_escapedText 62 rfl) rfl rfl rfl ?_
                    refine aw_aload_n (aw_d q_Mo_escapedText 63 rfl) rfl rfl rfl ?_
                    refine aw_getf (v := .int (nI (p))) (aw_d q_Mo_escapedText 64 rfl) fL_Mo_324_Mo rfl (gk rfl) ?_
                    refine aw_iconst (v := nI 2) (aw_d q_Mo_escapedText 65 rfl) (by decide) ?_
                    refine aw_iaddN (aw_d q_Mo_escapedText 66 rfl) ?_
                    refine wi_33_31 (aw_d q_Mo_escapedText 67 rfl) pL_Mo_324_Mo ?_
                    refine aw_goto (tgt := 180) (aw_d q_Mo_escapedText 68 rfl) (by decide) ?_
                    refine aw_goto (tgt := 5) (aw_d q_Mo_escapedText 88 rfl) (by decide) ?_
                    have hun : un sl (T (p + 1)) = some (nI 10) := by rw [un_x (by omega) (by omega) (fun q => absurd q.1 c58), if_neg (by omega), if_pos (by omega)]
                    have hpn := T_lt hc.2.2.2.1 (p := p + 1) (un_lt hun)
                    exact AW.to (ih (p + 2) (L ++ [nI 10]) _ _ _ _ (by rw [len_add]; omega) hpn (by rw [len_add]; omega) (all_add hal (un_ok hun)) (he.trans (by rw [bt, if_neg (by omega), if_neg (by omega), if_pos (by omega), hun]))) rfl rfl rfl rfl
              · refine aw_bipush (v := nI 9) (aw_d q_Mo_escapedText 38 rfl) (by decide) ?_
                refine aw_goto (tgt := 110) (aw_d q_Mo_escapedText 39 rfl) (by decide) ?_
                refine aw_istore (aw_d q_Mo_escapedText 51 rfl) (aw_le rfl) rfl ?_
                refine aw_iload (aw_d q_Mo_escapedText 52 rfl) rfl ?_
                refine aw_ifN_ge (tgt := 125) (aw_d q_Mo_escapedText 53 rfl) (by decide) (by (have hc2 := hc.2.1; omega)) (fun c114 => ?_) (fun c114 => by exfalso; (have hc2 := hc.2.1; omega))
                refine aw_aload_n (aw_d q_Mo_escapedText 58 rfl) rfl rfl rfl ?_
                refine aw_iload (aw_d q_Mo_escapedText 59 rfl) rfl ?_
                refine aw_iload_n (aw_d q_Mo_escapedText 60 rfl) rfl rfl ?_
                refine cV (aw_d q_Mo_escapedText 61 rfl) (sp_add (L := L) (x := nI p) (c := (nI 9)) h20) vL_Mo_366_Mo rfl rfl rfl rfl rfl rfl ⟨aw_le rfl, aw_le rfl⟩ (fun r129 h129 hp129 => ?_)
                obtain ⟨rfl, hp129⟩ := hp129
                rcases hp129 with ⟨hl129, rfl⟩ | ⟨hl129, rfl⟩
                · skip -- full
                  refine aw_aload_n (aw_d q_Mo_escapedText 62 rfl) rfl rfl rfl ?_
                  refine aw_aload_n (aw_d q_Mo_escapedText 63 rfl) rfl rfl rfl ?_
                  refine aw_getf (v := .int (nI (p))) (aw_d q_Mo_escapedText 64 rfl) fL_Mo_324_Mo rfl (gk rfl) ?_
                  refine aw_iconst (v := nI 2) (aw_d q_Mo_escapedText 65 rfl) (by decide) ?_
                  refine aw_iaddN (aw_d q_Mo_escapedText 66 rfl) ?_
                  refine wi_33_31 (aw_d q_Mo_escapedText 67 rfl) pL_Mo_324_Mo ?_
                  refine aw_goto (tgt := 180) (aw_d q_Mo_escapedText 68 rfl) (by decide) ?_
                  refine aw_goto (tgt := 5) (aw_d q_Mo_escapedText 88 rfl) (by decide) ?_
                  have hun : un sl (T (p + 1)) = some (nI 9) := by rw [un_x (by omega) (by omega) (fun q => absurd q.1 c58), if_pos (by omega)]
                  have hz : bt T sl 21 a [] = .error p := he.trans (by rw [bt, if_neg (by omega), if_pos (by omega)])
                  refine aw_aload_n (aw_d q_Mo_escapedText 3 rfl) rfl rfl rfl ?_
                  refine cVr (aw_d q_Mo_escapedText 4 rfl) (sp_goesI (u := p) (by omega)) vL_Mo_327_Mo rfl rfl rfl rfl rfl rfl ⟨aw_le rfl, aw_le rfl⟩ ?_
                  refine aw_ifN_eq (tgt := 183) (aw_d q_Mo_escapedText 5 rfl) (by decide) (by omega) (fun c9 => ?_) (fun c9 => by exfalso; omega)
                  exact aw_vret (aw_d q_Mo_escapedText 89 rfl) rfl (⟨rfl, by rw [hz]; exact ⟨hp, _, _, _, by omega, rfl⟩⟩)
                · skip -- add
                  refine aw_aload_n (aw_d q_Mo_escapedText 62 rfl) rfl rfl rfl ?_
                  refine aw_aload_n (aw_d q_Mo_escapedText 63 rfl) rfl rfl rfl ?_
                  refine aw_getf (v := .int (nI (p))) (aw_d q_Mo_escapedText 64 rfl) fL_Mo_324_Mo rfl (gk rfl) ?_
                  refine aw_iconst (v := nI 2) (aw_d q_Mo_escapedText 65 rfl) (by decide) ?_
                  refine aw_iaddN (aw_d q_Mo_escapedText 66 rfl) ?_
                  refine wi_33_31 (aw_d q_Mo_escapedText 67 rfl) pL_Mo_324_Mo ?_
                  refine aw_goto (tgt := 180) (aw_d q_Mo_escapedText 68 rfl) (by decide) ?_
                  refine aw_goto (tgt := 5) (aw_d q_Mo_escapedText 88 rfl) (by decide) ?_
                  have hun : un sl (T (p + 1)) = some (nI 9) := by rw [un_x (by omega) (by omega) (fun q => absurd q.1 c58), if_pos (by omega)]
                  have hpn := T_lt hc.2.2.2.1 (p := p + 1) (un_lt hun)
                  exact AW.to (ih (p + 2) (L ++ [nI 9]) _ _ _ _ (by rw [len_add]; omega) hpn (by rw [len_add]; omega) (all_add hal (un_ok hun)) (he.trans (by rw [bt, if_neg (by omega), if_neg (by omega), if_pos (by omega), hun]))) rfl rfl rfl rfl
            · refine aw_iload (aw_d q_Mo_escapedText 30 rfl) rfl ?_
              refine aw_bipush (v := nI 47) (aw_d q_Mo_escapedText 31 rfl) (by decide) ?_
              refine aw_icmpI_ne (tgt := 73) (aw_d q_Mo_escapedText 32 rfl) (by decide) (by (have hc2 := hc.2.1; omega)) (fun c65 => ?_) (fun c65 => ?_)
              · refine aw_iload (aw_d q_Mo_escapedText 35 rfl) rfl ?_
                refine aw_bipush (v := nI 116) (aw_d q_Mo_escapedText 36 rfl) (by decide) ?_
                refine aw_icmpI_ne (tgt := 85) (aw_d q_Mo_escapedText 37 rfl) (by decide) (by (have hc2 := hc.2.1; omega)) (fun c77 => ?_) (fun c77 => ?_)
                · refine aw_iload (aw_d q_Mo_escapedText 40 rfl) rfl ?_
                  refine aw_bipush (v := nI 110) (aw_d q_Mo_escapedText 41 rfl) (by decide) ?_
                  refine aw_icmpI_ne (tgt := 97) (aw_d q_Mo_escapedText 42 rfl) (by decide) (by (have hc2 := hc.2.1; omega)) (fun c89 => ?_) (fun c89 => ?_)
                  · refine aw_iload (aw_d q_Mo_escapedText 45 rfl) rfl ?_
                    refine aw_bipush (v := nI 114) (aw_d q_Mo_escapedText 46 rfl) (by decide) ?_
                    refine aw_icmpI_ne (tgt := 109) (aw_d q_Mo_escapedText 47 rfl) (by decide) (by (have hc2 := hc.2.1; omega)) (fun c101 => ?_) (fun c101 => ?_)
                    · refine aw_iconst (v := (-1)) (aw_d q_Mo_escapedText 50 rfl) (by decide) ?_
                      refine aw_istore (aw_d q_Mo_escapedText 51 rfl) (aw_le rfl) rfl ?_
                      refine aw_iload (aw_d q_Mo_escapedText 52 rfl) rfl ?_
                      refine aw_ifI_ge (tgt := 125) (aw_d q_Mo_escapedText 53 rfl) (by decide) (fun c114 => by exact absurd c114 (by decide)) (fun c114 => ?_)
                      refine aw_aload_n (aw_d q_Mo_escapedText 54 rfl) rfl rfl rfl ?_
                      refine aw_iload_n (aw_d q_Mo_escapedText 55 rfl) rfl rfl ?_
                      refine cVv (aw_d q_Mo_escapedText 56 rfl) (sp_mfailA) vL_Mo_334_Mo rfl rfl rfl rfl rfl rfl ⟨aw_le rfl, aw_le rfl⟩ ?_
                      refine aw_goto (tgt := 142) (aw_d q_Mo_escapedText 57 rfl) (by decide) ?_
                      refine aw_goto (tgt := 180) (aw_d q_Mo_escapedText 68 rfl) (by decide) ?_
                      refine aw_goto (tgt := 5) (aw_d q_Mo_escapedText 88 rfl) (by decide) ?_
                      have hun : un sl (T (p + 1)) = none := by rw [un_x (by omega) (by omega) (fun q => by have q2 := q.2; omega), if_neg (by omega), if_neg (by omega), if_neg (by omega)]
                      have hz : bt T sl 21 a [] = .error p := he.trans (by rw [bt, if_neg (by omega)]; by_cases q20 : 20 ≤ L.length; (rw [if_pos q20]); (rw [if_neg q20, if_pos (by omega), hun]))
                      refine aw_aload_n (aw_d q_Mo_escapedText 3 rfl) rfl rfl rfl ?_
                      refine cVr (aw_d q_Mo_escapedText 4 rfl) (sp_goesI (u := p) (by omega)) vL_Mo_327_Mo rfl rfl rfl rfl rfl rfl ⟨aw_le rfl, aw_le rfl⟩ ?_
                      refine aw_ifN_eq (tgt := 183) (aw_d q_Mo_escapedText 5 rfl) (by decide) (by omega) (fun c9 => ?_) (fun c9 => by exfalso; omega)
                      exact aw_vret (aw_d q_Mo_escapedText 89 rfl) rfl (⟨rfl, by rw [hz]; exact ⟨hp, _, _, _, by omega, rfl⟩⟩)
                    · refine aw_bipush (v := nI 13) (aw_d q_Mo_escapedText 48 rfl) (by decide) ?_
                      refine aw_goto (tgt := 110) (aw_d q_Mo_escapedText 49 rfl) (by decide) ?_
                      refine aw_istore (aw_d q_Mo_escapedText 51 rfl) (aw_le rfl) rfl ?_
                      refine aw_iload (aw_d q_Mo_escapedText 52 rfl) rfl ?_
                      refine aw_ifN_ge (tgt := 125) (aw_d q_Mo_escapedText 53 rfl) (by decide) (by (have hc2 := hc.2.1; omega)) (fun c114 => ?_) (fun c114 => by exfalso; (have hc2 := hc.2.1; omega))
                      refine aw_aload_n (aw_d q_Mo_escapedText 58 rfl) rfl rfl rfl ?_
                      refine aw_iload (aw_d q_Mo_escapedText 59 rfl) rfl ?_
                      refine aw_iload_n (aw_d q_Mo_escapedText 60 rfl) rfl rfl ?_
                      refine cV (aw_d q_Mo_escapedText 61 rfl) (sp_add (L := L) (x := nI p) (c := (nI 13)) h20) vL_Mo_366_Mo rfl rfl rfl rfl rfl rfl ⟨aw_le rfl, aw_le rfl⟩ (fun r129 h129 hp129 => ?_)
                      obtain ⟨rfl, hp129⟩ := hp129
                      rcases hp129 with ⟨hl129, rfl⟩ | ⟨hl129, rfl⟩
                      · skip -- full
                        refine aw_aload_n (aw_d q_Mo_escapedText 62 rfl) rfl rfl rfl ?_
                        refine aw_aload_n (aw_d q_Mo_escapedText 63 rfl) rfl rfl rfl ?_
                        refine aw_getf (v := .int (nI (p))) (aw_d q_Mo_escapedText 64 rfl) fL_Mo_324_Mo rfl (gk rfl) ?_
                        refine aw_iconst (v := nI 2) (aw_d q_Mo_escapedText 65 rfl) (by decide) ?_
                        refine aw_iaddN (aw_d q_Mo_escapedText 66 rfl) ?_
                        refine wi_33_31 (aw_d q_Mo_escapedText 67 rfl) pL_Mo_324_Mo ?_
                        refine aw_goto (tgt := 180) (aw_d q_Mo_escapedText 68 rfl) (by decide) ?_
                        refine aw_goto (tgt := 5) (aw_d q_Mo_escapedText 88 rfl) (by decide) ?_
                        have hun : un sl (T (p + 1)) = some (nI 13) := by rw [un_x (by omega) (by omega) (fun q => by have q2 := q.2; omega), if_neg (by omega), if_neg (by omega), if_pos (by omega)]
                        have hz : bt T sl 21 a [] = .error p := he.trans (by rw [bt, if_neg (by omega), if_pos (by omega)])
                        refine aw_aload_n (aw_d q_Mo_escapedText 3 rfl) rfl rfl rfl ?_
                        refine cVr (aw_d q_Mo_escapedText 4 rfl) (sp_goesI (u := p) (by omega)) vL_Mo_327_Mo rfl rfl rfl rfl rfl rfl ⟨aw_le rfl, aw_le rfl⟩ ?_
                        refine aw_ifN_eq (tgt := 183) (aw_d q_Mo_escapedText 5 rfl) (by decide) (by omega) (fun c9 => ?_) (fun c9 => by exfalso; omega)
                        exact aw_vret (aw_d q_Mo_escapedText 89 rfl) rfl (⟨rfl, by rw [hz]; exact ⟨hp, _, _, _, by omega, rfl⟩⟩)
                      · skip -- add
                        refine aw_aload_n (aw_d q_Mo_escapedText 62 rfl) rfl rfl rfl ?_
                        refine aw_aload_n (aw_d q_Mo_escapedText 63 rfl) rfl rfl rfl ?_
                        refine aw_getf (v := .int (nI (p))) (aw_d q_Mo_escapedText 64 rfl) fL_Mo_324_Mo rfl (gk rfl) ?_
                        refine aw_iconst (v := nI 2) (aw_d q_Mo_escapedText 65 rfl) (by decide) ?_
                        refine aw_iaddN (aw_d q_Mo_escapedText 66 rfl) ?_
                        refine wi_33_31 (aw_d q_Mo_escapedText 67 rfl) pL_Mo_324_Mo ?_
                        refine aw_goto (tgt := 180) (aw_d q_Mo_escapedText 68 rfl) (by decide) ?_
                        refine aw_goto (tgt := 5) (aw_d q_Mo_escapedText 88 rfl) (by decide) ?_
                        have hun : un sl (T (p + 1)) = some (nI 13) := by rw [un_x (by omega) (by omega) (fun q => by have q2 := q.2; omega), if_neg (by omega), if_neg (by omega), if_pos (by omega)]
                        have hpn := T_lt hc.2.2.2.1 (p := p + 1) (un_lt hun)
                        exact AW.to (ih (p + 2) (L ++ [nI 13]) _ _ _ _ (by rw [len_add]; omega) hpn (by rw [len_add]; omega) (all_add hal (un_ok hun)) (he.trans (by rw [bt, if_neg (by omega), if_neg (by omega), if_pos (by omega), hun]))) rfl rfl rfl rfl
                  · refine aw_bipush (v := nI 10) (aw_d q_Mo_escapedText 43 rfl) (by decide) ?_
                    refine aw_goto (tgt := 110) (aw_d q_Mo_escapedText 44 rfl) (by decide) ?_
                    refine aw_istore (aw_d q_Mo_escapedText 51 rfl) (aw_le rfl) rfl ?_
                    refine aw_iload (aw_d q_Mo_escapedText 52 rfl) rfl ?_
                    refine aw_ifN_ge (tgt := 125) (aw_d q_Mo_escapedText 53 rfl) (by decide) (by (have hc2 := hc.2.1; omega)) (fun c114 => ?_) (fun c114 => by exfalso; (have hc2 := hc.2.1; omega))
                    refine aw_aload_n (aw_d q_Mo_escapedText 58 rfl) rfl rfl rfl ?_
                    refine aw_iload (aw_d q_Mo_escapedText 59 rfl) rfl ?_
                    refine aw_iload_n (aw_d q_Mo_escapedText 60 rfl) rfl rfl ?_
                    refine cV (aw_d q_Mo_escapedText 61 rfl) (sp_add (L := L) (x := nI p) (c := (nI 10)) h20) vL_Mo_366_Mo rfl rfl rfl rfl rfl rfl ⟨aw_le rfl, aw_le rfl⟩ (fun r129 h129 hp129 => ?_)
                    obtain ⟨rfl, hp129⟩ := hp129
                    rcases hp129 with ⟨hl129, rfl⟩ | ⟨hl129, rfl⟩
                    · skip -- full
                      refine aw_aload_n (aw_d q_Mo_escapedText 62 rfl) rfl rfl rfl ?_
                      refine aw_aload_n (aw_d q_Mo_escapedText 63 rfl) rfl rfl rfl ?_
                      refine aw_getf (v := .int (nI (p))) (aw_d q_Mo_escapedText 64 rfl) fL_Mo_324_Mo rfl (gk rfl) ?_
                      refine aw_iconst (v := nI 2) (aw_d q_Mo_escapedText 65 rfl) (by decide) ?_
                      refine aw_iaddN (aw_d q_Mo_escapedText 66 rfl) ?_
                      refine wi_33_31 (aw_d q_Mo_escapedText 67 rfl) pL_Mo_324_Mo ?_
                      refine aw_goto (tgt := 180) (aw_d q_Mo_escapedText 68 rfl) (by decide) ?_
                      refine aw_goto (tgt := 5) (aw_d q_Mo_escapedText 88 rfl) (by decide) ?_
                      have hun : un sl (T (p + 1)) = some (nI 10) := by rw [un_x (by omega) (by omega) (fun q => by have q2 := q.2; omega), if_neg (by omega), if_pos (by omega)]
                      have hz : bt T sl 21 a [] = .error p := he.trans (by rw [bt, if_neg (by omega), if_pos (by omega)])
                      refine aw_aload_n (aw_d q_Mo_escapedText 3 rfl) rfl rfl rfl ?_
                      refine cVr (aw_d q_Mo_escapedText 4 rfl) (sp_goesI (u := p) (by omega)) vL_Mo_327_Mo rfl rfl rfl rfl rfl rfl ⟨aw_le rfl, aw_le rfl⟩ ?_
                      refine aw_ifN_eq (tgt := 183) (aw_d q_Mo_escapedText 5 rfl) (by decide) (by omega) (fun c9 => ?_) (fun c9 => by exfalso; omega)
                      exact aw_vret (aw_d q_Mo_escapedText 89 rfl) rfl (⟨rfl, by rw [hz]; exact ⟨hp, _, _, _, by omega, rfl⟩⟩)
                    · skip -- add
                      refine aw_aload_n (aw_d q_Mo_escapedText 62 rfl) rfl rfl rfl ?_
                      refine aw_aload_n (aw_d q_Mo_escapedText 63 rfl) rfl rfl rfl ?_
                      refine aw_getf (v := .int (nI (p))) (aw_d q_Mo_escapedText 64 rfl) fL_Mo_324_Mo rfl (gk rfl) ?_
                      refine aw_iconst (v := nI 2) (aw_d q_Mo_escapedText 65 rfl) (by decide) ?_
                      refine aw_iaddN (aw_d q_Mo_escapedText 66 rfl) ?_
                      refine wi_33_31 (aw_d q_Mo_escapedText 67 rfl) pL_Mo_324_Mo ?_
                      refine aw_goto (tgt := 180) (aw_d q_Mo_escapedText 68 rfl) (by decide) ?_
                      refine aw_goto (tgt := 5) (aw_d q_Mo_escapedText 88 rfl) (by decide) ?_
                      have hun : un sl (T (p + 1)) = some (nI 10) := by rw [un_x (by omega) (by omega) (fun q => by have q2 := q.2; omega), if_neg (by omega), if_pos (by omega)]
                      have hpn := T_lt hc.2.2.2.1 (p := p + 1) (un_lt hun)
                      exact AW.to (ih (p + 2) (L ++ [nI 10]) _ _ _ _ (by rw [len_add]; omega) hpn (by rw [len_add]; omega) (all_add hal (un_ok hun)) (he.trans (by rw [bt, if_neg (by omega), if_neg (by omega), if_pos (by omega), hun]))) rfl rfl rfl rfl
                · refine aw_bipush (v := nI 9) (aw_d q_Mo_escapedText 38 rfl) (by decide) ?_
                  refine aw_goto (tgt := 110) (aw_d q_Mo_escapedText 39 rfl) (by decide) ?_
                  refine aw_istore (aw_d q_Mo_escapedText 51 rfl) (aw_le rfl) rfl ?_
                  refine aw_iload (aw_d q_Mo_escapedText 52 rfl) rfl ?_
                  refine aw_ifN_ge (tgt := 125) (aw_d q_Mo_escapedText 53 rfl) (by decide) (by (have hc2 := hc.2.1; omega)) (fun c114 => ?_) (fun c114 => by exfalso; (have hc2 := hc.2.1; omega))
                  refine aw_aload_n (aw_d q_Mo_escapedText 58 rfl) rfl rfl rfl ?_
                  refine aw_iload (aw_d q_Mo_escapedText 59 rfl) rfl ?_
                  refine aw_iload_n (aw_d q_Mo_escapedText 60 rfl) rfl rfl ?_
                  refine cV (aw_d q_Mo_escapedText 61 rfl) (sp_add (L := L) (x := nI p) (c := (nI 9)) h20) vL_Mo_366_Mo rfl rfl rfl rfl rfl rfl ⟨aw_le rfl, aw_le rfl⟩ (fun r129 h129 hp129 => ?_)
                  obtain ⟨rfl, hp129⟩ := hp129
                  rcases hp129 with ⟨hl129, rfl⟩ | ⟨hl129, rfl⟩
                  · skip -- full
                    refine aw_aload_n (aw_d q_Mo_escapedText 62 rfl) rfl rfl rfl ?_
                    refine aw_aload_n (aw_d q_Mo_escapedText 63 rfl) rfl rfl rfl ?_
                    refine aw_getf (v := .int (nI (p))) (aw_d q_Mo_escapedText 64 rfl) fL_Mo_324_Mo rfl (gk rfl) ?_
                    refine aw_iconst (v := nI 2) (aw_d q_Mo_escapedText 65 rfl) (by decide) ?_
                    refine aw_iaddN (aw_d q_Mo_escapedText 66 rfl) ?_
                    refine wi_33_31 (aw_d q_Mo_escapedText 67 rfl) pL_Mo_324_Mo ?_
                    refine aw_goto (tgt := 180) (aw_d q_Mo_escapedText 68 rfl) (by decide) ?_
                    refine aw_goto (tgt := 5) (aw_d q_Mo_escapedText 88 rfl) (by decide) ?_
                    have hun : un sl (T (p + 1)) = some (nI 9) := by rw [un_x (by omega) (by omega) (fun q => by have q2 := q.2; omega), if_pos (by omega)]
                    have hz : bt T sl 21 a [] = .error p := he.trans (by rw [bt, if_neg (by omega), if_pos (by omega)])
                    refine aw_aload_n (aw_d q_Mo_escapedText 3 rfl) rfl rfl rfl ?_
                    refine cVr (aw_d q_Mo_escapedText 4 rfl) (sp_goesI (u := p) (by omega)) vL_Mo_327_Mo rfl rfl rfl rfl rfl rfl ⟨aw_le rfl, aw_le rfl⟩ ?_
                    refine aw_ifN_eq (tgt := 183) (aw_d q_Mo_escapedText 5 rfl) (by decide) (by omega) (fun c9 => ?_) (fun c9 => by exfalso; omega)
                    exact aw_vret (aw_d q_Mo_escapedText 89 rfl) rfl (⟨rfl, by rw [hz]; exact ⟨hp, _, _, _, by omega, rfl⟩⟩)
                  · skip -- add
                    refine aw_aload_n (aw_d q_Mo_escapedText 62 rfl) rfl rfl rfl ?_
                    refine aw_aload_n (aw_d q_Mo_escapedText 63 rfl) rfl rfl rfl ?_
                    refine aw_getf (v := .int (nI (p))) (aw_d q_Mo_escapedText 64 rfl) fL_Mo_324_Mo rfl (gk rfl) ?_
                    refine aw_iconst (v := nI 2) (aw_d q_Mo_escapedText 65 rfl) (by decide) ?_
                    refine aw_iaddN (aw_d q_Mo_escapedText 66 rfl) ?_
                    refine wi_33_31 (aw_d q_Mo_escapedText 67 rfl) pL_Mo_324_Mo ?_
                    refine aw_goto (tgt := 180) (aw_d q_Mo_escapedText 68 rfl) (by decide) ?_
                    refine aw_goto (tgt := 5) (aw_d q_Mo_escapedText 88 rfl) (by decide) ?_
                    have hun : un sl (T (p + 1)) = some (nI 9) := by rw [un_x (by omega) (by omega) (fun q => by have q2 := q.2; omega), if_pos (by omega)]
                    have hpn := T_lt hc.2.2.2.1 (p := p + 1) (un_lt hun)
                    exact AW.to (ih (p + 2) (L ++ [nI 9]) _ _ _ _ (by rw [len_add]; omega) hpn (by rw [len_add]; omega) (all_add hal (un_ok hun)) (he.trans (by rw [bt, if_neg (by omega), if_neg (by omega), if_pos (by omega), hun]))) rfl rfl rfl rfl
              · refine aw_iload (aw_d q_Mo_escapedText 33 rfl) rfl ?_
                refine aw_goto (tgt := 110) (aw_d q_Mo_escapedText 34 rfl) (by decide) ?_
                refine aw_istore (aw_d q_Mo_escapedText 51 rfl) (aw_le rfl) rfl ?_
                refine aw_iload (aw_d q_Mo_escapedText 52 rfl) rfl ?_
                refine aw_ifI_ge (tgt := 125) (aw_d q_Mo_escapedText 53 rfl) (by decide) (fun c114 => ?_) (fun c114 => by exfalso; omega)
                refine aw_aload_n (aw_d q_Mo_escapedText 58 rfl) rfl rfl rfl ?_
                refine aw_iload (aw_d q_Mo_escapedText 59 rfl) rfl ?_
                refine aw_iload_n (aw_d q_Mo_escapedText 60 rfl) rfl rfl ?_
                refine cV (aw_d q_Mo_escapedText 61 rfl) (sp_add (L := L) (x := nI p) (c := (T (p + 1))) h20) vL_Mo_366_Mo rfl rfl rfl rfl rfl rfl ⟨aw_le rfl, aw_le rfl⟩ (fun r129 h129 hp129 => ?_)
                obtain ⟨rfl, hp129⟩ := hp129
                rcases hp129 with ⟨hl129, rfl⟩ | ⟨hl129, rfl⟩
                · skip -- full
                  refine aw_aload_n (aw_d q_Mo_escapedText 62 rfl) rfl rfl rfl ?_
                  refine aw_aload_n (aw_d q_Mo_escapedText 63 rfl) rfl rfl rfl ?_
                  refine aw_getf (v := .int (nI (p))) (aw_d q_Mo_escapedText 64 rfl) fL_Mo_324_Mo rfl (gk rfl) ?_
                  refine aw_iconst (v := nI 2) (aw_d q_Mo_escapedText 65 rfl) (by decide) ?_
                  refine aw_iaddN (aw_d q_Mo_escapedText 66 rfl) ?_
                  refine wi_33_31 (aw_d q_Mo_escapedText 67 rfl) pL_Mo_324_Mo ?_
                  refine aw_goto (tgt := 180) (aw_d q_Mo_escapedText 68 rfl) (by decide) ?_
                  refine aw_goto (tgt := 5) (aw_d q_Mo_escapedText 88 rfl) (by decide) ?_
                  have hun : un sl (T (p + 1)) = some (T (p + 1)) := by rw [show sl = true from c58]; exact un_s (by omega)
                  have hz : bt T sl 21 a [] = .error p := he.trans (by rw [bt, if_neg (by omega), if_pos (by omega)])
                  refine aw_aload_n (aw_d q_Mo_escapedText 3 rfl) rfl rfl rfl ?_
                  refine cVr (aw_d q_Mo_escapedText 4 rfl) (sp_goesI (u := p) (by omega)) vL_Mo_327_Mo rfl rfl rfl rfl rfl rfl ⟨aw_le rfl, aw_le rfl⟩ ?_
                  refine aw_ifN_eq (tgt := 183) (aw_d q_Mo_escapedText 5 rfl) (by decide) (by omega) (fun c9 => ?_) (fun c9 => by exfalso; omega)
                  exact aw_vret (aw_d q_Mo_escapedText 89 rfl) rfl (⟨rfl, by rw [hz]; exact ⟨hp, _, _, _, by omega, rfl⟩⟩)
                · skip -- add
                  refine aw_aload_n (aw_d q_Mo_escapedText 62 rfl) rfl rfl rfl ?_
                  refine aw_aload_n (aw_d q_Mo_escapedText 63 rfl) rfl rfl rfl ?_
                  refine aw_getf (v := .int (nI (p))) (aw_d q_Mo_escapedText 64 rfl) fL_Mo_324_Mo rfl (gk rfl) ?_
                  refine aw_iconst (v := nI 2) (aw_d q_Mo_escapedText 65 rfl) (by decide) ?_
                  refine aw_iaddN (aw_d q_Mo_escapedText 66 rfl) ?_
                  refine wi_33_31 (aw_d q_Mo_escapedText 67 rfl) pL_Mo_324_Mo ?_
                  refine aw_goto (tgt := 180) (aw_d q_Mo_escapedText 68 rfl) (by decide) ?_
                  refine aw_goto (tgt := 5) (aw_d q_Mo_escapedText 88 rfl) (by decide) ?_
                  have hun : un sl (T (p + 1)) = some (T (p + 1)) := by rw [show sl = true from c58]; exact un_s (by omega)
                  have hpn := T_lt hc.2.2.2.1 (p := p + 1) (un_lt hun)
                  exact AW.to (ih (p + 2) (L ++ [T (p + 1)]) _ _ _ _ (by rw [len_add]; omega) hpn (by rw [len_add]; omega) (all_add hal (un_ok hun)) (he.trans (by rw [bt, if_neg (by omega), if_neg (by omega), if_pos (by omega), hun]))) rfl rfl rfl rfl
set_option maxRecDepth 20000 in
theorem sp_escA {g : aw_G} {S : aw_S} {n : Nat} {T : Nat → Int32} {p : Nat} {f z : Int32} {X : Nat → Int32} (hc : TPm S n T) (hp : p ≤ n) {sl : Bool} : Sp g M_Mo_escapedText 2 43 0 0 [.ref 33, .int (if sl = true then nI 1 else nI 0)] (HP (QM S (nI p) (-1) f z X)) (fun r h => r = none ∧ match bt T sl 21 p [] with
  | .ok y => txOK n y ∧ (1 ≤ y.1 ∧ (T (y.1 - 1)).toInt = 34) ∧ h = HP (QM S (nI (y.1 - 1)) (-1) f (nI y.2.length) (XA y.2 X))
  | .error u => u ≤ n ∧ ∃ (b : Nat) (z : Int32) (X : Nat → Int32), b ≤ 3010 ∧ h = HP (QM S (nI b) (nI u) f z X)) := by
  refine Sp.of rfl (aw_le rfl) ?_
  refine aw_aload_n (aw_d q_Mo_escapedText 0 rfl) rfl rfl rfl ?_
  refine aw_iconst (v := nI 0) (aw_d q_Mo_escapedText 1 rfl) (by decide) ?_
  refine wi_33_34 (aw_d q_Mo_escapedText 2 rfl) pL_Mo_93_Mo ?_
  exact AW.to (lp_esc hc (a := p) 21 p [] _ _ _ _ rfl hp (by decide) rfl rfl) rfl rfl rfl (by rw [XA_nil]; rfl)
set_option maxRecDepth 20000 in
theorem sp_escI {g : aw_G} {S : aw_S} {u b : Nat} {f z : Int32} {X : Nat → Int32} (hu : u ≤ 3000) (hb : b ≤ 3010) {x : Int32} : Sp g M_Mo_escapedText 2 43 0 0 [.ref 33, .int x] (HP (QM S (nI b) (nI u) f z X)) (fun r h => r = none ∧ h = HP (QM S (nI b) (nI u) f (nI 0) X)) := by
  refine Sp.of rfl (aw_le rfl) ?_
  refine aw_aload_n (aw_d q_Mo_escapedText 0 rfl) rfl rfl rfl ?_
  refine aw_iconst (v := nI 0) (aw_d q_Mo_escapedText 1 rfl) (by decide) ?_
  refine wi_33_34 (aw_d q_Mo_escapedText 2 rfl) pL_Mo_93_Mo ?_
  refine aw_aload_n (aw_d q_Mo_escapedText 3 rfl) rfl rfl rfl ?_
  refine cVr (aw_d q_Mo_escapedText 4 rfl) (sp_goesI hu) vL_Mo_327_Mo rfl rfl rfl rfl rfl rfl ⟨aw_le rfl, aw_le rfl⟩ ?_
  refine aw_ifN_eq (tgt := 183) (aw_d q_Mo_escapedText 5 rfl) (by decide) (by omega) (fun c9 => ?_) (fun c9 => by exfalso; omega)
  exact aw_vret (aw_d q_Mo_escapedText 89 rfl) rfl (⟨rfl, rfl⟩)
set_option maxRecDepth 20000 in
theorem lp_isAt {g : aw_G} {S : aw_S} {n : Nat} {T : Nat → Int32} {b : Nat} {q f z : Int32} {X : Nat → Int32} {x : Int64} {j : Nat} (hc : TPm S n T) (hb : b ≤ n) (hj : j ≤ 8) {tot : Bool} (hjl : b + j ≤ n) : ∀ (m k : Nat) (bo : Bool), m + k = j → (bo && mt T (eB x m) (b + k)) = tot → AW g M_Mo_isAt (aw_rm 0 0 0 0) (aw_F g 0 0 (fun r h => r = some (.int (if tot = true then nI 1 else nI 0)) ∧ h = HP (QM S (nI b) q f z X))) 23 [some (.ref 33), some (.long x), none, some (.int (nI j)), some (.int (if bo = true then nI 1 else nI 0)), some (.int (nI k))] [] (HP (QM S (nI b) q f z X)) 0 0 := by
  intro m
  induction m with
  | zero =>
    intro k bo hk e
    have hc2 := hc.2.1
    refine aw_iload (aw_d q_Mo_isAt 13 rfl) rfl ?_
    refine aw_iload_n (aw_d q_Mo_isAt 14 rfl) rfl rfl ?_
    refine aw_icmpN_ge (tgt := 78) (aw_d q_Mo_isAt 15 rfl) (by decide) (by (have hc2 := hc.2.1; omega)) (by (have hc2 := hc.2.1; omega)) (fun c26 => ?_) (fun c26 => by exfalso; (have hc2 := hc.2.1; omega))
    refine aw_iload (aw_d q_Mo_isAt 44 rfl) rfl ?_
    exact aw_zret (aw_d q_Mo_isAt 45 rfl) rfl (nB) (⟨by rw [← e]; simp [eB, mt], rfl⟩)
  | succ m ih =>
    intro k bo hk e
    have hc2 := hc.2.1
    refine aw_iload (aw_d q_Mo_isAt 13 rfl) rfl ?_
    refine aw_iload_n (aw_d q_Mo_isAt 14 rfl) rfl rfl ?_
    refine aw_icmpN_ge (tgt := 78) (aw_d q_Mo_isAt 15 rfl) (by decide) (by (have hc2 := hc.2.1; omega)) (by (have hc2 := hc.2.1; omega)) (fun c26 => by exfalso; (have hc2 := hc.2.1; omega)) (fun c26 => ?_)
    refine aw_iload (aw_d q_Mo_isAt 16 rfl) rfl ?_
    refine aw_ifB_eq (tgt := 78) (aw_d q_Mo_isAt 17 rfl) (by decide) (fun c31 => ?_) (fun c31 => ?_)
    · have hb1 : bo = false := by simpa using c31
      refine aw_iload (aw_d q_Mo_isAt 44 rfl) rfl ?_
      exact aw_zret (aw_d q_Mo_isAt 45 rfl) rfl (nB) (⟨by rw [← e, hb1]; rfl, rfl⟩)
    · have hb1 : bo = true := by simpa using c31
      refine aw_aload_n (aw_d q_Mo_isAt 18 rfl) rfl rfl rfl ?_
      refine aw_getf (aw_d q_Mo_isAt 19 rfl) fL_Mo_7_Mo rfl rfl ?_
      refine aw_aload_n (aw_d q_Mo_isAt 20 rfl) rfl rfl rfl ?_
      refine aw_getf (v := .int (nI (b))) (aw_d q_Mo_isAt 21 rfl) fL_Mo_324_Mo rfl (gk rfl) ?_
      refine aw_iload (aw_d q_Mo_isAt 22 rfl) rfl ?_
      refine aw_iaddN (aw_d q_Mo_isAt 23 rfl) ?_
      refine aw_ialdK (w := (T (b + k))) (aw_d q_Mo_isAt 24 rfl) rfl (by (have hc2 := hc.2.1; omega)) rfl (hc.2.2.1 _ (by omega)) ?_
      refine aw_lload_n (aw_d q_Mo_isAt 25 rfl) rfl rfl ?_
      refine aw_bipush (v := nI 8) (aw_d q_Mo_isAt 26 rfl) (by decide) ?_
      refine aw_iload_n (aw_d q_Mo_isAt 27 rfl) rfl rfl ?_
      refine aw_iconst (v := nI 1) (aw_d q_Mo_isAt 28 rfl) (by decide) ?_
      refine aw_isubN (aw_d q_Mo_isAt 29 rfl) (by (have hc2 := hc.2.1; omega)) ?_
      refine aw_iload (aw_d q_Mo_isAt 30 rfl) rfl ?_
      refine aw_isubN (aw_d q_Mo_isAt 31 rfl) (by (have hc2 := hc.2.1; omega)) ?_
      refine aw_imulN (aw_d q_Mo_isAt 32 rfl) ?_
      refine aw_lshr (aw_d q_Mo_isAt 33 rfl) ?_
      refine aw_ldc2 (aw_d q_Mo_isAt 34 rfl) lL_Mo_88 ?_
      refine aw_land (aw_d q_Mo_isAt 35 rfl) ?_
      refine aw_l2i (aw_d q_Mo_isAt 36 rfl) ?_
      refine aw_icmpZ_ne (tgt := 69) (aw_d q_Mo_isAt 37 rfl) (by decide) (fun c62 => ?_) (fun c62 => ?_)
      · have c62 : ¬ (T (b + k)).toInt = (bM x m).toInt := by rw [show m = j - 1 - k by omega]; exact c62
        refine aw_iconst (v := nI 0) (aw_d q_Mo_isAt 40 rfl) (by decide) ?_
        refine aw_istore (aw_d q_Mo_isAt 41 rfl) (aw_le rfl) rfl ?_
        refine aw_iinc (aw_d q_Mo_isAt 42 rfl) rfl (ii1 _) (aw_le rfl) rfl ?_
        refine aw_goto (tgt := 23) (aw_d q_Mo_isAt 43 rfl) (by decide) ?_
        exact ih (k + 1) false (by omega) (by rw [← e, hb1]; simp [eB, mt, c62])
      · have c62 : (T (b + k)).toInt = (bM x m).toInt := by rw [show m = j - 1 - k by omega]; exact c62
        refine aw_iconst (v := nI 1) (aw_d q_Mo_isAt 38 rfl) (by decide) ?_
        refine aw_goto (tgt := 70) (aw_d q_Mo_isAt 39 rfl) (by decide) ?_
        refine aw_istore (aw_d q_Mo_isAt 41 rfl) (aw_le rfl) rfl ?_
        refine aw_iinc (aw_d q_Mo_isAt 42 rfl) rfl (ii1 _) (aw_le rfl) rfl ?_
        refine aw_goto (tgt := 23) (aw_d q_Mo_isAt 43 rfl) (by decide) ?_
        exact ih (k + 1) true (by omega) (by rw [← e, hb1]; simp [eB, mt, c62, show b + k + 1 = b + (k + 1) by omega])
set_option maxRecDepth 20000 in
theorem sp_isAt {g : aw_G} {S : aw_S} {n : Nat} {T : Nat → Int32} {b : Nat} {q f z : Int32} {X : Nat → Int32} {x : Int64} {j : Nat} (hc : TPm S n T) (hb : b ≤ n) (hj : j ≤ 8)  : Sp g M_Mo_isAt 0 0 0 0 [.ref 33, .long x, .int (nI j)] (HP (QM S (nI b) q f z X)) (fun r h => r = some (.int (if mt T (eB x j) b = true then nI 1 else nI 0)) ∧ h = HP (QM S (nI b) q f z X)) := by
  refine Sp.of rfl (aw_le rfl) ?_
  have hc2 := hc.2.1
  refine aw_aload_n (aw_d q_Mo_isAt 0 rfl) rfl rfl rfl ?_
  refine aw_getf (v := .int (nI (b))) (aw_d q_Mo_isAt 1 rfl) fL_Mo_324_Mo rfl (gk rfl) ?_
  refine aw_iload_n (aw_d q_Mo_isAt 2 rfl) rfl rfl ?_
  refine aw_iaddN (aw_d q_Mo_isAt 3 rfl) ?_
  refine aw_aload_n (aw_d q_Mo_isAt 4 rfl) rfl rfl rfl ?_
  refine aw_getf (v := .int (nI (n))) (aw_d q_Mo_isAt 5 rfl) fL_Mo_85_Mo rfl (gk hc.1) ?_
  refine aw_icmpN_gt (tgt := 17) (aw_d q_Mo_isAt 6 rfl) (by decide) (by (have hc2 := hc.2.1; omega)) (by (have hc2 := hc.2.1; omega)) (fun c10 => ?_) (fun c10 => ?_)
  · refine aw_iconst (v := nI 0) (aw_d q_Mo_isAt 9 rfl) (by decide) ?_
    refine aw_istore (aw_d q_Mo_isAt 10 rfl) (aw_le rfl) rfl ?_
    refine aw_iconst (v := nI 0) (aw_d q_Mo_isAt 11 rfl) (by decide) ?_
    refine aw_istore (aw_d q_Mo_isAt 12 rfl) (aw_le rfl) rfl ?_
    refine aw_iload (aw_d q_Mo_isAt 13 rfl) rfl ?_
    refine aw_iload_n (aw_d q_Mo_isAt 14 rfl) rfl rfl ?_
    refine aw_icmpN_ge (tgt := 78) (aw_d q_Mo_isAt 15 rfl) (by decide) (by (have hc2 := hc.2.1; omega)) (by (have hc2 := hc.2.1; omega)) (fun c26 => ?_) (fun c26 => ?_)
    · refine aw_iload (aw_d q_Mo_isAt 44 rfl) rfl ?_
      exact aw_zret (aw_d q_Mo_isAt 45 rfl) rfl (rfl) (⟨by rw [if_neg (fun q => by have := mt_le hc.2.2.2.1 hb eB_0 q; rw [eB_len] at this; omega)], rfl⟩)
    · refine aw_iload (aw_d q_Mo_isAt 16 rfl) rfl ?_
      refine aw_ifN_eq (tgt := 78) (aw_d q_Mo_isAt 17 rfl) (by decide) (by (have hc2 := hc.2.1; omega)) (fun c31 => ?_) (fun c31 => by exfalso; (have hc2 := hc.2.1; omega))
      refine aw_iload (aw_d q_Mo_isAt 44 rfl) rfl ?_
      exact aw_zret (aw_d q_Mo_isAt 45 rfl) rfl (rfl) (⟨by rw [if_neg (fun q => by have := mt_le hc.2.2.2.1 hb eB_0 q; rw [eB_len] at this; omega)], rfl⟩)
  · refine aw_iconst (v := nI 1) (aw_d q_Mo_isAt 7 rfl) (by decide) ?_
    refine aw_goto (tgt := 18) (aw_d q_Mo_isAt 8 rfl) (by decide) ?_
    refine aw_istore (aw_d q_Mo_isAt 10 rfl) (aw_le rfl) rfl ?_
    refine aw_iconst (v := nI 0) (aw_d q_Mo_isAt 11 rfl) (by decide) ?_
    refine aw_istore (aw_d q_Mo_isAt 12 rfl) (aw_le rfl) rfl ?_
    exact AW.to (lp_isAt hc hb hj (by omega) j 0 true (by omega) (by rfl)) rfl rfl rfl rfl
set_option maxRecDepth 20000 in
theorem lp_tagT {g : aw_G} {S : aw_S} {n : Nat} {T : Nat → Int32} {f : Int32} {X : Nat → Int32} (hc : TPm S n T) {a : Nat}  : ∀ (m p : Nat) (L : List Int32) (x1 x2 x3 : Option Value), m + L.length = 21 → p ≤ n → L.length ≤ 20 → L.all pTx = true → xt T 21 a [] = xt T m p L → AW g M_Mo_tagText (aw_rm 2 43 0 0) (aw_F g 0 0 (fun r h => r = none ∧ match xt T 21 a [] with
  | .ok y => txOK n y ∧ (T y.1).toInt = 60 ∧ h = HP (QM S (nI y.1) (-1) f (nI y.2.length) (XA y.2 X))
  | .error u => u ≤ n ∧ ∃ (b : Nat) (z : Int32) (X : Nat → Int32), b ≤ 3010 ∧ h = HP (QM S (nI b) (nI u) f z X))) 5 [some (.ref 33), x1, x2, x3] [] (HP (QM S (nI p) (-1) f (nI (L).length) (XA (L) X))) 0 0 := by
  have hc2 := hc.2.1
  intro m
  induction m with
  | zero => intro p L x1 x2 x3 hk hp h20 hal he; exfalso; omega
  | succ m ih =>
    intro p L x1 x2 x3 hk hp h20 hal he
    refine aw_aload_n (aw_d q_Mo_tagText 3 rfl) rfl rfl rfl ?_
    refine cVr (aw_d q_Mo_tagText 4 rfl) (sp_goesA) vL_Mo_327_Mo rfl rfl rfl rfl rfl rfl ⟨aw_le rfl, aw_le rfl⟩ ?_
    refine aw_ifN_eq (tgt := 234) (aw_d q_Mo_tagText 5 rfl) (by decide) (by (have hc2 := hc.2.1; omega)) (fun c9 => by exfalso; (have hc2 := hc.2.1; omega)) (fun c9 => ?_)
    refine aw_aload_n (aw_d q_Mo_tagText 6 rfl) rfl rfl rfl ?_
    refine cVr (aw_d q_Mo_tagText 7 rfl) (sp_peek hc (b := p) (by omega)) vL_Mo_331_Mo rfl rfl rfl rfl rfl rfl ⟨aw_le rfl, aw_le rfl⟩ ?_
    refine aw_bipush (v := nI 60) (aw_d q_Mo_tagText 8 rfl) (by decide) ?_
    refine aw_icmpI_eq (tgt := 234) (aw_d q_Mo_tagText 9 rfl) (by decide) (by (have hc2 := hc.2.1; omega)) (fun c18 => ?_) (fun c18 => ?_)
    · exact aw_vret (aw_d q_Mo_tagText 115 rfl) rfl (⟨rfl, by rw [he, xt, if_pos (by omega)]; exact ⟨⟨hp, h20, hal⟩, by show (T p).toInt = 60; omega, rfl⟩⟩)
    · refine aw_aload_n (aw_d q_Mo_tagText 10 rfl) rfl rfl rfl ?_
      refine cVr (aw_d q_Mo_tagText 11 rfl) (sp_peek hc (b := p) (by omega)) vL_Mo_331_Mo rfl rfl rfl rfl rfl rfl ⟨aw_le rfl, aw_le rfl⟩ ?_
      refine aw_istore_n (aw_d q_Mo_tagText 12 rfl) rfl (aw_le rfl) rfl ?_
      refine aw_aload_n (aw_d q_Mo_tagText 13 rfl) rfl rfl rfl ?_
      refine aw_getf (v := .int (nI (p))) (aw_d q_Mo_tagText 14 rfl) fL_Mo_324_Mo rfl (gk rfl) ?_
      refine aw_istore_n (aw_d q_Mo_tagText 15 rfl) rfl (aw_le rfl) rfl ?_
      refine aw_iload_n (aw_d q_Mo_tagText 16 rfl) rfl rfl ?_
      refine aw_bipush (v := nI 38) (aw_d q_Mo_tagText 17 rfl) (by decide) ?_
      refine aw_icmpI_ne (tgt := 178) (aw_d q_Mo_tagText 18 rfl) (by decide) (by (have hc2 := hc.2.1; omega)) (fun c34 => ?_) (fun c34 => ?_)
      · refine aw_iload_n (aw_d q_Mo_tagText 86 rfl) rfl rfl ?_
        refine aw_bipush (v := nI 9) (aw_d q_Mo_tagText 87 rfl) (by decide) ?_
        refine aw_icmpI_eq (tgt := 207) (aw_d q_Mo_tagText 88 rfl) (by decide) (by (have hc2 := hc.2.1; omega)) (fun c181 => ?_) (fun c181 => ?_)
        · refine aw_aload_n (aw_d q_Mo_tagText 100 rfl) rfl rfl rfl ?_
          refine aw_iload_n (aw_d q_Mo_tagText 101 rfl) rfl rfl ?_
          refine aw_iload_n (aw_d q_Mo_tagText 102 rfl) rfl rfl ?_
          refine cV (aw_d q_Mo_tagText 103 rfl) (sp_add (L := L) (x := nI p) (c := (T p)) h20) vL_Mo_366_Mo rfl rfl rfl rfl rfl rfl ⟨aw_le rfl, aw_le rfl⟩ (fun r210 h210 hp210 => ?_)
          obtain ⟨rfl, hp210⟩ := hp210
          rcases hp210 with ⟨hl210, rfl⟩ | ⟨hl210, rfl⟩
          · skip -- full
            refine aw_aload_n (aw_d q_Mo_tagText 104 rfl) rfl rfl rfl ?_
            refine aw_dup (aw_d q_Mo_tagText 105 rfl) rfl ?_
            refine aw_getf (v := .int (nI (p))) (aw_d q_Mo_tagText 106 rfl) fL_Mo_324_Mo rfl (gk rfl) ?_
            refine aw_iconst (v := nI 1) (aw_d q_Mo_tagText 107 rfl) (by decide) ?_
            refine aw_iaddN (aw_d q_Mo_tagText 108 rfl) ?_
            refine wi_33_31 (aw_d q_Mo_tagText 109 rfl) pL_Mo_324_Mo ?_
            refine aw_goto (tgt := 231) (aw_d q_Mo_tagText 110 rfl) (by decide) ?_
            refine aw_goto (tgt := 5) (aw_d q_Mo_tagText 114 rfl) (by decide) ?_
            have hz : xt T 21 a [] = .error p := he.trans (by rw [xt, if_neg (by omega), if_pos (by omega)])
            refine aw_aload_n (aw_d q_Mo_tagText 3 rfl) rfl rfl rfl ?_
            refine cVr (aw_d q_Mo_tagText 4 rfl) (sp_goesI (u := p) (by omega)) vL_Mo_327_Mo rfl rfl rfl rfl rfl rfl ⟨aw_le rfl, aw_le rfl⟩ ?_
            refine aw_ifN_eq (tgt := 234) (aw_d q_Mo_tagText 5 rfl) (by decide) (by omega) (fun c9 => ?_) (fun c9 => by exfalso; omega)
            exact aw_vret (aw_d q_Mo_tagText 115 rfl) rfl (⟨rfl, by rw [hz]; exact ⟨hp, _, _, _, by omega, rfl⟩⟩)
          · skip -- add
            refine aw_aload_n (aw_d q_Mo_tagText 104 rfl) rfl rfl rfl ?_
            refine aw_dup (aw_d q_Mo_tagText 105 rfl) rfl ?_
            refine aw_getf (v := .int (nI (p))) (aw_d q_Mo_tagText 106 rfl) fL_Mo_324_Mo rfl (gk rfl) ?_
            refine aw_iconst (v := nI 1) (aw_d q_Mo_tagText 107 rfl) (by decide) ?_
            refine aw_iaddN (aw_d q_Mo_tagText 108 rfl) ?_
            refine wi_33_31 (aw_d q_Mo_tagText 109 rfl) pL_Mo_324_Mo ?_
            refine aw_goto (tgt := 231) (aw_d q_Mo_tagText 110 rfl) (by decide) ?_
            refine aw_goto (tgt := 5) (aw_d q_Mo_tagText 114 rfl) (by decide) ?_
            have hpt : pTx (T p) = true := decide_eq_true (by omega)
            have hpn := T_lt hc.2.2.2.1 (p := p) (pTx_0 hpt)
            exact AW.to (ih (p + 1) (L ++ [T p]) _ _ _ (by rw [len_add]; omega) hpn (by rw [len_add]; omega) (all_add hal hpt) (he.trans (by rw [xt, if_neg (by omega), if_neg (by omega), if_neg (by omega), if_pos ⟨hpt, by omega, by omega⟩]))) rfl rfl rfl rfl
        · refine aw_iload_n (aw_d q_Mo_tagText 89 rfl) rfl rfl ?_
          refine aw_bipush (v := nI 10) (aw_d q_Mo_tagText 90 rfl) (by decide) ?_
          refine aw_icmpI_eq (tgt := 207) (aw_d q_Mo_tagText 91 rfl) (by decide) (by (have hc2 := hc.2.1; omega)) (fun c187 => ?_) (fun c187 => ?_)
          · refine aw_aload_n (aw_d q_Mo_tagText 100 rfl) rfl rfl rfl ?_
            refine aw_iload_n (aw_d q_Mo_tagText 101 rfl) rfl rfl ?_
            refine aw_iload_n (aw_d q_Mo_tagText 102 rfl) rfl rfl ?_
            refine cV (aw_d q_Mo_tagText 103 rfl) (sp_add (L := L) (x := nI p) (c := (T p)) h20) vL_Mo_366_Mo rfl rfl rfl rfl rfl rfl ⟨aw_le rfl, aw_le rfl⟩ (fun r210 h210 hp210 => ?_)
            obtain ⟨rfl, hp210⟩ := hp210
            rcases hp210 with ⟨hl210, rfl⟩ | ⟨hl210, rfl⟩
            · skip -- full
              refine aw_aload_n (aw_d q_Mo_tagText 104 rfl) rfl rfl rfl ?_
              refine aw_dup (aw_d q_Mo_tagText 105 rfl) rfl ?_
              refine aw_getf (v := .int (nI (p))) (aw_d q_Mo_tagText 106 rfl) fL_Mo_324_Mo rfl (gk rfl) ?_
              refine aw_iconst (v := nI 1) (aw_d q_Mo_tagText 107 rfl) (by decide) ?_
              refine aw_iaddN (aw_d q_Mo_tagText 108 rfl) ?_
              refine wi_33_31 (aw_d q_Mo_tagText 109 rfl) pL_Mo_324_Mo ?_
              refine aw_goto (tgt := 231) (aw_d q_Mo_tagText 110 rfl) (by decide) ?_
              refine aw_goto (tgt := 5) (aw_d q_Mo_tagText 114 rfl) (by decide) ?_
              have hz : xt T 21 a [] = .error p := he.trans (by rw [xt, if_neg (by omega), if_pos (by omega)])
              refine aw_aload_n (aw_d q_Mo_tagText 3 rfl) rfl rfl rfl ?_
              refine cVr (aw_d q_Mo_tagText 4 rfl) (sp_goesI (u := p) (by omega)) vL_Mo_327_Mo rfl rfl rfl rfl rfl rfl ⟨aw_le rfl, aw_le rfl⟩ ?_
              refine aw_ifN_eq (tgt := 234) (aw_d q_Mo_tagText 5 rfl) (by decide) (by omega) (fun c9 => ?_) (fun c9 => by exfalso; omega)
              exact aw_vret (aw_d q_Mo_tagText 115 rfl) rfl (⟨rfl, by rw [hz]; exact ⟨hp, _, _, _, by omega, rfl⟩⟩)
            · skip -- add
              refine aw_aload_n (aw_d q_Mo_tagText 104 rfl) rfl rfl rfl ?_
              refine aw_dup (aw_d q_Mo_tagText 105 rfl) rfl ?_
              refine aw_getf (v := .int (nI (p))) (aw_d q_Mo_tagText 106 rfl) fL_Mo_324_Mo rfl (gk rfl) ?_
              refine aw_iconst (v := nI 1) (aw_d q_Mo_tagText 107 rfl) (by decide) ?_
              refine aw_iaddN (aw_d q_Mo_tagText 108 rfl) ?_
              refine wi_33_31 (aw_d q_Mo_tagText 109 rfl) pL_Mo_324_Mo ?_
              refine aw_goto (tgt := 231) (aw_d q_Mo_tagText 110 rfl) (by decide) ?_
              refine aw_goto (tgt := 5) (aw_d q_Mo_tagText 114 rfl) (by decide) ?_
              have hpt : pTx (T p) = true := decide_eq_true (by omega)
              have hpn := T_lt hc.2.2.2.1 (p := p) (pTx_0 hpt)
              exact AW.to (ih (p + 1) (L ++ [T p]) _ _ _ (by rw [len_add]; omega) hpn (by rw [len_add]; omega) (all_add hal hpt) (he.trans (by rw [xt, if_neg (by omega), if_neg (by omega), if_neg (by omega), if_pos ⟨hpt, by omega, by omega⟩]))) rfl rfl rfl rfl
          · refine aw_iload_n (aw_d q_Mo_tagText 92 rfl) rfl rfl ?_
            refine aw_bipush (v := nI 32) (aw_d q_Mo_tagText 93 rfl) (by decide) ?_
            refine aw_bipush (v := nI 126) (aw_d q_Mo_tagText 94 rfl) (by decide) ?_
            refine cSr (aw_d q_Mo_tagText 95 rfl) (sp_Mo_in (A := 32) (B := 126) rfl rfl) sL_Mo_81 rfl rfl rfl rfl ⟨aw_le rfl, aw_le rfl⟩ ?_
            refine aw_ifB_eq (tgt := 226) (aw_d q_Mo_tagText 96 rfl) (by decide) (fun c198 => ?_) (fun c198 => ?_)
            · refine aw_aload_n (aw_d q_Mo_tagText 111 rfl) rfl rfl rfl ?_
              refine aw_iload_n (aw_d q_Mo_tagText 112 rfl) rfl rfl ?_
              refine cVv (aw_d q_Mo_tagText 113 rfl) (sp_mfailA) vL_Mo_334_Mo rfl rfl rfl rfl rfl rfl ⟨aw_le rfl, aw_le rfl⟩ ?_
              refine aw_goto (tgt := 5) (aw_d q_Mo_tagText 114 rfl) (by decide) ?_
              have hz : xt T 21 a [] = .error p := he.trans (by rw [xt, if_neg (by omega)]; by_cases q20 : 20 ≤ L.length; (rw [if_pos q20]); (rw [if_neg q20, if_neg (by omega), if_neg (fun q => by have q1 := of_decide_eq_true q.1; omega)]))
              refine aw_aload_n (aw_d q_Mo_tagText 3 rfl) rfl rfl rfl ?_
              refine cVr (aw_d q_Mo_tagText 4 rfl) (sp_goesI (u := p) (by omega)) vL_Mo_327_Mo rfl rfl rfl rfl rfl rfl ⟨aw_le rfl, aw_le rfl⟩ ?_
              refine aw_ifN_eq (tgt := 234) (aw_d q_Mo_tagText 5 rfl) (by decide) (by omega) (fun c9 => ?_) (fun c9 => by exfalso; omega)
              exact aw_vret (aw_d q_Mo_tagText 115 rfl) rfl (⟨rfl, by rw [hz]; exact ⟨hp, _, _, _, by omega, rfl⟩⟩)
            · refine aw_iload_n (aw_d q_Mo_tagText 97 rfl) rfl rfl ?_
              refine aw_bipush (v := nI 62) (aw_d q_Mo_tagText 98 rfl) (by decide) ?_
              refine aw_icmpI_eq (tgt := 226) (aw_d q_Mo_tagText 99 rfl) (by decide) (by (have hc2 := hc.2.1; omega)) (fun c204 => ?_) (fun c204 => ?_)
              · refine aw_aload_n (aw_d q_Mo_tagText 111 rfl) rfl rfl rfl ?_
                refine aw_iload_n (aw_d q_Mo_tagText 112 rfl) rfl rfl ?_
                refine cVv (aw_d q_Mo_tagText 113 rfl) (sp_mfailA) vL_Mo_334_Mo rfl rfl rfl rfl rfl rfl ⟨aw_le rfl, aw_le rfl⟩ ?_
                refine aw_goto (tgt := 5) (aw_d q_Mo_tagText 114 rfl) (by decide) ?_
                have hz : xt T 21 a [] = .error p := he.trans (by rw [xt, if_neg (by omega)]; by_cases q20 : 20 ≤ L.length; (rw [if_pos q20]); (rw [if_neg q20, if_neg (by omega), if_neg (fun q => by have q1 := of_decide_eq_true q.1; omega)]))
                refine aw_aload_n (aw_d q_Mo_tagText 3 rfl) rfl rfl rfl ?_
                refine cVr (aw_d q_Mo_tagText 4 rfl) (sp_goesI (u := p) (by omega)) vL_Mo_327_Mo rfl rfl rfl rfl rfl rfl ⟨aw_le rfl, aw_le rfl⟩ ?_
                refine aw_ifN_eq (tgt := 234) (aw_d q_Mo_tagText 5 rfl) (by decide) (by omega) (fun c9 => ?_) (fun c9 => by exfalso; omega)
                exact aw_vret (aw_d q_Mo_tagText 115 rfl) rfl (⟨rfl, by rw [hz]; exact ⟨hp, _, _, _, by omega, rfl⟩⟩)
              · refine aw_aload_n (aw_d q_Mo_tagText 100 rfl) rfl rfl rfl ?_
                refine aw_iload_n (aw_d q_Mo_tagText 101 rfl) rfl rfl ?_
                refine aw_iload_n (aw_d q_Mo_tagText 102 rfl) rfl rfl ?_
                refine cV (aw_d q_Mo_tagText 103 rfl) (sp_add (L := L) (x := nI p) (c := (T p)) h20) vL_Mo_366_Mo rfl rfl rfl rfl rfl rfl ⟨aw_le rfl, aw_le rfl⟩ (fun r210 h210 hp210 => ?_)
                obtain ⟨rfl, hp210⟩ := hp210
                rcases hp210 with ⟨hl210, rfl⟩ | ⟨hl210, rfl⟩
                · skip -- full
                  refine aw_aload_n (aw_d q_Mo_tagText 104 rfl) rfl rfl rfl ?_
                  refine aw_dup (aw_d q_Mo_tagText 105 rfl) rfl ?_
                  refine aw_getf (v := .int (nI (p))) (aw_d q_Mo_tagText 106 rfl) fL_Mo_324_Mo rfl (gk rfl) ?_
                  refine aw_iconst (v := nI 1) (aw_d q_Mo_tagText 107 rfl) (by decide) ?_
                  refine aw_iaddN (aw_d q_Mo_tagText 108 rfl) ?_
                  refine wi_33_31 (aw_d q_Mo_tagText 109 rfl) pL_Mo_324_Mo ?_
                  refine aw_goto (tgt := 231) (aw_d q_Mo_tagText 110 rfl) (by decide) ?_
                  refine aw_goto (tgt := 5) (aw_d q_Mo_tagText 114 rfl) (by decide) ?_
                  have hz : xt T 21 a [] = .error p := he.trans (by rw [xt, if_neg (by omega), if_pos (by omega)])
                  refine aw_aload_n (aw_d q_Mo_tagText 3 rfl) rfl rfl rfl ?_
                  refine cVr (aw_d q_Mo_tagText 4 rfl) (sp_goesI (u := p) (by omega)) vL_Mo_327_Mo rfl rfl rfl rfl rfl rfl ⟨aw_le rfl, aw_le rfl⟩ ?_
                  refine aw_ifN_eq (tgt := 234) (aw_d q_Mo_tagText 5 rfl) (by decide) (by omega) (fun c9 => ?_) (fun c9 => by exfalso; omega)
                  exact aw_vret (aw_d q_Mo_tagText 115 rfl) rfl (⟨rfl, by rw [hz]; exact ⟨hp, _, _, _, by omega, rfl⟩⟩)
                · skip -- add
                  refine aw_aload_n (aw_d q_Mo_tagText 104 rfl) rfl rfl rfl ?_
                  refine aw_dup (aw_d q_Mo_tagText 105 rfl) rfl ?_
                  refine aw_getf (v := .int (nI (p))) (aw_d q_Mo_tagText 106 rfl) fL_Mo_324_Mo rfl (gk rfl) ?_
                  refine aw_iconst (v := nI 1) (aw_d q_Mo_tagText 107 rfl) (by decide) ?_
                  refine aw_iaddN (aw_d q_Mo_tagText 108 rfl) ?_
                  refine wi_33_31 (aw_d q_Mo_tagText 109 rfl) pL_Mo_324_Mo ?_
                  refine aw_goto (tgt := 231) (aw_d q_Mo_tagText 110 rfl) (by decide) ?_
                  refine aw_goto (tgt := 5) (aw_d q_Mo_tagText 114 rfl) (by decide) ?_
                  have hpt : pTx (T p) = true := decide_eq_true (by omega)
                  have hpn := T_lt hc.2.2.2.1 (p := p) (pTx_0 hpt)
                  exact AW.to (ih (p + 1) (L ++ [T p]) _ _ _ (by rw [len_add]; omega) hpn (by rw [len_add]; omega) (all_add hal hpt) (he.trans (by rw [xt, if_neg (by omega), if_neg (by omega), if_neg (by omega), if_pos ⟨hpt, by omega, by omega⟩]))) rfl rfl rfl rfl
      · refine aw_aload_n (aw_d q_Mo_tagText 19 rfl) rfl rfl rfl ?_
        refine aw_ldc2 (aw_d q_Mo_tagText 20 rfl) lL_Mo_151 ?_
        refine aw_iconst (v := nI 5) (aw_d q_Mo_tagText 21 rfl) (by decide) ?_
        refine cVr (aw_d q_Mo_tagText 22 rfl) (sp_isAt (x := 164843319355) (j := 5) hc hp (by decide)) vL_Mo_369_Mo rfl rfl rfl rfl rfl rfl ⟨aw_le rfl, aw_le rfl⟩ ?_
        refine aw_ifB_eq (tgt := 53) (aw_d q_Mo_tagText 23 rfl) (by decide) (fun c45 => ?_) (fun c45 => ?_)
        · rw [show eB 164843319355 5 = tx 37 by decide] at c45
          refine aw_aload_n (aw_d q_Mo_tagText 26 rfl) rfl rfl rfl ?_
          refine aw_ldc2 (aw_d q_Mo_tagText 27 rfl) lL_Mo_153 ?_
          refine aw_iconst (v := nI 4) (aw_d q_Mo_tagText 28 rfl) (by decide) ?_
          refine cVr (aw_d q_Mo_tagText 29 rfl) (sp_isAt (x := 644641851) (j := 4) hc hp (by decide)) vL_Mo_369_Mo rfl rfl rfl rfl rfl rfl ⟨aw_le rfl, aw_le rfl⟩ ?_
          refine aw_ifB_eq (tgt := 69) (aw_d q_Mo_tagText 30 rfl) (by decide) (fun c61 => ?_) (fun c61 => ?_)
          · rw [show eB 644641851 4 = tx 38 by decide] at c61
            refine aw_aload_n (aw_d q_Mo_tagText 33 rfl) rfl rfl rfl ?_
            refine aw_ldc2 (aw_d q_Mo_tagText 34 rfl) lL_Mo_155 ?_
            refine aw_iconst (v := nI 4) (aw_d q_Mo_tagText 35 rfl) (by decide) ?_
            refine cVr (aw_d q_Mo_tagText 36 rfl) (sp_isAt (x := 644314171) (j := 4) hc hp (by decide)) vL_Mo_369_Mo rfl rfl rfl rfl rfl rfl ⟨aw_le rfl, aw_le rfl⟩ ?_
            refine aw_ifB_eq (tgt := 85) (aw_d q_Mo_tagText 37 rfl) (by decide) (fun c77 => ?_) (fun c77 => ?_)
            · rw [show eB 644314171 4 = tx 39 by decide] at c77
              refine aw_aload_n (aw_d q_Mo_tagText 40 rfl) rfl rfl rfl ?_
              refine aw_ldc2 (aw_d q_Mo_tagText 41 rfl) lL_Mo_157 ?_
              refine aw_iconst (v := nI 5) (aw_d q_Mo_tagText 42 rfl) (by decide) ?_
              refine cVr (aw_d q_Mo_tagText 43 rfl) (sp_isAt (x := 163799184187) (j := 5) hc hp (by decide)) vL_Mo_369_Mo rfl rfl rfl rfl rfl rfl ⟨aw_le rfl, aw_le rfl⟩ ?_
              refine aw_ifB_eq (tgt := 101) (aw_d q_Mo_tagText 44 rfl) (by decide) (fun c93 => ?_) (fun c93 => ?_)
              · rw [show eB 163799184187 5 = tx 40 by decide] at c93
                refine aw_aload_n (aw_d q_Mo_tagText 47 rfl) rfl rfl rfl ?_
                refine aw_ldc2 (aw_d q_Mo_tagText 48 rfl) lL_Mo_373 ?_
                refine aw_bipush (v := nI 6) (aw_d q_Mo_tagText 49 rfl) (by decide) ?_
                refine cVr (aw_d q_Mo_tagText 50 rfl) (sp_isAt (x := 42268743398459) (j := 6) hc hp (by decide)) vL_Mo_369_Mo rfl rfl rfl rfl rfl rfl ⟨aw_le rfl, aw_le rfl⟩ ?_
                refine aw_ifB_eq (tgt := 118) (aw_d q_Mo_tagText 51 rfl) (by decide) (fun c110 => ?_) (fun c110 => ?_)
                · rw [show eB 42268743398459 6 = tx 83 by decide] at c110
                  refine aw_iconst (v := (-1)) (aw_d q_Mo_tagText 54 rfl) (by decide) ?_
                  refine aw_istore_n (aw_d q_Mo_tagText 55 rfl) rfl (aw_le rfl) rfl ?_
                  refine aw_iload_n (aw_d q_Mo_tagText 56 rfl) rfl rfl ?_
                  refine aw_ifI_ge (tgt := 132) (aw_d q_Mo_tagText 57 rfl) (by decide) (fun c121 => by exact absurd c121 (by decide)) (fun c121 => ?_)
                  refine aw_aload_n (aw_d q_Mo_tagText 58 rfl) rfl rfl rfl ?_
                  refine aw_iload_n (aw_d q_Mo_tagText 59 rfl) rfl rfl ?_
                  refine cVv (aw_d q_Mo_tagText 60 rfl) (sp_mfailA) vL_Mo_334_Mo rfl rfl rfl rfl rfl rfl ⟨aw_le rfl, aw_le rfl⟩ ?_
                  refine aw_goto (tgt := 175) (aw_d q_Mo_tagText 61 rfl) (by decide) ?_
                  refine aw_goto (tgt := 231) (aw_d q_Mo_tagText 85 rfl) (by decide) ?_
                  refine aw_goto (tgt := 5) (aw_d q_Mo_tagText 114 rfl) (by decide) ?_
                  have hen : en T p = none := by rw [en, if_neg c45, if_neg c61, if_neg c77, if_neg c93, if_neg c110]
                  have hz : xt T 21 a [] = .error p := he.trans (by rw [xt, if_neg (by omega)]; by_cases q20 : 20 ≤ L.length; (rw [if_pos q20]); (rw [if_neg q20, if_pos (by omega), hen]))
                  refine aw_aload_n (aw_d q_Mo_tagText 3 rfl) rfl rfl rfl ?_
                  refine cVr (aw_d q_Mo_tagText 4 rfl) (sp_goesI (u := p) (by omega)) vL_Mo_327_Mo rfl rfl rfl rfl rfl rfl ⟨aw_le rfl, aw_le rfl⟩ ?_
                  refine aw_ifN_eq (tgt := 234) (aw_d q_Mo_tagText 5 rfl) (by decide) (by omega) (fun c9 => ?_) (fun c9 => by exfalso; omega)
                  exact aw_vret (aw_d q_Mo_tagText 115 rfl) rfl (⟨rfl, by rw [hz]; exact ⟨hp, _, _, _, by omega, rfl⟩⟩)
                · rw [show eB 42268743398459 6 = tx 83 by decide] at c110
                  refine aw_bipush (v := nI 34) (aw_d q_Mo_tagText 52 rfl) (by decide) ?_
                  refine aw_goto (tgt := 119) (aw_d q_Mo_tagText 53 rfl) (by decide) ?_
                  refine aw_istore_n (aw_d q_Mo_tagText 55 rfl) rfl (aw_le rfl) rfl ?_
                  refine aw_iload_n (aw_d q_Mo_tagText 56 rfl) rfl rfl ?_
                  refine aw_ifN_ge (tgt := 132) (aw_d q_Mo_tagText 57 rfl) (by decide) (by (have hc2 := hc.2.1; omega)) (fun c121 => ?_) (fun c121 => by exfalso; (have hc2 := hc.2.1; omega))
                  refine aw_aload_n (aw_d q_Mo_tagText 62 rfl) rfl rfl rfl ?_
                  refine aw_iload_n (aw_d q_Mo_tagText 63 rfl) rfl rfl ?_
                  refine aw_iload_n (aw_d q_Mo_tagText 64 rfl) rfl rfl ?_
                  refine cV (aw_d q_Mo_tagText 65 rfl) (sp_add (L := L) (x := nI p) (c := (nI 34)) h20) vL_Mo_366_Mo rfl rfl rfl rfl rfl rfl ⟨aw_le rfl, aw_le rfl⟩ (fun r135 h135 hp135 => ?_)
                  obtain ⟨rfl, hp135⟩ := hp135
                  rcases hp135 with ⟨hl135, rfl⟩ | ⟨hl135, rfl⟩
                  · skip -- full
                    refine aw_aload_n (aw_d q_Mo_tagText 66 rfl) rfl rfl rfl ?_
                    refine aw_aload_n (aw_d q_Mo_tagText 67 rfl) rfl rfl rfl ?_
                    refine aw_getf (v := .int (nI (p))) (aw_d q_Mo_tagText 68 rfl) fL_Mo_324_Mo rfl (gk rfl) ?_
                    refine aw_iload_n (aw_d q_Mo_tagText 69 rfl) rfl rfl ?_
                    refine aw_bipush (v := nI 38) (aw_d q_Mo_tagText 70 rfl) (by decide) ?_
                    refine aw_icmpN_eq (tgt := 155) (aw_d q_Mo_tagText 71 rfl) (by decide) (by (have hc2 := hc.2.1; omega)) (by (have hc2 := hc.2.1; omega)) (fun c146 => by exfalso; (have hc2 := hc.2.1; omega)) (fun c146 => ?_)
                    refine aw_iload_n (aw_d q_Mo_tagText 72 rfl) rfl rfl ?_
                    refine aw_bipush (v := nI 13) (aw_d q_Mo_tagText 73 rfl) (by decide) ?_
                    refine aw_icmpN_ne (tgt := 159) (aw_d q_Mo_tagText 74 rfl) (by decide) (by (have hc2 := hc.2.1; omega)) (by (have hc2 := hc.2.1; omega)) (fun c152 => ?_) (fun c152 => by exfalso; (have hc2 := hc.2.1; omega))
                    refine aw_iload_n (aw_d q_Mo_tagText 77 rfl) rfl rfl ?_
                    refine aw_bipush (v := nI 34) (aw_d q_Mo_tagText 78 rfl) (by decide) ?_
                    refine aw_icmpN_ne (tgt := 170) (aw_d q_Mo_tagText 79 rfl) (by decide) (by (have hc2 := hc.2.1; omega)) (by (have hc2 := hc.2.1; omega)) (fun c162 => by exfalso; (have hc2 := hc.2.1; omega)) (fun c162 => ?_)
                    refine aw_bipush (v := nI 6) (aw_d q_Mo_tagText 80 rfl) (by decide) ?_
                    refine aw_goto (tgt := 171) (aw_d q_Mo_tagText 81 rfl) (by decide) ?_
                    refine aw_iaddN (aw_d q_Mo_tagText 83 rfl) ?_
                    refine wi_33_31 (aw_d q_Mo_tagText 84 rfl) pL_Mo_324_Mo ?_
                    refine aw_goto (tgt := 231) (aw_d q_Mo_tagText 85 rfl) (by decide) ?_
                    refine aw_goto (tgt := 5) (aw_d q_Mo_tagText 114 rfl) (by decide) ?_
                    have hen : en T p = some (nI 34, 6) := by rw [en, if_neg c45, if_neg c61, if_neg c77, if_neg c93, if_pos c110]
                    have hz : xt T 21 a [] = .error p := he.trans (by rw [xt, if_neg (by omega), if_pos (by omega)])
                    refine aw_aload_n (aw_d q_Mo_tagText 3 rfl) rfl rfl rfl ?_
                    refine cVr (aw_d q_Mo_tagText 4 rfl) (sp_goesI (u := p) (by omega)) vL_Mo_327_Mo rfl rfl rfl rfl rfl rfl ⟨aw_le rfl, aw_le rfl⟩ ?_
                    refine aw_ifN_eq (tgt := 234) (aw_d q_Mo_tagText 5 rfl) (by decide) (by omega) (fun c9 => ?_) (fun c9 => by exfalso; omega)
                    exact aw_vret (aw_d q_Mo_tagText 115 rfl) rfl (⟨rfl, by rw [hz]; exact ⟨hp, _, _, _, by omega, rfl⟩⟩)
                  · skip -- add
                    refine aw_aload_n (aw_d q_Mo_tagText 66 rfl) rfl rfl rfl ?_
                    refine aw_aload_n (aw_d q_Mo_tagText 67 rfl) rfl rfl rfl ?_
                    refine aw_getf (v := .int (nI (p))) (aw_d q_Mo_tagText 68 rfl) fL_Mo_324_Mo rfl (gk rfl) ?_
                    refine aw_iload_n (aw_d q_Mo_tagText 69 rfl) rfl rfl ?_
                    refine aw_bipush (v := nI 38) (aw_d q_Mo_tagText 70 rfl) (by decide) ?_
                    refine aw_icmpN_eq (tgt := 155) (aw_d q_Mo_tagText 71 rfl) (by decide) (by (have hc2 := hc.2.1; omega)) (by (have hc2 := hc.2.1; omega)) (fun c146 => by exfalso; (have hc2 := hc.2.1; omega)) (fun c146 => ?_)
                    refine aw_iload_n (aw_d q_Mo_tagText 72 rfl) rfl rfl ?_
                    refine aw_bipush (v := nI 13) (aw_d q_Mo_tagText 73 rfl) (by decide) ?_
                    refine aw_icmpN_ne (tgt := 159) (aw_d q_Mo_tagText 74 rfl) (by decide) (by (have hc2 := hc.2.1; omega)) (by (have hc2 := hc.2.1; omega)) (fun c152 => ?_) (fun c152 => by exfalso; (have hc2 := hc.2.1; omega))
                    refine aw_iload_n (aw_d q_Mo_tagText 77 rfl) rfl rfl ?_
                    refine aw_bipush (v := nI 34) (aw_d q_Mo_tagText 78 rfl) (by decide) ?_
                    refine aw_icmpN_ne (tgt := 170) (aw_d q_Mo_tagText 79 rfl) (by decide) (by (have hc2 := hc.2.1; omega)) (by (have hc2 := hc.2.1; omega)) (fun c162 => by exfalso; (have hc2 := hc.2.1; omega)) (fun c162 => ?_)
                    refine aw_bipush (v := nI 6) (aw_d q_Mo_tagText 80 rfl) (by decide) ?_
                    refine aw_goto (tgt := 171) (aw_d q_Mo_tagText 81 rfl) (by decide) ?_
                    refine aw_iaddN (aw_d q_Mo_tagText 83 rfl) ?_
                    refine wi_33_31 (aw_d q_Mo_tagText 84 rfl) pL_Mo_324_Mo ?_
                    refine aw_goto (tgt := 231) (aw_d q_Mo_tagText 85 rfl) (by decide) ?_
                    refine aw_goto (tgt := 5) (aw_d q_Mo_tagText 114 rfl) (by decide) ?_
                    have hen : en T p = some (nI 34, 6) := by rw [en, if_neg c45, if_neg c61, if_neg c77, if_neg c93, if_pos c110]
                    have hpn := mt_tx hc.2.2.2.1 hp (j := 83) (by decide) c110
                    exact AW.to (ih (p + 6) (L ++ [nI 34]) _ _ _ (by rw [len_add]; omega) hpn (by rw [len_add]; omega) (all_add hal (by decide)) (he.trans (by rw [xt, if_neg (by omega), if_neg (by omega), if_pos (by omega), hen]))) rfl rfl rfl rfl
              · rw [show eB 163799184187 5 = tx 40 by decide] at c93
                refine aw_bipush (v := nI 13) (aw_d q_Mo_tagText 45 rfl) (by decide) ?_
                refine aw_goto (tgt := 119) (aw_d q_Mo_tagText 46 rfl) (by decide) ?_
                refine aw_istore_n (aw_d q_Mo_tagText 55 rfl) rfl (aw_le rfl) rfl ?_
                refine aw_iload_n (aw_d q_Mo_tagText 56 rfl) rfl rfl ?_
                refine aw_ifN_ge (tgt := 132) (aw_d q_Mo_tagText 57 rfl) (by decide) (by (have hc2 := hc.2.1; omega)) (fun c121 => ?_) (fun c121 => by exfalso; (have hc2 := hc.2.1; omega))
                refine aw_aload_n (aw_d q_Mo_tagText 62 rfl) rfl rfl rfl ?_
                refine aw_iload_n (aw_d q_Mo_tagText 63 rfl) rfl rfl ?_
                refine aw_iload_n (aw_d q_Mo_tagText 64 rfl) rfl rfl ?_
                refine cV (aw_d q_Mo_tagText 65 rfl) (sp_add (L := L) (x := nI p) (c := (nI 13)) h20) vL_Mo_366_Mo rfl rfl rfl rfl rfl rfl ⟨aw_le rfl, aw_le rfl⟩ (fun r135 h135 hp135 => ?_)
                obtain ⟨rfl, hp135⟩ := hp135
                rcases hp135 with ⟨hl135, rfl⟩ | ⟨hl135, rfl⟩
                · skip -- full
                  refine aw_aload_n (aw_d q_Mo_tagText 66 rfl) rfl rfl rfl ?_
                  refine aw_aload_n (aw_d q_Mo_tagText 67 rfl) rfl rfl rfl ?_
                  refine aw_getf (v := .int (nI (p))) (aw_d q_Mo_tagText 68 rfl) fL_Mo_324_Mo rfl (gk rfl) ?_
                  refine aw_iload_n (aw_d q_Mo_tagText 69 rfl) rfl rfl ?_
                  refine aw_bipush (v := nI 38) (aw_d q_Mo_tagText 70 rfl) (by decide) ?_
                  refine aw_icmpN_eq (tgt := 155) (aw_d q_Mo_tagText 71 rfl) (by decide) (by (have hc2 := hc.2.1; omega)) (by (have hc2 := hc.2.1; omega)) (fun c146 => by exfalso; (have hc2 := hc.2.1; omega)) (fun c146 => ?_)
                  refine aw_iload_n (aw_d q_Mo_tagText 72 rfl) rfl rfl ?_
                  refine aw_bipush (v := nI 13) (aw_d q_Mo_tagText 73 rfl) (by decide) ?_
                  refine aw_icmpN_ne (tgt := 159) (aw_d q_Mo_tagText 74 rfl) (by decide) (by (have hc2 := hc.2.1; omega)) (by (have hc2 := hc.2.1; omega)) (fun c152 => by exfalso; (have hc2 := hc.2.1; omega)) (fun c152 => ?_)
                  refine aw_iconst (v := nI 5) (aw_d q_Mo_tagText 75 rfl) (by decide) ?_
                  refine aw_goto (tgt := 171) (aw_d q_Mo_tagText 76 rfl) (by decide) ?_
                  refine aw_iaddN (aw_d q_Mo_tagText 83 rfl) ?_
                  refine wi_33_31 (aw_d q_Mo_tagText 84 rfl) pL_Mo_324_Mo ?_
                  refine aw_goto (tgt := 231) (aw_d q_Mo_tagText 85 rfl) (by decide) ?_
                  refine aw_goto (tgt := 5) (aw_d q_Mo_tagText 114 rfl) (by decide) ?_
                  have hen : en T p = some (nI 13, 5) := by rw [en, if_neg c45, if_neg c61, if_neg c77, if_pos c93]
                  have hz : xt T 21 a [] = .error p := he.trans (by rw [xt, if_neg (by omega), if_pos (by omega)])
                  refine aw_aload_n (aw_d q_Mo_tagText 3 rfl) rfl rfl rfl ?_
                  refine cVr (aw_d q_Mo_tagText 4 rfl) (sp_goesI (u := p) (by omega)) vL_Mo_327_Mo rfl rfl rfl rfl rfl rfl ⟨aw_le rfl, aw_le rfl⟩ ?_
                  refine aw_ifN_eq (tgt := 234) (aw_d q_Mo_tagText 5 rfl) (by decide) (by omega) (fun c9 => ?_) (fun c9 => by exfalso; omega)
                  exact aw_vret (aw_d q_Mo_tagText 115 rfl) rfl (⟨rfl, by rw [hz]; exact ⟨hp, _, _, _, by omega, rfl⟩⟩)
                · skip -- add
                  refine aw_aload_n (aw_d q_Mo_tagText 66 rfl) rfl rfl rfl ?_
                  refine aw_aload_n (aw_d q_Mo_tagText 67 rfl) rfl rfl rfl ?_
                  refine aw_getf (v := .int (nI (p))) (aw_d q_Mo_tagText 68 rfl) fL_Mo_324_Mo rfl (gk rfl) ?_
                  refine aw_iload_n (aw_d q_Mo_tagText 69 rfl) rfl rfl ?_
                  refine aw_bipush (v := nI 38) (aw_d q_Mo_tagText 70 rfl) (by decide) ?_
                  refine aw_icmpN_eq (tgt := 155) (aw_d q_Mo_tagText 71 rfl) (by decide) (by (have hc2 := hc.2.1; omega)) (by (have hc2 := hc.2.1; omega)) (fun c146 => by exfalso; (have hc2 := hc.2.1; omega)) (fun c146 => ?_)
                  refine aw_iload_n (aw_d q_Mo_tagText 72 rfl) rfl rfl ?_
                  refine aw_bipush (v := nI 13) (aw_d q_Mo_tagText 73 rfl) (by decide) ?_
                  refine aw_icmpN_ne (tgt := 159) (aw_d q_Mo_tagText 74 rfl) (by decide) (by (have hc2 := hc.2.1; omega)) (by (have hc2 := hc.2.1; omega)) (fun c152 => by exfalso; (have hc2 := hc.2.1; omega)) (fun c152 => ?_)
                  refine aw_iconst (v := nI 5) (aw_d q_Mo_tagText 75 rfl) (by decide) ?_
                  refine aw_goto (tgt := 171) (aw_d q_Mo_tagText 76 rfl) (by decide) ?_
                  refine aw_iaddN (aw_d q_Mo_tagText 83 rfl) ?_
                  refine wi_33_31 (aw_d q_Mo_tagText 84 rfl) pL_Mo_324_Mo ?_
                  refine aw_goto (tgt := 231) (aw_d q_Mo_tagText 85 rfl) (by decide) ?_
                  refine aw_goto (tgt := 5) (aw_d q_Mo_tagText 114 rfl) (by decide) ?_
                  have hen : en T p = some (nI 13, 5) := by rw [en, if_neg c45, if_neg c61, if_neg c77, if_pos c93]
                  have hpn := mt_tx hc.2.2.2.1 hp (j := 40) (by decide) c93
                  exact AW.to (ih (p + 5) (L ++ [nI 13]) _ _ _ (by rw [len_add]; omega) hpn (by rw [len_add]; omega) (all_add hal (by decide)) (he.trans (by rw [xt, if_neg (by omega), if_neg (by omega), if_pos (by omega), hen]))) rfl rfl rfl rfl
            · rw [show eB 644314171 4 = tx 39 by decide] at c77
              refine aw_bipush (v := nI 62) (aw_d q_Mo_tagText 38 rfl) (by decide) ?_
              refine aw_goto (tgt := 119) (aw_d q_Mo_tagText 39 rfl) (by decide) ?_
              refine aw_istore_n (aw_d q_Mo_tagText 55 rfl) rfl (aw_le rfl) rfl ?_
              refine aw_iload_n (aw_d q_Mo_tagText 56 rfl) rfl rfl ?_
              refine aw_ifN_ge (tgt := 132) (aw_d q_Mo_tagText 57 rfl) (by decide) (by (have hc2 := hc.2.1; omega)) (fun c121 => ?_) (fun c121 => by exfalso; (have hc2 := hc.2.1; omega))
              refine aw_aload_n (aw_d q_Mo_tagText 62 rfl) rfl rfl rfl ?_
              refine aw_iload_n (aw_d q_Mo_tagText 63 rfl) rfl rfl ?_
              refine aw_iload_n (aw_d q_Mo_tagText 64 rfl) rfl rfl ?_
              refine cV (aw_d q_Mo_tagText 65 rfl) (sp_add (L := L) (x := nI p) (c := (nI 62)) h20) vL_Mo_366_Mo rfl rfl rfl rfl rfl rfl ⟨aw_le rfl, aw_le rfl⟩ (fun r135 h135 hp135 => ?_)
              obtain ⟨rfl, hp135⟩ := hp135
              rcases hp135 with ⟨hl135, rfl⟩ | ⟨hl135, rfl⟩
              · skip -- full
                refine aw_aload_n (aw_d q_Mo_tagText 66 rfl) rfl rfl rfl ?_
                refine aw_aload_n (aw_d q_Mo_tagText 67 rfl) rfl rfl rfl ?_
                refine aw_getf (v := .int (nI (p))) (aw_d q_Mo_tagText 68 rfl) fL_Mo_324_Mo rfl (gk rfl) ?_
                refine aw_iload_n (aw_d q_Mo_tagText 69 rfl) rfl rfl ?_
                refine aw_bipush (v := nI 38) (aw_d q_Mo_tagText 70 rfl) (by decide) ?_
                refine aw_icmpN_eq (tgt := 155) (aw_d q_Mo_tagText 71 rfl) (by decide) (by (have hc2 := hc.2.1; omega)) (by (have hc2 := hc.2.1; omega)) (fun c146 => by exfalso; (have hc2 := hc.2.1; omega)) (fun c146 => ?_)
                refine aw_iload_n (aw_d q_Mo_tagText 72 rfl) rfl rfl ?_
                refine aw_bipush (v := nI 13) (aw_d q_Mo_tagText 73 rfl) (by decide) ?_
                refine aw_icmpN_ne (tgt := 159) (aw_d q_Mo_tagText 74 rfl) (by decide) (by (have hc2 := hc.2.1; omega)) (by (have hc2 := hc.2.1; omega)) (fun c152 => ?_) (fun c152 => by exfalso; (have hc2 := hc.2.1; omega))
                refine aw_iload_n (aw_d q_Mo_tagText 77 rfl) rfl rfl ?_
                refine aw_bipush (v := nI 34) (aw_d q_Mo_tagText 78 rfl) (by decide) ?_
                refine aw_icmpN_ne (tgt := 170) (aw_d q_Mo_tagText 79 rfl) (by decide) (by (have hc2 := hc.2.1; omega)) (by (have hc2 := hc.2.1; omega)) (fun c162 => ?_) (fun c162 => by exfalso; (have hc2 := hc.2.1; omega))
                refine aw_iconst (v := nI 4) (aw_d q_Mo_tagText 82 rfl) (by decide) ?_
                refine aw_iaddN (aw_d q_Mo_tagText 83 rfl) ?_
                refine wi_33_31 (aw_d q_Mo_tagText 84 rfl) pL_Mo_324_Mo ?_
                refine aw_goto (tgt := 231) (aw_d q_Mo_tagText 85 rfl) (by decide) ?_
                refine aw_goto (tgt := 5) (aw_d q_Mo_tagText 114 rfl) (by decide) ?_
                have hen : en T p = some (nI 62, 4) := by rw [en, if_neg c45, if_neg c61, if_pos c77]
                have hz : xt T 21 a [] = .error p := he.trans (by rw [xt, if_neg (by omega), if_pos (by omega)])
                refine aw_aload_n (aw_d q_Mo_tagText 3 rfl) rfl rfl rfl ?_
                refine cVr (aw_d q_Mo_tagText 4 rfl) (sp_goesI (u := p) (by omega)) vL_Mo_327_Mo rfl rfl rfl rfl rfl rfl ⟨aw_le rfl, aw_le rfl⟩ ?_
                refine aw_ifN_eq (tgt := 234) (aw_d q_Mo_tagText 5 rfl) (by decide) (by omega) (fun c9 => ?_) (fun c9 => by exfalso; omega)
                exact aw_vret (aw_d q_Mo_tagText 115 rfl) rfl (⟨rfl, by rw [hz]; exact ⟨hp, _, _, _, by omega, rfl⟩⟩)
              · skip -- add
                refine aw_aload_n (aw_d q_Mo_tagText 66 rfl) rfl rfl rfl ?_
                refine aw_aload_n (aw_d q_Mo_tagText 67 rfl) rfl rfl rfl ?_
                refine aw_getf (v := .int (nI (p))) (aw_d q_Mo_tagText 68 rfl) fL_Mo_324_Mo rfl (gk rfl) ?_
                refine aw_iload_n (aw_d q_Mo_tagText 69 rfl) rfl rfl ?_
                refine aw_bipush (v := nI 38) (aw_d q_Mo_tagText 70 rfl) (by decide) ?_
                refine aw_icmpN_eq (tgt := 155) (aw_d q_Mo_tagText 71 rfl) (by decide) (by (have hc2 := hc.2.1; omega)) (by (have hc2 := hc.2.1; omega)) (fun c146 => by exfalso; (have hc2 := hc.2.1; omega)) (fun c146 => ?_)
                refine aw_iload_n (aw_d q_Mo_tagText 72 rfl) rfl rfl ?_
                refine aw_bipush (v := nI 13) (aw_d q_Mo_tagText 73 rfl) (by decide) ?_
                refine aw_icmpN_ne (tgt := 159) (aw_d q_Mo_tagText 74 rfl) (by decide) (by (have hc2 := hc.2.1; omega)) (by (have hc2 := hc.2.1; omega)) (fun c152 => ?_) (fun c152 => by exfalso; (have hc2 := hc.2.1; omega))
                refine aw_iload_n (aw_d q_Mo_tagText 77 rfl) rfl rfl ?_
                refine aw_bipush (v := nI 34) (aw_d q_Mo_tagText 78 rfl) (by decide) ?_
                refine aw_icmpN_ne (tgt := 170) (aw_d q_Mo_tagText 79 rfl) (by decide) (by (have hc2 := hc.2.1; omega)) (by (have hc2 := hc.2.1; omega)) (fun c162 => ?_) (fun c162 => by exfalso; (have hc2 := hc.2.1; omega))
                refine aw_iconst (v := nI 4) (aw_d q_Mo_tagText 82 rfl) (by decide) ?_
                refine aw_iaddN (aw_d q_Mo_tagText 83 rfl) ?_
                refine wi_33_31 (aw_d q_Mo_tagText 84 rfl) pL_Mo_324_Mo ?_
                refine aw_goto (tgt := 231) (aw_d q_Mo_tagText 85 rfl) (by decide) ?_
                refine aw_goto (tgt := 5) (aw_d q_Mo_tagText 114 rfl) (by decide) ?_
                have hen : en T p = some (nI 62, 4) := by rw [en, if_neg c45, if_neg c61, if_pos c77]
                have hpn := mt_tx hc.2.2.2.1 hp (j := 39) (by decide) c77
                exact AW.to (ih (p + 4) (L ++ [nI 62]) _ _ _ (by rw [len_add]; omega) hpn (by rw [len_add]; omega) (all_add hal (by decide)) (he.trans (by rw [xt, if_neg (by omega), if_neg (by omega), if_pos (by omega), hen]))) rfl rfl rfl rfl
          · rw [show eB 644641851 4 = tx 38 by decide] at c61
            refine aw_bipush (v := nI 60) (aw_d q_Mo_tagText 31 rfl) (by decide) ?_
            refine aw_goto (tgt := 119) (aw_d q_Mo_tagText 32 rfl) (by decide) ?_
            refine aw_istore_n (aw_d q_Mo_tagText 55 rfl) rfl (aw_le rfl) rfl ?_
            refine aw_iload_n (aw_d q_Mo_tagText 56 rfl) rfl rfl ?_
            refine aw_ifN_ge (tgt := 132) (aw_d q_Mo_tagText 57 rfl) (by decide) (by (have hc2 := hc.2.1; omega)) (fun c121 => ?_) (fun c121 => by exfalso; (have hc2 := hc.2.1; omega))
            refine aw_aload_n (aw_d q_Mo_tagText 62 rfl) rfl rfl rfl ?_
            refine aw_iload_n (aw_d q_Mo_tagText 63 rfl) rfl rfl ?_
            refine aw_iload_n (aw_d q_Mo_tagText 64 rfl) rfl rfl ?_
            refine cV (aw_d q_Mo_tagText 65 rfl) (sp_add (L := L) (x := nI p) (c := (nI 60)) h20) vL_Mo_366_Mo rfl rfl rfl rfl rfl rfl ⟨aw_le rfl, aw_le rfl⟩ (fun r135 h135 hp135 => ?_)
            obtain ⟨rfl, hp135⟩ := hp135
            rcases hp135 with ⟨hl135, rfl⟩ | ⟨hl135, rfl⟩
            · skip -- full
              refine aw_aload_n (aw_d q_Mo_tagText 66 rfl) rfl rfl rfl ?_
              refine aw_aload_n (aw_d q_Mo_tagText 67 rfl) rfl rfl rfl ?_
              refine aw_getf (v := .int (nI (p))) (aw_d q_Mo_tagText 68 rfl) fL_Mo_324_Mo rfl (gk rfl) ?_
              refine aw_iload_n (aw_d q_Mo_tagText 69 rfl) rfl rfl ?_
              refine aw_bipush (v := nI 38) (aw_d q_Mo_tagText 70 rfl) (by decide) ?_
              refine aw_icmpN_eq (tgt := 155) (aw_d q_Mo_tagText 71 rfl) (by decide) (by (have hc2 := hc.2.1; omega)) (by (have hc2 := hc.2.1; omega)) (fun c146 => by exfalso; (have hc2 := hc.2.1; omega)) (fun c146 => ?_)
              refine aw_iload_n (aw_d q_Mo_tagText 72 rfl) rfl rfl ?_
              refine aw_bipush (v := nI 13) (aw_d q_Mo_tagText 73 rfl) (by decide) ?_
              refine aw_icmpN_ne (tgt := 159) (aw_d q_Mo_tagText 74 rfl) (by decide) (by (have hc2 := hc.2.1; omega)) (by (have hc2 := hc.2.1; omega)) (fun c152 => ?_) (fun c152 => by exfalso; (have hc2 := hc.2.1; omega))
              refine aw_iload_n (aw_d q_Mo_tagText 77 rfl) rfl rfl ?_
              refine aw_bipush (v := nI 34) (aw_d q_Mo_tagText 78 rfl) (by decide) ?_
              refine aw_icmpN_ne (tgt := 170) (aw_d q_Mo_tagText 79 rfl) (by decide) (by (have hc2 := hc.2.1; omega)) (by (have hc2 := hc.2.1; omega)) (fun c162 => ?_) (fun c162 => by exfalso; (have hc2 := hc.2.1; omega))
              refine aw_iconst (v := nI 4) (aw_d q_Mo_tagText 82 rfl) (by decide) ?_
              refine aw_iaddN (aw_d q_Mo_tagText 83 rfl) ?_
              refine wi_33_31 (aw_d q_Mo_tagText 84 rfl) pL_Mo_324_Mo ?_
              refine aw_goto (tgt := 231) (aw_d q_Mo_tagText 85 rfl) (by decide) ?_
              refine aw_goto (tgt := 5) (aw_d q_Mo_tagText 114 rfl) (by decide) ?_
              have hen : en T p = some (nI 60, 4) := by rw [en, if_neg c45, if_pos c61]
              have hz : xt T 21 a [] = .error p := he.trans (by rw [xt, if_neg (by omega), if_pos (by omega)])
              refine aw_aload_n (aw_d q_Mo_tagText 3 rfl) rfl rfl rfl ?_
              refine cVr (aw_d q_Mo_tagText 4 rfl) (sp_goesI (u := p) (by omega)) vL_Mo_327_Mo rfl rfl rfl rfl rfl rfl ⟨aw_le rfl, aw_le rfl⟩ ?_
              refine aw_ifN_eq (tgt := 234) (aw_d q_Mo_tagText 5 rfl) (by decide) (by omega) (fun c9 => ?_) (fun c9 => by exfalso; omega)
              exact aw_vret (aw_d q_Mo_tagText 115 rfl) rfl (⟨rfl, by rw [hz]; exact ⟨hp, _, _, _, by omega, rfl⟩⟩)
            · skip -- add
              refine aw_aload_n (aw_d q_Mo_tagText 66 rfl) rfl rfl rfl ?_
              refine aw_aload_n (aw_d q_Mo_tagText 67 rfl) rfl rfl rfl ?_
              refine aw_getf (v := .int (nI (p))) (aw_d q_Mo_tagText 68 rfl) fL_Mo_324_Mo rfl (gk rfl) ?_
              refine aw_iload_n (aw_d q_Mo_tagText 69 rfl) rfl rfl ?_
              refine aw_bipush (v := nI 38) (aw_d q_Mo_tagText 70 rfl) (by decide) ?_
              refine aw_icmpN_eq (tgt := 155) (aw_d q_Mo_tagText 71 rfl) (by decide) (by (have hc2 := hc.2.1; omega)) (by (have hc2 := hc.2.1; omega)) (fun c146 => by exfalso; (have hc2 := hc.2.1; omega)) (fun c146 => ?_)
              refine aw_iload_n (aw_d q_Mo_tagText 72 rfl) rfl rfl ?_
              refine aw_bipush (v := nI 13) (aw_d q_Mo_tagText 73 rfl) (by decide) ?_
              refine aw_icmpN_ne (tgt := 159) (aw_d q_Mo_tagText 74 rfl) (by decide) (by (have hc2 := hc.2.1; omega)) (by (have hc2 := hc.2.1; omega)) (fun c152 => ?_) (fun c152 => by exfalso; (have hc2 := hc.2.1; omega))
              refine aw_iload_n (aw_d q_Mo_tagText 77 rfl) rfl rfl ?_
              refine aw_bipush (v := nI 34) (aw_d q_Mo_tagText 78 rfl) (by decide) ?_
              refine aw_icmpN_ne (tgt := 170) (aw_d q_Mo_tagText 79 rfl) (by decide) (by (have hc2 := hc.2.1; omega)) (by (have hc2 := hc.2.1; omega)) (fun c162 => ?_) (fun c162 => by exfalso; (have hc2 := hc.2.1; omega))
              refine aw_iconst (v := nI 4) (aw_d q_Mo_tagText 82 rfl) (by decide) ?_
              refine aw_iaddN (aw_d q_Mo_tagText 83 rfl) ?_
              refine wi_33_31 (aw_d q_Mo_tagText 84 rfl) pL_Mo_324_Mo ?_
              refine aw_goto (tgt := 231) (aw_d q_Mo_tagText 85 rfl) (by decide) ?_
              refine aw_goto (tgt := 5) (aw_d q_Mo_tagText 114 rfl) (by decide) ?_
              have hen : en T p = some (nI 60, 4) := by rw [en, if_neg c45, if_pos c61]
              have hpn := mt_tx hc.2.2.2.1 hp (j := 38) (by decide) c61
              exact AW.to (ih (p + 4) (L ++ [nI 60]) _ _ _ (by rw [len_add]; omega) hpn (by rw [len_add]; omega) (all_add hal (by decide)) (he.trans (by rw [xt, if_neg (by omega), if_neg (by omega), if_pos (by omega), hen]))) rfl rfl rfl rfl
        · rw [show eB 164843319355 5 = tx 37 by decide] at c45
          refine aw_bipush (v := nI 38) (aw_d q_Mo_tagText 24 rfl) (by decide) ?_
          refine aw_goto (tgt := 119) (aw_d q_Mo_tagText 25 rfl) (by decide) ?_
          refine aw_istore_n (aw_d q_Mo_tagText 55 rfl) rfl (aw_le rfl) rfl ?_
          refine aw_iload_n (aw_d q_Mo_tagText 56 rfl) rfl rfl ?_
          refine aw_ifN_ge (tgt := 132) (aw_d q_Mo_tagText 57 rfl) (by decide) (by (have hc2 := hc.2.1; omega)) (fun c121 => ?_) (fun c121 => by exfalso; (have hc2 := hc.2.1; omega))
          refine aw_aload_n (aw_d q_Mo_tagText 62 rfl) rfl rfl rfl ?_
          refine aw_iload_n (aw_d q_Mo_tagText 63 rfl) rfl rfl ?_
          refine aw_iload_n (aw_d q_Mo_tagText 64 rfl) rfl rfl ?_
          refine cV (aw_d q_Mo_tagText 65 rfl) (sp_add (L := L) (x := nI p) (c := (nI 38)) h20) vL_Mo_366_Mo rfl rfl rfl rfl rfl rfl ⟨aw_le rfl, aw_le rfl⟩ (fun r135 h135 hp135 => ?_)
          obtain ⟨rfl, hp135⟩ := hp135
          rcases hp135 with ⟨hl135, rfl⟩ | ⟨hl135, rfl⟩
          · skip -- full
            refine aw_aload_n (aw_d q_Mo_tagText 66 rfl) rfl rfl rfl ?_
            refine aw_aload_n (aw_d q_Mo_tagText 67 rfl) rfl rfl rfl ?_
            refine aw_getf (v := .int (nI (p))) (aw_d q_Mo_tagText 68 rfl) fL_Mo_324_Mo rfl (gk rfl) ?_
            refine aw_iload_n (aw_d q_Mo_tagText 69 rfl) rfl rfl ?_
            refine aw_bipush (v := nI 38) (aw_d q_Mo_tagText 70 rfl) (by decide) ?_
            refine aw_icmpN_eq (tgt := 155) (aw_d q_Mo_tagText 71 rfl) (by decide) (by (have hc2 := hc.2.1; omega)) (by (have hc2 := hc.2.1; omega)) (fun c146 => ?_) (fun c146 => by exfalso; (have hc2 := hc.2.1; omega))
            refine aw_iconst (v := nI 5) (aw_d q_Mo_tagText 75 rfl) (by decide) ?_
            refine aw_goto (tgt := 171) (aw_d q_Mo_tagText 76 rfl) (by decide) ?_
            refine aw_iaddN (aw_d q_Mo_tagText 83 rfl) ?_
            refine wi_33_31 (aw_d q_Mo_tagText 84 rfl) pL_Mo_324_Mo ?_
            refine aw_goto (tgt := 231) (aw_d q_Mo_tagText 85 rfl) (by decide) ?_
            refine aw_goto (tgt := 5) (aw_d q_Mo_tagText 114 rfl) (by decide) ?_
            have hen : en T p = some (nI 38, 5) := by rw [en, if_pos c45]
            have hz : xt T 21 a [] = .error p := he.trans (by rw [xt, if_neg (by omega), if_pos (by omega)])
            refine aw_aload_n (aw_d q_Mo_tagText 3 rfl) rfl rfl rfl ?_
            refine cVr (aw_d q_Mo_tagText 4 rfl) (sp_goesI (u := p) (by omega)) vL_Mo_327_Mo rfl rfl rfl rfl rfl rfl ⟨aw_le rfl, aw_le rfl⟩ ?_
            refine aw_ifN_eq (tgt := 234) (aw_d q_Mo_tagText 5 rfl) (by decide) (by omega) (fun c9 => ?_) (fun c9 => by exfalso; omega)
            exact aw_vret (aw_d q_Mo_tagText 115 rfl) rfl (⟨rfl, by rw [hz]; exact ⟨hp, _, _, _, by omega, rfl⟩⟩)
          · skip -- add
            refine aw_aload_n (aw_d q_Mo_tagText 66 rfl) rfl rfl rfl ?_
            refine aw_aload_n (aw_d q_Mo_tagText 67 rfl) rfl rfl rfl ?_
            refine aw_getf (v := .int (nI (p))) (aw_d q_Mo_tagText 68 rfl) fL_Mo_324_Mo rfl (gk rfl) ?_
            refine aw_iload_n (aw_d q_Mo_tagText 69 rfl) rfl rfl ?_
            refine aw_bipush (v := nI 38) (aw_d q_Mo_tagText 70 rfl) (by decide) ?_
            refine aw_icmpN_eq (tgt := 155) (aw_d q_Mo_tagText 71 rfl) (by decide) (by (have hc2 := hc.2.1; omega)) (by (have hc2 := hc.2.1; omega)) (fun c146 => ?_) (fun c146 => by exfalso; (have hc2 := hc.2.1; omega))
            refine aw_iconst (v := nI 5) (aw_d q_Mo_tagText 75 rfl) (by decide) ?_
            refine aw_goto (tgt := 171) (aw_d q_Mo_tagText 76 rfl) (by decide) ?_
            refine aw_iaddN (aw_d q_Mo_tagText 83 rfl) ?_
            refine wi_33_31 (aw_d q_Mo_tagText 84 rfl) pL_Mo_324_Mo ?_
            refine aw_goto (tgt := 231) (aw_d q_Mo_tagText 85 rfl) (by decide) ?_
            refine aw_goto (tgt := 5) (aw_d q_Mo_tagText 114 rfl) (by decide) ?_
            have hen : en T p = some (nI 38, 5) := by rw [en, if_pos c45]
            have hpn := mt_tx hc.2.2.2.1 hp (j := 37) (by decide) c45
            exact AW.to (ih (p + 5) (L ++ [nI 38]) _ _ _ (by rw [len_add]; omega) hpn (by rw [len_add]; omega) (all_add hal (by decide)) (he.trans (by rw [xt, if_neg (by omega), if_neg (by omega), if_pos (by omega), hen]))) rfl rfl rfl rfl
set_option maxRecDepth 20000 in
theorem sp_tagTA {g : aw_G} {S : aw_S} {n : Nat} {T : Nat → Int32} {p : Nat} {f z : Int32} {X : Nat → Int32} (hc : TPm S n T) (hp : p ≤ n)  : Sp g M_Mo_tagText 2 43 0 0 [.ref 33] (HP (QM S (nI p) (-1) f z X)) (fun r h => r = none ∧ match xt T 21 p [] with
  | .ok y => txOK n y ∧ (T y.1).toInt = 60 ∧ h = HP (QM S (nI y.1) (-1) f (nI y.2.length) (XA y.2 X))
  | .error u => u ≤ n ∧ ∃ (b : Nat) (z : Int32) (X : Nat → Int32), b ≤ 3010 ∧ h = HP (QM S (nI b) (nI u) f z X)) := by
  refine Sp.of rfl (aw_le rfl) ?_
  refine aw_aload_n (aw_d q_Mo_tagText 0 rfl) rfl rfl rfl ?_
  refine aw_iconst (v := nI 0) (aw_d q_Mo_tagText 1 rfl) (by decide) ?_
  refine wi_33_34 (aw_d q_Mo_tagText 2 rfl) pL_Mo_93_Mo ?_
  exact AW.to (lp_tagT hc (a := p) 21 p [] _ _ _ rfl hp (by decide) rfl rfl) rfl rfl rfl (by rw [XA_nil]; rfl)
set_option maxRecDepth 20000 in
theorem sp_tagTI {g : aw_G} {S : aw_S} {u b : Nat} {f z : Int32} {X : Nat → Int32} (hu : u ≤ 3000) (hb : b ≤ 3010)  : Sp g M_Mo_tagText 2 43 0 0 [.ref 33] (HP (QM S (nI b) (nI u) f z X)) (fun r h => r = none ∧ h = HP (QM S (nI b) (nI u) f (nI 0) X)) := by
  refine Sp.of rfl (aw_le rfl) ?_
  refine aw_aload_n (aw_d q_Mo_tagText 0 rfl) rfl rfl rfl ?_
  refine aw_iconst (v := nI 0) (aw_d q_Mo_tagText 1 rfl) (by decide) ?_
  refine wi_33_34 (aw_d q_Mo_tagText 2 rfl) pL_Mo_93_Mo ?_
  refine aw_aload_n (aw_d q_Mo_tagText 3 rfl) rfl rfl rfl ?_
  refine cVr (aw_d q_Mo_tagText 4 rfl) (sp_goesI hu) vL_Mo_327_Mo rfl rfl rfl rfl rfl rfl ⟨aw_le rfl, aw_le rfl⟩ ?_
  refine aw_ifN_eq (tgt := 234) (aw_d q_Mo_tagText 5 rfl) (by decide) (by omega) (fun c9 => ?_) (fun c9 => by exfalso; omega)
  exact aw_vret (aw_d q_Mo_tagText 115 rfl) rfl (⟨rfl, rfl⟩)
set_option maxRecDepth 20000 in
theorem lp_ctext {g : aw_G} {S : aw_S} {n : Nat} {T : Nat → Int32} {f : Int32} {X : Nat → Int32} (hc : TPm S n T) {a : Nat}  : ∀ (m p : Nat) (L : List Int32) (x2 : Option Value), m + L.length = 21 → p ≤ n → L.length ≤ 20 → L.all pTx = true → cq T 21 a [] = cq T m p L → AW g M_Mo_commaText (aw_rm 2 43 0 0) (aw_F g 0 0 (fun r h => r = none ∧ match cq T 21 a [] with
  | .ok y => txOK n y ∧ h = HP (QM S (nI y.1) (-1) f (nI y.2.length) (XA y.2 X))
  | .error u => u ≤ n ∧ ∃ (b : Nat) (z : Int32) (X : Nat → Int32), b ≤ 3010 ∧ h = HP (QM S (nI b) (nI u) f z X))) 2 [some (.ref 33), some (.int (nI 1)), x2] [] (HP (QM S (nI p) (-1) f (nI (L).length) (XA (L) X))) 0 0 := by
  have hc2 := hc.2.1
  intro m
  induction m with
  | zero => intro p L x2 hk hp h20 hal he; exfalso; omega
  | succ m ih =>
    intro p L x2 hk hp h20 hal he
    refine aw_iload_n (aw_d q_Mo_commaText 2 rfl) rfl rfl ?_
    refine aw_ifN_eq (tgt := 98) (aw_d q_Mo_commaText 3 rfl) (by decide) (by (have hc2 := hc.2.1; omega)) (fun c3 => by exfalso; (have hc2 := hc.2.1; omega)) (fun c3 => ?_)
    refine aw_aload_n (aw_d q_Mo_commaText 4 rfl) rfl rfl rfl ?_
    refine cVr (aw_d q_Mo_commaText 5 rfl) (sp_goesA) vL_Mo_327_Mo rfl rfl rfl rfl rfl rfl ⟨aw_le rfl, aw_le rfl⟩ ?_
    refine aw_ifN_eq (tgt := 98) (aw_d q_Mo_commaText 6 rfl) (by decide) (by (have hc2 := hc.2.1; omega)) (fun c10 => by exfalso; (have hc2 := hc.2.1; omega)) (fun c10 => ?_)
    refine aw_aload_n (aw_d q_Mo_commaText 7 rfl) rfl rfl rfl ?_
    refine cVr (aw_d q_Mo_commaText 8 rfl) (sp_peek hc (b := p) (by omega)) vL_Mo_331_Mo rfl rfl rfl rfl rfl rfl ⟨aw_le rfl, aw_le rfl⟩ ?_
    refine aw_istore_n (aw_d q_Mo_commaText 9 rfl) rfl (aw_le rfl) rfl ?_
    refine aw_iload_n (aw_d q_Mo_commaText 10 rfl) rfl rfl ?_
    refine aw_bipush (v := nI 34) (aw_d q_Mo_commaText 11 rfl) (by decide) ?_
    refine aw_icmpI_ne (tgt := 48) (aw_d q_Mo_commaText 12 rfl) (by decide) (by (have hc2 := hc.2.1; omega)) (fun c21 => ?_) (fun c21 => ?_)
    · refine aw_iload_n (aw_d q_Mo_commaText 26 rfl) rfl rfl ?_
      refine cSr (aw_d q_Mo_commaText 27 rfl) (sp_Mo_isText) sL_Mo_106 rfl rfl rfl rfl ⟨aw_le rfl, aw_le rfl⟩ ?_
      refine aw_ifB_eq (tgt := 87) (aw_d q_Mo_commaText 28 rfl) (by decide) (fun c52 => ?_) (fun c52 => ?_)
      · refine aw_aload_n (aw_d q_Mo_commaText 46 rfl) rfl rfl rfl ?_
        refine aw_aload_n (aw_d q_Mo_commaText 47 rfl) rfl rfl rfl ?_
        refine aw_getf (v := .int (nI (p))) (aw_d q_Mo_commaText 48 rfl) fL_Mo_324_Mo rfl (gk rfl) ?_
        refine cVv (aw_d q_Mo_commaText 49 rfl) (sp_mfailA) vL_Mo_334_Mo rfl rfl rfl rfl rfl rfl ⟨aw_le rfl, aw_le rfl⟩ ?_
        refine aw_goto (tgt := 2) (aw_d q_Mo_commaText 50 rfl) (by decide) ?_
        have hz : cq T 21 a [] = .error p := he.trans (by rw [cq, if_neg (by first | omega | (intro q; have q1 : pTx (T p) = true := decide_eq_true (by omega); exact c52 q1)), if_pos (Or.inr (by simpa using c52))])
        refine aw_iload_n (aw_d q_Mo_commaText 2 rfl) rfl rfl ?_
        refine aw_ifN_eq (tgt := 98) (aw_d q_Mo_commaText 3 rfl) (by decide) (by omega) (fun c3 => by exfalso; omega) (fun c3 => ?_)
        refine aw_aload_n (aw_d q_Mo_commaText 4 rfl) rfl rfl rfl ?_
        refine cVr (aw_d q_Mo_commaText 5 rfl) (sp_goesI (u := p) (by omega)) vL_Mo_327_Mo rfl rfl rfl rfl rfl rfl ⟨aw_le rfl, aw_le rfl⟩ ?_
        refine aw_ifN_eq (tgt := 98) (aw_d q_Mo_commaText 6 rfl) (by decide) (by omega) (fun c10 => ?_) (fun c10 => by exfalso; omega)
        exact aw_vret (aw_d q_Mo_commaText 51 rfl) rfl (⟨rfl, by rw [hz]; exact ⟨hp, _, _, _, by omega, rfl⟩⟩)
      · refine aw_aload_n (aw_d q_Mo_commaText 29 rfl) rfl rfl rfl ?_
        refine aw_iload_n (aw_d q_Mo_commaText 30 rfl) rfl rfl ?_
        refine aw_aload_n (aw_d q_Mo_commaText 31 rfl) rfl rfl rfl ?_
        refine aw_getf (v := .int (nI (p))) (aw_d q_Mo_commaText 32 rfl) fL_Mo_324_Mo rfl (gk rfl) ?_
        refine cV (aw_d q_Mo_commaText 33 rfl) (sp_add (L := L) (x := nI p) (c := (T p)) h20) vL_Mo_366_Mo rfl rfl rfl rfl rfl rfl ⟨aw_le rfl, aw_le rfl⟩ (fun r61 h61 hp61 => ?_)
        obtain ⟨rfl, hp61⟩ := hp61
        rcases hp61 with ⟨hl61, rfl⟩ | ⟨hl61, rfl⟩
        · skip -- full
          refine aw_aload_n (aw_d q_Mo_commaText 34 rfl) rfl rfl rfl ?_
          refine aw_dup (aw_d q_Mo_commaText 35 rfl) rfl ?_
          refine aw_getf (v := .int (nI (p))) (aw_d q_Mo_commaText 36 rfl) fL_Mo_324_Mo rfl (gk rfl) ?_
          refine aw_iload_n (aw_d q_Mo_commaText 37 rfl) rfl rfl ?_
          refine aw_bipush (v := nI 34) (aw_d q_Mo_commaText 38 rfl) (by decide) ?_
          refine aw_icmpI_ne (tgt := 79) (aw_d q_Mo_commaText 39 rfl) (by decide) (by (have hc2 := hc.2.1; omega)) (fun c72 => ?_) (fun c72 => ?_)
          · refine aw_iconst (v := nI 1) (aw_d q_Mo_commaText 42 rfl) (by decide) ?_
            refine aw_iaddN (aw_d q_Mo_commaText 43 rfl) ?_
            refine wi_33_31 (aw_d q_Mo_commaText 44 rfl) pL_Mo_324_Mo ?_
            refine aw_goto (tgt := 95) (aw_d q_Mo_commaText 45 rfl) (by decide) ?_
            refine aw_goto (tgt := 2) (aw_d q_Mo_commaText 50 rfl) (by decide) ?_
            have hz : cq T 21 a [] = .error p := he.trans (by rw [cq, if_neg (by omega), if_pos (by omega)])
            refine aw_iload_n (aw_d q_Mo_commaText 2 rfl) rfl rfl ?_
            refine aw_ifN_eq (tgt := 98) (aw_d q_Mo_commaText 3 rfl) (by decide) (by omega) (fun c3 => by exfalso; omega) (fun c3 => ?_)
            refine aw_aload_n (aw_d q_Mo_commaText 4 rfl) rfl rfl rfl ?_
            refine cVr (aw_d q_Mo_commaText 5 rfl) (sp_goesI (u := p) (by omega)) vL_Mo_327_Mo rfl rfl rfl rfl rfl rfl ⟨aw_le rfl, aw_le rfl⟩ ?_
            refine aw_ifN_eq (tgt := 98) (aw_d q_Mo_commaText 6 rfl) (by decide) (by omega) (fun c10 => ?_) (fun c10 => by exfalso; omega)
            exact aw_vret (aw_d q_Mo_commaText 51 rfl) rfl (⟨rfl, by rw [hz]; exact ⟨hp, _, _, _, by omega, rfl⟩⟩)
          · refine aw_iconst (v := nI 2) (aw_d q_Mo_commaText 40 rfl) (by decide) ?_
            refine aw_goto (tgt := 80) (aw_d q_Mo_commaText 41 rfl) (by decide) ?_
            refine aw_iaddN (aw_d q_Mo_commaText 43 rfl) ?_
            refine wi_33_31 (aw_d q_Mo_commaText 44 rfl) pL_Mo_324_Mo ?_
            refine aw_goto (tgt := 95) (aw_d q_Mo_commaText 45 rfl) (by decide) ?_
            refine aw_goto (tgt := 2) (aw_d q_Mo_commaText 50 rfl) (by decide) ?_
            have hz : cq T 21 a [] = .error p := he.trans (by rw [cq, if_neg (by omega), if_pos (by omega)])
            refine aw_iload_n (aw_d q_Mo_commaText 2 rfl) rfl rfl ?_
            refine aw_ifN_eq (tgt := 98) (aw_d q_Mo_commaText 3 rfl) (by decide) (by omega) (fun c3 => by exfalso; omega) (fun c3 => ?_)
            refine aw_aload_n (aw_d q_Mo_commaText 4 rfl) rfl rfl rfl ?_
            refine cVr (aw_d q_Mo_commaText 5 rfl) (sp_goesI (u := p) (by omega)) vL_Mo_327_Mo rfl rfl rfl rfl rfl rfl ⟨aw_le rfl, aw_le rfl⟩ ?_
            refine aw_ifN_eq (tgt := 98) (aw_d q_Mo_commaText 6 rfl) (by decide) (by omega) (fun c10 => ?_) (fun c10 => by exfalso; omega)
            exact aw_vret (aw_d q_Mo_commaText 51 rfl) rfl (⟨rfl, by rw [hz]; exact ⟨hp, _, _, _, by omega, rfl⟩⟩)
        · skip -- add
          refine aw_aload_n (aw_d q_Mo_commaText 34 rfl) rfl rfl rfl ?_
          refine aw_dup (aw_d q_Mo_commaText 35 rfl) rfl ?_
          refine aw_getf (v := .int (nI (p))) (aw_d q_Mo_commaText 36 rfl) fL_Mo_324_Mo rfl (gk rfl) ?_
          refine aw_iload_n (aw_d q_Mo_commaText 37 rfl) rfl rfl ?_
          refine aw_bipush (v := nI 34) (aw_d q_Mo_commaText 38 rfl) (by decide) ?_
          refine aw_icmpI_ne (tgt := 79) (aw_d q_Mo_commaText 39 rfl) (by decide) (by (have hc2 := hc.2.1; omega)) (fun c72 => ?_) (fun c72 => ?_)
          · refine aw_iconst (v := nI 1) (aw_d q_Mo_commaText 42 rfl) (by decide) ?_
            refine aw_iaddN (aw_d q_Mo_commaText 43 rfl) ?_
            refine wi_33_31 (aw_d q_Mo_commaText 44 rfl) pL_Mo_324_Mo ?_
            refine aw_goto (tgt := 95) (aw_d q_Mo_commaText 45 rfl) (by decide) ?_
            refine aw_goto (tgt := 2) (aw_d q_Mo_commaText 50 rfl) (by decide) ?_
            have hpn := T_lt hc.2.2.2.1 (p := p) (pTx_0 c52)
            exact AW.to (ih (p + 1) (L ++ [T p]) _ (by rw [len_add]; omega) (by omega) (by rw [len_add]; omega) (all_add hal c52) (he.trans (by rw [cq, if_neg (by omega), if_neg (fun q => q.elim (by omega) (fun q => by rw [c52] at q; cases q)), if_neg (by omega)]))) rfl rfl rfl rfl
          · refine aw_iconst (v := nI 2) (aw_d q_Mo_commaText 40 rfl) (by decide) ?_
            refine aw_goto (tgt := 80) (aw_d q_Mo_commaText 41 rfl) (by decide) ?_
            refine aw_iaddN (aw_d q_Mo_commaText 43 rfl) ?_
            refine wi_33_31 (aw_d q_Mo_commaText 44 rfl) pL_Mo_324_Mo ?_
            refine aw_goto (tgt := 95) (aw_d q_Mo_commaText 45 rfl) (by decide) ?_
            refine aw_goto (tgt := 2) (aw_d q_Mo_commaText 50 rfl) (by decide) ?_
            have hpn := T_lt hc.2.2.2.1 (p := p + 1) (by omega)
            exact AW.to (ih (p + 2) (L ++ [T p]) _ (by rw [len_add]; omega) (by omega) (by rw [len_add]; omega) (all_add hal c52) (he.trans (by rw [cq, if_neg (by omega), if_neg (fun q => q.elim (by omega) (fun q => by rw [c52] at q; cases q)), if_pos (by omega)]))) rfl rfl rfl rfl
    · refine aw_aload_n (aw_d q_Mo_commaText 13 rfl) rfl rfl rfl ?_
      refine cVr (aw_d q_Mo_commaText 14 rfl) (sp_peekN hc (b := p) (by omega)) vL_Mo_363_Mo rfl rfl rfl rfl rfl rfl ⟨aw_le rfl, aw_le rfl⟩ ?_
      refine aw_bipush (v := nI 34) (aw_d q_Mo_commaText 15 rfl) (by decide) ?_
      refine aw_icmpI_eq (tgt := 48) (aw_d q_Mo_commaText 16 rfl) (by decide) (by (have hc2 := hc.2.1; omega)) (fun c30 => ?_) (fun c30 => ?_)
      · refine aw_iload_n (aw_d q_Mo_commaText 26 rfl) rfl rfl ?_
        refine cSr (aw_d q_Mo_commaText 27 rfl) (sp_Mo_isText) sL_Mo_106 rfl rfl rfl rfl ⟨aw_le rfl, aw_le rfl⟩ ?_
        refine aw_ifB_eq (tgt := 87) (aw_d q_Mo_commaText 28 rfl) (by decide) (fun c52 => ?_) (fun c52 => ?_)
        · refine aw_aload_n (aw_d q_Mo_commaText 46 rfl) rfl rfl rfl ?_
          refine aw_aload_n (aw_d q_Mo_commaText 47 rfl) rfl rfl rfl ?_
          refine aw_getf (v := .int (nI (p))) (aw_d q_Mo_commaText 48 rfl) fL_Mo_324_Mo rfl (gk rfl) ?_
          refine cVv (aw_d q_Mo_commaText 49 rfl) (sp_mfailA) vL_Mo_334_Mo rfl rfl rfl rfl rfl rfl ⟨aw_le rfl, aw_le rfl⟩ ?_
          refine aw_goto (tgt := 2) (aw_d q_Mo_commaText 50 rfl) (by decide) ?_
          have hz : cq T 21 a [] = .error p := he.trans (by rw [cq, if_neg (by first | omega | (intro q; have q1 : pTx (T p) = true := decide_eq_true (by omega); exact c52 q1)), if_pos (Or.inr (by simpa using c52))])
          refine aw_iload_n (aw_d q_Mo_commaText 2 rfl) rfl rfl ?_
          refine aw_ifN_eq (tgt := 98) (aw_d q_Mo_commaText 3 rfl) (by decide) (by omega) (fun c3 => by exfalso; omega) (fun c3 => ?_)
          refine aw_aload_n (aw_d q_Mo_commaText 4 rfl) rfl rfl rfl ?_
          refine cVr (aw_d q_Mo_commaText 5 rfl) (sp_goesI (u := p) (by omega)) vL_Mo_327_Mo rfl rfl rfl rfl rfl rfl ⟨aw_le rfl, aw_le rfl⟩ ?_
          refine aw_ifN_eq (tgt := 98) (aw_d q_Mo_commaText 6 rfl) (by decide) (by omega) (fun c10 => ?_) (fun c10 => by exfalso; omega)
          exact aw_vret (aw_d q_Mo_commaText 51 rfl) rfl (⟨rfl, by rw [hz]; exact ⟨hp, _, _, _, by omega, rfl⟩⟩)
        · refine aw_aload_n (aw_d q_Mo_commaText 29 rfl) rfl rfl rfl ?_
          refine aw_iload_n (aw_d q_Mo_commaText 30 rfl) rfl rfl ?_
          refine aw_aload_n (aw_d q_Mo_commaText 31 rfl) rfl rfl rfl ?_
          refine aw_getf (v := .int (nI (p))) (aw_d q_Mo_commaText 32 rfl) fL_Mo_324_Mo rfl (gk rfl) ?_
          refine cV (aw_d q_Mo_commaText 33 rfl) (sp_add (L := L) (x := nI p) (c := (T p)) h20) vL_Mo_366_Mo rfl rfl rfl rfl rfl rfl ⟨aw_le rfl, aw_le rfl⟩ (fun r61 h61 hp61 => ?_)
          obtain ⟨rfl, hp61⟩ := hp61
          rcases hp61 with ⟨hl61, rfl⟩ | ⟨hl61, rfl⟩
          · skip -- full
            refine aw_aload_n (aw_d q_Mo_commaText 34 rfl) rfl rfl rfl ?_
            refine aw_dup (aw_d q_Mo_commaText 35 rfl) rfl ?_
            refine aw_getf (v := .int (nI (p))) (aw_d q_Mo_commaText 36 rfl) fL_Mo_324_Mo rfl (gk rfl) ?_
            refine aw_iload_n (aw_d q_Mo_commaText 37 rfl) rfl rfl ?_
            refine aw_bipush (v := nI 34) (aw_d q_Mo_commaText 38 rfl) (by decide) ?_
            refine aw_icmpI_ne (tgt := 79) (aw_d q_Mo_commaText 39 rfl) (by decide) (by (have hc2 := hc.2.1; omega)) (fun c72 => ?_) (fun c72 => ?_)
            · refine aw_iconst (v := nI 1) (aw_d q_Mo_commaText 42 rfl) (by decide) ?_
              refine aw_iaddN (aw_d q_Mo_commaText 43 rfl) ?_
              refine wi_33_31 (aw_d q_Mo_commaText 44 rfl) pL_Mo_324_Mo ?_
              refine aw_goto (tgt := 95) (aw_d q_Mo_commaText 45 rfl) (by decide) ?_
              refine aw_goto (tgt := 2) (aw_d q_Mo_commaText 50 rfl) (by decide) ?_
              have hz : cq T 21 a [] = .error p := he.trans (by rw [cq, if_neg (by omega), if_pos (by omega)])
              refine aw_iload_n (aw_d q_Mo_commaText 2 rfl) rfl rfl ?_
              refine aw_ifN_eq (tgt := 98) (aw_d q_Mo_commaText 3 rfl) (by decide) (by omega) (fun c3 => by exfalso; omega) (fun c3 => ?_)
              refine aw_aload_n (aw_d q_Mo_commaText 4 rfl) rfl rfl rfl ?_
              refine cVr (aw_d q_Mo_commaText 5 rfl) (sp_goesI (u := p) (by omega)) vL_Mo_327_Mo rfl rfl rfl rfl rfl rfl ⟨aw_le rfl, aw_le rfl⟩ ?_
              refine aw_ifN_eq (tgt := 98) (aw_d q_Mo_commaText 6 rfl) (by decide) (by omega) (fun c10 => ?_) (fun c10 => by exfalso; omega)
              exact aw_vret (aw_d q_Mo_commaText 51 rfl) rfl (⟨rfl, by rw [hz]; exact ⟨hp, _, _, _, by omega, rfl⟩⟩)
            · refine aw_iconst (v := nI 2) (aw_d q_Mo_commaText 40 rfl) (by decide) ?_
              refine aw_goto (tgt := 80) (aw_d q_Mo_commaText 41 rfl) (by decide) ?_
              refine aw_iaddN (aw_d q_Mo_commaText 43 rfl) ?_
              refine wi_33_31 (aw_d q_Mo_commaText 44 rfl) pL_Mo_324_Mo ?_
              refine aw_goto (tgt := 95) (aw_d q_Mo_commaText 45 rfl) (by decide) ?_
              refine aw_goto (tgt := 2) (aw_d q_Mo_commaText 50 rfl) (by decide) ?_
              have hz : cq T 21 a [] = .error p := he.trans (by rw [cq, if_neg (by omega), if_pos (by omega)])
              refine aw_iload_n (aw_d q_Mo_commaText 2 rfl) rfl rfl ?_
              refine aw_ifN_eq (tgt := 98) (aw_d q_Mo_commaText 3 rfl) (by decide) (by omega) (fun c3 => by exfalso; omega) (fun c3 => ?_)
              refine aw_aload_n (aw_d q_Mo_commaText 4 rfl) rfl rfl rfl ?_
              refine cVr (aw_d q_Mo_commaText 5 rfl) (sp_goesI (u := p) (by omega)) vL_Mo_327_Mo rfl rfl rfl rfl rfl rfl ⟨aw_le rfl, aw_le rfl⟩ ?_
              refine aw_ifN_eq (tgt := 98) (aw_d q_Mo_commaText 6 rfl) (by decide) (by omega) (fun c10 => ?_) (fun c10 => by exfalso; omega)
              exact aw_vret (aw_d q_Mo_commaText 51 rfl) rfl (⟨rfl, by rw [hz]; exact ⟨hp, _, _, _, by omega, rfl⟩⟩)
          · skip -- add
            refine aw_aload_n (aw_d q_Mo_commaText 34 rfl) rfl rfl rfl ?_
            refine aw_dup (aw_d q_Mo_commaText 35 rfl) rfl ?_
            refine aw_getf (v := .int (nI (p))) (aw_d q_Mo_commaText 36 rfl) fL_Mo_324_Mo rfl (gk rfl) ?_
            refine aw_iload_n (aw_d q_Mo_commaText 37 rfl) rfl rfl ?_
            refine aw_bipush (v := nI 34) (aw_d q_Mo_commaText 38 rfl) (by decide) ?_
            refine aw_icmpI_ne (tgt := 79) (aw_d q_Mo_commaText 39 rfl) (by decide) (by (have hc2 := hc.2.1; omega)) (fun c72 => ?_) (fun c72 => ?_)
            · refine aw_iconst (v := nI 1) (aw_d q_Mo_commaText 42 rfl) (by decide) ?_
              refine aw_iaddN (aw_d q_Mo_commaText 43 rfl) ?_
              refine wi_33_31 (aw_d q_Mo_commaText 44 rfl) pL_Mo_324_Mo ?_
              refine aw_goto (tgt := 95) (aw_d q_Mo_commaText 45 rfl) (by decide) ?_
              refine aw_goto (tgt := 2) (aw_d q_Mo_commaText 50 rfl) (by decide) ?_
              have hpn := T_lt hc.2.2.2.1 (p := p) (pTx_0 c52)
              exact AW.to (ih (p + 1) (L ++ [T p]) _ (by rw [len_add]; omega) (by omega) (by rw [len_add]; omega) (all_add hal c52) (he.trans (by rw [cq, if_neg (by omega), if_neg (fun q => q.elim (by omega) (fun q => by rw [c52] at q; cases q)), if_neg (by omega)]))) rfl rfl rfl rfl
            · refine aw_iconst (v := nI 2) (aw_d q_Mo_commaText 40 rfl) (by decide) ?_
              refine aw_goto (tgt := 80) (aw_d q_Mo_commaText 41 rfl) (by decide) ?_
              refine aw_iaddN (aw_d q_Mo_commaText 43 rfl) ?_
              refine wi_33_31 (aw_d q_Mo_commaText 44 rfl) pL_Mo_324_Mo ?_
              refine aw_goto (tgt := 95) (aw_d q_Mo_commaText 45 rfl) (by decide) ?_
              refine aw_goto (tgt := 2) (aw_d q_Mo_commaText 50 rfl) (by decide) ?_
              have hpn := T_lt hc.2.2.2.1 (p := p + 1) (by omega)
              exact AW.to (ih (p + 2) (L ++ [T p]) _ (by rw [len_add]; omega) (by omega) (by rw [len_add]; omega) (all_add hal c52) (he.trans (by rw [cq, if_neg (by omega), if_neg (fun q => q.elim (by omega) (fun q => by rw [c52] at q; cases q)), if_pos (by omega)]))) rfl rfl rfl rfl
      · refine aw_iconst (v := nI 0) (aw_d q_Mo_commaText 17 rfl) (by decide) ?_
        refine aw_istore_n (aw_d q_Mo_commaText 18 rfl) rfl (aw_le rfl) rfl ?_
        refine aw_aload_n (aw_d q_Mo_commaText 19 rfl) rfl rfl rfl ?_
        refine aw_dup (aw_d q_Mo_commaText 20 rfl) rfl ?_
        refine aw_getf (v := .int (nI (p))) (aw_d q_Mo_commaText 21 rfl) fL_Mo_324_Mo rfl (gk rfl) ?_
        refine aw_iconst (v := nI 1) (aw_d q_Mo_commaText 22 rfl) (by decide) ?_
        refine aw_iaddN (aw_d q_Mo_commaText 23 rfl) ?_
        refine wi_33_31 (aw_d q_Mo_commaText 24 rfl) pL_Mo_324_Mo ?_
        refine aw_goto (tgt := 95) (aw_d q_Mo_commaText 25 rfl) (by decide) ?_
        refine aw_goto (tgt := 2) (aw_d q_Mo_commaText 50 rfl) (by decide) ?_
        have hpn := T_lt hc.2.2.2.1 (p := p) (by omega)
        refine aw_iload_n (aw_d q_Mo_commaText 2 rfl) rfl rfl ?_
        refine aw_ifN_eq (tgt := 98) (aw_d q_Mo_commaText 3 rfl) (by decide) (by omega) (fun c3 => ?_) (fun c3 => by exfalso; omega)
        exact aw_vret (aw_d q_Mo_commaText 51 rfl) rfl (⟨rfl, by rw [he, cq, if_pos ⟨by omega, by omega⟩]; exact ⟨⟨hpn, h20, hal⟩, rfl⟩⟩)
set_option maxRecDepth 20000 in
theorem sp_ctextA {g : aw_G} {S : aw_S} {n : Nat} {T : Nat → Int32} {p : Nat} {f z : Int32} {X : Nat → Int32} (hc : TPm S n T) (hp : p ≤ n)  : Sp g M_Mo_commaText 2 43 0 0 [.ref 33] (HP (QM S (nI p) (-1) f (nI 0) X)) (fun r h => r = none ∧ match cq T 21 p [] with
  | .ok y => txOK n y ∧ h = HP (QM S (nI y.1) (-1) f (nI y.2.length) (XA y.2 X))
  | .error u => u ≤ n ∧ ∃ (b : Nat) (z : Int32) (X : Nat → Int32), b ≤ 3010 ∧ h = HP (QM S (nI b) (nI u) f z X)) := by
  refine Sp.of rfl (aw_le rfl) ?_
  refine aw_iconst (v := nI 1) (aw_d q_Mo_commaText 0 rfl) (by decide) ?_
  refine aw_istore_n (aw_d q_Mo_commaText 1 rfl) rfl (aw_le rfl) rfl ?_
  exact AW.to (lp_ctext hc (a := p) 21 p [] _ rfl hp (by decide) rfl rfl) rfl rfl rfl (by rw [XA_nil]; rfl)
set_option maxRecDepth 20000 in
theorem sp_ctextI {g : aw_G} {S : aw_S} {u b : Nat} {f z : Int32} {X : Nat → Int32} (hu : u ≤ 3000) (hb : b ≤ 3010)  : Sp g M_Mo_commaText 2 43 0 0 [.ref 33] (HP (QM S (nI b) (nI u) f z X)) (fun r h => r = none ∧ h = HP (QM S (nI b) (nI u) f z X)) := by
  refine Sp.of rfl (aw_le rfl) ?_
  refine aw_iconst (v := nI 1) (aw_d q_Mo_commaText 0 rfl) (by decide) ?_
  refine aw_istore_n (aw_d q_Mo_commaText 1 rfl) rfl (aw_le rfl) rfl ?_
  refine aw_iload_n (aw_d q_Mo_commaText 2 rfl) rfl rfl ?_
  refine aw_ifN_eq (tgt := 98) (aw_d q_Mo_commaText 3 rfl) (by decide) (by omega) (fun c3 => by exfalso; omega) (fun c3 => ?_)
  refine aw_aload_n (aw_d q_Mo_commaText 4 rfl) rfl rfl rfl ?_
  refine cVr (aw_d q_Mo_commaText 5 rfl) (sp_goesI hu) vL_Mo_327_Mo rfl rfl rfl rfl rfl rfl ⟨aw_le rfl, aw_le rfl⟩ ?_
  refine aw_ifN_eq (tgt := 98) (aw_d q_Mo_commaText 6 rfl) (by decide) (by omega) (fun c10 => ?_) (fun c10 => by exfalso; omega)
  exact aw_vret (aw_d q_Mo_commaText 51 rfl) rfl (⟨rfl, rfl⟩)
