/-! a value of form 2 as the reference reads it -/
def cbM (T : Nat → Int32) : Nat → Nat → List Int32 → Except Nat tx_T
  | 0, p, _ => .error p
  | m + 1, p, L => if (T p).toInt = 44 ∨ (T p).toInt = 13 ∨ (T p).toInt < 0 then .ok (p, L) else if pBa (T p) = false then .error p else if 20 ≤ L.length then .error p else cbM T m (p + 1) (L ++ [T p])
def cv (T : Nat → Int32) (p : Nat) : Except Nat (Nat × Option (Nat × Nat × List Int32)) := if (T p).toInt = 34 then bd (cq T 21 (p + 1) []) (fun z => .ok (z.1, some (2, 0, z.2))) else if (T p).toInt = 95 ∧ (T (p + 1)).toInt = 58 then bd (bkT T (p + 2)) (fun z => .ok (z.1, some (1, 0, z.2))) else if (T p).toInt = 44 ∨ (T p).toInt = 13 ∨ (T p).toInt < 0 then .ok (p, none) else bd (cbM T 21 p []) (fun z => .ok (z.1, some (2, 0, z.2)))
theorem mt47 {T : Nat → Int32} {p : Nat} : mt T (tx 47) p = true ↔ (T p).toInt = 95 ∧ (T (p + 1)).toInt = 58 := by
  show (decide ((T p).toInt = (95 : Int32).toInt) && (decide ((T (p + 1)).toInt = (58 : Int32).toInt) && true)) = true ↔ _
  simp only [Bool.and_true, Bool.and_eq_true, decide_eq_true_eq]
  exact Iff.rfl
theorem pBa_44 {b : Int32} (h : b.toInt = 44 ∨ b.toInt = 13 ∨ b.toInt < 0) : pBa b = false := decide_eq_false (by omega)
/-- behind a value only a comma or the line's end goes on -/
theorem cb_M {α : Type} {T : Nat → Int32} {K : tx_T → Except Nat α} (hK : ∀ y, ¬ ((T y.1).toInt = 44 ∨ (T y.1).toInt = 13 ∨ (T y.1).toInt < 0) → K y = .error y.1) : ∀ m p L, bd (cb T m p L) K = bd (cbM T m p L) K := by
  intro m
  induction m with
  | zero => intro p L; rfl
  | succ m ih =>
    intro p L
    simp only [cb, cbM]
    by_cases h1 : (T p).toInt = 44 ∨ (T p).toInt = 13 ∨ (T p).toInt < 0
    · rw [if_pos (pBa_44 h1), if_pos h1]
    · rw [if_neg h1]
      by_cases h2 : pBa (T p) = false
      · rw [if_pos h2, if_pos h2]; exact hK (p, L) h1
      · rw [if_neg h2, if_neg h2]
        by_cases h3 : 20 ≤ L.length
        · rw [if_pos h3, if_pos h3]
        · rw [if_neg h3, if_neg h3]; exact ih _ _
theorem ci_cv {α : Type} {T : Nat → Int32} {p : Nat} {K : Nat × Option (Nat × Nat × List Int32) → Except Nat α} (hK : ∀ y, ¬ ((T y.1).toInt = 44 ∨ (T y.1).toInt = 13 ∨ (T y.1).toInt < 0) → K y = .error y.1) : bd (ci T p) K = bd (cv T p) K := by
  simp only [ci, cv]
  by_cases h1 : (T p).toInt = 34
  · rw [if_pos h1, if_pos h1]
  · rw [if_neg h1, if_neg h1]
    by_cases h2 : (T p).toInt = 95 ∧ (T (p + 1)).toInt = 58
    · rw [if_pos (mt47.mpr h2), if_pos h2]
    · rw [if_neg (fun q => h2 (mt47.mp q)), if_neg h2]
      by_cases h3 : (T p).toInt = 44 ∨ (T p).toInt = 13 ∨ (T p).toInt < 0
      · rw [if_neg (by rw [pBa_44 h3]; exact Bool.false_ne_true), if_pos h3]
      · rw [if_neg h3]
        by_cases h4 : pBa (T p) = true
        · rw [if_pos h4, bd_bd, bd_bd]
          exact cb_M (K := fun a => bd (Except.ok (a.1, some (2, 0, a.2))) K) (fun y hy => hK _ hy) 21 p []
        · rw [if_neg h4]
          have : cbM T 21 p [] = .error p := by
            show (if _ then _ else if _ then _ else _) = _
            rw [if_neg h3, if_pos (by simpa using h4)]
          rw [this]
          exact hK (p, none) h3
/-- the value of a line's cell as the reference reads it -/
def lv (c : Bool) (T : Nat → Int32) (n p : Nat) : Except Nat (Nat × Option (Nat × Nat × List Int32)) := if c then cv T p else ti T n p
theorem lb_K {T : Nat → Int32} {n r m v : Nat} {s : sq_T} (hT : ∀ i, n ≤ i → T i = -1) : ∀ y : Nat × Option (Nat × Nat × List Int32), ¬ ((T y.1).toInt = 44 ∨ (T y.1).toInt = 13 ∨ (T y.1).toInt < 0) → lb true T n r m (v + 1) y.1 (adI (r * 6 + v) y.2 s) = .error y.1 := by
  intro y hy
  cases m with
  | zero =>
    simp only [lb]
    rw [show mu T (w_le true) y.1 = .error y.1 from if_neg (show ¬ (T y.1).toInt = (13 : Int32).toInt from fun q => hy (Or.inr (Or.inl q))), bd_er]
  | succ m =>
    simp only [lb]
    rw [if_pos (by omega), if_neg (show ¬ (T y.1).toInt = (w_ls true).toInt from fun q => hy (Or.inl q)), bd_er]
theorem lb_lv {c : Bool} {T : Nat → Int32} {n r m v p : Nat} {s : sq_T} (hT : ∀ i, n ≤ i → T i = -1) : lb c T n r (m + 1) v p s = bd (if 0 < v then (if (T p).toInt = (w_ls c).toInt then .ok (p + 1) else .error p) else .ok p) (fun p => bd (lv c T n p) (fun y => lb c T n r m (v + 1) y.1 (adI (r * 6 + v) y.2 s))) := by
  cases c with
  | false => rfl
  | true =>
    simp only [lb]
    congr 1
    funext q
    exact ci_cv (lb_K hT)
def lvM (S : aw_S) (n : Nat) (N : nm_T) (r v : Nat) (s : sq_T) (res : Except Nat (Nat × Option (Nat × Nat × List Int32))) (x : Option Value) (h : aw_hp) : Prop := x = none ∧ match res with
  | .ok y => ∃ (F : aw_S) (f z : Int32) (X : Nat → Int32), (imC S N (r + 1) (adI (r * 6 + v) y.2 s) F ∧ itOK (adI (r * 6 + v) y.2 s) (r * 6 + (v + 1))) ∧ y.1 ≤ n ∧ h = HP (QM F (nI y.1) (-1) f z X)
  | .error u => u ≤ 3000 ∧ ∃ (F : aw_S) (b : Nat) (f z : Int32) (X : Nat → Int32), frM S F ∧ b ≤ 3010 ∧ h = HP (QM F (nI b) (nI u) f z X)
theorem lvM_er {S F : aw_S} {n u b r v : Nat} {N : nm_T} {s : sq_T} {f z : Int32} {X : Nat → Int32} (h1 : u ≤ 3000) (h2 : frM S F) (h3 : b ≤ 3010) : lvM S n N r v s (.error u) none (HP (QM F (nI b) (nI u) f z X)) := ⟨rfl, h1, F, b, f, z, X, h2, h3, rfl⟩
theorem lvM_no {S F : aw_S} {n p r v : Nat} {N : nm_T} {s : sq_T} {f z : Int32} {X : Nat → Int32} (h1 : imC S N (r + 1) s F) (h2 : itOK s (r * 6 + v)) (h3 : p ≤ n) : lvM S n N r v s (.ok (p, none)) none (HP (QM F (nI p) (-1) f z X)) := ⟨rfl, F, f, z, X, ⟨h1, itOK_mono h2 (by omega)⟩, h3, rfl⟩
theorem lvM_so {S F : aw_S} {n p r v kd ex : Nat} {N : nm_T} {s : sq_T} {f z : Int32} {X : Nat → Int32} {L : List Int32} (h1 : imC S N (r + 1) (s ++ [(r * 6 + v, kd, ex, L)]) F) (h2 : itOK s (r * 6 + v)) (hw : itW (r * 6 + v, kd, ex, L)) (h3 : p ≤ n) : lvM S n N r v s (.ok (p, some (kd, ex, L))) none (HP (QM F (nI p) (-1) f z X)) := ⟨rfl, F, f, z, X, ⟨h1, itOK_add h2 hw (by show r * 6 + v ≤ r * 6 + v; omega) (by show r * 6 + v < r * 6 + (v + 1); omega)⟩, h3, rfl⟩
set_option maxRecDepth 20000 in
theorem lp_cvM {g : aw_G} {S : aw_S} {D : aw_S} {N : nm_T} {r : Nat} {s : sq_T} {n : Nat} {T : Nat → Int32} {v : Nat} {f : Int32} {X : Nat → Int32} (hI : imC S N (r + 1) s D) (hs : itOK s (r * 6 + v)) (hv : v < N.1) (hc : TPm S n T) {c : Int32} {res : Except Nat (Nat × Option (Nat × Nat × List Int32))} : ∀ (m p : Nat) (L : List Int32) (x3 : Option Value), m + L.length = 21 → p ≤ n → L.length ≤ 20 → L.all pTx = true → res = bd (cbM T m p L) (fun z => .ok (z.1, some (2, 0, z.2))) → AW g M_Mo_commaValue (aw_rm 3 67 0 0) (aw_F g 0 0 (lvM S n N r v s res)) 85 [some (.ref 33), some (.int (nI v)), some (.int c), x3] [] (HP (QM D (nI p) (-1) f (nI (L).length) (XA (L) X))) 0 0 := by
  have hc2 := hc.2.1
  intro m
  induction m with
  | zero => intro p L x3 hk hp h20 hal he; exfalso; omega
  | succ m ih =>
    intro p L x3 hk hp h20 hal he
    refine aw_aload_n (aw_d q_Mo_commaValue 46 rfl) rfl rfl rfl ?_
    refine cVr (aw_d q_Mo_commaValue 47 rfl) (sp_goesA) vL_Mo_327_Mo rfl rfl rfl rfl rfl rfl ⟨aw_le rfl, aw_le rfl⟩ ?_
    refine aw_ifN_eq (tgt := 178) (aw_d q_Mo_commaValue 48 rfl) (by decide) (by (have hc2 := hc.2.1; omega)) (fun c89 => by exfalso; (have hc2 := hc.2.1; omega)) (fun c89 => ?_)
    refine aw_aload_n (aw_d q_Mo_commaValue 49 rfl) rfl rfl rfl ?_
    refine cVr (aw_d q_Mo_commaValue 50 rfl) (sp_peek (frM_TP hI.1 hc) (b := p) (by have := hc.2.1; omega)) vL_Mo_331_Mo rfl rfl rfl rfl rfl rfl ⟨aw_le rfl, aw_le rfl⟩ ?_
    refine aw_bipush (v := nI 44) (aw_d q_Mo_commaValue 51 rfl) (by decide) ?_
    refine aw_icmpI_eq (tgt := 178) (aw_d q_Mo_commaValue 52 rfl) (by decide) (by (have hc2 := hc.2.1; omega)) (fun c98 => ?_) (fun c98 => ?_)
    · refine aw_aload_n (aw_d q_Mo_commaValue 91 rfl) rfl rfl rfl ?_
      refine aw_iload_n (aw_d q_Mo_commaValue 92 rfl) rfl rfl ?_
      refine aw_iconst (v := nI 2) (aw_d q_Mo_commaValue 93 rfl) (by decide) ?_
      refine aw_iconst (v := nI 0) (aw_d q_Mo_commaValue 94 rfl) (by decide) ?_
      refine cV (aw_d q_Mo_commaValue 95 rfl) (sp_giveA (kd := 2) (ex := 0) (L := L) hI hs hv h20) vL_Mo_430_Mo rfl rfl rfl rfl rfl rfl ⟨aw_le rfl, aw_le rfl⟩ (fun r182 h182 hp182 => ?_)
      obtain ⟨rfl, F182, hI182, rfl⟩ := hp182
      exact aw_vret (aw_d q_Mo_commaValue 96 rfl) rfl (by rw [show res = .ok (p, some (2, 0, L)) from he.trans (by rw [cbM, if_pos (by omega)]; rfl)]; exact lvM_so hI182 hs (itW_i (kd := 2) (ex := 0) (by decide) h20 (by decide) (fun h => absurd h (by decide)) (fun _ => rfl) hal rfl) hp)
    · refine aw_aload_n (aw_d q_Mo_commaValue 53 rfl) rfl rfl rfl ?_
      refine cVr (aw_d q_Mo_commaValue 54 rfl) (sp_peek (frM_TP hI.1 hc) (b := p) (by have := hc.2.1; omega)) vL_Mo_331_Mo rfl rfl rfl rfl rfl rfl ⟨aw_le rfl, aw_le rfl⟩ ?_
      refine aw_bipush (v := nI 13) (aw_d q_Mo_commaValue 55 rfl) (by decide) ?_
      refine aw_icmpI_eq (tgt := 178) (aw_d q_Mo_commaValue 56 rfl) (by decide) (by (have hc2 := hc.2.1; omega)) (fun c107 => ?_) (fun c107 => ?_)
      · refine aw_aload_n (aw_d q_Mo_commaValue 91 rfl) rfl rfl rfl ?_
        refine aw_iload_n (aw_d q_Mo_commaValue 92 rfl) rfl rfl ?_
        refine aw_iconst (v := nI 2) (aw_d q_Mo_commaValue 93 rfl) (by decide) ?_
        refine aw_iconst (v := nI 0) (aw_d q_Mo_commaValue 94 rfl) (by decide) ?_
        refine cV (aw_d q_Mo_commaValue 95 rfl) (sp_giveA (kd := 2) (ex := 0) (L := L) hI hs hv h20) vL_Mo_430_Mo rfl rfl rfl rfl rfl rfl ⟨aw_le rfl, aw_le rfl⟩ (fun r182 h182 hp182 => ?_)
        obtain ⟨rfl, F182, hI182, rfl⟩ := hp182
        exact aw_vret (aw_d q_Mo_commaValue 96 rfl) rfl (by rw [show res = .ok (p, some (2, 0, L)) from he.trans (by rw [cbM, if_pos (by omega)]; rfl)]; exact lvM_so hI182 hs (itW_i (kd := 2) (ex := 0) (by decide) h20 (by decide) (fun h => absurd h (by decide)) (fun _ => rfl) hal rfl) hp)
      · refine aw_aload_n (aw_d q_Mo_commaValue 57 rfl) rfl rfl rfl ?_
        refine cVr (aw_d q_Mo_commaValue 58 rfl) (sp_peek (frM_TP hI.1 hc) (b := p) (by have := hc.2.1; omega)) vL_Mo_331_Mo rfl rfl rfl rfl rfl rfl ⟨aw_le rfl, aw_le rfl⟩ ?_
        refine aw_ifI_lt (tgt := 178) (aw_d q_Mo_commaValue 59 rfl) (by decide) (fun c114 => ?_) (fun c114 => ?_)
        · refine aw_aload_n (aw_d q_Mo_commaValue 91 rfl) rfl rfl rfl ?_
          refine aw_iload_n (aw_d q_Mo_commaValue 92 rfl) rfl rfl ?_
          refine aw_iconst (v := nI 2) (aw_d q_Mo_commaValue 93 rfl) (by decide) ?_
          refine aw_iconst (v := nI 0) (aw_d q_Mo_commaValue 94 rfl) (by decide) ?_
          refine cV (aw_d q_Mo_commaValue 95 rfl) (sp_giveA (kd := 2) (ex := 0) (L := L) hI hs hv h20) vL_Mo_430_Mo rfl rfl rfl rfl rfl rfl ⟨aw_le rfl, aw_le rfl⟩ (fun r182 h182 hp182 => ?_)
          obtain ⟨rfl, F182, hI182, rfl⟩ := hp182
          exact aw_vret (aw_d q_Mo_commaValue 96 rfl) rfl (by rw [show res = .ok (p, some (2, 0, L)) from he.trans (by rw [cbM, if_pos (by omega)]; rfl)]; exact lvM_so hI182 hs (itW_i (kd := 2) (ex := 0) (by decide) h20 (by decide) (fun h => absurd h (by decide)) (fun _ => rfl) hal rfl) hp)
        · refine aw_aload_n (aw_d q_Mo_commaValue 60 rfl) rfl rfl rfl ?_
          refine cVr (aw_d q_Mo_commaValue 61 rfl) (sp_peek (frM_TP hI.1 hc) (b := p) (by have := hc.2.1; omega)) vL_Mo_331_Mo rfl rfl rfl rfl rfl rfl ⟨aw_le rfl, aw_le rfl⟩ ?_
          refine aw_istore_n (aw_d q_Mo_commaValue 62 rfl) rfl (aw_le rfl) rfl ?_
          refine aw_iload_n (aw_d q_Mo_commaValue 63 rfl) rfl rfl ?_
          refine aw_bipush (v := nI 9) (aw_d q_Mo_commaValue 64 rfl) (by decide) ?_
          refine aw_icmpI_eq (tgt := 145) (aw_d q_Mo_commaValue 65 rfl) (by decide) (by (have hc2 := hc.2.1; omega)) (fun c125 => ?_) (fun c125 => ?_)
          · refine aw_aload_n (aw_d q_Mo_commaValue 74 rfl) rfl rfl rfl ?_
            refine aw_iload_n (aw_d q_Mo_commaValue 75 rfl) rfl rfl ?_
            refine aw_aload_n (aw_d q_Mo_commaValue 76 rfl) rfl rfl rfl ?_
            refine aw_getf (v := .int (nI (p))) (aw_d q_Mo_commaValue 77 rfl) fL_Mo_324_Mo rfl (gk rfl) ?_
            refine cV (aw_d q_Mo_commaValue 78 rfl) (sp_add (L := L) (x := nI p) (c := (T p)) h20) vL_Mo_366_Mo rfl rfl rfl rfl rfl rfl ⟨aw_le rfl, aw_le rfl⟩ (fun r151 h151 hp151 => ?_)
            obtain ⟨rfl, hp151⟩ := hp151
            rcases hp151 with ⟨hl151, rfl⟩ | ⟨hl151, rfl⟩
            · skip -- full
              refine aw_aload_n (aw_d q_Mo_commaValue 79 rfl) rfl rfl rfl ?_
              refine aw_dup (aw_d q_Mo_commaValue 80 rfl) rfl ?_
              refine aw_getf (v := .int (nI (p))) (aw_d q_Mo_commaValue 81 rfl) fL_Mo_324_Mo rfl (gk rfl) ?_
              refine aw_iconst (v := nI 1) (aw_d q_Mo_commaValue 82 rfl) (by decide) ?_
              refine aw_iaddN (aw_d q_Mo_commaValue 83 rfl) ?_
              refine wi_33_31 (aw_d q_Mo_commaValue 84 rfl) pL_Mo_324_Mo ?_
              refine aw_goto (tgt := 175) (aw_d q_Mo_commaValue 85 rfl) (by decide) ?_
              refine aw_goto (tgt := 85) (aw_d q_Mo_commaValue 90 rfl) (by decide) ?_
              have hpb : pBa (T p) = true := decide_eq_true (by omega)
              have hz : res = .error p := he.trans (by rw [cbM, if_neg (by omega), if_neg (by rw [hpb]; exact Bool.noConfusion), if_pos (by omega)]; rfl)
              refine AW.to (h' := HP (QM D (nI (p + 1)) (nI p) f (nI (L).length) (XA (L) X))) ?_ rfl rfl rfl rfl
              refine aw_aload_n (aw_d q_Mo_commaValue 46 rfl) rfl rfl rfl ?_
              refine cVr (aw_d q_Mo_commaValue 47 rfl) (sp_goesI (u := p) (by have := hc.2.1; omega)) vL_Mo_327_Mo rfl rfl rfl rfl rfl rfl ⟨aw_le rfl, aw_le rfl⟩ ?_
              refine aw_ifN_eq (tgt := 178) (aw_d q_Mo_commaValue 48 rfl) (by decide) (by omega) (fun c89 => ?_) (fun c89 => by exfalso; omega)
              refine aw_aload_n (aw_d q_Mo_commaValue 91 rfl) rfl rfl rfl ?_
              refine aw_iload_n (aw_d q_Mo_commaValue 92 rfl) rfl rfl ?_
              refine aw_iconst (v := nI 2) (aw_d q_Mo_commaValue 93 rfl) (by decide) ?_
              refine aw_iconst (v := nI 0) (aw_d q_Mo_commaValue 94 rfl) (by decide) ?_
              refine cVv (aw_d q_Mo_commaValue 95 rfl) (sp_giveI (u := p) (by have := hc.2.1; omega) (b := (p + 1)) (by have := hc.2.1; omega)) vL_Mo_430_Mo rfl rfl rfl rfl rfl rfl ⟨aw_le rfl, aw_le rfl⟩ ?_
              exact aw_vret (aw_d q_Mo_commaValue 96 rfl) rfl (by rw [hz]; exact lvM_er (by have := hc.2.1; omega) hI.1 (by have := hc.2.1; omega))
            · skip -- add
              refine aw_aload_n (aw_d q_Mo_commaValue 79 rfl) rfl rfl rfl ?_
              refine aw_dup (aw_d q_Mo_commaValue 80 rfl) rfl ?_
              refine aw_getf (v := .int (nI (p))) (aw_d q_Mo_commaValue 81 rfl) fL_Mo_324_Mo rfl (gk rfl) ?_
              refine aw_iconst (v := nI 1) (aw_d q_Mo_commaValue 82 rfl) (by decide) ?_
              refine aw_iaddN (aw_d q_Mo_commaValue 83 rfl) ?_
              refine wi_33_31 (aw_d q_Mo_commaValue 84 rfl) pL_Mo_324_Mo ?_
              refine aw_goto (tgt := 175) (aw_d q_Mo_commaValue 85 rfl) (by decide) ?_
              refine aw_goto (tgt := 85) (aw_d q_Mo_commaValue 90 rfl) (by decide) ?_
              have hpb : pBa (T p) = true := decide_eq_true (by omega)
              have hpn := T_lt hc.2.2.2.1 (p := p) (pTx_0 (pTx_ba hpb))
              exact AW.to (ih (p + 1) (L ++ [T p]) _ (by rw [len_add]; omega) hpn (by rw [len_add]; omega) (all_add hal (pTx_ba hpb)) (he.trans (by rw [cbM, if_neg (by omega), if_neg (by rw [hpb]; exact Bool.noConfusion), if_neg (by omega)]))) rfl rfl rfl rfl
          · refine aw_iload_n (aw_d q_Mo_commaValue 66 rfl) rfl rfl ?_
            refine aw_bipush (v := nI 32) (aw_d q_Mo_commaValue 67 rfl) (by decide) ?_
            refine aw_bipush (v := nI 126) (aw_d q_Mo_commaValue 68 rfl) (by decide) ?_
            refine cSr (aw_d q_Mo_commaValue 69 rfl) (sp_Mo_in (A := 32) (B := 126) rfl rfl) sL_Mo_81 rfl rfl rfl rfl ⟨aw_le rfl, aw_le rfl⟩ ?_
            refine aw_ifB_eq (tgt := 167) (aw_d q_Mo_commaValue 70 rfl) (by decide) (fun c136 => ?_) (fun c136 => ?_)
            · refine aw_aload_n (aw_d q_Mo_commaValue 86 rfl) rfl rfl rfl ?_
              refine aw_aload_n (aw_d q_Mo_commaValue 87 rfl) rfl rfl rfl ?_
              refine aw_getf (v := .int (nI (p))) (aw_d q_Mo_commaValue 88 rfl) fL_Mo_324_Mo rfl (gk rfl) ?_
              refine cVv (aw_d q_Mo_commaValue 89 rfl) (sp_mfailA) vL_Mo_334_Mo rfl rfl rfl rfl rfl rfl ⟨aw_le rfl, aw_le rfl⟩ ?_
              refine aw_goto (tgt := 85) (aw_d q_Mo_commaValue 90 rfl) (by decide) ?_
              have hz : res = .error p := he.trans (by rw [cbM, if_neg (by omega), if_pos (show pBa (T p) = false from decide_eq_false (by omega))]; rfl)
              refine AW.to (h' := HP (QM D (nI p) (nI p) f (nI (L).length) (XA (L) X))) ?_ rfl rfl rfl rfl
              refine aw_aload_n (aw_d q_Mo_commaValue 46 rfl) rfl rfl rfl ?_
              refine cVr (aw_d q_Mo_commaValue 47 rfl) (sp_goesI (u := p) (by have := hc.2.1; omega)) vL_Mo_327_Mo rfl rfl rfl rfl rfl rfl ⟨aw_le rfl, aw_le rfl⟩ ?_
              refine aw_ifN_eq (tgt := 178) (aw_d q_Mo_commaValue 48 rfl) (by decide) (by omega) (fun c89 => ?_) (fun c89 => by exfalso; omega)
              refine aw_aload_n (aw_d q_Mo_commaValue 91 rfl) rfl rfl rfl ?_
              refine aw_iload_n (aw_d q_Mo_commaValue 92 rfl) rfl rfl ?_
              refine aw_iconst (v := nI 2) (aw_d q_Mo_commaValue 93 rfl) (by decide) ?_
              refine aw_iconst (v := nI 0) (aw_d q_Mo_commaValue 94 rfl) (by decide) ?_
              refine cVv (aw_d q_Mo_commaValue 95 rfl) (sp_giveI (u := p) (by have := hc.2.1; omega) (b := p) (by have := hc.2.1; omega)) vL_Mo_430_Mo rfl rfl rfl rfl rfl rfl ⟨aw_le rfl, aw_le rfl⟩ ?_
              exact aw_vret (aw_d q_Mo_commaValue 96 rfl) rfl (by rw [hz]; exact lvM_er (by have := hc.2.1; omega) hI.1 (by have := hc.2.1; omega))
            · refine aw_iload_n (aw_d q_Mo_commaValue 71 rfl) rfl rfl ?_
              refine aw_bipush (v := nI 34) (aw_d q_Mo_commaValue 72 rfl) (by decide) ?_
              refine aw_icmpI_eq (tgt := 167) (aw_d q_Mo_commaValue 73 rfl) (by decide) (by (have hc2 := hc.2.1; omega)) (fun c142 => ?_) (fun c142 => ?_)
              · refine aw_aload_n (aw_d q_Mo_commaValue 86 rfl) rfl rfl rfl ?_
                refine aw_aload_n (aw_d q_Mo_commaValue 87 rfl) rfl rfl rfl ?_
                refine aw_getf (v := .int (nI (p))) (aw_d q_Mo_commaValue 88 rfl) fL_Mo_324_Mo rfl (gk rfl) ?_
                refine cVv (aw_d q_Mo_commaValue 89 rfl) (sp_mfailA) vL_Mo_334_Mo rfl rfl rfl rfl rfl rfl ⟨aw_le rfl, aw_le rfl⟩ ?_
                refine aw_goto (tgt := 85) (aw_d q_Mo_commaValue 90 rfl) (by decide) ?_
                have hz : res = .error p := he.trans (by rw [cbM, if_neg (by omega), if_pos (show pBa (T p) = false from decide_eq_false (by omega))]; rfl)
                refine AW.to (h' := HP (QM D (nI p) (nI p) f (nI (L).length) (XA (L) X))) ?_ rfl rfl rfl rfl
                refine aw_aload_n (aw_d q_Mo_commaValue 46 rfl) rfl rfl rfl ?_
                refine cVr (aw_d q_Mo_commaValue 47 rfl) (sp_goesI (u := p) (by have := hc.2.1; omega)) vL_Mo_327_Mo rfl rfl rfl rfl rfl rfl ⟨aw_le rfl, aw_le rfl⟩ ?_
                refine aw_ifN_eq (tgt := 178) (aw_d q_Mo_commaValue 48 rfl) (by decide) (by omega) (fun c89 => ?_) (fun c89 => by exfalso; omega)
                refine aw_aload_n (aw_d q_Mo_commaValue 91 rfl) rfl rfl rfl ?_
                refine aw_iload_n (aw_d q_Mo_commaValue 92 rfl) rfl rfl ?_
                refine aw_iconst (v := nI 2) (aw_d q_Mo_commaValue 93 rfl) (by decide) ?_
                refine aw_iconst (v := nI 0) (aw_d q_Mo_commaValue 94 rfl) (by decide) ?_
                refine cVv (aw_d q_Mo_commaValue 95 rfl) (sp_giveI (u := p) (by have := hc.2.1; omega) (b := p) (by have := hc.2.1; omega)) vL_Mo_430_Mo rfl rfl rfl rfl rfl rfl ⟨aw_le rfl, aw_le rfl⟩ ?_
                exact aw_vret (aw_d q_Mo_commaValue 96 rfl) rfl (by rw [hz]; exact lvM_er (by have := hc.2.1; omega) hI.1 (by have := hc.2.1; omega))
              · refine aw_aload_n (aw_d q_Mo_commaValue 74 rfl) rfl rfl rfl ?_
                refine aw_iload_n (aw_d q_Mo_commaValue 75 rfl) rfl rfl ?_
                refine aw_aload_n (aw_d q_Mo_commaValue 76 rfl) rfl rfl rfl ?_
                refine aw_getf (v := .int (nI (p))) (aw_d q_Mo_commaValue 77 rfl) fL_Mo_324_Mo rfl (gk rfl) ?_
                refine cV (aw_d q_Mo_commaValue 78 rfl) (sp_add (L := L) (x := nI p) (c := (T p)) h20) vL_Mo_366_Mo rfl rfl rfl rfl rfl rfl ⟨aw_le rfl, aw_le rfl⟩ (fun r151 h151 hp151 => ?_)
                obtain ⟨rfl, hp151⟩ := hp151
                rcases hp151 with ⟨hl151, rfl⟩ | ⟨hl151, rfl⟩
                · skip -- full
                  refine aw_aload_n (aw_d q_Mo_commaValue 79 rfl) rfl rfl rfl ?_
                  refine aw_dup (aw_d q_Mo_commaValue 80 rfl) rfl ?_
                  refine aw_getf (v := .int (nI (p))) (aw_d q_Mo_commaValue 81 rfl) fL_Mo_324_Mo rfl (gk rfl) ?_
                  refine aw_iconst (v := nI 1) (aw_d q_Mo_commaValue 82 rfl) (by decide) ?_
                  refine aw_iaddN (aw_d q_Mo_commaValue 83 rfl) ?_
                  refine wi_33_31 (aw_d q_Mo_commaValue 84 rfl) pL_Mo_324_Mo ?_
                  refine aw_goto (tgt := 175) (aw_d q_Mo_commaValue 85 rfl) (by decide) ?_
                  refine aw_goto (tgt := 85) (aw_d q_Mo_commaValue 90 rfl) (by decide) ?_
                  have hpb : pBa (T p) = true := decide_eq_true (by omega)
                  have hz : res = .error p := he.trans (by rw [cbM, if_neg (by omega), if_neg (by rw [hpb]; exact Bool.noConfusion), if_pos (by omega)]; rfl)
                  refine AW.to (h' := HP (QM D (nI (p + 1)) (nI p) f (nI (L).length) (XA (L) X))) ?_ rfl rfl rfl rfl
                  refine aw_aload_n (aw_d q_Mo_commaValue 46 rfl) rfl rfl rfl ?_
                  refine cVr (aw_d q_Mo_commaValue 47 rfl) (sp_goesI (u := p) (by have := hc.2.1; omega)) vL_Mo_327_Mo rfl rfl rfl rfl rfl rfl ⟨aw_le rfl, aw_le rfl⟩ ?_
                  refine aw_ifN_eq (tgt := 178) (aw_d q_Mo_commaValue 48 rfl) (by decide) (by omega) (fun c89 => ?_) (fun c89 => by exfalso; omega)
                  refine aw_aload_n (aw_d q_Mo_commaValue 91 rfl) rfl rfl rfl ?_
                  refine aw_iload_n (aw_d q_Mo_commaValue 92 rfl) rfl rfl ?_
                  refine aw_iconst (v := nI 2) (aw_d q_Mo_commaValue 93 rfl) (by decide) ?_
                  refine aw_iconst (v := nI 0) (aw_d q_Mo_commaValue 94 rfl) (by decide) ?_
                  refine cVv (aw_d q_Mo_commaValue 95 rfl) (sp_giveI (u := p) (by have := hc.2.1; omega) (b := (p + 1)) (by have := hc.2.1; omega)) vL_Mo_430_Mo rfl rfl rfl rfl rfl rfl ⟨aw_le rfl, aw_le rfl⟩ ?_
                  exact aw_vret (aw_d q_Mo_commaValue 96 rfl) rfl (by rw [hz]; exact lvM_er (by have := hc.2.1; omega) hI.1 (by have := hc.2.1; omega))
                · skip -- add
                  refine aw_aload_n (aw_d q_Mo_commaValue 79 rfl) rfl rfl rfl ?_
                  refine aw_dup (aw_d q_Mo_commaValue 80 rfl) rfl ?_
                  refine aw_getf (v := .int (nI (p))) (aw_d q_Mo_commaValue 81 rfl) fL_Mo_324_Mo rfl (gk rfl) ?_
                  refine aw_iconst (v := nI 1) (aw_d q_Mo_commaValue 82 rfl) (by decide) ?_
                  refine aw_iaddN (aw_d q_Mo_commaValue 83 rfl) ?_
                  refine wi_33_31 (aw_d q_Mo_commaValue 84 rfl) pL_Mo_324_Mo ?_
                  refine aw_goto (tgt := 175) (aw_d q_Mo_commaValue 85 rfl) (by decide) ?_
                  refine aw_goto (tgt := 85) (aw_d q_Mo_commaValue 90 rfl) (by decide) ?_
                  have hpb : pBa (T p) = true := decide_eq_true (by omega)
                  have hpn := T_lt hc.2.2.2.1 (p := p) (pTx_0 (pTx_ba hpb))
                  exact AW.to (ih (p + 1) (L ++ [T p]) _ (by rw [len_add]; omega) hpn (by rw [len_add]; omega) (all_add hal (pTx_ba hpb)) (he.trans (by rw [cbM, if_neg (by omega), if_neg (by rw [hpb]; exact Bool.noConfusion), if_neg (by omega)]))) rfl rfl rfl rfl
theorem mu50 {T : Nat → Int32} {p : Nat} (h1 : (T p).toInt = 95) (h2 : (T (p + 1)).toInt = 58) : mu T (tx 50) p = .ok (p + 2) := by
  show (if (T p).toInt = (95 : Int32).toInt then (if (T (p + 1)).toInt = (58 : Int32).toInt then Except.ok (p + 1 + 1) else Except.error (p + 1)) else Except.error p) = _
  rw [if_pos (show (T p).toInt = (95 : Int32).toInt from h1), if_pos (show (T (p + 1)).toInt = (58 : Int32).toInt from h2)]
set_option maxRecDepth 20000 in
theorem sp_cvA {g : aw_G} {S D : aw_S} {N : nm_T} {r : Nat} {s : sq_T} {n : Nat} {T : Nat → Int32} {p v : Nat} {f z : Int32} {X : Nat → Int32} (hI : imC S N (r + 1) s D) (hs : itOK s (r * 6 + v)) (hv : v < N.1) (hc : TPm S n T) (hp : p ≤ n)  : Sp g M_Mo_commaValue 3 67 0 0 [.ref 33, .int (nI v)] (HP (QM D (nI p) (-1) f z X)) (lvM S n N r v s (cv T p)) := by
  refine Sp.of rfl (aw_le rfl) ?_
  have hc2 := hc.2.1
  refine aw_aload_n (aw_d q_Mo_commaValue 0 rfl) rfl rfl rfl ?_
  refine cVr (aw_d q_Mo_commaValue 1 rfl) (sp_peek (frM_TP hI.1 hc) (b := p) (by have := hc.2.1; omega)) vL_Mo_331_Mo rfl rfl rfl rfl rfl rfl ⟨aw_le rfl, aw_le rfl⟩ ?_
  refine aw_istore_n (aw_d q_Mo_commaValue 2 rfl) rfl (aw_le rfl) rfl ?_
  refine aw_aload_n (aw_d q_Mo_commaValue 3 rfl) rfl rfl rfl ?_
  refine aw_iconst (v := nI 0) (aw_d q_Mo_commaValue 4 rfl) (by decide) ?_
  refine wi_33_34 (aw_d q_Mo_commaValue 5 rfl) pL_Mo_93_Mo ?_
  refine AW.to (h' := HP (QM D (nI p) (-1) f (nI 0) X)) ?_ rfl rfl rfl rfl
  · skip
    refine aw_iload_n (aw_d q_Mo_commaValue 6 rfl) rfl rfl ?_
    refine aw_bipush (v := nI 34) (aw_d q_Mo_commaValue 7 rfl) (by decide) ?_
    refine aw_icmpI_ne (tgt := 40) (aw_d q_Mo_commaValue 8 rfl) (by decide) (by (have hc2 := hc.2.1; omega)) (fun c13 => ?_) (fun c13 => ?_)
    · refine aw_iload_n (aw_d q_Mo_commaValue 23 rfl) rfl rfl ?_
      refine aw_bipush (v := nI 95) (aw_d q_Mo_commaValue 24 rfl) (by decide) ?_
      refine aw_icmpI_ne (tgt := 69) (aw_d q_Mo_commaValue 25 rfl) (by decide) (by (have hc2 := hc.2.1; omega)) (fun c43 => ?_) (fun c43 => ?_)
      · refine aw_iload_n (aw_d q_Mo_commaValue 38 rfl) rfl rfl ?_
        refine aw_bipush (v := nI 44) (aw_d q_Mo_commaValue 39 rfl) (by decide) ?_
        refine aw_icmpI_eq (tgt := 185) (aw_d q_Mo_commaValue 40 rfl) (by decide) (by (have hc2 := hc.2.1; omega)) (fun c72 => ?_) (fun c72 => ?_)
        · exact aw_vret (aw_d q_Mo_commaValue 96 rfl) rfl (by rw [show cv T p = .ok (p, none) by rw [cv, if_neg (by omega), if_neg (by omega), if_pos (by omega)]]; exact lvM_no hI hs hp)
        · refine aw_iload_n (aw_d q_Mo_commaValue 41 rfl) rfl rfl ?_
          refine aw_bipush (v := nI 13) (aw_d q_Mo_commaValue 42 rfl) (by decide) ?_
          refine aw_icmpI_eq (tgt := 185) (aw_d q_Mo_commaValue 43 rfl) (by decide) (by (have hc2 := hc.2.1; omega)) (fun c78 => ?_) (fun c78 => ?_)
          · exact aw_vret (aw_d q_Mo_commaValue 96 rfl) rfl (by rw [show cv T p = .ok (p, none) by rw [cv, if_neg (by omega), if_neg (by omega), if_pos (by omega)]]; exact lvM_no hI hs hp)
          · refine aw_iload_n (aw_d q_Mo_commaValue 44 rfl) rfl rfl ?_
            refine aw_ifI_lt (tgt := 185) (aw_d q_Mo_commaValue 45 rfl) (by decide) (fun c82 => ?_) (fun c82 => ?_)
            · exact aw_vret (aw_d q_Mo_commaValue 96 rfl) rfl (by rw [show cv T p = .ok (p, none) by rw [cv, if_neg (by omega), if_neg (by omega), if_pos (by omega)]]; exact lvM_no hI hs hp)
            · exact AW.to (lp_cvM hI hs hv hc (c := T p) 21 p [] _ rfl hp (by decide) rfl (by rw [cv, if_neg (by omega), if_neg (by omega), if_neg (by omega)])) rfl rfl rfl (by rw [XA_nil]; rfl)
      · refine aw_aload_n (aw_d q_Mo_commaValue 26 rfl) rfl rfl rfl ?_
        refine cVr (aw_d q_Mo_commaValue 27 rfl) (sp_peekN (frM_TP hI.1 hc) (b := p) (by have := hc.2.1; omega)) vL_Mo_363_Mo rfl rfl rfl rfl rfl rfl ⟨aw_le rfl, aw_le rfl⟩ ?_
        refine aw_bipush (v := nI 58) (aw_d q_Mo_commaValue 28 rfl) (by decide) ?_
        refine aw_icmpI_ne (tgt := 69) (aw_d q_Mo_commaValue 29 rfl) (by decide) (by (have hc2 := hc.2.1; omega)) (fun c52 => ?_) (fun c52 => ?_)
        · refine aw_iload_n (aw_d q_Mo_commaValue 38 rfl) rfl rfl ?_
          refine aw_bipush (v := nI 44) (aw_d q_Mo_commaValue 39 rfl) (by decide) ?_
          refine aw_icmpI_eq (tgt := 185) (aw_d q_Mo_commaValue 40 rfl) (by decide) (by (have hc2 := hc.2.1; omega)) (fun c72 => ?_) (fun c72 => ?_)
          · exact aw_vret (aw_d q_Mo_commaValue 96 rfl) rfl (by rw [show cv T p = .ok (p, none) by rw [cv, if_neg (by omega), if_neg (by omega), if_pos (by omega)]]; exact lvM_no hI hs hp)
          · refine aw_iload_n (aw_d q_Mo_commaValue 41 rfl) rfl rfl ?_
            refine aw_bipush (v := nI 13) (aw_d q_Mo_commaValue 42 rfl) (by decide) ?_
            refine aw_icmpI_eq (tgt := 185) (aw_d q_Mo_commaValue 43 rfl) (by decide) (by (have hc2 := hc.2.1; omega)) (fun c78 => ?_) (fun c78 => ?_)
            · exact aw_vret (aw_d q_Mo_commaValue 96 rfl) rfl (by rw [show cv T p = .ok (p, none) by rw [cv, if_neg (by omega), if_neg (by omega), if_pos (by omega)]]; exact lvM_no hI hs hp)
            · refine aw_iload_n (aw_d q_Mo_commaValue 44 rfl) rfl rfl ?_
              refine aw_ifI_lt (tgt := 185) (aw_d q_Mo_commaValue 45 rfl) (by decide) (fun c82 => ?_) (fun c82 => ?_)
              · exact aw_vret (aw_d q_Mo_commaValue 96 rfl) rfl (by rw [show cv T p = .ok (p, none) by rw [cv, if_neg (by omega), if_neg (by omega), if_pos (by omega)]]; exact lvM_no hI hs hp)
              · exact AW.to (lp_cvM hI hs hv hc (c := T p) 21 p [] _ rfl hp (by decide) rfl (by rw [cv, if_neg (by omega), if_neg (by omega), if_neg (by omega)])) rfl rfl rfl (by rw [XA_nil]; rfl)
        · refine aw_aload_n (aw_d q_Mo_commaValue 30 rfl) rfl rfl rfl ?_
          refine cV (aw_d q_Mo_commaValue 31 rfl) (sp_blankA (frM_TP hI.1 hc) hp) vL_Mo_467_Mo rfl rfl rfl rfl rfl rfl ⟨aw_le rfl, aw_le rfl⟩ (fun r56 h56 hp56 => ?_)
          obtain ⟨rfl, hp56⟩ := hp56
          cases hx56 : bd (mu T (tx 50) p) (bkT T) with
          | error u56 =>
            rw [hx56] at hp56
            obtain ⟨hu56, b56, z56, X56, hb56, rfl⟩ := hp56
            refine aw_aload_n (aw_d q_Mo_commaValue 32 rfl) rfl rfl rfl ?_
            refine aw_iload_n (aw_d q_Mo_commaValue 33 rfl) rfl rfl ?_
            refine aw_iconst (v := nI 1) (aw_d q_Mo_commaValue 34 rfl) (by decide) ?_
            refine aw_iconst (v := nI 0) (aw_d q_Mo_commaValue 35 rfl) (by decide) ?_
            refine cVv (aw_d q_Mo_commaValue 36 rfl) (sp_giveI (Nat.le_trans hu56 hc.2.1) hb56) vL_Mo_430_Mo rfl rfl rfl rfl rfl rfl ⟨aw_le rfl, aw_le rfl⟩ ?_
            refine aw_goto (tgt := 185) (aw_d q_Mo_commaValue 37 rfl) (by decide) ?_
            exact aw_vret (aw_d q_Mo_commaValue 96 rfl) rfl (by rw [show cv T p = .error u56 by rw [cv, if_neg (by omega), if_pos (by omega), show bkT T (p + 2) = bd (mu T (tx 50) p) (bkT T) from by rw [mu50 (by omega) (by omega), bd_ok], hx56, bd_er]]; exact lvM_er (Nat.le_trans hu56 hc.2.1) hI.1 hb56)
          | ok y56 =>
            rw [hx56] at hp56
            obtain ⟨hy56, ho56, rfl⟩ := hp56
            refine aw_aload_n (aw_d q_Mo_commaValue 32 rfl) rfl rfl rfl ?_
            refine aw_iload_n (aw_d q_Mo_commaValue 33 rfl) rfl rfl ?_
            refine aw_iconst (v := nI 1) (aw_d q_Mo_commaValue 34 rfl) (by decide) ?_
            refine aw_iconst (v := nI 0) (aw_d q_Mo_commaValue 35 rfl) (by decide) ?_
            refine cV (aw_d q_Mo_commaValue 36 rfl) (sp_giveA (kd := 1) (ex := 0) (L := y56.2) hI hs hv hy56.2.1) vL_Mo_430_Mo rfl rfl rfl rfl rfl rfl ⟨aw_le rfl, aw_le rfl⟩ (fun r63 h63 hp63 => ?_)
            obtain ⟨rfl, F63, hI63, rfl⟩ := hp63
            refine aw_goto (tgt := 185) (aw_d q_Mo_commaValue 37 rfl) (by decide) ?_
            exact aw_vret (aw_d q_Mo_commaValue 96 rfl) rfl (by rw [show cv T p = .ok (y56.1, some (1, 0, y56.2)) by rw [cv, if_neg (by omega), if_pos (by omega), show bkT T (p + 2) = bd (mu T (tx 50) p) (bkT T) from by rw [mu50 (by omega) (by omega), bd_ok], hx56, bd_ok]]; exact lvM_so hI63 hs (itW_i (kd := 1) (ex := 0) (by decide) hy56.2.1 (by decide) (fun h => absurd h (by decide)) (fun _ => rfl) hy56.2.2 (ho56)) hy56.1)
    · refine aw_aload_n (aw_d q_Mo_commaValue 9 rfl) rfl rfl rfl ?_
      refine aw_dup (aw_d q_Mo_commaValue 10 rfl) rfl ?_
      refine aw_getf (v := .int (nI (p))) (aw_d q_Mo_commaValue 11 rfl) fL_Mo_324_Mo rfl (gk rfl) ?_
      refine aw_iconst (v := nI 1) (aw_d q_Mo_commaValue 12 rfl) (by decide) ?_
      refine aw_iaddN (aw_d q_Mo_commaValue 13 rfl) ?_
      refine wi_33_31 (aw_d q_Mo_commaValue 14 rfl) pL_Mo_324_Mo ?_
      have hpn26s : p + 1 ≤ n := T_lt hc.2.2.2.1 (p := p) (by omega)
      refine AW.to (h' := HP (QM D (nI (p + 1)) (-1) f (nI 0) X)) ?_ rfl rfl rfl rfl
      · skip
        refine aw_aload_n (aw_d q_Mo_commaValue 15 rfl) rfl rfl rfl ?_
        refine cV (aw_d q_Mo_commaValue 16 rfl) (sp_ctextA (z := 0) (frM_TP hI.1 hc) hpn26s) vL_Mo_464_Mo rfl rfl rfl rfl rfl rfl ⟨aw_le rfl, aw_le rfl⟩ (fun r27 h27 hp27 => ?_)
        obtain ⟨rfl, hp27⟩ := hp27
        cases hx27 : cq T 21 (p + 1) [] with
        | error u27 =>
          rw [hx27] at hp27
          obtain ⟨hu27, b27, z27, X27, hb27, rfl⟩ := hp27
          refine aw_aload_n (aw_d q_Mo_commaValue 17 rfl) rfl rfl rfl ?_
          refine aw_iload_n (aw_d q_Mo_commaValue 18 rfl) rfl rfl ?_
          refine aw_iconst (v := nI 2) (aw_d q_Mo_commaValue 19 rfl) (by decide) ?_
          refine aw_iconst (v := nI 0) (aw_d q_Mo_commaValue 20 rfl) (by decide) ?_
          refine cVv (aw_d q_Mo_commaValue 21 rfl) (sp_giveI (Nat.le_trans hu27 hc.2.1) hb27) vL_Mo_430_Mo rfl rfl rfl rfl rfl rfl ⟨aw_le rfl, aw_le rfl⟩ ?_
          refine aw_goto (tgt := 185) (aw_d q_Mo_commaValue 22 rfl) (by decide) ?_
          exact aw_vret (aw_d q_Mo_commaValue 96 rfl) rfl (by rw [show cv T p = .error u27 by rw [cv, if_pos (by omega), hx27, bd_er]]; exact lvM_er (Nat.le_trans hu27 hc.2.1) hI.1 hb27)
        | ok y27 =>
          rw [hx27] at hp27
          obtain ⟨hy27, rfl⟩ := hp27
          refine aw_aload_n (aw_d q_Mo_commaValue 17 rfl) rfl rfl rfl ?_
          refine aw_iload_n (aw_d q_Mo_commaValue 18 rfl) rfl rfl ?_
          refine aw_iconst (v := nI 2) (aw_d q_Mo_commaValue 19 rfl) (by decide) ?_
          refine aw_iconst (v := nI 0) (aw_d q_Mo_commaValue 20 rfl) (by decide) ?_
          refine cV (aw_d q_Mo_commaValue 21 rfl) (sp_giveA (kd := 2) (ex := 0) (L := y27.2) hI hs hv hy27.2.1) vL_Mo_430_Mo rfl rfl rfl rfl rfl rfl ⟨aw_le rfl, aw_le rfl⟩ (fun r34 h34 hp34 => ?_)
          obtain ⟨rfl, F34, hI34, rfl⟩ := hp34
          refine aw_goto (tgt := 185) (aw_d q_Mo_commaValue 22 rfl) (by decide) ?_
          exact aw_vret (aw_d q_Mo_commaValue 96 rfl) rfl (by rw [show cv T p = .ok (y27.1, some (2, 0, y27.2)) by rw [cv, if_pos (by omega), hx27, bd_ok]]; exact lvM_so hI34 hs (itW_i (kd := 2) (ex := 0) (by decide) hy27.2.1 (by decide) (fun h => absurd h (by decide)) (fun _ => rfl) hy27.2.2 (rfl)) hy27.1)
set_option maxRecDepth 20000 in
theorem sp_cvI {g : aw_G} {S : aw_S} {u b : Nat} {f z : Int32} {X : Nat → Int32} (hu : u ≤ 3000) (hb : b ≤ 3000) {x : Int32} {n : Nat} {T : Nat → Int32} (hc : TPm S n T) : Sp g M_Mo_commaValue 3 67 0 0 [.ref 33, .int x] (HP (QM S (nI b) (nI u) f z X)) (fun x h => x = none ∧ ∃ (b2 : Nat) (f z : Int32) (X : Nat → Int32), b2 ≤ b + 1 ∧ h = HP (QM S (nI b2) (nI u) f z X)) := by
  refine Sp.of rfl (aw_le rfl) ?_
  have hc2 := hc.2.1
  refine aw_aload_n (aw_d q_Mo_commaValue 0 rfl) rfl rfl rfl ?_
  refine cVr (aw_d q_Mo_commaValue 1 rfl) (sp_peek hc (b := b) (by omega)) vL_Mo_331_Mo rfl rfl rfl rfl rfl rfl ⟨aw_le rfl, aw_le rfl⟩ ?_
  refine aw_istore_n (aw_d q_Mo_commaValue 2 rfl) rfl (aw_le rfl) rfl ?_
  refine aw_aload_n (aw_d q_Mo_commaValue 3 rfl) rfl rfl rfl ?_
  refine aw_iconst (v := nI 0) (aw_d q_Mo_commaValue 4 rfl) (by decide) ?_
  refine wi_33_34 (aw_d q_Mo_commaValue 5 rfl) pL_Mo_93_Mo ?_
  refine AW.to (h' := HP (QM S (nI b) (nI u) f (nI 0) X)) ?_ rfl rfl rfl rfl
  · skip
    refine aw_iload_n (aw_d q_Mo_commaValue 6 rfl) rfl rfl ?_
    refine aw_bipush (v := nI 34) (aw_d q_Mo_commaValue 7 rfl) (by decide) ?_
    refine aw_icmpI_ne (tgt := 40) (aw_d q_Mo_commaValue 8 rfl) (by decide) (by omega) (fun c13 => ?_) (fun c13 => ?_)
    · refine aw_iload_n (aw_d q_Mo_commaValue 23 rfl) rfl rfl ?_
      refine aw_bipush (v := nI 95) (aw_d q_Mo_commaValue 24 rfl) (by decide) ?_
      refine aw_icmpI_ne (tgt := 69) (aw_d q_Mo_commaValue 25 rfl) (by decide) (by omega) (fun c43 => ?_) (fun c43 => ?_)
      · refine aw_iload_n (aw_d q_Mo_commaValue 38 rfl) rfl rfl ?_
        refine aw_bipush (v := nI 44) (aw_d q_Mo_commaValue 39 rfl) (by decide) ?_
        refine aw_icmpI_eq (tgt := 185) (aw_d q_Mo_commaValue 40 rfl) (by decide) (by omega) (fun c72 => ?_) (fun c72 => ?_)
        · exact aw_vret (aw_d q_Mo_commaValue 96 rfl) rfl (⟨rfl, _, _, _, _, by omega, rfl⟩)
        · refine aw_iload_n (aw_d q_Mo_commaValue 41 rfl) rfl rfl ?_
          refine aw_bipush (v := nI 13) (aw_d q_Mo_commaValue 42 rfl) (by decide) ?_
          refine aw_icmpI_eq (tgt := 185) (aw_d q_Mo_commaValue 43 rfl) (by decide) (by omega) (fun c78 => ?_) (fun c78 => ?_)
          · exact aw_vret (aw_d q_Mo_commaValue 96 rfl) rfl (⟨rfl, _, _, _, _, by omega, rfl⟩)
          · refine aw_iload_n (aw_d q_Mo_commaValue 44 rfl) rfl rfl ?_
            refine aw_ifI_lt (tgt := 185) (aw_d q_Mo_commaValue 45 rfl) (by decide) (fun c82 => ?_) (fun c82 => ?_)
            · exact aw_vret (aw_d q_Mo_commaValue 96 rfl) rfl (⟨rfl, _, _, _, _, by omega, rfl⟩)
            · refine aw_aload_n (aw_d q_Mo_commaValue 46 rfl) rfl rfl rfl ?_
              refine cVr (aw_d q_Mo_commaValue 47 rfl) (sp_goesI hu) vL_Mo_327_Mo rfl rfl rfl rfl rfl rfl ⟨aw_le rfl, aw_le rfl⟩ ?_
              refine aw_ifN_eq (tgt := 178) (aw_d q_Mo_commaValue 48 rfl) (by decide) (by omega) (fun c89 => ?_) (fun c89 => by exfalso; omega)
              refine aw_aload_n (aw_d q_Mo_commaValue 91 rfl) rfl rfl rfl ?_
              refine aw_iload_n (aw_d q_Mo_commaValue 92 rfl) rfl rfl ?_
              refine aw_iconst (v := nI 2) (aw_d q_Mo_commaValue 93 rfl) (by decide) ?_
              refine aw_iconst (v := nI 0) (aw_d q_Mo_commaValue 94 rfl) (by decide) ?_
              refine cVv (aw_d q_Mo_commaValue 95 rfl) (sp_giveI hu (show b ≤ 3010 by omega)) vL_Mo_430_Mo rfl rfl rfl rfl rfl rfl ⟨aw_le rfl, aw_le rfl⟩ ?_
              exact aw_vret (aw_d q_Mo_commaValue 96 rfl) rfl (⟨rfl, _, _, _, _, by omega, rfl⟩)
      · refine aw_aload_n (aw_d q_Mo_commaValue 26 rfl) rfl rfl rfl ?_
        refine cVr (aw_d q_Mo_commaValue 27 rfl) (sp_peekN hc (b := b) (by omega)) vL_Mo_363_Mo rfl rfl rfl rfl rfl rfl ⟨aw_le rfl, aw_le rfl⟩ ?_
        refine aw_bipush (v := nI 58) (aw_d q_Mo_commaValue 28 rfl) (by decide) ?_
        refine aw_icmpI_ne (tgt := 69) (aw_d q_Mo_commaValue 29 rfl) (by decide) (by omega) (fun c52 => ?_) (fun c52 => ?_)
        · refine aw_iload_n (aw_d q_Mo_commaValue 38 rfl) rfl rfl ?_
          refine aw_bipush (v := nI 44) (aw_d q_Mo_commaValue 39 rfl) (by decide) ?_
          refine aw_icmpI_eq (tgt := 185) (aw_d q_Mo_commaValue 40 rfl) (by decide) (by omega) (fun c72 => ?_) (fun c72 => ?_)
          · exact aw_vret (aw_d q_Mo_commaValue 96 rfl) rfl (⟨rfl, _, _, _, _, by omega, rfl⟩)
          · refine aw_iload_n (aw_d q_Mo_commaValue 41 rfl) rfl rfl ?_
            refine aw_bipush (v := nI 13) (aw_d q_Mo_commaValue 42 rfl) (by decide) ?_
            refine aw_icmpI_eq (tgt := 185) (aw_d q_Mo_commaValue 43 rfl) (by decide) (by omega) (fun c78 => ?_) (fun c78 => ?_)
            · exact aw_vret (aw_d q_Mo_commaValue 96 rfl) rfl (⟨rfl, _, _, _, _, by omega, rfl⟩)
            · refine aw_iload_n (aw_d q_Mo_commaValue 44 rfl) rfl rfl ?_
              refine aw_ifI_lt (tgt := 185) (aw_d q_Mo_commaValue 45 rfl) (by decide) (fun c82 => ?_) (fun c82 => ?_)
              · exact aw_vret (aw_d q_Mo_commaValue 96 rfl) rfl (⟨rfl, _, _, _, _, by omega, rfl⟩)
              · refine aw_aload_n (aw_d q_Mo_commaValue 46 rfl) rfl rfl rfl ?_
                refine cVr (aw_d q_Mo_commaValue 47 rfl) (sp_goesI hu) vL_Mo_327_Mo rfl rfl rfl rfl rfl rfl ⟨aw_le rfl, aw_le rfl⟩ ?_
                refine aw_ifN_eq (tgt := 178) (aw_d q_Mo_commaValue 48 rfl) (by decide) (by omega) (fun c89 => ?_) (fun c89 => by exfalso; omega)
                refine aw_aload_n (aw_d q_Mo_commaValue 91 rfl) rfl rfl rfl ?_
                refine aw_iload_n (aw_d q_Mo_commaValue 92 rfl) rfl rfl ?_
                refine aw_iconst (v := nI 2) (aw_d q_Mo_commaValue 93 rfl) (by decide) ?_
                refine aw_iconst (v := nI 0) (aw_d q_Mo_commaValue 94 rfl) (by decide) ?_
                refine cVv (aw_d q_Mo_commaValue 95 rfl) (sp_giveI hu (show b ≤ 3010 by omega)) vL_Mo_430_Mo rfl rfl rfl rfl rfl rfl ⟨aw_le rfl, aw_le rfl⟩ ?_
                exact aw_vret (aw_d q_Mo_commaValue 96 rfl) rfl (⟨rfl, _, _, _, _, by omega, rfl⟩)
        · refine aw_aload_n (aw_d q_Mo_commaValue 30 rfl) rfl rfl rfl ?_
          refine cVv (aw_d q_Mo_commaValue 31 rfl) (sp_blankI hu (show b ≤ 3010 by omega)) vL_Mo_467_Mo rfl rfl rfl rfl rfl rfl ⟨aw_le rfl, aw_le rfl⟩ ?_
          refine aw_aload_n (aw_d q_Mo_commaValue 32 rfl) rfl rfl rfl ?_
          refine aw_iload_n (aw_d q_Mo_commaValue 33 rfl) rfl rfl ?_
          refine aw_iconst (v := nI 1) (aw_d q_Mo_commaValue 34 rfl) (by decide) ?_
          refine aw_iconst (v := nI 0) (aw_d q_Mo_commaValue 35 rfl) (by decide) ?_
          refine cVv (aw_d q_Mo_commaValue 36 rfl) (sp_giveI hu (show b ≤ 3010 by omega)) vL_Mo_430_Mo rfl rfl rfl rfl rfl rfl ⟨aw_le rfl, aw_le rfl⟩ ?_
          refine aw_goto (tgt := 185) (aw_d q_Mo_commaValue 37 rfl) (by decide) ?_
          exact aw_vret (aw_d q_Mo_commaValue 96 rfl) rfl (⟨rfl, _, _, _, _, by omega, rfl⟩)
    · refine aw_aload_n (aw_d q_Mo_commaValue 9 rfl) rfl rfl rfl ?_
      refine aw_dup (aw_d q_Mo_commaValue 10 rfl) rfl ?_
      refine aw_getf (v := .int (nI (b))) (aw_d q_Mo_commaValue 11 rfl) fL_Mo_324_Mo rfl (gk rfl) ?_
      refine aw_iconst (v := nI 1) (aw_d q_Mo_commaValue 12 rfl) (by decide) ?_
      refine aw_iaddN (aw_d q_Mo_commaValue 13 rfl) ?_
      refine wi_33_31 (aw_d q_Mo_commaValue 14 rfl) pL_Mo_324_Mo ?_
      refine AW.to (h' := HP (QM S (nI (b + 1)) (nI u) f (nI 0) X)) ?_ rfl rfl rfl rfl
      · skip
        refine aw_aload_n (aw_d q_Mo_commaValue 15 rfl) rfl rfl rfl ?_
        refine cVv (aw_d q_Mo_commaValue 16 rfl) (sp_ctextI hu (show b + 1 ≤ 3010 by omega)) vL_Mo_464_Mo rfl rfl rfl rfl rfl rfl ⟨aw_le rfl, aw_le rfl⟩ ?_
        refine aw_aload_n (aw_d q_Mo_commaValue 17 rfl) rfl rfl rfl ?_
        refine aw_iload_n (aw_d q_Mo_commaValue 18 rfl) rfl rfl ?_
        refine aw_iconst (v := nI 2) (aw_d q_Mo_commaValue 19 rfl) (by decide) ?_
        refine aw_iconst (v := nI 0) (aw_d q_Mo_commaValue 20 rfl) (by decide) ?_
        refine cVv (aw_d q_Mo_commaValue 21 rfl) (sp_giveI hu (show b + 1 ≤ 3010 by omega)) vL_Mo_430_Mo rfl rfl rfl rfl rfl rfl ⟨aw_le rfl, aw_le rfl⟩ ?_
        refine aw_goto (tgt := 185) (aw_d q_Mo_commaValue 22 rfl) (by decide) ?_
        exact aw_vret (aw_d q_Mo_commaValue 96 rfl) rfl (⟨rfl, _, _, _, _, by omega, rfl⟩)
set_option maxRecDepth 20000 in
theorem lp_tvN {g : aw_G} {S : aw_S} {D : aw_S} {N : nm_T} {r : Nat} {s : sq_T} {n : Nat} {T : Nat → Int32} {v : Nat} {f : Int32} {X : Nat → Int32} (hI : imC S N (r + 1) s D) (hs : itOK s (r * 6 + v)) (hv : v < N.1) (hc : TPm S n T) {c : Int32} {a : Nat} (han : a ≤ n) {res : Except Nat (Nat × Option (Nat × Nat × List Int32))} : ∀ (m p : Nat) (L : List Int32), m + L.length = 21 → p ≤ n → L.length ≤ 20 → L.all pTx = true → res = bd (okT 0 a (xn T m p L)) (fun z => .ok (z.1 + 1, some (0, 0, z.2))) → AW g M_Mo_tabValue (aw_rm 4 88 0 0) (aw_F g 0 0 (lvM S n N r v s res)) 31 [some (.ref 33), some (.int (nI v)), some (.int c), some (.int (nI a)), none] [] (HP (QM D (nI p) (-1) f (nI (L).length) (XA (L) X))) 0 0 := by
  have hc2 := hc.2.1
  intro m
  induction m with
  | zero => intro p L hk hp h20 hal he; exfalso; omega
  | succ m ih =>
    intro p L hk hp h20 hal he
    refine aw_aload_n (aw_d q_Mo_tabValue 18 rfl) rfl rfl rfl ?_
    refine cVr (aw_d q_Mo_tabValue 19 rfl) (sp_goesA) vL_Mo_327_Mo rfl rfl rfl rfl rfl rfl ⟨aw_le rfl, aw_le rfl⟩ ?_
    refine aw_ifN_eq (tgt := 93) (aw_d q_Mo_tabValue 20 rfl) (by decide) (by (have hc2 := hc.2.1; omega)) (fun c35 => by exfalso; (have hc2 := hc.2.1; omega)) (fun c35 => ?_)
    refine aw_aload_n (aw_d q_Mo_tabValue 21 rfl) rfl rfl rfl ?_
    refine cVr (aw_d q_Mo_tabValue 22 rfl) (sp_peek (frM_TP hI.1 hc) (b := p) (by have := hc.2.1; omega)) vL_Mo_331_Mo rfl rfl rfl rfl rfl rfl ⟨aw_le rfl, aw_le rfl⟩ ?_
    refine aw_bipush (v := nI 62) (aw_d q_Mo_tabValue 23 rfl) (by decide) ?_
    refine aw_icmpI_eq (tgt := 93) (aw_d q_Mo_tabValue 24 rfl) (by decide) (by (have hc2 := hc.2.1; omega)) (fun c44 => ?_) (fun c44 => ?_)
    · refine aw_aload_n (aw_d q_Mo_tabValue 47 rfl) rfl rfl rfl ?_
      refine aw_iconst (v := nI 0) (aw_d q_Mo_tabValue 48 rfl) (by decide) ?_
      refine aw_iload_n (aw_d q_Mo_tabValue 49 rfl) rfl rfl ?_
      refine cV (aw_d q_Mo_tabValue 50 rfl) (sp_checkA (L := L) (kd := 0) (x := nI a) h20 hal (by decide)) vL_Mo_417_Mo rfl rfl rfl rfl rfl rfl ⟨aw_le rfl, aw_le rfl⟩ (fun r96 h96 hp96 => ?_)
      obtain ⟨rfl, hp96⟩ := hp96
      rcases hp96 with ⟨hk96, rfl⟩ | ⟨hk96, rfl⟩
      · skip -- ok
        refine aw_aload_n (aw_d q_Mo_tabValue 51 rfl) rfl rfl rfl ?_
        refine aw_ldc2 (aw_d q_Mo_tabValue 52 rfl) lL_Mo_249 ?_
        refine aw_iconst (v := nI 1) (aw_d q_Mo_tabValue 53 rfl) (by decide) ?_
        refine cV (aw_d q_Mo_tabValue 54 rfl) (sp_mmust (res := .ok (p, ())) (x := 62) (j := 1) (frM_TP hI.1 hc) (by decide) (RR_ok rfl hp rfl)) vL_Mo_340_Mo rfl rfl rfl rfl rfl rfl ⟨aw_le rfl, aw_le rfl⟩ (fun r104 h104 hp104 => ?_)
        obtain ⟨rfl, b104, q104, hr104, rfl⟩ := hp104
        rw [bp_ok, show mu T (eB 62 1) p = .ok (p + 1) from mu1 (show eB 62 1 = [62] by decide) (show (T p).toInt = (62 : Int32).toInt from (show (T p).toInt = 62 by omega))] at hr104
        obtain ⟨hbb104, hp_104, rfl⟩ := hr104
        have hbb104 : b104 = p + 1 := hbb104
        subst hbb104
        refine aw_aload_n (aw_d q_Mo_tabValue 55 rfl) rfl rfl rfl ?_
        refine aw_iload_n (aw_d q_Mo_tabValue 56 rfl) rfl rfl ?_
        refine aw_iconst (v := nI 0) (aw_d q_Mo_tabValue 57 rfl) (by decide) ?_
        refine aw_iconst (v := nI 0) (aw_d q_Mo_tabValue 58 rfl) (by decide) ?_
        refine cV (aw_d q_Mo_tabValue 59 rfl) (sp_giveA (kd := 0) (ex := 0) (L := L) hI hs hv h20) vL_Mo_430_Mo rfl rfl rfl rfl rfl rfl ⟨aw_le rfl, aw_le rfl⟩ (fun r111 h111 hp111 => ?_)
        obtain ⟨rfl, F111, hI111, rfl⟩ := hp111
        refine aw_goto (tgt := 273) (aw_d q_Mo_tabValue 60 rfl) (by decide) ?_
        exact aw_vret (aw_d q_Mo_tabValue 143 rfl) rfl (by rw [show res = .ok (p + 1, some (0, 0, L)) from he.trans (by rw [xn, if_pos (by omega), okT, bd_ok, if_pos hk96, bd_ok])]; exact lvM_so hI111 hs (itW_i (kd := 0) (ex := 0) (by decide) h20 (by decide) (fun h => absurd h (by decide)) (fun _ => rfl) hal hk96) hp_104)
      · skip -- no
        refine aw_aload_n (aw_d q_Mo_tabValue 51 rfl) rfl rfl rfl ?_
        refine aw_ldc2 (aw_d q_Mo_tabValue 52 rfl) lL_Mo_249 ?_
        refine aw_iconst (v := nI 1) (aw_d q_Mo_tabValue 53 rfl) (by decide) ?_
        refine cVv (aw_d q_Mo_tabValue 54 rfl) (sp_mustI (u := a) (by have := hc.2.1; omega) (by decide)) vL_Mo_340_Mo rfl rfl rfl rfl rfl rfl ⟨aw_le rfl, aw_le rfl⟩ ?_
        refine aw_aload_n (aw_d q_Mo_tabValue 55 rfl) rfl rfl rfl ?_
        refine aw_iload_n (aw_d q_Mo_tabValue 56 rfl) rfl rfl ?_
        refine aw_iconst (v := nI 0) (aw_d q_Mo_tabValue 57 rfl) (by decide) ?_
        refine aw_iconst (v := nI 0) (aw_d q_Mo_tabValue 58 rfl) (by decide) ?_
        refine cVv (aw_d q_Mo_tabValue 59 rfl) (sp_giveI (u := a) (by have := hc.2.1; omega) (b := p) (by have := hc.2.1; omega)) vL_Mo_430_Mo rfl rfl rfl rfl rfl rfl ⟨aw_le rfl, aw_le rfl⟩ ?_
        refine aw_goto (tgt := 273) (aw_d q_Mo_tabValue 60 rfl) (by decide) ?_
        exact aw_vret (aw_d q_Mo_tabValue 143 rfl) rfl (by rw [show res = .error a from he.trans (by rw [xn, if_pos (by omega), okT, bd_ok, if_neg hk96, bd_er])]; exact lvM_er (by have := hc.2.1; omega) hI.1 (by have := hc.2.1; omega))
    · refine aw_aload_n (aw_d q_Mo_tabValue 25 rfl) rfl rfl rfl ?_
      refine cVr (aw_d q_Mo_tabValue 26 rfl) (sp_peek (frM_TP hI.1 hc) (b := p) (by have := hc.2.1; omega)) vL_Mo_331_Mo rfl rfl rfl rfl rfl rfl ⟨aw_le rfl, aw_le rfl⟩ ?_
      refine cSr (aw_d q_Mo_tabValue 27 rfl) (sp_Mo_isText) sL_Mo_106 rfl rfl rfl rfl ⟨aw_le rfl, aw_le rfl⟩ ?_
      refine aw_ifB_eq (tgt := 82) (aw_d q_Mo_tabValue 28 rfl) (by decide) (fun c54 => ?_) (fun c54 => ?_)
      · refine aw_aload_n (aw_d q_Mo_tabValue 42 rfl) rfl rfl rfl ?_
        refine aw_aload_n (aw_d q_Mo_tabValue 43 rfl) rfl rfl rfl ?_
        refine aw_getf (v := .int (nI (p))) (aw_d q_Mo_tabValue 44 rfl) fL_Mo_324_Mo rfl (gk rfl) ?_
        refine cVv (aw_d q_Mo_tabValue 45 rfl) (sp_mfailA) vL_Mo_334_Mo rfl rfl rfl rfl rfl rfl ⟨aw_le rfl, aw_le rfl⟩ ?_
        refine aw_goto (tgt := 31) (aw_d q_Mo_tabValue 46 rfl) (by decide) ?_
        have hz : res = .error p := he.trans (by rw [xn, if_neg (by omega), if_pos (Or.inr (by simpa using c54))]; rfl)
        refine AW.to (h' := HP (QM D (nI p) (nI p) f (nI (L).length) (XA (L) X))) ?_ rfl rfl rfl rfl
        refine aw_aload_n (aw_d q_Mo_tabValue 18 rfl) rfl rfl rfl ?_
        refine cVr (aw_d q_Mo_tabValue 19 rfl) (sp_goesI (u := p) (by have := hc.2.1; omega)) vL_Mo_327_Mo rfl rfl rfl rfl rfl rfl ⟨aw_le rfl, aw_le rfl⟩ ?_
        refine aw_ifN_eq (tgt := 93) (aw_d q_Mo_tabValue 20 rfl) (by decide) (by omega) (fun c35 => ?_) (fun c35 => by exfalso; omega)
        refine aw_aload_n (aw_d q_Mo_tabValue 47 rfl) rfl rfl rfl ?_
        refine aw_iconst (v := nI 0) (aw_d q_Mo_tabValue 48 rfl) (by decide) ?_
        refine aw_iload_n (aw_d q_Mo_tabValue 49 rfl) rfl rfl ?_
        refine cVv (aw_d q_Mo_tabValue 50 rfl) (sp_checkI (u := p) (by have := hc.2.1; omega) (b := p) (by have := hc.2.1; omega)) vL_Mo_417_Mo rfl rfl rfl rfl rfl rfl ⟨aw_le rfl, aw_le rfl⟩ ?_
        refine aw_aload_n (aw_d q_Mo_tabValue 51 rfl) rfl rfl rfl ?_
        refine aw_ldc2 (aw_d q_Mo_tabValue 52 rfl) lL_Mo_249 ?_
        refine aw_iconst (v := nI 1) (aw_d q_Mo_tabValue 53 rfl) (by decide) ?_
        refine cVv (aw_d q_Mo_tabValue 54 rfl) (sp_mustI (u := p) (by have := hc.2.1; omega) (by decide)) vL_Mo_340_Mo rfl rfl rfl rfl rfl rfl ⟨aw_le rfl, aw_le rfl⟩ ?_
        refine aw_aload_n (aw_d q_Mo_tabValue 55 rfl) rfl rfl rfl ?_
        refine aw_iload_n (aw_d q_Mo_tabValue 56 rfl) rfl rfl ?_
        refine aw_iconst (v := nI 0) (aw_d q_Mo_tabValue 57 rfl) (by decide) ?_
        refine aw_iconst (v := nI 0) (aw_d q_Mo_tabValue 58 rfl) (by decide) ?_
        refine cVv (aw_d q_Mo_tabValue 59 rfl) (sp_giveI (u := p) (by have := hc.2.1; omega) (b := p) (by have := hc.2.1; omega)) vL_Mo_430_Mo rfl rfl rfl rfl rfl rfl ⟨aw_le rfl, aw_le rfl⟩ ?_
        refine aw_goto (tgt := 273) (aw_d q_Mo_tabValue 60 rfl) (by decide) ?_
        exact aw_vret (aw_d q_Mo_tabValue 143 rfl) rfl (by rw [hz]; exact lvM_er (by have := hc.2.1; omega) hI.1 (by have := hc.2.1; omega))
      · refine aw_aload_n (aw_d q_Mo_tabValue 29 rfl) rfl rfl rfl ?_
        refine aw_aload_n (aw_d q_Mo_tabValue 30 rfl) rfl rfl rfl ?_
        refine cVr (aw_d q_Mo_tabValue 31 rfl) (sp_peek (frM_TP hI.1 hc) (b := p) (by have := hc.2.1; omega)) vL_Mo_331_Mo rfl rfl rfl rfl rfl rfl ⟨aw_le rfl, aw_le rfl⟩ ?_
        refine aw_aload_n (aw_d q_Mo_tabValue 32 rfl) rfl rfl rfl ?_
        refine aw_getf (v := .int (nI (p))) (aw_d q_Mo_tabValue 33 rfl) fL_Mo_324_Mo rfl (gk rfl) ?_
        refine cV (aw_d q_Mo_tabValue 34 rfl) (sp_add (L := L) (x := nI p) (c := (T p)) h20) vL_Mo_366_Mo rfl rfl rfl rfl rfl rfl ⟨aw_le rfl, aw_le rfl⟩ (fun r66 h66 hp66 => ?_)
        obtain ⟨rfl, hp66⟩ := hp66
        rcases hp66 with ⟨hl66, rfl⟩ | ⟨hl66, rfl⟩
        · skip -- full
          refine aw_aload_n (aw_d q_Mo_tabValue 35 rfl) rfl rfl rfl ?_
          refine aw_dup (aw_d q_Mo_tabValue 36 rfl) rfl ?_
          refine aw_getf (v := .int (nI (p))) (aw_d q_Mo_tabValue 37 rfl) fL_Mo_324_Mo rfl (gk rfl) ?_
          refine aw_iconst (v := nI 1) (aw_d q_Mo_tabValue 38 rfl) (by decide) ?_
          refine aw_iaddN (aw_d q_Mo_tabValue 39 rfl) ?_
          refine wi_33_31 (aw_d q_Mo_tabValue 40 rfl) pL_Mo_324_Mo ?_
          refine aw_goto (tgt := 31) (aw_d q_Mo_tabValue 41 rfl) (by decide) ?_
          have hz : res = .error p := he.trans (by rw [xn, if_neg (by omega), if_pos (Or.inl (by omega))]; rfl)
          refine AW.to (h' := HP (QM D (nI (p + 1)) (nI p) f (nI (L).length) (XA (L) X))) ?_ rfl rfl rfl rfl
          refine aw_aload_n (aw_d q_Mo_tabValue 18 rfl) rfl rfl rfl ?_
          refine cVr (aw_d q_Mo_tabValue 19 rfl) (sp_goesI (u := p) (by have := hc.2.1; omega)) vL_Mo_327_Mo rfl rfl rfl rfl rfl rfl ⟨aw_le rfl, aw_le rfl⟩ ?_
          refine aw_ifN_eq (tgt := 93) (aw_d q_Mo_tabValue 20 rfl) (by decide) (by omega) (fun c35 => ?_) (fun c35 => by exfalso; omega)
          refine aw_aload_n (aw_d q_Mo_tabValue 47 rfl) rfl rfl rfl ?_
          refine aw_iconst (v := nI 0) (aw_d q_Mo_tabValue 48 rfl) (by decide) ?_
          refine aw_iload_n (aw_d q_Mo_tabValue 49 rfl) rfl rfl ?_
          refine cVv (aw_d q_Mo_tabValue 50 rfl) (sp_checkI (u := p) (by have := hc.2.1; omega) (b := (p + 1)) (by have := hc.2.1; omega)) vL_Mo_417_Mo rfl rfl rfl rfl rfl rfl ⟨aw_le rfl, aw_le rfl⟩ ?_
          refine aw_aload_n (aw_d q_Mo_tabValue 51 rfl) rfl rfl rfl ?_
          refine aw_ldc2 (aw_d q_Mo_tabValue 52 rfl) lL_Mo_249 ?_
          refine aw_iconst (v := nI 1) (aw_d q_Mo_tabValue 53 rfl) (by decide) ?_
          refine cVv (aw_d q_Mo_tabValue 54 rfl) (sp_mustI (u := p) (by have := hc.2.1; omega) (by decide)) vL_Mo_340_Mo rfl rfl rfl rfl rfl rfl ⟨aw_le rfl, aw_le rfl⟩ ?_
          refine aw_aload_n (aw_d q_Mo_tabValue 55 rfl) rfl rfl rfl ?_
          refine aw_iload_n (aw_d q_Mo_tabValue 56 rfl) rfl rfl ?_
          refine aw_iconst (v := nI 0) (aw_d q_Mo_tabValue 57 rfl) (by decide) ?_
          refine aw_iconst (v := nI 0) (aw_d q_Mo_tabValue 58 rfl) (by decide) ?_
          refine cVv (aw_d q_Mo_tabValue 59 rfl) (sp_giveI (u := p) (by have := hc.2.1; omega) (b := (p + 1)) (by have := hc.2.1; omega)) vL_Mo_430_Mo rfl rfl rfl rfl rfl rfl ⟨aw_le rfl, aw_le rfl⟩ ?_
          refine aw_goto (tgt := 273) (aw_d q_Mo_tabValue 60 rfl) (by decide) ?_
          exact aw_vret (aw_d q_Mo_tabValue 143 rfl) rfl (by rw [hz]; exact lvM_er (by have := hc.2.1; omega) hI.1 (by have := hc.2.1; omega))
        · skip -- add
          refine aw_aload_n (aw_d q_Mo_tabValue 35 rfl) rfl rfl rfl ?_
          refine aw_dup (aw_d q_Mo_tabValue 36 rfl) rfl ?_
          refine aw_getf (v := .int (nI (p))) (aw_d q_Mo_tabValue 37 rfl) fL_Mo_324_Mo rfl (gk rfl) ?_
          refine aw_iconst (v := nI 1) (aw_d q_Mo_tabValue 38 rfl) (by decide) ?_
          refine aw_iaddN (aw_d q_Mo_tabValue 39 rfl) ?_
          refine wi_33_31 (aw_d q_Mo_tabValue 40 rfl) pL_Mo_324_Mo ?_
          refine aw_goto (tgt := 31) (aw_d q_Mo_tabValue 41 rfl) (by decide) ?_
          have hpn := T_lt hc.2.2.2.1 (p := p) (pTx_0 c54)
          exact AW.to (ih (p + 1) (L ++ [T p]) (by rw [len_add]; omega) hpn (by rw [len_add]; omega) (all_add hal c54) (he.trans (by rw [xn, if_neg (by omega), if_neg (fun q => q.elim (by omega) (fun q => by rw [c54] at q; cases q))]))) rfl rfl rfl rfl
set_option maxRecDepth 20000 in
theorem sp_tvA {g : aw_G} {S D : aw_S} {N : nm_T} {r : Nat} {s : sq_T} {n : Nat} {T : Nat → Int32} {p v : Nat} {f z : Int32} {X : Nat → Int32} (hI : imC S N (r + 1) s D) (hs : itOK s (r * 6 + v)) (hv : v < N.1) (hc : TPm S n T) (hp : p ≤ n)  : Sp g M_Mo_tabValue 4 88 0 0 [.ref 33, .int (nI v)] (HP (QM D (nI p) (-1) f z X)) (lvM S n N r v s (ti T n p)) := by
  refine Sp.of rfl (aw_le rfl) ?_
  have hc2 := hc.2.1
  refine aw_aload_n (aw_d q_Mo_tabValue 0 rfl) rfl rfl rfl ?_
  refine cVr (aw_d q_Mo_tabValue 1 rfl) (sp_peek (frM_TP hI.1 hc) (b := p) (by have := hc.2.1; omega)) vL_Mo_331_Mo rfl rfl rfl rfl rfl rfl ⟨aw_le rfl, aw_le rfl⟩ ?_
  refine aw_istore_n (aw_d q_Mo_tabValue 2 rfl) rfl (aw_le rfl) rfl ?_
  refine aw_iload_n (aw_d q_Mo_tabValue 3 rfl) rfl rfl ?_
  refine aw_bipush (v := nI 60) (aw_d q_Mo_tabValue 4 rfl) (by decide) ?_
  refine aw_icmpI_ne (tgt := 117) (aw_d q_Mo_tabValue 5 rfl) (by decide) (by (have hc2 := hc.2.1; omega)) (fun c8 => ?_) (fun c8 => ?_)
  · refine aw_iload_n (aw_d q_Mo_tabValue 61 rfl) rfl rfl ?_
    refine aw_bipush (v := nI 95) (aw_d q_Mo_tabValue 62 rfl) (by decide) ?_
    refine aw_icmpI_ne (tgt := 137) (aw_d q_Mo_tabValue 63 rfl) (by decide) (by (have hc2 := hc.2.1; omega)) (fun c120 => ?_) (fun c120 => ?_)
    · refine aw_iload_n (aw_d q_Mo_tabValue 72 rfl) rfl rfl ?_
      refine aw_bipush (v := nI 34) (aw_d q_Mo_tabValue 73 rfl) (by decide) ?_
      refine aw_icmpI_ne (tgt := 273) (aw_d q_Mo_tabValue 74 rfl) (by decide) (by (have hc2 := hc.2.1; omega)) (fun c140 => ?_) (fun c140 => ?_)
      · exact aw_vret (aw_d q_Mo_tabValue 143 rfl) rfl (by rw [show ti T n p = .ok (p, none) by rw [ti, if_neg (by omega), if_neg (by omega), if_neg (by omega)]]; exact lvM_no hI hs hp)
      · refine aw_aload_n (aw_d q_Mo_tabValue 75 rfl) rfl rfl rfl ?_
        refine aw_dup (aw_d q_Mo_tabValue 76 rfl) rfl ?_
        refine aw_getf (v := .int (nI (p))) (aw_d q_Mo_tabValue 77 rfl) fL_Mo_324_Mo rfl (gk rfl) ?_
        refine aw_iconst (v := nI 1) (aw_d q_Mo_tabValue 78 rfl) (by decide) ?_
        refine aw_iaddN (aw_d q_Mo_tabValue 79 rfl) ?_
        refine wi_33_31 (aw_d q_Mo_tabValue 80 rfl) pL_Mo_324_Mo ?_
        have hpn153s : p + 1 ≤ n := T_lt hc.2.2.2.1 (p := p) (by omega)
        refine AW.to (h' := HP (QM D (nI (p + 1)) (-1) f z X)) ?_ rfl rfl rfl rfl
        · skip
          refine aw_aload_n (aw_d q_Mo_tabValue 81 rfl) rfl rfl rfl ?_
          refine aw_iconst (v := nI 0) (aw_d q_Mo_tabValue 82 rfl) (by decide) ?_
          refine cV (aw_d q_Mo_tabValue 83 rfl) (sp_escA (sl := false) (frM_TP hI.1 hc) hpn153s) vL_Mo_414_Mo rfl rfl rfl rfl rfl rfl ⟨aw_le rfl, aw_le rfl⟩ (fun r155 h155 hp155 => ?_)
          obtain ⟨rfl, hp155⟩ := hp155
          cases hx155 : bt T false 21 (p + 1) [] with
          | error u155 =>
            rw [hx155] at hp155
            obtain ⟨hu155, b155, z155, X155, hb155, rfl⟩ := hp155
            refine aw_aload_n (aw_d q_Mo_tabValue 84 rfl) rfl rfl rfl ?_
            refine aw_ldc2 (aw_d q_Mo_tabValue 85 rfl) lL_Mo_167 ?_
            refine aw_iconst (v := nI 1) (aw_d q_Mo_tabValue 86 rfl) (by decide) ?_
            refine cVv (aw_d q_Mo_tabValue 87 rfl) (sp_mustI (Nat.le_trans hu155 hc.2.1) (by decide)) vL_Mo_340_Mo rfl rfl rfl rfl rfl rfl ⟨aw_le rfl, aw_le rfl⟩ ?_
            refine aw_aload_n (aw_d q_Mo_tabValue 88 rfl) rfl rfl rfl ?_
            refine cVr (aw_d q_Mo_tabValue 89 rfl) (sp_goesI (Nat.le_trans hu155 hc.2.1)) vL_Mo_327_Mo rfl rfl rfl rfl rfl rfl ⟨aw_le rfl, aw_le rfl⟩ ?_
            refine aw_ifN_eq (tgt := 186) (aw_d q_Mo_tabValue 90 rfl) (by decide) (by (have hc2 := hc.2.1; omega)) (fun c170 => ?_) (fun c170 => by exfalso; (have hc2 := hc.2.1; omega))
            refine aw_aload_n (aw_d q_Mo_tabValue 97 rfl) rfl rfl rfl ?_
            refine cVr (aw_d q_Mo_tabValue 98 rfl) (sp_goesI (Nat.le_trans hu155 hc.2.1)) vL_Mo_327_Mo rfl rfl rfl rfl rfl rfl ⟨aw_le rfl, aw_le rfl⟩ ?_
            refine aw_ifN_eq (tgt := 206) (aw_d q_Mo_tabValue 99 rfl) (by decide) (by (have hc2 := hc.2.1; omega)) (fun c190 => ?_) (fun c190 => by exfalso; (have hc2 := hc.2.1; omega))
            refine aw_iconst (v := nI 2) (aw_d q_Mo_tabValue 106 rfl) (by decide) ?_
            refine aw_istore_n (aw_d q_Mo_tabValue 107 rfl) rfl (aw_le rfl) rfl ?_
            refine aw_iconst (v := nI 0) (aw_d q_Mo_tabValue 108 rfl) (by decide) ?_
            refine aw_istore (aw_d q_Mo_tabValue 109 rfl) (aw_le rfl) rfl ?_
            refine aw_iload_n (aw_d q_Mo_tabValue 110 rfl) rfl rfl ?_
            refine aw_iconst (v := nI 3) (aw_d q_Mo_tabValue 111 rfl) (by decide) ?_
            refine aw_icmpN_ne (tgt := 235) (aw_d q_Mo_tabValue 112 rfl) (by decide) (by (have hc2 := hc.2.1; omega)) (by (have hc2 := hc.2.1; omega)) (fun c213 => ?_) (fun c213 => by exfalso; (have hc2 := hc.2.1; omega))
            refine aw_iload_n (aw_d q_Mo_tabValue 123 rfl) rfl rfl ?_
            refine aw_iconst (v := nI 4) (aw_d q_Mo_tabValue 124 rfl) (by decide) ?_
            refine aw_icmpN_ne (tgt := 265) (aw_d q_Mo_tabValue 125 rfl) (by decide) (by (have hc2 := hc.2.1; omega)) (by (have hc2 := hc.2.1; omega)) (fun c237 => ?_) (fun c237 => by exfalso; (have hc2 := hc.2.1; omega))
            refine aw_aload_n (aw_d q_Mo_tabValue 138 rfl) rfl rfl rfl ?_
            refine aw_iload_n (aw_d q_Mo_tabValue 139 rfl) rfl rfl ?_
            refine aw_iload_n (aw_d q_Mo_tabValue 140 rfl) rfl rfl ?_
            refine aw_iload (aw_d q_Mo_tabValue 141 rfl) rfl ?_
            refine cVv (aw_d q_Mo_tabValue 142 rfl) (sp_giveI (Nat.le_trans hu155 hc.2.1) hb155) vL_Mo_430_Mo rfl rfl rfl rfl rfl rfl ⟨aw_le rfl, aw_le rfl⟩ ?_
            exact aw_vret (aw_d q_Mo_tabValue 143 rfl) rfl (by rw [show ti T n p = .error u155 by rw [ti, if_neg (by omega), if_neg (by omega), if_pos (by omega), hx155, bd_er]]; exact lvM_er (Nat.le_trans hu155 hc.2.1) hI.1 hb155)
          | ok y155 =>
            rw [hx155] at hp155
            obtain ⟨hy155, ⟨h1155, h34155⟩, rfl⟩ := hp155
            refine aw_aload_n (aw_d q_Mo_tabValue 84 rfl) rfl rfl rfl ?_
            refine aw_ldc2 (aw_d q_Mo_tabValue 85 rfl) lL_Mo_167 ?_
            refine aw_iconst (v := nI 1) (aw_d q_Mo_tabValue 86 rfl) (by decide) ?_
            refine cV (aw_d q_Mo_tabValue 87 rfl) (sp_mmust (res := .ok ((y155.1 - 1), ())) (x := 34) (j := 1) (frM_TP hI.1 hc) (by decide) (RR_ok rfl (show y155.1 - 1 ≤ n by have := hy155.1; omega) rfl)) vL_Mo_340_Mo rfl rfl rfl rfl rfl rfl ⟨aw_le rfl, aw_le rfl⟩ (fun r163 h163 hp163 => ?_)
            obtain ⟨rfl, b163, q163, hr163, rfl⟩ := hp163
            rw [bp_ok, mu1 (show eB 34 1 = [34] by decide) (h34155.trans (by decide))] at hr163
            obtain ⟨hbb163, hp_163, rfl⟩ := hr163
            have hbb163 : b163 = y155.1 := by have hq : b163 = y155.1 - 1 + 1 := hbb163; omega
            subst hbb163
            refine aw_aload_n (aw_d q_Mo_tabValue 88 rfl) rfl rfl rfl ?_
            refine cVr (aw_d q_Mo_tabValue 89 rfl) (sp_goesA) vL_Mo_327_Mo rfl rfl rfl rfl rfl rfl ⟨aw_le rfl, aw_le rfl⟩ ?_
            refine aw_ifN_eq (tgt := 186) (aw_d q_Mo_tabValue 90 rfl) (by decide) (by (have hc2 := hc.2.1; omega)) (fun c170 => by exfalso; (have hc2 := hc.2.1; omega)) (fun c170 => ?_)
            refine aw_aload_n (aw_d q_Mo_tabValue 91 rfl) rfl rfl rfl ?_
            refine cVr (aw_d q_Mo_tabValue 92 rfl) (sp_peek (frM_TP hI.1 hc) (b := y155.1) (by have := hc.2.1; omega)) vL_Mo_331_Mo rfl rfl rfl rfl rfl rfl ⟨aw_le rfl, aw_le rfl⟩ ?_
            refine aw_bipush (v := nI 64) (aw_d q_Mo_tabValue 93 rfl) (by decide) ?_
            refine aw_icmpI_ne (tgt := 186) (aw_d q_Mo_tabValue 94 rfl) (by decide) (by (have hc2 := hc.2.1; omega)) (fun c179 => ?_) (fun c179 => ?_)
            · refine aw_aload_n (aw_d q_Mo_tabValue 97 rfl) rfl rfl rfl ?_
              refine cVr (aw_d q_Mo_tabValue 98 rfl) (sp_goesA) vL_Mo_327_Mo rfl rfl rfl rfl rfl rfl ⟨aw_le rfl, aw_le rfl⟩ ?_
              refine aw_ifN_eq (tgt := 206) (aw_d q_Mo_tabValue 99 rfl) (by decide) (by (have hc2 := hc.2.1; omega)) (fun c190 => by exfalso; (have hc2 := hc.2.1; omega)) (fun c190 => ?_)
              refine aw_aload_n (aw_d q_Mo_tabValue 100 rfl) rfl rfl rfl ?_
              refine cVr (aw_d q_Mo_tabValue 101 rfl) (sp_peek (frM_TP hI.1 hc) (b := y155.1) (by have := hc.2.1; omega)) vL_Mo_331_Mo rfl rfl rfl rfl rfl rfl ⟨aw_le rfl, aw_le rfl⟩ ?_
              refine aw_bipush (v := nI 94) (aw_d q_Mo_tabValue 102 rfl) (by decide) ?_
              refine aw_icmpI_ne (tgt := 206) (aw_d q_Mo_tabValue 103 rfl) (by decide) (by (have hc2 := hc.2.1; omega)) (fun c199 => ?_) (fun c199 => ?_)
              · refine aw_iconst (v := nI 2) (aw_d q_Mo_tabValue 106 rfl) (by decide) ?_
                refine aw_istore_n (aw_d q_Mo_tabValue 107 rfl) rfl (aw_le rfl) rfl ?_
                refine aw_iconst (v := nI 0) (aw_d q_Mo_tabValue 108 rfl) (by decide) ?_
                refine aw_istore (aw_d q_Mo_tabValue 109 rfl) (aw_le rfl) rfl ?_
                refine aw_iload_n (aw_d q_Mo_tabValue 110 rfl) rfl rfl ?_
                refine aw_iconst (v := nI 3) (aw_d q_Mo_tabValue 111 rfl) (by decide) ?_
                refine aw_icmpN_ne (tgt := 235) (aw_d q_Mo_tabValue 112 rfl) (by decide) (by (have hc2 := hc.2.1; omega)) (by (have hc2 := hc.2.1; omega)) (fun c213 => ?_) (fun c213 => by exfalso; (have hc2 := hc.2.1; omega))
                refine aw_iload_n (aw_d q_Mo_tabValue 123 rfl) rfl rfl ?_
                refine aw_iconst (v := nI 4) (aw_d q_Mo_tabValue 124 rfl) (by decide) ?_
                refine aw_icmpN_ne (tgt := 265) (aw_d q_Mo_tabValue 125 rfl) (by decide) (by (have hc2 := hc.2.1; omega)) (by (have hc2 := hc.2.1; omega)) (fun c237 => ?_) (fun c237 => by exfalso; (have hc2 := hc.2.1; omega))
                refine aw_aload_n (aw_d q_Mo_tabValue 138 rfl) rfl rfl rfl ?_
                refine aw_iload_n (aw_d q_Mo_tabValue 139 rfl) rfl rfl ?_
                refine aw_iload_n (aw_d q_Mo_tabValue 140 rfl) rfl rfl ?_
                refine aw_iload (aw_d q_Mo_tabValue 141 rfl) rfl ?_
                refine cV (aw_d q_Mo_tabValue 142 rfl) (sp_giveA (kd := 2) (ex := 0) (L := y155.2) hI hs hv hy155.2.1) vL_Mo_430_Mo rfl rfl rfl rfl rfl rfl ⟨aw_le rfl, aw_le rfl⟩ (fun r270 h270 hp270 => ?_)
                obtain ⟨rfl, F270, hI270, rfl⟩ := hp270
                exact aw_vret (aw_d q_Mo_tabValue 143 rfl) rfl (by rw [show ti T n p = .ok (y155.1, some (2, 0, y155.2)) by rw [ti, if_neg (by omega), if_neg (by omega), if_pos (by omega), hx155, bd_ok, tl, if_neg (by omega), if_neg (by omega)]]; exact lvM_so hI270 hs (itW_i (kd := 2) (ex := 0) (by decide) hy155.2.1 (by decide) (fun h => absurd h (by decide)) (fun _ => rfl) hy155.2.2 (rfl)) hy155.1)
              · refine aw_iconst (v := nI 4) (aw_d q_Mo_tabValue 104 rfl) (by decide) ?_
                refine aw_goto (tgt := 207) (aw_d q_Mo_tabValue 105 rfl) (by decide) ?_
                refine aw_istore_n (aw_d q_Mo_tabValue 107 rfl) rfl (aw_le rfl) rfl ?_
                refine aw_iconst (v := nI 0) (aw_d q_Mo_tabValue 108 rfl) (by decide) ?_
                refine aw_istore (aw_d q_Mo_tabValue 109 rfl) (aw_le rfl) rfl ?_
                refine aw_iload_n (aw_d q_Mo_tabValue 110 rfl) rfl rfl ?_
                refine aw_iconst (v := nI 3) (aw_d q_Mo_tabValue 111 rfl) (by decide) ?_
                refine aw_icmpN_ne (tgt := 235) (aw_d q_Mo_tabValue 112 rfl) (by decide) (by (have hc2 := hc.2.1; omega)) (by (have hc2 := hc.2.1; omega)) (fun c213 => ?_) (fun c213 => by exfalso; (have hc2 := hc.2.1; omega))
                refine aw_iload_n (aw_d q_Mo_tabValue 123 rfl) rfl rfl ?_
                refine aw_iconst (v := nI 4) (aw_d q_Mo_tabValue 124 rfl) (by decide) ?_
                refine aw_icmpN_ne (tgt := 265) (aw_d q_Mo_tabValue 125 rfl) (by decide) (by (have hc2 := hc.2.1; omega)) (by (have hc2 := hc.2.1; omega)) (fun c237 => by exfalso; (have hc2 := hc.2.1; omega)) (fun c237 => ?_)
                refine aw_aload_n (aw_d q_Mo_tabValue 126 rfl) rfl rfl rfl ?_
                refine aw_ldc2 (aw_d q_Mo_tabValue 127 rfl) lL_Mo_282 ?_
                refine aw_iconst (v := nI 2) (aw_d q_Mo_tabValue 128 rfl) (by decide) ?_
                refine cV (aw_d q_Mo_tabValue 129 rfl) (sp_Umust (res := .ok (y155.1, ())) (A := []) (x := 24158) (j := 2) (frM_TP hI.1 hc) (by decide) (RR_su (T := T) hy155.1)) vL_Mo_340_Mo rfl rfl rfl rfl rfl rfl ⟨aw_le rfl, aw_le rfl⟩ (fun r245 h245 hp245 => ?_)
                obtain ⟨rfl, b245, q245, hr245, rfl⟩ := hp245
                rw [bp_ok, show mu T ([] ++ eB 24158 2) y155.1 = mu T (tx 85) y155.1 from (congrArg (fun L => mu T L _) (show _ = tx 85 by decide))] at hr245
                cases hx248s : mu T (tx 85) y155.1 with
                | error u248s =>
                  rw [hx248s] at hr245
                  obtain ⟨hu248s, rfl, hb248s⟩ := hr245
                  refine aw_aload_n (aw_d q_Mo_tabValue 130 rfl) rfl rfl rfl ?_
                  refine cVr (aw_d q_Mo_tabValue 131 rfl) (sp_goesI hu248s) vL_Mo_327_Mo rfl rfl rfl rfl rfl rfl ⟨aw_le rfl, aw_le rfl⟩ ?_
                  refine aw_ifN_eq (tgt := 262) (aw_d q_Mo_tabValue 132 rfl) (by decide) (by (have hc2 := hc.2.1; omega)) (fun c252 => ?_) (fun c252 => by exfalso; (have hc2 := hc.2.1; omega))
                  refine aw_iconst (v := nI 0) (aw_d q_Mo_tabValue 136 rfl) (by decide) ?_
                  refine aw_istore (aw_d q_Mo_tabValue 137 rfl) (aw_le rfl) rfl ?_
                  refine aw_aload_n (aw_d q_Mo_tabValue 138 rfl) rfl rfl rfl ?_
                  refine aw_iload_n (aw_d q_Mo_tabValue 139 rfl) rfl rfl ?_
                  refine aw_iload_n (aw_d q_Mo_tabValue 140 rfl) rfl rfl ?_
                  refine aw_iload (aw_d q_Mo_tabValue 141 rfl) rfl ?_
                  refine cVv (aw_d q_Mo_tabValue 142 rfl) (sp_giveI hu248s hb248s) vL_Mo_430_Mo rfl rfl rfl rfl rfl rfl ⟨aw_le rfl, aw_le rfl⟩ ?_
                  exact aw_vret (aw_d q_Mo_tabValue 143 rfl) rfl (by rw [show ti T n p = .error u248s by rw [ti, if_neg (by omega), if_neg (by omega), if_pos (by omega), hx155, bd_ok, tl, if_neg (by omega), if_pos (by omega), hx248s, bd_er]]; exact lvM_er hu248s hI.1 hb248s)
                | ok p248s =>
                  rw [hx248s] at hr245
                  obtain ⟨hbb248s, hp_248s, rfl⟩ := hr245
                  have hbb248s : b245 = p248s := hbb248s
                  subst hbb248s
                  refine aw_aload_n (aw_d q_Mo_tabValue 130 rfl) rfl rfl rfl ?_
                  refine cVr (aw_d q_Mo_tabValue 131 rfl) (sp_goesA) vL_Mo_327_Mo rfl rfl rfl rfl rfl rfl ⟨aw_le rfl, aw_le rfl⟩ ?_
                  refine aw_ifN_eq (tgt := 262) (aw_d q_Mo_tabValue 132 rfl) (by decide) (by (have hc2 := hc.2.1; omega)) (fun c252 => by exfalso; (have hc2 := hc.2.1; omega)) (fun c252 => ?_)
                  refine aw_aload_n (aw_d q_Mo_tabValue 133 rfl) rfl rfl rfl ?_
                  refine cV (aw_d q_Mo_tabValue 134 rfl) (sp_typeA (frM_TP hI.1 hc) hp_248s) vL_Mo_427_Mo rfl rfl rfl rfl rfl rfl ⟨aw_le rfl, aw_le rfl⟩ (fun r256 h256 hp256 => ?_)
                  cases hx256 : ew T n 4 b245 with
                  | error u256 =>
                    rw [hx256] at hp256
                    obtain ⟨hue256, rfl, b256, hb256, rfl⟩ := hp256
                    subst hue256
                    refine aw_goto (tgt := 263) (aw_d q_Mo_tabValue 135 rfl) (by decide) ?_
                    refine aw_istore (aw_d q_Mo_tabValue 137 rfl) (aw_le rfl) rfl ?_
                    refine aw_aload_n (aw_d q_Mo_tabValue 138 rfl) rfl rfl rfl ?_
                    refine aw_iload_n (aw_d q_Mo_tabValue 139 rfl) rfl rfl ?_
                    refine aw_iload_n (aw_d q_Mo_tabValue 140 rfl) rfl rfl ?_
                    refine aw_iload (aw_d q_Mo_tabValue 141 rfl) rfl ?_
                    refine cVv (aw_d q_Mo_tabValue 142 rfl) (sp_giveI (show u256 ≤ 3000 by have := hc.2.1; have := hp_248s; omega) (show b256 ≤ 3010 by have := hc.2.1; omega)) vL_Mo_430_Mo rfl rfl rfl rfl rfl rfl ⟨aw_le rfl, aw_le rfl⟩ ?_
                    exact aw_vret (aw_d q_Mo_tabValue 143 rfl) rfl (by rw [show ti T n p = .error u256 by rw [ti, if_neg (by omega), if_neg (by omega), if_pos (by omega), hx155, bd_ok, tl, if_neg (by omega), if_pos (by omega), hx248s, bd_ok, hx256, bd_er]]; exact lvM_er (by have := hc.2.1; omega) hI.1 (by have := hc.2.1; omega))
                  | ok y256 =>
                    rw [hx256] at hp256
                    obtain ⟨rfl, hy256, he256, rfl⟩ := hp256
                    refine aw_goto (tgt := 263) (aw_d q_Mo_tabValue 135 rfl) (by decide) ?_
                    refine aw_istore (aw_d q_Mo_tabValue 137 rfl) (aw_le rfl) rfl ?_
                    refine aw_aload_n (aw_d q_Mo_tabValue 138 rfl) rfl rfl rfl ?_
                    refine aw_iload_n (aw_d q_Mo_tabValue 139 rfl) rfl rfl ?_
                    refine aw_iload_n (aw_d q_Mo_tabValue 140 rfl) rfl rfl ?_
                    refine aw_iload (aw_d q_Mo_tabValue 141 rfl) rfl ?_
                    refine cV (aw_d q_Mo_tabValue 142 rfl) (sp_giveA (kd := 4) (ex := y256.2) (L := y155.2) hI hs hv hy155.2.1) vL_Mo_430_Mo rfl rfl rfl rfl rfl rfl ⟨aw_le rfl, aw_le rfl⟩ (fun r270 h270 hp270 => ?_)
                    obtain ⟨rfl, F270, hI270, rfl⟩ := hp270
                    exact aw_vret (aw_d q_Mo_tabValue 143 rfl) rfl (by rw [show ti T n p = .ok (y256.1, some (4, y256.2, y155.2)) by rw [ti, if_neg (by omega), if_neg (by omega), if_pos (by omega), hx155, bd_ok, tl, if_neg (by omega), if_pos (by omega), hx248s, bd_ok, hx256, bd_ok]]; exact lvM_so hI270 hs (itW_i (kd := 4) (ex := y256.2) (by decide) hy155.2.1 (Nat.lt_trans he256 (by decide)) (fun _ => he256) (fun h => absurd h (by decide)) hy155.2.2 (okL_big (by decide))) hy256)
            · refine aw_iconst (v := nI 3) (aw_d q_Mo_tabValue 95 rfl) (by decide) ?_
              refine aw_goto (tgt := 207) (aw_d q_Mo_tabValue 96 rfl) (by decide) ?_
              refine aw_istore_n (aw_d q_Mo_tabValue 107 rfl) rfl (aw_le rfl) rfl ?_
              refine aw_iconst (v := nI 0) (aw_d q_Mo_tabValue 108 rfl) (by decide) ?_
              refine aw_istore (aw_d q_Mo_tabValue 109 rfl) (aw_le rfl) rfl ?_
              refine aw_iload_n (aw_d q_Mo_tabValue 110 rfl) rfl rfl ?_
              refine aw_iconst (v := nI 3) (aw_d q_Mo_tabValue 111 rfl) (by decide) ?_
              refine aw_icmpN_ne (tgt := 235) (aw_d q_Mo_tabValue 112 rfl) (by decide) (by (have hc2 := hc.2.1; omega)) (by (have hc2 := hc.2.1; omega)) (fun c213 => by exfalso; (have hc2 := hc.2.1; omega)) (fun c213 => ?_)
              refine aw_aload_n (aw_d q_Mo_tabValue 113 rfl) rfl rfl rfl ?_
              refine aw_dup (aw_d q_Mo_tabValue 114 rfl) rfl ?_
              refine aw_getf (v := .int (nI (y155.1))) (aw_d q_Mo_tabValue 115 rfl) fL_Mo_324_Mo rfl (gk rfl) ?_
              refine aw_iconst (v := nI 1) (aw_d q_Mo_tabValue 116 rfl) (by decide) ?_
              refine aw_iaddN (aw_d q_Mo_tabValue 117 rfl) ?_
              refine wi_33_31 (aw_d q_Mo_tabValue 118 rfl) pL_Mo_324_Mo ?_
              have hpn226s : y155.1 + 1 ≤ n := T_lt hc.2.2.2.1 (p := y155.1) (by omega)
              refine AW.to (h' := HP (QM D (nI (y155.1 + 1)) (-1) f (nI y155.2.length) (XA y155.2 X))) ?_ rfl rfl rfl rfl
              · skip
                refine aw_aload_n (aw_d q_Mo_tabValue 119 rfl) rfl rfl rfl ?_
                refine cV (aw_d q_Mo_tabValue 120 rfl) (sp_tagA (frM_TP hI.1 hc) hpn226s) vL_Mo_424_Mo rfl rfl rfl rfl rfl rfl ⟨aw_le rfl, aw_le rfl⟩ (fun r227 h227 hp227 => ?_)
                cases hx227 : ew T n 3 (y155.1 + 1) with
                | error u227 =>
                  rw [hx227] at hp227
                  obtain ⟨hue227, rfl, b227, hb227, rfl⟩ := hp227
                  subst hue227
                  refine aw_istore (aw_d q_Mo_tabValue 121 rfl) (aw_le rfl) rfl ?_
                  refine aw_goto (tgt := 265) (aw_d q_Mo_tabValue 122 rfl) (by decide) ?_
                  refine aw_aload_n (aw_d q_Mo_tabValue 138 rfl) rfl rfl rfl ?_
                  refine aw_iload_n (aw_d q_Mo_tabValue 139 rfl) rfl rfl ?_
                  refine aw_iload_n (aw_d q_Mo_tabValue 140 rfl) rfl rfl ?_
                  refine aw_iload (aw_d q_Mo_tabValue 141 rfl) rfl ?_
                  refine cVv (aw_d q_Mo_tabValue 142 rfl) (sp_giveI (show (y155.1 + 1) ≤ 3000 by have := hc.2.1; have := hpn226s; omega) (show b227 ≤ 3010 by have := hc.2.1; omega)) vL_Mo_430_Mo rfl rfl rfl rfl rfl rfl ⟨aw_le rfl, aw_le rfl⟩ ?_
                  exact aw_vret (aw_d q_Mo_tabValue 143 rfl) rfl (by rw [show ti T n p = .error (y155.1 + 1) by rw [ti, if_neg (by omega), if_neg (by omega), if_pos (by omega), hx155, bd_ok, tl, if_pos (by omega), show mu T (tx 84) y155.1 = .ok (y155.1 + 1) from mu1 (b := 64) (by decide) (show (T y155.1).toInt = (64 : Int32).toInt from (show (T y155.1).toInt = 64 by omega)), bd_ok, hx227, bd_er]]; exact lvM_er (by have := hc.2.1; omega) hI.1 (by have := hc.2.1; omega))
                | ok y227 =>
                  rw [hx227] at hp227
                  obtain ⟨rfl, hy227, he227, rfl⟩ := hp227
                  refine aw_istore (aw_d q_Mo_tabValue 121 rfl) (aw_le rfl) rfl ?_
                  refine aw_goto (tgt := 265) (aw_d q_Mo_tabValue 122 rfl) (by decide) ?_
                  refine aw_aload_n (aw_d q_Mo_tabValue 138 rfl) rfl rfl rfl ?_
                  refine aw_iload_n (aw_d q_Mo_tabValue 139 rfl) rfl rfl ?_
                  refine aw_iload_n (aw_d q_Mo_tabValue 140 rfl) rfl rfl ?_
                  refine aw_iload (aw_d q_Mo_tabValue 141 rfl) rfl ?_
                  refine cV (aw_d q_Mo_tabValue 142 rfl) (sp_giveA (kd := 3) (ex := y227.2) (L := y155.2) hI hs hv hy155.2.1) vL_Mo_430_Mo rfl rfl rfl rfl rfl rfl ⟨aw_le rfl, aw_le rfl⟩ (fun r270 h270 hp270 => ?_)
                  obtain ⟨rfl, F270, hI270, rfl⟩ := hp270
                  exact aw_vret (aw_d q_Mo_tabValue 143 rfl) rfl (by rw [show ti T n p = .ok (y227.1, some (3, y227.2, y155.2)) by rw [ti, if_neg (by omega), if_neg (by omega), if_pos (by omega), hx155, bd_ok, tl, if_pos (by omega), show mu T (tx 84) y155.1 = .ok (y155.1 + 1) from mu1 (b := 64) (by decide) (show (T y155.1).toInt = (64 : Int32).toInt from (show (T y155.1).toInt = 64 by omega)), bd_ok, hx227, bd_ok]]; exact lvM_so hI270 hs (itW_i (kd := 3) (ex := y227.2) (by decide) hy155.2.1 (he227) (fun h => absurd h (by decide)) (fun h => absurd h (by decide)) hy155.2.2 (okL_big (by decide))) hy227)
    · refine aw_aload_n (aw_d q_Mo_tabValue 64 rfl) rfl rfl rfl ?_
      refine cV (aw_d q_Mo_tabValue 65 rfl) (sp_blankA (frM_TP hI.1 hc) hp) vL_Mo_467_Mo rfl rfl rfl rfl rfl rfl ⟨aw_le rfl, aw_le rfl⟩ (fun r124 h124 hp124 => ?_)
      obtain ⟨rfl, hp124⟩ := hp124
      cases hx124 : bd (mu T (tx 50) p) (bkT T) with
      | error u124 =>
        rw [hx124] at hp124
        obtain ⟨hu124, b124, z124, X124, hb124, rfl⟩ := hp124
        refine aw_aload_n (aw_d q_Mo_tabValue 66 rfl) rfl rfl rfl ?_
        refine aw_iload_n (aw_d q_Mo_tabValue 67 rfl) rfl rfl ?_
        refine aw_iconst (v := nI 1) (aw_d q_Mo_tabValue 68 rfl) (by decide) ?_
        refine aw_iconst (v := nI 0) (aw_d q_Mo_tabValue 69 rfl) (by decide) ?_
        refine cVv (aw_d q_Mo_tabValue 70 rfl) (sp_giveI (Nat.le_trans hu124 hc.2.1) hb124) vL_Mo_430_Mo rfl rfl rfl rfl rfl rfl ⟨aw_le rfl, aw_le rfl⟩ ?_
        refine aw_goto (tgt := 273) (aw_d q_Mo_tabValue 71 rfl) (by decide) ?_
        exact aw_vret (aw_d q_Mo_tabValue 143 rfl) rfl (by rw [show ti T n p = .error u124 by rw [ti, if_neg (by omega), if_pos (by omega), ← bd_bd, hx124, bd_er]]; exact lvM_er (Nat.le_trans hu124 hc.2.1) hI.1 hb124)
      | ok y124 =>
        rw [hx124] at hp124
        obtain ⟨hy124, ho124, rfl⟩ := hp124
        refine aw_aload_n (aw_d q_Mo_tabValue 66 rfl) rfl rfl rfl ?_
        refine aw_iload_n (aw_d q_Mo_tabValue 67 rfl) rfl rfl ?_
        refine aw_iconst (v := nI 1) (aw_d q_Mo_tabValue 68 rfl) (by decide) ?_
        refine aw_iconst (v := nI 0) (aw_d q_Mo_tabValue 69 rfl) (by decide) ?_
        refine cV (aw_d q_Mo_tabValue 70 rfl) (sp_giveA (kd := 1) (ex := 0) (L := y124.2) hI hs hv hy124.2.1) vL_Mo_430_Mo rfl rfl rfl rfl rfl rfl ⟨aw_le rfl, aw_le rfl⟩ (fun r131 h131 hp131 => ?_)
        obtain ⟨rfl, F131, hI131, rfl⟩ := hp131
        refine aw_goto (tgt := 273) (aw_d q_Mo_tabValue 71 rfl) (by decide) ?_
        exact aw_vret (aw_d q_Mo_tabValue 143 rfl) rfl (by rw [show ti T n p = .ok (y124.1, some (1, 0, y124.2)) by rw [ti, if_neg (by omega), if_pos (by omega), ← bd_bd, hx124, bd_ok]]; exact lvM_so hI131 hs (itW_i (kd := 1) (ex := 0) (by decide) hy124.2.1 (by decide) (fun h => absurd h (by decide)) (fun _ => rfl) hy124.2.2 (ho124)) hy124.1)
  · refine aw_aload_n (aw_d q_Mo_tabValue 6 rfl) rfl rfl rfl ?_
    refine aw_dup (aw_d q_Mo_tabValue 7 rfl) rfl ?_
    refine aw_getf (v := .int (nI (p))) (aw_d q_Mo_tabValue 8 rfl) fL_Mo_324_Mo rfl (gk rfl) ?_
    refine aw_iconst (v := nI 1) (aw_d q_Mo_tabValue 9 rfl) (by decide) ?_
    refine aw_iaddN (aw_d q_Mo_tabValue 10 rfl) ?_
    refine wi_33_31 (aw_d q_Mo_tabValue 11 rfl) pL_Mo_324_Mo ?_
    refine aw_aload_n (aw_d q_Mo_tabValue 12 rfl) rfl rfl rfl ?_
    refine aw_iconst (v := nI 0) (aw_d q_Mo_tabValue 13 rfl) (by decide) ?_
    refine wi_33_34 (aw_d q_Mo_tabValue 14 rfl) pL_Mo_93_Mo ?_
    have hpn26s : p + 1 ≤ n := T_lt hc.2.2.2.1 (p := p) (by omega)
    refine AW.to (h' := HP (QM D (nI (p + 1)) (-1) f (nI 0) X)) ?_ rfl rfl rfl rfl
    · skip
      refine aw_aload_n (aw_d q_Mo_tabValue 15 rfl) rfl rfl rfl ?_
      refine aw_getf (v := .int (nI ((p + 1)))) (aw_d q_Mo_tabValue 16 rfl) fL_Mo_324_Mo rfl (gk rfl) ?_
      refine aw_istore_n (aw_d q_Mo_tabValue 17 rfl) rfl (aw_le rfl) rfl ?_
      exact AW.to (lp_tvN hI hs hv hc (c := T p) (a := p + 1) hpn26s 21 (p + 1) [] rfl hpn26s (by decide) rfl (by rw [ti, if_pos (by omega)])) rfl rfl rfl (by rw [XA_nil]; rfl)
set_option maxRecDepth 20000 in
theorem sp_tvI {g : aw_G} {S : aw_S} {u b : Nat} {f z : Int32} {X : Nat → Int32} (hu : u ≤ 3000) (hb : b ≤ 3000) {x : Int32} {n : Nat} {T : Nat → Int32} (hc : TPm S n T) : Sp g M_Mo_tabValue 4 88 0 0 [.ref 33, .int x] (HP (QM S (nI b) (nI u) f z X)) (fun x h => x = none ∧ ∃ (b2 : Nat) (f z : Int32) (X : Nat → Int32), b2 ≤ b + 1 ∧ h = HP (QM S (nI b2) (nI u) f z X)) := by
  refine Sp.of rfl (aw_le rfl) ?_
  have hc2 := hc.2.1
  refine aw_aload_n (aw_d q_Mo_tabValue 0 rfl) rfl rfl rfl ?_
  refine cVr (aw_d q_Mo_tabValue 1 rfl) (sp_peek hc (b := b) (by omega)) vL_Mo_331_Mo rfl rfl rfl rfl rfl rfl ⟨aw_le rfl, aw_le rfl⟩ ?_
  refine aw_istore_n (aw_d q_Mo_tabValue 2 rfl) rfl (aw_le rfl) rfl ?_
  refine aw_iload_n (aw_d q_Mo_tabValue 3 rfl) rfl rfl ?_
  refine aw_bipush (v := nI 60) (aw_d q_Mo_tabValue 4 rfl) (by decide) ?_
  refine aw_icmpI_ne (tgt := 117) (aw_d q_Mo_tabValue 5 rfl) (by decide) (by omega) (fun c8 => ?_) (fun c8 => ?_)
  · refine aw_iload_n (aw_d q_Mo_tabValue 61 rfl) rfl rfl ?_
    refine aw_bipush (v := nI 95) (aw_d q_Mo_tabValue 62 rfl) (by decide) ?_
    refine aw_icmpI_ne (tgt := 137) (aw_d q_Mo_tabValue 63 rfl) (by decide) (by omega) (fun c120 => ?_) (fun c120 => ?_)
    · refine aw_iload_n (aw_d q_Mo_tabValue 72 rfl) rfl rfl ?_
      refine aw_bipush (v := nI 34) (aw_d q_Mo_tabValue 73 rfl) (by decide) ?_
      refine aw_icmpI_ne (tgt := 273) (aw_d q_Mo_tabValue 74 rfl) (by decide) (by omega) (fun c140 => ?_) (fun c140 => ?_)
      · exact aw_vret (aw_d q_Mo_tabValue 143 rfl) rfl (⟨rfl, _, _, _, _, by omega, rfl⟩)
      · refine aw_aload_n (aw_d q_Mo_tabValue 75 rfl) rfl rfl rfl ?_
        refine aw_dup (aw_d q_Mo_tabValue 76 rfl) rfl ?_
        refine aw_getf (v := .int (nI (b))) (aw_d q_Mo_tabValue 77 rfl) fL_Mo_324_Mo rfl (gk rfl) ?_
        refine aw_iconst (v := nI 1) (aw_d q_Mo_tabValue 78 rfl) (by decide) ?_
        refine aw_iaddN (aw_d q_Mo_tabValue 79 rfl) ?_
        refine wi_33_31 (aw_d q_Mo_tabValue 80 rfl) pL_Mo_324_Mo ?_
        refine AW.to (h' := HP (QM S (nI (b + 1)) (nI u) f z X)) ?_ rfl rfl rfl rfl
        · skip
          refine aw_aload_n (aw_d q_Mo_tabValue 81 rfl) rfl rfl rfl ?_
          refine aw_iconst (v := nI 0) (aw_d q_Mo_tabValue 82 rfl) (by decide) ?_
          refine cVv (aw_d q_Mo_tabValue 83 rfl) (sp_escI hu (show b + 1 ≤ 3010 by omega)) vL_Mo_414_Mo rfl rfl rfl rfl rfl rfl ⟨aw_le rfl, aw_le rfl⟩ ?_
          refine aw_aload_n (aw_d q_Mo_tabValue 84 rfl) rfl rfl rfl ?_
          refine aw_ldc2 (aw_d q_Mo_tabValue 85 rfl) lL_Mo_167 ?_
          refine aw_iconst (v := nI 1) (aw_d q_Mo_tabValue 86 rfl) (by decide) ?_
          refine cVv (aw_d q_Mo_tabValue 87 rfl) (sp_mustI hu (by decide)) vL_Mo_340_Mo rfl rfl rfl rfl rfl rfl ⟨aw_le rfl, aw_le rfl⟩ ?_
          refine aw_aload_n (aw_d q_Mo_tabValue 88 rfl) rfl rfl rfl ?_
          refine cVr (aw_d q_Mo_tabValue 89 rfl) (sp_goesI hu) vL_Mo_327_Mo rfl rfl rfl rfl rfl rfl ⟨aw_le rfl, aw_le rfl⟩ ?_
          refine aw_ifN_eq (tgt := 186) (aw_d q_Mo_tabValue 90 rfl) (by decide) (by omega) (fun c170 => ?_) (fun c170 => by exfalso; omega)
          refine aw_aload_n (aw_d q_Mo_tabValue 97 rfl) rfl rfl rfl ?_
          refine cVr (aw_d q_Mo_tabValue 98 rfl) (sp_goesI hu) vL_Mo_327_Mo rfl rfl rfl rfl rfl rfl ⟨aw_le rfl, aw_le rfl⟩ ?_
          refine aw_ifN_eq (tgt := 206) (aw_d q_Mo_tabValue 99 rfl) (by decide) (by omega) (fun c190 => ?_) (fun c190 => by exfalso; omega)
          refine aw_iconst (v := nI 2) (aw_d q_Mo_tabValue 106 rfl) (by decide) ?_
          refine aw_istore_n (aw_d q_Mo_tabValue 107 rfl) rfl (aw_le rfl) rfl ?_
          refine aw_iconst (v := nI 0) (aw_d q_Mo_tabValue 108 rfl) (by decide) ?_
          refine aw_istore (aw_d q_Mo_tabValue 109 rfl) (aw_le rfl) rfl ?_
          refine aw_iload_n (aw_d q_Mo_tabValue 110 rfl) rfl rfl ?_
          refine aw_iconst (v := nI 3) (aw_d q_Mo_tabValue 111 rfl) (by decide) ?_
          refine aw_icmpN_ne (tgt := 235) (aw_d q_Mo_tabValue 112 rfl) (by decide) (by omega) (by omega) (fun c213 => ?_) (fun c213 => by exfalso; omega)
          refine aw_iload_n (aw_d q_Mo_tabValue 123 rfl) rfl rfl ?_
          refine aw_iconst (v := nI 4) (aw_d q_Mo_tabValue 124 rfl) (by decide) ?_
          refine aw_icmpN_ne (tgt := 265) (aw_d q_Mo_tabValue 125 rfl) (by decide) (by omega) (by omega) (fun c237 => ?_) (fun c237 => by exfalso; omega)
          refine aw_aload_n (aw_d q_Mo_tabValue 138 rfl) rfl rfl rfl ?_
          refine aw_iload_n (aw_d q_Mo_tabValue 139 rfl) rfl rfl ?_
          refine aw_iload_n (aw_d q_Mo_tabValue 140 rfl) rfl rfl ?_
          refine aw_iload (aw_d q_Mo_tabValue 141 rfl) rfl ?_
          refine cVv (aw_d q_Mo_tabValue 142 rfl) (sp_giveI hu (show b + 1 ≤ 3010 by omega)) vL_Mo_430_Mo rfl rfl rfl rfl rfl rfl ⟨aw_le rfl, aw_le rfl⟩ ?_
          exact aw_vret (aw_d q_Mo_tabValue 143 rfl) rfl (⟨rfl, _, _, _, _, by omega, rfl⟩)
    · refine aw_aload_n (aw_d q_Mo_tabValue 64 rfl) rfl rfl rfl ?_
      refine cVv (aw_d q_Mo_tabValue 65 rfl) (sp_blankI hu (show b ≤ 3010 by omega)) vL_Mo_467_Mo rfl rfl rfl rfl rfl rfl ⟨aw_le rfl, aw_le rfl⟩ ?_
      refine aw_aload_n (aw_d q_Mo_tabValue 66 rfl) rfl rfl rfl ?_
      refine aw_iload_n (aw_d q_Mo_tabValue 67 rfl) rfl rfl ?_
      refine aw_iconst (v := nI 1) (aw_d q_Mo_tabValue 68 rfl) (by decide) ?_
      refine aw_iconst (v := nI 0) (aw_d q_Mo_tabValue 69 rfl) (by decide) ?_
      refine cVv (aw_d q_Mo_tabValue 70 rfl) (sp_giveI hu (show b ≤ 3010 by omega)) vL_Mo_430_Mo rfl rfl rfl rfl rfl rfl ⟨aw_le rfl, aw_le rfl⟩ ?_
      refine aw_goto (tgt := 273) (aw_d q_Mo_tabValue 71 rfl) (by decide) ?_
      exact aw_vret (aw_d q_Mo_tabValue 143 rfl) rfl (⟨rfl, _, _, _, _, by omega, rfl⟩)
  · refine aw_aload_n (aw_d q_Mo_tabValue 6 rfl) rfl rfl rfl ?_
    refine aw_dup (aw_d q_Mo_tabValue 7 rfl) rfl ?_
    refine aw_getf (v := .int (nI (b))) (aw_d q_Mo_tabValue 8 rfl) fL_Mo_324_Mo rfl (gk rfl) ?_
    refine aw_iconst (v := nI 1) (aw_d q_Mo_tabValue 9 rfl) (by decide) ?_
    refine aw_iaddN (aw_d q_Mo_tabValue 10 rfl) ?_
    refine wi_33_31 (aw_d q_Mo_tabValue 11 rfl) pL_Mo_324_Mo ?_
    refine aw_aload_n (aw_d q_Mo_tabValue 12 rfl) rfl rfl rfl ?_
    refine aw_iconst (v := nI 0) (aw_d q_Mo_tabValue 13 rfl) (by decide) ?_
    refine wi_33_34 (aw_d q_Mo_tabValue 14 rfl) pL_Mo_93_Mo ?_
    refine AW.to (h' := HP (QM S (nI (b + 1)) (nI u) f (nI 0) X)) ?_ rfl rfl rfl rfl
    · skip
      refine aw_aload_n (aw_d q_Mo_tabValue 15 rfl) rfl rfl rfl ?_
      refine aw_getf (v := .int (nI ((b + 1)))) (aw_d q_Mo_tabValue 16 rfl) fL_Mo_324_Mo rfl (gk rfl) ?_
      refine aw_istore_n (aw_d q_Mo_tabValue 17 rfl) rfl (aw_le rfl) rfl ?_
      refine aw_aload_n (aw_d q_Mo_tabValue 18 rfl) rfl rfl rfl ?_
      refine cVr (aw_d q_Mo_tabValue 19 rfl) (sp_goesI hu) vL_Mo_327_Mo rfl rfl rfl rfl rfl rfl ⟨aw_le rfl, aw_le rfl⟩ ?_
      refine aw_ifN_eq (tgt := 93) (aw_d q_Mo_tabValue 20 rfl) (by decide) (by omega) (fun c35 => ?_) (fun c35 => by exfalso; omega)
      refine aw_aload_n (aw_d q_Mo_tabValue 47 rfl) rfl rfl rfl ?_
      refine aw_iconst (v := nI 0) (aw_d q_Mo_tabValue 48 rfl) (by decide) ?_
      refine aw_iload_n (aw_d q_Mo_tabValue 49 rfl) rfl rfl ?_
      refine cVv (aw_d q_Mo_tabValue 50 rfl) (sp_checkI hu (show b + 1 ≤ 3010 by omega)) vL_Mo_417_Mo rfl rfl rfl rfl rfl rfl ⟨aw_le rfl, aw_le rfl⟩ ?_
      refine aw_aload_n (aw_d q_Mo_tabValue 51 rfl) rfl rfl rfl ?_
      refine aw_ldc2 (aw_d q_Mo_tabValue 52 rfl) lL_Mo_249 ?_
      refine aw_iconst (v := nI 1) (aw_d q_Mo_tabValue 53 rfl) (by decide) ?_
      refine cVv (aw_d q_Mo_tabValue 54 rfl) (sp_mustI hu (by decide)) vL_Mo_340_Mo rfl rfl rfl rfl rfl rfl ⟨aw_le rfl, aw_le rfl⟩ ?_
      refine aw_aload_n (aw_d q_Mo_tabValue 55 rfl) rfl rfl rfl ?_
      refine aw_iload_n (aw_d q_Mo_tabValue 56 rfl) rfl rfl ?_
      refine aw_iconst (v := nI 0) (aw_d q_Mo_tabValue 57 rfl) (by decide) ?_
      refine aw_iconst (v := nI 0) (aw_d q_Mo_tabValue 58 rfl) (by decide) ?_
      refine cVv (aw_d q_Mo_tabValue 59 rfl) (sp_giveI hu (show b + 1 ≤ 3010 by omega)) vL_Mo_430_Mo rfl rfl rfl rfl rfl rfl ⟨aw_le rfl, aw_le rfl⟩ ?_
      refine aw_goto (tgt := 273) (aw_d q_Mo_tabValue 60 rfl) (by decide) ?_
      exact aw_vret (aw_d q_Mo_tabValue 143 rfl) rfl (⟨rfl, _, _, _, _, by omega, rfl⟩)
