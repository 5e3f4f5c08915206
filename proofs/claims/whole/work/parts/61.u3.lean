/-! names, terms, rows over the picture -/
theorem nm_find {NL NB : Nat → Int32} {N : nm_T} (h : ∀ v, v < N.1 → NL v = nI (N.2.1 v) ∧ N.2.1 v ≤ 8 ∧ ∀ i, i < N.2.1 v → NB (v * 8 + i) = N.2.2 v i) {T : Nat → Int32} {a len : Nat} (hl : len < 2147483648) {f : Nat → Int32} (hf : ∀ i, i < len → f i = T (a + i)) : fdB (nmB NL NB len f) N.1 0 = nmF N T a len := by
  refine fdB_congr (fun v _ hv => ?_)
  have hv : v < N.1 := by omega
  obtain ⟨h1, h2, h3⟩ := h v hv
  simp only [nmB]
  rw [h1, dnI (by omega) (by omega)]
  by_cases hl : N.2.1 v = len
  · rw [eqB_congr (f' := N.2.2 v) (e := f) (e' := fun i => T (a + i)) (m := len) (k := 0) (fun i _ hi => h3 i (by omega)) (fun i _ hi => hf i (by omega))]
  · rw [decide_eq_false hl, Bool.false_and, Bool.false_and]
theorem te_find {KA EA LA BA : Nat → Int32} {E : ts_T} (h : ∀ t, t < E.1 → KA t = nI (E.2.1 t) ∧ EA t = nI (E.2.2.1 t) ∧ LA t = nI (E.2.2.2.1 t) ∧ ∀ i, i < E.2.2.2.1 t → BA (t * 20 + i) = E.2.2.2.2 t i) (hw : tsW E) {kd ex : Nat} {L : List Int32} {X : Nat → Int32} (hX : ∀ i, i < L.length → X i = L.getD i 0) (hk : kd ≤ 4) (he : ex < 676) (hL : L.length ≤ 20) : fdB (tmB KA EA LA BA (nI kd) (nI ex) L.length X) E.1 0 = tsF E kd ex L := by
  refine fdB_congr (fun t _ ht => ?_)
  have ht : t < E.1 := by omega
  obtain ⟨h1, h2, h3, h4⟩ := h t ht
  obtain ⟨w1, w2, w3, -⟩ := hw t ht
  simp only [tmB, tsP]
  rw [h1, h2, h3, dnI (by omega) (by omega), dnI (by omega) (by omega), dnI (by omega) (by omega)]
  by_cases hl : E.2.2.2.1 t = L.length
  · rw [eqB_congr (f' := E.2.2.2.2 t) (e := X) (e' := fun i => L.getD i 0) (m := L.length) (k := 0) (fun i _ hi => h4 i (by omega)) (fun i _ hi => hX i (by omega))]
  · rw [decide_eq_false hl, Bool.false_and, Bool.false_and]
/-- the tape as a list -/
def tpL (U : U_T) : List Int32 := (List.range (uN U)).map (uT U)
theorem tpL_len {U : U_T} : (tpL U).length = uN U := by simp [tpL]
theorem tpL_get {U : U_T} {i : Nat} (h : i < uN U) : (tpL U).getD i 0 = uT U i := by simp [tpL, List.getD, h]
theorem exB_k {k e : Int32} : exB k e = true ↔ (0 ≤ k.toInt ∧ k.toInt ≤ 4) ∧ ((k.toInt = 3 ∧ 0 ≤ e.toInt ∧ e.toInt ≤ 675) ∨ (k.toInt = 4 ∧ 0 ≤ e.toInt ∧ e.toInt ≤ 3) ∨ (k.toInt ≠ 3 ∧ k.toInt ≠ 4 ∧ e.toInt = 0)) := by
  simp only [exB]
  by_cases h3 : k.toInt = 3
  · rw [if_pos h3, decide_eq_true_eq]; omega
  · rw [if_neg h3]
    by_cases h4 : k.toInt = 4
    · rw [if_pos h4, decide_eq_true_eq]; omega
    · rw [if_neg h4, decide_eq_true_eq]; omega
theorem okM_i {k : Nat} {f : Nat → Int32} {n : Nat} : okM k f n = true ↔ allB pTx f n 0 = true ∧ okK k f n = true := by
  have nd : ∀ b : Int32, pNd b = true → pTx b = true := fun b h => by simp only [pNd, decide_eq_true_eq] at h; exact decide_eq_true (by omega)
  have ld : ∀ b : Int32, pLD b = true → pTx b = true := fun b h => by simp only [pLD, decide_eq_true_eq] at h; exact decide_eq_true (by omega)
  simp only [okM, okK]
  by_cases h0 : k = 0
  · rw [if_pos h0, if_pos h0]
    refine ⟨fun h => ⟨?_, h⟩, fun h => h.2⟩
    simp only [Bool.and_eq_true] at h
    exact (allB_iff _ _ _ _).mpr (fun i a b => nd _ ((allB_iff _ _ _ _).mp h.2 i a b))
  · rw [if_neg h0, if_neg h0]
    by_cases h1 : k = 1
    · rw [if_pos h1, if_pos h1]
      simp only [Bool.and_eq_true, decide_eq_true_eq]
      exact ⟨fun h => ⟨(allB_iff _ _ _ _).mpr (fun i a b => ld _ ((allB_iff _ _ _ _).mp h.2 i a b)), ⟨by omega, h.1.2⟩, h.2⟩, fun h => ⟨⟨by omega, h.2.1.2⟩, h.2.2⟩⟩
    · rw [if_neg h1, if_neg h1]; exact ⟨fun h => ⟨h, rfl⟩, fun h => h.1⟩
def f_good (U : U_T) (k e : Int32) : Bool := exB k e && (decide (uN U ≤ 20) && (allB pTx (uT U) (uN U) 0 && okK k.toInt.toNat (uT U) (uN U)))
theorem f_good_i {U : U_T} {k e : Int32} : f_good U k e = true ↔ exB k e = true ∧ uN U ≤ 20 ∧ allB pTx (uT U) (uN U) 0 = true ∧ okK k.toInt.toNat (uT U) (uN U) = true := by
  simp only [f_good, Bool.and_eq_true, decide_eq_true_eq]
/-- the picture with another store of terms -/
def pcT (P : xp_T) (E : ts_T) : xp_T := ((xp_v P, xp_r P, E.1), xp_nl P, E.2.1, E.2.2.1, E.2.2.2.1, xp_nb P, E.2.2.2.2, xp_c P)
def f_term (U : U_T) (k e : Int32) : Int32 × U_T := if f_good U k e = true then (match tsF (tsO (uP U)) k.toInt.toNat e.toInt.toNat (tpL U) with
  | some t => (nI t, setT U tp0)
  | none => if xp_t (uP U) < 60 then (nI (xp_t (uP U)), setT (setP U (pcT (uP U) (tsA (tsO (uP U)) k.toInt.toNat e.toInt.toNat (tpL U)))) tp0) else (-3, setT U tp0)) else (-1, setT U tp0)
def uNm (U : U_T) : nm_T := (xp_v (uP U), xp_nl (uP U), xp_nb (uP U))
def f_nm (U : U_T) : Bool := decide (1 ≤ uN U ∧ uN U ≤ 8) && (allB pLet (uT U) (uN U) 0 && (nmF (uNm U) (uT U) 0 (uN U)).isNone)
/-- the picture with one name more -/
def pcN (P : xp_T) (n : Nat) (T : Nat → Int32) : xp_T := ((xp_v P + 1, xp_r P, xp_t P), fun u => if u = xp_v P then n else xp_nl P u, xp_k P, xp_e P, xp_l P, fun u i => if u = xp_v P then T i else xp_nb P u i, xp_b P, xp_c P)
def f_var (U : U_T) : Int32 × U_T := if f_nm U = true then (if 0 < xp_r (uP U) then (-2, setT U tp0) else if xp_v (uP U) < 6 then (nI (xp_v (uP U)), setT (setP U (pcN (uP U) (uN U) (uT U))) tp0) else (-3, setT U tp0)) else (-1, setT U tp0)
/-! arrays out of the picture -/
def aL (P : xp_T) : Nat → Int32 := fun v => nI (xp_nl P v)
def aB (P : xp_T) : Nat → Int32 := fun j => xp_nb P (j / 8) (j % 8)
def aC (P : xp_T) : Nat → Int32 := fun j => oI (xp_c P (j / 6) (j % 6))
theorem aB_e {P : xp_T} {v i : Nat} (h : i < 8) : aB P (v * 8 + i) = xp_nb P v i := by
  simp only [aB]; rw [show (v * 8 + i) / 8 = v by omega, show (v * 8 + i) % 8 = i by omega]
theorem aC_e {P : xp_T} {r v : Nat} (h : v < 6) : aC P (r * 6 + v) = oI (xp_c P r v) := by
  simp only [aC]; rw [show (r * 6 + v) / 6 = r by omega, show (r * 6 + v) % 6 = v by omega]
theorem nsB_congr {A1 A2 A3 A4 B1 B2 B3 B4 : Nat → Int32} : ∀ {m k : Nat}, (∀ v, k ≤ v → v < k + m → A1 v = B1 v ∧ A3 v = B3 v ∧ (A1 v = A3 v → ∀ i, i < (A1 v).toNatClampNeg → A2 (v * 8 + i) = B2 (v * 8 + i) ∧ A4 (v * 8 + i) = B4 (v * 8 + i))) → nsB A1 A2 A3 A4 m k = nsB B1 B2 B3 B4 m k := by
  intro m
  induction m with
  | zero => intro k _; rfl
  | succ m ih =>
    intro k h
    simp only [nsB]
    obtain ⟨h1, h2, h3⟩ := h k (by omega) (by omega)
    rw [ih (fun v a b => h v (by omega) (by omega)), ← h1, ← h2]
    by_cases he : A1 k = A3 k
    · rw [eqB_congr (f' := fun i => B2 (k * 8 + i)) (e' := fun i => B4 (k * 8 + i)) (fun i _ hi => (h3 he i (by omega)).1) (fun i _ hi => (h3 he i (by omega)).2)]
    · rw [decide_eq_false he, Bool.false_and, Bool.false_and]
theorem rwB_congr {C D C' D' : Nat → Int32} {nv r s : Nat} (h1 : ∀ v, v < nv → C (r * 6 + v) = C' (r * 6 + v)) (h2 : ∀ v, v < nv → D (s * 6 + v) = D' (s * 6 + v)) : rwB C D nv r s = rwB C' D' nv r s := eqB_congr (fun v _ hv => h1 v (by omega)) (fun v _ hv => h2 v (by omega))
/-- names alike, as many of them -/
def f_cmp (U : U_T) : Bool := decide (xp_v (uP U) = xp_v (uQ U)) && nsB (aL (uP U)) (aB (uP U)) (aL (uQ U)) (aB (uQ U)) (xp_v (uP U)) 0
/-- row x of the table goes without -/
def f_lk (U : U_T) (x : Nat) : Bool := decide (cnB (fun q => rwB (aC (uQ U)) (aC (uP U)) (xp_v (uP U)) q x) (xp_r (uQ U)) 0 ≤ cnB (fun q => rwB (aC (uP U)) (aC (uP U)) (xp_v (uP U)) q x) x 0)
def f_same (U : U_T) (b : Bool) : Int32 × U_T := (if uK U = true then (if (f_cmp U = true ∧ xp_r (uP U) = xp_r (uQ U)) ∧ anB (fun x => if b = true then rwB (aC (uQ U)) (aC (uP U)) (xp_v (uP U)) x x else !f_lk U x) (xp_r (uP U)) 0 = true then nI 1 else nI 0) else -2, U)
def f_lacks (U : U_T) (x : Int32) : Int32 × U_T := (if uK U = true ∧ 0 ≤ x.toInt then lkB (fun r => !(f_cmp U && !f_lk U r)) x.toInt.toNat (xp_r (uP U)) 0 0 else -2, U)
def f_dist (U : U_T) : Int32 × U_T := (nI (xp_r (uP U) - (ddB (xp_v (uP U)) (xp_r (uP U)) 0 0 (aC (uP U))).1), setP U (pcC (uP U) (ddB (xp_v (uP U)) (xp_r (uP U)) 0 0 (aC (uP U))).1 (fun r v => zO ((ddB (xp_v (uP U)) (xp_r (uP U)) 0 0 (aC (uP U))).2 (r * 6 + v)))))
theorem dd_b {nv M : Nat} (hv6 : nv ≤ 6) : ∀ (m r l : Nat) (C D : Nat → Int32), l ≤ r → r + m ≤ M → (∀ q v, q < M → v < nv → C (q * 6 + v) = D (q * 6 + v)) → ((ddB nv m r l C).1 = (ddB nv m r l D).1 ∧ ∀ q v, q < M → v < nv → (ddB nv m r l C).2 (q * 6 + v) = (ddB nv m r l D).2 (q * 6 + v)) ∧ ((ddB nv m r l C).1 = (ddM nv m r l D).1 ∧ ∀ q v, q < M → v < nv → (ddB nv m r l C).2 (q * 6 + v) = (ddM nv m r l D).2 (q * 6 + v)) := by
  intro m
  induction m with
  | zero => intro r l C D _ _ h; exact ⟨⟨rfl, h⟩, rfl, h⟩
  | succ m ih =>
    intro r l C D hlr hM h
    simp only [ddB, ddM]
    have e1 : cnB (fun q => rwB C C nv q r) l 0 = cnB (fun q => rwB D D nv q r) l 0 := cnB_congr (fun i _ hi => rwB_congr (fun v hv => h i v (by omega) hv) (fun v hv => h r v (by omega) hv))
    have e2 : cnB (fun q => rwB D D nv q r) l 0 = cnB (fun q => rwB D D nv r q) l 0 := cnB_congr (fun i _ _ => rwB_sy)
    by_cases hq : 0 < cnB (fun q => rwB C C nv q r) l 0
    · rw [if_pos hq, if_pos (by omega), if_pos (or_cn.mpr (by omega))]; exact ih (r + 1) l C D (by omega) (by omega) h
    · rw [if_neg hq, if_neg (by omega), if_neg (fun q => hq (by have := or_cn.mp q; omega))]
      have h1 : ∀ q v, q < M → v < nv → cpR C nv l r (q * 6 + v) = cpR D nv l r (q * 6 + v) := fun q v hq2 hv => by
        simp only [cpR]
        by_cases hql : q = l
        · subst hql
          rw [if_pos (by omega), if_pos (by omega), show q * 6 + v - q * 6 = v by omega]
          exact h r v (by omega) hv
        · rw [if_neg (by omega), if_neg (by omega)]; exact h q v hq2 hv
      have h2 : ∀ q v, q < M → v < nv → cpR C nv l r (q * 6 + v) = cpR D 6 l r (q * 6 + v) := fun q v hq2 hv => by
        simp only [cpR]
        by_cases hql : q = l
        · subst hql
          rw [if_pos (by omega), if_pos (by omega), show q * 6 + v - q * 6 = v by omega]
          exact h r v (by omega) hv
        · rw [if_neg (by omega), if_neg (by omega)]; exact h q v hq2 hv
      exact ⟨(ih (r + 1) (l + 1) _ _ (by omega) (by omega) h1).1, (ih (r + 1) (l + 1) _ _ (by omega) (by omega) h2).2⟩
theorem dd_p {nv M : Nat} {p : Int32 → Prop} (hv6 : nv ≤ 6) : ∀ (m r l : Nat) (C : Nat → Int32), l ≤ r → r + m ≤ M → (∀ q v, q < M → v < nv → p (C (q * 6 + v))) → (∀ q v, q < M → v < nv → p ((ddB nv m r l C).2 (q * 6 + v))) ∧ (ddB nv m r l C).1 ≤ r + m := by
  intro m
  induction m with
  | zero => intro r l C h1 _ h; exact ⟨h, h1⟩
  | succ m ih =>
    intro r l C hlr hM h
    simp only [ddB]
    by_cases hq : 0 < cnB (fun q => rwB C C nv q r) l 0
    · rw [if_pos hq]; have := ih (r + 1) l C (by omega) (by omega) h; exact ⟨this.1, by omega⟩
    · rw [if_neg hq]
      have := ih (r + 1) (l + 1) (cpR C nv l r) (by omega) (by omega) (fun q v hq2 hv => by
        simp only [cpR]
        by_cases hql : q = l
        · subst hql
          rw [if_pos (by omega), show q * 6 + v - q * 6 = v by omega]
          exact h r v (by omega) hv
        · rw [if_neg (by omega)]; exact h q v hq2 hv)
      exact ⟨this.1, by omega⟩
theorem cR_var {g : aw_G} {S : aw_S} {U : U_T} (h : clsR S U) (hw : wdU U)  : Sp g M_RF_variable 3 71 0 0 [.ref 0] (HP S) (cQ S (f_var U)) := by
  have hfd : fdB (nmB (S.2 16) (S.2 15) (uN U) (fun i => S.2 2 (0 + i))) (xp_v (uP U)) 0 = nmF (uNm U) (uT U) 0 (uN U) := nm_find (N := uNm U) (fun v hv => ⟨(h.1.2.1 v hv).1, (hw.1.2.1 v hv).2, (h.1.2.1 v hv).2⟩) (by have := h.2.1.2.1; omega) (fun i hi => by rw [Nat.zero_add]; exact h.2.1.2.2.1 i hi)
  have hal : allB pLet (S.2 2) (uN U) 0 = allB pLet (uT U) (uN U) 0 := allB_congr (fun i _ hi => h.2.1.2.2.1 i (by omega))
  by_cases c : f_nm U = true
  · rw [f_var, if_pos c]
    have hg : (1 ≤ uN U ∧ uN U ≤ 8) ∧ allB pLet (uT U) (uN U) 0 = true ∧ nmF (uNm U) (uT U) 0 (uN U) = none := by
      simp only [f_nm, Bool.and_eq_true, decide_eq_true_eq, Option.isNone_iff_eq_none] at c
      exact c
    by_cases c1 : 0 < xp_r (uP U)
    · rw [if_pos c1]
      exact Sp.imp (sp_RF_variableN (xp_TbI h.1 hw.1) h.2.1.1 h.2.1.2.1 ⟨hg.1, by rw [hal]; exact hg.2.1⟩ (by rw [hfd]; exact hg.2.2) c1) (fun r hh hr => ⟨hr.1, _, hr.2, clsR_T0 h (xp_C_fr h.1 rfl rfl rfl rfl rfl rfl rfl rfl rfl rfl) rfl rfl rfl rfl rfl rfl rfl rfl rfl, loS_si (loS_si loS_rf (by decide)) (by decide)⟩)
    · rw [if_neg c1]
      by_cases c2 : xp_v (uP U) < 6
      · rw [if_pos c2]
        refine Sp.imp (sp_RF_variable (xp_TbI h.1 hw.1) h.2.1.1 h.2.1.2.1 ⟨hg.1, by rw [hal]; exact hg.2.1⟩ (by rw [hfd]; exact hg.2.2) (by omega) c2) (fun r hh hr => ?_)
        obtain ⟨h1, ND, h2, b1, b2⟩ := hr
        exact ⟨h1, _, h2, clsR_T0 (U := U) h ⟨⟨h.1.1.1, rfl, h.1.1.2.2⟩, fun v hv => by
          have hv : v < xp_v (uP U) + 1 := hv
          show upd (S.2 16) (xp_v (uP U)) (nI (uN U)) v = nI (if v = xp_v (uP U) then uN U else xp_nl (uP U) v) ∧ ∀ i, i < (if v = xp_v (uP U) then uN U else xp_nl (uP U) v) → ND (v * 8 + i) = if v = xp_v (uP U) then uT U i else xp_nb (uP U) v i
          simp only [upd]
          by_cases hq : v = xp_v (uP U)
          · simp only [if_pos hq]
            exact ⟨trivial, fun i hi => by rw [hq, b1 i hi]; exact h.2.1.2.2.1 i hi⟩
          · simp only [if_neg hq]
            have h8 := (hw.1.2.1 v (by omega)).2
            exact ⟨(h.1.2.1 v (by omega)).1, fun i hi => by rw [b2 _ (by omega)]; exact (h.1.2.1 v (by omega)).2 i hi⟩, fun r v hr hv => (by have hr : r < xp_r (uP U) := hr; omega), h.1.2.2.2⟩ rfl rfl rfl rfl rfl rfl rfl rfl rfl, loS_si (loS_si (loS_si (loS_sa (loS_sa loS_rf (by decide)) (by decide)) (by decide)) (by decide)) (by decide)⟩
      · rw [if_neg c2]
        exact Sp.imp (sp_RF_variableF (xp_TbI h.1 hw.1) h.2.1.1 h.2.1.2.1 ⟨hg.1, by rw [hal]; exact hg.2.1⟩ (by rw [hfd]; exact hg.2.2) (by omega) (by have := hw.1.1.1; omega)) (fun r hh hr => ⟨hr.1, _, hr.2, clsR_T0 h (xp_C_fr h.1 rfl rfl rfl rfl rfl rfl rfl rfl rfl rfl) rfl rfl rfl rfl rfl rfl rfl rfl rfl, loS_si (loS_si loS_rf (by decide)) (by decide)⟩)
  · rw [f_var, if_neg c]
    have hb : ¬ ((1 ≤ uN U ∧ uN U ≤ 8) ∧ allB pLet (uT U) (uN U) 0 = true ∧ nmF (uNm U) (uT U) 0 (uN U) = none) := fun q => c (by simp only [f_nm, Bool.and_eq_true, decide_eq_true_eq, Option.isNone_iff_eq_none]; exact q)
    exact Sp.imp (sp_RF_variableB (xp_TbI h.1 hw.1) h.2.1.1 h.2.1.2.1 (fun q => hb ⟨q.1.1, by rw [← hal]; exact q.1.2, by rw [← hfd]; exact q.2⟩)) (fun r hh hr => ⟨hr.1, _, hr.2, clsR_T0 h (xp_C_fr h.1 rfl rfl rfl rfl rfl rfl rfl rfl rfl rfl) rfl rfl rfl rfl rfl rfl rfl rfl rfl, loS_si (loS_si loS_rf (by decide)) (by decide)⟩)
theorem cR_term {g : aw_G} {S : aw_S} {U : U_T} (h : clsR S U) (hw : wdU U) {k e : Int32} : Sp g M_RF_term 6 134 0 0 [.ref 0, .int k, .int e] (HP S) (cQ S (f_term U k e)) := by
  have hax : allB pTx (S.2 2) (uN U) 0 = allB pTx (uT U) (uN U) 0 := allB_congr (fun i _ hi => h.2.1.2.2.1 i (by omega))
  have hok : ∀ kd, okK kd (S.2 2) (uN U) = okK kd (uT U) (uN U) := fun kd => okK_congr (fun i hi => h.2.1.2.2.1 i hi)
  by_cases c : f_good U k e = true
  · rw [f_term, if_pos c]
    have hg := f_good_i.mp c
    have hk := exB_k.mp hg.1
    obtain ⟨kd, ekd⟩ : ∃ a : Nat, a = k.toInt.toNat := ⟨_, rfl⟩
    obtain ⟨ex, eex⟩ : ∃ a : Nat, a = e.toInt.toNat := ⟨_, rfl⟩
    have hk2 : k = nI kd := by rw [ekd]; exact i32n hk.1.1
    have he2 : e = nI ex := by rw [eex]; exact i32n (by omega)
    have hex : exB (nI kd) (nI ex) = true := by rw [← hk2, ← he2]; exact hg.1
    rw [← ekd] at hg
    rw [← ekd, ← eex, hk2, he2]
    have hkd : kd ≤ 4 := by omega
    have hF : fdB (tmB (S.2 10) (S.2 11) (S.2 12) (S.2 13) (nI kd) (nI ex) (uN U) (S.2 2)) (xp_t (uP U)) 0 = tsF (tsO (uP U)) kd ex (tpL U) := by
      have q := te_find (E := tsO (uP U)) (fun t ht => h.1.2.2.2 t ht) (tsO_W hw.1) (kd := kd) (ex := ex) (L := tpL U) (X := S.2 2) (fun i hi => by rw [tpL_len] at hi; rw [tpL_get hi]; exact h.2.1.2.2.1 i hi) hkd (by omega) (by rw [tpL_len]; exact hg.2.1)
      rw [tpL_len] at q
      exact q
    cases hx : tsF (tsO (uP U)) kd ex (tpL U) with
    | some t =>
      rw [hx] at hF
      refine Sp.imp (sp_RF_termS h.2.1.1 h.2.1.2.1 (xp_TeI h.1 hw.1) hkd hg.2.1 (by rw [hax]; exact hg.2.2.1) hex (by rw [hok]; exact hg.2.2.2) hF) (fun r hh hr => ?_)
      obtain ⟨h1, A, h2⟩ := hr
      exact ⟨h1, _, h2, clsR_T0 h (xp_C_fr h.1 rfl rfl rfl rfl rfl rfl rfl rfl rfl rfl) rfl rfl rfl rfl rfl rfl rfl rfl rfl, loS_si (loS_si (loS_si (loS_sa loS_rf (by decide)) (by decide)) (by decide)) (by decide)⟩
    | none =>
      rw [hx] at hF
      show Sp g _ _ _ _ _ _ _ (cQ S (if xp_t (uP U) < 60 then _ else _))
      by_cases c2 : xp_t (uP U) < 60
      · rw [if_pos c2]
        refine Sp.imp (sp_RF_termN h.2.1.1 h.2.1.2.1 (xp_TeI h.1 hw.1) hkd hg.2.1 (by rw [hax]; exact hg.2.2.1) hex (by rw [hok]; exact hg.2.2.2) hF c2) (fun r hh hr => ?_)
        obtain ⟨h1, A, BD, h2, b1, b2⟩ := hr
        exact ⟨h1, _, h2, clsR_T0 (U := U) h ⟨⟨rfl, h.1.1.2.1, h.1.1.2.2⟩, h.1.2.1, h.1.2.2.1, fun t ht => by
            have ht : t < xp_t (uP U) + 1 := ht
            show upd (S.2 10) (xp_t (uP U)) (nI kd) t = nI (if t = xp_t (uP U) then kd else xp_k (uP U) t) ∧ upd (S.2 11) (xp_t (uP U)) (nI ex) t = nI (if t = xp_t (uP U) then ex else xp_e (uP U) t) ∧ upd (S.2 12) (xp_t (uP U)) (nI (uN U)) t = nI (if t = xp_t (uP U) then (tpL U).length else xp_l (uP U) t) ∧ ∀ i, i < (if t = xp_t (uP U) then (tpL U).length else xp_l (uP U) t) → BD (t * 20 + i) = if t = xp_t (uP U) then (tpL U).getD i 0 else xp_b (uP U) t i
            simp only [upd]
            by_cases hq : t = xp_t (uP U)
            · simp only [if_pos hq]
              rw [tpL_len]
              exact ⟨trivial, trivial, rfl, fun i hi => by rw [hq, b1 i hi, tpL_get hi]; exact h.2.1.2.2.1 i hi⟩
            · simp only [if_neg hq]
              obtain ⟨e1, e2, e3, e4⟩ := h.1.2.2.2 t (by omega)
              have h20 := (hw.1.2.2.2 t (by omega)).2.1
              exact ⟨e1, e2, e3, fun i hi => by rw [b2 _ (by omega)]; exact e4 i hi⟩⟩ rfl rfl rfl rfl rfl rfl rfl rfl rfl, loS_si (loS_sa (loS_sa (loS_sa (loS_sa (loS_si (loS_si (loS_si (loS_sa loS_rf (by decide)) (by decide)) (by decide)) (by decide)) (by decide)) (by decide)) (by decide)) (by decide)) (by decide)⟩
      · rw [if_neg c2]
        refine Sp.imp (sp_RF_termF h.2.1.1 h.2.1.2.1 (xp_TeI h.1 hw.1) hkd hg.2.1 (by rw [hax]; exact hg.2.2.1) hex (by rw [hok]; exact hg.2.2.2) hF (by have := hw.1.1.2.2; omega)) (fun r hh hr => ?_)
        obtain ⟨h1, A, h2⟩ := hr
        exact ⟨h1, _, h2, clsR_T0 h (xp_C_fr h.1 rfl rfl rfl rfl rfl rfl rfl rfl rfl rfl) rfl rfl rfl rfl rfl rfl rfl rfl rfl, loS_si (loS_si (loS_si (loS_sa loS_rf (by decide)) (by decide)) (by decide)) (by decide)⟩
  · rw [f_term, if_neg c]
    refine Sp.imp (sp_RF_termB (k := k) (e := e) h.2.1.1 h.2.1.2.1 (fun q => c (f_good_i.mpr ⟨q.2.1, q.1.1, by rw [← hax]; exact q.1.2, by rw [← hok]; exact q.2.2⟩))) (fun r hh hr => ?_)
    obtain ⟨h1, m, A, h2⟩ := hr
    exact ⟨h1, _, h2, clsR_T0 h (xp_C_fr h.1 rfl rfl rfl rfl rfl rfl rfl rfl rfl rfl) rfl rfl rfl rfl rfl rfl rfl rfl rfl, loS_si (loS_si (loS_si (loS_sa loS_rf (by decide)) (by decide)) (by decide)) (by decide)⟩
theorem mR_var {g : aw_G} {S : aw_S} {U : U_T} (h : modR S U) (hw : wdU U)  : Sp g M_Mo_variable 2 42 0 0 [.ref 33] (HP S) (mQ S (f_var U)) := by
  have hfd : fdB (nmB (S.2 41) (S.2 42) (uN U) (S.2 34)) (xp_v (uP U)) 0 = nmF (uNm U) (uT U) 0 (uN U) := nm_find (N := uNm U) (fun v hv => ⟨(h.1.2.1 v hv).1, (hw.1.2.1 v hv).2, (h.1.2.1 v hv).2⟩) (by have := h.2.1.2.1; omega) (fun i hi => by rw [Nat.zero_add]; exact h.2.1.2.2.1 i hi)
  have hal : allB pLet (S.2 34) (uN U) 0 = allB pLet (uT U) (uN U) 0 := allB_congr (fun i _ hi => h.2.1.2.2.1 i (by omega))
  by_cases c : f_nm U = true
  · rw [f_var, if_pos c]
    have hg : (1 ≤ uN U ∧ uN U ≤ 8) ∧ allB pLet (uT U) (uN U) 0 = true ∧ nmF (uNm U) (uT U) 0 (uN U) = none := by
      simp only [f_nm, Bool.and_eq_true, decide_eq_true_eq, Option.isNone_iff_eq_none] at c
      exact c
    by_cases c1 : 0 < xp_r (uP U)
    · rw [if_pos c1]
      exact Sp.imp (sp_Mo_variableN (xp_TmB h.1 hw.1) h.2.1.1 h.2.1.2.1 (by rw [decide_eq_true hg.1, hal, hg.2.1, hfd, hg.2.2]; rfl) c1) (fun r hh hr => ⟨hr.1, _, hr.2, modR_T0 h (xp_M_fr h.1 rfl rfl rfl rfl rfl rfl rfl rfl rfl rfl) rfl rfl rfl rfl rfl rfl rfl rfl rfl, hiS_si hiS_rf (by decide)⟩)
    · rw [if_neg c1]
      by_cases c2 : xp_v (uP U) < 6
      · rw [if_pos c2]
        refine Sp.imp (sp_Mo_variable (xp_TmB h.1 hw.1) h.2.1.1 h.2.1.2.1 (by rw [decide_eq_true hg.1, hal, hg.2.1, hfd, hg.2.2]; rfl) (by omega) c2) (fun r hh hr => ?_)
        obtain ⟨h1, ND, h2, b1, b2⟩ := hr
        exact ⟨h1, _, h2, modR_T0 (U := U) h ⟨⟨h.1.1.1, rfl, h.1.1.2.2⟩, fun v hv => by
          have hv : v < xp_v (uP U) + 1 := hv
          show upd (S.2 41) (xp_v (uP U)) (nI (uN U)) v = nI (if v = xp_v (uP U) then uN U else xp_nl (uP U) v) ∧ ∀ i, i < (if v = xp_v (uP U) then uN U else xp_nl (uP U) v) → ND (v * 8 + i) = if v = xp_v (uP U) then uT U i else xp_nb (uP U) v i
          simp only [upd]
          by_cases hq : v = xp_v (uP U)
          · simp only [if_pos hq]
            exact ⟨trivial, fun i hi => by rw [hq, b1 i hi]; exact h.2.1.2.2.1 i hi⟩
          · simp only [if_neg hq]
            have h8 := (hw.1.2.1 v (by omega)).2
            exact ⟨(h.1.2.1 v (by omega)).1, fun i hi => by rw [b2 _ (by omega)]; exact (h.1.2.1 v (by omega)).2 i hi⟩, fun r v hr hv => (by have hr : r < xp_r (uP U) := hr; omega), h.1.2.2.2⟩ rfl rfl rfl rfl rfl rfl rfl rfl rfl, hiS_si (hiS_sa (hiS_sa (hiS_si hiS_rf (by decide)) (by decide)) (by decide)) (by decide)⟩
      · rw [if_neg c2]
        exact Sp.imp (sp_Mo_variableF (xp_TmB h.1 hw.1) h.2.1.1 h.2.1.2.1 (by rw [decide_eq_true hg.1, hal, hg.2.1, hfd, hg.2.2]; rfl) (by omega) (by have := hw.1.1.1; omega)) (fun r hh hr => ⟨hr.1, _, hr.2, modR_T0 h (xp_M_fr h.1 rfl rfl rfl rfl rfl rfl rfl rfl rfl rfl) rfl rfl rfl rfl rfl rfl rfl rfl rfl, hiS_si hiS_rf (by decide)⟩)
  · rw [f_var, if_neg c]
    have hb : ¬ ((1 ≤ uN U ∧ uN U ≤ 8) ∧ allB pLet (uT U) (uN U) 0 = true ∧ nmF (uNm U) (uT U) 0 (uN U) = none) := fun q => c (by simp only [f_nm, Bool.and_eq_true, decide_eq_true_eq, Option.isNone_iff_eq_none]; exact q)
    exact Sp.imp (sp_Mo_variableB (xp_TmB h.1 hw.1) h.2.1.1 h.2.1.2.1 (by rw [hal, hfd]; cases hq : ((decide (1 ≤ uN U ∧ uN U ≤ 8) && allB pLet (uT U) (uN U) 0) && (nmF (uNm U) (uT U) 0 (uN U)).isNone) with | false => rfl | true => (exfalso; apply hb; simp only [Bool.and_eq_true, decide_eq_true_eq, Option.isNone_iff_eq_none] at hq; exact ⟨hq.1.1, hq.1.2, hq.2⟩))) (fun r hh hr => ⟨hr.1, _, hr.2, modR_T0 h (xp_M_fr h.1 rfl rfl rfl rfl rfl rfl rfl rfl rfl rfl) rfl rfl rfl rfl rfl rfl rfl rfl rfl, hiS_si hiS_rf (by decide)⟩)
theorem mR_term {g : aw_G} {S : aw_S} {U : U_T} (h : modR S U) (hw : wdU U) {k e : Int32} : Sp g M_Mo_term 3 66 0 0 [.ref 33, .int k, .int e] (HP S) (mQ S (f_term U k e)) := by
  have hax : allB pTx (S.2 34) (uN U) 0 = allB pTx (uT U) (uN U) 0 := allB_congr (fun i _ hi => h.2.1.2.2.1 i (by omega))
  have hok : ∀ kd, okM kd (S.2 34) (uN U) = okM kd (uT U) (uN U) := fun kd => okM_congr (fun i hi => h.2.1.2.2.1 i hi)
  by_cases c : f_good U k e = true
  · rw [f_term, if_pos c]
    have hg := f_good_i.mp c
    have hk := exB_k.mp hg.1
    obtain ⟨kd, ekd⟩ : ∃ a : Nat, a = k.toInt.toNat := ⟨_, rfl⟩
    obtain ⟨ex, eex⟩ : ∃ a : Nat, a = e.toInt.toNat := ⟨_, rfl⟩
    have hk2 : k = nI kd := by rw [ekd]; exact i32n hk.1.1
    have he2 : e = nI ex := by rw [eex]; exact i32n (by omega)
    have hex : exB (nI kd) (nI ex) = true := by rw [← hk2, ← he2]; exact hg.1
    rw [← ekd] at hg
    rw [← ekd, ← eex, hk2, he2]
    have hkd : kd ≤ 4 := by omega
    have hF : fdB (tmB (S.2 37) (S.2 38) (S.2 39) (S.2 40) (nI kd) (nI ex) (uN U) (S.2 34)) (xp_t (uP U)) 0 = tsF (tsO (uP U)) kd ex (tpL U) := by
      have q := te_find (E := tsO (uP U)) (fun t ht => h.1.2.2.2 t ht) (tsO_W hw.1) (kd := kd) (ex := ex) (L := tpL U) (X := S.2 34) (fun i hi => by rw [tpL_len] at hi; rw [tpL_get hi]; exact h.2.1.2.2.1 i hi) hkd (by omega) (by rw [tpL_len]; exact hg.2.1)
      rw [tpL_len] at q
      exact q
    cases hx : tsF (tsO (uP U)) kd ex (tpL U) with
    | some t =>
      rw [hx] at hF
      refine Sp.imp (sp_Mo_termS h.2.1.1 h.2.1.2.1 (xp_TmI h.1 hw.1) hkd hg.2.1 hex (by rw [hok]; exact okM_i.mpr ⟨hg.2.2.1, hg.2.2.2⟩) hF) (fun r hh hr => ?_)
      obtain ⟨h1, A, h2⟩ := hr
      exact ⟨h1, _, h2, modR_T0 h (xp_M_fr h.1 rfl rfl rfl rfl rfl rfl rfl rfl rfl rfl) rfl rfl rfl rfl rfl rfl rfl rfl rfl, hiS_sa (hiS_si (hiS_si hiS_rf (by decide)) (by decide)) (by decide)⟩
    | none =>
      rw [hx] at hF
      show Sp g _ _ _ _ _ _ _ (mQ S (if xp_t (uP U) < 60 then _ else _))
      by_cases c2 : xp_t (uP U) < 60
      · rw [if_pos c2]
        refine Sp.imp (sp_Mo_termN h.2.1.1 h.2.1.2.1 (xp_TmI h.1 hw.1) hkd hg.2.1 hex (by rw [hok]; exact okM_i.mpr ⟨hg.2.2.1, hg.2.2.2⟩) hF c2) (fun r hh hr => ?_)
        obtain ⟨h1, A, BD, h2, b1, b2⟩ := hr
        exact ⟨h1, _, h2, modR_T0 (U := U) h ⟨⟨rfl, h.1.1.2.1, h.1.1.2.2⟩, h.1.2.1, h.1.2.2.1, fun t ht => by
            have ht : t < xp_t (uP U) + 1 := ht
            show upd (S.2 37) (xp_t (uP U)) (nI kd) t = nI (if t = xp_t (uP U) then kd else xp_k (uP U) t) ∧ upd (S.2 38) (xp_t (uP U)) (nI ex) t = nI (if t = xp_t (uP U) then ex else xp_e (uP U) t) ∧ upd (S.2 39) (xp_t (uP U)) (nI (uN U)) t = nI (if t = xp_t (uP U) then (tpL U).length else xp_l (uP U) t) ∧ ∀ i, i < (if t = xp_t (uP U) then (tpL U).length else xp_l (uP U) t) → BD (t * 20 + i) = if t = xp_t (uP U) then (tpL U).getD i 0 else xp_b (uP U) t i
            simp only [upd]
            by_cases hq : t = xp_t (uP U)
            · simp only [if_pos hq]
              rw [tpL_len]
              exact ⟨trivial, trivial, rfl, fun i hi => by rw [hq, b1 i hi, tpL_get hi]; exact h.2.1.2.2.1 i hi⟩
            · simp only [if_neg hq]
              obtain ⟨e1, e2, e3, e4⟩ := h.1.2.2.2 t (by omega)
              have h20 := (hw.1.2.2.2 t (by omega)).2.1
              exact ⟨e1, e2, e3, fun i hi => by rw [b2 _ (by omega)]; exact e4 i hi⟩⟩ rfl rfl rfl rfl rfl rfl rfl rfl rfl, hiS_si (hiS_sa (hiS_sa (hiS_sa (hiS_sa (hiS_sa (hiS_si (hiS_si hiS_rf (by decide)) (by decide)) (by decide)) (by decide)) (by decide)) (by decide)) (by decide)) (by decide)⟩
      · rw [if_neg c2]
        refine Sp.imp (sp_Mo_termF h.2.1.1 h.2.1.2.1 (xp_TmI h.1 hw.1) hkd hg.2.1 hex (by rw [hok]; exact okM_i.mpr ⟨hg.2.2.1, hg.2.2.2⟩) hF (by have := hw.1.1.2.2; omega)) (fun r hh hr => ?_)
        obtain ⟨h1, A, h2⟩ := hr
        exact ⟨h1, _, h2, modR_T0 h (xp_M_fr h.1 rfl rfl rfl rfl rfl rfl rfl rfl rfl rfl) rfl rfl rfl rfl rfl rfl rfl rfl rfl, hiS_sa (hiS_si (hiS_si hiS_rf (by decide)) (by decide)) (by decide)⟩
  · rw [f_term, if_neg c]
    refine Sp.imp (sp_Mo_termB (k := k) (e := e) h.2.1.1 h.2.1.2.1 (fun q => by have o := okM_i.mp (by rw [← hok]; exact q.2.2.2); exact c (f_good_i.mpr ⟨exB_k.mpr ⟨q.1, q.2.1⟩, q.2.2.1, o.1, o.2⟩))) (fun r hh hr => ?_)
    obtain ⟨h1, m, A, h2, -⟩ := hr
    exact ⟨h1, _, h2, modR_T0 h (xp_M_fr h.1 rfl rfl rfl rfl rfl rfl rfl rfl rfl rfl) rfl rfl rfl rfl rfl rfl rfl rfl rfl, hiS_sa (hiS_si (hiS_si hiS_rf (by decide)) (by decide)) (by decide)⟩
