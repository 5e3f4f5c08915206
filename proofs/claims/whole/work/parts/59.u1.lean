/-! WHAT BOTH HOLD: picture, tape, what is out, what is kept -/
abbrev U_T : Type := xp_T × (Nat × (Nat → Int32)) × (Nat × (Nat → Int32)) × Bool × xp_T
def uP (U : U_T) : xp_T := U.1
def uN (U : U_T) : Nat := U.2.1.1
def uT (U : U_T) : Nat → Int32 := U.2.1.2
def uO (U : U_T) : Nat := U.2.2.1.1
def uB (U : U_T) : Nat → Int32 := U.2.2.1.2
def uK (U : U_T) : Bool := U.2.2.2.1
def uQ (U : U_T) : xp_T := U.2.2.2.2
def kpC (S : aw_S) (Q : xp_T) : Prop := (S.1 2203 = nI (xp_v Q) ∧ S.1 2204 = nI (xp_r Q)) ∧ (∀ v, v < xp_v Q → S.2 24 v = nI (xp_nl Q v) ∧ ∀ i, i < xp_nl Q v → S.2 23 (v * 8 + i) = xp_nb Q v i) ∧ ∀ r v, r < xp_r Q → v < xp_v Q → S.2 25 (r * 6 + v) = oI (xp_c Q r v)
def kpM (S : aw_S) (Q : xp_T) : Prop := (S.1 3317 = nI (xp_v Q) ∧ S.1 3320 = nI (xp_r Q)) ∧ (∀ v, v < xp_v Q → S.2 44 v = nI (xp_nl Q v) ∧ ∀ i, i < xp_nl Q v → S.2 45 (v * 8 + i) = xp_nb Q v i) ∧ ∀ r v, r < xp_r Q → v < xp_v Q → S.2 46 (r * 6 + v) = oI (xp_c Q r v)
def clsR (S : aw_S) (U : U_T) : Prop := xp_C S (uP U) ∧ TPc S (uN U) (uT U) ∧ (S.1 301 = nI (uO U) ∧ uO U ≤ 3000 ∧ ∀ i, i < uO U → S.2 4 i = uB U i) ∧ S.1 8 = (if uK U = true then nI 1 else nI 0) ∧ (uK U = true → kpC S (uQ U))
def modR (S : aw_S) (U : U_T) : Prop := xp_M S (uP U) ∧ TPm S (uN U) (uT U) ∧ (S.1 3302 = nI (uO U) ∧ uO U ≤ 3000 ∧ ∀ i, i < uO U → S.2 35 i = uB U i) ∧ S.1 3316 = (if uK U = true then nI 1 else nI 0) ∧ (uK U = true → kpM S (uQ U))
/-- as they may be -/
def kpW (Q : xp_T) : Prop := xp_v Q ≤ 6 ∧ xp_r Q ≤ 24 ∧ ∀ v, v < xp_v Q → 1 ≤ xp_nl Q v ∧ xp_nl Q v ≤ 8
def wdU (U : U_T) : Prop := xp_wd (uP U) ∧ (uK U = true → kpW (uQ U))
/-- the reference's cells stay; the class's stay -/
def loS (S F : aw_S) : Prop := (∀ j, 3300 ≤ j → F.1 j = S.1 j) ∧ ∀ c, 33 ≤ c → F.2 c = S.2 c
def hiS (S F : aw_S) : Prop := (∀ j, j < 3300 → F.1 j = S.1 j) ∧ ∀ c, c < 33 → F.2 c = S.2 c
theorem loS_rf {S : aw_S} : loS S S := ⟨fun _ _ => rfl, fun _ _ => rfl⟩
theorem hiS_rf {S : aw_S} : hiS S S := ⟨fun _ _ => rfl, fun _ _ => rfl⟩
theorem loS_si {S F : aw_S} {k : Nat} {v : Int32} (h : loS S F) (hk : k < 3300) : loS S (si F k v) := ⟨fun j hj => by rw [si_1, if_neg (by omega)]; exact h.1 j hj, h.2⟩
theorem loS_sa {S F : aw_S} {k : Nat} {f : Nat → Int32} (h : loS S F) (hk : k < 33) : loS S (sa F k f) := ⟨h.1, fun c hc => by rw [sa_2, if_neg (by omega)]; exact h.2 c hc⟩
theorem hiS_si {S F : aw_S} {k : Nat} {v : Int32} (h : hiS S F) (hk : 3300 ≤ k) : hiS S (si F k v) := ⟨fun j hj => by rw [si_1, if_neg (by omega)]; exact h.1 j hj, h.2⟩
theorem hiS_sa {S F : aw_S} {k : Nat} {f : Nat → Int32} (h : hiS S F) (hk : 33 ≤ k) : hiS S (sa F k f) := ⟨h.1, fun c hc => by rw [sa_2, if_neg (by omega)]; exact h.2 c hc⟩
theorem xp_C_fr {S F : aw_S} {P : xp_T} (h : xp_C S P) (i1 : F.1 904 = S.1 904) (i2 : F.1 1403 = S.1 1403) (i3 : F.1 1404 = S.1 1404) (a1 : F.2 10 = S.2 10) (a2 : F.2 11 = S.2 11) (a3 : F.2 12 = S.2 12) (a4 : F.2 13 = S.2 13) (a5 : F.2 15 = S.2 15) (a6 : F.2 16 = S.2 16) (a7 : F.2 17 = S.2 17) : xp_C F P := by
  refine ⟨⟨i1.trans h.1.1, i2.trans h.1.2.1, i3.trans h.1.2.2⟩, ?_, ?_, ?_⟩
  · rw [a5, a6]; exact h.2.1
  · rw [a7]; exact h.2.2.1
  · rw [a1, a2, a3, a4]; exact h.2.2.2
theorem xp_M_fr {S F : aw_S} {P : xp_T} (h : xp_M S P) (i1 : F.1 3306 = S.1 3306) (i2 : F.1 3311 = S.1 3311) (i3 : F.1 3314 = S.1 3314) (a1 : F.2 37 = S.2 37) (a2 : F.2 38 = S.2 38) (a3 : F.2 39 = S.2 39) (a4 : F.2 40 = S.2 40) (a5 : F.2 41 = S.2 41) (a6 : F.2 42 = S.2 42) (a7 : F.2 43 = S.2 43) : xp_M F P := by
  refine ⟨⟨i1.trans h.1.1, i2.trans h.1.2.1, i3.trans h.1.2.2⟩, ?_, ?_, ?_⟩
  · rw [a5, a6]; exact h.2.1
  · rw [a7]; exact h.2.2.1
  · rw [a1, a2, a3, a4]; exact h.2.2.2
theorem kpC_fr {S F : aw_S} {Q : xp_T} (h : kpC S Q) (i1 : F.1 2203 = S.1 2203) (i2 : F.1 2204 = S.1 2204) (a1 : F.2 23 = S.2 23) (a2 : F.2 24 = S.2 24) (a3 : F.2 25 = S.2 25) : kpC F Q := by
  refine ⟨⟨i1.trans h.1.1, i2.trans h.1.2⟩, ?_, ?_⟩
  · rw [a1, a2]; exact h.2.1
  · rw [a3]; exact h.2.2
theorem kpM_fr {S F : aw_S} {Q : xp_T} (h : kpM S Q) (i1 : F.1 3317 = S.1 3317) (i2 : F.1 3320 = S.1 3320) (a1 : F.2 44 = S.2 44) (a2 : F.2 45 = S.2 45) (a3 : F.2 46 = S.2 46) : kpM F Q := by
  refine ⟨⟨i1.trans h.1.1, i2.trans h.1.2⟩, ?_, ?_⟩
  · rw [a1, a2]; exact h.2.1
  · rw [a3]; exact h.2.2
theorem clsR_mk {S F : aw_S} {U : U_T} {P : xp_T} {n o : Nat} {T B : Nat → Int32} (h : clsR S U) (hP : xp_C F P) (hT : TPc F n T) (hO : F.1 301 = nI o ∧ o ≤ 3000 ∧ ∀ i, i < o → F.2 4 i = B i) (k0 : F.1 8 = S.1 8) (k1 : F.1 2203 = S.1 2203) (k2 : F.1 2204 = S.1 2204) (k3 : F.2 23 = S.2 23) (k4 : F.2 24 = S.2 24) (k5 : F.2 25 = S.2 25) : clsR F (P, (n, T), (o, B), uK U, uQ U) := ⟨hP, hT, hO, k0.trans h.2.2.2.1, fun q => kpC_fr (h.2.2.2.2 q) k1 k2 k3 k4 k5⟩
theorem modR_mk {S F : aw_S} {U : U_T} {P : xp_T} {n o : Nat} {T B : Nat → Int32} (h : modR S U) (hP : xp_M F P) (hT : TPm F n T) (hO : F.1 3302 = nI o ∧ o ≤ 3000 ∧ ∀ i, i < o → F.2 35 i = B i) (k0 : F.1 3316 = S.1 3316) (k1 : F.1 3317 = S.1 3317) (k2 : F.1 3320 = S.1 3320) (k3 : F.2 44 = S.2 44) (k4 : F.2 45 = S.2 45) (k5 : F.2 46 = S.2 46) : modR F (P, (n, T), (o, B), uK U, uQ U) := ⟨hP, hT, hO, k0.trans h.2.2.2.1, fun q => kpM_fr (h.2.2.2.2 q) k1 k2 k3 k4 k5⟩
theorem modR_lo {S F : aw_S} {U : U_T} (h : modR S U) (hl : loS S F) : modR F U := by
  have e := modR_mk (P := uP U) (n := uN U) (o := uO U) (T := uT U) (B := uB U) (F := F) h (xp_M_fr h.1 (hl.1 _ (by decide)) (hl.1 _ (by decide)) (hl.1 _ (by decide)) (hl.2 _ (by decide)) (hl.2 _ (by decide)) (hl.2 _ (by decide)) (hl.2 _ (by decide)) (hl.2 _ (by decide)) (hl.2 _ (by decide)) (hl.2 _ (by decide)))
    ⟨(hl.1 3300 (by decide)).trans h.2.1.1, h.2.1.2.1, fun i hi => by rw [hl.2 34 (by decide)]; exact h.2.1.2.2.1 i hi, h.2.1.2.2.2⟩ ⟨(hl.1 3302 (by decide)).trans h.2.2.1.1, h.2.2.1.2.1, fun i hi => by rw [hl.2 35 (by decide)]; exact h.2.2.1.2.2 i hi⟩
    (hl.1 _ (by decide)) (hl.1 _ (by decide)) (hl.1 _ (by decide)) (hl.2 _ (by decide)) (hl.2 _ (by decide)) (hl.2 _ (by decide))
  exact e
theorem clsR_hi {S F : aw_S} {U : U_T} (h : clsR S U) (hl : hiS S F) : clsR F U := by
  have e := clsR_mk (P := uP U) (n := uN U) (o := uO U) (T := uT U) (B := uB U) (F := F) h (xp_C_fr h.1 (hl.1 _ (by decide)) (hl.1 _ (by decide)) (hl.1 _ (by decide)) (hl.2 _ (by decide)) (hl.2 _ (by decide)) (hl.2 _ (by decide)) (hl.2 _ (by decide)) (hl.2 _ (by decide)) (hl.2 _ (by decide)) (hl.2 _ (by decide)))
    ⟨(hl.1 101 (by decide)).trans h.2.1.1, h.2.1.2.1, fun i hi => by rw [hl.2 2 (by decide)]; exact h.2.1.2.2.1 i hi, h.2.1.2.2.2⟩ ⟨(hl.1 301 (by decide)).trans h.2.2.1.1, h.2.2.1.2.1, fun i hi => by rw [hl.2 4 (by decide)]; exact h.2.2.1.2.2 i hi⟩
    (hl.1 _ (by decide)) (hl.1 _ (by decide)) (hl.1 _ (by decide)) (hl.2 _ (by decide)) (hl.2 _ (by decide)) (hl.2 _ (by decide))
  exact e
theorem xp_TmI {S : aw_S} {P : xp_T} (hP : xp_M S P) (hW : xp_wd P) : S.1 3306 = nI (xp_t P) ∧ xp_t P ≤ 60 ∧ ∀ t, t < xp_t P → S.2 39 t = nI (xp_l P t) ∧ xp_l P t ≤ 20 := ⟨hP.1.1, hW.1.2.2, fun t ht => ⟨(hP.2.2.2 t ht).2.2.1, (hW.2.2.2 t ht).2.1⟩⟩
theorem xp_TmB {S : aw_S} {P : xp_T} (hP : xp_M S P) (hW : xp_wd P) : S.1 3311 = nI (xp_v P) ∧ xp_v P ≤ 6 ∧ S.1 3314 = nI (xp_r P) ∧ xp_r P ≤ 24 ∧ ∀ v, v < xp_v P → S.2 41 v = nI (xp_nl P v) ∧ xp_nl P v ≤ 8 := ⟨hP.1.2.1, hW.1.1, hP.1.2.2, hW.1.2.1, fun v hv => ⟨(hP.2.1 v hv).1, (hW.2.1 v hv).2⟩⟩
/-! what each call does -/
def tp0 : Nat × (Nat → Int32) := (0, fun _ => -1)
def setT (U : U_T) (t : Nat × (Nat → Int32)) : U_T := (uP U, t, (uO U, uB U), uK U, uQ U)
def setP (U : U_T) (P : xp_T) : U_T := (P, (uN U, uT U), (uO U, uB U), uK U, uQ U)
def setO (U : U_T) (o : Nat × (Nat → Int32)) : U_T := (uP U, (uN U, uT U), o, uK U, uQ U)
/-- the tape, m bytes f more -/
def tpA (U : U_T) (m : Nat) (f : Nat → Int32) : Nat × (Nat → Int32) := (uN U + m, fun i => if i < uN U then uT U i else if i < uN U + m then f (i - uN U) else -1)
def f_type (U : U_T) (x : Int64) (k : Int32) : Int32 × U_T := if k.toInt < 1 ∨ 8 < k.toInt then (-1, U) else if 3000 < uN U + k.toInt.toNat then (-3, U) else (nI (uN U + k.toInt.toNat), setT U (tpA U k.toInt.toNat (fun i => bM x (k.toInt.toNat - 1 - i))))
def f_pass (U : U_T) : Int32 × U_T := if 3000 < uN U + uO U then (-3, U) else (nI (uN U + uO U), setT U (tpA U (uO U) (uB U)))
def f_at (U : U_T) (x : Int32) : Int32 × U_T := (if 0 ≤ x.toInt ∧ x.toInt < uO U then uB U x.toNatClampNeg else -1, U)
def f_count (U : U_T) (x : Int32) : Int32 × U_T := (if x.toInt = 0 then nI (xp_v (uP U)) else if x.toInt = 1 then nI (xp_r (uP U)) else if x.toInt = 2 then nI (xp_t (uP U)) else if x.toInt = 3 then nI (uN U) else if x.toInt = 4 then nI (uO U) else -1, U)
/-- the picture with other numbers of variables and rows -/
def pcVR (P : xp_T) (v r : Nat) : xp_T := ((v, r, xp_t P), P.2)
def f_clear (U : U_T) : Int32 × U_T := (nI (xp_r (uP U)), setP U (pcVR (uP U) 0 0))
def f_value (U : U_T) (x y : Int32) : Int32 × U_T := (if (0 ≤ x.toInt ∧ x.toInt < xp_r (uP U)) ∧ 0 ≤ y.toInt ∧ y.toInt < xp_v (uP U) then oI (xp_c (uP U) x.toInt.toNat y.toInt.toNat) else -2, U)
def f_of (U : U_T) (x y : Int32) : Int32 × U_T := (if 0 ≤ x.toInt ∧ x.toInt < xp_t (uP U) then (if y.toInt = 0 then nI (xp_k (uP U) x.toInt.toNat) else if y.toInt = 1 then nI (xp_e (uP U) x.toInt.toNat) else if y.toInt = 2 then nI (xp_l (uP U) x.toInt.toNat) else if 3 ≤ y.toInt ∧ y.toInt - 3 < xp_l (uP U) x.toInt.toNat then xp_b (uP U) x.toInt.toNat (y.toInt - 3).toNat else -1) else -1, U)
/-- cells of the picture anew -/
def pcC (P : xp_T) (r : Nat) (c : Nat → Nat → Option Nat) : xp_T := ((xp_v P, r, xp_t P), xp_nl P, xp_k P, xp_e P, xp_l P, xp_nb P, xp_b P, c)
def f_row (U : U_T) : Int32 × U_T := if xp_r (uP U) < 24 then (nI (xp_r (uP U)), setP U (pcC (uP U) (xp_r (uP U) + 1) (fun r v => if r = xp_r (uP U) then none else xp_c (uP U) r v))) else (-3, U)
def f_wr (U : U_T) (L : List Int32) : Int32 × U_T := if L.length ≤ 3000 then (nI L.length, setO U (L.length, fun i => L.getD i 0)) else (-3, U)
def f_write (U : U_T) (x : Int32) : Int32 × U_T := if x.toInt = 0 then f_wr U (w_j (uP U)) else if x.toInt = 1 then f_wr U (w_x (uP U)) else if x.toInt = 2 then f_wr U (w_l true (uP U)) else if x.toInt = 3 then f_wr U (w_l false (uP U)) else (-1, U)
def f_say (U : U_T) (x : Int32) (b : Bool) : Int32 × U_T := if x.toInt = 0 then f_wr U (w_tr true b) else if x.toInt = 1 then f_wr U (w_tr false b) else (-1, U)
def f_rd (U : U_T) (res : Except Nat rd_T) : Int32 × U_T := match res with
  | .ok y => if (fE (tsO (uP U)) y.2.2).1.1 ≤ 60 then (nI y.2.1, (pcO (tsO (uP U)) y, tp0, (uO U, uB U), uK U, uQ U)) else (-3, setT U tp0)
  | .error u => (-10 - nI u, setT U tp0)
def f_read (U : U_T) (x : Int32) : Int32 × U_T := if x.toInt = 0 then f_rd U (rdJ (uT U) (uN U) nm0) else if x.toInt = 1 then f_rd U (rdX (uT U) (uN U) nm0) else if x.toInt = 2 then f_rd U (rdL true (uT U) (uN U) nm0) else if x.toInt = 3 then f_rd U (rdL false (uT U) (uN U) nm0) else (-1, setT U tp0)
def f_hr (U : U_T) (res : Except Nat Nat) : Int32 × U_T := (match res with
  | .ok v => nI v
  | .error u => -10 - nI u, setT U tp0)
def f_hear (U : U_T) (x : Int32) : Int32 × U_T := if x.toInt = 0 then f_hr U (hrJ (uT U) (uN U)) else if x.toInt = 1 then f_hr U (hrX (uT U) (uN U)) else (-1, setT U tp0)
def f_keep (U : U_T) : Int32 × U_T := (nI (xp_r (uP U)), (uP U, (uN U, uT U), (uO U, uB U), true, uP U))
/-- what comes out of a call, on the class's side, on the reference's -/
def cQ (S : aw_S) (y : Int32 × U_T) (r : Option Value) (h : aw_hp) : Prop := r = some (.int y.1) ∧ ∃ F, h = HP F ∧ clsR F y.2 ∧ loS S F
def mQ (S : aw_S) (y : Int32 × U_T) (r : Option Value) (h : aw_hp) : Prop := r = some (.int y.1) ∧ ∃ F, h = HP F ∧ modR F y.2 ∧ hiS S F
theorem clsR_T0 {S F : aw_S} {U : U_T} {P : xp_T} (h : clsR S U) (hP : xp_C F P) (h0 : F.1 101 = nI 0) (h1 : F.1 301 = S.1 301) (h2 : F.2 4 = S.2 4) (k0 : F.1 8 = S.1 8) (k1 : F.1 2203 = S.1 2203) (k2 : F.1 2204 = S.1 2204) (k3 : F.2 23 = S.2 23) (k4 : F.2 24 = S.2 24) (k5 : F.2 25 = S.2 25) : clsR F (P, tp0, (uO U, uB U), uK U, uQ U) :=
  clsR_mk h hP ⟨h0, by decide, fun i hi => (by cases hi), fun _ _ => rfl, trivial⟩ ⟨h1.trans h.2.2.1.1, h.2.2.1.2.1, fun i hi => by rw [h2]; exact h.2.2.1.2.2 i hi⟩ k0 k1 k2 k3 k4 k5
theorem modR_T0 {S F : aw_S} {U : U_T} {P : xp_T} (h : modR S U) (hP : xp_M F P) (h0 : F.1 3300 = nI 0) (h1 : F.1 3302 = S.1 3302) (h2 : F.2 35 = S.2 35) (k0 : F.1 3316 = S.1 3316) (k1 : F.1 3317 = S.1 3317) (k2 : F.1 3320 = S.1 3320) (k3 : F.2 44 = S.2 44) (k4 : F.2 45 = S.2 45) (k5 : F.2 46 = S.2 46) : modR F (P, tp0, (uO U, uB U), uK U, uQ U) :=
  modR_mk h hP ⟨h0, by decide, fun i hi => (by cases hi), fun _ _ => rfl, trivial⟩ ⟨h1.trans h.2.2.1.1, h.2.2.1.2.1, fun i hi => by rw [h2]; exact h.2.2.1.2.2 i hi⟩ k0 k1 k2 k3 k4 k5

theorem bit255a {j : Nat} (h : j < 32) : (255#32).getLsbD j = decide (j < 8) := by
  revert j; decide
theorem bit255b {j : Nat} (h : j < 32) : (255#64).getLsbD j = decide (j < 8) := by
  revert j; decide
theorem bX_bM {x : Int64} {i : Nat} (hi : i < 8) : bX x i = bM x i := by
  apply Int32.toBitVec_inj.mp
  have e1 : ∀ s : Nat, s ≤ 56 → (BitVec.setWidth 32 (x.toBitVec >>> s)) &&& 255#32 = BitVec.setWidth 32 ((x.toBitVec.sshiftRight s) &&& 255#64) := by
    intro s hs
    apply BitVec.eq_of_getLsbD_eq
    intro j hj
    rw [BitVec.getLsbD_and, BitVec.getLsbD_setWidth, BitVec.getLsbD_setWidth, BitVec.getLsbD_and, BitVec.getLsbD_ushiftRight, BitVec.getLsbD_sshiftRight, bit255a hj, bit255b hj]
    by_cases h8 : j < 8
    · simp [h8, hj, show ¬ 64 ≤ j by omega, show s + j < 64 by omega]
    · simp [h8]
  have hb : (bX x i).toBitVec = BitVec.setWidth 32 (x.toBitVec >>> (8 * i)) &&& 255#32 := by
    simp only [bX]
    rw [Int32.toBitVec_and, Int64.toBitVec_toInt32, BitVec.signExtend_eq_setWidth_of_le _ (by decide)]
    have : ∀ k, k < 8 → ((nI (8 * k)).toInt64.toUInt64 &&& Int64.toUInt64 63) = UInt64.ofNat (8 * k) := by decide
    rw [this i hi]
    congr 2
    show (x.toUInt64 >>> UInt64.ofNat (8 * i)).toBitVec = _
    rw [UInt64.toBitVec_shiftRight]
    have h2 : ∀ k, k < 8 → ((UInt64.ofNat (8 * k)).toBitVec % 64#64).toNat = 8 * k := by decide
    rw [BitVec.ushiftRight_eq', ]
    rw [show ((UInt64.ofNat (8 * i)).toBitVec % 64).toNat = 8 * i from h2 i hi]
    rfl
  have hm : (bM x i).toBitVec = BitVec.setWidth 32 ((x.toBitVec.sshiftRight (8 * i)) &&& 255#64) := by
    simp only [bM]
    rw [Int64.toBitVec_toInt32, BitVec.signExtend_eq_setWidth_of_le _ (by decide), Int64.toBitVec_and]
    have : ∀ k, k < 8 → ((nI (8 * k)).toInt64 &&& 63) = Int64.ofNat (8 * k) := by decide
    rw [this i hi, Int64.toBitVec_shiftRight]
    have h2 : ∀ k, k < 8 → ((Int64.ofNat (8 * k)).toBitVec.smod 64).toNat = 8 * k := by decide
    rw [BitVec.sshiftRight_eq', h2 i hi]
    rfl
  rw [hb, hm, e1 _ (by omega)]
theorem cnB_z {p : Nat → Bool} : ∀ {m k : Nat}, (∀ i, k ≤ i → i < k + m → p i = false) → cnB p m k = 0 := by
  intro m
  induction m with
  | zero => intro k _; rfl
  | succ m ih => intro k h; simp only [cnB]; rw [h k (by omega) (by omega), ih (fun i h1 h2 => h i (by omega) (by omega))]; rfl
theorem cnB_mono {p q : Nat → Bool} : ∀ {m k : Nat}, (∀ i, k ≤ i → i < k + m → p i = true → q i = true) → cnB p m k ≤ cnB q m k := by
  intro m
  induction m with
  | zero => intro k _; exact Nat.le_refl _
  | succ m ih =>
    intro k h
    simp only [cnB]
    have h1 := ih (k := k + 1) (fun i a b => h i (by omega) (by omega))
    by_cases hp : p k = true
    · rw [if_pos hp, if_pos (h k (by omega) (by omega) hp)]; omega
    · rw [if_neg hp]; split <;> omega
theorem cnB_up {p q : Nat → Bool} {j : Nat} : ∀ {m k : Nat}, k ≤ j → j < k + m → p j = false → q j = true → (∀ i, i ≠ j → q i = p i) → cnB q m k = cnB p m k + 1 := by
  intro m
  induction m with
  | zero => intro k h1 h2; omega
  | succ m ih =>
    intro k h1 h2 hp hq h
    simp only [cnB]
    by_cases hk : k = j
    · subst hk
      rw [hp, hq, cnB_congr (p := q) (q := p) (fun i a b => h i (by omega))]
      simp; omega
    · rw [h k hk, ih (by omega) (by omega) hp hq h]; omega
theorem cnB_lt {p q : Nat → Bool} {j m : Nat} (h1 : j < m) (hp : p j = false) (hq : q j = true) (h : ∀ i, i < m → p i = true → q i = true) : cnB p m 0 < cnB q m 0 := by
  have e := cnB_up (p := p) (q := fun i => if i = j then true else p i) (j := j) (m := m) (k := 0) (by omega) (by omega) hp (by simp) (fun i hi => by simp [hi])
  have l := cnB_mono (p := fun i => if i = j then true else p i) (q := q) (m := m) (k := 0) (fun i _ hi hx => by
    by_cases hij : i = j
    · rw [hij]; exact hq
    · simp only [if_neg hij] at hx; exact h i (by omega) hx)
  omega
theorem cnB_s {p : Nat → Bool} : ∀ (m k : Nat), cnB p (m + 1) k = cnB p m k + (if p (k + m) then 1 else 0) := by
  intro m
  induction m with
  | zero => intro k; simp [cnB]
  | succ m ih =>
    intro k
    rw [cnB, ih (k + 1), cnB, show k + 1 + m = k + (m + 1) by omega]
    omega
theorem lk_step {p E : Nat → Nat → Bool} {K : Nat} (h1 : ∀ x y k, E x y = true → p x k = p y k) (h2 : ∀ x y k, p x k = true → p y k = true → E x y = true) (i : Nat) : ∀ (m r c : Nat) (tk : Nat → Bool), c ≤ i → (∀ x, cnB (fun k => tk k && p x k) K 0 = min (cnB (fun q => E q x) r 0) (cnB (p x) K 0)) → lkM p K m r (i - c) tk = lkB (fun x => decide (cnB (p x) K 0 ≤ cnB (fun q => E q x) x 0)) i m r c := by
  intro m
  induction m with
  | zero => intro r c tk _ _; rfl
  | succ m ih =>
    intro r c tk hc hI
    simp only [lkM, lkB]
    have hr := hI r
    have hle := cnB_mono (p := fun k => tk k && p r k) (q := p r) (m := K) (k := 0) (fun i _ _ h => by simp only [Bool.and_eq_true] at h; exact h.2)
    cases hf : fdB (fun k => !tk k && p r k) K 0 with
    | some k =>
      obtain ⟨-, hk, hq⟩ := fdB_some hf
      simp only [Bool.and_eq_true, Bool.not_eq_true'] at hq
      have hlt := cnB_lt (p := fun k => tk k && p r k) (q := p r) (j := k) (m := K) (by omega) (by simp [hq.1]) hq.2 (fun i _ h => by simp only [Bool.and_eq_true] at h; exact h.2)
      rw [if_neg (show ¬ decide (cnB (p r) K 0 ≤ cnB (fun q => E q r) r 0) = true by rw [decide_eq_true_eq]; omega)]
      show lkM p K m (r + 1) (i - c) (fun j => if j = k then true else tk j) = _
      refine ih (r + 1) c _ hc (fun x => ?_)
      rw [cnB_s r 0, Nat.zero_add]
      have hx := hI x
      by_cases hpx : p x k = true
      · have hE : E r x = true := h2 r x k hq.2 hpx
        have hlx := cnB_lt (p := fun k => tk k && p x k) (q := p x) (j := k) (m := K) (by omega) (by simp [hq.1]) hpx (fun i _ h => by simp only [Bool.and_eq_true] at h; exact h.2)
        rw [cnB_up (p := fun k => tk k && p x k) (j := k) (by omega) (by omega) (by simp [hq.1]) (by simp [hpx]) (fun i hi => by simp [hi]), hE]
        simp only [if_true]
        omega
      · have hE : ¬ E r x = true := fun q => hpx (by rw [← h1 r x k q]; exact hq.2)
        rw [if_neg hE, Nat.add_zero, ← hx]
        exact cnB_congr (fun i _ _ => by
          by_cases hik : i = k
          · subst hik; simp [hpx]
          · simp [hik])
    | none =>
      have h0 := fdB_none hf
      have he : cnB (fun k => tk k && p r k) K 0 = cnB (p r) K 0 := cnB_congr (fun i a b => by
        have := h0 i a b
        revert this
        cases tk i <;> cases p r i <;> simp)
      rw [if_pos (show decide (cnB (p r) K 0 ≤ cnB (fun q => E q r) r 0) = true by rw [decide_eq_true_eq]; omega)]
      show (if i - c = 0 then nI r else lkM p K m (r + 1) (i - c - 1) tk) = _
      have hn : ∀ x, cnB (fun k => tk k && p x k) K 0 = min (cnB (fun q => E q x) (r + 1) 0) (cnB (p x) K 0) := by
        intro x
        rw [cnB_s r 0, Nat.zero_add]
        have hx := hI x
        by_cases hE : E r x = true
        · rw [if_pos hE]
          have hpe : ∀ k, p x k = p r k := fun k => (h1 r x k hE).symm
          have e1 : cnB (fun k => tk k && p x k) K 0 = cnB (p x) K 0 := by
            rw [cnB_congr (p := fun k => tk k && p x k) (q := fun k => tk k && p r k) (fun i _ _ => by rw [hpe]), he]
            exact cnB_congr (fun i _ _ => (hpe i).symm)
          omega
        · rw [if_neg hE]; omega
      by_cases hic : c = i
      · rw [if_pos (by omega), if_pos hic]
      · rw [if_neg (by omega), if_neg hic, show i - c - 1 = i - (c + 1) by omega]
        exact ih (r + 1) (c + 1) tk (by omega) hn
theorem lk_all {K : Nat} {p : Nat → Nat → Bool} (hp : ∀ x k, p x k = false) (i : Nat) : ∀ (m r c : Nat) (tk : Nat → Bool), c ≤ i → lkM p K m r (i - c) tk = lkB (fun _ => true) i m r c := by
  intro m
  induction m with
  | zero => intro r c tk _; rfl
  | succ m ih =>
    intro r c tk hc
    simp only [lkM, lkB]
    have hf : fdB (fun k => !tk k && p r k) K 0 = none := by
      cases hq : fdB (fun k => !tk k && p r k) K 0 with
      | none => rfl
      | some k => have := (fdB_some hq).2.2; simp [hp] at this
    rw [hf]
    simp only [if_true]
    by_cases hic : c = i
    · rw [if_pos (by omega), if_pos hic]
    · rw [if_neg (by omega), if_neg hic, show i - c - 1 = i - (c + 1) by omega]
      exact ih (r + 1) (c + 1) tk (by omega)
theorem rwB_iff {C D : Nat → Int32} {nv r s : Nat} : rwB C D nv r s = true ↔ ∀ v, v < nv → C (r * 6 + v) = D (s * 6 + v) := by
  simp only [rwB, eqB_iff]
  exact ⟨fun h v hv => h v (by omega) (by omega), fun h v _ hv => h v (by omega)⟩
theorem rwB_sy {C D : Nat → Int32} {nv r s : Nat} : rwB C D nv r s = rwB D C nv s r := by
  apply Bool.eq_iff_iff.mpr
  rw [rwB_iff, rwB_iff]
  exact ⟨fun h v hv => (h v hv).symm, fun h v hv => (h v hv).symm⟩
theorem lk_M {C D : Nat → Int32} {nv K i nr : Nat} : lkM (fun q k => rwB C D nv q k) K nr 0 i (fun _ => false) = lkB (fun x => decide (cnB (fun q => rwB D C nv q x) K 0 ≤ cnB (fun q => rwB C C nv q x) x 0)) i nr 0 0 := by
  have h := lk_step (p := fun q k => rwB C D nv q k) (E := fun q x => rwB C C nv q x) (K := K) (fun x y k he => by
      apply Bool.eq_iff_iff.mpr
      have he := rwB_iff.mp he
      rw [rwB_iff, rwB_iff]
      exact ⟨fun h v hv => (he v hv).symm.trans (h v hv), fun h v hv => (he v hv).trans (h v hv)⟩)
    (fun x y k h1 h2 => rwB_iff.mpr (fun v hv => (rwB_iff.mp h1 v hv).trans (rwB_iff.mp h2 v hv).symm)) i nr 0 0 (fun _ => false) (Nat.zero_le _) (fun x => by
      rw [cnB_z (fun i _ _ => by simp)]
      rw [show cnB (fun q => rwB C C nv q x) 0 0 = 0 from rfl]; omega)
  rw [Nat.sub_zero] at h
  rw [h]
  congr 1
  funext x
  rw [cnB_congr (p := fun k => rwB C D nv x k) (q := fun q => rwB D C nv q x) (fun i _ _ => rwB_sy)]
theorem or_cn {p : Nat → Bool} : ∀ {m k : Nat}, orB p m k = true ↔ 0 < cnB p m k := by
  intro m
  induction m with
  | zero => intro k; simp [orB, cnB]
  | succ m ih =>
    intro k
    simp only [orB, cnB, Bool.or_eq_true, ih]
    by_cases hp : p k = true
    · simp [hp]; omega
    · simp [hp]
theorem dd_eq {nv : Nat} (hv6 : nv ≤ 6) : ∀ (m r l : Nat) (C D : Nat → Int32), l ≤ r → (∀ q v, v < nv → C (q * 6 + v) = D (q * 6 + v)) → (ddB nv m r l C).1 = (ddM nv m r l D).1 ∧ ∀ q v, v < nv → (ddB nv m r l C).2 (q * 6 + v) = (ddM nv m r l D).2 (q * 6 + v) := by
  intro m
  induction m with
  | zero => intro r l C D _ h; exact ⟨rfl, h⟩
  | succ m ih =>
    intro r l C D hlr h
    simp only [ddB, ddM]
    have hc : (0 < cnB (fun q => rwB C C nv q r) l 0) ↔ orB (fun q => rwB D D nv r q) l 0 = true := by
      rw [or_cn, cnB_congr (p := fun q => rwB C C nv q r) (q := fun q => rwB D D nv r q) (fun i _ _ => by
        apply Bool.eq_iff_iff.mpr
        rw [rwB_iff, rwB_iff]
        exact ⟨fun hh v hv => by rw [← h _ v hv, ← h _ v hv]; exact (hh v hv).symm, fun hh v hv => by rw [h _ v hv, h _ v hv]; exact (hh v hv).symm⟩)]
    by_cases hq : 0 < cnB (fun q => rwB C C nv q r) l 0
    · rw [if_pos hq, if_pos (hc.mp hq)]; exact ih (r + 1) l C D (by omega) h
    · rw [if_neg hq, if_neg (fun q => hq (hc.mpr q))]
      refine ih (r + 1) (l + 1) _ _ (by omega) (fun q v hv => ?_)
      simp only [cpR]
      by_cases hql : q = l
      · subst hql
        rw [if_pos (by omega), if_pos (by omega), show q * 6 + v - q * 6 = v by omega]
        exact h r v hv
      · rw [if_neg (by omega), if_neg (by omega)]
        exact h q v hv
theorem anB_iff {p : Nat → Bool} : ∀ {m k : Nat}, anB p m k = true ↔ ∀ i, k ≤ i → i < k + m → p i = true := by
  intro m
  induction m with
  | zero => intro k; simp only [anB]; exact ⟨fun _ i a b => by omega, fun _ => trivial⟩
  | succ m ih =>
    intro k
    simp only [anB, Bool.and_eq_true, ih]
    exact ⟨fun h i a b => by by_cases hi : i = k; (rw [hi]; exact h.1); (exact h.2 i (by omega) (by omega)), fun h => ⟨h k (by omega) (by omega), fun i a b => h i (by omega) (by omega)⟩⟩
theorem lkB_no {p : Nat → Bool} : ∀ {m r : Nat}, r + m < 2147483648 → (lkB p 0 m r 0 = -2 ↔ anB (fun x => !p x) m r = true) := by
  intro m
  induction m with
  | zero => intro r _; simp [lkB, anB]
  | succ m ih =>
    intro r hr
    simp only [lkB, anB, Bool.and_eq_true]
    by_cases hp : p r = true
    · rw [if_pos hp, hp]
      simp only [if_true, Bool.not_true]
      refine ⟨fun q => ?_, fun q => by cases q.1⟩
      have := congrArg Int32.toInt q
      rw [nI_toInt (by omega)] at this
      have h2 : (-2 : Int32).toInt = -2 := rfl
      omega
    · rw [if_neg hp, ih (by omega)]
      simp [hp]
theorem i32n {x : Int32} (h : 0 ≤ x.toInt) : x = nI x.toInt.toNat := by
  have h1 := x.toInt_lt
  rw [← Int32.toInt_inj, nI_toInt (by omega)]
  omega
theorem i32c {x : Int32} (h : 0 ≤ x.toInt) : x.toNatClampNeg = x.toInt.toNat := rfl
theorem cQ_rf {S : aw_S} {U : U_T} {v : Int32} {r : Option Value} {h : aw_hp} (hR : clsR S U) (h1 : r = some (.int v)) (h2 : h = HP S) : cQ S (v, U) r h := ⟨h1, S, h2, hR, loS_rf⟩
theorem mQ_rf {S : aw_S} {U : U_T} {v : Int32} {r : Option Value} {h : aw_hp} (hR : modR S U) (h1 : r = some (.int v)) (h2 : h = HP S) : mQ S (v, U) r h := ⟨h1, S, h2, hR, hiS_rf⟩
theorem cR_at {g : aw_G} {S : aw_S} {U : U_T} (h : clsR S U) (hw : wdU U) {x : Int32} : Sp g M_RF_at 1 21 0 0 [.ref 0, .int x] (HP S) (cQ S (f_at U x)) := by
  refine Sp.imp (sp_RF_at (x := x) h.2.2.1.1 h.2.2.1.2.1) (fun r hh hr => cQ_rf h ?_ hr.2)
  rw [hr.1]
  by_cases c : 0 ≤ x.toInt ∧ x.toInt < uO U
  · rw [if_pos c, if_pos c, h.2.2.1.2.2 _ (by rw [i32c c.1]; omega)]
  · rw [if_neg c, if_neg c]
theorem cR_count {g : aw_G} {S : aw_S} {U : U_T} (h : clsR S U) (hw : wdU U) {x : Int32} : Sp g M_RF_count 0 0 0 0 [.ref 0, .int x] (HP S) (cQ S (f_count U x)) := Sp.imp (sp_RF_count (x := x) h.2.1.1 h.2.2.1.1 h.1.1.1 h.1.1.2.1 h.1.1.2.2) (fun r hh hr => cQ_rf h hr.1 hr.2)
theorem cR_clear {g : aw_G} {S : aw_S} {U : U_T} (h : clsR S U) (hw : wdU U)  : Sp g M_RF_clear 1 20 0 0 [.ref 0] (HP S) (cQ S (f_clear U)) := Sp.imp (sp_RF_clear h.1.1.2.2) (fun r hh hr => ⟨hr.1, _, hr.2, clsR_mk h ⟨⟨h.1.1.1, rfl, rfl⟩, fun v hv => (by cases hv), fun r v hr => (by cases hr), h.1.2.2.2⟩ ⟨h.2.1.1, h.2.1.2.1, h.2.1.2.2.1, h.2.1.2.2.2⟩ ⟨h.2.2.1.1, h.2.2.1.2.1, h.2.2.1.2.2⟩ rfl rfl rfl rfl rfl rfl, loS_si (loS_si loS_rf (by decide)) (by decide)⟩)
theorem cR_pass {g : aw_G} {S : aw_S} {U : U_T} (h : clsR S U) (hw : wdU U)  : Sp g M_RF_pass 1 21 0 0 [.ref 0] (HP S) (cQ S (f_pass U)) := by
  by_cases c : 3000 < uN U + uO U
  · rw [f_pass, if_pos c]
    exact Sp.imp (sp_RF_passF h.2.1.1 h.2.1.2.1 h.2.2.1.1 h.2.2.1.2.1 c) (fun r hh hr => cQ_rf h hr.1 hr.2)
  · rw [f_pass, if_neg c]
    refine Sp.imp (sp_RF_pass h.2.1.1 h.2.1.2.1 h.2.2.1.1 h.2.2.1.2.1 (by omega)) (fun r hh hr => ?_)
    obtain ⟨h1, A, h2, a1, a2⟩ := hr
    refine ⟨h1, _, h2, clsR_mk h (xp_C_fr h.1 rfl rfl rfl rfl rfl rfl rfl rfl rfl rfl) ⟨rfl, by have c2 := c; show uN U + uO U ≤ 3000; omega, fun i hi => by
      show A i = if i < uN U then uT U i else if i < uN U + uO U then uB U (i - uN U) else -1
      have hi : i < uN U + uO U := hi
      by_cases hn : i < uN U
      · rw [if_pos hn, a1 i hn]; exact h.2.1.2.2.1 i hn
      · rw [if_neg hn, if_pos hi, show i = uN U + (i - uN U) by omega, a2 _ (by omega)]; rw [show uN U + (i - uN U) - uN U = i - uN U by omega]; exact h.2.2.1.2.2 _ (by omega), fun i hi => by
      show (if i < uN U then uT U i else if i < uN U + uO U then _ else -1) = -1
      have hi : uN U + uO U ≤ i := hi
      rw [if_neg (by omega), if_neg (by omega)], trivial⟩ ⟨h.2.2.1.1, h.2.2.1.2.1, h.2.2.1.2.2⟩ rfl rfl rfl rfl rfl rfl, loS_si (loS_sa loS_rf (by decide)) (by decide)⟩
theorem cR_type {g : aw_G} {S : aw_S} {U : U_T} (h : clsR S U) (hw : wdU U) {x : Int64} {k : Int32} : Sp g M_RF_type 1 21 0 0 [.ref 0, .long x, .int k] (HP S) (cQ S (f_type U x k)) := by
  by_cases c0 : k.toInt < 1 ∨ 8 < k.toInt
  · rw [f_type, if_pos c0]
    exact Sp.imp (sp_RF_typeB c0) (fun r hh hr => cQ_rf h hr.1 hr.2)
  · rw [f_type, if_neg c0]
    obtain ⟨j, hj⟩ : ∃ j : Nat, j = k.toInt.toNat := ⟨_, rfl⟩
    have hk : k = nI j := by rw [hj]; exact i32n (by omega)
    rw [← hj]
    have hj1 : 1 ≤ j ∧ j ≤ 8 := by omega
    by_cases c : 3000 < uN U + j
    · rw [if_pos c, hk]
      exact Sp.imp (sp_RF_typeF h.2.1.1 h.2.1.2.1 hj1.1 hj1.2 c) (fun r hh hr => cQ_rf h hr.1 hr.2)
    · rw [if_neg c, hk]
      refine Sp.imp (sp_RF_type (x := x) h.2.1.1 h.2.1.2.1 hj1.1 hj1.2 (by omega)) (fun r hh hr => ?_)
      obtain ⟨h1, A, h2, a1, a2⟩ := hr
      refine ⟨h1, _, h2, clsR_mk h (xp_C_fr h.1 rfl rfl rfl rfl rfl rfl rfl rfl rfl rfl) ⟨rfl, by have c2 := c; show uN U + j ≤ 3000; omega, fun i hi => by
      show A i = if i < uN U then uT U i else if i < uN U + j then bM x (j - 1 - (i - uN U)) else -1
      have hi : i < uN U + j := hi
      by_cases hn : i < uN U
      · rw [if_pos hn, a1 i hn]; exact h.2.1.2.2.1 i hn
      · rw [if_neg hn, if_pos hi, show i = uN U + (i - uN U) by omega, a2 _ (by omega)]; rw [show uN U + (i - uN U) - uN U = i - uN U by omega]; exact bX_bM (by omega), fun i hi => by
      show (if i < uN U then uT U i else if i < uN U + j then _ else -1) = -1
      have hi : uN U + j ≤ i := hi
      rw [if_neg (by omega), if_neg (by omega)], trivial⟩ ⟨h.2.2.1.1, h.2.2.1.2.1, h.2.2.1.2.2⟩ rfl rfl rfl rfl rfl rfl, loS_si (loS_sa loS_rf (by decide)) (by decide)⟩
theorem mR_at {g : aw_G} {S : aw_S} {U : U_T} (h : modR S U) (hw : wdU U) {x : Int32} : Sp g M_Mo_at 1 22 0 0 [.ref 33, .int x] (HP S) (mQ S (f_at U x)) := by
  refine Sp.imp (sp_Mo_at (x := x) h.2.2.1.1 h.2.2.1.2.1) (fun r hh hr => mQ_rf h ?_ hr.2)
  rw [hr.1]
  by_cases c : 0 ≤ x.toInt ∧ x.toInt < uO U
  · rw [if_pos c, if_pos c, h.2.2.1.2.2 _ (by rw [i32c c.1]; omega)]
  · rw [if_neg c, if_neg c]
theorem mR_count {g : aw_G} {S : aw_S} {U : U_T} (h : modR S U) (hw : wdU U) {x : Int32} : Sp g M_Mo_count 0 0 0 0 [.ref 33, .int x] (HP S) (mQ S (f_count U x)) := Sp.imp (sp_Mo_count (x := x) h.2.1.1 h.2.2.1.1 h.1.1.1 h.1.1.2.1 h.1.1.2.2) (fun r hh hr => mQ_rf h hr.1 hr.2)
theorem mR_clear {g : aw_G} {S : aw_S} {U : U_T} (h : modR S U) (hw : wdU U)  : Sp g M_Mo_clear 0 0 0 0 [.ref 33] (HP S) (mQ S (f_clear U)) := Sp.imp (sp_Mo_clear h.1.1.2.2) (fun r hh hr => ⟨hr.1, _, hr.2, modR_mk h ⟨⟨h.1.1.1, rfl, rfl⟩, fun v hv => (by cases hv), fun r v hr => (by cases hr), h.1.2.2.2⟩ ⟨h.2.1.1, h.2.1.2.1, h.2.1.2.2.1, h.2.1.2.2.2⟩ ⟨h.2.2.1.1, h.2.2.1.2.1, h.2.2.1.2.2⟩ rfl rfl rfl rfl rfl rfl, hiS_si (hiS_si hiS_rf (by decide)) (by decide)⟩)
theorem mR_pass {g : aw_G} {S : aw_S} {U : U_T} (h : modR S U) (hw : wdU U)  : Sp g M_Mo_pass 0 0 0 0 [.ref 33] (HP S) (mQ S (f_pass U)) := by
  by_cases c : 3000 < uN U + uO U
  · rw [f_pass, if_pos c]
    exact Sp.imp (sp_Mo_passF h.2.1.1 h.2.1.2.1 h.2.2.1.1 h.2.2.1.2.1 c) (fun r hh hr => mQ_rf h hr.1 hr.2)
  · rw [f_pass, if_neg c]
    refine Sp.imp (sp_Mo_pass h.2.1.1 h.2.1.2.1 h.2.2.1.1 h.2.2.1.2.1 (by omega)) (fun r hh hr => ?_)
    obtain ⟨h1, A, h2, a1, a2⟩ := hr
    refine ⟨h1, _, h2, modR_mk h (xp_M_fr h.1 rfl rfl rfl rfl rfl rfl rfl rfl rfl rfl) ⟨rfl, by have c2 := c; show uN U + uO U ≤ 3000; omega, fun i hi => by
      show A i = if i < uN U then uT U i else if i < uN U + uO U then uB U (i - uN U) else -1
      have hi : i < uN U + uO U := hi
      by_cases hn : i < uN U
      · rw [if_pos hn, a1 i hn]; exact h.2.1.2.2.1 i hn
      · rw [if_neg hn, if_pos hi, show i = uN U + (i - uN U) by omega, a2 _ (by omega)]; rw [show uN U + (i - uN U) - uN U = i - uN U by omega]; exact h.2.2.1.2.2 _ (by omega), fun i hi => by
      show (if i < uN U then uT U i else if i < uN U + uO U then _ else -1) = -1
      have hi : uN U + uO U ≤ i := hi
      rw [if_neg (by omega), if_neg (by omega)], trivial⟩ ⟨h.2.2.1.1, h.2.2.1.2.1, h.2.2.1.2.2⟩ rfl rfl rfl rfl rfl rfl, hiS_si (hiS_sa hiS_rf (by decide)) (by decide)⟩
theorem mR_type {g : aw_G} {S : aw_S} {U : U_T} (h : modR S U) (hw : wdU U) {x : Int64} {k : Int32} : Sp g M_Mo_type 1 22 0 0 [.ref 33, .long x, .int k] (HP S) (mQ S (f_type U x k)) := by
  by_cases c0 : k.toInt < 1 ∨ 8 < k.toInt
  · rw [f_type, if_pos c0]
    exact Sp.imp (sp_Mo_typeB c0) (fun r hh hr => mQ_rf h hr.1 hr.2)
  · rw [f_type, if_neg c0]
    obtain ⟨j, hj⟩ : ∃ j : Nat, j = k.toInt.toNat := ⟨_, rfl⟩
    have hk : k = nI j := by rw [hj]; exact i32n (by omega)
    rw [← hj]
    have hj1 : 1 ≤ j ∧ j ≤ 8 := by omega
    by_cases c : 3000 < uN U + j
    · rw [if_pos c, hk]
      exact Sp.imp (sp_Mo_typeF h.2.1.1 h.2.1.2.1 hj1.1 hj1.2 c) (fun r hh hr => mQ_rf h hr.1 hr.2)
    · rw [if_neg c, hk]
      refine Sp.imp (sp_Mo_type (x := x) h.2.1.1 h.2.1.2.1 hj1.1 hj1.2 (by omega)) (fun r hh hr => ?_)
      obtain ⟨h1, A, h2, a1, a2⟩ := hr
      refine ⟨h1, _, h2, modR_mk h (xp_M_fr h.1 rfl rfl rfl rfl rfl rfl rfl rfl rfl rfl) ⟨rfl, by have c2 := c; show uN U + j ≤ 3000; omega, fun i hi => by
      show A i = if i < uN U then uT U i else if i < uN U + j then bM x (j - 1 - (i - uN U)) else -1
      have hi : i < uN U + j := hi
      by_cases hn : i < uN U
      · rw [if_pos hn, a1 i hn]; exact h.2.1.2.2.1 i hn
      · rw [if_neg hn, if_pos hi, show i = uN U + (i - uN U) by omega, a2 _ (by omega)]; rw [show uN U + (i - uN U) - uN U = i - uN U by omega], fun i hi => by
      show (if i < uN U then uT U i else if i < uN U + j then _ else -1) = -1
      have hi : uN U + j ≤ i := hi
      rw [if_neg (by omega), if_neg (by omega)], trivial⟩ ⟨h.2.2.1.1, h.2.2.1.2.1, h.2.2.1.2.2⟩ rfl rfl rfl rfl rfl rfl, hiS_si (hiS_sa hiS_rf (by decide)) (by decide)⟩
