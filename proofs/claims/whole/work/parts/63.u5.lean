/-! what may be stays so -/
theorem wd_T {U : U_T} {t : Nat × (Nat → Int32)} (h : wdU U) : wdU (setT U t) := h
theorem wd_O {U : U_T} {t : Nat × (Nat → Int32)} (h : wdU U) : wdU (setO U t) := h
theorem wd_P {U : U_T} {P : xp_T} (h : wdU U) (hP : xp_wd P) : wdU (setP U P) := ⟨hP, h.2⟩
theorem wd_type {U : U_T} {x : Int64} {k : Int32} (h : wdU U) : wdU (f_type U x k).2 := by
  simp only [f_type]; split
  · exact h
  · split
    · exact h
    · exact h
theorem wd_pass {U : U_T} (h : wdU U) : wdU (f_pass U).2 := by
  simp only [f_pass]; split
  · exact h
  · exact h
theorem wd_clear {U : U_T} (h : wdU U) : wdU (f_clear U).2 := ⟨⟨⟨Nat.zero_le _, Nat.zero_le _, h.1.1.2.2⟩, fun v hv => (by cases hv), fun r v t hr => (by cases hr), h.1.2.2.2⟩, h.2⟩
theorem wd_row {U : U_T} (h : wdU U) : wdU (f_row U).2 := by
  simp only [f_row]
  split
  · next c =>
    refine ⟨⟨⟨h.1.1.1, c, h.1.1.2.2⟩, h.1.2.1, fun r v t hr hv hc => ?_, h.1.2.2.2⟩, h.2⟩
    have hr : r < xp_r (uP U) + 1 := hr
    have hc : (if r = xp_r (uP U) then none else xp_c (uP U) r v) = some t := hc
    by_cases hq : r = xp_r (uP U)
    · rw [if_pos hq] at hc; cases hc
    · rw [if_neg hq] at hc; exact h.1.2.2.1 r v t (by omega) hv hc
  · exact h
theorem zO_lt {z : Int32} {n t : Nat} (h : z.toInt = -1 ∨ (0 ≤ z.toInt ∧ z.toInt < n)) (hz : zO z = some t) : t < n := by
  simp only [zO] at hz
  by_cases c : z.toInt = -1
  · rw [if_pos c] at hz; cases hz
  · rw [if_neg c] at hz; cases hz; omega
theorem wd_put {U : U_T} {x y z : Int32} (h : wdU U) : wdU (f_put U x y z).2 := by
  simp only [f_put]
  split
  · next c =>
    refine ⟨⟨h.1.1, h.1.2.1, fun r v t hr hv hc => ?_, h.1.2.2.2⟩, h.2⟩
    have hc : (if r = x.toInt.toNat ∧ v = y.toInt.toNat then zO z else xp_c (uP U) r v) = some t := hc
    by_cases hq : r = x.toInt.toNat ∧ v = y.toInt.toNat
    · rw [if_pos hq] at hc; exact zO_lt c.2 hc
    · rw [if_neg hq] at hc; exact h.1.2.2.1 r v t hr hv hc
  · exact h
theorem wd_wr {U : U_T} {L : List Int32} (h : wdU U) : wdU (f_wr U L).2 := by
  simp only [f_wr]; split
  · exact h
  · exact h
theorem wd_write {U : U_T} {x : Int32} (h : wdU U) : wdU (f_write U x).2 := by
  simp only [f_write]
  repeat' split
  all_goals first | exact wd_wr h | exact h
theorem wd_say {U : U_T} {x : Int32} {b : Bool} (h : wdU U) : wdU (f_say U x b).2 := by
  simp only [f_say]
  repeat' split
  all_goals first | exact wd_wr h | exact h
theorem wd_hear {U : U_T} {x : Int32} (h : wdU U) : wdU (f_hear U x).2 := by
  simp only [f_hear]
  repeat' split
  all_goals exact h
theorem wd_keep {U : U_T} (h : wdU U) : wdU (f_keep U).2 := ⟨h.1, fun _ => ⟨h.1.1.1, h.1.1.2.1, h.1.2.1⟩⟩
theorem wd_var {U : U_T} (h : wdU U) : wdU (f_var U).2 := by
  simp only [f_var]
  split
  · next c =>
    split
    · exact h
    · next c1 =>
      split
      · next c2 =>
        simp only [f_nm, Bool.and_eq_true, decide_eq_true_eq] at c
        refine ⟨⟨⟨c2, h.1.1.2.1, h.1.1.2.2⟩, fun v hv => ?_, fun r v t hr => ?_, h.1.2.2.2⟩, h.2⟩
        · have hv : v < xp_v (uP U) + 1 := hv
          show 1 ≤ (if v = xp_v (uP U) then uN U else xp_nl (uP U) v) ∧ (if v = xp_v (uP U) then uN U else xp_nl (uP U) v) ≤ 8
          by_cases hq : v = xp_v (uP U)
          · rw [if_pos hq]; exact c.1
          · rw [if_neg hq]; exact h.1.2.1 v (by omega)
        · have hr : r < xp_r (uP U) := hr
          exact absurd (Nat.lt_of_le_of_lt (Nat.zero_le _) hr) c1
      · exact h
  · exact h
theorem tpL_all {U : U_T} (h : allB pTx (uT U) (uN U) 0 = true) : (tpL U).all pTx = true := by
  refine List.all_eq_true.mpr (fun b hb => ?_)
  simp only [tpL, List.mem_map, List.mem_range] at hb
  obtain ⟨i, hi, rfl⟩ := hb
  exact (allB_iff _ _ _ _).mp h i (by omega) (by omega)
theorem wd_term {U : U_T} {k e : Int32} (h : wdU U) : wdU (f_term U k e).2 := by
  simp only [f_term]
  split
  · next c =>
    have hg := f_good_i.mp c
    have hk := exB_k.mp hg.1
    split
    · exact h
    · next hx =>
      split
      · next c60 =>
        have hW := tsI_W (tsO_W h.1) (x := (0, k.toInt.toNat, e.toInt.toNat, tpL U)) ⟨by show k.toInt.toNat ≤ 4; omega, by show (tpL U).length ≤ 20; rw [tpL_len]; exact hg.2.1, by show e.toInt.toNat < 676; omega, fun q => by have q : k.toInt.toNat = 4 := q; show e.toInt.toNat < 4; omega, fun q => by have q : k.toInt.toNat < 3 := q; show e.toInt.toNat = 0; omega, tpL_all hg.2.2.1, by
          show okL k.toInt.toNat (tpL U) = true
          rw [okL, tpL_len, okK_congr (e := uT U) (fun i hi => tpL_get hi)]
          exact hg.2.2.2⟩
        have hW : tsW (tsI (tsO (uP U)) k.toInt.toNat e.toInt.toNat (tpL U)).2 := hW
        rw [show tsI (tsO (uP U)) k.toInt.toNat e.toInt.toNat (tpL U) = ((tsO (uP U)).1, tsA (tsO (uP U)) k.toInt.toNat e.toInt.toNat (tpL U)) by simp only [tsI, hx]] at hW
        refine ⟨⟨⟨h.1.1.1, h.1.1.2.1, c60⟩, h.1.2.1, fun r v t hr hv hc => ?_, hW⟩, h.2⟩
        exact Nat.lt_succ_of_lt (h.1.2.2.1 r v t hr hv hc)
      · exact h
  · exact h
theorem wd_dist {U : U_T} (h : wdU U) : wdU (f_dist U).2 := by
  have w6 := h.1.1.1
  have hp := dd_p (p := fun z => z.toInt = -1 ∨ (0 ≤ z.toInt ∧ z.toInt < xp_t (uP U))) (M := xp_r (uP U)) w6 (xp_r (uP U)) 0 0 (aC (uP U)) (Nat.le_refl _) (by omega) (fun q v hq hv => by
    rw [aC_e (by omega)]
    cases hc : xp_c (uP U) q v with
    | none => exact Or.inl rfl
    | some t =>
      have ht := h.1.2.2.1 q v t hq hv hc
      have w60 := h.1.1.2.2
      refine Or.inr ?_
      show 0 ≤ (nI t).toInt ∧ (nI t).toInt < _
      rw [nI_toInt (by omega)]; omega)
  refine ⟨⟨⟨h.1.1.1, ?_, h.1.1.2.2⟩, h.1.2.1, fun r v t hr hv hc => ?_, h.1.2.2.2⟩, h.2⟩
  · have := hp.2; have := h.1.1.2.1
    show (ddB (xp_v (uP U)) (xp_r (uP U)) 0 0 (aC (uP U))).1 ≤ 24
    omega
  · have hr : r < (ddB (xp_v (uP U)) (xp_r (uP U)) 0 0 (aC (uP U))).1 := hr
    exact zO_lt (hp.1 r v (by have := hp.2; omega) hv) hc
/-- what the class and the reference hold alike -/
def RL (U : U_T) (S : aw_S) : Prop := clsR S U ∧ modR S U ∧ wdU U
/-- the class has answered, the reference not yet -/
def RH (U : U_T) (y : Int32 × U_T) (S : aw_S) : Prop := clsR S y.2 ∧ modR S U ∧ wdU U ∧ wdU y.2
def cW (U : U_T) (y : Int32 × U_T) (r : Option Value) (h : aw_hp) : Prop := r = some (.int y.1) ∧ ∃ F, h = HP F ∧ RH U y F
def mW (y : Int32 × U_T) (r : Option Value) (h : aw_hp) : Prop := r = some (.int y.1) ∧ ∃ F, h = HP F ∧ RL y.2 F
theorem cW_of {S : aw_S} {U : U_T} {y : Int32 × U_T} {r : Option Value} {h : aw_hp} (hR : RL U S) (hw : wdU y.2) (hq : cQ S y r h) : cW U y r h := by
  obtain ⟨h1, F, h2, h3, h4⟩ := hq
  exact ⟨h1, F, h2, h3, modR_lo hR.2.1 h4, hR.2.2, hw⟩
theorem mW_of {S : aw_S} {U : U_T} {y : Int32 × U_T} {r : Option Value} {h : aw_hp} (hR : RH U y S) (hq : mQ S y r h) : mW y r h := by
  obtain ⟨h1, F, h2, h3, h4⟩ := hq
  exact ⟨h1, F, h2, clsR_hi hR.1 h4, h3, hR.2.2.2⟩
theorem cL_type {g : aw_G} {S : aw_S} {U : U_T} {x : Int64} {k : Int32} (h : RL U S) : Sp g M_RF_type 1 21 0 0 [.ref 0, .long x, .int k] (HP S) (cW U (f_type U x k)) := Sp.imp (cR_type h.1 h.2.2) (fun _ _ hr => cW_of h (wd_type h.2.2) hr)
theorem mL_type {g : aw_G} {S : aw_S} {U : U_T} {x : Int64} {k : Int32} (h : RH U (f_type U x k) S) : Sp g M_Mo_type 1 22 0 0 [.ref 33, .long x, .int k] (HP S) (mW (f_type U x k)) := Sp.imp (mR_type h.2.1 h.2.2.1) (fun _ _ hr => mW_of h hr)
theorem cL_pass {g : aw_G} {S : aw_S} {U : U_T}  (h : RL U S) : Sp g M_RF_pass 1 21 0 0 [.ref 0] (HP S) (cW U (f_pass U)) := Sp.imp (cR_pass h.1 h.2.2) (fun _ _ hr => cW_of h (wd_pass h.2.2) hr)
theorem mL_pass {g : aw_G} {S : aw_S} {U : U_T}  (h : RH U (f_pass U) S) : Sp g M_Mo_pass 0 0 0 0 [.ref 33] (HP S) (mW (f_pass U)) := Sp.imp (mR_pass h.2.1 h.2.2.1) (fun _ _ hr => mW_of h hr)
theorem cL_term {g : aw_G} {S : aw_S} {U : U_T} {k e : Int32} (h : RL U S) : Sp g M_RF_term 6 134 0 0 [.ref 0, .int k, .int e] (HP S) (cW U (f_term U k e)) := Sp.imp (cR_term h.1 h.2.2) (fun _ _ hr => cW_of h (wd_term h.2.2) hr)
theorem mL_term {g : aw_G} {S : aw_S} {U : U_T} {k e : Int32} (h : RH U (f_term U k e) S) : Sp g M_Mo_term 3 66 0 0 [.ref 33, .int k, .int e] (HP S) (mW (f_term U k e)) := Sp.imp (mR_term h.2.1 h.2.2.1) (fun _ _ hr => mW_of h hr)
theorem cL_of {g : aw_G} {S : aw_S} {U : U_T} {x y : Int32} (h : RL U S) : Sp g M_RF_of 1 22 0 0 [.ref 0, .int x, .int y] (HP S) (cW U (f_of U x y)) := Sp.imp (cR_of h.1 h.2.2) (fun _ _ hr => cW_of h (h.2.2) hr)
theorem mL_of {g : aw_G} {S : aw_S} {U : U_T} {x y : Int32} (h : RH U (f_of U x y) S) : Sp g M_Mo_of 1 22 0 0 [.ref 33, .int x, .int y] (HP S) (mW (f_of U x y)) := Sp.imp (mR_of h.2.1 h.2.2.1) (fun _ _ hr => mW_of h hr)
theorem cL_var {g : aw_G} {S : aw_S} {U : U_T}  (h : RL U S) : Sp g M_RF_variable 3 71 0 0 [.ref 0] (HP S) (cW U (f_var U)) := Sp.imp (cR_var h.1 h.2.2) (fun _ _ hr => cW_of h (wd_var h.2.2) hr)
theorem mL_var {g : aw_G} {S : aw_S} {U : U_T}  (h : RH U (f_var U) S) : Sp g M_Mo_variable 2 42 0 0 [.ref 33] (HP S) (mW (f_var U)) := Sp.imp (mR_var h.2.1 h.2.2.1) (fun _ _ hr => mW_of h hr)
theorem cL_row {g : aw_G} {S : aw_S} {U : U_T}  (h : RL U S) : Sp g M_RF_row 3 65 0 0 [.ref 0] (HP S) (cW U (f_row U)) := Sp.imp (cR_row h.1 h.2.2) (fun _ _ hr => cW_of h (wd_row h.2.2) hr)
theorem mL_row {g : aw_G} {S : aw_S} {U : U_T}  (h : RH U (f_row U) S) : Sp g M_Mo_row 0 0 0 0 [.ref 33] (HP S) (mW (f_row U)) := Sp.imp (mR_row h.2.1 h.2.2.1) (fun _ _ hr => mW_of h hr)
theorem cL_put {g : aw_G} {S : aw_S} {U : U_T} {x y z : Int32} (h : RL U S) : Sp g M_RF_put 2 44 0 0 [.ref 0, .int x, .int y, .int z] (HP S) (cW U (f_put U x y z)) := Sp.imp (cR_put h.1 h.2.2) (fun _ _ hr => cW_of h (wd_put h.2.2) hr)
theorem mL_put {g : aw_G} {S : aw_S} {U : U_T} {x y z : Int32} (h : RH U (f_put U x y z) S) : Sp g M_Mo_put 1 22 0 0 [.ref 33, .int x, .int y, .int z] (HP S) (mW (f_put U x y z)) := Sp.imp (mR_put h.2.1 h.2.2.1) (fun _ _ hr => mW_of h hr)
theorem cL_clear {g : aw_G} {S : aw_S} {U : U_T}  (h : RL U S) : Sp g M_RF_clear 1 20 0 0 [.ref 0] (HP S) (cW U (f_clear U)) := Sp.imp (cR_clear h.1 h.2.2) (fun _ _ hr => cW_of h (wd_clear h.2.2) hr)
theorem mL_clear {g : aw_G} {S : aw_S} {U : U_T}  (h : RH U (f_clear U) S) : Sp g M_Mo_clear 0 0 0 0 [.ref 33] (HP S) (mW (f_clear U)) := Sp.imp (mR_clear h.2.1 h.2.2.1) (fun _ _ hr => mW_of h hr)
theorem cL_value {g : aw_G} {S : aw_S} {U : U_T} {x y : Int32} (h : RL U S) : Sp g M_RF_value 2 43 0 0 [.ref 0, .int x, .int y] (HP S) (cW U (f_value U x y)) := Sp.imp (cR_value h.1 h.2.2) (fun _ _ hr => cW_of h (h.2.2) hr)
theorem mL_value {g : aw_G} {S : aw_S} {U : U_T} {x y : Int32} (h : RH U (f_value U x y) S) : Sp g M_Mo_value 1 22 0 0 [.ref 33, .int x, .int y] (HP S) (mW (f_value U x y)) := Sp.imp (mR_value h.2.1 h.2.2.1) (fun _ _ hr => mW_of h hr)
theorem cL_write {g : aw_G} {S : aw_S} {U : U_T} {x : Int32} (h : RL U S) : Sp g M_RF_write 10 221 0 0 [.ref 0, .int x] (HP S) (cW U (f_write U x)) := Sp.imp (cR_write h.1 h.2.2) (fun _ _ hr => cW_of h (wd_write h.2.2) hr)
theorem mL_write {g : aw_G} {S : aw_S} {U : U_T} {x : Int32} (h : RH U (f_write U x) S) : Sp g M_Mo_write 5 114 0 0 [.ref 33, .int x] (HP S) (mW (f_write U x)) := Sp.imp (mR_write h.2.1 h.2.2.1) (fun _ _ hr => mW_of h hr)
theorem cL_say0 {g : aw_G} {S : aw_S} {U : U_T} {x : Int32} (h : RL U S) : Sp g M_RF_say 6 128 0 0 [.ref 0, .int x, .int (nI 0)] (HP S) (cW U (f_say U x false)) := Sp.imp (cR_say0 h.1 h.2.2) (fun _ _ hr => cW_of h (wd_say h.2.2) hr)
theorem mL_say0 {g : aw_G} {S : aw_S} {U : U_T} {x : Int32} (h : RH U (f_say U x false) S) : Sp g M_Mo_say 2 45 0 0 [.ref 33, .int x, .int (nI 0)] (HP S) (mW (f_say U x false)) := Sp.imp (mR_say0 h.2.1 h.2.2.1) (fun _ _ hr => mW_of h hr)
theorem cL_say1 {g : aw_G} {S : aw_S} {U : U_T} {x : Int32} (h : RL U S) : Sp g M_RF_say 6 128 0 0 [.ref 0, .int x, .int (nI 1)] (HP S) (cW U (f_say U x true)) := Sp.imp (cR_say1 h.1 h.2.2) (fun _ _ hr => cW_of h (wd_say h.2.2) hr)
theorem mL_say1 {g : aw_G} {S : aw_S} {U : U_T} {x : Int32} (h : RH U (f_say U x true) S) : Sp g M_Mo_say 2 45 0 0 [.ref 33, .int x, .int (nI 1)] (HP S) (mW (f_say U x true)) := Sp.imp (mR_say1 h.2.1 h.2.2.1) (fun _ _ hr => mW_of h hr)
theorem cL_at {g : aw_G} {S : aw_S} {U : U_T} {x : Int32} (h : RL U S) : Sp g M_RF_at 1 21 0 0 [.ref 0, .int x] (HP S) (cW U (f_at U x)) := Sp.imp (cR_at h.1 h.2.2) (fun _ _ hr => cW_of h (h.2.2) hr)
theorem mL_at {g : aw_G} {S : aw_S} {U : U_T} {x : Int32} (h : RH U (f_at U x) S) : Sp g M_Mo_at 1 22 0 0 [.ref 33, .int x] (HP S) (mW (f_at U x)) := Sp.imp (mR_at h.2.1 h.2.2.1) (fun _ _ hr => mW_of h hr)
theorem cL_hear {g : aw_G} {S : aw_S} {U : U_T} {x : Int32} (h : RL U S) : Sp g M_RF_hear 7 148 0 0 [.ref 0, .int x] (HP S) (cW U (f_hear U x)) := Sp.imp (cR_hear h.1 h.2.2) (fun _ _ hr => cW_of h (wd_hear h.2.2) hr)
theorem mL_hear {g : aw_G} {S : aw_S} {U : U_T} {x : Int32} (h : RH U (f_hear U x) S) : Sp g M_Mo_hear 4 89 0 0 [.ref 33, .int x] (HP S) (mW (f_hear U x)) := Sp.imp (mR_hear h.2.1 h.2.2.1) (fun _ _ hr => mW_of h hr)
theorem cL_keep {g : aw_G} {S : aw_S} {U : U_T}  (h : RL U S) : Sp g M_RF_keep 1 22 0 0 [.ref 0] (HP S) (cW U (f_keep U)) := Sp.imp (cR_keep h.1 h.2.2) (fun _ _ hr => cW_of h (wd_keep h.2.2) hr)
theorem mL_keep {g : aw_G} {S : aw_S} {U : U_T}  (h : RH U (f_keep U) S) : Sp g M_Mo_keep 0 0 0 0 [.ref 33] (HP S) (mW (f_keep U)) := Sp.imp (mR_keep h.2.1 h.2.2.1) (fun _ _ hr => mW_of h hr)
theorem cL_same0 {g : aw_G} {S : aw_S} {U : U_T}  (h : RL U S) : Sp g M_RF_same 5 113 0 0 [.ref 0, .int (nI 0)] (HP S) (cW U (f_same U false)) := Sp.imp (cR_same0 h.1 h.2.2) (fun _ _ hr => cW_of h (h.2.2) hr)
theorem mL_same0 {g : aw_G} {S : aw_S} {U : U_T}  (h : RH U (f_same U false) S) : Sp g M_Mo_same 2 49 0 0 [.ref 33, .int (nI 0)] (HP S) (mW (f_same U false)) := Sp.imp (mR_same0 h.2.1 h.2.2.1) (fun _ _ hr => mW_of h hr)
theorem cL_same1 {g : aw_G} {S : aw_S} {U : U_T}  (h : RL U S) : Sp g M_RF_same 5 113 0 0 [.ref 0, .int (nI 1)] (HP S) (cW U (f_same U true)) := Sp.imp (cR_same1 h.1 h.2.2) (fun _ _ hr => cW_of h (h.2.2) hr)
theorem mL_same1 {g : aw_G} {S : aw_S} {U : U_T}  (h : RH U (f_same U true) S) : Sp g M_Mo_same 2 49 0 0 [.ref 33, .int (nI 1)] (HP S) (mW (f_same U true)) := Sp.imp (mR_same1 h.2.1 h.2.2.1) (fun _ _ hr => mW_of h hr)
theorem cL_lacks {g : aw_G} {S : aw_S} {U : U_T} {x : Int32} (h : RL U S) : Sp g M_RF_lacks 5 113 0 0 [.ref 0, .int x] (HP S) (cW U (f_lacks U x)) := Sp.imp (cR_lacks h.1 h.2.2) (fun _ _ hr => cW_of h (h.2.2) hr)
theorem mL_lacks {g : aw_G} {S : aw_S} {U : U_T} {x : Int32} (h : RH U (f_lacks U x) S) : Sp g M_Mo_lacks 1 24 0 0 [.ref 33, .int x] (HP S) (mW (f_lacks U x)) := Sp.imp (mR_lacks h.2.1 h.2.2.1) (fun _ _ hr => mW_of h hr)
theorem cL_dist {g : aw_G} {S : aw_S} {U : U_T}  (h : RL U S) : Sp g M_RF_distinct 5 116 0 0 [.ref 0] (HP S) (cW U (f_dist U)) := Sp.imp (cR_dist h.1 h.2.2) (fun _ _ hr => cW_of h (wd_dist h.2.2) hr)
theorem mL_dist {g : aw_G} {S : aw_S} {U : U_T}  (h : RH U (f_dist U) S) : Sp g M_Mo_distinct 0 0 0 0 [.ref 33] (HP S) (mW (f_dist U)) := Sp.imp (mR_dist h.2.1 h.2.2.1) (fun _ _ hr => mW_of h hr)
theorem cL_count {g : aw_G} {S : aw_S} {U : U_T} {x : Int32} (h : RL U S) : Sp g M_RF_count 0 0 0 0 [.ref 0, .int x] (HP S) (cW U (f_count U x)) := Sp.imp (cR_count h.1 h.2.2) (fun _ _ hr => cW_of h (h.2.2) hr)
theorem mL_count {g : aw_G} {S : aw_S} {U : U_T} {x : Int32} (h : RH U (f_count U x) S) : Sp g M_Mo_count 0 0 0 0 [.ref 33, .int x] (HP S) (mW (f_count U x)) := Sp.imp (mR_count h.2.1 h.2.2.1) (fun _ _ hr => mW_of h hr)
theorem wd_rd {S : aw_S} {U : U_T} (h : wdU U) {res : Except Nat rd_T} {r : Option Value} {hh : aw_hp} (hr : rdE S (uP U) res r hh) : wdU (f_rd U res).2 := by
  cases res with
  | error u => exact h
  | ok y =>
    rcases hr with ⟨c, h1, hw, -⟩ | ⟨c, -⟩
    · rw [f_rd, if_pos c]; exact ⟨hw, h.2⟩
    · rw [f_rd, if_neg (by omega)]; exact h
theorem cL_read {g : aw_G} {S : aw_S} {U : U_T} {x : Int32} (h : RL U S) : Sp g M_RF_read 10 224 0 0 [.ref 0, .int x] (HP S) (cW U (f_read U x)) := by
  rw [f_read]
  by_cases c00 : x.toInt = 0
  · rw [if_pos c00, show x = nI 0 by rw [← Int32.toInt_inj, c00]; rfl]
    exact Sp.imp (sp_RF_read_0 h.1.1 h.2.2.1 h.1.2.1) (fun r hh hr => cW_of h (wd_rd h.2.2 hr) (cR_rd h.1 hr))
  rw [if_neg c00]
  by_cases c01 : x.toInt = 1
  · rw [if_pos c01, show x = nI 1 by rw [← Int32.toInt_inj, c01]; rfl]
    exact Sp.imp (sp_RF_read_1 h.1.1 h.2.2.1 h.1.2.1) (fun r hh hr => cW_of h (wd_rd h.2.2 hr) (cR_rd h.1 hr))
  rw [if_neg c01]
  by_cases c02 : x.toInt = 2
  · rw [if_pos c02, show x = nI 2 by rw [← Int32.toInt_inj, c02]; rfl]
    exact Sp.imp (sp_RF_read_2 h.1.1 h.2.2.1 h.1.2.1) (fun r hh hr => cW_of h (wd_rd h.2.2 hr) (cR_rd h.1 hr))
  rw [if_neg c02]
  by_cases c03 : x.toInt = 3
  · rw [if_pos c03, show x = nI 3 by rw [← Int32.toInt_inj, c03]; rfl]
    exact Sp.imp (sp_RF_read_3 h.1.1 h.2.2.1 h.1.2.1) (fun r hh hr => cW_of h (wd_rd h.2.2 hr) (cR_rd h.1 hr))
  rw [if_neg c03]
  have q := cR_read (g := g) (x := x) h.1 h.2.2
  rw [f_read, if_neg c00, if_neg c01, if_neg c02, if_neg c03] at q
  exact Sp.imp q (fun r hh hr => cW_of h h.2.2 hr)
theorem mL_read {g : aw_G} {S : aw_S} {U : U_T} {x : Int32} (h : RH U (f_read U x) S) : Sp g M_Mo_read 7 158 0 0 [.ref 33, .int x] (HP S) (mW (f_read U x)) := Sp.imp (mR_read h.2.1 h.2.2.1) (fun _ _ hr => mW_of h hr)
