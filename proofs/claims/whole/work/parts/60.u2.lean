def zO (z : Int32) : Option Nat := if z.toInt = -1 then none else some z.toInt.toNat
theorem zO_I {z : Int32} {n : Nat} (h : z.toInt = -1 ∨ (0 ≤ z.toInt ∧ z.toInt < n)) : oI (zO z) = z := by
  simp only [zO]
  by_cases c : z.toInt = -1
  · rw [if_pos c]; show (-1 : Int32) = z; rw [← Int32.toInt_inj, c]; rfl
  · rw [if_neg c]; exact (i32n (by omega)).symm
def f_put (U : U_T) (x y z : Int32) : Int32 × U_T := if ((0 ≤ x.toInt ∧ x.toInt < xp_r (uP U)) ∧ 0 ≤ y.toInt ∧ y.toInt < xp_v (uP U)) ∧ (z.toInt = -1 ∨ (0 ≤ z.toInt ∧ z.toInt < xp_t (uP U))) then (if oI (xp_c (uP U) x.toInt.toNat y.toInt.toNat) = z then nI 0 else nI 1, setP U (pcC (uP U) (xp_r (uP U)) (fun r v => if r = x.toInt.toNat ∧ v = y.toInt.toNat then zO z else xp_c (uP U) r v))) else (-1, U)
theorem loS_WS {S : aw_S} {O : List Int32} : loS S (WS S O) := loS_sa (loS_si (loS_si loS_rf (by decide)) (by decide)) (by decide)
theorem hiS_MS {S : aw_S} {O : List Int32} : hiS S (MS S O) := hiS_sa (hiS_si hiS_rf (by decide)) (by decide)
theorem loS_R {S F : aw_S} (h : frR S F) : loS S F := ⟨fun j hj => h.1 j (by omega) (by omega) (by omega) (by omega) (by omega) (by omega) (by omega) (by omega) (by omega) (by omega) (by omega) (by omega) (by omega) (by omega), fun c hc => h.2 c (by omega) (by omega) (by omega) (by omega) (by omega) (by omega) (by omega) (by omega) (by omega) (by omega) (by omega)⟩
theorem hiS_N {S F : aw_S} (h : frN S F) : hiS S F := ⟨fun j hj => h.1 j (by omega) (by omega) (by omega) (by omega) (by omega) (by omega) (by omega) (by omega) (by omega) (by omega), fun c hc => h.2 c (by omega) (by omega) (by omega) (by omega) (by omega) (by omega) (by omega) (by omega) (by omega) (by omega) (by omega) (by omega) (by omega) (by omega) (by omega)⟩
theorem QC_lo {S : aw_S} {p q w l k e z : Int32} {X : Nat → Int32} : loS S (tE (QC S p q w l k e z X)) := by
  refine loS_si (loS_si ⟨fun j hj => ?_, fun c hc => ?_⟩ (by decide)) (by decide)
  · show (if j = 2601 then p else if j = 2602 then q else if j = 2603 then w else if j = 2604 then l else if j = 2605 then k else if j = 2606 then e else if j = 2701 then z else S.1 j) = _
    rw [if_neg (by omega), if_neg (by omega), if_neg (by omega), if_neg (by omega), if_neg (by omega), if_neg (by omega), if_neg (by omega)]
  · show (if c = 28 then X else S.2 c) = _
    rw [if_neg (by omega)]
theorem QM_hi {S : aw_S} {a q f z : Int32} {X : Nat → Int32} : hiS S (nT (QM (mB S) a q f z X)) := by
  refine hiS_si ⟨fun j hj => ?_, fun c hc => ?_⟩ (by decide)
  · show (if j = 3331 then a else if j = 3332 then q else if j = 3333 then f else if j = 3334 then z else (mB S).1 j) = _
    rw [if_neg (by omega), if_neg (by omega), if_neg (by omega), if_neg (by omega)]
    simp only [mB, si_1]
    rw [if_neg (by omega), if_neg (by omega)]
  · show (if c = 54 then X else S.2 c) = _
    rw [if_neg (by omega)]
theorem cR_value {g : aw_G} {S : aw_S} {U : U_T} (h : clsR S U) (hw : wdU U) {x y : Int32} : Sp g M_RF_value 2 43 0 0 [.ref 0, .int x, .int y] (HP S) (cQ S (f_value U x y)) := by
  refine Sp.imp (sp_RF_value (x := x) (y := y) (xp_TbI h.1 hw.1)) (fun r hh hr => cQ_rf h ?_ hr.2)
  rw [hr.1]
  by_cases c : (0 ≤ x.toInt ∧ x.toInt < xp_r (uP U)) ∧ 0 ≤ y.toInt ∧ y.toInt < xp_v (uP U)
  · rw [if_pos c, if_pos c, i32c c.1.1, i32c c.2.1, h.1.2.2.1 _ _ (by omega) (by omega)]
  · rw [if_neg c, if_neg c]
theorem cR_of {g : aw_G} {S : aw_S} {U : U_T} (h : clsR S U) (hw : wdU U) {x y : Int32} : Sp g M_RF_of 1 22 0 0 [.ref 0, .int x, .int y] (HP S) (cQ S (f_of U x y)) := by
  by_cases c : 0 ≤ x.toInt ∧ x.toInt < xp_t (uP U)
  · rw [f_of, if_pos c]
    obtain ⟨t, ht⟩ : ∃ t : Nat, t = x.toInt.toNat := ⟨_, rfl⟩
    rw [← ht, show x = nI t by rw [ht]; exact i32n c.1]
    refine Sp.imp (sp_RF_of (t := t) (y := y) (xp_TeI h.1 hw.1) (by omega)) (fun r hh hr => cQ_rf h ?_ hr.2)
    obtain ⟨e1, e2, e3, e4⟩ := h.1.2.2.2 t (by omega)
    rw [hr.1, e1, e2]
    by_cases c3 : 3 ≤ y.toInt ∧ y.toInt - 3 < xp_l (uP U) t
    · rw [if_pos c3, if_pos c3, e4 _ (by omega)]
    · rw [if_neg c3, if_neg c3]
  · rw [f_of, if_neg c]
    exact Sp.imp (sp_RF_ofB (xp_TeI h.1 hw.1) c) (fun r hh hr => cQ_rf h hr.1 hr.2)
theorem cR_row {g : aw_G} {S : aw_S} {U : U_T} (h : clsR S U) (hw : wdU U)  : Sp g M_RF_row 3 65 0 0 [.ref 0] (HP S) (cQ S (f_row U)) := by
  by_cases c : xp_r (uP U) < 24
  · rw [f_row, if_pos c]
    refine Sp.imp (sp_RF_row (xp_TbI h.1 hw.1) c) (fun r hh hr => ?_)
    obtain ⟨h1, CD, h2, b1, b2⟩ := hr
    exact ⟨h1, _, h2, clsR_mk h ⟨⟨h.1.1.1, h.1.1.2.1, rfl⟩, h.1.2.1, fun r v hr hv => by
      show CD (r * 6 + v) = oI (if r = xp_r (uP U) then none else xp_c (uP U) r v)
      have hr : r < xp_r (uP U) + 1 := hr
      have hv : v < xp_v (uP U) := hv
      have h6 := hw.1.1.1
      by_cases hq : r = xp_r (uP U)
      · rw [if_pos hq, hq]; exact b1 v (by omega)
      · rw [if_neg hq, b2 _ (by omega)]; exact h.1.2.2.1 r v (by omega) hv, h.1.2.2.2⟩ ⟨h.2.1.1, h.2.1.2.1, h.2.1.2.2.1, h.2.1.2.2.2⟩ ⟨h.2.2.1.1, h.2.2.1.2.1, h.2.2.1.2.2⟩ rfl rfl rfl rfl rfl rfl, loS_sa (loS_si loS_rf (by decide)) (by decide)⟩
  · rw [f_row, if_neg c]
    exact Sp.imp (sp_RF_rowF (xp_TbI h.1 hw.1) (by have := hw.1.1.2.1; omega)) (fun r hh hr => cQ_rf h hr.1 hr.2)
theorem cR_put {g : aw_G} {S : aw_S} {U : U_T} (h : clsR S U) (hw : wdU U) {x y z : Int32} : Sp g M_RF_put 2 44 0 0 [.ref 0, .int x, .int y, .int z] (HP S) (cQ S (f_put U x y z)) := by
  by_cases c : ((0 ≤ x.toInt ∧ x.toInt < xp_r (uP U)) ∧ 0 ≤ y.toInt ∧ y.toInt < xp_v (uP U)) ∧ (z.toInt = -1 ∨ (0 ≤ z.toInt ∧ z.toInt < xp_t (uP U)))
  · rw [f_put, if_pos c]
    obtain ⟨a, ha⟩ : ∃ a : Nat, a = x.toInt.toNat := ⟨_, rfl⟩
    obtain ⟨b, hb⟩ : ∃ b : Nat, b = y.toInt.toNat := ⟨_, rfl⟩
    rw [← ha, ← hb, show x = nI a by rw [ha]; exact i32n c.1.1.1, show y = nI b by rw [hb]; exact i32n c.1.2.1]
    have ha2 : a < xp_r (uP U) := by omega
    have hb2 : b < xp_v (uP U) := by omega
    by_cases e : oI (xp_c (uP U) a b) = z
    · rw [if_pos e]
      exact Sp.imp (sp_RF_putS (a := a) (b := b) (xp_TbI h.1 hw.1) (xp_TeI h.1 hw.1) ha2 hb2 c.2 (by rw [h.1.2.2.1 a b (by omega) (by omega)]; exact e)) (fun r hh hr => ⟨hr.1, _, hr.2, clsR_mk (F := S) h ⟨h.1.1, h.1.2.1, fun r v hr hv => by
        have hr : r < xp_r (uP U) := hr
        have hv : v < xp_v (uP U) := hv
        have h6 := hw.1.1.1
        show S.2 17 (r * 6 + v) = oI (if r = a ∧ v = b then zO z else xp_c (uP U) r v)
        by_cases hq : r = a ∧ v = b
        · rw [if_pos hq, zO_I c.2]; obtain ⟨rfl, rfl⟩ := hq; rw [h.1.2.2.1 _ _ hr hv]; exact e
        · rw [if_neg hq]; exact h.1.2.2.1 r v hr hv, h.1.2.2.2⟩ ⟨h.2.1.1, h.2.1.2.1, h.2.1.2.2.1, h.2.1.2.2.2⟩ ⟨h.2.2.1.1, h.2.2.1.2.1, h.2.2.1.2.2⟩ rfl rfl rfl rfl rfl rfl, loS_rf⟩)
    · rw [if_neg e]
      exact Sp.imp (sp_RF_putD (a := a) (b := b) (xp_TbI h.1 hw.1) (xp_TeI h.1 hw.1) ha2 hb2 c.2 (by rw [h.1.2.2.1 a b (by omega) (by omega)]; exact e)) (fun r hh hr => ⟨hr.1, _, hr.2, clsR_mk h ⟨h.1.1, h.1.2.1, fun r v hr hv => by
        have hr : r < xp_r (uP U) := hr
        have hv : v < xp_v (uP U) := hv
        have h6 := hw.1.1.1
        show upd (S.2 17) (a * 6 + b) z (r * 6 + v) = oI (if r = a ∧ v = b then zO z else xp_c (uP U) r v)
        by_cases hq : r = a ∧ v = b
        · rw [if_pos hq, zO_I c.2]; obtain ⟨rfl, rfl⟩ := hq; exact if_pos (by omega)
        · rw [if_neg hq]; simp only [upd]; rw [if_neg (by omega)]; exact h.1.2.2.1 r v hr hv, h.1.2.2.2⟩ ⟨h.2.1.1, h.2.1.2.1, h.2.1.2.2.1, h.2.1.2.2.2⟩ ⟨h.2.2.1.1, h.2.2.1.2.1, h.2.2.1.2.2⟩ rfl rfl rfl rfl rfl rfl, loS_sa loS_rf (by decide)⟩)
  · rw [f_put, if_neg c]
    exact Sp.imp (sp_RF_putB (xp_TbI h.1 hw.1) (xp_TeI h.1 hw.1) c) (fun r hh hr => cQ_rf h hr.1 hr.2)
theorem cR_write {g : aw_G} {S : aw_S} {U : U_T} (h : clsR S U) (hw : wdU U) {x : Int32} : Sp g M_RF_write 10 221 0 0 [.ref 0, .int x] (HP S) (cQ S (f_write U x)) := by
  rw [f_write]
  by_cases c00 : x.toInt = 0
  · rw [if_pos c00, f_wr]
    by_cases c : (w_j (uP U)).length ≤ 3000
    · rw [if_pos c, show x = nI 0 by rw [← Int32.toInt_inj, c00]; rfl]
      refine Sp.imp (sp_RF_write_0 h.1 hw.1 (by omega)) (fun r hh hr => ?_)
      obtain ⟨h1, A, h2, a1⟩ := hr
      exact ⟨h1, _, h2, clsR_mk h (xp_C_fr h.1 rfl rfl rfl rfl rfl rfl rfl rfl rfl rfl) ⟨h.2.1.1, h.2.1.2.1, h.2.1.2.2.1, h.2.1.2.2.2⟩ ⟨rfl, c, fun i hi => a1 i hi⟩ rfl rfl rfl rfl rfl rfl, loS_si (loS_si (loS_sa loS_WS (by decide)) (by decide)) (by decide)⟩
    · rw [if_neg c, show x = nI 0 by rw [← Int32.toInt_inj, c00]; rfl]
      exact Sp.imp (sp_RF_writeF_0 h.1 hw.1 (by omega)) (fun r hh hr => ⟨hr.1, _, hr.2, clsR_mk h (xp_C_fr h.1 rfl rfl rfl rfl rfl rfl rfl rfl rfl rfl) ⟨h.2.1.1, h.2.1.2.1, h.2.1.2.2.1, h.2.1.2.2.2⟩ ⟨h.2.2.1.1, h.2.2.1.2.1, h.2.2.1.2.2⟩ rfl rfl rfl rfl rfl rfl, loS_WS⟩)
  rw [if_neg c00]
  by_cases c01 : x.toInt = 1
  · rw [if_pos c01, f_wr]
    by_cases c : (w_x (uP U)).length ≤ 3000
    · rw [if_pos c, show x = nI 1 by rw [← Int32.toInt_inj, c01]; rfl]
      refine Sp.imp (sp_RF_write_1 h.1 hw.1 (by omega)) (fun r hh hr => ?_)
      obtain ⟨h1, A, h2, a1⟩ := hr
      exact ⟨h1, _, h2, clsR_mk h (xp_C_fr h.1 rfl rfl rfl rfl rfl rfl rfl rfl rfl rfl) ⟨h.2.1.1, h.2.1.2.1, h.2.1.2.2.1, h.2.1.2.2.2⟩ ⟨rfl, c, fun i hi => a1 i hi⟩ rfl rfl rfl rfl rfl rfl, loS_si (loS_si (loS_sa loS_WS (by decide)) (by decide)) (by decide)⟩
    · rw [if_neg c, show x = nI 1 by rw [← Int32.toInt_inj, c01]; rfl]
      exact Sp.imp (sp_RF_writeF_1 h.1 hw.1 (by omega)) (fun r hh hr => ⟨hr.1, _, hr.2, clsR_mk h (xp_C_fr h.1 rfl rfl rfl rfl rfl rfl rfl rfl rfl rfl) ⟨h.2.1.1, h.2.1.2.1, h.2.1.2.2.1, h.2.1.2.2.2⟩ ⟨h.2.2.1.1, h.2.2.1.2.1, h.2.2.1.2.2⟩ rfl rfl rfl rfl rfl rfl, loS_WS⟩)
  rw [if_neg c01]
  by_cases c02 : x.toInt = 2
  · rw [if_pos c02, f_wr]
    by_cases c : (w_l true (uP U)).length ≤ 3000
    · rw [if_pos c, show x = nI 2 by rw [← Int32.toInt_inj, c02]; rfl]
      refine Sp.imp (sp_RF_write_2 h.1 hw.1 (by omega)) (fun r hh hr => ?_)
      obtain ⟨h1, A, h2, a1⟩ := hr
      exact ⟨h1, _, h2, clsR_mk h (xp_C_fr h.1 rfl rfl rfl rfl rfl rfl rfl rfl rfl rfl) ⟨h.2.1.1, h.2.1.2.1, h.2.1.2.2.1, h.2.1.2.2.2⟩ ⟨rfl, c, fun i hi => a1 i hi⟩ rfl rfl rfl rfl rfl rfl, loS_si (loS_si (loS_sa loS_WS (by decide)) (by decide)) (by decide)⟩
    · rw [if_neg c, show x = nI 2 by rw [← Int32.toInt_inj, c02]; rfl]
      exact Sp.imp (sp_RF_writeF_2 h.1 hw.1 (by omega)) (fun r hh hr => ⟨hr.1, _, hr.2, clsR_mk h (xp_C_fr h.1 rfl rfl rfl rfl rfl rfl rfl rfl rfl rfl) ⟨h.2.1.1, h.2.1.2.1, h.2.1.2.2.1, h.2.1.2.2.2⟩ ⟨h.2.2.1.1, h.2.2.1.2.1, h.2.2.1.2.2⟩ rfl rfl rfl rfl rfl rfl, loS_WS⟩)
  rw [if_neg c02]
  by_cases c03 : x.toInt = 3
  · rw [if_pos c03, f_wr]
    by_cases c : (w_l false (uP U)).length ≤ 3000
    · rw [if_pos c, show x = nI 3 by rw [← Int32.toInt_inj, c03]; rfl]
      refine Sp.imp (sp_RF_write_3 h.1 hw.1 (by omega)) (fun r hh hr => ?_)
      obtain ⟨h1, A, h2, a1⟩ := hr
      exact ⟨h1, _, h2, clsR_mk h (xp_C_fr h.1 rfl rfl rfl rfl rfl rfl rfl rfl rfl rfl) ⟨h.2.1.1, h.2.1.2.1, h.2.1.2.2.1, h.2.1.2.2.2⟩ ⟨rfl, c, fun i hi => a1 i hi⟩ rfl rfl rfl rfl rfl rfl, loS_si (loS_si (loS_sa loS_WS (by decide)) (by decide)) (by decide)⟩
    · rw [if_neg c, show x = nI 3 by rw [← Int32.toInt_inj, c03]; rfl]
      exact Sp.imp (sp_RF_writeF_3 h.1 hw.1 (by omega)) (fun r hh hr => ⟨hr.1, _, hr.2, clsR_mk h (xp_C_fr h.1 rfl rfl rfl rfl rfl rfl rfl rfl rfl rfl) ⟨h.2.1.1, h.2.1.2.1, h.2.1.2.2.1, h.2.1.2.2.2⟩ ⟨h.2.2.1.1, h.2.2.1.2.1, h.2.2.1.2.2⟩ rfl rfl rfl rfl rfl rfl, loS_WS⟩)
  rw [if_neg c03]
  exact Sp.imp (sp_RF_writeB (x := x) (by omega)) (fun r hh hr => ⟨hr.1, _, hr.2, clsR_mk h (xp_C_fr h.1 rfl rfl rfl rfl rfl rfl rfl rfl rfl rfl) ⟨h.2.1.1, h.2.1.2.1, h.2.1.2.2.1, h.2.1.2.2.2⟩ ⟨h.2.2.1.1, h.2.2.1.2.1, h.2.2.1.2.2⟩ rfl rfl rfl rfl rfl rfl, loS_WS⟩)
theorem cR_say0 {g : aw_G} {S : aw_S} {U : U_T} (h : clsR S U) (hw : wdU U) {x : Int32} : Sp g M_RF_say 6 128 0 0 [.ref 0, .int x, .int (nI 0)] (HP S) (cQ S (f_say U x false)) := by
  rw [f_say]
  by_cases c00 : x.toInt = 0
  · have c : (w_tr true false).length ≤ 3000 := by decide
    rw [if_pos c00, f_wr, if_pos c, show x = nI 0 by rw [← Int32.toInt_inj, c00]; rfl]
    refine Sp.imp sp_RF_say_00 (fun r hh hr => ?_)
    obtain ⟨h1, A, h2, a1⟩ := hr
    exact ⟨h1, _, h2, clsR_mk h (xp_C_fr h.1 rfl rfl rfl rfl rfl rfl rfl rfl rfl rfl) ⟨h.2.1.1, h.2.1.2.1, h.2.1.2.2.1, h.2.1.2.2.2⟩ ⟨rfl, c, fun i hi => a1 i hi⟩ rfl rfl rfl rfl rfl rfl, loS_si (loS_si (loS_sa loS_WS (by decide)) (by decide)) (by decide)⟩
  rw [if_neg c00]
  by_cases c01 : x.toInt = 1
  · have c : (w_tr false false).length ≤ 3000 := by decide
    rw [if_pos c01, f_wr, if_pos c, show x = nI 1 by rw [← Int32.toInt_inj, c01]; rfl]
    refine Sp.imp sp_RF_say_10 (fun r hh hr => ?_)
    obtain ⟨h1, A, h2, a1⟩ := hr
    exact ⟨h1, _, h2, clsR_mk h (xp_C_fr h.1 rfl rfl rfl rfl rfl rfl rfl rfl rfl rfl) ⟨h.2.1.1, h.2.1.2.1, h.2.1.2.2.1, h.2.1.2.2.2⟩ ⟨rfl, c, fun i hi => a1 i hi⟩ rfl rfl rfl rfl rfl rfl, loS_si (loS_si (loS_sa loS_WS (by decide)) (by decide)) (by decide)⟩
  rw [if_neg c01]
  exact Sp.imp (sp_RF_sayB (x := x) (by omega)) (fun r hh hr => ⟨hr.1, _, hr.2, clsR_mk h (xp_C_fr h.1 rfl rfl rfl rfl rfl rfl rfl rfl rfl rfl) ⟨h.2.1.1, h.2.1.2.1, h.2.1.2.2.1, h.2.1.2.2.2⟩ ⟨h.2.2.1.1, h.2.2.1.2.1, h.2.2.1.2.2⟩ rfl rfl rfl rfl rfl rfl, loS_WS⟩)
theorem cR_say1 {g : aw_G} {S : aw_S} {U : U_T} (h : clsR S U) (hw : wdU U) {x : Int32} : Sp g M_RF_say 6 128 0 0 [.ref 0, .int x, .int (nI 1)] (HP S) (cQ S (f_say U x true)) := by
  rw [f_say]
  by_cases c00 : x.toInt = 0
  · have c : (w_tr true true).length ≤ 3000 := by decide
    rw [if_pos c00, f_wr, if_pos c, show x = nI 0 by rw [← Int32.toInt_inj, c00]; rfl]
    refine Sp.imp sp_RF_say_01 (fun r hh hr => ?_)
    obtain ⟨h1, A, h2, a1⟩ := hr
    exact ⟨h1, _, h2, clsR_mk h (xp_C_fr h.1 rfl rfl rfl rfl rfl rfl rfl rfl rfl rfl) ⟨h.2.1.1, h.2.1.2.1, h.2.1.2.2.1, h.2.1.2.2.2⟩ ⟨rfl, c, fun i hi => a1 i hi⟩ rfl rfl rfl rfl rfl rfl, loS_si (loS_si (loS_sa loS_WS (by decide)) (by decide)) (by decide)⟩
  rw [if_neg c00]
  by_cases c01 : x.toInt = 1
  · have c : (w_tr false true).length ≤ 3000 := by decide
    rw [if_pos c01, f_wr, if_pos c, show x = nI 1 by rw [← Int32.toInt_inj, c01]; rfl]
    refine Sp.imp sp_RF_say_11 (fun r hh hr => ?_)
    obtain ⟨h1, A, h2, a1⟩ := hr
    exact ⟨h1, _, h2, clsR_mk h (xp_C_fr h.1 rfl rfl rfl rfl rfl rfl rfl rfl rfl rfl) ⟨h.2.1.1, h.2.1.2.1, h.2.1.2.2.1, h.2.1.2.2.2⟩ ⟨rfl, c, fun i hi => a1 i hi⟩ rfl rfl rfl rfl rfl rfl, loS_si (loS_si (loS_sa loS_WS (by decide)) (by decide)) (by decide)⟩
  rw [if_neg c01]
  exact Sp.imp (sp_RF_sayB (x := x) (by omega)) (fun r hh hr => ⟨hr.1, _, hr.2, clsR_mk h (xp_C_fr h.1 rfl rfl rfl rfl rfl rfl rfl rfl rfl rfl) ⟨h.2.1.1, h.2.1.2.1, h.2.1.2.2.1, h.2.1.2.2.2⟩ ⟨h.2.2.1.1, h.2.2.1.2.1, h.2.2.1.2.2⟩ rfl rfl rfl rfl rfl rfl, loS_WS⟩)
theorem cR_rd {S : aw_S} {U : U_T} (h : clsR S U) {res : Except Nat rd_T} {r : Option Value} {hh : aw_hp} (hr : rdE S (uP U) res r hh) : cQ S (f_rd U res) r hh := by
  cases res with
  | error u =>
    obtain ⟨h1, F, h2, h3, h4, h5⟩ := hr
    exact ⟨h1, F, h2, clsR_T0 h h4 h3 (h5.1 301 (by decide) (by decide) (by decide) (by decide) (by decide) (by decide) (by decide) (by decide) (by decide) (by decide) (by decide) (by decide) (by decide) (by decide)) (h5.2 4 (by decide) (by decide) (by decide) (by decide) (by decide) (by decide) (by decide) (by decide) (by decide) (by decide) (by decide)) (h5.1 8 (by decide) (by decide) (by decide) (by decide) (by decide) (by decide) (by decide) (by decide) (by decide) (by decide) (by decide) (by decide) (by decide) (by decide)) (h5.1 2203 (by decide) (by decide) (by decide) (by decide) (by decide) (by decide) (by decide) (by decide) (by decide) (by decide) (by decide) (by decide) (by decide) (by decide)) (h5.1 2204 (by decide) (by decide) (by decide) (by decide) (by decide) (by decide) (by decide) (by decide) (by decide) (by decide) (by decide) (by decide) (by decide) (by decide)) (h5.2 23 (by decide) (by decide) (by decide) (by decide) (by decide) (by decide) (by decide) (by decide) (by decide) (by decide) (by decide)) (h5.2 24 (by decide) (by decide) (by decide) (by decide) (by decide) (by decide) (by decide) (by decide) (by decide) (by decide) (by decide)) (h5.2 25 (by decide) (by decide) (by decide) (by decide) (by decide) (by decide) (by decide) (by decide) (by decide) (by decide) (by decide)), loS_R h5⟩
  | ok y =>
    rcases hr with ⟨c, h1, -, F, h2, h3, h4, h5⟩ | ⟨c, h1, F, h2, h3, h4, h5⟩
    · rw [f_rd, if_pos c]
      exact ⟨h1, F, h2, clsR_T0 h h4 h3 (h5.1 301 (by decide) (by decide) (by decide) (by decide) (by decide) (by decide) (by decide) (by decide) (by decide) (by decide) (by decide) (by decide) (by decide) (by decide)) (h5.2 4 (by decide) (by decide) (by decide) (by decide) (by decide) (by decide) (by decide) (by decide) (by decide) (by decide) (by decide)) (h5.1 8 (by decide) (by decide) (by decide) (by decide) (by decide) (by decide) (by decide) (by decide) (by decide) (by decide) (by decide) (by decide) (by decide) (by decide)) (h5.1 2203 (by decide) (by decide) (by decide) (by decide) (by decide) (by decide) (by decide) (by decide) (by decide) (by decide) (by decide) (by decide) (by decide) (by decide)) (h5.1 2204 (by decide) (by decide) (by decide) (by decide) (by decide) (by decide) (by decide) (by decide) (by decide) (by decide) (by decide) (by decide) (by decide) (by decide)) (h5.2 23 (by decide) (by decide) (by decide) (by decide) (by decide) (by decide) (by decide) (by decide) (by decide) (by decide) (by decide)) (h5.2 24 (by decide) (by decide) (by decide) (by decide) (by decide) (by decide) (by decide) (by decide) (by decide) (by decide) (by decide)) (h5.2 25 (by decide) (by decide) (by decide) (by decide) (by decide) (by decide) (by decide) (by decide) (by decide) (by decide) (by decide)), loS_R h5⟩
    · rw [f_rd, if_neg (by omega)]
      exact ⟨h1, F, h2, clsR_T0 h h4 h3 (h5.1 301 (by decide) (by decide) (by decide) (by decide) (by decide) (by decide) (by decide) (by decide) (by decide) (by decide) (by decide) (by decide) (by decide) (by decide)) (h5.2 4 (by decide) (by decide) (by decide) (by decide) (by decide) (by decide) (by decide) (by decide) (by decide) (by decide) (by decide)) (h5.1 8 (by decide) (by decide) (by decide) (by decide) (by decide) (by decide) (by decide) (by decide) (by decide) (by decide) (by decide) (by decide) (by decide) (by decide)) (h5.1 2203 (by decide) (by decide) (by decide) (by decide) (by decide) (by decide) (by decide) (by decide) (by decide) (by decide) (by decide) (by decide) (by decide) (by decide)) (h5.1 2204 (by decide) (by decide) (by decide) (by decide) (by decide) (by decide) (by decide) (by decide) (by decide) (by decide) (by decide) (by decide) (by decide) (by decide)) (h5.2 23 (by decide) (by decide) (by decide) (by decide) (by decide) (by decide) (by decide) (by decide) (by decide) (by decide) (by decide)) (h5.2 24 (by decide) (by decide) (by decide) (by decide) (by decide) (by decide) (by decide) (by decide) (by decide) (by decide) (by decide)) (h5.2 25 (by decide) (by decide) (by decide) (by decide) (by decide) (by decide) (by decide) (by decide) (by decide) (by decide) (by decide)), loS_R h5⟩
theorem cR_read {g : aw_G} {S : aw_S} {U : U_T} (h : clsR S U) (hw : wdU U) {x : Int32} : Sp g M_RF_read 10 224 0 0 [.ref 0, .int x] (HP S) (cQ S (f_read U x)) := by
  rw [f_read]
  by_cases c00 : x.toInt = 0
  · rw [if_pos c00, show x = nI 0 by rw [← Int32.toInt_inj, c00]; rfl]
    exact Sp.imp (sp_RF_read_0 h.1 hw.1 h.2.1) (fun r hh hr => cR_rd h hr)
  rw [if_neg c00]
  by_cases c01 : x.toInt = 1
  · rw [if_pos c01, show x = nI 1 by rw [← Int32.toInt_inj, c01]; rfl]
    exact Sp.imp (sp_RF_read_1 h.1 hw.1 h.2.1) (fun r hh hr => cR_rd h hr)
  rw [if_neg c01]
  by_cases c02 : x.toInt = 2
  · rw [if_pos c02, show x = nI 2 by rw [← Int32.toInt_inj, c02]; rfl]
    exact Sp.imp (sp_RF_read_2 h.1 hw.1 h.2.1) (fun r hh hr => cR_rd h hr)
  rw [if_neg c02]
  by_cases c03 : x.toInt = 3
  · rw [if_pos c03, show x = nI 3 by rw [← Int32.toInt_inj, c03]; rfl]
    exact Sp.imp (sp_RF_read_3 h.1 hw.1 h.2.1) (fun r hh hr => cR_rd h hr)
  rw [if_neg c03]
  exact Sp.imp (sp_RF_readB (x := x) (by omega)) (fun r hh hr => ⟨hr.1, _, hr.2, clsR_T0 h (xp_C_fr h.1 rfl rfl rfl rfl rfl rfl rfl rfl rfl rfl) rfl rfl rfl rfl rfl rfl rfl rfl rfl, loS_si (loS_si loS_rf (by decide)) (by decide)⟩)
theorem cR_hear {g : aw_G} {S : aw_S} {U : U_T} (h : clsR S U) (hw : wdU U) {x : Int32} : Sp g M_RF_hear 7 148 0 0 [.ref 0, .int x] (HP S) (cQ S (f_hear U x)) := by
  rw [f_hear]
  by_cases c00 : x.toInt = 0
  · rw [if_pos c00, show x = nI 0 by rw [← Int32.toInt_inj, c00]; rfl]
    refine Sp.imp (sp_RF_hear_0 h.2.1) (fun r hh hr => ?_)
    obtain ⟨h1, p, q, w, l, k, e, z, X, h2⟩ := hr
    cases hx : hrJ (uT U) (uN U) with
    | error u => rw [hx] at h1; exact ⟨by first | exact h1 | exact h1.1, _, h2, clsR_T0 h (xp_C_fr h.1 rfl rfl rfl rfl rfl rfl rfl rfl rfl rfl) rfl rfl rfl rfl rfl rfl rfl rfl rfl, QC_lo⟩
    | ok v => rw [hx] at h1; exact ⟨by first | exact h1 | exact h1.1, _, h2, clsR_T0 h (xp_C_fr h.1 rfl rfl rfl rfl rfl rfl rfl rfl rfl rfl) rfl rfl rfl rfl rfl rfl rfl rfl rfl, QC_lo⟩
  rw [if_neg c00]
  by_cases c01 : x.toInt = 1
  · rw [if_pos c01, show x = nI 1 by rw [← Int32.toInt_inj, c01]; rfl]
    refine Sp.imp (sp_RF_hear_1 h.2.1) (fun r hh hr => ?_)
    obtain ⟨h1, p, q, w, l, k, e, z, X, h2⟩ := hr
    cases hx : hrX (uT U) (uN U) with
    | error u => rw [hx] at h1; exact ⟨by first | exact h1 | exact h1.1, _, h2, clsR_T0 h (xp_C_fr h.1 rfl rfl rfl rfl rfl rfl rfl rfl rfl rfl) rfl rfl rfl rfl rfl rfl rfl rfl rfl, QC_lo⟩
    | ok v => rw [hx] at h1; exact ⟨by first | exact h1 | exact h1.1, _, h2, clsR_T0 h (xp_C_fr h.1 rfl rfl rfl rfl rfl rfl rfl rfl rfl rfl) rfl rfl rfl rfl rfl rfl rfl rfl rfl, QC_lo⟩
  rw [if_neg c01]
  exact Sp.imp (sp_RF_hearB (x := x) (by omega)) (fun r hh hr => ⟨hr.1, _, hr.2, clsR_T0 h (xp_C_fr h.1 rfl rfl rfl rfl rfl rfl rfl rfl rfl rfl) rfl rfl rfl rfl rfl rfl rfl rfl rfl, loS_si (loS_si loS_rf (by decide)) (by decide)⟩)
theorem cR_keep {g : aw_G} {S : aw_S} {U : U_T} (h : clsR S U) (hw : wdU U)  : Sp g M_RF_keep 1 22 0 0 [.ref 0] (HP S) (cQ S (f_keep U)) := by
  refine Sp.imp (sp_RF_keep h.1.1.2.2) (fun r hh hr => ?_)
  obtain ⟨h1, A1, A2, A3, h2, a1, a2, a3⟩ := hr
  have w1 := hw.1.1
  refine ⟨h1, _, h2, ⟨xp_C_fr h.1 rfl rfl rfl rfl rfl rfl rfl rfl rfl rfl, ⟨h.2.1.1, h.2.1.2.1, h.2.1.2.2.1, h.2.1.2.2.2⟩, ⟨h.2.2.1.1, h.2.2.1.2.1, h.2.2.1.2.2⟩, rfl, fun _ => ⟨⟨h.1.1.2.1, h.1.1.2.2⟩, fun v hv => ⟨(a2 v (by have hv : v < xp_v (uP U) := hv; omega)).trans (h.1.2.1 v hv).1, fun i hi => (a1 _ (by have hv : v < xp_v (uP U) := hv; have hi : i < xp_nl (uP U) v := hi; have := (hw.1.2.1 v hv).2; omega)).trans ((h.1.2.1 v hv).2 i hi)⟩, fun r v hr hv => (a3 _ (by have hv : v < xp_v (uP U) := hv; have hr : r < xp_r (uP U) := hr; omega)).trans (h.1.2.2.1 r v hr hv)⟩⟩, ?_⟩
  exact loS_si (loS_si (loS_si (loS_sa (loS_sa (loS_sa loS_rf (by decide)) (by decide)) (by decide)) (by decide)) (by decide)) (by decide)
theorem mR_value {g : aw_G} {S : aw_S} {U : U_T} (h : modR S U) (hw : wdU U) {x y : Int32} : Sp g M_Mo_value 1 22 0 0 [.ref 33, .int x, .int y] (HP S) (mQ S (f_value U x y)) := by
  by_cases c : (0 ≤ x.toInt ∧ x.toInt < xp_r (uP U)) ∧ 0 ≤ y.toInt ∧ y.toInt < xp_v (uP U)
  · rw [f_value, if_pos c]
    obtain ⟨a, ha⟩ : ∃ a : Nat, a = x.toInt.toNat := ⟨_, rfl⟩
    obtain ⟨b, hb⟩ : ∃ b : Nat, b = y.toInt.toNat := ⟨_, rfl⟩
    rw [← ha, ← hb, show x = nI a by rw [ha]; exact i32n c.1.1, show y = nI b by rw [hb]; exact i32n c.2.1]
    refine Sp.imp (sp_Mo_value (a := a) (b := b) (xp_TmB h.1 hw.1) (by omega) (by omega)) (fun r hh hr => mQ_rf h ?_ hr.2)
    rw [hr.1, show 6 * a + b = a * 6 + b by omega, h.1.2.2.1 a b (by omega) (by omega)]
  · rw [f_value, if_neg c]
    exact Sp.imp (sp_Mo_valueB (xp_TmB h.1 hw.1) c) (fun r hh hr => mQ_rf h hr.1 hr.2)
theorem mR_of {g : aw_G} {S : aw_S} {U : U_T} (h : modR S U) (hw : wdU U) {x y : Int32} : Sp g M_Mo_of 1 22 0 0 [.ref 33, .int x, .int y] (HP S) (mQ S (f_of U x y)) := by
  by_cases c : 0 ≤ x.toInt ∧ x.toInt < xp_t (uP U)
  · rw [f_of, if_pos c]
    obtain ⟨t, ht⟩ : ∃ t : Nat, t = x.toInt.toNat := ⟨_, rfl⟩
    rw [← ht, show x = nI t by rw [ht]; exact i32n c.1]
    refine Sp.imp (sp_Mo_of (t := t) (y := y) (xp_TmI h.1 hw.1) (by omega)) (fun r hh hr => mQ_rf h ?_ hr.2)
    obtain ⟨e1, e2, e3, e4⟩ := h.1.2.2.2 t (by omega)
    rw [hr.1, e1, e2]
    by_cases c3 : 3 ≤ y.toInt ∧ y.toInt - 3 < xp_l (uP U) t
    · rw [if_pos c3, if_pos c3, e4 _ (by omega)]
    · rw [if_neg c3, if_neg c3]
  · rw [f_of, if_neg c]
    exact Sp.imp (sp_Mo_ofB (xp_TmI h.1 hw.1) c) (fun r hh hr => mQ_rf h hr.1 hr.2)
theorem mR_row {g : aw_G} {S : aw_S} {U : U_T} (h : modR S U) (hw : wdU U)  : Sp g M_Mo_row 0 0 0 0 [.ref 33] (HP S) (mQ S (f_row U)) := by
  by_cases c : xp_r (uP U) < 24
  · rw [f_row, if_pos c]
    refine Sp.imp (sp_Mo_row (xp_TmB h.1 hw.1) c) (fun r hh hr => ?_)
    obtain ⟨h1, CD, h2, b1, b2⟩ := hr
    exact ⟨h1, _, h2, modR_mk h ⟨⟨h.1.1.1, h.1.1.2.1, rfl⟩, h.1.2.1, fun r v hr hv => by
      show CD (r * 6 + v) = oI (if r = xp_r (uP U) then none else xp_c (uP U) r v)
      have hr : r < xp_r (uP U) + 1 := hr
      have hv : v < xp_v (uP U) := hv
      have h6 := hw.1.1.1
      by_cases hq : r = xp_r (uP U)
      · rw [if_pos hq, hq]; exact b1 v (by omega)
      · rw [if_neg hq, b2 _ (by omega)]; exact h.1.2.2.1 r v (by omega) hv, h.1.2.2.2⟩ ⟨h.2.1.1, h.2.1.2.1, h.2.1.2.2.1, h.2.1.2.2.2⟩ ⟨h.2.2.1.1, h.2.2.1.2.1, h.2.2.1.2.2⟩ rfl rfl rfl rfl rfl rfl, hiS_si (hiS_sa hiS_rf (by decide)) (by decide)⟩
  · rw [f_row, if_neg c]
    exact Sp.imp (sp_Mo_rowF (xp_TmB h.1 hw.1) (by have := hw.1.1.2.1; omega)) (fun r hh hr => mQ_rf h hr.1 hr.2)
theorem mR_put {g : aw_G} {S : aw_S} {U : U_T} (h : modR S U) (hw : wdU U) {x y z : Int32} : Sp g M_Mo_put 1 22 0 0 [.ref 33, .int x, .int y, .int z] (HP S) (mQ S (f_put U x y z)) := by
  by_cases c : ((0 ≤ x.toInt ∧ x.toInt < xp_r (uP U)) ∧ 0 ≤ y.toInt ∧ y.toInt < xp_v (uP U)) ∧ (z.toInt = -1 ∨ (0 ≤ z.toInt ∧ z.toInt < xp_t (uP U)))
  · rw [f_put, if_pos c]
    obtain ⟨a, ha⟩ : ∃ a : Nat, a = x.toInt.toNat := ⟨_, rfl⟩
    obtain ⟨b, hb⟩ : ∃ b : Nat, b = y.toInt.toNat := ⟨_, rfl⟩
    rw [← ha, ← hb, show x = nI a by rw [ha]; exact i32n c.1.1.1, show y = nI b by rw [hb]; exact i32n c.1.2.1]
    have ha2 : a < xp_r (uP U) := by omega
    have hb2 : b < xp_v (uP U) := by omega
    by_cases e : oI (xp_c (uP U) a b) = z
    · rw [if_pos e]
      exact Sp.imp (sp_Mo_putS (a := a) (b := b) (xp_TmB h.1 hw.1) (xp_TmI h.1 hw.1) ha2 hb2 c.2 (by rw [show 6 * a + b = a * 6 + b by omega]; rw [h.1.2.2.1 a b (by omega) (by omega)]; exact e)) (fun r hh hr => ⟨hr.1, _, hr.2, modR_mk (F := _) h ⟨h.1.1, h.1.2.1, fun r v hr hv => by
        have hr : r < xp_r (uP U) := hr
        have hv : v < xp_v (uP U) := hv
        have h6 := hw.1.1.1
        show upd (S.2 43) (6 * a + b) z (r * 6 + v) = oI (if r = a ∧ v = b then zO z else xp_c (uP U) r v)
        by_cases hq : r = a ∧ v = b
        · rw [if_pos hq, zO_I c.2]; obtain ⟨rfl, rfl⟩ := hq; exact if_pos (by omega)
        · rw [if_neg hq]; simp only [upd]; rw [if_neg (by omega)]; exact h.1.2.2.1 r v hr hv, h.1.2.2.2⟩ ⟨h.2.1.1, h.2.1.2.1, h.2.1.2.2.1, h.2.1.2.2.2⟩ ⟨h.2.2.1.1, h.2.2.1.2.1, h.2.2.1.2.2⟩ rfl rfl rfl rfl rfl rfl, hiS_sa hiS_rf (by decide)⟩)
    · rw [if_neg e]
      exact Sp.imp (sp_Mo_putD (a := a) (b := b) (xp_TmB h.1 hw.1) (xp_TmI h.1 hw.1) ha2 hb2 c.2 (by rw [show 6 * a + b = a * 6 + b by omega]; rw [h.1.2.2.1 a b (by omega) (by omega)]; exact e)) (fun r hh hr => ⟨hr.1, _, hr.2, modR_mk h ⟨h.1.1, h.1.2.1, fun r v hr hv => by
        have hr : r < xp_r (uP U) := hr
        have hv : v < xp_v (uP U) := hv
        have h6 := hw.1.1.1
        show upd (S.2 43) (6 * a + b) z (r * 6 + v) = oI (if r = a ∧ v = b then zO z else xp_c (uP U) r v)
        by_cases hq : r = a ∧ v = b
        · rw [if_pos hq, zO_I c.2]; obtain ⟨rfl, rfl⟩ := hq; exact if_pos (by omega)
        · rw [if_neg hq]; simp only [upd]; rw [if_neg (by omega)]; exact h.1.2.2.1 r v hr hv, h.1.2.2.2⟩ ⟨h.2.1.1, h.2.1.2.1, h.2.1.2.2.1, h.2.1.2.2.2⟩ ⟨h.2.2.1.1, h.2.2.1.2.1, h.2.2.1.2.2⟩ rfl rfl rfl rfl rfl rfl, hiS_sa hiS_rf (by decide)⟩)
  · rw [f_put, if_neg c]
    exact Sp.imp (sp_Mo_putB (xp_TmB h.1 hw.1) (xp_TmI h.1 hw.1) c) (fun r hh hr => mQ_rf h hr.1 hr.2)
theorem mR_write {g : aw_G} {S : aw_S} {U : U_T} (h : modR S U) (hw : wdU U) {x : Int32} : Sp g M_Mo_write 5 114 0 0 [.ref 33, .int x] (HP S) (mQ S (f_write U x)) := by
  rw [f_write]
  by_cases c00 : x.toInt = 0
  · rw [if_pos c00, f_wr]
    by_cases c : (w_j (uP U)).length ≤ 3000
    · rw [if_pos c, show x = nI 0 by rw [← Int32.toInt_inj, c00]; rfl]
      refine Sp.imp (sp_Mo_write_0 h.1 hw.1 (by omega)) (fun r hh hr => ?_)
      obtain ⟨h1, A, h2, a1⟩ := hr
      exact ⟨h1, _, h2, modR_mk h (xp_M_fr h.1 rfl rfl rfl rfl rfl rfl rfl rfl rfl rfl) ⟨h.2.1.1, h.2.1.2.1, h.2.1.2.2.1, h.2.1.2.2.2⟩ ⟨rfl, c, fun i hi => a1 i hi⟩ rfl rfl rfl rfl rfl rfl, hiS_si (hiS_sa hiS_MS (by decide)) (by decide)⟩
    · rw [if_neg c, show x = nI 0 by rw [← Int32.toInt_inj, c00]; rfl]
      exact Sp.imp (sp_Mo_writeF_0 h.1 hw.1 (by omega)) (fun r hh hr => ⟨hr.1, _, hr.2, modR_mk h (xp_M_fr h.1 rfl rfl rfl rfl rfl rfl rfl rfl rfl rfl) ⟨h.2.1.1, h.2.1.2.1, h.2.1.2.2.1, h.2.1.2.2.2⟩ ⟨h.2.2.1.1, h.2.2.1.2.1, h.2.2.1.2.2⟩ rfl rfl rfl rfl rfl rfl, hiS_MS⟩)
  rw [if_neg c00]
  by_cases c01 : x.toInt = 1
  · rw [if_pos c01, f_wr]
    by_cases c : (w_x (uP U)).length ≤ 3000
    · rw [if_pos c, show x = nI 1 by rw [← Int32.toInt_inj, c01]; rfl]
      refine Sp.imp (sp_Mo_write_1 h.1 hw.1 (by omega)) (fun r hh hr => ?_)
      obtain ⟨h1, A, h2, a1⟩ := hr
      exact ⟨h1, _, h2, modR_mk h (xp_M_fr h.1 rfl rfl rfl rfl rfl rfl rfl rfl rfl rfl) ⟨h.2.1.1, h.2.1.2.1, h.2.1.2.2.1, h.2.1.2.2.2⟩ ⟨rfl, c, fun i hi => a1 i hi⟩ rfl rfl rfl rfl rfl rfl, hiS_si (hiS_sa hiS_MS (by decide)) (by decide)⟩
    · rw [if_neg c, show x = nI 1 by rw [← Int32.toInt_inj, c01]; rfl]
      exact Sp.imp (sp_Mo_writeF_1 h.1 hw.1 (by omega)) (fun r hh hr => ⟨hr.1, _, hr.2, modR_mk h (xp_M_fr h.1 rfl rfl rfl rfl rfl rfl rfl rfl rfl rfl) ⟨h.2.1.1, h.2.1.2.1, h.2.1.2.2.1, h.2.1.2.2.2⟩ ⟨h.2.2.1.1, h.2.2.1.2.1, h.2.2.1.2.2⟩ rfl rfl rfl rfl rfl rfl, hiS_MS⟩)
  rw [if_neg c01]
  by_cases c02 : x.toInt = 2
  · rw [if_pos c02, f_wr]
    by_cases c : (w_l true (uP U)).length ≤ 3000
    · rw [if_pos c, show x = nI 2 by rw [← Int32.toInt_inj, c02]; rfl]
      refine Sp.imp (sp_Mo_write_2 h.1 hw.1 (by omega)) (fun r hh hr => ?_)
      obtain ⟨h1, A, h2, a1⟩ := hr
      exact ⟨h1, _, h2, modR_mk h (xp_M_fr h.1 rfl rfl rfl rfl rfl rfl rfl rfl rfl rfl) ⟨h.2.1.1, h.2.1.2.1, h.2.1.2.2.1, h.2.1.2.2.2⟩ ⟨rfl, c, fun i hi => a1 i hi⟩ rfl rfl rfl rfl rfl rfl, hiS_si (hiS_sa hiS_MS (by decide)) (by decide)⟩
    · rw [if_neg c, show x = nI 2 by rw [← Int32.toInt_inj, c02]; rfl]
      exact Sp.imp (sp_Mo_writeF_2 h.1 hw.1 (by omega)) (fun r hh hr => ⟨hr.1, _, hr.2, modR_mk h (xp_M_fr h.1 rfl rfl rfl rfl rfl rfl rfl rfl rfl rfl) ⟨h.2.1.1, h.2.1.2.1, h.2.1.2.2.1, h.2.1.2.2.2⟩ ⟨h.2.2.1.1, h.2.2.1.2.1, h.2.2.1.2.2⟩ rfl rfl rfl rfl rfl rfl, hiS_MS⟩)
  rw [if_neg c02]
  by_cases c03 : x.toInt = 3
  · rw [if_pos c03, f_wr]
    by_cases c : (w_l false (uP U)).length ≤ 3000
    · rw [if_pos c, show x = nI 3 by rw [← Int32.toInt_inj, c03]; rfl]
      refine Sp.imp (sp_Mo_write_3 h.1 hw.1 (by omega)) (fun r hh hr => ?_)
      obtain ⟨h1, A, h2, a1⟩ := hr
      exact ⟨h1, _, h2, modR_mk h (xp_M_fr h.1 rfl rfl rfl rfl rfl rfl rfl rfl rfl rfl) ⟨h.2.1.1, h.2.1.2.1, h.2.1.2.2.1, h.2.1.2.2.2⟩ ⟨rfl, c, fun i hi => a1 i hi⟩ rfl rfl rfl rfl rfl rfl, hiS_si (hiS_sa hiS_MS (by decide)) (by decide)⟩
    · rw [if_neg c, show x = nI 3 by rw [← Int32.toInt_inj, c03]; rfl]
      exact Sp.imp (sp_Mo_writeF_3 h.1 hw.1 (by omega)) (fun r hh hr => ⟨hr.1, _, hr.2, modR_mk h (xp_M_fr h.1 rfl rfl rfl rfl rfl rfl rfl rfl rfl rfl) ⟨h.2.1.1, h.2.1.2.1, h.2.1.2.2.1, h.2.1.2.2.2⟩ ⟨h.2.2.1.1, h.2.2.1.2.1, h.2.2.1.2.2⟩ rfl rfl rfl rfl rfl rfl, hiS_MS⟩)
  rw [if_neg c03]
  exact Sp.imp (sp_Mo_writeB (x := x) (by omega)) (fun r hh hr => mQ_rf h hr.1 hr.2)
theorem mR_say0 {g : aw_G} {S : aw_S} {U : U_T} (h : modR S U) (hw : wdU U) {x : Int32} : Sp g M_Mo_say 2 45 0 0 [.ref 33, .int x, .int (nI 0)] (HP S) (mQ S (f_say U x false)) := by
  rw [f_say]
  by_cases c00 : x.toInt = 0
  · have c : (w_tr true false).length ≤ 3000 := by decide
    rw [if_pos c00, f_wr, if_pos c, show x = nI 0 by rw [← Int32.toInt_inj, c00]; rfl]
    refine Sp.imp sp_Mo_say_00 (fun r hh hr => ?_)
    obtain ⟨h1, A, h2, a1⟩ := hr
    exact ⟨h1, _, h2, modR_mk h (xp_M_fr h.1 rfl rfl rfl rfl rfl rfl rfl rfl rfl rfl) ⟨h.2.1.1, h.2.1.2.1, h.2.1.2.2.1, h.2.1.2.2.2⟩ ⟨rfl, c, fun i hi => a1 i hi⟩ rfl rfl rfl rfl rfl rfl, hiS_si (hiS_sa hiS_MS (by decide)) (by decide)⟩
  rw [if_neg c00]
  by_cases c01 : x.toInt = 1
  · have c : (w_tr false false).length ≤ 3000 := by decide
    rw [if_pos c01, f_wr, if_pos c, show x = nI 1 by rw [← Int32.toInt_inj, c01]; rfl]
    refine Sp.imp sp_Mo_say_10 (fun r hh hr => ?_)
    obtain ⟨h1, A, h2, a1⟩ := hr
    exact ⟨h1, _, h2, modR_mk h (xp_M_fr h.1 rfl rfl rfl rfl rfl rfl rfl rfl rfl rfl) ⟨h.2.1.1, h.2.1.2.1, h.2.1.2.2.1, h.2.1.2.2.2⟩ ⟨rfl, c, fun i hi => a1 i hi⟩ rfl rfl rfl rfl rfl rfl, hiS_si (hiS_sa hiS_MS (by decide)) (by decide)⟩
  rw [if_neg c01]
  exact Sp.imp (sp_Mo_sayB (x := x) (by omega)) (fun r hh hr => mQ_rf h hr.1 hr.2)
theorem mR_say1 {g : aw_G} {S : aw_S} {U : U_T} (h : modR S U) (hw : wdU U) {x : Int32} : Sp g M_Mo_say 2 45 0 0 [.ref 33, .int x, .int (nI 1)] (HP S) (mQ S (f_say U x true)) := by
  rw [f_say]
  by_cases c00 : x.toInt = 0
  · have c : (w_tr true true).length ≤ 3000 := by decide
    rw [if_pos c00, f_wr, if_pos c, show x = nI 0 by rw [← Int32.toInt_inj, c00]; rfl]
    refine Sp.imp sp_Mo_say_01 (fun r hh hr => ?_)
    obtain ⟨h1, A, h2, a1⟩ := hr
    exact ⟨h1, _, h2, modR_mk h (xp_M_fr h.1 rfl rfl rfl rfl rfl rfl rfl rfl rfl rfl) ⟨h.2.1.1, h.2.1.2.1, h.2.1.2.2.1, h.2.1.2.2.2⟩ ⟨rfl, c, fun i hi => a1 i hi⟩ rfl rfl rfl rfl rfl rfl, hiS_si (hiS_sa hiS_MS (by decide)) (by decide)⟩
  rw [if_neg c00]
  by_cases c01 : x.toInt = 1
  · have c : (w_tr false true).length ≤ 3000 := by decide
    rw [if_pos c01, f_wr, if_pos c, show x = nI 1 by rw [← Int32.toInt_inj, c01]; rfl]
    refine Sp.imp sp_Mo_say_11 (fun r hh hr => ?_)
    obtain ⟨h1, A, h2, a1⟩ := hr
    exact ⟨h1, _, h2, modR_mk h (xp_M_fr h.1 rfl rfl rfl rfl rfl rfl rfl rfl rfl rfl) ⟨h.2.1.1, h.2.1.2.1, h.2.1.2.2.1, h.2.1.2.2.2⟩ ⟨rfl, c, fun i hi => a1 i hi⟩ rfl rfl rfl rfl rfl rfl, hiS_si (hiS_sa hiS_MS (by decide)) (by decide)⟩
  rw [if_neg c01]
  exact Sp.imp (sp_Mo_sayB (x := x) (by omega)) (fun r hh hr => mQ_rf h hr.1 hr.2)
theorem mR_rd {S : aw_S} {U : U_T} (h : modR S U) {res : Except Nat rd_T} {r : Option Value} {hh : aw_hp} (hr : rdM S (uP U) res r hh) : mQ S (f_rd U res) r hh := by
  cases res with
  | error u =>
    obtain ⟨h1, F, h2, h3, h4, h5⟩ := hr
    exact ⟨h1, F, h2, modR_T0 h h4 h3 (h5.1 3302 (by decide) (by decide) (by decide) (by decide) (by decide) (by decide) (by decide) (by decide) (by decide) (by decide)) (h5.2 35 (by decide) (by decide) (by decide) (by decide) (by decide) (by decide) (by decide) (by decide) (by decide) (by decide) (by decide) (by decide) (by decide) (by decide) (by decide)) (h5.1 3316 (by decide) (by decide) (by decide) (by decide) (by decide) (by decide) (by decide) (by decide) (by decide) (by decide)) (h5.1 3317 (by decide) (by decide) (by decide) (by decide) (by decide) (by decide) (by decide) (by decide) (by decide) (by decide)) (h5.1 3320 (by decide) (by decide) (by decide) (by decide) (by decide) (by decide) (by decide) (by decide) (by decide) (by decide)) (h5.2 44 (by decide) (by decide) (by decide) (by decide) (by decide) (by decide) (by decide) (by decide) (by decide) (by decide) (by decide) (by decide) (by decide) (by decide) (by decide)) (h5.2 45 (by decide) (by decide) (by decide) (by decide) (by decide) (by decide) (by decide) (by decide) (by decide) (by decide) (by decide) (by decide) (by decide) (by decide) (by decide)) (h5.2 46 (by decide) (by decide) (by decide) (by decide) (by decide) (by decide) (by decide) (by decide) (by decide) (by decide) (by decide) (by decide) (by decide) (by decide) (by decide)), hiS_N h5⟩
  | ok y =>
    rcases hr with ⟨c, h1, F, h2, h3, h4, h5⟩ | ⟨c, h1, F, h2, h3, h4, h5⟩
    · rw [f_rd, if_pos c]
      exact ⟨h1, F, h2, modR_T0 h h4 h3 (h5.1 3302 (by decide) (by decide) (by decide) (by decide) (by decide) (by decide) (by decide) (by decide) (by decide) (by decide)) (h5.2 35 (by decide) (by decide) (by decide) (by decide) (by decide) (by decide) (by decide) (by decide) (by decide) (by decide) (by decide) (by decide) (by decide) (by decide) (by decide)) (h5.1 3316 (by decide) (by decide) (by decide) (by decide) (by decide) (by decide) (by decide) (by decide) (by decide) (by decide)) (h5.1 3317 (by decide) (by decide) (by decide) (by decide) (by decide) (by decide) (by decide) (by decide) (by decide) (by decide)) (h5.1 3320 (by decide) (by decide) (by decide) (by decide) (by decide) (by decide) (by decide) (by decide) (by decide) (by decide)) (h5.2 44 (by decide) (by decide) (by decide) (by decide) (by decide) (by decide) (by decide) (by decide) (by decide) (by decide) (by decide) (by decide) (by decide) (by decide) (by decide)) (h5.2 45 (by decide) (by decide) (by decide) (by decide) (by decide) (by decide) (by decide) (by decide) (by decide) (by decide) (by decide) (by decide) (by decide) (by decide) (by decide)) (h5.2 46 (by decide) (by decide) (by decide) (by decide) (by decide) (by decide) (by decide) (by decide) (by decide) (by decide) (by decide) (by decide) (by decide) (by decide) (by decide)), hiS_N h5⟩
    · rw [f_rd, if_neg (by omega)]
      exact ⟨h1, F, h2, modR_T0 h h4 h3 (h5.1 3302 (by decide) (by decide) (by decide) (by decide) (by decide) (by decide) (by decide) (by decide) (by decide) (by decide)) (h5.2 35 (by decide) (by decide) (by decide) (by decide) (by decide) (by decide) (by decide) (by decide) (by decide) (by decide) (by decide) (by decide) (by decide) (by decide) (by decide)) (h5.1 3316 (by decide) (by decide) (by decide) (by decide) (by decide) (by decide) (by decide) (by decide) (by decide) (by decide)) (h5.1 3317 (by decide) (by decide) (by decide) (by decide) (by decide) (by decide) (by decide) (by decide) (by decide) (by decide)) (h5.1 3320 (by decide) (by decide) (by decide) (by decide) (by decide) (by decide) (by decide) (by decide) (by decide) (by decide)) (h5.2 44 (by decide) (by decide) (by decide) (by decide) (by decide) (by decide) (by decide) (by decide) (by decide) (by decide) (by decide) (by decide) (by decide) (by decide) (by decide)) (h5.2 45 (by decide) (by decide) (by decide) (by decide) (by decide) (by decide) (by decide) (by decide) (by decide) (by decide) (by decide) (by decide) (by decide) (by decide) (by decide)) (h5.2 46 (by decide) (by decide) (by decide) (by decide) (by decide) (by decide) (by decide) (by decide) (by decide) (by decide) (by decide) (by decide) (by decide) (by decide) (by decide)), hiS_N h5⟩
theorem mR_read {g : aw_G} {S : aw_S} {U : U_T} (h : modR S U) (hw : wdU U) {x : Int32} : Sp g M_Mo_read 7 158 0 0 [.ref 33, .int x] (HP S) (mQ S (f_read U x)) := by
  rw [f_read]
  by_cases c00 : x.toInt = 0
  · rw [if_pos c00, show x = nI 0 by rw [← Int32.toInt_inj, c00]; rfl]
    exact Sp.imp (sp_Mo_read_0 h.1 hw.1 h.2.1) (fun r hh hr => mR_rd h hr)
  rw [if_neg c00]
  by_cases c01 : x.toInt = 1
  · rw [if_pos c01, show x = nI 1 by rw [← Int32.toInt_inj, c01]; rfl]
    exact Sp.imp (sp_Mo_read_1 h.1 hw.1 h.2.1) (fun r hh hr => mR_rd h hr)
  rw [if_neg c01]
  by_cases c02 : x.toInt = 2
  · rw [if_pos c02, show x = nI 2 by rw [← Int32.toInt_inj, c02]; rfl]
    exact Sp.imp (sp_Mo_read_2 h.1 hw.1 h.2.1) (fun r hh hr => mR_rd h hr)
  rw [if_neg c02]
  by_cases c03 : x.toInt = 3
  · rw [if_pos c03, show x = nI 3 by rw [← Int32.toInt_inj, c03]; rfl]
    exact Sp.imp (sp_Mo_read_3 h.1 hw.1 h.2.1) (fun r hh hr => mR_rd h hr)
  rw [if_neg c03]
  exact Sp.imp (sp_Mo_readB (x := x) (by omega)) (fun r hh hr => ⟨hr.1, _, hr.2, modR_T0 h (xp_M_fr h.1 rfl rfl rfl rfl rfl rfl rfl rfl rfl rfl) rfl rfl rfl rfl rfl rfl rfl rfl rfl, hiS_si hiS_rf (by decide)⟩)
theorem mR_hear {g : aw_G} {S : aw_S} {U : U_T} (h : modR S U) (hw : wdU U) {x : Int32} : Sp g M_Mo_hear 4 89 0 0 [.ref 33, .int x] (HP S) (mQ S (f_hear U x)) := by
  rw [f_hear]
  by_cases c00 : x.toInt = 0
  · rw [if_pos c00, show x = nI 0 by rw [← Int32.toInt_inj, c00]; rfl]
    refine Sp.imp (sp_Mo_hear_0 h.2.1) (fun r hh hr => ?_)
    obtain ⟨h1, a, q, f, z, X, h2⟩ := hr
    rw [show hpJ (uT U) (uN U) = hrJ (uT U) (uN U) from rfl] at h1
    cases hx : hrJ (uT U) (uN U) with
    | error u => rw [hx] at h1; exact ⟨by first | exact h1 | exact h1.1, _, h2, modR_T0 h (xp_M_fr h.1 rfl rfl rfl rfl rfl rfl rfl rfl rfl rfl) rfl rfl rfl rfl rfl rfl rfl rfl rfl, QM_hi⟩
    | ok v => rw [hx] at h1; exact ⟨by first | exact h1 | exact h1.1, _, h2, modR_T0 h (xp_M_fr h.1 rfl rfl rfl rfl rfl rfl rfl rfl rfl rfl) rfl rfl rfl rfl rfl rfl rfl rfl rfl, QM_hi⟩
  rw [if_neg c00]
  by_cases c01 : x.toInt = 1
  · rw [if_pos c01, show x = nI 1 by rw [← Int32.toInt_inj, c01]; rfl]
    refine Sp.imp (sp_Mo_hear_1 h.2.1) (fun r hh hr => ?_)
    obtain ⟨h1, a, q, f, z, X, h2⟩ := hr
    rw [show hpX (uT U) (uN U) = hrX (uT U) (uN U) from rfl] at h1
    cases hx : hrX (uT U) (uN U) with
    | error u => rw [hx] at h1; exact ⟨by first | exact h1 | exact h1.1, _, h2, modR_T0 h (xp_M_fr h.1 rfl rfl rfl rfl rfl rfl rfl rfl rfl rfl) rfl rfl rfl rfl rfl rfl rfl rfl rfl, QM_hi⟩
    | ok v => rw [hx] at h1; exact ⟨by first | exact h1 | exact h1.1, _, h2, modR_T0 h (xp_M_fr h.1 rfl rfl rfl rfl rfl rfl rfl rfl rfl rfl) rfl rfl rfl rfl rfl rfl rfl rfl rfl, QM_hi⟩
  rw [if_neg c01]
  exact Sp.imp (sp_Mo_hearB (x := x) (by omega)) (fun r hh hr => ⟨hr.1, _, hr.2, modR_T0 h (xp_M_fr h.1 rfl rfl rfl rfl rfl rfl rfl rfl rfl rfl) rfl rfl rfl rfl rfl rfl rfl rfl rfl, hiS_si hiS_rf (by decide)⟩)
theorem mR_keep {g : aw_G} {S : aw_S} {U : U_T} (h : modR S U) (hw : wdU U)  : Sp g M_Mo_keep 0 0 0 0 [.ref 33] (HP S) (mQ S (f_keep U)) := by
  refine Sp.imp (sp_Mo_keep (xp_TmB h.1 hw.1)) (fun r hh hr => ?_)
  obtain ⟨h1, A1, A2, A3, h2, a1, a2, a3⟩ := hr
  have w1 := hw.1.1
  refine ⟨h1, _, h2, ⟨xp_M_fr h.1 rfl rfl rfl rfl rfl rfl rfl rfl rfl rfl, ⟨h.2.1.1, h.2.1.2.1, h.2.1.2.2.1, h.2.1.2.2.2⟩, ⟨h.2.2.1.1, h.2.2.1.2.1, h.2.2.1.2.2⟩, rfl, fun _ => ⟨⟨rfl, rfl⟩, fun v hv => ⟨(a1 v hv).trans (h.1.2.1 v hv).1, fun i hi => (a2 _ (by have hv : v < xp_v (uP U) := hv; have hi : i < xp_nl (uP U) v := hi; have := (hw.1.2.1 v hv).2; omega)).trans ((h.1.2.1 v hv).2 i hi)⟩, fun r v hr hv => (a3 _ (by have hv : v < xp_v (uP U) := hv; have hr : r < xp_r (uP U) := hr; have := hw.1.1.1; omega)).trans (h.1.2.2.1 r v hr hv)⟩⟩, ?_⟩
  exact hiS_sa (hiS_sa (hiS_sa (hiS_si (hiS_si (hiS_si hiS_rf (by decide)) (by decide)) (by decide)) (by decide)) (by decide)) (by decide)
