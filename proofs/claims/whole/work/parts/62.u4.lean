theorem lkM_congr {p p' : Nat → Nat → Bool} {K : Nat} : ∀ {m r left : Nat} {tk : Nat → Bool}, (∀ x k, r ≤ x → x < r + m → k < K → p x k = p' x k) → lkM p K m r left tk = lkM p' K m r left tk := by
  intro m
  induction m with
  | zero => intro r left tk _; rfl
  | succ m ih =>
    intro r left tk h
    simp only [lkM]
    rw [fdB_congr (p := fun k => !tk k && p r k) (q := fun k => !tk k && p' r k) (fun k _ hk => by rw [h r k (by omega) (by omega) (by omega)])]
    cases fdB (fun k => !tk k && p' r k) K 0 with
    | some k => exact ih (fun x k a b c => h x k (by omega) (by omega) c)
    | none => show (if left = 0 then nI r else _) = (if left = 0 then nI r else _); rw [ih (fun x k a b c => h x k (by omega) (by omega) c)]
theorem ite_iff {A B : Prop} [Decidable A] [Decidable B] {a b : Int32} (h : A ↔ B) : (if A then a else b) = if B then a else b := by
  by_cases c : A
  · rw [if_pos c, if_pos (h.mp c)]
  · rw [if_neg c, if_neg (fun q => c (h.mpr q))]
theorem cns {S : aw_S} {U : U_T} (h : clsR S U) (hw : wdU U) (k : uK U = true) (hv : xp_v (uP U) = xp_v (uQ U)) : nsB (S.2 16) (S.2 15) (S.2 24) (S.2 23) (xp_v (uP U)) 0 = nsB (aL (uP U)) (aB (uP U)) (aL (uQ U)) (aB (uQ U)) (xp_v (uP U)) 0 := by
  have hk := h.2.2.2.2 k
  have kw := hw.2 k
  have hD : TbI_22 S (xp_v (uQ U)) (xp_r (uQ U)) (xp_nl (uQ U)) := ⟨hk.1.1, kw.1, hk.1.2, kw.2.1, fun v hv => ⟨(hk.2.1 v hv).1, (kw.2.2 v hv).2⟩⟩
  have h8 : S.1 8 = nI 1 := by rw [h.2.2.2.1, if_pos k]
  have w6 := hw.1.1.1
  refine nsB_congr (fun v _ hv2 => ?_)
  have h1 := h.1.2.1 v (by omega)
  have h2 := hk.2.1 v (by omega)
  refine ⟨h1.1, h2.1, fun he i hi => ?_⟩
  rw [h1.1] at hi he
  rw [h2.1] at he
  have l1 := (hw.1.2.1 v (by omega)).2
  have l2 := (kw.2.2 v (by omega)).2
  have he := (nI_eq (by omega) (by omega)).mp he
  rw [nI_clamp (by omega)] at hi
  rw [aB_e (by omega), aB_e (by omega)]
  exact ⟨h1.2 i hi, h2.2 i (by omega)⟩
theorem ccel {S : aw_S} {U : U_T} (h : clsR S U) (hw : wdU U) {r v : Nat} (hr : r < xp_r (uP U)) (hv : v < xp_v (uP U)) : S.2 17 (r * 6 + v) = aC (uP U) (r * 6 + v) := by
  have w6 := hw.1.1.1
  rw [aC_e (by omega)]; exact h.1.2.2.1 r v hr hv
theorem ckel {S : aw_S} {U : U_T} (h : clsR S U) (hw : wdU U) (k : uK U = true) {r v : Nat} (hr : r < xp_r (uQ U)) (hv : v < xp_v (uQ U)) : S.2 25 (r * 6 + v) = aC (uQ U) (r * 6 + v) := by
  have hk := h.2.2.2.2 k
  have kw := hw.2 k
  have hD : TbI_22 S (xp_v (uQ U)) (xp_r (uQ U)) (xp_nl (uQ U)) := ⟨hk.1.1, kw.1, hk.1.2, kw.2.1, fun v hv => ⟨(hk.2.1 v hv).1, (kw.2.2 v hv).2⟩⟩
  have h8 : S.1 8 = nI 1 := by rw [h.2.2.2.1, if_pos k]
  have w6 := hw.1.1.1
  rw [aC_e (by have := kw.1; omega)]; exact hk.2.2 r v hr hv
theorem clk {S : aw_S} {U : U_T} (h : clsR S U) (hw : wdU U) (k : uK U = true) (hv : xp_v (uP U) = xp_v (uQ U)) {x : Nat} (hx : x < xp_r (uP U)) : decide (cnB (fun q => rwB (S.2 25) (S.2 17) (xp_v (uQ U)) q x) (xp_r (uQ U)) 0 ≤ cnB (fun q => rwB (S.2 17) (S.2 17) (xp_v (uP U)) q x) x 0) = f_lk U x := by
  rw [f_lk, ← hv, cnB_congr (p := fun q => rwB (S.2 25) (S.2 17) (xp_v (uP U)) q x) (q := fun q => rwB (aC (uQ U)) (aC (uP U)) (xp_v (uP U)) q x) (fun q _ hq => rwB_congr (fun v hv2 => ckel h hw k (by omega) (by omega)) (fun v hv2 => ccel h hw hx hv2)), cnB_congr (p := fun q => rwB (S.2 17) (S.2 17) (xp_v (uP U)) q x) (q := fun q => rwB (aC (uP U)) (aC (uP U)) (xp_v (uP U)) q x) (fun q _ hq => rwB_congr (fun v hv2 => ccel h hw (by omega) hv2) (fun v hv2 => ccel h hw hx hv2))]
theorem ccmp {S : aw_S} {U : U_T} (h : clsR S U) (hw : wdU U) (k : uK U = true) : (xp_v (uP U) = xp_v (uQ U) ∧ nsB (S.2 16) (S.2 15) (S.2 24) (S.2 23) (xp_v (uP U)) 0 = true) ↔ f_cmp U = true := by
  simp only [f_cmp, Bool.and_eq_true, decide_eq_true_eq]
  exact ⟨fun q => ⟨q.1, by rw [← cns h hw k q.1]; exact q.2⟩, fun q => ⟨q.1, by rw [cns h hw k q.1]; exact q.2⟩⟩
theorem cmpv {U : U_T} (c : f_cmp U = true) : xp_v (uP U) = xp_v (uQ U) := by simp only [f_cmp, Bool.and_eq_true, decide_eq_true_eq] at c; exact c.1
theorem cR_same0 {g : aw_G} {S : aw_S} {U : U_T} (h : clsR S U) (hw : wdU U)  : Sp g M_RF_same 5 113 0 0 [.ref 0, .int (nI 0)] (HP S) (cQ S (f_same U false)) := by
  by_cases k : uK U = true
  · rw [f_same, if_pos k]
    have hk := h.2.2.2.2 k
    have kw := hw.2 k
    have hD : TbI_22 S (xp_v (uQ U)) (xp_r (uQ U)) (xp_nl (uQ U)) := ⟨hk.1.1, kw.1, hk.1.2, kw.2.1, fun v hv => ⟨(hk.2.1 v hv).1, (kw.2.2 v hv).2⟩⟩
    have h8 : S.1 8 = nI 1 := by rw [h.2.2.2.1, if_pos k]
    have w6 := hw.1.1.1
    refine Sp.imp (sp_RF_same_0 (xp_TbI h.1 hw.1) hD h8) (fun r hh hr => cQ_rf h ?_ hr.2)
    rw [hr.1]
    congr 2
    refine ite_iff ⟨fun a => ?_, fun a => ?_⟩
    · have cc := (ccmp h hw k).mp ⟨a.1.2.1, a.1.2.2⟩
      have hrr := a.1.1
      exact ⟨⟨cc, hrr⟩, (anB_congr (fun x _ hx => by rw [if_neg (by decide)]; show (!decide _) = _; rw [clk h hw k (cmpv cc) (by omega)])).symm.trans a.2⟩
    · have cc := a.1.1
      have hrr := a.1.2
      have c2 := (ccmp h hw k).mpr cc
      exact ⟨⟨hrr, c2.1, c2.2⟩, (anB_congr (fun x _ hx => by rw [if_neg (by decide)]; show (!decide _) = _; rw [clk h hw k (cmpv cc) (by omega)])).trans a.2⟩
  · rw [f_same, if_neg k]
    exact Sp.imp (sp_RF_sameN (b := nI 0) (by rw [h.2.2.2.1, if_neg k])) (fun r hh hr => cQ_rf h hr.1 hr.2)
theorem cR_same1 {g : aw_G} {S : aw_S} {U : U_T} (h : clsR S U) (hw : wdU U)  : Sp g M_RF_same 5 113 0 0 [.ref 0, .int (nI 1)] (HP S) (cQ S (f_same U true)) := by
  by_cases k : uK U = true
  · rw [f_same, if_pos k]
    have hk := h.2.2.2.2 k
    have kw := hw.2 k
    have hD : TbI_22 S (xp_v (uQ U)) (xp_r (uQ U)) (xp_nl (uQ U)) := ⟨hk.1.1, kw.1, hk.1.2, kw.2.1, fun v hv => ⟨(hk.2.1 v hv).1, (kw.2.2 v hv).2⟩⟩
    have h8 : S.1 8 = nI 1 := by rw [h.2.2.2.1, if_pos k]
    have w6 := hw.1.1.1
    refine Sp.imp (sp_RF_same_1 (xp_TbI h.1 hw.1) hD h8) (fun r hh hr => cQ_rf h ?_ hr.2)
    rw [hr.1]
    congr 2
    refine ite_iff ⟨fun a => ?_, fun a => ?_⟩
    · have cc := (ccmp h hw k).mp ⟨a.1.2.1, a.1.2.2⟩
      have hrr := a.1.1
      exact ⟨⟨cc, hrr⟩, (anB_congr (fun x _ hx => by rw [if_pos rfl, ← cmpv cc]; have hv := cmpv cc; exact rwB_congr (fun v hv2 => ckel h hw k (by omega) (by omega)) (fun v hv2 => ccel h hw (by omega) hv2))).symm.trans a.2⟩
    · have cc := a.1.1
      have hrr := a.1.2
      have c2 := (ccmp h hw k).mpr cc
      exact ⟨⟨hrr, c2.1, c2.2⟩, (anB_congr (fun x _ hx => by rw [if_pos rfl, ← cmpv cc]; have hv := cmpv cc; exact rwB_congr (fun v hv2 => ckel h hw k (by omega) (by omega)) (fun v hv2 => ccel h hw (by omega) hv2))).trans a.2⟩
  · rw [f_same, if_neg k]
    exact Sp.imp (sp_RF_sameN (b := nI 1) (by rw [h.2.2.2.1, if_neg k])) (fun r hh hr => cQ_rf h hr.1 hr.2)
theorem cR_lacks {g : aw_G} {S : aw_S} {U : U_T} (h : clsR S U) (hw : wdU U) {x : Int32} : Sp g M_RF_lacks 5 113 0 0 [.ref 0, .int x] (HP S) (cQ S (f_lacks U x)) := by
  by_cases k : uK U = true
  · by_cases hx : 0 ≤ x.toInt
    · rw [f_lacks, if_pos ⟨k, hx⟩]
      have hk := h.2.2.2.2 k
      have kw := hw.2 k
      have hD : TbI_22 S (xp_v (uQ U)) (xp_r (uQ U)) (xp_nl (uQ U)) := ⟨hk.1.1, kw.1, hk.1.2, kw.2.1, fun v hv => ⟨(hk.2.1 v hv).1, (kw.2.2 v hv).2⟩⟩
      have h8 : S.1 8 = nI 1 := by rw [h.2.2.2.1, if_pos k]
      have w6 := hw.1.1.1
      obtain ⟨i, hi⟩ : ∃ i : Nat, i = x.toInt.toNat := ⟨_, rfl⟩
      have hx1 := x.toInt_lt
      rw [← hi, show x = nI i by rw [hi]; exact i32n hx]
      refine Sp.imp (sp_RF_lacks (i := i) (xp_TbI h.1 hw.1) hD (by omega) h8) (fun r hh hr => cQ_rf h ?_ hr.2)
      rw [hr.1]
      congr 2
      refine lkB_congr (fun j _ hj => ?_)
      by_cases cc : f_cmp U = true
      · rw [decide_eq_true ((ccmp h hw k).mpr cc), cc, ← clk h hw k (cmpv cc) (show j < xp_r (uP U) by omega)]
      · rw [decide_eq_false (fun q => cc ((ccmp h hw k).mp q)), show f_cmp U = false by simpa using cc, Bool.false_and, Bool.false_and]
    · rw [f_lacks, if_neg (fun q => hx q.2)]
      exact Sp.imp (sp_RF_lacksN (b := x) (Or.inr ⟨by rw [h.2.2.2.1, if_pos k], by omega⟩)) (fun r hh hr => cQ_rf h hr.1 hr.2)
  · rw [f_lacks, if_neg (fun q => k q.1)]
    exact Sp.imp (sp_RF_lacksN (b := x) (Or.inl (by rw [h.2.2.2.1, if_neg k]))) (fun r hh hr => cQ_rf h hr.1 hr.2)
theorem cR_dist {g : aw_G} {S : aw_S} {U : U_T} (h : clsR S U) (hw : wdU U)  : Sp g M_RF_distinct 5 116 0 0 [.ref 0] (HP S) (cQ S (f_dist U)) := by
  have w6 := hw.1.1.1
  have hd := (dd_b w6 (xp_r (uP U)) 0 0 (S.2 17) (aC (uP U)) (Nat.le_refl _) (by omega) (fun q v hq hv => ccel h hw hq hv)).1
  have hp := dd_p (p := fun z => z.toInt = -1 ∨ (0 ≤ z.toInt ∧ z.toInt < xp_t (uP U))) (M := xp_r (uP U)) w6 (xp_r (uP U)) 0 0 (aC (uP U)) (Nat.le_refl _) (by omega) (fun q v hq hv => by
    rw [aC_e (by omega)]
    cases hc : xp_c (uP U) q v with
    | none => exact Or.inl rfl
    | some t =>
      have ht := hw.1.2.2.1 q v t hq hv hc
      have w60 := hw.1.1.2.2
      refine Or.inr ?_
      show 0 ≤ (nI t).toInt ∧ (nI t).toInt < _
      rw [nI_toInt (by omega)]; omega)
  refine Sp.imp (sp_RF_distinct (xp_TbI h.1 hw.1)) (fun r hh hr => ⟨?_, _, hr.2, clsR_mk h ⟨⟨h.1.1.1, h.1.1.2.1, ?_⟩, h.1.2.1, fun r v hr2 hv => ?_, h.1.2.2.2⟩ ⟨h.2.1.1, h.2.1.2.1, h.2.1.2.2.1, h.2.1.2.2.2⟩ ⟨h.2.2.1.1, h.2.2.1.2.1, h.2.2.1.2.2⟩ rfl rfl rfl rfl rfl rfl, loS_si (loS_sa loS_rf (by decide)) (by decide)⟩)
  · rw [hr.1, hd.1]; rfl
  · show nI _ = nI _
    rw [hd.1]; rfl
  · have hr2 : r < (ddB (xp_v (uP U)) (xp_r (uP U)) 0 0 (aC (uP U))).1 := hr2
    have hv : v < xp_v (uP U) := hv
    have hrr : r < xp_r (uP U) := by have := hp.2; omega
    show (ddB (xp_v (uP U)) (xp_r (uP U)) 0 0 (S.2 17)).2 (r * 6 + v) = oI (zO ((ddB (xp_v (uP U)) (xp_r (uP U)) 0 0 (aC (uP U))).2 (r * 6 + v)))
    rw [zO_I (hp.1 r v hrr hv)]
    exact hd.2 r v hrr hv
theorem mns {S : aw_S} {U : U_T} (h : modR S U) (hw : wdU U) (k : uK U = true) (hv : xp_v (uP U) = xp_v (uQ U)) : nsB (S.2 41) (S.2 42) (S.2 44) (S.2 45) (xp_v (uP U)) 0 = nsB (aL (uP U)) (aB (uP U)) (aL (uQ U)) (aB (uQ U)) (xp_v (uP U)) 0 := by
  have hk := h.2.2.2.2 k
  have kw := hw.2 k
  have hD : TmK S (xp_v (uQ U)) (xp_r (uQ U)) (xp_nl (uQ U)) := ⟨hk.1.1, kw.1, hk.1.2, kw.2.1, fun v hv => ⟨(hk.2.1 v hv).1, (kw.2.2 v hv).2⟩⟩
  have h8 : S.1 3316 = nI 1 := by rw [h.2.2.2.1, if_pos k]
  have w6 := hw.1.1.1
  refine nsB_congr (fun v _ hv2 => ?_)
  have h1 := h.1.2.1 v (by omega)
  have h2 := hk.2.1 v (by omega)
  refine ⟨h1.1, h2.1, fun he i hi => ?_⟩
  rw [h1.1] at hi he
  rw [h2.1] at he
  have l1 := (hw.1.2.1 v (by omega)).2
  have l2 := (kw.2.2 v (by omega)).2
  have he := (nI_eq (by omega) (by omega)).mp he
  rw [nI_clamp (by omega)] at hi
  rw [aB_e (by omega), aB_e (by omega)]
  exact ⟨h1.2 i hi, h2.2 i (by omega)⟩
theorem mcel {S : aw_S} {U : U_T} (h : modR S U) (hw : wdU U) {r v : Nat} (hr : r < xp_r (uP U)) (hv : v < xp_v (uP U)) : S.2 43 (r * 6 + v) = aC (uP U) (r * 6 + v) := by
  have w6 := hw.1.1.1
  rw [aC_e (by omega)]; exact h.1.2.2.1 r v hr hv
theorem mkel {S : aw_S} {U : U_T} (h : modR S U) (hw : wdU U) (k : uK U = true) {r v : Nat} (hr : r < xp_r (uQ U)) (hv : v < xp_v (uQ U)) : S.2 46 (r * 6 + v) = aC (uQ U) (r * 6 + v) := by
  have hk := h.2.2.2.2 k
  have kw := hw.2 k
  have hD : TmK S (xp_v (uQ U)) (xp_r (uQ U)) (xp_nl (uQ U)) := ⟨hk.1.1, kw.1, hk.1.2, kw.2.1, fun v hv => ⟨(hk.2.1 v hv).1, (kw.2.2 v hv).2⟩⟩
  have h8 : S.1 3316 = nI 1 := by rw [h.2.2.2.1, if_pos k]
  have w6 := hw.1.1.1
  rw [aC_e (by have := kw.1; omega)]; exact hk.2.2 r v hr hv
theorem mcmp {S : aw_S} {U : U_T} (h : modR S U) (hw : wdU U) (k : uK U = true) : (decide (xp_v (uQ U) = xp_v (uP U)) && nsB (S.2 41) (S.2 42) (S.2 44) (S.2 45) (xp_v (uP U)) 0) = f_cmp U := by
  simp only [f_cmp]
  by_cases hv : xp_v (uP U) = xp_v (uQ U)
  · rw [decide_eq_true hv.symm, decide_eq_true hv, mns h hw k hv]
  · rw [decide_eq_false (fun q => hv q.symm), decide_eq_false hv, Bool.false_and, Bool.false_and]
theorem mlk {S : aw_S} {U : U_T} (h : modR S U) (hw : wdU U) (k : uK U = true) {i : Nat} : lkM (fun q j => (decide (xp_v (uQ U) = xp_v (uP U)) && nsB (S.2 41) (S.2 42) (S.2 44) (S.2 45) (xp_v (uP U)) 0) && rwB (S.2 43) (S.2 46) (xp_v (uP U)) q j) (xp_r (uQ U)) (xp_r (uP U)) 0 i (fun _ => false) = lkB (fun r => !(f_cmp U && !f_lk U r)) i (xp_r (uP U)) 0 0 := by
  rw [mcmp h hw k]
  by_cases cc : f_cmp U = true
  · have hv := cmpv cc
    rw [lkM_congr (p' := fun q j => rwB (aC (uP U)) (aC (uQ U)) (xp_v (uP U)) q j) (fun x j _ hx hj => by rw [cc, Bool.true_and]; exact rwB_congr (fun v hv2 => mcel h hw (by omega) hv2) (fun v hv2 => mkel h hw k hj (by omega))), lk_M]
    refine lkB_congr (fun j _ hj => ?_)
    rw [cc, Bool.true_and, Bool.not_not]
    rfl
  · have cf : f_cmp U = false := by simpa using cc
    have e := lk_all (K := xp_r (uQ U)) (p := fun q j => f_cmp U && rwB (S.2 43) (S.2 46) (xp_v (uP U)) q j) (fun x j => by rw [cf, Bool.false_and]) i (xp_r (uP U)) 0 0 (fun _ => false) (Nat.zero_le _)
    rw [Nat.sub_zero] at e
    rw [e]
    refine lkB_congr (fun j _ hj => ?_)
    rw [cf]
    rfl
theorem mR_same0 {g : aw_G} {S : aw_S} {U : U_T} (h : modR S U) (hw : wdU U)  : Sp g M_Mo_same 2 49 0 0 [.ref 33, .int (nI 0)] (HP S) (mQ S (f_same U false)) := by
  by_cases k : uK U = true
  · rw [f_same, if_pos k]
    have hk := h.2.2.2.2 k
    have kw := hw.2 k
    have hD : TmK S (xp_v (uQ U)) (xp_r (uQ U)) (xp_nl (uQ U)) := ⟨hk.1.1, kw.1, hk.1.2, kw.2.1, fun v hv => ⟨(hk.2.1 v hv).1, (kw.2.2 v hv).2⟩⟩
    have h8 : S.1 3316 = nI 1 := by rw [h.2.2.2.1, if_pos k]
    have w6 := hw.1.1.1
    refine Sp.imp (sp_Mo_same_0 (xp_TmB h.1 hw.1) hD h8) (fun r hh hr => ?_)
    obtain ⟨h1, T, h2⟩ := hr
    rw [mlk h hw k] at h1
    rw [mcmp h hw k] at h1
    refine ⟨?_, _, h2, modR_mk h (xp_M_fr h.1 rfl rfl rfl rfl rfl rfl rfl rfl rfl rfl) ⟨h.2.1.1, h.2.1.2.1, h.2.1.2.2.1, h.2.1.2.2.2⟩ ⟨h.2.2.1.1, h.2.2.1.2.1, h.2.2.1.2.2⟩ rfl rfl rfl rfl rfl rfl, hiS_sa hiS_rf (by decide)⟩
    rw [h1]
    show some (Value.int _) = some (Value.int (if _ then _ else _))
    congr 2
    by_cases cc : f_cmp U = true
    · by_cases hrr : xp_r (uQ U) = xp_r (uP U)
      · have hX : decide (lkB (fun r => !(f_cmp U && !f_lk U r)) 0 (xp_r (uP U)) 0 0 = -2) = anB (fun x => if false = true then rwB (aC (uQ U)) (aC (uP U)) (xp_v (uP U)) x x else !f_lk U x) (xp_r (uP U)) 0 := by
          apply Bool.eq_iff_iff.mpr
          rw [decide_eq_true_eq, lkB_no (by have := hw.1.1.2.1; omega), anB_congr (p := fun x => !(!(f_cmp U && !f_lk U x))) (q := fun x => if false = true then rwB (aC (uQ U)) (aC (uP U)) (xp_v (uP U)) x x else !f_lk U x) (fun x _ _ => by rw [if_neg (by decide), cc, Bool.true_and, Bool.not_not])]
        rw [hX, cc, decide_eq_true hrr]
        refine ite_iff ⟨fun a => ⟨⟨rfl, hrr.symm⟩, by simpa using a⟩, fun a => by simpa using a.2⟩
      · rw [if_neg (by rw [decide_eq_false hrr]; simp), if_neg (fun a => hrr a.1.2.symm)]
    · rw [if_neg (by rw [show f_cmp U = false by simpa using cc]; simp), if_neg (fun a => cc a.1.1)]
  · rw [f_same, if_neg k]
    exact Sp.imp (sp_Mo_sameN (b := nI 0) (by rw [h.2.2.2.1, if_neg k])) (fun r hh hr => mQ_rf h hr.1 hr.2)
theorem mR_same1 {g : aw_G} {S : aw_S} {U : U_T} (h : modR S U) (hw : wdU U)  : Sp g M_Mo_same 2 49 0 0 [.ref 33, .int (nI 1)] (HP S) (mQ S (f_same U true)) := by
  by_cases k : uK U = true
  · rw [f_same, if_pos k]
    have hk := h.2.2.2.2 k
    have kw := hw.2 k
    have hD : TmK S (xp_v (uQ U)) (xp_r (uQ U)) (xp_nl (uQ U)) := ⟨hk.1.1, kw.1, hk.1.2, kw.2.1, fun v hv => ⟨(hk.2.1 v hv).1, (kw.2.2 v hv).2⟩⟩
    have h8 : S.1 3316 = nI 1 := by rw [h.2.2.2.1, if_pos k]
    have w6 := hw.1.1.1
    refine Sp.imp (sp_Mo_same_1 (xp_TmB h.1 hw.1) hD h8) (fun r hh hr => ?_)
    obtain ⟨h1, T, h2⟩ := hr
    rw [mcmp h hw k] at h1
    refine ⟨?_, _, h2, modR_mk h (xp_M_fr h.1 rfl rfl rfl rfl rfl rfl rfl rfl rfl rfl) ⟨h.2.1.1, h.2.1.2.1, h.2.1.2.2.1, h.2.1.2.2.2⟩ ⟨h.2.2.1.1, h.2.2.1.2.1, h.2.2.1.2.2⟩ rfl rfl rfl rfl rfl rfl, hiS_sa hiS_rf (by decide)⟩
    rw [h1]
    show some (Value.int _) = some (Value.int (if _ then _ else _))
    congr 2
    by_cases cc : f_cmp U = true
    · by_cases hrr : xp_r (uQ U) = xp_r (uP U)
      · have hX : anB (fun q => rwB (S.2 43) (S.2 46) (xp_v (uP U)) q q) (xp_r (uP U)) 0 = anB (fun x => if true = true then rwB (aC (uQ U)) (aC (uP U)) (xp_v (uP U)) x x else !f_lk U x) (xp_r (uP U)) 0 := anB_congr (fun x _ hx => by rw [if_pos rfl, rwB_sy]; have hv := cmpv cc; exact rwB_congr (fun v hv2 => mkel h hw k (by omega) (by omega)) (fun v hv2 => mcel h hw (by omega) hv2))
        rw [hX, cc, decide_eq_true hrr]
        refine ite_iff ⟨fun a => ⟨⟨rfl, hrr.symm⟩, by simpa using a⟩, fun a => by simpa using a.2⟩
      · rw [if_neg (by rw [decide_eq_false hrr]; simp), if_neg (fun a => hrr a.1.2.symm)]
    · rw [if_neg (by rw [show f_cmp U = false by simpa using cc]; simp), if_neg (fun a => cc a.1.1)]
  · rw [f_same, if_neg k]
    exact Sp.imp (sp_Mo_sameN (b := nI 1) (by rw [h.2.2.2.1, if_neg k])) (fun r hh hr => mQ_rf h hr.1 hr.2)
theorem mR_lacks {g : aw_G} {S : aw_S} {U : U_T} (h : modR S U) (hw : wdU U) {x : Int32} : Sp g M_Mo_lacks 1 24 0 0 [.ref 33, .int x] (HP S) (mQ S (f_lacks U x)) := by
  by_cases k : uK U = true
  · by_cases hx : 0 ≤ x.toInt
    · rw [f_lacks, if_pos ⟨k, hx⟩]
      have hk := h.2.2.2.2 k
      have kw := hw.2 k
      have hD : TmK S (xp_v (uQ U)) (xp_r (uQ U)) (xp_nl (uQ U)) := ⟨hk.1.1, kw.1, hk.1.2, kw.2.1, fun v hv => ⟨(hk.2.1 v hv).1, (kw.2.2 v hv).2⟩⟩
      have h8 : S.1 3316 = nI 1 := by rw [h.2.2.2.1, if_pos k]
      have w6 := hw.1.1.1
      obtain ⟨i, hi⟩ : ∃ i : Nat, i = x.toInt.toNat := ⟨_, rfl⟩
      have hx1 := x.toInt_lt
      rw [← hi, show x = nI i by rw [hi]; exact i32n hx]
      refine Sp.imp (sp_Mo_lacks (i := i) (xp_TmB h.1 hw.1) hD (by omega) h8) (fun r hh hr => ?_)
      obtain ⟨h1, T, h2⟩ := hr
      rw [mlk h hw k] at h1
      exact ⟨h1, _, h2, modR_mk h (xp_M_fr h.1 rfl rfl rfl rfl rfl rfl rfl rfl rfl rfl) ⟨h.2.1.1, h.2.1.2.1, h.2.1.2.2.1, h.2.1.2.2.2⟩ ⟨h.2.2.1.1, h.2.2.1.2.1, h.2.2.1.2.2⟩ rfl rfl rfl rfl rfl rfl, hiS_sa hiS_rf (by decide)⟩
    · rw [f_lacks, if_neg (fun q => hx q.2)]
      have hk := h.2.2.2.2 k
      have kw := hw.2 k
      have hD : TmK S (xp_v (uQ U)) (xp_r (uQ U)) (xp_nl (uQ U)) := ⟨hk.1.1, kw.1, hk.1.2, kw.2.1, fun v hv => ⟨(hk.2.1 v hv).1, (kw.2.2 v hv).2⟩⟩
      have h8 : S.1 3316 = nI 1 := by rw [h.2.2.2.1, if_pos k]
      have w6 := hw.1.1.1
      refine Sp.imp (sp_Mo_lacksM (x := x) (xp_TmB h.1 hw.1) hD (by omega) h8) (fun r hh hr => ?_)
      obtain ⟨h1, T, h2⟩ := hr
      exact ⟨h1, _, h2, modR_mk h (xp_M_fr h.1 rfl rfl rfl rfl rfl rfl rfl rfl rfl rfl) ⟨h.2.1.1, h.2.1.2.1, h.2.1.2.2.1, h.2.1.2.2.2⟩ ⟨h.2.2.1.1, h.2.2.1.2.1, h.2.2.1.2.2⟩ rfl rfl rfl rfl rfl rfl, hiS_sa hiS_rf (by decide)⟩
  · rw [f_lacks, if_neg (fun q => k q.1)]
    exact Sp.imp (sp_Mo_lacksN (b := x) (by rw [h.2.2.2.1, if_neg k])) (fun r hh hr => mQ_rf h hr.1 hr.2)
theorem mR_dist {g : aw_G} {S : aw_S} {U : U_T} (h : modR S U) (hw : wdU U)  : Sp g M_Mo_distinct 0 0 0 0 [.ref 33] (HP S) (mQ S (f_dist U)) := by
  have w6 := hw.1.1.1
  have hd := (dd_b w6 (xp_r (uP U)) 0 0 (aC (uP U)) (S.2 43) (Nat.le_refl _) (by omega) (fun q v hq hv => (mcel h hw hq hv).symm)).2
  have hp := dd_p (p := fun z => z.toInt = -1 ∨ (0 ≤ z.toInt ∧ z.toInt < xp_t (uP U))) (M := xp_r (uP U)) w6 (xp_r (uP U)) 0 0 (aC (uP U)) (Nat.le_refl _) (by omega) (fun q v hq hv => by
    rw [aC_e (by omega)]
    cases hc : xp_c (uP U) q v with
    | none => exact Or.inl rfl
    | some t =>
      have ht := hw.1.2.2.1 q v t hq hv hc
      have w60 := hw.1.1.2.2
      refine Or.inr ?_
      show 0 ≤ (nI t).toInt ∧ (nI t).toInt < _
      rw [nI_toInt (by omega)]; omega)
  refine Sp.imp (sp_Mo_distinct (xp_TmB h.1 hw.1)) (fun r hh hr => ⟨?_, _, hr.2, modR_mk h ⟨⟨h.1.1.1, h.1.1.2.1, ?_⟩, h.1.2.1, fun r v hr2 hv => ?_, h.1.2.2.2⟩ ⟨h.2.1.1, h.2.1.2.1, h.2.1.2.2.1, h.2.1.2.2.2⟩ ⟨h.2.2.1.1, h.2.2.1.2.1, h.2.2.1.2.2⟩ rfl rfl rfl rfl rfl rfl, hiS_si (hiS_sa hiS_rf (by decide)) (by decide)⟩)
  · rw [hr.1, ← hd.1]; rfl
  · show nI _ = nI _
    rw [← hd.1]; rfl
  · have hr2 : r < (ddB (xp_v (uP U)) (xp_r (uP U)) 0 0 (aC (uP U))).1 := hr2
    have hv : v < xp_v (uP U) := hv
    have hrr : r < xp_r (uP U) := by have := hp.2; omega
    show (ddM (xp_v (uP U)) (xp_r (uP U)) 0 0 (S.2 43)).2 (r * 6 + v) = oI (zO ((ddB (xp_v (uP U)) (xp_r (uP U)) 0 0 (aC (uP U))).2 (r * 6 + v)))
    rw [zO_I (hp.1 r v hrr hv)]
    exact (hd.2 r v hrr hv).symm
