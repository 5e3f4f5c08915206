theorem sp_Mo_findS {g : aw_G} {S : aw_S} {nt : Nat} {tl : Nat → Nat} (hT : TmI S nt tl) {n : Nat} (hn : S.1 3334 = nI n) (h3 : n ≤ 20) {kk ee : Int32} {t : Nat} (hf : fdB (tmB (S.2 37) (S.2 38) (S.2 39) (S.2 40) kk ee n (S.2 54)) nt 0 = some t) : Sp g M_Mo_find 0 0 0 0 [.ref 33, .int kk, .int ee] (HP S) (fun r h => r = some (.int (nI t)) ∧ h = HP S) := by
  have z := sp_Mo_find (g := g) (kk := kk) (ee := ee) hT hn h3
  rw [hf] at z
  exact z
theorem sp_Mo_findN {g : aw_G} {S : aw_S} {nt : Nat} {tl : Nat → Nat} (hT : TmI S nt tl) {n : Nat} (hn : S.1 3334 = nI n) (h3 : n ≤ 20) {kk ee : Int32} (hf : fdB (tmB (S.2 37) (S.2 38) (S.2 39) (S.2 40) kk ee n (S.2 54)) nt 0 = none) : Sp g M_Mo_find 0 0 0 0 [.ref 33, .int kk, .int ee] (HP S) (fun r h => r = some (.int (nI nt)) ∧ h = HP S) := by
  have z := sp_Mo_find (g := g) (kk := kk) (ee := ee) hT hn h3
  rw [hf] at z
  exact z
set_option maxRecDepth 20000 in
theorem sp_Mo_noteS {g : aw_G} {S : aw_S} {nt : Nat} {tl : Nat → Nat} (hT : TmI S nt tl) {n : Nat} (hn : S.1 3334 = nI n) (h3 : n ≤ 20) {kk ee : Int32} {t : Nat} (hf : fdB (tmB (S.2 37) (S.2 38) (S.2 39) (S.2 40) kk ee n (S.2 54)) nt 0 = some t) : Sp g M_Mo_note 1 25 0 0 [.ref 33, .int kk, .int ee] (HP S) (fun r h => r = some (.int (nI t)) ∧ h = HP S) := by
  refine Sp.of rfl (aw_le rfl) ?_
  have htn := fdB_some hf
  refine aw_aload_n (aw_d q_Mo_note 0 rfl) rfl rfl rfl ?_
  refine aw_iload_n (aw_d q_Mo_note 1 rfl) rfl rfl ?_
  refine aw_iload_n (aw_d q_Mo_note 2 rfl) rfl rfl ?_
  refine cVr (aw_d q_Mo_note 3 rfl) (sp_Mo_findS hT hn h3 hf) vL_Mo_112_Mo rfl rfl rfl rfl rfl rfl ⟨aw_le rfl, aw_le rfl⟩ ?_
  refine aw_istore_n (aw_d q_Mo_note 4 rfl) rfl (aw_le rfl) rfl ?_
  refine aw_iload_n (aw_d q_Mo_note 5 rfl) rfl rfl ?_
  refine aw_aload_n (aw_d q_Mo_note 6 rfl) rfl rfl rfl ?_
  refine aw_getf (v := .int (nI (nt))) (aw_d q_Mo_note 7 rfl) fL_Mo_109_Mo rfl (gk hT.1) ?_
  refine aw_icmpN_ne (tgt := 86) (aw_d q_Mo_note 8 rfl) (by decide) (by (have hT2 := hT.2.1; omega)) (by (have hT2 := hT.2.1; omega)) (fun c12 => ?_) (fun c12 => by exfalso; (have hT2 := hT.2.1; omega))
  refine aw_iload_n (aw_d q_Mo_note 51 rfl) rfl rfl ?_
  exact aw_iret (aw_d q_Mo_note 52 rfl) rfl (⟨rfl, rfl⟩)
set_option maxRecDepth 20000 in
theorem lp_Mo_note {g : aw_G} {S : aw_S} {nt : Nat} {tl : Nat → Nat} (hT : TmI S nt tl) {n : Nat} (hn : S.1 3334 = nI n) (h3 : n ≤ 20) {kk ee : Int32} : ∀ (m k : Nat) (BD : Nat → Int32), m + k = n → (∀ i, i < k → BD (nt * 20 + i) = S.2 54 i) → (∀ j, j < nt * 20 → BD j = S.2 40 j) → AW g M_Mo_note (aw_rm 1 25 0 0) (aw_F g 0 0 (fun r h => r = some (.int (nI nt)) ∧ ∃ BD : Nat → Int32, h = HP (si (sa (sa (sa (sa S 37 (upd (S.2 37) nt kk)) 38 (upd (S.2 38) nt ee)) 39 (upd (S.2 39) nt (nI n))) 40 BD) 3306 (nI (nt + 1))) ∧ (∀ i, i < n → BD (nt * 20 + i) = S.2 54 i) ∧ ∀ j, j < nt * 20 → BD j = S.2 40 j)) 42 [some (.ref 33), some (.int kk), some (.int ee), some (.int (nI nt)), some (.int (nI k))] [] (HP (sa (sa (sa (sa S 37 (upd (S.2 37) nt kk)) 38 (upd (S.2 38) nt ee)) 39 (upd (S.2 39) nt (nI n))) 40 BD)) 0 0 := by
  intro m
  induction m with
  | zero =>
    intro k BD hk e1 e2
    refine aw_iload (aw_d q_Mo_note 27 rfl) rfl ?_
    refine aw_aload_n (aw_d q_Mo_note 28 rfl) rfl rfl rfl ?_
    refine aw_getf (v := .int (nI (n))) (aw_d q_Mo_note 29 rfl) fL_Mo_93_Mo rfl (gk hn) ?_
    refine aw_icmpN_ge (tgt := 76) (aw_d q_Mo_note 30 rfl) (by decide) (by (have hT2 := hT.2.1; omega)) (by (have hT2 := hT.2.1; omega)) (fun c48 => ?_) (fun c48 => by exfalso; (have hT2 := hT.2.1; omega))
    refine aw_aload_n (aw_d q_Mo_note 45 rfl) rfl rfl rfl ?_
    refine aw_dup (aw_d q_Mo_note 46 rfl) rfl ?_
    refine aw_getf (v := .int (nI (nt))) (aw_d q_Mo_note 47 rfl) fL_Mo_109_Mo rfl (gk hT.1) ?_
    refine aw_iconst (v := nI 1) (aw_d q_Mo_note 48 rfl) (by decide) ?_
    refine aw_iaddN (aw_d q_Mo_note 49 rfl) ?_
    refine wi_33_6 (aw_d q_Mo_note 50 rfl) pL_Mo_109_Mo ?_
    refine aw_iload_n (aw_d q_Mo_note 51 rfl) rfl rfl ?_
    exact aw_iret (aw_d q_Mo_note 52 rfl) rfl (⟨rfl, BD, rfl, fun i hi => e1 i (by omega), e2⟩)
  | succ m ih =>
    intro k BD hk e1 e2
    refine aw_iload (aw_d q_Mo_note 27 rfl) rfl ?_
    refine aw_aload_n (aw_d q_Mo_note 28 rfl) rfl rfl rfl ?_
    refine aw_getf (v := .int (nI (n))) (aw_d q_Mo_note 29 rfl) fL_Mo_93_Mo rfl (gk hn) ?_
    refine aw_icmpN_ge (tgt := 76) (aw_d q_Mo_note 30 rfl) (by decide) (by (have hT2 := hT.2.1; omega)) (by (have hT2 := hT.2.1; omega)) (fun c48 => by exfalso; (have hT2 := hT.2.1; omega)) (fun c48 => ?_)
    refine aw_aload_n (aw_d q_Mo_note 31 rfl) rfl rfl rfl ?_
    refine aw_getf (aw_d q_Mo_note 32 rfl) fL_Mo_28_Mo rfl rfl ?_
    refine aw_bipush (v := nI 20) (aw_d q_Mo_note 33 rfl) (by decide) ?_
    refine aw_iload_n (aw_d q_Mo_note 34 rfl) rfl rfl ?_
    refine aw_imulN (aw_d q_Mo_note 35 rfl) ?_
    refine aw_iload (aw_d q_Mo_note 36 rfl) rfl ?_
    refine aw_iaddN (aw_d q_Mo_note 37 rfl) ?_
    refine aw_aload_n (aw_d q_Mo_note 38 rfl) rfl rfl rfl ?_
    refine aw_getf (aw_d q_Mo_note 39 rfl) fL_Mo_71_Mo rfl rfl ?_
    refine aw_iload (aw_d q_Mo_note 40 rfl) rfl ?_
    refine aw_ialdN (aw_d q_Mo_note 41 rfl) rfl (by (have hT2 := hT.2.1; omega)) rfl ?_
    refine wn_40 (aw_d q_Mo_note 42 rfl) (by (have hT2 := hT.2.1; omega)) ?_
    refine aw_iinc (aw_d q_Mo_note 43 rfl) rfl (ii1 _) (aw_le rfl) rfl ?_
    refine aw_goto (tgt := 42) (aw_d q_Mo_note 44 rfl) (by decide) ?_
    refine AW.to (ih (k + 1) (upd BD (20 * nt + k) (S.2 54 k)) (by omega) (fun i hi => ?_) (fun j hj => ?_)) rfl rfl rfl rfl
    · by_cases hik : i = k
      · rw [hik, Nat.mul_comm nt 20]; exact pk_us
      · rw [pk_un (by omega)]; exact e1 i (by omega)
    · rw [pk_un (by omega)]; exact e2 j hj
set_option maxRecDepth 20000 in
theorem sp_Mo_noteN {g : aw_G} {S : aw_S} {nt : Nat} {tl : Nat → Nat} (hT : TmI S nt tl) {n : Nat} (hn : S.1 3334 = nI n) (h3 : n ≤ 20) {kk ee : Int32} (hf : fdB (tmB (S.2 37) (S.2 38) (S.2 39) (S.2 40) kk ee n (S.2 54)) nt 0 = none) : Sp g M_Mo_note 1 25 0 0 [.ref 33, .int kk, .int ee] (HP S) (fun r h => r = some (.int (nI nt)) ∧ ∃ BD : Nat → Int32, h = HP (si (sa (sa (sa (sa S 37 (upd (S.2 37) nt kk)) 38 (upd (S.2 38) nt ee)) 39 (upd (S.2 39) nt (nI n))) 40 BD) 3306 (nI (nt + 1))) ∧ (∀ i, i < n → BD (nt * 20 + i) = S.2 54 i) ∧ ∀ j, j < nt * 20 → BD j = S.2 40 j) := by
  refine Sp.of rfl (aw_le rfl) ?_
  refine aw_aload_n (aw_d q_Mo_note 0 rfl) rfl rfl rfl ?_
  refine aw_iload_n (aw_d q_Mo_note 1 rfl) rfl rfl ?_
  refine aw_iload_n (aw_d q_Mo_note 2 rfl) rfl rfl ?_
  refine cVr (aw_d q_Mo_note 3 rfl) (sp_Mo_findN hT hn h3 hf) vL_Mo_112_Mo rfl rfl rfl rfl rfl rfl ⟨aw_le rfl, aw_le rfl⟩ ?_
  refine aw_istore_n (aw_d q_Mo_note 4 rfl) rfl (aw_le rfl) rfl ?_
  refine aw_iload_n (aw_d q_Mo_note 5 rfl) rfl rfl ?_
  refine aw_aload_n (aw_d q_Mo_note 6 rfl) rfl rfl rfl ?_
  refine aw_getf (v := .int (nI (nt))) (aw_d q_Mo_note 7 rfl) fL_Mo_109_Mo rfl (gk hT.1) ?_
  refine aw_icmpN_ne (tgt := 86) (aw_d q_Mo_note 8 rfl) (by decide) (by (have hT2 := hT.2.1; omega)) (by (have hT2 := hT.2.1; omega)) (fun c12 => by exfalso; (have hT2 := hT.2.1; omega)) (fun c12 => ?_)
  refine aw_aload_n (aw_d q_Mo_note 9 rfl) rfl rfl rfl ?_
  refine aw_getf (aw_d q_Mo_note 10 rfl) fL_Mo_19_Mo rfl rfl ?_
  refine aw_iload_n (aw_d q_Mo_note 11 rfl) rfl rfl ?_
  refine aw_iload_n (aw_d q_Mo_note 12 rfl) rfl rfl ?_
  refine wn_37 (aw_d q_Mo_note 13 rfl) (by (have hT2 := hT.2.1; omega)) ?_
  refine aw_aload_n (aw_d q_Mo_note 14 rfl) rfl rfl rfl ?_
  refine aw_getf (aw_d q_Mo_note 15 rfl) fL_Mo_22_Mo rfl rfl ?_
  refine aw_iload_n (aw_d q_Mo_note 16 rfl) rfl rfl ?_
  refine aw_iload_n (aw_d q_Mo_note 17 rfl) rfl rfl ?_
  refine wn_38 (aw_d q_Mo_note 18 rfl) (by (have hT2 := hT.2.1; omega)) ?_
  refine aw_aload_n (aw_d q_Mo_note 19 rfl) rfl rfl rfl ?_
  refine aw_getf (aw_d q_Mo_note 20 rfl) fL_Mo_25_Mo rfl rfl ?_
  refine aw_iload_n (aw_d q_Mo_note 21 rfl) rfl rfl ?_
  refine aw_aload_n (aw_d q_Mo_note 22 rfl) rfl rfl rfl ?_
  refine aw_getf (v := .int (nI (n))) (aw_d q_Mo_note 23 rfl) fL_Mo_93_Mo rfl (gk hn) ?_
  refine wn_39 (aw_d q_Mo_note 24 rfl) (by (have hT2 := hT.2.1; omega)) ?_
  refine aw_iconst (v := nI 0) (aw_d q_Mo_note 25 rfl) (by decide) ?_
  refine aw_istore (aw_d q_Mo_note 26 rfl) (aw_le rfl) rfl ?_
  exact AW.to (lp_Mo_note hT hn h3 n 0 (S.2 40) (by omega) (fun i hi => by omega) (fun j hj => rfl)) rfl rfl rfl rfl
theorem if_same {p q : Prop} {dp : Decidable p} {dq : Decidable q} (h : p ↔ q) : (if p then nI 1 else nI 0) = (if q then nI 1 else nI 0) := by
  by_cases hp : p
  · rw [if_pos hp, if_pos (h.mp hp)]
  · rw [if_neg hp, if_neg (fun z => hp (h.mpr z))]
set_option maxRecDepth 20000 in
theorem sp_Mo_isExtra {g : aw_G} {h : aw_hp} {k e : Int32} : Sp g M_Mo_isExtra 1 22 0 0 [.int k, .int e] (h) (fun r h1 => r = some (.int (if (k.toInt = 3 ∧ 0 ≤ e.toInt ∧ e.toInt ≤ 675) ∨ (k.toInt = 4 ∧ 0 ≤ e.toInt ∧ e.toInt ≤ 3) ∨ (k.toInt ≠ 3 ∧ k.toInt ≠ 4 ∧ e.toInt = 0) then nI 1 else nI 0)) ∧ h1 = h) := by
  refine Sp.of rfl (aw_le rfl) ?_
  refine aw_iload_n (aw_d q_Mo_isExtra 0 rfl) rfl rfl ?_
  refine aw_iconst (v := nI 3) (aw_d q_Mo_isExtra 1 rfl) (by decide) ?_
  refine aw_icmpI_ne (tgt := 16) (aw_d q_Mo_isExtra 2 rfl) (by decide) (by omega) (fun c2 => ?_) (fun c2 => ?_)
  · refine aw_iload_n (aw_d q_Mo_isExtra 8 rfl) rfl rfl ?_
    refine aw_iconst (v := nI 4) (aw_d q_Mo_isExtra 9 rfl) (by decide) ?_
    refine aw_icmpI_ne (tgt := 30) (aw_d q_Mo_isExtra 10 rfl) (by decide) (by omega) (fun c18 => ?_) (fun c18 => ?_)
    · refine aw_iload_n (aw_d q_Mo_isExtra 16 rfl) rfl rfl ?_
      refine aw_ifI_ne (tgt := 38) (aw_d q_Mo_isExtra 17 rfl) (by decide) (fun c31 => ?_) (fun c31 => ?_)
      · refine aw_iconst (v := nI 0) (aw_d q_Mo_isExtra 20 rfl) (by decide) ?_
        exact aw_zret (aw_d q_Mo_isExtra 21 rfl) rfl (rfl) (⟨by first | rfl | (rw [if_pos (by omega)]; done) | (rw [if_neg (by omega)]; done) | (rw [if_same (by omega)]), rfl⟩)
      · refine aw_iconst (v := nI 1) (aw_d q_Mo_isExtra 18 rfl) (by decide) ?_
        refine aw_goto (tgt := 39) (aw_d q_Mo_isExtra 19 rfl) (by decide) ?_
        exact aw_zret (aw_d q_Mo_isExtra 21 rfl) rfl (rfl) (⟨by first | rfl | (rw [if_pos (by omega)]; done) | (rw [if_neg (by omega)]; done) | (rw [if_same (by omega)]), rfl⟩)
    · refine aw_iload_n (aw_d q_Mo_isExtra 11 rfl) rfl rfl ?_
      refine aw_iconst (v := nI 0) (aw_d q_Mo_isExtra 12 rfl) (by decide) ?_
      refine aw_iconst (v := nI 3) (aw_d q_Mo_isExtra 13 rfl) (by decide) ?_
      refine cSr (aw_d q_Mo_isExtra 14 rfl) (sp_Mo_in (A := 0) (B := 3) (by decide) (by decide)) sL_Mo_81 rfl rfl rfl rfl ⟨aw_le rfl, aw_le rfl⟩ ?_
      refine aw_goto (tgt := 39) (aw_d q_Mo_isExtra 15 rfl) (by decide) ?_
      exact aw_zret (aw_d q_Mo_isExtra 21 rfl) rfl (nB) (⟨by rw [if_same (q := (k.toInt = 3 ∧ 0 ≤ e.toInt ∧ e.toInt ≤ 675) ∨ (k.toInt = 4 ∧ 0 ≤ e.toInt ∧ e.toInt ≤ 3) ∨ (k.toInt ≠ 3 ∧ k.toInt ≠ 4 ∧ e.toInt = 0)) (by omega)], rfl⟩)
  · refine aw_iload_n (aw_d q_Mo_isExtra 3 rfl) rfl rfl ?_
    refine aw_iconst (v := nI 0) (aw_d q_Mo_isExtra 4 rfl) (by decide) ?_
    refine aw_sipush (v := nI 675) (aw_d q_Mo_isExtra 5 rfl) (by decide) ?_
    refine cSr (aw_d q_Mo_isExtra 6 rfl) (sp_Mo_in (A := 0) (B := 675) (by decide) (by decide)) sL_Mo_81 rfl rfl rfl rfl ⟨aw_le rfl, aw_le rfl⟩ ?_
    refine aw_goto (tgt := 39) (aw_d q_Mo_isExtra 7 rfl) (by decide) ?_
    exact aw_zret (aw_d q_Mo_isExtra 21 rfl) rfl (nB) (⟨by rw [if_same (q := (k.toInt = 3 ∧ 0 ≤ e.toInt ∧ e.toInt ≤ 675) ∨ (k.toInt = 4 ∧ 0 ≤ e.toInt ∧ e.toInt ≤ 3) ∨ (k.toInt ≠ 3 ∧ k.toInt ≠ 4 ∧ e.toInt = 0)) (by omega)], rfl⟩)
set_option maxRecDepth 20000 in
theorem lp_Mo_term {g : aw_G} {S : aw_S} {n z : Nat} {k e : Int32} {post : Option Value → aw_hp → Prop} (hz : z ≤ 20) (K : ∀ (A : Nat → Int32) (x4 : Option Value), (∀ i, i < z → A i = S.2 34 i) → AW g M_Mo_term (aw_rm 3 66 0 0) (aw_F g 0 0 post) 57 [some (.ref 33), some (.int k), some (.int e), some (.int (nI n)), x4] [] (HP (sa (si (si S 3300 (nI 0)) 3334 (nI z)) 54 A)) 0 0) : ∀ (m a : Nat) (A : Nat → Int32), m + a = z → (∀ i, i < a → A i = S.2 34 i) → AW g M_Mo_term (aw_rm 3 66 0 0) (aw_F g 0 0 (post)) 28 [some (.ref 33), some (.int k), some (.int e), some (.int (nI n)), some (.int (nI a))] [] (HP (sa (si (si S 3300 (nI 0)) 3334 (nI z)) 54 A)) 0 0 := by
  intro m
  induction m with
  | zero =>
    intro a A hk e1
    refine aw_iload (aw_d q_Mo_term 16 rfl) rfl ?_
    refine aw_aload_n (aw_d q_Mo_term 17 rfl) rfl rfl rfl ?_
    refine aw_getf (v := .int (nI (z))) (aw_d q_Mo_term 18 rfl) fL_Mo_93_Mo rfl (gk rfl) ?_
    refine aw_icmpN_ge (tgt := 57) (aw_d q_Mo_term 19 rfl) (by decide) (by omega) (by omega) (fun c34 => ?_) (fun c34 => by exfalso; omega)
    exact K A _ (fun i hi => e1 i (by omega))
  | succ m ih =>
    intro a A hk e1
    refine aw_iload (aw_d q_Mo_term 16 rfl) rfl ?_
    refine aw_aload_n (aw_d q_Mo_term 17 rfl) rfl rfl rfl ?_
    refine aw_getf (v := .int (nI (z))) (aw_d q_Mo_term 18 rfl) fL_Mo_93_Mo rfl (gk rfl) ?_
    refine aw_icmpN_ge (tgt := 57) (aw_d q_Mo_term 19 rfl) (by decide) (by omega) (by omega) (fun c34 => by exfalso; omega) (fun c34 => ?_)
    refine aw_aload_n (aw_d q_Mo_term 20 rfl) rfl rfl rfl ?_
    refine aw_getf (aw_d q_Mo_term 21 rfl) fL_Mo_71_Mo rfl rfl ?_
    refine aw_iload (aw_d q_Mo_term 22 rfl) rfl ?_
    refine aw_aload_n (aw_d q_Mo_term 23 rfl) rfl rfl rfl ?_
    refine aw_getf (aw_d q_Mo_term 24 rfl) fL_Mo_7_Mo rfl rfl ?_
    refine aw_iload (aw_d q_Mo_term 25 rfl) rfl ?_
    refine aw_ialdN (aw_d q_Mo_term 26 rfl) rfl (by omega) rfl ?_
    refine wn_54 (aw_d q_Mo_term 27 rfl) (by omega) ?_
    refine aw_iinc (aw_d q_Mo_term 28 rfl) rfl (ii1 _) (aw_le rfl) rfl ?_
    refine aw_goto (tgt := 28) (aw_d q_Mo_term 29 rfl) (by decide) ?_
    refine AW.to (ih (a + 1) (upd A a (S.2 34 a)) (by omega) (fun i hi => ?_)) rfl rfl rfl rfl
    by_cases hia : i = a
    · rw [hia]; exact pk_us
    · rw [pk_un hia]; exact e1 i (by omega)
theorem k_4 {k : Int32} (h : 0 ≤ k.toInt ∧ k.toInt ≤ 4) : ∃ kd : Nat, kd ≤ 4 ∧ k = nI kd := ⟨k.toInt.toNat, by omega, by rw [← Int32.toInt_inj, nI_toInt (by omega)]; omega⟩
set_option maxRecDepth 20000 in
theorem sp_Mo_termB {g : aw_G} {S : aw_S} {n : Nat} (hn : S.1 3300 = nI n) (h3 : n ≤ 3000) {k e : Int32} (hbad : ¬ ((0 ≤ k.toInt ∧ k.toInt ≤ 4) ∧ ((k.toInt = 3 ∧ 0 ≤ e.toInt ∧ e.toInt ≤ 675) ∨ (k.toInt = 4 ∧ 0 ≤ e.toInt ∧ e.toInt ≤ 3) ∨ (k.toInt ≠ 3 ∧ k.toInt ≠ 4 ∧ e.toInt = 0)) ∧ n ≤ 20 ∧ okM k.toNatClampNeg (S.2 34) n = true)) : Sp g M_Mo_term 3 66 0 0 [.ref 33, .int k, .int e] (HP S) (fun r h => r = some (.int (-1)) ∧ ∃ (z : Nat) (A : Nat → Int32), h = HP (sa (si (si S 3300 (nI 0)) 3334 (nI z)) 54 A) ∧ z ≤ 20) := by
  refine Sp.of rfl (aw_le rfl) ?_
  refine aw_aload_n (aw_d q_Mo_term 0 rfl) rfl rfl rfl ?_
  refine aw_getf (v := .int (nI (n))) (aw_d q_Mo_term 1 rfl) fL_Mo_85_Mo rfl (gk hn) ?_
  refine aw_istore_n (aw_d q_Mo_term 2 rfl) rfl (aw_le rfl) rfl ?_
  refine aw_aload_n (aw_d q_Mo_term 3 rfl) rfl rfl rfl ?_
  refine aw_iconst (v := nI 0) (aw_d q_Mo_term 4 rfl) (by decide) ?_
  refine wi_33_0 (aw_d q_Mo_term 5 rfl) pL_Mo_85_Mo ?_
  refine aw_aload_n (aw_d q_Mo_term 6 rfl) rfl rfl rfl ?_
  refine aw_iload_n (aw_d q_Mo_term 7 rfl) rfl rfl ?_
  refine aw_bipush (v := nI 20) (aw_d q_Mo_term 8 rfl) (by decide) ?_
  refine aw_icmpN_gt (tgt := 21) (aw_d q_Mo_term 9 rfl) (by decide) (by omega) (by omega) (fun c14 => ?_) (fun c14 => ?_)
  · refine aw_iconst (v := nI 0) (aw_d q_Mo_term 12 rfl) (by decide) ?_
    refine wi_33_34 (aw_d q_Mo_term 13 rfl) pL_Mo_93_Mo ?_
    refine aw_iconst (v := nI 0) (aw_d q_Mo_term 14 rfl) (by decide) ?_
    refine aw_istore (aw_d q_Mo_term 15 rfl) (aw_le rfl) rfl ?_
    refine AW.to (lp_Mo_term (z := 0) (n := n) (by omega) (fun A x4 hE => ?_) 0 0 (S.2 54) (by omega) (fun i hi => by omega)) rfl rfl rfl rfl
    refine aw_iload_n (aw_d q_Mo_term 30 rfl) rfl rfl ?_
    refine aw_iconst (v := nI 0) (aw_d q_Mo_term 31 rfl) (by decide) ?_
    refine aw_iconst (v := nI 4) (aw_d q_Mo_term 32 rfl) (by decide) ?_
    refine cSr (aw_d q_Mo_term 33 rfl) (sp_Mo_in (A := 0) (B := 4) (by decide) (by decide)) sL_Mo_81 rfl rfl rfl rfl ⟨aw_le rfl, aw_le rfl⟩ ?_
    refine aw_ifB_eq (tgt := 88) (aw_d q_Mo_term 34 rfl) (by decide) (fun c63 => ?_) (fun c63 => ?_)
    · refine aw_iconst (v := (-1)) (aw_d q_Mo_term 46 rfl) (by decide) ?_
      exact aw_iret (aw_d q_Mo_term 47 rfl) rfl (⟨rfl, _, A, rfl, by omega⟩)
    · obtain ⟨kd, hkd, rfl⟩ := k_4 c63
      have hki := nI_toInt (n := kd) (by omega)
      refine aw_iload_n (aw_d q_Mo_term 35 rfl) rfl rfl ?_
      refine aw_iload_n (aw_d q_Mo_term 36 rfl) rfl rfl ?_
      refine cSr (aw_d q_Mo_term 37 rfl) (sp_Mo_isExtra) sL_Mo_116 rfl rfl rfl rfl ⟨aw_le rfl, aw_le rfl⟩ ?_
      refine aw_ifB_eq (tgt := 88) (aw_d q_Mo_term 38 rfl) (by decide) (fun c71 => ?_) (fun c71 => ?_)
      · refine aw_iconst (v := (-1)) (aw_d q_Mo_term 46 rfl) (by decide) ?_
        exact aw_iret (aw_d q_Mo_term 47 rfl) rfl (⟨rfl, _, A, rfl, by omega⟩)
      · refine aw_iload_n (aw_d q_Mo_term 39 rfl) rfl rfl ?_
        refine aw_bipush (v := nI 20) (aw_d q_Mo_term 40 rfl) (by decide) ?_
        refine aw_icmpN_gt (tgt := 88) (aw_d q_Mo_term 41 rfl) (by decide) (by omega) (by omega) (fun c77 => ?_) (fun c77 => by exfalso; omega)
        refine aw_iconst (v := (-1)) (aw_d q_Mo_term 46 rfl) (by decide) ?_
        exact aw_iret (aw_d q_Mo_term 47 rfl) rfl (⟨rfl, _, A, rfl, by omega⟩)
  · refine aw_iload_n (aw_d q_Mo_term 10 rfl) rfl rfl ?_
    refine aw_goto (tgt := 22) (aw_d q_Mo_term 11 rfl) (by decide) ?_
    refine wi_33_34 (aw_d q_Mo_term 13 rfl) pL_Mo_93_Mo ?_
    refine aw_iconst (v := nI 0) (aw_d q_Mo_term 14 rfl) (by decide) ?_
    refine aw_istore (aw_d q_Mo_term 15 rfl) (aw_le rfl) rfl ?_
    refine AW.to (lp_Mo_term (z := n) (n := n) (by omega) (fun A x4 hE => ?_) n 0 (S.2 54) (by omega) (fun i hi => by omega)) rfl rfl rfl rfl
    refine aw_iload_n (aw_d q_Mo_term 30 rfl) rfl rfl ?_
    refine aw_iconst (v := nI 0) (aw_d q_Mo_term 31 rfl) (by decide) ?_
    refine aw_iconst (v := nI 4) (aw_d q_Mo_term 32 rfl) (by decide) ?_
    refine cSr (aw_d q_Mo_term 33 rfl) (sp_Mo_in (A := 0) (B := 4) (by decide) (by decide)) sL_Mo_81 rfl rfl rfl rfl ⟨aw_le rfl, aw_le rfl⟩ ?_
    refine aw_ifB_eq (tgt := 88) (aw_d q_Mo_term 34 rfl) (by decide) (fun c63 => ?_) (fun c63 => ?_)
    · refine aw_iconst (v := (-1)) (aw_d q_Mo_term 46 rfl) (by decide) ?_
      exact aw_iret (aw_d q_Mo_term 47 rfl) rfl (⟨rfl, _, A, rfl, by omega⟩)
    · obtain ⟨kd, hkd, rfl⟩ := k_4 c63
      have hki := nI_toInt (n := kd) (by omega)
      refine aw_iload_n (aw_d q_Mo_term 35 rfl) rfl rfl ?_
      refine aw_iload_n (aw_d q_Mo_term 36 rfl) rfl rfl ?_
      refine cSr (aw_d q_Mo_term 37 rfl) (sp_Mo_isExtra) sL_Mo_116 rfl rfl rfl rfl ⟨aw_le rfl, aw_le rfl⟩ ?_
      refine aw_ifB_eq (tgt := 88) (aw_d q_Mo_term 38 rfl) (by decide) (fun c71 => ?_) (fun c71 => ?_)
      · refine aw_iconst (v := (-1)) (aw_d q_Mo_term 46 rfl) (by decide) ?_
        exact aw_iret (aw_d q_Mo_term 47 rfl) rfl (⟨rfl, _, A, rfl, by omega⟩)
      · refine aw_iload_n (aw_d q_Mo_term 39 rfl) rfl rfl ?_
        refine aw_bipush (v := nI 20) (aw_d q_Mo_term 40 rfl) (by decide) ?_
        refine aw_icmpN_gt (tgt := 88) (aw_d q_Mo_term 41 rfl) (by decide) (by omega) (by omega) (fun c77 => ?_) (fun c77 => ?_)
        · refine aw_iconst (v := (-1)) (aw_d q_Mo_term 46 rfl) (by decide) ?_
          exact aw_iret (aw_d q_Mo_term 47 rfl) rfl (⟨rfl, _, A, rfl, by omega⟩)
        · refine aw_aload_n (aw_d q_Mo_term 42 rfl) rfl rfl rfl ?_
          refine aw_iload_n (aw_d q_Mo_term 43 rfl) rfl rfl ?_
          refine cVr (aw_d q_Mo_term 44 rfl) (sp_Mo_isOfKind (n := n) (kd := kd) rfl c77 hkd) vL_Mo_120_Mo rfl rfl rfl rfl rfl rfl ⟨aw_le rfl, aw_le rfl⟩ ?_
          refine aw_ifB_ne (tgt := 90) (aw_d q_Mo_term 45 rfl) (by decide) (fun c85 => by exact absurd ⟨c63, c71, c77, by rw [nI_clamp (by omega)]; exact (okM_congr (fun i hi => (hE i hi).symm)).trans c85⟩ hbad) (fun c85 => ?_)
          refine aw_iconst (v := (-1)) (aw_d q_Mo_term 46 rfl) (by decide) ?_
          exact aw_iret (aw_d q_Mo_term 47 rfl) rfl (⟨rfl, _, A, rfl, by omega⟩)
set_option maxRecDepth 20000 in
theorem sp_Mo_termS {g : aw_G} {S : aw_S} {n : Nat} (hn : S.1 3300 = nI n) (h3 : n ≤ 3000) {nt : Nat} {tl : Nat → Nat} (hT : TmI S nt tl) {kd : Nat} {e : Int32} (hkd : kd ≤ 4) (h20 : n ≤ 20) (hex : exB (nI kd) e = true) (hok : okM kd (S.2 34) n = true) {t : Nat} (hf : fdB (tmB (S.2 37) (S.2 38) (S.2 39) (S.2 40) (nI kd) e n (S.2 34)) nt 0 = some t) : Sp g M_Mo_term 3 66 0 0 [.ref 33, .int (nI kd), .int e] (HP S) (fun r h => r = some (.int (nI t)) ∧ ∃ A : Nat → Int32, h = HP (sa (si (si S 3300 (nI 0)) 3334 (nI n)) 54 A)) := by
  refine Sp.of rfl (aw_le rfl) ?_
  have hki := nI_toInt (n := kd) (by omega)
  have hxx := exB_iff.mp hex
  have htn := fdB_some hf
  refine aw_aload_n (aw_d q_Mo_term 0 rfl) rfl rfl rfl ?_
  refine aw_getf (v := .int (nI (n))) (aw_d q_Mo_term 1 rfl) fL_Mo_85_Mo rfl (gk hn) ?_
  refine aw_istore_n (aw_d q_Mo_term 2 rfl) rfl (aw_le rfl) rfl ?_
  refine aw_aload_n (aw_d q_Mo_term 3 rfl) rfl rfl rfl ?_
  refine aw_iconst (v := nI 0) (aw_d q_Mo_term 4 rfl) (by decide) ?_
  refine wi_33_0 (aw_d q_Mo_term 5 rfl) pL_Mo_85_Mo ?_
  refine aw_aload_n (aw_d q_Mo_term 6 rfl) rfl rfl rfl ?_
  refine aw_iload_n (aw_d q_Mo_term 7 rfl) rfl rfl ?_
  refine aw_bipush (v := nI 20) (aw_d q_Mo_term 8 rfl) (by decide) ?_
  refine aw_icmpN_gt (tgt := 21) (aw_d q_Mo_term 9 rfl) (by decide) (by omega) (by omega) (fun c14 => by exfalso; omega) (fun c14 => ?_)
  refine aw_iload_n (aw_d q_Mo_term 10 rfl) rfl rfl ?_
  refine aw_goto (tgt := 22) (aw_d q_Mo_term 11 rfl) (by decide) ?_
  refine wi_33_34 (aw_d q_Mo_term 13 rfl) pL_Mo_93_Mo ?_
  refine aw_iconst (v := nI 0) (aw_d q_Mo_term 14 rfl) (by decide) ?_
  refine aw_istore (aw_d q_Mo_term 15 rfl) (aw_le rfl) rfl ?_
  refine AW.to (lp_Mo_term (z := n) (n := n) h20 (fun A x4 hE => ?_) n 0 (S.2 54) (by omega) (fun i hi => by omega)) rfl rfl rfl rfl
  refine aw_iload_n (aw_d q_Mo_term 30 rfl) rfl rfl ?_
  refine aw_iconst (v := nI 0) (aw_d q_Mo_term 31 rfl) (by decide) ?_
  refine aw_iconst (v := nI 4) (aw_d q_Mo_term 32 rfl) (by decide) ?_
  refine cSr (aw_d q_Mo_term 33 rfl) (sp_Mo_in (A := 0) (B := 4) (by decide) (by decide)) sL_Mo_81 rfl rfl rfl rfl ⟨aw_le rfl, aw_le rfl⟩ ?_
  refine aw_ifB_eq (tgt := 88) (aw_d q_Mo_term 34 rfl) (by decide) (fun c63 => by omega) (fun c63 => ?_)
  refine aw_iload_n (aw_d q_Mo_term 35 rfl) rfl rfl ?_
  refine aw_iload_n (aw_d q_Mo_term 36 rfl) rfl rfl ?_
  refine cSr (aw_d q_Mo_term 37 rfl) (sp_Mo_isExtra) sL_Mo_116 rfl rfl rfl rfl ⟨aw_le rfl, aw_le rfl⟩ ?_
  refine aw_ifB_eq (tgt := 88) (aw_d q_Mo_term 38 rfl) (by decide) (fun c71 => by omega) (fun c71 => ?_)
  refine aw_iload_n (aw_d q_Mo_term 39 rfl) rfl rfl ?_
  refine aw_bipush (v := nI 20) (aw_d q_Mo_term 40 rfl) (by decide) ?_
  refine aw_icmpN_gt (tgt := 88) (aw_d q_Mo_term 41 rfl) (by decide) (by (have hT2 := hT.2.1; omega)) (by (have hT2 := hT.2.1; omega)) (fun c77 => by exfalso; (have hT2 := hT.2.1; omega)) (fun c77 => ?_)
  refine aw_aload_n (aw_d q_Mo_term 42 rfl) rfl rfl rfl ?_
  refine aw_iload_n (aw_d q_Mo_term 43 rfl) rfl rfl ?_
  refine cVr (aw_d q_Mo_term 44 rfl) (sp_Mo_isOfKind (n := n) (kd := kd) rfl h20 hkd) vL_Mo_120_Mo rfl rfl rfl rfl rfl rfl ⟨aw_le rfl, aw_le rfl⟩ ?_
  refine aw_ifB_ne (tgt := 90) (aw_d q_Mo_term 45 rfl) (by decide) (fun c85 => ?_) (fun c85 => by exact absurd ((okM_congr hE).trans hok) c85)
  refine aw_aload_n (aw_d q_Mo_term 48 rfl) rfl rfl rfl ?_
  refine aw_iload_n (aw_d q_Mo_term 49 rfl) rfl rfl ?_
  refine aw_iload_n (aw_d q_Mo_term 50 rfl) rfl rfl ?_
  refine cVr (aw_d q_Mo_term 51 rfl) (sp_Mo_findS (t := t) (show TmI (sa (si (si S 3300 (nI 0)) 3334 (nI n)) 54 A) nt tl from hT) (n := n) rfl h20 ((congrArg (fun p => fdB p nt 0) (tmB_congr hE)).trans hf)) vL_Mo_112_Mo rfl rfl rfl rfl rfl rfl ⟨aw_le rfl, aw_le rfl⟩ ?_
  refine aw_bipush (v := nI 60) (aw_d q_Mo_term 52 rfl) (by decide) ?_
  refine aw_icmpN_ne (tgt := 106) (aw_d q_Mo_term 53 rfl) (by decide) (by (have hT2 := hT.2.1; omega)) (by (have hT2 := hT.2.1; omega)) (fun c98 => ?_) (fun c98 => by exfalso; (have hT2 := hT.2.1; omega))
  refine aw_aload_n (aw_d q_Mo_term 56 rfl) rfl rfl rfl ?_
  refine aw_iload_n (aw_d q_Mo_term 57 rfl) rfl rfl ?_
  refine aw_iload_n (aw_d q_Mo_term 58 rfl) rfl rfl ?_
  refine cVr (aw_d q_Mo_term 59 rfl) (sp_Mo_noteS (t := t) (show TmI (sa (si (si S 3300 (nI 0)) 3334 (nI n)) 54 A) nt tl from hT) (n := n) rfl h20 ((congrArg (fun p => fdB p nt 0) (tmB_congr hE)).trans hf)) vL_Mo_123_Mo rfl rfl rfl rfl rfl rfl ⟨aw_le rfl, aw_le rfl⟩ ?_
  exact aw_iret (aw_d q_Mo_term 60 rfl) rfl (⟨rfl, A, rfl⟩)
set_option maxRecDepth 20000 in
theorem sp_Mo_termF {g : aw_G} {S : aw_S} {n : Nat} (hn : S.1 3300 = nI n) (h3 : n ≤ 3000) {nt : Nat} {tl : Nat → Nat} (hT : TmI S nt tl) {kd : Nat} {e : Int32} (hkd : kd ≤ 4) (h20 : n ≤ 20) (hex : exB (nI kd) e = true) (hok : okM kd (S.2 34) n = true) (hf : fdB (tmB (S.2 37) (S.2 38) (S.2 39) (S.2 40) (nI kd) e n (S.2 34)) nt 0 = none) (h60 : nt = 60) : Sp g M_Mo_term 3 66 0 0 [.ref 33, .int (nI kd), .int e] (HP S) (fun r h => r = some (.int (-3)) ∧ ∃ A : Nat → Int32, h = HP (sa (si (si S 3300 (nI 0)) 3334 (nI n)) 54 A)) := by
  refine Sp.of rfl (aw_le rfl) ?_
  have hki := nI_toInt (n := kd) (by omega)
  have hxx := exB_iff.mp hex
  refine aw_aload_n (aw_d q_Mo_term 0 rfl) rfl rfl rfl ?_
  refine aw_getf (v := .int (nI (n))) (aw_d q_Mo_term 1 rfl) fL_Mo_85_Mo rfl (gk hn) ?_
  refine aw_istore_n (aw_d q_Mo_term 2 rfl) rfl (aw_le rfl) rfl ?_
  refine aw_aload_n (aw_d q_Mo_term 3 rfl) rfl rfl rfl ?_
  refine aw_iconst (v := nI 0) (aw_d q_Mo_term 4 rfl) (by decide) ?_
  refine wi_33_0 (aw_d q_Mo_term 5 rfl) pL_Mo_85_Mo ?_
  refine aw_aload_n (aw_d q_Mo_term 6 rfl) rfl rfl rfl ?_
  refine aw_iload_n (aw_d q_Mo_term 7 rfl) rfl rfl ?_
  refine aw_bipush (v := nI 20) (aw_d q_Mo_term 8 rfl) (by decide) ?_
  refine aw_icmpN_gt (tgt := 21) (aw_d q_Mo_term 9 rfl) (by decide) (by omega) (by omega) (fun c14 => by exfalso; omega) (fun c14 => ?_)
  refine aw_iload_n (aw_d q_Mo_term 10 rfl) rfl rfl ?_
  refine aw_goto (tgt := 22) (aw_d q_Mo_term 11 rfl) (by decide) ?_
  refine wi_33_34 (aw_d q_Mo_term 13 rfl) pL_Mo_93_Mo ?_
  refine aw_iconst (v := nI 0) (aw_d q_Mo_term 14 rfl) (by decide) ?_
  refine aw_istore (aw_d q_Mo_term 15 rfl) (aw_le rfl) rfl ?_
  refine AW.to (lp_Mo_term (z := n) (n := n) h20 (fun A x4 hE => ?_) n 0 (S.2 54) (by omega) (fun i hi => by omega)) rfl rfl rfl rfl
  refine aw_iload_n (aw_d q_Mo_term 30 rfl) rfl rfl ?_
  refine aw_iconst (v := nI 0) (aw_d q_Mo_term 31 rfl) (by decide) ?_
  refine aw_iconst (v := nI 4) (aw_d q_Mo_term 32 rfl) (by decide) ?_
  refine cSr (aw_d q_Mo_term 33 rfl) (sp_Mo_in (A := 0) (B := 4) (by decide) (by decide)) sL_Mo_81 rfl rfl rfl rfl ⟨aw_le rfl, aw_le rfl⟩ ?_
  refine aw_ifB_eq (tgt := 88) (aw_d q_Mo_term 34 rfl) (by decide) (fun c63 => by omega) (fun c63 => ?_)
  refine aw_iload_n (aw_d q_Mo_term 35 rfl) rfl rfl ?_
  refine aw_iload_n (aw_d q_Mo_term 36 rfl) rfl rfl ?_
  refine cSr (aw_d q_Mo_term 37 rfl) (sp_Mo_isExtra) sL_Mo_116 rfl rfl rfl rfl ⟨aw_le rfl, aw_le rfl⟩ ?_
  refine aw_ifB_eq (tgt := 88) (aw_d q_Mo_term 38 rfl) (by decide) (fun c71 => by omega) (fun c71 => ?_)
  refine aw_iload_n (aw_d q_Mo_term 39 rfl) rfl rfl ?_
  refine aw_bipush (v := nI 20) (aw_d q_Mo_term 40 rfl) (by decide) ?_
  refine aw_icmpN_gt (tgt := 88) (aw_d q_Mo_term 41 rfl) (by decide) (by (have hT2 := hT.2.1; omega)) (by (have hT2 := hT.2.1; omega)) (fun c77 => by exfalso; (have hT2 := hT.2.1; omega)) (fun c77 => ?_)
  refine aw_aload_n (aw_d q_Mo_term 42 rfl) rfl rfl rfl ?_
  refine aw_iload_n (aw_d q_Mo_term 43 rfl) rfl rfl ?_
  refine cVr (aw_d q_Mo_term 44 rfl) (sp_Mo_isOfKind (n := n) (kd := kd) rfl h20 hkd) vL_Mo_120_Mo rfl rfl rfl rfl rfl rfl ⟨aw_le rfl, aw_le rfl⟩ ?_
  refine aw_ifB_ne (tgt := 90) (aw_d q_Mo_term 45 rfl) (by decide) (fun c85 => ?_) (fun c85 => by exact absurd ((okM_congr hE).trans hok) c85)
  refine aw_aload_n (aw_d q_Mo_term 48 rfl) rfl rfl rfl ?_
  refine aw_iload_n (aw_d q_Mo_term 49 rfl) rfl rfl ?_
  refine aw_iload_n (aw_d q_Mo_term 50 rfl) rfl rfl ?_
  refine cVr (aw_d q_Mo_term 51 rfl) (sp_Mo_findN (show TmI (sa (si (si S 3300 (nI 0)) 3334 (nI n)) 54 A) nt tl from hT) (n := n) rfl h20 ((congrArg (fun p => fdB p nt 0) (tmB_congr hE)).trans hf)) vL_Mo_112_Mo rfl rfl rfl rfl rfl rfl ⟨aw_le rfl, aw_le rfl⟩ ?_
  refine aw_bipush (v := nI 60) (aw_d q_Mo_term 52 rfl) (by decide) ?_
  refine aw_icmpN_ne (tgt := 106) (aw_d q_Mo_term 53 rfl) (by decide) (by (have hT2 := hT.2.1; omega)) (by (have hT2 := hT.2.1; omega)) (fun c98 => by exfalso; (have hT2 := hT.2.1; omega)) (fun c98 => ?_)
  refine aw_bipush (v := (-3)) (aw_d q_Mo_term 54 rfl) (by decide) ?_
  refine aw_goto (tgt := 112) (aw_d q_Mo_term 55 rfl) (by decide) ?_
  exact aw_iret (aw_d q_Mo_term 60 rfl) rfl (⟨rfl, A, rfl⟩)
set_option maxRecDepth 20000 in
theorem sp_Mo_termN {g : aw_G} {S : aw_S} {n : Nat} (hn : S.1 3300 = nI n) (h3 : n ≤ 3000) {nt : Nat} {tl : Nat → Nat} (hT : TmI S nt tl) {kd : Nat} {e : Int32} (hkd : kd ≤ 4) (h20 : n ≤ 20) (hex : exB (nI kd) e = true) (hok : okM kd (S.2 34) n = true) (hf : fdB (tmB (S.2 37) (S.2 38) (S.2 39) (S.2 40) (nI kd) e n (S.2 34)) nt 0 = none) (h60 : nt < 60) : Sp g M_Mo_term 3 66 0 0 [.ref 33, .int (nI kd), .int e] (HP S) (fun r h => r = some (.int (nI nt)) ∧ ∃ A BD : Nat → Int32, h = HP (si (sa (sa (sa (sa (sa (si (si S 3300 (nI 0)) 3334 (nI n)) 54 A) 37 (upd (S.2 37) nt (nI kd))) 38 (upd (S.2 38) nt e)) 39 (upd (S.2 39) nt (nI n))) 40 BD) 3306 (nI (nt + 1))) ∧ (∀ i, i < n → BD (nt * 20 + i) = S.2 34 i) ∧ ∀ j, j < nt * 20 → BD j = S.2 40 j) := by
  refine Sp.of rfl (aw_le rfl) ?_
  have hki := nI_toInt (n := kd) (by omega)
  have hxx := exB_iff.mp hex
  refine aw_aload_n (aw_d q_Mo_term 0 rfl) rfl rfl rfl ?_
  refine aw_getf (v := .int (nI (n))) (aw_d q_Mo_term 1 rfl) fL_Mo_85_Mo rfl (gk hn) ?_
  refine aw_istore_n (aw_d q_Mo_term 2 rfl) rfl (aw_le rfl) rfl ?_
  refine aw_aload_n (aw_d q_Mo_term 3 rfl) rfl rfl rfl ?_
  refine aw_iconst (v := nI 0) (aw_d q_Mo_term 4 rfl) (by decide) ?_
  refine wi_33_0 (aw_d q_Mo_term 5 rfl) pL_Mo_85_Mo ?_
  refine aw_aload_n (aw_d q_Mo_term 6 rfl) rfl rfl rfl ?_
  refine aw_iload_n (aw_d q_Mo_term 7 rfl) rfl rfl ?_
  refine aw_bipush (v := nI 20) (aw_d q_Mo_term 8 rfl) (by decide) ?_
  refine aw_icmpN_gt (tgt := 21) (aw_d q_Mo_term 9 rfl) (by decide) (by omega) (by omega) (fun c14 => by exfalso; omega) (fun c14 => ?_)
  refine aw_iload_n (aw_d q_Mo_term 10 rfl) rfl rfl ?_
  refine aw_goto (tgt := 22) (aw_d q_Mo_term 11 rfl) (by decide) ?_
  refine wi_33_34 (aw_d q_Mo_term 13 rfl) pL_Mo_93_Mo ?_
  refine aw_iconst (v := nI 0) (aw_d q_Mo_term 14 rfl) (by decide) ?_
  refine aw_istore (aw_d q_Mo_term 15 rfl) (aw_le rfl) rfl ?_
  refine AW.to (lp_Mo_term (z := n) (n := n) h20 (fun A x4 hE => ?_) n 0 (S.2 54) (by omega) (fun i hi => by omega)) rfl rfl rfl rfl
  refine aw_iload_n (aw_d q_Mo_term 30 rfl) rfl rfl ?_
  refine aw_iconst (v := nI 0) (aw_d q_Mo_term 31 rfl) (by decide) ?_
  refine aw_iconst (v := nI 4) (aw_d q_Mo_term 32 rfl) (by decide) ?_
  refine cSr (aw_d q_Mo_term 33 rfl) (sp_Mo_in (A := 0) (B := 4) (by decide) (by decide)) sL_Mo_81 rfl rfl rfl rfl ⟨aw_le rfl, aw_le rfl⟩ ?_
  refine aw_ifB_eq (tgt := 88) (aw_d q_Mo_term 34 rfl) (by decide) (fun c63 => by omega) (fun c63 => ?_)
  refine aw_iload_n (aw_d q_Mo_term 35 rfl) rfl rfl ?_
  refine aw_iload_n (aw_d q_Mo_term 36 rfl) rfl rfl ?_
  refine cSr (aw_d q_Mo_term 37 rfl) (sp_Mo_isExtra) sL_Mo_116 rfl rfl rfl rfl ⟨aw_le rfl, aw_le rfl⟩ ?_
  refine aw_ifB_eq (tgt := 88) (aw_d q_Mo_term 38 rfl) (by decide) (fun c71 => by omega) (fun c71 => ?_)
  refine aw_iload_n (aw_d q_Mo_term 39 rfl) rfl rfl ?_
  refine aw_bipush (v := nI 20) (aw_d q_Mo_term 40 rfl) (by decide) ?_
  refine aw_icmpN_gt (tgt := 88) (aw_d q_Mo_term 41 rfl) (by decide) (by (have hT2 := hT.2.1; omega)) (by (have hT2 := hT.2.1; omega)) (fun c77 => by exfalso; (have hT2 := hT.2.1; omega)) (fun c77 => ?_)
  refine aw_aload_n (aw_d q_Mo_term 42 rfl) rfl rfl rfl ?_
  refine aw_iload_n (aw_d q_Mo_term 43 rfl) rfl rfl ?_
  refine cVr (aw_d q_Mo_term 44 rfl) (sp_Mo_isOfKind (n := n) (kd := kd) rfl h20 hkd) vL_Mo_120_Mo rfl rfl rfl rfl rfl rfl ⟨aw_le rfl, aw_le rfl⟩ ?_
  refine aw_ifB_ne (tgt := 90) (aw_d q_Mo_term 45 rfl) (by decide) (fun c85 => ?_) (fun c85 => by exact absurd ((okM_congr hE).trans hok) c85)
  refine aw_aload_n (aw_d q_Mo_term 48 rfl) rfl rfl rfl ?_
  refine aw_iload_n (aw_d q_Mo_term 49 rfl) rfl rfl ?_
  refine aw_iload_n (aw_d q_Mo_term 50 rfl) rfl rfl ?_
  refine cVr (aw_d q_Mo_term 51 rfl) (sp_Mo_findN (show TmI (sa (si (si S 3300 (nI 0)) 3334 (nI n)) 54 A) nt tl from hT) (n := n) rfl h20 ((congrArg (fun p => fdB p nt 0) (tmB_congr hE)).trans hf)) vL_Mo_112_Mo rfl rfl rfl rfl rfl rfl ⟨aw_le rfl, aw_le rfl⟩ ?_
  refine aw_bipush (v := nI 60) (aw_d q_Mo_term 52 rfl) (by decide) ?_
  refine aw_icmpN_ne (tgt := 106) (aw_d q_Mo_term 53 rfl) (by decide) (by (have hT2 := hT.2.1; omega)) (by (have hT2 := hT.2.1; omega)) (fun c98 => ?_) (fun c98 => by exfalso; (have hT2 := hT.2.1; omega))
  refine aw_aload_n (aw_d q_Mo_term 56 rfl) rfl rfl rfl ?_
  refine aw_iload_n (aw_d q_Mo_term 57 rfl) rfl rfl ?_
  refine aw_iload_n (aw_d q_Mo_term 58 rfl) rfl rfl ?_
  refine cV (aw_d q_Mo_term 59 rfl) (sp_Mo_noteN (show TmI (sa (si (si S 3300 (nI 0)) 3334 (nI n)) 54 A) nt tl from hT) (n := n) rfl h20 ((congrArg (fun p => fdB p nt 0) (tmB_congr hE)).trans hf)) vL_Mo_123_Mo rfl rfl rfl rfl rfl rfl ⟨aw_le rfl, aw_le rfl⟩ (fun r109 h109 hp109 => ?_)
  obtain ⟨rfl, BD, rfl, e1, e2⟩ := hp109
  exact aw_iret (aw_d q_Mo_term 60 rfl) rfl (⟨rfl, A, BD, rfl, fun i hi => (e1 i hi).trans (hE i hi), e2⟩)
set_option maxRecDepth 20000 in
theorem sp_Mo_ofB {g : aw_G} {S : aw_S} {nt : Nat} {tl : Nat → Nat} (hT : TmI S nt tl) {x y : Int32} (hx : ¬ (0 ≤ x.toInt ∧ x.toInt < nt)) : Sp g M_Mo_of 1 22 0 0 [.ref 33, .int x, .int y] (HP S) (fun r h => r = some (.int (-1)) ∧ h = HP S) := by
  refine Sp.of rfl (aw_le rfl) ?_
  refine aw_iload_n (aw_d q_Mo_of 0 rfl) rfl rfl ?_
  refine aw_iconst (v := nI 0) (aw_d q_Mo_of 1 rfl) (by decide) ?_
  refine aw_aload_n (aw_d q_Mo_of 2 rfl) rfl rfl rfl ?_
  refine aw_getf (v := .int (nI (nt))) (aw_d q_Mo_of 3 rfl) fL_Mo_109_Mo rfl (gk hT.1) ?_
  refine aw_iconst (v := nI 1) (aw_d q_Mo_of 4 rfl) (by decide) ?_
  refine aw_isub (aw_d q_Mo_of 5 rfl) ?_
  refine cSr (aw_d q_Mo_of 6 rfl) (sp_Mo_in (A := 0) (B := ((nt : Int) - 1)) (by decide) (dn_int (by (have hT2 := hT.2.1; omega)))) sL_Mo_81 rfl rfl rfl rfl ⟨aw_le rfl, aw_le rfl⟩ ?_
  refine aw_ifB_eq (tgt := 18) (aw_d q_Mo_of 7 rfl) (by decide) (fun c11 => ?_) (fun c11 => by omega)
  refine aw_iconst (v := (-1)) (aw_d q_Mo_of 10 rfl) (by decide) ?_
  exact aw_iret (aw_d q_Mo_of 11 rfl) rfl (⟨rfl, rfl⟩)
set_option maxRecDepth 20000 in
theorem sp_Mo_of {g : aw_G} {S : aw_S} {nt : Nat} {tl : Nat → Nat} (hT : TmI S nt tl) {t : Nat} (ht : t < nt) {y : Int32} : Sp g M_Mo_of 1 22 0 0 [.ref 33, .int (nI t), .int y] (HP S) (fun r h => r = some (.int (if y.toInt = 0 then S.2 37 t else if y.toInt = 1 then S.2 38 t else if y.toInt = 2 then nI (tl t) else if 3 ≤ y.toInt ∧ y.toInt - 3 < tl t then S.2 40 (t * 20 + (y.toInt - 3).toNat) else -1)) ∧ h = HP S) := by
  refine Sp.of rfl (aw_le rfl) ?_
  have hti := nI_toInt (n := t) (by (have hT2 := hT.2.1; have hT3 := (hT.2.2 t ht).2; omega))
  have hyl := y.toInt_lt
  refine aw_iload_n (aw_d q_Mo_of 0 rfl) rfl rfl ?_
  refine aw_iconst (v := nI 0) (aw_d q_Mo_of 1 rfl) (by decide) ?_
  refine aw_aload_n (aw_d q_Mo_of 2 rfl) rfl rfl rfl ?_
  refine aw_getf (v := .int (nI (nt))) (aw_d q_Mo_of 3 rfl) fL_Mo_109_Mo rfl (gk hT.1) ?_
  refine aw_iconst (v := nI 1) (aw_d q_Mo_of 4 rfl) (by decide) ?_
  refine aw_isub (aw_d q_Mo_of 5 rfl) ?_
  refine cSr (aw_d q_Mo_of 6 rfl) (sp_Mo_in (A := 0) (B := ((nt : Int) - 1)) (by decide) (dn_int (by (have hT2 := hT.2.1; have hT3 := (hT.2.2 t ht).2; omega)))) sL_Mo_81 rfl rfl rfl rfl ⟨aw_le rfl, aw_le rfl⟩ ?_
  refine aw_ifB_eq (tgt := 18) (aw_d q_Mo_of 7 rfl) (by decide) (fun c11 => by omega) (fun c11 => ?_)
  refine aw_iload_n (aw_d q_Mo_of 8 rfl) rfl rfl ?_
  refine aw_ifI_ge (tgt := 20) (aw_d q_Mo_of 9 rfl) (by decide) (fun c15 => ?_) (fun c15 => ?_)
  · refine aw_iload_n (aw_d q_Mo_of 12 rfl) rfl rfl ?_
    rcases (show (2 : Int) < y.toInt ∨ y.toInt = 0 ∨ y.toInt = 1 ∨ y.toInt = 2 by (have hT2 := hT.2.1; have hT3 := (hT.2.2 t ht).2; omega)) with hsw | hsw | hsw | hsw
    · refine aw_tableOut (tgt := 69) (aw_d q_Mo_of 13 rfl) (Or.inr hsw) (by decide) ?_
      have hy3 : y - nI 3 = nI (y.toInt - 3).toNat := sub_nI (by decide) (by omega)
      have hyn : y = nI y.toInt.toNat := by rw [← Int32.toInt_inj, nI_toInt (by omega)]; omega
      refine aw_iload_n (aw_d q_Mo_of 29 rfl) rfl rfl ?_
      refine aw_iconst (v := nI 3) (aw_d q_Mo_of 30 rfl) (by decide) ?_
      refine aw_isub (aw_d q_Mo_of 31 rfl) ?_
      rw [hy3]
      refine aw_aload_n (aw_d q_Mo_of 32 rfl) rfl rfl rfl ?_
      refine aw_getf (aw_d q_Mo_of 33 rfl) fL_Mo_25_Mo rfl rfl ?_
      refine aw_iload_n (aw_d q_Mo_of 34 rfl) rfl rfl ?_
      refine aw_ialdK (w := nI (tl t)) (aw_d q_Mo_of 35 rfl) rfl (by (have hT2 := hT.2.1; have hT3 := (hT.2.2 t ht).2; omega)) rfl ((hT.2.2 t ht).1) ?_
      refine aw_icmpN_ge (tgt := 97) (aw_d q_Mo_of 36 rfl) (by decide) (by (have hT2 := hT.2.1; have hT3 := (hT.2.2 t ht).2; omega)) (by (have hT2 := hT.2.1; have hT3 := (hT.2.2 t ht).2; omega)) (fun c78 => ?_) (fun c78 => ?_)
      · refine aw_iconst (v := (-1)) (aw_d q_Mo_of 48 rfl) (by decide) ?_
        exact aw_iret (aw_d q_Mo_of 49 rfl) rfl (⟨by first | (rw [if_neg (by omega)]; done) | (rw [if_pos hsw]; done) | (rw [if_neg (by omega), if_pos hsw]; done) | (rw [if_neg (by omega), if_neg (by omega), if_pos hsw]; done) | (rw [if_neg (by omega), if_neg (by omega), if_neg (by omega), if_pos (by omega), show 20 * t + y.toInt.toNat - 3 = t * 20 + (y.toInt - 3).toNat by omega]; done) | (rw [if_neg (by omega), if_neg (by omega), if_neg (by omega), if_neg (by omega)]; done), rfl⟩)
      · refine aw_aload_n (aw_d q_Mo_of 37 rfl) rfl rfl rfl ?_
        refine aw_getf (aw_d q_Mo_of 38 rfl) fL_Mo_28_Mo rfl rfl ?_
        refine aw_bipush (v := nI 20) (aw_d q_Mo_of 39 rfl) (by decide) ?_
        refine aw_iload_n (aw_d q_Mo_of 40 rfl) rfl rfl ?_
        refine aw_imulN (aw_d q_Mo_of 41 rfl) ?_
        refine aw_iload_n (aw_d q_Mo_of 42 rfl) rfl rfl ?_
        conv in (occs := *) Value.int y => all_goals rw [hyn]
        refine aw_iaddN (aw_d q_Mo_of 43 rfl) ?_
        refine aw_iconst (v := nI 3) (aw_d q_Mo_of 44 rfl) (by decide) ?_
        refine aw_isubN (aw_d q_Mo_of 45 rfl) (by (have hT2 := hT.2.1; have hT3 := (hT.2.2 t ht).2; omega)) ?_
        refine aw_ialdN (aw_d q_Mo_of 46 rfl) rfl (by (have hT2 := hT.2.1; have hT3 := (hT.2.2 t ht).2; omega)) rfl ?_
        refine aw_goto (tgt := 98) (aw_d q_Mo_of 47 rfl) (by decide) ?_
        exact aw_iret (aw_d q_Mo_of 49 rfl) rfl (⟨by first | (rw [if_neg (by omega)]; done) | (rw [if_pos hsw]; done) | (rw [if_neg (by omega), if_pos hsw]; done) | (rw [if_neg (by omega), if_neg (by omega), if_pos hsw]; done) | (rw [if_neg (by omega), if_neg (by omega), if_neg (by omega), if_pos (by omega), show 20 * t + y.toInt.toNat - 3 = t * 20 + (y.toInt - 3).toNat by omega]; done) | (rw [if_neg (by omega), if_neg (by omega), if_neg (by omega), if_neg (by omega)]; done), rfl⟩)
    · refine aw_tableIn (tgt := 48) (aw_d q_Mo_of 13 rfl) (by omega) (by omega) (by rw [hsw]; rfl) (by decide) ?_
      refine aw_aload_n (aw_d q_Mo_of 14 rfl) rfl rfl rfl ?_
      refine aw_getf (aw_d q_Mo_of 15 rfl) fL_Mo_19_Mo rfl rfl ?_
      refine aw_iload_n (aw_d q_Mo_of 16 rfl) rfl rfl ?_
      refine aw_ialdN (aw_d q_Mo_of 17 rfl) rfl (by (have hT2 := hT.2.1; have hT3 := (hT.2.2 t ht).2; omega)) rfl ?_
      exact aw_iret (aw_d q_Mo_of 18 rfl) rfl (⟨by first | (rw [if_neg (by omega)]; done) | (rw [if_pos hsw]; done) | (rw [if_neg (by omega), if_pos hsw]; done) | (rw [if_neg (by omega), if_neg (by omega), if_pos hsw]; done) | (rw [if_neg (by omega), if_neg (by omega), if_neg (by omega), if_pos (by omega), show 20 * t + y.toInt.toNat - 3 = t * 20 + (y.toInt - 3).toNat by omega]; done) | (rw [if_neg (by omega), if_neg (by omega), if_neg (by omega), if_neg (by omega)]; done), rfl⟩)
    · refine aw_tableIn (tgt := 55) (aw_d q_Mo_of 13 rfl) (by omega) (by omega) (by rw [hsw]; rfl) (by decide) ?_
      refine aw_aload_n (aw_d q_Mo_of 19 rfl) rfl rfl rfl ?_
      refine aw_getf (aw_d q_Mo_of 20 rfl) fL_Mo_22_Mo rfl rfl ?_
      refine aw_iload_n (aw_d q_Mo_of 21 rfl) rfl rfl ?_
      refine aw_ialdN (aw_d q_Mo_of 22 rfl) rfl (by (have hT2 := hT.2.1; have hT3 := (hT.2.2 t ht).2; omega)) rfl ?_
      exact aw_iret (aw_d q_Mo_of 23 rfl) rfl (⟨by first | (rw [if_neg (by omega)]; done) | (rw [if_pos hsw]; done) | (rw [if_neg (by omega), if_pos hsw]; done) | (rw [if_neg (by omega), if_neg (by omega), if_pos hsw]; done) | (rw [if_neg (by omega), if_neg (by omega), if_neg (by omega), if_pos (by omega), show 20 * t + y.toInt.toNat - 3 = t * 20 + (y.toInt - 3).toNat by omega]; done) | (rw [if_neg (by omega), if_neg (by omega), if_neg (by omega), if_neg (by omega)]; done), rfl⟩)
    · refine aw_tableIn (tgt := 62) (aw_d q_Mo_of 13 rfl) (by omega) (by omega) (by rw [hsw]; rfl) (by decide) ?_
      refine aw_aload_n (aw_d q_Mo_of 24 rfl) rfl rfl rfl ?_
      refine aw_getf (aw_d q_Mo_of 25 rfl) fL_Mo_25_Mo rfl rfl ?_
      refine aw_iload_n (aw_d q_Mo_of 26 rfl) rfl rfl ?_
      refine aw_ialdK (w := nI (tl t)) (aw_d q_Mo_of 27 rfl) rfl (by (have hT2 := hT.2.1; have hT3 := (hT.2.2 t ht).2; omega)) rfl ((hT.2.2 t ht).1) ?_
      exact aw_iret (aw_d q_Mo_of 28 rfl) rfl (⟨by first | (rw [if_neg (by omega)]; done) | (rw [if_pos hsw]; done) | (rw [if_neg (by omega), if_pos hsw]; done) | (rw [if_neg (by omega), if_neg (by omega), if_pos hsw]; done) | (rw [if_neg (by omega), if_neg (by omega), if_neg (by omega), if_pos (by omega), show 20 * t + y.toInt.toNat - 3 = t * 20 + (y.toInt - 3).toNat by omega]; done) | (rw [if_neg (by omega), if_neg (by omega), if_neg (by omega), if_neg (by omega)]; done), rfl⟩)
  · refine aw_iconst (v := (-1)) (aw_d q_Mo_of 10 rfl) (by decide) ?_
    exact aw_iret (aw_d q_Mo_of 11 rfl) rfl (⟨by first | (rw [if_neg (by omega)]; done) | (rw [if_pos hsw]; done) | (rw [if_neg (by omega), if_pos hsw]; done) | (rw [if_neg (by omega), if_neg (by omega), if_pos hsw]; done) | (rw [if_neg (by omega), if_neg (by omega), if_neg (by omega), if_pos (by omega), show 20 * t + y.toInt.toNat - 3 = t * 20 + (y.toInt - 3).toNat by omega]; done) | (rw [if_neg (by omega), if_neg (by omega), if_neg (by omega), if_neg (by omega)]; done), rfl⟩)
