/-! THE REFERENCE WHILE IT READS: place 3331, fault 3332, from 3333, size 3334, text 54 -/
def QM (S : aw_S) (a q f z : Int32) (X : Nat → Int32) : aw_S := (fun j => if j = 3331 then a else if j = 3332 then q else if j = 3333 then f else if j = 3334 then z else S.1 j, fun c => if c = 54 then X else S.2 c)
/-- how the reading stands: place and fault; behind a fault the place is anyhow -/
def RR {β : Type} (n : Nat) (res : Except Nat (Nat × β)) (b : Nat) (q : Int32) : Prop := match res with
  | .ok y => b = y.1 ∧ b ≤ n ∧ q = -1
  | .error u => u ≤ 3000 ∧ q = nI u ∧ b ≤ 3010
theorem RR_b {β : Type} {n : Nat} {res : Except Nat (Nat × β)} {b : Nat} {q : Int32} (hn : n ≤ 3000) (h : RR n res b q) : b ≤ 3010 := by
  cases res with
  | ok y => have := h.2.1; omega
  | error u => exact h.2.2
def bp {β : Type} (res : Except Nat (Nat × β)) (f : Nat → Except Nat Nat) : Except Nat (Nat × β) := bd res (fun y => bd (f y.1) (fun p => .ok (p, y.2)))
theorem bp_ok {β : Type} {y : Nat × β} {f : Nat → Except Nat Nat} : bp (.ok y) f = bd (f y.1) (fun p => .ok (p, y.2)) := rfl
theorem bp_er {β : Type} {u : Nat} {f : Nat → Except Nat Nat} : bp (.error u : Except Nat (Nat × β)) f = .error u := rfl
theorem bp_bp {β : Type} {res : Except Nat (Nat × β)} {f h : Nat → Except Nat Nat} : bp (bp res f) h = bp res (fun p => bd (f p) h) := by
  cases res with
  | error u => rfl
  | ok y =>
    simp only [bp, bd_ok]
    cases f y.1 with
    | error u => rfl
    | ok p => rfl
theorem mu_app {T : Nat → Int32} {A B : List Int32} : ∀ {p : Nat}, mu T (A ++ B) p = bd (mu T A p) (mu T B) := by
  induction A with
  | nil => intro p; rfl
  | cons a A ih =>
    intro p
    simp only [List.cons_append, mu]
    split
    · exact ih
    · rfl
theorem ml_app {T : Nat → Int32} {n : Nat} {A B : List Int32} : ∀ {p : Nat}, ml T n (A ++ B) p = bd (ml T n A p) (ml T n B) := by
  induction A with
  | nil => intro p; rfl
  | cons a A ih =>
    intro p
    simp only [List.cons_append, ml]
    split
    · exact ih
    · split
      · exact ih
      · rfl
theorem ml_mu {T : Nat → Int32} {n : Nat} {A : List Int32} (h : A.all (fun b => decide (b.toInt ≠ 32)) = true) : ∀ {p : Nat}, ml T n A p = mu T A p := by
  induction A with
  | nil => intro p; rfl
  | cons a A ih =>
    intro p
    simp only [List.all_cons, Bool.and_eq_true, decide_eq_true_eq] at h
    simp only [ml, mu]
    rw [if_neg h.1]
    split
    · exact ih h.2
    · rfl
theorem ml_sp {T : Nat → Int32} {n p : Nat} {A : List Int32} : ml T n (32 :: A) p = ml T n A (sk T n p) := by simp only [ml]; rw [if_pos (by decide)]
theorem mu_le {T : Nat → Int32} {n : Nat} (hT : ∀ i, n ≤ i → T i = -1) {A : List Int32} (hA : ∀ b ∈ A, 0 ≤ b.toInt) : ∀ {p r : Nat}, p ≤ n → mu T A p = .ok r → r ≤ n := by
  induction A with
  | nil => intro p r hp h; cases h; exact hp
  | cons a A ih =>
    intro p r hp h
    simp only [mu] at h
    by_cases hq : (T p).toInt = a.toInt
    · rw [if_pos hq] at h
      exact ih (fun b hb => hA b (List.mem_cons_of_mem _ hb)) (T_lt hT (by rw [hq]; exact hA a List.mem_cons_self)) h
    · rw [if_neg hq] at h; cases h
theorem mu_er {T : Nat → Int32} {n : Nat} (hT : ∀ i, n ≤ i → T i = -1) {A : List Int32} (hA : ∀ b ∈ A, 0 ≤ b.toInt) : ∀ {p u : Nat}, p ≤ n → mu T A p = .error u → u ≤ n := by
  induction A with
  | nil => intro p u hp h; cases h
  | cons a A ih =>
    intro p u hp h
    simp only [mu] at h
    by_cases hq : (T p).toInt = a.toInt
    · rw [if_pos hq] at h
      exact ih (fun b hb => hA b (List.mem_cons_of_mem _ hb)) (T_lt hT (by rw [hq]; exact hA a List.mem_cons_self)) h
    · rw [if_neg hq] at h; cases h; exact hp
theorem RR_ok {β : Type} {n b : Nat} {q : Int32} {y : Nat × β} (h1 : b = y.1) (h2 : b ≤ n) (h3 : q = -1) : RR n (.ok y) b q := ⟨h1, h2, h3⟩
theorem RR_er {β : Type} {n b u : Nat} {q : Int32} (h1 : u ≤ 3000) (h2 : q = nI u) (h3 : b ≤ 3010) : RR (β := β) n (.error u) b q := ⟨h1, h2, h3⟩
theorem bp_ml {β : Type} {T : Nat → Int32} {n : Nat} {res : Except Nat (Nat × β)} {A B : List Int32} : bp (bp res (ml T n A)) (ml T n B) = bp res (ml T n (A ++ B)) := by
  rw [bp_bp]; congr 1; funext p; exact ml_app.symm
theorem bp_mu {β : Type} {T : Nat → Int32} {res : Except Nat (Nat × β)} {A B : List Int32} : bp (bp res (mu T A)) (mu T B) = bp res (mu T (A ++ B)) := by
  rw [bp_bp]; congr 1; funext p; exact mu_app.symm
theorem bp_id {β : Type} {res : Except Nat (Nat × β)} {f : Nat → Except Nat Nat} (hf : ∀ p, f p = .ok p) : bp res f = res := by
  cases res with
  | error u => rfl
  | ok y => simp only [bp, bd_ok, hf]
theorem mu_sign {T : Nat → Int32} {n : Nat} {b : Int32} (h : b.toInt ≠ 32) : (fun p => bd (Except.ok (sk T n p)) (mu T [b])) = ml T n [32, b] := by
  funext p
  rw [ml_sp, ml_mu (by simp [h]), bd_ok]
theorem bMn (y : Int64) : 0 ≤ (y &&& 255).toInt32.toInt ∧ (y &&& 255).toInt32.toInt ≤ 255 := by
  have h : (y &&& 255).toInt32.toInt = ((y.toBitVec.toNat &&& 255 : Nat) : Int) := by
    rw [← Int32.toInt_toBitVec]
    have e : (y &&& 255).toInt32.toBitVec = (y.toBitVec &&& 255#64).setWidth 32 := by
      rw [Int64.toBitVec_toInt32, BitVec.signExtend_eq_setWidth_of_le _ (by decide)]; rfl
    have hn : ((y.toBitVec &&& 255#64).setWidth 32).toNat = y.toBitVec.toNat &&& 255 := by
      rw [BitVec.toNat_setWidth, BitVec.toNat_and]
      have : y.toBitVec.toNat &&& (255#64).toNat ≤ 255 := Nat.and_le_right
      rw [Nat.mod_eq_of_lt (by omega)]
      rfl
    rw [e, BitVec.toInt_eq_toNat_of_lt (by rw [hn]; have := Nat.and_le_right (n := y.toBitVec.toNat) (m := 255); omega), hn]
  have := Nat.and_le_right (n := y.toBitVec.toNat) (m := 255)
  rw [h]
  omega
theorem ml_muF {T : Nat → Int32} {n : Nat} {A : List Int32} (h : A.all (fun b => decide (b.toInt ≠ 32)) = true) : ml T n A = mu T A := funext (fun _ => ml_mu h)
theorem bM_0 {x : Int64} {i : Nat} : 0 ≤ (bM x i).toInt := (bMn _).1
theorem eB_0 {x : Int64} : ∀ {j : Nat}, ∀ b ∈ eB x j, 0 ≤ b.toInt := by
  intro j
  induction j with
  | zero => intro b hb; cases hb
  | succ j ih =>
    intro b hb
    simp only [eB, List.mem_cons] at hb
    rcases hb with h | h
    · rw [h]; exact bM_0
    · exact ih b h
set_option maxRecDepth 20000 in
theorem sp_peek {g : aw_G} {S : aw_S} {n : Nat} {T : Nat → Int32} {b : Nat} {q f z : Int32} {X : Nat → Int32} (hc : TPm S n T) (hb : b ≤ 3010) : Sp g M_Mo_peek 0 0 0 0 [.ref 33] (HP (QM S (nI b) q f z X)) (fun r h => r = some (.int (T b)) ∧ h = HP (QM S (nI b) q f z X)) := by
  refine Sp.of rfl (aw_le rfl) ?_
  refine aw_aload_n (aw_d q_Mo_peek 0 rfl) rfl rfl rfl ?_
  refine aw_getf (v := .int (nI (b))) (aw_d q_Mo_peek 1 rfl) fL_Mo_324_Mo rfl (gk rfl) ?_
  refine aw_aload_n (aw_d q_Mo_peek 2 rfl) rfl rfl rfl ?_
  refine aw_getf (v := .int (nI (n))) (aw_d q_Mo_peek 3 rfl) fL_Mo_85_Mo rfl (gk hc.1) ?_
  refine aw_icmpN_ge (tgt := 23) (aw_d q_Mo_peek 4 rfl) (by decide) (by (have hc2 := hc.2.1; omega)) (by (have hc2 := hc.2.1; omega)) (fun c8 => ?_) (fun c8 => ?_)
  · refine aw_iconst (v := (-1)) (aw_d q_Mo_peek 11 rfl) (by decide) ?_
    exact aw_iret (aw_d q_Mo_peek 12 rfl) rfl (⟨by rw [hc.2.2.2.1 _ (by omega)], rfl⟩)
  · refine aw_aload_n (aw_d q_Mo_peek 5 rfl) rfl rfl rfl ?_
    refine aw_getf (aw_d q_Mo_peek 6 rfl) fL_Mo_7_Mo rfl rfl ?_
    refine aw_aload_n (aw_d q_Mo_peek 7 rfl) rfl rfl rfl ?_
    refine aw_getf (v := .int (nI (b))) (aw_d q_Mo_peek 8 rfl) fL_Mo_324_Mo rfl (gk rfl) ?_
    refine aw_ialdK (w := (T b)) (aw_d q_Mo_peek 9 rfl) rfl (by (have hc2 := hc.2.1; omega)) rfl (hc.2.2.1 b (by omega)) ?_
    refine aw_goto (tgt := 24) (aw_d q_Mo_peek 10 rfl) (by decide) ?_
    exact aw_iret (aw_d q_Mo_peek 12 rfl) rfl (⟨rfl, rfl⟩)
set_option maxRecDepth 20000 in
theorem sp_peekN {g : aw_G} {S : aw_S} {n : Nat} {T : Nat → Int32} {b : Nat} {q f z : Int32} {X : Nat → Int32} (hc : TPm S n T) (hb : b ≤ 3010) : Sp g M_Mo_peekNext 0 0 0 0 [.ref 33] (HP (QM S (nI b) q f z X)) (fun r h => r = some (.int (T (b + 1))) ∧ h = HP (QM S (nI b) q f z X)) := by
  refine Sp.of rfl (aw_le rfl) ?_
  refine aw_aload_n (aw_d q_Mo_peekNext 0 rfl) rfl rfl rfl ?_
  refine aw_getf (v := .int (nI (b))) (aw_d q_Mo_peekNext 1 rfl) fL_Mo_324_Mo rfl (gk rfl) ?_
  refine aw_iconst (v := nI 1) (aw_d q_Mo_peekNext 2 rfl) (by decide) ?_
  refine aw_iaddN (aw_d q_Mo_peekNext 3 rfl) ?_
  refine aw_aload_n (aw_d q_Mo_peekNext 4 rfl) rfl rfl rfl ?_
  refine aw_getf (v := .int (nI (n))) (aw_d q_Mo_peekNext 5 rfl) fL_Mo_85_Mo rfl (gk hc.1) ?_
  refine aw_icmpN_ge (tgt := 27) (aw_d q_Mo_peekNext 6 rfl) (by decide) (by (have hc2 := hc.2.1; omega)) (by (have hc2 := hc.2.1; omega)) (fun c10 => ?_) (fun c10 => ?_)
  · refine aw_iconst (v := (-1)) (aw_d q_Mo_peekNext 15 rfl) (by decide) ?_
    exact aw_iret (aw_d q_Mo_peekNext 16 rfl) rfl (⟨by rw [hc.2.2.2.1 _ (by omega)], rfl⟩)
  · refine aw_aload_n (aw_d q_Mo_peekNext 7 rfl) rfl rfl rfl ?_
    refine aw_getf (aw_d q_Mo_peekNext 8 rfl) fL_Mo_7_Mo rfl rfl ?_
    refine aw_aload_n (aw_d q_Mo_peekNext 9 rfl) rfl rfl rfl ?_
    refine aw_getf (v := .int (nI (b))) (aw_d q_Mo_peekNext 10 rfl) fL_Mo_324_Mo rfl (gk rfl) ?_
    refine aw_iconst (v := nI 1) (aw_d q_Mo_peekNext 11 rfl) (by decide) ?_
    refine aw_iaddN (aw_d q_Mo_peekNext 12 rfl) ?_
    refine aw_ialdK (w := (T (b + 1))) (aw_d q_Mo_peekNext 13 rfl) rfl (by (have hc2 := hc.2.1; omega)) rfl (hc.2.2.1 (b + 1) (by omega)) ?_
    refine aw_goto (tgt := 28) (aw_d q_Mo_peekNext 14 rfl) (by decide) ?_
    exact aw_iret (aw_d q_Mo_peekNext 16 rfl) rfl (⟨rfl, rfl⟩)
set_option maxRecDepth 20000 in
theorem sp_mfailA {g : aw_G} {S : aw_S} {a f z : Int32} {X : Nat → Int32} {x : Int32} : Sp g M_Mo_fail 0 0 0 0 [.ref 33, .int x] (HP (QM S a (-1) f z X)) (fun r h => r = none ∧ h = HP (QM S a x f z X)) := by
  refine Sp.of rfl (aw_le rfl) ?_
  refine aw_aload_n (aw_d q_Mo_fail 0 rfl) rfl rfl rfl ?_
  refine aw_aload_n (aw_d q_Mo_fail 1 rfl) rfl rfl rfl ?_
  refine aw_getf (v := .int ((-1))) (aw_d q_Mo_fail 2 rfl) fL_Mo_77_Mo rfl (gk rfl) ?_
  refine aw_ifI_ge (tgt := 12) (aw_d q_Mo_fail 3 rfl) (by decide) (fun c5 => by exact absurd c5 (by decide)) (fun c5 => ?_)
  refine aw_iload_n (aw_d q_Mo_fail 4 rfl) rfl rfl ?_
  refine aw_goto (tgt := 16) (aw_d q_Mo_fail 5 rfl) (by decide) ?_
  refine wi_33_32 (aw_d q_Mo_fail 8 rfl) pL_Mo_77_Mo ?_
  exact aw_vret (aw_d q_Mo_fail 9 rfl) rfl (⟨rfl, rfl⟩)
set_option maxRecDepth 20000 in
theorem sp_mfailI {g : aw_G} {S : aw_S} {a f z : Int32} {X : Nat → Int32} {x : Int32} {u : Nat} (hu : u ≤ 3000) : Sp g M_Mo_fail 0 0 0 0 [.ref 33, .int x] (HP (QM S a (nI u) f z X)) (fun r h => r = none ∧ h = HP (QM S a (nI u) f z X)) := by
  refine Sp.of rfl (aw_le rfl) ?_
  refine aw_aload_n (aw_d q_Mo_fail 0 rfl) rfl rfl rfl ?_
  refine aw_aload_n (aw_d q_Mo_fail 1 rfl) rfl rfl rfl ?_
  refine aw_getf (v := .int (nI (u))) (aw_d q_Mo_fail 2 rfl) fL_Mo_77_Mo rfl (gk rfl) ?_
  refine aw_ifN_ge (tgt := 12) (aw_d q_Mo_fail 3 rfl) (by decide) (by omega) (fun c5 => ?_) (fun c5 => by exfalso; omega)
  refine aw_aload_n (aw_d q_Mo_fail 6 rfl) rfl rfl rfl ?_
  refine aw_getf (v := .int (nI (u))) (aw_d q_Mo_fail 7 rfl) fL_Mo_77_Mo rfl (gk rfl) ?_
  refine wi_33_32 (aw_d q_Mo_fail 8 rfl) pL_Mo_77_Mo ?_
  exact aw_vret (aw_d q_Mo_fail 9 rfl) rfl (⟨rfl, rfl⟩)
set_option maxRecDepth 20000 in
theorem sp_goesA {g : aw_G} {S : aw_S} {a f z : Int32} {X : Nat → Int32}  : Sp g M_Mo_goes 0 0 0 0 [.ref 33] (HP (QM S a (-1) f z X)) (fun r h => r = some (.int (nI 1)) ∧ h = HP (QM S a (-1) f z X)) := by
  refine Sp.of rfl (aw_le rfl) ?_
  refine aw_aload_n (aw_d q_Mo_goes 0 rfl) rfl rfl rfl ?_
  refine aw_getf (v := .int ((-1))) (aw_d q_Mo_goes 1 rfl) fL_Mo_77_Mo rfl (gk rfl) ?_
  refine aw_ifI_ge (tgt := 11) (aw_d q_Mo_goes 2 rfl) (by decide) (fun c4 => by exact absurd c4 (by decide)) (fun c4 => ?_)
  refine aw_iconst (v := nI 1) (aw_d q_Mo_goes 3 rfl) (by decide) ?_
  refine aw_goto (tgt := 12) (aw_d q_Mo_goes 4 rfl) (by decide) ?_
  exact aw_zret (aw_d q_Mo_goes 6 rfl) rfl (rfl) (⟨rfl, rfl⟩)
set_option maxRecDepth 20000 in
theorem sp_goesX {g : aw_G} {S : aw_S} {a q f z : Int32} {X : Nat → Int32} (hx : 0 ≤ q.toInt) : Sp g M_Mo_goes 0 0 0 0 [.ref 33] (HP (QM S a q f z X)) (fun r h => r = some (.int (nI 0)) ∧ h = HP (QM S a q f z X)) := by
  refine Sp.of rfl (aw_le rfl) ?_
  refine aw_aload_n (aw_d q_Mo_goes 0 rfl) rfl rfl rfl ?_
  refine aw_getf (v := .int (q)) (aw_d q_Mo_goes 1 rfl) fL_Mo_77_Mo rfl (gk rfl) ?_
  refine aw_ifI_ge (tgt := 11) (aw_d q_Mo_goes 2 rfl) (by decide) (fun c4 => ?_) (fun c4 => by exfalso; omega)
  refine aw_iconst (v := nI 0) (aw_d q_Mo_goes 5 rfl) (by decide) ?_
  exact aw_zret (aw_d q_Mo_goes 6 rfl) rfl (rfl) (⟨rfl, rfl⟩)
set_option maxRecDepth 20000 in
theorem sp_goesI {g : aw_G} {S : aw_S} {a f z : Int32} {X : Nat → Int32} {u : Nat} (hu : u ≤ 3000) : Sp g M_Mo_goes 0 0 0 0 [.ref 33] (HP (QM S a (nI u) f z X)) (fun r h => r = some (.int (nI 0)) ∧ h = HP (QM S a (nI u) f z X)) := by
  refine Sp.of rfl (aw_le rfl) ?_
  refine aw_aload_n (aw_d q_Mo_goes 0 rfl) rfl rfl rfl ?_
  refine aw_getf (v := .int (nI (u))) (aw_d q_Mo_goes 1 rfl) fL_Mo_77_Mo rfl (gk rfl) ?_
  refine aw_ifN_ge (tgt := 11) (aw_d q_Mo_goes 2 rfl) (by decide) (by omega) (fun c4 => ?_) (fun c4 => by exfalso; omega)
  refine aw_iconst (v := nI 0) (aw_d q_Mo_goes 5 rfl) (by decide) ?_
  exact aw_zret (aw_d q_Mo_goes 6 rfl) rfl (rfl) (⟨rfl, rfl⟩)
set_option maxRecDepth 20000 in
theorem lp_mustI {g : aw_G} {S : aw_S} {β : Type} {n : Nat} {f z : Int32} {X : Nat → Int32} {x : Int64} {j u b : Nat} (hu : u ≤ 3000) (hb : b ≤ 3010) : ∀ (m : Nat), m ≤ 8 → AW g M_Mo_must (aw_rm 1 21 0 0) (aw_F g 0 0 (fun r h => r = none ∧ ∃ (b : Nat) (q : Int32), RR n (Except.error u : Except Nat (Nat × β)) b q ∧ h = HP (QM S (nI b) q f z X))) 5 [some (.ref 33), some (.long x), none, some (.int (nI j)), some (.int (dn m))] [] (HP (QM S (nI b) (nI u) f z X)) 0 0 := by
  intro m h8
  cases m with
  | zero =>
    refine aw_iload (aw_d q_Mo_must 4 rfl) rfl ?_
    refine aw_ifI_lt (tgt := 63) (aw_d q_Mo_must 5 rfl) (by decide) (fun c7 => ?_) (fun c7 => by exact absurd dn_0 (by omega))
    exact aw_vret (aw_d q_Mo_must 33 rfl) rfl (⟨rfl, _, _, RR_er hu rfl hb, rfl⟩)
  | succ m =>
    refine aw_iload (aw_d q_Mo_must 4 rfl) rfl ?_
    refine aw_ifN_lt (tgt := 63) (aw_d q_Mo_must 5 rfl) (by decide) (by omega) (fun c7 => by exfalso; omega) (fun c7 => ?_)
    refine aw_aload_n (aw_d q_Mo_must 6 rfl) rfl rfl rfl ?_
    refine cVr (aw_d q_Mo_must 7 rfl) (sp_goesI hu) vL_Mo_327_Mo rfl rfl rfl rfl rfl rfl ⟨aw_le rfl, aw_le rfl⟩ ?_
    refine aw_ifN_eq (tgt := 63) (aw_d q_Mo_must 8 rfl) (by decide) (by omega) (fun c14 => ?_) (fun c14 => by exfalso; omega)
    exact aw_vret (aw_d q_Mo_must 33 rfl) rfl (⟨rfl, _, _, RR_er hu rfl hb, rfl⟩)
set_option maxRecDepth 20000 in
theorem lp_mustA {g : aw_G} {S : aw_S} {β : Type} {y : β} {n : Nat} {T : Nat → Int32} {f z : Int32} {X : Nat → Int32} {x : Int64} {j a : Nat} (hc : TPm S n T) : ∀ (m p : Nat), m ≤ 8 → p ≤ n → mu T (eB x j) a = mu T (eB x m) p → AW g M_Mo_must (aw_rm 1 21 0 0) (aw_F g 0 0 (fun r h => r = none ∧ ∃ (b : Nat) (q : Int32), RR n (bd (mu T (eB x j) a) (fun p => .ok (p, y))) b q ∧ h = HP (QM S (nI b) q f z X))) 5 [some (.ref 33), some (.long x), none, some (.int (nI j)), some (.int (dn m))] [] (HP (QM S (nI p) (-1) f z X)) 0 0 := by
  have hc2 := hc.2.1
  intro m
  induction m with
  | zero =>
    intro p h8 hp he
    refine aw_iload (aw_d q_Mo_must 4 rfl) rfl ?_
    refine aw_ifI_lt (tgt := 63) (aw_d q_Mo_must 5 rfl) (by decide) (fun c7 => ?_) (fun c7 => by exact absurd dn_0 (by omega))
    exact aw_vret (aw_d q_Mo_must 33 rfl) rfl (⟨rfl, _, _, by rw [he]; exact RR_ok rfl hp rfl, rfl⟩)
  | succ m ih =>
    intro p h8 hp he
    refine aw_iload (aw_d q_Mo_must 4 rfl) rfl ?_
    refine aw_ifN_lt (tgt := 63) (aw_d q_Mo_must 5 rfl) (by decide) (by (have hc2 := hc.2.1; omega)) (fun c7 => by exfalso; (have hc2 := hc.2.1; omega)) (fun c7 => ?_)
    refine aw_aload_n (aw_d q_Mo_must 6 rfl) rfl rfl rfl ?_
    refine cVr (aw_d q_Mo_must 7 rfl) (sp_goesA) vL_Mo_327_Mo rfl rfl rfl rfl rfl rfl ⟨aw_le rfl, aw_le rfl⟩ ?_
    refine aw_ifN_eq (tgt := 63) (aw_d q_Mo_must 8 rfl) (by decide) (by (have hc2 := hc.2.1; omega)) (fun c14 => by exfalso; (have hc2 := hc.2.1; omega)) (fun c14 => ?_)
    refine aw_aload_n (aw_d q_Mo_must 9 rfl) rfl rfl rfl ?_
    refine cVr (aw_d q_Mo_must 10 rfl) (sp_peek hc (b := p) (by omega)) vL_Mo_331_Mo rfl rfl rfl rfl rfl rfl ⟨aw_le rfl, aw_le rfl⟩ ?_
    refine aw_lload_n (aw_d q_Mo_must 11 rfl) rfl rfl ?_
    refine aw_bipush (v := nI 8) (aw_d q_Mo_must 12 rfl) (by decide) ?_
    refine aw_iload (aw_d q_Mo_must 13 rfl) rfl ?_
    refine aw_imulN (aw_d q_Mo_must 14 rfl) ?_
    refine aw_lshr (aw_d q_Mo_must 15 rfl) ?_
    refine aw_ldc2 (aw_d q_Mo_must 16 rfl) lL_Mo_88 ?_
    refine aw_land (aw_d q_Mo_must 17 rfl) ?_
    refine aw_l2i (aw_d q_Mo_must 18 rfl) ?_
    refine aw_icmpZ_ne (tgt := 49) (aw_d q_Mo_must 19 rfl) (by decide) (fun c33 => ?_) (fun c33 => ?_)
    · refine aw_aload_n (aw_d q_Mo_must 27 rfl) rfl rfl rfl ?_
      refine aw_aload_n (aw_d q_Mo_must 28 rfl) rfl rfl rfl ?_
      refine aw_getf (v := .int (nI (p))) (aw_d q_Mo_must 29 rfl) fL_Mo_324_Mo rfl (gk rfl) ?_
      refine cVv (aw_d q_Mo_must 30 rfl) (sp_mfailA) vL_Mo_334_Mo rfl rfl rfl rfl rfl rfl ⟨aw_le rfl, aw_le rfl⟩ ?_
      refine aw_iinc (v := dn m) (aw_d q_Mo_must 31 rfl) rfl (dn_dec m) (aw_le rfl) rfl ?_
      refine aw_goto (tgt := 5) (aw_d q_Mo_must 32 rfl) (by decide) ?_
      refine AW.to ?_ rfl rfl rfl rfl
      rw [show bd (mu T (eB x j) a) (fun p => Except.ok (p, y)) = .error p by rw [he, eB, mu, if_neg (show ¬ (T p).toInt = (bM x m).toInt from c33), bd_er]]
      exact lp_mustI (by omega) (by omega) m (by omega)
    · refine aw_aload_n (aw_d q_Mo_must 20 rfl) rfl rfl rfl ?_
      refine aw_dup (aw_d q_Mo_must 21 rfl) rfl ?_
      refine aw_getf (v := .int (nI (p))) (aw_d q_Mo_must 22 rfl) fL_Mo_324_Mo rfl (gk rfl) ?_
      refine aw_iconst (v := nI 1) (aw_d q_Mo_must 23 rfl) (by decide) ?_
      refine aw_iaddN (aw_d q_Mo_must 24 rfl) ?_
      refine wi_33_31 (aw_d q_Mo_must 25 rfl) pL_Mo_324_Mo ?_
      refine aw_goto (tgt := 57) (aw_d q_Mo_must 26 rfl) (by decide) ?_
      refine aw_iinc (v := dn m) (aw_d q_Mo_must 31 rfl) rfl (dn_dec m) (aw_le rfl) rfl ?_
      refine aw_goto (tgt := 5) (aw_d q_Mo_must 32 rfl) (by decide) ?_
      have c33 : (T p).toInt = (bM x m).toInt := c33
      have hpn : p + 1 ≤ n := T_lt hc.2.2.2.1 (by rw [c33]; exact bM_0)
      exact AW.to (ih (p + 1) (by omega) hpn (by rw [he, eB, mu, if_pos c33])) rfl rfl rfl rfl
set_option maxRecDepth 20000 in
theorem sp_mmust {g : aw_G} {S : aw_S} {n : Nat} {T : Nat → Int32} {b : Nat} {q f z : Int32} {X : Nat → Int32} {β : Type} {res : Except Nat (Nat × β)} {x : Int64} {j : Nat} (hc : TPm S n T) (hj : j ≤ 8) (hr : RR n res b q) : Sp g M_Mo_must 1 21 0 0 [.ref 33, .long x, .int (nI j)] (HP (QM S (nI b) q f z X)) (fun r h => r = none ∧ ∃ (b : Nat) (q : Int32), RR n (bp res (mu T (eB x j))) b q ∧ h = HP (QM S (nI b) q f z X)) := by
  refine Sp.of rfl (aw_le rfl) ?_
  cases res with
  | error u =>
    obtain ⟨hu, rfl, hb⟩ := hr
    refine aw_iload_n (aw_d q_Mo_must 0 rfl) rfl rfl ?_
    refine aw_iconst (v := nI 1) (aw_d q_Mo_must 1 rfl) (by decide) ?_
    refine aw_isub (aw_d q_Mo_must 2 rfl) ?_
    refine aw_istore (aw_d q_Mo_must 3 rfl) (aw_le rfl) rfl ?_
    exact AW.to (lp_mustI hu hb j hj) rfl (by rw [dn_sub]; rfl) rfl rfl
  | ok y =>
    obtain ⟨p, y⟩ := y
    obtain ⟨rfl, hp, rfl⟩ := hr
    refine aw_iload_n (aw_d q_Mo_must 0 rfl) rfl rfl ?_
    refine aw_iconst (v := nI 1) (aw_d q_Mo_must 1 rfl) (by decide) ?_
    refine aw_isub (aw_d q_Mo_must 2 rfl) ?_
    refine aw_istore (aw_d q_Mo_must 3 rfl) (aw_le rfl) rfl ?_
    exact AW.to (lp_mustA hc (y := y) (a := b) j b hj hp rfl) rfl (by rw [dn_sub]; rfl) rfl rfl
set_option maxRecDepth 20000 in
theorem lp_mblanks {g : aw_G} {S : aw_S} {β : Type} {y : β} {n : Nat} {T : Nat → Int32} {f z : Int32} {X : Nat → Int32} {a : Nat} (hc : TPm S n T) : ∀ (m p : Nat), m + p = n → runB bl1 T (n - a) a = runB bl1 T m p → AW g M_Mo_blanks (aw_rm 1 20 0 0) (aw_F g 0 0 (fun r h => r = none ∧ ∃ (b : Nat) (q : Int32), RR n ((.ok (sk T n a, y) : Except Nat (Nat × β))) b q ∧ h = HP (QM S (nI b) q f z X))) 0 [some (.ref 33)] [] (HP (QM S (nI p) (-1) f z X)) 0 0 := by
  intro m
  induction m with
  | zero =>
    intro p hk he
    have hc2 := hc.2.1
    refine aw_aload_n (aw_d q_Mo_blanks 0 rfl) rfl rfl rfl ?_
    refine cVr (aw_d q_Mo_blanks 1 rfl) (sp_goesA) vL_Mo_327_Mo rfl rfl rfl rfl rfl rfl ⟨aw_le rfl, aw_le rfl⟩ ?_
    refine aw_ifN_eq (tgt := 56) (aw_d q_Mo_blanks 2 rfl) (by decide) (by (have hc2 := hc.2.1; omega)) (fun c4 => by exfalso; (have hc2 := hc.2.1; omega)) (fun c4 => ?_)
    refine aw_aload_n (aw_d q_Mo_blanks 3 rfl) rfl rfl rfl ?_
    refine cVr (aw_d q_Mo_blanks 4 rfl) (sp_peek hc (b := p) (by omega)) vL_Mo_331_Mo rfl rfl rfl rfl rfl rfl ⟨aw_le rfl, aw_le rfl⟩ ?_
    refine aw_bipush (v := nI 9) (aw_d q_Mo_blanks 5 rfl) (by decide) ?_
    refine aw_icmpI_eq (tgt := 43) (aw_d q_Mo_blanks 6 rfl) (by decide) (by (have hc2 := hc.2.1; omega)) (fun c13 => by rw [hc.2.2.2.1 p (by omega)] at c13; exact absurd c13 (by decide)) (fun c13 => ?_)
    refine aw_aload_n (aw_d q_Mo_blanks 7 rfl) rfl rfl rfl ?_
    refine cVr (aw_d q_Mo_blanks 8 rfl) (sp_peek hc (b := p) (by omega)) vL_Mo_331_Mo rfl rfl rfl rfl rfl rfl ⟨aw_le rfl, aw_le rfl⟩ ?_
    refine aw_bipush (v := nI 10) (aw_d q_Mo_blanks 9 rfl) (by decide) ?_
    refine aw_icmpI_eq (tgt := 43) (aw_d q_Mo_blanks 10 rfl) (by decide) (by (have hc2 := hc.2.1; omega)) (fun c22 => by rw [hc.2.2.2.1 p (by omega)] at c22; exact absurd c22 (by decide)) (fun c22 => ?_)
    refine aw_aload_n (aw_d q_Mo_blanks 11 rfl) rfl rfl rfl ?_
    refine cVr (aw_d q_Mo_blanks 12 rfl) (sp_peek hc (b := p) (by omega)) vL_Mo_331_Mo rfl rfl rfl rfl rfl rfl ⟨aw_le rfl, aw_le rfl⟩ ?_
    refine aw_bipush (v := nI 13) (aw_d q_Mo_blanks 13 rfl) (by decide) ?_
    refine aw_icmpI_eq (tgt := 43) (aw_d q_Mo_blanks 14 rfl) (by decide) (by (have hc2 := hc.2.1; omega)) (fun c31 => by rw [hc.2.2.2.1 p (by omega)] at c31; exact absurd c31 (by decide)) (fun c31 => ?_)
    refine aw_aload_n (aw_d q_Mo_blanks 15 rfl) rfl rfl rfl ?_
    refine cVr (aw_d q_Mo_blanks 16 rfl) (sp_peek hc (b := p) (by omega)) vL_Mo_331_Mo rfl rfl rfl rfl rfl rfl ⟨aw_le rfl, aw_le rfl⟩ ?_
    refine aw_bipush (v := nI 32) (aw_d q_Mo_blanks 17 rfl) (by decide) ?_
    refine aw_icmpI_ne (tgt := 56) (aw_d q_Mo_blanks 18 rfl) (by decide) (by (have hc2 := hc.2.1; omega)) (fun c40 => ?_) (fun c40 => by rw [hc.2.2.2.1 p (by omega)] at c40; exact absurd c40 (by decide))
    exact aw_vret (aw_d q_Mo_blanks 26 rfl) rfl (⟨rfl, _, _, RR_ok (show p = sk T n a by rw [sk, he]; rfl) (by omega) rfl, rfl⟩)
  | succ m ih =>
    intro p hk he
    have hc2 := hc.2.1
    refine aw_aload_n (aw_d q_Mo_blanks 0 rfl) rfl rfl rfl ?_
    refine cVr (aw_d q_Mo_blanks 1 rfl) (sp_goesA) vL_Mo_327_Mo rfl rfl rfl rfl rfl rfl ⟨aw_le rfl, aw_le rfl⟩ ?_
    refine aw_ifN_eq (tgt := 56) (aw_d q_Mo_blanks 2 rfl) (by decide) (by (have hc2 := hc.2.1; omega)) (fun c4 => by exfalso; (have hc2 := hc.2.1; omega)) (fun c4 => ?_)
    refine aw_aload_n (aw_d q_Mo_blanks 3 rfl) rfl rfl rfl ?_
    refine cVr (aw_d q_Mo_blanks 4 rfl) (sp_peek hc (b := p) (by omega)) vL_Mo_331_Mo rfl rfl rfl rfl rfl rfl ⟨aw_le rfl, aw_le rfl⟩ ?_
    refine aw_bipush (v := nI 9) (aw_d q_Mo_blanks 5 rfl) (by decide) ?_
    refine aw_icmpI_eq (tgt := 43) (aw_d q_Mo_blanks 6 rfl) (by decide) (by (have hc2 := hc.2.1; omega)) (fun c13 => ?_) (fun c13 => ?_)
    · refine aw_aload_n (aw_d q_Mo_blanks 19 rfl) rfl rfl rfl ?_
      refine aw_dup (aw_d q_Mo_blanks 20 rfl) rfl ?_
      refine aw_getf (v := .int (nI (p))) (aw_d q_Mo_blanks 21 rfl) fL_Mo_324_Mo rfl (gk rfl) ?_
      refine aw_iconst (v := nI 1) (aw_d q_Mo_blanks 22 rfl) (by decide) ?_
      refine aw_iaddN (aw_d q_Mo_blanks 23 rfl) ?_
      refine wi_33_31 (aw_d q_Mo_blanks 24 rfl) pL_Mo_324_Mo ?_
      refine aw_goto (tgt := 0) (aw_d q_Mo_blanks 25 rfl) (by decide) ?_
      exact AW.to (ih (p + 1) (by omega) (he.trans (by rw [runB, if_pos (show bl1 (T p) = true from decide_eq_true (by omega))]))) rfl rfl rfl rfl
    · refine aw_aload_n (aw_d q_Mo_blanks 7 rfl) rfl rfl rfl ?_
      refine cVr (aw_d q_Mo_blanks 8 rfl) (sp_peek hc (b := p) (by omega)) vL_Mo_331_Mo rfl rfl rfl rfl rfl rfl ⟨aw_le rfl, aw_le rfl⟩ ?_
      refine aw_bipush (v := nI 10) (aw_d q_Mo_blanks 9 rfl) (by decide) ?_
      refine aw_icmpI_eq (tgt := 43) (aw_d q_Mo_blanks 10 rfl) (by decide) (by (have hc2 := hc.2.1; omega)) (fun c22 => ?_) (fun c22 => ?_)
      · refine aw_aload_n (aw_d q_Mo_blanks 19 rfl) rfl rfl rfl ?_
        refine aw_dup (aw_d q_Mo_blanks 20 rfl) rfl ?_
        refine aw_getf (v := .int (nI (p))) (aw_d q_Mo_blanks 21 rfl) fL_Mo_324_Mo rfl (gk rfl) ?_
        refine aw_iconst (v := nI 1) (aw_d q_Mo_blanks 22 rfl) (by decide) ?_
        refine aw_iaddN (aw_d q_Mo_blanks 23 rfl) ?_
        refine wi_33_31 (aw_d q_Mo_blanks 24 rfl) pL_Mo_324_Mo ?_
        refine aw_goto (tgt := 0) (aw_d q_Mo_blanks 25 rfl) (by decide) ?_
        exact AW.to (ih (p + 1) (by omega) (he.trans (by rw [runB, if_pos (show bl1 (T p) = true from decide_eq_true (by omega))]))) rfl rfl rfl rfl
      · refine aw_aload_n (aw_d q_Mo_blanks 11 rfl) rfl rfl rfl ?_
        refine cVr (aw_d q_Mo_blanks 12 rfl) (sp_peek hc (b := p) (by omega)) vL_Mo_331_Mo rfl rfl rfl rfl rfl rfl ⟨aw_le rfl, aw_le rfl⟩ ?_
        refine aw_bipush (v := nI 13) (aw_d q_Mo_blanks 13 rfl) (by decide) ?_
        refine aw_icmpI_eq (tgt := 43) (aw_d q_Mo_blanks 14 rfl) (by decide) (by (have hc2 := hc.2.1; omega)) (fun c31 => ?_) (fun c31 => ?_)
        · refine aw_aload_n (aw_d q_Mo_blanks 19 rfl) rfl rfl rfl ?_
          refine aw_dup (aw_d q_Mo_blanks 20 rfl) rfl ?_
          refine aw_getf (v := .int (nI (p))) (aw_d q_Mo_blanks 21 rfl) fL_Mo_324_Mo rfl (gk rfl) ?_
          refine aw_iconst (v := nI 1) (aw_d q_Mo_blanks 22 rfl) (by decide) ?_
          refine aw_iaddN (aw_d q_Mo_blanks 23 rfl) ?_
          refine wi_33_31 (aw_d q_Mo_blanks 24 rfl) pL_Mo_324_Mo ?_
          refine aw_goto (tgt := 0) (aw_d q_Mo_blanks 25 rfl) (by decide) ?_
          exact AW.to (ih (p + 1) (by omega) (he.trans (by rw [runB, if_pos (show bl1 (T p) = true from decide_eq_true (by omega))]))) rfl rfl rfl rfl
        · refine aw_aload_n (aw_d q_Mo_blanks 15 rfl) rfl rfl rfl ?_
          refine cVr (aw_d q_Mo_blanks 16 rfl) (sp_peek hc (b := p) (by omega)) vL_Mo_331_Mo rfl rfl rfl rfl rfl rfl ⟨aw_le rfl, aw_le rfl⟩ ?_
          refine aw_bipush (v := nI 32) (aw_d q_Mo_blanks 17 rfl) (by decide) ?_
          refine aw_icmpI_ne (tgt := 56) (aw_d q_Mo_blanks 18 rfl) (by decide) (by (have hc2 := hc.2.1; omega)) (fun c40 => ?_) (fun c40 => ?_)
          · exact aw_vret (aw_d q_Mo_blanks 26 rfl) rfl (⟨rfl, _, _, RR_ok (show p = sk T n a by rw [sk, he, runB, if_neg (by simp only [bl1, decide_eq_true_eq]; omega)]) (by omega) rfl, rfl⟩)
          · refine aw_aload_n (aw_d q_Mo_blanks 19 rfl) rfl rfl rfl ?_
            refine aw_dup (aw_d q_Mo_blanks 20 rfl) rfl ?_
            refine aw_getf (v := .int (nI (p))) (aw_d q_Mo_blanks 21 rfl) fL_Mo_324_Mo rfl (gk rfl) ?_
            refine aw_iconst (v := nI 1) (aw_d q_Mo_blanks 22 rfl) (by decide) ?_
            refine aw_iaddN (aw_d q_Mo_blanks 23 rfl) ?_
            refine wi_33_31 (aw_d q_Mo_blanks 24 rfl) pL_Mo_324_Mo ?_
            refine aw_goto (tgt := 0) (aw_d q_Mo_blanks 25 rfl) (by decide) ?_
            exact AW.to (ih (p + 1) (by omega) (he.trans (by rw [runB, if_pos (show bl1 (T p) = true from decide_eq_true (by omega))]))) rfl rfl rfl rfl
set_option maxRecDepth 20000 in
theorem sp_mblanks {g : aw_G} {S : aw_S} {n : Nat} {T : Nat → Int32} {b : Nat} {q f z : Int32} {X : Nat → Int32} {β : Type} {res : Except Nat (Nat × β)} (hc : TPm S n T) (hr : RR n res b q) : Sp g M_Mo_blanks 1 20 0 0 [.ref 33] (HP (QM S (nI b) q f z X)) (fun r h => r = none ∧ ∃ (b : Nat) (q : Int32), RR n (bp res (fun p => .ok (sk T n p))) b q ∧ h = HP (QM S (nI b) q f z X)) := by
  refine Sp.of rfl (aw_le rfl) ?_
  cases res with
  | error u =>
    obtain ⟨hu, rfl, hb⟩ := hr
    refine aw_aload_n (aw_d q_Mo_blanks 0 rfl) rfl rfl rfl ?_
    refine cVr (aw_d q_Mo_blanks 1 rfl) (sp_goesI hu) vL_Mo_327_Mo rfl rfl rfl rfl rfl rfl ⟨aw_le rfl, aw_le rfl⟩ ?_
    refine aw_ifN_eq (tgt := 56) (aw_d q_Mo_blanks 2 rfl) (by decide) (by omega) (fun c4 => ?_) (fun c4 => by exfalso; omega)
    exact aw_vret (aw_d q_Mo_blanks 26 rfl) rfl (⟨rfl, _, _, RR_er hu rfl hb, rfl⟩)
  | ok y =>
    obtain ⟨p, y⟩ := y
    obtain ⟨rfl, hp, rfl⟩ := hr
    exact lp_mblanks hc (y := y) (a := b) (n - b) b (by omega) rfl
set_option maxRecDepth 20000 in
theorem sp_msign {g : aw_G} {S : aw_S} {n : Nat} {T : Nat → Int32} {b : Nat} {q f z : Int32} {X : Nat → Int32} {β : Type} {res : Except Nat (Nat × β)} {c : Nat} (hc : TPm S n T) (hs : eB (nI c).toInt64 1 = [nI c] ∧ (nI c).toInt ≠ 32) (hr : RR n res b q) : Sp g M_Mo_sign 2 45 0 0 [.ref 33, .int (nI c)] (HP (QM S (nI b) q f z X)) (fun r h => r = none ∧ ∃ (b : Nat) (q : Int32), RR n (bp res (ml T n [32, nI c])) b q ∧ h = HP (QM S (nI b) q f z X)) := by
  refine Sp.of rfl (aw_le rfl) ?_
  refine aw_aload_n (aw_d q_Mo_sign 0 rfl) rfl rfl rfl ?_
  refine cV (aw_d q_Mo_sign 1 rfl) (sp_mblanks hc hr) vL_Mo_337_Mo rfl rfl rfl rfl rfl rfl ⟨aw_le rfl, aw_le rfl⟩ (fun r1 h1 hp1 => ?_)
  obtain ⟨rfl, b1, q1, hr1, rfl⟩ := hp1
  refine aw_aload_n (aw_d q_Mo_sign 2 rfl) rfl rfl rfl ?_
  refine aw_iload_n (aw_d q_Mo_sign 3 rfl) rfl rfl ?_
  refine aw_i2l (aw_d q_Mo_sign 4 rfl) ?_
  refine aw_iconst (v := nI 1) (aw_d q_Mo_sign 5 rfl) (by decide) ?_
  refine cV (aw_d q_Mo_sign 6 rfl) (sp_mmust (x := (nI c).toInt64) (j := 1) hc (by decide) hr1) vL_Mo_340_Mo rfl rfl rfl rfl rfl rfl ⟨aw_le rfl, aw_le rfl⟩ (fun r8 h8 hp8 => ?_)
  obtain ⟨rfl, b8, q8, hr8, rfl⟩ := hp8
  exact aw_vret (aw_d q_Mo_sign 7 rfl) rfl (⟨rfl, _, _, by rw [hs.1, bp_bp, mu_sign hs.2] at hr8; exact hr8, rfl⟩)
set_option maxRecDepth 20000 in
theorem sp_mquoted {g : aw_G} {S : aw_S} {n : Nat} {T : Nat → Int32} {b : Nat} {q f z : Int32} {X : Nat → Int32} {β : Type} {res : Except Nat (Nat × β)} {x : Int64} {j : Nat} (hc : TPm S n T) (hj : j ≤ 8) (hx : (eB x j).all (fun b => decide (b.toInt ≠ 32)) = true) (hr : RR n res b q) : Sp g M_Mo_quoted 3 66 0 0 [.ref 33, .long x, .int (nI j)] (HP (QM S (nI b) q f z X)) (fun r h => r = none ∧ ∃ (b : Nat) (q : Int32), RR n (bp res (ml T n ([32, 34] ++ eB x j ++ [34]))) b q ∧ h = HP (QM S (nI b) q f z X)) := by
  refine Sp.of rfl (aw_le rfl) ?_
  refine aw_aload_n (aw_d q_Mo_quoted 0 rfl) rfl rfl rfl ?_
  refine aw_bipush (v := nI 34) (aw_d q_Mo_quoted 1 rfl) (by decide) ?_
  refine cV (aw_d q_Mo_quoted 2 rfl) (sp_msign (c := 34) hc (by decide) hr) vL_Mo_343_Mo rfl rfl rfl rfl rfl rfl ⟨aw_le rfl, aw_le rfl⟩ (fun r3 h3 hp3 => ?_)
  obtain ⟨rfl, b3, q3, hr3, rfl⟩ := hp3
  refine aw_aload_n (aw_d q_Mo_quoted 3 rfl) rfl rfl rfl ?_
  refine aw_lload_n (aw_d q_Mo_quoted 4 rfl) rfl rfl ?_
  refine aw_iload_n (aw_d q_Mo_quoted 5 rfl) rfl rfl ?_
  refine cV (aw_d q_Mo_quoted 6 rfl) (sp_mmust (x := x) hc hj hr3) vL_Mo_340_Mo rfl rfl rfl rfl rfl rfl ⟨aw_le rfl, aw_le rfl⟩ (fun r9 h9 hp9 => ?_)
  obtain ⟨rfl, b9, q9, hr9, rfl⟩ := hp9
  refine aw_aload_n (aw_d q_Mo_quoted 7 rfl) rfl rfl rfl ?_
  refine aw_ldc2 (aw_d q_Mo_quoted 8 rfl) lL_Mo_167 ?_
  refine aw_iconst (v := nI 1) (aw_d q_Mo_quoted 9 rfl) (by decide) ?_
  refine cV (aw_d q_Mo_quoted 10 rfl) (sp_mmust (x := 34) (j := 1) hc (by decide) hr9) vL_Mo_340_Mo rfl rfl rfl rfl rfl rfl ⟨aw_le rfl, aw_le rfl⟩ (fun r17 h17 hp17 => ?_)
  obtain ⟨rfl, b17, q17, hr17, rfl⟩ := hp17
  exact aw_vret (aw_d q_Mo_quoted 11 rfl) rfl (⟨rfl, _, _, by rw [← ml_muF (T := T) (n := n) hx, ← ml_muF (T := T) (n := n) (A := eB 34 1) (by decide), bp_ml, bp_ml] at hr17; exact hr17, rfl⟩)
set_option maxRecDepth 20000 in
theorem sp_mend {g : aw_G} {S : aw_S} {n : Nat} {T : Nat → Int32} {b : Nat} {q f z : Int32} {X : Nat → Int32} {β : Type} {res : Except Nat (Nat × β)} (hc : TPm S n T) (hr : RR n res b q) : Sp g M_Mo_end 1 21 0 0 [.ref 33] (HP (QM S (nI b) q f z X)) (fun r h => r = none ∧ ∃ (b : Nat) (q : Int32), RR n (bp res (me n)) b q ∧ h = HP (QM S (nI b) q f z X)) := by
  refine Sp.of rfl (aw_le rfl) ?_
  cases res with
  | error u =>
    obtain ⟨hu, rfl, hb⟩ := hr
    refine aw_aload_n (aw_d q_Mo_end 0 rfl) rfl rfl rfl ?_
    refine cVr (aw_d q_Mo_end 1 rfl) (sp_goesI hu) vL_Mo_327_Mo rfl rfl rfl rfl rfl rfl ⟨aw_le rfl, aw_le rfl⟩ ?_
    refine aw_ifN_eq (tgt := 26) (aw_d q_Mo_end 2 rfl) (by decide) (by omega) (fun c4 => ?_) (fun c4 => by exfalso; omega)
    exact aw_vret (aw_d q_Mo_end 12 rfl) rfl (⟨rfl, _, _, RR_er hu rfl hb, rfl⟩)
  | ok y =>
    obtain ⟨p, y⟩ := y
    obtain ⟨rfl, hp, rfl⟩ := hr
    refine aw_aload_n (aw_d q_Mo_end 0 rfl) rfl rfl rfl ?_
    refine cVr (aw_d q_Mo_end 1 rfl) (sp_goesA) vL_Mo_327_Mo rfl rfl rfl rfl rfl rfl ⟨aw_le rfl, aw_le rfl⟩ ?_
    refine aw_ifN_eq (tgt := 26) (aw_d q_Mo_end 2 rfl) (by decide) (by (have hc2 := hc.2.1; omega)) (fun c4 => by exfalso; (have hc2 := hc.2.1; omega)) (fun c4 => ?_)
    refine aw_aload_n (aw_d q_Mo_end 3 rfl) rfl rfl rfl ?_
    refine aw_getf (v := .int (nI (b))) (aw_d q_Mo_end 4 rfl) fL_Mo_324_Mo rfl (gk rfl) ?_
    refine aw_aload_n (aw_d q_Mo_end 5 rfl) rfl rfl rfl ?_
    refine aw_getf (v := .int (nI (n))) (aw_d q_Mo_end 6 rfl) fL_Mo_85_Mo rfl (gk hc.1) ?_
    refine aw_icmpN_ge (tgt := 26) (aw_d q_Mo_end 7 rfl) (by decide) (by (have hc2 := hc.2.1; omega)) (by (have hc2 := hc.2.1; omega)) (fun c15 => ?_) (fun c15 => ?_)
    · exact aw_vret (aw_d q_Mo_end 12 rfl) rfl (⟨rfl, _, _, by rw [bp_ok]; simp only [me]; first | (rw [if_pos (by omega)]; exact RR_ok rfl hp rfl) | (rw [if_neg (by omega)]; exact RR_er (by have := hc.2.1; omega) rfl (by have := hc.2.1; omega)), rfl⟩)
    · refine aw_aload_n (aw_d q_Mo_end 8 rfl) rfl rfl rfl ?_
      refine aw_aload_n (aw_d q_Mo_end 9 rfl) rfl rfl rfl ?_
      refine aw_getf (v := .int (nI (b))) (aw_d q_Mo_end 10 rfl) fL_Mo_324_Mo rfl (gk rfl) ?_
      refine cVv (aw_d q_Mo_end 11 rfl) (sp_mfailA) vL_Mo_334_Mo rfl rfl rfl rfl rfl rfl ⟨aw_le rfl, aw_le rfl⟩ ?_
      exact aw_vret (aw_d q_Mo_end 12 rfl) rfl (⟨rfl, _, _, by rw [bp_ok]; simp only [me]; first | (rw [if_pos (by omega)]; exact RR_ok rfl hp rfl) | (rw [if_neg (by omega)]; exact RR_er (by have := hc.2.1; omega) rfl (by have := hc.2.1; omega)), rfl⟩)
set_option maxRecDepth 20000 in
theorem lp_mustJ {g : aw_G} {S : aw_S} {f z a : Int32} {X : Nat → Int32} {x : Int64} {j u : Nat} (hu : u ≤ 3000) : ∀ (m : Nat), m ≤ 8 → AW g M_Mo_must (aw_rm 1 21 0 0) (aw_F g 0 0 (fun r h => r = none ∧ h = HP (QM S a (nI u) f z X))) 5 [some (.ref 33), some (.long x), none, some (.int (nI j)), some (.int (dn m))] [] (HP (QM S a (nI u) f z X)) 0 0 := by
  intro m h8
  cases m with
  | zero =>
    refine aw_iload (aw_d q_Mo_must 4 rfl) rfl ?_
    refine aw_ifI_lt (tgt := 63) (aw_d q_Mo_must 5 rfl) (by decide) (fun c7 => ?_) (fun c7 => by exact absurd dn_0 (by omega))
    exact aw_vret (aw_d q_Mo_must 33 rfl) rfl (⟨rfl, rfl⟩)
  | succ m =>
    refine aw_iload (aw_d q_Mo_must 4 rfl) rfl ?_
    refine aw_ifN_lt (tgt := 63) (aw_d q_Mo_must 5 rfl) (by decide) (by omega) (fun c7 => by exfalso; omega) (fun c7 => ?_)
    refine aw_aload_n (aw_d q_Mo_must 6 rfl) rfl rfl rfl ?_
    refine cVr (aw_d q_Mo_must 7 rfl) (sp_goesI hu) vL_Mo_327_Mo rfl rfl rfl rfl rfl rfl ⟨aw_le rfl, aw_le rfl⟩ ?_
    refine aw_ifN_eq (tgt := 63) (aw_d q_Mo_must 8 rfl) (by decide) (by omega) (fun c14 => ?_) (fun c14 => by exfalso; omega)
    exact aw_vret (aw_d q_Mo_must 33 rfl) rfl (⟨rfl, rfl⟩)
set_option maxRecDepth 20000 in
theorem sp_mustI {g : aw_G} {S : aw_S} {u : Nat} {a f z : Int32} {X : Nat → Int32} (hu : u ≤ 3000) {x : Int64} {j : Nat} (hj : j ≤ 8) : Sp g M_Mo_must 1 21 0 0 [.ref 33, .long x, .int (nI j)] (HP (QM S a (nI u) f z X)) (fun r h => r = none ∧ h = HP (QM S a (nI u) f z X)) := by
  refine Sp.of rfl (aw_le rfl) ?_
  refine aw_iload_n (aw_d q_Mo_must 0 rfl) rfl rfl ?_
  refine aw_iconst (v := nI 1) (aw_d q_Mo_must 1 rfl) (by decide) ?_
  refine aw_isub (aw_d q_Mo_must 2 rfl) ?_
  refine aw_istore (aw_d q_Mo_must 3 rfl) (aw_le rfl) rfl ?_
  exact AW.to (lp_mustJ hu j hj) rfl (by rw [dn_sub]; rfl) rfl rfl
set_option maxRecDepth 20000 in
theorem sp_blanksI {g : aw_G} {S : aw_S} {u : Nat} {a f z : Int32} {X : Nat → Int32} (hu : u ≤ 3000)  : Sp g M_Mo_blanks 1 20 0 0 [.ref 33] (HP (QM S a (nI u) f z X)) (fun r h => r = none ∧ h = HP (QM S a (nI u) f z X)) := by
  refine Sp.of rfl (aw_le rfl) ?_
  refine aw_aload_n (aw_d q_Mo_blanks 0 rfl) rfl rfl rfl ?_
  refine cVr (aw_d q_Mo_blanks 1 rfl) (sp_goesI hu) vL_Mo_327_Mo rfl rfl rfl rfl rfl rfl ⟨aw_le rfl, aw_le rfl⟩ ?_
  refine aw_ifN_eq (tgt := 56) (aw_d q_Mo_blanks 2 rfl) (by decide) (by omega) (fun c4 => ?_) (fun c4 => by exfalso; omega)
  exact aw_vret (aw_d q_Mo_blanks 26 rfl) rfl (⟨rfl, rfl⟩)
set_option maxRecDepth 20000 in
theorem sp_signI {g : aw_G} {S : aw_S} {u : Nat} {a f z : Int32} {X : Nat → Int32} (hu : u ≤ 3000) {x : Int32} : Sp g M_Mo_sign 2 45 0 0 [.ref 33, .int x] (HP (QM S a (nI u) f z X)) (fun r h => r = none ∧ h = HP (QM S a (nI u) f z X)) := by
  refine Sp.of rfl (aw_le rfl) ?_
  refine aw_aload_n (aw_d q_Mo_sign 0 rfl) rfl rfl rfl ?_
  refine cVv (aw_d q_Mo_sign 1 rfl) (sp_blanksI hu) vL_Mo_337_Mo rfl rfl rfl rfl rfl rfl ⟨aw_le rfl, aw_le rfl⟩ ?_
  refine aw_aload_n (aw_d q_Mo_sign 2 rfl) rfl rfl rfl ?_
  refine aw_iload_n (aw_d q_Mo_sign 3 rfl) rfl rfl ?_
  refine aw_i2l (aw_d q_Mo_sign 4 rfl) ?_
  refine aw_iconst (v := nI 1) (aw_d q_Mo_sign 5 rfl) (by decide) ?_
  refine cVv (aw_d q_Mo_sign 6 rfl) (sp_mustI hu (by decide)) vL_Mo_340_Mo rfl rfl rfl rfl rfl rfl ⟨aw_le rfl, aw_le rfl⟩ ?_
  exact aw_vret (aw_d q_Mo_sign 7 rfl) rfl (⟨rfl, rfl⟩)
set_option maxRecDepth 20000 in
theorem sp_quotedI {g : aw_G} {S : aw_S} {u : Nat} {a f z : Int32} {X : Nat → Int32} (hu : u ≤ 3000) {x : Int64} {j : Nat} (hj : j ≤ 8) : Sp g M_Mo_quoted 3 66 0 0 [.ref 33, .long x, .int (nI j)] (HP (QM S a (nI u) f z X)) (fun r h => r = none ∧ h = HP (QM S a (nI u) f z X)) := by
  refine Sp.of rfl (aw_le rfl) ?_
  refine aw_aload_n (aw_d q_Mo_quoted 0 rfl) rfl rfl rfl ?_
  refine aw_bipush (v := nI 34) (aw_d q_Mo_quoted 1 rfl) (by decide) ?_
  refine cVv (aw_d q_Mo_quoted 2 rfl) (sp_signI hu) vL_Mo_343_Mo rfl rfl rfl rfl rfl rfl ⟨aw_le rfl, aw_le rfl⟩ ?_
  refine aw_aload_n (aw_d q_Mo_quoted 3 rfl) rfl rfl rfl ?_
  refine aw_lload_n (aw_d q_Mo_quoted 4 rfl) rfl rfl ?_
  refine aw_iload_n (aw_d q_Mo_quoted 5 rfl) rfl rfl ?_
  refine cVv (aw_d q_Mo_quoted 6 rfl) (sp_mustI hu hj) vL_Mo_340_Mo rfl rfl rfl rfl rfl rfl ⟨aw_le rfl, aw_le rfl⟩ ?_
  refine aw_aload_n (aw_d q_Mo_quoted 7 rfl) rfl rfl rfl ?_
  refine aw_ldc2 (aw_d q_Mo_quoted 8 rfl) lL_Mo_167 ?_
  refine aw_iconst (v := nI 1) (aw_d q_Mo_quoted 9 rfl) (by decide) ?_
  refine cVv (aw_d q_Mo_quoted 10 rfl) (sp_mustI hu (by decide)) vL_Mo_340_Mo rfl rfl rfl rfl rfl rfl ⟨aw_le rfl, aw_le rfl⟩ ?_
  exact aw_vret (aw_d q_Mo_quoted 11 rfl) rfl (⟨rfl, rfl⟩)
set_option maxRecDepth 20000 in
theorem sp_endI {g : aw_G} {S : aw_S} {u : Nat} {a f z : Int32} {X : Nat → Int32} (hu : u ≤ 3000)  : Sp g M_Mo_end 1 21 0 0 [.ref 33] (HP (QM S a (nI u) f z X)) (fun r h => r = none ∧ h = HP (QM S a (nI u) f z X)) := by
  refine Sp.of rfl (aw_le rfl) ?_
  refine aw_aload_n (aw_d q_Mo_end 0 rfl) rfl rfl rfl ?_
  refine cVr (aw_d q_Mo_end 1 rfl) (sp_goesI hu) vL_Mo_327_Mo rfl rfl rfl rfl rfl rfl ⟨aw_le rfl, aw_le rfl⟩ ?_
  refine aw_ifN_eq (tgt := 26) (aw_d q_Mo_end 2 rfl) (by decide) (by omega) (fun c4 => ?_) (fun c4 => by exfalso; omega)
  exact aw_vret (aw_d q_Mo_end 12 rfl) rfl (⟨rfl, rfl⟩)
theorem sp_Lmust {g : aw_G} {S : aw_S} {n : Nat} {T : Nat → Int32} {b : Nat} {q f z : Int32} {X : Nat → Int32} {β : Type} {res : Except Nat (Nat × β)} {A : List Int32} {x : Int64} {j : Nat} (hc : TPm S n T) (hj : j ≤ 8) (hx : (eB x j).all (fun b => decide (b.toInt ≠ 32)) = true) (hr : RR n (bp res (ml T n A)) b q) : Sp g M_Mo_must 1 21 0 0 [.ref 33, .long x, .int (nI j)] (HP (QM S (nI b) q f z X)) (fun r h => r = none ∧ ∃ (b : Nat) (q : Int32), RR n (bp res (ml T n (A ++ eB x j))) b q ∧ h = HP (QM S (nI b) q f z X)) := by
  have q1 := sp_mmust (g := g) (f := f) (z := z) (X := X) (x := x) hc hj hr
  rw [← ml_muF (T := T) (n := n) hx, bp_ml] at q1
  exact q1
theorem sp_Umust {g : aw_G} {S : aw_S} {n : Nat} {T : Nat → Int32} {b : Nat} {q f z : Int32} {X : Nat → Int32} {β : Type} {res : Except Nat (Nat × β)} {A : List Int32} {x : Int64} {j : Nat} (hc : TPm S n T) (hj : j ≤ 8) (hr : RR n (bp res (mu T A)) b q) : Sp g M_Mo_must 1 21 0 0 [.ref 33, .long x, .int (nI j)] (HP (QM S (nI b) q f z X)) (fun r h => r = none ∧ ∃ (b : Nat) (q : Int32), RR n (bp res (mu T (A ++ eB x j))) b q ∧ h = HP (QM S (nI b) q f z X)) := by
  have q1 := sp_mmust (g := g) (f := f) (z := z) (X := X) (x := x) hc hj hr
  rw [bp_mu] at q1
  exact q1
theorem sp_Lsign {g : aw_G} {S : aw_S} {n : Nat} {T : Nat → Int32} {b : Nat} {q f z : Int32} {X : Nat → Int32} {β : Type} {res : Except Nat (Nat × β)} {A : List Int32} {c : Nat} (hc : TPm S n T) (hs : eB (nI c).toInt64 1 = [nI c] ∧ (nI c).toInt ≠ 32) (hr : RR n (bp res (ml T n A)) b q) : Sp g M_Mo_sign 2 45 0 0 [.ref 33, .int (nI c)] (HP (QM S (nI b) q f z X)) (fun r h => r = none ∧ ∃ (b : Nat) (q : Int32), RR n (bp res (ml T n (A ++ [32, nI c]))) b q ∧ h = HP (QM S (nI b) q f z X)) := by
  have q1 := sp_msign (g := g) (f := f) (z := z) (X := X) hc hs hr
  rw [bp_ml] at q1
  exact q1
theorem sp_Lquoted {g : aw_G} {S : aw_S} {n : Nat} {T : Nat → Int32} {b : Nat} {q f z : Int32} {X : Nat → Int32} {β : Type} {res : Except Nat (Nat × β)} {A : List Int32} {x : Int64} {j : Nat} (hc : TPm S n T) (hj : j ≤ 8) (hx : (eB x j).all (fun b => decide (b.toInt ≠ 32)) = true) (hr : RR n (bp res (ml T n A)) b q) : Sp g M_Mo_quoted 3 66 0 0 [.ref 33, .long x, .int (nI j)] (HP (QM S (nI b) q f z X)) (fun r h => r = none ∧ ∃ (b : Nat) (q : Int32), RR n (bp res (ml T n (A ++ ([32, 34] ++ eB x j ++ [34])))) b q ∧ h = HP (QM S (nI b) q f z X)) := by
  have q1 := sp_mquoted (g := g) (f := f) (z := z) (X := X) (x := x) hc hj hx hr
  rw [bp_ml] at q1
  exact q1
theorem sp_Lblanks {g : aw_G} {S : aw_S} {n : Nat} {T : Nat → Int32} {b : Nat} {q f z : Int32} {X : Nat → Int32} {β : Type} {res : Except Nat (Nat × β)} {A : List Int32}  (hc : TPm S n T)  (hr : RR n (bp res (ml T n A)) b q) : Sp g M_Mo_blanks 1 20 0 0 [.ref 33] (HP (QM S (nI b) q f z X)) (fun r h => r = none ∧ ∃ (b : Nat) (q : Int32), RR n (bp res (ml T n (A ++ [32]))) b q ∧ h = HP (QM S (nI b) q f z X)) := by
  have q1 := sp_mblanks (g := g) (f := f) (z := z) (X := X) hc hr
  rw [show (fun p => (Except.ok (sk T n p) : Except Nat Nat)) = ml T n [32] from funext (fun p => (ml_sp (A := [])).symm), bp_ml] at q1
  exact q1
