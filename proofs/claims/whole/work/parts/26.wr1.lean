/-! THE PICTURE: what the class and the reference hold alike. Numbers of variables, rows, terms; lengths of names; kinds, extras, lengths of texts; bytes of names, bytes of texts; cells -/
abbrev xp_T : Type := (Nat × Nat × Nat) × (Nat → Nat) × (Nat → Nat) × (Nat → Nat) × (Nat → Nat) × (Nat → Nat → Int32) × (Nat → Nat → Int32) × (Nat → Nat → Option Nat)
def xp_v (P : xp_T) : Nat := P.1.1
def xp_r (P : xp_T) : Nat := P.1.2.1
def xp_t (P : xp_T) : Nat := P.1.2.2
def xp_nl (P : xp_T) : Nat → Nat := P.2.1
def xp_k (P : xp_T) : Nat → Nat := P.2.2.1
def xp_e (P : xp_T) : Nat → Nat := P.2.2.2.1
def xp_l (P : xp_T) : Nat → Nat := P.2.2.2.2.1
def xp_nb (P : xp_T) : Nat → Nat → Int32 := P.2.2.2.2.2.1
def xp_b (P : xp_T) : Nat → Nat → Int32 := P.2.2.2.2.2.2.1
def xp_c (P : xp_T) : Nat → Nat → Option Nat := P.2.2.2.2.2.2.2
/-- a term as it may be -/
def xp_ok (P : xp_T) (t : Nat) : Prop := xp_k P t ≤ 4 ∧ xp_l P t ≤ 20 ∧ xp_e P t < 676 ∧ (xp_k P t = 4 → xp_e P t < 4) ∧ (xp_k P t < 3 → xp_e P t = 0) ∧ (∀ i, i < xp_l P t → pTx (xp_b P t i) = true) ∧ okK (xp_k P t) (xp_b P t) (xp_l P t) = true
def xp_wd (P : xp_T) : Prop := (xp_v P ≤ 6 ∧ xp_r P ≤ 24 ∧ xp_t P ≤ 60) ∧ (∀ v, v < xp_v P → 1 ≤ xp_nl P v ∧ xp_nl P v ≤ 8) ∧ (∀ r v t, r < xp_r P → v < xp_v P → xp_c P r v = some t → t < xp_t P) ∧ ∀ t, t < xp_t P → xp_ok P t
/-- the class's cells hold the picture -/
def xp_C (S : aw_S) (P : xp_T) : Prop := (S.1 904 = nI (xp_t P) ∧ S.1 1403 = nI (xp_v P) ∧ S.1 1404 = nI (xp_r P)) ∧ (∀ v, v < xp_v P → S.2 16 v = nI (xp_nl P v) ∧ ∀ i, i < xp_nl P v → S.2 15 (v * 8 + i) = xp_nb P v i) ∧ (∀ r v, r < xp_r P → v < xp_v P → S.2 17 (r * 6 + v) = oI (xp_c P r v)) ∧ ∀ t, t < xp_t P → S.2 10 t = nI (xp_k P t) ∧ S.2 11 t = nI (xp_e P t) ∧ S.2 12 t = nI (xp_l P t) ∧ ∀ i, i < xp_l P t → S.2 13 (t * 20 + i) = xp_b P t i
/-- the reference's -/
def xp_M (S : aw_S) (P : xp_T) : Prop := (S.1 3306 = nI (xp_t P) ∧ S.1 3311 = nI (xp_v P) ∧ S.1 3314 = nI (xp_r P)) ∧ (∀ v, v < xp_v P → S.2 41 v = nI (xp_nl P v) ∧ ∀ i, i < xp_nl P v → S.2 42 (v * 8 + i) = xp_nb P v i) ∧ (∀ r v, r < xp_r P → v < xp_v P → S.2 43 (r * 6 + v) = oI (xp_c P r v)) ∧ ∀ t, t < xp_t P → S.2 37 t = nI (xp_k P t) ∧ S.2 38 t = nI (xp_e P t) ∧ S.2 39 t = nI (xp_l P t) ∧ ∀ i, i < xp_l P t → S.2 40 (t * 20 + i) = xp_b P t i
theorem xp_TeI {S : aw_S} {P : xp_T} (hP : xp_C S P) (hW : xp_wd P) : TeI S (xp_t P) (xp_l P) := ⟨hP.1.1, by have := hW.1; omega, fun t ht => ⟨(hP.2.2.2 t ht).2.2.1, (hW.2.2.2 t ht).2.1⟩⟩
theorem xp_TbI {S : aw_S} {P : xp_T} (hP : xp_C S P) (hW : xp_wd P) : TbI_14 S (xp_v P) (xp_r P) (xp_nl P) := ⟨hP.1.2.1, hW.1.1, hP.1.2.2, hW.1.2.1, fun v hv => ⟨(hP.2.1 v hv).1, (hW.2.1 v hv).2⟩⟩
/-! what is written: lists of bytes; the sheet holds the first 3000 -/
def WA (O : List Int32) (f : Nat → Int32) : Nat → Int32 := fun i => if i < min O.length 3000 then O.getD i 0 else f i
def WS (S : aw_S) (O : List Int32) : aw_S := sa (si (si S 501 (nI (min O.length 3000))) 502 (if 3000 < O.length then nI 1 else nI 0)) 6 (WA O (S.2 6))
def MS (S : aw_S) (O : List Int32) : aw_S := sa (si S 3304 (nI O.length)) 36 (WA O (S.2 36))
theorem s_ext {a b : aw_S} (h1 : ∀ k, a.1 k = b.1 k) (h2 : ∀ k, a.2 k = b.2 k) : a = b := Prod.ext (funext h1) (funext h2)
theorem WA_add {O : List Int32} {f : Nat → Int32} {b : Int32} (h : O.length < 3000) : upd (WA O f) O.length b = WA (O ++ [b]) f := by
  funext i
  simp only [upd, WA, List.length_append, List.length_singleton]
  by_cases h1 : i = O.length
  · rw [if_pos h1, if_pos (by omega), h1]; simp [List.getD]
  · rw [if_neg h1]
    by_cases h2 : i < min O.length 3000
    · rw [if_pos h2, if_pos (by omega)]; simp only [List.getD]; rw [List.getElem?_append_left (by omega)]
    · rw [if_neg h2, if_neg (by omega)]
theorem WA_full {O : List Int32} {f : Nat → Int32} {b : Int32} (h : 3000 ≤ O.length) : WA O f = WA (O ++ [b]) f := by
  funext i
  simp only [WA, List.length_append, List.length_singleton]
  by_cases h2 : i < min O.length 3000
  · rw [if_pos h2, if_pos (by omega)]; simp only [List.getD]; rw [List.getElem?_append_left (by omega)]
  · rw [if_neg h2, if_neg (by omega)]
theorem WS_add {S : aw_S} {O : List Int32} {b : Int32} (h : O.length < 3000) : si (sa (WS S O) 6 (upd ((WS S O).2 6) O.length b)) 501 (nI (O.length + 1)) = WS S (O ++ [b]) := by
  refine s_ext (fun k => ?_) (fun k => ?_)
  · simp only [WS, si_1, sa_1, List.length_append, List.length_singleton]
    by_cases h1 : k = 501
    · rw [if_pos h1, if_neg (by omega), if_pos h1, Nat.min_eq_left (by omega)]
    · rw [if_neg h1, if_neg h1, if_neg h1]
      by_cases h2 : k = 502
      · rw [if_pos h2, if_pos h2, if_neg (by omega), if_neg (by omega)]
      · rw [if_neg h2, if_neg h2]
  · show (if k = 6 then upd (WA O (S.2 6)) O.length b else if k = 6 then WA O (S.2 6) else S.2 k) = (if k = 6 then WA (O ++ [b]) (S.2 6) else S.2 k)
    by_cases h1 : k = 6
    · rw [if_pos h1, if_pos h1, WA_add h]
    · rw [if_neg h1, if_neg h1, if_neg h1]
theorem WS_full {S : aw_S} {O : List Int32} {b : Int32} (h : 3000 ≤ O.length) : si (WS S O) 502 (nI 1) = WS S (O ++ [b]) := by
  refine s_ext (fun k => ?_) (fun k => ?_)
  · simp only [WS, si_1, sa_1, List.length_append, List.length_singleton]
    by_cases h1 : k = 502
    · rw [if_pos h1, if_pos h1, if_pos (by omega)]
    · rw [if_neg h1, if_neg h1, if_neg h1, Nat.min_eq_right (by omega), Nat.min_eq_right (by omega)]
  · show (if k = 6 then WA O (S.2 6) else S.2 k) = (if k = 6 then WA (O ++ [b]) (S.2 6) else S.2 k)
    rw [WA_full h]
theorem WS_nil {S : aw_S} : si (si S 501 (nI 0)) 502 (nI 0) = WS S [] := by
  refine s_ext (fun k => rfl) (fun k => ?_)
  show S.2 k = (if k = 6 then WA [] (S.2 6) else S.2 k)
  by_cases h1 : k = 6
  · rw [if_pos h1, h1]; rfl
  · rw [if_neg h1]
theorem MS_add {S : aw_S} {O : List Int32} {b : Int32} (h : O.length < 3000) : si (sa (MS S O) 36 (upd ((MS S O).2 36) O.length b)) 3304 (nI (O.length + 1)) = MS S (O ++ [b]) := by
  refine s_ext (fun k => ?_) (fun k => ?_)
  · simp only [MS, si_1, sa_1, List.length_append, List.length_singleton]
    by_cases h1 : k = 3304
    · rw [if_pos h1, if_pos h1]
    · rw [if_neg h1, if_neg h1, if_neg h1]
  · show (if k = 36 then upd (WA O (S.2 36)) O.length b else if k = 36 then WA O (S.2 36) else S.2 k) = (if k = 36 then WA (O ++ [b]) (S.2 36) else S.2 k)
    by_cases h1 : k = 36
    · rw [if_pos h1, if_pos h1, WA_add h]
    · rw [if_neg h1, if_neg h1, if_neg h1]
theorem MS_full {S : aw_S} {O : List Int32} {b : Int32} (h : 3000 ≤ O.length) : si (MS S O) 3304 (nI (O.length + 1)) = MS S (O ++ [b]) := by
  refine s_ext (fun k => ?_) (fun k => ?_)
  · simp only [MS, si_1, sa_1, List.length_append, List.length_singleton]
    by_cases h1 : k = 3304
    · rw [if_pos h1, if_pos h1]
    · rw [if_neg h1, if_neg h1, if_neg h1]
  · show (if k = 36 then WA O (S.2 36) else S.2 k) = (if k = 36 then WA (O ++ [b]) (S.2 36) else S.2 k)
    rw [WA_full h]
theorem MS_nil {S : aw_S} : si S 3304 (nI 0) = MS S [] := by
  refine s_ext (fun k => rfl) (fun k => ?_)
  show S.2 k = (if k = 36 then WA [] (S.2 36) else S.2 k)
  by_cases h1 : k = 36
  · rw [if_pos h1, h1]; rfl
  · rw [if_neg h1]
/-! the words of what is written -/
def catB (f : Nat → List Int32) : Nat → Nat → List Int32
  | 0, _ => []
  | m + 1, k => f k ++ catB f m (k + 1)
/-- text constant j -/
def tx (j : Nat) : List Int32 := aw_byt.getD j []
/-- the n last bytes of a long -/
def eB (x : Int64) : Nat → List Int32
  | 0 => []
  | m + 1 => bM x m :: eB x m
theorem eB_len (x : Int64) : ∀ n, (eB x n).length = n
  | 0 => rfl
  | n + 1 => by simp only [eB, List.length_cons]; rw [eB_len x n]
theorem catB_congr {f f' : Nat → List Int32} : ∀ {m k : Nat}, (∀ i, k ≤ i → i < k + m → f i = f' i) → catB f m k = catB f' m k := by
  intro m
  induction m with
  | zero => intro k _; rfl
  | succ m ih =>
    intro k h
    simp only [catB]
    rw [h k (by omega) (by omega), ih (fun i h1 h2 => h i (by omega) (by omega))]
theorem catB_len {f : Nat → List Int32} {c : Nat} : ∀ {m k : Nat}, (∀ i, k ≤ i → i < k + m → (f i).length ≤ c) → (catB f m k).length ≤ m * c := by
  intro m
  induction m with
  | zero => intro k _; exact Nat.zero_le _
  | succ m ih =>
    intro k h
    simp only [catB, List.length_append]
    have h1 := h k (by omega) (by omega)
    have h2 := ih (k := k + 1) (fun i h1 h2 => h i (by omega) (by omega))
    rw [Nat.succ_mul]
    omega
def w_0 (b : Int32) : List Int32 := [b]
def w_1 (b : Int32) : List Int32 := if b.toInt = 34 then tx 12 else if b.toInt = 92 then tx 13 else if b.toInt = 9 then tx 14 else if b.toInt = 10 then tx 15 else if b.toInt = 13 then tx 16 else [b]
def w_2 (b : Int32) : List Int32 := if b.toInt = 38 then tx 37 else if b.toInt = 60 then tx 38 else if b.toInt = 62 then tx 39 else if b.toInt = 13 then tx 40 else [b]
def w_3 (b : Int32) : List Int32 := if b.toInt = 34 then [nI 34, nI 34] else [b]
def w_n (P : xp_T) (v : Nat) : List Int32 := catB (fun i => [xp_nb P v i]) (xp_nl P v) 0
def w_t (f : Int32 → List Int32) (P : xp_T) (t : Nat) : List Int32 := catB (fun i => f (xp_b P t i)) (xp_l P t) 0
def w_e (P : xp_T) (t : Nat) : List Int32 := if xp_k P t = 3 then [nI (97 + xp_e P t / 26), nI (97 + xp_e P t % 26)] else tx (19 + xp_e P t)
def w_jn (P : xp_T) (v : Nat) : List Int32 := nI 34 :: (w_n P v ++ [nI 34])
def w_jt (P : xp_T) (t : Nat) : List Int32 := tx 7 ++ ((if xp_k P t = 0 then tx 8 else if xp_k P t = 1 then tx 9 else tx 10) ++ (tx 11 ++ (w_t w_1 P t ++ ((if xp_k P t = 3 then tx 17 ++ w_e P t else if xp_k P t = 4 then tx 18 ++ w_e P t else []) ++ tx 23))))
def rjB (ce : Nat → Option Nat) (f : Nat → Nat → List Int32) : Nat → Nat → Bool → List Int32
  | 0, _, _ => []
  | m + 1, v, b => match ce v with
    | none => rjB ce f m (v + 1) b
    | some t => (if b then [] else [nI 44]) ++ (f v t ++ rjB ce f m (v + 1) false)
def w_jr (P : xp_T) (r : Nat) : List Int32 := nI 123 :: (rjB (xp_c P r) (fun v t => w_jn P v ++ w_jt P t) (xp_v P) 0 true ++ [nI 125])
def w_se (c : Int32) (k : Nat) : List Int32 := if 0 < k then [c] else []
def w_j (P : xp_T) : List Int32 := tx 5 ++ (catB (fun v => w_se (nI 44) v ++ w_jn P v) (xp_v P) 0 ++ (tx 6 ++ (catB (fun r => w_se (nI 44) r ++ w_jr P r) (xp_r P) 0 ++ tx 24)))
def w_xt (P : xp_T) (t : Nat) : List Int32 := (if xp_k P t = 0 then tx 32 else if xp_k P t = 1 then tx 33 else tx 34) ++ ((if xp_k P t = 3 then tx 35 ++ (w_e P t ++ [nI 34]) else if xp_k P t = 4 then tx 36 ++ (w_e P t ++ [nI 34]) else []) ++ (nI 62 :: (w_t w_2 P t ++ (if xp_k P t = 0 then tx 41 else if xp_k P t = 1 then tx 42 else tx 43))))
def w_xc (P : xp_T) (r v : Nat) : List Int32 := match xp_c P r v with
  | none => []
  | some t => tx 30 ++ (w_n P v ++ (tx 31 ++ (w_xt P t ++ tx 44)))
def w_xr (P : xp_T) (r : Nat) : List Int32 := tx 29 ++ (catB (w_xc P r) (xp_v P) 0 ++ tx 45)
def w_x (P : xp_T) : List Int32 := tx 25 ++ (catB (fun v => tx 26 ++ (w_n P v ++ tx 27)) (xp_v P) 0 ++ (tx 28 ++ (catB (w_xr P) (xp_r P) 0 ++ tx 46)))
/-- quotes are needed -/
def w_q1 (b : Int32) : Bool := decide (b.toInt = 44 ∨ b.toInt = 34 ∨ b.toInt = 10 ∨ b.toInt = 13)
def w_qu (P : xp_T) (t : Nat) : Bool := decide (xp_l P t = 0) || (decide (1 < xp_l P t ∧ (xp_b P t 0).toInt = 95 ∧ (xp_b P t 1).toInt = 58) || !(allB (fun b => !(w_q1 b)) (xp_b P t) (xp_l P t) 0))
def w_ct (P : xp_T) (t : Nat) : List Int32 := if xp_k P t = 1 then tx 47 ++ w_t w_0 P t else if w_qu P t = true then nI 34 :: (w_t w_3 P t ++ [nI 34]) else w_t w_0 P t
def w_tt (P : xp_T) (t : Nat) : List Int32 := if xp_k P t = 0 then nI 60 :: (w_t w_0 P t ++ [nI 62]) else if xp_k P t = 1 then tx 50 ++ w_t w_0 P t else nI 34 :: (w_t w_1 P t ++ (if xp_k P t = 2 then tx 52 else if xp_k P t = 3 then tx 53 ++ w_e P t else tx 54 ++ w_e P t))
def w_lt (c : Bool) (P : xp_T) (t : Nat) : List Int32 := if c then w_ct P t else w_tt P t
def w_le (c : Bool) : List Int32 := if c then tx 1 else tx 3
def w_ls (c : Bool) : Int32 := if c then nI 44 else nI 9
def w_lm (c : Bool) : List Int32 := if c then tx 0 else tx 2
def w_lc (c : Bool) (P : xp_T) (r v : Nat) : List Int32 := match xp_c P r v with
  | none => []
  | some t => w_lt c P t
def w_lr (c : Bool) (P : xp_T) (r : Nat) : List Int32 := catB (fun v => w_se (w_ls c) v ++ w_lc c P r v) (xp_v P) 0 ++ w_le c
def w_l (c : Bool) (P : xp_T) : List Int32 := catB (fun v => w_se (w_ls c) v ++ (w_lm c ++ w_n P v)) (xp_v P) 0 ++ (w_le c ++ catB (w_lr c P) (xp_r P) 0)
def w_tr (j : Bool) (v : Bool) : List Int32 := if j then tx 55 ++ (tx (if v then 56 else 57) ++ [nI 125]) else tx 58 ++ (tx (if v then 56 else 57) ++ tx 59)
theorem sp_add5 {g : aw_G} {S : aw_S} {O : List Int32} {b : Int32} : Sp g M_By_add 0 0 0 0 [.ref 5, .int b] (HP (WS S O)) (fun r h => r = none ∧ h = HP (WS S (O ++ [b]))) := by
  by_cases h : O.length < 3000
  · have q := sp_By_add_5 (g := g) (S := WS S O) (n := O.length) (b := b) (by show nI (min O.length 3000) = _; rw [Nat.min_eq_left (by omega)]) h
    rw [WS_add h] at q
    exact q
  · have q := sp_By_addF_5 (g := g) (S := WS S O) (b := b) (by show nI (min O.length 3000) = _; rw [Nat.min_eq_right (by omega)])
    rw [WS_full (b := b) (by omega)] at q
    exact q
theorem tx_ch {j : Nat} (hi : j < aw_nS) : tx j = catB (fun i => [aw_ch j i]) (aw_len.getD j 0) 0 := by
  have h : ∀ (L : List Int32) (m k : Nat), m + k = L.length → L.drop k = catB (fun i => [L.getD i 0]) m k := by
    intro L m
    induction m with
    | zero => intro k hk; rw [List.drop_eq_nil_of_le (by omega)]; rfl
    | succ m ih =>
      intro k hk
      simp only [catB]
      rw [← ih (k + 1) (by omega), List.drop_eq_getElem_cons (show k < L.length by omega)]
      simp [List.getD, List.getElem?_eq_getElem (show k < L.length by omega)]
  have := h (tx j) (aw_len.getD j 0) 0 (by rw [aw_len_is hi]; rfl)
  rw [List.drop_zero] at this
  rw [this]
  rfl
set_option maxRecDepth 20000 in
theorem lp_addAll {g : aw_G} {S : aw_S} {O : List Int32} {j : Nat} (hi : j < aw_nS) : ∀ (m k : Nat) (Q : List Int32), m + k = aw_len.getD j 0 → Q ++ catB (fun i => [aw_ch j i]) m k = O ++ tx j → AW g M_By_addAll (aw_rm 4 85 0 0) (aw_F g 0 0 (fun r h => r = none ∧ h = HP (WS S (O ++ tx j)))) 2 [some (.ref 5), some (.retAddr j), some (.int (nI k))] [] (HP (WS S Q)) 0 0 := by
  intro m
  induction m with
  | zero =>
    intro k Q hk e
    refine aw_iload_n (aw_d q_By_addAll 2 rfl) rfl rfl ?_
    refine aw_aload_n (aw_d q_By_addAll 3 rfl) rfl rfl rfl ?_
    refine cT (aw_d q_By_addAll 4 rfl) hi (sp_JS_length hi) vL_By_23_JS rfl rfl rfl rfl ⟨aw_le rfl, aw_le rfl⟩ ?_
    refine aw_icmpN_ge (tgt := 25) (aw_d q_By_addAll 5 rfl) (by decide) (by (have hz := aw_len_lt hi; omega)) (by (have hz := aw_len_lt hi; omega)) (fun c7 => ?_) (fun c7 => by exfalso; (have hz := aw_len_lt hi; omega))
    exact aw_vret (aw_d q_By_addAll 13 rfl) rfl (⟨rfl, by rw [← e]; simp only [catB, List.append_nil]⟩)
  | succ m ih =>
    intro k Q hk e
    refine aw_iload_n (aw_d q_By_addAll 2 rfl) rfl rfl ?_
    refine aw_aload_n (aw_d q_By_addAll 3 rfl) rfl rfl rfl ?_
    refine cT (aw_d q_By_addAll 4 rfl) hi (sp_JS_length hi) vL_By_23_JS rfl rfl rfl rfl ⟨aw_le rfl, aw_le rfl⟩ ?_
    refine aw_icmpN_ge (tgt := 25) (aw_d q_By_addAll 5 rfl) (by decide) (by (have hz := aw_len_lt hi; omega)) (by (have hz := aw_len_lt hi; omega)) (fun c7 => by exfalso; (have hz := aw_len_lt hi; omega)) (fun c7 => ?_)
    refine aw_aload_n (aw_d q_By_addAll 6 rfl) rfl rfl rfl ?_
    refine aw_aload_n (aw_d q_By_addAll 7 rfl) rfl rfl rfl ?_
    refine aw_iload_n (aw_d q_By_addAll 8 rfl) rfl rfl ?_
    refine cT (aw_d q_By_addAll 9 rfl) hi (sp_JS_charAt hi (by omega)) vL_By_28_JS rfl rfl rfl rfl ⟨aw_le rfl, aw_le rfl⟩ ?_
    refine cVv (aw_d q_By_addAll 10 rfl) (sp_add5) vL_By_32_By rfl rfl rfl rfl rfl rfl ⟨aw_le rfl, aw_le rfl⟩ ?_
    refine aw_iinc (aw_d q_By_addAll 11 rfl) rfl (ii1 _) (aw_le rfl) rfl ?_
    refine aw_goto (tgt := 2) (aw_d q_By_addAll 12 rfl) (by decide) ?_
    exact ih (k + 1) _ (by omega) (by rw [← e]; simp only [catB, List.append_assoc])
set_option maxRecDepth 20000 in
theorem sp_addAll {g : aw_G} {S : aw_S} {O : List Int32} {j : Nat} (hi : j < aw_nS) : Sp g M_By_addAll 4 85 0 0 [.ref 5, .retAddr j] (HP (WS S O)) (fun r h => r = none ∧ h = HP (WS S (O ++ tx j))) := by
  refine Sp.of rfl (aw_le rfl) ?_
  refine aw_iconst (v := nI 0) (aw_d q_By_addAll 0 rfl) (by decide) ?_
  refine aw_istore_n (aw_d q_By_addAll 1 rfl) rfl (aw_le rfl) rfl ?_
  exact lp_addAll hi (aw_len.getD j 0) 0 O (by omega) (by rw [← tx_ch hi])
set_option maxRecDepth 20000 in
theorem lp_printName {g : aw_G} {S : aw_S} {O : List Int32} {P : xp_T} (hP : xp_C S P) (hW : xp_wd P) {v : Nat} (hv : v < xp_v P) : ∀ (m k : Nat) (Q : List Int32), m + k = xp_nl P v → Q ++ catB (fun i => [xp_nb P v i]) m k = O ++ w_n P v → AW g M_Tb_printName (aw_rm 1 22 0 0) (aw_F g 0 0 (fun r h => r = none ∧ h = HP (WS S (O ++ w_n P v)))) 2 [some (.ref 14), some (.int (nI v)), some (.ref 5), some (.int (nI k))] [] (HP (WS S Q)) 0 0 := by
  intro m
  induction m with
  | zero =>
    intro k Q hk e
    refine aw_iload_n (aw_d q_Tb_printName 2 rfl) rfl rfl ?_
    refine aw_aload_n (aw_d q_Tb_printName 3 rfl) rfl rfl rfl ?_
    refine aw_iload_n (aw_d q_Tb_printName 4 rfl) rfl rfl ?_
    refine cVr (aw_d q_Tb_printName 5 rfl) (sp_Tb_lengthOfName_14 (xp_TbI (S := WS S _) hP hW) hv) vL_Tb_32_Tb rfl rfl rfl rfl rfl rfl ⟨aw_le rfl, aw_le rfl⟩ ?_
    refine aw_icmpN_ge (tgt := 27) (aw_d q_Tb_printName 6 rfl) (by decide) (by (have hz := (hW.2.1 v hv).2; omega)) (by (have hz := (hW.2.1 v hv).2; omega)) (fun c8 => ?_) (fun c8 => by exfalso; (have hz := (hW.2.1 v hv).2; omega))
    exact aw_vret (aw_d q_Tb_printName 15 rfl) rfl (⟨rfl, by rw [← e]; simp only [catB, List.append_nil]⟩)
  | succ m ih =>
    intro k Q hk e
    refine aw_iload_n (aw_d q_Tb_printName 2 rfl) rfl rfl ?_
    refine aw_aload_n (aw_d q_Tb_printName 3 rfl) rfl rfl rfl ?_
    refine aw_iload_n (aw_d q_Tb_printName 4 rfl) rfl rfl ?_
    refine cVr (aw_d q_Tb_printName 5 rfl) (sp_Tb_lengthOfName_14 (xp_TbI (S := WS S _) hP hW) hv) vL_Tb_32_Tb rfl rfl rfl rfl rfl rfl ⟨aw_le rfl, aw_le rfl⟩ ?_
    refine aw_icmpN_ge (tgt := 27) (aw_d q_Tb_printName 6 rfl) (by decide) (by (have hz := (hW.2.1 v hv).2; omega)) (by (have hz := (hW.2.1 v hv).2; omega)) (fun c8 => by exfalso; (have hz := (hW.2.1 v hv).2; omega)) (fun c8 => ?_)
    refine aw_aload_n (aw_d q_Tb_printName 7 rfl) rfl rfl rfl ?_
    refine aw_aload_n (aw_d q_Tb_printName 8 rfl) rfl rfl rfl ?_
    refine aw_iload_n (aw_d q_Tb_printName 9 rfl) rfl rfl ?_
    refine aw_iload_n (aw_d q_Tb_printName 10 rfl) rfl rfl ?_
    refine cVr (aw_d q_Tb_printName 11 rfl) (sp_Tb_byteOfName_14 (xp_TbI (S := WS S _) hP hW) hv (k := k) (by omega)) vL_Tb_36_Tb rfl rfl rfl rfl rfl rfl ⟨aw_le rfl, aw_le rfl⟩ ?_
    refine cVv (aw_d q_Tb_printName 12 rfl) (sp_add5) vL_Tb_45_By rfl rfl rfl rfl rfl rfl ⟨aw_le rfl, aw_le rfl⟩ ?_
    refine aw_iinc (aw_d q_Tb_printName 13 rfl) rfl (ii1 _) (aw_le rfl) rfl ?_
    refine aw_goto (tgt := 2) (aw_d q_Tb_printName 14 rfl) (by decide) ?_
    exact ih (k + 1) _ (by omega) (by rw [← e]; simp only [catB, List.append_assoc]; rw [← (hP.2.1 v hv).2 k (by omega)]; rfl)
set_option maxRecDepth 20000 in
theorem sp_printName {g : aw_G} {S : aw_S} {O : List Int32} {P : xp_T} (hP : xp_C S P) (hW : xp_wd P) {v : Nat} (hv : v < xp_v P) : Sp g M_Tb_printName 1 22 0 0 [.ref 14, .int (nI v), .ref 5] (HP (WS S O)) (fun r h => r = none ∧ h = HP (WS S (O ++ w_n P v))) := by
  refine Sp.of rfl (aw_le rfl) ?_
  refine aw_iconst (v := nI 0) (aw_d q_Tb_printName 0 rfl) (by decide) ?_
  refine aw_istore_n (aw_d q_Tb_printName 1 rfl) rfl (aw_le rfl) rfl ?_
  exact lp_printName hP hW hv _ 0 O (by omega) rfl
