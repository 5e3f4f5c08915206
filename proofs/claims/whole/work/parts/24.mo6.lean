/-- the i-th row that finds none: each row takes the first that is like it and that is free -/
def lkM (p : Nat → Nat → Bool) (K : Nat) : Nat → Nat → Nat → (Nat → Bool) → Int32
  | 0, _, _, _ => -2
  | m + 1, r, left, tk => match fdB (fun k => !tk k && p r k) K 0 with
    | some k => lkM p K m (r + 1) left (fun j => if j = k then true else tk j)
    | none => if left = 0 then nI r else lkM p K m (r + 1) (left - 1) tk
/-- the boolean array holds tk at its first places -/
def TkI (f : Nat → Int32) (tk : Nat → Bool) : Prop := ∀ k, k < 24 → f k = (if tk k = true then nI 1 else nI 0)
/-- the last one found when one goes down -/
def fdD (p : Nat → Bool) : Nat → Option Nat → Option Nat
  | 0, o => o
  | m + 1, o => fdD p m (if p m then some m else o)
theorem fdD_t {p : Nat → Bool} {m : Nat} {o : Option Nat} (h : p m = true) : fdD p (m + 1) o = fdD p m (some m) := by rw [fdD, if_pos h]
theorem fdD_f {p : Nat → Bool} {m : Nat} {o : Option Nat} (h : p m = false) : fdD p (m + 1) o = fdD p m o := by rw [fdD, if_neg (by rw [h]; exact Bool.false_ne_true)]
theorem fdD_some {p : Nat → Bool} : ∀ (m : Nat) (o : Option Nat), fdD p m o = (fdB p m 0).or o := by
  have key : ∀ (m k : Nat), fdB p (m + 1) k = (fdB p m k).or (if p (k + m) then some (k + m) else none) := by
    intro m
    induction m with
    | zero => intro k; simp [fdB]
    | succ m ih =>
      intro k
      rw [fdB]
      by_cases h : p k = true
      · rw [if_pos h, fdB, if_pos h]; rfl
      · rw [if_neg h, ih (k + 1), fdB, if_neg h, show k + 1 + m = k + (m + 1) by omega]
  intro m
  induction m with
  | zero => intro o; rfl
  | succ m ih =>
    intro o
    rw [fdD, ih, key m 0, Nat.zero_add, Option.or_assoc]
    congr 1
    split <;> rfl
set_option maxRecDepth 20000 in
theorem sp_Mo_lacksN {g : aw_G} {S : aw_S} {b : Int32} (h8 : S.1 3316 = nI 0) : Sp g M_Mo_lacks 1 24 0 0 [.ref 33, .int b] (HP S) (fun r h => r = some (.int (-2)) ∧ h = HP S) := by
  refine Sp.of rfl (aw_le rfl) ?_
  refine aw_aload_n (aw_d q_Mo_lacks 0 rfl) rfl rfl rfl ?_
  refine aw_getf (v := .int (nI (0))) (aw_d q_Mo_lacks 1 rfl) fL_Mo_487_Mo rfl (gk h8) ?_
  refine aw_ifN_ne (tgt := 10) (aw_d q_Mo_lacks 2 rfl) (by decide) (by omega) (fun c4 => by exfalso; omega) (fun c4 => ?_)
  refine aw_bipush (v := (-2)) (aw_d q_Mo_lacks 3 rfl) (by decide) ?_
  exact aw_iret (aw_d q_Mo_lacks 4 rfl) rfl (⟨rfl, rfl⟩)
set_option maxRecDepth 20000 in
theorem lp_Mo_lk0 {g : aw_G} {S : aw_S} {post : Option Value → aw_hp → Prop} {b : Int32} (K : ∀ (T : Nat → Int32) (x2 : Option Value), TkI T (fun _ => false) → AW g M_Mo_lacks (aw_rm 1 24 0 0) (aw_F g 0 0 post) 31 [some (.ref 33), some (.int b), x2, none, none, none] [] (HP (sa S 47 T)) 0 0) : ∀ (m k : Nat) (T : Nat → Int32), m + k = 24 → (∀ j, j < k → T j = nI 0) → AW g M_Mo_lacks (aw_rm 1 24 0 0) (aw_F g 0 0 (post)) 12 [some (.ref 33), some (.int b), some (.int (nI k)), none, none, none] [] (HP (sa S 47 T)) 0 0 := by
  intro m
  induction m with
  | zero =>
    intro k T hk e1
    refine aw_iload_n (aw_d q_Mo_lacks 7 rfl) rfl rfl ?_
    refine aw_bipush (v := nI 24) (aw_d q_Mo_lacks 8 rfl) (by decide) ?_
    refine aw_icmpN_ge (tgt := 31) (aw_d q_Mo_lacks 9 rfl) (by decide) (by omega) (by omega) (fun c15 => ?_) (fun c15 => by exfalso; omega)
    exact K T _ (fun j hj => by rw [e1 j (by omega)]; rfl)
  | succ m ih =>
    intro k T hk e1
    refine aw_iload_n (aw_d q_Mo_lacks 7 rfl) rfl rfl ?_
    refine aw_bipush (v := nI 24) (aw_d q_Mo_lacks 8 rfl) (by decide) ?_
    refine aw_icmpN_ge (tgt := 31) (aw_d q_Mo_lacks 9 rfl) (by decide) (by omega) (by omega) (fun c15 => by exfalso; omega) (fun c15 => ?_)
    refine aw_aload_n (aw_d q_Mo_lacks 10 rfl) rfl rfl rfl ?_
    refine aw_getf (aw_d q_Mo_lacks 11 rfl) fL_Mo_49_Mo rfl rfl ?_
    refine aw_iload_n (aw_d q_Mo_lacks 12 rfl) rfl rfl ?_
    refine aw_iconst (v := nI 0) (aw_d q_Mo_lacks 13 rfl) (by decide) ?_
    refine wn_47 (aw_d q_Mo_lacks 14 rfl) (by omega) (Or.inl rfl) ?_
    refine aw_iinc (aw_d q_Mo_lacks 15 rfl) rfl (ii1 _) (aw_le rfl) rfl ?_
    refine aw_goto (tgt := 12) (aw_d q_Mo_lacks 16 rfl) (by decide) ?_
    refine AW.to (ih (k + 1) (upd T k (nI 0)) (by omega) (fun j hj => ?_)) rfl rfl rfl rfl
    by_cases hjk : j = k
    · rw [hjk]; exact pk_us
    · rw [pk_un hjk]; exact e1 j (by omega)
set_option maxRecDepth 20000 in
theorem lp_Mo_lk2 {g : aw_G} {S : aw_S} {nv nr : Nat} {nl : Nat → Nat} (hB : TmB S nv nr nl) {nv2 nr2 : Nat} {nl2 : Nat → Nat} (hD : TmK S nv2 nr2 nl2) {post : Option Value → aw_hp → Prop} {T : Nat → Int32} {tk : Nat → Bool} (hk : TkI T tk) {i left : Int32} {r : Nat} (hr : r < nr) {res : Option Nat} (K : ∀ x5 : Option Value, AW g M_Mo_lacks (aw_rm 1 24 0 0) (aw_F g 0 0 post) 105 [some (.ref 33), some (.int i), some (.int left), some (.int (nI r)), some (.int (oI res)), x5] [] (HP (sa S 47 T)) 0 0) : ∀ (m : Nat) (fo : Option Nat), m ≤ nr2 → fdD (fun k => !tk k && (fun q k => (decide (nv2 = nv) && nsB (S.2 41) (S.2 42) (S.2 44) (S.2 45) nv 0) && rwB (S.2 43) (S.2 46) nv q k) r k) m fo = res → ((decide (nv2 = nv) && nsB (S.2 41) (S.2 42) (S.2 44) (S.2 45) nv 0) = false → fo = none) → AW g M_Mo_lacks (aw_rm 1 24 0 0) (aw_F g 0 0 (post)) 58 [some (.ref 33), some (.int i), some (.int left), some (.int (nI r)), some (.int (oI fo)), some (.int (dn m))] [] (HP (sa S 47 T)) 0 0 := by
  intro m
  induction m with
  | zero =>
    intro fo hmr e hz
    refine aw_iload (aw_d q_Mo_lacks 34 rfl) rfl ?_
    refine aw_ifI_lt (tgt := 105) (aw_d q_Mo_lacks 35 rfl) (by decide) (fun c60 => ?_) (fun c60 => by exact absurd dn_0 (by omega))
    have e : fo = res := e
    subst e
    exact K _
  | succ m ih =>
    intro fo hmr e hz
    refine aw_iload (aw_d q_Mo_lacks 34 rfl) rfl ?_
    refine aw_ifN_lt (tgt := 105) (aw_d q_Mo_lacks 35 rfl) (by decide) (by (have hB2 := hB.2.1; have hB4 := hB.2.2.2.1; have hD2 := hD.2.1; have hD4 := hD.2.2.2.1; omega)) (fun c60 => by exfalso; (have hB2 := hB.2.1; have hB4 := hB.2.2.2.1; have hD2 := hD.2.1; have hD4 := hD.2.2.2.1; omega)) (fun c60 => ?_)
    refine aw_aload_n (aw_d q_Mo_lacks 36 rfl) rfl rfl rfl ?_
    refine cVr (aw_d q_Mo_lacks 37 rfl) (sp_Mo_areNames (show TmB (sa S 47 T) nv nr nl from hB) (show TmK (sa S 47 T) nv2 nr2 nl2 from hD)) vL_Mo_497_Mo rfl rfl rfl rfl rfl rfl ⟨aw_le rfl, aw_le rfl⟩ ?_
    refine aw_ifB_eq (tgt := 105) (aw_d q_Mo_lacks 38 rfl) (by decide) (fun c67 => ?_) (fun c67 => ?_)
    · have c67 : ¬ (decide (nv2 = nv) && nsB (S.2 41) (S.2 42) (S.2 44) (S.2 45) nv 0) = true := c67
      have htf : (decide (nv2 = nv) && nsB (S.2 41) (S.2 42) (S.2 44) (S.2 45) nv 0) = false := by simpa using c67
      have hfo := hz htf
      subst hfo
      have e : none = res := by
        rw [← e, fdD_some]
        have : ∀ z, fdB (fun k => !tk k && (fun q k => (decide (nv2 = nv) && nsB (S.2 41) (S.2 42) (S.2 44) (S.2 45) nv 0) && rwB (S.2 43) (S.2 46) nv q k) r k) (m + 1) 0 = some z → False := fun z hzz => by have := (fdB_some hzz).2.2; simp [htf] at this
        cases hq : fdB (fun k => !tk k && (fun q k => (decide (nv2 = nv) && nsB (S.2 41) (S.2 42) (S.2 44) (S.2 45) nv 0) && rwB (S.2 43) (S.2 46) nv q k) r k) (m + 1) 0 with
        | none => rfl
        | some z => exact (this z hq).elim
      subst e
      exact K _
    · have c67 : (decide (nv2 = nv) && nsB (S.2 41) (S.2 42) (S.2 44) (S.2 45) nv 0) = true := c67
      refine aw_aload_n (aw_d q_Mo_lacks 39 rfl) rfl rfl rfl ?_
      refine aw_getf (aw_d q_Mo_lacks 40 rfl) fL_Mo_49_Mo rfl rfl ?_
      refine aw_iload (aw_d q_Mo_lacks 41 rfl) rfl ?_
      refine aw_zaldN (aw_d q_Mo_lacks 42 rfl) rfl (by (have hB2 := hB.2.1; have hB4 := hB.2.2.2.1; have hD2 := hD.2.1; have hD4 := hD.2.2.2.1; omega)) rfl ?_
      rw [show (sa S 47 T).2 47 m = (if tk m = true then nI 1 else nI 0) from hk m (by (have hB2 := hB.2.1; have hB4 := hB.2.2.2.1; have hD2 := hD.2.1; have hD4 := hD.2.2.2.1; omega))]
      refine aw_ifB_ne (tgt := 95) (aw_d q_Mo_lacks 43 rfl) (by decide) (fun c77 => ?_) (fun c77 => ?_)
      · have hp : (!tk m && ((decide (nv2 = nv) && nsB (S.2 41) (S.2 42) (S.2 44) (S.2 45) nv 0) && rwB (S.2 43) (S.2 46) nv r m)) = false := by rw [c77]; rfl
        refine aw_iload (aw_d q_Mo_lacks 51 rfl) rfl ?_
        refine aw_istore (aw_d q_Mo_lacks 52 rfl) (aw_le rfl) rfl ?_
        refine aw_iinc (v := dn m) (aw_d q_Mo_lacks 53 rfl) rfl (dn_dec m) (aw_le rfl) rfl ?_
        refine aw_goto (tgt := 58) (aw_d q_Mo_lacks 54 rfl) (by decide) ?_
        exact ih fo (by omega) ((fdD_f hp).symm.trans e) hz
      · refine aw_aload_n (aw_d q_Mo_lacks 44 rfl) rfl rfl rfl ?_
        refine aw_iload_n (aw_d q_Mo_lacks 45 rfl) rfl rfl ?_
        refine aw_iload (aw_d q_Mo_lacks 46 rfl) rfl ?_
        refine cVr (aw_d q_Mo_lacks 47 rfl) (sp_Mo_isAlike (show TmB (sa S 47 T) nv nr nl from hB) (by (have hB2 := hB.2.1; have hB4 := hB.2.2.2.1; have hD2 := hD.2.1; have hD4 := hD.2.2.2.1; omega)) (by (have hB2 := hB.2.1; have hB4 := hB.2.2.2.1; have hD2 := hD.2.1; have hD4 := hD.2.2.2.1; omega))) vL_Mo_500_Mo rfl rfl rfl rfl rfl rfl ⟨aw_le rfl, aw_le rfl⟩ ?_
        refine aw_ifB_eq (tgt := 95) (aw_d q_Mo_lacks 48 rfl) (by decide) (fun c87 => ?_) (fun c87 => ?_)
        · have c87 : rwB (S.2 43) (S.2 46) nv r m = false := Bool.eq_false_iff.mpr c87
          have hp : (!tk m && ((decide (nv2 = nv) && nsB (S.2 41) (S.2 42) (S.2 44) (S.2 45) nv 0) && rwB (S.2 43) (S.2 46) nv r m)) = false := by rw [c87]; simp
          refine aw_iload (aw_d q_Mo_lacks 51 rfl) rfl ?_
          refine aw_istore (aw_d q_Mo_lacks 52 rfl) (aw_le rfl) rfl ?_
          refine aw_iinc (v := dn m) (aw_d q_Mo_lacks 53 rfl) rfl (dn_dec m) (aw_le rfl) rfl ?_
          refine aw_goto (tgt := 58) (aw_d q_Mo_lacks 54 rfl) (by decide) ?_
          exact ih fo (by omega) ((fdD_f hp).symm.trans e) hz
        · have c87 : rwB (S.2 43) (S.2 46) nv r m = true := c87
          have hp : (!tk m && ((decide (nv2 = nv) && nsB (S.2 41) (S.2 42) (S.2 44) (S.2 45) nv 0) && rwB (S.2 43) (S.2 46) nv r m)) = true := by rw [c67, c87]; simpa using c77
          refine aw_iload (aw_d q_Mo_lacks 49 rfl) rfl ?_
          refine aw_goto (tgt := 97) (aw_d q_Mo_lacks 50 rfl) (by decide) ?_
          refine aw_istore (aw_d q_Mo_lacks 52 rfl) (aw_le rfl) rfl ?_
          refine aw_iinc (v := dn m) (aw_d q_Mo_lacks 53 rfl) rfl (dn_dec m) (aw_le rfl) rfl ?_
          refine aw_goto (tgt := 58) (aw_d q_Mo_lacks 54 rfl) (by decide) ?_
          exact ih (some m) (by omega) ((fdD_t hp).symm.trans e) (fun q => absurd c67 (by rw [q]; exact Bool.false_ne_true))
set_option maxRecDepth 20000 in
theorem lp_Mo_lk1 {g : aw_G} {S : aw_S} {nv nr : Nat} {nl : Nat → Nat} (hB : TmB S nv nr nl) {nv2 nr2 : Nat} {nl2 : Nat → Nat} (hD : TmK S nv2 nr2 nl2) {i : Nat} (hi31 : i < 2147483648) : ∀ (m r left : Nat) (T : Nat → Int32) (tk : Nat → Bool) (x4 x5 : Option Value), m + r = nr → TkI T tk → lkM (fun q k => (decide (nv2 = nv) && nsB (S.2 41) (S.2 42) (S.2 44) (S.2 45) nv 0) && rwB (S.2 43) (S.2 46) nv q k) nr2 nr 0 i (fun _ => false) = lkM (fun q k => (decide (nv2 = nv) && nsB (S.2 41) (S.2 42) (S.2 44) (S.2 45) nv 0) && rwB (S.2 43) (S.2 46) nv q k) nr2 m r left tk → left ≤ i → AW g M_Mo_lacks (aw_rm 1 24 0 0) (aw_F g 0 0 (fun r h => r = some (.int (lkM (fun q k => (decide (nv2 = nv) && nsB (S.2 41) (S.2 42) (S.2 44) (S.2 45) nv 0) && rwB (S.2 43) (S.2 46) nv q k) nr2 nr 0 i (fun _ => false))) ∧ ∃ T : Nat → Int32, h = HP (sa S 47 T))) 35 [some (.ref 33), some (.int (nI i)), some (.int (nI left)), some (.int (nI r)), x4, x5] [] (HP (sa S 47 T)) 0 0 := by
  intro m
  induction m with
  | zero =>
    intro r left T tk x4 x5 hkk hk e hli
    refine aw_iload_n (aw_d q_Mo_lacks 21 rfl) rfl rfl ?_
    refine aw_aload_n (aw_d q_Mo_lacks 22 rfl) rfl rfl rfl ?_
    refine aw_getf (v := .int (nI (nr))) (aw_d q_Mo_lacks 23 rfl) fL_Mo_129_Mo rfl (gk hB.2.2.1) ?_
    refine aw_icmpN_ge (tgt := 136) (aw_d q_Mo_lacks 24 rfl) (by decide) (by (have hB2 := hB.2.1; have hB4 := hB.2.2.2.1; have hD2 := hD.2.1; have hD4 := hD.2.2.2.1; omega)) (by (have hB2 := hB.2.1; have hB4 := hB.2.2.2.1; have hD2 := hD.2.1; have hD4 := hD.2.2.2.1; omega)) (fun c40 => ?_) (fun c40 => by exfalso; (have hB2 := hB.2.1; have hB4 := hB.2.2.2.1; have hD2 := hD.2.1; have hD4 := hD.2.2.2.1; omega))
    refine aw_bipush (v := (-2)) (aw_d q_Mo_lacks 70 rfl) (by decide) ?_
    exact aw_iret (aw_d q_Mo_lacks 71 rfl) rfl (⟨by rw [e]; rfl, T, rfl⟩)
  | succ m ih =>
    intro r left T tk x4 x5 hkk hk e hli
    refine aw_iload_n (aw_d q_Mo_lacks 21 rfl) rfl rfl ?_
    refine aw_aload_n (aw_d q_Mo_lacks 22 rfl) rfl rfl rfl ?_
    refine aw_getf (v := .int (nI (nr))) (aw_d q_Mo_lacks 23 rfl) fL_Mo_129_Mo rfl (gk hB.2.2.1) ?_
    refine aw_icmpN_ge (tgt := 136) (aw_d q_Mo_lacks 24 rfl) (by decide) (by (have hB2 := hB.2.1; have hB4 := hB.2.2.2.1; have hD2 := hD.2.1; have hD4 := hD.2.2.2.1; omega)) (by (have hB2 := hB.2.1; have hB4 := hB.2.2.2.1; have hD2 := hD.2.1; have hD4 := hD.2.2.2.1; omega)) (fun c40 => by exfalso; (have hB2 := hB.2.1; have hB4 := hB.2.2.2.1; have hD2 := hD.2.1; have hD4 := hD.2.2.2.1; omega)) (fun c40 => ?_)
    refine aw_iload_n (aw_d q_Mo_lacks 25 rfl) rfl rfl ?_
    refine aw_ifN_lt (tgt := 136) (aw_d q_Mo_lacks 26 rfl) (by decide) (by (have hB2 := hB.2.1; have hB4 := hB.2.2.2.1; have hD2 := hD.2.1; have hD4 := hD.2.2.2.1; omega)) (fun c44 => by exfalso; (have hB2 := hB.2.1; have hB4 := hB.2.2.2.1; have hD2 := hD.2.1; have hD4 := hD.2.2.2.1; omega)) (fun c44 => ?_)
    refine aw_iconst (v := (-1)) (aw_d q_Mo_lacks 27 rfl) (by decide) ?_
    refine aw_istore (aw_d q_Mo_lacks 28 rfl) (aw_le rfl) rfl ?_
    refine aw_aload_n (aw_d q_Mo_lacks 29 rfl) rfl rfl rfl ?_
    refine aw_getf (v := .int (nI (nr2))) (aw_d q_Mo_lacks 30 rfl) fL_Mo_494_Mo rfl (gk hD.2.2.1) ?_
    refine aw_iconst (v := nI 1) (aw_d q_Mo_lacks 31 rfl) (by decide) ?_
    refine aw_isub (aw_d q_Mo_lacks 32 rfl) ?_
    rw [dn_sub]
    refine aw_istore (aw_d q_Mo_lacks 33 rfl) (aw_le rfl) rfl ?_
    have hr : r < nr := by omega
    obtain ⟨res, hres⟩ : ∃ res, fdB (fun k => !tk k && (fun q k => (decide (nv2 = nv) && nsB (S.2 41) (S.2 42) (S.2 44) (S.2 45) nv 0) && rwB (S.2 43) (S.2 46) nv q k) r k) nr2 0 = res := ⟨_, rfl⟩
    refine AW.to (lp_Mo_lk2 hB hD hk hr (res := res) (fun x5 => ?_) nr2 none (by omega) (by rw [fdD_some, hres]; cases res <;> rfl) (fun _ => rfl)) rfl rfl rfl rfl
    cases res with
    | some k =>
      have hk24 := fdB_some hres
      refine AW.to (ls' := [some (.ref 33), some (.int (nI i)), some (.int (nI left)), some (.int (nI r)), some (.int (nI k)), x5]) ?_ rfl rfl rfl rfl
      refine aw_iload (aw_d q_Mo_lacks 55 rfl) rfl ?_
      refine aw_ifN_lt (tgt := 121) (aw_d q_Mo_lacks 56 rfl) (by decide) (by (have hB2 := hB.2.1; have hB4 := hB.2.2.2.1; have hD2 := hD.2.1; have hD4 := hD.2.2.2.1; omega)) (fun c107 => by exfalso; (have hB2 := hB.2.1; have hB4 := hB.2.2.2.1; have hD2 := hD.2.1; have hD4 := hD.2.2.2.1; omega)) (fun c107 => ?_)
      refine aw_aload_n (aw_d q_Mo_lacks 57 rfl) rfl rfl rfl ?_
      refine aw_getf (aw_d q_Mo_lacks 58 rfl) fL_Mo_49_Mo rfl rfl ?_
      refine aw_iload (aw_d q_Mo_lacks 59 rfl) rfl ?_
      refine aw_iconst (v := nI 1) (aw_d q_Mo_lacks 60 rfl) (by decide) ?_
      refine wn_47 (aw_d q_Mo_lacks 61 rfl) (by (have hB2 := hB.2.1; have hB4 := hB.2.2.2.1; have hD2 := hD.2.1; have hD4 := hD.2.2.2.1; omega)) (Or.inr rfl) ?_
      refine aw_goto (tgt := 130) (aw_d q_Mo_lacks 62 rfl) (by decide) ?_
      refine aw_iinc (aw_d q_Mo_lacks 68 rfl) rfl (ii1 _) (aw_le rfl) rfl ?_
      refine aw_goto (tgt := 35) (aw_d q_Mo_lacks 69 rfl) (by decide) ?_
      refine AW.to (ih (r + 1) left (upd T k (nI 1)) (fun j => if j = k then true else tk j) _ _ (by omega) (fun j hj => ?_) (by rw [e, lkM, hres]) (by omega)) rfl rfl rfl rfl
      by_cases hjk : j = k
      · rw [hjk, pk_us]; simp
      · rw [pk_un hjk, hk j hj]; simp [hjk]
    | none =>
      refine AW.to (ls' := [some (.ref 33), some (.int (nI i)), some (.int (nI left)), some (.int (nI r)), some (.int (-1)), x5]) ?_ rfl rfl rfl rfl
      refine aw_iload (aw_d q_Mo_lacks 55 rfl) rfl ?_
      refine aw_ifI_lt (tgt := 121) (aw_d q_Mo_lacks 56 rfl) (by decide) (fun c107 => ?_) (fun c107 => by exact absurd c107 (by decide))
      refine aw_iload_n (aw_d q_Mo_lacks 63 rfl) rfl rfl ?_
      refine aw_ifN_ne (tgt := 127) (aw_d q_Mo_lacks 64 rfl) (by decide) (by (have hB2 := hB.2.1; have hB4 := hB.2.2.2.1; have hD2 := hD.2.1; have hD4 := hD.2.2.2.1; omega)) (fun c122 => ?_) (fun c122 => ?_)
      · refine aw_iinc (v := nI (left - 1)) (aw_d q_Mo_lacks 67 rfl) rfl (by rw [show left = (left - 1) + 1 by omega]; exact iim _) (aw_le rfl) rfl ?_
        refine aw_iinc (aw_d q_Mo_lacks 68 rfl) rfl (ii1 _) (aw_le rfl) rfl ?_
        refine aw_goto (tgt := 35) (aw_d q_Mo_lacks 69 rfl) (by decide) ?_
        exact ih (r + 1) (left - 1) T tk _ _ (by omega) hk (by rw [e, lkM, hres]; exact if_neg c122) (by omega)
      · refine aw_iload_n (aw_d q_Mo_lacks 65 rfl) rfl rfl ?_
        exact aw_iret (aw_d q_Mo_lacks 66 rfl) rfl (⟨by rw [e, lkM, hres, c122]; rfl, T, rfl⟩)
set_option maxRecDepth 20000 in
theorem sp_Mo_lacks {g : aw_G} {S : aw_S} {nv nr : Nat} {nl : Nat → Nat} (hB : TmB S nv nr nl) {nv2 nr2 : Nat} {nl2 : Nat → Nat} (hD : TmK S nv2 nr2 nl2) {i : Nat} (hi31 : i < 2147483648) (h8 : S.1 3316 = nI 1) : Sp g M_Mo_lacks 1 24 0 0 [.ref 33, .int (nI i)] (HP S) (fun r h => r = some (.int (lkM (fun q k => (decide (nv2 = nv) && nsB (S.2 41) (S.2 42) (S.2 44) (S.2 45) nv 0) && rwB (S.2 43) (S.2 46) nv q k) nr2 nr 0 i (fun _ => false))) ∧ ∃ T : Nat → Int32, h = HP (sa S 47 T)) := by
  refine Sp.of rfl (aw_le rfl) ?_
  refine aw_aload_n (aw_d q_Mo_lacks 0 rfl) rfl rfl rfl ?_
  refine aw_getf (v := .int (nI (1))) (aw_d q_Mo_lacks 1 rfl) fL_Mo_487_Mo rfl (gk h8) ?_
  refine aw_ifN_ne (tgt := 10) (aw_d q_Mo_lacks 2 rfl) (by decide) (by (have hB2 := hB.2.1; have hB4 := hB.2.2.2.1; have hD2 := hD.2.1; have hD4 := hD.2.2.2.1; omega)) (fun c4 => ?_) (fun c4 => by exfalso; (have hB2 := hB.2.1; have hB4 := hB.2.2.2.1; have hD2 := hD.2.1; have hD4 := hD.2.2.2.1; omega))
  refine aw_iconst (v := nI 0) (aw_d q_Mo_lacks 5 rfl) (by decide) ?_
  refine aw_istore_n (aw_d q_Mo_lacks 6 rfl) rfl (aw_le rfl) rfl ?_
  refine AW.to (lp_Mo_lk0 (S := S) (fun T x2 hT0 => ?_) 24 0 (S.2 47) (by omega) (fun j hj => by omega)) rfl rfl rfl rfl
  refine aw_iload_n (aw_d q_Mo_lacks 17 rfl) rfl rfl ?_
  refine aw_istore_n (aw_d q_Mo_lacks 18 rfl) rfl (aw_le rfl) rfl ?_
  refine aw_iconst (v := nI 0) (aw_d q_Mo_lacks 19 rfl) (by decide) ?_
  refine aw_istore_n (aw_d q_Mo_lacks 20 rfl) rfl (aw_le rfl) rfl ?_
  exact AW.to (lp_Mo_lk1 hB hD hi31 nr 0 i T (fun _ => false) _ _ (by omega) hT0 rfl (by omega)) rfl rfl rfl rfl
set_option maxRecDepth 20000 in
theorem sp_Mo_lacksM {g : aw_G} {S : aw_S} {nv nr : Nat} {nl : Nat → Nat} (hB : TmB S nv nr nl) {nv2 nr2 : Nat} {nl2 : Nat → Nat} (hD : TmK S nv2 nr2 nl2) {x : Int32} (hx : x.toInt < 0) (h8 : S.1 3316 = nI 1) : Sp g M_Mo_lacks 1 24 0 0 [.ref 33, .int x] (HP S) (fun r h => r = some (.int (-2)) ∧ ∃ T : Nat → Int32, h = HP (sa S 47 T)) := by
  refine Sp.of rfl (aw_le rfl) ?_
  refine aw_aload_n (aw_d q_Mo_lacks 0 rfl) rfl rfl rfl ?_
  refine aw_getf (v := .int (nI (1))) (aw_d q_Mo_lacks 1 rfl) fL_Mo_487_Mo rfl (gk h8) ?_
  refine aw_ifN_ne (tgt := 10) (aw_d q_Mo_lacks 2 rfl) (by decide) (by (have hB2 := hB.2.1; have hB4 := hB.2.2.2.1; have hD2 := hD.2.1; have hD4 := hD.2.2.2.1; omega)) (fun c4 => ?_) (fun c4 => by exfalso; (have hB2 := hB.2.1; have hB4 := hB.2.2.2.1; have hD2 := hD.2.1; have hD4 := hD.2.2.2.1; omega))
  refine aw_iconst (v := nI 0) (aw_d q_Mo_lacks 5 rfl) (by decide) ?_
  refine aw_istore_n (aw_d q_Mo_lacks 6 rfl) rfl (aw_le rfl) rfl ?_
  refine AW.to (lp_Mo_lk0 (S := S) (fun T x2 hT0 => ?_) 24 0 (S.2 47) (by omega) (fun j hj => by omega)) rfl rfl rfl rfl
  refine aw_iload_n (aw_d q_Mo_lacks 17 rfl) rfl rfl ?_
  refine aw_istore_n (aw_d q_Mo_lacks 18 rfl) rfl (aw_le rfl) rfl ?_
  refine aw_iconst (v := nI 0) (aw_d q_Mo_lacks 19 rfl) (by decide) ?_
  refine aw_istore_n (aw_d q_Mo_lacks 20 rfl) rfl (aw_le rfl) rfl ?_
  refine aw_iload_n (aw_d q_Mo_lacks 21 rfl) rfl rfl ?_
  refine aw_aload_n (aw_d q_Mo_lacks 22 rfl) rfl rfl rfl ?_
  refine aw_getf (v := .int (nI (nr))) (aw_d q_Mo_lacks 23 rfl) fL_Mo_129_Mo rfl (gk hB.2.2.1) ?_
  refine aw_icmpN_ge (tgt := 136) (aw_d q_Mo_lacks 24 rfl) (by decide) (by (have hB2 := hB.2.1; have hB4 := hB.2.2.2.1; have hD2 := hD.2.1; have hD4 := hD.2.2.2.1; omega)) (by (have hB2 := hB.2.1; have hB4 := hB.2.2.2.1; have hD2 := hD.2.1; have hD4 := hD.2.2.2.1; omega)) (fun c40 => ?_) (fun c40 => ?_)
  · refine aw_bipush (v := (-2)) (aw_d q_Mo_lacks 70 rfl) (by decide) ?_
    exact aw_iret (aw_d q_Mo_lacks 71 rfl) rfl (⟨rfl, T, rfl⟩)
  · refine aw_iload_n (aw_d q_Mo_lacks 25 rfl) rfl rfl ?_
    refine aw_ifI_lt (tgt := 136) (aw_d q_Mo_lacks 26 rfl) (by decide) (fun c44 => ?_) (fun c44 => by exfalso; (have hB2 := hB.2.1; have hB4 := hB.2.2.2.1; have hD2 := hD.2.1; have hD4 := hD.2.2.2.1; omega))
    refine aw_bipush (v := (-2)) (aw_d q_Mo_lacks 70 rfl) (by decide) ?_
    exact aw_iret (aw_d q_Mo_lacks 71 rfl) rfl (⟨rfl, T, rfl⟩)
