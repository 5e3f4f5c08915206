/-! THE START: both made, nothing in them -/
def S_0 : aw_S := (fun j => if j = 2605 then -1 else if j = 3332 then -1 else 0, fun _ _ => 0)
def P_0 : xp_T := ((0, 0, 0), fun _ => 0, fun _ => 0, fun _ => 0, fun _ => 0, fun _ _ => 0, fun _ _ => 0, fun _ _ => none)
def U_0 : U_T := (P_0, tp0, (0, fun _ => 0), false, P_0)
theorem RL_0 : RL U_0 S_0 := by
  have z : ∀ {n : Nat} {p : Prop}, n < 0 → p := fun h => absurd h (Nat.not_lt_zero _)
  refine ⟨⟨⟨⟨rfl, rfl, rfl⟩, fun v hv => z hv, fun r v hr => z hr, fun t ht => z ht⟩, ⟨rfl, Nat.zero_le _, fun i hi => z hi, fun _ _ => rfl, trivial⟩, ⟨rfl, Nat.zero_le _, fun i hi => z hi⟩, rfl, fun h => by cases h⟩, ⟨⟨⟨rfl, rfl, rfl⟩, fun v hv => z hv, fun r v hr => z hr, fun t ht => z ht⟩, ⟨rfl, Nat.zero_le _, fun i hi => z hi, fun _ _ => rfl, trivial⟩, ⟨rfl, Nat.zero_le _, fun i hi => z hi⟩, rfl, fun h => by cases h⟩, ⟨⟨Nat.zero_le _, Nat.zero_le _, Nat.zero_le _⟩, fun v hv => z hv, fun r v t hr => z hr, fun t ht => z ht⟩, fun h => by cases h⟩
theorem k_RF_len : k_RF.length = 33 := rfl
set_option maxRecDepth 20000 in
theorem law_start {nm : String} {g : aw_G} (hL : g.2.2.2.2.2.1 ≤ 2048) : AW g (M_Lw nm) room_1 (F_law g) 0 (aw_ent 4 [.retAddr 9999]) [] [] 0 0 := by
  refine AW.to (pc' := 0) (ls' := [some (.retAddr 9999), none, none, none]) ?_ rfl rfl rfl rfl
  refine aw_new (ci := 9) (fs := [.null, .null, .null, .null, .null, .null, .null, .null, .int 0, .null, .null, .null, .null, .null]) (aw_d q_Lw_law 0 rfl) rfl nL_Lw_7 nI_RF.1 nI_RF.2 in_RF ty_RF ok_RF (by intro j hj; rcases (show j = 0 ∨ j = 1 ∨ j = 2 ∨ j = 3 ∨ j = 4 ∨ j = 5 ∨ j = 6 ∨ j = 7 ∨ j = 8 ∨ j = 9 ∨ j = 10 ∨ j = 11 ∨ j = 12 ∨ j = 13 by omega) with rfl | rfl | rfl | rfl | rfl | rfl | rfl | rfl | rfl | rfl | rfl | rfl | rfl | rfl <;> rfl) (aw_le rfl) (aw_le rfl) ?_
  refine aw_dup (aw_d q_Lw_law 1 rfl) rfl ?_
  refine aw_callI (a := 0) (vs := []) (aw_d q_Lw_law 2 rfl) iL_Lw_9 sp_RF_init rfl (aw_le rfl) ⟨aw_le rfl, aw_le rfl⟩ ⟨aw_le rfl, aw_le rfl⟩ (fun r4 h4 hp4 => ?_)
  obtain ⟨rfl, rfl⟩ := hp4
  refine AW.to (st' := [.ref 0]) (h' := k_RF) ?_ rfl rfl rfl rfl
  refine aw_astore_n (aw_d q_Lw_law 3 rfl) rfl (aw_le rfl) rfl rfl ?_
  refine aw_new (ci := 10) (fs := [.int 0, .null, .int 0, .null, .int 0, .null, .int 0, .null, .null, .null, .null, .int 0, .null, .null, .int 0, .null, .int 0, .int 0, .null, .null, .int 0, .null, .null, .int 0, .null, .null, .int 0, .null, .null, .null, .null, .int 0, .int 0, .int 0, .int 0, .null, .null]) (aw_d q_Lw_law 4 rfl) rfl nL_Lw_10 nI_Mo.1 nI_Mo.2 in_Mo ty_Mo ok_Mo (by intro j hj; rcases (show j = 0 ∨ j = 1 ∨ j = 2 ∨ j = 3 ∨ j = 4 ∨ j = 5 ∨ j = 6 ∨ j = 7 ∨ j = 8 ∨ j = 9 ∨ j = 10 ∨ j = 11 ∨ j = 12 ∨ j = 13 ∨ j = 14 ∨ j = 15 ∨ j = 16 ∨ j = 17 ∨ j = 18 ∨ j = 19 ∨ j = 20 ∨ j = 21 ∨ j = 22 ∨ j = 23 ∨ j = 24 ∨ j = 25 ∨ j = 26 ∨ j = 27 ∨ j = 28 ∨ j = 29 ∨ j = 30 ∨ j = 31 ∨ j = 32 ∨ j = 33 ∨ j = 34 ∨ j = 35 ∨ j = 36 by omega) with rfl | rfl | rfl | rfl | rfl | rfl | rfl | rfl | rfl | rfl | rfl | rfl | rfl | rfl | rfl | rfl | rfl | rfl | rfl | rfl | rfl | rfl | rfl | rfl | rfl | rfl | rfl | rfl | rfl | rfl | rfl | rfl | rfl | rfl | rfl | rfl | rfl <;> rfl) (aw_le rfl) (aw_le rfl) ?_
  refine aw_dup (aw_d q_Lw_law 5 rfl) rfl ?_
  refine aw_callI (a := k_RF.length) (vs := []) (aw_d q_Lw_law 6 rfl) iL_Lw_12 (sp_Mo_init (A := k_RF)) rfl (aw_le rfl) ⟨aw_le rfl, aw_le rfl⟩ ⟨aw_le rfl, aw_le rfl⟩ (fun r12 h12 hp12 => ?_)
  obtain ⟨rfl, rfl⟩ := hp12
  refine AW.to (st' := [.ref 33]) (h' := HP S_0) ?_ rfl rfl rfl rfl
  refine aw_astore_n (aw_d q_Lw_law 7 rfl) rfl (aw_le rfl) rfl rfl ?_
  refine aw_iconst (v := nI 0) (aw_d q_Lw_law 8 rfl) (by decide) ?_
  refine aw_istore_n (aw_d q_Lw_law 9 rfl) rfl (aw_le rfl) rfl ?_
  exact law_loop hL (g.2.2.2.2.2.1 + 1) 0 U_0 S_0 (Nat.zero_le _) (by omega) RL_0
