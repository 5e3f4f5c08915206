set_option maxRecDepth 20000 in
theorem sp_Mo_sameN {g : aw_G} {S : aw_S} {b : Int32} (h8 : S.1 3316 = nI 0) : Sp g M_Mo_same 2 49 0 0 [.ref 33, .int b] (HP S) (fun r h => r = some (.int (-2)) ∧ h = HP S) := by
  refine Sp.of rfl (aw_le rfl) ?_
  refine aw_aload_n (aw_d q_Mo_same 0 rfl) rfl rfl rfl ?_
  refine aw_getf (v := .int (nI (0))) (aw_d q_Mo_same 1 rfl) fL_Mo_487_Mo rfl (gk h8) ?_
  refine aw_ifN_ne (tgt := 10) (aw_d q_Mo_same 2 rfl) (by decide) (by omega) (fun c4 => by exfalso; omega) (fun c4 => ?_)
  refine aw_bipush (v := (-2)) (aw_d q_Mo_same 3 rfl) (by decide) ?_
  exact aw_iret (aw_d q_Mo_same 4 rfl) rfl (⟨rfl, rfl⟩)
set_option maxRecDepth 20000 in
theorem lp_Mo_same1 {g : aw_G} {S : aw_S} {nv nr : Nat} {nl : Nat → Nat} (hB : TmB S nv nr nl) {nv2 nr2 : Nat} {nl2 : Nat → Nat} (hD : TmK S nv2 nr2 nl2) {tot : Bool} (ht : tot = (((decide (nv2 = nv) && nsB (S.2 41) (S.2 42) (S.2 44) (S.2 45) nv 0) && decide (nr2 = nr)) && anB (fun q => rwB (S.2 43) (S.2 46) nv q q) nr 0)) : ∀ (m x : Nat) (b : Bool), m + x = nr → (b && anB (fun q => rwB (S.2 43) (S.2 46) nv q q) m x) = tot → AW g M_Mo_same (aw_rm 2 49 0 0) (aw_F g 0 0 (fun r h => r = some (.int (if (((decide (nv2 = nv) && nsB (S.2 41) (S.2 42) (S.2 44) (S.2 45) nv 0) && decide (nr2 = nr)) && anB (fun q => rwB (S.2 43) (S.2 46) nv q q) nr 0) = true then nI 1 else nI 0)) ∧ ∃ T : Nat → Int32, h = HP (sa S 47 T))) 36 [some (.ref 33), some (.int (nI 1)), some (.int (if b = true then nI 1 else nI 0)), some (.int (nI x))] [] (HP S) 0 0 := by
  intro m
  induction m with
  | zero =>
    intro x b hk e
    refine aw_iload_n (aw_d q_Mo_same 19 rfl) rfl rfl ?_
    refine aw_aload_n (aw_d q_Mo_same 20 rfl) rfl rfl rfl ?_
    refine aw_getf (v := .int (nI (nr))) (aw_d q_Mo_same 21 rfl) fL_Mo_129_Mo rfl (gk hB.2.2.1) ?_
    refine aw_icmpN_ge (tgt := 65) (aw_d q_Mo_same 22 rfl) (by decide) (by (have hB2 := hB.2.1; have hB4 := hB.2.2.2.1; have hD2 := hD.2.1; have hD4 := hD.2.2.2.1; omega)) (by (have hB2 := hB.2.1; have hB4 := hB.2.2.2.1; have hD2 := hD.2.1; have hD4 := hD.2.2.2.1; omega)) (fun c41 => ?_) (fun c41 => by exfalso; (have hB2 := hB.2.1; have hB4 := hB.2.2.2.1; have hD2 := hD.2.1; have hD4 := hD.2.2.2.1; omega))
    refine aw_iload_n (aw_d q_Mo_same 34 rfl) rfl rfl ?_
    refine aw_ifB_eq (tgt := 87) (aw_d q_Mo_same 35 rfl) (by decide) (fun c66 => ?_) (fun c66 => ?_)
    · have hb : b = false := by simpa using c66
      refine aw_iconst (v := nI 0) (aw_d q_Mo_same 45 rfl) (by decide) ?_
      exact aw_iret (aw_d q_Mo_same 46 rfl) rfl (⟨by rw [← ht, ← e]; first | (rw [c66]; rfl) | (rw [hb]; rfl), S.2 47, rfl⟩)
    · refine aw_iload_n (aw_d q_Mo_same 36 rfl) rfl rfl ?_
      refine aw_ifN_ne (tgt := 83) (aw_d q_Mo_same 37 rfl) (by decide) (by (have hB2 := hB.2.1; have hB4 := hB.2.2.2.1; have hD2 := hD.2.1; have hD4 := hD.2.2.2.1; omega)) (fun c70 => ?_) (fun c70 => by exfalso; (have hB2 := hB.2.1; have hB4 := hB.2.2.2.1; have hD2 := hD.2.1; have hD4 := hD.2.2.2.1; omega))
      refine aw_iconst (v := nI 1) (aw_d q_Mo_same 43 rfl) (by decide) ?_
      refine aw_goto (tgt := 88) (aw_d q_Mo_same 44 rfl) (by decide) ?_
      exact aw_iret (aw_d q_Mo_same 46 rfl) rfl (⟨by rw [← ht, ← e]; first | (rw [c66]; rfl) | (rw [hb]; rfl), S.2 47, rfl⟩)
  | succ m ih =>
    intro x b hk e
    refine aw_iload_n (aw_d q_Mo_same 19 rfl) rfl rfl ?_
    refine aw_aload_n (aw_d q_Mo_same 20 rfl) rfl rfl rfl ?_
    refine aw_getf (v := .int (nI (nr))) (aw_d q_Mo_same 21 rfl) fL_Mo_129_Mo rfl (gk hB.2.2.1) ?_
    refine aw_icmpN_ge (tgt := 65) (aw_d q_Mo_same 22 rfl) (by decide) (by (have hB2 := hB.2.1; have hB4 := hB.2.2.2.1; have hD2 := hD.2.1; have hD4 := hD.2.2.2.1; omega)) (by (have hB2 := hB.2.1; have hB4 := hB.2.2.2.1; have hD2 := hD.2.1; have hD4 := hD.2.2.2.1; omega)) (fun c41 => by exfalso; (have hB2 := hB.2.1; have hB4 := hB.2.2.2.1; have hD2 := hD.2.1; have hD4 := hD.2.2.2.1; omega)) (fun c41 => ?_)
    refine aw_iload_n (aw_d q_Mo_same 23 rfl) rfl rfl ?_
    refine aw_ifN_eq (tgt := 65) (aw_d q_Mo_same 24 rfl) (by decide) (by (have hB2 := hB.2.1; have hB4 := hB.2.2.2.1; have hD2 := hD.2.1; have hD4 := hD.2.2.2.1; omega)) (fun c45 => by exfalso; (have hB2 := hB.2.1; have hB4 := hB.2.2.2.1; have hD2 := hD.2.1; have hD4 := hD.2.2.2.1; omega)) (fun c45 => ?_)
    refine aw_iload_n (aw_d q_Mo_same 25 rfl) rfl rfl ?_
    refine aw_ifB_eq (tgt := 65) (aw_d q_Mo_same 26 rfl) (by decide) (fun c49 => ?_) (fun c49 => ?_)
    · have hb : b = false := by simpa using c49
      refine aw_iload_n (aw_d q_Mo_same 34 rfl) rfl rfl ?_
      refine aw_ifB_eq (tgt := 87) (aw_d q_Mo_same 35 rfl) (by decide) (fun c66 => ?_) (fun c66 => by exact absurd c66 (by rw [hb]; exact Bool.false_ne_true))
      refine aw_iconst (v := nI 0) (aw_d q_Mo_same 45 rfl) (by decide) ?_
      exact aw_iret (aw_d q_Mo_same 46 rfl) rfl (⟨by rw [← ht, ← e, hb]; rfl, S.2 47, rfl⟩)
    · refine aw_aload_n (aw_d q_Mo_same 27 rfl) rfl rfl rfl ?_
      refine aw_iload_n (aw_d q_Mo_same 28 rfl) rfl rfl ?_
      refine aw_iload_n (aw_d q_Mo_same 29 rfl) rfl rfl ?_
      refine cVr (aw_d q_Mo_same 30 rfl) (sp_Mo_isAlike hB (by (have hB2 := hB.2.1; have hB4 := hB.2.2.2.1; have hD2 := hD.2.1; have hD4 := hD.2.2.2.1; omega)) (by (have hB2 := hB.2.1; have hB4 := hB.2.2.2.1; have hD2 := hD.2.1; have hD4 := hD.2.2.2.1; omega))) vL_Mo_500_Mo rfl rfl rfl rfl rfl rfl ⟨aw_le rfl, aw_le rfl⟩ ?_
      refine aw_istore_n (aw_d q_Mo_same 31 rfl) rfl (aw_le rfl) rfl ?_
      refine aw_iinc (aw_d q_Mo_same 32 rfl) rfl (ii1 _) (aw_le rfl) rfl ?_
      refine aw_goto (tgt := 36) (aw_d q_Mo_same 33 rfl) (by decide) ?_
      exact ih (x + 1) (rwB (S.2 43) (S.2 46) nv x x) (by omega) (by rw [← e, c49]; simp only [anB]; rfl)
set_option maxRecDepth 20000 in
theorem sp_Mo_same_1 {g : aw_G} {S : aw_S} {nv nr : Nat} {nl : Nat → Nat} (hB : TmB S nv nr nl) {nv2 nr2 : Nat} {nl2 : Nat → Nat} (hD : TmK S nv2 nr2 nl2) (h8 : S.1 3316 = nI 1) : Sp g M_Mo_same 2 49 0 0 [.ref 33, .int (nI 1)] (HP S) (fun r h => r = some (.int (if (((decide (nv2 = nv) && nsB (S.2 41) (S.2 42) (S.2 44) (S.2 45) nv 0) && decide (nr2 = nr)) && anB (fun q => rwB (S.2 43) (S.2 46) nv q q) nr 0) = true then nI 1 else nI 0)) ∧ ∃ T : Nat → Int32, h = HP (sa S 47 T)) := by
  refine Sp.of rfl (aw_le rfl) ?_
  refine aw_aload_n (aw_d q_Mo_same 0 rfl) rfl rfl rfl ?_
  refine aw_getf (v := .int (nI (1))) (aw_d q_Mo_same 1 rfl) fL_Mo_487_Mo rfl (gk h8) ?_
  refine aw_ifN_ne (tgt := 10) (aw_d q_Mo_same 2 rfl) (by decide) (by (have hB2 := hB.2.1; have hB4 := hB.2.2.2.1; have hD2 := hD.2.1; have hD4 := hD.2.2.2.1; omega)) (fun c4 => ?_) (fun c4 => by exfalso; (have hB2 := hB.2.1; have hB4 := hB.2.2.2.1; have hD2 := hD.2.1; have hD4 := hD.2.2.2.1; omega))
  refine aw_aload_n (aw_d q_Mo_same 5 rfl) rfl rfl rfl ?_
  refine cVr (aw_d q_Mo_same 6 rfl) (sp_Mo_areNames hB hD) vL_Mo_497_Mo rfl rfl rfl rfl rfl rfl ⟨aw_le rfl, aw_le rfl⟩ ?_
  refine aw_ifB_eq (tgt := 32) (aw_d q_Mo_same 7 rfl) (by decide) (fun c14 => ?_) (fun c14 => ?_)
  · refine aw_iconst (v := nI 0) (aw_d q_Mo_same 15 rfl) (by decide) ?_
    refine aw_istore_n (aw_d q_Mo_same 16 rfl) rfl (aw_le rfl) rfl ?_
    refine aw_iconst (v := nI 0) (aw_d q_Mo_same 17 rfl) (by decide) ?_
    refine aw_istore_n (aw_d q_Mo_same 18 rfl) rfl (aw_le rfl) rfl ?_
    first
    | exact AW.to (lp_Mo_same1 hB hD rfl nr 0 false (by omega) (by rw [decide_eq_false c25]; simp)) rfl rfl rfl rfl
    | exact AW.to (lp_Mo_same1 hB hD rfl nr 0 false (by omega) (by rw [Bool.eq_false_iff.mpr c14]; rfl)) rfl rfl rfl rfl
  · refine aw_aload_n (aw_d q_Mo_same 8 rfl) rfl rfl rfl ?_
    refine aw_getf (v := .int (nI (nr2))) (aw_d q_Mo_same 9 rfl) fL_Mo_494_Mo rfl (gk hD.2.2.1) ?_
    refine aw_aload_n (aw_d q_Mo_same 10 rfl) rfl rfl rfl ?_
    refine aw_getf (v := .int (nI (nr))) (aw_d q_Mo_same 11 rfl) fL_Mo_129_Mo rfl (gk hB.2.2.1) ?_
    refine aw_icmpN_ne (tgt := 32) (aw_d q_Mo_same 12 rfl) (by decide) (by (have hB2 := hB.2.1; have hB4 := hB.2.2.2.1; have hD2 := hD.2.1; have hD4 := hD.2.2.2.1; omega)) (by (have hB2 := hB.2.1; have hB4 := hB.2.2.2.1; have hD2 := hD.2.1; have hD4 := hD.2.2.2.1; omega)) (fun c25 => ?_) (fun c25 => ?_)
    · refine aw_iconst (v := nI 0) (aw_d q_Mo_same 15 rfl) (by decide) ?_
      refine aw_istore_n (aw_d q_Mo_same 16 rfl) rfl (aw_le rfl) rfl ?_
      refine aw_iconst (v := nI 0) (aw_d q_Mo_same 17 rfl) (by decide) ?_
      refine aw_istore_n (aw_d q_Mo_same 18 rfl) rfl (aw_le rfl) rfl ?_
      first
      | exact AW.to (lp_Mo_same1 hB hD rfl nr 0 false (by omega) (by rw [decide_eq_false c25]; simp)) rfl rfl rfl rfl
      | exact AW.to (lp_Mo_same1 hB hD rfl nr 0 false (by omega) (by rw [Bool.eq_false_iff.mpr c14]; rfl)) rfl rfl rfl rfl
    · refine aw_iconst (v := nI 1) (aw_d q_Mo_same 13 rfl) (by decide) ?_
      refine aw_goto (tgt := 33) (aw_d q_Mo_same 14 rfl) (by decide) ?_
      refine aw_istore_n (aw_d q_Mo_same 16 rfl) rfl (aw_le rfl) rfl ?_
      refine aw_iconst (v := nI 0) (aw_d q_Mo_same 17 rfl) (by decide) ?_
      refine aw_istore_n (aw_d q_Mo_same 18 rfl) rfl (aw_le rfl) rfl ?_
      first
      | exact AW.to (lp_Mo_same1 hB hD rfl nr 0 true (by omega) (by rw [c14, decide_eq_true c25]; rfl)) rfl rfl rfl rfl
set_option maxRecDepth 20000 in
theorem lp_Mo_same0 {g : aw_G} {S : aw_S} {nv nr : Nat} {nl : Nat → Nat} (hB : TmB S nv nr nl) {nv2 nr2 : Nat} {nl2 : Nat → Nat} (hD : TmK S nv2 nr2 nl2) (h8 : S.1 3316 = nI 1) {b : Bool} (hbt : (((decide (nv2 = nv) && nsB (S.2 41) (S.2 42) (S.2 44) (S.2 45) nv 0) && decide (nr2 = nr)) && decide (lkM (fun q k => (decide (nv2 = nv) && nsB (S.2 41) (S.2 42) (S.2 44) (S.2 45) nv 0) && rwB (S.2 43) (S.2 46) nv q k) nr2 nr 0 0 (fun _ => false) = -2)) = (b && decide (lkM (fun q k => (decide (nv2 = nv) && nsB (S.2 41) (S.2 42) (S.2 44) (S.2 45) nv 0) && rwB (S.2 43) (S.2 46) nv q k) nr2 nr 0 0 (fun _ => false) = -2))) : AW g M_Mo_same (aw_rm 2 49 0 0) (aw_F g 0 0 (fun r h => r = some (.int (if (((decide (nv2 = nv) && nsB (S.2 41) (S.2 42) (S.2 44) (S.2 45) nv 0) && decide (nr2 = nr)) && decide (lkM (fun q k => (decide (nv2 = nv) && nsB (S.2 41) (S.2 42) (S.2 44) (S.2 45) nv 0) && rwB (S.2 43) (S.2 46) nv q k) nr2 nr 0 0 (fun _ => false) = -2)) = true then nI 1 else nI 0)) ∧ ∃ T : Nat → Int32, h = HP (sa S 47 T))) 36 [some (.ref 33), some (.int (nI 0)), some (.int (if b = true then nI 1 else nI 0)), some (.int (nI 0))] [] (HP S) 0 0 := by
  refine aw_iload_n (aw_d q_Mo_same 19 rfl) rfl rfl ?_
  refine aw_aload_n (aw_d q_Mo_same 20 rfl) rfl rfl rfl ?_
  refine aw_getf (v := .int (nI (nr))) (aw_d q_Mo_same 21 rfl) fL_Mo_129_Mo rfl (gk hB.2.2.1) ?_
  refine aw_icmpN_ge (tgt := 65) (aw_d q_Mo_same 22 rfl) (by decide) (by (have hB2 := hB.2.1; have hB4 := hB.2.2.2.1; have hD2 := hD.2.1; have hD4 := hD.2.2.2.1; omega)) (by (have hB2 := hB.2.1; have hB4 := hB.2.2.2.1; have hD2 := hD.2.1; have hD4 := hD.2.2.2.1; omega)) (fun c41 => ?_) (fun c41 => ?_)
  · refine aw_iload_n (aw_d q_Mo_same 34 rfl) rfl rfl ?_
    refine aw_ifB_eq (tgt := 87) (aw_d q_Mo_same 35 rfl) (by decide) (fun c66 => ?_) (fun c66 => ?_)
    · have hb : b = false := by simpa using c66
      refine aw_iconst (v := nI 0) (aw_d q_Mo_same 45 rfl) (by decide) ?_
      exact aw_iret (aw_d q_Mo_same 46 rfl) rfl (⟨by rw [hbt]; first | (rw [hb]; rfl) | (rw [c66, decide_eq_true c80]; rfl) | (rw [decide_eq_false c80]; simp; done), by first | exact ⟨T, rfl⟩ | exact ⟨S.2 47, rfl⟩⟩)
    · refine aw_iload_n (aw_d q_Mo_same 36 rfl) rfl rfl ?_
      refine aw_ifN_ne (tgt := 83) (aw_d q_Mo_same 37 rfl) (by decide) (by (have hB2 := hB.2.1; have hB4 := hB.2.2.2.1; have hD2 := hD.2.1; have hD4 := hD.2.2.2.1; omega)) (fun c70 => by exfalso; (have hB2 := hB.2.1; have hB4 := hB.2.2.2.1; have hD2 := hD.2.1; have hD4 := hD.2.2.2.1; omega)) (fun c70 => ?_)
      refine aw_aload_n (aw_d q_Mo_same 38 rfl) rfl rfl rfl ?_
      refine aw_iconst (v := nI 0) (aw_d q_Mo_same 39 rfl) (by decide) ?_
      refine cV (aw_d q_Mo_same 40 rfl) (sp_Mo_lacks (i := 0) hB hD (by decide) h8) vL_Mo_503_Mo rfl rfl rfl rfl rfl rfl ⟨aw_le rfl, aw_le rfl⟩ (fun r75 h75 hp75 => ?_)
      obtain ⟨rfl, T, rfl⟩ := hp75
      refine aw_bipush (v := (-2)) (aw_d q_Mo_same 41 rfl) (by decide) ?_
      refine aw_icmpZ_ne (tgt := 87) (aw_d q_Mo_same 42 rfl) (by decide) (fun c80 => ?_) (fun c80 => ?_)
      · have c80 : ¬ lkM (fun q k => (decide (nv2 = nv) && nsB (S.2 41) (S.2 42) (S.2 44) (S.2 45) nv 0) && rwB (S.2 43) (S.2 46) nv q k) nr2 nr 0 0 (fun _ => false) = -2 := fun q => c80 (by rw [q])
        refine aw_iconst (v := nI 0) (aw_d q_Mo_same 45 rfl) (by decide) ?_
        exact aw_iret (aw_d q_Mo_same 46 rfl) rfl (⟨by rw [hbt]; first | (rw [hb]; rfl) | (rw [c66, decide_eq_true c80]; rfl) | (rw [decide_eq_false c80]; simp; done), by first | exact ⟨T, rfl⟩ | exact ⟨S.2 47, rfl⟩⟩)
      · have c80 : lkM (fun q k => (decide (nv2 = nv) && nsB (S.2 41) (S.2 42) (S.2 44) (S.2 45) nv 0) && rwB (S.2 43) (S.2 46) nv q k) nr2 nr 0 0 (fun _ => false) = -2 := Int32.toInt_inj.mp c80
        refine aw_iconst (v := nI 1) (aw_d q_Mo_same 43 rfl) (by decide) ?_
        refine aw_goto (tgt := 88) (aw_d q_Mo_same 44 rfl) (by decide) ?_
        exact aw_iret (aw_d q_Mo_same 46 rfl) rfl (⟨by rw [hbt]; first | (rw [hb]; rfl) | (rw [c66, decide_eq_true c80]; rfl) | (rw [decide_eq_false c80]; simp; done), by first | exact ⟨T, rfl⟩ | exact ⟨S.2 47, rfl⟩⟩)
  · refine aw_iload_n (aw_d q_Mo_same 23 rfl) rfl rfl ?_
    refine aw_ifN_eq (tgt := 65) (aw_d q_Mo_same 24 rfl) (by decide) (by (have hB2 := hB.2.1; have hB4 := hB.2.2.2.1; have hD2 := hD.2.1; have hD4 := hD.2.2.2.1; omega)) (fun c45 => ?_) (fun c45 => by exfalso; (have hB2 := hB.2.1; have hB4 := hB.2.2.2.1; have hD2 := hD.2.1; have hD4 := hD.2.2.2.1; omega))
    refine aw_iload_n (aw_d q_Mo_same 34 rfl) rfl rfl ?_
    refine aw_ifB_eq (tgt := 87) (aw_d q_Mo_same 35 rfl) (by decide) (fun c66 => ?_) (fun c66 => ?_)
    · have hb : b = false := by simpa using c66
      refine aw_iconst (v := nI 0) (aw_d q_Mo_same 45 rfl) (by decide) ?_
      exact aw_iret (aw_d q_Mo_same 46 rfl) rfl (⟨by rw [hbt]; first | (rw [hb]; rfl) | (rw [c66, decide_eq_true c80]; rfl) | (rw [decide_eq_false c80]; simp; done), by first | exact ⟨T, rfl⟩ | exact ⟨S.2 47, rfl⟩⟩)
    · refine aw_iload_n (aw_d q_Mo_same 36 rfl) rfl rfl ?_
      refine aw_ifN_ne (tgt := 83) (aw_d q_Mo_same 37 rfl) (by decide) (by (have hB2 := hB.2.1; have hB4 := hB.2.2.2.1; have hD2 := hD.2.1; have hD4 := hD.2.2.2.1; omega)) (fun c70 => by exfalso; (have hB2 := hB.2.1; have hB4 := hB.2.2.2.1; have hD2 := hD.2.1; have hD4 := hD.2.2.2.1; omega)) (fun c70 => ?_)
      refine aw_aload_n (aw_d q_Mo_same 38 rfl) rfl rfl rfl ?_
      refine aw_iconst (v := nI 0) (aw_d q_Mo_same 39 rfl) (by decide) ?_
      refine cV (aw_d q_Mo_same 40 rfl) (sp_Mo_lacks (i := 0) hB hD (by decide) h8) vL_Mo_503_Mo rfl rfl rfl rfl rfl rfl ⟨aw_le rfl, aw_le rfl⟩ (fun r75 h75 hp75 => ?_)
      obtain ⟨rfl, T, rfl⟩ := hp75
      refine aw_bipush (v := (-2)) (aw_d q_Mo_same 41 rfl) (by decide) ?_
      refine aw_icmpZ_ne (tgt := 87) (aw_d q_Mo_same 42 rfl) (by decide) (fun c80 => ?_) (fun c80 => ?_)
      · have c80 : ¬ lkM (fun q k => (decide (nv2 = nv) && nsB (S.2 41) (S.2 42) (S.2 44) (S.2 45) nv 0) && rwB (S.2 43) (S.2 46) nv q k) nr2 nr 0 0 (fun _ => false) = -2 := fun q => c80 (by rw [q])
        refine aw_iconst (v := nI 0) (aw_d q_Mo_same 45 rfl) (by decide) ?_
        exact aw_iret (aw_d q_Mo_same 46 rfl) rfl (⟨by rw [hbt]; first | (rw [hb]; rfl) | (rw [c66, decide_eq_true c80]; rfl) | (rw [decide_eq_false c80]; simp; done), by first | exact ⟨T, rfl⟩ | exact ⟨S.2 47, rfl⟩⟩)
      · have c80 : lkM (fun q k => (decide (nv2 = nv) && nsB (S.2 41) (S.2 42) (S.2 44) (S.2 45) nv 0) && rwB (S.2 43) (S.2 46) nv q k) nr2 nr 0 0 (fun _ => false) = -2 := Int32.toInt_inj.mp c80
        refine aw_iconst (v := nI 1) (aw_d q_Mo_same 43 rfl) (by decide) ?_
        refine aw_goto (tgt := 88) (aw_d q_Mo_same 44 rfl) (by decide) ?_
        exact aw_iret (aw_d q_Mo_same 46 rfl) rfl (⟨by rw [hbt]; first | (rw [hb]; rfl) | (rw [c66, decide_eq_true c80]; rfl) | (rw [decide_eq_false c80]; simp; done), by first | exact ⟨T, rfl⟩ | exact ⟨S.2 47, rfl⟩⟩)
set_option maxRecDepth 20000 in
theorem sp_Mo_same_0 {g : aw_G} {S : aw_S} {nv nr : Nat} {nl : Nat → Nat} (hB : TmB S nv nr nl) {nv2 nr2 : Nat} {nl2 : Nat → Nat} (hD : TmK S nv2 nr2 nl2) (h8 : S.1 3316 = nI 1) : Sp g M_Mo_same 2 49 0 0 [.ref 33, .int (nI 0)] (HP S) (fun r h => r = some (.int (if (((decide (nv2 = nv) && nsB (S.2 41) (S.2 42) (S.2 44) (S.2 45) nv 0) && decide (nr2 = nr)) && decide (lkM (fun q k => (decide (nv2 = nv) && nsB (S.2 41) (S.2 42) (S.2 44) (S.2 45) nv 0) && rwB (S.2 43) (S.2 46) nv q k) nr2 nr 0 0 (fun _ => false) = -2)) = true then nI 1 else nI 0)) ∧ ∃ T : Nat → Int32, h = HP (sa S 47 T)) := by
  refine Sp.of rfl (aw_le rfl) ?_
  refine aw_aload_n (aw_d q_Mo_same 0 rfl) rfl rfl rfl ?_
  refine aw_getf (v := .int (nI (1))) (aw_d q_Mo_same 1 rfl) fL_Mo_487_Mo rfl (gk h8) ?_
  refine aw_ifN_ne (tgt := 10) (aw_d q_Mo_same 2 rfl) (by decide) (by (have hB2 := hB.2.1; have hB4 := hB.2.2.2.1; have hD2 := hD.2.1; have hD4 := hD.2.2.2.1; omega)) (fun c4 => ?_) (fun c4 => by exfalso; (have hB2 := hB.2.1; have hB4 := hB.2.2.2.1; have hD2 := hD.2.1; have hD4 := hD.2.2.2.1; omega))
  refine aw_aload_n (aw_d q_Mo_same 5 rfl) rfl rfl rfl ?_
  refine cVr (aw_d q_Mo_same 6 rfl) (sp_Mo_areNames hB hD) vL_Mo_497_Mo rfl rfl rfl rfl rfl rfl ⟨aw_le rfl, aw_le rfl⟩ ?_
  refine aw_ifB_eq (tgt := 32) (aw_d q_Mo_same 7 rfl) (by decide) (fun c14 => ?_) (fun c14 => ?_)
  · refine aw_iconst (v := nI 0) (aw_d q_Mo_same 15 rfl) (by decide) ?_
    refine aw_istore_n (aw_d q_Mo_same 16 rfl) rfl (aw_le rfl) rfl ?_
    refine aw_iconst (v := nI 0) (aw_d q_Mo_same 17 rfl) (by decide) ?_
    refine aw_istore_n (aw_d q_Mo_same 18 rfl) rfl (aw_le rfl) rfl ?_
    first
    | exact AW.to (lp_Mo_same0 hB hD h8 (b := false) (by rw [decide_eq_false c25]; simp)) rfl rfl rfl rfl
    | exact AW.to (lp_Mo_same0 hB hD h8 (b := false) (by rw [Bool.eq_false_iff.mpr c14]; rfl)) rfl rfl rfl rfl
  · refine aw_aload_n (aw_d q_Mo_same 8 rfl) rfl rfl rfl ?_
    refine aw_getf (v := .int (nI (nr2))) (aw_d q_Mo_same 9 rfl) fL_Mo_494_Mo rfl (gk hD.2.2.1) ?_
    refine aw_aload_n (aw_d q_Mo_same 10 rfl) rfl rfl rfl ?_
    refine aw_getf (v := .int (nI (nr))) (aw_d q_Mo_same 11 rfl) fL_Mo_129_Mo rfl (gk hB.2.2.1) ?_
    refine aw_icmpN_ne (tgt := 32) (aw_d q_Mo_same 12 rfl) (by decide) (by (have hB2 := hB.2.1; have hB4 := hB.2.2.2.1; have hD2 := hD.2.1; have hD4 := hD.2.2.2.1; omega)) (by (have hB2 := hB.2.1; have hB4 := hB.2.2.2.1; have hD2 := hD.2.1; have hD4 := hD.2.2.2.1; omega)) (fun c25 => ?_) (fun c25 => ?_)
    · refine aw_iconst (v := nI 0) (aw_d q_Mo_same 15 rfl) (by decide) ?_
      refine aw_istore_n (aw_d q_Mo_same 16 rfl) rfl (aw_le rfl) rfl ?_
      refine aw_iconst (v := nI 0) (aw_d q_Mo_same 17 rfl) (by decide) ?_
      refine aw_istore_n (aw_d q_Mo_same 18 rfl) rfl (aw_le rfl) rfl ?_
      first
      | exact AW.to (lp_Mo_same0 hB hD h8 (b := false) (by rw [decide_eq_false c25]; simp)) rfl rfl rfl rfl
      | exact AW.to (lp_Mo_same0 hB hD h8 (b := false) (by rw [Bool.eq_false_iff.mpr c14]; rfl)) rfl rfl rfl rfl
    · refine aw_iconst (v := nI 1) (aw_d q_Mo_same 13 rfl) (by decide) ?_
      refine aw_goto (tgt := 33) (aw_d q_Mo_same 14 rfl) (by decide) ?_
      refine aw_istore_n (aw_d q_Mo_same 16 rfl) rfl (aw_le rfl) rfl ?_
      refine aw_iconst (v := nI 0) (aw_d q_Mo_same 17 rfl) (by decide) ?_
      refine aw_istore_n (aw_d q_Mo_same 18 rfl) rfl (aw_le rfl) rfl ?_
      exact AW.to (lp_Mo_same0 hB hD h8 (b := true) (by rw [c14, decide_eq_true c25]; rfl)) rfl rfl rfl rfl
/-- as ddB, but all six cells are moved -/
def ddM (nv : Nat) : Nat → Nat → Nat → (Nat → Int32) → Nat × (Nat → Int32)
  | 0, _, l, C => (l, C)
  | m + 1, r, l, C => if orB (fun q => rwB C C nv r q) l 0 then ddM nv m (r + 1) l C else ddM nv m (r + 1) (l + 1) (cpR C 6 l r)
set_option maxRecDepth 20000 in
theorem lp_Mo_d3 {g : aw_G} {S : aw_S} {nv nr : Nat} {nl : Nat → Nat} (hB : TmB S nv nr nl) {C : Nat → Int32} {l r : Nat} (hl : l ≤ r) (hr : r < nr) {q : Nat} (hq : q < l) {tw tot : Bool} (K : ∀ x6 : Option Value, AW g M_Mo_distinct (aw_rm 0 0 0 0) (aw_F g 0 0 (fun r h => r = some (.int (nI (nr - (ddM nv nr 0 0 (S.2 43)).1))) ∧ h = HP (si (sa S 43 (ddM nv nr 0 0 (S.2 43)).2) 3314 (nI (ddM nv nr 0 0 (S.2 43)).1)))) 84 [some (.ref 33), some (.int (nI l)), some (.int (nI r)), some (.int (if tw = true then nI 1 else nI 0)), some (.int (nI q)), some (.int (if tot = true then nI 1 else nI 0)), x6] [] (HP (sa S 43 C)) 0 0) : ∀ (m v : Nat) (b : Bool), m + v = nv → (b && eqB (fun v => C (r * 6 + v)) (fun v => C (q * 6 + v)) m v) = tot → AW g M_Mo_distinct (aw_rm 0 0 0 0) (aw_F g 0 0 (fun r h => r = some (.int (nI (nr - (ddM nv nr 0 0 (S.2 43)).1))) ∧ h = HP (si (sa S 43 (ddM nv nr 0 0 (S.2 43)).2) 3314 (nI (ddM nv nr 0 0 (S.2 43)).1)))) 29 [some (.ref 33), some (.int (nI l)), some (.int (nI r)), some (.int (if tw = true then nI 1 else nI 0)), some (.int (nI q)), some (.int (if b = true then nI 1 else nI 0)), some (.int (nI v))] [] (HP (sa S 43 C)) 0 0 := by
  intro m
  induction m with
  | zero =>
    intro v b hk e
    refine aw_iload (aw_d q_Mo_distinct 19 rfl) rfl ?_
    refine aw_aload_n (aw_d q_Mo_distinct 20 rfl) rfl rfl rfl ?_
    refine aw_getf (v := .int (nI (nv))) (aw_d q_Mo_distinct 21 rfl) fL_Mo_126_Mo rfl (gk hB.1) ?_
    refine aw_icmpN_ge (tgt := 84) (aw_d q_Mo_distinct 22 rfl) (by decide) (by (have hB2 := hB.2.1; have hB4 := hB.2.2.2.1; omega)) (by (have hB2 := hB.2.1; have hB4 := hB.2.2.2.1; omega)) (fun c35 => ?_) (fun c35 => by exfalso; (have hB2 := hB.2.1; have hB4 := hB.2.2.2.1; omega))
    have e : b = tot := by rw [← e]; simp [eqB]
    subst e
    exact K _
  | succ m ih =>
    intro v b hk e
    refine aw_iload (aw_d q_Mo_distinct 19 rfl) rfl ?_
    refine aw_aload_n (aw_d q_Mo_distinct 20 rfl) rfl rfl rfl ?_
    refine aw_getf (v := .int (nI (nv))) (aw_d q_Mo_distinct 21 rfl) fL_Mo_126_Mo rfl (gk hB.1) ?_
    refine aw_icmpN_ge (tgt := 84) (aw_d q_Mo_distinct 22 rfl) (by decide) (by (have hB2 := hB.2.1; have hB4 := hB.2.2.2.1; omega)) (by (have hB2 := hB.2.1; have hB4 := hB.2.2.2.1; omega)) (fun c35 => by exfalso; (have hB2 := hB.2.1; have hB4 := hB.2.2.2.1; omega)) (fun c35 => ?_)
    refine aw_iload (aw_d q_Mo_distinct 23 rfl) rfl ?_
    refine aw_ifB_eq (tgt := 75) (aw_d q_Mo_distinct 24 rfl) (by decide) (fun c40 => ?_) (fun c40 => ?_)
    · have hp : b = false := by simpa using c40
      refine aw_iconst (v := nI 0) (aw_d q_Mo_distinct 44 rfl) (by decide) ?_
      refine aw_istore (aw_d q_Mo_distinct 45 rfl) (aw_le rfl) rfl ?_
      refine aw_iinc (aw_d q_Mo_distinct 46 rfl) rfl (ii1 _) (aw_le rfl) rfl ?_
      refine aw_goto (tgt := 29) (aw_d q_Mo_distinct 47 rfl) (by decide) ?_
      exact ih (v + 1) false (by omega) (by rw [← e]; simp [eqB, hp])
    · refine aw_aload_n (aw_d q_Mo_distinct 25 rfl) rfl rfl rfl ?_
      refine aw_getf (aw_d q_Mo_distinct 26 rfl) fL_Mo_37_Mo rfl rfl ?_
      refine aw_bipush (v := nI 6) (aw_d q_Mo_distinct 27 rfl) (by decide) ?_
      refine aw_iload_n (aw_d q_Mo_distinct 28 rfl) rfl rfl ?_
      refine aw_imulN (aw_d q_Mo_distinct 29 rfl) ?_
      refine aw_iload (aw_d q_Mo_distinct 30 rfl) rfl ?_
      refine aw_iaddN (aw_d q_Mo_distinct 31 rfl) ?_
      refine aw_ialdN (aw_d q_Mo_distinct 32 rfl) rfl (by (have hB2 := hB.2.1; have hB4 := hB.2.2.2.1; omega)) rfl ?_
      refine aw_aload_n (aw_d q_Mo_distinct 33 rfl) rfl rfl rfl ?_
      refine aw_getf (aw_d q_Mo_distinct 34 rfl) fL_Mo_37_Mo rfl rfl ?_
      refine aw_bipush (v := nI 6) (aw_d q_Mo_distinct 35 rfl) (by decide) ?_
      refine aw_iload (aw_d q_Mo_distinct 36 rfl) rfl ?_
      refine aw_imulN (aw_d q_Mo_distinct 37 rfl) ?_
      refine aw_iload (aw_d q_Mo_distinct 38 rfl) rfl ?_
      refine aw_iaddN (aw_d q_Mo_distinct 39 rfl) ?_
      refine aw_ialdN (aw_d q_Mo_distinct 40 rfl) rfl (by (have hB2 := hB.2.1; have hB4 := hB.2.2.2.1; omega)) rfl ?_
      refine aw_icmpZ_ne (tgt := 75) (aw_d q_Mo_distinct 41 rfl) (by decide) (fun c68 => ?_) (fun c68 => ?_)
      · have hp : ¬ C (r * 6 + v) = C (q * 6 + v) := fun z => c68 (by show (C (6 * r + v)).toInt = (C (6 * q + v)).toInt; rw [Nat.mul_comm 6 r, Nat.mul_comm 6 q, z])
        refine aw_iconst (v := nI 0) (aw_d q_Mo_distinct 44 rfl) (by decide) ?_
        refine aw_istore (aw_d q_Mo_distinct 45 rfl) (aw_le rfl) rfl ?_
        refine aw_iinc (aw_d q_Mo_distinct 46 rfl) rfl (ii1 _) (aw_le rfl) rfl ?_
        refine aw_goto (tgt := 29) (aw_d q_Mo_distinct 47 rfl) (by decide) ?_
        exact ih (v + 1) false (by omega) (by rw [← e]; simp [eqB, hp])
      · have hp : C (r * 6 + v) = C (q * 6 + v) := by rw [Nat.mul_comm r 6, Nat.mul_comm q 6]; exact Int32.toInt_inj.mp c68
        refine aw_iconst (v := nI 1) (aw_d q_Mo_distinct 42 rfl) (by decide) ?_
        refine aw_goto (tgt := 76) (aw_d q_Mo_distinct 43 rfl) (by decide) ?_
        refine aw_istore (aw_d q_Mo_distinct 45 rfl) (aw_le rfl) rfl ?_
        refine aw_iinc (aw_d q_Mo_distinct 46 rfl) rfl (ii1 _) (aw_le rfl) rfl ?_
        refine aw_goto (tgt := 29) (aw_d q_Mo_distinct 47 rfl) (by decide) ?_
        exact ih (v + 1) true (by omega) (by rw [← e]; simp [eqB, c40, hp])
set_option maxRecDepth 20000 in
theorem lp_Mo_d2 {g : aw_G} {S : aw_S} {nv nr : Nat} {nl : Nat → Nat} (hB : TmB S nv nr nl) {C : Nat → Int32} {l r : Nat} (hl : l ≤ r) (hr : r < nr) {tot : Bool} (K : ∀ x4 x5 x6 : Option Value, AW g M_Mo_distinct (aw_rm 0 0 0 0) (aw_F g 0 0 (fun r h => r = some (.int (nI (nr - (ddM nv nr 0 0 (S.2 43)).1))) ∧ h = HP (si (sa S 43 (ddM nv nr 0 0 (S.2 43)).2) 3314 (nI (ddM nv nr 0 0 (S.2 43)).1)))) 105 [some (.ref 33), some (.int (nI l)), some (.int (nI r)), some (.int (if tot = true then nI 1 else nI 0)), x4, x5, x6] [] (HP (sa S 43 C)) 0 0) : ∀ (m q : Nat) (b : Bool) (x5 x6 : Option Value), m + q = l → (b || orB (fun q => rwB C C nv r q) m q) = tot → AW g M_Mo_distinct (aw_rm 0 0 0 0) (aw_F g 0 0 (fun r h => r = some (.int (nI (nr - (ddM nv nr 0 0 (S.2 43)).1))) ∧ h = HP (si (sa S 43 (ddM nv nr 0 0 (S.2 43)).2) 3314 (nI (ddM nv nr 0 0 (S.2 43)).1)))) 17 [some (.ref 33), some (.int (nI l)), some (.int (nI r)), some (.int (if b = true then nI 1 else nI 0)), some (.int (nI q)), x5, x6] [] (HP (sa S 43 C)) 0 0 := by
  intro m
  induction m with
  | zero =>
    intro q b x5 x6 hk e
    refine aw_iload (aw_d q_Mo_distinct 12 rfl) rfl ?_
    refine aw_iload_n (aw_d q_Mo_distinct 13 rfl) rfl rfl ?_
    refine aw_icmpN_ge (tgt := 105) (aw_d q_Mo_distinct 14 rfl) (by decide) (by (have hB2 := hB.2.1; have hB4 := hB.2.2.2.1; omega)) (by (have hB2 := hB.2.1; have hB4 := hB.2.2.2.1; omega)) (fun c20 => ?_) (fun c20 => by exfalso; (have hB2 := hB.2.1; have hB4 := hB.2.2.2.1; omega))
    have e : b = tot := by rw [← e]; simp [orB]
    subst e
    exact K _ _ _
  | succ m ih =>
    intro q b x5 x6 hk e
    refine aw_iload (aw_d q_Mo_distinct 12 rfl) rfl ?_
    refine aw_iload_n (aw_d q_Mo_distinct 13 rfl) rfl rfl ?_
    refine aw_icmpN_ge (tgt := 105) (aw_d q_Mo_distinct 14 rfl) (by decide) (by (have hB2 := hB.2.1; have hB4 := hB.2.2.2.1; omega)) (by (have hB2 := hB.2.1; have hB4 := hB.2.2.2.1; omega)) (fun c20 => by exfalso; (have hB2 := hB.2.1; have hB4 := hB.2.2.2.1; omega)) (fun c20 => ?_)
    refine aw_iconst (v := nI 1) (aw_d q_Mo_distinct 15 rfl) (by decide) ?_
    refine aw_istore (aw_d q_Mo_distinct 16 rfl) (aw_le rfl) rfl ?_
    refine aw_iconst (v := nI 0) (aw_d q_Mo_distinct 17 rfl) (by decide) ?_
    refine aw_istore (aw_d q_Mo_distinct 18 rfl) (aw_le rfl) rfl ?_
    refine AW.to (lp_Mo_d3 hB hl hr (q := q) (by omega) (tw := b) (tot := rwB C C nv r q) (fun x6 => ?_) nv 0 true (by omega) rfl) rfl rfl rfl rfl
    refine aw_iload_n (aw_d q_Mo_distinct 48 rfl) rfl rfl ?_
    refine aw_ifB_ne (tgt := 93) (aw_d q_Mo_distinct 49 rfl) (by decide) (fun c85 => ?_) (fun c85 => ?_)
    · refine aw_iconst (v := nI 1) (aw_d q_Mo_distinct 52 rfl) (by decide) ?_
      refine aw_goto (tgt := 98) (aw_d q_Mo_distinct 53 rfl) (by decide) ?_
      refine aw_istore_n (aw_d q_Mo_distinct 55 rfl) rfl (aw_le rfl) rfl ?_
      refine aw_iinc (aw_d q_Mo_distinct 56 rfl) rfl (ii1 _) (aw_le rfl) rfl ?_
      refine aw_goto (tgt := 17) (aw_d q_Mo_distinct 57 rfl) (by decide) ?_
      exact ih (q + 1) true _ _ (by omega) (by rw [← e]; first | (simp [orB, c90]; done) | (simp [orB, c85]; done))
    · refine aw_iload (aw_d q_Mo_distinct 50 rfl) rfl ?_
      refine aw_ifB_eq (tgt := 97) (aw_d q_Mo_distinct 51 rfl) (by decide) (fun c90 => ?_) (fun c90 => ?_)
      · refine aw_iconst (v := nI 0) (aw_d q_Mo_distinct 54 rfl) (by decide) ?_
        refine aw_istore_n (aw_d q_Mo_distinct 55 rfl) rfl (aw_le rfl) rfl ?_
        refine aw_iinc (aw_d q_Mo_distinct 56 rfl) rfl (ii1 _) (aw_le rfl) rfl ?_
        refine aw_goto (tgt := 17) (aw_d q_Mo_distinct 57 rfl) (by decide) ?_
        exact ih (q + 1) false _ _ (by omega) (by rw [← e]; simp [orB, c85, c90])
      · refine aw_iconst (v := nI 1) (aw_d q_Mo_distinct 52 rfl) (by decide) ?_
        refine aw_goto (tgt := 98) (aw_d q_Mo_distinct 53 rfl) (by decide) ?_
        refine aw_istore_n (aw_d q_Mo_distinct 55 rfl) rfl (aw_le rfl) rfl ?_
        refine aw_iinc (aw_d q_Mo_distinct 56 rfl) rfl (ii1 _) (aw_le rfl) rfl ?_
        refine aw_goto (tgt := 17) (aw_d q_Mo_distinct 57 rfl) (by decide) ?_
        exact ih (q + 1) true _ _ (by omega) (by rw [← e]; first | (simp [orB, c90]; done) | (simp [orB, c85]; done))
set_option maxRecDepth 20000 in
theorem lp_Mo_d4 {g : aw_G} {S : aw_S} {nv nr : Nat} {nl : Nat → Nat} (hB : TmB S nv nr nl) {C : Nat → Int32} {l r : Nat} (hl : l ≤ r) (hr : r < nr) {tw : Int32} {x5 x6 : Option Value} (K : ∀ x4 : Option Value, AW g M_Mo_distinct (aw_rm 0 0 0 0) (aw_F g 0 0 (fun r h => r = some (.int (nI (nr - (ddM nv nr 0 0 (S.2 43)).1))) ∧ h = HP (si (sa S 43 (ddM nv nr 0 0 (S.2 43)).2) 3314 (nI (ddM nv nr 0 0 (S.2 43)).1)))) 149 [some (.ref 33), some (.int (nI l)), some (.int (nI r)), some (.int tw), x4, x5, x6] [] (HP (sa S 43 (cpR C 6 l r))) 0 0) : ∀ (m v : Nat), m + v = 6 → AW g M_Mo_distinct (aw_rm 0 0 0 0) (aw_F g 0 0 (fun r h => r = some (.int (nI (nr - (ddM nv nr 0 0 (S.2 43)).1))) ∧ h = HP (si (sa S 43 (ddM nv nr 0 0 (S.2 43)).2) 3314 (nI (ddM nv nr 0 0 (S.2 43)).1)))) 112 [some (.ref 33), some (.int (nI l)), some (.int (nI r)), some (.int tw), some (.int (nI v)), x5, x6] [] (HP (sa S 43 (cpR C v l r))) 0 0 := by
  intro m
  induction m with
  | zero =>
    intro v hk
    refine aw_iload (aw_d q_Mo_distinct 62 rfl) rfl ?_
    refine aw_bipush (v := nI 6) (aw_d q_Mo_distinct 63 rfl) (by decide) ?_
    refine aw_icmpN_ge (tgt := 149) (aw_d q_Mo_distinct 64 rfl) (by decide) (by (have hB2 := hB.2.1; have hB4 := hB.2.2.2.1; omega)) (by (have hB2 := hB.2.1; have hB4 := hB.2.2.2.1; omega)) (fun c116 => ?_) (fun c116 => by exfalso; (have hB2 := hB.2.1; have hB4 := hB.2.2.2.1; omega))
    have hv6 : v = 6 := by omega
    subst hv6
    exact K _
  | succ m ih =>
    intro v hk
    refine aw_iload (aw_d q_Mo_distinct 62 rfl) rfl ?_
    refine aw_bipush (v := nI 6) (aw_d q_Mo_distinct 63 rfl) (by decide) ?_
    refine aw_icmpN_ge (tgt := 149) (aw_d q_Mo_distinct 64 rfl) (by decide) (by (have hB2 := hB.2.1; have hB4 := hB.2.2.2.1; omega)) (by (have hB2 := hB.2.1; have hB4 := hB.2.2.2.1; omega)) (fun c116 => by exfalso; (have hB2 := hB.2.1; have hB4 := hB.2.2.2.1; omega)) (fun c116 => ?_)
    refine aw_aload_n (aw_d q_Mo_distinct 65 rfl) rfl rfl rfl ?_
    refine aw_getf (aw_d q_Mo_distinct 66 rfl) fL_Mo_37_Mo rfl rfl ?_
    refine aw_bipush (v := nI 6) (aw_d q_Mo_distinct 67 rfl) (by decide) ?_
    refine aw_iload_n (aw_d q_Mo_distinct 68 rfl) rfl rfl ?_
    refine aw_imulN (aw_d q_Mo_distinct 69 rfl) ?_
    refine aw_iload (aw_d q_Mo_distinct 70 rfl) rfl ?_
    refine aw_iaddN (aw_d q_Mo_distinct 71 rfl) ?_
    refine aw_aload_n (aw_d q_Mo_distinct 72 rfl) rfl rfl rfl ?_
    refine aw_getf (aw_d q_Mo_distinct 73 rfl) fL_Mo_37_Mo rfl rfl ?_
    refine aw_bipush (v := nI 6) (aw_d q_Mo_distinct 74 rfl) (by decide) ?_
    refine aw_iload_n (aw_d q_Mo_distinct 75 rfl) rfl rfl ?_
    refine aw_imulN (aw_d q_Mo_distinct 76 rfl) ?_
    refine aw_iload (aw_d q_Mo_distinct 77 rfl) rfl ?_
    refine aw_iaddN (aw_d q_Mo_distinct 78 rfl) ?_
    refine aw_ialdN (aw_d q_Mo_distinct 79 rfl) rfl (by (have hB2 := hB.2.1; have hB4 := hB.2.2.2.1; omega)) rfl ?_
    refine wn_43 (aw_d q_Mo_distinct 80 rfl) (by (have hB2 := hB.2.1; have hB4 := hB.2.2.2.1; omega)) ?_
    refine aw_iinc (aw_d q_Mo_distinct 81 rfl) rfl (ii1 _) (aw_le rfl) rfl ?_
    refine aw_goto (tgt := 112) (aw_d q_Mo_distinct 82 rfl) (by decide) ?_
    have hz := ih (v + 1) (by omega)
    rw [← cpR_s C (by omega) hl, Nat.mul_comm l 6, Nat.mul_comm r 6] at hz
    exact AW.to hz rfl rfl rfl rfl
set_option maxRecDepth 20000 in
theorem lp_Mo_d1 {g : aw_G} {S : aw_S} {nv nr : Nat} {nl : Nat → Nat} (hB : TmB S nv nr nl) : ∀ (m r l : Nat) (C : Nat → Int32) (x3 x4 x5 x6 : Option Value), m + r = nr → l ≤ r → (ddM nv nr 0 0 (S.2 43)) = ddM nv m r l C → AW g M_Mo_distinct (aw_rm 0 0 0 0) (aw_F g 0 0 (fun r h => r = some (.int (nI (nr - (ddM nv nr 0 0 (S.2 43)).1))) ∧ h = HP (si (sa S 43 (ddM nv nr 0 0 (S.2 43)).2) 3314 (nI (ddM nv nr 0 0 (S.2 43)).1)))) 4 [some (.ref 33), some (.int (nI l)), some (.int (nI r)), x3, x4, x5, x6] [] (HP (sa S 43 C)) 0 0 := by
  intro m
  induction m with
  | zero =>
    intro r l C x3 x4 x5 x6 hk hll e
    refine aw_iload_n (aw_d q_Mo_distinct 4 rfl) rfl rfl ?_
    refine aw_aload_n (aw_d q_Mo_distinct 5 rfl) rfl rfl rfl ?_
    refine aw_getf (v := .int (nI (nr))) (aw_d q_Mo_distinct 6 rfl) fL_Mo_129_Mo rfl (gk hB.2.2.1) ?_
    refine aw_icmpN_ge (tgt := 158) (aw_d q_Mo_distinct 7 rfl) (by decide) (by (have hB2 := hB.2.1; have hB4 := hB.2.2.2.1; omega)) (by (have hB2 := hB.2.1; have hB4 := hB.2.2.2.1; omega)) (fun c9 => ?_) (fun c9 => by exfalso; (have hB2 := hB.2.1; have hB4 := hB.2.2.2.1; omega))
    refine aw_aload_n (aw_d q_Mo_distinct 86 rfl) rfl rfl rfl ?_
    refine aw_getf (v := .int (nI (nr))) (aw_d q_Mo_distinct 87 rfl) fL_Mo_129_Mo rfl (gk hB.2.2.1) ?_
    refine aw_iload_n (aw_d q_Mo_distinct 88 rfl) rfl rfl ?_
    refine aw_isubN (aw_d q_Mo_distinct 89 rfl) (by (have hB2 := hB.2.1; have hB4 := hB.2.2.2.1; omega)) ?_
    refine aw_istore_n (aw_d q_Mo_distinct 90 rfl) rfl (aw_le rfl) rfl ?_
    refine aw_aload_n (aw_d q_Mo_distinct 91 rfl) rfl rfl rfl ?_
    refine aw_iload_n (aw_d q_Mo_distinct 92 rfl) rfl rfl ?_
    refine wi_33_14 (aw_d q_Mo_distinct 93 rfl) pL_Mo_129_Mo ?_
    refine aw_iload_n (aw_d q_Mo_distinct 94 rfl) rfl rfl ?_
    exact aw_iret (aw_d q_Mo_distinct 95 rfl) rfl (⟨by rw [e]; rfl, by rw [e]; rfl⟩)
  | succ m ih =>
    intro r l C x3 x4 x5 x6 hk hll e
    refine aw_iload_n (aw_d q_Mo_distinct 4 rfl) rfl rfl ?_
    refine aw_aload_n (aw_d q_Mo_distinct 5 rfl) rfl rfl rfl ?_
    refine aw_getf (v := .int (nI (nr))) (aw_d q_Mo_distinct 6 rfl) fL_Mo_129_Mo rfl (gk hB.2.2.1) ?_
    refine aw_icmpN_ge (tgt := 158) (aw_d q_Mo_distinct 7 rfl) (by decide) (by (have hB2 := hB.2.1; have hB4 := hB.2.2.2.1; omega)) (by (have hB2 := hB.2.1; have hB4 := hB.2.2.2.1; omega)) (fun c9 => by exfalso; (have hB2 := hB.2.1; have hB4 := hB.2.2.2.1; omega)) (fun c9 => ?_)
    refine aw_iconst (v := nI 0) (aw_d q_Mo_distinct 8 rfl) (by decide) ?_
    refine aw_istore_n (aw_d q_Mo_distinct 9 rfl) rfl (aw_le rfl) rfl ?_
    refine aw_iconst (v := nI 0) (aw_d q_Mo_distinct 10 rfl) (by decide) ?_
    refine aw_istore (aw_d q_Mo_distinct 11 rfl) (aw_le rfl) rfl ?_
    refine AW.to (lp_Mo_d2 hB hll (by omega) (tot := orB (fun q => rwB C C nv r q) l 0) (fun x4 x5 x6 => ?_) l 0 false _ _ (by omega) (by simp)) rfl rfl rfl rfl
    refine aw_iload_n (aw_d q_Mo_distinct 58 rfl) rfl rfl ?_
    refine aw_ifB_ne (tgt := 152) (aw_d q_Mo_distinct 59 rfl) (by decide) (fun c106 => ?_) (fun c106 => ?_)
    · refine aw_iinc (aw_d q_Mo_distinct 84 rfl) rfl (ii1 _) (aw_le rfl) rfl ?_
      refine aw_goto (tgt := 4) (aw_d q_Mo_distinct 85 rfl) (by decide) ?_
      exact ih (r + 1) l C _ _ _ _ (by omega) (by omega) (e.trans (by simp only [ddM]; rw [if_pos c106]))
    · refine aw_iconst (v := nI 0) (aw_d q_Mo_distinct 60 rfl) (by decide) ?_
      refine aw_istore (aw_d q_Mo_distinct 61 rfl) (aw_le rfl) rfl ?_
      refine AW.to (h' := HP (sa S 43 (cpR C 0 l r))) (lp_Mo_d4 hB hll (by omega) (fun x4 => ?_) 6 0 (by omega)) rfl rfl rfl (by rw [cpR_0])
      refine aw_iinc (aw_d q_Mo_distinct 83 rfl) rfl (ii1 _) (aw_le rfl) rfl ?_
      refine aw_iinc (aw_d q_Mo_distinct 84 rfl) rfl (ii1 _) (aw_le rfl) rfl ?_
      refine aw_goto (tgt := 4) (aw_d q_Mo_distinct 85 rfl) (by decide) ?_
      exact ih (r + 1) (l + 1) _ _ _ _ _ (by omega) (by omega) (e.trans (by simp only [ddM]; rw [if_neg c106]))
set_option maxRecDepth 20000 in
theorem sp_Mo_distinct {g : aw_G} {S : aw_S} {nv nr : Nat} {nl : Nat → Nat} (hB : TmB S nv nr nl) : Sp g M_Mo_distinct 0 0 0 0 [.ref 33] (HP S) (fun r h => r = some (.int (nI (nr - (ddM nv nr 0 0 (S.2 43)).1))) ∧ h = HP (si (sa S 43 (ddM nv nr 0 0 (S.2 43)).2) 3314 (nI (ddM nv nr 0 0 (S.2 43)).1))) := by
  refine Sp.of rfl (aw_le rfl) ?_
  refine aw_iconst (v := nI 0) (aw_d q_Mo_distinct 0 rfl) (by decide) ?_
  refine aw_istore_n (aw_d q_Mo_distinct 1 rfl) rfl (aw_le rfl) rfl ?_
  refine aw_iconst (v := nI 0) (aw_d q_Mo_distinct 2 rfl) (by decide) ?_
  refine aw_istore_n (aw_d q_Mo_distinct 3 rfl) rfl (aw_le rfl) rfl ?_
  exact AW.to (lp_Mo_d1 hB nr 0 0 (S.2 43) _ _ _ _ (by omega) (by omega) rfl) rfl rfl rfl rfl
