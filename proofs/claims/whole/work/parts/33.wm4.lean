theorem rjB_len {ce : Nat → Option Nat} {f : Nat → Nat → List Int32} {c : Nat} : ∀ {m v : Nat} {b : Bool}, (∀ i t, v ≤ i → i < v + m → ce i = some t → (f i t).length ≤ c) → (rjB ce f m v b).length ≤ m * (c + 1) := by
  intro m
  induction m with
  | zero => intro v b _; exact Nat.zero_le _
  | succ m ih =>
    intro v b h
    have h2 := fun b => ih (v := v + 1) (b := b) (fun i t h1 h2 h3 => h i t (by omega) (by omega) h3)
    rw [Nat.succ_mul]
    simp only [rjB]
    cases hc : ce v with
    | none => have := h2 b; simp only; omega
    | some t =>
      have h3 := h2 false
      have h4 := h v t (by omega) (by omega) hc
      have h5 : (if b then ([] : List Int32) else [nI 44]).length ≤ 1 := by cases b <;> simp
      simp only [List.length_append]
      omega
theorem w_se_len {c : Int32} {k : Nat} : (w_se c k).length ≤ 1 := by
  simp only [w_se]
  split <;> simp
theorem w_j_len {P : xp_T} (hW : xp_wd P) : (w_j P).length ≤ 100000 := by
  have hv := hW.1
  have a := catB_len (f := fun v => w_se (nI 44) v ++ w_jn P v) (c := 20) (m := xp_v P) (k := 0) (fun i _ hi => by
    have h1 := w_n_len hW (v := i) (by omega)
    have h2 := w_se_len (c := nI 44) (k := i)
    simp only [w_jn, List.length_append, List.length_cons, List.length_nil]
    omega)
  have b := catB_len (f := fun r => w_se (nI 44) r ++ w_jr P r) (c := 3000) (m := xp_r P) (k := 0) (fun i _ hi => by
    have h2 := w_se_len (c := nI 44) (k := i)
    have h3 := rjB_len (ce := xp_c P i) (f := fun v t => w_jn P v ++ w_jt P t) (c := 400) (m := xp_v P) (v := 0) (b := true) (fun v t _ hv hc => by
      have h4 := w_n_len hW (v := v) (by omega)
      have h5 := w_jt_len hW (hW.2.2.1 i v t (by omega) (by omega) hc)
      simp only [w_jn, List.length_append, List.length_cons, List.length_nil]
      omega)
    simp only [w_jr, List.length_append, List.length_cons, List.length_nil]
    omega)
  have c1 := tx_l 5 (by decide)
  have c2 := tx_l 6 (by decide)
  have c3 := tx_l 24 (by decide)
  simp only [w_j, List.length_append]
  omega
theorem w_x_len {P : xp_T} (hW : xp_wd P) : (w_x P).length ≤ 100000 := by
  have hv := hW.1
  have c4 := tx_l 26 (by decide)
  have c5 := tx_l 27 (by decide)
  have a := catB_len (f := fun v => tx 26 ++ (w_n P v ++ tx 27)) (c := 100) (m := xp_v P) (k := 0) (fun i _ hi => by
    have h1 := w_n_len hW (v := i) (by omega)
    simp only [List.length_append]
    omega)
  have b := catB_len (f := w_xr P) (c := 3000) (m := xp_r P) (k := 0) (fun i _ hi => by
    have h3 := catB_len (f := w_xc P i) (c := 400) (m := xp_v P) (k := 0) (fun v _ hv => by
      simp only [w_xc]
      cases hc : xp_c P i v with
      | none => exact Nat.zero_le _
      | some t =>
        have h4 := w_n_len hW (v := v) (by omega)
        have h5 := w_xt_len hW (hW.2.2.1 i v t (by omega) (by omega) hc)
        have d1 := tx_l 30 (by decide)
        have d2 := tx_l 31 (by decide)
        have d3 := tx_l 44 (by decide)
        simp only [List.length_append]
        omega)
    have d1 := tx_l 29 (by decide)
    have d2 := tx_l 45 (by decide)
    simp only [w_xr, List.length_append]
    omega)
  have c1 := tx_l 25 (by decide)
  have c2 := tx_l 28 (by decide)
  have c3 := tx_l 46 (by decide)
  simp only [w_x, List.length_append]
  omega
theorem w_l_len {P : xp_T} {c : Bool} (hW : xp_wd P) : (w_l c P).length ≤ 100000 := by
  have hv := hW.1
  have c4 : (w_lm c).length ≤ 30 := by cases c <;> decide
  have c5 : (w_le c).length ≤ 30 := by cases c <;> decide
  have a := catB_len (f := fun v => w_se (w_ls c) v ++ (w_lm c ++ w_n P v)) (c := 100) (m := xp_v P) (k := 0) (fun i _ hi => by
    have h1 := w_n_len hW (v := i) (by omega)
    have h2 := w_se_len (c := w_ls c) (k := i)
    simp only [List.length_append]
    omega)
  have b := catB_len (f := w_lr c P) (c := 3000) (m := xp_r P) (k := 0) (fun i _ hi => by
    have h3 := catB_len (f := fun v => w_se (w_ls c) v ++ w_lc c P i v) (c := 400) (m := xp_v P) (k := 0) (fun v _ hv => by
      have h2 := w_se_len (c := w_ls c) (k := v)
      have h6 : (w_lc c P i v).length ≤ 300 := by
        simp only [w_lc]
        cases hc : xp_c P i v with
        | none => exact Nat.zero_le _
        | some t =>
          have h5 := w_ct_len hW (hW.2.2.1 i v t (by omega) (by omega) hc)
          have h7 := w_tt_len hW (hW.2.2.1 i v t (by omega) (by omega) hc)
          cases c
          · exact h7
          · exact h5
      simp only [List.length_append]
      omega)
    simp only [w_lr, List.length_append]
    omega)
  simp only [w_l, List.length_append]
  omega
theorem MS_get {S : aw_S} {O : List Int32} {k : Nat} (h : k < O.length) (hO : O.length ≤ 3000) : (MS S O).2 36 k = O.getD k 0 := by
  show WA O (S.2 36) k = _
  rw [WA, if_pos (by omega)]
set_option maxRecDepth 20000 in
theorem lp_hand {g : aw_G} {S : aw_S} {O : List Int32} (hO : O.length ≤ 3000) : ∀ (m k : Nat) (A : Nat → Int32), m + k = O.length → (∀ i, i < k → A i = O.getD i 0) → AW g M_Mo_hand (aw_rm 0 0 0 0) (aw_F g 0 0 (fun r h => r = some (.int (nI (O).length)) ∧ ∃ A : Nat → Int32, h = HP (si (sa (MS S (O)) 35 A) 3302 (nI (O).length)) ∧ ∀ i, i < (O).length → A i = (O).getD i 0)) 23 [some (.ref 33), some (.int (nI k))] [] (HP (si (sa (MS S (O)) 35 A) 3302 (nI O.length))) 0 0 := by
  intro m
  induction m with
  | zero =>
    intro k A hk e
    refine aw_iload_n (aw_d q_Mo_hand 12 rfl) rfl rfl ?_
    refine aw_aload_n (aw_d q_Mo_hand 13 rfl) rfl rfl rfl ?_
    refine aw_getf (v := .int (nI (O.length))) (aw_d q_Mo_hand 14 rfl) fL_Mo_90_Mo rfl (gk rfl) ?_
    refine aw_icmpN_ge (tgt := 49) (aw_d q_Mo_hand 15 rfl) (by decide) (by omega) (by omega) (fun c28 => ?_) (fun c28 => by exfalso; omega)
    refine aw_aload_n (aw_d q_Mo_hand 26 rfl) rfl rfl rfl ?_
    refine aw_getf (v := .int (nI (O.length))) (aw_d q_Mo_hand 27 rfl) fL_Mo_90_Mo rfl (gk rfl) ?_
    exact aw_iret (aw_d q_Mo_hand 28 rfl) rfl (⟨rfl, A, rfl, fun i hi => e i (by omega)⟩)
  | succ m ih =>
    intro k A hk e
    refine aw_iload_n (aw_d q_Mo_hand 12 rfl) rfl rfl ?_
    refine aw_aload_n (aw_d q_Mo_hand 13 rfl) rfl rfl rfl ?_
    refine aw_getf (v := .int (nI (O.length))) (aw_d q_Mo_hand 14 rfl) fL_Mo_90_Mo rfl (gk rfl) ?_
    refine aw_icmpN_ge (tgt := 49) (aw_d q_Mo_hand 15 rfl) (by decide) (by omega) (by omega) (fun c28 => by exfalso; omega) (fun c28 => ?_)
    refine aw_aload_n (aw_d q_Mo_hand 16 rfl) rfl rfl rfl ?_
    refine aw_getf (aw_d q_Mo_hand 17 rfl) fL_Mo_13_Mo rfl rfl ?_
    refine aw_iload_n (aw_d q_Mo_hand 18 rfl) rfl rfl ?_
    refine aw_aload_n (aw_d q_Mo_hand 19 rfl) rfl rfl rfl ?_
    refine aw_getf (aw_d q_Mo_hand 20 rfl) fL_Mo_16_Mo rfl rfl ?_
    refine aw_iload_n (aw_d q_Mo_hand 21 rfl) rfl rfl ?_
    refine aw_ialdN (aw_d q_Mo_hand 22 rfl) rfl (by omega) rfl ?_
    refine wn_35 (aw_d q_Mo_hand 23 rfl) (by omega) ?_
    refine aw_iinc (aw_d q_Mo_hand 24 rfl) rfl (ii1 _) (aw_le rfl) rfl ?_
    refine aw_goto (tgt := 23) (aw_d q_Mo_hand 25 rfl) (by decide) ?_
    refine AW.to (ih (k + 1) (upd A k (O.getD k 0)) (by omega) (fun i hi => ?_)) rfl rfl rfl (by rw [← MS_get (S := S) (O := O) (k := k) (by omega) hO]; rfl)
    by_cases hik : i = k
    · rw [hik]; exact pk_us
    · rw [pk_un hik]; exact e i (by omega)
set_option maxRecDepth 20000 in
theorem sp_hand {g : aw_G} {S : aw_S} {O : List Int32} (hO : O.length ≤ 3000) : Sp g M_Mo_hand 0 0 0 0 [.ref 33] (HP (MS S O)) (fun r h => r = some (.int (nI (O).length)) ∧ ∃ A : Nat → Int32, h = HP (si (sa (MS S (O)) 35 A) 3302 (nI (O).length)) ∧ ∀ i, i < (O).length → A i = (O).getD i 0) := by
  refine Sp.of rfl (aw_le rfl) ?_
  refine aw_aload_n (aw_d q_Mo_hand 0 rfl) rfl rfl rfl ?_
  refine aw_getf (v := .int (nI (O.length))) (aw_d q_Mo_hand 1 rfl) fL_Mo_132_Mo rfl (gk rfl) ?_
  refine aw_sipush (v := nI 3000) (aw_d q_Mo_hand 2 rfl) (by decide) ?_
  refine aw_icmpN_le (tgt := 13) (aw_d q_Mo_hand 3 rfl) (by decide) (by omega) (by omega) (fun c7 => ?_) (fun c7 => by exfalso; omega)
  refine aw_aload_n (aw_d q_Mo_hand 6 rfl) rfl rfl rfl ?_
  refine aw_aload_n (aw_d q_Mo_hand 7 rfl) rfl rfl rfl ?_
  refine aw_getf (v := .int (nI (O.length))) (aw_d q_Mo_hand 8 rfl) fL_Mo_132_Mo rfl (gk rfl) ?_
  refine wi_33_2 (aw_d q_Mo_hand 9 rfl) pL_Mo_90_Mo ?_
  refine aw_iconst (v := nI 0) (aw_d q_Mo_hand 10 rfl) (by decide) ?_
  refine aw_istore_n (aw_d q_Mo_hand 11 rfl) rfl (aw_le rfl) rfl ?_
  exact AW.to (lp_hand hO _ 0 ((MS S O).2 35) rfl (fun i hi => by omega)) rfl rfl rfl rfl
set_option maxRecDepth 20000 in
theorem sp_handF {g : aw_G} {S : aw_S} {O : List Int32} (hO : 3000 < O.length) (hb : O.length < 2147483648) : Sp g M_Mo_hand 0 0 0 0 [.ref 33] (HP (MS S O)) (fun r h => r = some (.int (-3)) ∧ h = HP (MS S O)) := by
  refine Sp.of rfl (aw_le rfl) ?_
  refine aw_aload_n (aw_d q_Mo_hand 0 rfl) rfl rfl rfl ?_
  refine aw_getf (v := .int (nI (O.length))) (aw_d q_Mo_hand 1 rfl) fL_Mo_132_Mo rfl (gk rfl) ?_
  refine aw_sipush (v := nI 3000) (aw_d q_Mo_hand 2 rfl) (by decide) ?_
  refine aw_icmpN_le (tgt := 13) (aw_d q_Mo_hand 3 rfl) (by decide) (by omega) (by omega) (fun c7 => by exfalso; omega) (fun c7 => ?_)
  refine aw_bipush (v := (-3)) (aw_d q_Mo_hand 4 rfl) (by decide) ?_
  exact aw_iret (aw_d q_Mo_hand 5 rfl) rfl (⟨rfl, rfl⟩)
set_option maxRecDepth 20000 in
theorem sp_Mo_write_0 {g : aw_G} {S : aw_S} {P : xp_T} (hP : xp_M S P) (hW : xp_wd P) (hL : (w_j P).length ≤ 3000) : Sp g M_Mo_write 5 114 0 0 [.ref 33, .int (nI 0)] (HP S) (fun r h => r = some (.int (nI (w_j P).length)) ∧ ∃ A : Nat → Int32, h = HP (si (sa (MS S (w_j P)) 35 A) 3302 (nI (w_j P).length)) ∧ ∀ i, i < (w_j P).length → A i = (w_j P).getD i 0) := by
  refine Sp.of rfl (aw_le rfl) ?_
  have hji := nI_toInt (n := 0) (by omega)
  refine aw_iload_n (aw_d q_Mo_write 0 rfl) rfl rfl ?_
  refine aw_iconst (v := nI 0) (aw_d q_Mo_write 1 rfl) (by decide) ?_
  refine aw_iconst (v := nI 3) (aw_d q_Mo_write 2 rfl) (by decide) ?_
  refine cSr (aw_d q_Mo_write 3 rfl) (sp_Mo_in (A := 0) (B := 3) (by decide) (by decide)) sL_Mo_81 rfl rfl rfl rfl ⟨aw_le rfl, aw_le rfl⟩ ?_
  refine aw_ifB_ne (tgt := 11) (aw_d q_Mo_write 4 rfl) (by decide) (fun c6 => ?_) (fun c6 => by omega)
  refine aw_aload_n (aw_d q_Mo_write 7 rfl) rfl rfl rfl ?_
  refine aw_iconst (v := nI 0) (aw_d q_Mo_write 8 rfl) (by decide) ?_
  refine wi_33_4 (aw_d q_Mo_write 9 rfl) pL_Mo_132_Mo ?_
  rw [MS_nil]
  refine aw_iload_n (aw_d q_Mo_write 10 rfl) rfl rfl ?_
  refine aw_ifN_ne (tgt := 27) (aw_d q_Mo_write 11 rfl) (by decide) (by omega) (fun c17 => by exfalso; omega) (fun c17 => ?_)
  refine aw_aload_n (aw_d q_Mo_write 12 rfl) rfl rfl rfl ?_
  refine cVv (aw_d q_Mo_write 13 rfl) (sp_writeBraces (O := []) hP hW (by have := w_j_len hW; simp only [List.nil_append]; omega)) vL_Mo_292_Mo rfl rfl rfl rfl rfl rfl ⟨aw_le rfl, aw_le rfl⟩ ?_
  refine aw_goto (tgt := 53) (aw_d q_Mo_write 14 rfl) (by decide) ?_
  refine aw_aload_n (aw_d q_Mo_write 29 rfl) rfl rfl rfl ?_
  refine cV (aw_d q_Mo_write 30 rfl) (sp_hand (O := w_j P) hL) vL_Mo_302_Mo rfl rfl rfl rfl rfl rfl ⟨aw_le rfl, aw_le rfl⟩ (fun r54 h54 hp54 => ?_)
  obtain ⟨rfl, A, rfl, hA⟩ := hp54
  exact aw_iret (aw_d q_Mo_write 31 rfl) rfl (⟨rfl, A, rfl, hA⟩)
set_option maxRecDepth 20000 in
theorem sp_Mo_writeF_0 {g : aw_G} {S : aw_S} {P : xp_T} (hP : xp_M S P) (hW : xp_wd P) (hL : 3000 < (w_j P).length) : Sp g M_Mo_write 5 114 0 0 [.ref 33, .int (nI 0)] (HP S) (fun r h => r = some (.int (-3)) ∧ h = HP (MS S (w_j P))) := by
  refine Sp.of rfl (aw_le rfl) ?_
  have hji := nI_toInt (n := 0) (by omega)
  refine aw_iload_n (aw_d q_Mo_write 0 rfl) rfl rfl ?_
  refine aw_iconst (v := nI 0) (aw_d q_Mo_write 1 rfl) (by decide) ?_
  refine aw_iconst (v := nI 3) (aw_d q_Mo_write 2 rfl) (by decide) ?_
  refine cSr (aw_d q_Mo_write 3 rfl) (sp_Mo_in (A := 0) (B := 3) (by decide) (by decide)) sL_Mo_81 rfl rfl rfl rfl ⟨aw_le rfl, aw_le rfl⟩ ?_
  refine aw_ifB_ne (tgt := 11) (aw_d q_Mo_write 4 rfl) (by decide) (fun c6 => ?_) (fun c6 => by omega)
  refine aw_aload_n (aw_d q_Mo_write 7 rfl) rfl rfl rfl ?_
  refine aw_iconst (v := nI 0) (aw_d q_Mo_write 8 rfl) (by decide) ?_
  refine wi_33_4 (aw_d q_Mo_write 9 rfl) pL_Mo_132_Mo ?_
  rw [MS_nil]
  refine aw_iload_n (aw_d q_Mo_write 10 rfl) rfl rfl ?_
  refine aw_ifN_ne (tgt := 27) (aw_d q_Mo_write 11 rfl) (by decide) (by omega) (fun c17 => by exfalso; omega) (fun c17 => ?_)
  refine aw_aload_n (aw_d q_Mo_write 12 rfl) rfl rfl rfl ?_
  refine cVv (aw_d q_Mo_write 13 rfl) (sp_writeBraces (O := []) hP hW (by have := w_j_len hW; simp only [List.nil_append]; omega)) vL_Mo_292_Mo rfl rfl rfl rfl rfl rfl ⟨aw_le rfl, aw_le rfl⟩ ?_
  refine aw_goto (tgt := 53) (aw_d q_Mo_write 14 rfl) (by decide) ?_
  refine aw_aload_n (aw_d q_Mo_write 29 rfl) rfl rfl rfl ?_
  refine cVr (aw_d q_Mo_write 30 rfl) (sp_handF (O := w_j P) hL (by have := w_j_len hW; omega)) vL_Mo_302_Mo rfl rfl rfl rfl rfl rfl ⟨aw_le rfl, aw_le rfl⟩ ?_
  exact aw_iret (aw_d q_Mo_write 31 rfl) rfl (⟨rfl, rfl⟩)
set_option maxRecDepth 20000 in
theorem sp_Mo_write_1 {g : aw_G} {S : aw_S} {P : xp_T} (hP : xp_M S P) (hW : xp_wd P) (hL : (w_x P).length ≤ 3000) : Sp g M_Mo_write 5 114 0 0 [.ref 33, .int (nI 1)] (HP S) (fun r h => r = some (.int (nI (w_x P).length)) ∧ ∃ A : Nat → Int32, h = HP (si (sa (MS S (w_x P)) 35 A) 3302 (nI (w_x P).length)) ∧ ∀ i, i < (w_x P).length → A i = (w_x P).getD i 0) := by
  refine Sp.of rfl (aw_le rfl) ?_
  have hji := nI_toInt (n := 1) (by omega)
  refine aw_iload_n (aw_d q_Mo_write 0 rfl) rfl rfl ?_
  refine aw_iconst (v := nI 0) (aw_d q_Mo_write 1 rfl) (by decide) ?_
  refine aw_iconst (v := nI 3) (aw_d q_Mo_write 2 rfl) (by decide) ?_
  refine cSr (aw_d q_Mo_write 3 rfl) (sp_Mo_in (A := 0) (B := 3) (by decide) (by decide)) sL_Mo_81 rfl rfl rfl rfl ⟨aw_le rfl, aw_le rfl⟩ ?_
  refine aw_ifB_ne (tgt := 11) (aw_d q_Mo_write 4 rfl) (by decide) (fun c6 => ?_) (fun c6 => by omega)
  refine aw_aload_n (aw_d q_Mo_write 7 rfl) rfl rfl rfl ?_
  refine aw_iconst (v := nI 0) (aw_d q_Mo_write 8 rfl) (by decide) ?_
  refine wi_33_4 (aw_d q_Mo_write 9 rfl) pL_Mo_132_Mo ?_
  rw [MS_nil]
  refine aw_iload_n (aw_d q_Mo_write 10 rfl) rfl rfl ?_
  refine aw_ifN_ne (tgt := 27) (aw_d q_Mo_write 11 rfl) (by decide) (by omega) (fun c17 => ?_) (fun c17 => by exfalso; omega)
  refine aw_iload_n (aw_d q_Mo_write 15 rfl) rfl rfl ?_
  refine aw_iconst (v := nI 1) (aw_d q_Mo_write 16 rfl) (by decide) ?_
  refine aw_icmpN_ne (tgt := 39) (aw_d q_Mo_write 17 rfl) (by decide) (by omega) (by omega) (fun c29 => by exfalso; omega) (fun c29 => ?_)
  refine aw_aload_n (aw_d q_Mo_write 18 rfl) rfl rfl rfl ?_
  refine cVv (aw_d q_Mo_write 19 rfl) (sp_writeTags (O := []) hP hW (by have := w_x_len hW; simp only [List.nil_append]; omega)) vL_Mo_295_Mo rfl rfl rfl rfl rfl rfl ⟨aw_le rfl, aw_le rfl⟩ ?_
  refine aw_goto (tgt := 53) (aw_d q_Mo_write 20 rfl) (by decide) ?_
  refine aw_aload_n (aw_d q_Mo_write 29 rfl) rfl rfl rfl ?_
  refine cV (aw_d q_Mo_write 30 rfl) (sp_hand (O := w_x P) hL) vL_Mo_302_Mo rfl rfl rfl rfl rfl rfl ⟨aw_le rfl, aw_le rfl⟩ (fun r54 h54 hp54 => ?_)
  obtain ⟨rfl, A, rfl, hA⟩ := hp54
  exact aw_iret (aw_d q_Mo_write 31 rfl) rfl (⟨rfl, A, rfl, hA⟩)
set_option maxRecDepth 20000 in
theorem sp_Mo_writeF_1 {g : aw_G} {S : aw_S} {P : xp_T} (hP : xp_M S P) (hW : xp_wd P) (hL : 3000 < (w_x P).length) : Sp g M_Mo_write 5 114 0 0 [.ref 33, .int (nI 1)] (HP S) (fun r h => r = some (.int (-3)) ∧ h = HP (MS S (w_x P))) := by
  refine Sp.of rfl (aw_le rfl) ?_
  have hji := nI_toInt (n := 1) (by omega)
  refine aw_iload_n (aw_d q_Mo_write 0 rfl) rfl rfl ?_
  refine aw_iconst (v := nI 0) (aw_d q_Mo_write 1 rfl) (by decide) ?_
  refine aw_iconst (v := nI 3) (aw_d q_Mo_write 2 rfl) (by decide) ?_
  refine cSr (aw_d q_Mo_write 3 rfl) (sp_Mo_in (A := 0) (B := 3) (by decide) (by decide)) sL_Mo_81 rfl rfl rfl rfl ⟨aw_le rfl, aw_le rfl⟩ ?_
  refine aw_ifB_ne (tgt := 11) (aw_d q_Mo_write 4 rfl) (by decide) (fun c6 => ?_) (fun c6 => by omega)
  refine aw_aload_n (aw_d q_Mo_write 7 rfl) rfl rfl rfl ?_
  refine aw_iconst (v := nI 0) (aw_d q_Mo_write 8 rfl) (by decide) ?_
  refine wi_33_4 (aw_d q_Mo_write 9 rfl) pL_Mo_132_Mo ?_
  rw [MS_nil]
  refine aw_iload_n (aw_d q_Mo_write 10 rfl) rfl rfl ?_
  refine aw_ifN_ne (tgt := 27) (aw_d q_Mo_write 11 rfl) (by decide) (by omega) (fun c17 => ?_) (fun c17 => by exfalso; omega)
  refine aw_iload_n (aw_d q_Mo_write 15 rfl) rfl rfl ?_
  refine aw_iconst (v := nI 1) (aw_d q_Mo_write 16 rfl) (by decide) ?_
  refine aw_icmpN_ne (tgt := 39) (aw_d q_Mo_write 17 rfl) (by decide) (by omega) (by omega) (fun c29 => by exfalso; omega) (fun c29 => ?_)
  refine aw_aload_n (aw_d q_Mo_write 18 rfl) rfl rfl rfl ?_
  refine cVv (aw_d q_Mo_write 19 rfl) (sp_writeTags (O := []) hP hW (by have := w_x_len hW; simp only [List.nil_append]; omega)) vL_Mo_295_Mo rfl rfl rfl rfl rfl rfl ⟨aw_le rfl, aw_le rfl⟩ ?_
  refine aw_goto (tgt := 53) (aw_d q_Mo_write 20 rfl) (by decide) ?_
  refine aw_aload_n (aw_d q_Mo_write 29 rfl) rfl rfl rfl ?_
  refine cVr (aw_d q_Mo_write 30 rfl) (sp_handF (O := w_x P) hL (by have := w_x_len hW; omega)) vL_Mo_302_Mo rfl rfl rfl rfl rfl rfl ⟨aw_le rfl, aw_le rfl⟩ ?_
  exact aw_iret (aw_d q_Mo_write 31 rfl) rfl (⟨rfl, rfl⟩)
set_option maxRecDepth 20000 in
theorem sp_Mo_write_2 {g : aw_G} {S : aw_S} {P : xp_T} (hP : xp_M S P) (hW : xp_wd P) (hL : (w_l true P).length ≤ 3000) : Sp g M_Mo_write 5 114 0 0 [.ref 33, .int (nI 2)] (HP S) (fun r h => r = some (.int (nI (w_l true P).length)) ∧ ∃ A : Nat → Int32, h = HP (si (sa (MS S (w_l true P)) 35 A) 3302 (nI (w_l true P).length)) ∧ ∀ i, i < (w_l true P).length → A i = (w_l true P).getD i 0) := by
  refine Sp.of rfl (aw_le rfl) ?_
  have hji := nI_toInt (n := 2) (by omega)
  refine aw_iload_n (aw_d q_Mo_write 0 rfl) rfl rfl ?_
  refine aw_iconst (v := nI 0) (aw_d q_Mo_write 1 rfl) (by decide) ?_
  refine aw_iconst (v := nI 3) (aw_d q_Mo_write 2 rfl) (by decide) ?_
  refine cSr (aw_d q_Mo_write 3 rfl) (sp_Mo_in (A := 0) (B := 3) (by decide) (by decide)) sL_Mo_81 rfl rfl rfl rfl ⟨aw_le rfl, aw_le rfl⟩ ?_
  refine aw_ifB_ne (tgt := 11) (aw_d q_Mo_write 4 rfl) (by decide) (fun c6 => ?_) (fun c6 => by omega)
  refine aw_aload_n (aw_d q_Mo_write 7 rfl) rfl rfl rfl ?_
  refine aw_iconst (v := nI 0) (aw_d q_Mo_write 8 rfl) (by decide) ?_
  refine wi_33_4 (aw_d q_Mo_write 9 rfl) pL_Mo_132_Mo ?_
  rw [MS_nil]
  refine aw_iload_n (aw_d q_Mo_write 10 rfl) rfl rfl ?_
  refine aw_ifN_ne (tgt := 27) (aw_d q_Mo_write 11 rfl) (by decide) (by omega) (fun c17 => ?_) (fun c17 => by exfalso; omega)
  refine aw_iload_n (aw_d q_Mo_write 15 rfl) rfl rfl ?_
  refine aw_iconst (v := nI 1) (aw_d q_Mo_write 16 rfl) (by decide) ?_
  refine aw_icmpN_ne (tgt := 39) (aw_d q_Mo_write 17 rfl) (by decide) (by omega) (by omega) (fun c29 => ?_) (fun c29 => by exfalso; omega)
  refine aw_aload_n (aw_d q_Mo_write 21 rfl) rfl rfl rfl ?_
  refine aw_iload_n (aw_d q_Mo_write 22 rfl) rfl rfl ?_
  refine aw_iconst (v := nI 2) (aw_d q_Mo_write 23 rfl) (by decide) ?_
  refine aw_icmpN_ne (tgt := 49) (aw_d q_Mo_write 24 rfl) (by decide) (by omega) (by omega) (fun c42 => by exfalso; omega) (fun c42 => ?_)
  refine aw_iconst (v := nI 1) (aw_d q_Mo_write 25 rfl) (by decide) ?_
  refine aw_goto (tgt := 50) (aw_d q_Mo_write 26 rfl) (by decide) ?_
  refine cVv (aw_d q_Mo_write 28 rfl) (sp_writeLines_1 (O := []) hP hW (by have := w_l_len (c := true) hW; simp only [List.nil_append]; omega)) vL_Mo_298_Mo rfl rfl rfl rfl rfl rfl ⟨aw_le rfl, aw_le rfl⟩ ?_
  refine aw_aload_n (aw_d q_Mo_write 29 rfl) rfl rfl rfl ?_
  refine cV (aw_d q_Mo_write 30 rfl) (sp_hand (O := w_l true P) hL) vL_Mo_302_Mo rfl rfl rfl rfl rfl rfl ⟨aw_le rfl, aw_le rfl⟩ (fun r54 h54 hp54 => ?_)
  obtain ⟨rfl, A, rfl, hA⟩ := hp54
  exact aw_iret (aw_d q_Mo_write 31 rfl) rfl (⟨rfl, A, rfl, hA⟩)
set_option maxRecDepth 20000 in
theorem sp_Mo_writeF_2 {g : aw_G} {S : aw_S} {P : xp_T} (hP : xp_M S P) (hW : xp_wd P) (hL : 3000 < (w_l true P).length) : Sp g M_Mo_write 5 114 0 0 [.ref 33, .int (nI 2)] (HP S) (fun r h => r = some (.int (-3)) ∧ h = HP (MS S (w_l true P))) := by
  refine Sp.of rfl (aw_le rfl) ?_
  have hji := nI_toInt (n := 2) (by omega)
  refine aw_iload_n (aw_d q_Mo_write 0 rfl) rfl rfl ?_
  refine aw_iconst (v := nI 0) (aw_d q_Mo_write 1 rfl) (by decide) ?_
  refine aw_iconst (v := nI 3) (aw_d q_Mo_write 2 rfl) (by decide) ?_
  refine cSr (aw_d q_Mo_write 3 rfl) (sp_Mo_in (A := 0) (B := 3) (by decide) (by decide)) sL_Mo_81 rfl rfl rfl rfl ⟨aw_le rfl, aw_le rfl⟩ ?_
  refine aw_ifB_ne (tgt := 11) (aw_d q_Mo_write 4 rfl) (by decide) (fun c6 => ?_) (fun c6 => by omega)
  refine aw_aload_n (aw_d q_Mo_write 7 rfl) rfl rfl rfl ?_
  refine aw_iconst (v := nI 0) (aw_d q_Mo_write 8 rfl) (by decide) ?_
  refine wi_33_4 (aw_d q_Mo_write 9 rfl) pL_Mo_132_Mo ?_
  rw [MS_nil]
  refine aw_iload_n (aw_d q_Mo_write 10 rfl) rfl rfl ?_
  refine aw_ifN_ne (tgt := 27) (aw_d q_Mo_write 11 rfl) (by decide) (by omega) (fun c17 => ?_) (fun c17 => by exfalso; omega)
  refine aw_iload_n (aw_d q_Mo_write 15 rfl) rfl rfl ?_
  refine aw_iconst (v := nI 1) (aw_d q_Mo_write 16 rfl) (by decide) ?_
  refine aw_icmpN_ne (tgt := 39) (aw_d q_Mo_write 17 rfl) (by decide) (by omega) (by omega) (fun c29 => ?_) (fun c29 => by exfalso; omega)
  refine aw_aload_n (aw_d q_Mo_write 21 rfl) rfl rfl rfl ?_
  refine aw_iload_n (aw_d q_Mo_write 22 rfl) rfl rfl ?_
  refine aw_iconst (v := nI 2) (aw_d q_Mo_write 23 rfl) (by decide) ?_
  refine aw_icmpN_ne (tgt := 49) (aw_d q_Mo_write 24 rfl) (by decide) (by omega) (by omega) (fun c42 => by exfalso; omega) (fun c42 => ?_)
  refine aw_iconst (v := nI 1) (aw_d q_Mo_write 25 rfl) (by decide) ?_
  refine aw_goto (tgt := 50) (aw_d q_Mo_write 26 rfl) (by decide) ?_
  refine cVv (aw_d q_Mo_write 28 rfl) (sp_writeLines_1 (O := []) hP hW (by have := w_l_len (c := true) hW; simp only [List.nil_append]; omega)) vL_Mo_298_Mo rfl rfl rfl rfl rfl rfl ⟨aw_le rfl, aw_le rfl⟩ ?_
  refine aw_aload_n (aw_d q_Mo_write 29 rfl) rfl rfl rfl ?_
  refine cVr (aw_d q_Mo_write 30 rfl) (sp_handF (O := w_l true P) hL (by have := w_l_len (c := true) hW; omega)) vL_Mo_302_Mo rfl rfl rfl rfl rfl rfl ⟨aw_le rfl, aw_le rfl⟩ ?_
  exact aw_iret (aw_d q_Mo_write 31 rfl) rfl (⟨rfl, rfl⟩)
set_option maxRecDepth 20000 in
theorem sp_Mo_write_3 {g : aw_G} {S : aw_S} {P : xp_T} (hP : xp_M S P) (hW : xp_wd P) (hL : (w_l false P).length ≤ 3000) : Sp g M_Mo_write 5 114 0 0 [.ref 33, .int (nI 3)] (HP S) (fun r h => r = some (.int (nI (w_l false P).length)) ∧ ∃ A : Nat → Int32, h = HP (si (sa (MS S (w_l false P)) 35 A) 3302 (nI (w_l false P).length)) ∧ ∀ i, i < (w_l false P).length → A i = (w_l false P).getD i 0) := by
  refine Sp.of rfl (aw_le rfl) ?_
  have hji := nI_toInt (n := 3) (by omega)
  refine aw_iload_n (aw_d q_Mo_write 0 rfl) rfl rfl ?_
  refine aw_iconst (v := nI 0) (aw_d q_Mo_write 1 rfl) (by decide) ?_
  refine aw_iconst (v := nI 3) (aw_d q_Mo_write 2 rfl) (by decide) ?_
  refine cSr (aw_d q_Mo_write 3 rfl) (sp_Mo_in (A := 0) (B := 3) (by decide) (by decide)) sL_Mo_81 rfl rfl rfl rfl ⟨aw_le rfl, aw_le rfl⟩ ?_
  refine aw_ifB_ne (tgt := 11) (aw_d q_Mo_write 4 rfl) (by decide) (fun c6 => ?_) (fun c6 => by omega)
  refine aw_aload_n (aw_d q_Mo_write 7 rfl) rfl rfl rfl ?_
  refine aw_iconst (v := nI 0) (aw_d q_Mo_write 8 rfl) (by decide) ?_
  refine wi_33_4 (aw_d q_Mo_write 9 rfl) pL_Mo_132_Mo ?_
  rw [MS_nil]
  refine aw_iload_n (aw_d q_Mo_write 10 rfl) rfl rfl ?_
  refine aw_ifN_ne (tgt := 27) (aw_d q_Mo_write 11 rfl) (by decide) (by omega) (fun c17 => ?_) (fun c17 => by exfalso; omega)
  refine aw_iload_n (aw_d q_Mo_write 15 rfl) rfl rfl ?_
  refine aw_iconst (v := nI 1) (aw_d q_Mo_write 16 rfl) (by decide) ?_
  refine aw_icmpN_ne (tgt := 39) (aw_d q_Mo_write 17 rfl) (by decide) (by omega) (by omega) (fun c29 => ?_) (fun c29 => by exfalso; omega)
  refine aw_aload_n (aw_d q_Mo_write 21 rfl) rfl rfl rfl ?_
  refine aw_iload_n (aw_d q_Mo_write 22 rfl) rfl rfl ?_
  refine aw_iconst (v := nI 2) (aw_d q_Mo_write 23 rfl) (by decide) ?_
  refine aw_icmpN_ne (tgt := 49) (aw_d q_Mo_write 24 rfl) (by decide) (by omega) (by omega) (fun c42 => ?_) (fun c42 => by exfalso; omega)
  refine aw_iconst (v := nI 0) (aw_d q_Mo_write 27 rfl) (by decide) ?_
  refine cVv (aw_d q_Mo_write 28 rfl) (sp_writeLines_0 (O := []) hP hW (by have := w_l_len (c := false) hW; simp only [List.nil_append]; omega)) vL_Mo_298_Mo rfl rfl rfl rfl rfl rfl ⟨aw_le rfl, aw_le rfl⟩ ?_
  refine aw_aload_n (aw_d q_Mo_write 29 rfl) rfl rfl rfl ?_
  refine cV (aw_d q_Mo_write 30 rfl) (sp_hand (O := w_l false P) hL) vL_Mo_302_Mo rfl rfl rfl rfl rfl rfl ⟨aw_le rfl, aw_le rfl⟩ (fun r54 h54 hp54 => ?_)
  obtain ⟨rfl, A, rfl, hA⟩ := hp54
  exact aw_iret (aw_d q_Mo_write 31 rfl) rfl (⟨rfl, A, rfl, hA⟩)
set_option maxRecDepth 20000 in
theorem sp_Mo_writeF_3 {g : aw_G} {S : aw_S} {P : xp_T} (hP : xp_M S P) (hW : xp_wd P) (hL : 3000 < (w_l false P).length) : Sp g M_Mo_write 5 114 0 0 [.ref 33, .int (nI 3)] (HP S) (fun r h => r = some (.int (-3)) ∧ h = HP (MS S (w_l false P))) := by
  refine Sp.of rfl (aw_le rfl) ?_
  have hji := nI_toInt (n := 3) (by omega)
  refine aw_iload_n (aw_d q_Mo_write 0 rfl) rfl rfl ?_
  refine aw_iconst (v := nI 0) (aw_d q_Mo_write 1 rfl) (by decide) ?_
  refine aw_iconst (v := nI 3) (aw_d q_Mo_write 2 rfl) (by decide) ?_
  refine cSr (aw_d q_Mo_write 3 rfl) (sp_Mo_in (A := 0) (B := 3) (by decide) (by decide)) sL_Mo_81 rfl rfl rfl rfl ⟨aw_le rfl, aw_le rfl⟩ ?_
  refine aw_ifB_ne (tgt := 11) (aw_d q_Mo_write 4 rfl) (by decide) (fun c6 => ?_) (fun c6 => by omega)
  refine aw_aload_n (aw_d q_Mo_write 7 rfl) rfl rfl rfl ?_
  refine aw_iconst (v := nI 0) (aw_d q_Mo_write 8 rfl) (by decide) ?_
  refine wi_33_4 (aw_d q_Mo_write 9 rfl) pL_Mo_132_Mo ?_
  rw [MS_nil]
  refine aw_iload_n (aw_d q_Mo_write 10 rfl) rfl rfl ?_
  refine aw_ifN_ne (tgt := 27) (aw_d q_Mo_write 11 rfl) (by decide) (by omega) (fun c17 => ?_) (fun c17 => by exfalso; omega)
  refine aw_iload_n (aw_d q_Mo_write 15 rfl) rfl rfl ?_
  refine aw_iconst (v := nI 1) (aw_d q_Mo_write 16 rfl) (by decide) ?_
  refine aw_icmpN_ne (tgt := 39) (aw_d q_Mo_write 17 rfl) (by decide) (by omega) (by omega) (fun c29 => ?_) (fun c29 => by exfalso; omega)
  refine aw_aload_n (aw_d q_Mo_write 21 rfl) rfl rfl rfl ?_
  refine aw_iload_n (aw_d q_Mo_write 22 rfl) rfl rfl ?_
  refine aw_iconst (v := nI 2) (aw_d q_Mo_write 23 rfl) (by decide) ?_
  refine aw_icmpN_ne (tgt := 49) (aw_d q_Mo_write 24 rfl) (by decide) (by omega) (by omega) (fun c42 => ?_) (fun c42 => by exfalso; omega)
  refine aw_iconst (v := nI 0) (aw_d q_Mo_write 27 rfl) (by decide) ?_
  refine cVv (aw_d q_Mo_write 28 rfl) (sp_writeLines_0 (O := []) hP hW (by have := w_l_len (c := false) hW; simp only [List.nil_append]; omega)) vL_Mo_298_Mo rfl rfl rfl rfl rfl rfl ⟨aw_le rfl, aw_le rfl⟩ ?_
  refine aw_aload_n (aw_d q_Mo_write 29 rfl) rfl rfl rfl ?_
  refine cVr (aw_d q_Mo_write 30 rfl) (sp_handF (O := w_l false P) hL (by have := w_l_len (c := false) hW; omega)) vL_Mo_302_Mo rfl rfl rfl rfl rfl rfl ⟨aw_le rfl, aw_le rfl⟩ ?_
  exact aw_iret (aw_d q_Mo_write 31 rfl) rfl (⟨rfl, rfl⟩)
set_option maxRecDepth 20000 in
theorem sp_Mo_writeB {g : aw_G} {S : aw_S} {x : Int32} (hx : x.toInt < 0 ∨ 3 < x.toInt) : Sp g M_Mo_write 5 114 0 0 [.ref 33, .int x] (HP S) (fun r h => r = some (.int (-1)) ∧ h = HP S) := by
  refine Sp.of rfl (aw_le rfl) ?_
  refine aw_iload_n (aw_d q_Mo_write 0 rfl) rfl rfl ?_
  refine aw_iconst (v := nI 0) (aw_d q_Mo_write 1 rfl) (by decide) ?_
  refine aw_iconst (v := nI 3) (aw_d q_Mo_write 2 rfl) (by decide) ?_
  refine cSr (aw_d q_Mo_write 3 rfl) (sp_Mo_in (A := 0) (B := 3) (by decide) (by decide)) sL_Mo_81 rfl rfl rfl rfl ⟨aw_le rfl, aw_le rfl⟩ ?_
  refine aw_ifB_ne (tgt := 11) (aw_d q_Mo_write 4 rfl) (by decide) (fun c6 => by omega) (fun c6 => ?_)
  refine aw_iconst (v := (-1)) (aw_d q_Mo_write 5 rfl) (by decide) ?_
  exact aw_iret (aw_d q_Mo_write 6 rfl) rfl (⟨rfl, rfl⟩)
set_option maxRecDepth 20000 in
theorem sp_Mo_say_00 {g : aw_G} {S : aw_S}  : Sp g M_Mo_say 2 45 0 0 [.ref 33, .int (nI 0), .int (nI 0)] (HP S) (fun r h => r = some (.int (nI (w_tr true false).length)) ∧ ∃ A : Nat → Int32, h = HP (si (sa (MS S (w_tr true false)) 35 A) 3302 (nI (w_tr true false).length)) ∧ ∀ i, i < (w_tr true false).length → A i = (w_tr true false).getD i 0) := by
  refine Sp.of rfl (aw_le rfl) ?_
  have hji := nI_toInt (n := 0) (by omega)
  refine aw_iload_n (aw_d q_Mo_say 0 rfl) rfl rfl ?_
  refine aw_iconst (v := nI 0) (aw_d q_Mo_say 1 rfl) (by decide) ?_
  refine aw_iconst (v := nI 1) (aw_d q_Mo_say 2 rfl) (by decide) ?_
  refine cSr (aw_d q_Mo_say 3 rfl) (sp_Mo_in (A := 0) (B := 1) (by decide) (by decide)) sL_Mo_81 rfl rfl rfl rfl ⟨aw_le rfl, aw_le rfl⟩ ?_
  refine aw_ifB_ne (tgt := 11) (aw_d q_Mo_say 4 rfl) (by decide) (fun c6 => ?_) (fun c6 => by omega)
  refine aw_aload_n (aw_d q_Mo_say 7 rfl) rfl rfl rfl ?_
  refine aw_iconst (v := nI 0) (aw_d q_Mo_say 8 rfl) (by decide) ?_
  refine wi_33_4 (aw_d q_Mo_say 9 rfl) pL_Mo_132_Mo ?_
  rw [MS_nil]
  refine aw_iload_n (aw_d q_Mo_say 10 rfl) rfl rfl ?_
  refine aw_ifN_ne (tgt := 49) (aw_d q_Mo_say 11 rfl) (by decide) (by omega) (fun c17 => by exfalso; omega) (fun c17 => ?_)
  refine aw_aload_n (aw_d q_Mo_say 12 rfl) rfl rfl rfl ?_
  refine aw_ldc2 (aw_d q_Mo_say 13 rfl) lL_Mo_159 ?_
  refine aw_bipush (v := nI 8) (aw_d q_Mo_say 14 rfl) (by decide) ?_
  refine cVv (aw_d q_Mo_say 15 rfl) (sp_emit (by (try simp only [List.length_append, List.length_cons, List.length_nil, eB_len]); omega)) vL_Mo_141_Mo rfl rfl rfl rfl rfl rfl ⟨aw_le rfl, aw_le rfl⟩ ?_
  refine aw_aload_n (aw_d q_Mo_say 16 rfl) rfl rfl rfl ?_
  refine aw_ldc2 (aw_d q_Mo_say 17 rfl) lL_Mo_306 ?_
  refine aw_bipush (v := nI 8) (aw_d q_Mo_say 18 rfl) (by decide) ?_
  refine cVv (aw_d q_Mo_say 19 rfl) (sp_emit (by (try simp only [List.length_append, List.length_cons, List.length_nil, eB_len]); omega)) vL_Mo_141_Mo rfl rfl rfl rfl rfl rfl ⟨aw_le rfl, aw_le rfl⟩ ?_
  refine aw_aload_n (aw_d q_Mo_say 20 rfl) rfl rfl rfl ?_
  refine aw_ldc2 (aw_d q_Mo_say 21 rfl) lL_Mo_308 ?_
  refine aw_iconst (v := nI 5) (aw_d q_Mo_say 22 rfl) (by decide) ?_
  refine cVv (aw_d q_Mo_say 23 rfl) (sp_emit (by (try simp only [List.length_append, List.length_cons, List.length_nil, eB_len]); omega)) vL_Mo_141_Mo rfl rfl rfl rfl rfl rfl ⟨aw_le rfl, aw_le rfl⟩ ?_
  refine aw_goto (tgt := 85) (aw_d q_Mo_say 24 rfl) (by decide) ?_
  refine aw_iload_n (aw_d q_Mo_say 41 rfl) rfl rfl ?_
  refine aw_ifN_eq (tgt := 100) (aw_d q_Mo_say 42 rfl) (by decide) (by omega) (fun c86 => ?_) (fun c86 => by exfalso; omega)
  refine aw_aload_n (aw_d q_Mo_say 48 rfl) rfl rfl rfl ?_
  refine aw_ldc2 (aw_d q_Mo_say 49 rfl) lL_Mo_318 ?_
  refine aw_iconst (v := nI 5) (aw_d q_Mo_say 50 rfl) (by decide) ?_
  refine cVv (aw_d q_Mo_say 51 rfl) (sp_emit (by (try simp only [List.length_append, List.length_cons, List.length_nil, eB_len]); omega)) vL_Mo_141_Mo rfl rfl rfl rfl rfl rfl ⟨aw_le rfl, aw_le rfl⟩ ?_
  refine aw_iload_n (aw_d q_Mo_say 52 rfl) rfl rfl ?_
  refine aw_ifN_ne (tgt := 121) (aw_d q_Mo_say 53 rfl) (by decide) (by omega) (fun c109 => by exfalso; omega) (fun c109 => ?_)
  refine aw_aload_n (aw_d q_Mo_say 54 rfl) rfl rfl rfl ?_
  refine aw_bipush (v := nI 125) (aw_d q_Mo_say 55 rfl) (by decide) ?_
  refine cVv (aw_d q_Mo_say 56 rfl) (sp_put1 (by (try simp only [List.length_append, List.length_cons, List.length_nil, eB_len]); omega)) vL_Mo_135_Mo rfl rfl rfl rfl rfl rfl ⟨aw_le rfl, aw_le rfl⟩ ?_
  refine aw_goto (tgt := 147) (aw_d q_Mo_say 57 rfl) (by decide) ?_
  refine AW.to (h' := HP (MS S (w_tr true false))) ?_ rfl rfl rfl (by simp [w_tr, eb_34_0, eb_34_1, eb_34_2, eb_44_0, eb_44_1, eb_44_2, eb_62_1, eb_63_0, eb_63_1, eb_63_2, eb_91_1, eb_123_0, eb_123_1, eb_123_2, eb_8766_2, eb_11298_0, eb_11298_1, eb_11298_2, eb_11387_0, eb_11387_1, eb_11387_2, eb_14939_2, eb_24158_2, eb_24378_2, eb_26430_2, eb_27710_2, eb_2240318_3, eb_2243106_3, eb_6126973_3, eb_6634786_3, eb_6765858_3, eb_7433278_3, eb_7697001_3, eb_644314171_4, eb_644641851_4, eb_1684108389_4, eb_1919246700_4, eb_1953658213_4, eb_163799184187_5, eb_164843319355_5, eb_259668470078_5, eb_422759588965_5, eb_435426304570_5, eb_439721161573_5, eb_474176698914_5, eb_482733079074_5, eb_500136506472_5, eb_512853240933_5, eb_66174531561790_6, eb_66419075146814_6, eb_122511348035134_6, eb_9128563980975394_7, eb_16996725057414462_7, eb_30515246123868524_7, eb_2334097659363883376_8, eb_2339740318023049582_8, eb_2462380988100801893_8, eb_2466419133851988069_8, eb_3180214656604140665_8, eb_3180236698239528033_8, eb_4336793171144239470_8, eb_4336793192635852094_8, eb_4336793196931343713_8, eb_4336799750816022076_8, eb_4336804166361248353_8, eb_4336810746235415668_8, eb_4351156112845270631_8, eb_4352840508821617711_8, eb_4353970888399544684_8, eb_4355655336186377278_8, eb_4355948828431576126_8, eb_4356776833549689452_8, eb_6736589144075891573_8, eb_7286945561811696930_8, eb_7522525835761050223_8, eb_7597120025407222562_8, eb_7814997844241883746_8, eb_7943852967226007922_8, eb_8243121641139499838_8, eb_8304140937415647602_8, eb_8872769000508236346_8, eb_8872784376777351738_8, eb_8898316964945948524_8, tl_0, tl_1, tl_2, tl_3, tl_5, tl_6, tl_7, tl_8, tl_9, tl_10, tl_11, tl_12, tl_13, tl_14, tl_15, tl_16, tl_17, tl_18, tl_19, tl_20, tl_21, tl_22, tl_23, tl_24, tl_25, tl_26, tl_27, tl_28, tl_29, tl_30, tl_31, tl_32, tl_33, tl_34, tl_35, tl_36, tl_37, tl_38, tl_39, tl_40, tl_41, tl_42, tl_43, tl_44, tl_45, tl_46, tl_47, tl_48, tl_49, tl_50, tl_51, tl_52, tl_53, tl_54, tl_55, tl_56, tl_57, tl_58, tl_59])
  refine aw_aload_n (aw_d q_Mo_say 70 rfl) rfl rfl rfl ?_
  refine cV (aw_d q_Mo_say 71 rfl) (sp_hand (O := w_tr true false) (by decide)) vL_Mo_302_Mo rfl rfl rfl rfl rfl rfl ⟨aw_le rfl, aw_le rfl⟩ (fun r148 h148 hp148 => ?_)
  obtain ⟨rfl, A, rfl, hA⟩ := hp148
  exact aw_iret (aw_d q_Mo_say 72 rfl) rfl (⟨rfl, A, rfl, hA⟩)
set_option maxRecDepth 20000 in
theorem sp_Mo_say_01 {g : aw_G} {S : aw_S}  : Sp g M_Mo_say 2 45 0 0 [.ref 33, .int (nI 0), .int (nI 1)] (HP S) (fun r h => r = some (.int (nI (w_tr true true).length)) ∧ ∃ A : Nat → Int32, h = HP (si (sa (MS S (w_tr true true)) 35 A) 3302 (nI (w_tr true true).length)) ∧ ∀ i, i < (w_tr true true).length → A i = (w_tr true true).getD i 0) := by
  refine Sp.of rfl (aw_le rfl) ?_
  have hji := nI_toInt (n := 0) (by omega)
  refine aw_iload_n (aw_d q_Mo_say 0 rfl) rfl rfl ?_
  refine aw_iconst (v := nI 0) (aw_d q_Mo_say 1 rfl) (by decide) ?_
  refine aw_iconst (v := nI 1) (aw_d q_Mo_say 2 rfl) (by decide) ?_
  refine cSr (aw_d q_Mo_say 3 rfl) (sp_Mo_in (A := 0) (B := 1) (by decide) (by decide)) sL_Mo_81 rfl rfl rfl rfl ⟨aw_le rfl, aw_le rfl⟩ ?_
  refine aw_ifB_ne (tgt := 11) (aw_d q_Mo_say 4 rfl) (by decide) (fun c6 => ?_) (fun c6 => by omega)
  refine aw_aload_n (aw_d q_Mo_say 7 rfl) rfl rfl rfl ?_
  refine aw_iconst (v := nI 0) (aw_d q_Mo_say 8 rfl) (by decide) ?_
  refine wi_33_4 (aw_d q_Mo_say 9 rfl) pL_Mo_132_Mo ?_
  rw [MS_nil]
  refine aw_iload_n (aw_d q_Mo_say 10 rfl) rfl rfl ?_
  refine aw_ifN_ne (tgt := 49) (aw_d q_Mo_say 11 rfl) (by decide) (by omega) (fun c17 => by exfalso; omega) (fun c17 => ?_)
  refine aw_aload_n (aw_d q_Mo_say 12 rfl) rfl rfl rfl ?_
  refine aw_ldc2 (aw_d q_Mo_say 13 rfl) lL_Mo_159 ?_
  refine aw_bipush (v := nI 8) (aw_d q_Mo_say 14 rfl) (by decide) ?_
  refine cVv (aw_d q_Mo_say 15 rfl) (sp_emit (by (try simp only [List.length_append, List.length_cons, List.length_nil, eB_len]); omega)) vL_Mo_141_Mo rfl rfl rfl rfl rfl rfl ⟨aw_le rfl, aw_le rfl⟩ ?_
  refine aw_aload_n (aw_d q_Mo_say 16 rfl) rfl rfl rfl ?_
  refine aw_ldc2 (aw_d q_Mo_say 17 rfl) lL_Mo_306 ?_
  refine aw_bipush (v := nI 8) (aw_d q_Mo_say 18 rfl) (by decide) ?_
  refine cVv (aw_d q_Mo_say 19 rfl) (sp_emit (by (try simp only [List.length_append, List.length_cons, List.length_nil, eB_len]); omega)) vL_Mo_141_Mo rfl rfl rfl rfl rfl rfl ⟨aw_le rfl, aw_le rfl⟩ ?_
  refine aw_aload_n (aw_d q_Mo_say 20 rfl) rfl rfl rfl ?_
  refine aw_ldc2 (aw_d q_Mo_say 21 rfl) lL_Mo_308 ?_
  refine aw_iconst (v := nI 5) (aw_d q_Mo_say 22 rfl) (by decide) ?_
  refine cVv (aw_d q_Mo_say 23 rfl) (sp_emit (by (try simp only [List.length_append, List.length_cons, List.length_nil, eB_len]); omega)) vL_Mo_141_Mo rfl rfl rfl rfl rfl rfl ⟨aw_le rfl, aw_le rfl⟩ ?_
  refine aw_goto (tgt := 85) (aw_d q_Mo_say 24 rfl) (by decide) ?_
  refine aw_iload_n (aw_d q_Mo_say 41 rfl) rfl rfl ?_
  refine aw_ifN_eq (tgt := 100) (aw_d q_Mo_say 42 rfl) (by decide) (by omega) (fun c86 => by exfalso; omega) (fun c86 => ?_)
  refine aw_aload_n (aw_d q_Mo_say 43 rfl) rfl rfl rfl ?_
  refine aw_ldc2 (aw_d q_Mo_say 44 rfl) lL_Mo_316 ?_
  refine aw_iconst (v := nI 4) (aw_d q_Mo_say 45 rfl) (by decide) ?_
  refine cVv (aw_d q_Mo_say 46 rfl) (sp_emit (by (try simp only [List.length_append, List.length_cons, List.length_nil, eB_len]); omega)) vL_Mo_141_Mo rfl rfl rfl rfl rfl rfl ⟨aw_le rfl, aw_le rfl⟩ ?_
  refine aw_goto (tgt := 108) (aw_d q_Mo_say 47 rfl) (by decide) ?_
  refine aw_iload_n (aw_d q_Mo_say 52 rfl) rfl rfl ?_
  refine aw_ifN_ne (tgt := 121) (aw_d q_Mo_say 53 rfl) (by decide) (by omega) (fun c109 => by exfalso; omega) (fun c109 => ?_)
  refine aw_aload_n (aw_d q_Mo_say 54 rfl) rfl rfl rfl ?_
  refine aw_bipush (v := nI 125) (aw_d q_Mo_say 55 rfl) (by decide) ?_
  refine cVv (aw_d q_Mo_say 56 rfl) (sp_put1 (by (try simp only [List.length_append, List.length_cons, List.length_nil, eB_len]); omega)) vL_Mo_135_Mo rfl rfl rfl rfl rfl rfl ⟨aw_le rfl, aw_le rfl⟩ ?_
  refine aw_goto (tgt := 147) (aw_d q_Mo_say 57 rfl) (by decide) ?_
  refine AW.to (h' := HP (MS S (w_tr true true))) ?_ rfl rfl rfl (by simp [w_tr, eb_34_0, eb_34_1, eb_34_2, eb_44_0, eb_44_1, eb_44_2, eb_62_1, eb_63_0, eb_63_1, eb_63_2, eb_91_1, eb_123_0, eb_123_1, eb_123_2, eb_8766_2, eb_11298_0, eb_11298_1, eb_11298_2, eb_11387_0, eb_11387_1, eb_11387_2, eb_14939_2, eb_24158_2, eb_24378_2, eb_26430_2, eb_27710_2, eb_2240318_3, eb_2243106_3, eb_6126973_3, eb_6634786_3, eb_6765858_3, eb_7433278_3, eb_7697001_3, eb_644314171_4, eb_644641851_4, eb_1684108389_4, eb_1919246700_4, eb_1953658213_4, eb_163799184187_5, eb_164843319355_5, eb_259668470078_5, eb_422759588965_5, eb_435426304570_5, eb_439721161573_5, eb_474176698914_5, eb_482733079074_5, eb_500136506472_5, eb_512853240933_5, eb_66174531561790_6, eb_66419075146814_6, eb_122511348035134_6, eb_9128563980975394_7, eb_16996725057414462_7, eb_30515246123868524_7, eb_2334097659363883376_8, eb_2339740318023049582_8, eb_2462380988100801893_8, eb_2466419133851988069_8, eb_3180214656604140665_8, eb_3180236698239528033_8, eb_4336793171144239470_8, eb_4336793192635852094_8, eb_4336793196931343713_8, eb_4336799750816022076_8, eb_4336804166361248353_8, eb_4336810746235415668_8, eb_4351156112845270631_8, eb_4352840508821617711_8, eb_4353970888399544684_8, eb_4355655336186377278_8, eb_4355948828431576126_8, eb_4356776833549689452_8, eb_6736589144075891573_8, eb_7286945561811696930_8, eb_7522525835761050223_8, eb_7597120025407222562_8, eb_7814997844241883746_8, eb_7943852967226007922_8, eb_8243121641139499838_8, eb_8304140937415647602_8, eb_8872769000508236346_8, eb_8872784376777351738_8, eb_8898316964945948524_8, tl_0, tl_1, tl_2, tl_3, tl_5, tl_6, tl_7, tl_8, tl_9, tl_10, tl_11, tl_12, tl_13, tl_14, tl_15, tl_16, tl_17, tl_18, tl_19, tl_20, tl_21, tl_22, tl_23, tl_24, tl_25, tl_26, tl_27, tl_28, tl_29, tl_30, tl_31, tl_32, tl_33, tl_34, tl_35, tl_36, tl_37, tl_38, tl_39, tl_40, tl_41, tl_42, tl_43, tl_44, tl_45, tl_46, tl_47, tl_48, tl_49, tl_50, tl_51, tl_52, tl_53, tl_54, tl_55, tl_56, tl_57, tl_58, tl_59])
  refine aw_aload_n (aw_d q_Mo_say 70 rfl) rfl rfl rfl ?_
  refine cV (aw_d q_Mo_say 71 rfl) (sp_hand (O := w_tr true true) (by decide)) vL_Mo_302_Mo rfl rfl rfl rfl rfl rfl ⟨aw_le rfl, aw_le rfl⟩ (fun r148 h148 hp148 => ?_)
  obtain ⟨rfl, A, rfl, hA⟩ := hp148
  exact aw_iret (aw_d q_Mo_say 72 rfl) rfl (⟨rfl, A, rfl, hA⟩)
set_option maxRecDepth 20000 in
theorem sp_Mo_say_10 {g : aw_G} {S : aw_S}  : Sp g M_Mo_say 2 45 0 0 [.ref 33, .int (nI 1), .int (nI 0)] (HP S) (fun r h => r = some (.int (nI (w_tr false false).length)) ∧ ∃ A : Nat → Int32, h = HP (si (sa (MS S (w_tr false false)) 35 A) 3302 (nI (w_tr false false).length)) ∧ ∀ i, i < (w_tr false false).length → A i = (w_tr false false).getD i 0) := by
  refine Sp.of rfl (aw_le rfl) ?_
  have hji := nI_toInt (n := 1) (by omega)
  refine aw_iload_n (aw_d q_Mo_say 0 rfl) rfl rfl ?_
  refine aw_iconst (v := nI 0) (aw_d q_Mo_say 1 rfl) (by decide) ?_
  refine aw_iconst (v := nI 1) (aw_d q_Mo_say 2 rfl) (by decide) ?_
  refine cSr (aw_d q_Mo_say 3 rfl) (sp_Mo_in (A := 0) (B := 1) (by decide) (by decide)) sL_Mo_81 rfl rfl rfl rfl ⟨aw_le rfl, aw_le rfl⟩ ?_
  refine aw_ifB_ne (tgt := 11) (aw_d q_Mo_say 4 rfl) (by decide) (fun c6 => ?_) (fun c6 => by omega)
  refine aw_aload_n (aw_d q_Mo_say 7 rfl) rfl rfl rfl ?_
  refine aw_iconst (v := nI 0) (aw_d q_Mo_say 8 rfl) (by decide) ?_
  refine wi_33_4 (aw_d q_Mo_say 9 rfl) pL_Mo_132_Mo ?_
  rw [MS_nil]
  refine aw_iload_n (aw_d q_Mo_say 10 rfl) rfl rfl ?_
  refine aw_ifN_ne (tgt := 49) (aw_d q_Mo_say 11 rfl) (by decide) (by omega) (fun c17 => ?_) (fun c17 => by exfalso; omega)
  refine aw_aload_n (aw_d q_Mo_say 25 rfl) rfl rfl rfl ?_
  refine aw_ldc2 (aw_d q_Mo_say 26 rfl) lL_Mo_218 ?_
  refine aw_bipush (v := nI 8) (aw_d q_Mo_say 27 rfl) (by decide) ?_
  refine cVv (aw_d q_Mo_say 28 rfl) (sp_emit (by (try simp only [List.length_append, List.length_cons, List.length_nil, eB_len]); omega)) vL_Mo_141_Mo rfl rfl rfl rfl rfl rfl ⟨aw_le rfl, aw_le rfl⟩ ?_
  refine aw_aload_n (aw_d q_Mo_say 29 rfl) rfl rfl rfl ?_
  refine aw_ldc2 (aw_d q_Mo_say 30 rfl) lL_Mo_310 ?_
  refine aw_bipush (v := nI 8) (aw_d q_Mo_say 31 rfl) (by decide) ?_
  refine cVv (aw_d q_Mo_say 32 rfl) (sp_emit (by (try simp only [List.length_append, List.length_cons, List.length_nil, eB_len]); omega)) vL_Mo_141_Mo rfl rfl rfl rfl rfl rfl ⟨aw_le rfl, aw_le rfl⟩ ?_
  refine aw_aload_n (aw_d q_Mo_say 33 rfl) rfl rfl rfl ?_
  refine aw_ldc2 (aw_d q_Mo_say 34 rfl) lL_Mo_312 ?_
  refine aw_bipush (v := nI 8) (aw_d q_Mo_say 35 rfl) (by decide) ?_
  refine cVv (aw_d q_Mo_say 36 rfl) (sp_emit (by (try simp only [List.length_append, List.length_cons, List.length_nil, eB_len]); omega)) vL_Mo_141_Mo rfl rfl rfl rfl rfl rfl ⟨aw_le rfl, aw_le rfl⟩ ?_
  refine aw_aload_n (aw_d q_Mo_say 37 rfl) rfl rfl rfl ?_
  refine aw_ldc2 (aw_d q_Mo_say 38 rfl) lL_Mo_314 ?_
  refine aw_bipush (v := nI 6) (aw_d q_Mo_say 39 rfl) (by decide) ?_
  refine cVv (aw_d q_Mo_say 40 rfl) (sp_emit (by (try simp only [List.length_append, List.length_cons, List.length_nil, eB_len]); omega)) vL_Mo_141_Mo rfl rfl rfl rfl rfl rfl ⟨aw_le rfl, aw_le rfl⟩ ?_
  refine aw_iload_n (aw_d q_Mo_say 41 rfl) rfl rfl ?_
  refine aw_ifN_eq (tgt := 100) (aw_d q_Mo_say 42 rfl) (by decide) (by omega) (fun c86 => ?_) (fun c86 => by exfalso; omega)
  refine aw_aload_n (aw_d q_Mo_say 48 rfl) rfl rfl rfl ?_
  refine aw_ldc2 (aw_d q_Mo_say 49 rfl) lL_Mo_318 ?_
  refine aw_iconst (v := nI 5) (aw_d q_Mo_say 50 rfl) (by decide) ?_
  refine cVv (aw_d q_Mo_say 51 rfl) (sp_emit (by (try simp only [List.length_append, List.length_cons, List.length_nil, eB_len]); omega)) vL_Mo_141_Mo rfl rfl rfl rfl rfl rfl ⟨aw_le rfl, aw_le rfl⟩ ?_
  refine aw_iload_n (aw_d q_Mo_say 52 rfl) rfl rfl ?_
  refine aw_ifN_ne (tgt := 121) (aw_d q_Mo_say 53 rfl) (by decide) (by omega) (fun c109 => ?_) (fun c109 => by exfalso; omega)
  refine aw_aload_n (aw_d q_Mo_say 58 rfl) rfl rfl rfl ?_
  refine aw_ldc2 (aw_d q_Mo_say 59 rfl) lL_Mo_320 ?_
  refine aw_bipush (v := nI 8) (aw_d q_Mo_say 60 rfl) (by decide) ?_
  refine cVv (aw_d q_Mo_say 61 rfl) (sp_emit (by (try simp only [List.length_append, List.length_cons, List.length_nil, eB_len]); omega)) vL_Mo_141_Mo rfl rfl rfl rfl rfl rfl ⟨aw_le rfl, aw_le rfl⟩ ?_
  refine aw_aload_n (aw_d q_Mo_say 62 rfl) rfl rfl rfl ?_
  refine aw_ldc2 (aw_d q_Mo_say 63 rfl) lL_Mo_322 ?_
  refine aw_bipush (v := nI 8) (aw_d q_Mo_say 64 rfl) (by decide) ?_
  refine cVv (aw_d q_Mo_say 65 rfl) (sp_emit (by (try simp only [List.length_append, List.length_cons, List.length_nil, eB_len]); omega)) vL_Mo_141_Mo rfl rfl rfl rfl rfl rfl ⟨aw_le rfl, aw_le rfl⟩ ?_
  refine aw_aload_n (aw_d q_Mo_say 66 rfl) rfl rfl rfl ?_
  refine aw_ldc2 (aw_d q_Mo_say 67 rfl) lL_Mo_253 ?_
  refine aw_iconst (v := nI 3) (aw_d q_Mo_say 68 rfl) (by decide) ?_
  refine cVv (aw_d q_Mo_say 69 rfl) (sp_emit (by (try simp only [List.length_append, List.length_cons, List.length_nil, eB_len]); omega)) vL_Mo_141_Mo rfl rfl rfl rfl rfl rfl ⟨aw_le rfl, aw_le rfl⟩ ?_
  refine AW.to (h' := HP (MS S (w_tr false false))) ?_ rfl rfl rfl (by simp [w_tr, eb_34_0, eb_34_1, eb_34_2, eb_44_0, eb_44_1, eb_44_2, eb_62_1, eb_63_0, eb_63_1, eb_63_2, eb_91_1, eb_123_0, eb_123_1, eb_123_2, eb_8766_2, eb_11298_0, eb_11298_1, eb_11298_2, eb_11387_0, eb_11387_1, eb_11387_2, eb_14939_2, eb_24158_2, eb_24378_2, eb_26430_2, eb_27710_2, eb_2240318_3, eb_2243106_3, eb_6126973_3, eb_6634786_3, eb_6765858_3, eb_7433278_3, eb_7697001_3, eb_644314171_4, eb_644641851_4, eb_1684108389_4, eb_1919246700_4, eb_1953658213_4, eb_163799184187_5, eb_164843319355_5, eb_259668470078_5, eb_422759588965_5, eb_435426304570_5, eb_439721161573_5, eb_474176698914_5, eb_482733079074_5, eb_500136506472_5, eb_512853240933_5, eb_66174531561790_6, eb_66419075146814_6, eb_122511348035134_6, eb_9128563980975394_7, eb_16996725057414462_7, eb_30515246123868524_7, eb_2334097659363883376_8, eb_2339740318023049582_8, eb_2462380988100801893_8, eb_2466419133851988069_8, eb_3180214656604140665_8, eb_3180236698239528033_8, eb_4336793171144239470_8, eb_4336793192635852094_8, eb_4336793196931343713_8, eb_4336799750816022076_8, eb_4336804166361248353_8, eb_4336810746235415668_8, eb_4351156112845270631_8, eb_4352840508821617711_8, eb_4353970888399544684_8, eb_4355655336186377278_8, eb_4355948828431576126_8, eb_4356776833549689452_8, eb_6736589144075891573_8, eb_7286945561811696930_8, eb_7522525835761050223_8, eb_7597120025407222562_8, eb_7814997844241883746_8, eb_7943852967226007922_8, eb_8243121641139499838_8, eb_8304140937415647602_8, eb_8872769000508236346_8, eb_8872784376777351738_8, eb_8898316964945948524_8, tl_0, tl_1, tl_2, tl_3, tl_5, tl_6, tl_7, tl_8, tl_9, tl_10, tl_11, tl_12, tl_13, tl_14, tl_15, tl_16, tl_17, tl_18, tl_19, tl_20, tl_21, tl_22, tl_23, tl_24, tl_25, tl_26, tl_27, tl_28, tl_29, tl_30, tl_31, tl_32, tl_33, tl_34, tl_35, tl_36, tl_37, tl_38, tl_39, tl_40, tl_41, tl_42, tl_43, tl_44, tl_45, tl_46, tl_47, tl_48, tl_49, tl_50, tl_51, tl_52, tl_53, tl_54, tl_55, tl_56, tl_57, tl_58, tl_59])
  refine aw_aload_n (aw_d q_Mo_say 70 rfl) rfl rfl rfl ?_
  refine cV (aw_d q_Mo_say 71 rfl) (sp_hand (O := w_tr false false) (by decide)) vL_Mo_302_Mo rfl rfl rfl rfl rfl rfl ⟨aw_le rfl, aw_le rfl⟩ (fun r148 h148 hp148 => ?_)
  obtain ⟨rfl, A, rfl, hA⟩ := hp148
  exact aw_iret (aw_d q_Mo_say 72 rfl) rfl (⟨rfl, A, rfl, hA⟩)
set_option maxRecDepth 20000 in
theorem sp_Mo_say_11 {g : aw_G} {S : aw_S}  : Sp g M_Mo_say 2 45 0 0 [.ref 33, .int (nI 1), .int (nI 1)] (HP S) (fun r h => r = some (.int (nI (w_tr false true).length)) ∧ ∃ A : Nat → Int32, h = HP (si (sa (MS S (w_tr false true)) 35 A) 3302 (nI (w_tr false true).length)) ∧ ∀ i, i < (w_tr false true).length → A i = (w_tr false true).getD i 0) := by
  refine Sp.of rfl (aw_le rfl) ?_
  have hji := nI_toInt (n := 1) (by omega)
  refine aw_iload_n (aw_d q_Mo_say 0 rfl) rfl rfl ?_
  refine aw_iconst (v := nI 0) (aw_d q_Mo_say 1 rfl) (by decide) ?_
  refine aw_iconst (v := nI 1) (aw_d q_Mo_say 2 rfl) (by decide) ?_
  refine cSr (aw_d q_Mo_say 3 rfl) (sp_Mo_in (A := 0) (B := 1) (by decide) (by decide)) sL_Mo_81 rfl rfl rfl rfl ⟨aw_le rfl, aw_le rfl⟩ ?_
  refine aw_ifB_ne (tgt := 11) (aw_d q_Mo_say 4 rfl) (by decide) (fun c6 => ?_) (fun c6 => by omega)
  refine aw_aload_n (aw_d q_Mo_say 7 rfl) rfl rfl rfl ?_
  refine aw_iconst (v := nI 0) (aw_d q_Mo_say 8 rfl) (by decide) ?_
  refine wi_33_4 (aw_d q_Mo_say 9 rfl) pL_Mo_132_Mo ?_
  rw [MS_nil]
  refine aw_iload_n (aw_d q_Mo_say 10 rfl) rfl rfl ?_
  refine aw_ifN_ne (tgt := 49) (aw_d q_Mo_say 11 rfl) (by decide) (by omega) (fun c17 => ?_) (fun c17 => by exfalso; omega)
  refine aw_aload_n (aw_d q_Mo_say 25 rfl) rfl rfl rfl ?_
  refine aw_ldc2 (aw_d q_Mo_say 26 rfl) lL_Mo_218 ?_
  refine aw_bipush (v := nI 8) (aw_d q_Mo_say 27 rfl) (by decide) ?_
  refine cVv (aw_d q_Mo_say 28 rfl) (sp_emit (by (try simp only [List.length_append, List.length_cons, List.length_nil, eB_len]); omega)) vL_Mo_141_Mo rfl rfl rfl rfl rfl rfl ⟨aw_le rfl, aw_le rfl⟩ ?_
  refine aw_aload_n (aw_d q_Mo_say 29 rfl) rfl rfl rfl ?_
  refine aw_ldc2 (aw_d q_Mo_say 30 rfl) lL_Mo_310 ?_
  refine aw_bipush (v := nI 8) (aw_d q_Mo_say 31 rfl) (by decide) ?_
  refine cVv (aw_d q_Mo_say 32 rfl) (sp_emit (by (try simp only [List.length_append, List.length_cons, List.length_nil, eB_len]); omega)) vL_Mo_141_Mo rfl rfl rfl rfl rfl rfl ⟨aw_le rfl, aw_le rfl⟩ ?_
  refine aw_aload_n (aw_d q_Mo_say 33 rfl) rfl rfl rfl ?_
  refine aw_ldc2 (aw_d q_Mo_say 34 rfl) lL_Mo_312 ?_
  refine aw_bipush (v := nI 8) (aw_d q_Mo_say 35 rfl) (by decide) ?_
  refine cVv (aw_d q_Mo_say 36 rfl) (sp_emit (by (try simp only [List.length_append, List.length_cons, List.length_nil, eB_len]); omega)) vL_Mo_141_Mo rfl rfl rfl rfl rfl rfl ⟨aw_le rfl, aw_le rfl⟩ ?_
  refine aw_aload_n (aw_d q_Mo_say 37 rfl) rfl rfl rfl ?_
  refine aw_ldc2 (aw_d q_Mo_say 38 rfl) lL_Mo_314 ?_
  refine aw_bipush (v := nI 6) (aw_d q_Mo_say 39 rfl) (by decide) ?_
  refine cVv (aw_d q_Mo_say 40 rfl) (sp_emit (by (try simp only [List.length_append, List.length_cons, List.length_nil, eB_len]); omega)) vL_Mo_141_Mo rfl rfl rfl rfl rfl rfl ⟨aw_le rfl, aw_le rfl⟩ ?_
  refine aw_iload_n (aw_d q_Mo_say 41 rfl) rfl rfl ?_
  refine aw_ifN_eq (tgt := 100) (aw_d q_Mo_say 42 rfl) (by decide) (by omega) (fun c86 => by exfalso; omega) (fun c86 => ?_)
  refine aw_aload_n (aw_d q_Mo_say 43 rfl) rfl rfl rfl ?_
  refine aw_ldc2 (aw_d q_Mo_say 44 rfl) lL_Mo_316 ?_
  refine aw_iconst (v := nI 4) (aw_d q_Mo_say 45 rfl) (by decide) ?_
  refine cVv (aw_d q_Mo_say 46 rfl) (sp_emit (by (try simp only [List.length_append, List.length_cons, List.length_nil, eB_len]); omega)) vL_Mo_141_Mo rfl rfl rfl rfl rfl rfl ⟨aw_le rfl, aw_le rfl⟩ ?_
  refine aw_goto (tgt := 108) (aw_d q_Mo_say 47 rfl) (by decide) ?_
  refine aw_iload_n (aw_d q_Mo_say 52 rfl) rfl rfl ?_
  refine aw_ifN_ne (tgt := 121) (aw_d q_Mo_say 53 rfl) (by decide) (by omega) (fun c109 => ?_) (fun c109 => by exfalso; omega)
  refine aw_aload_n (aw_d q_Mo_say 58 rfl) rfl rfl rfl ?_
  refine aw_ldc2 (aw_d q_Mo_say 59 rfl) lL_Mo_320 ?_
  refine aw_bipush (v := nI 8) (aw_d q_Mo_say 60 rfl) (by decide) ?_
  refine cVv (aw_d q_Mo_say 61 rfl) (sp_emit (by (try simp only [List.length_append, List.length_cons, List.length_nil, eB_len]); omega)) vL_Mo_141_Mo rfl rfl rfl rfl rfl rfl ⟨aw_le rfl, aw_le rfl⟩ ?_
  refine aw_aload_n (aw_d q_Mo_say 62 rfl) rfl rfl rfl ?_
  refine aw_ldc2 (aw_d q_Mo_say 63 rfl) lL_Mo_322 ?_
  refine aw_bipush (v := nI 8) (aw_d q_Mo_say 64 rfl) (by decide) ?_
  refine cVv (aw_d q_Mo_say 65 rfl) (sp_emit (by (try simp only [List.length_append, List.length_cons, List.length_nil, eB_len]); omega)) vL_Mo_141_Mo rfl rfl rfl rfl rfl rfl ⟨aw_le rfl, aw_le rfl⟩ ?_
  refine aw_aload_n (aw_d q_Mo_say 66 rfl) rfl rfl rfl ?_
  refine aw_ldc2 (aw_d q_Mo_say 67 rfl) lL_Mo_253 ?_
  refine aw_iconst (v := nI 3) (aw_d q_Mo_say 68 rfl) (by decide) ?_
  refine cVv (aw_d q_Mo_say 69 rfl) (sp_emit (by (try simp only [List.length_append, List.length_cons, List.length_nil, eB_len]); omega)) vL_Mo_141_Mo rfl rfl rfl rfl rfl rfl ⟨aw_le rfl, aw_le rfl⟩ ?_
  refine AW.to (h' := HP (MS S (w_tr false true))) ?_ rfl rfl rfl (by simp [w_tr, eb_34_0, eb_34_1, eb_34_2, eb_44_0, eb_44_1, eb_44_2, eb_62_1, eb_63_0, eb_63_1, eb_63_2, eb_91_1, eb_123_0, eb_123_1, eb_123_2, eb_8766_2, eb_11298_0, eb_11298_1, eb_11298_2, eb_11387_0, eb_11387_1, eb_11387_2, eb_14939_2, eb_24158_2, eb_24378_2, eb_26430_2, eb_27710_2, eb_2240318_3, eb_2243106_3, eb_6126973_3, eb_6634786_3, eb_6765858_3, eb_7433278_3, eb_7697001_3, eb_644314171_4, eb_644641851_4, eb_1684108389_4, eb_1919246700_4, eb_1953658213_4, eb_163799184187_5, eb_164843319355_5, eb_259668470078_5, eb_422759588965_5, eb_435426304570_5, eb_439721161573_5, eb_474176698914_5, eb_482733079074_5, eb_500136506472_5, eb_512853240933_5, eb_66174531561790_6, eb_66419075146814_6, eb_122511348035134_6, eb_9128563980975394_7, eb_16996725057414462_7, eb_30515246123868524_7, eb_2334097659363883376_8, eb_2339740318023049582_8, eb_2462380988100801893_8, eb_2466419133851988069_8, eb_3180214656604140665_8, eb_3180236698239528033_8, eb_4336793171144239470_8, eb_4336793192635852094_8, eb_4336793196931343713_8, eb_4336799750816022076_8, eb_4336804166361248353_8, eb_4336810746235415668_8, eb_4351156112845270631_8, eb_4352840508821617711_8, eb_4353970888399544684_8, eb_4355655336186377278_8, eb_4355948828431576126_8, eb_4356776833549689452_8, eb_6736589144075891573_8, eb_7286945561811696930_8, eb_7522525835761050223_8, eb_7597120025407222562_8, eb_7814997844241883746_8, eb_7943852967226007922_8, eb_8243121641139499838_8, eb_8304140937415647602_8, eb_8872769000508236346_8, eb_8872784376777351738_8, eb_8898316964945948524_8, tl_0, tl_1, tl_2, tl_3, tl_5, tl_6, tl_7, tl_8, tl_9, tl_10, tl_11, tl_12, tl_13, tl_14, tl_15, tl_16, tl_17, tl_18, tl_19, tl_20, tl_21, tl_22, tl_23, tl_24, tl_25, tl_26, tl_27, tl_28, tl_29, tl_30, tl_31, tl_32, tl_33, tl_34, tl_35, tl_36, tl_37, tl_38, tl_39, tl_40, tl_41, tl_42, tl_43, tl_44, tl_45, tl_46, tl_47, tl_48, tl_49, tl_50, tl_51, tl_52, tl_53, tl_54, tl_55, tl_56, tl_57, tl_58, tl_59])
  refine aw_aload_n (aw_d q_Mo_say 70 rfl) rfl rfl rfl ?_
  refine cV (aw_d q_Mo_say 71 rfl) (sp_hand (O := w_tr false true) (by decide)) vL_Mo_302_Mo rfl rfl rfl rfl rfl rfl ⟨aw_le rfl, aw_le rfl⟩ (fun r148 h148 hp148 => ?_)
  obtain ⟨rfl, A, rfl, hA⟩ := hp148
  exact aw_iret (aw_d q_Mo_say 72 rfl) rfl (⟨rfl, A, rfl, hA⟩)
set_option maxRecDepth 20000 in
theorem sp_Mo_sayB {g : aw_G} {S : aw_S} {x y : Int32} (hx : x.toInt < 0 ∨ 1 < x.toInt) : Sp g M_Mo_say 2 45 0 0 [.ref 33, .int x, .int y] (HP S) (fun r h => r = some (.int (-1)) ∧ h = HP S) := by
  refine Sp.of rfl (aw_le rfl) ?_
  refine aw_iload_n (aw_d q_Mo_say 0 rfl) rfl rfl ?_
  refine aw_iconst (v := nI 0) (aw_d q_Mo_say 1 rfl) (by decide) ?_
  refine aw_iconst (v := nI 1) (aw_d q_Mo_say 2 rfl) (by decide) ?_
  refine cSr (aw_d q_Mo_say 3 rfl) (sp_Mo_in (A := 0) (B := 1) (by decide) (by decide)) sL_Mo_81 rfl rfl rfl rfl ⟨aw_le rfl, aw_le rfl⟩ ?_
  refine aw_ifB_ne (tgt := 11) (aw_d q_Mo_say 4 rfl) (by decide) (fun c6 => by omega) (fun c6 => ?_)
  refine aw_iconst (v := (-1)) (aw_d q_Mo_say 5 rfl) (by decide) ?_
  exact aw_iret (aw_d q_Mo_say 6 rfl) rfl (⟨rfl, rfl⟩)
