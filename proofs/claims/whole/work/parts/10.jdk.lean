/-- byte k of text constant i -/
def aw_ch (i k : Nat) : Int32 := (aw_byt.getD i []).getD k 0
theorem aw_ch_ok : (List.range 90).all (fun i => (List.range (aw_len.getD i 0)).all (fun k => decide (0 ≤ (aw_ch i k).toInt ∧ (aw_ch i k).toInt ≤ 127 ∧ ((aw_ch i k &&& nI 255).toUInt32 % 65536).toInt32 = aw_ch i k ∧ (aw_ch i k).toInt8.toInt32 = aw_ch i k))) = true := by decide +kernel
theorem aw_ch_is {i k : Nat} (hi : i < aw_nS) (hk : k < aw_len.getD i 0) : 0 ≤ (aw_ch i k).toInt ∧ (aw_ch i k).toInt ≤ 127 ∧ ((aw_ch i k &&& nI 255).toUInt32 % 65536).toInt32 = aw_ch i k ∧ (aw_ch i k).toInt8.toInt32 = aw_ch i k := by
  have h1 := List.all_eq_true.mp (List.all_eq_true.mp aw_ch_ok i (List.mem_range.mpr hi)) k (List.mem_range.mpr hk)
  exact of_decide_eq_true h1
theorem aw_len_ok : (List.range 90).all (fun i => decide (aw_len.getD i 0 < 100 ∧ aw_len.getD i 0 = (aw_byt.getD i []).length)) = true := by decide +kernel
theorem aw_len_lt {i : Nat} (hi : i < aw_nS) : aw_len.getD i 0 < 100 := (of_decide_eq_true (List.all_eq_true.mp aw_len_ok i (List.mem_range.mpr hi))).1
theorem aw_len_is {i : Nat} (hi : i < aw_nS) : aw_len.getD i 0 = (aw_byt.getD i []).length := (of_decide_eq_true (List.all_eq_true.mp aw_len_ok i (List.mem_range.mpr hi))).2
theorem nr_char {i k : Nat} (hi : i < aw_nS) (hk : k < aw_len.getD i 0) : narrow .char (.int (aw_ch i k)) = .int (aw_ch i k) := by
  obtain ⟨h1, h2, h3, h4⟩ := aw_ch_is hi hk
  have := pk_nc (aw_ch i k &&& nI 255)
  rw [h3] at this
  exact this
set_option maxRecDepth 20000 in
theorem sp_JS_coder {g : aw_G} {h : aw_hp} {i : Nat} (hi : i < aw_nS) : Sp g M_JS_coder 0 0 0 0 [.retAddr i] (h) (fun r h1 => r = some (.int (nI 0)) ∧ h1 = h) := by
  refine Sp.of rfl (aw_le rfl) ?_
  refine aw_compN (aw_d q_JS_coder 0 rfl) rfl ?_
  refine aw_ifN_eq (tgt := 13) (aw_d q_JS_coder 1 rfl) (by decide) (by omega) (fun c3 => by exfalso; omega) (fun c3 => ?_)
  refine aw_aload_n (aw_d q_JS_coder 2 rfl) rfl rfl rfl ?_
  refine aw_strcN hi (aw_d q_JS_coder 3 rfl) rfl ?_
  refine aw_goto (tgt := 14) (aw_d q_JS_coder 4 rfl) (by decide) ?_
  exact aw_zret (aw_d q_JS_coder 6 rfl) rfl (rfl) (⟨rfl, rfl⟩)
set_option maxRecDepth 20000 in
theorem sp_JS_isLatin1 {g : aw_G} {h : aw_hp} {i : Nat} (hi : i < aw_nS) : Sp g M_JS_isLatin1 0 0 0 0 [.retAddr i] (h) (fun r h1 => r = some (.int (nI 1)) ∧ h1 = h) := by
  refine Sp.of rfl (aw_le rfl) ?_
  refine aw_compN (aw_d q_JS_isLatin1 0 rfl) rfl ?_
  refine aw_ifN_eq (tgt := 17) (aw_d q_JS_isLatin1 1 rfl) (by decide) (by omega) (fun c3 => by exfalso; omega) (fun c3 => ?_)
  refine aw_aload_n (aw_d q_JS_isLatin1 2 rfl) rfl rfl rfl ?_
  refine aw_strcN hi (aw_d q_JS_isLatin1 3 rfl) rfl ?_
  refine aw_ifN_ne (tgt := 17) (aw_d q_JS_isLatin1 4 rfl) (by decide) (by omega) (fun c10 => by exfalso; omega) (fun c10 => ?_)
  refine aw_iconst (v := nI 1) (aw_d q_JS_isLatin1 5 rfl) (by decide) ?_
  refine aw_goto (tgt := 18) (aw_d q_JS_isLatin1 6 rfl) (by decide) ?_
  exact aw_zret (aw_d q_JS_isLatin1 8 rfl) rfl (rfl) (⟨rfl, rfl⟩)
set_option maxRecDepth 20000 in
theorem sp_JS_length {g : aw_G} {h : aw_hp} {i : Nat} (hi : i < aw_nS) : Sp g M_JS_length 1 20 0 0 [.retAddr i] (h) (fun r h1 => r = some (.int (nI (aw_len.getD i 0))) ∧ h1 = h) := by
  refine Sp.of rfl (aw_le rfl) ?_
  refine aw_aload_n (aw_d q_JS_length 0 rfl) rfl rfl rfl ?_
  refine aw_strv hi (aw_d q_JS_length 1 rfl) rfl ?_
  refine aw_strl hi (aw_d q_JS_length 2 rfl) ?_
  refine aw_aload_n (aw_d q_JS_length 3 rfl) rfl rfl rfl ?_
  refine cT (aw_d q_JS_length 4 rfl) hi (sp_JS_coder hi) vL_JS_335_JS rfl rfl rfl rfl ⟨aw_le rfl, aw_le rfl⟩ ?_
  refine aw_ishr (aw_d q_JS_length 5 rfl) ?_
  exact aw_iret (aw_d q_JS_length 6 rfl) rfl (⟨by have := aw_len_lt hi; rw [show nI 0 &&& 31 = (0 : Int32) &&& 31 from rfl, sc_shr0 (by omega)], rfl⟩)
set_option maxRecDepth 20000 in
theorem sp_JS_isEmpty {g : aw_G} {h : aw_hp} {i : Nat} (hi : i < aw_nS) : Sp g M_JS_isEmpty 0 0 0 0 [.retAddr i] (h) (fun r h1 => r = some (.int (if aw_len.getD i 0 = 0 then nI 1 else nI 0)) ∧ h1 = h) := by
  refine Sp.of rfl (aw_le rfl) ?_
  refine aw_aload_n (aw_d q_JS_isEmpty 0 rfl) rfl rfl rfl ?_
  refine aw_strv hi (aw_d q_JS_isEmpty 1 rfl) rfl ?_
  refine aw_strl hi (aw_d q_JS_isEmpty 2 rfl) ?_
  refine aw_ifN_ne (tgt := 12) (aw_d q_JS_isEmpty 3 rfl) (by decide) (by (have := aw_len_lt hi; omega)) (fun c5 => ?_) (fun c5 => ?_)
  · refine aw_iconst (v := nI 0) (aw_d q_JS_isEmpty 6 rfl) (by decide) ?_
    exact aw_zret (aw_d q_JS_isEmpty 7 rfl) rfl (rfl) (⟨by first | rfl | (rw [if_pos (by omega)]) | (rw [if_neg (by omega)]), rfl⟩)
  · refine aw_iconst (v := nI 1) (aw_d q_JS_isEmpty 4 rfl) (by decide) ?_
    refine aw_goto (tgt := 13) (aw_d q_JS_isEmpty 5 rfl) (by decide) ?_
    exact aw_zret (aw_d q_JS_isEmpty 7 rfl) rfl (rfl) (⟨by first | rfl | (rw [if_pos (by omega)]) | (rw [if_neg (by omega)]), rfl⟩)
set_option maxRecDepth 20000 in
theorem sp_JP_checkIndex {g : aw_G} {h : aw_hp} {k n : Nat} {v : Value} (hv : aw_R v = true) (hk : k < n) (hn : n < 100) : Sp g M_JP_checkIndex 0 0 0 0 [.int (nI k), .int (nI n), v] h (fun r h1 => r = some (.int (nI k)) ∧ h1 = h) := by
  cases v <;> first | (cases hv; done) | skip
  all_goals refine Sp.of rfl (aw_le rfl) ?_
  all_goals refine aw_iload_n (aw_d q_JP_checkIndex 0 rfl) rfl rfl ?_
  all_goals refine aw_ifN_lt (tgt := 9) (aw_d q_JP_checkIndex 1 rfl) (by decide) (by omega) (fun c1 => by exfalso; omega) (fun c1 => ?_)
  all_goals refine aw_iload_n (aw_d q_JP_checkIndex 2 rfl) rfl rfl ?_
  all_goals refine aw_iload_n (aw_d q_JP_checkIndex 3 rfl) rfl rfl ?_
  all_goals refine aw_icmpN_lt (tgt := 16) (aw_d q_JP_checkIndex 4 rfl) (by decide) (by omega) (by omega) (fun c6 => ?_) (fun c6 => by exfalso; omega)
  all_goals refine aw_iload_n (aw_d q_JP_checkIndex 10 rfl) rfl rfl ?_
  all_goals exact aw_iret (aw_d q_JP_checkIndex 11 rfl) rfl (⟨rfl, rfl⟩)
set_option maxRecDepth 20000 in
theorem sp_JS_checkIndex {g : aw_G} {h : aw_hp} {k n : Nat} (hk : k < n) (hn : n < 100) : Sp g M_JS_checkIndex 1 22 0 0 [.int (nI k), .int (nI n)] (h) (fun r h1 => r = none ∧ h1 = h) := by
  refine Sp.of rfl (aw_le rfl) ?_
  refine aw_iload_n (aw_d q_JS_checkIndex 0 rfl) rfl rfl ?_
  refine aw_iload_n (aw_d q_JS_checkIndex 1 rfl) rfl rfl ?_
  refine aw_sioobe (aw_d q_JS_checkIndex 2 rfl) rfl (fun vN hvN => ?_)
  refine cSr (aw_d q_JS_checkIndex 3 rfl) (sp_JP_checkIndex hvN hk hn) sL_JS_1059 rfl rfl rfl rfl ⟨aw_le rfl, aw_le rfl⟩ ?_
  refine aw_pop (aw_d q_JS_checkIndex 4 rfl) rfl ?_
  exact aw_vret (aw_d q_JS_checkIndex 5 rfl) rfl (⟨rfl, rfl⟩)
set_option maxRecDepth 20000 in
theorem sp_JL_charAt {g : aw_G} {h : aw_hp} {i : Nat} (hi : i < aw_nS) {k : Nat} (hk : k < aw_len.getD i 0) : Sp g M_JL_charAt 2 43 0 0 [.retAddr (1000 + i), .int (nI k)] (h) (fun r h1 => r = some (.int (aw_ch i k)) ∧ h1 = h) := by
  refine Sp.of rfl (aw_le rfl) ?_
  refine aw_iload_n (aw_d q_JL_charAt 0 rfl) rfl rfl ?_
  refine aw_aload_n (aw_d q_JL_charAt 1 rfl) rfl rfl rfl ?_
  refine aw_strl hi (aw_d q_JL_charAt 2 rfl) ?_
  refine cSv (aw_d q_JL_charAt 3 rfl) (sp_JS_checkIndex hk (aw_len_lt hi)) sL_JL_9 rfl rfl rfl rfl ⟨aw_le rfl, aw_le rfl⟩ ?_
  refine aw_aload_n (aw_d q_JL_charAt 4 rfl) rfl rfl rfl ?_
  refine aw_iload_n (aw_d q_JL_charAt 5 rfl) rfl rfl ?_
  refine aw_strb hi (aw_d q_JL_charAt 6 rfl) (vp_in_nI hk (Nat.lt_trans (aw_len_lt hi) (by decide))) ?_
  refine aw_sipush (v := nI 255) (aw_d q_JL_charAt 7 rfl) (by decide) ?_
  refine aw_iand (aw_d q_JL_charAt 8 rfl) ?_
  refine aw_i2c (aw_d q_JL_charAt 9 rfl) ?_
  have hz := aw_len_lt hi
  rw [nI_clamp (show k < 2 ^ 31 by omega), show (aw_byt.getD i []).getD k 0 = aw_ch i k from rfl, (aw_ch_is hi hk).2.2.1]
  exact aw_zret (aw_d q_JL_charAt 10 rfl) rfl (nr_char hi hk) (⟨rfl, rfl⟩)
set_option maxRecDepth 20000 in
theorem sp_JS_charAt {g : aw_G} {h : aw_hp} {i : Nat} (hi : i < aw_nS) {k : Nat} (hk : k < aw_len.getD i 0) : Sp g M_JS_charAt 3 64 0 0 [.retAddr i, .int (nI k)] (h) (fun r h1 => r = some (.int (aw_ch i k)) ∧ h1 = h) := by
  refine Sp.of rfl (aw_le rfl) ?_
  refine aw_aload_n (aw_d q_JS_charAt 0 rfl) rfl rfl rfl ?_
  refine cT (aw_d q_JS_charAt 1 rfl) hi (sp_JS_isLatin1 hi) vL_JS_492_JS rfl rfl rfl rfl ⟨aw_le rfl, aw_le rfl⟩ ?_
  refine aw_ifN_eq (tgt := 16) (aw_d q_JS_charAt 2 rfl) (by decide) (by omega) (fun c4 => by exfalso; omega) (fun c4 => ?_)
  refine aw_aload_n (aw_d q_JS_charAt 3 rfl) rfl rfl rfl ?_
  refine aw_strv hi (aw_d q_JS_charAt 4 rfl) rfl ?_
  refine aw_iload_n (aw_d q_JS_charAt 5 rfl) rfl rfl ?_
  refine cSr (aw_d q_JS_charAt 6 rfl) (sp_JL_charAt hi hk) sL_JS_495 rfl rfl rfl rfl ⟨aw_le rfl, aw_le rfl⟩ ?_
  exact aw_zret (aw_d q_JS_charAt 7 rfl) rfl (nr_char hi hk) (⟨rfl, rfl⟩)
