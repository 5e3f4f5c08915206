/-! THE CLAIM OUT OF ONE WALK OF THE LAW'S BODY. Your part is whole_start (and what it stands on); all else here is the same for every law, but numbers. -/
def R_law : String := "ResultFormsLaw"
def lw_P (b : Addr) (xs : List Int32) (args : Array Value) (s : State) : Prop := args = #[.ref b] ∧ s.IntsAt b xs ∧ xs.length ≤ 2048 ∧ (Jvm.Cond.and given_1 narrow_1).before args s = true
def lw_Q (_ : Array Value) (s : State) (o : Outcome) (t : State) : Prop := o = .returned (some (.int 1)) ∧ Framed s o t [] 56 28789
def lw_Z (below : List Frame) (a : Array Value) (s : State) : State → Prop := fun t => ∃ o, t.status = .running ∧ Ended t below o ∧ lw_Q a s o t
/-- the law's own end, with 1 on the stack, nothing written that was there before, its room as the claim has it -/
theorem lw_ret {p : Program} {l : Launch} {e : Env} {s : State} {m : MethodId} {below : List Frame} {meth : Method} {c : Code} {b : Nat} (hx : p.tables.exec = Jvm.exec) (hb : c.code = code) (hr : meth.sig.returnType = ret) (hlocks : meth.locks = false) {pc : Nat} {H : Heap} {ls : Array Slot} (hdg : decode code pc = .ok (.ireturn, 1)) : W p l e room_1 s m #[Value.ref b] below meth c H [] 56 28789 (lw_Z below #[Value.ref b] s) (F0 m pc ls [.int 1]) := by
  intro T hT X
  obtain ⟨fs, hret, hrun, hended, hW, hframe⟩ := X.leave (v := some (.int 1)) (hlocks := hlocks) (fun h => by rw [hr] at h; cases h)
  have hmeth' : T.vm.method? m = some meth := X.method'
  refine ⟨T.setFrames fs, ?_, .returned (some (.int 1)), hrun, hended, rfl, ⟨_, rfl⟩, hW, hframe⟩
  jvm_step X.here [X.here.top, hx, hb, hdg, hmeth', hr, ret, narrow_b1]
  (try refine ⟨rfl, ?_⟩); (try refine ⟨rfl, ?_⟩)
  first | (intro acts; rw [hret _ acts rfl rfl rfl]) | rw [hret _ _ rfl rfl rfl]
  exact Steps.refl _
/-- what holds at the law's entry: the machine, the code, the tables' words (any of lw_tbl by 'hts w (by decide +kernel)'), the script of L ints xs at the cell b, what the Statement gives of the start (any of its parts by flat_of_before) -/
def lw_At (p : Program) (s : State) (m : MethodId) (meth : Method) (c : Code) (b L : Nat) (xs : Nat → Int32) : Prop :=
  p.tables.exec = Jvm.exec ∧ c.code = code ∧ meth.sig.returnType = ret ∧ c.maxLocals = 4 ∧ s.vm.findClass R_law = some m.cls ∧ (∀ w ∈ lw_tbl, w.before #[Value.ref b] s = true) ∧ va_X b L xs s s.heap ∧ b < s.heap.size ∧ meth.locks = false ∧ (Jvm.Cond.and given_1 narrow_1).before #[Value.ref b] s = true
/-- the law's method, under any name: nothing in its walk asks for the name -/
abbrev M_Lw (nm : String) : aw_M := (⟨"ResultFormsLaw", nm, "([I)Z"⟩, code, maxLocals, ret)
/-- the law's end, where the arguments and the heap are those of the entry -/
def F_law (g : aw_G) : aw_E := fun below args s t => args = #[Value.ref (g.2.2.2.1 9999)] → aw_lo g = s.heap.size → lw_Z below args s t
theorem law_end {nm : String} {g : aw_G} {ls : List (Option Value)} {h : aw_hp} : AW g (M_Lw nm) room_1 (F_law g) 640 ls [.int (nI 1)] h 56 28789 := by
  intro p e s m args below meth c C H locs lsA hw hS hl
  by_cases ha : args = #[Value.ref (g.2.2.2.1 9999)] ∧ aw_lo g = s.heap.size
  · obtain ⟨rfl, hlo⟩ := ha
    have K : W p g.1 e room_1 s m #[Value.ref (g.2.2.2.1 9999)] below meth c H locs 56 28789 (lw_Z below #[Value.ref (g.2.2.2.1 9999)] s) (F0 m 640 lsA [.int 1]) :=
      va_forget (fun q hq => by have := hS.2.2 q hq; show s.heap.size ≤ q.base; rw [← hlo]; exact this) (lw_ret C.1 C.2.1 C.2.2.2.1 C.2.2.2.2.1 (aw_d q_Lw_law 398 rfl))
    intro T hT X
    obtain ⟨t, a1, a2⟩ := K T hT X
    exact ⟨t, a1, fun _ _ => a2⟩
  · intro T hT X
    exact ⟨_, Steps.refl _, fun h1 h2 => absurd ⟨h1, h2⟩ ha⟩
abbrev AWL (nm : String) (g : aw_G) (pc i : Nat) (S : aw_S) : Prop := AW g (M_Lw nm) room_1 (F_law g) pc [some (.retAddr 9999), some (.ref 0), some (.ref 33), some (.int (nI i))] [] (HP S) 56 28789
theorem law_124 {nm : String} {g : aw_G} {i : Nat} {U : U_T} {S : aw_S} (hR : RL U S) (hL : g.2.2.2.2.2.1 ≤ 2048) (hi : i + 4 ≤ g.2.2.2.2.2.1) (kk : ∀ (V : U_T) (T : aw_S), RL V T → AWL nm g 633 i T) : AWL nm g 124 i S := by
  refine aw_aload_n (aw_d q_Lw_law 22 rfl) rfl rfl rfl ?_
  refine aw_aload_n (aw_d q_Lw_law 23 rfl) rfl rfl rfl ?_
  refine aw_iload_n (aw_d q_Lw_law 24 rfl) rfl rfl ?_
  refine aw_iconst (v := nI 1) (aw_d q_Lw_law 25 rfl) (by decide) ?_
  refine aw_iaddN (aw_d q_Lw_law 26 rfl) ?_
  refine aw_sld (aw_d q_Lw_law 27 rfl) (vp_in_nI (by omega) (by omega)) ?_
  refine aw_i2l (aw_d q_Lw_law 28 rfl) ?_
  refine aw_bipush (v := nI 32) (aw_d q_Lw_law 29 rfl) (by decide) ?_
  refine aw_lshl (aw_d q_Lw_law 30 rfl) ?_
  refine aw_aload_n (aw_d q_Lw_law 31 rfl) rfl rfl rfl ?_
  refine aw_iload_n (aw_d q_Lw_law 32 rfl) rfl rfl ?_
  refine aw_iconst (v := nI 2) (aw_d q_Lw_law 33 rfl) (by decide) ?_
  refine aw_iaddN (aw_d q_Lw_law 34 rfl) ?_
  refine aw_sld (aw_d q_Lw_law 35 rfl) (vp_in_nI (by omega) (by omega)) ?_
  refine aw_i2l (aw_d q_Lw_law 36 rfl) ?_
  refine aw_ldc2 (aw_d q_Lw_law 37 rfl) lL_Lw_13 ?_
  refine aw_land (aw_d q_Lw_law 38 rfl) ?_
  refine aw_lor (aw_d q_Lw_law 39 rfl) ?_
  refine aw_aload_n (aw_d q_Lw_law 40 rfl) rfl rfl rfl ?_
  refine aw_iload_n (aw_d q_Lw_law 41 rfl) rfl rfl ?_
  refine aw_iconst (v := nI 3) (aw_d q_Lw_law 42 rfl) (by decide) ?_
  refine aw_iaddN (aw_d q_Lw_law 43 rfl) ?_
  refine aw_sld (aw_d q_Lw_law 44 rfl) (vp_in_nI (by omega) (by omega)) ?_
  refine aw_callV (a := 0) (ci := 9) (vs := [.long ((((g.2.2.2.2.2.2 (nI (i + 1)).toNatClampNeg).toInt64 <<< ((nI 32).toInt64 &&& 63)) ||| ((g.2.2.2.2.2.2 (nI (i + 2)).toNatClampNeg).toInt64 &&& 4294967295))), .int (g.2.2.2.2.2.2 (nI (i + 3)).toNatClampNeg)]) (aw_d q_Lw_law 45 rfl) vL_Lw_15_RF (cL_type hR) rfl rfl rfl (aw_le rfl) ⟨aw_le rfl, aw_le rfl⟩ ⟨aw_le rfl, aw_le rfl⟩ (fun r150 h150 hp150 => ?_)
  obtain ⟨rfl, F150, rfl, k150⟩ := hp150
  refine AW.to (st' := [.int _]) (h' := HP F150) ?_ rfl rfl rfl rfl
  refine aw_aload_n (aw_d q_Lw_law 46 rfl) rfl rfl rfl ?_
  refine aw_aload_n (aw_d q_Lw_law 47 rfl) rfl rfl rfl ?_
  refine aw_iload_n (aw_d q_Lw_law 48 rfl) rfl rfl ?_
  refine aw_iconst (v := nI 1) (aw_d q_Lw_law 49 rfl) (by decide) ?_
  refine aw_iaddN (aw_d q_Lw_law 50 rfl) ?_
  refine aw_sld (aw_d q_Lw_law 51 rfl) (vp_in_nI (by omega) (by omega)) ?_
  refine aw_i2l (aw_d q_Lw_law 52 rfl) ?_
  refine aw_bipush (v := nI 32) (aw_d q_Lw_law 53 rfl) (by decide) ?_
  refine aw_lshl (aw_d q_Lw_law 54 rfl) ?_
  refine aw_aload_n (aw_d q_Lw_law 55 rfl) rfl rfl rfl ?_
  refine aw_iload_n (aw_d q_Lw_law 56 rfl) rfl rfl ?_
  refine aw_iconst (v := nI 2) (aw_d q_Lw_law 57 rfl) (by decide) ?_
  refine aw_iaddN (aw_d q_Lw_law 58 rfl) ?_
  refine aw_sld (aw_d q_Lw_law 59 rfl) (vp_in_nI (by omega) (by omega)) ?_
  refine aw_i2l (aw_d q_Lw_law 60 rfl) ?_
  refine aw_ldc2 (aw_d q_Lw_law 61 rfl) lL_Lw_13 ?_
  refine aw_land (aw_d q_Lw_law 62 rfl) ?_
  refine aw_lor (aw_d q_Lw_law 63 rfl) ?_
  refine aw_aload_n (aw_d q_Lw_law 64 rfl) rfl rfl rfl ?_
  refine aw_iload_n (aw_d q_Lw_law 65 rfl) rfl rfl ?_
  refine aw_iconst (v := nI 3) (aw_d q_Lw_law 66 rfl) (by decide) ?_
  refine aw_iaddN (aw_d q_Lw_law 67 rfl) ?_
  refine aw_sld (aw_d q_Lw_law 68 rfl) (vp_in_nI (by omega) (by omega)) ?_
  refine aw_callV (a := 33) (ci := 10) (vs := [.long ((((g.2.2.2.2.2.2 (nI (i + 1)).toNatClampNeg).toInt64 <<< ((nI 32).toInt64 &&& 63)) ||| ((g.2.2.2.2.2.2 (nI (i + 2)).toNatClampNeg).toInt64 &&& 4294967295))), .int (g.2.2.2.2.2.2 (nI (i + 3)).toNatClampNeg)]) (aw_d q_Lw_law 69 rfl) vL_Lw_19_Mo (mL_type k150) rfl rfl rfl (aw_le rfl) ⟨aw_le rfl, aw_le rfl⟩ ⟨aw_le rfl, aw_le rfl⟩ (fun r179 h179 hp179 => ?_)
  obtain ⟨rfl, F179, rfl, k179⟩ := hp179
  refine AW.to (st' := [.int _, .int _]) (h' := HP F179) ?_ rfl rfl rfl rfl
  exact aw_icmp_eq (tgt := 633) (aw_d q_Lw_law 70 rfl) (by decide) (fun _ => kk _ _ k179) (fun z => absurd rfl z)
theorem law_187 {nm : String} {g : aw_G} {i : Nat} {U : U_T} {S : aw_S} (hR : RL U S) (hL : g.2.2.2.2.2.1 ≤ 2048) (hi : i + 4 ≤ g.2.2.2.2.2.1) (kk : ∀ (V : U_T) (T : aw_S), RL V T → AWL nm g 633 i T) : AWL nm g 187 i S := by
  refine aw_aload_n (aw_d q_Lw_law 73 rfl) rfl rfl rfl ?_
  refine aw_callV (a := 0) (ci := 9) (vs := []) (aw_d q_Lw_law 74 rfl) vL_Lw_20_RF (cL_pass hR) rfl rfl rfl (aw_le rfl) ⟨aw_le rfl, aw_le rfl⟩ ⟨aw_le rfl, aw_le rfl⟩ (fun r188 h188 hp188 => ?_)
  obtain ⟨rfl, F188, rfl, k188⟩ := hp188
  refine AW.to (st' := [.int _]) (h' := HP F188) ?_ rfl rfl rfl rfl
  refine aw_aload_n (aw_d q_Lw_law 75 rfl) rfl rfl rfl ?_
  refine aw_callV (a := 33) (ci := 10) (vs := []) (aw_d q_Lw_law 76 rfl) vL_Lw_24_Mo (mL_pass k188) rfl rfl rfl (aw_le rfl) ⟨aw_le rfl, aw_le rfl⟩ ⟨aw_le rfl, aw_le rfl⟩ (fun r192 h192 hp192 => ?_)
  obtain ⟨rfl, F192, rfl, k192⟩ := hp192
  refine AW.to (st' := [.int _, .int _]) (h' := HP F192) ?_ rfl rfl rfl rfl
  exact aw_icmp_eq (tgt := 633) (aw_d q_Lw_law 77 rfl) (by decide) (fun _ => kk _ _ k192) (fun z => absurd rfl z)
theorem law_200 {nm : String} {g : aw_G} {i : Nat} {U : U_T} {S : aw_S} (hR : RL U S) (hL : g.2.2.2.2.2.1 ≤ 2048) (hi : i + 4 ≤ g.2.2.2.2.2.1) (kk : ∀ (V : U_T) (T : aw_S), RL V T → AWL nm g 633 i T) : AWL nm g 200 i S := by
  refine aw_aload_n (aw_d q_Lw_law 80 rfl) rfl rfl rfl ?_
  refine aw_aload_n (aw_d q_Lw_law 81 rfl) rfl rfl rfl ?_
  refine aw_iload_n (aw_d q_Lw_law 82 rfl) rfl rfl ?_
  refine aw_iconst (v := nI 1) (aw_d q_Lw_law 83 rfl) (by decide) ?_
  refine aw_iaddN (aw_d q_Lw_law 84 rfl) ?_
  refine aw_sld (aw_d q_Lw_law 85 rfl) (vp_in_nI (by omega) (by omega)) ?_
  refine aw_aload_n (aw_d q_Lw_law 86 rfl) rfl rfl rfl ?_
  refine aw_iload_n (aw_d q_Lw_law 87 rfl) rfl rfl ?_
  refine aw_iconst (v := nI 2) (aw_d q_Lw_law 88 rfl) (by decide) ?_
  refine aw_iaddN (aw_d q_Lw_law 89 rfl) ?_
  refine aw_sld (aw_d q_Lw_law 90 rfl) (vp_in_nI (by omega) (by omega)) ?_
  refine aw_callV (a := 0) (ci := 9) (vs := [.int (g.2.2.2.2.2.2 (nI (i + 1)).toNatClampNeg), .int (g.2.2.2.2.2.2 (nI (i + 2)).toNatClampNeg)]) (aw_d q_Lw_law 91 rfl) vL_Lw_25_RF (cL_term hR) rfl rfl rfl (aw_le rfl) ⟨aw_le rfl, aw_le rfl⟩ ⟨aw_le rfl, aw_le rfl⟩ (fun r211 h211 hp211 => ?_)
  obtain ⟨rfl, F211, rfl, k211⟩ := hp211
  refine AW.to (st' := [.int _]) (h' := HP F211) ?_ rfl rfl rfl rfl
  refine aw_aload_n (aw_d q_Lw_law 92 rfl) rfl rfl rfl ?_
  refine aw_aload_n (aw_d q_Lw_law 93 rfl) rfl rfl rfl ?_
  refine aw_iload_n (aw_d q_Lw_law 94 rfl) rfl rfl ?_
  refine aw_iconst (v := nI 1) (aw_d q_Lw_law 95 rfl) (by decide) ?_
  refine aw_iaddN (aw_d q_Lw_law 96 rfl) ?_
  refine aw_sld (aw_d q_Lw_law 97 rfl) (vp_in_nI (by omega) (by omega)) ?_
  refine aw_aload_n (aw_d q_Lw_law 98 rfl) rfl rfl rfl ?_
  refine aw_iload_n (aw_d q_Lw_law 99 rfl) rfl rfl ?_
  refine aw_iconst (v := nI 2) (aw_d q_Lw_law 100 rfl) (by decide) ?_
  refine aw_iaddN (aw_d q_Lw_law 101 rfl) ?_
  refine aw_sld (aw_d q_Lw_law 102 rfl) (vp_in_nI (by omega) (by omega)) ?_
  refine aw_callV (a := 33) (ci := 10) (vs := [.int (g.2.2.2.2.2.2 (nI (i + 1)).toNatClampNeg), .int (g.2.2.2.2.2.2 (nI (i + 2)).toNatClampNeg)]) (aw_d q_Lw_law 103 rfl) vL_Lw_29_Mo (mL_term k211) rfl rfl rfl (aw_le rfl) ⟨aw_le rfl, aw_le rfl⟩ ⟨aw_le rfl, aw_le rfl⟩ (fun r225 h225 hp225 => ?_)
  obtain ⟨rfl, F225, rfl, k225⟩ := hp225
  refine AW.to (st' := [.int _, .int _]) (h' := HP F225) ?_ rfl rfl rfl rfl
  exact aw_icmp_eq (tgt := 633) (aw_d q_Lw_law 104 rfl) (by decide) (fun _ => kk _ _ k225) (fun z => absurd rfl z)
theorem law_233 {nm : String} {g : aw_G} {i : Nat} {U : U_T} {S : aw_S} (hR : RL U S) (hL : g.2.2.2.2.2.1 ≤ 2048) (hi : i + 4 ≤ g.2.2.2.2.2.1) (kk : ∀ (V : U_T) (T : aw_S), RL V T → AWL nm g 633 i T) : AWL nm g 233 i S := by
  refine aw_aload_n (aw_d q_Lw_law 107 rfl) rfl rfl rfl ?_
  refine aw_aload_n (aw_d q_Lw_law 108 rfl) rfl rfl rfl ?_
  refine aw_iload_n (aw_d q_Lw_law 109 rfl) rfl rfl ?_
  refine aw_iconst (v := nI 1) (aw_d q_Lw_law 110 rfl) (by decide) ?_
  refine aw_iaddN (aw_d q_Lw_law 111 rfl) ?_
  refine aw_sld (aw_d q_Lw_law 112 rfl) (vp_in_nI (by omega) (by omega)) ?_
  refine aw_aload_n (aw_d q_Lw_law 113 rfl) rfl rfl rfl ?_
  refine aw_iload_n (aw_d q_Lw_law 114 rfl) rfl rfl ?_
  refine aw_iconst (v := nI 2) (aw_d q_Lw_law 115 rfl) (by decide) ?_
  refine aw_iaddN (aw_d q_Lw_law 116 rfl) ?_
  refine aw_sld (aw_d q_Lw_law 117 rfl) (vp_in_nI (by omega) (by omega)) ?_
  refine aw_callV (a := 0) (ci := 9) (vs := [.int (g.2.2.2.2.2.2 (nI (i + 1)).toNatClampNeg), .int (g.2.2.2.2.2.2 (nI (i + 2)).toNatClampNeg)]) (aw_d q_Lw_law 118 rfl) vL_Lw_30_RF (cL_of hR) rfl rfl rfl (aw_le rfl) ⟨aw_le rfl, aw_le rfl⟩ ⟨aw_le rfl, aw_le rfl⟩ (fun r244 h244 hp244 => ?_)
  obtain ⟨rfl, F244, rfl, k244⟩ := hp244
  refine AW.to (st' := [.int _]) (h' := HP F244) ?_ rfl rfl rfl rfl
  refine aw_aload_n (aw_d q_Lw_law 119 rfl) rfl rfl rfl ?_
  refine aw_aload_n (aw_d q_Lw_law 120 rfl) rfl rfl rfl ?_
  refine aw_iload_n (aw_d q_Lw_law 121 rfl) rfl rfl ?_
  refine aw_iconst (v := nI 1) (aw_d q_Lw_law 122 rfl) (by decide) ?_
  refine aw_iaddN (aw_d q_Lw_law 123 rfl) ?_
  refine aw_sld (aw_d q_Lw_law 124 rfl) (vp_in_nI (by omega) (by omega)) ?_
  refine aw_aload_n (aw_d q_Lw_law 125 rfl) rfl rfl rfl ?_
  refine aw_iload_n (aw_d q_Lw_law 126 rfl) rfl rfl ?_
  refine aw_iconst (v := nI 2) (aw_d q_Lw_law 127 rfl) (by decide) ?_
  refine aw_iaddN (aw_d q_Lw_law 128 rfl) ?_
  refine aw_sld (aw_d q_Lw_law 129 rfl) (vp_in_nI (by omega) (by omega)) ?_
  refine aw_callV (a := 33) (ci := 10) (vs := [.int (g.2.2.2.2.2.2 (nI (i + 1)).toNatClampNeg), .int (g.2.2.2.2.2.2 (nI (i + 2)).toNatClampNeg)]) (aw_d q_Lw_law 130 rfl) vL_Lw_33_Mo (mL_of k244) rfl rfl rfl (aw_le rfl) ⟨aw_le rfl, aw_le rfl⟩ ⟨aw_le rfl, aw_le rfl⟩ (fun r258 h258 hp258 => ?_)
  obtain ⟨rfl, F258, rfl, k258⟩ := hp258
  refine AW.to (st' := [.int _, .int _]) (h' := HP F258) ?_ rfl rfl rfl rfl
  exact aw_icmp_eq (tgt := 633) (aw_d q_Lw_law 131 rfl) (by decide) (fun _ => kk _ _ k258) (fun z => absurd rfl z)
theorem law_266 {nm : String} {g : aw_G} {i : Nat} {U : U_T} {S : aw_S} (hR : RL U S) (hL : g.2.2.2.2.2.1 ≤ 2048) (hi : i + 4 ≤ g.2.2.2.2.2.1) (kk : ∀ (V : U_T) (T : aw_S), RL V T → AWL nm g 633 i T) : AWL nm g 266 i S := by
  refine aw_aload_n (aw_d q_Lw_law 134 rfl) rfl rfl rfl ?_
  refine aw_callV (a := 0) (ci := 9) (vs := []) (aw_d q_Lw_law 135 rfl) vL_Lw_34_RF (cL_var hR) rfl rfl rfl (aw_le rfl) ⟨aw_le rfl, aw_le rfl⟩ ⟨aw_le rfl, aw_le rfl⟩ (fun r267 h267 hp267 => ?_)
  obtain ⟨rfl, F267, rfl, k267⟩ := hp267
  refine AW.to (st' := [.int _]) (h' := HP F267) ?_ rfl rfl rfl rfl
  refine aw_aload_n (aw_d q_Lw_law 136 rfl) rfl rfl rfl ?_
  refine aw_callV (a := 33) (ci := 10) (vs := []) (aw_d q_Lw_law 137 rfl) vL_Lw_37_Mo (mL_var k267) rfl rfl rfl (aw_le rfl) ⟨aw_le rfl, aw_le rfl⟩ ⟨aw_le rfl, aw_le rfl⟩ (fun r271 h271 hp271 => ?_)
  obtain ⟨rfl, F271, rfl, k271⟩ := hp271
  refine AW.to (st' := [.int _, .int _]) (h' := HP F271) ?_ rfl rfl rfl rfl
  exact aw_icmp_eq (tgt := 633) (aw_d q_Lw_law 138 rfl) (by decide) (fun _ => kk _ _ k271) (fun z => absurd rfl z)
theorem law_279 {nm : String} {g : aw_G} {i : Nat} {U : U_T} {S : aw_S} (hR : RL U S) (hL : g.2.2.2.2.2.1 ≤ 2048) (hi : i + 4 ≤ g.2.2.2.2.2.1) (kk : ∀ (V : U_T) (T : aw_S), RL V T → AWL nm g 633 i T) : AWL nm g 279 i S := by
  refine aw_aload_n (aw_d q_Lw_law 141 rfl) rfl rfl rfl ?_
  refine aw_callV (a := 0) (ci := 9) (vs := []) (aw_d q_Lw_law 142 rfl) vL_Lw_38_RF (cL_row hR) rfl rfl rfl (aw_le rfl) ⟨aw_le rfl, aw_le rfl⟩ ⟨aw_le rfl, aw_le rfl⟩ (fun r280 h280 hp280 => ?_)
  obtain ⟨rfl, F280, rfl, k280⟩ := hp280
  refine AW.to (st' := [.int _]) (h' := HP F280) ?_ rfl rfl rfl rfl
  refine aw_aload_n (aw_d q_Lw_law 143 rfl) rfl rfl rfl ?_
  refine aw_callV (a := 33) (ci := 10) (vs := []) (aw_d q_Lw_law 144 rfl) vL_Lw_41_Mo (mL_row k280) rfl rfl rfl (aw_le rfl) ⟨aw_le rfl, aw_le rfl⟩ ⟨aw_le rfl, aw_le rfl⟩ (fun r284 h284 hp284 => ?_)
  obtain ⟨rfl, F284, rfl, k284⟩ := hp284
  refine AW.to (st' := [.int _, .int _]) (h' := HP F284) ?_ rfl rfl rfl rfl
  exact aw_icmp_eq (tgt := 633) (aw_d q_Lw_law 145 rfl) (by decide) (fun _ => kk _ _ k284) (fun z => absurd rfl z)
theorem law_292 {nm : String} {g : aw_G} {i : Nat} {U : U_T} {S : aw_S} (hR : RL U S) (hL : g.2.2.2.2.2.1 ≤ 2048) (hi : i + 4 ≤ g.2.2.2.2.2.1) (kk : ∀ (V : U_T) (T : aw_S), RL V T → AWL nm g 633 i T) : AWL nm g 292 i S := by
  refine aw_aload_n (aw_d q_Lw_law 148 rfl) rfl rfl rfl ?_
  refine aw_aload_n (aw_d q_Lw_law 149 rfl) rfl rfl rfl ?_
  refine aw_iload_n (aw_d q_Lw_law 150 rfl) rfl rfl ?_
  refine aw_iconst (v := nI 1) (aw_d q_Lw_law 151 rfl) (by decide) ?_
  refine aw_iaddN (aw_d q_Lw_law 152 rfl) ?_
  refine aw_sld (aw_d q_Lw_law 153 rfl) (vp_in_nI (by omega) (by omega)) ?_
  refine aw_aload_n (aw_d q_Lw_law 154 rfl) rfl rfl rfl ?_
  refine aw_iload_n (aw_d q_Lw_law 155 rfl) rfl rfl ?_
  refine aw_iconst (v := nI 2) (aw_d q_Lw_law 156 rfl) (by decide) ?_
  refine aw_iaddN (aw_d q_Lw_law 157 rfl) ?_
  refine aw_sld (aw_d q_Lw_law 158 rfl) (vp_in_nI (by omega) (by omega)) ?_
  refine aw_aload_n (aw_d q_Lw_law 159 rfl) rfl rfl rfl ?_
  refine aw_iload_n (aw_d q_Lw_law 160 rfl) rfl rfl ?_
  refine aw_iconst (v := nI 3) (aw_d q_Lw_law 161 rfl) (by decide) ?_
  refine aw_iaddN (aw_d q_Lw_law 162 rfl) ?_
  refine aw_sld (aw_d q_Lw_law 163 rfl) (vp_in_nI (by omega) (by omega)) ?_
  refine aw_callV (a := 0) (ci := 9) (vs := [.int (g.2.2.2.2.2.2 (nI (i + 1)).toNatClampNeg), .int (g.2.2.2.2.2.2 (nI (i + 2)).toNatClampNeg), .int (g.2.2.2.2.2.2 (nI (i + 3)).toNatClampNeg)]) (aw_d q_Lw_law 164 rfl) vL_Lw_42_RF (cL_put hR) rfl rfl rfl (aw_le rfl) ⟨aw_le rfl, aw_le rfl⟩ ⟨aw_le rfl, aw_le rfl⟩ (fun r308 h308 hp308 => ?_)
  obtain ⟨rfl, F308, rfl, k308⟩ := hp308
  refine AW.to (st' := [.int _]) (h' := HP F308) ?_ rfl rfl rfl rfl
  refine aw_aload_n (aw_d q_Lw_law 165 rfl) rfl rfl rfl ?_
  refine aw_aload_n (aw_d q_Lw_law 166 rfl) rfl rfl rfl ?_
  refine aw_iload_n (aw_d q_Lw_law 167 rfl) rfl rfl ?_
  refine aw_iconst (v := nI 1) (aw_d q_Lw_law 168 rfl) (by decide) ?_
  refine aw_iaddN (aw_d q_Lw_law 169 rfl) ?_
  refine aw_sld (aw_d q_Lw_law 170 rfl) (vp_in_nI (by omega) (by omega)) ?_
  refine aw_aload_n (aw_d q_Lw_law 171 rfl) rfl rfl rfl ?_
  refine aw_iload_n (aw_d q_Lw_law 172 rfl) rfl rfl ?_
  refine aw_iconst (v := nI 2) (aw_d q_Lw_law 173 rfl) (by decide) ?_
  refine aw_iaddN (aw_d q_Lw_law 174 rfl) ?_
  refine aw_sld (aw_d q_Lw_law 175 rfl) (vp_in_nI (by omega) (by omega)) ?_
  refine aw_aload_n (aw_d q_Lw_law 176 rfl) rfl rfl rfl ?_
  refine aw_iload_n (aw_d q_Lw_law 177 rfl) rfl rfl ?_
  refine aw_iconst (v := nI 3) (aw_d q_Lw_law 178 rfl) (by decide) ?_
  refine aw_iaddN (aw_d q_Lw_law 179 rfl) ?_
  refine aw_sld (aw_d q_Lw_law 180 rfl) (vp_in_nI (by omega) (by omega)) ?_
  refine aw_callV (a := 33) (ci := 10) (vs := [.int (g.2.2.2.2.2.2 (nI (i + 1)).toNatClampNeg), .int (g.2.2.2.2.2.2 (nI (i + 2)).toNatClampNeg), .int (g.2.2.2.2.2.2 (nI (i + 3)).toNatClampNeg)]) (aw_d q_Lw_law 181 rfl) vL_Lw_46_Mo (mL_put k308) rfl rfl rfl (aw_le rfl) ⟨aw_le rfl, aw_le rfl⟩ ⟨aw_le rfl, aw_le rfl⟩ (fun r327 h327 hp327 => ?_)
  obtain ⟨rfl, F327, rfl, k327⟩ := hp327
  refine AW.to (st' := [.int _, .int _]) (h' := HP F327) ?_ rfl rfl rfl rfl
  exact aw_icmp_eq (tgt := 633) (aw_d q_Lw_law 182 rfl) (by decide) (fun _ => kk _ _ k327) (fun z => absurd rfl z)
theorem law_335 {nm : String} {g : aw_G} {i : Nat} {U : U_T} {S : aw_S} (hR : RL U S) (hL : g.2.2.2.2.2.1 ≤ 2048) (hi : i + 4 ≤ g.2.2.2.2.2.1) (kk : ∀ (V : U_T) (T : aw_S), RL V T → AWL nm g 633 i T) : AWL nm g 335 i S := by
  refine aw_aload_n (aw_d q_Lw_law 185 rfl) rfl rfl rfl ?_
  refine aw_callV (a := 0) (ci := 9) (vs := []) (aw_d q_Lw_law 186 rfl) vL_Lw_47_RF (cL_clear hR) rfl rfl rfl (aw_le rfl) ⟨aw_le rfl, aw_le rfl⟩ ⟨aw_le rfl, aw_le rfl⟩ (fun r336 h336 hp336 => ?_)
  obtain ⟨rfl, F336, rfl, k336⟩ := hp336
  refine AW.to (st' := [.int _]) (h' := HP F336) ?_ rfl rfl rfl rfl
  refine aw_aload_n (aw_d q_Lw_law 187 rfl) rfl rfl rfl ?_
  refine aw_callV (a := 33) (ci := 10) (vs := []) (aw_d q_Lw_law 188 rfl) vL_Lw_50_Mo (mL_clear k336) rfl rfl rfl (aw_le rfl) ⟨aw_le rfl, aw_le rfl⟩ ⟨aw_le rfl, aw_le rfl⟩ (fun r340 h340 hp340 => ?_)
  obtain ⟨rfl, F340, rfl, k340⟩ := hp340
  refine AW.to (st' := [.int _, .int _]) (h' := HP F340) ?_ rfl rfl rfl rfl
  exact aw_icmp_eq (tgt := 633) (aw_d q_Lw_law 189 rfl) (by decide) (fun _ => kk _ _ k340) (fun z => absurd rfl z)
theorem law_348 {nm : String} {g : aw_G} {i : Nat} {U : U_T} {S : aw_S} (hR : RL U S) (hL : g.2.2.2.2.2.1 ≤ 2048) (hi : i + 4 ≤ g.2.2.2.2.2.1) (kk : ∀ (V : U_T) (T : aw_S), RL V T → AWL nm g 633 i T) : AWL nm g 348 i S := by
  refine aw_aload_n (aw_d q_Lw_law 192 rfl) rfl rfl rfl ?_
  refine aw_aload_n (aw_d q_Lw_law 193 rfl) rfl rfl rfl ?_
  refine aw_iload_n (aw_d q_Lw_law 194 rfl) rfl rfl ?_
  refine aw_iconst (v := nI 1) (aw_d q_Lw_law 195 rfl) (by decide) ?_
  refine aw_iaddN (aw_d q_Lw_law 196 rfl) ?_
  refine aw_sld (aw_d q_Lw_law 197 rfl) (vp_in_nI (by omega) (by omega)) ?_
  refine aw_aload_n (aw_d q_Lw_law 198 rfl) rfl rfl rfl ?_
  refine aw_iload_n (aw_d q_Lw_law 199 rfl) rfl rfl ?_
  refine aw_iconst (v := nI 2) (aw_d q_Lw_law 200 rfl) (by decide) ?_
  refine aw_iaddN (aw_d q_Lw_law 201 rfl) ?_
  refine aw_sld (aw_d q_Lw_law 202 rfl) (vp_in_nI (by omega) (by omega)) ?_
  refine aw_callV (a := 0) (ci := 9) (vs := [.int (g.2.2.2.2.2.2 (nI (i + 1)).toNatClampNeg), .int (g.2.2.2.2.2.2 (nI (i + 2)).toNatClampNeg)]) (aw_d q_Lw_law 203 rfl) vL_Lw_51_RF (cL_value hR) rfl rfl rfl (aw_le rfl) ⟨aw_le rfl, aw_le rfl⟩ ⟨aw_le rfl, aw_le rfl⟩ (fun r359 h359 hp359 => ?_)
  obtain ⟨rfl, F359, rfl, k359⟩ := hp359
  refine AW.to (st' := [.int _]) (h' := HP F359) ?_ rfl rfl rfl rfl
  refine aw_aload_n (aw_d q_Lw_law 204 rfl) rfl rfl rfl ?_
  refine aw_aload_n (aw_d q_Lw_law 205 rfl) rfl rfl rfl ?_
  refine aw_iload_n (aw_d q_Lw_law 206 rfl) rfl rfl ?_
  refine aw_iconst (v := nI 1) (aw_d q_Lw_law 207 rfl) (by decide) ?_
  refine aw_iaddN (aw_d q_Lw_law 208 rfl) ?_
  refine aw_sld (aw_d q_Lw_law 209 rfl) (vp_in_nI (by omega) (by omega)) ?_
  refine aw_aload_n (aw_d q_Lw_law 210 rfl) rfl rfl rfl ?_
  refine aw_iload_n (aw_d q_Lw_law 211 rfl) rfl rfl ?_
  refine aw_iconst (v := nI 2) (aw_d q_Lw_law 212 rfl) (by decide) ?_
  refine aw_iaddN (aw_d q_Lw_law 213 rfl) ?_
  refine aw_sld (aw_d q_Lw_law 214 rfl) (vp_in_nI (by omega) (by omega)) ?_
  refine aw_callV (a := 33) (ci := 10) (vs := [.int (g.2.2.2.2.2.2 (nI (i + 1)).toNatClampNeg), .int (g.2.2.2.2.2.2 (nI (i + 2)).toNatClampNeg)]) (aw_d q_Lw_law 215 rfl) vL_Lw_54_Mo (mL_value k359) rfl rfl rfl (aw_le rfl) ⟨aw_le rfl, aw_le rfl⟩ ⟨aw_le rfl, aw_le rfl⟩ (fun r373 h373 hp373 => ?_)
  obtain ⟨rfl, F373, rfl, k373⟩ := hp373
  refine AW.to (st' := [.int _, .int _]) (h' := HP F373) ?_ rfl rfl rfl rfl
  exact aw_icmp_eq (tgt := 633) (aw_d q_Lw_law 216 rfl) (by decide) (fun _ => kk _ _ k373) (fun z => absurd rfl z)
theorem law_381 {nm : String} {g : aw_G} {i : Nat} {U : U_T} {S : aw_S} (hR : RL U S) (hL : g.2.2.2.2.2.1 ≤ 2048) (hi : i + 4 ≤ g.2.2.2.2.2.1) (kk : ∀ (V : U_T) (T : aw_S), RL V T → AWL nm g 633 i T) : AWL nm g 381 i S := by
  refine aw_aload_n (aw_d q_Lw_law 219 rfl) rfl rfl rfl ?_
  refine aw_aload_n (aw_d q_Lw_law 220 rfl) rfl rfl rfl ?_
  refine aw_iload_n (aw_d q_Lw_law 221 rfl) rfl rfl ?_
  refine aw_iconst (v := nI 1) (aw_d q_Lw_law 222 rfl) (by decide) ?_
  refine aw_iaddN (aw_d q_Lw_law 223 rfl) ?_
  refine aw_sld (aw_d q_Lw_law 224 rfl) (vp_in_nI (by omega) (by omega)) ?_
  refine aw_callV (a := 0) (ci := 9) (vs := [.int (g.2.2.2.2.2.2 (nI (i + 1)).toNatClampNeg)]) (aw_d q_Lw_law 225 rfl) vL_Lw_55_RF (cL_write hR) rfl rfl rfl (aw_le rfl) ⟨aw_le rfl, aw_le rfl⟩ ⟨aw_le rfl, aw_le rfl⟩ (fun r387 h387 hp387 => ?_)
  obtain ⟨rfl, F387, rfl, k387⟩ := hp387
  refine AW.to (st' := [.int _]) (h' := HP F387) ?_ rfl rfl rfl rfl
  refine aw_aload_n (aw_d q_Lw_law 226 rfl) rfl rfl rfl ?_
  refine aw_aload_n (aw_d q_Lw_law 227 rfl) rfl rfl rfl ?_
  refine aw_iload_n (aw_d q_Lw_law 228 rfl) rfl rfl ?_
  refine aw_iconst (v := nI 1) (aw_d q_Lw_law 229 rfl) (by decide) ?_
  refine aw_iaddN (aw_d q_Lw_law 230 rfl) ?_
  refine aw_sld (aw_d q_Lw_law 231 rfl) (vp_in_nI (by omega) (by omega)) ?_
  refine aw_callV (a := 33) (ci := 10) (vs := [.int (g.2.2.2.2.2.2 (nI (i + 1)).toNatClampNeg)]) (aw_d q_Lw_law 232 rfl) vL_Lw_59_Mo (mL_write k387) rfl rfl rfl (aw_le rfl) ⟨aw_le rfl, aw_le rfl⟩ ⟨aw_le rfl, aw_le rfl⟩ (fun r396 h396 hp396 => ?_)
  obtain ⟨rfl, F396, rfl, k396⟩ := hp396
  refine AW.to (st' := [.int _, .int _]) (h' := HP F396) ?_ rfl rfl rfl rfl
  exact aw_icmp_eq (tgt := 633) (aw_d q_Lw_law 233 rfl) (by decide) (fun _ => kk _ _ k396) (fun z => absurd rfl z)
theorem law_404 {nm : String} {g : aw_G} {i : Nat} {U : U_T} {S : aw_S} (hR : RL U S) (hL : g.2.2.2.2.2.1 ≤ 2048) (hi : i + 4 ≤ g.2.2.2.2.2.1) (kk : ∀ (V : U_T) (T : aw_S), RL V T → AWL nm g 633 i T) : AWL nm g 404 i S := by
  refine aw_aload_n (aw_d q_Lw_law 236 rfl) rfl rfl rfl ?_
  refine aw_aload_n (aw_d q_Lw_law 237 rfl) rfl rfl rfl ?_
  refine aw_iload_n (aw_d q_Lw_law 238 rfl) rfl rfl ?_
  refine aw_iconst (v := nI 1) (aw_d q_Lw_law 239 rfl) (by decide) ?_
  refine aw_iaddN (aw_d q_Lw_law 240 rfl) ?_
  refine aw_sld (aw_d q_Lw_law 241 rfl) (vp_in_nI (by omega) (by omega)) ?_
  refine aw_aload_n (aw_d q_Lw_law 242 rfl) rfl rfl rfl ?_
  refine aw_iload_n (aw_d q_Lw_law 243 rfl) rfl rfl ?_
  refine aw_iconst (v := nI 2) (aw_d q_Lw_law 244 rfl) (by decide) ?_
  refine aw_iaddN (aw_d q_Lw_law 245 rfl) ?_
  refine aw_sld (aw_d q_Lw_law 246 rfl) (vp_in_nI (by omega) (by omega)) ?_
  refine aw_if_eq (tgt := 422) (aw_d q_Lw_law 247 rfl) (by decide) (fun z415 => ?_) (fun z415 => ?_)
  ·
    refine aw_iconst (v := nI 0) (aw_d q_Lw_law 250 rfl) (by decide) ?_
    refine aw_callV (a := 0) (ci := 9) (vs := [.int (g.2.2.2.2.2.2 (nI (i + 1)).toNatClampNeg), .int (nI 0)]) (aw_d q_Lw_law 251 rfl) vL_Lw_60_RF (cL_say0 hR) rfl rfl rfl (aw_le rfl) ⟨aw_le rfl, aw_le rfl⟩ ⟨aw_le rfl, aw_le rfl⟩ (fun r423 h423 hp423 => ?_)
    obtain ⟨rfl, F423, rfl, k423⟩ := hp423
    refine AW.to (st' := [.int _]) (h' := HP F423) ?_ rfl rfl rfl rfl
    refine aw_aload_n (aw_d q_Lw_law 252 rfl) rfl rfl rfl ?_
    refine aw_aload_n (aw_d q_Lw_law 253 rfl) rfl rfl rfl ?_
    refine aw_iload_n (aw_d q_Lw_law 254 rfl) rfl rfl ?_
    refine aw_iconst (v := nI 1) (aw_d q_Lw_law 255 rfl) (by decide) ?_
    refine aw_iaddN (aw_d q_Lw_law 256 rfl) ?_
    refine aw_sld (aw_d q_Lw_law 257 rfl) (vp_in_nI (by omega) (by omega)) ?_
    refine aw_aload_n (aw_d q_Lw_law 258 rfl) rfl rfl rfl ?_
    refine aw_iload_n (aw_d q_Lw_law 259 rfl) rfl rfl ?_
    refine aw_iconst (v := nI 2) (aw_d q_Lw_law 260 rfl) (by decide) ?_
    refine aw_iaddN (aw_d q_Lw_law 261 rfl) ?_
    refine aw_sld (aw_d q_Lw_law 262 rfl) (vp_in_nI (by omega) (by omega)) ?_
    refine aw_if_eq (tgt := 444) (aw_d q_Lw_law 263 rfl) (by decide) (fun _ => ?_) (fun z437 => absurd z415 z437)
    refine aw_iconst (v := nI 0) (aw_d q_Lw_law 266 rfl) (by decide) ?_
    refine aw_callV (a := 33) (ci := 10) (vs := [.int (g.2.2.2.2.2.2 (nI (i + 1)).toNatClampNeg), .int (nI 0)]) (aw_d q_Lw_law 267 rfl) vL_Lw_64_Mo (mL_say0 k423) rfl rfl rfl (aw_le rfl) ⟨aw_le rfl, aw_le rfl⟩ ⟨aw_le rfl, aw_le rfl⟩ (fun r445 h445 hp445 => ?_)
    obtain ⟨rfl, F445, rfl, k445⟩ := hp445
    refine AW.to (st' := [.int _, .int _]) (h' := HP F445) ?_ rfl rfl rfl rfl
    exact aw_icmp_eq (tgt := 633) (aw_d q_Lw_law 268 rfl) (by decide) (fun _ => kk _ _ k445) (fun z => absurd rfl z)
  ·
    refine aw_iconst (v := nI 1) (aw_d q_Lw_law 248 rfl) (by decide) ?_
    refine aw_goto (tgt := 423) (aw_d q_Lw_law 249 rfl) (by decide) ?_
    refine aw_callV (a := 0) (ci := 9) (vs := [.int (g.2.2.2.2.2.2 (nI (i + 1)).toNatClampNeg), .int (nI 1)]) (aw_d q_Lw_law 251 rfl) vL_Lw_60_RF (cL_say1 hR) rfl rfl rfl (aw_le rfl) ⟨aw_le rfl, aw_le rfl⟩ ⟨aw_le rfl, aw_le rfl⟩ (fun r423 h423 hp423 => ?_)
    obtain ⟨rfl, F423, rfl, k423⟩ := hp423
    refine AW.to (st' := [.int _]) (h' := HP F423) ?_ rfl rfl rfl rfl
    refine aw_aload_n (aw_d q_Lw_law 252 rfl) rfl rfl rfl ?_
    refine aw_aload_n (aw_d q_Lw_law 253 rfl) rfl rfl rfl ?_
    refine aw_iload_n (aw_d q_Lw_law 254 rfl) rfl rfl ?_
    refine aw_iconst (v := nI 1) (aw_d q_Lw_law 255 rfl) (by decide) ?_
    refine aw_iaddN (aw_d q_Lw_law 256 rfl) ?_
    refine aw_sld (aw_d q_Lw_law 257 rfl) (vp_in_nI (by omega) (by omega)) ?_
    refine aw_aload_n (aw_d q_Lw_law 258 rfl) rfl rfl rfl ?_
    refine aw_iload_n (aw_d q_Lw_law 259 rfl) rfl rfl ?_
    refine aw_iconst (v := nI 2) (aw_d q_Lw_law 260 rfl) (by decide) ?_
    refine aw_iaddN (aw_d q_Lw_law 261 rfl) ?_
    refine aw_sld (aw_d q_Lw_law 262 rfl) (vp_in_nI (by omega) (by omega)) ?_
    refine aw_if_eq (tgt := 444) (aw_d q_Lw_law 263 rfl) (by decide) (fun z437 => absurd z437 z415) (fun _ => ?_)
    refine aw_iconst (v := nI 1) (aw_d q_Lw_law 264 rfl) (by decide) ?_
    refine aw_goto (tgt := 445) (aw_d q_Lw_law 265 rfl) (by decide) ?_
    refine aw_callV (a := 33) (ci := 10) (vs := [.int (g.2.2.2.2.2.2 (nI (i + 1)).toNatClampNeg), .int (nI 1)]) (aw_d q_Lw_law 267 rfl) vL_Lw_64_Mo (mL_say1 k423) rfl rfl rfl (aw_le rfl) ⟨aw_le rfl, aw_le rfl⟩ ⟨aw_le rfl, aw_le rfl⟩ (fun r445 h445 hp445 => ?_)
    obtain ⟨rfl, F445, rfl, k445⟩ := hp445
    refine AW.to (st' := [.int _, .int _]) (h' := HP F445) ?_ rfl rfl rfl rfl
    exact aw_icmp_eq (tgt := 633) (aw_d q_Lw_law 268 rfl) (by decide) (fun _ => kk _ _ k445) (fun z => absurd rfl z)
theorem law_453 {nm : String} {g : aw_G} {i : Nat} {U : U_T} {S : aw_S} (hR : RL U S) (hL : g.2.2.2.2.2.1 ≤ 2048) (hi : i + 4 ≤ g.2.2.2.2.2.1) (kk : ∀ (V : U_T) (T : aw_S), RL V T → AWL nm g 633 i T) : AWL nm g 453 i S := by
  refine aw_aload_n (aw_d q_Lw_law 271 rfl) rfl rfl rfl ?_
  refine aw_aload_n (aw_d q_Lw_law 272 rfl) rfl rfl rfl ?_
  refine aw_iload_n (aw_d q_Lw_law 273 rfl) rfl rfl ?_
  refine aw_iconst (v := nI 1) (aw_d q_Lw_law 274 rfl) (by decide) ?_
  refine aw_iaddN (aw_d q_Lw_law 275 rfl) ?_
  refine aw_sld (aw_d q_Lw_law 276 rfl) (vp_in_nI (by omega) (by omega)) ?_
  refine aw_callV (a := 0) (ci := 9) (vs := [.int (g.2.2.2.2.2.2 (nI (i + 1)).toNatClampNeg)]) (aw_d q_Lw_law 277 rfl) vL_Lw_65_RF (cL_at hR) rfl rfl rfl (aw_le rfl) ⟨aw_le rfl, aw_le rfl⟩ ⟨aw_le rfl, aw_le rfl⟩ (fun r459 h459 hp459 => ?_)
  obtain ⟨rfl, F459, rfl, k459⟩ := hp459
  refine AW.to (st' := [.int _]) (h' := HP F459) ?_ rfl rfl rfl rfl
  refine aw_aload_n (aw_d q_Lw_law 278 rfl) rfl rfl rfl ?_
  refine aw_aload_n (aw_d q_Lw_law 279 rfl) rfl rfl rfl ?_
  refine aw_iload_n (aw_d q_Lw_law 280 rfl) rfl rfl ?_
  refine aw_iconst (v := nI 1) (aw_d q_Lw_law 281 rfl) (by decide) ?_
  refine aw_iaddN (aw_d q_Lw_law 282 rfl) ?_
  refine aw_sld (aw_d q_Lw_law 283 rfl) (vp_in_nI (by omega) (by omega)) ?_
  refine aw_callV (a := 33) (ci := 10) (vs := [.int (g.2.2.2.2.2.2 (nI (i + 1)).toNatClampNeg)]) (aw_d q_Lw_law 284 rfl) vL_Lw_68_Mo (mL_at k459) rfl rfl rfl (aw_le rfl) ⟨aw_le rfl, aw_le rfl⟩ ⟨aw_le rfl, aw_le rfl⟩ (fun r468 h468 hp468 => ?_)
  obtain ⟨rfl, F468, rfl, k468⟩ := hp468
  refine AW.to (st' := [.int _, .int _]) (h' := HP F468) ?_ rfl rfl rfl rfl
  exact aw_icmp_eq (tgt := 633) (aw_d q_Lw_law 285 rfl) (by decide) (fun _ => kk _ _ k468) (fun z => absurd rfl z)
theorem law_476 {nm : String} {g : aw_G} {i : Nat} {U : U_T} {S : aw_S} (hR : RL U S) (hL : g.2.2.2.2.2.1 ≤ 2048) (hi : i + 4 ≤ g.2.2.2.2.2.1) (kk : ∀ (V : U_T) (T : aw_S), RL V T → AWL nm g 633 i T) : AWL nm g 476 i S := by
  refine aw_aload_n (aw_d q_Lw_law 288 rfl) rfl rfl rfl ?_
  refine aw_aload_n (aw_d q_Lw_law 289 rfl) rfl rfl rfl ?_
  refine aw_iload_n (aw_d q_Lw_law 290 rfl) rfl rfl ?_
  refine aw_iconst (v := nI 1) (aw_d q_Lw_law 291 rfl) (by decide) ?_
  refine aw_iaddN (aw_d q_Lw_law 292 rfl) ?_
  refine aw_sld (aw_d q_Lw_law 293 rfl) (vp_in_nI (by omega) (by omega)) ?_
  refine aw_callV (a := 0) (ci := 9) (vs := [.int (g.2.2.2.2.2.2 (nI (i + 1)).toNatClampNeg)]) (aw_d q_Lw_law 294 rfl) vL_Lw_69_RF (cL_read hR) rfl rfl rfl (aw_le rfl) ⟨aw_le rfl, aw_le rfl⟩ ⟨aw_le rfl, aw_le rfl⟩ (fun r482 h482 hp482 => ?_)
  obtain ⟨rfl, F482, rfl, k482⟩ := hp482
  refine AW.to (st' := [.int _]) (h' := HP F482) ?_ rfl rfl rfl rfl
  refine aw_aload_n (aw_d q_Lw_law 295 rfl) rfl rfl rfl ?_
  refine aw_aload_n (aw_d q_Lw_law 296 rfl) rfl rfl rfl ?_
  refine aw_iload_n (aw_d q_Lw_law 297 rfl) rfl rfl ?_
  refine aw_iconst (v := nI 1) (aw_d q_Lw_law 298 rfl) (by decide) ?_
  refine aw_iaddN (aw_d q_Lw_law 299 rfl) ?_
  refine aw_sld (aw_d q_Lw_law 300 rfl) (vp_in_nI (by omega) (by omega)) ?_
  refine aw_callV (a := 33) (ci := 10) (vs := [.int (g.2.2.2.2.2.2 (nI (i + 1)).toNatClampNeg)]) (aw_d q_Lw_law 301 rfl) vL_Lw_72_Mo (mL_read k482) rfl rfl rfl (aw_le rfl) ⟨aw_le rfl, aw_le rfl⟩ ⟨aw_le rfl, aw_le rfl⟩ (fun r491 h491 hp491 => ?_)
  obtain ⟨rfl, F491, rfl, k491⟩ := hp491
  refine AW.to (st' := [.int _, .int _]) (h' := HP F491) ?_ rfl rfl rfl rfl
  exact aw_icmp_eq (tgt := 633) (aw_d q_Lw_law 302 rfl) (by decide) (fun _ => kk _ _ k491) (fun z => absurd rfl z)
theorem law_499 {nm : String} {g : aw_G} {i : Nat} {U : U_T} {S : aw_S} (hR : RL U S) (hL : g.2.2.2.2.2.1 ≤ 2048) (hi : i + 4 ≤ g.2.2.2.2.2.1) (kk : ∀ (V : U_T) (T : aw_S), RL V T → AWL nm g 633 i T) : AWL nm g 499 i S := by
  refine aw_aload_n (aw_d q_Lw_law 305 rfl) rfl rfl rfl ?_
  refine aw_aload_n (aw_d q_Lw_law 306 rfl) rfl rfl rfl ?_
  refine aw_iload_n (aw_d q_Lw_law 307 rfl) rfl rfl ?_
  refine aw_iconst (v := nI 1) (aw_d q_Lw_law 308 rfl) (by decide) ?_
  refine aw_iaddN (aw_d q_Lw_law 309 rfl) ?_
  refine aw_sld (aw_d q_Lw_law 310 rfl) (vp_in_nI (by omega) (by omega)) ?_
  refine aw_callV (a := 0) (ci := 9) (vs := [.int (g.2.2.2.2.2.2 (nI (i + 1)).toNatClampNeg)]) (aw_d q_Lw_law 311 rfl) vL_Lw_73_RF (cL_hear hR) rfl rfl rfl (aw_le rfl) ⟨aw_le rfl, aw_le rfl⟩ ⟨aw_le rfl, aw_le rfl⟩ (fun r505 h505 hp505 => ?_)
  obtain ⟨rfl, F505, rfl, k505⟩ := hp505
  refine AW.to (st' := [.int _]) (h' := HP F505) ?_ rfl rfl rfl rfl
  refine aw_aload_n (aw_d q_Lw_law 312 rfl) rfl rfl rfl ?_
  refine aw_aload_n (aw_d q_Lw_law 313 rfl) rfl rfl rfl ?_
  refine aw_iload_n (aw_d q_Lw_law 314 rfl) rfl rfl ?_
  refine aw_iconst (v := nI 1) (aw_d q_Lw_law 315 rfl) (by decide) ?_
  refine aw_iaddN (aw_d q_Lw_law 316 rfl) ?_
  refine aw_sld (aw_d q_Lw_law 317 rfl) (vp_in_nI (by omega) (by omega)) ?_
  refine aw_callV (a := 33) (ci := 10) (vs := [.int (g.2.2.2.2.2.2 (nI (i + 1)).toNatClampNeg)]) (aw_d q_Lw_law 318 rfl) vL_Lw_76_Mo (mL_hear k505) rfl rfl rfl (aw_le rfl) ⟨aw_le rfl, aw_le rfl⟩ ⟨aw_le rfl, aw_le rfl⟩ (fun r514 h514 hp514 => ?_)
  obtain ⟨rfl, F514, rfl, k514⟩ := hp514
  refine AW.to (st' := [.int _, .int _]) (h' := HP F514) ?_ rfl rfl rfl rfl
  exact aw_icmp_eq (tgt := 633) (aw_d q_Lw_law 319 rfl) (by decide) (fun _ => kk _ _ k514) (fun z => absurd rfl z)
theorem law_522 {nm : String} {g : aw_G} {i : Nat} {U : U_T} {S : aw_S} (hR : RL U S) (hL : g.2.2.2.2.2.1 ≤ 2048) (hi : i + 4 ≤ g.2.2.2.2.2.1) (kk : ∀ (V : U_T) (T : aw_S), RL V T → AWL nm g 633 i T) : AWL nm g 522 i S := by
  refine aw_aload_n (aw_d q_Lw_law 322 rfl) rfl rfl rfl ?_
  refine aw_callV (a := 0) (ci := 9) (vs := []) (aw_d q_Lw_law 323 rfl) vL_Lw_77_RF (cL_keep hR) rfl rfl rfl (aw_le rfl) ⟨aw_le rfl, aw_le rfl⟩ ⟨aw_le rfl, aw_le rfl⟩ (fun r523 h523 hp523 => ?_)
  obtain ⟨rfl, F523, rfl, k523⟩ := hp523
  refine AW.to (st' := [.int _]) (h' := HP F523) ?_ rfl rfl rfl rfl
  refine aw_aload_n (aw_d q_Lw_law 324 rfl) rfl rfl rfl ?_
  refine aw_callV (a := 33) (ci := 10) (vs := []) (aw_d q_Lw_law 325 rfl) vL_Lw_80_Mo (mL_keep k523) rfl rfl rfl (aw_le rfl) ⟨aw_le rfl, aw_le rfl⟩ ⟨aw_le rfl, aw_le rfl⟩ (fun r527 h527 hp527 => ?_)
  obtain ⟨rfl, F527, rfl, k527⟩ := hp527
  refine AW.to (st' := [.int _, .int _]) (h' := HP F527) ?_ rfl rfl rfl rfl
  exact aw_icmp_eq (tgt := 633) (aw_d q_Lw_law 326 rfl) (by decide) (fun _ => kk _ _ k527) (fun z => absurd rfl z)
theorem law_535 {nm : String} {g : aw_G} {i : Nat} {U : U_T} {S : aw_S} (hR : RL U S) (hL : g.2.2.2.2.2.1 ≤ 2048) (hi : i + 4 ≤ g.2.2.2.2.2.1) (kk : ∀ (V : U_T) (T : aw_S), RL V T → AWL nm g 633 i T) : AWL nm g 535 i S := by
  refine aw_aload_n (aw_d q_Lw_law 329 rfl) rfl rfl rfl ?_
  refine aw_aload_n (aw_d q_Lw_law 330 rfl) rfl rfl rfl ?_
  refine aw_iload_n (aw_d q_Lw_law 331 rfl) rfl rfl ?_
  refine aw_iconst (v := nI 1) (aw_d q_Lw_law 332 rfl) (by decide) ?_
  refine aw_iaddN (aw_d q_Lw_law 333 rfl) ?_
  refine aw_sld (aw_d q_Lw_law 334 rfl) (vp_in_nI (by omega) (by omega)) ?_
  refine aw_if_eq (tgt := 548) (aw_d q_Lw_law 335 rfl) (by decide) (fun z541 => ?_) (fun z541 => ?_)
  ·
    refine aw_iconst (v := nI 0) (aw_d q_Lw_law 338 rfl) (by decide) ?_
    refine aw_callV (a := 0) (ci := 9) (vs := [.int (nI 0)]) (aw_d q_Lw_law 339 rfl) vL_Lw_81_RF (cL_same0 hR) rfl rfl rfl (aw_le rfl) ⟨aw_le rfl, aw_le rfl⟩ ⟨aw_le rfl, aw_le rfl⟩ (fun r549 h549 hp549 => ?_)
    obtain ⟨rfl, F549, rfl, k549⟩ := hp549
    refine AW.to (st' := [.int _]) (h' := HP F549) ?_ rfl rfl rfl rfl
    refine aw_aload_n (aw_d q_Lw_law 340 rfl) rfl rfl rfl ?_
    refine aw_aload_n (aw_d q_Lw_law 341 rfl) rfl rfl rfl ?_
    refine aw_iload_n (aw_d q_Lw_law 342 rfl) rfl rfl ?_
    refine aw_iconst (v := nI 1) (aw_d q_Lw_law 343 rfl) (by decide) ?_
    refine aw_iaddN (aw_d q_Lw_law 344 rfl) ?_
    refine aw_sld (aw_d q_Lw_law 345 rfl) (vp_in_nI (by omega) (by omega)) ?_
    refine aw_if_eq (tgt := 565) (aw_d q_Lw_law 346 rfl) (by decide) (fun _ => ?_) (fun z558 => absurd z541 z558)
    refine aw_iconst (v := nI 0) (aw_d q_Lw_law 349 rfl) (by decide) ?_
    refine aw_callV (a := 33) (ci := 10) (vs := [.int (nI 0)]) (aw_d q_Lw_law 350 rfl) vL_Lw_85_Mo (mL_same0 k549) rfl rfl rfl (aw_le rfl) ⟨aw_le rfl, aw_le rfl⟩ ⟨aw_le rfl, aw_le rfl⟩ (fun r566 h566 hp566 => ?_)
    obtain ⟨rfl, F566, rfl, k566⟩ := hp566
    refine AW.to (st' := [.int _, .int _]) (h' := HP F566) ?_ rfl rfl rfl rfl
    exact aw_icmp_eq (tgt := 633) (aw_d q_Lw_law 351 rfl) (by decide) (fun _ => kk _ _ k566) (fun z => absurd rfl z)
  ·
    refine aw_iconst (v := nI 1) (aw_d q_Lw_law 336 rfl) (by decide) ?_
    refine aw_goto (tgt := 549) (aw_d q_Lw_law 337 rfl) (by decide) ?_
    refine aw_callV (a := 0) (ci := 9) (vs := [.int (nI 1)]) (aw_d q_Lw_law 339 rfl) vL_Lw_81_RF (cL_same1 hR) rfl rfl rfl (aw_le rfl) ⟨aw_le rfl, aw_le rfl⟩ ⟨aw_le rfl, aw_le rfl⟩ (fun r549 h549 hp549 => ?_)
    obtain ⟨rfl, F549, rfl, k549⟩ := hp549
    refine AW.to (st' := [.int _]) (h' := HP F549) ?_ rfl rfl rfl rfl
    refine aw_aload_n (aw_d q_Lw_law 340 rfl) rfl rfl rfl ?_
    refine aw_aload_n (aw_d q_Lw_law 341 rfl) rfl rfl rfl ?_
    refine aw_iload_n (aw_d q_Lw_law 342 rfl) rfl rfl ?_
    refine aw_iconst (v := nI 1) (aw_d q_Lw_law 343 rfl) (by decide) ?_
    refine aw_iaddN (aw_d q_Lw_law 344 rfl) ?_
    refine aw_sld (aw_d q_Lw_law 345 rfl) (vp_in_nI (by omega) (by omega)) ?_
    refine aw_if_eq (tgt := 565) (aw_d q_Lw_law 346 rfl) (by decide) (fun z558 => absurd z558 z541) (fun _ => ?_)
    refine aw_iconst (v := nI 1) (aw_d q_Lw_law 347 rfl) (by decide) ?_
    refine aw_goto (tgt := 566) (aw_d q_Lw_law 348 rfl) (by decide) ?_
    refine aw_callV (a := 33) (ci := 10) (vs := [.int (nI 1)]) (aw_d q_Lw_law 350 rfl) vL_Lw_85_Mo (mL_same1 k549) rfl rfl rfl (aw_le rfl) ⟨aw_le rfl, aw_le rfl⟩ ⟨aw_le rfl, aw_le rfl⟩ (fun r566 h566 hp566 => ?_)
    obtain ⟨rfl, F566, rfl, k566⟩ := hp566
    refine AW.to (st' := [.int _, .int _]) (h' := HP F566) ?_ rfl rfl rfl rfl
    exact aw_icmp_eq (tgt := 633) (aw_d q_Lw_law 351 rfl) (by decide) (fun _ => kk _ _ k566) (fun z => absurd rfl z)
theorem law_574 {nm : String} {g : aw_G} {i : Nat} {U : U_T} {S : aw_S} (hR : RL U S) (hL : g.2.2.2.2.2.1 ≤ 2048) (hi : i + 4 ≤ g.2.2.2.2.2.1) (kk : ∀ (V : U_T) (T : aw_S), RL V T → AWL nm g 633 i T) : AWL nm g 574 i S := by
  refine aw_aload_n (aw_d q_Lw_law 354 rfl) rfl rfl rfl ?_
  refine aw_aload_n (aw_d q_Lw_law 355 rfl) rfl rfl rfl ?_
  refine aw_iload_n (aw_d q_Lw_law 356 rfl) rfl rfl ?_
  refine aw_iconst (v := nI 1) (aw_d q_Lw_law 357 rfl) (by decide) ?_
  refine aw_iaddN (aw_d q_Lw_law 358 rfl) ?_
  refine aw_sld (aw_d q_Lw_law 359 rfl) (vp_in_nI (by omega) (by omega)) ?_
  refine aw_callV (a := 0) (ci := 9) (vs := [.int (g.2.2.2.2.2.2 (nI (i + 1)).toNatClampNeg)]) (aw_d q_Lw_law 360 rfl) vL_Lw_86_RF (cL_lacks hR) rfl rfl rfl (aw_le rfl) ⟨aw_le rfl, aw_le rfl⟩ ⟨aw_le rfl, aw_le rfl⟩ (fun r580 h580 hp580 => ?_)
  obtain ⟨rfl, F580, rfl, k580⟩ := hp580
  refine AW.to (st' := [.int _]) (h' := HP F580) ?_ rfl rfl rfl rfl
  refine aw_aload_n (aw_d q_Lw_law 361 rfl) rfl rfl rfl ?_
  refine aw_aload_n (aw_d q_Lw_law 362 rfl) rfl rfl rfl ?_
  refine aw_iload_n (aw_d q_Lw_law 363 rfl) rfl rfl ?_
  refine aw_iconst (v := nI 1) (aw_d q_Lw_law 364 rfl) (by decide) ?_
  refine aw_iaddN (aw_d q_Lw_law 365 rfl) ?_
  refine aw_sld (aw_d q_Lw_law 366 rfl) (vp_in_nI (by omega) (by omega)) ?_
  refine aw_callV (a := 33) (ci := 10) (vs := [.int (g.2.2.2.2.2.2 (nI (i + 1)).toNatClampNeg)]) (aw_d q_Lw_law 367 rfl) vL_Lw_89_Mo (mL_lacks k580) rfl rfl rfl (aw_le rfl) ⟨aw_le rfl, aw_le rfl⟩ ⟨aw_le rfl, aw_le rfl⟩ (fun r589 h589 hp589 => ?_)
  obtain ⟨rfl, F589, rfl, k589⟩ := hp589
  refine AW.to (st' := [.int _, .int _]) (h' := HP F589) ?_ rfl rfl rfl rfl
  exact aw_icmp_eq (tgt := 633) (aw_d q_Lw_law 368 rfl) (by decide) (fun _ => kk _ _ k589) (fun z => absurd rfl z)
theorem law_597 {nm : String} {g : aw_G} {i : Nat} {U : U_T} {S : aw_S} (hR : RL U S) (hL : g.2.2.2.2.2.1 ≤ 2048) (hi : i + 4 ≤ g.2.2.2.2.2.1) (kk : ∀ (V : U_T) (T : aw_S), RL V T → AWL nm g 633 i T) : AWL nm g 597 i S := by
  refine aw_aload_n (aw_d q_Lw_law 371 rfl) rfl rfl rfl ?_
  refine aw_callV (a := 0) (ci := 9) (vs := []) (aw_d q_Lw_law 372 rfl) vL_Lw_90_RF (cL_dist hR) rfl rfl rfl (aw_le rfl) ⟨aw_le rfl, aw_le rfl⟩ ⟨aw_le rfl, aw_le rfl⟩ (fun r598 h598 hp598 => ?_)
  obtain ⟨rfl, F598, rfl, k598⟩ := hp598
  refine AW.to (st' := [.int _]) (h' := HP F598) ?_ rfl rfl rfl rfl
  refine aw_aload_n (aw_d q_Lw_law 373 rfl) rfl rfl rfl ?_
  refine aw_callV (a := 33) (ci := 10) (vs := []) (aw_d q_Lw_law 374 rfl) vL_Lw_93_Mo (mL_dist k598) rfl rfl rfl (aw_le rfl) ⟨aw_le rfl, aw_le rfl⟩ ⟨aw_le rfl, aw_le rfl⟩ (fun r602 h602 hp602 => ?_)
  obtain ⟨rfl, F602, rfl, k602⟩ := hp602
  refine AW.to (st' := [.int _, .int _]) (h' := HP F602) ?_ rfl rfl rfl rfl
  exact aw_icmp_eq (tgt := 633) (aw_d q_Lw_law 375 rfl) (by decide) (fun _ => kk _ _ k602) (fun z => absurd rfl z)
theorem law_610 {nm : String} {g : aw_G} {i : Nat} {U : U_T} {S : aw_S} (hR : RL U S) (hL : g.2.2.2.2.2.1 ≤ 2048) (hi : i + 4 ≤ g.2.2.2.2.2.1) (kk : ∀ (V : U_T) (T : aw_S), RL V T → AWL nm g 633 i T) : AWL nm g 610 i S := by
  refine aw_aload_n (aw_d q_Lw_law 378 rfl) rfl rfl rfl ?_
  refine aw_aload_n (aw_d q_Lw_law 379 rfl) rfl rfl rfl ?_
  refine aw_iload_n (aw_d q_Lw_law 380 rfl) rfl rfl ?_
  refine aw_iconst (v := nI 1) (aw_d q_Lw_law 381 rfl) (by decide) ?_
  refine aw_iaddN (aw_d q_Lw_law 382 rfl) ?_
  refine aw_sld (aw_d q_Lw_law 383 rfl) (vp_in_nI (by omega) (by omega)) ?_
  refine aw_callV (a := 0) (ci := 9) (vs := [.int (g.2.2.2.2.2.2 (nI (i + 1)).toNatClampNeg)]) (aw_d q_Lw_law 384 rfl) vL_Lw_94_RF (cL_count hR) rfl rfl rfl (aw_le rfl) ⟨aw_le rfl, aw_le rfl⟩ ⟨aw_le rfl, aw_le rfl⟩ (fun r616 h616 hp616 => ?_)
  obtain ⟨rfl, F616, rfl, k616⟩ := hp616
  refine AW.to (st' := [.int _]) (h' := HP F616) ?_ rfl rfl rfl rfl
  refine aw_aload_n (aw_d q_Lw_law 385 rfl) rfl rfl rfl ?_
  refine aw_aload_n (aw_d q_Lw_law 386 rfl) rfl rfl rfl ?_
  refine aw_iload_n (aw_d q_Lw_law 387 rfl) rfl rfl ?_
  refine aw_iconst (v := nI 1) (aw_d q_Lw_law 388 rfl) (by decide) ?_
  refine aw_iaddN (aw_d q_Lw_law 389 rfl) ?_
  refine aw_sld (aw_d q_Lw_law 390 rfl) (vp_in_nI (by omega) (by omega)) ?_
  refine aw_callV (a := 33) (ci := 10) (vs := [.int (g.2.2.2.2.2.2 (nI (i + 1)).toNatClampNeg)]) (aw_d q_Lw_law 391 rfl) vL_Lw_97_Mo (mL_count k616) rfl rfl rfl (aw_le rfl) ⟨aw_le rfl, aw_le rfl⟩ ⟨aw_le rfl, aw_le rfl⟩ (fun r625 h625 hp625 => ?_)
  obtain ⟨rfl, F625, rfl, k625⟩ := hp625
  refine AW.to (st' := [.int _, .int _]) (h' := HP F625) ?_ rfl rfl rfl rfl
  exact aw_icmp_eq (tgt := 633) (aw_d q_Lw_law 392 rfl) (by decide) (fun _ => kk _ _ k625) (fun z => absurd rfl z)
