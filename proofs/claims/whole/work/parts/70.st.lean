/-! THE ENTRY: what the Statement gives, in the words of the walk -/
def ws_F : List Cond := flatC (Jvm.Cond.and given_1 narrow_1)
def ws_own (i : Nat) : String := (aw_ldc.getD i ("", 0, "", 0)).1
def ws_ix (i : Nat) : Nat := (aw_ldc.getD i ("", 0, "", 0)).2.1
abbrev ws_tm (i : Nat) : Term := .string (ws_own i) (ws_ix i)
def ws_c (i : Nat) : List Cond := [.exactly (ws_tm i) "java/lang/String", .eq (.field (ws_tm i) "java/lang/String" "coder" "B") (.int 0), .arrayOf (.field (ws_tm i) "java/lang/String" "value" "[B") .byte, .eq (.length (.field (ws_tm i) "java/lang/String" "value" "[B")) (.int (Int32.ofNat (aw_len.getD i 0)))] ++ (List.range (aw_len.getD i 0)).map (fun j => .eq (.elem (.field (ws_tm i) "java/lang/String" "value" "[B") (.int (Int32.ofNat j))) (.int ((aw_byt.getD i []).getD j 0)))
def ws_at : List Nat := [9, 13, 19, 24, 29, 42, 63, 93, 107, 114, 123, 134, 149, 155, 161, 167, 173, 179, 197, 215, 224, 232, 241, 249, 255, 262, 280, 300, 307, 327, 339, 358, 364, 372, 382, 394, 409, 424, 433, 441, 449, 458, 468, 480, 494, 508, 521, 544, 550, 555, 560, 567, 572, 577, 583, 590, 615, 623, 632, 666, 689, 718, 724, 730, 735, 773, 779, 799, 807, 817, 829, 848, 865, 882, 887, 896, 903, 911, 921, 934, 948, 962, 968, 974, 984, 989, 995, 1029, 1038, 1048]
theorem ws_ok : ((List.range 90).all fun i => decide ((ws_F.drop (ws_at.getD i 0)).take (ws_c i).length = ws_c i)) = true := by decide +kernel
theorem ws_ln : ((List.range 90).all fun i => decide (aw_len.getD i 0 < 2 ^ 31)) = true := by decide +kernel
theorem ws_mem {i : Nat} (hi : i < 90) {w : Cond} (hw : w ∈ ws_c i) : w ∈ ws_F := by
  have h := of_decide_eq_true (List.all_eq_true.mp ws_ok i (List.mem_range.mpr hi))
  rw [← h] at hw
  exact List.mem_of_mem_drop (List.mem_of_mem_take hw)
theorem ws_str {args : Array Value} {s : State} {A : Nat → Prop} (hs : ∀ w ∈ ws_F, w.before args s = true) (hA : ∀ a : Nat, a < s.heap.size → ¬ A a) : ∀ i : Nat, ∃ q : Nat × Nat, i < 90 → (ws_tm i).eval args s none [] s = some (.ref q.1) ∧ va_O "java/lang/String" q.1 A s s.heap ∧ va_OF "java/lang/String" "coder" "B" (.int 0) q.1 A s s.heap ∧ va_OF "java/lang/String" "value" "[B" (.ref q.2) q.1 A s s.heap ∧ va_T .byte q.2 (aw_len.getD i 0) (fun j => .int ((aw_byt.getD i []).getD j 0)) A s s.heap := by
  intro i
  by_cases hi : i < 90
  · have hc : ∀ w ∈ ws_c i, w.before args s = true := fun w hw => hs w (ws_mem hi hw)
    obtain ⟨adK, adV, h1, h2⟩ := vk_Sof (N := 1) (tm := fun _ => ws_tm i) (len := [aw_len.getD i 0]) (byt := [aw_byt.getD i []]) (A := A) (args := args) (s := s)
      (fun j hj => by obtain rfl : j = 0 := by omega
                      exact of_decide_eq_true (List.all_eq_true.mp ws_ln i (List.mem_range.mpr hi)))
      (fun j _ => hc _ (by simp [ws_c])) (fun j _ => hc _ (by simp [ws_c])) (fun j _ => hc _ (by simp [ws_c]))
      (fun j hj => by obtain rfl : j = 0 := by omega
                      exact hc (.eq (.length (.field (ws_tm i) "java/lang/String" "value" "[B")) (.int (Int32.ofNat (aw_len.getD i 0)))) (List.mem_append_left _ (List.mem_cons_of_mem _ (List.mem_cons_of_mem _ (List.mem_cons_of_mem _ List.mem_cons_self)))))
      (fun k hk j hj => by obtain rfl : k = 0 := by omega
                           exact hc (.eq (.elem (.field (ws_tm i) "java/lang/String" "value" "[B") (.int (Int32.ofNat j))) (.int ((aw_byt.getD i []).getD j 0))) (List.mem_append_right _ (List.mem_map.mpr ⟨j, List.mem_range.mpr hj, rfl⟩)))
      (fun a b ha hb hab => absurd (show a = b by omega) hab) hA
    exact ⟨(adK 0, adV 0), fun _ => ⟨h2 0 (by decide), h1.1 0 (by decide)⟩⟩
  · exact ⟨(0, 0), fun h => absurd h hi⟩
theorem ws_sel {C : String} {x y z : MethodName} {n : Nat} {s : State} {args : Array Value} (hy : y.cls ≠ "java/lang/invoke/MethodHandle" ∧ y.cls ≠ "java/lang/invoke/VarHandle") (hz : z.cls = y.cls) (hins : (Cond.instantiable C n).before args s = true) (hpriv : (Cond.privateMethod y).before args s = true) (hinst : (Cond.instanceMethod y).before args s = true) (hs : (Cond.selects C x z).before args s = true) : (Cond.selects C y y).before args s = true := by
  obtain ⟨c, k, hc, hk, -, hniab, -, -⟩ := Cond.instantiable_spec hins
  obtain ⟨mk, methM, hnamed, hmethM, -, -⟩ := Cond.instanceMethod_spec hinst
  have hfound : s.methodFound? y.cls y.name y.desc = some mk := State.methodFound?_of_named hnamed hy
  have hsel : selectMethod {} s.vm c mk = .method mk := selectMethod_private hmethM (Cond.privateMethod_at hpriv mk methM hnamed hmethM)
  obtain ⟨c2, r2, m2, -, -, hm2, -, k2, hk2, hi2⟩ := Cond.selects_spec hs
  have e2 := findClass_of_methodNamed hm2
  rw [hz] at e2
  have e : mk.cls = m2.cls := Option.some.inj ((findClass_of_methodNamed hnamed).symm.trans e2)
  rw [← e] at hk2
  simp only [Cond.before, Cond.holds, Cond.value, hc, hfound, hnamed, hsel, hk2]
  simp; exact hi2
theorem ws_arr {ty : FieldType} {s : State} {args : Array Value} (h : (Cond.arrayClass ty).before args s = true) : ∃ cA : ClassId, s.vm.findClass ("[" ++ ty.toString) = some cA ∧ ArrOfT s cA ty := by
  obtain ⟨cA, kA, comp, h1, h2, h3⟩ := Cond.arrayClass_spec h
  exact ⟨cA, h1, fun n z => ⟨fun k h => (by cases h), kA, h2, comp, h3⟩⟩
theorem ws_ref : (aw_ldc.all fun q => decide (Cond.stringRef q.1 q.2.1 q.2.2.1 ∈ lw_tbl)) = true := by decide +kernel
theorem ws_num : ((List.range 90).all fun i => decide ((aw_ldc.getD i ("", 0, "", 0)).2.2.2 = i)) = true := by decide +kernel
theorem ws_len : aw_ldc.length = 90 := by decide +kernel
theorem ws_nw : (aw_nw.all fun w => decide (w ∈ lw_tbl)) = true := by decide +kernel
