set_option maxRecDepth 40000 in
theorem iL_RF_1 : Cond.methodLink "ResultForms" 1 Lib.objectInit ∈ aw_tbl := (aw_in 115 (by decide +kernel) rfl)
set_option maxRecDepth 40000 in
theorem nL_RF_7 : Cond.classLink "ResultForms" 7 "ResultForms$Bytes" ∈ aw_tbl := (aw_in 118 (by decide +kernel) rfl)
set_option maxRecDepth 40000 in
theorem nI_By : Cond.instantiable "ResultForms$Bytes" 3 ∈ aw_tbl ∧ Cond.initialized "ResultForms$Bytes" ∈ aw_tbl := ⟨(aw_in 119 (by decide +kernel) rfl), (aw_in 93 (by decide +kernel) rfl)⟩
set_option maxRecDepth 40000 in
theorem iL_RF_9 : aw_ci "ResultForms" 9 M_By_init 0 := ⟨c_By_init, by decide, by decide, by decide +kernel, (aw_in 121 (by decide +kernel) rfl), (aw_in 93 (by decide +kernel) rfl), (aw_in 120 (by decide +kernel) rfl), rfl, rfl⟩
set_option maxRecDepth 40000 in
theorem pL_RF_10_RF : aw_pf "ResultForms" 10 9 0 (.object "ResultForms$Bytes") true := ⟨"ResultForms", "ResultForms", T_RF, 14, ty_RF, rfl, by decide, in_RF, ok_RF, nm_RF, rfl, rfl, (aw_in 359 (by decide +kernel) rfl), (Or.inl rfl)⟩
set_option maxRecDepth 40000 in
theorem pL_RF_16_RF : aw_pf "ResultForms" 16 9 1 (.object "ResultForms$Bytes") true := ⟨"ResultForms", "ResultForms", T_RF, 14, ty_RF, rfl, by decide, in_RF, ok_RF, nm_RF, rfl, rfl, (aw_in 360 (by decide +kernel) rfl), (Or.inl rfl)⟩
set_option maxRecDepth 40000 in
theorem pL_RF_19_RF : aw_pf "ResultForms" 19 9 2 (.object "ResultForms$Bytes") true := ⟨"ResultForms", "ResultForms", T_RF, 14, ty_RF, rfl, by decide, in_RF, ok_RF, nm_RF, rfl, rfl, (aw_in 361 (by decide +kernel) rfl), (Or.inl rfl)⟩
set_option maxRecDepth 40000 in
theorem nL_RF_22 : Cond.classLink "ResultForms" 22 "ResultForms$Text" ∈ aw_tbl := (aw_in 140 (by decide +kernel) rfl)
set_option maxRecDepth 40000 in
theorem nI_Tx : Cond.instantiable "ResultForms$Text" 2 ∈ aw_tbl ∧ Cond.initialized "ResultForms$Text" ∈ aw_tbl := ⟨(aw_in 141 (by decide +kernel) rfl), (aw_in 94 (by decide +kernel) rfl)⟩
set_option maxRecDepth 40000 in
theorem iL_RF_24 : aw_ci "ResultForms" 24 M_Tx_init 0 := ⟨c_Tx_init, by decide, by decide, by decide +kernel, (aw_in 143 (by decide +kernel) rfl), (aw_in 94 (by decide +kernel) rfl), (aw_in 142 (by decide +kernel) rfl), rfl, rfl⟩
set_option maxRecDepth 40000 in
theorem pL_RF_25_RF : aw_pf "ResultForms" 25 9 3 (.object "ResultForms$Text") true := ⟨"ResultForms", "ResultForms", T_RF, 14, ty_RF, rfl, by decide, in_RF, ok_RF, nm_RF, rfl, rfl, (aw_in 362 (by decide +kernel) rfl), (Or.inl rfl)⟩
set_option maxRecDepth 40000 in
theorem nL_RF_29 : Cond.classLink "ResultForms" 29 "ResultForms$Terms" ∈ aw_tbl := (aw_in 154 (by decide +kernel) rfl)
set_option maxRecDepth 40000 in
theorem nI_Te : Cond.instantiable "ResultForms$Terms" 5 ∈ aw_tbl ∧ Cond.initialized "ResultForms$Terms" ∈ aw_tbl := ⟨(aw_in 155 (by decide +kernel) rfl), (aw_in 95 (by decide +kernel) rfl)⟩
set_option maxRecDepth 40000 in
theorem iL_RF_31 : aw_ci "ResultForms" 31 M_Te_init 0 := ⟨c_Te_init, by decide, by decide, by decide +kernel, (aw_in 157 (by decide +kernel) rfl), (aw_in 95 (by decide +kernel) rfl), (aw_in 156 (by decide +kernel) rfl), rfl, rfl⟩
set_option maxRecDepth 40000 in
theorem pL_RF_32_RF : aw_pf "ResultForms" 32 9 4 (.object "ResultForms$Terms") true := ⟨"ResultForms", "ResultForms", T_RF, 14, ty_RF, rfl, by decide, in_RF, ok_RF, nm_RF, rfl, rfl, (aw_in 363 (by decide +kernel) rfl), (Or.inl rfl)⟩
set_option maxRecDepth 40000 in
theorem nL_RF_36 : Cond.classLink "ResultForms" 36 "ResultForms$Table" ∈ aw_tbl := (aw_in 177 (by decide +kernel) rfl)
set_option maxRecDepth 40000 in
theorem nI_Tb : Cond.instantiable "ResultForms$Table" 5 ∈ aw_tbl ∧ Cond.initialized "ResultForms$Table" ∈ aw_tbl := ⟨(aw_in 178 (by decide +kernel) rfl), (aw_in 96 (by decide +kernel) rfl)⟩
set_option maxRecDepth 40000 in
theorem iL_RF_38 : aw_ci "ResultForms" 38 M_Tb_init 0 := ⟨c_Tb_init, by decide, by decide, by decide +kernel, (aw_in 180 (by decide +kernel) rfl), (aw_in 96 (by decide +kernel) rfl), (aw_in 179 (by decide +kernel) rfl), rfl, rfl⟩
set_option maxRecDepth 40000 in
theorem pL_RF_39_RF : aw_pf "ResultForms" 39 9 5 (.object "ResultForms$Table") true := ⟨"ResultForms", "ResultForms", T_RF, 14, ty_RF, rfl, by decide, in_RF, ok_RF, nm_RF, rfl, rfl, (aw_in 364 (by decide +kernel) rfl), (Or.inl rfl)⟩
set_option maxRecDepth 40000 in
theorem pL_RF_43_RF : aw_pf "ResultForms" 43 9 6 (.object "ResultForms$Table") true := ⟨"ResultForms", "ResultForms", T_RF, 14, ty_RF, rfl, by decide, in_RF, ok_RF, nm_RF, rfl, rfl, (aw_in 365 (by decide +kernel) rfl), (Or.inl rfl)⟩
set_option maxRecDepth 40000 in
theorem pL_RF_46_RF : aw_pf "ResultForms" 46 9 7 (.object "ResultForms$Table") true := ⟨"ResultForms", "ResultForms", T_RF, 14, ty_RF, rfl, by decide, in_RF, ok_RF, nm_RF, rfl, rfl, (aw_in 366 (by decide +kernel) rfl), (Or.inl rfl)⟩
set_option maxRecDepth 40000 in
theorem pL_RF_49_RF : aw_pf "ResultForms" 49 9 8 .boolean false := ⟨"ResultForms", "ResultForms", T_RF, 14, ty_RF, rfl, by decide, in_RF, ok_RF, nm_RF, rfl, rfl, (aw_in 367 (by decide +kernel) rfl), (Or.inl rfl)⟩
set_option maxRecDepth 40000 in
theorem nL_RF_53 : Cond.classLink "ResultForms" 53 "ResultForms$Scanner" ∈ aw_tbl := (aw_in 208 (by decide +kernel) rfl)
set_option maxRecDepth 40000 in
theorem nI_Sc : Cond.instantiable "ResultForms$Scanner" 8 ∈ aw_tbl ∧ Cond.initialized "ResultForms$Scanner" ∈ aw_tbl := ⟨(aw_in 209 (by decide +kernel) rfl), (aw_in 97 (by decide +kernel) rfl)⟩
set_option maxRecDepth 40000 in
theorem fL_RF_10_RF : aw_fd "ResultForms" 10 9 0 (.object "ResultForms$Bytes") true := ⟨"ResultForms", "ResultForms", T_RF, 14, ty_RF, rfl, by decide, in_RF, ok_RF, nm_RF, rfl, rfl, (Or.inl (aw_in 359 (by decide +kernel) rfl)), (Or.inl rfl)⟩
set_option maxRecDepth 40000 in
theorem iL_RF_55 : aw_ci "ResultForms" 55 M_Sc_init 1 := ⟨c_Sc_init, by decide, by decide, by decide +kernel, (aw_in 211 (by decide +kernel) rfl), (aw_in 97 (by decide +kernel) rfl), (aw_in 210 (by decide +kernel) rfl), rfl, rfl⟩
set_option maxRecDepth 40000 in
theorem pL_RF_58_RF : aw_pf "ResultForms" 58 9 9 (.object "ResultForms$Scanner") true := ⟨"ResultForms", "ResultForms", T_RF, 14, ty_RF, rfl, by decide, in_RF, ok_RF, nm_RF, rfl, rfl, (aw_in 368 (by decide +kernel) rfl), (Or.inl rfl)⟩
set_option maxRecDepth 40000 in
theorem nL_RF_62 : Cond.classLink "ResultForms" 62 "ResultForms$Json" ∈ aw_tbl := (aw_in 269 (by decide +kernel) rfl)
set_option maxRecDepth 40000 in
theorem nI_Js : Cond.instantiable "ResultForms$Json" 3 ∈ aw_tbl ∧ Cond.initialized "ResultForms$Json" ∈ aw_tbl := ⟨(aw_in 270 (by decide +kernel) rfl), (aw_in 98 (by decide +kernel) rfl)⟩
set_option maxRecDepth 40000 in
theorem fL_RF_58_RF : aw_fd "ResultForms" 58 9 9 (.object "ResultForms$Scanner") true := ⟨"ResultForms", "ResultForms", T_RF, 14, ty_RF, rfl, by decide, in_RF, ok_RF, nm_RF, rfl, rfl, (Or.inl (aw_in 368 (by decide +kernel) rfl)), (Or.inl rfl)⟩
set_option maxRecDepth 40000 in
theorem fL_RF_19_RF : aw_fd "ResultForms" 19 9 2 (.object "ResultForms$Bytes") true := ⟨"ResultForms", "ResultForms", T_RF, 14, ty_RF, rfl, by decide, in_RF, ok_RF, nm_RF, rfl, rfl, (Or.inl (aw_in 361 (by decide +kernel) rfl)), (Or.inl rfl)⟩
set_option maxRecDepth 40000 in
theorem fL_RF_32_RF : aw_fd "ResultForms" 32 9 4 (.object "ResultForms$Terms") true := ⟨"ResultForms", "ResultForms", T_RF, 14, ty_RF, rfl, by decide, in_RF, ok_RF, nm_RF, rfl, rfl, (Or.inl (aw_in 363 (by decide +kernel) rfl)), (Or.inl rfl)⟩
set_option maxRecDepth 40000 in
theorem iL_RF_64 : aw_ci "ResultForms" 64 M_Js_init 3 := ⟨c_Js_init, by decide, by decide, by decide +kernel, (aw_in 272 (by decide +kernel) rfl), (aw_in 98 (by decide +kernel) rfl), (aw_in 271 (by decide +kernel) rfl), rfl, rfl⟩
set_option maxRecDepth 40000 in
theorem pL_RF_67_RF : aw_pf "ResultForms" 67 9 10 (.object "ResultForms$Json") true := ⟨"ResultForms", "ResultForms", T_RF, 14, ty_RF, rfl, by decide, in_RF, ok_RF, nm_RF, rfl, rfl, (aw_in 369 (by decide +kernel) rfl), (Or.inl rfl)⟩
set_option maxRecDepth 40000 in
theorem nL_RF_71 : Cond.classLink "ResultForms" 71 "ResultForms$Xml" ∈ aw_tbl := (aw_in 285 (by decide +kernel) rfl)
set_option maxRecDepth 40000 in
theorem nI_Xm : Cond.instantiable "ResultForms$Xml" 3 ∈ aw_tbl ∧ Cond.initialized "ResultForms$Xml" ∈ aw_tbl := ⟨(aw_in 286 (by decide +kernel) rfl), (aw_in 99 (by decide +kernel) rfl)⟩
set_option maxRecDepth 40000 in
theorem iL_RF_73 : aw_ci "ResultForms" 73 M_Xm_init 3 := ⟨c_Xm_init, by decide, by decide, by decide +kernel, (aw_in 288 (by decide +kernel) rfl), (aw_in 99 (by decide +kernel) rfl), (aw_in 287 (by decide +kernel) rfl), rfl, rfl⟩
set_option maxRecDepth 40000 in
theorem pL_RF_74_RF : aw_pf "ResultForms" 74 9 11 (.object "ResultForms$Xml") true := ⟨"ResultForms", "ResultForms", T_RF, 14, ty_RF, rfl, by decide, in_RF, ok_RF, nm_RF, rfl, rfl, (aw_in 370 (by decide +kernel) rfl), (Or.inl rfl)⟩
set_option maxRecDepth 40000 in
theorem nL_RF_78 : Cond.classLink "ResultForms" 78 "ResultForms$Commas" ∈ aw_tbl := (aw_in 301 (by decide +kernel) rfl)
set_option maxRecDepth 40000 in
theorem nI_Cm : Cond.instantiable "ResultForms$Commas" 6 ∈ aw_tbl ∧ Cond.initialized "ResultForms$Commas" ∈ aw_tbl := ⟨(aw_in 302 (by decide +kernel) rfl), (aw_in 101 (by decide +kernel) rfl)⟩
set_option maxRecDepth 40000 in
theorem iL_RF_80 : aw_ci "ResultForms" 80 M_Cm_init 3 := ⟨c_Cm_init, by decide, by decide, by decide +kernel, (aw_in 304 (by decide +kernel) rfl), (aw_in 101 (by decide +kernel) rfl), (aw_in 303 (by decide +kernel) rfl), rfl, rfl⟩
set_option maxRecDepth 40000 in
theorem pL_RF_81_RF : aw_pf "ResultForms" 81 9 12 (.object "ResultForms$Commas") true := ⟨"ResultForms", "ResultForms", T_RF, 14, ty_RF, rfl, by decide, in_RF, ok_RF, nm_RF, rfl, rfl, (aw_in 371 (by decide +kernel) rfl), (Or.inl rfl)⟩
set_option maxRecDepth 40000 in
theorem nL_RF_85 : Cond.classLink "ResultForms" 85 "ResultForms$Tabs" ∈ aw_tbl := (aw_in 344 (by decide +kernel) rfl)
set_option maxRecDepth 40000 in
theorem nI_Ta : Cond.instantiable "ResultForms$Tabs" 6 ∈ aw_tbl ∧ Cond.initialized "ResultForms$Tabs" ∈ aw_tbl := ⟨(aw_in 345 (by decide +kernel) rfl), (aw_in 102 (by decide +kernel) rfl)⟩
set_option maxRecDepth 40000 in
theorem iL_RF_87 : aw_ci "ResultForms" 87 M_Ta_init 3 := ⟨c_Ta_init, by decide, by decide, by decide +kernel, (aw_in 347 (by decide +kernel) rfl), (aw_in 102 (by decide +kernel) rfl), (aw_in 346 (by decide +kernel) rfl), rfl, rfl⟩
set_option maxRecDepth 40000 in
theorem pL_RF_88_RF : aw_pf "ResultForms" 88 9 13 (.object "ResultForms$Tabs") true := ⟨"ResultForms", "ResultForms", T_RF, 14, ty_RF, rfl, by decide, in_RF, ok_RF, nm_RF, rfl, rfl, (aw_in 372 (by decide +kernel) rfl), (Or.inl rfl)⟩
set_option maxRecDepth 40000 in
theorem iL_By_3 : Cond.methodLink "ResultForms$Bytes" 3 Lib.objectInit ∈ aw_tbl := (aw_in 123 (by decide +kernel) rfl)
set_option maxRecDepth 40000 in
theorem pL_By_9_By : aw_pf "ResultForms$Bytes" 9 0 0 (.array .int) true := ⟨"ResultForms$Bytes", "ResultForms$Bytes", T_By, 3, ty_By, rfl, by decide, in_By, ok_By, nm_By, rfl, rfl, (aw_in 124 (by decide +kernel) rfl), (Or.inl rfl)⟩
set_option maxRecDepth 40000 in
theorem pL_By_15_By : aw_pf "ResultForms$Bytes" 15 0 1 .int false := ⟨"ResultForms$Bytes", "ResultForms$Bytes", T_By, 3, ty_By, rfl, by decide, in_By, ok_By, nm_By, rfl, rfl, (aw_in 126 (by decide +kernel) rfl), (Or.inl rfl)⟩
set_option maxRecDepth 40000 in
theorem pL_By_19_By : aw_pf "ResultForms$Bytes" 19 0 2 .boolean false := ⟨"ResultForms$Bytes", "ResultForms$Bytes", T_By, 3, ty_By, rfl, by decide, in_By, ok_By, nm_By, rfl, rfl, (aw_in 130 (by decide +kernel) rfl), (Or.inl rfl)⟩
set_option maxRecDepth 40000 in
theorem iL_Tx_3 : Cond.methodLink "ResultForms$Text" 3 Lib.objectInit ∈ aw_tbl := (aw_in 145 (by decide +kernel) rfl)
set_option maxRecDepth 40000 in
theorem pL_Tx_9_Tx : aw_pf "ResultForms$Text" 9 1 0 (.array .int) true := ⟨"ResultForms$Text", "ResultForms$Text", T_Tx, 2, ty_Tx, rfl, by decide, in_Tx, ok_Tx, nm_Tx, rfl, rfl, (aw_in 146 (by decide +kernel) rfl), (Or.inl rfl)⟩
set_option maxRecDepth 40000 in
theorem pL_Tx_15_Tx : aw_pf "ResultForms$Text" 15 1 1 .int false := ⟨"ResultForms$Text", "ResultForms$Text", T_Tx, 2, ty_Tx, rfl, by decide, in_Tx, ok_Tx, nm_Tx, rfl, rfl, (aw_in 147 (by decide +kernel) rfl), (Or.inl rfl)⟩
set_option maxRecDepth 40000 in
theorem iL_Te_3 : Cond.methodLink "ResultForms$Terms" 3 Lib.objectInit ∈ aw_tbl := (aw_in 159 (by decide +kernel) rfl)
set_option maxRecDepth 40000 in
theorem pL_Te_11_Te : aw_pf "ResultForms$Terms" 11 2 0 (.array .int) true := ⟨"ResultForms$Terms", "ResultForms$Terms", T_Te, 5, ty_Te, rfl, by decide, in_Te, ok_Te, nm_Te, rfl, rfl, (aw_in 160 (by decide +kernel) rfl), (Or.inl rfl)⟩
set_option maxRecDepth 40000 in
theorem pL_Te_15_Te : aw_pf "ResultForms$Terms" 15 2 1 (.array .int) true := ⟨"ResultForms$Terms", "ResultForms$Terms", T_Te, 5, ty_Te, rfl, by decide, in_Te, ok_Te, nm_Te, rfl, rfl, (aw_in 161 (by decide +kernel) rfl), (Or.inl rfl)⟩
set_option maxRecDepth 40000 in
theorem pL_Te_18_Te : aw_pf "ResultForms$Terms" 18 2 2 (.array .int) true := ⟨"ResultForms$Terms", "ResultForms$Terms", T_Te, 5, ty_Te, rfl, by decide, in_Te, ok_Te, nm_Te, rfl, rfl, (aw_in 162 (by decide +kernel) rfl), (Or.inl rfl)⟩
set_option maxRecDepth 40000 in
theorem pL_Te_21_Te : aw_pf "ResultForms$Terms" 21 2 3 (.array .int) true := ⟨"ResultForms$Terms", "ResultForms$Terms", T_Te, 5, ty_Te, rfl, by decide, in_Te, ok_Te, nm_Te, rfl, rfl, (aw_in 163 (by decide +kernel) rfl), (Or.inl rfl)⟩
set_option maxRecDepth 40000 in
theorem pL_Te_24_Te : aw_pf "ResultForms$Terms" 24 2 4 .int false := ⟨"ResultForms$Terms", "ResultForms$Terms", T_Te, 5, ty_Te, rfl, by decide, in_Te, ok_Te, nm_Te, rfl, rfl, (aw_in 164 (by decide +kernel) rfl), (Or.inl rfl)⟩
set_option maxRecDepth 40000 in
theorem iL_Tb_3 : Cond.methodLink "ResultForms$Table" 3 Lib.objectInit ∈ aw_tbl := (aw_in 182 (by decide +kernel) rfl)
set_option maxRecDepth 40000 in
theorem pL_Tb_9_Tb : aw_pf "ResultForms$Table" 9 3 0 (.array .int) true := ⟨"ResultForms$Table", "ResultForms$Table", T_Tb, 5, ty_Tb, rfl, by decide, in_Tb, ok_Tb, nm_Tb, rfl, rfl, (aw_in 183 (by decide +kernel) rfl), (Or.inl rfl)⟩
set_option maxRecDepth 40000 in
theorem pL_Tb_15_Tb : aw_pf "ResultForms$Table" 15 3 1 (.array .int) true := ⟨"ResultForms$Table", "ResultForms$Table", T_Tb, 5, ty_Tb, rfl, by decide, in_Tb, ok_Tb, nm_Tb, rfl, rfl, (aw_in 184 (by decide +kernel) rfl), (Or.inl rfl)⟩
set_option maxRecDepth 40000 in
theorem pL_Tb_18_Tb : aw_pf "ResultForms$Table" 18 3 2 (.array .int) true := ⟨"ResultForms$Table", "ResultForms$Table", T_Tb, 5, ty_Tb, rfl, by decide, in_Tb, ok_Tb, nm_Tb, rfl, rfl, (aw_in 185 (by decide +kernel) rfl), (Or.inl rfl)⟩
set_option maxRecDepth 40000 in
theorem pL_Tb_21_Tb : aw_pf "ResultForms$Table" 21 3 3 .int false := ⟨"ResultForms$Table", "ResultForms$Table", T_Tb, 5, ty_Tb, rfl, by decide, in_Tb, ok_Tb, nm_Tb, rfl, rfl, (aw_in 186 (by decide +kernel) rfl), (Or.inl rfl)⟩
set_option maxRecDepth 40000 in
theorem pL_Tb_25_Tb : aw_pf "ResultForms$Table" 25 3 4 .int false := ⟨"ResultForms$Table", "ResultForms$Table", T_Tb, 5, ty_Tb, rfl, by decide, in_Tb, ok_Tb, nm_Tb, rfl, rfl, (aw_in 192 (by decide +kernel) rfl), (Or.inl rfl)⟩
set_option maxRecDepth 40000 in
theorem iL_Sc_3 : Cond.methodLink "ResultForms$Scanner" 3 Lib.objectInit ∈ aw_tbl := (aw_in 213 (by decide +kernel) rfl)
set_option maxRecDepth 40000 in
theorem pL_Sc_9_Sc : aw_pf "ResultForms$Scanner" 9 4 0 (.object "ResultForms$Bytes") true := ⟨"ResultForms$Scanner", "ResultForms$Scanner", T_Sc, 8, ty_Sc, rfl, by decide, in_Sc, ok_Sc, nm_Sc, rfl, rfl, (aw_in 228 (by decide +kernel) rfl), (Or.inl rfl)⟩
set_option maxRecDepth 40000 in
theorem nL_Sc_15 : Cond.classLink "ResultForms$Scanner" 15 "ResultForms$Text" ∈ aw_tbl := (aw_in 214 (by decide +kernel) rfl)
set_option maxRecDepth 40000 in
theorem iL_Sc_17 : aw_ci "ResultForms$Scanner" 17 M_Tx_init 0 := ⟨c_Tx_init, by decide, by decide, by decide +kernel, (aw_in 143 (by decide +kernel) rfl), (aw_in 94 (by decide +kernel) rfl), (aw_in 215 (by decide +kernel) rfl), rfl, rfl⟩
set_option maxRecDepth 40000 in
theorem pL_Sc_18_Sc : aw_pf "ResultForms$Scanner" 18 4 7 (.object "ResultForms$Text") true := ⟨"ResultForms$Scanner", "ResultForms$Scanner", T_Sc, 8, ty_Sc, rfl, by decide, in_Sc, ok_Sc, nm_Sc, rfl, rfl, (aw_in 246 (by decide +kernel) rfl), (Or.inl rfl)⟩
set_option maxRecDepth 40000 in
theorem vL_Sc_22_Sc : aw_cv "ResultForms$Scanner" 22 "ResultForms$Scanner" M_Sc_begin 0 := ⟨c_Sc_begin, by decide, by decide, by decide +kernel, (aw_in 217 (by decide +kernel) rfl), (aw_in 97 (by decide +kernel) rfl), Or.inl ⟨(aw_in 216 (by decide +kernel) rfl), (aw_in 218 (by decide +kernel) rfl)⟩⟩
set_option maxRecDepth 40000 in
theorem pL_Sc_25_Sc : aw_pf "ResultForms$Scanner" 25 4 1 .int false := ⟨"ResultForms$Scanner", "ResultForms$Scanner", T_Sc, 8, ty_Sc, rfl, by decide, in_Sc, ok_Sc, nm_Sc, rfl, rfl, (aw_in 229 (by decide +kernel) rfl), (Or.inl rfl)⟩
set_option maxRecDepth 40000 in
theorem pL_Sc_29_Sc : aw_pf "ResultForms$Scanner" 29 4 2 .int false := ⟨"ResultForms$Scanner", "ResultForms$Scanner", T_Sc, 8, ty_Sc, rfl, by decide, in_Sc, ok_Sc, nm_Sc, rfl, rfl, (aw_in 234 (by decide +kernel) rfl), (Or.inl rfl)⟩
set_option maxRecDepth 40000 in
theorem pL_Sc_32_Sc : aw_pf "ResultForms$Scanner" 32 4 3 .int false := ⟨"ResultForms$Scanner", "ResultForms$Scanner", T_Sc, 8, ty_Sc, rfl, by decide, in_Sc, ok_Sc, nm_Sc, rfl, rfl, (aw_in 236 (by decide +kernel) rfl), (Or.inl rfl)⟩
set_option maxRecDepth 40000 in
theorem pL_Sc_35_Sc : aw_pf "ResultForms$Scanner" 35 4 4 .int false := ⟨"ResultForms$Scanner", "ResultForms$Scanner", T_Sc, 8, ty_Sc, rfl, by decide, in_Sc, ok_Sc, nm_Sc, rfl, rfl, (aw_in 237 (by decide +kernel) rfl), (Or.inl rfl)⟩
set_option maxRecDepth 40000 in
theorem vL_Sc_38_Sc : aw_cv "ResultForms$Scanner" 38 "ResultForms$Scanner" M_Sc_beginTerm 1 := ⟨c_Sc_beginTerm, by decide, by decide, by decide +kernel, (aw_in 221 (by decide +kernel) rfl), (aw_in 97 (by decide +kernel) rfl), Or.inl ⟨(aw_in 220 (by decide +kernel) rfl), (aw_in 222 (by decide +kernel) rfl)⟩⟩
set_option maxRecDepth 40000 in
theorem pL_Sc_42_Sc : aw_pf "ResultForms$Scanner" 42 4 5 .int false := ⟨"ResultForms$Scanner", "ResultForms$Scanner", T_Sc, 8, ty_Sc, rfl, by decide, in_Sc, ok_Sc, nm_Sc, rfl, rfl, (aw_in 238 (by decide +kernel) rfl), (Or.inl rfl)⟩
set_option maxRecDepth 40000 in
theorem pL_Sc_45_Sc : aw_pf "ResultForms$Scanner" 45 4 6 .int false := ⟨"ResultForms$Scanner", "ResultForms$Scanner", T_Sc, 8, ty_Sc, rfl, by decide, in_Sc, ok_Sc, nm_Sc, rfl, rfl, (aw_in 242 (by decide +kernel) rfl), (Or.inl rfl)⟩
set_option maxRecDepth 40000 in
theorem fL_Sc_18_Sc : aw_fd "ResultForms$Scanner" 18 4 7 (.object "ResultForms$Text") true := ⟨"ResultForms$Scanner", "ResultForms$Scanner", T_Sc, 8, ty_Sc, rfl, by decide, in_Sc, ok_Sc, nm_Sc, rfl, rfl, (Or.inl (aw_in 246 (by decide +kernel) rfl)), (Or.inl rfl)⟩
set_option maxRecDepth 40000 in
theorem vL_Sc_48_Tx : aw_cv "ResultForms$Scanner" 48 "ResultForms$Text" M_Tx_empty 0 := ⟨c_Tx_empty, by decide, by decide, by decide +kernel, (aw_in 225 (by decide +kernel) rfl), (aw_in 94 (by decide +kernel) rfl), Or.inl ⟨(aw_in 224 (by decide +kernel) rfl), (aw_in 226 (by decide +kernel) rfl)⟩⟩
set_option maxRecDepth 40000 in
theorem iL_Js_3 : Cond.methodLink "ResultForms$Json" 3 Lib.objectInit ∈ aw_tbl := (aw_in 274 (by decide +kernel) rfl)
set_option maxRecDepth 40000 in
theorem pL_Js_9_Js : aw_pf "ResultForms$Json" 9 5 0 (.object "ResultForms$Scanner") true := ⟨"ResultForms$Json", "ResultForms$Json", T_Js, 3, ty_Js, rfl, by decide, in_Js, ok_Js, nm_Js, rfl, rfl, (aw_in 275 (by decide +kernel) rfl), (Or.inl rfl)⟩
set_option maxRecDepth 40000 in
theorem pL_Js_15_Js : aw_pf "ResultForms$Json" 15 5 1 (.object "ResultForms$Bytes") true := ⟨"ResultForms$Json", "ResultForms$Json", T_Js, 3, ty_Js, rfl, by decide, in_Js, ok_Js, nm_Js, rfl, rfl, (aw_in 276 (by decide +kernel) rfl), (Or.inl rfl)⟩
set_option maxRecDepth 40000 in
theorem pL_Js_19_Js : aw_pf "ResultForms$Json" 19 5 2 (.object "ResultForms$Terms") true := ⟨"ResultForms$Json", "ResultForms$Json", T_Js, 3, ty_Js, rfl, by decide, in_Js, ok_Js, nm_Js, rfl, rfl, (aw_in 277 (by decide +kernel) rfl), (Or.inl rfl)⟩
set_option maxRecDepth 40000 in
theorem iL_Xm_3 : Cond.methodLink "ResultForms$Xml" 3 Lib.objectInit ∈ aw_tbl := (aw_in 290 (by decide +kernel) rfl)
set_option maxRecDepth 40000 in
theorem pL_Xm_9_Xm : aw_pf "ResultForms$Xml" 9 6 0 (.object "ResultForms$Scanner") true := ⟨"ResultForms$Xml", "ResultForms$Xml", T_Xm, 3, ty_Xm, rfl, by decide, in_Xm, ok_Xm, nm_Xm, rfl, rfl, (aw_in 291 (by decide +kernel) rfl), (Or.inl rfl)⟩
set_option maxRecDepth 40000 in
theorem pL_Xm_15_Xm : aw_pf "ResultForms$Xml" 15 6 1 (.object "ResultForms$Bytes") true := ⟨"ResultForms$Xml", "ResultForms$Xml", T_Xm, 3, ty_Xm, rfl, by decide, in_Xm, ok_Xm, nm_Xm, rfl, rfl, (aw_in 292 (by decide +kernel) rfl), (Or.inl rfl)⟩
set_option maxRecDepth 40000 in
theorem pL_Xm_19_Xm : aw_pf "ResultForms$Xml" 19 6 2 (.object "ResultForms$Terms") true := ⟨"ResultForms$Xml", "ResultForms$Xml", T_Xm, 3, ty_Xm, rfl, by decide, in_Xm, ok_Xm, nm_Xm, rfl, rfl, (aw_in 293 (by decide +kernel) rfl), (Or.inl rfl)⟩
set_option maxRecDepth 40000 in
theorem tL_Cm_3 : ("ResultForms$Commas", 3, "", 0) ∈ aw_ldc := List.mem_of_getElem? (i := 0) rfl
set_option maxRecDepth 40000 in
theorem tL_Cm_5 : ("ResultForms$Commas", 5, "\r\n", 1) ∈ aw_ldc := List.mem_of_getElem? (i := 1) rfl
set_option maxRecDepth 40000 in
theorem iL_Cm_7 : aw_ci "ResultForms$Commas" 7 M_Ln_init 6 := ⟨c_Ln_init, by decide, by decide, by decide +kernel, (aw_in 309 (by decide +kernel) rfl), (aw_in 100 (by decide +kernel) rfl), (aw_in 308 (by decide +kernel) rfl), rfl, rfl⟩
set_option maxRecDepth 40000 in
theorem iL_Ln_3 : Cond.methodLink "ResultForms$Lines" 3 Lib.objectInit ∈ aw_tbl := (aw_in 311 (by decide +kernel) rfl)
set_option maxRecDepth 40000 in
theorem pL_Ln_9_Cm : aw_pf "ResultForms$Lines" 9 7 0 (.object "ResultForms$Scanner") true := ⟨"ResultForms$Commas", "ResultForms$Lines", T_Cm, 6, ty_Cm, rfl, by decide, in_Cm, ok_Cm, nm_Cm, rfl, rfl, (aw_in 312 (by decide +kernel) rfl), (Or.inl rfl)⟩
set_option maxRecDepth 40000 in
theorem pL_Ln_9_Ta : aw_pf "ResultForms$Lines" 9 8 0 (.object "ResultForms$Scanner") true := ⟨"ResultForms$Tabs", "ResultForms$Lines", T_Ta, 6, ty_Ta, rfl, by decide, in_Ta, ok_Ta, nm_Ta, rfl, rfl, (aw_in 312 (by decide +kernel) rfl), (Or.inl rfl)⟩
set_option maxRecDepth 40000 in
theorem pL_Ln_15_Cm : aw_pf "ResultForms$Lines" 15 7 1 (.object "ResultForms$Bytes") true := ⟨"ResultForms$Commas", "ResultForms$Lines", T_Cm, 6, ty_Cm, rfl, by decide, in_Cm, ok_Cm, nm_Cm, rfl, rfl, (aw_in 317 (by decide +kernel) rfl), (Or.inl rfl)⟩
set_option maxRecDepth 40000 in
theorem pL_Ln_15_Ta : aw_pf "ResultForms$Lines" 15 8 1 (.object "ResultForms$Bytes") true := ⟨"ResultForms$Tabs", "ResultForms$Lines", T_Ta, 6, ty_Ta, rfl, by decide, in_Ta, ok_Ta, nm_Ta, rfl, rfl, (aw_in 317 (by decide +kernel) rfl), (Or.inl rfl)⟩
set_option maxRecDepth 40000 in
theorem pL_Ln_19_Cm : aw_pf "ResultForms$Lines" 19 7 2 (.object "ResultForms$Terms") true := ⟨"ResultForms$Commas", "ResultForms$Lines", T_Cm, 6, ty_Cm, rfl, by decide, in_Cm, ok_Cm, nm_Cm, rfl, rfl, (aw_in 322 (by decide +kernel) rfl), (Or.inl rfl)⟩
set_option maxRecDepth 40000 in
theorem pL_Ln_19_Ta : aw_pf "ResultForms$Lines" 19 8 2 (.object "ResultForms$Terms") true := ⟨"ResultForms$Tabs", "ResultForms$Lines", T_Ta, 6, ty_Ta, rfl, by decide, in_Ta, ok_Ta, nm_Ta, rfl, rfl, (aw_in 322 (by decide +kernel) rfl), (Or.inl rfl)⟩
set_option maxRecDepth 40000 in
theorem pL_Ln_23_Cm : aw_pf "ResultForms$Lines" 23 7 3 (.object "java/lang/String") true := ⟨"ResultForms$Commas", "ResultForms$Lines", T_Cm, 6, ty_Cm, rfl, by decide, in_Cm, ok_Cm, nm_Cm, rfl, rfl, (aw_in 327 (by decide +kernel) rfl), (Or.inl rfl)⟩
set_option maxRecDepth 40000 in
theorem pL_Ln_23_Ta : aw_pf "ResultForms$Lines" 23 8 3 (.object "java/lang/String") true := ⟨"ResultForms$Tabs", "ResultForms$Lines", T_Ta, 6, ty_Ta, rfl, by decide, in_Ta, ok_Ta, nm_Ta, rfl, rfl, (aw_in 327 (by decide +kernel) rfl), (Or.inl rfl)⟩
set_option maxRecDepth 40000 in
theorem pL_Ln_27_Cm : aw_pf "ResultForms$Lines" 27 7 4 .char true := ⟨"ResultForms$Commas", "ResultForms$Lines", T_Cm, 6, ty_Cm, rfl, by decide, in_Cm, ok_Cm, nm_Cm, rfl, rfl, (aw_in 328 (by decide +kernel) rfl), (Or.inl rfl)⟩
set_option maxRecDepth 40000 in
theorem pL_Ln_27_Ta : aw_pf "ResultForms$Lines" 27 8 4 .char true := ⟨"ResultForms$Tabs", "ResultForms$Lines", T_Ta, 6, ty_Ta, rfl, by decide, in_Ta, ok_Ta, nm_Ta, rfl, rfl, (aw_in 328 (by decide +kernel) rfl), (Or.inl rfl)⟩
set_option maxRecDepth 40000 in
theorem pL_Ln_31_Cm : aw_pf "ResultForms$Lines" 31 7 5 (.object "java/lang/String") true := ⟨"ResultForms$Commas", "ResultForms$Lines", T_Cm, 6, ty_Cm, rfl, by decide, in_Cm, ok_Cm, nm_Cm, rfl, rfl, (aw_in 329 (by decide +kernel) rfl), (Or.inl rfl)⟩
set_option maxRecDepth 40000 in
theorem pL_Ln_31_Ta : aw_pf "ResultForms$Lines" 31 8 5 (.object "java/lang/String") true := ⟨"ResultForms$Tabs", "ResultForms$Lines", T_Ta, 6, ty_Ta, rfl, by decide, in_Ta, ok_Ta, nm_Ta, rfl, rfl, (aw_in 329 (by decide +kernel) rfl), (Or.inl rfl)⟩
set_option maxRecDepth 40000 in
theorem tL_Ta_3 : ("ResultForms$Tabs", 3, "?", 2) ∈ aw_ldc := List.mem_of_getElem? (i := 2) rfl
set_option maxRecDepth 40000 in
theorem tL_Ta_5 : ("ResultForms$Tabs", 5, "\n", 3) ∈ aw_ldc := List.mem_of_getElem? (i := 3) rfl
set_option maxRecDepth 40000 in
theorem iL_Ta_7 : aw_ci "ResultForms$Tabs" 7 M_Ln_init 6 := ⟨c_Ln_init, by decide, by decide, by decide +kernel, (aw_in 309 (by decide +kernel) rfl), (aw_in 100 (by decide +kernel) rfl), (aw_in 351 (by decide +kernel) rfl), rfl, rfl⟩
set_option maxRecDepth 40000 in
theorem vL_RF_92_By : aw_cv "ResultForms" 92 "ResultForms$Bytes" M_By_hasRoom 1 := ⟨c_By_hasRoom, by decide, by decide, by decide +kernel, (aw_in 407 (by decide +kernel) rfl), (aw_in 93 (by decide +kernel) rfl), Or.inl ⟨(aw_in 406 (by decide +kernel) rfl), (aw_in 408 (by decide +kernel) rfl)⟩⟩
set_option maxRecDepth 40000 in
theorem vL_RF_96_By : aw_cv "ResultForms" 96 "ResultForms$Bytes" M_By_add 1 := ⟨c_By_add, by decide, by decide, by decide +kernel, (aw_in 411 (by decide +kernel) rfl), (aw_in 93 (by decide +kernel) rfl), Or.inl ⟨(aw_in 410 (by decide +kernel) rfl), (aw_in 412 (by decide +kernel) rfl)⟩⟩
set_option maxRecDepth 40000 in
theorem fL_RF_100_By : aw_fd "ResultForms" 100 0 1 .int false := ⟨"ResultForms$Bytes", "ResultForms$Bytes", T_By, 3, ty_By, rfl, by decide, in_By, ok_By, nm_By, rfl, rfl, (Or.inr ⟨"ResultForms", (List.mem_of_getElem? (i := 1) rfl)⟩), (Or.inl rfl)⟩
set_option maxRecDepth 40000 in
theorem fL_By_15_By : aw_fd "ResultForms$Bytes" 15 0 1 .int false := ⟨"ResultForms$Bytes", "ResultForms$Bytes", T_By, 3, ty_By, rfl, by decide, in_By, ok_By, nm_By, rfl, rfl, (Or.inl (aw_in 126 (by decide +kernel) rfl)), (Or.inl rfl)⟩
set_option maxRecDepth 40000 in
theorem fL_By_9_By : aw_fd "ResultForms$Bytes" 9 0 0 (.array .int) true := ⟨"ResultForms$Bytes", "ResultForms$Bytes", T_By, 3, ty_By, rfl, by decide, in_By, ok_By, nm_By, rfl, rfl, (Or.inl (aw_in 124 (by decide +kernel) rfl)), (Or.inl rfl)⟩
set_option maxRecDepth 40000 in
theorem fL_RF_16_RF : aw_fd "ResultForms" 16 9 1 (.object "ResultForms$Bytes") true := ⟨"ResultForms", "ResultForms", T_RF, 14, ty_RF, rfl, by decide, in_RF, ok_RF, nm_RF, rfl, rfl, (Or.inl (aw_in 360 (by decide +kernel) rfl)), (Or.inl rfl)⟩
set_option maxRecDepth 40000 in
theorem vL_RF_104_By : aw_cv "ResultForms" 104 "ResultForms$Bytes" M_By_get 1 := ⟨c_By_get, by decide, by decide, by decide +kernel, (aw_in 419 (by decide +kernel) rfl), (aw_in 93 (by decide +kernel) rfl), Or.inl ⟨(aw_in 418 (by decide +kernel) rfl), (aw_in 420 (by decide +kernel) rfl)⟩⟩
set_option maxRecDepth 40000 in
theorem fL_RF_25_RF : aw_fd "ResultForms" 25 9 3 (.object "ResultForms$Text") true := ⟨"ResultForms", "ResultForms", T_RF, 14, ty_RF, rfl, by decide, in_RF, ok_RF, nm_RF, rfl, rfl, (Or.inl (aw_in 362 (by decide +kernel) rfl)), (Or.inl rfl)⟩
set_option maxRecDepth 40000 in
theorem vL_RF_108_Tx : aw_cv "ResultForms" 108 "ResultForms$Text" M_Tx_takeAll 1 := ⟨c_Tx_takeAll, by decide, by decide, by decide +kernel, (aw_in 427 (by decide +kernel) rfl), (aw_in 94 (by decide +kernel) rfl), Or.inl ⟨(aw_in 426 (by decide +kernel) rfl), (aw_in 428 (by decide +kernel) rfl)⟩⟩
set_option maxRecDepth 40000 in
theorem vL_RF_112_By : aw_cv "ResultForms" 112 "ResultForms$Bytes" M_By_empty 0 := ⟨c_By_empty, by decide, by decide, by decide +kernel, (aw_in 443 (by decide +kernel) rfl), (aw_in 93 (by decide +kernel) rfl), Or.inl ⟨(aw_in 442 (by decide +kernel) rfl), (aw_in 444 (by decide +kernel) rfl)⟩⟩
set_option maxRecDepth 40000 in
theorem sL_RF_115 : aw_cs "ResultForms" 115 M_RF_isExtra 2 := ⟨c_RF_isExtra, by decide, by decide, by decide +kernel, (aw_in 447 (by decide +kernel) rfl), (aw_in 92 (by decide +kernel) rfl), Or.inl (aw_in 446 (by decide +kernel) rfl)⟩
set_option maxRecDepth 40000 in
theorem vL_RF_119_Tx : aw_cv "ResultForms" 119 "ResultForms$Text" M_Tx_isOf 1 := ⟨c_Tx_isOf, by decide, by decide, by decide +kernel, (aw_in 450 (by decide +kernel) rfl), (aw_in 94 (by decide +kernel) rfl), Or.inl ⟨(aw_in 449 (by decide +kernel) rfl), (aw_in 451 (by decide +kernel) rfl)⟩⟩
set_option maxRecDepth 40000 in
theorem vL_RF_122_Te : aw_cv "ResultForms" 122 "ResultForms$Terms" M_Te_find 3 := ⟨c_Te_find, by decide, by decide, by decide +kernel, (aw_in 551 (by decide +kernel) rfl), (aw_in 95 (by decide +kernel) rfl), Or.inl ⟨(aw_in 550 (by decide +kernel) rfl), (aw_in 552 (by decide +kernel) rfl)⟩⟩
set_option maxRecDepth 40000 in
theorem fL_RF_126_Te : aw_fd "ResultForms" 126 2 4 .int false := ⟨"ResultForms$Terms", "ResultForms$Terms", T_Te, 5, ty_Te, rfl, by decide, in_Te, ok_Te, nm_Te, rfl, rfl, (Or.inr ⟨"ResultForms", (List.mem_of_getElem? (i := 6) rfl)⟩), (Or.inl rfl)⟩
set_option maxRecDepth 40000 in
theorem vL_RF_129_Te : aw_cv "ResultForms" 129 "ResultForms$Terms" M_Te_numberOf 3 := ⟨c_Te_numberOf, by decide, by decide, by decide +kernel, (aw_in 576 (by decide +kernel) rfl), (aw_in 95 (by decide +kernel) rfl), Or.inl ⟨(aw_in 575 (by decide +kernel) rfl), (aw_in 577 (by decide +kernel) rfl)⟩⟩
set_option maxRecDepth 40000 in
theorem vL_Tx_19_Tx : aw_cv "ResultForms$Text" 19 "ResultForms$Text" M_Tx_empty 0 := ⟨c_Tx_empty, by decide, by decide, by decide +kernel, (aw_in 225 (by decide +kernel) rfl), (aw_in 94 (by decide +kernel) rfl), Or.inl ⟨(aw_in 430 (by decide +kernel) rfl), (aw_in 226 (by decide +kernel) rfl)⟩⟩
set_option maxRecDepth 40000 in
theorem fL_Tx_22_By : aw_fd "ResultForms$Text" 22 0 1 .int false := ⟨"ResultForms$Bytes", "ResultForms$Bytes", T_By, 3, ty_By, rfl, by decide, in_By, ok_By, nm_By, rfl, rfl, (Or.inr ⟨"ResultForms", (List.mem_of_getElem? (i := 2) rfl)⟩), (Or.inl rfl)⟩
set_option maxRecDepth 40000 in
theorem vL_Tx_25_By : aw_cv "ResultForms$Text" 25 "ResultForms$Bytes" M_By_get 1 := ⟨c_By_get, by decide, by decide, by decide +kernel, (aw_in 419 (by decide +kernel) rfl), (aw_in 93 (by decide +kernel) rfl), Or.inl ⟨(aw_in 431 (by decide +kernel) rfl), (aw_in 420 (by decide +kernel) rfl)⟩⟩
set_option maxRecDepth 40000 in
theorem sL_Tx_29 : aw_cs "ResultForms$Text" 29 M_RF_isTextByte 1 := ⟨c_RF_isTextByte, by decide, by decide, by decide +kernel, (aw_in 433 (by decide +kernel) rfl), (aw_in 92 (by decide +kernel) rfl), Or.inr ⟨"ResultForms", (List.mem_of_getElem? (i := 32) rfl)⟩⟩
set_option maxRecDepth 40000 in
theorem vL_Tx_33_Tx : aw_cv "ResultForms$Text" 33 "ResultForms$Text" M_Tx_add 1 := ⟨c_Tx_add, by decide, by decide, by decide +kernel, (aw_in 439 (by decide +kernel) rfl), (aw_in 94 (by decide +kernel) rfl), Or.inl ⟨(aw_in 438 (by decide +kernel) rfl), (aw_in 440 (by decide +kernel) rfl)⟩⟩
set_option maxRecDepth 40000 in
theorem sL_RF_246 : aw_cs "ResultForms" 246 M_RF_isPrinted 1 := ⟨c_RF_isPrinted, by decide, by decide, by decide +kernel, (aw_in 436 (by decide +kernel) rfl), (aw_in 92 (by decide +kernel) rfl), Or.inl (aw_in 435 (by decide +kernel) rfl)⟩
set_option maxRecDepth 40000 in
theorem fL_Tx_15_Tx : aw_fd "ResultForms$Text" 15 1 1 .int false := ⟨"ResultForms$Text", "ResultForms$Text", T_Tx, 2, ty_Tx, rfl, by decide, in_Tx, ok_Tx, nm_Tx, rfl, rfl, (Or.inl (aw_in 147 (by decide +kernel) rfl)), (Or.inl rfl)⟩
set_option maxRecDepth 40000 in
theorem fL_Tx_9_Tx : aw_fd "ResultForms$Text" 9 1 0 (.array .int) true := ⟨"ResultForms$Text", "ResultForms$Text", T_Tx, 2, ty_Tx, rfl, by decide, in_Tx, ok_Tx, nm_Tx, rfl, rfl, (Or.inl (aw_in 146 (by decide +kernel) rfl)), (Or.inl rfl)⟩
set_option maxRecDepth 40000 in
theorem vL_Tx_37_Tx : aw_cv "ResultForms$Text" 37 "ResultForms$Text" M_Tx_get 1 := ⟨c_Tx_get, by decide, by decide, by decide +kernel, (aw_in 454 (by decide +kernel) rfl), (aw_in 94 (by decide +kernel) rfl), Or.inl ⟨(aw_in 453 (by decide +kernel) rfl), (aw_in 455 (by decide +kernel) rfl)⟩⟩
set_option maxRecDepth 40000 in
theorem sL_Tx_38 : aw_cs "ResultForms$Text" 38 M_RF_isNodeByte 1 := ⟨c_RF_isNodeByte, by decide, by decide, by decide +kernel, (aw_in 458 (by decide +kernel) rfl), (aw_in 92 (by decide +kernel) rfl), Or.inr ⟨"ResultForms", (List.mem_of_getElem? (i := 33) rfl)⟩⟩
set_option maxRecDepth 40000 in
theorem sL_Tx_41 : aw_cs "ResultForms$Text" 41 M_RF_isLetterOrDigit 1 := ⟨c_RF_isLetterOrDigit, by decide, by decide, by decide +kernel, (aw_in 548 (by decide +kernel) rfl), (aw_in 92 (by decide +kernel) rfl), Or.inr ⟨"ResultForms", (List.mem_of_getElem? (i := 34) rfl)⟩⟩
set_option maxRecDepth 40000 in
theorem tL_RF_249 : ("ResultForms", 249, "\"<>\\^`{|}", 4) ∈ aw_ldc := List.mem_of_getElem? (i := 4) rfl
set_option maxRecDepth 40000 in
theorem vL_RF_251_JS : aw_cv "ResultForms" 251 "java/lang/String" M_JS_indexOf 1 := ⟨c_JS_indexOf, by decide, by decide, by decide +kernel, (aw_in 462 (by decide +kernel) rfl), (aw_in 104 (by decide +kernel) rfl), Or.inl ⟨(aw_in 461 (by decide +kernel) rfl), (aw_in 463 (by decide +kernel) rfl)⟩⟩
set_option maxRecDepth 40000 in
theorem vL_JS_633_JS : aw_cv "java/lang/String" 633 "java/lang/String" M_JS_indexOf_1 2 := ⟨c_JS_indexOf_1, by decide, by decide, by decide +kernel, (aw_in 466 (by decide +kernel) rfl), (aw_in 104 (by decide +kernel) rfl), Or.inl ⟨(aw_in 465 (by decide +kernel) rfl), (aw_in 467 (by decide +kernel) rfl)⟩⟩
set_option maxRecDepth 40000 in
theorem vL_JS_492_JS : aw_cv "java/lang/String" 492 "java/lang/String" M_JS_isLatin1 0 := ⟨c_JS_isLatin1, by decide, by decide, by decide +kernel, (aw_in 470 (by decide +kernel) rfl), (aw_in 104 (by decide +kernel) rfl), Or.inl ⟨(aw_in 469 (by decide +kernel) rfl), (aw_in 471 (by decide +kernel) rfl)⟩⟩
set_option maxRecDepth 40000 in
theorem vL_JS_505_JS : aw_cv "java/lang/String" 505 "java/lang/String" M_JS_length 0 := ⟨c_JS_length, by decide, by decide, by decide +kernel, (aw_in 476 (by decide +kernel) rfl), (aw_in 104 (by decide +kernel) rfl), Or.inl ⟨(aw_in 475 (by decide +kernel) rfl), (aw_in 477 (by decide +kernel) rfl)⟩⟩
set_option maxRecDepth 40000 in
theorem sL_JS_637 : aw_cs "java/lang/String" 637 M_JL_indexOf 4 := ⟨c_JL_indexOf, by decide, by decide, by decide +kernel, (aw_in 484 (by decide +kernel) rfl), (aw_in 105 (by decide +kernel) rfl), Or.inl (aw_in 483 (by decide +kernel) rfl)⟩
set_option maxRecDepth 40000 in
theorem sL_JS_640 : aw_cs "java/lang/String" 640 M_JU_indexOf 4 := ⟨c_JU_indexOf, by decide, by decide, by decide +kernel, (aw_in 499 (by decide +kernel) rfl), (aw_in 107 (by decide +kernel) rfl), Or.inl (aw_in 498 (by decide +kernel) rfl)⟩
set_option maxRecDepth 40000 in
theorem vL_JS_335_JS : aw_cv "java/lang/String" 335 "java/lang/String" M_JS_coder 0 := ⟨c_JS_coder, by decide, by decide, by decide +kernel, (aw_in 480 (by decide +kernel) rfl), (aw_in 104 (by decide +kernel) rfl), Or.inl ⟨(aw_in 479 (by decide +kernel) rfl), (aw_in 481 (by decide +kernel) rfl)⟩⟩
set_option maxRecDepth 40000 in
theorem sL_JL_88 : aw_cs "java/lang/StringLatin1" 88 M_JL_canEncode 1 := ⟨c_JL_canEncode, by decide, by decide, by decide +kernel, (aw_in 487 (by decide +kernel) rfl), (aw_in 105 (by decide +kernel) rfl), Or.inl (aw_in 486 (by decide +kernel) rfl)⟩
set_option maxRecDepth 40000 in
theorem sL_JL_92 : aw_cs "java/lang/StringLatin1" 92 M_JM_max 2 := ⟨c_JM_max, by decide, by decide, by decide +kernel, (aw_in 490 (by decide +kernel) rfl), (aw_in 106 (by decide +kernel) rfl), Or.inl (aw_in 489 (by decide +kernel) rfl)⟩
set_option maxRecDepth 40000 in
theorem sL_JL_38 : aw_cs "java/lang/StringLatin1" 38 M_JM_min 2 := ⟨c_JM_min, by decide, by decide, by decide +kernel, (aw_in 493 (by decide +kernel) rfl), (aw_in 106 (by decide +kernel) rfl), Or.inl (aw_in 492 (by decide +kernel) rfl)⟩
set_option maxRecDepth 40000 in
theorem sL_JL_95 : aw_cs "java/lang/StringLatin1" 95 M_JL_indexOfChar 4 := ⟨c_JL_indexOfChar, by decide, by decide, by decide +kernel, (aw_in 496 (by decide +kernel) rfl), (aw_in 105 (by decide +kernel) rfl), Or.inl (aw_in 495 (by decide +kernel) rfl)⟩
set_option maxRecDepth 40000 in
theorem sL_JS_1062 : aw_cs "java/lang/String" 1062 M_JP_checkFromToIndex 4 := ⟨c_JP_checkFromToIndex, by decide, by decide, by decide +kernel, (aw_in 519 (by decide +kernel) rfl), (aw_in 108 (by decide +kernel) rfl), Or.inl (aw_in 518 (by decide +kernel) rfl)⟩
set_option maxRecDepth 40000 in
theorem fL_Te_24_Te : aw_fd "ResultForms$Terms" 24 2 4 .int false := ⟨"ResultForms$Terms", "ResultForms$Terms", T_Te, 5, ty_Te, rfl, by decide, in_Te, ok_Te, nm_Te, rfl, rfl, (Or.inl (aw_in 164 (by decide +kernel) rfl)), (Or.inl rfl)⟩
set_option maxRecDepth 40000 in
theorem vL_Te_28_Te : aw_cv "ResultForms$Terms" 28 "ResultForms$Terms" M_Te_kindOf 1 := ⟨c_Te_kindOf, by decide, by decide, by decide +kernel, (aw_in 555 (by decide +kernel) rfl), (aw_in 95 (by decide +kernel) rfl), Or.inl ⟨(aw_in 554 (by decide +kernel) rfl), (aw_in 556 (by decide +kernel) rfl)⟩⟩
set_option maxRecDepth 40000 in
theorem vL_Te_32_Te : aw_cv "ResultForms$Terms" 32 "ResultForms$Terms" M_Te_extraOf 1 := ⟨c_Te_extraOf, by decide, by decide, by decide +kernel, (aw_in 559 (by decide +kernel) rfl), (aw_in 95 (by decide +kernel) rfl), Or.inl ⟨(aw_in 558 (by decide +kernel) rfl), (aw_in 560 (by decide +kernel) rfl)⟩⟩
set_option maxRecDepth 40000 in
theorem vL_Te_35_Te : aw_cv "ResultForms$Terms" 35 "ResultForms$Terms" M_Te_hasText 2 := ⟨c_Te_hasText, by decide, by decide, by decide +kernel, (aw_in 564 (by decide +kernel) rfl), (aw_in 95 (by decide +kernel) rfl), Or.inl ⟨(aw_in 562 (by decide +kernel) rfl), (aw_in 0 (by decide +kernel) rfl)⟩⟩
set_option maxRecDepth 40000 in
theorem fL_Te_11_Te : aw_fd "ResultForms$Terms" 11 2 0 (.array .int) true := ⟨"ResultForms$Terms", "ResultForms$Terms", T_Te, 5, ty_Te, rfl, by decide, in_Te, ok_Te, nm_Te, rfl, rfl, (Or.inl (aw_in 160 (by decide +kernel) rfl)), (Or.inl rfl)⟩
set_option maxRecDepth 40000 in
theorem fL_Te_15_Te : aw_fd "ResultForms$Terms" 15 2 1 (.array .int) true := ⟨"ResultForms$Terms", "ResultForms$Terms", T_Te, 5, ty_Te, rfl, by decide, in_Te, ok_Te, nm_Te, rfl, rfl, (Or.inl (aw_in 161 (by decide +kernel) rfl)), (Or.inl rfl)⟩
set_option maxRecDepth 40000 in
theorem vL_Te_39_Te : aw_cv "ResultForms$Terms" 39 "ResultForms$Terms" M_Te_lengthOf 1 := ⟨c_Te_lengthOf, by decide, by decide, by decide +kernel, (aw_in 567 (by decide +kernel) rfl), (aw_in 95 (by decide +kernel) rfl), Or.inl ⟨(aw_in 566 (by decide +kernel) rfl), (aw_in 568 (by decide +kernel) rfl)⟩⟩
set_option maxRecDepth 40000 in
theorem fL_Te_42_Tx : aw_fd "ResultForms$Terms" 42 1 1 .int false := ⟨"ResultForms$Text", "ResultForms$Text", T_Tx, 2, ty_Tx, rfl, by decide, in_Tx, ok_Tx, nm_Tx, rfl, rfl, (Or.inr ⟨"ResultForms", (List.mem_of_getElem? (i := 5) rfl)⟩), (Or.inl rfl)⟩
set_option maxRecDepth 40000 in
theorem vL_Te_47_Te : aw_cv "ResultForms$Terms" 47 "ResultForms$Terms" M_Te_byteOf 2 := ⟨c_Te_byteOf, by decide, by decide, by decide +kernel, (aw_in 571 (by decide +kernel) rfl), (aw_in 95 (by decide +kernel) rfl), Or.inl ⟨(aw_in 570 (by decide +kernel) rfl), (aw_in 572 (by decide +kernel) rfl)⟩⟩
set_option maxRecDepth 40000 in
theorem vL_Te_51_Tx : aw_cv "ResultForms$Terms" 51 "ResultForms$Text" M_Tx_get 1 := ⟨c_Tx_get, by decide, by decide, by decide +kernel, (aw_in 454 (by decide +kernel) rfl), (aw_in 94 (by decide +kernel) rfl), Or.inl ⟨(aw_in 574 (by decide +kernel) rfl), (aw_in 455 (by decide +kernel) rfl)⟩⟩
set_option maxRecDepth 40000 in
theorem fL_Te_18_Te : aw_fd "ResultForms$Terms" 18 2 2 (.array .int) true := ⟨"ResultForms$Terms", "ResultForms$Terms", T_Te, 5, ty_Te, rfl, by decide, in_Te, ok_Te, nm_Te, rfl, rfl, (Or.inl (aw_in 162 (by decide +kernel) rfl)), (Or.inl rfl)⟩
set_option maxRecDepth 40000 in
theorem fL_Te_21_Te : aw_fd "ResultForms$Terms" 21 2 3 (.array .int) true := ⟨"ResultForms$Terms", "ResultForms$Terms", T_Te, 5, ty_Te, rfl, by decide, in_Te, ok_Te, nm_Te, rfl, rfl, (Or.inl (aw_in 163 (by decide +kernel) rfl)), (Or.inl rfl)⟩
set_option maxRecDepth 40000 in
theorem vL_Te_54_Te : aw_cv "ResultForms$Terms" 54 "ResultForms$Terms" M_Te_find 3 := ⟨c_Te_find, by decide, by decide, by decide +kernel, (aw_in 551 (by decide +kernel) rfl), (aw_in 95 (by decide +kernel) rfl), Or.inl ⟨(aw_in 579 (by decide +kernel) rfl), (aw_in 552 (by decide +kernel) rfl)⟩⟩
set_option maxRecDepth 40000 in
theorem vL_RF_132_Te : aw_cv "ResultForms" 132 "ResultForms$Terms" M_Te_has 1 := ⟨c_Te_has, by decide, by decide, by decide +kernel, (aw_in 585 (by decide +kernel) rfl), (aw_in 95 (by decide +kernel) rfl), Or.inl ⟨(aw_in 584 (by decide +kernel) rfl), (aw_in 586 (by decide +kernel) rfl)⟩⟩
set_option maxRecDepth 40000 in
theorem vL_RF_135_Te : aw_cv "ResultForms" 135 "ResultForms$Terms" M_Te_kindOf 1 := ⟨c_Te_kindOf, by decide, by decide, by decide +kernel, (aw_in 555 (by decide +kernel) rfl), (aw_in 95 (by decide +kernel) rfl), Or.inl ⟨(aw_in 588 (by decide +kernel) rfl), (aw_in 556 (by decide +kernel) rfl)⟩⟩
set_option maxRecDepth 40000 in
theorem vL_RF_138_Te : aw_cv "ResultForms" 138 "ResultForms$Terms" M_Te_extraOf 1 := ⟨c_Te_extraOf, by decide, by decide, by decide +kernel, (aw_in 559 (by decide +kernel) rfl), (aw_in 95 (by decide +kernel) rfl), Or.inl ⟨(aw_in 589 (by decide +kernel) rfl), (aw_in 560 (by decide +kernel) rfl)⟩⟩
set_option maxRecDepth 40000 in
theorem vL_RF_141_Te : aw_cv "ResultForms" 141 "ResultForms$Terms" M_Te_lengthOf 1 := ⟨c_Te_lengthOf, by decide, by decide, by decide +kernel, (aw_in 567 (by decide +kernel) rfl), (aw_in 95 (by decide +kernel) rfl), Or.inl ⟨(aw_in 590 (by decide +kernel) rfl), (aw_in 568 (by decide +kernel) rfl)⟩⟩
set_option maxRecDepth 40000 in
theorem vL_RF_144_Te : aw_cv "ResultForms" 144 "ResultForms$Terms" M_Te_byteOf 2 := ⟨c_Te_byteOf, by decide, by decide, by decide +kernel, (aw_in 571 (by decide +kernel) rfl), (aw_in 95 (by decide +kernel) rfl), Or.inl ⟨(aw_in 591 (by decide +kernel) rfl), (aw_in 572 (by decide +kernel) rfl)⟩⟩
set_option maxRecDepth 40000 in
theorem sL_RF_148 : aw_cs "ResultForms" 148 M_RF_isName 1 := ⟨c_RF_isName, by decide, by decide, by decide +kernel, (aw_in 597 (by decide +kernel) rfl), (aw_in 92 (by decide +kernel) rfl), Or.inl (aw_in 596 (by decide +kernel) rfl)⟩
set_option maxRecDepth 40000 in
theorem fL_RF_39_RF : aw_fd "ResultForms" 39 9 5 (.object "ResultForms$Table") true := ⟨"ResultForms", "ResultForms", T_RF, 14, ty_RF, rfl, by decide, in_RF, ok_RF, nm_RF, rfl, rfl, (Or.inl (aw_in 364 (by decide +kernel) rfl)), (Or.inl rfl)⟩
set_option maxRecDepth 40000 in
theorem vL_RF_151_Tb : aw_cv "ResultForms" 151 "ResultForms$Table" M_Tb_find 3 := ⟨c_Tb_find, by decide, by decide, by decide +kernel, (aw_in 603 (by decide +kernel) rfl), (aw_in 96 (by decide +kernel) rfl), Or.inl ⟨(aw_in 602 (by decide +kernel) rfl), (aw_in 604 (by decide +kernel) rfl)⟩⟩
set_option maxRecDepth 40000 in
theorem fL_RF_154_Tb : aw_fd "ResultForms" 154 3 4 .int false := ⟨"ResultForms$Table", "ResultForms$Table", T_Tb, 5, ty_Tb, rfl, by decide, in_Tb, ok_Tb, nm_Tb, rfl, rfl, (Or.inr ⟨"ResultForms", (List.mem_of_getElem? (i := 15) rfl)⟩), (Or.inl rfl)⟩
set_option maxRecDepth 40000 in
theorem fL_RF_157_Tb : aw_fd "ResultForms" 157 3 3 .int false := ⟨"ResultForms$Table", "ResultForms$Table", T_Tb, 5, ty_Tb, rfl, by decide, in_Tb, ok_Tb, nm_Tb, rfl, rfl, (Or.inr ⟨"ResultForms", (List.mem_of_getElem? (i := 10) rfl)⟩), (Or.inl rfl)⟩
set_option maxRecDepth 40000 in
theorem vL_RF_160_Tb : aw_cv "ResultForms" 160 "ResultForms$Table" M_Tb_addVariable 3 := ⟨c_Tb_addVariable, by decide, by decide, by decide +kernel, (aw_in 620 (by decide +kernel) rfl), (aw_in 96 (by decide +kernel) rfl), Or.inl ⟨(aw_in 619 (by decide +kernel) rfl), (aw_in 621 (by decide +kernel) rfl)⟩⟩
set_option maxRecDepth 40000 in
theorem sL_RF_243 : aw_cs "ResultForms" 243 M_RF_isLetter 1 := ⟨c_RF_isLetter, by decide, by decide, by decide +kernel, (aw_in 600 (by decide +kernel) rfl), (aw_in 92 (by decide +kernel) rfl), Or.inl (aw_in 599 (by decide +kernel) rfl)⟩
set_option maxRecDepth 40000 in
theorem fL_Tb_21_Tb : aw_fd "ResultForms$Table" 21 3 3 .int false := ⟨"ResultForms$Table", "ResultForms$Table", T_Tb, 5, ty_Tb, rfl, by decide, in_Tb, ok_Tb, nm_Tb, rfl, rfl, (Or.inl (aw_in 186 (by decide +kernel) rfl)), (Or.inl rfl)⟩
set_option maxRecDepth 40000 in
theorem vL_Tb_28_Tb : aw_cv "ResultForms$Table" 28 "ResultForms$Table" M_Tb_isNamed 4 := ⟨c_Tb_isNamed, by decide, by decide, by decide +kernel, (aw_in 608 (by decide +kernel) rfl), (aw_in 96 (by decide +kernel) rfl), Or.inl ⟨(aw_in 606 (by decide +kernel) rfl), (aw_in 1 (by decide +kernel) rfl)⟩⟩
set_option maxRecDepth 40000 in
theorem vL_Tb_32_Tb : aw_cv "ResultForms$Table" 32 "ResultForms$Table" M_Tb_lengthOfName 1 := ⟨c_Tb_lengthOfName, by decide, by decide, by decide +kernel, (aw_in 612 (by decide +kernel) rfl), (aw_in 96 (by decide +kernel) rfl), Or.inl ⟨(aw_in 610 (by decide +kernel) rfl), (aw_in 2 (by decide +kernel) rfl)⟩⟩
set_option maxRecDepth 40000 in
theorem vL_Tb_36_Tb : aw_cv "ResultForms$Table" 36 "ResultForms$Table" M_Tb_byteOfName 2 := ⟨c_Tb_byteOfName, by decide, by decide, by decide +kernel, (aw_in 616 (by decide +kernel) rfl), (aw_in 96 (by decide +kernel) rfl), Or.inl ⟨(aw_in 614 (by decide +kernel) rfl), (aw_in 3 (by decide +kernel) rfl)⟩⟩
set_option maxRecDepth 40000 in
theorem vL_Tb_40_By : aw_cv "ResultForms$Table" 40 "ResultForms$Bytes" M_By_get 1 := ⟨c_By_get, by decide, by decide, by decide +kernel, (aw_in 419 (by decide +kernel) rfl), (aw_in 93 (by decide +kernel) rfl), Or.inl ⟨(aw_in 618 (by decide +kernel) rfl), (aw_in 420 (by decide +kernel) rfl)⟩⟩
set_option maxRecDepth 40000 in
theorem fL_Tb_15_Tb : aw_fd "ResultForms$Table" 15 3 1 (.array .int) true := ⟨"ResultForms$Table", "ResultForms$Table", T_Tb, 5, ty_Tb, rfl, by decide, in_Tb, ok_Tb, nm_Tb, rfl, rfl, (Or.inl (aw_in 184 (by decide +kernel) rfl)), (Or.inl rfl)⟩
set_option maxRecDepth 40000 in
theorem fL_Tb_9_Tb : aw_fd "ResultForms$Table" 9 3 0 (.array .int) true := ⟨"ResultForms$Table", "ResultForms$Table", T_Tb, 5, ty_Tb, rfl, by decide, in_Tb, ok_Tb, nm_Tb, rfl, rfl, (Or.inl (aw_in 183 (by decide +kernel) rfl)), (Or.inl rfl)⟩
set_option maxRecDepth 40000 in
theorem vL_RF_164_Tb : aw_cv "ResultForms" 164 "ResultForms$Table" M_Tb_hasRoomForRow 0 := ⟨c_Tb_hasRoomForRow, by decide, by decide, by decide +kernel, (aw_in 628 (by decide +kernel) rfl), (aw_in 96 (by decide +kernel) rfl), Or.inl ⟨(aw_in 627 (by decide +kernel) rfl), (aw_in 629 (by decide +kernel) rfl)⟩⟩
set_option maxRecDepth 40000 in
theorem vL_RF_168_Tb : aw_cv "ResultForms" 168 "ResultForms$Table" M_Tb_addRow 0 := ⟨c_Tb_addRow, by decide, by decide, by decide +kernel, (aw_in 632 (by decide +kernel) rfl), (aw_in 96 (by decide +kernel) rfl), Or.inl ⟨(aw_in 631 (by decide +kernel) rfl), (aw_in 633 (by decide +kernel) rfl)⟩⟩
set_option maxRecDepth 40000 in
theorem fL_Tb_25_Tb : aw_fd "ResultForms$Table" 25 3 4 .int false := ⟨"ResultForms$Table", "ResultForms$Table", T_Tb, 5, ty_Tb, rfl, by decide, in_Tb, ok_Tb, nm_Tb, rfl, rfl, (Or.inl (aw_in 192 (by decide +kernel) rfl)), (Or.inl rfl)⟩
set_option maxRecDepth 40000 in
theorem vL_Tb_49_Tb : aw_cv "ResultForms$Table" 49 "ResultForms$Table" M_Tb_hasRoomForRow 0 := ⟨c_Tb_hasRoomForRow, by decide, by decide, by decide +kernel, (aw_in 628 (by decide +kernel) rfl), (aw_in 96 (by decide +kernel) rfl), Or.inl ⟨(aw_in 635 (by decide +kernel) rfl), (aw_in 629 (by decide +kernel) rfl)⟩⟩
set_option maxRecDepth 40000 in
theorem vL_Tb_53_Tb : aw_cv "ResultForms$Table" 53 "ResultForms$Table" M_Tb_setCell 3 := ⟨c_Tb_setCell, by decide, by decide, by decide +kernel, (aw_in 637 (by decide +kernel) rfl), (aw_in 96 (by decide +kernel) rfl), Or.inl ⟨(aw_in 636 (by decide +kernel) rfl), (aw_in 638 (by decide +kernel) rfl)⟩⟩
set_option maxRecDepth 40000 in
theorem sL_Tb_57 : aw_cs "ResultForms$Table" 57 M_Tb_inRoom 2 := ⟨c_Tb_inRoom, by decide, by decide, by decide +kernel, (aw_in 641 (by decide +kernel) rfl), (aw_in 96 (by decide +kernel) rfl), Or.inl (aw_in 640 (by decide +kernel) rfl)⟩
set_option maxRecDepth 40000 in
theorem fL_Tb_18_Tb : aw_fd "ResultForms$Table" 18 3 2 (.array .int) true := ⟨"ResultForms$Table", "ResultForms$Table", T_Tb, 5, ty_Tb, rfl, by decide, in_Tb, ok_Tb, nm_Tb, rfl, rfl, (Or.inl (aw_in 185 (by decide +kernel) rfl)), (Or.inl rfl)⟩
set_option maxRecDepth 40000 in
theorem vL_RF_172_Tb : aw_cv "ResultForms" 172 "ResultForms$Table" M_Tb_hasCell 2 := ⟨c_Tb_hasCell, by decide, by decide, by decide +kernel, (aw_in 648 (by decide +kernel) rfl), (aw_in 96 (by decide +kernel) rfl), Or.inl ⟨(aw_in 647 (by decide +kernel) rfl), (aw_in 649 (by decide +kernel) rfl)⟩⟩
set_option maxRecDepth 40000 in
theorem vL_RF_175_Tb : aw_cv "ResultForms" 175 "ResultForms$Table" M_Tb_cell 2 := ⟨c_Tb_cell, by decide, by decide, by decide +kernel, (aw_in 652 (by decide +kernel) rfl), (aw_in 96 (by decide +kernel) rfl), Or.inl ⟨(aw_in 651 (by decide +kernel) rfl), (aw_in 653 (by decide +kernel) rfl)⟩⟩
set_option maxRecDepth 40000 in
theorem vL_RF_178_Tb : aw_cv "ResultForms" 178 "ResultForms$Table" M_Tb_setCell 3 := ⟨c_Tb_setCell, by decide, by decide, by decide +kernel, (aw_in 637 (by decide +kernel) rfl), (aw_in 96 (by decide +kernel) rfl), Or.inl ⟨(aw_in 655 (by decide +kernel) rfl), (aw_in 638 (by decide +kernel) rfl)⟩⟩
set_option maxRecDepth 40000 in
theorem vL_RF_182_Tb : aw_cv "ResultForms" 182 "ResultForms$Table" M_Tb_empty 0 := ⟨c_Tb_empty, by decide, by decide, by decide +kernel, (aw_in 661 (by decide +kernel) rfl), (aw_in 96 (by decide +kernel) rfl), Or.inl ⟨(aw_in 660 (by decide +kernel) rfl), (aw_in 662 (by decide +kernel) rfl)⟩⟩
set_option maxRecDepth 40000 in
theorem fL_RF_67_RF : aw_fd "ResultForms" 67 9 10 (.object "ResultForms$Json") true := ⟨"ResultForms", "ResultForms", T_RF, 14, ty_RF, rfl, by decide, in_RF, ok_RF, nm_RF, rfl, rfl, (Or.inl (aw_in 369 (by decide +kernel) rfl)), (Or.inl rfl)⟩
set_option maxRecDepth 40000 in
theorem vL_RF_183_Js : aw_cv "ResultForms" 183 "ResultForms$Json" M_Js_print 1 := ⟨c_Js_print, by decide, by decide, by decide +kernel, (aw_in 673 (by decide +kernel) rfl), (aw_in 98 (by decide +kernel) rfl), Or.inl ⟨(aw_in 672 (by decide +kernel) rfl), (aw_in 674 (by decide +kernel) rfl)⟩⟩
set_option maxRecDepth 40000 in
theorem fL_RF_74_RF : aw_fd "ResultForms" 74 9 11 (.object "ResultForms$Xml") true := ⟨"ResultForms", "ResultForms", T_RF, 14, ty_RF, rfl, by decide, in_RF, ok_RF, nm_RF, rfl, rfl, (Or.inl (aw_in 370 (by decide +kernel) rfl)), (Or.inl rfl)⟩
set_option maxRecDepth 40000 in
theorem vL_RF_187_Xm : aw_cv "ResultForms" 187 "ResultForms$Xml" M_Xm_print 1 := ⟨c_Xm_print, by decide, by decide, by decide +kernel, (aw_in 756 (by decide +kernel) rfl), (aw_in 99 (by decide +kernel) rfl), Or.inl ⟨(aw_in 755 (by decide +kernel) rfl), (aw_in 757 (by decide +kernel) rfl)⟩⟩
set_option maxRecDepth 40000 in
theorem fL_RF_81_RF : aw_fd "ResultForms" 81 9 12 (.object "ResultForms$Commas") true := ⟨"ResultForms", "ResultForms", T_RF, 14, ty_RF, rfl, by decide, in_RF, ok_RF, nm_RF, rfl, rfl, (Or.inl (aw_in 371 (by decide +kernel) rfl)), (Or.inl rfl)⟩
set_option maxRecDepth 40000 in
theorem vL_RF_188_Cm : aw_cv "ResultForms" 188 "ResultForms$Commas" M_Ln_print 1 := ⟨c_Ln_print, by decide, by decide, by decide +kernel, (aw_in 811 (by decide +kernel) rfl), (aw_in 100 (by decide +kernel) rfl), Or.inr (Or.inr ⟨⟨"ResultForms$Commas", "print", "(LResultForms$Table;)V"⟩, "ResultForms$Lines", (aw_in 807 (by decide +kernel) rfl), (aw_in 808 (by decide +kernel) rfl), (aw_in 810 (by decide +kernel) rfl), rfl, by decide, by decide, Or.inl rfl⟩)⟩
set_option maxRecDepth 40000 in
theorem fL_RF_88_RF : aw_fd "ResultForms" 88 9 13 (.object "ResultForms$Tabs") true := ⟨"ResultForms", "ResultForms", T_RF, 14, ty_RF, rfl, by decide, in_RF, ok_RF, nm_RF, rfl, rfl, (Or.inl (aw_in 372 (by decide +kernel) rfl)), (Or.inl rfl)⟩
set_option maxRecDepth 40000 in
theorem vL_RF_189_Ta : aw_cv "ResultForms" 189 "ResultForms$Tabs" M_Ln_print 1 := ⟨c_Ln_print, by decide, by decide, by decide +kernel, (aw_in 811 (by decide +kernel) rfl), (aw_in 100 (by decide +kernel) rfl), Or.inr (Or.inr ⟨⟨"ResultForms$Tabs", "print", "(LResultForms$Table;)V"⟩, "ResultForms$Lines", (aw_in 863 (by decide +kernel) rfl), (aw_in 864 (by decide +kernel) rfl), (aw_in 865 (by decide +kernel) rfl), rfl, by decide, by decide, Or.inl rfl⟩)⟩
set_option maxRecDepth 40000 in
theorem vL_RF_190_RF : aw_cv "ResultForms" 190 "ResultForms" M_RF_publish 0 := ⟨c_RF_publish, by decide, by decide, by decide +kernel, (aw_in 868 (by decide +kernel) rfl), (aw_in 92 (by decide +kernel) rfl), Or.inl ⟨(aw_in 866 (by decide +kernel) rfl), (aw_in 13 (by decide +kernel) rfl)⟩⟩
set_option maxRecDepth 40000 in
theorem fL_Js_15_Js : aw_fd "ResultForms$Json" 15 5 1 (.object "ResultForms$Bytes") true := ⟨"ResultForms$Json", "ResultForms$Json", T_Js, 3, ty_Js, rfl, by decide, in_Js, ok_Js, nm_Js, rfl, rfl, (Or.inl (aw_in 276 (by decide +kernel) rfl)), (Or.inl rfl)⟩
set_option maxRecDepth 40000 in
theorem tL_Js_39 : ("ResultForms$Json", 39, "{\"head\":{\"vars\":[", 5) ∈ aw_ldc := List.mem_of_getElem? (i := 5) rfl
set_option maxRecDepth 40000 in
theorem vL_Js_25_By : aw_cv "ResultForms$Json" 25 "ResultForms$Bytes" M_By_addAll 1 := ⟨c_By_addAll, by decide, by decide, by decide +kernel, (aw_in 678 (by decide +kernel) rfl), (aw_in 93 (by decide +kernel) rfl), Or.inl ⟨(aw_in 677 (by decide +kernel) rfl), (aw_in 679 (by decide +kernel) rfl)⟩⟩
set_option maxRecDepth 40000 in
theorem fL_Js_41_Tb : aw_fd "ResultForms$Json" 41 3 3 .int false := ⟨"ResultForms$Table", "ResultForms$Table", T_Tb, 5, ty_Tb, rfl, by decide, in_Tb, ok_Tb, nm_Tb, rfl, rfl, (Or.inr ⟨"ResultForms", (List.mem_of_getElem? (i := 7) rfl)⟩), (Or.inl rfl)⟩
set_option maxRecDepth 40000 in
theorem vL_Js_35_By : aw_cv "ResultForms$Json" 35 "ResultForms$Bytes" M_By_add 1 := ⟨c_By_add, by decide, by decide, by decide +kernel, (aw_in 411 (by decide +kernel) rfl), (aw_in 93 (by decide +kernel) rfl), Or.inl ⟨(aw_in 703 (by decide +kernel) rfl), (aw_in 412 (by decide +kernel) rfl)⟩⟩
set_option maxRecDepth 40000 in
theorem vL_Js_47_Js : aw_cv "ResultForms$Json" 47 "ResultForms$Json" M_Js_printName 2 := ⟨c_Js_printName, by decide, by decide, by decide +kernel, (aw_in 706 (by decide +kernel) rfl), (aw_in 98 (by decide +kernel) rfl), Or.inl ⟨(aw_in 704 (by decide +kernel) rfl), (aw_in 4 (by decide +kernel) rfl)⟩⟩
set_option maxRecDepth 40000 in
theorem tL_Js_51 : ("ResultForms$Json", 51, "]},\"results\":{\"bindings\":[", 6) ∈ aw_ldc := List.mem_of_getElem? (i := 6) rfl
set_option maxRecDepth 40000 in
theorem fL_Js_53_Tb : aw_fd "ResultForms$Json" 53 3 4 .int false := ⟨"ResultForms$Table", "ResultForms$Table", T_Tb, 5, ty_Tb, rfl, by decide, in_Tb, ok_Tb, nm_Tb, rfl, rfl, (Or.inr ⟨"ResultForms", (List.mem_of_getElem? (i := 12) rfl)⟩), (Or.inl rfl)⟩
set_option maxRecDepth 40000 in
theorem vL_Js_56_Js : aw_cv "ResultForms$Json" 56 "ResultForms$Json" M_Js_printRow 2 := ⟨c_Js_printRow, by decide, by decide, by decide +kernel, (aw_in 716 (by decide +kernel) rfl), (aw_in 98 (by decide +kernel) rfl), Or.inl ⟨(aw_in 714 (by decide +kernel) rfl), (aw_in 5 (by decide +kernel) rfl)⟩⟩
set_option maxRecDepth 40000 in
theorem tL_Js_59 : ("ResultForms$Json", 59, "]}}", 24) ∈ aw_ldc := List.mem_of_getElem? (i := 24) rfl
set_option maxRecDepth 40000 in
theorem vL_By_23_JS : aw_cv "ResultForms$Bytes" 23 "java/lang/String" M_JS_length 0 := ⟨c_JS_length, by decide, by decide, by decide +kernel, (aw_in 476 (by decide +kernel) rfl), (aw_in 104 (by decide +kernel) rfl), Or.inl ⟨(aw_in 681 (by decide +kernel) rfl), (aw_in 477 (by decide +kernel) rfl)⟩⟩
set_option maxRecDepth 40000 in
theorem vL_By_28_JS : aw_cv "ResultForms$Bytes" 28 "java/lang/String" M_JS_charAt 1 := ⟨c_JS_charAt, by decide, by decide, by decide +kernel, (aw_in 683 (by decide +kernel) rfl), (aw_in 104 (by decide +kernel) rfl), Or.inl ⟨(aw_in 682 (by decide +kernel) rfl), (aw_in 684 (by decide +kernel) rfl)⟩⟩
set_option maxRecDepth 40000 in
theorem vL_By_32_By : aw_cv "ResultForms$Bytes" 32 "ResultForms$Bytes" M_By_add 1 := ⟨c_By_add, by decide, by decide, by decide +kernel, (aw_in 411 (by decide +kernel) rfl), (aw_in 93 (by decide +kernel) rfl), Or.inl ⟨(aw_in 702 (by decide +kernel) rfl), (aw_in 412 (by decide +kernel) rfl)⟩⟩
set_option maxRecDepth 40000 in
theorem sL_JS_495 : aw_cs "java/lang/String" 495 M_JL_charAt 2 := ⟨c_JL_charAt, by decide, by decide, by decide +kernel, (aw_in 687 (by decide +kernel) rfl), (aw_in 105 (by decide +kernel) rfl), Or.inl (aw_in 686 (by decide +kernel) rfl)⟩
set_option maxRecDepth 40000 in
theorem sL_JS_498 : aw_cs "java/lang/String" 498 M_JU_charAt 2 := ⟨c_JU_charAt, by decide, by decide, by decide +kernel, (aw_in 696 (by decide +kernel) rfl), (aw_in 107 (by decide +kernel) rfl), Or.inl (aw_in 695 (by decide +kernel) rfl)⟩
set_option maxRecDepth 40000 in
theorem sL_JL_9 : aw_cs "java/lang/StringLatin1" 9 M_JS_checkIndex 2 := ⟨c_JS_checkIndex, by decide, by decide, by decide +kernel, (aw_in 690 (by decide +kernel) rfl), (aw_in 104 (by decide +kernel) rfl), Or.inl (aw_in 689 (by decide +kernel) rfl)⟩
set_option maxRecDepth 40000 in
theorem sL_JS_1059 : aw_cs "java/lang/String" 1059 M_JP_checkIndex 3 := ⟨c_JP_checkIndex, by decide, by decide, by decide +kernel, (aw_in 693 (by decide +kernel) rfl), (aw_in 108 (by decide +kernel) rfl), Or.inl (aw_in 692 (by decide +kernel) rfl)⟩
set_option maxRecDepth 40000 in
theorem vL_Js_61_Tb : aw_cv "ResultForms$Json" 61 "ResultForms$Table" M_Tb_printName 2 := ⟨c_Tb_printName, by decide, by decide, by decide +kernel, (aw_in 709 (by decide +kernel) rfl), (aw_in 96 (by decide +kernel) rfl), Or.inl ⟨(aw_in 708 (by decide +kernel) rfl), (aw_in 710 (by decide +kernel) rfl)⟩⟩
set_option maxRecDepth 40000 in
theorem vL_Tb_45_By : aw_cv "ResultForms$Table" 45 "ResultForms$Bytes" M_By_add 1 := ⟨c_By_add, by decide, by decide, by decide +kernel, (aw_in 411 (by decide +kernel) rfl), (aw_in 93 (by decide +kernel) rfl), Or.inl ⟨(aw_in 712 (by decide +kernel) rfl), (aw_in 412 (by decide +kernel) rfl)⟩⟩
set_option maxRecDepth 40000 in
theorem vL_Js_64_Tb : aw_cv "ResultForms$Json" 64 "ResultForms$Table" M_Tb_cell 2 := ⟨c_Tb_cell, by decide, by decide, by decide +kernel, (aw_in 652 (by decide +kernel) rfl), (aw_in 96 (by decide +kernel) rfl), Or.inl ⟨(aw_in 718 (by decide +kernel) rfl), (aw_in 653 (by decide +kernel) rfl)⟩⟩
set_option maxRecDepth 40000 in
theorem vL_Js_68_Js : aw_cv "ResultForms$Json" 68 "ResultForms$Json" M_Js_printTerm 1 := ⟨c_Js_printTerm, by decide, by decide, by decide +kernel, (aw_in 721 (by decide +kernel) rfl), (aw_in 98 (by decide +kernel) rfl), Or.inl ⟨(aw_in 719 (by decide +kernel) rfl), (aw_in 6 (by decide +kernel) rfl)⟩⟩
set_option maxRecDepth 40000 in
theorem fL_Js_19_Js : aw_fd "ResultForms$Json" 19 5 2 (.object "ResultForms$Terms") true := ⟨"ResultForms$Json", "ResultForms$Json", T_Js, 3, ty_Js, rfl, by decide, in_Js, ok_Js, nm_Js, rfl, rfl, (Or.inl (aw_in 277 (by decide +kernel) rfl)), (Or.inl rfl)⟩
set_option maxRecDepth 40000 in
theorem vL_Js_71_Te : aw_cv "ResultForms$Json" 71 "ResultForms$Terms" M_Te_kindOf 1 := ⟨c_Te_kindOf, by decide, by decide, by decide +kernel, (aw_in 555 (by decide +kernel) rfl), (aw_in 95 (by decide +kernel) rfl), Or.inl ⟨(aw_in 723 (by decide +kernel) rfl), (aw_in 556 (by decide +kernel) rfl)⟩⟩
set_option maxRecDepth 40000 in
theorem tL_Js_77 : ("ResultForms$Json", 77, ":{\"type\":\"", 7) ∈ aw_ldc := List.mem_of_getElem? (i := 7) rfl
set_option maxRecDepth 40000 in
theorem tL_Js_79 : ("ResultForms$Json", 79, "uri", 8) ∈ aw_ldc := List.mem_of_getElem? (i := 8) rfl
set_option maxRecDepth 40000 in
theorem tL_Js_81 : ("ResultForms$Json", 81, "bnode", 9) ∈ aw_ldc := List.mem_of_getElem? (i := 9) rfl
set_option maxRecDepth 40000 in
theorem tL_Js_83 : ("ResultForms$Json", 83, "literal", 10) ∈ aw_ldc := List.mem_of_getElem? (i := 10) rfl
set_option maxRecDepth 40000 in
theorem tL_Js_85 : ("ResultForms$Json", 85, "\",\"value\":\"", 11) ∈ aw_ldc := List.mem_of_getElem? (i := 11) rfl
set_option maxRecDepth 40000 in
theorem vL_Js_87_Te : aw_cv "ResultForms$Json" 87 "ResultForms$Terms" M_Te_printBackslashed 2 := ⟨c_Te_printBackslashed, by decide, by decide, by decide +kernel, (aw_in 730 (by decide +kernel) rfl), (aw_in 95 (by decide +kernel) rfl), Or.inl ⟨(aw_in 729 (by decide +kernel) rfl), (aw_in 731 (by decide +kernel) rfl)⟩⟩
set_option maxRecDepth 40000 in
theorem tL_Js_90 : ("ResultForms$Json", 90, "\",\"xml:lang\":\"", 17) ∈ aw_ldc := List.mem_of_getElem? (i := 17) rfl
set_option maxRecDepth 40000 in
theorem tL_Js_92 : ("ResultForms$Json", 92, "\",\"datatype\":\"", 18) ∈ aw_ldc := List.mem_of_getElem? (i := 18) rfl
set_option maxRecDepth 40000 in
theorem vL_Js_94_Te : aw_cv "ResultForms$Json" 94 "ResultForms$Terms" M_Te_printExtra 2 := ⟨c_Te_printExtra, by decide, by decide, by decide +kernel, (aw_in 743 (by decide +kernel) rfl), (aw_in 95 (by decide +kernel) rfl), Or.inl ⟨(aw_in 742 (by decide +kernel) rfl), (aw_in 744 (by decide +kernel) rfl)⟩⟩
set_option maxRecDepth 40000 in
theorem tL_Js_97 : ("ResultForms$Json", 97, "\"}", 23) ∈ aw_ldc := List.mem_of_getElem? (i := 23) rfl
set_option maxRecDepth 40000 in
theorem tL_Te_64 : ("ResultForms$Terms", 64, "\\\"", 12) ∈ aw_ldc := List.mem_of_getElem? (i := 12) rfl
set_option maxRecDepth 40000 in
theorem vL_Te_66_By : aw_cv "ResultForms$Terms" 66 "ResultForms$Bytes" M_By_addAll 1 := ⟨c_By_addAll, by decide, by decide, by decide +kernel, (aw_in 678 (by decide +kernel) rfl), (aw_in 93 (by decide +kernel) rfl), Or.inl ⟨(aw_in 734 (by decide +kernel) rfl), (aw_in 679 (by decide +kernel) rfl)⟩⟩
set_option maxRecDepth 40000 in
theorem tL_Te_70 : ("ResultForms$Terms", 70, "\\\\", 13) ∈ aw_ldc := List.mem_of_getElem? (i := 13) rfl
set_option maxRecDepth 40000 in
theorem tL_Te_72 : ("ResultForms$Terms", 72, "\\t", 14) ∈ aw_ldc := List.mem_of_getElem? (i := 14) rfl
set_option maxRecDepth 40000 in
theorem tL_Te_74 : ("ResultForms$Terms", 74, "\\n", 15) ∈ aw_ldc := List.mem_of_getElem? (i := 15) rfl
set_option maxRecDepth 40000 in
theorem tL_Te_76 : ("ResultForms$Terms", 76, "\\\x72", 16) ∈ aw_ldc := List.mem_of_getElem? (i := 16) rfl
set_option maxRecDepth 40000 in
theorem vL_Te_58_By : aw_cv "ResultForms$Terms" 58 "ResultForms$Bytes" M_By_add 1 := ⟨c_By_add, by decide, by decide, by decide +kernel, (aw_in 411 (by decide +kernel) rfl), (aw_in 93 (by decide +kernel) rfl), Or.inl ⟨(aw_in 739 (by decide +kernel) rfl), (aw_in 412 (by decide +kernel) rfl)⟩⟩
set_option maxRecDepth 40000 in
theorem sL_Te_78 : aw_cs "ResultForms$Terms" 78 M_RF_typeName 1 := ⟨c_RF_typeName, by decide, by decide, by decide +kernel, (aw_in 747 (by decide +kernel) rfl), (aw_in 92 (by decide +kernel) rfl), Or.inr ⟨"ResultForms", (List.mem_of_getElem? (i := 35) rfl)⟩⟩
set_option maxRecDepth 40000 in
theorem tL_RF_256 : ("ResultForms", 256, "whole", 19) ∈ aw_ldc := List.mem_of_getElem? (i := 19) rfl
set_option maxRecDepth 40000 in
theorem tL_RF_258 : ("ResultForms", 258, "real", 20) ∈ aw_ldc := List.mem_of_getElem? (i := 20) rfl
set_option maxRecDepth 40000 in
theorem tL_RF_260 : ("ResultForms", 260, "truth", 21) ∈ aw_ldc := List.mem_of_getElem? (i := 21) rfl
set_option maxRecDepth 40000 in
theorem tL_RF_262 : ("ResultForms", 262, "date", 22) ∈ aw_ldc := List.mem_of_getElem? (i := 22) rfl
set_option maxRecDepth 40000 in
theorem fL_Xm_15_Xm : aw_fd "ResultForms$Xml" 15 6 1 (.object "ResultForms$Bytes") true := ⟨"ResultForms$Xml", "ResultForms$Xml", T_Xm, 3, ty_Xm, rfl, by decide, in_Xm, ok_Xm, nm_Xm, rfl, rfl, (Or.inl (aw_in 292 (by decide +kernel) rfl)), (Or.inl rfl)⟩
set_option maxRecDepth 40000 in
theorem tL_Xm_37 : ("ResultForms$Xml", 37, "<sparql><head>", 25) ∈ aw_ldc := List.mem_of_getElem? (i := 25) rfl
set_option maxRecDepth 40000 in
theorem vL_Xm_25_By : aw_cv "ResultForms$Xml" 25 "ResultForms$Bytes" M_By_addAll 1 := ⟨c_By_addAll, by decide, by decide, by decide +kernel, (aw_in 678 (by decide +kernel) rfl), (aw_in 93 (by decide +kernel) rfl), Or.inl ⟨(aw_in 760 (by decide +kernel) rfl), (aw_in 679 (by decide +kernel) rfl)⟩⟩
set_option maxRecDepth 40000 in
theorem fL_Xm_39_Tb : aw_fd "ResultForms$Xml" 39 3 3 .int false := ⟨"ResultForms$Table", "ResultForms$Table", T_Tb, 5, ty_Tb, rfl, by decide, in_Tb, ok_Tb, nm_Tb, rfl, rfl, (Or.inr ⟨"ResultForms", (List.mem_of_getElem? (i := 8) rfl)⟩), (Or.inl rfl)⟩
set_option maxRecDepth 40000 in
theorem tL_Xm_45 : ("ResultForms$Xml", 45, "<variable name=\"", 26) ∈ aw_ldc := List.mem_of_getElem? (i := 26) rfl
set_option maxRecDepth 40000 in
theorem vL_Xm_47_Tb : aw_cv "ResultForms$Xml" 47 "ResultForms$Table" M_Tb_printName 2 := ⟨c_Tb_printName, by decide, by decide, by decide +kernel, (aw_in 709 (by decide +kernel) rfl), (aw_in 96 (by decide +kernel) rfl), Or.inl ⟨(aw_in 762 (by decide +kernel) rfl), (aw_in 710 (by decide +kernel) rfl)⟩⟩
set_option maxRecDepth 40000 in
theorem tL_Xm_51 : ("ResultForms$Xml", 51, "\"/>", 27) ∈ aw_ldc := List.mem_of_getElem? (i := 27) rfl
set_option maxRecDepth 40000 in
theorem tL_Xm_53 : ("ResultForms$Xml", 53, "</head><results>", 28) ∈ aw_ldc := List.mem_of_getElem? (i := 28) rfl
set_option maxRecDepth 40000 in
theorem fL_Xm_55_Tb : aw_fd "ResultForms$Xml" 55 3 4 .int false := ⟨"ResultForms$Table", "ResultForms$Table", T_Tb, 5, ty_Tb, rfl, by decide, in_Tb, ok_Tb, nm_Tb, rfl, rfl, (Or.inr ⟨"ResultForms", (List.mem_of_getElem? (i := 13) rfl)⟩), (Or.inl rfl)⟩
set_option maxRecDepth 40000 in
theorem vL_Xm_58_Xm : aw_cv "ResultForms$Xml" 58 "ResultForms$Xml" M_Xm_printRow 2 := ⟨c_Xm_printRow, by decide, by decide, by decide +kernel, (aw_in 767 (by decide +kernel) rfl), (aw_in 99 (by decide +kernel) rfl), Or.inl ⟨(aw_in 765 (by decide +kernel) rfl), (aw_in 7 (by decide +kernel) rfl)⟩⟩
set_option maxRecDepth 40000 in
theorem tL_Xm_62 : ("ResultForms$Xml", 62, "</results></sparql>", 46) ∈ aw_ldc := List.mem_of_getElem? (i := 46) rfl
set_option maxRecDepth 40000 in
theorem tL_Xm_64 : ("ResultForms$Xml", 64, "<result>", 29) ∈ aw_ldc := List.mem_of_getElem? (i := 29) rfl
set_option maxRecDepth 40000 in
theorem vL_Xm_66_Tb : aw_cv "ResultForms$Xml" 66 "ResultForms$Table" M_Tb_cell 2 := ⟨c_Tb_cell, by decide, by decide, by decide +kernel, (aw_in 652 (by decide +kernel) rfl), (aw_in 96 (by decide +kernel) rfl), Or.inl ⟨(aw_in 770 (by decide +kernel) rfl), (aw_in 653 (by decide +kernel) rfl)⟩⟩
set_option maxRecDepth 40000 in
theorem tL_Xm_70 : ("ResultForms$Xml", 70, "<binding name=\"", 30) ∈ aw_ldc := List.mem_of_getElem? (i := 30) rfl
set_option maxRecDepth 40000 in
theorem tL_Xm_72 : ("ResultForms$Xml", 72, "\">", 31) ∈ aw_ldc := List.mem_of_getElem? (i := 31) rfl
set_option maxRecDepth 40000 in
theorem vL_Xm_74_Xm : aw_cv "ResultForms$Xml" 74 "ResultForms$Xml" M_Xm_printTerm 1 := ⟨c_Xm_printTerm, by decide, by decide, by decide +kernel, (aw_in 775 (by decide +kernel) rfl), (aw_in 99 (by decide +kernel) rfl), Or.inl ⟨(aw_in 773 (by decide +kernel) rfl), (aw_in 8 (by decide +kernel) rfl)⟩⟩
set_option maxRecDepth 40000 in
theorem tL_Xm_78 : ("ResultForms$Xml", 78, "</binding>", 44) ∈ aw_ldc := List.mem_of_getElem? (i := 44) rfl
set_option maxRecDepth 40000 in
theorem tL_Xm_80 : ("ResultForms$Xml", 80, "</result>", 45) ∈ aw_ldc := List.mem_of_getElem? (i := 45) rfl
set_option maxRecDepth 40000 in
theorem fL_Xm_19_Xm : aw_fd "ResultForms$Xml" 19 6 2 (.object "ResultForms$Terms") true := ⟨"ResultForms$Xml", "ResultForms$Xml", T_Xm, 3, ty_Xm, rfl, by decide, in_Xm, ok_Xm, nm_Xm, rfl, rfl, (Or.inl (aw_in 293 (by decide +kernel) rfl)), (Or.inl rfl)⟩
set_option maxRecDepth 40000 in
theorem vL_Xm_82_Te : aw_cv "ResultForms$Xml" 82 "ResultForms$Terms" M_Te_kindOf 1 := ⟨c_Te_kindOf, by decide, by decide, by decide +kernel, (aw_in 555 (by decide +kernel) rfl), (aw_in 95 (by decide +kernel) rfl), Or.inl ⟨(aw_in 777 (by decide +kernel) rfl), (aw_in 556 (by decide +kernel) rfl)⟩⟩
set_option maxRecDepth 40000 in
theorem sL_Xm_88 : aw_cs "ResultForms$Xml" 88 M_Xm_opening 1 := ⟨c_Xm_opening, by decide, by decide, by decide +kernel, (aw_in 779 (by decide +kernel) rfl), (aw_in 99 (by decide +kernel) rfl), Or.inl (aw_in 778 (by decide +kernel) rfl)⟩
set_option maxRecDepth 40000 in
theorem tL_Xm_92 : ("ResultForms$Xml", 92, " xml:lang=\"", 35) ∈ aw_ldc := List.mem_of_getElem? (i := 35) rfl
set_option maxRecDepth 40000 in
theorem tL_Xm_94 : ("ResultForms$Xml", 94, " datatype=\"", 36) ∈ aw_ldc := List.mem_of_getElem? (i := 36) rfl
set_option maxRecDepth 40000 in
theorem vL_Xm_96_Te : aw_cv "ResultForms$Xml" 96 "ResultForms$Terms" M_Te_printExtra 2 := ⟨c_Te_printExtra, by decide, by decide, by decide +kernel, (aw_in 743 (by decide +kernel) rfl), (aw_in 95 (by decide +kernel) rfl), Or.inl ⟨(aw_in 786 (by decide +kernel) rfl), (aw_in 744 (by decide +kernel) rfl)⟩⟩
set_option maxRecDepth 40000 in
theorem vL_Xm_99_By : aw_cv "ResultForms$Xml" 99 "ResultForms$Bytes" M_By_add 1 := ⟨c_By_add, by decide, by decide, by decide +kernel, (aw_in 411 (by decide +kernel) rfl), (aw_in 93 (by decide +kernel) rfl), Or.inl ⟨(aw_in 787 (by decide +kernel) rfl), (aw_in 412 (by decide +kernel) rfl)⟩⟩
set_option maxRecDepth 40000 in
theorem vL_Xm_102_Xm : aw_cv "ResultForms$Xml" 102 "ResultForms$Xml" M_Xm_printText 1 := ⟨c_Xm_printText, by decide, by decide, by decide +kernel, (aw_in 790 (by decide +kernel) rfl), (aw_in 99 (by decide +kernel) rfl), Or.inl ⟨(aw_in 788 (by decide +kernel) rfl), (aw_in 9 (by decide +kernel) rfl)⟩⟩
set_option maxRecDepth 40000 in
theorem sL_Xm_105 : aw_cs "ResultForms$Xml" 105 M_Xm_closing 1 := ⟨c_Xm_closing, by decide, by decide, by decide +kernel, (aw_in 799 (by decide +kernel) rfl), (aw_in 99 (by decide +kernel) rfl), Or.inl (aw_in 798 (by decide +kernel) rfl)⟩
set_option maxRecDepth 40000 in
theorem tL_Xm_108 : ("ResultForms$Xml", 108, "<uri", 32) ∈ aw_ldc := List.mem_of_getElem? (i := 32) rfl
set_option maxRecDepth 40000 in
theorem tL_Xm_110 : ("ResultForms$Xml", 110, "<bnode", 33) ∈ aw_ldc := List.mem_of_getElem? (i := 33) rfl
set_option maxRecDepth 40000 in
theorem tL_Xm_112 : ("ResultForms$Xml", 112, "<literal", 34) ∈ aw_ldc := List.mem_of_getElem? (i := 34) rfl
set_option maxRecDepth 40000 in
theorem vL_Xm_120_Te : aw_cv "ResultForms$Xml" 120 "ResultForms$Terms" M_Te_lengthOf 1 := ⟨c_Te_lengthOf, by decide, by decide, by decide +kernel, (aw_in 567 (by decide +kernel) rfl), (aw_in 95 (by decide +kernel) rfl), Or.inl ⟨(aw_in 792 (by decide +kernel) rfl), (aw_in 568 (by decide +kernel) rfl)⟩⟩
set_option maxRecDepth 40000 in
theorem vL_Xm_123_Te : aw_cv "ResultForms$Xml" 123 "ResultForms$Terms" M_Te_byteOf 2 := ⟨c_Te_byteOf, by decide, by decide, by decide +kernel, (aw_in 571 (by decide +kernel) rfl), (aw_in 95 (by decide +kernel) rfl), Or.inl ⟨(aw_in 793 (by decide +kernel) rfl), (aw_in 572 (by decide +kernel) rfl)⟩⟩
set_option maxRecDepth 40000 in
theorem tL_Xm_126 : ("ResultForms$Xml", 126, "&amp;", 37) ∈ aw_ldc := List.mem_of_getElem? (i := 37) rfl
set_option maxRecDepth 40000 in
theorem tL_Xm_128 : ("ResultForms$Xml", 128, "&lt;", 38) ∈ aw_ldc := List.mem_of_getElem? (i := 38) rfl
set_option maxRecDepth 40000 in
theorem tL_Xm_130 : ("ResultForms$Xml", 130, "&gt;", 39) ∈ aw_ldc := List.mem_of_getElem? (i := 39) rfl
set_option maxRecDepth 40000 in
theorem tL_Xm_132 : ("ResultForms$Xml", 132, "&#13;", 40) ∈ aw_ldc := List.mem_of_getElem? (i := 40) rfl
set_option maxRecDepth 40000 in
theorem tL_Xm_114 : ("ResultForms$Xml", 114, "</uri>", 41) ∈ aw_ldc := List.mem_of_getElem? (i := 41) rfl
set_option maxRecDepth 40000 in
theorem tL_Xm_116 : ("ResultForms$Xml", 116, "</bnode>", 42) ∈ aw_ldc := List.mem_of_getElem? (i := 42) rfl
set_option maxRecDepth 40000 in
theorem tL_Xm_118 : ("ResultForms$Xml", 118, "</literal>", 43) ∈ aw_ldc := List.mem_of_getElem? (i := 43) rfl
set_option maxRecDepth 40000 in
theorem fL_Ln_34_Tb : aw_fd "ResultForms$Lines" 34 3 3 .int false := ⟨"ResultForms$Table", "ResultForms$Table", T_Tb, 5, ty_Tb, rfl, by decide, in_Tb, ok_Tb, nm_Tb, rfl, rfl, (Or.inr ⟨"ResultForms", (List.mem_of_getElem? (i := 9) rfl)⟩), (Or.inl rfl)⟩
set_option maxRecDepth 40000 in
theorem fL_Ln_15_Cm : aw_fd "ResultForms$Lines" 15 7 1 (.object "ResultForms$Bytes") true := ⟨"ResultForms$Commas", "ResultForms$Lines", T_Cm, 6, ty_Cm, rfl, by decide, in_Cm, ok_Cm, nm_Cm, rfl, rfl, (Or.inl (aw_in 317 (by decide +kernel) rfl)), (Or.inl rfl)⟩
set_option maxRecDepth 40000 in
theorem fL_Ln_15_Ta : aw_fd "ResultForms$Lines" 15 8 1 (.object "ResultForms$Bytes") true := ⟨"ResultForms$Tabs", "ResultForms$Lines", T_Ta, 6, ty_Ta, rfl, by decide, in_Ta, ok_Ta, nm_Ta, rfl, rfl, (Or.inl (aw_in 317 (by decide +kernel) rfl)), (Or.inl rfl)⟩
set_option maxRecDepth 40000 in
theorem fL_Ln_27_Cm : aw_fd "ResultForms$Lines" 27 7 4 .char true := ⟨"ResultForms$Commas", "ResultForms$Lines", T_Cm, 6, ty_Cm, rfl, by decide, in_Cm, ok_Cm, nm_Cm, rfl, rfl, (Or.inl (aw_in 328 (by decide +kernel) rfl)), (Or.inl rfl)⟩
set_option maxRecDepth 40000 in
theorem fL_Ln_27_Ta : aw_fd "ResultForms$Lines" 27 8 4 .char true := ⟨"ResultForms$Tabs", "ResultForms$Lines", T_Ta, 6, ty_Ta, rfl, by decide, in_Ta, ok_Ta, nm_Ta, rfl, rfl, (Or.inl (aw_in 328 (by decide +kernel) rfl)), (Or.inl rfl)⟩
set_option maxRecDepth 40000 in
theorem vL_Ln_40_By : aw_cv "ResultForms$Lines" 40 "ResultForms$Bytes" M_By_add 1 := ⟨c_By_add, by decide, by decide, by decide +kernel, (aw_in 411 (by decide +kernel) rfl), (aw_in 93 (by decide +kernel) rfl), Or.inl ⟨(aw_in 813 (by decide +kernel) rfl), (aw_in 412 (by decide +kernel) rfl)⟩⟩
set_option maxRecDepth 40000 in
theorem fL_Ln_23_Cm : aw_fd "ResultForms$Lines" 23 7 3 (.object "java/lang/String") true := ⟨"ResultForms$Commas", "ResultForms$Lines", T_Cm, 6, ty_Cm, rfl, by decide, in_Cm, ok_Cm, nm_Cm, rfl, rfl, (Or.inl (aw_in 327 (by decide +kernel) rfl)), (Or.inl rfl)⟩
set_option maxRecDepth 40000 in
theorem fL_Ln_23_Ta : aw_fd "ResultForms$Lines" 23 8 3 (.object "java/lang/String") true := ⟨"ResultForms$Tabs", "ResultForms$Lines", T_Ta, 6, ty_Ta, rfl, by decide, in_Ta, ok_Ta, nm_Ta, rfl, rfl, (Or.inl (aw_in 327 (by decide +kernel) rfl)), (Or.inl rfl)⟩
set_option maxRecDepth 40000 in
theorem vL_Ln_46_By : aw_cv "ResultForms$Lines" 46 "ResultForms$Bytes" M_By_addAll 1 := ⟨c_By_addAll, by decide, by decide, by decide +kernel, (aw_in 678 (by decide +kernel) rfl), (aw_in 93 (by decide +kernel) rfl), Or.inl ⟨(aw_in 814 (by decide +kernel) rfl), (aw_in 679 (by decide +kernel) rfl)⟩⟩
set_option maxRecDepth 40000 in
theorem vL_Ln_50_Tb : aw_cv "ResultForms$Lines" 50 "ResultForms$Table" M_Tb_printName 2 := ⟨c_Tb_printName, by decide, by decide, by decide +kernel, (aw_in 709 (by decide +kernel) rfl), (aw_in 96 (by decide +kernel) rfl), Or.inl ⟨(aw_in 815 (by decide +kernel) rfl), (aw_in 710 (by decide +kernel) rfl)⟩⟩
set_option maxRecDepth 40000 in
theorem fL_Ln_31_Cm : aw_fd "ResultForms$Lines" 31 7 5 (.object "java/lang/String") true := ⟨"ResultForms$Commas", "ResultForms$Lines", T_Cm, 6, ty_Cm, rfl, by decide, in_Cm, ok_Cm, nm_Cm, rfl, rfl, (Or.inl (aw_in 329 (by decide +kernel) rfl)), (Or.inl rfl)⟩
set_option maxRecDepth 40000 in
theorem fL_Ln_31_Ta : aw_fd "ResultForms$Lines" 31 8 5 (.object "java/lang/String") true := ⟨"ResultForms$Tabs", "ResultForms$Lines", T_Ta, 6, ty_Ta, rfl, by decide, in_Ta, ok_Ta, nm_Ta, rfl, rfl, (Or.inl (aw_in 329 (by decide +kernel) rfl)), (Or.inl rfl)⟩
set_option maxRecDepth 40000 in
theorem fL_Ln_54_Tb : aw_fd "ResultForms$Lines" 54 3 4 .int false := ⟨"ResultForms$Table", "ResultForms$Table", T_Tb, 5, ty_Tb, rfl, by decide, in_Tb, ok_Tb, nm_Tb, rfl, rfl, (Or.inr ⟨"ResultForms", (List.mem_of_getElem? (i := 14) rfl)⟩), (Or.inl rfl)⟩
set_option maxRecDepth 40000 in
theorem vL_Ln_57_Cm : aw_cv "ResultForms$Lines" 57 "ResultForms$Commas" M_Ln_printRow 2 := ⟨c_Ln_printRow, by decide, by decide, by decide +kernel, (aw_in 818 (by decide +kernel) rfl), (aw_in 100 (by decide +kernel) rfl), Or.inr (Or.inr ⟨⟨"ResultForms$Lines", "printRow", "(LResultForms$Table;I)V"⟩, "ResultForms$Lines", (aw_in 816 (by decide +kernel) rfl), (aw_in 1810 (by decide +kernel) rfl), (List.mem_append_left _ (List.mem_of_getElem? (i := 0) rfl)), rfl, by decide, by decide, Or.inl rfl⟩)⟩
set_option maxRecDepth 40000 in
theorem vL_Ln_57_Ta : aw_cv "ResultForms$Lines" 57 "ResultForms$Tabs" M_Ln_printRow 2 := ⟨c_Ln_printRow, by decide, by decide, by decide +kernel, (aw_in 818 (by decide +kernel) rfl), (aw_in 100 (by decide +kernel) rfl), Or.inr (Or.inr ⟨⟨"ResultForms$Lines", "printRow", "(LResultForms$Table;I)V"⟩, "ResultForms$Lines", (aw_in 816 (by decide +kernel) rfl), (aw_in 1810 (by decide +kernel) rfl), (List.mem_append_left _ (List.mem_of_getElem? (i := 3) rfl)), rfl, by decide, by decide, Or.inl rfl⟩)⟩
set_option maxRecDepth 40000 in
theorem vL_Ln_61_Tb : aw_cv "ResultForms$Lines" 61 "ResultForms$Table" M_Tb_cell 2 := ⟨c_Tb_cell, by decide, by decide, by decide +kernel, (aw_in 652 (by decide +kernel) rfl), (aw_in 96 (by decide +kernel) rfl), Or.inl ⟨(aw_in 820 (by decide +kernel) rfl), (aw_in 653 (by decide +kernel) rfl)⟩⟩
set_option maxRecDepth 40000 in
theorem vL_Ln_65_Cm : aw_cv "ResultForms$Lines" 65 "ResultForms$Commas" M_Cm_printTerm 1 := ⟨c_Cm_printTerm, by decide, by decide, by decide +kernel, (aw_in 825 (by decide +kernel) rfl), (aw_in 101 (by decide +kernel) rfl), Or.inr (Or.inr ⟨⟨"ResultForms$Lines", "printTerm", "(I)V"⟩, "ResultForms$Lines", (aw_in 821 (by decide +kernel) rfl), (aw_in 823 (by decide +kernel) rfl), (aw_in 824 (by decide +kernel) rfl), rfl, by decide, by decide, Or.inr (List.mem_of_getElem? (i := 37) rfl)⟩)⟩
set_option maxRecDepth 40000 in
theorem vL_Ln_65_Ta : aw_cv "ResultForms$Lines" 65 "ResultForms$Tabs" M_Ta_printTerm 1 := ⟨c_Ta_printTerm, by decide, by decide, by decide +kernel, (aw_in 846 (by decide +kernel) rfl), (aw_in 102 (by decide +kernel) rfl), Or.inr (Or.inr ⟨⟨"ResultForms$Lines", "printTerm", "(I)V"⟩, "ResultForms$Lines", (aw_in 821 (by decide +kernel) rfl), (aw_in 823 (by decide +kernel) rfl), (aw_in 845 (by decide +kernel) rfl), rfl, by decide, by decide, Or.inr (List.mem_of_getElem? (i := 37) rfl)⟩)⟩
set_option maxRecDepth 40000 in
theorem fL_Cm_13_Cm : aw_fd "ResultForms$Commas" 13 7 2 (.object "ResultForms$Terms") true := ⟨"ResultForms$Commas", "ResultForms$Commas", T_Cm, 6, ty_Cm, rfl, by decide, in_Cm, ok_Cm, nm_Cm, rfl, rfl, (Or.inl (aw_in 323 (by decide +kernel) rfl)), (Or.inr (aw_in 324 (by decide +kernel) rfl))⟩
set_option maxRecDepth 40000 in
theorem vL_Cm_19_Te : aw_cv "ResultForms$Commas" 19 "ResultForms$Terms" M_Te_kindOf 1 := ⟨c_Te_kindOf, by decide, by decide, by decide +kernel, (aw_in 555 (by decide +kernel) rfl), (aw_in 95 (by decide +kernel) rfl), Or.inl ⟨(aw_in 827 (by decide +kernel) rfl), (aw_in 556 (by decide +kernel) rfl)⟩⟩
set_option maxRecDepth 40000 in
theorem fL_Cm_25_Cm : aw_fd "ResultForms$Commas" 25 7 1 (.object "ResultForms$Bytes") true := ⟨"ResultForms$Commas", "ResultForms$Commas", T_Cm, 6, ty_Cm, rfl, by decide, in_Cm, ok_Cm, nm_Cm, rfl, rfl, (Or.inl (aw_in 318 (by decide +kernel) rfl)), (Or.inr (aw_in 319 (by decide +kernel) rfl))⟩
set_option maxRecDepth 40000 in
theorem tL_Cm_29 : ("ResultForms$Commas", 29, "_:", 47) ∈ aw_ldc := List.mem_of_getElem? (i := 47) rfl
set_option maxRecDepth 40000 in
theorem vL_Cm_31_By : aw_cv "ResultForms$Commas" 31 "ResultForms$Bytes" M_By_addAll 1 := ⟨c_By_addAll, by decide, by decide, by decide +kernel, (aw_in 678 (by decide +kernel) rfl), (aw_in 93 (by decide +kernel) rfl), Or.inl ⟨(aw_in 829 (by decide +kernel) rfl), (aw_in 679 (by decide +kernel) rfl)⟩⟩
set_option maxRecDepth 40000 in
theorem vL_Cm_37_Te : aw_cv "ResultForms$Commas" 37 "ResultForms$Terms" M_Te_printAsIs 2 := ⟨c_Te_printAsIs, by decide, by decide, by decide +kernel, (aw_in 831 (by decide +kernel) rfl), (aw_in 95 (by decide +kernel) rfl), Or.inl ⟨(aw_in 830 (by decide +kernel) rfl), (aw_in 832 (by decide +kernel) rfl)⟩⟩
set_option maxRecDepth 40000 in
theorem vL_Cm_41_Cm : aw_cv "ResultForms$Commas" 41 "ResultForms$Commas" M_Cm_needsQuotes 1 := ⟨c_Cm_needsQuotes, by decide, by decide, by decide +kernel, (aw_in 836 (by decide +kernel) rfl), (aw_in 101 (by decide +kernel) rfl), Or.inl ⟨(aw_in 834 (by decide +kernel) rfl), (aw_in 10 (by decide +kernel) rfl)⟩⟩
set_option maxRecDepth 40000 in
theorem vL_Cm_45_Cm : aw_cv "ResultForms$Commas" 45 "ResultForms$Commas" M_Cm_printQuoted 1 := ⟨c_Cm_printQuoted, by decide, by decide, by decide +kernel, (aw_in 842 (by decide +kernel) rfl), (aw_in 101 (by decide +kernel) rfl), Or.inl ⟨(aw_in 840 (by decide +kernel) rfl), (aw_in 11 (by decide +kernel) rfl)⟩⟩
set_option maxRecDepth 40000 in
theorem vL_Cm_49_Te : aw_cv "ResultForms$Commas" 49 "ResultForms$Terms" M_Te_lengthOf 1 := ⟨c_Te_lengthOf, by decide, by decide, by decide +kernel, (aw_in 567 (by decide +kernel) rfl), (aw_in 95 (by decide +kernel) rfl), Or.inl ⟨(aw_in 838 (by decide +kernel) rfl), (aw_in 568 (by decide +kernel) rfl)⟩⟩
set_option maxRecDepth 40000 in
theorem vL_Cm_52_Te : aw_cv "ResultForms$Commas" 52 "ResultForms$Terms" M_Te_byteOf 2 := ⟨c_Te_byteOf, by decide, by decide, by decide +kernel, (aw_in 571 (by decide +kernel) rfl), (aw_in 95 (by decide +kernel) rfl), Or.inl ⟨(aw_in 839 (by decide +kernel) rfl), (aw_in 572 (by decide +kernel) rfl)⟩⟩
set_option maxRecDepth 40000 in
theorem vL_Cm_56_By : aw_cv "ResultForms$Commas" 56 "ResultForms$Bytes" M_By_add 1 := ⟨c_By_add, by decide, by decide, by decide +kernel, (aw_in 411 (by decide +kernel) rfl), (aw_in 93 (by decide +kernel) rfl), Or.inl ⟨(aw_in 844 (by decide +kernel) rfl), (aw_in 412 (by decide +kernel) rfl)⟩⟩
set_option maxRecDepth 40000 in
theorem fL_Ta_13_Ta : aw_fd "ResultForms$Tabs" 13 8 2 (.object "ResultForms$Terms") true := ⟨"ResultForms$Tabs", "ResultForms$Tabs", T_Ta, 6, ty_Ta, rfl, by decide, in_Ta, ok_Ta, nm_Ta, rfl, rfl, (Or.inl (aw_in 325 (by decide +kernel) rfl)), (Or.inr (aw_in 326 (by decide +kernel) rfl))⟩
set_option maxRecDepth 40000 in
theorem vL_Ta_19_Te : aw_cv "ResultForms$Tabs" 19 "ResultForms$Terms" M_Te_kindOf 1 := ⟨c_Te_kindOf, by decide, by decide, by decide +kernel, (aw_in 555 (by decide +kernel) rfl), (aw_in 95 (by decide +kernel) rfl), Or.inl ⟨(aw_in 848 (by decide +kernel) rfl), (aw_in 556 (by decide +kernel) rfl)⟩⟩
set_option maxRecDepth 40000 in
theorem tL_Ta_25 : ("ResultForms$Tabs", 25, "<", 48) ∈ aw_ldc := List.mem_of_getElem? (i := 48) rfl
set_option maxRecDepth 40000 in
theorem tL_Ta_27 : ("ResultForms$Tabs", 27, ">", 49) ∈ aw_ldc := List.mem_of_getElem? (i := 49) rfl
set_option maxRecDepth 40000 in
theorem vL_Ta_29_Ta : aw_cv "ResultForms$Tabs" 29 "ResultForms$Tabs" M_Ta_printBetween 3 := ⟨c_Ta_printBetween, by decide, by decide, by decide +kernel, (aw_in 853 (by decide +kernel) rfl), (aw_in 102 (by decide +kernel) rfl), Or.inl ⟨(aw_in 851 (by decide +kernel) rfl), (aw_in 12 (by decide +kernel) rfl)⟩⟩
set_option maxRecDepth 40000 in
theorem tL_Ta_33 : ("ResultForms$Tabs", 33, "_:", 50) ∈ aw_ldc := List.mem_of_getElem? (i := 50) rfl
set_option maxRecDepth 40000 in
theorem tL_Ta_35 : ("ResultForms$Tabs", 35, "", 51) ∈ aw_ldc := List.mem_of_getElem? (i := 51) rfl
set_option maxRecDepth 40000 in
theorem tL_Ta_37 : ("ResultForms$Tabs", 37, "\"", 52) ∈ aw_ldc := List.mem_of_getElem? (i := 52) rfl
set_option maxRecDepth 40000 in
theorem tL_Ta_39 : ("ResultForms$Tabs", 39, "\"@", 53) ∈ aw_ldc := List.mem_of_getElem? (i := 53) rfl
set_option maxRecDepth 40000 in
theorem fL_Ta_41_Ta : aw_fd "ResultForms$Tabs" 41 8 1 (.object "ResultForms$Bytes") true := ⟨"ResultForms$Tabs", "ResultForms$Tabs", T_Ta, 6, ty_Ta, rfl, by decide, in_Ta, ok_Ta, nm_Ta, rfl, rfl, (Or.inl (aw_in 320 (by decide +kernel) rfl)), (Or.inr (aw_in 321 (by decide +kernel) rfl))⟩
set_option maxRecDepth 40000 in
theorem vL_Ta_45_Te : aw_cv "ResultForms$Tabs" 45 "ResultForms$Terms" M_Te_printExtra 2 := ⟨c_Te_printExtra, by decide, by decide, by decide +kernel, (aw_in 743 (by decide +kernel) rfl), (aw_in 95 (by decide +kernel) rfl), Or.inl ⟨(aw_in 861 (by decide +kernel) rfl), (aw_in 744 (by decide +kernel) rfl)⟩⟩
set_option maxRecDepth 40000 in
theorem tL_Ta_49 : ("ResultForms$Tabs", 49, "\"^^", 54) ∈ aw_ldc := List.mem_of_getElem? (i := 54) rfl
set_option maxRecDepth 40000 in
theorem vL_Ta_51_By : aw_cv "ResultForms$Tabs" 51 "ResultForms$Bytes" M_By_addAll 1 := ⟨c_By_addAll, by decide, by decide, by decide +kernel, (aw_in 678 (by decide +kernel) rfl), (aw_in 93 (by decide +kernel) rfl), Or.inl ⟨(aw_in 855 (by decide +kernel) rfl), (aw_in 679 (by decide +kernel) rfl)⟩⟩
set_option maxRecDepth 40000 in
theorem vL_Ta_57_Te : aw_cv "ResultForms$Tabs" 57 "ResultForms$Terms" M_Te_printBackslashed 2 := ⟨c_Te_printBackslashed, by decide, by decide, by decide +kernel, (aw_in 730 (by decide +kernel) rfl), (aw_in 95 (by decide +kernel) rfl), Or.inl ⟨(aw_in 856 (by decide +kernel) rfl), (aw_in 731 (by decide +kernel) rfl)⟩⟩
set_option maxRecDepth 40000 in
theorem fL_RF_234_By : aw_fd "ResultForms" 234 0 2 .boolean false := ⟨"ResultForms$Bytes", "ResultForms$Bytes", T_By, 3, ty_By, rfl, by decide, in_By, ok_By, nm_By, rfl, rfl, (Or.inr ⟨"ResultForms", (List.mem_of_getElem? (i := 4) rfl)⟩), (Or.inl rfl)⟩
set_option maxRecDepth 40000 in
theorem vL_RF_237_By : aw_cv "ResultForms" 237 "ResultForms$Bytes" M_By_copyFrom 1 := ⟨c_By_copyFrom, by decide, by decide, by decide +kernel, (aw_in 871 (by decide +kernel) rfl), (aw_in 93 (by decide +kernel) rfl), Or.inl ⟨(aw_in 870 (by decide +kernel) rfl), (aw_in 872 (by decide +kernel) rfl)⟩⟩
set_option maxRecDepth 40000 in
theorem vL_By_36_By : aw_cv "ResultForms$Bytes" 36 "ResultForms$Bytes" M_By_empty 0 := ⟨c_By_empty, by decide, by decide, by decide +kernel, (aw_in 443 (by decide +kernel) rfl), (aw_in 93 (by decide +kernel) rfl), Or.inl ⟨(aw_in 874 (by decide +kernel) rfl), (aw_in 444 (by decide +kernel) rfl)⟩⟩
set_option maxRecDepth 40000 in
theorem vL_By_39_By : aw_cv "ResultForms$Bytes" 39 "ResultForms$Bytes" M_By_get 1 := ⟨c_By_get, by decide, by decide, by decide +kernel, (aw_in 419 (by decide +kernel) rfl), (aw_in 93 (by decide +kernel) rfl), Or.inl ⟨(aw_in 875 (by decide +kernel) rfl), (aw_in 420 (by decide +kernel) rfl)⟩⟩
set_option maxRecDepth 40000 in
theorem vL_RF_193_Js : aw_cv "ResultForms" 193 "ResultForms$Json" M_Js_printTruth 1 := ⟨c_Js_printTruth, by decide, by decide, by decide +kernel, (aw_in 881 (by decide +kernel) rfl), (aw_in 98 (by decide +kernel) rfl), Or.inl ⟨(aw_in 880 (by decide +kernel) rfl), (aw_in 882 (by decide +kernel) rfl)⟩⟩
set_option maxRecDepth 40000 in
theorem vL_RF_197_Xm : aw_cv "ResultForms" 197 "ResultForms$Xml" M_Xm_printTruth 1 := ⟨c_Xm_printTruth, by decide, by decide, by decide +kernel, (aw_in 891 (by decide +kernel) rfl), (aw_in 99 (by decide +kernel) rfl), Or.inl ⟨(aw_in 890 (by decide +kernel) rfl), (aw_in 892 (by decide +kernel) rfl)⟩⟩
set_option maxRecDepth 40000 in
theorem tL_Js_23 : ("ResultForms$Json", 23, "{\"head\":{},\"boolean\":", 55) ∈ aw_ldc := List.mem_of_getElem? (i := 55) rfl
set_option maxRecDepth 40000 in
theorem sL_Js_31 : aw_cs "ResultForms$Json" 31 M_RF_truthName 1 := ⟨c_RF_truthName, by decide, by decide, by decide +kernel, (aw_in 886 (by decide +kernel) rfl), (aw_in 92 (by decide +kernel) rfl), Or.inr ⟨"ResultForms", (List.mem_of_getElem? (i := 38) rfl)⟩⟩
set_option maxRecDepth 40000 in
theorem tL_RF_264 : ("ResultForms", 264, "true", 56) ∈ aw_ldc := List.mem_of_getElem? (i := 56) rfl
set_option maxRecDepth 40000 in
theorem tL_RF_266 : ("ResultForms", 266, "false", 57) ∈ aw_ldc := List.mem_of_getElem? (i := 57) rfl
set_option maxRecDepth 40000 in
theorem tL_Xm_23 : ("ResultForms$Xml", 23, "<sparql><head></head><boolean>", 58) ∈ aw_ldc := List.mem_of_getElem? (i := 58) rfl
set_option maxRecDepth 40000 in
theorem sL_Xm_31 : aw_cs "ResultForms$Xml" 31 M_RF_truthName 1 := ⟨c_RF_truthName, by decide, by decide, by decide +kernel, (aw_in 886 (by decide +kernel) rfl), (aw_in 92 (by decide +kernel) rfl), Or.inr ⟨"ResultForms", (List.mem_of_getElem? (i := 39) rfl)⟩⟩
set_option maxRecDepth 40000 in
theorem tL_Xm_35 : ("ResultForms$Xml", 35, "</boolean></sparql>", 59) ∈ aw_ldc := List.mem_of_getElem? (i := 59) rfl
set_option maxRecDepth 40000 in
theorem fL_RF_43_RF : aw_fd "ResultForms" 43 9 6 (.object "ResultForms$Table") true := ⟨"ResultForms", "ResultForms", T_RF, 14, ty_RF, rfl, by decide, in_RF, ok_RF, nm_RF, rfl, rfl, (Or.inl (aw_in 365 (by decide +kernel) rfl)), (Or.inl rfl)⟩
set_option maxRecDepth 40000 in
theorem vL_RF_198_Sc : aw_cv "ResultForms" 198 "ResultForms$Scanner" M_Sc_begin 0 := ⟨c_Sc_begin, by decide, by decide, by decide +kernel, (aw_in 217 (by decide +kernel) rfl), (aw_in 97 (by decide +kernel) rfl), Or.inl ⟨(aw_in 905 (by decide +kernel) rfl), (aw_in 218 (by decide +kernel) rfl)⟩⟩
set_option maxRecDepth 40000 in
theorem vL_RF_201_Js : aw_cv "ResultForms" 201 "ResultForms$Json" M_Js_parse 1 := ⟨c_Js_parse, by decide, by decide, by decide +kernel, (aw_in 907 (by decide +kernel) rfl), (aw_in 98 (by decide +kernel) rfl), Or.inl ⟨(aw_in 906 (by decide +kernel) rfl), (aw_in 908 (by decide +kernel) rfl)⟩⟩
set_option maxRecDepth 40000 in
theorem vL_RF_205_Xm : aw_cv "ResultForms" 205 "ResultForms$Xml" M_Xm_parse 1 := ⟨c_Xm_parse, by decide, by decide, by decide +kernel, (aw_in 1044 (by decide +kernel) rfl), (aw_in 99 (by decide +kernel) rfl), Or.inl ⟨(aw_in 1043 (by decide +kernel) rfl), (aw_in 1045 (by decide +kernel) rfl)⟩⟩
set_option maxRecDepth 40000 in
theorem vL_RF_206_Cm : aw_cv "ResultForms" 206 "ResultForms$Commas" M_Ln_parse 1 := ⟨c_Ln_parse, by decide, by decide, by decide +kernel, (aw_in 1112 (by decide +kernel) rfl), (aw_in 100 (by decide +kernel) rfl), Or.inr (Or.inr ⟨⟨"ResultForms$Commas", "parse", "(LResultForms$Table;)Z"⟩, "ResultForms$Lines", (aw_in 1108 (by decide +kernel) rfl), (aw_in 1109 (by decide +kernel) rfl), (aw_in 1111 (by decide +kernel) rfl), rfl, by decide, by decide, Or.inl rfl⟩)⟩
set_option maxRecDepth 40000 in
theorem vL_RF_207_Ta : aw_cv "ResultForms" 207 "ResultForms$Tabs" M_Ln_parse 1 := ⟨c_Ln_parse, by decide, by decide, by decide +kernel, (aw_in 1112 (by decide +kernel) rfl), (aw_in 100 (by decide +kernel) rfl), Or.inr (Or.inr ⟨⟨"ResultForms$Tabs", "parse", "(LResultForms$Table;)Z"⟩, "ResultForms$Lines", (aw_in 1203 (by decide +kernel) rfl), (aw_in 1204 (by decide +kernel) rfl), (aw_in 1205 (by decide +kernel) rfl), rfl, by decide, by decide, Or.inl rfl⟩)⟩
set_option maxRecDepth 40000 in
theorem vL_RF_208_Tb : aw_cv "ResultForms" 208 "ResultForms$Table" M_Tb_copyFrom 1 := ⟨c_Tb_copyFrom, by decide, by decide, by decide +kernel, (aw_in 1207 (by decide +kernel) rfl), (aw_in 96 (by decide +kernel) rfl), Or.inl ⟨(aw_in 1206 (by decide +kernel) rfl), (aw_in 1208 (by decide +kernel) rfl)⟩⟩
set_option maxRecDepth 40000 in
theorem vL_RF_211_Te : aw_cv "ResultForms" 211 "ResultForms$Terms" M_Te_forgetFrom 1 := ⟨c_Te_forgetFrom, by decide, by decide, by decide +kernel, (aw_in 1211 (by decide +kernel) rfl), (aw_in 95 (by decide +kernel) rfl), Or.inl ⟨(aw_in 1210 (by decide +kernel) rfl), (aw_in 1212 (by decide +kernel) rfl)⟩⟩
set_option maxRecDepth 40000 in
theorem fL_RF_214_Sc : aw_fd "ResultForms" 214 4 2 .int false := ⟨"ResultForms$Scanner", "ResultForms$Scanner", T_Sc, 8, ty_Sc, rfl, by decide, in_Sc, ok_Sc, nm_Sc, rfl, rfl, (Or.inr ⟨"ResultForms", (List.mem_of_getElem? (i := 20) rfl)⟩), (Or.inl rfl)⟩
set_option maxRecDepth 40000 in
theorem fL_Js_9_Js : aw_fd "ResultForms$Json" 9 5 0 (.object "ResultForms$Scanner") true := ⟨"ResultForms$Json", "ResultForms$Json", T_Js, 3, ty_Js, rfl, by decide, in_Js, ok_Js, nm_Js, rfl, rfl, (Or.inl (aw_in 275 (by decide +kernel) rfl)), (Or.inl rfl)⟩
set_option maxRecDepth 40000 in
theorem tL_Js_117 : ("ResultForms$Json", 117, " { \"head\" : { \"vars\" : [ ", 60) ∈ aw_ldc := List.mem_of_getElem? (i := 60) rfl
set_option maxRecDepth 40000 in
theorem vL_Js_101_Sc : aw_cv "ResultForms$Json" 101 "ResultForms$Scanner" M_Sc_mustLoosely 1 := ⟨c_Sc_mustLoosely, by decide, by decide, by decide +kernel, (aw_in 912 (by decide +kernel) rfl), (aw_in 97 (by decide +kernel) rfl), Or.inl ⟨(aw_in 911 (by decide +kernel) rfl), (aw_in 913 (by decide +kernel) rfl)⟩⟩
set_option maxRecDepth 40000 in
theorem vL_Js_119_Js : aw_cv "ResultForms$Json" 119 "ResultForms$Json" M_Js_parseNames 1 := ⟨c_Js_parseNames, by decide, by decide, by decide +kernel, (aw_in 935 (by decide +kernel) rfl), (aw_in 98 (by decide +kernel) rfl), Or.inl ⟨(aw_in 933 (by decide +kernel) rfl), (aw_in 14 (by decide +kernel) rfl)⟩⟩
set_option maxRecDepth 40000 in
theorem tL_Js_123 : ("ResultForms$Json", 123, " } , \"results\" : { \"bindings\" : [ ", 64) ∈ aw_ldc := List.mem_of_getElem? (i := 64) rfl
set_option maxRecDepth 40000 in
theorem vL_Js_125_Js : aw_cv "ResultForms$Json" 125 "ResultForms$Json" M_Js_parseRows 1 := ⟨c_Js_parseRows, by decide, by decide, by decide +kernel, (aw_in 964 (by decide +kernel) rfl), (aw_in 98 (by decide +kernel) rfl), Or.inl ⟨(aw_in 962 (by decide +kernel) rfl), (aw_in 16 (by decide +kernel) rfl)⟩⟩
set_option maxRecDepth 40000 in
theorem tL_Js_128 : ("ResultForms$Json", 128, " } } ", 74) ∈ aw_ldc := List.mem_of_getElem? (i := 74) rfl
set_option maxRecDepth 40000 in
theorem vL_Js_113_Sc : aw_cv "ResultForms$Json" 113 "ResultForms$Scanner" M_Sc_mustEnd 0 := ⟨c_Sc_mustEnd, by decide, by decide, by decide +kernel, (aw_in 1036 (by decide +kernel) rfl), (aw_in 97 (by decide +kernel) rfl), Or.inl ⟨(aw_in 1035 (by decide +kernel) rfl), (aw_in 1037 (by decide +kernel) rfl)⟩⟩
set_option maxRecDepth 40000 in
theorem vL_Sc_71_JS : aw_cv "ResultForms$Scanner" 71 "java/lang/String" M_JS_length 0 := ⟨c_JS_length, by decide, by decide, by decide +kernel, (aw_in 476 (by decide +kernel) rfl), (aw_in 104 (by decide +kernel) rfl), Or.inl ⟨(aw_in 915 (by decide +kernel) rfl), (aw_in 477 (by decide +kernel) rfl)⟩⟩
set_option maxRecDepth 40000 in
theorem vL_Sc_79_JS : aw_cv "ResultForms$Scanner" 79 "java/lang/String" M_JS_charAt 1 := ⟨c_JS_charAt, by decide, by decide, by decide +kernel, (aw_in 683 (by decide +kernel) rfl), (aw_in 104 (by decide +kernel) rfl), Or.inl ⟨(aw_in 916 (by decide +kernel) rfl), (aw_in 684 (by decide +kernel) rfl)⟩⟩
set_option maxRecDepth 40000 in
theorem vL_Sc_87_Sc : aw_cv "ResultForms$Scanner" 87 "ResultForms$Scanner" M_Sc_skipBlanks 0 := ⟨c_Sc_skipBlanks, by decide, by decide, by decide +kernel, (aw_in 918 (by decide +kernel) rfl), (aw_in 97 (by decide +kernel) rfl), Or.inl ⟨(aw_in 917 (by decide +kernel) rfl), (aw_in 919 (by decide +kernel) rfl)⟩⟩
set_option maxRecDepth 40000 in
theorem vL_Sc_83_Sc : aw_cv "ResultForms$Scanner" 83 "ResultForms$Scanner" M_Sc_took 1 := ⟨c_Sc_took, by decide, by decide, by decide +kernel, (aw_in 926 (by decide +kernel) rfl), (aw_in 97 (by decide +kernel) rfl), Or.inl ⟨(aw_in 925 (by decide +kernel) rfl), (aw_in 927 (by decide +kernel) rfl)⟩⟩
set_option maxRecDepth 40000 in
theorem vL_Sc_60_Sc : aw_cv "ResultForms$Scanner" 60 "ResultForms$Scanner" M_Sc_fail 0 := ⟨c_Sc_fail, by decide, by decide, by decide +kernel, (aw_in 930 (by decide +kernel) rfl), (aw_in 97 (by decide +kernel) rfl), Or.inl ⟨(aw_in 929 (by decide +kernel) rfl), (aw_in 931 (by decide +kernel) rfl)⟩⟩
set_option maxRecDepth 40000 in
theorem fL_Sc_25_Sc : aw_fd "ResultForms$Scanner" 25 4 1 .int false := ⟨"ResultForms$Scanner", "ResultForms$Scanner", T_Sc, 8, ty_Sc, rfl, by decide, in_Sc, ok_Sc, nm_Sc, rfl, rfl, (Or.inl (aw_in 229 (by decide +kernel) rfl)), (Or.inl rfl)⟩
set_option maxRecDepth 40000 in
theorem fL_Sc_9_Sc : aw_fd "ResultForms$Scanner" 9 4 0 (.object "ResultForms$Bytes") true := ⟨"ResultForms$Scanner", "ResultForms$Scanner", T_Sc, 8, ty_Sc, rfl, by decide, in_Sc, ok_Sc, nm_Sc, rfl, rfl, (Or.inl (aw_in 228 (by decide +kernel) rfl)), (Or.inl rfl)⟩
set_option maxRecDepth 40000 in
theorem fL_Sc_51_By : aw_fd "ResultForms$Scanner" 51 0 1 .int false := ⟨"ResultForms$Bytes", "ResultForms$Bytes", T_By, 3, ty_By, rfl, by decide, in_By, ok_By, nm_By, rfl, rfl, (Or.inr ⟨"ResultForms", (List.mem_of_getElem? (i := 3) rfl)⟩), (Or.inl rfl)⟩
set_option maxRecDepth 40000 in
theorem vL_Sc_67_Sc : aw_cv "ResultForms$Scanner" 67 "ResultForms$Scanner" M_Sc_next 0 := ⟨c_Sc_next, by decide, by decide, by decide +kernel, (aw_in 922 (by decide +kernel) rfl), (aw_in 97 (by decide +kernel) rfl), Or.inl ⟨(aw_in 921 (by decide +kernel) rfl), (aw_in 923 (by decide +kernel) rfl)⟩⟩
set_option maxRecDepth 40000 in
theorem fL_Sc_63_By : aw_fd "ResultForms$Scanner" 63 0 0 (.array .int) true := ⟨"ResultForms$Bytes", "ResultForms$Bytes", T_By, 3, ty_By, rfl, by decide, in_By, ok_By, nm_By, rfl, rfl, (Or.inr ⟨"ResultForms", (List.mem_of_getElem? (i := 0) rfl)⟩), (Or.inl rfl)⟩
set_option maxRecDepth 40000 in
theorem vL_Js_130_Sc : aw_cv "ResultForms$Json" 130 "ResultForms$Scanner" M_Sc_took 1 := ⟨c_Sc_took, by decide, by decide, by decide +kernel, (aw_in 926 (by decide +kernel) rfl), (aw_in 97 (by decide +kernel) rfl), Or.inl ⟨(aw_in 937 (by decide +kernel) rfl), (aw_in 927 (by decide +kernel) rfl)⟩⟩
set_option maxRecDepth 40000 in
theorem tL_Js_134 : ("ResultForms$Json", 134, " \"", 61) ∈ aw_ldc := List.mem_of_getElem? (i := 61) rfl
set_option maxRecDepth 40000 in
theorem vL_Js_136_Sc : aw_cv "ResultForms$Json" 136 "ResultForms$Scanner" M_Sc_newName 1 := ⟨c_Sc_newName, by decide, by decide, by decide +kernel, (aw_in 940 (by decide +kernel) rfl), (aw_in 97 (by decide +kernel) rfl), Or.inl ⟨(aw_in 939 (by decide +kernel) rfl), (aw_in 941 (by decide +kernel) rfl)⟩⟩
set_option maxRecDepth 40000 in
theorem tL_Js_139 : ("ResultForms$Json", 139, "\" ", 62) ∈ aw_ldc := List.mem_of_getElem? (i := 62) rfl
set_option maxRecDepth 40000 in
theorem tL_Js_141 : ("ResultForms$Json", 141, "]", 63) ∈ aw_ldc := List.mem_of_getElem? (i := 63) rfl
set_option maxRecDepth 40000 in
theorem vL_Js_143_Sc : aw_cv "ResultForms$Json" 143 "ResultForms$Scanner" M_Sc_must 1 := ⟨c_Sc_must, by decide, by decide, by decide +kernel, (aw_in 957 (by decide +kernel) rfl), (aw_in 97 (by decide +kernel) rfl), Or.inl ⟨(aw_in 956 (by decide +kernel) rfl), (aw_in 958 (by decide +kernel) rfl)⟩⟩
set_option maxRecDepth 40000 in
theorem vL_Js_146_Sc : aw_cv "ResultForms$Json" 146 "ResultForms$Scanner" M_Sc_fail 0 := ⟨c_Sc_fail, by decide, by decide, by decide +kernel, (aw_in 930 (by decide +kernel) rfl), (aw_in 97 (by decide +kernel) rfl), Or.inl ⟨(aw_in 960 (by decide +kernel) rfl), (aw_in 931 (by decide +kernel) rfl)⟩⟩
set_option maxRecDepth 40000 in
theorem vL_Sc_96_Sc : aw_cv "ResultForms$Scanner" 96 "ResultForms$Scanner" M_Sc_takeWord 0 := ⟨c_Sc_takeWord, by decide, by decide, by decide +kernel, (aw_in 945 (by decide +kernel) rfl), (aw_in 97 (by decide +kernel) rfl), Or.inl ⟨(aw_in 943 (by decide +kernel) rfl), (aw_in 15 (by decide +kernel) rfl)⟩⟩
set_option maxRecDepth 40000 in
theorem fL_Sc_35_Sc : aw_fd "ResultForms$Scanner" 35 4 4 .int false := ⟨"ResultForms$Scanner", "ResultForms$Scanner", T_Sc, 8, ty_Sc, rfl, by decide, in_Sc, ok_Sc, nm_Sc, rfl, rfl, (Or.inl (aw_in 237 (by decide +kernel) rfl)), (Or.inl rfl)⟩
set_option maxRecDepth 40000 in
theorem fL_Sc_32_Sc : aw_fd "ResultForms$Scanner" 32 4 3 .int false := ⟨"ResultForms$Scanner", "ResultForms$Scanner", T_Sc, 8, ty_Sc, rfl, by decide, in_Sc, ok_Sc, nm_Sc, rfl, rfl, (Or.inl (aw_in 236 (by decide +kernel) rfl)), (Or.inl rfl)⟩
set_option maxRecDepth 40000 in
theorem vL_Sc_99_Sc : aw_cv "ResultForms$Scanner" 99 "ResultForms$Scanner" M_Sc_failAt 1 := ⟨c_Sc_failAt, by decide, by decide, by decide +kernel, (aw_in 949 (by decide +kernel) rfl), (aw_in 97 (by decide +kernel) rfl), Or.inl ⟨(aw_in 948 (by decide +kernel) rfl), (aw_in 950 (by decide +kernel) rfl)⟩⟩
set_option maxRecDepth 40000 in
theorem fL_Sc_102_Tb : aw_fd "ResultForms$Scanner" 102 3 3 .int false := ⟨"ResultForms$Table", "ResultForms$Table", T_Tb, 5, ty_Tb, rfl, by decide, in_Tb, ok_Tb, nm_Tb, rfl, rfl, (Or.inr ⟨"ResultForms", (List.mem_of_getElem? (i := 11) rfl)⟩), (Or.inl rfl)⟩
set_option maxRecDepth 40000 in
theorem vL_Sc_107_Tb : aw_cv "ResultForms$Scanner" 107 "ResultForms$Table" M_Tb_find 3 := ⟨c_Tb_find, by decide, by decide, by decide +kernel, (aw_in 603 (by decide +kernel) rfl), (aw_in 96 (by decide +kernel) rfl), Or.inl ⟨(aw_in 952 (by decide +kernel) rfl), (aw_in 604 (by decide +kernel) rfl)⟩⟩
set_option maxRecDepth 40000 in
theorem vL_Sc_111_Tb : aw_cv "ResultForms$Scanner" 111 "ResultForms$Table" M_Tb_addVariable 3 := ⟨c_Tb_addVariable, by decide, by decide, by decide +kernel, (aw_in 620 (by decide +kernel) rfl), (aw_in 96 (by decide +kernel) rfl), Or.inl ⟨(aw_in 953 (by decide +kernel) rfl), (aw_in 621 (by decide +kernel) rfl)⟩⟩
set_option maxRecDepth 40000 in
theorem sL_Sc_90 : aw_cs "ResultForms$Scanner" 90 M_RF_isLetter 1 := ⟨c_RF_isLetter, by decide, by decide, by decide +kernel, (aw_in 600 (by decide +kernel) rfl), (aw_in 92 (by decide +kernel) rfl), Or.inr ⟨"ResultForms", (List.mem_of_getElem? (i := 40) rfl)⟩⟩
set_option maxRecDepth 40000 in
theorem vL_Js_149_Sc : aw_cv "ResultForms$Json" 149 "ResultForms$Scanner" M_Sc_skipBlanks 0 := ⟨c_Sc_skipBlanks, by decide, by decide, by decide +kernel, (aw_in 918 (by decide +kernel) rfl), (aw_in 97 (by decide +kernel) rfl), Or.inl ⟨(aw_in 966 (by decide +kernel) rfl), (aw_in 919 (by decide +kernel) rfl)⟩⟩
set_option maxRecDepth 40000 in
theorem vL_Js_152_Tb : aw_cv "ResultForms$Json" 152 "ResultForms$Table" M_Tb_hasRoomForRow 0 := ⟨c_Tb_hasRoomForRow, by decide, by decide, by decide +kernel, (aw_in 628 (by decide +kernel) rfl), (aw_in 96 (by decide +kernel) rfl), Or.inl ⟨(aw_in 967 (by decide +kernel) rfl), (aw_in 629 (by decide +kernel) rfl)⟩⟩
set_option maxRecDepth 40000 in
theorem vL_Js_155_Js : aw_cv "ResultForms$Json" 155 "ResultForms$Json" M_Js_parseRow 1 := ⟨c_Js_parseRow, by decide, by decide, by decide +kernel, (aw_in 970 (by decide +kernel) rfl), (aw_in 98 (by decide +kernel) rfl), Or.inl ⟨(aw_in 968 (by decide +kernel) rfl), (aw_in 17 (by decide +kernel) rfl)⟩⟩
set_option maxRecDepth 40000 in
theorem tL_Js_158 : ("ResultForms$Json", 158, "{ ", 65) ∈ aw_ldc := List.mem_of_getElem? (i := 65) rfl
set_option maxRecDepth 40000 in
theorem vL_Js_160_Tb : aw_cv "ResultForms$Json" 160 "ResultForms$Table" M_Tb_addRow 0 := ⟨c_Tb_addRow, by decide, by decide, by decide +kernel, (aw_in 632 (by decide +kernel) rfl), (aw_in 96 (by decide +kernel) rfl), Or.inl ⟨(aw_in 973 (by decide +kernel) rfl), (aw_in 633 (by decide +kernel) rfl)⟩⟩
set_option maxRecDepth 40000 in
theorem vL_Js_163_Sc : aw_cv "ResultForms$Json" 163 "ResultForms$Scanner" M_Sc_nameBehind 2 := ⟨c_Sc_nameBehind, by decide, by decide, by decide +kernel, (aw_in 975 (by decide +kernel) rfl), (aw_in 97 (by decide +kernel) rfl), Or.inl ⟨(aw_in 974 (by decide +kernel) rfl), (aw_in 976 (by decide +kernel) rfl)⟩⟩
set_option maxRecDepth 40000 in
theorem vL_Js_167_Js : aw_cv "ResultForms$Json" 167 "ResultForms$Json" M_Js_parseValue 0 := ⟨c_Js_parseValue, by decide, by decide, by decide +kernel, (aw_in 980 (by decide +kernel) rfl), (aw_in 98 (by decide +kernel) rfl), Or.inl ⟨(aw_in 978 (by decide +kernel) rfl), (aw_in 18 (by decide +kernel) rfl)⟩⟩
set_option maxRecDepth 40000 in
theorem vL_Js_170_Js : aw_cv "ResultForms$Json" 170 "ResultForms$Json" M_Js_parseExtra 0 := ⟨c_Js_parseExtra, by decide, by decide, by decide +kernel, (aw_in 1021 (by decide +kernel) rfl), (aw_in 98 (by decide +kernel) rfl), Or.inl ⟨(aw_in 1019 (by decide +kernel) rfl), (aw_in 21 (by decide +kernel) rfl)⟩⟩
set_option maxRecDepth 40000 in
theorem fL_Js_173_Sc : aw_fd "ResultForms$Json" 173 4 5 .int false := ⟨"ResultForms$Scanner", "ResultForms$Scanner", T_Sc, 8, ty_Sc, rfl, by decide, in_Sc, ok_Sc, nm_Sc, rfl, rfl, (Or.inr ⟨"ResultForms", (List.mem_of_getElem? (i := 22) rfl)⟩), (Or.inl rfl)⟩
set_option maxRecDepth 40000 in
theorem fL_Js_176_Sc : aw_fd "ResultForms$Json" 176 4 6 .int false := ⟨"ResultForms$Scanner", "ResultForms$Scanner", T_Sc, 8, ty_Sc, rfl, by decide, in_Sc, ok_Sc, nm_Sc, rfl, rfl, (Or.inr ⟨"ResultForms", (List.mem_of_getElem? (i := 25) rfl)⟩), (Or.inl rfl)⟩
set_option maxRecDepth 40000 in
theorem fL_Js_179_Sc : aw_fd "ResultForms$Json" 179 4 7 (.object "ResultForms$Text") true := ⟨"ResultForms$Scanner", "ResultForms$Scanner", T_Sc, 8, ty_Sc, rfl, by decide, in_Sc, ok_Sc, nm_Sc, rfl, rfl, (Or.inr ⟨"ResultForms", (List.mem_of_getElem? (i := 30) rfl)⟩), (Or.inl rfl)⟩
set_option maxRecDepth 40000 in
theorem vL_Js_183_Te : aw_cv "ResultForms$Json" 183 "ResultForms$Terms" M_Te_numberOf 3 := ⟨c_Te_numberOf, by decide, by decide, by decide +kernel, (aw_in 576 (by decide +kernel) rfl), (aw_in 95 (by decide +kernel) rfl), Or.inl ⟨(aw_in 1032 (by decide +kernel) rfl), (aw_in 577 (by decide +kernel) rfl)⟩⟩
set_option maxRecDepth 40000 in
theorem vL_Js_187_Tb : aw_cv "ResultForms$Json" 187 "ResultForms$Table" M_Tb_setCell 3 := ⟨c_Tb_setCell, by decide, by decide, by decide +kernel, (aw_in 637 (by decide +kernel) rfl), (aw_in 96 (by decide +kernel) rfl), Or.inl ⟨(aw_in 1033 (by decide +kernel) rfl), (aw_in 638 (by decide +kernel) rfl)⟩⟩
set_option maxRecDepth 40000 in
theorem tL_Js_191 : ("ResultForms$Json", 191, "}", 73) ∈ aw_ldc := List.mem_of_getElem? (i := 73) rfl
set_option maxRecDepth 40000 in
theorem tL_Js_193 : ("ResultForms$Json", 193, "\" : { \"type\" : \"", 66) ∈ aw_ldc := List.mem_of_getElem? (i := 66) rfl
set_option maxRecDepth 40000 in
theorem vL_Js_195_Sc : aw_cv "ResultForms$Json" 195 "ResultForms$Scanner" M_Sc_kindWord 0 := ⟨c_Sc_kindWord, by decide, by decide, by decide +kernel, (aw_in 984 (by decide +kernel) rfl), (aw_in 97 (by decide +kernel) rfl), Or.inl ⟨(aw_in 983 (by decide +kernel) rfl), (aw_in 985 (by decide +kernel) rfl)⟩⟩
set_option maxRecDepth 40000 in
theorem tL_Js_198 : ("ResultForms$Json", 198, "\" , \"value\" : \"", 70) ∈ aw_ldc := List.mem_of_getElem? (i := 70) rfl
set_option maxRecDepth 40000 in
theorem fL_Js_200_Sc : aw_fd "ResultForms$Json" 200 4 1 .int false := ⟨"ResultForms$Scanner", "ResultForms$Scanner", T_Sc, 8, ty_Sc, rfl, by decide, in_Sc, ok_Sc, nm_Sc, rfl, rfl, (Or.inr ⟨"ResultForms", (List.mem_of_getElem? (i := 18) rfl)⟩), (Or.inl rfl)⟩
set_option maxRecDepth 40000 in
theorem vL_Js_203_Sc : aw_cv "ResultForms$Json" 203 "ResultForms$Scanner" M_Sc_backslashedText 1 := ⟨c_Sc_backslashedText, by decide, by decide, by decide +kernel, (aw_in 997 (by decide +kernel) rfl), (aw_in 97 (by decide +kernel) rfl), Or.inl ⟨(aw_in 996 (by decide +kernel) rfl), (aw_in 998 (by decide +kernel) rfl)⟩⟩
set_option maxRecDepth 40000 in
theorem vL_Js_207_Tx : aw_cv "ResultForms$Json" 207 "ResultForms$Text" M_Tx_isOf 1 := ⟨c_Tx_isOf, by decide, by decide, by decide +kernel, (aw_in 450 (by decide +kernel) rfl), (aw_in 94 (by decide +kernel) rfl), Or.inl ⟨(aw_in 1017 (by decide +kernel) rfl), (aw_in 451 (by decide +kernel) rfl)⟩⟩
set_option maxRecDepth 40000 in
theorem vL_Js_212_Sc : aw_cv "ResultForms$Json" 212 "ResultForms$Scanner" M_Sc_failAt 1 := ⟨c_Sc_failAt, by decide, by decide, by decide +kernel, (aw_in 949 (by decide +kernel) rfl), (aw_in 97 (by decide +kernel) rfl), Or.inl ⟨(aw_in 1018 (by decide +kernel) rfl), (aw_in 950 (by decide +kernel) rfl)⟩⟩
set_option maxRecDepth 40000 in
theorem tL_Sc_115 : ("ResultForms$Scanner", 115, "uri", 67) ∈ aw_ldc := List.mem_of_getElem? (i := 67) rfl
set_option maxRecDepth 40000 in
theorem vL_Sc_117_Sc : aw_cv "ResultForms$Scanner" 117 "ResultForms$Scanner" M_Sc_isWord 1 := ⟨c_Sc_isWord, by decide, by decide, by decide +kernel, (aw_in 990 (by decide +kernel) rfl), (aw_in 97 (by decide +kernel) rfl), Or.inl ⟨(aw_in 988 (by decide +kernel) rfl), (aw_in 19 (by decide +kernel) rfl)⟩⟩
set_option maxRecDepth 40000 in
theorem tL_Sc_121 : ("ResultForms$Scanner", 121, "bnode", 68) ∈ aw_ldc := List.mem_of_getElem? (i := 68) rfl
set_option maxRecDepth 40000 in
theorem tL_Sc_123 : ("ResultForms$Scanner", 123, "literal", 69) ∈ aw_ldc := List.mem_of_getElem? (i := 69) rfl
set_option maxRecDepth 40000 in
theorem vL_Sc_93_By : aw_cv "ResultForms$Scanner" 93 "ResultForms$Bytes" M_By_get 1 := ⟨c_By_get, by decide, by decide, by decide +kernel, (aw_in 419 (by decide +kernel) rfl), (aw_in 93 (by decide +kernel) rfl), Or.inl ⟨(aw_in 992 (by decide +kernel) rfl), (aw_in 420 (by decide +kernel) rfl)⟩⟩
set_option maxRecDepth 40000 in
theorem vL_Sc_139_Tx : aw_cv "ResultForms$Scanner" 139 "ResultForms$Text" M_Tx_isFull 0 := ⟨c_Tx_isFull, by decide, by decide, by decide +kernel, (aw_in 1001 (by decide +kernel) rfl), (aw_in 94 (by decide +kernel) rfl), Or.inl ⟨(aw_in 1000 (by decide +kernel) rfl), (aw_in 1002 (by decide +kernel) rfl)⟩⟩
set_option maxRecDepth 40000 in
theorem vL_Sc_75_Sc : aw_cv "ResultForms$Scanner" 75 "ResultForms$Scanner" M_Sc_ahead 1 := ⟨c_Sc_ahead, by decide, by decide, by decide +kernel, (aw_in 1006 (by decide +kernel) rfl), (aw_in 97 (by decide +kernel) rfl), Or.inl ⟨(aw_in 1004 (by decide +kernel) rfl), (aw_in 20 (by decide +kernel) rfl)⟩⟩
set_option maxRecDepth 40000 in
theorem sL_Sc_142 : aw_cs "ResultForms$Scanner" 142 M_Sc_unescaped 2 := ⟨c_Sc_unescaped, by decide, by decide, by decide +kernel, (aw_in 1009 (by decide +kernel) rfl), (aw_in 97 (by decide +kernel) rfl), Or.inl (aw_in 1008 (by decide +kernel) rfl)⟩
set_option maxRecDepth 40000 in
theorem sL_Sc_146 : aw_cs "ResultForms$Scanner" 146 M_RF_isPrinted 1 := ⟨c_RF_isPrinted, by decide, by decide, by decide +kernel, (aw_in 436 (by decide +kernel) rfl), (aw_in 92 (by decide +kernel) rfl), Or.inr ⟨"ResultForms", (List.mem_of_getElem? (i := 41) rfl)⟩⟩
set_option maxRecDepth 40000 in
theorem vL_Sc_149_Sc : aw_cv "ResultForms$Scanner" 149 "ResultForms$Scanner" M_Sc_take 2 := ⟨c_Sc_take, by decide, by decide, by decide +kernel, (aw_in 1013 (by decide +kernel) rfl), (aw_in 97 (by decide +kernel) rfl), Or.inl ⟨(aw_in 1012 (by decide +kernel) rfl), (aw_in 1014 (by decide +kernel) rfl)⟩⟩
set_option maxRecDepth 40000 in
theorem vL_Sc_136_Tx : aw_cv "ResultForms$Scanner" 136 "ResultForms$Text" M_Tx_add 1 := ⟨c_Tx_add, by decide, by decide, by decide +kernel, (aw_in 439 (by decide +kernel) rfl), (aw_in 94 (by decide +kernel) rfl), Or.inl ⟨(aw_in 1016 (by decide +kernel) rfl), (aw_in 440 (by decide +kernel) rfl)⟩⟩
set_option maxRecDepth 40000 in
theorem vL_Js_215_Sc : aw_cv "ResultForms$Json" 215 "ResultForms$Scanner" M_Sc_next 0 := ⟨c_Sc_next, by decide, by decide, by decide +kernel, (aw_in 922 (by decide +kernel) rfl), (aw_in 97 (by decide +kernel) rfl), Or.inl ⟨(aw_in 1023 (by decide +kernel) rfl), (aw_in 923 (by decide +kernel) rfl)⟩⟩
set_option maxRecDepth 40000 in
theorem tL_Js_218 : ("ResultForms$Json", 218, "xml:lang\" : \"", 71) ∈ aw_ldc := List.mem_of_getElem? (i := 71) rfl
set_option maxRecDepth 40000 in
theorem tL_Js_220 : ("ResultForms$Json", 220, "datatype\" : \"", 72) ∈ aw_ldc := List.mem_of_getElem? (i := 72) rfl
set_option maxRecDepth 40000 in
theorem vL_Js_222_Sc : aw_cv "ResultForms$Json" 222 "ResultForms$Scanner" M_Sc_extraWord 1 := ⟨c_Sc_extraWord, by decide, by decide, by decide +kernel, (aw_in 1027 (by decide +kernel) rfl), (aw_in 97 (by decide +kernel) rfl), Or.inl ⟨(aw_in 1026 (by decide +kernel) rfl), (aw_in 1028 (by decide +kernel) rfl)⟩⟩
set_option maxRecDepth 40000 in
theorem sL_Sc_125 : aw_cs "ResultForms$Scanner" 125 M_RF_typeName 1 := ⟨c_RF_typeName, by decide, by decide, by decide +kernel, (aw_in 747 (by decide +kernel) rfl), (aw_in 92 (by decide +kernel) rfl), Or.inr ⟨"ResultForms", (List.mem_of_getElem? (i := 42) rfl)⟩⟩
set_option maxRecDepth 40000 in
theorem fL_Sc_45_Sc : aw_fd "ResultForms$Scanner" 45 4 6 .int false := ⟨"ResultForms$Scanner", "ResultForms$Scanner", T_Sc, 8, ty_Sc, rfl, by decide, in_Sc, ok_Sc, nm_Sc, rfl, rfl, (Or.inl (aw_in 242 (by decide +kernel) rfl)), (Or.inl rfl)⟩
set_option maxRecDepth 40000 in
theorem vL_Sc_56_Sc : aw_cv "ResultForms$Scanner" 56 "ResultForms$Scanner" M_Sc_isEnded 0 := ⟨c_Sc_isEnded, by decide, by decide, by decide +kernel, (aw_in 1040 (by decide +kernel) rfl), (aw_in 97 (by decide +kernel) rfl), Or.inl ⟨(aw_in 1039 (by decide +kernel) rfl), (aw_in 1041 (by decide +kernel) rfl)⟩⟩
set_option maxRecDepth 40000 in
theorem fL_Xm_9_Xm : aw_fd "ResultForms$Xml" 9 6 0 (.object "ResultForms$Scanner") true := ⟨"ResultForms$Xml", "ResultForms$Xml", T_Xm, 3, ty_Xm, rfl, by decide, in_Xm, ok_Xm, nm_Xm, rfl, rfl, (Or.inl (aw_in 291 (by decide +kernel) rfl)), (Or.inl rfl)⟩
set_option maxRecDepth 40000 in
theorem vL_Xm_134_Sc : aw_cv "ResultForms$Xml" 134 "ResultForms$Scanner" M_Sc_must 1 := ⟨c_Sc_must, by decide, by decide, by decide +kernel, (aw_in 957 (by decide +kernel) rfl), (aw_in 97 (by decide +kernel) rfl), Or.inl ⟨(aw_in 1047 (by decide +kernel) rfl), (aw_in 958 (by decide +kernel) rfl)⟩⟩
set_option maxRecDepth 40000 in
theorem vL_Xm_148_Xm : aw_cv "ResultForms$Xml" 148 "ResultForms$Xml" M_Xm_parseNames 1 := ⟨c_Xm_parseNames, by decide, by decide, by decide +kernel, (aw_in 1050 (by decide +kernel) rfl), (aw_in 99 (by decide +kernel) rfl), Or.inl ⟨(aw_in 1048 (by decide +kernel) rfl), (aw_in 22 (by decide +kernel) rfl)⟩⟩
set_option maxRecDepth 40000 in
theorem vL_Xm_152_Xm : aw_cv "ResultForms$Xml" 152 "ResultForms$Xml" M_Xm_parseRows 1 := ⟨c_Xm_parseRows, by decide, by decide, by decide +kernel, (aw_in 1062 (by decide +kernel) rfl), (aw_in 99 (by decide +kernel) rfl), Or.inl ⟨(aw_in 1060 (by decide +kernel) rfl), (aw_in 24 (by decide +kernel) rfl)⟩⟩
set_option maxRecDepth 40000 in
theorem vL_Xm_144_Sc : aw_cv "ResultForms$Xml" 144 "ResultForms$Scanner" M_Sc_mustEnd 0 := ⟨c_Sc_mustEnd, by decide, by decide, by decide +kernel, (aw_in 1036 (by decide +kernel) rfl), (aw_in 97 (by decide +kernel) rfl), Or.inl ⟨(aw_in 1107 (by decide +kernel) rfl), (aw_in 1037 (by decide +kernel) rfl)⟩⟩
set_option maxRecDepth 40000 in
theorem vL_Xm_161_Xm : aw_cv "ResultForms$Xml" 161 "ResultForms$Xml" M_Xm_isClosing 0 := ⟨c_Xm_isClosing, by decide, by decide, by decide +kernel, (aw_in 1054 (by decide +kernel) rfl), (aw_in 99 (by decide +kernel) rfl), Or.inl ⟨(aw_in 1052 (by decide +kernel) rfl), (aw_in 23 (by decide +kernel) rfl)⟩⟩
set_option maxRecDepth 40000 in
theorem vL_Xm_164_Sc : aw_cv "ResultForms$Xml" 164 "ResultForms$Scanner" M_Sc_newName 1 := ⟨c_Sc_newName, by decide, by decide, by decide +kernel, (aw_in 940 (by decide +kernel) rfl), (aw_in 97 (by decide +kernel) rfl), Or.inl ⟨(aw_in 1058 (by decide +kernel) rfl), (aw_in 941 (by decide +kernel) rfl)⟩⟩
set_option maxRecDepth 40000 in
theorem vL_Xm_167_Sc : aw_cv "ResultForms$Xml" 167 "ResultForms$Scanner" M_Sc_fail 0 := ⟨c_Sc_fail, by decide, by decide, by decide +kernel, (aw_in 930 (by decide +kernel) rfl), (aw_in 97 (by decide +kernel) rfl), Or.inl ⟨(aw_in 1059 (by decide +kernel) rfl), (aw_in 931 (by decide +kernel) rfl)⟩⟩
set_option maxRecDepth 40000 in
theorem vL_Xm_155_Sc : aw_cv "ResultForms$Xml" 155 "ResultForms$Scanner" M_Sc_next 0 := ⟨c_Sc_next, by decide, by decide, by decide +kernel, (aw_in 922 (by decide +kernel) rfl), (aw_in 97 (by decide +kernel) rfl), Or.inl ⟨(aw_in 1056 (by decide +kernel) rfl), (aw_in 923 (by decide +kernel) rfl)⟩⟩
set_option maxRecDepth 40000 in
theorem vL_Xm_158_Sc : aw_cv "ResultForms$Xml" 158 "ResultForms$Scanner" M_Sc_ahead 1 := ⟨c_Sc_ahead, by decide, by decide, by decide +kernel, (aw_in 1006 (by decide +kernel) rfl), (aw_in 97 (by decide +kernel) rfl), Or.inr (Or.inl ⟨"ResultForms", (List.mem_of_getElem? (i := 43) rfl), (aw_in 20 (by decide +kernel) rfl)⟩)⟩
set_option maxRecDepth 40000 in
theorem vL_Xm_170_Tb : aw_cv "ResultForms$Xml" 170 "ResultForms$Table" M_Tb_hasRoomForRow 0 := ⟨c_Tb_hasRoomForRow, by decide, by decide, by decide +kernel, (aw_in 628 (by decide +kernel) rfl), (aw_in 96 (by decide +kernel) rfl), Or.inl ⟨(aw_in 1064 (by decide +kernel) rfl), (aw_in 629 (by decide +kernel) rfl)⟩⟩
set_option maxRecDepth 40000 in
theorem vL_Xm_173_Xm : aw_cv "ResultForms$Xml" 173 "ResultForms$Xml" M_Xm_parseRow 1 := ⟨c_Xm_parseRow, by decide, by decide, by decide +kernel, (aw_in 1067 (by decide +kernel) rfl), (aw_in 99 (by decide +kernel) rfl), Or.inl ⟨(aw_in 1065 (by decide +kernel) rfl), (aw_in 25 (by decide +kernel) rfl)⟩⟩
set_option maxRecDepth 40000 in
theorem vL_Xm_176_Tb : aw_cv "ResultForms$Xml" 176 "ResultForms$Table" M_Tb_addRow 0 := ⟨c_Tb_addRow, by decide, by decide, by decide +kernel, (aw_in 632 (by decide +kernel) rfl), (aw_in 96 (by decide +kernel) rfl), Or.inl ⟨(aw_in 1069 (by decide +kernel) rfl), (aw_in 633 (by decide +kernel) rfl)⟩⟩
set_option maxRecDepth 40000 in
theorem vL_Xm_179_Sc : aw_cv "ResultForms$Xml" 179 "ResultForms$Scanner" M_Sc_nameBehind 2 := ⟨c_Sc_nameBehind, by decide, by decide, by decide +kernel, (aw_in 975 (by decide +kernel) rfl), (aw_in 97 (by decide +kernel) rfl), Or.inl ⟨(aw_in 1070 (by decide +kernel) rfl), (aw_in 976 (by decide +kernel) rfl)⟩⟩
set_option maxRecDepth 40000 in
theorem tL_Xm_183 : ("ResultForms$Xml", 183, "\"><", 75) ∈ aw_ldc := List.mem_of_getElem? (i := 75) rfl
set_option maxRecDepth 40000 in
theorem vL_Xm_185_Xm : aw_cv "ResultForms$Xml" 185 "ResultForms$Xml" M_Xm_parseOpening 0 := ⟨c_Xm_parseOpening, by decide, by decide, by decide +kernel, (aw_in 1074 (by decide +kernel) rfl), (aw_in 99 (by decide +kernel) rfl), Or.inl ⟨(aw_in 1072 (by decide +kernel) rfl), (aw_in 26 (by decide +kernel) rfl)⟩⟩
set_option maxRecDepth 40000 in
theorem vL_Xm_188_Xm : aw_cv "ResultForms$Xml" 188 "ResultForms$Xml" M_Xm_parseText 0 := ⟨c_Xm_parseText, by decide, by decide, by decide +kernel, (aw_in 1088 (by decide +kernel) rfl), (aw_in 99 (by decide +kernel) rfl), Or.inl ⟨(aw_in 1086 (by decide +kernel) rfl), (aw_in 27 (by decide +kernel) rfl)⟩⟩
set_option maxRecDepth 40000 in
theorem fL_Xm_191_Sc : aw_fd "ResultForms$Xml" 191 4 5 .int false := ⟨"ResultForms$Scanner", "ResultForms$Scanner", T_Sc, 8, ty_Sc, rfl, by decide, in_Sc, ok_Sc, nm_Sc, rfl, rfl, (Or.inr ⟨"ResultForms", (List.mem_of_getElem? (i := 23) rfl)⟩), (Or.inl rfl)⟩
set_option maxRecDepth 40000 in
theorem fL_Xm_194_Sc : aw_fd "ResultForms$Xml" 194 4 6 .int false := ⟨"ResultForms$Scanner", "ResultForms$Scanner", T_Sc, 8, ty_Sc, rfl, by decide, in_Sc, ok_Sc, nm_Sc, rfl, rfl, (Or.inr ⟨"ResultForms", (List.mem_of_getElem? (i := 26) rfl)⟩), (Or.inl rfl)⟩
set_option maxRecDepth 40000 in
theorem fL_Xm_197_Sc : aw_fd "ResultForms$Xml" 197 4 7 (.object "ResultForms$Text") true := ⟨"ResultForms$Scanner", "ResultForms$Scanner", T_Sc, 8, ty_Sc, rfl, by decide, in_Sc, ok_Sc, nm_Sc, rfl, rfl, (Or.inr ⟨"ResultForms", (List.mem_of_getElem? (i := 31) rfl)⟩), (Or.inl rfl)⟩
set_option maxRecDepth 40000 in
theorem vL_Xm_201_Te : aw_cv "ResultForms$Xml" 201 "ResultForms$Terms" M_Te_numberOf 3 := ⟨c_Te_numberOf, by decide, by decide, by decide +kernel, (aw_in 576 (by decide +kernel) rfl), (aw_in 95 (by decide +kernel) rfl), Or.inl ⟨(aw_in 1105 (by decide +kernel) rfl), (aw_in 577 (by decide +kernel) rfl)⟩⟩
set_option maxRecDepth 40000 in
theorem vL_Xm_205_Tb : aw_cv "ResultForms$Xml" 205 "ResultForms$Table" M_Tb_setCell 3 := ⟨c_Tb_setCell, by decide, by decide, by decide +kernel, (aw_in 637 (by decide +kernel) rfl), (aw_in 96 (by decide +kernel) rfl), Or.inl ⟨(aw_in 1106 (by decide +kernel) rfl), (aw_in 638 (by decide +kernel) rfl)⟩⟩
set_option maxRecDepth 40000 in
theorem vL_Xm_209_Sc : aw_cv "ResultForms$Xml" 209 "ResultForms$Scanner" M_Sc_beginTerm 1 := ⟨c_Sc_beginTerm, by decide, by decide, by decide +kernel, (aw_in 221 (by decide +kernel) rfl), (aw_in 97 (by decide +kernel) rfl), Or.inl ⟨(aw_in 1076 (by decide +kernel) rfl), (aw_in 222 (by decide +kernel) rfl)⟩⟩
set_option maxRecDepth 40000 in
theorem tL_Xm_212 : ("ResultForms$Xml", 212, "uri>", 76) ∈ aw_ldc := List.mem_of_getElem? (i := 76) rfl
set_option maxRecDepth 40000 in
theorem tL_Xm_214 : ("ResultForms$Xml", 214, "bnode>", 77) ∈ aw_ldc := List.mem_of_getElem? (i := 77) rfl
set_option maxRecDepth 40000 in
theorem tL_Xm_216 : ("ResultForms$Xml", 216, "literal", 78) ∈ aw_ldc := List.mem_of_getElem? (i := 78) rfl
set_option maxRecDepth 40000 in
theorem vL_Xm_218_Sc : aw_cv "ResultForms$Xml" 218 "ResultForms$Scanner" M_Sc_took 1 := ⟨c_Sc_took, by decide, by decide, by decide +kernel, (aw_in 926 (by decide +kernel) rfl), (aw_in 97 (by decide +kernel) rfl), Or.inl ⟨(aw_in 1080 (by decide +kernel) rfl), (aw_in 927 (by decide +kernel) rfl)⟩⟩
set_option maxRecDepth 40000 in
theorem tL_Xm_222 : ("ResultForms$Xml", 222, "xml:lang=\"", 79) ∈ aw_ldc := List.mem_of_getElem? (i := 79) rfl
set_option maxRecDepth 40000 in
theorem tL_Xm_224 : ("ResultForms$Xml", 224, "datatype=\"", 80) ∈ aw_ldc := List.mem_of_getElem? (i := 80) rfl
set_option maxRecDepth 40000 in
theorem vL_Xm_226_Sc : aw_cv "ResultForms$Xml" 226 "ResultForms$Scanner" M_Sc_extraWord 1 := ⟨c_Sc_extraWord, by decide, by decide, by decide +kernel, (aw_in 1027 (by decide +kernel) rfl), (aw_in 97 (by decide +kernel) rfl), Or.inl ⟨(aw_in 1083 (by decide +kernel) rfl), (aw_in 1028 (by decide +kernel) rfl)⟩⟩
set_option maxRecDepth 40000 in
theorem tL_Xm_229 : ("ResultForms$Xml", 229, "\"", 81) ∈ aw_ldc := List.mem_of_getElem? (i := 81) rfl
set_option maxRecDepth 40000 in
theorem tL_Xm_231 : ("ResultForms$Xml", 231, ">", 82) ∈ aw_ldc := List.mem_of_getElem? (i := 82) rfl
set_option maxRecDepth 40000 in
theorem fL_Xm_233_Sc : aw_fd "ResultForms$Xml" 233 4 1 .int false := ⟨"ResultForms$Scanner", "ResultForms$Scanner", T_Sc, 8, ty_Sc, rfl, by decide, in_Sc, ok_Sc, nm_Sc, rfl, rfl, (Or.inr ⟨"ResultForms", (List.mem_of_getElem? (i := 19) rfl)⟩), (Or.inl rfl)⟩
set_option maxRecDepth 40000 in
theorem vL_Xm_236_Tx : aw_cv "ResultForms$Xml" 236 "ResultForms$Text" M_Tx_isOf 1 := ⟨c_Tx_isOf, by decide, by decide, by decide +kernel, (aw_in 450 (by decide +kernel) rfl), (aw_in 94 (by decide +kernel) rfl), Or.inl ⟨(aw_in 1090 (by decide +kernel) rfl), (aw_in 451 (by decide +kernel) rfl)⟩⟩
set_option maxRecDepth 40000 in
theorem vL_Xm_241_Sc : aw_cv "ResultForms$Xml" 241 "ResultForms$Scanner" M_Sc_failAt 1 := ⟨c_Sc_failAt, by decide, by decide, by decide +kernel, (aw_in 949 (by decide +kernel) rfl), (aw_in 97 (by decide +kernel) rfl), Or.inl ⟨(aw_in 1091 (by decide +kernel) rfl), (aw_in 950 (by decide +kernel) rfl)⟩⟩
set_option maxRecDepth 40000 in
theorem vL_Xm_244_Tx : aw_cv "ResultForms$Xml" 244 "ResultForms$Text" M_Tx_isFull 0 := ⟨c_Tx_isFull, by decide, by decide, by decide +kernel, (aw_in 1001 (by decide +kernel) rfl), (aw_in 94 (by decide +kernel) rfl), Or.inl ⟨(aw_in 1092 (by decide +kernel) rfl), (aw_in 1002 (by decide +kernel) rfl)⟩⟩
set_option maxRecDepth 40000 in
theorem vL_Xm_247_Xm : aw_cv "ResultForms$Xml" 247 "ResultForms$Xml" M_Xm_tookEntity 0 := ⟨c_Xm_tookEntity, by decide, by decide, by decide +kernel, (aw_in 1095 (by decide +kernel) rfl), (aw_in 99 (by decide +kernel) rfl), Or.inl ⟨(aw_in 1093 (by decide +kernel) rfl), (aw_in 28 (by decide +kernel) rfl)⟩⟩
set_option maxRecDepth 40000 in
theorem sL_Xm_250 : aw_cs "ResultForms$Xml" 250 M_RF_isTextByte 1 := ⟨c_RF_isTextByte, by decide, by decide, by decide +kernel, (aw_in 433 (by decide +kernel) rfl), (aw_in 92 (by decide +kernel) rfl), Or.inr ⟨"ResultForms", (List.mem_of_getElem? (i := 44) rfl)⟩⟩
set_option maxRecDepth 40000 in
theorem vL_Xm_253_Sc : aw_cv "ResultForms$Xml" 253 "ResultForms$Scanner" M_Sc_take 2 := ⟨c_Sc_take, by decide, by decide, by decide +kernel, (aw_in 1013 (by decide +kernel) rfl), (aw_in 97 (by decide +kernel) rfl), Or.inl ⟨(aw_in 1104 (by decide +kernel) rfl), (aw_in 1014 (by decide +kernel) rfl)⟩⟩
set_option maxRecDepth 40000 in
theorem vL_Xm_257_Sc : aw_cv "ResultForms$Xml" 257 "ResultForms$Scanner" M_Sc_tookAll 1 := ⟨c_Sc_tookAll, by decide, by decide, by decide +kernel, (aw_in 1098 (by decide +kernel) rfl), (aw_in 97 (by decide +kernel) rfl), Or.inl ⟨(aw_in 1097 (by decide +kernel) rfl), (aw_in 1099 (by decide +kernel) rfl)⟩⟩
set_option maxRecDepth 40000 in
theorem tL_Xm_260 : ("ResultForms$Xml", 260, "&quot;", 83) ∈ aw_ldc := List.mem_of_getElem? (i := 83) rfl
set_option maxRecDepth 40000 in
theorem vL_Xm_262_Tx : aw_cv "ResultForms$Xml" 262 "ResultForms$Text" M_Tx_add 1 := ⟨c_Tx_add, by decide, by decide, by decide +kernel, (aw_in 439 (by decide +kernel) rfl), (aw_in 94 (by decide +kernel) rfl), Or.inl ⟨(aw_in 1102 (by decide +kernel) rfl), (aw_in 440 (by decide +kernel) rfl)⟩⟩
set_option maxRecDepth 40000 in
theorem vL_Ln_68_Cm : aw_cv "ResultForms$Lines" 68 "ResultForms$Commas" M_Ln_parseNames 1 := ⟨c_Ln_parseNames, by decide, by decide, by decide +kernel, (aw_in 1116 (by decide +kernel) rfl), (aw_in 100 (by decide +kernel) rfl), Or.inr (Or.inr ⟨⟨"ResultForms$Lines", "parseNames", "(LResultForms$Table;)Z"⟩, "ResultForms$Lines", (aw_in 1114 (by decide +kernel) rfl), (aw_in 1811 (by decide +kernel) rfl), (List.mem_append_left _ (List.mem_of_getElem? (i := 1) rfl)), rfl, by decide, by decide, Or.inl rfl⟩)⟩
set_option maxRecDepth 40000 in
theorem vL_Ln_68_Ta : aw_cv "ResultForms$Lines" 68 "ResultForms$Tabs" M_Ln_parseNames 1 := ⟨c_Ln_parseNames, by decide, by decide, by decide +kernel, (aw_in 1116 (by decide +kernel) rfl), (aw_in 100 (by decide +kernel) rfl), Or.inr (Or.inr ⟨⟨"ResultForms$Lines", "parseNames", "(LResultForms$Table;)Z"⟩, "ResultForms$Lines", (aw_in 1114 (by decide +kernel) rfl), (aw_in 1811 (by decide +kernel) rfl), (List.mem_append_left _ (List.mem_of_getElem? (i := 4) rfl)), rfl, by decide, by decide, Or.inl rfl⟩)⟩
set_option maxRecDepth 40000 in
theorem fL_Ln_9_Cm : aw_fd "ResultForms$Lines" 9 7 0 (.object "ResultForms$Scanner") true := ⟨"ResultForms$Commas", "ResultForms$Lines", T_Cm, 6, ty_Cm, rfl, by decide, in_Cm, ok_Cm, nm_Cm, rfl, rfl, (Or.inl (aw_in 312 (by decide +kernel) rfl)), (Or.inl rfl)⟩
set_option maxRecDepth 40000 in
theorem fL_Ln_9_Ta : aw_fd "ResultForms$Lines" 9 8 0 (.object "ResultForms$Scanner") true := ⟨"ResultForms$Tabs", "ResultForms$Lines", T_Ta, 6, ty_Ta, rfl, by decide, in_Ta, ok_Ta, nm_Ta, rfl, rfl, (Or.inl (aw_in 312 (by decide +kernel) rfl)), (Or.inl rfl)⟩
set_option maxRecDepth 40000 in
theorem vL_Ln_72_Sc : aw_cv "ResultForms$Lines" 72 "ResultForms$Scanner" M_Sc_isEnded 0 := ⟨c_Sc_isEnded, by decide, by decide, by decide +kernel, (aw_in 1040 (by decide +kernel) rfl), (aw_in 97 (by decide +kernel) rfl), Or.inl ⟨(aw_in 1128 (by decide +kernel) rfl), (aw_in 1041 (by decide +kernel) rfl)⟩⟩
set_option maxRecDepth 40000 in
theorem vL_Ln_78_Tb : aw_cv "ResultForms$Lines" 78 "ResultForms$Table" M_Tb_hasRoomForRow 0 := ⟨c_Tb_hasRoomForRow, by decide, by decide, by decide +kernel, (aw_in 628 (by decide +kernel) rfl), (aw_in 96 (by decide +kernel) rfl), Or.inl ⟨(aw_in 1129 (by decide +kernel) rfl), (aw_in 629 (by decide +kernel) rfl)⟩⟩
set_option maxRecDepth 40000 in
theorem vL_Ln_81_Sc : aw_cv "ResultForms$Lines" 81 "ResultForms$Scanner" M_Sc_fail 0 := ⟨c_Sc_fail, by decide, by decide, by decide +kernel, (aw_in 930 (by decide +kernel) rfl), (aw_in 97 (by decide +kernel) rfl), Or.inl ⟨(aw_in 1127 (by decide +kernel) rfl), (aw_in 931 (by decide +kernel) rfl)⟩⟩
set_option maxRecDepth 40000 in
theorem vL_Ln_84_Cm : aw_cv "ResultForms$Lines" 84 "ResultForms$Commas" M_Ln_parseRow 1 := ⟨c_Ln_parseRow, by decide, by decide, by decide +kernel, (aw_in 1132 (by decide +kernel) rfl), (aw_in 100 (by decide +kernel) rfl), Or.inr (Or.inr ⟨⟨"ResultForms$Lines", "parseRow", "(LResultForms$Table;)Z"⟩, "ResultForms$Lines", (aw_in 1130 (by decide +kernel) rfl), (aw_in 1812 (by decide +kernel) rfl), (List.mem_append_left _ (List.mem_of_getElem? (i := 2) rfl)), rfl, by decide, by decide, Or.inl rfl⟩)⟩
set_option maxRecDepth 40000 in
theorem vL_Ln_84_Ta : aw_cv "ResultForms$Lines" 84 "ResultForms$Tabs" M_Ln_parseRow 1 := ⟨c_Ln_parseRow, by decide, by decide, by decide +kernel, (aw_in 1132 (by decide +kernel) rfl), (aw_in 100 (by decide +kernel) rfl), Or.inr (Or.inr ⟨⟨"ResultForms$Lines", "parseRow", "(LResultForms$Table;)Z"⟩, "ResultForms$Lines", (aw_in 1130 (by decide +kernel) rfl), (aw_in 1812 (by decide +kernel) rfl), (List.mem_append_left _ (List.mem_of_getElem? (i := 5) rfl)), rfl, by decide, by decide, Or.inl rfl⟩)⟩
set_option maxRecDepth 40000 in
theorem vL_Ln_87_JS : aw_cv "ResultForms$Lines" 87 "java/lang/String" M_JS_isEmpty 0 := ⟨c_JS_isEmpty, by decide, by decide, by decide +kernel, (aw_in 1119 (by decide +kernel) rfl), (aw_in 104 (by decide +kernel) rfl), Or.inl ⟨(aw_in 1118 (by decide +kernel) rfl), (aw_in 1120 (by decide +kernel) rfl)⟩⟩
set_option maxRecDepth 40000 in
theorem vL_Ln_92_Sc : aw_cv "ResultForms$Lines" 92 "ResultForms$Scanner" M_Sc_next 0 := ⟨c_Sc_next, by decide, by decide, by decide +kernel, (aw_in 922 (by decide +kernel) rfl), (aw_in 97 (by decide +kernel) rfl), Or.inl ⟨(aw_in 1122 (by decide +kernel) rfl), (aw_in 923 (by decide +kernel) rfl)⟩⟩
set_option maxRecDepth 40000 in
theorem vL_Ln_96_JS : aw_cv "ResultForms$Lines" 96 "java/lang/String" M_JS_charAt 1 := ⟨c_JS_charAt, by decide, by decide, by decide +kernel, (aw_in 683 (by decide +kernel) rfl), (aw_in 104 (by decide +kernel) rfl), Or.inl ⟨(aw_in 1123 (by decide +kernel) rfl), (aw_in 684 (by decide +kernel) rfl)⟩⟩
set_option maxRecDepth 40000 in
theorem vL_Ln_100_Sc : aw_cv "ResultForms$Lines" 100 "ResultForms$Scanner" M_Sc_must 1 := ⟨c_Sc_must, by decide, by decide, by decide +kernel, (aw_in 957 (by decide +kernel) rfl), (aw_in 97 (by decide +kernel) rfl), Or.inl ⟨(aw_in 1124 (by decide +kernel) rfl), (aw_in 958 (by decide +kernel) rfl)⟩⟩
set_option maxRecDepth 40000 in
theorem vL_Ln_104_Sc : aw_cv "ResultForms$Lines" 104 "ResultForms$Scanner" M_Sc_newName 1 := ⟨c_Sc_newName, by decide, by decide, by decide +kernel, (aw_in 940 (by decide +kernel) rfl), (aw_in 97 (by decide +kernel) rfl), Or.inl ⟨(aw_in 1125 (by decide +kernel) rfl), (aw_in 941 (by decide +kernel) rfl)⟩⟩
set_option maxRecDepth 40000 in
theorem vL_Ln_107_Sc : aw_cv "ResultForms$Lines" 107 "ResultForms$Scanner" M_Sc_took 1 := ⟨c_Sc_took, by decide, by decide, by decide +kernel, (aw_in 926 (by decide +kernel) rfl), (aw_in 97 (by decide +kernel) rfl), Or.inl ⟨(aw_in 1126 (by decide +kernel) rfl), (aw_in 927 (by decide +kernel) rfl)⟩⟩
set_option maxRecDepth 40000 in
theorem vL_Ln_111_Tb : aw_cv "ResultForms$Lines" 111 "ResultForms$Table" M_Tb_addRow 0 := ⟨c_Tb_addRow, by decide, by decide, by decide +kernel, (aw_in 632 (by decide +kernel) rfl), (aw_in 96 (by decide +kernel) rfl), Or.inl ⟨(aw_in 1134 (by decide +kernel) rfl), (aw_in 633 (by decide +kernel) rfl)⟩⟩
set_option maxRecDepth 40000 in
theorem vL_Ln_114_Sc : aw_cv "ResultForms$Lines" 114 "ResultForms$Scanner" M_Sc_beginTerm 1 := ⟨c_Sc_beginTerm, by decide, by decide, by decide +kernel, (aw_in 221 (by decide +kernel) rfl), (aw_in 97 (by decide +kernel) rfl), Or.inl ⟨(aw_in 1135 (by decide +kernel) rfl), (aw_in 222 (by decide +kernel) rfl)⟩⟩
set_option maxRecDepth 40000 in
theorem vL_Ln_117_Cm : aw_cv "ResultForms$Lines" 117 "ResultForms$Commas" M_Cm_parseTerm 0 := ⟨c_Cm_parseTerm, by decide, by decide, by decide +kernel, (aw_in 1140 (by decide +kernel) rfl), (aw_in 101 (by decide +kernel) rfl), Or.inr (Or.inr ⟨⟨"ResultForms$Lines", "parseTerm", "()Z"⟩, "ResultForms$Lines", (aw_in 1136 (by decide +kernel) rfl), (aw_in 1138 (by decide +kernel) rfl), (aw_in 1139 (by decide +kernel) rfl), rfl, by decide, by decide, Or.inr (List.mem_of_getElem? (i := 46) rfl)⟩)⟩
set_option maxRecDepth 40000 in
theorem vL_Ln_117_Ta : aw_cv "ResultForms$Lines" 117 "ResultForms$Tabs" M_Ta_parseTerm 0 := ⟨c_Ta_parseTerm, by decide, by decide, by decide +kernel, (aw_in 1174 (by decide +kernel) rfl), (aw_in 102 (by decide +kernel) rfl), Or.inr (Or.inr ⟨⟨"ResultForms$Lines", "parseTerm", "()Z"⟩, "ResultForms$Lines", (aw_in 1136 (by decide +kernel) rfl), (aw_in 1138 (by decide +kernel) rfl), (aw_in 1173 (by decide +kernel) rfl), rfl, by decide, by decide, Or.inr (List.mem_of_getElem? (i := 46) rfl)⟩)⟩
set_option maxRecDepth 40000 in
theorem fL_Ln_120_Sc : aw_fd "ResultForms$Lines" 120 4 5 .int false := ⟨"ResultForms$Scanner", "ResultForms$Scanner", T_Sc, 8, ty_Sc, rfl, by decide, in_Sc, ok_Sc, nm_Sc, rfl, rfl, (Or.inr ⟨"ResultForms", (List.mem_of_getElem? (i := 21) rfl)⟩), (Or.inl rfl)⟩
set_option maxRecDepth 40000 in
theorem fL_Ln_19_Cm : aw_fd "ResultForms$Lines" 19 7 2 (.object "ResultForms$Terms") true := ⟨"ResultForms$Commas", "ResultForms$Lines", T_Cm, 6, ty_Cm, rfl, by decide, in_Cm, ok_Cm, nm_Cm, rfl, rfl, (Or.inl (aw_in 322 (by decide +kernel) rfl)), (Or.inl rfl)⟩
set_option maxRecDepth 40000 in
theorem fL_Ln_19_Ta : aw_fd "ResultForms$Lines" 19 8 2 (.object "ResultForms$Terms") true := ⟨"ResultForms$Tabs", "ResultForms$Lines", T_Ta, 6, ty_Ta, rfl, by decide, in_Ta, ok_Ta, nm_Ta, rfl, rfl, (Or.inl (aw_in 322 (by decide +kernel) rfl)), (Or.inl rfl)⟩
set_option maxRecDepth 40000 in
theorem fL_Ln_123_Sc : aw_fd "ResultForms$Lines" 123 4 6 .int false := ⟨"ResultForms$Scanner", "ResultForms$Scanner", T_Sc, 8, ty_Sc, rfl, by decide, in_Sc, ok_Sc, nm_Sc, rfl, rfl, (Or.inr ⟨"ResultForms", (List.mem_of_getElem? (i := 24) rfl)⟩), (Or.inl rfl)⟩
set_option maxRecDepth 40000 in
theorem fL_Ln_126_Sc : aw_fd "ResultForms$Lines" 126 4 7 (.object "ResultForms$Text") true := ⟨"ResultForms$Scanner", "ResultForms$Scanner", T_Sc, 8, ty_Sc, rfl, by decide, in_Sc, ok_Sc, nm_Sc, rfl, rfl, (Or.inr ⟨"ResultForms", (List.mem_of_getElem? (i := 29) rfl)⟩), (Or.inl rfl)⟩
set_option maxRecDepth 40000 in
theorem vL_Ln_130_Te : aw_cv "ResultForms$Lines" 130 "ResultForms$Terms" M_Te_numberOf 3 := ⟨c_Te_numberOf, by decide, by decide, by decide +kernel, (aw_in 576 (by decide +kernel) rfl), (aw_in 95 (by decide +kernel) rfl), Or.inl ⟨(aw_in 1201 (by decide +kernel) rfl), (aw_in 577 (by decide +kernel) rfl)⟩⟩
set_option maxRecDepth 40000 in
theorem vL_Ln_136_Tb : aw_cv "ResultForms$Lines" 136 "ResultForms$Table" M_Tb_setCell 3 := ⟨c_Tb_setCell, by decide, by decide, by decide +kernel, (aw_in 637 (by decide +kernel) rfl), (aw_in 96 (by decide +kernel) rfl), Or.inl ⟨(aw_in 1202 (by decide +kernel) rfl), (aw_in 638 (by decide +kernel) rfl)⟩⟩
set_option maxRecDepth 40000 in
theorem fL_Cm_59_Cm : aw_fd "ResultForms$Commas" 59 7 0 (.object "ResultForms$Scanner") true := ⟨"ResultForms$Commas", "ResultForms$Commas", T_Cm, 6, ty_Cm, rfl, by decide, in_Cm, ok_Cm, nm_Cm, rfl, rfl, (Or.inl (aw_in 315 (by decide +kernel) rfl)), (Or.inr (aw_in 316 (by decide +kernel) rfl))⟩
set_option maxRecDepth 40000 in
theorem vL_Cm_63_Sc : aw_cv "ResultForms$Commas" 63 "ResultForms$Scanner" M_Sc_took 1 := ⟨c_Sc_took, by decide, by decide, by decide +kernel, (aw_in 926 (by decide +kernel) rfl), (aw_in 97 (by decide +kernel) rfl), Or.inl ⟨(aw_in 1142 (by decide +kernel) rfl), (aw_in 927 (by decide +kernel) rfl)⟩⟩
set_option maxRecDepth 40000 in
theorem vL_Cm_68_Cm : aw_cv "ResultForms$Commas" 68 "ResultForms$Commas" M_Cm_parseQuoted 0 := ⟨c_Cm_parseQuoted, by decide, by decide, by decide +kernel, (aw_in 1145 (by decide +kernel) rfl), (aw_in 101 (by decide +kernel) rfl), Or.inl ⟨(aw_in 1143 (by decide +kernel) rfl), (aw_in 29 (by decide +kernel) rfl)⟩⟩
set_option maxRecDepth 40000 in
theorem vL_Cm_72_Sc : aw_cv "ResultForms$Commas" 72 "ResultForms$Scanner" M_Sc_tookAll 1 := ⟨c_Sc_tookAll, by decide, by decide, by decide +kernel, (aw_in 1098 (by decide +kernel) rfl), (aw_in 97 (by decide +kernel) rfl), Or.inl ⟨(aw_in 1154 (by decide +kernel) rfl), (aw_in 1099 (by decide +kernel) rfl)⟩⟩
set_option maxRecDepth 40000 in
theorem vL_Cm_76_Cm : aw_cv "ResultForms$Commas" 76 "ResultForms$Commas" M_Ln_parseBlank 0 := ⟨c_Ln_parseBlank, by decide, by decide, by decide +kernel, (aw_in 1159 (by decide +kernel) rfl), (aw_in 100 (by decide +kernel) rfl), Or.inr (Or.inr ⟨⟨"ResultForms$Commas", "parseBlank", "()Z"⟩, "ResultForms$Lines", (aw_in 1155 (by decide +kernel) rfl), (aw_in 1156 (by decide +kernel) rfl), (aw_in 1158 (by decide +kernel) rfl), rfl, by decide, by decide, Or.inl rfl⟩)⟩
set_option maxRecDepth 40000 in
theorem vL_Cm_79_Sc : aw_cv "ResultForms$Commas" 79 "ResultForms$Scanner" M_Sc_next 0 := ⟨c_Sc_next, by decide, by decide, by decide +kernel, (aw_in 922 (by decide +kernel) rfl), (aw_in 97 (by decide +kernel) rfl), Or.inl ⟨(aw_in 1148 (by decide +kernel) rfl), (aw_in 923 (by decide +kernel) rfl)⟩⟩
set_option maxRecDepth 40000 in
theorem sL_Cm_83 : aw_cs "ResultForms$Commas" 83 M_Cm_isBare 1 := ⟨c_Cm_isBare, by decide, by decide, by decide +kernel, (aw_in 1166 (by decide +kernel) rfl), (aw_in 101 (by decide +kernel) rfl), Or.inl (aw_in 1165 (by decide +kernel) rfl)⟩
set_option maxRecDepth 40000 in
theorem vL_Cm_86_Cm : aw_cv "ResultForms$Commas" 86 "ResultForms$Commas" M_Cm_parseBare 0 := ⟨c_Cm_parseBare, by decide, by decide, by decide +kernel, (aw_in 1171 (by decide +kernel) rfl), (aw_in 101 (by decide +kernel) rfl), Or.inl ⟨(aw_in 1169 (by decide +kernel) rfl), (aw_in 30 (by decide +kernel) rfl)⟩⟩
set_option maxRecDepth 40000 in
theorem vL_Cm_89_Sc : aw_cv "ResultForms$Commas" 89 "ResultForms$Scanner" M_Sc_beginTerm 1 := ⟨c_Sc_beginTerm, by decide, by decide, by decide +kernel, (aw_in 221 (by decide +kernel) rfl), (aw_in 97 (by decide +kernel) rfl), Or.inl ⟨(aw_in 1147 (by decide +kernel) rfl), (aw_in 222 (by decide +kernel) rfl)⟩⟩
set_option maxRecDepth 40000 in
theorem vL_Cm_92_Sc : aw_cv "ResultForms$Commas" 92 "ResultForms$Scanner" M_Sc_ahead 1 := ⟨c_Sc_ahead, by decide, by decide, by decide +kernel, (aw_in 1006 (by decide +kernel) rfl), (aw_in 97 (by decide +kernel) rfl), Or.inr (Or.inl ⟨"ResultForms", (List.mem_of_getElem? (i := 47) rfl), (aw_in 20 (by decide +kernel) rfl)⟩)⟩
set_option maxRecDepth 40000 in
theorem fL_Cm_95_Sc : aw_fd "ResultForms$Commas" 95 4 7 (.object "ResultForms$Text") true := ⟨"ResultForms$Scanner", "ResultForms$Scanner", T_Sc, 8, ty_Sc, rfl, by decide, in_Sc, ok_Sc, nm_Sc, rfl, rfl, (Or.inr ⟨"ResultForms", (List.mem_of_getElem? (i := 28) rfl)⟩), (Or.inl rfl)⟩
set_option maxRecDepth 40000 in
theorem vL_Cm_99_Tx : aw_cv "ResultForms$Commas" 99 "ResultForms$Text" M_Tx_isFull 0 := ⟨c_Tx_isFull, by decide, by decide, by decide +kernel, (aw_in 1001 (by decide +kernel) rfl), (aw_in 94 (by decide +kernel) rfl), Or.inl ⟨(aw_in 1150 (by decide +kernel) rfl), (aw_in 1002 (by decide +kernel) rfl)⟩⟩
set_option maxRecDepth 40000 in
theorem sL_Cm_104 : aw_cs "ResultForms$Commas" 104 M_RF_isTextByte 1 := ⟨c_RF_isTextByte, by decide, by decide, by decide +kernel, (aw_in 433 (by decide +kernel) rfl), (aw_in 92 (by decide +kernel) rfl), Or.inr ⟨"ResultForms", (List.mem_of_getElem? (i := 48) rfl)⟩⟩
set_option maxRecDepth 40000 in
theorem vL_Cm_107_Sc : aw_cv "ResultForms$Commas" 107 "ResultForms$Scanner" M_Sc_fail 0 := ⟨c_Sc_fail, by decide, by decide, by decide +kernel, (aw_in 930 (by decide +kernel) rfl), (aw_in 97 (by decide +kernel) rfl), Or.inl ⟨(aw_in 1152 (by decide +kernel) rfl), (aw_in 931 (by decide +kernel) rfl)⟩⟩
set_option maxRecDepth 40000 in
theorem vL_Cm_110_Sc : aw_cv "ResultForms$Commas" 110 "ResultForms$Scanner" M_Sc_take 2 := ⟨c_Sc_take, by decide, by decide, by decide +kernel, (aw_in 1013 (by decide +kernel) rfl), (aw_in 97 (by decide +kernel) rfl), Or.inl ⟨(aw_in 1153 (by decide +kernel) rfl), (aw_in 1014 (by decide +kernel) rfl)⟩⟩
set_option maxRecDepth 40000 in
theorem fL_Ln_140_Sc : aw_fd "ResultForms$Lines" 140 4 1 .int false := ⟨"ResultForms$Scanner", "ResultForms$Scanner", T_Sc, 8, ty_Sc, rfl, by decide, in_Sc, ok_Sc, nm_Sc, rfl, rfl, (Or.inr ⟨"ResultForms", (List.mem_of_getElem? (i := 17) rfl)⟩), (Or.inl rfl)⟩
set_option maxRecDepth 40000 in
theorem sL_Ln_143 : aw_cs "ResultForms$Lines" 143 M_RF_isLetterOrDigit 1 := ⟨c_RF_isLetterOrDigit, by decide, by decide, by decide +kernel, (aw_in 548 (by decide +kernel) rfl), (aw_in 92 (by decide +kernel) rfl), Or.inr ⟨"ResultForms", (List.mem_of_getElem? (i := 50) rfl)⟩⟩
set_option maxRecDepth 40000 in
theorem vL_Ln_146_Sc : aw_cv "ResultForms$Lines" 146 "ResultForms$Scanner" M_Sc_take 2 := ⟨c_Sc_take, by decide, by decide, by decide +kernel, (aw_in 1013 (by decide +kernel) rfl), (aw_in 97 (by decide +kernel) rfl), Or.inl ⟨(aw_in 1162 (by decide +kernel) rfl), (aw_in 1014 (by decide +kernel) rfl)⟩⟩
set_option maxRecDepth 40000 in
theorem vL_Ln_150_Tx : aw_cv "ResultForms$Lines" 150 "ResultForms$Text" M_Tx_isOf 1 := ⟨c_Tx_isOf, by decide, by decide, by decide +kernel, (aw_in 450 (by decide +kernel) rfl), (aw_in 94 (by decide +kernel) rfl), Or.inl ⟨(aw_in 1163 (by decide +kernel) rfl), (aw_in 451 (by decide +kernel) rfl)⟩⟩
set_option maxRecDepth 40000 in
theorem vL_Ln_155_Sc : aw_cv "ResultForms$Lines" 155 "ResultForms$Scanner" M_Sc_failAt 1 := ⟨c_Sc_failAt, by decide, by decide, by decide +kernel, (aw_in 949 (by decide +kernel) rfl), (aw_in 97 (by decide +kernel) rfl), Or.inl ⟨(aw_in 1164 (by decide +kernel) rfl), (aw_in 950 (by decide +kernel) rfl)⟩⟩
set_option maxRecDepth 40000 in
theorem sL_Cm_114 : aw_cs "ResultForms$Commas" 114 M_RF_isPrinted 1 := ⟨c_RF_isPrinted, by decide, by decide, by decide +kernel, (aw_in 436 (by decide +kernel) rfl), (aw_in 92 (by decide +kernel) rfl), Or.inr ⟨"ResultForms", (List.mem_of_getElem? (i := 51) rfl)⟩⟩
set_option maxRecDepth 40000 in
theorem fL_Ta_60_Ta : aw_fd "ResultForms$Tabs" 60 8 0 (.object "ResultForms$Scanner") true := ⟨"ResultForms$Tabs", "ResultForms$Tabs", T_Ta, 6, ty_Ta, rfl, by decide, in_Ta, ok_Ta, nm_Ta, rfl, rfl, (Or.inl (aw_in 313 (by decide +kernel) rfl)), (Or.inr (aw_in 314 (by decide +kernel) rfl))⟩
set_option maxRecDepth 40000 in
theorem vL_Ta_64_Sc : aw_cv "ResultForms$Tabs" 64 "ResultForms$Scanner" M_Sc_next 0 := ⟨c_Sc_next, by decide, by decide, by decide +kernel, (aw_in 922 (by decide +kernel) rfl), (aw_in 97 (by decide +kernel) rfl), Or.inl ⟨(aw_in 1176 (by decide +kernel) rfl), (aw_in 923 (by decide +kernel) rfl)⟩⟩
set_option maxRecDepth 40000 in
theorem vL_Ta_70_Sc : aw_cv "ResultForms$Tabs" 70 "ResultForms$Scanner" M_Sc_must 1 := ⟨c_Sc_must, by decide, by decide, by decide +kernel, (aw_in 957 (by decide +kernel) rfl), (aw_in 97 (by decide +kernel) rfl), Or.inl ⟨(aw_in 1177 (by decide +kernel) rfl), (aw_in 958 (by decide +kernel) rfl)⟩⟩
set_option maxRecDepth 40000 in
theorem vL_Ta_74_Ta : aw_cv "ResultForms$Tabs" 74 "ResultForms$Tabs" M_Ta_parseNode 0 := ⟨c_Ta_parseNode, by decide, by decide, by decide +kernel, (aw_in 1180 (by decide +kernel) rfl), (aw_in 102 (by decide +kernel) rfl), Or.inl ⟨(aw_in 1178 (by decide +kernel) rfl), (aw_in 31 (by decide +kernel) rfl)⟩⟩
set_option maxRecDepth 40000 in
theorem vL_Ta_78_Ta : aw_cv "ResultForms$Tabs" 78 "ResultForms$Tabs" M_Ln_parseBlank 0 := ⟨c_Ln_parseBlank, by decide, by decide, by decide +kernel, (aw_in 1159 (by decide +kernel) rfl), (aw_in 100 (by decide +kernel) rfl), Or.inr (Or.inr ⟨⟨"ResultForms$Tabs", "parseBlank", "()Z"⟩, "ResultForms$Lines", (aw_in 1190 (by decide +kernel) rfl), (aw_in 1191 (by decide +kernel) rfl), (aw_in 1192 (by decide +kernel) rfl), rfl, by decide, by decide, Or.inl rfl⟩)⟩
set_option maxRecDepth 40000 in
theorem vL_Ta_81_Ta : aw_cv "ResultForms$Tabs" 81 "ResultForms$Tabs" M_Ta_parseLiteral 0 := ⟨c_Ta_parseLiteral, by decide, by decide, by decide +kernel, (aw_in 1195 (by decide +kernel) rfl), (aw_in 102 (by decide +kernel) rfl), Or.inl ⟨(aw_in 1193 (by decide +kernel) rfl), (aw_in 32 (by decide +kernel) rfl)⟩⟩
set_option maxRecDepth 40000 in
theorem fL_Ta_84_Sc : aw_fd "ResultForms$Tabs" 84 4 1 .int false := ⟨"ResultForms$Scanner", "ResultForms$Scanner", T_Sc, 8, ty_Sc, rfl, by decide, in_Sc, ok_Sc, nm_Sc, rfl, rfl, (Or.inr ⟨"ResultForms", (List.mem_of_getElem? (i := 16) rfl)⟩), (Or.inl rfl)⟩
set_option maxRecDepth 40000 in
theorem vL_Ta_88_Sc : aw_cv "ResultForms$Tabs" 88 "ResultForms$Scanner" M_Sc_beginTerm 1 := ⟨c_Sc_beginTerm, by decide, by decide, by decide +kernel, (aw_in 221 (by decide +kernel) rfl), (aw_in 97 (by decide +kernel) rfl), Or.inl ⟨(aw_in 1182 (by decide +kernel) rfl), (aw_in 222 (by decide +kernel) rfl)⟩⟩
set_option maxRecDepth 40000 in
theorem fL_Ta_92_Sc : aw_fd "ResultForms$Tabs" 92 4 7 (.object "ResultForms$Text") true := ⟨"ResultForms$Scanner", "ResultForms$Scanner", T_Sc, 8, ty_Sc, rfl, by decide, in_Sc, ok_Sc, nm_Sc, rfl, rfl, (Or.inr ⟨"ResultForms", (List.mem_of_getElem? (i := 27) rfl)⟩), (Or.inl rfl)⟩
set_option maxRecDepth 40000 in
theorem vL_Ta_96_Tx : aw_cv "ResultForms$Tabs" 96 "ResultForms$Text" M_Tx_isOf 1 := ⟨c_Tx_isOf, by decide, by decide, by decide +kernel, (aw_in 450 (by decide +kernel) rfl), (aw_in 94 (by decide +kernel) rfl), Or.inl ⟨(aw_in 1183 (by decide +kernel) rfl), (aw_in 451 (by decide +kernel) rfl)⟩⟩
set_option maxRecDepth 40000 in
theorem vL_Ta_102_Sc : aw_cv "ResultForms$Tabs" 102 "ResultForms$Scanner" M_Sc_took 1 := ⟨c_Sc_took, by decide, by decide, by decide +kernel, (aw_in 926 (by decide +kernel) rfl), (aw_in 97 (by decide +kernel) rfl), Or.inl ⟨(aw_in 1184 (by decide +kernel) rfl), (aw_in 927 (by decide +kernel) rfl)⟩⟩
set_option maxRecDepth 40000 in
theorem vL_Ta_105_Sc : aw_cv "ResultForms$Tabs" 105 "ResultForms$Scanner" M_Sc_failAt 1 := ⟨c_Sc_failAt, by decide, by decide, by decide +kernel, (aw_in 949 (by decide +kernel) rfl), (aw_in 97 (by decide +kernel) rfl), Or.inl ⟨(aw_in 1185 (by decide +kernel) rfl), (aw_in 950 (by decide +kernel) rfl)⟩⟩
set_option maxRecDepth 40000 in
theorem vL_Ta_108_Tx : aw_cv "ResultForms$Tabs" 108 "ResultForms$Text" M_Tx_isFull 0 := ⟨c_Tx_isFull, by decide, by decide, by decide +kernel, (aw_in 1001 (by decide +kernel) rfl), (aw_in 94 (by decide +kernel) rfl), Or.inl ⟨(aw_in 1186 (by decide +kernel) rfl), (aw_in 1002 (by decide +kernel) rfl)⟩⟩
set_option maxRecDepth 40000 in
theorem sL_Ta_111 : aw_cs "ResultForms$Tabs" 111 M_RF_isTextByte 1 := ⟨c_RF_isTextByte, by decide, by decide, by decide +kernel, (aw_in 433 (by decide +kernel) rfl), (aw_in 92 (by decide +kernel) rfl), Or.inr ⟨"ResultForms", (List.mem_of_getElem? (i := 52) rfl)⟩⟩
set_option maxRecDepth 40000 in
theorem vL_Ta_114_Sc : aw_cv "ResultForms$Tabs" 114 "ResultForms$Scanner" M_Sc_fail 0 := ⟨c_Sc_fail, by decide, by decide, by decide +kernel, (aw_in 930 (by decide +kernel) rfl), (aw_in 97 (by decide +kernel) rfl), Or.inl ⟨(aw_in 1188 (by decide +kernel) rfl), (aw_in 931 (by decide +kernel) rfl)⟩⟩
set_option maxRecDepth 40000 in
theorem vL_Ta_117_Sc : aw_cv "ResultForms$Tabs" 117 "ResultForms$Scanner" M_Sc_take 2 := ⟨c_Sc_take, by decide, by decide, by decide +kernel, (aw_in 1013 (by decide +kernel) rfl), (aw_in 97 (by decide +kernel) rfl), Or.inl ⟨(aw_in 1189 (by decide +kernel) rfl), (aw_in 1014 (by decide +kernel) rfl)⟩⟩
set_option maxRecDepth 40000 in
theorem vL_Ta_121_Sc : aw_cv "ResultForms$Tabs" 121 "ResultForms$Scanner" M_Sc_backslashedText 1 := ⟨c_Sc_backslashedText, by decide, by decide, by decide +kernel, (aw_in 997 (by decide +kernel) rfl), (aw_in 97 (by decide +kernel) rfl), Or.inl ⟨(aw_in 1197 (by decide +kernel) rfl), (aw_in 998 (by decide +kernel) rfl)⟩⟩
set_option maxRecDepth 40000 in
theorem tL_Ta_125 : ("ResultForms$Tabs", 125, "@", 84) ∈ aw_ldc := List.mem_of_getElem? (i := 84) rfl
set_option maxRecDepth 40000 in
theorem vL_Ta_127_Sc : aw_cv "ResultForms$Tabs" 127 "ResultForms$Scanner" M_Sc_extraWord 1 := ⟨c_Sc_extraWord, by decide, by decide, by decide +kernel, (aw_in 1027 (by decide +kernel) rfl), (aw_in 97 (by decide +kernel) rfl), Or.inl ⟨(aw_in 1199 (by decide +kernel) rfl), (aw_in 1028 (by decide +kernel) rfl)⟩⟩
set_option maxRecDepth 40000 in
theorem tL_Ta_130 : ("ResultForms$Tabs", 130, "^^", 85) ∈ aw_ldc := List.mem_of_getElem? (i := 85) rfl
set_option maxRecDepth 40000 in
theorem vL_RF_217_Js : aw_cv "ResultForms" 217 "ResultForms$Json" M_Js_parseTruth 0 := ⟨c_Js_parseTruth, by decide, by decide, by decide +kernel, (aw_in 1219 (by decide +kernel) rfl), (aw_in 98 (by decide +kernel) rfl), Or.inl ⟨(aw_in 1218 (by decide +kernel) rfl), (aw_in 1220 (by decide +kernel) rfl)⟩⟩
set_option maxRecDepth 40000 in
theorem vL_RF_220_Xm : aw_cv "ResultForms" 220 "ResultForms$Xml" M_Xm_parseTruth 0 := ⟨c_Xm_parseTruth, by decide, by decide, by decide +kernel, (aw_in 1232 (by decide +kernel) rfl), (aw_in 99 (by decide +kernel) rfl), Or.inl ⟨(aw_in 1231 (by decide +kernel) rfl), (aw_in 1233 (by decide +kernel) rfl)⟩⟩
set_option maxRecDepth 40000 in
theorem tL_Js_99 : ("ResultForms$Json", 99, " { \"head\" : { } , \"boolean\" : ", 86) ∈ aw_ldc := List.mem_of_getElem? (i := 86) rfl
set_option maxRecDepth 40000 in
theorem vL_Js_107_Sc : aw_cv "ResultForms$Json" 107 "ResultForms$Scanner" M_Sc_truth 0 := ⟨c_Sc_truth, by decide, by decide, by decide +kernel, (aw_in 1224 (by decide +kernel) rfl), (aw_in 97 (by decide +kernel) rfl), Or.inl ⟨(aw_in 1223 (by decide +kernel) rfl), (aw_in 1225 (by decide +kernel) rfl)⟩⟩
set_option maxRecDepth 40000 in
theorem tL_Js_111 : ("ResultForms$Json", 111, " } ", 89) ∈ aw_ldc := List.mem_of_getElem? (i := 89) rfl
set_option maxRecDepth 40000 in
theorem tL_Sc_129 : ("ResultForms$Scanner", 129, "true", 87) ∈ aw_ldc := List.mem_of_getElem? (i := 87) rfl
set_option maxRecDepth 40000 in
theorem vL_Sc_131_Sc : aw_cv "ResultForms$Scanner" 131 "ResultForms$Scanner" M_Sc_must 1 := ⟨c_Sc_must, by decide, by decide, by decide +kernel, (aw_in 957 (by decide +kernel) rfl), (aw_in 97 (by decide +kernel) rfl), Or.inl ⟨(aw_in 1228 (by decide +kernel) rfl), (aw_in 958 (by decide +kernel) rfl)⟩⟩
set_option maxRecDepth 40000 in
theorem tL_Sc_134 : ("ResultForms$Scanner", 134, "false", 88) ∈ aw_ldc := List.mem_of_getElem? (i := 88) rfl
set_option maxRecDepth 40000 in
theorem vL_Xm_140_Sc : aw_cv "ResultForms$Xml" 140 "ResultForms$Scanner" M_Sc_truth 0 := ⟨c_Sc_truth, by decide, by decide, by decide +kernel, (aw_in 1224 (by decide +kernel) rfl), (aw_in 97 (by decide +kernel) rfl), Or.inl ⟨(aw_in 1235 (by decide +kernel) rfl), (aw_in 1225 (by decide +kernel) rfl)⟩⟩
set_option maxRecDepth 40000 in
theorem fL_RF_46_RF : aw_fd "ResultForms" 46 9 7 (.object "ResultForms$Table") true := ⟨"ResultForms", "ResultForms", T_RF, 14, ty_RF, rfl, by decide, in_RF, ok_RF, nm_RF, rfl, rfl, (Or.inl (aw_in 366 (by decide +kernel) rfl)), (Or.inl rfl)⟩
set_option maxRecDepth 40000 in
theorem fL_RF_49_RF : aw_fd "ResultForms" 49 9 8 .boolean false := ⟨"ResultForms", "ResultForms", T_RF, 14, ty_RF, rfl, by decide, in_RF, ok_RF, nm_RF, rfl, rfl, (Or.inl (aw_in 367 (by decide +kernel) rfl)), (Or.inl rfl)⟩
set_option maxRecDepth 40000 in
theorem vL_RF_221_Tb : aw_cv "ResultForms" 221 "ResultForms$Table" M_Tb_hasNamesOf 1 := ⟨c_Tb_hasNamesOf, by decide, by decide, by decide +kernel, (aw_in 1245 (by decide +kernel) rfl), (aw_in 96 (by decide +kernel) rfl), Or.inl ⟨(aw_in 1244 (by decide +kernel) rfl), (aw_in 1246 (by decide +kernel) rfl)⟩⟩
set_option maxRecDepth 40000 in
theorem vL_RF_224_Tb : aw_cv "ResultForms" 224 "ResultForms$Table" M_Tb_isAlike 3 := ⟨c_Tb_isAlike, by decide, by decide, by decide +kernel, (aw_in 1249 (by decide +kernel) rfl), (aw_in 96 (by decide +kernel) rfl), Or.inl ⟨(aw_in 1248 (by decide +kernel) rfl), (aw_in 1250 (by decide +kernel) rfl)⟩⟩
set_option maxRecDepth 40000 in
theorem vL_RF_228_RF : aw_cv "ResultForms" 228 "ResultForms" M_RF_isLacking 1 := ⟨c_RF_isLacking, by decide, by decide, by decide +kernel, (aw_in 1255 (by decide +kernel) rfl), (aw_in 92 (by decide +kernel) rfl), Or.inl ⟨(aw_in 1253 (by decide +kernel) rfl), (aw_in 33 (by decide +kernel) rfl)⟩⟩
set_option maxRecDepth 40000 in
theorem vL_Tb_61_Tb : aw_cv "ResultForms$Table" 61 "ResultForms$Table" M_Tb_cell 2 := ⟨c_Tb_cell, by decide, by decide, by decide +kernel, (aw_in 652 (by decide +kernel) rfl), (aw_in 96 (by decide +kernel) rfl), Or.inl ⟨(aw_in 1252 (by decide +kernel) rfl), (aw_in 653 (by decide +kernel) rfl)⟩⟩
set_option maxRecDepth 40000 in
theorem vL_RF_239_Tb : aw_cv "ResultForms" 239 "ResultForms$Table" M_Tb_countAlike 3 := ⟨c_Tb_countAlike, by decide, by decide, by decide +kernel, (aw_in 1258 (by decide +kernel) rfl), (aw_in 96 (by decide +kernel) rfl), Or.inl ⟨(aw_in 1257 (by decide +kernel) rfl), (aw_in 1259 (by decide +kernel) rfl)⟩⟩
set_option maxRecDepth 40000 in
theorem vL_Tb_64_Tb : aw_cv "ResultForms$Table" 64 "ResultForms$Table" M_Tb_isAlike 3 := ⟨c_Tb_isAlike, by decide, by decide, by decide +kernel, (aw_in 1249 (by decide +kernel) rfl), (aw_in 96 (by decide +kernel) rfl), Or.inl ⟨(aw_in 1261 (by decide +kernel) rfl), (aw_in 1250 (by decide +kernel) rfl)⟩⟩
set_option maxRecDepth 40000 in
theorem vL_RF_231_Tb : aw_cv "ResultForms" 231 "ResultForms$Table" M_Tb_dropRepeated 0 := ⟨c_Tb_dropRepeated, by decide, by decide, by decide +kernel, (aw_in 1271 (by decide +kernel) rfl), (aw_in 96 (by decide +kernel) rfl), Or.inl ⟨(aw_in 1270 (by decide +kernel) rfl), (aw_in 1272 (by decide +kernel) rfl)⟩⟩
set_option maxRecDepth 40000 in
theorem vL_Tb_68_Tb : aw_cv "ResultForms$Table" 68 "ResultForms$Table" M_Tb_countAlike 3 := ⟨c_Tb_countAlike, by decide, by decide, by decide +kernel, (aw_in 1258 (by decide +kernel) rfl), (aw_in 96 (by decide +kernel) rfl), Or.inl ⟨(aw_in 1274 (by decide +kernel) rfl), (aw_in 1259 (by decide +kernel) rfl)⟩⟩
set_option maxRecDepth 40000 in
theorem iL_Mo_1 : Cond.methodLink "ResultFormsModel" 1 Lib.objectInit ∈ aw_tbl := (aw_in 1284 (by decide +kernel) rfl)
set_option maxRecDepth 40000 in
theorem pL_Mo_7_Mo : aw_pf "ResultFormsModel" 7 10 1 (.array .int) true := ⟨"ResultFormsModel", "ResultFormsModel", T_Mo, 37, ty_Mo, rfl, by decide, in_Mo, ok_Mo, nm_Mo, rfl, rfl, (aw_in 1286 (by decide +kernel) rfl), (Or.inl rfl)⟩
set_option maxRecDepth 40000 in
theorem pL_Mo_13_Mo : aw_pf "ResultFormsModel" 13 10 3 (.array .int) true := ⟨"ResultFormsModel", "ResultFormsModel", T_Mo, 37, ty_Mo, rfl, by decide, in_Mo, ok_Mo, nm_Mo, rfl, rfl, (aw_in 1288 (by decide +kernel) rfl), (Or.inl rfl)⟩
set_option maxRecDepth 40000 in
theorem pL_Mo_16_Mo : aw_pf "ResultFormsModel" 16 10 5 (.array .int) true := ⟨"ResultFormsModel", "ResultFormsModel", T_Mo, 37, ty_Mo, rfl, by decide, in_Mo, ok_Mo, nm_Mo, rfl, rfl, (aw_in 1290 (by decide +kernel) rfl), (Or.inl rfl)⟩
set_option maxRecDepth 40000 in
theorem pL_Mo_19_Mo : aw_pf "ResultFormsModel" 19 10 7 (.array .int) true := ⟨"ResultFormsModel", "ResultFormsModel", T_Mo, 37, ty_Mo, rfl, by decide, in_Mo, ok_Mo, nm_Mo, rfl, rfl, (aw_in 1292 (by decide +kernel) rfl), (Or.inl rfl)⟩
set_option maxRecDepth 40000 in
theorem pL_Mo_22_Mo : aw_pf "ResultFormsModel" 22 10 8 (.array .int) true := ⟨"ResultFormsModel", "ResultFormsModel", T_Mo, 37, ty_Mo, rfl, by decide, in_Mo, ok_Mo, nm_Mo, rfl, rfl, (aw_in 1293 (by decide +kernel) rfl), (Or.inl rfl)⟩
set_option maxRecDepth 40000 in
theorem pL_Mo_25_Mo : aw_pf "ResultFormsModel" 25 10 9 (.array .int) true := ⟨"ResultFormsModel", "ResultFormsModel", T_Mo, 37, ty_Mo, rfl, by decide, in_Mo, ok_Mo, nm_Mo, rfl, rfl, (aw_in 1294 (by decide +kernel) rfl), (Or.inl rfl)⟩
set_option maxRecDepth 40000 in
theorem pL_Mo_28_Mo : aw_pf "ResultFormsModel" 28 10 10 (.array .int) true := ⟨"ResultFormsModel", "ResultFormsModel", T_Mo, 37, ty_Mo, rfl, by decide, in_Mo, ok_Mo, nm_Mo, rfl, rfl, (aw_in 1295 (by decide +kernel) rfl), (Or.inl rfl)⟩
set_option maxRecDepth 40000 in
theorem pL_Mo_31_Mo : aw_pf "ResultFormsModel" 31 10 12 (.array .int) true := ⟨"ResultFormsModel", "ResultFormsModel", T_Mo, 37, ty_Mo, rfl, by decide, in_Mo, ok_Mo, nm_Mo, rfl, rfl, (aw_in 1297 (by decide +kernel) rfl), (Or.inl rfl)⟩
set_option maxRecDepth 40000 in
theorem pL_Mo_34_Mo : aw_pf "ResultFormsModel" 34 10 13 (.array .int) true := ⟨"ResultFormsModel", "ResultFormsModel", T_Mo, 37, ty_Mo, rfl, by decide, in_Mo, ok_Mo, nm_Mo, rfl, rfl, (aw_in 1298 (by decide +kernel) rfl), (Or.inl rfl)⟩
set_option maxRecDepth 40000 in
theorem pL_Mo_37_Mo : aw_pf "ResultFormsModel" 37 10 15 (.array .int) true := ⟨"ResultFormsModel", "ResultFormsModel", T_Mo, 37, ty_Mo, rfl, by decide, in_Mo, ok_Mo, nm_Mo, rfl, rfl, (aw_in 1300 (by decide +kernel) rfl), (Or.inl rfl)⟩
set_option maxRecDepth 40000 in
theorem pL_Mo_40_Mo : aw_pf "ResultFormsModel" 40 10 18 (.array .int) true := ⟨"ResultFormsModel", "ResultFormsModel", T_Mo, 37, ty_Mo, rfl, by decide, in_Mo, ok_Mo, nm_Mo, rfl, rfl, (aw_in 1303 (by decide +kernel) rfl), (Or.inl rfl)⟩
set_option maxRecDepth 40000 in
theorem pL_Mo_43_Mo : aw_pf "ResultFormsModel" 43 10 19 (.array .int) true := ⟨"ResultFormsModel", "ResultFormsModel", T_Mo, 37, ty_Mo, rfl, by decide, in_Mo, ok_Mo, nm_Mo, rfl, rfl, (aw_in 1304 (by decide +kernel) rfl), (Or.inl rfl)⟩
set_option maxRecDepth 40000 in
theorem pL_Mo_46_Mo : aw_pf "ResultFormsModel" 46 10 21 (.array .int) true := ⟨"ResultFormsModel", "ResultFormsModel", T_Mo, 37, ty_Mo, rfl, by decide, in_Mo, ok_Mo, nm_Mo, rfl, rfl, (aw_in 1306 (by decide +kernel) rfl), (Or.inl rfl)⟩
set_option maxRecDepth 40000 in
theorem pL_Mo_49_Mo : aw_pf "ResultFormsModel" 49 10 22 (.array .boolean) true := ⟨"ResultFormsModel", "ResultFormsModel", T_Mo, 37, ty_Mo, rfl, by decide, in_Mo, ok_Mo, nm_Mo, rfl, rfl, (aw_in 1307 (by decide +kernel) rfl), (Or.inl rfl)⟩
set_option maxRecDepth 40000 in
theorem pL_Mo_53_Mo : aw_pf "ResultFormsModel" 53 10 24 (.array .int) true := ⟨"ResultFormsModel", "ResultFormsModel", T_Mo, 37, ty_Mo, rfl, by decide, in_Mo, ok_Mo, nm_Mo, rfl, rfl, (aw_in 1309 (by decide +kernel) rfl), (Or.inl rfl)⟩
set_option maxRecDepth 40000 in
theorem pL_Mo_56_Mo : aw_pf "ResultFormsModel" 56 10 25 (.array .int) true := ⟨"ResultFormsModel", "ResultFormsModel", T_Mo, 37, ty_Mo, rfl, by decide, in_Mo, ok_Mo, nm_Mo, rfl, rfl, (aw_in 1310 (by decide +kernel) rfl), (Or.inl rfl)⟩
set_option maxRecDepth 40000 in
theorem pL_Mo_59_Mo : aw_pf "ResultFormsModel" 59 10 27 (.array .int) true := ⟨"ResultFormsModel", "ResultFormsModel", T_Mo, 37, ty_Mo, rfl, by decide, in_Mo, ok_Mo, nm_Mo, rfl, rfl, (aw_in 1312 (by decide +kernel) rfl), (Or.inl rfl)⟩
set_option maxRecDepth 40000 in
theorem pL_Mo_62_Mo : aw_pf "ResultFormsModel" 62 10 28 (.array .int) true := ⟨"ResultFormsModel", "ResultFormsModel", T_Mo, 37, ty_Mo, rfl, by decide, in_Mo, ok_Mo, nm_Mo, rfl, rfl, (aw_in 1313 (by decide +kernel) rfl), (Or.inl rfl)⟩
set_option maxRecDepth 40000 in
theorem pL_Mo_65_Mo : aw_pf "ResultFormsModel" 65 10 29 (.array .int) true := ⟨"ResultFormsModel", "ResultFormsModel", T_Mo, 37, ty_Mo, rfl, by decide, in_Mo, ok_Mo, nm_Mo, rfl, rfl, (aw_in 1314 (by decide +kernel) rfl), (Or.inl rfl)⟩
set_option maxRecDepth 40000 in
theorem pL_Mo_68_Mo : aw_pf "ResultFormsModel" 68 10 30 (.array .int) true := ⟨"ResultFormsModel", "ResultFormsModel", T_Mo, 37, ty_Mo, rfl, by decide, in_Mo, ok_Mo, nm_Mo, rfl, rfl, (aw_in 1315 (by decide +kernel) rfl), (Or.inl rfl)⟩
set_option maxRecDepth 40000 in
theorem pL_Mo_71_Mo : aw_pf "ResultFormsModel" 71 10 35 (.array .int) true := ⟨"ResultFormsModel", "ResultFormsModel", T_Mo, 37, ty_Mo, rfl, by decide, in_Mo, ok_Mo, nm_Mo, rfl, rfl, (aw_in 1320 (by decide +kernel) rfl), (Or.inl rfl)⟩
set_option maxRecDepth 40000 in
theorem pL_Mo_74_Mo : aw_pf "ResultFormsModel" 74 10 36 (.array .int) true := ⟨"ResultFormsModel", "ResultFormsModel", T_Mo, 37, ty_Mo, rfl, by decide, in_Mo, ok_Mo, nm_Mo, rfl, rfl, (aw_in 1321 (by decide +kernel) rfl), (Or.inl rfl)⟩
set_option maxRecDepth 40000 in
theorem pL_Mo_77_Mo : aw_pf "ResultFormsModel" 77 10 32 .int false := ⟨"ResultFormsModel", "ResultFormsModel", T_Mo, 37, ty_Mo, rfl, by decide, in_Mo, ok_Mo, nm_Mo, rfl, rfl, (aw_in 1317 (by decide +kernel) rfl), (Or.inl rfl)⟩
set_option maxRecDepth 40000 in
theorem sL_Mo_81 : aw_cs "ResultFormsModel" 81 M_Mo_in 3 := ⟨c_Mo_in, by decide, by decide, by decide +kernel, (aw_in 1403 (by decide +kernel) rfl), (aw_in 103 (by decide +kernel) rfl), Or.inl (aw_in 1402 (by decide +kernel) rfl)⟩
set_option maxRecDepth 40000 in
theorem fL_Mo_85_Mo : aw_fd "ResultFormsModel" 85 10 0 .int false := ⟨"ResultFormsModel", "ResultFormsModel", T_Mo, 37, ty_Mo, rfl, by decide, in_Mo, ok_Mo, nm_Mo, rfl, rfl, (Or.inl (aw_in 1285 (by decide +kernel) rfl)), (Or.inl rfl)⟩
set_option maxRecDepth 40000 in
theorem fL_Mo_7_Mo : aw_fd "ResultFormsModel" 7 10 1 (.array .int) true := ⟨"ResultFormsModel", "ResultFormsModel", T_Mo, 37, ty_Mo, rfl, by decide, in_Mo, ok_Mo, nm_Mo, rfl, rfl, (Or.inl (aw_in 1286 (by decide +kernel) rfl)), (Or.inl rfl)⟩
set_option maxRecDepth 40000 in
theorem lL_Mo_88 : Cond.constantLong "ResultFormsModel" 88 255 ∈ aw_tbl := (aw_in 1405 (by decide +kernel) rfl)
set_option maxRecDepth 40000 in
theorem pL_Mo_85_Mo : aw_pf "ResultFormsModel" 85 10 0 .int false := ⟨"ResultFormsModel", "ResultFormsModel", T_Mo, 37, ty_Mo, rfl, by decide, in_Mo, ok_Mo, nm_Mo, rfl, rfl, (aw_in 1285 (by decide +kernel) rfl), (Or.inl rfl)⟩
set_option maxRecDepth 40000 in
theorem fL_Mo_90_Mo : aw_fd "ResultFormsModel" 90 10 2 .int false := ⟨"ResultFormsModel", "ResultFormsModel", T_Mo, 37, ty_Mo, rfl, by decide, in_Mo, ok_Mo, nm_Mo, rfl, rfl, (Or.inl (aw_in 1287 (by decide +kernel) rfl)), (Or.inl rfl)⟩
set_option maxRecDepth 40000 in
theorem fL_Mo_13_Mo : aw_fd "ResultFormsModel" 13 10 3 (.array .int) true := ⟨"ResultFormsModel", "ResultFormsModel", T_Mo, 37, ty_Mo, rfl, by decide, in_Mo, ok_Mo, nm_Mo, rfl, rfl, (Or.inl (aw_in 1288 (by decide +kernel) rfl)), (Or.inl rfl)⟩
set_option maxRecDepth 40000 in
theorem pL_Mo_93_Mo : aw_pf "ResultFormsModel" 93 10 34 .int false := ⟨"ResultFormsModel", "ResultFormsModel", T_Mo, 37, ty_Mo, rfl, by decide, in_Mo, ok_Mo, nm_Mo, rfl, rfl, (aw_in 1319 (by decide +kernel) rfl), (Or.inl rfl)⟩
set_option maxRecDepth 40000 in
theorem fL_Mo_93_Mo : aw_fd "ResultFormsModel" 93 10 34 .int false := ⟨"ResultFormsModel", "ResultFormsModel", T_Mo, 37, ty_Mo, rfl, by decide, in_Mo, ok_Mo, nm_Mo, rfl, rfl, (Or.inl (aw_in 1319 (by decide +kernel) rfl)), (Or.inl rfl)⟩
set_option maxRecDepth 40000 in
theorem fL_Mo_71_Mo : aw_fd "ResultFormsModel" 71 10 35 (.array .int) true := ⟨"ResultFormsModel", "ResultFormsModel", T_Mo, 37, ty_Mo, rfl, by decide, in_Mo, ok_Mo, nm_Mo, rfl, rfl, (Or.inl (aw_in 1320 (by decide +kernel) rfl)), (Or.inl rfl)⟩
set_option maxRecDepth 40000 in
theorem sL_Mo_116 : aw_cs "ResultFormsModel" 116 M_Mo_isExtra 2 := ⟨c_Mo_isExtra, by decide, by decide, by decide +kernel, (aw_in 1415 (by decide +kernel) rfl), (aw_in 103 (by decide +kernel) rfl), Or.inl (aw_in 1414 (by decide +kernel) rfl)⟩
set_option maxRecDepth 40000 in
theorem vL_Mo_120_Mo : aw_cv "ResultFormsModel" 120 "ResultFormsModel" M_Mo_isOfKind 1 := ⟨c_Mo_isOfKind, by decide, by decide, by decide +kernel, (aw_in 1419 (by decide +kernel) rfl), (aw_in 103 (by decide +kernel) rfl), Or.inl ⟨(aw_in 1417 (by decide +kernel) rfl), (aw_in 34 (by decide +kernel) rfl)⟩⟩
set_option maxRecDepth 40000 in
theorem vL_Mo_112_Mo : aw_cv "ResultFormsModel" 112 "ResultFormsModel" M_Mo_find 2 := ⟨c_Mo_find, by decide, by decide, by decide +kernel, (aw_in 1435 (by decide +kernel) rfl), (aw_in 103 (by decide +kernel) rfl), Or.inl ⟨(aw_in 1433 (by decide +kernel) rfl), (aw_in 35 (by decide +kernel) rfl)⟩⟩
set_option maxRecDepth 40000 in
theorem vL_Mo_123_Mo : aw_cv "ResultFormsModel" 123 "ResultFormsModel" M_Mo_note 2 := ⟨c_Mo_note, by decide, by decide, by decide +kernel, (aw_in 1439 (by decide +kernel) rfl), (aw_in 103 (by decide +kernel) rfl), Or.inl ⟨(aw_in 1437 (by decide +kernel) rfl), (aw_in 36 (by decide +kernel) rfl)⟩⟩
set_option maxRecDepth 40000 in
theorem sL_Mo_96 : aw_cs "ResultFormsModel" 96 M_Mo_isNode 1 := ⟨c_Mo_isNode, by decide, by decide, by decide +kernel, (aw_in 1422 (by decide +kernel) rfl), (aw_in 103 (by decide +kernel) rfl), Or.inl (aw_in 1421 (by decide +kernel) rfl)⟩
set_option maxRecDepth 40000 in
theorem sL_Mo_100 : aw_cs "ResultFormsModel" 100 M_Mo_isLetter 1 := ⟨c_Mo_isLetter, by decide, by decide, by decide +kernel, (aw_in 1425 (by decide +kernel) rfl), (aw_in 103 (by decide +kernel) rfl), Or.inl (aw_in 1424 (by decide +kernel) rfl)⟩
set_option maxRecDepth 40000 in
theorem sL_Mo_103 : aw_cs "ResultFormsModel" 103 M_Mo_isDigit 1 := ⟨c_Mo_isDigit, by decide, by decide, by decide +kernel, (aw_in 1428 (by decide +kernel) rfl), (aw_in 103 (by decide +kernel) rfl), Or.inl (aw_in 1427 (by decide +kernel) rfl)⟩
set_option maxRecDepth 40000 in
theorem sL_Mo_106 : aw_cs "ResultFormsModel" 106 M_Mo_isText 1 := ⟨c_Mo_isText, by decide, by decide, by decide +kernel, (aw_in 1431 (by decide +kernel) rfl), (aw_in 103 (by decide +kernel) rfl), Or.inl (aw_in 1430 (by decide +kernel) rfl)⟩
set_option maxRecDepth 40000 in
theorem fL_Mo_109_Mo : aw_fd "ResultFormsModel" 109 10 6 .int false := ⟨"ResultFormsModel", "ResultFormsModel", T_Mo, 37, ty_Mo, rfl, by decide, in_Mo, ok_Mo, nm_Mo, rfl, rfl, (Or.inl (aw_in 1291 (by decide +kernel) rfl)), (Or.inl rfl)⟩
set_option maxRecDepth 40000 in
theorem fL_Mo_19_Mo : aw_fd "ResultFormsModel" 19 10 7 (.array .int) true := ⟨"ResultFormsModel", "ResultFormsModel", T_Mo, 37, ty_Mo, rfl, by decide, in_Mo, ok_Mo, nm_Mo, rfl, rfl, (Or.inl (aw_in 1292 (by decide +kernel) rfl)), (Or.inl rfl)⟩
set_option maxRecDepth 40000 in
theorem fL_Mo_22_Mo : aw_fd "ResultFormsModel" 22 10 8 (.array .int) true := ⟨"ResultFormsModel", "ResultFormsModel", T_Mo, 37, ty_Mo, rfl, by decide, in_Mo, ok_Mo, nm_Mo, rfl, rfl, (Or.inl (aw_in 1293 (by decide +kernel) rfl)), (Or.inl rfl)⟩
set_option maxRecDepth 40000 in
theorem fL_Mo_25_Mo : aw_fd "ResultFormsModel" 25 10 9 (.array .int) true := ⟨"ResultFormsModel", "ResultFormsModel", T_Mo, 37, ty_Mo, rfl, by decide, in_Mo, ok_Mo, nm_Mo, rfl, rfl, (Or.inl (aw_in 1294 (by decide +kernel) rfl)), (Or.inl rfl)⟩
set_option maxRecDepth 40000 in
theorem fL_Mo_28_Mo : aw_fd "ResultFormsModel" 28 10 10 (.array .int) true := ⟨"ResultFormsModel", "ResultFormsModel", T_Mo, 37, ty_Mo, rfl, by decide, in_Mo, ok_Mo, nm_Mo, rfl, rfl, (Or.inl (aw_in 1295 (by decide +kernel) rfl)), (Or.inl rfl)⟩
set_option maxRecDepth 40000 in
theorem pL_Mo_109_Mo : aw_pf "ResultFormsModel" 109 10 6 .int false := ⟨"ResultFormsModel", "ResultFormsModel", T_Mo, 37, ty_Mo, rfl, by decide, in_Mo, ok_Mo, nm_Mo, rfl, rfl, (aw_in 1291 (by decide +kernel) rfl), (Or.inl rfl)⟩
set_option maxRecDepth 40000 in
theorem fL_Mo_126_Mo : aw_fd "ResultFormsModel" 126 10 11 .int false := ⟨"ResultFormsModel", "ResultFormsModel", T_Mo, 37, ty_Mo, rfl, by decide, in_Mo, ok_Mo, nm_Mo, rfl, rfl, (Or.inl (aw_in 1296 (by decide +kernel) rfl)), (Or.inl rfl)⟩
set_option maxRecDepth 40000 in
theorem fL_Mo_31_Mo : aw_fd "ResultFormsModel" 31 10 12 (.array .int) true := ⟨"ResultFormsModel", "ResultFormsModel", T_Mo, 37, ty_Mo, rfl, by decide, in_Mo, ok_Mo, nm_Mo, rfl, rfl, (Or.inl (aw_in 1297 (by decide +kernel) rfl)), (Or.inl rfl)⟩
set_option maxRecDepth 40000 in
theorem fL_Mo_34_Mo : aw_fd "ResultFormsModel" 34 10 13 (.array .int) true := ⟨"ResultFormsModel", "ResultFormsModel", T_Mo, 37, ty_Mo, rfl, by decide, in_Mo, ok_Mo, nm_Mo, rfl, rfl, (Or.inl (aw_in 1298 (by decide +kernel) rfl)), (Or.inl rfl)⟩
set_option maxRecDepth 40000 in
theorem fL_Mo_129_Mo : aw_fd "ResultFormsModel" 129 10 14 .int false := ⟨"ResultFormsModel", "ResultFormsModel", T_Mo, 37, ty_Mo, rfl, by decide, in_Mo, ok_Mo, nm_Mo, rfl, rfl, (Or.inl (aw_in 1299 (by decide +kernel) rfl)), (Or.inl rfl)⟩
set_option maxRecDepth 40000 in
theorem pL_Mo_126_Mo : aw_pf "ResultFormsModel" 126 10 11 .int false := ⟨"ResultFormsModel", "ResultFormsModel", T_Mo, 37, ty_Mo, rfl, by decide, in_Mo, ok_Mo, nm_Mo, rfl, rfl, (aw_in 1296 (by decide +kernel) rfl), (Or.inl rfl)⟩
set_option maxRecDepth 40000 in
theorem fL_Mo_37_Mo : aw_fd "ResultFormsModel" 37 10 15 (.array .int) true := ⟨"ResultFormsModel", "ResultFormsModel", T_Mo, 37, ty_Mo, rfl, by decide, in_Mo, ok_Mo, nm_Mo, rfl, rfl, (Or.inl (aw_in 1300 (by decide +kernel) rfl)), (Or.inl rfl)⟩
set_option maxRecDepth 40000 in
theorem pL_Mo_129_Mo : aw_pf "ResultFormsModel" 129 10 14 .int false := ⟨"ResultFormsModel", "ResultFormsModel", T_Mo, 37, ty_Mo, rfl, by decide, in_Mo, ok_Mo, nm_Mo, rfl, rfl, (aw_in 1299 (by decide +kernel) rfl), (Or.inl rfl)⟩
set_option maxRecDepth 40000 in
theorem pL_Mo_132_Mo : aw_pf "ResultFormsModel" 132 10 4 .int false := ⟨"ResultFormsModel", "ResultFormsModel", T_Mo, 37, ty_Mo, rfl, by decide, in_Mo, ok_Mo, nm_Mo, rfl, rfl, (aw_in 1289 (by decide +kernel) rfl), (Or.inl rfl)⟩
set_option maxRecDepth 40000 in
theorem vL_Mo_292_Mo : aw_cv "ResultFormsModel" 292 "ResultFormsModel" M_Mo_writeBraces 0 := ⟨c_Mo_writeBraces, by decide, by decide, by decide +kernel, (aw_in 1471 (by decide +kernel) rfl), (aw_in 103 (by decide +kernel) rfl), Or.inl ⟨(aw_in 1469 (by decide +kernel) rfl), (aw_in 37 (by decide +kernel) rfl)⟩⟩
set_option maxRecDepth 40000 in
theorem vL_Mo_295_Mo : aw_cv "ResultFormsModel" 295 "ResultFormsModel" M_Mo_writeTags 0 := ⟨c_Mo_writeTags, by decide, by decide, by decide +kernel, (aw_in 1530 (by decide +kernel) rfl), (aw_in 103 (by decide +kernel) rfl), Or.inl ⟨(aw_in 1528 (by decide +kernel) rfl), (aw_in 44 (by decide +kernel) rfl)⟩⟩
set_option maxRecDepth 40000 in
theorem vL_Mo_298_Mo : aw_cv "ResultFormsModel" 298 "ResultFormsModel" M_Mo_writeLines 1 := ⟨c_Mo_writeLines, by decide, by decide, by decide +kernel, (aw_in 1566 (by decide +kernel) rfl), (aw_in 103 (by decide +kernel) rfl), Or.inl ⟨(aw_in 1564 (by decide +kernel) rfl), (aw_in 46 (by decide +kernel) rfl)⟩⟩
set_option maxRecDepth 40000 in
theorem vL_Mo_302_Mo : aw_cv "ResultFormsModel" 302 "ResultFormsModel" M_Mo_hand 0 := ⟨c_Mo_hand, by decide, by decide, by decide +kernel, (aw_in 1585 (by decide +kernel) rfl), (aw_in 103 (by decide +kernel) rfl), Or.inl ⟨(aw_in 1583 (by decide +kernel) rfl), (aw_in 50 (by decide +kernel) rfl)⟩⟩
set_option maxRecDepth 40000 in
theorem lL_Mo_159 : Cond.constantLong "ResultFormsModel" 159 8872769000508236346 ∈ aw_tbl := (aw_in 1473 (by decide +kernel) rfl)
set_option maxRecDepth 40000 in
theorem vL_Mo_141_Mo : aw_cv "ResultFormsModel" 141 "ResultFormsModel" M_Mo_emit 2 := ⟨c_Mo_emit, by decide, by decide, by decide +kernel, (aw_in 1476 (by decide +kernel) rfl), (aw_in 103 (by decide +kernel) rfl), Or.inl ⟨(aw_in 1474 (by decide +kernel) rfl), (aw_in 38 (by decide +kernel) rfl)⟩⟩
set_option maxRecDepth 40000 in
theorem lL_Mo_161 : Cond.constantLong "ResultFormsModel" 161 8872784376777351738 ∈ aw_tbl := (aw_in 1482 (by decide +kernel) rfl)
set_option maxRecDepth 40000 in
theorem lL_Mo_163 : Cond.constantLong "ResultFormsModel" 163 91 ∈ aw_tbl := (aw_in 1483 (by decide +kernel) rfl)
set_option maxRecDepth 40000 in
theorem lL_Mo_165 : Cond.constantLong "ResultFormsModel" 165 11298 ∈ aw_tbl := (aw_in 1484 (by decide +kernel) rfl)
set_option maxRecDepth 40000 in
theorem lL_Mo_167 : Cond.constantLong "ResultFormsModel" 167 34 ∈ aw_tbl := (aw_in 1485 (by decide +kernel) rfl)
set_option maxRecDepth 40000 in
theorem vL_Mo_169_Mo : aw_cv "ResultFormsModel" 169 "ResultFormsModel" M_Mo_emitName 1 := ⟨c_Mo_emitName, by decide, by decide, by decide +kernel, (aw_in 1488 (by decide +kernel) rfl), (aw_in 103 (by decide +kernel) rfl), Or.inl ⟨(aw_in 1486 (by decide +kernel) rfl), (aw_in 40 (by decide +kernel) rfl)⟩⟩
set_option maxRecDepth 40000 in
theorem vL_Mo_135_Mo : aw_cv "ResultFormsModel" 135 "ResultFormsModel" M_Mo_put1 1 := ⟨c_Mo_put1, by decide, by decide, by decide +kernel, (aw_in 1480 (by decide +kernel) rfl), (aw_in 103 (by decide +kernel) rfl), Or.inl ⟨(aw_in 1478 (by decide +kernel) rfl), (aw_in 39 (by decide +kernel) rfl)⟩⟩
set_option maxRecDepth 40000 in
theorem lL_Mo_172 : Cond.constantLong "ResultFormsModel" 172 6736589144075891573 ∈ aw_tbl := (aw_in 1490 (by decide +kernel) rfl)
set_option maxRecDepth 40000 in
theorem lL_Mo_174 : Cond.constantLong "ResultFormsModel" 174 7814997844241883746 ∈ aw_tbl := (aw_in 1491 (by decide +kernel) rfl)
set_option maxRecDepth 40000 in
theorem lL_Mo_176 : Cond.constantLong "ResultFormsModel" 176 7597120025407222562 ∈ aw_tbl := (aw_in 1492 (by decide +kernel) rfl)
set_option maxRecDepth 40000 in
theorem lL_Mo_178 : Cond.constantLong "ResultFormsModel" 178 14939 ∈ aw_tbl := (aw_in 1493 (by decide +kernel) rfl)
set_option maxRecDepth 40000 in
theorem lL_Mo_180 : Cond.constantLong "ResultFormsModel" 180 11387 ∈ aw_tbl := (aw_in 1494 (by decide +kernel) rfl)
set_option maxRecDepth 40000 in
theorem lL_Mo_182 : Cond.constantLong "ResultFormsModel" 182 123 ∈ aw_tbl := (aw_in 1495 (by decide +kernel) rfl)
set_option maxRecDepth 40000 in
theorem lL_Mo_184 : Cond.constantLong "ResultFormsModel" 184 44 ∈ aw_tbl := (aw_in 1496 (by decide +kernel) rfl)
set_option maxRecDepth 40000 in
theorem vL_Mo_186_Mo : aw_cv "ResultFormsModel" 186 "ResultFormsModel" M_Mo_bindBraces 1 := ⟨c_Mo_bindBraces, by decide, by decide, by decide +kernel, (aw_in 1499 (by decide +kernel) rfl), (aw_in 103 (by decide +kernel) rfl), Or.inl ⟨(aw_in 1497 (by decide +kernel) rfl), (aw_in 41 (by decide +kernel) rfl)⟩⟩
set_option maxRecDepth 40000 in
theorem lL_Mo_189 : Cond.constantLong "ResultFormsModel" 189 6126973 ∈ aw_tbl := (aw_in 1527 (by decide +kernel) rfl)
set_option maxRecDepth 40000 in
theorem fL_Mo_132_Mo : aw_fd "ResultFormsModel" 132 10 4 .int false := ⟨"ResultFormsModel", "ResultFormsModel", T_Mo, 37, ty_Mo, rfl, by decide, in_Mo, ok_Mo, nm_Mo, rfl, rfl, (Or.inl (aw_in 1289 (by decide +kernel) rfl)), (Or.inl rfl)⟩
set_option maxRecDepth 40000 in
theorem fL_Mo_16_Mo : aw_fd "ResultFormsModel" 16 10 5 (.array .int) true := ⟨"ResultFormsModel", "ResultFormsModel", T_Mo, 37, ty_Mo, rfl, by decide, in_Mo, ok_Mo, nm_Mo, rfl, rfl, (Or.inl (aw_in 1290 (by decide +kernel) rfl)), (Or.inl rfl)⟩
set_option maxRecDepth 40000 in
theorem lL_Mo_191 : Cond.constantLong "ResultFormsModel" 191 2466419133851988069 ∈ aw_tbl := (aw_in 1501 (by decide +kernel) rfl)
set_option maxRecDepth 40000 in
theorem lL_Mo_193 : Cond.constantLong "ResultFormsModel" 193 2243106 ∈ aw_tbl := (aw_in 1502 (by decide +kernel) rfl)
set_option maxRecDepth 40000 in
theorem lL_Mo_195 : Cond.constantLong "ResultFormsModel" 195 7697001 ∈ aw_tbl := (aw_in 1503 (by decide +kernel) rfl)
set_option maxRecDepth 40000 in
theorem lL_Mo_197 : Cond.constantLong "ResultFormsModel" 197 422759588965 ∈ aw_tbl := (aw_in 1504 (by decide +kernel) rfl)
set_option maxRecDepth 40000 in
theorem lL_Mo_199 : Cond.constantLong "ResultFormsModel" 199 30515246123868524 ∈ aw_tbl := (aw_in 1505 (by decide +kernel) rfl)
set_option maxRecDepth 40000 in
theorem lL_Mo_201 : Cond.constantLong "ResultFormsModel" 201 2462380988100801893 ∈ aw_tbl := (aw_in 1506 (by decide +kernel) rfl)
set_option maxRecDepth 40000 in
theorem vL_Mo_203_Mo : aw_cv "ResultFormsModel" 203 "ResultFormsModel" M_Mo_emitText 2 := ⟨c_Mo_emitText, by decide, by decide, by decide +kernel, (aw_in 1509 (by decide +kernel) rfl), (aw_in 103 (by decide +kernel) rfl), Or.inl ⟨(aw_in 1507 (by decide +kernel) rfl), (aw_in 42 (by decide +kernel) rfl)⟩⟩
set_option maxRecDepth 40000 in
theorem lL_Mo_207 : Cond.constantLong "ResultFormsModel" 207 3180236698239528033 ∈ aw_tbl := (aw_in 1515 (by decide +kernel) rfl)
set_option maxRecDepth 40000 in
theorem lL_Mo_209 : Cond.constantLong "ResultFormsModel" 209 474176698914 ∈ aw_tbl := (aw_in 1516 (by decide +kernel) rfl)
set_option maxRecDepth 40000 in
theorem lL_Mo_211 : Cond.constantLong "ResultFormsModel" 211 3180214656604140665 ∈ aw_tbl := (aw_in 1517 (by decide +kernel) rfl)
set_option maxRecDepth 40000 in
theorem lL_Mo_213 : Cond.constantLong "ResultFormsModel" 213 482733079074 ∈ aw_tbl := (aw_in 1518 (by decide +kernel) rfl)
set_option maxRecDepth 40000 in
theorem vL_Mo_215_Mo : aw_cv "ResultFormsModel" 215 "ResultFormsModel" M_Mo_emitExtra 1 := ⟨c_Mo_emitExtra, by decide, by decide, by decide +kernel, (aw_in 1521 (by decide +kernel) rfl), (aw_in 103 (by decide +kernel) rfl), Or.inl ⟨(aw_in 1519 (by decide +kernel) rfl), (aw_in 43 (by decide +kernel) rfl)⟩⟩
set_option maxRecDepth 40000 in
theorem lL_Mo_151 : Cond.constantLong "ResultFormsModel" 151 164843319355 ∈ aw_tbl := (aw_in 1511 (by decide +kernel) rfl)
set_option maxRecDepth 40000 in
theorem lL_Mo_153 : Cond.constantLong "ResultFormsModel" 153 644641851 ∈ aw_tbl := (aw_in 1512 (by decide +kernel) rfl)
set_option maxRecDepth 40000 in
theorem lL_Mo_155 : Cond.constantLong "ResultFormsModel" 155 644314171 ∈ aw_tbl := (aw_in 1513 (by decide +kernel) rfl)
set_option maxRecDepth 40000 in
theorem lL_Mo_157 : Cond.constantLong "ResultFormsModel" 157 163799184187 ∈ aw_tbl := (aw_in 1514 (by decide +kernel) rfl)
set_option maxRecDepth 40000 in
theorem lL_Mo_139 : Cond.constantLong "ResultFormsModel" 139 512853240933 ∈ aw_tbl := (aw_in 1523 (by decide +kernel) rfl)
set_option maxRecDepth 40000 in
theorem lL_Mo_145 : Cond.constantLong "ResultFormsModel" 145 1919246700 ∈ aw_tbl := (aw_in 1524 (by decide +kernel) rfl)
set_option maxRecDepth 40000 in
theorem lL_Mo_147 : Cond.constantLong "ResultFormsModel" 147 500136506472 ∈ aw_tbl := (aw_in 1525 (by decide +kernel) rfl)
set_option maxRecDepth 40000 in
theorem lL_Mo_149 : Cond.constantLong "ResultFormsModel" 149 1684108389 ∈ aw_tbl := (aw_in 1526 (by decide +kernel) rfl)
set_option maxRecDepth 40000 in
theorem lL_Mo_218 : Cond.constantLong "ResultFormsModel" 218 4355948828431576126 ∈ aw_tbl := (aw_in 1532 (by decide +kernel) rfl)
set_option maxRecDepth 40000 in
theorem lL_Mo_220 : Cond.constantLong "ResultFormsModel" 220 66419075146814 ∈ aw_tbl := (aw_in 1533 (by decide +kernel) rfl)
set_option maxRecDepth 40000 in
theorem lL_Mo_222 : Cond.constantLong "ResultFormsModel" 222 4356776833549689452 ∈ aw_tbl := (aw_in 1534 (by decide +kernel) rfl)
set_option maxRecDepth 40000 in
theorem lL_Mo_224 : Cond.constantLong "ResultFormsModel" 224 7286945561811696930 ∈ aw_tbl := (aw_in 1535 (by decide +kernel) rfl)
set_option maxRecDepth 40000 in
theorem lL_Mo_226 : Cond.constantLong "ResultFormsModel" 226 2240318 ∈ aw_tbl := (aw_in 1536 (by decide +kernel) rfl)
set_option maxRecDepth 40000 in
theorem lL_Mo_228 : Cond.constantLong "ResultFormsModel" 228 4336799750816022076 ∈ aw_tbl := (aw_in 1537 (by decide +kernel) rfl)
set_option maxRecDepth 40000 in
theorem lL_Mo_230 : Cond.constantLong "ResultFormsModel" 230 8243121641139499838 ∈ aw_tbl := (aw_in 1538 (by decide +kernel) rfl)
set_option maxRecDepth 40000 in
theorem lL_Mo_232 : Cond.constantLong "ResultFormsModel" 232 4355655336186377278 ∈ aw_tbl := (aw_in 1539 (by decide +kernel) rfl)
set_option maxRecDepth 40000 in
theorem lL_Mo_234 : Cond.constantLong "ResultFormsModel" 234 4351156112845270631 ∈ aw_tbl := (aw_in 1540 (by decide +kernel) rfl)
set_option maxRecDepth 40000 in
theorem lL_Mo_236 : Cond.constantLong "ResultFormsModel" 236 9128563980975394 ∈ aw_tbl := (aw_in 1541 (by decide +kernel) rfl)
set_option maxRecDepth 40000 in
theorem lL_Mo_238 : Cond.constantLong "ResultFormsModel" 238 8766 ∈ aw_tbl := (aw_in 1542 (by decide +kernel) rfl)
set_option maxRecDepth 40000 in
theorem vL_Mo_240_Mo : aw_cv "ResultFormsModel" 240 "ResultFormsModel" M_Mo_bindTags 1 := ⟨c_Mo_bindTags, by decide, by decide, by decide +kernel, (aw_in 1545 (by decide +kernel) rfl), (aw_in 103 (by decide +kernel) rfl), Or.inl ⟨(aw_in 1543 (by decide +kernel) rfl), (aw_in 45 (by decide +kernel) rfl)⟩⟩
set_option maxRecDepth 40000 in
theorem lL_Mo_243 : Cond.constantLong "ResultFormsModel" 243 4336793171144239470 ∈ aw_tbl := (aw_in 1558 (by decide +kernel) rfl)
set_option maxRecDepth 40000 in
theorem lL_Mo_245 : Cond.constantLong "ResultFormsModel" 245 26430 ∈ aw_tbl := (aw_in 1559 (by decide +kernel) rfl)
set_option maxRecDepth 40000 in
theorem lL_Mo_247 : Cond.constantLong "ResultFormsModel" 247 4336810746235415668 ∈ aw_tbl := (aw_in 1560 (by decide +kernel) rfl)
set_option maxRecDepth 40000 in
theorem lL_Mo_249 : Cond.constantLong "ResultFormsModel" 249 62 ∈ aw_tbl := (aw_in 1561 (by decide +kernel) rfl)
set_option maxRecDepth 40000 in
theorem lL_Mo_251 : Cond.constantLong "ResultFormsModel" 251 8304140937415647602 ∈ aw_tbl := (aw_in 1562 (by decide +kernel) rfl)
set_option maxRecDepth 40000 in
theorem lL_Mo_253 : Cond.constantLong "ResultFormsModel" 253 7433278 ∈ aw_tbl := (aw_in 1563 (by decide +kernel) rfl)
set_option maxRecDepth 40000 in
theorem lL_Mo_255 : Cond.constantLong "ResultFormsModel" 255 259668470078 ∈ aw_tbl := (aw_in 1547 (by decide +kernel) rfl)
set_option maxRecDepth 40000 in
theorem lL_Mo_257 : Cond.constantLong "ResultFormsModel" 257 16996725057414462 ∈ aw_tbl := (aw_in 1548 (by decide +kernel) rfl)
set_option maxRecDepth 40000 in
theorem lL_Mo_259 : Cond.constantLong "ResultFormsModel" 259 4353970888399544684 ∈ aw_tbl := (aw_in 1549 (by decide +kernel) rfl)
set_option maxRecDepth 40000 in
theorem lL_Mo_261 : Cond.constantLong "ResultFormsModel" 261 2339740318023049582 ∈ aw_tbl := (aw_in 1550 (by decide +kernel) rfl)
set_option maxRecDepth 40000 in
theorem lL_Mo_263 : Cond.constantLong "ResultFormsModel" 263 6765858 ∈ aw_tbl := (aw_in 1551 (by decide +kernel) rfl)
set_option maxRecDepth 40000 in
theorem lL_Mo_265 : Cond.constantLong "ResultFormsModel" 265 2334097659363883376 ∈ aw_tbl := (aw_in 1552 (by decide +kernel) rfl)
set_option maxRecDepth 40000 in
theorem lL_Mo_267 : Cond.constantLong "ResultFormsModel" 267 6634786 ∈ aw_tbl := (aw_in 1553 (by decide +kernel) rfl)
set_option maxRecDepth 40000 in
theorem lL_Mo_269 : Cond.constantLong "ResultFormsModel" 269 66174531561790 ∈ aw_tbl := (aw_in 1554 (by decide +kernel) rfl)
set_option maxRecDepth 40000 in
theorem lL_Mo_271 : Cond.constantLong "ResultFormsModel" 271 4336793192635852094 ∈ aw_tbl := (aw_in 1555 (by decide +kernel) rfl)
set_option maxRecDepth 40000 in
theorem lL_Mo_273 : Cond.constantLong "ResultFormsModel" 273 4336804166361248353 ∈ aw_tbl := (aw_in 1556 (by decide +kernel) rfl)
set_option maxRecDepth 40000 in
theorem lL_Mo_275 : Cond.constantLong "ResultFormsModel" 275 27710 ∈ aw_tbl := (aw_in 1557 (by decide +kernel) rfl)
set_option maxRecDepth 40000 in
theorem lL_Mo_284 : Cond.constantLong "ResultFormsModel" 284 63 ∈ aw_tbl := (aw_in 1568 (by decide +kernel) rfl)
set_option maxRecDepth 40000 in
theorem vL_Mo_286_Mo : aw_cv "ResultFormsModel" 286 "ResultFormsModel" M_Mo_bindComma 1 := ⟨c_Mo_bindComma, by decide, by decide, by decide +kernel, (aw_in 1571 (by decide +kernel) rfl), (aw_in 103 (by decide +kernel) rfl), Or.inl ⟨(aw_in 1569 (by decide +kernel) rfl), (aw_in 47 (by decide +kernel) rfl)⟩⟩
set_option maxRecDepth 40000 in
theorem vL_Mo_289_Mo : aw_cv "ResultFormsModel" 289 "ResultFormsModel" M_Mo_bindTab 1 := ⟨c_Mo_bindTab, by decide, by decide, by decide +kernel, (aw_in 1580 (by decide +kernel) rfl), (aw_in 103 (by decide +kernel) rfl), Or.inl ⟨(aw_in 1578 (by decide +kernel) rfl), (aw_in 49 (by decide +kernel) rfl)⟩⟩
set_option maxRecDepth 40000 in
theorem lL_Mo_277 : Cond.constantLong "ResultFormsModel" 277 24378 ∈ aw_tbl := (aw_in 1573 (by decide +kernel) rfl)
set_option maxRecDepth 40000 in
theorem vL_Mo_279_Mo : aw_cv "ResultFormsModel" 279 "ResultFormsModel" M_Mo_isQuoted 1 := ⟨c_Mo_isQuoted, by decide, by decide, by decide +kernel, (aw_in 1576 (by decide +kernel) rfl), (aw_in 103 (by decide +kernel) rfl), Or.inl ⟨(aw_in 1574 (by decide +kernel) rfl), (aw_in 48 (by decide +kernel) rfl)⟩⟩
set_option maxRecDepth 40000 in
theorem lL_Mo_282 : Cond.constantLong "ResultFormsModel" 282 24158 ∈ aw_tbl := (aw_in 1582 (by decide +kernel) rfl)
set_option maxRecDepth 40000 in
theorem pL_Mo_90_Mo : aw_pf "ResultFormsModel" 90 10 2 .int false := ⟨"ResultFormsModel", "ResultFormsModel", T_Mo, 37, ty_Mo, rfl, by decide, in_Mo, ok_Mo, nm_Mo, rfl, rfl, (aw_in 1287 (by decide +kernel) rfl), (Or.inl rfl)⟩
set_option maxRecDepth 40000 in
theorem lL_Mo_306 : Cond.constantLong "ResultFormsModel" 306 8898316964945948524 ∈ aw_tbl := (aw_in 1591 (by decide +kernel) rfl)
set_option maxRecDepth 40000 in
theorem lL_Mo_308 : Cond.constantLong "ResultFormsModel" 308 435426304570 ∈ aw_tbl := (aw_in 1592 (by decide +kernel) rfl)
set_option maxRecDepth 40000 in
theorem lL_Mo_310 : Cond.constantLong "ResultFormsModel" 310 4352840508821617711 ∈ aw_tbl := (aw_in 1593 (by decide +kernel) rfl)
set_option maxRecDepth 40000 in
theorem lL_Mo_312 : Cond.constantLong "ResultFormsModel" 312 7522525835761050223 ∈ aw_tbl := (aw_in 1594 (by decide +kernel) rfl)
set_option maxRecDepth 40000 in
theorem lL_Mo_314 : Cond.constantLong "ResultFormsModel" 314 122511348035134 ∈ aw_tbl := (aw_in 1595 (by decide +kernel) rfl)
set_option maxRecDepth 40000 in
theorem lL_Mo_316 : Cond.constantLong "ResultFormsModel" 316 1953658213 ∈ aw_tbl := (aw_in 1596 (by decide +kernel) rfl)
set_option maxRecDepth 40000 in
theorem lL_Mo_318 : Cond.constantLong "ResultFormsModel" 318 439721161573 ∈ aw_tbl := (aw_in 1597 (by decide +kernel) rfl)
set_option maxRecDepth 40000 in
theorem lL_Mo_320 : Cond.constantLong "ResultFormsModel" 320 4336793196931343713 ∈ aw_tbl := (aw_in 1598 (by decide +kernel) rfl)
set_option maxRecDepth 40000 in
theorem lL_Mo_322 : Cond.constantLong "ResultFormsModel" 322 7943852967226007922 ∈ aw_tbl := (aw_in 1599 (by decide +kernel) rfl)
set_option maxRecDepth 40000 in
theorem vL_Mo_470_Mo : aw_cv "ResultFormsModel" 470 "ResultFormsModel" M_Mo_begin 0 := ⟨c_Mo_begin, by decide, by decide, by decide +kernel, (aw_in 1610 (by decide +kernel) rfl), (aw_in 103 (by decide +kernel) rfl), Or.inl ⟨(aw_in 1608 (by decide +kernel) rfl), (aw_in 51 (by decide +kernel) rfl)⟩⟩
set_option maxRecDepth 40000 in
theorem vL_Mo_473_Mo : aw_cv "ResultFormsModel" 473 "ResultFormsModel" M_Mo_readBraces 0 := ⟨c_Mo_readBraces, by decide, by decide, by decide +kernel, (aw_in 1614 (by decide +kernel) rfl), (aw_in 103 (by decide +kernel) rfl), Or.inl ⟨(aw_in 1612 (by decide +kernel) rfl), (aw_in 52 (by decide +kernel) rfl)⟩⟩
set_option maxRecDepth 40000 in
theorem vL_Mo_476_Mo : aw_cv "ResultFormsModel" 476 "ResultFormsModel" M_Mo_readTags 0 := ⟨c_Mo_readTags, by decide, by decide, by decide +kernel, (aw_in 1722 (by decide +kernel) rfl), (aw_in 103 (by decide +kernel) rfl), Or.inl ⟨(aw_in 1720 (by decide +kernel) rfl), (aw_in 77 (by decide +kernel) rfl)⟩⟩
set_option maxRecDepth 40000 in
theorem vL_Mo_479_Mo : aw_cv "ResultFormsModel" 479 "ResultFormsModel" M_Mo_readLines 1 := ⟨c_Mo_readLines, by decide, by decide, by decide +kernel, (aw_in 1747 (by decide +kernel) rfl), (aw_in 103 (by decide +kernel) rfl), Or.inl ⟨(aw_in 1745 (by decide +kernel) rfl), (aw_in 82 (by decide +kernel) rfl)⟩⟩
set_option maxRecDepth 40000 in
theorem vL_Mo_327_Mo : aw_cv "ResultFormsModel" 327 "ResultFormsModel" M_Mo_goes 0 := ⟨c_Mo_goes, by decide, by decide, by decide +kernel, (aw_in 1626 (by decide +kernel) rfl), (aw_in 103 (by decide +kernel) rfl), Or.inl ⟨(aw_in 1624 (by decide +kernel) rfl), (aw_in 55 (by decide +kernel) rfl)⟩⟩
set_option maxRecDepth 40000 in
theorem vL_Mo_482_Mo : aw_cv "ResultFormsModel" 482 "ResultFormsModel" M_Mo_faulty 0 := ⟨c_Mo_faulty, by decide, by decide, by decide +kernel, (aw_in 1773 (by decide +kernel) rfl), (aw_in 103 (by decide +kernel) rfl), Or.inl ⟨(aw_in 1771 (by decide +kernel) rfl), (aw_in 88 (by decide +kernel) rfl)⟩⟩
set_option maxRecDepth 40000 in
theorem fL_Mo_375_Mo : aw_fd "ResultFormsModel" 375 10 26 .int false := ⟨"ResultFormsModel", "ResultFormsModel", T_Mo, 37, ty_Mo, rfl, by decide, in_Mo, ok_Mo, nm_Mo, rfl, rfl, (Or.inl (aw_in 1311 (by decide +kernel) rfl)), (Or.inl rfl)⟩
set_option maxRecDepth 40000 in
theorem fL_Mo_74_Mo : aw_fd "ResultFormsModel" 74 10 36 (.array .int) true := ⟨"ResultFormsModel", "ResultFormsModel", T_Mo, 37, ty_Mo, rfl, by decide, in_Mo, ok_Mo, nm_Mo, rfl, rfl, (Or.inl (aw_in 1321 (by decide +kernel) rfl)), (Or.inl rfl)⟩
set_option maxRecDepth 40000 in
theorem fL_Mo_349_Mo : aw_fd "ResultFormsModel" 349 10 23 .int false := ⟨"ResultFormsModel", "ResultFormsModel", T_Mo, 37, ty_Mo, rfl, by decide, in_Mo, ok_Mo, nm_Mo, rfl, rfl, (Or.inl (aw_in 1308 (by decide +kernel) rfl)), (Or.inl rfl)⟩
set_option maxRecDepth 40000 in
theorem fL_Mo_59_Mo : aw_fd "ResultFormsModel" 59 10 27 (.array .int) true := ⟨"ResultFormsModel", "ResultFormsModel", T_Mo, 37, ty_Mo, rfl, by decide, in_Mo, ok_Mo, nm_Mo, rfl, rfl, (Or.inl (aw_in 1312 (by decide +kernel) rfl)), (Or.inl rfl)⟩
set_option maxRecDepth 40000 in
theorem fL_Mo_65_Mo : aw_fd "ResultFormsModel" 65 10 29 (.array .int) true := ⟨"ResultFormsModel", "ResultFormsModel", T_Mo, 37, ty_Mo, rfl, by decide, in_Mo, ok_Mo, nm_Mo, rfl, rfl, (Or.inl (aw_in 1314 (by decide +kernel) rfl)), (Or.inl rfl)⟩
set_option maxRecDepth 40000 in
theorem fL_Mo_68_Mo : aw_fd "ResultFormsModel" 68 10 30 (.array .int) true := ⟨"ResultFormsModel", "ResultFormsModel", T_Mo, 37, ty_Mo, rfl, by decide, in_Mo, ok_Mo, nm_Mo, rfl, rfl, (Or.inl (aw_in 1315 (by decide +kernel) rfl)), (Or.inl rfl)⟩
set_option maxRecDepth 40000 in
theorem fL_Mo_62_Mo : aw_fd "ResultFormsModel" 62 10 28 (.array .int) true := ⟨"ResultFormsModel", "ResultFormsModel", T_Mo, 37, ty_Mo, rfl, by decide, in_Mo, ok_Mo, nm_Mo, rfl, rfl, (Or.inl (aw_in 1313 (by decide +kernel) rfl)), (Or.inl rfl)⟩
set_option maxRecDepth 40000 in
theorem fL_Mo_53_Mo : aw_fd "ResultFormsModel" 53 10 24 (.array .int) true := ⟨"ResultFormsModel", "ResultFormsModel", T_Mo, 37, ty_Mo, rfl, by decide, in_Mo, ok_Mo, nm_Mo, rfl, rfl, (Or.inl (aw_in 1309 (by decide +kernel) rfl)), (Or.inl rfl)⟩
set_option maxRecDepth 40000 in
theorem fL_Mo_56_Mo : aw_fd "ResultFormsModel" 56 10 25 (.array .int) true := ⟨"ResultFormsModel", "ResultFormsModel", T_Mo, 37, ty_Mo, rfl, by decide, in_Mo, ok_Mo, nm_Mo, rfl, rfl, (Or.inl (aw_in 1310 (by decide +kernel) rfl)), (Or.inl rfl)⟩
set_option maxRecDepth 40000 in
theorem pL_Mo_324_Mo : aw_pf "ResultFormsModel" 324 10 31 .int false := ⟨"ResultFormsModel", "ResultFormsModel", T_Mo, 37, ty_Mo, rfl, by decide, in_Mo, ok_Mo, nm_Mo, rfl, rfl, (aw_in 1316 (by decide +kernel) rfl), (Or.inl rfl)⟩
set_option maxRecDepth 40000 in
theorem pL_Mo_349_Mo : aw_pf "ResultFormsModel" 349 10 23 .int false := ⟨"ResultFormsModel", "ResultFormsModel", T_Mo, 37, ty_Mo, rfl, by decide, in_Mo, ok_Mo, nm_Mo, rfl, rfl, (aw_in 1308 (by decide +kernel) rfl), (Or.inl rfl)⟩
set_option maxRecDepth 40000 in
theorem pL_Mo_375_Mo : aw_pf "ResultFormsModel" 375 10 26 .int false := ⟨"ResultFormsModel", "ResultFormsModel", T_Mo, 37, ty_Mo, rfl, by decide, in_Mo, ok_Mo, nm_Mo, rfl, rfl, (aw_in 1311 (by decide +kernel) rfl), (Or.inl rfl)⟩
set_option maxRecDepth 40000 in
theorem vL_Mo_343_Mo : aw_cv "ResultFormsModel" 343 "ResultFormsModel" M_Mo_sign 1 := ⟨c_Mo_sign, by decide, by decide, by decide +kernel, (aw_in 1618 (by decide +kernel) rfl), (aw_in 103 (by decide +kernel) rfl), Or.inl ⟨(aw_in 1616 (by decide +kernel) rfl), (aw_in 53 (by decide +kernel) rfl)⟩⟩
set_option maxRecDepth 40000 in
theorem lL_Mo_378 : Cond.constantLong "ResultFormsModel" 378 1751474532 ∈ aw_tbl := (aw_in 1640 (by decide +kernel) rfl)
set_option maxRecDepth 40000 in
theorem vL_Mo_380_Mo : aw_cv "ResultFormsModel" 380 "ResultFormsModel" M_Mo_quoted 2 := ⟨c_Mo_quoted, by decide, by decide, by decide +kernel, (aw_in 1643 (by decide +kernel) rfl), (aw_in 103 (by decide +kernel) rfl), Or.inl ⟨(aw_in 1641 (by decide +kernel) rfl), (aw_in 59 (by decide +kernel) rfl)⟩⟩
set_option maxRecDepth 40000 in
theorem lL_Mo_383 : Cond.constantLong "ResultFormsModel" 383 1986097779 ∈ aw_tbl := (aw_in 1645 (by decide +kernel) rfl)
set_option maxRecDepth 40000 in
theorem vL_Mo_337_Mo : aw_cv "ResultFormsModel" 337 "ResultFormsModel" M_Mo_blanks 0 := ⟨c_Mo_blanks, by decide, by decide, by decide +kernel, (aw_in 1622 (by decide +kernel) rfl), (aw_in 103 (by decide +kernel) rfl), Or.inl ⟨(aw_in 1620 (by decide +kernel) rfl), (aw_in 54 (by decide +kernel) rfl)⟩⟩
set_option maxRecDepth 40000 in
theorem vL_Mo_331_Mo : aw_cv "ResultFormsModel" 331 "ResultFormsModel" M_Mo_peek 0 := ⟨c_Mo_peek, by decide, by decide, by decide +kernel, (aw_in 1630 (by decide +kernel) rfl), (aw_in 103 (by decide +kernel) rfl), Or.inl ⟨(aw_in 1628 (by decide +kernel) rfl), (aw_in 56 (by decide +kernel) rfl)⟩⟩
set_option maxRecDepth 40000 in
theorem vL_Mo_385_Mo : aw_cv "ResultFormsModel" 385 "ResultFormsModel" M_Mo_headName 0 := ⟨c_Mo_headName, by decide, by decide, by decide +kernel, (aw_in 1648 (by decide +kernel) rfl), (aw_in 103 (by decide +kernel) rfl), Or.inl ⟨(aw_in 1646 (by decide +kernel) rfl), (aw_in 60 (by decide +kernel) rfl)⟩⟩
set_option maxRecDepth 40000 in
theorem vL_Mo_340_Mo : aw_cv "ResultFormsModel" 340 "ResultFormsModel" M_Mo_must 2 := ⟨c_Mo_must, by decide, by decide, by decide +kernel, (aw_in 1634 (by decide +kernel) rfl), (aw_in 103 (by decide +kernel) rfl), Or.inl ⟨(aw_in 1632 (by decide +kernel) rfl), (aw_in 57 (by decide +kernel) rfl)⟩⟩
set_option maxRecDepth 40000 in
theorem vL_Mo_388_Mo : aw_cv "ResultFormsModel" 388 "ResultFormsModel" M_Mo_another 1 := ⟨c_Mo_another, by decide, by decide, by decide +kernel, (aw_in 1660 (by decide +kernel) rfl), (aw_in 103 (by decide +kernel) rfl), Or.inl ⟨(aw_in 1658 (by decide +kernel) rfl), (aw_in 63 (by decide +kernel) rfl)⟩⟩
set_option maxRecDepth 40000 in
theorem lL_Mo_391 : Cond.constantLong "ResultFormsModel" 391 32199693910701171 ∈ aw_tbl := (aw_in 1662 (by decide +kernel) rfl)
set_option maxRecDepth 40000 in
theorem lL_Mo_393 : Cond.constantLong "ResultFormsModel" 393 7091320465816184691 ∈ aw_tbl := (aw_in 1663 (by decide +kernel) rfl)
set_option maxRecDepth 40000 in
theorem fL_Mo_324_Mo : aw_fd "ResultFormsModel" 324 10 31 .int false := ⟨"ResultFormsModel", "ResultFormsModel", T_Mo, 37, ty_Mo, rfl, by decide, in_Mo, ok_Mo, nm_Mo, rfl, rfl, (Or.inl (aw_in 1316 (by decide +kernel) rfl)), (Or.inl rfl)⟩
set_option maxRecDepth 40000 in
theorem vL_Mo_395_Mo : aw_cv "ResultFormsModel" 395 "ResultFormsModel" M_Mo_beginRow 1 := ⟨c_Mo_beginRow, by decide, by decide, by decide +kernel, (aw_in 1666 (by decide +kernel) rfl), (aw_in 103 (by decide +kernel) rfl), Or.inl ⟨(aw_in 1664 (by decide +kernel) rfl), (aw_in 64 (by decide +kernel) rfl)⟩⟩
set_option maxRecDepth 40000 in
theorem vL_Mo_398_Mo : aw_cv "ResultFormsModel" 398 "ResultFormsModel" M_Mo_rowBraces 0 := ⟨c_Mo_rowBraces, by decide, by decide, by decide +kernel, (aw_in 1670 (by decide +kernel) rfl), (aw_in 103 (by decide +kernel) rfl), Or.inl ⟨(aw_in 1668 (by decide +kernel) rfl), (aw_in 65 (by decide +kernel) rfl)⟩⟩
set_option maxRecDepth 40000 in
theorem vL_Mo_401_Mo : aw_cv "ResultFormsModel" 401 "ResultFormsModel" M_Mo_end 0 := ⟨c_Mo_end, by decide, by decide, by decide +kernel, (aw_in 1718 (by decide +kernel) rfl), (aw_in 103 (by decide +kernel) rfl), Or.inl ⟨(aw_in 1716 (by decide +kernel) rfl), (aw_in 76 (by decide +kernel) rfl)⟩⟩
set_option maxRecDepth 40000 in
theorem fL_Mo_77_Mo : aw_fd "ResultFormsModel" 77 10 32 .int false := ⟨"ResultFormsModel", "ResultFormsModel", T_Mo, 37, ty_Mo, rfl, by decide, in_Mo, ok_Mo, nm_Mo, rfl, rfl, (Or.inl (aw_in 1317 (by decide +kernel) rfl)), (Or.inl rfl)⟩
set_option maxRecDepth 40000 in
theorem vL_Mo_334_Mo : aw_cv "ResultFormsModel" 334 "ResultFormsModel" M_Mo_fail 1 := ⟨c_Mo_fail, by decide, by decide, by decide +kernel, (aw_in 1638 (by decide +kernel) rfl), (aw_in 103 (by decide +kernel) rfl), Or.inl ⟨(aw_in 1636 (by decide +kernel) rfl), (aw_in 58 (by decide +kernel) rfl)⟩⟩
set_option maxRecDepth 40000 in
theorem vL_Mo_352_Mo : aw_cv "ResultFormsModel" 352 "ResultFormsModel" M_Mo_letters 0 := ⟨c_Mo_letters, by decide, by decide, by decide +kernel, (aw_in 1652 (by decide +kernel) rfl), (aw_in 103 (by decide +kernel) rfl), Or.inl ⟨(aw_in 1650 (by decide +kernel) rfl), (aw_in 61 (by decide +kernel) rfl)⟩⟩
set_option maxRecDepth 40000 in
theorem vL_Mo_355_Mo : aw_cv "ResultFormsModel" 355 "ResultFormsModel" M_Mo_variableOf 1 := ⟨c_Mo_variableOf, by decide, by decide, by decide +kernel, (aw_in 1656 (by decide +kernel) rfl), (aw_in 103 (by decide +kernel) rfl), Or.inl ⟨(aw_in 1654 (by decide +kernel) rfl), (aw_in 62 (by decide +kernel) rfl)⟩⟩
set_option maxRecDepth 40000 in
theorem fL_Mo_346_Mo : aw_fd "ResultFormsModel" 346 10 33 .int false := ⟨"ResultFormsModel", "ResultFormsModel", T_Mo, 37, ty_Mo, rfl, by decide, in_Mo, ok_Mo, nm_Mo, rfl, rfl, (Or.inl (aw_in 1318 (by decide +kernel) rfl)), (Or.inl rfl)⟩
set_option maxRecDepth 40000 in
theorem pL_Mo_346_Mo : aw_pf "ResultFormsModel" 346 10 33 .int false := ⟨"ResultFormsModel", "ResultFormsModel", T_Mo, 37, ty_Mo, rfl, by decide, in_Mo, ok_Mo, nm_Mo, rfl, rfl, (aw_in 1318 (by decide +kernel) rfl), (Or.inl rfl)⟩
set_option maxRecDepth 40000 in
theorem vL_Mo_404_Mo : aw_cv "ResultFormsModel" 404 "ResultFormsModel" M_Mo_rowName 1 := ⟨c_Mo_rowName, by decide, by decide, by decide +kernel, (aw_in 1674 (by decide +kernel) rfl), (aw_in 103 (by decide +kernel) rfl), Or.inl ⟨(aw_in 1672 (by decide +kernel) rfl), (aw_in 66 (by decide +kernel) rfl)⟩⟩
set_option maxRecDepth 40000 in
theorem lL_Mo_407 : Cond.constantLong "ResultFormsModel" 407 1954115685 ∈ aw_tbl := (aw_in 1676 (by decide +kernel) rfl)
set_option maxRecDepth 40000 in
theorem vL_Mo_359_Mo : aw_cv "ResultFormsModel" 359 "ResultFormsModel" M_Mo_isWord 3 := ⟨c_Mo_isWord, by decide, by decide, by decide +kernel, (aw_in 1679 (by decide +kernel) rfl), (aw_in 103 (by decide +kernel) rfl), Or.inl ⟨(aw_in 1677 (by decide +kernel) rfl), (aw_in 67 (by decide +kernel) rfl)⟩⟩
set_option maxRecDepth 40000 in
theorem lL_Mo_409 : Cond.constantLong "ResultFormsModel" 409 508440638821 ∈ aw_tbl := (aw_in 1681 (by decide +kernel) rfl)
set_option maxRecDepth 40000 in
theorem vL_Mo_411_Mo : aw_cv "ResultFormsModel" 411 "ResultFormsModel" M_Mo_valueBraces 2 := ⟨c_Mo_valueBraces, by decide, by decide, by decide +kernel, (aw_in 1684 (by decide +kernel) rfl), (aw_in 103 (by decide +kernel) rfl), Or.inl ⟨(aw_in 1682 (by decide +kernel) rfl), (aw_in 68 (by decide +kernel) rfl)⟩⟩
set_option maxRecDepth 40000 in
theorem vL_Mo_414_Mo : aw_cv "ResultFormsModel" 414 "ResultFormsModel" M_Mo_escapedText 1 := ⟨c_Mo_escapedText, by decide, by decide, by decide +kernel, (aw_in 1688 (by decide +kernel) rfl), (aw_in 103 (by decide +kernel) rfl), Or.inl ⟨(aw_in 1686 (by decide +kernel) rfl), (aw_in 69 (by decide +kernel) rfl)⟩⟩
set_option maxRecDepth 40000 in
theorem vL_Mo_417_Mo : aw_cv "ResultFormsModel" 417 "ResultFormsModel" M_Mo_check 2 := ⟨c_Mo_check, by decide, by decide, by decide +kernel, (aw_in 1700 (by decide +kernel) rfl), (aw_in 103 (by decide +kernel) rfl), Or.inl ⟨(aw_in 1698 (by decide +kernel) rfl), (aw_in 72 (by decide +kernel) rfl)⟩⟩
set_option maxRecDepth 40000 in
theorem lL_Mo_420 : Cond.constantLong "ResultFormsModel" 420 8677711055195041383 ∈ aw_tbl := (aw_in 1702 (by decide +kernel) rfl)
set_option maxRecDepth 40000 in
theorem lL_Mo_422 : Cond.constantLong "ResultFormsModel" 422 7233190438448492645 ∈ aw_tbl := (aw_in 1703 (by decide +kernel) rfl)
set_option maxRecDepth 40000 in
theorem vL_Mo_424_Mo : aw_cv "ResultFormsModel" 424 "ResultFormsModel" M_Mo_tag 0 := ⟨c_Mo_tag, by decide, by decide, by decide +kernel, (aw_in 1706 (by decide +kernel) rfl), (aw_in 103 (by decide +kernel) rfl), Or.inl ⟨(aw_in 1704 (by decide +kernel) rfl), (aw_in 73 (by decide +kernel) rfl)⟩⟩
set_option maxRecDepth 40000 in
theorem vL_Mo_427_Mo : aw_cv "ResultFormsModel" 427 "ResultFormsModel" M_Mo_typeName 0 := ⟨c_Mo_typeName, by decide, by decide, by decide +kernel, (aw_in 1710 (by decide +kernel) rfl), (aw_in 103 (by decide +kernel) rfl), Or.inl ⟨(aw_in 1708 (by decide +kernel) rfl), (aw_in 74 (by decide +kernel) rfl)⟩⟩
set_option maxRecDepth 40000 in
theorem vL_Mo_430_Mo : aw_cv "ResultFormsModel" 430 "ResultFormsModel" M_Mo_give 3 := ⟨c_Mo_give, by decide, by decide, by decide +kernel, (aw_in 1714 (by decide +kernel) rfl), (aw_in 103 (by decide +kernel) rfl), Or.inl ⟨(aw_in 1712 (by decide +kernel) rfl), (aw_in 75 (by decide +kernel) rfl)⟩⟩
set_option maxRecDepth 40000 in
theorem vL_Mo_363_Mo : aw_cv "ResultFormsModel" 363 "ResultFormsModel" M_Mo_peekNext 0 := ⟨c_Mo_peekNext, by decide, by decide, by decide +kernel, (aw_in 1692 (by decide +kernel) rfl), (aw_in 103 (by decide +kernel) rfl), Or.inl ⟨(aw_in 1690 (by decide +kernel) rfl), (aw_in 70 (by decide +kernel) rfl)⟩⟩
set_option maxRecDepth 40000 in
theorem vL_Mo_366_Mo : aw_cv "ResultFormsModel" 366 "ResultFormsModel" M_Mo_add 2 := ⟨c_Mo_add, by decide, by decide, by decide +kernel, (aw_in 1696 (by decide +kernel) rfl), (aw_in 103 (by decide +kernel) rfl), Or.inl ⟨(aw_in 1694 (by decide +kernel) rfl), (aw_in 71 (by decide +kernel) rfl)⟩⟩
set_option maxRecDepth 40000 in
theorem vL_Mo_434_Mo : aw_cv "ResultFormsModel" 434 "ResultFormsModel" M_Mo_isClosing 0 := ⟨c_Mo_isClosing, by decide, by decide, by decide +kernel, (aw_in 1726 (by decide +kernel) rfl), (aw_in 103 (by decide +kernel) rfl), Or.inl ⟨(aw_in 1724 (by decide +kernel) rfl), (aw_in 78 (by decide +kernel) rfl)⟩⟩
set_option maxRecDepth 40000 in
theorem vL_Mo_437_Mo : aw_cv "ResultFormsModel" 437 "ResultFormsModel" M_Mo_valueTags 1 := ⟨c_Mo_valueTags, by decide, by decide, by decide +kernel, (aw_in 1730 (by decide +kernel) rfl), (aw_in 103 (by decide +kernel) rfl), Or.inl ⟨(aw_in 1728 (by decide +kernel) rfl), (aw_in 79 (by decide +kernel) rfl)⟩⟩
set_option maxRecDepth 40000 in
theorem lL_Mo_440 : Cond.constantLong "ResultFormsModel" 440 60 ∈ aw_tbl := (aw_in 1732 (by decide +kernel) rfl)
set_option maxRecDepth 40000 in
theorem lL_Mo_442 : Cond.constantLong "ResultFormsModel" 442 1970432318 ∈ aw_tbl := (aw_in 1733 (by decide +kernel) rfl)
set_option maxRecDepth 40000 in
theorem lL_Mo_444 : Cond.constantLong "ResultFormsModel" 444 108226454775102 ∈ aw_tbl := (aw_in 1734 (by decide +kernel) rfl)
set_option maxRecDepth 40000 in
theorem lL_Mo_446 : Cond.constantLong "ResultFormsModel" 446 15650 ∈ aw_tbl := (aw_in 1735 (by decide +kernel) rfl)
set_option maxRecDepth 40000 in
theorem vL_Mo_448_Mo : aw_cv "ResultFormsModel" 448 "ResultFormsModel" M_Mo_tagText 0 := ⟨c_Mo_tagText, by decide, by decide, by decide +kernel, (aw_in 1738 (by decide +kernel) rfl), (aw_in 103 (by decide +kernel) rfl), Or.inl ⟨(aw_in 1736 (by decide +kernel) rfl), (aw_in 80 (by decide +kernel) rfl)⟩⟩
set_option maxRecDepth 40000 in
theorem vL_Mo_369_Mo : aw_cv "ResultFormsModel" 369 "ResultFormsModel" M_Mo_isAt 2 := ⟨c_Mo_isAt, by decide, by decide, by decide +kernel, (aw_in 1742 (by decide +kernel) rfl), (aw_in 103 (by decide +kernel) rfl), Or.inl ⟨(aw_in 1740 (by decide +kernel) rfl), (aw_in 81 (by decide +kernel) rfl)⟩⟩
set_option maxRecDepth 40000 in
theorem lL_Mo_373 : Cond.constantLong "ResultFormsModel" 373 42268743398459 ∈ aw_tbl := (aw_in 1744 (by decide +kernel) rfl)
set_option maxRecDepth 40000 in
theorem vL_Mo_455_Mo : aw_cv "ResultFormsModel" 455 "ResultFormsModel" M_Mo_lineEnd 1 := ⟨c_Mo_lineEnd, by decide, by decide, by decide +kernel, (aw_in 1751 (by decide +kernel) rfl), (aw_in 103 (by decide +kernel) rfl), Or.inl ⟨(aw_in 1749 (by decide +kernel) rfl), (aw_in 83 (by decide +kernel) rfl)⟩⟩
set_option maxRecDepth 40000 in
theorem vL_Mo_458_Mo : aw_cv "ResultFormsModel" 458 "ResultFormsModel" M_Mo_commaValue 1 := ⟨c_Mo_commaValue, by decide, by decide, by decide +kernel, (aw_in 1757 (by decide +kernel) rfl), (aw_in 103 (by decide +kernel) rfl), Or.inl ⟨(aw_in 1755 (by decide +kernel) rfl), (aw_in 84 (by decide +kernel) rfl)⟩⟩
set_option maxRecDepth 40000 in
theorem vL_Mo_461_Mo : aw_cv "ResultFormsModel" 461 "ResultFormsModel" M_Mo_tabValue 1 := ⟨c_Mo_tabValue, by decide, by decide, by decide +kernel, (aw_in 1769 (by decide +kernel) rfl), (aw_in 103 (by decide +kernel) rfl), Or.inl ⟨(aw_in 1767 (by decide +kernel) rfl), (aw_in 87 (by decide +kernel) rfl)⟩⟩
set_option maxRecDepth 40000 in
theorem lL_Mo_451 : Cond.constantLong "ResultFormsModel" 451 13 ∈ aw_tbl := (aw_in 1753 (by decide +kernel) rfl)
set_option maxRecDepth 40000 in
theorem lL_Mo_453 : Cond.constantLong "ResultFormsModel" 453 10 ∈ aw_tbl := (aw_in 1754 (by decide +kernel) rfl)
set_option maxRecDepth 40000 in
theorem vL_Mo_464_Mo : aw_cv "ResultFormsModel" 464 "ResultFormsModel" M_Mo_commaText 0 := ⟨c_Mo_commaText, by decide, by decide, by decide +kernel, (aw_in 1761 (by decide +kernel) rfl), (aw_in 103 (by decide +kernel) rfl), Or.inl ⟨(aw_in 1759 (by decide +kernel) rfl), (aw_in 85 (by decide +kernel) rfl)⟩⟩
set_option maxRecDepth 40000 in
theorem vL_Mo_467_Mo : aw_cv "ResultFormsModel" 467 "ResultFormsModel" M_Mo_blankText 0 := ⟨c_Mo_blankText, by decide, by decide, by decide +kernel, (aw_in 1765 (by decide +kernel) rfl), (aw_in 103 (by decide +kernel) rfl), Or.inl ⟨(aw_in 1763 (by decide +kernel) rfl), (aw_in 86 (by decide +kernel) rfl)⟩⟩
set_option maxRecDepth 40000 in
theorem lL_Mo_485 : Cond.constantLong "ResultFormsModel" 485 27707072068280686 ∈ aw_tbl := (aw_in 1779 (by decide +kernel) rfl)
set_option maxRecDepth 40000 in
theorem pL_Mo_487_Mo : aw_pf "ResultFormsModel" 487 10 16 .boolean false := ⟨"ResultFormsModel", "ResultFormsModel", T_Mo, 37, ty_Mo, rfl, by decide, in_Mo, ok_Mo, nm_Mo, rfl, rfl, (aw_in 1301 (by decide +kernel) rfl), (Or.inl rfl)⟩
set_option maxRecDepth 40000 in
theorem pL_Mo_491_Mo : aw_pf "ResultFormsModel" 491 10 17 .int false := ⟨"ResultFormsModel", "ResultFormsModel", T_Mo, 37, ty_Mo, rfl, by decide, in_Mo, ok_Mo, nm_Mo, rfl, rfl, (aw_in 1302 (by decide +kernel) rfl), (Or.inl rfl)⟩
set_option maxRecDepth 40000 in
theorem pL_Mo_494_Mo : aw_pf "ResultFormsModel" 494 10 20 .int false := ⟨"ResultFormsModel", "ResultFormsModel", T_Mo, 37, ty_Mo, rfl, by decide, in_Mo, ok_Mo, nm_Mo, rfl, rfl, (aw_in 1305 (by decide +kernel) rfl), (Or.inl rfl)⟩
set_option maxRecDepth 40000 in
theorem fL_Mo_40_Mo : aw_fd "ResultFormsModel" 40 10 18 (.array .int) true := ⟨"ResultFormsModel", "ResultFormsModel", T_Mo, 37, ty_Mo, rfl, by decide, in_Mo, ok_Mo, nm_Mo, rfl, rfl, (Or.inl (aw_in 1303 (by decide +kernel) rfl)), (Or.inl rfl)⟩
set_option maxRecDepth 40000 in
theorem fL_Mo_43_Mo : aw_fd "ResultFormsModel" 43 10 19 (.array .int) true := ⟨"ResultFormsModel", "ResultFormsModel", T_Mo, 37, ty_Mo, rfl, by decide, in_Mo, ok_Mo, nm_Mo, rfl, rfl, (Or.inl (aw_in 1304 (by decide +kernel) rfl)), (Or.inl rfl)⟩
set_option maxRecDepth 40000 in
theorem fL_Mo_46_Mo : aw_fd "ResultFormsModel" 46 10 21 (.array .int) true := ⟨"ResultFormsModel", "ResultFormsModel", T_Mo, 37, ty_Mo, rfl, by decide, in_Mo, ok_Mo, nm_Mo, rfl, rfl, (Or.inl (aw_in 1306 (by decide +kernel) rfl)), (Or.inl rfl)⟩
set_option maxRecDepth 40000 in
theorem fL_Mo_487_Mo : aw_fd "ResultFormsModel" 487 10 16 .boolean false := ⟨"ResultFormsModel", "ResultFormsModel", T_Mo, 37, ty_Mo, rfl, by decide, in_Mo, ok_Mo, nm_Mo, rfl, rfl, (Or.inl (aw_in 1301 (by decide +kernel) rfl)), (Or.inl rfl)⟩
set_option maxRecDepth 40000 in
theorem vL_Mo_497_Mo : aw_cv "ResultFormsModel" 497 "ResultFormsModel" M_Mo_areNames 0 := ⟨c_Mo_areNames, by decide, by decide, by decide +kernel, (aw_in 1790 (by decide +kernel) rfl), (aw_in 103 (by decide +kernel) rfl), Or.inl ⟨(aw_in 1788 (by decide +kernel) rfl), (aw_in 89 (by decide +kernel) rfl)⟩⟩
set_option maxRecDepth 40000 in
theorem fL_Mo_494_Mo : aw_fd "ResultFormsModel" 494 10 20 .int false := ⟨"ResultFormsModel", "ResultFormsModel", T_Mo, 37, ty_Mo, rfl, by decide, in_Mo, ok_Mo, nm_Mo, rfl, rfl, (Or.inl (aw_in 1305 (by decide +kernel) rfl)), (Or.inl rfl)⟩
set_option maxRecDepth 40000 in
theorem vL_Mo_500_Mo : aw_cv "ResultFormsModel" 500 "ResultFormsModel" M_Mo_isAlike 2 := ⟨c_Mo_isAlike, by decide, by decide, by decide +kernel, (aw_in 1794 (by decide +kernel) rfl), (aw_in 103 (by decide +kernel) rfl), Or.inl ⟨(aw_in 1792 (by decide +kernel) rfl), (aw_in 90 (by decide +kernel) rfl)⟩⟩
set_option maxRecDepth 40000 in
theorem vL_Mo_503_Mo : aw_cv "ResultFormsModel" 503 "ResultFormsModel" M_Mo_lacks 1 := ⟨c_Mo_lacks, by decide, by decide, by decide +kernel, (aw_in 1797 (by decide +kernel) rfl), (aw_in 103 (by decide +kernel) rfl), Or.inl ⟨(aw_in 1796 (by decide +kernel) rfl), (aw_in 1798 (by decide +kernel) rfl)⟩⟩
set_option maxRecDepth 40000 in
theorem fL_Mo_491_Mo : aw_fd "ResultFormsModel" 491 10 17 .int false := ⟨"ResultFormsModel", "ResultFormsModel", T_Mo, 37, ty_Mo, rfl, by decide, in_Mo, ok_Mo, nm_Mo, rfl, rfl, (Or.inl (aw_in 1302 (by decide +kernel) rfl)), (Or.inl rfl)⟩
set_option maxRecDepth 40000 in
theorem fL_Mo_49_Mo : aw_fd "ResultFormsModel" 49 10 22 (.array .boolean) true := ⟨"ResultFormsModel", "ResultFormsModel", T_Mo, 37, ty_Mo, rfl, by decide, in_Mo, ok_Mo, nm_Mo, rfl, rfl, (Or.inl (aw_in 1307 (by decide +kernel) rfl)), (Or.inl rfl)⟩
set_option maxRecDepth 40000 in
theorem nL_Lw_7 : Cond.classLink "ResultFormsLaw" 7 "ResultForms" ∈ aw_tbl := (aw_in 110 (by decide +kernel) rfl)
set_option maxRecDepth 40000 in
theorem nI_RF : Cond.instantiable "ResultForms" 14 ∈ aw_tbl ∧ Cond.initialized "ResultForms" ∈ aw_tbl := ⟨(aw_in 111 (by decide +kernel) rfl), (aw_in 92 (by decide +kernel) rfl)⟩
set_option maxRecDepth 40000 in
theorem iL_Lw_9 : aw_ci "ResultFormsLaw" 9 M_RF_init 0 := ⟨c_RF_init, by decide, by decide, by decide +kernel, (aw_in 113 (by decide +kernel) rfl), (aw_in 92 (by decide +kernel) rfl), (aw_in 112 (by decide +kernel) rfl), rfl, rfl⟩
set_option maxRecDepth 40000 in
theorem nL_Lw_10 : Cond.classLink "ResultFormsLaw" 10 "ResultFormsModel" ∈ aw_tbl := (aw_in 1279 (by decide +kernel) rfl)
set_option maxRecDepth 40000 in
theorem nI_Mo : Cond.instantiable "ResultFormsModel" 37 ∈ aw_tbl ∧ Cond.initialized "ResultFormsModel" ∈ aw_tbl := ⟨(aw_in 1280 (by decide +kernel) rfl), (aw_in 103 (by decide +kernel) rfl)⟩
set_option maxRecDepth 40000 in
theorem iL_Lw_12 : aw_ci "ResultFormsLaw" 12 M_Mo_init 0 := ⟨c_Mo_init, by decide, by decide, by decide +kernel, (aw_in 1282 (by decide +kernel) rfl), (aw_in 103 (by decide +kernel) rfl), (aw_in 1281 (by decide +kernel) rfl), rfl, rfl⟩
set_option maxRecDepth 40000 in
theorem lL_Lw_13 : Cond.constantLong "ResultFormsLaw" 13 4294967295 ∈ aw_tbl := (aw_in 1809 (by decide +kernel) rfl)
set_option maxRecDepth 40000 in
theorem vL_Lw_15_RF : aw_cv "ResultFormsLaw" 15 "ResultForms" M_RF_type 2 := ⟨c_RF_type, by decide, by decide, by decide +kernel, (aw_in 403 (by decide +kernel) rfl), (aw_in 92 (by decide +kernel) rfl), Or.inl ⟨(aw_in 402 (by decide +kernel) rfl), (aw_in 404 (by decide +kernel) rfl)⟩⟩
set_option maxRecDepth 40000 in
theorem vL_Lw_19_Mo : aw_cv "ResultFormsLaw" 19 "ResultFormsModel" M_Mo_type 2 := ⟨c_Mo_type, by decide, by decide, by decide +kernel, (aw_in 1399 (by decide +kernel) rfl), (aw_in 103 (by decide +kernel) rfl), Or.inl ⟨(aw_in 1398 (by decide +kernel) rfl), (aw_in 1400 (by decide +kernel) rfl)⟩⟩
set_option maxRecDepth 40000 in
theorem vL_Lw_20_RF : aw_cv "ResultFormsLaw" 20 "ResultForms" M_RF_pass 0 := ⟨c_RF_pass, by decide, by decide, by decide +kernel, (aw_in 415 (by decide +kernel) rfl), (aw_in 92 (by decide +kernel) rfl), Or.inl ⟨(aw_in 414 (by decide +kernel) rfl), (aw_in 416 (by decide +kernel) rfl)⟩⟩
set_option maxRecDepth 40000 in
theorem vL_Lw_24_Mo : aw_cv "ResultFormsLaw" 24 "ResultFormsModel" M_Mo_pass 0 := ⟨c_Mo_pass, by decide, by decide, by decide +kernel, (aw_in 1407 (by decide +kernel) rfl), (aw_in 103 (by decide +kernel) rfl), Or.inl ⟨(aw_in 1406 (by decide +kernel) rfl), (aw_in 1408 (by decide +kernel) rfl)⟩⟩
set_option maxRecDepth 40000 in
theorem vL_Lw_25_RF : aw_cv "ResultFormsLaw" 25 "ResultForms" M_RF_term 2 := ⟨c_RF_term, by decide, by decide, by decide +kernel, (aw_in 423 (by decide +kernel) rfl), (aw_in 92 (by decide +kernel) rfl), Or.inl ⟨(aw_in 422 (by decide +kernel) rfl), (aw_in 424 (by decide +kernel) rfl)⟩⟩
set_option maxRecDepth 40000 in
theorem vL_Lw_29_Mo : aw_cv "ResultFormsLaw" 29 "ResultFormsModel" M_Mo_term 2 := ⟨c_Mo_term, by decide, by decide, by decide +kernel, (aw_in 1411 (by decide +kernel) rfl), (aw_in 103 (by decide +kernel) rfl), Or.inl ⟨(aw_in 1410 (by decide +kernel) rfl), (aw_in 1412 (by decide +kernel) rfl)⟩⟩
set_option maxRecDepth 40000 in
theorem vL_Lw_30_RF : aw_cv "ResultFormsLaw" 30 "ResultForms" M_RF_of 2 := ⟨c_RF_of, by decide, by decide, by decide +kernel, (aw_in 581 (by decide +kernel) rfl), (aw_in 92 (by decide +kernel) rfl), Or.inl ⟨(aw_in 580 (by decide +kernel) rfl), (aw_in 582 (by decide +kernel) rfl)⟩⟩
set_option maxRecDepth 40000 in
theorem vL_Lw_33_Mo : aw_cv "ResultFormsLaw" 33 "ResultFormsModel" M_Mo_of 2 := ⟨c_Mo_of, by decide, by decide, by decide +kernel, (aw_in 1442 (by decide +kernel) rfl), (aw_in 103 (by decide +kernel) rfl), Or.inl ⟨(aw_in 1441 (by decide +kernel) rfl), (aw_in 1443 (by decide +kernel) rfl)⟩⟩
set_option maxRecDepth 40000 in
theorem vL_Lw_34_RF : aw_cv "ResultFormsLaw" 34 "ResultForms" M_RF_variable 0 := ⟨c_RF_variable, by decide, by decide, by decide +kernel, (aw_in 593 (by decide +kernel) rfl), (aw_in 92 (by decide +kernel) rfl), Or.inl ⟨(aw_in 592 (by decide +kernel) rfl), (aw_in 594 (by decide +kernel) rfl)⟩⟩
set_option maxRecDepth 40000 in
theorem vL_Lw_37_Mo : aw_cv "ResultFormsLaw" 37 "ResultFormsModel" M_Mo_variable 0 := ⟨c_Mo_variable, by decide, by decide, by decide +kernel, (aw_in 1446 (by decide +kernel) rfl), (aw_in 103 (by decide +kernel) rfl), Or.inl ⟨(aw_in 1445 (by decide +kernel) rfl), (aw_in 1447 (by decide +kernel) rfl)⟩⟩
set_option maxRecDepth 40000 in
theorem vL_Lw_38_RF : aw_cv "ResultFormsLaw" 38 "ResultForms" M_RF_row 0 := ⟨c_RF_row, by decide, by decide, by decide +kernel, (aw_in 624 (by decide +kernel) rfl), (aw_in 92 (by decide +kernel) rfl), Or.inl ⟨(aw_in 623 (by decide +kernel) rfl), (aw_in 625 (by decide +kernel) rfl)⟩⟩
set_option maxRecDepth 40000 in
theorem vL_Lw_41_Mo : aw_cv "ResultFormsLaw" 41 "ResultFormsModel" M_Mo_row 0 := ⟨c_Mo_row, by decide, by decide, by decide +kernel, (aw_in 1450 (by decide +kernel) rfl), (aw_in 103 (by decide +kernel) rfl), Or.inl ⟨(aw_in 1449 (by decide +kernel) rfl), (aw_in 1451 (by decide +kernel) rfl)⟩⟩
set_option maxRecDepth 40000 in
theorem vL_Lw_42_RF : aw_cv "ResultFormsLaw" 42 "ResultForms" M_RF_put 3 := ⟨c_RF_put, by decide, by decide, by decide +kernel, (aw_in 644 (by decide +kernel) rfl), (aw_in 92 (by decide +kernel) rfl), Or.inl ⟨(aw_in 643 (by decide +kernel) rfl), (aw_in 645 (by decide +kernel) rfl)⟩⟩
set_option maxRecDepth 40000 in
theorem vL_Lw_46_Mo : aw_cv "ResultFormsLaw" 46 "ResultFormsModel" M_Mo_put 3 := ⟨c_Mo_put, by decide, by decide, by decide +kernel, (aw_in 1454 (by decide +kernel) rfl), (aw_in 103 (by decide +kernel) rfl), Or.inl ⟨(aw_in 1453 (by decide +kernel) rfl), (aw_in 1455 (by decide +kernel) rfl)⟩⟩
set_option maxRecDepth 40000 in
theorem vL_Lw_47_RF : aw_cv "ResultFormsLaw" 47 "ResultForms" M_RF_clear 0 := ⟨c_RF_clear, by decide, by decide, by decide +kernel, (aw_in 657 (by decide +kernel) rfl), (aw_in 92 (by decide +kernel) rfl), Or.inl ⟨(aw_in 656 (by decide +kernel) rfl), (aw_in 658 (by decide +kernel) rfl)⟩⟩
set_option maxRecDepth 40000 in
theorem vL_Lw_50_Mo : aw_cv "ResultFormsLaw" 50 "ResultFormsModel" M_Mo_clear 0 := ⟨c_Mo_clear, by decide, by decide, by decide +kernel, (aw_in 1458 (by decide +kernel) rfl), (aw_in 103 (by decide +kernel) rfl), Or.inl ⟨(aw_in 1457 (by decide +kernel) rfl), (aw_in 1459 (by decide +kernel) rfl)⟩⟩
set_option maxRecDepth 40000 in
theorem vL_Lw_51_RF : aw_cv "ResultFormsLaw" 51 "ResultForms" M_RF_value 2 := ⟨c_RF_value, by decide, by decide, by decide +kernel, (aw_in 665 (by decide +kernel) rfl), (aw_in 92 (by decide +kernel) rfl), Or.inl ⟨(aw_in 664 (by decide +kernel) rfl), (aw_in 666 (by decide +kernel) rfl)⟩⟩
set_option maxRecDepth 40000 in
theorem vL_Lw_54_Mo : aw_cv "ResultFormsLaw" 54 "ResultFormsModel" M_Mo_value 2 := ⟨c_Mo_value, by decide, by decide, by decide +kernel, (aw_in 1462 (by decide +kernel) rfl), (aw_in 103 (by decide +kernel) rfl), Or.inl ⟨(aw_in 1461 (by decide +kernel) rfl), (aw_in 1463 (by decide +kernel) rfl)⟩⟩
set_option maxRecDepth 40000 in
theorem vL_Lw_55_RF : aw_cv "ResultFormsLaw" 55 "ResultForms" M_RF_write 1 := ⟨c_RF_write, by decide, by decide, by decide +kernel, (aw_in 669 (by decide +kernel) rfl), (aw_in 92 (by decide +kernel) rfl), Or.inl ⟨(aw_in 668 (by decide +kernel) rfl), (aw_in 670 (by decide +kernel) rfl)⟩⟩
set_option maxRecDepth 40000 in
theorem vL_Lw_59_Mo : aw_cv "ResultFormsLaw" 59 "ResultFormsModel" M_Mo_write 1 := ⟨c_Mo_write, by decide, by decide, by decide +kernel, (aw_in 1466 (by decide +kernel) rfl), (aw_in 103 (by decide +kernel) rfl), Or.inl ⟨(aw_in 1465 (by decide +kernel) rfl), (aw_in 1467 (by decide +kernel) rfl)⟩⟩
set_option maxRecDepth 40000 in
theorem vL_Lw_60_RF : aw_cv "ResultFormsLaw" 60 "ResultForms" M_RF_say 2 := ⟨c_RF_say, by decide, by decide, by decide +kernel, (aw_in 877 (by decide +kernel) rfl), (aw_in 92 (by decide +kernel) rfl), Or.inl ⟨(aw_in 876 (by decide +kernel) rfl), (aw_in 878 (by decide +kernel) rfl)⟩⟩
set_option maxRecDepth 40000 in
theorem vL_Lw_64_Mo : aw_cv "ResultFormsLaw" 64 "ResultFormsModel" M_Mo_say 2 := ⟨c_Mo_say, by decide, by decide, by decide +kernel, (aw_in 1588 (by decide +kernel) rfl), (aw_in 103 (by decide +kernel) rfl), Or.inl ⟨(aw_in 1587 (by decide +kernel) rfl), (aw_in 1589 (by decide +kernel) rfl)⟩⟩
set_option maxRecDepth 40000 in
theorem vL_Lw_65_RF : aw_cv "ResultFormsLaw" 65 "ResultForms" M_RF_at 1 := ⟨c_RF_at, by decide, by decide, by decide +kernel, (aw_in 898 (by decide +kernel) rfl), (aw_in 92 (by decide +kernel) rfl), Or.inl ⟨(aw_in 897 (by decide +kernel) rfl), (aw_in 899 (by decide +kernel) rfl)⟩⟩
set_option maxRecDepth 40000 in
theorem vL_Lw_68_Mo : aw_cv "ResultFormsLaw" 68 "ResultFormsModel" M_Mo_at 1 := ⟨c_Mo_at, by decide, by decide, by decide +kernel, (aw_in 1601 (by decide +kernel) rfl), (aw_in 103 (by decide +kernel) rfl), Or.inl ⟨(aw_in 1600 (by decide +kernel) rfl), (aw_in 1602 (by decide +kernel) rfl)⟩⟩
set_option maxRecDepth 40000 in
theorem vL_Lw_69_RF : aw_cv "ResultFormsLaw" 69 "ResultForms" M_RF_read 1 := ⟨c_RF_read, by decide, by decide, by decide +kernel, (aw_in 902 (by decide +kernel) rfl), (aw_in 92 (by decide +kernel) rfl), Or.inl ⟨(aw_in 901 (by decide +kernel) rfl), (aw_in 903 (by decide +kernel) rfl)⟩⟩
set_option maxRecDepth 40000 in
theorem vL_Lw_72_Mo : aw_cv "ResultFormsLaw" 72 "ResultFormsModel" M_Mo_read 1 := ⟨c_Mo_read, by decide, by decide, by decide +kernel, (aw_in 1605 (by decide +kernel) rfl), (aw_in 103 (by decide +kernel) rfl), Or.inl ⟨(aw_in 1604 (by decide +kernel) rfl), (aw_in 1606 (by decide +kernel) rfl)⟩⟩
set_option maxRecDepth 40000 in
theorem vL_Lw_73_RF : aw_cv "ResultFormsLaw" 73 "ResultForms" M_RF_hear 1 := ⟨c_RF_hear, by decide, by decide, by decide +kernel, (aw_in 1215 (by decide +kernel) rfl), (aw_in 92 (by decide +kernel) rfl), Or.inl ⟨(aw_in 1214 (by decide +kernel) rfl), (aw_in 1216 (by decide +kernel) rfl)⟩⟩
set_option maxRecDepth 40000 in
theorem vL_Lw_76_Mo : aw_cv "ResultFormsLaw" 76 "ResultFormsModel" M_Mo_hear 1 := ⟨c_Mo_hear, by decide, by decide, by decide +kernel, (aw_in 1776 (by decide +kernel) rfl), (aw_in 103 (by decide +kernel) rfl), Or.inl ⟨(aw_in 1775 (by decide +kernel) rfl), (aw_in 1777 (by decide +kernel) rfl)⟩⟩
set_option maxRecDepth 40000 in
theorem vL_Lw_77_RF : aw_cv "ResultFormsLaw" 77 "ResultForms" M_RF_keep 0 := ⟨c_RF_keep, by decide, by decide, by decide +kernel, (aw_in 1237 (by decide +kernel) rfl), (aw_in 92 (by decide +kernel) rfl), Or.inl ⟨(aw_in 1236 (by decide +kernel) rfl), (aw_in 1238 (by decide +kernel) rfl)⟩⟩
set_option maxRecDepth 40000 in
theorem vL_Lw_80_Mo : aw_cv "ResultFormsLaw" 80 "ResultFormsModel" M_Mo_keep 0 := ⟨c_Mo_keep, by decide, by decide, by decide +kernel, (aw_in 1781 (by decide +kernel) rfl), (aw_in 103 (by decide +kernel) rfl), Or.inl ⟨(aw_in 1780 (by decide +kernel) rfl), (aw_in 1782 (by decide +kernel) rfl)⟩⟩
set_option maxRecDepth 40000 in
theorem vL_Lw_81_RF : aw_cv "ResultFormsLaw" 81 "ResultForms" M_RF_same 1 := ⟨c_RF_same, by decide, by decide, by decide +kernel, (aw_in 1241 (by decide +kernel) rfl), (aw_in 92 (by decide +kernel) rfl), Or.inl ⟨(aw_in 1240 (by decide +kernel) rfl), (aw_in 1242 (by decide +kernel) rfl)⟩⟩
set_option maxRecDepth 40000 in
theorem vL_Lw_85_Mo : aw_cv "ResultFormsLaw" 85 "ResultFormsModel" M_Mo_same 1 := ⟨c_Mo_same, by decide, by decide, by decide +kernel, (aw_in 1785 (by decide +kernel) rfl), (aw_in 103 (by decide +kernel) rfl), Or.inl ⟨(aw_in 1784 (by decide +kernel) rfl), (aw_in 1786 (by decide +kernel) rfl)⟩⟩
set_option maxRecDepth 40000 in
theorem vL_Lw_86_RF : aw_cv "ResultFormsLaw" 86 "ResultForms" M_RF_lacks 1 := ⟨c_RF_lacks, by decide, by decide, by decide +kernel, (aw_in 1263 (by decide +kernel) rfl), (aw_in 92 (by decide +kernel) rfl), Or.inl ⟨(aw_in 1262 (by decide +kernel) rfl), (aw_in 1264 (by decide +kernel) rfl)⟩⟩
set_option maxRecDepth 40000 in
theorem vL_Lw_89_Mo : aw_cv "ResultFormsLaw" 89 "ResultFormsModel" M_Mo_lacks 1 := ⟨c_Mo_lacks, by decide, by decide, by decide +kernel, (aw_in 1797 (by decide +kernel) rfl), (aw_in 103 (by decide +kernel) rfl), Or.inl ⟨(aw_in 1800 (by decide +kernel) rfl), (aw_in 1798 (by decide +kernel) rfl)⟩⟩
set_option maxRecDepth 40000 in
theorem vL_Lw_90_RF : aw_cv "ResultFormsLaw" 90 "ResultForms" M_RF_distinct 0 := ⟨c_RF_distinct, by decide, by decide, by decide +kernel, (aw_in 1267 (by decide +kernel) rfl), (aw_in 92 (by decide +kernel) rfl), Or.inl ⟨(aw_in 1266 (by decide +kernel) rfl), (aw_in 1268 (by decide +kernel) rfl)⟩⟩
set_option maxRecDepth 40000 in
theorem vL_Lw_93_Mo : aw_cv "ResultFormsLaw" 93 "ResultFormsModel" M_Mo_distinct 0 := ⟨c_Mo_distinct, by decide, by decide, by decide +kernel, (aw_in 1802 (by decide +kernel) rfl), (aw_in 103 (by decide +kernel) rfl), Or.inl ⟨(aw_in 1801 (by decide +kernel) rfl), (aw_in 1803 (by decide +kernel) rfl)⟩⟩
set_option maxRecDepth 40000 in
theorem vL_Lw_94_RF : aw_cv "ResultFormsLaw" 94 "ResultForms" M_RF_count 1 := ⟨c_RF_count, by decide, by decide, by decide +kernel, (aw_in 1276 (by decide +kernel) rfl), (aw_in 92 (by decide +kernel) rfl), Or.inl ⟨(aw_in 1275 (by decide +kernel) rfl), (aw_in 1277 (by decide +kernel) rfl)⟩⟩
set_option maxRecDepth 40000 in
theorem vL_Lw_97_Mo : aw_cv "ResultFormsLaw" 97 "ResultFormsModel" M_Mo_count 1 := ⟨c_Mo_count, by decide, by decide, by decide +kernel, (aw_in 1806 (by decide +kernel) rfl), (aw_in 103 (by decide +kernel) rfl), Or.inl ⟨(aw_in 1805 (by decide +kernel) rfl), (aw_in 1807 (by decide +kernel) rfl)⟩⟩
set_option maxRecDepth 40000 in
theorem aI_int : Cond.arrayClass .int ∈ aw_tbl := (aw_in 139 (by decide +kernel) rfl)
set_option maxRecDepth 40000 in
theorem aI_bool : Cond.arrayClass .boolean ∈ aw_tbl := (aw_in 1397 (by decide +kernel) rfl)
