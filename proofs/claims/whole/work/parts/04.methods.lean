def M_RF_init : aw_M := (⟨"ResultForms", "<init>", "()V"⟩, prog_1_method_1_code, 1, none)
set_option maxRecDepth 40000 in
theorem c_RF_init : Cond.code M_RF_init.1 M_RF_init.2.1 M_RF_init.2.2.1 M_RF_init.2.2.2 ∈ aw_tbl := aw_in 114 (w := .code ⟨"ResultForms", "<init>", "()V"⟩ prog_1_method_1_code 1 none) (by rfl) rfl
def M_JO_init : aw_M := (⟨"java/lang/Object", "<init>", "()V"⟩, object_method_1_code, 1, none)
set_option maxRecDepth 40000 in
theorem c_JO_init : Cond.code M_JO_init.1 M_JO_init.2.1 M_JO_init.2.2.1 M_JO_init.2.2.2 ∈ aw_tbl := aw_in 117 (w := .code ⟨"java/lang/Object", "<init>", "()V"⟩ object_method_1_code 1 none) (by rfl) rfl
def M_By_init : aw_M := (⟨"ResultForms$Bytes", "<init>", "()V"⟩, prog_2_method_1_code, 1, none)
set_option maxRecDepth 40000 in
theorem c_By_init : Cond.code M_By_init.1 M_By_init.2.1 M_By_init.2.2.1 M_By_init.2.2.2 ∈ aw_tbl := aw_in 122 (w := .code ⟨"ResultForms$Bytes", "<init>", "()V"⟩ prog_2_method_1_code 1 none) (by rfl) rfl
def M_Tx_init : aw_M := (⟨"ResultForms$Text", "<init>", "()V"⟩, prog_10_method_1_code, 1, none)
set_option maxRecDepth 40000 in
theorem c_Tx_init : Cond.code M_Tx_init.1 M_Tx_init.2.1 M_Tx_init.2.2.1 M_Tx_init.2.2.2 ∈ aw_tbl := aw_in 144 (w := .code ⟨"ResultForms$Text", "<init>", "()V"⟩ prog_10_method_1_code 1 none) (by rfl) rfl
def M_Te_init : aw_M := (⟨"ResultForms$Terms", "<init>", "()V"⟩, prog_9_method_1_code, 1, none)
set_option maxRecDepth 40000 in
theorem c_Te_init : Cond.code M_Te_init.1 M_Te_init.2.1 M_Te_init.2.2.1 M_Te_init.2.2.2 ∈ aw_tbl := aw_in 158 (w := .code ⟨"ResultForms$Terms", "<init>", "()V"⟩ prog_9_method_1_code 1 none) (by rfl) rfl
def M_Tb_init : aw_M := (⟨"ResultForms$Table", "<init>", "()V"⟩, prog_7_method_1_code, 1, none)
set_option maxRecDepth 40000 in
theorem c_Tb_init : Cond.code M_Tb_init.1 M_Tb_init.2.1 M_Tb_init.2.2.1 M_Tb_init.2.2.2 ∈ aw_tbl := aw_in 181 (w := .code ⟨"ResultForms$Table", "<init>", "()V"⟩ prog_7_method_1_code 1 none) (by rfl) rfl
def M_Sc_init : aw_M := (⟨"ResultForms$Scanner", "<init>", "(LResultForms$Bytes;)V"⟩, prog_6_method_1_code, 2, none)
set_option maxRecDepth 40000 in
theorem c_Sc_init : Cond.code M_Sc_init.1 M_Sc_init.2.1 M_Sc_init.2.2.1 M_Sc_init.2.2.2 ∈ aw_tbl := aw_in 212 (w := .code ⟨"ResultForms$Scanner", "<init>", "(LResultForms$Bytes;)V"⟩ prog_6_method_1_code 2 none) (by rfl) rfl
def M_Sc_begin : aw_M := (⟨"ResultForms$Scanner", "begin", "()V"⟩, prog_6_method_2_code, 1, none)
set_option maxRecDepth 40000 in
theorem c_Sc_begin : Cond.code M_Sc_begin.1 M_Sc_begin.2.1 M_Sc_begin.2.2.1 M_Sc_begin.2.2.2 ∈ aw_tbl := aw_in 219 (w := .code ⟨"ResultForms$Scanner", "begin", "()V"⟩ prog_6_method_2_code 1 none) (by rfl) rfl
def M_Sc_beginTerm : aw_M := (⟨"ResultForms$Scanner", "beginTerm", "(I)V"⟩, prog_6_method_3_code, 2, none)
set_option maxRecDepth 40000 in
theorem c_Sc_beginTerm : Cond.code M_Sc_beginTerm.1 M_Sc_beginTerm.2.1 M_Sc_beginTerm.2.2.1 M_Sc_beginTerm.2.2.2 ∈ aw_tbl := aw_in 223 (w := .code ⟨"ResultForms$Scanner", "beginTerm", "(I)V"⟩ prog_6_method_3_code 2 none) (by rfl) rfl
def M_Tx_empty : aw_M := (⟨"ResultForms$Text", "empty", "()V"⟩, prog_10_method_2_code, 1, none)
set_option maxRecDepth 40000 in
theorem c_Tx_empty : Cond.code M_Tx_empty.1 M_Tx_empty.2.1 M_Tx_empty.2.2.1 M_Tx_empty.2.2.2 ∈ aw_tbl := aw_in 227 (w := .code ⟨"ResultForms$Text", "empty", "()V"⟩ prog_10_method_2_code 1 none) (by rfl) rfl
def M_Js_init : aw_M := (⟨"ResultForms$Json", "<init>", "(LResultForms$Scanner;LResultForms$Bytes;LResultForms$Terms;)V"⟩, prog_4_method_1_code, 4, none)
set_option maxRecDepth 40000 in
theorem c_Js_init : Cond.code M_Js_init.1 M_Js_init.2.1 M_Js_init.2.2.1 M_Js_init.2.2.2 ∈ aw_tbl := aw_in 273 (w := .code ⟨"ResultForms$Json", "<init>", "(LResultForms$Scanner;LResultForms$Bytes;LResultForms$Terms;)V"⟩ prog_4_method_1_code 4 none) (by rfl) rfl
def M_Xm_init : aw_M := (⟨"ResultForms$Xml", "<init>", "(LResultForms$Scanner;LResultForms$Bytes;LResultForms$Terms;)V"⟩, prog_11_method_1_code, 4, none)
set_option maxRecDepth 40000 in
theorem c_Xm_init : Cond.code M_Xm_init.1 M_Xm_init.2.1 M_Xm_init.2.2.1 M_Xm_init.2.2.2 ∈ aw_tbl := aw_in 289 (w := .code ⟨"ResultForms$Xml", "<init>", "(LResultForms$Scanner;LResultForms$Bytes;LResultForms$Terms;)V"⟩ prog_11_method_1_code 4 none) (by rfl) rfl
def M_Cm_init : aw_M := (⟨"ResultForms$Commas", "<init>", "(LResultForms$Scanner;LResultForms$Bytes;LResultForms$Terms;)V"⟩, prog_3_method_1_code, 4, none)
set_option maxRecDepth 40000 in
theorem c_Cm_init : Cond.code M_Cm_init.1 M_Cm_init.2.1 M_Cm_init.2.2.1 M_Cm_init.2.2.2 ∈ aw_tbl := aw_in 305 (w := .code ⟨"ResultForms$Commas", "<init>", "(LResultForms$Scanner;LResultForms$Bytes;LResultForms$Terms;)V"⟩ prog_3_method_1_code 4 none) (by rfl) rfl
def M_Ln_init : aw_M := (⟨"ResultForms$Lines", "<init>", "(LResultForms$Scanner;LResultForms$Bytes;LResultForms$Terms;Ljava/lang/String;CLjava/lang/String;)V"⟩, prog_5_method_1_code, 7, none)
set_option maxRecDepth 40000 in
theorem c_Ln_init : Cond.code M_Ln_init.1 M_Ln_init.2.1 M_Ln_init.2.2.1 M_Ln_init.2.2.2 ∈ aw_tbl := aw_in 310 (w := .code ⟨"ResultForms$Lines", "<init>", "(LResultForms$Scanner;LResultForms$Bytes;LResultForms$Terms;Ljava/lang/String;CLjava/lang/String;)V"⟩ prog_5_method_1_code 7 none) (by rfl) rfl
def M_Ta_init : aw_M := (⟨"ResultForms$Tabs", "<init>", "(LResultForms$Scanner;LResultForms$Bytes;LResultForms$Terms;)V"⟩, prog_8_method_1_code, 4, none)
set_option maxRecDepth 40000 in
theorem c_Ta_init : Cond.code M_Ta_init.1 M_Ta_init.2.1 M_Ta_init.2.2.1 M_Ta_init.2.2.2 ∈ aw_tbl := aw_in 348 (w := .code ⟨"ResultForms$Tabs", "<init>", "(LResultForms$Scanner;LResultForms$Bytes;LResultForms$Terms;)V"⟩ prog_8_method_1_code 4 none) (by rfl) rfl
def M_RF_type : aw_M := (⟨"ResultForms", "type", "(JI)I"⟩, prog_1_method_2_code, 5, (some .int))
set_option maxRecDepth 40000 in
theorem c_RF_type : Cond.code M_RF_type.1 M_RF_type.2.1 M_RF_type.2.2.1 M_RF_type.2.2.2 ∈ aw_tbl := aw_in 405 (w := .code ⟨"ResultForms", "type", "(JI)I"⟩ prog_1_method_2_code 5 (some .int)) (by rfl) rfl
def M_By_hasRoom : aw_M := (⟨"ResultForms$Bytes", "hasRoom", "(I)Z"⟩, prog_2_method_3_code, 2, (some .boolean))
set_option maxRecDepth 40000 in
theorem c_By_hasRoom : Cond.code M_By_hasRoom.1 M_By_hasRoom.2.1 M_By_hasRoom.2.2.1 M_By_hasRoom.2.2.2 ∈ aw_tbl := aw_in 409 (w := .code ⟨"ResultForms$Bytes", "hasRoom", "(I)Z"⟩ prog_2_method_3_code 2 (some .boolean)) (by rfl) rfl
def M_By_add : aw_M := (⟨"ResultForms$Bytes", "add", "(I)V"⟩, prog_2_method_5_code, 2, none)
set_option maxRecDepth 40000 in
theorem c_By_add : Cond.code M_By_add.1 M_By_add.2.1 M_By_add.2.2.1 M_By_add.2.2.2 ∈ aw_tbl := aw_in 413 (w := .code ⟨"ResultForms$Bytes", "add", "(I)V"⟩ prog_2_method_5_code 2 none) (by rfl) rfl
def M_RF_pass : aw_M := (⟨"ResultForms", "pass", "()I"⟩, prog_1_method_3_code, 2, (some .int))
set_option maxRecDepth 40000 in
theorem c_RF_pass : Cond.code M_RF_pass.1 M_RF_pass.2.1 M_RF_pass.2.2.1 M_RF_pass.2.2.2 ∈ aw_tbl := aw_in 417 (w := .code ⟨"ResultForms", "pass", "()I"⟩ prog_1_method_3_code 2 (some .int)) (by rfl) rfl
def M_By_get : aw_M := (⟨"ResultForms$Bytes", "get", "(I)I"⟩, prog_2_method_4_code, 2, (some .int))
set_option maxRecDepth 40000 in
theorem c_By_get : Cond.code M_By_get.1 M_By_get.2.1 M_By_get.2.2.1 M_By_get.2.2.2 ∈ aw_tbl := aw_in 421 (w := .code ⟨"ResultForms$Bytes", "get", "(I)I"⟩ prog_2_method_4_code 2 (some .int)) (by rfl) rfl
def M_RF_term : aw_M := (⟨"ResultForms", "term", "(II)I"⟩, prog_1_method_4_code, 5, (some .int))
set_option maxRecDepth 40000 in
theorem c_RF_term : Cond.code M_RF_term.1 M_RF_term.2.1 M_RF_term.2.2.1 M_RF_term.2.2.2 ∈ aw_tbl := aw_in 425 (w := .code ⟨"ResultForms", "term", "(II)I"⟩ prog_1_method_4_code 5 (some .int)) (by rfl) rfl
def M_Tx_takeAll : aw_M := (⟨"ResultForms$Text", "takeAll", "(LResultForms$Bytes;)Z"⟩, prog_10_method_6_code, 3, (some .boolean))
set_option maxRecDepth 40000 in
theorem c_Tx_takeAll : Cond.code M_Tx_takeAll.1 M_Tx_takeAll.2.1 M_Tx_takeAll.2.2.1 M_Tx_takeAll.2.2.2 ∈ aw_tbl := aw_in 429 (w := .code ⟨"ResultForms$Text", "takeAll", "(LResultForms$Bytes;)Z"⟩ prog_10_method_6_code 3 (some .boolean)) (by rfl) rfl
def M_RF_isTextByte : aw_M := (⟨"ResultForms", "isTextByte", "(I)Z"⟩, prog_1_method_28_code, 1, (some .boolean))
set_option maxRecDepth 40000 in
theorem c_RF_isTextByte : Cond.code M_RF_isTextByte.1 M_RF_isTextByte.2.1 M_RF_isTextByte.2.2.1 M_RF_isTextByte.2.2.2 ∈ aw_tbl := aw_in 434 (w := .code ⟨"ResultForms", "isTextByte", "(I)Z"⟩ prog_1_method_28_code 1 (some .boolean)) (by rfl) rfl
def M_RF_isPrinted : aw_M := (⟨"ResultForms", "isPrinted", "(I)Z"⟩, prog_1_method_27_code, 1, (some .boolean))
set_option maxRecDepth 40000 in
theorem c_RF_isPrinted : Cond.code M_RF_isPrinted.1 M_RF_isPrinted.2.1 M_RF_isPrinted.2.2.1 M_RF_isPrinted.2.2.2 ∈ aw_tbl := aw_in 437 (w := .code ⟨"ResultForms", "isPrinted", "(I)Z"⟩ prog_1_method_27_code 1 (some .boolean)) (by rfl) rfl
def M_Tx_add : aw_M := (⟨"ResultForms$Text", "add", "(I)V"⟩, prog_10_method_5_code, 2, none)
set_option maxRecDepth 40000 in
theorem c_Tx_add : Cond.code M_Tx_add.1 M_Tx_add.2.1 M_Tx_add.2.2.1 M_Tx_add.2.2.2 ∈ aw_tbl := aw_in 441 (w := .code ⟨"ResultForms$Text", "add", "(I)V"⟩ prog_10_method_5_code 2 none) (by rfl) rfl
def M_By_empty : aw_M := (⟨"ResultForms$Bytes", "empty", "()V"⟩, prog_2_method_2_code, 1, none)
set_option maxRecDepth 40000 in
theorem c_By_empty : Cond.code M_By_empty.1 M_By_empty.2.1 M_By_empty.2.2.1 M_By_empty.2.2.2 ∈ aw_tbl := aw_in 445 (w := .code ⟨"ResultForms$Bytes", "empty", "()V"⟩ prog_2_method_2_code 1 none) (by rfl) rfl
def M_RF_isExtra : aw_M := (⟨"ResultForms", "isExtra", "(II)Z"⟩, prog_1_method_23_code, 2, (some .boolean))
set_option maxRecDepth 40000 in
theorem c_RF_isExtra : Cond.code M_RF_isExtra.1 M_RF_isExtra.2.1 M_RF_isExtra.2.2.1 M_RF_isExtra.2.2.2 ∈ aw_tbl := aw_in 448 (w := .code ⟨"ResultForms", "isExtra", "(II)Z"⟩ prog_1_method_23_code 2 (some .boolean)) (by rfl) rfl
def M_Tx_isOf : aw_M := (⟨"ResultForms$Text", "isOf", "(I)Z"⟩, prog_10_method_7_code, 4, (some .boolean))
set_option maxRecDepth 40000 in
theorem c_Tx_isOf : Cond.code M_Tx_isOf.1 M_Tx_isOf.2.1 M_Tx_isOf.2.2.1 M_Tx_isOf.2.2.2 ∈ aw_tbl := aw_in 452 (w := .code ⟨"ResultForms$Text", "isOf", "(I)Z"⟩ prog_10_method_7_code 4 (some .boolean)) (by rfl) rfl
def M_Tx_get : aw_M := (⟨"ResultForms$Text", "get", "(I)I"⟩, prog_10_method_4_code, 2, (some .int))
set_option maxRecDepth 40000 in
theorem c_Tx_get : Cond.code M_Tx_get.1 M_Tx_get.2.1 M_Tx_get.2.2.1 M_Tx_get.2.2.2 ∈ aw_tbl := aw_in 456 (w := .code ⟨"ResultForms$Text", "get", "(I)I"⟩ prog_10_method_4_code 2 (some .int)) (by rfl) rfl
def M_RF_isNodeByte : aw_M := (⟨"ResultForms", "isNodeByte", "(I)Z"⟩, prog_1_method_29_code, 1, (some .boolean))
set_option maxRecDepth 40000 in
theorem c_RF_isNodeByte : Cond.code M_RF_isNodeByte.1 M_RF_isNodeByte.2.1 M_RF_isNodeByte.2.2.1 M_RF_isNodeByte.2.2.2 ∈ aw_tbl := aw_in 459 (w := .code ⟨"ResultForms", "isNodeByte", "(I)Z"⟩ prog_1_method_29_code 1 (some .boolean)) (by rfl) rfl
def M_JS_indexOf : aw_M := (⟨"java/lang/String", "indexOf", "(I)I"⟩, prog_16_method_79_code, 2, (some .int))
set_option maxRecDepth 40000 in
theorem c_JS_indexOf : Cond.code M_JS_indexOf.1 M_JS_indexOf.2.1 M_JS_indexOf.2.2.1 M_JS_indexOf.2.2.2 ∈ aw_tbl := aw_in 464 (w := .code ⟨"java/lang/String", "indexOf", "(I)I"⟩ prog_16_method_79_code 2 (some .int)) (by rfl) rfl
def M_JS_indexOf_1 : aw_M := (⟨"java/lang/String", "indexOf", "(II)I"⟩, prog_16_method_80_code, 3, (some .int))
set_option maxRecDepth 40000 in
theorem c_JS_indexOf_1 : Cond.code M_JS_indexOf_1.1 M_JS_indexOf_1.2.1 M_JS_indexOf_1.2.2.1 M_JS_indexOf_1.2.2.2 ∈ aw_tbl := aw_in 468 (w := .code ⟨"java/lang/String", "indexOf", "(II)I"⟩ prog_16_method_80_code 3 (some .int)) (by rfl) rfl
def M_JS_isLatin1 : aw_M := (⟨"java/lang/String", "isLatin1", "()Z"⟩, prog_16_method_154_code, 1, (some .boolean))
set_option maxRecDepth 40000 in
theorem c_JS_isLatin1 : Cond.code M_JS_isLatin1.1 M_JS_isLatin1.2.1 M_JS_isLatin1.2.2.1 M_JS_isLatin1.2.2.2 ∈ aw_tbl := aw_in 472 (w := .code ⟨"java/lang/String", "isLatin1", "()Z"⟩ prog_16_method_154_code 1 (some .boolean)) (by rfl) rfl
def M_JS_length : aw_M := (⟨"java/lang/String", "length", "()I"⟩, prog_16_method_54_code, 1, (some .int))
set_option maxRecDepth 40000 in
theorem c_JS_length : Cond.code M_JS_length.1 M_JS_length.2.1 M_JS_length.2.2.1 M_JS_length.2.2.2 ∈ aw_tbl := aw_in 478 (w := .code ⟨"java/lang/String", "length", "()I"⟩ prog_16_method_54_code 1 (some .int)) (by rfl) rfl
def M_JS_coder : aw_M := (⟨"java/lang/String", "coder", "()B"⟩, prog_16_method_152_code, 1, (some .byte))
set_option maxRecDepth 40000 in
theorem c_JS_coder : Cond.code M_JS_coder.1 M_JS_coder.2.1 M_JS_coder.2.2.1 M_JS_coder.2.2.2 ∈ aw_tbl := aw_in 482 (w := .code ⟨"java/lang/String", "coder", "()B"⟩ prog_16_method_152_code 1 (some .byte)) (by rfl) rfl
def M_JL_indexOf : aw_M := (⟨"java/lang/StringLatin1", "indexOf", "([BIII)I"⟩, prog_17_method_22_code, 4, (some .int))
set_option maxRecDepth 40000 in
theorem c_JL_indexOf : Cond.code M_JL_indexOf.1 M_JL_indexOf.2.1 M_JL_indexOf.2.2.1 M_JL_indexOf.2.2.2 ∈ aw_tbl := aw_in 485 (w := .code ⟨"java/lang/StringLatin1", "indexOf", "([BIII)I"⟩ prog_17_method_22_code 4 (some .int)) (by rfl) rfl
def M_JL_canEncode : aw_M := (⟨"java/lang/StringLatin1", "canEncode", "(I)Z"⟩, prog_17_method_4_code, 1, (some .boolean))
set_option maxRecDepth 40000 in
theorem c_JL_canEncode : Cond.code M_JL_canEncode.1 M_JL_canEncode.2.1 M_JL_canEncode.2.2.1 M_JL_canEncode.2.2.2 ∈ aw_tbl := aw_in 488 (w := .code ⟨"java/lang/StringLatin1", "canEncode", "(I)Z"⟩ prog_17_method_4_code 1 (some .boolean)) (by rfl) rfl
def M_JM_max : aw_M := (⟨"java/lang/Math", "max", "(II)I"⟩, prog_15_method_65_code, 2, (some .int))
set_option maxRecDepth 40000 in
theorem c_JM_max : Cond.code M_JM_max.1 M_JM_max.2.1 M_JM_max.2.2.1 M_JM_max.2.2.2 ∈ aw_tbl := aw_in 491 (w := .code ⟨"java/lang/Math", "max", "(II)I"⟩ prog_15_method_65_code 2 (some .int)) (by rfl) rfl
def M_JM_min : aw_M := (⟨"java/lang/Math", "min", "(II)I"⟩, prog_15_method_69_code, 2, (some .int))
set_option maxRecDepth 40000 in
theorem c_JM_min : Cond.code M_JM_min.1 M_JM_min.2.1 M_JM_min.2.2.1 M_JM_min.2.2.2 ∈ aw_tbl := aw_in 494 (w := .code ⟨"java/lang/Math", "min", "(II)I"⟩ prog_15_method_69_code 2 (some .int)) (by rfl) rfl
def M_JL_indexOfChar : aw_M := (⟨"java/lang/StringLatin1", "indexOfChar", "([BIII)I"⟩, prog_17_method_23_code, 6, (some .int))
set_option maxRecDepth 40000 in
theorem c_JL_indexOfChar : Cond.code M_JL_indexOfChar.1 M_JL_indexOfChar.2.1 M_JL_indexOfChar.2.2.1 M_JL_indexOfChar.2.2.2 ∈ aw_tbl := aw_in 497 (w := .code ⟨"java/lang/StringLatin1", "indexOfChar", "([BIII)I"⟩ prog_17_method_23_code 6 (some .int)) (by rfl) rfl
def M_JU_indexOf : aw_M := (⟨"java/lang/StringUTF16", "indexOf", "([BIII)I"⟩, prog_18_method_40_code, 4, (some .int))
set_option maxRecDepth 40000 in
theorem c_JU_indexOf : Cond.code M_JU_indexOf.1 M_JU_indexOf.2.1 M_JU_indexOf.2.2.1 M_JU_indexOf.2.2.2 ∈ aw_tbl := aw_in 500 (w := .code ⟨"java/lang/StringUTF16", "indexOf", "([BIII)I"⟩ prog_18_method_40_code 4 (some .int)) (by rfl) rfl
def M_JU_indexOfChar : aw_M := (⟨"java/lang/StringUTF16", "indexOfChar", "([BIII)I"⟩, prog_18_method_47_code, 4, (some .int))
set_option maxRecDepth 40000 in
theorem c_JU_indexOfChar : Cond.code M_JU_indexOfChar.1 M_JU_indexOfChar.2.1 M_JU_indexOfChar.2.2.1 M_JU_indexOfChar.2.2.2 ∈ aw_tbl := aw_in 506 (w := .code ⟨"java/lang/StringUTF16", "indexOfChar", "([BIII)I"⟩ prog_18_method_47_code 4 (some .int)) (by rfl) rfl
def M_JU_checkBoundsBeginEnd : aw_M := (⟨"java/lang/StringUTF16", "checkBoundsBeginEnd", "(II[B)V"⟩, prog_18_method_93_code, 3, none)
set_option maxRecDepth 40000 in
theorem c_JU_checkBoundsBeginEnd : Cond.code M_JU_checkBoundsBeginEnd.1 M_JU_checkBoundsBeginEnd.2.1 M_JU_checkBoundsBeginEnd.2.2.1 M_JU_checkBoundsBeginEnd.2.2.2 ∈ aw_tbl := aw_in 509 (w := .code ⟨"java/lang/StringUTF16", "checkBoundsBeginEnd", "(II[B)V"⟩ prog_18_method_93_code 3 none) (by rfl) rfl
def M_JU_length : aw_M := (⟨"java/lang/StringUTF16", "length", "([B)I"⟩, prog_18_method_6_code, 1, (some .int))
set_option maxRecDepth 40000 in
theorem c_JU_length : Cond.code M_JU_length.1 M_JU_length.2.1 M_JU_length.2.2.1 M_JU_length.2.2.2 ∈ aw_tbl := aw_in 512 (w := .code ⟨"java/lang/StringUTF16", "length", "([B)I"⟩ prog_18_method_6_code 1 (some .int)) (by rfl) rfl
def M_JS_checkBoundsBeginEnd : aw_M := (⟨"java/lang/String", "checkBoundsBeginEnd", "(III)V"⟩, prog_16_method_158_code, 3, none)
set_option maxRecDepth 40000 in
theorem c_JS_checkBoundsBeginEnd : Cond.code M_JS_checkBoundsBeginEnd.1 M_JS_checkBoundsBeginEnd.2.1 M_JS_checkBoundsBeginEnd.2.2.1 M_JS_checkBoundsBeginEnd.2.2.2 ∈ aw_tbl := aw_in 515 (w := .code ⟨"java/lang/String", "checkBoundsBeginEnd", "(III)V"⟩ prog_16_method_158_code 3 none) (by rfl) rfl
def M_JP_checkFromToIndex : aw_M := (⟨"jdk/internal/util/Preconditions", "checkFromToIndex", "(IIILjava/util/function/BiFunction;)I"⟩, prog_19_method_12_code, 4, (some .int))
set_option maxRecDepth 40000 in
theorem c_JP_checkFromToIndex : Cond.code M_JP_checkFromToIndex.1 M_JP_checkFromToIndex.2.1 M_JP_checkFromToIndex.2.2.1 M_JP_checkFromToIndex.2.2.2 ∈ aw_tbl := aw_in 520 (w := .code ⟨"jdk/internal/util/Preconditions", "checkFromToIndex", "(IIILjava/util/function/BiFunction;)I"⟩ prog_19_method_12_code 4 (some .int)) (by rfl) rfl
def M_JU_indexOfCharUnsafe : aw_M := (⟨"java/lang/StringUTF16", "indexOfCharUnsafe", "([BIII)I"⟩, prog_18_method_48_code, 5, (some .int))
set_option maxRecDepth 40000 in
theorem c_JU_indexOfCharUnsafe : Cond.code M_JU_indexOfCharUnsafe.1 M_JU_indexOfCharUnsafe.2.1 M_JU_indexOfCharUnsafe.2.2.1 M_JU_indexOfCharUnsafe.2.2.2 ∈ aw_tbl := aw_in 523 (w := .code ⟨"java/lang/StringUTF16", "indexOfCharUnsafe", "([BIII)I"⟩ prog_18_method_48_code 5 (some .int)) (by rfl) rfl
def M_JU_getChar : aw_M := (⟨"java/lang/StringUTF16", "getChar", "([BI)C"⟩, prog_18_method_5_code, 2, (some .char))
set_option maxRecDepth 40000 in
theorem c_JU_getChar : Cond.code M_JU_getChar.1 M_JU_getChar.2.1 M_JU_getChar.2.2.1 M_JU_getChar.2.2.2 ∈ aw_tbl := aw_in 526 (w := .code ⟨"java/lang/StringUTF16", "getChar", "([BI)C"⟩ prog_18_method_5_code 2 (some .char)) (by rfl) rfl
def M_JU_indexOfSupplementary : aw_M := (⟨"java/lang/StringUTF16", "indexOfSupplementary", "([BIII)I"⟩, prog_18_method_49_code, 7, (some .int))
set_option maxRecDepth 40000 in
theorem c_JU_indexOfSupplementary : Cond.code M_JU_indexOfSupplementary.1 M_JU_indexOfSupplementary.2.1 M_JU_indexOfSupplementary.2.2.1 M_JU_indexOfSupplementary.2.2.2 ∈ aw_tbl := aw_in 535 (w := .code ⟨"java/lang/StringUTF16", "indexOfSupplementary", "([BIII)I"⟩ prog_18_method_49_code 7 (some .int)) (by rfl) rfl
def M_JC_isValidCodePoint : aw_M := (⟨"java/lang/Character", "isValidCodePoint", "(I)Z"⟩, prog_14_method_11_code, 2, (some .boolean))
set_option maxRecDepth 40000 in
theorem c_JC_isValidCodePoint : Cond.code M_JC_isValidCodePoint.1 M_JC_isValidCodePoint.2.1 M_JC_isValidCodePoint.2.2.1 M_JC_isValidCodePoint.2.2.2 ∈ aw_tbl := aw_in 538 (w := .code ⟨"java/lang/Character", "isValidCodePoint", "(I)Z"⟩ prog_14_method_11_code 2 (some .boolean)) (by rfl) rfl
def M_JC_highSurrogate : aw_M := (⟨"java/lang/Character", "highSurrogate", "(I)C"⟩, prog_14_method_28_code, 1, (some .char))
set_option maxRecDepth 40000 in
theorem c_JC_highSurrogate : Cond.code M_JC_highSurrogate.1 M_JC_highSurrogate.2.1 M_JC_highSurrogate.2.2.1 M_JC_highSurrogate.2.2.2 ∈ aw_tbl := aw_in 541 (w := .code ⟨"java/lang/Character", "highSurrogate", "(I)C"⟩ prog_14_method_28_code 1 (some .char)) (by rfl) rfl
def M_JC_lowSurrogate : aw_M := (⟨"java/lang/Character", "lowSurrogate", "(I)C"⟩, prog_14_method_29_code, 1, (some .char))
set_option maxRecDepth 40000 in
theorem c_JC_lowSurrogate : Cond.code M_JC_lowSurrogate.1 M_JC_lowSurrogate.2.1 M_JC_lowSurrogate.2.2.1 M_JC_lowSurrogate.2.2.2 ∈ aw_tbl := aw_in 545 (w := .code ⟨"java/lang/Character", "lowSurrogate", "(I)C"⟩ prog_14_method_29_code 1 (some .char)) (by rfl) rfl
def M_RF_isLetterOrDigit : aw_M := (⟨"ResultForms", "isLetterOrDigit", "(I)Z"⟩, prog_1_method_26_code, 1, (some .boolean))
set_option maxRecDepth 40000 in
theorem c_RF_isLetterOrDigit : Cond.code M_RF_isLetterOrDigit.1 M_RF_isLetterOrDigit.2.1 M_RF_isLetterOrDigit.2.2.1 M_RF_isLetterOrDigit.2.2.2 ∈ aw_tbl := aw_in 549 (w := .code ⟨"ResultForms", "isLetterOrDigit", "(I)Z"⟩ prog_1_method_26_code 1 (some .boolean)) (by rfl) rfl
def M_Te_find : aw_M := (⟨"ResultForms$Terms", "find", "(IILResultForms$Text;)I"⟩, prog_9_method_8_code, 5, (some .int))
set_option maxRecDepth 40000 in
theorem c_Te_find : Cond.code M_Te_find.1 M_Te_find.2.1 M_Te_find.2.2.1 M_Te_find.2.2.2 ∈ aw_tbl := aw_in 553 (w := .code ⟨"ResultForms$Terms", "find", "(IILResultForms$Text;)I"⟩ prog_9_method_8_code 5 (some .int)) (by rfl) rfl
def M_Te_kindOf : aw_M := (⟨"ResultForms$Terms", "kindOf", "(I)I"⟩, prog_9_method_3_code, 2, (some .int))
set_option maxRecDepth 40000 in
theorem c_Te_kindOf : Cond.code M_Te_kindOf.1 M_Te_kindOf.2.1 M_Te_kindOf.2.2.1 M_Te_kindOf.2.2.2 ∈ aw_tbl := aw_in 557 (w := .code ⟨"ResultForms$Terms", "kindOf", "(I)I"⟩ prog_9_method_3_code 2 (some .int)) (by rfl) rfl
def M_Te_extraOf : aw_M := (⟨"ResultForms$Terms", "extraOf", "(I)I"⟩, prog_9_method_4_code, 2, (some .int))
set_option maxRecDepth 40000 in
theorem c_Te_extraOf : Cond.code M_Te_extraOf.1 M_Te_extraOf.2.1 M_Te_extraOf.2.2.1 M_Te_extraOf.2.2.2 ∈ aw_tbl := aw_in 561 (w := .code ⟨"ResultForms$Terms", "extraOf", "(I)I"⟩ prog_9_method_4_code 2 (some .int)) (by rfl) rfl
def M_Te_hasText : aw_M := (⟨"ResultForms$Terms", "hasText", "(ILResultForms$Text;)Z"⟩, prog_9_method_9_code, 4, (some .boolean))
set_option maxRecDepth 40000 in
theorem c_Te_hasText : Cond.code M_Te_hasText.1 M_Te_hasText.2.1 M_Te_hasText.2.2.1 M_Te_hasText.2.2.2 ∈ aw_tbl := aw_in 565 (w := .code ⟨"ResultForms$Terms", "hasText", "(ILResultForms$Text;)Z"⟩ prog_9_method_9_code 4 (some .boolean)) (by rfl) rfl
def M_Te_lengthOf : aw_M := (⟨"ResultForms$Terms", "lengthOf", "(I)I"⟩, prog_9_method_5_code, 2, (some .int))
set_option maxRecDepth 40000 in
theorem c_Te_lengthOf : Cond.code M_Te_lengthOf.1 M_Te_lengthOf.2.1 M_Te_lengthOf.2.2.1 M_Te_lengthOf.2.2.2 ∈ aw_tbl := aw_in 569 (w := .code ⟨"ResultForms$Terms", "lengthOf", "(I)I"⟩ prog_9_method_5_code 2 (some .int)) (by rfl) rfl
def M_Te_byteOf : aw_M := (⟨"ResultForms$Terms", "byteOf", "(II)I"⟩, prog_9_method_6_code, 3, (some .int))
set_option maxRecDepth 40000 in
theorem c_Te_byteOf : Cond.code M_Te_byteOf.1 M_Te_byteOf.2.1 M_Te_byteOf.2.2.1 M_Te_byteOf.2.2.2 ∈ aw_tbl := aw_in 573 (w := .code ⟨"ResultForms$Terms", "byteOf", "(II)I"⟩ prog_9_method_6_code 3 (some .int)) (by rfl) rfl
def M_Te_numberOf : aw_M := (⟨"ResultForms$Terms", "numberOf", "(IILResultForms$Text;)I"⟩, prog_9_method_10_code, 6, (some .int))
set_option maxRecDepth 40000 in
theorem c_Te_numberOf : Cond.code M_Te_numberOf.1 M_Te_numberOf.2.1 M_Te_numberOf.2.2.1 M_Te_numberOf.2.2.2 ∈ aw_tbl := aw_in 578 (w := .code ⟨"ResultForms$Terms", "numberOf", "(IILResultForms$Text;)I"⟩ prog_9_method_10_code 6 (some .int)) (by rfl) rfl
def M_RF_of : aw_M := (⟨"ResultForms", "of", "(II)I"⟩, prog_1_method_5_code, 3, (some .int))
set_option maxRecDepth 40000 in
theorem c_RF_of : Cond.code M_RF_of.1 M_RF_of.2.1 M_RF_of.2.2.1 M_RF_of.2.2.2 ∈ aw_tbl := aw_in 583 (w := .code ⟨"ResultForms", "of", "(II)I"⟩ prog_1_method_5_code 3 (some .int)) (by rfl) rfl
def M_Te_has : aw_M := (⟨"ResultForms$Terms", "has", "(I)Z"⟩, prog_9_method_2_code, 2, (some .boolean))
set_option maxRecDepth 40000 in
theorem c_Te_has : Cond.code M_Te_has.1 M_Te_has.2.1 M_Te_has.2.2.1 M_Te_has.2.2.2 ∈ aw_tbl := aw_in 587 (w := .code ⟨"ResultForms$Terms", "has", "(I)Z"⟩ prog_9_method_2_code 2 (some .boolean)) (by rfl) rfl
def M_RF_variable : aw_M := (⟨"ResultForms", "variable", "()I"⟩, prog_1_method_6_code, 4, (some .int))
set_option maxRecDepth 40000 in
theorem c_RF_variable : Cond.code M_RF_variable.1 M_RF_variable.2.1 M_RF_variable.2.2.1 M_RF_variable.2.2.2 ∈ aw_tbl := aw_in 595 (w := .code ⟨"ResultForms", "variable", "()I"⟩ prog_1_method_6_code 4 (some .int)) (by rfl) rfl
def M_RF_isName : aw_M := (⟨"ResultForms", "isName", "(LResultForms$Bytes;)Z"⟩, prog_1_method_24_code, 2, (some .boolean))
set_option maxRecDepth 40000 in
theorem c_RF_isName : Cond.code M_RF_isName.1 M_RF_isName.2.1 M_RF_isName.2.2.1 M_RF_isName.2.2.2 ∈ aw_tbl := aw_in 598 (w := .code ⟨"ResultForms", "isName", "(LResultForms$Bytes;)Z"⟩ prog_1_method_24_code 2 (some .boolean)) (by rfl) rfl
def M_RF_isLetter : aw_M := (⟨"ResultForms", "isLetter", "(I)Z"⟩, prog_1_method_25_code, 1, (some .boolean))
set_option maxRecDepth 40000 in
theorem c_RF_isLetter : Cond.code M_RF_isLetter.1 M_RF_isLetter.2.1 M_RF_isLetter.2.2.1 M_RF_isLetter.2.2.2 ∈ aw_tbl := aw_in 601 (w := .code ⟨"ResultForms", "isLetter", "(I)Z"⟩ prog_1_method_25_code 1 (some .boolean)) (by rfl) rfl
def M_Tb_find : aw_M := (⟨"ResultForms$Table", "find", "(LResultForms$Bytes;II)I"⟩, prog_7_method_5_code, 5, (some .int))
set_option maxRecDepth 40000 in
theorem c_Tb_find : Cond.code M_Tb_find.1 M_Tb_find.2.1 M_Tb_find.2.2.1 M_Tb_find.2.2.2 ∈ aw_tbl := aw_in 605 (w := .code ⟨"ResultForms$Table", "find", "(LResultForms$Bytes;II)I"⟩ prog_7_method_5_code 5 (some .int)) (by rfl) rfl
def M_Tb_isNamed : aw_M := (⟨"ResultForms$Table", "isNamed", "(ILResultForms$Bytes;II)Z"⟩, prog_7_method_6_code, 6, (some .boolean))
set_option maxRecDepth 40000 in
theorem c_Tb_isNamed : Cond.code M_Tb_isNamed.1 M_Tb_isNamed.2.1 M_Tb_isNamed.2.2.1 M_Tb_isNamed.2.2.2 ∈ aw_tbl := aw_in 609 (w := .code ⟨"ResultForms$Table", "isNamed", "(ILResultForms$Bytes;II)Z"⟩ prog_7_method_6_code 6 (some .boolean)) (by rfl) rfl
def M_Tb_lengthOfName : aw_M := (⟨"ResultForms$Table", "lengthOfName", "(I)I"⟩, prog_7_method_3_code, 2, (some .int))
set_option maxRecDepth 40000 in
theorem c_Tb_lengthOfName : Cond.code M_Tb_lengthOfName.1 M_Tb_lengthOfName.2.1 M_Tb_lengthOfName.2.2.1 M_Tb_lengthOfName.2.2.2 ∈ aw_tbl := aw_in 613 (w := .code ⟨"ResultForms$Table", "lengthOfName", "(I)I"⟩ prog_7_method_3_code 2 (some .int)) (by rfl) rfl
def M_Tb_byteOfName : aw_M := (⟨"ResultForms$Table", "byteOfName", "(II)I"⟩, prog_7_method_4_code, 3, (some .int))
set_option maxRecDepth 40000 in
theorem c_Tb_byteOfName : Cond.code M_Tb_byteOfName.1 M_Tb_byteOfName.2.1 M_Tb_byteOfName.2.2.1 M_Tb_byteOfName.2.2.2 ∈ aw_tbl := aw_in 617 (w := .code ⟨"ResultForms$Table", "byteOfName", "(II)I"⟩ prog_7_method_4_code 3 (some .int)) (by rfl) rfl
def M_Tb_addVariable : aw_M := (⟨"ResultForms$Table", "addVariable", "(LResultForms$Bytes;II)V"⟩, prog_7_method_7_code, 5, none)
set_option maxRecDepth 40000 in
theorem c_Tb_addVariable : Cond.code M_Tb_addVariable.1 M_Tb_addVariable.2.1 M_Tb_addVariable.2.2.1 M_Tb_addVariable.2.2.2 ∈ aw_tbl := aw_in 622 (w := .code ⟨"ResultForms$Table", "addVariable", "(LResultForms$Bytes;II)V"⟩ prog_7_method_7_code 5 none) (by rfl) rfl
def M_RF_row : aw_M := (⟨"ResultForms", "row", "()I"⟩, prog_1_method_7_code, 1, (some .int))
set_option maxRecDepth 40000 in
theorem c_RF_row : Cond.code M_RF_row.1 M_RF_row.2.1 M_RF_row.2.2.1 M_RF_row.2.2.2 ∈ aw_tbl := aw_in 626 (w := .code ⟨"ResultForms", "row", "()I"⟩ prog_1_method_7_code 1 (some .int)) (by rfl) rfl
def M_Tb_hasRoomForRow : aw_M := (⟨"ResultForms$Table", "hasRoomForRow", "()Z"⟩, prog_7_method_9_code, 1, (some .boolean))
set_option maxRecDepth 40000 in
theorem c_Tb_hasRoomForRow : Cond.code M_Tb_hasRoomForRow.1 M_Tb_hasRoomForRow.2.1 M_Tb_hasRoomForRow.2.2.1 M_Tb_hasRoomForRow.2.2.2 ∈ aw_tbl := aw_in 630 (w := .code ⟨"ResultForms$Table", "hasRoomForRow", "()Z"⟩ prog_7_method_9_code 1 (some .boolean)) (by rfl) rfl
def M_Tb_addRow : aw_M := (⟨"ResultForms$Table", "addRow", "()I"⟩, prog_7_method_10_code, 2, (some .int))
set_option maxRecDepth 40000 in
theorem c_Tb_addRow : Cond.code M_Tb_addRow.1 M_Tb_addRow.2.1 M_Tb_addRow.2.2.1 M_Tb_addRow.2.2.2 ∈ aw_tbl := aw_in 634 (w := .code ⟨"ResultForms$Table", "addRow", "()I"⟩ prog_7_method_10_code 2 (some .int)) (by rfl) rfl
def M_Tb_setCell : aw_M := (⟨"ResultForms$Table", "setCell", "(III)V"⟩, prog_7_method_13_code, 4, none)
set_option maxRecDepth 40000 in
theorem c_Tb_setCell : Cond.code M_Tb_setCell.1 M_Tb_setCell.2.1 M_Tb_setCell.2.2.1 M_Tb_setCell.2.2.2 ∈ aw_tbl := aw_in 639 (w := .code ⟨"ResultForms$Table", "setCell", "(III)V"⟩ prog_7_method_13_code 4 none) (by rfl) rfl
def M_Tb_inRoom : aw_M := (⟨"ResultForms$Table", "inRoom", "(II)Z"⟩, prog_7_method_14_code, 2, (some .boolean))
set_option maxRecDepth 40000 in
theorem c_Tb_inRoom : Cond.code M_Tb_inRoom.1 M_Tb_inRoom.2.1 M_Tb_inRoom.2.2.1 M_Tb_inRoom.2.2.2 ∈ aw_tbl := aw_in 642 (w := .code ⟨"ResultForms$Table", "inRoom", "(II)Z"⟩ prog_7_method_14_code 2 (some .boolean)) (by rfl) rfl
def M_RF_put : aw_M := (⟨"ResultForms", "put", "(III)I"⟩, prog_1_method_8_code, 4, (some .int))
set_option maxRecDepth 40000 in
theorem c_RF_put : Cond.code M_RF_put.1 M_RF_put.2.1 M_RF_put.2.2.1 M_RF_put.2.2.2 ∈ aw_tbl := aw_in 646 (w := .code ⟨"ResultForms", "put", "(III)I"⟩ prog_1_method_8_code 4 (some .int)) (by rfl) rfl
def M_Tb_hasCell : aw_M := (⟨"ResultForms$Table", "hasCell", "(II)Z"⟩, prog_7_method_11_code, 3, (some .boolean))
set_option maxRecDepth 40000 in
theorem c_Tb_hasCell : Cond.code M_Tb_hasCell.1 M_Tb_hasCell.2.1 M_Tb_hasCell.2.2.1 M_Tb_hasCell.2.2.2 ∈ aw_tbl := aw_in 650 (w := .code ⟨"ResultForms$Table", "hasCell", "(II)Z"⟩ prog_7_method_11_code 3 (some .boolean)) (by rfl) rfl
def M_Tb_cell : aw_M := (⟨"ResultForms$Table", "cell", "(II)I"⟩, prog_7_method_12_code, 3, (some .int))
set_option maxRecDepth 40000 in
theorem c_Tb_cell : Cond.code M_Tb_cell.1 M_Tb_cell.2.1 M_Tb_cell.2.2.1 M_Tb_cell.2.2.2 ∈ aw_tbl := aw_in 654 (w := .code ⟨"ResultForms$Table", "cell", "(II)I"⟩ prog_7_method_12_code 3 (some .int)) (by rfl) rfl
def M_RF_clear : aw_M := (⟨"ResultForms", "clear", "()I"⟩, prog_1_method_9_code, 2, (some .int))
set_option maxRecDepth 40000 in
theorem c_RF_clear : Cond.code M_RF_clear.1 M_RF_clear.2.1 M_RF_clear.2.2.1 M_RF_clear.2.2.2 ∈ aw_tbl := aw_in 659 (w := .code ⟨"ResultForms", "clear", "()I"⟩ prog_1_method_9_code 2 (some .int)) (by rfl) rfl
def M_Tb_empty : aw_M := (⟨"ResultForms$Table", "empty", "()V"⟩, prog_7_method_2_code, 1, none)
set_option maxRecDepth 40000 in
theorem c_Tb_empty : Cond.code M_Tb_empty.1 M_Tb_empty.2.1 M_Tb_empty.2.2.1 M_Tb_empty.2.2.2 ∈ aw_tbl := aw_in 663 (w := .code ⟨"ResultForms$Table", "empty", "()V"⟩ prog_7_method_2_code 1 none) (by rfl) rfl
def M_RF_value : aw_M := (⟨"ResultForms", "value", "(II)I"⟩, prog_1_method_10_code, 3, (some .int))
set_option maxRecDepth 40000 in
theorem c_RF_value : Cond.code M_RF_value.1 M_RF_value.2.1 M_RF_value.2.2.1 M_RF_value.2.2.2 ∈ aw_tbl := aw_in 667 (w := .code ⟨"ResultForms", "value", "(II)I"⟩ prog_1_method_10_code 3 (some .int)) (by rfl) rfl
def M_RF_write : aw_M := (⟨"ResultForms", "write", "(I)I"⟩, prog_1_method_11_code, 2, (some .int))
set_option maxRecDepth 40000 in
theorem c_RF_write : Cond.code M_RF_write.1 M_RF_write.2.1 M_RF_write.2.2.1 M_RF_write.2.2.2 ∈ aw_tbl := aw_in 671 (w := .code ⟨"ResultForms", "write", "(I)I"⟩ prog_1_method_11_code 2 (some .int)) (by rfl) rfl
def M_Js_print : aw_M := (⟨"ResultForms$Json", "print", "(LResultForms$Table;)V"⟩, prog_4_method_3_code, 3, none)
set_option maxRecDepth 40000 in
theorem c_Js_print : Cond.code M_Js_print.1 M_Js_print.2.1 M_Js_print.2.2.1 M_Js_print.2.2.2 ∈ aw_tbl := aw_in 675 (w := .code ⟨"ResultForms$Json", "print", "(LResultForms$Table;)V"⟩ prog_4_method_3_code 3 none) (by rfl) rfl
def M_By_addAll : aw_M := (⟨"ResultForms$Bytes", "addAll", "(Ljava/lang/String;)V"⟩, prog_2_method_6_code, 3, none)
set_option maxRecDepth 40000 in
theorem c_By_addAll : Cond.code M_By_addAll.1 M_By_addAll.2.1 M_By_addAll.2.2.1 M_By_addAll.2.2.2 ∈ aw_tbl := aw_in 680 (w := .code ⟨"ResultForms$Bytes", "addAll", "(Ljava/lang/String;)V"⟩ prog_2_method_6_code 3 none) (by rfl) rfl
def M_JS_charAt : aw_M := (⟨"java/lang/String", "charAt", "(I)C"⟩, prog_16_method_56_code, 2, (some .char))
set_option maxRecDepth 40000 in
theorem c_JS_charAt : Cond.code M_JS_charAt.1 M_JS_charAt.2.1 M_JS_charAt.2.2.1 M_JS_charAt.2.2.2 ∈ aw_tbl := aw_in 685 (w := .code ⟨"java/lang/String", "charAt", "(I)C"⟩ prog_16_method_56_code 2 (some .char)) (by rfl) rfl
def M_JL_charAt : aw_M := (⟨"java/lang/StringLatin1", "charAt", "([BI)C"⟩, prog_17_method_2_code, 2, (some .char))
set_option maxRecDepth 40000 in
theorem c_JL_charAt : Cond.code M_JL_charAt.1 M_JL_charAt.2.1 M_JL_charAt.2.2.1 M_JL_charAt.2.2.2 ∈ aw_tbl := aw_in 688 (w := .code ⟨"java/lang/StringLatin1", "charAt", "([BI)C"⟩ prog_17_method_2_code 2 (some .char)) (by rfl) rfl
def M_JS_checkIndex : aw_M := (⟨"java/lang/String", "checkIndex", "(II)V"⟩, prog_16_method_155_code, 2, none)
set_option maxRecDepth 40000 in
theorem c_JS_checkIndex : Cond.code M_JS_checkIndex.1 M_JS_checkIndex.2.1 M_JS_checkIndex.2.2.1 M_JS_checkIndex.2.2.2 ∈ aw_tbl := aw_in 691 (w := .code ⟨"java/lang/String", "checkIndex", "(II)V"⟩ prog_16_method_155_code 2 none) (by rfl) rfl
def M_JP_checkIndex : aw_M := (⟨"jdk/internal/util/Preconditions", "checkIndex", "(IILjava/util/function/BiFunction;)I"⟩, prog_19_method_11_code, 3, (some .int))
set_option maxRecDepth 40000 in
theorem c_JP_checkIndex : Cond.code M_JP_checkIndex.1 M_JP_checkIndex.2.1 M_JP_checkIndex.2.2.1 M_JP_checkIndex.2.2.2 ∈ aw_tbl := aw_in 694 (w := .code ⟨"jdk/internal/util/Preconditions", "checkIndex", "(IILjava/util/function/BiFunction;)I"⟩ prog_19_method_11_code 3 (some .int)) (by rfl) rfl
def M_JU_charAt : aw_M := (⟨"java/lang/StringUTF16", "charAt", "([BI)C"⟩, prog_18_method_83_code, 2, (some .char))
set_option maxRecDepth 40000 in
theorem c_JU_charAt : Cond.code M_JU_charAt.1 M_JU_charAt.2.1 M_JU_charAt.2.2.1 M_JU_charAt.2.2.2 ∈ aw_tbl := aw_in 697 (w := .code ⟨"java/lang/StringUTF16", "charAt", "([BI)C"⟩ prog_18_method_83_code 2 (some .char)) (by rfl) rfl
def M_JU_checkIndex : aw_M := (⟨"java/lang/StringUTF16", "checkIndex", "(I[B)V"⟩, prog_18_method_91_code, 2, none)
set_option maxRecDepth 40000 in
theorem c_JU_checkIndex : Cond.code M_JU_checkIndex.1 M_JU_checkIndex.2.1 M_JU_checkIndex.2.2.1 M_JU_checkIndex.2.2.2 ∈ aw_tbl := aw_in 700 (w := .code ⟨"java/lang/StringUTF16", "checkIndex", "(I[B)V"⟩ prog_18_method_91_code 2 none) (by rfl) rfl
def M_Js_printName : aw_M := (⟨"ResultForms$Json", "printName", "(LResultForms$Table;I)V"⟩, prog_4_method_4_code, 3, none)
set_option maxRecDepth 40000 in
theorem c_Js_printName : Cond.code M_Js_printName.1 M_Js_printName.2.1 M_Js_printName.2.2.1 M_Js_printName.2.2.2 ∈ aw_tbl := aw_in 707 (w := .code ⟨"ResultForms$Json", "printName", "(LResultForms$Table;I)V"⟩ prog_4_method_4_code 3 none) (by rfl) rfl
def M_Tb_printName : aw_M := (⟨"ResultForms$Table", "printName", "(ILResultForms$Bytes;)V"⟩, prog_7_method_8_code, 4, none)
set_option maxRecDepth 40000 in
theorem c_Tb_printName : Cond.code M_Tb_printName.1 M_Tb_printName.2.1 M_Tb_printName.2.2.1 M_Tb_printName.2.2.2 ∈ aw_tbl := aw_in 711 (w := .code ⟨"ResultForms$Table", "printName", "(ILResultForms$Bytes;)V"⟩ prog_7_method_8_code 4 none) (by rfl) rfl
def M_Js_printRow : aw_M := (⟨"ResultForms$Json", "printRow", "(LResultForms$Table;I)V"⟩, prog_4_method_5_code, 6, none)
set_option maxRecDepth 40000 in
theorem c_Js_printRow : Cond.code M_Js_printRow.1 M_Js_printRow.2.1 M_Js_printRow.2.2.1 M_Js_printRow.2.2.2 ∈ aw_tbl := aw_in 717 (w := .code ⟨"ResultForms$Json", "printRow", "(LResultForms$Table;I)V"⟩ prog_4_method_5_code 6 none) (by rfl) rfl
def M_Js_printTerm : aw_M := (⟨"ResultForms$Json", "printTerm", "(I)V"⟩, prog_4_method_6_code, 3, none)
set_option maxRecDepth 40000 in
theorem c_Js_printTerm : Cond.code M_Js_printTerm.1 M_Js_printTerm.2.1 M_Js_printTerm.2.2.1 M_Js_printTerm.2.2.2 ∈ aw_tbl := aw_in 722 (w := .code ⟨"ResultForms$Json", "printTerm", "(I)V"⟩ prog_4_method_6_code 3 none) (by rfl) rfl
def M_Te_printBackslashed : aw_M := (⟨"ResultForms$Terms", "printBackslashed", "(ILResultForms$Bytes;)V"⟩, prog_9_method_12_code, 5, none)
set_option maxRecDepth 40000 in
theorem c_Te_printBackslashed : Cond.code M_Te_printBackslashed.1 M_Te_printBackslashed.2.1 M_Te_printBackslashed.2.2.1 M_Te_printBackslashed.2.2.2 ∈ aw_tbl := aw_in 732 (w := .code ⟨"ResultForms$Terms", "printBackslashed", "(ILResultForms$Bytes;)V"⟩ prog_9_method_12_code 5 none) (by rfl) rfl
def M_Te_printExtra : aw_M := (⟨"ResultForms$Terms", "printExtra", "(ILResultForms$Bytes;)V"⟩, prog_9_method_13_code, 4, none)
set_option maxRecDepth 40000 in
theorem c_Te_printExtra : Cond.code M_Te_printExtra.1 M_Te_printExtra.2.1 M_Te_printExtra.2.2.1 M_Te_printExtra.2.2.2 ∈ aw_tbl := aw_in 745 (w := .code ⟨"ResultForms$Terms", "printExtra", "(ILResultForms$Bytes;)V"⟩ prog_9_method_13_code 4 none) (by rfl) rfl
def M_RF_typeName : aw_M := (⟨"ResultForms", "typeName", "(I)Ljava/lang/String;"⟩, prog_1_method_30_code, 1, (some (.object "java/lang/String")))
set_option maxRecDepth 40000 in
theorem c_RF_typeName : Cond.code M_RF_typeName.1 M_RF_typeName.2.1 M_RF_typeName.2.2.1 M_RF_typeName.2.2.2 ∈ aw_tbl := aw_in 748 (w := .code ⟨"ResultForms", "typeName", "(I)Ljava/lang/String;"⟩ prog_1_method_30_code 1 (some (.object "java/lang/String"))) (by rfl) rfl
def M_Xm_print : aw_M := (⟨"ResultForms$Xml", "print", "(LResultForms$Table;)V"⟩, prog_11_method_3_code, 3, none)
set_option maxRecDepth 40000 in
theorem c_Xm_print : Cond.code M_Xm_print.1 M_Xm_print.2.1 M_Xm_print.2.2.1 M_Xm_print.2.2.2 ∈ aw_tbl := aw_in 758 (w := .code ⟨"ResultForms$Xml", "print", "(LResultForms$Table;)V"⟩ prog_11_method_3_code 3 none) (by rfl) rfl
def M_Xm_printRow : aw_M := (⟨"ResultForms$Xml", "printRow", "(LResultForms$Table;I)V"⟩, prog_11_method_4_code, 5, none)
set_option maxRecDepth 40000 in
theorem c_Xm_printRow : Cond.code M_Xm_printRow.1 M_Xm_printRow.2.1 M_Xm_printRow.2.2.1 M_Xm_printRow.2.2.2 ∈ aw_tbl := aw_in 768 (w := .code ⟨"ResultForms$Xml", "printRow", "(LResultForms$Table;I)V"⟩ prog_11_method_4_code 5 none) (by rfl) rfl
def M_Xm_printTerm : aw_M := (⟨"ResultForms$Xml", "printTerm", "(I)V"⟩, prog_11_method_5_code, 3, none)
set_option maxRecDepth 40000 in
theorem c_Xm_printTerm : Cond.code M_Xm_printTerm.1 M_Xm_printTerm.2.1 M_Xm_printTerm.2.2.1 M_Xm_printTerm.2.2.2 ∈ aw_tbl := aw_in 776 (w := .code ⟨"ResultForms$Xml", "printTerm", "(I)V"⟩ prog_11_method_5_code 3 none) (by rfl) rfl
def M_Xm_opening : aw_M := (⟨"ResultForms$Xml", "opening", "(I)Ljava/lang/String;"⟩, prog_11_method_6_code, 1, (some (.object "java/lang/String")))
set_option maxRecDepth 40000 in
theorem c_Xm_opening : Cond.code M_Xm_opening.1 M_Xm_opening.2.1 M_Xm_opening.2.2.1 M_Xm_opening.2.2.2 ∈ aw_tbl := aw_in 780 (w := .code ⟨"ResultForms$Xml", "opening", "(I)Ljava/lang/String;"⟩ prog_11_method_6_code 1 (some (.object "java/lang/String"))) (by rfl) rfl
def M_Xm_printText : aw_M := (⟨"ResultForms$Xml", "printText", "(I)V"⟩, prog_11_method_8_code, 4, none)
set_option maxRecDepth 40000 in
theorem c_Xm_printText : Cond.code M_Xm_printText.1 M_Xm_printText.2.1 M_Xm_printText.2.2.1 M_Xm_printText.2.2.2 ∈ aw_tbl := aw_in 791 (w := .code ⟨"ResultForms$Xml", "printText", "(I)V"⟩ prog_11_method_8_code 4 none) (by rfl) rfl
def M_Xm_closing : aw_M := (⟨"ResultForms$Xml", "closing", "(I)Ljava/lang/String;"⟩, prog_11_method_7_code, 1, (some (.object "java/lang/String")))
set_option maxRecDepth 40000 in
theorem c_Xm_closing : Cond.code M_Xm_closing.1 M_Xm_closing.2.1 M_Xm_closing.2.2.1 M_Xm_closing.2.2.2 ∈ aw_tbl := aw_in 800 (w := .code ⟨"ResultForms$Xml", "closing", "(I)Ljava/lang/String;"⟩ prog_11_method_7_code 1 (some (.object "java/lang/String"))) (by rfl) rfl
def M_Ln_print : aw_M := (⟨"ResultForms$Lines", "print", "(LResultForms$Table;)V"⟩, prog_5_method_4_code, 3, none)
set_option maxRecDepth 40000 in
theorem c_Ln_print : Cond.code M_Ln_print.1 M_Ln_print.2.1 M_Ln_print.2.2.1 M_Ln_print.2.2.2 ∈ aw_tbl := aw_in 812 (w := .code ⟨"ResultForms$Lines", "print", "(LResultForms$Table;)V"⟩ prog_5_method_4_code 3 none) (by rfl) rfl
def M_Ln_printRow : aw_M := (⟨"ResultForms$Lines", "printRow", "(LResultForms$Table;I)V"⟩, prog_5_method_5_code, 5, none)
set_option maxRecDepth 40000 in
theorem c_Ln_printRow : Cond.code M_Ln_printRow.1 M_Ln_printRow.2.1 M_Ln_printRow.2.2.1 M_Ln_printRow.2.2.2 ∈ aw_tbl := aw_in 819 (w := .code ⟨"ResultForms$Lines", "printRow", "(LResultForms$Table;I)V"⟩ prog_5_method_5_code 5 none) (by rfl) rfl
def M_Cm_printTerm : aw_M := (⟨"ResultForms$Commas", "printTerm", "(I)V"⟩, prog_3_method_2_code, 2, none)
set_option maxRecDepth 40000 in
theorem c_Cm_printTerm : Cond.code M_Cm_printTerm.1 M_Cm_printTerm.2.1 M_Cm_printTerm.2.2.1 M_Cm_printTerm.2.2.2 ∈ aw_tbl := aw_in 826 (w := .code ⟨"ResultForms$Commas", "printTerm", "(I)V"⟩ prog_3_method_2_code 2 none) (by rfl) rfl
def M_Te_printAsIs : aw_M := (⟨"ResultForms$Terms", "printAsIs", "(ILResultForms$Bytes;)V"⟩, prog_9_method_11_code, 4, none)
set_option maxRecDepth 40000 in
theorem c_Te_printAsIs : Cond.code M_Te_printAsIs.1 M_Te_printAsIs.2.1 M_Te_printAsIs.2.2.1 M_Te_printAsIs.2.2.2 ∈ aw_tbl := aw_in 833 (w := .code ⟨"ResultForms$Terms", "printAsIs", "(ILResultForms$Bytes;)V"⟩ prog_9_method_11_code 4 none) (by rfl) rfl
def M_Cm_needsQuotes : aw_M := (⟨"ResultForms$Commas", "needsQuotes", "(I)Z"⟩, prog_3_method_3_code, 4, (some .boolean))
set_option maxRecDepth 40000 in
theorem c_Cm_needsQuotes : Cond.code M_Cm_needsQuotes.1 M_Cm_needsQuotes.2.1 M_Cm_needsQuotes.2.2.1 M_Cm_needsQuotes.2.2.2 ∈ aw_tbl := aw_in 837 (w := .code ⟨"ResultForms$Commas", "needsQuotes", "(I)Z"⟩ prog_3_method_3_code 4 (some .boolean)) (by rfl) rfl
def M_Cm_printQuoted : aw_M := (⟨"ResultForms$Commas", "printQuoted", "(I)V"⟩, prog_3_method_4_code, 4, none)
set_option maxRecDepth 40000 in
theorem c_Cm_printQuoted : Cond.code M_Cm_printQuoted.1 M_Cm_printQuoted.2.1 M_Cm_printQuoted.2.2.1 M_Cm_printQuoted.2.2.2 ∈ aw_tbl := aw_in 843 (w := .code ⟨"ResultForms$Commas", "printQuoted", "(I)V"⟩ prog_3_method_4_code 4 none) (by rfl) rfl
def M_Ta_printTerm : aw_M := (⟨"ResultForms$Tabs", "printTerm", "(I)V"⟩, prog_8_method_2_code, 2, none)
set_option maxRecDepth 40000 in
theorem c_Ta_printTerm : Cond.code M_Ta_printTerm.1 M_Ta_printTerm.2.1 M_Ta_printTerm.2.2.1 M_Ta_printTerm.2.2.2 ∈ aw_tbl := aw_in 847 (w := .code ⟨"ResultForms$Tabs", "printTerm", "(I)V"⟩ prog_8_method_2_code 2 none) (by rfl) rfl
def M_Ta_printBetween : aw_M := (⟨"ResultForms$Tabs", "printBetween", "(Ljava/lang/String;ILjava/lang/String;)V"⟩, prog_8_method_3_code, 4, none)
set_option maxRecDepth 40000 in
theorem c_Ta_printBetween : Cond.code M_Ta_printBetween.1 M_Ta_printBetween.2.1 M_Ta_printBetween.2.2.1 M_Ta_printBetween.2.2.2 ∈ aw_tbl := aw_in 854 (w := .code ⟨"ResultForms$Tabs", "printBetween", "(Ljava/lang/String;ILjava/lang/String;)V"⟩ prog_8_method_3_code 4 none) (by rfl) rfl
def M_RF_publish : aw_M := (⟨"ResultForms", "publish", "()I"⟩, prog_1_method_21_code, 1, (some .int))
set_option maxRecDepth 40000 in
theorem c_RF_publish : Cond.code M_RF_publish.1 M_RF_publish.2.1 M_RF_publish.2.2.1 M_RF_publish.2.2.2 ∈ aw_tbl := aw_in 869 (w := .code ⟨"ResultForms", "publish", "()I"⟩ prog_1_method_21_code 1 (some .int)) (by rfl) rfl
def M_By_copyFrom : aw_M := (⟨"ResultForms$Bytes", "copyFrom", "(LResultForms$Bytes;)V"⟩, prog_2_method_7_code, 3, none)
set_option maxRecDepth 40000 in
theorem c_By_copyFrom : Cond.code M_By_copyFrom.1 M_By_copyFrom.2.1 M_By_copyFrom.2.2.1 M_By_copyFrom.2.2.2 ∈ aw_tbl := aw_in 873 (w := .code ⟨"ResultForms$Bytes", "copyFrom", "(LResultForms$Bytes;)V"⟩ prog_2_method_7_code 3 none) (by rfl) rfl
def M_RF_say : aw_M := (⟨"ResultForms", "say", "(IZ)I"⟩, prog_1_method_12_code, 3, (some .int))
set_option maxRecDepth 40000 in
theorem c_RF_say : Cond.code M_RF_say.1 M_RF_say.2.1 M_RF_say.2.2.1 M_RF_say.2.2.2 ∈ aw_tbl := aw_in 879 (w := .code ⟨"ResultForms", "say", "(IZ)I"⟩ prog_1_method_12_code 3 (some .int)) (by rfl) rfl
def M_Js_printTruth : aw_M := (⟨"ResultForms$Json", "printTruth", "(Z)V"⟩, prog_4_method_2_code, 2, none)
set_option maxRecDepth 40000 in
theorem c_Js_printTruth : Cond.code M_Js_printTruth.1 M_Js_printTruth.2.1 M_Js_printTruth.2.2.1 M_Js_printTruth.2.2.2 ∈ aw_tbl := aw_in 883 (w := .code ⟨"ResultForms$Json", "printTruth", "(Z)V"⟩ prog_4_method_2_code 2 none) (by rfl) rfl
def M_RF_truthName : aw_M := (⟨"ResultForms", "truthName", "(Z)Ljava/lang/String;"⟩, prog_1_method_31_code, 1, (some (.object "java/lang/String")))
set_option maxRecDepth 40000 in
theorem c_RF_truthName : Cond.code M_RF_truthName.1 M_RF_truthName.2.1 M_RF_truthName.2.2.1 M_RF_truthName.2.2.2 ∈ aw_tbl := aw_in 887 (w := .code ⟨"ResultForms", "truthName", "(Z)Ljava/lang/String;"⟩ prog_1_method_31_code 1 (some (.object "java/lang/String"))) (by rfl) rfl
def M_Xm_printTruth : aw_M := (⟨"ResultForms$Xml", "printTruth", "(Z)V"⟩, prog_11_method_2_code, 2, none)
set_option maxRecDepth 40000 in
theorem c_Xm_printTruth : Cond.code M_Xm_printTruth.1 M_Xm_printTruth.2.1 M_Xm_printTruth.2.2.1 M_Xm_printTruth.2.2.2 ∈ aw_tbl := aw_in 893 (w := .code ⟨"ResultForms$Xml", "printTruth", "(Z)V"⟩ prog_11_method_2_code 2 none) (by rfl) rfl
def M_RF_at : aw_M := (⟨"ResultForms", "at", "(I)I"⟩, prog_1_method_13_code, 2, (some .int))
set_option maxRecDepth 40000 in
theorem c_RF_at : Cond.code M_RF_at.1 M_RF_at.2.1 M_RF_at.2.2.1 M_RF_at.2.2.2 ∈ aw_tbl := aw_in 900 (w := .code ⟨"ResultForms", "at", "(I)I"⟩ prog_1_method_13_code 2 (some .int)) (by rfl) rfl
def M_RF_read : aw_M := (⟨"ResultForms", "read", "(I)I"⟩, prog_1_method_14_code, 4, (some .int))
set_option maxRecDepth 40000 in
theorem c_RF_read : Cond.code M_RF_read.1 M_RF_read.2.1 M_RF_read.2.2.1 M_RF_read.2.2.2 ∈ aw_tbl := aw_in 904 (w := .code ⟨"ResultForms", "read", "(I)I"⟩ prog_1_method_14_code 4 (some .int)) (by rfl) rfl
def M_Js_parse : aw_M := (⟨"ResultForms$Json", "parse", "(LResultForms$Table;)Z"⟩, prog_4_method_8_code, 2, (some .boolean))
set_option maxRecDepth 40000 in
theorem c_Js_parse : Cond.code M_Js_parse.1 M_Js_parse.2.1 M_Js_parse.2.2.1 M_Js_parse.2.2.2 ∈ aw_tbl := aw_in 909 (w := .code ⟨"ResultForms$Json", "parse", "(LResultForms$Table;)Z"⟩ prog_4_method_8_code 2 (some .boolean)) (by rfl) rfl
def M_Sc_mustLoosely : aw_M := (⟨"ResultForms$Scanner", "mustLoosely", "(Ljava/lang/String;)Z"⟩, prog_6_method_13_code, 3, (some .boolean))
set_option maxRecDepth 40000 in
theorem c_Sc_mustLoosely : Cond.code M_Sc_mustLoosely.1 M_Sc_mustLoosely.2.1 M_Sc_mustLoosely.2.2.1 M_Sc_mustLoosely.2.2.2 ∈ aw_tbl := aw_in 914 (w := .code ⟨"ResultForms$Scanner", "mustLoosely", "(Ljava/lang/String;)Z"⟩ prog_6_method_13_code 3 (some .boolean)) (by rfl) rfl
def M_Sc_skipBlanks : aw_M := (⟨"ResultForms$Scanner", "skipBlanks", "()V"⟩, prog_6_method_14_code, 2, none)
set_option maxRecDepth 40000 in
theorem c_Sc_skipBlanks : Cond.code M_Sc_skipBlanks.1 M_Sc_skipBlanks.2.1 M_Sc_skipBlanks.2.2.1 M_Sc_skipBlanks.2.2.2 ∈ aw_tbl := aw_in 920 (w := .code ⟨"ResultForms$Scanner", "skipBlanks", "()V"⟩ prog_6_method_14_code 2 none) (by rfl) rfl
def M_Sc_next : aw_M := (⟨"ResultForms$Scanner", "next", "()I"⟩, prog_6_method_9_code, 1, (some .int))
set_option maxRecDepth 40000 in
theorem c_Sc_next : Cond.code M_Sc_next.1 M_Sc_next.2.1 M_Sc_next.2.2.1 M_Sc_next.2.2.2 ∈ aw_tbl := aw_in 924 (w := .code ⟨"ResultForms$Scanner", "next", "()I"⟩ prog_6_method_9_code 1 (some .int)) (by rfl) rfl
def M_Sc_took : aw_M := (⟨"ResultForms$Scanner", "took", "(I)Z"⟩, prog_6_method_10_code, 2, (some .boolean))
set_option maxRecDepth 40000 in
theorem c_Sc_took : Cond.code M_Sc_took.1 M_Sc_took.2.1 M_Sc_took.2.2.1 M_Sc_took.2.2.2 ∈ aw_tbl := aw_in 928 (w := .code ⟨"ResultForms$Scanner", "took", "(I)Z"⟩ prog_6_method_10_code 2 (some .boolean)) (by rfl) rfl
def M_Sc_fail : aw_M := (⟨"ResultForms$Scanner", "fail", "()Z"⟩, prog_6_method_4_code, 1, (some .boolean))
set_option maxRecDepth 40000 in
theorem c_Sc_fail : Cond.code M_Sc_fail.1 M_Sc_fail.2.1 M_Sc_fail.2.2.1 M_Sc_fail.2.2.2 ∈ aw_tbl := aw_in 932 (w := .code ⟨"ResultForms$Scanner", "fail", "()Z"⟩ prog_6_method_4_code 1 (some .boolean)) (by rfl) rfl
def M_Js_parseNames : aw_M := (⟨"ResultForms$Json", "parseNames", "(LResultForms$Table;)Z"⟩, prog_4_method_9_code, 3, (some .boolean))
set_option maxRecDepth 40000 in
theorem c_Js_parseNames : Cond.code M_Js_parseNames.1 M_Js_parseNames.2.1 M_Js_parseNames.2.2.1 M_Js_parseNames.2.2.2 ∈ aw_tbl := aw_in 936 (w := .code ⟨"ResultForms$Json", "parseNames", "(LResultForms$Table;)Z"⟩ prog_4_method_9_code 3 (some .boolean)) (by rfl) rfl
def M_Sc_newName : aw_M := (⟨"ResultForms$Scanner", "newName", "(LResultForms$Table;)Z"⟩, prog_6_method_17_code, 2, (some .boolean))
set_option maxRecDepth 40000 in
theorem c_Sc_newName : Cond.code M_Sc_newName.1 M_Sc_newName.2.1 M_Sc_newName.2.2.1 M_Sc_newName.2.2.2 ∈ aw_tbl := aw_in 942 (w := .code ⟨"ResultForms$Scanner", "newName", "(LResultForms$Table;)Z"⟩ prog_6_method_17_code 2 (some .boolean)) (by rfl) rfl
def M_Sc_takeWord : aw_M := (⟨"ResultForms$Scanner", "takeWord", "()V"⟩, prog_6_method_15_code, 1, none)
set_option maxRecDepth 40000 in
theorem c_Sc_takeWord : Cond.code M_Sc_takeWord.1 M_Sc_takeWord.2.1 M_Sc_takeWord.2.2.1 M_Sc_takeWord.2.2.2 ∈ aw_tbl := aw_in 946 (w := .code ⟨"ResultForms$Scanner", "takeWord", "()V"⟩ prog_6_method_15_code 1 none) (by rfl) rfl
def M_Sc_failAt : aw_M := (⟨"ResultForms$Scanner", "failAt", "(I)Z"⟩, prog_6_method_5_code, 2, (some .boolean))
set_option maxRecDepth 40000 in
theorem c_Sc_failAt : Cond.code M_Sc_failAt.1 M_Sc_failAt.2.1 M_Sc_failAt.2.2.1 M_Sc_failAt.2.2.2 ∈ aw_tbl := aw_in 951 (w := .code ⟨"ResultForms$Scanner", "failAt", "(I)Z"⟩ prog_6_method_5_code 2 (some .boolean)) (by rfl) rfl
def M_Sc_must : aw_M := (⟨"ResultForms$Scanner", "must", "(Ljava/lang/String;)Z"⟩, prog_6_method_12_code, 3, (some .boolean))
set_option maxRecDepth 40000 in
theorem c_Sc_must : Cond.code M_Sc_must.1 M_Sc_must.2.1 M_Sc_must.2.2.1 M_Sc_must.2.2.2 ∈ aw_tbl := aw_in 959 (w := .code ⟨"ResultForms$Scanner", "must", "(Ljava/lang/String;)Z"⟩ prog_6_method_12_code 3 (some .boolean)) (by rfl) rfl
def M_Js_parseRows : aw_M := (⟨"ResultForms$Json", "parseRows", "(LResultForms$Table;)Z"⟩, prog_4_method_10_code, 3, (some .boolean))
set_option maxRecDepth 40000 in
theorem c_Js_parseRows : Cond.code M_Js_parseRows.1 M_Js_parseRows.2.1 M_Js_parseRows.2.2.1 M_Js_parseRows.2.2.2 ∈ aw_tbl := aw_in 965 (w := .code ⟨"ResultForms$Json", "parseRows", "(LResultForms$Table;)Z"⟩ prog_4_method_10_code 3 (some .boolean)) (by rfl) rfl
def M_Js_parseRow : aw_M := (⟨"ResultForms$Json", "parseRow", "(LResultForms$Table;)Z"⟩, prog_4_method_11_code, 5, (some .boolean))
set_option maxRecDepth 40000 in
theorem c_Js_parseRow : Cond.code M_Js_parseRow.1 M_Js_parseRow.2.1 M_Js_parseRow.2.2.1 M_Js_parseRow.2.2.2 ∈ aw_tbl := aw_in 971 (w := .code ⟨"ResultForms$Json", "parseRow", "(LResultForms$Table;)Z"⟩ prog_4_method_11_code 5 (some .boolean)) (by rfl) rfl
def M_Sc_nameBehind : aw_M := (⟨"ResultForms$Scanner", "nameBehind", "(LResultForms$Table;I)I"⟩, prog_6_method_18_code, 4, (some .int))
set_option maxRecDepth 40000 in
theorem c_Sc_nameBehind : Cond.code M_Sc_nameBehind.1 M_Sc_nameBehind.2.1 M_Sc_nameBehind.2.2.1 M_Sc_nameBehind.2.2.2 ∈ aw_tbl := aw_in 977 (w := .code ⟨"ResultForms$Scanner", "nameBehind", "(LResultForms$Table;I)I"⟩ prog_6_method_18_code 4 (some .int)) (by rfl) rfl
def M_Js_parseValue : aw_M := (⟨"ResultForms$Json", "parseValue", "()Z"⟩, prog_4_method_12_code, 2, (some .boolean))
set_option maxRecDepth 40000 in
theorem c_Js_parseValue : Cond.code M_Js_parseValue.1 M_Js_parseValue.2.1 M_Js_parseValue.2.2.1 M_Js_parseValue.2.2.2 ∈ aw_tbl := aw_in 981 (w := .code ⟨"ResultForms$Json", "parseValue", "()Z"⟩ prog_4_method_12_code 2 (some .boolean)) (by rfl) rfl
def M_Sc_kindWord : aw_M := (⟨"ResultForms$Scanner", "kindWord", "()Z"⟩, prog_6_method_19_code, 1, (some .boolean))
set_option maxRecDepth 40000 in
theorem c_Sc_kindWord : Cond.code M_Sc_kindWord.1 M_Sc_kindWord.2.1 M_Sc_kindWord.2.2.1 M_Sc_kindWord.2.2.2 ∈ aw_tbl := aw_in 986 (w := .code ⟨"ResultForms$Scanner", "kindWord", "()Z"⟩ prog_6_method_19_code 1 (some .boolean)) (by rfl) rfl
def M_Sc_isWord : aw_M := (⟨"ResultForms$Scanner", "isWord", "(Ljava/lang/String;)Z"⟩, prog_6_method_16_code, 3, (some .boolean))
set_option maxRecDepth 40000 in
theorem c_Sc_isWord : Cond.code M_Sc_isWord.1 M_Sc_isWord.2.1 M_Sc_isWord.2.2.1 M_Sc_isWord.2.2.2 ∈ aw_tbl := aw_in 991 (w := .code ⟨"ResultForms$Scanner", "isWord", "(Ljava/lang/String;)Z"⟩ prog_6_method_16_code 3 (some .boolean)) (by rfl) rfl
def M_Sc_backslashedText : aw_M := (⟨"ResultForms$Scanner", "backslashedText", "(Z)Z"⟩, prog_6_method_23_code, 6, (some .boolean))
set_option maxRecDepth 40000 in
theorem c_Sc_backslashedText : Cond.code M_Sc_backslashedText.1 M_Sc_backslashedText.2.1 M_Sc_backslashedText.2.2.1 M_Sc_backslashedText.2.2.2 ∈ aw_tbl := aw_in 999 (w := .code ⟨"ResultForms$Scanner", "backslashedText", "(Z)Z"⟩ prog_6_method_23_code 6 (some .boolean)) (by rfl) rfl
def M_Tx_isFull : aw_M := (⟨"ResultForms$Text", "isFull", "()Z"⟩, prog_10_method_3_code, 1, (some .boolean))
set_option maxRecDepth 40000 in
theorem c_Tx_isFull : Cond.code M_Tx_isFull.1 M_Tx_isFull.2.1 M_Tx_isFull.2.2.1 M_Tx_isFull.2.2.2 ∈ aw_tbl := aw_in 1003 (w := .code ⟨"ResultForms$Text", "isFull", "()Z"⟩ prog_10_method_3_code 1 (some .boolean)) (by rfl) rfl
def M_Sc_ahead : aw_M := (⟨"ResultForms$Scanner", "ahead", "(I)I"⟩, prog_6_method_8_code, 3, (some .int))
set_option maxRecDepth 40000 in
theorem c_Sc_ahead : Cond.code M_Sc_ahead.1 M_Sc_ahead.2.1 M_Sc_ahead.2.2.1 M_Sc_ahead.2.2.2 ∈ aw_tbl := aw_in 1007 (w := .code ⟨"ResultForms$Scanner", "ahead", "(I)I"⟩ prog_6_method_8_code 3 (some .int)) (by rfl) rfl
def M_Sc_unescaped : aw_M := (⟨"ResultForms$Scanner", "unescaped", "(IZ)I"⟩, prog_6_method_24_code, 2, (some .int))
set_option maxRecDepth 40000 in
theorem c_Sc_unescaped : Cond.code M_Sc_unescaped.1 M_Sc_unescaped.2.1 M_Sc_unescaped.2.2.1 M_Sc_unescaped.2.2.2 ∈ aw_tbl := aw_in 1010 (w := .code ⟨"ResultForms$Scanner", "unescaped", "(IZ)I"⟩ prog_6_method_24_code 2 (some .int)) (by rfl) rfl
def M_Sc_take : aw_M := (⟨"ResultForms$Scanner", "take", "(II)V"⟩, prog_6_method_22_code, 3, none)
set_option maxRecDepth 40000 in
theorem c_Sc_take : Cond.code M_Sc_take.1 M_Sc_take.2.1 M_Sc_take.2.2.1 M_Sc_take.2.2.2 ∈ aw_tbl := aw_in 1015 (w := .code ⟨"ResultForms$Scanner", "take", "(II)V"⟩ prog_6_method_22_code 3 none) (by rfl) rfl
def M_Js_parseExtra : aw_M := (⟨"ResultForms$Json", "parseExtra", "()Z"⟩, prog_4_method_13_code, 2, (some .boolean))
set_option maxRecDepth 40000 in
theorem c_Js_parseExtra : Cond.code M_Js_parseExtra.1 M_Js_parseExtra.2.1 M_Js_parseExtra.2.2.1 M_Js_parseExtra.2.2.2 ∈ aw_tbl := aw_in 1022 (w := .code ⟨"ResultForms$Json", "parseExtra", "()Z"⟩ prog_4_method_13_code 2 (some .boolean)) (by rfl) rfl
def M_Sc_extraWord : aw_M := (⟨"ResultForms$Scanner", "extraWord", "(I)Z"⟩, prog_6_method_20_code, 3, (some .boolean))
set_option maxRecDepth 40000 in
theorem c_Sc_extraWord : Cond.code M_Sc_extraWord.1 M_Sc_extraWord.2.1 M_Sc_extraWord.2.2.1 M_Sc_extraWord.2.2.2 ∈ aw_tbl := aw_in 1029 (w := .code ⟨"ResultForms$Scanner", "extraWord", "(I)Z"⟩ prog_6_method_20_code 3 (some .boolean)) (by rfl) rfl
def M_Sc_mustEnd : aw_M := (⟨"ResultForms$Scanner", "mustEnd", "()Z"⟩, prog_6_method_7_code, 1, (some .boolean))
set_option maxRecDepth 40000 in
theorem c_Sc_mustEnd : Cond.code M_Sc_mustEnd.1 M_Sc_mustEnd.2.1 M_Sc_mustEnd.2.2.1 M_Sc_mustEnd.2.2.2 ∈ aw_tbl := aw_in 1038 (w := .code ⟨"ResultForms$Scanner", "mustEnd", "()Z"⟩ prog_6_method_7_code 1 (some .boolean)) (by rfl) rfl
def M_Sc_isEnded : aw_M := (⟨"ResultForms$Scanner", "isEnded", "()Z"⟩, prog_6_method_6_code, 1, (some .boolean))
set_option maxRecDepth 40000 in
theorem c_Sc_isEnded : Cond.code M_Sc_isEnded.1 M_Sc_isEnded.2.1 M_Sc_isEnded.2.2.1 M_Sc_isEnded.2.2.2 ∈ aw_tbl := aw_in 1042 (w := .code ⟨"ResultForms$Scanner", "isEnded", "()Z"⟩ prog_6_method_6_code 1 (some .boolean)) (by rfl) rfl
def M_Xm_parse : aw_M := (⟨"ResultForms$Xml", "parse", "(LResultForms$Table;)Z"⟩, prog_11_method_10_code, 2, (some .boolean))
set_option maxRecDepth 40000 in
theorem c_Xm_parse : Cond.code M_Xm_parse.1 M_Xm_parse.2.1 M_Xm_parse.2.2.1 M_Xm_parse.2.2.2 ∈ aw_tbl := aw_in 1046 (w := .code ⟨"ResultForms$Xml", "parse", "(LResultForms$Table;)Z"⟩ prog_11_method_10_code 2 (some .boolean)) (by rfl) rfl
def M_Xm_parseNames : aw_M := (⟨"ResultForms$Xml", "parseNames", "(LResultForms$Table;)Z"⟩, prog_11_method_12_code, 3, (some .boolean))
set_option maxRecDepth 40000 in
theorem c_Xm_parseNames : Cond.code M_Xm_parseNames.1 M_Xm_parseNames.2.1 M_Xm_parseNames.2.2.1 M_Xm_parseNames.2.2.2 ∈ aw_tbl := aw_in 1051 (w := .code ⟨"ResultForms$Xml", "parseNames", "(LResultForms$Table;)Z"⟩ prog_11_method_12_code 3 (some .boolean)) (by rfl) rfl
def M_Xm_isClosing : aw_M := (⟨"ResultForms$Xml", "isClosing", "()Z"⟩, prog_11_method_11_code, 1, (some .boolean))
set_option maxRecDepth 40000 in
theorem c_Xm_isClosing : Cond.code M_Xm_isClosing.1 M_Xm_isClosing.2.1 M_Xm_isClosing.2.2.1 M_Xm_isClosing.2.2.2 ∈ aw_tbl := aw_in 1055 (w := .code ⟨"ResultForms$Xml", "isClosing", "()Z"⟩ prog_11_method_11_code 1 (some .boolean)) (by rfl) rfl
def M_Xm_parseRows : aw_M := (⟨"ResultForms$Xml", "parseRows", "(LResultForms$Table;)Z"⟩, prog_11_method_13_code, 3, (some .boolean))
set_option maxRecDepth 40000 in
theorem c_Xm_parseRows : Cond.code M_Xm_parseRows.1 M_Xm_parseRows.2.1 M_Xm_parseRows.2.2.1 M_Xm_parseRows.2.2.2 ∈ aw_tbl := aw_in 1063 (w := .code ⟨"ResultForms$Xml", "parseRows", "(LResultForms$Table;)Z"⟩ prog_11_method_13_code 3 (some .boolean)) (by rfl) rfl
def M_Xm_parseRow : aw_M := (⟨"ResultForms$Xml", "parseRow", "(LResultForms$Table;)Z"⟩, prog_11_method_14_code, 5, (some .boolean))
set_option maxRecDepth 40000 in
theorem c_Xm_parseRow : Cond.code M_Xm_parseRow.1 M_Xm_parseRow.2.1 M_Xm_parseRow.2.2.1 M_Xm_parseRow.2.2.2 ∈ aw_tbl := aw_in 1068 (w := .code ⟨"ResultForms$Xml", "parseRow", "(LResultForms$Table;)Z"⟩ prog_11_method_14_code 5 (some .boolean)) (by rfl) rfl
def M_Xm_parseOpening : aw_M := (⟨"ResultForms$Xml", "parseOpening", "()Z"⟩, prog_11_method_15_code, 2, (some .boolean))
set_option maxRecDepth 40000 in
theorem c_Xm_parseOpening : Cond.code M_Xm_parseOpening.1 M_Xm_parseOpening.2.1 M_Xm_parseOpening.2.2.1 M_Xm_parseOpening.2.2.2 ∈ aw_tbl := aw_in 1075 (w := .code ⟨"ResultForms$Xml", "parseOpening", "()Z"⟩ prog_11_method_15_code 2 (some .boolean)) (by rfl) rfl
def M_Xm_parseText : aw_M := (⟨"ResultForms$Xml", "parseText", "()Z"⟩, prog_11_method_16_code, 4, (some .boolean))
set_option maxRecDepth 40000 in
theorem c_Xm_parseText : Cond.code M_Xm_parseText.1 M_Xm_parseText.2.1 M_Xm_parseText.2.2.1 M_Xm_parseText.2.2.2 ∈ aw_tbl := aw_in 1089 (w := .code ⟨"ResultForms$Xml", "parseText", "()Z"⟩ prog_11_method_16_code 4 (some .boolean)) (by rfl) rfl
def M_Xm_tookEntity : aw_M := (⟨"ResultForms$Xml", "tookEntity", "()Z"⟩, prog_11_method_17_code, 2, (some .boolean))
set_option maxRecDepth 40000 in
theorem c_Xm_tookEntity : Cond.code M_Xm_tookEntity.1 M_Xm_tookEntity.2.1 M_Xm_tookEntity.2.2.1 M_Xm_tookEntity.2.2.2 ∈ aw_tbl := aw_in 1096 (w := .code ⟨"ResultForms$Xml", "tookEntity", "()Z"⟩ prog_11_method_17_code 2 (some .boolean)) (by rfl) rfl
def M_Sc_tookAll : aw_M := (⟨"ResultForms$Scanner", "tookAll", "(Ljava/lang/String;)Z"⟩, prog_6_method_11_code, 3, (some .boolean))
set_option maxRecDepth 40000 in
theorem c_Sc_tookAll : Cond.code M_Sc_tookAll.1 M_Sc_tookAll.2.1 M_Sc_tookAll.2.2.1 M_Sc_tookAll.2.2.2 ∈ aw_tbl := aw_in 1100 (w := .code ⟨"ResultForms$Scanner", "tookAll", "(Ljava/lang/String;)Z"⟩ prog_6_method_11_code 3 (some .boolean)) (by rfl) rfl
def M_Ln_parse : aw_M := (⟨"ResultForms$Lines", "parse", "(LResultForms$Table;)Z"⟩, prog_5_method_6_code, 3, (some .boolean))
set_option maxRecDepth 40000 in
theorem c_Ln_parse : Cond.code M_Ln_parse.1 M_Ln_parse.2.1 M_Ln_parse.2.2.1 M_Ln_parse.2.2.2 ∈ aw_tbl := aw_in 1113 (w := .code ⟨"ResultForms$Lines", "parse", "(LResultForms$Table;)Z"⟩ prog_5_method_6_code 3 (some .boolean)) (by rfl) rfl
def M_Ln_parseNames : aw_M := (⟨"ResultForms$Lines", "parseNames", "(LResultForms$Table;)Z"⟩, prog_5_method_7_code, 3, (some .boolean))
set_option maxRecDepth 40000 in
theorem c_Ln_parseNames : Cond.code M_Ln_parseNames.1 M_Ln_parseNames.2.1 M_Ln_parseNames.2.2.1 M_Ln_parseNames.2.2.2 ∈ aw_tbl := aw_in 1117 (w := .code ⟨"ResultForms$Lines", "parseNames", "(LResultForms$Table;)Z"⟩ prog_5_method_7_code 3 (some .boolean)) (by rfl) rfl
def M_JS_isEmpty : aw_M := (⟨"java/lang/String", "isEmpty", "()Z"⟩, prog_16_method_55_code, 1, (some .boolean))
set_option maxRecDepth 40000 in
theorem c_JS_isEmpty : Cond.code M_JS_isEmpty.1 M_JS_isEmpty.2.1 M_JS_isEmpty.2.2.1 M_JS_isEmpty.2.2.2 ∈ aw_tbl := aw_in 1121 (w := .code ⟨"java/lang/String", "isEmpty", "()Z"⟩ prog_16_method_55_code 1 (some .boolean)) (by rfl) rfl
def M_Ln_parseRow : aw_M := (⟨"ResultForms$Lines", "parseRow", "(LResultForms$Table;)Z"⟩, prog_5_method_8_code, 4, (some .boolean))
set_option maxRecDepth 40000 in
theorem c_Ln_parseRow : Cond.code M_Ln_parseRow.1 M_Ln_parseRow.2.1 M_Ln_parseRow.2.2.1 M_Ln_parseRow.2.2.2 ∈ aw_tbl := aw_in 1133 (w := .code ⟨"ResultForms$Lines", "parseRow", "(LResultForms$Table;)Z"⟩ prog_5_method_8_code 4 (some .boolean)) (by rfl) rfl
def M_Cm_parseTerm : aw_M := (⟨"ResultForms$Commas", "parseTerm", "()Z"⟩, prog_3_method_5_code, 1, (some .boolean))
set_option maxRecDepth 40000 in
theorem c_Cm_parseTerm : Cond.code M_Cm_parseTerm.1 M_Cm_parseTerm.2.1 M_Cm_parseTerm.2.2.1 M_Cm_parseTerm.2.2.2 ∈ aw_tbl := aw_in 1141 (w := .code ⟨"ResultForms$Commas", "parseTerm", "()Z"⟩ prog_3_method_5_code 1 (some .boolean)) (by rfl) rfl
def M_Cm_parseQuoted : aw_M := (⟨"ResultForms$Commas", "parseQuoted", "()Z"⟩, prog_3_method_6_code, 4, (some .boolean))
set_option maxRecDepth 40000 in
theorem c_Cm_parseQuoted : Cond.code M_Cm_parseQuoted.1 M_Cm_parseQuoted.2.1 M_Cm_parseQuoted.2.2.1 M_Cm_parseQuoted.2.2.2 ∈ aw_tbl := aw_in 1146 (w := .code ⟨"ResultForms$Commas", "parseQuoted", "()Z"⟩ prog_3_method_6_code 4 (some .boolean)) (by rfl) rfl
def M_Ln_parseBlank : aw_M := (⟨"ResultForms$Lines", "parseBlank", "()Z"⟩, prog_5_method_9_code, 3, (some .boolean))
set_option maxRecDepth 40000 in
theorem c_Ln_parseBlank : Cond.code M_Ln_parseBlank.1 M_Ln_parseBlank.2.1 M_Ln_parseBlank.2.2.1 M_Ln_parseBlank.2.2.2 ∈ aw_tbl := aw_in 1160 (w := .code ⟨"ResultForms$Lines", "parseBlank", "()Z"⟩ prog_5_method_9_code 3 (some .boolean)) (by rfl) rfl
def M_Cm_isBare : aw_M := (⟨"ResultForms$Commas", "isBare", "(I)Z"⟩, prog_3_method_8_code, 1, (some .boolean))
set_option maxRecDepth 40000 in
theorem c_Cm_isBare : Cond.code M_Cm_isBare.1 M_Cm_isBare.2.1 M_Cm_isBare.2.2.1 M_Cm_isBare.2.2.2 ∈ aw_tbl := aw_in 1167 (w := .code ⟨"ResultForms$Commas", "isBare", "(I)Z"⟩ prog_3_method_8_code 1 (some .boolean)) (by rfl) rfl
def M_Cm_parseBare : aw_M := (⟨"ResultForms$Commas", "parseBare", "()Z"⟩, prog_3_method_7_code, 3, (some .boolean))
set_option maxRecDepth 40000 in
theorem c_Cm_parseBare : Cond.code M_Cm_parseBare.1 M_Cm_parseBare.2.1 M_Cm_parseBare.2.2.1 M_Cm_parseBare.2.2.2 ∈ aw_tbl := aw_in 1172 (w := .code ⟨"ResultForms$Commas", "parseBare", "()Z"⟩ prog_3_method_7_code 3 (some .boolean)) (by rfl) rfl
def M_Ta_parseTerm : aw_M := (⟨"ResultForms$Tabs", "parseTerm", "()Z"⟩, prog_8_method_4_code, 1, (some .boolean))
set_option maxRecDepth 40000 in
theorem c_Ta_parseTerm : Cond.code M_Ta_parseTerm.1 M_Ta_parseTerm.2.1 M_Ta_parseTerm.2.2.1 M_Ta_parseTerm.2.2.2 ∈ aw_tbl := aw_in 1175 (w := .code ⟨"ResultForms$Tabs", "parseTerm", "()Z"⟩ prog_8_method_4_code 1 (some .boolean)) (by rfl) rfl
def M_Ta_parseNode : aw_M := (⟨"ResultForms$Tabs", "parseNode", "()Z"⟩, prog_8_method_5_code, 4, (some .boolean))
set_option maxRecDepth 40000 in
theorem c_Ta_parseNode : Cond.code M_Ta_parseNode.1 M_Ta_parseNode.2.1 M_Ta_parseNode.2.2.1 M_Ta_parseNode.2.2.2 ∈ aw_tbl := aw_in 1181 (w := .code ⟨"ResultForms$Tabs", "parseNode", "()Z"⟩ prog_8_method_5_code 4 (some .boolean)) (by rfl) rfl
def M_Ta_parseLiteral : aw_M := (⟨"ResultForms$Tabs", "parseLiteral", "()Z"⟩, prog_8_method_6_code, 1, (some .boolean))
set_option maxRecDepth 40000 in
theorem c_Ta_parseLiteral : Cond.code M_Ta_parseLiteral.1 M_Ta_parseLiteral.2.1 M_Ta_parseLiteral.2.2.1 M_Ta_parseLiteral.2.2.2 ∈ aw_tbl := aw_in 1196 (w := .code ⟨"ResultForms$Tabs", "parseLiteral", "()Z"⟩ prog_8_method_6_code 1 (some .boolean)) (by rfl) rfl
def M_Tb_copyFrom : aw_M := (⟨"ResultForms$Table", "copyFrom", "(LResultForms$Table;)V"⟩, prog_7_method_15_code, 3, none)
set_option maxRecDepth 40000 in
theorem c_Tb_copyFrom : Cond.code M_Tb_copyFrom.1 M_Tb_copyFrom.2.1 M_Tb_copyFrom.2.2.1 M_Tb_copyFrom.2.2.2 ∈ aw_tbl := aw_in 1209 (w := .code ⟨"ResultForms$Table", "copyFrom", "(LResultForms$Table;)V"⟩ prog_7_method_15_code 3 none) (by rfl) rfl
def M_Te_forgetFrom : aw_M := (⟨"ResultForms$Terms", "forgetFrom", "(I)V"⟩, prog_9_method_7_code, 2, none)
set_option maxRecDepth 40000 in
theorem c_Te_forgetFrom : Cond.code M_Te_forgetFrom.1 M_Te_forgetFrom.2.1 M_Te_forgetFrom.2.2.1 M_Te_forgetFrom.2.2.2 ∈ aw_tbl := aw_in 1213 (w := .code ⟨"ResultForms$Terms", "forgetFrom", "(I)V"⟩ prog_9_method_7_code 2 none) (by rfl) rfl
def M_RF_hear : aw_M := (⟨"ResultForms", "hear", "(I)I"⟩, prog_1_method_15_code, 3, (some .int))
set_option maxRecDepth 40000 in
theorem c_RF_hear : Cond.code M_RF_hear.1 M_RF_hear.2.1 M_RF_hear.2.2.1 M_RF_hear.2.2.2 ∈ aw_tbl := aw_in 1217 (w := .code ⟨"ResultForms", "hear", "(I)I"⟩ prog_1_method_15_code 3 (some .int)) (by rfl) rfl
def M_Js_parseTruth : aw_M := (⟨"ResultForms$Json", "parseTruth", "()I"⟩, prog_4_method_7_code, 2, (some .int))
set_option maxRecDepth 40000 in
theorem c_Js_parseTruth : Cond.code M_Js_parseTruth.1 M_Js_parseTruth.2.1 M_Js_parseTruth.2.2.1 M_Js_parseTruth.2.2.2 ∈ aw_tbl := aw_in 1221 (w := .code ⟨"ResultForms$Json", "parseTruth", "()I"⟩ prog_4_method_7_code 2 (some .int)) (by rfl) rfl
def M_Sc_truth : aw_M := (⟨"ResultForms$Scanner", "truth", "()I"⟩, prog_6_method_21_code, 1, (some .int))
set_option maxRecDepth 40000 in
theorem c_Sc_truth : Cond.code M_Sc_truth.1 M_Sc_truth.2.1 M_Sc_truth.2.2.1 M_Sc_truth.2.2.2 ∈ aw_tbl := aw_in 1226 (w := .code ⟨"ResultForms$Scanner", "truth", "()I"⟩ prog_6_method_21_code 1 (some .int)) (by rfl) rfl
def M_Xm_parseTruth : aw_M := (⟨"ResultForms$Xml", "parseTruth", "()I"⟩, prog_11_method_9_code, 2, (some .int))
set_option maxRecDepth 40000 in
theorem c_Xm_parseTruth : Cond.code M_Xm_parseTruth.1 M_Xm_parseTruth.2.1 M_Xm_parseTruth.2.2.1 M_Xm_parseTruth.2.2.2 ∈ aw_tbl := aw_in 1234 (w := .code ⟨"ResultForms$Xml", "parseTruth", "()I"⟩ prog_11_method_9_code 2 (some .int)) (by rfl) rfl
def M_RF_keep : aw_M := (⟨"ResultForms", "keep", "()I"⟩, prog_1_method_16_code, 1, (some .int))
set_option maxRecDepth 40000 in
theorem c_RF_keep : Cond.code M_RF_keep.1 M_RF_keep.2.1 M_RF_keep.2.2.1 M_RF_keep.2.2.2 ∈ aw_tbl := aw_in 1239 (w := .code ⟨"ResultForms", "keep", "()I"⟩ prog_1_method_16_code 1 (some .int)) (by rfl) rfl
def M_RF_same : aw_M := (⟨"ResultForms", "same", "(Z)I"⟩, prog_1_method_17_code, 4, (some .int))
set_option maxRecDepth 40000 in
theorem c_RF_same : Cond.code M_RF_same.1 M_RF_same.2.1 M_RF_same.2.2.1 M_RF_same.2.2.2 ∈ aw_tbl := aw_in 1243 (w := .code ⟨"ResultForms", "same", "(Z)I"⟩ prog_1_method_17_code 4 (some .int)) (by rfl) rfl
def M_Tb_hasNamesOf : aw_M := (⟨"ResultForms$Table", "hasNamesOf", "(LResultForms$Table;)Z"⟩, prog_7_method_16_code, 4, (some .boolean))
set_option maxRecDepth 40000 in
theorem c_Tb_hasNamesOf : Cond.code M_Tb_hasNamesOf.1 M_Tb_hasNamesOf.2.1 M_Tb_hasNamesOf.2.2.1 M_Tb_hasNamesOf.2.2.2 ∈ aw_tbl := aw_in 1247 (w := .code ⟨"ResultForms$Table", "hasNamesOf", "(LResultForms$Table;)Z"⟩ prog_7_method_16_code 4 (some .boolean)) (by rfl) rfl
def M_Tb_isAlike : aw_M := (⟨"ResultForms$Table", "isAlike", "(ILResultForms$Table;I)Z"⟩, prog_7_method_17_code, 5, (some .boolean))
set_option maxRecDepth 40000 in
theorem c_Tb_isAlike : Cond.code M_Tb_isAlike.1 M_Tb_isAlike.2.1 M_Tb_isAlike.2.2.1 M_Tb_isAlike.2.2.2 ∈ aw_tbl := aw_in 1251 (w := .code ⟨"ResultForms$Table", "isAlike", "(ILResultForms$Table;I)Z"⟩ prog_7_method_17_code 5 (some .boolean)) (by rfl) rfl
def M_RF_isLacking : aw_M := (⟨"ResultForms", "isLacking", "(I)Z"⟩, prog_1_method_22_code, 2, (some .boolean))
set_option maxRecDepth 40000 in
theorem c_RF_isLacking : Cond.code M_RF_isLacking.1 M_RF_isLacking.2.1 M_RF_isLacking.2.2.1 M_RF_isLacking.2.2.2 ∈ aw_tbl := aw_in 1256 (w := .code ⟨"ResultForms", "isLacking", "(I)Z"⟩ prog_1_method_22_code 2 (some .boolean)) (by rfl) rfl
def M_Tb_countAlike : aw_M := (⟨"ResultForms$Table", "countAlike", "(LResultForms$Table;II)I"⟩, prog_7_method_18_code, 6, (some .int))
set_option maxRecDepth 40000 in
theorem c_Tb_countAlike : Cond.code M_Tb_countAlike.1 M_Tb_countAlike.2.1 M_Tb_countAlike.2.2.1 M_Tb_countAlike.2.2.2 ∈ aw_tbl := aw_in 1260 (w := .code ⟨"ResultForms$Table", "countAlike", "(LResultForms$Table;II)I"⟩ prog_7_method_18_code 6 (some .int)) (by rfl) rfl
def M_RF_lacks : aw_M := (⟨"ResultForms", "lacks", "(I)I"⟩, prog_1_method_18_code, 5, (some .int))
set_option maxRecDepth 40000 in
theorem c_RF_lacks : Cond.code M_RF_lacks.1 M_RF_lacks.2.1 M_RF_lacks.2.2.1 M_RF_lacks.2.2.2 ∈ aw_tbl := aw_in 1265 (w := .code ⟨"ResultForms", "lacks", "(I)I"⟩ prog_1_method_18_code 5 (some .int)) (by rfl) rfl
def M_RF_distinct : aw_M := (⟨"ResultForms", "distinct", "()I"⟩, prog_1_method_19_code, 1, (some .int))
set_option maxRecDepth 40000 in
theorem c_RF_distinct : Cond.code M_RF_distinct.1 M_RF_distinct.2.1 M_RF_distinct.2.2.1 M_RF_distinct.2.2.2 ∈ aw_tbl := aw_in 1269 (w := .code ⟨"ResultForms", "distinct", "()I"⟩ prog_1_method_19_code 1 (some .int)) (by rfl) rfl
def M_Tb_dropRepeated : aw_M := (⟨"ResultForms$Table", "dropRepeated", "()I"⟩, prog_7_method_19_code, 5, (some .int))
set_option maxRecDepth 40000 in
theorem c_Tb_dropRepeated : Cond.code M_Tb_dropRepeated.1 M_Tb_dropRepeated.2.1 M_Tb_dropRepeated.2.2.1 M_Tb_dropRepeated.2.2.2 ∈ aw_tbl := aw_in 1273 (w := .code ⟨"ResultForms$Table", "dropRepeated", "()I"⟩ prog_7_method_19_code 5 (some .int)) (by rfl) rfl
def M_RF_count : aw_M := (⟨"ResultForms", "count", "(I)I"⟩, prog_1_method_20_code, 2, (some .int))
set_option maxRecDepth 40000 in
theorem c_RF_count : Cond.code M_RF_count.1 M_RF_count.2.1 M_RF_count.2.2.1 M_RF_count.2.2.2 ∈ aw_tbl := aw_in 1278 (w := .code ⟨"ResultForms", "count", "(I)I"⟩ prog_1_method_20_code 2 (some .int)) (by rfl) rfl
def M_Mo_init : aw_M := (⟨"ResultFormsModel", "<init>", "()V"⟩, prog_13_method_1_code, 1, none)
set_option maxRecDepth 40000 in
theorem c_Mo_init : Cond.code M_Mo_init.1 M_Mo_init.2.1 M_Mo_init.2.2.1 M_Mo_init.2.2.2 ∈ aw_tbl := aw_in 1283 (w := .code ⟨"ResultFormsModel", "<init>", "()V"⟩ prog_13_method_1_code 1 none) (by rfl) rfl
def M_Mo_type : aw_M := (⟨"ResultFormsModel", "type", "(JI)I"⟩, prog_13_method_7_code, 5, (some .int))
set_option maxRecDepth 40000 in
theorem c_Mo_type : Cond.code M_Mo_type.1 M_Mo_type.2.1 M_Mo_type.2.2.1 M_Mo_type.2.2.2 ∈ aw_tbl := aw_in 1401 (w := .code ⟨"ResultFormsModel", "type", "(JI)I"⟩ prog_13_method_7_code 5 (some .int)) (by rfl) rfl
def M_Mo_in : aw_M := (⟨"ResultFormsModel", "in", "(III)Z"⟩, prog_13_method_2_code, 3, (some .boolean))
set_option maxRecDepth 40000 in
theorem c_Mo_in : Cond.code M_Mo_in.1 M_Mo_in.2.1 M_Mo_in.2.2.1 M_Mo_in.2.2.2 ∈ aw_tbl := aw_in 1404 (w := .code ⟨"ResultFormsModel", "in", "(III)Z"⟩ prog_13_method_2_code 3 (some .boolean)) (by rfl) rfl
def M_Mo_pass : aw_M := (⟨"ResultFormsModel", "pass", "()I"⟩, prog_13_method_8_code, 2, (some .int))
set_option maxRecDepth 40000 in
theorem c_Mo_pass : Cond.code M_Mo_pass.1 M_Mo_pass.2.1 M_Mo_pass.2.2.1 M_Mo_pass.2.2.2 ∈ aw_tbl := aw_in 1409 (w := .code ⟨"ResultFormsModel", "pass", "()I"⟩ prog_13_method_8_code 2 (some .int)) (by rfl) rfl
def M_Mo_term : aw_M := (⟨"ResultFormsModel", "term", "(II)I"⟩, prog_13_method_13_code, 5, (some .int))
set_option maxRecDepth 40000 in
theorem c_Mo_term : Cond.code M_Mo_term.1 M_Mo_term.2.1 M_Mo_term.2.2.1 M_Mo_term.2.2.2 ∈ aw_tbl := aw_in 1413 (w := .code ⟨"ResultFormsModel", "term", "(II)I"⟩ prog_13_method_13_code 5 (some .int)) (by rfl) rfl
def M_Mo_isExtra : aw_M := (⟨"ResultFormsModel", "isExtra", "(II)Z"⟩, prog_13_method_12_code, 2, (some .boolean))
set_option maxRecDepth 40000 in
theorem c_Mo_isExtra : Cond.code M_Mo_isExtra.1 M_Mo_isExtra.2.1 M_Mo_isExtra.2.2.1 M_Mo_isExtra.2.2.2 ∈ aw_tbl := aw_in 1416 (w := .code ⟨"ResultFormsModel", "isExtra", "(II)Z"⟩ prog_13_method_12_code 2 (some .boolean)) (by rfl) rfl
def M_Mo_isOfKind : aw_M := (⟨"ResultFormsModel", "isOfKind", "(I)Z"⟩, prog_13_method_9_code, 5, (some .boolean))
set_option maxRecDepth 40000 in
theorem c_Mo_isOfKind : Cond.code M_Mo_isOfKind.1 M_Mo_isOfKind.2.1 M_Mo_isOfKind.2.2.1 M_Mo_isOfKind.2.2.2 ∈ aw_tbl := aw_in 1420 (w := .code ⟨"ResultFormsModel", "isOfKind", "(I)Z"⟩ prog_13_method_9_code 5 (some .boolean)) (by rfl) rfl
def M_Mo_isNode : aw_M := (⟨"ResultFormsModel", "isNode", "(I)Z"⟩, prog_13_method_6_code, 1, (some .boolean))
set_option maxRecDepth 40000 in
theorem c_Mo_isNode : Cond.code M_Mo_isNode.1 M_Mo_isNode.2.1 M_Mo_isNode.2.2.1 M_Mo_isNode.2.2.2 ∈ aw_tbl := aw_in 1423 (w := .code ⟨"ResultFormsModel", "isNode", "(I)Z"⟩ prog_13_method_6_code 1 (some .boolean)) (by rfl) rfl
def M_Mo_isLetter : aw_M := (⟨"ResultFormsModel", "isLetter", "(I)Z"⟩, prog_13_method_3_code, 1, (some .boolean))
set_option maxRecDepth 40000 in
theorem c_Mo_isLetter : Cond.code M_Mo_isLetter.1 M_Mo_isLetter.2.1 M_Mo_isLetter.2.2.1 M_Mo_isLetter.2.2.2 ∈ aw_tbl := aw_in 1426 (w := .code ⟨"ResultFormsModel", "isLetter", "(I)Z"⟩ prog_13_method_3_code 1 (some .boolean)) (by rfl) rfl
def M_Mo_isDigit : aw_M := (⟨"ResultFormsModel", "isDigit", "(I)Z"⟩, prog_13_method_4_code, 1, (some .boolean))
set_option maxRecDepth 40000 in
theorem c_Mo_isDigit : Cond.code M_Mo_isDigit.1 M_Mo_isDigit.2.1 M_Mo_isDigit.2.2.1 M_Mo_isDigit.2.2.2 ∈ aw_tbl := aw_in 1429 (w := .code ⟨"ResultFormsModel", "isDigit", "(I)Z"⟩ prog_13_method_4_code 1 (some .boolean)) (by rfl) rfl
def M_Mo_isText : aw_M := (⟨"ResultFormsModel", "isText", "(I)Z"⟩, prog_13_method_5_code, 1, (some .boolean))
set_option maxRecDepth 40000 in
theorem c_Mo_isText : Cond.code M_Mo_isText.1 M_Mo_isText.2.1 M_Mo_isText.2.2.1 M_Mo_isText.2.2.2 ∈ aw_tbl := aw_in 1432 (w := .code ⟨"ResultFormsModel", "isText", "(I)Z"⟩ prog_13_method_5_code 1 (some .boolean)) (by rfl) rfl
def M_Mo_find : aw_M := (⟨"ResultFormsModel", "find", "(II)I"⟩, prog_13_method_10_code, 6, (some .int))
set_option maxRecDepth 40000 in
theorem c_Mo_find : Cond.code M_Mo_find.1 M_Mo_find.2.1 M_Mo_find.2.2.1 M_Mo_find.2.2.2 ∈ aw_tbl := aw_in 1436 (w := .code ⟨"ResultFormsModel", "find", "(II)I"⟩ prog_13_method_10_code 6 (some .int)) (by rfl) rfl
def M_Mo_note : aw_M := (⟨"ResultFormsModel", "note", "(II)I"⟩, prog_13_method_11_code, 5, (some .int))
set_option maxRecDepth 40000 in
theorem c_Mo_note : Cond.code M_Mo_note.1 M_Mo_note.2.1 M_Mo_note.2.2.1 M_Mo_note.2.2.2 ∈ aw_tbl := aw_in 1440 (w := .code ⟨"ResultFormsModel", "note", "(II)I"⟩ prog_13_method_11_code 5 (some .int)) (by rfl) rfl
def M_Mo_of : aw_M := (⟨"ResultFormsModel", "of", "(II)I"⟩, prog_13_method_14_code, 3, (some .int))
set_option maxRecDepth 40000 in
theorem c_Mo_of : Cond.code M_Mo_of.1 M_Mo_of.2.1 M_Mo_of.2.2.1 M_Mo_of.2.2.2 ∈ aw_tbl := aw_in 1444 (w := .code ⟨"ResultFormsModel", "of", "(II)I"⟩ prog_13_method_14_code 3 (some .int)) (by rfl) rfl
def M_Mo_variable : aw_M := (⟨"ResultFormsModel", "variable", "()I"⟩, prog_13_method_15_code, 6, (some .int))
set_option maxRecDepth 40000 in
theorem c_Mo_variable : Cond.code M_Mo_variable.1 M_Mo_variable.2.1 M_Mo_variable.2.2.1 M_Mo_variable.2.2.2 ∈ aw_tbl := aw_in 1448 (w := .code ⟨"ResultFormsModel", "variable", "()I"⟩ prog_13_method_15_code 6 (some .int)) (by rfl) rfl
def M_Mo_row : aw_M := (⟨"ResultFormsModel", "row", "()I"⟩, prog_13_method_16_code, 2, (some .int))
set_option maxRecDepth 40000 in
theorem c_Mo_row : Cond.code M_Mo_row.1 M_Mo_row.2.1 M_Mo_row.2.2.1 M_Mo_row.2.2.2 ∈ aw_tbl := aw_in 1452 (w := .code ⟨"ResultFormsModel", "row", "()I"⟩ prog_13_method_16_code 2 (some .int)) (by rfl) rfl
def M_Mo_put : aw_M := (⟨"ResultFormsModel", "put", "(III)I"⟩, prog_13_method_17_code, 5, (some .int))
set_option maxRecDepth 40000 in
theorem c_Mo_put : Cond.code M_Mo_put.1 M_Mo_put.2.1 M_Mo_put.2.2.1 M_Mo_put.2.2.2 ∈ aw_tbl := aw_in 1456 (w := .code ⟨"ResultFormsModel", "put", "(III)I"⟩ prog_13_method_17_code 5 (some .int)) (by rfl) rfl
def M_Mo_clear : aw_M := (⟨"ResultFormsModel", "clear", "()I"⟩, prog_13_method_18_code, 2, (some .int))
set_option maxRecDepth 40000 in
theorem c_Mo_clear : Cond.code M_Mo_clear.1 M_Mo_clear.2.1 M_Mo_clear.2.2.1 M_Mo_clear.2.2.2 ∈ aw_tbl := aw_in 1460 (w := .code ⟨"ResultFormsModel", "clear", "()I"⟩ prog_13_method_18_code 2 (some .int)) (by rfl) rfl
def M_Mo_value : aw_M := (⟨"ResultFormsModel", "value", "(II)I"⟩, prog_13_method_19_code, 3, (some .int))
set_option maxRecDepth 40000 in
theorem c_Mo_value : Cond.code M_Mo_value.1 M_Mo_value.2.1 M_Mo_value.2.2.1 M_Mo_value.2.2.2 ∈ aw_tbl := aw_in 1464 (w := .code ⟨"ResultFormsModel", "value", "(II)I"⟩ prog_13_method_19_code 3 (some .int)) (by rfl) rfl
def M_Mo_write : aw_M := (⟨"ResultFormsModel", "write", "(I)I"⟩, prog_13_method_34_code, 2, (some .int))
set_option maxRecDepth 40000 in
theorem c_Mo_write : Cond.code M_Mo_write.1 M_Mo_write.2.1 M_Mo_write.2.2.1 M_Mo_write.2.2.2 ∈ aw_tbl := aw_in 1468 (w := .code ⟨"ResultFormsModel", "write", "(I)I"⟩ prog_13_method_34_code 2 (some .int)) (by rfl) rfl
def M_Mo_writeBraces : aw_M := (⟨"ResultFormsModel", "writeBraces", "()V"⟩, prog_13_method_25_code, 5, none)
set_option maxRecDepth 40000 in
theorem c_Mo_writeBraces : Cond.code M_Mo_writeBraces.1 M_Mo_writeBraces.2.1 M_Mo_writeBraces.2.2.1 M_Mo_writeBraces.2.2.2 ∈ aw_tbl := aw_in 1472 (w := .code ⟨"ResultFormsModel", "writeBraces", "()V"⟩ prog_13_method_25_code 5 none) (by rfl) rfl
def M_Mo_emit : aw_M := (⟨"ResultFormsModel", "emit", "(JI)V"⟩, prog_13_method_21_code, 5, none)
set_option maxRecDepth 40000 in
theorem c_Mo_emit : Cond.code M_Mo_emit.1 M_Mo_emit.2.1 M_Mo_emit.2.2.1 M_Mo_emit.2.2.2 ∈ aw_tbl := aw_in 1477 (w := .code ⟨"ResultFormsModel", "emit", "(JI)V"⟩ prog_13_method_21_code 5 none) (by rfl) rfl
def M_Mo_put1 : aw_M := (⟨"ResultFormsModel", "put1", "(I)V"⟩, prog_13_method_20_code, 2, none)
set_option maxRecDepth 40000 in
theorem c_Mo_put1 : Cond.code M_Mo_put1.1 M_Mo_put1.2.1 M_Mo_put1.2.2.1 M_Mo_put1.2.2.2 ∈ aw_tbl := aw_in 1481 (w := .code ⟨"ResultFormsModel", "put1", "(I)V"⟩ prog_13_method_20_code 2 none) (by rfl) rfl
def M_Mo_emitName : aw_M := (⟨"ResultFormsModel", "emitName", "(I)V"⟩, prog_13_method_22_code, 3, none)
set_option maxRecDepth 40000 in
theorem c_Mo_emitName : Cond.code M_Mo_emitName.1 M_Mo_emitName.2.1 M_Mo_emitName.2.2.1 M_Mo_emitName.2.2.2 ∈ aw_tbl := aw_in 1489 (w := .code ⟨"ResultFormsModel", "emitName", "(I)V"⟩ prog_13_method_22_code 3 none) (by rfl) rfl
def M_Mo_bindBraces : aw_M := (⟨"ResultFormsModel", "bindBraces", "(I)V"⟩, prog_13_method_26_code, 2, none)
set_option maxRecDepth 40000 in
theorem c_Mo_bindBraces : Cond.code M_Mo_bindBraces.1 M_Mo_bindBraces.2.1 M_Mo_bindBraces.2.2.1 M_Mo_bindBraces.2.2.2 ∈ aw_tbl := aw_in 1500 (w := .code ⟨"ResultFormsModel", "bindBraces", "(I)V"⟩ prog_13_method_26_code 2 none) (by rfl) rfl
def M_Mo_emitText : aw_M := (⟨"ResultFormsModel", "emitText", "(II)V"⟩, prog_13_method_24_code, 5, none)
set_option maxRecDepth 40000 in
theorem c_Mo_emitText : Cond.code M_Mo_emitText.1 M_Mo_emitText.2.1 M_Mo_emitText.2.2.1 M_Mo_emitText.2.2.2 ∈ aw_tbl := aw_in 1510 (w := .code ⟨"ResultFormsModel", "emitText", "(II)V"⟩ prog_13_method_24_code 5 none) (by rfl) rfl
def M_Mo_emitExtra : aw_M := (⟨"ResultFormsModel", "emitExtra", "(I)V"⟩, prog_13_method_23_code, 2, none)
set_option maxRecDepth 40000 in
theorem c_Mo_emitExtra : Cond.code M_Mo_emitExtra.1 M_Mo_emitExtra.2.1 M_Mo_emitExtra.2.2.1 M_Mo_emitExtra.2.2.2 ∈ aw_tbl := aw_in 1522 (w := .code ⟨"ResultFormsModel", "emitExtra", "(I)V"⟩ prog_13_method_23_code 2 none) (by rfl) rfl
def M_Mo_writeTags : aw_M := (⟨"ResultFormsModel", "writeTags", "()V"⟩, prog_13_method_27_code, 4, none)
set_option maxRecDepth 40000 in
theorem c_Mo_writeTags : Cond.code M_Mo_writeTags.1 M_Mo_writeTags.2.1 M_Mo_writeTags.2.2.1 M_Mo_writeTags.2.2.2 ∈ aw_tbl := aw_in 1531 (w := .code ⟨"ResultFormsModel", "writeTags", "()V"⟩ prog_13_method_27_code 4 none) (by rfl) rfl
def M_Mo_bindTags : aw_M := (⟨"ResultFormsModel", "bindTags", "(I)V"⟩, prog_13_method_28_code, 2, none)
set_option maxRecDepth 40000 in
theorem c_Mo_bindTags : Cond.code M_Mo_bindTags.1 M_Mo_bindTags.2.1 M_Mo_bindTags.2.2.1 M_Mo_bindTags.2.2.2 ∈ aw_tbl := aw_in 1546 (w := .code ⟨"ResultFormsModel", "bindTags", "(I)V"⟩ prog_13_method_28_code 2 none) (by rfl) rfl
def M_Mo_writeLines : aw_M := (⟨"ResultFormsModel", "writeLines", "(Z)V"⟩, prog_13_method_32_code, 4, none)
set_option maxRecDepth 40000 in
theorem c_Mo_writeLines : Cond.code M_Mo_writeLines.1 M_Mo_writeLines.2.1 M_Mo_writeLines.2.2.1 M_Mo_writeLines.2.2.2 ∈ aw_tbl := aw_in 1567 (w := .code ⟨"ResultFormsModel", "writeLines", "(Z)V"⟩ prog_13_method_32_code 4 none) (by rfl) rfl
def M_Mo_bindComma : aw_M := (⟨"ResultFormsModel", "bindComma", "(I)V"⟩, prog_13_method_30_code, 2, none)
set_option maxRecDepth 40000 in
theorem c_Mo_bindComma : Cond.code M_Mo_bindComma.1 M_Mo_bindComma.2.1 M_Mo_bindComma.2.2.1 M_Mo_bindComma.2.2.2 ∈ aw_tbl := aw_in 1572 (w := .code ⟨"ResultFormsModel", "bindComma", "(I)V"⟩ prog_13_method_30_code 2 none) (by rfl) rfl
def M_Mo_isQuoted : aw_M := (⟨"ResultFormsModel", "isQuoted", "(I)Z"⟩, prog_13_method_29_code, 7, (some .boolean))
set_option maxRecDepth 40000 in
theorem c_Mo_isQuoted : Cond.code M_Mo_isQuoted.1 M_Mo_isQuoted.2.1 M_Mo_isQuoted.2.2.1 M_Mo_isQuoted.2.2.2 ∈ aw_tbl := aw_in 1577 (w := .code ⟨"ResultFormsModel", "isQuoted", "(I)Z"⟩ prog_13_method_29_code 7 (some .boolean)) (by rfl) rfl
def M_Mo_bindTab : aw_M := (⟨"ResultFormsModel", "bindTab", "(I)V"⟩, prog_13_method_31_code, 2, none)
set_option maxRecDepth 40000 in
theorem c_Mo_bindTab : Cond.code M_Mo_bindTab.1 M_Mo_bindTab.2.1 M_Mo_bindTab.2.2.1 M_Mo_bindTab.2.2.2 ∈ aw_tbl := aw_in 1581 (w := .code ⟨"ResultFormsModel", "bindTab", "(I)V"⟩ prog_13_method_31_code 2 none) (by rfl) rfl
def M_Mo_hand : aw_M := (⟨"ResultFormsModel", "hand", "()I"⟩, prog_13_method_33_code, 2, (some .int))
set_option maxRecDepth 40000 in
theorem c_Mo_hand : Cond.code M_Mo_hand.1 M_Mo_hand.2.1 M_Mo_hand.2.2.1 M_Mo_hand.2.2.2 ∈ aw_tbl := aw_in 1586 (w := .code ⟨"ResultFormsModel", "hand", "()I"⟩ prog_13_method_33_code 2 (some .int)) (by rfl) rfl
def M_Mo_say : aw_M := (⟨"ResultFormsModel", "say", "(IZ)I"⟩, prog_13_method_35_code, 3, (some .int))
set_option maxRecDepth 40000 in
theorem c_Mo_say : Cond.code M_Mo_say.1 M_Mo_say.2.1 M_Mo_say.2.2.1 M_Mo_say.2.2.2 ∈ aw_tbl := aw_in 1590 (w := .code ⟨"ResultFormsModel", "say", "(IZ)I"⟩ prog_13_method_35_code 3 (some .int)) (by rfl) rfl
def M_Mo_at : aw_M := (⟨"ResultFormsModel", "at", "(I)I"⟩, prog_13_method_36_code, 2, (some .int))
set_option maxRecDepth 40000 in
theorem c_Mo_at : Cond.code M_Mo_at.1 M_Mo_at.2.1 M_Mo_at.2.2.1 M_Mo_at.2.2.2 ∈ aw_tbl := aw_in 1603 (w := .code ⟨"ResultFormsModel", "at", "(I)I"⟩ prog_13_method_36_code 2 (some .int)) (by rfl) rfl
def M_Mo_read : aw_M := (⟨"ResultFormsModel", "read", "(I)I"⟩, prog_13_method_75_code, 6, (some .int))
set_option maxRecDepth 40000 in
theorem c_Mo_read : Cond.code M_Mo_read.1 M_Mo_read.2.1 M_Mo_read.2.2.1 M_Mo_read.2.2.2 ∈ aw_tbl := aw_in 1607 (w := .code ⟨"ResultFormsModel", "read", "(I)I"⟩ prog_13_method_75_code 6 (some .int)) (by rfl) rfl
def M_Mo_begin : aw_M := (⟨"ResultFormsModel", "begin", "()V"⟩, prog_13_method_73_code, 1, none)
set_option maxRecDepth 40000 in
theorem c_Mo_begin : Cond.code M_Mo_begin.1 M_Mo_begin.2.1 M_Mo_begin.2.2.1 M_Mo_begin.2.2.2 ∈ aw_tbl := aw_in 1611 (w := .code ⟨"ResultFormsModel", "begin", "()V"⟩ prog_13_method_73_code 1 none) (by rfl) rfl
def M_Mo_readBraces : aw_M := (⟨"ResultFormsModel", "readBraces", "()V"⟩, prog_13_method_60_code, 2, none)
set_option maxRecDepth 40000 in
theorem c_Mo_readBraces : Cond.code M_Mo_readBraces.1 M_Mo_readBraces.2.1 M_Mo_readBraces.2.2.1 M_Mo_readBraces.2.2.2 ∈ aw_tbl := aw_in 1615 (w := .code ⟨"ResultFormsModel", "readBraces", "()V"⟩ prog_13_method_60_code 2 none) (by rfl) rfl
def M_Mo_sign : aw_M := (⟨"ResultFormsModel", "sign", "(I)V"⟩, prog_13_method_43_code, 2, none)
set_option maxRecDepth 40000 in
theorem c_Mo_sign : Cond.code M_Mo_sign.1 M_Mo_sign.2.1 M_Mo_sign.2.2.1 M_Mo_sign.2.2.2 ∈ aw_tbl := aw_in 1619 (w := .code ⟨"ResultFormsModel", "sign", "(I)V"⟩ prog_13_method_43_code 2 none) (by rfl) rfl
def M_Mo_blanks : aw_M := (⟨"ResultFormsModel", "blanks", "()V"⟩, prog_13_method_42_code, 1, none)
set_option maxRecDepth 40000 in
theorem c_Mo_blanks : Cond.code M_Mo_blanks.1 M_Mo_blanks.2.1 M_Mo_blanks.2.2.1 M_Mo_blanks.2.2.2 ∈ aw_tbl := aw_in 1623 (w := .code ⟨"ResultFormsModel", "blanks", "()V"⟩ prog_13_method_42_code 1 none) (by rfl) rfl
def M_Mo_goes : aw_M := (⟨"ResultFormsModel", "goes", "()Z"⟩, prog_13_method_40_code, 1, (some .boolean))
set_option maxRecDepth 40000 in
theorem c_Mo_goes : Cond.code M_Mo_goes.1 M_Mo_goes.2.1 M_Mo_goes.2.2.1 M_Mo_goes.2.2.2 ∈ aw_tbl := aw_in 1627 (w := .code ⟨"ResultFormsModel", "goes", "()Z"⟩ prog_13_method_40_code 1 (some .boolean)) (by rfl) rfl
def M_Mo_peek : aw_M := (⟨"ResultFormsModel", "peek", "()I"⟩, prog_13_method_37_code, 1, (some .int))
set_option maxRecDepth 40000 in
theorem c_Mo_peek : Cond.code M_Mo_peek.1 M_Mo_peek.2.1 M_Mo_peek.2.2.1 M_Mo_peek.2.2.2 ∈ aw_tbl := aw_in 1631 (w := .code ⟨"ResultFormsModel", "peek", "()I"⟩ prog_13_method_37_code 1 (some .int)) (by rfl) rfl
def M_Mo_must : aw_M := (⟨"ResultFormsModel", "must", "(JI)V"⟩, prog_13_method_41_code, 5, none)
set_option maxRecDepth 40000 in
theorem c_Mo_must : Cond.code M_Mo_must.1 M_Mo_must.2.1 M_Mo_must.2.2.1 M_Mo_must.2.2.2 ∈ aw_tbl := aw_in 1635 (w := .code ⟨"ResultFormsModel", "must", "(JI)V"⟩ prog_13_method_41_code 5 none) (by rfl) rfl
def M_Mo_fail : aw_M := (⟨"ResultFormsModel", "fail", "(I)V"⟩, prog_13_method_39_code, 2, none)
set_option maxRecDepth 40000 in
theorem c_Mo_fail : Cond.code M_Mo_fail.1 M_Mo_fail.2.1 M_Mo_fail.2.2.1 M_Mo_fail.2.2.2 ∈ aw_tbl := aw_in 1639 (w := .code ⟨"ResultFormsModel", "fail", "(I)V"⟩ prog_13_method_39_code 2 none) (by rfl) rfl
def M_Mo_quoted : aw_M := (⟨"ResultFormsModel", "quoted", "(JI)V"⟩, prog_13_method_44_code, 4, none)
set_option maxRecDepth 40000 in
theorem c_Mo_quoted : Cond.code M_Mo_quoted.1 M_Mo_quoted.2.1 M_Mo_quoted.2.2.1 M_Mo_quoted.2.2.2 ∈ aw_tbl := aw_in 1644 (w := .code ⟨"ResultFormsModel", "quoted", "(JI)V"⟩ prog_13_method_44_code 4 none) (by rfl) rfl
def M_Mo_headName : aw_M := (⟨"ResultFormsModel", "headName", "()V"⟩, prog_13_method_48_code, 3, none)
set_option maxRecDepth 40000 in
theorem c_Mo_headName : Cond.code M_Mo_headName.1 M_Mo_headName.2.1 M_Mo_headName.2.2.1 M_Mo_headName.2.2.2 ∈ aw_tbl := aw_in 1649 (w := .code ⟨"ResultFormsModel", "headName", "()V"⟩ prog_13_method_48_code 3 none) (by rfl) rfl
def M_Mo_letters : aw_M := (⟨"ResultFormsModel", "letters", "()I"⟩, prog_13_method_46_code, 1, (some .int))
set_option maxRecDepth 40000 in
theorem c_Mo_letters : Cond.code M_Mo_letters.1 M_Mo_letters.2.1 M_Mo_letters.2.2.1 M_Mo_letters.2.2.2 ∈ aw_tbl := aw_in 1653 (w := .code ⟨"ResultFormsModel", "letters", "()I"⟩ prog_13_method_46_code 1 (some .int)) (by rfl) rfl
def M_Mo_variableOf : aw_M := (⟨"ResultFormsModel", "variableOf", "(I)I"⟩, prog_13_method_47_code, 6, (some .int))
set_option maxRecDepth 40000 in
theorem c_Mo_variableOf : Cond.code M_Mo_variableOf.1 M_Mo_variableOf.2.1 M_Mo_variableOf.2.2.1 M_Mo_variableOf.2.2.2 ∈ aw_tbl := aw_in 1657 (w := .code ⟨"ResultFormsModel", "variableOf", "(I)I"⟩ prog_13_method_47_code 6 (some .int)) (by rfl) rfl
def M_Mo_another : aw_M := (⟨"ResultFormsModel", "another", "(I)Z"⟩, prog_13_method_61_code, 2, (some .boolean))
set_option maxRecDepth 40000 in
theorem c_Mo_another : Cond.code M_Mo_another.1 M_Mo_another.2.1 M_Mo_another.2.2.1 M_Mo_another.2.2.2 ∈ aw_tbl := aw_in 1661 (w := .code ⟨"ResultFormsModel", "another", "(I)Z"⟩ prog_13_method_61_code 2 (some .boolean)) (by rfl) rfl
def M_Mo_beginRow : aw_M := (⟨"ResultFormsModel", "beginRow", "(I)V"⟩, prog_13_method_59_code, 3, none)
set_option maxRecDepth 40000 in
theorem c_Mo_beginRow : Cond.code M_Mo_beginRow.1 M_Mo_beginRow.2.1 M_Mo_beginRow.2.2.1 M_Mo_beginRow.2.2.2 ∈ aw_tbl := aw_in 1667 (w := .code ⟨"ResultFormsModel", "beginRow", "(I)V"⟩ prog_13_method_59_code 3 none) (by rfl) rfl
def M_Mo_rowBraces : aw_M := (⟨"ResultFormsModel", "rowBraces", "()V"⟩, prog_13_method_62_code, 5, none)
set_option maxRecDepth 40000 in
theorem c_Mo_rowBraces : Cond.code M_Mo_rowBraces.1 M_Mo_rowBraces.2.1 M_Mo_rowBraces.2.2.1 M_Mo_rowBraces.2.2.2 ∈ aw_tbl := aw_in 1671 (w := .code ⟨"ResultFormsModel", "rowBraces", "()V"⟩ prog_13_method_62_code 5 none) (by rfl) rfl
def M_Mo_rowName : aw_M := (⟨"ResultFormsModel", "rowName", "(I)I"⟩, prog_13_method_49_code, 4, (some .int))
set_option maxRecDepth 40000 in
theorem c_Mo_rowName : Cond.code M_Mo_rowName.1 M_Mo_rowName.2.1 M_Mo_rowName.2.2.1 M_Mo_rowName.2.2.2 ∈ aw_tbl := aw_in 1675 (w := .code ⟨"ResultFormsModel", "rowName", "(I)I"⟩ prog_13_method_49_code 4 (some .int)) (by rfl) rfl
def M_Mo_isWord : aw_M := (⟨"ResultFormsModel", "isWord", "(JII)Z"⟩, prog_13_method_51_code, 7, (some .boolean))
set_option maxRecDepth 40000 in
theorem c_Mo_isWord : Cond.code M_Mo_isWord.1 M_Mo_isWord.2.1 M_Mo_isWord.2.2.1 M_Mo_isWord.2.2.2 ∈ aw_tbl := aw_in 1680 (w := .code ⟨"ResultFormsModel", "isWord", "(JII)Z"⟩ prog_13_method_51_code 7 (some .boolean)) (by rfl) rfl
def M_Mo_valueBraces : aw_M := (⟨"ResultFormsModel", "valueBraces", "(II)V"⟩, prog_13_method_63_code, 6, none)
set_option maxRecDepth 40000 in
theorem c_Mo_valueBraces : Cond.code M_Mo_valueBraces.1 M_Mo_valueBraces.2.1 M_Mo_valueBraces.2.2.1 M_Mo_valueBraces.2.2.2 ∈ aw_tbl := aw_in 1685 (w := .code ⟨"ResultFormsModel", "valueBraces", "(II)V"⟩ prog_13_method_63_code 6 none) (by rfl) rfl
def M_Mo_escapedText : aw_M := (⟨"ResultFormsModel", "escapedText", "(Z)V"⟩, prog_13_method_54_code, 6, none)
set_option maxRecDepth 40000 in
theorem c_Mo_escapedText : Cond.code M_Mo_escapedText.1 M_Mo_escapedText.2.1 M_Mo_escapedText.2.2.1 M_Mo_escapedText.2.2.2 ∈ aw_tbl := aw_in 1689 (w := .code ⟨"ResultFormsModel", "escapedText", "(Z)V"⟩ prog_13_method_54_code 6 none) (by rfl) rfl
def M_Mo_peekNext : aw_M := (⟨"ResultFormsModel", "peekNext", "()I"⟩, prog_13_method_38_code, 1, (some .int))
set_option maxRecDepth 40000 in
theorem c_Mo_peekNext : Cond.code M_Mo_peekNext.1 M_Mo_peekNext.2.1 M_Mo_peekNext.2.2.1 M_Mo_peekNext.2.2.2 ∈ aw_tbl := aw_in 1693 (w := .code ⟨"ResultFormsModel", "peekNext", "()I"⟩ prog_13_method_38_code 1 (some .int)) (by rfl) rfl
def M_Mo_add : aw_M := (⟨"ResultFormsModel", "add", "(II)V"⟩, prog_13_method_53_code, 3, none)
set_option maxRecDepth 40000 in
theorem c_Mo_add : Cond.code M_Mo_add.1 M_Mo_add.2.1 M_Mo_add.2.2.1 M_Mo_add.2.2.2 ∈ aw_tbl := aw_in 1697 (w := .code ⟨"ResultFormsModel", "add", "(II)V"⟩ prog_13_method_53_code 3 none) (by rfl) rfl
def M_Mo_check : aw_M := (⟨"ResultFormsModel", "check", "(II)V"⟩, prog_13_method_57_code, 3, none)
set_option maxRecDepth 40000 in
theorem c_Mo_check : Cond.code M_Mo_check.1 M_Mo_check.2.1 M_Mo_check.2.2.1 M_Mo_check.2.2.2 ∈ aw_tbl := aw_in 1701 (w := .code ⟨"ResultFormsModel", "check", "(II)V"⟩ prog_13_method_57_code 3 none) (by rfl) rfl
def M_Mo_tag : aw_M := (⟨"ResultFormsModel", "tag", "()I"⟩, prog_13_method_50_code, 2, (some .int))
set_option maxRecDepth 40000 in
theorem c_Mo_tag : Cond.code M_Mo_tag.1 M_Mo_tag.2.1 M_Mo_tag.2.2.1 M_Mo_tag.2.2.2 ∈ aw_tbl := aw_in 1707 (w := .code ⟨"ResultFormsModel", "tag", "()I"⟩ prog_13_method_50_code 2 (some .int)) (by rfl) rfl
def M_Mo_typeName : aw_M := (⟨"ResultFormsModel", "typeName", "()I"⟩, prog_13_method_52_code, 3, (some .int))
set_option maxRecDepth 40000 in
theorem c_Mo_typeName : Cond.code M_Mo_typeName.1 M_Mo_typeName.2.1 M_Mo_typeName.2.2.1 M_Mo_typeName.2.2.2 ∈ aw_tbl := aw_in 1711 (w := .code ⟨"ResultFormsModel", "typeName", "()I"⟩ prog_13_method_52_code 3 (some .int)) (by rfl) rfl
def M_Mo_give : aw_M := (⟨"ResultFormsModel", "give", "(III)V"⟩, prog_13_method_58_code, 6, none)
set_option maxRecDepth 40000 in
theorem c_Mo_give : Cond.code M_Mo_give.1 M_Mo_give.2.1 M_Mo_give.2.2.1 M_Mo_give.2.2.2 ∈ aw_tbl := aw_in 1715 (w := .code ⟨"ResultFormsModel", "give", "(III)V"⟩ prog_13_method_58_code 6 none) (by rfl) rfl
def M_Mo_end : aw_M := (⟨"ResultFormsModel", "end", "()V"⟩, prog_13_method_45_code, 1, none)
set_option maxRecDepth 40000 in
theorem c_Mo_end : Cond.code M_Mo_end.1 M_Mo_end.2.1 M_Mo_end.2.2.1 M_Mo_end.2.2.2 ∈ aw_tbl := aw_in 1719 (w := .code ⟨"ResultFormsModel", "end", "()V"⟩ prog_13_method_45_code 1 none) (by rfl) rfl
def M_Mo_readTags : aw_M := (⟨"ResultFormsModel", "readTags", "()V"⟩, prog_13_method_65_code, 2, none)
set_option maxRecDepth 40000 in
theorem c_Mo_readTags : Cond.code M_Mo_readTags.1 M_Mo_readTags.2.1 M_Mo_readTags.2.2.1 M_Mo_readTags.2.2.2 ∈ aw_tbl := aw_in 1723 (w := .code ⟨"ResultFormsModel", "readTags", "()V"⟩ prog_13_method_65_code 2 none) (by rfl) rfl
def M_Mo_isClosing : aw_M := (⟨"ResultFormsModel", "isClosing", "()Z"⟩, prog_13_method_64_code, 1, (some .boolean))
set_option maxRecDepth 40000 in
theorem c_Mo_isClosing : Cond.code M_Mo_isClosing.1 M_Mo_isClosing.2.1 M_Mo_isClosing.2.2.1 M_Mo_isClosing.2.2.2 ∈ aw_tbl := aw_in 1727 (w := .code ⟨"ResultFormsModel", "isClosing", "()Z"⟩ prog_13_method_64_code 1 (some .boolean)) (by rfl) rfl
def M_Mo_valueTags : aw_M := (⟨"ResultFormsModel", "valueTags", "(I)V"⟩, prog_13_method_66_code, 6, none)
set_option maxRecDepth 40000 in
theorem c_Mo_valueTags : Cond.code M_Mo_valueTags.1 M_Mo_valueTags.2.1 M_Mo_valueTags.2.2.1 M_Mo_valueTags.2.2.2 ∈ aw_tbl := aw_in 1731 (w := .code ⟨"ResultFormsModel", "valueTags", "(I)V"⟩ prog_13_method_66_code 6 none) (by rfl) rfl
def M_Mo_tagText : aw_M := (⟨"ResultFormsModel", "tagText", "()V"⟩, prog_13_method_56_code, 4, none)
set_option maxRecDepth 40000 in
theorem c_Mo_tagText : Cond.code M_Mo_tagText.1 M_Mo_tagText.2.1 M_Mo_tagText.2.2.1 M_Mo_tagText.2.2.2 ∈ aw_tbl := aw_in 1739 (w := .code ⟨"ResultFormsModel", "tagText", "()V"⟩ prog_13_method_56_code 4 none) (by rfl) rfl
def M_Mo_isAt : aw_M := (⟨"ResultFormsModel", "isAt", "(JI)Z"⟩, prog_13_method_55_code, 6, (some .boolean))
set_option maxRecDepth 40000 in
theorem c_Mo_isAt : Cond.code M_Mo_isAt.1 M_Mo_isAt.2.1 M_Mo_isAt.2.2.1 M_Mo_isAt.2.2.2 ∈ aw_tbl := aw_in 1743 (w := .code ⟨"ResultFormsModel", "isAt", "(JI)Z"⟩ prog_13_method_55_code 6 (some .boolean)) (by rfl) rfl
def M_Mo_readLines : aw_M := (⟨"ResultFormsModel", "readLines", "(Z)V"⟩, prog_13_method_68_code, 6, none)
set_option maxRecDepth 40000 in
theorem c_Mo_readLines : Cond.code M_Mo_readLines.1 M_Mo_readLines.2.1 M_Mo_readLines.2.2.1 M_Mo_readLines.2.2.2 ∈ aw_tbl := aw_in 1748 (w := .code ⟨"ResultFormsModel", "readLines", "(Z)V"⟩ prog_13_method_68_code 6 none) (by rfl) rfl
def M_Mo_lineEnd : aw_M := (⟨"ResultFormsModel", "lineEnd", "(Z)V"⟩, prog_13_method_67_code, 2, none)
set_option maxRecDepth 40000 in
theorem c_Mo_lineEnd : Cond.code M_Mo_lineEnd.1 M_Mo_lineEnd.2.1 M_Mo_lineEnd.2.2.1 M_Mo_lineEnd.2.2.2 ∈ aw_tbl := aw_in 1752 (w := .code ⟨"ResultFormsModel", "lineEnd", "(Z)V"⟩ prog_13_method_67_code 2 none) (by rfl) rfl
def M_Mo_commaValue : aw_M := (⟨"ResultFormsModel", "commaValue", "(I)V"⟩, prog_13_method_70_code, 4, none)
set_option maxRecDepth 40000 in
theorem c_Mo_commaValue : Cond.code M_Mo_commaValue.1 M_Mo_commaValue.2.1 M_Mo_commaValue.2.2.1 M_Mo_commaValue.2.2.2 ∈ aw_tbl := aw_in 1758 (w := .code ⟨"ResultFormsModel", "commaValue", "(I)V"⟩ prog_13_method_70_code 4 none) (by rfl) rfl
def M_Mo_commaText : aw_M := (⟨"ResultFormsModel", "commaText", "()V"⟩, prog_13_method_71_code, 3, none)
set_option maxRecDepth 40000 in
theorem c_Mo_commaText : Cond.code M_Mo_commaText.1 M_Mo_commaText.2.1 M_Mo_commaText.2.2.1 M_Mo_commaText.2.2.2 ∈ aw_tbl := aw_in 1762 (w := .code ⟨"ResultFormsModel", "commaText", "()V"⟩ prog_13_method_71_code 3 none) (by rfl) rfl
def M_Mo_blankText : aw_M := (⟨"ResultFormsModel", "blankText", "()V"⟩, prog_13_method_69_code, 3, none)
set_option maxRecDepth 40000 in
theorem c_Mo_blankText : Cond.code M_Mo_blankText.1 M_Mo_blankText.2.1 M_Mo_blankText.2.2.1 M_Mo_blankText.2.2.2 ∈ aw_tbl := aw_in 1766 (w := .code ⟨"ResultFormsModel", "blankText", "()V"⟩ prog_13_method_69_code 3 none) (by rfl) rfl
def M_Mo_tabValue : aw_M := (⟨"ResultFormsModel", "tabValue", "(I)V"⟩, prog_13_method_72_code, 5, none)
set_option maxRecDepth 40000 in
theorem c_Mo_tabValue : Cond.code M_Mo_tabValue.1 M_Mo_tabValue.2.1 M_Mo_tabValue.2.2.1 M_Mo_tabValue.2.2.2 ∈ aw_tbl := aw_in 1770 (w := .code ⟨"ResultFormsModel", "tabValue", "(I)V"⟩ prog_13_method_72_code 5 none) (by rfl) rfl
def M_Mo_faulty : aw_M := (⟨"ResultFormsModel", "faulty", "()I"⟩, prog_13_method_74_code, 1, (some .int))
set_option maxRecDepth 40000 in
theorem c_Mo_faulty : Cond.code M_Mo_faulty.1 M_Mo_faulty.2.1 M_Mo_faulty.2.2.1 M_Mo_faulty.2.2.2 ∈ aw_tbl := aw_in 1774 (w := .code ⟨"ResultFormsModel", "faulty", "()I"⟩ prog_13_method_74_code 1 (some .int)) (by rfl) rfl
def M_Mo_hear : aw_M := (⟨"ResultFormsModel", "hear", "(I)I"⟩, prog_13_method_76_code, 3, (some .int))
set_option maxRecDepth 40000 in
theorem c_Mo_hear : Cond.code M_Mo_hear.1 M_Mo_hear.2.1 M_Mo_hear.2.2.1 M_Mo_hear.2.2.2 ∈ aw_tbl := aw_in 1778 (w := .code ⟨"ResultFormsModel", "hear", "(I)I"⟩ prog_13_method_76_code 3 (some .int)) (by rfl) rfl
def M_Mo_keep : aw_M := (⟨"ResultFormsModel", "keep", "()I"⟩, prog_13_method_77_code, 3, (some .int))
set_option maxRecDepth 40000 in
theorem c_Mo_keep : Cond.code M_Mo_keep.1 M_Mo_keep.2.1 M_Mo_keep.2.2.1 M_Mo_keep.2.2.2 ∈ aw_tbl := aw_in 1783 (w := .code ⟨"ResultFormsModel", "keep", "()I"⟩ prog_13_method_77_code 3 (some .int)) (by rfl) rfl
def M_Mo_same : aw_M := (⟨"ResultFormsModel", "same", "(Z)I"⟩, prog_13_method_80_code, 4, (some .int))
set_option maxRecDepth 40000 in
theorem c_Mo_same : Cond.code M_Mo_same.1 M_Mo_same.2.1 M_Mo_same.2.2.1 M_Mo_same.2.2.2 ∈ aw_tbl := aw_in 1787 (w := .code ⟨"ResultFormsModel", "same", "(Z)I"⟩ prog_13_method_80_code 4 (some .int)) (by rfl) rfl
def M_Mo_areNames : aw_M := (⟨"ResultFormsModel", "areNames", "()Z"⟩, prog_13_method_78_code, 4, (some .boolean))
set_option maxRecDepth 40000 in
theorem c_Mo_areNames : Cond.code M_Mo_areNames.1 M_Mo_areNames.2.1 M_Mo_areNames.2.2.1 M_Mo_areNames.2.2.2 ∈ aw_tbl := aw_in 1791 (w := .code ⟨"ResultFormsModel", "areNames", "()Z"⟩ prog_13_method_78_code 4 (some .boolean)) (by rfl) rfl
def M_Mo_isAlike : aw_M := (⟨"ResultFormsModel", "isAlike", "(II)Z"⟩, prog_13_method_79_code, 5, (some .boolean))
set_option maxRecDepth 40000 in
theorem c_Mo_isAlike : Cond.code M_Mo_isAlike.1 M_Mo_isAlike.2.1 M_Mo_isAlike.2.2.1 M_Mo_isAlike.2.2.2 ∈ aw_tbl := aw_in 1795 (w := .code ⟨"ResultFormsModel", "isAlike", "(II)Z"⟩ prog_13_method_79_code 5 (some .boolean)) (by rfl) rfl
def M_Mo_lacks : aw_M := (⟨"ResultFormsModel", "lacks", "(I)I"⟩, prog_13_method_81_code, 6, (some .int))
set_option maxRecDepth 40000 in
theorem c_Mo_lacks : Cond.code M_Mo_lacks.1 M_Mo_lacks.2.1 M_Mo_lacks.2.2.1 M_Mo_lacks.2.2.2 ∈ aw_tbl := aw_in 1799 (w := .code ⟨"ResultFormsModel", "lacks", "(I)I"⟩ prog_13_method_81_code 6 (some .int)) (by rfl) rfl
def M_Mo_distinct : aw_M := (⟨"ResultFormsModel", "distinct", "()I"⟩, prog_13_method_82_code, 7, (some .int))
set_option maxRecDepth 40000 in
theorem c_Mo_distinct : Cond.code M_Mo_distinct.1 M_Mo_distinct.2.1 M_Mo_distinct.2.2.1 M_Mo_distinct.2.2.2 ∈ aw_tbl := aw_in 1804 (w := .code ⟨"ResultFormsModel", "distinct", "()I"⟩ prog_13_method_82_code 7 (some .int)) (by rfl) rfl
def M_Mo_count : aw_M := (⟨"ResultFormsModel", "count", "(I)I"⟩, prog_13_method_83_code, 2, (some .int))
set_option maxRecDepth 40000 in
theorem c_Mo_count : Cond.code M_Mo_count.1 M_Mo_count.2.1 M_Mo_count.2.2.1 M_Mo_count.2.2.2 ∈ aw_tbl := aw_in 1808 (w := .code ⟨"ResultFormsModel", "count", "(I)I"⟩ prog_13_method_83_code 2 (some .int)) (by rfl) rfl
def M_Lw_law : aw_M := (x, code, maxLocals, ret)
