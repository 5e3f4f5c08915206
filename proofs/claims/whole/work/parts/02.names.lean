abbrev aw_M : Type := MethodName × ByteArray × Nat × Option FieldType
def aw_dec (c : ByteArray) (rows : List (Nat × Instr × Nat)) : Bool := rows.all (fun r => match decode c r.1 with | .ok x => decide (x = r.2) | .error _ => false)
theorem aw_d {c : ByteArray} {rows : List (Nat × Instr × Nat)} (h : aw_dec c rows = true) (i : Nat) {pc n : Nat} {ins : Instr} (hi : rows[i]? = some (pc, ins, n)) : decode c pc = .ok (ins, n) := by
  have h1 := List.all_eq_true.mp h _ (List.mem_of_getElem? hi)
  dsimp only at h1
  split at h1
  · next x hx => rw [hx, of_decide_eq_true h1]
  · cases h1
def T_By : u_T := fun k => match k with
  | 0 => ("ResultForms$Bytes", "bytes", "[I", true)
  | 1 => ("ResultForms$Bytes", "length", "I", false)
  | _ => ("ResultForms$Bytes", "over", "Z", false)
def ty_By : Nat → FieldType := fun k => match k with
  | 0 => .array .int
  | 1 => .int
  | _ => .boolean
def T_Tx : u_T := fun k => match k with
  | 0 => ("ResultForms$Text", "bytes", "[I", true)
  | _ => ("ResultForms$Text", "length", "I", false)
def ty_Tx : Nat → FieldType := fun k => match k with
  | 0 => .array .int
  | _ => .int
def T_Te : u_T := fun k => match k with
  | 0 => ("ResultForms$Terms", "kinds", "[I", true)
  | 1 => ("ResultForms$Terms", "extras", "[I", true)
  | 2 => ("ResultForms$Terms", "lengths", "[I", true)
  | 3 => ("ResultForms$Terms", "bytes", "[I", true)
  | _ => ("ResultForms$Terms", "size", "I", false)
def ty_Te : Nat → FieldType := fun k => match k with
  | 0 => .array .int
  | 1 => .array .int
  | 2 => .array .int
  | 3 => .array .int
  | _ => .int
def T_Tb : u_T := fun k => match k with
  | 0 => ("ResultForms$Table", "names", "[I", true)
  | 1 => ("ResultForms$Table", "nameLengths", "[I", true)
  | 2 => ("ResultForms$Table", "cells", "[I", true)
  | 3 => ("ResultForms$Table", "variables", "I", false)
  | _ => ("ResultForms$Table", "rows", "I", false)
def ty_Tb : Nat → FieldType := fun k => match k with
  | 0 => .array .int
  | 1 => .array .int
  | 2 => .array .int
  | 3 => .int
  | _ => .int
def T_Sc : u_T := fun k => match k with
  | 0 => ("ResultForms$Scanner", "tape", "LResultForms$Bytes;", true)
  | 1 => ("ResultForms$Scanner", "place", "I", false)
  | 2 => ("ResultForms$Scanner", "fault", "I", false)
  | 3 => ("ResultForms$Scanner", "wordFrom", "I", false)
  | 4 => ("ResultForms$Scanner", "wordLength", "I", false)
  | 5 => ("ResultForms$Scanner", "kind", "I", false)
  | 6 => ("ResultForms$Scanner", "extra", "I", false)
  | _ => ("ResultForms$Scanner", "text", "LResultForms$Text;", true)
def ty_Sc : Nat → FieldType := fun k => match k with
  | 0 => .object "ResultForms$Bytes"
  | 1 => .int
  | 2 => .int
  | 3 => .int
  | 4 => .int
  | 5 => .int
  | 6 => .int
  | _ => .object "ResultForms$Text"
def T_Js : u_T := fun k => match k with
  | 0 => ("ResultForms$Json", "in", "LResultForms$Scanner;", true)
  | 1 => ("ResultForms$Json", "out", "LResultForms$Bytes;", true)
  | _ => ("ResultForms$Json", "terms", "LResultForms$Terms;", true)
def ty_Js : Nat → FieldType := fun k => match k with
  | 0 => .object "ResultForms$Scanner"
  | 1 => .object "ResultForms$Bytes"
  | _ => .object "ResultForms$Terms"
def T_Xm : u_T := fun k => match k with
  | 0 => ("ResultForms$Xml", "in", "LResultForms$Scanner;", true)
  | 1 => ("ResultForms$Xml", "out", "LResultForms$Bytes;", true)
  | _ => ("ResultForms$Xml", "terms", "LResultForms$Terms;", true)
def ty_Xm : Nat → FieldType := fun k => match k with
  | 0 => .object "ResultForms$Scanner"
  | 1 => .object "ResultForms$Bytes"
  | _ => .object "ResultForms$Terms"
def T_Cm : u_T := fun k => match k with
  | 0 => ("ResultForms$Lines", "in", "LResultForms$Scanner;", true)
  | 1 => ("ResultForms$Lines", "out", "LResultForms$Bytes;", true)
  | 2 => ("ResultForms$Lines", "terms", "LResultForms$Terms;", true)
  | 3 => ("ResultForms$Lines", "mark", "Ljava/lang/String;", true)
  | 4 => ("ResultForms$Lines", "between", "C", true)
  | _ => ("ResultForms$Lines", "lineEnd", "Ljava/lang/String;", true)
def ty_Cm : Nat → FieldType := fun k => match k with
  | 0 => .object "ResultForms$Scanner"
  | 1 => .object "ResultForms$Bytes"
  | 2 => .object "ResultForms$Terms"
  | 3 => .object "java/lang/String"
  | 4 => .char
  | _ => .object "java/lang/String"
def T_Ta : u_T := fun k => match k with
  | 0 => ("ResultForms$Lines", "in", "LResultForms$Scanner;", true)
  | 1 => ("ResultForms$Lines", "out", "LResultForms$Bytes;", true)
  | 2 => ("ResultForms$Lines", "terms", "LResultForms$Terms;", true)
  | 3 => ("ResultForms$Lines", "mark", "Ljava/lang/String;", true)
  | 4 => ("ResultForms$Lines", "between", "C", true)
  | _ => ("ResultForms$Lines", "lineEnd", "Ljava/lang/String;", true)
def ty_Ta : Nat → FieldType := fun k => match k with
  | 0 => .object "ResultForms$Scanner"
  | 1 => .object "ResultForms$Bytes"
  | 2 => .object "ResultForms$Terms"
  | 3 => .object "java/lang/String"
  | 4 => .char
  | _ => .object "java/lang/String"
def T_RF : u_T := fun k => match k with
  | 0 => ("ResultForms", "tape", "LResultForms$Bytes;", true)
  | 1 => ("ResultForms", "out", "LResultForms$Bytes;", true)
  | 2 => ("ResultForms", "sheet", "LResultForms$Bytes;", true)
  | 3 => ("ResultForms", "typed", "LResultForms$Text;", true)
  | 4 => ("ResultForms", "terms", "LResultForms$Terms;", true)
  | 5 => ("ResultForms", "table", "LResultForms$Table;", true)
  | 6 => ("ResultForms", "draft", "LResultForms$Table;", true)
  | 7 => ("ResultForms", "kept", "LResultForms$Table;", true)
  | 8 => ("ResultForms", "hasKept", "Z", false)
  | 9 => ("ResultForms", "in", "LResultForms$Scanner;", true)
  | 10 => ("ResultForms", "json", "LResultForms$Json;", true)
  | 11 => ("ResultForms", "xml", "LResultForms$Xml;", true)
  | 12 => ("ResultForms", "commas", "LResultForms$Commas;", true)
  | _ => ("ResultForms", "tabs", "LResultForms$Tabs;", true)
def ty_RF : Nat → FieldType := fun k => match k with
  | 0 => .object "ResultForms$Bytes"
  | 1 => .object "ResultForms$Bytes"
  | 2 => .object "ResultForms$Bytes"
  | 3 => .object "ResultForms$Text"
  | 4 => .object "ResultForms$Terms"
  | 5 => .object "ResultForms$Table"
  | 6 => .object "ResultForms$Table"
  | 7 => .object "ResultForms$Table"
  | 8 => .boolean
  | 9 => .object "ResultForms$Scanner"
  | 10 => .object "ResultForms$Json"
  | 11 => .object "ResultForms$Xml"
  | 12 => .object "ResultForms$Commas"
  | _ => .object "ResultForms$Tabs"
def T_Mo : u_T := fun k => match k with
  | 0 => ("ResultFormsModel", "tapeMany", "I", false)
  | 1 => ("ResultFormsModel", "tape", "[I", true)
  | 2 => ("ResultFormsModel", "outMany", "I", false)
  | 3 => ("ResultFormsModel", "out", "[I", true)
  | 4 => ("ResultFormsModel", "draftMany", "I", false)
  | 5 => ("ResultFormsModel", "draft", "[I", true)
  | 6 => ("ResultFormsModel", "terms", "I", false)
  | 7 => ("ResultFormsModel", "kinds", "[I", true)
  | 8 => ("ResultFormsModel", "extras", "[I", true)
  | 9 => ("ResultFormsModel", "sizes", "[I", true)
  | 10 => ("ResultFormsModel", "texts", "[I", true)
  | 11 => ("ResultFormsModel", "variables", "I", false)
  | 12 => ("ResultFormsModel", "nameSizes", "[I", true)
  | 13 => ("ResultFormsModel", "names", "[I", true)
  | 14 => ("ResultFormsModel", "rows", "I", false)
  | 15 => ("ResultFormsModel", "cells", "[I", true)
  | 16 => ("ResultFormsModel", "isKept", "Z", false)
  | 17 => ("ResultFormsModel", "keptVariables", "I", false)
  | 18 => ("ResultFormsModel", "keptSizes", "[I", true)
  | 19 => ("ResultFormsModel", "keptNames", "[I", true)
  | 20 => ("ResultFormsModel", "keptRows", "I", false)
  | 21 => ("ResultFormsModel", "keptCells", "[I", true)
  | 22 => ("ResultFormsModel", "taken", "[Z", true)
  | 23 => ("ResultFormsModel", "newVariables", "I", false)
  | 24 => ("ResultFormsModel", "newSizes", "[I", true)
  | 25 => ("ResultFormsModel", "newNames", "[I", true)
  | 26 => ("ResultFormsModel", "newRows", "I", false)
  | 27 => ("ResultFormsModel", "newKinds", "[I", true)
  | 28 => ("ResultFormsModel", "newExtras", "[I", true)
  | 29 => ("ResultFormsModel", "newLengths", "[I", true)
  | 30 => ("ResultFormsModel", "newTexts", "[I", true)
  | 31 => ("ResultFormsModel", "at", "I", false)
  | 32 => ("ResultFormsModel", "fault", "I", false)
  | 33 => ("ResultFormsModel", "from", "I", false)
  | 34 => ("ResultFormsModel", "size", "I", false)
  | 35 => ("ResultFormsModel", "text", "[I", true)
  | _ => ("ResultFormsModel", "order", "[I", true)
def ty_Mo : Nat → FieldType := fun k => match k with
  | 0 => .int
  | 1 => .array .int
  | 2 => .int
  | 3 => .array .int
  | 4 => .int
  | 5 => .array .int
  | 6 => .int
  | 7 => .array .int
  | 8 => .array .int
  | 9 => .array .int
  | 10 => .array .int
  | 11 => .int
  | 12 => .array .int
  | 13 => .array .int
  | 14 => .int
  | 15 => .array .int
  | 16 => .boolean
  | 17 => .int
  | 18 => .array .int
  | 19 => .array .int
  | 20 => .int
  | 21 => .array .int
  | 22 => .array .boolean
  | 23 => .int
  | 24 => .array .int
  | 25 => .array .int
  | 26 => .int
  | 27 => .array .int
  | 28 => .array .int
  | 29 => .array .int
  | 30 => .array .int
  | 31 => .int
  | 32 => .int
  | 33 => .int
  | 34 => .int
  | 35 => .array .int
  | _ => .array .int
abbrev vwCl : List vw_C := [("ResultForms$Bytes", T_By, 3), ("ResultForms$Text", T_Tx, 2), ("ResultForms$Terms", T_Te, 5), ("ResultForms$Table", T_Tb, 5), ("ResultForms$Scanner", T_Sc, 8), ("ResultForms$Json", T_Js, 3), ("ResultForms$Xml", T_Xm, 3), ("ResultForms$Commas", T_Cm, 6), ("ResultForms$Tabs", T_Ta, 6), ("ResultForms", T_RF, 14), ("ResultFormsModel", T_Mo, 37)]
abbrev aw_TY : List FieldType := [.int, .boolean]
theorem in_By : ∀ w ∈ u_ws "ResultForms$Bytes" T_By 3, w ∈ aw_tbl := aw_inL [132, 134, 136] (by decide +kernel) (by decide +kernel)
theorem ok_By : ∀ k, k < 3 → parseFieldDescriptor (T_By k).2.2.1 = some (ty_By k) := by decide +kernel
theorem nm_By : ∀ a, a < 3 → ∀ b, b < 3 → a ≠ b → (T_By a).2.1 ≠ (T_By b).2.1 := by decide +kernel
theorem in_Tx : ∀ w ∈ u_ws "ResultForms$Text" T_Tx 2, w ∈ aw_tbl := aw_inL [149, 151] (by decide +kernel) (by decide +kernel)
theorem ok_Tx : ∀ k, k < 2 → parseFieldDescriptor (T_Tx k).2.2.1 = some (ty_Tx k) := by decide +kernel
theorem nm_Tx : ∀ a, a < 2 → ∀ b, b < 2 → a ≠ b → (T_Tx a).2.1 ≠ (T_Tx b).2.1 := by decide +kernel
theorem in_Te : ∀ w ∈ u_ws "ResultForms$Terms" T_Te 5, w ∈ aw_tbl := aw_inL [166, 168, 170, 172, 174] (by decide +kernel) (by decide +kernel)
theorem ok_Te : ∀ k, k < 5 → parseFieldDescriptor (T_Te k).2.2.1 = some (ty_Te k) := by decide +kernel
theorem nm_Te : ∀ a, a < 5 → ∀ b, b < 5 → a ≠ b → (T_Te a).2.1 ≠ (T_Te b).2.1 := by decide +kernel
theorem in_Tb : ∀ w ∈ u_ws "ResultForms$Table" T_Tb 5, w ∈ aw_tbl := aw_inL [197, 199, 201, 203, 205] (by decide +kernel) (by decide +kernel)
theorem ok_Tb : ∀ k, k < 5 → parseFieldDescriptor (T_Tb k).2.2.1 = some (ty_Tb k) := by decide +kernel
theorem nm_Tb : ∀ a, a < 5 → ∀ b, b < 5 → a ≠ b → (T_Tb a).2.1 ≠ (T_Tb b).2.1 := by decide +kernel
theorem in_Sc : ∀ w ∈ u_ws "ResultForms$Scanner" T_Sc 8, w ∈ aw_tbl := aw_inL [252, 254, 256, 258, 260, 262, 264, 266] (by decide +kernel) (by decide +kernel)
theorem ok_Sc : ∀ k, k < 8 → parseFieldDescriptor (T_Sc k).2.2.1 = some (ty_Sc k) := by decide +kernel
theorem nm_Sc : ∀ a, a < 8 → ∀ b, b < 8 → a ≠ b → (T_Sc a).2.1 ≠ (T_Sc b).2.1 := by decide +kernel
theorem in_Js : ∀ w ∈ u_ws "ResultForms$Json" T_Js 3, w ∈ aw_tbl := aw_inL [278, 280, 282] (by decide +kernel) (by decide +kernel)
theorem ok_Js : ∀ k, k < 3 → parseFieldDescriptor (T_Js k).2.2.1 = some (ty_Js k) := by decide +kernel
theorem nm_Js : ∀ a, a < 3 → ∀ b, b < 3 → a ≠ b → (T_Js a).2.1 ≠ (T_Js b).2.1 := by decide +kernel
theorem in_Xm : ∀ w ∈ u_ws "ResultForms$Xml" T_Xm 3, w ∈ aw_tbl := aw_inL [294, 296, 298] (by decide +kernel) (by decide +kernel)
theorem ok_Xm : ∀ k, k < 3 → parseFieldDescriptor (T_Xm k).2.2.1 = some (ty_Xm k) := by decide +kernel
theorem nm_Xm : ∀ a, a < 3 → ∀ b, b < 3 → a ≠ b → (T_Xm a).2.1 ≠ (T_Xm b).2.1 := by decide +kernel
theorem in_Cm : ∀ w ∈ u_ws "ResultForms$Commas" T_Cm 6, w ∈ aw_tbl := aw_inL [330, 332, 334, 336, 338, 340] (by decide +kernel) (by decide +kernel)
theorem ok_Cm : ∀ k, k < 6 → parseFieldDescriptor (T_Cm k).2.2.1 = some (ty_Cm k) := by decide +kernel
theorem nm_Cm : ∀ a, a < 6 → ∀ b, b < 6 → a ≠ b → (T_Cm a).2.1 ≠ (T_Cm b).2.1 := by decide +kernel
theorem in_Ta : ∀ w ∈ u_ws "ResultForms$Tabs" T_Ta 6, w ∈ aw_tbl := aw_inL [352, 353, 354, 355, 356, 357] (by decide +kernel) (by decide +kernel)
theorem ok_Ta : ∀ k, k < 6 → parseFieldDescriptor (T_Ta k).2.2.1 = some (ty_Ta k) := by decide +kernel
theorem nm_Ta : ∀ a, a < 6 → ∀ b, b < 6 → a ≠ b → (T_Ta a).2.1 ≠ (T_Ta b).2.1 := by decide +kernel
theorem in_RF : ∀ w ∈ u_ws "ResultForms" T_RF 14, w ∈ aw_tbl := aw_inL [373, 375, 377, 379, 381, 383, 385, 387, 389, 391, 393, 395, 397, 399] (by decide +kernel) (by decide +kernel)
theorem ok_RF : ∀ k, k < 14 → parseFieldDescriptor (T_RF k).2.2.1 = some (ty_RF k) := by decide +kernel
theorem nm_RF : ∀ a, a < 14 → ∀ b, b < 14 → a ≠ b → (T_RF a).2.1 ≠ (T_RF b).2.1 := by decide +kernel
theorem in_Mo : ∀ w ∈ u_ws "ResultFormsModel" T_Mo 37, w ∈ aw_tbl := aw_inL [1322, 1324, 1326, 1328, 1330, 1332, 1334, 1336, 1338, 1340, 1342, 1344, 1346, 1348, 1350, 1352, 1354, 1356, 1358, 1360, 1362, 1364, 1366, 1368, 1370, 1372, 1374, 1376, 1378, 1380, 1382, 1384, 1386, 1388, 1390, 1392, 1394] (by decide +kernel) (by decide +kernel)
theorem ok_Mo : ∀ k, k < 37 → parseFieldDescriptor (T_Mo k).2.2.1 = some (ty_Mo k) := by decide +kernel
theorem nm_Mo : ∀ a, a < 37 → ∀ b, b < 37 → a ≠ b → (T_Mo a).2.1 ≠ (T_Mo b).2.1 := by decide +kernel
/-- the text constants: the constant pool entry of a class, its text, its number -/
def aw_ldc : List (String × Nat × String × Nat) := [("ResultForms$Commas", 3, "", 0), ("ResultForms$Commas", 5, "\r\n", 1), ("ResultForms$Tabs", 3, "?", 2), ("ResultForms$Tabs", 5, "\n", 3), ("ResultForms", 249, "\"<>\\^`{|}", 4), ("ResultForms$Json", 39, "{\"head\":{\"vars\":[", 5), ("ResultForms$Json", 51, "]},\"results\":{\"bindings\":[", 6), ("ResultForms$Json", 77, ":{\"type\":\"", 7), ("ResultForms$Json", 79, "uri", 8), ("ResultForms$Json", 81, "bnode", 9), ("ResultForms$Json", 83, "literal", 10), ("ResultForms$Json", 85, "\",\"value\":\"", 11), ("ResultForms$Terms", 64, "\\\"", 12), ("ResultForms$Terms", 70, "\\\\", 13), ("ResultForms$Terms", 72, "\\t", 14), ("ResultForms$Terms", 74, "\\n", 15), ("ResultForms$Terms", 76, "\\\x72", 16), ("ResultForms$Json", 90, "\",\"xml:lang\":\"", 17), ("ResultForms$Json", 92, "\",\"datatype\":\"", 18), ("ResultForms", 256, "whole", 19), ("ResultForms", 258, "real", 20), ("ResultForms", 260, "truth", 21), ("ResultForms", 262, "date", 22), ("ResultForms$Json", 97, "\"}", 23), ("ResultForms$Json", 59, "]}}", 24), ("ResultForms$Xml", 37, "<sparql><head>", 25), ("ResultForms$Xml", 45, "<variable name=\"", 26), ("ResultForms$Xml", 51, "\"/>", 27), ("ResultForms$Xml", 53, "</head><results>", 28), ("ResultForms$Xml", 64, "<result>", 29), ("ResultForms$Xml", 70, "<binding name=\"", 30), ("ResultForms$Xml", 72, "\">", 31), ("ResultForms$Xml", 108, "<uri", 32), ("ResultForms$Xml", 110, "<bnode", 33), ("ResultForms$Xml", 112, "<literal", 34), ("ResultForms$Xml", 92, " xml:lang=\"", 35), ("ResultForms$Xml", 94, " datatype=\"", 36), ("ResultForms$Xml", 126, "&amp;", 37), ("ResultForms$Xml", 128, "&lt;", 38), ("ResultForms$Xml", 130, "&gt;", 39), ("ResultForms$Xml", 132, "&#13;", 40), ("ResultForms$Xml", 114, "</uri>", 41), ("ResultForms$Xml", 116, "</bnode>", 42), ("ResultForms$Xml", 118, "</literal>", 43), ("ResultForms$Xml", 78, "</binding>", 44), ("ResultForms$Xml", 80, "</result>", 45), ("ResultForms$Xml", 62, "</results></sparql>", 46), ("ResultForms$Commas", 29, "_:", 47), ("ResultForms$Tabs", 25, "<", 48), ("ResultForms$Tabs", 27, ">", 49), ("ResultForms$Tabs", 33, "_:", 50), ("ResultForms$Tabs", 35, "", 51), ("ResultForms$Tabs", 37, "\"", 52), ("ResultForms$Tabs", 39, "\"@", 53), ("ResultForms$Tabs", 49, "\"^^", 54), ("ResultForms$Json", 23, "{\"head\":{},\"boolean\":", 55), ("ResultForms", 264, "true", 56), ("ResultForms", 266, "false", 57), ("ResultForms$Xml", 23, "<sparql><head></head><boolean>", 58), ("ResultForms$Xml", 35, "</boolean></sparql>", 59), ("ResultForms$Json", 117, " { \"head\" : { \"vars\" : [ ", 60), ("ResultForms$Json", 134, " \"", 61), ("ResultForms$Json", 139, "\" ", 62), ("ResultForms$Json", 141, "]", 63), ("ResultForms$Json", 123, " } , \"results\" : { \"bindings\" : [ ", 64), ("ResultForms$Json", 158, "{ ", 65), ("ResultForms$Json", 193, "\" : { \"type\" : \"", 66), ("ResultForms$Scanner", 115, "uri", 67), ("ResultForms$Scanner", 121, "bnode", 68), ("ResultForms$Scanner", 123, "literal", 69), ("ResultForms$Json", 198, "\" , \"value\" : \"", 70), ("ResultForms$Json", 218, "xml:lang\" : \"", 71), ("ResultForms$Json", 220, "datatype\" : \"", 72), ("ResultForms$Json", 191, "}", 73), ("ResultForms$Json", 128, " } } ", 74), ("ResultForms$Xml", 183, "\"><", 75), ("ResultForms$Xml", 212, "uri>", 76), ("ResultForms$Xml", 214, "bnode>", 77), ("ResultForms$Xml", 216, "literal", 78), ("ResultForms$Xml", 222, "xml:lang=\"", 79), ("ResultForms$Xml", 224, "datatype=\"", 80), ("ResultForms$Xml", 229, "\"", 81), ("ResultForms$Xml", 231, ">", 82), ("ResultForms$Xml", 260, "&quot;", 83), ("ResultForms$Tabs", 125, "@", 84), ("ResultForms$Tabs", 130, "^^", 85), ("ResultForms$Json", 99, " { \"head\" : { } , \"boolean\" : ", 86), ("ResultForms$Scanner", 129, "true", 87), ("ResultForms$Scanner", 134, "false", 88), ("ResultForms$Json", 111, " } ", 89)]
def aw_nS : Nat := 90
def aw_byt : List (List Int32) := [[], [13, 10], [63], [10], [34, 60, 62, 92, 94, 96, 123, 124, 125], [123, 34, 104, 101, 97, 100, 34, 58, 123, 34, 118, 97, 114, 115, 34, 58, 91], [93, 125, 44, 34, 114, 101, 115, 117, 108, 116, 115, 34, 58, 123, 34, 98, 105, 110, 100, 105, 110, 103, 115, 34, 58, 91], [58, 123, 34, 116, 121, 112, 101, 34, 58, 34], [117, 114, 105], [98, 110, 111, 100, 101], [108, 105, 116, 101, 114, 97, 108], [34, 44, 34, 118, 97, 108, 117, 101, 34, 58, 34], [92, 34], [92, 92], [92, 116], [92, 110], [92, 114], [34, 44, 34, 120, 109, 108, 58, 108, 97, 110, 103, 34, 58, 34], [34, 44, 34, 100, 97, 116, 97, 116, 121, 112, 101, 34, 58, 34], [119, 104, 111, 108, 101], [114, 101, 97, 108], [116, 114, 117, 116, 104], [100, 97, 116, 101], [34, 125], [93, 125, 125], [60, 115, 112, 97, 114, 113, 108, 62, 60, 104, 101, 97, 100, 62], [60, 118, 97, 114, 105, 97, 98, 108, 101, 32, 110, 97, 109, 101, 61, 34], [34, 47, 62], [60, 47, 104, 101, 97, 100, 62, 60, 114, 101, 115, 117, 108, 116, 115, 62], [60, 114, 101, 115, 117, 108, 116, 62], [60, 98, 105, 110, 100, 105, 110, 103, 32, 110, 97, 109, 101, 61, 34], [34, 62], [60, 117, 114, 105], [60, 98, 110, 111, 100, 101], [60, 108, 105, 116, 101, 114, 97, 108], [32, 120, 109, 108, 58, 108, 97, 110, 103, 61, 34], [32, 100, 97, 116, 97, 116, 121, 112, 101, 61, 34], [38, 97, 109, 112, 59], [38, 108, 116, 59], [38, 103, 116, 59], [38, 35, 49, 51, 59], [60, 47, 117, 114, 105, 62], [60, 47, 98, 110, 111, 100, 101, 62], [60, 47, 108, 105, 116, 101, 114, 97, 108, 62], [60, 47, 98, 105, 110, 100, 105, 110, 103, 62], [60, 47, 114, 101, 115, 117, 108, 116, 62], [60, 47, 114, 101, 115, 117, 108, 116, 115, 62, 60, 47, 115, 112, 97, 114, 113, 108, 62], [95, 58], [60], [62], [95, 58], [], [34], [34, 64], [34, 94, 94], [123, 34, 104, 101, 97, 100, 34, 58, 123, 125, 44, 34, 98, 111, 111, 108, 101, 97, 110, 34, 58], [116, 114, 117, 101], [102, 97, 108, 115, 101], [60, 115, 112, 97, 114, 113, 108, 62, 60, 104, 101, 97, 100, 62, 60, 47, 104, 101, 97, 100, 62, 60, 98, 111, 111, 108, 101, 97, 110, 62], [60, 47, 98, 111, 111, 108, 101, 97, 110, 62, 60, 47, 115, 112, 97, 114, 113, 108, 62], [32, 123, 32, 34, 104, 101, 97, 100, 34, 32, 58, 32, 123, 32, 34, 118, 97, 114, 115, 34, 32, 58, 32, 91, 32], [32, 34], [34, 32], [93], [32, 125, 32, 44, 32, 34, 114, 101, 115, 117, 108, 116, 115, 34, 32, 58, 32, 123, 32, 34, 98, 105, 110, 100, 105, 110, 103, 115, 34, 32, 58, 32, 91, 32], [123, 32], [34, 32, 58, 32, 123, 32, 34, 116, 121, 112, 101, 34, 32, 58, 32, 34], [117, 114, 105], [98, 110, 111, 100, 101], [108, 105, 116, 101, 114, 97, 108], [34, 32, 44, 32, 34, 118, 97, 108, 117, 101, 34, 32, 58, 32, 34], [120, 109, 108, 58, 108, 97, 110, 103, 34, 32, 58, 32, 34], [100, 97, 116, 97, 116, 121, 112, 101, 34, 32, 58, 32, 34], [125], [32, 125, 32, 125, 32], [34, 62, 60], [117, 114, 105, 62], [98, 110, 111, 100, 101, 62], [108, 105, 116, 101, 114, 97, 108], [120, 109, 108, 58, 108, 97, 110, 103, 61, 34], [100, 97, 116, 97, 116, 121, 112, 101, 61, 34], [34], [62], [38, 113, 117, 111, 116, 59], [64], [94, 94], [32, 123, 32, 34, 104, 101, 97, 100, 34, 32, 58, 32, 123, 32, 125, 32, 44, 32, 34, 98, 111, 111, 108, 101, 97, 110, 34, 32, 58, 32], [116, 114, 117, 101], [102, 97, 108, 115, 101], [32, 125, 32]]
def aw_len : List Nat := [0, 2, 1, 1, 9, 17, 26, 10, 3, 5, 7, 11, 2, 2, 2, 2, 2, 14, 14, 5, 4, 5, 4, 2, 3, 14, 16, 3, 16, 8, 15, 2, 4, 6, 8, 11, 11, 5, 4, 4, 5, 6, 8, 10, 10, 9, 19, 2, 1, 1, 2, 0, 1, 2, 3, 21, 4, 5, 30, 19, 25, 2, 2, 1, 34, 2, 16, 3, 5, 7, 15, 13, 13, 1, 5, 3, 4, 6, 7, 10, 10, 1, 1, 6, 1, 2, 30, 4, 5, 3]
/-- words that go on by their own laws -/
def aw_nw : List Cond := [.fieldLinkNest "ResultForms$Scanner" 63 "ResultForms$Bytes" "bytes" "[I" "ResultForms", .fieldLinkNest "ResultForms" 100 "ResultForms$Bytes" "length" "I" "ResultForms", .fieldLinkNest "ResultForms$Text" 22 "ResultForms$Bytes" "length" "I" "ResultForms", .fieldLinkNest "ResultForms$Scanner" 51 "ResultForms$Bytes" "length" "I" "ResultForms", .fieldLinkNest "ResultForms" 234 "ResultForms$Bytes" "over" "Z" "ResultForms", .fieldLinkNest "ResultForms$Terms" 42 "ResultForms$Text" "length" "I" "ResultForms", .fieldLinkNest "ResultForms" 126 "ResultForms$Terms" "size" "I" "ResultForms", .fieldLinkNest "ResultForms$Json" 41 "ResultForms$Table" "variables" "I" "ResultForms", .fieldLinkNest "ResultForms$Xml" 39 "ResultForms$Table" "variables" "I" "ResultForms", .fieldLinkNest "ResultForms$Lines" 34 "ResultForms$Table" "variables" "I" "ResultForms", .fieldLinkNest "ResultForms" 157 "ResultForms$Table" "variables" "I" "ResultForms", .fieldLinkNest "ResultForms$Scanner" 102 "ResultForms$Table" "variables" "I" "ResultForms", .fieldLinkNest "ResultForms$Json" 53 "ResultForms$Table" "rows" "I" "ResultForms", .fieldLinkNest "ResultForms$Xml" 55 "ResultForms$Table" "rows" "I" "ResultForms", .fieldLinkNest "ResultForms$Lines" 54 "ResultForms$Table" "rows" "I" "ResultForms", .fieldLinkNest "ResultForms" 154 "ResultForms$Table" "rows" "I" "ResultForms", .fieldLinkNest "ResultForms$Tabs" 84 "ResultForms$Scanner" "place" "I" "ResultForms", .fieldLinkNest "ResultForms$Lines" 140 "ResultForms$Scanner" "place" "I" "ResultForms", .fieldLinkNest "ResultForms$Json" 200 "ResultForms$Scanner" "place" "I" "ResultForms", .fieldLinkNest "ResultForms$Xml" 233 "ResultForms$Scanner" "place" "I" "ResultForms", .fieldLinkNest "ResultForms" 214 "ResultForms$Scanner" "fault" "I" "ResultForms", .fieldLinkNest "ResultForms$Lines" 120 "ResultForms$Scanner" "kind" "I" "ResultForms", .fieldLinkNest "ResultForms$Json" 173 "ResultForms$Scanner" "kind" "I" "ResultForms", .fieldLinkNest "ResultForms$Xml" 191 "ResultForms$Scanner" "kind" "I" "ResultForms", .fieldLinkNest "ResultForms$Lines" 123 "ResultForms$Scanner" "extra" "I" "ResultForms", .fieldLinkNest "ResultForms$Json" 176 "ResultForms$Scanner" "extra" "I" "ResultForms", .fieldLinkNest "ResultForms$Xml" 194 "ResultForms$Scanner" "extra" "I" "ResultForms", .fieldLinkNest "ResultForms$Tabs" 92 "ResultForms$Scanner" "text" "LResultForms$Text;" "ResultForms", .fieldLinkNest "ResultForms$Commas" 95 "ResultForms$Scanner" "text" "LResultForms$Text;" "ResultForms", .fieldLinkNest "ResultForms$Lines" 126 "ResultForms$Scanner" "text" "LResultForms$Text;" "ResultForms", .fieldLinkNest "ResultForms$Json" 179 "ResultForms$Scanner" "text" "LResultForms$Text;" "ResultForms", .fieldLinkNest "ResultForms$Xml" 197 "ResultForms$Scanner" "text" "LResultForms$Text;" "ResultForms", .methodLinkNest "ResultForms$Text" 29 ⟨"ResultForms", "isTextByte", "(I)Z"⟩ "ResultForms", .methodLinkNest "ResultForms$Text" 38 ⟨"ResultForms", "isNodeByte", "(I)Z"⟩ "ResultForms", .methodLinkNest "ResultForms$Text" 41 ⟨"ResultForms", "isLetterOrDigit", "(I)Z"⟩ "ResultForms", .methodLinkNest "ResultForms$Terms" 78 ⟨"ResultForms", "typeName", "(I)Ljava/lang/String;"⟩ "ResultForms", .declares ⟨"ResultForms$Lines", "print", "(LResultForms$Table;)V"⟩, .declares ⟨"ResultForms$Lines", "printTerm", "(I)V"⟩, .methodLinkNest "ResultForms$Json" 31 ⟨"ResultForms", "truthName", "(Z)Ljava/lang/String;"⟩ "ResultForms", .methodLinkNest "ResultForms$Xml" 31 ⟨"ResultForms", "truthName", "(Z)Ljava/lang/String;"⟩ "ResultForms", .methodLinkNest "ResultForms$Scanner" 90 ⟨"ResultForms", "isLetter", "(I)Z"⟩ "ResultForms", .methodLinkNest "ResultForms$Scanner" 146 ⟨"ResultForms", "isPrinted", "(I)Z"⟩ "ResultForms", .methodLinkNest "ResultForms$Scanner" 125 ⟨"ResultForms", "typeName", "(I)Ljava/lang/String;"⟩ "ResultForms", .methodLinkNest "ResultForms$Xml" 158 ⟨"ResultForms$Scanner", "ahead", "(I)I"⟩ "ResultForms", .methodLinkNest "ResultForms$Xml" 250 ⟨"ResultForms", "isTextByte", "(I)Z"⟩ "ResultForms", .declares ⟨"ResultForms$Lines", "parse", "(LResultForms$Table;)Z"⟩, .declares ⟨"ResultForms$Lines", "parseTerm", "()Z"⟩, .methodLinkNest "ResultForms$Commas" 92 ⟨"ResultForms$Scanner", "ahead", "(I)I"⟩ "ResultForms", .methodLinkNest "ResultForms$Commas" 104 ⟨"ResultForms", "isTextByte", "(I)Z"⟩ "ResultForms", .declares ⟨"ResultForms$Lines", "parseBlank", "()Z"⟩, .methodLinkNest "ResultForms$Lines" 143 ⟨"ResultForms", "isLetterOrDigit", "(I)Z"⟩ "ResultForms", .methodLinkNest "ResultForms$Commas" 114 ⟨"ResultForms", "isPrinted", "(I)Z"⟩ "ResultForms", .methodLinkNest "ResultForms$Tabs" 111 ⟨"ResultForms", "isTextByte", "(I)Z"⟩ "ResultForms"]
theorem aw_w_value : Cond.fieldLink "java/lang/String" 9 "java/lang/String" "value" "[B" ∈ aw_tbl := aw_in 1814 (by decide +kernel) rfl
theorem aw_w_coder : Cond.fieldLink "java/lang/String" 15 "java/lang/String" "coder" "B" ∈ aw_tbl := aw_in 1813 (by decide +kernel) rfl
theorem aw_w_compact : Cond.fieldLink "java/lang/String" 38 "java/lang/String" "COMPACT_STRINGS" "Z" ∈ aw_tbl := aw_in 473 (by decide +kernel) rfl
theorem aw_w_sioobe : Cond.fieldLink "java/lang/String" 1053 "jdk/internal/util/Preconditions" "SIOOBE_FORMATTER" "Ljava/util/function/BiFunction;" ∈ aw_tbl := aw_in 516 (by decide +kernel) rfl
theorem aw_w_oi : Cond.instanceMethod Lib.objectInit ∈ aw_tbl := aw_in 116 (by decide +kernel) rfl
theorem aw_w_oc : Cond.code Lib.objectInit ⟨#[0xb1]⟩ 1 none ∈ aw_tbl := aw_in 117 (by rfl) rfl
