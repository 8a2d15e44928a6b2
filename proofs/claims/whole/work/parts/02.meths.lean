/-! Tables, printed by wip/gen.py: kinds of objects, methods, instructions, links, places. -/
def gR0 : String := "GreatestFlow$Graph"
def gT0 : u_T := fun k => match k with
  | 0 => ("GreatestFlow$Graph", "kinds", "[I", true)
  | 1 => ("GreatestFlow$Graph", "bounds", "[I", true)
  | 2 => ("GreatestFlow$Graph", "froms", "[I", true)
  | 3 => ("GreatestFlow$Graph", "tos", "[I", true)
  | 4 => ("GreatestFlow$Graph", "leasts", "[I", true)
  | 5 => ("GreatestFlow$Graph", "mosts", "[I", true)
  | 6 => ("GreatestFlow$Graph", "dropped", "[Z", true)
  | 7 => ("GreatestFlow$Graph", "nodes", "I", false)
  | 8 => ("GreatestFlow$Graph", "arcs", "I", false)
  | _ => ("GreatestFlow$Graph", "arcsThere", "I", false)
def gY0 : Nat → FieldType := fun k => match k with
  | 0 => .array .int
  | 1 => .array .int
  | 2 => .array .int
  | 3 => .array .int
  | 4 => .array .int
  | 5 => .array .int
  | 6 => .array .boolean
  | 7 => .int
  | 8 => .int
  | _ => .int
theorem gN0 : ∀ a, a < 10 → ∀ b, b < 10 → a ≠ b → (gT0 a).2.1 ≠ (gT0 b).2.1 := by decide +kernel
theorem gY0_ok : ∀ k, k < 10 → parseFieldDescriptor (gT0 k).2.2.1 = some (gY0 k) := by decide +kernel
def gR1 : String := "GreatestFlow$Net"
def gT1 : u_T := fun k => match k with
  | 0 => ("GreatestFlow$Net", "low", "[I", true)
  | 1 => ("GreatestFlow$Net", "high", "[I", true)
  | 2 => ("GreatestFlow$Net", "from", "[I", true)
  | 3 => ("GreatestFlow$Net", "to", "[I", true)
  | 4 => ("GreatestFlow$Net", "flow", "[I", true)
  | 5 => ("GreatestFlow$Net", "held", "[Z", true)
  | 6 => ("GreatestFlow$Net", "halves", "[I", true)
  | 7 => ("GreatestFlow$Net", "halfCount", "[I", true)
  | 8 => ("GreatestFlow$Net", "reachedBy", "[I", true)
  | _ => ("GreatestFlow$Net", "queue", "[I", true)
def gY1 : Nat → FieldType := fun k => match k with
  | 0 => .array .int
  | 1 => .array .int
  | 2 => .array .int
  | 3 => .array .int
  | 4 => .array .int
  | 5 => .array .boolean
  | 6 => .array .int
  | 7 => .array .int
  | 8 => .array .int
  | _ => .array .int
theorem gN1 : ∀ a, a < 10 → ∀ b, b < 10 → a ≠ b → (gT1 a).2.1 ≠ (gT1 b).2.1 := by decide +kernel
theorem gY1_ok : ∀ k, k < 10 → parseFieldDescriptor (gT1 k).2.2.1 = some (gY1 k) := by decide +kernel
def gR2 : String := "GreatestFlow$Parts"
def gT2 : u_T := fun k => match k with
  | 0 => ("GreatestFlow$Parts", "amounts", "[I", true)
  | 1 => ("GreatestFlow$Parts", "lengths", "[I", true)
  | 2 => ("GreatestFlow$Parts", "count", "I", false)
  | 3 => ("GreatestFlow$Parts", "streamArcs", "[I", true)
  | 4 => ("GreatestFlow$Parts", "left", "[I", true)
  | 5 => ("GreatestFlow$Parts", "due", "[I", true)
  | 6 => ("GreatestFlow$Parts", "placeOf", "[I", true)
  | _ => ("GreatestFlow$Parts", "path", "[I", true)
def gY2 : Nat → FieldType := fun k => match k with
  | 0 => .array .int
  | 1 => .array .int
  | 2 => .int
  | 3 => .array .int
  | 4 => .array .int
  | 5 => .array .int
  | 6 => .array .int
  | _ => .array .int
theorem gN2 : ∀ a, a < 8 → ∀ b, b < 8 → a ≠ b → (gT2 a).2.1 ≠ (gT2 b).2.1 := by decide +kernel
theorem gY2_ok : ∀ k, k < 8 → parseFieldDescriptor (gT2 k).2.2.1 = some (gY2 k) := by decide +kernel
def gR3 : String := "GreatestFlow"
def gT3 : u_T := fun k => match k with
  | 0 => ("GreatestFlow", "graph", "LGreatestFlow$Graph;", true)
  | 1 => ("GreatestFlow", "net", "LGreatestFlow$Net;", true)
  | 2 => ("GreatestFlow", "parts", "LGreatestFlow$Parts;", true)
  | 3 => ("GreatestFlow", "someFlow", "[I", true)
  | 4 => ("GreatestFlow", "firstFlow", "[[I", true)
  | 5 => ("GreatestFlow", "firstKnown", "[Z", true)
  | 6 => ("GreatestFlow", "barredDown", "[I", true)
  | 7 => ("GreatestFlow", "barredCount", "I", false)
  | 8 => ("GreatestFlow", "barredKnown", "Z", false)
  | 9 => ("GreatestFlow", "partsKnown", "Z", false)
  | 10 => ("GreatestFlow", "flowSought", "Z", false)
  | _ => ("GreatestFlow", "flowFound", "Z", false)
def gY3 : Nat → FieldType := fun k => match k with
  | 0 => .object "GreatestFlow$Graph"
  | 1 => .object "GreatestFlow$Net"
  | 2 => .object "GreatestFlow$Parts"
  | 3 => .array .int
  | 4 => .array (.array .int)
  | 5 => .array .boolean
  | 6 => .array .int
  | 7 => .int
  | 8 => .boolean
  | 9 => .boolean
  | 10 => .boolean
  | _ => .boolean
theorem gN3 : ∀ a, a < 12 → ∀ b, b < 12 → a ≠ b → (gT3 a).2.1 ≠ (gT3 b).2.1 := by decide +kernel
theorem gY3_ok : ∀ k, k < 12 → parseFieldDescriptor (gT3 k).2.2.1 = some (gY3 k) := by decide +kernel
def gR4 : String := "GreatestFlowModel"
def gT4 : u_T := fun k => match k with
  | 0 => ("GreatestFlowModel", "nodes", "I", false)
  | 1 => ("GreatestFlowModel", "kinds", "[I", true)
  | 2 => ("GreatestFlowModel", "bounds", "[I", true)
  | 3 => ("GreatestFlowModel", "arcs", "I", false)
  | 4 => ("GreatestFlowModel", "from", "[I", true)
  | 5 => ("GreatestFlowModel", "to", "[I", true)
  | 6 => ("GreatestFlowModel", "least", "[I", true)
  | 7 => ("GreatestFlowModel", "most", "[I", true)
  | 8 => ("GreatestFlowModel", "alive", "[Z", true)
  | 9 => ("GreatestFlowModel", "known", "Z", false)
  | 10 => ("GreatestFlowModel", "low", "[I", true)
  | 11 => ("GreatestFlowModel", "high", "[I", true)
  | 12 => ("GreatestFlowModel", "kind", "[I", true)
  | 13 => ("GreatestFlowModel", "left", "[I", true)
  | 14 => ("GreatestFlowModel", "before", "[I", true)
  | 15 => ("GreatestFlowModel", "queue", "[I", true)
  | 16 => ("GreatestFlowModel", "must", "I", false)
  | 17 => ("GreatestFlowModel", "has", "Z", false)
  | 18 => ("GreatestFlowModel", "values", "[I", true)
  | 19 => ("GreatestFlowModel", "flows", "[I", true)
  | 20 => ("GreatestFlowModel", "isBarred", "[Z", true)
  | 21 => ("GreatestFlowModel", "streams", "I", false)
  | 22 => ("GreatestFlowModel", "streamSize", "[I", true)
  | 23 => ("GreatestFlowModel", "streamArcs", "[I", true)
  | 24 => ("GreatestFlowModel", "streamArc", "[I", true)
  | 25 => ("GreatestFlowModel", "over", "[I", true)
  | 26 => ("GreatestFlowModel", "give", "[I", true)
  | 27 => ("GreatestFlowModel", "path", "[I", true)
  | _ => ("GreatestFlowModel", "placeOf", "[I", true)
def gY4 : Nat → FieldType := fun k => match k with
  | 0 => .int
  | 1 => .array .int
  | 2 => .array .int
  | 3 => .int
  | 4 => .array .int
  | 5 => .array .int
  | 6 => .array .int
  | 7 => .array .int
  | 8 => .array .boolean
  | 9 => .boolean
  | 10 => .array .int
  | 11 => .array .int
  | 12 => .array .int
  | 13 => .array .int
  | 14 => .array .int
  | 15 => .array .int
  | 16 => .int
  | 17 => .boolean
  | 18 => .array .int
  | 19 => .array .int
  | 20 => .array .boolean
  | 21 => .int
  | 22 => .array .int
  | 23 => .array .int
  | 24 => .array .int
  | 25 => .array .int
  | 26 => .array .int
  | 27 => .array .int
  | _ => .array .int
theorem gN4 : ∀ a, a < 29 → ∀ b, b < 29 → a ≠ b → (gT4 a).2.1 ≠ (gT4 b).2.1 := by decide +kernel
theorem gY4_ok : ∀ k, k < 29 → parseFieldDescriptor (gT4 k).2.2.1 = some (gY4 k) := by decide +kernel
abbrev gx_cl : List vw_C := [(gR0, gT0, 10), (gR1, gT1, 10), (gR2, gT2, 8), (gR3, gT3, 12), (gR4, gT4, 29)]
def gx_ty (ci : Nat) : Nat → FieldType := match ci with
  | 0 => gY0
  | 1 => gY1
  | 2 => gY2
  | 3 => gY3
  | _ => gY4
def gx_TBL : List Cond := lw_tbl.filter goodWord
theorem gx_in0 {q : Cond} (i : Nat) (h : (k2_sels lw_privs)[i]? = some q) (hg : goodWord q = true) : q ∈ gx_TBL := List.mem_filter.mpr ⟨List.mem_append_left _ (List.mem_of_getElem? h), hg⟩
theorem gx_in1 {q : Cond} (i : Nat) (h : tables_1_1[i]? = some q) (hg : goodWord q = true) : q ∈ gx_TBL := List.mem_filter.mpr ⟨List.mem_append_right _ (List.mem_append_left _ (List.mem_of_getElem? h)), hg⟩
theorem gx_in2 {q : Cond} (i : Nat) (h : tables_1_2[i]? = some q) (hg : goodWord q = true) : q ∈ gx_TBL := List.mem_filter.mpr ⟨List.mem_append_right _ (List.mem_append_right _ (List.mem_append_left _ (List.mem_of_getElem? h))), hg⟩
theorem gx_in3 {q : Cond} (i : Nat) (h : tables_1_3[i]? = some q) (hg : goodWord q = true) : q ∈ gx_TBL := List.mem_filter.mpr ⟨List.mem_append_right _ (List.mem_append_right _ (List.mem_append_right _ (List.mem_of_getElem? h))), hg⟩
set_option maxRecDepth 20000 in
theorem gx_lay0 : ∀ q ∈ u_ws gR0 gT0 10, q ∈ gx_TBL := by
  intro q h
  obtain ⟨k, hk, rfl⟩ := List.mem_map.mp h
  have hk := List.mem_range.mp hk
  match k, hk with
  | 0, _ => exact gx_in1 46 rfl rfl
  | 1, _ => exact gx_in1 48 rfl rfl
  | 2, _ => exact gx_in1 50 rfl rfl
  | 3, _ => exact gx_in1 52 rfl rfl
  | 4, _ => exact gx_in1 54 rfl rfl
  | 5, _ => exact gx_in1 56 rfl rfl
  | 6, _ => exact gx_in1 58 rfl rfl
  | 7, _ => exact gx_in1 60 rfl rfl
  | 8, _ => exact gx_in1 62 rfl rfl
  | 9, _ => exact gx_in1 64 rfl rfl
  | k + 10, hk => exact absurd hk (by omega)
set_option maxRecDepth 20000 in
theorem gx_lay1 : ∀ q ∈ u_ws gR1 gT1 10, q ∈ gx_TBL := by
  intro q h
  obtain ⟨k, hk, rfl⟩ := List.mem_map.mp h
  have hk := List.mem_range.mp hk
  match k, hk with
  | 0, _ => exact gx_in1 87 rfl rfl
  | 1, _ => exact gx_in1 89 rfl rfl
  | 2, _ => exact gx_in1 91 rfl rfl
  | 3, _ => exact gx_in1 93 rfl rfl
  | 4, _ => exact gx_in1 95 rfl rfl
  | 5, _ => exact gx_in1 97 rfl rfl
  | 6, _ => exact gx_in1 99 rfl rfl
  | 7, _ => exact gx_in1 101 rfl rfl
  | 8, _ => exact gx_in1 103 rfl rfl
  | 9, _ => exact gx_in1 105 rfl rfl
  | k + 10, hk => exact absurd hk (by omega)
set_option maxRecDepth 20000 in
theorem gx_lay2 : ∀ q ∈ u_ws gR2 gT2 8, q ∈ gx_TBL := by
  intro q h
  obtain ⟨k, hk, rfl⟩ := List.mem_map.mp h
  have hk := List.mem_range.mp hk
  match k, hk with
  | 0, _ => exact gx_in1 125 rfl rfl
  | 1, _ => exact gx_in1 127 rfl rfl
  | 2, _ => exact gx_in1 129 rfl rfl
  | 3, _ => exact gx_in1 131 rfl rfl
  | 4, _ => exact gx_in1 133 rfl rfl
  | 5, _ => exact gx_in1 135 rfl rfl
  | 6, _ => exact gx_in1 137 rfl rfl
  | 7, _ => exact gx_in1 139 rfl rfl
  | k + 8, hk => exact absurd hk (by omega)
set_option maxRecDepth 20000 in
theorem gx_lay3 : ∀ q ∈ u_ws gR3 gT3 12, q ∈ gx_TBL := by
  intro q h
  obtain ⟨k, hk, rfl⟩ := List.mem_map.mp h
  have hk := List.mem_range.mp hk
  match k, hk with
  | 0, _ => exact gx_in1 156 rfl rfl
  | 1, _ => exact gx_in1 158 rfl rfl
  | 2, _ => exact gx_in1 160 rfl rfl
  | 3, _ => exact gx_in1 162 rfl rfl
  | 4, _ => exact gx_in1 164 rfl rfl
  | 5, _ => exact gx_in1 166 rfl rfl
  | 6, _ => exact gx_in1 168 rfl rfl
  | 7, _ => exact gx_in1 170 rfl rfl
  | 8, _ => exact gx_in1 172 rfl rfl
  | 9, _ => exact gx_in1 174 rfl rfl
  | 10, _ => exact gx_in1 176 rfl rfl
  | 11, _ => exact gx_in1 178 rfl rfl
  | k + 12, hk => exact absurd hk (by omega)
set_option maxRecDepth 20000 in
theorem gx_lay4 : ∀ q ∈ u_ws gR4 gT4 29, q ∈ gx_TBL := by
  intro q h
  obtain ⟨k, hk, rfl⟩ := List.mem_map.mp h
  have hk := List.mem_range.mp hk
  match k, hk with
  | 0, _ => exact gx_in3 0 rfl rfl
  | 1, _ => exact gx_in3 2 rfl rfl
  | 2, _ => exact gx_in3 4 rfl rfl
  | 3, _ => exact gx_in3 6 rfl rfl
  | 4, _ => exact gx_in3 8 rfl rfl
  | 5, _ => exact gx_in3 10 rfl rfl
  | 6, _ => exact gx_in3 12 rfl rfl
  | 7, _ => exact gx_in3 14 rfl rfl
  | 8, _ => exact gx_in3 16 rfl rfl
  | 9, _ => exact gx_in3 18 rfl rfl
  | 10, _ => exact gx_in3 20 rfl rfl
  | 11, _ => exact gx_in3 22 rfl rfl
  | 12, _ => exact gx_in3 24 rfl rfl
  | 13, _ => exact gx_in3 26 rfl rfl
  | 14, _ => exact gx_in3 28 rfl rfl
  | 15, _ => exact gx_in3 30 rfl rfl
  | 16, _ => exact gx_in3 32 rfl rfl
  | 17, _ => exact gx_in3 34 rfl rfl
  | 18, _ => exact gx_in3 36 rfl rfl
  | 19, _ => exact gx_in3 38 rfl rfl
  | 20, _ => exact gx_in3 40 rfl rfl
  | 21, _ => exact gx_in3 42 rfl rfl
  | 22, _ => exact gx_in3 44 rfl rfl
  | 23, _ => exact gx_in3 46 rfl rfl
  | 24, _ => exact gx_in3 48 rfl rfl
  | 25, _ => exact gx_in3 50 rfl rfl
  | 26, _ => exact gx_in3 52 rfl rfl
  | 27, _ => exact gx_in3 54 rfl rfl
  | 28, _ => exact gx_in3 56 rfl rfl
  | k + 29, hk => exact absurd hk (by omega)
theorem gx_lays : ∀ (ci : Nat) (q : vw_C), gx_cl[ci]? = some q → ∀ w ∈ u_ws q.1 q.2.1 q.2.2, w ∈ gx_TBL := by
  intro ci q h
  match ci, h with
  | 0, h => cases h; exact gx_lay0
  | 1, h => cases h; exact gx_lay1
  | 2, h => cases h; exact gx_lay2
  | 3, h => cases h; exact gx_lay3
  | 4, h => cases h; exact gx_lay4
  | k + 5, h => cases h
theorem gx_tys_ok : ∀ (ci : Nat) (q : vw_C), gx_cl[ci]? = some q → (∀ k, k < q.2.2 → parseFieldDescriptor (q.2.1 k).2.2.1 = some (gx_ty ci k)) ∧ (∀ a, a < q.2.2 → ∀ b, b < q.2.2 → a ≠ b → (q.2.1 a).2.1 ≠ (q.2.1 b).2.1) := by
  intro ci q h
  match ci, h with
  | 0, h => cases h; exact ⟨gY0_ok, gN0⟩
  | 1, h => cases h; exact ⟨gY1_ok, gN1⟩
  | 2, h => cases h; exact ⟨gY2_ok, gN2⟩
  | 3, h => cases h; exact ⟨gY3_ok, gN3⟩
  | 4, h => cases h; exact ⟨gY4_ok, gN4⟩
  | k + 5, h => cases h
/-- a method: its name, its code, its room for values, what it returns, the number of its owner, the frames and words that it needs -/
def gx_mm : List (MethodName × ByteArray × Nat × Option FieldType × Nat × Nat × Nat) := [
  (⟨"GreatestFlow$Graph", "hasNode", "(I)Z"⟩, prog_2_method_2_code, 2, (some .boolean), 0, 0, 0),
  (⟨"GreatestFlow$Graph", "hasArc", "(I)Z"⟩, prog_2_method_3_code, 2, (some .boolean), 0, 0, 0),
  (⟨"GreatestFlow$Graph", "addNode", "()I"⟩, prog_2_method_4_code, 1, (some .int), 0, 0, 0),
  (⟨"GreatestFlow$Graph", "addArc", "(IIII)I"⟩, prog_2_method_5_code, 5, (some .int), 0, 0, 0),
  (⟨"GreatestFlow$Graph", "removeArc", "(I)I"⟩, prog_2_method_6_code, 2, (some .int), 0, 0, 0),
  (⟨"GreatestFlow$Graph", "removeAll", "()I"⟩, prog_2_method_7_code, 2, (some .int), 0, 0, 0),
  (⟨"GreatestFlow$Graph", "comes", "([II)I"⟩, prog_2_method_8_code, 5, (some .int), 0, 0, 0),
  (⟨"GreatestFlow$Graph", "goes", "([II)I"⟩, prog_2_method_9_code, 5, (some .int), 0, 0, 0),
  (⟨"GreatestFlow$Net", "empty", "()V"⟩, prog_3_method_2_code, 2, none, 1, 1, 23),
  (⟨"GreatestFlow$Net", "put", "(IIIII)V"⟩, prog_3_method_3_code, 6, none, 1, 1, 23),
  (⟨"GreatestFlow$Net", "addHalf", "(II)V"⟩, prog_3_method_4_code, 4, none, 1, 0, 0),
  (⟨"GreatestFlow$Net", "save", "([I)V"⟩, prog_3_method_5_code, 2, none, 1, 1, 26),
  (⟨"GreatestFlow$Net", "load", "([I)V"⟩, prog_3_method_6_code, 2, none, 1, 1, 26),
  (⟨"GreatestFlow$Net", "hold", "(I)V"⟩, prog_3_method_7_code, 2, none, 1, 0, 0),
  (⟨"GreatestFlow$Net", "mend", "()Z"⟩, prog_3_method_8_code, 3, (some .boolean), 1, 4, 100),
  (⟨"GreatestFlow$Net", "raise", "(II)I"⟩, prog_3_method_9_code, 4, (some .int), 1, 3, 77),
  (⟨"GreatestFlow$Net", "lower", "(I)V"⟩, prog_3_method_10_code, 2, none, 1, 3, 77),
  (⟨"GreatestFlow$Net", "carry", "(III)I"⟩, prog_3_method_11_code, 7, (some .int), 1, 2, 51),
  (⟨"GreatestFlow$Net", "reaches", "(II)Z"⟩, prog_3_method_12_code, 9, (some .boolean), 1, 1, 23),
  (⟨"GreatestFlow$Net", "narrowest", "(I)I"⟩, prog_3_method_13_code, 5, (some .int), 1, 1, 22),
  (⟨"GreatestFlow$Net", "send", "(II)V"⟩, prog_3_method_14_code, 5, none, 1, 1, 21),
  (⟨"GreatestFlow$Net", "endOf", "(I)I"⟩, prog_3_method_15_code, 2, (some .int), 1, 0, 0),
  (⟨"GreatestFlow$Net", "leftOn", "(I)I"⟩, prog_3_method_16_code, 3, (some .int), 1, 0, 0),
  (⟨"GreatestFlow$Parts", "arcAt", "(II)I"⟩, prog_4_method_2_code, 3, (some .int), 2, 0, 0),
  (⟨"GreatestFlow$Parts", "split", "(LGreatestFlow$Graph;[I)V"⟩, prog_4_method_3_code, 5, none, 2, 4, 94),
  (⟨"GreatestFlow$Parts", "leastGiver", "(LGreatestFlow$Graph;)I"⟩, prog_4_method_4_code, 3, (some .int), 2, 0, 0),
  (⟨"GreatestFlow$Parts", "walk", "(LGreatestFlow$Graph;I)V"⟩, prog_4_method_5_code, 6, none, 2, 3, 69),
  (⟨"GreatestFlow$Parts", "leastArcFrom", "(LGreatestFlow$Graph;I)I"⟩, prog_4_method_6_code, 4, (some .int), 2, 0, 0),
  (⟨"GreatestFlow$Parts", "endStream", "(III)V"⟩, prog_4_method_7_code, 5, none, 2, 2, 45),
  (⟨"GreatestFlow$Parts", "leastLeft", "(II)I"⟩, prog_4_method_8_code, 5, (some .int), 2, 1, 21),
  (⟨"GreatestFlow$Parts", "takeFromPath", "(III)V"⟩, prog_4_method_9_code, 5, none, 2, 0, 0),
  (⟨"GreatestFlow", "node", "()I"⟩, prog_1_method_2_code, 1, (some .int), 3, 1, 20),
  (⟨"GreatestFlow", "kind", "(II)I"⟩, prog_1_method_3_code, 4, (some .int), 3, 1, 21),
  (⟨"GreatestFlow", "bound", "(II)I"⟩, prog_1_method_4_code, 3, (some .int), 3, 1, 21),
  (⟨"GreatestFlow", "arc", "(IIII)I"⟩, prog_1_method_5_code, 5, (some .int), 3, 1, 24),
  (⟨"GreatestFlow", "change", "(III)I"⟩, prog_1_method_6_code, 4, (some .int), 3, 1, 21),
  (⟨"GreatestFlow", "drop", "(I)I"⟩, prog_1_method_7_code, 2, (some .int), 3, 1, 21),
  (⟨"GreatestFlow", "clear", "()I"⟩, prog_1_method_8_code, 1, (some .int), 3, 1, 21),
  (⟨"GreatestFlow", "run", "()I"⟩, prog_1_method_9_code, 1, (some .int), 3, 6, 142),
  (⟨"GreatestFlow", "value", "(I)I"⟩, prog_1_method_10_code, 2, (some .int), 3, 6, 142),
  (⟨"GreatestFlow", "on", "(II)I"⟩, prog_1_method_11_code, 3, (some .int), 3, 6, 142),
  (⟨"GreatestFlow", "through", "(II)I"⟩, prog_1_method_12_code, 4, (some .int), 3, 6, 142),
  (⟨"GreatestFlow", "near", "(I)I"⟩, prog_1_method_13_code, 2, (some .int), 3, 7, 165),
  (⟨"GreatestFlow", "far", "(I)I"⟩, prog_1_method_14_code, 2, (some .int), 3, 7, 165),
  (⟨"GreatestFlow", "tight", "(I)I"⟩, prog_1_method_15_code, 2, (some .int), 3, 6, 143),
  (⟨"GreatestFlow", "barred", "(I)I"⟩, prog_1_method_16_code, 2, (some .int), 3, 6, 144),
  (⟨"GreatestFlow", "streams", "()I"⟩, prog_1_method_17_code, 1, (some .int), 3, 6, 142),
  (⟨"GreatestFlow", "stream", "(II)I"⟩, prog_1_method_18_code, 3, (some .int), 3, 6, 142),
  (⟨"GreatestFlow", "isWay", "(I)Z"⟩, prog_1_method_19_code, 1, (some .boolean), 3, 0, 0),
  (⟨"GreatestFlow", "areArcBounds", "(II)Z"⟩, prog_1_method_20_code, 2, (some .boolean), 3, 0, 0),
  (⟨"GreatestFlow", "cameIn", "(I)I"⟩, prog_1_method_21_code, 1, (some .int), 3, 0, 0),
  (⟨"GreatestFlow", "goesOut", "(I)I"⟩, prog_1_method_22_code, 1, (some .int), 3, 0, 0),
  (⟨"GreatestFlow", "forget", "()V"⟩, prog_1_method_23_code, 1, none, 3, 0, 0),
  (⟨"GreatestFlow", "hasFlow", "()Z"⟩, prog_1_method_24_code, 1, (some .boolean), 3, 5, 122),
  (⟨"GreatestFlow", "first", "(I)[I"⟩, prog_1_method_25_code, 3, (some (.array .int)), 3, 4, 100),
  (⟨"GreatestFlow", "layOut", "()V"⟩, prog_1_method_26_code, 4, none, 3, 3, 70),
  (⟨"GreatestFlow", "layOutEnd", "(II)V"⟩, prog_1_method_27_code, 3, none, 3, 2, 48),
  (⟨"GreatestFlow", "layOutFirstGreatest", "()V"⟩, prog_1_method_28_code, 2, none, 3, 5, 122),
  (⟨"GreatestFlow", "helpsAs", "(II)I"⟩, prog_1_method_29_code, 3, (some .int), 3, 6, 143),
  (⟨"GreatestFlow", "findBarred", "()V"⟩, prog_1_method_30_code, 3, none, 3, 5, 122),
  (⟨"GreatestFlow", "splitFirstGreatest", "()V"⟩, prog_1_method_31_code, 1, none, 3, 5, 122),
  (⟨"GreatestFlowModel", "edge", "(IIII)V"⟩, prog_6_method_2_code, 5, none, 4, 0, 0),
  (⟨"GreatestFlowModel", "layOut", "(II)V"⟩, prog_6_method_3_code, 4, none, 4, 1, 24),
  (⟨"GreatestFlowModel", "findWay", "()Z"⟩, prog_6_method_4_code, 5, (some .boolean), 4, 0, 0),
  (⟨"GreatestFlowModel", "isThere", "(II)Z"⟩, prog_6_method_5_code, 6, (some .boolean), 4, 2, 47),
  (⟨"GreatestFlowModel", "take", "()V"⟩, prog_6_method_6_code, 2, none, 4, 0, 0),
  (⟨"GreatestFlowModel", "greatest", "()I"⟩, prog_6_method_7_code, 4, (some .int), 4, 3, 72),
  (⟨"GreatestFlowModel", "lowest", "()I"⟩, prog_6_method_8_code, 4, (some .int), 4, 3, 72),
  (⟨"GreatestFlowModel", "findFirst", "(I)V"⟩, prog_6_method_9_code, 6, none, 4, 4, 95),
  (⟨"GreatestFlowModel", "findBarred", "()V"⟩, prog_6_method_10_code, 2, none, 4, 3, 72),
  (⟨"GreatestFlowModel", "know", "()V"⟩, prog_6_method_11_code, 1, none, 4, 5, 120),
  (⟨"GreatestFlowModel", "comes", "(II)I"⟩, prog_6_method_12_code, 5, (some .int), 4, 0, 0),
  (⟨"GreatestFlowModel", "goes", "(II)I"⟩, prog_6_method_13_code, 5, (some .int), 4, 0, 0),
  (⟨"GreatestFlowModel", "nextArc", "(I)I"⟩, prog_6_method_14_code, 3, (some .int), 4, 0, 0),
  (⟨"GreatestFlowModel", "leastOf", "(II)I"⟩, prog_6_method_15_code, 5, (some .int), 4, 0, 0),
  (⟨"GreatestFlowModel", "lessen", "(III)V"⟩, prog_6_method_16_code, 5, none, 4, 0, 0),
  (⟨"GreatestFlowModel", "findStreams", "()V"⟩, prog_6_method_17_code, 2, none, 4, 2, 49),
  (⟨"GreatestFlowModel", "firstGiver", "()I"⟩, prog_6_method_18_code, 2, (some .int), 4, 0, 0),
  (⟨"GreatestFlowModel", "walk", "(I)V"⟩, prog_6_method_19_code, 6, none, 4, 1, 24),
  (⟨"GreatestFlowModel", "isNode", "(I)Z"⟩, prog_6_method_20_code, 2, (some .boolean), 4, 0, 0),
  (⟨"GreatestFlowModel", "isArc", "(I)Z"⟩, prog_6_method_21_code, 2, (some .boolean), 4, 0, 0),
  (⟨"GreatestFlowModel", "isSpan", "(II)Z"⟩, prog_6_method_22_code, 2, (some .boolean), 4, 0, 0),
  (⟨"GreatestFlowModel", "node", "()I"⟩, prog_6_method_23_code, 1, (some .int), 4, 0, 0),
  (⟨"GreatestFlowModel", "kind", "(II)I"⟩, prog_6_method_24_code, 4, (some .int), 4, 1, 21),
  (⟨"GreatestFlowModel", "bound", "(II)I"⟩, prog_6_method_25_code, 3, (some .int), 4, 1, 21),
  (⟨"GreatestFlowModel", "arc", "(IIII)I"⟩, prog_6_method_26_code, 5, (some .int), 4, 1, 21),
  (⟨"GreatestFlowModel", "change", "(III)I"⟩, prog_6_method_27_code, 4, (some .int), 4, 1, 21),
  (⟨"GreatestFlowModel", "drop", "(I)I"⟩, prog_6_method_28_code, 4, (some .int), 4, 1, 21),
  (⟨"GreatestFlowModel", "clear", "()I"⟩, prog_6_method_29_code, 2, (some .int), 4, 0, 0),
  (⟨"GreatestFlowModel", "run", "()I"⟩, prog_6_method_30_code, 1, (some .int), 4, 6, 140),
  (⟨"GreatestFlowModel", "isWay", "(I)Z"⟩, prog_6_method_31_code, 1, (some .boolean), 4, 0, 0),
  (⟨"GreatestFlowModel", "value", "(I)I"⟩, prog_6_method_32_code, 2, (some .int), 4, 6, 140),
  (⟨"GreatestFlowModel", "on", "(II)I"⟩, prog_6_method_33_code, 3, (some .int), 4, 6, 140),
  (⟨"GreatestFlowModel", "through", "(II)I"⟩, prog_6_method_34_code, 5, (some .int), 4, 6, 140),
  (⟨"GreatestFlowModel", "asKind", "(II)I"⟩, prog_6_method_35_code, 3, (some .int), 4, 6, 140),
  (⟨"GreatestFlowModel", "near", "(I)I"⟩, prog_6_method_36_code, 2, (some .int), 4, 7, 162),
  (⟨"GreatestFlowModel", "far", "(I)I"⟩, prog_6_method_37_code, 2, (some .int), 4, 7, 162),
  (⟨"GreatestFlowModel", "tight", "(I)I"⟩, prog_6_method_38_code, 2, (some .int), 4, 6, 140),
  (⟨"GreatestFlowModel", "barred", "(I)I"⟩, prog_6_method_39_code, 4, (some .int), 4, 6, 140),
  (⟨"GreatestFlowModel", "streams", "()I"⟩, prog_6_method_40_code, 1, (some .int), 4, 6, 140),
  (⟨"GreatestFlowModel", "stream", "(II)I"⟩, prog_6_method_41_code, 3, (some .int), 4, 6, 140),
  (⟨"java/lang/Math", "abs", "(I)I"⟩, prog_7_method_59_code, 1, (some .int), 5, 0, 0),
  (⟨"java/lang/Math", "max", "(II)I"⟩, prog_7_method_65_code, 2, (some .int), 5, 0, 0),
  (⟨"java/lang/Math", "min", "(II)I"⟩, prog_7_method_69_code, 2, (some .int), 5, 0, 0),
  (⟨"java/util/Arrays", "fill", "([II)V"⟩, prog_9_method_103_code, 4, none, 6, 0, 0)]
def gx_m (μ : Nat) : MethodName × ByteArray × Nat × Option FieldType × Nat × Nat × Nat := gx_mm.getD μ (⟨"", "", ""⟩, ⟨#[]⟩, 0, none, 0, 0, 0)
abbrev gx_y (μ : Nat) : MethodName := (gx_m μ).1
abbrev gx_code (μ : Nat) : ByteArray := (gx_m μ).2.1
abbrev gx_mL (μ : Nat) : Nat := (gx_m μ).2.2.1
abbrev gx_ret (μ : Nat) : Option FieldType := (gx_m μ).2.2.2.1
abbrev gx_on (μ : Nat) : Nat := (gx_m μ).2.2.2.2.1
abbrev gx_rm (μ : Nat) : Room := { frames := (gx_m μ).2.2.2.2.2.1, cells := 0, slots := 0, locals := (gx_m μ).2.2.2.2.2.2 }
def gx_wd (μ : Nat) : List Cond := .code (gx_y μ) (gx_code μ) (gx_mL μ) (gx_ret μ) :: gx_TBL
theorem gx_k0 : Cond.code (gx_y 0) (gx_code 0) (gx_mL 0) (gx_ret 0) ∈ gx_TBL := gx_in1 200 rfl rfl
theorem gx_k1 : Cond.code (gx_y 1) (gx_code 1) (gx_mL 1) (gx_ret 1) ∈ gx_TBL := gx_in1 224 rfl rfl
theorem gx_k2 : Cond.code (gx_y 2) (gx_code 2) (gx_mL 2) (gx_ret 2) ∈ gx_TBL := gx_in1 192 rfl rfl
theorem gx_k3 : Cond.code (gx_y 3) (gx_code 3) (gx_mL 3) (gx_ret 3) ∈ gx_TBL := gx_in1 216 rfl rfl
theorem gx_k4 : Cond.code (gx_y 4) (gx_code 4) (gx_mL 4) (gx_ret 4) ∈ gx_TBL := gx_in1 232 rfl rfl
theorem gx_k5 : Cond.code (gx_y 5) (gx_code 5) (gx_mL 5) (gx_ret 5) ∈ gx_TBL := gx_in2 0 rfl rfl
theorem gx_k6 : Cond.code (gx_y 6) (gx_code 6) (gx_mL 6) (gx_ret 6) ∈ gx_TBL := gx_in2 116 rfl rfl
theorem gx_k7 : Cond.code (gx_y 7) (gx_code 7) (gx_mL 7) (gx_ret 7) ∈ gx_TBL := gx_in2 120 rfl rfl
theorem gx_k8 : Cond.code (gx_y 8) (gx_code 8) (gx_mL 8) (gx_ret 8) ∈ gx_TBL := gx_in2 16 rfl rfl
theorem gx_k9 : Cond.code (gx_y 9) (gx_code 9) (gx_mL 9) (gx_ret 9) ∈ gx_TBL := gx_in2 29 rfl rfl
theorem gx_k10 : Cond.code (gx_y 10) (gx_code 10) (gx_mL 10) (gx_ret 10) ∈ gx_TBL := gx_in2 33 rfl rfl
theorem gx_k11 : Cond.code (gx_y 11) (gx_code 11) (gx_mL 11) (gx_ret 11) ∈ gx_TBL := gx_in2 77 rfl rfl
theorem gx_k12 : Cond.code (gx_y 12) (gx_code 12) (gx_mL 12) (gx_ret 12) ∈ gx_TBL := gx_in2 95 rfl rfl
theorem gx_k13 : Cond.code (gx_y 13) (gx_code 13) (gx_mL 13) (gx_ret 13) ∈ gx_TBL := gx_in2 104 rfl rfl
theorem gx_k14 : Cond.code (gx_y 14) (gx_code 14) (gx_mL 14) (gx_ret 14) ∈ gx_TBL := gx_in2 41 rfl rfl
theorem gx_k15 : Cond.code (gx_y 15) (gx_code 15) (gx_mL 15) (gx_ret 15) ∈ gx_TBL := gx_in2 45 rfl rfl
theorem gx_k16 : Cond.code (gx_y 16) (gx_code 16) (gx_mL 16) (gx_ret 16) ∈ gx_TBL := gx_in2 100 rfl rfl
theorem gx_k17 : Cond.code (gx_y 17) (gx_code 17) (gx_mL 17) (gx_ret 17) ∈ gx_TBL := gx_in2 52 rfl rfl
theorem gx_k18 : Cond.code (gx_y 18) (gx_code 18) (gx_mL 18) (gx_ret 18) ∈ gx_TBL := gx_in2 56 rfl rfl
theorem gx_k19 : Cond.code (gx_y 19) (gx_code 19) (gx_mL 19) (gx_ret 19) ∈ gx_TBL := gx_in2 68 rfl rfl
theorem gx_k20 : Cond.code (gx_y 20) (gx_code 20) (gx_mL 20) (gx_ret 20) ∈ gx_TBL := gx_in2 73 rfl rfl
theorem gx_k21 : Cond.code (gx_y 21) (gx_code 21) (gx_mL 21) (gx_ret 21) ∈ gx_TBL := gx_in2 60 rfl rfl
theorem gx_k22 : Cond.code (gx_y 22) (gx_code 22) (gx_mL 22) (gx_ret 22) ∈ gx_TBL := gx_in2 64 rfl rfl
theorem gx_k23 : Cond.code (gx_y 23) (gx_code 23) (gx_mL 23) (gx_ret 23) ∈ gx_TBL := gx_in2 204 rfl rfl
theorem gx_k24 : Cond.code (gx_y 24) (gx_code 24) (gx_mL 24) (gx_ret 24) ∈ gx_TBL := gx_in2 163 rfl rfl
theorem gx_k25 : Cond.code (gx_y 25) (gx_code 25) (gx_mL 25) (gx_ret 25) ∈ gx_TBL := gx_in2 173 rfl rfl
theorem gx_k26 : Cond.code (gx_y 26) (gx_code 26) (gx_mL 26) (gx_ret 26) ∈ gx_TBL := gx_in2 177 rfl rfl
theorem gx_k27 : Cond.code (gx_y 27) (gx_code 27) (gx_mL 27) (gx_ret 27) ∈ gx_TBL := gx_in2 196 rfl rfl
theorem gx_k28 : Cond.code (gx_y 28) (gx_code 28) (gx_mL 28) (gx_ret 28) ∈ gx_TBL := gx_in2 182 rfl rfl
theorem gx_k29 : Cond.code (gx_y 29) (gx_code 29) (gx_mL 29) (gx_ret 29) ∈ gx_TBL := gx_in2 186 rfl rfl
theorem gx_k30 : Cond.code (gx_y 30) (gx_code 30) (gx_mL 30) (gx_ret 30) ∈ gx_TBL := gx_in2 192 rfl rfl
theorem gx_k31 : Cond.code (gx_y 31) (gx_code 31) (gx_mL 31) (gx_ret 31) ∈ gx_TBL := gx_in1 184 rfl rfl
theorem gx_k32 : Cond.code (gx_y 32) (gx_code 32) (gx_mL 32) (gx_ret 32) ∈ gx_TBL := gx_in1 196 rfl rfl
theorem gx_k33 : Cond.code (gx_y 33) (gx_code 33) (gx_mL 33) (gx_ret 33) ∈ gx_TBL := gx_in1 204 rfl rfl
theorem gx_k34 : Cond.code (gx_y 34) (gx_code 34) (gx_mL 34) (gx_ret 34) ∈ gx_TBL := gx_in1 209 rfl rfl
theorem gx_k35 : Cond.code (gx_y 35) (gx_code 35) (gx_mL 35) (gx_ret 35) ∈ gx_TBL := gx_in1 220 rfl rfl
theorem gx_k36 : Cond.code (gx_y 36) (gx_code 36) (gx_mL 36) (gx_ret 36) ∈ gx_TBL := gx_in1 228 rfl rfl
theorem gx_k37 : Cond.code (gx_y 37) (gx_code 37) (gx_mL 37) (gx_ret 37) ∈ gx_TBL := gx_in1 236 rfl rfl
theorem gx_k38 : Cond.code (gx_y 38) (gx_code 38) (gx_mL 38) (gx_ret 38) ∈ gx_TBL := gx_in2 4 rfl rfl
theorem gx_k39 : Cond.code (gx_y 39) (gx_code 39) (gx_mL 39) (gx_ret 39) ∈ gx_TBL := gx_in2 84 rfl rfl
theorem gx_k40 : Cond.code (gx_y 40) (gx_code 40) (gx_mL 40) (gx_ret 40) ∈ gx_TBL := gx_in2 108 rfl rfl
theorem gx_k41 : Cond.code (gx_y 41) (gx_code 41) (gx_mL 41) (gx_ret 41) ∈ gx_TBL := gx_in2 112 rfl rfl
theorem gx_k42 : Cond.code (gx_y 42) (gx_code 42) (gx_mL 42) (gx_ret 42) ∈ gx_TBL := gx_in2 127 rfl rfl
theorem gx_k43 : Cond.code (gx_y 43) (gx_code 43) (gx_mL 43) (gx_ret 43) ∈ gx_TBL := gx_in2 139 rfl rfl
theorem gx_k44 : Cond.code (gx_y 44) (gx_code 44) (gx_mL 44) (gx_ret 44) ∈ gx_TBL := gx_in2 143 rfl rfl
theorem gx_k45 : Cond.code (gx_y 45) (gx_code 45) (gx_mL 45) (gx_ret 45) ∈ gx_TBL := gx_in2 147 rfl rfl
theorem gx_k46 : Cond.code (gx_y 46) (gx_code 46) (gx_mL 46) (gx_ret 46) ∈ gx_TBL := gx_in2 155 rfl rfl
theorem gx_k47 : Cond.code (gx_y 47) (gx_code 47) (gx_mL 47) (gx_ret 47) ∈ gx_TBL := gx_in2 200 rfl rfl
theorem gx_k48 : Cond.code (gx_y 48) (gx_code 48) (gx_mL 48) (gx_ret 48) ∈ gx_TBL := gx_in2 87 rfl rfl
theorem gx_k49 : Cond.code (gx_y 49) (gx_code 49) (gx_mL 49) (gx_ret 49) ∈ gx_TBL := gx_in1 212 rfl rfl
theorem gx_k50 : Cond.code (gx_y 50) (gx_code 50) (gx_mL 50) (gx_ret 50) ∈ gx_TBL := gx_in2 22 rfl rfl
theorem gx_k51 : Cond.code (gx_y 51) (gx_code 51) (gx_mL 51) (gx_ret 51) ∈ gx_TBL := gx_in2 25 rfl rfl
theorem gx_k52 : Cond.code (gx_y 52) (gx_code 52) (gx_mL 52) (gx_ret 52) ∈ gx_TBL := gx_in1 188 rfl rfl
theorem gx_k53 : Cond.code (gx_y 53) (gx_code 53) (gx_mL 53) (gx_ret 53) ∈ gx_TBL := gx_in2 8 rfl rfl
theorem gx_k54 : Cond.code (gx_y 54) (gx_code 54) (gx_mL 54) (gx_ret 54) ∈ gx_TBL := gx_in2 91 rfl rfl
theorem gx_k55 : Cond.code (gx_y 55) (gx_code 55) (gx_mL 55) (gx_ret 55) ∈ gx_TBL := gx_in2 12 rfl rfl
theorem gx_k56 : Cond.code (gx_y 56) (gx_code 56) (gx_mL 56) (gx_ret 56) ∈ gx_TBL := gx_in2 37 rfl rfl
theorem gx_k57 : Cond.code (gx_y 57) (gx_code 57) (gx_mL 57) (gx_ret 57) ∈ gx_TBL := gx_in2 135 rfl rfl
theorem gx_k58 : Cond.code (gx_y 58) (gx_code 58) (gx_mL 58) (gx_ret 58) ∈ gx_TBL := gx_in2 131 rfl rfl
theorem gx_k59 : Cond.code (gx_y 59) (gx_code 59) (gx_mL 59) (gx_ret 59) ∈ gx_TBL := gx_in2 151 rfl rfl
theorem gx_k60 : Cond.code (gx_y 60) (gx_code 60) (gx_mL 60) (gx_ret 60) ∈ gx_TBL := gx_in2 159 rfl rfl
theorem gx_k61 : Cond.code (gx_y 61) (gx_code 61) (gx_mL 61) (gx_ret 61) ∈ gx_TBL := gx_in3 123 rfl rfl
theorem gx_k62 : Cond.code (gx_y 62) (gx_code 62) (gx_mL 62) (gx_ret 62) ∈ gx_TBL := gx_in3 119 rfl rfl
theorem gx_k63 : Cond.code (gx_y 63) (gx_code 63) (gx_mL 63) (gx_ret 63) ∈ gx_TBL := gx_in3 127 rfl rfl
theorem gx_k64 : Cond.code (gx_y 64) (gx_code 64) (gx_mL 64) (gx_ret 64) ∈ gx_TBL := gx_in3 115 rfl rfl
theorem gx_k65 : Cond.code (gx_y 65) (gx_code 65) (gx_mL 65) (gx_ret 65) ∈ gx_TBL := gx_in3 110 rfl rfl
theorem gx_k66 : Cond.code (gx_y 66) (gx_code 66) (gx_mL 66) (gx_ret 66) ∈ gx_TBL := gx_in3 135 rfl rfl
theorem gx_k67 : Cond.code (gx_y 67) (gx_code 67) (gx_mL 67) (gx_ret 67) ∈ gx_TBL := gx_in3 139 rfl rfl
theorem gx_k68 : Cond.code (gx_y 68) (gx_code 68) (gx_mL 68) (gx_ret 68) ∈ gx_TBL := gx_in3 131 rfl rfl
theorem gx_k69 : Cond.code (gx_y 69) (gx_code 69) (gx_mL 69) (gx_ret 69) ∈ gx_TBL := gx_in3 175 rfl rfl
theorem gx_k70 : Cond.code (gx_y 70) (gx_code 70) (gx_mL 70) (gx_ret 70) ∈ gx_TBL := gx_in3 106 rfl rfl
theorem gx_k71 : Cond.code (gx_y 71) (gx_code 71) (gx_mL 71) (gx_ret 71) ∈ gx_TBL := gx_in3 151 rfl rfl
theorem gx_k72 : Cond.code (gx_y 72) (gx_code 72) (gx_mL 72) (gx_ret 72) ∈ gx_TBL := gx_in3 147 rfl rfl
theorem gx_k73 : Cond.code (gx_y 73) (gx_code 73) (gx_mL 73) (gx_ret 73) ∈ gx_TBL := gx_in3 163 rfl rfl
theorem gx_k74 : Cond.code (gx_y 74) (gx_code 74) (gx_mL 74) (gx_ret 74) ∈ gx_TBL := gx_in3 167 rfl rfl
theorem gx_k75 : Cond.code (gx_y 75) (gx_code 75) (gx_mL 75) (gx_ret 75) ∈ gx_TBL := gx_in3 171 rfl rfl
theorem gx_k76 : Cond.code (gx_y 76) (gx_code 76) (gx_mL 76) (gx_ret 76) ∈ gx_TBL := gx_in3 143 rfl rfl
theorem gx_k77 : Cond.code (gx_y 77) (gx_code 77) (gx_mL 77) (gx_ret 77) ∈ gx_TBL := gx_in3 155 rfl rfl
theorem gx_k78 : Cond.code (gx_y 78) (gx_code 78) (gx_mL 78) (gx_ret 78) ∈ gx_TBL := gx_in3 159 rfl rfl
theorem gx_k79 : Cond.code (gx_y 79) (gx_code 79) (gx_mL 79) (gx_ret 79) ∈ gx_TBL := gx_in3 70 rfl rfl
theorem gx_k80 : Cond.code (gx_y 80) (gx_code 80) (gx_mL 80) (gx_ret 80) ∈ gx_TBL := gx_in3 90 rfl rfl
theorem gx_k81 : Cond.code (gx_y 81) (gx_code 81) (gx_mL 81) (gx_ret 81) ∈ gx_TBL := gx_in3 82 rfl rfl
theorem gx_k82 : Cond.code (gx_y 82) (gx_code 82) (gx_mL 82) (gx_ret 82) ∈ gx_TBL := gx_in3 62 rfl rfl
theorem gx_k83 : Cond.code (gx_y 83) (gx_code 83) (gx_mL 83) (gx_ret 83) ∈ gx_TBL := gx_in3 66 rfl rfl
theorem gx_k84 : Cond.code (gx_y 84) (gx_code 84) (gx_mL 84) (gx_ret 84) ∈ gx_TBL := gx_in3 74 rfl rfl
theorem gx_k85 : Cond.code (gx_y 85) (gx_code 85) (gx_mL 85) (gx_ret 85) ∈ gx_TBL := gx_in3 79 rfl rfl
theorem gx_k86 : Cond.code (gx_y 86) (gx_code 86) (gx_mL 86) (gx_ret 86) ∈ gx_TBL := gx_in3 86 rfl rfl
theorem gx_k87 : Cond.code (gx_y 87) (gx_code 87) (gx_mL 87) (gx_ret 87) ∈ gx_TBL := gx_in3 94 rfl rfl
theorem gx_k88 : Cond.code (gx_y 88) (gx_code 88) (gx_mL 88) (gx_ret 88) ∈ gx_TBL := gx_in3 98 rfl rfl
theorem gx_k89 : Cond.code (gx_y 89) (gx_code 89) (gx_mL 89) (gx_ret 89) ∈ gx_TBL := gx_in3 102 rfl rfl
theorem gx_k90 : Cond.code (gx_y 90) (gx_code 90) (gx_mL 90) (gx_ret 90) ∈ gx_TBL := gx_in3 182 rfl rfl
theorem gx_k91 : Cond.code (gx_y 91) (gx_code 91) (gx_mL 91) (gx_ret 91) ∈ gx_TBL := gx_in3 179 rfl rfl
theorem gx_k92 : Cond.code (gx_y 92) (gx_code 92) (gx_mL 92) (gx_ret 92) ∈ gx_TBL := gx_in3 186 rfl rfl
theorem gx_k93 : Cond.code (gx_y 93) (gx_code 93) (gx_mL 93) (gx_ret 93) ∈ gx_TBL := gx_in3 190 rfl rfl
theorem gx_k94 : Cond.code (gx_y 94) (gx_code 94) (gx_mL 94) (gx_ret 94) ∈ gx_TBL := gx_in3 198 rfl rfl
theorem gx_k95 : Cond.code (gx_y 95) (gx_code 95) (gx_mL 95) (gx_ret 95) ∈ gx_TBL := gx_in3 194 rfl rfl
theorem gx_k96 : Cond.code (gx_y 96) (gx_code 96) (gx_mL 96) (gx_ret 96) ∈ gx_TBL := gx_in3 202 rfl rfl
theorem gx_k97 : Cond.code (gx_y 97) (gx_code 97) (gx_mL 97) (gx_ret 97) ∈ gx_TBL := gx_in3 206 rfl rfl
theorem gx_k98 : Cond.code (gx_y 98) (gx_code 98) (gx_mL 98) (gx_ret 98) ∈ gx_TBL := gx_in3 210 rfl rfl
theorem gx_k99 : Cond.code (gx_y 99) (gx_code 99) (gx_mL 99) (gx_ret 99) ∈ gx_TBL := gx_in3 214 rfl rfl
theorem gx_k100 : Cond.code (gx_y 100) (gx_code 100) (gx_mL 100) (gx_ret 100) ∈ gx_TBL := gx_in3 218 rfl rfl
theorem gx_k101 : Cond.code (gx_y 101) (gx_code 101) (gx_mL 101) (gx_ret 101) ∈ gx_TBL := gx_in2 169 rfl rfl
theorem gx_k102 : Cond.code (gx_y 102) (gx_code 102) (gx_mL 102) (gx_ret 102) ∈ gx_TBL := gx_in2 123 rfl rfl
theorem gx_k103 : Cond.code (gx_y 103) (gx_code 103) (gx_mL 103) (gx_ret 103) ∈ gx_TBL := gx_in2 48 rfl rfl
theorem gx_k104 : Cond.code (gx_y 104) (gx_code 104) (gx_mL 104) (gx_ret 104) ∈ gx_TBL := gx_in2 19 rfl rfl
