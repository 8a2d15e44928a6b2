/-! Links; places: printed by wip/gen.py. -/
def gx_os (k : Nat) : String := match k with
  | 0 => "GreatestFlow$Graph"
  | 1 => "GreatestFlow$Net"
  | 2 => "GreatestFlow$Parts"
  | 3 => "GreatestFlow"
  | 4 => "GreatestFlowModel"
  | 5 => "java/lang/Math"
  | _ => "java/util/Arrays"
set_option maxRecDepth 20000 in
theorem gx_own : ∀ μ, μ < 105 → (gx_y μ).cls = gx_os (gx_on μ) := by decide +kernel
set_option maxRecDepth 20000 in
theorem gx_pln : ∀ μ, μ < 105 → plainFor (gx_y μ) = true := by decide +kernel
theorem gx_nf : ∀ (ci : Nat) (q : vw_C), gx_cl[ci]? = some q → ∀ k, k < q.2.2 → (gx_ty ci k = .int ∨ gx_ty ci k = .boolean) → (q.2.1 k).2.2.2 = false := by
  intro ci q h
  match ci, h with
  | 0, h => cases h; decide +kernel
  | 1, h => cases h; decide +kernel
  | 2, h => cases h; decide +kernel
  | 3, h => cases h; decide +kernel
  | 4, h => cases h; decide +kernel
  | k + 5, h => cases h
/-- owner and place in its pool; then the kind of object and the field -/
def gx_fT : List ((Nat × Nat) × (Nat × Nat)) := [((0, 9), (0, 0)), ((0, 15), (0, 1)), ((0, 18), (0, 2)), ((0, 21), (0, 3)), ((0, 24), (0, 4)), ((0, 27), (0, 5)), ((0, 30), (0, 6)), ((0, 34), (0, 7)), ((0, 38), (0, 8)), ((0, 41), (0, 9)), ((1, 9), (1, 0)), ((1, 15), (1, 1)), ((1, 18), (1, 2)), ((1, 21), (1, 3)), ((1, 24), (1, 4)), ((1, 27), (1, 5)), ((1, 31), (1, 6)), ((1, 34), (1, 7)), ((1, 37), (1, 8)), ((1, 40), (1, 9)), ((2, 9), (2, 0)), ((2, 15), (2, 1)), ((2, 18), (2, 3)), ((2, 21), (2, 4)), ((2, 24), (2, 5)), ((2, 27), (2, 6)), ((2, 30), (2, 7)), ((2, 33), (2, 2)), ((2, 43), (0, 7)), ((2, 69), (0, 0)), ((2, 93), (0, 3)), ((2, 96), (0, 8)), ((2, 99), (0, 2)), ((3, 12), (3, 0)), ((3, 19), (3, 1)), ((3, 26), (3, 2)), ((3, 30), (3, 3)), ((3, 36), (3, 4)), ((3, 39), (3, 5)), ((3, 43), (3, 6)), ((3, 46), (0, 7)), ((3, 61), (0, 0)), ((3, 65), (0, 1)), ((3, 72), (0, 8)), ((3, 82), (0, 4)), ((3, 85), (0, 5)), ((3, 125), (1, 1)), ((3, 131), (3, 8)), ((3, 138), (3, 7)), ((3, 144), (2, 2)), ((3, 147), (2, 0)), ((3, 150), (2, 1)), ((3, 156), (3, 10)), ((3, 159), (3, 9)), ((3, 168), (3, 11)), ((3, 202), (0, 2)), ((3, 205), (0, 3)), ((3, 208), (1, 0)), ((4, 7), (4, 1)), ((4, 13), (4, 2)), ((4, 16), (4, 4)), ((4, 19), (4, 5)), ((4, 22), (4, 6)), ((4, 25), (4, 7)), ((4, 28), (4, 8)), ((4, 32), (4, 10)), ((4, 35), (4, 11)), ((4, 38), (4, 12)), ((4, 41), (4, 13)), ((4, 44), (4, 14)), ((4, 47), (4, 15)), ((4, 50), (4, 18)), ((4, 53), (4, 19)), ((4, 56), (4, 20)), ((4, 59), (4, 22)), ((4, 62), (4, 23)), ((4, 65), (4, 24)), ((4, 68), (4, 25)), ((4, 71), (4, 26)), ((4, 74), (4, 27)), ((4, 77), (4, 28)), ((4, 80), (4, 16)), ((4, 84), (4, 3)), ((4, 91), (4, 0)), ((4, 117), (4, 9)), ((4, 121), (4, 17)), ((4, 134), (4, 21))]
def gx_fok (q : (Nat × Nat) × (Nat × Nat)) : Prop := ∃ C T N, gx_cl[q.2.1]? = some (C, T, N) ∧ q.2.2 < N ∧ Cond.fieldLink (gx_os q.1.1) q.1.2 (T q.2.2).1 (T q.2.2).2.1 (T q.2.2).2.2.1 ∈ gx_TBL
theorem gx_f0 : gx_fok ((0, 9), (0, 0)) := ⟨_, _, _, rfl, by decide, gx_in1 23 rfl rfl⟩
theorem gx_f1 : gx_fok ((0, 15), (0, 1)) := ⟨_, _, _, rfl, by decide, gx_in1 26 rfl rfl⟩
theorem gx_f2 : gx_fok ((0, 18), (0, 2)) := ⟨_, _, _, rfl, by decide, gx_in1 28 rfl rfl⟩
theorem gx_f3 : gx_fok ((0, 21), (0, 3)) := ⟨_, _, _, rfl, by decide, gx_in1 31 rfl rfl⟩
theorem gx_f4 : gx_fok ((0, 24), (0, 4)) := ⟨_, _, _, rfl, by decide, gx_in1 34 rfl rfl⟩
theorem gx_f5 : gx_fok ((0, 27), (0, 5)) := ⟨_, _, _, rfl, by decide, gx_in1 36 rfl rfl⟩
theorem gx_f6 : gx_fok ((0, 30), (0, 6)) := ⟨_, _, _, rfl, by decide, gx_in1 38 rfl rfl⟩
theorem gx_f7 : gx_fok ((0, 34), (0, 7)) := ⟨_, _, _, rfl, by decide, gx_in1 40 rfl rfl⟩
theorem gx_f8 : gx_fok ((0, 38), (0, 8)) := ⟨_, _, _, rfl, by decide, gx_in1 42 rfl rfl⟩
theorem gx_f9 : gx_fok ((0, 41), (0, 9)) := ⟨_, _, _, rfl, by decide, gx_in1 45 rfl rfl⟩
theorem gx_f10 : gx_fok ((1, 9), (1, 0)) := ⟨_, _, _, rfl, by decide, gx_in1 75 rfl rfl⟩
theorem gx_f11 : gx_fok ((1, 15), (1, 1)) := ⟨_, _, _, rfl, by decide, gx_in1 77 rfl rfl⟩
theorem gx_f12 : gx_fok ((1, 18), (1, 2)) := ⟨_, _, _, rfl, by decide, gx_in1 79 rfl rfl⟩
theorem gx_f13 : gx_fok ((1, 21), (1, 3)) := ⟨_, _, _, rfl, by decide, gx_in1 80 rfl rfl⟩
theorem gx_f14 : gx_fok ((1, 24), (1, 4)) := ⟨_, _, _, rfl, by decide, gx_in1 81 rfl rfl⟩
theorem gx_f15 : gx_fok ((1, 27), (1, 5)) := ⟨_, _, _, rfl, by decide, gx_in1 82 rfl rfl⟩
theorem gx_f16 : gx_fok ((1, 31), (1, 6)) := ⟨_, _, _, rfl, by decide, gx_in1 83 rfl rfl⟩
theorem gx_f17 : gx_fok ((1, 34), (1, 7)) := ⟨_, _, _, rfl, by decide, gx_in1 84 rfl rfl⟩
theorem gx_f18 : gx_fok ((1, 37), (1, 8)) := ⟨_, _, _, rfl, by decide, gx_in1 85 rfl rfl⟩
theorem gx_f19 : gx_fok ((1, 40), (1, 9)) := ⟨_, _, _, rfl, by decide, gx_in1 86 rfl rfl⟩
theorem gx_f20 : gx_fok ((2, 9), (2, 0)) := ⟨_, _, _, rfl, by decide, gx_in1 114 rfl rfl⟩
theorem gx_f21 : gx_fok ((2, 15), (2, 1)) := ⟨_, _, _, rfl, by decide, gx_in1 116 rfl rfl⟩
theorem gx_f22 : gx_fok ((2, 18), (2, 3)) := ⟨_, _, _, rfl, by decide, gx_in1 120 rfl rfl⟩
theorem gx_f23 : gx_fok ((2, 21), (2, 4)) := ⟨_, _, _, rfl, by decide, gx_in1 121 rfl rfl⟩
theorem gx_f24 : gx_fok ((2, 24), (2, 5)) := ⟨_, _, _, rfl, by decide, gx_in1 122 rfl rfl⟩
theorem gx_f25 : gx_fok ((2, 27), (2, 6)) := ⟨_, _, _, rfl, by decide, gx_in1 123 rfl rfl⟩
theorem gx_f26 : gx_fok ((2, 30), (2, 7)) := ⟨_, _, _, rfl, by decide, gx_in1 124 rfl rfl⟩
theorem gx_f27 : gx_fok ((2, 33), (2, 2)) := ⟨_, _, _, rfl, by decide, gx_in1 118 rfl rfl⟩
theorem gx_f28 : gx_fok ((2, 43), (0, 7)) := ⟨_, _, _, rfl, by decide, gx_in1 41 rfl rfl⟩
theorem gx_f29 : gx_fok ((2, 69), (0, 0)) := ⟨_, _, _, rfl, by decide, gx_in1 25 rfl rfl⟩
theorem gx_f30 : gx_fok ((2, 93), (0, 3)) := ⟨_, _, _, rfl, by decide, gx_in1 32 rfl rfl⟩
theorem gx_f31 : gx_fok ((2, 96), (0, 8)) := ⟨_, _, _, rfl, by decide, gx_in1 44 rfl rfl⟩
theorem gx_f32 : gx_fok ((2, 99), (0, 2)) := ⟨_, _, _, rfl, by decide, gx_in1 29 rfl rfl⟩
theorem gx_f33 : gx_fok ((3, 12), (3, 0)) := ⟨_, _, _, rfl, by decide, gx_in1 144 rfl rfl⟩
theorem gx_f34 : gx_fok ((3, 19), (3, 1)) := ⟨_, _, _, rfl, by decide, gx_in1 145 rfl rfl⟩
theorem gx_f35 : gx_fok ((3, 26), (3, 2)) := ⟨_, _, _, rfl, by decide, gx_in1 146 rfl rfl⟩
theorem gx_f36 : gx_fok ((3, 30), (3, 3)) := ⟨_, _, _, rfl, by decide, gx_in1 147 rfl rfl⟩
theorem gx_f37 : gx_fok ((3, 36), (3, 4)) := ⟨_, _, _, rfl, by decide, gx_in1 148 rfl rfl⟩
theorem gx_f38 : gx_fok ((3, 39), (3, 5)) := ⟨_, _, _, rfl, by decide, gx_in1 149 rfl rfl⟩
theorem gx_f39 : gx_fok ((3, 43), (3, 6)) := ⟨_, _, _, rfl, by decide, gx_in1 150 rfl rfl⟩
theorem gx_f40 : gx_fok ((3, 46), (0, 7)) := ⟨_, _, _, rfl, by decide, gx_in1 39 rfl rfl⟩
theorem gx_f41 : gx_fok ((3, 61), (0, 0)) := ⟨_, _, _, rfl, by decide, gx_in1 24 rfl rfl⟩
theorem gx_f42 : gx_fok ((3, 65), (0, 1)) := ⟨_, _, _, rfl, by decide, gx_in1 27 rfl rfl⟩
theorem gx_f43 : gx_fok ((3, 72), (0, 8)) := ⟨_, _, _, rfl, by decide, gx_in1 43 rfl rfl⟩
theorem gx_f44 : gx_fok ((3, 82), (0, 4)) := ⟨_, _, _, rfl, by decide, gx_in1 35 rfl rfl⟩
theorem gx_f45 : gx_fok ((3, 85), (0, 5)) := ⟨_, _, _, rfl, by decide, gx_in1 37 rfl rfl⟩
theorem gx_f46 : gx_fok ((3, 125), (1, 1)) := ⟨_, _, _, rfl, by decide, gx_in1 78 rfl rfl⟩
theorem gx_f47 : gx_fok ((3, 131), (3, 8)) := ⟨_, _, _, rfl, by decide, gx_in1 152 rfl rfl⟩
theorem gx_f48 : gx_fok ((3, 138), (3, 7)) := ⟨_, _, _, rfl, by decide, gx_in1 151 rfl rfl⟩
theorem gx_f49 : gx_fok ((3, 144), (2, 2)) := ⟨_, _, _, rfl, by decide, gx_in1 119 rfl rfl⟩
theorem gx_f50 : gx_fok ((3, 147), (2, 0)) := ⟨_, _, _, rfl, by decide, gx_in1 115 rfl rfl⟩
theorem gx_f51 : gx_fok ((3, 150), (2, 1)) := ⟨_, _, _, rfl, by decide, gx_in1 117 rfl rfl⟩
theorem gx_f52 : gx_fok ((3, 156), (3, 10)) := ⟨_, _, _, rfl, by decide, gx_in1 154 rfl rfl⟩
theorem gx_f53 : gx_fok ((3, 159), (3, 9)) := ⟨_, _, _, rfl, by decide, gx_in1 153 rfl rfl⟩
theorem gx_f54 : gx_fok ((3, 168), (3, 11)) := ⟨_, _, _, rfl, by decide, gx_in1 155 rfl rfl⟩
theorem gx_f55 : gx_fok ((3, 202), (0, 2)) := ⟨_, _, _, rfl, by decide, gx_in1 30 rfl rfl⟩
theorem gx_f56 : gx_fok ((3, 205), (0, 3)) := ⟨_, _, _, rfl, by decide, gx_in1 33 rfl rfl⟩
theorem gx_f57 : gx_fok ((3, 208), (1, 0)) := ⟨_, _, _, rfl, by decide, gx_in1 76 rfl rfl⟩
theorem gx_f58 : gx_fok ((4, 7), (4, 1)) := ⟨_, _, _, rfl, by decide, gx_in2 212 rfl rfl⟩
theorem gx_f59 : gx_fok ((4, 13), (4, 2)) := ⟨_, _, _, rfl, by decide, gx_in2 213 rfl rfl⟩
theorem gx_f60 : gx_fok ((4, 16), (4, 4)) := ⟨_, _, _, rfl, by decide, gx_in2 215 rfl rfl⟩
theorem gx_f61 : gx_fok ((4, 19), (4, 5)) := ⟨_, _, _, rfl, by decide, gx_in2 216 rfl rfl⟩
theorem gx_f62 : gx_fok ((4, 22), (4, 6)) := ⟨_, _, _, rfl, by decide, gx_in2 217 rfl rfl⟩
theorem gx_f63 : gx_fok ((4, 25), (4, 7)) := ⟨_, _, _, rfl, by decide, gx_in2 218 rfl rfl⟩
theorem gx_f64 : gx_fok ((4, 28), (4, 8)) := ⟨_, _, _, rfl, by decide, gx_in2 219 rfl rfl⟩
theorem gx_f65 : gx_fok ((4, 32), (4, 10)) := ⟨_, _, _, rfl, by decide, gx_in2 221 rfl rfl⟩
theorem gx_f66 : gx_fok ((4, 35), (4, 11)) := ⟨_, _, _, rfl, by decide, gx_in2 222 rfl rfl⟩
theorem gx_f67 : gx_fok ((4, 38), (4, 12)) := ⟨_, _, _, rfl, by decide, gx_in2 223 rfl rfl⟩
theorem gx_f68 : gx_fok ((4, 41), (4, 13)) := ⟨_, _, _, rfl, by decide, gx_in2 224 rfl rfl⟩
theorem gx_f69 : gx_fok ((4, 44), (4, 14)) := ⟨_, _, _, rfl, by decide, gx_in2 225 rfl rfl⟩
theorem gx_f70 : gx_fok ((4, 47), (4, 15)) := ⟨_, _, _, rfl, by decide, gx_in2 226 rfl rfl⟩
theorem gx_f71 : gx_fok ((4, 50), (4, 18)) := ⟨_, _, _, rfl, by decide, gx_in2 229 rfl rfl⟩
theorem gx_f72 : gx_fok ((4, 53), (4, 19)) := ⟨_, _, _, rfl, by decide, gx_in2 230 rfl rfl⟩
theorem gx_f73 : gx_fok ((4, 56), (4, 20)) := ⟨_, _, _, rfl, by decide, gx_in2 231 rfl rfl⟩
theorem gx_f74 : gx_fok ((4, 59), (4, 22)) := ⟨_, _, _, rfl, by decide, gx_in2 233 rfl rfl⟩
theorem gx_f75 : gx_fok ((4, 62), (4, 23)) := ⟨_, _, _, rfl, by decide, gx_in2 234 rfl rfl⟩
theorem gx_f76 : gx_fok ((4, 65), (4, 24)) := ⟨_, _, _, rfl, by decide, gx_in2 235 rfl rfl⟩
theorem gx_f77 : gx_fok ((4, 68), (4, 25)) := ⟨_, _, _, rfl, by decide, gx_in2 236 rfl rfl⟩
theorem gx_f78 : gx_fok ((4, 71), (4, 26)) := ⟨_, _, _, rfl, by decide, gx_in2 237 rfl rfl⟩
theorem gx_f79 : gx_fok ((4, 74), (4, 27)) := ⟨_, _, _, rfl, by decide, gx_in2 238 rfl rfl⟩
theorem gx_f80 : gx_fok ((4, 77), (4, 28)) := ⟨_, _, _, rfl, by decide, gx_in2 239 rfl rfl⟩
theorem gx_f81 : gx_fok ((4, 80), (4, 16)) := ⟨_, _, _, rfl, by decide, gx_in2 227 rfl rfl⟩
theorem gx_f82 : gx_fok ((4, 84), (4, 3)) := ⟨_, _, _, rfl, by decide, gx_in2 214 rfl rfl⟩
theorem gx_f83 : gx_fok ((4, 91), (4, 0)) := ⟨_, _, _, rfl, by decide, gx_in2 211 rfl rfl⟩
theorem gx_f84 : gx_fok ((4, 117), (4, 9)) := ⟨_, _, _, rfl, by decide, gx_in2 220 rfl rfl⟩
theorem gx_f85 : gx_fok ((4, 121), (4, 17)) := ⟨_, _, _, rfl, by decide, gx_in2 228 rfl rfl⟩
theorem gx_f86 : gx_fok ((4, 134), (4, 21)) := ⟨_, _, _, rfl, by decide, gx_in2 232 rfl rfl⟩
set_option maxRecDepth 20000 in
theorem gx_fTok : ∀ q ∈ gx_fT, gx_fok q := List.forall_mem_cons.mpr ⟨gx_f0, List.forall_mem_cons.mpr ⟨gx_f1, List.forall_mem_cons.mpr ⟨gx_f2, List.forall_mem_cons.mpr ⟨gx_f3, List.forall_mem_cons.mpr ⟨gx_f4, List.forall_mem_cons.mpr ⟨gx_f5, List.forall_mem_cons.mpr ⟨gx_f6, List.forall_mem_cons.mpr ⟨gx_f7, List.forall_mem_cons.mpr ⟨gx_f8, List.forall_mem_cons.mpr ⟨gx_f9, List.forall_mem_cons.mpr ⟨gx_f10, List.forall_mem_cons.mpr ⟨gx_f11, List.forall_mem_cons.mpr ⟨gx_f12, List.forall_mem_cons.mpr ⟨gx_f13, List.forall_mem_cons.mpr ⟨gx_f14, List.forall_mem_cons.mpr ⟨gx_f15, List.forall_mem_cons.mpr ⟨gx_f16, List.forall_mem_cons.mpr ⟨gx_f17, List.forall_mem_cons.mpr ⟨gx_f18, List.forall_mem_cons.mpr ⟨gx_f19, List.forall_mem_cons.mpr ⟨gx_f20, List.forall_mem_cons.mpr ⟨gx_f21, List.forall_mem_cons.mpr ⟨gx_f22, List.forall_mem_cons.mpr ⟨gx_f23, List.forall_mem_cons.mpr ⟨gx_f24, List.forall_mem_cons.mpr ⟨gx_f25, List.forall_mem_cons.mpr ⟨gx_f26, List.forall_mem_cons.mpr ⟨gx_f27, List.forall_mem_cons.mpr ⟨gx_f28, List.forall_mem_cons.mpr ⟨gx_f29, List.forall_mem_cons.mpr ⟨gx_f30, List.forall_mem_cons.mpr ⟨gx_f31, List.forall_mem_cons.mpr ⟨gx_f32, List.forall_mem_cons.mpr ⟨gx_f33, List.forall_mem_cons.mpr ⟨gx_f34, List.forall_mem_cons.mpr ⟨gx_f35, List.forall_mem_cons.mpr ⟨gx_f36, List.forall_mem_cons.mpr ⟨gx_f37, List.forall_mem_cons.mpr ⟨gx_f38, List.forall_mem_cons.mpr ⟨gx_f39, List.forall_mem_cons.mpr ⟨gx_f40, List.forall_mem_cons.mpr ⟨gx_f41, List.forall_mem_cons.mpr ⟨gx_f42, List.forall_mem_cons.mpr ⟨gx_f43, List.forall_mem_cons.mpr ⟨gx_f44, List.forall_mem_cons.mpr ⟨gx_f45, List.forall_mem_cons.mpr ⟨gx_f46, List.forall_mem_cons.mpr ⟨gx_f47, List.forall_mem_cons.mpr ⟨gx_f48, List.forall_mem_cons.mpr ⟨gx_f49, List.forall_mem_cons.mpr ⟨gx_f50, List.forall_mem_cons.mpr ⟨gx_f51, List.forall_mem_cons.mpr ⟨gx_f52, List.forall_mem_cons.mpr ⟨gx_f53, List.forall_mem_cons.mpr ⟨gx_f54, List.forall_mem_cons.mpr ⟨gx_f55, List.forall_mem_cons.mpr ⟨gx_f56, List.forall_mem_cons.mpr ⟨gx_f57, List.forall_mem_cons.mpr ⟨gx_f58, List.forall_mem_cons.mpr ⟨gx_f59, List.forall_mem_cons.mpr ⟨gx_f60, List.forall_mem_cons.mpr ⟨gx_f61, List.forall_mem_cons.mpr ⟨gx_f62, List.forall_mem_cons.mpr ⟨gx_f63, List.forall_mem_cons.mpr ⟨gx_f64, List.forall_mem_cons.mpr ⟨gx_f65, List.forall_mem_cons.mpr ⟨gx_f66, List.forall_mem_cons.mpr ⟨gx_f67, List.forall_mem_cons.mpr ⟨gx_f68, List.forall_mem_cons.mpr ⟨gx_f69, List.forall_mem_cons.mpr ⟨gx_f70, List.forall_mem_cons.mpr ⟨gx_f71, List.forall_mem_cons.mpr ⟨gx_f72, List.forall_mem_cons.mpr ⟨gx_f73, List.forall_mem_cons.mpr ⟨gx_f74, List.forall_mem_cons.mpr ⟨gx_f75, List.forall_mem_cons.mpr ⟨gx_f76, List.forall_mem_cons.mpr ⟨gx_f77, List.forall_mem_cons.mpr ⟨gx_f78, List.forall_mem_cons.mpr ⟨gx_f79, List.forall_mem_cons.mpr ⟨gx_f80, List.forall_mem_cons.mpr ⟨gx_f81, List.forall_mem_cons.mpr ⟨gx_f82, List.forall_mem_cons.mpr ⟨gx_f83, List.forall_mem_cons.mpr ⟨gx_f84, List.forall_mem_cons.mpr ⟨gx_f85, List.forall_mem_cons.mpr ⟨gx_f86, fun _ h => absurd h List.not_mem_nil⟩⟩⟩⟩⟩⟩⟩⟩⟩⟩⟩⟩⟩⟩⟩⟩⟩⟩⟩⟩⟩⟩⟩⟩⟩⟩⟩⟩⟩⟩⟩⟩⟩⟩⟩⟩⟩⟩⟩⟩⟩⟩⟩⟩⟩⟩⟩⟩⟩⟩⟩⟩⟩⟩⟩⟩⟩⟩⟩⟩⟩⟩⟩⟩⟩⟩⟩⟩⟩⟩⟩⟩⟩⟩⟩⟩⟩⟩⟩⟩⟩⟩⟩⟩⟩⟩⟩
def gx_fl (a b : Nat) : Option (Nat × Nat) := gx_fT.lookup (a, b)
def gx_cT : List ((Nat × Nat) × Int32) := [((1, 89), 100000), ((2, 105), 100000), ((3, 64), 100000), ((4, 94), 1000000), ((4, 165), 100000)]
theorem gx_c0 : Cond.constant (gx_os 1) 89 100000 ∈ gx_TBL := gx_in2 69 rfl rfl
theorem gx_c1 : Cond.constant (gx_os 2) 105 100000 ∈ gx_TBL := gx_in2 187 rfl rfl
theorem gx_c2 : Cond.constant (gx_os 3) 64 100000 ∈ gx_TBL := gx_in1 205 rfl rfl
theorem gx_c3 : Cond.constant (gx_os 4) 94 1000000 ∈ gx_TBL := gx_in3 111 rfl rfl
theorem gx_c4 : Cond.constant (gx_os 4) 165 100000 ∈ gx_TBL := gx_in3 75 rfl rfl
theorem gx_cTok : ∀ q ∈ gx_cT, Cond.constant (gx_os q.1.1) q.1.2 q.2 ∈ gx_TBL := List.forall_mem_cons.mpr ⟨gx_c0, List.forall_mem_cons.mpr ⟨gx_c1, List.forall_mem_cons.mpr ⟨gx_c2, List.forall_mem_cons.mpr ⟨gx_c3, List.forall_mem_cons.mpr ⟨gx_c4, fun _ h => absurd h List.not_mem_nil⟩⟩⟩⟩⟩
def gx_cn (a b : Nat) : Option Int32 := gx_cT.lookup (a, b)
/-- owner and place in its pool; then the method, how many values it takes (its object among them), whether it has an object -/
def gx_mT : List ((Nat × Nat) × (Nat × Nat × Bool)) := [((1, 43), (104, 2, false)), ((1, 49), (10, 3, true)), ((1, 59), (15, 3, true)), ((1, 63), (103, 2, false)), ((1, 68), (17, 4, true)), ((1, 72), (18, 3, true)), ((1, 76), (19, 2, true)), ((1, 80), (20, 3, true)), ((1, 83), (21, 2, true)), ((1, 86), (22, 2, true)), ((2, 48), (7, 3, true)), ((2, 52), (6, 3, true)), ((2, 55), (101, 1, false)), ((2, 61), (25, 2, true)), ((2, 65), (26, 3, true)), ((2, 72), (104, 2, false)), ((2, 78), (28, 4, true)), ((2, 82), (29, 3, true)), ((2, 86), (30, 4, true)), ((2, 89), (27, 3, true)), ((2, 102), (103, 2, false)), ((3, 50), (52, 1, true)), ((3, 53), (2, 1, true)), ((3, 57), (0, 2, true)), ((3, 68), (49, 2, false)), ((3, 75), (3, 5, true)), ((3, 79), (1, 2, true)), ((3, 88), (4, 2, true)), ((3, 92), (5, 1, true)), ((3, 95), (53, 1, true)), ((3, 99), (48, 1, false)), ((3, 102), (54, 2, true)), ((3, 106), (6, 3, true)), ((3, 110), (7, 3, true)), ((3, 113), (102, 2, false)), ((3, 119), (58, 3, true)), ((3, 122), (57, 1, true)), ((3, 128), (15, 3, true)), ((3, 135), (59, 1, true)), ((3, 141), (60, 1, true)), ((3, 153), (23, 3, true)), ((3, 162), (55, 1, true)), ((3, 165), (14, 1, true)), ((3, 171), (11, 2, true)), ((3, 175), (12, 2, true)), ((3, 178), (16, 2, true)), ((3, 182), (13, 2, true)), ((3, 185), (8, 1, true)), ((3, 188), (50, 1, false)), ((3, 191), (51, 1, false)), ((3, 194), (9, 6, true)), ((3, 198), (56, 3, true)), ((3, 211), (24, 3, true)), ((4, 87), (61, 5, true)), ((4, 95), (62, 3, true)), ((4, 99), (63, 1, true)), ((4, 103), (64, 3, true)), ((4, 107), (65, 1, true)), ((4, 110), (66, 1, true)), ((4, 114), (67, 1, true)), ((4, 124), (68, 2, true)), ((4, 128), (76, 1, true)), ((4, 131), (69, 1, true)), ((4, 137), (72, 3, true)), ((4, 141), (71, 3, true)), ((4, 144), (77, 1, true)), ((4, 147), (78, 2, true)), ((4, 150), (73, 2, true)), ((4, 154), (74, 3, true)), ((4, 157), (75, 4, true)), ((4, 161), (79, 2, true)), ((4, 166), (81, 2, false)), ((4, 169), (80, 2, true)), ((4, 172), (70, 1, true)), ((4, 175), (90, 1, false)), ((4, 178), (94, 3, true))]
def gx_mok (q : (Nat × Nat) × (Nat × Nat × Bool)) : Prop := q.2.1 < 105 ∧ Cond.methodLink (gx_os q.1.1) q.1.2 (gx_y q.2.1) ∈ gx_TBL ∧ Cond.initialized (gx_y q.2.1).cls ∈ gx_TBL ∧ (gx_y q.2.1).cls ≠ "java/lang/invoke/MethodHandle" ∧ (gx_y q.2.1).cls ≠ "java/lang/invoke/VarHandle" ∧ (parseMethodDescriptor (gx_y q.2.1).desc).map (fun d => d.parameters.length) = some (if q.2.2.2 = true then q.2.2.1 - 1 else q.2.2.1) ∧ (if q.2.2.2 = true then 1 ≤ q.2.2.1 ∧ (gx_y q.2.1).cls = gx_os (gx_on q.2.1) ∧ gx_on q.2.1 < 5 ∧ Cond.instanceMethod (gx_y q.2.1) ∈ gx_TBL ∧ Cond.selects (gx_y q.2.1).cls (gx_y q.2.1) (gx_y q.2.1) ∈ gx_TBL else Cond.static (gx_y q.2.1) ∈ gx_TBL)
theorem gx_q0 : gx_mok ((1, 43), (104, 2, false)) := ⟨by decide, gx_in2 17 rfl rfl, gx_in1 6 rfl rfl, by decide, by decide, by decide +kernel, gx_in2 18 rfl rfl⟩
theorem gx_q1 : gx_mok ((1, 49), (10, 3, true)) := ⟨by decide, gx_in2 30 rfl rfl, gx_in1 3 rfl rfl, by decide, by decide, by decide +kernel, ⟨by decide, by decide, by decide, gx_in2 32 rfl rfl, gx_in0 3 rfl rfl⟩⟩
theorem gx_q2 : gx_mok ((1, 59), (15, 3, true)) := ⟨by decide, gx_in2 42 rfl rfl, gx_in1 3 rfl rfl, by decide, by decide, by decide +kernel, ⟨by decide, by decide, by decide, gx_in2 43 rfl rfl, gx_in2 44 rfl rfl⟩⟩
theorem gx_q3 : gx_mok ((1, 63), (103, 2, false)) := ⟨by decide, gx_in2 46 rfl rfl, gx_in1 7 rfl rfl, by decide, by decide, by decide +kernel, gx_in2 47 rfl rfl⟩
theorem gx_q4 : gx_mok ((1, 68), (17, 4, true)) := ⟨by decide, gx_in2 49 rfl rfl, gx_in1 3 rfl rfl, by decide, by decide, by decide +kernel, ⟨by decide, by decide, by decide, gx_in2 51 rfl rfl, gx_in0 5 rfl rfl⟩⟩
theorem gx_q5 : gx_mok ((1, 72), (18, 3, true)) := ⟨by decide, gx_in2 53 rfl rfl, gx_in1 3 rfl rfl, by decide, by decide, by decide +kernel, ⟨by decide, by decide, by decide, gx_in2 55 rfl rfl, gx_in0 6 rfl rfl⟩⟩
theorem gx_q6 : gx_mok ((1, 76), (19, 2, true)) := ⟨by decide, gx_in2 65 rfl rfl, gx_in1 3 rfl rfl, by decide, by decide, by decide +kernel, ⟨by decide, by decide, by decide, gx_in2 67 rfl rfl, gx_in0 9 rfl rfl⟩⟩
theorem gx_q7 : gx_mok ((1, 80), (20, 3, true)) := ⟨by decide, gx_in2 70 rfl rfl, gx_in1 3 rfl rfl, by decide, by decide, by decide +kernel, ⟨by decide, by decide, by decide, gx_in2 72 rfl rfl, gx_in0 10 rfl rfl⟩⟩
theorem gx_q8 : gx_mok ((1, 83), (21, 2, true)) := ⟨by decide, gx_in2 57 rfl rfl, gx_in1 3 rfl rfl, by decide, by decide, by decide +kernel, ⟨by decide, by decide, by decide, gx_in2 59 rfl rfl, gx_in0 7 rfl rfl⟩⟩
theorem gx_q9 : gx_mok ((1, 86), (22, 2, true)) := ⟨by decide, gx_in2 61 rfl rfl, gx_in1 3 rfl rfl, by decide, by decide, by decide +kernel, ⟨by decide, by decide, by decide, gx_in2 63 rfl rfl, gx_in0 8 rfl rfl⟩⟩
theorem gx_q10 : gx_mok ((2, 48), (7, 3, true)) := ⟨by decide, gx_in2 165 rfl rfl, gx_in1 2 rfl rfl, by decide, by decide, by decide +kernel, ⟨by decide, by decide, by decide, gx_in2 118 rfl rfl, gx_in2 119 rfl rfl⟩⟩
theorem gx_q11 : gx_mok ((2, 52), (6, 3, true)) := ⟨by decide, gx_in2 166 rfl rfl, gx_in1 2 rfl rfl, by decide, by decide, by decide +kernel, ⟨by decide, by decide, by decide, gx_in2 114 rfl rfl, gx_in2 115 rfl rfl⟩⟩
theorem gx_q12 : gx_mok ((2, 55), (101, 1, false)) := ⟨by decide, gx_in2 167 rfl rfl, gx_in1 7 rfl rfl, by decide, by decide, by decide +kernel, gx_in2 168 rfl rfl⟩
theorem gx_q13 : gx_mok ((2, 61), (25, 2, true)) := ⟨by decide, gx_in2 170 rfl rfl, gx_in1 4 rfl rfl, by decide, by decide, by decide +kernel, ⟨by decide, by decide, by decide, gx_in2 172 rfl rfl, gx_in0 16 rfl rfl⟩⟩
theorem gx_q14 : gx_mok ((2, 65), (26, 3, true)) := ⟨by decide, gx_in2 174 rfl rfl, gx_in1 4 rfl rfl, by decide, by decide, by decide +kernel, ⟨by decide, by decide, by decide, gx_in2 176 rfl rfl, gx_in0 17 rfl rfl⟩⟩
theorem gx_q15 : gx_mok ((2, 72), (104, 2, false)) := ⟨by decide, gx_in2 178 rfl rfl, gx_in1 6 rfl rfl, by decide, by decide, by decide +kernel, gx_in2 18 rfl rfl⟩
theorem gx_q16 : gx_mok ((2, 78), (28, 4, true)) := ⟨by decide, gx_in2 179 rfl rfl, gx_in1 4 rfl rfl, by decide, by decide, by decide +kernel, ⟨by decide, by decide, by decide, gx_in2 181 rfl rfl, gx_in0 18 rfl rfl⟩⟩
theorem gx_q17 : gx_mok ((2, 82), (29, 3, true)) := ⟨by decide, gx_in2 183 rfl rfl, gx_in1 4 rfl rfl, by decide, by decide, by decide +kernel, ⟨by decide, by decide, by decide, gx_in2 185 rfl rfl, gx_in0 19 rfl rfl⟩⟩
theorem gx_q18 : gx_mok ((2, 86), (30, 4, true)) := ⟨by decide, gx_in2 189 rfl rfl, gx_in1 4 rfl rfl, by decide, by decide, by decide +kernel, ⟨by decide, by decide, by decide, gx_in2 191 rfl rfl, gx_in0 20 rfl rfl⟩⟩
theorem gx_q19 : gx_mok ((2, 89), (27, 3, true)) := ⟨by decide, gx_in2 193 rfl rfl, gx_in1 4 rfl rfl, by decide, by decide, by decide +kernel, ⟨by decide, by decide, by decide, gx_in2 195 rfl rfl, gx_in0 21 rfl rfl⟩⟩
theorem gx_q20 : gx_mok ((2, 102), (103, 2, false)) := ⟨by decide, gx_in2 188 rfl rfl, gx_in1 7 rfl rfl, by decide, by decide, by decide +kernel, gx_in2 47 rfl rfl⟩
theorem gx_q21 : gx_mok ((3, 50), (52, 1, true)) := ⟨by decide, gx_in1 185 rfl rfl, gx_in1 1 rfl rfl, by decide, by decide, by decide +kernel, ⟨by decide, by decide, by decide, gx_in1 187 rfl rfl, gx_in0 0 rfl rfl⟩⟩
theorem gx_q22 : gx_mok ((3, 53), (2, 1, true)) := ⟨by decide, gx_in1 189 rfl rfl, gx_in1 2 rfl rfl, by decide, by decide, by decide +kernel, ⟨by decide, by decide, by decide, gx_in1 190 rfl rfl, gx_in1 191 rfl rfl⟩⟩
theorem gx_q23 : gx_mok ((3, 57), (0, 2, true)) := ⟨by decide, gx_in1 197 rfl rfl, gx_in1 2 rfl rfl, by decide, by decide, by decide +kernel, ⟨by decide, by decide, by decide, gx_in1 198 rfl rfl, gx_in1 199 rfl rfl⟩⟩
theorem gx_q24 : gx_mok ((3, 68), (49, 2, false)) := ⟨by decide, gx_in1 210 rfl rfl, gx_in1 1 rfl rfl, by decide, by decide, by decide +kernel, gx_in1 211 rfl rfl⟩
theorem gx_q25 : gx_mok ((3, 75), (3, 5, true)) := ⟨by decide, gx_in1 213 rfl rfl, gx_in1 2 rfl rfl, by decide, by decide, by decide +kernel, ⟨by decide, by decide, by decide, gx_in1 214 rfl rfl, gx_in1 215 rfl rfl⟩⟩
theorem gx_q26 : gx_mok ((3, 79), (1, 2, true)) := ⟨by decide, gx_in1 221 rfl rfl, gx_in1 2 rfl rfl, by decide, by decide, by decide +kernel, ⟨by decide, by decide, by decide, gx_in1 222 rfl rfl, gx_in1 223 rfl rfl⟩⟩
theorem gx_q27 : gx_mok ((3, 88), (4, 2, true)) := ⟨by decide, gx_in1 229 rfl rfl, gx_in1 2 rfl rfl, by decide, by decide, by decide +kernel, ⟨by decide, by decide, by decide, gx_in1 230 rfl rfl, gx_in1 231 rfl rfl⟩⟩
theorem gx_q28 : gx_mok ((3, 92), (5, 1, true)) := ⟨by decide, gx_in1 237 rfl rfl, gx_in1 2 rfl rfl, by decide, by decide, by decide +kernel, ⟨by decide, by decide, by decide, gx_in1 238 rfl rfl, gx_in1 239 rfl rfl⟩⟩
theorem gx_q29 : gx_mok ((3, 95), (53, 1, true)) := ⟨by decide, gx_in2 5 rfl rfl, gx_in1 1 rfl rfl, by decide, by decide, by decide +kernel, ⟨by decide, by decide, by decide, gx_in2 7 rfl rfl, gx_in0 1 rfl rfl⟩⟩
theorem gx_q30 : gx_mok ((3, 99), (48, 1, false)) := ⟨by decide, gx_in2 85 rfl rfl, gx_in1 1 rfl rfl, by decide, by decide, by decide +kernel, gx_in2 86 rfl rfl⟩
theorem gx_q31 : gx_mok ((3, 102), (54, 2, true)) := ⟨by decide, gx_in2 88 rfl rfl, gx_in1 1 rfl rfl, by decide, by decide, by decide +kernel, ⟨by decide, by decide, by decide, gx_in2 90 rfl rfl, gx_in0 11 rfl rfl⟩⟩
theorem gx_q32 : gx_mok ((3, 106), (6, 3, true)) := ⟨by decide, gx_in2 113 rfl rfl, gx_in1 2 rfl rfl, by decide, by decide, by decide +kernel, ⟨by decide, by decide, by decide, gx_in2 114 rfl rfl, gx_in2 115 rfl rfl⟩⟩
theorem gx_q33 : gx_mok ((3, 110), (7, 3, true)) := ⟨by decide, gx_in2 117 rfl rfl, gx_in1 2 rfl rfl, by decide, by decide, by decide +kernel, ⟨by decide, by decide, by decide, gx_in2 118 rfl rfl, gx_in2 119 rfl rfl⟩⟩
theorem gx_q34 : gx_mok ((3, 113), (102, 2, false)) := ⟨by decide, gx_in2 121 rfl rfl, gx_in1 7 rfl rfl, by decide, by decide, by decide +kernel, gx_in2 122 rfl rfl⟩
theorem gx_q35 : gx_mok ((3, 119), (58, 3, true)) := ⟨by decide, gx_in2 128 rfl rfl, gx_in1 1 rfl rfl, by decide, by decide, by decide +kernel, ⟨by decide, by decide, by decide, gx_in2 130 rfl rfl, gx_in0 12 rfl rfl⟩⟩
theorem gx_q36 : gx_mok ((3, 122), (57, 1, true)) := ⟨by decide, gx_in2 132 rfl rfl, gx_in1 1 rfl rfl, by decide, by decide, by decide +kernel, ⟨by decide, by decide, by decide, gx_in2 134 rfl rfl, gx_in0 13 rfl rfl⟩⟩
theorem gx_q37 : gx_mok ((3, 128), (15, 3, true)) := ⟨by decide, gx_in2 96 rfl rfl, gx_in1 3 rfl rfl, by decide, by decide, by decide +kernel, ⟨by decide, by decide, by decide, gx_in2 43 rfl rfl, gx_in2 44 rfl rfl⟩⟩
theorem gx_q38 : gx_mok ((3, 135), (59, 1, true)) := ⟨by decide, gx_in2 148 rfl rfl, gx_in1 1 rfl rfl, by decide, by decide, by decide +kernel, ⟨by decide, by decide, by decide, gx_in2 150 rfl rfl, gx_in0 14 rfl rfl⟩⟩
theorem gx_q39 : gx_mok ((3, 141), (60, 1, true)) := ⟨by decide, gx_in2 156 rfl rfl, gx_in1 1 rfl rfl, by decide, by decide, by decide +kernel, ⟨by decide, by decide, by decide, gx_in2 158 rfl rfl, gx_in0 15 rfl rfl⟩⟩
theorem gx_q40 : gx_mok ((3, 153), (23, 3, true)) := ⟨by decide, gx_in2 201 rfl rfl, gx_in1 4 rfl rfl, by decide, by decide, by decide +kernel, ⟨by decide, by decide, by decide, gx_in2 202 rfl rfl, gx_in2 203 rfl rfl⟩⟩
theorem gx_q41 : gx_mok ((3, 162), (55, 1, true)) := ⟨by decide, gx_in2 9 rfl rfl, gx_in1 1 rfl rfl, by decide, by decide, by decide +kernel, ⟨by decide, by decide, by decide, gx_in2 11 rfl rfl, gx_in0 2 rfl rfl⟩⟩
theorem gx_q42 : gx_mok ((3, 165), (14, 1, true)) := ⟨by decide, gx_in2 38 rfl rfl, gx_in1 3 rfl rfl, by decide, by decide, by decide +kernel, ⟨by decide, by decide, by decide, gx_in2 39 rfl rfl, gx_in2 40 rfl rfl⟩⟩
theorem gx_q43 : gx_mok ((3, 171), (11, 2, true)) := ⟨by decide, gx_in2 74 rfl rfl, gx_in1 3 rfl rfl, by decide, by decide, by decide +kernel, ⟨by decide, by decide, by decide, gx_in2 75 rfl rfl, gx_in2 76 rfl rfl⟩⟩
theorem gx_q44 : gx_mok ((3, 175), (12, 2, true)) := ⟨by decide, gx_in2 92 rfl rfl, gx_in1 3 rfl rfl, by decide, by decide, by decide +kernel, ⟨by decide, by decide, by decide, gx_in2 93 rfl rfl, gx_in2 94 rfl rfl⟩⟩
theorem gx_q45 : gx_mok ((3, 178), (16, 2, true)) := ⟨by decide, gx_in2 97 rfl rfl, gx_in1 3 rfl rfl, by decide, by decide, by decide +kernel, ⟨by decide, by decide, by decide, gx_in2 98 rfl rfl, gx_in2 99 rfl rfl⟩⟩
theorem gx_q46 : gx_mok ((3, 182), (13, 2, true)) := ⟨by decide, gx_in2 101 rfl rfl, gx_in1 3 rfl rfl, by decide, by decide, by decide +kernel, ⟨by decide, by decide, by decide, gx_in2 102 rfl rfl, gx_in2 103 rfl rfl⟩⟩
theorem gx_q47 : gx_mok ((3, 185), (8, 1, true)) := ⟨by decide, gx_in2 13 rfl rfl, gx_in1 3 rfl rfl, by decide, by decide, by decide +kernel, ⟨by decide, by decide, by decide, gx_in2 14 rfl rfl, gx_in2 15 rfl rfl⟩⟩
theorem gx_q48 : gx_mok ((3, 188), (50, 1, false)) := ⟨by decide, gx_in2 20 rfl rfl, gx_in1 1 rfl rfl, by decide, by decide, by decide +kernel, gx_in2 21 rfl rfl⟩
theorem gx_q49 : gx_mok ((3, 191), (51, 1, false)) := ⟨by decide, gx_in2 23 rfl rfl, gx_in1 1 rfl rfl, by decide, by decide, by decide +kernel, gx_in2 24 rfl rfl⟩
theorem gx_q50 : gx_mok ((3, 194), (9, 6, true)) := ⟨by decide, gx_in2 26 rfl rfl, gx_in1 3 rfl rfl, by decide, by decide, by decide +kernel, ⟨by decide, by decide, by decide, gx_in2 27 rfl rfl, gx_in2 28 rfl rfl⟩⟩
theorem gx_q51 : gx_mok ((3, 198), (56, 3, true)) := ⟨by decide, gx_in2 34 rfl rfl, gx_in1 1 rfl rfl, by decide, by decide, by decide +kernel, ⟨by decide, by decide, by decide, gx_in2 36 rfl rfl, gx_in0 4 rfl rfl⟩⟩
theorem gx_q52 : gx_mok ((3, 211), (24, 3, true)) := ⟨by decide, gx_in2 160 rfl rfl, gx_in1 4 rfl rfl, by decide, by decide, by decide +kernel, ⟨by decide, by decide, by decide, gx_in2 161 rfl rfl, gx_in2 162 rfl rfl⟩⟩
theorem gx_q53 : gx_mok ((4, 87), (61, 5, true)) := ⟨by decide, gx_in3 120 rfl rfl, gx_in1 5 rfl rfl, by decide, by decide, by decide +kernel, ⟨by decide, by decide, by decide, gx_in3 122 rfl rfl, gx_in0 28 rfl rfl⟩⟩
theorem gx_q54 : gx_mok ((4, 95), (62, 3, true)) := ⟨by decide, gx_in3 116 rfl rfl, gx_in1 5 rfl rfl, by decide, by decide, by decide +kernel, ⟨by decide, by decide, by decide, gx_in3 118 rfl rfl, gx_in0 27 rfl rfl⟩⟩
theorem gx_q55 : gx_mok ((4, 99), (63, 1, true)) := ⟨by decide, gx_in3 124 rfl rfl, gx_in1 5 rfl rfl, by decide, by decide, by decide +kernel, ⟨by decide, by decide, by decide, gx_in3 126 rfl rfl, gx_in0 29 rfl rfl⟩⟩
theorem gx_q56 : gx_mok ((4, 103), (64, 3, true)) := ⟨by decide, gx_in3 112 rfl rfl, gx_in1 5 rfl rfl, by decide, by decide, by decide +kernel, ⟨by decide, by decide, by decide, gx_in3 114 rfl rfl, gx_in0 26 rfl rfl⟩⟩
theorem gx_q57 : gx_mok ((4, 107), (65, 1, true)) := ⟨by decide, gx_in3 107 rfl rfl, gx_in1 5 rfl rfl, by decide, by decide, by decide +kernel, ⟨by decide, by decide, by decide, gx_in3 109 rfl rfl, gx_in0 25 rfl rfl⟩⟩
theorem gx_q58 : gx_mok ((4, 110), (66, 1, true)) := ⟨by decide, gx_in3 132 rfl rfl, gx_in1 5 rfl rfl, by decide, by decide, by decide +kernel, ⟨by decide, by decide, by decide, gx_in3 134 rfl rfl, gx_in0 31 rfl rfl⟩⟩
theorem gx_q59 : gx_mok ((4, 114), (67, 1, true)) := ⟨by decide, gx_in3 136 rfl rfl, gx_in1 5 rfl rfl, by decide, by decide, by decide +kernel, ⟨by decide, by decide, by decide, gx_in3 138 rfl rfl, gx_in0 32 rfl rfl⟩⟩
theorem gx_q60 : gx_mok ((4, 124), (68, 2, true)) := ⟨by decide, gx_in3 128 rfl rfl, gx_in1 5 rfl rfl, by decide, by decide, by decide +kernel, ⟨by decide, by decide, by decide, gx_in3 130 rfl rfl, gx_in0 30 rfl rfl⟩⟩
theorem gx_q61 : gx_mok ((4, 128), (76, 1, true)) := ⟨by decide, gx_in3 140 rfl rfl, gx_in1 5 rfl rfl, by decide, by decide, by decide +kernel, ⟨by decide, by decide, by decide, gx_in3 142 rfl rfl, gx_in0 33 rfl rfl⟩⟩
theorem gx_q62 : gx_mok ((4, 131), (69, 1, true)) := ⟨by decide, gx_in3 172 rfl rfl, gx_in1 5 rfl rfl, by decide, by decide, by decide +kernel, ⟨by decide, by decide, by decide, gx_in3 174 rfl rfl, gx_in0 41 rfl rfl⟩⟩
theorem gx_q63 : gx_mok ((4, 137), (72, 3, true)) := ⟨by decide, gx_in3 144 rfl rfl, gx_in1 5 rfl rfl, by decide, by decide, by decide +kernel, ⟨by decide, by decide, by decide, gx_in3 146 rfl rfl, gx_in0 34 rfl rfl⟩⟩
theorem gx_q64 : gx_mok ((4, 141), (71, 3, true)) := ⟨by decide, gx_in3 148 rfl rfl, gx_in1 5 rfl rfl, by decide, by decide, by decide +kernel, ⟨by decide, by decide, by decide, gx_in3 150 rfl rfl, gx_in0 35 rfl rfl⟩⟩
theorem gx_q65 : gx_mok ((4, 144), (77, 1, true)) := ⟨by decide, gx_in3 152 rfl rfl, gx_in1 5 rfl rfl, by decide, by decide, by decide +kernel, ⟨by decide, by decide, by decide, gx_in3 154 rfl rfl, gx_in0 36 rfl rfl⟩⟩
theorem gx_q66 : gx_mok ((4, 147), (78, 2, true)) := ⟨by decide, gx_in3 156 rfl rfl, gx_in1 5 rfl rfl, by decide, by decide, by decide +kernel, ⟨by decide, by decide, by decide, gx_in3 158 rfl rfl, gx_in0 37 rfl rfl⟩⟩
theorem gx_q67 : gx_mok ((4, 150), (73, 2, true)) := ⟨by decide, gx_in3 160 rfl rfl, gx_in1 5 rfl rfl, by decide, by decide, by decide +kernel, ⟨by decide, by decide, by decide, gx_in3 162 rfl rfl, gx_in0 38 rfl rfl⟩⟩
theorem gx_q68 : gx_mok ((4, 154), (74, 3, true)) := ⟨by decide, gx_in3 164 rfl rfl, gx_in1 5 rfl rfl, by decide, by decide, by decide +kernel, ⟨by decide, by decide, by decide, gx_in3 166 rfl rfl, gx_in0 39 rfl rfl⟩⟩
theorem gx_q69 : gx_mok ((4, 157), (75, 4, true)) := ⟨by decide, gx_in3 168 rfl rfl, gx_in1 5 rfl rfl, by decide, by decide, by decide +kernel, ⟨by decide, by decide, by decide, gx_in3 170 rfl rfl, gx_in0 40 rfl rfl⟩⟩
theorem gx_q70 : gx_mok ((4, 161), (79, 2, true)) := ⟨by decide, gx_in3 67 rfl rfl, gx_in1 5 rfl rfl, by decide, by decide, by decide +kernel, ⟨by decide, by decide, by decide, gx_in3 69 rfl rfl, gx_in0 22 rfl rfl⟩⟩
theorem gx_q71 : gx_mok ((4, 166), (81, 2, false)) := ⟨by decide, gx_in3 80 rfl rfl, gx_in1 5 rfl rfl, by decide, by decide, by decide +kernel, gx_in3 81 rfl rfl⟩
theorem gx_q72 : gx_mok ((4, 169), (80, 2, true)) := ⟨by decide, gx_in3 87 rfl rfl, gx_in1 5 rfl rfl, by decide, by decide, by decide +kernel, ⟨by decide, by decide, by decide, gx_in3 89 rfl rfl, gx_in0 23 rfl rfl⟩⟩
theorem gx_q73 : gx_mok ((4, 172), (70, 1, true)) := ⟨by decide, gx_in3 103 rfl rfl, gx_in1 5 rfl rfl, by decide, by decide, by decide +kernel, ⟨by decide, by decide, by decide, gx_in3 105 rfl rfl, gx_in0 24 rfl rfl⟩⟩
theorem gx_q74 : gx_mok ((4, 175), (90, 1, false)) := ⟨by decide, gx_in3 180 rfl rfl, gx_in1 5 rfl rfl, by decide, by decide, by decide +kernel, gx_in3 181 rfl rfl⟩
theorem gx_q75 : gx_mok ((4, 178), (94, 3, true)) := ⟨by decide, gx_in3 195 rfl rfl, gx_in1 5 rfl rfl, by decide, by decide, by decide +kernel, ⟨by decide, by decide, by decide, gx_in3 197 rfl rfl, gx_in0 42 rfl rfl⟩⟩
set_option maxRecDepth 20000 in
theorem gx_mTok : ∀ q ∈ gx_mT, gx_mok q := List.forall_mem_cons.mpr ⟨gx_q0, List.forall_mem_cons.mpr ⟨gx_q1, List.forall_mem_cons.mpr ⟨gx_q2, List.forall_mem_cons.mpr ⟨gx_q3, List.forall_mem_cons.mpr ⟨gx_q4, List.forall_mem_cons.mpr ⟨gx_q5, List.forall_mem_cons.mpr ⟨gx_q6, List.forall_mem_cons.mpr ⟨gx_q7, List.forall_mem_cons.mpr ⟨gx_q8, List.forall_mem_cons.mpr ⟨gx_q9, List.forall_mem_cons.mpr ⟨gx_q10, List.forall_mem_cons.mpr ⟨gx_q11, List.forall_mem_cons.mpr ⟨gx_q12, List.forall_mem_cons.mpr ⟨gx_q13, List.forall_mem_cons.mpr ⟨gx_q14, List.forall_mem_cons.mpr ⟨gx_q15, List.forall_mem_cons.mpr ⟨gx_q16, List.forall_mem_cons.mpr ⟨gx_q17, List.forall_mem_cons.mpr ⟨gx_q18, List.forall_mem_cons.mpr ⟨gx_q19, List.forall_mem_cons.mpr ⟨gx_q20, List.forall_mem_cons.mpr ⟨gx_q21, List.forall_mem_cons.mpr ⟨gx_q22, List.forall_mem_cons.mpr ⟨gx_q23, List.forall_mem_cons.mpr ⟨gx_q24, List.forall_mem_cons.mpr ⟨gx_q25, List.forall_mem_cons.mpr ⟨gx_q26, List.forall_mem_cons.mpr ⟨gx_q27, List.forall_mem_cons.mpr ⟨gx_q28, List.forall_mem_cons.mpr ⟨gx_q29, List.forall_mem_cons.mpr ⟨gx_q30, List.forall_mem_cons.mpr ⟨gx_q31, List.forall_mem_cons.mpr ⟨gx_q32, List.forall_mem_cons.mpr ⟨gx_q33, List.forall_mem_cons.mpr ⟨gx_q34, List.forall_mem_cons.mpr ⟨gx_q35, List.forall_mem_cons.mpr ⟨gx_q36, List.forall_mem_cons.mpr ⟨gx_q37, List.forall_mem_cons.mpr ⟨gx_q38, List.forall_mem_cons.mpr ⟨gx_q39, List.forall_mem_cons.mpr ⟨gx_q40, List.forall_mem_cons.mpr ⟨gx_q41, List.forall_mem_cons.mpr ⟨gx_q42, List.forall_mem_cons.mpr ⟨gx_q43, List.forall_mem_cons.mpr ⟨gx_q44, List.forall_mem_cons.mpr ⟨gx_q45, List.forall_mem_cons.mpr ⟨gx_q46, List.forall_mem_cons.mpr ⟨gx_q47, List.forall_mem_cons.mpr ⟨gx_q48, List.forall_mem_cons.mpr ⟨gx_q49, List.forall_mem_cons.mpr ⟨gx_q50, List.forall_mem_cons.mpr ⟨gx_q51, List.forall_mem_cons.mpr ⟨gx_q52, List.forall_mem_cons.mpr ⟨gx_q53, List.forall_mem_cons.mpr ⟨gx_q54, List.forall_mem_cons.mpr ⟨gx_q55, List.forall_mem_cons.mpr ⟨gx_q56, List.forall_mem_cons.mpr ⟨gx_q57, List.forall_mem_cons.mpr ⟨gx_q58, List.forall_mem_cons.mpr ⟨gx_q59, List.forall_mem_cons.mpr ⟨gx_q60, List.forall_mem_cons.mpr ⟨gx_q61, List.forall_mem_cons.mpr ⟨gx_q62, List.forall_mem_cons.mpr ⟨gx_q63, List.forall_mem_cons.mpr ⟨gx_q64, List.forall_mem_cons.mpr ⟨gx_q65, List.forall_mem_cons.mpr ⟨gx_q66, List.forall_mem_cons.mpr ⟨gx_q67, List.forall_mem_cons.mpr ⟨gx_q68, List.forall_mem_cons.mpr ⟨gx_q69, List.forall_mem_cons.mpr ⟨gx_q70, List.forall_mem_cons.mpr ⟨gx_q71, List.forall_mem_cons.mpr ⟨gx_q72, List.forall_mem_cons.mpr ⟨gx_q73, List.forall_mem_cons.mpr ⟨gx_q74, List.forall_mem_cons.mpr ⟨gx_q75, fun _ h => absurd h List.not_mem_nil⟩⟩⟩⟩⟩⟩⟩⟩⟩⟩⟩⟩⟩⟩⟩⟩⟩⟩⟩⟩⟩⟩⟩⟩⟩⟩⟩⟩⟩⟩⟩⟩⟩⟩⟩⟩⟩⟩⟩⟩⟩⟩⟩⟩⟩⟩⟩⟩⟩⟩⟩⟩⟩⟩⟩⟩⟩⟩⟩⟩⟩⟩⟩⟩⟩⟩⟩⟩⟩⟩⟩⟩⟩⟩⟩⟩
def gx_ml (a b : Nat) : Option (Nat × Nat × Bool) := gx_mT.lookup (a, b)
/-- System.arraycopy -/
def gx_aT : List ((Nat × Nat) × Unit) := [((1, 53), ()), ((2, 37), ())]
theorem gx_a0 : Cond.methodLink (gx_os 1) 53 arraycopyName ∈ gx_TBL := gx_in2 78 rfl rfl
theorem gx_a1 : Cond.methodLink (gx_os 2) 37 arraycopyName ∈ gx_TBL := gx_in2 164 rfl rfl
theorem gx_aTok : ∀ q ∈ gx_aT, Cond.methodLink (gx_os q.1.1) q.1.2 arraycopyName ∈ gx_TBL := List.forall_mem_cons.mpr ⟨gx_a0, List.forall_mem_cons.mpr ⟨gx_a1, fun _ h => absurd h List.not_mem_nil⟩⟩
theorem gx_anat : Cond.native arraycopyName ∈ gx_TBL := gx_in2 80 rfl rfl
theorem gx_asta : Cond.static arraycopyName ∈ gx_TBL := gx_in2 79 rfl rfl
theorem gx_aini : Cond.initialized "java/lang/System" ∈ gx_TBL := gx_in1 8 rfl rfl
/-- the places: an array of a kind and a length; an object of a kind, its fields (none: a number; some q: the place q); a row of places -/
abbrev gx_L : Type := (FieldType × Nat) ⊕ (Nat × List (Option Nat)) ⊕ List Nat
def gx_Ly : List gx_L := [
  .inr (.inl (3, [some 1, some 2, some 3, some 28, some 29, some 32, some 33, none, none, none, none, none])) /- 0 O:GreatestFlow -/,
  .inr (.inl (0, [some 4, some 5, some 6, some 7, some 8, some 9, some 10, none, none, none])) /- 1 O:GreatestFlow$Graph -/,
  .inr (.inl (1, [some 11, some 12, some 13, some 14, some 15, some 16, some 17, some 18, some 19, some 20])) /- 2 O:GreatestFlow$Net -/,
  .inr (.inl (2, [some 21, some 22, none, some 23, some 24, some 25, some 26, some 27])) /- 3 O:GreatestFlow$Parts -/,
  .inl (.int, 10) /- 4 GreatestFlow$Graph.kinds -/,
  .inl (.int, 10) /- 5 GreatestFlow$Graph.bounds -/,
  .inl (.int, 40) /- 6 GreatestFlow$Graph.froms -/,
  .inl (.int, 40) /- 7 GreatestFlow$Graph.tos -/,
  .inl (.int, 40) /- 8 GreatestFlow$Graph.leasts -/,
  .inl (.int, 40) /- 9 GreatestFlow$Graph.mosts -/,
  .inl (.boolean, 40) /- 10 GreatestFlow$Graph.dropped -/,
  .inl (.int, 61) /- 11 GreatestFlow$Net.low -/,
  .inl (.int, 61) /- 12 GreatestFlow$Net.high -/,
  .inl (.int, 61) /- 13 GreatestFlow$Net.from -/,
  .inl (.int, 61) /- 14 GreatestFlow$Net.to -/,
  .inl (.int, 61) /- 15 GreatestFlow$Net.flow -/,
  .inl (.boolean, 61) /- 16 GreatestFlow$Net.held -/,
  .inl (.int, 924) /- 17 GreatestFlow$Net.halves -/,
  .inl (.int, 22) /- 18 GreatestFlow$Net.halfCount -/,
  .inl (.int, 22) /- 19 GreatestFlow$Net.reachedBy -/,
  .inl (.int, 22) /- 20 GreatestFlow$Net.queue -/,
  .inl (.int, 50) /- 21 GreatestFlow$Parts.amounts -/,
  .inl (.int, 50) /- 22 GreatestFlow$Parts.lengths -/,
  .inl (.int, 500) /- 23 GreatestFlow$Parts.streamArcs -/,
  .inl (.int, 40) /- 24 GreatestFlow$Parts.left -/,
  .inl (.int, 10) /- 25 GreatestFlow$Parts.due -/,
  .inl (.int, 10) /- 26 GreatestFlow$Parts.placeOf -/,
  .inl (.int, 10) /- 27 GreatestFlow$Parts.path -/,
  .inl (.int, 61) /- 28 GreatestFlow.someFlow -/,
  .inr (.inr [30, 31]) /- 29 GreatestFlow.firstFlow -/,
  .inl (.int, 61) /- 30 row0 -/,
  .inl (.int, 61) /- 31 row1 -/,
  .inl (.boolean, 2) /- 32 GreatestFlow.firstKnown -/,
  .inl (.int, 40) /- 33 GreatestFlow.barredDown -/,
  .inr (.inl (4, [none, some 35, some 36, none, some 37, some 38, some 39, some 40, some 41, none, some 42, some 43, some 44, some 45, some 46, some 47, none, none, some 48, some 49, some 50, none, some 51, some 52, some 53, some 54, some 55, some 56, some 57])) /- 34 O:GreatestFlowModel -/,
  .inl (.int, 10) /- 35 GreatestFlowModel.kinds -/,
  .inl (.int, 10) /- 36 GreatestFlowModel.bounds -/,
  .inl (.int, 40) /- 37 GreatestFlowModel.from -/,
  .inl (.int, 40) /- 38 GreatestFlowModel.to -/,
  .inl (.int, 40) /- 39 GreatestFlowModel.least -/,
  .inl (.int, 40) /- 40 GreatestFlowModel.most -/,
  .inl (.boolean, 40) /- 41 GreatestFlowModel.alive -/,
  .inl (.int, 40) /- 42 GreatestFlowModel.low -/,
  .inl (.int, 40) /- 43 GreatestFlowModel.high -/,
  .inl (.int, 10) /- 44 GreatestFlowModel.kind -/,
  .inl (.int, 576) /- 45 GreatestFlowModel.left -/,
  .inl (.int, 24) /- 46 GreatestFlowModel.before -/,
  .inl (.int, 24) /- 47 GreatestFlowModel.queue -/,
  .inl (.int, 2) /- 48 GreatestFlowModel.values -/,
  .inl (.int, 80) /- 49 GreatestFlowModel.flows -/,
  .inl (.boolean, 40) /- 50 GreatestFlowModel.isBarred -/,
  .inl (.int, 80) /- 51 GreatestFlowModel.streamSize -/,
  .inl (.int, 80) /- 52 GreatestFlowModel.streamArcs -/,
  .inl (.int, 800) /- 53 GreatestFlowModel.streamArc -/,
  .inl (.int, 40) /- 54 GreatestFlowModel.over -/,
  .inl (.int, 10) /- 55 GreatestFlowModel.give -/,
  .inl (.int, 12) /- 56 GreatestFlowModel.path -/,
  .inl (.int, 10) /- 57 GreatestFlowModel.placeOf -/]
def gx_at (p : Nat) : Option gx_L := gx_Ly[p]?
