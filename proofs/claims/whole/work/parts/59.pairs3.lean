/-! streams and stream. -/
/-- what is answered about a stream -/
def stR (es : List (Int × Nat × (Nat → Nat))) (a b z : Int32) : Prop :=
  (¬ (0 ≤ a.toInt ∧ a.toInt < es.length) ∧ z = -1) ∨ ((0 ≤ a.toInt ∧ a.toInt < es.length) ∧ b.toInt < 0 ∧ z = -2) ∨
  ((0 ≤ a.toInt ∧ a.toInt < es.length) ∧ ∃ x, es[a.toInt.toNat]? = some x ∧ ((b.toInt = 0 ∧ z.toInt = x.1) ∨ (b.toInt = 1 ∧ z = nI x.2.1) ∨ (2 ≤ b.toInt ∧ b.toInt - 2 < x.2.1 ∧ z = nI (x.2.2 (b.toInt - 2).toNat)) ∨ (2 ≤ b.toInt ∧ ¬ b.toInt - 2 < x.2.1 ∧ z = -1)))
theorem stR_uq {es : List (Int × Nat × (Nat → Nat))} {a b y z : Int32} (A : stR es a b y) (B : stR es a b z) : y = z := by
  rcases A with ⟨a1, a2⟩ | ⟨a1, a2, a3⟩ | ⟨a1, x, a2, a3⟩ <;> rcases B with ⟨b1, b2⟩ | ⟨b1, b2, b3⟩ | ⟨b1, w, b2, b3⟩
  · rw [a2, b2]
  · exact absurd b1 a1
  · exact absurd b1 a1
  · exact absurd a1 b1
  · rw [a3, b3]
  · exfalso; omega
  · exact absurd a1 b1
  · exfalso; omega
  · rw [a2] at b2
    cases b2
    rcases a3 with ⟨c1, c2⟩ | ⟨c1, c2⟩ | ⟨c1, c2, c3⟩ | ⟨c1, c2, c3⟩ <;> rcases b3 with ⟨d1, d2⟩ | ⟨d1, d2⟩ | ⟨d1, d2, d3⟩ | ⟨d1, d2, d3⟩
    · exact i_eq.mpr (by rw [c2, d2])
    · omega
    · omega
    · omega
    · omega
    · rw [c2, d2]
    · omega
    · omega
    · omega
    · omega
    · rw [c3, d3]
    · omega
    · omega
    · omega
    · omega
    · rw [c3, d3]
set_option maxRecDepth 100000 in
set_option maxHeartbeats 4000000 in
theorem pr_streams {X : gx_X} : lw_pair X (gg_I CC RC) 46 99 0 := by
  intro M as hl hI
  obtain rfl : as = [] := List.eq_nil_of_length_eq_zero hl
  obtain ⟨⟨n, m, W, G⟩, hC, hR, hS⟩ := id hI
  have C : ck M n m := ⟨W, hS, hC n m W⟩
  have K := hR n m W G
  have O := gok_C W
  show gx_C X 46 [.ref 0] M _
  refine gx_C_wp 40 ?_
  simp only [gx_w_np, gx_w_p, ne_eq, not_false_eq_true, gx_wp, gx_step, gx_cnd, gb0, gb1, Classical.not_not, List.getD_cons_zero, List.getD_cons_succ, List.set_cons_zero, List.set_cons_succ, List.length_cons, List.length_nil, Nat.reduceAdd, Nat.reduceLT, Nat.reduceLeDiff, Nat.reduceEqDiff, Bool.and_false, Bool.and_true, Bool.true_and, Bool.false_and, Bool.false_eq_true, if_false, if_true, ite_true, ite_false, Fin.isValue, Fin.val_zero, Fin.val_one, Fin.val_two, gz0, gz1, gz2, gz3, List.take_succ_cons, List.take_zero, List.drop_succ_cons, List.drop_zero, List.reverse_cons, List.reverse_nil, List.nil_append, List.cons_append, gx_nx, Int32.reduceToInt, Int.reduceToNat, Int.toNat_zero, Int.toNat_one, Int.reduceLT, Int.reduceLE, Int.ofNat_zero, Int.reduceNeg, Int.le_refl, and_self, List.getElem?_cons_zero, List.getElem?_cons_succ, true_and, and_true, Nat.reduceSub, List.replicate, List.append_nil, Nat.reduceLeDiff, Nat.le_add_left, Nat.zero_le, Nat.zero_add, gf3_144, gf3_26, gk_bipush_m3, gm3_141, gm3_95, gn46, gn53, gn60, gr46, gr53, gr60, gv46, gi46_0, gi46_1, gi46_4, gi46_7, gi46_9, gi46_10, gi46_11, gi46_14, gi46_15, gi46_18, gi46_21, gl0, gl1, gl2, gl3, gl4, gl5, gl6, gl7, gl8, gl9, gl10, gl11, gl12, gl13, gl14, gl15, gl16, gl17, gl18, gl19, gl20, gl21, gl22, gl23, gl24, gl25, gl26, gl27, gl28, gl29, gl30, gl31, gl32, gl33, gl34, gl35, gl36, gl37, gl38, gl39, gl40, gl41, gl42, gl43, gl44, gl45, gl46, gl47, gl48, gl49, gl50, gl51, gl52, gl53, gl54, gl55, gl56, gl57]
  refine s_hasFlow C (fun M1 F1 C1 t1 t2 => ?_) (fun M1 F1 C1 t1 => ?_)
  · intro x hx
    cases hx
    refine ⟨fun _ => s_splitFG C1 t1 t2 (fun M2 F2 C2 CP2 => ⟨_, rfl, ?_⟩), fun q => absurd q (by decide)⟩
    have F := cf_t F1 F2
    obtain ⟨G2, eD, K2⟩ := side F G K
    rw [dC_cf n m F1] at CP2
    obtain ⟨f, V, c1, c2⟩ := CP2
    show gx_C X 99 [.ref 34] M2 _
    refine gx_C_wp 20 ?_
    simp only [gx_w_np, gx_w_p, ne_eq, not_false_eq_true, gx_wp, gx_step, gx_cnd, gb0, gb1, Classical.not_not, List.getD_cons_zero, List.getD_cons_succ, List.set_cons_zero, List.set_cons_succ, List.length_cons, List.length_nil, Nat.reduceAdd, Nat.reduceLT, Nat.reduceLeDiff, Nat.reduceEqDiff, Bool.and_false, Bool.and_true, Bool.true_and, Bool.false_and, Bool.false_eq_true, if_false, if_true, ite_true, ite_false, Fin.isValue, Fin.val_zero, Fin.val_one, Fin.val_two, gz0, gz1, gz2, gz3, List.take_succ_cons, List.take_zero, List.drop_succ_cons, List.drop_zero, List.reverse_cons, List.reverse_nil, List.nil_append, List.cons_append, gx_nx, Int32.reduceToInt, Int.reduceToNat, Int.toNat_zero, Int.toNat_one, Int.reduceLT, Int.reduceLE, Int.ofNat_zero, Int.reduceNeg, Int.le_refl, and_self, List.getElem?_cons_zero, List.getElem?_cons_succ, true_and, and_true, Nat.reduceSub, List.replicate, List.append_nil, Nat.reduceLeDiff, Nat.le_add_left, Nat.zero_le, Nat.zero_add, gf4_121, gf4_134, gk_bipush_m3, gm4_172, gn70, gn99, gr70, gr99, gv99, gi99_0, gi99_1, gi99_4, gi99_5, gi99_8, gi99_11, gi99_12, gi99_15, gi99_18, gi99_20, gl0, gl1, gl2, gl3, gl4, gl5, gl6, gl7, gl8, gl9, gl10, gl11, gl12, gl13, gl14, gl15, gl16, gl17, gl18, gl19, gl20, gl21, gl22, gl23, gl24, gl25, gl26, gl27, gl28, gl29, gl30, gl31, gl32, gl33, gl34, gl35, gl36, gl37, gl38, gl39, gl40, gl41, gl42, gl43, gl44, gl45, gl46, gl47, gl48, gl49, gl50, gl51, gl52, gl53, gl54, gl55, gl56, gl57]
    refine sr_know2 C2.1 G2 K2 (fun M3 f0 f1 F3 K3 z V0 V1 v0 v1 w0 w1 c3 g3 => ⟨fun q => absurd q z, fun _ => ⟨?_, inv_k C2 G2 F3 K3⟩⟩) (fun M3 F3 K3 z no B => ?_)
    · rw [eD] at V0 c3
      rw [c3, c1, l0_eq O V0 V]
    · rw [eD] at no
      exact absurd ⟨_, V.1⟩ no
  · intro x hx
    cases hx
    refine ⟨fun q => absurd rfl q, fun _ => ⟨_, rfl, ?_⟩⟩
    obtain ⟨G1, eD, K1⟩ := side F1 G K
    show gx_C X 99 [.ref 34] M1 _
    refine gx_C_wp 20 ?_
    simp only [gx_w_np, gx_w_p, ne_eq, not_false_eq_true, gx_wp, gx_step, gx_cnd, gb0, gb1, Classical.not_not, List.getD_cons_zero, List.getD_cons_succ, List.set_cons_zero, List.set_cons_succ, List.length_cons, List.length_nil, Nat.reduceAdd, Nat.reduceLT, Nat.reduceLeDiff, Nat.reduceEqDiff, Bool.and_false, Bool.and_true, Bool.true_and, Bool.false_and, Bool.false_eq_true, if_false, if_true, ite_true, ite_false, Fin.isValue, Fin.val_zero, Fin.val_one, Fin.val_two, gz0, gz1, gz2, gz3, List.take_succ_cons, List.take_zero, List.drop_succ_cons, List.drop_zero, List.reverse_cons, List.reverse_nil, List.nil_append, List.cons_append, gx_nx, Int32.reduceToInt, Int.reduceToNat, Int.toNat_zero, Int.toNat_one, Int.reduceLT, Int.reduceLE, Int.ofNat_zero, Int.reduceNeg, Int.le_refl, and_self, List.getElem?_cons_zero, List.getElem?_cons_succ, true_and, and_true, Nat.reduceSub, List.replicate, List.append_nil, Nat.reduceLeDiff, Nat.le_add_left, Nat.zero_le, Nat.zero_add, gf4_121, gf4_134, gk_bipush_m3, gm4_172, gn70, gn99, gr70, gr99, gv99, gi99_0, gi99_1, gi99_4, gi99_5, gi99_8, gi99_11, gi99_12, gi99_15, gi99_18, gi99_20, gl0, gl1, gl2, gl3, gl4, gl5, gl6, gl7, gl8, gl9, gl10, gl11, gl12, gl13, gl14, gl15, gl16, gl17, gl18, gl19, gl20, gl21, gl22, gl23, gl24, gl25, gl26, gl27, gl28, gl29, gl30, gl31, gl32, gl33, gl34, gl35, gl36, gl37, gl38, gl39, gl40, gl41, gl42, gl43, gl44, gl45, gl46, gl47, gl48, gl49, gl50, gl51, gl52, gl53, gl54, gl55, gl56, gl57]
    refine sr_know2 C1.1 G1 K1 (fun M2 f0 f1 F2 K2 z V0 V1 v0 v1 w0 w1 c2 g2 => ?_) (fun M2 F2 K2 z no B => ⟨fun _ => inv_k C1 G1 F2 K2, fun q => absurd z q⟩)
    rw [eD] at V0
    exact absurd ⟨f0, V0.1⟩ t1
set_option maxRecDepth 100000 in
set_option maxHeartbeats 4000000 in
theorem sp_arcAt {X : gx_X} {M : gx_M} {a i : Int32} {L : Nat} {P : Option Value → gx_M → Prop} (ha : 0 ≤ a.toInt ∧ a.toInt < 50) (hi : 0 ≤ i.toInt) (hL : M 22 a.toInt.toNat = nI L) (hL10 : L ≤ 10)
    (h1 : i.toInt < L → P (some (.int (M 23 (10 * a.toInt.toNat + i.toInt.toNat)))) M) (h0 : ¬ i.toInt < L → P (some (.int (-1))) M) : gx_C X 23 [.ref 3, .int a, .int i] M P := by
  refine gx_C_wp 40 ?_
  simp only [gx_w_np, gx_w_p, ne_eq, not_false_eq_true, gx_wp, gx_step, gx_cnd, gb0, gb1, Classical.not_not, List.getD_cons_zero, List.getD_cons_succ, List.set_cons_zero, List.set_cons_succ, List.length_cons, List.length_nil, Nat.reduceAdd, Nat.reduceLT, Nat.reduceLeDiff, Nat.reduceEqDiff, Bool.and_false, Bool.and_true, Bool.true_and, Bool.false_and, Bool.false_eq_true, if_false, if_true, ite_true, ite_false, Fin.isValue, Fin.val_zero, Fin.val_one, Fin.val_two, gz0, gz1, gz2, gz3, List.take_succ_cons, List.take_zero, List.drop_succ_cons, List.drop_zero, List.reverse_cons, List.reverse_nil, List.nil_append, List.cons_append, gx_nx, Int32.reduceToInt, Int.reduceToNat, Int.toNat_zero, Int.toNat_one, Int.reduceLT, Int.reduceLE, Int.ofNat_zero, Int.reduceNeg, Int.le_refl, and_self, List.getElem?_cons_zero, List.getElem?_cons_succ, true_and, and_true, Nat.reduceSub, List.replicate, List.append_nil, Nat.reduceLeDiff, Nat.le_add_left, Nat.zero_le, Nat.zero_add, gf2_15, gf2_18, gk_bipush_10, gk_iconst_m1, gn23, gr23, gv23, gi23_0, gi23_1, gi23_2, gi23_5, gi23_6, gi23_7, gi23_10, gi23_11, gi23_14, gi23_15, gi23_17, gi23_18, gi23_19, gi23_20, gi23_21, gi23_24, gi23_25, gl0, gl1, gl2, gl3, gl4, gl5, gl6, gl7, gl8, gl9, gl10, gl11, gl12, gl13, gl14, gl15, gl16, gl17, gl18, gl19, gl20, gl21, gl22, gl23, gl24, gl25, gl26, gl27, gl28, gl29, gl30, gl31, gl32, gl33, gl34, gl35, gl36, gl37, gl38, gl39, gl40, gl41, gl42, gl43, gl44, gl45, gl46, gl47, gl48, gl49, gl50, gl51, gl52, gl53, gl54, gl55, gl56, gl57]
  rw [hL]
  have e1 : (a * 10 + i) = a * 10 + i := rfl
  simp (disch := first | decide | omega) only [gx_w_np, gx_w_p, Int32.reduceToInt, Int.toNat_natCast, if_true, if_false, nI_1, nI_pred, i_nI, ite_true, ite_false, Int.reduceToNat, Nat.reduceEqDiff, Nat.reduceAdd, i_le]
  refine ⟨by omega, fun q => h0 (by omega), fun q => ?_⟩
  have ea : a = nI a.toInt.toNat := i_nat ha.1
  have ei : i = nI i.toInt.toNat := i_nat hi
  have e : a * 10 + i = nI (10 * a.toInt.toNat + i.toInt.toNat) := by
    rw [ea, ei, show (10 : Int32) = nI 10 by decide, pk_mul, nI_add, Nat.mul_comm, ← ea, ← ei]
  rw [e]
  simp (disch := first | decide | omega) only [gx_w_np, gx_w_p, Int32.reduceToInt, Int.toNat_natCast, if_true, if_false, nI_1, nI_pred, i_nI, ite_true, ite_false, Int.reduceToNat, Nat.reduceEqDiff, Nat.reduceAdd]
  exact ⟨by omega, h1 (by omega)⟩
set_option maxRecDepth 100000 in
set_option maxHeartbeats 4000000 in
theorem s_stream {X : gx_X} {M : gx_M} {n m : Nat} {a b : Int32} {P : Option Value → gx_M → Prop} (C : ck M n m)
    (h3 : ∀ M1, cf M M1 → ck M1 n m → (¬ ∃ g, FL (dC M n m) g) → P (some (.int (-3))) M1)
    (h1 : ∀ (M1 : gx_M) (f : Nat → Int) (z : Int32), cf M M1 → ck M1 n m → FV (dC M n m) 0 f → stR (rn (dC M n m) 50 (l0 f) (u0 (dC M n m) (l0 f))) a b z → P (some (.int z)) M1) : gx_C X 47 [.ref 0, .int a, .int b] M P := by
  have z0 : (0 : Int32).toInt = 0 := by decide
  have z1 : (1 : Int32).toInt = 1 := by decide
  have z2 : (2 : Int32).toInt = 2 := by decide
  refine gx_C_wp 60 ?_
  simp only [gx_w_np, gx_w_p, ne_eq, not_false_eq_true, gx_wp, gx_step, gx_cnd, gb0, gb1, Classical.not_not, List.getD_cons_zero, List.getD_cons_succ, List.set_cons_zero, List.set_cons_succ, List.length_cons, List.length_nil, Nat.reduceAdd, Nat.reduceLT, Nat.reduceLeDiff, Nat.reduceEqDiff, Bool.and_false, Bool.and_true, Bool.true_and, Bool.false_and, Bool.false_eq_true, if_false, if_true, ite_true, ite_false, Fin.isValue, Fin.val_zero, Fin.val_one, Fin.val_two, gz0, gz1, gz2, gz3, List.take_succ_cons, List.take_zero, List.drop_succ_cons, List.drop_zero, List.reverse_cons, List.reverse_nil, List.nil_append, List.cons_append, gx_nx, Int32.reduceToInt, Int.reduceToNat, Int.toNat_zero, Int.toNat_one, Int.reduceLT, Int.reduceLE, Int.ofNat_zero, Int.reduceNeg, Int.le_refl, and_self, List.getElem?_cons_zero, List.getElem?_cons_succ, true_and, and_true, Nat.reduceSub, List.replicate, List.append_nil, Nat.reduceLeDiff, Nat.le_add_left, Nat.zero_le, Nat.zero_add, gf3_144, gf3_147, gf3_150, gf3_26, gk_bipush_m2, gk_bipush_m3, gk_iconst_1, gk_iconst_2, gk_iconst_m1, gm3_141, gm3_153, gm3_95, gn23, gn47, gn53, gn60, gr23, gr47, gr53, gr60, gv47, gi47_0, gi47_1, gi47_4, gi47_7, gi47_9, gi47_10, gi47_11, gi47_14, gi47_15, gi47_18, gi47_19, gi47_20, gi47_23, gi47_26, gi47_29, gi47_30, gi47_31, gi47_32, gi47_35, gi47_37, gi47_38, gi47_39, gi47_42, gi47_43, gi47_46, gi47_49, gi47_50, gi47_51, gi47_52, gi47_53, gi47_54, gi47_57, gi47_58, gi47_61, gi47_64, gi47_65, gi47_66, gi47_67, gi47_68, gi47_71, gi47_72, gi47_73, gi47_74, gi47_75, gi47_78, gl0, gl1, gl2, gl3, gl4, gl5, gl6, gl7, gl8, gl9, gl10, gl11, gl12, gl13, gl14, gl15, gl16, gl17, gl18, gl19, gl20, gl21, gl22, gl23, gl24, gl25, gl26, gl27, gl28, gl29, gl30, gl31, gl32, gl33, gl34, gl35, gl36, gl37, gl38, gl39, gl40, gl41, gl42, gl43, gl44, gl45, gl46, gl47, gl48, gl49, gl50, gl51, gl52, gl53, gl54, gl55, gl56, gl57]
  refine s_hasFlow C (fun M1 F1 C1 t1 t2 => ?_) (fun M1 F1 C1 t1 => ?_)
  · intro x hx
    cases hx
    refine ⟨fun _ => s_splitFG C1 t1 t2 (fun M2 F2 C2 CP2 => ?_), fun q => absurd q (by decide)⟩
    have F := cf_t F1 F2
    rw [dC_cf n m F1] at CP2
    obtain ⟨f, V, c1, c2⟩ := CP2
    have len := rn_len (D := dC M n m) 50 (l0 f) (u0 (dC M n m) (l0 f))
    have go := fun z (h : stR (rn (dC M n m) 50 (l0 f) (u0 (dC M n m) (l0 f))) a b z) => h1 M2 f z F C2 V h
    rw [c1]
    generalize rn (dC M n m) 50 (l0 f) (u0 (dC M n m) (l0 f)) = es at *
    simp (disch := first | decide | omega) only [gx_w_np, gx_w_p, Int32.reduceToInt, Int.toNat_natCast, if_true, if_false, nI_1, nI_pred, i_nI, ite_true, ite_false, Int.reduceToNat, Nat.reduceEqDiff, Nat.reduceAdd, i_lt, i_le]
    refine ⟨fun q => go _ (Or.inl ⟨by omega, rfl⟩), fun q => ⟨fun q2 => ⟨fun q3 => ⟨fun q4 => ⟨fun q5 => ?_, fun q5 => ⟨by omega, ?_⟩⟩, fun q4 => ⟨by omega, ?_⟩⟩, fun q3 => go _ (Or.inr (Or.inl ⟨by omega, by omega, rfl⟩))⟩, fun q2 => go _ (Or.inl ⟨by omega, rfl⟩)⟩⟩
    · obtain ⟨x, g1, g2, g3, g4, g5⟩ := CG_get es 0 a.toInt.toNat c2 (by omega)
      rw [Nat.zero_add] at g2 g3 g5
      have b0 : b.toInt ≠ 0 := fun h => q4 (i_eq.mpr (by rw [h, z0]))
      have b1 : b.toInt ≠ 1 := fun h => q5 (i_eq.mpr (by rw [h, z1]))
      have e2 : (b - 2).toInt = b.toInt - 2 := by rw [i_sub (by rw [z2]; omega) (by rw [z2]; have := i_hi b; omega), z2]
      refine sp_arcAt (L := x.2.1) ⟨by omega, by omega⟩ (by rw [e2]; omega) g3 g4 (fun q6 => ?_) (fun q6 => ?_)
      · intro t ht
        cases ht
        rw [e2] at q6 ⊢
        refine go _ (Or.inr (Or.inr ⟨by omega, x, g1, Or.inr (Or.inr (Or.inl ⟨by omega, q6, ?_⟩))⟩))
        exact g5 _ (by omega)
      · intro t ht
        cases ht
        rw [e2] at q6
        exact go _ (Or.inr (Or.inr ⟨by omega, x, g1, Or.inr (Or.inr (Or.inr ⟨by omega, q6, rfl⟩))⟩))
    · obtain ⟨x, g1, g2, g3, g4, g5⟩ := CG_get es 0 a.toInt.toNat c2 (by omega)
      rw [Nat.zero_add] at g2 g3 g5
      exact go _ (Or.inr (Or.inr ⟨by omega, x, g1, Or.inr (Or.inl ⟨by rw [q5, z1], g3⟩)⟩))
    · obtain ⟨x, g1, g2, g3, g4, g5⟩ := CG_get es 0 a.toInt.toNat c2 (by omega)
      rw [Nat.zero_add] at g2 g3 g5
      exact go _ (Or.inr (Or.inr ⟨by omega, x, g1, Or.inl ⟨by rw [q4, z0], g2⟩⟩))
  · intro x hx
    cases hx
    exact ⟨fun q => absurd rfl q, fun _ => h3 M1 F1 C1 t1⟩
set_option maxRecDepth 100000 in
set_option maxHeartbeats 4000000 in
theorem sr_stream {X : gx_X} {M : gx_M} {n m : Nat} {a b : Int32} {P : Option Value → gx_M → Prop} (W : gg_W M n m) (G : gg_R M n m) (K : RD M (dC M n m))
    (h3 : ∀ M1, kf M M1 → RD M1 (dC M n m) → (¬ ∃ g, FL (dC M n m) g) → P (some (.int (-3))) M1)
    (h1 : ∀ (M1 : gx_M) (f : Nat → Int) (z : Int32), kf M M1 → RD M1 (dC M n m) → FV (dC M n m) 0 f → stR (rn (dC M n m) 50 (l0 f) (u0 (dC M n m) (l0 f))) a b z → P (some (.int z)) M1) : gx_C X 100 [.ref 34, .int a, .int b] M P := by
  have z0 : (0 : Int32).toInt = 0 := by decide
  have z1 : (1 : Int32).toInt = 1 := by decide
  have z2 : (2 : Int32).toInt = 2 := by decide
  refine gx_C_wp 60 ?_
  simp only [gx_w_np, gx_w_p, ne_eq, not_false_eq_true, gx_wp, gx_step, gx_cnd, gb0, gb1, Classical.not_not, List.getD_cons_zero, List.getD_cons_succ, List.set_cons_zero, List.set_cons_succ, List.length_cons, List.length_nil, Nat.reduceAdd, Nat.reduceLT, Nat.reduceLeDiff, Nat.reduceEqDiff, Bool.and_false, Bool.and_true, Bool.true_and, Bool.false_and, Bool.false_eq_true, if_false, if_true, ite_true, ite_false, Fin.isValue, Fin.val_zero, Fin.val_one, Fin.val_two, gz0, gz1, gz2, gz3, List.take_succ_cons, List.take_zero, List.drop_succ_cons, List.drop_zero, List.reverse_cons, List.reverse_nil, List.nil_append, List.cons_append, gx_nx, Int32.reduceToInt, Int.reduceToNat, Int.toNat_zero, Int.toNat_one, Int.reduceLT, Int.reduceLE, Int.ofNat_zero, Int.reduceNeg, Int.le_refl, and_self, List.getElem?_cons_zero, List.getElem?_cons_succ, true_and, and_true, Nat.reduceSub, List.replicate, List.append_nil, Nat.reduceLeDiff, Nat.le_add_left, Nat.zero_le, Nat.zero_add, gf4_121, gf4_134, gf4_59, gf4_62, gf4_65, gk_bipush_10, gk_bipush_m2, gk_bipush_m3, gk_iconst_1, gk_iconst_2, gk_iconst_m1, gm4_172, gn100, gn70, gr100, gr70, gv100, gi100_0, gi100_1, gi100_4, gi100_5, gi100_8, gi100_11, gi100_13, gi100_14, gi100_15, gi100_18, gi100_19, gi100_20, gi100_23, gi100_26, gi100_27, gi100_28, gi100_29, gi100_32, gi100_34, gi100_35, gi100_36, gi100_39, gi100_40, gi100_43, gi100_44, gi100_45, gi100_48, gi100_49, gi100_50, gi100_53, gi100_54, gi100_57, gi100_58, gi100_59, gi100_62, gi100_63, gi100_64, gi100_65, gi100_66, gi100_69, gi100_70, gi100_71, gi100_74, gi100_75, gi100_78, gi100_80, gi100_81, gi100_82, gi100_83, gi100_84, gi100_85, gi100_86, gi100_87, gi100_90, gi100_91, gl0, gl1, gl2, gl3, gl4, gl5, gl6, gl7, gl8, gl9, gl10, gl11, gl12, gl13, gl14, gl15, gl16, gl17, gl18, gl19, gl20, gl21, gl22, gl23, gl24, gl25, gl26, gl27, gl28, gl29, gl30, gl31, gl32, gl33, gl34, gl35, gl36, gl37, gl38, gl39, gl40, gl41, gl42, gl43, gl44, gl45, gl46, gl47, gl48, gl49, gl50, gl51, gl52, gl53, gl54, gl55, gl56, gl57]
  refine sr_know2 W G K (fun M2 f f1 F2 K2 z V V1 v0 v1 w0 w1 c1 c2 => ⟨fun _ => ?_, fun q => absurd q z⟩) (fun M2 F2 K2 z no B => ⟨fun q => absurd z q, fun _ => h3 M2 F2 K2 no⟩)
  have len := rn_len (D := dC M n m) 50 (l0 f) (u0 (dC M n m) (l0 f))
  have go := fun z (h : stR (rn (dC M n m) 50 (l0 f) (u0 (dC M n m) (l0 f))) a b z) => h1 M2 f z F2 K2 V h
  rw [c1]
  generalize rn (dC M n m) 50 (l0 f) (u0 (dC M n m) (l0 f)) = es at *
  simp (disch := first | decide | omega) only [gx_w_np, gx_w_p, Int32.reduceToInt, Int.toNat_natCast, if_true, if_false, nI_1, nI_pred, i_nI, ite_true, ite_false, Int.reduceToNat, Nat.reduceEqDiff, Nat.reduceAdd, i_lt, i_le]
  refine ⟨fun q => go _ (Or.inl ⟨by omega, rfl⟩), fun q => ⟨fun q2 => ⟨fun q3 => ⟨fun q4 => ⟨fun q5 => ⟨by omega, ?_⟩, fun q5 => ⟨by omega, ?_⟩⟩, fun q4 => ⟨by omega, ?_⟩⟩, fun q3 => go _ (Or.inr (Or.inl ⟨by omega, by omega, rfl⟩))⟩, fun q2 => go _ (Or.inl ⟨by omega, rfl⟩)⟩⟩
  · obtain ⟨x, g1, g2, g3, g4, g5⟩ := CG_get es 0 a.toInt.toNat c2 (by omega)
    rw [Nat.zero_add] at g2 g3 g5
    have b0 : b.toInt ≠ 0 := fun h => q4 (i_eq.mpr (by rw [h, z0]))
    have b1 : b.toInt ≠ 1 := fun h => q5 (i_eq.mpr (by rw [h, z1]))
    have e2 : (b - 2).toInt = b.toInt - 2 := by rw [i_sub (by rw [z2]; omega) (by rw [z2]; have := i_hi b; omega), z2]
    rw [g3]
    simp (disch := first | decide | omega) only [gx_w_np, gx_w_p, Int32.reduceToInt, Int.toNat_natCast, if_true, if_false, nI_1, nI_pred, i_nI, ite_true, ite_false, Int.reduceToNat, Nat.reduceEqDiff, Nat.reduceAdd, e2]
    refine ⟨fun q6 => go _ (Or.inr (Or.inr ⟨by omega, x, g1, Or.inr (Or.inr (Or.inr ⟨by omega, by omega, rfl⟩))⟩)), fun q6 => ?_⟩
    have ea : a = nI a.toInt.toNat := i_nat (by omega)
    have eb : b = nI ((b.toInt - 2).toNat + 2) := by
      have : b = nI b.toInt.toNat := i_nat (by omega)
      rw [show (b.toInt - 2).toNat + 2 = b.toInt.toNat by omega]; exact this
    have e : 10 * a + b - 2 = nI (10 * a.toInt.toNat + (b.toInt - 2).toNat) := by
      have h1 : 10 * a + b = nI (10 * a.toInt.toNat + (b.toInt - 2).toNat + 2) := by
        rw [Nat.add_assoc]
        generalize (b.toInt - 2).toNat + 2 = w at eb
        generalize a.toInt.toNat = v at ea
        rw [ea, eb, show (10 : Int32) = nI 10 by decide, pk_mul, nI_add]
      have h2 : (10 * a + b - 2).toInt = (10 * a + b).toInt - 2 := by
        rw [i_sub (by rw [h1, i_nI (by omega), z2]; omega) (by rw [h1, i_nI (by omega), z2]; omega), z2]
      rw [i_eq, h2, h1, i_nI (by omega), i_nI (by omega)]
      omega
    rw [e]
    simp (disch := first | decide | omega) only [gx_w_np, gx_w_p, Int32.reduceToInt, Int.toNat_natCast, if_true, if_false, nI_1, nI_pred, i_nI, ite_true, ite_false, Int.reduceToNat, Nat.reduceEqDiff, Nat.reduceAdd]
    refine ⟨by omega, go _ (Or.inr (Or.inr ⟨by omega, x, g1, Or.inr (Or.inr (Or.inl ⟨by omega, by omega, ?_⟩))⟩))⟩
    exact g5 _ (by omega)
  · obtain ⟨x, g1, g2, g3, g4, g5⟩ := CG_get es 0 a.toInt.toNat c2 (by omega)
    rw [Nat.zero_add] at g2 g3 g5
    exact go _ (Or.inr (Or.inr ⟨by omega, x, g1, Or.inr (Or.inl ⟨by rw [q5, z1], g3⟩)⟩))
  · obtain ⟨x, g1, g2, g3, g4, g5⟩ := CG_get es 0 a.toInt.toNat c2 (by omega)
    rw [Nat.zero_add] at g2 g3 g5
    exact go _ (Or.inr (Or.inr ⟨by omega, x, g1, Or.inl ⟨by rw [q4, z0], g2⟩⟩))
theorem pr_stream {X : gx_X} : lw_pair X (gg_I CC RC) 47 100 2 := by
  intro M as hl hI
  obtain ⟨a, b, rfl⟩ : ∃ a b, as = [a, b] := by
    match as, hl with
    | [a, b], _ => exact ⟨a, b, rfl⟩
  obtain ⟨⟨n, m, W, G⟩, hC, hR, hS⟩ := id hI
  have C : ck M n m := ⟨W, hS, hC n m W⟩
  have K := hR n m W G
  have O := gok_C W
  show gx_C X 47 [.ref 0, .int a, .int b] M _
  refine s_stream C (fun M1 F1 C1 no => ⟨_, rfl, ?_⟩) (fun M1 f z F1 C1 V h => ⟨_, rfl, ?_⟩)
  · obtain ⟨G1, eD, K1⟩ := side F1 G K
    show gx_C X 100 [.ref 34, .int a, .int b] M1 _
    refine sr_stream C1.1 G1 K1 (fun M2 F2 K2 _ => ⟨rfl, inv_k C1 G1 F2 K2⟩) (fun M2 f z F2 K2 V _ => ?_)
    rw [eD] at V
    exact absurd ⟨_, V.1⟩ no
  · obtain ⟨G1, eD, K1⟩ := side F1 G K
    show gx_C X 100 [.ref 34, .int a, .int b] M1 _
    refine sr_stream C1.1 G1 K1 (fun M2 F2 K2 no => ?_) (fun M2 f2 y F2 K2 V2 h2 => ?_)
    · rw [eD] at no
      exact absurd ⟨_, V.1⟩ no
    · rw [eD] at V2 h2
      rw [l0_eq O V2 V] at h2
      rw [stR_uq h2 h]
      exact ⟨rfl, inv_k C1 G1 F2 K2⟩
