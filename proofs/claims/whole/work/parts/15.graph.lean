/-! The graph: what the two objects hold, and the calls that change it. -/
/-- the graph of the object -/
def gg_W (M : gx_M) (n m : Nat) : Prop := M 1 7 = nI n ∧ M 1 8 = nI m ∧ n ≤ 10 ∧ m ≤ 40 ∧
  (∀ v, v < n → 0 ≤ (M 4 v).toInt ∧ (M 4 v).toInt ≤ 2 ∧ -1 ≤ (M 5 v).toInt ∧ (M 5 v).toInt ≤ 100000) ∧
  (∀ k, k < m → 0 ≤ (M 6 k).toInt ∧ (M 6 k).toInt < n ∧ 0 ≤ (M 7 k).toInt ∧ (M 7 k).toInt < n ∧ (M 6 k).toInt ≠ (M 7 k).toInt ∧ 0 ≤ (M 8 k).toInt ∧ (M 8 k).toInt ≤ (M 9 k).toInt ∧ (M 9 k).toInt ≤ 1000 ∧ gx_bl (M 10 k)) ∧
  (M 1 9).toInt = sm_ m (fun k => if M 10 k = 0 then 1 else 0)
/-- the reference holds the same -/
def gg_R (M : gx_M) (n m : Nat) : Prop := M 34 0 = nI n ∧ M 34 3 = nI m ∧ (∀ v, v < n → M 35 v = M 4 v ∧ M 36 v = M 5 v) ∧
  (∀ k, k < m → M 37 k = M 6 k ∧ M 38 k = M 7 k ∧ M 39 k = M 8 k ∧ M 40 k = M 9 k ∧ M 41 k = (if M 10 k = 0 then 1 else 0))
/-- the stale ends of edges are vertices all the same -/
def stl (M : gx_M) : Prop := ∀ e, e < 61 → ∃ a b, a < 22 ∧ b < 22 ∧ M 13 e = nI a ∧ M 14 e = nI b
def gg_I (CC RC : gx_M → Prop) (M : gx_M) : Prop := (∃ n m : Nat, gg_W M n m ∧ gg_R M n m) ∧ CC M ∧ RC M ∧ stl M
def gg_C0 (CC : gx_M → Prop) : Prop := ∀ M : gx_M, M 0 8 = 0 → M 0 9 = 0 → M 0 10 = 0 → M 32 0 = 0 → M 32 1 = 0 → CC M
def gg_R0 (RC : gx_M → Prop) : Prop := ∀ M : gx_M, M 34 9 = 0 → RC M
/-- forget() -/
def gg_fg (M : gx_M) : gx_M := gx_w (gx_w (gx_w (gx_w (gx_w M 0 10 0) 32 0 0) 32 1 0) 0 8 0) 0 9 0
theorem gg_fg_o {M : gx_M} {p j : Nat} (h0 : p ≠ 0) (h32 : p ≠ 32) : gg_fg M p j = M p j := by
  unfold gg_fg
  rw [gx_w_np h0, gx_w_np h0, gx_w_np h32, gx_w_np h32, gx_w_np h0]
set_option maxRecDepth 100000 in
set_option maxHeartbeats 4000000 in
theorem sp_forget {X : gx_X} {M : gx_M} {P : Option Value → gx_M → Prop} (h : P none (gg_fg M)) : gx_C X 52 [.ref 0] M P := by
  unfold gx_C
  refine gx_wp_ok 60 false _ _ _ _ ?_
  simp only [gx_w_np, gx_w_p, ne_eq, not_false_eq_true, gx_wp, gx_step, gx_cnd, gb0, gb1, Classical.not_not, List.getD_cons_zero, List.getD_cons_succ, List.set_cons_zero, List.set_cons_succ, List.length_cons, List.length_nil, Nat.reduceAdd, Nat.reduceLT, Nat.reduceLeDiff, Nat.reduceEqDiff, Bool.and_false, Bool.and_true, Bool.true_and, Bool.false_and, Bool.false_eq_true, if_false, if_true, ite_true, ite_false, Fin.isValue, Fin.val_zero, Fin.val_one, Fin.val_two, gz0, gz1, gz2, gz3, List.take_succ_cons, List.take_zero, List.drop_succ_cons, List.drop_zero, List.reverse_cons, List.reverse_nil, List.nil_append, List.cons_append, gx_nx, Int32.reduceToInt, Int.reduceToNat, Int.toNat_zero, Int.toNat_one, Int.reduceLT, Int.reduceLE, Int.ofNat_zero, Int.reduceNeg, Int.le_refl, and_self, List.getElem?_cons_zero, List.getElem?_cons_succ, true_and, and_true, Nat.reduceSub, List.replicate, List.append_nil, Nat.reduceLeDiff, Nat.le_add_left, Nat.zero_le, Nat.zero_add, gf3_131, gf3_156, gf3_159, gf3_39, gk_iconst_0, gk_iconst_1, gn52, gr52, gt3_10, gt3_8, gt3_9, gv52, gi52_0, gi52_1, gi52_2, gi52_5, gi52_6, gi52_9, gi52_10, gi52_11, gi52_12, gi52_13, gi52_16, gi52_17, gi52_18, gi52_19, gi52_20, gi52_21, gi52_24, gi52_25, gi52_26, gi52_29, gl0, gl1, gl2, gl3, gl4, gl5, gl6, gl7, gl8, gl9, gl10, gl11, gl12, gl13, gl14, gl15, gl16, gl17, gl18, gl19, gl20, gl21, gl22, gl23, gl24, gl25, gl26, gl27, gl28, gl29, gl30, gl31, gl32, gl33, gl34, gl35, gl36, gl37, gl38, gl39, gl40, gl41, gl42, gl43, gl44, gl45, gl46, gl47, gl48, gl49, gl50, gl51, gl52, gl53, gl54, gl55, gl56, gl57]
  exact ⟨by omega, by omega, h⟩
set_option maxRecDepth 100000 in
set_option maxHeartbeats 4000000 in
theorem sp_hasNode {X : gx_X} {M : gx_M} {v : Int32} {n : Nat} {P : Option Value → gx_M → Prop} (hn : M 1 7 = nI n) (hn10 : n ≤ 10) (h1 : 0 ≤ v.toInt → v.toInt < n → P (some (.int 1)) M) (h0 : ¬ (0 ≤ v.toInt ∧ v.toInt < n) → P (some (.int 0)) M) : gx_C X 0 [.ref 1, .int v] M P := by
  unfold gx_C
  refine gx_wp_ok 60 false _ _ _ _ ?_
  simp only [gx_w_np, gx_w_p, ne_eq, not_false_eq_true, gx_wp, gx_step, gx_cnd, gb0, gb1, Classical.not_not, List.getD_cons_zero, List.getD_cons_succ, List.set_cons_zero, List.set_cons_succ, List.length_cons, List.length_nil, Nat.reduceAdd, Nat.reduceLT, Nat.reduceLeDiff, Nat.reduceEqDiff, Bool.and_false, Bool.and_true, Bool.true_and, Bool.false_and, Bool.false_eq_true, if_false, if_true, ite_true, ite_false, Fin.isValue, Fin.val_zero, Fin.val_one, Fin.val_two, gz0, gz1, gz2, gz3, List.take_succ_cons, List.take_zero, List.drop_succ_cons, List.drop_zero, List.reverse_cons, List.reverse_nil, List.nil_append, List.cons_append, gx_nx, Int32.reduceToInt, Int.reduceToNat, Int.toNat_zero, Int.toNat_one, Int.reduceLT, Int.reduceLE, Int.ofNat_zero, Int.reduceNeg, Int.le_refl, and_self, List.getElem?_cons_zero, List.getElem?_cons_succ, true_and, and_true, Nat.reduceSub, List.replicate, List.append_nil, Nat.reduceLeDiff, Nat.le_add_left, Nat.zero_le, Nat.zero_add, gf0_34, gk_iconst_0, gk_iconst_1, gn0, gr0, gv0, gi0_0, gi0_1, gi0_4, gi0_5, gi0_6, gi0_9, gi0_12, gi0_13, gi0_16, gi0_17, gl0, gl1, gl2, gl3, gl4, gl5, gl6, gl7, gl8, gl9, gl10, gl11, gl12, gl13, gl14, gl15, gl16, gl17, gl18, gl19, gl20, gl21, gl22, gl23, gl24, gl25, gl26, gl27, gl28, gl29, gl30, gl31, gl32, gl33, gl34, gl35, gl36, gl37, gl38, gl39, gl40, gl41, gl42, gl43, gl44, gl45, gl46, gl47, gl48, gl49, gl50, gl51, gl52, gl53, gl54, gl55, gl56, gl57]
  simp (disch := first | decide | omega) only [gx_w_np, gx_w_p, Int32.reduceToInt, Int.toNat_natCast, if_true, if_false, nI_1, nI_pred, i_nI, ite_true, ite_false, Int.reduceToNat, Nat.reduceEqDiff, Nat.reduceAdd, hn, i_lt, i_le]
  refine ⟨fun a => h0 (by omega), fun a => ⟨fun b => h0 (by omega), fun b => h1 (by omega) (by omega)⟩⟩
set_option maxRecDepth 100000 in
set_option maxHeartbeats 4000000 in
theorem sr_isNode {X : gx_X} {M : gx_M} {v : Int32} {n : Nat} {P : Option Value → gx_M → Prop} (hn : M 34 0 = nI n) (hn10 : n ≤ 10) (h1 : 0 ≤ v.toInt → v.toInt < n → P (some (.int 1)) M) (h0 : ¬ (0 ≤ v.toInt ∧ v.toInt < n) → P (some (.int 0)) M) : gx_C X 79 [.ref 34, .int v] M P := by
  unfold gx_C
  refine gx_wp_ok 60 false _ _ _ _ ?_
  simp only [gx_w_np, gx_w_p, ne_eq, not_false_eq_true, gx_wp, gx_step, gx_cnd, gb0, gb1, Classical.not_not, List.getD_cons_zero, List.getD_cons_succ, List.set_cons_zero, List.set_cons_succ, List.length_cons, List.length_nil, Nat.reduceAdd, Nat.reduceLT, Nat.reduceLeDiff, Nat.reduceEqDiff, Bool.and_false, Bool.and_true, Bool.true_and, Bool.false_and, Bool.false_eq_true, if_false, if_true, ite_true, ite_false, Fin.isValue, Fin.val_zero, Fin.val_one, Fin.val_two, gz0, gz1, gz2, gz3, List.take_succ_cons, List.take_zero, List.drop_succ_cons, List.drop_zero, List.reverse_cons, List.reverse_nil, List.nil_append, List.cons_append, gx_nx, Int32.reduceToInt, Int.reduceToNat, Int.toNat_zero, Int.toNat_one, Int.reduceLT, Int.reduceLE, Int.ofNat_zero, Int.reduceNeg, Int.le_refl, and_self, List.getElem?_cons_zero, List.getElem?_cons_succ, true_and, and_true, Nat.reduceSub, List.replicate, List.append_nil, Nat.reduceLeDiff, Nat.le_add_left, Nat.zero_le, Nat.zero_add, gf4_91, gk_iconst_0, gk_iconst_1, gn79, gr79, gv79, gi79_0, gi79_1, gi79_4, gi79_5, gi79_6, gi79_9, gi79_12, gi79_13, gi79_16, gi79_17, gl0, gl1, gl2, gl3, gl4, gl5, gl6, gl7, gl8, gl9, gl10, gl11, gl12, gl13, gl14, gl15, gl16, gl17, gl18, gl19, gl20, gl21, gl22, gl23, gl24, gl25, gl26, gl27, gl28, gl29, gl30, gl31, gl32, gl33, gl34, gl35, gl36, gl37, gl38, gl39, gl40, gl41, gl42, gl43, gl44, gl45, gl46, gl47, gl48, gl49, gl50, gl51, gl52, gl53, gl54, gl55, gl56, gl57]
  simp (disch := first | decide | omega) only [gx_w_np, gx_w_p, Int32.reduceToInt, Int.toNat_natCast, if_true, if_false, nI_1, nI_pred, i_nI, ite_true, ite_false, Int.reduceToNat, Nat.reduceEqDiff, Nat.reduceAdd, hn, i_lt, i_le]
  refine ⟨fun a => h0 (by omega), fun a => ⟨fun b => h0 (by omega), fun b => h1 (by omega) (by omega)⟩⟩
set_option maxRecDepth 100000 in
set_option maxHeartbeats 4000000 in
theorem sp_hasArc {X : gx_X} {M : gx_M} {v : Int32} {m : Nat} {P : Option Value → gx_M → Prop} (hm : M 1 8 = nI m) (hm40 : m ≤ 40) (h1 : 0 ≤ v.toInt → v.toInt < m → M 10 v.toInt.toNat = 0 → P (some (.int 1)) M) (h0 : ¬ (0 ≤ v.toInt ∧ v.toInt < m ∧ M 10 v.toInt.toNat = 0) → P (some (.int 0)) M) : gx_C X 1 [.ref 1, .int v] M P := by
  unfold gx_C
  refine gx_wp_ok 60 false _ _ _ _ ?_
  simp only [gx_w_np, gx_w_p, ne_eq, not_false_eq_true, gx_wp, gx_step, gx_cnd, gb0, gb1, Classical.not_not, List.getD_cons_zero, List.getD_cons_succ, List.set_cons_zero, List.set_cons_succ, List.length_cons, List.length_nil, Nat.reduceAdd, Nat.reduceLT, Nat.reduceLeDiff, Nat.reduceEqDiff, Bool.and_false, Bool.and_true, Bool.true_and, Bool.false_and, Bool.false_eq_true, if_false, if_true, ite_true, ite_false, Fin.isValue, Fin.val_zero, Fin.val_one, Fin.val_two, gz0, gz1, gz2, gz3, List.take_succ_cons, List.take_zero, List.drop_succ_cons, List.drop_zero, List.reverse_cons, List.reverse_nil, List.nil_append, List.cons_append, gx_nx, Int32.reduceToInt, Int.reduceToNat, Int.toNat_zero, Int.toNat_one, Int.reduceLT, Int.reduceLE, Int.ofNat_zero, Int.reduceNeg, Int.le_refl, and_self, List.getElem?_cons_zero, List.getElem?_cons_succ, true_and, and_true, Nat.reduceSub, List.replicate, List.append_nil, Nat.reduceLeDiff, Nat.le_add_left, Nat.zero_le, Nat.zero_add, gf0_30, gf0_38, gk_iconst_0, gk_iconst_1, gn1, gr1, gv1, gi1_0, gi1_1, gi1_4, gi1_5, gi1_6, gi1_9, gi1_12, gi1_13, gi1_16, gi1_17, gi1_18, gi1_21, gi1_22, gi1_25, gi1_26, gl0, gl1, gl2, gl3, gl4, gl5, gl6, gl7, gl8, gl9, gl10, gl11, gl12, gl13, gl14, gl15, gl16, gl17, gl18, gl19, gl20, gl21, gl22, gl23, gl24, gl25, gl26, gl27, gl28, gl29, gl30, gl31, gl32, gl33, gl34, gl35, gl36, gl37, gl38, gl39, gl40, gl41, gl42, gl43, gl44, gl45, gl46, gl47, gl48, gl49, gl50, gl51, gl52, gl53, gl54, gl55, gl56, gl57]
  simp (disch := first | decide | omega) only [gx_w_np, gx_w_p, Int32.reduceToInt, Int.toNat_natCast, if_true, if_false, nI_1, nI_pred, i_nI, ite_true, ite_false, Int.reduceToNat, Nat.reduceEqDiff, Nat.reduceAdd, hm, i_lt, i_le]
  refine ⟨fun a => h0 (by omega), fun a => ⟨fun b => h0 (by omega), fun b => ⟨by omega, fun c => h0 (fun z => c z.2.2), fun c => h1 (by omega) (by omega) c⟩⟩⟩
set_option maxRecDepth 100000 in
set_option maxHeartbeats 4000000 in
theorem sr_isArc {X : gx_X} {M : gx_M} {v : Int32} {m : Nat} {P : Option Value → gx_M → Prop} (hm : M 34 3 = nI m) (hm40 : m ≤ 40) (h1 : 0 ≤ v.toInt → v.toInt < m → ¬ M 41 v.toInt.toNat = 0 → P (some (.int 1)) M) (h0 : ¬ (0 ≤ v.toInt ∧ v.toInt < m ∧ ¬ M 41 v.toInt.toNat = 0) → P (some (.int 0)) M) : gx_C X 80 [.ref 34, .int v] M P := by
  unfold gx_C
  refine gx_wp_ok 60 false _ _ _ _ ?_
  simp only [gx_w_np, gx_w_p, ne_eq, not_false_eq_true, gx_wp, gx_step, gx_cnd, gb0, gb1, Classical.not_not, List.getD_cons_zero, List.getD_cons_succ, List.set_cons_zero, List.set_cons_succ, List.length_cons, List.length_nil, Nat.reduceAdd, Nat.reduceLT, Nat.reduceLeDiff, Nat.reduceEqDiff, Bool.and_false, Bool.and_true, Bool.true_and, Bool.false_and, Bool.false_eq_true, if_false, if_true, ite_true, ite_false, Fin.isValue, Fin.val_zero, Fin.val_one, Fin.val_two, gz0, gz1, gz2, gz3, List.take_succ_cons, List.take_zero, List.drop_succ_cons, List.drop_zero, List.reverse_cons, List.reverse_nil, List.nil_append, List.cons_append, gx_nx, Int32.reduceToInt, Int.reduceToNat, Int.toNat_zero, Int.toNat_one, Int.reduceLT, Int.reduceLE, Int.ofNat_zero, Int.reduceNeg, Int.le_refl, and_self, List.getElem?_cons_zero, List.getElem?_cons_succ, true_and, and_true, Nat.reduceSub, List.replicate, List.append_nil, Nat.reduceLeDiff, Nat.le_add_left, Nat.zero_le, Nat.zero_add, gf4_28, gf4_84, gk_iconst_0, gk_iconst_1, gn80, gr80, gv80, gi80_0, gi80_1, gi80_4, gi80_5, gi80_6, gi80_9, gi80_12, gi80_13, gi80_16, gi80_17, gi80_18, gi80_21, gi80_22, gi80_25, gi80_26, gl0, gl1, gl2, gl3, gl4, gl5, gl6, gl7, gl8, gl9, gl10, gl11, gl12, gl13, gl14, gl15, gl16, gl17, gl18, gl19, gl20, gl21, gl22, gl23, gl24, gl25, gl26, gl27, gl28, gl29, gl30, gl31, gl32, gl33, gl34, gl35, gl36, gl37, gl38, gl39, gl40, gl41, gl42, gl43, gl44, gl45, gl46, gl47, gl48, gl49, gl50, gl51, gl52, gl53, gl54, gl55, gl56, gl57]
  simp (disch := first | decide | omega) only [gx_w_np, gx_w_p, Int32.reduceToInt, Int.toNat_natCast, if_true, if_false, nI_1, nI_pred, i_nI, ite_true, ite_false, Int.reduceToNat, Nat.reduceEqDiff, Nat.reduceAdd, hm, i_lt, i_le]
  refine ⟨fun a => h0 (by omega), fun a => ⟨fun b => h0 (by omega), fun b => ⟨by omega, fun c => h0 (fun z => z.2.2 c), fun c => h1 (by omega) (by omega) c⟩⟩⟩
set_option maxRecDepth 100000 in
set_option maxHeartbeats 4000000 in
theorem sp_addNode {X : gx_X} {M : gx_M} {n : Nat} {P : Option Value → gx_M → Prop} (hn : M 1 7 = nI n) (hn10 : n < 10) (h : P (some (.int (nI n))) (gx_w (gx_w (gx_w M 4 n 0) 5 n (-1)) 1 7 (nI (n + 1)))) : gx_C X 2 [.ref 1] M P := by
  unfold gx_C
  refine gx_wp_ok 60 false _ _ _ _ ?_
  simp only [gx_w_np, gx_w_p, ne_eq, not_false_eq_true, gx_wp, gx_step, gx_cnd, gb0, gb1, Classical.not_not, List.getD_cons_zero, List.getD_cons_succ, List.set_cons_zero, List.set_cons_succ, List.length_cons, List.length_nil, Nat.reduceAdd, Nat.reduceLT, Nat.reduceLeDiff, Nat.reduceEqDiff, Bool.and_false, Bool.and_true, Bool.true_and, Bool.false_and, Bool.false_eq_true, if_false, if_true, ite_true, ite_false, Fin.isValue, Fin.val_zero, Fin.val_one, Fin.val_two, gz0, gz1, gz2, gz3, List.take_succ_cons, List.take_zero, List.drop_succ_cons, List.drop_zero, List.reverse_cons, List.reverse_nil, List.nil_append, List.cons_append, gx_nx, Int32.reduceToInt, Int.reduceToNat, Int.toNat_zero, Int.toNat_one, Int.reduceLT, Int.reduceLE, Int.ofNat_zero, Int.reduceNeg, Int.le_refl, and_self, List.getElem?_cons_zero, List.getElem?_cons_succ, true_and, and_true, Nat.reduceSub, List.replicate, List.append_nil, Nat.reduceLeDiff, Nat.le_add_left, Nat.zero_le, Nat.zero_add, gf0_15, gf0_34, gf0_9, gk_iconst_0, gk_iconst_1, gk_iconst_m1, gn2, gr2, gt0_7, gv2, gi2_0, gi2_1, gi2_4, gi2_5, gi2_8, gi2_9, gi2_10, gi2_11, gi2_14, gi2_15, gi2_18, gi2_19, gi2_20, gi2_21, gi2_22, gi2_25, gi2_26, gi2_27, gi2_30, gi2_31, gi2_34, gi2_35, gi2_36, gl0, gl1, gl2, gl3, gl4, gl5, gl6, gl7, gl8, gl9, gl10, gl11, gl12, gl13, gl14, gl15, gl16, gl17, gl18, gl19, gl20, gl21, gl22, gl23, gl24, gl25, gl26, gl27, gl28, gl29, gl30, gl31, gl32, gl33, gl34, gl35, gl36, gl37, gl38, gl39, gl40, gl41, gl42, gl43, gl44, gl45, gl46, gl47, gl48, gl49, gl50, gl51, gl52, gl53, gl54, gl55, gl56, gl57]
  simp (disch := first | decide | omega) only [gx_w_np, gx_w_p, Int32.reduceToInt, Int.toNat_natCast, if_true, if_false, nI_1, nI_pred, i_nI, ite_true, ite_false, Int.reduceToNat, Nat.reduceEqDiff, Nat.reduceAdd, hn]
  exact ⟨by omega, by omega, h⟩
set_option maxRecDepth 100000 in
set_option maxHeartbeats 4000000 in
theorem sp_addArc {X : gx_X} {M : gx_M} {m j : Nat} {a b x y : Int32} {P : Option Value → gx_M → Prop} (hm : M 1 8 = nI m) (hm40 : m < 40) (hj : M 1 9 = nI j) (h : P (some (.int (nI m))) (gx_w (gx_w (gx_w (gx_w (gx_w (gx_w (gx_w M 6 m a) 7 m b) 8 m x) 9 m y) 10 m 0) 1 8 (nI (m + 1))) 1 9 (nI (j + 1)))) : gx_C X 3 [.ref 1, .int a, .int b, .int x, .int y] M P := by
  unfold gx_C
  refine gx_wp_ok 60 false _ _ _ _ ?_
  simp only [gx_w_np, gx_w_p, ne_eq, not_false_eq_true, gx_wp, gx_step, gx_cnd, gb0, gb1, Classical.not_not, List.getD_cons_zero, List.getD_cons_succ, List.set_cons_zero, List.set_cons_succ, List.length_cons, List.length_nil, Nat.reduceAdd, Nat.reduceLT, Nat.reduceLeDiff, Nat.reduceEqDiff, Bool.and_false, Bool.and_true, Bool.true_and, Bool.false_and, Bool.false_eq_true, if_false, if_true, ite_true, ite_false, Fin.isValue, Fin.val_zero, Fin.val_one, Fin.val_two, gz0, gz1, gz2, gz3, List.take_succ_cons, List.take_zero, List.drop_succ_cons, List.drop_zero, List.reverse_cons, List.reverse_nil, List.nil_append, List.cons_append, gx_nx, Int32.reduceToInt, Int.reduceToNat, Int.toNat_zero, Int.toNat_one, Int.reduceLT, Int.reduceLE, Int.ofNat_zero, Int.reduceNeg, Int.le_refl, and_self, List.getElem?_cons_zero, List.getElem?_cons_succ, true_and, and_true, Nat.reduceSub, List.replicate, List.append_nil, Nat.reduceLeDiff, Nat.le_add_left, Nat.zero_le, Nat.zero_add, gf0_18, gf0_21, gf0_24, gf0_27, gf0_30, gf0_38, gf0_41, gk_iconst_0, gk_iconst_1, gn3, gr3, gt0_8, gt0_9, gv3, gi3_0, gi3_1, gi3_4, gi3_5, gi3_8, gi3_9, gi3_10, gi3_11, gi3_14, gi3_15, gi3_18, gi3_19, gi3_20, gi3_21, gi3_24, gi3_25, gi3_28, gi3_29, gi3_30, gi3_31, gi3_34, gi3_35, gi3_38, gi3_40, gi3_41, gi3_42, gi3_45, gi3_46, gi3_49, gi3_50, gi3_51, gi3_52, gi3_53, gi3_56, gi3_57, gi3_58, gi3_61, gi3_62, gi3_63, gi3_66, gi3_67, gi3_68, gi3_71, gi3_72, gi3_75, gi3_76, gi3_77, gl0, gl1, gl2, gl3, gl4, gl5, gl6, gl7, gl8, gl9, gl10, gl11, gl12, gl13, gl14, gl15, gl16, gl17, gl18, gl19, gl20, gl21, gl22, gl23, gl24, gl25, gl26, gl27, gl28, gl29, gl30, gl31, gl32, gl33, gl34, gl35, gl36, gl37, gl38, gl39, gl40, gl41, gl42, gl43, gl44, gl45, gl46, gl47, gl48, gl49, gl50, gl51, gl52, gl53, gl54, gl55, gl56, gl57]
  simp (disch := first | decide | omega) only [gx_w_np, gx_w_p, Int32.reduceToInt, Int.toNat_natCast, if_true, if_false, nI_1, nI_pred, i_nI, ite_true, ite_false, Int.reduceToNat, Nat.reduceEqDiff, Nat.reduceAdd, hm, hj]
  exact ⟨by omega, by omega, by omega, by omega, by omega, h⟩
set_option maxRecDepth 100000 in
set_option maxHeartbeats 4000000 in
theorem sp_removeArc {X : gx_X} {M : gx_M} {k j : Nat} {P : Option Value → gx_M → Prop} (hk : k < 40) (hj : M 1 9 = nI (j + 1)) (h : P (some (.int (nI j))) (gx_w (gx_w M 10 k 1) 1 9 (nI j))) : gx_C X 4 [.ref 1, .int (nI k)] M P := by
  unfold gx_C
  refine gx_wp_ok 60 false _ _ _ _ ?_
  simp only [gx_w_np, gx_w_p, ne_eq, not_false_eq_true, gx_wp, gx_step, gx_cnd, gb0, gb1, Classical.not_not, List.getD_cons_zero, List.getD_cons_succ, List.set_cons_zero, List.set_cons_succ, List.length_cons, List.length_nil, Nat.reduceAdd, Nat.reduceLT, Nat.reduceLeDiff, Nat.reduceEqDiff, Bool.and_false, Bool.and_true, Bool.true_and, Bool.false_and, Bool.false_eq_true, if_false, if_true, ite_true, ite_false, Fin.isValue, Fin.val_zero, Fin.val_one, Fin.val_two, gz0, gz1, gz2, gz3, List.take_succ_cons, List.take_zero, List.drop_succ_cons, List.drop_zero, List.reverse_cons, List.reverse_nil, List.nil_append, List.cons_append, gx_nx, Int32.reduceToInt, Int.reduceToNat, Int.toNat_zero, Int.toNat_one, Int.reduceLT, Int.reduceLE, Int.ofNat_zero, Int.reduceNeg, Int.le_refl, and_self, List.getElem?_cons_zero, List.getElem?_cons_succ, true_and, and_true, Nat.reduceSub, List.replicate, List.append_nil, Nat.reduceLeDiff, Nat.le_add_left, Nat.zero_le, Nat.zero_add, gf0_30, gf0_41, gk_iconst_1, gn4, gr4, gt0_9, gv4, gi4_0, gi4_1, gi4_4, gi4_5, gi4_6, gi4_7, gi4_8, gi4_9, gi4_12, gi4_13, gi4_14, gi4_17, gi4_18, gi4_21, gl0, gl1, gl2, gl3, gl4, gl5, gl6, gl7, gl8, gl9, gl10, gl11, gl12, gl13, gl14, gl15, gl16, gl17, gl18, gl19, gl20, gl21, gl22, gl23, gl24, gl25, gl26, gl27, gl28, gl29, gl30, gl31, gl32, gl33, gl34, gl35, gl36, gl37, gl38, gl39, gl40, gl41, gl42, gl43, gl44, gl45, gl46, gl47, gl48, gl49, gl50, gl51, gl52, gl53, gl54, gl55, gl56, gl57]
  simp (disch := first | decide | omega) only [gx_w_np, gx_w_p, Int32.reduceToInt, Int.toNat_natCast, if_true, if_false, nI_1, nI_pred, i_nI, ite_true, ite_false, Int.reduceToNat, Nat.reduceEqDiff, Nat.reduceAdd, hj]
  exact ⟨by omega, h⟩
set_option maxRecDepth 100000 in
set_option maxHeartbeats 4000000 in
theorem sp_removeAll {X : gx_X} {M : gx_M} {P : Option Value → gx_M → Prop} (h : P (some (.int (M 1 7))) (gx_w (gx_w (gx_w M 1 7 0) 1 8 0) 1 9 0)) : gx_C X 5 [.ref 1] M P := by
  unfold gx_C
  refine gx_wp_ok 60 false _ _ _ _ ?_
  simp only [gx_w_np, gx_w_p, ne_eq, not_false_eq_true, gx_wp, gx_step, gx_cnd, gb0, gb1, Classical.not_not, List.getD_cons_zero, List.getD_cons_succ, List.set_cons_zero, List.set_cons_succ, List.length_cons, List.length_nil, Nat.reduceAdd, Nat.reduceLT, Nat.reduceLeDiff, Nat.reduceEqDiff, Bool.and_false, Bool.and_true, Bool.true_and, Bool.false_and, Bool.false_eq_true, if_false, if_true, ite_true, ite_false, Fin.isValue, Fin.val_zero, Fin.val_one, Fin.val_two, gz0, gz1, gz2, gz3, List.take_succ_cons, List.take_zero, List.drop_succ_cons, List.drop_zero, List.reverse_cons, List.reverse_nil, List.nil_append, List.cons_append, gx_nx, Int32.reduceToInt, Int.reduceToNat, Int.toNat_zero, Int.toNat_one, Int.reduceLT, Int.reduceLE, Int.ofNat_zero, Int.reduceNeg, Int.le_refl, and_self, List.getElem?_cons_zero, List.getElem?_cons_succ, true_and, and_true, Nat.reduceSub, List.replicate, List.append_nil, Nat.reduceLeDiff, Nat.le_add_left, Nat.zero_le, Nat.zero_add, gf0_34, gf0_38, gf0_41, gk_iconst_0, gn5, gr5, gt0_7, gt0_8, gt0_9, gv5, gi5_0, gi5_1, gi5_4, gi5_5, gi5_6, gi5_7, gi5_10, gi5_11, gi5_12, gi5_15, gi5_16, gi5_17, gi5_20, gi5_21, gl0, gl1, gl2, gl3, gl4, gl5, gl6, gl7, gl8, gl9, gl10, gl11, gl12, gl13, gl14, gl15, gl16, gl17, gl18, gl19, gl20, gl21, gl22, gl23, gl24, gl25, gl26, gl27, gl28, gl29, gl30, gl31, gl32, gl33, gl34, gl35, gl36, gl37, gl38, gl39, gl40, gl41, gl42, gl43, gl44, gl45, gl46, gl47, gl48, gl49, gl50, gl51, gl52, gl53, gl54, gl55, gl56, gl57]
  exact h
set_option maxRecDepth 100000 in
set_option maxHeartbeats 4000000 in
theorem sp_areArcBounds {X : gx_X} {M : gx_M} {x y : Int32} {P : Option Value → gx_M → Prop} (h1 : 0 ≤ x.toInt → x.toInt ≤ y.toInt → y.toInt ≤ 1000 → P (some (.int 1)) M) (h0 : ¬ (0 ≤ x.toInt ∧ x.toInt ≤ y.toInt ∧ y.toInt ≤ 1000) → P (some (.int 0)) M) : gx_C X 49 [.int x, .int y] M P := by
  unfold gx_C
  refine gx_wp_ok 60 false _ _ _ _ ?_
  simp only [gx_w_np, gx_w_p, ne_eq, not_false_eq_true, gx_wp, gx_step, gx_cnd, gb0, gb1, Classical.not_not, List.getD_cons_zero, List.getD_cons_succ, List.set_cons_zero, List.set_cons_succ, List.length_cons, List.length_nil, Nat.reduceAdd, Nat.reduceLT, Nat.reduceLeDiff, Nat.reduceEqDiff, Bool.and_false, Bool.and_true, Bool.true_and, Bool.false_and, Bool.false_eq_true, if_false, if_true, ite_true, ite_false, Fin.isValue, Fin.val_zero, Fin.val_one, Fin.val_two, gz0, gz1, gz2, gz3, List.take_succ_cons, List.take_zero, List.drop_succ_cons, List.drop_zero, List.reverse_cons, List.reverse_nil, List.nil_append, List.cons_append, gx_nx, Int32.reduceToInt, Int.reduceToNat, Int.toNat_zero, Int.toNat_one, Int.reduceLT, Int.reduceLE, Int.ofNat_zero, Int.reduceNeg, Int.le_refl, and_self, List.getElem?_cons_zero, List.getElem?_cons_succ, true_and, and_true, Nat.reduceSub, List.replicate, List.append_nil, Nat.reduceLeDiff, Nat.le_add_left, Nat.zero_le, Nat.zero_add, gk_iconst_0, gk_iconst_1, gk_sipush_1000, gn49, gr49, gv49, gi49_0, gi49_1, gi49_4, gi49_5, gi49_6, gi49_9, gi49_10, gi49_13, gi49_16, gi49_17, gi49_20, gi49_21, gl0, gl1, gl2, gl3, gl4, gl5, gl6, gl7, gl8, gl9, gl10, gl11, gl12, gl13, gl14, gl15, gl16, gl17, gl18, gl19, gl20, gl21, gl22, gl23, gl24, gl25, gl26, gl27, gl28, gl29, gl30, gl31, gl32, gl33, gl34, gl35, gl36, gl37, gl38, gl39, gl40, gl41, gl42, gl43, gl44, gl45, gl46, gl47, gl48, gl49, gl50, gl51, gl52, gl53, gl54, gl55, gl56, gl57]
  simp (disch := first | decide | omega) only [gx_w_np, gx_w_p, Int32.reduceToInt, Int.toNat_natCast, if_true, if_false, nI_1, nI_pred, i_nI, ite_true, ite_false, Int.reduceToNat, Nat.reduceEqDiff, Nat.reduceAdd, i_lt, i_le]
  refine ⟨fun a => h0 (by omega), fun a => ⟨fun b => h0 (by omega), fun b => ⟨fun c => h0 (by omega), fun c => h1 (by omega) (by omega) (by omega)⟩⟩⟩
set_option maxRecDepth 100000 in
set_option maxHeartbeats 4000000 in
theorem sr_isSpan {X : gx_X} {M : gx_M} {x y : Int32} {P : Option Value → gx_M → Prop} (h1 : 0 ≤ x.toInt → x.toInt ≤ y.toInt → y.toInt ≤ 1000 → P (some (.int 1)) M) (h0 : ¬ (0 ≤ x.toInt ∧ x.toInt ≤ y.toInt ∧ y.toInt ≤ 1000) → P (some (.int 0)) M) : gx_C X 81 [.int x, .int y] M P := by
  unfold gx_C
  refine gx_wp_ok 60 false _ _ _ _ ?_
  simp only [gx_w_np, gx_w_p, ne_eq, not_false_eq_true, gx_wp, gx_step, gx_cnd, gb0, gb1, Classical.not_not, List.getD_cons_zero, List.getD_cons_succ, List.set_cons_zero, List.set_cons_succ, List.length_cons, List.length_nil, Nat.reduceAdd, Nat.reduceLT, Nat.reduceLeDiff, Nat.reduceEqDiff, Bool.and_false, Bool.and_true, Bool.true_and, Bool.false_and, Bool.false_eq_true, if_false, if_true, ite_true, ite_false, Fin.isValue, Fin.val_zero, Fin.val_one, Fin.val_two, gz0, gz1, gz2, gz3, List.take_succ_cons, List.take_zero, List.drop_succ_cons, List.drop_zero, List.reverse_cons, List.reverse_nil, List.nil_append, List.cons_append, gx_nx, Int32.reduceToInt, Int.reduceToNat, Int.toNat_zero, Int.toNat_one, Int.reduceLT, Int.reduceLE, Int.ofNat_zero, Int.reduceNeg, Int.le_refl, and_self, List.getElem?_cons_zero, List.getElem?_cons_succ, true_and, and_true, Nat.reduceSub, List.replicate, List.append_nil, Nat.reduceLeDiff, Nat.le_add_left, Nat.zero_le, Nat.zero_add, gk_iconst_0, gk_iconst_1, gk_sipush_1000, gn81, gr81, gv81, gi81_0, gi81_1, gi81_4, gi81_5, gi81_8, gi81_11, gi81_12, gi81_13, gi81_16, gi81_17, gi81_20, gi81_21, gl0, gl1, gl2, gl3, gl4, gl5, gl6, gl7, gl8, gl9, gl10, gl11, gl12, gl13, gl14, gl15, gl16, gl17, gl18, gl19, gl20, gl21, gl22, gl23, gl24, gl25, gl26, gl27, gl28, gl29, gl30, gl31, gl32, gl33, gl34, gl35, gl36, gl37, gl38, gl39, gl40, gl41, gl42, gl43, gl44, gl45, gl46, gl47, gl48, gl49, gl50, gl51, gl52, gl53, gl54, gl55, gl56, gl57]
  simp (disch := first | decide | omega) only [gx_w_np, gx_w_p, Int32.reduceToInt, Int.toNat_natCast, if_true, if_false, nI_1, nI_pred, i_nI, ite_true, ite_false, Int.reduceToNat, Nat.reduceEqDiff, Nat.reduceAdd, i_lt, i_le]
  refine ⟨fun a => h0 (by omega), fun a => ⟨fun b => h0 (by omega), fun b => ⟨fun c => h0 (by omega), fun c => h1 (by omega) (by omega) (by omega)⟩⟩⟩
/-- a change: the caches are void -/
theorem gg_I_mk {CC RC : gx_M → Prop} (hC : gg_C0 CC) (hR : gg_R0 RC) {M M' : gx_M} (hS : stl M') {n m : Nat} (hW : gg_W M n m) (hG : gg_R M n m) (a : M 0 8 = 0) (b : M 0 9 = 0) (c : M 0 10 = 0) (d : M 32 0 = 0) (e : M 32 1 = 0) (f : M 34 9 = 0) (g : (fun e => M 13 e) = fun e => M' 13 e) (h : (fun e => M 14 e) = fun e => M' 14 e) : gg_I CC RC M := ⟨⟨n, m, hW, hG⟩, hC M a b c d e, hR M f, fun e he => by
  rw [show M 13 e = M' 13 e from congrFun g e, show M 14 e = M' 14 e from congrFun h e]
  exact hS e he⟩
set_option maxRecDepth 100000 in
set_option maxHeartbeats 4000000 in
theorem pr_node {X : gx_X} {CC RC : gx_M → Prop} (hC : gg_C0 CC) (hR : gg_R0 RC) : lw_pair X (gg_I CC RC) 31 82 0 := by
  intro M as hl hI
  obtain rfl : as = [] := List.eq_nil_of_length_eq_zero hl
  obtain ⟨⟨n, m, hW, hG⟩, hCC, hRC⟩ := id hI
  obtain ⟨w1, w2, w3, w4, w5, w6, w7⟩ := id hW
  obtain ⟨r1, r2, r3, r4⟩ := id hG
  show gx_C X 31 [.ref 0] M _
  unfold gx_C
  refine gx_wp_ok 60 false _ _ _ _ ?_
  simp only [gx_w_np, gx_w_p, ne_eq, not_false_eq_true, gx_wp, gx_step, gx_cnd, gb0, gb1, Classical.not_not, List.getD_cons_zero, List.getD_cons_succ, List.set_cons_zero, List.set_cons_succ, List.length_cons, List.length_nil, Nat.reduceAdd, Nat.reduceLT, Nat.reduceLeDiff, Nat.reduceEqDiff, Bool.and_false, Bool.and_true, Bool.true_and, Bool.false_and, Bool.false_eq_true, if_false, if_true, ite_true, ite_false, Fin.isValue, Fin.val_zero, Fin.val_one, Fin.val_two, gz0, gz1, gz2, gz3, List.take_succ_cons, List.take_zero, List.drop_succ_cons, List.drop_zero, List.reverse_cons, List.reverse_nil, List.nil_append, List.cons_append, gx_nx, Int32.reduceToInt, Int.reduceToNat, Int.toNat_zero, Int.toNat_one, Int.reduceLT, Int.reduceLE, Int.ofNat_zero, Int.reduceNeg, Int.le_refl, and_self, List.getElem?_cons_zero, List.getElem?_cons_succ, true_and, and_true, Nat.reduceSub, List.replicate, List.append_nil, Nat.reduceLeDiff, Nat.le_add_left, Nat.zero_le, Nat.zero_add, gf3_12, gf3_46, gk_bipush_10, gk_bipush_m4, gm3_50, gm3_53, gn2, gn31, gn52, gr2, gr31, gr52, gv31, gi31_0, gi31_1, gi31_4, gi31_7, gi31_9, gi31_12, gi31_14, gi31_15, gi31_16, gi31_19, gi31_20, gi31_23, gi31_26, gl0, gl1, gl2, gl3, gl4, gl5, gl6, gl7, gl8, gl9, gl10, gl11, gl12, gl13, gl14, gl15, gl16, gl17, gl18, gl19, gl20, gl21, gl22, gl23, gl24, gl25, gl26, gl27, gl28, gl29, gl30, gl31, gl32, gl33, gl34, gl35, gl36, gl37, gl38, gl39, gl40, gl41, gl42, gl43, gl44, gl45, gl46, gl47, gl48, gl49, gl50, gl51, gl52, gl53, gl54, gl55, gl56, gl57]
  simp (disch := first | decide | omega) only [gx_w_np, gx_w_p, Int32.reduceToInt, Int.toNat_natCast, if_true, if_false, nI_1, nI_pred, i_nI, ite_true, ite_false, Int.reduceToNat, Nat.reduceEqDiff, Nat.reduceAdd, w1, i_lt]
  refine ⟨fun h => sp_forget ?_, fun h => ⟨_, rfl, ?_⟩⟩
  · refine sp_addNode (n := n) (by rw [gg_fg_o (by decide) (by decide)]; exact w1) (by omega) ?_
    intro x hx
    cases hx
    refine ⟨_, rfl, ?_⟩
    show gx_C X 82 [.ref 34] _ _
    unfold gx_C
    refine gx_wp_ok 60 false _ _ _ _ ?_
    simp only [gx_w_np, gx_w_p, ne_eq, not_false_eq_true, gx_wp, gx_step, gx_cnd, gb0, gb1, Classical.not_not, List.getD_cons_zero, List.getD_cons_succ, List.set_cons_zero, List.set_cons_succ, List.length_cons, List.length_nil, Nat.reduceAdd, Nat.reduceLT, Nat.reduceLeDiff, Nat.reduceEqDiff, Bool.and_false, Bool.and_true, Bool.true_and, Bool.false_and, Bool.false_eq_true, if_false, if_true, ite_true, ite_false, Fin.isValue, Fin.val_zero, Fin.val_one, Fin.val_two, gz0, gz1, gz2, gz3, List.take_succ_cons, List.take_zero, List.drop_succ_cons, List.drop_zero, List.reverse_cons, List.reverse_nil, List.nil_append, List.cons_append, gx_nx, Int32.reduceToInt, Int.reduceToNat, Int.toNat_zero, Int.toNat_one, Int.reduceLT, Int.reduceLE, Int.ofNat_zero, Int.reduceNeg, Int.le_refl, and_self, List.getElem?_cons_zero, List.getElem?_cons_succ, true_and, and_true, Nat.reduceSub, List.replicate, List.append_nil, Nat.reduceLeDiff, Nat.le_add_left, Nat.zero_le, Nat.zero_add, gf4_117, gf4_13, gf4_7, gf4_91, gk_bipush_10, gk_bipush_m4, gk_iconst_0, gk_iconst_1, gk_iconst_m1, gn82, gr82, gt4_0, gt4_9, gv82, gi82_0, gi82_1, gi82_4, gi82_6, gi82_9, gi82_11, gi82_12, gi82_13, gi82_16, gi82_17, gi82_20, gi82_21, gi82_22, gi82_23, gi82_26, gi82_27, gi82_30, gi82_31, gi82_32, gi82_33, gi82_34, gi82_37, gi82_38, gi82_39, gi82_42, gi82_43, gi82_44, gi82_47, gi82_48, gi82_51, gi82_52, gi82_53, gl0, gl1, gl2, gl3, gl4, gl5, gl6, gl7, gl8, gl9, gl10, gl11, gl12, gl13, gl14, gl15, gl16, gl17, gl18, gl19, gl20, gl21, gl22, gl23, gl24, gl25, gl26, gl27, gl28, gl29, gl30, gl31, gl32, gl33, gl34, gl35, gl36, gl37, gl38, gl39, gl40, gl41, gl42, gl43, gl44, gl45, gl46, gl47, gl48, gl49, gl50, gl51, gl52, gl53, gl54, gl55, gl56, gl57]
    have e1 : ∀ p j : Nat, p ≠ 0 → p ≠ 32 → p ≠ 4 → p ≠ 5 → p ≠ 1 → (gx_w (gx_w (gx_w (gg_fg M) 4 n 0) 5 n (-1)) 1 7 (nI (n + 1))) p j = M p j := by
      intro p j a b c d e
      rw [gx_w_np e, gx_w_np d, gx_w_np c, gg_fg_o a b]
    simp (disch := first | decide | omega) only [gx_w_np, gx_w_p, Int32.reduceToInt, Int.toNat_natCast, if_true, if_false, nI_1, nI_pred, i_nI, ite_true, ite_false, Int.reduceToNat, Nat.reduceEqDiff, Nat.reduceAdd, e1, r1, gg_fg_o, i_eq]
    refine ⟨fun q => ⟨by omega, by omega, trivial, ?_⟩, fun q => absurd q (by omega)⟩
    refine gg_I_mk hC hR hRC.2 (n := n + 1) (m := m) ⟨?_, ?_, by omega, w4, ?_, ?_, ?_⟩ ⟨?_, ?_, ?_, ?_⟩ ?_ ?_ ?_ ?_ ?_ ?_ ?_ ?_ <;> simp (disch := first | decide | omega) only [gx_w_np, gx_w_p, Int32.reduceToInt, Int.toNat_natCast, if_true, if_false, nI_1, nI_pred, i_nI, ite_true, ite_false, Int.reduceToNat, Nat.reduceEqDiff, Nat.reduceAdd, gg_fg, w1, w2, w7, r1, r2]
    · intro v hv
      by_cases e : v = n
      · simp (disch := first | decide | omega) only [e, gx_w_np, gx_w_p, Int32.reduceToInt, Int.toNat_natCast, if_true, if_false, nI_1, nI_pred, i_nI, ite_true, ite_false, Int.reduceToNat, Nat.reduceEqDiff, Nat.reduceAdd]
        omega
      · simp (disch := first | decide | omega) only [e, gx_w_np, gx_w_p, Int32.reduceToInt, Int.toNat_natCast, if_true, if_false, nI_1, nI_pred, i_nI, ite_true, ite_false, Int.reduceToNat, Nat.reduceEqDiff, Nat.reduceAdd]
        exact w5 v (by omega)
    · intro k hk
      have := w6 k hk
      refine ⟨this.1, by omega, this.2.2.1, by omega, this.2.2.2.2⟩
    · intro v hv
      by_cases e : v = n
      · simp (disch := first | decide | omega) only [e, gx_w_np, gx_w_p, Int32.reduceToInt, Int.toNat_natCast, if_true, if_false, nI_1, nI_pred, i_nI, ite_true, ite_false, Int.reduceToNat, Nat.reduceEqDiff, Nat.reduceAdd, and_self]
      · simp (disch := first | decide | omega) only [e, gx_w_np, gx_w_p, Int32.reduceToInt, Int.toNat_natCast, if_true, if_false, nI_1, nI_pred, i_nI, ite_true, ite_false, Int.reduceToNat, Nat.reduceEqDiff, Nat.reduceAdd]
        exact r3 v (by omega)
    · exact r4
  · show gx_C X 82 [.ref 34] _ _
    unfold gx_C
    refine gx_wp_ok 60 false _ _ _ _ ?_
    simp only [gx_w_np, gx_w_p, ne_eq, not_false_eq_true, gx_wp, gx_step, gx_cnd, gb0, gb1, Classical.not_not, List.getD_cons_zero, List.getD_cons_succ, List.set_cons_zero, List.set_cons_succ, List.length_cons, List.length_nil, Nat.reduceAdd, Nat.reduceLT, Nat.reduceLeDiff, Nat.reduceEqDiff, Bool.and_false, Bool.and_true, Bool.true_and, Bool.false_and, Bool.false_eq_true, if_false, if_true, ite_true, ite_false, Fin.isValue, Fin.val_zero, Fin.val_one, Fin.val_two, gz0, gz1, gz2, gz3, List.take_succ_cons, List.take_zero, List.drop_succ_cons, List.drop_zero, List.reverse_cons, List.reverse_nil, List.nil_append, List.cons_append, gx_nx, Int32.reduceToInt, Int.reduceToNat, Int.toNat_zero, Int.toNat_one, Int.reduceLT, Int.reduceLE, Int.ofNat_zero, Int.reduceNeg, Int.le_refl, and_self, List.getElem?_cons_zero, List.getElem?_cons_succ, true_and, and_true, Nat.reduceSub, List.replicate, List.append_nil, Nat.reduceLeDiff, Nat.le_add_left, Nat.zero_le, Nat.zero_add, gf4_117, gf4_13, gf4_7, gf4_91, gk_bipush_10, gk_bipush_m4, gk_iconst_0, gk_iconst_1, gk_iconst_m1, gn82, gr82, gt4_0, gt4_9, gv82, gi82_0, gi82_1, gi82_4, gi82_6, gi82_9, gi82_11, gi82_12, gi82_13, gi82_16, gi82_17, gi82_20, gi82_21, gi82_22, gi82_23, gi82_26, gi82_27, gi82_30, gi82_31, gi82_32, gi82_33, gi82_34, gi82_37, gi82_38, gi82_39, gi82_42, gi82_43, gi82_44, gi82_47, gi82_48, gi82_51, gi82_52, gi82_53, gl0, gl1, gl2, gl3, gl4, gl5, gl6, gl7, gl8, gl9, gl10, gl11, gl12, gl13, gl14, gl15, gl16, gl17, gl18, gl19, gl20, gl21, gl22, gl23, gl24, gl25, gl26, gl27, gl28, gl29, gl30, gl31, gl32, gl33, gl34, gl35, gl36, gl37, gl38, gl39, gl40, gl41, gl42, gl43, gl44, gl45, gl46, gl47, gl48, gl49, gl50, gl51, gl52, gl53, gl54, gl55, gl56, gl57]
    simp (disch := first | decide | omega) only [gx_w_np, gx_w_p, Int32.reduceToInt, Int.toNat_natCast, if_true, if_false, nI_1, nI_pred, i_nI, ite_true, ite_false, Int.reduceToNat, Nat.reduceEqDiff, Nat.reduceAdd, r1, i_eq]
    exact ⟨fun q => absurd (by omega) q, fun _ => hI⟩
set_option maxRecDepth 100000 in
set_option maxHeartbeats 4000000 in
theorem s1_kind {X : gx_X} {M : gx_M} {v x : Int32} {n : Nat} {P : Option Value → gx_M → Prop} (hn : M 1 7 = nI n) (hn10 : n ≤ 10) (h1 : ¬ (0 ≤ v.toInt ∧ v.toInt < n) → P (some (.int (-1))) M) (h2 : 0 ≤ v.toInt ∧ v.toInt < n → ¬ (0 ≤ x.toInt ∧ x.toInt ≤ 2) → P (some (.int (-2))) M)
    (h3 : 0 ≤ v.toInt ∧ v.toInt < n → 0 ≤ x.toInt ∧ x.toInt ≤ 2 → P (some (.int (M 4 v.toInt.toNat))) (gg_fg (gx_w M 4 v.toInt.toNat x))) : gx_C X 32 [.ref 0, .int v, .int x] M P := by
  refine gx_C_wp 60 ?_
  simp only [gx_w_np, gx_w_p, ne_eq, not_false_eq_true, gx_wp, gx_step, gx_cnd, gb0, gb1, Classical.not_not, List.getD_cons_zero, List.getD_cons_succ, List.set_cons_zero, List.set_cons_succ, List.length_cons, List.length_nil, Nat.reduceAdd, Nat.reduceLT, Nat.reduceLeDiff, Nat.reduceEqDiff, Bool.and_false, Bool.and_true, Bool.true_and, Bool.false_and, Bool.false_eq_true, if_false, if_true, ite_true, ite_false, Fin.isValue, Fin.val_zero, Fin.val_one, Fin.val_two, gz0, gz1, gz2, gz3, List.take_succ_cons, List.take_zero, List.drop_succ_cons, List.drop_zero, List.reverse_cons, List.reverse_nil, List.nil_append, List.cons_append, gx_nx, Int32.reduceToInt, Int.reduceToNat, Int.toNat_zero, Int.toNat_one, Int.reduceLT, Int.reduceLE, Int.ofNat_zero, Int.reduceNeg, Int.le_refl, and_self, List.getElem?_cons_zero, List.getElem?_cons_succ, true_and, and_true, Nat.reduceSub, List.replicate, List.append_nil, Nat.reduceLeDiff, Nat.le_add_left, Nat.zero_le, Nat.zero_add, gf3_12, gf3_61, gk_bipush_m2, gk_iconst_2, gk_iconst_m1, gm3_50, gm3_57, gn0, gn32, gn52, gr0, gr32, gr52, gv32, gi32_0, gi32_1, gi32_4, gi32_5, gi32_8, gi32_11, gi32_12, gi32_13, gi32_14, gi32_17, gi32_18, gi32_19, gi32_22, gi32_24, gi32_25, gi32_26, gi32_29, gi32_32, gi32_33, gi32_34, gi32_35, gi32_36, gi32_39, gi32_42, gi32_43, gi32_44, gi32_45, gi32_46, gi32_49, gi32_50, gl0, gl1, gl2, gl3, gl4, gl5, gl6, gl7, gl8, gl9, gl10, gl11, gl12, gl13, gl14, gl15, gl16, gl17, gl18, gl19, gl20, gl21, gl22, gl23, gl24, gl25, gl26, gl27, gl28, gl29, gl30, gl31, gl32, gl33, gl34, gl35, gl36, gl37, gl38, gl39, gl40, gl41, gl42, gl43, gl44, gl45, gl46, gl47, gl48, gl49, gl50, gl51, gl52, gl53, gl54, gl55, gl56, gl57]
  simp (disch := first | decide | omega) only [gx_w_np, gx_w_p, Int32.reduceToInt, Int.toNat_natCast, if_true, if_false, nI_1, nI_pred, i_nI, ite_true, ite_false, Int.reduceToNat, Nat.reduceEqDiff, Nat.reduceAdd, i_lt, i_le]
  refine sp_hasNode hn hn10 (fun a b => ?_) (fun a => ?_)
  · intro z hz
    cases hz
    refine ⟨fun _ => ⟨fun c => h2 ⟨a, b⟩ (by omega), fun c => ⟨fun d => ⟨by omega, by omega, sp_forget (h3 ⟨a, b⟩ (by omega))⟩, fun d => h2 ⟨a, b⟩ (by omega)⟩⟩, fun c => absurd c (by decide)⟩
  · intro z hz
    cases hz
    exact ⟨fun c => absurd rfl c, fun _ => h1 a⟩
set_option maxRecDepth 100000 in
set_option maxHeartbeats 4000000 in
theorem s2_kind {X : gx_X} {M : gx_M} {v x : Int32} {n : Nat} {P : Option Value → gx_M → Prop} (hn : M 34 0 = nI n) (hn10 : n ≤ 10) (h1 : ¬ (0 ≤ v.toInt ∧ v.toInt < n) → P (some (.int (-1))) M) (h2 : 0 ≤ v.toInt ∧ v.toInt < n → ¬ (0 ≤ x.toInt ∧ x.toInt ≤ 2) → P (some (.int (-2))) M)
    (h3 : 0 ≤ v.toInt ∧ v.toInt < n → 0 ≤ x.toInt ∧ x.toInt ≤ 2 → P (some (.int (M 35 v.toInt.toNat))) (gx_w (gx_w M 35 v.toInt.toNat x) 34 9 0)) : gx_C X 83 [.ref 34, .int v, .int x] M P := by
  refine gx_C_wp 60 ?_
  simp only [gx_w_np, gx_w_p, ne_eq, not_false_eq_true, gx_wp, gx_step, gx_cnd, gb0, gb1, Classical.not_not, List.getD_cons_zero, List.getD_cons_succ, List.set_cons_zero, List.set_cons_succ, List.length_cons, List.length_nil, Nat.reduceAdd, Nat.reduceLT, Nat.reduceLeDiff, Nat.reduceEqDiff, Bool.and_false, Bool.and_true, Bool.true_and, Bool.false_and, Bool.false_eq_true, if_false, if_true, ite_true, ite_false, Fin.isValue, Fin.val_zero, Fin.val_one, Fin.val_two, gz0, gz1, gz2, gz3, List.take_succ_cons, List.take_zero, List.drop_succ_cons, List.drop_zero, List.reverse_cons, List.reverse_nil, List.nil_append, List.cons_append, gx_nx, Int32.reduceToInt, Int.reduceToNat, Int.toNat_zero, Int.toNat_one, Int.reduceLT, Int.reduceLE, Int.ofNat_zero, Int.reduceNeg, Int.le_refl, and_self, List.getElem?_cons_zero, List.getElem?_cons_succ, true_and, and_true, Nat.reduceSub, List.replicate, List.append_nil, Nat.reduceLeDiff, Nat.le_add_left, Nat.zero_le, Nat.zero_add, gf4_117, gf4_7, gk_bipush_m2, gk_iconst_0, gk_iconst_2, gk_iconst_m1, gm4_161, gn79, gn83, gr79, gr83, gt4_9, gv83, gi83_0, gi83_1, gi83_2, gi83_5, gi83_8, gi83_9, gi83_10, gi83_11, gi83_14, gi83_15, gi83_16, gi83_19, gi83_21, gi83_22, gi83_23, gi83_26, gi83_27, gi83_28, gi83_29, gi83_30, gi83_33, gi83_34, gi83_35, gi83_36, gi83_37, gi83_38, gi83_41, gi83_42, gl0, gl1, gl2, gl3, gl4, gl5, gl6, gl7, gl8, gl9, gl10, gl11, gl12, gl13, gl14, gl15, gl16, gl17, gl18, gl19, gl20, gl21, gl22, gl23, gl24, gl25, gl26, gl27, gl28, gl29, gl30, gl31, gl32, gl33, gl34, gl35, gl36, gl37, gl38, gl39, gl40, gl41, gl42, gl43, gl44, gl45, gl46, gl47, gl48, gl49, gl50, gl51, gl52, gl53, gl54, gl55, gl56, gl57]
  simp (disch := first | decide | omega) only [gx_w_np, gx_w_p, Int32.reduceToInt, Int.toNat_natCast, if_true, if_false, nI_1, nI_pred, i_nI, ite_true, ite_false, Int.reduceToNat, Nat.reduceEqDiff, Nat.reduceAdd, i_lt, i_le]
  refine sr_isNode hn hn10 (fun a b => ?_) (fun a => ?_)
  · intro z hz
    cases hz
    refine ⟨fun _ => ⟨fun c => h2 ⟨a, b⟩ (by omega), fun c => ⟨fun d => ⟨by omega, by omega, h3 ⟨a, b⟩ (by omega)⟩, fun d => h2 ⟨a, b⟩ (by omega)⟩⟩, fun c => absurd c (by decide)⟩
  · intro z hz
    cases hz
    exact ⟨fun c => absurd rfl c, fun _ => h1 a⟩
set_option maxRecDepth 100000 in
set_option maxHeartbeats 4000000 in
theorem s1_bound {X : gx_X} {M : gx_M} {v x : Int32} {n : Nat} {P : Option Value → gx_M → Prop} (hn : M 1 7 = nI n) (hn10 : n ≤ 10) (h1 : ¬ (0 ≤ v.toInt ∧ v.toInt < n) → P (some (.int (-1))) M) (h2 : 0 ≤ v.toInt ∧ v.toInt < n → ¬ (-1 ≤ x.toInt ∧ x.toInt ≤ 100000) → P (some (.int (-2))) M)
    (h3 : 0 ≤ v.toInt ∧ v.toInt < n → -1 ≤ x.toInt ∧ x.toInt ≤ 100000 → P (some (.int 1)) (gg_fg (gx_w M 5 v.toInt.toNat x))) : gx_C X 33 [.ref 0, .int v, .int x] M P := by
  refine gx_C_wp 60 ?_
  simp only [gx_w_np, gx_w_p, ne_eq, not_false_eq_true, gx_wp, gx_step, gx_cnd, gb0, gb1, Classical.not_not, List.getD_cons_zero, List.getD_cons_succ, List.set_cons_zero, List.set_cons_succ, List.length_cons, List.length_nil, Nat.reduceAdd, Nat.reduceLT, Nat.reduceLeDiff, Nat.reduceEqDiff, Bool.and_false, Bool.and_true, Bool.true_and, Bool.false_and, Bool.false_eq_true, if_false, if_true, ite_true, ite_false, Fin.isValue, Fin.val_zero, Fin.val_one, Fin.val_two, gz0, gz1, gz2, gz3, List.take_succ_cons, List.take_zero, List.drop_succ_cons, List.drop_zero, List.reverse_cons, List.reverse_nil, List.nil_append, List.cons_append, gx_nx, Int32.reduceToInt, Int.reduceToNat, Int.toNat_zero, Int.toNat_one, Int.reduceLT, Int.reduceLE, Int.ofNat_zero, Int.reduceNeg, Int.le_refl, and_self, List.getElem?_cons_zero, List.getElem?_cons_succ, true_and, and_true, Nat.reduceSub, List.replicate, List.append_nil, Nat.reduceLeDiff, Nat.le_add_left, Nat.zero_le, Nat.zero_add, gc3_64, gf3_12, gf3_65, gk_bipush_m2, gk_iconst_1, gk_iconst_m1, gm3_50, gm3_57, gn0, gn33, gn52, gr0, gr33, gr52, gv33, gi33_0, gi33_1, gi33_4, gi33_5, gi33_8, gi33_11, gi33_12, gi33_13, gi33_14, gi33_15, gi33_18, gi33_19, gi33_21, gi33_24, gi33_26, gi33_27, gi33_28, gi33_31, gi33_34, gi33_35, gi33_36, gi33_37, gi33_38, gi33_41, gi33_42, gl0, gl1, gl2, gl3, gl4, gl5, gl6, gl7, gl8, gl9, gl10, gl11, gl12, gl13, gl14, gl15, gl16, gl17, gl18, gl19, gl20, gl21, gl22, gl23, gl24, gl25, gl26, gl27, gl28, gl29, gl30, gl31, gl32, gl33, gl34, gl35, gl36, gl37, gl38, gl39, gl40, gl41, gl42, gl43, gl44, gl45, gl46, gl47, gl48, gl49, gl50, gl51, gl52, gl53, gl54, gl55, gl56, gl57]
  simp (disch := first | decide | omega) only [gx_w_np, gx_w_p, Int32.reduceToInt, Int.toNat_natCast, if_true, if_false, nI_1, nI_pred, i_nI, ite_true, ite_false, Int.reduceToNat, Nat.reduceEqDiff, Nat.reduceAdd, i_lt, i_le]
  refine sp_hasNode hn hn10 (fun a b => ?_) (fun a => ?_)
  · intro z hz
    cases hz
    refine ⟨fun _ => ⟨fun c => h2 ⟨a, b⟩ (by omega), fun c => ⟨fun d => ⟨by omega, sp_forget (h3 ⟨a, b⟩ (by omega))⟩, fun d => h2 ⟨a, b⟩ (by omega)⟩⟩, fun c => absurd c (by decide)⟩
  · intro z hz
    cases hz
    exact ⟨fun c => absurd rfl c, fun _ => h1 a⟩
set_option maxRecDepth 100000 in
set_option maxHeartbeats 4000000 in
theorem s2_bound {X : gx_X} {M : gx_M} {v x : Int32} {n : Nat} {P : Option Value → gx_M → Prop} (hn : M 34 0 = nI n) (hn10 : n ≤ 10) (h1 : ¬ (0 ≤ v.toInt ∧ v.toInt < n) → P (some (.int (-1))) M) (h2 : 0 ≤ v.toInt ∧ v.toInt < n → ¬ (-1 ≤ x.toInt ∧ x.toInt ≤ 100000) → P (some (.int (-2))) M)
    (h3 : 0 ≤ v.toInt ∧ v.toInt < n → -1 ≤ x.toInt ∧ x.toInt ≤ 100000 → P (some (.int 1)) (gx_w (gx_w M 36 v.toInt.toNat x) 34 9 0)) : gx_C X 84 [.ref 34, .int v, .int x] M P := by
  refine gx_C_wp 60 ?_
  simp only [gx_w_np, gx_w_p, ne_eq, not_false_eq_true, gx_wp, gx_step, gx_cnd, gb0, gb1, Classical.not_not, List.getD_cons_zero, List.getD_cons_succ, List.set_cons_zero, List.set_cons_succ, List.length_cons, List.length_nil, Nat.reduceAdd, Nat.reduceLT, Nat.reduceLeDiff, Nat.reduceEqDiff, Bool.and_false, Bool.and_true, Bool.true_and, Bool.false_and, Bool.false_eq_true, if_false, if_true, ite_true, ite_false, Fin.isValue, Fin.val_zero, Fin.val_one, Fin.val_two, gz0, gz1, gz2, gz3, List.take_succ_cons, List.take_zero, List.drop_succ_cons, List.drop_zero, List.reverse_cons, List.reverse_nil, List.nil_append, List.cons_append, gx_nx, Int32.reduceToInt, Int.reduceToNat, Int.toNat_zero, Int.toNat_one, Int.reduceLT, Int.reduceLE, Int.ofNat_zero, Int.reduceNeg, Int.le_refl, and_self, List.getElem?_cons_zero, List.getElem?_cons_succ, true_and, and_true, Nat.reduceSub, List.replicate, List.append_nil, Nat.reduceLeDiff, Nat.le_add_left, Nat.zero_le, Nat.zero_add, gc4_165, gf4_117, gf4_13, gk_bipush_m2, gk_iconst_0, gk_iconst_1, gk_iconst_m1, gm4_161, gn79, gn84, gr79, gr84, gt4_9, gv84, gi84_0, gi84_1, gi84_2, gi84_5, gi84_8, gi84_9, gi84_10, gi84_11, gi84_12, gi84_15, gi84_16, gi84_18, gi84_21, gi84_23, gi84_24, gi84_25, gi84_28, gi84_29, gi84_30, gi84_31, gi84_32, gi84_33, gi84_36, gi84_37, gl0, gl1, gl2, gl3, gl4, gl5, gl6, gl7, gl8, gl9, gl10, gl11, gl12, gl13, gl14, gl15, gl16, gl17, gl18, gl19, gl20, gl21, gl22, gl23, gl24, gl25, gl26, gl27, gl28, gl29, gl30, gl31, gl32, gl33, gl34, gl35, gl36, gl37, gl38, gl39, gl40, gl41, gl42, gl43, gl44, gl45, gl46, gl47, gl48, gl49, gl50, gl51, gl52, gl53, gl54, gl55, gl56, gl57]
  simp (disch := first | decide | omega) only [gx_w_np, gx_w_p, Int32.reduceToInt, Int.toNat_natCast, if_true, if_false, nI_1, nI_pred, i_nI, ite_true, ite_false, Int.reduceToNat, Nat.reduceEqDiff, Nat.reduceAdd, i_lt, i_le]
  refine sr_isNode hn hn10 (fun a b => ?_) (fun a => ?_)
  · intro z hz
    cases hz
    refine ⟨fun _ => ⟨fun c => h2 ⟨a, b⟩ (by omega), fun c => ⟨fun d => ⟨by omega, h3 ⟨a, b⟩ (by omega)⟩, fun d => h2 ⟨a, b⟩ (by omega)⟩⟩, fun c => absurd c (by decide)⟩
  · intro z hz
    cases hz
    exact ⟨fun c => absurd rfl c, fun _ => h1 a⟩
set_option maxRecDepth 100000 in
set_option maxHeartbeats 4000000 in
theorem pr_kind {X : gx_X} {CC RC : gx_M → Prop} (hC : gg_C0 CC) (hR : gg_R0 RC) : lw_pair X (gg_I CC RC) 32 83 2 := by
  intro M as hl hI
  obtain ⟨v, x, rfl⟩ : ∃ v x, as = [v, x] := by
    match as, hl with
    | [v, x], _ => exact ⟨v, x, rfl⟩
  obtain ⟨⟨n, m, hW, hG⟩, hCC, hRC⟩ := id hI
  obtain ⟨w1, w2, w3, w4, w5, w6, w7⟩ := id hW
  obtain ⟨r1, r2, r3, r4⟩ := id hG
  refine s1_kind w1 w3 (fun a => ⟨_, rfl, ?_⟩) (fun a b => ⟨_, rfl, ?_⟩) (fun a b => ⟨_, rfl, ?_⟩)
  · exact s2_kind r1 w3 (fun _ => ⟨rfl, hI⟩) (fun c => absurd c a) (fun c => absurd c a)
  · exact s2_kind r1 w3 (fun c => absurd a c) (fun _ _ => ⟨rfl, hI⟩) (fun _ c => absurd c b)
  · refine s2_kind (n := n) (by simp (disch := first | decide | omega) only [gx_w_np, gx_w_p, Int32.reduceToInt, Int.toNat_natCast, if_true, if_false, nI_1, nI_pred, i_nI, ite_true, ite_false, Int.reduceToNat, Nat.reduceEqDiff, Nat.reduceAdd, gg_fg, r1]) w3 (fun c => absurd a c) (fun _ c => absurd b c) (fun _ _ => ⟨?_, ?_⟩)
    · simp (disch := first | decide | omega) only [gx_w_np, gx_w_p, Int32.reduceToInt, Int.toNat_natCast, if_true, if_false, nI_1, nI_pred, i_nI, ite_true, ite_false, Int.reduceToNat, Nat.reduceEqDiff, Nat.reduceAdd, gg_fg, (r3 v.toInt.toNat (by omega)).1]
    refine gg_I_mk hC hR hRC.2 (n := n) (m := m) ⟨?_, ?_, w3, w4, ?_, ?_, ?_⟩ ⟨?_, ?_, ?_, ?_⟩ ?_ ?_ ?_ ?_ ?_ ?_ ?_ ?_ <;> simp (disch := first | decide | omega) only [gx_w_np, gx_w_p, Int32.reduceToInt, Int.toNat_natCast, if_true, if_false, nI_1, nI_pred, i_nI, ite_true, ite_false, Int.reduceToNat, Nat.reduceEqDiff, Nat.reduceAdd, gg_fg, w1, w2, w7, r1, r2]
    · intro j hj
      by_cases e : j = v.toInt.toNat
      · simp (disch := first | decide | omega) only [e, gx_w_np, gx_w_p, Int32.reduceToInt, Int.toNat_natCast, if_true, if_false, nI_1, nI_pred, i_nI, ite_true, ite_false, Int.reduceToNat, Nat.reduceEqDiff, Nat.reduceAdd]
        have := w5 v.toInt.toNat (by omega)
        omega
      · simp (disch := first | decide | omega) only [e, gx_w_np, gx_w_p, Int32.reduceToInt, Int.toNat_natCast, if_true, if_false, nI_1, nI_pred, i_nI, ite_true, ite_false, Int.reduceToNat, Nat.reduceEqDiff, Nat.reduceAdd]
        exact w5 j hj
    · exact w6
    · intro j hj
      by_cases e : j = v.toInt.toNat
      · simp (disch := first | decide | omega) only [e, gx_w_np, gx_w_p, Int32.reduceToInt, Int.toNat_natCast, if_true, if_false, nI_1, nI_pred, i_nI, ite_true, ite_false, Int.reduceToNat, Nat.reduceEqDiff, Nat.reduceAdd]
        exact ⟨trivial, (r3 _ (by omega)).2⟩
      · simp (disch := first | decide | omega) only [e, gx_w_np, gx_w_p, Int32.reduceToInt, Int.toNat_natCast, if_true, if_false, nI_1, nI_pred, i_nI, ite_true, ite_false, Int.reduceToNat, Nat.reduceEqDiff, Nat.reduceAdd]
        exact r3 j hj
    · exact r4
set_option maxRecDepth 100000 in
set_option maxHeartbeats 4000000 in
theorem pr_bound {X : gx_X} {CC RC : gx_M → Prop} (hC : gg_C0 CC) (hR : gg_R0 RC) : lw_pair X (gg_I CC RC) 33 84 2 := by
  intro M as hl hI
  obtain ⟨v, x, rfl⟩ : ∃ v x, as = [v, x] := by
    match as, hl with
    | [v, x], _ => exact ⟨v, x, rfl⟩
  obtain ⟨⟨n, m, hW, hG⟩, hCC, hRC⟩ := id hI
  obtain ⟨w1, w2, w3, w4, w5, w6, w7⟩ := id hW
  obtain ⟨r1, r2, r3, r4⟩ := id hG
  refine s1_bound w1 w3 (fun a => ⟨_, rfl, ?_⟩) (fun a b => ⟨_, rfl, ?_⟩) (fun a b => ⟨_, rfl, ?_⟩)
  · exact s2_bound r1 w3 (fun _ => ⟨rfl, hI⟩) (fun c => absurd c a) (fun c => absurd c a)
  · exact s2_bound r1 w3 (fun c => absurd a c) (fun _ _ => ⟨rfl, hI⟩) (fun _ c => absurd c b)
  · refine s2_bound (n := n) (by simp (disch := first | decide | omega) only [gx_w_np, gx_w_p, Int32.reduceToInt, Int.toNat_natCast, if_true, if_false, nI_1, nI_pred, i_nI, ite_true, ite_false, Int.reduceToNat, Nat.reduceEqDiff, Nat.reduceAdd, gg_fg, r1]) w3 (fun c => absurd a c) (fun _ c => absurd b c) (fun _ _ => ⟨rfl, ?_⟩)
    refine gg_I_mk hC hR hRC.2 (n := n) (m := m) ⟨?_, ?_, w3, w4, ?_, ?_, ?_⟩ ⟨?_, ?_, ?_, ?_⟩ ?_ ?_ ?_ ?_ ?_ ?_ ?_ ?_ <;> simp (disch := first | decide | omega) only [gx_w_np, gx_w_p, Int32.reduceToInt, Int.toNat_natCast, if_true, if_false, nI_1, nI_pred, i_nI, ite_true, ite_false, Int.reduceToNat, Nat.reduceEqDiff, Nat.reduceAdd, gg_fg, w1, w2, w7, r1, r2]
    · intro j hj
      by_cases e : j = v.toInt.toNat
      · simp (disch := first | decide | omega) only [e, gx_w_np, gx_w_p, Int32.reduceToInt, Int.toNat_natCast, if_true, if_false, nI_1, nI_pred, i_nI, ite_true, ite_false, Int.reduceToNat, Nat.reduceEqDiff, Nat.reduceAdd]
        have := w5 v.toInt.toNat (by omega)
        omega
      · simp (disch := first | decide | omega) only [e, gx_w_np, gx_w_p, Int32.reduceToInt, Int.toNat_natCast, if_true, if_false, nI_1, nI_pred, i_nI, ite_true, ite_false, Int.reduceToNat, Nat.reduceEqDiff, Nat.reduceAdd]
        exact w5 j hj
    · exact w6
    · intro j hj
      by_cases e : j = v.toInt.toNat
      · simp (disch := first | decide | omega) only [e, gx_w_np, gx_w_p, Int32.reduceToInt, Int.toNat_natCast, if_true, if_false, nI_1, nI_pred, i_nI, ite_true, ite_false, Int.reduceToNat, Nat.reduceEqDiff, Nat.reduceAdd]
        exact ⟨(r3 _ (by omega)).1, trivial⟩
      · simp (disch := first | decide | omega) only [e, gx_w_np, gx_w_p, Int32.reduceToInt, Int.toNat_natCast, if_true, if_false, nI_1, nI_pred, i_nI, ite_true, ite_false, Int.reduceToNat, Nat.reduceEqDiff, Nat.reduceAdd]
        exact r3 j hj
    · exact r4
def gg_aw (M : gx_M) (m j : Nat) (a b x y : Int32) : gx_M := gx_w (gx_w (gx_w (gx_w (gx_w (gx_w (gx_w M 6 m a) 7 m b) 8 m x) 9 m y) 10 m 0) 1 8 (nI (m + 1))) 1 9 (nI (j + 1))
def gg_ar (M : gx_M) (m : Nat) (a b x y : Int32) : gx_M := gx_w (gx_w (gx_w (gx_w (gx_w (gx_w (gx_w M 37 m a) 38 m b) 39 m x) 40 m y) 41 m 1) 34 3 (nI (m + 1))) 34 9 0
set_option maxRecDepth 100000 in
set_option maxHeartbeats 4000000 in
theorem s1_arc {X : gx_X} {M : gx_M} {a b x y : Int32} {n m j : Nat} {P : Option Value → gx_M → Prop} (hn : M 1 7 = nI n) (hn10 : n ≤ 10) (hm : M 1 8 = nI m) (hm40 : m ≤ 40) (hj : M 1 9 = nI j)
    (h1 : ¬ (0 ≤ a.toInt ∧ a.toInt < n ∧ 0 ≤ b.toInt ∧ b.toInt < n ∧ a.toInt ≠ b.toInt) → P (some (.int (-1))) M)
    (h2 : (0 ≤ a.toInt ∧ a.toInt < n ∧ 0 ≤ b.toInt ∧ b.toInt < n ∧ a.toInt ≠ b.toInt) → ¬ (0 ≤ x.toInt ∧ x.toInt ≤ y.toInt ∧ y.toInt ≤ 1000) → P (some (.int (-2))) M)
    (h3 : (0 ≤ a.toInt ∧ a.toInt < n ∧ 0 ≤ b.toInt ∧ b.toInt < n ∧ a.toInt ≠ b.toInt) → (0 ≤ x.toInt ∧ x.toInt ≤ y.toInt ∧ y.toInt ≤ 1000) → m = 40 → P (some (.int (-4))) M)
    (h4 : (0 ≤ a.toInt ∧ a.toInt < n ∧ 0 ≤ b.toInt ∧ b.toInt < n ∧ a.toInt ≠ b.toInt) → (0 ≤ x.toInt ∧ x.toInt ≤ y.toInt ∧ y.toInt ≤ 1000) → m < 40 → P (some (.int (nI m))) (gg_aw (gg_fg M) m j a b x y)) : gx_C X 34 [.ref 0, .int a, .int b, .int x, .int y] M P := by
  refine gx_C_wp 60 ?_
  simp only [gx_w_np, gx_w_p, ne_eq, not_false_eq_true, gx_wp, gx_step, gx_cnd, gb0, gb1, Classical.not_not, List.getD_cons_zero, List.getD_cons_succ, List.set_cons_zero, List.set_cons_succ, List.length_cons, List.length_nil, Nat.reduceAdd, Nat.reduceLT, Nat.reduceLeDiff, Nat.reduceEqDiff, Bool.and_false, Bool.and_true, Bool.true_and, Bool.false_and, Bool.false_eq_true, if_false, if_true, ite_true, ite_false, Fin.isValue, Fin.val_zero, Fin.val_one, Fin.val_two, gz0, gz1, gz2, gz3, List.take_succ_cons, List.take_zero, List.drop_succ_cons, List.drop_zero, List.reverse_cons, List.reverse_nil, List.nil_append, List.cons_append, gx_nx, Int32.reduceToInt, Int.reduceToNat, Int.toNat_zero, Int.toNat_one, Int.reduceLT, Int.reduceLE, Int.ofNat_zero, Int.reduceNeg, Int.le_refl, and_self, List.getElem?_cons_zero, List.getElem?_cons_succ, true_and, and_true, Nat.reduceSub, List.replicate, List.append_nil, Nat.reduceLeDiff, Nat.le_add_left, Nat.zero_le, Nat.zero_add, gf3_12, gf3_72, gk_bipush_40, gk_bipush_m2, gk_bipush_m4, gk_iconst_m1, gm3_50, gm3_57, gm3_68, gm3_75, gn0, gn3, gn34, gn49, gn52, gr0, gr3, gr34, gr49, gr52, gv34, gi34_0, gi34_1, gi34_4, gi34_5, gi34_8, gi34_11, gi34_12, gi34_15, gi34_16, gi34_19, gi34_22, gi34_23, gi34_24, gi34_27, gi34_28, gi34_29, gi34_30, gi34_32, gi34_35, gi34_38, gi34_40, gi34_41, gi34_42, gi34_45, gi34_48, gi34_50, gi34_53, gi34_55, gi34_56, gi34_57, gi34_60, gi34_61, gi34_64, gi34_65, gi34_66, gi34_67, gi34_69, gi34_72, gl0, gl1, gl2, gl3, gl4, gl5, gl6, gl7, gl8, gl9, gl10, gl11, gl12, gl13, gl14, gl15, gl16, gl17, gl18, gl19, gl20, gl21, gl22, gl23, gl24, gl25, gl26, gl27, gl28, gl29, gl30, gl31, gl32, gl33, gl34, gl35, gl36, gl37, gl38, gl39, gl40, gl41, gl42, gl43, gl44, gl45, gl46, gl47, gl48, gl49, gl50, gl51, gl52, gl53, gl54, gl55, gl56, gl57]
  refine sp_hasNode hn hn10 (fun a1 a2 => ?_) (fun a1 => ?_)
  · intro z hz
    cases hz
    refine ⟨fun c => absurd c (by decide), fun _ => sp_hasNode hn hn10 (fun b1 b2 => ?_) (fun b1 => ?_)⟩
    · intro z hz
      cases hz
      refine ⟨fun c => absurd c (by decide), fun _ => ⟨fun c => ?_, fun c => h1 (by rw [c]; omega)⟩⟩
      have hab : a.toInt ≠ b.toInt := fun z => c (i_eq.mpr z)
      refine sp_areArcBounds (fun c1 c2 c3 => ?_) (fun c1 => ?_)
      · intro z hz
        cases hz
        refine ⟨fun _ => ?_, fun c => absurd c (by decide)⟩
        simp (disch := first | decide | omega) only [gx_w_np, gx_w_p, Int32.reduceToInt, Int.toNat_natCast, if_true, if_false, nI_1, nI_pred, i_nI, ite_true, ite_false, Int.reduceToNat, Nat.reduceEqDiff, Nat.reduceAdd, hm, i_lt]
        refine ⟨fun d => sp_forget ?_, fun d => h3 (by omega) (by omega) (by omega)⟩
        refine sp_addArc (m := m) (j := j) (by simp (disch := first | decide | omega) only [gx_w_np, gx_w_p, Int32.reduceToInt, Int.toNat_natCast, if_true, if_false, nI_1, nI_pred, i_nI, ite_true, ite_false, Int.reduceToNat, Nat.reduceEqDiff, Nat.reduceAdd, gg_fg, hm]) (by omega) (by simp (disch := first | decide | omega) only [gx_w_np, gx_w_p, Int32.reduceToInt, Int.toNat_natCast, if_true, if_false, nI_1, nI_pred, i_nI, ite_true, ite_false, Int.reduceToNat, Nat.reduceEqDiff, Nat.reduceAdd, gg_fg, hj]) ?_
        intro z hz
        cases hz
        exact h4 (by omega) (by omega) (by omega)
      · intro z hz
        cases hz
        exact ⟨fun c => absurd rfl c, fun _ => h2 (by omega) (by omega)⟩
    · intro z hz
      cases hz
      exact ⟨fun _ => h1 (by omega), fun c => absurd rfl c⟩
  · intro z hz
    cases hz
    exact ⟨fun _ => h1 (by omega), fun c => absurd rfl c⟩
set_option maxRecDepth 100000 in
set_option maxHeartbeats 4000000 in
theorem s2_arc {X : gx_X} {M : gx_M} {a b x y : Int32} {n m : Nat} {P : Option Value → gx_M → Prop} (hn : M 34 0 = nI n) (hn10 : n ≤ 10) (hm : M 34 3 = nI m) (hm40 : m ≤ 40)
    (h1 : ¬ (0 ≤ a.toInt ∧ a.toInt < n ∧ 0 ≤ b.toInt ∧ b.toInt < n ∧ a.toInt ≠ b.toInt) → P (some (.int (-1))) M)
    (h2 : (0 ≤ a.toInt ∧ a.toInt < n ∧ 0 ≤ b.toInt ∧ b.toInt < n ∧ a.toInt ≠ b.toInt) → ¬ (0 ≤ x.toInt ∧ x.toInt ≤ y.toInt ∧ y.toInt ≤ 1000) → P (some (.int (-2))) M)
    (h3 : (0 ≤ a.toInt ∧ a.toInt < n ∧ 0 ≤ b.toInt ∧ b.toInt < n ∧ a.toInt ≠ b.toInt) → (0 ≤ x.toInt ∧ x.toInt ≤ y.toInt ∧ y.toInt ≤ 1000) → m = 40 → P (some (.int (-4))) M)
    (h4 : (0 ≤ a.toInt ∧ a.toInt < n ∧ 0 ≤ b.toInt ∧ b.toInt < n ∧ a.toInt ≠ b.toInt) → (0 ≤ x.toInt ∧ x.toInt ≤ y.toInt ∧ y.toInt ≤ 1000) → m < 40 → P (some (.int (nI m))) (gg_ar M m a b x y)) : gx_C X 85 [.ref 34, .int a, .int b, .int x, .int y] M P := by
  refine gx_C_wp 100 ?_
  simp only [gx_w_np, gx_w_p, ne_eq, not_false_eq_true, gx_wp, gx_step, gx_cnd, gb0, gb1, Classical.not_not, List.getD_cons_zero, List.getD_cons_succ, List.set_cons_zero, List.set_cons_succ, List.length_cons, List.length_nil, Nat.reduceAdd, Nat.reduceLT, Nat.reduceLeDiff, Nat.reduceEqDiff, Bool.and_false, Bool.and_true, Bool.true_and, Bool.false_and, Bool.false_eq_true, if_false, if_true, ite_true, ite_false, Fin.isValue, Fin.val_zero, Fin.val_one, Fin.val_two, gz0, gz1, gz2, gz3, List.take_succ_cons, List.take_zero, List.drop_succ_cons, List.drop_zero, List.reverse_cons, List.reverse_nil, List.nil_append, List.cons_append, gx_nx, Int32.reduceToInt, Int.reduceToNat, Int.toNat_zero, Int.toNat_one, Int.reduceLT, Int.reduceLE, Int.ofNat_zero, Int.reduceNeg, Int.le_refl, and_self, List.getElem?_cons_zero, List.getElem?_cons_succ, true_and, and_true, Nat.reduceSub, List.replicate, List.append_nil, Nat.reduceLeDiff, Nat.le_add_left, Nat.zero_le, Nat.zero_add, gf4_117, gf4_16, gf4_19, gf4_22, gf4_25, gf4_28, gf4_84, gk_bipush_40, gk_bipush_m2, gk_bipush_m4, gk_iconst_0, gk_iconst_1, gk_iconst_m1, gm4_161, gm4_166, gn79, gn81, gn85, gr79, gr81, gr85, gt4_3, gt4_9, gv85, gi85_0, gi85_1, gi85_2, gi85_5, gi85_8, gi85_9, gi85_10, gi85_13, gi85_16, gi85_17, gi85_18, gi85_21, gi85_22, gi85_23, gi85_24, gi85_26, gi85_29, gi85_32, gi85_34, gi85_35, gi85_36, gi85_39, gi85_41, gi85_44, gi85_46, gi85_47, gi85_48, gi85_51, gi85_52, gi85_55, gi85_56, gi85_57, gi85_58, gi85_61, gi85_62, gi85_65, gi85_66, gi85_67, gi85_68, gi85_71, gi85_72, gi85_75, gi85_76, gi85_77, gi85_78, gi85_81, gi85_82, gi85_85, gi85_87, gi85_88, gi85_89, gi85_92, gi85_93, gi85_96, gi85_97, gi85_98, gi85_99, gi85_100, gi85_103, gi85_104, gi85_105, gi85_108, gi85_109, gi85_110, gi85_113, gi85_114, gi85_117, gi85_118, gi85_119, gl0, gl1, gl2, gl3, gl4, gl5, gl6, gl7, gl8, gl9, gl10, gl11, gl12, gl13, gl14, gl15, gl16, gl17, gl18, gl19, gl20, gl21, gl22, gl23, gl24, gl25, gl26, gl27, gl28, gl29, gl30, gl31, gl32, gl33, gl34, gl35, gl36, gl37, gl38, gl39, gl40, gl41, gl42, gl43, gl44, gl45, gl46, gl47, gl48, gl49, gl50, gl51, gl52, gl53, gl54, gl55, gl56, gl57]
  refine sr_isNode hn hn10 (fun a1 a2 => ?_) (fun a1 => ?_)
  · intro z hz
    cases hz
    refine ⟨fun c => absurd c (by decide), fun _ => sr_isNode hn hn10 (fun b1 b2 => ?_) (fun b1 => ?_)⟩
    · intro z hz
      cases hz
      refine ⟨fun c => absurd c (by decide), fun _ => ⟨fun c => ?_, fun c => h1 (by rw [c]; omega)⟩⟩
      have hab : a.toInt ≠ b.toInt := fun z => c (i_eq.mpr z)
      refine sr_isSpan (fun c1 c2 c3 => ?_) (fun c1 => ?_)
      · intro z hz
        cases hz
        refine ⟨fun _ => ?_, fun c => absurd c (by decide)⟩
        simp (disch := first | decide | omega) only [gx_w_np, gx_w_p, Int32.reduceToInt, Int.toNat_natCast, if_true, if_false, nI_1, nI_pred, i_nI, ite_true, ite_false, Int.reduceToNat, Nat.reduceEqDiff, Nat.reduceAdd, hm, i_eq]
        refine ⟨fun d => ⟨by omega, by omega, by omega, by omega, by omega, h4 (by omega) (by omega) (by omega)⟩, fun d => h3 (by omega) (by omega) (by omega)⟩
      · intro z hz
        cases hz
        exact ⟨fun c => absurd rfl c, fun _ => h2 (by omega) (by omega)⟩
    · intro z hz
      cases hz
      exact ⟨fun _ => h1 (by omega), fun c => absurd rfl c⟩
  · intro z hz
    cases hz
    exact ⟨fun _ => h1 (by omega), fun c => absurd rfl c⟩
/-- how many are there -/
theorem gg_cnt {f : Nat → Int32} : ∀ {m : Nat}, 0 ≤ sm_ m (fun k => if f k = 0 then 1 else 0) ∧ sm_ m (fun k => if f k = 0 then 1 else 0) ≤ m
  | 0 => by simp [sm_]
  | m + 1 => by
    have h := gg_cnt (f := f) (m := m)
    rw [sm_s]
    by_cases e : f m = 0
    · rw [if_pos e]; omega
    · rw [if_neg e]; omega
theorem gg_cntN {M : gx_M} {m : Nat} (h : (M 1 9).toInt = sm_ m (fun k => if M 10 k = 0 then 1 else 0)) : ∃ j : Nat, M 1 9 = nI j ∧ (j : Int) = sm_ m (fun k => if M 10 k = 0 then 1 else 0) ∧ j ≤ m := by
  have h1 := gg_cnt (f := M 10) (m := m)
  refine ⟨(M 1 9).toInt.toNat, i_nat (by omega), by omega, by omega⟩
set_option maxRecDepth 100000 in
set_option maxHeartbeats 4000000 in
theorem pr_arc {X : gx_X} {CC RC : gx_M → Prop} (hC : gg_C0 CC) (hR : gg_R0 RC) : lw_pair X (gg_I CC RC) 34 85 4 := by
  intro M as hl hI
  obtain ⟨a, b, x, y, rfl⟩ : ∃ a b x y, as = [a, b, x, y] := by
    match as, hl with
    | [a, b, x, y], _ => exact ⟨a, b, x, y, rfl⟩
  obtain ⟨⟨n, m, hW, hG⟩, hCC, hRC⟩ := id hI
  obtain ⟨w1, w2, w3, w4, w5, w6, w7⟩ := id hW
  obtain ⟨r1, r2, r3, r4⟩ := id hG
  obtain ⟨j, j1, j2, j3⟩ := gg_cntN w7
  refine s1_arc w1 w3 w2 w4 j1 (fun c => ⟨_, rfl, ?_⟩) (fun c d => ⟨_, rfl, ?_⟩) (fun c d e => ⟨_, rfl, ?_⟩) (fun c d e => ⟨_, rfl, ?_⟩)
  · exact s2_arc r1 w3 r2 w4 (fun _ => ⟨rfl, hI⟩) (fun q => absurd q c) (fun q => absurd q c) (fun q => absurd q c)
  · exact s2_arc r1 w3 r2 w4 (fun q => absurd c q) (fun _ _ => ⟨rfl, hI⟩) (fun _ q => absurd q d) (fun _ q => absurd q d)
  · exact s2_arc r1 w3 r2 w4 (fun q => absurd c q) (fun _ q => absurd d q) (fun _ _ _ => ⟨rfl, hI⟩) (fun _ _ q => absurd q (by omega))
  · refine s2_arc (n := n) (m := m) (by simp (disch := first | decide | omega) only [gx_w_np, gx_w_p, Int32.reduceToInt, Int.toNat_natCast, if_true, if_false, nI_1, nI_pred, i_nI, ite_true, ite_false, Int.reduceToNat, Nat.reduceEqDiff, Nat.reduceAdd, gg_fg, gg_aw, r1]) w3 (by simp (disch := first | decide | omega) only [gx_w_np, gx_w_p, Int32.reduceToInt, Int.toNat_natCast, if_true, if_false, nI_1, nI_pred, i_nI, ite_true, ite_false, Int.reduceToNat, Nat.reduceEqDiff, Nat.reduceAdd, gg_fg, gg_aw, r2]) w4 (fun q => absurd c q) (fun _ q => absurd d q) (fun _ _ q => absurd q (by omega)) (fun _ _ _ => ⟨rfl, ?_⟩)
    refine gg_I_mk hC hR hRC.2 (n := n) (m := m + 1) ⟨?_, ?_, w3, by omega, ?_, ?_, ?_⟩ ⟨?_, ?_, ?_, ?_⟩ ?_ ?_ ?_ ?_ ?_ ?_ ?_ ?_ <;> simp (disch := first | decide | omega) only [gx_w_np, gx_w_p, Int32.reduceToInt, Int.toNat_natCast, if_true, if_false, nI_1, nI_pred, i_nI, ite_true, ite_false, Int.reduceToNat, Nat.reduceEqDiff, Nat.reduceAdd, gg_fg, gg_aw, gg_ar, w1, w2, r1, r2]
    · exact w5
    · intro k hk
      by_cases e : k = m
      · simp (disch := first | decide | omega) only [e, gx_w_np, gx_w_p, Int32.reduceToInt, Int.toNat_natCast, if_true, if_false, nI_1, nI_pred, i_nI, ite_true, ite_false, Int.reduceToNat, Nat.reduceEqDiff, Nat.reduceAdd]
        refine ⟨by omega, by omega, by omega, by omega, by omega, by omega, by omega, by omega, Or.inl rfl⟩
      · simp (disch := first | decide | omega) only [e, gx_w_np, gx_w_p, Int32.reduceToInt, Int.toNat_natCast, if_true, if_false, nI_1, nI_pred, i_nI, ite_true, ite_false, Int.reduceToNat, Nat.reduceEqDiff, Nat.reduceAdd]
        exact w6 k (by omega)
    · rw [sm_s, if_pos rfl, if_pos rfl, sm_congr (g := fun k => if M 10 k = 0 then 1 else 0) (fun k hk => by rw [if_neg (show ¬ k = m by omega)]), ← j2]
      omega
    · exact r3
    · intro k hk
      by_cases e : k = m
      · simp (disch := first | decide | omega) only [e, gx_w_np, gx_w_p, Int32.reduceToInt, Int.toNat_natCast, if_true, if_false, nI_1, nI_pred, i_nI, ite_true, ite_false, Int.reduceToNat, Nat.reduceEqDiff, Nat.reduceAdd, and_self]
      · simp (disch := first | decide | omega) only [e, gx_w_np, gx_w_p, Int32.reduceToInt, Int.toNat_natCast, if_true, if_false, nI_1, nI_pred, i_nI, ite_true, ite_false, Int.reduceToNat, Nat.reduceEqDiff, Nat.reduceAdd]
        exact r4 k (by omega)
