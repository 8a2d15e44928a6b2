theorem gz0 : (0 : Fin 4).val = 0 := rfl
theorem gz1 : (1 : Fin 4).val = 1 := rfl
theorem gz2 : (2 : Fin 4).val = 2 := rfl
theorem gz3 : (3 : Fin 4).val = 3 := rfl
set_option maxRecDepth 100000 in
set_option maxHeartbeats 4000000 in
theorem sp_hasNode {X : gx_X} {M : gx_M} {v : Int32} {P : Option Value → gx_M → Prop} (h1 : 0 ≤ v → v < M 1 7 → P (some (.int 1)) M) (h0 : ¬ (0 ≤ v ∧ v < M 1 7) → P (some (.int 0)) M) : gx_C X 0 [.ref 1, .int v] M P := by
  unfold gx_C
  refine gx_wp_ok 20 false _ _ _ _ ?_
  simp only [gx_wp, gx_step, gx_cnd, List.getD_cons_zero, List.getD_cons_succ, List.set_cons_zero, List.set_cons_succ, List.length_cons, List.length_nil, Nat.reduceAdd, Nat.reduceLT, Nat.reduceLeDiff, Nat.reduceEqDiff, Bool.and_false, Bool.and_true, Bool.true_and, Bool.false_and, Bool.false_eq_true, if_false, if_true, ite_true, ite_false, Fin.isValue, Fin.val_zero, Fin.val_one, Fin.val_two, gz0, gz1, gz2, gz3, List.take_succ_cons, List.take_zero, List.drop_succ_cons, List.drop_zero, List.reverse_cons, List.reverse_nil, List.nil_append, List.cons_append, Option.toList, List.getElem?_cons_zero, List.getElem?_cons_succ, true_and, and_true, Nat.reduceSub, List.replicate, List.append_nil, Nat.reduceLeDiff, Nat.le_add_left, Nat.zero_le, Nat.zero_add, gf0_34, gk_iconst_0, gk_iconst_1, gn0, gr0, gv0, gi0_0, gi0_1, gi0_4, gi0_5, gi0_6, gi0_9, gi0_12, gi0_13, gi0_16, gi0_17, gl0, gl1, gl2, gl3, gl4, gl5, gl6, gl7, gl8, gl9, gl10, gl11, gl12, gl13, gl14, gl15, gl16, gl17, gl18, gl19, gl20, gl21, gl22, gl23, gl24, gl25, gl26, gl27, gl28, gl29, gl30, gl31, gl32, gl33, gl34, gl35, gl36, gl37, gl38, gl39, gl40, gl41, gl42, gl43, gl44, gl45, gl46, gl47, gl48, gl49, gl50, gl51, gl52, gl53, gl54, gl55, gl56, gl57]
  trace_state
  sorry
set_option maxRecDepth 100000 in
set_option maxHeartbeats 4000000 in
theorem sp_comes {X : gx_X} {M : gx_M} {f : Nat} {v : Int32} {P : Option Value → gx_M → Prop} : gx_C X 6 [.ref 1, .ref 30, .int v] M P := by
  unfold gx_C
  refine gx_wp_ok 60 false _ _ _ _ ?_
  simp only [gx_wp, gx_step, gx_cnd, List.getD_cons_zero, List.getD_cons_succ, List.set_cons_zero, List.set_cons_succ, List.length_cons, List.length_nil, Nat.reduceAdd, Nat.reduceLT, Nat.reduceLeDiff, Nat.reduceEqDiff, Bool.and_false, Bool.and_true, Bool.true_and, Bool.false_and, Bool.false_eq_true, if_false, if_true, ite_true, ite_false, Fin.isValue, Fin.val_zero, Fin.val_one, Fin.val_two, gz0, gz1, gz2, gz3, List.take_succ_cons, List.take_zero, List.drop_succ_cons, List.drop_zero, List.reverse_cons, List.reverse_nil, List.nil_append, List.cons_append, Option.toList, List.getElem?_cons_zero, List.getElem?_cons_succ, true_and, and_true, Nat.reduceSub, List.replicate, List.append_nil, Nat.reduceLeDiff, Nat.le_add_left, Nat.zero_le, Nat.zero_add, gf0_21, gf0_30, gf0_38, gk_iconst_0, gk_iconst_1, gn6, gr6, gv6, gi6_0, gi6_1, gi6_2, gi6_3, gi6_5, gi6_7, gi6_8, gi6_11, gi6_14, gi6_15, gi6_18, gi6_20, gi6_21, gi6_22, gi6_25, gi6_26, gi6_29, gi6_31, gi6_32, gi6_35, gi6_36, gi6_37, gi6_39, gi6_40, gi6_41, gi6_42, gi6_45, gi6_48, gi6_49, gl0, gl1, gl2, gl3, gl4, gl5, gl6, gl7, gl8, gl9, gl10, gl11, gl12, gl13, gl14, gl15, gl16, gl17, gl18, gl19, gl20, gl21, gl22, gl23, gl24, gl25, gl26, gl27, gl28, gl29, gl30, gl31, gl32, gl33, gl34, gl35, gl36, gl37, gl38, gl39, gl40, gl41, gl42, gl43, gl44, gl45, gl46, gl47, gl48, gl49, gl50, gl51, gl52, gl53, gl54, gl55, gl56, gl57]
  trace_state
  sorry
set_option maxRecDepth 100000 in
set_option maxHeartbeats 4000000 in
theorem sp_comes2 {X : gx_X} {M : gx_M} {f : Nat} {v x3 x4 : Int32} {P : Option Value → gx_M → Prop} : gx_OK X 6 5 [.ref 1, .ref 30, .int v, .int x3, .int x4] [] M P := by
  refine gx_wp_ok 60 false _ _ _ _ ?_
  simp only [gx_wp, gx_step, gx_cnd, List.getD_cons_zero, List.getD_cons_succ, List.set_cons_zero, List.set_cons_succ, List.length_cons, List.length_nil, Nat.reduceAdd, Nat.reduceLT, Nat.reduceLeDiff, Nat.reduceEqDiff, Bool.and_false, Bool.and_true, Bool.true_and, Bool.false_and, Bool.false_eq_true, if_false, if_true, ite_true, ite_false, Fin.isValue, Fin.val_zero, Fin.val_one, Fin.val_two, gz0, gz1, gz2, gz3, List.take_succ_cons, List.take_zero, List.drop_succ_cons, List.drop_zero, List.reverse_cons, List.reverse_nil, List.nil_append, List.cons_append, Option.toList, List.getElem?_cons_zero, List.getElem?_cons_succ, true_and, and_true, Nat.reduceSub, List.replicate, List.append_nil, Nat.reduceLeDiff, Nat.le_add_left, Nat.zero_le, Nat.zero_add, gf0_21, gf0_30, gf0_38, gk_iconst_0, gk_iconst_1, gn6, gr6, gv6, gi6_0, gi6_1, gi6_2, gi6_3, gi6_5, gi6_7, gi6_8, gi6_11, gi6_14, gi6_15, gi6_18, gi6_20, gi6_21, gi6_22, gi6_25, gi6_26, gi6_29, gi6_31, gi6_32, gi6_35, gi6_36, gi6_37, gi6_39, gi6_40, gi6_41, gi6_42, gi6_45, gi6_48, gi6_49, gl0, gl1, gl2, gl3, gl4, gl5, gl6, gl7, gl8, gl9, gl10, gl11, gl12, gl13, gl14, gl15, gl16, gl17, gl18, gl19, gl20, gl21, gl22, gl23, gl24, gl25, gl26, gl27, gl28, gl29, gl30, gl31, gl32, gl33, gl34, gl35, gl36, gl37, gl38, gl39, gl40, gl41, gl42, gl43, gl44, gl45, gl46, gl47, gl48, gl49, gl50, gl51, gl52, gl53, gl54, gl55, gl56, gl57]
  trace_state
  sorry
