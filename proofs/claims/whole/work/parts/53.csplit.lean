/-! comes, goes; split: all streams. -/
theorem l0_rng {D : gD} (O : gok D) {f : Nat → Int} (F : FL D f) {k : Nat} (hk : k < gdm D) : 0 ≤ l0 f k ∧ l0 f k ≤ 1001 ∧ (gdl D k = false → l0 f k = 0) := (vs_0 O F).1 k hk
theorem sm_part {g : Nat → Int} {c : Nat → Prop} [DecidablePred c] {m : Nat} (h : ∀ k, k < m → 0 ≤ g k ∧ g k ≤ 1001) : ∀ i, i ≤ m → 0 ≤ sm_ i (fun k => if c k then g k else 0) ∧ sm_ i (fun k => if c k then g k else 0) ≤ 1001 * i := by
  intro i hi
  refine sm_bd (fun k hk => ?_)
  have := h k (by omega)
  show 0 ≤ (if c k then g k else 0) ∧ (if c k then g k else 0) ≤ 1001
  by_cases z : c k
  · rw [if_pos z]; exact this
  · rw [if_neg z]; omega
set_option maxRecDepth 100000 in
set_option maxHeartbeats 4000000 in
theorem l6 {X : gx_X} {M : gx_M} {n m q v : Nat} {P : Option Value → gx_M → Prop} (hq : q = 30 ∨ q = 31) (hv : v < 10) (W : gg_W M n m) (F : FL (dC M n m) (sv M q))
    (hP : ∀ z : Int32, z.toInt = co_ (dC M n m) (l0 (sv M q)) v → P (some (.int z)) M) :
    ∀ (d i : Nat) (x : Int32), i + d = m → x.toInt = sm_ i (fun k => if (gdt (dC M n m) k).toInt = v then l0 (sv M q) k else 0) → gx_OK X 6 5 [.ref 1, .ref q, .int (nI v), .int x, .int (nI i)] [] M P := by
  have O := gok_C W
  have hm40 := W.2.2.2.1
  have e8 := W.2.1
  intro d
  induction d with
  | zero =>
    intro i x hi hx
    have : P (some (.int x)) M := hP x (by rw [hx, show i = m by omega]; rfl)
    rcases hq with rfl | rfl <;>
    (refine gx_wp_ok 40 false _ _ _ _ ?_
     simp only [gx_w_np, gx_w_p, ne_eq, not_false_eq_true, gx_wp, gx_step, gx_cnd, gb0, gb1, Classical.not_not, List.getD_cons_zero, List.getD_cons_succ, List.set_cons_zero, List.set_cons_succ, List.length_cons, List.length_nil, Nat.reduceAdd, Nat.reduceLT, Nat.reduceLeDiff, Nat.reduceEqDiff, Bool.and_false, Bool.and_true, Bool.true_and, Bool.false_and, Bool.false_eq_true, if_false, if_true, ite_true, ite_false, Fin.isValue, Fin.val_zero, Fin.val_one, Fin.val_two, gz0, gz1, gz2, gz3, List.take_succ_cons, List.take_zero, List.drop_succ_cons, List.drop_zero, List.reverse_cons, List.reverse_nil, List.nil_append, List.cons_append, gx_nx, Int32.reduceToInt, Int.reduceToNat, Int.toNat_zero, Int.toNat_one, Int.reduceLT, Int.reduceLE, Int.ofNat_zero, Int.reduceNeg, Int.le_refl, and_self, List.getElem?_cons_zero, List.getElem?_cons_succ, true_and, and_true, Nat.reduceSub, List.replicate, List.append_nil, Nat.reduceLeDiff, Nat.le_add_left, Nat.zero_le, Nat.zero_add, gf0_21, gf0_30, gf0_38, gk_iconst_0, gk_iconst_1, gn6, gr6, gv6, gi6_0, gi6_1, gi6_2, gi6_3, gi6_5, gi6_7, gi6_8, gi6_11, gi6_14, gi6_15, gi6_18, gi6_20, gi6_21, gi6_22, gi6_25, gi6_26, gi6_29, gi6_31, gi6_32, gi6_35, gi6_36, gi6_37, gi6_39, gi6_40, gi6_41, gi6_42, gi6_45, gi6_48, gi6_49, gl0, gl1, gl2, gl3, gl4, gl5, gl6, gl7, gl8, gl9, gl10, gl11, gl12, gl13, gl14, gl15, gl16, gl17, gl18, gl19, gl20, gl21, gl22, gl23, gl24, gl25, gl26, gl27, gl28, gl29, gl30, gl31, gl32, gl33, gl34, gl35, gl36, gl37, gl38, gl39, gl40, gl41, gl42, gl43, gl44, gl45, gl46, gl47, gl48, gl49, gl50, gl51, gl52, gl53, gl54, gl55, gl56, gl57]
     simp (disch := first | decide | omega) only [gx_w_np, gx_w_p, Int32.reduceToInt, Int.toNat_natCast, if_true, if_false, nI_1, nI_pred, i_nI, ite_true, ite_false, Int.reduceToNat, Nat.reduceEqDiff, Nat.reduceAdd, e8, i_le]
     exact ⟨fun _ => this, fun q => absurd (by omega) q⟩)
  | succ d ih =>
    intro i x hi hx
    have r := sm_part (g := l0 (sv M q)) (c := fun k => (gdt (dC M n m) k).toInt = v) (m := m) (fun k hk => ⟨(l0_rng O F hk).1, (l0_rng O F hk).2.1⟩) i (by omega)
    have lr := l0_rng O F (k := i) (show i < m by omega)
    have lk : l0 (sv M q) i = (M q i).toInt := by unfold l0 sv; rw [if_pos (by omega)]
    have skip : (if (gdt (dC M n m) i).toInt = v then l0 (sv M q) i else 0) = 0 → gx_OK X 6 5 [.ref 1, .ref q, .int (nI v), .int x, .int (nI (i + 1))] [] M P := fun h => ih (i + 1) x (by omega) (by rw [sm_s, h, hx]; omega)
    have add : (M 7 i).toInt = v → gx_OK X 6 5 [.ref 1, .ref q, .int (nI v), .int (x + M q i), .int (nI (i + 1))] [] M P := fun h => by
      have h : (gdt (dC M n m) i).toInt = v := h
      refine ih (i + 1) _ (by omega) ?_
      rw [sm_s, if_pos h, i_add (by omega) (by omega), hx, lk]
    have dead : M 10 i ≠ 0 → l0 (sv M q) i = 0 := fun h => lr.2.2 (decide_eq_false h)
    have g1 : ¬ (M 7 i).toInt = v → gx_OK X 6 5 [.ref 1, .ref q, .int (nI v), .int x, .int (nI (i + 1))] [] M P := fun h => skip (if_neg h)
    have g2 : M 10 i ≠ 0 → gx_OK X 6 5 [.ref 1, .ref q, .int (nI v), .int x, .int (nI (i + 1))] [] M P := fun h => skip (by
      rw [dead h]
      by_cases z : (gdt (dC M n m) i).toInt = v
      · rw [if_pos z]
      · rw [if_neg z])
    rcases hq with rfl | rfl <;>
    (refine gx_wp_ok 40 false _ _ _ _ ?_
     simp only [gx_w_np, gx_w_p, ne_eq, not_false_eq_true, gx_wp, gx_step, gx_cnd, gb0, gb1, Classical.not_not, List.getD_cons_zero, List.getD_cons_succ, List.set_cons_zero, List.set_cons_succ, List.length_cons, List.length_nil, Nat.reduceAdd, Nat.reduceLT, Nat.reduceLeDiff, Nat.reduceEqDiff, Bool.and_false, Bool.and_true, Bool.true_and, Bool.false_and, Bool.false_eq_true, if_false, if_true, ite_true, ite_false, Fin.isValue, Fin.val_zero, Fin.val_one, Fin.val_two, gz0, gz1, gz2, gz3, List.take_succ_cons, List.take_zero, List.drop_succ_cons, List.drop_zero, List.reverse_cons, List.reverse_nil, List.nil_append, List.cons_append, gx_nx, Int32.reduceToInt, Int.reduceToNat, Int.toNat_zero, Int.toNat_one, Int.reduceLT, Int.reduceLE, Int.ofNat_zero, Int.reduceNeg, Int.le_refl, and_self, List.getElem?_cons_zero, List.getElem?_cons_succ, true_and, and_true, Nat.reduceSub, List.replicate, List.append_nil, Nat.reduceLeDiff, Nat.le_add_left, Nat.zero_le, Nat.zero_add, gf0_21, gf0_30, gf0_38, gk_iconst_0, gk_iconst_1, gn6, gr6, gv6, gi6_0, gi6_1, gi6_2, gi6_3, gi6_5, gi6_7, gi6_8, gi6_11, gi6_14, gi6_15, gi6_18, gi6_20, gi6_21, gi6_22, gi6_25, gi6_26, gi6_29, gi6_31, gi6_32, gi6_35, gi6_36, gi6_37, gi6_39, gi6_40, gi6_41, gi6_42, gi6_45, gi6_48, gi6_49, gl0, gl1, gl2, gl3, gl4, gl5, gl6, gl7, gl8, gl9, gl10, gl11, gl12, gl13, gl14, gl15, gl16, gl17, gl18, gl19, gl20, gl21, gl22, gl23, gl24, gl25, gl26, gl27, gl28, gl29, gl30, gl31, gl32, gl33, gl34, gl35, gl36, gl37, gl38, gl39, gl40, gl41, gl42, gl43, gl44, gl45, gl46, gl47, gl48, gl49, gl50, gl51, gl52, gl53, gl54, gl55, gl56, gl57]
     simp (disch := first | decide | omega) only [gx_w_np, gx_w_p, Int32.reduceToInt, Int.toNat_natCast, if_true, if_false, nI_1, nI_pred, i_nI, ite_true, ite_false, Int.reduceToNat, Nat.reduceEqDiff, Nat.reduceAdd, e8, i_le]
     have ev : M 7 i = nI v ↔ (M 7 i).toInt = v := by rw [i_eq, i_nI (by omega)]
     exact ⟨fun q => absurd q (by omega), fun _ => ⟨by omega, fun q => g1 (fun h => q (ev.mpr h)), fun q => ⟨by omega, fun q2 => g2 q2, fun q2 => ⟨by omega, add (ev.mp q)⟩⟩⟩⟩)
set_option maxRecDepth 100000 in
set_option maxHeartbeats 4000000 in
theorem s_comes {X : gx_X} {M : gx_M} {n m q v : Nat} {P : Option Value → gx_M → Prop} (hq : q = 30 ∨ q = 31) (hv : v < 10) (W : gg_W M n m) (F : FL (dC M n m) (sv M q))
    (hP : ∀ z : Int32, z.toInt = co_ (dC M n m) (l0 (sv M q)) v → P (some (.int z)) M) : gx_C X 6 [.ref 1, .ref q, .int (nI v)] M P := by
  have := l6 (X := X) hq hv W F hP m 0 0 (by omega) rfl
  rw [nI_0] at this
  rcases hq with rfl | rfl <;>
  (refine gx_C_wp 20 ?_
   simp only [gx_w_np, gx_w_p, ne_eq, not_false_eq_true, gx_wp, gx_step, gx_cnd, gb0, gb1, Classical.not_not, List.getD_cons_zero, List.getD_cons_succ, List.set_cons_zero, List.set_cons_succ, List.length_cons, List.length_nil, Nat.reduceAdd, Nat.reduceLT, Nat.reduceLeDiff, Nat.reduceEqDiff, Bool.and_false, Bool.and_true, Bool.true_and, Bool.false_and, Bool.false_eq_true, if_false, if_true, ite_true, ite_false, Fin.isValue, Fin.val_zero, Fin.val_one, Fin.val_two, gz0, gz1, gz2, gz3, List.take_succ_cons, List.take_zero, List.drop_succ_cons, List.drop_zero, List.reverse_cons, List.reverse_nil, List.nil_append, List.cons_append, gx_nx, Int32.reduceToInt, Int.reduceToNat, Int.toNat_zero, Int.toNat_one, Int.reduceLT, Int.reduceLE, Int.ofNat_zero, Int.reduceNeg, Int.le_refl, and_self, List.getElem?_cons_zero, List.getElem?_cons_succ, true_and, and_true, Nat.reduceSub, List.replicate, List.append_nil, Nat.reduceLeDiff, Nat.le_add_left, Nat.zero_le, Nat.zero_add, gf0_21, gf0_30, gf0_38, gk_iconst_0, gk_iconst_1, gn6, gr6, gv6, gi6_0, gi6_1, gi6_2, gi6_3, gi6_5, gi6_7, gi6_8, gi6_11, gi6_14, gi6_15, gi6_18, gi6_20, gi6_21, gi6_22, gi6_25, gi6_26, gi6_29, gi6_31, gi6_32, gi6_35, gi6_36, gi6_37, gi6_39, gi6_40, gi6_41, gi6_42, gi6_45, gi6_48, gi6_49, gl0, gl1, gl2, gl3, gl4, gl5, gl6, gl7, gl8, gl9, gl10, gl11, gl12, gl13, gl14, gl15, gl16, gl17, gl18, gl19, gl20, gl21, gl22, gl23, gl24, gl25, gl26, gl27, gl28, gl29, gl30, gl31, gl32, gl33, gl34, gl35, gl36, gl37, gl38, gl39, gl40, gl41, gl42, gl43, gl44, gl45, gl46, gl47, gl48, gl49, gl50, gl51, gl52, gl53, gl54, gl55, gl56, gl57]
   exact this)
set_option maxRecDepth 100000 in
set_option maxHeartbeats 4000000 in
theorem l7 {X : gx_X} {M : gx_M} {n m q v : Nat} {P : Option Value → gx_M → Prop} (hq : q = 30 ∨ q = 31) (hv : v < 10) (W : gg_W M n m) (F : FL (dC M n m) (sv M q))
    (hP : ∀ z : Int32, z.toInt = go_ (dC M n m) (l0 (sv M q)) v → P (some (.int z)) M) :
    ∀ (d i : Nat) (x : Int32), i + d = m → x.toInt = sm_ i (fun k => if (gdf (dC M n m) k).toInt = v then l0 (sv M q) k else 0) → gx_OK X 7 5 [.ref 1, .ref q, .int (nI v), .int x, .int (nI i)] [] M P := by
  have O := gok_C W
  have hm40 := W.2.2.2.1
  have e8 := W.2.1
  intro d
  induction d with
  | zero =>
    intro i x hi hx
    have : P (some (.int x)) M := hP x (by rw [hx, show i = m by omega]; rfl)
    rcases hq with rfl | rfl <;>
    (refine gx_wp_ok 40 false _ _ _ _ ?_
     simp only [gx_w_np, gx_w_p, ne_eq, not_false_eq_true, gx_wp, gx_step, gx_cnd, gb0, gb1, Classical.not_not, List.getD_cons_zero, List.getD_cons_succ, List.set_cons_zero, List.set_cons_succ, List.length_cons, List.length_nil, Nat.reduceAdd, Nat.reduceLT, Nat.reduceLeDiff, Nat.reduceEqDiff, Bool.and_false, Bool.and_true, Bool.true_and, Bool.false_and, Bool.false_eq_true, if_false, if_true, ite_true, ite_false, Fin.isValue, Fin.val_zero, Fin.val_one, Fin.val_two, gz0, gz1, gz2, gz3, List.take_succ_cons, List.take_zero, List.drop_succ_cons, List.drop_zero, List.reverse_cons, List.reverse_nil, List.nil_append, List.cons_append, gx_nx, Int32.reduceToInt, Int.reduceToNat, Int.toNat_zero, Int.toNat_one, Int.reduceLT, Int.reduceLE, Int.ofNat_zero, Int.reduceNeg, Int.le_refl, and_self, List.getElem?_cons_zero, List.getElem?_cons_succ, true_and, and_true, Nat.reduceSub, List.replicate, List.append_nil, Nat.reduceLeDiff, Nat.le_add_left, Nat.zero_le, Nat.zero_add, gf0_18, gf0_30, gf0_38, gk_iconst_0, gk_iconst_1, gn7, gr7, gv7, gi7_0, gi7_1, gi7_2, gi7_3, gi7_5, gi7_7, gi7_8, gi7_11, gi7_14, gi7_15, gi7_18, gi7_20, gi7_21, gi7_22, gi7_25, gi7_26, gi7_29, gi7_31, gi7_32, gi7_35, gi7_36, gi7_37, gi7_39, gi7_40, gi7_41, gi7_42, gi7_45, gi7_48, gi7_49, gl0, gl1, gl2, gl3, gl4, gl5, gl6, gl7, gl8, gl9, gl10, gl11, gl12, gl13, gl14, gl15, gl16, gl17, gl18, gl19, gl20, gl21, gl22, gl23, gl24, gl25, gl26, gl27, gl28, gl29, gl30, gl31, gl32, gl33, gl34, gl35, gl36, gl37, gl38, gl39, gl40, gl41, gl42, gl43, gl44, gl45, gl46, gl47, gl48, gl49, gl50, gl51, gl52, gl53, gl54, gl55, gl56, gl57]
     simp (disch := first | decide | omega) only [gx_w_np, gx_w_p, Int32.reduceToInt, Int.toNat_natCast, if_true, if_false, nI_1, nI_pred, i_nI, ite_true, ite_false, Int.reduceToNat, Nat.reduceEqDiff, Nat.reduceAdd, e8, i_le]
     exact ⟨fun _ => this, fun q => absurd (by omega) q⟩)
  | succ d ih =>
    intro i x hi hx
    have r := sm_part (g := l0 (sv M q)) (c := fun k => (gdf (dC M n m) k).toInt = v) (m := m) (fun k hk => ⟨(l0_rng O F hk).1, (l0_rng O F hk).2.1⟩) i (by omega)
    have lr := l0_rng O F (k := i) (show i < m by omega)
    have lk : l0 (sv M q) i = (M q i).toInt := by unfold l0 sv; rw [if_pos (by omega)]
    have skip : (if (gdf (dC M n m) i).toInt = v then l0 (sv M q) i else 0) = 0 → gx_OK X 7 5 [.ref 1, .ref q, .int (nI v), .int x, .int (nI (i + 1))] [] M P := fun h => ih (i + 1) x (by omega) (by rw [sm_s, h, hx]; omega)
    have add : (M 6 i).toInt = v → gx_OK X 7 5 [.ref 1, .ref q, .int (nI v), .int (x + M q i), .int (nI (i + 1))] [] M P := fun h => by
      have h : (gdf (dC M n m) i).toInt = v := h
      refine ih (i + 1) _ (by omega) ?_
      rw [sm_s, if_pos h, i_add (by omega) (by omega), hx, lk]
    have dead : M 10 i ≠ 0 → l0 (sv M q) i = 0 := fun h => lr.2.2 (decide_eq_false h)
    have g1 : ¬ (M 6 i).toInt = v → gx_OK X 7 5 [.ref 1, .ref q, .int (nI v), .int x, .int (nI (i + 1))] [] M P := fun h => skip (if_neg h)
    have g2 : M 10 i ≠ 0 → gx_OK X 7 5 [.ref 1, .ref q, .int (nI v), .int x, .int (nI (i + 1))] [] M P := fun h => skip (by
      rw [dead h]
      by_cases z : (gdf (dC M n m) i).toInt = v
      · rw [if_pos z]
      · rw [if_neg z])
    rcases hq with rfl | rfl <;>
    (refine gx_wp_ok 40 false _ _ _ _ ?_
     simp only [gx_w_np, gx_w_p, ne_eq, not_false_eq_true, gx_wp, gx_step, gx_cnd, gb0, gb1, Classical.not_not, List.getD_cons_zero, List.getD_cons_succ, List.set_cons_zero, List.set_cons_succ, List.length_cons, List.length_nil, Nat.reduceAdd, Nat.reduceLT, Nat.reduceLeDiff, Nat.reduceEqDiff, Bool.and_false, Bool.and_true, Bool.true_and, Bool.false_and, Bool.false_eq_true, if_false, if_true, ite_true, ite_false, Fin.isValue, Fin.val_zero, Fin.val_one, Fin.val_two, gz0, gz1, gz2, gz3, List.take_succ_cons, List.take_zero, List.drop_succ_cons, List.drop_zero, List.reverse_cons, List.reverse_nil, List.nil_append, List.cons_append, gx_nx, Int32.reduceToInt, Int.reduceToNat, Int.toNat_zero, Int.toNat_one, Int.reduceLT, Int.reduceLE, Int.ofNat_zero, Int.reduceNeg, Int.le_refl, and_self, List.getElem?_cons_zero, List.getElem?_cons_succ, true_and, and_true, Nat.reduceSub, List.replicate, List.append_nil, Nat.reduceLeDiff, Nat.le_add_left, Nat.zero_le, Nat.zero_add, gf0_18, gf0_30, gf0_38, gk_iconst_0, gk_iconst_1, gn7, gr7, gv7, gi7_0, gi7_1, gi7_2, gi7_3, gi7_5, gi7_7, gi7_8, gi7_11, gi7_14, gi7_15, gi7_18, gi7_20, gi7_21, gi7_22, gi7_25, gi7_26, gi7_29, gi7_31, gi7_32, gi7_35, gi7_36, gi7_37, gi7_39, gi7_40, gi7_41, gi7_42, gi7_45, gi7_48, gi7_49, gl0, gl1, gl2, gl3, gl4, gl5, gl6, gl7, gl8, gl9, gl10, gl11, gl12, gl13, gl14, gl15, gl16, gl17, gl18, gl19, gl20, gl21, gl22, gl23, gl24, gl25, gl26, gl27, gl28, gl29, gl30, gl31, gl32, gl33, gl34, gl35, gl36, gl37, gl38, gl39, gl40, gl41, gl42, gl43, gl44, gl45, gl46, gl47, gl48, gl49, gl50, gl51, gl52, gl53, gl54, gl55, gl56, gl57]
     simp (disch := first | decide | omega) only [gx_w_np, gx_w_p, Int32.reduceToInt, Int.toNat_natCast, if_true, if_false, nI_1, nI_pred, i_nI, ite_true, ite_false, Int.reduceToNat, Nat.reduceEqDiff, Nat.reduceAdd, e8, i_le]
     have ev : M 6 i = nI v ↔ (M 6 i).toInt = v := by rw [i_eq, i_nI (by omega)]
     exact ⟨fun q => absurd q (by omega), fun _ => ⟨by omega, fun q => g1 (fun h => q (ev.mpr h)), fun q => ⟨by omega, fun q2 => g2 q2, fun q2 => ⟨by omega, add (ev.mp q)⟩⟩⟩⟩)
set_option maxRecDepth 100000 in
set_option maxHeartbeats 4000000 in
theorem s_goes {X : gx_X} {M : gx_M} {n m q v : Nat} {P : Option Value → gx_M → Prop} (hq : q = 30 ∨ q = 31) (hv : v < 10) (W : gg_W M n m) (F : FL (dC M n m) (sv M q))
    (hP : ∀ z : Int32, z.toInt = go_ (dC M n m) (l0 (sv M q)) v → P (some (.int z)) M) : gx_C X 7 [.ref 1, .ref q, .int (nI v)] M P := by
  have := l7 (X := X) hq hv W F hP m 0 0 (by omega) rfl
  rw [nI_0] at this
  rcases hq with rfl | rfl <;>
  (refine gx_C_wp 20 ?_
   simp only [gx_w_np, gx_w_p, ne_eq, not_false_eq_true, gx_wp, gx_step, gx_cnd, gb0, gb1, Classical.not_not, List.getD_cons_zero, List.getD_cons_succ, List.set_cons_zero, List.set_cons_succ, List.length_cons, List.length_nil, Nat.reduceAdd, Nat.reduceLT, Nat.reduceLeDiff, Nat.reduceEqDiff, Bool.and_false, Bool.and_true, Bool.true_and, Bool.false_and, Bool.false_eq_true, if_false, if_true, ite_true, ite_false, Fin.isValue, Fin.val_zero, Fin.val_one, Fin.val_two, gz0, gz1, gz2, gz3, List.take_succ_cons, List.take_zero, List.drop_succ_cons, List.drop_zero, List.reverse_cons, List.reverse_nil, List.nil_append, List.cons_append, gx_nx, Int32.reduceToInt, Int.reduceToNat, Int.toNat_zero, Int.toNat_one, Int.reduceLT, Int.reduceLE, Int.ofNat_zero, Int.reduceNeg, Int.le_refl, and_self, List.getElem?_cons_zero, List.getElem?_cons_succ, true_and, and_true, Nat.reduceSub, List.replicate, List.append_nil, Nat.reduceLeDiff, Nat.le_add_left, Nat.zero_le, Nat.zero_add, gf0_18, gf0_30, gf0_38, gk_iconst_0, gk_iconst_1, gn7, gr7, gv7, gi7_0, gi7_1, gi7_2, gi7_3, gi7_5, gi7_7, gi7_8, gi7_11, gi7_14, gi7_15, gi7_18, gi7_20, gi7_21, gi7_22, gi7_25, gi7_26, gi7_29, gi7_31, gi7_32, gi7_35, gi7_36, gi7_37, gi7_39, gi7_40, gi7_41, gi7_42, gi7_45, gi7_48, gi7_49, gl0, gl1, gl2, gl3, gl4, gl5, gl6, gl7, gl8, gl9, gl10, gl11, gl12, gl13, gl14, gl15, gl16, gl17, gl18, gl19, gl20, gl21, gl22, gl23, gl24, gl25, gl26, gl27, gl28, gl29, gl30, gl31, gl32, gl33, gl34, gl35, gl36, gl37, gl38, gl39, gl40, gl41, gl42, gl43, gl44, gl45, gl46, gl47, gl48, gl49, gl50, gl51, gl52, gl53, gl54, gl55, gl56, gl57]
   exact this)
theorem CG_keep {M M1 : gx_M} {p q r : Nat} : ∀ (t : List (Int × Nat × (Nat → Nat))) (i : Nat), CG p q r M i t → (∀ j, j < i + t.length → M1 p j = M p j ∧ M1 q j = M q j) → (∀ j, j < 10 * (i + t.length) → M1 r j = M r j) → CG p q r M1 i t
  | [], _, _, _, _ => trivial
  | x :: t, i, h, h1, h2 => by
    have e : (x :: t).length = t.length + 1 := rfl
    rw [e] at h1 h2
    refine ⟨by rw [(h1 i (by omega)).1]; exact h.1, by rw [(h1 i (by omega)).2]; exact h.2.1, h.2.2.1, fun j hj => ?_, CG_keep t (i + 1) h.2.2.2.2 (fun j hj => h1 j (by omega)) (fun j hj => h2 j (by omega))⟩
    have := h.2.2.1
    rw [h2 (10 * i + j) (by omega)]
    exact h.2.2.2.1 j hj
theorem CG_app {M : gx_M} {p q r : Nat} {x : Int × Nat × (Nat → Nat)} : ∀ (t : List (Int × Nat × (Nat → Nat))) (i : Nat), CG p q r M i t → CG p q r M (i + t.length) [x] → CG p q r M i (t ++ [x])
  | [], i, _, h => h
  | y :: t, i, h, h2 => by
    refine ⟨h.1, h.2.1, h.2.2.1, h.2.2.2.1, CG_app t (i + 1) h.2.2.2.2 ?_⟩
    have e : i + (y :: t).length = i + 1 + t.length := by show i + (t.length + 1) = _; omega
    rw [e] at h2
    exact h2
/-- one walk, one step of the list -/
theorem CG_step {a b p q r : Nat} {M M1 : gx_M} {D : gD} {l u : Nat → Int} {k : Nat} {es : List (Int × Nat × (Nat → Nat))} (h10 : wl D l u (lg D u) ≤ 10) (hlt : lg D u < gdn D) (G : CG p q r M 0 es) (hc : M a b = nI es.length) (o : oc a b p q r M M1 es.length D l u (lg D u)) :
    ∃ es2, CG p q r M1 0 es2 ∧ M1 a b = nI es2.length ∧ es2.length ≤ es.length + 1 ∧ es ++ rn D (k + 1) l u = es2 ++ rn D k (ws_l D l u (lg D u)) (ws_u D l u (lg D u)) := by
  obtain ⟨o1, o2, o3, o4⟩ := o
  have K := CG_keep es 0 G (fun j hj => o3 j (by omega)) (fun j hj => o4 j (by omega))
  cases hS : se D u (nd D l (lg D u) (wl D l u (lg D u))) with
  | true =>
    obtain ⟨c1, c2, c3, c4⟩ := o1 hS
    refine ⟨es ++ [(am D l u (lg D u), wl D l u (lg D u), na_ D l (lg D u))], CG_app es 0 K ?_, ?_, by simp, ?_⟩
    · rw [Nat.zero_add]
      exact ⟨c2, c3, h10, c4, trivial⟩
    · rw [c1]; simp
    · show es ++ (if lg D u < gdn D then (if se D u (nd D l (lg D u) (wl D l u (lg D u))) = true then _ else _) else []) = _
      rw [if_pos hlt, if_pos hS]; simp
  | false =>
    refine ⟨es, K, ?_, by omega, ?_⟩
    · rw [o2 hS]; exact hc
    · show es ++ (if lg D u < gdn D then (if se D u (nd D l (lg D u) (wl D l u (lg D u))) = true then _ else _) else []) = _
      rw [if_pos hlt, if_neg (by rw [hS]; decide)]
set_option maxRecDepth 100000 in
set_option maxHeartbeats 4000000 in
theorem l24b {X : gx_X} {M0 : gx_M} {n m : Nat} {l9 u9 : Nat → Int} {P : Option Value → gx_M → Prop} (W : gg_W M0 n m)
    (hP : ∀ M1, pf M0 M1 → M1 3 2 = nI (rn (dC M0 n m) 50 l9 u9).length → CL M1 0 (rn (dC M0 n m) 50 l9 u9) → P none M1) :
    ∀ (k r : Nat) (M : gx_M) (l u : Nat → Int) (es : List (Int × Nat × (Nat → Nat))) (v : Value), r + k = 50 → pf M0 M → vs (dC M0 n m) l u → cv M (dC M0 n m) l u → CG 21 22 23 M 0 es → M 3 2 = nI es.length → es.length ≤ r → es ++ rn (dC M0 n m) k l u = rn (dC M0 n m) 50 l9 u9 → gx_OK X 24 57 [.ref 3, .ref 1, .ref 30, .int (nI r), v] [] M P := by
  have O := gok_C W
  intro k
  induction k with
  | zero =>
    intro r M l u es v hr F V C G h32 hl e
    have e : es = rn (dC M0 n m) 50 l9 u9 := by
      rw [← e]; show es = es ++ []; simp
    refine gx_wp_ok 40 false _ _ _ _ ?_
    simp only [gx_w_np, gx_w_p, ne_eq, not_false_eq_true, gx_wp, gx_step, gx_cnd, gb0, gb1, Classical.not_not, List.getD_cons_zero, List.getD_cons_succ, List.set_cons_zero, List.set_cons_succ, List.length_cons, List.length_nil, Nat.reduceAdd, Nat.reduceLT, Nat.reduceLeDiff, Nat.reduceEqDiff, Bool.and_false, Bool.and_true, Bool.true_and, Bool.false_and, Bool.false_eq_true, if_false, if_true, ite_true, ite_false, Fin.isValue, Fin.val_zero, Fin.val_one, Fin.val_two, gz0, gz1, gz2, gz3, List.take_succ_cons, List.take_zero, List.drop_succ_cons, List.drop_zero, List.reverse_cons, List.reverse_nil, List.nil_append, List.cons_append, gx_nx, Int32.reduceToInt, Int.reduceToNat, Int.toNat_zero, Int.toNat_one, Int.reduceLT, Int.reduceLE, Int.ofNat_zero, Int.reduceNeg, Int.le_refl, and_self, List.getElem?_cons_zero, List.getElem?_cons_succ, true_and, and_true, Nat.reduceSub, List.replicate, List.append_nil, Nat.reduceLeDiff, Nat.le_add_left, Nat.zero_le, Nat.zero_add, ga2_37, gf2_21, gf2_24, gf2_33, gf2_43, gk_bipush_40, gk_bipush_50, gk_iconst_0, gk_iconst_1, gk_iconst_m1, gm2_37, gm2_48, gm2_52, gm2_55, gm2_61, gm2_65, gn101, gn24, gn25, gn26, gn6, gn7, gr101, gr24, gr25, gr26, gr6, gr7, gt2_2, gv24, gi24_0, gi24_1, gi24_2, gi24_5, gi24_6, gi24_7, gi24_8, gi24_11, gi24_12, gi24_14, gi24_17, gi24_18, gi24_19, gi24_20, gi24_21, gi24_24, gi24_27, gi24_28, gi24_31, gi24_32, gi24_33, gi24_34, gi24_35, gi24_38, gi24_39, gi24_40, gi24_41, gi24_44, gi24_45, gi24_48, gi24_49, gi24_52, gi24_55, gi24_56, gi24_57, gi24_58, gi24_60, gi24_63, gi24_64, gi24_65, gi24_68, gi24_70, gi24_72, gi24_73, gi24_76, gi24_77, gi24_78, gi24_79, gi24_81, gi24_84, gi24_87, gi24_90, gl0, gl1, gl2, gl3, gl4, gl5, gl6, gl7, gl8, gl9, gl10, gl11, gl12, gl13, gl14, gl15, gl16, gl17, gl18, gl19, gl20, gl21, gl22, gl23, gl24, gl25, gl26, gl27, gl28, gl29, gl30, gl31, gl32, gl33, gl34, gl35, gl36, gl37, gl38, gl39, gl40, gl41, gl42, gl43, gl44, gl45, gl46, gl47, gl48, gl49, gl50, gl51, gl52, gl53, gl54, gl55, gl56, gl57]
    simp (disch := first | decide | omega) only [gx_w_np, gx_w_p, Int32.reduceToInt, Int.toNat_natCast, if_true, if_false, nI_1, nI_pred, i_nI, ite_true, ite_false, Int.reduceToNat, Nat.reduceEqDiff, Nat.reduceAdd, i_le]
    exact ⟨fun _ => hP M F (by rw [← e]; exact h32) (by rw [← e]; exact G), fun q => absurd (by omega) q⟩
  | succ k ih =>
    intro r M l u es v hr F V C G h32 hl e
    refine gx_wp_ok 40 false _ _ _ _ ?_
    simp only [gx_w_np, gx_w_p, ne_eq, not_false_eq_true, gx_wp, gx_step, gx_cnd, gb0, gb1, Classical.not_not, List.getD_cons_zero, List.getD_cons_succ, List.set_cons_zero, List.set_cons_succ, List.length_cons, List.length_nil, Nat.reduceAdd, Nat.reduceLT, Nat.reduceLeDiff, Nat.reduceEqDiff, Bool.and_false, Bool.and_true, Bool.true_and, Bool.false_and, Bool.false_eq_true, if_false, if_true, ite_true, ite_false, Fin.isValue, Fin.val_zero, Fin.val_one, Fin.val_two, gz0, gz1, gz2, gz3, List.take_succ_cons, List.take_zero, List.drop_succ_cons, List.drop_zero, List.reverse_cons, List.reverse_nil, List.nil_append, List.cons_append, gx_nx, Int32.reduceToInt, Int.reduceToNat, Int.toNat_zero, Int.toNat_one, Int.reduceLT, Int.reduceLE, Int.ofNat_zero, Int.reduceNeg, Int.le_refl, and_self, List.getElem?_cons_zero, List.getElem?_cons_succ, true_and, and_true, Nat.reduceSub, List.replicate, List.append_nil, Nat.reduceLeDiff, Nat.le_add_left, Nat.zero_le, Nat.zero_add, ga2_37, gf2_21, gf2_24, gf2_33, gf2_43, gk_bipush_40, gk_bipush_50, gk_iconst_0, gk_iconst_1, gk_iconst_m1, gm2_37, gm2_48, gm2_52, gm2_55, gm2_61, gm2_65, gn101, gn24, gn25, gn26, gn6, gn7, gr101, gr24, gr25, gr26, gr6, gr7, gt2_2, gv24, gi24_0, gi24_1, gi24_2, gi24_5, gi24_6, gi24_7, gi24_8, gi24_11, gi24_12, gi24_14, gi24_17, gi24_18, gi24_19, gi24_20, gi24_21, gi24_24, gi24_27, gi24_28, gi24_31, gi24_32, gi24_33, gi24_34, gi24_35, gi24_38, gi24_39, gi24_40, gi24_41, gi24_44, gi24_45, gi24_48, gi24_49, gi24_52, gi24_55, gi24_56, gi24_57, gi24_58, gi24_60, gi24_63, gi24_64, gi24_65, gi24_68, gi24_70, gi24_72, gi24_73, gi24_76, gi24_77, gi24_78, gi24_79, gi24_81, gi24_84, gi24_87, gi24_90, gl0, gl1, gl2, gl3, gl4, gl5, gl6, gl7, gl8, gl9, gl10, gl11, gl12, gl13, gl14, gl15, gl16, gl17, gl18, gl19, gl20, gl21, gl22, gl23, gl24, gl25, gl26, gl27, gl28, gl29, gl30, gl31, gl32, gl33, gl34, gl35, gl36, gl37, gl38, gl39, gl40, gl41, gl42, gl43, gl44, gl45, gl46, gl47, gl48, gl49, gl50, gl51, gl52, gl53, gl54, gl55, gl56, gl57]
    simp (disch := first | decide | omega) only [gx_w_np, gx_w_p, Int32.reduceToInt, Int.toNat_natCast, if_true, if_false, nI_1, nI_pred, i_nI, ite_true, ite_false, Int.reduceToNat, Nat.reduceEqDiff, Nat.reduceAdd, i_le]
    refine ⟨fun q => absurd q (by omega), fun _ => ?_⟩
    refine s_leastGiver W F C (fun s hs hlt => ?_) (fun hno => ?_)
    · intro x hx
      cases hx
      have hn10 := W.2.2.1
      refine ⟨fun _ => ?_, fun q => absurd q (nI_m1 (by omega))⟩
      rw [hs] at hlt ⊢
      have R := lg_ok (D := dC M0 n m) (u := u) hlt
      refine s_walk W F V R C (by omega) h32 (fun M1 F1 C1 o => ?_)
      obtain ⟨es2, g1, g2, g3, g4⟩ := CG_step (k := k) (wl_ok O V R).2.1 hlt G h32 o
      exact ih (r + 1) M1 _ _ es2 _ (by omega) F1 (step_ok O V R).1 C1 g1 g2 (by omega) (by rw [← g4]; exact e)
    · intro x hx
      cases hx
      refine ⟨fun q => absurd rfl q, fun _ => ?_⟩
      have e : es = rn (dC M0 n m) 50 l9 u9 := by
        rw [← e]
        show es = es ++ (if lg (dC M0 n m) u < n then _ else [])
        rw [if_neg hno]; simp
      exact hP M F (by rw [← e]; exact h32) (by rw [← e]; exact G)
set_option maxRecDepth 100000 in
set_option maxHeartbeats 4000000 in
theorem l24a {X : gx_X} {M0 : gx_M} {n m : Nat} {P : Option Value → gx_M → Prop} (W : gg_W M0 n m) (FLf : FL (dC M0 n m) (sv M0 30))
    (hP : ∀ M1 v, pf M0 M1 → M1 3 2 = 0 → cv M1 (dC M0 n m) (l0 (sv M0 30)) (u0 (dC M0 n m) (l0 (sv M0 30))) → gx_OK X 24 57 [.ref 3, .ref 1, .ref 30, .int 0, v] [] M1 P) :
    ∀ (d i : Nat) (M : gx_M) (v : Value), i + d = n → pf M0 M → M 3 2 = 0 → (∀ k, k < m → (M 24 k).toInt = l0 (sv M0 30) k) → (∀ w, w < i → (M 25 w).toInt = u0 (dC M0 n m) (l0 (sv M0 30)) w) → gx_OK X 24 19 [.ref 3, .ref 1, .ref 30, .int (nI i), v] [] M P := by
  have O := gok_C W
  have hn10 := W.2.2.1
  have V0 := vs_0 O FLf
  intro d
  induction d with
  | zero =>
    intro i M v hi F h32 h24 h25
    have e7 : M 1 7 = nI n := by rw [F 1 (by omega)]; exact W.1
    refine gx_wp_ok 40 false _ _ _ _ ?_
    simp only [gx_w_np, gx_w_p, ne_eq, not_false_eq_true, gx_wp, gx_step, gx_cnd, gb0, gb1, Classical.not_not, List.getD_cons_zero, List.getD_cons_succ, List.set_cons_zero, List.set_cons_succ, List.length_cons, List.length_nil, Nat.reduceAdd, Nat.reduceLT, Nat.reduceLeDiff, Nat.reduceEqDiff, Bool.and_false, Bool.and_true, Bool.true_and, Bool.false_and, Bool.false_eq_true, if_false, if_true, ite_true, ite_false, Fin.isValue, Fin.val_zero, Fin.val_one, Fin.val_two, gz0, gz1, gz2, gz3, List.take_succ_cons, List.take_zero, List.drop_succ_cons, List.drop_zero, List.reverse_cons, List.reverse_nil, List.nil_append, List.cons_append, gx_nx, Int32.reduceToInt, Int.reduceToNat, Int.toNat_zero, Int.toNat_one, Int.reduceLT, Int.reduceLE, Int.ofNat_zero, Int.reduceNeg, Int.le_refl, and_self, List.getElem?_cons_zero, List.getElem?_cons_succ, true_and, and_true, Nat.reduceSub, List.replicate, List.append_nil, Nat.reduceLeDiff, Nat.le_add_left, Nat.zero_le, Nat.zero_add, ga2_37, gf2_21, gf2_24, gf2_33, gf2_43, gk_bipush_40, gk_bipush_50, gk_iconst_0, gk_iconst_1, gk_iconst_m1, gm2_37, gm2_48, gm2_52, gm2_55, gm2_61, gm2_65, gn101, gn24, gn25, gn26, gn6, gn7, gr101, gr24, gr25, gr26, gr6, gr7, gt2_2, gv24, gi24_0, gi24_1, gi24_2, gi24_5, gi24_6, gi24_7, gi24_8, gi24_11, gi24_12, gi24_14, gi24_17, gi24_18, gi24_19, gi24_20, gi24_21, gi24_24, gi24_27, gi24_28, gi24_31, gi24_32, gi24_33, gi24_34, gi24_35, gi24_38, gi24_39, gi24_40, gi24_41, gi24_44, gi24_45, gi24_48, gi24_49, gi24_52, gi24_55, gi24_56, gi24_57, gi24_58, gi24_60, gi24_63, gi24_64, gi24_65, gi24_68, gi24_70, gi24_72, gi24_73, gi24_76, gi24_77, gi24_78, gi24_79, gi24_81, gi24_84, gi24_87, gi24_90, gl0, gl1, gl2, gl3, gl4, gl5, gl6, gl7, gl8, gl9, gl10, gl11, gl12, gl13, gl14, gl15, gl16, gl17, gl18, gl19, gl20, gl21, gl22, gl23, gl24, gl25, gl26, gl27, gl28, gl29, gl30, gl31, gl32, gl33, gl34, gl35, gl36, gl37, gl38, gl39, gl40, gl41, gl42, gl43, gl44, gl45, gl46, gl47, gl48, gl49, gl50, gl51, gl52, gl53, gl54, gl55, gl56, gl57]
    simp (disch := first | decide | omega) only [gx_w_np, gx_w_p, Int32.reduceToInt, Int.toNat_natCast, if_true, if_false, nI_1, nI_pred, i_nI, ite_true, ite_false, Int.reduceToNat, Nat.reduceEqDiff, Nat.reduceAdd, e7, i_le]
    exact ⟨fun _ => hP M v F h32 ⟨h24, fun w hw => h25 w (by have : w < n := hw; omega)⟩, fun q => absurd (by omega) q⟩
  | succ d ih =>
    intro i M v hi F h32 h24 h25
    have e7 : M 1 7 = nI n := by rw [F 1 (by omega)]; exact W.1
    have cfM : cf M0 M := fun p h => F p (by omega)
    have W1 := W_cf cfM W
    have eD := dC_cf n m cfM
    have esv : sv M 30 = sv M0 30 := by unfold sv; rw [F 30 (by omega)]
    have F1 : FL (dC M n m) (sv M 30) := by rw [eD, esv]; exact FLf
    refine gx_wp_ok 40 false _ _ _ _ ?_
    simp only [gx_w_np, gx_w_p, ne_eq, not_false_eq_true, gx_wp, gx_step, gx_cnd, gb0, gb1, Classical.not_not, List.getD_cons_zero, List.getD_cons_succ, List.set_cons_zero, List.set_cons_succ, List.length_cons, List.length_nil, Nat.reduceAdd, Nat.reduceLT, Nat.reduceLeDiff, Nat.reduceEqDiff, Bool.and_false, Bool.and_true, Bool.true_and, Bool.false_and, Bool.false_eq_true, if_false, if_true, ite_true, ite_false, Fin.isValue, Fin.val_zero, Fin.val_one, Fin.val_two, gz0, gz1, gz2, gz3, List.take_succ_cons, List.take_zero, List.drop_succ_cons, List.drop_zero, List.reverse_cons, List.reverse_nil, List.nil_append, List.cons_append, gx_nx, Int32.reduceToInt, Int.reduceToNat, Int.toNat_zero, Int.toNat_one, Int.reduceLT, Int.reduceLE, Int.ofNat_zero, Int.reduceNeg, Int.le_refl, and_self, List.getElem?_cons_zero, List.getElem?_cons_succ, true_and, and_true, Nat.reduceSub, List.replicate, List.append_nil, Nat.reduceLeDiff, Nat.le_add_left, Nat.zero_le, Nat.zero_add, ga2_37, gf2_21, gf2_24, gf2_33, gf2_43, gk_bipush_40, gk_bipush_50, gk_iconst_0, gk_iconst_1, gk_iconst_m1, gm2_37, gm2_48, gm2_52, gm2_55, gm2_61, gm2_65, gn101, gn24, gn25, gn26, gn6, gn7, gr101, gr24, gr25, gr26, gr6, gr7, gt2_2, gv24, gi24_0, gi24_1, gi24_2, gi24_5, gi24_6, gi24_7, gi24_8, gi24_11, gi24_12, gi24_14, gi24_17, gi24_18, gi24_19, gi24_20, gi24_21, gi24_24, gi24_27, gi24_28, gi24_31, gi24_32, gi24_33, gi24_34, gi24_35, gi24_38, gi24_39, gi24_40, gi24_41, gi24_44, gi24_45, gi24_48, gi24_49, gi24_52, gi24_55, gi24_56, gi24_57, gi24_58, gi24_60, gi24_63, gi24_64, gi24_65, gi24_68, gi24_70, gi24_72, gi24_73, gi24_76, gi24_77, gi24_78, gi24_79, gi24_81, gi24_84, gi24_87, gi24_90, gl0, gl1, gl2, gl3, gl4, gl5, gl6, gl7, gl8, gl9, gl10, gl11, gl12, gl13, gl14, gl15, gl16, gl17, gl18, gl19, gl20, gl21, gl22, gl23, gl24, gl25, gl26, gl27, gl28, gl29, gl30, gl31, gl32, gl33, gl34, gl35, gl36, gl37, gl38, gl39, gl40, gl41, gl42, gl43, gl44, gl45, gl46, gl47, gl48, gl49, gl50, gl51, gl52, gl53, gl54, gl55, gl56, gl57]
    simp (disch := first | decide | omega) only [gx_w_np, gx_w_p, Int32.reduceToInt, Int.toNat_natCast, if_true, if_false, nI_1, nI_pred, i_nI, ite_true, ite_false, Int.reduceToNat, Nat.reduceEqDiff, Nat.reduceAdd, e7, i_le]
    refine ⟨fun q => absurd q (by omega), fun _ => ?_⟩
    refine s_goes (Or.inl rfl) (by omega) W1 F1 (fun x hx => ?_)
    intro z hz
    cases hz
    refine s_comes (Or.inl rfl) (by omega) W1 F1 (fun y hy => ?_)
    intro z hz
    cases hz
    rw [eD, esv] at hx hy
    have c := V0.2.2 i (show i < n by omega)
    have ub := V0.2.1 i (show i < n by omega)
    have e1 : (x - y).toInt = go_ (dC M0 n m) (l0 (sv M0 30)) i - co_ (dC M0 n m) (l0 (sv M0 30)) i := by
      rw [i_sub ?_ ?_, hx, hy]
      · rw [hx, hy, c]
        by_cases k1 : gdk (dC M0 n m) i = 1
        · rw [if_pos k1]; omega
        · rw [if_neg k1]
          by_cases k2 : gdk (dC M0 n m) i = 2
          · rw [if_pos k2]; omega
          · rw [if_neg k2]; omega
      · rw [hx, hy, c]
        by_cases k1 : gdk (dC M0 n m) i = 1
        · rw [if_pos k1]; omega
        · rw [if_neg k1]
          by_cases k2 : gdk (dC M0 n m) i = 2
          · rw [if_pos k2]; omega
          · rw [if_neg k2]; omega
    have fin : ∀ z : Int32, z.toInt = u0 (dC M0 n m) (l0 (sv M0 30)) i → (0 ≤ (i : Int) ∧ (i : Int) < ((10 : Nat) : Int)) ∧ gx_OK X 24 19 [.ref 3, .ref 1, .ref 30, .int (nI (i + 1)), v] [] (gx_w M 25 i z) P := fun z hz => by
      refine ⟨by omega, ih (i + 1) _ _ (by omega) (fun p h => ?_) (by rw [gx_w_np (by decide)]; exact h32) (fun k hk => by rw [gx_w_np (by decide)]; exact h24 k hk) (fun w hw => ?_)⟩
      · rw [← F p h]; funext j; rw [gx_w_np (by omega)]
      · rw [gx_w_p]
        by_cases zz : w = i
        · rw [if_pos zz, zz]; exact hz
        · rw [if_neg zz]; exact h25 w (by omega)
    have e2 : (-(x - y)).toInt = -(x - y).toInt := by
      rw [Int32.toInt_neg]
      refine i_bm ?_ ?_
      · rw [e1, c]
        by_cases k1 : gdk (dC M0 n m) i = 1
        · rw [if_pos k1]; omega
        · rw [if_neg k1]
          by_cases k2 : gdk (dC M0 n m) i = 2
          · rw [if_pos k2]; omega
          · rw [if_neg k2]; omega
      · rw [e1, c]
        by_cases k1 : gdk (dC M0 n m) i = 1
        · rw [if_pos k1]; omega
        · rw [if_neg k1]
          by_cases k2 : gdk (dC M0 n m) i = 2
          · rw [if_pos k2]; omega
          · rw [if_neg k2]; omega
    have eu : u0 (dC M0 n m) (l0 (sv M0 30)) i = if 0 ≤ (x - y).toInt then (x - y).toInt else -(x - y).toInt := by
      rw [e1, c]
      have h0 : gdk (dC M0 n m) i ≠ 1 → gdk (dC M0 n m) i ≠ 2 → u0 (dC M0 n m) (l0 (sv M0 30)) i = 0 := fun a b => by unfold u0; rw [if_neg a, if_neg b]
      by_cases k1 : gdk (dC M0 n m) i = 1
      · rw [if_pos k1, if_pos ub.1]
      · rw [if_neg k1]
        by_cases k2 : gdk (dC M0 n m) i = 2
        · rw [if_pos k2]
          by_cases q : 0 ≤ -u0 (dC M0 n m) (l0 (sv M0 30)) i
          · rw [if_pos q]; omega
          · rw [if_neg q]; omega
        · rw [if_neg k2, if_pos (Int.le_refl 0)]; exact h0 k1 k2
    refine sp_abs (fun q => ?_) (fun q => ?_)
    · intro z hz
      cases hz
      exact fin _ (by rw [eu, if_pos q])
    · intro z hz
      cases hz
      exact fin _ (by rw [eu, if_neg (by omega), e2])
set_option maxRecDepth 100000 in
set_option maxHeartbeats 4000000 in
theorem s_split {X : gx_X} {M : gx_M} {n m : Nat} {P : Option Value → gx_M → Prop} (W : gg_W M n m) (FLf : FL (dC M n m) (sv M 30))
    (hP : ∀ M1, pf M M1 → M1 3 2 = nI (rn (dC M n m) 50 (l0 (sv M 30)) (u0 (dC M n m) (l0 (sv M 30)))).length → CL M1 0 (rn (dC M n m) 50 (l0 (sv M 30)) (u0 (dC M n m) (l0 (sv M 30)))) → P none M1) : gx_C X 24 [.ref 3, .ref 1, .ref 30] M P := by
  have O := gok_C W
  have hm40 := W.2.2.2.1
  refine gx_C_wp 30 ?_
  simp only [gx_w_np, gx_w_p, ne_eq, not_false_eq_true, gx_wp, gx_step, gx_cnd, gb0, gb1, Classical.not_not, List.getD_cons_zero, List.getD_cons_succ, List.set_cons_zero, List.set_cons_succ, List.length_cons, List.length_nil, Nat.reduceAdd, Nat.reduceLT, Nat.reduceLeDiff, Nat.reduceEqDiff, Bool.and_false, Bool.and_true, Bool.true_and, Bool.false_and, Bool.false_eq_true, if_false, if_true, ite_true, ite_false, Fin.isValue, Fin.val_zero, Fin.val_one, Fin.val_two, gz0, gz1, gz2, gz3, List.take_succ_cons, List.take_zero, List.drop_succ_cons, List.drop_zero, List.reverse_cons, List.reverse_nil, List.nil_append, List.cons_append, gx_nx, Int32.reduceToInt, Int.reduceToNat, Int.toNat_zero, Int.toNat_one, Int.reduceLT, Int.reduceLE, Int.ofNat_zero, Int.reduceNeg, Int.le_refl, and_self, List.getElem?_cons_zero, List.getElem?_cons_succ, true_and, and_true, Nat.reduceSub, List.replicate, List.append_nil, Nat.reduceLeDiff, Nat.le_add_left, Nat.zero_le, Nat.zero_add, ga2_37, gf2_21, gf2_24, gf2_33, gf2_43, gk_bipush_40, gk_bipush_50, gk_iconst_0, gk_iconst_1, gk_iconst_m1, gm2_37, gm2_48, gm2_52, gm2_55, gm2_61, gm2_65, gn101, gn24, gn25, gn26, gn6, gn7, gr101, gr24, gr25, gr26, gr6, gr7, gt2_2, gv24, gi24_0, gi24_1, gi24_2, gi24_5, gi24_6, gi24_7, gi24_8, gi24_11, gi24_12, gi24_14, gi24_17, gi24_18, gi24_19, gi24_20, gi24_21, gi24_24, gi24_27, gi24_28, gi24_31, gi24_32, gi24_33, gi24_34, gi24_35, gi24_38, gi24_39, gi24_40, gi24_41, gi24_44, gi24_45, gi24_48, gi24_49, gi24_52, gi24_55, gi24_56, gi24_57, gi24_58, gi24_60, gi24_63, gi24_64, gi24_65, gi24_68, gi24_70, gi24_72, gi24_73, gi24_76, gi24_77, gi24_78, gi24_79, gi24_81, gi24_84, gi24_87, gi24_90, gl0, gl1, gl2, gl3, gl4, gl5, gl6, gl7, gl8, gl9, gl10, gl11, gl12, gl13, gl14, gl15, gl16, gl17, gl18, gl19, gl20, gl21, gl22, gl23, gl24, gl25, gl26, gl27, gl28, gl29, gl30, gl31, gl32, gl33, gl34, gl35, gl36, gl37, gl38, gl39, gl40, gl41, gl42, gl43, gl44, gl45, gl46, gl47, gl48, gl49, gl50, gl51, gl52, gl53, gl54, gl55, gl56, gl57]
  refine ⟨by omega, ?_⟩
  rw [← nI_0]
  have F : pf M (gx_cp (gx_w M 3 2 (nI 0)) 30 24 0 0 40) := fun p h => by funext j; rw [gx_cp_o (by omega), gx_w_np (by omega)]
  refine l24a W FLf (fun M1 v F1 h32 C1 => ?_) n 0 _ _ (by omega) F (by rw [gx_cp_o (by decide), gx_w_p, if_pos rfl, nI_0]) (fun k hk => ?_) (fun w hw => absurd hw (by omega))
  · rw [← nI_0]
    exact l24b W hP 50 0 M1 _ _ [] v (by omega) F1 (vs_0 O FLf) C1 trivial (by rw [h32]; rfl) (Nat.le_refl _) rfl
  · rw [gx_cp_i (by omega), gx_w_np (by decide)]
    unfold l0 sv
    rw [if_pos (by omega)]
set_option maxRecDepth 100000 in
set_option maxHeartbeats 4000000 in
theorem s_splitFG {X : gx_X} {M : gx_M} {n m : Nat} {P : Option Value → gx_M → Prop} (C : ck M n m) (h10 : M 0 10 ≠ 0) (h11 : M 0 11 = 1)
    (hP : ∀ M1, cf M M1 → ck M1 n m → CP M1 (dC M n m) → P none M1) : gx_C X 60 [.ref 0] M P := by
  refine gx_C_wp 40 ?_
  simp only [gx_w_np, gx_w_p, ne_eq, not_false_eq_true, gx_wp, gx_step, gx_cnd, gb0, gb1, Classical.not_not, List.getD_cons_zero, List.getD_cons_succ, List.set_cons_zero, List.set_cons_succ, List.length_cons, List.length_nil, Nat.reduceAdd, Nat.reduceLT, Nat.reduceLeDiff, Nat.reduceEqDiff, Bool.and_false, Bool.and_true, Bool.true_and, Bool.false_and, Bool.false_eq_true, if_false, if_true, ite_true, ite_false, Fin.isValue, Fin.val_zero, Fin.val_one, Fin.val_two, gz0, gz1, gz2, gz3, List.take_succ_cons, List.take_zero, List.drop_succ_cons, List.drop_zero, List.reverse_cons, List.reverse_nil, List.nil_append, List.cons_append, gx_nx, Int32.reduceToInt, Int.reduceToNat, Int.toNat_zero, Int.toNat_one, Int.reduceLT, Int.reduceLE, Int.ofNat_zero, Int.reduceNeg, Int.le_refl, and_self, List.getElem?_cons_zero, List.getElem?_cons_succ, true_and, and_true, Nat.reduceSub, List.replicate, List.append_nil, Nat.reduceLeDiff, Nat.le_add_left, Nat.zero_le, Nat.zero_add, gf3_12, gf3_159, gf3_26, gk_iconst_0, gk_iconst_1, gm3_102, gm3_211, gn24, gn54, gn60, gr24, gr54, gr60, gt3_9, gv60, gi60_0, gi60_1, gi60_4, gi60_7, gi60_8, gi60_11, gi60_12, gi60_15, gi60_16, gi60_17, gi60_20, gi60_23, gi60_24, gi60_25, gi60_28, gl0, gl1, gl2, gl3, gl4, gl5, gl6, gl7, gl8, gl9, gl10, gl11, gl12, gl13, gl14, gl15, gl16, gl17, gl18, gl19, gl20, gl21, gl22, gl23, gl24, gl25, gl26, gl27, gl28, gl29, gl30, gl31, gl32, gl33, gl34, gl35, gl36, gl37, gl38, gl39, gl40, gl41, gl42, gl43, gl44, gl45, gl46, gl47, gl48, gl49, gl50, gl51, gl52, gl53, gl54, gl55, gl56, gl57]
  refine ⟨fun q => hP M (cf_r M) C (C.2.2.2.2.2.2 q), fun q => ?_⟩
  rw [← nI_0]
  refine s_first (Or.inl rfl) C h10 h11 (fun M1 F1 C1 e1 V1 => ?_)
  intro z hz
  cases hz
  obtain ⟨W1, S1, c1, c2, c3, c4, c5⟩ := id C1
  have eD := dC_cf n m F1
  have V1' : FV (dC M1 n m) 0 (sv M1 30) := by rw [eD]; exact V1
  refine s_split W1 V1'.1 (fun M2 F2 h32 L2 => ?_)
  have fp : ∀ p, p ≠ 0 → (p < 21 ∧ p ≠ 3) ∨ 27 < p → (gx_w M2 0 9 1) p = M1 p := fun p a b => by rw [← F2 p b]; funext j; rw [gx_w_np a]
  have f0 : ∀ j, j ≠ 9 → (gx_w M2 0 9 1) 0 j = M1 0 j := fun j h => by rw [gx_w_p, if_neg h, F2 0 (by omega)]
  have F : cf M1 (gx_w M2 0 9 1) := fun p hp => fp p (by omega) (by omega)
  have CPx : CP (gx_w M2 0 9 1) (dC M1 n m) := ⟨sv M1 30, V1', by rw [gx_w_np (by decide)]; exact h32, CL_eq (by funext j; rw [gx_w_np (by decide)]) (by funext j; rw [gx_w_np (by decide)]) (by funext j; rw [gx_w_np (by decide)]) _ _ L2⟩
  refine hP _ (cf_t F1 F) ⟨W_cf F W1, ?_, ?_⟩ (by rw [← eD]; exact CPx)
  · intro e he
    rw [fp 13 (by decide) (by omega), fp 14 (by decide) (by omega)]; exact S1 e he
  · rw [dC_cf n m F]
    refine ⟨?_, ?_, ?_, ?_, fun _ => CPx⟩
    · have : sv (gx_w M2 0 9 1) 28 = sv M1 28 := by unfold sv; rw [fp 28 (by decide) (by omega)]
      rw [f0 10 (by decide), f0 11 (by decide), this]; exact c1
    · have : sv (gx_w M2 0 9 1) 30 = sv M1 30 := by unfold sv; rw [fp 30 (by decide) (by omega)]
      rw [fp 32 (by decide) (by omega), this]; exact c2
    · have : sv (gx_w M2 0 9 1) 31 = sv M1 31 := by unfold sv; rw [fp 31 (by decide) (by omega)]
      rw [fp 32 (by decide) (by omega), this]; exact c3
    · rw [f0 8 (by decide)]
      exact fun q => CB_eq (f0 7 (by decide)) (fp 33 (by decide) (by omega)) (c4 q)
