/-! The object's streams: its small methods. -/
/-- all but the parts stays -/
def pf (M0 M : gx_M) : Prop := ∀ p, (p < 21 ∧ p ≠ 3) ∨ 27 < p → M p = M0 p
theorem pf_t {M M1 M2 : gx_M} (F : pf M M1) (G : pf M1 M2) : pf M M2 := fun p h => by rw [G p h, F p h]
/-- what is left and due, in the memory -/
def cv (M : gx_M) (D : gD) (l u : Nat → Int) : Prop := (∀ k, k < gdm D → (M 24 k).toInt = l k) ∧ ∀ v, v < gdn D → (M 25 v).toInt = u v
set_option maxRecDepth 100000 in
set_option maxHeartbeats 4000000 in
theorem l25 {X : gx_X} {M0 M : gx_M} {n m : Nat} {l u : Nat → Int} {P : Option Value → gx_M → Prop} (W : gg_W M0 n m) (F : pf M0 M) (C : cv M (dC M0 n m) l u)
    (h1 : ∀ s, s = lg (dC M0 n m) u → s < n → P (some (.int (nI s))) M) (h0 : ¬ lg (dC M0 n m) u < n → P (some (.int (-1))) M) :
    ∀ (d i : Nat), i + d = n → (∀ j, j < i → ¬ (gdk (dC M0 n m) j = 1 ∧ 0 < u j)) → gx_OK X 25 2 [.ref 3, .ref 1, .int (nI i)] [] M P := by
  have e7 : M 1 7 = nI n := by rw [F 1 (by omega)]; exact W.1
  have e4 : ∀ v, M 4 v = M0 4 v := fun v => by rw [F 4 (by omega)]
  have hn10 := W.2.2.1
  intro d
  induction d with
  | zero =>
    intro i hi hj
    refine gx_wp_ok 40 false _ _ _ _ ?_
    simp only [gx_w_np, gx_w_p, ne_eq, not_false_eq_true, gx_wp, gx_step, gx_cnd, gb0, gb1, Classical.not_not, List.getD_cons_zero, List.getD_cons_succ, List.set_cons_zero, List.set_cons_succ, List.length_cons, List.length_nil, Nat.reduceAdd, Nat.reduceLT, Nat.reduceLeDiff, Nat.reduceEqDiff, Bool.and_false, Bool.and_true, Bool.true_and, Bool.false_and, Bool.false_eq_true, if_false, if_true, ite_true, ite_false, Fin.isValue, Fin.val_zero, Fin.val_one, Fin.val_two, gz0, gz1, gz2, gz3, List.take_succ_cons, List.take_zero, List.drop_succ_cons, List.drop_zero, List.reverse_cons, List.reverse_nil, List.nil_append, List.cons_append, gx_nx, Int32.reduceToInt, Int.reduceToNat, Int.toNat_zero, Int.toNat_one, Int.reduceLT, Int.reduceLE, Int.ofNat_zero, Int.reduceNeg, Int.le_refl, and_self, List.getElem?_cons_zero, List.getElem?_cons_succ, true_and, and_true, Nat.reduceSub, List.replicate, List.append_nil, Nat.reduceLeDiff, Nat.le_add_left, Nat.zero_le, Nat.zero_add, gf2_24, gf2_43, gf2_69, gk_iconst_0, gk_iconst_1, gk_iconst_m1, gn25, gr25, gv25, gi25_0, gi25_1, gi25_2, gi25_3, gi25_4, gi25_7, gi25_10, gi25_11, gi25_14, gi25_15, gi25_16, gi25_17, gi25_20, gi25_21, gi25_24, gi25_25, gi25_26, gi25_29, gi25_30, gi25_31, gi25_34, gi25_37, gi25_38, gl0, gl1, gl2, gl3, gl4, gl5, gl6, gl7, gl8, gl9, gl10, gl11, gl12, gl13, gl14, gl15, gl16, gl17, gl18, gl19, gl20, gl21, gl22, gl23, gl24, gl25, gl26, gl27, gl28, gl29, gl30, gl31, gl32, gl33, gl34, gl35, gl36, gl37, gl38, gl39, gl40, gl41, gl42, gl43, gl44, gl45, gl46, gl47, gl48, gl49, gl50, gl51, gl52, gl53, gl54, gl55, gl56, gl57]
    simp (disch := first | decide | omega) only [gx_w_np, gx_w_p, Int32.reduceToInt, Int.toNat_natCast, if_true, if_false, nI_1, nI_pred, i_nI, ite_true, ite_false, Int.reduceToNat, Nat.reduceEqDiff, Nat.reduceAdd, e7, i_le]
    refine ⟨fun _ => h0 (fun q => ?_), fun q => absurd (by omega) q⟩
    have R := lg_ok (D := dC M0 n m) (u := u) q
    exact hj _ (by have : lg (dC M0 n m) u < n := q; omega) ⟨R.2.1, R.2.2⟩
  | succ d ih =>
    intro i hi hj
    have c := C.2 i (show i < n by omega)
    have nx : ¬ (gdk (dC M0 n m) i = 1 ∧ 0 < u i) → gx_OK X 25 2 [.ref 3, .ref 1, .int (nI (i + 1))] [] M P := fun q => ih (i + 1) (by omega) (fun j h => by
      by_cases z : j = i
      · rw [z]; exact q
      · exact hj j (by omega))
    refine gx_wp_ok 40 false _ _ _ _ ?_
    simp only [gx_w_np, gx_w_p, ne_eq, not_false_eq_true, gx_wp, gx_step, gx_cnd, gb0, gb1, Classical.not_not, List.getD_cons_zero, List.getD_cons_succ, List.set_cons_zero, List.set_cons_succ, List.length_cons, List.length_nil, Nat.reduceAdd, Nat.reduceLT, Nat.reduceLeDiff, Nat.reduceEqDiff, Bool.and_false, Bool.and_true, Bool.true_and, Bool.false_and, Bool.false_eq_true, if_false, if_true, ite_true, ite_false, Fin.isValue, Fin.val_zero, Fin.val_one, Fin.val_two, gz0, gz1, gz2, gz3, List.take_succ_cons, List.take_zero, List.drop_succ_cons, List.drop_zero, List.reverse_cons, List.reverse_nil, List.nil_append, List.cons_append, gx_nx, Int32.reduceToInt, Int.reduceToNat, Int.toNat_zero, Int.toNat_one, Int.reduceLT, Int.reduceLE, Int.ofNat_zero, Int.reduceNeg, Int.le_refl, and_self, List.getElem?_cons_zero, List.getElem?_cons_succ, true_and, and_true, Nat.reduceSub, List.replicate, List.append_nil, Nat.reduceLeDiff, Nat.le_add_left, Nat.zero_le, Nat.zero_add, gf2_24, gf2_43, gf2_69, gk_iconst_0, gk_iconst_1, gk_iconst_m1, gn25, gr25, gv25, gi25_0, gi25_1, gi25_2, gi25_3, gi25_4, gi25_7, gi25_10, gi25_11, gi25_14, gi25_15, gi25_16, gi25_17, gi25_20, gi25_21, gi25_24, gi25_25, gi25_26, gi25_29, gi25_30, gi25_31, gi25_34, gi25_37, gi25_38, gl0, gl1, gl2, gl3, gl4, gl5, gl6, gl7, gl8, gl9, gl10, gl11, gl12, gl13, gl14, gl15, gl16, gl17, gl18, gl19, gl20, gl21, gl22, gl23, gl24, gl25, gl26, gl27, gl28, gl29, gl30, gl31, gl32, gl33, gl34, gl35, gl36, gl37, gl38, gl39, gl40, gl41, gl42, gl43, gl44, gl45, gl46, gl47, gl48, gl49, gl50, gl51, gl52, gl53, gl54, gl55, gl56, gl57]
    simp (disch := first | decide | omega) only [gx_w_np, gx_w_p, Int32.reduceToInt, Int.toNat_natCast, if_true, if_false, nI_1, nI_pred, i_nI, ite_true, ite_false, Int.reduceToNat, Nat.reduceEqDiff, Nat.reduceAdd, e7, e4, i_le]
    refine ⟨fun q => absurd q (by omega), fun _ => ⟨by omega, fun q => nx (fun h => q h.1), fun q => ⟨by omega, fun q2 => nx (fun h => by omega), fun q2 => h1 i ?_ (by omega)⟩⟩⟩
    have := fnd_uq (p := fun v => decide (gdk (dC M0 n m) v = 1 ∧ 0 < u v)) (d := n) (i := 0) (r := i) (by omega) (by omega) (fun j _ h => decide_eq_false (hj j h)) (decide_eq_true ⟨q, by omega⟩)
    exact this.symm
set_option maxRecDepth 100000 in
set_option maxHeartbeats 4000000 in
theorem s_leastGiver {X : gx_X} {M0 M : gx_M} {n m : Nat} {l u : Nat → Int} {P : Option Value → gx_M → Prop} (W : gg_W M0 n m) (F : pf M0 M) (C : cv M (dC M0 n m) l u)
    (h1 : ∀ s, s = lg (dC M0 n m) u → s < n → P (some (.int (nI s))) M) (h0 : ¬ lg (dC M0 n m) u < n → P (some (.int (-1))) M) : gx_C X 25 [.ref 3, .ref 1] M P := by
  refine gx_C_wp 20 ?_
  simp only [gx_w_np, gx_w_p, ne_eq, not_false_eq_true, gx_wp, gx_step, gx_cnd, gb0, gb1, Classical.not_not, List.getD_cons_zero, List.getD_cons_succ, List.set_cons_zero, List.set_cons_succ, List.length_cons, List.length_nil, Nat.reduceAdd, Nat.reduceLT, Nat.reduceLeDiff, Nat.reduceEqDiff, Bool.and_false, Bool.and_true, Bool.true_and, Bool.false_and, Bool.false_eq_true, if_false, if_true, ite_true, ite_false, Fin.isValue, Fin.val_zero, Fin.val_one, Fin.val_two, gz0, gz1, gz2, gz3, List.take_succ_cons, List.take_zero, List.drop_succ_cons, List.drop_zero, List.reverse_cons, List.reverse_nil, List.nil_append, List.cons_append, gx_nx, Int32.reduceToInt, Int.reduceToNat, Int.toNat_zero, Int.toNat_one, Int.reduceLT, Int.reduceLE, Int.ofNat_zero, Int.reduceNeg, Int.le_refl, and_self, List.getElem?_cons_zero, List.getElem?_cons_succ, true_and, and_true, Nat.reduceSub, List.replicate, List.append_nil, Nat.reduceLeDiff, Nat.le_add_left, Nat.zero_le, Nat.zero_add, gf2_24, gf2_43, gf2_69, gk_iconst_0, gk_iconst_1, gk_iconst_m1, gn25, gr25, gv25, gi25_0, gi25_1, gi25_2, gi25_3, gi25_4, gi25_7, gi25_10, gi25_11, gi25_14, gi25_15, gi25_16, gi25_17, gi25_20, gi25_21, gi25_24, gi25_25, gi25_26, gi25_29, gi25_30, gi25_31, gi25_34, gi25_37, gi25_38, gl0, gl1, gl2, gl3, gl4, gl5, gl6, gl7, gl8, gl9, gl10, gl11, gl12, gl13, gl14, gl15, gl16, gl17, gl18, gl19, gl20, gl21, gl22, gl23, gl24, gl25, gl26, gl27, gl28, gl29, gl30, gl31, gl32, gl33, gl34, gl35, gl36, gl37, gl38, gl39, gl40, gl41, gl42, gl43, gl44, gl45, gl46, gl47, gl48, gl49, gl50, gl51, gl52, gl53, gl54, gl55, gl56, gl57]
  rw [← nI_0]
  exact l25 W F C h1 h0 n 0 (by omega) (fun j h => absurd h (by omega))
set_option maxRecDepth 100000 in
set_option maxHeartbeats 4000000 in
theorem l27 {X : gx_X} {M0 M : gx_M} {n m v : Nat} {l u : Nat → Int} {P : Option Value → gx_M → Prop} (hv : v < 10) (W : gg_W M0 n m) (F : pf M0 M) (C : cv M (dC M0 n m) l u) (hx : nx (dC M0 n m) l v < m)
    (h1 : P (some (.int (nI (nx (dC M0 n m) l v)))) M) :
    ∀ (d i : Nat), i + d = m → (∀ j, j < i → ¬ ((gdf (dC M0 n m) j).toInt = v ∧ 0 < l j)) → gx_OK X 27 2 [.ref 3, .ref 1, .int (nI v), .int (nI i)] [] M P := by
  have e8 : M 1 8 = nI m := by rw [F 1 (by omega)]; exact W.2.1
  have e6 : ∀ v, M 6 v = M0 6 v := fun v => by rw [F 6 (by omega)]
  have hm40 := W.2.2.2.1
  have S := fnd_spec (fun k => decide ((gdf (dC M0 n m) k).toInt = v ∧ 0 < l k)) m 0
  intro d
  induction d with
  | zero =>
    intro i hi hj
    have := of_decide_eq_true (S.2.2.2 (by show nx (dC M0 n m) l v < 0 + m; omega))
    exact absurd this (hj _ (by have : nx (dC M0 n m) l v < m := hx; show nx (dC M0 n m) l v < i; omega))
  | succ d ih =>
    intro i hi hj
    have c := C.1 i (show i < m by omega)
    have go : ¬ ((gdf (dC M0 n m) i).toInt = v ∧ 0 < l i) → gx_OK X 27 2 [.ref 3, .ref 1, .int (nI v), .int (nI (i + 1))] [] M P := fun q => ih (i + 1) (by omega) (fun j h => by
      by_cases z : j = i
      · rw [z]; exact q
      · exact hj j (by omega))
    refine gx_wp_ok 40 false _ _ _ _ ?_
    simp only [gx_w_np, gx_w_p, ne_eq, not_false_eq_true, gx_wp, gx_step, gx_cnd, gb0, gb1, Classical.not_not, List.getD_cons_zero, List.getD_cons_succ, List.set_cons_zero, List.set_cons_succ, List.length_cons, List.length_nil, Nat.reduceAdd, Nat.reduceLT, Nat.reduceLeDiff, Nat.reduceEqDiff, Bool.and_false, Bool.and_true, Bool.true_and, Bool.false_and, Bool.false_eq_true, if_false, if_true, ite_true, ite_false, Fin.isValue, Fin.val_zero, Fin.val_one, Fin.val_two, gz0, gz1, gz2, gz3, List.take_succ_cons, List.take_zero, List.drop_succ_cons, List.drop_zero, List.reverse_cons, List.reverse_nil, List.nil_append, List.cons_append, gx_nx, Int32.reduceToInt, Int.reduceToNat, Int.toNat_zero, Int.toNat_one, Int.reduceLT, Int.reduceLE, Int.ofNat_zero, Int.reduceNeg, Int.le_refl, and_self, List.getElem?_cons_zero, List.getElem?_cons_succ, true_and, and_true, Nat.reduceSub, List.replicate, List.append_nil, Nat.reduceLeDiff, Nat.le_add_left, Nat.zero_le, Nat.zero_add, gf2_21, gf2_96, gf2_99, gk_iconst_0, gk_iconst_1, gk_iconst_m1, gn27, gr27, gv27, gi27_0, gi27_1, gi27_2, gi27_3, gi27_4, gi27_7, gi27_10, gi27_11, gi27_14, gi27_15, gi27_16, gi27_17, gi27_20, gi27_21, gi27_24, gi27_25, gi27_26, gi27_29, gi27_30, gi27_31, gi27_34, gi27_37, gi27_38, gl0, gl1, gl2, gl3, gl4, gl5, gl6, gl7, gl8, gl9, gl10, gl11, gl12, gl13, gl14, gl15, gl16, gl17, gl18, gl19, gl20, gl21, gl22, gl23, gl24, gl25, gl26, gl27, gl28, gl29, gl30, gl31, gl32, gl33, gl34, gl35, gl36, gl37, gl38, gl39, gl40, gl41, gl42, gl43, gl44, gl45, gl46, gl47, gl48, gl49, gl50, gl51, gl52, gl53, gl54, gl55, gl56, gl57]
    simp (disch := first | decide | omega) only [gx_w_np, gx_w_p, Int32.reduceToInt, Int.toNat_natCast, if_true, if_false, nI_1, nI_pred, i_nI, ite_true, ite_false, Int.reduceToNat, Nat.reduceEqDiff, Nat.reduceAdd, e8, e6, i_le, i_eq]
    refine ⟨fun q => absurd q (by omega), fun _ => ⟨by omega, fun q => go (fun h => q h.1), fun q => ⟨by omega, fun q2 => go (fun h => by omega), fun q2 => ?_⟩⟩⟩
    have := fnd_uq (p := fun k => decide ((gdf (dC M0 n m) k).toInt = v ∧ 0 < l k)) (d := m) (i := 0) (r := i) (by omega) (by omega) (fun j _ h => decide_eq_false (hj j h)) (decide_eq_true ⟨q, by omega⟩)
    have e : nx (dC M0 n m) l v = i := this
    rw [e] at h1
    exact h1
set_option maxRecDepth 100000 in
set_option maxHeartbeats 4000000 in
theorem s_leastArcFrom {X : gx_X} {M0 M : gx_M} {n m v : Nat} {l u : Nat → Int} {P : Option Value → gx_M → Prop} (hv : v < 10) (W : gg_W M0 n m) (F : pf M0 M) (C : cv M (dC M0 n m) l u) (hx : nx (dC M0 n m) l v < m)
    (h1 : P (some (.int (nI (nx (dC M0 n m) l v)))) M) : gx_C X 27 [.ref 3, .ref 1, .int (nI v)] M P := by
  refine gx_C_wp 20 ?_
  simp only [gx_w_np, gx_w_p, ne_eq, not_false_eq_true, gx_wp, gx_step, gx_cnd, gb0, gb1, Classical.not_not, List.getD_cons_zero, List.getD_cons_succ, List.set_cons_zero, List.set_cons_succ, List.length_cons, List.length_nil, Nat.reduceAdd, Nat.reduceLT, Nat.reduceLeDiff, Nat.reduceEqDiff, Bool.and_false, Bool.and_true, Bool.true_and, Bool.false_and, Bool.false_eq_true, if_false, if_true, ite_true, ite_false, Fin.isValue, Fin.val_zero, Fin.val_one, Fin.val_two, gz0, gz1, gz2, gz3, List.take_succ_cons, List.take_zero, List.drop_succ_cons, List.drop_zero, List.reverse_cons, List.reverse_nil, List.nil_append, List.cons_append, gx_nx, Int32.reduceToInt, Int.reduceToNat, Int.toNat_zero, Int.toNat_one, Int.reduceLT, Int.reduceLE, Int.ofNat_zero, Int.reduceNeg, Int.le_refl, and_self, List.getElem?_cons_zero, List.getElem?_cons_succ, true_and, and_true, Nat.reduceSub, List.replicate, List.append_nil, Nat.reduceLeDiff, Nat.le_add_left, Nat.zero_le, Nat.zero_add, gf2_21, gf2_96, gf2_99, gk_iconst_0, gk_iconst_1, gk_iconst_m1, gn27, gr27, gv27, gi27_0, gi27_1, gi27_2, gi27_3, gi27_4, gi27_7, gi27_10, gi27_11, gi27_14, gi27_15, gi27_16, gi27_17, gi27_20, gi27_21, gi27_24, gi27_25, gi27_26, gi27_29, gi27_30, gi27_31, gi27_34, gi27_37, gi27_38, gl0, gl1, gl2, gl3, gl4, gl5, gl6, gl7, gl8, gl9, gl10, gl11, gl12, gl13, gl14, gl15, gl16, gl17, gl18, gl19, gl20, gl21, gl22, gl23, gl24, gl25, gl26, gl27, gl28, gl29, gl30, gl31, gl32, gl33, gl34, gl35, gl36, gl37, gl38, gl39, gl40, gl41, gl42, gl43, gl44, gl45, gl46, gl47, gl48, gl49, gl50, gl51, gl52, gl53, gl54, gl55, gl56, gl57]
  rw [← nI_0]
  exact l27 hv W F C hx h1 m 0 (by omega) (fun j h => absurd h (by omega))
set_option maxRecDepth 100000 in
set_option maxHeartbeats 4000000 in
theorem l29 {X : gx_X} {M : gx_M} {D : gD} {l u : Nat → Int} {a : Nat → Nat} {b e : Nat} {x0 : Int32} {P : Option Value → gx_M → Prop} (hm40 : gdm D ≤ 40) (he : e ≤ 10) (C : cv M D l u) (hp : ∀ i, i < e → M 27 i = nI (a i) ∧ a i < gdm D)
    (hP : ∀ z : Int32, z.toInt = mn 100000 l a b (e - b) → P (some (.int z)) M) :
    ∀ (d i : Nat) (x : Int32), i + d = e → b ≤ i → x.toInt = mn 100000 l a b (i - b) → gx_OK X 29 6 [.ref 3, .int x0, .int (nI e), .int x, .int (nI i)] [] M P := by
  intro d
  induction d with
  | zero =>
    intro i x hi hb hx
    refine gx_wp_ok 40 false _ _ _ _ ?_
    simp only [gx_w_np, gx_w_p, ne_eq, not_false_eq_true, gx_wp, gx_step, gx_cnd, gb0, gb1, Classical.not_not, List.getD_cons_zero, List.getD_cons_succ, List.set_cons_zero, List.set_cons_succ, List.length_cons, List.length_nil, Nat.reduceAdd, Nat.reduceLT, Nat.reduceLeDiff, Nat.reduceEqDiff, Bool.and_false, Bool.and_true, Bool.true_and, Bool.false_and, Bool.false_eq_true, if_false, if_true, ite_true, ite_false, Fin.isValue, Fin.val_zero, Fin.val_one, Fin.val_two, gz0, gz1, gz2, gz3, List.take_succ_cons, List.take_zero, List.drop_succ_cons, List.drop_zero, List.reverse_cons, List.reverse_nil, List.nil_append, List.cons_append, gx_nx, Int32.reduceToInt, Int.reduceToNat, Int.toNat_zero, Int.toNat_one, Int.reduceLT, Int.reduceLE, Int.ofNat_zero, Int.reduceNeg, Int.le_refl, and_self, List.getElem?_cons_zero, List.getElem?_cons_succ, true_and, and_true, Nat.reduceSub, List.replicate, List.append_nil, Nat.reduceLeDiff, Nat.le_add_left, Nat.zero_le, Nat.zero_add, gc2_105, gf2_21, gf2_30, gk_iconst_1, gm2_102, gn103, gn29, gr103, gr29, gv29, gi29_0, gi29_2, gi29_3, gi29_4, gi29_6, gi29_8, gi29_9, gi29_12, gi29_13, gi29_14, gi29_17, gi29_18, gi29_21, gi29_23, gi29_24, gi29_25, gi29_28, gi29_29, gi29_32, gi29_35, gi29_36, gl0, gl1, gl2, gl3, gl4, gl5, gl6, gl7, gl8, gl9, gl10, gl11, gl12, gl13, gl14, gl15, gl16, gl17, gl18, gl19, gl20, gl21, gl22, gl23, gl24, gl25, gl26, gl27, gl28, gl29, gl30, gl31, gl32, gl33, gl34, gl35, gl36, gl37, gl38, gl39, gl40, gl41, gl42, gl43, gl44, gl45, gl46, gl47, gl48, gl49, gl50, gl51, gl52, gl53, gl54, gl55, gl56, gl57]
    simp (disch := first | decide | omega) only [gx_w_np, gx_w_p, Int32.reduceToInt, Int.toNat_natCast, if_true, if_false, nI_1, nI_pred, i_nI, ite_true, ite_false, Int.reduceToNat, Nat.reduceEqDiff, Nat.reduceAdd, i_le]
    exact ⟨fun _ => hP x (by rw [hx, show i = e by omega]), fun q => absurd (by omega) q⟩
  | succ d ih =>
    intro i x hi hb hx
    obtain ⟨p1, p2⟩ := hp i (by omega)
    have c := C.1 (a i) p2
    have e1 : mn 100000 l a b (i + 1 - b) = if l (a i) < mn 100000 l a b (i - b) then l (a i) else mn 100000 l a b (i - b) := by
      rw [show i + 1 - b = (i - b) + 1 by omega]
      show (if l (a (b + (i - b))) < mn 100000 l a b (i - b) then l (a (b + (i - b))) else mn 100000 l a b (i - b)) = _
      rw [show b + (i - b) = i by omega]
    refine gx_wp_ok 40 false _ _ _ _ ?_
    simp only [gx_w_np, gx_w_p, ne_eq, not_false_eq_true, gx_wp, gx_step, gx_cnd, gb0, gb1, Classical.not_not, List.getD_cons_zero, List.getD_cons_succ, List.set_cons_zero, List.set_cons_succ, List.length_cons, List.length_nil, Nat.reduceAdd, Nat.reduceLT, Nat.reduceLeDiff, Nat.reduceEqDiff, Bool.and_false, Bool.and_true, Bool.true_and, Bool.false_and, Bool.false_eq_true, if_false, if_true, ite_true, ite_false, Fin.isValue, Fin.val_zero, Fin.val_one, Fin.val_two, gz0, gz1, gz2, gz3, List.take_succ_cons, List.take_zero, List.drop_succ_cons, List.drop_zero, List.reverse_cons, List.reverse_nil, List.nil_append, List.cons_append, gx_nx, Int32.reduceToInt, Int.reduceToNat, Int.toNat_zero, Int.toNat_one, Int.reduceLT, Int.reduceLE, Int.ofNat_zero, Int.reduceNeg, Int.le_refl, and_self, List.getElem?_cons_zero, List.getElem?_cons_succ, true_and, and_true, Nat.reduceSub, List.replicate, List.append_nil, Nat.reduceLeDiff, Nat.le_add_left, Nat.zero_le, Nat.zero_add, gc2_105, gf2_21, gf2_30, gk_iconst_1, gm2_102, gn103, gn29, gr103, gr29, gv29, gi29_0, gi29_2, gi29_3, gi29_4, gi29_6, gi29_8, gi29_9, gi29_12, gi29_13, gi29_14, gi29_17, gi29_18, gi29_21, gi29_23, gi29_24, gi29_25, gi29_28, gi29_29, gi29_32, gi29_35, gi29_36, gl0, gl1, gl2, gl3, gl4, gl5, gl6, gl7, gl8, gl9, gl10, gl11, gl12, gl13, gl14, gl15, gl16, gl17, gl18, gl19, gl20, gl21, gl22, gl23, gl24, gl25, gl26, gl27, gl28, gl29, gl30, gl31, gl32, gl33, gl34, gl35, gl36, gl37, gl38, gl39, gl40, gl41, gl42, gl43, gl44, gl45, gl46, gl47, gl48, gl49, gl50, gl51, gl52, gl53, gl54, gl55, gl56, gl57]
    rw [show M 27 (nI i).toInt.toNat = nI (a i) by rw [i_nI (by omega), Int.toNat_natCast]; exact p1]
    simp (disch := first | decide | omega) only [gx_w_np, gx_w_p, Int32.reduceToInt, Int.toNat_natCast, if_true, if_false, nI_1, nI_pred, i_nI, ite_true, ite_false, Int.reduceToNat, Nat.reduceEqDiff, Nat.reduceAdd, i_le]
    refine ⟨fun q => absurd q (by omega), fun _ => ⟨by omega, by omega, ?_⟩⟩
    refine sp_min (fun q => ?_) (fun q => ?_)
    · intro z hz
      cases hz
      refine ih (i + 1) _ (by omega) (by omega) ?_
      rw [e1, c, if_pos (by omega)]
    · intro z hz
      cases hz
      refine ih (i + 1) _ (by omega) (by omega) ?_
      rw [e1, if_neg (by omega), hx]
set_option maxRecDepth 100000 in
set_option maxHeartbeats 4000000 in
theorem s_leastLeft {X : gx_X} {M : gx_M} {D : gD} {l u : Nat → Int} {a : Nat → Nat} {b e : Nat} {P : Option Value → gx_M → Prop} (hm40 : gdm D ≤ 40) (he : e ≤ 10) (hb : b ≤ e) (C : cv M D l u) (hp : ∀ i, i < e → M 27 i = nI (a i) ∧ a i < gdm D)
    (hP : ∀ z : Int32, z.toInt = mn 100000 l a b (e - b) → P (some (.int z)) M) : gx_C X 29 [.ref 3, .int (nI b), .int (nI e)] M P := by
  refine gx_C_wp 20 ?_
  simp only [gx_w_np, gx_w_p, ne_eq, not_false_eq_true, gx_wp, gx_step, gx_cnd, gb0, gb1, Classical.not_not, List.getD_cons_zero, List.getD_cons_succ, List.set_cons_zero, List.set_cons_succ, List.length_cons, List.length_nil, Nat.reduceAdd, Nat.reduceLT, Nat.reduceLeDiff, Nat.reduceEqDiff, Bool.and_false, Bool.and_true, Bool.true_and, Bool.false_and, Bool.false_eq_true, if_false, if_true, ite_true, ite_false, Fin.isValue, Fin.val_zero, Fin.val_one, Fin.val_two, gz0, gz1, gz2, gz3, List.take_succ_cons, List.take_zero, List.drop_succ_cons, List.drop_zero, List.reverse_cons, List.reverse_nil, List.nil_append, List.cons_append, gx_nx, Int32.reduceToInt, Int.reduceToNat, Int.toNat_zero, Int.toNat_one, Int.reduceLT, Int.reduceLE, Int.ofNat_zero, Int.reduceNeg, Int.le_refl, and_self, List.getElem?_cons_zero, List.getElem?_cons_succ, true_and, and_true, Nat.reduceSub, List.replicate, List.append_nil, Nat.reduceLeDiff, Nat.le_add_left, Nat.zero_le, Nat.zero_add, gc2_105, gf2_21, gf2_30, gk_iconst_1, gm2_102, gn103, gn29, gr103, gr29, gv29, gi29_0, gi29_2, gi29_3, gi29_4, gi29_6, gi29_8, gi29_9, gi29_12, gi29_13, gi29_14, gi29_17, gi29_18, gi29_21, gi29_23, gi29_24, gi29_25, gi29_28, gi29_29, gi29_32, gi29_35, gi29_36, gl0, gl1, gl2, gl3, gl4, gl5, gl6, gl7, gl8, gl9, gl10, gl11, gl12, gl13, gl14, gl15, gl16, gl17, gl18, gl19, gl20, gl21, gl22, gl23, gl24, gl25, gl26, gl27, gl28, gl29, gl30, gl31, gl32, gl33, gl34, gl35, gl36, gl37, gl38, gl39, gl40, gl41, gl42, gl43, gl44, gl45, gl46, gl47, gl48, gl49, gl50, gl51, gl52, gl53, gl54, gl55, gl56, gl57]
  exact l29 hm40 he C hp hP (e - b) b 100000 (by omega) (Nat.le_refl _) (by rw [Nat.sub_self]; show (100000 : Int32).toInt = 100000; decide)
theorem tk_rng {l : Nat → Int} {a : Nat → Nat} {x : Int} {b : Nat} (hx : 0 ≤ x) (k : Nat) : ∀ d, l k - x * d ≤ tk l a x b d k ∧ tk l a x b d k ≤ l k
  | 0 => by show l k - x * 0 ≤ l k ∧ l k ≤ l k; omega
  | d + 1 => by
    have ih := tk_rng (l := l) (a := a) (b := b) hx k d
    show l k - x * ((d + 1 : Nat) : Int) ≤ (if k = a (b + d) then tk l a x b d k - x else tk l a x b d k) ∧ _
    have e : x * ((d + 1 : Nat) : Int) = x * (d : Int) + x := by rw [show ((d + 1 : Nat) : Int) = (d : Int) + 1 by omega, Int.mul_add, Int.mul_one]
    rw [e]
    by_cases z : k = a (b + d)
    · rw [if_pos z]
      refine ⟨by omega, ?_⟩
      show (if k = a (b + d) then tk l a x b d k - x else tk l a x b d k) ≤ l k
      rw [if_pos z]; omega
    · rw [if_neg z]
      refine ⟨by omega, ?_⟩
      show (if k = a (b + d) then tk l a x b d k - x else tk l a x b d k) ≤ l k
      rw [if_neg z]; exact ih.2
set_option maxRecDepth 100000 in
set_option maxHeartbeats 4000000 in
theorem l30 {X : gx_X} {D : gD} {l u : Nat → Int} {a : Nat → Nat} {b e : Nat} {x x0 : Int32} {P : Option Value → gx_M → Prop} (hm40 : gdm D ≤ 40) (he : e ≤ 10) (hx : 0 ≤ x.toInt ∧ x.toInt ≤ 100000) (hl : ∀ k, k < gdm D → 0 ≤ l k ∧ l k ≤ 1001) {Ma : gx_M} (hp : ∀ i, i < e → Ma 27 i = nI (a i) ∧ a i < gdm D)
    (hP : ∀ M1 : gx_M, (∀ p, p ≠ 24 → M1 p = Ma p) → (∀ k, k < gdm D → (M1 24 k).toInt = tk l a x.toInt b (e - b) k) → P none M1) :
    ∀ (d i : Nat) (M : gx_M), i + d = e → b ≤ i → (∀ p, p ≠ 24 → M p = Ma p) → (∀ k, k < gdm D → (M 24 k).toInt = tk l a x.toInt b (i - b) k) → gx_OK X 30 3 [.ref 3, .int x0, .int (nI e), .int x, .int (nI i)] [] M P := by
  intro d
  induction d with
  | zero =>
    intro i M hi hb F C
    refine gx_wp_ok 40 false _ _ _ _ ?_
    simp only [gx_w_np, gx_w_p, ne_eq, not_false_eq_true, gx_wp, gx_step, gx_cnd, gb0, gb1, Classical.not_not, List.getD_cons_zero, List.getD_cons_succ, List.set_cons_zero, List.set_cons_succ, List.length_cons, List.length_nil, Nat.reduceAdd, Nat.reduceLT, Nat.reduceLeDiff, Nat.reduceEqDiff, Bool.and_false, Bool.and_true, Bool.true_and, Bool.false_and, Bool.false_eq_true, if_false, if_true, ite_true, ite_false, Fin.isValue, Fin.val_zero, Fin.val_one, Fin.val_two, gz0, gz1, gz2, gz3, List.take_succ_cons, List.take_zero, List.drop_succ_cons, List.drop_zero, List.reverse_cons, List.reverse_nil, List.nil_append, List.cons_append, gx_nx, Int32.reduceToInt, Int.reduceToNat, Int.toNat_zero, Int.toNat_one, Int.reduceLT, Int.reduceLE, Int.ofNat_zero, Int.reduceNeg, Int.le_refl, and_self, List.getElem?_cons_zero, List.getElem?_cons_succ, true_and, and_true, Nat.reduceSub, List.replicate, List.append_nil, Nat.reduceLeDiff, Nat.le_add_left, Nat.zero_le, Nat.zero_add, gf2_21, gf2_30, gk_iconst_1, gn30, gr30, gv30, gi30_0, gi30_1, gi30_3, gi30_5, gi30_6, gi30_9, gi30_10, gi30_13, gi30_14, gi30_17, gi30_19, gi30_20, gi30_21, gi30_22, gi30_23, gi30_24, gi30_25, gi30_28, gi30_31, gl0, gl1, gl2, gl3, gl4, gl5, gl6, gl7, gl8, gl9, gl10, gl11, gl12, gl13, gl14, gl15, gl16, gl17, gl18, gl19, gl20, gl21, gl22, gl23, gl24, gl25, gl26, gl27, gl28, gl29, gl30, gl31, gl32, gl33, gl34, gl35, gl36, gl37, gl38, gl39, gl40, gl41, gl42, gl43, gl44, gl45, gl46, gl47, gl48, gl49, gl50, gl51, gl52, gl53, gl54, gl55, gl56, gl57]
    simp (disch := first | decide | omega) only [gx_w_np, gx_w_p, Int32.reduceToInt, Int.toNat_natCast, if_true, if_false, nI_1, nI_pred, i_nI, ite_true, ite_false, Int.reduceToNat, Nat.reduceEqDiff, Nat.reduceAdd, i_le]
    exact ⟨fun _ => hP M F (fun k hk => by rw [C k hk, show i = e by omega]), fun q => absurd (by omega) q⟩
  | succ d ih =>
    intro i M hi hb F C
    obtain ⟨p1, p2⟩ := hp i (by omega)
    have c := C (a i) p2
    have r := tk_rng (l := l) (a := a) (x := x.toInt) (b := b) hx.1 (a i) (i - b)
    have l1 := hl (a i) p2
    have mul : x.toInt * ((i - b : Nat) : Int) ≤ 100000 * 10 := Int.mul_le_mul hx.2 (by omega) (by omega) (by omega)
    have e2 : (M 24 (a i) - x).toInt = (M 24 (a i)).toInt - x.toInt := i_sub (by omega) (by omega)
    refine gx_wp_ok 40 false _ _ _ _ ?_
    simp only [gx_w_np, gx_w_p, ne_eq, not_false_eq_true, gx_wp, gx_step, gx_cnd, gb0, gb1, Classical.not_not, List.getD_cons_zero, List.getD_cons_succ, List.set_cons_zero, List.set_cons_succ, List.length_cons, List.length_nil, Nat.reduceAdd, Nat.reduceLT, Nat.reduceLeDiff, Nat.reduceEqDiff, Bool.and_false, Bool.and_true, Bool.true_and, Bool.false_and, Bool.false_eq_true, if_false, if_true, ite_true, ite_false, Fin.isValue, Fin.val_zero, Fin.val_one, Fin.val_two, gz0, gz1, gz2, gz3, List.take_succ_cons, List.take_zero, List.drop_succ_cons, List.drop_zero, List.reverse_cons, List.reverse_nil, List.nil_append, List.cons_append, gx_nx, Int32.reduceToInt, Int.reduceToNat, Int.toNat_zero, Int.toNat_one, Int.reduceLT, Int.reduceLE, Int.ofNat_zero, Int.reduceNeg, Int.le_refl, and_self, List.getElem?_cons_zero, List.getElem?_cons_succ, true_and, and_true, Nat.reduceSub, List.replicate, List.append_nil, Nat.reduceLeDiff, Nat.le_add_left, Nat.zero_le, Nat.zero_add, gf2_21, gf2_30, gk_iconst_1, gn30, gr30, gv30, gi30_0, gi30_1, gi30_3, gi30_5, gi30_6, gi30_9, gi30_10, gi30_13, gi30_14, gi30_17, gi30_19, gi30_20, gi30_21, gi30_22, gi30_23, gi30_24, gi30_25, gi30_28, gi30_31, gl0, gl1, gl2, gl3, gl4, gl5, gl6, gl7, gl8, gl9, gl10, gl11, gl12, gl13, gl14, gl15, gl16, gl17, gl18, gl19, gl20, gl21, gl22, gl23, gl24, gl25, gl26, gl27, gl28, gl29, gl30, gl31, gl32, gl33, gl34, gl35, gl36, gl37, gl38, gl39, gl40, gl41, gl42, gl43, gl44, gl45, gl46, gl47, gl48, gl49, gl50, gl51, gl52, gl53, gl54, gl55, gl56, gl57]
    rw [show M 27 (nI i).toInt.toNat = nI (a i) by rw [i_nI (by omega), Int.toNat_natCast, F 27 (by decide)]; exact p1]
    simp (disch := first | decide | omega) only [gx_w_np, gx_w_p, Int32.reduceToInt, Int.toNat_natCast, if_true, if_false, nI_1, nI_pred, i_nI, ite_true, ite_false, Int.reduceToNat, Nat.reduceEqDiff, Nat.reduceAdd, i_le]
    refine ⟨fun q => absurd q (by omega), fun _ => ⟨by omega, by omega, by omega, ih (i + 1) _ (by omega) (by omega) (fun p h => ?_) (fun k hk => ?_)⟩⟩
    · rw [← F p h]; funext j; rw [gx_w_np h]
    · rw [gx_w_p, show i + 1 - b = (i - b) + 1 by omega]
      show _ = (if k = a (b + (i - b)) then tk l a x.toInt b (i - b) k - x.toInt else tk l a x.toInt b (i - b) k)
      rw [show b + (i - b) = i by omega]
      by_cases z : k = a i
      · rw [if_pos z, if_pos z, e2, c, z]
      · rw [if_neg z, if_neg z]; exact C k hk
set_option maxRecDepth 100000 in
set_option maxHeartbeats 4000000 in
theorem s_takeFromPath {X : gx_X} {M : gx_M} {D : gD} {l u : Nat → Int} {a : Nat → Nat} {b e : Nat} {x : Int32} {P : Option Value → gx_M → Prop} (hm40 : gdm D ≤ 40) (he : e ≤ 10) (hb : b ≤ e) (hx : 0 ≤ x.toInt ∧ x.toInt ≤ 100000) (hl : ∀ k, k < gdm D → 0 ≤ l k ∧ l k ≤ 1001) (C : cv M D l u) (hp : ∀ i, i < e → M 27 i = nI (a i) ∧ a i < gdm D)
    (hP : ∀ M1 : gx_M, (∀ p, p ≠ 24 → M1 p = M p) → (∀ k, k < gdm D → (M1 24 k).toInt = tk l a x.toInt b (e - b) k) → P none M1) : gx_C X 30 [.ref 3, .int (nI b), .int (nI e), .int x] M P := by
  refine gx_C_wp 20 ?_
  simp only [gx_w_np, gx_w_p, ne_eq, not_false_eq_true, gx_wp, gx_step, gx_cnd, gb0, gb1, Classical.not_not, List.getD_cons_zero, List.getD_cons_succ, List.set_cons_zero, List.set_cons_succ, List.length_cons, List.length_nil, Nat.reduceAdd, Nat.reduceLT, Nat.reduceLeDiff, Nat.reduceEqDiff, Bool.and_false, Bool.and_true, Bool.true_and, Bool.false_and, Bool.false_eq_true, if_false, if_true, ite_true, ite_false, Fin.isValue, Fin.val_zero, Fin.val_one, Fin.val_two, gz0, gz1, gz2, gz3, List.take_succ_cons, List.take_zero, List.drop_succ_cons, List.drop_zero, List.reverse_cons, List.reverse_nil, List.nil_append, List.cons_append, gx_nx, Int32.reduceToInt, Int.reduceToNat, Int.toNat_zero, Int.toNat_one, Int.reduceLT, Int.reduceLE, Int.ofNat_zero, Int.reduceNeg, Int.le_refl, and_self, List.getElem?_cons_zero, List.getElem?_cons_succ, true_and, and_true, Nat.reduceSub, List.replicate, List.append_nil, Nat.reduceLeDiff, Nat.le_add_left, Nat.zero_le, Nat.zero_add, gf2_21, gf2_30, gk_iconst_1, gn30, gr30, gv30, gi30_0, gi30_1, gi30_3, gi30_5, gi30_6, gi30_9, gi30_10, gi30_13, gi30_14, gi30_17, gi30_19, gi30_20, gi30_21, gi30_22, gi30_23, gi30_24, gi30_25, gi30_28, gi30_31, gl0, gl1, gl2, gl3, gl4, gl5, gl6, gl7, gl8, gl9, gl10, gl11, gl12, gl13, gl14, gl15, gl16, gl17, gl18, gl19, gl20, gl21, gl22, gl23, gl24, gl25, gl26, gl27, gl28, gl29, gl30, gl31, gl32, gl33, gl34, gl35, gl36, gl37, gl38, gl39, gl40, gl41, gl42, gl43, gl44, gl45, gl46, gl47, gl48, gl49, gl50, gl51, gl52, gl53, gl54, gl55, gl56, gl57]
  exact l30 (u := u) hm40 he hx hl hp hP (e - b) b M (by omega) (Nat.le_refl _) (fun _ _ => rfl) (fun k hk => by rw [Nat.sub_self]; exact C.1 k hk)
set_option maxRecDepth 100000 in
set_option maxHeartbeats 4000000 in
theorem sp_abs {X : gx_X} {M : gx_M} {x : Int32} {P : Option Value → gx_M → Prop} (h1 : 0 ≤ x.toInt → P (some (.int x)) M) (h2 : x.toInt < 0 → P (some (.int (-x))) M) : gx_C X 101 [.int x] M P := by
  refine gx_C_wp 20 ?_
  simp only [gx_w_np, gx_w_p, ne_eq, not_false_eq_true, gx_wp, gx_step, gx_cnd, gb0, gb1, Classical.not_not, List.getD_cons_zero, List.getD_cons_succ, List.set_cons_zero, List.set_cons_succ, List.length_cons, List.length_nil, Nat.reduceAdd, Nat.reduceLT, Nat.reduceLeDiff, Nat.reduceEqDiff, Bool.and_false, Bool.and_true, Bool.true_and, Bool.false_and, Bool.false_eq_true, if_false, if_true, ite_true, ite_false, Fin.isValue, Fin.val_zero, Fin.val_one, Fin.val_two, gz0, gz1, gz2, gz3, List.take_succ_cons, List.take_zero, List.drop_succ_cons, List.drop_zero, List.reverse_cons, List.reverse_nil, List.nil_append, List.cons_append, gx_nx, Int32.reduceToInt, Int.reduceToNat, Int.toNat_zero, Int.toNat_one, Int.reduceLT, Int.reduceLE, Int.ofNat_zero, Int.reduceNeg, Int.le_refl, and_self, List.getElem?_cons_zero, List.getElem?_cons_succ, true_and, and_true, Nat.reduceSub, List.replicate, List.append_nil, Nat.reduceLeDiff, Nat.le_add_left, Nat.zero_le, Nat.zero_add, gn101, gr101, gv101, gi101_0, gi101_1, gi101_4, gi101_5, gi101_6, gi101_9, gi101_10, gl0, gl1, gl2, gl3, gl4, gl5, gl6, gl7, gl8, gl9, gl10, gl11, gl12, gl13, gl14, gl15, gl16, gl17, gl18, gl19, gl20, gl21, gl22, gl23, gl24, gl25, gl26, gl27, gl28, gl29, gl30, gl31, gl32, gl33, gl34, gl35, gl36, gl37, gl38, gl39, gl40, gl41, gl42, gl43, gl44, gl45, gl46, gl47, gl48, gl49, gl50, gl51, gl52, gl53, gl54, gl55, gl56, gl57]
  simp (disch := first | decide | omega) only [gx_w_np, gx_w_p, Int32.reduceToInt, Int.toNat_natCast, if_true, if_false, nI_1, nI_pred, i_nI, ite_true, ite_false, Int.reduceToNat, Nat.reduceEqDiff, Nat.reduceAdd, i_lt, i_le]
  exact ⟨fun q => h1 (by omega), fun q => h2 (by omega)⟩
