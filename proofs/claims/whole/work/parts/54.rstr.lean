/-! The reference's streams: its small methods. -/
/-- the reference holds this graph -/
def ag (M : gx_M) (D : gD) : Prop := M 34 0 = nI (gdn D) ∧ M 34 3 = nI (gdm D) ∧ (∀ v, v < gdn D → M 35 v = gdk D v) ∧ ∀ k, k < gdm D → M 37 k = gdf D k ∧ M 38 k = gdt D k ∧ (M 41 k = 0 ↔ gdl D k = false)
/-- all but the streams stays -/
def rp (M0 M : gx_M) : Prop := ∀ p j, p < 51 ∨ 57 < p → ¬ (p = 34 ∧ j = 21) → M p j = M0 p j
theorem rp_t {M M1 M2 : gx_M} (F : rp M M1) (G : rp M1 M2) : rp M M2 := fun p j a b => by rw [G p j a b, F p j a b]
theorem ag_rp {M M1 : gx_M} {D : gD} (F : rp M M1) (A : ag M D) : ag M1 D := by
  obtain ⟨a1, a2, a3, a4⟩ := A
  refine ⟨by rw [F 34 0 (by omega) (by omega)]; exact a1, by rw [F 34 3 (by omega) (by omega)]; exact a2, fun v hv => by rw [F 35 v (by omega) (by omega)]; exact a3 v hv, fun k hk => ?_⟩
  rw [F 37 k (by omega) (by omega), F 38 k (by omega) (by omega), F 41 k (by omega) (by omega)]; exact a4 k hk
def rv (M : gx_M) (D : gD) (l u : Nat → Int) : Prop := (∀ k, k < gdm D → (M 54 k).toInt = l k) ∧ ∀ v, v < gdn D → (M 55 v).toInt = u v
set_option maxRecDepth 100000 in
set_option maxHeartbeats 4000000 in
theorem l77 {X : gx_X} {M : gx_M} {D : gD} {l u : Nat → Int} {P : Option Value → gx_M → Prop} (O : gok D) (A : ag M D) (C : rv M D l u)
    (h1 : ∀ s, s = lg D u → s < gdn D → P (some (.int (nI s))) M) (h0 : ¬ lg D u < gdn D → P (some (.int (-1))) M) :
    ∀ (d i : Nat), i + d = gdn D → (∀ j, j < i → ¬ (gdk D j = 1 ∧ 0 < u j)) → gx_OK X 77 2 [.ref 34, .int (nI i)] [] M P := by
  have e0 := A.1
  have hn10 := O.1
  intro d
  induction d with
  | zero =>
    intro i hi hj
    refine gx_wp_ok 40 false _ _ _ _ ?_
    simp only [gx_w_np, gx_w_p, ne_eq, not_false_eq_true, gx_wp, gx_step, gx_cnd, gb0, gb1, Classical.not_not, List.getD_cons_zero, List.getD_cons_succ, List.set_cons_zero, List.set_cons_succ, List.length_cons, List.length_nil, Nat.reduceAdd, Nat.reduceLT, Nat.reduceLeDiff, Nat.reduceEqDiff, Bool.and_false, Bool.and_true, Bool.true_and, Bool.false_and, Bool.false_eq_true, if_false, if_true, ite_true, ite_false, Fin.isValue, Fin.val_zero, Fin.val_one, Fin.val_two, gz0, gz1, gz2, gz3, List.take_succ_cons, List.take_zero, List.drop_succ_cons, List.drop_zero, List.reverse_cons, List.reverse_nil, List.nil_append, List.cons_append, gx_nx, Int32.reduceToInt, Int.reduceToNat, Int.toNat_zero, Int.toNat_one, Int.reduceLT, Int.reduceLE, Int.ofNat_zero, Int.reduceNeg, Int.le_refl, and_self, List.getElem?_cons_zero, List.getElem?_cons_succ, true_and, and_true, Nat.reduceSub, List.replicate, List.append_nil, Nat.reduceLeDiff, Nat.le_add_left, Nat.zero_le, Nat.zero_add, gf4_7, gf4_71, gf4_91, gk_iconst_0, gk_iconst_1, gk_iconst_m1, gn77, gr77, gv77, gi77_0, gi77_1, gi77_2, gi77_3, gi77_4, gi77_7, gi77_10, gi77_11, gi77_14, gi77_15, gi77_16, gi77_17, gi77_20, gi77_21, gi77_24, gi77_25, gi77_26, gi77_29, gi77_30, gi77_31, gi77_34, gi77_37, gi77_38, gl0, gl1, gl2, gl3, gl4, gl5, gl6, gl7, gl8, gl9, gl10, gl11, gl12, gl13, gl14, gl15, gl16, gl17, gl18, gl19, gl20, gl21, gl22, gl23, gl24, gl25, gl26, gl27, gl28, gl29, gl30, gl31, gl32, gl33, gl34, gl35, gl36, gl37, gl38, gl39, gl40, gl41, gl42, gl43, gl44, gl45, gl46, gl47, gl48, gl49, gl50, gl51, gl52, gl53, gl54, gl55, gl56, gl57]
    simp (disch := first | decide | omega) only [gx_w_np, gx_w_p, Int32.reduceToInt, Int.toNat_natCast, if_true, if_false, nI_1, nI_pred, i_nI, ite_true, ite_false, Int.reduceToNat, Nat.reduceEqDiff, Nat.reduceAdd, e0, i_le]
    refine ⟨fun _ => h0 (fun q => ?_), fun q => absurd (by omega) q⟩
    have R := lg_ok (D := D) (u := u) q
    exact hj _ (by omega) ⟨R.2.1, R.2.2⟩
  | succ d ih =>
    intro i hi hj
    have c := C.2 i (by omega)
    have e35 := A.2.2.1 i (by omega)
    have nx : ¬ (gdk D i = 1 ∧ 0 < u i) → gx_OK X 77 2 [.ref 34, .int (nI (i + 1))] [] M P := fun q => ih (i + 1) (by omega) (fun j h => by
      by_cases z : j = i
      · rw [z]; exact q
      · exact hj j (by omega))
    refine gx_wp_ok 40 false _ _ _ _ ?_
    simp only [gx_w_np, gx_w_p, ne_eq, not_false_eq_true, gx_wp, gx_step, gx_cnd, gb0, gb1, Classical.not_not, List.getD_cons_zero, List.getD_cons_succ, List.set_cons_zero, List.set_cons_succ, List.length_cons, List.length_nil, Nat.reduceAdd, Nat.reduceLT, Nat.reduceLeDiff, Nat.reduceEqDiff, Bool.and_false, Bool.and_true, Bool.true_and, Bool.false_and, Bool.false_eq_true, if_false, if_true, ite_true, ite_false, Fin.isValue, Fin.val_zero, Fin.val_one, Fin.val_two, gz0, gz1, gz2, gz3, List.take_succ_cons, List.take_zero, List.drop_succ_cons, List.drop_zero, List.reverse_cons, List.reverse_nil, List.nil_append, List.cons_append, gx_nx, Int32.reduceToInt, Int.reduceToNat, Int.toNat_zero, Int.toNat_one, Int.reduceLT, Int.reduceLE, Int.ofNat_zero, Int.reduceNeg, Int.le_refl, and_self, List.getElem?_cons_zero, List.getElem?_cons_succ, true_and, and_true, Nat.reduceSub, List.replicate, List.append_nil, Nat.reduceLeDiff, Nat.le_add_left, Nat.zero_le, Nat.zero_add, gf4_7, gf4_71, gf4_91, gk_iconst_0, gk_iconst_1, gk_iconst_m1, gn77, gr77, gv77, gi77_0, gi77_1, gi77_2, gi77_3, gi77_4, gi77_7, gi77_10, gi77_11, gi77_14, gi77_15, gi77_16, gi77_17, gi77_20, gi77_21, gi77_24, gi77_25, gi77_26, gi77_29, gi77_30, gi77_31, gi77_34, gi77_37, gi77_38, gl0, gl1, gl2, gl3, gl4, gl5, gl6, gl7, gl8, gl9, gl10, gl11, gl12, gl13, gl14, gl15, gl16, gl17, gl18, gl19, gl20, gl21, gl22, gl23, gl24, gl25, gl26, gl27, gl28, gl29, gl30, gl31, gl32, gl33, gl34, gl35, gl36, gl37, gl38, gl39, gl40, gl41, gl42, gl43, gl44, gl45, gl46, gl47, gl48, gl49, gl50, gl51, gl52, gl53, gl54, gl55, gl56, gl57]
    simp (disch := first | decide | omega) only [gx_w_np, gx_w_p, Int32.reduceToInt, Int.toNat_natCast, if_true, if_false, nI_1, nI_pred, i_nI, ite_true, ite_false, Int.reduceToNat, Nat.reduceEqDiff, Nat.reduceAdd, e0, e35, i_le]
    refine ⟨fun q => absurd q (by omega), fun _ => ⟨by omega, fun q => nx (fun h => q h.1), fun q => ⟨by omega, fun q2 => nx (fun h => by omega), fun q2 => h1 i ?_ (by omega)⟩⟩⟩
    have := fnd_uq (p := fun v => decide (gdk D v = 1 ∧ 0 < u v)) (d := gdn D) (i := 0) (r := i) (by omega) (by omega) (fun j _ h => decide_eq_false (hj j h)) (decide_eq_true ⟨q, by omega⟩)
    exact this.symm
set_option maxRecDepth 100000 in
set_option maxHeartbeats 4000000 in
theorem sr_firstGiver {X : gx_X} {M : gx_M} {D : gD} {l u : Nat → Int} {P : Option Value → gx_M → Prop} (O : gok D) (A : ag M D) (C : rv M D l u)
    (h1 : ∀ s, s = lg D u → s < gdn D → P (some (.int (nI s))) M) (h0 : ¬ lg D u < gdn D → P (some (.int (-1))) M) : gx_C X 77 [.ref 34] M P := by
  refine gx_C_wp 20 ?_
  simp only [gx_w_np, gx_w_p, ne_eq, not_false_eq_true, gx_wp, gx_step, gx_cnd, gb0, gb1, Classical.not_not, List.getD_cons_zero, List.getD_cons_succ, List.set_cons_zero, List.set_cons_succ, List.length_cons, List.length_nil, Nat.reduceAdd, Nat.reduceLT, Nat.reduceLeDiff, Nat.reduceEqDiff, Bool.and_false, Bool.and_true, Bool.true_and, Bool.false_and, Bool.false_eq_true, if_false, if_true, ite_true, ite_false, Fin.isValue, Fin.val_zero, Fin.val_one, Fin.val_two, gz0, gz1, gz2, gz3, List.take_succ_cons, List.take_zero, List.drop_succ_cons, List.drop_zero, List.reverse_cons, List.reverse_nil, List.nil_append, List.cons_append, gx_nx, Int32.reduceToInt, Int.reduceToNat, Int.toNat_zero, Int.toNat_one, Int.reduceLT, Int.reduceLE, Int.ofNat_zero, Int.reduceNeg, Int.le_refl, and_self, List.getElem?_cons_zero, List.getElem?_cons_succ, true_and, and_true, Nat.reduceSub, List.replicate, List.append_nil, Nat.reduceLeDiff, Nat.le_add_left, Nat.zero_le, Nat.zero_add, gf4_7, gf4_71, gf4_91, gk_iconst_0, gk_iconst_1, gk_iconst_m1, gn77, gr77, gv77, gi77_0, gi77_1, gi77_2, gi77_3, gi77_4, gi77_7, gi77_10, gi77_11, gi77_14, gi77_15, gi77_16, gi77_17, gi77_20, gi77_21, gi77_24, gi77_25, gi77_26, gi77_29, gi77_30, gi77_31, gi77_34, gi77_37, gi77_38, gl0, gl1, gl2, gl3, gl4, gl5, gl6, gl7, gl8, gl9, gl10, gl11, gl12, gl13, gl14, gl15, gl16, gl17, gl18, gl19, gl20, gl21, gl22, gl23, gl24, gl25, gl26, gl27, gl28, gl29, gl30, gl31, gl32, gl33, gl34, gl35, gl36, gl37, gl38, gl39, gl40, gl41, gl42, gl43, gl44, gl45, gl46, gl47, gl48, gl49, gl50, gl51, gl52, gl53, gl54, gl55, gl56, gl57]
  rw [← nI_0]
  exact l77 O A C h1 h0 (gdn D) 0 (by omega) (fun j h => absurd h (by omega))
set_option maxRecDepth 100000 in
set_option maxHeartbeats 4000000 in
theorem l73 {X : gx_X} {M : gx_M} {D : gD} {l u : Nat → Int} {v : Nat} {P : Option Value → gx_M → Prop} (hv : v < 10) (O : gok D) (V : vs D l u) (A : ag M D) (C : rv M D l u) (hgo : 0 < go_ D l v) (h1 : P (some (.int (nI (nx D l v)))) M) :
    ∀ (d i : Nat), i + d = nx D l v → gx_OK X 73 2 [.ref 34, .int (nI v), .int (nI i)] [] M P := by
  obtain ⟨k1, k2, k3, k4, k5, k6, k7⟩ := nx_ok O V hgo
  have hm40 := O.2.1
  intro d
  induction d with
  | zero =>
    intro i hi
    have ei : i = nx D l v := by omega
    subst ei
    obtain ⟨a1, a2, a3⟩ := A.2.2.2 _ k1
    have c := C.1 _ k1
    refine gx_wp_ok 40 false _ _ _ _ ?_
    simp only [gx_w_np, gx_w_p, ne_eq, not_false_eq_true, gx_wp, gx_step, gx_cnd, gb0, gb1, Classical.not_not, List.getD_cons_zero, List.getD_cons_succ, List.set_cons_zero, List.set_cons_succ, List.length_cons, List.length_nil, Nat.reduceAdd, Nat.reduceLT, Nat.reduceLeDiff, Nat.reduceEqDiff, Bool.and_false, Bool.and_true, Bool.true_and, Bool.false_and, Bool.false_eq_true, if_false, if_true, ite_true, ite_false, Fin.isValue, Fin.val_zero, Fin.val_one, Fin.val_two, gz0, gz1, gz2, gz3, List.take_succ_cons, List.take_zero, List.drop_succ_cons, List.drop_zero, List.reverse_cons, List.reverse_nil, List.nil_append, List.cons_append, gx_nx, Int32.reduceToInt, Int.reduceToNat, Int.toNat_zero, Int.toNat_one, Int.reduceLT, Int.reduceLE, Int.ofNat_zero, Int.reduceNeg, Int.le_refl, and_self, List.getElem?_cons_zero, List.getElem?_cons_succ, true_and, and_true, Nat.reduceSub, List.replicate, List.append_nil, Nat.reduceLeDiff, Nat.le_add_left, Nat.zero_le, Nat.zero_add, gf4_16, gf4_28, gf4_68, gk_iconst_0, gk_iconst_1, gn73, gr73, gv73, gi73_0, gi73_1, gi73_2, gi73_3, gi73_6, gi73_7, gi73_8, gi73_11, gi73_12, gi73_15, gi73_16, gi73_17, gi73_18, gi73_21, gi73_22, gi73_25, gi73_26, gi73_27, gi73_30, gi73_33, gi73_36, gi73_37, gl0, gl1, gl2, gl3, gl4, gl5, gl6, gl7, gl8, gl9, gl10, gl11, gl12, gl13, gl14, gl15, gl16, gl17, gl18, gl19, gl20, gl21, gl22, gl23, gl24, gl25, gl26, gl27, gl28, gl29, gl30, gl31, gl32, gl33, gl34, gl35, gl36, gl37, gl38, gl39, gl40, gl41, gl42, gl43, gl44, gl45, gl46, gl47, gl48, gl49, gl50, gl51, gl52, gl53, gl54, gl55, gl56, gl57]
    simp (disch := first | decide | omega) only [gx_w_np, gx_w_p, Int32.reduceToInt, Int.toNat_natCast, if_true, if_false, nI_1, nI_pred, i_nI, ite_true, ite_false, Int.reduceToNat, Nat.reduceEqDiff, Nat.reduceAdd, a1]
    have n41 : ¬ M 41 (nx D l v) = 0 := fun q => by have := a3.mp q; rw [k4] at this; cases this
    have e37 : gdf D (nx D l v) = nI v := i_eq.mpr (by rw [i_nI (by omega)]; exact k2)
    refine ⟨by omega, fun q => absurd q n41, fun _ => ⟨by omega, fun q => absurd e37 q, fun _ => ⟨by omega, fun _ => h1, fun q => ?_⟩⟩⟩
    have z0 : (0 : Int32).toInt = 0 := by decide
    rw [q, z0] at c; omega
  | succ d ih =>
    intro i hi
    obtain ⟨a1, a2, a3⟩ := A.2.2.2 i (by omega)
    have c := C.1 i (by omega)
    have n := k7 i (by omega)
    have lr := V.1 i (by omega)
    have z0 : (0 : Int32).toInt = 0 := by decide
    refine gx_wp_ok 40 false _ _ _ _ ?_
    simp only [gx_w_np, gx_w_p, ne_eq, not_false_eq_true, gx_wp, gx_step, gx_cnd, gb0, gb1, Classical.not_not, List.getD_cons_zero, List.getD_cons_succ, List.set_cons_zero, List.set_cons_succ, List.length_cons, List.length_nil, Nat.reduceAdd, Nat.reduceLT, Nat.reduceLeDiff, Nat.reduceEqDiff, Bool.and_false, Bool.and_true, Bool.true_and, Bool.false_and, Bool.false_eq_true, if_false, if_true, ite_true, ite_false, Fin.isValue, Fin.val_zero, Fin.val_one, Fin.val_two, gz0, gz1, gz2, gz3, List.take_succ_cons, List.take_zero, List.drop_succ_cons, List.drop_zero, List.reverse_cons, List.reverse_nil, List.nil_append, List.cons_append, gx_nx, Int32.reduceToInt, Int.reduceToNat, Int.toNat_zero, Int.toNat_one, Int.reduceLT, Int.reduceLE, Int.ofNat_zero, Int.reduceNeg, Int.le_refl, and_self, List.getElem?_cons_zero, List.getElem?_cons_succ, true_and, and_true, Nat.reduceSub, List.replicate, List.append_nil, Nat.reduceLeDiff, Nat.le_add_left, Nat.zero_le, Nat.zero_add, gf4_16, gf4_28, gf4_68, gk_iconst_0, gk_iconst_1, gn73, gr73, gv73, gi73_0, gi73_1, gi73_2, gi73_3, gi73_6, gi73_7, gi73_8, gi73_11, gi73_12, gi73_15, gi73_16, gi73_17, gi73_18, gi73_21, gi73_22, gi73_25, gi73_26, gi73_27, gi73_30, gi73_33, gi73_36, gi73_37, gl0, gl1, gl2, gl3, gl4, gl5, gl6, gl7, gl8, gl9, gl10, gl11, gl12, gl13, gl14, gl15, gl16, gl17, gl18, gl19, gl20, gl21, gl22, gl23, gl24, gl25, gl26, gl27, gl28, gl29, gl30, gl31, gl32, gl33, gl34, gl35, gl36, gl37, gl38, gl39, gl40, gl41, gl42, gl43, gl44, gl45, gl46, gl47, gl48, gl49, gl50, gl51, gl52, gl53, gl54, gl55, gl56, gl57]
    simp (disch := first | decide | omega) only [gx_w_np, gx_w_p, Int32.reduceToInt, Int.toNat_natCast, if_true, if_false, nI_1, nI_pred, i_nI, ite_true, ite_false, Int.reduceToNat, Nat.reduceEqDiff, Nat.reduceAdd, a1]
    have go := ih (i + 1) (by omega)
    refine ⟨by omega, fun _ => go, fun _ => ⟨by omega, fun _ => go, fun q => ⟨by omega, fun q2 => ?_, fun _ => go⟩⟩⟩
    exfalso
    refine n ⟨by rw [q, i_nI (by omega)], ?_⟩
    have : l i ≠ 0 := fun z => q2 (i_eq.mpr (by rw [z0]; omega))
    omega
set_option maxRecDepth 100000 in
set_option maxHeartbeats 4000000 in
theorem sr_nextArc {X : gx_X} {M : gx_M} {D : gD} {l u : Nat → Int} {v : Nat} {P : Option Value → gx_M → Prop} (hv : v < 10) (O : gok D) (V : vs D l u) (A : ag M D) (C : rv M D l u) (hgo : 0 < go_ D l v) (h1 : P (some (.int (nI (nx D l v)))) M) : gx_C X 73 [.ref 34, .int (nI v)] M P := by
  refine gx_C_wp 20 ?_
  simp only [gx_w_np, gx_w_p, ne_eq, not_false_eq_true, gx_wp, gx_step, gx_cnd, gb0, gb1, Classical.not_not, List.getD_cons_zero, List.getD_cons_succ, List.set_cons_zero, List.set_cons_succ, List.length_cons, List.length_nil, Nat.reduceAdd, Nat.reduceLT, Nat.reduceLeDiff, Nat.reduceEqDiff, Bool.and_false, Bool.and_true, Bool.true_and, Bool.false_and, Bool.false_eq_true, if_false, if_true, ite_true, ite_false, Fin.isValue, Fin.val_zero, Fin.val_one, Fin.val_two, gz0, gz1, gz2, gz3, List.take_succ_cons, List.take_zero, List.drop_succ_cons, List.drop_zero, List.reverse_cons, List.reverse_nil, List.nil_append, List.cons_append, gx_nx, Int32.reduceToInt, Int.reduceToNat, Int.toNat_zero, Int.toNat_one, Int.reduceLT, Int.reduceLE, Int.ofNat_zero, Int.reduceNeg, Int.le_refl, and_self, List.getElem?_cons_zero, List.getElem?_cons_succ, true_and, and_true, Nat.reduceSub, List.replicate, List.append_nil, Nat.reduceLeDiff, Nat.le_add_left, Nat.zero_le, Nat.zero_add, gf4_16, gf4_28, gf4_68, gk_iconst_0, gk_iconst_1, gn73, gr73, gv73, gi73_0, gi73_1, gi73_2, gi73_3, gi73_6, gi73_7, gi73_8, gi73_11, gi73_12, gi73_15, gi73_16, gi73_17, gi73_18, gi73_21, gi73_22, gi73_25, gi73_26, gi73_27, gi73_30, gi73_33, gi73_36, gi73_37, gl0, gl1, gl2, gl3, gl4, gl5, gl6, gl7, gl8, gl9, gl10, gl11, gl12, gl13, gl14, gl15, gl16, gl17, gl18, gl19, gl20, gl21, gl22, gl23, gl24, gl25, gl26, gl27, gl28, gl29, gl30, gl31, gl32, gl33, gl34, gl35, gl36, gl37, gl38, gl39, gl40, gl41, gl42, gl43, gl44, gl45, gl46, gl47, gl48, gl49, gl50, gl51, gl52, gl53, gl54, gl55, gl56, gl57]
  rw [← nI_0]
  exact l73 hv O V A C hgo h1 (nx D l v) 0 (by omega)
set_option maxRecDepth 100000 in
set_option maxHeartbeats 4000000 in
theorem l74 {X : gx_X} {M : gx_M} {D : gD} {l u : Nat → Int} {a : Nat → Nat} {b e : Nat} {x0 : Int32} {P : Option Value → gx_M → Prop} (hm40 : gdm D ≤ 40) (he : e ≤ 10) (C : rv M D l u) (hp : ∀ i, i < e → M 56 i = nI (a i) ∧ a i < gdm D)
    (hP : ∀ z : Int32, z.toInt = mn 1000000 l a b (e - b) → P (some (.int z)) M) :
    ∀ (d i : Nat) (x : Int32), i + d = e → b ≤ i → x.toInt = mn 1000000 l a b (i - b) → gx_OK X 74 6 [.ref 34, .int x0, .int (nI e), .int x, .int (nI i)] [] M P := by
  intro d
  induction d with
  | zero =>
    intro i x hi hb hx
    refine gx_wp_ok 40 false _ _ _ _ ?_
    simp only [gx_w_np, gx_w_p, ne_eq, not_false_eq_true, gx_wp, gx_step, gx_cnd, gb0, gb1, Classical.not_not, List.getD_cons_zero, List.getD_cons_succ, List.set_cons_zero, List.set_cons_succ, List.length_cons, List.length_nil, Nat.reduceAdd, Nat.reduceLT, Nat.reduceLeDiff, Nat.reduceEqDiff, Bool.and_false, Bool.and_true, Bool.true_and, Bool.false_and, Bool.false_eq_true, if_false, if_true, ite_true, ite_false, Fin.isValue, Fin.val_zero, Fin.val_one, Fin.val_two, gz0, gz1, gz2, gz3, List.take_succ_cons, List.take_zero, List.drop_succ_cons, List.drop_zero, List.reverse_cons, List.reverse_nil, List.nil_append, List.cons_append, gx_nx, Int32.reduceToInt, Int.reduceToNat, Int.toNat_zero, Int.toNat_one, Int.reduceLT, Int.reduceLE, Int.ofNat_zero, Int.reduceNeg, Int.le_refl, and_self, List.getElem?_cons_zero, List.getElem?_cons_succ, true_and, and_true, Nat.reduceSub, List.replicate, List.append_nil, Nat.reduceLeDiff, Nat.le_add_left, Nat.zero_le, Nat.zero_add, gc4_94, gf4_68, gf4_74, gk_iconst_1, gn74, gr74, gv74, gi74_0, gi74_2, gi74_3, gi74_4, gi74_6, gi74_8, gi74_9, gi74_12, gi74_13, gi74_16, gi74_17, gi74_20, gi74_22, gi74_23, gi74_24, gi74_25, gi74_28, gi74_29, gi74_32, gi74_33, gi74_36, gi74_38, gi74_39, gi74_40, gi74_43, gi74_44, gi74_45, gi74_48, gi74_51, gi74_52, gl0, gl1, gl2, gl3, gl4, gl5, gl6, gl7, gl8, gl9, gl10, gl11, gl12, gl13, gl14, gl15, gl16, gl17, gl18, gl19, gl20, gl21, gl22, gl23, gl24, gl25, gl26, gl27, gl28, gl29, gl30, gl31, gl32, gl33, gl34, gl35, gl36, gl37, gl38, gl39, gl40, gl41, gl42, gl43, gl44, gl45, gl46, gl47, gl48, gl49, gl50, gl51, gl52, gl53, gl54, gl55, gl56, gl57]
    simp (disch := first | decide | omega) only [gx_w_np, gx_w_p, Int32.reduceToInt, Int.toNat_natCast, if_true, if_false, nI_1, nI_pred, i_nI, ite_true, ite_false, Int.reduceToNat, Nat.reduceEqDiff, Nat.reduceAdd, i_le]
    exact ⟨fun _ => hP x (by rw [hx, show i = e by omega]), fun q => absurd (by omega) q⟩
  | succ d ih =>
    intro i x hi hb hx
    obtain ⟨p1, p2⟩ := hp i (by omega)
    have c := C.1 (a i) p2
    have e1 : mn 1000000 l a b (i + 1 - b) = if l (a i) < mn 1000000 l a b (i - b) then l (a i) else mn 1000000 l a b (i - b) := by
      rw [show i + 1 - b = (i - b) + 1 by omega]
      show (if l (a (b + (i - b))) < mn 1000000 l a b (i - b) then l (a (b + (i - b))) else mn 1000000 l a b (i - b)) = _
      rw [show b + (i - b) = i by omega]
    refine gx_wp_ok 40 false _ _ _ _ ?_
    simp only [gx_w_np, gx_w_p, ne_eq, not_false_eq_true, gx_wp, gx_step, gx_cnd, gb0, gb1, Classical.not_not, List.getD_cons_zero, List.getD_cons_succ, List.set_cons_zero, List.set_cons_succ, List.length_cons, List.length_nil, Nat.reduceAdd, Nat.reduceLT, Nat.reduceLeDiff, Nat.reduceEqDiff, Bool.and_false, Bool.and_true, Bool.true_and, Bool.false_and, Bool.false_eq_true, if_false, if_true, ite_true, ite_false, Fin.isValue, Fin.val_zero, Fin.val_one, Fin.val_two, gz0, gz1, gz2, gz3, List.take_succ_cons, List.take_zero, List.drop_succ_cons, List.drop_zero, List.reverse_cons, List.reverse_nil, List.nil_append, List.cons_append, gx_nx, Int32.reduceToInt, Int.reduceToNat, Int.toNat_zero, Int.toNat_one, Int.reduceLT, Int.reduceLE, Int.ofNat_zero, Int.reduceNeg, Int.le_refl, and_self, List.getElem?_cons_zero, List.getElem?_cons_succ, true_and, and_true, Nat.reduceSub, List.replicate, List.append_nil, Nat.reduceLeDiff, Nat.le_add_left, Nat.zero_le, Nat.zero_add, gc4_94, gf4_68, gf4_74, gk_iconst_1, gn74, gr74, gv74, gi74_0, gi74_2, gi74_3, gi74_4, gi74_6, gi74_8, gi74_9, gi74_12, gi74_13, gi74_16, gi74_17, gi74_20, gi74_22, gi74_23, gi74_24, gi74_25, gi74_28, gi74_29, gi74_32, gi74_33, gi74_36, gi74_38, gi74_39, gi74_40, gi74_43, gi74_44, gi74_45, gi74_48, gi74_51, gi74_52, gl0, gl1, gl2, gl3, gl4, gl5, gl6, gl7, gl8, gl9, gl10, gl11, gl12, gl13, gl14, gl15, gl16, gl17, gl18, gl19, gl20, gl21, gl22, gl23, gl24, gl25, gl26, gl27, gl28, gl29, gl30, gl31, gl32, gl33, gl34, gl35, gl36, gl37, gl38, gl39, gl40, gl41, gl42, gl43, gl44, gl45, gl46, gl47, gl48, gl49, gl50, gl51, gl52, gl53, gl54, gl55, gl56, gl57]
    rw [show M 56 (nI i).toInt.toNat = nI (a i) by rw [i_nI (by omega), Int.toNat_natCast]; exact p1]
    simp (disch := first | decide | omega) only [gx_w_np, gx_w_p, Int32.reduceToInt, Int.toNat_natCast, if_true, if_false, nI_1, nI_pred, i_nI, ite_true, ite_false, Int.reduceToNat, Nat.reduceEqDiff, Nat.reduceAdd, i_le]
    refine ⟨fun q => absurd q (by omega), fun _ => ⟨by omega, by omega, fun q => ih (i + 1) _ (by omega) (by omega) ?_, fun q => ⟨by omega, by omega, ih (i + 1) _ (by omega) (by omega) ?_⟩⟩⟩
    · rw [e1, if_neg (by omega), hx]
    · rw [e1, c, if_pos (by omega)]
set_option maxRecDepth 100000 in
set_option maxHeartbeats 4000000 in
theorem sr_leastOf {X : gx_X} {M : gx_M} {D : gD} {l u : Nat → Int} {a : Nat → Nat} {b e : Nat} {P : Option Value → gx_M → Prop} (hm40 : gdm D ≤ 40) (he : e ≤ 10) (hb : b < e) (hl : ∀ k, k < gdm D → l k ≤ 1001) (C : rv M D l u) (hp : ∀ i, i < e → M 56 i = nI (a i) ∧ a i < gdm D)
    (hP : ∀ z : Int32, z.toInt = mn 100000 l a b (e - b) → P (some (.int z)) M) : gx_C X 74 [.ref 34, .int (nI b), .int (nI e)] M P := by
  refine gx_C_wp 20 ?_
  simp only [gx_w_np, gx_w_p, ne_eq, not_false_eq_true, gx_wp, gx_step, gx_cnd, gb0, gb1, Classical.not_not, List.getD_cons_zero, List.getD_cons_succ, List.set_cons_zero, List.set_cons_succ, List.length_cons, List.length_nil, Nat.reduceAdd, Nat.reduceLT, Nat.reduceLeDiff, Nat.reduceEqDiff, Bool.and_false, Bool.and_true, Bool.true_and, Bool.false_and, Bool.false_eq_true, if_false, if_true, ite_true, ite_false, Fin.isValue, Fin.val_zero, Fin.val_one, Fin.val_two, gz0, gz1, gz2, gz3, List.take_succ_cons, List.take_zero, List.drop_succ_cons, List.drop_zero, List.reverse_cons, List.reverse_nil, List.nil_append, List.cons_append, gx_nx, Int32.reduceToInt, Int.reduceToNat, Int.toNat_zero, Int.toNat_one, Int.reduceLT, Int.reduceLE, Int.ofNat_zero, Int.reduceNeg, Int.le_refl, and_self, List.getElem?_cons_zero, List.getElem?_cons_succ, true_and, and_true, Nat.reduceSub, List.replicate, List.append_nil, Nat.reduceLeDiff, Nat.le_add_left, Nat.zero_le, Nat.zero_add, gc4_94, gf4_68, gf4_74, gk_iconst_1, gn74, gr74, gv74, gi74_0, gi74_2, gi74_3, gi74_4, gi74_6, gi74_8, gi74_9, gi74_12, gi74_13, gi74_16, gi74_17, gi74_20, gi74_22, gi74_23, gi74_24, gi74_25, gi74_28, gi74_29, gi74_32, gi74_33, gi74_36, gi74_38, gi74_39, gi74_40, gi74_43, gi74_44, gi74_45, gi74_48, gi74_51, gi74_52, gl0, gl1, gl2, gl3, gl4, gl5, gl6, gl7, gl8, gl9, gl10, gl11, gl12, gl13, gl14, gl15, gl16, gl17, gl18, gl19, gl20, gl21, gl22, gl23, gl24, gl25, gl26, gl27, gl28, gl29, gl30, gl31, gl32, gl33, gl34, gl35, gl36, gl37, gl38, gl39, gl40, gl41, gl42, gl43, gl44, gl45, gl46, gl47, gl48, gl49, gl50, gl51, gl52, gl53, gl54, gl55, gl56, gl57]
  refine l74 hm40 he C hp (fun z hz => hP z ?_) (e - b) b 1000000 (by omega) (Nat.le_refl _) (by rw [Nat.sub_self]; show (1000000 : Int32).toInt = 1000000; decide)
  rw [hz]
  refine mn_F (by omega) (fun i hi => ?_)
  have := hl _ (hp (b + i) (by omega)).2
  omega
set_option maxRecDepth 100000 in
set_option maxHeartbeats 4000000 in
theorem l75 {X : gx_X} {D : gD} {l : Nat → Int} {a : Nat → Nat} {b e : Nat} {x x0 : Int32} {P : Option Value → gx_M → Prop} (hm40 : gdm D ≤ 40) (he : e ≤ 10) (hx : 0 ≤ x.toInt ∧ x.toInt ≤ 100000) (hl : ∀ k, k < gdm D → 0 ≤ l k ∧ l k ≤ 1001) {Ma : gx_M} (hp : ∀ i, i < e → Ma 56 i = nI (a i) ∧ a i < gdm D)
    (hP : ∀ M1 : gx_M, (∀ p, p ≠ 54 → M1 p = Ma p) → (∀ k, k < gdm D → (M1 54 k).toInt = tk l a x.toInt b (e - b) k) → P none M1) :
    ∀ (d i : Nat) (M : gx_M), i + d = e → b ≤ i → (∀ p, p ≠ 54 → M p = Ma p) → (∀ k, k < gdm D → (M 54 k).toInt = tk l a x.toInt b (i - b) k) → gx_OK X 75 3 [.ref 34, .int x0, .int (nI e), .int x, .int (nI i)] [] M P := by
  intro d
  induction d with
  | zero =>
    intro i M hi hb F C
    refine gx_wp_ok 40 false _ _ _ _ ?_
    simp only [gx_w_np, gx_w_p, ne_eq, not_false_eq_true, gx_wp, gx_step, gx_cnd, gb0, gb1, Classical.not_not, List.getD_cons_zero, List.getD_cons_succ, List.set_cons_zero, List.set_cons_succ, List.length_cons, List.length_nil, Nat.reduceAdd, Nat.reduceLT, Nat.reduceLeDiff, Nat.reduceEqDiff, Bool.and_false, Bool.and_true, Bool.true_and, Bool.false_and, Bool.false_eq_true, if_false, if_true, ite_true, ite_false, Fin.isValue, Fin.val_zero, Fin.val_one, Fin.val_two, gz0, gz1, gz2, gz3, List.take_succ_cons, List.take_zero, List.drop_succ_cons, List.drop_zero, List.reverse_cons, List.reverse_nil, List.nil_append, List.cons_append, gx_nx, Int32.reduceToInt, Int.reduceToNat, Int.toNat_zero, Int.toNat_one, Int.reduceLT, Int.reduceLE, Int.ofNat_zero, Int.reduceNeg, Int.le_refl, and_self, List.getElem?_cons_zero, List.getElem?_cons_succ, true_and, and_true, Nat.reduceSub, List.replicate, List.append_nil, Nat.reduceLeDiff, Nat.le_add_left, Nat.zero_le, Nat.zero_add, gf4_68, gf4_74, gk_iconst_1, gn75, gr75, gv75, gi75_0, gi75_1, gi75_3, gi75_5, gi75_6, gi75_9, gi75_10, gi75_13, gi75_14, gi75_17, gi75_19, gi75_20, gi75_21, gi75_22, gi75_23, gi75_24, gi75_25, gi75_28, gi75_31, gl0, gl1, gl2, gl3, gl4, gl5, gl6, gl7, gl8, gl9, gl10, gl11, gl12, gl13, gl14, gl15, gl16, gl17, gl18, gl19, gl20, gl21, gl22, gl23, gl24, gl25, gl26, gl27, gl28, gl29, gl30, gl31, gl32, gl33, gl34, gl35, gl36, gl37, gl38, gl39, gl40, gl41, gl42, gl43, gl44, gl45, gl46, gl47, gl48, gl49, gl50, gl51, gl52, gl53, gl54, gl55, gl56, gl57]
    simp (disch := first | decide | omega) only [gx_w_np, gx_w_p, Int32.reduceToInt, Int.toNat_natCast, if_true, if_false, nI_1, nI_pred, i_nI, ite_true, ite_false, Int.reduceToNat, Nat.reduceEqDiff, Nat.reduceAdd, i_le]
    exact ⟨fun _ => hP M F (fun k hk => by rw [C k hk, show i = e by omega]), fun q => absurd (by omega) q⟩
  | succ d ih =>
    intro i M hi hb F C
    obtain ⟨p1, p2⟩ := hp i (by omega)
    have c := C (a i) p2
    have r := tk_rng (l := l) (a := a) (x := x.toInt) (b := b) hx.1 (a i) (i - b)
    have l1 := hl (a i) p2
    have mul : x.toInt * ((i - b : Nat) : Int) ≤ 100000 * 10 := Int.mul_le_mul hx.2 (by omega) (by omega) (by omega)
    have e2 : (M 54 (a i) - x).toInt = (M 54 (a i)).toInt - x.toInt := i_sub (by omega) (by omega)
    refine gx_wp_ok 40 false _ _ _ _ ?_
    simp only [gx_w_np, gx_w_p, ne_eq, not_false_eq_true, gx_wp, gx_step, gx_cnd, gb0, gb1, Classical.not_not, List.getD_cons_zero, List.getD_cons_succ, List.set_cons_zero, List.set_cons_succ, List.length_cons, List.length_nil, Nat.reduceAdd, Nat.reduceLT, Nat.reduceLeDiff, Nat.reduceEqDiff, Bool.and_false, Bool.and_true, Bool.true_and, Bool.false_and, Bool.false_eq_true, if_false, if_true, ite_true, ite_false, Fin.isValue, Fin.val_zero, Fin.val_one, Fin.val_two, gz0, gz1, gz2, gz3, List.take_succ_cons, List.take_zero, List.drop_succ_cons, List.drop_zero, List.reverse_cons, List.reverse_nil, List.nil_append, List.cons_append, gx_nx, Int32.reduceToInt, Int.reduceToNat, Int.toNat_zero, Int.toNat_one, Int.reduceLT, Int.reduceLE, Int.ofNat_zero, Int.reduceNeg, Int.le_refl, and_self, List.getElem?_cons_zero, List.getElem?_cons_succ, true_and, and_true, Nat.reduceSub, List.replicate, List.append_nil, Nat.reduceLeDiff, Nat.le_add_left, Nat.zero_le, Nat.zero_add, gf4_68, gf4_74, gk_iconst_1, gn75, gr75, gv75, gi75_0, gi75_1, gi75_3, gi75_5, gi75_6, gi75_9, gi75_10, gi75_13, gi75_14, gi75_17, gi75_19, gi75_20, gi75_21, gi75_22, gi75_23, gi75_24, gi75_25, gi75_28, gi75_31, gl0, gl1, gl2, gl3, gl4, gl5, gl6, gl7, gl8, gl9, gl10, gl11, gl12, gl13, gl14, gl15, gl16, gl17, gl18, gl19, gl20, gl21, gl22, gl23, gl24, gl25, gl26, gl27, gl28, gl29, gl30, gl31, gl32, gl33, gl34, gl35, gl36, gl37, gl38, gl39, gl40, gl41, gl42, gl43, gl44, gl45, gl46, gl47, gl48, gl49, gl50, gl51, gl52, gl53, gl54, gl55, gl56, gl57]
    rw [show M 56 (nI i).toInt.toNat = nI (a i) by rw [i_nI (by omega), Int.toNat_natCast, F 56 (by decide)]; exact p1]
    simp (disch := first | decide | omega) only [gx_w_np, gx_w_p, Int32.reduceToInt, Int.toNat_natCast, if_true, if_false, nI_1, nI_pred, i_nI, ite_true, ite_false, Int.reduceToNat, Nat.reduceEqDiff, Nat.reduceAdd, i_le]
    refine ⟨fun q => absurd q (by omega), fun _ => ⟨by omega, by omega, by omega, ih (i + 1) _ (by omega) (by omega) (fun p h => ?_) (fun k hk => ?_)⟩⟩
    · rw [← F p h]; funext j; rw [gx_w_np h]
    · rw [gx_w_p, show i + 1 - b = (i - b) + 1 by omega]
      show _ = (if k = a (b + (i - b)) then tk l a x.toInt b (i - b) k - x.toInt else tk l a x.toInt b (i - b) k)
      rw [show b + (i - b) = i by omega]
      by_cases z : k = a i
      · rw [if_pos z, if_pos z, e2, c, z]
      · rw [if_neg z, if_neg z]; exact C k hk
set_option maxRecDepth 100000 in
set_option maxHeartbeats 4000000 in
theorem sr_lessen {X : gx_X} {M : gx_M} {D : gD} {l u : Nat → Int} {a : Nat → Nat} {b e : Nat} {x : Int32} {P : Option Value → gx_M → Prop} (hm40 : gdm D ≤ 40) (he : e ≤ 10) (hb : b ≤ e) (hx : 0 ≤ x.toInt ∧ x.toInt ≤ 100000) (hl : ∀ k, k < gdm D → 0 ≤ l k ∧ l k ≤ 1001) (C : rv M D l u) (hp : ∀ i, i < e → M 56 i = nI (a i) ∧ a i < gdm D)
    (hP : ∀ M1 : gx_M, (∀ p, p ≠ 54 → M1 p = M p) → (∀ k, k < gdm D → (M1 54 k).toInt = tk l a x.toInt b (e - b) k) → P none M1) : gx_C X 75 [.ref 34, .int (nI b), .int (nI e), .int x] M P := by
  refine gx_C_wp 20 ?_
  simp only [gx_w_np, gx_w_p, ne_eq, not_false_eq_true, gx_wp, gx_step, gx_cnd, gb0, gb1, Classical.not_not, List.getD_cons_zero, List.getD_cons_succ, List.set_cons_zero, List.set_cons_succ, List.length_cons, List.length_nil, Nat.reduceAdd, Nat.reduceLT, Nat.reduceLeDiff, Nat.reduceEqDiff, Bool.and_false, Bool.and_true, Bool.true_and, Bool.false_and, Bool.false_eq_true, if_false, if_true, ite_true, ite_false, Fin.isValue, Fin.val_zero, Fin.val_one, Fin.val_two, gz0, gz1, gz2, gz3, List.take_succ_cons, List.take_zero, List.drop_succ_cons, List.drop_zero, List.reverse_cons, List.reverse_nil, List.nil_append, List.cons_append, gx_nx, Int32.reduceToInt, Int.reduceToNat, Int.toNat_zero, Int.toNat_one, Int.reduceLT, Int.reduceLE, Int.ofNat_zero, Int.reduceNeg, Int.le_refl, and_self, List.getElem?_cons_zero, List.getElem?_cons_succ, true_and, and_true, Nat.reduceSub, List.replicate, List.append_nil, Nat.reduceLeDiff, Nat.le_add_left, Nat.zero_le, Nat.zero_add, gf4_68, gf4_74, gk_iconst_1, gn75, gr75, gv75, gi75_0, gi75_1, gi75_3, gi75_5, gi75_6, gi75_9, gi75_10, gi75_13, gi75_14, gi75_17, gi75_19, gi75_20, gi75_21, gi75_22, gi75_23, gi75_24, gi75_25, gi75_28, gi75_31, gl0, gl1, gl2, gl3, gl4, gl5, gl6, gl7, gl8, gl9, gl10, gl11, gl12, gl13, gl14, gl15, gl16, gl17, gl18, gl19, gl20, gl21, gl22, gl23, gl24, gl25, gl26, gl27, gl28, gl29, gl30, gl31, gl32, gl33, gl34, gl35, gl36, gl37, gl38, gl39, gl40, gl41, gl42, gl43, gl44, gl45, gl46, gl47, gl48, gl49, gl50, gl51, gl52, gl53, gl54, gl55, gl56, gl57]
  exact l75 hm40 he hx hl hp hP (e - b) b M (by omega) (Nat.le_refl _) (fun _ _ => rfl) (fun k hk => by rw [Nat.sub_self]; exact C.1 k hk)
/-- the flow of a way, as the reference holds it -/
def rw_ (M : gx_M) (D : gD) (w : Nat) (f : Nat → Int) : Prop := ∀ k, k < gdm D → gdl D k = true → (M 49 (40 * w + k)).toInt = f k
set_option maxRecDepth 100000 in
set_option maxHeartbeats 4000000 in
theorem l71 {X : gx_X} {M : gx_M} {D : gD} {f : Nat → Int} {w v : Nat} {P : Option Value → gx_M → Prop} (hw : w ≤ 1) (hv : v < 10) (O : gok D) (A : ag M D) (F : FL D f) (H : rw_ M D w f)
    (hP : ∀ z : Int32, z.toInt = co_ D (l0 f) v → P (some (.int z)) M) :
    ∀ (d i : Nat) (x : Int32), i + d = gdm D → x.toInt = sm_ i (fun k => if (gdt D k).toInt = v then l0 f k else 0) → gx_OK X 71 5 [.ref 34, .int (nI w), .int (nI v), .int x, .int (nI i)] [] M P := by
  have hm40 := O.2.1
  have e3 := A.2.1
  intro d
  induction d with
  | zero =>
    intro i x hi hx
    refine gx_wp_ok 40 false _ _ _ _ ?_
    simp only [gx_w_np, gx_w_p, ne_eq, not_false_eq_true, gx_wp, gx_step, gx_cnd, gb0, gb1, Classical.not_not, List.getD_cons_zero, List.getD_cons_succ, List.set_cons_zero, List.set_cons_succ, List.length_cons, List.length_nil, Nat.reduceAdd, Nat.reduceLT, Nat.reduceLeDiff, Nat.reduceEqDiff, Bool.and_false, Bool.and_true, Bool.true_and, Bool.false_and, Bool.false_eq_true, if_false, if_true, ite_true, ite_false, Fin.isValue, Fin.val_zero, Fin.val_one, Fin.val_two, gz0, gz1, gz2, gz3, List.take_succ_cons, List.take_zero, List.drop_succ_cons, List.drop_zero, List.reverse_cons, List.reverse_nil, List.nil_append, List.cons_append, gx_nx, Int32.reduceToInt, Int.reduceToNat, Int.toNat_zero, Int.toNat_one, Int.reduceLT, Int.reduceLE, Int.ofNat_zero, Int.reduceNeg, Int.le_refl, and_self, List.getElem?_cons_zero, List.getElem?_cons_succ, true_and, and_true, Nat.reduceSub, List.replicate, List.append_nil, Nat.reduceLeDiff, Nat.le_add_left, Nat.zero_le, Nat.zero_add, gf4_19, gf4_28, gf4_53, gf4_84, gk_bipush_40, gk_iconst_0, gk_iconst_1, gn71, gr71, gv71, gi71_0, gi71_1, gi71_2, gi71_3, gi71_5, gi71_7, gi71_8, gi71_11, gi71_14, gi71_15, gi71_16, gi71_19, gi71_21, gi71_22, gi71_25, gi71_26, gi71_29, gi71_31, gi71_32, gi71_33, gi71_36, gi71_37, gi71_40, gi71_42, gi71_43, gi71_44, gi71_46, gi71_47, gi71_48, gi71_51, gi71_52, gi71_53, gi71_54, gi71_57, gi71_60, gi71_61, gl0, gl1, gl2, gl3, gl4, gl5, gl6, gl7, gl8, gl9, gl10, gl11, gl12, gl13, gl14, gl15, gl16, gl17, gl18, gl19, gl20, gl21, gl22, gl23, gl24, gl25, gl26, gl27, gl28, gl29, gl30, gl31, gl32, gl33, gl34, gl35, gl36, gl37, gl38, gl39, gl40, gl41, gl42, gl43, gl44, gl45, gl46, gl47, gl48, gl49, gl50, gl51, gl52, gl53, gl54, gl55, gl56, gl57]
    simp (disch := first | decide | omega) only [gx_w_np, gx_w_p, Int32.reduceToInt, Int.toNat_natCast, if_true, if_false, nI_1, nI_pred, i_nI, ite_true, ite_false, Int.reduceToNat, Nat.reduceEqDiff, Nat.reduceAdd, e3, i_le]
    exact ⟨fun _ => hP x (by rw [hx, show i = gdm D by omega]; rfl), fun q => absurd (by omega) q⟩
  | succ d ih =>
    intro i x hi hx
    have r := sm_part (g := l0 f) (c := fun k => (gdt D k).toInt = v) (m := gdm D) (fun k hk => ⟨(l0_rng O F hk).1, (l0_rng O F hk).2.1⟩) i (by omega)
    have lr := l0_rng O F (k := i) (by omega)
    obtain ⟨a1, a2, a3⟩ := A.2.2.2 i (by omega)
    have lk : l0 f i = f i := by unfold l0; rw [if_pos (by omega)]
    have skip : (if (gdt D i).toInt = v then l0 f i else 0) = 0 → gx_OK X 71 5 [.ref 34, .int (nI w), .int (nI v), .int x, .int (nI (i + 1))] [] M P := fun h => ih (i + 1) x (by omega) (by rw [sm_s, h, hx]; omega)
    have e40 : (40 : Int32) * nI w + nI i = nI (40 * w + i) := by rw [show (40 : Int32) = nI 40 by decide, pk_mul, nI_add]
    refine gx_wp_ok 40 false _ _ _ _ ?_
    simp only [gx_w_np, gx_w_p, ne_eq, not_false_eq_true, gx_wp, gx_step, gx_cnd, gb0, gb1, Classical.not_not, List.getD_cons_zero, List.getD_cons_succ, List.set_cons_zero, List.set_cons_succ, List.length_cons, List.length_nil, Nat.reduceAdd, Nat.reduceLT, Nat.reduceLeDiff, Nat.reduceEqDiff, Bool.and_false, Bool.and_true, Bool.true_and, Bool.false_and, Bool.false_eq_true, if_false, if_true, ite_true, ite_false, Fin.isValue, Fin.val_zero, Fin.val_one, Fin.val_two, gz0, gz1, gz2, gz3, List.take_succ_cons, List.take_zero, List.drop_succ_cons, List.drop_zero, List.reverse_cons, List.reverse_nil, List.nil_append, List.cons_append, gx_nx, Int32.reduceToInt, Int.reduceToNat, Int.toNat_zero, Int.toNat_one, Int.reduceLT, Int.reduceLE, Int.ofNat_zero, Int.reduceNeg, Int.le_refl, and_self, List.getElem?_cons_zero, List.getElem?_cons_succ, true_and, and_true, Nat.reduceSub, List.replicate, List.append_nil, Nat.reduceLeDiff, Nat.le_add_left, Nat.zero_le, Nat.zero_add, gf4_19, gf4_28, gf4_53, gf4_84, gk_bipush_40, gk_iconst_0, gk_iconst_1, gn71, gr71, gv71, gi71_0, gi71_1, gi71_2, gi71_3, gi71_5, gi71_7, gi71_8, gi71_11, gi71_14, gi71_15, gi71_16, gi71_19, gi71_21, gi71_22, gi71_25, gi71_26, gi71_29, gi71_31, gi71_32, gi71_33, gi71_36, gi71_37, gi71_40, gi71_42, gi71_43, gi71_44, gi71_46, gi71_47, gi71_48, gi71_51, gi71_52, gi71_53, gi71_54, gi71_57, gi71_60, gi71_61, gl0, gl1, gl2, gl3, gl4, gl5, gl6, gl7, gl8, gl9, gl10, gl11, gl12, gl13, gl14, gl15, gl16, gl17, gl18, gl19, gl20, gl21, gl22, gl23, gl24, gl25, gl26, gl27, gl28, gl29, gl30, gl31, gl32, gl33, gl34, gl35, gl36, gl37, gl38, gl39, gl40, gl41, gl42, gl43, gl44, gl45, gl46, gl47, gl48, gl49, gl50, gl51, gl52, gl53, gl54, gl55, gl56, gl57]
    rw [e40]
    simp (disch := first | decide | omega) only [gx_w_np, gx_w_p, Int32.reduceToInt, Int.toNat_natCast, if_true, if_false, nI_1, nI_pred, i_nI, ite_true, ite_false, Int.reduceToNat, Nat.reduceEqDiff, Nat.reduceAdd, e3, a2, i_le, Int32.add_zero]
    have ev : gdt D i = nI v ↔ (gdt D i).toInt = v := by rw [i_eq, i_nI (by omega)]
    refine ⟨fun q => absurd q (by omega), fun _ => ⟨by omega, fun q => skip ?_, fun q => ⟨by omega, fun q2 => skip (if_neg (fun h => q2 (ev.mpr h))), fun q2 => ⟨by omega, ih (i + 1) _ (by omega) ?_⟩⟩⟩⟩
    · rw [lr.2.2 (a3.mp q)]
      by_cases z : (gdt D i).toInt = v
      · rw [if_pos z]
      · rw [if_neg z]
    · have al : gdl D i = true := by
        cases z : gdl D i with
        | true => rfl
        | false => exact absurd (a3.mpr z) q
      have hf := H i (by omega) al
      rw [sm_s, if_pos (ev.mp q2), i_add (by omega) (by omega), hx, hf, lk]
set_option maxRecDepth 100000 in
set_option maxHeartbeats 4000000 in
theorem sr_comes {X : gx_X} {M : gx_M} {D : gD} {f : Nat → Int} {w v : Nat} {P : Option Value → gx_M → Prop} (hw : w ≤ 1) (hv : v < 10) (O : gok D) (A : ag M D) (F : FL D f) (H : rw_ M D w f)
    (hP : ∀ z : Int32, z.toInt = co_ D (l0 f) v → P (some (.int z)) M) : gx_C X 71 [.ref 34, .int (nI w), .int (nI v)] M P := by
  refine gx_C_wp 20 ?_
  simp only [gx_w_np, gx_w_p, ne_eq, not_false_eq_true, gx_wp, gx_step, gx_cnd, gb0, gb1, Classical.not_not, List.getD_cons_zero, List.getD_cons_succ, List.set_cons_zero, List.set_cons_succ, List.length_cons, List.length_nil, Nat.reduceAdd, Nat.reduceLT, Nat.reduceLeDiff, Nat.reduceEqDiff, Bool.and_false, Bool.and_true, Bool.true_and, Bool.false_and, Bool.false_eq_true, if_false, if_true, ite_true, ite_false, Fin.isValue, Fin.val_zero, Fin.val_one, Fin.val_two, gz0, gz1, gz2, gz3, List.take_succ_cons, List.take_zero, List.drop_succ_cons, List.drop_zero, List.reverse_cons, List.reverse_nil, List.nil_append, List.cons_append, gx_nx, Int32.reduceToInt, Int.reduceToNat, Int.toNat_zero, Int.toNat_one, Int.reduceLT, Int.reduceLE, Int.ofNat_zero, Int.reduceNeg, Int.le_refl, and_self, List.getElem?_cons_zero, List.getElem?_cons_succ, true_and, and_true, Nat.reduceSub, List.replicate, List.append_nil, Nat.reduceLeDiff, Nat.le_add_left, Nat.zero_le, Nat.zero_add, gf4_19, gf4_28, gf4_53, gf4_84, gk_bipush_40, gk_iconst_0, gk_iconst_1, gn71, gr71, gv71, gi71_0, gi71_1, gi71_2, gi71_3, gi71_5, gi71_7, gi71_8, gi71_11, gi71_14, gi71_15, gi71_16, gi71_19, gi71_21, gi71_22, gi71_25, gi71_26, gi71_29, gi71_31, gi71_32, gi71_33, gi71_36, gi71_37, gi71_40, gi71_42, gi71_43, gi71_44, gi71_46, gi71_47, gi71_48, gi71_51, gi71_52, gi71_53, gi71_54, gi71_57, gi71_60, gi71_61, gl0, gl1, gl2, gl3, gl4, gl5, gl6, gl7, gl8, gl9, gl10, gl11, gl12, gl13, gl14, gl15, gl16, gl17, gl18, gl19, gl20, gl21, gl22, gl23, gl24, gl25, gl26, gl27, gl28, gl29, gl30, gl31, gl32, gl33, gl34, gl35, gl36, gl37, gl38, gl39, gl40, gl41, gl42, gl43, gl44, gl45, gl46, gl47, gl48, gl49, gl50, gl51, gl52, gl53, gl54, gl55, gl56, gl57]
  have := l71 (X := X) hw hv O A F H hP (gdm D) 0 0 (by omega) rfl
  rw [nI_0] at this
  exact this
set_option maxRecDepth 100000 in
set_option maxHeartbeats 4000000 in
theorem l72 {X : gx_X} {M : gx_M} {D : gD} {f : Nat → Int} {w v : Nat} {P : Option Value → gx_M → Prop} (hw : w ≤ 1) (hv : v < 10) (O : gok D) (A : ag M D) (F : FL D f) (H : rw_ M D w f)
    (hP : ∀ z : Int32, z.toInt = go_ D (l0 f) v → P (some (.int z)) M) :
    ∀ (d i : Nat) (x : Int32), i + d = gdm D → x.toInt = sm_ i (fun k => if (gdf D k).toInt = v then l0 f k else 0) → gx_OK X 72 5 [.ref 34, .int (nI w), .int (nI v), .int x, .int (nI i)] [] M P := by
  have hm40 := O.2.1
  have e3 := A.2.1
  intro d
  induction d with
  | zero =>
    intro i x hi hx
    refine gx_wp_ok 40 false _ _ _ _ ?_
    simp only [gx_w_np, gx_w_p, ne_eq, not_false_eq_true, gx_wp, gx_step, gx_cnd, gb0, gb1, Classical.not_not, List.getD_cons_zero, List.getD_cons_succ, List.set_cons_zero, List.set_cons_succ, List.length_cons, List.length_nil, Nat.reduceAdd, Nat.reduceLT, Nat.reduceLeDiff, Nat.reduceEqDiff, Bool.and_false, Bool.and_true, Bool.true_and, Bool.false_and, Bool.false_eq_true, if_false, if_true, ite_true, ite_false, Fin.isValue, Fin.val_zero, Fin.val_one, Fin.val_two, gz0, gz1, gz2, gz3, List.take_succ_cons, List.take_zero, List.drop_succ_cons, List.drop_zero, List.reverse_cons, List.reverse_nil, List.nil_append, List.cons_append, gx_nx, Int32.reduceToInt, Int.reduceToNat, Int.toNat_zero, Int.toNat_one, Int.reduceLT, Int.reduceLE, Int.ofNat_zero, Int.reduceNeg, Int.le_refl, and_self, List.getElem?_cons_zero, List.getElem?_cons_succ, true_and, and_true, Nat.reduceSub, List.replicate, List.append_nil, Nat.reduceLeDiff, Nat.le_add_left, Nat.zero_le, Nat.zero_add, gf4_16, gf4_28, gf4_53, gf4_84, gk_bipush_40, gk_iconst_0, gk_iconst_1, gn72, gr72, gv72, gi72_0, gi72_1, gi72_2, gi72_3, gi72_5, gi72_7, gi72_8, gi72_11, gi72_14, gi72_15, gi72_16, gi72_19, gi72_21, gi72_22, gi72_25, gi72_26, gi72_29, gi72_31, gi72_32, gi72_33, gi72_36, gi72_37, gi72_40, gi72_42, gi72_43, gi72_44, gi72_46, gi72_47, gi72_48, gi72_51, gi72_52, gi72_53, gi72_54, gi72_57, gi72_60, gi72_61, gl0, gl1, gl2, gl3, gl4, gl5, gl6, gl7, gl8, gl9, gl10, gl11, gl12, gl13, gl14, gl15, gl16, gl17, gl18, gl19, gl20, gl21, gl22, gl23, gl24, gl25, gl26, gl27, gl28, gl29, gl30, gl31, gl32, gl33, gl34, gl35, gl36, gl37, gl38, gl39, gl40, gl41, gl42, gl43, gl44, gl45, gl46, gl47, gl48, gl49, gl50, gl51, gl52, gl53, gl54, gl55, gl56, gl57]
    simp (disch := first | decide | omega) only [gx_w_np, gx_w_p, Int32.reduceToInt, Int.toNat_natCast, if_true, if_false, nI_1, nI_pred, i_nI, ite_true, ite_false, Int.reduceToNat, Nat.reduceEqDiff, Nat.reduceAdd, e3, i_le]
    exact ⟨fun _ => hP x (by rw [hx, show i = gdm D by omega]; rfl), fun q => absurd (by omega) q⟩
  | succ d ih =>
    intro i x hi hx
    have r := sm_part (g := l0 f) (c := fun k => (gdf D k).toInt = v) (m := gdm D) (fun k hk => ⟨(l0_rng O F hk).1, (l0_rng O F hk).2.1⟩) i (by omega)
    have lr := l0_rng O F (k := i) (by omega)
    obtain ⟨a1, a2, a3⟩ := A.2.2.2 i (by omega)
    have lk : l0 f i = f i := by unfold l0; rw [if_pos (by omega)]
    have skip : (if (gdf D i).toInt = v then l0 f i else 0) = 0 → gx_OK X 72 5 [.ref 34, .int (nI w), .int (nI v), .int x, .int (nI (i + 1))] [] M P := fun h => ih (i + 1) x (by omega) (by rw [sm_s, h, hx]; omega)
    have e40 : (40 : Int32) * nI w + nI i = nI (40 * w + i) := by rw [show (40 : Int32) = nI 40 by decide, pk_mul, nI_add]
    refine gx_wp_ok 40 false _ _ _ _ ?_
    simp only [gx_w_np, gx_w_p, ne_eq, not_false_eq_true, gx_wp, gx_step, gx_cnd, gb0, gb1, Classical.not_not, List.getD_cons_zero, List.getD_cons_succ, List.set_cons_zero, List.set_cons_succ, List.length_cons, List.length_nil, Nat.reduceAdd, Nat.reduceLT, Nat.reduceLeDiff, Nat.reduceEqDiff, Bool.and_false, Bool.and_true, Bool.true_and, Bool.false_and, Bool.false_eq_true, if_false, if_true, ite_true, ite_false, Fin.isValue, Fin.val_zero, Fin.val_one, Fin.val_two, gz0, gz1, gz2, gz3, List.take_succ_cons, List.take_zero, List.drop_succ_cons, List.drop_zero, List.reverse_cons, List.reverse_nil, List.nil_append, List.cons_append, gx_nx, Int32.reduceToInt, Int.reduceToNat, Int.toNat_zero, Int.toNat_one, Int.reduceLT, Int.reduceLE, Int.ofNat_zero, Int.reduceNeg, Int.le_refl, and_self, List.getElem?_cons_zero, List.getElem?_cons_succ, true_and, and_true, Nat.reduceSub, List.replicate, List.append_nil, Nat.reduceLeDiff, Nat.le_add_left, Nat.zero_le, Nat.zero_add, gf4_16, gf4_28, gf4_53, gf4_84, gk_bipush_40, gk_iconst_0, gk_iconst_1, gn72, gr72, gv72, gi72_0, gi72_1, gi72_2, gi72_3, gi72_5, gi72_7, gi72_8, gi72_11, gi72_14, gi72_15, gi72_16, gi72_19, gi72_21, gi72_22, gi72_25, gi72_26, gi72_29, gi72_31, gi72_32, gi72_33, gi72_36, gi72_37, gi72_40, gi72_42, gi72_43, gi72_44, gi72_46, gi72_47, gi72_48, gi72_51, gi72_52, gi72_53, gi72_54, gi72_57, gi72_60, gi72_61, gl0, gl1, gl2, gl3, gl4, gl5, gl6, gl7, gl8, gl9, gl10, gl11, gl12, gl13, gl14, gl15, gl16, gl17, gl18, gl19, gl20, gl21, gl22, gl23, gl24, gl25, gl26, gl27, gl28, gl29, gl30, gl31, gl32, gl33, gl34, gl35, gl36, gl37, gl38, gl39, gl40, gl41, gl42, gl43, gl44, gl45, gl46, gl47, gl48, gl49, gl50, gl51, gl52, gl53, gl54, gl55, gl56, gl57]
    rw [e40]
    simp (disch := first | decide | omega) only [gx_w_np, gx_w_p, Int32.reduceToInt, Int.toNat_natCast, if_true, if_false, nI_1, nI_pred, i_nI, ite_true, ite_false, Int.reduceToNat, Nat.reduceEqDiff, Nat.reduceAdd, e3, a1, i_le, Int32.add_zero]
    have ev : gdf D i = nI v ↔ (gdf D i).toInt = v := by rw [i_eq, i_nI (by omega)]
    refine ⟨fun q => absurd q (by omega), fun _ => ⟨by omega, fun q => skip ?_, fun q => ⟨by omega, fun q2 => skip (if_neg (fun h => q2 (ev.mpr h))), fun q2 => ⟨by omega, ih (i + 1) _ (by omega) ?_⟩⟩⟩⟩
    · rw [lr.2.2 (a3.mp q)]
      by_cases z : (gdf D i).toInt = v
      · rw [if_pos z]
      · rw [if_neg z]
    · have al : gdl D i = true := by
        cases z : gdl D i with
        | true => rfl
        | false => exact absurd (a3.mpr z) q
      have hf := H i (by omega) al
      rw [sm_s, if_pos (ev.mp q2), i_add (by omega) (by omega), hx, hf, lk]
set_option maxRecDepth 100000 in
set_option maxHeartbeats 4000000 in
theorem sr_goes {X : gx_X} {M : gx_M} {D : gD} {f : Nat → Int} {w v : Nat} {P : Option Value → gx_M → Prop} (hw : w ≤ 1) (hv : v < 10) (O : gok D) (A : ag M D) (F : FL D f) (H : rw_ M D w f)
    (hP : ∀ z : Int32, z.toInt = go_ D (l0 f) v → P (some (.int z)) M) : gx_C X 72 [.ref 34, .int (nI w), .int (nI v)] M P := by
  refine gx_C_wp 20 ?_
  simp only [gx_w_np, gx_w_p, ne_eq, not_false_eq_true, gx_wp, gx_step, gx_cnd, gb0, gb1, Classical.not_not, List.getD_cons_zero, List.getD_cons_succ, List.set_cons_zero, List.set_cons_succ, List.length_cons, List.length_nil, Nat.reduceAdd, Nat.reduceLT, Nat.reduceLeDiff, Nat.reduceEqDiff, Bool.and_false, Bool.and_true, Bool.true_and, Bool.false_and, Bool.false_eq_true, if_false, if_true, ite_true, ite_false, Fin.isValue, Fin.val_zero, Fin.val_one, Fin.val_two, gz0, gz1, gz2, gz3, List.take_succ_cons, List.take_zero, List.drop_succ_cons, List.drop_zero, List.reverse_cons, List.reverse_nil, List.nil_append, List.cons_append, gx_nx, Int32.reduceToInt, Int.reduceToNat, Int.toNat_zero, Int.toNat_one, Int.reduceLT, Int.reduceLE, Int.ofNat_zero, Int.reduceNeg, Int.le_refl, and_self, List.getElem?_cons_zero, List.getElem?_cons_succ, true_and, and_true, Nat.reduceSub, List.replicate, List.append_nil, Nat.reduceLeDiff, Nat.le_add_left, Nat.zero_le, Nat.zero_add, gf4_16, gf4_28, gf4_53, gf4_84, gk_bipush_40, gk_iconst_0, gk_iconst_1, gn72, gr72, gv72, gi72_0, gi72_1, gi72_2, gi72_3, gi72_5, gi72_7, gi72_8, gi72_11, gi72_14, gi72_15, gi72_16, gi72_19, gi72_21, gi72_22, gi72_25, gi72_26, gi72_29, gi72_31, gi72_32, gi72_33, gi72_36, gi72_37, gi72_40, gi72_42, gi72_43, gi72_44, gi72_46, gi72_47, gi72_48, gi72_51, gi72_52, gi72_53, gi72_54, gi72_57, gi72_60, gi72_61, gl0, gl1, gl2, gl3, gl4, gl5, gl6, gl7, gl8, gl9, gl10, gl11, gl12, gl13, gl14, gl15, gl16, gl17, gl18, gl19, gl20, gl21, gl22, gl23, gl24, gl25, gl26, gl27, gl28, gl29, gl30, gl31, gl32, gl33, gl34, gl35, gl36, gl37, gl38, gl39, gl40, gl41, gl42, gl43, gl44, gl45, gl46, gl47, gl48, gl49, gl50, gl51, gl52, gl53, gl54, gl55, gl56, gl57]
  have := l72 (X := X) hw hv O A F H hP (gdm D) 0 0 (by omega) rfl
  rw [nI_0] at this
  exact this
