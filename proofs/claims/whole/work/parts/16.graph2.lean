/-! The graph's calls: change, drop, clear. -/
set_option maxRecDepth 100000 in
set_option maxHeartbeats 4000000 in
theorem s1_change {X : gx_X} {M : gx_M} {k x y : Int32} {m : Nat} {P : Option Value → gx_M → Prop} (hm : M 1 8 = nI m) (hm40 : m ≤ 40)
    (h1 : ¬ (0 ≤ k.toInt ∧ k.toInt < m ∧ M 10 k.toInt.toNat = 0) → P (some (.int (-1))) M)
    (h2 : (0 ≤ k.toInt ∧ k.toInt < m ∧ M 10 k.toInt.toNat = 0) → ¬ (0 ≤ x.toInt ∧ x.toInt ≤ y.toInt ∧ y.toInt ≤ 1000) → P (some (.int (-2))) M)
    (h3 : (0 ≤ k.toInt ∧ k.toInt < m ∧ M 10 k.toInt.toNat = 0) → (0 ≤ x.toInt ∧ x.toInt ≤ y.toInt ∧ y.toInt ≤ 1000) → P (some (.int 1)) (gg_fg (gx_w (gx_w M 8 k.toInt.toNat x) 9 k.toInt.toNat y))) : gx_C X 35 [.ref 0, .int k, .int x, .int y] M P := by
  refine gx_C_wp 60 ?_
  simp only [gx_w_np, gx_w_p, ne_eq, not_false_eq_true, gx_wp, gx_step, gx_cnd, gb0, gb1, Classical.not_not, List.getD_cons_zero, List.getD_cons_succ, List.set_cons_zero, List.set_cons_succ, List.length_cons, List.length_nil, Nat.reduceAdd, Nat.reduceLT, Nat.reduceLeDiff, Nat.reduceEqDiff, Bool.and_false, Bool.and_true, Bool.true_and, Bool.false_and, Bool.false_eq_true, if_false, if_true, ite_true, ite_false, Fin.isValue, Fin.val_zero, Fin.val_one, Fin.val_two, gz0, gz1, gz2, gz3, List.take_succ_cons, List.take_zero, List.drop_succ_cons, List.drop_zero, List.reverse_cons, List.reverse_nil, List.nil_append, List.cons_append, gx_nx, Int32.reduceToInt, Int.reduceToNat, Int.toNat_zero, Int.toNat_one, Int.reduceLT, Int.reduceLE, Int.ofNat_zero, Int.reduceNeg, Int.le_refl, and_self, List.getElem?_cons_zero, List.getElem?_cons_succ, true_and, and_true, Nat.reduceSub, List.replicate, List.append_nil, Nat.reduceLeDiff, Nat.le_add_left, Nat.zero_le, Nat.zero_add, gf3_12, gf3_82, gf3_85, gk_bipush_m2, gk_iconst_1, gk_iconst_m1, gm3_50, gm3_68, gm3_79, gn1, gn35, gn49, gn52, gr1, gr35, gr49, gr52, gv35, gi35_0, gi35_1, gi35_4, gi35_5, gi35_8, gi35_11, gi35_12, gi35_13, gi35_14, gi35_15, gi35_18, gi35_21, gi35_23, gi35_24, gi35_25, gi35_28, gi35_31, gi35_32, gi35_33, gi35_34, gi35_35, gi35_38, gi35_41, gi35_42, gi35_43, gi35_44, gi35_45, gi35_48, gi35_49, gl0, gl1, gl2, gl3, gl4, gl5, gl6, gl7, gl8, gl9, gl10, gl11, gl12, gl13, gl14, gl15, gl16, gl17, gl18, gl19, gl20, gl21, gl22, gl23, gl24, gl25, gl26, gl27, gl28, gl29, gl30, gl31, gl32, gl33, gl34, gl35, gl36, gl37, gl38, gl39, gl40, gl41, gl42, gl43, gl44, gl45, gl46, gl47, gl48, gl49, gl50, gl51, gl52, gl53, gl54, gl55, gl56, gl57]
  refine sp_hasArc hm hm40 (fun a b c => ?_) (fun a => ?_)
  · intro z hz
    cases hz
    refine ⟨fun _ => sp_areArcBounds (fun c1 c2 c3 => ?_) (fun c1 => ?_), fun c => absurd c (by decide)⟩
    · intro z hz
      cases hz
      exact ⟨fun _ => ⟨by omega, by omega, sp_forget (h3 ⟨a, b, c⟩ (by omega))⟩, fun c => absurd c (by decide)⟩
    · intro z hz
      cases hz
      exact ⟨fun c => absurd rfl c, fun _ => h2 ⟨a, b, c⟩ (by omega)⟩
  · intro z hz
    cases hz
    exact ⟨fun c => absurd rfl c, fun _ => h1 a⟩
set_option maxRecDepth 100000 in
set_option maxHeartbeats 4000000 in
theorem s2_change {X : gx_X} {M : gx_M} {k x y : Int32} {m : Nat} {P : Option Value → gx_M → Prop} (hm : M 34 3 = nI m) (hm40 : m ≤ 40)
    (h1 : ¬ (0 ≤ k.toInt ∧ k.toInt < m ∧ ¬ M 41 k.toInt.toNat = 0) → P (some (.int (-1))) M)
    (h2 : (0 ≤ k.toInt ∧ k.toInt < m ∧ ¬ M 41 k.toInt.toNat = 0) → ¬ (0 ≤ x.toInt ∧ x.toInt ≤ y.toInt ∧ y.toInt ≤ 1000) → P (some (.int (-2))) M)
    (h3 : (0 ≤ k.toInt ∧ k.toInt < m ∧ ¬ M 41 k.toInt.toNat = 0) → (0 ≤ x.toInt ∧ x.toInt ≤ y.toInt ∧ y.toInt ≤ 1000) → P (some (.int 1)) (gx_w (gx_w (gx_w M 39 k.toInt.toNat x) 40 k.toInt.toNat y) 34 9 0)) : gx_C X 86 [.ref 34, .int k, .int x, .int y] M P := by
  refine gx_C_wp 60 ?_
  simp only [gx_w_np, gx_w_p, ne_eq, not_false_eq_true, gx_wp, gx_step, gx_cnd, gb0, gb1, Classical.not_not, List.getD_cons_zero, List.getD_cons_succ, List.set_cons_zero, List.set_cons_succ, List.length_cons, List.length_nil, Nat.reduceAdd, Nat.reduceLT, Nat.reduceLeDiff, Nat.reduceEqDiff, Bool.and_false, Bool.and_true, Bool.true_and, Bool.false_and, Bool.false_eq_true, if_false, if_true, ite_true, ite_false, Fin.isValue, Fin.val_zero, Fin.val_one, Fin.val_two, gz0, gz1, gz2, gz3, List.take_succ_cons, List.take_zero, List.drop_succ_cons, List.drop_zero, List.reverse_cons, List.reverse_nil, List.nil_append, List.cons_append, gx_nx, Int32.reduceToInt, Int.reduceToNat, Int.toNat_zero, Int.toNat_one, Int.reduceLT, Int.reduceLE, Int.ofNat_zero, Int.reduceNeg, Int.le_refl, and_self, List.getElem?_cons_zero, List.getElem?_cons_succ, true_and, and_true, Nat.reduceSub, List.replicate, List.append_nil, Nat.reduceLeDiff, Nat.le_add_left, Nat.zero_le, Nat.zero_add, gf4_117, gf4_22, gf4_25, gk_bipush_m2, gk_iconst_0, gk_iconst_1, gk_iconst_m1, gm4_166, gm4_169, gn80, gn81, gn86, gr80, gr81, gr86, gt4_9, gv86, gi86_0, gi86_1, gi86_2, gi86_5, gi86_8, gi86_9, gi86_10, gi86_11, gi86_12, gi86_15, gi86_18, gi86_20, gi86_21, gi86_22, gi86_25, gi86_26, gi86_27, gi86_28, gi86_29, gi86_32, gi86_33, gi86_34, gi86_35, gi86_36, gi86_37, gi86_40, gi86_41, gl0, gl1, gl2, gl3, gl4, gl5, gl6, gl7, gl8, gl9, gl10, gl11, gl12, gl13, gl14, gl15, gl16, gl17, gl18, gl19, gl20, gl21, gl22, gl23, gl24, gl25, gl26, gl27, gl28, gl29, gl30, gl31, gl32, gl33, gl34, gl35, gl36, gl37, gl38, gl39, gl40, gl41, gl42, gl43, gl44, gl45, gl46, gl47, gl48, gl49, gl50, gl51, gl52, gl53, gl54, gl55, gl56, gl57]
  refine sr_isArc hm hm40 (fun a b c => ?_) (fun a => ?_)
  · intro z hz
    cases hz
    refine ⟨fun _ => sr_isSpan (fun c1 c2 c3 => ?_) (fun c1 => ?_), fun c => absurd c (by decide)⟩
    · intro z hz
      cases hz
      exact ⟨fun _ => ⟨by omega, by omega, h3 ⟨a, b, c⟩ (by omega)⟩, fun c => absurd c (by decide)⟩
    · intro z hz
      cases hz
      exact ⟨fun c => absurd rfl c, fun _ => h2 ⟨a, b, c⟩ (by omega)⟩
  · intro z hz
    cases hz
    exact ⟨fun c => absurd rfl c, fun _ => h1 a⟩
/-- an arc is there for the one if it is for the other -/
theorem gg_al {M : gx_M} {n m k : Nat} (hG : gg_R M n m) (hk : k < m) : M 10 k = 0 ↔ ¬ M 41 k = 0 := by
  rw [(hG.2.2.2 k hk).2.2.2.2]
  by_cases e : M 10 k = 0
  · rw [if_pos e]; simp [e]
  · rw [if_neg e]; simp [e]
theorem gg_al2 {M : gx_M} {n m : Nat} {k : Int32} (hG : gg_R M n m) : (0 ≤ k.toInt ∧ k.toInt < m ∧ M 10 k.toInt.toNat = 0) ↔ (0 ≤ k.toInt ∧ k.toInt < m ∧ ¬ M 41 k.toInt.toNat = 0) := by
  constructor
  · rintro ⟨a, b, c⟩
    exact ⟨a, b, (gg_al hG (by omega)).mp c⟩
  · rintro ⟨a, b, c⟩
    exact ⟨a, b, (gg_al hG (by omega)).mpr c⟩
set_option maxRecDepth 100000 in
set_option maxHeartbeats 4000000 in
theorem pr_change {X : gx_X} {CC RC : gx_M → Prop} (hC : gg_C0 CC) (hR : gg_R0 RC) : lw_pair X (gg_I CC RC) 35 86 3 := by
  intro M as hl hI
  obtain ⟨k, x, y, rfl⟩ : ∃ k x y, as = [k, x, y] := by
    match as, hl with
    | [k, x, y], _ => exact ⟨k, x, y, rfl⟩
  obtain ⟨⟨n, m, hW, hG⟩, hCC, hRC⟩ := id hI
  obtain ⟨w1, w2, w3, w4, w5, w6, w7⟩ := id hW
  obtain ⟨r1, r2, r3, r4⟩ := id hG
  have hA := gg_al2 (k := k) hG
  refine s1_change w2 w4 (fun c => ⟨_, rfl, ?_⟩) (fun c d => ⟨_, rfl, ?_⟩) (fun c d => ⟨_, rfl, ?_⟩)
  · exact s2_change r2 w4 (fun _ => ⟨rfl, hI⟩) (fun q => absurd (hA.mpr q) c) (fun q => absurd (hA.mpr q) c)
  · exact s2_change r2 w4 (fun q => absurd (hA.mp c) q) (fun _ _ => ⟨rfl, hI⟩) (fun _ q => absurd q d)
  · refine s2_change (m := m) (by simp (disch := first | decide | omega) only [gx_w_np, gx_w_p, Int32.reduceToInt, Int.toNat_natCast, if_true, if_false, nI_1, nI_pred, i_nI, ite_true, ite_false, Int.reduceToNat, Nat.reduceEqDiff, Nat.reduceAdd, gg_fg, r2]) w4 (fun q => absurd ?_ q) (fun _ q => absurd d q) (fun _ _ => ⟨rfl, ?_⟩)
    · simp (disch := first | decide | omega) only [gx_w_np, gx_w_p, Int32.reduceToInt, Int.toNat_natCast, if_true, if_false, nI_1, nI_pred, i_nI, ite_true, ite_false, Int.reduceToNat, Nat.reduceEqDiff, Nat.reduceAdd, gg_fg]
      exact hA.mp c
    refine gg_I_mk hC hR hRC.2 (n := n) (m := m) ⟨?_, ?_, w3, w4, ?_, ?_, ?_⟩ ⟨?_, ?_, ?_, ?_⟩ ?_ ?_ ?_ ?_ ?_ ?_ ?_ ?_ <;> simp (disch := first | decide | omega) only [gx_w_np, gx_w_p, Int32.reduceToInt, Int.toNat_natCast, if_true, if_false, nI_1, nI_pred, i_nI, ite_true, ite_false, Int.reduceToNat, Nat.reduceEqDiff, Nat.reduceAdd, gg_fg, w1, w2, w7, r1, r2]
    · exact w5
    · intro i hi
      by_cases e : i = k.toInt.toNat
      · simp (disch := first | decide | omega) only [e, gx_w_np, gx_w_p, Int32.reduceToInt, Int.toNat_natCast, if_true, if_false, nI_1, nI_pred, i_nI, ite_true, ite_false, Int.reduceToNat, Nat.reduceEqDiff, Nat.reduceAdd]
        have := w6 k.toInt.toNat (by omega)
        refine ⟨this.1, this.2.1, this.2.2.1, this.2.2.2.1, this.2.2.2.2.1, by omega, by omega, by omega, this.2.2.2.2.2.2.2.2⟩
      · simp (disch := first | decide | omega) only [e, gx_w_np, gx_w_p, Int32.reduceToInt, Int.toNat_natCast, if_true, if_false, nI_1, nI_pred, i_nI, ite_true, ite_false, Int.reduceToNat, Nat.reduceEqDiff, Nat.reduceAdd]
        exact w6 i hi
    · exact r3
    · intro i hi
      by_cases e : i = k.toInt.toNat
      · simp (disch := first | decide | omega) only [e, gx_w_np, gx_w_p, Int32.reduceToInt, Int.toNat_natCast, if_true, if_false, nI_1, nI_pred, i_nI, ite_true, ite_false, Int.reduceToNat, Nat.reduceEqDiff, Nat.reduceAdd]
        have := r4 k.toInt.toNat (by omega)
        exact ⟨this.1, this.2.1, trivial, trivial, this.2.2.2.2⟩
      · simp (disch := first | decide | omega) only [e, gx_w_np, gx_w_p, Int32.reduceToInt, Int.toNat_natCast, if_true, if_false, nI_1, nI_pred, i_nI, ite_true, ite_false, Int.reduceToNat, Nat.reduceEqDiff, Nat.reduceAdd]
        exact r4 i hi
set_option maxRecDepth 100000 in
set_option maxHeartbeats 4000000 in
theorem s1_drop {X : gx_X} {M : gx_M} {k : Int32} {m j : Nat} {P : Option Value → gx_M → Prop} (hm : M 1 8 = nI m) (hm40 : m ≤ 40) (hj : M 1 9 = nI (j + 1) ∨ ¬ (0 ≤ k.toInt ∧ k.toInt < m ∧ M 10 k.toInt.toNat = 0))
    (h1 : ¬ (0 ≤ k.toInt ∧ k.toInt < m ∧ M 10 k.toInt.toNat = 0) → P (some (.int (-1))) M)
    (h2 : (0 ≤ k.toInt ∧ k.toInt < m ∧ M 10 k.toInt.toNat = 0) → P (some (.int (nI j))) (gx_w (gx_w (gg_fg M) 10 k.toInt.toNat 1) 1 9 (nI j))) : gx_C X 36 [.ref 0, .int k] M P := by
  refine gx_C_wp 60 ?_
  simp only [gx_w_np, gx_w_p, ne_eq, not_false_eq_true, gx_wp, gx_step, gx_cnd, gb0, gb1, Classical.not_not, List.getD_cons_zero, List.getD_cons_succ, List.set_cons_zero, List.set_cons_succ, List.length_cons, List.length_nil, Nat.reduceAdd, Nat.reduceLT, Nat.reduceLeDiff, Nat.reduceEqDiff, Bool.and_false, Bool.and_true, Bool.true_and, Bool.false_and, Bool.false_eq_true, if_false, if_true, ite_true, ite_false, Fin.isValue, Fin.val_zero, Fin.val_one, Fin.val_two, gz0, gz1, gz2, gz3, List.take_succ_cons, List.take_zero, List.drop_succ_cons, List.drop_zero, List.reverse_cons, List.reverse_nil, List.nil_append, List.cons_append, gx_nx, Int32.reduceToInt, Int.reduceToNat, Int.toNat_zero, Int.toNat_one, Int.reduceLT, Int.reduceLE, Int.ofNat_zero, Int.reduceNeg, Int.le_refl, and_self, List.getElem?_cons_zero, List.getElem?_cons_succ, true_and, and_true, Nat.reduceSub, List.replicate, List.append_nil, Nat.reduceLeDiff, Nat.le_add_left, Nat.zero_le, Nat.zero_add, gf3_12, gk_iconst_m1, gm3_50, gm3_79, gm3_88, gn1, gn36, gn4, gn52, gr1, gr36, gr4, gr52, gv36, gi36_0, gi36_1, gi36_4, gi36_5, gi36_8, gi36_11, gi36_12, gi36_13, gi36_14, gi36_17, gi36_18, gi36_21, gi36_22, gi36_25, gl0, gl1, gl2, gl3, gl4, gl5, gl6, gl7, gl8, gl9, gl10, gl11, gl12, gl13, gl14, gl15, gl16, gl17, gl18, gl19, gl20, gl21, gl22, gl23, gl24, gl25, gl26, gl27, gl28, gl29, gl30, gl31, gl32, gl33, gl34, gl35, gl36, gl37, gl38, gl39, gl40, gl41, gl42, gl43, gl44, gl45, gl46, gl47, gl48, gl49, gl50, gl51, gl52, gl53, gl54, gl55, gl56, gl57]
  refine sp_hasArc hm hm40 (fun a b c => ?_) (fun a => ?_)
  · intro z hz
    cases hz
    refine ⟨fun _ => sp_forget ?_, fun c => absurd c (by decide)⟩
    have hk : k = nI k.toInt.toNat := i_nat a
    rw [hk]
    refine sp_removeArc (k := k.toInt.toNat) (j := j) (by omega) ?_ ?_
    · rcases hj with hj | hj
      · simp (disch := first | decide | omega) only [gx_w_np, gx_w_p, Int32.reduceToInt, Int.toNat_natCast, if_true, if_false, nI_1, nI_pred, i_nI, ite_true, ite_false, Int.reduceToNat, Nat.reduceEqDiff, Nat.reduceAdd, gg_fg, hj]
      · exact absurd ⟨a, b, c⟩ hj
    · intro z hz
      cases hz
      exact h2 ⟨a, b, c⟩
  · intro z hz
    cases hz
    exact ⟨fun c => absurd rfl c, fun _ => h1 a⟩
def gg_ct (M : gx_M) (k : Nat) : Int := if M 41 k = 0 then 0 else 1
theorem gg_ct_le (M : gx_M) : ∀ m : Nat, 0 ≤ sm_ m (gg_ct M) ∧ sm_ m (gg_ct M) ≤ m
  | 0 => by simp [sm_]
  | m + 1 => by
    have h := gg_ct_le M m
    rw [sm_s]
    unfold gg_ct at *
    by_cases e : M 41 m = 0
    · rw [if_pos e]; omega
    · rw [if_neg e]; omega
set_option maxRecDepth 100000 in
set_option maxHeartbeats 4000000 in
theorem l2_drop {X : gx_X} {M : gx_M} {a : Int32} {m : Nat} {P : Option Value → gx_M → Prop} (hm : M 34 3 = nI m) (hm40 : m ≤ 40) (hP : ∀ z : Int32, z.toInt = sm_ m (gg_ct M) → P (some (.int z)) M) :
    ∀ (d i : Nat) (x : Int32), i + d = m → x.toInt = sm_ i (gg_ct M) → gx_OK X 87 26 [.ref 34, .int a, .int x, .int (nI i)] [] M P := by
  intro d
  induction d with
  | zero =>
    intro i x hi hx
    refine gx_wp_ok 100 false _ _ _ _ ?_
    simp only [gx_w_np, gx_w_p, ne_eq, not_false_eq_true, gx_wp, gx_step, gx_cnd, gb0, gb1, Classical.not_not, List.getD_cons_zero, List.getD_cons_succ, List.set_cons_zero, List.set_cons_succ, List.length_cons, List.length_nil, Nat.reduceAdd, Nat.reduceLT, Nat.reduceLeDiff, Nat.reduceEqDiff, Bool.and_false, Bool.and_true, Bool.true_and, Bool.false_and, Bool.false_eq_true, if_false, if_true, ite_true, ite_false, Fin.isValue, Fin.val_zero, Fin.val_one, Fin.val_two, gz0, gz1, gz2, gz3, List.take_succ_cons, List.take_zero, List.drop_succ_cons, List.drop_zero, List.reverse_cons, List.reverse_nil, List.nil_append, List.cons_append, gx_nx, Int32.reduceToInt, Int.reduceToNat, Int.toNat_zero, Int.toNat_one, Int.reduceLT, Int.reduceLE, Int.ofNat_zero, Int.reduceNeg, Int.le_refl, and_self, List.getElem?_cons_zero, List.getElem?_cons_succ, true_and, and_true, Nat.reduceSub, List.replicate, List.append_nil, Nat.reduceLeDiff, Nat.le_add_left, Nat.zero_le, Nat.zero_add, gf4_117, gf4_28, gf4_84, gk_iconst_0, gk_iconst_1, gk_iconst_m1, gm4_169, gn80, gn87, gr80, gr87, gt4_9, gv87, gi87_0, gi87_1, gi87_2, gi87_5, gi87_8, gi87_9, gi87_10, gi87_11, gi87_14, gi87_15, gi87_16, gi87_17, gi87_18, gi87_19, gi87_22, gi87_23, gi87_24, gi87_25, gi87_26, gi87_27, gi87_28, gi87_31, gi87_34, gi87_35, gi87_36, gi87_39, gi87_40, gi87_41, gi87_44, gi87_45, gi87_48, gi87_49, gi87_50, gi87_51, gi87_54, gi87_57, gi87_58, gl0, gl1, gl2, gl3, gl4, gl5, gl6, gl7, gl8, gl9, gl10, gl11, gl12, gl13, gl14, gl15, gl16, gl17, gl18, gl19, gl20, gl21, gl22, gl23, gl24, gl25, gl26, gl27, gl28, gl29, gl30, gl31, gl32, gl33, gl34, gl35, gl36, gl37, gl38, gl39, gl40, gl41, gl42, gl43, gl44, gl45, gl46, gl47, gl48, gl49, gl50, gl51, gl52, gl53, gl54, gl55, gl56, gl57]
    simp (disch := first | decide | omega) only [gx_w_np, gx_w_p, Int32.reduceToInt, Int.toNat_natCast, if_true, if_false, nI_1, nI_pred, i_nI, ite_true, ite_false, Int.reduceToNat, Nat.reduceEqDiff, Nat.reduceAdd, hm, i_le]
    exact ⟨fun _ => hP x (by rw [hx, show i = m by omega]), fun q => absurd (by omega) q⟩
  | succ d ih =>
    intro i x hi hx
    have hc := gg_ct_le M i
    refine gx_wp_ok 100 false _ _ _ _ ?_
    simp only [gx_w_np, gx_w_p, ne_eq, not_false_eq_true, gx_wp, gx_step, gx_cnd, gb0, gb1, Classical.not_not, List.getD_cons_zero, List.getD_cons_succ, List.set_cons_zero, List.set_cons_succ, List.length_cons, List.length_nil, Nat.reduceAdd, Nat.reduceLT, Nat.reduceLeDiff, Nat.reduceEqDiff, Bool.and_false, Bool.and_true, Bool.true_and, Bool.false_and, Bool.false_eq_true, if_false, if_true, ite_true, ite_false, Fin.isValue, Fin.val_zero, Fin.val_one, Fin.val_two, gz0, gz1, gz2, gz3, List.take_succ_cons, List.take_zero, List.drop_succ_cons, List.drop_zero, List.reverse_cons, List.reverse_nil, List.nil_append, List.cons_append, gx_nx, Int32.reduceToInt, Int.reduceToNat, Int.toNat_zero, Int.toNat_one, Int.reduceLT, Int.reduceLE, Int.ofNat_zero, Int.reduceNeg, Int.le_refl, and_self, List.getElem?_cons_zero, List.getElem?_cons_succ, true_and, and_true, Nat.reduceSub, List.replicate, List.append_nil, Nat.reduceLeDiff, Nat.le_add_left, Nat.zero_le, Nat.zero_add, gf4_117, gf4_28, gf4_84, gk_iconst_0, gk_iconst_1, gk_iconst_m1, gm4_169, gn80, gn87, gr80, gr87, gt4_9, gv87, gi87_0, gi87_1, gi87_2, gi87_5, gi87_8, gi87_9, gi87_10, gi87_11, gi87_14, gi87_15, gi87_16, gi87_17, gi87_18, gi87_19, gi87_22, gi87_23, gi87_24, gi87_25, gi87_26, gi87_27, gi87_28, gi87_31, gi87_34, gi87_35, gi87_36, gi87_39, gi87_40, gi87_41, gi87_44, gi87_45, gi87_48, gi87_49, gi87_50, gi87_51, gi87_54, gi87_57, gi87_58, gl0, gl1, gl2, gl3, gl4, gl5, gl6, gl7, gl8, gl9, gl10, gl11, gl12, gl13, gl14, gl15, gl16, gl17, gl18, gl19, gl20, gl21, gl22, gl23, gl24, gl25, gl26, gl27, gl28, gl29, gl30, gl31, gl32, gl33, gl34, gl35, gl36, gl37, gl38, gl39, gl40, gl41, gl42, gl43, gl44, gl45, gl46, gl47, gl48, gl49, gl50, gl51, gl52, gl53, gl54, gl55, gl56, gl57]
    simp (disch := first | decide | omega) only [gx_w_np, gx_w_p, Int32.reduceToInt, Int.toNat_natCast, if_true, if_false, nI_1, nI_pred, i_nI, ite_true, ite_false, Int.reduceToNat, Nat.reduceEqDiff, Nat.reduceAdd, hm, i_le, Int32.add_zero]
    refine ⟨fun q => absurd q (by omega), fun _ => ⟨by omega, fun q => ih (i + 1) x (by omega) ?_, fun q => ih (i + 1) (x + 1) (by omega) ?_⟩⟩
    · rw [sm_s, gg_ct, if_pos q, hx]
      omega
    · rw [sm_s, gg_ct, if_neg q, ← hx]
      exact i_add (by simp (disch := first | decide | omega) only [gx_w_np, gx_w_p, Int32.reduceToInt, Int.toNat_natCast, if_true, if_false, nI_1, nI_pred, i_nI, ite_true, ite_false, Int.reduceToNat, Nat.reduceEqDiff, Nat.reduceAdd]; omega) (by simp (disch := first | decide | omega) only [gx_w_np, gx_w_p, Int32.reduceToInt, Int.toNat_natCast, if_true, if_false, nI_1, nI_pred, i_nI, ite_true, ite_false, Int.reduceToNat, Nat.reduceEqDiff, Nat.reduceAdd]; omega)
set_option maxRecDepth 100000 in
set_option maxHeartbeats 4000000 in
theorem s2_drop {X : gx_X} {M : gx_M} {k : Int32} {m : Nat} {P : Option Value → gx_M → Prop} (hm : M 34 3 = nI m) (hm40 : m ≤ 40)
    (h1 : ¬ (0 ≤ k.toInt ∧ k.toInt < m ∧ ¬ M 41 k.toInt.toNat = 0) → P (some (.int (-1))) M)
    (h2 : (0 ≤ k.toInt ∧ k.toInt < m ∧ ¬ M 41 k.toInt.toNat = 0) → ∀ z : Int32, z.toInt = sm_ m (gg_ct (gx_w (gx_w M 41 k.toInt.toNat 0) 34 9 0)) → P (some (.int z)) (gx_w (gx_w M 41 k.toInt.toNat 0) 34 9 0)) : gx_C X 87 [.ref 34, .int k] M P := by
  refine gx_C_wp 100 ?_
  simp only [gx_w_np, gx_w_p, ne_eq, not_false_eq_true, gx_wp, gx_step, gx_cnd, gb0, gb1, Classical.not_not, List.getD_cons_zero, List.getD_cons_succ, List.set_cons_zero, List.set_cons_succ, List.length_cons, List.length_nil, Nat.reduceAdd, Nat.reduceLT, Nat.reduceLeDiff, Nat.reduceEqDiff, Bool.and_false, Bool.and_true, Bool.true_and, Bool.false_and, Bool.false_eq_true, if_false, if_true, ite_true, ite_false, Fin.isValue, Fin.val_zero, Fin.val_one, Fin.val_two, gz0, gz1, gz2, gz3, List.take_succ_cons, List.take_zero, List.drop_succ_cons, List.drop_zero, List.reverse_cons, List.reverse_nil, List.nil_append, List.cons_append, gx_nx, Int32.reduceToInt, Int.reduceToNat, Int.toNat_zero, Int.toNat_one, Int.reduceLT, Int.reduceLE, Int.ofNat_zero, Int.reduceNeg, Int.le_refl, and_self, List.getElem?_cons_zero, List.getElem?_cons_succ, true_and, and_true, Nat.reduceSub, List.replicate, List.append_nil, Nat.reduceLeDiff, Nat.le_add_left, Nat.zero_le, Nat.zero_add, gf4_117, gf4_28, gf4_84, gk_iconst_0, gk_iconst_1, gk_iconst_m1, gm4_169, gn80, gn87, gr80, gr87, gt4_9, gv87, gi87_0, gi87_1, gi87_2, gi87_5, gi87_8, gi87_9, gi87_10, gi87_11, gi87_14, gi87_15, gi87_16, gi87_17, gi87_18, gi87_19, gi87_22, gi87_23, gi87_24, gi87_25, gi87_26, gi87_27, gi87_28, gi87_31, gi87_34, gi87_35, gi87_36, gi87_39, gi87_40, gi87_41, gi87_44, gi87_45, gi87_48, gi87_49, gi87_50, gi87_51, gi87_54, gi87_57, gi87_58, gl0, gl1, gl2, gl3, gl4, gl5, gl6, gl7, gl8, gl9, gl10, gl11, gl12, gl13, gl14, gl15, gl16, gl17, gl18, gl19, gl20, gl21, gl22, gl23, gl24, gl25, gl26, gl27, gl28, gl29, gl30, gl31, gl32, gl33, gl34, gl35, gl36, gl37, gl38, gl39, gl40, gl41, gl42, gl43, gl44, gl45, gl46, gl47, gl48, gl49, gl50, gl51, gl52, gl53, gl54, gl55, gl56, gl57]
  refine sr_isArc hm hm40 (fun a b c => ?_) (fun a => ?_)
  · intro z hz
    cases hz
    refine ⟨fun _ => ⟨by omega, ?_⟩, fun c => absurd c (by decide)⟩
    rw [← nI_0]
    exact l2_drop (m := m) (by simp (disch := first | decide | omega) only [gx_w_np, gx_w_p, Int32.reduceToInt, Int.toNat_natCast, if_true, if_false, nI_1, nI_pred, i_nI, ite_true, ite_false, Int.reduceToNat, Nat.reduceEqDiff, Nat.reduceAdd, hm]) hm40 (h2 ⟨a, b, c⟩) m 0 0 (by omega) rfl
  · intro z hz
    cases hz
    exact ⟨fun c => absurd rfl c, fun _ => h1 a⟩
set_option maxRecDepth 100000 in
set_option maxHeartbeats 4000000 in
theorem pr_drop {X : gx_X} {CC RC : gx_M → Prop} (hC : gg_C0 CC) (hR : gg_R0 RC) : lw_pair X (gg_I CC RC) 36 87 1 := by
  intro M as hl hI
  obtain ⟨k, rfl⟩ : ∃ k, as = [k] := by
    match as, hl with
    | [k], _ => exact ⟨k, rfl⟩
  obtain ⟨⟨n, m, hW, hG⟩, hCC, hRC⟩ := id hI
  obtain ⟨w1, w2, w3, w4, w5, w6, w7⟩ := id hW
  obtain ⟨r1, r2, r3, r4⟩ := id hG
  have hA := gg_al2 (k := k) hG
  by_cases hk : 0 ≤ k.toInt ∧ k.toInt < m ∧ M 10 k.toInt.toNat = 0
  · obtain ⟨j, j1, j2, j3⟩ := gg_cntN w7
    have e1 : sm_ m (fun i => if (if i = k.toInt.toNat then (1 : Int32) else M 10 i) = 0 then (1 : Int) else 0) = (j : Int) - 1 := by
      have e2 := sm_up (f := fun i => if M 10 i = 0 then (1 : Int) else 0) (k := k.toInt.toNat) (x := 0) (n := m) (by omega)
      rw [← j2, if_pos hk.2.2] at e2
      rw [sm_congr (g := fun i => if i = k.toInt.toNat then (0 : Int) else if M 10 i = 0 then (1 : Int) else 0) (fun i _ => ?_), e2]
      · omega
      · by_cases e : i = k.toInt.toNat
        · rw [if_pos e, if_pos e, if_neg (by decide)]
        · rw [if_neg e, if_neg e]
    have hj1 : 1 ≤ j := by
      have := gg_cnt (f := fun i => if i = k.toInt.toNat then (1 : Int32) else M 10 i) (m := m)
      rw [e1] at this
      omega
    refine s1_drop (j := j - 1) w2 w4 (Or.inl (by rw [j1]; congr 1; omega)) (fun c => absurd hk c) (fun _ => ⟨_, rfl, ?_⟩)
    refine s2_drop (m := m) (by simp (disch := first | decide | omega) only [gx_w_np, gx_w_p, Int32.reduceToInt, Int.toNat_natCast, if_true, if_false, nI_1, nI_pred, i_nI, ite_true, ite_false, Int.reduceToNat, Nat.reduceEqDiff, Nat.reduceAdd, gg_fg, r2]) w4 (fun c => absurd ?_ c) (fun _ z hz => ⟨?_, ?_⟩)
    · simp (disch := first | decide | omega) only [gx_w_np, gx_w_p, Int32.reduceToInt, Int.toNat_natCast, if_true, if_false, nI_1, nI_pred, i_nI, ite_true, ite_false, Int.reduceToNat, Nat.reduceEqDiff, Nat.reduceAdd, gg_fg]
      exact hA.mp hk
    · have e3 : z.toInt = (j : Int) - 1 := by
        rw [hz, ← e1]
        refine sm_congr (fun i hi => ?_)
        unfold gg_ct
        simp (disch := first | decide | omega) only [gx_w_np, gx_w_p, Int32.reduceToInt, Int.toNat_natCast, if_true, if_false, nI_1, nI_pred, i_nI, ite_true, ite_false, Int.reduceToNat, Nat.reduceEqDiff, Nat.reduceAdd, gg_fg]
        by_cases e : i = k.toInt.toNat
        · simp (disch := first | decide | omega) only [e, gx_w_np, gx_w_p, Int32.reduceToInt, Int.toNat_natCast, if_true, if_false, nI_1, nI_pred, i_nI, ite_true, ite_false, Int.reduceToNat, Nat.reduceEqDiff, Nat.reduceAdd]
          decide
        · simp (disch := first | decide | omega) only [e, gx_w_np, gx_w_p, Int32.reduceToInt, Int.toNat_natCast, if_true, if_false, nI_1, nI_pred, i_nI, ite_true, ite_false, Int.reduceToNat, Nat.reduceEqDiff, Nat.reduceAdd]
          rw [(r4 i hi).2.2.2.2]
          by_cases e4 : M 10 i = 0
          · simp (disch := first | decide | omega) only [e4, gx_w_np, gx_w_p, Int32.reduceToInt, Int.toNat_natCast, if_true, if_false, nI_1, nI_pred, i_nI, ite_true, ite_false, Int.reduceToNat, Nat.reduceEqDiff, Nat.reduceAdd]
            decide
          · simp (disch := first | decide | omega) only [e4, gx_w_np, gx_w_p, Int32.reduceToInt, Int.toNat_natCast, if_true, if_false, nI_1, nI_pred, i_nI, ite_true, ite_false, Int.reduceToNat, Nat.reduceEqDiff, Nat.reduceAdd]
      congr 2
      rw [i_eq, e3]
      simp (disch := first | decide | omega) only [gx_w_np, gx_w_p, Int32.reduceToInt, Int.toNat_natCast, if_true, if_false, nI_1, nI_pred, i_nI, ite_true, ite_false, Int.reduceToNat, Nat.reduceEqDiff, Nat.reduceAdd]
      omega
    refine gg_I_mk hC hR hRC.2 (n := n) (m := m) ⟨?_, ?_, w3, w4, ?_, ?_, ?_⟩ ⟨?_, ?_, ?_, ?_⟩ ?_ ?_ ?_ ?_ ?_ ?_ ?_ ?_ <;> simp (disch := first | decide | omega) only [gx_w_np, gx_w_p, Int32.reduceToInt, Int.toNat_natCast, if_true, if_false, nI_1, nI_pred, i_nI, ite_true, ite_false, Int.reduceToNat, Nat.reduceEqDiff, Nat.reduceAdd, gg_fg, w1, w2, r1, r2]
    · exact w5
    · intro i hi
      by_cases e : i = k.toInt.toNat
      · simp (disch := first | decide | omega) only [e, gx_w_np, gx_w_p, Int32.reduceToInt, Int.toNat_natCast, if_true, if_false, nI_1, nI_pred, i_nI, ite_true, ite_false, Int.reduceToNat, Nat.reduceEqDiff, Nat.reduceAdd]
        have := w6 k.toInt.toNat (by omega)
        refine ⟨this.1, this.2.1, this.2.2.1, this.2.2.2.1, this.2.2.2.2.1, this.2.2.2.2.2.1, this.2.2.2.2.2.2.1, this.2.2.2.2.2.2.2.1, Or.inr rfl⟩
      · simp (disch := first | decide | omega) only [e, gx_w_np, gx_w_p, Int32.reduceToInt, Int.toNat_natCast, if_true, if_false, nI_1, nI_pred, i_nI, ite_true, ite_false, Int.reduceToNat, Nat.reduceEqDiff, Nat.reduceAdd]
        exact w6 i hi
    · rw [e1]; omega
    · exact r3
    · intro i hi
      by_cases e : i = k.toInt.toNat
      · simp (disch := first | decide | omega) only [e, gx_w_np, gx_w_p, Int32.reduceToInt, Int.toNat_natCast, if_true, if_false, nI_1, nI_pred, i_nI, ite_true, ite_false, Int.reduceToNat, Nat.reduceEqDiff, Nat.reduceAdd]
        have := r4 k.toInt.toNat (by omega)
        exact ⟨this.1, this.2.1, this.2.2.1, this.2.2.2.1, by decide⟩
      · simp (disch := first | decide | omega) only [e, gx_w_np, gx_w_p, Int32.reduceToInt, Int.toNat_natCast, if_true, if_false, nI_1, nI_pred, i_nI, ite_true, ite_false, Int.reduceToNat, Nat.reduceEqDiff, Nat.reduceAdd]
        exact r4 i hi
  · refine s1_drop (j := 0) w2 w4 (Or.inr hk) (fun _ => ⟨_, rfl, ?_⟩) (fun c => absurd c hk)
    exact s2_drop r2 w4 (fun _ => ⟨rfl, hI⟩) (fun c => absurd (hA.mpr c) hk)
set_option maxRecDepth 100000 in
set_option maxHeartbeats 4000000 in
theorem s1_clear {X : gx_X} {M : gx_M} {P : Option Value → gx_M → Prop} (h : P (some (.int (M 1 7))) (gx_w (gx_w (gx_w (gg_fg M) 1 7 0) 1 8 0) 1 9 0)) : gx_C X 37 [.ref 0] M P := by
  refine gx_C_wp 60 ?_
  simp only [gx_w_np, gx_w_p, ne_eq, not_false_eq_true, gx_wp, gx_step, gx_cnd, gb0, gb1, Classical.not_not, List.getD_cons_zero, List.getD_cons_succ, List.set_cons_zero, List.set_cons_succ, List.length_cons, List.length_nil, Nat.reduceAdd, Nat.reduceLT, Nat.reduceLeDiff, Nat.reduceEqDiff, Bool.and_false, Bool.and_true, Bool.true_and, Bool.false_and, Bool.false_eq_true, if_false, if_true, ite_true, ite_false, Fin.isValue, Fin.val_zero, Fin.val_one, Fin.val_two, gz0, gz1, gz2, gz3, List.take_succ_cons, List.take_zero, List.drop_succ_cons, List.drop_zero, List.reverse_cons, List.reverse_nil, List.nil_append, List.cons_append, gx_nx, Int32.reduceToInt, Int.reduceToNat, Int.toNat_zero, Int.toNat_one, Int.reduceLT, Int.reduceLE, Int.ofNat_zero, Int.reduceNeg, Int.le_refl, and_self, List.getElem?_cons_zero, List.getElem?_cons_succ, true_and, and_true, Nat.reduceSub, List.replicate, List.append_nil, Nat.reduceLeDiff, Nat.le_add_left, Nat.zero_le, Nat.zero_add, gf3_12, gm3_50, gm3_92, gn37, gn5, gn52, gr37, gr5, gr52, gv37, gi37_0, gi37_1, gi37_4, gi37_5, gi37_8, gi37_11, gl0, gl1, gl2, gl3, gl4, gl5, gl6, gl7, gl8, gl9, gl10, gl11, gl12, gl13, gl14, gl15, gl16, gl17, gl18, gl19, gl20, gl21, gl22, gl23, gl24, gl25, gl26, gl27, gl28, gl29, gl30, gl31, gl32, gl33, gl34, gl35, gl36, gl37, gl38, gl39, gl40, gl41, gl42, gl43, gl44, gl45, gl46, gl47, gl48, gl49, gl50, gl51, gl52, gl53, gl54, gl55, gl56, gl57]
  refine sp_forget (sp_removeAll ?_)
  intro z hz
  cases hz
  simp (disch := first | decide | omega) only [gx_w_np, gx_w_p, Int32.reduceToInt, Int.toNat_natCast, if_true, if_false, nI_1, nI_pred, i_nI, ite_true, ite_false, Int.reduceToNat, Nat.reduceEqDiff, Nat.reduceAdd, gg_fg] at h ⊢
  exact h
set_option maxRecDepth 100000 in
set_option maxHeartbeats 4000000 in
theorem s2_clear {X : gx_X} {M : gx_M} {P : Option Value → gx_M → Prop} (h : P (some (.int (M 34 0))) (gx_w (gx_w (gx_w M 34 0 0) 34 3 0) 34 9 0)) : gx_C X 88 [.ref 34] M P := by
  refine gx_C_wp 60 ?_
  simp only [gx_w_np, gx_w_p, ne_eq, not_false_eq_true, gx_wp, gx_step, gx_cnd, gb0, gb1, Classical.not_not, List.getD_cons_zero, List.getD_cons_succ, List.set_cons_zero, List.set_cons_succ, List.length_cons, List.length_nil, Nat.reduceAdd, Nat.reduceLT, Nat.reduceLeDiff, Nat.reduceEqDiff, Bool.and_false, Bool.and_true, Bool.true_and, Bool.false_and, Bool.false_eq_true, if_false, if_true, ite_true, ite_false, Fin.isValue, Fin.val_zero, Fin.val_one, Fin.val_two, gz0, gz1, gz2, gz3, List.take_succ_cons, List.take_zero, List.drop_succ_cons, List.drop_zero, List.reverse_cons, List.reverse_nil, List.nil_append, List.cons_append, gx_nx, Int32.reduceToInt, Int.reduceToNat, Int.toNat_zero, Int.toNat_one, Int.reduceLT, Int.reduceLE, Int.ofNat_zero, Int.reduceNeg, Int.le_refl, and_self, List.getElem?_cons_zero, List.getElem?_cons_succ, true_and, and_true, Nat.reduceSub, List.replicate, List.append_nil, Nat.reduceLeDiff, Nat.le_add_left, Nat.zero_le, Nat.zero_add, gf4_117, gf4_84, gf4_91, gk_iconst_0, gn88, gr88, gt4_0, gt4_3, gt4_9, gv88, gi88_0, gi88_1, gi88_4, gi88_5, gi88_6, gi88_7, gi88_10, gi88_11, gi88_12, gi88_15, gi88_16, gi88_17, gi88_20, gi88_21, gl0, gl1, gl2, gl3, gl4, gl5, gl6, gl7, gl8, gl9, gl10, gl11, gl12, gl13, gl14, gl15, gl16, gl17, gl18, gl19, gl20, gl21, gl22, gl23, gl24, gl25, gl26, gl27, gl28, gl29, gl30, gl31, gl32, gl33, gl34, gl35, gl36, gl37, gl38, gl39, gl40, gl41, gl42, gl43, gl44, gl45, gl46, gl47, gl48, gl49, gl50, gl51, gl52, gl53, gl54, gl55, gl56, gl57]
  exact h
set_option maxRecDepth 100000 in
set_option maxHeartbeats 4000000 in
theorem pr_clear {X : gx_X} {CC RC : gx_M → Prop} (hC : gg_C0 CC) (hR : gg_R0 RC) : lw_pair X (gg_I CC RC) 37 88 0 := by
  intro M as hl hI
  obtain rfl : as = [] := List.eq_nil_of_length_eq_zero hl
  obtain ⟨⟨n, m, hW, hG⟩, hCC, hRC⟩ := id hI
  obtain ⟨w1, w2, w3, w4, w5, w6, w7⟩ := id hW
  obtain ⟨r1, r2, r3, r4⟩ := id hG
  refine s1_clear ⟨_, rfl, s2_clear ⟨?_, ?_⟩⟩
  · simp (disch := first | decide | omega) only [gx_w_np, gx_w_p, Int32.reduceToInt, Int.toNat_natCast, if_true, if_false, nI_1, nI_pred, i_nI, ite_true, ite_false, Int.reduceToNat, Nat.reduceEqDiff, Nat.reduceAdd, gg_fg, w1, r1]
  refine gg_I_mk hC hR hRC.2 (n := 0) (m := 0) ⟨?_, ?_, by omega, by omega, fun v hv => absurd hv (by omega), fun v hv => absurd hv (by omega), ?_⟩ ⟨?_, ?_, fun v hv => absurd hv (by omega), fun v hv => absurd hv (by omega)⟩ ?_ ?_ ?_ ?_ ?_ ?_ ?_ ?_ <;> simp (disch := first | decide | omega) only [gx_w_np, gx_w_p, Int32.reduceToInt, Int.toNat_natCast, if_true, if_false, nI_1, nI_pred, i_nI, ite_true, ite_false, Int.reduceToNat, Nat.reduceEqDiff, Nat.reduceAdd, gg_fg, nI_0, sm_0]
