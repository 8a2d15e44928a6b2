/-! The reference's greatest and least value, by halving. -/
/-- other bounds of arcs -/
def dXY (D : gD) (x y : Nat → Int32) : gD := (gdn D, gdm D, gdl D, gdf D, gdt D, gdb D, gdk D, x, y)
theorem FL_xy {D : gD} {x y : Nat → Int32} {g : Nat → Int} (h : ∀ k, k < 40 → dE D k = true → (gdx D k).toInt ≤ (x k).toInt ∧ (y k).toInt ≤ (gdy D k).toInt) :
    FL (dXY D x y) g ↔ FL D g ∧ ∀ k, k < 40 → dE D k = true → (x k).toInt ≤ g k ∧ g k ≤ (y k).toInt := by
  have e1 : ∀ k, k < 40 → dE D k = true → dL (dXY D x y) 0 k = (x k).toInt ∧ dH (dXY D x y) 1000000 k = (y k).toInt ∧ dL D 0 k = (gdx D k).toInt ∧ dH D 1000000 k = (gdy D k).toInt := by
    intro k hk hp
    have hp2 : dE (dXY D x y) k = true := hp
    unfold dL dH
    rw [if_pos hp, if_pos hp, if_pos hp2, if_pos hp2, if_pos hk, if_pos hk, if_pos hk, if_pos hk]
    exact ⟨rfl, rfl, rfl, rfl⟩
  have e2 : ∀ k, ¬ (k < 40 ∧ dE D k = true) → dL (dXY D x y) 0 k = dL D 0 k ∧ dH (dXY D x y) 1000000 k = dH D 1000000 k := by
    intro k hk
    have hpe : dE (dXY D x y) k = dE D k := rfl
    unfold dL dH
    rw [hpe]
    by_cases hp : dE D k = true
    · have h40 : ¬ k < 40 := fun q => hk ⟨q, hp⟩
      rw [if_pos hp, if_pos hp, if_pos hp, if_pos hp, if_neg h40, if_neg h40, if_neg h40, if_neg h40]
      exact ⟨rfl, rfl⟩
    · rw [if_neg hp, if_neg hp, if_neg hp, if_neg hp]; exact ⟨rfl, rfl⟩
  constructor
  · rintro ⟨a, b⟩
    refine ⟨⟨a, fun e he => ?_⟩, fun k hk hp => ?_⟩
    · have := b e he
      by_cases z : e < 40 ∧ dE D e = true
      · have h1 := e1 e z.1 z.2
        have h2 := h e z.1 z.2
        rw [h1.1, h1.2.1] at this
        rw [h1.2.2.1, h1.2.2.2]
        omega
      · rw [(e2 e z).1, (e2 e z).2] at this; exact this
    · have := b k (by omega)
      have h1 := e1 k hk hp
      rw [h1.1, h1.2.1] at this
      exact this
  · rintro ⟨⟨a, b⟩, c⟩
    refine ⟨a, fun e he => ?_⟩
    by_cases z : e < 40 ∧ dE D e = true
    · have h1 := e1 e z.1 z.2
      rw [h1.1, h1.2.1]
      exact c e z.1 z.2
    · rw [(e2 e z).1, (e2 e z).2]; exact b e he
theorem i_half {a b : Int32} (h1 : 0 ≤ a.toInt + b.toInt) (h2 : a.toInt + b.toInt < 2147483648) : ((a + b) / 2).toInt = (a.toInt + b.toInt) / 2 := by
  have e2 : (2 : Int32).toInt = 2 := by decide
  rw [Int32.toInt_div, i_add (by omega) h2, e2, Int.tdiv_eq_ediv_of_nonneg h1]
  exact i_bm (by omega) (by omega)
theorem dR_fr4 {M M1 : gx_M} (F : fr4 M M1) (n m : Nat) : dR M1 n m = dR M n m := by
  have h : ∀ p, p ≠ 45 → p ≠ 46 → p ≠ 47 → p ≠ 34 → M1 p = M p := fun p a b c d => by funext j; exact F p j a b c (fun q => d q.1)
  unfold dR
  rw [h 41 (by decide) (by decide) (by decide) (by decide), h 37 (by decide) (by decide) (by decide) (by decide), h 38 (by decide) (by decide) (by decide) (by decide), h 36 (by decide) (by decide) (by decide) (by decide), h 44 (by decide) (by decide) (by decide) (by decide), h 42 (by decide) (by decide) (by decide) (by decide), h 43 (by decide) (by decide) (by decide) (by decide)]
theorem fr4_t {M M1 M2 : gx_M} (F : fr4 M M1) (G : fr4 M1 M2) : fr4 M M2 := fun p j a b c d => by rw [G p j a b c d, F p j a b c d]
theorem fr4_r (M : gx_M) : fr4 M M := fun _ _ _ _ _ _ => rfl
set_option maxRecDepth 100000 in
set_option maxHeartbeats 4000000 in
theorem l66 {X : gx_X} {M0 : gx_M} {n m : Nat} {P : Option Value → gx_M → Prop} (hn : M0 34 0 = nI n) (hm : M0 34 3 = nI m) (O : gok (dR M0 n m))
    (hP : ∀ (z : Int32) (M1 : gx_M), fr4 M0 M1 → 0 ≤ z.toInt → (∃ g, FL (dR M0 n m) g ∧ g 60 = z.toInt) → (∀ g, FL (dR M0 n m) g → g 60 ≤ z.toInt) → P (some (.int z)) M1) :
    ∀ (d : Nat) (a b : Int32) (M : gx_M) (v : Value), b.toInt - a.toInt < d → 0 ≤ a.toInt → a.toInt < b.toInt → b.toInt ≤ 1000000 → fr4 M0 M → (∃ g, FL (dR M0 n m) g ∧ a.toInt ≤ g 60) → (∀ g, FL (dR M0 n m) g → g 60 < b.toInt) → gx_OK X 66 5 [.ref 34, .int a, .int b, v] [] M P := by
  have zf : (1000000 : Int32).toInt = 1000000 := by decide
  intro d
  induction d with
  | zero => intro a b M v h1 h2 h3; omega
  | succ d ih =>
    intro a b M v h1 h2 h3 h4 F G1 G2
    have e : (b - a).toInt = b.toInt - a.toInt := i_sub (by omega) (by omega)
    refine gx_wp_ok 40 false _ _ _ _ ?_
    simp only [gx_w_np, gx_w_p, ne_eq, not_false_eq_true, gx_wp, gx_step, gx_cnd, gb0, gb1, Classical.not_not, List.getD_cons_zero, List.getD_cons_succ, List.set_cons_zero, List.set_cons_succ, List.length_cons, List.length_nil, Nat.reduceAdd, Nat.reduceLT, Nat.reduceLeDiff, Nat.reduceEqDiff, Bool.and_false, Bool.and_true, Bool.true_and, Bool.false_and, Bool.false_eq_true, if_false, if_true, ite_true, ite_false, Fin.isValue, Fin.val_zero, Fin.val_one, Fin.val_two, gz0, gz1, gz2, gz3, List.take_succ_cons, List.take_zero, List.drop_succ_cons, List.drop_zero, List.reverse_cons, List.reverse_nil, List.nil_append, List.cons_append, gx_nx, Int32.reduceToInt, Int.reduceToNat, Int.toNat_zero, Int.toNat_one, Int.reduceLT, Int.reduceLE, Int.ofNat_zero, Int.reduceNeg, Int.le_refl, and_self, List.getElem?_cons_zero, List.getElem?_cons_succ, true_and, and_true, Nat.reduceSub, List.replicate, List.append_nil, Nat.reduceLeDiff, Nat.le_add_left, Nat.zero_le, Nat.zero_add, gc4_94, gk_iconst_0, gk_iconst_1, gk_iconst_2, gm4_103, gn64, gn66, gr64, gr66, gv66, gi66_0, gi66_1, gi66_2, gi66_4, gi66_5, gi66_6, gi66_7, gi66_8, gi66_9, gi66_12, gi66_13, gi66_14, gi66_15, gi66_16, gi66_17, gi66_18, gi66_19, gi66_20, gi66_22, gi66_25, gi66_28, gi66_29, gi66_30, gi66_33, gi66_34, gi66_35, gi66_38, gi66_39, gl0, gl1, gl2, gl3, gl4, gl5, gl6, gl7, gl8, gl9, gl10, gl11, gl12, gl13, gl14, gl15, gl16, gl17, gl18, gl19, gl20, gl21, gl22, gl23, gl24, gl25, gl26, gl27, gl28, gl29, gl30, gl31, gl32, gl33, gl34, gl35, gl36, gl37, gl38, gl39, gl40, gl41, gl42, gl43, gl44, gl45, gl46, gl47, gl48, gl49, gl50, gl51, gl52, gl53, gl54, gl55, gl56, gl57]
    simp (disch := first | decide | omega) only [gx_w_np, gx_w_p, Int32.reduceToInt, Int.toNat_natCast, if_true, if_false, nI_1, nI_pred, i_nI, ite_true, ite_false, Int.reduceToNat, Nat.reduceEqDiff, Nat.reduceAdd, i_le, e]
    refine ⟨fun q => ?_, fun q => ⟨by decide, ?_⟩⟩
    · obtain ⟨g, g1, g2⟩ := G1
      refine hP a M F h2 ⟨g, g1, by have := G2 g g1; omega⟩ (fun g g1 => by have := G2 g g1; omega)
    · have eh : ((a + b) / 2).toInt = (a.toInt + b.toInt) / 2 := i_half (by omega) (by omega)
      have eD := dR_fr4 F n m
      refine sr_isThere (n := n) (m := m) (by rw [F 34 0 (by decide) (by decide) (by decide) (by omega)]; exact hn) (by rw [F 34 3 (by decide) (by decide) (by decide) (by omega)]; exact hm) (by rw [eD]; exact O) (by rw [eh]; omega) (by rw [eh, zf]; omega) (by rw [zf]; omega) (fun M1 F1 G => ?_) (fun M1 F1 G => ?_)
      · intro z hz
        cases hz
        refine ⟨fun q => absurd q (by decide), fun _ => ih _ _ M1 _ (by rw [eh]; omega) (by rw [eh]; omega) (by rw [eh]; omega) h4 (fr4_t F F1) ?_ G2⟩
        rw [eD] at G
        obtain ⟨g, g1⟩ := G
        have := (SP_iff O (by rw [eh]; omega)).mp g1
        exact ⟨g, this.1, this.2.1⟩
      · intro z hz
        cases hz
        refine ⟨fun _ => ih _ _ M1 _ (by rw [eh]; omega) h2 (by rw [eh]; omega) (by rw [eh]; omega) (fr4_t F F1) G1 (fun g g1 => ?_), fun q => absurd rfl q⟩
        rw [eD] at G
        by_cases w : g 60 < ((a + b) / 2).toInt
        · exact w
        · exact absurd ⟨g, (SP_iff O (by rw [eh]; omega)).mpr ⟨g1, by omega, by rw [zf]; have := FL_free O g1 60 (by omega) (by omega); omega⟩⟩ G
set_option maxRecDepth 100000 in
set_option maxHeartbeats 4000000 in
theorem sr_greatest {X : gx_X} {M : gx_M} {n m : Nat} {P : Option Value → gx_M → Prop} (hn : M 34 0 = nI n) (hm : M 34 3 = nI m) (O : gok (dR M n m)) (hF : ∃ g, FL (dR M n m) g)
    (hP : ∀ (z : Int32) (M1 : gx_M), fr4 M M1 → 0 ≤ z.toInt → (∃ g, FL (dR M n m) g ∧ g 60 = z.toInt) → (∀ g, FL (dR M n m) g → g 60 ≤ z.toInt) → P (some (.int z)) M1) : gx_C X 66 [.ref 34] M P := by
  have zf : (1000000 : Int32).toInt = 1000000 := by decide
  have z0 : (0 : Int32).toInt = 0 := by decide
  refine gx_C_wp 20 ?_
  simp only [gx_w_np, gx_w_p, ne_eq, not_false_eq_true, gx_wp, gx_step, gx_cnd, gb0, gb1, Classical.not_not, List.getD_cons_zero, List.getD_cons_succ, List.set_cons_zero, List.set_cons_succ, List.length_cons, List.length_nil, Nat.reduceAdd, Nat.reduceLT, Nat.reduceLeDiff, Nat.reduceEqDiff, Bool.and_false, Bool.and_true, Bool.true_and, Bool.false_and, Bool.false_eq_true, if_false, if_true, ite_true, ite_false, Fin.isValue, Fin.val_zero, Fin.val_one, Fin.val_two, gz0, gz1, gz2, gz3, List.take_succ_cons, List.take_zero, List.drop_succ_cons, List.drop_zero, List.reverse_cons, List.reverse_nil, List.nil_append, List.cons_append, gx_nx, Int32.reduceToInt, Int.reduceToNat, Int.toNat_zero, Int.toNat_one, Int.reduceLT, Int.reduceLE, Int.ofNat_zero, Int.reduceNeg, Int.le_refl, and_self, List.getElem?_cons_zero, List.getElem?_cons_succ, true_and, and_true, Nat.reduceSub, List.replicate, List.append_nil, Nat.reduceLeDiff, Nat.le_add_left, Nat.zero_le, Nat.zero_add, gc4_94, gk_iconst_0, gk_iconst_1, gk_iconst_2, gm4_103, gn64, gn66, gr64, gr66, gv66, gi66_0, gi66_1, gi66_2, gi66_4, gi66_5, gi66_6, gi66_7, gi66_8, gi66_9, gi66_12, gi66_13, gi66_14, gi66_15, gi66_16, gi66_17, gi66_18, gi66_19, gi66_20, gi66_22, gi66_25, gi66_28, gi66_29, gi66_30, gi66_33, gi66_34, gi66_35, gi66_38, gi66_39, gl0, gl1, gl2, gl3, gl4, gl5, gl6, gl7, gl8, gl9, gl10, gl11, gl12, gl13, gl14, gl15, gl16, gl17, gl18, gl19, gl20, gl21, gl22, gl23, gl24, gl25, gl26, gl27, gl28, gl29, gl30, gl31, gl32, gl33, gl34, gl35, gl36, gl37, gl38, gl39, gl40, gl41, gl42, gl43, gl44, gl45, gl46, gl47, gl48, gl49, gl50, gl51, gl52, gl53, gl54, gl55, gl56, gl57]
  obtain ⟨g, g1⟩ := hF
  refine l66 hn hm O hP 1000001 0 1000000 M _ (by rw [zf, z0]; omega) (by decide) (by decide) (by decide) (fr4_r M) ⟨g, g1, ?_⟩ (fun g g1 => ?_)
  · rw [z0]; exact (FL_nn O g1 60 (by omega)).1
  · have := FL_free O g1 60 (by omega) (by omega)
    rw [zf]; omega
set_option maxRecDepth 100000 in
set_option maxHeartbeats 4000000 in
theorem l67 {X : gx_X} {M0 : gx_M} {n m : Nat} {P : Option Value → gx_M → Prop} (hn : M0 34 0 = nI n) (hm : M0 34 3 = nI m) (O : gok (dR M0 n m))
    (hP : ∀ (z : Int32) (M1 : gx_M), fr4 M0 M1 → 0 ≤ z.toInt → (∃ g, FL (dR M0 n m) g ∧ g 60 = z.toInt) → (∀ g, FL (dR M0 n m) g → z.toInt ≤ g 60) → P (some (.int z)) M1) :
    ∀ (d : Nat) (a b : Int32) (M : gx_M) (v : Value), b.toInt - a.toInt < d → -1 ≤ a.toInt → a.toInt < b.toInt → b.toInt ≤ 1000000 → fr4 M0 M → (∃ g, FL (dR M0 n m) g ∧ g 60 ≤ b.toInt) → (∀ g, FL (dR M0 n m) g → a.toInt < g 60) → gx_OK X 67 5 [.ref 34, .int a, .int b, v] [] M P := by
  have z0 : (0 : Int32).toInt = 0 := by decide
  intro d
  induction d with
  | zero => intro a b M v h1 h2 h3; omega
  | succ d ih =>
    intro a b M v h1 h2 h3 h4 F G1 G2
    have e : (b - a).toInt = b.toInt - a.toInt := i_sub (by omega) (by omega)
    refine gx_wp_ok 40 false _ _ _ _ ?_
    simp only [gx_w_np, gx_w_p, ne_eq, not_false_eq_true, gx_wp, gx_step, gx_cnd, gb0, gb1, Classical.not_not, List.getD_cons_zero, List.getD_cons_succ, List.set_cons_zero, List.set_cons_succ, List.length_cons, List.length_nil, Nat.reduceAdd, Nat.reduceLT, Nat.reduceLeDiff, Nat.reduceEqDiff, Bool.and_false, Bool.and_true, Bool.true_and, Bool.false_and, Bool.false_eq_true, if_false, if_true, ite_true, ite_false, Fin.isValue, Fin.val_zero, Fin.val_one, Fin.val_two, gz0, gz1, gz2, gz3, List.take_succ_cons, List.take_zero, List.drop_succ_cons, List.drop_zero, List.reverse_cons, List.reverse_nil, List.nil_append, List.cons_append, gx_nx, Int32.reduceToInt, Int.reduceToNat, Int.toNat_zero, Int.toNat_one, Int.reduceLT, Int.reduceLE, Int.ofNat_zero, Int.reduceNeg, Int.le_refl, and_self, List.getElem?_cons_zero, List.getElem?_cons_succ, true_and, and_true, Nat.reduceSub, List.replicate, List.append_nil, Nat.reduceLeDiff, Nat.le_add_left, Nat.zero_le, Nat.zero_add, gc4_94, gk_iconst_0, gk_iconst_1, gk_iconst_2, gk_iconst_m1, gm4_103, gn64, gn67, gr64, gr67, gv67, gi67_0, gi67_1, gi67_2, gi67_4, gi67_5, gi67_6, gi67_7, gi67_8, gi67_9, gi67_12, gi67_13, gi67_14, gi67_15, gi67_16, gi67_17, gi67_18, gi67_19, gi67_20, gi67_21, gi67_24, gi67_27, gi67_28, gi67_29, gi67_32, gi67_33, gi67_34, gi67_37, gi67_38, gl0, gl1, gl2, gl3, gl4, gl5, gl6, gl7, gl8, gl9, gl10, gl11, gl12, gl13, gl14, gl15, gl16, gl17, gl18, gl19, gl20, gl21, gl22, gl23, gl24, gl25, gl26, gl27, gl28, gl29, gl30, gl31, gl32, gl33, gl34, gl35, gl36, gl37, gl38, gl39, gl40, gl41, gl42, gl43, gl44, gl45, gl46, gl47, gl48, gl49, gl50, gl51, gl52, gl53, gl54, gl55, gl56, gl57]
    simp (disch := first | decide | omega) only [gx_w_np, gx_w_p, Int32.reduceToInt, Int.toNat_natCast, if_true, if_false, nI_1, nI_pred, i_nI, ite_true, ite_false, Int.reduceToNat, Nat.reduceEqDiff, Nat.reduceAdd, i_le, e]
    refine ⟨fun q => ?_, fun q => ⟨by decide, ?_⟩⟩
    · obtain ⟨g, g1, g2⟩ := G1
      have := FL_nn O g1 60 (by omega)
      refine hP b M F (by omega) ⟨g, g1, by have := G2 g g1; omega⟩ (fun g g1 => by have := G2 g g1; omega)
    · have eh : ((a + b) / 2).toInt = (a.toInt + b.toInt) / 2 := i_half (by omega) (by omega)
      have eD := dR_fr4 F n m
      refine sr_isThere (n := n) (m := m) (by rw [F 34 0 (by decide) (by decide) (by decide) (by omega)]; exact hn) (by rw [F 34 3 (by decide) (by decide) (by decide) (by omega)]; exact hm) (by rw [eD]; exact O) (by decide) (by rw [eh, z0]; omega) (by rw [eh]; omega) (fun M1 F1 G => ?_) (fun M1 F1 G => ?_)
      · intro z hz
        cases hz
        refine ⟨fun q => absurd q (by decide), fun _ => ih _ _ M1 _ (by rw [eh]; omega) h2 (by rw [eh]; omega) (by rw [eh]; omega) (fr4_t F F1) ?_ G2⟩
        rw [eD] at G
        obtain ⟨g, g1⟩ := G
        have := (SP_iff O (by decide)).mp g1
        exact ⟨g, this.1, this.2.2⟩
      · intro z hz
        cases hz
        refine ⟨fun _ => ih _ _ M1 _ (by rw [eh]; omega) (by rw [eh]; omega) (by rw [eh]; omega) h4 (fr4_t F F1) G1 (fun g g1 => ?_), fun q => absurd rfl q⟩
        rw [eD] at G
        by_cases w : ((a + b) / 2).toInt < g 60
        · exact w
        · exact absurd ⟨g, (SP_iff O (by decide)).mpr ⟨g1, by rw [z0]; exact (FL_nn O g1 60 (by omega)).1, by omega⟩⟩ G
set_option maxRecDepth 100000 in
set_option maxHeartbeats 4000000 in
theorem sr_lowest {X : gx_X} {M : gx_M} {n m : Nat} {P : Option Value → gx_M → Prop} (hn : M 34 0 = nI n) (hm : M 34 3 = nI m) (O : gok (dR M n m)) (hF : ∃ g, FL (dR M n m) g)
    (hP : ∀ (z : Int32) (M1 : gx_M), fr4 M M1 → 0 ≤ z.toInt → (∃ g, FL (dR M n m) g ∧ g 60 = z.toInt) → (∀ g, FL (dR M n m) g → z.toInt ≤ g 60) → P (some (.int z)) M1) : gx_C X 67 [.ref 34] M P := by
  have zf : (1000000 : Int32).toInt = 1000000 := by decide
  have z1 : (-1 : Int32).toInt = -1 := by decide
  refine gx_C_wp 20 ?_
  simp only [gx_w_np, gx_w_p, ne_eq, not_false_eq_true, gx_wp, gx_step, gx_cnd, gb0, gb1, Classical.not_not, List.getD_cons_zero, List.getD_cons_succ, List.set_cons_zero, List.set_cons_succ, List.length_cons, List.length_nil, Nat.reduceAdd, Nat.reduceLT, Nat.reduceLeDiff, Nat.reduceEqDiff, Bool.and_false, Bool.and_true, Bool.true_and, Bool.false_and, Bool.false_eq_true, if_false, if_true, ite_true, ite_false, Fin.isValue, Fin.val_zero, Fin.val_one, Fin.val_two, gz0, gz1, gz2, gz3, List.take_succ_cons, List.take_zero, List.drop_succ_cons, List.drop_zero, List.reverse_cons, List.reverse_nil, List.nil_append, List.cons_append, gx_nx, Int32.reduceToInt, Int.reduceToNat, Int.toNat_zero, Int.toNat_one, Int.reduceLT, Int.reduceLE, Int.ofNat_zero, Int.reduceNeg, Int.le_refl, and_self, List.getElem?_cons_zero, List.getElem?_cons_succ, true_and, and_true, Nat.reduceSub, List.replicate, List.append_nil, Nat.reduceLeDiff, Nat.le_add_left, Nat.zero_le, Nat.zero_add, gc4_94, gk_iconst_0, gk_iconst_1, gk_iconst_2, gk_iconst_m1, gm4_103, gn64, gn67, gr64, gr67, gv67, gi67_0, gi67_1, gi67_2, gi67_4, gi67_5, gi67_6, gi67_7, gi67_8, gi67_9, gi67_12, gi67_13, gi67_14, gi67_15, gi67_16, gi67_17, gi67_18, gi67_19, gi67_20, gi67_21, gi67_24, gi67_27, gi67_28, gi67_29, gi67_32, gi67_33, gi67_34, gi67_37, gi67_38, gl0, gl1, gl2, gl3, gl4, gl5, gl6, gl7, gl8, gl9, gl10, gl11, gl12, gl13, gl14, gl15, gl16, gl17, gl18, gl19, gl20, gl21, gl22, gl23, gl24, gl25, gl26, gl27, gl28, gl29, gl30, gl31, gl32, gl33, gl34, gl35, gl36, gl37, gl38, gl39, gl40, gl41, gl42, gl43, gl44, gl45, gl46, gl47, gl48, gl49, gl50, gl51, gl52, gl53, gl54, gl55, gl56, gl57]
  obtain ⟨g, g1⟩ := hF
  refine l67 hn hm O hP 1000002 (-1) 1000000 M _ (by rw [zf, z1]; omega) (by decide) (by decide) (by decide) (fr4_r M) ⟨g, g1, ?_⟩ (fun g g1 => ?_)
  · have := FL_free O g1 60 (by omega) (by omega)
    rw [zf]; omega
  · have := (FL_nn O g1 60 (by omega)).1
    rw [z1]; omega
set_option maxRecDepth 100000 in
set_option maxHeartbeats 4000000 in
theorem l65b {X : gx_X} {n : Nat} {P : Option Value → gx_M → Prop} (hn10 : n ≤ 10) : ∀ (d i : Nat) (M : gx_M), M 34 0 = nI n → i + d = n → (∀ M1, (∀ p, p ≠ 44 → M1 p = M p) → (∀ j, j < i → M1 44 j = M 44 j) → (∀ j, i ≤ j → j < n → M1 44 j = M 35 j) → P none M1) → gx_OK X 65 42 [.ref 34, .int (nI i)] [] M P := by
  intro d
  induction d with
  | zero =>
    intro i M hn hi hP
    refine gx_wp_ok 30 false _ _ _ _ ?_
    simp only [gx_w_np, gx_w_p, ne_eq, not_false_eq_true, gx_wp, gx_step, gx_cnd, gb0, gb1, Classical.not_not, List.getD_cons_zero, List.getD_cons_succ, List.set_cons_zero, List.set_cons_succ, List.length_cons, List.length_nil, Nat.reduceAdd, Nat.reduceLT, Nat.reduceLeDiff, Nat.reduceEqDiff, Bool.and_false, Bool.and_true, Bool.true_and, Bool.false_and, Bool.false_eq_true, if_false, if_true, ite_true, ite_false, Fin.isValue, Fin.val_zero, Fin.val_one, Fin.val_two, gz0, gz1, gz2, gz3, List.take_succ_cons, List.take_zero, List.drop_succ_cons, List.drop_zero, List.reverse_cons, List.reverse_nil, List.nil_append, List.cons_append, gx_nx, Int32.reduceToInt, Int.reduceToNat, Int.toNat_zero, Int.toNat_one, Int.reduceLT, Int.reduceLE, Int.ofNat_zero, Int.reduceNeg, Int.le_refl, and_self, List.getElem?_cons_zero, List.getElem?_cons_succ, true_and, and_true, Nat.reduceSub, List.replicate, List.append_nil, Nat.reduceLeDiff, Nat.le_add_left, Nat.zero_le, Nat.zero_add, gf4_22, gf4_25, gf4_32, gf4_35, gf4_38, gf4_7, gf4_84, gf4_91, gk_iconst_0, gk_iconst_1, gn65, gr65, gv65, gi65_0, gi65_1, gi65_2, gi65_3, gi65_4, gi65_7, gi65_10, gi65_11, gi65_14, gi65_15, gi65_16, gi65_19, gi65_20, gi65_21, gi65_22, gi65_23, gi65_26, gi65_27, gi65_28, gi65_31, gi65_32, gi65_33, gi65_34, gi65_37, gi65_40, gi65_41, gi65_42, gi65_43, gi65_44, gi65_47, gi65_50, gi65_51, gi65_54, gi65_55, gi65_56, gi65_59, gi65_60, gi65_61, gi65_62, gi65_65, gi65_68, gl0, gl1, gl2, gl3, gl4, gl5, gl6, gl7, gl8, gl9, gl10, gl11, gl12, gl13, gl14, gl15, gl16, gl17, gl18, gl19, gl20, gl21, gl22, gl23, gl24, gl25, gl26, gl27, gl28, gl29, gl30, gl31, gl32, gl33, gl34, gl35, gl36, gl37, gl38, gl39, gl40, gl41, gl42, gl43, gl44, gl45, gl46, gl47, gl48, gl49, gl50, gl51, gl52, gl53, gl54, gl55, gl56, gl57]
    simp (disch := first | decide | omega) only [gx_w_np, gx_w_p, Int32.reduceToInt, Int.toNat_natCast, if_true, if_false, nI_1, nI_pred, i_nI, ite_true, ite_false, Int.reduceToNat, Nat.reduceEqDiff, Nat.reduceAdd, hn, i_le]
    exact ⟨fun _ => hP M (fun _ _ => rfl) (fun _ _ => rfl) (fun j x y => absurd y (by omega)), fun q => absurd (by omega) q⟩
  | succ d ih =>
    intro i M hn hi hP
    refine gx_wp_ok 30 false _ _ _ _ ?_
    simp only [gx_w_np, gx_w_p, ne_eq, not_false_eq_true, gx_wp, gx_step, gx_cnd, gb0, gb1, Classical.not_not, List.getD_cons_zero, List.getD_cons_succ, List.set_cons_zero, List.set_cons_succ, List.length_cons, List.length_nil, Nat.reduceAdd, Nat.reduceLT, Nat.reduceLeDiff, Nat.reduceEqDiff, Bool.and_false, Bool.and_true, Bool.true_and, Bool.false_and, Bool.false_eq_true, if_false, if_true, ite_true, ite_false, Fin.isValue, Fin.val_zero, Fin.val_one, Fin.val_two, gz0, gz1, gz2, gz3, List.take_succ_cons, List.take_zero, List.drop_succ_cons, List.drop_zero, List.reverse_cons, List.reverse_nil, List.nil_append, List.cons_append, gx_nx, Int32.reduceToInt, Int.reduceToNat, Int.toNat_zero, Int.toNat_one, Int.reduceLT, Int.reduceLE, Int.ofNat_zero, Int.reduceNeg, Int.le_refl, and_self, List.getElem?_cons_zero, List.getElem?_cons_succ, true_and, and_true, Nat.reduceSub, List.replicate, List.append_nil, Nat.reduceLeDiff, Nat.le_add_left, Nat.zero_le, Nat.zero_add, gf4_22, gf4_25, gf4_32, gf4_35, gf4_38, gf4_7, gf4_84, gf4_91, gk_iconst_0, gk_iconst_1, gn65, gr65, gv65, gi65_0, gi65_1, gi65_2, gi65_3, gi65_4, gi65_7, gi65_10, gi65_11, gi65_14, gi65_15, gi65_16, gi65_19, gi65_20, gi65_21, gi65_22, gi65_23, gi65_26, gi65_27, gi65_28, gi65_31, gi65_32, gi65_33, gi65_34, gi65_37, gi65_40, gi65_41, gi65_42, gi65_43, gi65_44, gi65_47, gi65_50, gi65_51, gi65_54, gi65_55, gi65_56, gi65_59, gi65_60, gi65_61, gi65_62, gi65_65, gi65_68, gl0, gl1, gl2, gl3, gl4, gl5, gl6, gl7, gl8, gl9, gl10, gl11, gl12, gl13, gl14, gl15, gl16, gl17, gl18, gl19, gl20, gl21, gl22, gl23, gl24, gl25, gl26, gl27, gl28, gl29, gl30, gl31, gl32, gl33, gl34, gl35, gl36, gl37, gl38, gl39, gl40, gl41, gl42, gl43, gl44, gl45, gl46, gl47, gl48, gl49, gl50, gl51, gl52, gl53, gl54, gl55, gl56, gl57]
    simp (disch := first | decide | omega) only [gx_w_np, gx_w_p, Int32.reduceToInt, Int.toNat_natCast, if_true, if_false, nI_1, nI_pred, i_nI, ite_true, ite_false, Int.reduceToNat, Nat.reduceEqDiff, Nat.reduceAdd, hn, i_le]
    refine ⟨fun q => absurd q (by omega), fun _ => ⟨by omega, by omega, ih (i + 1) _ (by rw [gx_w_np (by decide)]; exact hn) (by omega) (fun M1 x y z => hP M1 (fun p hp => ?_) (fun j hj => ?_) (fun j hj hn => ?_))⟩⟩
    · rw [x p hp]; funext j; rw [gx_w_np hp]
    · rw [y j (by omega), gx_w_p, if_neg (by omega)]
    · by_cases e : j = i
      · rw [e, y i (by omega), gx_w_p, if_pos rfl]
      · rw [z j (by omega) hn, gx_w_np (by decide)]
set_option maxRecDepth 100000 in
set_option maxHeartbeats 4000000 in
theorem l65a {X : gx_X} {m : Nat} {P : Option Value → gx_M → Prop} (hm40 : m ≤ 40) : ∀ (d i : Nat) (M : gx_M), M 34 3 = nI m → i + d = m → (∀ M1, (∀ p, p ≠ 42 → p ≠ 43 → M1 p = M p) → (∀ j, j < i → M1 42 j = M 42 j ∧ M1 43 j = M 43 j) → (∀ j, i ≤ j → j < m → M1 42 j = M 39 j ∧ M1 43 j = M 40 j) → gx_OK X 65 42 [.ref 34, .int 0] [] M1 P) → gx_OK X 65 2 [.ref 34, .int (nI i)] [] M P := by
  intro d
  induction d with
  | zero =>
    intro i M hm hi hP
    refine gx_wp_ok 30 false _ _ _ _ ?_
    simp only [gx_w_np, gx_w_p, ne_eq, not_false_eq_true, gx_wp, gx_step, gx_cnd, gb0, gb1, Classical.not_not, List.getD_cons_zero, List.getD_cons_succ, List.set_cons_zero, List.set_cons_succ, List.length_cons, List.length_nil, Nat.reduceAdd, Nat.reduceLT, Nat.reduceLeDiff, Nat.reduceEqDiff, Bool.and_false, Bool.and_true, Bool.true_and, Bool.false_and, Bool.false_eq_true, if_false, if_true, ite_true, ite_false, Fin.isValue, Fin.val_zero, Fin.val_one, Fin.val_two, gz0, gz1, gz2, gz3, List.take_succ_cons, List.take_zero, List.drop_succ_cons, List.drop_zero, List.reverse_cons, List.reverse_nil, List.nil_append, List.cons_append, gx_nx, Int32.reduceToInt, Int.reduceToNat, Int.toNat_zero, Int.toNat_one, Int.reduceLT, Int.reduceLE, Int.ofNat_zero, Int.reduceNeg, Int.le_refl, and_self, List.getElem?_cons_zero, List.getElem?_cons_succ, true_and, and_true, Nat.reduceSub, List.replicate, List.append_nil, Nat.reduceLeDiff, Nat.le_add_left, Nat.zero_le, Nat.zero_add, gf4_22, gf4_25, gf4_32, gf4_35, gf4_38, gf4_7, gf4_84, gf4_91, gk_iconst_0, gk_iconst_1, gn65, gr65, gv65, gi65_0, gi65_1, gi65_2, gi65_3, gi65_4, gi65_7, gi65_10, gi65_11, gi65_14, gi65_15, gi65_16, gi65_19, gi65_20, gi65_21, gi65_22, gi65_23, gi65_26, gi65_27, gi65_28, gi65_31, gi65_32, gi65_33, gi65_34, gi65_37, gi65_40, gi65_41, gi65_42, gi65_43, gi65_44, gi65_47, gi65_50, gi65_51, gi65_54, gi65_55, gi65_56, gi65_59, gi65_60, gi65_61, gi65_62, gi65_65, gi65_68, gl0, gl1, gl2, gl3, gl4, gl5, gl6, gl7, gl8, gl9, gl10, gl11, gl12, gl13, gl14, gl15, gl16, gl17, gl18, gl19, gl20, gl21, gl22, gl23, gl24, gl25, gl26, gl27, gl28, gl29, gl30, gl31, gl32, gl33, gl34, gl35, gl36, gl37, gl38, gl39, gl40, gl41, gl42, gl43, gl44, gl45, gl46, gl47, gl48, gl49, gl50, gl51, gl52, gl53, gl54, gl55, gl56, gl57]
    simp (disch := first | decide | omega) only [gx_w_np, gx_w_p, Int32.reduceToInt, Int.toNat_natCast, if_true, if_false, nI_1, nI_pred, i_nI, ite_true, ite_false, Int.reduceToNat, Nat.reduceEqDiff, Nat.reduceAdd, hm, i_le]
    exact ⟨fun _ => hP M (fun _ _ _ => rfl) (fun _ _ => ⟨rfl, rfl⟩) (fun j x y => absurd y (by omega)), fun q => absurd (by omega) q⟩
  | succ d ih =>
    intro i M hm hi hP
    refine gx_wp_ok 30 false _ _ _ _ ?_
    simp only [gx_w_np, gx_w_p, ne_eq, not_false_eq_true, gx_wp, gx_step, gx_cnd, gb0, gb1, Classical.not_not, List.getD_cons_zero, List.getD_cons_succ, List.set_cons_zero, List.set_cons_succ, List.length_cons, List.length_nil, Nat.reduceAdd, Nat.reduceLT, Nat.reduceLeDiff, Nat.reduceEqDiff, Bool.and_false, Bool.and_true, Bool.true_and, Bool.false_and, Bool.false_eq_true, if_false, if_true, ite_true, ite_false, Fin.isValue, Fin.val_zero, Fin.val_one, Fin.val_two, gz0, gz1, gz2, gz3, List.take_succ_cons, List.take_zero, List.drop_succ_cons, List.drop_zero, List.reverse_cons, List.reverse_nil, List.nil_append, List.cons_append, gx_nx, Int32.reduceToInt, Int.reduceToNat, Int.toNat_zero, Int.toNat_one, Int.reduceLT, Int.reduceLE, Int.ofNat_zero, Int.reduceNeg, Int.le_refl, and_self, List.getElem?_cons_zero, List.getElem?_cons_succ, true_and, and_true, Nat.reduceSub, List.replicate, List.append_nil, Nat.reduceLeDiff, Nat.le_add_left, Nat.zero_le, Nat.zero_add, gf4_22, gf4_25, gf4_32, gf4_35, gf4_38, gf4_7, gf4_84, gf4_91, gk_iconst_0, gk_iconst_1, gn65, gr65, gv65, gi65_0, gi65_1, gi65_2, gi65_3, gi65_4, gi65_7, gi65_10, gi65_11, gi65_14, gi65_15, gi65_16, gi65_19, gi65_20, gi65_21, gi65_22, gi65_23, gi65_26, gi65_27, gi65_28, gi65_31, gi65_32, gi65_33, gi65_34, gi65_37, gi65_40, gi65_41, gi65_42, gi65_43, gi65_44, gi65_47, gi65_50, gi65_51, gi65_54, gi65_55, gi65_56, gi65_59, gi65_60, gi65_61, gi65_62, gi65_65, gi65_68, gl0, gl1, gl2, gl3, gl4, gl5, gl6, gl7, gl8, gl9, gl10, gl11, gl12, gl13, gl14, gl15, gl16, gl17, gl18, gl19, gl20, gl21, gl22, gl23, gl24, gl25, gl26, gl27, gl28, gl29, gl30, gl31, gl32, gl33, gl34, gl35, gl36, gl37, gl38, gl39, gl40, gl41, gl42, gl43, gl44, gl45, gl46, gl47, gl48, gl49, gl50, gl51, gl52, gl53, gl54, gl55, gl56, gl57]
    simp (disch := first | decide | omega) only [gx_w_np, gx_w_p, Int32.reduceToInt, Int.toNat_natCast, if_true, if_false, nI_1, nI_pred, i_nI, ite_true, ite_false, Int.reduceToNat, Nat.reduceEqDiff, Nat.reduceAdd, hm, i_le]
    refine ⟨fun q => absurd q (by omega), fun _ => ⟨by omega, by omega, by omega, by omega, ih (i + 1) _ (by rw [gx_w_np (by decide), gx_w_np (by decide)]; exact hm) (by omega) (fun M1 x y z => hP M1 (fun p h1 h2 => ?_) (fun j hj => ?_) (fun j hj hn => ?_))⟩⟩
    · rw [x p h1 h2]; funext j; rw [gx_w_np h2, gx_w_np h1]
    · rw [(y j (by omega)).1, (y j (by omega)).2]
      simp (disch := first | decide | omega) only [gx_w_np, gx_w_p, Int32.reduceToInt, Int.toNat_natCast, if_true, if_false, nI_1, nI_pred, i_nI, ite_true, ite_false, Int.reduceToNat, Nat.reduceEqDiff, Nat.reduceAdd]
      rw [if_neg (by omega), if_neg (by omega)]
      exact ⟨rfl, rfl⟩
    · by_cases e : j = i
      · rw [e, (y i (by omega)).1, (y i (by omega)).2]
        simp (disch := first | decide | omega) only [gx_w_np, gx_w_p, Int32.reduceToInt, Int.toNat_natCast, if_true, if_false, nI_1, nI_pred, i_nI, ite_true, ite_false, Int.reduceToNat, Nat.reduceEqDiff, Nat.reduceAdd]
        exact ⟨trivial, trivial⟩
      · rw [(z j (by omega) hn).1, (z j (by omega) hn).2]
        simp (disch := first | decide | omega) only [gx_w_np, gx_w_p, Int32.reduceToInt, Int.toNat_natCast, if_true, if_false, nI_1, nI_pred, i_nI, ite_true, ite_false, Int.reduceToNat, Nat.reduceEqDiff, Nat.reduceAdd]
        exact ⟨trivial, trivial⟩
/-- what the reference was told -/
def dS (M : gx_M) (n m : Nat) : gD := (n, m, (fun k => decide (M 41 k ≠ 0)), M 37, M 38, M 36, M 35, M 39, M 40)
def frT (M M1 : gx_M) : Prop := ∀ p, p ≠ 42 → p ≠ 43 → p ≠ 44 → M1 p = M p
set_option maxRecDepth 100000 in
set_option maxHeartbeats 4000000 in
theorem sr_take {X : gx_X} {M : gx_M} {n m : Nat} {P : Option Value → gx_M → Prop} (hn : M 34 0 = nI n) (hm : M 34 3 = nI m) (hn10 : n ≤ 10) (hm40 : m ≤ 40)
    (hP : ∀ M1, frT M M1 → (∀ k, k < m → M1 42 k = M 39 k ∧ M1 43 k = M 40 k) → (∀ v, v < n → M1 44 v = M 35 v) → P none M1) : gx_C X 65 [.ref 34] M P := by
  refine gx_C_wp 20 ?_
  simp only [gx_w_np, gx_w_p, ne_eq, not_false_eq_true, gx_wp, gx_step, gx_cnd, gb0, gb1, Classical.not_not, List.getD_cons_zero, List.getD_cons_succ, List.set_cons_zero, List.set_cons_succ, List.length_cons, List.length_nil, Nat.reduceAdd, Nat.reduceLT, Nat.reduceLeDiff, Nat.reduceEqDiff, Bool.and_false, Bool.and_true, Bool.true_and, Bool.false_and, Bool.false_eq_true, if_false, if_true, ite_true, ite_false, Fin.isValue, Fin.val_zero, Fin.val_one, Fin.val_two, gz0, gz1, gz2, gz3, List.take_succ_cons, List.take_zero, List.drop_succ_cons, List.drop_zero, List.reverse_cons, List.reverse_nil, List.nil_append, List.cons_append, gx_nx, Int32.reduceToInt, Int.reduceToNat, Int.toNat_zero, Int.toNat_one, Int.reduceLT, Int.reduceLE, Int.ofNat_zero, Int.reduceNeg, Int.le_refl, and_self, List.getElem?_cons_zero, List.getElem?_cons_succ, true_and, and_true, Nat.reduceSub, List.replicate, List.append_nil, Nat.reduceLeDiff, Nat.le_add_left, Nat.zero_le, Nat.zero_add, gf4_22, gf4_25, gf4_32, gf4_35, gf4_38, gf4_7, gf4_84, gf4_91, gk_iconst_0, gk_iconst_1, gn65, gr65, gv65, gi65_0, gi65_1, gi65_2, gi65_3, gi65_4, gi65_7, gi65_10, gi65_11, gi65_14, gi65_15, gi65_16, gi65_19, gi65_20, gi65_21, gi65_22, gi65_23, gi65_26, gi65_27, gi65_28, gi65_31, gi65_32, gi65_33, gi65_34, gi65_37, gi65_40, gi65_41, gi65_42, gi65_43, gi65_44, gi65_47, gi65_50, gi65_51, gi65_54, gi65_55, gi65_56, gi65_59, gi65_60, gi65_61, gi65_62, gi65_65, gi65_68, gl0, gl1, gl2, gl3, gl4, gl5, gl6, gl7, gl8, gl9, gl10, gl11, gl12, gl13, gl14, gl15, gl16, gl17, gl18, gl19, gl20, gl21, gl22, gl23, gl24, gl25, gl26, gl27, gl28, gl29, gl30, gl31, gl32, gl33, gl34, gl35, gl36, gl37, gl38, gl39, gl40, gl41, gl42, gl43, gl44, gl45, gl46, gl47, gl48, gl49, gl50, gl51, gl52, gl53, gl54, gl55, gl56, gl57]
  rw [← nI_0]
  refine l65a hm40 m 0 M hm (by omega) (fun M1 x y z => ?_)
  rw [← nI_0]
  refine l65b hn10 n 0 M1 (by rw [x 34 (by decide) (by decide)]; exact hn) (by omega) (fun M2 x2 y2 z2 => hP M2 (fun p a b c => by rw [x2 p c, x p a b]) (fun k hk => ?_) (fun v hv => ?_))
  · rw [x2 42 (by decide), x2 43 (by decide)]; exact z k (by omega) hk
  · rw [z2 v (by omega) hv, x 35 (by decide) (by decide)]
theorem dR_take {M M1 : gx_M} {n m : Nat} (F : frT M M1) (h1 : ∀ k, k < m → M1 42 k = M 39 k ∧ M1 43 k = M 40 k) (h2 : ∀ v, v < n → M1 44 v = M 35 v) : deq (dR M1 n m) (dS M n m) := by
  refine ⟨rfl, rfl, fun v hv => ⟨h2 v hv, ?_⟩, fun k hk => ⟨?_, fun _ => ⟨?_, ?_, (h1 k hk).1, (h1 k hk).2⟩⟩⟩
  · show M1 36 v = M 36 v; rw [F 36 (by decide) (by decide) (by decide)]
  · show decide (M1 41 k ≠ 0) = decide (M 41 k ≠ 0); rw [F 41 (by decide) (by decide) (by decide)]
  · show M1 37 k = M 37 k; rw [F 37 (by decide) (by decide) (by decide)]
  · show M1 38 k = M 38 k; rw [F 38 (by decide) (by decide) (by decide)]
theorem gok_eq {D D2 : gD} (Q : deq D D2) (O : gok D2) : gok D := by
  obtain ⟨q1, q2, q3, q4⟩ := Q
  refine ⟨by rw [q1]; exact O.1, by rw [q2]; exact O.2.1, fun v hv => ?_, fun k hk a => ?_⟩
  · rw [(q3 v hv).1, (q3 v hv).2]; exact O.2.2.1 v (by rw [← q1]; exact hv)
  · have := (q4 k hk).2 a
    rw [this.1, this.2.1, this.2.2.1, this.2.2.2, q1]
    exact O.2.2.2 k (by rw [← q2]; exact hk) (by rw [← (q4 k hk).1]; exact a)
