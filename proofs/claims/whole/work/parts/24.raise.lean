/-! carry's contract; raise and lower: the most, the least that an edge can have. -/
set_option maxRecDepth 100000 in
set_option maxHeartbeats 4000000 in
theorem sp_carry {X : gx_X} {M0 : gx_M} {ep : Nat → Bool} {s g : Nat} {l : Int32} {P : Option Value → gx_M → Prop} (hs : s < 22) (hg : g < 22) (hgs : g ≠ s) (N0 : nv M0 ep) (hl0 : 0 ≤ l.toInt) (hl : l.toInt ≤ 200000)
    (hP : ∀ (c : Int32) (M : gx_M), 0 ≤ c.toInt → c.toInt ≤ l.toInt → cy M0 M s g c.toInt → (c.toInt = l.toInt ∨ cut M ep s g) → P (some (.int c)) M) : gx_C X 17 [.ref 2, .int (nI s), .int (nI g), .int l] M0 P := by
  refine gx_C_wp 100 ?_
  simp only [gx_w_np, gx_w_p, ne_eq, not_false_eq_true, gx_wp, gx_step, gx_cnd, gb0, gb1, Classical.not_not, List.getD_cons_zero, List.getD_cons_succ, List.set_cons_zero, List.set_cons_succ, List.length_cons, List.length_nil, Nat.reduceAdd, Nat.reduceLT, Nat.reduceLeDiff, Nat.reduceEqDiff, Bool.and_false, Bool.and_true, Bool.true_and, Bool.false_and, Bool.false_eq_true, if_false, if_true, ite_true, ite_false, Fin.isValue, Fin.val_zero, Fin.val_one, Fin.val_two, gz0, gz1, gz2, gz3, List.take_succ_cons, List.take_zero, List.drop_succ_cons, List.drop_zero, List.reverse_cons, List.reverse_nil, List.nil_append, List.cons_append, gx_nx, Int32.reduceToInt, Int.reduceToNat, Int.toNat_zero, Int.toNat_one, Int.reduceLT, Int.reduceLE, Int.ofNat_zero, Int.reduceNeg, Int.le_refl, and_self, List.getElem?_cons_zero, List.getElem?_cons_succ, true_and, and_true, Nat.reduceSub, List.replicate, List.append_nil, Nat.reduceLeDiff, Nat.le_add_left, Nat.zero_le, Nat.zero_add, gk_iconst_0, gk_iconst_1, gm1_63, gm1_72, gm1_76, gm1_80, gn103, gn17, gn18, gn19, gn20, gr103, gr17, gr18, gr19, gr20, gv17, gi17_0, gi17_1, gi17_3, gi17_4, gi17_6, gi17_8, gi17_9, gi17_12, gi17_14, gi17_15, gi17_18, gi17_19, gi17_20, gi17_21, gi17_24, gi17_27, gi17_30, gi17_31, gi17_33, gi17_34, gi17_35, gi17_36, gi17_39, gi17_42, gi17_44, gi17_45, gi17_46, gi17_48, gi17_51, gi17_53, gi17_55, gi17_56, gi17_58, gi17_61, gi17_64, gi17_66, gl0, gl1, gl2, gl3, gl4, gl5, gl6, gl7, gl8, gl9, gl10, gl11, gl12, gl13, gl14, gl15, gl16, gl17, gl18, gl19, gl20, gl21, gl22, gl23, gl24, gl25, gl26, gl27, gl28, gl29, gl30, gl31, gl32, gl33, gl34, gl35, gl36, gl37, gl38, gl39, gl40, gl41, gl42, gl43, gl44, gl45, gl46, gl47, gl48, gl49, gl50, gl51, gl52, gl53, gl54, gl55, gl56, gl57]
  have h1 := l_carry (X := X) hs hg hgs N0 hl0 hl hP l.toInt.toNat 0 0 M0 .null (by omega) (by decide) (by simpa using hl0) (cy_0 N0 (fun _ _ _ => rfl))
  rw [nI_0] at h1
  exact h1
/-- the ends of all edges are vertices -/
def nw (M : gx_M) : Prop := ∀ e, e < 61 → na M e < 22 ∧ nb M e < 22
def circ (M : gx_M) (f : Nat → Int) : Prop := ∀ v, v < 22 → nt_d 61 (na M) (nb M) f v = 0
/-- f keeps the bounds, and what is held -/
def keeps_ (M : gx_M) (f : Nat → Int) : Prop := ∀ j, j < 61 → nlo M j ≤ f j ∧ f j ≤ nhi M j ∧ (M 16 j ≠ 0 → f j = nf M j)
/-- behind a cut: no edge but e can have more out of the set, none less into it -/
theorem cut_out {M : gx_M} {ep : Nat → Bool} {s g : Nat} (N : nv M ep) {S : Nat → Bool} (hS : ∀ h, h < 122 → ep (h / 2) = true → S (nt_e M (b_x h)).toInt.toNat = true → 0 < (nt_l M h).toInt → S (nt_e M h).toInt.toNat = true) {f : Nat → Int} {j : Nat} (hj : j < 61) (hf : nlo M j ≤ f j ∧ f j ≤ nhi M j ∧ (M 16 j ≠ 0 → f j = nf M j)) :
    (S (na M j) = true → S (nb M j) = false → f j ≤ nf M j) ∧ (S (na M j) = false → S (nb M j) = true → nf M j ≤ f j) := by
  have n1 := N.2 j hj
  by_cases hp : ep j = true
  · refine ⟨fun a b => ?_, fun a b => ?_⟩
    · by_cases z : 0 < (nt_l M (2 * j)).toInt
      · have := hS (2 * j) (by omega) (by rw [show 2 * j / 2 = j by omega]; exact hp) (by
          have e1 : nt_e M (b_x (2 * j)) = M 13 j := by
            unfold nt_e b_x
            rw [if_pos (show 2 * j % 2 = 0 by omega), if_neg (by omega), show (2 * j + 1) / 2 = j by omega]
          rw [e1]; exact a) z
        have e2 : nt_e M (2 * j) = M 14 j := by
          unfold nt_e
          rw [if_pos (by omega), show 2 * j / 2 = j by omega]
        rw [e2] at this
        exact absurd (this.symm.trans b) (by decide)
      · unfold nt_l at z
        rw [show 2 * j / 2 = j by omega] at z
        by_cases q : M 16 j = 0
        · rw [if_pos q, if_pos (by omega), i_sub (by unfold nf nhi at n1; omega) (by unfold nf nhi at n1; omega)] at z
          unfold nf nhi at *
          omega
        · exact Int.le_of_eq (hf.2.2 q)
    · by_cases z : 0 < (nt_l M (2 * j + 1)).toInt
      · have := hS (2 * j + 1) (by omega) (by rw [show (2 * j + 1) / 2 = j by omega]; exact hp) (by
          have e1 : nt_e M (b_x (2 * j + 1)) = M 14 j := by
            unfold nt_e b_x
            rw [if_neg (show ¬ (2 * j + 1) % 2 = 0 by omega), if_pos (by omega), show (2 * j + 1 - 1) / 2 = j by omega]
          rw [e1]; exact b) z
        have e2 : nt_e M (2 * j + 1) = M 13 j := by
          unfold nt_e
          rw [if_neg (by omega), show (2 * j + 1) / 2 = j by omega]
        rw [e2] at this
        exact absurd (this.symm.trans a) (by decide)
      · unfold nt_l at z
        rw [show (2 * j + 1) / 2 = j by omega] at z
        by_cases q : M 16 j = 0
        · rw [if_pos q, if_neg (by omega), i_sub (by unfold nf nlo nhi at n1; omega) (by unfold nf nlo nhi at n1; omega)] at z
          unfold nf nlo at *
          omega
        · exact Int.le_of_eq (hf.2.2 q).symm
  · have hp : ep j = false := by simpa using hp
    have := n1.2.2.2.2.2 hp
    exact ⟨fun _ _ => by omega, fun _ _ => by omega⟩
/-- behind raise and lower: c more (less) on e -/
def rz (M M2 : gx_M) (e : Nat) (c : Int) : Prop := (∀ p, p ≠ 15 → p ≠ 16 → p ≠ 19 → p ≠ 20 → M2 p = M p) ∧ (∀ j, M2 16 j = if j = e then 0 else M 16 j) ∧ nf M2 e = nf M e + c ∧
  (∀ j, j < 61 → j ≠ e → (M 16 j ≠ 0 → nf M2 j = nf M j) ∧ (nf M j ≤ nf M2 j ∨ nlo M j ≤ nf M2 j) ∧ nf M2 j ≤ nhi M j) ∧
  (∀ v, nt_d 61 (na M) (nb M) (nf M2) v = nt_d 61 (na M) (nb M) (nf M) v)
theorem nv_w {M : gx_M} {ep : Nat → Bool} {e : Nat} {x : Int32} (N : nv M ep) : nv (gx_w M 16 e x) ep := by
  have e1 : ∀ p, p ≠ 16 → (gx_w M 16 e x) p = M p := fun p hp => by funext j; rw [gx_w_np hp]
  have e2 : ∀ y, nt_e (gx_w M 16 e x) y = nt_e M y := fun y => by unfold nt_e; rw [e1 13 (by decide), e1 14 (by decide)]
  unfold nv st_H nlo nhi nf
  rw [e1 11 (by decide), e1 12 (by decide), e1 13 (by decide), e1 14 (by decide), e1 15 (by decide), e1 17 (by decide), e1 18 (by decide)]
  simp only [e2]
  exact N
set_option maxRecDepth 100000 in
set_option maxHeartbeats 4000000 in
theorem sp_raise {X : gx_X} {M : gx_M} {ep : Nat → Bool} {e : Nat} {l : Int32} {P : Option Value → gx_M → Prop} (he : e < 61) (N : nv M ep) (W : nw M) (hab : na M e ≠ nb M e) (hpos : 0 ≤ (M 13 e).toInt ∧ 0 ≤ (M 14 e).toInt) (hl0 : 0 ≤ l.toInt) (hl : l.toInt ≤ 200000) (hC : circ M (nf M))
    (hP : ∀ (c : Int32) (M2 : gx_M), 0 ≤ c.toInt → c.toInt ≤ l.toInt → nf M e + c.toInt ≤ nhi M e → rz M M2 e c.toInt → (c.toInt = l.toInt ∨ nf M e + c.toInt = nhi M e ∨ ∀ f, circ M f → (∀ j, j < 61 → j ≠ e → nlo M j ≤ f j ∧ f j ≤ nhi M j ∧ (M 16 j ≠ 0 → f j = nf M2 j)) → f e ≤ nf M2 e) → P (some (.int c)) M2) : gx_C X 15 [.ref 2, .int (nI e), .int l] M P := by
  refine gx_C_wp 100 ?_
  simp only [gx_w_np, gx_w_p, ne_eq, not_false_eq_true, gx_wp, gx_step, gx_cnd, gb0, gb1, Classical.not_not, List.getD_cons_zero, List.getD_cons_succ, List.set_cons_zero, List.set_cons_succ, List.length_cons, List.length_nil, Nat.reduceAdd, Nat.reduceLT, Nat.reduceLeDiff, Nat.reduceEqDiff, Bool.and_false, Bool.and_true, Bool.true_and, Bool.false_and, Bool.false_eq_true, if_false, if_true, ite_true, ite_false, Fin.isValue, Fin.val_zero, Fin.val_one, Fin.val_two, gz0, gz1, gz2, gz3, List.take_succ_cons, List.take_zero, List.drop_succ_cons, List.drop_zero, List.reverse_cons, List.reverse_nil, List.nil_append, List.cons_append, gx_nx, Int32.reduceToInt, Int.reduceToNat, Int.toNat_zero, Int.toNat_one, Int.reduceLT, Int.reduceLE, Int.ofNat_zero, Int.reduceNeg, Int.le_refl, and_self, List.getElem?_cons_zero, List.getElem?_cons_succ, true_and, and_true, Nat.reduceSub, List.replicate, List.append_nil, Nat.reduceLeDiff, Nat.le_add_left, Nat.zero_le, Nat.zero_add, gf1_15, gf1_18, gf1_21, gf1_24, gf1_27, gk_iconst_0, gk_iconst_1, gm1_63, gm1_68, gn103, gn15, gn17, gr103, gr15, gr17, gv15, gi15_0, gi15_1, gi15_4, gi15_5, gi15_6, gi15_7, gi15_8, gi15_9, gi15_12, gi15_13, gi15_14, gi15_15, gi15_18, gi15_19, gi15_20, gi15_21, gi15_22, gi15_25, gi15_26, gi15_27, gi15_28, gi15_31, gi15_32, gi15_33, gi15_34, gi15_37, gi15_40, gi15_41, gi15_42, gi15_45, gi15_46, gi15_47, gi15_48, gi15_49, gi15_50, gi15_51, gi15_52, gi15_55, gi15_56, gi15_57, gi15_58, gi15_59, gl0, gl1, gl2, gl3, gl4, gl5, gl6, gl7, gl8, gl9, gl10, gl11, gl12, gl13, gl14, gl15, gl16, gl17, gl18, gl19, gl20, gl21, gl22, gl23, gl24, gl25, gl26, gl27, gl28, gl29, gl30, gl31, gl32, gl33, gl34, gl35, gl36, gl37, gl38, gl39, gl40, gl41, gl42, gl43, gl44, gl45, gl46, gl47, gl48, gl49, gl50, gl51, gl52, gl53, gl54, gl55, gl56, gl57]
  simp (disch := first | decide | omega) only [gx_w_np, gx_w_p, Int32.reduceToInt, Int.toNat_natCast, if_true, if_false, nI_1, nI_pred, i_nI, ite_true, ite_false, Int.reduceToNat, Nat.reduceEqDiff, Nat.reduceAdd]
  refine ⟨by omega, by omega, by omega, by omega, by omega, ?_⟩
  have n1 := N.2 e he
  have e1 : (M 12 e - M 15 e).toInt = nhi M e - nf M e := i_sub (by unfold nf nhi at n1; omega) (by unfold nf nhi at n1; omega)
  have hw := W e he
  have ea : M 13 e = nI (na M e) := i_nat hpos.1
  have eb : M 14 e = nI (nb M e) := i_nat hpos.2
  have go : ∀ x : Int32, 0 ≤ x.toInt → x.toInt ≤ 200000 → x.toInt ≤ l.toInt → x.toInt ≤ nhi M e - nf M e → (x.toInt = l.toInt ∨ x.toInt = nhi M e - nf M e) → gx_C X 17 [.ref 2, .int (M 14 e), .int (M 13 e), .int x] (gx_w M 16 e 1) (fun r M1 => ∀ (x : Int32), r = some (.int x) → (0 ≤ (e : Int) ∧ (e : Int) < ((61 : Nat) : Int)) ∧ (0 ≤ (e : Int) ∧ (e : Int) < ((61 : Nat) : Int)) ∧ (0 ≤ (e : Int) ∧ (e : Int) < ((61 : Nat) : Int)) ∧ P (some (.int x)) (gx_w (gx_w M1 15 e (M1 15 e + x)) 16 e 0)) := by
    intro x x1 x2 x3 x4 x5
    rw [ea, eb]
    refine sp_carry (ep := ep) hw.2 hw.1 hab (nv_w N) x1 x2 (fun c M1 c1 c2 C K => ?_)
    intro z hz
    cases hz
    refine ⟨by omega, by omega, by omega, ?_⟩
    have N1 := nv_cy (nv_w (e := e) (x := 1) N) C
    obtain ⟨k1, k2, k3⟩ := C
    have g1 : ∀ p, p ≠ 15 → p ≠ 16 → p ≠ 19 → p ≠ 20 → M1 p = M p := fun p h1 h2 h3 h4 => by rw [k1 p h1 h3 h4]; funext j; rw [gx_w_np h2]
    have g16 : ∀ j, M1 16 j = if j = e then 1 else M 16 j := fun j => by rw [k1 16 (by decide) (by decide) (by decide), gx_w_p]
    have gf : nf (gx_w M 16 e 1) = nf M := by unfold nf; funext j; rw [gx_w_np (by decide)]
    have ga : na (gx_w M 16 e 1) = na M := by unfold na; funext j; rw [gx_w_np (by decide)]
    have gb : nb (gx_w M 16 e 1) = nb M := by unfold nb; funext j; rw [gx_w_np (by decide)]
    have gl : nlo (gx_w M 16 e 1) = nlo M := by unfold nlo; funext j; rw [gx_w_np (by decide)]
    have gh : nhi (gx_w M 16 e 1) = nhi M := by unfold nhi; funext j; rw [gx_w_np (by decide)]
    rw [gf, ga, gb] at k3
    rw [gf, gl, gh] at k2
    have fe : nf M1 e = nf M e := (k2 e he).1 (by rw [gx_w_p, if_pos rfl]; decide)
    have sum : (M1 15 e + c).toInt = nf M e + c.toInt := by
      have : (M1 15 e).toInt = nf M e := fe
      rw [i_add (by omega) (by omega), this]
    generalize hM2 : gx_w (gx_w M1 15 e (M1 15 e + c)) 16 e 0 = M2
    have q15 : ∀ j, nf M2 j = if j = e then nf M e + c.toInt else nf M1 j := fun j => by
      rw [← hM2]; unfold nf
      rw [gx_w_np (by decide), gx_w_p]
      by_cases z : j = e
      · rw [if_pos z, if_pos z]; exact sum
      · rw [if_neg z, if_neg z]
    have q16 : ∀ j, M2 16 j = if j = e then 0 else M 16 j := fun j => by
      rw [← hM2, gx_w_p, gx_w_np (by decide), g16]
      by_cases z : j = e
      · rw [if_pos z, if_pos z]
      · rw [if_neg z, if_neg z, if_neg z]
    have qp : ∀ p, p ≠ 15 → p ≠ 16 → p ≠ 19 → p ≠ 20 → M2 p = M p := fun p h1 h2 h3 h4 => by
      rw [← hM2, ← g1 p h1 h2 h3 h4]; funext j; rw [gx_w_np h2, gx_w_np h1]
    have qd : ∀ v, nt_d 61 (na M) (nb M) (nf M2) v = nt_d 61 (na M) (nb M) (nf M) v := fun v => by
      rw [nt_d_up (f := nf M1) (δ := c.toInt) he (by rw [q15, if_pos rfl, fe]) (fun i _ hi => by rw [q15, if_neg hi]), k3 v]
      unfold nt_c
      have s1 : (if nb M e = v then (1 : Int) else 0) = if v = nb M e then 1 else 0 := by
        by_cases z : v = nb M e
        · rw [if_pos z, if_pos z.symm]
        · rw [if_neg z, if_neg (fun q => z q.symm)]
      have s2 : (if na M e = v then (1 : Int) else 0) = if v = na M e then 1 else 0 := by
        by_cases z : v = na M e
        · rw [if_pos z, if_pos z.symm]
        · rw [if_neg z, if_neg (fun q => z q.symm)]
      rw [s1, s2, Int.mul_comm _ c.toInt, Int.add_assoc, ← Int.mul_add]
      have : (if v = na M e then (1 : Int) else 0) - (if v = nb M e then 1 else 0) + ((if v = nb M e then 1 else 0) - (if v = na M e then 1 else 0)) = 0 := by omega
      rw [this]; omega
    refine hP c M2 c1 (by omega) (by omega) ⟨qp, q16, by rw [q15, if_pos rfl], fun j hj hne => ?_, qd⟩ ?_
    · have := k2 j hj
      rw [gx_w_p, if_neg hne] at this
      rw [q15, if_neg hne]
      exact this
    · rcases K with K | ⟨S, S1, S2, S3⟩
      · rcases x5 with z | z
        · exact Or.inl (by omega)
        · exact Or.inr (Or.inl (by omega))
      · refine Or.inr (Or.inr (fun f F1 F2 => ?_))
        have a1 : na M1 = na M := by unfold na; rw [g1 13 (by decide) (by decide) (by decide) (by decide)]
        have b1 : nb M1 = nb M := by unfold nb; rw [g1 14 (by decide) (by decide) (by decide) (by decide)]
        have l1 : nlo M1 = nlo M := by unfold nlo; rw [g1 11 (by decide) (by decide) (by decide) (by decide)]
        have h1 : nhi M1 = nhi M := by unfold nhi; rw [g1 12 (by decide) (by decide) (by decide) (by decide)]
        have co := fun (j : Nat) (hj : j < 61) (hne : j ≠ e) => cut_out (s := nb M e) (g := na M e) N1 S3 (f := f) hj (by
          have := F2 j hj hne
          rw [l1, h1]
          refine ⟨this.1, this.2.1, fun z => ?_⟩
          rw [g16, if_neg hne] at z
          rw [this.2.2 z, q15, if_neg hne])
        rw [a1, b1] at co
        have := nt_most (n := 61) (V := 22) (fr := na M) (to := nb M) (g := nf M2) (h := f) S (fun j hj => (W j hj).1) (fun j hj => (W j hj).2) (fun v hv => by rw [qd v]; exact hC v hv) F1 he S2 S1 (fun j hj hne s1 s2 => by rw [q15, if_neg hne]; exact (co j hj hne).1 s1 s2) (fun j hj hne s1 s2 => by rw [q15, if_neg hne]; exact (co j hj hne).2 s1 s2)
        exact this
  refine sp_min (fun q => ?_) (fun q => ?_)
  · intro z hz
    cases hz
    rw [e1] at q
    exact go _ (by rw [e1]; omega) (by rw [e1]; omega) (by rw [e1]; omega) (by rw [e1]; omega) (Or.inr e1)
  · intro z hz
    cases hz
    rw [e1] at q
    exact go _ hl0 hl (Int.le_refl _) q (Or.inl rfl)
