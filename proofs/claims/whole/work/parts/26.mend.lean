/-! mend: every arc up to its least, or no flow. -/
theorem st_H_eq2 {M M1 : gx_M} {ep : Nat → Bool} (h13 : M1 13 = M 13) (h14 : M1 14 = M 14) (h17 : M1 17 = M 17) (h18 : M1 18 = M 18) (H : st_H M ep) : st_H M1 ep := by
  have e1 : ∀ x, nt_e M1 x = nt_e M x := fun x => by unfold nt_e; rw [h13, h14]
  unfold st_H
  rw [h13, h14, h17, h18]
  simp only [e1]
  exact H
theorem rz_na {M M2 : gx_M} {e : Nat} {c : Int} (R : rz M M2 e c) : na M2 = na M ∧ nb M2 = nb M ∧ nlo M2 = nlo M ∧ nhi M2 = nhi M := by
  obtain ⟨r1, -⟩ := R
  unfold na nb nlo nhi
  rw [r1 13 (by decide) (by decide) (by decide) (by decide), r1 14 (by decide) (by decide) (by decide) (by decide), r1 11 (by decide) (by decide) (by decide) (by decide), r1 12 (by decide) (by decide) (by decide) (by decide)]
  exact ⟨rfl, rfl, rfl, rfl⟩
theorem nv_rz {M M2 : gx_M} {ep : Nat → Bool} {e : Nat} {c : Int} (N : nv M ep) (R : rz M M2 e c) (h1 : 0 ≤ nf M e + c) (h2 : nf M e + c ≤ nhi M e) : nv M2 ep := by
  obtain ⟨e1, e2, e3, e4⟩ := rz_na R
  obtain ⟨r1, r2, r3, r4, r5⟩ := R
  refine ⟨st_H_eq2 (r1 13 (by decide) (by decide) (by decide) (by decide)) (r1 14 (by decide) (by decide) (by decide) (by decide)) (r1 17 (by decide) (by decide) (by decide) (by decide)) (r1 18 (by decide) (by decide) (by decide) (by decide)) N.1, fun j hj => ?_⟩
  have n1 := N.2 j hj
  rw [e3, e4]
  by_cases z : j = e
  · subst z
    rw [r3]
    exact ⟨n1.1, n1.2.1, n1.2.2.1, h1, h2, n1.2.2.2.2.2⟩
  · have := r4 j hj z
    refine ⟨n1.1, n1.2.1, n1.2.2.1, ?_, this.2.2, n1.2.2.2.2.2⟩
    rcases this.2.1 with q | q <;> omega
theorem circ_rz {M M2 : gx_M} {e : Nat} {c : Int} (R : rz M M2 e c) (hC : circ M (nf M)) : circ M2 (nf M2) := by
  obtain ⟨e1, e2, e3, e4⟩ := rz_na R
  intro v hv
  rw [e1, e2, R.2.2.2.2 v]
  exact hC v hv
/-- the ends of the edges: vertices, apart where the edge is put -/
def nq (M : gx_M) (ep : Nat → Bool) : Prop := ∀ e, e < 61 → 0 ≤ (M 13 e).toInt ∧ 0 ≤ (M 14 e).toInt ∧ na M e < 22 ∧ nb M e < 22 ∧ (ep e = true → na M e ≠ nb M e)
/-- all that a net keeps while flows change: the state between the calls of its methods -/
def ns (M0 M : gx_M) (ep : Nat → Bool) : Prop := (∀ p, p ≠ 15 → p ≠ 16 → p ≠ 19 → p ≠ 20 → M p = M0 p) ∧ nv M ep ∧ nq M ep ∧ circ M (nf M)
theorem nq_eq {M M2 : gx_M} {ep : Nat → Bool} (h13 : M2 13 = M 13) (h14 : M2 14 = M 14) (h : nq M ep) : nq M2 ep := by
  unfold nq na nb
  rw [h13, h14]
  exact h
theorem ns_rz {M0 M M2 : gx_M} {ep : Nat → Bool} {e : Nat} {c : Int} (S : ns M0 M ep) (R : rz M M2 e c) (h1 : 0 ≤ nf M e + c) (h2 : nf M e + c ≤ nhi M e) : ns M0 M2 ep := by
  obtain ⟨s1, s2, s3, s4⟩ := S
  refine ⟨fun p a b c d => by rw [R.1 p a b c d, s1 p a b c d], nv_rz s2 R h1 h2, nq_eq (R.1 13 (by decide) (by decide) (by decide) (by decide)) (R.1 14 (by decide) (by decide) (by decide) (by decide)) s3, circ_rz R s4⟩
/-- there is a flow in the net's bounds -/
def feas (M : gx_M) : Prop := ∃ f, circ M f ∧ ∀ j, j < 61 → nlo M j ≤ f j ∧ f j ≤ nhi M j
set_option maxRecDepth 100000 in
set_option maxHeartbeats 4000000 in
theorem l_mend {X : gx_X} {M0 : gx_M} {ep : Nat → Bool} {P : Option Value → gx_M → Prop} (h1 : ∀ M, ns M0 M ep → (∀ j, j < 61 → M 16 j = 0) → (∀ e, e < 40 → nlo M e ≤ nf M e) → P (some (.int 1)) M) (h0 : ∀ M, ns M0 M ep → (∀ j, j < 61 → M 16 j = 0) → ¬ feas M → P (some (.int 0)) M) :
    ∀ (d i : Nat) (M : gx_M) (v2 : Value), i + d = 40 → ns M0 M ep → (∀ j, j < 61 → M 16 j = 0) → (∀ e, e < i → nlo M e ≤ nf M e) → gx_OK X 14 2 [.ref 2, .int (nI i), v2] [] M P := by
  intro d
  induction d with
  | zero =>
    intro i M v2 hi S H0 hlow
    refine gx_wp_ok 100 false _ _ _ _ ?_
    simp only [gx_w_np, gx_w_p, ne_eq, not_false_eq_true, gx_wp, gx_step, gx_cnd, gb0, gb1, Classical.not_not, List.getD_cons_zero, List.getD_cons_succ, List.set_cons_zero, List.set_cons_succ, List.length_cons, List.length_nil, Nat.reduceAdd, Nat.reduceLT, Nat.reduceLeDiff, Nat.reduceEqDiff, Bool.and_false, Bool.and_true, Bool.true_and, Bool.false_and, Bool.false_eq_true, if_false, if_true, ite_true, ite_false, Fin.isValue, Fin.val_zero, Fin.val_one, Fin.val_two, gz0, gz1, gz2, gz3, List.take_succ_cons, List.take_zero, List.drop_succ_cons, List.drop_zero, List.reverse_cons, List.reverse_nil, List.nil_append, List.cons_append, gx_nx, Int32.reduceToInt, Int.reduceToNat, Int.toNat_zero, Int.toNat_one, Int.reduceLT, Int.reduceLE, Int.ofNat_zero, Int.reduceNeg, Int.le_refl, and_self, List.getElem?_cons_zero, List.getElem?_cons_succ, true_and, and_true, Nat.reduceSub, List.replicate, List.append_nil, Nat.reduceLeDiff, Nat.le_add_left, Nat.zero_le, Nat.zero_add, gf1_24, gf1_9, gk_bipush_40, gk_iconst_0, gk_iconst_1, gm1_59, gn14, gn15, gr14, gr15, gv14, gi14_0, gi14_1, gi14_2, gi14_3, gi14_5, gi14_8, gi14_9, gi14_12, gi14_13, gi14_14, gi14_15, gi14_18, gi14_19, gi14_20, gi14_21, gi14_22, gi14_23, gi14_26, gi14_27, gi14_28, gi14_29, gi14_32, gi14_33, gi14_36, gi14_37, gi14_38, gi14_41, gi14_44, gi14_45, gl0, gl1, gl2, gl3, gl4, gl5, gl6, gl7, gl8, gl9, gl10, gl11, gl12, gl13, gl14, gl15, gl16, gl17, gl18, gl19, gl20, gl21, gl22, gl23, gl24, gl25, gl26, gl27, gl28, gl29, gl30, gl31, gl32, gl33, gl34, gl35, gl36, gl37, gl38, gl39, gl40, gl41, gl42, gl43, gl44, gl45, gl46, gl47, gl48, gl49, gl50, gl51, gl52, gl53, gl54, gl55, gl56, gl57]
    simp (disch := first | decide | omega) only [gx_w_np, gx_w_p, Int32.reduceToInt, Int.toNat_natCast, if_true, if_false, nI_1, nI_pred, i_nI, ite_true, ite_false, Int.reduceToNat, Nat.reduceEqDiff, Nat.reduceAdd, i_le]
    exact ⟨fun _ => h1 M S H0 (fun e he => hlow e (by omega)), fun q => absurd (by omega) q⟩
  | succ d ih =>
    intro i M v2 hi S H0 hlow
    obtain ⟨s1, s2, s3, s4⟩ := id S
    have n1 := s2.2 i (by omega)
    have e1 : (M 11 i - M 15 i).toInt = nlo M i - nf M i := i_sub (by unfold nf nlo nhi at n1; omega) (by unfold nf nlo nhi at n1; omega)
    refine gx_wp_ok 100 false _ _ _ _ ?_
    simp only [gx_w_np, gx_w_p, ne_eq, not_false_eq_true, gx_wp, gx_step, gx_cnd, gb0, gb1, Classical.not_not, List.getD_cons_zero, List.getD_cons_succ, List.set_cons_zero, List.set_cons_succ, List.length_cons, List.length_nil, Nat.reduceAdd, Nat.reduceLT, Nat.reduceLeDiff, Nat.reduceEqDiff, Bool.and_false, Bool.and_true, Bool.true_and, Bool.false_and, Bool.false_eq_true, if_false, if_true, ite_true, ite_false, Fin.isValue, Fin.val_zero, Fin.val_one, Fin.val_two, gz0, gz1, gz2, gz3, List.take_succ_cons, List.take_zero, List.drop_succ_cons, List.drop_zero, List.reverse_cons, List.reverse_nil, List.nil_append, List.cons_append, gx_nx, Int32.reduceToInt, Int.reduceToNat, Int.toNat_zero, Int.toNat_one, Int.reduceLT, Int.reduceLE, Int.ofNat_zero, Int.reduceNeg, Int.le_refl, and_self, List.getElem?_cons_zero, List.getElem?_cons_succ, true_and, and_true, Nat.reduceSub, List.replicate, List.append_nil, Nat.reduceLeDiff, Nat.le_add_left, Nat.zero_le, Nat.zero_add, gf1_24, gf1_9, gk_bipush_40, gk_iconst_0, gk_iconst_1, gm1_59, gn14, gn15, gr14, gr15, gv14, gi14_0, gi14_1, gi14_2, gi14_3, gi14_5, gi14_8, gi14_9, gi14_12, gi14_13, gi14_14, gi14_15, gi14_18, gi14_19, gi14_20, gi14_21, gi14_22, gi14_23, gi14_26, gi14_27, gi14_28, gi14_29, gi14_32, gi14_33, gi14_36, gi14_37, gi14_38, gi14_41, gi14_44, gi14_45, gl0, gl1, gl2, gl3, gl4, gl5, gl6, gl7, gl8, gl9, gl10, gl11, gl12, gl13, gl14, gl15, gl16, gl17, gl18, gl19, gl20, gl21, gl22, gl23, gl24, gl25, gl26, gl27, gl28, gl29, gl30, gl31, gl32, gl33, gl34, gl35, gl36, gl37, gl38, gl39, gl40, gl41, gl42, gl43, gl44, gl45, gl46, gl47, gl48, gl49, gl50, gl51, gl52, gl53, gl54, gl55, gl56, gl57]
    simp (disch := first | decide | omega) only [gx_w_np, gx_w_p, Int32.reduceToInt, Int.toNat_natCast, if_true, if_false, nI_1, nI_pred, i_nI, ite_true, ite_false, Int.reduceToNat, Nat.reduceEqDiff, Nat.reduceAdd, i_le, e1]
    refine ⟨fun q => absurd q (by omega), fun _ => ⟨by omega, by omega, fun q => ih (i + 1) M _ (by omega) S H0 (fun e he => ?_), fun q => ?_⟩⟩
    · by_cases z : e = i
      · rw [z]; omega
      · exact hlow e (by omega)
    · have hep : ep i = true := by
        cases z : ep i with
        | true => rfl
        | false => have := n1.2.2.2.2.2 z; omega
      have q3 := s3 i (by omega)
      refine sp_raise (ep := ep) (by omega) s2 (fun e he => ⟨(s3 e he).2.2.1, (s3 e he).2.2.2.1⟩) (q3.2.2.2.2 hep) ⟨q3.1, q3.2.1⟩ (by rw [e1]; omega) (by rw [e1]; omega) s4 (fun c M2 c1 c2 c3 R K => ?_)
      intro z hz
      cases hz
      rw [e1] at c2 K
      have S2 := ns_rz S R (by omega) c3
      have H2 : ∀ j, j < 61 → M2 16 j = 0 := fun j hj => by
        rw [R.2.1 j]
        by_cases z : j = i
        · rw [if_pos z]
        · rw [if_neg z]; exact H0 j hj
      obtain ⟨a1, a2, a3, a4⟩ := rz_na R
      refine ⟨fun q2 => ih (i + 1) M2 _ (by omega) S2 H2 (fun e he => ?_), fun q2 => h0 M2 S2 H2 ?_⟩
      · rw [a3]
        by_cases z : e = i
        · rw [z, R.2.2.1]; omega
        · have := R.2.2.2.1 e (by omega) z
          have := hlow e (by omega)
          omega
      · rintro ⟨f, F1, F2⟩
        rcases K with K | K | K
        · omega
        · omega
        · have F3 : circ M f := fun v hv => by have := F1 v hv; rw [a1, a2] at this; exact this
          have := K f F3 (fun j hj _ => by
            have := F2 j hj
            rw [a3, a4] at this
            exact ⟨this.1, this.2, fun z => absurd (H0 j hj) z⟩)
          have h5 := (F2 i (by omega)).1
          rw [a3] at h5
          rw [R.2.2.1] at this
          omega
set_option maxRecDepth 100000 in
set_option maxHeartbeats 4000000 in
theorem sp_mend {X : gx_X} {M : gx_M} {ep : Nat → Bool} {P : Option Value → gx_M → Prop} (N : nv M ep) (Q : nq M ep) (hC : circ M (nf M)) (H0 : ∀ j, j < 61 → M 16 j = 0)
    (h1 : ∀ M1, ns M M1 ep → (∀ j, j < 61 → M1 16 j = 0) → (∀ e, e < 40 → nlo M1 e ≤ nf M1 e) → P (some (.int 1)) M1) (h0 : ∀ M1, ns M M1 ep → (∀ j, j < 61 → M1 16 j = 0) → ¬ feas M1 → P (some (.int 0)) M1) : gx_C X 14 [.ref 2] M P := by
  refine gx_C_wp 100 ?_
  simp only [gx_w_np, gx_w_p, ne_eq, not_false_eq_true, gx_wp, gx_step, gx_cnd, gb0, gb1, Classical.not_not, List.getD_cons_zero, List.getD_cons_succ, List.set_cons_zero, List.set_cons_succ, List.length_cons, List.length_nil, Nat.reduceAdd, Nat.reduceLT, Nat.reduceLeDiff, Nat.reduceEqDiff, Bool.and_false, Bool.and_true, Bool.true_and, Bool.false_and, Bool.false_eq_true, if_false, if_true, ite_true, ite_false, Fin.isValue, Fin.val_zero, Fin.val_one, Fin.val_two, gz0, gz1, gz2, gz3, List.take_succ_cons, List.take_zero, List.drop_succ_cons, List.drop_zero, List.reverse_cons, List.reverse_nil, List.nil_append, List.cons_append, gx_nx, Int32.reduceToInt, Int.reduceToNat, Int.toNat_zero, Int.toNat_one, Int.reduceLT, Int.reduceLE, Int.ofNat_zero, Int.reduceNeg, Int.le_refl, and_self, List.getElem?_cons_zero, List.getElem?_cons_succ, true_and, and_true, Nat.reduceSub, List.replicate, List.append_nil, Nat.reduceLeDiff, Nat.le_add_left, Nat.zero_le, Nat.zero_add, gf1_24, gf1_9, gk_bipush_40, gk_iconst_0, gk_iconst_1, gm1_59, gn14, gn15, gr14, gr15, gv14, gi14_0, gi14_1, gi14_2, gi14_3, gi14_5, gi14_8, gi14_9, gi14_12, gi14_13, gi14_14, gi14_15, gi14_18, gi14_19, gi14_20, gi14_21, gi14_22, gi14_23, gi14_26, gi14_27, gi14_28, gi14_29, gi14_32, gi14_33, gi14_36, gi14_37, gi14_38, gi14_41, gi14_44, gi14_45, gl0, gl1, gl2, gl3, gl4, gl5, gl6, gl7, gl8, gl9, gl10, gl11, gl12, gl13, gl14, gl15, gl16, gl17, gl18, gl19, gl20, gl21, gl22, gl23, gl24, gl25, gl26, gl27, gl28, gl29, gl30, gl31, gl32, gl33, gl34, gl35, gl36, gl37, gl38, gl39, gl40, gl41, gl42, gl43, gl44, gl45, gl46, gl47, gl48, gl49, gl50, gl51, gl52, gl53, gl54, gl55, gl56, gl57]
  have := l_mend (X := X) h1 h0 40 0 M .null (by omega) ⟨fun _ _ _ _ _ => rfl, N, Q, hC⟩ H0 (fun e he => absurd he (by omega))
  rw [nI_0] at this
  exact this
