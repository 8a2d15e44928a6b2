/-! lower: the least that an edge can have. -/
set_option maxRecDepth 100000 in
set_option maxHeartbeats 4000000 in
theorem sp_lower {X : gx_X} {M : gx_M} {ep : Nat → Bool} {e : Nat} {P : Option Value → gx_M → Prop} (he : e < 61) (N : nv M ep) (W : nw M) (hab : na M e ≠ nb M e) (hpos : 0 ≤ (M 13 e).toInt ∧ 0 ≤ (M 14 e).toInt) (hlo : nlo M e ≤ nf M e) (hC : circ M (nf M))
    (hP : ∀ (c : Int) (M2 : gx_M), 0 ≤ c → nlo M e ≤ nf M e - c → rz M M2 e (-c) → (∀ f, circ M f → (∀ j, j < 61 → nlo M j ≤ f j ∧ f j ≤ nhi M j ∧ (j ≠ e → M 16 j ≠ 0 → f j = nf M2 j)) → nf M2 e ≤ f e) → P none M2) : gx_C X 16 [.ref 2, .int (nI e)] M P := by
  refine gx_C_wp 100 ?_
  simp only [gx_w_np, gx_w_p, ne_eq, not_false_eq_true, gx_wp, gx_step, gx_cnd, gb0, gb1, Classical.not_not, List.getD_cons_zero, List.getD_cons_succ, List.set_cons_zero, List.set_cons_succ, List.length_cons, List.length_nil, Nat.reduceAdd, Nat.reduceLT, Nat.reduceLeDiff, Nat.reduceEqDiff, Bool.and_false, Bool.and_true, Bool.true_and, Bool.false_and, Bool.false_eq_true, if_false, if_true, ite_true, ite_false, Fin.isValue, Fin.val_zero, Fin.val_one, Fin.val_two, gz0, gz1, gz2, gz3, List.take_succ_cons, List.take_zero, List.drop_succ_cons, List.drop_zero, List.reverse_cons, List.reverse_nil, List.nil_append, List.cons_append, gx_nx, Int32.reduceToInt, Int.reduceToNat, Int.toNat_zero, Int.toNat_one, Int.reduceLT, Int.reduceLE, Int.ofNat_zero, Int.reduceNeg, Int.le_refl, and_self, List.getElem?_cons_zero, List.getElem?_cons_succ, true_and, and_true, Nat.reduceSub, List.replicate, List.append_nil, Nat.reduceLeDiff, Nat.le_add_left, Nat.zero_le, Nat.zero_add, gf1_18, gf1_21, gf1_24, gf1_27, gf1_9, gk_iconst_0, gk_iconst_1, gm1_68, gn16, gn17, gr16, gr17, gv16, gi16_0, gi16_1, gi16_4, gi16_5, gi16_6, gi16_7, gi16_8, gi16_11, gi16_12, gi16_13, gi16_14, gi16_15, gi16_16, gi16_19, gi16_20, gi16_21, gi16_22, gi16_25, gi16_26, gi16_27, gi16_28, gi16_31, gi16_32, gi16_33, gi16_34, gi16_37, gi16_38, gi16_39, gi16_40, gi16_43, gi16_44, gi16_45, gi16_46, gi16_49, gi16_50, gi16_51, gi16_52, gl0, gl1, gl2, gl3, gl4, gl5, gl6, gl7, gl8, gl9, gl10, gl11, gl12, gl13, gl14, gl15, gl16, gl17, gl18, gl19, gl20, gl21, gl22, gl23, gl24, gl25, gl26, gl27, gl28, gl29, gl30, gl31, gl32, gl33, gl34, gl35, gl36, gl37, gl38, gl39, gl40, gl41, gl42, gl43, gl44, gl45, gl46, gl47, gl48, gl49, gl50, gl51, gl52, gl53, gl54, gl55, gl56, gl57]
  simp (disch := first | decide | omega) only [gx_w_np, gx_w_p, Int32.reduceToInt, Int.toNat_natCast, if_true, if_false, nI_1, nI_pred, i_nI, ite_true, ite_false, Int.reduceToNat, Nat.reduceEqDiff, Nat.reduceAdd]
  refine ⟨by omega, by omega, by omega, by omega, by omega, by omega, ?_⟩
  have n1 := N.2 e he
  have e1 : (M 15 e - M 11 e).toInt = nf M e - nlo M e := i_sub (by unfold nf nlo nhi at n1; omega) (by unfold nf nlo nhi at n1; omega)
  have hw := W e he
  have ea : M 13 e = nI (na M e) := i_nat hpos.1
  have eb : M 14 e = nI (nb M e) := i_nat hpos.2
  rw [ea, eb]
  refine sp_carry (ep := ep) hw.1 hw.2 (fun z => hab z.symm) (nv_w N) (by rw [e1]; omega) (by rw [e1]; omega) (fun c M1 c1 c2 C K => ?_)
  intro z hz
  cases hz
  rw [e1] at c2
  refine ⟨by omega, by omega, ?_⟩
  have N1 := nv_cy (nv_w (e := e) (x := 1) N) C
  obtain ⟨k1, k2, k3⟩ := C
  have g1 : ∀ p, p ≠ 15 → p ≠ 16 → p ≠ 19 → p ≠ 20 → M1 p = M p := fun p h1 h2 h3 h4 => by rw [k1 p h1 h3 h4]; funext j; rw [gx_w_np h2]
  have g16 : ∀ j, M1 16 j = if j = e then 1 else M 16 j := fun j => by rw [k1 16 (by decide) (by decide) (by decide), gx_w_p]
  have gf : nf (gx_w M 16 e 1) = nf M := by unfold nf; funext j; rw [gx_w_np (by decide)]
  have ga : na (gx_w M 16 e 1) = na M := by unfold na; funext j; rw [gx_w_np (by decide)]
  have gb : nb (gx_w M 16 e 1) = nb M := by unfold nb; funext j; rw [gx_w_np (by decide)]
  have gl : nlo (gx_w M 16 e 1) = nlo M := by unfold nlo; funext j; rw [gx_w_np (by decide)]
  have gh : nhi (gx_w M 16 e 1) = nhi M := by unfold nhi; funext j; rw [gx_w_np (by decide)]
  rw [gf, ga, gb] at k3
  rw [gf, gl, gh] at k2
  have fe : nf M1 e = nf M e := (k2 e he).1 (by rw [gx_w_p, if_pos rfl]; decide)
  have sum : (M 15 e - c).toInt = nf M e - c.toInt := i_sub (by unfold nf nlo nhi at *; omega) (by unfold nf nlo nhi at *; omega)
  generalize hM2 : gx_w (gx_w M1 15 e (M 15 e - c)) 16 e 0 = M2
  have q15 : ∀ j, nf M2 j = if j = e then nf M e - c.toInt else nf M1 j := fun j => by
    rw [← hM2]; unfold nf
    rw [gx_w_np (by decide), gx_w_p]
    by_cases z : j = e
    · rw [if_pos z, if_pos z]; exact sum
    · rw [if_neg z, if_neg z]
  have q16 : ∀ j, M2 16 j = if j = e then 0 else M 16 j := fun j => by
    rw [← hM2, gx_w_p, gx_w_np (by decide), g16]
    by_cases z : j = e
    · rw [if_pos z, if_pos z]
    · rw [if_neg z, if_neg z, if_neg z]
  have qp : ∀ p, p ≠ 15 → p ≠ 16 → p ≠ 19 → p ≠ 20 → M2 p = M p := fun p h1 h2 h3 h4 => by
    rw [← hM2, ← g1 p h1 h2 h3 h4]; funext j; rw [gx_w_np h2, gx_w_np h1]
  have qd : ∀ v, nt_d 61 (na M) (nb M) (nf M2) v = nt_d 61 (na M) (nb M) (nf M) v := fun v => by
    rw [nt_d_up (f := nf M1) (δ := -c.toInt) he (by rw [q15, if_pos rfl, fe]; omega) (fun i _ hi => by rw [q15, if_neg hi]), k3 v]
    unfold nt_c
    have s1 : (if nb M e = v then (1 : Int) else 0) = if v = nb M e then 1 else 0 := by
      by_cases z : v = nb M e
      · rw [if_pos z, if_pos z.symm]
      · rw [if_neg z, if_neg (fun q => z q.symm)]
    have s2 : (if na M e = v then (1 : Int) else 0) = if v = na M e then 1 else 0 := by
      by_cases z : v = na M e
      · rw [if_pos z, if_pos z.symm]
      · rw [if_neg z, if_neg (fun q => z q.symm)]
    rw [s1, s2, Int.mul_neg, Int.mul_comm _ c.toInt]
    omega
  refine hP c.toInt M2 c1 (by omega) ⟨qp, q16, by rw [q15, if_pos rfl]; omega, fun j hj hne => ?_, qd⟩ (fun f F1 F2 => ?_)
  · have := k2 j hj
    rw [gx_w_p, if_neg hne] at this
    rw [q15, if_neg hne]
    exact this
  · rcases K with K | ⟨S, S1, S2, S3⟩
    · rw [q15, if_pos rfl]
      have := (F2 e he).1
      omega
    · have a1 : na M1 = na M := by unfold na; rw [g1 13 (by decide) (by decide) (by decide) (by decide)]
      have b1 : nb M1 = nb M := by unfold nb; rw [g1 14 (by decide) (by decide) (by decide) (by decide)]
      have l1 : nlo M1 = nlo M := by unfold nlo; rw [g1 11 (by decide) (by decide) (by decide) (by decide)]
      have h1 : nhi M1 = nhi M := by unfold nhi; rw [g1 12 (by decide) (by decide) (by decide) (by decide)]
      have co := fun (j : Nat) (hj : j < 61) (hne : j ≠ e) => cut_out (s := na M e) (g := nb M e) N1 S3 (f := f) hj (by
        have := F2 j hj
        rw [l1, h1]
        refine ⟨this.1, this.2.1, fun z => ?_⟩
        rw [g16, if_neg hne] at z
        rw [this.2.2 hne z, q15, if_neg hne])
      rw [a1, b1] at co
      exact nt_least (n := 61) (V := 22) (fr := na M) (to := nb M) (g := nf M2) (h := f) S (fun j hj => (W j hj).1) (fun j hj => (W j hj).2) (fun v hv => by rw [qd v]; exact hC v hv) F1 he S1 S2 (fun j hj hne s1 s2 => by rw [q15, if_neg hne]; exact (co j hj hne).1 s1 s2) (fun j hj hne s1 s2 => by rw [q15, if_neg hne]; exact (co j hj hne).2 s1 s2)
