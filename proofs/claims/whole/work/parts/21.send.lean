/-! narrowest and send: along the way that was found, from its end. -/
/-- the way, from the goal back -/
def pv (M : gx_M) (g : Nat) : Nat → Nat
  | 0 => g
  | j + 1 => (nt_e M (b_x (M 19 (pv M g j)).toInt.toNat)).toInt.toNat
/-- the half by which a vertex was reached -/
def ph (M : gx_M) (v : Nat) : Nat := (M 19 v).toInt.toNat
/-- v lies on the way, and is not its start -/
def onp (M : gx_M) (g s v : Nat) : Prop := ∃ i, pv M g i = v ∧ ∀ i', i' ≤ i → pv M g i' ≠ s
/-- what a step along the way finds -/
def pw_S (M : gx_M) (ep : Nat → Bool) (rk : Nat → Nat) (s : Nat) : Prop := M 19 s = -1 ∧ ∀ v, v < 22 → M 19 v ≠ -1 → ∃ h u, h < 122 ∧ M 19 v = nI h ∧ ep (h / 2) = true ∧ nt_e M h = nI v ∧ 0 < (nt_l M h).toInt ∧ u < 22 ∧ nt_e M (b_x h) = nI u ∧ rk u < rk v ∧ (u = s ∨ M 19 u ≠ -1)
theorem bf_1_S {M0 M : gx_M} {ep : Nat → Bool} {s g : Nat} (B : bf_1 M0 M ep s g) : ∃ rk, rk g ≤ 21 ∧ M 19 g ≠ -1 ∧ pw_S M ep rk s := by
  obtain ⟨b1, b2, b3, rk, b4, b5⟩ := B
  refine ⟨rk, b4, b3, b2, fun v hv hn => ?_⟩
  obtain ⟨h, u, c1, c2, c3, c4, c5, c6, c7, c8, c9⟩ := b5 v hv hn
  exact ⟨h, u, c1, c2, c3, by rw [nt_e_eq b1]; exact c4, by rw [nt_l_eq b1]; exact c5, c6, by rw [nt_e_eq b1]; exact c7, c8, c9⟩
theorem pw_next {M : gx_M} {ep : Nat → Bool} {rk : Nat → Nat} {s g j : Nat} (S : pw_S M ep rk s) (hv : pv M g j < 22) (hn : M 19 (pv M g j) ≠ -1) :
    ∃ h, h < 122 ∧ M 19 (pv M g j) = nI h ∧ ph M (pv M g j) = h ∧ ep (h / 2) = true ∧ nt_e M h = nI (pv M g j) ∧ 0 < (nt_l M h).toInt ∧ pv M g (j + 1) < 22 ∧ nt_e M (b_x h) = nI (pv M g (j + 1)) ∧ rk (pv M g (j + 1)) < rk (pv M g j) ∧ (pv M g (j + 1) = s ∨ M 19 (pv M g (j + 1)) ≠ -1) := by
  obtain ⟨h, u, c1, c2, c3, c4, c5, c6, c7, c8, c9⟩ := S.2 _ hv hn
  have e1 : ph M (pv M g j) = h := by unfold ph; rw [c2, i_nI (by omega)]; simp
  have e2 : pv M g (j + 1) = u := by
    show (nt_e M (b_x (ph M (pv M g j)))).toInt.toNat = u
    rw [e1, c7, i_nI (by omega)]; simp
  rw [e2]
  exact ⟨h, c1, c2, e1, c3, c4, c5, c6, c7, c8, c9⟩
set_option maxRecDepth 100000 in
set_option maxHeartbeats 4000000 in
theorem l_narrow {X : gx_X} {M : gx_M} {ep : Nat → Bool} {rk : Nat → Nat} {s g : Nat} {P : Option Value → gx_M → Prop} (S : pw_S M ep rk s) (hP : ∀ L : Int32, 0 < L.toInt → L.toInt ≤ 100000 → (∀ v, onp M g s v → L.toInt ≤ (nt_l M (ph M v)).toInt) → P (some (.int L)) M) :
    ∀ (d j : Nat) (L : Int32), rk (pv M g j) < d → rk (pv M g j) + j ≤ 21 → pv M g j < 22 → (pv M g j = s ∨ M 19 (pv M g j) ≠ -1) → (∀ i, i < j → pv M g i ≠ s) → 0 < L.toInt → L.toInt ≤ 100000 → (∀ i, i < j → L.toInt ≤ (nt_l M (ph M (pv M g i))).toInt) →
      gx_OK X 19 13 [.ref 2, .int (nI g), .int L, .int (M 19 (pv M g j)), .int (nI j)] [] M P := by
  intro d
  induction d with
  | zero => intro j L h; exact absurd h (by omega)
  | succ d ih =>
    intro j L h1 h2 h3 h4 h5 h6 h7 h8
    refine gx_wp_ok 100 false _ _ _ _ ?_
    simp only [gx_w_np, gx_w_p, ne_eq, not_false_eq_true, gx_wp, gx_step, gx_cnd, gb0, gb1, Classical.not_not, List.getD_cons_zero, List.getD_cons_succ, List.set_cons_zero, List.set_cons_succ, List.length_cons, List.length_nil, Nat.reduceAdd, Nat.reduceLT, Nat.reduceLeDiff, Nat.reduceEqDiff, Bool.and_false, Bool.and_true, Bool.true_and, Bool.false_and, Bool.false_eq_true, if_false, if_true, ite_true, ite_false, Fin.isValue, Fin.val_zero, Fin.val_one, Fin.val_two, gz0, gz1, gz2, gz3, List.take_succ_cons, List.take_zero, List.drop_succ_cons, List.drop_zero, List.reverse_cons, List.reverse_nil, List.nil_append, List.cons_append, gx_nx, Int32.reduceToInt, Int.reduceToNat, Int.toNat_zero, Int.toNat_one, Int.reduceLT, Int.reduceLE, Int.ofNat_zero, Int.reduceNeg, Int.le_refl, and_self, List.getElem?_cons_zero, List.getElem?_cons_succ, true_and, and_true, Nat.reduceSub, List.replicate, List.append_nil, Nat.reduceLeDiff, Nat.le_add_left, Nat.zero_le, Nat.zero_add, gc1_89, gf1_37, gk_bipush_22, gk_iconst_0, gk_iconst_1, gk_iconst_m1, gm1_63, gm1_83, gm1_86, gn103, gn19, gn21, gn22, gr103, gr19, gr21, gr22, gv19, gi19_0, gi19_2, gi19_3, gi19_4, gi19_7, gi19_8, gi19_9, gi19_10, gi19_11, gi19_13, gi19_15, gi19_17, gi19_20, gi19_21, gi19_22, gi19_25, gi19_26, gi19_27, gi19_28, gi19_31, gi19_34, gi19_35, gi19_36, gi19_39, gi19_40, gi19_41, gi19_42, gi19_43, gi19_46, gi19_47, gi19_48, gi19_51, gi19_54, gi19_55, gl0, gl1, gl2, gl3, gl4, gl5, gl6, gl7, gl8, gl9, gl10, gl11, gl12, gl13, gl14, gl15, gl16, gl17, gl18, gl19, gl20, gl21, gl22, gl23, gl24, gl25, gl26, gl27, gl28, gl29, gl30, gl31, gl32, gl33, gl34, gl35, gl36, gl37, gl38, gl39, gl40, gl41, gl42, gl43, gl44, gl45, gl46, gl47, gl48, gl49, gl50, gl51, gl52, gl53, gl54, gl55, gl56, gl57]
    simp (disch := first | decide | omega) only [gx_w_np, gx_w_p, Int32.reduceToInt, Int.toNat_natCast, if_true, if_false, nI_1, nI_pred, i_nI, ite_true, ite_false, Int.reduceToNat, Nat.reduceEqDiff, Nat.reduceAdd, i_le]
    refine ⟨fun q => absurd q (by omega), fun _ => ⟨fun q => hP L h6 h7 (fun v hv => ?_), fun q => ?_⟩⟩
    · obtain ⟨i, e1, e2⟩ := hv
      by_cases hij : i < j
      · rw [← e1]; exact h8 i hij
      · rcases h4 with z | z
        · exact absurd z (e2 j (by omega))
        · exact absurd q z
    · obtain ⟨h, c1, c2, c3, c4, c5, c6, c7, c8, c9, c10⟩ := pw_next S h3 q
      have hns : pv M g j ≠ s := fun z => q (by rw [z]; exact S.1)
      rw [c2]
      refine sp_leftOn c1 ?_
      intro z hz
      cases hz
      have fin : ∀ L2 : Int32, 0 < L2.toInt → L2.toInt ≤ L.toInt → L2.toInt ≤ (nt_l M h).toInt → gx_C X 21 [.ref 2, .int (nI h ^^^ 1)] M (fun r M1 => ∀ (x : Int32), r = some (.int x) → (0 ≤ x.toInt ∧ x.toInt < ((22 : Nat) : Int)) ∧ gx_OK X 19 13 [.ref 2, .int (nI g), .int L2, .int (M1 19 x.toInt.toNat), .int (nI (j + 1))] [] M1 P) := by
        intro L2 a1 a2 a3
        rw [b_xor h c1]
        refine sp_endOf (b_x_lt h c1) ?_
        intro z hz
        cases hz
        rw [c8]
        simp (disch := first | decide | omega) only [gx_w_np, gx_w_p, Int32.reduceToInt, Int.toNat_natCast, if_true, if_false, nI_1, nI_pred, i_nI, ite_true, ite_false, Int.reduceToNat, Nat.reduceEqDiff, Nat.reduceAdd]
        refine ⟨by omega, ih (j + 1) L2 (by omega) (by omega) c7 c10 (fun i hi => ?_) a1 (by omega) (fun i hi => ?_)⟩
        · by_cases e : i = j
          · rw [e]; exact hns
          · exact h5 i (by omega)
        · by_cases e : i = j
          · rw [e, c3]; exact a3
          · have := h8 i (by omega)
            omega
      refine sp_min (fun a => ?_) (fun a => ?_)
      · intro z hz
        cases hz
        exact fin _ c6 (by omega) (by omega)
      · intro z hz
        cases hz
        exact fin _ h6 (by omega) a
set_option maxRecDepth 100000 in
set_option maxHeartbeats 4000000 in
theorem sp_narrowest {X : gx_X} {M : gx_M} {ep : Nat → Bool} {rk : Nat → Nat} {s g : Nat} {P : Option Value → gx_M → Prop} (S : pw_S M ep rk s) (hg : g < 22) (hr : rk g ≤ 21) (hn : M 19 g ≠ -1) (hP : ∀ L : Int32, 0 < L.toInt → L.toInt ≤ 100000 → (∀ v, onp M g s v → L.toInt ≤ (nt_l M (ph M v)).toInt) → P (some (.int L)) M) : gx_C X 19 [.ref 2, .int (nI g)] M P := by
  refine gx_C_wp 100 ?_
  simp only [gx_w_np, gx_w_p, ne_eq, not_false_eq_true, gx_wp, gx_step, gx_cnd, gb0, gb1, Classical.not_not, List.getD_cons_zero, List.getD_cons_succ, List.set_cons_zero, List.set_cons_succ, List.length_cons, List.length_nil, Nat.reduceAdd, Nat.reduceLT, Nat.reduceLeDiff, Nat.reduceEqDiff, Bool.and_false, Bool.and_true, Bool.true_and, Bool.false_and, Bool.false_eq_true, if_false, if_true, ite_true, ite_false, Fin.isValue, Fin.val_zero, Fin.val_one, Fin.val_two, gz0, gz1, gz2, gz3, List.take_succ_cons, List.take_zero, List.drop_succ_cons, List.drop_zero, List.reverse_cons, List.reverse_nil, List.nil_append, List.cons_append, gx_nx, Int32.reduceToInt, Int.reduceToNat, Int.toNat_zero, Int.toNat_one, Int.reduceLT, Int.reduceLE, Int.ofNat_zero, Int.reduceNeg, Int.le_refl, and_self, List.getElem?_cons_zero, List.getElem?_cons_succ, true_and, and_true, Nat.reduceSub, List.replicate, List.append_nil, Nat.reduceLeDiff, Nat.le_add_left, Nat.zero_le, Nat.zero_add, gc1_89, gf1_37, gk_bipush_22, gk_iconst_0, gk_iconst_1, gk_iconst_m1, gm1_63, gm1_83, gm1_86, gn103, gn19, gn21, gn22, gr103, gr19, gr21, gr22, gv19, gi19_0, gi19_2, gi19_3, gi19_4, gi19_7, gi19_8, gi19_9, gi19_10, gi19_11, gi19_13, gi19_15, gi19_17, gi19_20, gi19_21, gi19_22, gi19_25, gi19_26, gi19_27, gi19_28, gi19_31, gi19_34, gi19_35, gi19_36, gi19_39, gi19_40, gi19_41, gi19_42, gi19_43, gi19_46, gi19_47, gi19_48, gi19_51, gi19_54, gi19_55, gl0, gl1, gl2, gl3, gl4, gl5, gl6, gl7, gl8, gl9, gl10, gl11, gl12, gl13, gl14, gl15, gl16, gl17, gl18, gl19, gl20, gl21, gl22, gl23, gl24, gl25, gl26, gl27, gl28, gl29, gl30, gl31, gl32, gl33, gl34, gl35, gl36, gl37, gl38, gl39, gl40, gl41, gl42, gl43, gl44, gl45, gl46, gl47, gl48, gl49, gl50, gl51, gl52, gl53, gl54, gl55, gl56, gl57]
  simp (disch := first | decide | omega) only [gx_w_np, gx_w_p, Int32.reduceToInt, Int.toNat_natCast, if_true, if_false, nI_1, nI_pred, i_nI, ite_true, ite_false, Int.reduceToNat, Nat.reduceEqDiff, Nat.reduceAdd]
  have h1 := l_narrow (X := X) (g := g) S hP (rk g + 1) 0 100000 (by show rk g < rk g + 1; omega) (by show rk g + 0 ≤ 21; omega) hg (Or.inr hn) (fun i hi => absurd hi (by omega)) (by decide) (by decide) (fun i hi => absurd hi (by omega))
  rw [nI_0] at h1
  exact ⟨by omega, h1⟩
