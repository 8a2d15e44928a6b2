/-! The reference's barred. -/
theorem brx_eq2 {D : gD} {b c : Nat → Bool} {k : Nat} (h : ∀ j, k < j → b j = c j) : brx D b k = brx D c k := by
  funext j
  unfold brx
  by_cases z : j < k
  · rw [if_pos z, if_pos z]
  · rw [if_neg z, if_neg z]
    by_cases z2 : j = k
    · rw [if_pos z2, if_pos z2]
    · rw [if_neg z2, if_neg z2, h j (by omega)]
def rB (M0 M : gx_M) : Prop := ∀ p j, p < 42 ∨ 50 < p ∨ p = 48 ∨ p = 49 → ¬ (p = 34 ∧ j = 16) → M p j = M0 p j
/-- settled from k on -/
def rK (M0 M : gx_M) (n m k : Nat) : Prop := rB M0 M ∧ (∀ v, v < n → M 44 v = M0 35 v) ∧ (∀ j, j < m → M 43 j = M0 40 j) ∧ (∀ j, j < m → M0 41 j ≠ 0 → M 42 j = if j < k then M0 39 j else if M 50 j ≠ 0 then M0 39 j else 0) ∧
  (∀ j, k ≤ j → j < m → (M 50 j ≠ 0 ↔ M0 41 j ≠ 0 ∧ M0 39 j ≠ 0 ∧ ∃ g, FL (dW (dS M0 n m) (brx (dS M0 n m) (fun i => decide (M 50 i ≠ 0)) j)) g))
set_option maxRecDepth 100000 in
set_option maxHeartbeats 4000000 in
theorem l69 {X : gx_X} {M0 : gx_M} {n m : Nat} {P : Option Value → gx_M → Prop} (hn : M0 34 0 = nI n) (hm : M0 34 3 = nI m) (O : gok (dS M0 n m)) (hP : ∀ M, rK M0 M n m 0 → P none M) :
    ∀ (k : Nat) (M : gx_M), k ≤ m → rK M0 M n m k → gx_OK X 69 11 [.ref 34, .int (nI k - 1)] [] M P := by
  have hm40 : m ≤ 40 := O.2.1
  have z0 : (0 : Int32).toInt = 0 := by decide
  have zf : (1000000 : Int32).toInt = 1000000 := by decide
  intro k
  induction k with
  | zero =>
    intro M hk K
    refine gx_wp_ok 60 false _ _ _ _ ?_
    simp only [gx_w_np, gx_w_p, ne_eq, not_false_eq_true, gx_wp, gx_step, gx_cnd, gb0, gb1, Classical.not_not, List.getD_cons_zero, List.getD_cons_succ, List.set_cons_zero, List.set_cons_succ, List.length_cons, List.length_nil, Nat.reduceAdd, Nat.reduceLT, Nat.reduceLeDiff, Nat.reduceEqDiff, Bool.and_false, Bool.and_true, Bool.true_and, Bool.false_and, Bool.false_eq_true, if_false, if_true, ite_true, ite_false, Fin.isValue, Fin.val_zero, Fin.val_one, Fin.val_two, gz0, gz1, gz2, gz3, List.take_succ_cons, List.take_zero, List.drop_succ_cons, List.drop_zero, List.reverse_cons, List.reverse_nil, List.nil_append, List.cons_append, gx_nx, Int32.reduceToInt, Int.reduceToNat, Int.toNat_zero, Int.toNat_one, Int.reduceLT, Int.reduceLE, Int.ofNat_zero, Int.reduceNeg, Int.le_refl, and_self, List.getElem?_cons_zero, List.getElem?_cons_succ, true_and, and_true, Nat.reduceSub, List.replicate, List.append_nil, Nat.reduceLeDiff, Nat.le_add_left, Nat.zero_le, Nat.zero_add, gc4_94, gf4_22, gf4_28, gf4_32, gf4_56, gf4_84, gk_iconst_0, gk_iconst_1, gk_iconst_m1, gm4_103, gm4_107, gn64, gn65, gn69, gr64, gr65, gr69, gv69, gi69_0, gi69_1, gi69_4, gi69_5, gi69_8, gi69_9, gi69_10, gi69_11, gi69_12, gi69_15, gi69_16, gi69_19, gi69_20, gi69_21, gi69_22, gi69_23, gi69_26, gi69_27, gi69_28, gi69_31, gi69_32, gi69_35, gi69_36, gi69_37, gi69_40, gi69_43, gi69_44, gi69_47, gi69_48, gi69_49, gi69_50, gi69_51, gi69_52, gi69_54, gi69_57, gi69_60, gi69_61, gi69_64, gi69_65, gi69_66, gi69_69, gi69_70, gi69_71, gi69_72, gi69_73, gi69_76, gi69_77, gi69_78, gi69_79, gi69_82, gi69_85, gl0, gl1, gl2, gl3, gl4, gl5, gl6, gl7, gl8, gl9, gl10, gl11, gl12, gl13, gl14, gl15, gl16, gl17, gl18, gl19, gl20, gl21, gl22, gl23, gl24, gl25, gl26, gl27, gl28, gl29, gl30, gl31, gl32, gl33, gl34, gl35, gl36, gl37, gl38, gl39, gl40, gl41, gl42, gl43, gl44, gl45, gl46, gl47, gl48, gl49, gl50, gl51, gl52, gl53, gl54, gl55, gl56, gl57]
    exact ⟨fun _ => hP M K, fun q => absurd (by decide) q⟩
  | succ k ih =>
    intro M hk K
    obtain ⟨k1, k2, k3, k4, k5⟩ := id K
    have ek : nI (k + 1) - 1 = nI k := nI_pred k
    have e41 : M 41 k = M0 41 k := k1 41 k (by omega) (by omega)
    have e39 : M 39 k = M0 39 k := k1 39 k (by omega) (by omega)
    rw [ek]
    refine gx_wp_ok 60 false _ _ _ _ ?_
    simp only [gx_w_np, gx_w_p, ne_eq, not_false_eq_true, gx_wp, gx_step, gx_cnd, gb0, gb1, Classical.not_not, List.getD_cons_zero, List.getD_cons_succ, List.set_cons_zero, List.set_cons_succ, List.length_cons, List.length_nil, Nat.reduceAdd, Nat.reduceLT, Nat.reduceLeDiff, Nat.reduceEqDiff, Bool.and_false, Bool.and_true, Bool.true_and, Bool.false_and, Bool.false_eq_true, if_false, if_true, ite_true, ite_false, Fin.isValue, Fin.val_zero, Fin.val_one, Fin.val_two, gz0, gz1, gz2, gz3, List.take_succ_cons, List.take_zero, List.drop_succ_cons, List.drop_zero, List.reverse_cons, List.reverse_nil, List.nil_append, List.cons_append, gx_nx, Int32.reduceToInt, Int.reduceToNat, Int.toNat_zero, Int.toNat_one, Int.reduceLT, Int.reduceLE, Int.ofNat_zero, Int.reduceNeg, Int.le_refl, and_self, List.getElem?_cons_zero, List.getElem?_cons_succ, true_and, and_true, Nat.reduceSub, List.replicate, List.append_nil, Nat.reduceLeDiff, Nat.le_add_left, Nat.zero_le, Nat.zero_add, gc4_94, gf4_22, gf4_28, gf4_32, gf4_56, gf4_84, gk_iconst_0, gk_iconst_1, gk_iconst_m1, gm4_103, gm4_107, gn64, gn65, gn69, gr64, gr65, gr69, gv69, gi69_0, gi69_1, gi69_4, gi69_5, gi69_8, gi69_9, gi69_10, gi69_11, gi69_12, gi69_15, gi69_16, gi69_19, gi69_20, gi69_21, gi69_22, gi69_23, gi69_26, gi69_27, gi69_28, gi69_31, gi69_32, gi69_35, gi69_36, gi69_37, gi69_40, gi69_43, gi69_44, gi69_47, gi69_48, gi69_49, gi69_50, gi69_51, gi69_52, gi69_54, gi69_57, gi69_60, gi69_61, gi69_64, gi69_65, gi69_66, gi69_69, gi69_70, gi69_71, gi69_72, gi69_73, gi69_76, gi69_77, gi69_78, gi69_79, gi69_82, gi69_85, gl0, gl1, gl2, gl3, gl4, gl5, gl6, gl7, gl8, gl9, gl10, gl11, gl12, gl13, gl14, gl15, gl16, gl17, gl18, gl19, gl20, gl21, gl22, gl23, gl24, gl25, gl26, gl27, gl28, gl29, gl30, gl31, gl32, gl33, gl34, gl35, gl36, gl37, gl38, gl39, gl40, gl41, gl42, gl43, gl44, gl45, gl46, gl47, gl48, gl49, gl50, gl51, gl52, gl53, gl54, gl55, gl56, gl57]
    have e1 : nI k + -1 = nI k - 1 := by rw [i_eq, Int32.toInt_add, Int32.toInt_sub]; rfl
    rw [e1]
    simp (disch := first | decide | omega) only [gx_w_np, gx_w_p, Int32.reduceToInt, Int.toNat_natCast, if_true, if_false, nI_1, nI_pred, i_nI, ite_true, ite_false, Int.reduceToNat, Nat.reduceEqDiff, Nat.reduceAdd, i_lt, e41, e39]
    have up5 : ∀ (M2 : gx_M), (∀ j, j ≠ k → M2 50 j = M 50 j) → ∀ j, k < j → j < m → (M2 50 j ≠ 0 ↔ M0 41 j ≠ 0 ∧ M0 39 j ≠ 0 ∧ ∃ g, FL (dW (dS M0 n m) (brx (dS M0 n m) (fun i => decide (M2 50 i ≠ 0)) j)) g) := by
      intro M2 h j h1 h2
      have : brx (dS M0 n m) (fun i => decide (M2 50 i ≠ 0)) j = brx (dS M0 n m) (fun i => decide (M 50 i ≠ 0)) j := brx_eq2 (fun i hi => by
        show decide (M2 50 i ≠ 0) = decide (M 50 i ≠ 0)
        rw [h i (by omega)])
      rw [this, h j (by omega)]
      exact k5 j (by omega) h2
    -- not barred: the least stays as it is
    have no : ¬ (M0 41 k ≠ 0 ∧ M0 39 k ≠ 0) → gx_OK X 69 11 [.ref 34, .int (nI k - 1)] [] (gx_w M 50 k 0) P := by
      intro hno
      refine ih _ (by omega) ⟨fun p j a b => ?_, fun v hv => by rw [gx_w_np (by decide)]; exact k2 v hv, fun j hj => by rw [gx_w_np (by decide)]; exact k3 j hj, fun j hj al => ?_, fun j h1 h2 => ?_⟩
      · rw [gx_w_np (by omega)]; exact k1 p j (by omega) b
      · rw [gx_w_np (by decide), gx_w_p, k4 j hj al]
        by_cases z : j = k
        · rw [if_pos (show j < k + 1 by omega), if_neg (show ¬ j < k by omega), if_pos z, if_neg (fun q => q rfl), z]
          rw [z] at al
          by_cases z2 : M0 39 k = 0
          · exact z2
          · exact absurd ⟨al, z2⟩ hno
        · rw [if_neg z]
          by_cases z3 : j < k
          · rw [if_pos (by omega), if_pos z3]
          · rw [if_neg (by omega), if_neg z3]
      · by_cases z : j = k
        · rw [z, gx_w_p, if_pos rfl]
          exact ⟨fun q => absurd rfl q, fun q => absurd ⟨q.1, q.2.1⟩ hno⟩
        · exact up5 _ (fun i hi => by rw [gx_w_p, if_neg hi]) j (by omega) h2
    refine ⟨fun q => absurd q (by omega), fun _ => ⟨by omega, by omega, fun q => no (fun h => h.1 q), fun q => ⟨by omega, fun q2 => ⟨by omega, ?_⟩, fun q2 => no (fun h => h.2 q2)⟩⟩⟩
    generalize hM1 : gx_w (gx_w M 50 k 0) 42 k 0 = M1
    have c50 : ∀ j, M1 50 j = if j = k then 0 else M 50 j := fun j => by rw [← hM1, gx_w_np (by decide), gx_w_p]
    have c42 : ∀ j, M1 42 j = if j = k then 0 else M 42 j := fun j => by rw [← hM1, gx_w_p, gx_w_np (by decide)]
    have c : ∀ p, p ≠ 42 → p ≠ 50 → M1 p = M p := fun p a b => by rw [← hM1]; funext j; rw [gx_w_np a, gx_w_np b]
    have Q : deq (dR M1 n m) (dW (dS M0 n m) (brx (dS M0 n m) (fun i => decide (M1 50 i ≠ 0)) k)) := by
      have cc : ∀ p j, p < 42 → p ≠ 34 → M1 p j = M0 p j := fun p j a b => by rw [c p (by omega) (by omega)]; exact k1 p j (by omega) (by omega)
      refine ⟨rfl, rfl, fun v hv => ⟨?_, cc 36 v (by omega) (by omega)⟩, fun j hj => ⟨?_, fun al => ⟨cc 37 j (by omega) (by omega), cc 38 j (by omega) (by omega), ?_, ?_⟩⟩⟩
      · show M1 44 v = M0 35 v; rw [c 44 (by decide) (by decide)]; exact k2 v hv
      · show decide (M1 41 j ≠ 0) = decide (M0 41 j ≠ 0); rw [cc 41 j (by omega) (by omega)]
      · have al : M1 41 j ≠ 0 := of_decide_eq_true al
        rw [cc 41 j (by omega) (by omega)] at al
        show M1 42 j = brx (dS M0 n m) (fun i => decide (M1 50 i ≠ 0)) k j
        rw [c42]
        unfold brx
        by_cases z : j = k
        · rw [if_pos z, if_neg (by omega), if_pos z]
        · rw [if_neg z, k4 j hj al]
          by_cases z2 : j < k
          · rw [if_pos (by omega), if_pos z2]; rfl
          · rw [if_neg (by omega), if_neg z2, if_neg z]
            show _ = (if decide (M1 50 j ≠ 0) = true then _ else _)
            rw [c50, if_neg z]
            by_cases z3 : M 50 j = 0
            · rw [if_neg (fun h => h z3), if_neg (by rw [decide_eq_true_iff]; exact fun h => h z3)]
            · rw [if_pos z3, if_pos (decide_eq_true z3)]; rfl
      · show M1 43 j = M0 40 j; rw [c 43 (by decide) (by decide)]; exact k3 j hj
    have OW : gok (dW (dS M0 n m) (brx (dS M0 n m) (fun i => decide (M1 50 i ≠ 0)) k)) := gok_W O (fun j hj al => by
      have := O.2.2.2 j hj al
      unfold brx
      by_cases z : j < k
      · rw [if_pos z]; omega
      · rw [if_neg z]
        by_cases z2 : j = k
        · rw [if_pos z2, z0]; omega
        · rw [if_neg z2]
          by_cases z3 : decide (M1 50 j ≠ 0) = true
          · rw [if_pos z3]; omega
          · rw [if_neg z3, z0]; omega)
    have OR := gok_eq Q OW
    have hS : (∃ g, SP (dR M1 n m) (0 : Int32).toInt (1000000 : Int32).toInt g) ↔ ∃ g, FL (dW (dS M0 n m) (brx (dS M0 n m) (fun i => decide (M1 50 i ≠ 0)) k)) g := by
      rw [z0, zf]
      exact ⟨fun ⟨g, h⟩ => ⟨g, (deq_SP Q).mp h⟩, fun ⟨g, h⟩ => ⟨g, (deq_SP Q).mpr h⟩⟩
    refine sr_isThere (n := n) (m := m) (by rw [c 34 (by decide) (by decide), k1 34 0 (by omega) (by omega)]; exact hn) (by rw [c 34 (by decide) (by decide), k1 34 3 (by omega) (by omega)]; exact hm) OR (by decide) (by decide) (by decide) (fun M2 F2 S => ?_) (fun M2 F2 S => ?_)
    · intro x hx
      cases hx
      rw [hS] at S
      have d : ∀ p j, p ≠ 45 → p ≠ 46 → p ≠ 47 → p ≠ 34 → M2 p j = M1 p j := fun p j a b c d => F2 p j a b c (fun h => d h.1)
      have d39 : M2 39 k = M0 39 k := by rw [d 39 k (by decide) (by decide) (by decide) (by decide), c 39 (by decide) (by decide)]; exact e39
      rw [d39]
      refine ⟨fun q => absurd q (by decide), fun _ => ⟨by omega, by omega, by omega, ih _ (by omega) ⟨fun p j a b => ?_, fun v hv => ?_, fun j hj => ?_, fun j hj al => ?_, fun j h1 h2 => ?_⟩⟩⟩
      · rw [gx_w_np (by omega), gx_w_np (by omega), F2 p j (by omega) (by omega) (by omega) b, c p (by omega) (by omega)]; exact k1 p j a b
      · rw [gx_w_np (by decide), gx_w_np (by decide), d 44 v (by decide) (by decide) (by decide) (by decide), c 44 (by decide) (by decide)]; exact k2 v hv
      · rw [gx_w_np (by decide), gx_w_np (by decide), d 43 j (by decide) (by decide) (by decide) (by decide), c 43 (by decide) (by decide)]; exact k3 j hj
      · rw [gx_w_np (by decide), gx_w_p, gx_w_p, gx_w_np (by decide)]
        by_cases z : j = k
        · rw [if_pos z, if_neg (by omega), if_pos z, if_pos (by decide), z]
        · rw [if_neg z, if_neg z, d 42 j (by decide) (by decide) (by decide) (by decide), c42, if_neg z, d 50 j (by decide) (by decide) (by decide) (by decide), c50, if_neg z, k4 j hj al]
          by_cases z3 : j < k
          · rw [if_pos (by omega), if_pos z3]
          · rw [if_neg (by omega), if_neg z3]
      · have hh : ∀ i, i ≠ k → (gx_w (gx_w M2 42 k (M0 39 k)) 50 k 1) 50 i = M 50 i := fun i hi => by
          rw [gx_w_p, if_neg hi, gx_w_np (by decide), d 50 i (by decide) (by decide) (by decide) (by decide), c50, if_neg hi]
        by_cases z : j = k
        · rw [z, gx_w_p, if_pos rfl]
          refine ⟨fun _ => ⟨q, q2, ?_⟩, fun _ => by decide⟩
          have : brx (dS M0 n m) (fun i => decide ((gx_w (gx_w M2 42 k (M0 39 k)) 50 k 1) 50 i ≠ 0)) k = brx (dS M0 n m) (fun i => decide (M1 50 i ≠ 0)) k := brx_eq2 (fun i hi => by
            show decide ((gx_w (gx_w M2 42 k (M0 39 k)) 50 k 1) 50 i ≠ 0) = decide (M1 50 i ≠ 0)
            rw [hh i (by omega), c50, if_neg (by omega)])
          rw [this]; exact S
        · exact up5 _ hh j (by omega) h2
    · intro x hx
      cases hx
      rw [hS] at S
      have d : ∀ p j, p ≠ 45 → p ≠ 46 → p ≠ 47 → p ≠ 34 → M2 p j = M1 p j := fun p j a b c d => F2 p j a b c (fun h => d h.1)
      refine ⟨fun _ => ih _ (by omega) ⟨fun p j a b => ?_, fun v hv => ?_, fun j hj => ?_, fun j hj al => ?_, fun j h1 h2 => ?_⟩, fun q => absurd rfl q⟩
      · rw [F2 p j (by omega) (by omega) (by omega) b, c p (by omega) (by omega)]; exact k1 p j a b
      · rw [d 44 v (by decide) (by decide) (by decide) (by decide), c 44 (by decide) (by decide)]; exact k2 v hv
      · rw [d 43 j (by decide) (by decide) (by decide) (by decide), c 43 (by decide) (by decide)]; exact k3 j hj
      · rw [d 42 j (by decide) (by decide) (by decide) (by decide), c42, d 50 j (by decide) (by decide) (by decide) (by decide), c50]
        by_cases z : j = k
        · rw [if_pos z, if_neg (by omega), if_pos z, if_neg (fun h => h rfl)]
        · rw [if_neg z, if_neg z, k4 j hj al]
          by_cases z3 : j < k
          · rw [if_pos (by omega), if_pos z3]
          · rw [if_neg (by omega), if_neg z3]
      · have hh : ∀ i, i ≠ k → M2 50 i = M 50 i := fun i hi => by
          rw [d 50 i (by decide) (by decide) (by decide) (by decide), c50, if_neg hi]
        by_cases z : j = k
        · rw [z, d 50 k (by decide) (by decide) (by decide) (by decide), c50, if_pos rfl]
          refine ⟨fun h => absurd rfl h, fun h => absurd ?_ S⟩
          have : brx (dS M0 n m) (fun i => decide (M2 50 i ≠ 0)) k = brx (dS M0 n m) (fun i => decide (M1 50 i ≠ 0)) k := brx_eq2 (fun i hi => by
            show decide (M2 50 i ≠ 0) = decide (M1 50 i ≠ 0)
            rw [hh i (by omega), c50, if_neg (by omega)])
          rw [← this]; exact h.2.2
        · exact up5 _ hh j (by omega) h2
set_option maxRecDepth 100000 in
set_option maxHeartbeats 4000000 in
theorem sr_findBarred {X : gx_X} {M : gx_M} {n m : Nat} {P : Option Value → gx_M → Prop} (hn : M 34 0 = nI n) (hm : M 34 3 = nI m) (O : gok (dS M n m))
    (hP : ∀ M1, rB M M1 → BR (dS M n m) (fun k => decide (M1 50 k ≠ 0)) → P none M1) : gx_C X 69 [.ref 34] M P := by
  refine gx_C_wp 20 ?_
  simp only [gx_w_np, gx_w_p, ne_eq, not_false_eq_true, gx_wp, gx_step, gx_cnd, gb0, gb1, Classical.not_not, List.getD_cons_zero, List.getD_cons_succ, List.set_cons_zero, List.set_cons_succ, List.length_cons, List.length_nil, Nat.reduceAdd, Nat.reduceLT, Nat.reduceLeDiff, Nat.reduceEqDiff, Bool.and_false, Bool.and_true, Bool.true_and, Bool.false_and, Bool.false_eq_true, if_false, if_true, ite_true, ite_false, Fin.isValue, Fin.val_zero, Fin.val_one, Fin.val_two, gz0, gz1, gz2, gz3, List.take_succ_cons, List.take_zero, List.drop_succ_cons, List.drop_zero, List.reverse_cons, List.reverse_nil, List.nil_append, List.cons_append, gx_nx, Int32.reduceToInt, Int.reduceToNat, Int.toNat_zero, Int.toNat_one, Int.reduceLT, Int.reduceLE, Int.ofNat_zero, Int.reduceNeg, Int.le_refl, and_self, List.getElem?_cons_zero, List.getElem?_cons_succ, true_and, and_true, Nat.reduceSub, List.replicate, List.append_nil, Nat.reduceLeDiff, Nat.le_add_left, Nat.zero_le, Nat.zero_add, gc4_94, gf4_22, gf4_28, gf4_32, gf4_56, gf4_84, gk_iconst_0, gk_iconst_1, gk_iconst_m1, gm4_103, gm4_107, gn64, gn65, gn69, gr64, gr65, gr69, gv69, gi69_0, gi69_1, gi69_4, gi69_5, gi69_8, gi69_9, gi69_10, gi69_11, gi69_12, gi69_15, gi69_16, gi69_19, gi69_20, gi69_21, gi69_22, gi69_23, gi69_26, gi69_27, gi69_28, gi69_31, gi69_32, gi69_35, gi69_36, gi69_37, gi69_40, gi69_43, gi69_44, gi69_47, gi69_48, gi69_49, gi69_50, gi69_51, gi69_52, gi69_54, gi69_57, gi69_60, gi69_61, gi69_64, gi69_65, gi69_66, gi69_69, gi69_70, gi69_71, gi69_72, gi69_73, gi69_76, gi69_77, gi69_78, gi69_79, gi69_82, gi69_85, gl0, gl1, gl2, gl3, gl4, gl5, gl6, gl7, gl8, gl9, gl10, gl11, gl12, gl13, gl14, gl15, gl16, gl17, gl18, gl19, gl20, gl21, gl22, gl23, gl24, gl25, gl26, gl27, gl28, gl29, gl30, gl31, gl32, gl33, gl34, gl35, gl36, gl37, gl38, gl39, gl40, gl41, gl42, gl43, gl44, gl45, gl46, gl47, gl48, gl49, gl50, gl51, gl52, gl53, gl54, gl55, gl56, gl57]
  refine sr_take hn hm O.1 O.2.1 (fun M1 T T1 T2 => ?_)
  have e3 : M1 34 3 = nI m := by rw [T 34 (by decide) (by decide) (by decide)]; exact hm
  rw [e3]
  refine l69 hn hm O (fun M2 K => hP M2 K.1 (fun k hk => ?_)) m M1 (Nat.le_refl _) ⟨fun p j a b => by rw [T p (by omega) (by omega) (by omega)], T2, fun j hj => (T1 j hj).2, fun j hj al => by rw [if_pos hj]; exact (T1 j hj).1, fun j h1 h2 => absurd h2 (by omega)⟩
  have := K.2.2.2.2 k (by omega) hk
  constructor
  · intro h
    have := this.mp (of_decide_eq_true h)
    exact ⟨decide_eq_true this.1, this.2.1, this.2.2⟩
  · rintro ⟨a, b, c⟩
    exact decide_eq_true (this.mpr ⟨of_decide_eq_true a, b, c⟩)
