/-! layOut: its first loop, over the nodes; the whole. -/
theorem lyE_s {M0 : gx_M} {kd : Nat → Int32} {i e : Nat} (hi : i < 10) (he : e < 61) : lyE M0 kd (i + 1) 0 e = if e = 40 + i then true else if e = 50 + i then decide (kd i ≠ 0) else lyE M0 kd i 0 e := by
  by_cases z : e = 40 + i
  · rw [if_pos z]
    unfold lyE
    exact decide_eq_true (Or.inr (Or.inl (by omega)))
  · rw [if_neg z]
    by_cases z2 : e = 50 + i
    · rw [if_pos z2]
      unfold lyE
      refine decide_eq_decide.mpr ⟨fun h => ?_, fun h => ?_⟩
      · rcases h with h | h | h
        · omega
        · omega
        · have := h.2.2.2
          rw [show e - 50 = i by omega] at this
          exact this
      · exact Or.inr (Or.inr ⟨by omega, by omega, by omega, by rw [show e - 50 = i by omega]; exact h⟩)
    · rw [if_neg z2]
      unfold lyE
      refine decide_eq_decide.mpr ⟨fun h => ?_, fun h => ?_⟩
      · rcases h with h | h | h
        · omega
        · exact Or.inr (Or.inl (by omega))
        · exact Or.inr (Or.inr ⟨h.1, by omega, h.2.2⟩)
      · rcases h with h | h | h
        · omega
        · exact Or.inr (Or.inl (by omega))
        · exact Or.inr (Or.inr ⟨h.1, by omega, h.2.2⟩)
theorem ite2_le {p q : Prop} [Decidable p] [Decidable q] (x : Nat) : (if p then x + 1 else if q then x + 1 else x) ≤ x + 1 := by
  by_cases h : p
  · rw [if_pos h]; omega
  · rw [if_neg h]
    by_cases h2 : q
    · rw [if_pos h2]; omega
    · rw [if_neg h2]; omega
set_option maxRecDepth 100000 in
set_option maxHeartbeats 4000000 in
theorem l_layNodes {X : gx_X} {M0 : gx_M} {n m : Nat} {P : Option Value → gx_M → Prop} (W : gg_W M0 n m)
    (hP : ∀ M1, mk_ M0 M1 (fun e => if e = 60 then true else lyE M0 (M0 4) n m e) (lyL M0) (lyH M0) (lyA M0 (M0 4)) (lyB M0 (M0 4)) (fun w => if 20 ≤ w then lyC (M0 4) n m w + 1 else lyC (M0 4) n m w) → P none M1) :
    ∀ (d i : Nat) (M : gx_M) (v2 v3 : Value), i + d = n → mk_ M0 M (lyE M0 (M0 4) i 0) (lyL M0) (lyH M0) (lyA M0 (M0 4)) (lyB M0 (M0 4)) (lyC (M0 4) i 0) → gx_OK X 55 9 [.ref 0, .int (nI i), v2, v3] [] M P := by
  obtain ⟨w1, w2, w3, w4, w5, w6, w7⟩ := id W
  intro d
  induction d with
  | zero =>
    intro i M v2 v3 hi K
    have e7 : M 1 7 = nI n := by rw [K.1 1 (by decide) (by decide) (by decide) (by decide) (by decide) (by decide) (by decide) (by decide)]; exact w1
    refine gx_wp_ok 100 false _ _ _ _ ?_
    simp only [gx_w_np, gx_w_p, ne_eq, not_false_eq_true, gx_wp, gx_step, gx_cnd, gb0, gb1, Classical.not_not, List.getD_cons_zero, List.getD_cons_succ, List.set_cons_zero, List.set_cons_succ, List.length_cons, List.length_nil, Nat.reduceAdd, Nat.reduceLT, Nat.reduceLeDiff, Nat.reduceEqDiff, Bool.and_false, Bool.and_true, Bool.true_and, Bool.false_and, Bool.false_eq_true, if_false, if_true, ite_true, ite_false, Fin.isValue, Fin.val_zero, Fin.val_one, Fin.val_two, gz0, gz1, gz2, gz3, List.take_succ_cons, List.take_zero, List.drop_succ_cons, List.drop_zero, List.reverse_cons, List.reverse_nil, List.nil_append, List.cons_append, gx_nx, Int32.reduceToInt, Int.reduceToNat, Int.toNat_zero, Int.toNat_one, Int.reduceLT, Int.reduceLE, Int.ofNat_zero, Int.reduceNeg, Int.le_refl, and_self, List.getElem?_cons_zero, List.getElem?_cons_succ, true_and, and_true, Nat.reduceSub, List.replicate, List.append_nil, Nat.reduceLeDiff, Nat.le_add_left, Nat.zero_le, Nat.zero_add, gc3_64, gf3_12, gf3_19, gf3_202, gf3_205, gf3_46, gf3_61, gf3_65, gf3_72, gf3_82, gf3_85, gk_bipush_20, gk_bipush_21, gk_bipush_40, gk_bipush_60, gk_iconst_0, gk_iconst_1, gk_iconst_m1, gm3_185, gm3_188, gm3_191, gm3_194, gm3_198, gm3_79, gn1, gn50, gn51, gn55, gn56, gn8, gn9, gr1, gr50, gr51, gr55, gr56, gr8, gr9, gv55, gi55_0, gi55_1, gi55_4, gi55_7, gi55_8, gi55_9, gi55_10, gi55_11, gi55_14, gi55_17, gi55_20, gi55_21, gi55_24, gi55_27, gi55_28, gi55_29, gi55_30, gi55_31, gi55_34, gi55_36, gi55_37, gi55_38, gi55_39, gi55_42, gi55_43, gi55_46, gi55_47, gi55_48, gi55_49, gi55_52, gi55_54, gi55_57, gi55_58, gi55_61, gi55_62, gi55_63, gi55_64, gi55_67, gi55_70, gi55_71, gi55_72, gi55_75, gi55_78, gi55_81, gi55_82, gi55_83, gi55_84, gi55_85, gi55_88, gi55_91, gi55_94, gi55_95, gi55_98, gi55_99, gi55_102, gi55_105, gi55_106, gi55_109, gi55_112, gi55_113, gi55_114, gi55_117, gi55_118, gi55_119, gi55_122, gi55_125, gi55_126, gi55_127, gi55_130, gi55_131, gi55_132, gi55_135, gi55_136, gi55_137, gi55_138, gi55_139, gi55_142, gi55_145, gi55_146, gi55_147, gi55_148, gi55_151, gi55_154, gi55_155, gi55_156, gi55_159, gi55_162, gi55_165, gi55_166, gi55_169, gi55_171, gi55_173, gi55_175, gi55_176, gi55_178, gi55_181, gl0, gl1, gl2, gl3, gl4, gl5, gl6, gl7, gl8, gl9, gl10, gl11, gl12, gl13, gl14, gl15, gl16, gl17, gl18, gl19, gl20, gl21, gl22, gl23, gl24, gl25, gl26, gl27, gl28, gl29, gl30, gl31, gl32, gl33, gl34, gl35, gl36, gl37, gl38, gl39, gl40, gl41, gl42, gl43, gl44, gl45, gl46, gl47, gl48, gl49, gl50, gl51, gl52, gl53, gl54, gl55, gl56, gl57]
    simp (disch := first | decide | omega) only [gx_w_np, gx_w_p, Int32.reduceToInt, Int.toNat_natCast, if_true, if_false, nI_1, nI_pred, i_nI, ite_true, ite_false, Int.reduceToNat, Nat.reduceEqDiff, Nat.reduceAdd, e7, i_le]
    refine ⟨fun _ => ?_, fun q => absurd (by omega) q⟩
    have := l_layArcs (X := X) W hP m 0 M v2 v3 (by omega) (by rw [show n = i by omega]; exact K)
    rw [nI_0] at this
    exact this
  | succ d ih =>
    intro i M v2 v3 hi K
    have kp : ∀ p, p ≠ 11 → p ≠ 12 → p ≠ 13 → p ≠ 14 → p ≠ 15 → p ≠ 16 → p ≠ 17 → p ≠ 18 → M p = M0 p := K.1
    have k1 : M 1 = M0 1 := kp 1 (by decide) (by decide) (by decide) (by decide) (by decide) (by decide) (by decide) (by decide)
    have k5 : M 5 = M0 5 := kp 5 (by decide) (by decide) (by decide) (by decide) (by decide) (by decide) (by decide) (by decide)
    have e7 : M 1 7 = nI n := by rw [k1]; exact w1
    have g := w5 i (by omega)
    have hA : lyA M0 (M0 4) (40 + i) = 2 * i := by unfold lyA; rw [if_neg (by omega), if_pos (by omega)]; omega
    have hB : lyB M0 (M0 4) (40 + i) = 2 * i + 1 := by unfold lyB; rw [if_neg (by omega), if_pos (by omega)]; omega
    have hL : lyL M0 (40 + i) = 0 := by unfold lyL; rw [if_neg (by omega)]
    have hH : lyH M0 (40 + i) = if M0 5 i = -1 then 100000 else M0 5 i := by unfold lyH; rw [if_neg (by omega), if_pos (by omega), show 40 + i - 40 = i by omega]
    have e40 : (40 : Int32) + nI i = nI (40 + i) := by rw [show (40 : Int32) = nI 40 by decide, nI_add]
    have c0 : lyC (M0 4) i 0 (2 * i) = 0 := by unfold lyC; rw [if_pos (by omega), if_neg (by omega)]
    have c1 : lyC (M0 4) i 0 (2 * i + 1) = 0 := by unfold lyC; rw [if_pos (by omega), if_neg (by omega)]
    have c20 : ∀ w, 20 ≤ w → lyC (M0 4) i 0 w = i := fun w hw => by unfold lyC; rw [if_neg (by omega)]
    have rest : ∀ (x : Int32), x = lyH M0 (40 + i) → ∀ v2 : Value, gx_C X 9 [.ref 2, .int (nI (40 + i)), .int (nI (2 * i)), .int (nI (2 * i + 1)), .int 0, .int x] M (fun r M1 => (0 ≤ (i : Int) ∧ (i : Int) < ((10 : Nat) : Int)) ∧ gx_C X 56 [.ref 0, .int (nI i), .int (M1 4 i)] M1 (fun r M1 => gx_OK X 55 9 [.ref 0, .int (nI (i + 1)), v2, v3] [] M1 P)) := by
      intro x hx v2
      rw [hx, ← hL, ← hB, ← hA]
      refine sp_put K (by omega) (by unfold lyE; simp; omega) (by rw [hA]; omega) (by rw [hB]; omega) (by rw [hA, hB]; omega) (by rw [hA, c0]; omega) (by rw [hB, c1]; omega) (fun M1 K1 => ⟨by omega, ?_⟩)
      have k4 : M1 4 = M0 4 := K1.1 4 (by decide) (by decide) (by decide) (by decide) (by decide) (by decide) (by decide) (by decide)
      rw [k4]
      have A2 : lyA M0 (M0 4) (50 + i) = if M0 4 i = 1 then 20 else 2 * i + 1 := by unfold lyA; rw [if_neg (by omega), if_neg (by omega), if_pos (by omega), show 50 + i - 50 = i by omega]
      have B2 : lyB M0 (M0 4) (50 + i) = if M0 4 i = 1 then 2 * i else 21 := by unfold lyB; rw [if_neg (by omega), if_neg (by omega), if_pos (by omega), show 50 + i - 50 = i by omega]
      have ctu : ∀ w, (if w = lyA M0 (M0 4) (40 + i) then lyC (M0 4) i 0 w + 1 else if w = lyB M0 (M0 4) (40 + i) then lyC (M0 4) i 0 w + 1 else lyC (M0 4) i 0 w) ≤ lyC (M0 4) i 0 w + 1 := fun w => by
        by_cases z : w = lyA M0 (M0 4) (40 + i)
        · rw [if_pos z]; omega
        · rw [if_neg z]
          by_cases z2 : w = lyB M0 (M0 4) (40 + i)
          · rw [if_pos z2]; omega
          · rw [if_neg z2]; omega
      have ctf : ∀ w, w < 22 → lyC (M0 4) i 0 w ≤ lyC (M0 4) (i + 1) 0 w ∧ (w = 2 * i ∨ w = 2 * i + 1 → 1 + (if M0 4 i = 0 then 0 else 1) ≤ lyC (M0 4) (i + 1) 0 w) ∧ (20 ≤ w → i + 1 ≤ lyC (M0 4) (i + 1) 0 w) := by
        intro w hw
        unfold lyC
        refine ⟨?_, fun h => ?_, fun h => ?_⟩
        · by_cases z : w < 20
          · rw [if_pos z, if_pos z]
            by_cases z2 : w / 2 < i
            · rw [if_pos z2, if_pos (show w / 2 < i + 1 by omega)]; exact Nat.le_refl _
            · rw [if_neg z2]; omega
          · rw [if_neg z, if_neg z]; omega
        · rw [if_pos (show w < 20 by omega), if_pos (show w / 2 < i + 1 by omega), show w / 2 = i by omega]
          exact Nat.le_refl _
        · rw [if_neg (by omega)]; exact Nat.le_refl _
      refine sp_layOutEnd K1 (by omega) ?_ ?_ ?_ (Nat.lt_of_le_of_lt (ctu 20) (by rw [c20 20 (by omega)]; omega)) (Nat.lt_of_le_of_lt (ctu 21) (by rw [c20 21 (by omega)]; omega)) (Nat.lt_of_le_of_lt (ctu (2 * i)) (by rw [c0]; omega)) (Nat.lt_of_le_of_lt (ctu (2 * i + 1)) (by rw [c1]; omega)) (fun q => ?_) (fun q => ?_) (fun q1 q2 => ?_) (fun q M2 K2 => ?_)
      · show (if 50 + i = 40 + i then true else lyE M0 (M0 4) i 0 (50 + i)) = false
        rw [if_neg (by omega)]
        unfold lyE
        exact decide_eq_false (fun h => by rcases h with h | h | h <;> omega)
      · unfold lyL; rw [if_neg (by omega)]
      · unfold lyH; rw [if_neg (by omega), if_neg (by omega)]
      · rw [A2, B2, if_pos q, if_pos q]; exact ⟨rfl, rfl⟩
      · have q1 : ¬ M0 4 i = 1 := by rw [q]; decide
        rw [A2, B2, if_neg q1, if_neg q1]; exact ⟨rfl, rfl⟩
      · have hk : M0 4 i = 0 := by
          have a0 : (0 : Int32).toInt = 0 := by decide
          have a1 : (1 : Int32).toInt = 1 := by decide
          have a2 : (2 : Int32).toInt = 2 := by decide
          have b1 : (M0 4 i).toInt ≠ 1 := fun z => q1 (i_eq.mpr (by rw [z, a1]))
          have b2 : (M0 4 i).toInt ≠ 2 := fun z => q2 (i_eq.mpr (by rw [z, a2]))
          exact i_eq.mpr (by rw [a0]; omega)
        refine ih (i + 1) M1 _ _ (by omega) (mk_mono K1 (fun e he => ?_) (fun w hw => ?_))
        · rw [lyE_s (by omega) he]
          by_cases z : e = 40 + i
          · rw [if_pos z, if_pos z]
          · rw [if_neg z, if_neg z]
            by_cases z2 : e = 50 + i
            · rw [if_pos z2, z2, show decide (M0 4 i ≠ 0) = false from decide_eq_false (fun q => q hk)]
              unfold lyE
              exact (decide_eq_false (fun h => by rcases h with h | h | h <;> omega)).symm
            · rw [if_neg z2]
        · have h1 := ctf w hw
          show (if w = lyA M0 (M0 4) (40 + i) then lyC (M0 4) i 0 w + 1 else if w = lyB M0 (M0 4) (40 + i) then lyC (M0 4) i 0 w + 1 else lyC (M0 4) i 0 w) ≤ _
          rw [hA, hB]
          by_cases z : w = 2 * i
          · rw [if_pos z, z, c0]
            have := h1.2.1 (Or.inl z)
            rw [z] at this
            omega
          · rw [if_neg z]
            by_cases z2 : w = 2 * i + 1
            · rw [if_pos z2, z2, c1]
              have := h1.2.1 (Or.inr z2)
              rw [z2] at this
              omega
            · rw [if_neg z2]; exact h1.1
      · have hk : M0 4 i ≠ 0 := by
          rcases q with q | q <;> rw [q] <;> decide
        refine ih (i + 1) M2 _ _ (by omega) (mk_mono K2 (fun e he => ?_) (fun w hw => ?_))
        · rw [lyE_s (by omega) he]
          by_cases z : e = 50 + i
          · rw [if_pos z, if_neg (by omega), if_pos z]
            exact decide_eq_true hk
          · rw [if_neg z, if_neg z]
        · have h1 := ctf w hw
          show (if w = lyA M0 (M0 4) (50 + i) then (if w = lyA M0 (M0 4) (40 + i) then lyC (M0 4) i 0 w + 1 else if w = lyB M0 (M0 4) (40 + i) then lyC (M0 4) i 0 w + 1 else lyC (M0 4) i 0 w) + 1 else if w = lyB M0 (M0 4) (50 + i) then (if w = lyA M0 (M0 4) (40 + i) then lyC (M0 4) i 0 w + 1 else if w = lyB M0 (M0 4) (40 + i) then lyC (M0 4) i 0 w + 1 else lyC (M0 4) i 0 w) + 1 else (if w = lyA M0 (M0 4) (40 + i) then lyC (M0 4) i 0 w + 1 else if w = lyB M0 (M0 4) (40 + i) then lyC (M0 4) i 0 w + 1 else lyC (M0 4) i 0 w)) ≤ _
          rw [hA, hB]
          rw [if_neg hk] at h1
          by_cases z : w = 2 * i ∨ w = 2 * i + 1
          · have h2 := h1.2.1 z
            have h3 : lyC (M0 4) i 0 w = 0 := by
              rcases z with z | z <;> rw [z] <;> assumption
            rw [h3]
            exact Nat.le_trans (ite2_le _) (Nat.le_trans (Nat.add_le_add_right (ite2_le 0) 1) h2)
          · have z1 : w ≠ 2 * i := fun q => z (Or.inl q)
            have z2 : w ≠ 2 * i + 1 := fun q => z (Or.inr q)
            rw [if_neg z1, if_neg z2]
            by_cases z3 : 20 ≤ w
            · have := h1.2.2 z3
              rw [c20 w z3]
              exact Nat.le_trans (ite2_le _) this
            · have n1 : ¬ w = lyA M0 (M0 4) (50 + i) := by
                rw [A2]
                by_cases y : M0 4 i = 1
                · rw [if_pos y]; omega
                · rw [if_neg y]; exact z2
              have n2 : ¬ w = lyB M0 (M0 4) (50 + i) := by
                rw [B2]
                by_cases y : M0 4 i = 1
                · rw [if_pos y]; exact z1
                · rw [if_neg y]; omega
              rw [if_neg n1, if_neg n2]
              exact h1.1
    refine gx_wp_ok 100 false _ _ _ _ ?_
    simp only [gx_w_np, gx_w_p, ne_eq, not_false_eq_true, gx_wp, gx_step, gx_cnd, gb0, gb1, Classical.not_not, List.getD_cons_zero, List.getD_cons_succ, List.set_cons_zero, List.set_cons_succ, List.length_cons, List.length_nil, Nat.reduceAdd, Nat.reduceLT, Nat.reduceLeDiff, Nat.reduceEqDiff, Bool.and_false, Bool.and_true, Bool.true_and, Bool.false_and, Bool.false_eq_true, if_false, if_true, ite_true, ite_false, Fin.isValue, Fin.val_zero, Fin.val_one, Fin.val_two, gz0, gz1, gz2, gz3, List.take_succ_cons, List.take_zero, List.drop_succ_cons, List.drop_zero, List.reverse_cons, List.reverse_nil, List.nil_append, List.cons_append, gx_nx, Int32.reduceToInt, Int.reduceToNat, Int.toNat_zero, Int.toNat_one, Int.reduceLT, Int.reduceLE, Int.ofNat_zero, Int.reduceNeg, Int.le_refl, and_self, List.getElem?_cons_zero, List.getElem?_cons_succ, true_and, and_true, Nat.reduceSub, List.replicate, List.append_nil, Nat.reduceLeDiff, Nat.le_add_left, Nat.zero_le, Nat.zero_add, gc3_64, gf3_12, gf3_19, gf3_202, gf3_205, gf3_46, gf3_61, gf3_65, gf3_72, gf3_82, gf3_85, gk_bipush_20, gk_bipush_21, gk_bipush_40, gk_bipush_60, gk_iconst_0, gk_iconst_1, gk_iconst_m1, gm3_185, gm3_188, gm3_191, gm3_194, gm3_198, gm3_79, gn1, gn50, gn51, gn55, gn56, gn8, gn9, gr1, gr50, gr51, gr55, gr56, gr8, gr9, gv55, gi55_0, gi55_1, gi55_4, gi55_7, gi55_8, gi55_9, gi55_10, gi55_11, gi55_14, gi55_17, gi55_20, gi55_21, gi55_24, gi55_27, gi55_28, gi55_29, gi55_30, gi55_31, gi55_34, gi55_36, gi55_37, gi55_38, gi55_39, gi55_42, gi55_43, gi55_46, gi55_47, gi55_48, gi55_49, gi55_52, gi55_54, gi55_57, gi55_58, gi55_61, gi55_62, gi55_63, gi55_64, gi55_67, gi55_70, gi55_71, gi55_72, gi55_75, gi55_78, gi55_81, gi55_82, gi55_83, gi55_84, gi55_85, gi55_88, gi55_91, gi55_94, gi55_95, gi55_98, gi55_99, gi55_102, gi55_105, gi55_106, gi55_109, gi55_112, gi55_113, gi55_114, gi55_117, gi55_118, gi55_119, gi55_122, gi55_125, gi55_126, gi55_127, gi55_130, gi55_131, gi55_132, gi55_135, gi55_136, gi55_137, gi55_138, gi55_139, gi55_142, gi55_145, gi55_146, gi55_147, gi55_148, gi55_151, gi55_154, gi55_155, gi55_156, gi55_159, gi55_162, gi55_165, gi55_166, gi55_169, gi55_171, gi55_173, gi55_175, gi55_176, gi55_178, gi55_181, gl0, gl1, gl2, gl3, gl4, gl5, gl6, gl7, gl8, gl9, gl10, gl11, gl12, gl13, gl14, gl15, gl16, gl17, gl18, gl19, gl20, gl21, gl22, gl23, gl24, gl25, gl26, gl27, gl28, gl29, gl30, gl31, gl32, gl33, gl34, gl35, gl36, gl37, gl38, gl39, gl40, gl41, gl42, gl43, gl44, gl45, gl46, gl47, gl48, gl49, gl50, gl51, gl52, gl53, gl54, gl55, gl56, gl57]
    simp (disch := first | decide | omega) only [gx_w_np, gx_w_p, Int32.reduceToInt, Int.toNat_natCast, if_true, if_false, nI_1, nI_pred, i_nI, ite_true, ite_false, Int.reduceToNat, Nat.reduceEqDiff, Nat.reduceAdd, e7, i_le, e40]
    refine ⟨fun q => absurd q (by omega), fun _ => ⟨by omega, sp_cameIn ?_⟩⟩
    intro z hz
    cases hz
    refine sp_goesOut ?_
    intro z hz
    cases hz
    rw [k5]
    refine ⟨fun q => rest _ (by rw [hH, if_neg q]) _, fun q => rest _ (by rw [hH, if_pos q]) _⟩
set_option maxRecDepth 100000 in
set_option maxHeartbeats 4000000 in
theorem sp_layOut {X : gx_X} {M0 : gx_M} {n m : Nat} {P : Option Value → gx_M → Prop} (W : gg_W M0 n m) (hst : stl M0)
    (hP : ∀ M1, mk_ M0 M1 (fun e => if e = 60 then true else lyE M0 (M0 4) n m e) (lyL M0) (lyH M0) (lyA M0 (M0 4)) (lyB M0 (M0 4)) (fun w => if 20 ≤ w then lyC (M0 4) n m w + 1 else lyC (M0 4) n m w) → P none M1) : gx_C X 55 [.ref 0] M0 P := by
  refine gx_C_wp 100 ?_
  simp only [gx_w_np, gx_w_p, ne_eq, not_false_eq_true, gx_wp, gx_step, gx_cnd, gb0, gb1, Classical.not_not, List.getD_cons_zero, List.getD_cons_succ, List.set_cons_zero, List.set_cons_succ, List.length_cons, List.length_nil, Nat.reduceAdd, Nat.reduceLT, Nat.reduceLeDiff, Nat.reduceEqDiff, Bool.and_false, Bool.and_true, Bool.true_and, Bool.false_and, Bool.false_eq_true, if_false, if_true, ite_true, ite_false, Fin.isValue, Fin.val_zero, Fin.val_one, Fin.val_two, gz0, gz1, gz2, gz3, List.take_succ_cons, List.take_zero, List.drop_succ_cons, List.drop_zero, List.reverse_cons, List.reverse_nil, List.nil_append, List.cons_append, gx_nx, Int32.reduceToInt, Int.reduceToNat, Int.toNat_zero, Int.toNat_one, Int.reduceLT, Int.reduceLE, Int.ofNat_zero, Int.reduceNeg, Int.le_refl, and_self, List.getElem?_cons_zero, List.getElem?_cons_succ, true_and, and_true, Nat.reduceSub, List.replicate, List.append_nil, Nat.reduceLeDiff, Nat.le_add_left, Nat.zero_le, Nat.zero_add, gc3_64, gf3_12, gf3_19, gf3_202, gf3_205, gf3_46, gf3_61, gf3_65, gf3_72, gf3_82, gf3_85, gk_bipush_20, gk_bipush_21, gk_bipush_40, gk_bipush_60, gk_iconst_0, gk_iconst_1, gk_iconst_m1, gm3_185, gm3_188, gm3_191, gm3_194, gm3_198, gm3_79, gn1, gn50, gn51, gn55, gn56, gn8, gn9, gr1, gr50, gr51, gr55, gr56, gr8, gr9, gv55, gi55_0, gi55_1, gi55_4, gi55_7, gi55_8, gi55_9, gi55_10, gi55_11, gi55_14, gi55_17, gi55_20, gi55_21, gi55_24, gi55_27, gi55_28, gi55_29, gi55_30, gi55_31, gi55_34, gi55_36, gi55_37, gi55_38, gi55_39, gi55_42, gi55_43, gi55_46, gi55_47, gi55_48, gi55_49, gi55_52, gi55_54, gi55_57, gi55_58, gi55_61, gi55_62, gi55_63, gi55_64, gi55_67, gi55_70, gi55_71, gi55_72, gi55_75, gi55_78, gi55_81, gi55_82, gi55_83, gi55_84, gi55_85, gi55_88, gi55_91, gi55_94, gi55_95, gi55_98, gi55_99, gi55_102, gi55_105, gi55_106, gi55_109, gi55_112, gi55_113, gi55_114, gi55_117, gi55_118, gi55_119, gi55_122, gi55_125, gi55_126, gi55_127, gi55_130, gi55_131, gi55_132, gi55_135, gi55_136, gi55_137, gi55_138, gi55_139, gi55_142, gi55_145, gi55_146, gi55_147, gi55_148, gi55_151, gi55_154, gi55_155, gi55_156, gi55_159, gi55_162, gi55_165, gi55_166, gi55_169, gi55_171, gi55_173, gi55_175, gi55_176, gi55_178, gi55_181, gl0, gl1, gl2, gl3, gl4, gl5, gl6, gl7, gl8, gl9, gl10, gl11, gl12, gl13, gl14, gl15, gl16, gl17, gl18, gl19, gl20, gl21, gl22, gl23, gl24, gl25, gl26, gl27, gl28, gl29, gl30, gl31, gl32, gl33, gl34, gl35, gl36, gl37, gl38, gl39, gl40, gl41, gl42, gl43, gl44, gl45, gl46, gl47, gl48, gl49, gl50, gl51, gl52, gl53, gl54, gl55, gl56, gl57]
  refine sp_empty (fun M1 E => ?_)
  obtain ⟨e1, e2, e3⟩ := E
  have e13 : M1 13 = M0 13 := e1 13 (by decide) (by decide) (by decide) (by decide) (by decide)
  have e14 : M1 14 = M0 14 := e1 14 (by decide) (by decide) (by decide) (by decide) (by decide)
  have no : ∀ e, lyE M0 (M0 4) 0 0 e = false := fun e => by
    unfold lyE
    exact decide_eq_false (fun h => by rcases h with h | h | h <;> omega)
  have := l_layNodes (X := X) W hP n 0 M1 .null .null (by omega) ⟨fun p h1 h2 h3 h4 h5 h6 h7 h8 => e1 p h1 h2 h5 h6 h8, ⟨fun e he hp => ?_, fun w hw => ⟨0, by omega, ?_, fun i hi => absurd hi (by omega)⟩, fun h hh hp => ?_⟩, fun e he => ⟨fun q => ?_, fun _ => ⟨(e2 e he).1, (e2 e he).2.1⟩, (e2 e he).2.2.1, (e2 e he).2.2.2, ?_⟩, fun w hw => ⟨0, by omega, ?_⟩⟩
  · rw [nI_0] at this
    exact this
  · rw [no] at hp; cases hp
  · rw [e3 w hw, nI_0]
  · rw [no] at hp; cases hp
  · rw [no] at q; cases q
  · rw [e13, e14]; exact hst e he
  · rw [e3 w hw, nI_0]
