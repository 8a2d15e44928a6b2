/-! layOut: its second loop, over the arcs. -/
set_option maxRecDepth 100000 in
set_option maxHeartbeats 4000000 in
theorem l_layArcs {X : gx_X} {M0 : gx_M} {n m : Nat} {P : Option Value → gx_M → Prop} (W : gg_W M0 n m)
    (hP : ∀ M1, mk_ M0 M1 (fun e => if e = 60 then true else lyE M0 (M0 4) n m e) (lyL M0) (lyH M0) (lyA M0 (M0 4)) (lyB M0 (M0 4)) (fun w => if 20 ≤ w then lyC (M0 4) n m w + 1 else lyC (M0 4) n m w) → P none M1) :
    ∀ (d j : Nat) (M : gx_M) (v2 v3 : Value), j + d = m → mk_ M0 M (lyE M0 (M0 4) n j) (lyL M0) (lyH M0) (lyA M0 (M0 4)) (lyB M0 (M0 4)) (lyC (M0 4) n j) → gx_OK X 55 83 [.ref 0, .int (nI j), v2, v3] [] M P := by
  obtain ⟨w1, w2, w3, w4, w5, w6, w7⟩ := id W
  intro d
  induction d with
  | zero =>
    intro j M v2 v3 hj K
    have e8 : M 1 8 = nI m := by rw [K.1 1 (by decide) (by decide) (by decide) (by decide) (by decide) (by decide) (by decide) (by decide)]; exact w2
    refine gx_wp_ok 100 false _ _ _ _ ?_
    simp only [gx_w_np, gx_w_p, ne_eq, not_false_eq_true, gx_wp, gx_step, gx_cnd, gb0, gb1, Classical.not_not, List.getD_cons_zero, List.getD_cons_succ, List.set_cons_zero, List.set_cons_succ, List.length_cons, List.length_nil, Nat.reduceAdd, Nat.reduceLT, Nat.reduceLeDiff, Nat.reduceEqDiff, Bool.and_false, Bool.and_true, Bool.true_and, Bool.false_and, Bool.false_eq_true, if_false, if_true, ite_true, ite_false, Fin.isValue, Fin.val_zero, Fin.val_one, Fin.val_two, gz0, gz1, gz2, gz3, List.take_succ_cons, List.take_zero, List.drop_succ_cons, List.drop_zero, List.reverse_cons, List.reverse_nil, List.nil_append, List.cons_append, gx_nx, Int32.reduceToInt, Int.reduceToNat, Int.toNat_zero, Int.toNat_one, Int.reduceLT, Int.reduceLE, Int.ofNat_zero, Int.reduceNeg, Int.le_refl, and_self, List.getElem?_cons_zero, List.getElem?_cons_succ, true_and, and_true, Nat.reduceSub, List.replicate, List.append_nil, Nat.reduceLeDiff, Nat.le_add_left, Nat.zero_le, Nat.zero_add, gc3_64, gf3_12, gf3_19, gf3_202, gf3_205, gf3_46, gf3_61, gf3_65, gf3_72, gf3_82, gf3_85, gk_bipush_20, gk_bipush_21, gk_bipush_40, gk_bipush_60, gk_iconst_0, gk_iconst_1, gk_iconst_m1, gm3_185, gm3_188, gm3_191, gm3_194, gm3_198, gm3_79, gn1, gn50, gn51, gn55, gn56, gn8, gn9, gr1, gr50, gr51, gr55, gr56, gr8, gr9, gv55, gi55_0, gi55_1, gi55_4, gi55_7, gi55_8, gi55_9, gi55_10, gi55_11, gi55_14, gi55_17, gi55_20, gi55_21, gi55_24, gi55_27, gi55_28, gi55_29, gi55_30, gi55_31, gi55_34, gi55_36, gi55_37, gi55_38, gi55_39, gi55_42, gi55_43, gi55_46, gi55_47, gi55_48, gi55_49, gi55_52, gi55_54, gi55_57, gi55_58, gi55_61, gi55_62, gi55_63, gi55_64, gi55_67, gi55_70, gi55_71, gi55_72, gi55_75, gi55_78, gi55_81, gi55_82, gi55_83, gi55_84, gi55_85, gi55_88, gi55_91, gi55_94, gi55_95, gi55_98, gi55_99, gi55_102, gi55_105, gi55_106, gi55_109, gi55_112, gi55_113, gi55_114, gi55_117, gi55_118, gi55_119, gi55_122, gi55_125, gi55_126, gi55_127, gi55_130, gi55_131, gi55_132, gi55_135, gi55_136, gi55_137, gi55_138, gi55_139, gi55_142, gi55_145, gi55_146, gi55_147, gi55_148, gi55_151, gi55_154, gi55_155, gi55_156, gi55_159, gi55_162, gi55_165, gi55_166, gi55_169, gi55_171, gi55_173, gi55_175, gi55_176, gi55_178, gi55_181, gl0, gl1, gl2, gl3, gl4, gl5, gl6, gl7, gl8, gl9, gl10, gl11, gl12, gl13, gl14, gl15, gl16, gl17, gl18, gl19, gl20, gl21, gl22, gl23, gl24, gl25, gl26, gl27, gl28, gl29, gl30, gl31, gl32, gl33, gl34, gl35, gl36, gl37, gl38, gl39, gl40, gl41, gl42, gl43, gl44, gl45, gl46, gl47, gl48, gl49, gl50, gl51, gl52, gl53, gl54, gl55, gl56, gl57]
    simp (disch := first | decide | omega) only [gx_w_np, gx_w_p, Int32.reduceToInt, Int.toNat_natCast, if_true, if_false, nI_1, nI_pred, i_nI, ite_true, ite_false, Int.reduceToNat, Nat.reduceEqDiff, Nat.reduceAdd, e8, i_le]
    refine ⟨fun _ => ?_, fun q => absurd (by omega) q⟩
    have a1 : lyA M0 (M0 4) 60 = 21 := rfl
    have b1 : lyB M0 (M0 4) 60 = 20 := rfl
    have l1 : lyL M0 60 = 0 := rfl
    have h1 : lyH M0 60 = 100000 := rfl
    have := sp_put (X := X) (P := fun _ M1 => P none M1) (e := 60) K (by omega) (by unfold lyE; simp) (by rw [a1]; omega) (by rw [b1]; omega) (by rw [a1, b1]; omega) (by rw [a1]; show n < 42; omega) (by rw [b1]; show n < 42; omega) (fun M1 K1 => hP M1 (mk_mono K1 (fun e he => by rw [show j = m by omega]) (fun w hw => by
      show (if w = lyA M0 (M0 4) 60 then lyC (M0 4) n j w + 1 else if w = lyB M0 (M0 4) 60 then lyC (M0 4) n j w + 1 else lyC (M0 4) n j w) ≤ if 20 ≤ w then lyC (M0 4) n m w + 1 else lyC (M0 4) n m w
      rw [show j = m by omega]
      by_cases z : w = lyA M0 (M0 4) 60
      · rw [if_pos z, if_pos (by rw [z, a1]; omega)]; exact Nat.le_refl _
      · rw [if_neg z]
        by_cases z2 : w = lyB M0 (M0 4) 60
        · rw [if_pos z2, if_pos (by rw [z2, b1]; omega)]; exact Nat.le_refl _
        · rw [if_neg z2]
          by_cases z3 : 20 ≤ w
          · rw [if_pos z3]; omega
          · rw [if_neg z3]; exact Nat.le_refl _)))
    rw [a1, b1, l1, h1] at this
    rw [show (60 : Int32) = nI 60 by decide, show (21 : Int32) = nI 21 by decide, show (20 : Int32) = nI 20 by decide]
    exact this
  | succ d ih =>
    intro j M v2 v3 hj K
    have kp : ∀ p, p ≠ 11 → p ≠ 12 → p ≠ 13 → p ≠ 14 → p ≠ 15 → p ≠ 16 → p ≠ 17 → p ≠ 18 → M p = M0 p := K.1
    have k1 : M 1 = M0 1 := kp 1 (by decide) (by decide) (by decide) (by decide) (by decide) (by decide) (by decide) (by decide)
    have k6 : M 6 = M0 6 := kp 6 (by decide) (by decide) (by decide) (by decide) (by decide) (by decide) (by decide) (by decide)
    have k7 : M 7 = M0 7 := kp 7 (by decide) (by decide) (by decide) (by decide) (by decide) (by decide) (by decide) (by decide)
    have k8 : M 8 = M0 8 := kp 8 (by decide) (by decide) (by decide) (by decide) (by decide) (by decide) (by decide) (by decide)
    have k9 : M 9 = M0 9 := kp 9 (by decide) (by decide) (by decide) (by decide) (by decide) (by decide) (by decide) (by decide)
    have k10 : M 10 = M0 10 := kp 10 (by decide) (by decide) (by decide) (by decide) (by decide) (by decide) (by decide) (by decide)
    have e8 : M 1 8 = nI m := by rw [k1]; exact w2
    obtain ⟨g1, g2, g3, g4, g5, g6, g7, g8, g9⟩ := w6 j (by omega)
    refine gx_wp_ok 100 false _ _ _ _ ?_
    simp only [gx_w_np, gx_w_p, ne_eq, not_false_eq_true, gx_wp, gx_step, gx_cnd, gb0, gb1, Classical.not_not, List.getD_cons_zero, List.getD_cons_succ, List.set_cons_zero, List.set_cons_succ, List.length_cons, List.length_nil, Nat.reduceAdd, Nat.reduceLT, Nat.reduceLeDiff, Nat.reduceEqDiff, Bool.and_false, Bool.and_true, Bool.true_and, Bool.false_and, Bool.false_eq_true, if_false, if_true, ite_true, ite_false, Fin.isValue, Fin.val_zero, Fin.val_one, Fin.val_two, gz0, gz1, gz2, gz3, List.take_succ_cons, List.take_zero, List.drop_succ_cons, List.drop_zero, List.reverse_cons, List.reverse_nil, List.nil_append, List.cons_append, gx_nx, Int32.reduceToInt, Int.reduceToNat, Int.toNat_zero, Int.toNat_one, Int.reduceLT, Int.reduceLE, Int.ofNat_zero, Int.reduceNeg, Int.le_refl, and_self, List.getElem?_cons_zero, List.getElem?_cons_succ, true_and, and_true, Nat.reduceSub, List.replicate, List.append_nil, Nat.reduceLeDiff, Nat.le_add_left, Nat.zero_le, Nat.zero_add, gc3_64, gf3_12, gf3_19, gf3_202, gf3_205, gf3_46, gf3_61, gf3_65, gf3_72, gf3_82, gf3_85, gk_bipush_20, gk_bipush_21, gk_bipush_40, gk_bipush_60, gk_iconst_0, gk_iconst_1, gk_iconst_m1, gm3_185, gm3_188, gm3_191, gm3_194, gm3_198, gm3_79, gn1, gn50, gn51, gn55, gn56, gn8, gn9, gr1, gr50, gr51, gr55, gr56, gr8, gr9, gv55, gi55_0, gi55_1, gi55_4, gi55_7, gi55_8, gi55_9, gi55_10, gi55_11, gi55_14, gi55_17, gi55_20, gi55_21, gi55_24, gi55_27, gi55_28, gi55_29, gi55_30, gi55_31, gi55_34, gi55_36, gi55_37, gi55_38, gi55_39, gi55_42, gi55_43, gi55_46, gi55_47, gi55_48, gi55_49, gi55_52, gi55_54, gi55_57, gi55_58, gi55_61, gi55_62, gi55_63, gi55_64, gi55_67, gi55_70, gi55_71, gi55_72, gi55_75, gi55_78, gi55_81, gi55_82, gi55_83, gi55_84, gi55_85, gi55_88, gi55_91, gi55_94, gi55_95, gi55_98, gi55_99, gi55_102, gi55_105, gi55_106, gi55_109, gi55_112, gi55_113, gi55_114, gi55_117, gi55_118, gi55_119, gi55_122, gi55_125, gi55_126, gi55_127, gi55_130, gi55_131, gi55_132, gi55_135, gi55_136, gi55_137, gi55_138, gi55_139, gi55_142, gi55_145, gi55_146, gi55_147, gi55_148, gi55_151, gi55_154, gi55_155, gi55_156, gi55_159, gi55_162, gi55_165, gi55_166, gi55_169, gi55_171, gi55_173, gi55_175, gi55_176, gi55_178, gi55_181, gl0, gl1, gl2, gl3, gl4, gl5, gl6, gl7, gl8, gl9, gl10, gl11, gl12, gl13, gl14, gl15, gl16, gl17, gl18, gl19, gl20, gl21, gl22, gl23, gl24, gl25, gl26, gl27, gl28, gl29, gl30, gl31, gl32, gl33, gl34, gl35, gl36, gl37, gl38, gl39, gl40, gl41, gl42, gl43, gl44, gl45, gl46, gl47, gl48, gl49, gl50, gl51, gl52, gl53, gl54, gl55, gl56, gl57]
    simp (disch := first | decide | omega) only [gx_w_np, gx_w_p, Int32.reduceToInt, Int.toNat_natCast, if_true, if_false, nI_1, nI_pred, i_nI, ite_true, ite_false, Int.reduceToNat, Nat.reduceEqDiff, Nat.reduceAdd, e8, i_le]
    refine ⟨fun q => absurd q (by omega), fun _ => ?_⟩
    refine sp_hasArc e8 w4 (fun a1 a2 a3 => ?_) (fun a1 => ?_)
    · intro z hz
      cases hz
      refine ⟨fun q => absurd q (by decide), fun _ => ⟨by omega, ?_⟩⟩
      have a3 : M0 10 j = 0 := by
        rw [k10, i_nI (by omega), Int.toNat_natCast] at a3
        exact a3
      have hA : lyA M0 (M0 4) j = 2 * (M0 6 j).toInt.toNat + 1 := by unfold lyA; rw [if_pos (by omega)]
      have hB : lyB M0 (M0 4) j = 2 * (M0 7 j).toInt.toNat := by unfold lyB; rw [if_pos (by omega)]
      have hL : lyL M0 j = M0 8 j := by unfold lyL; rw [if_pos (by omega)]
      have hH : lyH M0 j = M0 9 j := by unfold lyH; rw [if_pos (by omega)]
      rw [k6, i_nat g1]
      refine sp_goesOut ?_
      intro z hz
      cases hz
      refine ⟨by omega, ?_⟩
      rw [k7, i_nat g3]
      refine sp_cameIn ?_
      intro z hz
      cases hz
      refine ⟨by omega, by omega, ?_⟩
      rw [k8, k9, ← hA, ← hB, ← hL, ← hH]
      have ct : ∀ w, w < 20 → lyC (M0 4) n j w < 42 := by
        intro w hw
        unfold lyC
        rw [if_pos hw]
        by_cases z : w / 2 < n
        · rw [if_pos z]
          by_cases z2 : M0 4 (w / 2) = 0
          · rw [if_pos z2]; omega
          · rw [if_neg z2]; omega
        · rw [if_neg z]; omega
      refine sp_put K (by omega) (by unfold lyE; simp; omega) (by rw [hA]; omega) (by rw [hB]; omega) (by rw [hA, hB]; omega) (ct _ (by rw [hA]; omega)) (ct _ (by rw [hB]; omega)) (fun M1 K1 => ?_)
      refine ih (j + 1) M1 _ _ (by omega) (mk_mono K1 (fun e he => ?_) (fun w hw => ?_))
      · show lyE M0 (M0 4) n (j + 1) e = if e = j then true else lyE M0 (M0 4) n j e
        by_cases z : e = j
        · rw [if_pos z]
          unfold lyE
          exact decide_eq_true (Or.inl ⟨by omega, by omega, by rw [z]; exact a3⟩)
        · rw [if_neg z]
          unfold lyE
          refine decide_eq_decide.mpr ⟨fun h => ?_, fun h => ?_⟩
          · rcases h with ⟨h1, h2, h3⟩ | h
            · exact Or.inl ⟨by omega, h2, h3⟩
            · exact Or.inr h
          · rcases h with ⟨h1, h2, h3⟩ | h
            · exact Or.inl ⟨by omega, h2, h3⟩
            · exact Or.inr h
      · show (if w = lyA M0 (M0 4) j then lyC (M0 4) n j w + 1 else if w = lyB M0 (M0 4) j then lyC (M0 4) n j w + 1 else lyC (M0 4) n j w) ≤ lyC (M0 4) n (j + 1) w
        have e1 : w < 20 → lyC (M0 4) n (j + 1) w = lyC (M0 4) n j w + 1 := fun h => by unfold lyC; rw [if_pos h, if_pos h]; omega
        have e2 : ¬ w < 20 → lyC (M0 4) n (j + 1) w = lyC (M0 4) n j w := fun h => by unfold lyC; rw [if_neg h, if_neg h]
        by_cases z : w < 20
        · rw [e1 z]
          by_cases z1 : w = lyA M0 (M0 4) j
          · rw [if_pos z1]; omega
          · rw [if_neg z1]
            by_cases z2 : w = lyB M0 (M0 4) j
            · rw [if_pos z2]; omega
            · rw [if_neg z2]; omega
        · rw [e2 z, if_neg (by rw [hA]; omega), if_neg (by rw [hB]; omega)]
          exact Nat.le_refl _
    · intro z hz
      cases hz
      refine ⟨fun _ => ih (j + 1) M _ _ (by omega) (mk_mono K (fun e he => ?_) (fun w hw => ?_)), fun q => absurd rfl q⟩
      · have hd : M0 10 j ≠ 0 := fun z => a1 ⟨by rw [i_nI (by omega)]; omega, by rw [i_nI (by omega)]; omega, by rw [i_nI (by omega), Int.toNat_natCast, k10]; exact z⟩
        unfold lyE
        refine decide_eq_decide.mpr ⟨fun h => ?_, fun h => ?_⟩
        · rcases h with ⟨h1, h2, h3⟩ | h
          · exact Or.inl ⟨by
              rcases Nat.lt_or_ge e j with z | z
              · exact z
              · exact absurd (show M0 10 j = 0 by rw [show j = e by omega]; exact h3) hd, h2, h3⟩
          · exact Or.inr h
        · rcases h with ⟨h1, h2, h3⟩ | h
          · exact Or.inl ⟨by omega, h2, h3⟩
          · exact Or.inr h
      · unfold lyC
        by_cases z : w < 20
        · rw [if_pos z, if_pos z]; omega
        · rw [if_neg z, if_neg z]; exact Nat.le_refl _
