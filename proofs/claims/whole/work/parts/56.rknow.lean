/-! The reference: all streams; what it knows. -/
set_option maxRecDepth 100000 in
set_option maxHeartbeats 4000000 in
theorem l76c {X : gx_X} {D : gD} {l9 u9 : Nat → Int} {P : Option Value → gx_M → Prop} {M0 : gx_M} (O : gok D) (A0 : ag M0 D)
    (hP : ∀ M1, rp M0 M1 → M1 34 21 = nI (rn D 50 l9 u9).length → CG 51 52 53 M1 0 (rn D 50 l9 u9) → P none M1) :
    ∀ (k : Nat) (M : gx_M) (l u : Nat → Int) (es : List (Int × Nat × (Nat → Nat))), ms D l u ≤ k → es.length + k ≤ 50 → rp M0 M → vs D l u → rv M D l u → CG 51 52 53 M 0 es → M 34 21 = nI es.length → es ++ rn D k l u = rn D 50 l9 u9 →
      gx_C X 77 [.ref 34] M fun r M1 => ∀ x : Int32, r = some (.int x) → gx_OK X 76 126 [.ref 34, .int x] [] M1 P := by
  have hn10 := O.1
  intro k
  induction k with
  | zero =>
    intro M l u es hk hl F V C G h21 e
    refine sr_firstGiver O (ag_rp F A0) C (fun s hs hlt => ?_) (fun hno => ?_)
    · rw [hs] at hlt
      exact absurd hlt (ms_0 (l := l) (by omega))
    · intro x hx
      cases hx
      refine gx_wp_ok 40 false _ _ _ _ ?_
      simp only [gx_w_np, gx_w_p, ne_eq, not_false_eq_true, gx_wp, gx_step, gx_cnd, gb0, gb1, Classical.not_not, List.getD_cons_zero, List.getD_cons_succ, List.set_cons_zero, List.set_cons_succ, List.length_cons, List.length_nil, Nat.reduceAdd, Nat.reduceLT, Nat.reduceLeDiff, Nat.reduceEqDiff, Bool.and_false, Bool.and_true, Bool.true_and, Bool.false_and, Bool.false_eq_true, if_false, if_true, ite_true, ite_false, Fin.isValue, Fin.val_zero, Fin.val_one, Fin.val_two, gz0, gz1, gz2, gz3, List.take_succ_cons, List.take_zero, List.drop_succ_cons, List.drop_zero, List.reverse_cons, List.reverse_nil, List.nil_append, List.cons_append, gx_nx, Int32.reduceToInt, Int.reduceToNat, Int.toNat_zero, Int.toNat_one, Int.reduceLT, Int.reduceLE, Int.ofNat_zero, Int.reduceNeg, Int.le_refl, and_self, List.getElem?_cons_zero, List.getElem?_cons_succ, true_and, and_true, Nat.reduceSub, List.replicate, List.append_nil, Nat.reduceLeDiff, Nat.le_add_left, Nat.zero_le, Nat.zero_add, gf4_134, gf4_28, gf4_53, gf4_68, gf4_7, gf4_71, gf4_84, gf4_91, gk_iconst_0, gk_iconst_1, gk_iconst_2, gm4_137, gm4_141, gm4_144, gm4_147, gn71, gn72, gn76, gn77, gn78, gr71, gr72, gr76, gr77, gr78, gt4_21, gv76, gi76_0, gi76_1, gi76_2, gi76_5, gi76_6, gi76_7, gi76_8, gi76_9, gi76_12, gi76_15, gi76_16, gi76_19, gi76_20, gi76_21, gi76_24, gi76_25, gi76_26, gi76_29, gi76_30, gi76_33, gi76_34, gi76_35, gi76_38, gi76_39, gi76_40, gi76_43, gi76_46, gi76_47, gi76_48, gi76_49, gi76_50, gi76_53, gi76_56, gi76_57, gi76_60, gi76_61, gi76_62, gi76_65, gi76_66, gi76_67, gi76_68, gi76_71, gi76_72, gi76_73, gi76_74, gi76_77, gi76_78, gi76_79, gi76_80, gi76_83, gi76_84, gi76_87, gi76_88, gi76_91, gi76_92, gi76_93, gi76_94, gi76_97, gi76_98, gi76_99, gi76_100, gi76_103, gi76_104, gi76_105, gi76_106, gi76_109, gi76_110, gi76_113, gi76_114, gi76_115, gi76_118, gi76_121, gi76_122, gi76_125, gi76_126, gi76_127, gi76_130, gi76_131, gi76_132, gi76_135, gi76_136, gi76_139, gi76_140, gi76_143, gl0, gl1, gl2, gl3, gl4, gl5, gl6, gl7, gl8, gl9, gl10, gl11, gl12, gl13, gl14, gl15, gl16, gl17, gl18, gl19, gl20, gl21, gl22, gl23, gl24, gl25, gl26, gl27, gl28, gl29, gl30, gl31, gl32, gl33, gl34, gl35, gl36, gl37, gl38, gl39, gl40, gl41, gl42, gl43, gl44, gl45, gl46, gl47, gl48, gl49, gl50, gl51, gl52, gl53, gl54, gl55, gl56, gl57]
      have e : es = rn D 50 l9 u9 := by rw [← e]; show es = es ++ []; simp
      exact ⟨fun _ => hP M F (by rw [← e]; exact h21) (by rw [← e]; exact G), fun q => absurd (by decide) q⟩
  | succ k ih =>
    intro M l u es hk hl F V C G h21 e
    refine sr_firstGiver O (ag_rp F A0) C (fun s hs hlt => ?_) (fun hno => ?_)
    · intro x hx
      cases hx
      refine gx_wp_ok 40 false _ _ _ _ ?_
      simp only [gx_w_np, gx_w_p, ne_eq, not_false_eq_true, gx_wp, gx_step, gx_cnd, gb0, gb1, Classical.not_not, List.getD_cons_zero, List.getD_cons_succ, List.set_cons_zero, List.set_cons_succ, List.length_cons, List.length_nil, Nat.reduceAdd, Nat.reduceLT, Nat.reduceLeDiff, Nat.reduceEqDiff, Bool.and_false, Bool.and_true, Bool.true_and, Bool.false_and, Bool.false_eq_true, if_false, if_true, ite_true, ite_false, Fin.isValue, Fin.val_zero, Fin.val_one, Fin.val_two, gz0, gz1, gz2, gz3, List.take_succ_cons, List.take_zero, List.drop_succ_cons, List.drop_zero, List.reverse_cons, List.reverse_nil, List.nil_append, List.cons_append, gx_nx, Int32.reduceToInt, Int.reduceToNat, Int.toNat_zero, Int.toNat_one, Int.reduceLT, Int.reduceLE, Int.ofNat_zero, Int.reduceNeg, Int.le_refl, and_self, List.getElem?_cons_zero, List.getElem?_cons_succ, true_and, and_true, Nat.reduceSub, List.replicate, List.append_nil, Nat.reduceLeDiff, Nat.le_add_left, Nat.zero_le, Nat.zero_add, gf4_134, gf4_28, gf4_53, gf4_68, gf4_7, gf4_71, gf4_84, gf4_91, gk_iconst_0, gk_iconst_1, gk_iconst_2, gm4_137, gm4_141, gm4_144, gm4_147, gn71, gn72, gn76, gn77, gn78, gr71, gr72, gr76, gr77, gr78, gt4_21, gv76, gi76_0, gi76_1, gi76_2, gi76_5, gi76_6, gi76_7, gi76_8, gi76_9, gi76_12, gi76_15, gi76_16, gi76_19, gi76_20, gi76_21, gi76_24, gi76_25, gi76_26, gi76_29, gi76_30, gi76_33, gi76_34, gi76_35, gi76_38, gi76_39, gi76_40, gi76_43, gi76_46, gi76_47, gi76_48, gi76_49, gi76_50, gi76_53, gi76_56, gi76_57, gi76_60, gi76_61, gi76_62, gi76_65, gi76_66, gi76_67, gi76_68, gi76_71, gi76_72, gi76_73, gi76_74, gi76_77, gi76_78, gi76_79, gi76_80, gi76_83, gi76_84, gi76_87, gi76_88, gi76_91, gi76_92, gi76_93, gi76_94, gi76_97, gi76_98, gi76_99, gi76_100, gi76_103, gi76_104, gi76_105, gi76_106, gi76_109, gi76_110, gi76_113, gi76_114, gi76_115, gi76_118, gi76_121, gi76_122, gi76_125, gi76_126, gi76_127, gi76_130, gi76_131, gi76_132, gi76_135, gi76_136, gi76_139, gi76_140, gi76_143, gl0, gl1, gl2, gl3, gl4, gl5, gl6, gl7, gl8, gl9, gl10, gl11, gl12, gl13, gl14, gl15, gl16, gl17, gl18, gl19, gl20, gl21, gl22, gl23, gl24, gl25, gl26, gl27, gl28, gl29, gl30, gl31, gl32, gl33, gl34, gl35, gl36, gl37, gl38, gl39, gl40, gl41, gl42, gl43, gl44, gl45, gl46, gl47, gl48, gl49, gl50, gl51, gl52, gl53, gl54, gl55, gl56, gl57]
      simp (disch := first | decide | omega) only [gx_w_np, gx_w_p, Int32.reduceToInt, Int.toNat_natCast, if_true, if_false, nI_1, nI_pred, i_nI, ite_true, ite_false, Int.reduceToNat, Nat.reduceEqDiff, Nat.reduceAdd, i_lt]
      refine ⟨fun q => absurd q (by omega), fun _ => ?_⟩
      rw [hs] at hlt ⊢
      have R := lg_ok (D := D) (u := u) hlt
      refine sr_walk O V R (ag_rp F A0) C (by omega) h21 (fun M1 F1 C1 o => ?_)
      obtain ⟨es2, g1, g2, g3, g4⟩ := CG_step (k := k) (wl_ok O V R).2.1 hlt G h21 o
      have st := step_ok O V R
      exact ih M1 _ _ es2 (by omega) (by omega) (rp_t F F1) st.1 C1 g1 g2 (by rw [← g4]; exact e)
    · intro x hx
      cases hx
      refine gx_wp_ok 40 false _ _ _ _ ?_
      simp only [gx_w_np, gx_w_p, ne_eq, not_false_eq_true, gx_wp, gx_step, gx_cnd, gb0, gb1, Classical.not_not, List.getD_cons_zero, List.getD_cons_succ, List.set_cons_zero, List.set_cons_succ, List.length_cons, List.length_nil, Nat.reduceAdd, Nat.reduceLT, Nat.reduceLeDiff, Nat.reduceEqDiff, Bool.and_false, Bool.and_true, Bool.true_and, Bool.false_and, Bool.false_eq_true, if_false, if_true, ite_true, ite_false, Fin.isValue, Fin.val_zero, Fin.val_one, Fin.val_two, gz0, gz1, gz2, gz3, List.take_succ_cons, List.take_zero, List.drop_succ_cons, List.drop_zero, List.reverse_cons, List.reverse_nil, List.nil_append, List.cons_append, gx_nx, Int32.reduceToInt, Int.reduceToNat, Int.toNat_zero, Int.toNat_one, Int.reduceLT, Int.reduceLE, Int.ofNat_zero, Int.reduceNeg, Int.le_refl, and_self, List.getElem?_cons_zero, List.getElem?_cons_succ, true_and, and_true, Nat.reduceSub, List.replicate, List.append_nil, Nat.reduceLeDiff, Nat.le_add_left, Nat.zero_le, Nat.zero_add, gf4_134, gf4_28, gf4_53, gf4_68, gf4_7, gf4_71, gf4_84, gf4_91, gk_iconst_0, gk_iconst_1, gk_iconst_2, gm4_137, gm4_141, gm4_144, gm4_147, gn71, gn72, gn76, gn77, gn78, gr71, gr72, gr76, gr77, gr78, gt4_21, gv76, gi76_0, gi76_1, gi76_2, gi76_5, gi76_6, gi76_7, gi76_8, gi76_9, gi76_12, gi76_15, gi76_16, gi76_19, gi76_20, gi76_21, gi76_24, gi76_25, gi76_26, gi76_29, gi76_30, gi76_33, gi76_34, gi76_35, gi76_38, gi76_39, gi76_40, gi76_43, gi76_46, gi76_47, gi76_48, gi76_49, gi76_50, gi76_53, gi76_56, gi76_57, gi76_60, gi76_61, gi76_62, gi76_65, gi76_66, gi76_67, gi76_68, gi76_71, gi76_72, gi76_73, gi76_74, gi76_77, gi76_78, gi76_79, gi76_80, gi76_83, gi76_84, gi76_87, gi76_88, gi76_91, gi76_92, gi76_93, gi76_94, gi76_97, gi76_98, gi76_99, gi76_100, gi76_103, gi76_104, gi76_105, gi76_106, gi76_109, gi76_110, gi76_113, gi76_114, gi76_115, gi76_118, gi76_121, gi76_122, gi76_125, gi76_126, gi76_127, gi76_130, gi76_131, gi76_132, gi76_135, gi76_136, gi76_139, gi76_140, gi76_143, gl0, gl1, gl2, gl3, gl4, gl5, gl6, gl7, gl8, gl9, gl10, gl11, gl12, gl13, gl14, gl15, gl16, gl17, gl18, gl19, gl20, gl21, gl22, gl23, gl24, gl25, gl26, gl27, gl28, gl29, gl30, gl31, gl32, gl33, gl34, gl35, gl36, gl37, gl38, gl39, gl40, gl41, gl42, gl43, gl44, gl45, gl46, gl47, gl48, gl49, gl50, gl51, gl52, gl53, gl54, gl55, gl56, gl57]
      have e : es = rn D 50 l9 u9 := by
        rw [← e]
        show es = es ++ (if lg D u < gdn D then _ else [])
        rw [if_neg hno]; simp
      exact ⟨fun _ => hP M F (by rw [← e]; exact h21) (by rw [← e]; exact G), fun q => absurd (by decide) q⟩
set_option maxRecDepth 100000 in
set_option maxHeartbeats 4000000 in
theorem l76b {X : gx_X} {D : gD} {f : Nat → Int} {P : Option Value → gx_M → Prop} {M0 : gx_M} (O : gok D) (A0 : ag M0 D) (FLf : FL D f) (H0 : rw_ M0 D 0 f)
    (hP : ∀ M1, rp M0 M1 → M1 34 21 = nI (rn D 50 (l0 f) (u0 D (l0 f))).length → CG 51 52 53 M1 0 (rn D 50 (l0 f) (u0 D (l0 f))) → P none M1) :
    ∀ (d i : Nat) (M : gx_M), i + d = gdn D → rp M0 M → M 34 21 = 0 → (∀ k, k < gdm D → (M 54 k).toInt = l0 f k) → (∀ w, w < i → (M 55 w).toInt = u0 D (l0 f) w) → gx_OK X 76 48 [.ref 34, .int (nI i)] [] M P := by
  have hn10 := O.1
  have V0 := vs_0 O FLf
  intro d
  induction d with
  | zero =>
    intro i M hi F h21 h54 h55
    have A := ag_rp F A0
    have e0 := A.1
    refine gx_wp_ok 40 false _ _ _ _ ?_
    simp only [gx_w_np, gx_w_p, ne_eq, not_false_eq_true, gx_wp, gx_step, gx_cnd, gb0, gb1, Classical.not_not, List.getD_cons_zero, List.getD_cons_succ, List.set_cons_zero, List.set_cons_succ, List.length_cons, List.length_nil, Nat.reduceAdd, Nat.reduceLT, Nat.reduceLeDiff, Nat.reduceEqDiff, Bool.and_false, Bool.and_true, Bool.true_and, Bool.false_and, Bool.false_eq_true, if_false, if_true, ite_true, ite_false, Fin.isValue, Fin.val_zero, Fin.val_one, Fin.val_two, gz0, gz1, gz2, gz3, List.take_succ_cons, List.take_zero, List.drop_succ_cons, List.drop_zero, List.reverse_cons, List.reverse_nil, List.nil_append, List.cons_append, gx_nx, Int32.reduceToInt, Int.reduceToNat, Int.toNat_zero, Int.toNat_one, Int.reduceLT, Int.reduceLE, Int.ofNat_zero, Int.reduceNeg, Int.le_refl, and_self, List.getElem?_cons_zero, List.getElem?_cons_succ, true_and, and_true, Nat.reduceSub, List.replicate, List.append_nil, Nat.reduceLeDiff, Nat.le_add_left, Nat.zero_le, Nat.zero_add, gf4_134, gf4_28, gf4_53, gf4_68, gf4_7, gf4_71, gf4_84, gf4_91, gk_iconst_0, gk_iconst_1, gk_iconst_2, gm4_137, gm4_141, gm4_144, gm4_147, gn71, gn72, gn76, gn77, gn78, gr71, gr72, gr76, gr77, gr78, gt4_21, gv76, gi76_0, gi76_1, gi76_2, gi76_5, gi76_6, gi76_7, gi76_8, gi76_9, gi76_12, gi76_15, gi76_16, gi76_19, gi76_20, gi76_21, gi76_24, gi76_25, gi76_26, gi76_29, gi76_30, gi76_33, gi76_34, gi76_35, gi76_38, gi76_39, gi76_40, gi76_43, gi76_46, gi76_47, gi76_48, gi76_49, gi76_50, gi76_53, gi76_56, gi76_57, gi76_60, gi76_61, gi76_62, gi76_65, gi76_66, gi76_67, gi76_68, gi76_71, gi76_72, gi76_73, gi76_74, gi76_77, gi76_78, gi76_79, gi76_80, gi76_83, gi76_84, gi76_87, gi76_88, gi76_91, gi76_92, gi76_93, gi76_94, gi76_97, gi76_98, gi76_99, gi76_100, gi76_103, gi76_104, gi76_105, gi76_106, gi76_109, gi76_110, gi76_113, gi76_114, gi76_115, gi76_118, gi76_121, gi76_122, gi76_125, gi76_126, gi76_127, gi76_130, gi76_131, gi76_132, gi76_135, gi76_136, gi76_139, gi76_140, gi76_143, gl0, gl1, gl2, gl3, gl4, gl5, gl6, gl7, gl8, gl9, gl10, gl11, gl12, gl13, gl14, gl15, gl16, gl17, gl18, gl19, gl20, gl21, gl22, gl23, gl24, gl25, gl26, gl27, gl28, gl29, gl30, gl31, gl32, gl33, gl34, gl35, gl36, gl37, gl38, gl39, gl40, gl41, gl42, gl43, gl44, gl45, gl46, gl47, gl48, gl49, gl50, gl51, gl52, gl53, gl54, gl55, gl56, gl57]
    simp (disch := first | decide | omega) only [gx_w_np, gx_w_p, Int32.reduceToInt, Int.toNat_natCast, if_true, if_false, nI_1, nI_pred, i_nI, ite_true, ite_false, Int.reduceToNat, Nat.reduceEqDiff, Nat.reduceAdd, e0, i_le]
    refine ⟨fun _ => ?_, fun q => absurd (by omega) q⟩
    exact l76c O A0 hP 50 M _ _ [] (ms_50 O _ _) (by simp) F V0 ⟨h54, fun w hw => h55 w (by omega)⟩ trivial (by rw [h21]; rfl) rfl
  | succ d ih =>
    intro i M hi F h21 h54 h55
    have A := ag_rp F A0
    have e0 := A.1
    have e35 := A.2.2.1 i (by omega)
    have H : rw_ M D 0 f := fun k hk al => by rw [F 49 (40 * 0 + k) (by omega) (by omega)]; exact H0 k hk al
    have fin : ∀ z : Int32, z.toInt = u0 D (l0 f) i → gx_OK X 76 48 [.ref 34, .int (nI (i + 1))] [] (gx_w M 55 i z) P := fun z hz => by
      refine ih (i + 1) _ (by omega) (fun p j a b => ?_) (by rw [gx_w_np (by decide)]; exact h21) (fun k hk => by rw [gx_w_np (by decide)]; exact h54 k hk) (fun w hw => ?_)
      · rw [gx_w_np (by omega)]; exact F p j a b
      · rw [gx_w_p]
        by_cases zz : w = i
        · rw [if_pos zz, zz]; exact hz
        · rw [if_neg zz]; exact h55 w (by omega)
    have c := V0.2.2 i (by omega)
    have ub := V0.2.1 i (by omega)
    refine gx_wp_ok 60 false _ _ _ _ ?_
    simp only [gx_w_np, gx_w_p, ne_eq, not_false_eq_true, gx_wp, gx_step, gx_cnd, gb0, gb1, Classical.not_not, List.getD_cons_zero, List.getD_cons_succ, List.set_cons_zero, List.set_cons_succ, List.length_cons, List.length_nil, Nat.reduceAdd, Nat.reduceLT, Nat.reduceLeDiff, Nat.reduceEqDiff, Bool.and_false, Bool.and_true, Bool.true_and, Bool.false_and, Bool.false_eq_true, if_false, if_true, ite_true, ite_false, Fin.isValue, Fin.val_zero, Fin.val_one, Fin.val_two, gz0, gz1, gz2, gz3, List.take_succ_cons, List.take_zero, List.drop_succ_cons, List.drop_zero, List.reverse_cons, List.reverse_nil, List.nil_append, List.cons_append, gx_nx, Int32.reduceToInt, Int.reduceToNat, Int.toNat_zero, Int.toNat_one, Int.reduceLT, Int.reduceLE, Int.ofNat_zero, Int.reduceNeg, Int.le_refl, and_self, List.getElem?_cons_zero, List.getElem?_cons_succ, true_and, and_true, Nat.reduceSub, List.replicate, List.append_nil, Nat.reduceLeDiff, Nat.le_add_left, Nat.zero_le, Nat.zero_add, gf4_134, gf4_28, gf4_53, gf4_68, gf4_7, gf4_71, gf4_84, gf4_91, gk_iconst_0, gk_iconst_1, gk_iconst_2, gm4_137, gm4_141, gm4_144, gm4_147, gn71, gn72, gn76, gn77, gn78, gr71, gr72, gr76, gr77, gr78, gt4_21, gv76, gi76_0, gi76_1, gi76_2, gi76_5, gi76_6, gi76_7, gi76_8, gi76_9, gi76_12, gi76_15, gi76_16, gi76_19, gi76_20, gi76_21, gi76_24, gi76_25, gi76_26, gi76_29, gi76_30, gi76_33, gi76_34, gi76_35, gi76_38, gi76_39, gi76_40, gi76_43, gi76_46, gi76_47, gi76_48, gi76_49, gi76_50, gi76_53, gi76_56, gi76_57, gi76_60, gi76_61, gi76_62, gi76_65, gi76_66, gi76_67, gi76_68, gi76_71, gi76_72, gi76_73, gi76_74, gi76_77, gi76_78, gi76_79, gi76_80, gi76_83, gi76_84, gi76_87, gi76_88, gi76_91, gi76_92, gi76_93, gi76_94, gi76_97, gi76_98, gi76_99, gi76_100, gi76_103, gi76_104, gi76_105, gi76_106, gi76_109, gi76_110, gi76_113, gi76_114, gi76_115, gi76_118, gi76_121, gi76_122, gi76_125, gi76_126, gi76_127, gi76_130, gi76_131, gi76_132, gi76_135, gi76_136, gi76_139, gi76_140, gi76_143, gl0, gl1, gl2, gl3, gl4, gl5, gl6, gl7, gl8, gl9, gl10, gl11, gl12, gl13, gl14, gl15, gl16, gl17, gl18, gl19, gl20, gl21, gl22, gl23, gl24, gl25, gl26, gl27, gl28, gl29, gl30, gl31, gl32, gl33, gl34, gl35, gl36, gl37, gl38, gl39, gl40, gl41, gl42, gl43, gl44, gl45, gl46, gl47, gl48, gl49, gl50, gl51, gl52, gl53, gl54, gl55, gl56, gl57]
    simp (disch := first | decide | omega) only [gx_w_np, gx_w_p, Int32.reduceToInt, Int.toNat_natCast, if_true, if_false, nI_1, nI_pred, i_nI, ite_true, ite_false, Int.reduceToNat, Nat.reduceEqDiff, Nat.reduceAdd, e0, e35, i_le]
    refine ⟨fun q => absurd q (by omega), fun _ => ⟨by omega, fun q1 => ⟨by omega, fun q2 => ⟨by omega, fin 0 ?_⟩, fun q2 => ?_⟩, fun q1 => ?_⟩⟩
    · unfold u0
      rw [if_neg q1, if_neg q2]; decide
    · rw [if_neg q1, if_pos q2] at c
      rw [← nI_0]
      refine sr_comes (w := 0) (by omega) (by omega) O A FLf H (fun x hx => ?_)
      intro z hz
      cases hz
      refine sr_goes (w := 0) (by omega) (by omega) O A FLf H (fun y hy => ?_)
      intro z hz
      cases hz
      refine ⟨by omega, fin _ ?_⟩
      rw [i_sub (by omega) (by omega), hx, hy]
      omega
    · rw [if_pos q1] at c
      rw [← nI_0]
      refine sr_goes (w := 0) (by omega) (by omega) O A FLf H (fun x hx => ?_)
      intro z hz
      cases hz
      refine sr_comes (w := 0) (by omega) (by omega) O A FLf H (fun y hy => ?_)
      intro z hz
      cases hz
      refine ⟨by omega, fin _ ?_⟩
      rw [i_sub (by omega) (by omega), hx, hy]
      omega
set_option maxRecDepth 100000 in
set_option maxHeartbeats 4000000 in
theorem l76a {X : gx_X} {D : gD} {f : Nat → Int} {P : Option Value → gx_M → Prop} {M0 : gx_M} (O : gok D) (A0 : ag M0 D) (FLf : FL D f) (H0 : rw_ M0 D 0 f)
    (hP : ∀ M1, rp M0 M1 → M1 34 21 = nI (rn D 50 (l0 f) (u0 D (l0 f))).length → CG 51 52 53 M1 0 (rn D 50 (l0 f) (u0 D (l0 f))) → P none M1) :
    ∀ (d i : Nat) (M : gx_M), i + d = gdm D → rp M0 M → M 34 21 = 0 → (∀ k, k < i → (M 54 k).toInt = l0 f k) → gx_OK X 76 7 [.ref 34, .int (nI i)] [] M P := by
  have hm40 := O.2.1
  intro d
  induction d with
  | zero =>
    intro i M hi F h21 h54
    have A := ag_rp F A0
    have e3 := A.2.1
    refine gx_wp_ok 40 false _ _ _ _ ?_
    simp only [gx_w_np, gx_w_p, ne_eq, not_false_eq_true, gx_wp, gx_step, gx_cnd, gb0, gb1, Classical.not_not, List.getD_cons_zero, List.getD_cons_succ, List.set_cons_zero, List.set_cons_succ, List.length_cons, List.length_nil, Nat.reduceAdd, Nat.reduceLT, Nat.reduceLeDiff, Nat.reduceEqDiff, Bool.and_false, Bool.and_true, Bool.true_and, Bool.false_and, Bool.false_eq_true, if_false, if_true, ite_true, ite_false, Fin.isValue, Fin.val_zero, Fin.val_one, Fin.val_two, gz0, gz1, gz2, gz3, List.take_succ_cons, List.take_zero, List.drop_succ_cons, List.drop_zero, List.reverse_cons, List.reverse_nil, List.nil_append, List.cons_append, gx_nx, Int32.reduceToInt, Int.reduceToNat, Int.toNat_zero, Int.toNat_one, Int.reduceLT, Int.reduceLE, Int.ofNat_zero, Int.reduceNeg, Int.le_refl, and_self, List.getElem?_cons_zero, List.getElem?_cons_succ, true_and, and_true, Nat.reduceSub, List.replicate, List.append_nil, Nat.reduceLeDiff, Nat.le_add_left, Nat.zero_le, Nat.zero_add, gf4_134, gf4_28, gf4_53, gf4_68, gf4_7, gf4_71, gf4_84, gf4_91, gk_iconst_0, gk_iconst_1, gk_iconst_2, gm4_137, gm4_141, gm4_144, gm4_147, gn71, gn72, gn76, gn77, gn78, gr71, gr72, gr76, gr77, gr78, gt4_21, gv76, gi76_0, gi76_1, gi76_2, gi76_5, gi76_6, gi76_7, gi76_8, gi76_9, gi76_12, gi76_15, gi76_16, gi76_19, gi76_20, gi76_21, gi76_24, gi76_25, gi76_26, gi76_29, gi76_30, gi76_33, gi76_34, gi76_35, gi76_38, gi76_39, gi76_40, gi76_43, gi76_46, gi76_47, gi76_48, gi76_49, gi76_50, gi76_53, gi76_56, gi76_57, gi76_60, gi76_61, gi76_62, gi76_65, gi76_66, gi76_67, gi76_68, gi76_71, gi76_72, gi76_73, gi76_74, gi76_77, gi76_78, gi76_79, gi76_80, gi76_83, gi76_84, gi76_87, gi76_88, gi76_91, gi76_92, gi76_93, gi76_94, gi76_97, gi76_98, gi76_99, gi76_100, gi76_103, gi76_104, gi76_105, gi76_106, gi76_109, gi76_110, gi76_113, gi76_114, gi76_115, gi76_118, gi76_121, gi76_122, gi76_125, gi76_126, gi76_127, gi76_130, gi76_131, gi76_132, gi76_135, gi76_136, gi76_139, gi76_140, gi76_143, gl0, gl1, gl2, gl3, gl4, gl5, gl6, gl7, gl8, gl9, gl10, gl11, gl12, gl13, gl14, gl15, gl16, gl17, gl18, gl19, gl20, gl21, gl22, gl23, gl24, gl25, gl26, gl27, gl28, gl29, gl30, gl31, gl32, gl33, gl34, gl35, gl36, gl37, gl38, gl39, gl40, gl41, gl42, gl43, gl44, gl45, gl46, gl47, gl48, gl49, gl50, gl51, gl52, gl53, gl54, gl55, gl56, gl57]
    simp (disch := first | decide | omega) only [gx_w_np, gx_w_p, Int32.reduceToInt, Int.toNat_natCast, if_true, if_false, nI_1, nI_pred, i_nI, ite_true, ite_false, Int.reduceToNat, Nat.reduceEqDiff, Nat.reduceAdd, e3, i_le]
    refine ⟨fun _ => ?_, fun q => absurd (by omega) q⟩
    rw [← nI_0]
    exact l76b O A0 FLf H0 hP (gdn D) 0 M (by omega) F h21 (fun k hk => h54 k (by omega)) (fun w hw => absurd hw (by omega))
  | succ d ih =>
    intro i M hi F h21 h54
    have A := ag_rp F A0
    have e3 := A.2.1
    obtain ⟨a1, a2, a3⟩ := A.2.2.2 i (by omega)
    have lk : l0 f i = f i := by unfold l0; rw [if_pos (by omega)]
    have lr := l0_rng O FLf (k := i) (by omega)
    have fin : ∀ z : Int32, z.toInt = l0 f i → gx_OK X 76 7 [.ref 34, .int (nI (i + 1))] [] (gx_w M 54 i z) P := fun z hz => by
      refine ih (i + 1) _ (by omega) (fun p j a b => ?_) (by rw [gx_w_np (by decide)]; exact h21) (fun w hw => ?_)
      · rw [gx_w_np (by omega)]; exact F p j a b
      · rw [gx_w_p]
        by_cases zz : w = i
        · rw [if_pos zz, zz]; exact hz
        · rw [if_neg zz]; exact h54 w (by omega)
    refine gx_wp_ok 40 false _ _ _ _ ?_
    simp only [gx_w_np, gx_w_p, ne_eq, not_false_eq_true, gx_wp, gx_step, gx_cnd, gb0, gb1, Classical.not_not, List.getD_cons_zero, List.getD_cons_succ, List.set_cons_zero, List.set_cons_succ, List.length_cons, List.length_nil, Nat.reduceAdd, Nat.reduceLT, Nat.reduceLeDiff, Nat.reduceEqDiff, Bool.and_false, Bool.and_true, Bool.true_and, Bool.false_and, Bool.false_eq_true, if_false, if_true, ite_true, ite_false, Fin.isValue, Fin.val_zero, Fin.val_one, Fin.val_two, gz0, gz1, gz2, gz3, List.take_succ_cons, List.take_zero, List.drop_succ_cons, List.drop_zero, List.reverse_cons, List.reverse_nil, List.nil_append, List.cons_append, gx_nx, Int32.reduceToInt, Int.reduceToNat, Int.toNat_zero, Int.toNat_one, Int.reduceLT, Int.reduceLE, Int.ofNat_zero, Int.reduceNeg, Int.le_refl, and_self, List.getElem?_cons_zero, List.getElem?_cons_succ, true_and, and_true, Nat.reduceSub, List.replicate, List.append_nil, Nat.reduceLeDiff, Nat.le_add_left, Nat.zero_le, Nat.zero_add, gf4_134, gf4_28, gf4_53, gf4_68, gf4_7, gf4_71, gf4_84, gf4_91, gk_iconst_0, gk_iconst_1, gk_iconst_2, gm4_137, gm4_141, gm4_144, gm4_147, gn71, gn72, gn76, gn77, gn78, gr71, gr72, gr76, gr77, gr78, gt4_21, gv76, gi76_0, gi76_1, gi76_2, gi76_5, gi76_6, gi76_7, gi76_8, gi76_9, gi76_12, gi76_15, gi76_16, gi76_19, gi76_20, gi76_21, gi76_24, gi76_25, gi76_26, gi76_29, gi76_30, gi76_33, gi76_34, gi76_35, gi76_38, gi76_39, gi76_40, gi76_43, gi76_46, gi76_47, gi76_48, gi76_49, gi76_50, gi76_53, gi76_56, gi76_57, gi76_60, gi76_61, gi76_62, gi76_65, gi76_66, gi76_67, gi76_68, gi76_71, gi76_72, gi76_73, gi76_74, gi76_77, gi76_78, gi76_79, gi76_80, gi76_83, gi76_84, gi76_87, gi76_88, gi76_91, gi76_92, gi76_93, gi76_94, gi76_97, gi76_98, gi76_99, gi76_100, gi76_103, gi76_104, gi76_105, gi76_106, gi76_109, gi76_110, gi76_113, gi76_114, gi76_115, gi76_118, gi76_121, gi76_122, gi76_125, gi76_126, gi76_127, gi76_130, gi76_131, gi76_132, gi76_135, gi76_136, gi76_139, gi76_140, gi76_143, gl0, gl1, gl2, gl3, gl4, gl5, gl6, gl7, gl8, gl9, gl10, gl11, gl12, gl13, gl14, gl15, gl16, gl17, gl18, gl19, gl20, gl21, gl22, gl23, gl24, gl25, gl26, gl27, gl28, gl29, gl30, gl31, gl32, gl33, gl34, gl35, gl36, gl37, gl38, gl39, gl40, gl41, gl42, gl43, gl44, gl45, gl46, gl47, gl48, gl49, gl50, gl51, gl52, gl53, gl54, gl55, gl56, gl57]
    simp (disch := first | decide | omega) only [gx_w_np, gx_w_p, Int32.reduceToInt, Int.toNat_natCast, if_true, if_false, nI_1, nI_pred, i_nI, ite_true, ite_false, Int.reduceToNat, Nat.reduceEqDiff, Nat.reduceAdd, e3, i_le]
    refine ⟨fun q => absurd q (by omega), fun _ => ⟨by omega, fun q => ⟨by omega, fin 0 ?_⟩, fun q => ⟨by omega, by omega, fin _ ?_⟩⟩⟩
    · rw [lr.2.2 (a3.mp q)]; decide
    · have al : gdl D i = true := by
        cases z : gdl D i with
        | true => rfl
        | false => exact absurd (a3.mpr z) q
      have := H0 i (by omega) al
      rw [show 40 * 0 + i = i by omega] at this
      rw [F 49 i (by omega) (by omega), this, lk]
set_option maxRecDepth 100000 in
set_option maxHeartbeats 4000000 in
theorem sr_findStreams {X : gx_X} {M : gx_M} {D : gD} {f : Nat → Int} {P : Option Value → gx_M → Prop} (O : gok D) (A : ag M D) (FLf : FL D f) (H : rw_ M D 0 f)
    (hP : ∀ M1, rp M M1 → M1 34 21 = nI (rn D 50 (l0 f) (u0 D (l0 f))).length → CG 51 52 53 M1 0 (rn D 50 (l0 f) (u0 D (l0 f))) → P none M1) : gx_C X 76 [.ref 34] M P := by
  refine gx_C_wp 30 ?_
  simp only [gx_w_np, gx_w_p, ne_eq, not_false_eq_true, gx_wp, gx_step, gx_cnd, gb0, gb1, Classical.not_not, List.getD_cons_zero, List.getD_cons_succ, List.set_cons_zero, List.set_cons_succ, List.length_cons, List.length_nil, Nat.reduceAdd, Nat.reduceLT, Nat.reduceLeDiff, Nat.reduceEqDiff, Bool.and_false, Bool.and_true, Bool.true_and, Bool.false_and, Bool.false_eq_true, if_false, if_true, ite_true, ite_false, Fin.isValue, Fin.val_zero, Fin.val_one, Fin.val_two, gz0, gz1, gz2, gz3, List.take_succ_cons, List.take_zero, List.drop_succ_cons, List.drop_zero, List.reverse_cons, List.reverse_nil, List.nil_append, List.cons_append, gx_nx, Int32.reduceToInt, Int.reduceToNat, Int.toNat_zero, Int.toNat_one, Int.reduceLT, Int.reduceLE, Int.ofNat_zero, Int.reduceNeg, Int.le_refl, and_self, List.getElem?_cons_zero, List.getElem?_cons_succ, true_and, and_true, Nat.reduceSub, List.replicate, List.append_nil, Nat.reduceLeDiff, Nat.le_add_left, Nat.zero_le, Nat.zero_add, gf4_134, gf4_28, gf4_53, gf4_68, gf4_7, gf4_71, gf4_84, gf4_91, gk_iconst_0, gk_iconst_1, gk_iconst_2, gm4_137, gm4_141, gm4_144, gm4_147, gn71, gn72, gn76, gn77, gn78, gr71, gr72, gr76, gr77, gr78, gt4_21, gv76, gi76_0, gi76_1, gi76_2, gi76_5, gi76_6, gi76_7, gi76_8, gi76_9, gi76_12, gi76_15, gi76_16, gi76_19, gi76_20, gi76_21, gi76_24, gi76_25, gi76_26, gi76_29, gi76_30, gi76_33, gi76_34, gi76_35, gi76_38, gi76_39, gi76_40, gi76_43, gi76_46, gi76_47, gi76_48, gi76_49, gi76_50, gi76_53, gi76_56, gi76_57, gi76_60, gi76_61, gi76_62, gi76_65, gi76_66, gi76_67, gi76_68, gi76_71, gi76_72, gi76_73, gi76_74, gi76_77, gi76_78, gi76_79, gi76_80, gi76_83, gi76_84, gi76_87, gi76_88, gi76_91, gi76_92, gi76_93, gi76_94, gi76_97, gi76_98, gi76_99, gi76_100, gi76_103, gi76_104, gi76_105, gi76_106, gi76_109, gi76_110, gi76_113, gi76_114, gi76_115, gi76_118, gi76_121, gi76_122, gi76_125, gi76_126, gi76_127, gi76_130, gi76_131, gi76_132, gi76_135, gi76_136, gi76_139, gi76_140, gi76_143, gl0, gl1, gl2, gl3, gl4, gl5, gl6, gl7, gl8, gl9, gl10, gl11, gl12, gl13, gl14, gl15, gl16, gl17, gl18, gl19, gl20, gl21, gl22, gl23, gl24, gl25, gl26, gl27, gl28, gl29, gl30, gl31, gl32, gl33, gl34, gl35, gl36, gl37, gl38, gl39, gl40, gl41, gl42, gl43, gl44, gl45, gl46, gl47, gl48, gl49, gl50, gl51, gl52, gl53, gl54, gl55, gl56, gl57]
  rw [← nI_0]
  refine l76a O A FLf H hP (gdm D) 0 _ (by omega) (fun p j a b => ?_) (by rw [gx_w_p, if_pos rfl, nI_0]) (fun k hk => absurd hk (by omega))
  by_cases z : p = 34
  · subst z
    rw [gx_w_p, if_neg (fun q => b ⟨rfl, q⟩)]
  · rw [gx_w_np z]
/-- what the reference knows -/
def RD (M : gx_M) (D : gD) : Prop := M 34 9 ≠ 0 →
  (M 34 17 ≠ 0 → ∃ f0 f1, FV D 0 f0 ∧ FV D 1 f1 ∧ (M 48 0).toInt = f0 60 ∧ (M 48 1).toInt = f1 60 ∧ rw_ M D 0 f0 ∧ rw_ M D 1 f1 ∧ M 34 21 = nI (rn D 50 (l0 f0) (u0 D (l0 f0))).length ∧ CG 51 52 53 M 0 (rn D 50 (l0 f0) (u0 D (l0 f0)))) ∧
  (M 34 17 = 0 → (¬ ∃ g, FL D g) ∧ BR D (fun k => decide (M 50 k ≠ 0)))
theorem ag_C {M : gx_M} {n m : Nat} (G : gg_R M n m) : ag M (dC M n m) := by
  obtain ⟨r1, r2, r3, r4⟩ := G
  refine ⟨r1, r2, fun v hv => (r3 v hv).1, fun k hk => ⟨(r4 k hk).1, (r4 k hk).2.1, ?_⟩⟩
  rw [(r4 k hk).2.2.2.2]
  show (if M 10 k = 0 then (1 : Int32) else 0) = 0 ↔ decide (M 10 k = 0) = false
  by_cases z : M 10 k = 0
  · rw [if_pos z, decide_eq_true z]
    exact ⟨fun q => absurd q (by decide), fun q => by cases q⟩
  · rw [if_neg z, decide_eq_false z]
    exact ⟨fun _ => rfl, fun _ => rfl⟩
theorem dS_C {M : gx_M} {n m : Nat} (G : gg_R M n m) : deq (dS M n m) (dC M n m) := by
  obtain ⟨r1, r2, r3, r4⟩ := G
  refine ⟨rfl, rfl, fun v hv => ⟨(r3 v hv).1, (r3 v hv).2⟩, fun k hk => ⟨?_, fun _ => ⟨(r4 k hk).1, (r4 k hk).2.1, (r4 k hk).2.2.1, (r4 k hk).2.2.2.1⟩⟩⟩
  show decide (M 41 k ≠ 0) = decide (M 10 k = 0)
  rw [(r4 k hk).2.2.2.2]
  by_cases z : M 10 k = 0
  · rw [if_pos z, decide_eq_true z]; decide
  · rw [if_neg z, decide_eq_false z]; decide
/-- all that knowing leaves alone -/
def kf (M M1 : gx_M) : Prop := ∀ p j, p < 42 → ¬ (p = 34 ∧ (j = 9 ∨ j = 16 ∨ j = 17 ∨ j = 21)) → M1 p j = M p j
theorem kf_t {M M1 M2 : gx_M} (F : kf M M1) (G : kf M1 M2) : kf M M2 := fun p j a b => by rw [G p j a b, F p j a b]
theorem kf_p {M M1 : gx_M} (F : kf M M1) {p : Nat} (h : p < 42) (h2 : p ≠ 34) : M1 p = M p := by funext j; exact F p j h (fun q => h2 q.1)
theorem W_kf {M M1 : gx_M} {n m : Nat} (F : kf M M1) (W : gg_W M n m) : gg_W M1 n m := by
  unfold gg_W
  rw [kf_p F (p := 1) (by omega) (by omega), kf_p F (p := 4) (by omega) (by omega), kf_p F (p := 5) (by omega) (by omega), kf_p F (p := 6) (by omega) (by omega), kf_p F (p := 7) (by omega) (by omega), kf_p F (p := 8) (by omega) (by omega), kf_p F (p := 9) (by omega) (by omega), kf_p F (p := 10) (by omega) (by omega)]
  exact W
theorem R_kf {M M1 : gx_M} {n m : Nat} (F : kf M M1) (G : gg_R M n m) : gg_R M1 n m := by
  unfold gg_R
  rw [F 34 0 (by omega) (by omega), F 34 3 (by omega) (by omega), kf_p F (p := 4) (by omega) (by omega), kf_p F (p := 5) (by omega) (by omega), kf_p F (p := 6) (by omega) (by omega), kf_p F (p := 7) (by omega) (by omega), kf_p F (p := 8) (by omega) (by omega), kf_p F (p := 9) (by omega) (by omega), kf_p F (p := 10) (by omega) (by omega), kf_p F (p := 35) (by omega) (by omega), kf_p F (p := 36) (by omega) (by omega), kf_p F (p := 37) (by omega) (by omega), kf_p F (p := 38) (by omega) (by omega), kf_p F (p := 39) (by omega) (by omega), kf_p F (p := 40) (by omega) (by omega), kf_p F (p := 41) (by omega) (by omega)]
  exact G
theorem dC_kf {M M1 : gx_M} (n m : Nat) (F : kf M M1) : dC M1 n m = dC M n m := by
  unfold dC
  rw [kf_p F (p := 4) (by omega) (by omega), kf_p F (p := 5) (by omega) (by omega), kf_p F (p := 6) (by omega) (by omega), kf_p F (p := 7) (by omega) (by omega), kf_p F (p := 8) (by omega) (by omega), kf_p F (p := 9) (by omega) (by omega), kf_p F (p := 10) (by omega) (by omega)]
theorem dS_kf {M M1 : gx_M} (n m : Nat) (F : kf M M1) : dS M1 n m = dS M n m := by
  unfold dS
  rw [kf_p F (p := 41) (by omega) (by omega), kf_p F (p := 37) (by omega) (by omega), kf_p F (p := 38) (by omega) (by omega), kf_p F (p := 36) (by omega) (by omega), kf_p F (p := 35) (by omega) (by omega), kf_p F (p := 39) (by omega) (by omega), kf_p F (p := 40) (by omega) (by omega)]
theorem BR_eq {D D2 : gD} {b : Nat → Bool} (Q : deq D D2) (B : BR D b) : BR D2 b := by
  intro k hk
  have hk' : k < gdm D := by rw [Q.2.1]; exact hk
  have q := Q.2.2.2 k hk'
  rw [B k hk', ← q.1]
  have key : ∀ g, FL (dW D (brx D b k)) g ↔ FL (dW D2 (brx D2 b k)) g := fun g => deq_FL (deq_W Q (fun j hj al => by
    have q2 := (Q.2.2.2 j hj).2 al
    unfold brx
    by_cases z1 : j < k
    · rw [if_pos z1, if_pos z1, q2.2.2.1]
    · rw [if_neg z1, if_neg z1]
      by_cases z2 : j = k
      · rw [if_pos z2, if_pos z2]
      · rw [if_neg z2, if_neg z2, q2.2.2.1]))
  constructor
  · rintro ⟨a1, a2, g, a3⟩
    exact ⟨a1, by rw [← (q.2 a1).2.2.1]; exact a2, g, (key g).mp a3⟩
  · rintro ⟨a1, a2, g, a3⟩
    exact ⟨a1, by rw [(q.2 a1).2.2.1]; exact a2, g, (key g).mpr a3⟩
set_option maxRecDepth 100000 in
set_option maxHeartbeats 4000000 in
theorem sr_know {X : gx_X} {M : gx_M} {n m : Nat} {P : Option Value → gx_M → Prop} (W : gg_W M n m) (G : gg_R M n m) (K : RD M (dC M n m))
    (hP : ∀ M1, kf M M1 → M1 34 9 ≠ 0 → RD M1 (dC M n m) → P none M1) : gx_C X 70 [.ref 34] M P := by
  have OC := gok_C W
  have Q := dS_C G
  have OS := gok_eq Q OC
  have hn := G.1
  have hm := G.2.1
  have z0 : (0 : Int32).toInt = 0 := by decide
  have zf : (1000000 : Int32).toInt = 1000000 := by decide
  refine gx_C_wp 40 ?_
  simp only [gx_w_np, gx_w_p, ne_eq, not_false_eq_true, gx_wp, gx_step, gx_cnd, gb0, gb1, Classical.not_not, List.getD_cons_zero, List.getD_cons_succ, List.set_cons_zero, List.set_cons_succ, List.length_cons, List.length_nil, Nat.reduceAdd, Nat.reduceLT, Nat.reduceLeDiff, Nat.reduceEqDiff, Bool.and_false, Bool.and_true, Bool.true_and, Bool.false_and, Bool.false_eq_true, if_false, if_true, ite_true, ite_false, Fin.isValue, Fin.val_zero, Fin.val_one, Fin.val_two, gz0, gz1, gz2, gz3, List.take_succ_cons, List.take_zero, List.drop_succ_cons, List.drop_zero, List.reverse_cons, List.reverse_nil, List.nil_append, List.cons_append, gx_nx, Int32.reduceToInt, Int.reduceToNat, Int.toNat_zero, Int.toNat_one, Int.reduceLT, Int.reduceLE, Int.ofNat_zero, Int.reduceNeg, Int.le_refl, and_self, List.getElem?_cons_zero, List.getElem?_cons_succ, true_and, and_true, Nat.reduceSub, List.replicate, List.append_nil, Nat.reduceLeDiff, Nat.le_add_left, Nat.zero_le, Nat.zero_add, gc4_94, gf4_117, gf4_121, gk_iconst_0, gk_iconst_1, gm4_103, gm4_107, gm4_124, gm4_128, gm4_131, gn64, gn65, gn68, gn69, gn70, gn76, gr64, gr65, gr68, gr69, gr70, gr76, gt4_17, gt4_9, gv70, gi70_0, gi70_1, gi70_4, gi70_7, gi70_8, gi70_9, gi70_10, gi70_13, gi70_14, gi70_17, gi70_18, gi70_19, gi70_20, gi70_22, gi70_25, gi70_28, gi70_29, gi70_32, gi70_35, gi70_36, gi70_37, gi70_40, gi70_41, gi70_42, gi70_45, gi70_46, gi70_49, gi70_52, gi70_53, gi70_56, gl0, gl1, gl2, gl3, gl4, gl5, gl6, gl7, gl8, gl9, gl10, gl11, gl12, gl13, gl14, gl15, gl16, gl17, gl18, gl19, gl20, gl21, gl22, gl23, gl24, gl25, gl26, gl27, gl28, gl29, gl30, gl31, gl32, gl33, gl34, gl35, gl36, gl37, gl38, gl39, gl40, gl41, gl42, gl43, gl44, gl45, gl46, gl47, gl48, gl49, gl50, gl51, gl52, gl53, gl54, gl55, gl56, gl57]
  refine ⟨fun q => ?_, fun q => hP M (fun _ _ _ _ => rfl) q K⟩
  have K0 : kf M (gx_w M 34 9 1) := fun p j a b => by
    by_cases z : p = 34
    · subst z
      rw [gx_w_p, if_neg (fun q => b ⟨rfl, Or.inl q⟩)]
    · rw [gx_w_np z]
  refine sr_take (n := n) (m := m) (by rw [K0 34 0 (by omega) (by omega)]; exact hn) (by rw [K0 34 3 (by omega) (by omega)]; exact hm) OC.1 OC.2.1 (fun M1 T T1 T2 => ?_)
  have K1 : kf M M1 := fun p j a b => by rw [T p (by omega) (by omega) (by omega)]; exact K0 p j a b
  have Q1 := dR_take T T1 T2
  rw [dS_kf n m K0] at Q1
  have OR := gok_eq Q1 OS
  have m9 : M1 34 9 = 1 := by rw [T 34 (by decide) (by decide) (by decide), gx_w_p, if_pos rfl]
  have fl : (∃ g, SP (dR M1 n m) (0 : Int32).toInt (1000000 : Int32).toInt g) ↔ ∃ g, FL (dC M n m) g := by
    rw [z0, zf]
    exact ⟨fun ⟨g, h⟩ => ⟨g, (deq_FL Q).mp ((deq_FL Q1).mp h)⟩, fun ⟨g, h⟩ => ⟨g, (deq_FL Q1).mpr ((deq_FL Q).mpr h)⟩⟩
  refine sr_isThere (n := n) (m := m) (by rw [K1 34 0 (by omega) (by omega)]; exact hn) (by rw [K1 34 3 (by omega) (by omega)]; exact hm) OR (by decide) (by decide) (by decide) (fun M2 F2 S => ?_) (fun M2 F2 S => ?_)
  · intro x hx
    cases hx
    rw [fl] at S
    refine ⟨Or.inr rfl, fun q => absurd q (by decide), fun _ => ?_⟩
    have K2 : kf M (gx_w M2 34 17 1) := fun p j a b => by
      by_cases z : p = 34
      · subst z
        rw [gx_w_p, if_neg (fun q => b ⟨rfl, Or.inr (Or.inr (Or.inl q))⟩), F2 34 j (by omega) (by omega) (by omega) (fun q => b ⟨rfl, Or.inr (Or.inl q.2)⟩)]
        exact K1 34 j a b
      · rw [gx_w_np z, F2 p j (by omega) (by omega) (by omega) (fun q => z q.1)]; exact K1 p j a b
    have n9 : (gx_w M2 34 17 1) 34 9 = 1 := by rw [gx_w_p, if_neg (by decide), F2 34 9 (by decide) (by decide) (by decide) (by omega)]; exact m9
    have n17 : (gx_w M2 34 17 1) 34 17 = 1 := by rw [gx_w_p, if_pos rfl]
    obtain ⟨g, hg⟩ := S
    have hF : ∃ g, FL (dS M n m) g := ⟨g, (deq_FL Q).mpr hg⟩
    rw [← nI_0]
    refine sr_findFirst (n := n) (m := m) (Or.inl rfl) (by rw [K2 34 0 (by omega) (by omega)]; exact hn) (by rw [K2 34 3 (by omega) (by omega)]; exact hm) (by rw [dS_kf n m K2]; exact OS) (by rw [dS_kf n m K2]; exact hF) (fun M3 R3 => ?_)
    have K3 : kf M M3 := kf_t K2 (fun p j a b => R3.1 p j (by omega) (fun q => b ⟨q.1, Or.inr (Or.inl q.2)⟩))
    rw [show (1 : Int32) = nI 1 by decide]
    refine sr_findFirst (n := n) (m := m) (Or.inr rfl) (by rw [K3 34 0 (by omega) (by omega)]; exact hn) (by rw [K3 34 3 (by omega) (by omega)]; exact hm) (by rw [dS_kf n m K3]; exact OS) (by rw [dS_kf n m K3]; exact hF) (fun M4 R4 => ?_)
    have K4 : kf M M4 := kf_t K3 (fun p j a b => R4.1 p j (by omega) (fun q => b ⟨q.1, Or.inr (Or.inl q.2)⟩))
    obtain ⟨r1, r2, r3, f0, V0, v0, w0⟩ := R3
    obtain ⟨t1, t2, t3, f1, V1, v1, w1⟩ := R4
    rw [dS_kf n m K2] at V0
    rw [dS_kf n m K3] at V1
    have V0 := deq_FV Q V0
    have V1 := deq_FV Q V1
    have al41 : ∀ k, k < m → gdl (dC M n m) k = true → M 41 k ≠ 0 := fun k hk h z => by
      have := ((ag_C G).2.2.2 k hk).2.2.mp z
      rw [h] at this; cases this
    have W0 : rw_ M4 (dC M n m) 0 f0 := fun k hk h => by
      have hk40 : k < m := hk
      have := OC.2.1
      have hm40 : m ≤ 40 := this
      rw [t3 (40 * 0 + k) (by omega)]
      exact w0 k hk (by rw [K2 41 k (by omega) (by omega)]; exact al41 k hk h)
    have W1 : rw_ M4 (dC M n m) 1 f1 := fun k hk h => w1 k hk (by rw [K3 41 k (by omega) (by omega)]; exact al41 k hk h)
    have A4 : ag M4 (dC M n m) := by
      have := ag_C (R_kf K4 G)
      rw [dC_kf n m K4] at this; exact this
    refine sr_findStreams OC A4 V0.1 W0 (fun M5 F5 c5 G5 => ?_)
    have K5 : kf M M5 := kf_t K4 (fun p j a b => F5 p j (by omega) (fun q => b ⟨q.1, Or.inr (Or.inr (Or.inr q.2))⟩))
    have e9 : M5 34 9 = 1 := by rw [F5 34 9 (by omega) (by omega), t1 34 9 (by omega) (by omega), r1 34 9 (by omega) (by omega)]; exact n9
    have e17 : M5 34 17 = 1 := by rw [F5 34 17 (by omega) (by omega), t1 34 17 (by omega) (by omega), r1 34 17 (by omega) (by omega)]; exact n17
    refine hP M5 K5 (by rw [e9]; decide) (fun _ => ⟨fun _ => ⟨f0, f1, V0, V1, ?_, ?_, fun k hk h => ?_, fun k hk h => ?_, c5, G5⟩, fun h => ?_⟩)
    · rw [F5 48 0 (by omega) (by omega), t2 0 (by decide)]; exact v0
    · rw [F5 48 1 (by omega) (by omega)]; exact v1
    · rw [F5 49 _ (by omega) (by omega)]; exact W0 k hk h
    · rw [F5 49 _ (by omega) (by omega)]; exact W1 k hk h
    · rw [e17] at h; exact absurd h (by decide)
  · intro x hx
    cases hx
    rw [fl] at S
    refine ⟨Or.inl rfl, fun _ => ?_, fun q => absurd rfl q⟩
    have K2 : kf M (gx_w M2 34 17 0) := fun p j a b => by
      by_cases z : p = 34
      · subst z
        rw [gx_w_p, if_neg (fun q => b ⟨rfl, Or.inr (Or.inr (Or.inl q))⟩), F2 34 j (by omega) (by omega) (by omega) (fun q => b ⟨rfl, Or.inr (Or.inl q.2)⟩)]
        exact K1 34 j a b
      · rw [gx_w_np z, F2 p j (by omega) (by omega) (by omega) (fun q => z q.1)]; exact K1 p j a b
    have n9 : (gx_w M2 34 17 0) 34 9 = 1 := by rw [gx_w_p, if_neg (by decide), F2 34 9 (by decide) (by decide) (by decide) (by omega)]; exact m9
    have n17 : (gx_w M2 34 17 0) 34 17 = 0 := by rw [gx_w_p, if_pos rfl]
    refine sr_findBarred (n := n) (m := m) (by rw [K2 34 0 (by omega) (by omega)]; exact hn) (by rw [K2 34 3 (by omega) (by omega)]; exact hm) (by rw [dS_kf n m K2]; exact OS) (fun M3 B3 BB => ?_)
    rw [dS_kf n m K2] at BB
    have K3 : kf M M3 := kf_t K2 (fun p j a b => B3 p j (by omega) (fun q => b ⟨q.1, Or.inr (Or.inl q.2)⟩))
    have e9 : M3 34 9 = 1 := by rw [B3 34 9 (by omega) (by omega)]; exact n9
    have e17 : M3 34 17 = 0 := by rw [B3 34 17 (by omega) (by omega)]; exact n17
    exact hP M3 K3 (by rw [e9]; decide) (fun _ => ⟨fun h => absurd e17 h, fun _ => ⟨S, BR_eq Q BB⟩⟩)
