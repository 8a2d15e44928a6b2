/-! The reference's walk. -/
set_option maxRecDepth 100000 in
set_option maxHeartbeats 4000000 in
theorem l78c {X : gx_X} {D : gD} {l u : Nat → Int} {s c L : Nat} {x1 x3 x4 : Int32} {P : Option Value → gx_M → Prop} {Ma : gx_M} (hL : L ≤ 10) (hc : c < 50) (hp : ∀ i, i < L → Ma 56 i = nI (na_ D l s i)) (h21 : Ma 34 21 = nI c)
    (hP : ∀ M1 : gx_M, (∀ p j, p ≠ 53 → ¬ (p = 34 ∧ j = 21) → M1 p j = Ma p j) → M1 34 21 = nI (c + 1) → (∀ j, j < L → M1 53 (10 * c + j) = nI (na_ D l s j)) → (∀ j, j < 10 * c → M1 53 j = Ma 53 j) → P none M1) :
    ∀ (d i : Nat) (M : gx_M), i + d = L → (∀ p, p ≠ 53 → M p = Ma p) → (∀ j, j < i → M 53 (10 * c + j) = nI (na_ D l s j)) → (∀ j, j < 10 * c → M 53 j = Ma 53 j) → gx_OK X 78 231 [.ref 34, .int x1, .int (nI L), .int x3, .int x4, .int (nI i)] [] M P := by
  intro d
  induction d with
  | zero =>
    intro i M hi F h1 h2
    have e21 : M 34 21 = nI c := by rw [F 34 (by decide)]; exact h21
    refine gx_wp_ok 60 false _ _ _ _ ?_
    simp only [gx_w_np, gx_w_p, ne_eq, not_false_eq_true, gx_wp, gx_step, gx_cnd, gb0, gb1, Classical.not_not, List.getD_cons_zero, List.getD_cons_succ, List.set_cons_zero, List.set_cons_succ, List.length_cons, List.length_nil, Nat.reduceAdd, Nat.reduceLT, Nat.reduceLeDiff, Nat.reduceEqDiff, Bool.and_false, Bool.and_true, Bool.true_and, Bool.false_and, Bool.false_eq_true, if_false, if_true, ite_true, ite_false, Fin.isValue, Fin.val_zero, Fin.val_one, Fin.val_two, gz0, gz1, gz2, gz3, List.take_succ_cons, List.take_zero, List.drop_succ_cons, List.drop_zero, List.reverse_cons, List.reverse_nil, List.nil_append, List.cons_append, gx_nx, Int32.reduceToInt, Int.reduceToNat, Int.toNat_zero, Int.toNat_one, Int.reduceLT, Int.reduceLE, Int.ofNat_zero, Int.reduceNeg, Int.le_refl, and_self, List.getElem?_cons_zero, List.getElem?_cons_succ, true_and, and_true, Nat.reduceSub, List.replicate, List.append_nil, Nat.reduceLeDiff, Nat.le_add_left, Nat.zero_le, Nat.zero_add, gf4_134, gf4_19, gf4_59, gf4_62, gf4_65, gf4_7, gf4_71, gf4_74, gf4_77, gf4_91, gk_bipush_10, gk_iconst_0, gk_iconst_1, gk_iconst_2, gk_iconst_m1, gm4_150, gm4_154, gm4_157, gn73, gn74, gn75, gn78, gr73, gr74, gr75, gr78, gt4_21, gv78, gi78_0, gi78_1, gi78_2, gi78_3, gi78_4, gi78_7, gi78_10, gi78_11, gi78_14, gi78_15, gi78_16, gi78_17, gi78_20, gi78_23, gi78_24, gi78_25, gi78_26, gi78_27, gi78_28, gi78_31, gi78_32, gi78_33, gi78_34, gi78_35, gi78_38, gi78_39, gi78_40, gi78_41, gi78_44, gi78_45, gi78_48, gi78_49, gi78_50, gi78_53, gi78_54, gi78_55, gi78_58, gi78_60, gi78_61, gi78_64, gi78_65, gi78_67, gi78_68, gi78_71, gi78_72, gi78_75, gi78_77, gi78_78, gi78_79, gi78_80, gi78_83, gi78_84, gi78_85, gi78_88, gi78_89, gi78_90, gi78_93, gi78_94, gi78_95, gi78_96, gi78_97, gi78_98, gi78_101, gi78_102, gi78_103, gi78_104, gi78_107, gi78_110, gi78_111, gi78_112, gi78_115, gi78_116, gi78_117, gi78_118, gi78_121, gi78_122, gi78_123, gi78_124, gi78_127, gi78_129, gi78_130, gi78_133, gi78_134, gi78_135, gi78_137, gi78_140, gi78_141, gi78_144, gi78_145, gi78_146, gi78_149, gi78_151, gi78_153, gi78_154, gi78_157, gi78_158, gi78_159, gi78_161, gi78_164, gi78_165, gi78_168, gi78_169, gi78_170, gi78_173, gi78_175, gi78_177, gi78_178, gi78_179, gi78_180, gi78_182, gi78_185, gi78_186, gi78_189, gi78_190, gi78_191, gi78_192, gi78_194, gi78_195, gi78_196, gi78_197, gi78_200, gi78_201, gi78_202, gi78_203, gi78_205, gi78_206, gi78_207, gi78_208, gi78_211, gi78_212, gi78_215, gi78_217, gi78_218, gi78_219, gi78_222, gi78_223, gi78_226, gi78_227, gi78_228, gi78_229, gi78_231, gi78_233, gi78_234, gi78_237, gi78_238, gi78_241, gi78_243, gi78_244, gi78_247, gi78_248, gi78_250, gi78_251, gi78_252, gi78_255, gi78_257, gi78_258, gi78_259, gi78_262, gi78_265, gi78_266, gi78_267, gi78_270, gi78_271, gi78_272, gi78_275, gl0, gl1, gl2, gl3, gl4, gl5, gl6, gl7, gl8, gl9, gl10, gl11, gl12, gl13, gl14, gl15, gl16, gl17, gl18, gl19, gl20, gl21, gl22, gl23, gl24, gl25, gl26, gl27, gl28, gl29, gl30, gl31, gl32, gl33, gl34, gl35, gl36, gl37, gl38, gl39, gl40, gl41, gl42, gl43, gl44, gl45, gl46, gl47, gl48, gl49, gl50, gl51, gl52, gl53, gl54, gl55, gl56, gl57]
    rw [e21]
    simp (disch := first | decide | omega) only [gx_w_np, gx_w_p, Int32.reduceToInt, Int.toNat_natCast, if_true, if_false, nI_1, nI_pred, i_nI, ite_true, ite_false, Int.reduceToNat, Nat.reduceEqDiff, Nat.reduceAdd, i_le]
    refine ⟨fun _ => hP _ (fun p j a b => ?_) ?_ (fun j hj => ?_) (fun j hj => ?_), fun q => absurd (by omega) q⟩
    · by_cases z : p = 34
      · subst z
        rw [gx_w_p, if_neg (fun q => b ⟨rfl, q⟩), F 34 (by decide)]
      · rw [gx_w_np z, F p a]
    · rw [gx_w_p, if_pos rfl]
    · rw [gx_w_np (by decide)]; exact h1 j (by omega)
    · rw [gx_w_np (by decide)]; exact h2 j hj
  | succ d ih =>
    intro i M hi F h1 h2
    have e21 : M 34 21 = nI c := by rw [F 34 (by decide)]; exact h21
    have e10 : (10 : Int32) * nI c + nI i = nI (10 * c + i) := by rw [show (10 : Int32) = nI 10 by decide, pk_mul, nI_add]
    have e56 : M 56 i = nI (na_ D l s i) := by rw [F 56 (by decide)]; exact hp i (by omega)
    refine gx_wp_ok 60 false _ _ _ _ ?_
    simp only [gx_w_np, gx_w_p, ne_eq, not_false_eq_true, gx_wp, gx_step, gx_cnd, gb0, gb1, Classical.not_not, List.getD_cons_zero, List.getD_cons_succ, List.set_cons_zero, List.set_cons_succ, List.length_cons, List.length_nil, Nat.reduceAdd, Nat.reduceLT, Nat.reduceLeDiff, Nat.reduceEqDiff, Bool.and_false, Bool.and_true, Bool.true_and, Bool.false_and, Bool.false_eq_true, if_false, if_true, ite_true, ite_false, Fin.isValue, Fin.val_zero, Fin.val_one, Fin.val_two, gz0, gz1, gz2, gz3, List.take_succ_cons, List.take_zero, List.drop_succ_cons, List.drop_zero, List.reverse_cons, List.reverse_nil, List.nil_append, List.cons_append, gx_nx, Int32.reduceToInt, Int.reduceToNat, Int.toNat_zero, Int.toNat_one, Int.reduceLT, Int.reduceLE, Int.ofNat_zero, Int.reduceNeg, Int.le_refl, and_self, List.getElem?_cons_zero, List.getElem?_cons_succ, true_and, and_true, Nat.reduceSub, List.replicate, List.append_nil, Nat.reduceLeDiff, Nat.le_add_left, Nat.zero_le, Nat.zero_add, gf4_134, gf4_19, gf4_59, gf4_62, gf4_65, gf4_7, gf4_71, gf4_74, gf4_77, gf4_91, gk_bipush_10, gk_iconst_0, gk_iconst_1, gk_iconst_2, gk_iconst_m1, gm4_150, gm4_154, gm4_157, gn73, gn74, gn75, gn78, gr73, gr74, gr75, gr78, gt4_21, gv78, gi78_0, gi78_1, gi78_2, gi78_3, gi78_4, gi78_7, gi78_10, gi78_11, gi78_14, gi78_15, gi78_16, gi78_17, gi78_20, gi78_23, gi78_24, gi78_25, gi78_26, gi78_27, gi78_28, gi78_31, gi78_32, gi78_33, gi78_34, gi78_35, gi78_38, gi78_39, gi78_40, gi78_41, gi78_44, gi78_45, gi78_48, gi78_49, gi78_50, gi78_53, gi78_54, gi78_55, gi78_58, gi78_60, gi78_61, gi78_64, gi78_65, gi78_67, gi78_68, gi78_71, gi78_72, gi78_75, gi78_77, gi78_78, gi78_79, gi78_80, gi78_83, gi78_84, gi78_85, gi78_88, gi78_89, gi78_90, gi78_93, gi78_94, gi78_95, gi78_96, gi78_97, gi78_98, gi78_101, gi78_102, gi78_103, gi78_104, gi78_107, gi78_110, gi78_111, gi78_112, gi78_115, gi78_116, gi78_117, gi78_118, gi78_121, gi78_122, gi78_123, gi78_124, gi78_127, gi78_129, gi78_130, gi78_133, gi78_134, gi78_135, gi78_137, gi78_140, gi78_141, gi78_144, gi78_145, gi78_146, gi78_149, gi78_151, gi78_153, gi78_154, gi78_157, gi78_158, gi78_159, gi78_161, gi78_164, gi78_165, gi78_168, gi78_169, gi78_170, gi78_173, gi78_175, gi78_177, gi78_178, gi78_179, gi78_180, gi78_182, gi78_185, gi78_186, gi78_189, gi78_190, gi78_191, gi78_192, gi78_194, gi78_195, gi78_196, gi78_197, gi78_200, gi78_201, gi78_202, gi78_203, gi78_205, gi78_206, gi78_207, gi78_208, gi78_211, gi78_212, gi78_215, gi78_217, gi78_218, gi78_219, gi78_222, gi78_223, gi78_226, gi78_227, gi78_228, gi78_229, gi78_231, gi78_233, gi78_234, gi78_237, gi78_238, gi78_241, gi78_243, gi78_244, gi78_247, gi78_248, gi78_250, gi78_251, gi78_252, gi78_255, gi78_257, gi78_258, gi78_259, gi78_262, gi78_265, gi78_266, gi78_267, gi78_270, gi78_271, gi78_272, gi78_275, gl0, gl1, gl2, gl3, gl4, gl5, gl6, gl7, gl8, gl9, gl10, gl11, gl12, gl13, gl14, gl15, gl16, gl17, gl18, gl19, gl20, gl21, gl22, gl23, gl24, gl25, gl26, gl27, gl28, gl29, gl30, gl31, gl32, gl33, gl34, gl35, gl36, gl37, gl38, gl39, gl40, gl41, gl42, gl43, gl44, gl45, gl46, gl47, gl48, gl49, gl50, gl51, gl52, gl53, gl54, gl55, gl56, gl57]
    rw [e21, e10]
    simp (disch := first | decide | omega) only [gx_w_np, gx_w_p, Int32.reduceToInt, Int.toNat_natCast, if_true, if_false, nI_1, nI_pred, i_nI, ite_true, ite_false, Int.reduceToNat, Nat.reduceEqDiff, Nat.reduceAdd, i_le, e56]
    refine ⟨fun q => absurd q (by omega), fun _ => ⟨by omega, by omega, ih (i + 1) _ (by omega) (fun p h => ?_) (fun j hj => ?_) (fun j hj => ?_)⟩⟩
    · rw [← F p h]; funext j; rw [gx_w_np h]
    · rw [gx_w_p]
      by_cases z : j = i
      · rw [if_pos (by omega), z]
      · rw [if_neg (by omega)]; exact h1 j (by omega)
    · rw [gx_w_p, if_neg (by omega)]; exact h2 j hj
set_option maxRecDepth 100000 in
set_option maxHeartbeats 4000000 in
theorem l78b {X : gx_X} {Ma : gx_M} {D : gD} {l u : Nat → Int} {s c : Nat} {P : Option Value → gx_M → Prop} (O : gok D) (V : vs D l u) (R : sr D u s) (A : ag Ma D) (Ca : rv Ma D l u) (hc : c < 50) (h21 : Ma 34 21 = nI c)
    (hP : ∀ M1, rp Ma M1 → rv M1 D (ws_l D l u s) (ws_u D l u s) → oc 34 21 51 52 53 Ma M1 c D l u s → P none M1) :
    ∀ (d i : Nat) (M : gx_M) (v4 v5 : Value), i + d = wl D l u s → sb D l s i = false → (∀ p, p ≠ 56 → p ≠ 57 → M p = Ma p) → (∀ j, j < i → M 56 j = nI (na_ D l s j)) → pl_ M 57 (nd D l s) (gdn D) (i + 1) → gx_OK X 78 34 [.ref 34, .int (nI s), .int (nI i), .int (nI (nd D l s i)), v4, v5] [] M P := by
  have hm40 := O.2.1
  have hn10 := O.1
  obtain ⟨L1, L2, L3, L4⟩ := wl_ok O V R
  have hse : ∀ j, j < wl D l u s → se D u (nd D l s j) = false := fun j hj => (L3 j hj).1
  obtain ⟨w1, w2, w3⟩ := walk_ok O V R (wl D l u s) hse
  have hnd : ∀ j, j ≤ wl D l u s → nd D l s j < gdn D ∧ (se D u (nd D l s j) = false → 0 < go_ D l (nd D l s j)) := fun j hj => ⟨(walk_ok O V R j (fun t ht => hse t (by omega))).1, (walk_ok O V R j (fun t ht => hse t (by omega))).2.1⟩
  have hlr : ∀ k, k < gdm D → 0 ≤ l k ∧ l k ≤ 1001 := fun k hk => ⟨(V.1 k hk).1, (V.1 k hk).2.1⟩
  have z0 : (0 : Int32).toInt = 0 := by decide
  intro d
  induction d with
  | zero =>
    intro i M v4 v5 hi hb F hp pl
    have ei : i = wl D l u s := by omega
    subst ei
    have hS : se D u (nd D l s (wl D l u s)) = true := by
      rcases L4 with h | h
      · exact h
      · rw [h] at hb; cases hb
    obtain ⟨t1, t2⟩ := se_iff.mp hS
    have hst : nd D l s (wl D l u s) ≠ s := fun q => by rw [q, R.2.1] at t1; exact absurd t1 (by decide)
    have hs10 : s < 10 := Nat.lt_of_lt_of_le R.1 hn10
    have ht10 : nd D l s (wl D l u s) < 10 := Nat.lt_of_lt_of_le w1 hn10
    have us := V.2.1 s R.1
    have ut := V.2.1 _ w1
    have e35 : M 35 (nd D l s (wl D l u s)) = 2 := by rw [F 35 (by decide) (by decide), A.2.2.1 _ w1]; exact t1
    have C : rv M D l u := ⟨fun k hk => by rw [F 54 (by decide) (by decide)]; exact Ca.1 k hk, fun v hv => by rw [F 55 (by decide) (by decide)]; exact Ca.2 v hv⟩
    have cs_ := C.2 s R.1
    have ct_ := C.2 _ w1
    have el : ws_l D l u s = tk l (na_ D l s) (am D l u s) 0 (wl D l u s) := by unfold ws_l; rw [if_pos hS]
    have eu : ws_u D l u s = fun v => if v = nd D l s (wl D l u s) then u v - am D l u s else if v = s then u v - am D l u s else u v := by unfold ws_u; rw [if_pos hS]
    have mp := (step_ok O V R).2.2 hS
    have eam : am D l u s = i_mn (mn 100000 l (na_ D l s) 0 (wl D l u s)) (i_mn (u s) (u (nd D l s (wl D l u s)))) := rfl
    have m1 := i_mn_le (mn 100000 l (na_ D l s) 0 (wl D l u s)) (i_mn (u s) (u (nd D l s (wl D l u s))))
    have m2 := i_mn_le (u s) (u (nd D l s (wl D l u s)))
    have hp2 : ∀ i, i < wl D l u s → M 56 i = nI (na_ D l s i) ∧ na_ D l s i < gdm D := fun i hi => ⟨hp i hi, (w3 i hi).1⟩
    have tr : ∀ M1, oc 34 21 51 52 53 M M1 c D l u s → oc 34 21 51 52 53 Ma M1 c D l u s := fun M1 o => by
      refine ⟨o.1, fun h => by rw [o.2.1 h, F 34 (by decide) (by decide)], fun j hj => ?_, fun j hj => by rw [o.2.2.2 j hj, F 53 (by decide) (by decide)]⟩
      rw [(o.2.2.1 j hj).1, (o.2.2.1 j hj).2, F 51 (by decide) (by decide), F 52 (by decide) (by decide)]; exact ⟨rfl, rfl⟩
    have h21M : M 34 21 = nI c := by rw [F 34 (by decide) (by decide)]; exact h21
    generalize hL : wl D l u s = L at *
    generalize ht : nd D l s L = t at *
    have fin : ∀ y : Int32, y.toInt = am D l u s → gx_C X 75 [.ref 34, .int (nI 0), .int (nI L), .int y] M fun r M1 =>
        (0 ≤ (s : Int) ∧ (s : Int) < ((10 : Nat) : Int)) ∧ (0 ≤ (s : Int) ∧ (s : Int) < ((10 : Nat) : Int)) ∧ (0 ≤ (t : Int) ∧ (t : Int) < ((10 : Nat) : Int)) ∧ (0 ≤ (t : Int) ∧ (t : Int) < ((10 : Nat) : Int)) ∧ (0 ≤ (M1 34 21).toInt ∧ (M1 34 21).toInt < ((80 : Nat) : Int)) ∧ (0 ≤ (M1 34 21).toInt ∧ (M1 34 21).toInt < ((80 : Nat) : Int)) ∧
        gx_OK X 78 231 [.ref 34, .int (nI s), .int (nI L), .int (nI t), .int y, .int 0] [] (gx_w (gx_w (gx_w (gx_w M1 55 s (M1 55 s - y)) 55 t ((if t = s then M1 55 s - y else M1 55 t) - y)) 51 (M1 34 21).toInt.toNat y) 52 (M1 34 21).toInt.toNat (nI L)) P := by
      intro y hy
      refine sr_lessen (u := u) hm40 L2 (Nat.zero_le _) (by omega) hlr C hp2 (fun M1 F1 T1 => ?_)
      have e21 : M1 34 21 = nI c := by rw [F1 34 (by decide)]; exact h21M
      rw [e21, if_neg hst]
      simp (disch := first | decide | omega) only [gx_w_np, gx_w_p, Int32.reduceToInt, Int.toNat_natCast, if_true, if_false, nI_1, nI_pred, i_nI, ite_true, ite_false, Int.reduceToNat, Nat.reduceEqDiff, Nat.reduceAdd]
      refine ⟨by omega, by omega, by omega, by omega, by omega, by omega, ?_⟩
      have f55 : M1 55 = M 55 := F1 55 (by decide)
      have s25 : (M1 55 s - y).toInt = u s - am D l u s := by rw [f55, i_sub (by omega) (by omega)]; omega
      have t25 : (M1 55 t - y).toInt = u t - am D l u s := by rw [f55, i_sub (by omega) (by omega)]; omega
      rw [← nI_0]
      refine l78c (u := u) (D := D) (l := l) (s := s) (c := c) (Ma := gx_w (gx_w (gx_w (gx_w M1 55 s (M1 55 s - y)) 55 t (M1 55 t - y)) 51 c y) 52 c (nI L)) L2 hc (fun i hi => ?_) ?_ (fun M2 G1 G2 G3 G4 => ?_) L 0 _ (by omega) (fun _ _ => rfl) (fun j hj => absurd hj (by omega)) (fun _ _ => rfl)
      · simp (disch := first | decide | omega) only [gx_w_np, gx_w_p, Int32.reduceToInt, Int.toNat_natCast, if_true, if_false, nI_1, nI_pred, i_nI, ite_true, ite_false, Int.reduceToNat, Nat.reduceEqDiff, Nat.reduceAdd]
        rw [F1 56 (by decide)]; exact hp i hi
      · simp (disch := first | decide | omega) only [gx_w_np, gx_w_p, Int32.reduceToInt, Int.toNat_natCast, if_true, if_false, nI_1, nI_pred, i_nI, ite_true, ite_false, Int.reduceToNat, Nat.reduceEqDiff, Nat.reduceAdd]
        exact e21
      · have g : ∀ p j, p ≠ 53 → p ≠ 55 → p ≠ 51 → p ≠ 52 → ¬ (p = 34 ∧ j = 21) → M2 p j = M1 p j := fun p j a b c d e => by
          rw [G1 p j a e, gx_w_np d, gx_w_np c, gx_w_np b, gx_w_np b]
        have g55 : ∀ j, M2 55 j = if j = t then M1 55 t - y else if j = s then M1 55 s - y else M1 55 j := fun j => by
          rw [G1 55 j (by decide) (by omega)]
          simp (disch := first | decide | omega) only [gx_w_np, gx_w_p, Int32.reduceToInt, Int.toNat_natCast, if_true, if_false, nI_1, nI_pred, i_nI, ite_true, ite_false, Int.reduceToNat, Nat.reduceEqDiff, Nat.reduceAdd]
        refine hP M2 (fun p j a b => ?_) ⟨fun k hk => ?_, fun v hv => ?_⟩ (tr M2 ⟨fun _ => ⟨G2, ?_, ?_, fun j hj => ?_⟩, fun q => ?_, fun j hj => ⟨?_, ?_⟩, fun j hj => ?_⟩)
        · rw [g p j (by omega) (by omega) (by omega) (by omega) b, F1 p (by omega), F p (by omega) (by omega)]
        · rw [g 54 k (by decide) (by decide) (by decide) (by decide) (by omega), T1 k hk, el, hy, Nat.sub_zero]
        · rw [g55, eu]
          show _ = if v = t then u v - am D l u s else if v = s then u v - am D l u s else u v
          by_cases z1 : v = t
          · rw [if_pos z1, if_pos z1, t25, z1]
          · rw [if_neg z1, if_neg z1]
            by_cases z2 : v = s
            · rw [if_pos z2, if_pos z2, s25, z2]
            · rw [if_neg z2, if_neg z2, f55]; exact C.2 v hv
        · rw [G1 51 c (by decide) (by omega), gx_w_np (by decide), gx_w_p, if_pos rfl, hy]
        · rw [G1 52 c (by decide) (by omega), gx_w_p, if_pos rfl, hL]
        · rw [hL] at hj; exact G3 j hj
        · rw [hL, ht, hS] at q; cases q
        · rw [G1 51 j (by decide) (by omega), gx_w_np (by decide), gx_w_p, if_neg (by omega), gx_w_np (by decide), gx_w_np (by decide), F1 51 (by decide)]
        · rw [G1 52 j (by decide) (by omega), gx_w_p, if_neg (by omega), gx_w_np (by decide), gx_w_np (by decide), gx_w_np (by decide), F1 52 (by decide)]
        · rw [G4 j hj, gx_w_np (by decide), gx_w_np (by decide), gx_w_np (by decide), gx_w_np (by decide), F1 53 (by decide)]
    have mi : ∀ a b : Int, i_mn a b = if a < b then a else b := fun _ _ => rfl
    refine gx_wp_ok 120 false _ _ _ _ ?_
    simp only [gx_w_np, gx_w_p, ne_eq, not_false_eq_true, gx_wp, gx_step, gx_cnd, gb0, gb1, Classical.not_not, List.getD_cons_zero, List.getD_cons_succ, List.set_cons_zero, List.set_cons_succ, List.length_cons, List.length_nil, Nat.reduceAdd, Nat.reduceLT, Nat.reduceLeDiff, Nat.reduceEqDiff, Bool.and_false, Bool.and_true, Bool.true_and, Bool.false_and, Bool.false_eq_true, if_false, if_true, ite_true, ite_false, Fin.isValue, Fin.val_zero, Fin.val_one, Fin.val_two, gz0, gz1, gz2, gz3, List.take_succ_cons, List.take_zero, List.drop_succ_cons, List.drop_zero, List.reverse_cons, List.reverse_nil, List.nil_append, List.cons_append, gx_nx, Int32.reduceToInt, Int.reduceToNat, Int.toNat_zero, Int.toNat_one, Int.reduceLT, Int.reduceLE, Int.ofNat_zero, Int.reduceNeg, Int.le_refl, and_self, List.getElem?_cons_zero, List.getElem?_cons_succ, true_and, and_true, Nat.reduceSub, List.replicate, List.append_nil, Nat.reduceLeDiff, Nat.le_add_left, Nat.zero_le, Nat.zero_add, gf4_134, gf4_19, gf4_59, gf4_62, gf4_65, gf4_7, gf4_71, gf4_74, gf4_77, gf4_91, gk_bipush_10, gk_iconst_0, gk_iconst_1, gk_iconst_2, gk_iconst_m1, gm4_150, gm4_154, gm4_157, gn73, gn74, gn75, gn78, gr73, gr74, gr75, gr78, gt4_21, gv78, gi78_0, gi78_1, gi78_2, gi78_3, gi78_4, gi78_7, gi78_10, gi78_11, gi78_14, gi78_15, gi78_16, gi78_17, gi78_20, gi78_23, gi78_24, gi78_25, gi78_26, gi78_27, gi78_28, gi78_31, gi78_32, gi78_33, gi78_34, gi78_35, gi78_38, gi78_39, gi78_40, gi78_41, gi78_44, gi78_45, gi78_48, gi78_49, gi78_50, gi78_53, gi78_54, gi78_55, gi78_58, gi78_60, gi78_61, gi78_64, gi78_65, gi78_67, gi78_68, gi78_71, gi78_72, gi78_75, gi78_77, gi78_78, gi78_79, gi78_80, gi78_83, gi78_84, gi78_85, gi78_88, gi78_89, gi78_90, gi78_93, gi78_94, gi78_95, gi78_96, gi78_97, gi78_98, gi78_101, gi78_102, gi78_103, gi78_104, gi78_107, gi78_110, gi78_111, gi78_112, gi78_115, gi78_116, gi78_117, gi78_118, gi78_121, gi78_122, gi78_123, gi78_124, gi78_127, gi78_129, gi78_130, gi78_133, gi78_134, gi78_135, gi78_137, gi78_140, gi78_141, gi78_144, gi78_145, gi78_146, gi78_149, gi78_151, gi78_153, gi78_154, gi78_157, gi78_158, gi78_159, gi78_161, gi78_164, gi78_165, gi78_168, gi78_169, gi78_170, gi78_173, gi78_175, gi78_177, gi78_178, gi78_179, gi78_180, gi78_182, gi78_185, gi78_186, gi78_189, gi78_190, gi78_191, gi78_192, gi78_194, gi78_195, gi78_196, gi78_197, gi78_200, gi78_201, gi78_202, gi78_203, gi78_205, gi78_206, gi78_207, gi78_208, gi78_211, gi78_212, gi78_215, gi78_217, gi78_218, gi78_219, gi78_222, gi78_223, gi78_226, gi78_227, gi78_228, gi78_229, gi78_231, gi78_233, gi78_234, gi78_237, gi78_238, gi78_241, gi78_243, gi78_244, gi78_247, gi78_248, gi78_250, gi78_251, gi78_252, gi78_255, gi78_257, gi78_258, gi78_259, gi78_262, gi78_265, gi78_266, gi78_267, gi78_270, gi78_271, gi78_272, gi78_275, gl0, gl1, gl2, gl3, gl4, gl5, gl6, gl7, gl8, gl9, gl10, gl11, gl12, gl13, gl14, gl15, gl16, gl17, gl18, gl19, gl20, gl21, gl22, gl23, gl24, gl25, gl26, gl27, gl28, gl29, gl30, gl31, gl32, gl33, gl34, gl35, gl36, gl37, gl38, gl39, gl40, gl41, gl42, gl43, gl44, gl45, gl46, gl47, gl48, gl49, gl50, gl51, gl52, gl53, gl54, gl55, gl56, gl57]
    simp (disch := first | decide | omega) only [gx_w_np, gx_w_p, Int32.reduceToInt, Int.toNat_natCast, if_true, if_false, nI_1, nI_pred, i_nI, ite_true, ite_false, Int.reduceToNat, Nat.reduceEqDiff, Nat.reduceAdd, e35]
    have n55 : ¬ M 55 t = 0 := fun q => by rw [q, z0] at ct_; omega
    refine ⟨by omega, fun q => absurd trivial q, fun _ => ⟨by omega, fun _ => ?_, fun q => absurd q n55⟩⟩
    rw [← nI_0]
    refine sr_leastOf hm40 L2 L1 (fun k hk => (hlr k hk).2) C hp2 (fun z hz => ?_)
    rw [Nat.sub_zero] at hz
    intro x hx
    cases hx
    simp (disch := first | decide | omega) only [gx_w_np, gx_w_p, Int32.reduceToInt, Int.toNat_natCast, if_true, if_false, nI_1, nI_pred, i_nI, ite_true, ite_false, Int.reduceToNat, Nat.reduceEqDiff, Nat.reduceAdd, i_le]
    have tl : ∀ y : Int32, y.toInt = am D l u s → gx_C X 75 [.ref 34, .int (nI 0), .int (nI L), .int y] M _ := fin
    rw [nI_0] at fin
    rw [nI_0]
    refine ⟨by omega, fun q => ⟨by omega, fun q2 => fin _ ?_, fun q2 => ⟨by omega, fin _ ?_⟩⟩, fun q => ⟨by omega, by omega, fun q2 => fin _ ?_, fun q2 => ⟨by omega, fin _ ?_⟩⟩⟩
    · rw [eam, mi, mi]
      by_cases a1 : u s < u t
      · rw [if_pos a1]
        by_cases a2 : mn 100000 l (na_ D l s) 0 L < u s
        · rw [if_pos a2]; omega
        · rw [if_neg a2]; omega
      · rw [if_neg a1]
        by_cases a2 : mn 100000 l (na_ D l s) 0 L < u t
        · rw [if_pos a2]; omega
        · rw [if_neg a2]; omega
    · rw [eam, mi, mi, if_neg (c := u s < u t) (by omega), if_neg (by omega)]; omega
    · rw [eam, mi, mi]
      by_cases a1 : u s < u t
      · rw [if_pos a1, if_neg (by omega)]; omega
      · rw [if_neg a1, if_neg (by omega)]; omega
    · rw [eam, mi, mi, if_neg (c := u s < u t) (by omega), if_neg (by omega)]; omega
  | succ d ih =>
    intro i M v4 v5 hi hb F hp pl
    obtain ⟨hn, hgo⟩ := hnd i (by omega)
    have A1 : ag M D := by
      obtain ⟨b1, b2, b3, b4⟩ := A
      unfold ag
      rw [F 34 (by decide) (by decide), F 35 (by decide) (by decide), F 37 (by decide) (by decide), F 38 (by decide) (by decide), F 41 (by decide) (by decide)]
      exact ⟨b1, b2, b3, b4⟩
    have C : rv M D l u := ⟨fun k hk => by rw [F 54 (by decide) (by decide)]; exact Ca.1 k hk, fun v hv => by rw [F 55 (by decide) (by decide)]; exact Ca.2 v hv⟩
    have f1 := hse i (by omega)
    have cu := C.2 _ hn
    have ub := V.2.1 _ hn
    have e35 := A1.2.2.1 _ hn
    obtain ⟨a1, a2, a3, a4, a5, a6⟩ := w3 i (by omega)
    have hn2 := (hnd (i + 1) (by omega)).1
    have e38 : M 38 (na_ D l s i) = nI (nd D l s (i + 1)) := by
      rw [(A1.2.2.2 _ a1).2.1]
      exact i_eq.mpr (by rw [i_nI (by omega)]; exact a5)
    have am40 : na_ D l s i < 40 := Nat.lt_of_lt_of_le a1 hm40
    have cont : gx_C X 73 [.ref 34, .int (nI (nd D l s i))] M fun r M1 => ∀ x : Int32, r = some (.int x) → (0 ≤ (i : Int) ∧ (i : Int) < ((12 : Nat) : Int)) ∧ (0 ≤ x.toInt ∧ x.toInt < ((40 : Nat) : Int)) ∧ (0 ≤ (M1 38 x.toInt.toNat).toInt ∧ (M1 38 x.toInt.toNat).toInt < ((10 : Nat) : Int)) ∧
        (M1 57 (M1 38 x.toInt.toNat).toInt.toNat < 0 → (0 ≤ (M1 38 x.toInt.toNat).toInt ∧ (M1 38 x.toInt.toNat).toInt < ((10 : Nat) : Int)) ∧ gx_OK X 78 34 [.ref 34, .int (nI s), .int (nI (i + 1)), .int (M1 38 x.toInt.toNat), .int x, v5] [] (gx_w (gx_w M1 56 i x) 57 (M1 38 x.toInt.toNat).toInt.toNat (nI (i + 1))) P) ∧
        (¬ M1 57 (M1 38 x.toInt.toNat).toInt.toNat < 0 → (0 ≤ (M1 38 x.toInt.toNat).toInt ∧ (M1 38 x.toInt.toNat).toInt < ((10 : Nat) : Int)) ∧ (0 ≤ (M1 38 x.toInt.toNat).toInt ∧ (M1 38 x.toInt.toNat).toInt < ((10 : Nat) : Int)) ∧ gx_C X 74 [.ref 34, .int (M1 57 (M1 38 x.toInt.toNat).toInt.toNat), .int (nI (i + 1))] (gx_w M1 56 i x) fun r M1_1 => ∀ x_1 : Int32, r = some (.int x_1) → gx_C X 75 [.ref 34, .int (M1 57 (M1 38 x.toInt.toNat).toInt.toNat), .int (nI (i + 1)), .int x_1] M1_1 fun r M1 => P none M1) := by
      refine sr_nextArc (by omega) O V A1 C (hgo f1) ?_
      intro x hx
      cases hx
      have ea : nx D l (nd D l s i) = na_ D l s i := rfl
      rw [ea]
      simp (disch := first | decide | omega) only [gx_w_np, gx_w_p, Int32.reduceToInt, Int.toNat_natCast, if_true, if_false, nI_1, nI_pred, i_nI, ite_true, ite_false, Int.reduceToNat, Nat.reduceEqDiff, Nat.reduceAdd, e38]
      refine ⟨by omega, by omega, by omega, fun q => ⟨by omega, ?_⟩, fun q => ⟨by omega, by omega, ?_⟩⟩
      · have fresh : ∀ j, j < i + 1 → nd D l s j ≠ nd D l s (i + 1) := fun j hj q2 => by
          have := pl.1 j hj
          rw [q2] at this
          rw [this, i_lt, i_nI (by omega), z0] at q
          omega
        refine ih (i + 1) _ _ _ (by omega) ?_ (fun p h1 h2 => ?_) (fun j hj => ?_) ⟨fun j hj => ?_, fun v hv h => ?_⟩
        · cases w : sb D l s (i + 1) with
          | false => rfl
          | true =>
            obtain ⟨j, b1, b2⟩ := sb_iff.mp w
            exact absurd b2 (fresh j b1)
        · rw [← F p h1 h2]; funext j; rw [gx_w_np h2, gx_w_np h1]
        · rw [gx_w_np (by decide), gx_w_p]
          by_cases z : j = i
          · rw [if_pos z, z]
          · rw [if_neg z]; exact hp j (by omega)
        · rw [gx_w_p]
          by_cases z : j = i + 1
          · rw [z, if_pos rfl]
          · rw [if_neg (fresh j (by omega)), gx_w_np (by decide)]; exact pl.1 j (by omega)
        · rw [gx_w_p, if_neg (fun q2 => h (i + 1) (by omega) q2.symm), gx_w_np (by decide)]
          exact pl.2 v hv (fun j hj => h j (by omega))
      · -- a ring
        have hex : ∃ j, j < i + 1 ∧ nd D l s j = nd D l s (i + 1) := by
          by_cases w : ∃ j, j < i + 1 ∧ nd D l s j = nd D l s (i + 1)
          · exact w
          · have := pl.2 _ hn2 (fun j hj q2 => w ⟨j, hj, q2⟩)
            rw [this] at q
            exact absurd (by decide) q
        have eL : wl D l u s = i + 1 := by
          by_cases w : i + 1 < wl D l u s
          · have := (L3 (i + 1) w).2
            rw [sb_iff.mpr hex] at this; cases this
          · omega
        obtain ⟨j, j1, j2⟩ := hex
        have p57 : M 57 (nd D l s (i + 1)) = nI j := by rw [← j2]; exact pl.1 j j1
        have hS : ¬ se D u (nd D l s (wl D l u s)) = true := by
          rw [eL, ← j2, hse j (by omega)]; decide
        have ej : fnd (fun t => decide (nd D l s t = nd D l s (wl D l u s))) (wl D l u s) 0 = j := fnd_uq (by omega) (by omega) (fun t _ ht => decide_eq_false (fun q2 => by
          have := nd_inj (u := u) (L := i + 1) (fun a ha => L3 a (by omega)) (i := t) (j := j) (by omega) (by omega) (by rw [q2, eL, j2])
          omega)) (decide_eq_true (by rw [eL]; exact j2))
        have eu : ws_u D l u s = u := by unfold ws_u; rw [if_neg hS]
        have el : ws_l D l u s = tk l (na_ D l s) (mn 100000 l (na_ D l s) j (i + 1 - j)) j (i + 1 - j) := by unfold ws_l; rw [if_neg hS, ej, eL]
        rw [p57]
        have C2 : rv (gx_w M 56 i (nI (na_ D l s i))) D l u := ⟨fun k hk => by rw [gx_w_np (by decide)]; exact C.1 k hk, fun v hv => by rw [gx_w_np (by decide)]; exact C.2 v hv⟩
        have hp2 : ∀ t, t < i + 1 → (gx_w M 56 i (nI (na_ D l s i))) 56 t = nI (na_ D l s t) ∧ na_ D l s t < gdm D := fun t ht => ⟨by
          rw [gx_w_p]
          by_cases z : t = i
          · rw [if_pos z, z]
          · rw [if_neg z]; exact hp t (by omega), (w3 t (by omega)).1⟩
        refine sr_leastOf hm40 (by omega) j1 (fun k hk => (hlr k hk).2) C2 hp2 (fun z hz => ?_)
        intro x hx
        cases hx
        have mle := (mn_le (F := 100000) (l := l) (a := na_ D l s) (b := j) (i + 1 - j)).1
        obtain ⟨i0, q1, q2⟩ := mn_one (F := 100000) (l := l) (a := na_ D l s) (b := j) (d := i + 1 - j) (by omega) (fun t ht => by
          have := V.1 _ (w3 (j + t) (by omega)).1
          omega)
        have pos := (w3 (j + i0) (by omega)).2.2.1
        refine sr_lessen (u := u) hm40 (by omega) (by omega) (by omega) hlr C2 hp2 (fun M1 F1 T1 => ?_)
        have g : ∀ p t, p ≠ 54 → p ≠ 56 → p ≠ 57 → M1 p t = Ma p t := fun p t a b c => by rw [F1 p a, gx_w_np b, F p b c]
        refine hP M1 (fun p t a b => g p t (by omega) (by omega) (by omega)) ⟨fun k hk => ?_, fun v hv => ?_⟩ ⟨fun h => absurd h hS, fun _ => g 34 21 (by decide) (by decide) (by decide), fun t _ => ⟨g 51 t (by decide) (by decide) (by decide), g 52 t (by decide) (by decide) (by decide)⟩, fun t _ => g 53 t (by decide) (by decide) (by decide)⟩
        · rw [T1 k hk, el, hz]
        · rw [g 55 v (by decide) (by decide) (by decide), eu]; exact Ca.2 v hv
    refine gx_wp_ok 120 false _ _ _ _ ?_
    simp only [gx_w_np, gx_w_p, ne_eq, not_false_eq_true, gx_wp, gx_step, gx_cnd, gb0, gb1, Classical.not_not, List.getD_cons_zero, List.getD_cons_succ, List.set_cons_zero, List.set_cons_succ, List.length_cons, List.length_nil, Nat.reduceAdd, Nat.reduceLT, Nat.reduceLeDiff, Nat.reduceEqDiff, Bool.and_false, Bool.and_true, Bool.true_and, Bool.false_and, Bool.false_eq_true, if_false, if_true, ite_true, ite_false, Fin.isValue, Fin.val_zero, Fin.val_one, Fin.val_two, gz0, gz1, gz2, gz3, List.take_succ_cons, List.take_zero, List.drop_succ_cons, List.drop_zero, List.reverse_cons, List.reverse_nil, List.nil_append, List.cons_append, gx_nx, Int32.reduceToInt, Int.reduceToNat, Int.toNat_zero, Int.toNat_one, Int.reduceLT, Int.reduceLE, Int.ofNat_zero, Int.reduceNeg, Int.le_refl, and_self, List.getElem?_cons_zero, List.getElem?_cons_succ, true_and, and_true, Nat.reduceSub, List.replicate, List.append_nil, Nat.reduceLeDiff, Nat.le_add_left, Nat.zero_le, Nat.zero_add, gf4_134, gf4_19, gf4_59, gf4_62, gf4_65, gf4_7, gf4_71, gf4_74, gf4_77, gf4_91, gk_bipush_10, gk_iconst_0, gk_iconst_1, gk_iconst_2, gk_iconst_m1, gm4_150, gm4_154, gm4_157, gn73, gn74, gn75, gn78, gr73, gr74, gr75, gr78, gt4_21, gv78, gi78_0, gi78_1, gi78_2, gi78_3, gi78_4, gi78_7, gi78_10, gi78_11, gi78_14, gi78_15, gi78_16, gi78_17, gi78_20, gi78_23, gi78_24, gi78_25, gi78_26, gi78_27, gi78_28, gi78_31, gi78_32, gi78_33, gi78_34, gi78_35, gi78_38, gi78_39, gi78_40, gi78_41, gi78_44, gi78_45, gi78_48, gi78_49, gi78_50, gi78_53, gi78_54, gi78_55, gi78_58, gi78_60, gi78_61, gi78_64, gi78_65, gi78_67, gi78_68, gi78_71, gi78_72, gi78_75, gi78_77, gi78_78, gi78_79, gi78_80, gi78_83, gi78_84, gi78_85, gi78_88, gi78_89, gi78_90, gi78_93, gi78_94, gi78_95, gi78_96, gi78_97, gi78_98, gi78_101, gi78_102, gi78_103, gi78_104, gi78_107, gi78_110, gi78_111, gi78_112, gi78_115, gi78_116, gi78_117, gi78_118, gi78_121, gi78_122, gi78_123, gi78_124, gi78_127, gi78_129, gi78_130, gi78_133, gi78_134, gi78_135, gi78_137, gi78_140, gi78_141, gi78_144, gi78_145, gi78_146, gi78_149, gi78_151, gi78_153, gi78_154, gi78_157, gi78_158, gi78_159, gi78_161, gi78_164, gi78_165, gi78_168, gi78_169, gi78_170, gi78_173, gi78_175, gi78_177, gi78_178, gi78_179, gi78_180, gi78_182, gi78_185, gi78_186, gi78_189, gi78_190, gi78_191, gi78_192, gi78_194, gi78_195, gi78_196, gi78_197, gi78_200, gi78_201, gi78_202, gi78_203, gi78_205, gi78_206, gi78_207, gi78_208, gi78_211, gi78_212, gi78_215, gi78_217, gi78_218, gi78_219, gi78_222, gi78_223, gi78_226, gi78_227, gi78_228, gi78_229, gi78_231, gi78_233, gi78_234, gi78_237, gi78_238, gi78_241, gi78_243, gi78_244, gi78_247, gi78_248, gi78_250, gi78_251, gi78_252, gi78_255, gi78_257, gi78_258, gi78_259, gi78_262, gi78_265, gi78_266, gi78_267, gi78_270, gi78_271, gi78_272, gi78_275, gl0, gl1, gl2, gl3, gl4, gl5, gl6, gl7, gl8, gl9, gl10, gl11, gl12, gl13, gl14, gl15, gl16, gl17, gl18, gl19, gl20, gl21, gl22, gl23, gl24, gl25, gl26, gl27, gl28, gl29, gl30, gl31, gl32, gl33, gl34, gl35, gl36, gl37, gl38, gl39, gl40, gl41, gl42, gl43, gl44, gl45, gl46, gl47, gl48, gl49, gl50, gl51, gl52, gl53, gl54, gl55, gl56, gl57]
    simp (disch := first | decide | omega) only [gx_w_np, gx_w_p, Int32.reduceToInt, Int.toNat_natCast, if_true, if_false, nI_1, nI_pred, i_nI, ite_true, ite_false, Int.reduceToNat, Nat.reduceEqDiff, Nat.reduceAdd, e35]
    refine ⟨by omega, fun q => cont, fun q => ⟨by omega, fun q2 => ?_, fun q2 => cont⟩⟩
    exfalso
    have : se D u (nd D l s i) = true := se_iff.mpr ⟨q, by
      have : (M 55 (nd D l s i)).toInt ≠ 0 := fun z => q2 (i_eq.mpr (by rw [z, z0]))
      omega⟩
    rw [f1] at this; cases this
set_option maxRecDepth 100000 in
set_option maxHeartbeats 4000000 in
theorem l78a {X : gx_X} {D : gD} {s : Nat} {P : Option Value → gx_M → Prop} {u4 v5 : Value} (O : gok D) (hs : s < 10) : ∀ (d i : Nat) (M : gx_M) (v3 : Value), M 34 0 = nI (gdn D) → i + d = gdn D → (∀ M1 : gx_M, (∀ p, p ≠ 57 → M1 p = M p) → (∀ j, j < i → M1 57 j = M 57 j) → (∀ j, i ≤ j → j < gdn D → M1 57 j = -1) → gx_OK X 78 34 [.ref 34, .int (nI s), .int 0, .int (nI s), u4, v5] [] (gx_w M1 57 s 0) P) → gx_OK X 78 2 [.ref 34, .int (nI s), .int (nI i), v3, u4, v5] [] M P := by
  have hn10 := O.1
  intro d
  induction d with
  | zero =>
    intro i M v3 e0 hi hP
    refine gx_wp_ok 40 false _ _ _ _ ?_
    simp only [gx_w_np, gx_w_p, ne_eq, not_false_eq_true, gx_wp, gx_step, gx_cnd, gb0, gb1, Classical.not_not, List.getD_cons_zero, List.getD_cons_succ, List.set_cons_zero, List.set_cons_succ, List.length_cons, List.length_nil, Nat.reduceAdd, Nat.reduceLT, Nat.reduceLeDiff, Nat.reduceEqDiff, Bool.and_false, Bool.and_true, Bool.true_and, Bool.false_and, Bool.false_eq_true, if_false, if_true, ite_true, ite_false, Fin.isValue, Fin.val_zero, Fin.val_one, Fin.val_two, gz0, gz1, gz2, gz3, List.take_succ_cons, List.take_zero, List.drop_succ_cons, List.drop_zero, List.reverse_cons, List.reverse_nil, List.nil_append, List.cons_append, gx_nx, Int32.reduceToInt, Int.reduceToNat, Int.toNat_zero, Int.toNat_one, Int.reduceLT, Int.reduceLE, Int.ofNat_zero, Int.reduceNeg, Int.le_refl, and_self, List.getElem?_cons_zero, List.getElem?_cons_succ, true_and, and_true, Nat.reduceSub, List.replicate, List.append_nil, Nat.reduceLeDiff, Nat.le_add_left, Nat.zero_le, Nat.zero_add, gf4_134, gf4_19, gf4_59, gf4_62, gf4_65, gf4_7, gf4_71, gf4_74, gf4_77, gf4_91, gk_bipush_10, gk_iconst_0, gk_iconst_1, gk_iconst_2, gk_iconst_m1, gm4_150, gm4_154, gm4_157, gn73, gn74, gn75, gn78, gr73, gr74, gr75, gr78, gt4_21, gv78, gi78_0, gi78_1, gi78_2, gi78_3, gi78_4, gi78_7, gi78_10, gi78_11, gi78_14, gi78_15, gi78_16, gi78_17, gi78_20, gi78_23, gi78_24, gi78_25, gi78_26, gi78_27, gi78_28, gi78_31, gi78_32, gi78_33, gi78_34, gi78_35, gi78_38, gi78_39, gi78_40, gi78_41, gi78_44, gi78_45, gi78_48, gi78_49, gi78_50, gi78_53, gi78_54, gi78_55, gi78_58, gi78_60, gi78_61, gi78_64, gi78_65, gi78_67, gi78_68, gi78_71, gi78_72, gi78_75, gi78_77, gi78_78, gi78_79, gi78_80, gi78_83, gi78_84, gi78_85, gi78_88, gi78_89, gi78_90, gi78_93, gi78_94, gi78_95, gi78_96, gi78_97, gi78_98, gi78_101, gi78_102, gi78_103, gi78_104, gi78_107, gi78_110, gi78_111, gi78_112, gi78_115, gi78_116, gi78_117, gi78_118, gi78_121, gi78_122, gi78_123, gi78_124, gi78_127, gi78_129, gi78_130, gi78_133, gi78_134, gi78_135, gi78_137, gi78_140, gi78_141, gi78_144, gi78_145, gi78_146, gi78_149, gi78_151, gi78_153, gi78_154, gi78_157, gi78_158, gi78_159, gi78_161, gi78_164, gi78_165, gi78_168, gi78_169, gi78_170, gi78_173, gi78_175, gi78_177, gi78_178, gi78_179, gi78_180, gi78_182, gi78_185, gi78_186, gi78_189, gi78_190, gi78_191, gi78_192, gi78_194, gi78_195, gi78_196, gi78_197, gi78_200, gi78_201, gi78_202, gi78_203, gi78_205, gi78_206, gi78_207, gi78_208, gi78_211, gi78_212, gi78_215, gi78_217, gi78_218, gi78_219, gi78_222, gi78_223, gi78_226, gi78_227, gi78_228, gi78_229, gi78_231, gi78_233, gi78_234, gi78_237, gi78_238, gi78_241, gi78_243, gi78_244, gi78_247, gi78_248, gi78_250, gi78_251, gi78_252, gi78_255, gi78_257, gi78_258, gi78_259, gi78_262, gi78_265, gi78_266, gi78_267, gi78_270, gi78_271, gi78_272, gi78_275, gl0, gl1, gl2, gl3, gl4, gl5, gl6, gl7, gl8, gl9, gl10, gl11, gl12, gl13, gl14, gl15, gl16, gl17, gl18, gl19, gl20, gl21, gl22, gl23, gl24, gl25, gl26, gl27, gl28, gl29, gl30, gl31, gl32, gl33, gl34, gl35, gl36, gl37, gl38, gl39, gl40, gl41, gl42, gl43, gl44, gl45, gl46, gl47, gl48, gl49, gl50, gl51, gl52, gl53, gl54, gl55, gl56, gl57]
    simp (disch := first | decide | omega) only [gx_w_np, gx_w_p, Int32.reduceToInt, Int.toNat_natCast, if_true, if_false, nI_1, nI_pred, i_nI, ite_true, ite_false, Int.reduceToNat, Nat.reduceEqDiff, Nat.reduceAdd, e0, i_le]
    exact ⟨fun _ => ⟨by omega, hP M (fun _ _ => rfl) (fun _ _ => rfl) (fun j x y => absurd y (by omega))⟩, fun q => absurd (by omega) q⟩
  | succ d ih =>
    intro i M v3 e0 hi hP
    refine gx_wp_ok 40 false _ _ _ _ ?_
    simp only [gx_w_np, gx_w_p, ne_eq, not_false_eq_true, gx_wp, gx_step, gx_cnd, gb0, gb1, Classical.not_not, List.getD_cons_zero, List.getD_cons_succ, List.set_cons_zero, List.set_cons_succ, List.length_cons, List.length_nil, Nat.reduceAdd, Nat.reduceLT, Nat.reduceLeDiff, Nat.reduceEqDiff, Bool.and_false, Bool.and_true, Bool.true_and, Bool.false_and, Bool.false_eq_true, if_false, if_true, ite_true, ite_false, Fin.isValue, Fin.val_zero, Fin.val_one, Fin.val_two, gz0, gz1, gz2, gz3, List.take_succ_cons, List.take_zero, List.drop_succ_cons, List.drop_zero, List.reverse_cons, List.reverse_nil, List.nil_append, List.cons_append, gx_nx, Int32.reduceToInt, Int.reduceToNat, Int.toNat_zero, Int.toNat_one, Int.reduceLT, Int.reduceLE, Int.ofNat_zero, Int.reduceNeg, Int.le_refl, and_self, List.getElem?_cons_zero, List.getElem?_cons_succ, true_and, and_true, Nat.reduceSub, List.replicate, List.append_nil, Nat.reduceLeDiff, Nat.le_add_left, Nat.zero_le, Nat.zero_add, gf4_134, gf4_19, gf4_59, gf4_62, gf4_65, gf4_7, gf4_71, gf4_74, gf4_77, gf4_91, gk_bipush_10, gk_iconst_0, gk_iconst_1, gk_iconst_2, gk_iconst_m1, gm4_150, gm4_154, gm4_157, gn73, gn74, gn75, gn78, gr73, gr74, gr75, gr78, gt4_21, gv78, gi78_0, gi78_1, gi78_2, gi78_3, gi78_4, gi78_7, gi78_10, gi78_11, gi78_14, gi78_15, gi78_16, gi78_17, gi78_20, gi78_23, gi78_24, gi78_25, gi78_26, gi78_27, gi78_28, gi78_31, gi78_32, gi78_33, gi78_34, gi78_35, gi78_38, gi78_39, gi78_40, gi78_41, gi78_44, gi78_45, gi78_48, gi78_49, gi78_50, gi78_53, gi78_54, gi78_55, gi78_58, gi78_60, gi78_61, gi78_64, gi78_65, gi78_67, gi78_68, gi78_71, gi78_72, gi78_75, gi78_77, gi78_78, gi78_79, gi78_80, gi78_83, gi78_84, gi78_85, gi78_88, gi78_89, gi78_90, gi78_93, gi78_94, gi78_95, gi78_96, gi78_97, gi78_98, gi78_101, gi78_102, gi78_103, gi78_104, gi78_107, gi78_110, gi78_111, gi78_112, gi78_115, gi78_116, gi78_117, gi78_118, gi78_121, gi78_122, gi78_123, gi78_124, gi78_127, gi78_129, gi78_130, gi78_133, gi78_134, gi78_135, gi78_137, gi78_140, gi78_141, gi78_144, gi78_145, gi78_146, gi78_149, gi78_151, gi78_153, gi78_154, gi78_157, gi78_158, gi78_159, gi78_161, gi78_164, gi78_165, gi78_168, gi78_169, gi78_170, gi78_173, gi78_175, gi78_177, gi78_178, gi78_179, gi78_180, gi78_182, gi78_185, gi78_186, gi78_189, gi78_190, gi78_191, gi78_192, gi78_194, gi78_195, gi78_196, gi78_197, gi78_200, gi78_201, gi78_202, gi78_203, gi78_205, gi78_206, gi78_207, gi78_208, gi78_211, gi78_212, gi78_215, gi78_217, gi78_218, gi78_219, gi78_222, gi78_223, gi78_226, gi78_227, gi78_228, gi78_229, gi78_231, gi78_233, gi78_234, gi78_237, gi78_238, gi78_241, gi78_243, gi78_244, gi78_247, gi78_248, gi78_250, gi78_251, gi78_252, gi78_255, gi78_257, gi78_258, gi78_259, gi78_262, gi78_265, gi78_266, gi78_267, gi78_270, gi78_271, gi78_272, gi78_275, gl0, gl1, gl2, gl3, gl4, gl5, gl6, gl7, gl8, gl9, gl10, gl11, gl12, gl13, gl14, gl15, gl16, gl17, gl18, gl19, gl20, gl21, gl22, gl23, gl24, gl25, gl26, gl27, gl28, gl29, gl30, gl31, gl32, gl33, gl34, gl35, gl36, gl37, gl38, gl39, gl40, gl41, gl42, gl43, gl44, gl45, gl46, gl47, gl48, gl49, gl50, gl51, gl52, gl53, gl54, gl55, gl56, gl57]
    simp (disch := first | decide | omega) only [gx_w_np, gx_w_p, Int32.reduceToInt, Int.toNat_natCast, if_true, if_false, nI_1, nI_pred, i_nI, ite_true, ite_false, Int.reduceToNat, Nat.reduceEqDiff, Nat.reduceAdd, e0, i_le]
    refine ⟨fun q => absurd q (by omega), fun _ => ⟨by omega, ih (i + 1) _ _ (by rw [gx_w_np (by decide)]; exact e0) (by omega) (fun M1 x y z => hP M1 (fun p hp => ?_) (fun j hj => ?_) (fun j hj hn => ?_))⟩⟩
    · rw [x p hp]; funext j; rw [gx_w_np hp]
    · rw [y j (by omega), gx_w_p, if_neg (by omega)]
    · by_cases e : j = i
      · rw [e, y i (by omega), gx_w_p, if_pos rfl]
      · exact z j (by omega) hn
set_option maxRecDepth 100000 in
set_option maxHeartbeats 4000000 in
theorem sr_walk {X : gx_X} {M : gx_M} {D : gD} {l u : Nat → Int} {s c : Nat} {P : Option Value → gx_M → Prop} (O : gok D) (V : vs D l u) (R : sr D u s) (A : ag M D) (C : rv M D l u) (hc : c < 50) (h21 : M 34 21 = nI c)
    (hP : ∀ M1, rp M M1 → rv M1 D (ws_l D l u s) (ws_u D l u s) → oc 34 21 51 52 53 M M1 c D l u s → P none M1) : gx_C X 78 [.ref 34, .int (nI s)] M P := by
  have hn10 := O.1
  have hs10 : s < 10 := Nat.lt_of_lt_of_le R.1 hn10
  refine gx_C_wp 20 ?_
  simp only [gx_w_np, gx_w_p, ne_eq, not_false_eq_true, gx_wp, gx_step, gx_cnd, gb0, gb1, Classical.not_not, List.getD_cons_zero, List.getD_cons_succ, List.set_cons_zero, List.set_cons_succ, List.length_cons, List.length_nil, Nat.reduceAdd, Nat.reduceLT, Nat.reduceLeDiff, Nat.reduceEqDiff, Bool.and_false, Bool.and_true, Bool.true_and, Bool.false_and, Bool.false_eq_true, if_false, if_true, ite_true, ite_false, Fin.isValue, Fin.val_zero, Fin.val_one, Fin.val_two, gz0, gz1, gz2, gz3, List.take_succ_cons, List.take_zero, List.drop_succ_cons, List.drop_zero, List.reverse_cons, List.reverse_nil, List.nil_append, List.cons_append, gx_nx, Int32.reduceToInt, Int.reduceToNat, Int.toNat_zero, Int.toNat_one, Int.reduceLT, Int.reduceLE, Int.ofNat_zero, Int.reduceNeg, Int.le_refl, and_self, List.getElem?_cons_zero, List.getElem?_cons_succ, true_and, and_true, Nat.reduceSub, List.replicate, List.append_nil, Nat.reduceLeDiff, Nat.le_add_left, Nat.zero_le, Nat.zero_add, gf4_134, gf4_19, gf4_59, gf4_62, gf4_65, gf4_7, gf4_71, gf4_74, gf4_77, gf4_91, gk_bipush_10, gk_iconst_0, gk_iconst_1, gk_iconst_2, gk_iconst_m1, gm4_150, gm4_154, gm4_157, gn73, gn74, gn75, gn78, gr73, gr74, gr75, gr78, gt4_21, gv78, gi78_0, gi78_1, gi78_2, gi78_3, gi78_4, gi78_7, gi78_10, gi78_11, gi78_14, gi78_15, gi78_16, gi78_17, gi78_20, gi78_23, gi78_24, gi78_25, gi78_26, gi78_27, gi78_28, gi78_31, gi78_32, gi78_33, gi78_34, gi78_35, gi78_38, gi78_39, gi78_40, gi78_41, gi78_44, gi78_45, gi78_48, gi78_49, gi78_50, gi78_53, gi78_54, gi78_55, gi78_58, gi78_60, gi78_61, gi78_64, gi78_65, gi78_67, gi78_68, gi78_71, gi78_72, gi78_75, gi78_77, gi78_78, gi78_79, gi78_80, gi78_83, gi78_84, gi78_85, gi78_88, gi78_89, gi78_90, gi78_93, gi78_94, gi78_95, gi78_96, gi78_97, gi78_98, gi78_101, gi78_102, gi78_103, gi78_104, gi78_107, gi78_110, gi78_111, gi78_112, gi78_115, gi78_116, gi78_117, gi78_118, gi78_121, gi78_122, gi78_123, gi78_124, gi78_127, gi78_129, gi78_130, gi78_133, gi78_134, gi78_135, gi78_137, gi78_140, gi78_141, gi78_144, gi78_145, gi78_146, gi78_149, gi78_151, gi78_153, gi78_154, gi78_157, gi78_158, gi78_159, gi78_161, gi78_164, gi78_165, gi78_168, gi78_169, gi78_170, gi78_173, gi78_175, gi78_177, gi78_178, gi78_179, gi78_180, gi78_182, gi78_185, gi78_186, gi78_189, gi78_190, gi78_191, gi78_192, gi78_194, gi78_195, gi78_196, gi78_197, gi78_200, gi78_201, gi78_202, gi78_203, gi78_205, gi78_206, gi78_207, gi78_208, gi78_211, gi78_212, gi78_215, gi78_217, gi78_218, gi78_219, gi78_222, gi78_223, gi78_226, gi78_227, gi78_228, gi78_229, gi78_231, gi78_233, gi78_234, gi78_237, gi78_238, gi78_241, gi78_243, gi78_244, gi78_247, gi78_248, gi78_250, gi78_251, gi78_252, gi78_255, gi78_257, gi78_258, gi78_259, gi78_262, gi78_265, gi78_266, gi78_267, gi78_270, gi78_271, gi78_272, gi78_275, gl0, gl1, gl2, gl3, gl4, gl5, gl6, gl7, gl8, gl9, gl10, gl11, gl12, gl13, gl14, gl15, gl16, gl17, gl18, gl19, gl20, gl21, gl22, gl23, gl24, gl25, gl26, gl27, gl28, gl29, gl30, gl31, gl32, gl33, gl34, gl35, gl36, gl37, gl38, gl39, gl40, gl41, gl42, gl43, gl44, gl45, gl46, gl47, gl48, gl49, gl50, gl51, gl52, gl53, gl54, gl55, gl56, gl57]
  rw [← nI_0]
  refine l78a O hs10 (gdn D) 0 M _ A.1 (by omega) (fun M1 x y z => ?_)
  have q : ∀ p, p ≠ 57 → (gx_w M1 57 s 0) p = M p := fun p h => by rw [← x p h]; funext j; rw [gx_w_np h]
  have F1 : rp M (gx_w M1 57 s 0) := fun p j a b => by rw [q p (by omega)]
  have C1 : rv (gx_w M1 57 s 0) D l u := ⟨fun k hk => by rw [q 54 (by decide)]; exact C.1 k hk, fun v hv => by rw [q 55 (by decide)]; exact C.2 v hv⟩
  have e0 : nd D l s 0 = s := rfl
  have sb0 : sb D l s 0 = false := by
    cases w : sb D l s 0 with
    | false => rfl
    | true => obtain ⟨j, b1, -⟩ := sb_iff.mp w; omega
  rw [← nI_0]
  refine l78b O V R (ag_rp F1 A) C1 hc (by rw [q 34 (by decide)]; exact h21) (fun M2 F2 C2 o => hP M2 (rp_t F1 F2) C2 ⟨o.1, fun h => by rw [o.2.1 h, q 34 (by decide)], fun j hj => ?_, fun j hj => by rw [o.2.2.2 j hj, q 53 (by decide)]⟩) (wl D l u s) 0 _ _ _ (by omega) sb0 (fun _ _ _ => rfl) (fun j hj => absurd hj (by omega)) ⟨fun j hj => ?_, fun v hv h => ?_⟩
  · rw [(o.2.2.1 j hj).1, (o.2.2.1 j hj).2, q 51 (by decide), q 52 (by decide)]; exact ⟨rfl, rfl⟩
  · rw [show j = 0 by omega, e0, gx_w_p, if_pos rfl, nI_0]
  · have := h 0 (by omega)
    rw [e0] at this
    rw [gx_w_p, if_neg (fun q2 => this q2.symm)]
    exact z v (by omega) hv
