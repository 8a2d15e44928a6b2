/-! isThere: whether there is a circulation. -/
/-- a way is gone along from its end down to v: by less on it, by more against it -/
def au (M0 M : gx_M) (rk : Nat → Nat) (v : Nat) (a : Int) : Prop := (∀ p, p ≠ 45 → M p = M0 p) ∧ (∀ x y, x < 24 → y < 24 → 0 ≤ lf M x y) ∧
  (∀ x y, x < 24 → y < 24 → lf M x y + lf M y x = lf M0 x y + lf M0 y x) ∧
  (∀ x y, x < 24 → y < 24 → rk y ≤ rk v → lf M0 x y ≤ lf M x y) ∧
  (∀ w, w < 24 → sm_ 24 (fun u => lf M w u) = sm_ 24 (fun u => lf M0 w u) + (if w = 23 then a else 0) - (if w = v then a else 0))
theorem au_step {M0 M : gx_M} {rk : Nat → Nat} {v p : Nat} {a : Int32} (U : au M0 M rk v a.toInt) (hv : v < 24) (hp : p < 24) (hr : rk p < rk v) (ha : 0 ≤ a.toInt) (hl : a.toInt ≤ lf M0 p v) (hB : ∀ x y, x < 24 → y < 24 → lf M0 x y + lf M0 y x ≤ 500000000) :
    au M0 (gx_w (gx_w M 45 (24 * p + v) (M 45 (24 * p + v) - a)) 45 (24 * v + p) (M 45 (24 * v + p) + a)) rk p a.toInt := by
  obtain ⟨u1, u2, u3, u4, u5⟩ := U
  have hne : p ≠ v := fun z => by rw [z] at hr; omega
  have n1 := u2 p v hp hv
  have n2 := u2 v p hv hp
  have n3 := u3 p v hp hv
  have n4 := hB p v hp hv
  have n5 := u4 p v hp hv (Nat.le_refl _)
  have s1 : (M 45 (24 * p + v) - a).toInt = lf M p v - a.toInt := i_sub (by unfold lf at *; omega) (by unfold lf at *; omega)
  have s2 : (M 45 (24 * v + p) + a).toInt = lf M v p + a.toInt := i_add (by unfold lf at *; omega) (by unfold lf at *; omega)
  have q : ∀ x y, x < 24 → y < 24 → lf (gx_w (gx_w M 45 (24 * p + v) (M 45 (24 * p + v) - a)) 45 (24 * v + p) (M 45 (24 * v + p) + a)) x y = lf M x y + (if x = v ∧ y = p then a.toInt else 0) - (if x = p ∧ y = v then a.toInt else 0) := by
    intro x y hx hy
    show ((gx_w (gx_w M 45 (24 * p + v) (M 45 (24 * p + v) - a)) 45 (24 * v + p) (M 45 (24 * v + p) + a)) 45 (24 * x + y)).toInt = _
    rw [gx_w_p, gx_w_p]
    by_cases z1 : x = v ∧ y = p
    · rw [if_pos (by rw [z1.1, z1.2]), if_pos z1, if_neg (fun z => hne (by omega)), s2, z1.1, z1.2]; omega
    · rw [if_neg (c := 24 * x + y = 24 * v + p) (by omega), if_neg z1]
      by_cases z2 : x = p ∧ y = v
      · rw [if_pos (by rw [z2.1, z2.2]), if_pos z2, s1, z2.1, z2.2]; omega
      · rw [if_neg (c := 24 * x + y = 24 * p + v) (by omega), if_neg z2]
        show lf M x y = _
        omega
  refine ⟨fun r h => ?_, fun x y hx hy => ?_, fun x y hx hy => ?_, fun x y hx hy h => ?_, fun w hw => ?_⟩
  · rw [← u1 r h]; funext j; rw [gx_w_np h, gx_w_np h]
  · rw [q x y hx hy]
    have := u2 x y hx hy
    by_cases z2 : x = p ∧ y = v
    · rw [if_pos z2, z2.1, z2.2, if_neg (fun z => hne (by omega))]; omega
    · rw [if_neg z2]
      by_cases z1 : x = v ∧ y = p
      · rw [if_pos z1]; omega
      · rw [if_neg z1]; omega
  · rw [q x y hx hy, q y x hy hx]
    have := u3 x y hx hy
    by_cases z1 : x = v ∧ y = p
    · rw [if_pos z1, if_neg (c := x = p ∧ y = v) (fun z => hne (by omega)), if_neg (c := y = v ∧ x = p) (fun z => hne (by omega)), if_pos ⟨z1.2, z1.1⟩]; omega
    · rw [if_neg z1]
      by_cases z2 : x = p ∧ y = v
      · rw [if_pos z2, if_pos ⟨z2.2, z2.1⟩, if_neg (fun z => z1 ⟨z.2, z.1⟩)]; omega
      · rw [if_neg z2, if_neg (fun z => z2 ⟨z.2, z.1⟩), if_neg (fun z => z1 ⟨z.2, z.1⟩)]; omega
  · rw [q x y hx hy]
    have := u4 x y hx hy (by omega)
    have z2 : ¬ (x = p ∧ y = v) := fun z => by rw [z.2] at h; omega
    rw [if_neg z2]
    by_cases z1 : x = v ∧ y = p
    · rw [if_pos z1]; omega
    · rw [if_neg z1]; omega
  · have e1 : sm_ 24 (fun u => lf (gx_w (gx_w M 45 (24 * p + v) (M 45 (24 * p + v) - a)) 45 (24 * v + p) (M 45 (24 * v + p) + a)) w u) = sm_ 24 (fun u => lf M w u) + (if w = v then a.toInt else 0) - (if w = p then a.toInt else 0) := by
      have e2 : sm_ 24 (fun u => lf (gx_w (gx_w M 45 (24 * p + v) (M 45 (24 * p + v) - a)) 45 (24 * v + p) (M 45 (24 * v + p) + a)) w u) = sm_ 24 (fun u => lf M w u + (if u = p then (if w = v then a.toInt else 0) else 0) - (if u = v then (if w = p then a.toInt else 0) else 0)) := sm_congr (fun u hu => by
        rw [q w u hw hu]
        have c1 : (if w = v ∧ u = p then a.toInt else 0) = (if u = p then (if w = v then a.toInt else 0) else 0) := by
          by_cases z : u = p
          · by_cases z2 : w = v
            · rw [if_pos ⟨z2, z⟩, if_pos z, if_pos z2]
            · rw [if_neg (fun y => z2 y.1), if_pos z, if_neg z2]
          · rw [if_neg (fun y => z y.2), if_neg z]
        have c2 : (if w = p ∧ u = v then a.toInt else 0) = (if u = v then (if w = p then a.toInt else 0) else 0) := by
          by_cases z : u = v
          · by_cases z2 : w = p
            · rw [if_pos ⟨z2, z⟩, if_pos z, if_pos z2]
            · rw [if_neg (fun y => z2 y.1), if_pos z, if_neg z2]
          · rw [if_neg (fun y => z y.2), if_neg z]
        rw [c1, c2])
      have c3 := sm_one (fun _ => if w = v then a.toInt else 0) p 24
      have c4 := sm_one (fun _ => if w = p then a.toInt else 0) v 24
      rw [if_pos hp] at c3
      rw [if_pos hv] at c4
      rw [e2, sm_sub, sm_add, c3, c4]
    rw [e1, u5 w hw]
    omega
/-- the way, from its end back -/
def pt (M : gx_M) : Nat → Nat
  | 0 => 23
  | i + 1 => (M 46 (pt M i)).toInt.toNat
theorem pt_next {M : gx_M} {rk : Nat → Nat} (W : fw M rk) {i : Nat} (h1 : pt M i < 24) (h2 : M 46 (pt M i) ≠ -1) (h3 : pt M i ≠ 22) : pt M (i + 1) < 24 ∧ M 46 (pt M i) = nI (pt M (i + 1)) ∧ M 46 (pt M (i + 1)) ≠ -1 ∧ rk (pt M (i + 1)) < rk (pt M i) ∧ 0 < lf M (pt M (i + 1)) (pt M i) := by
  obtain ⟨p, p1, p2, p3, p4, p5⟩ := W.2 _ h1 h2 h3
  have e : pt M (i + 1) = p := by
    show (M 46 (pt M i)).toInt.toNat = p
    rw [p2, i_nI (by omega)]; simp
  rw [e]
  exact ⟨p1, p2, p3, p4, p5⟩
theorem n22 {v : Nat} (hv : v < 24) : nI v = 22 ↔ v = 22 := by
  rw [show (22 : Int32) = nI 22 by decide]
  exact ⟨fun h => nI_inj (by omega) (by omega) h, fun h => by rw [h]⟩
set_option maxRecDepth 100000 in
set_option maxHeartbeats 4000000 in
theorem l64_2 {X : gx_X} {M0 : gx_M} {rk : Nat → Nat} {x1 x2 dn b : Int32} {P : Option Value → gx_M → Prop} (W : fw M0 rk) (ha : 0 ≤ b.toInt) (hl : ∀ i, (∀ j, j ≤ i → pt M0 j ≠ 22) → b.toInt ≤ lf M0 (pt M0 (i + 1)) (pt M0 i)) (hB : ∀ x y, x < 24 → y < 24 → lf M0 x y + lf M0 y x ≤ 500000000)
    (hP : ∀ M, au M0 M rk 22 b.toInt → gx_OK X 64 8 [.ref 34, .int x1, .int x2, .int (dn + b), .int b, .int (nI 22)] [] M P) :
    ∀ (d i : Nat) (M : gx_M), rk (pt M0 i) < d → pt M0 i < 24 → M0 46 (pt M0 i) ≠ -1 → (∀ j, j < i → pt M0 j ≠ 22) → au M0 M rk (pt M0 i) b.toInt → gx_OK X 64 94 [.ref 34, .int x1, .int x2, .int dn, .int b, .int (nI (pt M0 i))] [] M P := by
  intro d
  induction d with
  | zero => intro i M h; exact absurd h (by omega)
  | succ d ih =>
    intro i M h1 hv hn hj U
    refine gx_wp_ok 60 false _ _ _ _ ?_
    simp only [gx_w_np, gx_w_p, ne_eq, not_false_eq_true, gx_wp, gx_step, gx_cnd, gb0, gb1, Classical.not_not, List.getD_cons_zero, List.getD_cons_succ, List.set_cons_zero, List.set_cons_succ, List.length_cons, List.length_nil, Nat.reduceAdd, Nat.reduceLT, Nat.reduceLeDiff, Nat.reduceEqDiff, Bool.and_false, Bool.and_true, Bool.true_and, Bool.false_and, Bool.false_eq_true, if_false, if_true, ite_true, ite_false, Fin.isValue, Fin.val_zero, Fin.val_one, Fin.val_two, gz0, gz1, gz2, gz3, List.take_succ_cons, List.take_zero, List.drop_succ_cons, List.drop_zero, List.reverse_cons, List.reverse_nil, List.nil_append, List.cons_append, gx_nx, Int32.reduceToInt, Int.reduceToNat, Int.toNat_zero, Int.toNat_one, Int.reduceLT, Int.reduceLE, Int.ofNat_zero, Int.reduceNeg, Int.le_refl, and_self, List.getElem?_cons_zero, List.getElem?_cons_succ, true_and, and_true, Nat.reduceSub, List.replicate, List.append_nil, Nat.reduceLeDiff, Nat.le_add_left, Nat.zero_le, Nat.zero_add, gc4_94, gf4_41, gf4_44, gf4_80, gk_bipush_22, gk_bipush_23, gk_bipush_24, gk_iconst_0, gk_iconst_1, gm4_95, gm4_99, gn62, gn63, gn64, gr62, gr63, gr64, gv64, gi64_0, gi64_1, gi64_2, gi64_3, gi64_6, gi64_7, gi64_8, gi64_9, gi64_12, gi64_15, gi64_17, gi64_19, gi64_21, gi64_23, gi64_25, gi64_27, gi64_30, gi64_31, gi64_34, gi64_36, gi64_37, gi64_40, gi64_42, gi64_43, gi64_44, gi64_46, gi64_47, gi64_48, gi64_50, gi64_53, gi64_54, gi64_57, gi64_59, gi64_60, gi64_63, gi64_65, gi64_66, gi64_67, gi64_69, gi64_70, gi64_71, gi64_74, gi64_76, gi64_78, gi64_79, gi64_82, gi64_84, gi64_85, gi64_87, gi64_90, gi64_92, gi64_94, gi64_96, gi64_98, gi64_101, gi64_102, gi64_105, gi64_107, gi64_108, gi64_111, gi64_113, gi64_114, gi64_115, gi64_117, gi64_118, gi64_119, gi64_120, gi64_122, gi64_123, gi64_124, gi64_125, gi64_128, gi64_130, gi64_132, gi64_133, gi64_134, gi64_137, gi64_139, gi64_140, gi64_141, gi64_142, gi64_143, gi64_145, gi64_146, gi64_147, gi64_148, gi64_151, gi64_153, gi64_154, gi64_156, gi64_159, gi64_160, gi64_162, gi64_163, gi64_164, gi64_167, gi64_168, gi64_169, gi64_172, gi64_175, gi64_176, gi64_179, gi64_180, gl0, gl1, gl2, gl3, gl4, gl5, gl6, gl7, gl8, gl9, gl10, gl11, gl12, gl13, gl14, gl15, gl16, gl17, gl18, gl19, gl20, gl21, gl22, gl23, gl24, gl25, gl26, gl27, gl28, gl29, gl30, gl31, gl32, gl33, gl34, gl35, gl36, gl37, gl38, gl39, gl40, gl41, gl42, gl43, gl44, gl45, gl46, gl47, gl48, gl49, gl50, gl51, gl52, gl53, gl54, gl55, gl56, gl57]
    by_cases z : pt M0 i = 22
    · refine ⟨fun _ => ?_, fun q => absurd ((n22 hv).mpr z) q⟩
      rw [z] at U ⊢
      exact hP M U
    · obtain ⟨p1, p2, p3, p4, p5⟩ := pt_next W hv hn z
      refine ⟨fun q => absurd ((n22 hv).mp q) z, fun _ => ?_⟩
      have e46 : M 46 (pt M0 i) = nI (pt M0 (i + 1)) := by rw [U.1 46 (by decide)]; exact p2
      have hne : pt M0 (i + 1) ≠ pt M0 i := fun q => by rw [q] at p4; omega
      have hj2 : ∀ j, j ≤ i → pt M0 j ≠ 22 := fun j h => by
        by_cases e : j = i
        · rw [e]; exact z
        · exact hj j (by omega)
      simp (disch := first | decide | omega) only [gx_w_np, gx_w_p, Int32.reduceToInt, Int.toNat_natCast, if_true, if_false, nI_1, nI_pred, i_nI, ite_true, ite_false, Int.reduceToNat, Nat.reduceEqDiff, Nat.reduceAdd, e46, m24]
      rw [if_neg (show ¬ 24 * pt M0 i + pt M0 (i + 1) = 24 * pt M0 (i + 1) + pt M0 i by omega)]
      refine ⟨by omega, by omega, by omega, by omega, by omega, by omega, by omega, ?_⟩
      exact ih (i + 1) _ (by omega) p1 p3 (fun j h => hj2 j (by omega)) (au_step U hv p1 p4 ha (hl i hj2) hB)
set_option maxRecDepth 100000 in
set_option maxHeartbeats 4000000 in
theorem l64_1 {X : gx_X} {M : gx_M} {rk : Nat → Nat} {x1 x2 dn : Int32} {P : Option Value → gx_M → Prop} (W : fw M rk)
    (hP : ∀ b : Int32, 0 < b.toInt → b.toInt ≤ 1000000 → (∀ i, (∀ j, j ≤ i → pt M j ≠ 22) → b.toInt ≤ lf M (pt M (i + 1)) (pt M i)) → gx_OK X 64 94 [.ref 34, .int x1, .int x2, .int dn, .int b, .int 23] [] M P) :
    ∀ (d i : Nat) (b : Int32), rk (pt M i) < d → pt M i < 24 → M 46 (pt M i) ≠ -1 → (∀ j, j < i → pt M j ≠ 22) → 0 < b.toInt → b.toInt ≤ 1000000 → (∀ j, j < i → b.toInt ≤ lf M (pt M (j + 1)) (pt M j)) → gx_OK X 64 23 [.ref 34, .int x1, .int x2, .int dn, .int b, .int (nI (pt M i))] [] M P := by
  intro d
  induction d with
  | zero => intro i b h; exact absurd h (by omega)
  | succ d ih =>
    intro i b h1 hv hn hj b1 b2 b3
    refine gx_wp_ok 60 false _ _ _ _ ?_
    simp only [gx_w_np, gx_w_p, ne_eq, not_false_eq_true, gx_wp, gx_step, gx_cnd, gb0, gb1, Classical.not_not, List.getD_cons_zero, List.getD_cons_succ, List.set_cons_zero, List.set_cons_succ, List.length_cons, List.length_nil, Nat.reduceAdd, Nat.reduceLT, Nat.reduceLeDiff, Nat.reduceEqDiff, Bool.and_false, Bool.and_true, Bool.true_and, Bool.false_and, Bool.false_eq_true, if_false, if_true, ite_true, ite_false, Fin.isValue, Fin.val_zero, Fin.val_one, Fin.val_two, gz0, gz1, gz2, gz3, List.take_succ_cons, List.take_zero, List.drop_succ_cons, List.drop_zero, List.reverse_cons, List.reverse_nil, List.nil_append, List.cons_append, gx_nx, Int32.reduceToInt, Int.reduceToNat, Int.toNat_zero, Int.toNat_one, Int.reduceLT, Int.reduceLE, Int.ofNat_zero, Int.reduceNeg, Int.le_refl, and_self, List.getElem?_cons_zero, List.getElem?_cons_succ, true_and, and_true, Nat.reduceSub, List.replicate, List.append_nil, Nat.reduceLeDiff, Nat.le_add_left, Nat.zero_le, Nat.zero_add, gc4_94, gf4_41, gf4_44, gf4_80, gk_bipush_22, gk_bipush_23, gk_bipush_24, gk_iconst_0, gk_iconst_1, gm4_95, gm4_99, gn62, gn63, gn64, gr62, gr63, gr64, gv64, gi64_0, gi64_1, gi64_2, gi64_3, gi64_6, gi64_7, gi64_8, gi64_9, gi64_12, gi64_15, gi64_17, gi64_19, gi64_21, gi64_23, gi64_25, gi64_27, gi64_30, gi64_31, gi64_34, gi64_36, gi64_37, gi64_40, gi64_42, gi64_43, gi64_44, gi64_46, gi64_47, gi64_48, gi64_50, gi64_53, gi64_54, gi64_57, gi64_59, gi64_60, gi64_63, gi64_65, gi64_66, gi64_67, gi64_69, gi64_70, gi64_71, gi64_74, gi64_76, gi64_78, gi64_79, gi64_82, gi64_84, gi64_85, gi64_87, gi64_90, gi64_92, gi64_94, gi64_96, gi64_98, gi64_101, gi64_102, gi64_105, gi64_107, gi64_108, gi64_111, gi64_113, gi64_114, gi64_115, gi64_117, gi64_118, gi64_119, gi64_120, gi64_122, gi64_123, gi64_124, gi64_125, gi64_128, gi64_130, gi64_132, gi64_133, gi64_134, gi64_137, gi64_139, gi64_140, gi64_141, gi64_142, gi64_143, gi64_145, gi64_146, gi64_147, gi64_148, gi64_151, gi64_153, gi64_154, gi64_156, gi64_159, gi64_160, gi64_162, gi64_163, gi64_164, gi64_167, gi64_168, gi64_169, gi64_172, gi64_175, gi64_176, gi64_179, gi64_180, gl0, gl1, gl2, gl3, gl4, gl5, gl6, gl7, gl8, gl9, gl10, gl11, gl12, gl13, gl14, gl15, gl16, gl17, gl18, gl19, gl20, gl21, gl22, gl23, gl24, gl25, gl26, gl27, gl28, gl29, gl30, gl31, gl32, gl33, gl34, gl35, gl36, gl37, gl38, gl39, gl40, gl41, gl42, gl43, gl44, gl45, gl46, gl47, gl48, gl49, gl50, gl51, gl52, gl53, gl54, gl55, gl56, gl57]
    by_cases z : pt M i = 22
    · refine ⟨fun _ => hP b b1 b2 (fun k hk => ?_), fun q => absurd ((n22 hv).mpr z) q⟩
      by_cases e : k < i
      · exact b3 k e
      · exact absurd z (hk i (by omega))
    · obtain ⟨p1, p2, p3, p4, p5⟩ := pt_next W hv hn z
      refine ⟨fun q => absurd ((n22 hv).mp q) z, fun _ => ?_⟩
      have hj2 : ∀ j, j < i + 1 → pt M j ≠ 22 := fun j h => by
        by_cases e : j = i
        · rw [e]; exact z
        · exact hj j (by omega)
      simp (disch := first | decide | omega) only [gx_w_np, gx_w_p, Int32.reduceToInt, Int.toNat_natCast, if_true, if_false, nI_1, nI_pred, i_nI, ite_true, ite_false, Int.reduceToNat, Nat.reduceEqDiff, Nat.reduceAdd, p2, m24, i_le]
      refine ⟨by omega, by omega, fun q => ⟨by omega, ih (i + 1) b (by omega) p1 p3 hj2 b1 b2 (fun j h => ?_)⟩, fun q => ⟨by omega, by omega, by omega, ih (i + 1) _ (by omega) p1 p3 hj2 p5 ?_ (fun j h => ?_)⟩⟩
      · by_cases e : j = i
        · rw [e]; exact q
        · exact b3 j (by omega)
      · show lf M (pt M (i + 1)) (pt M i) ≤ 1000000
        unfold lf; omega
      · show lf M (pt M (i + 1)) (pt M i) ≤ _
        by_cases e : j = i
        · rw [e]; exact Int.le_refl _
        · have := b3 j (by omega)
          have q2 : ¬ b.toInt ≤ lf M (pt M (i + 1)) (pt M i) := q
          omega
def fr4 (M M1 : gx_M) : Prop := ∀ p j, p ≠ 45 → p ≠ 46 → p ≠ 47 → ¬ (p = 34 ∧ j = 16) → M1 p j = M p j
set_option maxRecDepth 100000 in
set_option maxHeartbeats 4000000 in
theorem l64_0 {X : gx_X} {A B : Nat → Nat} {l h : Nat → Int} (hA : ∀ e, e < 61 → A e < 22) (hBB : ∀ e, e < 61 → B e < 22) (hl : ∀ e, e < 61 → 0 ≤ l e ∧ l e ≤ h e ∧ h e ≤ 1000000) {M0 : gx_M} {x1 x2 : Int32} {P : Option Value → gx_M → Prop} (hm : (M0 34 16).toInt = sm_ 61 l)
    (h1 : ∀ M, (∀ p, p ≠ 45 → p ≠ 46 → p ≠ 47 → M p = M0 p) → (∃ g : Nat → Int, (∀ v, v < 22 → nt_d 61 A B g v = 0) ∧ ∀ e, e < 61 → l e ≤ g e ∧ g e ≤ h e) → P (some (.int 1)) M)
    (h0 : ∀ M, (∀ p, p ≠ 45 → p ≠ 46 → p ≠ 47 → M p = M0 p) → (¬ ∃ g : Nat → Int, (∀ v, v < 22 → nt_d 61 A B g v = 0) ∧ ∀ e, e < 61 → l e ≤ g e ∧ g e ≤ h e) → P (some (.int 0)) M) :
    ∀ (d : Nat) (dn : Int32) (M : gx_M) (v4 v5 : Value), sm_ 61 l - dn.toInt < d → 0 ≤ dn.toInt → (∀ p, p ≠ 45 → p ≠ 46 → p ≠ 47 → M p = M0 p) → rI (cM A B l h) (lf M) dn.toInt → gx_OK X 64 8 [.ref 34, .int x1, .int x2, .int dn, v4, v5] [] M P := by
  have must := sm_bd (f := l) (c := 1000000) (n := 61) (fun e he => by have := hl e he; omega)
  intro d
  induction d with
  | zero =>
    intro dn M v4 v5 hd h00 F I
    have := rI_le hA hBB I
    omega
  | succ d ih =>
    intro dn M v4 v5 hd h00 F I
    have le := rI_le hA hBB I
    have cap : ∀ x y, x < 24 → y < 24 → lf M x y + lf M y x ≤ 500000000 := fun x y hx hy => by
      rw [I.2.1 x y hx hy]
      have a1 := sm_bd (f := fun e => cN A B l h e x y) (c := 2000000) (n := 61) (fun e he => cN_bd (hl e he))
      have a2 := sm_bd (f := fun e => cN A B l h e y x) (c := 2000000) (n := 61) (fun e he => cN_bd (hl e he))
      unfold cM
      omega
    refine gx_wp_ok 60 false _ _ _ _ ?_
    simp only [gx_w_np, gx_w_p, ne_eq, not_false_eq_true, gx_wp, gx_step, gx_cnd, gb0, gb1, Classical.not_not, List.getD_cons_zero, List.getD_cons_succ, List.set_cons_zero, List.set_cons_succ, List.length_cons, List.length_nil, Nat.reduceAdd, Nat.reduceLT, Nat.reduceLeDiff, Nat.reduceEqDiff, Bool.and_false, Bool.and_true, Bool.true_and, Bool.false_and, Bool.false_eq_true, if_false, if_true, ite_true, ite_false, Fin.isValue, Fin.val_zero, Fin.val_one, Fin.val_two, gz0, gz1, gz2, gz3, List.take_succ_cons, List.take_zero, List.drop_succ_cons, List.drop_zero, List.reverse_cons, List.reverse_nil, List.nil_append, List.cons_append, gx_nx, Int32.reduceToInt, Int.reduceToNat, Int.toNat_zero, Int.toNat_one, Int.reduceLT, Int.reduceLE, Int.ofNat_zero, Int.reduceNeg, Int.le_refl, and_self, List.getElem?_cons_zero, List.getElem?_cons_succ, true_and, and_true, Nat.reduceSub, List.replicate, List.append_nil, Nat.reduceLeDiff, Nat.le_add_left, Nat.zero_le, Nat.zero_add, gc4_94, gf4_41, gf4_44, gf4_80, gk_bipush_22, gk_bipush_23, gk_bipush_24, gk_iconst_0, gk_iconst_1, gm4_95, gm4_99, gn62, gn63, gn64, gr62, gr63, gr64, gv64, gi64_0, gi64_1, gi64_2, gi64_3, gi64_6, gi64_7, gi64_8, gi64_9, gi64_12, gi64_15, gi64_17, gi64_19, gi64_21, gi64_23, gi64_25, gi64_27, gi64_30, gi64_31, gi64_34, gi64_36, gi64_37, gi64_40, gi64_42, gi64_43, gi64_44, gi64_46, gi64_47, gi64_48, gi64_50, gi64_53, gi64_54, gi64_57, gi64_59, gi64_60, gi64_63, gi64_65, gi64_66, gi64_67, gi64_69, gi64_70, gi64_71, gi64_74, gi64_76, gi64_78, gi64_79, gi64_82, gi64_84, gi64_85, gi64_87, gi64_90, gi64_92, gi64_94, gi64_96, gi64_98, gi64_101, gi64_102, gi64_105, gi64_107, gi64_108, gi64_111, gi64_113, gi64_114, gi64_115, gi64_117, gi64_118, gi64_119, gi64_120, gi64_122, gi64_123, gi64_124, gi64_125, gi64_128, gi64_130, gi64_132, gi64_133, gi64_134, gi64_137, gi64_139, gi64_140, gi64_141, gi64_142, gi64_143, gi64_145, gi64_146, gi64_147, gi64_148, gi64_151, gi64_153, gi64_154, gi64_156, gi64_159, gi64_160, gi64_162, gi64_163, gi64_164, gi64_167, gi64_168, gi64_169, gi64_172, gi64_175, gi64_176, gi64_179, gi64_180, gl0, gl1, gl2, gl3, gl4, gl5, gl6, gl7, gl8, gl9, gl10, gl11, gl12, gl13, gl14, gl15, gl16, gl17, gl18, gl19, gl20, gl21, gl22, gl23, gl24, gl25, gl26, gl27, gl28, gl29, gl30, gl31, gl32, gl33, gl34, gl35, gl36, gl37, gl38, gl39, gl40, gl41, gl42, gl43, gl44, gl45, gl46, gl47, gl48, gl49, gl50, gl51, gl52, gl53, gl54, gl55, gl56, gl57]
    refine sr_findWay (fun M1 F1 S => ?_) (fun M1 rk F1 W => ?_)
    · intro x hx
      cases hx
      refine ⟨fun _ => ?_, fun q => absurd rfl q⟩
      have F2 : ∀ p, p ≠ 45 → p ≠ 46 → p ≠ 47 → M1 p = M0 p := fun p a b c => by rw [F1 p b c, F p a b c]
      have e16 : (M1 34 16).toInt = sm_ 61 l := by rw [F2 34 (by decide) (by decide) (by decide)]; exact hm
      obtain ⟨S, s1, s2, s3⟩ := S
      refine ⟨fun q => h0 M1 F2 ?_, fun q => h1 M1 F2 ?_⟩
      · rintro ⟨g, g1, g2⟩
        exact q (i_eq.mpr (by rw [e16]; exact rt_no hA hBB I s1 s2 s3 g1 g2))
      · have : dn.toInt = sm_ 61 l := by rw [q]; exact e16
        rw [this] at I
        exact rt_yes hA hBB (fun e he => ⟨(hl e he).1, (hl e he).2.1⟩) I
    · intro x hx
      cases hx
      refine ⟨fun q => absurd q (by decide), fun _ => ?_⟩
      have F2 : ∀ p, p ≠ 45 → p ≠ 46 → p ≠ 47 → M1 p = M0 p := fun p a b c => by rw [F1 p b c, F p a b c]
      have L1 : ∀ x y, lf M1 x y = lf M x y := fr46_lf F1
      have w23 : M1 46 (pt M1 0) ≠ -1 := W.1
      have e23 : (23 : Int32) = nI (pt M1 0) := by show (23 : Int32) = nI 23; decide
      rw [e23]
      refine l64_1 W (fun b b1 b2 b3 => ?_) (rk (pt M1 0) + 1) 0 1000000 (by omega) (show 23 < 24 by omega) w23 (fun j h => absurd h (by omega)) (by decide) (by decide) (fun j h => absurd h (by omega))
      rw [e23]
      refine l64_2 W (by omega) b3 (fun x y hx hy => by rw [L1, L1]; exact cap x y hx hy) (fun M2 U => ?_) (rk (pt M1 0) + 1) 0 M1 (by omega) (show 23 < 24 by omega) w23 (fun j h => absurd h (by omega)) ⟨fun _ _ => rfl, fun x y hx hy => by rw [L1]; exact I.1 x y hx hy, fun _ _ _ _ => rfl, fun _ _ _ _ _ => Int.le_refl _, fun w _ => ?_⟩
      · obtain ⟨u1, u2, u3, u4, u5⟩ := U
        have I2 : rI (cM A B l h) (lf M2) (dn.toInt + b.toInt) := by
          refine ⟨u2, fun x y hx hy => ?_, fun v hv => ?_, ?_⟩
          · rw [u3 x y hx hy, L1, L1]; exact I.2.1 x y hx hy
          · rw [u5 v (by omega), if_neg (by omega), if_neg (by omega), ← I.2.2.1 v hv, sm_congr (g := fun u => lf M v u) (fun u _ => L1 v u)]; omega
          · rw [u5 22 (by omega), if_neg (by omega), if_pos rfl, sm_congr (g := fun u => lf M 22 u) (fun u _ => L1 22 u), I.2.2.2]; omega
        have le2 := rI_le hA hBB I2
        have e : (dn + b).toInt = dn.toInt + b.toInt := i_add (by omega) (by omega)
        rw [← e] at I2
        exact ih (dn + b) M2 _ _ (by omega) (by omega) (fun p a1 a2 a3 => by rw [u1 p a1, F2 p a1 a2 a3]) I2
      · show sm_ 24 (fun u => lf M1 w u) = sm_ 24 (fun u => lf M1 w u) + (if w = 23 then b.toInt else 0) - (if w = 23 then b.toInt else 0)
        omega
set_option maxRecDepth 100000 in
set_option maxHeartbeats 4000000 in
theorem sr_isThere {X : gx_X} {M : gx_M} {n m : Nat} {lv hv : Int32} {P : Option Value → gx_M → Prop} (hn : M 34 0 = nI n) (hm : M 34 3 = nI m) (O : gok (dR M n m)) (hr : 0 ≤ lv.toInt) (hrs : lv.toInt ≤ hv.toInt) (hs : hv.toInt ≤ 1000000)
    (h1 : ∀ M1, fr4 M M1 → (∃ g, SP (dR M n m) lv.toInt hv.toInt g) → P (some (.int 1)) M1) (h0 : ∀ M1, fr4 M M1 → (¬ ∃ g, SP (dR M n m) lv.toInt hv.toInt g) → P (some (.int 0)) M1) : gx_C X 64 [.ref 34, .int lv, .int hv] M P := by
  refine gx_C_wp 60 ?_
  simp only [gx_w_np, gx_w_p, ne_eq, not_false_eq_true, gx_wp, gx_step, gx_cnd, gb0, gb1, Classical.not_not, List.getD_cons_zero, List.getD_cons_succ, List.set_cons_zero, List.set_cons_succ, List.length_cons, List.length_nil, Nat.reduceAdd, Nat.reduceLT, Nat.reduceLeDiff, Nat.reduceEqDiff, Bool.and_false, Bool.and_true, Bool.true_and, Bool.false_and, Bool.false_eq_true, if_false, if_true, ite_true, ite_false, Fin.isValue, Fin.val_zero, Fin.val_one, Fin.val_two, gz0, gz1, gz2, gz3, List.take_succ_cons, List.take_zero, List.drop_succ_cons, List.drop_zero, List.reverse_cons, List.reverse_nil, List.nil_append, List.cons_append, gx_nx, Int32.reduceToInt, Int.reduceToNat, Int.toNat_zero, Int.toNat_one, Int.reduceLT, Int.reduceLE, Int.ofNat_zero, Int.reduceNeg, Int.le_refl, and_self, List.getElem?_cons_zero, List.getElem?_cons_succ, true_and, and_true, Nat.reduceSub, List.replicate, List.append_nil, Nat.reduceLeDiff, Nat.le_add_left, Nat.zero_le, Nat.zero_add, gc4_94, gf4_41, gf4_44, gf4_80, gk_bipush_22, gk_bipush_23, gk_bipush_24, gk_iconst_0, gk_iconst_1, gm4_95, gm4_99, gn62, gn63, gn64, gr62, gr63, gr64, gv64, gi64_0, gi64_1, gi64_2, gi64_3, gi64_6, gi64_7, gi64_8, gi64_9, gi64_12, gi64_15, gi64_17, gi64_19, gi64_21, gi64_23, gi64_25, gi64_27, gi64_30, gi64_31, gi64_34, gi64_36, gi64_37, gi64_40, gi64_42, gi64_43, gi64_44, gi64_46, gi64_47, gi64_48, gi64_50, gi64_53, gi64_54, gi64_57, gi64_59, gi64_60, gi64_63, gi64_65, gi64_66, gi64_67, gi64_69, gi64_70, gi64_71, gi64_74, gi64_76, gi64_78, gi64_79, gi64_82, gi64_84, gi64_85, gi64_87, gi64_90, gi64_92, gi64_94, gi64_96, gi64_98, gi64_101, gi64_102, gi64_105, gi64_107, gi64_108, gi64_111, gi64_113, gi64_114, gi64_115, gi64_117, gi64_118, gi64_119, gi64_120, gi64_122, gi64_123, gi64_124, gi64_125, gi64_128, gi64_130, gi64_132, gi64_133, gi64_134, gi64_137, gi64_139, gi64_140, gi64_141, gi64_142, gi64_143, gi64_145, gi64_146, gi64_147, gi64_148, gi64_151, gi64_153, gi64_154, gi64_156, gi64_159, gi64_160, gi64_162, gi64_163, gi64_164, gi64_167, gi64_168, gi64_169, gi64_172, gi64_175, gi64_176, gi64_179, gi64_180, gl0, gl1, gl2, gl3, gl4, gl5, gl6, gl7, gl8, gl9, gl10, gl11, gl12, gl13, gl14, gl15, gl16, gl17, gl18, gl19, gl20, gl21, gl22, gl23, gl24, gl25, gl26, gl27, gl28, gl29, gl30, gl31, gl32, gl33, gl34, gl35, gl36, gl37, gl38, gl39, gl40, gl41, gl42, gl43, gl44, gl45, gl46, gl47, gl48, gl49, gl50, gl51, gl52, gl53, gl54, gl55, gl56, gl57]
  refine sr_layOut hn hm O hr hrs hs (fun M1 F1 L1 m1 => ?_)
  have hl := fun e (he : e < 61) => d_ok O hr hrs hs he
  have fr : ∀ M2 : gx_M, (∀ p, p ≠ 45 → p ≠ 46 → p ≠ 47 → M2 p = M1 p) → fr4 M M2 := fun M2 h p j a b c d => by rw [h p a b c, F1 p j a d]
  have must := sm_bd (f := dL (dR M n m) lv.toInt) (c := 1000000) (n := 61) (fun e he => by have := hl e he; omega)
  refine l64_0 (fun e he => (dlt O he).1) (fun e he => (dlt O he).2) hl m1 (fun M2 F2 G => h1 M2 (fr M2 F2) G) (fun M2 F2 G => h0 M2 (fr M2 F2) G) 70000000 0 M1 _ _ ?_ (by decide) (fun _ _ _ _ => rfl) ⟨fun x y hx hy => ?_, fun x y hx hy => ?_, fun v hv => ?_, ?_⟩
  · rw [show (0 : Int32).toInt = 0 by decide]; omega
  · rw [L1 x y hx hy]; exact cM_nn (fun e he => ⟨(hl e he).1, (hl e he).2.1⟩) x y
  · rw [L1 x y hx hy, L1 y x hy hx]
  · exact sm_congr (fun u hu => L1 v u (by omega) hu)
  · rw [sm_congr (g := fun u => cM (dA (dR M n m)) (dB (dR M n m)) (dL (dR M n m) lv.toInt) (dH (dR M n m) hv.toInt) 22 u) (fun u hu => L1 22 u (by omega) hu), show (0 : Int32).toInt = 0 by decide]; omega
