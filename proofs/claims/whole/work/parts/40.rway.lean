/-! The reference's search for a way. -/
/-- what is left from u to v -/
def lf (M : gx_M) (u v : Nat) : Int := (M 45 (24 * u + v)).toInt
def fw (M : gx_M) (rk : Nat → Nat) : Prop := M 46 23 ≠ -1 ∧ ∀ v, v < 24 → M 46 v ≠ -1 → v ≠ 22 → ∃ p, p < 24 ∧ M 46 v = nI p ∧ M 46 p ≠ -1 ∧ rk p < rk v ∧ 0 < lf M p v
def bi (M : gx_M) (rk : Nat → Nat) (h t : Nat) : Prop := 1 ≤ t ∧ (∀ i, i < t → ∃ v, v < 24 ∧ M 47 i = nI v ∧ rk v = i ∧ M 46 v ≠ -1) ∧ (∀ v, v < 24 → M 46 v ≠ -1 → rk v < t ∧ M 47 (rk v) = nI v) ∧ M 46 22 = nI 22 ∧
  (∀ v, v < 24 → M 46 v ≠ -1 → v ≠ 22 → ∃ p, p < 24 ∧ M 46 v = nI p ∧ M 46 p ≠ -1 ∧ rk p < rk v ∧ 0 < lf M p v) ∧
  (∀ v, v < 24 → M 46 v ≠ -1 → rk v < h → ∀ u, u < 24 → 0 < lf M v u → M 46 u ≠ -1)
theorem bi_t {M : gx_M} {rk : Nat → Nat} {h t : Nat} (B : bi M rk h t) : t ≤ 24 := by
  obtain ⟨b1, b2, b3, b4, b5, b6⟩ := B
  refine php 24 t (fun i => (M 47 i).toInt.toNat) (fun i hi => ?_) (fun i j hij hj => ?_)
  · obtain ⟨v, v1, v2, v3, v4⟩ := b2 i hi
    show (M 47 i).toInt.toNat < 24
    rw [v2, i_nI (by omega)]; simp; exact v1
  · obtain ⟨v, v1, v2, v3, v4⟩ := b2 i (by omega)
    obtain ⟨u, u1, u2, u3, u4⟩ := b2 j hj
    show (M 47 i).toInt.toNat ≠ (M 47 j).toInt.toNat
    rw [v2, u2, i_nI (by omega), i_nI (by omega)]
    simp
    intro z
    rw [z] at v3
    omega
theorem bi_sign {M : gx_M} {rk : Nat → Nat} {h t : Nat} (B : bi M rk h t) {v : Nat} (hv : v < 24) : ((M 46 v).toInt < 0 ↔ M 46 v = -1) := by
  obtain ⟨b1, b2, b3, b4, b5, b6⟩ := B
  have m1 : (-1 : Int32).toInt = -1 := by decide
  constructor
  · intro h1
    by_cases z : M 46 v = -1
    · exact z
    · by_cases z2 : v = 22
      · rw [z2, b4, i_nI (by omega)] at h1; omega
      · obtain ⟨p, p1, p2, -⟩ := b5 v hv z z2
        rw [p2, i_nI (by omega)] at h1; omega
  · intro h1
    rw [h1, m1]; omega
/-- a vertex more -/
theorem bi_push {M : gx_M} {rk : Nat → Nat} {h t v u : Nat} (B : bi M rk h t) (hv : v < 24) (hu : u < 24) (hn : M 46 u = -1) (hvn : M 46 v ≠ -1) (hl : 0 < lf M v u) (hr : rk v = h) :
    bi (gx_w (gx_w M 46 u (nI v)) 47 t (nI u)) (fun w => if w = u then t else rk w) h (t + 1) ∧ t < 24 ∧ ∀ w, w < 24 → M 46 w ≠ -1 → (gx_w (gx_w M 46 u (nI v)) 47 t (nI u)) 46 w = M 46 w := by
  have ht := bi_t B
  obtain ⟨b1, b2, b3, b4, b5, b6⟩ := B
  have q46 : ∀ w, (gx_w (gx_w M 46 u (nI v)) 47 t (nI u)) 46 w = if w = u then nI v else M 46 w := fun w => by rw [gx_w_np (by decide), gx_w_p]
  have q47 : ∀ w, (gx_w (gx_w M 46 u (nI v)) 47 t (nI u)) 47 w = if w = t then nI u else M 47 w := fun w => by rw [gx_w_p, gx_w_np (by decide)]
  have ql : ∀ x y, lf (gx_w (gx_w M 46 u (nI v)) 47 t (nI u)) x y = lf M x y := fun x y => by unfold lf; rw [gx_w_np (by decide), gx_w_np (by decide)]
  have hold : ∀ w, M 46 w ≠ -1 → w ≠ u := fun w h1 h2 => h1 (by rw [h2]; exact hn)
  have hrv := (b3 v hv hvn).1
  have new : ∀ w, (gx_w (gx_w M 46 u (nI v)) 47 t (nI u)) 46 w ≠ -1 → w = u ∨ (w ≠ u ∧ M 46 w ≠ -1) := fun w h1 => by
    rw [q46] at h1
    by_cases z : w = u
    · exact Or.inl z
    · rw [if_neg z] at h1; exact Or.inr ⟨z, h1⟩
  have B2 : bi (gx_w (gx_w M 46 u (nI v)) 47 t (nI u)) (fun w => if w = u then t else rk w) h (t + 1) := by
    refine ⟨by omega, fun i hi => ?_, fun w hw h1 => ?_, ?_, fun w hw h1 h2 => ?_, fun w hw h1 h2 x hx h3 => ?_⟩
    · by_cases z : i = t
      · refine ⟨u, hu, by rw [q47, if_pos z], ?_, ?_⟩
        · show (if u = u then t else rk u) = i
          rw [if_pos rfl, z]
        · rw [q46, if_pos rfl]; exact nI_m1 (by omega)
      · obtain ⟨w, c1, c2, c3, c4⟩ := b2 i (by omega)
        have := hold w c4
        refine ⟨w, c1, by rw [q47, if_neg z]; exact c2, ?_, ?_⟩
        · show (if w = u then t else rk w) = i
          rw [if_neg this]; exact c3
        · rw [q46, if_neg this]; exact c4
    · show (if w = u then t else rk w) < t + 1 ∧ (gx_w (gx_w M 46 u (nI v)) 47 t (nI u)) 47 (if w = u then t else rk w) = nI w
      rcases new w h1 with z | ⟨z, z2⟩
      · rw [if_pos z, q47, if_pos rfl, z]; exact ⟨by omega, rfl⟩
      · have := b3 w hw z2
        rw [if_neg z, q47, if_neg (by omega)]; exact ⟨by omega, this.2⟩
    · rw [q46, if_neg (hold 22 (by rw [b4]; exact nI_m1 (by omega)))]; exact b4
    · show ∃ p, p < 24 ∧ _ ∧ _ ∧ (if p = u then t else rk p) < (if w = u then t else rk w) ∧ _
      rcases new w h1 with z | ⟨z, z2⟩
      · refine ⟨v, hv, by rw [q46, if_pos z], by rw [q46, if_neg (hold v hvn)]; exact hvn, ?_, by rw [ql, z]; exact hl⟩
        rw [if_neg (hold v hvn), if_pos z]; exact hrv
      · obtain ⟨p, p1, p2, p3, p4, p5⟩ := b5 w hw z2 h2
        refine ⟨p, p1, by rw [q46, if_neg z]; exact p2, by rw [q46, if_neg (hold p p3)]; exact p3, ?_, by rw [ql]; exact p5⟩
        rw [if_neg (hold p p3), if_neg z]; exact p4
    · rw [q46]
      by_cases zx : x = u
      · rw [if_pos zx]; exact nI_m1 (by omega)
      · rw [if_neg zx]
        have h2 : (if w = u then t else rk w) < h := h2
        rcases new w h1 with z | ⟨z, z2⟩
        · rw [if_pos z] at h2; omega
        · rw [if_neg z] at h2
          rw [ql] at h3
          exact b6 w hw z2 h2 x hx h3
  refine ⟨B2, ?_, fun w hw h1 => by rw [q46, if_neg (hold w h1)]⟩
  have := bi_t B2
  omega
def fr46 (M M1 : gx_M) : Prop := ∀ p, p ≠ 46 → p ≠ 47 → M1 p = M p
theorem fr46_lf {M M1 : gx_M} (h : fr46 M M1) (u v : Nat) : lf M1 u v = lf M u v := by unfold lf; rw [h 45 (by decide) (by decide)]
theorem m24 (u v : Nat) : (24 : Int32) * nI u + nI v = nI (24 * u + v) := by rw [show (24 : Int32) = nI 24 by decide, pk_mul, nI_add]
set_option maxRecDepth 100000 in
set_option maxHeartbeats 4000000 in
theorem l63_in {X : gx_X} {M0 : gx_M} {P : Option Value → gx_M → Prop} {h v : Nat} (hv : v < 24) (hh : h < 24)
    (hP : ∀ M rk t, fr46 M0 M → bi M rk (h + 1) t → gx_OK X 63 42 [.ref 34, .int (nI (h + 1)), .int (nI t), .int (nI v), .int (nI 24)] [] M P) :
    ∀ (d u t : Nat) (M : gx_M) (rk : Nat → Nat), u + d = 24 → fr46 M0 M → bi M rk h t → rk v = h → M 46 v ≠ -1 → (∀ x, x < u → 0 < lf M v x → M 46 x ≠ -1) → gx_OK X 63 70 [.ref 34, .int (nI (h + 1)), .int (nI t), .int (nI v), .int (nI u)] [] M P := by
  intro d
  induction d with
  | zero =>
    intro u t M rk hu F B hr hvn hdone
    have hu : u = 24 := by omega
    subst hu
    refine gx_wp_ok 40 false _ _ _ _ ?_
    simp only [gx_w_np, gx_w_p, ne_eq, not_false_eq_true, gx_wp, gx_step, gx_cnd, gb0, gb1, Classical.not_not, List.getD_cons_zero, List.getD_cons_succ, List.set_cons_zero, List.set_cons_succ, List.length_cons, List.length_nil, Nat.reduceAdd, Nat.reduceLT, Nat.reduceLeDiff, Nat.reduceEqDiff, Bool.and_false, Bool.and_true, Bool.true_and, Bool.false_and, Bool.false_eq_true, if_false, if_true, ite_true, ite_false, Fin.isValue, Fin.val_zero, Fin.val_one, Fin.val_two, gz0, gz1, gz2, gz3, List.take_succ_cons, List.take_zero, List.drop_succ_cons, List.drop_zero, List.reverse_cons, List.reverse_nil, List.nil_append, List.cons_append, gx_nx, Int32.reduceToInt, Int.reduceToNat, Int.toNat_zero, Int.toNat_one, Int.reduceLT, Int.reduceLE, Int.ofNat_zero, Int.reduceNeg, Int.le_refl, and_self, List.getElem?_cons_zero, List.getElem?_cons_succ, true_and, and_true, Nat.reduceSub, List.replicate, List.append_nil, Nat.reduceLeDiff, Nat.le_add_left, Nat.zero_le, Nat.zero_add, gf4_41, gf4_44, gf4_47, gk_bipush_22, gk_bipush_23, gk_bipush_24, gk_iconst_0, gk_iconst_1, gk_iconst_m1, gn63, gr63, gv63, gi63_0, gi63_1, gi63_2, gi63_3, gi63_5, gi63_8, gi63_9, gi63_12, gi63_13, gi63_14, gi63_15, gi63_18, gi63_21, gi63_22, gi63_25, gi63_27, gi63_29, gi63_30, gi63_31, gi63_34, gi63_35, gi63_37, gi63_38, gi63_39, gi63_40, gi63_41, gi63_42, gi63_43, gi63_44, gi63_47, gi63_48, gi63_51, gi63_53, gi63_54, gi63_57, gi63_58, gi63_61, gi63_62, gi63_63, gi63_64, gi63_67, gi63_68, gi63_70, gi63_72, gi63_74, gi63_77, gi63_78, gi63_81, gi63_83, gi63_84, gi63_87, gi63_88, gi63_91, gi63_93, gi63_94, gi63_95, gi63_97, gi63_98, gi63_99, gi63_102, gi63_103, gi63_106, gi63_108, gi63_109, gi63_110, gi63_111, gi63_114, gi63_115, gi63_117, gi63_118, gi63_121, gi63_124, gi63_127, gi63_130, gi63_131, gi63_134, gi63_136, gi63_137, gi63_140, gi63_141, gi63_144, gi63_145, gl0, gl1, gl2, gl3, gl4, gl5, gl6, gl7, gl8, gl9, gl10, gl11, gl12, gl13, gl14, gl15, gl16, gl17, gl18, gl19, gl20, gl21, gl22, gl23, gl24, gl25, gl26, gl27, gl28, gl29, gl30, gl31, gl32, gl33, gl34, gl35, gl36, gl37, gl38, gl39, gl40, gl41, gl42, gl43, gl44, gl45, gl46, gl47, gl48, gl49, gl50, gl51, gl52, gl53, gl54, gl55, gl56, gl57]
    simp (disch := first | decide | omega) only [gx_w_np, gx_w_p, Int32.reduceToInt, Int.toNat_natCast, if_true, if_false, nI_1, nI_pred, i_nI, ite_true, ite_false, Int.reduceToNat, Nat.reduceEqDiff, Nat.reduceAdd, i_le]
    refine ⟨fun _ => hP M rk t F ⟨B.1, B.2.1, B.2.2.1, B.2.2.2.1, B.2.2.2.2.1, fun w hw h1 h2 x hx h3 => ?_⟩, fun q => absurd (by omega) q⟩
    by_cases z : rk w < h
    · exact B.2.2.2.2.2 w hw h1 z x hx h3
    · have e1 : rk w = h := by omega
      have a := (B.2.2.1 w hw h1).2
      have b := (B.2.2.1 v hv hvn).2
      rw [e1] at a
      rw [hr, a] at b
      have := nI_inj (by omega) (by omega) b
      subst this
      exact hdone x hx h3
  | succ d ih =>
    intro u t M rk hu F B hr hvn hdone
    have ht24 := bi_t B
    refine gx_wp_ok 40 false _ _ _ _ ?_
    simp only [gx_w_np, gx_w_p, ne_eq, not_false_eq_true, gx_wp, gx_step, gx_cnd, gb0, gb1, Classical.not_not, List.getD_cons_zero, List.getD_cons_succ, List.set_cons_zero, List.set_cons_succ, List.length_cons, List.length_nil, Nat.reduceAdd, Nat.reduceLT, Nat.reduceLeDiff, Nat.reduceEqDiff, Bool.and_false, Bool.and_true, Bool.true_and, Bool.false_and, Bool.false_eq_true, if_false, if_true, ite_true, ite_false, Fin.isValue, Fin.val_zero, Fin.val_one, Fin.val_two, gz0, gz1, gz2, gz3, List.take_succ_cons, List.take_zero, List.drop_succ_cons, List.drop_zero, List.reverse_cons, List.reverse_nil, List.nil_append, List.cons_append, gx_nx, Int32.reduceToInt, Int.reduceToNat, Int.toNat_zero, Int.toNat_one, Int.reduceLT, Int.reduceLE, Int.ofNat_zero, Int.reduceNeg, Int.le_refl, and_self, List.getElem?_cons_zero, List.getElem?_cons_succ, true_and, and_true, Nat.reduceSub, List.replicate, List.append_nil, Nat.reduceLeDiff, Nat.le_add_left, Nat.zero_le, Nat.zero_add, gf4_41, gf4_44, gf4_47, gk_bipush_22, gk_bipush_23, gk_bipush_24, gk_iconst_0, gk_iconst_1, gk_iconst_m1, gn63, gr63, gv63, gi63_0, gi63_1, gi63_2, gi63_3, gi63_5, gi63_8, gi63_9, gi63_12, gi63_13, gi63_14, gi63_15, gi63_18, gi63_21, gi63_22, gi63_25, gi63_27, gi63_29, gi63_30, gi63_31, gi63_34, gi63_35, gi63_37, gi63_38, gi63_39, gi63_40, gi63_41, gi63_42, gi63_43, gi63_44, gi63_47, gi63_48, gi63_51, gi63_53, gi63_54, gi63_57, gi63_58, gi63_61, gi63_62, gi63_63, gi63_64, gi63_67, gi63_68, gi63_70, gi63_72, gi63_74, gi63_77, gi63_78, gi63_81, gi63_83, gi63_84, gi63_87, gi63_88, gi63_91, gi63_93, gi63_94, gi63_95, gi63_97, gi63_98, gi63_99, gi63_102, gi63_103, gi63_106, gi63_108, gi63_109, gi63_110, gi63_111, gi63_114, gi63_115, gi63_117, gi63_118, gi63_121, gi63_124, gi63_127, gi63_130, gi63_131, gi63_134, gi63_136, gi63_137, gi63_140, gi63_141, gi63_144, gi63_145, gl0, gl1, gl2, gl3, gl4, gl5, gl6, gl7, gl8, gl9, gl10, gl11, gl12, gl13, gl14, gl15, gl16, gl17, gl18, gl19, gl20, gl21, gl22, gl23, gl24, gl25, gl26, gl27, gl28, gl29, gl30, gl31, gl32, gl33, gl34, gl35, gl36, gl37, gl38, gl39, gl40, gl41, gl42, gl43, gl44, gl45, gl46, gl47, gl48, gl49, gl50, gl51, gl52, gl53, gl54, gl55, gl56, gl57]
    simp (disch := first | decide | omega) only [m24, gx_w_np, gx_w_p, Int32.reduceToInt, Int.toNat_natCast, if_true, if_false, nI_1, nI_pred, i_nI, ite_true, ite_false, Int.reduceToNat, Nat.reduceEqDiff, Nat.reduceAdd, i_le, i_lt]
    have hs := bi_sign B (v := u) (by omega)
    refine ⟨fun q => absurd q (by omega), fun _ => ⟨by omega, fun q => ?_, fun q => ⟨by omega, fun q2 => ?_, fun q2 => ?_⟩⟩⟩
    · refine ih (u + 1) t M rk (by omega) F B hr hvn (fun x hx h1 => ?_)
      by_cases z : x = u
      · subst z
        intro e
        have := hs.mpr e
        omega
      · exact hdone x (by omega) h1
    · refine ih (u + 1) t M rk (by omega) F B hr hvn (fun x hx h1 => ?_)
      by_cases z : x = u
      · subst z
        unfold lf at h1
        omega
      · exact hdone x (by omega) h1
    · have hn : M 46 u = -1 := hs.mp (by omega)
      obtain ⟨B2, ht, hold⟩ := bi_push B hv (by omega : u < 24) hn hvn (by unfold lf; omega) hr
      refine ⟨by omega, by omega, ih (u + 1) (t + 1) _ _ (by omega) (fun p h1 h2 => ?_) B2 ?_ ?_ (fun x hx h1 => ?_)⟩
      · rw [← F p h1 h2]; funext j; rw [gx_w_np h2, gx_w_np h1]
      · show (if v = u then t else rk v) = h
        rw [if_neg (fun z => hvn (by rw [z]; exact hn))]; exact hr
      · rw [hold v hv hvn]; exact hvn
      · rw [gx_w_np (by decide), gx_w_p]
        by_cases z : x = u
        · rw [if_pos z]; exact nI_m1 (by omega)
        · rw [if_neg z]
          refine hdone x (by omega) ?_
          unfold lf at h1 ⊢
          rw [gx_w_np (by decide), gx_w_np (by decide)] at h1
          exact h1
set_option maxRecDepth 100000 in
set_option maxHeartbeats 4000000 in
theorem l63_out {X : gx_X} {M0 : gx_M} {P : Option Value → gx_M → Prop}
    (h0 : ∀ M1, fr46 M0 M1 → (∃ S : Nat → Bool, S 22 = true ∧ S 23 = false ∧ ∀ u v, u < 24 → v < 24 → S u = true → 0 < lf M0 u v → S v = true) → P (some (.int 0)) M1)
    (h1 : ∀ M1 rk, fr46 M0 M1 → fw M1 rk → P (some (.int 1)) M1) :
    ∀ (d h t : Nat) (M : gx_M) (rk : Nat → Nat) (v3 v4 : Value), h + d = 25 → fr46 M0 M → bi M rk h t → gx_OK X 63 42 [.ref 34, .int (nI h), .int (nI t), v3, v4] [] M P := by
  intro d
  induction d with
  | zero =>
    intro h t M rk v3 v4 hd F B
    have ht := bi_t B
    have hs := bi_sign B (v := 23) (by omega)
    refine gx_wp_ok 40 false _ _ _ _ ?_
    simp only [gx_w_np, gx_w_p, ne_eq, not_false_eq_true, gx_wp, gx_step, gx_cnd, gb0, gb1, Classical.not_not, List.getD_cons_zero, List.getD_cons_succ, List.set_cons_zero, List.set_cons_succ, List.length_cons, List.length_nil, Nat.reduceAdd, Nat.reduceLT, Nat.reduceLeDiff, Nat.reduceEqDiff, Bool.and_false, Bool.and_true, Bool.true_and, Bool.false_and, Bool.false_eq_true, if_false, if_true, ite_true, ite_false, Fin.isValue, Fin.val_zero, Fin.val_one, Fin.val_two, gz0, gz1, gz2, gz3, List.take_succ_cons, List.take_zero, List.drop_succ_cons, List.drop_zero, List.reverse_cons, List.reverse_nil, List.nil_append, List.cons_append, gx_nx, Int32.reduceToInt, Int.reduceToNat, Int.toNat_zero, Int.toNat_one, Int.reduceLT, Int.reduceLE, Int.ofNat_zero, Int.reduceNeg, Int.le_refl, and_self, List.getElem?_cons_zero, List.getElem?_cons_succ, true_and, and_true, Nat.reduceSub, List.replicate, List.append_nil, Nat.reduceLeDiff, Nat.le_add_left, Nat.zero_le, Nat.zero_add, gf4_41, gf4_44, gf4_47, gk_bipush_22, gk_bipush_23, gk_bipush_24, gk_iconst_0, gk_iconst_1, gk_iconst_m1, gn63, gr63, gv63, gi63_0, gi63_1, gi63_2, gi63_3, gi63_5, gi63_8, gi63_9, gi63_12, gi63_13, gi63_14, gi63_15, gi63_18, gi63_21, gi63_22, gi63_25, gi63_27, gi63_29, gi63_30, gi63_31, gi63_34, gi63_35, gi63_37, gi63_38, gi63_39, gi63_40, gi63_41, gi63_42, gi63_43, gi63_44, gi63_47, gi63_48, gi63_51, gi63_53, gi63_54, gi63_57, gi63_58, gi63_61, gi63_62, gi63_63, gi63_64, gi63_67, gi63_68, gi63_70, gi63_72, gi63_74, gi63_77, gi63_78, gi63_81, gi63_83, gi63_84, gi63_87, gi63_88, gi63_91, gi63_93, gi63_94, gi63_95, gi63_97, gi63_98, gi63_99, gi63_102, gi63_103, gi63_106, gi63_108, gi63_109, gi63_110, gi63_111, gi63_114, gi63_115, gi63_117, gi63_118, gi63_121, gi63_124, gi63_127, gi63_130, gi63_131, gi63_134, gi63_136, gi63_137, gi63_140, gi63_141, gi63_144, gi63_145, gl0, gl1, gl2, gl3, gl4, gl5, gl6, gl7, gl8, gl9, gl10, gl11, gl12, gl13, gl14, gl15, gl16, gl17, gl18, gl19, gl20, gl21, gl22, gl23, gl24, gl25, gl26, gl27, gl28, gl29, gl30, gl31, gl32, gl33, gl34, gl35, gl36, gl37, gl38, gl39, gl40, gl41, gl42, gl43, gl44, gl45, gl46, gl47, gl48, gl49, gl50, gl51, gl52, gl53, gl54, gl55, gl56, gl57]
    simp (disch := first | decide | omega) only [gx_w_np, gx_w_p, Int32.reduceToInt, Int.toNat_natCast, if_true, if_false, nI_1, nI_pred, i_nI, ite_true, ite_false, Int.reduceToNat, Nat.reduceEqDiff, Nat.reduceAdd, i_le, i_lt]
    refine ⟨fun _ => ⟨by omega, fun q => h0 M F ⟨fun v => decide (M 46 v ≠ -1), ?_, ?_, fun u v hu hv a b => ?_⟩, fun q => h1 M rk F ⟨?_, B.2.2.2.2.1⟩⟩, fun q => absurd (by omega) q⟩
    · exact decide_eq_true (by rw [B.2.2.2.1]; exact nI_m1 (by omega))
    · exact decide_eq_false (fun z => z (hs.mp (by omega)))
    · have a := of_decide_eq_true a
      rw [← fr46_lf F] at b
      exact decide_eq_true (B.2.2.2.2.2 u hu a (by have := (B.2.2.1 u hu a).1; omega) v hv b)
    · intro z; have := hs.mpr z; omega
  | succ d ih =>
    intro h t M rk v3 v4 hd F B
    have ht := bi_t B
    have hs := bi_sign B (v := 23) (by omega)
    refine gx_wp_ok 40 false _ _ _ _ ?_
    simp only [gx_w_np, gx_w_p, ne_eq, not_false_eq_true, gx_wp, gx_step, gx_cnd, gb0, gb1, Classical.not_not, List.getD_cons_zero, List.getD_cons_succ, List.set_cons_zero, List.set_cons_succ, List.length_cons, List.length_nil, Nat.reduceAdd, Nat.reduceLT, Nat.reduceLeDiff, Nat.reduceEqDiff, Bool.and_false, Bool.and_true, Bool.true_and, Bool.false_and, Bool.false_eq_true, if_false, if_true, ite_true, ite_false, Fin.isValue, Fin.val_zero, Fin.val_one, Fin.val_two, gz0, gz1, gz2, gz3, List.take_succ_cons, List.take_zero, List.drop_succ_cons, List.drop_zero, List.reverse_cons, List.reverse_nil, List.nil_append, List.cons_append, gx_nx, Int32.reduceToInt, Int.reduceToNat, Int.toNat_zero, Int.toNat_one, Int.reduceLT, Int.reduceLE, Int.ofNat_zero, Int.reduceNeg, Int.le_refl, and_self, List.getElem?_cons_zero, List.getElem?_cons_succ, true_and, and_true, Nat.reduceSub, List.replicate, List.append_nil, Nat.reduceLeDiff, Nat.le_add_left, Nat.zero_le, Nat.zero_add, gf4_41, gf4_44, gf4_47, gk_bipush_22, gk_bipush_23, gk_bipush_24, gk_iconst_0, gk_iconst_1, gk_iconst_m1, gn63, gr63, gv63, gi63_0, gi63_1, gi63_2, gi63_3, gi63_5, gi63_8, gi63_9, gi63_12, gi63_13, gi63_14, gi63_15, gi63_18, gi63_21, gi63_22, gi63_25, gi63_27, gi63_29, gi63_30, gi63_31, gi63_34, gi63_35, gi63_37, gi63_38, gi63_39, gi63_40, gi63_41, gi63_42, gi63_43, gi63_44, gi63_47, gi63_48, gi63_51, gi63_53, gi63_54, gi63_57, gi63_58, gi63_61, gi63_62, gi63_63, gi63_64, gi63_67, gi63_68, gi63_70, gi63_72, gi63_74, gi63_77, gi63_78, gi63_81, gi63_83, gi63_84, gi63_87, gi63_88, gi63_91, gi63_93, gi63_94, gi63_95, gi63_97, gi63_98, gi63_99, gi63_102, gi63_103, gi63_106, gi63_108, gi63_109, gi63_110, gi63_111, gi63_114, gi63_115, gi63_117, gi63_118, gi63_121, gi63_124, gi63_127, gi63_130, gi63_131, gi63_134, gi63_136, gi63_137, gi63_140, gi63_141, gi63_144, gi63_145, gl0, gl1, gl2, gl3, gl4, gl5, gl6, gl7, gl8, gl9, gl10, gl11, gl12, gl13, gl14, gl15, gl16, gl17, gl18, gl19, gl20, gl21, gl22, gl23, gl24, gl25, gl26, gl27, gl28, gl29, gl30, gl31, gl32, gl33, gl34, gl35, gl36, gl37, gl38, gl39, gl40, gl41, gl42, gl43, gl44, gl45, gl46, gl47, gl48, gl49, gl50, gl51, gl52, gl53, gl54, gl55, gl56, gl57]
    simp (disch := first | decide | omega) only [gx_w_np, gx_w_p, Int32.reduceToInt, Int.toNat_natCast, if_true, if_false, nI_1, nI_pred, i_nI, ite_true, ite_false, Int.reduceToNat, Nat.reduceEqDiff, Nat.reduceAdd, i_le, i_lt]
    have no : t ≤ h → (M 46 23).toInt < 0 → P (some (.int 0)) M := fun z q => h0 M F ⟨fun v => decide (M 46 v ≠ -1), decide_eq_true (by rw [B.2.2.2.1]; exact nI_m1 (by omega)), decide_eq_false (fun z => z (hs.mp (by omega))), fun u v hu hv a b => by
      have a := of_decide_eq_true a
      rw [← fr46_lf F] at b
      exact decide_eq_true (B.2.2.2.2.2 u hu a (by have := (B.2.2.1 u hu a).1; omega) v hv b)⟩
    have yes : ¬ (M 46 23).toInt < 0 → P (some (.int 1)) M := fun q => h1 M rk F ⟨fun z => q (hs.mpr z), B.2.2.2.2.1⟩
    refine ⟨fun q => ⟨by omega, fun q2 => no (by omega) q2, yes⟩, fun q => ⟨by omega, fun q2 => ⟨by omega, fun q3 => absurd q3 (by omega), yes⟩, fun q2 => ⟨by omega, ?_⟩⟩⟩
    obtain ⟨v, c1, c2, c3, c4⟩ := B.2.1 h (by omega)
    rw [c2, ← nI_0]
    exact l63_in c1 (by omega) (fun M2 rk2 t2 F2 B2 => ih (h + 1) t2 M2 rk2 _ _ (by omega) F2 B2) 24 0 t M rk (by omega) F B c3 c4 (fun x hx => absurd hx (by omega))
set_option maxRecDepth 100000 in
set_option maxHeartbeats 4000000 in
theorem l63_0 {X : gx_X} {P : Option Value → gx_M → Prop} {a b c : Value} : ∀ (d i : Nat) (M : gx_M), i + d = 24 → (∀ M1, (∀ p, p ≠ 46 → M1 p = M p) → (∀ j, j < i → M1 46 j = M 46 j) → (∀ j, i ≤ j → j < 24 → M1 46 j = -1) → gx_OK X 63 42 [.ref 34, .int 0, .int 1, b, c] [] (gx_w (gx_w M1 46 22 22) 47 0 22) P) → gx_OK X 63 2 [.ref 34, .int (nI i), a, b, c] [] M P := by
  intro d
  induction d with
  | zero =>
    intro i M hi hP
    refine gx_wp_ok 40 false _ _ _ _ ?_
    simp only [gx_w_np, gx_w_p, ne_eq, not_false_eq_true, gx_wp, gx_step, gx_cnd, gb0, gb1, Classical.not_not, List.getD_cons_zero, List.getD_cons_succ, List.set_cons_zero, List.set_cons_succ, List.length_cons, List.length_nil, Nat.reduceAdd, Nat.reduceLT, Nat.reduceLeDiff, Nat.reduceEqDiff, Bool.and_false, Bool.and_true, Bool.true_and, Bool.false_and, Bool.false_eq_true, if_false, if_true, ite_true, ite_false, Fin.isValue, Fin.val_zero, Fin.val_one, Fin.val_two, gz0, gz1, gz2, gz3, List.take_succ_cons, List.take_zero, List.drop_succ_cons, List.drop_zero, List.reverse_cons, List.reverse_nil, List.nil_append, List.cons_append, gx_nx, Int32.reduceToInt, Int.reduceToNat, Int.toNat_zero, Int.toNat_one, Int.reduceLT, Int.reduceLE, Int.ofNat_zero, Int.reduceNeg, Int.le_refl, and_self, List.getElem?_cons_zero, List.getElem?_cons_succ, true_and, and_true, Nat.reduceSub, List.replicate, List.append_nil, Nat.reduceLeDiff, Nat.le_add_left, Nat.zero_le, Nat.zero_add, gf4_41, gf4_44, gf4_47, gk_bipush_22, gk_bipush_23, gk_bipush_24, gk_iconst_0, gk_iconst_1, gk_iconst_m1, gn63, gr63, gv63, gi63_0, gi63_1, gi63_2, gi63_3, gi63_5, gi63_8, gi63_9, gi63_12, gi63_13, gi63_14, gi63_15, gi63_18, gi63_21, gi63_22, gi63_25, gi63_27, gi63_29, gi63_30, gi63_31, gi63_34, gi63_35, gi63_37, gi63_38, gi63_39, gi63_40, gi63_41, gi63_42, gi63_43, gi63_44, gi63_47, gi63_48, gi63_51, gi63_53, gi63_54, gi63_57, gi63_58, gi63_61, gi63_62, gi63_63, gi63_64, gi63_67, gi63_68, gi63_70, gi63_72, gi63_74, gi63_77, gi63_78, gi63_81, gi63_83, gi63_84, gi63_87, gi63_88, gi63_91, gi63_93, gi63_94, gi63_95, gi63_97, gi63_98, gi63_99, gi63_102, gi63_103, gi63_106, gi63_108, gi63_109, gi63_110, gi63_111, gi63_114, gi63_115, gi63_117, gi63_118, gi63_121, gi63_124, gi63_127, gi63_130, gi63_131, gi63_134, gi63_136, gi63_137, gi63_140, gi63_141, gi63_144, gi63_145, gl0, gl1, gl2, gl3, gl4, gl5, gl6, gl7, gl8, gl9, gl10, gl11, gl12, gl13, gl14, gl15, gl16, gl17, gl18, gl19, gl20, gl21, gl22, gl23, gl24, gl25, gl26, gl27, gl28, gl29, gl30, gl31, gl32, gl33, gl34, gl35, gl36, gl37, gl38, gl39, gl40, gl41, gl42, gl43, gl44, gl45, gl46, gl47, gl48, gl49, gl50, gl51, gl52, gl53, gl54, gl55, gl56, gl57]
    simp (disch := first | decide | omega) only [gx_w_np, gx_w_p, Int32.reduceToInt, Int.toNat_natCast, if_true, if_false, nI_1, nI_pred, i_nI, ite_true, ite_false, Int.reduceToNat, Nat.reduceEqDiff, Nat.reduceAdd, i_le]
    exact ⟨fun _ => ⟨by omega, by omega, hP M (fun _ _ => rfl) (fun _ _ => rfl) (fun j x y => absurd y (by omega))⟩, fun q => absurd (by omega) q⟩
  | succ d ih =>
    intro i M hi hP
    refine gx_wp_ok 40 false _ _ _ _ ?_
    simp only [gx_w_np, gx_w_p, ne_eq, not_false_eq_true, gx_wp, gx_step, gx_cnd, gb0, gb1, Classical.not_not, List.getD_cons_zero, List.getD_cons_succ, List.set_cons_zero, List.set_cons_succ, List.length_cons, List.length_nil, Nat.reduceAdd, Nat.reduceLT, Nat.reduceLeDiff, Nat.reduceEqDiff, Bool.and_false, Bool.and_true, Bool.true_and, Bool.false_and, Bool.false_eq_true, if_false, if_true, ite_true, ite_false, Fin.isValue, Fin.val_zero, Fin.val_one, Fin.val_two, gz0, gz1, gz2, gz3, List.take_succ_cons, List.take_zero, List.drop_succ_cons, List.drop_zero, List.reverse_cons, List.reverse_nil, List.nil_append, List.cons_append, gx_nx, Int32.reduceToInt, Int.reduceToNat, Int.toNat_zero, Int.toNat_one, Int.reduceLT, Int.reduceLE, Int.ofNat_zero, Int.reduceNeg, Int.le_refl, and_self, List.getElem?_cons_zero, List.getElem?_cons_succ, true_and, and_true, Nat.reduceSub, List.replicate, List.append_nil, Nat.reduceLeDiff, Nat.le_add_left, Nat.zero_le, Nat.zero_add, gf4_41, gf4_44, gf4_47, gk_bipush_22, gk_bipush_23, gk_bipush_24, gk_iconst_0, gk_iconst_1, gk_iconst_m1, gn63, gr63, gv63, gi63_0, gi63_1, gi63_2, gi63_3, gi63_5, gi63_8, gi63_9, gi63_12, gi63_13, gi63_14, gi63_15, gi63_18, gi63_21, gi63_22, gi63_25, gi63_27, gi63_29, gi63_30, gi63_31, gi63_34, gi63_35, gi63_37, gi63_38, gi63_39, gi63_40, gi63_41, gi63_42, gi63_43, gi63_44, gi63_47, gi63_48, gi63_51, gi63_53, gi63_54, gi63_57, gi63_58, gi63_61, gi63_62, gi63_63, gi63_64, gi63_67, gi63_68, gi63_70, gi63_72, gi63_74, gi63_77, gi63_78, gi63_81, gi63_83, gi63_84, gi63_87, gi63_88, gi63_91, gi63_93, gi63_94, gi63_95, gi63_97, gi63_98, gi63_99, gi63_102, gi63_103, gi63_106, gi63_108, gi63_109, gi63_110, gi63_111, gi63_114, gi63_115, gi63_117, gi63_118, gi63_121, gi63_124, gi63_127, gi63_130, gi63_131, gi63_134, gi63_136, gi63_137, gi63_140, gi63_141, gi63_144, gi63_145, gl0, gl1, gl2, gl3, gl4, gl5, gl6, gl7, gl8, gl9, gl10, gl11, gl12, gl13, gl14, gl15, gl16, gl17, gl18, gl19, gl20, gl21, gl22, gl23, gl24, gl25, gl26, gl27, gl28, gl29, gl30, gl31, gl32, gl33, gl34, gl35, gl36, gl37, gl38, gl39, gl40, gl41, gl42, gl43, gl44, gl45, gl46, gl47, gl48, gl49, gl50, gl51, gl52, gl53, gl54, gl55, gl56, gl57]
    simp (disch := first | decide | omega) only [gx_w_np, gx_w_p, Int32.reduceToInt, Int.toNat_natCast, if_true, if_false, nI_1, nI_pred, i_nI, ite_true, ite_false, Int.reduceToNat, Nat.reduceEqDiff, Nat.reduceAdd, i_le]
    refine ⟨fun q => absurd q (by omega), fun _ => ⟨by omega, ih (i + 1) _ (by omega) (fun M1 x y z => hP M1 (fun p hp => ?_) (fun j hj => ?_) (fun j hj hn => ?_))⟩⟩
    · rw [x p hp]; funext j; rw [gx_w_np hp]
    · rw [y j (by omega), gx_w_p, if_neg (by omega)]
    · by_cases e : j = i
      · rw [e, y i (by omega), gx_w_p, if_pos rfl]
      · exact z j (by omega) hn
set_option maxRecDepth 100000 in
set_option maxHeartbeats 4000000 in
theorem sr_findWay {X : gx_X} {M : gx_M} {P : Option Value → gx_M → Prop}
    (h0 : ∀ M1, fr46 M M1 → (∃ S : Nat → Bool, S 22 = true ∧ S 23 = false ∧ ∀ u v, u < 24 → v < 24 → S u = true → 0 < lf M u v → S v = true) → P (some (.int 0)) M1)
    (h1 : ∀ M1 rk, fr46 M M1 → fw M1 rk → P (some (.int 1)) M1) : gx_C X 63 [.ref 34] M P := by
  refine gx_C_wp 40 ?_
  simp only [gx_w_np, gx_w_p, ne_eq, not_false_eq_true, gx_wp, gx_step, gx_cnd, gb0, gb1, Classical.not_not, List.getD_cons_zero, List.getD_cons_succ, List.set_cons_zero, List.set_cons_succ, List.length_cons, List.length_nil, Nat.reduceAdd, Nat.reduceLT, Nat.reduceLeDiff, Nat.reduceEqDiff, Bool.and_false, Bool.and_true, Bool.true_and, Bool.false_and, Bool.false_eq_true, if_false, if_true, ite_true, ite_false, Fin.isValue, Fin.val_zero, Fin.val_one, Fin.val_two, gz0, gz1, gz2, gz3, List.take_succ_cons, List.take_zero, List.drop_succ_cons, List.drop_zero, List.reverse_cons, List.reverse_nil, List.nil_append, List.cons_append, gx_nx, Int32.reduceToInt, Int.reduceToNat, Int.toNat_zero, Int.toNat_one, Int.reduceLT, Int.reduceLE, Int.ofNat_zero, Int.reduceNeg, Int.le_refl, and_self, List.getElem?_cons_zero, List.getElem?_cons_succ, true_and, and_true, Nat.reduceSub, List.replicate, List.append_nil, Nat.reduceLeDiff, Nat.le_add_left, Nat.zero_le, Nat.zero_add, gf4_41, gf4_44, gf4_47, gk_bipush_22, gk_bipush_23, gk_bipush_24, gk_iconst_0, gk_iconst_1, gk_iconst_m1, gn63, gr63, gv63, gi63_0, gi63_1, gi63_2, gi63_3, gi63_5, gi63_8, gi63_9, gi63_12, gi63_13, gi63_14, gi63_15, gi63_18, gi63_21, gi63_22, gi63_25, gi63_27, gi63_29, gi63_30, gi63_31, gi63_34, gi63_35, gi63_37, gi63_38, gi63_39, gi63_40, gi63_41, gi63_42, gi63_43, gi63_44, gi63_47, gi63_48, gi63_51, gi63_53, gi63_54, gi63_57, gi63_58, gi63_61, gi63_62, gi63_63, gi63_64, gi63_67, gi63_68, gi63_70, gi63_72, gi63_74, gi63_77, gi63_78, gi63_81, gi63_83, gi63_84, gi63_87, gi63_88, gi63_91, gi63_93, gi63_94, gi63_95, gi63_97, gi63_98, gi63_99, gi63_102, gi63_103, gi63_106, gi63_108, gi63_109, gi63_110, gi63_111, gi63_114, gi63_115, gi63_117, gi63_118, gi63_121, gi63_124, gi63_127, gi63_130, gi63_131, gi63_134, gi63_136, gi63_137, gi63_140, gi63_141, gi63_144, gi63_145, gl0, gl1, gl2, gl3, gl4, gl5, gl6, gl7, gl8, gl9, gl10, gl11, gl12, gl13, gl14, gl15, gl16, gl17, gl18, gl19, gl20, gl21, gl22, gl23, gl24, gl25, gl26, gl27, gl28, gl29, gl30, gl31, gl32, gl33, gl34, gl35, gl36, gl37, gl38, gl39, gl40, gl41, gl42, gl43, gl44, gl45, gl46, gl47, gl48, gl49, gl50, gl51, gl52, gl53, gl54, gl55, gl56, gl57]
  rw [← nI_0]
  refine l63_0 24 0 M (by omega) (fun M1 x y z => ?_)
  have e1 : (1 : Int32) = nI 1 := by decide
  have e22 : (22 : Int32) = nI 22 := by decide
  rw [e1, ← nI_0, e22]
  have q46 : ∀ w, (gx_w (gx_w M1 46 22 (nI 22)) 47 0 (nI 22)) 46 w = if w = 22 then nI 22 else M1 46 w := fun w => by rw [gx_w_np (by decide), gx_w_p]
  have only : ∀ w, w < 24 → (gx_w (gx_w M1 46 22 (nI 22)) 47 0 (nI 22)) 46 w ≠ -1 → w = 22 := fun w hw h => by
    by_cases q : w = 22
    · exact q
    · rw [q46, if_neg q] at h
      exact absurd (z w (by omega) hw) h
  have m22 : (gx_w (gx_w M1 46 22 (nI 22)) 47 0 (nI 22)) 46 22 = nI 22 := by rw [q46, if_pos rfl]
  have m47 : (gx_w (gx_w M1 46 22 (nI 22)) 47 0 (nI 22)) 47 0 = nI 22 := by rw [gx_w_p, if_pos rfl]
  refine l63_out h0 h1 25 0 1 _ (fun _ => 0) _ _ (by omega) (fun p h1 h2 => ?_) ⟨by omega, fun i hi => ⟨22, by omega, ?_, (show (0 : Nat) = i by omega), by rw [m22]; exact nI_m1 (by omega)⟩, fun v hv h => ⟨(show (0 : Nat) < 1 by omega), ?_⟩, m22, fun v hv h h2 => absurd (only v hv h) h2, fun v hv h h2 => absurd h2 (by omega)⟩
  · rw [← x p h1]; funext j; rw [gx_w_np h2, gx_w_np h1]
  · rw [show i = 0 by omega]; exact m47
  · rw [only v hv h]; exact m47
