/-! The first flow of a way. -/
set_option maxRecDepth 100000 in
set_option maxHeartbeats 4000000 in
theorem sp_carry0 {X : gx_X} {M : gx_M} {a b : Int32} {P : Option Value → gx_M → Prop} (k : P (some (.int 0)) M) : gx_C X 17 [.ref 2, .int a, .int b, .int 0] M P := by
  refine gx_C_wp 60 ?_
  simp only [gx_w_np, gx_w_p, ne_eq, not_false_eq_true, gx_wp, gx_step, gx_cnd, gb0, gb1, Classical.not_not, List.getD_cons_zero, List.getD_cons_succ, List.set_cons_zero, List.set_cons_succ, List.length_cons, List.length_nil, Nat.reduceAdd, Nat.reduceLT, Nat.reduceLeDiff, Nat.reduceEqDiff, Bool.and_false, Bool.and_true, Bool.true_and, Bool.false_and, Bool.false_eq_true, if_false, if_true, ite_true, ite_false, Fin.isValue, Fin.val_zero, Fin.val_one, Fin.val_two, gz0, gz1, gz2, gz3, List.take_succ_cons, List.take_zero, List.drop_succ_cons, List.drop_zero, List.reverse_cons, List.reverse_nil, List.nil_append, List.cons_append, gx_nx, Int32.reduceToInt, Int.reduceToNat, Int.toNat_zero, Int.toNat_one, Int.reduceLT, Int.reduceLE, Int.ofNat_zero, Int.reduceNeg, Int.le_refl, and_self, List.getElem?_cons_zero, List.getElem?_cons_succ, true_and, and_true, Nat.reduceSub, List.replicate, List.append_nil, Nat.reduceLeDiff, Nat.le_add_left, Nat.zero_le, Nat.zero_add, gk_iconst_0, gk_iconst_1, gm1_63, gm1_72, gm1_76, gm1_80, gn103, gn17, gn18, gn19, gn20, gr103, gr17, gr18, gr19, gr20, gv17, gi17_0, gi17_1, gi17_3, gi17_4, gi17_6, gi17_8, gi17_9, gi17_12, gi17_14, gi17_15, gi17_18, gi17_19, gi17_20, gi17_21, gi17_24, gi17_27, gi17_30, gi17_31, gi17_33, gi17_34, gi17_35, gi17_36, gi17_39, gi17_42, gi17_44, gi17_45, gi17_46, gi17_48, gi17_51, gi17_53, gi17_55, gi17_56, gi17_58, gi17_61, gi17_64, gi17_66, gl0, gl1, gl2, gl3, gl4, gl5, gl6, gl7, gl8, gl9, gl10, gl11, gl12, gl13, gl14, gl15, gl16, gl17, gl18, gl19, gl20, gl21, gl22, gl23, gl24, gl25, gl26, gl27, gl28, gl29, gl30, gl31, gl32, gl33, gl34, gl35, gl36, gl37, gl38, gl39, gl40, gl41, gl42, gl43, gl44, gl45, gl46, gl47, gl48, gl49, gl50, gl51, gl52, gl53, gl54, gl55, gl56, gl57]
  refine gx_wp_ok 60 false _ _ _ _ ?_
  simp only [gx_w_np, gx_w_p, ne_eq, not_false_eq_true, gx_wp, gx_step, gx_cnd, gb0, gb1, Classical.not_not, List.getD_cons_zero, List.getD_cons_succ, List.set_cons_zero, List.set_cons_succ, List.length_cons, List.length_nil, Nat.reduceAdd, Nat.reduceLT, Nat.reduceLeDiff, Nat.reduceEqDiff, Bool.and_false, Bool.and_true, Bool.true_and, Bool.false_and, Bool.false_eq_true, if_false, if_true, ite_true, ite_false, Fin.isValue, Fin.val_zero, Fin.val_one, Fin.val_two, gz0, gz1, gz2, gz3, List.take_succ_cons, List.take_zero, List.drop_succ_cons, List.drop_zero, List.reverse_cons, List.reverse_nil, List.nil_append, List.cons_append, gx_nx, Int32.reduceToInt, Int.reduceToNat, Int.toNat_zero, Int.toNat_one, Int.reduceLT, Int.reduceLE, Int.ofNat_zero, Int.reduceNeg, Int.le_refl, and_self, List.getElem?_cons_zero, List.getElem?_cons_succ, true_and, and_true, Nat.reduceSub, List.replicate, List.append_nil, Nat.reduceLeDiff, Nat.le_add_left, Nat.zero_le, Nat.zero_add, gk_iconst_0, gk_iconst_1, gm1_63, gm1_72, gm1_76, gm1_80, gn103, gn17, gn18, gn19, gn20, gr103, gr17, gr18, gr19, gr20, gv17, gi17_0, gi17_1, gi17_3, gi17_4, gi17_6, gi17_8, gi17_9, gi17_12, gi17_14, gi17_15, gi17_18, gi17_19, gi17_20, gi17_21, gi17_24, gi17_27, gi17_30, gi17_31, gi17_33, gi17_34, gi17_35, gi17_36, gi17_39, gi17_42, gi17_44, gi17_45, gi17_46, gi17_48, gi17_51, gi17_53, gi17_55, gi17_56, gi17_58, gi17_61, gi17_64, gi17_66, gl0, gl1, gl2, gl3, gl4, gl5, gl6, gl7, gl8, gl9, gl10, gl11, gl12, gl13, gl14, gl15, gl16, gl17, gl18, gl19, gl20, gl21, gl22, gl23, gl24, gl25, gl26, gl27, gl28, gl29, gl30, gl31, gl32, gl33, gl34, gl35, gl36, gl37, gl38, gl39, gl40, gl41, gl42, gl43, gl44, gl45, gl46, gl47, gl48, gl49, gl50, gl51, gl52, gl53, gl54, gl55, gl56, gl57]
  exact ⟨fun _ => k, fun q => absurd (by decide) q⟩
set_option maxRecDepth 100000 in
set_option maxHeartbeats 4000000 in
theorem sp_lower0 {X : gx_X} {M : gx_M} {e : Nat} {P : Option Value → gx_M → Prop} (he : e < 61) (h : M 15 e = M 11 e)
    (hP : ∀ M2, (∀ p, p ≠ 16 → M2 p = M p) → (∀ j, M2 16 j = if j = e then 0 else M 16 j) → P none M2) : gx_C X 16 [.ref 2, .int (nI e)] M P := by
  refine gx_C_wp 60 ?_
  simp only [gx_w_np, gx_w_p, ne_eq, not_false_eq_true, gx_wp, gx_step, gx_cnd, gb0, gb1, Classical.not_not, List.getD_cons_zero, List.getD_cons_succ, List.set_cons_zero, List.set_cons_succ, List.length_cons, List.length_nil, Nat.reduceAdd, Nat.reduceLT, Nat.reduceLeDiff, Nat.reduceEqDiff, Bool.and_false, Bool.and_true, Bool.true_and, Bool.false_and, Bool.false_eq_true, if_false, if_true, ite_true, ite_false, Fin.isValue, Fin.val_zero, Fin.val_one, Fin.val_two, gz0, gz1, gz2, gz3, List.take_succ_cons, List.take_zero, List.drop_succ_cons, List.drop_zero, List.reverse_cons, List.reverse_nil, List.nil_append, List.cons_append, gx_nx, Int32.reduceToInt, Int.reduceToNat, Int.toNat_zero, Int.toNat_one, Int.reduceLT, Int.reduceLE, Int.ofNat_zero, Int.reduceNeg, Int.le_refl, and_self, List.getElem?_cons_zero, List.getElem?_cons_succ, true_and, and_true, Nat.reduceSub, List.replicate, List.append_nil, Nat.reduceLeDiff, Nat.le_add_left, Nat.zero_le, Nat.zero_add, gf1_18, gf1_21, gf1_24, gf1_27, gf1_9, gk_iconst_0, gk_iconst_1, gm1_68, gn16, gn17, gr16, gr17, gv16, gi16_0, gi16_1, gi16_4, gi16_5, gi16_6, gi16_7, gi16_8, gi16_11, gi16_12, gi16_13, gi16_14, gi16_15, gi16_16, gi16_19, gi16_20, gi16_21, gi16_22, gi16_25, gi16_26, gi16_27, gi16_28, gi16_31, gi16_32, gi16_33, gi16_34, gi16_37, gi16_38, gi16_39, gi16_40, gi16_43, gi16_44, gi16_45, gi16_46, gi16_49, gi16_50, gi16_51, gi16_52, gl0, gl1, gl2, gl3, gl4, gl5, gl6, gl7, gl8, gl9, gl10, gl11, gl12, gl13, gl14, gl15, gl16, gl17, gl18, gl19, gl20, gl21, gl22, gl23, gl24, gl25, gl26, gl27, gl28, gl29, gl30, gl31, gl32, gl33, gl34, gl35, gl36, gl37, gl38, gl39, gl40, gl41, gl42, gl43, gl44, gl45, gl46, gl47, gl48, gl49, gl50, gl51, gl52, gl53, gl54, gl55, gl56, gl57]
  simp (disch := first | decide | omega) only [gx_w_np, gx_w_p, Int32.reduceToInt, Int.toNat_natCast, if_true, if_false, nI_1, nI_pred, i_nI, ite_true, ite_false, Int.reduceToNat, Nat.reduceEqDiff, Nat.reduceAdd]
  refine ⟨by omega, by omega, by omega, by omega, by omega, by omega, ?_⟩
  have e1 : M 15 e - M 11 e = 0 := by
    rw [h, i_eq, Int32.toInt_sub, Int.sub_self]; decide
  rw [e1]
  refine sp_carry0 ?_
  intro z hz
  cases hz
  refine ⟨by omega, by omega, hP _ (fun p hp => ?_) (fun j => ?_)⟩
  · funext j
    rw [gx_w_np hp]
    by_cases z : p = 15
    · subst z
      rw [gx_w_p]
      by_cases z2 : j = e
      · rw [if_pos z2, z2, Int32.sub_zero]
      · rw [if_neg z2, gx_w_np (by decide)]
    · rw [gx_w_np z, gx_w_np hp]
  · rw [gx_w_p, gx_w_np (by decide), gx_w_p]
    by_cases z : j = e
    · rw [if_pos z, if_pos z]
    · rw [if_neg z, if_neg z, if_neg z]
/-- arcs before j are at their least, and held, with the value -/
def fj (M0 M : gx_M) (D : gD) (w j : Nat) : Prop := cs M0 M D ∧ FL D (nf M) ∧ (∀ e, e < 61 → (M 16 e ≠ 0 ↔ e = 60 ∨ e < j)) ∧
  (∀ g, FL D g → if w = 0 then g 60 ≤ nf M 60 else nf M 60 ≤ g 60) ∧ (∀ i, i < j → ∀ g, FL D g → g 60 = nf M 60 → (∀ t, t < i → g t = nf M t) → nf M i ≤ g i)
/-- one more arc -/
theorem fj_step {M0 M M2 : gx_M} {D : gD} {w j : Nat} (hj : j < 40) (J : fj M0 M D w j) (S2 : cs M0 M2 D) (F2 : FL D (nf M2)) (h16 : ∀ e, M2 16 e = if e = j then 0 else M 16 e)
    (keep : ∀ e, e < 61 → e ≠ j → M 16 e ≠ 0 → nf M2 e = nf M e) (opt : ∀ g, FL D g → (∀ e, e < 61 → e ≠ j → M 16 e ≠ 0 → g e = nf M2 e) → nf M2 j ≤ g j) : fj M0 (gx_w M2 16 j 1) D w (j + 1) := by
  obtain ⟨j1, j2, j3, j4, j5⟩ := J
  have k60 : nf M2 60 = nf M 60 := keep 60 (by omega) (by omega) ((j3 60 (by omega)).mpr (Or.inl rfl))
  have kt : ∀ t, t < j → nf M2 t = nf M t := fun t ht => keep t (by omega) (by omega) ((j3 t (by omega)).mpr (Or.inr ht))
  have en : nf (gx_w M2 16 j 1) = nf M2 := by unfold nf; funext e; rw [gx_w_np (by decide)]
  have S3 : cs M0 (gx_w M2 16 j 1) D := by
    obtain ⟨s1, s2, s3, s4, s5⟩ := S2
    have e1 : ∀ p, p ≠ 16 → (gx_w M2 16 j 1) p = M2 p := fun p hp => by funext i; rw [gx_w_np hp]
    refine ⟨fun p hp => by rw [e1 p (by omega), s1 p hp], nv_w s2, ?_, ?_, ?_⟩
    · unfold nq na nb; rw [e1 13 (by decide), e1 14 (by decide)]; exact s3
    · unfold circ nf na nb; rw [e1 13 (by decide), e1 14 (by decide), e1 15 (by decide)]; exact s4
    · unfold nD na nb nlo nhi; rw [e1 13 (by decide), e1 14 (by decide), e1 11 (by decide), e1 12 (by decide)]; exact s5
  refine ⟨S3, by rw [en]; exact F2, fun e he => ?_, fun g hg => by rw [en, k60]; exact j4 g hg, fun i hi g hg h60 ht => ?_⟩
  · rw [gx_w_p]
    by_cases z : e = j
    · rw [if_pos z]
      exact ⟨fun _ => Or.inr (by omega), fun _ => by decide⟩
    · rw [if_neg z, h16, if_neg z, j3 e he]
      constructor
      · rintro (h | h)
        · exact Or.inl h
        · exact Or.inr (by omega)
      · rintro (h | h)
        · exact Or.inl h
        · exact Or.inr (by omega)
  · rw [en] at h60 ht ⊢
    by_cases z : i = j
    · subst z
      refine opt g hg (fun e he hne hh => ?_)
      rcases (j3 e he).mp hh with h | h
      · rw [h]; exact h60
      · exact ht e h
    · rw [kt i (by omega)]
      refine j5 i (by omega) g hg (by rw [h60, k60]) (fun t htl => ?_)
      rw [ht t htl, kt t (by omega)]
theorem cs_rz {M0 M M2 : gx_M} {D : gD} {e : Nat} {c : Int} (O : gok D) (he : e < 61) (S : cs M0 M D) (F : FL D (nf M)) (R : rz M M2 e c) (h1 : nlo M e ≤ nf M e + c) (h2 : nf M e + c ≤ nhi M e) : cs M0 M2 D ∧ FL D (nf M2) := by
  obtain ⟨s1, s2, s3, s4, s5⟩ := id S
  have n0 := s2.2 e he
  have N := ns_rz (M0 := M) ⟨fun _ _ _ _ _ => rfl, s2, s3, s4⟩ R (by omega) h2
  have S2 := cs_ns S N
  refine ⟨S2, cs_FL O S2 (fun j hj => ?_)⟩
  obtain ⟨a1, a2, a3, a4⟩ := rz_na R
  rw [a3]
  by_cases z : j = e
  · rw [z, R.2.2.1]; exact h1
  · have h5 := (R.2.2.2.1 j hj z).2.1
    have h6 := ((nD_FL O s2 s5).mpr F).2 j hj
    omega
set_option maxRecDepth 100000 in
set_option maxHeartbeats 4000000 in
theorem l54 {X : gx_X} {M0 : gx_M} {n m w : Nat} {P : Option Value → gx_M → Prop} (hw : w = 0 ∨ w = 1) (W : gg_W M0 n m)
    (hP : ∀ M, fj M0 M (dC M0 n m) w m → gx_C X 11 [.ref 2, .ref (30 + w)] M fun r M1 => P (some (.ref (30 + w))) (gx_w M1 32 w 1)) :
    ∀ (d j : Nat) (M : gx_M), j + d = m → fj M0 M (dC M0 n m) w j → gx_OK X 54 63 [.ref 0, .int (nI w), .int (nI j)] [] M P := by
  have O := gok_C W
  have hm40 := W.2.2.2.1
  intro d
  induction d with
  | zero =>
    intro j M hd J
    have e8 : M 1 8 = nI m := by rw [J.1.1 1 (by omega)]; exact W.2.1
    have := hP M (by have e : j = m := by omega
                     rw [e] at J; exact J)
    rcases hw with rfl | rfl
    · rw [nI_0]
      refine gx_wp_ok 40 false _ _ _ _ ?_
      simp only [gx_w_np, gx_w_p, ne_eq, not_false_eq_true, gx_wp, gx_step, gx_cnd, gb0, gb1, Classical.not_not, List.getD_cons_zero, List.getD_cons_succ, List.set_cons_zero, List.set_cons_succ, List.length_cons, List.length_nil, Nat.reduceAdd, Nat.reduceLT, Nat.reduceLeDiff, Nat.reduceEqDiff, Bool.and_false, Bool.and_true, Bool.true_and, Bool.false_and, Bool.false_eq_true, if_false, if_true, ite_true, ite_false, Fin.isValue, Fin.val_zero, Fin.val_one, Fin.val_two, gz0, gz1, gz2, gz3, List.take_succ_cons, List.take_zero, List.drop_succ_cons, List.drop_zero, List.reverse_cons, List.reverse_nil, List.nil_append, List.cons_append, gx_nx, Int32.reduceToInt, Int.reduceToNat, Int.toNat_zero, Int.toNat_one, Int.reduceLT, Int.reduceLE, Int.ofNat_zero, Int.reduceNeg, Int.le_refl, and_self, List.getElem?_cons_zero, List.getElem?_cons_succ, true_and, and_true, Nat.reduceSub, List.replicate, List.append_nil, Nat.reduceLeDiff, Nat.le_add_left, Nat.zero_le, Nat.zero_add, gc3_64, gf3_12, gf3_19, gf3_30, gf3_36, gf3_39, gf3_72, gk_bipush_60, gk_iconst_0, gk_iconst_1, gm3_128, gm3_162, gm3_171, gm3_175, gm3_178, gm3_182, gn11, gn12, gn13, gn15, gn16, gn54, gn55, gr11, gr12, gr13, gr15, gr16, gr54, gr55, gv54, gi54_0, gi54_1, gi54_4, gi54_5, gi54_6, gi54_9, gi54_10, gi54_13, gi54_14, gi54_17, gi54_18, gi54_21, gi54_24, gi54_25, gi54_28, gi54_29, gi54_32, gi54_34, gi54_36, gi54_39, gi54_40, gi54_43, gi54_44, gi54_47, gi54_49, gi54_52, gi54_53, gi54_56, gi54_58, gi54_61, gi54_62, gi54_63, gi54_64, gi54_65, gi54_68, gi54_71, gi54_74, gi54_75, gi54_78, gi54_79, gi54_82, gi54_83, gi54_86, gi54_87, gi54_90, gi54_93, gi54_96, gi54_97, gi54_100, gi54_101, gi54_104, gi54_105, gi54_106, gi54_109, gi54_110, gi54_113, gi54_114, gi54_115, gi54_116, gi54_117, gi54_120, gi54_121, gi54_122, gl0, gl1, gl2, gl3, gl4, gl5, gl6, gl7, gl8, gl9, gl10, gl11, gl12, gl13, gl14, gl15, gl16, gl17, gl18, gl19, gl20, gl21, gl22, gl23, gl24, gl25, gl26, gl27, gl28, gl29, gl30, gl31, gl32, gl33, gl34, gl35, gl36, gl37, gl38, gl39, gl40, gl41, gl42, gl43, gl44, gl45, gl46, gl47, gl48, gl49, gl50, gl51, gl52, gl53, gl54, gl55, gl56, gl57]
      simp (disch := first | decide | omega) only [gx_w_np, gx_w_p, Int32.reduceToInt, Int.toNat_natCast, if_true, if_false, nI_1, nI_pred, i_nI, ite_true, ite_false, Int.reduceToNat, Nat.reduceEqDiff, Nat.reduceAdd, e8, i_le]
      exact ⟨fun _ => ⟨by omega, gx_C.mono this (fun r M1 h => ⟨by omega, by omega, h⟩)⟩, fun q => absurd (by omega) q⟩
    · have e1 : nI 1 = 1 := by decide
      rw [e1]
      refine gx_wp_ok 40 false _ _ _ _ ?_
      simp only [gx_w_np, gx_w_p, ne_eq, not_false_eq_true, gx_wp, gx_step, gx_cnd, gb0, gb1, Classical.not_not, List.getD_cons_zero, List.getD_cons_succ, List.set_cons_zero, List.set_cons_succ, List.length_cons, List.length_nil, Nat.reduceAdd, Nat.reduceLT, Nat.reduceLeDiff, Nat.reduceEqDiff, Bool.and_false, Bool.and_true, Bool.true_and, Bool.false_and, Bool.false_eq_true, if_false, if_true, ite_true, ite_false, Fin.isValue, Fin.val_zero, Fin.val_one, Fin.val_two, gz0, gz1, gz2, gz3, List.take_succ_cons, List.take_zero, List.drop_succ_cons, List.drop_zero, List.reverse_cons, List.reverse_nil, List.nil_append, List.cons_append, gx_nx, Int32.reduceToInt, Int.reduceToNat, Int.toNat_zero, Int.toNat_one, Int.reduceLT, Int.reduceLE, Int.ofNat_zero, Int.reduceNeg, Int.le_refl, and_self, List.getElem?_cons_zero, List.getElem?_cons_succ, true_and, and_true, Nat.reduceSub, List.replicate, List.append_nil, Nat.reduceLeDiff, Nat.le_add_left, Nat.zero_le, Nat.zero_add, gc3_64, gf3_12, gf3_19, gf3_30, gf3_36, gf3_39, gf3_72, gk_bipush_60, gk_iconst_0, gk_iconst_1, gm3_128, gm3_162, gm3_171, gm3_175, gm3_178, gm3_182, gn11, gn12, gn13, gn15, gn16, gn54, gn55, gr11, gr12, gr13, gr15, gr16, gr54, gr55, gv54, gi54_0, gi54_1, gi54_4, gi54_5, gi54_6, gi54_9, gi54_10, gi54_13, gi54_14, gi54_17, gi54_18, gi54_21, gi54_24, gi54_25, gi54_28, gi54_29, gi54_32, gi54_34, gi54_36, gi54_39, gi54_40, gi54_43, gi54_44, gi54_47, gi54_49, gi54_52, gi54_53, gi54_56, gi54_58, gi54_61, gi54_62, gi54_63, gi54_64, gi54_65, gi54_68, gi54_71, gi54_74, gi54_75, gi54_78, gi54_79, gi54_82, gi54_83, gi54_86, gi54_87, gi54_90, gi54_93, gi54_96, gi54_97, gi54_100, gi54_101, gi54_104, gi54_105, gi54_106, gi54_109, gi54_110, gi54_113, gi54_114, gi54_115, gi54_116, gi54_117, gi54_120, gi54_121, gi54_122, gl0, gl1, gl2, gl3, gl4, gl5, gl6, gl7, gl8, gl9, gl10, gl11, gl12, gl13, gl14, gl15, gl16, gl17, gl18, gl19, gl20, gl21, gl22, gl23, gl24, gl25, gl26, gl27, gl28, gl29, gl30, gl31, gl32, gl33, gl34, gl35, gl36, gl37, gl38, gl39, gl40, gl41, gl42, gl43, gl44, gl45, gl46, gl47, gl48, gl49, gl50, gl51, gl52, gl53, gl54, gl55, gl56, gl57]
      simp (disch := first | decide | omega) only [gx_w_np, gx_w_p, Int32.reduceToInt, Int.toNat_natCast, if_true, if_false, nI_1, nI_pred, i_nI, ite_true, ite_false, Int.reduceToNat, Nat.reduceEqDiff, Nat.reduceAdd, e8, i_le]
      exact ⟨fun _ => ⟨by omega, gx_C.mono this (fun r M1 h => ⟨by omega, by omega, h⟩)⟩, fun q => absurd (by omega) q⟩
  | succ d ih =>
    intro j M hd J
    obtain ⟨j1, j2, j3, j4, j5⟩ := id J
    obtain ⟨s1, s2, s3, s4, s5⟩ := id j1
    have e8 : M 1 8 = nI m := by rw [s1 1 (by omega)]; exact W.2.1
    have go : gx_C X 16 [.ref 2, .int (nI j)] M fun r M1 => gx_C X 13 [.ref 2, .int (nI j)] M1 fun r M1 => gx_OK X 54 63 [.ref 0, .int (nI w), .int (nI (j + 1))] [] M1 P := by
      have hb := ((nD_FL O s2 s5).mpr j2).2 j (by omega)
      cases hp : dE (dC M0 n m) j with
      | false =>
        have n1 := s2.2 j (by omega)
        have h0 := n1.2.2.2.2.2 hp
        refine sp_lower0 (by omega) (i_eq.mpr ?_) (fun M2 A B => sp_hold (by omega) (ih (j + 1) _ (by omega) (fj_step (by omega) J ?_ ?_ B ?_ ?_)))
        · unfold nf nlo nhi at *; omega
        · have en : ∀ p, p ≠ 16 → M2 p = M p := A
          have H := st_H_eq2 (en 13 (by decide)) (en 14 (by decide)) (en 17 (by decide)) (en 18 (by decide)) s2.1
          refine ⟨fun p hp => by rw [en p (by omega), s1 p hp], ⟨H, ?_⟩, ?_, ?_, ?_⟩
          · unfold nlo nhi nf; rw [en 11 (by decide), en 12 (by decide), en 15 (by decide)]; exact s2.2
          · unfold nq na nb; rw [en 13 (by decide), en 14 (by decide)]; exact s3
          · unfold circ nf na nb; rw [en 13 (by decide), en 14 (by decide), en 15 (by decide)]; exact s4
          · unfold nD na nb nlo nhi; rw [en 13 (by decide), en 14 (by decide), en 11 (by decide), en 12 (by decide)]; exact s5
        · unfold nf; rw [A 15 (by decide)]; exact j2
        · intro e _ _ _; unfold nf; rw [A 15 (by decide)]
        · intro g hg _
          have h3 := (FL_nn O hg j (by omega)).2.1 hp
          have h4 := (FL_nn O j2 j (by omega)).2.1 hp
          have : nf M2 j = nf M j := by unfold nf; rw [A 15 (by decide)]
          omega
      | true =>
        have q3 := s3 j (by omega)
        refine sp_lower (ep := dE (dC M0 n m)) (by omega) s2 (fun e he => ⟨(s3 e he).2.2.1, (s3 e he).2.2.2.1⟩) (q3.2.2.2.2 hp) ⟨q3.1, q3.2.1⟩ hb.1 s4 (fun c M2 c1 c2 R K => ?_)
        obtain ⟨S2, F2⟩ := cs_rz O (by omega) j1 j2 R (by omega) (by omega)
        refine sp_hold (by omega) (ih (j + 1) _ (by omega) (fj_step (by omega) J S2 F2 R.2.1 (fun e he hne hh => (R.2.2.2.1 e he hne).1 hh) (fun g hg hk => ?_)))
        have gb := (nD_FL O s2 s5).mpr hg
        exact K g gb.1 (fun i hi => ⟨(gb.2 i hi).1, (gb.2 i hi).2, fun a b => hk i hi a b⟩)
    rcases hw with rfl | rfl
    · rw [nI_0] at go ⊢
      refine gx_wp_ok 40 false _ _ _ _ ?_
      simp only [gx_w_np, gx_w_p, ne_eq, not_false_eq_true, gx_wp, gx_step, gx_cnd, gb0, gb1, Classical.not_not, List.getD_cons_zero, List.getD_cons_succ, List.set_cons_zero, List.set_cons_succ, List.length_cons, List.length_nil, Nat.reduceAdd, Nat.reduceLT, Nat.reduceLeDiff, Nat.reduceEqDiff, Bool.and_false, Bool.and_true, Bool.true_and, Bool.false_and, Bool.false_eq_true, if_false, if_true, ite_true, ite_false, Fin.isValue, Fin.val_zero, Fin.val_one, Fin.val_two, gz0, gz1, gz2, gz3, List.take_succ_cons, List.take_zero, List.drop_succ_cons, List.drop_zero, List.reverse_cons, List.reverse_nil, List.nil_append, List.cons_append, gx_nx, Int32.reduceToInt, Int.reduceToNat, Int.toNat_zero, Int.toNat_one, Int.reduceLT, Int.reduceLE, Int.ofNat_zero, Int.reduceNeg, Int.le_refl, and_self, List.getElem?_cons_zero, List.getElem?_cons_succ, true_and, and_true, Nat.reduceSub, List.replicate, List.append_nil, Nat.reduceLeDiff, Nat.le_add_left, Nat.zero_le, Nat.zero_add, gc3_64, gf3_12, gf3_19, gf3_30, gf3_36, gf3_39, gf3_72, gk_bipush_60, gk_iconst_0, gk_iconst_1, gm3_128, gm3_162, gm3_171, gm3_175, gm3_178, gm3_182, gn11, gn12, gn13, gn15, gn16, gn54, gn55, gr11, gr12, gr13, gr15, gr16, gr54, gr55, gv54, gi54_0, gi54_1, gi54_4, gi54_5, gi54_6, gi54_9, gi54_10, gi54_13, gi54_14, gi54_17, gi54_18, gi54_21, gi54_24, gi54_25, gi54_28, gi54_29, gi54_32, gi54_34, gi54_36, gi54_39, gi54_40, gi54_43, gi54_44, gi54_47, gi54_49, gi54_52, gi54_53, gi54_56, gi54_58, gi54_61, gi54_62, gi54_63, gi54_64, gi54_65, gi54_68, gi54_71, gi54_74, gi54_75, gi54_78, gi54_79, gi54_82, gi54_83, gi54_86, gi54_87, gi54_90, gi54_93, gi54_96, gi54_97, gi54_100, gi54_101, gi54_104, gi54_105, gi54_106, gi54_109, gi54_110, gi54_113, gi54_114, gi54_115, gi54_116, gi54_117, gi54_120, gi54_121, gi54_122, gl0, gl1, gl2, gl3, gl4, gl5, gl6, gl7, gl8, gl9, gl10, gl11, gl12, gl13, gl14, gl15, gl16, gl17, gl18, gl19, gl20, gl21, gl22, gl23, gl24, gl25, gl26, gl27, gl28, gl29, gl30, gl31, gl32, gl33, gl34, gl35, gl36, gl37, gl38, gl39, gl40, gl41, gl42, gl43, gl44, gl45, gl46, gl47, gl48, gl49, gl50, gl51, gl52, gl53, gl54, gl55, gl56, gl57]
      simp (disch := first | decide | omega) only [gx_w_np, gx_w_p, Int32.reduceToInt, Int.toNat_natCast, if_true, if_false, nI_1, nI_pred, i_nI, ite_true, ite_false, Int.reduceToNat, Nat.reduceEqDiff, Nat.reduceAdd, e8, i_le]
      exact ⟨fun q => absurd q (by omega), fun _ => go⟩
    · have e1 : nI 1 = 1 := by decide
      rw [e1] at go ⊢
      refine gx_wp_ok 40 false _ _ _ _ ?_
      simp only [gx_w_np, gx_w_p, ne_eq, not_false_eq_true, gx_wp, gx_step, gx_cnd, gb0, gb1, Classical.not_not, List.getD_cons_zero, List.getD_cons_succ, List.set_cons_zero, List.set_cons_succ, List.length_cons, List.length_nil, Nat.reduceAdd, Nat.reduceLT, Nat.reduceLeDiff, Nat.reduceEqDiff, Bool.and_false, Bool.and_true, Bool.true_and, Bool.false_and, Bool.false_eq_true, if_false, if_true, ite_true, ite_false, Fin.isValue, Fin.val_zero, Fin.val_one, Fin.val_two, gz0, gz1, gz2, gz3, List.take_succ_cons, List.take_zero, List.drop_succ_cons, List.drop_zero, List.reverse_cons, List.reverse_nil, List.nil_append, List.cons_append, gx_nx, Int32.reduceToInt, Int.reduceToNat, Int.toNat_zero, Int.toNat_one, Int.reduceLT, Int.reduceLE, Int.ofNat_zero, Int.reduceNeg, Int.le_refl, and_self, List.getElem?_cons_zero, List.getElem?_cons_succ, true_and, and_true, Nat.reduceSub, List.replicate, List.append_nil, Nat.reduceLeDiff, Nat.le_add_left, Nat.zero_le, Nat.zero_add, gc3_64, gf3_12, gf3_19, gf3_30, gf3_36, gf3_39, gf3_72, gk_bipush_60, gk_iconst_0, gk_iconst_1, gm3_128, gm3_162, gm3_171, gm3_175, gm3_178, gm3_182, gn11, gn12, gn13, gn15, gn16, gn54, gn55, gr11, gr12, gr13, gr15, gr16, gr54, gr55, gv54, gi54_0, gi54_1, gi54_4, gi54_5, gi54_6, gi54_9, gi54_10, gi54_13, gi54_14, gi54_17, gi54_18, gi54_21, gi54_24, gi54_25, gi54_28, gi54_29, gi54_32, gi54_34, gi54_36, gi54_39, gi54_40, gi54_43, gi54_44, gi54_47, gi54_49, gi54_52, gi54_53, gi54_56, gi54_58, gi54_61, gi54_62, gi54_63, gi54_64, gi54_65, gi54_68, gi54_71, gi54_74, gi54_75, gi54_78, gi54_79, gi54_82, gi54_83, gi54_86, gi54_87, gi54_90, gi54_93, gi54_96, gi54_97, gi54_100, gi54_101, gi54_104, gi54_105, gi54_106, gi54_109, gi54_110, gi54_113, gi54_114, gi54_115, gi54_116, gi54_117, gi54_120, gi54_121, gi54_122, gl0, gl1, gl2, gl3, gl4, gl5, gl6, gl7, gl8, gl9, gl10, gl11, gl12, gl13, gl14, gl15, gl16, gl17, gl18, gl19, gl20, gl21, gl22, gl23, gl24, gl25, gl26, gl27, gl28, gl29, gl30, gl31, gl32, gl33, gl34, gl35, gl36, gl37, gl38, gl39, gl40, gl41, gl42, gl43, gl44, gl45, gl46, gl47, gl48, gl49, gl50, gl51, gl52, gl53, gl54, gl55, gl56, gl57]
      simp (disch := first | decide | omega) only [gx_w_np, gx_w_p, Int32.reduceToInt, Int.toNat_natCast, if_true, if_false, nI_1, nI_pred, i_nI, ite_true, ite_false, Int.reduceToNat, Nat.reduceEqDiff, Nat.reduceAdd, e8, i_le]
      exact ⟨fun q => absurd q (by omega), fun _ => go⟩
