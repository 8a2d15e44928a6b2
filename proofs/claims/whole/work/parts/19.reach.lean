/-! reaches(start, goal): a way, or a set that nothing leads out of. -/
/-- the halves of the vertex that is looked at, up to i, are done -/
def bf_J (M0 M : gx_M) (s w i : Nat) : Prop := ∀ j, j < i → ∀ h, h < 122 → M0 17 (w * 42 + j) = nI h → 0 < (nt_l M0 h).toInt → nt_e M0 h = nI s ∨ M 19 (nt_e M0 h).toInt.toNat ≠ -1
set_option maxRecDepth 100000 in
set_option maxHeartbeats 4000000 in
theorem bf_inner {X : gx_X} {M0 : gx_M} {ep : Nat → Bool} {s g k w c : Nat} {P : Option Value → gx_M → Prop} (H : st_H M0 ep) (hs : s < 22) (hg : g < 22) (hgs : g ≠ s) (hw : w < 22) (hc : M0 18 w = nI c) (hc42 : c ≤ 42)
    (h1 : ∀ M, bf_1 M0 M ep s g → P (some (.int 1)) M)
    (hk : ∀ (sz : Nat) (M : gx_M) (v6 v7 v8 : Value), bf_I M0 M ep s g (k + 1) sz → gx_OK X 18 20 [.ref 2, .int (nI s), .int (nI g), .int (nI sz), .int (nI (k + 1)), .int (nI w), v6, v7, v8] [] M P) :
    ∀ (d i sz : Nat) (M : gx_M) (v7 v8 : Value), i + d = c → k < sz → M 20 k = nI w → bf_I M0 M ep s g k sz → bf_J M0 M s w i → gx_OK X 18 45 [.ref 2, .int (nI s), .int (nI g), .int (nI sz), .int (nI k), .int (nI w), .int (nI i), v7, v8] [] M P := by
  intro d
  induction d with
  | zero =>
    intro i sz M v7 v8 hi hks hkw B J
    have hsz := bf_sz hg B
    refine gx_wp_ok 100 false _ _ _ _ ?_
    simp only [gx_w_np, gx_w_p, ne_eq, not_false_eq_true, gx_wp, gx_step, gx_cnd, gb0, gb1, Classical.not_not, List.getD_cons_zero, List.getD_cons_succ, List.set_cons_zero, List.set_cons_succ, List.length_cons, List.length_nil, Nat.reduceAdd, Nat.reduceLT, Nat.reduceLeDiff, Nat.reduceEqDiff, Bool.and_false, Bool.and_true, Bool.true_and, Bool.false_and, Bool.false_eq_true, if_false, if_true, ite_true, ite_false, Fin.isValue, Fin.val_zero, Fin.val_one, Fin.val_two, gz0, gz1, gz2, gz3, List.take_succ_cons, List.take_zero, List.drop_succ_cons, List.drop_zero, List.reverse_cons, List.reverse_nil, List.nil_append, List.cons_append, gx_nx, Int32.reduceToInt, Int.reduceToNat, Int.toNat_zero, Int.toNat_one, Int.reduceLT, Int.reduceLE, Int.ofNat_zero, Int.reduceNeg, Int.le_refl, and_self, List.getElem?_cons_zero, List.getElem?_cons_succ, true_and, and_true, Nat.reduceSub, List.replicate, List.append_nil, Nat.reduceLeDiff, Nat.le_add_left, Nat.zero_le, Nat.zero_add, gf1_31, gf1_34, gf1_37, gf1_40, gk_bipush_22, gk_bipush_42, gk_iconst_0, gk_iconst_1, gk_iconst_m1, gm1_43, gm1_83, gm1_86, gn104, gn18, gn21, gn22, gr104, gr18, gr21, gr22, gv18, gi18_0, gi18_1, gi18_4, gi18_5, gi18_8, gi18_9, gi18_12, gi18_13, gi18_14, gi18_15, gi18_16, gi18_17, gi18_18, gi18_20, gi18_22, gi18_23, gi18_26, gi18_28, gi18_30, gi18_33, gi18_34, gi18_37, gi18_39, gi18_40, gi18_42, gi18_43, gi18_45, gi18_47, gi18_48, gi18_51, gi18_53, gi18_54, gi18_57, gi18_58, gi18_61, gi18_63, gi18_65, gi18_66, gi18_68, gi18_69, gi18_70, gi18_72, gi18_73, gi18_75, gi18_78, gi18_80, gi18_82, gi18_83, gi18_86, gi18_87, gi18_90, gi18_92, gi18_93, gi18_94, gi18_97, gi18_98, gi18_100, gi18_103, gi18_106, gi18_107, gi18_110, gi18_112, gi18_114, gi18_115, gi18_117, gi18_118, gi18_121, gi18_122, gi18_123, gi18_124, gi18_127, gi18_128, gi18_130, gi18_131, gi18_134, gi18_137, gi18_140, gi18_143, gi18_146, gi18_147, gl0, gl1, gl2, gl3, gl4, gl5, gl6, gl7, gl8, gl9, gl10, gl11, gl12, gl13, gl14, gl15, gl16, gl17, gl18, gl19, gl20, gl21, gl22, gl23, gl24, gl25, gl26, gl27, gl28, gl29, gl30, gl31, gl32, gl33, gl34, gl35, gl36, gl37, gl38, gl39, gl40, gl41, gl42, gl43, gl44, gl45, gl46, gl47, gl48, gl49, gl50, gl51, gl52, gl53, gl54, gl55, gl56, gl57]
    have e18 : M 18 w = nI c := by rw [B.1 18 (by decide) (by decide)]; exact hc
    simp (disch := first | decide | omega) only [gx_w_np, gx_w_p, Int32.reduceToInt, Int.toNat_natCast, if_true, if_false, nI_1, nI_pred, i_nI, ite_true, ite_false, Int.reduceToNat, Nat.reduceEqDiff, Nat.reduceAdd, e18, i_le]
    refine ⟨by omega, fun _ => hk sz M _ _ _ ?_, fun q => absurd (by omega) q⟩
    obtain ⟨b1, b2, b3, b4, b5, b6, b7, b8, b9, b10, b11⟩ := B
    refine ⟨b1, b2, by omega, b4, b5, b6, b7, b8, b9, b10, fun j hj h a1 a2 a3 a4 => ?_⟩
    by_cases e : j = k
    · rw [e, hkw] at a3
      obtain ⟨i2, c2, d0, d1, d2, d3⟩ := H.2.2 h a1 a2 w hw a3
      rw [hc] at d1
      have : c = c2 := nI_inj (by omega) (by omega) d1
      exact J i2 (by omega) h a1 d3 a4
    · exact b11 j (by omega) h a1 a2 a3 a4
  | succ d ih =>
    intro i sz M v7 v8 hi hks hkw B J
    have hsz := bf_sz hg B
    refine gx_wp_ok 100 false _ _ _ _ ?_
    simp only [gx_w_np, gx_w_p, ne_eq, not_false_eq_true, gx_wp, gx_step, gx_cnd, gb0, gb1, Classical.not_not, List.getD_cons_zero, List.getD_cons_succ, List.set_cons_zero, List.set_cons_succ, List.length_cons, List.length_nil, Nat.reduceAdd, Nat.reduceLT, Nat.reduceLeDiff, Nat.reduceEqDiff, Bool.and_false, Bool.and_true, Bool.true_and, Bool.false_and, Bool.false_eq_true, if_false, if_true, ite_true, ite_false, Fin.isValue, Fin.val_zero, Fin.val_one, Fin.val_two, gz0, gz1, gz2, gz3, List.take_succ_cons, List.take_zero, List.drop_succ_cons, List.drop_zero, List.reverse_cons, List.reverse_nil, List.nil_append, List.cons_append, gx_nx, Int32.reduceToInt, Int.reduceToNat, Int.toNat_zero, Int.toNat_one, Int.reduceLT, Int.reduceLE, Int.ofNat_zero, Int.reduceNeg, Int.le_refl, and_self, List.getElem?_cons_zero, List.getElem?_cons_succ, true_and, and_true, Nat.reduceSub, List.replicate, List.append_nil, Nat.reduceLeDiff, Nat.le_add_left, Nat.zero_le, Nat.zero_add, gf1_31, gf1_34, gf1_37, gf1_40, gk_bipush_22, gk_bipush_42, gk_iconst_0, gk_iconst_1, gk_iconst_m1, gm1_43, gm1_83, gm1_86, gn104, gn18, gn21, gn22, gr104, gr18, gr21, gr22, gv18, gi18_0, gi18_1, gi18_4, gi18_5, gi18_8, gi18_9, gi18_12, gi18_13, gi18_14, gi18_15, gi18_16, gi18_17, gi18_18, gi18_20, gi18_22, gi18_23, gi18_26, gi18_28, gi18_30, gi18_33, gi18_34, gi18_37, gi18_39, gi18_40, gi18_42, gi18_43, gi18_45, gi18_47, gi18_48, gi18_51, gi18_53, gi18_54, gi18_57, gi18_58, gi18_61, gi18_63, gi18_65, gi18_66, gi18_68, gi18_69, gi18_70, gi18_72, gi18_73, gi18_75, gi18_78, gi18_80, gi18_82, gi18_83, gi18_86, gi18_87, gi18_90, gi18_92, gi18_93, gi18_94, gi18_97, gi18_98, gi18_100, gi18_103, gi18_106, gi18_107, gi18_110, gi18_112, gi18_114, gi18_115, gi18_117, gi18_118, gi18_121, gi18_122, gi18_123, gi18_124, gi18_127, gi18_128, gi18_130, gi18_131, gi18_134, gi18_137, gi18_140, gi18_143, gi18_146, gi18_147, gl0, gl1, gl2, gl3, gl4, gl5, gl6, gl7, gl8, gl9, gl10, gl11, gl12, gl13, gl14, gl15, gl16, gl17, gl18, gl19, gl20, gl21, gl22, gl23, gl24, gl25, gl26, gl27, gl28, gl29, gl30, gl31, gl32, gl33, gl34, gl35, gl36, gl37, gl38, gl39, gl40, gl41, gl42, gl43, gl44, gl45, gl46, gl47, gl48, gl49, gl50, gl51, gl52, gl53, gl54, gl55, gl56, gl57]
    have e18 : M 18 w = nI c := by rw [B.1 18 (by decide) (by decide)]; exact hc
    have e1 : nI w * 42 + nI i = nI (w * 42 + i) := by
      rw [show (42 : Int32) = nI 42 by decide, pk_mul, nI_add]
    obtain ⟨c3, g1, g2, g3⟩ := H.2.1 w hw
    have ec : c3 = c := nI_inj (by omega) (by omega) (g2.symm.trans hc)
    obtain ⟨h, hh, h17, hp, hbx⟩ := g3 i (by omega)
    have e17 : M 17 (w * 42 + i) = nI h := by rw [B.1 17 (by decide) (by decide)]; exact h17
    simp (disch := first | decide | omega) only [gx_w_np, gx_w_p, Int32.reduceToInt, Int.toNat_natCast, if_true, if_false, nI_1, nI_pred, i_nI, ite_true, ite_false, Int.reduceToNat, Nat.reduceEqDiff, Nat.reduceAdd, e18, i_le, e1, e17]
    refine ⟨by omega, fun q => absurd q (by omega), fun _ => ⟨by omega, ?_⟩⟩
    obtain ⟨v, hv, he⟩ := st_e H hh hp
    have next : ∀ (sz : Nat) (M : gx_M) (v7 v8 : Value), k < sz → M 20 k = nI w → bf_I M0 M ep s g k sz → bf_J M0 M s w i → (0 < (nt_l M0 h).toInt → nt_e M0 h = nI s ∨ M 19 (nt_e M0 h).toInt.toNat ≠ -1) → gx_OK X 18 45 [.ref 2, .int (nI s), .int (nI g), .int (nI sz), .int (nI k), .int (nI w), .int (nI (i + 1)), v7, v8] [] M P := by
      intro sz M v7 v8 a1 a2 a3 a4 a5
      refine ih (i + 1) sz M v7 v8 (by omega) a1 a2 a3 (fun j hj h2 c1 c2 c4 => ?_)
      by_cases e : j = i
      · rw [e, h17] at c2
        have : h = h2 := nI_inj (by omega) (by omega) c2
        rw [← this] at c4 ⊢
        exact a5 c4
      · exact a4 j (by omega) h2 c1 c2 c4
    refine sp_endOf hh ?_
    intro z hz
    cases hz
    rw [nt_e_eq B.1, he]
    simp (disch := first | decide | omega) only [gx_w_np, gx_w_p, Int32.reduceToInt, Int.toNat_natCast, if_true, if_false, nI_1, nI_pred, i_nI, ite_true, ite_false, Int.reduceToNat, Nat.reduceEqDiff, Nat.reduceAdd]
    refine ⟨fun q => next sz M _ _ hks hkw B J (fun _ => Or.inl (by rw [he, q])), fun q => ⟨by omega, fun q2 => next sz M _ _ hks hkw B J (fun _ => Or.inr (by rw [he, i_nI (by omega)]; exact q2)), fun q2 => ?_⟩⟩
    have hvs : v ≠ s := fun z => q (by rw [z])
    refine sp_leftOn hh ?_
    intro z hz
    cases hz
    rw [nt_l_eq B.1]
    refine ⟨fun q3 => next sz M _ _ hks hkw B J (fun z => absurd z (by omega)), fun q3 => ⟨by omega, fun q4 => ⟨?_, ?_⟩, fun q4 => ?_⟩⟩
    · omega
    · have hvg : v ≠ g := fun z => q4 (by rw [z])
      have hsz2 := bf_sz2 hg hs B hv hvg hvs q2
      have B2 := bf_push hg hs hks B hv hvg hvs q2 hh hp he (by omega) (by rw [hbx, hkw])
      refine next (sz + 1) _ _ _ (by omega) (by rw [gx_w_p, if_neg (by omega), gx_w_np (by decide)]; exact hkw) B2 (fun j hj h2 c1 c2 c4 => ?_) (fun _ => Or.inr ?_)
      · rcases J j hj h2 c1 c2 c4 with z | z
        · exact Or.inl z
        · refine Or.inr ?_
          rw [gx_w_np (by decide), gx_w_p]
          by_cases e : (nt_e M0 h2).toInt.toNat = v
          · rw [if_pos e]; exact nI_m1 (by omega)
          · rw [if_neg e]; exact z
      · rw [he, i_nI (by omega), Int.toNat_natCast, gx_w_np (by decide), gx_w_p, if_pos rfl]
        exact nI_m1 (by omega)
    · have hvg : v = g := nI_inj (by omega) (by omega) q4
      subst hvg
      exact h1 _ (bf_goal hg hs hgs hks B hh hp he (by omega) (by rw [hbx, hkw]))
