/-! reaches, its outer loop and its contract. -/
theorem b_x2 {h : Nat} : b_x h / 2 = h / 2 := by
  unfold b_x
  by_cases e : h % 2 = 0
  · rw [if_pos e]; omega
  · rw [if_neg e]; omega
/-- all is looked at, the goal isn't reached -/
theorem bf_end {M0 M : gx_M} {ep : Nat → Bool} {s g k sz : Nat} (H : st_H M0 ep) (hg : g < 22) (hs : s < 22) (hgs : g ≠ s) (hk : sz ≤ k) (B : bf_I M0 M ep s g k sz) : bf_0 M0 M ep s g := by
  obtain ⟨b1, b2, b3, b4, b5, b6, b7, b8, b9, b10, b11⟩ := B
  refine ⟨b1, (fun v => decide (v = s ∨ M 19 v ≠ -1)), by simp, by simp [hgs, b8], fun h hh hp h1 h2 => ?_⟩
  obtain ⟨u, u1, u2⟩ := st_e H (b_x_lt h hh) (by rw [b_x2]; exact hp)
  rw [u2, i_nI (by omega), Int.toNat_natCast] at h1
  have h3 : ∃ i, i < k ∧ M 20 i = nI u := by
    rcases of_decide_eq_true h1 with z | z
    · exact ⟨0, by omega, by rw [z]; exact b5⟩
    · obtain ⟨i, c1, c2, c3⟩ := b9 u u1 z
      exact ⟨i, by omega, c3⟩
  obtain ⟨i, i1, i2⟩ := h3
  rcases b11 i i1 h hh hp (by rw [u2, i2]) h2 with z | z
  · rw [z, i_nI (by omega), Int.toNat_natCast]; simp
  · exact decide_eq_true (Or.inr z)
set_option maxRecDepth 100000 in
set_option maxHeartbeats 4000000 in
theorem bf_outer {X : gx_X} {M0 : gx_M} {ep : Nat → Bool} {s g : Nat} {P : Option Value → gx_M → Prop} (H : st_H M0 ep) (hs : s < 22) (hg : g < 22) (hgs : g ≠ s)
    (h0 : ∀ M, bf_0 M0 M ep s g → P (some (.int 0)) M) (h1 : ∀ M, bf_1 M0 M ep s g → P (some (.int 1)) M) :
    ∀ (d k sz : Nat) (M : gx_M) (v5 v6 v7 v8 : Value), k + d = 22 → bf_I M0 M ep s g k sz → gx_OK X 18 20 [.ref 2, .int (nI s), .int (nI g), .int (nI sz), .int (nI k), v5, v6, v7, v8] [] M P := by
  intro d
  induction d with
  | zero =>
    intro k sz M v5 v6 v7 v8 hk B
    have hsz := bf_sz hg B
    exact absurd B.2.2.1 (by omega)
  | succ d ih =>
    intro k sz M v5 v6 v7 v8 hk B
    have hsz := bf_sz hg B
    refine gx_wp_ok 100 false _ _ _ _ ?_
    simp only [gx_w_np, gx_w_p, ne_eq, not_false_eq_true, gx_wp, gx_step, gx_cnd, gb0, gb1, Classical.not_not, List.getD_cons_zero, List.getD_cons_succ, List.set_cons_zero, List.set_cons_succ, List.length_cons, List.length_nil, Nat.reduceAdd, Nat.reduceLT, Nat.reduceLeDiff, Nat.reduceEqDiff, Bool.and_false, Bool.and_true, Bool.true_and, Bool.false_and, Bool.false_eq_true, if_false, if_true, ite_true, ite_false, Fin.isValue, Fin.val_zero, Fin.val_one, Fin.val_two, gz0, gz1, gz2, gz3, List.take_succ_cons, List.take_zero, List.drop_succ_cons, List.drop_zero, List.reverse_cons, List.reverse_nil, List.nil_append, List.cons_append, gx_nx, Int32.reduceToInt, Int.reduceToNat, Int.toNat_zero, Int.toNat_one, Int.reduceLT, Int.reduceLE, Int.ofNat_zero, Int.reduceNeg, Int.le_refl, and_self, List.getElem?_cons_zero, List.getElem?_cons_succ, true_and, and_true, Nat.reduceSub, List.replicate, List.append_nil, Nat.reduceLeDiff, Nat.le_add_left, Nat.zero_le, Nat.zero_add, gf1_31, gf1_34, gf1_37, gf1_40, gk_bipush_22, gk_bipush_42, gk_iconst_0, gk_iconst_1, gk_iconst_m1, gm1_43, gm1_83, gm1_86, gn104, gn18, gn21, gn22, gr104, gr18, gr21, gr22, gv18, gi18_0, gi18_1, gi18_4, gi18_5, gi18_8, gi18_9, gi18_12, gi18_13, gi18_14, gi18_15, gi18_16, gi18_17, gi18_18, gi18_20, gi18_22, gi18_23, gi18_26, gi18_28, gi18_30, gi18_33, gi18_34, gi18_37, gi18_39, gi18_40, gi18_42, gi18_43, gi18_45, gi18_47, gi18_48, gi18_51, gi18_53, gi18_54, gi18_57, gi18_58, gi18_61, gi18_63, gi18_65, gi18_66, gi18_68, gi18_69, gi18_70, gi18_72, gi18_73, gi18_75, gi18_78, gi18_80, gi18_82, gi18_83, gi18_86, gi18_87, gi18_90, gi18_92, gi18_93, gi18_94, gi18_97, gi18_98, gi18_100, gi18_103, gi18_106, gi18_107, gi18_110, gi18_112, gi18_114, gi18_115, gi18_117, gi18_118, gi18_121, gi18_122, gi18_123, gi18_124, gi18_127, gi18_128, gi18_130, gi18_131, gi18_134, gi18_137, gi18_140, gi18_143, gi18_146, gi18_147, gl0, gl1, gl2, gl3, gl4, gl5, gl6, gl7, gl8, gl9, gl10, gl11, gl12, gl13, gl14, gl15, gl16, gl17, gl18, gl19, gl20, gl21, gl22, gl23, gl24, gl25, gl26, gl27, gl28, gl29, gl30, gl31, gl32, gl33, gl34, gl35, gl36, gl37, gl38, gl39, gl40, gl41, gl42, gl43, gl44, gl45, gl46, gl47, gl48, gl49, gl50, gl51, gl52, gl53, gl54, gl55, gl56, gl57]
    simp (disch := first | decide | omega) only [gx_w_np, gx_w_p, Int32.reduceToInt, Int.toNat_natCast, if_true, if_false, nI_1, nI_pred, i_nI, ite_true, ite_false, Int.reduceToNat, Nat.reduceEqDiff, Nat.reduceAdd, i_le]
    refine ⟨fun q => h0 M (bf_end H hg hs hgs (by omega) B), fun q => ⟨fun q2 => absurd q2 (by omega), fun _ => ⟨by omega, ?_⟩⟩⟩
    obtain ⟨w, w1, w2, w3⟩ := B.2.2.2.1 k (by omega)
    obtain ⟨c, c1, c2, c3⟩ := H.2.1 w w1
    rw [w3, ← nI_0]
    exact bf_inner H hs hg hgs w1 c2 c1 h1 (fun sz M v6 v7 v8 B2 => ih (k + 1) sz M _ v6 v7 v8 (by omega) B2) c 0 sz M _ _ (by omega) (by omega) w3 B (fun j hj => absurd hj (by omega))
set_option maxRecDepth 100000 in
set_option maxHeartbeats 4000000 in
theorem sp_reaches {X : gx_X} {M : gx_M} {ep : Nat → Bool} {s g : Nat} {P : Option Value → gx_M → Prop} (H : st_H M ep) (hs : s < 22) (hg : g < 22) (hgs : g ≠ s)
    (h0 : ∀ M1, bf_0 M M1 ep s g → P (some (.int 0)) M1) (h1 : ∀ M1, bf_1 M M1 ep s g → P (some (.int 1)) M1) : gx_C X 18 [.ref 2, .int (nI s), .int (nI g)] M P := by
  refine gx_C_wp 100 ?_
  simp only [gx_w_np, gx_w_p, ne_eq, not_false_eq_true, gx_wp, gx_step, gx_cnd, gb0, gb1, Classical.not_not, List.getD_cons_zero, List.getD_cons_succ, List.set_cons_zero, List.set_cons_succ, List.length_cons, List.length_nil, Nat.reduceAdd, Nat.reduceLT, Nat.reduceLeDiff, Nat.reduceEqDiff, Bool.and_false, Bool.and_true, Bool.true_and, Bool.false_and, Bool.false_eq_true, if_false, if_true, ite_true, ite_false, Fin.isValue, Fin.val_zero, Fin.val_one, Fin.val_two, gz0, gz1, gz2, gz3, List.take_succ_cons, List.take_zero, List.drop_succ_cons, List.drop_zero, List.reverse_cons, List.reverse_nil, List.nil_append, List.cons_append, gx_nx, Int32.reduceToInt, Int.reduceToNat, Int.toNat_zero, Int.toNat_one, Int.reduceLT, Int.reduceLE, Int.ofNat_zero, Int.reduceNeg, Int.le_refl, and_self, List.getElem?_cons_zero, List.getElem?_cons_succ, true_and, and_true, Nat.reduceSub, List.replicate, List.append_nil, Nat.reduceLeDiff, Nat.le_add_left, Nat.zero_le, Nat.zero_add, gf1_31, gf1_34, gf1_37, gf1_40, gk_bipush_22, gk_bipush_42, gk_iconst_0, gk_iconst_1, gk_iconst_m1, gm1_43, gm1_83, gm1_86, gn104, gn18, gn21, gn22, gr104, gr18, gr21, gr22, gv18, gi18_0, gi18_1, gi18_4, gi18_5, gi18_8, gi18_9, gi18_12, gi18_13, gi18_14, gi18_15, gi18_16, gi18_17, gi18_18, gi18_20, gi18_22, gi18_23, gi18_26, gi18_28, gi18_30, gi18_33, gi18_34, gi18_37, gi18_39, gi18_40, gi18_42, gi18_43, gi18_45, gi18_47, gi18_48, gi18_51, gi18_53, gi18_54, gi18_57, gi18_58, gi18_61, gi18_63, gi18_65, gi18_66, gi18_68, gi18_69, gi18_70, gi18_72, gi18_73, gi18_75, gi18_78, gi18_80, gi18_82, gi18_83, gi18_86, gi18_87, gi18_90, gi18_92, gi18_93, gi18_94, gi18_97, gi18_98, gi18_100, gi18_103, gi18_106, gi18_107, gi18_110, gi18_112, gi18_114, gi18_115, gi18_117, gi18_118, gi18_121, gi18_122, gi18_123, gi18_124, gi18_127, gi18_128, gi18_130, gi18_131, gi18_134, gi18_137, gi18_140, gi18_143, gi18_146, gi18_147, gl0, gl1, gl2, gl3, gl4, gl5, gl6, gl7, gl8, gl9, gl10, gl11, gl12, gl13, gl14, gl15, gl16, gl17, gl18, gl19, gl20, gl21, gl22, gl23, gl24, gl25, gl26, gl27, gl28, gl29, gl30, gl31, gl32, gl33, gl34, gl35, gl36, gl37, gl38, gl39, gl40, gl41, gl42, gl43, gl44, gl45, gl46, gl47, gl48, gl49, gl50, gl51, gl52, gl53, gl54, gl55, gl56, gl57]
  refine sp_fill (p := 19) (n := 22) (Or.inr (Or.inl ⟨Or.inr rfl, rfl⟩)) (fun M1 a b => ?_)
  refine ⟨by omega, ?_⟩
  have e1 : ∀ M0 : gx_M, nI 1 = 1 := fun _ => by decide
  rw [← nI_0, ← e1 M]
  refine bf_outer H hs hg hgs h0 h1 22 0 1 _ _ _ _ _ (by omega) ?_
  refine ⟨fun p p1 p2 => ?_, by omega, by omega, fun i hi => ⟨s, hs, fun z => hgs z.symm, ?_⟩, ?_, fun i j c1 c2 => absurd c2 (by omega), ?_, ?_, fun v hv hn => ?_, fun i c1 c2 => absurd c2 (by omega), fun i hi => absurd hi (by omega)⟩
  · funext j
    rw [gx_w_np p2, a p j p1]
  · rw [gx_w_p, if_pos (by omega)]
  · rw [gx_w_p, if_pos rfl]
  · rw [gx_w_np (by decide)]; exact b s hs
  · rw [gx_w_np (by decide)]; exact b g hg
  · rw [gx_w_np (by decide)] at hn
    exact absurd (b v hv) hn
