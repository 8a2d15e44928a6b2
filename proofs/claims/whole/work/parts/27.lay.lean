/-! empty, put: a net is laid out. -/
set_option maxRecDepth 100000 in
set_option maxHeartbeats 4000000 in
theorem sp_cameIn {X : gx_X} {M : gx_M} {v : Nat} {P : Option Value → gx_M → Prop} (k : P (some (.int (nI (2 * v)))) M) : gx_C X 50 [.int (nI v)] M P := by
  refine gx_C_wp 100 ?_
  simp only [gx_w_np, gx_w_p, ne_eq, not_false_eq_true, gx_wp, gx_step, gx_cnd, gb0, gb1, Classical.not_not, List.getD_cons_zero, List.getD_cons_succ, List.set_cons_zero, List.set_cons_succ, List.length_cons, List.length_nil, Nat.reduceAdd, Nat.reduceLT, Nat.reduceLeDiff, Nat.reduceEqDiff, Bool.and_false, Bool.and_true, Bool.true_and, Bool.false_and, Bool.false_eq_true, if_false, if_true, ite_true, ite_false, Fin.isValue, Fin.val_zero, Fin.val_one, Fin.val_two, gz0, gz1, gz2, gz3, List.take_succ_cons, List.take_zero, List.drop_succ_cons, List.drop_zero, List.reverse_cons, List.reverse_nil, List.nil_append, List.cons_append, gx_nx, Int32.reduceToInt, Int.reduceToNat, Int.toNat_zero, Int.toNat_one, Int.reduceLT, Int.reduceLE, Int.ofNat_zero, Int.reduceNeg, Int.le_refl, and_self, List.getElem?_cons_zero, List.getElem?_cons_succ, true_and, and_true, Nat.reduceSub, List.replicate, List.append_nil, Nat.reduceLeDiff, Nat.le_add_left, Nat.zero_le, Nat.zero_add, gk_iconst_2, gn50, gr50, gv50, gi50_0, gi50_1, gi50_2, gi50_3, gl0, gl1, gl2, gl3, gl4, gl5, gl6, gl7, gl8, gl9, gl10, gl11, gl12, gl13, gl14, gl15, gl16, gl17, gl18, gl19, gl20, gl21, gl22, gl23, gl24, gl25, gl26, gl27, gl28, gl29, gl30, gl31, gl32, gl33, gl34, gl35, gl36, gl37, gl38, gl39, gl40, gl41, gl42, gl43, gl44, gl45, gl46, gl47, gl48, gl49, gl50, gl51, gl52, gl53, gl54, gl55, gl56, gl57]
  rw [show (2 : Int32) = nI 2 by decide, pk_mul]
  exact k
set_option maxRecDepth 100000 in
set_option maxHeartbeats 4000000 in
theorem sp_goesOut {X : gx_X} {M : gx_M} {v : Nat} {P : Option Value → gx_M → Prop} (k : P (some (.int (nI (2 * v + 1)))) M) : gx_C X 51 [.int (nI v)] M P := by
  refine gx_C_wp 100 ?_
  simp only [gx_w_np, gx_w_p, ne_eq, not_false_eq_true, gx_wp, gx_step, gx_cnd, gb0, gb1, Classical.not_not, List.getD_cons_zero, List.getD_cons_succ, List.set_cons_zero, List.set_cons_succ, List.length_cons, List.length_nil, Nat.reduceAdd, Nat.reduceLT, Nat.reduceLeDiff, Nat.reduceEqDiff, Bool.and_false, Bool.and_true, Bool.true_and, Bool.false_and, Bool.false_eq_true, if_false, if_true, ite_true, ite_false, Fin.isValue, Fin.val_zero, Fin.val_one, Fin.val_two, gz0, gz1, gz2, gz3, List.take_succ_cons, List.take_zero, List.drop_succ_cons, List.drop_zero, List.reverse_cons, List.reverse_nil, List.nil_append, List.cons_append, gx_nx, Int32.reduceToInt, Int.reduceToNat, Int.toNat_zero, Int.toNat_one, Int.reduceLT, Int.reduceLE, Int.ofNat_zero, Int.reduceNeg, Int.le_refl, and_self, List.getElem?_cons_zero, List.getElem?_cons_succ, true_and, and_true, Nat.reduceSub, List.replicate, List.append_nil, Nat.reduceLeDiff, Nat.le_add_left, Nat.zero_le, Nat.zero_add, gk_iconst_1, gk_iconst_2, gn51, gr51, gv51, gi51_0, gi51_1, gi51_2, gi51_3, gi51_4, gi51_5, gl0, gl1, gl2, gl3, gl4, gl5, gl6, gl7, gl8, gl9, gl10, gl11, gl12, gl13, gl14, gl15, gl16, gl17, gl18, gl19, gl20, gl21, gl22, gl23, gl24, gl25, gl26, gl27, gl28, gl29, gl30, gl31, gl32, gl33, gl34, gl35, gl36, gl37, gl38, gl39, gl40, gl41, gl42, gl43, gl44, gl45, gl46, gl47, gl48, gl49, gl50, gl51, gl52, gl53, gl54, gl55, gl56, gl57]
  rw [show (2 : Int32) = nI 2 by decide, pk_mul, nI_1]
  exact k
/-- an empty net -/
def em (M0 M : gx_M) : Prop := (∀ p, p ≠ 11 → p ≠ 12 → p ≠ 15 → p ≠ 16 → p ≠ 18 → M p = M0 p) ∧ (∀ e, e < 61 → M 11 e = 0 ∧ M 12 e = 0 ∧ M 15 e = 0 ∧ M 16 e = 0) ∧ ∀ w, w < 22 → M 18 w = 0
set_option maxRecDepth 100000 in
set_option maxHeartbeats 4000000 in
theorem l_empty {X : gx_X} {P : Option Value → gx_M → Prop} : ∀ (d i : Nat) (M : gx_M), i + d = 61 → (∀ M1 : gx_M, (∀ q, q ≠ 16 → M1 q = M q) → (∀ j, j < i → M1 16 j = M 16 j) → (∀ j, i ≤ j → j < 61 → M1 16 j = 0) → P none M1) → gx_OK X 8 34 [.ref 2, .int (nI i)] [] M P := by
  intro d
  induction d with
  | zero =>
    intro i M hi hP
    refine gx_wp_ok 100 false _ _ _ _ ?_
    simp only [gx_w_np, gx_w_p, ne_eq, not_false_eq_true, gx_wp, gx_step, gx_cnd, gb0, gb1, Classical.not_not, List.getD_cons_zero, List.getD_cons_succ, List.set_cons_zero, List.set_cons_succ, List.length_cons, List.length_nil, Nat.reduceAdd, Nat.reduceLT, Nat.reduceLeDiff, Nat.reduceEqDiff, Bool.and_false, Bool.and_true, Bool.true_and, Bool.false_and, Bool.false_eq_true, if_false, if_true, ite_true, ite_false, Fin.isValue, Fin.val_zero, Fin.val_one, Fin.val_two, gz0, gz1, gz2, gz3, List.take_succ_cons, List.take_zero, List.drop_succ_cons, List.drop_zero, List.reverse_cons, List.reverse_nil, List.nil_append, List.cons_append, gx_nx, Int32.reduceToInt, Int.reduceToNat, Int.toNat_zero, Int.toNat_one, Int.reduceLT, Int.reduceLE, Int.ofNat_zero, Int.reduceNeg, Int.le_refl, and_self, List.getElem?_cons_zero, List.getElem?_cons_succ, true_and, and_true, Nat.reduceSub, List.replicate, List.append_nil, Nat.reduceLeDiff, Nat.le_add_left, Nat.zero_le, Nat.zero_add, gf1_15, gf1_24, gf1_27, gf1_34, gf1_9, gk_bipush_61, gk_iconst_0, gk_iconst_1, gm1_43, gn104, gn8, gr104, gr8, gv8, gi8_0, gi8_1, gi8_4, gi8_5, gi8_8, gi8_9, gi8_12, gi8_13, gi8_16, gi8_17, gi8_20, gi8_21, gi8_24, gi8_25, gi8_28, gi8_29, gi8_32, gi8_33, gi8_34, gi8_35, gi8_37, gi8_40, gi8_41, gi8_44, gi8_45, gi8_46, gi8_47, gi8_50, gi8_53, gl0, gl1, gl2, gl3, gl4, gl5, gl6, gl7, gl8, gl9, gl10, gl11, gl12, gl13, gl14, gl15, gl16, gl17, gl18, gl19, gl20, gl21, gl22, gl23, gl24, gl25, gl26, gl27, gl28, gl29, gl30, gl31, gl32, gl33, gl34, gl35, gl36, gl37, gl38, gl39, gl40, gl41, gl42, gl43, gl44, gl45, gl46, gl47, gl48, gl49, gl50, gl51, gl52, gl53, gl54, gl55, gl56, gl57]
    simp (disch := first | decide | omega) only [gx_w_np, gx_w_p, Int32.reduceToInt, Int.toNat_natCast, if_true, if_false, nI_1, nI_pred, i_nI, ite_true, ite_false, Int.reduceToNat, Nat.reduceEqDiff, Nat.reduceAdd, i_le]
    exact ⟨fun _ => hP M (fun _ _ => rfl) (fun _ _ => rfl) (fun j a b => absurd b (by omega)), fun q => absurd (by omega) q⟩
  | succ d ih =>
    intro i M hi hP
    refine gx_wp_ok 100 false _ _ _ _ ?_
    simp only [gx_w_np, gx_w_p, ne_eq, not_false_eq_true, gx_wp, gx_step, gx_cnd, gb0, gb1, Classical.not_not, List.getD_cons_zero, List.getD_cons_succ, List.set_cons_zero, List.set_cons_succ, List.length_cons, List.length_nil, Nat.reduceAdd, Nat.reduceLT, Nat.reduceLeDiff, Nat.reduceEqDiff, Bool.and_false, Bool.and_true, Bool.true_and, Bool.false_and, Bool.false_eq_true, if_false, if_true, ite_true, ite_false, Fin.isValue, Fin.val_zero, Fin.val_one, Fin.val_two, gz0, gz1, gz2, gz3, List.take_succ_cons, List.take_zero, List.drop_succ_cons, List.drop_zero, List.reverse_cons, List.reverse_nil, List.nil_append, List.cons_append, gx_nx, Int32.reduceToInt, Int.reduceToNat, Int.toNat_zero, Int.toNat_one, Int.reduceLT, Int.reduceLE, Int.ofNat_zero, Int.reduceNeg, Int.le_refl, and_self, List.getElem?_cons_zero, List.getElem?_cons_succ, true_and, and_true, Nat.reduceSub, List.replicate, List.append_nil, Nat.reduceLeDiff, Nat.le_add_left, Nat.zero_le, Nat.zero_add, gf1_15, gf1_24, gf1_27, gf1_34, gf1_9, gk_bipush_61, gk_iconst_0, gk_iconst_1, gm1_43, gn104, gn8, gr104, gr8, gv8, gi8_0, gi8_1, gi8_4, gi8_5, gi8_8, gi8_9, gi8_12, gi8_13, gi8_16, gi8_17, gi8_20, gi8_21, gi8_24, gi8_25, gi8_28, gi8_29, gi8_32, gi8_33, gi8_34, gi8_35, gi8_37, gi8_40, gi8_41, gi8_44, gi8_45, gi8_46, gi8_47, gi8_50, gi8_53, gl0, gl1, gl2, gl3, gl4, gl5, gl6, gl7, gl8, gl9, gl10, gl11, gl12, gl13, gl14, gl15, gl16, gl17, gl18, gl19, gl20, gl21, gl22, gl23, gl24, gl25, gl26, gl27, gl28, gl29, gl30, gl31, gl32, gl33, gl34, gl35, gl36, gl37, gl38, gl39, gl40, gl41, gl42, gl43, gl44, gl45, gl46, gl47, gl48, gl49, gl50, gl51, gl52, gl53, gl54, gl55, gl56, gl57]
    simp (disch := first | decide | omega) only [gx_w_np, gx_w_p, Int32.reduceToInt, Int.toNat_natCast, if_true, if_false, nI_1, nI_pred, i_nI, ite_true, ite_false, Int.reduceToNat, Nat.reduceEqDiff, Nat.reduceAdd, i_le]
    refine ⟨fun q => absurd q (by omega), fun _ => ⟨by omega, ih (i + 1) _ (by omega) (fun M1 a b c => hP M1 (fun q hq => ?_) (fun j hj => ?_) (fun j hj hn => ?_))⟩⟩
    · rw [a q hq]; funext j; rw [gx_w_np hq]
    · rw [b j (by omega), gx_w_p, if_neg (by omega)]
    · by_cases e : j = i
      · rw [e, b i (by omega), gx_w_p, if_pos rfl]
      · exact c j (by omega) hn
set_option maxRecDepth 100000 in
set_option maxHeartbeats 4000000 in
theorem sp_empty {X : gx_X} {M : gx_M} {P : Option Value → gx_M → Prop} (hP : ∀ M1, em M M1 → P none M1) : gx_C X 8 [.ref 2] M P := by
  refine gx_C_wp 100 ?_
  simp only [gx_w_np, gx_w_p, ne_eq, not_false_eq_true, gx_wp, gx_step, gx_cnd, gb0, gb1, Classical.not_not, List.getD_cons_zero, List.getD_cons_succ, List.set_cons_zero, List.set_cons_succ, List.length_cons, List.length_nil, Nat.reduceAdd, Nat.reduceLT, Nat.reduceLeDiff, Nat.reduceEqDiff, Bool.and_false, Bool.and_true, Bool.true_and, Bool.false_and, Bool.false_eq_true, if_false, if_true, ite_true, ite_false, Fin.isValue, Fin.val_zero, Fin.val_one, Fin.val_two, gz0, gz1, gz2, gz3, List.take_succ_cons, List.take_zero, List.drop_succ_cons, List.drop_zero, List.reverse_cons, List.reverse_nil, List.nil_append, List.cons_append, gx_nx, Int32.reduceToInt, Int.reduceToNat, Int.toNat_zero, Int.toNat_one, Int.reduceLT, Int.reduceLE, Int.ofNat_zero, Int.reduceNeg, Int.le_refl, and_self, List.getElem?_cons_zero, List.getElem?_cons_succ, true_and, and_true, Nat.reduceSub, List.replicate, List.append_nil, Nat.reduceLeDiff, Nat.le_add_left, Nat.zero_le, Nat.zero_add, gf1_15, gf1_24, gf1_27, gf1_34, gf1_9, gk_bipush_61, gk_iconst_0, gk_iconst_1, gm1_43, gn104, gn8, gr104, gr8, gv8, gi8_0, gi8_1, gi8_4, gi8_5, gi8_8, gi8_9, gi8_12, gi8_13, gi8_16, gi8_17, gi8_20, gi8_21, gi8_24, gi8_25, gi8_28, gi8_29, gi8_32, gi8_33, gi8_34, gi8_35, gi8_37, gi8_40, gi8_41, gi8_44, gi8_45, gi8_46, gi8_47, gi8_50, gi8_53, gl0, gl1, gl2, gl3, gl4, gl5, gl6, gl7, gl8, gl9, gl10, gl11, gl12, gl13, gl14, gl15, gl16, gl17, gl18, gl19, gl20, gl21, gl22, gl23, gl24, gl25, gl26, gl27, gl28, gl29, gl30, gl31, gl32, gl33, gl34, gl35, gl36, gl37, gl38, gl39, gl40, gl41, gl42, gl43, gl44, gl45, gl46, gl47, gl48, gl49, gl50, gl51, gl52, gl53, gl54, gl55, gl56, gl57]
  refine sp_fill (p := 11) (n := 61) (Or.inl ⟨Or.inl rfl, rfl⟩) (fun M1 a1 b1 => ?_)
  refine sp_fill (p := 12) (n := 61) (Or.inl ⟨Or.inr (Or.inl rfl), rfl⟩) (fun M2 a2 b2 => ?_)
  refine sp_fill (p := 15) (n := 61) (Or.inl ⟨Or.inr (Or.inr rfl), rfl⟩) (fun M3 a3 b3 => ?_)
  refine sp_fill (p := 18) (n := 22) (Or.inr (Or.inl ⟨Or.inl rfl, rfl⟩)) (fun M4 a4 b4 => ?_)
  have := l_empty (X := X) (P := P) 61 0 M4 (by omega) (fun M5 a5 b5 c5 => hP M5 ⟨fun p h1 h2 h3 h4 h5 => ?_, fun e he => ⟨?_, ?_, ?_, c5 e (by omega) he⟩, fun w hw => ?_⟩)
  · rw [nI_0] at this
    exact this
  · rw [a5 p h4]
    funext j
    rw [a4 p j h5, a3 p j h3, a2 p j h2, a1 p j h1]
  · rw [a5 11 (by decide), a4 11 e (by decide), a3 11 e (by decide), a2 11 e (by decide)]; exact b1 e he
  · rw [a5 12 (by decide), a4 12 e (by decide), a3 12 e (by decide)]; exact b2 e he
  · rw [a5 15 (by decide), a4 15 e (by decide)]; exact b3 e he
  · rw [a5 18 (by decide)]; exact b4 w hw
/-- a net in the making: halves in order, all that isn't put is 0, no flow, nothing held; how many halves at most there are at a vertex -/
def mk_ (M0 M : gx_M) (ep : Nat → Bool) (lo hi : Nat → Int32) (fa fb : Nat → Nat) (ct : Nat → Nat) : Prop :=
  (∀ p, p ≠ 11 → p ≠ 12 → p ≠ 13 → p ≠ 14 → p ≠ 15 → p ≠ 16 → p ≠ 17 → p ≠ 18 → M p = M0 p) ∧ st_H M ep ∧
  (∀ e, e < 61 → (ep e = true → M 11 e = lo e ∧ M 12 e = hi e ∧ M 13 e = nI (fa e) ∧ M 14 e = nI (fb e)) ∧ (ep e = false → M 11 e = 0 ∧ M 12 e = 0) ∧ M 15 e = 0 ∧ M 16 e = 0 ∧ (∃ a b, a < 22 ∧ b < 22 ∧ M 13 e = nI a ∧ M 14 e = nI b)) ∧
  (∀ w, w < 22 → ∃ c, c ≤ ct w ∧ M 18 w = nI c)
/-- one edge more: its two halves at the ends of two lists -/
theorem put_H {M M1 : gx_M} {ep : Nat → Bool} {e a b ca cb : Nat} (he : e < 61) (hne : ep e = false) (ha : a < 22) (hb : b < 22) (hab : a ≠ b) (hca : ca < 42) (hcb : cb < 42) (H : st_H M ep) (ca2 : M 18 a = nI ca) (cb2 : M 18 b = nI cb)
    (m13 : ∀ j, M1 13 j = if j = e then nI a else M 13 j) (m14 : ∀ j, M1 14 j = if j = e then nI b else M 14 j) (m17 : ∀ i, M1 17 i = if i = b * 42 + cb then nI (2 * e + 1) else if i = a * 42 + ca then nI (2 * e) else M 17 i)
    (m18 : ∀ w, M1 18 w = if w = b then nI (cb + 1) else if w = a then nI (ca + 1) else M 18 w) : st_H M1 (fun j => if j = e then true else ep j) := by
  have t_o : ∀ h, h / 2 ≠ e → nt_e M1 h = nt_e M h := by
    intro h hh
    unfold nt_e
    rw [m13, m14, if_neg hh, if_neg hh]
  have t_b : nt_e M1 (2 * e) = nI b := by
    unfold nt_e
    rw [if_pos (by omega), show 2 * e / 2 = e by omega, m14, if_pos rfl]
  have t_a : nt_e M1 (2 * e + 1) = nI a := by
    unfold nt_e
    rw [if_neg (by omega), show (2 * e + 1) / 2 = e by omega, m13, if_pos rfl]
  have x_0 : b_x (2 * e) = 2 * e + 1 := by unfold b_x; rw [if_pos (by omega)]
  have x_1 : b_x (2 * e + 1) = 2 * e := by unfold b_x; rw [if_neg (by omega)]; omega
  have old17 : ∀ w i c, w < 22 → M 18 w = nI c → c ≤ 42 → i < c → M1 17 (w * 42 + i) = M 17 (w * 42 + i) := by
    intro w i c hw hc hc42 hi
    rw [m17, if_neg ?_, if_neg ?_]
    · intro z
      have hwa : w = a := by omega
      rw [hwa, ca2] at hc
      have := nI_inj (by omega) (by omega) hc
      omega
    · intro z
      have hwb : w = b := by omega
      rw [hwb, cb2] at hc
      have := nI_inj (by omega) (by omega) hc
      omega
  have eq : ∀ h, ep (h / 2) = true → h / 2 ≠ e := fun h h1 z => by rw [z, hne] at h1; cases h1
  have old : ∀ w i c, w < 22 → M 18 w = nI c → c ≤ 42 → i < c → (∀ i, i < c → ∃ h, h < 122 ∧ M 17 (w * 42 + i) = nI h ∧ ep (h / 2) = true ∧ nt_e M (b_x h) = nI w) → ∃ h, h < 122 ∧ M1 17 (w * 42 + i) = nI h ∧ (if h / 2 = e then true else ep (h / 2)) = true ∧ nt_e M1 (b_x h) = nI w := by
    intro w i c hw hc hc42 hi h3
    obtain ⟨h, d1, d2, d3, d4⟩ := h3 i hi
    refine ⟨h, d1, by rw [old17 w i c hw hc hc42 hi]; exact d2, by rw [if_neg (eq h d3)]; exact d3, ?_⟩
    rw [t_o (b_x h) (by rw [b_x2]; exact eq h d3)]
    exact d4
  refine ⟨fun j hj hp => ?_, fun w hw => ?_, fun h hh hp w hw hwe => ?_⟩
  · by_cases z : j = e
    · exact ⟨a, b, ha, hb, by rw [m13, if_pos z], by rw [m14, if_pos z]⟩
    · rw [m13, m14, if_neg z, if_neg z]
      simp only [if_neg z] at hp
      exact H.1 j hj hp
  · obtain ⟨c, c1, c2, c3⟩ := H.2.1 w hw
    by_cases zb : w = b
    · have : c = cb := nI_inj (by omega) (by omega) (by rw [← c2, zb, cb2])
      subst this
      refine ⟨c + 1, by omega, by rw [m18, if_pos zb], fun i hi => ?_⟩
      by_cases zi : i = c
      · refine ⟨2 * e + 1, by omega, by rw [m17, if_pos (by rw [zb, zi])], ?_, by rw [x_1, t_b, zb]⟩
        show (if (2 * e + 1) / 2 = e then true else _) = true
        rw [if_pos (by omega)]
      · exact old w i c hw c2 c1 (by omega) c3
    · by_cases za : w = a
      · have : c = ca := nI_inj (by omega) (by omega) (by rw [← c2, za, ca2])
        subst this
        refine ⟨c + 1, by omega, by rw [m18, if_neg zb, if_pos za], fun i hi => ?_⟩
        by_cases zi : i = c
        · refine ⟨2 * e, by omega, by rw [m17, if_neg (by omega), if_pos (by rw [za, zi])], ?_, by rw [x_0, t_a, za]⟩
          show (if 2 * e / 2 = e then true else _) = true
          rw [if_pos (by omega)]
        · exact old w i c hw c2 c1 (by omega) c3
      · exact ⟨c, c1, by rw [m18, if_neg zb, if_neg za]; exact c2, fun i hi => old w i c hw c2 c1 hi c3⟩
  · by_cases z : h / 2 = e
    · by_cases z2 : h = 2 * e
      · rw [z2, x_0, t_a] at hwe
        have : a = w := nI_inj (by omega) (by omega) hwe
        subst this
        refine ⟨ca, ca + 1, by omega, by rw [m18, if_neg hab, if_pos rfl], by omega, ?_⟩
        rw [m17, if_neg (by omega), if_pos rfl, z2]
      · have z3 : h = 2 * e + 1 := by omega
        rw [z3, x_1, t_b] at hwe
        have : b = w := nI_inj (by omega) (by omega) hwe
        subst this
        refine ⟨cb, cb + 1, by omega, by rw [m18, if_pos rfl], by omega, ?_⟩
        rw [m17, if_pos rfl, z3]
    · simp only [if_neg z] at hp
      rw [t_o (b_x h) (by rw [b_x2]; exact z)] at hwe
      obtain ⟨i, c, d0, d1, d2, d3⟩ := H.2.2 h hh hp w hw hwe
      have o17 := old17 w i c hw d1 d0 d2
      by_cases zb : w = b
      · have : c = cb := nI_inj (by omega) (by omega) (by rw [← d1, zb, cb2])
        exact ⟨i, cb + 1, by omega, by rw [m18, if_pos zb], by omega, by rw [o17]; exact d3⟩
      · by_cases za : w = a
        · have : c = ca := nI_inj (by omega) (by omega) (by rw [← d1, za, ca2])
          exact ⟨i, ca + 1, by omega, by rw [m18, if_neg zb, if_pos za], by omega, by rw [o17]; exact d3⟩
        · exact ⟨i, c, d0, by rw [m18, if_neg zb, if_neg za]; exact d1, d2, by rw [o17]; exact d3⟩
set_option maxRecDepth 100000 in
set_option maxHeartbeats 4000000 in
theorem sp_put {X : gx_X} {M0 M : gx_M} {ep : Nat → Bool} {lo hi : Nat → Int32} {fa fb ct : Nat → Nat} {e : Nat} {P : Option Value → gx_M → Prop} (K : mk_ M0 M ep lo hi fa fb ct) (he : e < 61) (hne : ep e = false) (ha : fa e < 22) (hb : fb e < 22) (hab : fa e ≠ fb e) (hca : ct (fa e) < 42) (hcb : ct (fb e) < 42)
    (hP : ∀ M1, mk_ M0 M1 (fun j => if j = e then true else ep j) lo hi fa fb (fun w => if w = fa e then ct w + 1 else if w = fb e then ct w + 1 else ct w) → P none M1) : gx_C X 9 [.ref 2, .int (nI e), .int (nI (fa e)), .int (nI (fb e)), .int (lo e), .int (hi e)] M P := by
  refine gx_C_wp 100 ?_
  simp only [gx_w_np, gx_w_p, ne_eq, not_false_eq_true, gx_wp, gx_step, gx_cnd, gb0, gb1, Classical.not_not, List.getD_cons_zero, List.getD_cons_succ, List.set_cons_zero, List.set_cons_succ, List.length_cons, List.length_nil, Nat.reduceAdd, Nat.reduceLT, Nat.reduceLeDiff, Nat.reduceEqDiff, Bool.and_false, Bool.and_true, Bool.true_and, Bool.false_and, Bool.false_eq_true, if_false, if_true, ite_true, ite_false, Fin.isValue, Fin.val_zero, Fin.val_one, Fin.val_two, gz0, gz1, gz2, gz3, List.take_succ_cons, List.take_zero, List.drop_succ_cons, List.drop_zero, List.reverse_cons, List.reverse_nil, List.nil_append, List.cons_append, gx_nx, Int32.reduceToInt, Int.reduceToNat, Int.toNat_zero, Int.toNat_one, Int.reduceLT, Int.reduceLE, Int.ofNat_zero, Int.reduceNeg, Int.le_refl, and_self, List.getElem?_cons_zero, List.getElem?_cons_succ, true_and, and_true, Nat.reduceSub, List.replicate, List.append_nil, Nat.reduceLeDiff, Nat.le_add_left, Nat.zero_le, Nat.zero_add, gf1_15, gf1_18, gf1_21, gf1_9, gk_iconst_1, gk_iconst_2, gm1_49, gn10, gn9, gr10, gr9, gv9, gi9_0, gi9_1, gi9_4, gi9_5, gi9_6, gi9_7, gi9_8, gi9_11, gi9_12, gi9_13, gi9_14, gi9_15, gi9_18, gi9_19, gi9_21, gi9_22, gi9_23, gi9_26, gi9_27, gi9_29, gi9_30, gi9_31, gi9_32, gi9_33, gi9_34, gi9_35, gi9_38, gi9_39, gi9_40, gi9_41, gi9_42, gi9_43, gi9_44, gi9_45, gi9_48, gl0, gl1, gl2, gl3, gl4, gl5, gl6, gl7, gl8, gl9, gl10, gl11, gl12, gl13, gl14, gl15, gl16, gl17, gl18, gl19, gl20, gl21, gl22, gl23, gl24, gl25, gl26, gl27, gl28, gl29, gl30, gl31, gl32, gl33, gl34, gl35, gl36, gl37, gl38, gl39, gl40, gl41, gl42, gl43, gl44, gl45, gl46, gl47, gl48, gl49, gl50, gl51, gl52, gl53, gl54, gl55, gl56, gl57]
  obtain ⟨k1, k2, k3, k4⟩ := id K
  obtain ⟨ca, ca1, ca2⟩ := k4 (fa e) ha
  obtain ⟨cb, cb1, cb2⟩ := k4 (fb e) hb
  have e2 : (2 : Int32) * nI e = nI (2 * e) := by rw [show (2 : Int32) = nI 2 by decide, pk_mul]
  rw [e2]
  simp (disch := first | decide | omega) only [gx_w_np, gx_w_p, Int32.reduceToInt, Int.toNat_natCast, if_true, if_false, nI_1, nI_pred, i_nI, ite_true, ite_false, Int.reduceToNat, Nat.reduceEqDiff, Nat.reduceAdd]
  refine ⟨by omega, by omega, by omega, by omega, ?_⟩
  refine sp_addHalf (c := ca) ha (by simp (disch := first | decide | omega) only [gx_w_np, gx_w_p, Int32.reduceToInt, Int.toNat_natCast, if_true, if_false, nI_1, nI_pred, i_nI, ite_true, ite_false, Int.reduceToNat, Nat.reduceEqDiff, Nat.reduceAdd]; exact ca2) (by omega) ?_
  refine sp_addHalf (c := cb) hb (by
    simp (disch := first | decide | omega) only [gx_w_np, gx_w_p, Int32.reduceToInt, Int.toNat_natCast, if_true, if_false, nI_1, nI_pred, i_nI, ite_true, ite_false, Int.reduceToNat, Nat.reduceEqDiff, Nat.reduceAdd]
    rw [if_neg (fun z => hab z.symm)]; exact cb2) (by omega) ?_
  refine hP _ ⟨?_, ?_, ?_, ?_⟩
  · intro p h1 h2 h3 h4 h5 h6 h7 h8
    rw [← k1 p h1 h2 h3 h4 h5 h6 h7 h8]
    funext j
    rw [gx_w_np h8, gx_w_np h7, gx_w_np h8, gx_w_np h7, gx_w_np h2, gx_w_np h1, gx_w_np h4, gx_w_np h3]
  · refine put_H he hne ha hb hab (by omega) (by omega) k2 ca2 cb2 (fun j => ?_) (fun j => ?_) (fun j => ?_) (fun j => ?_) <;> simp (disch := first | decide | omega) only [gx_w_np, gx_w_p, Int32.reduceToInt, Int.toNat_natCast, if_true, if_false, nI_1, nI_pred, i_nI, ite_true, ite_false, Int.reduceToNat, Nat.reduceEqDiff, Nat.reduceAdd]
  · intro j hj
    have := k3 j hj
    by_cases z : j = e
    · refine ⟨fun _ => ⟨?_, ?_, ?_, ?_⟩, fun q => ?_, ?_, ?_, fa e, fb e, ha, hb, ?_, ?_⟩
      · simp (disch := first | decide | omega) only [gx_w_np, gx_w_p, Int32.reduceToInt, Int.toNat_natCast, if_true, if_false, nI_1, nI_pred, i_nI, ite_true, ite_false, Int.reduceToNat, Nat.reduceEqDiff, Nat.reduceAdd, z]
      · simp (disch := first | decide | omega) only [gx_w_np, gx_w_p, Int32.reduceToInt, Int.toNat_natCast, if_true, if_false, nI_1, nI_pred, i_nI, ite_true, ite_false, Int.reduceToNat, Nat.reduceEqDiff, Nat.reduceAdd, z]
      · simp (disch := first | decide | omega) only [gx_w_np, gx_w_p, Int32.reduceToInt, Int.toNat_natCast, if_true, if_false, nI_1, nI_pred, i_nI, ite_true, ite_false, Int.reduceToNat, Nat.reduceEqDiff, Nat.reduceAdd, z]
      · simp (disch := first | decide | omega) only [gx_w_np, gx_w_p, Int32.reduceToInt, Int.toNat_natCast, if_true, if_false, nI_1, nI_pred, i_nI, ite_true, ite_false, Int.reduceToNat, Nat.reduceEqDiff, Nat.reduceAdd, z]
      · simp only [if_pos z] at q
        cases q
      · simp (disch := first | decide | omega) only [gx_w_np, gx_w_p, Int32.reduceToInt, Int.toNat_natCast, if_true, if_false, nI_1, nI_pred, i_nI, ite_true, ite_false, Int.reduceToNat, Nat.reduceEqDiff, Nat.reduceAdd]; exact this.2.2.1
      · simp (disch := first | decide | omega) only [gx_w_np, gx_w_p, Int32.reduceToInt, Int.toNat_natCast, if_true, if_false, nI_1, nI_pred, i_nI, ite_true, ite_false, Int.reduceToNat, Nat.reduceEqDiff, Nat.reduceAdd]; exact this.2.2.2.1
      · simp (disch := first | decide | omega) only [gx_w_np, gx_w_p, Int32.reduceToInt, Int.toNat_natCast, if_true, if_false, nI_1, nI_pred, i_nI, ite_true, ite_false, Int.reduceToNat, Nat.reduceEqDiff, Nat.reduceAdd, z]
      · simp (disch := first | decide | omega) only [gx_w_np, gx_w_p, Int32.reduceToInt, Int.toNat_natCast, if_true, if_false, nI_1, nI_pred, i_nI, ite_true, ite_false, Int.reduceToNat, Nat.reduceEqDiff, Nat.reduceAdd, z]
    · simp only [if_neg z]
      simp (disch := first | decide | omega) only [gx_w_np, gx_w_p, Int32.reduceToInt, Int.toNat_natCast, if_true, if_false, nI_1, nI_pred, i_nI, ite_true, ite_false, Int.reduceToNat, Nat.reduceEqDiff, Nat.reduceAdd]
      simp only [if_neg z]
      exact this
  · intro w hw
    obtain ⟨c, c1, c2⟩ := k4 w hw
    by_cases z1 : w = fb e
    · refine ⟨cb + 1, ?_, ?_⟩
      · show cb + 1 ≤ if w = fa e then ct w + 1 else if w = fb e then ct w + 1 else ct w
        rw [if_neg (by rw [z1]; exact fun q => hab q.symm), if_pos z1, z1]; omega
      · simp (disch := first | decide | omega) only [gx_w_np, gx_w_p, Int32.reduceToInt, Int.toNat_natCast, if_true, if_false, nI_1, nI_pred, i_nI, ite_true, ite_false, Int.reduceToNat, Nat.reduceEqDiff, Nat.reduceAdd]
        rw [if_pos z1]
    · by_cases z2 : w = fa e
      · refine ⟨ca + 1, ?_, ?_⟩
        · show ca + 1 ≤ if w = fa e then ct w + 1 else if w = fb e then ct w + 1 else ct w
          rw [if_pos z2, z2]; omega
        · simp (disch := first | decide | omega) only [gx_w_np, gx_w_p, Int32.reduceToInt, Int.toNat_natCast, if_true, if_false, nI_1, nI_pred, i_nI, ite_true, ite_false, Int.reduceToNat, Nat.reduceEqDiff, Nat.reduceAdd]
          rw [if_neg z1, if_pos z2]
      · refine ⟨c, ?_, ?_⟩
        · show c ≤ if w = fa e then ct w + 1 else if w = fb e then ct w + 1 else ct w
          rw [if_neg z2, if_neg z1]; exact c1
        · simp (disch := first | decide | omega) only [gx_w_np, gx_w_p, Int32.reduceToInt, Int.toNat_natCast, if_true, if_false, nI_1, nI_pred, i_nI, ite_true, ite_false, Int.reduceToNat, Nat.reduceEqDiff, Nat.reduceAdd]
          rw [if_neg z1, if_neg z2]; exact c2
