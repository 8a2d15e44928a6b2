/-! send's contract; carry. -/
set_option maxRecDepth 100000 in
set_option maxHeartbeats 4000000 in
theorem sp_send {X : gx_X} {M : gx_M} {ep : Nat → Bool} {rk : Nat → Nat} {s g : Nat} {a : Int32} {P : Option Value → gx_M → Prop} (S : pw_S M ep rk s) (hg : g < 22) (hr : rk g ≤ 21) (hn : M 19 g ≠ -1) (ha0 : 0 ≤ a.toInt) (ha : a.toInt ≤ 100000) (hf : ∀ e, e < 61 → -200000 ≤ nf M e ∧ nf M e ≤ 200000) (hP : ∀ M1, sd_1 M M1 g s a.toInt → P none M1) : gx_C X 20 [.ref 2, .int (nI g), .int a] M P := by
  refine gx_C_wp 100 ?_
  simp only [gx_w_np, gx_w_p, ne_eq, not_false_eq_true, gx_wp, gx_step, gx_cnd, gb0, gb1, Classical.not_not, List.getD_cons_zero, List.getD_cons_succ, List.set_cons_zero, List.set_cons_succ, List.length_cons, List.length_nil, Nat.reduceAdd, Nat.reduceLT, Nat.reduceLeDiff, Nat.reduceEqDiff, Bool.and_false, Bool.and_true, Bool.true_and, Bool.false_and, Bool.false_eq_true, if_false, if_true, ite_true, ite_false, Fin.isValue, Fin.val_zero, Fin.val_one, Fin.val_two, gz0, gz1, gz2, gz3, List.take_succ_cons, List.take_zero, List.drop_succ_cons, List.drop_zero, List.reverse_cons, List.reverse_nil, List.nil_append, List.cons_append, gx_nx, Int32.reduceToInt, Int.reduceToNat, Int.toNat_zero, Int.toNat_one, Int.reduceLT, Int.reduceLE, Int.ofNat_zero, Int.reduceNeg, Int.le_refl, and_self, List.getElem?_cons_zero, List.getElem?_cons_succ, true_and, and_true, Nat.reduceSub, List.replicate, List.append_nil, Nat.reduceLeDiff, Nat.le_add_left, Nat.zero_le, Nat.zero_add, gf1_24, gf1_37, gk_bipush_22, gk_iconst_0, gk_iconst_1, gk_iconst_m1, gm1_83, gn20, gn21, gr20, gr21, gv20, gi20_0, gi20_1, gi20_4, gi20_5, gi20_6, gi20_7, gi20_8, gi20_10, gi20_12, gi20_14, gi20_17, gi20_18, gi20_19, gi20_22, gi20_23, gi20_26, gi20_27, gi20_28, gi20_29, gi20_30, gi20_31, gi20_32, gi20_33, gi20_34, gi20_37, gi20_38, gi20_41, gi20_42, gi20_43, gi20_44, gi20_45, gi20_46, gi20_49, gi20_50, gi20_51, gi20_52, gi20_53, gi20_56, gi20_57, gi20_58, gi20_61, gi20_64, gl0, gl1, gl2, gl3, gl4, gl5, gl6, gl7, gl8, gl9, gl10, gl11, gl12, gl13, gl14, gl15, gl16, gl17, gl18, gl19, gl20, gl21, gl22, gl23, gl24, gl25, gl26, gl27, gl28, gl29, gl30, gl31, gl32, gl33, gl34, gl35, gl36, gl37, gl38, gl39, gl40, gl41, gl42, gl43, gl44, gl45, gl46, gl47, gl48, gl49, gl50, gl51, gl52, gl53, gl54, gl55, gl56, gl57]
  simp (disch := first | decide | omega) only [gx_w_np, gx_w_p, Int32.reduceToInt, Int.toNat_natCast, if_true, if_false, nI_1, nI_pred, i_nI, ite_true, ite_false, Int.reduceToNat, Nat.reduceEqDiff, Nat.reduceAdd]
  have h1 := l_send (X := X) (g := g) S ha0 ha hf hP (rk g + 1) 0 M (by show rk g < rk g + 1; omega) (by show rk g + 0 ≤ 21; omega) hg (Or.inr hn) (fun i hi => absurd hi (by omega)) ⟨fun _ _ => rfl, fun _ _ _ => rfl, fun i hi => absurd hi (by omega), fun v => by
    show nt_d 61 (na M) (nb M) (nf M) v = nt_d 61 (na M) (nb M) (nf M) v + a.toInt * ((if v = g then 1 else 0) - (if v = g then 1 else 0))
    rw [Int.sub_self, Int.mul_zero]; omega, fun i hi => absurd hi (by omega)⟩
  rw [nI_0] at h1
  exact ⟨by omega, h1⟩
def nlo (M : gx_M) (e : Nat) : Int := (M 11 e).toInt
def nhi (M : gx_M) (e : Nat) : Int := (M 12 e).toInt
/-- a net in order -/
def nv (M : gx_M) (ep : Nat → Bool) : Prop := st_H M ep ∧ ∀ e, e < 61 → 0 ≤ nlo M e ∧ nlo M e ≤ nhi M e ∧ nhi M e ≤ 100001 ∧ 0 ≤ nf M e ∧ nf M e ≤ nhi M e ∧ (ep e = false → nhi M e = 0)
/-- what c more from s to g did -/
def cy (M M1 : gx_M) (s g : Nat) (c : Int) : Prop := (∀ p, p ≠ 15 → p ≠ 19 → p ≠ 20 → M1 p = M p) ∧
  (∀ e, e < 61 → (M 16 e ≠ 0 → nf M1 e = nf M e) ∧ (nf M e ≤ nf M1 e ∨ nlo M e ≤ nf M1 e) ∧ nf M1 e ≤ nhi M e) ∧
  (∀ v, nt_d 61 (na M) (nb M) (nf M1) v = nt_d 61 (na M) (nb M) (nf M) v + c * ((if v = g then 1 else 0) - (if v = s then 1 else 0)))
/-- a set out of which nothing more can go -/
def cut (M : gx_M) (ep : Nat → Bool) (s g : Nat) : Prop := ∃ S : Nat → Bool, S s = true ∧ S g = false ∧ ∀ h, h < 122 → ep (h / 2) = true → S (nt_e M (b_x h)).toInt.toNat = true → 0 < (nt_l M h).toInt → S (nt_e M h).toInt.toNat = true
theorem st_H_eq {M M1 : gx_M} {ep : Nat → Bool} (h : ∀ p, p ≠ 15 → p ≠ 19 → p ≠ 20 → M1 p = M p) (H : st_H M ep) : st_H M1 ep := by
  have e1 : ∀ x, nt_e M1 x = nt_e M x := fun x => by
    unfold nt_e
    rw [h 13 (by decide) (by decide) (by decide), h 14 (by decide) (by decide) (by decide)]
  unfold st_H
  rw [h 13 (by decide) (by decide) (by decide), h 14 (by decide) (by decide) (by decide), h 17 (by decide) (by decide) (by decide), h 18 (by decide) (by decide) (by decide)]
  simp only [e1]
  exact H
theorem nv_cy {M M1 : gx_M} {ep : Nat → Bool} {s g : Nat} {c : Int} (N : nv M ep) (C : cy M M1 s g c) : nv M1 ep := by
  obtain ⟨c1, c2, c3⟩ := C
  refine ⟨st_H_eq c1 N.1, fun e he => ?_⟩
  have h1 := N.2 e he
  have h2 := c2 e he
  have e1 : nlo M1 e = nlo M e := by unfold nlo; rw [c1 11 (by decide) (by decide) (by decide)]
  have e2 : nhi M1 e = nhi M e := by unfold nhi; rw [c1 12 (by decide) (by decide) (by decide)]
  rw [e1, e2]
  refine ⟨h1.1, h1.2.1, h1.2.2.1, ?_, h2.2.2, h1.2.2.2.2.2⟩
  rcases h2.2.1 with z | z <;> omega
theorem cy_0 {M M1 : gx_M} {ep : Nat → Bool} {s g : Nat} (N : nv M ep) (h : ∀ p, p ≠ 19 → p ≠ 20 → M1 p = M p) : cy M M1 s g 0 := by
  have e1 : nf M1 = nf M := by unfold nf; rw [h 15 (by decide) (by decide)]
  refine ⟨fun p _ a b => h p a b, fun e he => ?_, fun v => ?_⟩
  · rw [e1]
    exact ⟨fun _ => rfl, Or.inl (Int.le_refl _), (N.2 e he).2.2.2.2.1⟩
  · rw [e1]; omega
theorem cy_trans {M M1 M2 : gx_M} {s g : Nat} {c d : Int} (A : cy M M1 s g c) (B : cy M1 M2 s g d) : cy M M2 s g (c + d) := by
  obtain ⟨a1, a2, a3⟩ := A
  obtain ⟨b1, b2, b3⟩ := B
  have e1 : na M1 = na M := by unfold na; rw [a1 13 (by decide) (by decide) (by decide)]
  have e2 : nb M1 = nb M := by unfold nb; rw [a1 14 (by decide) (by decide) (by decide)]
  have e3 : ∀ e, nlo M1 e = nlo M e := fun e => by unfold nlo; rw [a1 11 (by decide) (by decide) (by decide)]
  have e4 : ∀ e, nhi M1 e = nhi M e := fun e => by unfold nhi; rw [a1 12 (by decide) (by decide) (by decide)]
  refine ⟨fun p h1 h2 h3 => by rw [b1 p h1 h2 h3, a1 p h1 h2 h3], fun e he => ?_, fun v => ?_⟩
  · have h1 := a2 e he
    have h2 := b2 e he
    rw [e3, e4] at h2
    rw [a1 16 (by decide) (by decide) (by decide)] at h2
    refine ⟨fun z => by rw [h2.1 z, h1.1 z], ?_, h2.2.2⟩
    rcases h1.2.1 with z | z <;> rcases h2.2.1 with z2 | z2
    · exact Or.inl (by omega)
    · exact Or.inr z2
    · exact Or.inr (by omega)
    · exact Or.inr z2
  · have h1 := a3 v
    have h2 := b3 v
    rw [e1, e2] at h2
    rw [h2, h1, Int.add_mul]
    omega
/-- what is left on a half, as a whole number -/
theorem nt_l_pos {M : gx_M} {ep : Nat → Bool} {h : Nat} (N : nv M ep) (hh : h < 122) {a : Int} (ha : 0 < a) (hl : a ≤ (nt_l M h).toInt) : M 16 (h / 2) = 0 ∧ (h % 2 = 0 → nf M (h / 2) + a ≤ nhi M (h / 2)) ∧ (¬ h % 2 = 0 → nlo M (h / 2) ≤ nf M (h / 2) - a) := by
  have n1 := N.2 (h / 2) (by omega)
  unfold nt_l at hl
  unfold nf nlo nhi at *
  by_cases e : M 16 (h / 2) = 0
  · rw [if_pos e] at hl
    refine ⟨e, fun q => ?_, fun q => ?_⟩
    · rw [if_pos q, i_sub (by omega) (by omega)] at hl
      omega
    · rw [if_neg q, i_sub (by omega) (by omega)] at hl
      omega
  · rw [if_neg e] at hl
    simp at hl
    omega
theorem cy_send {M M1 : gx_M} {ep : Nat → Bool} {s g : Nat} {a : Int} (N : nv M ep) (ha : 0 < a) (hl : ∀ v, onp M g s v → a ≤ (nt_l M (ph M v)).toInt) (S : ∀ v, v < 22 → M 19 v ≠ -1 → ph M v < 122) (D : sd_1 M M1 g s a) : cy M M1 s g a := by
  obtain ⟨d1, d2, d3⟩ := D
  refine ⟨fun p h1 _ _ => d1 p h1, fun e he => ?_, d3⟩
  have n1 := N.2 e he
  rcases d2 e he with z | ⟨v, v1, v2, v3, v4, v5⟩
  · rw [z]
    exact ⟨fun _ => rfl, Or.inl (Int.le_refl _), n1.2.2.2.2.1⟩
  · obtain ⟨f1, f2, f3⟩ := nt_l_pos N (S v v2 v3) ha (hl v v1)
    rw [v4] at f1 f2 f3
    refine ⟨fun q => absurd f1 q, ?_, ?_⟩
    · rw [v5]; unfold sg
      by_cases q : ph M v % 2 = 0
      · rw [if_pos q]; left; omega
      · rw [if_neg q]; right; have := f3 q; omega
    · rw [v5]; unfold sg
      by_cases q : ph M v % 2 = 0
      · rw [if_pos q]; have := f2 q; omega
      · rw [if_neg q]; omega
theorem cut_eq {M M1 : gx_M} {ep : Nat → Bool} {s g : Nat} (B : bf_0 M M1 ep s g) : cut M1 ep s g := by
  obtain ⟨b1, S, b2, b3, b4⟩ := B
  refine ⟨S, b2, b3, fun h h1 h2 h3 h4 => ?_⟩
  rw [nt_e_eq b1] at h3 ⊢
  rw [nt_l_eq b1] at h4
  exact b4 h h1 h2 h3 h4
set_option maxRecDepth 100000 in
set_option maxHeartbeats 4000000 in
theorem l_carry {X : gx_X} {M0 : gx_M} {ep : Nat → Bool} {s g : Nat} {l : Int32} {P : Option Value → gx_M → Prop} (hs : s < 22) (hg : g < 22) (hgs : g ≠ s) (N0 : nv M0 ep) (hl0 : 0 ≤ l.toInt) (hl : l.toInt ≤ 200000)
    (hP : ∀ (c : Int32) (M : gx_M), 0 ≤ c.toInt → c.toInt ≤ l.toInt → cy M0 M s g c.toInt → (c.toInt = l.toInt ∨ cut M ep s g) → P (some (.int c)) M) :
    ∀ (d : Nat) (r : Nat) (c : Int32) (M : gx_M) (v6 : Value), (r : Int) + d = l.toInt → (r : Int) ≤ c.toInt → c.toInt ≤ l.toInt → cy M0 M s g c.toInt → gx_OK X 17 6 [.ref 2, .int (nI s), .int (nI g), .int l, .int c, .int (nI r), v6] [] M P := by
  intro d
  induction d with
  | zero =>
    intro r c M v6 h1 h2 h3 C
    refine gx_wp_ok 100 false _ _ _ _ ?_
    simp only [gx_w_np, gx_w_p, ne_eq, not_false_eq_true, gx_wp, gx_step, gx_cnd, gb0, gb1, Classical.not_not, List.getD_cons_zero, List.getD_cons_succ, List.set_cons_zero, List.set_cons_succ, List.length_cons, List.length_nil, Nat.reduceAdd, Nat.reduceLT, Nat.reduceLeDiff, Nat.reduceEqDiff, Bool.and_false, Bool.and_true, Bool.true_and, Bool.false_and, Bool.false_eq_true, if_false, if_true, ite_true, ite_false, Fin.isValue, Fin.val_zero, Fin.val_one, Fin.val_two, gz0, gz1, gz2, gz3, List.take_succ_cons, List.take_zero, List.drop_succ_cons, List.drop_zero, List.reverse_cons, List.reverse_nil, List.nil_append, List.cons_append, gx_nx, Int32.reduceToInt, Int.reduceToNat, Int.toNat_zero, Int.toNat_one, Int.reduceLT, Int.reduceLE, Int.ofNat_zero, Int.reduceNeg, Int.le_refl, and_self, List.getElem?_cons_zero, List.getElem?_cons_succ, true_and, and_true, Nat.reduceSub, List.replicate, List.append_nil, Nat.reduceLeDiff, Nat.le_add_left, Nat.zero_le, Nat.zero_add, gk_iconst_0, gk_iconst_1, gm1_63, gm1_72, gm1_76, gm1_80, gn103, gn17, gn18, gn19, gn20, gr103, gr17, gr18, gr19, gr20, gv17, gi17_0, gi17_1, gi17_3, gi17_4, gi17_6, gi17_8, gi17_9, gi17_12, gi17_14, gi17_15, gi17_18, gi17_19, gi17_20, gi17_21, gi17_24, gi17_27, gi17_30, gi17_31, gi17_33, gi17_34, gi17_35, gi17_36, gi17_39, gi17_42, gi17_44, gi17_45, gi17_46, gi17_48, gi17_51, gi17_53, gi17_55, gi17_56, gi17_58, gi17_61, gi17_64, gi17_66, gl0, gl1, gl2, gl3, gl4, gl5, gl6, gl7, gl8, gl9, gl10, gl11, gl12, gl13, gl14, gl15, gl16, gl17, gl18, gl19, gl20, gl21, gl22, gl23, gl24, gl25, gl26, gl27, gl28, gl29, gl30, gl31, gl32, gl33, gl34, gl35, gl36, gl37, gl38, gl39, gl40, gl41, gl42, gl43, gl44, gl45, gl46, gl47, gl48, gl49, gl50, gl51, gl52, gl53, gl54, gl55, gl56, gl57]
    simp (disch := first | decide | omega) only [gx_w_np, gx_w_p, Int32.reduceToInt, Int.toNat_natCast, if_true, if_false, nI_1, nI_pred, i_nI, ite_true, ite_false, Int.reduceToNat, Nat.reduceEqDiff, Nat.reduceAdd, i_le]
    exact ⟨fun _ => hP c M (by omega) h3 C (Or.inl (by omega)), fun q => absurd (by omega) q⟩
  | succ d ih =>
    intro r c M v6 h1 h2 h3 C
    have N := nv_cy N0 C
    refine gx_wp_ok 100 false _ _ _ _ ?_
    simp only [gx_w_np, gx_w_p, ne_eq, not_false_eq_true, gx_wp, gx_step, gx_cnd, gb0, gb1, Classical.not_not, List.getD_cons_zero, List.getD_cons_succ, List.set_cons_zero, List.set_cons_succ, List.length_cons, List.length_nil, Nat.reduceAdd, Nat.reduceLT, Nat.reduceLeDiff, Nat.reduceEqDiff, Bool.and_false, Bool.and_true, Bool.true_and, Bool.false_and, Bool.false_eq_true, if_false, if_true, ite_true, ite_false, Fin.isValue, Fin.val_zero, Fin.val_one, Fin.val_two, gz0, gz1, gz2, gz3, List.take_succ_cons, List.take_zero, List.drop_succ_cons, List.drop_zero, List.reverse_cons, List.reverse_nil, List.nil_append, List.cons_append, gx_nx, Int32.reduceToInt, Int.reduceToNat, Int.toNat_zero, Int.toNat_one, Int.reduceLT, Int.reduceLE, Int.ofNat_zero, Int.reduceNeg, Int.le_refl, and_self, List.getElem?_cons_zero, List.getElem?_cons_succ, true_and, and_true, Nat.reduceSub, List.replicate, List.append_nil, Nat.reduceLeDiff, Nat.le_add_left, Nat.zero_le, Nat.zero_add, gk_iconst_0, gk_iconst_1, gm1_63, gm1_72, gm1_76, gm1_80, gn103, gn17, gn18, gn19, gn20, gr103, gr17, gr18, gr19, gr20, gv17, gi17_0, gi17_1, gi17_3, gi17_4, gi17_6, gi17_8, gi17_9, gi17_12, gi17_14, gi17_15, gi17_18, gi17_19, gi17_20, gi17_21, gi17_24, gi17_27, gi17_30, gi17_31, gi17_33, gi17_34, gi17_35, gi17_36, gi17_39, gi17_42, gi17_44, gi17_45, gi17_46, gi17_48, gi17_51, gi17_53, gi17_55, gi17_56, gi17_58, gi17_61, gi17_64, gi17_66, gl0, gl1, gl2, gl3, gl4, gl5, gl6, gl7, gl8, gl9, gl10, gl11, gl12, gl13, gl14, gl15, gl16, gl17, gl18, gl19, gl20, gl21, gl22, gl23, gl24, gl25, gl26, gl27, gl28, gl29, gl30, gl31, gl32, gl33, gl34, gl35, gl36, gl37, gl38, gl39, gl40, gl41, gl42, gl43, gl44, gl45, gl46, gl47, gl48, gl49, gl50, gl51, gl52, gl53, gl54, gl55, gl56, gl57]
    simp (disch := first | decide | omega) only [gx_w_np, gx_w_p, Int32.reduceToInt, Int.toNat_natCast, if_true, if_false, nI_1, nI_pred, i_nI, ite_true, ite_false, Int.reduceToNat, Nat.reduceEqDiff, Nat.reduceAdd, i_le]
    refine ⟨fun q => absurd q (by omega), fun _ => ⟨fun q => hP c M (by omega) h3 C (Or.inl (by omega)), fun q => ?_⟩⟩
    refine sp_reaches N.1 hs hg hgs (fun M1 B => ?_) (fun M1 B => ?_)
    · intro z hz
      cases hz
      refine ⟨fun q => absurd rfl q, fun _ => hP c M1 (by omega) h3 ?_ (Or.inr (cut_eq B))⟩
      have := cy_trans C (cy_0 (s := s) (g := g) N B.1)
      rwa [Int.add_zero] at this
    · intro z hz
      cases hz
      refine ⟨fun _ => ?_, fun q => absurd q (by decide)⟩
      have C1 := cy_trans C (cy_0 (s := s) (g := g) N B.1)
      rw [Int.add_zero] at C1
      have N1 := nv_cy N0 C1
      obtain ⟨rk, r1, r2, r3⟩ := bf_1_S B
      have hph : ∀ v, v < 22 → M1 19 v ≠ -1 → ph M1 v < 122 := by
        intro v hv hn
        obtain ⟨h, u, c1, c2, -⟩ := r3.2 v hv hn
        unfold ph
        rw [c2, i_nI (by omega)]
        simp only [Int.toNat_natCast]
        exact c1
      refine sp_narrowest r3 hg r1 r2 (fun L l1 l2 l3 => ?_)
      intro z hz
      cases hz
      have go : ∀ a : Int32, 0 < a.toInt → a.toInt ≤ L.toInt → a.toInt ≤ l.toInt - c.toInt → gx_C X 20 [.ref 2, .int (nI g), .int a] M1 (fun r1 M2 => gx_OK X 17 6 [.ref 2, .int (nI s), .int (nI g), .int l, .int (c + a), .int (nI (r + 1)), .int a] [] M2 P) := by
        intro a a1 a2 a3
        refine sp_send r3 hg r1 r2 (by omega) (by omega) (fun e he => ?_) (fun M2 D => ?_)
        · have := N1.2 e he
          omega
        · have C2 := cy_trans C1 (cy_send N1 a1 (fun v hv => by have := l3 v hv; omega) hph D)
          have e1 : (c + a).toInt = c.toInt + a.toInt := i_add (by omega) (by omega)
          rw [← e1] at C2
          exact ih (r + 1) (c + a) M2 _ (by omega) (by omega) (by omega) C2
      have e2 : (l - c).toInt = l.toInt - c.toInt := i_sub (by omega) (by omega)
      refine sp_min (fun q2 => ?_) (fun q2 => ?_)
      · intro z hz
        cases hz
        exact go _ l1 (by omega) (by omega)
      · intro z hz
        cases hz
        exact go _ (by omega) (by omega) (by omega)
