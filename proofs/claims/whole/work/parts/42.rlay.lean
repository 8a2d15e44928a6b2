/-! The reference lays its matrix out. -/
def fr45 (M M1 : gx_M) : Prop := ∀ p j, p ≠ 45 → ¬ (p = 34 ∧ j = 16) → M1 p j = M p j
set_option maxRecDepth 100000 in
set_option maxHeartbeats 4000000 in
theorem sr_edge {X : gx_X} {M : gx_M} {u v : Nat} {a b : Int32} {P : Option Value → gx_M → Prop} (hu : u < 22) (hv : v < 22) (ha : 0 ≤ a.toInt) (hab : a.toInt ≤ b.toInt) (hb : b.toInt ≤ 1000000)
    (hB : ∀ i, i < 576 → 0 ≤ (M 45 i).toInt ∧ (M 45 i).toInt ≤ 200000000) (hm : 0 ≤ (M 34 16).toInt ∧ (M 34 16).toInt ≤ 200000000)
    (hP : ∀ M1, fr45 M M1 → (∀ x y, x < 24 → y < 24 → lf M1 x y = lf M x y + (pk2 u v x y * (b.toInt - a.toInt) + pk2 22 v x y * a.toInt + pk2 u 23 x y * a.toInt)) → (M1 34 16).toInt = (M 34 16).toInt + a.toInt → P none M1) :
    gx_C X 61 [.ref 34, .int (nI u), .int (nI v), .int a, .int b] M P := by
  refine gx_C_wp 60 ?_
  simp only [gx_w_np, gx_w_p, ne_eq, not_false_eq_true, gx_wp, gx_step, gx_cnd, gb0, gb1, Classical.not_not, List.getD_cons_zero, List.getD_cons_succ, List.set_cons_zero, List.set_cons_succ, List.length_cons, List.length_nil, Nat.reduceAdd, Nat.reduceLT, Nat.reduceLeDiff, Nat.reduceEqDiff, Bool.and_false, Bool.and_true, Bool.true_and, Bool.false_and, Bool.false_eq_true, if_false, if_true, ite_true, ite_false, Fin.isValue, Fin.val_zero, Fin.val_one, Fin.val_two, gz0, gz1, gz2, gz3, List.take_succ_cons, List.take_zero, List.drop_succ_cons, List.drop_zero, List.reverse_cons, List.reverse_nil, List.nil_append, List.cons_append, gx_nx, Int32.reduceToInt, Int.reduceToNat, Int.toNat_zero, Int.toNat_one, Int.reduceLT, Int.reduceLE, Int.ofNat_zero, Int.reduceNeg, Int.le_refl, and_self, List.getElem?_cons_zero, List.getElem?_cons_succ, true_and, and_true, Nat.reduceSub, List.replicate, List.append_nil, Nat.reduceLeDiff, Nat.le_add_left, Nat.zero_le, Nat.zero_add, gf4_41, gf4_80, gk_bipush_23, gk_bipush_24, gk_sipush_528, gn61, gr61, gt4_16, gv61, gi61_0, gi61_1, gi61_4, gi61_6, gi61_7, gi61_8, gi61_9, gi61_10, gi61_11, gi61_12, gi61_14, gi61_15, gi61_16, gi61_17, gi61_18, gi61_19, gi61_22, gi61_23, gi61_26, gi61_29, gi61_30, gi61_31, gi61_32, gi61_33, gi61_34, gi61_35, gi61_36, gi61_37, gi61_40, gi61_42, gi61_43, gi61_44, gi61_46, gi61_47, gi61_48, gi61_49, gi61_50, gi61_51, gi61_52, gi61_53, gi61_54, gi61_57, gi61_58, gi61_59, gi61_62, gl0, gl1, gl2, gl3, gl4, gl5, gl6, gl7, gl8, gl9, gl10, gl11, gl12, gl13, gl14, gl15, gl16, gl17, gl18, gl19, gl20, gl21, gl22, gl23, gl24, gl25, gl26, gl27, gl28, gl29, gl30, gl31, gl32, gl33, gl34, gl35, gl36, gl37, gl38, gl39, gl40, gl41, gl42, gl43, gl44, gl45, gl46, gl47, gl48, gl49, gl50, gl51, gl52, gl53, gl54, gl55, gl56, gl57]
  have e1 : (528 : Int32) + nI v = nI (528 + v) := by rw [show (528 : Int32) = nI 528 by decide, nI_add]
  have e2 : (24 : Int32) * nI u + 23 = nI (24 * u + 23) := by rw [show (23 : Int32) = nI 23 by decide, m24]
  have s0 : (b - a).toInt = b.toInt - a.toInt := i_sub (by omega) (by omega)
  have b1 := hB (24 * u + v) (by omega)
  have b2 := hB (528 + v) (by omega)
  have b3 := hB (24 * u + 23) (by omega)
  have s1 : (M 45 (24 * u + v) + (b - a)).toInt = (M 45 (24 * u + v)).toInt + (b.toInt - a.toInt) := by rw [i_add (by omega) (by omega), s0]
  have s2 : (M 45 (528 + v) + a).toInt = (M 45 (528 + v)).toInt + a.toInt := i_add (by omega) (by omega)
  have s3 : (M 45 (24 * u + 23) + a).toInt = (M 45 (24 * u + 23)).toInt + a.toInt := i_add (by omega) (by omega)
  have s4 : (M 34 16 + a).toInt = (M 34 16).toInt + a.toInt := i_add (by omega) (by omega)
  simp (disch := first | decide | omega) only [m24, e1, e2, gx_w_np, gx_w_p, Int32.reduceToInt, Int.toNat_natCast, if_true, if_false, nI_1, nI_pred, i_nI, ite_true, ite_false, Int.reduceToNat, Nat.reduceEqDiff, Nat.reduceAdd, i_le]
  have n1 : ¬ 528 + v = 24 * u + v := by omega
  have n2 : ¬ 24 * u + 23 = 528 + v := by omega
  have n3 : ¬ 24 * u + 23 = 24 * u + v := by omega
  refine ⟨by omega, by omega, fun q => ?_, fun q => ⟨by omega, by omega, by omega, by omega, ?_⟩⟩
  · have a0 : a.toInt = 0 := by omega
    refine hP _ (fun p j h1 h2 => by rw [gx_w_np h1]) (fun x y hx hy => ?_) ?_
    · unfold lf
      rw [gx_w_p]
      unfold pk2
      by_cases z : x = u ∧ y = v
      · rw [if_pos (by rw [z.1, z.2]), if_pos ⟨z.1.symm, z.2.symm⟩, s1, a0, z.1, z.2]; omega
      · rw [if_neg (by omega), if_neg (fun q => z ⟨q.1.symm, q.2.symm⟩), a0]; omega
    · rw [gx_w_np (by decide), a0]; omega
  · rw [if_neg n1, if_neg n2, if_neg n3]
    refine hP _ (fun p j h1 h2 => ?_) (fun x y hx hy => ?_) ?_
    · by_cases z : p = 34
      · subst z
        rw [gx_w_p, if_neg (fun q => h2 ⟨rfl, q⟩), gx_w_np h1, gx_w_np h1, gx_w_np h1]
      · rw [gx_w_np z, gx_w_np h1, gx_w_np h1, gx_w_np h1]
    · unfold lf
      rw [gx_w_np (by decide), gx_w_p, gx_w_p, gx_w_p]
      unfold pk2
      by_cases z1 : x = u ∧ y = 23
      · rw [if_pos (by rw [z1.1, z1.2]), if_neg (c := u = x ∧ v = y) (fun q => by omega), if_neg (c := 22 = x ∧ v = y) (fun q => by omega), if_pos (c := u = x ∧ 23 = y) ⟨z1.1.symm, z1.2.symm⟩, s3, z1.1, z1.2]; omega
      · rw [if_neg (c := 24 * x + y = 24 * u + 23) (by omega), if_neg (c := u = x ∧ 23 = y) (fun q => z1 ⟨q.1.symm, q.2.symm⟩)]
        by_cases z2 : x = 22 ∧ y = v
        · rw [if_pos (by rw [z2.1, z2.2]), if_neg (c := u = x ∧ v = y) (fun q => by omega), if_pos (c := 22 = x ∧ v = y) ⟨z2.1.symm, z2.2.symm⟩, s2, z2.1, z2.2, show 24 * 22 + v = 528 + v by omega]; omega
        · rw [if_neg (c := 24 * x + y = 528 + v) (by omega), if_neg (c := 22 = x ∧ v = y) (fun q => z2 ⟨q.1.symm, q.2.symm⟩)]
          by_cases z3 : x = u ∧ y = v
          · rw [if_pos (by rw [z3.1, z3.2]), if_pos (c := u = x ∧ v = y) ⟨z3.1.symm, z3.2.symm⟩, s1, z3.1, z3.2]; omega
          · rw [if_neg (c := 24 * x + y = 24 * u + v) (by omega), if_neg (c := u = x ∧ v = y) (fun q => z3 ⟨q.1.symm, q.2.symm⟩)]; omega
    · rw [gx_w_p, if_pos rfl, s4]
/-- the bounds of the edges -/
theorem d_ok {D : gD} (O : gok D) {r s : Int} (hr : 0 ≤ r) (hrs : r ≤ s) (hs : s ≤ 1000000) {e : Nat} (he : e < 61) : 0 ≤ dL D r e ∧ dL D r e ≤ dH D s e ∧ dH D s e ≤ 1000000 := by
  unfold dL dH
  by_cases hp : dE D e = true
  · rw [if_pos hp, if_pos hp]
    rcases d_reg he with h | ⟨v, h, rfl⟩ | ⟨v, h, rfl⟩ | rfl
    · have h1 := (dE1 h).mp hp
      have := O.2.2.2 e h1.1 h1.2
      rw [if_pos h, if_pos h]; omega
    · rw [if_neg (by omega), if_pos (by omega), if_neg (by omega), if_pos (by omega), show 40 + v - 40 = v by omega]
      have := O.2.2.1 v ((dE2 h).mp hp)
      by_cases z : gdb D v = -1
      · rw [if_pos z]; omega
      · rw [if_neg z]
        have m1 : (-1 : Int32).toInt = -1 := by decide
        have : (gdb D v).toInt ≠ -1 := fun q => z (i_eq.mpr (by rw [q, m1]))
        omega
    · rw [if_neg (by omega), if_pos (by omega), if_neg (by omega), if_neg (by omega), if_pos (by omega)]; omega
    · rw [if_neg (by omega), if_neg (by omega), if_neg (by omega), if_neg (by omega), if_neg (by omega)]; omega
  · rw [if_neg hp, if_neg hp]; omega
def cq (D : gD) (r s : Int) (q : Nat → Bool) (x y : Nat) : Int := sm_ 61 (fun e => if q e = true then cN (dA' D) (dB' D) (dL D r) (dH D s) e x y else 0)
def lq (D : gD) (r : Int) (q : Nat → Bool) : Int := sm_ 61 (fun e => if q e = true then dL D r e else 0)
/-- the edges of q are laid out -/
def rl (M : gx_M) (D : gD) (r s : Int) (q : Nat → Bool) : Prop := (∀ x y, x < 24 → y < 24 → lf M x y = cq D r s q x y) ∧ (M 34 16).toInt = lq D r q
theorem rl_congr {M : gx_M} {D : gD} {r s : Int} {q q2 : Nat → Bool} (h : ∀ e, e < 61 → q e = q2 e) (K : rl M D r s q) : rl M D r s q2 := by
  refine ⟨fun x y hx hy => ?_, ?_⟩
  · rw [K.1 x y hx hy]; exact sm_congr (fun e he => by rw [h e he])
  · rw [K.2]; exact sm_congr (fun e he => by rw [h e he])
theorem sm_bd {f : Nat → Int} {c : Int} : ∀ {n : Nat}, (∀ e, e < n → 0 ≤ f e ∧ f e ≤ c) → 0 ≤ sm_ n f ∧ sm_ n f ≤ c * n
  | 0, _ => by simp [sm_]
  | n + 1, h => by
    have h1 := sm_bd (n := n) (fun e he => h e (by omega))
    have h2 := h n (by omega)
    rw [sm_s, show ((n + 1 : Nat) : Int) = (n : Int) + 1 by omega, Int.mul_add, Int.mul_one]
    omega
theorem cN_bd {A B : Nat → Nat} {l h : Nat → Int} {e u v : Nat} (hl : 0 ≤ l e ∧ l e ≤ h e ∧ h e ≤ 1000000) : 0 ≤ cN A B l h e u v ∧ cN A B l h e u v ≤ 2000000 := by
  unfold cN pk2
  have a : ∀ p : Prop, [Decidable p] → ∀ x : Int, 0 ≤ x → 0 ≤ (if p then (1 : Int) else 0) * x ∧ (if p then (1 : Int) else 0) * x ≤ x := fun p _ x hx => by
    by_cases z : p
    · rw [if_pos z]; omega
    · rw [if_neg z]; omega
  have a1 := a (A e = u ∧ B e = v) (h e - l e) (by omega)
  have a2 := a (22 = u ∧ B e = v) (l e) hl.1
  have a3 := a (A e = u ∧ 23 = v) (l e) hl.1
  omega
theorem rl_bd {M : gx_M} {D : gD} (O : gok D) {r s : Int} (hr : 0 ≤ r) (hrs : r ≤ s) (hs : s ≤ 1000000) {q : Nat → Bool} (K : rl M D r s q) : (∀ i, i < 576 → 0 ≤ (M 45 i).toInt ∧ (M 45 i).toInt ≤ 200000000) ∧ 0 ≤ (M 34 16).toInt ∧ (M 34 16).toInt ≤ 200000000 := by
  refine ⟨fun i hi => ?_, ?_⟩
  · have h1 := K.1 (i / 24) (i % 24) (by omega) (by omega)
    unfold lf at h1
    rw [show 24 * (i / 24) + i % 24 = i by omega] at h1
    rw [h1]
    have := sm_bd (f := fun e => if q e = true then cN (dA' D) (dB' D) (dL D r) (dH D s) e (i / 24) (i % 24) else 0) (c := 2000000) (n := 61) (fun e he => by
      show 0 ≤ (if q e = true then cN (dA' D) (dB' D) (dL D r) (dH D s) e (i / 24) (i % 24) else 0) ∧ (if q e = true then cN (dA' D) (dB' D) (dL D r) (dH D s) e (i / 24) (i % 24) else 0) ≤ 2000000
      by_cases z : q e = true
      · rw [if_pos z]; exact cN_bd (d_ok O hr hrs hs he)
      · rw [if_neg z]; omega)
    unfold cq
    omega
  · rw [K.2]
    have := sm_bd (f := fun e => if q e = true then dL D r e else 0) (c := 1000000) (n := 61) (fun e he => by
      show 0 ≤ (if q e = true then dL D r e else 0) ∧ (if q e = true then dL D r e else 0) ≤ 1000000
      have := d_ok O hr hrs hs he
      by_cases z : q e = true
      · rw [if_pos z]; omega
      · rw [if_neg z]; omega)
    unfold lq
    omega
theorem sr_edgeQ {X : gx_X} {M : gx_M} {D : gD} (O : gok D) {r s : Int} (hr : 0 ≤ r) (hrs : r ≤ s) (hs : s ≤ 1000000) {q : Nat → Bool} (K : rl M D r s q) {e u v : Nat} {a b : Int32} (he : e < 61) (hp : dE D e = true) (hn : q e = false) (hu : u = dA' D e) (hv : v = dB' D e) (ha : a.toInt = dL D r e) (hb : b.toInt = dH D s e)
    {P : Option Value → gx_M → Prop} (hP : ∀ M1, fr45 M M1 → rl M1 D r s (fun j => if j = e then true else q j) → P none M1) : gx_C X 61 [.ref 34, .int (nI u), .int (nI v), .int a, .int b] M P := by
  have k := d_ok O hr hrs hs he
  have B := rl_bd O hr hrs hs K
  have lt := dlt O he
  unfold dA dB at lt
  rw [if_pos hp, if_pos hp] at lt
  refine sr_edge (by omega) (by omega) (by omega) (by omega) (by omega) B.1 B.2 (fun M1 F1 F2 F3 => hP M1 F1 ⟨fun x y hx hy => ?_, ?_⟩)
  · have e4 : pk2 u v x y * (b.toInt - a.toInt) + pk2 22 v x y * a.toInt + pk2 u 23 x y * a.toInt = cN (dA' D) (dB' D) (dL D r) (dH D s) e x y := by unfold cN; rw [ha, hb, hu, hv]
    rw [F2 x y hx hy, K.1 x y hx hy, e4]
    have e5 := sm_up (f := fun j => if q j = true then cN (dA' D) (dB' D) (dL D r) (dH D s) j x y else 0) (k := e) (x := cN (dA' D) (dB' D) (dL D r) (dH D s) e x y) (n := 61) he
    have e3 : cq D r s (fun j => if j = e then true else q j) x y = sm_ 61 (fun j => if j = e then cN (dA' D) (dB' D) (dL D r) (dH D s) e x y else if q j = true then cN (dA' D) (dB' D) (dL D r) (dH D s) j x y else 0) := sm_congr (fun j _ => by
      by_cases z : j = e
      · simp [z]
      · simp [z])
    rw [hn, if_neg (by decide)] at e5
    rw [e3, e5]
    unfold cq
    omega
  · have e5 := sm_up (f := fun j => if q j = true then dL D r j else 0) (k := e) (x := dL D r e) (n := 61) he
    have e3 : lq D r (fun j => if j = e then true else q j) = sm_ 61 (fun j => if j = e then dL D r e else if q j = true then dL D r j else 0) := sm_congr (fun j _ => by
      by_cases z : j = e
      · simp [z]
      · simp [z])
    rw [hn, if_neg (by decide)] at e5
    rw [F3, K.2, e3, e5, ha]
    unfold lq
    omega
/-- the reference's graph, with the bounds and kinds that it works with -/
def dR (M : gx_M) (n m : Nat) : gD := (n, m, (fun k => decide (M 41 k ≠ 0)), M 37, M 38, M 36, M 44, M 42, M 43)
theorem dR_fr {M M1 : gx_M} (F : fr45 M M1) (n m : Nat) : dR M1 n m = dR M n m := by
  have h : ∀ p, p ≠ 45 → p ≠ 34 → M1 p = M p := fun p a b => by funext j; exact F p j a (fun q => b q.1)
  unfold dR
  rw [h 41 (by decide) (by decide), h 37 (by decide) (by decide), h 38 (by decide) (by decide), h 36 (by decide) (by decide), h 44 (by decide) (by decide), h 42 (by decide) (by decide), h 43 (by decide) (by decide)]
theorem fr45_t {M M1 M2 : gx_M} (F : fr45 M M1) (G : fr45 M1 M2) : fr45 M M2 := fun p j a b => by rw [G p j a b, F p j a b]
/-- the edges behind j arcs and i nodes -/
def qs (D : gD) (j i e : Nat) : Bool := dE D e && decide ((e < 40 ∧ e < j) ∨ (40 ≤ e ∧ e < 50 ∧ e < 40 + i) ∨ (50 ≤ e ∧ e < 60 ∧ e < 50 + i))
set_option maxRecDepth 100000 in
set_option maxHeartbeats 4000000 in
theorem l62_n {X : gx_X} {M0 : gx_M} {n m : Nat} {lv hv : Int32} {P : Option Value → gx_M → Prop} (hn : M0 34 0 = nI n) (O : gok (dR M0 n m)) (hr : 0 ≤ lv.toInt) (hrs : lv.toInt ≤ hv.toInt) (hs : hv.toInt ≤ 1000000)
    (hP : ∀ M1, fr45 M0 M1 → rl M1 (dR M0 n m) lv.toInt hv.toInt (dE (dR M0 n m)) → P none M1) :
    ∀ (d i : Nat) (M : gx_M), i + d = n → fr45 M0 M → rl M (dR M0 n m) lv.toInt hv.toInt (qs (dR M0 n m) 40 i) → gx_OK X 62 88 [.ref 34, .int lv, .int hv, .int (nI i)] [] M P := by
  have hn10 : n ≤ 10 := O.1
  have z0 : (0 : Int32).toInt = 0 := by decide
  have zf : (1000000 : Int32).toInt = 1000000 := by decide
  intro d
  induction d with
  | zero =>
    intro i M hi F K
    have e0 : M 34 0 = nI n := by rw [F 34 0 (by decide) (by omega)]; exact hn
    refine gx_wp_ok 60 false _ _ _ _ ?_
    simp only [gx_w_np, gx_w_p, ne_eq, not_false_eq_true, gx_wp, gx_step, gx_cnd, gb0, gb1, Classical.not_not, List.getD_cons_zero, List.getD_cons_succ, List.set_cons_zero, List.set_cons_succ, List.length_cons, List.length_nil, Nat.reduceAdd, Nat.reduceLT, Nat.reduceLeDiff, Nat.reduceEqDiff, Bool.and_false, Bool.and_true, Bool.true_and, Bool.false_and, Bool.false_eq_true, if_false, if_true, ite_true, ite_false, Fin.isValue, Fin.val_zero, Fin.val_one, Fin.val_two, gz0, gz1, gz2, gz3, List.take_succ_cons, List.take_zero, List.drop_succ_cons, List.drop_zero, List.reverse_cons, List.reverse_nil, List.nil_append, List.cons_append, gx_nx, Int32.reduceToInt, Int.reduceToNat, Int.toNat_zero, Int.toNat_one, Int.reduceLT, Int.reduceLE, Int.ofNat_zero, Int.reduceNeg, Int.le_refl, and_self, List.getElem?_cons_zero, List.getElem?_cons_succ, true_and, and_true, Nat.reduceSub, List.replicate, List.append_nil, Nat.reduceLeDiff, Nat.le_add_left, Nat.zero_le, Nat.zero_add, gc4_94, gf4_13, gf4_16, gf4_19, gf4_28, gf4_32, gf4_35, gf4_38, gf4_41, gf4_80, gf4_84, gf4_91, gk_bipush_20, gk_bipush_21, gk_iconst_0, gk_iconst_1, gk_iconst_2, gk_sipush_576, gm4_87, gn61, gn62, gr61, gr62, gt4_16, gv62, gi62_0, gi62_1, gi62_2, gi62_3, gi62_6, gi62_9, gi62_10, gi62_13, gi62_14, gi62_15, gi62_16, gi62_19, gi62_22, gi62_23, gi62_24, gi62_27, gi62_28, gi62_29, gi62_30, gi62_31, gi62_34, gi62_37, gi62_38, gi62_41, gi62_42, gi62_43, gi62_46, gi62_47, gi62_48, gi62_49, gi62_52, gi62_53, gi62_54, gi62_55, gi62_56, gi62_57, gi62_58, gi62_59, gi62_62, gi62_63, gi62_64, gi62_65, gi62_66, gi62_69, gi62_70, gi62_71, gi62_72, gi62_75, gi62_76, gi62_77, gi62_80, gi62_83, gi62_86, gi62_87, gi62_88, gi62_89, gi62_90, gi62_93, gi62_96, gi62_97, gi62_98, gi62_99, gi62_100, gi62_101, gi62_102, gi62_103, gi62_104, gi62_105, gi62_106, gi62_107, gi62_110, gi62_111, gi62_112, gi62_115, gi62_117, gi62_120, gi62_121, gi62_124, gi62_125, gi62_126, gi62_129, gi62_130, gi62_133, gi62_134, gi62_135, gi62_136, gi62_139, gi62_140, gi62_142, gi62_143, gi62_144, gi62_145, gi62_146, gi62_148, gi62_151, gi62_152, gi62_155, gi62_156, gi62_157, gi62_158, gi62_161, gi62_162, gi62_163, gi62_164, gi62_165, gi62_166, gi62_167, gi62_169, gi62_170, gi62_172, gi62_175, gi62_178, gi62_181, gi62_182, gi62_184, gi62_186, gi62_187, gi62_188, gi62_191, gl0, gl1, gl2, gl3, gl4, gl5, gl6, gl7, gl8, gl9, gl10, gl11, gl12, gl13, gl14, gl15, gl16, gl17, gl18, gl19, gl20, gl21, gl22, gl23, gl24, gl25, gl26, gl27, gl28, gl29, gl30, gl31, gl32, gl33, gl34, gl35, gl36, gl37, gl38, gl39, gl40, gl41, gl42, gl43, gl44, gl45, gl46, gl47, gl48, gl49, gl50, gl51, gl52, gl53, gl54, gl55, gl56, gl57]
    simp (disch := first | decide | omega) only [gx_w_np, gx_w_p, Int32.reduceToInt, Int.toNat_natCast, if_true, if_false, nI_1, nI_pred, i_nI, ite_true, ite_false, Int.reduceToNat, Nat.reduceEqDiff, Nat.reduceAdd, e0, i_le]
    refine ⟨fun _ => ?_, fun q => absurd (by omega) q⟩
    rw [show (21 : Int32) = nI 21 by decide, show (20 : Int32) = nI 20 by decide]
    refine sr_edgeQ O hr hrs hs K (e := 60) (by omega) dE4 ?_ dA4.symm dB4.symm ?_ ?_ (fun M1 F1 K1 => hP M1 (fr45_t F F1) (rl_congr (fun e he => ?_) K1))
    · unfold qs; rw [decide_eq_false (by omega)]; simp
    · unfold dL; rw [if_pos dE4, if_neg (by omega), if_neg (by omega)]
    · unfold dH; rw [if_pos dE4, if_neg (by omega), if_neg (by omega), if_neg (by omega)]
    · by_cases z : e = 60
      · rw [if_pos z, z, dE4]
      · rw [if_neg z]
        unfold qs
        rcases d_reg he with h | ⟨v, h, rfl⟩ | ⟨v, h, rfl⟩ | rfl
        · rw [decide_eq_true (by omega), Bool.and_true]
        · cases q : dE (dR M0 n m) (40 + v) with
          | false => rfl
          | true =>
            have : v < n := (dE2 h).mp q
            rw [decide_eq_true (by omega)]; rfl
        · cases q : dE (dR M0 n m) (50 + v) with
          | false => rfl
          | true =>
            have : v < n := ((dE3 h).mp q).1
            rw [decide_eq_true (by omega)]; rfl
        · exact absurd rfl z
  | succ d ih =>
    intro i M hi F K
    have e0 : M 34 0 = nI n := by rw [F 34 0 (by decide) (by omega)]; exact hn
    have f36 : M 36 i = M0 36 i := F 36 i (by decide) (by omega)
    have hk := O.2.2.1 i (show i < n by omega)
    have p40 : dE (dR M0 n m) (40 + i) = true := (dE2 (by omega)).mpr (show i < n by omega)
    have d2 : (2 : Int32) * nI i = nI (2 * i) := by rw [show (2 : Int32) = nI 2 by decide, pk_mul]
    have d3 : (2 : Int32) * nI i + 1 = nI (2 * i + 1) := by rw [d2, nI_1]
    have l40 : dL (dR M0 n m) lv.toInt (40 + i) = 0 := by unfold dL; rw [if_pos p40, if_neg (by omega), if_pos (by omega)]
    have h40 : dH (dR M0 n m) hv.toInt (40 + i) = if M0 36 i = -1 then 1000000 else (M0 36 i).toInt := by
      unfold dH
      rw [if_pos p40, if_neg (by omega), if_pos (by omega), show 40 + i - 40 = i by omega]; rfl
    have m1 : (-1 : Int32).toInt = -1 := by decide
    have k0 : M0 44 i = 0 ∨ M0 44 i = 1 ∨ M0 44 i = 2 := kd3 hk.1 hk.2.1
    have bd := hk.2.2.1
    have hfin : ∀ M1, fr45 M0 M1 → rl M1 (dR M0 n m) lv.toInt hv.toInt (fun j => if j = 40 + i then true else qs (dR M0 n m) 40 i j) → M0 44 i = 0 → gx_OK X 62 88 [.ref 34, .int lv, .int hv, .int (nI (i + 1))] [] M1 P := by
      intro M1 F1 K1 hk0
      refine ih (i + 1) M1 (by omega) F1 (rl_congr (fun e he => ?_) K1)
      unfold qs
      by_cases z : e = 40 + i
      · rw [if_pos z, z, p40, decide_eq_true (by omega)]; rfl
      · rw [if_neg z]
        by_cases z2 : e = 50 + i
        · have : dE (dR M0 n m) e = false := by
            cases q : dE (dR M0 n m) e with
            | false => rfl
            | true => rw [z2] at q; exact absurd hk0 ((dE3 (by omega)).mp q).2
          rw [this]; rfl
        · congr 1
          exact decide_eq_decide.mpr (by omega)
    have hfin2 : ∀ M1 (u v : Nat), fr45 M0 M1 → rl M1 (dR M0 n m) lv.toInt hv.toInt (fun j => if j = 40 + i then true else qs (dR M0 n m) 40 i j) → M0 44 i ≠ 0 → u = dA' (dR M0 n m) (50 + i) → v = dB' (dR M0 n m) (50 + i) → ∀ Q : Option Value → gx_M → Prop, (∀ M2, fr45 M1 M2 → rl M2 (dR M0 n m) lv.toInt hv.toInt (qs (dR M0 n m) 40 (i + 1)) → Q none M2) → gx_C X 61 [.ref 34, .int (nI u), .int (nI v), .int 0, .int 1000000] M1 Q := by
      intro M1 u v F1 K1 hk0 hu hv Q hQ
      have p50 : dE (dR M0 n m) (50 + i) = true := (dE3 (by omega)).mpr ⟨show i < n by omega, hk0⟩
      refine sr_edgeQ O hr hrs hs K1 (e := 50 + i) (by omega) p50 ?_ hu hv ?_ ?_ (fun M2 F2 K2 => hQ M2 F2 (rl_congr (fun e he => ?_) K2))
      · show (if 50 + i = 40 + i then true else qs (dR M0 n m) 40 i (50 + i)) = false
        rw [if_neg (by omega)]
        unfold qs; rw [decide_eq_false (by omega)]; simp
      · unfold dL; rw [if_pos p50, if_neg (by omega), if_pos (by omega), z0]
      · unfold dH; rw [if_pos p50, if_neg (by omega), if_neg (by omega), if_pos (by omega), zf]
      · show (if e = 50 + i then true else if e = 40 + i then true else qs (dR M0 n m) 40 i e) = qs (dR M0 n m) 40 (i + 1) e
        unfold qs
        by_cases z : e = 50 + i
        · rw [if_pos z, z, p50, decide_eq_true (by omega)]; rfl
        · rw [if_neg z]
          by_cases z2 : e = 40 + i
          · rw [if_pos z2, z2, p40, decide_eq_true (by omega)]; rfl
          · rw [if_neg z2]
            congr 1
            exact decide_eq_decide.mpr (by omega)
    have A2 : M0 44 i = 1 → 20 = dA' (dR M0 n m) (50 + i) ∧ 2 * i = dB' (dR M0 n m) (50 + i) := fun q => by
      rw [dA3 (by omega), dB3 (by omega)]
      exact ⟨(if_pos q).symm, (if_pos q).symm⟩
    have B2 : M0 44 i = 2 → 2 * i + 1 = dA' (dR M0 n m) (50 + i) ∧ 21 = dB' (dR M0 n m) (50 + i) := fun q => by
      have q1 : ¬ M0 44 i = 1 := by rw [q]; decide
      rw [dA3 (by omega), dB3 (by omega)]
      exact ⟨(if_neg q1).symm, (if_neg q1).symm⟩
    have q40 : qs (dR M0 n m) 40 i (40 + i) = false := by unfold qs; rw [decide_eq_false (by omega)]; simp
    have rest : ∀ M1, fr45 M M1 → rl M1 (dR M0 n m) lv.toInt hv.toInt (fun j => if j = 40 + i then true else qs (dR M0 n m) 40 i j) →
        (¬ M1 44 i = 1 → (¬ M1 44 i = 2 → gx_OK X 62 88 [.ref 34, .int lv, .int hv, .int (nI (i + 1))] [] M1 P) ∧ (M1 44 i = 2 → gx_C X 61 [.ref 34, .int (nI (2 * i + 1)), .int 21, .int 0, .int 1000000] M1 fun r M1 => gx_OK X 62 88 [.ref 34, .int lv, .int hv, .int (nI (i + 1))] [] M1 P)) ∧
        (M1 44 i = 1 → gx_C X 61 [.ref 34, .int 20, .int (nI (2 * i)), .int 0, .int 1000000] M1 fun r M1 => (¬ M1 44 i = 2 → gx_OK X 62 88 [.ref 34, .int lv, .int hv, .int (nI (i + 1))] [] M1 P) ∧ (M1 44 i = 2 → gx_C X 61 [.ref 34, .int (nI (2 * i + 1)), .int 21, .int 0, .int 1000000] M1 fun r M1 => gx_OK X 62 88 [.ref 34, .int lv, .int hv, .int (nI (i + 1))] [] M1 P)) := by
      intro M1 F1 K1
      have F2 := fr45_t F F1
      have f44 : M1 44 i = M0 44 i := F2 44 i (by decide) (by omega)
      rw [f44, show (21 : Int32) = nI 21 by decide, show (20 : Int32) = nI 20 by decide]
      refine ⟨fun q1 => ⟨fun q2 => ?_, fun q2 => ?_⟩, fun q1 => ?_⟩
      · exact hfin M1 F2 K1 (by rcases k0 with k | k | k
                                · exact k
                                · exact absurd k q1
                                · exact absurd k q2)
      · exact hfin2 M1 _ _ F2 K1 (by rw [q2]; decide) (B2 q2).1 (B2 q2).2 _ (fun M2 F3 K2 => ih (i + 1) M2 (by omega) (fr45_t F2 F3) K2)
      · refine hfin2 M1 _ _ F2 K1 (by rw [q1]; decide) (A2 q1).1 (A2 q1).2 _ (fun M2 F3 K2 => ?_)
        have f44b : M2 44 i = M0 44 i := fr45_t F2 F3 44 i (by decide) (by omega)
        rw [f44b]
        exact ⟨fun _ => ih (i + 1) M2 (by omega) (fr45_t F2 F3) K2, fun q2 => by rw [q1] at q2; exact absurd q2 (by decide)⟩
    refine gx_wp_ok 60 false _ _ _ _ ?_
    simp only [gx_w_np, gx_w_p, ne_eq, not_false_eq_true, gx_wp, gx_step, gx_cnd, gb0, gb1, Classical.not_not, List.getD_cons_zero, List.getD_cons_succ, List.set_cons_zero, List.set_cons_succ, List.length_cons, List.length_nil, Nat.reduceAdd, Nat.reduceLT, Nat.reduceLeDiff, Nat.reduceEqDiff, Bool.and_false, Bool.and_true, Bool.true_and, Bool.false_and, Bool.false_eq_true, if_false, if_true, ite_true, ite_false, Fin.isValue, Fin.val_zero, Fin.val_one, Fin.val_two, gz0, gz1, gz2, gz3, List.take_succ_cons, List.take_zero, List.drop_succ_cons, List.drop_zero, List.reverse_cons, List.reverse_nil, List.nil_append, List.cons_append, gx_nx, Int32.reduceToInt, Int.reduceToNat, Int.toNat_zero, Int.toNat_one, Int.reduceLT, Int.reduceLE, Int.ofNat_zero, Int.reduceNeg, Int.le_refl, and_self, List.getElem?_cons_zero, List.getElem?_cons_succ, true_and, and_true, Nat.reduceSub, List.replicate, List.append_nil, Nat.reduceLeDiff, Nat.le_add_left, Nat.zero_le, Nat.zero_add, gc4_94, gf4_13, gf4_16, gf4_19, gf4_28, gf4_32, gf4_35, gf4_38, gf4_41, gf4_80, gf4_84, gf4_91, gk_bipush_20, gk_bipush_21, gk_iconst_0, gk_iconst_1, gk_iconst_2, gk_sipush_576, gm4_87, gn61, gn62, gr61, gr62, gt4_16, gv62, gi62_0, gi62_1, gi62_2, gi62_3, gi62_6, gi62_9, gi62_10, gi62_13, gi62_14, gi62_15, gi62_16, gi62_19, gi62_22, gi62_23, gi62_24, gi62_27, gi62_28, gi62_29, gi62_30, gi62_31, gi62_34, gi62_37, gi62_38, gi62_41, gi62_42, gi62_43, gi62_46, gi62_47, gi62_48, gi62_49, gi62_52, gi62_53, gi62_54, gi62_55, gi62_56, gi62_57, gi62_58, gi62_59, gi62_62, gi62_63, gi62_64, gi62_65, gi62_66, gi62_69, gi62_70, gi62_71, gi62_72, gi62_75, gi62_76, gi62_77, gi62_80, gi62_83, gi62_86, gi62_87, gi62_88, gi62_89, gi62_90, gi62_93, gi62_96, gi62_97, gi62_98, gi62_99, gi62_100, gi62_101, gi62_102, gi62_103, gi62_104, gi62_105, gi62_106, gi62_107, gi62_110, gi62_111, gi62_112, gi62_115, gi62_117, gi62_120, gi62_121, gi62_124, gi62_125, gi62_126, gi62_129, gi62_130, gi62_133, gi62_134, gi62_135, gi62_136, gi62_139, gi62_140, gi62_142, gi62_143, gi62_144, gi62_145, gi62_146, gi62_148, gi62_151, gi62_152, gi62_155, gi62_156, gi62_157, gi62_158, gi62_161, gi62_162, gi62_163, gi62_164, gi62_165, gi62_166, gi62_167, gi62_169, gi62_170, gi62_172, gi62_175, gi62_178, gi62_181, gi62_182, gi62_184, gi62_186, gi62_187, gi62_188, gi62_191, gl0, gl1, gl2, gl3, gl4, gl5, gl6, gl7, gl8, gl9, gl10, gl11, gl12, gl13, gl14, gl15, gl16, gl17, gl18, gl19, gl20, gl21, gl22, gl23, gl24, gl25, gl26, gl27, gl28, gl29, gl30, gl31, gl32, gl33, gl34, gl35, gl36, gl37, gl38, gl39, gl40, gl41, gl42, gl43, gl44, gl45, gl46, gl47, gl48, gl49, gl50, gl51, gl52, gl53, gl54, gl55, gl56, gl57]
    rw [d3, d2]
    simp (disch := first | decide | omega) only [gx_w_np, gx_w_p, Int32.reduceToInt, Int.toNat_natCast, if_true, if_false, nI_1, nI_pred, i_nI, ite_true, ite_false, Int.reduceToNat, Nat.reduceEqDiff, Nat.reduceAdd, e0, f36, i_le]
    refine ⟨fun q => absurd q (by omega), fun _ => ⟨by omega, fun q => ⟨by omega, ?_⟩, fun q => ?_⟩⟩
    · have nb : ¬ M0 36 i = -1 := fun z => by rw [z, m1] at q; omega
      refine sr_edgeQ O hr hrs hs K (e := 40 + i) (by omega) p40 q40 (dA2 (by omega)).symm (dB2 (by omega)).symm (by rw [l40, z0]) (by rw [h40, if_neg nb]) (fun M1 F1 K1 => ?_)
      obtain ⟨g1, g2⟩ := rest M1 F1 K1
      exact ⟨by omega, fun q1 => ⟨by omega, g1 q1⟩, fun q1 => gx_C.mono (g2 q1) (fun r M2 h => ⟨by omega, h⟩)⟩
    · have nb : M0 36 i = -1 := i_eq.mpr (by rw [m1]; have : -1 ≤ (M0 36 i).toInt := bd; omega)
      refine sr_edgeQ O hr hrs hs K (e := 40 + i) (by omega) p40 q40 (dA2 (by omega)).symm (dB2 (by omega)).symm (by rw [l40, z0]) (by rw [h40, if_pos nb, zf]) (fun M1 F1 K1 => ?_)
      obtain ⟨g1, g2⟩ := rest M1 F1 K1
      exact ⟨by omega, fun q1 => ⟨by omega, g1 q1⟩, fun q1 => gx_C.mono (g2 q1) (fun r M2 h => ⟨by omega, h⟩)⟩
set_option maxRecDepth 100000 in
set_option maxHeartbeats 4000000 in
theorem l62_a {X : gx_X} {M0 : gx_M} {n m : Nat} {lv hv : Int32} {P : Option Value → gx_M → Prop} (hn : M0 34 0 = nI n) (hm : M0 34 3 = nI m) (O : gok (dR M0 n m)) (hr : 0 ≤ lv.toInt) (hrs : lv.toInt ≤ hv.toInt) (hs : hv.toInt ≤ 1000000)
    (hP : ∀ M1, fr45 M0 M1 → rl M1 (dR M0 n m) lv.toInt hv.toInt (dE (dR M0 n m)) → P none M1) :
    ∀ (d j : Nat) (M : gx_M), j + d = m → fr45 M0 M → rl M (dR M0 n m) lv.toInt hv.toInt (qs (dR M0 n m) j 0) → gx_OK X 62 29 [.ref 34, .int lv, .int hv, .int (nI j)] [] M P := by
  have hm40 : m ≤ 40 := O.2.1
  intro d
  induction d with
  | zero =>
    intro j M hj F K
    have e3 : M 34 3 = nI m := by rw [F 34 3 (by decide) (by omega)]; exact hm
    refine gx_wp_ok 60 false _ _ _ _ ?_
    simp only [gx_w_np, gx_w_p, ne_eq, not_false_eq_true, gx_wp, gx_step, gx_cnd, gb0, gb1, Classical.not_not, List.getD_cons_zero, List.getD_cons_succ, List.set_cons_zero, List.set_cons_succ, List.length_cons, List.length_nil, Nat.reduceAdd, Nat.reduceLT, Nat.reduceLeDiff, Nat.reduceEqDiff, Bool.and_false, Bool.and_true, Bool.true_and, Bool.false_and, Bool.false_eq_true, if_false, if_true, ite_true, ite_false, Fin.isValue, Fin.val_zero, Fin.val_one, Fin.val_two, gz0, gz1, gz2, gz3, List.take_succ_cons, List.take_zero, List.drop_succ_cons, List.drop_zero, List.reverse_cons, List.reverse_nil, List.nil_append, List.cons_append, gx_nx, Int32.reduceToInt, Int.reduceToNat, Int.toNat_zero, Int.toNat_one, Int.reduceLT, Int.reduceLE, Int.ofNat_zero, Int.reduceNeg, Int.le_refl, and_self, List.getElem?_cons_zero, List.getElem?_cons_succ, true_and, and_true, Nat.reduceSub, List.replicate, List.append_nil, Nat.reduceLeDiff, Nat.le_add_left, Nat.zero_le, Nat.zero_add, gc4_94, gf4_13, gf4_16, gf4_19, gf4_28, gf4_32, gf4_35, gf4_38, gf4_41, gf4_80, gf4_84, gf4_91, gk_bipush_20, gk_bipush_21, gk_iconst_0, gk_iconst_1, gk_iconst_2, gk_sipush_576, gm4_87, gn61, gn62, gr61, gr62, gt4_16, gv62, gi62_0, gi62_1, gi62_2, gi62_3, gi62_6, gi62_9, gi62_10, gi62_13, gi62_14, gi62_15, gi62_16, gi62_19, gi62_22, gi62_23, gi62_24, gi62_27, gi62_28, gi62_29, gi62_30, gi62_31, gi62_34, gi62_37, gi62_38, gi62_41, gi62_42, gi62_43, gi62_46, gi62_47, gi62_48, gi62_49, gi62_52, gi62_53, gi62_54, gi62_55, gi62_56, gi62_57, gi62_58, gi62_59, gi62_62, gi62_63, gi62_64, gi62_65, gi62_66, gi62_69, gi62_70, gi62_71, gi62_72, gi62_75, gi62_76, gi62_77, gi62_80, gi62_83, gi62_86, gi62_87, gi62_88, gi62_89, gi62_90, gi62_93, gi62_96, gi62_97, gi62_98, gi62_99, gi62_100, gi62_101, gi62_102, gi62_103, gi62_104, gi62_105, gi62_106, gi62_107, gi62_110, gi62_111, gi62_112, gi62_115, gi62_117, gi62_120, gi62_121, gi62_124, gi62_125, gi62_126, gi62_129, gi62_130, gi62_133, gi62_134, gi62_135, gi62_136, gi62_139, gi62_140, gi62_142, gi62_143, gi62_144, gi62_145, gi62_146, gi62_148, gi62_151, gi62_152, gi62_155, gi62_156, gi62_157, gi62_158, gi62_161, gi62_162, gi62_163, gi62_164, gi62_165, gi62_166, gi62_167, gi62_169, gi62_170, gi62_172, gi62_175, gi62_178, gi62_181, gi62_182, gi62_184, gi62_186, gi62_187, gi62_188, gi62_191, gl0, gl1, gl2, gl3, gl4, gl5, gl6, gl7, gl8, gl9, gl10, gl11, gl12, gl13, gl14, gl15, gl16, gl17, gl18, gl19, gl20, gl21, gl22, gl23, gl24, gl25, gl26, gl27, gl28, gl29, gl30, gl31, gl32, gl33, gl34, gl35, gl36, gl37, gl38, gl39, gl40, gl41, gl42, gl43, gl44, gl45, gl46, gl47, gl48, gl49, gl50, gl51, gl52, gl53, gl54, gl55, gl56, gl57]
    simp (disch := first | decide | omega) only [gx_w_np, gx_w_p, Int32.reduceToInt, Int.toNat_natCast, if_true, if_false, nI_1, nI_pred, i_nI, ite_true, ite_false, Int.reduceToNat, Nat.reduceEqDiff, Nat.reduceAdd, e3, i_le]
    refine ⟨fun _ => ?_, fun q => absurd (by omega) q⟩
    rw [← nI_0]
    refine l62_n hn O hr hrs hs hP n 0 M (by omega) F (rl_congr (fun e he => ?_) K)
    unfold qs
    rcases d_reg he with h | ⟨v, h, rfl⟩ | ⟨v, h, rfl⟩ | rfl
    · cases q : dE (dR M0 n m) e with
      | false => rfl
      | true =>
        have : e < m := ((dE1 h).mp q).1
        rw [decide_eq_true (by omega), decide_eq_true (by omega)]
    · congr 1
      exact decide_eq_decide.mpr (by omega)
    · congr 1
      exact decide_eq_decide.mpr (by omega)
    · congr 1
  | succ d ih =>
    intro j M hj F K
    have e3 : M 34 3 = nI m := by rw [F 34 3 (by decide) (by omega)]; exact hm
    have e41 : M 41 j = M0 41 j := F 41 j (by decide) (by omega)
    have e37 : M 37 j = M0 37 j := F 37 j (by decide) (by omega)
    have e38 : M 38 j = M0 38 j := F 38 j (by decide) (by omega)
    have e42 : M 42 j = M0 42 j := F 42 j (by decide) (by omega)
    have e43 : M 43 j = M0 43 j := F 43 j (by decide) (by omega)
    refine gx_wp_ok 60 false _ _ _ _ ?_
    simp only [gx_w_np, gx_w_p, ne_eq, not_false_eq_true, gx_wp, gx_step, gx_cnd, gb0, gb1, Classical.not_not, List.getD_cons_zero, List.getD_cons_succ, List.set_cons_zero, List.set_cons_succ, List.length_cons, List.length_nil, Nat.reduceAdd, Nat.reduceLT, Nat.reduceLeDiff, Nat.reduceEqDiff, Bool.and_false, Bool.and_true, Bool.true_and, Bool.false_and, Bool.false_eq_true, if_false, if_true, ite_true, ite_false, Fin.isValue, Fin.val_zero, Fin.val_one, Fin.val_two, gz0, gz1, gz2, gz3, List.take_succ_cons, List.take_zero, List.drop_succ_cons, List.drop_zero, List.reverse_cons, List.reverse_nil, List.nil_append, List.cons_append, gx_nx, Int32.reduceToInt, Int.reduceToNat, Int.toNat_zero, Int.toNat_one, Int.reduceLT, Int.reduceLE, Int.ofNat_zero, Int.reduceNeg, Int.le_refl, and_self, List.getElem?_cons_zero, List.getElem?_cons_succ, true_and, and_true, Nat.reduceSub, List.replicate, List.append_nil, Nat.reduceLeDiff, Nat.le_add_left, Nat.zero_le, Nat.zero_add, gc4_94, gf4_13, gf4_16, gf4_19, gf4_28, gf4_32, gf4_35, gf4_38, gf4_41, gf4_80, gf4_84, gf4_91, gk_bipush_20, gk_bipush_21, gk_iconst_0, gk_iconst_1, gk_iconst_2, gk_sipush_576, gm4_87, gn61, gn62, gr61, gr62, gt4_16, gv62, gi62_0, gi62_1, gi62_2, gi62_3, gi62_6, gi62_9, gi62_10, gi62_13, gi62_14, gi62_15, gi62_16, gi62_19, gi62_22, gi62_23, gi62_24, gi62_27, gi62_28, gi62_29, gi62_30, gi62_31, gi62_34, gi62_37, gi62_38, gi62_41, gi62_42, gi62_43, gi62_46, gi62_47, gi62_48, gi62_49, gi62_52, gi62_53, gi62_54, gi62_55, gi62_56, gi62_57, gi62_58, gi62_59, gi62_62, gi62_63, gi62_64, gi62_65, gi62_66, gi62_69, gi62_70, gi62_71, gi62_72, gi62_75, gi62_76, gi62_77, gi62_80, gi62_83, gi62_86, gi62_87, gi62_88, gi62_89, gi62_90, gi62_93, gi62_96, gi62_97, gi62_98, gi62_99, gi62_100, gi62_101, gi62_102, gi62_103, gi62_104, gi62_105, gi62_106, gi62_107, gi62_110, gi62_111, gi62_112, gi62_115, gi62_117, gi62_120, gi62_121, gi62_124, gi62_125, gi62_126, gi62_129, gi62_130, gi62_133, gi62_134, gi62_135, gi62_136, gi62_139, gi62_140, gi62_142, gi62_143, gi62_144, gi62_145, gi62_146, gi62_148, gi62_151, gi62_152, gi62_155, gi62_156, gi62_157, gi62_158, gi62_161, gi62_162, gi62_163, gi62_164, gi62_165, gi62_166, gi62_167, gi62_169, gi62_170, gi62_172, gi62_175, gi62_178, gi62_181, gi62_182, gi62_184, gi62_186, gi62_187, gi62_188, gi62_191, gl0, gl1, gl2, gl3, gl4, gl5, gl6, gl7, gl8, gl9, gl10, gl11, gl12, gl13, gl14, gl15, gl16, gl17, gl18, gl19, gl20, gl21, gl22, gl23, gl24, gl25, gl26, gl27, gl28, gl29, gl30, gl31, gl32, gl33, gl34, gl35, gl36, gl37, gl38, gl39, gl40, gl41, gl42, gl43, gl44, gl45, gl46, gl47, gl48, gl49, gl50, gl51, gl52, gl53, gl54, gl55, gl56, gl57]
    simp (disch := first | decide | omega) only [gx_w_np, gx_w_p, Int32.reduceToInt, Int.toNat_natCast, if_true, if_false, nI_1, nI_pred, i_nI, ite_true, ite_false, Int.reduceToNat, Nat.reduceEqDiff, Nat.reduceAdd, e3, e41, e37, e38, e42, e43, i_le]
    refine ⟨fun q => absurd q (by omega), fun _ => ⟨by omega, fun q => ?_, fun q => ⟨by omega, by omega, by omega, by omega, ?_⟩⟩⟩
    · refine ih (j + 1) M (by omega) F (rl_congr (fun e he => ?_) K)
      unfold qs
      by_cases z : e = j
      · have : dE (dR M0 n m) e = false := by
          cases w : dE (dR M0 n m) e with
          | false => rfl
          | true =>
            have := ((dE1 (by omega)).mp w).2
            rw [z] at this
            exact absurd q (of_decide_eq_true this)
        rw [this]; rfl
      · congr 1
        exact decide_eq_decide.mpr (by omega)
    · have pj : dE (dR M0 n m) j = true := (dE1 (by omega)).mpr ⟨show j < m by omega, decide_eq_true q⟩
      have g := O.2.2.2 j (show j < m by omega) (decide_eq_true q)
      have g1 : M0 37 j = nI (M0 37 j).toInt.toNat := i_nat g.1
      have g2 : M0 38 j = nI (M0 38 j).toInt.toNat := i_nat g.2.2.1
      have d3 : (2 : Int32) * M0 37 j + 1 = nI (2 * (M0 37 j).toInt.toNat + 1) := by
        rw [g1, show (2 : Int32) = nI 2 by decide, pk_mul, nI_1, ← g1]
      have d2 : (2 : Int32) * M0 38 j = nI (2 * (M0 38 j).toInt.toNat) := by
        rw [g2, show (2 : Int32) = nI 2 by decide, pk_mul, ← g2]
      rw [d3, d2]
      refine sr_edgeQ O hr hrs hs K (e := j) (by omega) pj ?_ (dA1 (by omega)).symm (dB1 (by omega)).symm ?_ ?_ (fun M1 F1 K1 => ih (j + 1) M1 (by omega) (fr45_t F F1) (rl_congr (fun e he => ?_) K1))
      · unfold qs; rw [decide_eq_false (by omega)]; simp
      · unfold dL; rw [if_pos pj, if_pos (by omega)]; rfl
      · unfold dH; rw [if_pos pj, if_pos (by omega)]; rfl
      · unfold qs
        by_cases z : e = j
        · rw [if_pos z, z, pj, decide_eq_true (by omega)]; rfl
        · rw [if_neg z]
          congr 1
          exact decide_eq_decide.mpr (by omega)
set_option maxRecDepth 100000 in
set_option maxHeartbeats 4000000 in
theorem l62_0 {X : gx_X} {lv hv : Int32} {P : Option Value → gx_M → Prop} : ∀ (d i : Nat) (M : gx_M), i + d = 576 → (∀ M1, (∀ p, p ≠ 45 → M1 p = M p) → (∀ j, j < i → M1 45 j = M 45 j) → (∀ j, i ≤ j → j < 576 → M1 45 j = 0) → gx_OK X 62 29 [.ref 34, .int lv, .int hv, .int 0] [] (gx_w M1 34 16 0) P) → gx_OK X 62 2 [.ref 34, .int lv, .int hv, .int (nI i)] [] M P := by
  intro d
  induction d with
  | zero =>
    intro i M hi hP
    refine gx_wp_ok 20 false _ _ _ _ ?_
    simp only [gx_w_np, gx_w_p, ne_eq, not_false_eq_true, gx_wp, gx_step, gx_cnd, gb0, gb1, Classical.not_not, List.getD_cons_zero, List.getD_cons_succ, List.set_cons_zero, List.set_cons_succ, List.length_cons, List.length_nil, Nat.reduceAdd, Nat.reduceLT, Nat.reduceLeDiff, Nat.reduceEqDiff, Bool.and_false, Bool.and_true, Bool.true_and, Bool.false_and, Bool.false_eq_true, if_false, if_true, ite_true, ite_false, Fin.isValue, Fin.val_zero, Fin.val_one, Fin.val_two, gz0, gz1, gz2, gz3, List.take_succ_cons, List.take_zero, List.drop_succ_cons, List.drop_zero, List.reverse_cons, List.reverse_nil, List.nil_append, List.cons_append, gx_nx, Int32.reduceToInt, Int.reduceToNat, Int.toNat_zero, Int.toNat_one, Int.reduceLT, Int.reduceLE, Int.ofNat_zero, Int.reduceNeg, Int.le_refl, and_self, List.getElem?_cons_zero, List.getElem?_cons_succ, true_and, and_true, Nat.reduceSub, List.replicate, List.append_nil, Nat.reduceLeDiff, Nat.le_add_left, Nat.zero_le, Nat.zero_add, gc4_94, gf4_13, gf4_16, gf4_19, gf4_28, gf4_32, gf4_35, gf4_38, gf4_41, gf4_80, gf4_84, gf4_91, gk_bipush_20, gk_bipush_21, gk_iconst_0, gk_iconst_1, gk_iconst_2, gk_sipush_576, gm4_87, gn61, gn62, gr61, gr62, gt4_16, gv62, gi62_0, gi62_1, gi62_2, gi62_3, gi62_6, gi62_9, gi62_10, gi62_13, gi62_14, gi62_15, gi62_16, gi62_19, gi62_22, gi62_23, gi62_24, gi62_27, gi62_28, gi62_29, gi62_30, gi62_31, gi62_34, gi62_37, gi62_38, gi62_41, gi62_42, gi62_43, gi62_46, gi62_47, gi62_48, gi62_49, gi62_52, gi62_53, gi62_54, gi62_55, gi62_56, gi62_57, gi62_58, gi62_59, gi62_62, gi62_63, gi62_64, gi62_65, gi62_66, gi62_69, gi62_70, gi62_71, gi62_72, gi62_75, gi62_76, gi62_77, gi62_80, gi62_83, gi62_86, gi62_87, gi62_88, gi62_89, gi62_90, gi62_93, gi62_96, gi62_97, gi62_98, gi62_99, gi62_100, gi62_101, gi62_102, gi62_103, gi62_104, gi62_105, gi62_106, gi62_107, gi62_110, gi62_111, gi62_112, gi62_115, gi62_117, gi62_120, gi62_121, gi62_124, gi62_125, gi62_126, gi62_129, gi62_130, gi62_133, gi62_134, gi62_135, gi62_136, gi62_139, gi62_140, gi62_142, gi62_143, gi62_144, gi62_145, gi62_146, gi62_148, gi62_151, gi62_152, gi62_155, gi62_156, gi62_157, gi62_158, gi62_161, gi62_162, gi62_163, gi62_164, gi62_165, gi62_166, gi62_167, gi62_169, gi62_170, gi62_172, gi62_175, gi62_178, gi62_181, gi62_182, gi62_184, gi62_186, gi62_187, gi62_188, gi62_191, gl0, gl1, gl2, gl3, gl4, gl5, gl6, gl7, gl8, gl9, gl10, gl11, gl12, gl13, gl14, gl15, gl16, gl17, gl18, gl19, gl20, gl21, gl22, gl23, gl24, gl25, gl26, gl27, gl28, gl29, gl30, gl31, gl32, gl33, gl34, gl35, gl36, gl37, gl38, gl39, gl40, gl41, gl42, gl43, gl44, gl45, gl46, gl47, gl48, gl49, gl50, gl51, gl52, gl53, gl54, gl55, gl56, gl57]
    simp (disch := first | decide | omega) only [gx_w_np, gx_w_p, Int32.reduceToInt, Int.toNat_natCast, if_true, if_false, nI_1, nI_pred, i_nI, ite_true, ite_false, Int.reduceToNat, Nat.reduceEqDiff, Nat.reduceAdd, i_le]
    exact ⟨fun _ => hP M (fun _ _ => rfl) (fun _ _ => rfl) (fun j x y => absurd y (by omega)), fun q => absurd (by omega) q⟩
  | succ d ih =>
    intro i M hi hP
    refine gx_wp_ok 20 false _ _ _ _ ?_
    simp only [gx_w_np, gx_w_p, ne_eq, not_false_eq_true, gx_wp, gx_step, gx_cnd, gb0, gb1, Classical.not_not, List.getD_cons_zero, List.getD_cons_succ, List.set_cons_zero, List.set_cons_succ, List.length_cons, List.length_nil, Nat.reduceAdd, Nat.reduceLT, Nat.reduceLeDiff, Nat.reduceEqDiff, Bool.and_false, Bool.and_true, Bool.true_and, Bool.false_and, Bool.false_eq_true, if_false, if_true, ite_true, ite_false, Fin.isValue, Fin.val_zero, Fin.val_one, Fin.val_two, gz0, gz1, gz2, gz3, List.take_succ_cons, List.take_zero, List.drop_succ_cons, List.drop_zero, List.reverse_cons, List.reverse_nil, List.nil_append, List.cons_append, gx_nx, Int32.reduceToInt, Int.reduceToNat, Int.toNat_zero, Int.toNat_one, Int.reduceLT, Int.reduceLE, Int.ofNat_zero, Int.reduceNeg, Int.le_refl, and_self, List.getElem?_cons_zero, List.getElem?_cons_succ, true_and, and_true, Nat.reduceSub, List.replicate, List.append_nil, Nat.reduceLeDiff, Nat.le_add_left, Nat.zero_le, Nat.zero_add, gc4_94, gf4_13, gf4_16, gf4_19, gf4_28, gf4_32, gf4_35, gf4_38, gf4_41, gf4_80, gf4_84, gf4_91, gk_bipush_20, gk_bipush_21, gk_iconst_0, gk_iconst_1, gk_iconst_2, gk_sipush_576, gm4_87, gn61, gn62, gr61, gr62, gt4_16, gv62, gi62_0, gi62_1, gi62_2, gi62_3, gi62_6, gi62_9, gi62_10, gi62_13, gi62_14, gi62_15, gi62_16, gi62_19, gi62_22, gi62_23, gi62_24, gi62_27, gi62_28, gi62_29, gi62_30, gi62_31, gi62_34, gi62_37, gi62_38, gi62_41, gi62_42, gi62_43, gi62_46, gi62_47, gi62_48, gi62_49, gi62_52, gi62_53, gi62_54, gi62_55, gi62_56, gi62_57, gi62_58, gi62_59, gi62_62, gi62_63, gi62_64, gi62_65, gi62_66, gi62_69, gi62_70, gi62_71, gi62_72, gi62_75, gi62_76, gi62_77, gi62_80, gi62_83, gi62_86, gi62_87, gi62_88, gi62_89, gi62_90, gi62_93, gi62_96, gi62_97, gi62_98, gi62_99, gi62_100, gi62_101, gi62_102, gi62_103, gi62_104, gi62_105, gi62_106, gi62_107, gi62_110, gi62_111, gi62_112, gi62_115, gi62_117, gi62_120, gi62_121, gi62_124, gi62_125, gi62_126, gi62_129, gi62_130, gi62_133, gi62_134, gi62_135, gi62_136, gi62_139, gi62_140, gi62_142, gi62_143, gi62_144, gi62_145, gi62_146, gi62_148, gi62_151, gi62_152, gi62_155, gi62_156, gi62_157, gi62_158, gi62_161, gi62_162, gi62_163, gi62_164, gi62_165, gi62_166, gi62_167, gi62_169, gi62_170, gi62_172, gi62_175, gi62_178, gi62_181, gi62_182, gi62_184, gi62_186, gi62_187, gi62_188, gi62_191, gl0, gl1, gl2, gl3, gl4, gl5, gl6, gl7, gl8, gl9, gl10, gl11, gl12, gl13, gl14, gl15, gl16, gl17, gl18, gl19, gl20, gl21, gl22, gl23, gl24, gl25, gl26, gl27, gl28, gl29, gl30, gl31, gl32, gl33, gl34, gl35, gl36, gl37, gl38, gl39, gl40, gl41, gl42, gl43, gl44, gl45, gl46, gl47, gl48, gl49, gl50, gl51, gl52, gl53, gl54, gl55, gl56, gl57]
    simp (disch := first | decide | omega) only [gx_w_np, gx_w_p, Int32.reduceToInt, Int.toNat_natCast, if_true, if_false, nI_1, nI_pred, i_nI, ite_true, ite_false, Int.reduceToNat, Nat.reduceEqDiff, Nat.reduceAdd, i_le]
    refine ⟨fun q => absurd q (by omega), fun _ => ⟨by omega, ih (i + 1) _ (by omega) (fun M1 x y z => hP M1 (fun p hp => ?_) (fun j hj => ?_) (fun j hj hn => ?_))⟩⟩
    · rw [x p hp]; funext j; rw [gx_w_np hp]
    · rw [y j (by omega), gx_w_p, if_neg (by omega)]
    · by_cases e : j = i
      · rw [e, y i (by omega), gx_w_p, if_pos rfl]
      · exact z j (by omega) hn
theorem cq_cM (D : gD) (r s : Int) (x y : Nat) : cq D r s (dE D) x y = cM (dA D) (dB D) (dL D r) (dH D s) x y := by
  refine sm_congr (fun e he => ?_)
  by_cases z : dE D e = true
  · rw [if_pos z]; unfold cN dA dB; rw [if_pos z, if_pos z]
  · rw [if_neg z]; unfold cN dL dH; rw [if_neg z, if_neg z]; simp
set_option maxRecDepth 100000 in
set_option maxHeartbeats 4000000 in
theorem sr_layOut {X : gx_X} {M : gx_M} {n m : Nat} {lv hv : Int32} {P : Option Value → gx_M → Prop} (hn : M 34 0 = nI n) (hm : M 34 3 = nI m) (O : gok (dR M n m)) (hr : 0 ≤ lv.toInt) (hrs : lv.toInt ≤ hv.toInt) (hs : hv.toInt ≤ 1000000)
    (hP : ∀ M1, fr45 M M1 → (∀ x y, x < 24 → y < 24 → lf M1 x y = cM (dA (dR M n m)) (dB (dR M n m)) (dL (dR M n m) lv.toInt) (dH (dR M n m) hv.toInt) x y) → (M1 34 16).toInt = sm_ 61 (dL (dR M n m) lv.toInt) → P none M1) : gx_C X 62 [.ref 34, .int lv, .int hv] M P := by
  refine gx_C_wp 20 ?_
  simp only [gx_w_np, gx_w_p, ne_eq, not_false_eq_true, gx_wp, gx_step, gx_cnd, gb0, gb1, Classical.not_not, List.getD_cons_zero, List.getD_cons_succ, List.set_cons_zero, List.set_cons_succ, List.length_cons, List.length_nil, Nat.reduceAdd, Nat.reduceLT, Nat.reduceLeDiff, Nat.reduceEqDiff, Bool.and_false, Bool.and_true, Bool.true_and, Bool.false_and, Bool.false_eq_true, if_false, if_true, ite_true, ite_false, Fin.isValue, Fin.val_zero, Fin.val_one, Fin.val_two, gz0, gz1, gz2, gz3, List.take_succ_cons, List.take_zero, List.drop_succ_cons, List.drop_zero, List.reverse_cons, List.reverse_nil, List.nil_append, List.cons_append, gx_nx, Int32.reduceToInt, Int.reduceToNat, Int.toNat_zero, Int.toNat_one, Int.reduceLT, Int.reduceLE, Int.ofNat_zero, Int.reduceNeg, Int.le_refl, and_self, List.getElem?_cons_zero, List.getElem?_cons_succ, true_and, and_true, Nat.reduceSub, List.replicate, List.append_nil, Nat.reduceLeDiff, Nat.le_add_left, Nat.zero_le, Nat.zero_add, gc4_94, gf4_13, gf4_16, gf4_19, gf4_28, gf4_32, gf4_35, gf4_38, gf4_41, gf4_80, gf4_84, gf4_91, gk_bipush_20, gk_bipush_21, gk_iconst_0, gk_iconst_1, gk_iconst_2, gk_sipush_576, gm4_87, gn61, gn62, gr61, gr62, gt4_16, gv62, gi62_0, gi62_1, gi62_2, gi62_3, gi62_6, gi62_9, gi62_10, gi62_13, gi62_14, gi62_15, gi62_16, gi62_19, gi62_22, gi62_23, gi62_24, gi62_27, gi62_28, gi62_29, gi62_30, gi62_31, gi62_34, gi62_37, gi62_38, gi62_41, gi62_42, gi62_43, gi62_46, gi62_47, gi62_48, gi62_49, gi62_52, gi62_53, gi62_54, gi62_55, gi62_56, gi62_57, gi62_58, gi62_59, gi62_62, gi62_63, gi62_64, gi62_65, gi62_66, gi62_69, gi62_70, gi62_71, gi62_72, gi62_75, gi62_76, gi62_77, gi62_80, gi62_83, gi62_86, gi62_87, gi62_88, gi62_89, gi62_90, gi62_93, gi62_96, gi62_97, gi62_98, gi62_99, gi62_100, gi62_101, gi62_102, gi62_103, gi62_104, gi62_105, gi62_106, gi62_107, gi62_110, gi62_111, gi62_112, gi62_115, gi62_117, gi62_120, gi62_121, gi62_124, gi62_125, gi62_126, gi62_129, gi62_130, gi62_133, gi62_134, gi62_135, gi62_136, gi62_139, gi62_140, gi62_142, gi62_143, gi62_144, gi62_145, gi62_146, gi62_148, gi62_151, gi62_152, gi62_155, gi62_156, gi62_157, gi62_158, gi62_161, gi62_162, gi62_163, gi62_164, gi62_165, gi62_166, gi62_167, gi62_169, gi62_170, gi62_172, gi62_175, gi62_178, gi62_181, gi62_182, gi62_184, gi62_186, gi62_187, gi62_188, gi62_191, gl0, gl1, gl2, gl3, gl4, gl5, gl6, gl7, gl8, gl9, gl10, gl11, gl12, gl13, gl14, gl15, gl16, gl17, gl18, gl19, gl20, gl21, gl22, gl23, gl24, gl25, gl26, gl27, gl28, gl29, gl30, gl31, gl32, gl33, gl34, gl35, gl36, gl37, gl38, gl39, gl40, gl41, gl42, gl43, gl44, gl45, gl46, gl47, gl48, gl49, gl50, gl51, gl52, gl53, gl54, gl55, gl56, gl57]
  rw [← nI_0]
  refine l62_0 576 0 M (by omega) (fun M1 x y z => ?_)
  have F : fr45 M (gx_w M1 34 16 0) := fun p j a b => by
    by_cases e : p = 34
    · subst e
      rw [gx_w_p, if_neg (fun q => b ⟨rfl, q⟩), x 34 (by decide)]
    · rw [gx_w_np e, x p a]
  have no : ∀ e, qs (dR M n m) 0 0 e = false := fun e => by unfold qs; rw [decide_eq_false (by omega)]; simp
  rw [← nI_0]
  refine l62_a hn hm O hr hrs hs (fun M2 F2 K2 => hP M2 F2 (fun a b ha hb => ?_) ?_) m 0 _ (by omega) F ⟨fun a b ha hb => ?_, ?_⟩
  · rw [K2.1 a b ha hb, cq_cM]
  · rw [K2.2]
    refine sm_congr (fun e he => ?_)
    by_cases w : dE (dR M n m) e = true
    · rw [if_pos w]
    · rw [if_neg w]; unfold dL; rw [if_neg w]
  · unfold lf cq
    rw [gx_w_np (by decide), z _ (by omega) (by omega), sm_z' (fun e he => by rw [no e, if_neg (by decide)])]
    decide
  · rw [gx_w_p, if_pos rfl]
    unfold lq
    rw [sm_z' (fun e he => by rw [no e, if_neg (by decide)])]
    decide
