/-! layOutEnd. -/
set_option maxRecDepth 100000 in
set_option maxHeartbeats 4000000 in
theorem sp_layOutEnd {X : gx_X} {M0 M : gx_M} {ep : Nat → Bool} {lo hi : Nat → Int32} {fa fb ct : Nat → Nat} {v : Nat} {k : Int32} {P : Option Value → gx_M → Prop} (K : mk_ M0 M ep lo hi fa fb ct) (hv : v < 10) (hne : ep (50 + v) = false) (hlo : lo (50 + v) = 0) (hhi : hi (50 + v) = 100000) (hc20 : ct 20 < 42) (hc21 : ct 21 < 42) (hc0 : ct (2 * v) < 42) (hc1 : ct (2 * v + 1) < 42)
    (h1 : k = 1 → fa (50 + v) = 20 ∧ fb (50 + v) = 2 * v) (h2 : k = 2 → fa (50 + v) = 2 * v + 1 ∧ fb (50 + v) = 21)
    (hP0 : k ≠ 1 → k ≠ 2 → P none M) (hP : (k = 1 ∨ k = 2) → ∀ M1, mk_ M0 M1 (fun j => if j = 50 + v then true else ep j) lo hi fa fb (fun w => if w = fa (50 + v) then ct w + 1 else if w = fb (50 + v) then ct w + 1 else ct w) → P none M1) : gx_C X 56 [.ref 0, .int (nI v), .int k] M P := by
  refine gx_C_wp 100 ?_
  simp only [gx_w_np, gx_w_p, ne_eq, not_false_eq_true, gx_wp, gx_step, gx_cnd, gb0, gb1, Classical.not_not, List.getD_cons_zero, List.getD_cons_succ, List.set_cons_zero, List.set_cons_succ, List.length_cons, List.length_nil, Nat.reduceAdd, Nat.reduceLT, Nat.reduceLeDiff, Nat.reduceEqDiff, Bool.and_false, Bool.and_true, Bool.true_and, Bool.false_and, Bool.false_eq_true, if_false, if_true, ite_true, ite_false, Fin.isValue, Fin.val_zero, Fin.val_one, Fin.val_two, gz0, gz1, gz2, gz3, List.take_succ_cons, List.take_zero, List.drop_succ_cons, List.drop_zero, List.reverse_cons, List.reverse_nil, List.nil_append, List.cons_append, gx_nx, Int32.reduceToInt, Int.reduceToNat, Int.toNat_zero, Int.toNat_one, Int.reduceLT, Int.reduceLE, Int.ofNat_zero, Int.reduceNeg, Int.le_refl, and_self, List.getElem?_cons_zero, List.getElem?_cons_succ, true_and, and_true, Nat.reduceSub, List.replicate, List.append_nil, Nat.reduceLeDiff, Nat.le_add_left, Nat.zero_le, Nat.zero_add, gc3_64, gf3_19, gk_bipush_20, gk_bipush_21, gk_bipush_50, gk_iconst_0, gk_iconst_1, gk_iconst_2, gm3_188, gm3_191, gm3_194, gn50, gn51, gn56, gn9, gr50, gr51, gr56, gr9, gv56, gi56_0, gi56_1, gi56_2, gi56_5, gi56_6, gi56_9, gi56_11, gi56_12, gi56_13, gi56_15, gi56_16, gi56_19, gi56_20, gi56_22, gi56_25, gi56_28, gi56_29, gi56_30, gi56_33, gi56_34, gi56_37, gi56_39, gi56_40, gi56_41, gi56_42, gi56_45, gi56_47, gi56_48, gi56_50, gi56_53, gl0, gl1, gl2, gl3, gl4, gl5, gl6, gl7, gl8, gl9, gl10, gl11, gl12, gl13, gl14, gl15, gl16, gl17, gl18, gl19, gl20, gl21, gl22, gl23, gl24, gl25, gl26, gl27, gl28, gl29, gl30, gl31, gl32, gl33, gl34, gl35, gl36, gl37, gl38, gl39, gl40, gl41, gl42, gl43, gl44, gl45, gl46, gl47, gl48, gl49, gl50, gl51, gl52, gl53, gl54, gl55, gl56, gl57]
  have e50 : (50 : Int32) + nI v = nI (50 + v) := by rw [show (50 : Int32) = nI 50 by decide, nI_add]
  have e20 : (20 : Int32) = nI 20 := by decide
  have e21 : (21 : Int32) = nI 21 := by decide
  refine ⟨fun q => ⟨fun q2 => hP0 q q2, fun q2 => sp_goesOut ?_⟩, fun q => sp_cameIn ?_⟩
  · intro z hz
    cases hz
    obtain ⟨a, b⟩ := h2 q2
    rw [e50, e21, ← hlo, ← hhi, ← a, ← b]
    exact sp_put K (by omega) hne (by omega) (by omega) (by omega) (by rw [a]; exact hc1) (by rw [b]; exact hc21) (hP (Or.inr q2))
  · intro z hz
    cases hz
    obtain ⟨a, b⟩ := h1 q
    rw [e50, e20, ← hlo, ← hhi, ← a, ← b]
    exact sp_put K (by omega) hne (by omega) (by omega) (by omega) (by rw [a]; exact hc20) (by rw [b]; exact hc0) (hP (Or.inl q))
/-- the net of a graph: bounds and ends of its edges -/
def lyL (M : gx_M) (e : Nat) : Int32 := if e < 40 then M 8 e else 0
def lyH (M : gx_M) (e : Nat) : Int32 := if e < 40 then M 9 e else if e < 50 then (if M 5 (e - 40) = -1 then 100000 else M 5 (e - 40)) else 100000
def lyA (M : gx_M) (kd : Nat → Int32) (e : Nat) : Nat := if e < 40 then 2 * (M 6 e).toInt.toNat + 1 else if e < 50 then 2 * (e - 40) else if e < 60 then (if kd (e - 50) = 1 then 20 else 2 * (e - 50) + 1) else 21
def lyB (M : gx_M) (kd : Nat → Int32) (e : Nat) : Nat := if e < 40 then 2 * (M 7 e).toInt.toNat else if e < 50 then 2 * (e - 40) + 1 else if e < 60 then (if kd (e - 50) = 1 then 2 * (e - 50) else 21) else 20
/-- which edges are put behind i nodes and j arcs -/
def lyE (M : gx_M) (kd : Nat → Int32) (i j : Nat) (e : Nat) : Bool := decide ((e < j ∧ e < 40 ∧ M 10 e = 0) ∨ (40 ≤ e ∧ e < 40 + i ∧ e < 50) ∨ (50 ≤ e ∧ e < 50 + i ∧ e < 60 ∧ kd (e - 50) ≠ 0))
/-- how many halves there are at most at a vertex behind i nodes and j arcs -/
def lyC (kd : Nat → Int32) (i j : Nat) (w : Nat) : Nat := if w < 20 then (if w / 2 < i then 1 + (if kd (w / 2) = 0 then 0 else 1) else 0) + j else i
theorem mk_mono {M0 M : gx_M} {ep ep2 : Nat → Bool} {lo hi : Nat → Int32} {fa fb ct ct2 : Nat → Nat} (K : mk_ M0 M ep lo hi fa fb ct) (h : ∀ e, e < 61 → ep2 e = ep e) (hc : ∀ w, w < 22 → ct w ≤ ct2 w) : mk_ M0 M ep2 lo hi fa fb ct2 := by
  obtain ⟨k1, k2, k3, k4⟩ := K
  refine ⟨k1, ⟨fun e he hp => k2.1 e he (by rw [← h e he]; exact hp), fun w hw => ?_, fun x hx hp => k2.2.2 x hx (by rw [← h (x / 2) (by omega)]; exact hp)⟩, fun e he => ?_, fun w hw => ?_⟩
  · obtain ⟨c, c1, c2, c3⟩ := k2.2.1 w hw
    refine ⟨c, c1, c2, fun i hi => ?_⟩
    obtain ⟨x, d1, d2, d3, d4⟩ := c3 i hi
    exact ⟨x, d1, d2, by rw [h (x / 2) (by omega)]; exact d3, d4⟩
  · rw [h e he]; exact k3 e he
  · obtain ⟨c, c1, c2⟩ := k4 w hw
    exact ⟨c, Nat.le_trans c1 (hc w hw), c2⟩
