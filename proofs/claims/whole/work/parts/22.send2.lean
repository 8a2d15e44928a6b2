/-! send: what goes along the way. -/
def nf (M : gx_M) (e : Nat) : Int := (M 15 e).toInt
def na (M : gx_M) (e : Nat) : Nat := (M 13 e).toInt.toNat
def nb (M : gx_M) (e : Nat) : Nat := (M 14 e).toInt.toNat
theorem nt_d_up {n : Nat} {fr to : Nat → Nat} {f f' : Nat → Int} {e v : Nat} {δ : Int} (he : e < n) (h1 : f' e = f e + δ) (h2 : ∀ i, i < n → i ≠ e → f' i = f i) : nt_d n fr to f' v = nt_d n fr to f v + nt_c fr to e v * δ := by
  have h3 := sm_up (f := fun i => nt_c fr to i v * f i) (k := e) (x := nt_c fr to e v * f' e) (n := n) he
  unfold nt_d
  rw [sm_congr (g := fun i => if i = e then nt_c fr to e v * f' e else nt_c fr to i v * f i) (fun i hi => ?_), h3, h1, Int.mul_add]
  · omega
  · by_cases e1 : i = e
    · rw [if_pos e1, e1]
    · rw [if_neg e1, h2 i hi e1]
/-- the sign of a half -/
def sg (h : Nat) : Int := if h % 2 = 0 then 1 else -1
/-- what a half does to what comes less what goes -/
theorem nt_c_half {M : gx_M} {h u w v : Nat} (hu : u < 22) (hw : w < 22) (h1 : nt_e M h = nI w) (h2 : nt_e M (b_x h) = nI u) : nt_c (na M) (nb M) (h / 2) v * sg h = (if v = w then 1 else 0) - (if v = u then 1 else 0) := by
  unfold nt_e at h1 h2
  rw [b_x2] at h2
  unfold nt_c sg na nb
  by_cases e : h % 2 = 0
  · have e2 : ¬ b_x h % 2 = 0 := by unfold b_x; rw [if_pos e]; omega
    rw [if_pos e] at h1
    rw [if_neg e2] at h2
    rw [h1, h2, i_nI (by omega), i_nI (by omega), if_pos e, Int.toNat_natCast, Int.toNat_natCast, Int.mul_one]
    congr 1
    · by_cases z : v = w
      · rw [if_pos z, if_pos z.symm]
      · rw [if_neg z, if_neg (fun q => z q.symm)]
    · by_cases z : v = u
      · rw [if_pos z, if_pos z.symm]
      · rw [if_neg z, if_neg (fun q => z q.symm)]
  · have e2 : b_x h % 2 = 0 := by unfold b_x; rw [if_neg e]; omega
    rw [if_neg e] at h1
    rw [if_pos e2] at h2
    rw [h1, h2, i_nI (by omega), i_nI (by omega), if_neg e, Int.toNat_natCast, Int.toNat_natCast]
    have c1 : (if w = v then (1 : Int) else 0) = if v = w then 1 else 0 := by
      by_cases z : v = w
      · rw [if_pos z, if_pos z.symm]
      · rw [if_neg z, if_neg (fun q => z q.symm)]
    have c2 : (if u = v then (1 : Int) else 0) = if v = u then 1 else 0 := by
      by_cases z : v = u
      · rw [if_pos z, if_pos z.symm]
      · rw [if_neg z, if_neg (fun q => z q.symm)]
    rw [c1, c2]
    omega
def sd_I (M Mj : gx_M) (rk : Nat → Nat) (g j : Nat) (a : Int) : Prop :=
  (∀ p, p ≠ 15 → Mj p = M p) ∧ (∀ e, e < 61 → (∀ i, i < j → ph M (pv M g i) / 2 ≠ e) → Mj 15 e = M 15 e) ∧
  (∀ i, i < j → nf Mj (ph M (pv M g i) / 2) = nf M (ph M (pv M g i) / 2) + sg (ph M (pv M g i)) * a) ∧
  (∀ v, nt_d 61 (na M) (nb M) (nf Mj) v = nt_d 61 (na M) (nb M) (nf M) v + a * ((if v = g then 1 else 0) - (if v = pv M g j then 1 else 0))) ∧
  (∀ i, i < j → pv M g i < 22 ∧ M 19 (pv M g i) ≠ -1 ∧ rk (pv M g j) < rk (pv M g i))
/-- behind send -/
def sd_1 (M M1 : gx_M) (g s : Nat) (a : Int) : Prop :=
  (∀ p, p ≠ 15 → M1 p = M p) ∧ (∀ e, e < 61 → nf M1 e = nf M e ∨ ∃ v, onp M g s v ∧ v < 22 ∧ M 19 v ≠ -1 ∧ ph M v / 2 = e ∧ nf M1 e = nf M e + sg (ph M v) * a) ∧
  (∀ v, nt_d 61 (na M) (nb M) (nf M1) v = nt_d 61 (na M) (nb M) (nf M) v + a * ((if v = g then 1 else 0) - (if v = s then 1 else 0)))
theorem b_xx {h h' : Nat} (h1 : h / 2 = h' / 2) (h2 : h ≠ h') : h' = b_x h := by
  unfold b_x
  by_cases e : h % 2 = 0
  · rw [if_pos e]; omega
  · rw [if_neg e]; omega
set_option maxRecDepth 100000 in
set_option maxHeartbeats 4000000 in
theorem l_send {X : gx_X} {M : gx_M} {ep : Nat → Bool} {rk : Nat → Nat} {s g : Nat} {a : Int32} {P : Option Value → gx_M → Prop} (S : pw_S M ep rk s) (ha0 : 0 ≤ a.toInt) (ha : a.toInt ≤ 100000) (hf : ∀ e, e < 61 → -200000 ≤ nf M e ∧ nf M e ≤ 200000) (hP : ∀ M1, sd_1 M M1 g s a.toInt → P none M1) :
    ∀ (d j : Nat) (Mj : gx_M), rk (pv M g j) < d → rk (pv M g j) + j ≤ 21 → pv M g j < 22 → (pv M g j = s ∨ M 19 (pv M g j) ≠ -1) → (∀ i, i < j → pv M g i ≠ s) → sd_I M Mj rk g j a.toInt →
      gx_OK X 20 10 [.ref 2, .int (nI g), .int a, .int (M 19 (pv M g j)), .int (nI j)] [] Mj P := by
  intro d
  induction d with
  | zero => intro j Mj h; exact absurd h (by omega)
  | succ d ih =>
    intro j Mj h1 h2 h3 h4 h5 I
    obtain ⟨i1, i2, i3, i4, i5⟩ := id I
    refine gx_wp_ok 100 false _ _ _ _ ?_
    simp only [gx_w_np, gx_w_p, ne_eq, not_false_eq_true, gx_wp, gx_step, gx_cnd, gb0, gb1, Classical.not_not, List.getD_cons_zero, List.getD_cons_succ, List.set_cons_zero, List.set_cons_succ, List.length_cons, List.length_nil, Nat.reduceAdd, Nat.reduceLT, Nat.reduceLeDiff, Nat.reduceEqDiff, Bool.and_false, Bool.and_true, Bool.true_and, Bool.false_and, Bool.false_eq_true, if_false, if_true, ite_true, ite_false, Fin.isValue, Fin.val_zero, Fin.val_one, Fin.val_two, gz0, gz1, gz2, gz3, List.take_succ_cons, List.take_zero, List.drop_succ_cons, List.drop_zero, List.reverse_cons, List.reverse_nil, List.nil_append, List.cons_append, gx_nx, Int32.reduceToInt, Int.reduceToNat, Int.toNat_zero, Int.toNat_one, Int.reduceLT, Int.reduceLE, Int.ofNat_zero, Int.reduceNeg, Int.le_refl, and_self, List.getElem?_cons_zero, List.getElem?_cons_succ, true_and, and_true, Nat.reduceSub, List.replicate, List.append_nil, Nat.reduceLeDiff, Nat.le_add_left, Nat.zero_le, Nat.zero_add, gf1_24, gf1_37, gk_bipush_22, gk_iconst_0, gk_iconst_1, gk_iconst_m1, gm1_83, gn20, gn21, gr20, gr21, gv20, gi20_0, gi20_1, gi20_4, gi20_5, gi20_6, gi20_7, gi20_8, gi20_10, gi20_12, gi20_14, gi20_17, gi20_18, gi20_19, gi20_22, gi20_23, gi20_26, gi20_27, gi20_28, gi20_29, gi20_30, gi20_31, gi20_32, gi20_33, gi20_34, gi20_37, gi20_38, gi20_41, gi20_42, gi20_43, gi20_44, gi20_45, gi20_46, gi20_49, gi20_50, gi20_51, gi20_52, gi20_53, gi20_56, gi20_57, gi20_58, gi20_61, gi20_64, gl0, gl1, gl2, gl3, gl4, gl5, gl6, gl7, gl8, gl9, gl10, gl11, gl12, gl13, gl14, gl15, gl16, gl17, gl18, gl19, gl20, gl21, gl22, gl23, gl24, gl25, gl26, gl27, gl28, gl29, gl30, gl31, gl32, gl33, gl34, gl35, gl36, gl37, gl38, gl39, gl40, gl41, gl42, gl43, gl44, gl45, gl46, gl47, gl48, gl49, gl50, gl51, gl52, gl53, gl54, gl55, gl56, gl57]
    simp (disch := first | decide | omega) only [gx_w_np, gx_w_p, Int32.reduceToInt, Int.toNat_natCast, if_true, if_false, nI_1, nI_pred, i_nI, ite_true, ite_false, Int.reduceToNat, Nat.reduceEqDiff, Nat.reduceAdd, i_le]
    refine ⟨fun q => absurd q (by omega), fun _ => ⟨fun q => hP Mj ⟨i1, fun e he => ?_, fun v => ?_⟩, fun q => ?_⟩⟩
    · by_cases z : ∃ i, i < j ∧ ph M (pv M g i) / 2 = e
      · obtain ⟨i, c1, c2⟩ := z
        refine Or.inr ⟨pv M g i, ⟨i, rfl, fun i' hi' => h5 i' (by omega)⟩, (i5 i c1).1, (i5 i c1).2.1, c2, ?_⟩
        rw [← c2]; exact i3 i c1
      · exact Or.inl (congrArg Int32.toInt (i2 e he (fun i hi c => z ⟨i, hi, c⟩)))
    · rcases h4 with z | z
      · rw [i4 v, z]
      · exact absurd q z
    · obtain ⟨h, c1, c2, c3, c4, c5, c6, c7, c8, c9, c10⟩ := pw_next S h3 q
      have hns : pv M g j ≠ s := fun z => q (by rw [z]; exact S.1)
      have fresh : ∀ i, i < j → ph M (pv M g i) / 2 ≠ h / 2 := by
        intro i hi z
        obtain ⟨d1, d2, d3⟩ := i5 i hi
        obtain ⟨h', f1, f2, f3, f4, f5, f6, f7, f8, f9, f10⟩ := pw_next S d1 d2
        rw [f3] at z
        by_cases e : h' = h
        · rw [e, c5] at f5
          have := nI_inj (by omega) (by omega) f5
          rw [this] at d3
          omega
        · have e2 : h' = b_x h := b_xx z.symm (fun q => e q.symm)
          rw [e2, c8] at f5
          have := nI_inj (by omega) (by omega) f5
          rw [this] at c9
          omega
      have e15 : Mj 15 (h / 2) = M 15 (h / 2) := i2 (h / 2) (by omega) fresh
      have hfe := hf (h / 2) (by omega)
      have step : ∀ x : Int32, x.toInt = nf M (h / 2) + sg h * a.toInt → gx_C X 21 [.ref 2, .int (nI h ^^^ 1)] (gx_w Mj 15 (h / 2) x) (fun r M1 => ∀ (x : Int32), r = some (.int x) → (0 ≤ x.toInt ∧ x.toInt < ((22 : Nat) : Int)) ∧ gx_OK X 20 10 [.ref 2, .int (nI g), .int a, .int (M1 19 x.toInt.toNat), .int (nI (j + 1))] [] M1 P) := by
        intro x hx
        rw [b_xor h c1]
        refine sp_endOf (b_x_lt h c1) ?_
        intro z hz
        cases hz
        have e1 : nt_e (gx_w Mj 15 (h / 2) x) (b_x h) = nt_e M (b_x h) := by
          unfold nt_e
          rw [gx_w_np (by decide), gx_w_np (by decide), i1 13 (by decide), i1 14 (by decide)]
        rw [e1, c8]
        simp (disch := first | decide | omega) only [gx_w_np, gx_w_p, Int32.reduceToInt, Int.toNat_natCast, if_true, if_false, nI_1, nI_pred, i_nI, ite_true, ite_false, Int.reduceToNat, Nat.reduceEqDiff, Nat.reduceAdd]
        rw [i1 19 (by decide)]
        refine ⟨by omega, ih (j + 1) _ (by omega) (by omega) c7 c10 (fun i hi => ?_) ⟨fun p hp => ?_, fun e he hne => ?_, fun i hi => ?_, fun v => ?_, fun i hi => ?_⟩⟩
        · by_cases e : i = j
          · rw [e]; exact hns
          · exact h5 i (by omega)
        · funext k
          rw [gx_w_np hp, i1 p hp]
        · have := hne j (by omega)
          rw [c3] at this
          rw [gx_w_p, if_neg (fun z => this z.symm)]
          exact i2 e he (fun i hi => hne i (by omega))
        · by_cases e : i = j
          · rw [e, c3]
            show ((gx_w Mj 15 (h / 2) x) 15 (h / 2)).toInt = _
            rw [gx_w_p, if_pos rfl, hx]
          · show ((gx_w Mj 15 (h / 2) x) 15 (ph M (pv M g i) / 2)).toInt = _
            rw [gx_w_p, if_neg (fresh i (by omega))]
            exact i3 i (by omega)
        · have e3 := nt_d_up (n := 61) (fr := na M) (to := nb M) (f := nf Mj) (f' := nf (gx_w Mj 15 (h / 2) x)) (e := h / 2) (v := v) (δ := sg h * a.toInt) (by omega) (by
            show ((gx_w Mj 15 (h / 2) x) 15 (h / 2)).toInt = (Mj 15 (h / 2)).toInt + _
            rw [gx_w_p, if_pos rfl, hx, e15]; rfl) (fun i _ hne => by
            show ((gx_w Mj 15 (h / 2) x) 15 i).toInt = _
            rw [gx_w_p, if_neg hne]; rfl)
          have e4 := nt_c_half (v := v) c7 h3 c5 c8
          rw [e3, i4 v, ← Int.mul_assoc, e4, Int.mul_comm _ a.toInt, Int.add_assoc, ← Int.mul_add]
          congr 2
          omega
        · by_cases e : i = j
          · rw [e]; exact ⟨h3, q, c9⟩
          · have := i5 i (by omega)
            exact ⟨this.1, this.2.1, by omega⟩
      rw [c2]
      simp (disch := first | decide | omega) only [b_and, b_shr, gx_w_np, gx_w_p, Int32.reduceToInt, Int.toNat_natCast, if_true, if_false, nI_1, nI_pred, i_nI, ite_true, ite_false, Int.reduceToNat, Nat.reduceEqDiff, Nat.reduceAdd, nI_z, e15]
      refine ⟨by omega, fun q2 => ⟨by omega, step _ ?_⟩, fun q2 => ⟨by omega, step _ ?_⟩⟩
      · have e5 : (-a).toInt = -a.toInt := by
          rw [Int32.toInt_neg]
          exact i_bm (by omega) (by omega)
        rw [i_add (by rw [e5]; unfold nf at hfe; omega) (by rw [e5]; unfold nf at hfe; omega), e5]
        unfold sg nf
        rw [if_neg q2]
        omega
      · rw [i_add (by unfold nf at hfe; omega) (by unfold nf at hfe; omega)]
        unfold sg nf
        rw [if_pos q2]
        omega
