/-! layOutFirstGreatest, helpsAs, tight. -/
set_option maxRecDepth 100000 in
set_option maxHeartbeats 4000000 in
theorem sp_put2 {X : gx_X} {M : gx_M} {ep : Nat → Bool} {e a b ca cb : Nat} {lo hi : Int32} {P : Option Value → gx_M → Prop} (he : e < 61) (hne : ep e = false) (ha : a < 22) (hb : b < 22) (hab : a ≠ b) (H : st_H M ep) (ca2 : M 18 a = nI ca) (hca : ca < 42) (cb2 : M 18 b = nI cb) (hcb : cb < 42)
    (hP : ∀ M1, st_H M1 (fun j => if j = e then true else ep j) → (∀ p, p ≠ 11 → p ≠ 12 → p ≠ 13 → p ≠ 14 → p ≠ 17 → p ≠ 18 → M1 p = M p) → (∀ j, M1 11 j = if j = e then lo else M 11 j) → (∀ j, M1 12 j = if j = e then hi else M 12 j) → (∀ j, M1 13 j = if j = e then nI a else M 13 j) → (∀ j, M1 14 j = if j = e then nI b else M 14 j) → P none M1) :
    gx_C X 9 [.ref 2, .int (nI e), .int (nI a), .int (nI b), .int lo, .int hi] M P := by
  refine gx_C_wp 100 ?_
  simp only [gx_w_np, gx_w_p, ne_eq, not_false_eq_true, gx_wp, gx_step, gx_cnd, gb0, gb1, Classical.not_not, List.getD_cons_zero, List.getD_cons_succ, List.set_cons_zero, List.set_cons_succ, List.length_cons, List.length_nil, Nat.reduceAdd, Nat.reduceLT, Nat.reduceLeDiff, Nat.reduceEqDiff, Bool.and_false, Bool.and_true, Bool.true_and, Bool.false_and, Bool.false_eq_true, if_false, if_true, ite_true, ite_false, Fin.isValue, Fin.val_zero, Fin.val_one, Fin.val_two, gz0, gz1, gz2, gz3, List.take_succ_cons, List.take_zero, List.drop_succ_cons, List.drop_zero, List.reverse_cons, List.reverse_nil, List.nil_append, List.cons_append, gx_nx, Int32.reduceToInt, Int.reduceToNat, Int.toNat_zero, Int.toNat_one, Int.reduceLT, Int.reduceLE, Int.ofNat_zero, Int.reduceNeg, Int.le_refl, and_self, List.getElem?_cons_zero, List.getElem?_cons_succ, true_and, and_true, Nat.reduceSub, List.replicate, List.append_nil, Nat.reduceLeDiff, Nat.le_add_left, Nat.zero_le, Nat.zero_add, gf1_15, gf1_18, gf1_21, gf1_9, gk_iconst_1, gk_iconst_2, gm1_49, gn10, gn9, gr10, gr9, gv9, gi9_0, gi9_1, gi9_4, gi9_5, gi9_6, gi9_7, gi9_8, gi9_11, gi9_12, gi9_13, gi9_14, gi9_15, gi9_18, gi9_19, gi9_21, gi9_22, gi9_23, gi9_26, gi9_27, gi9_29, gi9_30, gi9_31, gi9_32, gi9_33, gi9_34, gi9_35, gi9_38, gi9_39, gi9_40, gi9_41, gi9_42, gi9_43, gi9_44, gi9_45, gi9_48, gl0, gl1, gl2, gl3, gl4, gl5, gl6, gl7, gl8, gl9, gl10, gl11, gl12, gl13, gl14, gl15, gl16, gl17, gl18, gl19, gl20, gl21, gl22, gl23, gl24, gl25, gl26, gl27, gl28, gl29, gl30, gl31, gl32, gl33, gl34, gl35, gl36, gl37, gl38, gl39, gl40, gl41, gl42, gl43, gl44, gl45, gl46, gl47, gl48, gl49, gl50, gl51, gl52, gl53, gl54, gl55, gl56, gl57]
  have e2 : (2 : Int32) * nI e = nI (2 * e) := by rw [show (2 : Int32) = nI 2 by decide, pk_mul]
  rw [e2]
  simp (disch := first | decide | omega) only [gx_w_np, gx_w_p, Int32.reduceToInt, Int.toNat_natCast, if_true, if_false, nI_1, nI_pred, i_nI, ite_true, ite_false, Int.reduceToNat, Nat.reduceEqDiff, Nat.reduceAdd]
  refine ⟨by omega, by omega, by omega, by omega, ?_⟩
  refine sp_addHalf (c := ca) ha (by simp (disch := first | decide | omega) only [gx_w_np, gx_w_p, Int32.reduceToInt, Int.toNat_natCast, if_true, if_false, nI_1, nI_pred, i_nI, ite_true, ite_false, Int.reduceToNat, Nat.reduceEqDiff, Nat.reduceAdd]; exact ca2) (by omega) ?_
  refine sp_addHalf (c := cb) hb (by
    simp (disch := first | decide | omega) only [gx_w_np, gx_w_p, Int32.reduceToInt, Int.toNat_natCast, if_true, if_false, nI_1, nI_pred, i_nI, ite_true, ite_false, Int.reduceToNat, Nat.reduceEqDiff, Nat.reduceAdd]
    rw [if_neg (fun z => hab z.symm)]; exact cb2) (by omega) ?_
  refine hP _ ?_ ?_ ?_ ?_ ?_ ?_
  · refine put_H he hne ha hb hab (by omega) (by omega) H ca2 cb2 (fun j => ?_) (fun j => ?_) (fun j => ?_) (fun j => ?_) <;> simp (disch := first | decide | omega) only [gx_w_np, gx_w_p, Int32.reduceToInt, Int.toNat_natCast, if_true, if_false, nI_1, nI_pred, i_nI, ite_true, ite_false, Int.reduceToNat, Nat.reduceEqDiff, Nat.reduceAdd]
  · intro p h1 h2 h3 h4 h7 h8
    funext j
    rw [gx_w_np h8, gx_w_np h7, gx_w_np h8, gx_w_np h7, gx_w_np h2, gx_w_np h1, gx_w_np h4, gx_w_np h3]
  · intro j; simp (disch := first | decide | omega) only [gx_w_np, gx_w_p, Int32.reduceToInt, Int.toNat_natCast, if_true, if_false, nI_1, nI_pred, i_nI, ite_true, ite_false, Int.reduceToNat, Nat.reduceEqDiff, Nat.reduceAdd]
  · intro j; simp (disch := first | decide | omega) only [gx_w_np, gx_w_p, Int32.reduceToInt, Int.toNat_natCast, if_true, if_false, nI_1, nI_pred, i_nI, ite_true, ite_false, Int.reduceToNat, Nat.reduceEqDiff, Nat.reduceAdd]
  · intro j; simp (disch := first | decide | omega) only [gx_w_np, gx_w_p, Int32.reduceToInt, Int.toNat_natCast, if_true, if_false, nI_1, nI_pred, i_nI, ite_true, ite_false, Int.reduceToNat, Nat.reduceEqDiff, Nat.reduceAdd]
  · intro j; simp (disch := first | decide | omega) only [gx_w_np, gx_w_p, Int32.reduceToInt, Int.toNat_natCast, if_true, if_false, nI_1, nI_pred, i_nI, ite_true, ite_false, Int.reduceToNat, Nat.reduceEqDiff, Nat.reduceAdd]
/-- another kind of one node -/
def dK (D : gD) (v : Nat) (k : Int32) : gD := (gdn D, gdm D, gdl D, gdf D, gdt D, gdb D, (fun u => if u = v then k else gdk D u), gdx D, gdy D)
theorem gok_K {D : gD} (O : gok D) {v : Nat} {k : Int32} (h : 0 ≤ k.toInt ∧ k.toInt ≤ 2) : gok (dK D v k) :=
  ⟨O.1, O.2.1, fun u hu => by
    have := O.2.2.1 u hu
    show 0 ≤ (if u = v then k else gdk D u).toInt ∧ (if u = v then k else gdk D u).toInt ≤ 2 ∧ _
    by_cases z : u = v
    · rw [if_pos z]; exact ⟨h.1, h.2, this.2.2⟩
    · rw [if_neg z]; exact this, O.2.2.2⟩
theorem dK_E {D : gD} {v : Nat} {k : Int32} (hv : v < 10) (hvn : v < gdn D) (hk : k ≠ 0) {e : Nat} (he : e < 61) : dE (dK D v k) e = if e = 50 + v then true else dE D e := by
  by_cases z : e = 50 + v
  · rw [if_pos z, z]
    refine (dE3 hv).mpr ⟨hvn, ?_⟩
    show (if v = v then k else gdk D v) ≠ 0
    rw [if_pos rfl]; exact hk
  · rw [if_neg z]
    refine Bool.eq_iff_iff.mpr ?_
    rcases d_reg he with h | ⟨u, h, rfl⟩ | ⟨u, h, rfl⟩ | rfl
    · rw [dE1 h, dE1 h]; exact Iff.rfl
    · rw [dE2 h, dE2 h]; exact Iff.rfl
    · rw [dE3 h, dE3 h]
      show (u < gdn D ∧ (if u = v then k else gdk D u) ≠ 0) ↔ _
      rw [if_neg (fun q => z (by rw [q]))]
    · rw [dE4, dE4]
theorem dK_o {D : gD} {v : Nat} {k : Int32} (hv : v < 10) (hvn : v < gdn D) (hk : k ≠ 0) {e : Nat} (he : e < 61) (hne : e ≠ 50 + v) : dA (dK D v k) e = dA D e ∧ dB (dK D v k) e = dB D e ∧ dL (dK D v k) 0 e = dL D 0 e ∧ dH (dK D v k) 1000000 e = dH D 1000000 e := by
  have hE := dK_E hv hvn hk he
  rw [if_neg hne] at hE
  have hA : dA' (dK D v k) e = dA' D e ∧ dB' (dK D v k) e = dB' D e := by
    rcases d_reg he with h | ⟨u, h, rfl⟩ | ⟨u, h, rfl⟩ | rfl
    · rw [dA1 h, dA1 h, dB1 h, dB1 h]; exact ⟨rfl, rfl⟩
    · rw [dA2 h, dA2 h, dB2 h, dB2 h]; exact ⟨rfl, rfl⟩
    · have : gdk (dK D v k) u = gdk D u := by
        show (if u = v then k else gdk D u) = gdk D u
        rw [if_neg (fun q => hne (by rw [q]))]
      rw [dA3 h, dA3 h, dB3 h, dB3 h, this]; exact ⟨rfl, rfl⟩
    · exact ⟨rfl, rfl⟩
  unfold dA dB dL dH
  rw [hE, hA.1, hA.2]
  exact ⟨rfl, rfl, rfl, rfl⟩
/-- only the net changed -/
theorem ck_net {M1 M2 : gx_M} {n m : Nat} (C : ck M1 n m) (h : ∀ p, p < 11 ∨ 20 < p → M2 p = M1 p) (hs : stl M2) : ck M2 n m ∧ cf M1 M2 := by
  obtain ⟨W, S, c1, c2, c3, c4, c5⟩ := C
  have F : cf M1 M2 := fun p hp => h p (by omega)
  refine ⟨⟨W_cf F W, hs, ?_⟩, F⟩
  rw [dC_cf n m F]
  have f0 := h 0 (by omega)
  refine ⟨?_, ?_, ?_, ?_, ?_⟩
  · have : sv M2 28 = sv M1 28 := by unfold sv; rw [h 28 (by omega)]
    rw [f0, this]; exact c1
  · have : sv M2 30 = sv M1 30 := by unfold sv; rw [h 30 (by omega)]
    rw [h 32 (by omega), this]; exact c2
  · have : sv M2 31 = sv M1 31 := by unfold sv; rw [h 31 (by omega)]
    rw [h 32 (by omega), this]; exact c3
  · rw [f0]
    exact fun q => CB_eq (by rw [f0]) (h 33 (by omega)) (c4 q)
  · rw [f0]
    exact fun q => CP_eq (h 3 (by omega)) (h 21 (by omega)) (h 22 (by omega)) (h 23 (by omega)) (c5 q)
set_option maxRecDepth 100000 in
set_option maxHeartbeats 4000000 in
theorem s_lfg {X : gx_X} {M : gx_M} {n m : Nat} {P : Option Value → gx_M → Prop} (C : ck M n m) (h10 : M 0 10 ≠ 0) (h11 : M 0 11 = 1)
    (hP : ∀ M1 M2, cf M M1 → ck M1 n m → M1 0 = M 0 → cs M1 M2 (dC M n m) → FV (dC M n m) 0 (nf M2) → (∀ e, e < 61 → M2 16 e = 0) → (∀ w, w < 22 → ∃ c, c ≤ (if 20 ≤ w then lyC (M 4) n m w + 1 else lyC (M 4) n m w) ∧ M2 18 w = nI c) → P none M2) : gx_C X 57 [.ref 0] M P := by
  refine gx_C_wp 40 ?_
  simp only [gx_w_np, gx_w_p, ne_eq, not_false_eq_true, gx_wp, gx_step, gx_cnd, gb0, gb1, Classical.not_not, List.getD_cons_zero, List.getD_cons_succ, List.set_cons_zero, List.set_cons_succ, List.length_cons, List.length_nil, Nat.reduceAdd, Nat.reduceLT, Nat.reduceLeDiff, Nat.reduceEqDiff, Bool.and_false, Bool.and_true, Bool.true_and, Bool.false_and, Bool.false_eq_true, if_false, if_true, ite_true, ite_false, Fin.isValue, Fin.val_zero, Fin.val_one, Fin.val_two, gz0, gz1, gz2, gz3, List.take_succ_cons, List.take_zero, List.drop_succ_cons, List.drop_zero, List.reverse_cons, List.reverse_nil, List.nil_append, List.cons_append, gx_nx, Int32.reduceToInt, Int.reduceToNat, Int.toNat_zero, Int.toNat_one, Int.reduceLT, Int.reduceLE, Int.ofNat_zero, Int.reduceNeg, Int.le_refl, and_self, List.getElem?_cons_zero, List.getElem?_cons_succ, true_and, and_true, Nat.reduceSub, List.replicate, List.append_nil, Nat.reduceLeDiff, Nat.le_add_left, Nat.zero_le, Nat.zero_add, gf3_19, gk_iconst_0, gm3_102, gm3_162, gm3_175, gn12, gn54, gn55, gn57, gr12, gr54, gr55, gr57, gv57, gi57_0, gi57_1, gi57_2, gi57_5, gi57_6, gi57_7, gi57_10, gi57_11, gi57_14, gi57_15, gi57_18, gl0, gl1, gl2, gl3, gl4, gl5, gl6, gl7, gl8, gl9, gl10, gl11, gl12, gl13, gl14, gl15, gl16, gl17, gl18, gl19, gl20, gl21, gl22, gl23, gl24, gl25, gl26, gl27, gl28, gl29, gl30, gl31, gl32, gl33, gl34, gl35, gl36, gl37, gl38, gl39, gl40, gl41, gl42, gl43, gl44, gl45, gl46, gl47, gl48, gl49, gl50, gl51, gl52, gl53, gl54, gl55, gl56, gl57]
  rw [← nI_0]
  refine s_first (Or.inl rfl) C h10 h11 (fun M1 F1 C1 e1 V1 => ?_)
  intro q hq
  cases hq
  obtain ⟨W1, S1, -⟩ := id C1
  have O := gok_C C.1
  have eD := dC_cf n m F1
  refine sp_lay W1 S1 (fun M2 S2 H2 f2 c2 => sp_load (Or.inr (Or.inl rfl)) ?_)
  rw [eD] at S2
  obtain ⟨S3, F3⟩ := cs_load (M2 := gx_cp M2 30 15 0 0 61) O S2 V1.1 (fun p hp => by funext j; rw [gx_cp_o hp]) (fun e he => by
    unfold nf sv; rw [gx_cp_i he, S2.1 30 (by omega)])
  refine hP M1 _ F1 C1 e1 S3 (FV_congr O (fun e he => by unfold nf sv; rw [gx_cp_i he, S2.1 30 (by omega)]) V1) (fun e he => by rw [gx_cp_o (by decide)]; exact H2 e he) (fun w hw => ?_)
  obtain ⟨c, a, b⟩ := c2 w hw
  rw [F1 4 (by omega)] at a
  exact ⟨c, a, by rw [gx_cp_o (by decide)]; exact b⟩
/-- one more on the edge that leads back, in another net than that in which it was greatest -/
theorem s_more {X : gx_X} {M1 M3 : gx_M} {n m : Nat} {D2 : gD} {V : Int} {P : Option Value → gx_M → Prop} (O2 : gok D2) (C1 : ck M1 n m) (S3 : cs M1 M3 D2) (F3 : FL D2 (nf M3)) (H3 : ∀ e, e < 61 → M3 16 e = 0) (hV : nf M3 60 = V)
    (hP : ∀ (z : Int32) (M4 : gx_M), cf M1 M4 → ck M4 n m → (z = 1 ∧ (∃ g, FL D2 g ∧ V + 1 ≤ g 60) ∨ z = 0 ∧ ¬ ∃ g, FL D2 g ∧ V + 1 ≤ g 60) → P (some (.int z)) M4) :
    gx_C X 15 [.ref 2, .int 60, .int 1] M3 fun r M4 => ∀ x : Int32, r = some (.int x) → P (some (.int x)) M4 := by
  have z1 : (1 : Int32).toInt = 1 := by decide
  have z0 : (0 : Int32).toInt = 0 := by decide
  refine s_raise60 O2 S3 F3 H3 (by decide) (by decide) (fun c M4 c1 c2 S4 F4 H4 e4 K => ?_)
  intro z hz
  cases hz
  obtain ⟨C4, G4⟩ := ck_net C1 S4.1 (stl_nq S4.2.2.1)
  refine hP c M4 G4 C4 ?_
  rw [z1] at c2 K
  by_cases h : c.toInt = 1
  · exact Or.inl ⟨i_eq.mpr (by rw [h, z1]), nf M4, F4, by omega⟩
  · have hc : c.toInt = 0 := by omega
    refine Or.inr ⟨i_eq.mpr (by rw [hc, z0]), ?_⟩
    rintro ⟨g, g1, g2⟩
    have := K (by omega) g g1
    omega
theorem cs_put {M1 M2 M3 : gx_M} {D : gD} {v a b : Nat} {k : Int32} (O : gok D) (hv : v < 10) (hvn : v < gdn D) (hk0 : gdk D v = 0) (hk : k = 1 ∨ k = 2) (ha : a = dA' (dK D v k) (50 + v)) (hb : b = dB' (dK D v k) (50 + v)) (S : cs M1 M2 D) (F : FL D (nf M2))
    (H : st_H M3 (fun j => if j = 50 + v then true else dE D j)) (h : ∀ p, p ≠ 11 → p ≠ 12 → p ≠ 13 → p ≠ 14 → p ≠ 17 → p ≠ 18 → M3 p = M2 p) (h11 : ∀ j, M3 11 j = if j = 50 + v then 0 else M2 11 j) (h12 : ∀ j, M3 12 j = if j = 50 + v then 100000 else M2 12 j) (h13 : ∀ j, M3 13 j = if j = 50 + v then nI a else M2 13 j) (h14 : ∀ j, M3 14 j = if j = 50 + v then nI b else M2 14 j) :
    cs M1 M3 (dK D v k) ∧ FL (dK D v k) (nf M3) := by
  obtain ⟨s1, s2, s3, s4, s5⟩ := id S
  have kne : k ≠ 0 := by rcases hk with h | h <;> rw [h] <;> decide
  have O2 : gok (dK D v k) := gok_K O (by rcases hk with h | h <;> rw [h] <;> decide)
  have hE := fun e (he : e < 61) => dK_E (D := D) (k := k) hv hvn kne he
  have np : dE D (50 + v) = false := by
    cases q : dE D (50 + v) with
    | false => rfl
    | true => exact absurd hk0 ((dE3 hv).mp q).2
  have f0 : nf M2 (50 + v) = 0 := (FL_nn O F _ (by omega)).2.1 np
  have en : nf M3 = nf M2 := by unfold nf; rw [h 15 (by decide) (by decide) (by decide) (by decide) (by decide) (by decide)]
  have p50 : dE (dK D v k) (50 + v) = true := by rw [hE _ (by omega), if_pos rfl]
  have ab := dlt O2 (e := 50 + v) (by omega)
  have abn := dAB (D := dK D v k) (e := 50 + v) (by omega) p50
  unfold dA dB at ab abn
  rw [if_pos p50, if_pos p50, ← ha, ← hb] at ab abn
  have z0 : (0 : Int32).toInt = 0 := by decide
  have zf : (100000 : Int32).toInt = 100000 := by decide
  have na3 : ∀ e, e < 61 → na M3 e = if e = 50 + v then a else na M2 e := fun e he => by
    unfold na
    rw [h13]
    by_cases z : e = 50 + v
    · rw [if_pos z, if_pos z, i_nI (by omega), Int.toNat_natCast]
    · rw [if_neg z, if_neg z]
  have nb3 : ∀ e, e < 61 → nb M3 e = if e = 50 + v then b else nb M2 e := fun e he => by
    unfold nb
    rw [h14]
    by_cases z : e = 50 + v
    · rw [if_pos z, if_pos z, i_nI (by omega), Int.toNat_natCast]
    · rw [if_neg z, if_neg z]
  have H2 : st_H M3 (dE (dK D v k)) := by
    refine ⟨fun e he hp => H.1 e he ((hE e he).symm.trans hp), fun w hw => ?_, fun x hx hp => H.2.2 x hx ((hE (x / 2) (by omega)).symm.trans hp)⟩
    obtain ⟨c, c1, c2, c3⟩ := H.2.1 w hw
    refine ⟨c, c1, c2, fun i hi => ?_⟩
    obtain ⟨x, d1, d2, d3, d4⟩ := c3 i hi
    exact ⟨x, d1, d2, (hE (x / 2) (by omega)).trans d3, d4⟩
  have l3 : ∀ e, nlo M3 e = if e = 50 + v then 0 else nlo M2 e := fun e => by
    unfold nlo; rw [h11]
    by_cases z : e = 50 + v
    · rw [if_pos z, if_pos z, z0]
    · rw [if_neg z, if_neg z]
  have u3 : ∀ e, nhi M3 e = if e = 50 + v then 100000 else nhi M2 e := fun e => by
    unfold nhi; rw [h12]
    by_cases z : e = 50 + v
    · rw [if_pos z, if_pos z, zf]
    · rw [if_neg z, if_neg z]
  have S3 : cs M1 M3 (dK D v k) := by
    refine ⟨fun p hp => by rw [h p (by omega) (by omega) (by omega) (by omega) (by omega) (by omega), s1 p hp], ⟨H2, fun e he => ?_⟩, fun e he => ?_, fun w hw => ?_, fun e he => ?_⟩
    · rw [l3, u3, en]
      by_cases z : e = 50 + v
      · rw [if_pos z, if_pos z, z, f0]
        refine ⟨by omega, by omega, by omega, by omega, by omega, fun q => ?_⟩
        rw [p50] at q; cases q
      · rw [if_neg z, if_neg z]
        have := s2.2 e he
        rw [hE e he, if_neg z]; exact this
    · rw [na3 e he, nb3 e he, h13, h14]
      by_cases z : e = 50 + v
      · rw [if_pos z, if_pos z, if_pos z, if_pos z, i_nI (by omega), i_nI (by omega)]
        exact ⟨by omega, by omega, ab.1, ab.2, fun _ => abn⟩
      · rw [if_neg z, if_neg z, if_neg z, if_neg z]
        have := s3 e he
        rw [hE e he, if_neg z]; exact this
    · rw [en, ← s4 w hw]
      refine nt_d_eq (fun e he => ?_) w
      by_cases z : e = 50 + v
      · exact Or.inl (by rw [z]; exact f0)
      · exact Or.inr ⟨by rw [na3 e he, if_neg z], by rw [nb3 e he, if_neg z]⟩
    · rw [na3 e he, nb3 e he, l3, u3]
      by_cases z : e = 50 + v
      · rw [if_pos z, if_pos z, if_pos z, if_pos z, z]
        unfold dA dB dL dH
        rw [if_pos p50, if_pos p50, if_pos p50, if_pos p50]
        refine ⟨fun _ => ⟨ha, hb⟩, ?_, Or.inr ⟨rfl, by omega, ?_⟩⟩
        · rw [if_neg (by omega), if_pos (by omega)]
        · rw [if_neg (by omega), if_neg (by omega), if_pos (by omega)]
      · have o := dK_o (D := D) (k := k) hv hvn kne he z
        rw [if_neg z, if_neg z, if_neg z, if_neg z, o.1, o.2.1, o.2.2.1, o.2.2.2, hE e he, if_neg z]
        exact s5 e he
  refine ⟨S3, cs_FL O2 S3 (fun e he => ?_)⟩
  rw [l3, en]
  by_cases z : e = 50 + v
  · rw [if_pos z, z, f0]; exact Int.le_refl 0
  · rw [if_neg z]
    exact (((nD_FL O s2 s5).mpr F).2 e he).1
set_option maxRecDepth 100000 in
set_option maxHeartbeats 4000000 in
theorem s_helpsAs {X : gx_X} {M : gx_M} {n m : Nat} {a k : Int32} {P : Option Value → gx_M → Prop} (C : ck M n m) (hk : k = 1 ∨ k = 2)
    (h1 : ¬ (0 ≤ a.toInt ∧ a.toInt < n) → P (some (.int (-1))) M) (h2 : 0 ≤ a.toInt → a.toInt < n → M 4 a.toInt.toNat ≠ 0 → P (some (.int (-2))) M)
    (h3 : ∀ M1, cf M M1 → ck M1 n m → 0 ≤ a.toInt → a.toInt < n → M 4 a.toInt.toNat = 0 → (¬ ∃ g, FL (dC M n m) g) → P (some (.int (-3))) M1)
    (h4 : ∀ (z : Int32) (M1 : gx_M) (f : Nat → Int), cf M M1 → ck M1 n m → 0 ≤ a.toInt → a.toInt < n → M 4 a.toInt.toNat = 0 → FV (dC M n m) 0 f → (z = 1 ∧ (∃ g, FL (dK (dC M n m) a.toInt.toNat k) g ∧ f 60 + 1 ≤ g 60) ∨ z = 0 ∧ ¬ ∃ g, FL (dK (dC M n m) a.toInt.toNat k) g ∧ f 60 + 1 ≤ g 60) → P (some (.int z)) M1) :
    gx_C X 58 [.ref 0, .int a, .int k] M P := by
  obtain ⟨W, -, -⟩ := id C
  have O := gok_C W
  have hn10 := W.2.2.1
  have hm40 := W.2.2.2.1
  refine gx_C_wp 50 ?_
  simp only [gx_w_np, gx_w_p, ne_eq, not_false_eq_true, gx_wp, gx_step, gx_cnd, gb0, gb1, Classical.not_not, List.getD_cons_zero, List.getD_cons_succ, List.set_cons_zero, List.set_cons_succ, List.length_cons, List.length_nil, Nat.reduceAdd, Nat.reduceLT, Nat.reduceLeDiff, Nat.reduceEqDiff, Bool.and_false, Bool.and_true, Bool.true_and, Bool.false_and, Bool.false_eq_true, if_false, if_true, ite_true, ite_false, Fin.isValue, Fin.val_zero, Fin.val_one, Fin.val_two, gz0, gz1, gz2, gz3, List.take_succ_cons, List.take_zero, List.drop_succ_cons, List.drop_zero, List.reverse_cons, List.reverse_nil, List.nil_append, List.cons_append, gx_nx, Int32.reduceToInt, Int.reduceToNat, Int.toNat_zero, Int.toNat_one, Int.reduceLT, Int.reduceLE, Int.ofNat_zero, Int.reduceNeg, Int.le_refl, and_self, List.getElem?_cons_zero, List.getElem?_cons_succ, true_and, and_true, Nat.reduceSub, List.replicate, List.append_nil, Nat.reduceLeDiff, Nat.le_add_left, Nat.zero_le, Nat.zero_add, gf3_12, gf3_19, gf3_61, gk_bipush_60, gk_bipush_m2, gk_bipush_m3, gk_iconst_1, gk_iconst_m1, gm3_122, gm3_128, gm3_198, gm3_57, gm3_95, gn0, gn15, gn53, gn56, gn57, gn58, gr0, gr15, gr53, gr56, gr57, gr58, gv58, gi58_0, gi58_1, gi58_4, gi58_5, gi58_8, gi58_11, gi58_12, gi58_13, gi58_14, gi58_17, gi58_20, gi58_21, gi58_22, gi58_25, gi58_27, gi58_28, gi58_29, gi58_32, gi58_35, gi58_37, gi58_38, gi58_39, gi58_42, gi58_43, gi58_44, gi58_45, gi58_48, gi58_49, gi58_52, gi58_54, gi58_55, gi58_58, gl0, gl1, gl2, gl3, gl4, gl5, gl6, gl7, gl8, gl9, gl10, gl11, gl12, gl13, gl14, gl15, gl16, gl17, gl18, gl19, gl20, gl21, gl22, gl23, gl24, gl25, gl26, gl27, gl28, gl29, gl30, gl31, gl32, gl33, gl34, gl35, gl36, gl37, gl38, gl39, gl40, gl41, gl42, gl43, gl44, gl45, gl46, gl47, gl48, gl49, gl50, gl51, gl52, gl53, gl54, gl55, gl56, gl57]
  refine sp_hasNode W.1 hn10 (fun a1 a2 => ?_) (fun a1 => ?_)
  · intro z hz
    cases hz
    refine ⟨fun _ => ⟨by omega, fun q => ?_, fun q => h2 a1 a2 q⟩, fun q => absurd q (by decide)⟩
    refine s_hasFlow C (fun M1 F1 C1 t1 t2 => ?_) (fun M1 F1 C1 t1 => ?_)
    · intro z hz
      cases hz
      refine ⟨fun _ => ?_, fun q => absurd q (by decide)⟩
      refine s_lfg C1 t1 t2 (fun M2 M3 F2 C2 e2 S3 V3 H3 c3 => ?_)
      have eD := dC_cf n m F1
      have F02 := cf_t F1 F2
      rw [eD] at S3 V3
      have ea : a = nI a.toInt.toNat := i_nat a1
      generalize hv : a.toInt.toNat = v at *
      have hvn : v < n := by omega
      have fin : ∀ M4, cs M2 M4 (dK (dC M n m) v k) ∧ FL (dK (dC M n m) v k) (nf M4) → (∀ p, p ≠ 11 → p ≠ 12 → p ≠ 13 → p ≠ 14 → p ≠ 17 → p ≠ 18 → M4 p = M3 p) → gx_C X 15 [.ref 2, .int 60, .int 1] M4 fun r M1 => ∀ x : Int32, r = some (.int x) → P (some (.int x)) M1 := by
        intro M4 S4 h4p
        refine s_more (V := nf M3 60) (gok_K O (by rcases hk with h | h <;> rw [h] <;> decide)) C2 S4.1 S4.2 (fun e he => ?_) ?_ (fun z M5 F5 C5 hz => h4 z M5 (nf M3) (cf_t F02 F5) C5 a1 a2 q V3 hz)
        · rw [h4p 16 (by decide) (by decide) (by decide) (by decide) (by decide) (by decide)]; exact H3 e he
        · unfold nf; rw [h4p 15 (by decide) (by decide) (by decide) (by decide) (by decide) (by decide)]
      have ep : dE (dC M n m) (50 + v) = false := by
        cases w : dE (dC M n m) (50 + v) with
        | false => rfl
        | true => exact absurd q ((dE3 (by omega)).mp w).2
      have e50 : (50 : Int32) + nI v = nI (50 + v) := by rw [show (50 : Int32) = nI 50 by decide, nI_add]
      rw [F1 4 (by omega)] at c3
      have cnt : ∀ w, w < 22 → (20 ≤ w ∨ w = 2 * v ∨ w = 2 * v + 1) → ∃ c, c < 42 ∧ M3 18 w = nI c := fun w hw h => by
        obtain ⟨c, d1, d2⟩ := c3 w hw
        refine ⟨c, Nat.lt_of_le_of_lt d1 ?_, d2⟩
        unfold lyC
        by_cases z : 20 ≤ w
        · rw [if_pos z, if_neg (by omega)]; omega
        · rw [if_neg z, if_pos (by omega), if_pos (by omega), show w / 2 = v by omega, if_pos q]; omega
      rw [ea]
      refine gx_C_wp 40 ?_
      simp only [gx_w_np, gx_w_p, ne_eq, not_false_eq_true, gx_wp, gx_step, gx_cnd, gb0, gb1, Classical.not_not, List.getD_cons_zero, List.getD_cons_succ, List.set_cons_zero, List.set_cons_succ, List.length_cons, List.length_nil, Nat.reduceAdd, Nat.reduceLT, Nat.reduceLeDiff, Nat.reduceEqDiff, Bool.and_false, Bool.and_true, Bool.true_and, Bool.false_and, Bool.false_eq_true, if_false, if_true, ite_true, ite_false, Fin.isValue, Fin.val_zero, Fin.val_one, Fin.val_two, gz0, gz1, gz2, gz3, List.take_succ_cons, List.take_zero, List.drop_succ_cons, List.drop_zero, List.reverse_cons, List.reverse_nil, List.nil_append, List.cons_append, gx_nx, Int32.reduceToInt, Int.reduceToNat, Int.toNat_zero, Int.toNat_one, Int.reduceLT, Int.reduceLE, Int.ofNat_zero, Int.reduceNeg, Int.le_refl, and_self, List.getElem?_cons_zero, List.getElem?_cons_succ, true_and, and_true, Nat.reduceSub, List.replicate, List.append_nil, Nat.reduceLeDiff, Nat.le_add_left, Nat.zero_le, Nat.zero_add, gc3_64, gf3_19, gk_bipush_20, gk_bipush_21, gk_bipush_50, gk_iconst_0, gk_iconst_1, gk_iconst_2, gm3_188, gm3_191, gm3_194, gn50, gn51, gn56, gn9, gr50, gr51, gr56, gr9, gv56, gi56_0, gi56_1, gi56_2, gi56_5, gi56_6, gi56_9, gi56_11, gi56_12, gi56_13, gi56_15, gi56_16, gi56_19, gi56_20, gi56_22, gi56_25, gi56_28, gi56_29, gi56_30, gi56_33, gi56_34, gi56_37, gi56_39, gi56_40, gi56_41, gi56_42, gi56_45, gi56_47, gi56_48, gi56_50, gi56_53, gl0, gl1, gl2, gl3, gl4, gl5, gl6, gl7, gl8, gl9, gl10, gl11, gl12, gl13, gl14, gl15, gl16, gl17, gl18, gl19, gl20, gl21, gl22, gl23, gl24, gl25, gl26, gl27, gl28, gl29, gl30, gl31, gl32, gl33, gl34, gl35, gl36, gl37, gl38, gl39, gl40, gl41, gl42, gl43, gl44, gl45, gl46, gl47, gl48, gl49, gl50, gl51, gl52, gl53, gl54, gl55, gl56, gl57]
      rw [e50]
      rcases hk with rfl | rfl
      · refine ⟨fun q => absurd rfl q, fun _ => sp_cameIn ?_⟩
        intro z hz
        cases hz
        obtain ⟨ca, ca1, ca2⟩ := cnt 20 (by omega) (Or.inl (by omega))
        obtain ⟨cb, cb1, cb2⟩ := cnt (2 * v) (by omega) (Or.inr (Or.inl rfl))
        rw [show (20 : Int32) = nI 20 by decide]
        refine sp_put2 (by omega) ep (by omega) (by omega) (by omega) S3.2.1.1 ca2 ca1 cb2 cb1 (fun M4 H4 g1 g2 g3 g4 g5 => fin M4 (cs_put O (by omega) hvn q (Or.inl rfl) ?_ ?_ S3 V3.1 H4 g1 g2 g3 g4 g5) g1)
        · rw [dA3 (by omega)]; exact (if_pos (if_pos rfl)).symm
        · rw [dB3 (by omega)]; exact (if_pos (if_pos rfl)).symm
      · refine ⟨fun _ => ⟨fun q => absurd rfl q, fun _ => sp_goesOut ?_⟩, fun q => absurd q (by decide)⟩
        intro z hz
        cases hz
        obtain ⟨ca, ca1, ca2⟩ := cnt (2 * v + 1) (by omega) (Or.inr (Or.inr rfl))
        obtain ⟨cb, cb1, cb2⟩ := cnt 21 (by omega) (Or.inl (by omega))
        rw [show (21 : Int32) = nI 21 by decide]
        have n1 : ¬ gdk (dK (dC M n m) v 2) v = 1 := by
          show ¬ (if v = v then (2 : Int32) else _) = 1
          rw [if_pos rfl]; decide
        refine sp_put2 (by omega) ep (by omega) (by omega) (by omega) S3.2.1.1 ca2 ca1 cb2 cb1 (fun M4 H4 g1 g2 g3 g4 g5 => fin M4 (cs_put O (by omega) hvn q (Or.inr rfl) ?_ ?_ S3 V3.1 H4 g1 g2 g3 g4 g5) g1)
        · rw [dA3 (by omega), if_neg n1]
        · rw [dB3 (by omega), if_neg n1]
    · intro z hz
      cases hz
      exact ⟨fun q => absurd rfl q, fun _ => h3 M1 F1 C1 a1 a2 q t1⟩
  · intro z hz
    cases hz
    exact ⟨fun q => absurd rfl q, fun _ => h1 a1⟩
