/-! What holds between the calls, and the calls that ask: run, value, on, through. -/
def CC (M : gx_M) : Prop := ∀ n m, gg_W M n m → CD M (dC M n m)
def RC (M : gx_M) : Prop := ∀ n m, gg_W M n m → gg_R M n m → RD M (dC M n m)
theorem CC0 : gg_C0 CC := fun M a b c d e n m _ => ⟨fun h => absurd c h, fun h => absurd d h, fun h => absurd e h, fun h => absurd a h, fun h => absurd b h⟩
theorem RC0 : gg_R0 RC := fun M a n m _ _ h => absurd a h
theorem W_uq {M : gx_M} {n m n2 m2 : Nat} (A : gg_W M n m) (B : gg_W M n2 m2) : n = n2 ∧ m = m2 := by
  have a1 := A.2.2.1
  have a2 := A.2.2.2.1
  have b1 := B.2.2.1
  have b2 := B.2.2.2.1
  exact ⟨nI_inj (by omega) (by omega) (A.1.symm.trans B.1), nI_inj (by omega) (by omega) (A.2.1.symm.trans B.2.1)⟩
theorem CD_kf {M M1 : gx_M} {D : gD} (F : kf M M1) (C : CD M D) : CD M1 D := by
  obtain ⟨c1, c2, c3, c4, c5⟩ := C
  have h : ∀ p, p < 34 → M1 p = M p := fun p hp => kf_p F (by omega) (by omega)
  refine ⟨?_, ?_, ?_, ?_, ?_⟩
  · have : sv M1 28 = sv M 28 := by unfold sv; rw [h 28 (by omega)]
    rw [h 0 (by omega), this]; exact c1
  · have : sv M1 30 = sv M 30 := by unfold sv; rw [h 30 (by omega)]
    rw [h 32 (by omega), this]; exact c2
  · have : sv M1 31 = sv M 31 := by unfold sv; rw [h 31 (by omega)]
    rw [h 32 (by omega), this]; exact c3
  · rw [h 0 (by omega)]
    exact fun q => CB_eq (by rw [h 0 (by omega)]) (h 33 (by omega)) (c4 q)
  · rw [h 0 (by omega)]
    exact fun q => CP_eq (h 3 (by omega)) (h 21 (by omega)) (h 22 (by omega)) (h 23 (by omega)) (c5 q)
theorem inv_k {M1 M2 : gx_M} {n m : Nat} (C1 : ck M1 n m) (G1 : gg_R M1 n m) (F : kf M1 M2) (K2 : RD M2 (dC M1 n m)) : gg_I CC RC M2 := by
  obtain ⟨W1, S1, D1⟩ := C1
  have W2 := W_kf F W1
  refine ⟨⟨n, m, W2, R_kf F G1⟩, fun n2 m2 B => ?_, fun n2 m2 B _ => ?_, fun e he => ?_⟩
  · obtain ⟨rfl, rfl⟩ := W_uq W2 B
    rw [dC_kf n m F]
    exact CD_kf F D1
  · obtain ⟨rfl, rfl⟩ := W_uq W2 B
    rw [dC_kf n m F]
    exact K2
  · rw [kf_p F (p := 13) (by omega) (by omega), kf_p F (p := 14) (by omega) (by omega)]
    exact S1 e he
theorem R_cf {M M1 : gx_M} {n m : Nat} (F : cf M M1) (G : gg_R M n m) : gg_R M1 n m := by
  unfold gg_R
  rw [F 34 (by omega), F 4 (by omega), F 5 (by omega), F 6 (by omega), F 7 (by omega), F 8 (by omega), F 9 (by omega), F 10 (by omega), F 35 (by omega), F 36 (by omega), F 37 (by omega), F 38 (by omega), F 39 (by omega), F 40 (by omega), F 41 (by omega)]
  exact G
theorem RD_eq {M M1 : gx_M} {D : gD} (h34 : ∀ j, j ≠ 16 → M1 34 j = M 34 j) (h : ∀ p, 48 ≤ p → p ≤ 53 → M1 p = M p) (K : RD M D) : RD M1 D := by
  unfold RD rw_
  rw [h34 9 (by decide), h34 17 (by decide), h34 21 (by decide), h 48 (by omega) (by omega), h 49 (by omega) (by omega), h 50 (by omega) (by omega)]
  intro q
  obtain ⟨k1, k2⟩ := K q
  refine ⟨fun q2 => ?_, k2⟩
  obtain ⟨f0, f1, a1, a2, a3, a4, a5, a6, a7, a8⟩ := k1 q2
  exact ⟨f0, f1, a1, a2, a3, a4, a5, a6, a7, CG_eq (h 51 (by omega) (by omega)) (h 52 (by omega) (by omega)) (h 53 (by omega) (by omega)) _ _ a8⟩
/-- behind a call of the object -/
theorem side {M M1 : gx_M} {n m : Nat} (F : cf M M1) (G : gg_R M n m) (K : RD M (dC M n m)) : gg_R M1 n m ∧ dC M1 n m = dC M n m ∧ RD M1 (dC M1 n m) := by
  have e := dC_cf n m F
  refine ⟨R_cf F G, e, ?_⟩
  rw [e]
  exact RD_eq (fun j _ => by rw [F 34 (by omega)]) (fun p a b => F p (by omega)) K
theorem ck_fl {M M1 : gx_M} {n m : Nat} (F : cf M M1) (C : ck M1 n m) (h10 : M1 0 10 ≠ 0) (h11 : M1 0 11 = 1) : ∃ g, FL (dC M n m) g := by
  rcases C.2.2.1 h10 with ⟨a, b⟩ | ⟨a, b⟩
  · rw [dC_cf n m F] at b; exact ⟨_, b⟩
  · rw [a] at h11; exact absurd h11 (by decide)
/-- know, and what follows of it -/
theorem sr_know2 {X : gx_X} {M : gx_M} {n m : Nat} {P : Option Value → gx_M → Prop} (W : gg_W M n m) (G : gg_R M n m) (K : RD M (dC M n m))
    (h1 : ∀ M1 f0 f1, kf M M1 → RD M1 (dC M n m) → M1 34 17 ≠ 0 → FV (dC M n m) 0 f0 → FV (dC M n m) 1 f1 → (M1 48 0).toInt = f0 60 → (M1 48 1).toInt = f1 60 → rw_ M1 (dC M n m) 0 f0 → rw_ M1 (dC M n m) 1 f1 → M1 34 21 = nI (rn (dC M n m) 50 (l0 f0) (u0 (dC M n m) (l0 f0))).length → CG 51 52 53 M1 0 (rn (dC M n m) 50 (l0 f0) (u0 (dC M n m) (l0 f0))) → P none M1)
    (h0 : ∀ M1, kf M M1 → RD M1 (dC M n m) → M1 34 17 = 0 → (¬ ∃ g, FL (dC M n m) g) → BR (dC M n m) (fun k => decide (M1 50 k ≠ 0)) → P none M1) : gx_C X 70 [.ref 34] M P := by
  refine sr_know W G K (fun M1 F n9 K1 => ?_)
  obtain ⟨k1, k2⟩ := K1 n9
  by_cases z : M1 34 17 = 0
  · exact h0 M1 F K1 z (k2 z).1 (k2 z).2
  · obtain ⟨f0, f1, a1, a2, a3, a4, a5, a6, a7, a8⟩ := k1 z
    exact h1 M1 f0 f1 F K1 z a1 a2 a3 a4 a5 a6 a7 a8
set_option maxRecDepth 100000 in
set_option maxHeartbeats 4000000 in
theorem sp_isWay {X : gx_X} {M : gx_M} {a : Int32} {P : Option Value → gx_M → Prop} (h1 : a = 0 ∨ a = 1 → P (some (.int 1)) M) (h0 : ¬ (a = 0 ∨ a = 1) → P (some (.int 0)) M) : gx_C X 48 [.int a] M P := by
  refine gx_C_wp 20 ?_
  simp only [gx_w_np, gx_w_p, ne_eq, not_false_eq_true, gx_wp, gx_step, gx_cnd, gb0, gb1, Classical.not_not, List.getD_cons_zero, List.getD_cons_succ, List.set_cons_zero, List.set_cons_succ, List.length_cons, List.length_nil, Nat.reduceAdd, Nat.reduceLT, Nat.reduceLeDiff, Nat.reduceEqDiff, Bool.and_false, Bool.and_true, Bool.true_and, Bool.false_and, Bool.false_eq_true, if_false, if_true, ite_true, ite_false, Fin.isValue, Fin.val_zero, Fin.val_one, Fin.val_two, gz0, gz1, gz2, gz3, List.take_succ_cons, List.take_zero, List.drop_succ_cons, List.drop_zero, List.reverse_cons, List.reverse_nil, List.nil_append, List.cons_append, gx_nx, Int32.reduceToInt, Int.reduceToNat, Int.toNat_zero, Int.toNat_one, Int.reduceLT, Int.reduceLE, Int.ofNat_zero, Int.reduceNeg, Int.le_refl, and_self, List.getElem?_cons_zero, List.getElem?_cons_succ, true_and, and_true, Nat.reduceSub, List.replicate, List.append_nil, Nat.reduceLeDiff, Nat.le_add_left, Nat.zero_le, Nat.zero_add, gk_iconst_0, gk_iconst_1, gn48, gr48, gv48, gi48_0, gi48_1, gi48_4, gi48_5, gi48_6, gi48_9, gi48_10, gi48_13, gi48_14, gl0, gl1, gl2, gl3, gl4, gl5, gl6, gl7, gl8, gl9, gl10, gl11, gl12, gl13, gl14, gl15, gl16, gl17, gl18, gl19, gl20, gl21, gl22, gl23, gl24, gl25, gl26, gl27, gl28, gl29, gl30, gl31, gl32, gl33, gl34, gl35, gl36, gl37, gl38, gl39, gl40, gl41, gl42, gl43, gl44, gl45, gl46, gl47, gl48, gl49, gl50, gl51, gl52, gl53, gl54, gl55, gl56, gl57]
  exact ⟨fun q => h1 (Or.inl q), fun q => ⟨fun q2 => h0 (fun h => by rcases h with h | h; exact q h; exact q2 h), fun q2 => h1 (Or.inr q2)⟩⟩
set_option maxRecDepth 100000 in
set_option maxHeartbeats 4000000 in
theorem sr_isWay {X : gx_X} {M : gx_M} {a : Int32} {P : Option Value → gx_M → Prop} (h1 : a = 0 ∨ a = 1 → P (some (.int 1)) M) (h0 : ¬ (a = 0 ∨ a = 1) → P (some (.int 0)) M) : gx_C X 90 [.int a] M P := by
  refine gx_C_wp 20 ?_
  simp only [gx_w_np, gx_w_p, ne_eq, not_false_eq_true, gx_wp, gx_step, gx_cnd, gb0, gb1, Classical.not_not, List.getD_cons_zero, List.getD_cons_succ, List.set_cons_zero, List.set_cons_succ, List.length_cons, List.length_nil, Nat.reduceAdd, Nat.reduceLT, Nat.reduceLeDiff, Nat.reduceEqDiff, Bool.and_false, Bool.and_true, Bool.true_and, Bool.false_and, Bool.false_eq_true, if_false, if_true, ite_true, ite_false, Fin.isValue, Fin.val_zero, Fin.val_one, Fin.val_two, gz0, gz1, gz2, gz3, List.take_succ_cons, List.take_zero, List.drop_succ_cons, List.drop_zero, List.reverse_cons, List.reverse_nil, List.nil_append, List.cons_append, gx_nx, Int32.reduceToInt, Int.reduceToNat, Int.toNat_zero, Int.toNat_one, Int.reduceLT, Int.reduceLE, Int.ofNat_zero, Int.reduceNeg, Int.le_refl, and_self, List.getElem?_cons_zero, List.getElem?_cons_succ, true_and, and_true, Nat.reduceSub, List.replicate, List.append_nil, Nat.reduceLeDiff, Nat.le_add_left, Nat.zero_le, Nat.zero_add, gk_iconst_0, gk_iconst_1, gn90, gr90, gv90, gi90_0, gi90_1, gi90_4, gi90_5, gi90_6, gi90_9, gi90_10, gi90_13, gi90_14, gl0, gl1, gl2, gl3, gl4, gl5, gl6, gl7, gl8, gl9, gl10, gl11, gl12, gl13, gl14, gl15, gl16, gl17, gl18, gl19, gl20, gl21, gl22, gl23, gl24, gl25, gl26, gl27, gl28, gl29, gl30, gl31, gl32, gl33, gl34, gl35, gl36, gl37, gl38, gl39, gl40, gl41, gl42, gl43, gl44, gl45, gl46, gl47, gl48, gl49, gl50, gl51, gl52, gl53, gl54, gl55, gl56, gl57]
  exact ⟨fun q => h1 (Or.inl q), fun q => ⟨fun q2 => h0 (fun h => by rcases h with h | h; exact q h; exact q2 h), fun q2 => h1 (Or.inr q2)⟩⟩
set_option maxRecDepth 100000 in
set_option maxHeartbeats 4000000 in
theorem pr_run {X : gx_X} : lw_pair X (gg_I CC RC) 38 89 0 := by
  intro M as hl hI
  obtain rfl : as = [] := List.eq_nil_of_length_eq_zero hl
  obtain ⟨⟨n, m, W, G⟩, hC, hR, hS⟩ := id hI
  have C : ck M n m := ⟨W, hS, hC n m W⟩
  have K := hR n m W G
  show gx_C X 38 [.ref 0] M _
  refine gx_C_wp 20 ?_
  simp only [gx_w_np, gx_w_p, ne_eq, not_false_eq_true, gx_wp, gx_step, gx_cnd, gb0, gb1, Classical.not_not, List.getD_cons_zero, List.getD_cons_succ, List.set_cons_zero, List.set_cons_succ, List.length_cons, List.length_nil, Nat.reduceAdd, Nat.reduceLT, Nat.reduceLeDiff, Nat.reduceEqDiff, Bool.and_false, Bool.and_true, Bool.true_and, Bool.false_and, Bool.false_eq_true, if_false, if_true, ite_true, ite_false, Fin.isValue, Fin.val_zero, Fin.val_one, Fin.val_two, gz0, gz1, gz2, gz3, List.take_succ_cons, List.take_zero, List.drop_succ_cons, List.drop_zero, List.reverse_cons, List.reverse_nil, List.nil_append, List.cons_append, gx_nx, Int32.reduceToInt, Int.reduceToNat, Int.toNat_zero, Int.toNat_one, Int.reduceLT, Int.reduceLE, Int.ofNat_zero, Int.reduceNeg, Int.le_refl, and_self, List.getElem?_cons_zero, List.getElem?_cons_succ, true_and, and_true, Nat.reduceSub, List.replicate, List.append_nil, Nat.reduceLeDiff, Nat.le_add_left, Nat.zero_le, Nat.zero_add, gk_iconst_0, gk_iconst_1, gm3_95, gn38, gn53, gr38, gr53, gv38, gi38_0, gi38_1, gi38_4, gi38_7, gi38_8, gi38_11, gi38_12, gl0, gl1, gl2, gl3, gl4, gl5, gl6, gl7, gl8, gl9, gl10, gl11, gl12, gl13, gl14, gl15, gl16, gl17, gl18, gl19, gl20, gl21, gl22, gl23, gl24, gl25, gl26, gl27, gl28, gl29, gl30, gl31, gl32, gl33, gl34, gl35, gl36, gl37, gl38, gl39, gl40, gl41, gl42, gl43, gl44, gl45, gl46, gl47, gl48, gl49, gl50, gl51, gl52, gl53, gl54, gl55, gl56, gl57]
  refine s_hasFlow C (fun M1 F1 C1 t1 t2 => ?_) (fun M1 F1 C1 t1 => ?_)
  · intro x hx
    cases hx
    refine ⟨fun q => absurd q (by decide), fun _ => ⟨_, rfl, ?_⟩⟩
    obtain ⟨G1, eD, K1⟩ := side F1 G K
    show gx_C X 89 [.ref 34] M1 _
    refine gx_C_wp 20 ?_
    simp only [gx_w_np, gx_w_p, ne_eq, not_false_eq_true, gx_wp, gx_step, gx_cnd, gb0, gb1, Classical.not_not, List.getD_cons_zero, List.getD_cons_succ, List.set_cons_zero, List.set_cons_succ, List.length_cons, List.length_nil, Nat.reduceAdd, Nat.reduceLT, Nat.reduceLeDiff, Nat.reduceEqDiff, Bool.and_false, Bool.and_true, Bool.true_and, Bool.false_and, Bool.false_eq_true, if_false, if_true, ite_true, ite_false, Fin.isValue, Fin.val_zero, Fin.val_one, Fin.val_two, gz0, gz1, gz2, gz3, List.take_succ_cons, List.take_zero, List.drop_succ_cons, List.drop_zero, List.reverse_cons, List.reverse_nil, List.nil_append, List.cons_append, gx_nx, Int32.reduceToInt, Int.reduceToNat, Int.toNat_zero, Int.toNat_one, Int.reduceLT, Int.reduceLE, Int.ofNat_zero, Int.reduceNeg, Int.le_refl, and_self, List.getElem?_cons_zero, List.getElem?_cons_succ, true_and, and_true, Nat.reduceSub, List.replicate, List.append_nil, Nat.reduceLeDiff, Nat.le_add_left, Nat.zero_le, Nat.zero_add, gf4_121, gk_iconst_0, gk_iconst_1, gm4_172, gn70, gn89, gr70, gr89, gv89, gi89_0, gi89_1, gi89_4, gi89_5, gi89_8, gi89_11, gi89_12, gi89_15, gi89_16, gl0, gl1, gl2, gl3, gl4, gl5, gl6, gl7, gl8, gl9, gl10, gl11, gl12, gl13, gl14, gl15, gl16, gl17, gl18, gl19, gl20, gl21, gl22, gl23, gl24, gl25, gl26, gl27, gl28, gl29, gl30, gl31, gl32, gl33, gl34, gl35, gl36, gl37, gl38, gl39, gl40, gl41, gl42, gl43, gl44, gl45, gl46, gl47, gl48, gl49, gl50, gl51, gl52, gl53, gl54, gl55, gl56, gl57]
    refine sr_know2 C1.1 G1 K1 (fun M2 f0 f1 F2 K2 z V0 V1 v0 v1 w0 w1 c2 g2 => ⟨fun q => absurd q z, fun _ => inv_k C1 G1 F2 K2⟩) (fun M2 F2 K2 z no B => ?_)
    rw [eD] at no
    exact absurd (ck_fl F1 C1 t1 t2) no
  · intro x hx
    cases hx
    refine ⟨fun _ => ⟨_, rfl, ?_⟩, fun q => absurd rfl q⟩
    obtain ⟨G1, eD, K1⟩ := side F1 G K
    show gx_C X 89 [.ref 34] M1 _
    refine gx_C_wp 20 ?_
    simp only [gx_w_np, gx_w_p, ne_eq, not_false_eq_true, gx_wp, gx_step, gx_cnd, gb0, gb1, Classical.not_not, List.getD_cons_zero, List.getD_cons_succ, List.set_cons_zero, List.set_cons_succ, List.length_cons, List.length_nil, Nat.reduceAdd, Nat.reduceLT, Nat.reduceLeDiff, Nat.reduceEqDiff, Bool.and_false, Bool.and_true, Bool.true_and, Bool.false_and, Bool.false_eq_true, if_false, if_true, ite_true, ite_false, Fin.isValue, Fin.val_zero, Fin.val_one, Fin.val_two, gz0, gz1, gz2, gz3, List.take_succ_cons, List.take_zero, List.drop_succ_cons, List.drop_zero, List.reverse_cons, List.reverse_nil, List.nil_append, List.cons_append, gx_nx, Int32.reduceToInt, Int.reduceToNat, Int.toNat_zero, Int.toNat_one, Int.reduceLT, Int.reduceLE, Int.ofNat_zero, Int.reduceNeg, Int.le_refl, and_self, List.getElem?_cons_zero, List.getElem?_cons_succ, true_and, and_true, Nat.reduceSub, List.replicate, List.append_nil, Nat.reduceLeDiff, Nat.le_add_left, Nat.zero_le, Nat.zero_add, gf4_121, gk_iconst_0, gk_iconst_1, gm4_172, gn70, gn89, gr70, gr89, gv89, gi89_0, gi89_1, gi89_4, gi89_5, gi89_8, gi89_11, gi89_12, gi89_15, gi89_16, gl0, gl1, gl2, gl3, gl4, gl5, gl6, gl7, gl8, gl9, gl10, gl11, gl12, gl13, gl14, gl15, gl16, gl17, gl18, gl19, gl20, gl21, gl22, gl23, gl24, gl25, gl26, gl27, gl28, gl29, gl30, gl31, gl32, gl33, gl34, gl35, gl36, gl37, gl38, gl39, gl40, gl41, gl42, gl43, gl44, gl45, gl46, gl47, gl48, gl49, gl50, gl51, gl52, gl53, gl54, gl55, gl56, gl57]
    refine sr_know2 C1.1 G1 K1 (fun M2 f0 f1 F2 K2 z V0 V1 v0 v1 w0 w1 c2 g2 => ?_) (fun M2 F2 K2 z no B => ⟨fun _ => inv_k C1 G1 F2 K2, fun q => absurd z q⟩)
    rw [eD] at V0
    exact absurd ⟨f0, V0.1⟩ t1
/-- a way's flow, as the reference holds it -/
theorem sr_way {X : gx_X} {M : gx_M} {n m w : Nat} {P : Option Value → gx_M → Prop} (hw : w = 0 ∨ w = 1) (W : gg_W M n m) (G : gg_R M n m) (K : RD M (dC M n m))
    (h1 : ∀ M1 f, kf M M1 → RD M1 (dC M n m) → M1 34 17 ≠ 0 → FV (dC M n m) w f → (M1 48 w).toInt = f 60 → rw_ M1 (dC M n m) w f → P none M1)
    (h0 : ∀ M1, kf M M1 → RD M1 (dC M n m) → M1 34 17 = 0 → (¬ ∃ g, FL (dC M n m) g) → P none M1) : gx_C X 70 [.ref 34] M P := by
  refine sr_know2 W G K (fun M1 f0 f1 F1 K1 z V0 V1 v0 v1 w0 w1 _ _ => ?_) (fun M1 F1 K1 z no _ => h0 M1 F1 K1 z no)
  rcases hw with rfl | rfl
  · exact h1 M1 f0 F1 K1 z V0 v0 w0
  · exact h1 M1 f1 F1 K1 z V1 v1 w1
/-- the object's side of a question about a way -/
theorem s_way {X : gx_X} {M : gx_M} {n m w : Nat} {P : Option Value → gx_M → Prop} {N : gx_M → Prop} (hw : w = 0 ∨ w = 1) (C : ck M n m)
    (h1 : ∀ M1, cf M M1 → ck M1 n m → FV (dC M n m) w (sv M1 (30 + w)) → P (some (.ref (30 + w))) M1) (h0 : ∀ M1, cf M M1 → ck M1 n m → (¬ ∃ g, FL (dC M n m) g) → N M1) :
    gx_C X 53 [.ref 0] M fun r M1 => ∀ x : Int32, r = some (.int x) → (¬ x = 0 → gx_C X 54 [.ref 0, .int (nI w)] M1 P) ∧ (x = 0 → N M1) := by
  refine s_hasFlow C (fun M1 F1 C1 t1 t2 => ?_) (fun M1 F1 C1 t1 => ?_)
  · intro x hx
    cases hx
    refine ⟨fun _ => s_first hw C1 t1 t2 (fun M2 F2 C2 e2 V2 => h1 M2 (cf_t F1 F2) C2 ?_), fun q => absurd q (by decide)⟩
    rw [dC_cf n m F1] at V2; exact V2
  · intro x hx
    cases hx
    exact ⟨fun q => absurd rfl q, fun _ => h0 M1 F1 C1 t1⟩
theorem way_w {a : Int32} (h : a = 0 ∨ a = 1) : ∃ w : Nat, (w = 0 ∨ w = 1) ∧ a = nI w := by
  rcases h with rfl | rfl
  · exact ⟨0, Or.inl rfl, rfl⟩
  · exact ⟨1, Or.inr rfl, rfl⟩
set_option maxRecDepth 100000 in
set_option maxHeartbeats 4000000 in
theorem pr_value {X : gx_X} : lw_pair X (gg_I CC RC) 39 91 1 := by
  intro M as hl hI
  obtain ⟨a, rfl⟩ : ∃ a, as = [a] := by
    match as, hl with
    | [a], _ => exact ⟨a, rfl⟩
  obtain ⟨⟨n, m, W, G⟩, hC, hR, hS⟩ := id hI
  have C : ck M n m := ⟨W, hS, hC n m W⟩
  have K := hR n m W G
  have O := gok_C W
  show gx_C X 39 [.ref 0, .int a] M _
  refine gx_C_wp 30 ?_
  simp only [gx_w_np, gx_w_p, ne_eq, not_false_eq_true, gx_wp, gx_step, gx_cnd, gb0, gb1, Classical.not_not, List.getD_cons_zero, List.getD_cons_succ, List.set_cons_zero, List.set_cons_succ, List.length_cons, List.length_nil, Nat.reduceAdd, Nat.reduceLT, Nat.reduceLeDiff, Nat.reduceEqDiff, Bool.and_false, Bool.and_true, Bool.true_and, Bool.false_and, Bool.false_eq_true, if_false, if_true, ite_true, ite_false, Fin.isValue, Fin.val_zero, Fin.val_one, Fin.val_two, gz0, gz1, gz2, gz3, List.take_succ_cons, List.take_zero, List.drop_succ_cons, List.drop_zero, List.reverse_cons, List.reverse_nil, List.nil_append, List.cons_append, gx_nx, Int32.reduceToInt, Int.reduceToNat, Int.toNat_zero, Int.toNat_one, Int.reduceLT, Int.reduceLE, Int.ofNat_zero, Int.reduceNeg, Int.le_refl, and_self, List.getElem?_cons_zero, List.getElem?_cons_succ, true_and, and_true, Nat.reduceSub, List.replicate, List.append_nil, Nat.reduceLeDiff, Nat.le_add_left, Nat.zero_le, Nat.zero_add, gk_bipush_60, gk_bipush_m3, gk_iconst_m1, gm3_102, gm3_95, gm3_99, gn39, gn48, gn53, gn54, gr39, gr48, gr53, gr54, gv39, gi39_0, gi39_1, gi39_4, gi39_7, gi39_8, gi39_9, gi39_10, gi39_13, gi39_16, gi39_18, gi39_19, gi39_20, gi39_21, gi39_24, gi39_26, gi39_27, gl0, gl1, gl2, gl3, gl4, gl5, gl6, gl7, gl8, gl9, gl10, gl11, gl12, gl13, gl14, gl15, gl16, gl17, gl18, gl19, gl20, gl21, gl22, gl23, gl24, gl25, gl26, gl27, gl28, gl29, gl30, gl31, gl32, gl33, gl34, gl35, gl36, gl37, gl38, gl39, gl40, gl41, gl42, gl43, gl44, gl45, gl46, gl47, gl48, gl49, gl50, gl51, gl52, gl53, gl54, gl55, gl56, gl57]
  refine sp_isWay (fun ha => ?_) (fun ha => ?_)
  · intro x hx
    cases hx
    refine ⟨fun _ => ?_, fun q => absurd q (by decide)⟩
    obtain ⟨w, hw, rfl⟩ := way_w ha
    refine s_way hw C (fun M1 F1 C1 V1 => ?_) (fun M1 F1 C1 no => ⟨_, rfl, ?_⟩)
    · intro q hq
      have eq : q = 30 + w := by cases hq; rfl
      have fin : ∃ z, some (Value.int (M1 (30 + w) 60)) = some (Value.int z) ∧ gx_C X 91 [.ref 34, .int (nI w)] M1 (fun r2 M2 => r2 = some (.int z) ∧ gg_I CC RC M2) := by
        refine ⟨_, rfl, ?_⟩
        obtain ⟨G1, eD, K1⟩ := side F1 G K
        refine gx_C_wp 30 ?_
        simp only [gx_w_np, gx_w_p, ne_eq, not_false_eq_true, gx_wp, gx_step, gx_cnd, gb0, gb1, Classical.not_not, List.getD_cons_zero, List.getD_cons_succ, List.set_cons_zero, List.set_cons_succ, List.length_cons, List.length_nil, Nat.reduceAdd, Nat.reduceLT, Nat.reduceLeDiff, Nat.reduceEqDiff, Bool.and_false, Bool.and_true, Bool.true_and, Bool.false_and, Bool.false_eq_true, if_false, if_true, ite_true, ite_false, Fin.isValue, Fin.val_zero, Fin.val_one, Fin.val_two, gz0, gz1, gz2, gz3, List.take_succ_cons, List.take_zero, List.drop_succ_cons, List.drop_zero, List.reverse_cons, List.reverse_nil, List.nil_append, List.cons_append, gx_nx, Int32.reduceToInt, Int.reduceToNat, Int.toNat_zero, Int.toNat_one, Int.reduceLT, Int.reduceLE, Int.ofNat_zero, Int.reduceNeg, Int.le_refl, and_self, List.getElem?_cons_zero, List.getElem?_cons_succ, true_and, and_true, Nat.reduceSub, List.replicate, List.append_nil, Nat.reduceLeDiff, Nat.le_add_left, Nat.zero_le, Nat.zero_add, gf4_121, gf4_50, gk_bipush_m3, gk_iconst_m1, gm4_172, gm4_175, gn70, gn90, gn91, gr70, gr90, gr91, gv91, gi91_0, gi91_1, gi91_4, gi91_7, gi91_8, gi91_9, gi91_10, gi91_13, gi91_14, gi91_17, gi91_20, gi91_21, gi91_24, gi91_25, gi91_26, gi91_29, gi91_31, gl0, gl1, gl2, gl3, gl4, gl5, gl6, gl7, gl8, gl9, gl10, gl11, gl12, gl13, gl14, gl15, gl16, gl17, gl18, gl19, gl20, gl21, gl22, gl23, gl24, gl25, gl26, gl27, gl28, gl29, gl30, gl31, gl32, gl33, gl34, gl35, gl36, gl37, gl38, gl39, gl40, gl41, gl42, gl43, gl44, gl45, gl46, gl47, gl48, gl49, gl50, gl51, gl52, gl53, gl54, gl55, gl56, gl57]
        refine sr_isWay (fun _ => ?_) (fun q => absurd ha q)
        intro x hx
        cases hx
        refine ⟨fun _ => sr_way hw C1.1 G1 K1 (fun M2 f F2 K2 z V v _ => ?_) (fun M2 F2 K2 z no => ?_), fun q => absurd q (by decide)⟩
        · simp (disch := first | decide | omega) only [gx_w_np, gx_w_p, Int32.reduceToInt, Int.toNat_natCast, if_true, if_false, nI_1, nI_pred, i_nI, ite_true, ite_false, Int.reduceToNat, Nat.reduceEqDiff, Nat.reduceAdd]
          refine ⟨fun q => absurd q z, fun _ => ⟨by omega, ?_, inv_k C1 G1 F2 K2⟩⟩
          rw [eD] at V
          have u := (FV_uq O V V1).1
          have e : M2 48 w = M1 (30 + w) 60 := i_eq.mpr (by rw [v, u]; rfl)
          rw [e]
        · rw [eD] at no
          exact absurd ⟨_, V1.1⟩ no
      rw [eq]
      rcases hw with rfl | rfl
      · exact ⟨by omega, fin⟩
      · exact ⟨by omega, fin⟩
    · obtain ⟨G1, eD, K1⟩ := side F1 G K
      show gx_C X 91 [.ref 34, .int (nI w)] M1 _
      refine gx_C_wp 30 ?_
      simp only [gx_w_np, gx_w_p, ne_eq, not_false_eq_true, gx_wp, gx_step, gx_cnd, gb0, gb1, Classical.not_not, List.getD_cons_zero, List.getD_cons_succ, List.set_cons_zero, List.set_cons_succ, List.length_cons, List.length_nil, Nat.reduceAdd, Nat.reduceLT, Nat.reduceLeDiff, Nat.reduceEqDiff, Bool.and_false, Bool.and_true, Bool.true_and, Bool.false_and, Bool.false_eq_true, if_false, if_true, ite_true, ite_false, Fin.isValue, Fin.val_zero, Fin.val_one, Fin.val_two, gz0, gz1, gz2, gz3, List.take_succ_cons, List.take_zero, List.drop_succ_cons, List.drop_zero, List.reverse_cons, List.reverse_nil, List.nil_append, List.cons_append, gx_nx, Int32.reduceToInt, Int.reduceToNat, Int.toNat_zero, Int.toNat_one, Int.reduceLT, Int.reduceLE, Int.ofNat_zero, Int.reduceNeg, Int.le_refl, and_self, List.getElem?_cons_zero, List.getElem?_cons_succ, true_and, and_true, Nat.reduceSub, List.replicate, List.append_nil, Nat.reduceLeDiff, Nat.le_add_left, Nat.zero_le, Nat.zero_add, gf4_121, gf4_50, gk_bipush_m3, gk_iconst_m1, gm4_172, gm4_175, gn70, gn90, gn91, gr70, gr90, gr91, gv91, gi91_0, gi91_1, gi91_4, gi91_7, gi91_8, gi91_9, gi91_10, gi91_13, gi91_14, gi91_17, gi91_20, gi91_21, gi91_24, gi91_25, gi91_26, gi91_29, gi91_31, gl0, gl1, gl2, gl3, gl4, gl5, gl6, gl7, gl8, gl9, gl10, gl11, gl12, gl13, gl14, gl15, gl16, gl17, gl18, gl19, gl20, gl21, gl22, gl23, gl24, gl25, gl26, gl27, gl28, gl29, gl30, gl31, gl32, gl33, gl34, gl35, gl36, gl37, gl38, gl39, gl40, gl41, gl42, gl43, gl44, gl45, gl46, gl47, gl48, gl49, gl50, gl51, gl52, gl53, gl54, gl55, gl56, gl57]
      refine sr_isWay (fun _ => ?_) (fun q => absurd ha q)
      intro x hx
      cases hx
      refine ⟨fun _ => sr_way hw C1.1 G1 K1 (fun M2 f F2 K2 z V v _ => ?_) (fun M2 F2 K2 z no => ⟨fun _ => inv_k C1 G1 F2 K2, fun q => absurd z q⟩), fun q => absurd q (by decide)⟩
      rw [eD] at V
      exact absurd ⟨_, V.1⟩ no
  · intro x hx
    cases hx
    refine ⟨fun q => absurd rfl q, fun _ => ⟨_, rfl, ?_⟩⟩
    show gx_C X 91 [.ref 34, .int a] M _
    refine gx_C_wp 30 ?_
    simp only [gx_w_np, gx_w_p, ne_eq, not_false_eq_true, gx_wp, gx_step, gx_cnd, gb0, gb1, Classical.not_not, List.getD_cons_zero, List.getD_cons_succ, List.set_cons_zero, List.set_cons_succ, List.length_cons, List.length_nil, Nat.reduceAdd, Nat.reduceLT, Nat.reduceLeDiff, Nat.reduceEqDiff, Bool.and_false, Bool.and_true, Bool.true_and, Bool.false_and, Bool.false_eq_true, if_false, if_true, ite_true, ite_false, Fin.isValue, Fin.val_zero, Fin.val_one, Fin.val_two, gz0, gz1, gz2, gz3, List.take_succ_cons, List.take_zero, List.drop_succ_cons, List.drop_zero, List.reverse_cons, List.reverse_nil, List.nil_append, List.cons_append, gx_nx, Int32.reduceToInt, Int.reduceToNat, Int.toNat_zero, Int.toNat_one, Int.reduceLT, Int.reduceLE, Int.ofNat_zero, Int.reduceNeg, Int.le_refl, and_self, List.getElem?_cons_zero, List.getElem?_cons_succ, true_and, and_true, Nat.reduceSub, List.replicate, List.append_nil, Nat.reduceLeDiff, Nat.le_add_left, Nat.zero_le, Nat.zero_add, gf4_121, gf4_50, gk_bipush_m3, gk_iconst_m1, gm4_172, gm4_175, gn70, gn90, gn91, gr70, gr90, gr91, gv91, gi91_0, gi91_1, gi91_4, gi91_7, gi91_8, gi91_9, gi91_10, gi91_13, gi91_14, gi91_17, gi91_20, gi91_21, gi91_24, gi91_25, gi91_26, gi91_29, gi91_31, gl0, gl1, gl2, gl3, gl4, gl5, gl6, gl7, gl8, gl9, gl10, gl11, gl12, gl13, gl14, gl15, gl16, gl17, gl18, gl19, gl20, gl21, gl22, gl23, gl24, gl25, gl26, gl27, gl28, gl29, gl30, gl31, gl32, gl33, gl34, gl35, gl36, gl37, gl38, gl39, gl40, gl41, gl42, gl43, gl44, gl45, gl46, gl47, gl48, gl49, gl50, gl51, gl52, gl53, gl54, gl55, gl56, gl57]
    refine sr_isWay (fun q => absurd q ha) (fun _ => ?_)
    intro x hx
    cases hx
    exact ⟨fun q => absurd rfl q, fun _ => hI⟩
set_option maxRecDepth 100000 in
set_option maxHeartbeats 4000000 in
theorem pr_on {X : gx_X} : lw_pair X (gg_I CC RC) 40 92 2 := by
  intro M as hl hI
  obtain ⟨a, b, rfl⟩ : ∃ a b, as = [a, b] := by
    match as, hl with
    | [a, b], _ => exact ⟨a, b, rfl⟩
  obtain ⟨⟨n, m, W, G⟩, hC, hR, hS⟩ := id hI
  have C : ck M n m := ⟨W, hS, hC n m W⟩
  have K := hR n m W G
  have O := gok_C W
  have hm40 := W.2.2.2.1
  have hA := gg_al2 (k := b) G
  show gx_C X 40 [.ref 0, .int a, .int b] M _
  refine gx_C_wp 40 ?_
  simp only [gx_w_np, gx_w_p, ne_eq, not_false_eq_true, gx_wp, gx_step, gx_cnd, gb0, gb1, Classical.not_not, List.getD_cons_zero, List.getD_cons_succ, List.set_cons_zero, List.set_cons_succ, List.length_cons, List.length_nil, Nat.reduceAdd, Nat.reduceLT, Nat.reduceLeDiff, Nat.reduceEqDiff, Bool.and_false, Bool.and_true, Bool.true_and, Bool.false_and, Bool.false_eq_true, if_false, if_true, ite_true, ite_false, Fin.isValue, Fin.val_zero, Fin.val_one, Fin.val_two, gz0, gz1, gz2, gz3, List.take_succ_cons, List.take_zero, List.drop_succ_cons, List.drop_zero, List.reverse_cons, List.reverse_nil, List.nil_append, List.cons_append, gx_nx, Int32.reduceToInt, Int.reduceToNat, Int.toNat_zero, Int.toNat_one, Int.reduceLT, Int.reduceLE, Int.ofNat_zero, Int.reduceNeg, Int.le_refl, and_self, List.getElem?_cons_zero, List.getElem?_cons_succ, true_and, and_true, Nat.reduceSub, List.replicate, List.append_nil, Nat.reduceLeDiff, Nat.le_add_left, Nat.zero_le, Nat.zero_add, gf3_12, gk_bipush_m3, gk_iconst_m1, gm3_102, gm3_79, gm3_95, gm3_99, gn1, gn40, gn48, gn53, gn54, gr1, gr40, gr48, gr53, gr54, gv40, gi40_0, gi40_1, gi40_4, gi40_7, gi40_8, gi40_11, gi40_12, gi40_15, gi40_18, gi40_19, gi40_20, gi40_21, gi40_24, gi40_27, gi40_29, gi40_30, gi40_31, gi40_32, gi40_35, gi40_36, gi40_37, gl0, gl1, gl2, gl3, gl4, gl5, gl6, gl7, gl8, gl9, gl10, gl11, gl12, gl13, gl14, gl15, gl16, gl17, gl18, gl19, gl20, gl21, gl22, gl23, gl24, gl25, gl26, gl27, gl28, gl29, gl30, gl31, gl32, gl33, gl34, gl35, gl36, gl37, gl38, gl39, gl40, gl41, gl42, gl43, gl44, gl45, gl46, gl47, gl48, gl49, gl50, gl51, gl52, gl53, gl54, gl55, gl56, gl57]
  -- the reference refuses too
  have ref1 : ¬ ((a = 0 ∨ a = 1) ∧ (0 ≤ b.toInt ∧ b.toInt < m ∧ M 10 b.toInt.toNat = 0)) → gx_C X 92 [.ref 34, .int a, .int b] M (fun r2 M2 => r2 = some (.int (-1)) ∧ gg_I CC RC M2) := by
    intro h
    refine gx_C_wp 40 ?_
    simp only [gx_w_np, gx_w_p, ne_eq, not_false_eq_true, gx_wp, gx_step, gx_cnd, gb0, gb1, Classical.not_not, List.getD_cons_zero, List.getD_cons_succ, List.set_cons_zero, List.set_cons_succ, List.length_cons, List.length_nil, Nat.reduceAdd, Nat.reduceLT, Nat.reduceLeDiff, Nat.reduceEqDiff, Bool.and_false, Bool.and_true, Bool.true_and, Bool.false_and, Bool.false_eq_true, if_false, if_true, ite_true, ite_false, Fin.isValue, Fin.val_zero, Fin.val_one, Fin.val_two, gz0, gz1, gz2, gz3, List.take_succ_cons, List.take_zero, List.drop_succ_cons, List.drop_zero, List.reverse_cons, List.reverse_nil, List.nil_append, List.cons_append, gx_nx, Int32.reduceToInt, Int.reduceToNat, Int.toNat_zero, Int.toNat_one, Int.reduceLT, Int.reduceLE, Int.ofNat_zero, Int.reduceNeg, Int.le_refl, and_self, List.getElem?_cons_zero, List.getElem?_cons_succ, true_and, and_true, Nat.reduceSub, List.replicate, List.append_nil, Nat.reduceLeDiff, Nat.le_add_left, Nat.zero_le, Nat.zero_add, gf4_121, gf4_53, gk_bipush_40, gk_bipush_m3, gk_iconst_m1, gm4_169, gm4_172, gm4_175, gn70, gn80, gn90, gn92, gr70, gr80, gr90, gr92, gv92, gi92_0, gi92_1, gi92_4, gi92_7, gi92_8, gi92_9, gi92_12, gi92_15, gi92_16, gi92_17, gi92_18, gi92_21, gi92_22, gi92_25, gi92_28, gi92_29, gi92_32, gi92_34, gi92_35, gi92_36, gi92_37, gi92_38, gi92_39, gi92_42, gi92_44, gl0, gl1, gl2, gl3, gl4, gl5, gl6, gl7, gl8, gl9, gl10, gl11, gl12, gl13, gl14, gl15, gl16, gl17, gl18, gl19, gl20, gl21, gl22, gl23, gl24, gl25, gl26, gl27, gl28, gl29, gl30, gl31, gl32, gl33, gl34, gl35, gl36, gl37, gl38, gl39, gl40, gl41, gl42, gl43, gl44, gl45, gl46, gl47, gl48, gl49, gl50, gl51, gl52, gl53, gl54, gl55, gl56, gl57]
    refine sr_isWay (fun q => ?_) (fun q => ?_)
    · intro x hx
      cases hx
      refine ⟨fun q => absurd q (by decide), fun _ => ?_⟩
      refine sr_isArc G.2.1 hm40 (fun b1 b2 b3 => absurd ⟨q, hA.mpr ⟨b1, b2, b3⟩⟩ h) (fun b1 => ?_)
      intro x hx
      cases hx
      exact ⟨fun q => absurd rfl q, fun _ => hI⟩
    · intro x hx
      cases hx
      exact ⟨fun _ => hI, fun q => absurd rfl q⟩
  refine sp_isWay (fun ha => ?_) (fun ha => ?_)
  · intro x hx
    cases hx
    refine ⟨fun q => absurd q (by decide), fun _ => ?_⟩
    obtain ⟨w, hw, rfl⟩ := way_w ha
    refine sp_hasArc W.2.1 hm40 (fun b1 b2 b3 => ?_) (fun b1 => ?_)
    · intro x hx
      cases hx
      refine ⟨fun _ => ?_, fun q => absurd q (by decide)⟩
      have hb := hA.mp ⟨b1, b2, b3⟩
      have refk : ∀ M1, cf M M1 → ck M1 n m → ∀ Q : Option Value → gx_M → Prop, (∀ M2 f, kf M1 M2 → RD M2 (dC M1 n m) → FV (dC M n m) w f → Q (some (.int (M2 49 (40 * w + b.toInt.toNat)))) M2 ∨ ¬ (M2 49 (40 * w + b.toInt.toNat)).toInt = f b.toInt.toNat) → (∀ M2, kf M1 M2 → RD M2 (dC M1 n m) → (¬ ∃ g, FL (dC M n m) g) → Q (some (.int (-3))) M2) → gx_C X 92 [.ref 34, .int (nI w), .int b] M1 Q := by
        intro M1 F1 C1 Q hQ1 hQ0
        obtain ⟨G1, eD, K1⟩ := side F1 G K
        have eb : b = nI b.toInt.toNat := i_nat b1
        have e40 : (40 : Int32) * nI w + b = nI (40 * w + b.toInt.toNat) := by rw [eb, show (40 : Int32) = nI 40 by decide, pk_mul, nI_add, ← eb]
        refine gx_C_wp 40 ?_
        simp only [gx_w_np, gx_w_p, ne_eq, not_false_eq_true, gx_wp, gx_step, gx_cnd, gb0, gb1, Classical.not_not, List.getD_cons_zero, List.getD_cons_succ, List.set_cons_zero, List.set_cons_succ, List.length_cons, List.length_nil, Nat.reduceAdd, Nat.reduceLT, Nat.reduceLeDiff, Nat.reduceEqDiff, Bool.and_false, Bool.and_true, Bool.true_and, Bool.false_and, Bool.false_eq_true, if_false, if_true, ite_true, ite_false, Fin.isValue, Fin.val_zero, Fin.val_one, Fin.val_two, gz0, gz1, gz2, gz3, List.take_succ_cons, List.take_zero, List.drop_succ_cons, List.drop_zero, List.reverse_cons, List.reverse_nil, List.nil_append, List.cons_append, gx_nx, Int32.reduceToInt, Int.reduceToNat, Int.toNat_zero, Int.toNat_one, Int.reduceLT, Int.reduceLE, Int.ofNat_zero, Int.reduceNeg, Int.le_refl, and_self, List.getElem?_cons_zero, List.getElem?_cons_succ, true_and, and_true, Nat.reduceSub, List.replicate, List.append_nil, Nat.reduceLeDiff, Nat.le_add_left, Nat.zero_le, Nat.zero_add, gf4_121, gf4_53, gk_bipush_40, gk_bipush_m3, gk_iconst_m1, gm4_169, gm4_172, gm4_175, gn70, gn80, gn90, gn92, gr70, gr80, gr90, gr92, gv92, gi92_0, gi92_1, gi92_4, gi92_7, gi92_8, gi92_9, gi92_12, gi92_15, gi92_16, gi92_17, gi92_18, gi92_21, gi92_22, gi92_25, gi92_28, gi92_29, gi92_32, gi92_34, gi92_35, gi92_36, gi92_37, gi92_38, gi92_39, gi92_42, gi92_44, gl0, gl1, gl2, gl3, gl4, gl5, gl6, gl7, gl8, gl9, gl10, gl11, gl12, gl13, gl14, gl15, gl16, gl17, gl18, gl19, gl20, gl21, gl22, gl23, gl24, gl25, gl26, gl27, gl28, gl29, gl30, gl31, gl32, gl33, gl34, gl35, gl36, gl37, gl38, gl39, gl40, gl41, gl42, gl43, gl44, gl45, gl46, gl47, gl48, gl49, gl50, gl51, gl52, gl53, gl54, gl55, gl56, gl57]
        rw [e40]
        refine sr_isWay (fun _ => ?_) (fun q => absurd ha q)
        intro x hx
        cases hx
        refine ⟨fun q => absurd q (by decide), fun _ => ?_⟩
        refine sr_isArc G1.2.1 hm40 (fun _ _ _ => ?_) (fun q => absurd (by rw [F1 41 (by omega)]; exact hb) q)
        intro x hx
        cases hx
        refine ⟨fun _ => sr_way hw C1.1 G1 K1 (fun M2 f F2 K2 z V v w2 => ⟨fun q => absurd q z, fun _ => ?_⟩) (fun M2 F2 K2 z no => ⟨fun _ => ?_, fun q => absurd z q⟩), fun q => absurd q (by decide)⟩
        · simp (disch := first | decide | omega) only [gx_w_np, gx_w_p, Int32.reduceToInt, Int.toNat_natCast, if_true, if_false, nI_1, nI_pred, i_nI, ite_true, ite_false, Int.reduceToNat, Nat.reduceEqDiff, Nat.reduceAdd]
          refine ⟨by omega, ?_⟩
          rw [eD] at V
          rcases hQ1 M2 f F2 K2 V with h | h
          · exact h
          · exact absurd (w2 b.toInt.toNat (show b.toInt.toNat < m by omega) (by rw [eD]; exact decide_eq_true b3)) h
        · rw [eD] at no
          exact hQ0 M2 F2 K2 no
      refine s_way hw C (fun M1 F1 C1 V1 => ?_) (fun M1 F1 C1 no => ⟨_, rfl, ?_⟩)
      · intro q hq
        have eq : q = 30 + w := by cases hq; rfl
        have fin : ∃ z, some (Value.int (M1 (30 + w) b.toInt.toNat)) = some (Value.int z) ∧ gx_C X 92 [.ref 34, .int (nI w), .int b] M1 (fun r2 M2 => r2 = some (.int z) ∧ gg_I CC RC M2) := by
          refine ⟨_, rfl, refk M1 F1 C1 _ (fun M2 f F2 K2 V => ?_) (fun M2 F2 K2 no => absurd ⟨_, V1.1⟩ no)⟩
          obtain ⟨G1, eD, K1⟩ := side F1 G K
          by_cases h : (M2 49 (40 * w + b.toInt.toNat)).toInt = f b.toInt.toNat
          · left
            have u := (FV_uq O V V1).2 b.toInt.toNat (by omega)
            have e : M2 49 (40 * w + b.toInt.toNat) = M1 (30 + w) b.toInt.toNat := i_eq.mpr (by rw [h, u]; rfl)
            exact ⟨by rw [e], inv_k C1 G1 F2 K2⟩
          · exact Or.inr h
        rw [eq]
        rcases hw with rfl | rfl
        · exact ⟨by omega, fin⟩
        · exact ⟨by omega, fin⟩
      · obtain ⟨G1, eD, K1⟩ := side F1 G K
        exact refk M1 F1 C1 _ (fun M2 f F2 K2 V => absurd ⟨_, V.1⟩ no) (fun M2 F2 K2 _ => ⟨rfl, inv_k C1 G1 F2 K2⟩)
    · intro x hx
      cases hx
      exact ⟨fun q => absurd rfl q, fun _ => ⟨_, rfl, ref1 (fun h => b1 h.2)⟩⟩
  · intro x hx
    cases hx
    exact ⟨fun _ => ⟨_, rfl, ref1 (fun h => ha h.1)⟩, fun q => absurd rfl q⟩
set_option maxRecDepth 100000 in
set_option maxHeartbeats 4000000 in
theorem pr_through {X : gx_X} : lw_pair X (gg_I CC RC) 41 93 2 := by
  intro M as hl hI
  obtain ⟨a, b, rfl⟩ : ∃ a b, as = [a, b] := by
    match as, hl with
    | [a, b], _ => exact ⟨a, b, rfl⟩
  obtain ⟨⟨n, m, W, G⟩, hC, hR, hS⟩ := id hI
  have C : ck M n m := ⟨W, hS, hC n m W⟩
  have K := hR n m W G
  have O := gok_C W
  have hn10 := W.2.2.1
  show gx_C X 41 [.ref 0, .int a, .int b] M _
  refine gx_C_wp 60 ?_
  simp only [gx_w_np, gx_w_p, ne_eq, not_false_eq_true, gx_wp, gx_step, gx_cnd, gb0, gb1, Classical.not_not, List.getD_cons_zero, List.getD_cons_succ, List.set_cons_zero, List.set_cons_succ, List.length_cons, List.length_nil, Nat.reduceAdd, Nat.reduceLT, Nat.reduceLeDiff, Nat.reduceEqDiff, Bool.and_false, Bool.and_true, Bool.true_and, Bool.false_and, Bool.false_eq_true, if_false, if_true, ite_true, ite_false, Fin.isValue, Fin.val_zero, Fin.val_one, Fin.val_two, gz0, gz1, gz2, gz3, List.take_succ_cons, List.take_zero, List.drop_succ_cons, List.drop_zero, List.reverse_cons, List.reverse_nil, List.nil_append, List.cons_append, gx_nx, Int32.reduceToInt, Int.reduceToNat, Int.toNat_zero, Int.toNat_one, Int.reduceLT, Int.reduceLE, Int.ofNat_zero, Int.reduceNeg, Int.le_refl, and_self, List.getElem?_cons_zero, List.getElem?_cons_succ, true_and, and_true, Nat.reduceSub, List.replicate, List.append_nil, Nat.reduceLeDiff, Nat.le_add_left, Nat.zero_le, Nat.zero_add, gf3_12, gk_bipush_m3, gk_iconst_m1, gm3_102, gm3_106, gm3_110, gm3_113, gm3_57, gm3_95, gm3_99, gn0, gn102, gn41, gn48, gn53, gn54, gn6, gn7, gr0, gr102, gr41, gr48, gr53, gr54, gr6, gr7, gv41, gi41_0, gi41_1, gi41_4, gi41_7, gi41_8, gi41_11, gi41_12, gi41_15, gi41_18, gi41_19, gi41_20, gi41_21, gi41_24, gi41_27, gi41_29, gi41_30, gi41_31, gi41_32, gi41_35, gi41_36, gi41_37, gi41_40, gi41_41, gi41_42, gi41_45, gi41_46, gi41_49, gi41_50, gi41_51, gi41_54, gi41_57, gl0, gl1, gl2, gl3, gl4, gl5, gl6, gl7, gl8, gl9, gl10, gl11, gl12, gl13, gl14, gl15, gl16, gl17, gl18, gl19, gl20, gl21, gl22, gl23, gl24, gl25, gl26, gl27, gl28, gl29, gl30, gl31, gl32, gl33, gl34, gl35, gl36, gl37, gl38, gl39, gl40, gl41, gl42, gl43, gl44, gl45, gl46, gl47, gl48, gl49, gl50, gl51, gl52, gl53, gl54, gl55, gl56, gl57]
  have ref1 : ¬ ((a = 0 ∨ a = 1) ∧ (0 ≤ b.toInt ∧ b.toInt < n)) → gx_C X 93 [.ref 34, .int a, .int b] M (fun r2 M2 => r2 = some (.int (-1)) ∧ gg_I CC RC M2) := by
    intro h
    refine gx_C_wp 40 ?_
    simp only [gx_w_np, gx_w_p, ne_eq, not_false_eq_true, gx_wp, gx_step, gx_cnd, gb0, gb1, Classical.not_not, List.getD_cons_zero, List.getD_cons_succ, List.set_cons_zero, List.set_cons_succ, List.length_cons, List.length_nil, Nat.reduceAdd, Nat.reduceLT, Nat.reduceLeDiff, Nat.reduceEqDiff, Bool.and_false, Bool.and_true, Bool.true_and, Bool.false_and, Bool.false_eq_true, if_false, if_true, ite_true, ite_false, Fin.isValue, Fin.val_zero, Fin.val_one, Fin.val_two, gz0, gz1, gz2, gz3, List.take_succ_cons, List.take_zero, List.drop_succ_cons, List.drop_zero, List.reverse_cons, List.reverse_nil, List.nil_append, List.cons_append, gx_nx, Int32.reduceToInt, Int.reduceToNat, Int.toNat_zero, Int.toNat_one, Int.reduceLT, Int.reduceLE, Int.ofNat_zero, Int.reduceNeg, Int.le_refl, and_self, List.getElem?_cons_zero, List.getElem?_cons_succ, true_and, and_true, Nat.reduceSub, List.replicate, List.append_nil, Nat.reduceLeDiff, Nat.le_add_left, Nat.zero_le, Nat.zero_add, gf4_121, gk_bipush_m3, gk_iconst_m1, gm4_137, gm4_141, gm4_161, gm4_172, gm4_175, gn70, gn71, gn72, gn79, gn90, gn93, gr70, gr71, gr72, gr79, gr90, gr93, gv93, gi93_0, gi93_1, gi93_4, gi93_7, gi93_8, gi93_9, gi93_12, gi93_15, gi93_16, gi93_17, gi93_18, gi93_21, gi93_22, gi93_25, gi93_28, gi93_30, gi93_31, gi93_32, gi93_33, gi93_34, gi93_37, gi93_38, gi93_39, gi93_40, gi93_41, gi93_44, gi93_46, gi93_47, gi93_49, gi93_52, gi93_53, gi93_56, gi93_58, gl0, gl1, gl2, gl3, gl4, gl5, gl6, gl7, gl8, gl9, gl10, gl11, gl12, gl13, gl14, gl15, gl16, gl17, gl18, gl19, gl20, gl21, gl22, gl23, gl24, gl25, gl26, gl27, gl28, gl29, gl30, gl31, gl32, gl33, gl34, gl35, gl36, gl37, gl38, gl39, gl40, gl41, gl42, gl43, gl44, gl45, gl46, gl47, gl48, gl49, gl50, gl51, gl52, gl53, gl54, gl55, gl56, gl57]
    refine sr_isWay (fun q => ?_) (fun q => ?_)
    · intro x hx
      cases hx
      refine ⟨fun q => absurd q (by decide), fun _ => ?_⟩
      refine sr_isNode G.1 hn10 (fun b1 b2 => absurd ⟨q, b1, b2⟩ h) (fun b1 => ?_)
      intro x hx
      cases hx
      exact ⟨fun q => absurd rfl q, fun _ => hI⟩
    · intro x hx
      cases hx
      exact ⟨fun _ => hI, fun q => absurd rfl q⟩
  refine sp_isWay (fun ha => ?_) (fun ha => ?_)
  · intro x hx
    cases hx
    refine ⟨fun q => absurd q (by decide), fun _ => ?_⟩
    obtain ⟨w, hw, rfl⟩ := way_w ha
    refine sp_hasNode W.1 hn10 (fun b1 b2 => ?_) (fun b1 => ?_)
    · intro x hx
      cases hx
      refine ⟨fun _ => ?_, fun q => absurd q (by decide)⟩
      have eb : b = nI b.toInt.toNat := i_nat b1
      generalize hv : b.toInt.toNat = v at *
      have hvn : v < n := by omega
      subst eb
      have refk : ∀ M1, cf M M1 → ck M1 n m → ∀ Q : Option Value → gx_M → Prop, (∀ (M2 : gx_M) (f : Nat → Int) (z : Int32), kf M1 M2 → RD M2 (dC M1 n m) → FV (dC M n m) w f → z.toInt = (if co_ (dC M n m) (l0 f) v ≤ go_ (dC M n m) (l0 f) v then go_ (dC M n m) (l0 f) v else co_ (dC M n m) (l0 f) v) → Q (some (.int z)) M2) → (∀ M2, kf M1 M2 → RD M2 (dC M1 n m) → (¬ ∃ g, FL (dC M n m) g) → Q (some (.int (-3))) M2) → gx_C X 93 [.ref 34, .int (nI w), .int (nI v)] M1 Q := by
        intro M1 F1 C1 Q hQ1 hQ0
        obtain ⟨G1, eD, K1⟩ := side F1 G K
        refine gx_C_wp 40 ?_
        simp only [gx_w_np, gx_w_p, ne_eq, not_false_eq_true, gx_wp, gx_step, gx_cnd, gb0, gb1, Classical.not_not, List.getD_cons_zero, List.getD_cons_succ, List.set_cons_zero, List.set_cons_succ, List.length_cons, List.length_nil, Nat.reduceAdd, Nat.reduceLT, Nat.reduceLeDiff, Nat.reduceEqDiff, Bool.and_false, Bool.and_true, Bool.true_and, Bool.false_and, Bool.false_eq_true, if_false, if_true, ite_true, ite_false, Fin.isValue, Fin.val_zero, Fin.val_one, Fin.val_two, gz0, gz1, gz2, gz3, List.take_succ_cons, List.take_zero, List.drop_succ_cons, List.drop_zero, List.reverse_cons, List.reverse_nil, List.nil_append, List.cons_append, gx_nx, Int32.reduceToInt, Int.reduceToNat, Int.toNat_zero, Int.toNat_one, Int.reduceLT, Int.reduceLE, Int.ofNat_zero, Int.reduceNeg, Int.le_refl, and_self, List.getElem?_cons_zero, List.getElem?_cons_succ, true_and, and_true, Nat.reduceSub, List.replicate, List.append_nil, Nat.reduceLeDiff, Nat.le_add_left, Nat.zero_le, Nat.zero_add, gf4_121, gk_bipush_m3, gk_iconst_m1, gm4_137, gm4_141, gm4_161, gm4_172, gm4_175, gn70, gn71, gn72, gn79, gn90, gn93, gr70, gr71, gr72, gr79, gr90, gr93, gv93, gi93_0, gi93_1, gi93_4, gi93_7, gi93_8, gi93_9, gi93_12, gi93_15, gi93_16, gi93_17, gi93_18, gi93_21, gi93_22, gi93_25, gi93_28, gi93_30, gi93_31, gi93_32, gi93_33, gi93_34, gi93_37, gi93_38, gi93_39, gi93_40, gi93_41, gi93_44, gi93_46, gi93_47, gi93_49, gi93_52, gi93_53, gi93_56, gi93_58, gl0, gl1, gl2, gl3, gl4, gl5, gl6, gl7, gl8, gl9, gl10, gl11, gl12, gl13, gl14, gl15, gl16, gl17, gl18, gl19, gl20, gl21, gl22, gl23, gl24, gl25, gl26, gl27, gl28, gl29, gl30, gl31, gl32, gl33, gl34, gl35, gl36, gl37, gl38, gl39, gl40, gl41, gl42, gl43, gl44, gl45, gl46, gl47, gl48, gl49, gl50, gl51, gl52, gl53, gl54, gl55, gl56, gl57]
        refine sr_isWay (fun _ => ?_) (fun q => absurd ha q)
        intro x hx
        cases hx
        refine ⟨fun q => absurd q (by decide), fun _ => ?_⟩
        refine sr_isNode G1.1 hn10 (fun _ _ => ?_) (fun q => absurd ⟨b1, b2⟩ q)
        intro x hx
        cases hx
        refine ⟨fun _ => sr_way hw C1.1 G1 K1 (fun M2 f F2 K2 z V v2 w2 => ⟨fun _ => ?_, fun q => absurd q z⟩) (fun M2 F2 K2 z no => ⟨fun q => absurd z q, fun _ => ?_⟩), fun q => absurd q (by decide)⟩
        · rw [eD] at V w2
          have A2 : ag M2 (dC M n m) := by
            have := ag_C (R_kf F2 G1)
            rw [dC_kf n m F2, eD] at this; exact this
          refine sr_comes (by omega) (by omega) O A2 V.1 w2 (fun x hx => ?_)
          intro y hy
          cases hy
          refine sr_goes (by omega) (by omega) O A2 V.1 w2 (fun y hy => ?_)
          intro t ht
          cases ht
          refine ⟨fun q => hQ1 M2 f y F2 K2 V ?_, fun q => hQ1 M2 f x F2 K2 V ?_⟩
          · rw [i_le, hx, hy] at q
            rw [if_pos q]; exact hy
          · rw [i_le, hx, hy] at q
            rw [if_neg q]; exact hx
        · rw [eD] at no
          exact hQ0 M2 F2 K2 no
      refine s_way hw C (fun M1 F1 C1 V1 => ?_) (fun M1 F1 C1 no => ⟨_, rfl, ?_⟩)
      · intro q hq
        have eq : q = 30 + w := by cases hq; rfl
        subst eq
        obtain ⟨G1, eD, K1⟩ := side F1 G K
        have FL1 : FL (dC M1 n m) (sv M1 (30 + w)) := by rw [eD]; exact V1.1
        refine s_comes (by omega) (by omega) C1.1 FL1 (fun x hx => ?_)
        intro y hy
        cases hy
        refine s_goes (by omega) (by omega) C1.1 FL1 (fun y hy => ?_)
        intro t ht
        cases ht
        rw [eD] at hx hy
        have fin : ∀ z : Int32, z.toInt = (if co_ (dC M n m) (l0 (sv M1 (30 + w))) v ≤ go_ (dC M n m) (l0 (sv M1 (30 + w))) v then go_ (dC M n m) (l0 (sv M1 (30 + w))) v else co_ (dC M n m) (l0 (sv M1 (30 + w))) v) → gx_C X 93 [.ref 34, .int (nI w), .int (nI v)] M1 (fun r2 M2 => r2 = some (.int z) ∧ gg_I CC RC M2) := by
          intro z hz
          refine refk M1 F1 C1 _ (fun M2 f t F2 K2 V ht => ?_) (fun M2 F2 K2 no => absurd ⟨_, V1.1⟩ no)
          have el : l0 f = l0 (sv M1 (30 + w)) := by
            funext k
            unfold l0
            by_cases hk : k < 40
            · rw [if_pos hk, if_pos hk, (FV_uq O V V1).2 k hk]
            · rw [if_neg hk, if_neg hk]
          rw [el] at ht
          have e : t = z := i_eq.mpr (by rw [ht, hz])
          exact ⟨by rw [e], inv_k C1 G1 F2 K2⟩
        refine sp_max (fun q => ?_) (fun q => ?_)
        · intro t ht
          cases ht
          exact ⟨_, rfl, fin y (by rw [if_pos (by omega)]; exact hy)⟩
        · intro t ht
          cases ht
          refine ⟨_, rfl, fin x ?_⟩
          by_cases h : co_ (dC M n m) (l0 (sv M1 (30 + w))) v ≤ go_ (dC M n m) (l0 (sv M1 (30 + w))) v
          · rw [if_pos h]; omega
          · rw [if_neg h]; exact hx
      · obtain ⟨G1, eD, K1⟩ := side F1 G K
        exact refk M1 F1 C1 _ (fun M2 f t F2 K2 V ht => absurd ⟨_, V.1⟩ no) (fun M2 F2 K2 _ => ⟨rfl, inv_k C1 G1 F2 K2⟩)
    · intro x hx
      cases hx
      exact ⟨fun q => absurd rfl q, fun _ => ⟨_, rfl, ref1 (fun h => b1 h.2)⟩⟩
  · intro x hx
    cases hx
    exact ⟨fun _ => ⟨_, rfl, ref1 (fun h => ha h.1)⟩, fun q => absurd rfl q⟩
