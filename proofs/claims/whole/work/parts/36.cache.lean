/-! What the object knows: whether there is a flow, the first flows, what bars, the streams. -/
def sv (M : gx_M) (q e : Nat) : Int := (M q e).toInt
def up (b : Nat → Bool) : Nat → Nat
  | 0 => 0
  | j + 1 => up b j + (if b j = true then 1 else 0)
/-- the barred are held -/
def CB (M : gx_M) (D : gD) : Prop := ∃ b, BR D b ∧ M 0 7 = nI (up b (gdm D)) ∧ ∀ j, j < gdm D → b j = true → M 33 (up b (gdm D) - up b (j + 1)) = nI j
/-- the streams are held at three places: at i the list's rest -/
def CG (p q r : Nat) (M : gx_M) : Nat → List (Int × Nat × (Nat → Nat)) → Prop
  | _, [] => True
  | i, x :: t => (M p i).toInt = x.1 ∧ M q i = nI x.2.1 ∧ x.2.1 ≤ 10 ∧ (∀ j, j < x.2.1 → M r (10 * i + j) = nI (x.2.2 j)) ∧ CG p q r M (i + 1) t
def CL (M : gx_M) (i : Nat) (l : List (Int × Nat × (Nat → Nat))) : Prop := CG 21 22 23 M i l
def CP (M : gx_M) (D : gD) : Prop := ∃ f, FV D 0 f ∧ M 3 2 = nI (rn D 50 (l0 f) (u0 D (l0 f))).length ∧ CL M 0 (rn D 50 (l0 f) (u0 D (l0 f)))
def CD (M : gx_M) (D : gD) : Prop :=
  (M 0 10 ≠ 0 → (M 0 11 = 1 ∧ FL D (sv M 28)) ∨ (M 0 11 = 0 ∧ ¬ ∃ g, FL D g)) ∧ (M 32 0 ≠ 0 → FV D 0 (sv M 30)) ∧ (M 32 1 ≠ 0 → FV D 1 (sv M 31)) ∧ (M 0 8 ≠ 0 → CB M D) ∧ (M 0 9 ≠ 0 → CP M D)
/-- the object between its calls -/
def ck (M : gx_M) (n m : Nat) : Prop := gg_W M n m ∧ stl M ∧ CD M (dC M n m)
/-- the graph and all of the other object stay -/
def cf (M M1 : gx_M) : Prop := ∀ p, p = 1 ∨ (4 ≤ p ∧ p ≤ 10) ∨ 34 ≤ p → M1 p = M p
theorem cf_r (M : gx_M) : cf M M := fun _ _ => rfl
theorem cf_t {M M1 M2 : gx_M} (F : cf M M1) (G : cf M1 M2) : cf M M2 := fun p h => by rw [G p h, F p h]
theorem W_cf {M M1 : gx_M} {n m : Nat} (F : cf M M1) (W : gg_W M n m) : gg_W M1 n m := by
  unfold gg_W
  rw [F 1 (by omega), F 4 (by omega), F 5 (by omega), F 6 (by omega), F 7 (by omega), F 8 (by omega), F 9 (by omega), F 10 (by omega)]
  exact W
theorem dC_cf {M M1 : gx_M} (n m : Nat) (F : cf M M1) : dC M1 n m = dC M n m := by
  unfold dC
  rw [F 4 (by omega), F 5 (by omega), F 6 (by omega), F 7 (by omega), F 8 (by omega), F 9 (by omega), F 10 (by omega)]
theorem stl_nq {M : gx_M} {ep : Nat → Bool} (Q : nq M ep) : stl M := fun e he => by
  obtain ⟨a, b, c, d, -⟩ := Q e he
  exact ⟨na M e, nb M e, c, d, i_nat a, i_nat b⟩
theorem CG_eq {M M1 : gx_M} {p q r : Nat} (h1 : M1 p = M p) (h2 : M1 q = M q) (h3 : M1 r = M r) : ∀ (t : List (Int × Nat × (Nat → Nat))) (i : Nat), CG p q r M i t → CG p q r M1 i t
  | [], _, _ => trivial
  | x :: t, i, h => ⟨by rw [h1]; exact h.1, by rw [h2]; exact h.2.1, h.2.2.1, fun j hj => by rw [h3]; exact h.2.2.2.1 j hj, CG_eq h1 h2 h3 t (i + 1) h.2.2.2.2⟩
theorem CL_eq {M M1 : gx_M} (h1 : M1 21 = M 21) (h2 : M1 22 = M 22) (h3 : M1 23 = M 23) (r : List (Int × Nat × (Nat → Nat))) (i : Nat) (h : CL M i r) : CL M1 i r := CG_eq h1 h2 h3 r i h
theorem CP_eq {M M1 : gx_M} {D : gD} (h0 : M1 3 = M 3) (h1 : M1 21 = M 21) (h2 : M1 22 = M 22) (h3 : M1 23 = M 23) (C : CP M D) : CP M1 D := by
  obtain ⟨f, c1, c2, c3⟩ := C
  exact ⟨f, c1, by rw [h0]; exact c2, CL_eq h1 h2 h3 _ _ c3⟩
theorem CB_eq {M M1 : gx_M} {D : gD} (h0 : M1 0 7 = M 0 7) (h1 : M1 33 = M 33) (C : CB M D) : CB M1 D := by
  obtain ⟨b, c1, c2, c3⟩ := C
  exact ⟨b, c1, by rw [h0]; exact c2, fun j hj h => by rw [h1]; exact c3 j hj h⟩
theorem gx_cp_o {M : gx_M} {p q i j n r k : Nat} (h : r ≠ q) : gx_cp M p q i j n r k = M r k := by
  unfold gx_cp
  simp [h]
theorem gx_cp_i {M : gx_M} {p q n k : Nat} (h : k < n) : gx_cp M p q 0 0 n q k = M p k := by
  unfold gx_cp
  simp [h]
/-- what is in the net is a flow of the graph -/
theorem cs_FL {M0 M : gx_M} {D : gD} (O : gok D) (S : cs M0 M D) (hl : ∀ e, e < 61 → nlo M e ≤ nf M e) : FL D (nf M) := by
  obtain ⟨s1, s2, s3, s4, s5⟩ := S
  exact (nD_FL O s2 s5).mp ⟨s4, fun e he => ⟨hl e he, (s2.2 e he).2.2.2.2.1⟩⟩
theorem FL_congr {D : gD} {f g : Nat → Int} (h : ∀ e, e < 61 → f e = g e) (F : FL D f) : FL D g := by
  refine ⟨fun v hv => ?_, fun e he => ?_⟩
  · rw [← F.1 v hv]
    exact sm_congr (fun e he => by rw [h e he])
  · rw [← h e he]; exact F.2 e he
theorem FV_congr {D : gD} (O : gok D) {w : Nat} {f g : Nat → Int} (h : ∀ e, e < 61 → f e = g e) (F : FV D w f) : FV D w g := by
  have hm : gdm D ≤ 40 := O.2.1
  refine ⟨FL_congr h F.1, fun x hx => by rw [← h 60 (by omega)]; exact F.2.1 x hx, fun x hx h60 k hk hj => ?_⟩
  rw [← h k (by omega)]
  exact F.2.2 x hx (by rw [h60, h 60 (by omega)]) k hk (fun j hj2 => by rw [hj j hj2, h j (by omega)])
theorem cs_ns {M0 M M1 : gx_M} {D : gD} (S : cs M0 M D) (N : ns M M1 (dE D)) : cs M0 M1 D := by
  obtain ⟨s1, s2, s3, s4, s5⟩ := S
  obtain ⟨n1, n2, n3, n4⟩ := N
  refine ⟨fun p hp => by rw [n1 p (by omega) (by omega) (by omega) (by omega), s1 p hp], n2, n3, n4, ?_⟩
  unfold nD na nb nlo nhi
  rw [n1 11 (by omega) (by omega) (by omega) (by omega), n1 12 (by omega) (by omega) (by omega) (by omega), n1 13 (by omega) (by omega) (by omega) (by omega), n1 14 (by omega) (by omega) (by omega) (by omega)]
  exact s5
theorem cs_feas {M0 M : gx_M} {D : gD} (O : gok D) (S : cs M0 M D) : feas M ↔ ∃ g, FL D g := by
  obtain ⟨s1, s2, s3, s4, s5⟩ := S
  exact ⟨fun ⟨f, a, b⟩ => ⟨f, (nD_FL O s2 s5).mp ⟨a, b⟩⟩, fun ⟨f, a⟩ => ⟨f, (nD_FL O s2 s5).mpr a⟩⟩
theorem cs_lo {M0 M : gx_M} {D : gD} (S : cs M0 M D) (h : ∀ e, e < 40 → nlo M e ≤ nf M e) : ∀ e, e < 61 → nlo M e ≤ nf M e := by
  obtain ⟨s1, s2, s3, s4, s5⟩ := S
  intro e he
  by_cases z : e < 40
  · exact h e z
  · have k := (s5 e he).2.1
    have n1 := (s2.2 e he).2.2.2.1
    have : dL D 0 e = 0 := by
      unfold dL
      by_cases hp : dE D e = true
      · rw [if_pos hp, if_neg z]
        by_cases z2 : e < 60
        · rw [if_pos z2]
        · rw [if_neg z2]
      · rw [if_neg hp]
    omega
set_option maxRecDepth 100000 in
set_option maxHeartbeats 4000000 in
theorem s_hasFlow {X : gx_X} {M : gx_M} {n m : Nat} {P : Option Value → gx_M → Prop} (C : ck M n m)
    (h1 : ∀ M1, cf M M1 → ck M1 n m → M1 0 10 ≠ 0 → M1 0 11 = 1 → P (some (.int 1)) M1) (h0 : ∀ M1, cf M M1 → ck M1 n m → (¬ ∃ g, FL (dC M n m) g) → P (some (.int 0)) M1) : gx_C X 53 [.ref 0] M P := by
  obtain ⟨W, S, CC⟩ := id C
  have O := gok_C W
  refine gx_C_wp 40 ?_
  simp only [gx_w_np, gx_w_p, ne_eq, not_false_eq_true, gx_wp, gx_step, gx_cnd, gb0, gb1, Classical.not_not, List.getD_cons_zero, List.getD_cons_succ, List.set_cons_zero, List.set_cons_succ, List.length_cons, List.length_nil, Nat.reduceAdd, Nat.reduceLT, Nat.reduceLeDiff, Nat.reduceEqDiff, Bool.and_false, Bool.and_true, Bool.true_and, Bool.false_and, Bool.false_eq_true, if_false, if_true, ite_true, ite_false, Fin.isValue, Fin.val_zero, Fin.val_one, Fin.val_two, gz0, gz1, gz2, gz3, List.take_succ_cons, List.take_zero, List.drop_succ_cons, List.drop_zero, List.reverse_cons, List.reverse_nil, List.nil_append, List.cons_append, gx_nx, Int32.reduceToInt, Int.reduceToNat, Int.toNat_zero, Int.toNat_one, Int.reduceLT, Int.reduceLE, Int.ofNat_zero, Int.reduceNeg, Int.le_refl, and_self, List.getElem?_cons_zero, List.getElem?_cons_succ, true_and, and_true, Nat.reduceSub, List.replicate, List.append_nil, Nat.reduceLeDiff, Nat.le_add_left, Nat.zero_le, Nat.zero_add, gf3_156, gf3_168, gf3_19, gf3_30, gk_iconst_1, gm3_162, gm3_165, gm3_171, gn11, gn14, gn53, gn55, gr11, gr14, gr53, gr55, gt3_10, gt3_11, gv53, gi53_0, gi53_1, gi53_4, gi53_7, gi53_8, gi53_11, gi53_12, gi53_13, gi53_16, gi53_19, gi53_22, gi53_23, gi53_26, gi53_27, gi53_30, gi53_33, gi53_34, gi53_35, gi53_38, gi53_39, gi53_42, gl0, gl1, gl2, gl3, gl4, gl5, gl6, gl7, gl8, gl9, gl10, gl11, gl12, gl13, gl14, gl15, gl16, gl17, gl18, gl19, gl20, gl21, gl22, gl23, gl24, gl25, gl26, gl27, gl28, gl29, gl30, gl31, gl32, gl33, gl34, gl35, gl36, gl37, gl38, gl39, gl40, gl41, gl42, gl43, gl44, gl45, gl46, gl47, gl48, gl49, gl50, gl51, gl52, gl53, gl54, gl55, gl56, gl57]
  refine ⟨fun q => ?_, fun q => ?_⟩
  · rcases CC.1 q with ⟨a, b⟩ | ⟨a, b⟩
    · rw [a]; exact ⟨Or.inr rfl, h1 M (cf_r M) C q a⟩
    · rw [a]; exact ⟨Or.inl rfl, h0 M (cf_r M) C b⟩
  · refine sp_lay W S (fun M1 S1 H1 f1 _ => ?_)
    have key : ∀ (M2 : gx_M) (x : Int32), ns M1 M2 (dE (dC M n m)) → (x = 1 ∧ FL (dC M n m) (nf M2)) ∨ (x = 0 ∧ ¬ ∃ g, FL (dC M n m) g) → gx_bl x ∧ gx_C X 11 [.ref 2, .ref 28] (gx_w M2 0 11 x) fun r M3 => gx_bl (M3 0 11) ∧ P (some (.int (M3 0 11))) (gx_w M3 0 10 1) := by
      intro M2 x N hx
      have bx : gx_bl x := by rcases hx with ⟨a, -⟩ | ⟨a, -⟩ <;> rw [a]; exact Or.inr rfl; exact Or.inl rfl
      have S2 := cs_ns S1 N
      refine ⟨bx, sp_save (Or.inl rfl) ?_⟩
      have e11 : gx_cp (gx_w M2 0 11 x) 15 28 0 0 61 0 11 = x := by rw [gx_cp_o (by decide), gx_w_p, if_pos rfl]
      rw [e11]
      refine ⟨bx, ?_⟩
      have fr : ∀ p, p ≠ 0 → p ≠ 28 → p < 11 ∨ 20 < p → (gx_w (gx_cp (gx_w M2 0 11 x) 15 28 0 0 61) 0 10 1) p = M p := fun p a b c => by
        rw [← S2.1 p c]; funext j; rw [gx_w_np a, gx_cp_o b, gx_w_np a]
      have net : ∀ p, 11 ≤ p → p ≤ 20 → (gx_w (gx_cp (gx_w M2 0 11 x) 15 28 0 0 61) 0 10 1) p = M2 p := fun p a b => by
        funext j; rw [gx_w_np (by omega), gx_cp_o (by omega), gx_w_np (by omega)]
      have f0 : ∀ j, j ≠ 10 → j ≠ 11 → (gx_w (gx_cp (gx_w M2 0 11 x) 15 28 0 0 61) 0 10 1) 0 j = M 0 j := fun j a b => by
        rw [gx_w_p, if_neg a, gx_cp_o (by decide), gx_w_p, if_neg b, S2.1 0 (by omega)]
      have f28 : ∀ e, e < 61 → sv (gx_w (gx_cp (gx_w M2 0 11 x) 15 28 0 0 61) 0 10 1) 28 e = nf M2 e := fun e he => by
        unfold sv nf; rw [gx_w_np (by decide), gx_cp_i he, gx_w_np (by decide)]
      have F : cf M (gx_w (gx_cp (gx_w M2 0 11 x) 15 28 0 0 61) 0 10 1) := fun p hp => fr p (by omega) (by omega) (by omega)
      have x11 : (gx_w (gx_cp (gx_w M2 0 11 x) 15 28 0 0 61) 0 10 1) 0 11 = x := by rw [gx_w_p, if_neg (by decide), gx_cp_o (by decide), gx_w_p, if_pos rfl]
      have x10 : (gx_w (gx_cp (gx_w M2 0 11 x) 15 28 0 0 61) 0 10 1) 0 10 = 1 := by rw [gx_w_p, if_pos rfl]
      have CK : ck (gx_w (gx_cp (gx_w M2 0 11 x) 15 28 0 0 61) 0 10 1) n m := by
        refine ⟨W_cf F W, ?_, ?_⟩
        · have := stl_nq S2.2.2.1
          intro e he
          rw [net 13 (by omega) (by omega), net 14 (by omega) (by omega)]
          exact this e he
        · rw [dC_cf n m F]
          obtain ⟨c1, c2, c3, c4, c5⟩ := CC
          refine ⟨fun _ => ?_, ?_, ?_, ?_, ?_⟩
          · rw [x11]
            rcases hx with ⟨a, b⟩ | ⟨a, b⟩
            · exact Or.inl ⟨a, FL_congr (fun e he => (f28 e he).symm) b⟩
            · exact Or.inr ⟨a, b⟩
          · unfold sv; rw [fr 32 (by decide) (by decide) (by omega), fr 30 (by decide) (by decide) (by omega)]; exact c2
          · unfold sv; rw [fr 32 (by decide) (by decide) (by omega), fr 31 (by decide) (by decide) (by omega)]; exact c3
          · rw [f0 8 (by decide) (by decide)]
            exact fun h => CB_eq (f0 7 (by decide) (by decide)) (fr 33 (by decide) (by decide) (by omega)) (c4 h)
          · rw [f0 9 (by decide) (by decide)]
            exact fun h => CP_eq (fr 3 (by decide) (by decide) (by omega)) (fr 21 (by decide) (by decide) (by omega)) (fr 22 (by decide) (by decide) (by omega)) (fr 23 (by decide) (by decide) (by omega)) (c5 h)
      rcases hx with ⟨a, b⟩ | ⟨a, b⟩
      · rw [a] at F CK x11 x10 ⊢
        exact h1 _ F CK (by rw [x10]; decide) x11
      · rw [a] at F CK ⊢
        exact h0 _ F CK b
    refine sp_mend S1.2.1 S1.2.2.1 S1.2.2.2.1 H1 (fun M2 N H2 L2 => ?_) (fun M2 N H2 L2 => ?_)
    · intro z hz
      cases hz
      exact key M2 1 N (Or.inl ⟨rfl, cs_FL O (cs_ns S1 N) (cs_lo (cs_ns S1 N) L2)⟩)
    · intro z hz
      cases hz
      exact key M2 0 N (Or.inr ⟨rfl, fun h => L2 ((cs_feas O (cs_ns S1 N)).mpr h)⟩)
