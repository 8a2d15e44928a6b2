/-! near, far, tight, barred, streams, stream. -/
theorem deq_t {A B C : gD} (P : deq A B) (Q : deq B C) : deq A C := by
  obtain ⟨p1, p2, p3, p4⟩ := P
  obtain ⟨q1, q2, q3, q4⟩ := Q
  refine ⟨p1.trans q1, p2.trans q2, fun v hv => ?_, fun k hk => ?_⟩
  · have a := p3 v hv
    have b := q3 v (by rw [← p1]; exact hv)
    exact ⟨a.1.trans b.1, a.2.trans b.2⟩
  · have a := p4 k hk
    have b := q4 k (by rw [← p2]; exact hk)
    refine ⟨a.1.trans b.1, fun h => ?_⟩
    have a2 := a.2 h
    have b2 := b.2 (by rw [← a.1]; exact h)
    exact ⟨a2.1.trans b2.1, a2.2.1.trans b2.2.1, a2.2.2.1.trans b2.2.2.1, a2.2.2.2.trans b2.2.2.2⟩
theorem dK_deq {M : gx_M} {n m v : Nat} {k : Int32} {D : gD} (Q : deq (dR M n m) D) : deq (dR (gx_w M 44 v k) n m) (dK D v k) := by
  obtain ⟨q1, q2, q3, q4⟩ := Q
  have o : ∀ p, p ≠ 44 → (gx_w M 44 v k) p = M p := fun p h => by funext j; rw [gx_w_np h]
  refine ⟨q1, q2, fun u hu => ⟨?_, ?_⟩, fun j hj => ?_⟩
  · show (gx_w M 44 v k) 44 u = if u = v then k else gdk D u
    rw [gx_w_p]
    by_cases z : u = v
    · rw [if_pos z, if_pos z]
    · rw [if_neg z, if_neg z]; exact (q3 u hu).1
  · show (gx_w M 44 v k) 36 u = gdb D u
    rw [o 36 (by decide)]; exact (q3 u hu).2
  · have h := q4 j hj
    show decide ((gx_w M 44 v k) 41 j ≠ 0) = gdl D j ∧ (decide ((gx_w M 44 v k) 41 j ≠ 0) = true → (gx_w M 44 v k) 37 j = gdf D j ∧ (gx_w M 44 v k) 38 j = gdt D j ∧ (gx_w M 44 v k) 42 j = gdx D j ∧ (gx_w M 44 v k) 43 j = gdy D j)
    rw [o 41 (by decide), o 37 (by decide), o 38 (by decide), o 42 (by decide), o 43 (by decide)]
    exact h
theorem dT_deq {M : gx_M} {n m a : Nat} {D : gD} (Q : deq (dR M n m) D) : deq (dR (gx_w M 43 a (M 43 a + 1)) n m) (dT D a) := by
  obtain ⟨q1, q2, q3, q4⟩ := Q
  have o : ∀ p, p ≠ 43 → (gx_w M 43 a (M 43 a + 1)) p = M p := fun p h => by funext j; rw [gx_w_np h]
  refine ⟨q1, q2, fun u hu => ⟨?_, ?_⟩, fun j hj => ?_⟩
  · show (gx_w M 43 a (M 43 a + 1)) 44 u = gdk D u
    rw [o 44 (by decide)]; exact (q3 u hu).1
  · show (gx_w M 43 a (M 43 a + 1)) 36 u = gdb D u
    rw [o 36 (by decide)]; exact (q3 u hu).2
  · have h := q4 j hj
    show decide ((gx_w M 43 a (M 43 a + 1)) 41 j ≠ 0) = gdl D j ∧ (decide ((gx_w M 43 a (M 43 a + 1)) 41 j ≠ 0) = true → (gx_w M 43 a (M 43 a + 1)) 37 j = gdf D j ∧ (gx_w M 43 a (M 43 a + 1)) 38 j = gdt D j ∧ (gx_w M 43 a (M 43 a + 1)) 42 j = gdx D j ∧ (gx_w M 43 a (M 43 a + 1)) 43 j = if j = a then gdy D j + 1 else gdy D j)
    rw [o 41 (by decide), o 37 (by decide), o 38 (by decide), o 42 (by decide), gx_w_p]
    refine ⟨h.1, fun al => ?_⟩
    have h2 := h.2 al
    refine ⟨h2.1, h2.2.1, h2.2.2.1, ?_⟩
    have h3 : M 43 j = gdy D j := h2.2.2.2
    by_cases z : j = a
    · rw [if_pos z, if_pos z, ← z, h3]
    · rw [if_neg z, if_neg z]; exact h3
/-- isThere, asked for more than the greatest value -/
theorem sr_moreL {X : gx_X} {M : gx_M} {n m : Nat} {D2 : gD} {x : Int32} {V : Int} {A1 A0 : gx_M → Prop} (hn : M 34 0 = nI n) (hm : M 34 3 = nI m) (Q : deq (dR M n m) D2) (O2 : gok D2) (hx : x.toInt = V + 1) (hV : 0 ≤ V ∧ V ≤ 40040)
    (h1 : ∀ M1, fr4 M M1 → (∃ g, FL D2 g ∧ V + 1 ≤ g 60) → A1 M1) (h0 : ∀ M1, fr4 M M1 → (¬ ∃ g, FL D2 g ∧ V + 1 ≤ g 60) → A0 M1) :
    gx_C X 64 [.ref 34, .int x, .int 1000000] M fun r M1 => ∀ y : Int32, r = some (.int y) → (y = 0 → A0 M1) ∧ (¬ y = 0 → A1 M1) := by
  have zf : (1000000 : Int32).toInt = 1000000 := by decide
  have key : (∃ g, SP (dR M n m) x.toInt (1000000 : Int32).toInt g) ↔ ∃ g, FL D2 g ∧ V + 1 ≤ g 60 := by
    rw [hx, zf]
    constructor
    · rintro ⟨g, hg⟩
      have := (SP_iff O2 (by omega)).mp ((deq_SP Q).mp hg)
      exact ⟨g, this.1, this.2.1⟩
    · rintro ⟨g, g1, g2⟩
      refine ⟨g, (deq_SP Q).mpr ((SP_iff O2 (by omega)).mpr ⟨g1, g2, ?_⟩)⟩
      have := FL_free O2 g1 60 (by omega) (by omega)
      omega
  refine sr_isThere hn hm (gok_eq Q O2) (by omega) (by rw [zf]; omega) (by rw [zf]; omega) (fun M1 F S => ?_) (fun M1 F S => ?_)
  · intro y hy
    cases hy
    exact ⟨fun q => absurd q (by decide), fun _ => h1 M1 F (key.mp S)⟩
  · intro y hy
    cases hy
    exact ⟨fun _ => h0 M1 F (fun h => S (key.mpr h)), fun q => absurd rfl q⟩
set_option maxRecDepth 100000 in
set_option maxHeartbeats 4000000 in
theorem sr_asKind {X : gx_X} {M : gx_M} {n m : Nat} {a k : Int32} {P : Option Value → gx_M → Prop} (W : gg_W M n m) (G : gg_R M n m) (K : RD M (dC M n m)) (hk : k = 1 ∨ k = 2)
    (h1 : ¬ (0 ≤ a.toInt ∧ a.toInt < n) → P (some (.int (-1))) M) (h2 : 0 ≤ a.toInt → a.toInt < n → M 4 a.toInt.toNat ≠ 0 → P (some (.int (-2))) M)
    (h3 : ∀ M1, (0 ≤ a.toInt ∧ a.toInt < n ∧ M 4 a.toInt.toNat = 0) → kf M M1 → RD M1 (dC M n m) → (¬ ∃ g, FL (dC M n m) g) → P (some (.int (-3))) M1)
    (h4 : ∀ (z : Int32) (M1 : gx_M) (f : Nat → Int), (0 ≤ a.toInt ∧ a.toInt < n ∧ M 4 a.toInt.toNat = 0) → kf M M1 → RD M1 (dC M n m) → FV (dC M n m) 0 f → (z = 1 ∧ (∃ g, FL (dK (dC M n m) a.toInt.toNat k) g ∧ f 60 + 1 ≤ g 60) ∨ z = 0 ∧ ¬ ∃ g, FL (dK (dC M n m) a.toInt.toNat k) g ∧ f 60 + 1 ≤ g 60) → P (some (.int z)) M1) :
    gx_C X 94 [.ref 34, .int a, .int k] M P := by
  have O := gok_C W
  have hn10 := W.2.2.1
  have hm40 := W.2.2.2.1
  refine gx_C_wp 60 ?_
  simp only [gx_w_np, gx_w_p, ne_eq, not_false_eq_true, gx_wp, gx_step, gx_cnd, gb0, gb1, Classical.not_not, List.getD_cons_zero, List.getD_cons_succ, List.set_cons_zero, List.set_cons_succ, List.length_cons, List.length_nil, Nat.reduceAdd, Nat.reduceLT, Nat.reduceLeDiff, Nat.reduceEqDiff, Bool.and_false, Bool.and_true, Bool.true_and, Bool.false_and, Bool.false_eq_true, if_false, if_true, ite_true, ite_false, Fin.isValue, Fin.val_zero, Fin.val_one, Fin.val_two, gz0, gz1, gz2, gz3, List.take_succ_cons, List.take_zero, List.drop_succ_cons, List.drop_zero, List.reverse_cons, List.reverse_nil, List.nil_append, List.cons_append, gx_nx, Int32.reduceToInt, Int.reduceToNat, Int.toNat_zero, Int.toNat_one, Int.reduceLT, Int.reduceLE, Int.ofNat_zero, Int.reduceNeg, Int.le_refl, and_self, List.getElem?_cons_zero, List.getElem?_cons_succ, true_and, and_true, Nat.reduceSub, List.replicate, List.append_nil, Nat.reduceLeDiff, Nat.le_add_left, Nat.zero_le, Nat.zero_add, gc4_94, gf4_121, gf4_38, gf4_50, gf4_7, gk_bipush_m2, gk_bipush_m3, gk_iconst_0, gk_iconst_1, gk_iconst_m1, gm4_103, gm4_107, gm4_161, gm4_172, gn64, gn65, gn70, gn79, gn94, gr64, gr65, gr70, gr79, gr94, gv94, gi94_0, gi94_1, gi94_2, gi94_5, gi94_8, gi94_9, gi94_10, gi94_11, gi94_14, gi94_15, gi94_16, gi94_19, gi94_21, gi94_22, gi94_23, gi94_26, gi94_27, gi94_30, gi94_33, gi94_35, gi94_36, gi94_37, gi94_40, gi94_41, gi94_44, gi94_45, gi94_46, gi94_47, gi94_48, gi94_49, gi94_52, gi94_53, gi94_54, gi94_55, gi94_56, gi94_58, gi94_61, gi94_64, gi94_65, gi94_68, gi94_69, gl0, gl1, gl2, gl3, gl4, gl5, gl6, gl7, gl8, gl9, gl10, gl11, gl12, gl13, gl14, gl15, gl16, gl17, gl18, gl19, gl20, gl21, gl22, gl23, gl24, gl25, gl26, gl27, gl28, gl29, gl30, gl31, gl32, gl33, gl34, gl35, gl36, gl37, gl38, gl39, gl40, gl41, gl42, gl43, gl44, gl45, gl46, gl47, gl48, gl49, gl50, gl51, gl52, gl53, gl54, gl55, gl56, gl57]
  refine sr_isNode G.1 hn10 (fun a1 a2 => ?_) (fun a1 => ?_)
  · intro x hx
    cases hx
    have e35 : M 35 a.toInt.toNat = M 4 a.toInt.toNat := (G.2.2.1 a.toInt.toNat (by omega)).1
    rw [e35]
    refine ⟨fun _ => ⟨by omega, fun q => ?_, fun q => h2 a1 a2 q⟩, fun q => absurd q (by decide)⟩
    refine sr_know2 W G K (fun M2 f0 f1 F2 K2 z V0 V1 v0 v1 w0 w1 c2 g2 => ⟨fun _ => ?_, fun q => absurd q z⟩) (fun M2 F2 K2 z no B => ⟨fun q => absurd z q, fun _ => h3 M2 ⟨a1, a2, q⟩ F2 K2 no⟩)
    have G2 := R_kf F2 G
    have n60 := (FL_nn O V0.1 60 (by omega)).1
    have f60 := FL_free O V0.1 60 (by omega) (by omega)
    refine sr_take (n := n) (m := m) G2.1 G2.2.1 hn10 hm40 (fun M3 T T1 T2 => ⟨by omega, by omega, ?_⟩)
    have Q3 : deq (dR M3 n m) (dC M n m) := by
      have := deq_t (dR_take T T1 T2) (dS_C G2)
      rw [dC_kf n m F2] at this; exact this
    have o : ∀ p j, p ≠ 42 → p ≠ 43 → p ≠ 44 → (gx_w M3 44 a.toInt.toNat k) p j = M2 p j := fun p j b c d => by rw [gx_w_np d, T p b c d]
    have z1 : (1 : Int32).toInt = 1 := by decide
    have e48 : (M3 48 0 + 1).toInt = f0 60 + 1 := by
      rw [T 48 (by decide) (by decide) (by decide), i_add (by rw [v0, z1]; omega) (by rw [v0, z1]; omega), v0, z1]
    have fin : ∀ M5, fr4 (gx_w M3 44 a.toInt.toNat k) M5 → kf M M5 ∧ RD M5 (dC M n m) := fun M5 F5 => by
      refine ⟨kf_t F2 (fun p j b c => ?_), RD_eq (fun j hj => ?_) (fun p b c => ?_) K2⟩
      · rw [F5 p j (by omega) (by omega) (by omega) (fun q => c ⟨q.1, Or.inr (Or.inl q.2)⟩)]; exact o p j (by omega) (by omega) (by omega)
      · rw [F5 34 j (by omega) (by omega) (by omega) (fun q => hj q.2)]; exact o 34 j (by omega) (by omega) (by omega)
      · funext j
        rw [F5 p j (by omega) (by omega) (by omega) (fun q => by omega)]; exact o p j (by omega) (by omega) (by omega)
    refine sr_moreL (n := n) (m := m) (V := f0 60) (by rw [o 34 0 (by decide) (by decide) (by decide)]; exact G2.1) (by rw [o 34 3 (by decide) (by decide) (by decide)]; exact G2.2.1) (dK_deq Q3) (gok_K O (by rcases hk with h | h <;> rw [h] <;> decide)) e48 ⟨n60, f60⟩ (fun M5 F5 S => ?_) (fun M5 F5 S => ?_)
    · exact h4 1 M5 f0 ⟨a1, a2, q⟩ (fin M5 F5).1 (fin M5 F5).2 V0 (Or.inl ⟨rfl, S⟩)
    · exact h4 0 M5 f0 ⟨a1, a2, q⟩ (fin M5 F5).1 (fin M5 F5).2 V0 (Or.inr ⟨rfl, S⟩)
  · intro x hx
    cases hx
    exact ⟨fun q => absurd rfl q, fun _ => h1 a1⟩
/-- near and far alike -/
theorem pr_help {X : gx_X} {M : gx_M} {a k : Int32} (hk : k = 1 ∨ k = 2) (hI : gg_I CC RC M) : gx_C X 58 [.ref 0, .int a, .int k] M fun r M1 => ∃ z : Int32, r = some (.int z) ∧ gx_C X 94 [.ref 34, .int a, .int k] M1 fun r2 M2 => r2 = some (.int z) ∧ gg_I CC RC M2 := by
  obtain ⟨⟨n, m, W, G⟩, hC, hR, hS⟩ := id hI
  have C : ck M n m := ⟨W, hS, hC n m W⟩
  have K := hR n m W G
  have O := gok_C W
  refine s_helpsAs C hk (fun h => ⟨_, rfl, ?_⟩) (fun a1 a2 h => ⟨_, rfl, ?_⟩) (fun M1 F1 C1 a1 a2 h no => ⟨_, rfl, ?_⟩) (fun z M1 f F1 C1 a1 a2 h V hz => ⟨_, rfl, ?_⟩)
  · exact sr_asKind W G K hk (fun _ => ⟨rfl, hI⟩) (fun b1 b2 _ => absurd ⟨b1, b2⟩ h) (fun M1 b _ _ _ => absurd ⟨b.1, b.2.1⟩ h) (fun z M1 f b _ _ _ _ => absurd ⟨b.1, b.2.1⟩ h)
  · exact sr_asKind W G K hk (fun b => absurd ⟨a1, a2⟩ b) (fun _ _ _ => ⟨rfl, hI⟩) (fun M1 b _ _ _ => absurd b.2.2 h) (fun z M1 f b _ _ _ _ => absurd b.2.2 h)
  · obtain ⟨G1, eD, K1⟩ := side F1 G K
    have e4 : M1 4 = M 4 := F1 4 (by omega)
    refine sr_asKind C1.1 G1 K1 hk (fun b => absurd ⟨a1, a2⟩ b) (fun _ _ b => ?_) (fun M2 _ F2 K2 _ => ⟨rfl, inv_k C1 G1 F2 K2⟩) (fun z M2 f _ F2 K2 V _ => ?_)
    · rw [e4] at b; exact absurd h b
    · rw [eD] at V; exact absurd ⟨_, V.1⟩ no
  · obtain ⟨G1, eD, K1⟩ := side F1 G K
    have e4 : M1 4 = M 4 := F1 4 (by omega)
    refine sr_asKind C1.1 G1 K1 hk (fun b => absurd ⟨a1, a2⟩ b) (fun _ _ b => ?_) (fun M2 _ F2 K2 no => ?_) (fun y M2 f2 _ F2 K2 V2 hy => ?_)
    · rw [e4] at b; exact absurd h b
    · rw [eD] at no; exact absurd ⟨_, V.1⟩ no
    · rw [eD] at V2 hy
      rw [(FV_uq O V2 V).1] at hy
      have e : y = z := by
        rcases hz with ⟨p1, p2⟩ | ⟨p1, p2⟩ <;> rcases hy with ⟨q1, q2⟩ | ⟨q1, q2⟩
        · rw [p1, q1]
        · exact absurd p2 q2
        · exact absurd q2 p2
        · rw [p1, q1]
      exact ⟨by rw [e], inv_k C1 G1 F2 K2⟩
set_option maxRecDepth 100000 in
set_option maxHeartbeats 4000000 in
theorem pr_near {X : gx_X} : lw_pair X (gg_I CC RC) 42 95 1 := by
  intro M as hl hI
  obtain ⟨a, rfl⟩ : ∃ a, as = [a] := by
    match as, hl with
    | [a], _ => exact ⟨a, rfl⟩
  show gx_C X 42 [.ref 0, .int a] M _
  refine gx_C_wp 20 ?_
  simp only [gx_w_np, gx_w_p, ne_eq, not_false_eq_true, gx_wp, gx_step, gx_cnd, gb0, gb1, Classical.not_not, List.getD_cons_zero, List.getD_cons_succ, List.set_cons_zero, List.set_cons_succ, List.length_cons, List.length_nil, Nat.reduceAdd, Nat.reduceLT, Nat.reduceLeDiff, Nat.reduceEqDiff, Bool.and_false, Bool.and_true, Bool.true_and, Bool.false_and, Bool.false_eq_true, if_false, if_true, ite_true, ite_false, Fin.isValue, Fin.val_zero, Fin.val_one, Fin.val_two, gz0, gz1, gz2, gz3, List.take_succ_cons, List.take_zero, List.drop_succ_cons, List.drop_zero, List.reverse_cons, List.reverse_nil, List.nil_append, List.cons_append, gx_nx, Int32.reduceToInt, Int.reduceToNat, Int.toNat_zero, Int.toNat_one, Int.reduceLT, Int.reduceLE, Int.ofNat_zero, Int.reduceNeg, Int.le_refl, and_self, List.getElem?_cons_zero, List.getElem?_cons_succ, true_and, and_true, Nat.reduceSub, List.replicate, List.append_nil, Nat.reduceLeDiff, Nat.le_add_left, Nat.zero_le, Nat.zero_add, gk_iconst_2, gm3_119, gn42, gn58, gr42, gr58, gv42, gi42_0, gi42_1, gi42_2, gi42_3, gi42_6, gl0, gl1, gl2, gl3, gl4, gl5, gl6, gl7, gl8, gl9, gl10, gl11, gl12, gl13, gl14, gl15, gl16, gl17, gl18, gl19, gl20, gl21, gl22, gl23, gl24, gl25, gl26, gl27, gl28, gl29, gl30, gl31, gl32, gl33, gl34, gl35, gl36, gl37, gl38, gl39, gl40, gl41, gl42, gl43, gl44, gl45, gl46, gl47, gl48, gl49, gl50, gl51, gl52, gl53, gl54, gl55, gl56, gl57]
  refine gx_C.mono (pr_help (k := 2) (Or.inr rfl) hI) (fun r M1 h => ?_)
  obtain ⟨z, rfl, hz⟩ := h
  intro x hx
  cases hx
  refine ⟨_, rfl, ?_⟩
  show gx_C X 95 [.ref 34, .int a] M1 _
  refine gx_C_wp 20 ?_
  simp only [gx_w_np, gx_w_p, ne_eq, not_false_eq_true, gx_wp, gx_step, gx_cnd, gb0, gb1, Classical.not_not, List.getD_cons_zero, List.getD_cons_succ, List.set_cons_zero, List.set_cons_succ, List.length_cons, List.length_nil, Nat.reduceAdd, Nat.reduceLT, Nat.reduceLeDiff, Nat.reduceEqDiff, Bool.and_false, Bool.and_true, Bool.true_and, Bool.false_and, Bool.false_eq_true, if_false, if_true, ite_true, ite_false, Fin.isValue, Fin.val_zero, Fin.val_one, Fin.val_two, gz0, gz1, gz2, gz3, List.take_succ_cons, List.take_zero, List.drop_succ_cons, List.drop_zero, List.reverse_cons, List.reverse_nil, List.nil_append, List.cons_append, gx_nx, Int32.reduceToInt, Int.reduceToNat, Int.toNat_zero, Int.toNat_one, Int.reduceLT, Int.reduceLE, Int.ofNat_zero, Int.reduceNeg, Int.le_refl, and_self, List.getElem?_cons_zero, List.getElem?_cons_succ, true_and, and_true, Nat.reduceSub, List.replicate, List.append_nil, Nat.reduceLeDiff, Nat.le_add_left, Nat.zero_le, Nat.zero_add, gk_iconst_2, gm4_178, gn94, gn95, gr94, gr95, gv95, gi95_0, gi95_1, gi95_2, gi95_3, gi95_6, gl0, gl1, gl2, gl3, gl4, gl5, gl6, gl7, gl8, gl9, gl10, gl11, gl12, gl13, gl14, gl15, gl16, gl17, gl18, gl19, gl20, gl21, gl22, gl23, gl24, gl25, gl26, gl27, gl28, gl29, gl30, gl31, gl32, gl33, gl34, gl35, gl36, gl37, gl38, gl39, gl40, gl41, gl42, gl43, gl44, gl45, gl46, gl47, gl48, gl49, gl50, gl51, gl52, gl53, gl54, gl55, gl56, gl57]
  refine gx_C.mono hz (fun r M2 h => ?_)
  obtain ⟨rfl, h⟩ := h
  intro x hx
  cases hx
  exact ⟨rfl, h⟩
set_option maxRecDepth 100000 in
set_option maxHeartbeats 4000000 in
theorem pr_far {X : gx_X} : lw_pair X (gg_I CC RC) 43 96 1 := by
  intro M as hl hI
  obtain ⟨a, rfl⟩ : ∃ a, as = [a] := by
    match as, hl with
    | [a], _ => exact ⟨a, rfl⟩
  show gx_C X 43 [.ref 0, .int a] M _
  refine gx_C_wp 20 ?_
  simp only [gx_w_np, gx_w_p, ne_eq, not_false_eq_true, gx_wp, gx_step, gx_cnd, gb0, gb1, Classical.not_not, List.getD_cons_zero, List.getD_cons_succ, List.set_cons_zero, List.set_cons_succ, List.length_cons, List.length_nil, Nat.reduceAdd, Nat.reduceLT, Nat.reduceLeDiff, Nat.reduceEqDiff, Bool.and_false, Bool.and_true, Bool.true_and, Bool.false_and, Bool.false_eq_true, if_false, if_true, ite_true, ite_false, Fin.isValue, Fin.val_zero, Fin.val_one, Fin.val_two, gz0, gz1, gz2, gz3, List.take_succ_cons, List.take_zero, List.drop_succ_cons, List.drop_zero, List.reverse_cons, List.reverse_nil, List.nil_append, List.cons_append, gx_nx, Int32.reduceToInt, Int.reduceToNat, Int.toNat_zero, Int.toNat_one, Int.reduceLT, Int.reduceLE, Int.ofNat_zero, Int.reduceNeg, Int.le_refl, and_self, List.getElem?_cons_zero, List.getElem?_cons_succ, true_and, and_true, Nat.reduceSub, List.replicate, List.append_nil, Nat.reduceLeDiff, Nat.le_add_left, Nat.zero_le, Nat.zero_add, gk_iconst_1, gm3_119, gn43, gn58, gr43, gr58, gv43, gi43_0, gi43_1, gi43_2, gi43_3, gi43_6, gl0, gl1, gl2, gl3, gl4, gl5, gl6, gl7, gl8, gl9, gl10, gl11, gl12, gl13, gl14, gl15, gl16, gl17, gl18, gl19, gl20, gl21, gl22, gl23, gl24, gl25, gl26, gl27, gl28, gl29, gl30, gl31, gl32, gl33, gl34, gl35, gl36, gl37, gl38, gl39, gl40, gl41, gl42, gl43, gl44, gl45, gl46, gl47, gl48, gl49, gl50, gl51, gl52, gl53, gl54, gl55, gl56, gl57]
  refine gx_C.mono (pr_help (k := 1) (Or.inl rfl) hI) (fun r M1 h => ?_)
  obtain ⟨z, rfl, hz⟩ := h
  intro x hx
  cases hx
  refine ⟨_, rfl, ?_⟩
  show gx_C X 96 [.ref 34, .int a] M1 _
  refine gx_C_wp 20 ?_
  simp only [gx_w_np, gx_w_p, ne_eq, not_false_eq_true, gx_wp, gx_step, gx_cnd, gb0, gb1, Classical.not_not, List.getD_cons_zero, List.getD_cons_succ, List.set_cons_zero, List.set_cons_succ, List.length_cons, List.length_nil, Nat.reduceAdd, Nat.reduceLT, Nat.reduceLeDiff, Nat.reduceEqDiff, Bool.and_false, Bool.and_true, Bool.true_and, Bool.false_and, Bool.false_eq_true, if_false, if_true, ite_true, ite_false, Fin.isValue, Fin.val_zero, Fin.val_one, Fin.val_two, gz0, gz1, gz2, gz3, List.take_succ_cons, List.take_zero, List.drop_succ_cons, List.drop_zero, List.reverse_cons, List.reverse_nil, List.nil_append, List.cons_append, gx_nx, Int32.reduceToInt, Int.reduceToNat, Int.toNat_zero, Int.toNat_one, Int.reduceLT, Int.reduceLE, Int.ofNat_zero, Int.reduceNeg, Int.le_refl, and_self, List.getElem?_cons_zero, List.getElem?_cons_succ, true_and, and_true, Nat.reduceSub, List.replicate, List.append_nil, Nat.reduceLeDiff, Nat.le_add_left, Nat.zero_le, Nat.zero_add, gk_iconst_1, gm4_178, gn94, gn96, gr94, gr96, gv96, gi96_0, gi96_1, gi96_2, gi96_3, gi96_6, gl0, gl1, gl2, gl3, gl4, gl5, gl6, gl7, gl8, gl9, gl10, gl11, gl12, gl13, gl14, gl15, gl16, gl17, gl18, gl19, gl20, gl21, gl22, gl23, gl24, gl25, gl26, gl27, gl28, gl29, gl30, gl31, gl32, gl33, gl34, gl35, gl36, gl37, gl38, gl39, gl40, gl41, gl42, gl43, gl44, gl45, gl46, gl47, gl48, gl49, gl50, gl51, gl52, gl53, gl54, gl55, gl56, gl57]
  refine gx_C.mono hz (fun r M2 h => ?_)
  obtain ⟨rfl, h⟩ := h
  intro x hx
  cases hx
  exact ⟨rfl, h⟩
set_option maxRecDepth 100000 in
set_option maxHeartbeats 4000000 in
theorem sr_tight {X : gx_X} {M : gx_M} {n m : Nat} {a : Int32} {P : Option Value → gx_M → Prop} (W : gg_W M n m) (G : gg_R M n m) (K : RD M (dC M n m))
    (h1 : ¬ (0 ≤ a.toInt ∧ a.toInt < m ∧ M 10 a.toInt.toNat = 0) → P (some (.int (-1))) M)
    (h3 : ∀ M1, (0 ≤ a.toInt ∧ a.toInt < m ∧ M 10 a.toInt.toNat = 0) → kf M M1 → RD M1 (dC M n m) → (¬ ∃ g, FL (dC M n m) g) → P (some (.int (-3))) M1)
    (h4 : ∀ (z : Int32) (M1 : gx_M) (f : Nat → Int), (0 ≤ a.toInt ∧ a.toInt < m ∧ M 10 a.toInt.toNat = 0) → kf M M1 → RD M1 (dC M n m) → FV (dC M n m) 0 f → (z = 1 ∧ (∃ g, FL (dT (dC M n m) a.toInt.toNat) g ∧ f 60 + 1 ≤ g 60) ∨ z = 0 ∧ ¬ ∃ g, FL (dT (dC M n m) a.toInt.toNat) g ∧ f 60 + 1 ≤ g 60) → P (some (.int z)) M1) :
    gx_C X 97 [.ref 34, .int a] M P := by
  have O := gok_C W
  have hn10 := W.2.2.1
  have hm40 := W.2.2.2.1
  have hA := gg_al2 (k := a) G
  refine gx_C_wp 60 ?_
  simp only [gx_w_np, gx_w_p, ne_eq, not_false_eq_true, gx_wp, gx_step, gx_cnd, gb0, gb1, Classical.not_not, List.getD_cons_zero, List.getD_cons_succ, List.set_cons_zero, List.set_cons_succ, List.length_cons, List.length_nil, Nat.reduceAdd, Nat.reduceLT, Nat.reduceLeDiff, Nat.reduceEqDiff, Bool.and_false, Bool.and_true, Bool.true_and, Bool.false_and, Bool.false_eq_true, if_false, if_true, ite_true, ite_false, Fin.isValue, Fin.val_zero, Fin.val_one, Fin.val_two, gz0, gz1, gz2, gz3, List.take_succ_cons, List.take_zero, List.drop_succ_cons, List.drop_zero, List.reverse_cons, List.reverse_nil, List.nil_append, List.cons_append, gx_nx, Int32.reduceToInt, Int.reduceToNat, Int.toNat_zero, Int.toNat_one, Int.reduceLT, Int.reduceLE, Int.ofNat_zero, Int.reduceNeg, Int.le_refl, and_self, List.getElem?_cons_zero, List.getElem?_cons_succ, true_and, and_true, Nat.reduceSub, List.replicate, List.append_nil, Nat.reduceLeDiff, Nat.le_add_left, Nat.zero_le, Nat.zero_add, gc4_94, gf4_121, gf4_35, gf4_50, gk_bipush_m3, gk_iconst_0, gk_iconst_1, gk_iconst_m1, gm4_103, gm4_107, gm4_169, gm4_172, gn64, gn65, gn70, gn80, gn97, gr64, gr65, gr70, gr80, gr97, gv97, gi97_0, gi97_1, gi97_2, gi97_5, gi97_8, gi97_9, gi97_10, gi97_11, gi97_14, gi97_15, gi97_18, gi97_21, gi97_23, gi97_24, gi97_25, gi97_28, gi97_29, gi97_32, gi97_33, gi97_34, gi97_35, gi97_36, gi97_37, gi97_38, gi97_39, gi97_40, gi97_43, gi97_44, gi97_45, gi97_46, gi97_47, gi97_49, gi97_52, gi97_55, gi97_56, gi97_59, gi97_60, gl0, gl1, gl2, gl3, gl4, gl5, gl6, gl7, gl8, gl9, gl10, gl11, gl12, gl13, gl14, gl15, gl16, gl17, gl18, gl19, gl20, gl21, gl22, gl23, gl24, gl25, gl26, gl27, gl28, gl29, gl30, gl31, gl32, gl33, gl34, gl35, gl36, gl37, gl38, gl39, gl40, gl41, gl42, gl43, gl44, gl45, gl46, gl47, gl48, gl49, gl50, gl51, gl52, gl53, gl54, gl55, gl56, gl57]
  refine sr_isArc G.2.1 hm40 (fun a1 a2 a3 => ?_) (fun a1 => ?_)
  · intro x hx
    cases hx
    have ha := hA.mpr ⟨a1, a2, a3⟩
    refine ⟨fun _ => ?_, fun q => absurd q (by decide)⟩
    refine sr_know2 W G K (fun M2 f0 f1 F2 K2 z V0 V1 v0 v1 w0 w1 c2 g2 => ⟨fun _ => ?_, fun q => absurd q z⟩) (fun M2 F2 K2 z no B => ⟨fun q => absurd z q, fun _ => h3 M2 ha F2 K2 no⟩)
    have G2 := R_kf F2 G
    have n60 := (FL_nn O V0.1 60 (by omega)).1
    have f60 := FL_free O V0.1 60 (by omega) (by omega)
    refine sr_take (n := n) (m := m) G2.1 G2.2.1 hn10 hm40 (fun M3 T T1 T2 => ⟨by omega, by omega, by omega, ?_⟩)
    have Q3 : deq (dR M3 n m) (dC M n m) := by
      have := deq_t (dR_take T T1 T2) (dS_C G2)
      rw [dC_kf n m F2] at this; exact this
    have o : ∀ p j, p ≠ 42 → p ≠ 43 → p ≠ 44 → (gx_w M3 43 a.toInt.toNat (M3 43 a.toInt.toNat + 1)) p j = M2 p j := fun p j b c d => by rw [gx_w_np c, T p b c d]
    have z1 : (1 : Int32).toInt = 1 := by decide
    have e48 : (M3 48 0 + 1).toInt = f0 60 + 1 := by
      rw [T 48 (by decide) (by decide) (by decide), i_add (by rw [v0, z1]; omega) (by rw [v0, z1]; omega), v0, z1]
    have fin : ∀ M5, fr4 (gx_w M3 43 a.toInt.toNat (M3 43 a.toInt.toNat + 1)) M5 → kf M M5 ∧ RD M5 (dC M n m) := fun M5 F5 => by
      refine ⟨kf_t F2 (fun p j b c => ?_), RD_eq (fun j hj => ?_) (fun p b c => ?_) K2⟩
      · rw [F5 p j (by omega) (by omega) (by omega) (fun q => c ⟨q.1, Or.inr (Or.inl q.2)⟩)]; exact o p j (by omega) (by omega) (by omega)
      · rw [F5 34 j (by omega) (by omega) (by omega) (fun q => hj q.2)]; exact o 34 j (by omega) (by omega) (by omega)
      · funext j
        rw [F5 p j (by omega) (by omega) (by omega) (fun q => by omega)]; exact o p j (by omega) (by omega) (by omega)
    refine sr_moreL (n := n) (m := m) (V := f0 60) (by rw [o 34 0 (by decide) (by decide) (by decide)]; exact G2.1) (by rw [o 34 3 (by decide) (by decide) (by decide)]; exact G2.2.1) (dT_deq Q3) (gok_T O (fun k hk _ => (W.2.2.2.2.2.1 k hk).2.2.2.2.2.2.2.1)) e48 ⟨n60, f60⟩ (fun M5 F5 S => ?_) (fun M5 F5 S => ?_)
    · exact h4 1 M5 f0 ha (fin M5 F5).1 (fin M5 F5).2 V0 (Or.inl ⟨rfl, S⟩)
    · exact h4 0 M5 f0 ha (fin M5 F5).1 (fin M5 F5).2 V0 (Or.inr ⟨rfl, S⟩)
  · intro x hx
    cases hx
    exact ⟨fun q => absurd rfl q, fun _ => h1 (fun h => a1 (hA.mp h))⟩
set_option maxRecDepth 100000 in
set_option maxHeartbeats 4000000 in
theorem pr_tight {X : gx_X} : lw_pair X (gg_I CC RC) 44 97 1 := by
  intro M as hl hI
  obtain ⟨a, rfl⟩ : ∃ a, as = [a] := by
    match as, hl with
    | [a], _ => exact ⟨a, rfl⟩
  obtain ⟨⟨n, m, W, G⟩, hC, hR, hS⟩ := id hI
  have C : ck M n m := ⟨W, hS, hC n m W⟩
  have K := hR n m W G
  have O := gok_C W
  show gx_C X 44 [.ref 0, .int a] M _
  refine s_tight C (fun h => ⟨_, rfl, ?_⟩) (fun M1 F1 C1 h no => ⟨_, rfl, ?_⟩) (fun z M1 f F1 C1 h V hz => ⟨_, rfl, ?_⟩)
  · show gx_C X 97 [.ref 34, .int a] M _
    exact sr_tight W G K (fun _ => ⟨rfl, hI⟩) (fun M1 b _ _ _ => absurd b h) (fun z M1 f b _ _ _ _ => absurd b h)
  · obtain ⟨G1, eD, K1⟩ := side F1 G K
    have e10 : M1 10 = M 10 := F1 10 (by omega)
    show gx_C X 97 [.ref 34, .int a] M1 _
    refine sr_tight C1.1 G1 K1 (fun b => ?_) (fun M2 _ F2 K2 _ => ⟨rfl, inv_k C1 G1 F2 K2⟩) (fun z M2 f _ F2 K2 V _ => ?_)
    · rw [e10] at b; exact absurd h b
    · rw [eD] at V; exact absurd ⟨_, V.1⟩ no
  · obtain ⟨G1, eD, K1⟩ := side F1 G K
    have e10 : M1 10 = M 10 := F1 10 (by omega)
    show gx_C X 97 [.ref 34, .int a] M1 _
    refine sr_tight C1.1 G1 K1 (fun b => ?_) (fun M2 _ F2 K2 no => ?_) (fun y M2 f2 _ F2 K2 V2 hy => ?_)
    · rw [e10] at b; exact absurd h b
    · rw [eD] at no; exact absurd ⟨_, V.1⟩ no
    · rw [eD] at V2 hy
      rw [(FV_uq O V2 V).1] at hy
      have e : y = z := by
        rcases hz with ⟨p1, p2⟩ | ⟨p1, p2⟩ <;> rcases hy with ⟨q1, q2⟩ | ⟨q1, q2⟩
        · rw [p1, q1]
        · exact absurd p2 q2
        · exact absurd q2 p2
        · rw [p1, q1]
      exact ⟨by rw [e], inv_k C1 G1 F2 K2⟩
def bq (M : gx_M) (i : Nat) : Bool := decide (M 50 i ≠ 0)
set_option maxRecDepth 100000 in
set_option maxHeartbeats 4000000 in
theorem l98 {X : gx_X} {M : gx_M} {m : Nat} {a : Int32} {P : Option Value → gx_M → Prop} (hm : M 34 3 = nI m) (hm40 : m ≤ 40)
    (h1 : ∀ j, j < m → M 50 j ≠ 0 → (up (bq M) j : Int) = a.toInt → P (some (.int (nI j))) M) (h0 : (∀ j, j < m → M 50 j ≠ 0 → (up (bq M) j : Int) ≠ a.toInt) → P (some (.int (-1))) M) :
    ∀ (d i : Nat), i + d = m → (∀ j, j < i → M 50 j ≠ 0 → (up (bq M) j : Int) ≠ a.toInt) → gx_OK X 98 18 [.ref 34, .int a, .int (nI (up (bq M) i)), .int (nI i)] [] M P := by
  intro d
  induction d with
  | zero =>
    intro i hi hj
    refine gx_wp_ok 40 false _ _ _ _ ?_
    simp only [gx_w_np, gx_w_p, ne_eq, not_false_eq_true, gx_wp, gx_step, gx_cnd, gb0, gb1, Classical.not_not, List.getD_cons_zero, List.getD_cons_succ, List.set_cons_zero, List.set_cons_succ, List.length_cons, List.length_nil, Nat.reduceAdd, Nat.reduceLT, Nat.reduceLeDiff, Nat.reduceEqDiff, Bool.and_false, Bool.and_true, Bool.true_and, Bool.false_and, Bool.false_eq_true, if_false, if_true, ite_true, ite_false, Fin.isValue, Fin.val_zero, Fin.val_one, Fin.val_two, gz0, gz1, gz2, gz3, List.take_succ_cons, List.take_zero, List.drop_succ_cons, List.drop_zero, List.reverse_cons, List.reverse_nil, List.nil_append, List.cons_append, gx_nx, Int32.reduceToInt, Int.reduceToNat, Int.toNat_zero, Int.toNat_one, Int.reduceLT, Int.reduceLE, Int.ofNat_zero, Int.reduceNeg, Int.le_refl, and_self, List.getElem?_cons_zero, List.getElem?_cons_succ, true_and, and_true, Nat.reduceSub, List.replicate, List.append_nil, Nat.reduceLeDiff, Nat.le_add_left, Nat.zero_le, Nat.zero_add, gf4_121, gf4_56, gf4_84, gk_bipush_m2, gk_iconst_0, gk_iconst_1, gk_iconst_m1, gm4_172, gn70, gn98, gr70, gr98, gv98, gi98_0, gi98_1, gi98_4, gi98_5, gi98_8, gi98_11, gi98_13, gi98_14, gi98_15, gi98_16, gi98_17, gi98_18, gi98_19, gi98_20, gi98_23, gi98_26, gi98_27, gi98_30, gi98_31, gi98_32, gi98_35, gi98_36, gi98_37, gi98_40, gi98_41, gi98_42, gi98_45, gi98_48, gi98_51, gi98_52, gl0, gl1, gl2, gl3, gl4, gl5, gl6, gl7, gl8, gl9, gl10, gl11, gl12, gl13, gl14, gl15, gl16, gl17, gl18, gl19, gl20, gl21, gl22, gl23, gl24, gl25, gl26, gl27, gl28, gl29, gl30, gl31, gl32, gl33, gl34, gl35, gl36, gl37, gl38, gl39, gl40, gl41, gl42, gl43, gl44, gl45, gl46, gl47, gl48, gl49, gl50, gl51, gl52, gl53, gl54, gl55, gl56, gl57]
    simp (disch := first | decide | omega) only [gx_w_np, gx_w_p, Int32.reduceToInt, Int.toNat_natCast, if_true, if_false, nI_1, nI_pred, i_nI, ite_true, ite_false, Int.reduceToNat, Nat.reduceEqDiff, Nat.reduceAdd, hm, i_le]
    exact ⟨fun _ => h0 (fun j h => hj j (by omega)), fun q => absurd (by omega) q⟩
  | succ d ih =>
    intro i hi hj
    have ul := up_le (b := bq M) i
    have us : up (bq M) (i + 1) = up (bq M) i + (if bq M i = true then 1 else 0) := rfl
    have ih := ih (i + 1) (by omega)
    refine gx_wp_ok 40 false _ _ _ _ ?_
    simp only [gx_w_np, gx_w_p, ne_eq, not_false_eq_true, gx_wp, gx_step, gx_cnd, gb0, gb1, Classical.not_not, List.getD_cons_zero, List.getD_cons_succ, List.set_cons_zero, List.set_cons_succ, List.length_cons, List.length_nil, Nat.reduceAdd, Nat.reduceLT, Nat.reduceLeDiff, Nat.reduceEqDiff, Bool.and_false, Bool.and_true, Bool.true_and, Bool.false_and, Bool.false_eq_true, if_false, if_true, ite_true, ite_false, Fin.isValue, Fin.val_zero, Fin.val_one, Fin.val_two, gz0, gz1, gz2, gz3, List.take_succ_cons, List.take_zero, List.drop_succ_cons, List.drop_zero, List.reverse_cons, List.reverse_nil, List.nil_append, List.cons_append, gx_nx, Int32.reduceToInt, Int.reduceToNat, Int.toNat_zero, Int.toNat_one, Int.reduceLT, Int.reduceLE, Int.ofNat_zero, Int.reduceNeg, Int.le_refl, and_self, List.getElem?_cons_zero, List.getElem?_cons_succ, true_and, and_true, Nat.reduceSub, List.replicate, List.append_nil, Nat.reduceLeDiff, Nat.le_add_left, Nat.zero_le, Nat.zero_add, gf4_121, gf4_56, gf4_84, gk_bipush_m2, gk_iconst_0, gk_iconst_1, gk_iconst_m1, gm4_172, gn70, gn98, gr70, gr98, gv98, gi98_0, gi98_1, gi98_4, gi98_5, gi98_8, gi98_11, gi98_13, gi98_14, gi98_15, gi98_16, gi98_17, gi98_18, gi98_19, gi98_20, gi98_23, gi98_26, gi98_27, gi98_30, gi98_31, gi98_32, gi98_35, gi98_36, gi98_37, gi98_40, gi98_41, gi98_42, gi98_45, gi98_48, gi98_51, gi98_52, gl0, gl1, gl2, gl3, gl4, gl5, gl6, gl7, gl8, gl9, gl10, gl11, gl12, gl13, gl14, gl15, gl16, gl17, gl18, gl19, gl20, gl21, gl22, gl23, gl24, gl25, gl26, gl27, gl28, gl29, gl30, gl31, gl32, gl33, gl34, gl35, gl36, gl37, gl38, gl39, gl40, gl41, gl42, gl43, gl44, gl45, gl46, gl47, gl48, gl49, gl50, gl51, gl52, gl53, gl54, gl55, gl56, gl57]
    simp (disch := first | decide | omega) only [gx_w_np, gx_w_p, Int32.reduceToInt, Int.toNat_natCast, if_true, if_false, nI_1, nI_pred, i_nI, ite_true, ite_false, Int.reduceToNat, Nat.reduceEqDiff, Nat.reduceAdd, hm, i_le]
    refine ⟨fun q => absurd q (by omega), fun _ => ⟨by omega, fun q => ?_, fun q => ⟨fun q2 => ?_, fun q2 => ?_⟩⟩⟩
    · have := ih (fun j h hb => by
        by_cases z : j = i
        · rw [z] at hb; exact absurd q hb
        · exact hj j (by omega) hb)
      rw [us, if_neg (show ¬ bq M i = true from fun h => (show M 50 i ≠ 0 from of_decide_eq_true h) q)] at this
      exact this
    · have := ih (fun j h hb => by
        by_cases z : j = i
        · rw [z]
          intro e
          exact q2 (i_eq.mpr (by rw [i_nI (by omega)]; exact e))
        · exact hj j (by omega) hb)
      rw [us, if_pos (show bq M i = true from decide_eq_true q)] at this
      exact this
    · refine h1 i (by omega) q ?_
      rw [← q2, i_nI (by omega)]
set_option maxRecDepth 100000 in
set_option maxHeartbeats 4000000 in
theorem pr_barred {X : gx_X} : lw_pair X (gg_I CC RC) 45 98 1 := by
  intro M as hl hI
  obtain ⟨a, rfl⟩ : ∃ a, as = [a] := by
    match as, hl with
    | [a], _ => exact ⟨a, rfl⟩
  obtain ⟨⟨n, m, W, G⟩, hC, hR, hS⟩ := id hI
  have C : ck M n m := ⟨W, hS, hC n m W⟩
  have K := hR n m W G
  have O := gok_C W
  have hm40 := W.2.2.2.1
  show gx_C X 45 [.ref 0, .int a] M _
  have ref : ∀ M1, cf M M1 → ck M1 n m → ∀ Q : Option Value → gx_M → Prop, ((∃ g, FL (dC M n m) g) → ∀ M2, kf M1 M2 → RD M2 (dC M1 n m) → Q (some (.int (-2))) M2) → ((¬ ∃ g, FL (dC M n m) g) → ∀ M2, kf M1 M2 → RD M2 (dC M1 n m) → BR (dC M n m) (fun k => decide (M2 50 k ≠ 0)) → (∀ j, j < m → M2 50 j ≠ 0 → (up (bq M2) j : Int) = a.toInt → Q (some (.int (nI j))) M2) ∧ ((∀ j, j < m → M2 50 j ≠ 0 → (up (bq M2) j : Int) ≠ a.toInt) → Q (some (.int (-1))) M2)) → gx_C X 98 [.ref 34, .int a] M1 Q := by
    intro M1 F1 C1 Q q1 q0
    obtain ⟨G1, eD, K1⟩ := side F1 G K
    refine gx_C_wp 40 ?_
    simp only [gx_w_np, gx_w_p, ne_eq, not_false_eq_true, gx_wp, gx_step, gx_cnd, gb0, gb1, Classical.not_not, List.getD_cons_zero, List.getD_cons_succ, List.set_cons_zero, List.set_cons_succ, List.length_cons, List.length_nil, Nat.reduceAdd, Nat.reduceLT, Nat.reduceLeDiff, Nat.reduceEqDiff, Bool.and_false, Bool.and_true, Bool.true_and, Bool.false_and, Bool.false_eq_true, if_false, if_true, ite_true, ite_false, Fin.isValue, Fin.val_zero, Fin.val_one, Fin.val_two, gz0, gz1, gz2, gz3, List.take_succ_cons, List.take_zero, List.drop_succ_cons, List.drop_zero, List.reverse_cons, List.reverse_nil, List.nil_append, List.cons_append, gx_nx, Int32.reduceToInt, Int.reduceToNat, Int.toNat_zero, Int.toNat_one, Int.reduceLT, Int.reduceLE, Int.ofNat_zero, Int.reduceNeg, Int.le_refl, and_self, List.getElem?_cons_zero, List.getElem?_cons_succ, true_and, and_true, Nat.reduceSub, List.replicate, List.append_nil, Nat.reduceLeDiff, Nat.le_add_left, Nat.zero_le, Nat.zero_add, gf4_121, gf4_56, gf4_84, gk_bipush_m2, gk_iconst_0, gk_iconst_1, gk_iconst_m1, gm4_172, gn70, gn98, gr70, gr98, gv98, gi98_0, gi98_1, gi98_4, gi98_5, gi98_8, gi98_11, gi98_13, gi98_14, gi98_15, gi98_16, gi98_17, gi98_18, gi98_19, gi98_20, gi98_23, gi98_26, gi98_27, gi98_30, gi98_31, gi98_32, gi98_35, gi98_36, gi98_37, gi98_40, gi98_41, gi98_42, gi98_45, gi98_48, gi98_51, gi98_52, gl0, gl1, gl2, gl3, gl4, gl5, gl6, gl7, gl8, gl9, gl10, gl11, gl12, gl13, gl14, gl15, gl16, gl17, gl18, gl19, gl20, gl21, gl22, gl23, gl24, gl25, gl26, gl27, gl28, gl29, gl30, gl31, gl32, gl33, gl34, gl35, gl36, gl37, gl38, gl39, gl40, gl41, gl42, gl43, gl44, gl45, gl46, gl47, gl48, gl49, gl50, gl51, gl52, gl53, gl54, gl55, gl56, gl57]
    refine sr_know2 C1.1 G1 K1 (fun M2 f0 f1 F2 K2 z V0 V1 v0 v1 w0 w1 c2 g2 => ⟨fun q => absurd q z, fun _ => ?_⟩) (fun M2 F2 K2 z no B => ⟨fun _ => ?_, fun q => absurd z q⟩)
    · rw [eD] at V0
      exact q1 ⟨_, V0.1⟩ M2 F2 K2
    · rw [eD] at no B
      obtain ⟨g1, g2⟩ := q0 no M2 F2 K2 B
      rw [← nI_0]
      exact l98 (R_kf F2 G1).2.1 hm40 g1 g2 m 0 (by omega) (fun j h => absurd h (by omega))
  have same : ∀ (b : Nat → Bool) (M2 : gx_M), BR (dC M n m) b → BR (dC M n m) (fun k => decide (M2 50 k ≠ 0)) → (∀ j, j < m → (b j = true ↔ M2 50 j ≠ 0)) ∧ ∀ j, j ≤ m → up b j = up (bq M2) j := by
    intro b M2 B1 B2
    have e : ∀ j, j < m → b j = decide (M2 50 j ≠ 0) := fun j hj => BR_uq (deq_rfl _) B1 B2 m 0 (by show 0 + m = m; omega) j (by omega) hj
    refine ⟨fun j hj => by rw [e j hj, decide_eq_true_iff], fun j hj => ?_⟩
    induction j with
    | zero => rfl
    | succ j ih =>
      show up b j + (if b j = true then 1 else 0) = up (bq M2) j + (if decide (M2 50 j ≠ 0) = true then 1 else 0)
      rw [ih (by omega), e j (by omega)]
  refine s_barred C (fun M1 F1 C1 h => ⟨_, rfl, ?_⟩) (fun M1 b F1 C1 no B h => ⟨_, rfl, ?_⟩) (fun M1 b j F1 C1 no B hj hb hu => ⟨_, rfl, ?_⟩)
  · obtain ⟨G1, eD, K1⟩ := side F1 G K
    exact ref M1 F1 C1 _ (fun _ M2 F2 K2 => ⟨rfl, inv_k C1 G1 F2 K2⟩) (fun q => absurd h q)
  · obtain ⟨G1, eD, K1⟩ := side F1 G K
    refine ref M1 F1 C1 _ (fun q => absurd q no) (fun _ M2 F2 K2 B2 => ⟨fun j hj h5 hu => ?_, fun _ => ⟨rfl, inv_k C1 G1 F2 K2⟩⟩)
    obtain ⟨s1, s2⟩ := same b M2 B B2
    rw [← s2 j (by omega)] at hu
    have h6 : up b (j + 1) = up b j + 1 := by show up b j + (if b j = true then 1 else 0) = _; rw [if_pos ((s1 j hj).mpr h5)]
    have h7 := up_mono (b := b) (i := j + 1) m (by omega)
    exact absurd (show 0 ≤ a.toInt ∧ a.toInt < up b m by omega) h
  · obtain ⟨G1, eD, K1⟩ := side F1 G K
    refine ref M1 F1 C1 _ (fun q => absurd q no) (fun _ M2 F2 K2 B2 => ?_)
    obtain ⟨s1, s2⟩ := same b M2 B B2
    have inj : ∀ i, i < m → M2 50 i ≠ 0 → (up (bq M2) i : Int) = a.toInt → i = j := fun i hi h5 h8 => by
      rw [← s2 i (by omega)] at h8
      have h9 : up b i = up b j := by omega
      have a1 : up b (i + 1) = up b i + 1 := by show up b i + (if b i = true then 1 else 0) = _; rw [if_pos ((s1 i hi).mpr h5)]
      have a2 : up b (j + 1) = up b j + 1 := by show up b j + (if b j = true then 1 else 0) = _; rw [if_pos hb]
      rcases Nat.lt_trichotomy i j with z | z | z
      · have := up_mono (b := b) (i := i + 1) j (by omega)
        omega
      · exact z
      · have := up_mono (b := b) (i := j + 1) i (by omega)
        omega
    refine ⟨fun i hi h5 h8 => ?_, fun h => ?_⟩
    · rw [inj i hi h5 h8]
      exact ⟨rfl, inv_k C1 G1 F2 K2⟩
    · exact absurd (by rw [← s2 j (by omega)]; exact hu) (h j hj ((s1 j hj).mp hb))
theorem l0_eq {D : gD} (O : gok D) {w : Nat} {f g : Nat → Int} (A : FV D w f) (B : FV D w g) : l0 f = l0 g := by
  funext k
  unfold l0
  by_cases hk : k < 40
  · rw [if_pos hk, if_pos hk, (FV_uq O A B).2 k hk]
  · rw [if_neg hk, if_neg hk]
theorem CG_get {M : gx_M} {p q r : Nat} : ∀ (t : List (Int × Nat × (Nat → Nat))) (i k : Nat), CG p q r M i t → k < t.length → ∃ x, t[k]? = some x ∧ (M p (i + k)).toInt = x.1 ∧ M q (i + k) = nI x.2.1 ∧ x.2.1 ≤ 10 ∧ ∀ j, j < x.2.1 → M r (10 * (i + k) + j) = nI (x.2.2 j)
  | [], _, _, _, h => absurd h (by simp)
  | x :: t, i, 0, h, _ => ⟨x, rfl, h.1, h.2.1, h.2.2.1, h.2.2.2.1⟩
  | x :: t, i, k + 1, h, hk => by
    obtain ⟨y, a, b, c, d, e⟩ := CG_get t (i + 1) k h.2.2.2.2 (by simp at hk; omega)
    rw [show i + 1 + k = i + (k + 1) by omega] at b c e
    exact ⟨y, a, b, c, d, e⟩
