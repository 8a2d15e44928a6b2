/-! The reference's first flow of a way. -/
def pF (D : gD) (V : Int) (F : Nat → Int) (k : Nat) : Prop := (∃ g, FL D g ∧ g 60 = V ∧ ∀ j, j < k → g j = F j) ∧ ∀ j, j < k → ∀ g, FL D g → g 60 = V → (∀ i, i < j → g i = F i) → F j ≤ g j
def sG (M1 M : gx_M) (m w k : Nat) (F : Nat → Int) : Prop :=
  (∀ p j, p ≠ 42 → p ≠ 43 → p ≠ 45 → p ≠ 46 → p ≠ 47 → p ≠ 49 → ¬ (p = 34 ∧ j = 16) → M p j = M1 p j) ∧
  (∀ j, ¬ (40 * w ≤ j ∧ j < 40 * w + 40) → M 49 j = M1 49 j) ∧
  (∀ j, k < j → j < m → M 42 j = M1 39 j ∧ M 43 j = M1 40 j) ∧
  (∀ j, j < k → M1 41 j ≠ 0 → (M 42 j).toInt = F j ∧ (M 43 j).toInt = F j ∧ (M 49 (40 * w + j)).toInt = F j)
theorem sG_4 {M1 M M2 : gx_M} {m w k : Nat} {F : Nat → Int} (G : sG M1 M m w k F) (H : fr4 M M2) : sG M1 M2 m w k F := by
  obtain ⟨g1, g2, g3, g4⟩ := G
  refine ⟨fun p j a b c d e f h => by rw [H p j c d e h]; exact g1 p j a b c d e f h, fun j hj => ?_, fun j a b => ?_, fun j a b => ?_⟩
  · rw [H 49 j (by decide) (by decide) (by decide) (by omega)]; exact g2 j hj
  · rw [H 42 j (by decide) (by decide) (by decide) (by omega), H 43 j (by decide) (by decide) (by decide) (by omega)]; exact g3 j a b
  · rw [H 42 j (by decide) (by decide) (by decide) (by omega), H 43 j (by decide) (by decide) (by decide) (by omega), H 49 _ (by decide) (by decide) (by decide) (by omega)]; exact g4 j a b
/-- what isThere says while arc k is sought -/
theorem sG_SP {M1 M : gx_M} {n m w k : Nat} {F : Nat → Int} {V : Int} {t : Int32} (O : gok (dS M1 n m)) (h44 : ∀ v, v < n → M1 44 v = M1 35 v) (G : sG M1 M m w k F) (hk : k < m) (hal : M1 41 k ≠ 0) (h42 : M 42 k = M1 39 k) (PF : pF (dS M1 n m) V F k) (ht1 : (M1 39 k).toInt ≤ t.toInt) (ht2 : t.toInt ≤ (M1 40 k).toInt) (hV : 0 ≤ V) :
    gok (dR (gx_w M 43 k t) n m) ∧ ∀ g, SP (dR (gx_w M 43 k t) n m) V V g ↔ FL (dS M1 n m) g ∧ g 60 = V ∧ (∀ j, j < k → g j = F j) ∧ g k ≤ t.toInt := by
  obtain ⟨g1, g2, g3, g4⟩ := G
  have hm40 : m ≤ 40 := O.2.1
  have o : ∀ p j, p ≠ 42 → p ≠ 43 → p ≠ 45 → p ≠ 46 → p ≠ 47 → p ≠ 49 → p ≠ 34 → (gx_w M 43 k t) p j = M1 p j := fun p j a b c d e f h => by
    rw [gx_w_np b]; exact g1 p j a b c d e f (fun q => h q.1)
  have Q : deq (dR (gx_w M 43 k t) n m) (dXY (dS M1 n m) ((gx_w M 43 k t) 42) ((gx_w M 43 k t) 43)) := by
    refine ⟨rfl, rfl, fun v hv => ⟨?_, ?_⟩, fun j hj => ⟨?_, fun _ => ⟨?_, ?_, rfl, rfl⟩⟩⟩
    · show (gx_w M 43 k t) 44 v = M1 35 v
      rw [o 44 v (by decide) (by decide) (by decide) (by decide) (by decide) (by decide) (by decide)]; exact h44 v hv
    · exact o 36 v (by decide) (by decide) (by decide) (by decide) (by decide) (by decide) (by decide)
    · show decide ((gx_w M 43 k t) 41 j ≠ 0) = decide (M1 41 j ≠ 0)
      rw [o 41 j (by decide) (by decide) (by decide) (by decide) (by decide) (by decide) (by decide)]
    · exact o 37 j (by decide) (by decide) (by decide) (by decide) (by decide) (by decide) (by decide)
    · exact o 38 j (by decide) (by decide) (by decide) (by decide) (by decide) (by decide) (by decide)
  obtain ⟨⟨g0, G1, G2, G3⟩, -⟩ := id PF
  have b42 : (gx_w M 43 k t) 42 k = M1 39 k := by rw [gx_w_np (by decide)]; exact h42
  have b43 : (gx_w M 43 k t) 43 k = t := by rw [gx_w_p, if_pos rfl]
  have lo : ∀ j, j < k → M1 41 j ≠ 0 → ((gx_w M 43 k t) 42 j).toInt = F j ∧ ((gx_w M 43 k t) 43 j).toInt = F j := fun j h a => by
    rw [gx_w_np (by decide), gx_w_p, if_neg (by omega)]
    exact ⟨(g4 j h a).1, (g4 j h a).2.1⟩
  have hi : ∀ j, k < j → j < m → (gx_w M 43 k t) 42 j = M1 39 j ∧ (gx_w M 43 k t) 43 j = M1 40 j := fun j h a => by
    rw [gx_w_np (by decide), gx_w_p, if_neg (by omega)]
    exact g3 j h a
  have gb : ∀ j, j < m → M1 41 j ≠ 0 → (M1 39 j).toInt ≤ g0 j ∧ g0 j ≤ (M1 40 j).toInt := fun j hj a => by
    have hp : dE (dS M1 n m) j = true := (dE1 (by omega)).mpr ⟨hj, decide_eq_true a⟩
    have := G1.2 j (by omega)
    unfold dL dH at this
    rw [if_pos hp, if_pos hp, if_pos (by omega), if_pos (by omega)] at this
    exact this
  have all : ∀ j, j < m → M1 41 j ≠ 0 → (M1 39 j).toInt ≤ ((gx_w M 43 k t) 42 j).toInt ∧ ((gx_w M 43 k t) 43 j).toInt ≤ (M1 40 j).toInt ∧ ((gx_w M 43 k t) 42 j).toInt ≤ ((gx_w M 43 k t) 43 j).toInt := fun j hj a => by
    have h1 := gb j hj a
    have h2 := O.2.2.2 j hj (decide_eq_true a)
    have h3 : (M1 39 j).toInt ≤ (M1 40 j).toInt := h2.2.2.2.2.2.2.1
    by_cases z : j < k
    · have h4 := lo j z a
      have h5 := G3 j z
      rw [h4.1, h4.2]; omega
    · by_cases z2 : j = k
      · rw [z2, b42, b43]; omega
      · rw [(hi j (by omega) hj).1, (hi j (by omega) hj).2]; omega
  have OX : gok (dXY (dS M1 n m) ((gx_w M 43 k t) 42) ((gx_w M 43 k t) 43)) := by
    refine ⟨O.1, O.2.1, O.2.2.1, fun j hj a => ?_⟩
    have h2 := O.2.2.2 j hj a
    have h1 := all j hj (of_decide_eq_true a)
    obtain ⟨c1, c2, c3, c4, c5, c6, c7, c8⟩ := h2
    have c6 : 0 ≤ (M1 39 j).toInt := c6
    have c8 : (M1 40 j).toInt ≤ 1001 := c8
    refine ⟨c1, c2, c3, c4, c5, ?_, h1.2.2, ?_⟩
    · show 0 ≤ ((gx_w M 43 k t) 42 j).toInt; omega
    · show ((gx_w M 43 k t) 43 j).toInt ≤ 1001; omega
  refine ⟨gok_eq Q OX, fun g => ?_⟩
  have fx := FL_xy (D := dS M1 n m) (x := (gx_w M 43 k t) 42) (y := (gx_w M 43 k t) 43) (g := g) (fun j hj hp => by
    have := (dE1 hj).mp hp
    have h1 := all j this.1 (of_decide_eq_true this.2)
    exact ⟨h1.1, h1.2.1⟩)
  rw [deq_SP Q, SP_iff OX hV, fx]
  constructor
  · rintro ⟨⟨a1, a2⟩, a3, a4⟩
    refine ⟨a1, by omega, fun j hj => ?_, ?_⟩
    · by_cases q : M1 41 j = 0
      · have hp : dE (dS M1 n m) j = false := by
          cases w : dE (dS M1 n m) j with
          | false => rfl
          | true => exact absurd q (of_decide_eq_true ((dE1 (by omega)).mp w).2)
        have h5 := G3 j hj
        rw [(FL_nn O a1 j (by omega)).2.1 hp, ← h5, (FL_nn O G1 j (by omega)).2.1 hp]
      · have hp : dE (dS M1 n m) j = true := (dE1 (by omega)).mpr ⟨show j < m by omega, decide_eq_true q⟩
        have h6 := a2 j (by omega) hp
        have h7 := lo j hj q
        omega
    · have hp : dE (dS M1 n m) k = true := (dE1 (by omega)).mpr ⟨hk, decide_eq_true hal⟩
      have h6 := a2 k (by omega) hp
      rw [b43] at h6
      exact h6.2
  · rintro ⟨a1, a2, a3, a4⟩
    refine ⟨⟨a1, fun j hj hp => ?_⟩, by omega, by omega⟩
    have h8 := (dE1 hj).mp hp
    have h9 : M1 41 j ≠ 0 := of_decide_eq_true h8.2
    have hb := a1.2 j (by omega)
    unfold dL dH at hb
    rw [if_pos hp, if_pos hp, if_pos hj, if_pos hj] at hb
    have hb : (M1 39 j).toInt ≤ g j ∧ g j ≤ (M1 40 j).toInt := hb
    by_cases z : j < k
    · have h4 := lo j z h9
      have h5 := a3 j z
      rw [h4.1, h4.2]; omega
    · by_cases z2 : j = k
      · rw [z2, b42, b43]
        rw [z2] at hb
        exact ⟨hb.1, a4⟩
      · rw [(hi j (by omega) h8.1).1, (hi j (by omega) h8.1).2]; exact hb
set_option maxRecDepth 100000 in
set_option maxHeartbeats 4000000 in
theorem l68i {X : gx_X} {M1 : gx_M} {n m w k : Nat} {F : Nat → Int} {V : Int} {P : Option Value → gx_M → Prop} (hw : w = 0 ∨ w = 1) (hn : M1 34 0 = nI n) (hm : M1 34 3 = nI m) (O : gok (dS M1 n m)) (h44 : ∀ v, v < n → M1 44 v = M1 35 v) (hV : (M1 48 w).toInt = V) (hV0 : 0 ≤ V) (hVF : V ≤ 1000000) (hk : k < m) (hal : M1 41 k ≠ 0) (PF : pF (dS M1 n m) V F k)
    (hP : ∀ (M : gx_M) (F2 : Nat → Int) (v3 v4 v5 : Value), sG M1 M m w (k + 1) F2 → (k + 1 < m → M 42 (k + 1) = M1 39 (k + 1) ∧ M 43 (k + 1) = M1 40 (k + 1)) → pF (dS M1 n m) V F2 (k + 1) → gx_OK X 68 27 [.ref 34, .int (nI w), .int (nI (k + 1)), v3, v4, v5] [] M P) :
    ∀ (d : Nat) (a b : Int32) (M : gx_M) (v : Value), b.toInt - a.toInt < d → (M1 39 k).toInt - 1 ≤ a.toInt → a.toInt < b.toInt → b.toInt ≤ (M1 40 k).toInt → sG M1 M m w k F → M 42 k = M1 39 k → (∃ g, FL (dS M1 n m) g ∧ g 60 = V ∧ (∀ j, j < k → g j = F j) ∧ g k ≤ b.toInt) → (∀ g, FL (dS M1 n m) g → g 60 = V → (∀ j, j < k → g j = F j) → a.toInt < g k) → gx_OK X 68 64 [.ref 34, .int (nI w), .int (nI k), .int a, .int b, v] [] M P := by
  have hm40 : m ≤ 40 := O.2.1
  have gk := O.2.2.2 k hk (decide_eq_true hal)
  have gk6 : 0 ≤ (M1 39 k).toInt := gk.2.2.2.2.2.1
  have gk8 : (M1 40 k).toInt ≤ 1001 := gk.2.2.2.2.2.2.2
  intro d
  induction d with
  | zero => intro a b M v h1 h2 h3; omega
  | succ d ih =>
    intro a b M v h1 h2 h3 h4 G h42 E N
    have e : (b - a).toInt = b.toInt - a.toInt := i_sub (by omega) (by omega)
    have e40 : (40 : Int32) * nI w + nI k = nI (40 * w + k) := by rw [show (40 : Int32) = nI 40 by decide, pk_mul, nI_add]
    refine gx_wp_ok 60 false _ _ _ _ ?_
    simp only [gx_w_np, gx_w_p, ne_eq, not_false_eq_true, gx_wp, gx_step, gx_cnd, gb0, gb1, Classical.not_not, List.getD_cons_zero, List.getD_cons_succ, List.set_cons_zero, List.set_cons_succ, List.length_cons, List.length_nil, Nat.reduceAdd, Nat.reduceLT, Nat.reduceLeDiff, Nat.reduceEqDiff, Bool.and_false, Bool.and_true, Bool.true_and, Bool.false_and, Bool.false_eq_true, if_false, if_true, ite_true, ite_false, Fin.isValue, Fin.val_zero, Fin.val_one, Fin.val_two, gz0, gz1, gz2, gz3, List.take_succ_cons, List.take_zero, List.drop_succ_cons, List.drop_zero, List.reverse_cons, List.reverse_nil, List.nil_append, List.cons_append, gx_nx, Int32.reduceToInt, Int.reduceToNat, Int.toNat_zero, Int.toNat_one, Int.reduceLT, Int.reduceLE, Int.ofNat_zero, Int.reduceNeg, Int.le_refl, and_self, List.getElem?_cons_zero, List.getElem?_cons_succ, true_and, and_true, Nat.reduceSub, List.replicate, List.append_nil, Nat.reduceLeDiff, Nat.le_add_left, Nat.zero_le, Nat.zero_add, gf4_28, gf4_32, gf4_35, gf4_50, gf4_53, gf4_84, gk_bipush_40, gk_iconst_0, gk_iconst_1, gk_iconst_2, gm4_103, gm4_107, gm4_110, gm4_114, gn64, gn65, gn66, gn67, gn68, gr64, gr65, gr66, gr67, gr68, gv68, gi68_0, gi68_1, gi68_4, gi68_5, gi68_8, gi68_9, gi68_10, gi68_13, gi68_14, gi68_17, gi68_20, gi68_21, gi68_24, gi68_25, gi68_26, gi68_27, gi68_28, gi68_29, gi68_32, gi68_35, gi68_36, gi68_39, gi68_40, gi68_41, gi68_44, gi68_47, gi68_48, gi68_51, gi68_52, gi68_53, gi68_54, gi68_55, gi68_56, gi68_57, gi68_60, gi68_61, gi68_62, gi68_64, gi68_66, gi68_67, gi68_68, gi68_69, gi68_72, gi68_73, gi68_75, gi68_76, gi68_77, gi68_78, gi68_80, gi68_81, gi68_84, gi68_85, gi68_87, gi68_88, gi68_89, gi68_90, gi68_93, gi68_94, gi68_95, gi68_96, gi68_99, gi68_100, gi68_101, gi68_104, gi68_107, gi68_109, gi68_111, gi68_114, gi68_116, gi68_117, gi68_120, gi68_121, gi68_124, gi68_125, gi68_127, gi68_128, gi68_129, gi68_132, gi68_133, gi68_135, gi68_136, gi68_137, gi68_140, gi68_142, gi68_143, gi68_144, gi68_145, gi68_146, gi68_148, gi68_149, gi68_152, gi68_155, gl0, gl1, gl2, gl3, gl4, gl5, gl6, gl7, gl8, gl9, gl10, gl11, gl12, gl13, gl14, gl15, gl16, gl17, gl18, gl19, gl20, gl21, gl22, gl23, gl24, gl25, gl26, gl27, gl28, gl29, gl30, gl31, gl32, gl33, gl34, gl35, gl36, gl37, gl38, gl39, gl40, gl41, gl42, gl43, gl44, gl45, gl46, gl47, gl48, gl49, gl50, gl51, gl52, gl53, gl54, gl55, gl56, gl57]
    rw [e40]
    simp (disch := first | decide | omega) only [gx_w_np, gx_w_p, Int32.reduceToInt, Int.toNat_natCast, if_true, if_false, nI_1, nI_pred, i_nI, ite_true, ite_false, Int.reduceToNat, Nat.reduceEqDiff, Nat.reduceAdd, i_le, e]
    refine ⟨fun q => ⟨by omega, by omega, by omega, ?_⟩, fun q => ⟨by decide, by omega, by omega, by omega, ?_⟩⟩
    · obtain ⟨g1, g2, g3, g4⟩ := id G
      refine hP _ (fun j => if j = k then b.toInt else F j) _ _ _ ⟨fun p j c1 c2 c3 c4 c5 c6 c7 => ?_, fun j hj => ?_, fun j c1 c2 => ?_, fun j c1 c2 => ?_⟩ (fun hlt => ?_) ⟨?_, fun j hj g G1 G2 G3 => ?_⟩
      · rw [gx_w_np c6, gx_w_np c2, gx_w_np c1]; exact g1 p j c1 c2 c3 c4 c5 c6 c7
      · rw [gx_w_p, if_neg (by omega), gx_w_np (by decide), gx_w_np (by decide)]; exact g2 j hj
      · simp (disch := first | decide | omega) only [gx_w_np, gx_w_p, Int32.reduceToInt, Int.toNat_natCast, if_true, if_false, nI_1, nI_pred, i_nI, ite_true, ite_false, Int.reduceToNat, Nat.reduceEqDiff, Nat.reduceAdd]
        rw [if_neg (by omega), if_neg (by omega)]
        exact g3 j (by omega) c2
      · simp (disch := first | decide | omega) only [gx_w_np, gx_w_p, Int32.reduceToInt, Int.toNat_natCast, if_true, if_false, nI_1, nI_pred, i_nI, ite_true, ite_false, Int.reduceToNat, Nat.reduceEqDiff, Nat.reduceAdd]
        by_cases z : j = k
        · rw [if_pos z, if_pos z, if_pos z, if_pos (by omega)]; exact ⟨rfl, rfl, rfl⟩
        · rw [if_neg z, if_neg z, if_neg z, if_neg (by omega)]; exact g4 j (by omega) c2
      · simp (disch := first | decide | omega) only [gx_w_np, gx_w_p, Int32.reduceToInt, Int.toNat_natCast, if_true, if_false, nI_1, nI_pred, i_nI, ite_true, ite_false, Int.reduceToNat, Nat.reduceEqDiff, Nat.reduceAdd]
        rw [if_neg (by omega), if_neg (by omega)]
        exact g3 (k + 1) (by omega) hlt
      · obtain ⟨g, c1, c2, c3, c4⟩ := E
        refine ⟨g, c1, c2, fun j hj => ?_⟩
        show g j = if j = k then b.toInt else F j
        by_cases z : j = k
        · have := N g c1 c2 c3
          rw [if_pos z, z]; omega
        · rw [if_neg z]; exact c3 j (by omega)
      · show (if j = k then b.toInt else F j) ≤ g j
        have G4 : ∀ i, i < j → i < k → g i = F i := fun i a1 a2 => by
          have := G3 i a1
          simp only [if_neg (show ¬ i = k by omega)] at this; exact this
        by_cases z : j = k
        · rw [if_pos z, z]
          have := N g G1 G2 (fun i hi => G4 i (by omega) hi)
          omega
        · rw [if_neg z]
          exact PF.2 j (by omega) g G1 G2 (fun i hi => G4 i hi (by omega))
    · have eh : ((a + b) / 2).toInt = (a.toInt + b.toInt) / 2 := i_half (by omega) (by omega)
      obtain ⟨OK, SPk⟩ := sG_SP (t := (a + b) / 2) O h44 G hk hal h42 PF (by rw [eh]; omega) (by rw [eh]; omega) hV0
      have o34 : ∀ j, j ≠ 16 → M 34 j = M1 34 j := fun j hj => G.1 34 j (by decide) (by decide) (by decide) (by decide) (by decide) (by decide) (by omega)
      have o48 : M 48 w = M1 48 w := G.1 48 w (by decide) (by decide) (by decide) (by decide) (by decide) (by decide) (by omega)
      rw [o48]
      have G' : sG M1 (gx_w M 43 k ((a + b) / 2)) m w k F := by
        obtain ⟨g1, g2, g3, g4⟩ := G
        refine ⟨fun p j c1 c2 c3 c4 c5 c6 c7 => by rw [gx_w_np c2]; exact g1 p j c1 c2 c3 c4 c5 c6 c7, fun j hj => by rw [gx_w_np (by decide)]; exact g2 j hj, fun j c1 c2 => ?_, fun j c1 c2 => ?_⟩
        · rw [gx_w_np (by decide), gx_w_p, if_neg (by omega)]; exact g3 j c1 c2
        · rw [gx_w_np (by decide), gx_w_p, if_neg (by omega), gx_w_np (by decide)]; exact g4 j c1 c2
      refine sr_isThere (n := n) (m := m) (by rw [gx_w_np (by decide), o34 0 (by decide)]; exact hn) (by rw [gx_w_np (by decide), o34 3 (by decide)]; exact hm) OK (by omega) (Int.le_refl _) (by omega) (fun M2 F2 S => ?_) (fun M2 F2 S => ?_)
      · intro z hz
        cases hz
        rw [hV] at S
        refine ⟨fun q => absurd q (by decide), fun _ => ih a _ M2 _ (by rw [eh]; omega) h2 (by rw [eh]; omega) (by rw [eh]; omega) (sG_4 G' F2) ?_ ?_ N⟩
        · rw [F2 42 k (by decide) (by decide) (by decide) (by omega), gx_w_np (by decide)]; exact h42
        · obtain ⟨g, hg⟩ := S
          exact ⟨g, (SPk g).mp hg⟩
      · intro z hz
        cases hz
        rw [hV] at S
        refine ⟨fun _ => ih _ b M2 _ (by rw [eh]; omega) (by rw [eh]; omega) (by rw [eh]; omega) h4 (sG_4 G' F2) ?_ E (fun g c1 c2 c3 => ?_), fun q => absurd rfl q⟩
        · rw [F2 42 k (by decide) (by decide) (by decide) (by omega), gx_w_np (by decide)]; exact h42
        · by_cases z : ((a + b) / 2).toInt < g k
          · exact z
          · exact absurd ⟨g, (SPk g).mpr ⟨c1, c2, c3, by omega⟩⟩ S
set_option maxRecDepth 100000 in
set_option maxHeartbeats 4000000 in
theorem l68 {X : gx_X} {M1 : gx_M} {n m w : Nat} {V : Int} {P : Option Value → gx_M → Prop} (hw : w = 0 ∨ w = 1) (hn : M1 34 0 = nI n) (hm : M1 34 3 = nI m) (O : gok (dS M1 n m)) (h44 : ∀ v, v < n → M1 44 v = M1 35 v) (hV : (M1 48 w).toInt = V) (hV0 : 0 ≤ V) (hVF : V ≤ 1000000)
    (hP : ∀ (M : gx_M) (F : Nat → Int), sG M1 M m w m F → pF (dS M1 n m) V F m → P none M) :
    ∀ (d k : Nat) (M : gx_M) (F : Nat → Int) (v3 v4 v5 : Value), k + d = m → sG M1 M m w k F → (k < m → M 42 k = M1 39 k ∧ M 43 k = M1 40 k) → pF (dS M1 n m) V F k → gx_OK X 68 27 [.ref 34, .int (nI w), .int (nI k), v3, v4, v5] [] M P := by
  have hm40 : m ≤ 40 := O.2.1
  intro d
  induction d with
  | zero =>
    intro k M F v3 v4 v5 hd G h42 PF
    have e3 : M 34 3 = nI m := by rw [G.1 34 3 (by decide) (by decide) (by decide) (by decide) (by decide) (by decide) (by omega)]; exact hm
    have ek : k = m := by omega
    subst ek
    refine gx_wp_ok 60 false _ _ _ _ ?_
    simp only [gx_w_np, gx_w_p, ne_eq, not_false_eq_true, gx_wp, gx_step, gx_cnd, gb0, gb1, Classical.not_not, List.getD_cons_zero, List.getD_cons_succ, List.set_cons_zero, List.set_cons_succ, List.length_cons, List.length_nil, Nat.reduceAdd, Nat.reduceLT, Nat.reduceLeDiff, Nat.reduceEqDiff, Bool.and_false, Bool.and_true, Bool.true_and, Bool.false_and, Bool.false_eq_true, if_false, if_true, ite_true, ite_false, Fin.isValue, Fin.val_zero, Fin.val_one, Fin.val_two, gz0, gz1, gz2, gz3, List.take_succ_cons, List.take_zero, List.drop_succ_cons, List.drop_zero, List.reverse_cons, List.reverse_nil, List.nil_append, List.cons_append, gx_nx, Int32.reduceToInt, Int.reduceToNat, Int.toNat_zero, Int.toNat_one, Int.reduceLT, Int.reduceLE, Int.ofNat_zero, Int.reduceNeg, Int.le_refl, and_self, List.getElem?_cons_zero, List.getElem?_cons_succ, true_and, and_true, Nat.reduceSub, List.replicate, List.append_nil, Nat.reduceLeDiff, Nat.le_add_left, Nat.zero_le, Nat.zero_add, gf4_28, gf4_32, gf4_35, gf4_50, gf4_53, gf4_84, gk_bipush_40, gk_iconst_0, gk_iconst_1, gk_iconst_2, gm4_103, gm4_107, gm4_110, gm4_114, gn64, gn65, gn66, gn67, gn68, gr64, gr65, gr66, gr67, gr68, gv68, gi68_0, gi68_1, gi68_4, gi68_5, gi68_8, gi68_9, gi68_10, gi68_13, gi68_14, gi68_17, gi68_20, gi68_21, gi68_24, gi68_25, gi68_26, gi68_27, gi68_28, gi68_29, gi68_32, gi68_35, gi68_36, gi68_39, gi68_40, gi68_41, gi68_44, gi68_47, gi68_48, gi68_51, gi68_52, gi68_53, gi68_54, gi68_55, gi68_56, gi68_57, gi68_60, gi68_61, gi68_62, gi68_64, gi68_66, gi68_67, gi68_68, gi68_69, gi68_72, gi68_73, gi68_75, gi68_76, gi68_77, gi68_78, gi68_80, gi68_81, gi68_84, gi68_85, gi68_87, gi68_88, gi68_89, gi68_90, gi68_93, gi68_94, gi68_95, gi68_96, gi68_99, gi68_100, gi68_101, gi68_104, gi68_107, gi68_109, gi68_111, gi68_114, gi68_116, gi68_117, gi68_120, gi68_121, gi68_124, gi68_125, gi68_127, gi68_128, gi68_129, gi68_132, gi68_133, gi68_135, gi68_136, gi68_137, gi68_140, gi68_142, gi68_143, gi68_144, gi68_145, gi68_146, gi68_148, gi68_149, gi68_152, gi68_155, gl0, gl1, gl2, gl3, gl4, gl5, gl6, gl7, gl8, gl9, gl10, gl11, gl12, gl13, gl14, gl15, gl16, gl17, gl18, gl19, gl20, gl21, gl22, gl23, gl24, gl25, gl26, gl27, gl28, gl29, gl30, gl31, gl32, gl33, gl34, gl35, gl36, gl37, gl38, gl39, gl40, gl41, gl42, gl43, gl44, gl45, gl46, gl47, gl48, gl49, gl50, gl51, gl52, gl53, gl54, gl55, gl56, gl57]
    simp (disch := first | decide | omega) only [gx_w_np, gx_w_p, Int32.reduceToInt, Int.toNat_natCast, if_true, if_false, nI_1, nI_pred, i_nI, ite_true, ite_false, Int.reduceToNat, Nat.reduceEqDiff, Nat.reduceAdd, e3, i_le]
    exact ⟨fun _ => hP M F G PF, fun q => absurd (by omega) q⟩
  | succ d ih =>
    intro k M F v3 v4 v5 hd G h42 PF
    have e3 : M 34 3 = nI m := by rw [G.1 34 3 (by decide) (by decide) (by decide) (by decide) (by decide) (by decide) (by omega)]; exact hm
    have e41 : M 41 k = M1 41 k := G.1 41 k (by decide) (by decide) (by decide) (by decide) (by decide) (by decide) (by omega)
    obtain ⟨c42, c43⟩ := h42 (by omega)
    refine gx_wp_ok 60 false _ _ _ _ ?_
    simp only [gx_w_np, gx_w_p, ne_eq, not_false_eq_true, gx_wp, gx_step, gx_cnd, gb0, gb1, Classical.not_not, List.getD_cons_zero, List.getD_cons_succ, List.set_cons_zero, List.set_cons_succ, List.length_cons, List.length_nil, Nat.reduceAdd, Nat.reduceLT, Nat.reduceLeDiff, Nat.reduceEqDiff, Bool.and_false, Bool.and_true, Bool.true_and, Bool.false_and, Bool.false_eq_true, if_false, if_true, ite_true, ite_false, Fin.isValue, Fin.val_zero, Fin.val_one, Fin.val_two, gz0, gz1, gz2, gz3, List.take_succ_cons, List.take_zero, List.drop_succ_cons, List.drop_zero, List.reverse_cons, List.reverse_nil, List.nil_append, List.cons_append, gx_nx, Int32.reduceToInt, Int.reduceToNat, Int.toNat_zero, Int.toNat_one, Int.reduceLT, Int.reduceLE, Int.ofNat_zero, Int.reduceNeg, Int.le_refl, and_self, List.getElem?_cons_zero, List.getElem?_cons_succ, true_and, and_true, Nat.reduceSub, List.replicate, List.append_nil, Nat.reduceLeDiff, Nat.le_add_left, Nat.zero_le, Nat.zero_add, gf4_28, gf4_32, gf4_35, gf4_50, gf4_53, gf4_84, gk_bipush_40, gk_iconst_0, gk_iconst_1, gk_iconst_2, gm4_103, gm4_107, gm4_110, gm4_114, gn64, gn65, gn66, gn67, gn68, gr64, gr65, gr66, gr67, gr68, gv68, gi68_0, gi68_1, gi68_4, gi68_5, gi68_8, gi68_9, gi68_10, gi68_13, gi68_14, gi68_17, gi68_20, gi68_21, gi68_24, gi68_25, gi68_26, gi68_27, gi68_28, gi68_29, gi68_32, gi68_35, gi68_36, gi68_39, gi68_40, gi68_41, gi68_44, gi68_47, gi68_48, gi68_51, gi68_52, gi68_53, gi68_54, gi68_55, gi68_56, gi68_57, gi68_60, gi68_61, gi68_62, gi68_64, gi68_66, gi68_67, gi68_68, gi68_69, gi68_72, gi68_73, gi68_75, gi68_76, gi68_77, gi68_78, gi68_80, gi68_81, gi68_84, gi68_85, gi68_87, gi68_88, gi68_89, gi68_90, gi68_93, gi68_94, gi68_95, gi68_96, gi68_99, gi68_100, gi68_101, gi68_104, gi68_107, gi68_109, gi68_111, gi68_114, gi68_116, gi68_117, gi68_120, gi68_121, gi68_124, gi68_125, gi68_127, gi68_128, gi68_129, gi68_132, gi68_133, gi68_135, gi68_136, gi68_137, gi68_140, gi68_142, gi68_143, gi68_144, gi68_145, gi68_146, gi68_148, gi68_149, gi68_152, gi68_155, gl0, gl1, gl2, gl3, gl4, gl5, gl6, gl7, gl8, gl9, gl10, gl11, gl12, gl13, gl14, gl15, gl16, gl17, gl18, gl19, gl20, gl21, gl22, gl23, gl24, gl25, gl26, gl27, gl28, gl29, gl30, gl31, gl32, gl33, gl34, gl35, gl36, gl37, gl38, gl39, gl40, gl41, gl42, gl43, gl44, gl45, gl46, gl47, gl48, gl49, gl50, gl51, gl52, gl53, gl54, gl55, gl56, gl57]
    simp (disch := first | decide | omega) only [gx_w_np, gx_w_p, Int32.reduceToInt, Int.toNat_natCast, if_true, if_false, nI_1, nI_pred, i_nI, ite_true, ite_false, Int.reduceToNat, Nat.reduceEqDiff, Nat.reduceAdd, e3, e41, c42, c43, i_le]
    refine ⟨fun q => absurd q (by omega), fun _ => ⟨by omega, fun q => ⟨by omega, by omega, ?_⟩, fun q => ?_⟩⟩
    · have gk := O.2.2.2 k (show k < m by omega) (decide_eq_true q)
      have gk6 : 0 ≤ (M1 39 k).toInt := gk.2.2.2.2.2.1
      have gk7 : (M1 39 k).toInt ≤ (M1 40 k).toInt := gk.2.2.2.2.2.2.1
      have gk8 : (M1 40 k).toInt ≤ 1001 := gk.2.2.2.2.2.2.2
      have z1 : (1 : Int32).toInt = 1 := by decide
      have e1 : (M1 39 k - 1).toInt = (M1 39 k).toInt - 1 := by rw [i_sub (by rw [z1]; omega) (by rw [z1]; omega), z1]
      have hp : dE (dS M1 n m) k = true := (dE1 (by omega)).mpr ⟨show k < m by omega, decide_eq_true q⟩
      have bd : ∀ g, FL (dS M1 n m) g → (M1 39 k).toInt ≤ g k ∧ g k ≤ (M1 40 k).toInt := fun g hg => by
        have := hg.2 k (by omega)
        unfold dL dH at this
        rw [if_pos hp, if_pos hp, if_pos (by omega), if_pos (by omega)] at this
        exact this
      refine l68i hw hn hm O h44 hV hV0 hVF (by omega) q PF (fun M2 F2 v3 v4 v5 G2 h2 PF2 => ih (k + 1) M2 F2 v3 v4 v5 (by omega) G2 h2 PF2) 1003 _ _ M _ (by rw [e1]; omega) (by rw [e1]; omega) (by rw [e1]; omega) (Int.le_refl _) G c42 ?_ (fun g c1 c2 c3 => ?_)
      · obtain ⟨⟨g, c1, c2, c3⟩, -⟩ := PF
        exact ⟨g, c1, c2, c3, (bd g c1).2⟩
      · have := bd g c1
        rw [e1]; omega
    · have hp : dE (dS M1 n m) k = false := by
        cases w : dE (dS M1 n m) k with
        | false => rfl
        | true => exact absurd q (of_decide_eq_true ((dE1 (by omega)).mp w).2)
      obtain ⟨g1, g2, g3, g4⟩ := G
      refine ih (k + 1) M (fun j => if j = k then 0 else F j) _ _ _ (by omega) ⟨g1, g2, fun j a b => g3 j (by omega) b, fun j a b => ?_⟩ (fun hlt => g3 (k + 1) (by omega) hlt) ⟨?_, fun j hj g G1 G2 G3 => ?_⟩
      · by_cases z : j = k
        · rw [z] at b; exact absurd q b
        · simp only [if_neg z]; exact g4 j (by omega) b
      · obtain ⟨⟨g, c1, c2, c3⟩, -⟩ := PF
        refine ⟨g, c1, c2, fun j hj => ?_⟩
        show g j = if j = k then 0 else F j
        by_cases z : j = k
        · rw [if_pos z, z]; exact (FL_nn O c1 k (by omega)).2.1 hp
        · rw [if_neg z]; exact c3 j (by omega)
      · show (if j = k then 0 else F j) ≤ g j
        by_cases z : j = k
        · rw [if_pos z, z]; exact (FL_nn O G1 k (by omega)).1
        · rw [if_neg z]
          refine PF.2 j (by omega) g G1 G2 (fun i hi => ?_)
          have := G3 i hi
          simp only [if_neg (show ¬ i = k by omega)] at this; exact this
/-- what findFirst leaves -/
def rF (M M2 : gx_M) (n m w : Nat) : Prop := (∀ p j, p < 42 ∨ 49 < p → ¬ (p = 34 ∧ j = 16) → M2 p j = M p j) ∧ (∀ j, j ≠ w → M2 48 j = M 48 j) ∧ (∀ j, ¬ (40 * w ≤ j ∧ j < 40 * w + 40) → M2 49 j = M 49 j) ∧
  ∃ f, FV (dS M n m) w f ∧ (M2 48 w).toInt = f 60 ∧ ∀ k, k < m → M 41 k ≠ 0 → (M2 49 (40 * w + k)).toInt = f k
set_option maxRecDepth 100000 in
set_option maxHeartbeats 4000000 in
theorem sr_findFirst {X : gx_X} {M : gx_M} {n m w : Nat} {P : Option Value → gx_M → Prop} (hw : w = 0 ∨ w = 1) (hn : M 34 0 = nI n) (hm : M 34 3 = nI m) (O : gok (dS M n m)) (hF : ∃ g, FL (dS M n m) g) (hP : ∀ M2, rF M M2 n m w → P none M2) : gx_C X 68 [.ref 34, .int (nI w)] M P := by
  have fin : ∀ (z : Int32) (M1 M3 : gx_M), frT M M1 → (∀ k, k < m → M1 42 k = M 39 k ∧ M1 43 k = M 40 k) → (∀ v, v < n → M1 44 v = M 35 v) → fr4 M1 M3 → 0 ≤ z.toInt → (∃ g, FL (dS M n m) g ∧ g 60 = z.toInt) → (∀ g, FL (dS M n m) g → if w = 0 then g 60 ≤ z.toInt else z.toInt ≤ g 60) →
      gx_OK X 68 27 [.ref 34, .int (nI w), .int 0, .null, .null, .null] [] (gx_w M3 48 w z) P := by
    intro z M1 M3 T T1 T2 F3 hz hE hX
    have q : ∀ p j, p ≠ 42 → p ≠ 43 → p ≠ 44 → p ≠ 45 → p ≠ 46 → p ≠ 47 → p ≠ 48 → ¬ (p = 34 ∧ j = 16) → (gx_w M3 48 w z) p j = M p j := fun p j a b c d e f g h => by
      rw [gx_w_np g, F3 p j d e f h, T p a b c]
    have eD : dS (gx_w M3 48 w z) n m = dS M n m := by
      have q' : ∀ p, p ≠ 42 → p ≠ 43 → p ≠ 44 → p ≠ 45 → p ≠ 46 → p ≠ 47 → p ≠ 48 → p ≠ 34 → (gx_w M3 48 w z) p = M p := fun p a b c d e f g h => by funext j; exact q p j a b c d e f g (fun y => h y.1)
      unfold dS
      rw [q' 41 (by decide) (by decide) (by decide) (by decide) (by decide) (by decide) (by decide) (by decide), q' 37 (by decide) (by decide) (by decide) (by decide) (by decide) (by decide) (by decide) (by decide), q' 38 (by decide) (by decide) (by decide) (by decide) (by decide) (by decide) (by decide) (by decide), q' 36 (by decide) (by decide) (by decide) (by decide) (by decide) (by decide) (by decide) (by decide), q' 35 (by decide) (by decide) (by decide) (by decide) (by decide) (by decide) (by decide) (by decide), q' 39 (by decide) (by decide) (by decide) (by decide) (by decide) (by decide) (by decide) (by decide), q' 40 (by decide) (by decide) (by decide) (by decide) (by decide) (by decide) (by decide) (by decide)]
    have v48 : (gx_w M3 48 w z) 48 w = z := by rw [gx_w_p, if_pos rfl]
    obtain ⟨g0, G0, G1⟩ := hE
    have fr := FL_free O G0 60 (by omega) (by omega)
    have b42 : ∀ k, k < m → (gx_w M3 48 w z) 42 k = M 39 k ∧ (gx_w M3 48 w z) 43 k = M 40 k := fun k hk => by
      rw [gx_w_np (by decide), gx_w_np (by decide), F3 42 k (by decide) (by decide) (by decide) (by omega), F3 43 k (by decide) (by decide) (by decide) (by omega)]; exact T1 k hk
    have b39 : ∀ k, (gx_w M3 48 w z) 39 k = M 39 k := fun k => q 39 k (by decide) (by decide) (by decide) (by decide) (by decide) (by decide) (by decide) (by omega)
    have b40 : ∀ k, (gx_w M3 48 w z) 40 k = M 40 k := fun k => q 40 k (by decide) (by decide) (by decide) (by decide) (by decide) (by decide) (by decide) (by omega)
    rw [← nI_0]
    refine l68 (M1 := gx_w M3 48 w z) (n := n) (m := m) (V := z.toInt) hw (by rw [q 34 0 (by decide) (by decide) (by decide) (by decide) (by decide) (by decide) (by decide) (by omega)]; exact hn) (by rw [q 34 3 (by decide) (by decide) (by decide) (by decide) (by decide) (by decide) (by decide) (by omega)]; exact hm) (by rw [eD]; exact O) (fun v hv => ?_) (by rw [v48]) hz (by omega) (fun M4 F G PF => ?_) m 0 _ (fun _ => 0) _ _ _ (by omega) ⟨fun _ _ _ _ _ _ _ _ _ => rfl, fun _ _ => rfl, fun j a b => ?_, fun j a => absurd a (by omega)⟩ (fun h => ?_) ⟨⟨g0, by rw [eD]; exact G0, G1, fun j a => absurd a (by omega)⟩, fun j a => absurd a (by omega)⟩
    · rw [q 35 v (by decide) (by decide) (by decide) (by decide) (by decide) (by decide) (by decide) (by omega), gx_w_np (by decide), F3 44 v (by decide) (by decide) (by decide) (by omega)]; exact T2 v hv
    · rw [eD] at PF
      obtain ⟨⟨f, f1, f2, f3⟩, f4⟩ := PF
      obtain ⟨g1, g2, g3, g4⟩ := G
      refine hP M4 ⟨fun p j a b => ?_, fun j hj => ?_, fun j hj => ?_, f, ⟨f1, fun g hg => ?_, fun g hg h60 k hk ht => ?_⟩, ?_, fun k hk al => ?_⟩
      · rw [g1 p j (by omega) (by omega) (by omega) (by omega) (by omega) (by omega) b]
        exact q p j (by omega) (by omega) (by omega) (by omega) (by omega) (by omega) (by omega) b
      · rw [g1 48 j (by decide) (by decide) (by decide) (by decide) (by decide) (by decide) (by omega), gx_w_p, if_neg hj, F3 48 j (by decide) (by decide) (by decide) (by omega), T 48 (by decide) (by decide) (by decide)]
      · rw [g2 j hj]; exact q 49 j (by decide) (by decide) (by decide) (by decide) (by decide) (by decide) (by decide) (by omega)
      · rw [f2]; exact hX g hg
      · have hk : k < m := hk
        rw [f3 k hk]
        refine f4 k hk g hg (by rw [h60, f2]) (fun i hi => ?_)
        rw [ht i hi, f3 i (by omega)]
      · rw [g1 48 w (by decide) (by decide) (by decide) (by decide) (by decide) (by decide) (by omega), v48, f2]
      · rw [(g4 k hk (by rw [q 41 k (by decide) (by decide) (by decide) (by decide) (by decide) (by decide) (by decide) (by omega)]; exact al)).2.2, f3 k hk]
    · rw [b39, b40]; exact b42 j b
    · rw [b39, b40]; exact b42 0 h
  rcases hw with rfl | rfl
  · rw [nI_0]
    refine gx_C_wp 40 ?_
    simp only [gx_w_np, gx_w_p, ne_eq, not_false_eq_true, gx_wp, gx_step, gx_cnd, gb0, gb1, Classical.not_not, List.getD_cons_zero, List.getD_cons_succ, List.set_cons_zero, List.set_cons_succ, List.length_cons, List.length_nil, Nat.reduceAdd, Nat.reduceLT, Nat.reduceLeDiff, Nat.reduceEqDiff, Bool.and_false, Bool.and_true, Bool.true_and, Bool.false_and, Bool.false_eq_true, if_false, if_true, ite_true, ite_false, Fin.isValue, Fin.val_zero, Fin.val_one, Fin.val_two, gz0, gz1, gz2, gz3, List.take_succ_cons, List.take_zero, List.drop_succ_cons, List.drop_zero, List.reverse_cons, List.reverse_nil, List.nil_append, List.cons_append, gx_nx, Int32.reduceToInt, Int.reduceToNat, Int.toNat_zero, Int.toNat_one, Int.reduceLT, Int.reduceLE, Int.ofNat_zero, Int.reduceNeg, Int.le_refl, and_self, List.getElem?_cons_zero, List.getElem?_cons_succ, true_and, and_true, Nat.reduceSub, List.replicate, List.append_nil, Nat.reduceLeDiff, Nat.le_add_left, Nat.zero_le, Nat.zero_add, gf4_28, gf4_32, gf4_35, gf4_50, gf4_53, gf4_84, gk_bipush_40, gk_iconst_0, gk_iconst_1, gk_iconst_2, gm4_103, gm4_107, gm4_110, gm4_114, gn64, gn65, gn66, gn67, gn68, gr64, gr65, gr66, gr67, gr68, gv68, gi68_0, gi68_1, gi68_4, gi68_5, gi68_8, gi68_9, gi68_10, gi68_13, gi68_14, gi68_17, gi68_20, gi68_21, gi68_24, gi68_25, gi68_26, gi68_27, gi68_28, gi68_29, gi68_32, gi68_35, gi68_36, gi68_39, gi68_40, gi68_41, gi68_44, gi68_47, gi68_48, gi68_51, gi68_52, gi68_53, gi68_54, gi68_55, gi68_56, gi68_57, gi68_60, gi68_61, gi68_62, gi68_64, gi68_66, gi68_67, gi68_68, gi68_69, gi68_72, gi68_73, gi68_75, gi68_76, gi68_77, gi68_78, gi68_80, gi68_81, gi68_84, gi68_85, gi68_87, gi68_88, gi68_89, gi68_90, gi68_93, gi68_94, gi68_95, gi68_96, gi68_99, gi68_100, gi68_101, gi68_104, gi68_107, gi68_109, gi68_111, gi68_114, gi68_116, gi68_117, gi68_120, gi68_121, gi68_124, gi68_125, gi68_127, gi68_128, gi68_129, gi68_132, gi68_133, gi68_135, gi68_136, gi68_137, gi68_140, gi68_142, gi68_143, gi68_144, gi68_145, gi68_146, gi68_148, gi68_149, gi68_152, gi68_155, gl0, gl1, gl2, gl3, gl4, gl5, gl6, gl7, gl8, gl9, gl10, gl11, gl12, gl13, gl14, gl15, gl16, gl17, gl18, gl19, gl20, gl21, gl22, gl23, gl24, gl25, gl26, gl27, gl28, gl29, gl30, gl31, gl32, gl33, gl34, gl35, gl36, gl37, gl38, gl39, gl40, gl41, gl42, gl43, gl44, gl45, gl46, gl47, gl48, gl49, gl50, gl51, gl52, gl53, gl54, gl55, gl56, gl57]
    refine sr_take hn hm O.1 O.2.1 (fun M1 T T1 T2 => ⟨fun q => absurd trivial q, fun _ => ?_⟩)
    have Q := dR_take T T1 T2
    have hFR : ∀ g, FL (dR M1 n m) g ↔ FL (dS M n m) g := fun g => deq_FL Q
    obtain ⟨g, hg⟩ := hF
    refine sr_greatest (n := n) (m := m) (by rw [T 34 (by decide) (by decide) (by decide)]; exact hn) (by rw [T 34 (by decide) (by decide) (by decide)]; exact hm) (gok_eq Q O) ⟨g, (hFR g).mpr hg⟩ (fun z M3 F3 z0 E N => ?_)
    intro x hx
    cases hx
    obtain ⟨g2, a1, a2⟩ := E
    refine ⟨by omega, ?_⟩
    have := fin z M1 M3 T T1 T2 F3 z0 ⟨g2, (hFR g2).mp a1, a2⟩ (fun g hg => by rw [if_pos rfl]; exact N g ((hFR g).mpr hg))
    rw [nI_0] at this
    exact this
  · rw [show nI 1 = 1 by decide]
    refine gx_C_wp 40 ?_
    simp only [gx_w_np, gx_w_p, ne_eq, not_false_eq_true, gx_wp, gx_step, gx_cnd, gb0, gb1, Classical.not_not, List.getD_cons_zero, List.getD_cons_succ, List.set_cons_zero, List.set_cons_succ, List.length_cons, List.length_nil, Nat.reduceAdd, Nat.reduceLT, Nat.reduceLeDiff, Nat.reduceEqDiff, Bool.and_false, Bool.and_true, Bool.true_and, Bool.false_and, Bool.false_eq_true, if_false, if_true, ite_true, ite_false, Fin.isValue, Fin.val_zero, Fin.val_one, Fin.val_two, gz0, gz1, gz2, gz3, List.take_succ_cons, List.take_zero, List.drop_succ_cons, List.drop_zero, List.reverse_cons, List.reverse_nil, List.nil_append, List.cons_append, gx_nx, Int32.reduceToInt, Int.reduceToNat, Int.toNat_zero, Int.toNat_one, Int.reduceLT, Int.reduceLE, Int.ofNat_zero, Int.reduceNeg, Int.le_refl, and_self, List.getElem?_cons_zero, List.getElem?_cons_succ, true_and, and_true, Nat.reduceSub, List.replicate, List.append_nil, Nat.reduceLeDiff, Nat.le_add_left, Nat.zero_le, Nat.zero_add, gf4_28, gf4_32, gf4_35, gf4_50, gf4_53, gf4_84, gk_bipush_40, gk_iconst_0, gk_iconst_1, gk_iconst_2, gm4_103, gm4_107, gm4_110, gm4_114, gn64, gn65, gn66, gn67, gn68, gr64, gr65, gr66, gr67, gr68, gv68, gi68_0, gi68_1, gi68_4, gi68_5, gi68_8, gi68_9, gi68_10, gi68_13, gi68_14, gi68_17, gi68_20, gi68_21, gi68_24, gi68_25, gi68_26, gi68_27, gi68_28, gi68_29, gi68_32, gi68_35, gi68_36, gi68_39, gi68_40, gi68_41, gi68_44, gi68_47, gi68_48, gi68_51, gi68_52, gi68_53, gi68_54, gi68_55, gi68_56, gi68_57, gi68_60, gi68_61, gi68_62, gi68_64, gi68_66, gi68_67, gi68_68, gi68_69, gi68_72, gi68_73, gi68_75, gi68_76, gi68_77, gi68_78, gi68_80, gi68_81, gi68_84, gi68_85, gi68_87, gi68_88, gi68_89, gi68_90, gi68_93, gi68_94, gi68_95, gi68_96, gi68_99, gi68_100, gi68_101, gi68_104, gi68_107, gi68_109, gi68_111, gi68_114, gi68_116, gi68_117, gi68_120, gi68_121, gi68_124, gi68_125, gi68_127, gi68_128, gi68_129, gi68_132, gi68_133, gi68_135, gi68_136, gi68_137, gi68_140, gi68_142, gi68_143, gi68_144, gi68_145, gi68_146, gi68_148, gi68_149, gi68_152, gi68_155, gl0, gl1, gl2, gl3, gl4, gl5, gl6, gl7, gl8, gl9, gl10, gl11, gl12, gl13, gl14, gl15, gl16, gl17, gl18, gl19, gl20, gl21, gl22, gl23, gl24, gl25, gl26, gl27, gl28, gl29, gl30, gl31, gl32, gl33, gl34, gl35, gl36, gl37, gl38, gl39, gl40, gl41, gl42, gl43, gl44, gl45, gl46, gl47, gl48, gl49, gl50, gl51, gl52, gl53, gl54, gl55, gl56, gl57]
    refine sr_take hn hm O.1 O.2.1 (fun M1 T T1 T2 => ⟨fun _ => ?_, fun q => absurd q (by decide)⟩)
    have Q := dR_take T T1 T2
    have hFR : ∀ g, FL (dR M1 n m) g ↔ FL (dS M n m) g := fun g => deq_FL Q
    obtain ⟨g, hg⟩ := hF
    refine sr_lowest (n := n) (m := m) (by rw [T 34 (by decide) (by decide) (by decide)]; exact hn) (by rw [T 34 (by decide) (by decide) (by decide)]; exact hm) (gok_eq Q O) ⟨g, (hFR g).mpr hg⟩ (fun z M3 F3 z0 E N => ?_)
    intro x hx
    cases hx
    obtain ⟨g2, a1, a2⟩ := E
    refine ⟨by omega, ?_⟩
    have := fin z M1 M3 T T1 T2 F3 z0 ⟨g2, (hFR g2).mp a1, a2⟩ (fun g hg => by rw [if_neg (by decide)]; exact N g ((hFR g).mpr hg))
    rw [show nI 1 = 1 by decide] at this
    exact this
