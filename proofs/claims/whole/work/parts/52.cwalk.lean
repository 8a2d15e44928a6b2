/-! The object's walk. -/
/-- what a walk adds to the streams -/
def oc (a b p q r : Nat) (M M1 : gx_M) (c : Nat) (D : gD) (l u : Nat → Int) (s : Nat) : Prop :=
  (se D u (nd D l s (wl D l u s)) = true → M1 a b = nI (c + 1) ∧ (M1 p c).toInt = am D l u s ∧ M1 q c = nI (wl D l u s) ∧ ∀ j, j < wl D l u s → M1 r (10 * c + j) = nI (na_ D l s j)) ∧
  (se D u (nd D l s (wl D l u s)) = false → M1 a b = M a b) ∧ (∀ j, j < c → M1 p j = M p j ∧ M1 q j = M q j) ∧ ∀ j, j < 10 * c → M1 r j = M r j
set_option maxRecDepth 100000 in
set_option maxHeartbeats 4000000 in
theorem s_endStream {X : gx_X} {M : gx_M} {D : gD} {l u : Nat → Int} {s c : Nat} {P : Option Value → gx_M → Prop} (O : gok D) (V : vs D l u) (R : sr D u s) (hS : se D u (nd D l s (wl D l u s)) = true) (C : cv M D l u) (hc : c < 50) (h32 : M 3 2 = nI c) (hp : ∀ i, i < wl D l u s → M 27 i = nI (na_ D l s i))
    (hP : ∀ M1, pf M M1 → cv M1 D (ws_l D l u s) (ws_u D l u s) → oc 3 2 21 22 23 M M1 c D l u s → P none M1) : gx_C X 28 [.ref 3, .int (nI s), .int (nI (nd D l s (wl D l u s))), .int (nI (wl D l u s))] M P := by
  obtain ⟨L1, L2, L3, L4⟩ := wl_ok O V R
  have hse : ∀ j, j < wl D l u s → se D u (nd D l s j) = false := fun j hj => (L3 j hj).1
  obtain ⟨w1, w2, w3⟩ := walk_ok O V R (wl D l u s) hse
  obtain ⟨t1, t2⟩ := se_iff.mp hS
  have hst : nd D l s (wl D l u s) ≠ s := fun q => by rw [q, R.2.1] at t1; exact absurd t1 (by decide)
  have n10 := O.1
  have hs10 : s < 10 := Nat.lt_of_lt_of_le R.1 n10
  have ht10 : nd D l s (wl D l u s) < 10 := Nat.lt_of_lt_of_le w1 n10
  have us := V.2.1 s R.1
  have ut := V.2.1 _ w1
  have cs_ := C.2 s R.1
  have ct_ := C.2 _ w1
  have el : ws_l D l u s = tk l (na_ D l s) (am D l u s) 0 (wl D l u s) := by unfold ws_l; rw [if_pos hS]
  have eu : ws_u D l u s = fun v => if v = nd D l s (wl D l u s) then u v - am D l u s else if v = s then u v - am D l u s else u v := by unfold ws_u; rw [if_pos hS]
  have mp := (step_ok O V R).2.2 hS
  have eam : am D l u s = i_mn (mn 100000 l (na_ D l s) 0 (wl D l u s)) (i_mn (u s) (u (nd D l s (wl D l u s)))) := rfl
  have m1 := i_mn_le (mn 100000 l (na_ D l s) 0 (wl D l u s)) (i_mn (u s) (u (nd D l s (wl D l u s))))
  have m2 := i_mn_le (u s) (u (nd D l s (wl D l u s)))
  have hp2 : ∀ i, i < wl D l u s → M 27 i = nI (na_ D l s i) ∧ na_ D l s i < gdm D := fun i hi => ⟨hp i hi, (w3 i hi).1⟩
  generalize hL : wl D l u s = L at *
  generalize ht : nd D l s L = t at *
  refine gx_C_wp 80 ?_
  simp only [gx_w_np, gx_w_p, ne_eq, not_false_eq_true, gx_wp, gx_step, gx_cnd, gb0, gb1, Classical.not_not, List.getD_cons_zero, List.getD_cons_succ, List.set_cons_zero, List.set_cons_succ, List.length_cons, List.length_nil, Nat.reduceAdd, Nat.reduceLT, Nat.reduceLeDiff, Nat.reduceEqDiff, Bool.and_false, Bool.and_true, Bool.true_and, Bool.false_and, Bool.false_eq_true, if_false, if_true, ite_true, ite_false, Fin.isValue, Fin.val_zero, Fin.val_one, Fin.val_two, gz0, gz1, gz2, gz3, List.take_succ_cons, List.take_zero, List.drop_succ_cons, List.drop_zero, List.reverse_cons, List.reverse_nil, List.nil_append, List.cons_append, gx_nx, Int32.reduceToInt, Int.reduceToNat, Int.toNat_zero, Int.toNat_one, Int.reduceLT, Int.reduceLE, Int.ofNat_zero, Int.reduceNeg, Int.le_refl, and_self, List.getElem?_cons_zero, List.getElem?_cons_succ, true_and, and_true, Nat.reduceSub, List.replicate, List.append_nil, Nat.reduceLeDiff, Nat.le_add_left, Nat.zero_le, Nat.zero_add, ga2_37, gf2_15, gf2_18, gf2_24, gf2_30, gf2_33, gf2_9, gk_bipush_10, gk_iconst_0, gk_iconst_1, gm2_102, gm2_37, gm2_82, gm2_86, gn103, gn28, gn29, gn30, gr103, gr28, gr29, gr30, gt2_2, gv28, gi28_0, gi28_1, gi28_2, gi28_3, gi28_6, gi28_7, gi28_10, gi28_11, gi28_12, gi28_13, gi28_16, gi28_17, gi28_18, gi28_21, gi28_24, gi28_26, gi28_27, gi28_28, gi28_29, gi28_31, gi28_34, gi28_35, gi28_38, gi28_39, gi28_40, gi28_41, gi28_43, gi28_44, gi28_45, gi28_46, gi28_49, gi28_50, gi28_51, gi28_52, gi28_54, gi28_55, gi28_56, gi28_57, gi28_60, gi28_61, gi28_64, gi28_66, gi28_67, gi28_68, gi28_71, gi28_72, gi28_75, gi28_76, gi28_77, gi28_78, gi28_81, gi28_82, gi28_83, gi28_86, gi28_87, gi28_90, gi28_92, gi28_93, gi28_94, gi28_97, gi28_98, gi28_99, gi28_102, gi28_103, gi28_104, gi28_107, gl0, gl1, gl2, gl3, gl4, gl5, gl6, gl7, gl8, gl9, gl10, gl11, gl12, gl13, gl14, gl15, gl16, gl17, gl18, gl19, gl20, gl21, gl22, gl23, gl24, gl25, gl26, gl27, gl28, gl29, gl30, gl31, gl32, gl33, gl34, gl35, gl36, gl37, gl38, gl39, gl40, gl41, gl42, gl43, gl44, gl45, gl46, gl47, gl48, gl49, gl50, gl51, gl52, gl53, gl54, gl55, gl56, gl57]
  rw [← nI_0]
  refine s_leastLeft (u := u) O.2.1 L2 (Nat.zero_le _) C hp2 (fun z hz => ?_)
  rw [Nat.sub_zero] at hz
  intro x hx
  cases hx
  simp (disch := first | decide | omega) only [gx_w_np, gx_w_p, Int32.reduceToInt, Int.toNat_natCast, if_true, if_false, nI_1, nI_pred, i_nI, ite_true, ite_false, Int.reduceToNat, Nat.reduceEqDiff, Nat.reduceAdd]
  refine ⟨by omega, by omega, ?_⟩
  have fin : ∀ y : Int32, y.toInt = am D l u s → gx_C X 30 [.ref 3, .int (nI 0), .int (nI L), .int y] M fun r M1 =>
      (0 ≤ (s : Int) ∧ (s : Int) < ((10 : Nat) : Int)) ∧ (0 ≤ (s : Int) ∧ (s : Int) < ((10 : Nat) : Int)) ∧ (0 ≤ (t : Int) ∧ (t : Int) < ((10 : Nat) : Int)) ∧ (0 ≤ (t : Int) ∧ (t : Int) < ((10 : Nat) : Int)) ∧ (0 ≤ (M1 3 2).toInt ∧ (M1 3 2).toInt < ((50 : Nat) : Int)) ∧ (0 ≤ (M1 3 2).toInt ∧ (M1 3 2).toInt < ((50 : Nat) : Int)) ∧ (0 ≤ (M1 3 2 * 10).toInt ∧ 0 ≤ (L : Int) ∧ 0 + (L : Int) ≤ ((10 : Nat) : Int) ∧ (M1 3 2 * 10).toInt + (L : Int) ≤ ((500 : Nat) : Int)) ∧
      P none (gx_w (gx_cp (gx_w (gx_w (gx_w (gx_w M1 25 s (M1 25 s - y)) 25 t ((if t = s then M1 25 s - y else M1 25 t) - y)) 21 (M1 3 2).toInt.toNat y) 22 (M1 3 2).toInt.toNat (nI L)) 27 23 0 (M1 3 2 * 10).toInt.toNat L) 3 2 (gx_cp (gx_w (gx_w (gx_w (gx_w M1 25 s (M1 25 s - y)) 25 t ((if t = s then M1 25 s - y else M1 25 t) - y)) 21 (M1 3 2).toInt.toNat y) 22 (M1 3 2).toInt.toNat (nI L)) 27 23 0 (M1 3 2 * 10).toInt.toNat L 3 2 + 1)) := by
    intro y hy
    refine s_takeFromPath (u := u) O.2.1 L2 (Nat.zero_le _) (by omega) (fun k hk => ⟨(V.1 k hk).1, (V.1 k hk).2.1⟩) C hp2 (fun M1 F1 T1 => ?_)
    have e32 : M1 3 2 = nI c := by rw [F1 3 (by decide)]; exact h32
    have e10 : nI c * 10 = nI (10 * c) := by rw [show (10 : Int32) = nI 10 by decide, pk_mul, Nat.mul_comm]
    rw [e32, e10, gx_cp_o (by decide), gx_w_np (by decide), gx_w_np (by decide), gx_w_np (by decide), gx_w_np (by decide), e32, nI_1, if_neg hst]
    simp (disch := first | decide | omega) only [gx_w_np, gx_w_p, Int32.reduceToInt, Int.toNat_natCast, if_true, if_false, nI_1, nI_pred, i_nI, ite_true, ite_false, Int.reduceToNat, Nat.reduceEqDiff, Nat.reduceAdd]
    refine ⟨by omega, by omega, by omega, by omega, by omega, by omega, by omega, ?_⟩
    have f25 : M1 25 = M 25 := F1 25 (by decide)
    have s25 : (M1 25 s - y).toInt = u s - am D l u s := by rw [f25, i_sub (by omega) (by omega)]; omega
    have t25 : (M1 25 t - y).toInt = u t - am D l u s := by rw [f25, i_sub (by omega) (by omega)]; omega
    refine hP _ (fun p h => ?_) ⟨fun k hk => ?_, fun v hv => ?_⟩ ⟨fun _ => ⟨?_, ?_, ?_, fun j hj => ?_⟩, fun q => ?_, fun j hj => ⟨?_, ?_⟩, fun j hj => ?_⟩
    · funext j
      rw [gx_w_np (by omega), gx_cp_o (by omega), gx_w_np (by omega), gx_w_np (by omega), gx_w_np (by omega), gx_w_np (by omega), F1 p (by omega)]
    · rw [gx_w_np (by decide), gx_cp_o (by decide), gx_w_np (by decide), gx_w_np (by decide), gx_w_np (by decide), gx_w_np (by decide), T1 k hk, el, hy, Nat.sub_zero]
    · rw [gx_w_np (by decide), gx_cp_o (by decide), gx_w_np (by decide), gx_w_np (by decide), gx_w_p, gx_w_p, eu]
      show _ = if v = t then u v - am D l u s else if v = s then u v - am D l u s else u v
      by_cases z1 : v = t
      · rw [if_pos z1, if_pos z1, t25, z1]
      · rw [if_neg z1, if_neg z1]
        by_cases z2 : v = s
        · rw [if_pos z2, if_pos z2, s25, z2]
        · rw [if_neg z2, if_neg z2, f25]; exact C.2 v hv
    · rw [gx_w_p, if_pos rfl]
    · rw [gx_w_np (by decide), gx_cp_o (by decide), gx_w_np (by decide), gx_w_p, if_pos rfl, hy]
    · rw [gx_w_np (by decide), gx_cp_o (by decide), gx_w_p, if_pos rfl, hL]
    · rw [hL] at hj
      rw [gx_w_np (by decide)]
      unfold gx_cp
      rw [if_pos ⟨rfl, by omega, by omega⟩, gx_w_np (by decide), gx_w_np (by decide), gx_w_np (by decide), gx_w_np (by decide), F1 27 (by decide), show 0 + (10 * c + j - 10 * c) = j by omega]
      exact hp j hj
    · rw [hL, ht, hS] at q; cases q
    · rw [gx_w_np (by decide), gx_cp_o (by decide), gx_w_np (by decide), gx_w_p, if_neg (by omega), gx_w_np (by decide), gx_w_np (by decide), F1 21 (by decide)]
    · rw [gx_w_np (by decide), gx_cp_o (by decide), gx_w_p, if_neg (by omega), gx_w_np (by decide), gx_w_np (by decide), gx_w_np (by decide), F1 22 (by decide)]
    · rw [gx_w_np (by decide)]
      unfold gx_cp
      rw [if_neg (fun q => by omega), gx_w_np (by decide), gx_w_np (by decide), gx_w_np (by decide), gx_w_np (by decide), F1 23 (by decide)]
  have mi : ∀ a b : Int, i_mn a b = if a < b then a else b := fun _ _ => rfl
  refine sp_min (fun q => ?_) (fun q => ?_)
  · intro x hx
    cases hx
    have e2 : i_mn (u s) (u t) = u t := by rw [mi, if_neg (by omega)]
    refine sp_min (fun q2 => ?_) (fun q2 => ?_)
    · intro x hx
      cases hx
      exact fin _ (by rw [eam, e2, mi, if_neg (by omega)]; omega)
    · intro x hx
      cases hx
      refine fin _ ?_
      rw [eam, e2, mi]
      by_cases z3 : mn 100000 l (na_ D l s) 0 L < u t
      · rw [if_pos z3]; exact hz
      · rw [if_neg z3]; omega
  · intro x hx
    cases hx
    have e2 : i_mn (u s) (u t) = u s := by
      rw [mi]
      by_cases z3 : u s < u t
      · rw [if_pos z3]
      · rw [if_neg z3]; omega
    refine sp_min (fun q2 => ?_) (fun q2 => ?_)
    · intro x hx
      cases hx
      exact fin _ (by rw [eam, e2, mi, if_neg (by omega)]; omega)
    · intro x hx
      cases hx
      refine fin _ ?_
      rw [eam, e2, mi]
      by_cases z3 : mn 100000 l (na_ D l s) 0 L < u s
      · rw [if_pos z3]; exact hz
      · rw [if_neg z3]; omega
/-- where it was, in the memory -/
def pl_ (M : gx_M) (pp : Nat) (nn : Nat → Nat) (N i : Nat) : Prop := (∀ j, j < i → M pp (nn j) = nI j) ∧ ∀ v, v < N → (∀ j, j < i → nn j ≠ v) → M pp v = -1
set_option maxRecDepth 100000 in
set_option maxHeartbeats 4000000 in
theorem l26 {X : gx_X} {M0 Ma : gx_M} {n m : Nat} {l u : Nat → Int} {s c : Nat} {P : Option Value → gx_M → Prop} (W : gg_W M0 n m) (Fa : pf M0 Ma) (V : vs (dC M0 n m) l u) (R : sr (dC M0 n m) u s) (Ca : cv Ma (dC M0 n m) l u) (hc : c < 50) (h32 : Ma 3 2 = nI c)
    (hP : ∀ M1, pf M0 M1 → cv M1 (dC M0 n m) (ws_l (dC M0 n m) l u s) (ws_u (dC M0 n m) l u s) → oc 3 2 21 22 23 Ma M1 c (dC M0 n m) l u s → P none M1) :
    ∀ (d i : Nat) (M : gx_M) (v5 : Value), i + d = wl (dC M0 n m) l u s → (∀ p, p ≠ 26 → p ≠ 27 → M p = Ma p) → (∀ j, j < i → M 27 j = nI (na_ (dC M0 n m) l s j)) → pl_ M 26 (nd (dC M0 n m) l s) n i → gx_OK X 26 13 [.ref 3, .ref 1, .int (nI s), .int (nI (nd (dC M0 n m) l s i)), .int (nI i), v5] [] M P := by
  have O := gok_C W
  have hm40 := W.2.2.2.1
  have hn10 := W.2.2.1
  obtain ⟨L1, L2, L3, L4⟩ := wl_ok O V R
  have hse : ∀ j, j < wl (dC M0 n m) l u s → se (dC M0 n m) u (nd (dC M0 n m) l s j) = false := fun j hj => (L3 j hj).1
  obtain ⟨w1, w2, w3⟩ := walk_ok O V R (wl (dC M0 n m) l u s) hse
  have hnd : ∀ j, j ≤ wl (dC M0 n m) l u s → nd (dC M0 n m) l s j < n := fun j hj => (walk_ok O V R j (fun t ht => hse t (by omega))).1
  intro d
  induction d with
  | zero =>
    intro i M v5 hi F hp pl
    have ei : i = wl (dC M0 n m) l u s := by omega
    subst ei
    have hn := hnd _ (Nat.le_refl _)
    have F0 : pf M0 M := fun p h => by rw [F p (by omega) (by omega), Fa p h]
    have e4 : ∀ v, M 4 v = M0 4 v := fun v => by rw [F0 4 (by omega)]
    have C : cv M (dC M0 n m) l u := ⟨fun k hk => by rw [F 24 (by decide) (by decide)]; exact Ca.1 k hk, fun v hv => by rw [F 25 (by decide) (by decide)]; exact Ca.2 v hv⟩
    have cu := C.2 _ hn
    have tr : ∀ M1, oc 3 2 21 22 23 M M1 c (dC M0 n m) l u s → oc 3 2 21 22 23 Ma M1 c (dC M0 n m) l u s := fun M1 o => by
      have f3 := F 3 (by decide) (by decide)
      have f21 := F 21 (by decide) (by decide)
      have f22 := F 22 (by decide) (by decide)
      have f23 := F 23 (by decide) (by decide)
      refine ⟨o.1, fun h => by rw [o.2.1 h, f3], fun j hj => ?_, fun j hj => by rw [o.2.2.2 j hj, f23]⟩
      rw [(o.2.2.1 j hj).1, (o.2.2.1 j hj).2, f21, f22]; exact ⟨rfl, rfl⟩
    by_cases hS : se (dC M0 n m) u (nd (dC M0 n m) l s (wl (dC M0 n m) l u s)) = true
    · obtain ⟨t1, t2⟩ := se_iff.mp hS
      have t1 : M0 4 (nd (dC M0 n m) l s (wl (dC M0 n m) l u s)) = 2 := t1
      refine gx_wp_ok 80 false _ _ _ _ ?_
      simp only [gx_w_np, gx_w_p, ne_eq, not_false_eq_true, gx_wp, gx_step, gx_cnd, gb0, gb1, Classical.not_not, List.getD_cons_zero, List.getD_cons_succ, List.set_cons_zero, List.set_cons_succ, List.length_cons, List.length_nil, Nat.reduceAdd, Nat.reduceLT, Nat.reduceLeDiff, Nat.reduceEqDiff, Bool.and_false, Bool.and_true, Bool.true_and, Bool.false_and, Bool.false_eq_true, if_false, if_true, ite_true, ite_false, Fin.isValue, Fin.val_zero, Fin.val_one, Fin.val_two, gz0, gz1, gz2, gz3, List.take_succ_cons, List.take_zero, List.drop_succ_cons, List.drop_zero, List.reverse_cons, List.reverse_nil, List.nil_append, List.cons_append, gx_nx, Int32.reduceToInt, Int.reduceToNat, Int.toNat_zero, Int.toNat_one, Int.reduceLT, Int.reduceLE, Int.ofNat_zero, Int.reduceNeg, Int.le_refl, and_self, List.getElem?_cons_zero, List.getElem?_cons_succ, true_and, and_true, Nat.reduceSub, List.replicate, List.append_nil, Nat.reduceLeDiff, Nat.le_add_left, Nat.zero_le, Nat.zero_add, gf2_24, gf2_27, gf2_30, gf2_69, gf2_93, gk_bipush_10, gk_iconst_0, gk_iconst_1, gk_iconst_2, gk_iconst_m1, gm2_72, gm2_78, gm2_82, gm2_86, gm2_89, gn104, gn26, gn27, gn28, gn29, gn30, gr104, gr26, gr27, gr28, gr29, gr30, gv26, gi26_0, gi26_1, gi26_4, gi26_5, gi26_8, gi26_9, gi26_10, gi26_11, gi26_13, gi26_15, gi26_17, gi26_20, gi26_21, gi26_24, gi26_25, gi26_26, gi26_27, gi26_30, gi26_31, gi26_34, gi26_35, gi26_36, gi26_39, gi26_40, gi26_41, gi26_42, gi26_44, gi26_47, gi26_48, gi26_49, gi26_52, gi26_53, gi26_54, gi26_55, gi26_58, gi26_59, gi26_60, gi26_63, gi26_64, gi26_65, gi26_67, gi26_68, gi26_69, gi26_72, gi26_73, gi26_74, gi26_76, gi26_79, gi26_82, gi26_83, gi26_84, gi26_85, gi26_86, gi26_89, gi26_91, gi26_93, gi26_94, gi26_97, gi26_99, gi26_101, gi26_104, gi26_105, gi26_106, gi26_109, gi26_110, gi26_112, gi26_113, gi26_114, gi26_117, gi26_119, gi26_121, gi26_122, gi26_123, gi26_126, gi26_128, gi26_129, gi26_130, gi26_133, gi26_136, gl0, gl1, gl2, gl3, gl4, gl5, gl6, gl7, gl8, gl9, gl10, gl11, gl12, gl13, gl14, gl15, gl16, gl17, gl18, gl19, gl20, gl21, gl22, gl23, gl24, gl25, gl26, gl27, gl28, gl29, gl30, gl31, gl32, gl33, gl34, gl35, gl36, gl37, gl38, gl39, gl40, gl41, gl42, gl43, gl44, gl45, gl46, gl47, gl48, gl49, gl50, gl51, gl52, gl53, gl54, gl55, gl56, gl57]
      simp (disch := first | decide | omega) only [gx_w_np, gx_w_p, Int32.reduceToInt, Int.toNat_natCast, if_true, if_false, nI_1, nI_pred, i_nI, ite_true, ite_false, Int.reduceToNat, Nat.reduceEqDiff, Nat.reduceAdd, e4, i_le, i_lt]
      refine ⟨fun q => absurd q (by omega), fun _ => ⟨by omega, fun q => absurd t1 q, fun _ => ⟨by omega, fun q => absurd q (by omega), fun _ => ?_⟩⟩⟩
      exact s_endStream O V R hS C hc (by rw [F 3 (by decide) (by decide)]; exact h32) hp (fun M1 F1 C1 o => hP M1 (pf_t F0 F1) C1 (tr M1 o))
    · have hS' : se (dC M0 n m) u (nd (dC M0 n m) l s (wl (dC M0 n m) l u s)) = false := by simpa using hS
      have hb : sb (dC M0 n m) l s (wl (dC M0 n m) l u s) = true := by
        rcases L4 with h | h
        · exact absurd h hS
        · exact h
      have hpl : fnd (fun j => decide (nd (dC M0 n m) l s j = nd (dC M0 n m) l s (wl (dC M0 n m) l u s))) (wl (dC M0 n m) l u s) 0 < wl (dC M0 n m) l u s := of_decide_eq_true hb
      have S := fnd_spec (fun j => decide (nd (dC M0 n m) l s j = nd (dC M0 n m) l s (wl (dC M0 n m) l u s))) (wl (dC M0 n m) l u s) 0
      have hq : nd (dC M0 n m) l s (fnd (fun j => decide (nd (dC M0 n m) l s j = nd (dC M0 n m) l s (wl (dC M0 n m) l u s))) (wl (dC M0 n m) l u s) 0) = nd (dC M0 n m) l s (wl (dC M0 n m) l u s) := of_decide_eq_true (S.2.2.2 (by omega))
      have eu : ws_u (dC M0 n m) l u s = u := by unfold ws_u; rw [if_neg hS]
      have el : ws_l (dC M0 n m) l u s = tk l (na_ (dC M0 n m) l s) (mn 100000 l (na_ (dC M0 n m) l s) (fnd (fun j => decide (nd (dC M0 n m) l s j = nd (dC M0 n m) l s (wl (dC M0 n m) l u s))) (wl (dC M0 n m) l u s) 0) (wl (dC M0 n m) l u s - fnd (fun j => decide (nd (dC M0 n m) l s j = nd (dC M0 n m) l s (wl (dC M0 n m) l u s))) (wl (dC M0 n m) l u s) 0)) (fnd (fun j => decide (nd (dC M0 n m) l s j = nd (dC M0 n m) l s (wl (dC M0 n m) l u s))) (wl (dC M0 n m) l u s) 0) (wl (dC M0 n m) l u s - fnd (fun j => decide (nd (dC M0 n m) l s j = nd (dC M0 n m) l s (wl (dC M0 n m) l u s))) (wl (dC M0 n m) l u s) 0) := by unfold ws_l; rw [if_neg hS]
      have p26 : M 26 (nd (dC M0 n m) l s (wl (dC M0 n m) l u s)) = nI (fnd (fun j => decide (nd (dC M0 n m) l s j = nd (dC M0 n m) l s (wl (dC M0 n m) l u s))) (wl (dC M0 n m) l u s) 0) := by
        have := pl.1 _ hpl
        rw [hq] at this; exact this
      generalize fnd (fun j => decide (nd (dC M0 n m) l s j = nd (dC M0 n m) l s (wl (dC M0 n m) l u s))) (wl (dC M0 n m) l u s) 0 = p at *
      have ring : gx_C X 29 [.ref 3, .int (nI p), .int (nI (wl (dC M0 n m) l u s))] M fun r M1 => ∀ x : Int32, r = some (.int x) → gx_C X 30 [.ref 3, .int (nI p), .int (nI (wl (dC M0 n m) l u s)), .int x] M1 fun r M1 => P none M1 := by
        have hp2 : ∀ i, i < wl (dC M0 n m) l u s → M 27 i = nI (na_ (dC M0 n m) l s i) ∧ na_ (dC M0 n m) l s i < gdm (dC M0 n m) := fun i hi => ⟨hp i hi, (w3 i hi).1⟩
        refine s_leastLeft (u := u) O.2.1 L2 (by omega) C hp2 (fun z hz => ?_)
        intro x hx
        cases hx
        have mle := (mn_le (F := 100000) (l := l) (a := na_ (dC M0 n m) l s) (b := p) (wl (dC M0 n m) l u s - p)).1
        obtain ⟨i0, q1, q2⟩ := mn_one (F := 100000) (l := l) (a := na_ (dC M0 n m) l s) (b := p) (d := wl (dC M0 n m) l u s - p) (by omega) (fun i hi => by
          have := V.1 _ (w3 (p + i) (by omega)).1
          omega)
        have pos := (w3 (p + i0) (by omega)).2.2.1
        refine s_takeFromPath (u := u) O.2.1 L2 (by omega) (by omega) (fun k hk => ⟨(V.1 k hk).1, (V.1 k hk).2.1⟩) C hp2 (fun M1 F1 T1 => ?_)
        refine hP M1 (fun p h => by rw [F1 p (by omega), F0 p h]) ⟨fun k hk => ?_, fun v hv => ?_⟩ (tr M1 ⟨fun h => absurd h hS, fun _ => by rw [F1 3 (by decide)], fun j _ => by rw [F1 21 (by decide), F1 22 (by decide)]; exact ⟨rfl, rfl⟩, fun j _ => by rw [F1 23 (by decide)]⟩)
        · rw [T1 k hk, el, hz]
        · rw [F1 25 (by decide), eu]; exact C.2 v hv
      refine gx_wp_ok 80 false _ _ _ _ ?_
      simp only [gx_w_np, gx_w_p, ne_eq, not_false_eq_true, gx_wp, gx_step, gx_cnd, gb0, gb1, Classical.not_not, List.getD_cons_zero, List.getD_cons_succ, List.set_cons_zero, List.set_cons_succ, List.length_cons, List.length_nil, Nat.reduceAdd, Nat.reduceLT, Nat.reduceLeDiff, Nat.reduceEqDiff, Bool.and_false, Bool.and_true, Bool.true_and, Bool.false_and, Bool.false_eq_true, if_false, if_true, ite_true, ite_false, Fin.isValue, Fin.val_zero, Fin.val_one, Fin.val_two, gz0, gz1, gz2, gz3, List.take_succ_cons, List.take_zero, List.drop_succ_cons, List.drop_zero, List.reverse_cons, List.reverse_nil, List.nil_append, List.cons_append, gx_nx, Int32.reduceToInt, Int.reduceToNat, Int.toNat_zero, Int.toNat_one, Int.reduceLT, Int.reduceLE, Int.ofNat_zero, Int.reduceNeg, Int.le_refl, and_self, List.getElem?_cons_zero, List.getElem?_cons_succ, true_and, and_true, Nat.reduceSub, List.replicate, List.append_nil, Nat.reduceLeDiff, Nat.le_add_left, Nat.zero_le, Nat.zero_add, gf2_24, gf2_27, gf2_30, gf2_69, gf2_93, gk_bipush_10, gk_iconst_0, gk_iconst_1, gk_iconst_2, gk_iconst_m1, gm2_72, gm2_78, gm2_82, gm2_86, gm2_89, gn104, gn26, gn27, gn28, gn29, gn30, gr104, gr26, gr27, gr28, gr29, gr30, gv26, gi26_0, gi26_1, gi26_4, gi26_5, gi26_8, gi26_9, gi26_10, gi26_11, gi26_13, gi26_15, gi26_17, gi26_20, gi26_21, gi26_24, gi26_25, gi26_26, gi26_27, gi26_30, gi26_31, gi26_34, gi26_35, gi26_36, gi26_39, gi26_40, gi26_41, gi26_42, gi26_44, gi26_47, gi26_48, gi26_49, gi26_52, gi26_53, gi26_54, gi26_55, gi26_58, gi26_59, gi26_60, gi26_63, gi26_64, gi26_65, gi26_67, gi26_68, gi26_69, gi26_72, gi26_73, gi26_74, gi26_76, gi26_79, gi26_82, gi26_83, gi26_84, gi26_85, gi26_86, gi26_89, gi26_91, gi26_93, gi26_94, gi26_97, gi26_99, gi26_101, gi26_104, gi26_105, gi26_106, gi26_109, gi26_110, gi26_112, gi26_113, gi26_114, gi26_117, gi26_119, gi26_121, gi26_122, gi26_123, gi26_126, gi26_128, gi26_129, gi26_130, gi26_133, gi26_136, gl0, gl1, gl2, gl3, gl4, gl5, gl6, gl7, gl8, gl9, gl10, gl11, gl12, gl13, gl14, gl15, gl16, gl17, gl18, gl19, gl20, gl21, gl22, gl23, gl24, gl25, gl26, gl27, gl28, gl29, gl30, gl31, gl32, gl33, gl34, gl35, gl36, gl37, gl38, gl39, gl40, gl41, gl42, gl43, gl44, gl45, gl46, gl47, gl48, gl49, gl50, gl51, gl52, gl53, gl54, gl55, gl56, gl57]
      rw [show M 26 (nI (nd (dC M0 n m) l s (wl (dC M0 n m) l u s))).toInt.toNat = nI p by rw [i_nI (by omega), Int.toNat_natCast]; exact p26]
      simp (disch := first | decide | omega) only [gx_w_np, gx_w_p, Int32.reduceToInt, Int.toNat_natCast, if_true, if_false, nI_1, nI_pred, i_nI, ite_true, ite_false, Int.reduceToNat, Nat.reduceEqDiff, Nat.reduceAdd, e4, i_le, i_lt]
      have nm1 : ¬ nI p = -1 := nI_m1 (by omega)
      refine ⟨fun q => absurd q (by omega), fun _ => ⟨by omega, fun q => ⟨by omega, fun q => absurd q nm1, fun _ => ⟨by omega, by omega, ring⟩⟩, fun q => ⟨by omega, fun q2 => ⟨by omega, fun q => absurd q nm1, fun _ => ⟨by omega, by omega, ring⟩⟩, fun q2 => ?_⟩⟩⟩
      exact absurd ((se_iff (D := dC M0 n m) (u := u) (v := nd (dC M0 n m) l s (wl (dC M0 n m) l u s))).mpr ⟨q, by omega⟩) hS
  | succ d ih =>
    intro i M v5 hi F hp pl
    have hn := hnd i (by omega)
    have F0 : pf M0 M := fun p h => by rw [F p (by omega) (by omega), Fa p h]
    have e4 : ∀ v, M 4 v = M0 4 v := fun v => by rw [F0 4 (by omega)]
    have C : cv M (dC M0 n m) l u := ⟨fun k hk => by rw [F 24 (by decide) (by decide)]; exact Ca.1 k hk, fun v hv => by rw [F 25 (by decide) (by decide)]; exact Ca.2 v hv⟩
    have cu := C.2 _ hn
    obtain ⟨f1, f2⟩ := L3 i (by omega)
    have nos : ¬ (M0 4 (nd (dC M0 n m) l s i) = 2 ∧ 0 < u (nd (dC M0 n m) l s i)) := fun q => by
      rw [(se_iff (D := dC M0 n m) (u := u) (v := nd (dC M0 n m) l s i)).mpr q] at f1
      cases f1
    have fresh : ∀ j, j < i → nd (dC M0 n m) l s j ≠ nd (dC M0 n m) l s i := fun j hj q => by rw [sb_iff.mpr ⟨j, hj, q⟩] at f2; cases f2
    have p26 : M 26 (nd (dC M0 n m) l s i) = -1 := pl.2 _ hn fresh
    obtain ⟨a1, a2, a3, a4, a5, a6⟩ := w3 i (by omega)
    have e7 : ∀ v, M 7 v = M0 7 v := fun v => by rw [F0 7 (by omega)]
    have a5' : M0 7 (na_ (dC M0 n m) l s i) = nI (nd (dC M0 n m) l s (i + 1)) := by
      have hn2 := hnd (i + 1) (by omega)
      exact i_eq.mpr (by rw [i_nI (by omega)]; exact a5)
    have am40 : na_ (dC M0 n m) l s i < 40 := Nat.lt_of_lt_of_le a1 hm40
    have cont : gx_C X 27 [.ref 3, .ref 1, .int (nI (nd (dC M0 n m) l s i))] M fun r M1 => ∀ x : Int32, r = some (.int x) → (x = -1 → P none M1) ∧ (¬ x = -1 → (¬ nI i = 10 → (0 ≤ ((nd (dC M0 n m) l s i : Nat) : Int) ∧ ((nd (dC M0 n m) l s i : Nat) : Int) < ((10 : Nat) : Int)) ∧ (0 ≤ (i : Int) ∧ (i : Int) < ((10 : Nat) : Int)) ∧ (0 ≤ x.toInt ∧ x.toInt < ((40 : Nat) : Int)) ∧ gx_OK X 26 13 [.ref 3, .ref 1, .int (nI s), .int (M1 7 x.toInt.toNat), .int (nI (i + 1)), .int x] [] (gx_w (gx_w M1 26 (nd (dC M0 n m) l s i) (nI i)) 27 i x) P) ∧ (nI i = 10 → P none M1)) := by
      refine s_leastArcFrom (u := u) (by omega) W F0 C a1 ?_
      intro x hx
      cases hx
      have e10 : ¬ nI i = 10 := fun q => by
        rw [show (10 : Int32) = nI 10 by decide] at q
        have := nI_inj (by omega) (by omega) q
        omega
      have ea : nx (dC M0 n m) l (nd (dC M0 n m) l s i) = na_ (dC M0 n m) l s i := rfl
      rw [ea]
      refine ⟨fun q => absurd q (nI_m1 (by omega)), fun _ => ⟨fun _ => ?_, fun q => absurd q e10⟩⟩
      simp (disch := first | decide | omega) only [gx_w_np, gx_w_p, Int32.reduceToInt, Int.toNat_natCast, if_true, if_false, nI_1, nI_pred, i_nI, ite_true, ite_false, Int.reduceToNat, Nat.reduceEqDiff, Nat.reduceAdd, e7]
      rw [a5']
      refine ⟨by omega, by omega, by omega, ih (i + 1) _ _ (by omega) (fun p h1 h2 => ?_) (fun j hj => ?_) ⟨fun j hj => ?_, fun v hv h => ?_⟩⟩
      · rw [← F p h1 h2]; funext j; rw [gx_w_np h2, gx_w_np h1]
      · rw [gx_w_p]
        by_cases z : j = i
        · rw [if_pos z, z]
        · rw [if_neg z, gx_w_np (by decide)]; exact hp j (by omega)
      · rw [gx_w_np (by decide), gx_w_p]
        by_cases z : j = i
        · rw [z, if_pos rfl]
        · rw [if_neg (fresh j (by omega))]; exact pl.1 j (by omega)
      · rw [gx_w_np (by decide), gx_w_p, if_neg (fun q => h i (by omega) q.symm)]
        exact pl.2 v hv (fun j hj => h j (by omega))
    refine gx_wp_ok 80 false _ _ _ _ ?_
    simp only [gx_w_np, gx_w_p, ne_eq, not_false_eq_true, gx_wp, gx_step, gx_cnd, gb0, gb1, Classical.not_not, List.getD_cons_zero, List.getD_cons_succ, List.set_cons_zero, List.set_cons_succ, List.length_cons, List.length_nil, Nat.reduceAdd, Nat.reduceLT, Nat.reduceLeDiff, Nat.reduceEqDiff, Bool.and_false, Bool.and_true, Bool.true_and, Bool.false_and, Bool.false_eq_true, if_false, if_true, ite_true, ite_false, Fin.isValue, Fin.val_zero, Fin.val_one, Fin.val_two, gz0, gz1, gz2, gz3, List.take_succ_cons, List.take_zero, List.drop_succ_cons, List.drop_zero, List.reverse_cons, List.reverse_nil, List.nil_append, List.cons_append, gx_nx, Int32.reduceToInt, Int.reduceToNat, Int.toNat_zero, Int.toNat_one, Int.reduceLT, Int.reduceLE, Int.ofNat_zero, Int.reduceNeg, Int.le_refl, and_self, List.getElem?_cons_zero, List.getElem?_cons_succ, true_and, and_true, Nat.reduceSub, List.replicate, List.append_nil, Nat.reduceLeDiff, Nat.le_add_left, Nat.zero_le, Nat.zero_add, gf2_24, gf2_27, gf2_30, gf2_69, gf2_93, gk_bipush_10, gk_iconst_0, gk_iconst_1, gk_iconst_2, gk_iconst_m1, gm2_72, gm2_78, gm2_82, gm2_86, gm2_89, gn104, gn26, gn27, gn28, gn29, gn30, gr104, gr26, gr27, gr28, gr29, gr30, gv26, gi26_0, gi26_1, gi26_4, gi26_5, gi26_8, gi26_9, gi26_10, gi26_11, gi26_13, gi26_15, gi26_17, gi26_20, gi26_21, gi26_24, gi26_25, gi26_26, gi26_27, gi26_30, gi26_31, gi26_34, gi26_35, gi26_36, gi26_39, gi26_40, gi26_41, gi26_42, gi26_44, gi26_47, gi26_48, gi26_49, gi26_52, gi26_53, gi26_54, gi26_55, gi26_58, gi26_59, gi26_60, gi26_63, gi26_64, gi26_65, gi26_67, gi26_68, gi26_69, gi26_72, gi26_73, gi26_74, gi26_76, gi26_79, gi26_82, gi26_83, gi26_84, gi26_85, gi26_86, gi26_89, gi26_91, gi26_93, gi26_94, gi26_97, gi26_99, gi26_101, gi26_104, gi26_105, gi26_106, gi26_109, gi26_110, gi26_112, gi26_113, gi26_114, gi26_117, gi26_119, gi26_121, gi26_122, gi26_123, gi26_126, gi26_128, gi26_129, gi26_130, gi26_133, gi26_136, gl0, gl1, gl2, gl3, gl4, gl5, gl6, gl7, gl8, gl9, gl10, gl11, gl12, gl13, gl14, gl15, gl16, gl17, gl18, gl19, gl20, gl21, gl22, gl23, gl24, gl25, gl26, gl27, gl28, gl29, gl30, gl31, gl32, gl33, gl34, gl35, gl36, gl37, gl38, gl39, gl40, gl41, gl42, gl43, gl44, gl45, gl46, gl47, gl48, gl49, gl50, gl51, gl52, gl53, gl54, gl55, gl56, gl57]
    rw [show M 26 (nI (nd (dC M0 n m) l s i)).toInt.toNat = -1 by rw [i_nI (by omega), Int.toNat_natCast]; exact p26]
    simp (disch := first | decide | omega) only [gx_w_np, gx_w_p, Int32.reduceToInt, Int.toNat_natCast, if_true, if_false, nI_1, nI_pred, i_nI, ite_true, ite_false, Int.reduceToNat, Nat.reduceEqDiff, Nat.reduceAdd, e4, i_le, i_lt]
    refine ⟨fun q => absurd q (by omega), fun _ => ⟨by omega, fun q => ⟨by omega, fun _ => cont, fun q => absurd trivial q⟩, fun q => ⟨by omega, fun q2 => ⟨by omega, fun _ => cont, fun q => absurd trivial q⟩, fun q2 => absurd ⟨q, by omega⟩ nos⟩⟩⟩
set_option maxRecDepth 100000 in
set_option maxHeartbeats 4000000 in
theorem s_walk {X : gx_X} {M0 M : gx_M} {n m : Nat} {l u : Nat → Int} {s c : Nat} {P : Option Value → gx_M → Prop} (W : gg_W M0 n m) (F : pf M0 M) (V : vs (dC M0 n m) l u) (R : sr (dC M0 n m) u s) (C : cv M (dC M0 n m) l u) (hc : c < 50) (h32 : M 3 2 = nI c)
    (hP : ∀ M1, pf M0 M1 → cv M1 (dC M0 n m) (ws_l (dC M0 n m) l u s) (ws_u (dC M0 n m) l u s) → oc 3 2 21 22 23 M M1 c (dC M0 n m) l u s → P none M1) : gx_C X 26 [.ref 3, .ref 1, .int (nI s)] M P := by
  have hn10 := W.2.2.1
  refine gx_C_wp 30 ?_
  simp only [gx_w_np, gx_w_p, ne_eq, not_false_eq_true, gx_wp, gx_step, gx_cnd, gb0, gb1, Classical.not_not, List.getD_cons_zero, List.getD_cons_succ, List.set_cons_zero, List.set_cons_succ, List.length_cons, List.length_nil, Nat.reduceAdd, Nat.reduceLT, Nat.reduceLeDiff, Nat.reduceEqDiff, Bool.and_false, Bool.and_true, Bool.true_and, Bool.false_and, Bool.false_eq_true, if_false, if_true, ite_true, ite_false, Fin.isValue, Fin.val_zero, Fin.val_one, Fin.val_two, gz0, gz1, gz2, gz3, List.take_succ_cons, List.take_zero, List.drop_succ_cons, List.drop_zero, List.reverse_cons, List.reverse_nil, List.nil_append, List.cons_append, gx_nx, Int32.reduceToInt, Int.reduceToNat, Int.toNat_zero, Int.toNat_one, Int.reduceLT, Int.reduceLE, Int.ofNat_zero, Int.reduceNeg, Int.le_refl, and_self, List.getElem?_cons_zero, List.getElem?_cons_succ, true_and, and_true, Nat.reduceSub, List.replicate, List.append_nil, Nat.reduceLeDiff, Nat.le_add_left, Nat.zero_le, Nat.zero_add, gf2_24, gf2_27, gf2_30, gf2_69, gf2_93, gk_bipush_10, gk_iconst_0, gk_iconst_1, gk_iconst_2, gk_iconst_m1, gm2_72, gm2_78, gm2_82, gm2_86, gm2_89, gn104, gn26, gn27, gn28, gn29, gn30, gr104, gr26, gr27, gr28, gr29, gr30, gv26, gi26_0, gi26_1, gi26_4, gi26_5, gi26_8, gi26_9, gi26_10, gi26_11, gi26_13, gi26_15, gi26_17, gi26_20, gi26_21, gi26_24, gi26_25, gi26_26, gi26_27, gi26_30, gi26_31, gi26_34, gi26_35, gi26_36, gi26_39, gi26_40, gi26_41, gi26_42, gi26_44, gi26_47, gi26_48, gi26_49, gi26_52, gi26_53, gi26_54, gi26_55, gi26_58, gi26_59, gi26_60, gi26_63, gi26_64, gi26_65, gi26_67, gi26_68, gi26_69, gi26_72, gi26_73, gi26_74, gi26_76, gi26_79, gi26_82, gi26_83, gi26_84, gi26_85, gi26_86, gi26_89, gi26_91, gi26_93, gi26_94, gi26_97, gi26_99, gi26_101, gi26_104, gi26_105, gi26_106, gi26_109, gi26_110, gi26_112, gi26_113, gi26_114, gi26_117, gi26_119, gi26_121, gi26_122, gi26_123, gi26_126, gi26_128, gi26_129, gi26_130, gi26_133, gi26_136, gl0, gl1, gl2, gl3, gl4, gl5, gl6, gl7, gl8, gl9, gl10, gl11, gl12, gl13, gl14, gl15, gl16, gl17, gl18, gl19, gl20, gl21, gl22, gl23, gl24, gl25, gl26, gl27, gl28, gl29, gl30, gl31, gl32, gl33, gl34, gl35, gl36, gl37, gl38, gl39, gl40, gl41, gl42, gl43, gl44, gl45, gl46, gl47, gl48, gl49, gl50, gl51, gl52, gl53, gl54, gl55, gl56, gl57]
  refine sp_fill (p := 26) (n := 10) (Or.inr (Or.inr ⟨rfl, rfl⟩)) (fun M1 a b => ?_)
  have F1 : pf M0 M1 := fun p h => by rw [← F p h]; funext j; exact a p j (by omega)
  have q : ∀ p, p ≠ 26 → M1 p = M p := fun p h => by funext j; exact a p j h
  have C1 : cv M1 (dC M0 n m) l u := ⟨fun k hk => by rw [q 24 (by decide)]; exact C.1 k hk, fun v hv => by rw [q 25 (by decide)]; exact C.2 v hv⟩
  rw [← nI_0]
  refine l26 W F1 V R C1 hc (by rw [q 3 (by decide)]; exact h32) (fun M2 F2 C2 o => hP M2 F2 C2 ⟨o.1, fun h => by rw [o.2.1 h, q 3 (by decide)], fun j hj => ?_, fun j hj => by rw [o.2.2.2 j hj, q 23 (by decide)]⟩) (wl (dC M0 n m) l u s) 0 M1 _ (by omega) (fun _ _ _ => rfl) (fun j hj => absurd hj (by omega)) ⟨fun j hj => absurd hj (by omega), fun v hv _ => b v (by omega)⟩
  rw [(o.2.2.1 j hj).1, (o.2.2.1 j hj).2, q 21 (by decide), q 22 (by decide)]; exact ⟨rfl, rfl⟩
