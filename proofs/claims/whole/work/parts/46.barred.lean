/-! findBarred and barred. -/
/-- the barred, from arc k on -/
def bJ (M : gx_M) (D : gD) (b : Nat → Bool) (k : Nat) : Prop := (∀ j, j < k → b j = false) ∧ (∀ j, k ≤ j → j < gdm D → (b j = true ↔ gdl D j = true ∧ gdx D j ≠ 0 ∧ ∃ g, FL (dW D (brx D b j)) g)) ∧ M 0 7 = nI (up b (gdm D)) ∧ ∀ j, j < gdm D → b j = true → M 33 (up b (gdm D) - up b (j + 1)) = nI j
theorem brx_eq {D : gD} {b c : Nat → Bool} {k : Nat} (h : ∀ j, k < j → b j = c j) : brx D b k = brx D c k := by
  funext j
  unfold brx
  by_cases z : j < k
  · rw [if_pos z, if_pos z]
  · rw [if_neg z, if_neg z]
    by_cases z2 : j = k
    · rw [if_pos z2, if_pos z2]
    · rw [if_neg z2, if_neg z2, h j (by omega)]
/-- only these of the caches change while the barred are sought -/
def bF (M0 M : gx_M) : Prop := (∀ p, p ≠ 0 → p ≠ 33 → p < 11 ∨ 20 < p → M p = M0 p) ∧ ∀ j, j ≠ 7 → M 0 j = M0 0 j
set_option maxRecDepth 100000 in
set_option maxHeartbeats 4000000 in
theorem l59 {X : gx_X} {M0 : gx_M} {n m : Nat} {P : Option Value → gx_M → Prop} (W : gg_W M0 n m)
    (hP : ∀ M b, bF M0 M → stl M → bJ M (dC M0 n m) b 0 → P none (gx_w M 0 8 1)) :
    ∀ (k : Nat) (M : gx_M) (b : Nat → Bool) (v : Value), k ≤ m → bF M0 M → (∀ e, e < 61 → M 16 e = 0) → cs M M (dW (dC M0 n m) (bx (dC M0 n m) b k)) → bJ M (dC M0 n m) b k → gx_OK X 59 19 [.ref 0, .int (nI k - 1), v] [] M P := by
  have O := gok_C W
  have hm40 := W.2.2.2.1
  have z0 : (0 : Int32).toInt = 0 := by decide
  intro k
  induction k with
  | zero =>
    intro M b v hk F H S J
    refine gx_wp_ok 60 false _ _ _ _ ?_
    simp only [gx_w_np, gx_w_p, ne_eq, not_false_eq_true, gx_wp, gx_step, gx_cnd, gb0, gb1, Classical.not_not, List.getD_cons_zero, List.getD_cons_succ, List.set_cons_zero, List.set_cons_succ, List.length_cons, List.length_nil, Nat.reduceAdd, Nat.reduceLT, Nat.reduceLeDiff, Nat.reduceEqDiff, Bool.and_false, Bool.and_true, Bool.true_and, Bool.false_and, Bool.false_eq_true, if_false, if_true, ite_true, ite_false, Fin.isValue, Fin.val_zero, Fin.val_one, Fin.val_two, gz0, gz1, gz2, gz3, List.take_succ_cons, List.take_zero, List.drop_succ_cons, List.drop_zero, List.reverse_cons, List.reverse_nil, List.nil_append, List.cons_append, gx_nx, Int32.reduceToInt, Int.reduceToNat, Int.toNat_zero, Int.toNat_one, Int.reduceLT, Int.reduceLE, Int.ofNat_zero, Int.reduceNeg, Int.le_refl, and_self, List.getElem?_cons_zero, List.getElem?_cons_succ, true_and, and_true, Nat.reduceSub, List.replicate, List.append_nil, Nat.reduceLeDiff, Nat.le_add_left, Nat.zero_le, Nat.zero_add, gf3_12, gf3_131, gf3_138, gf3_19, gf3_208, gf3_43, gf3_72, gk_iconst_0, gk_iconst_1, gk_iconst_m1, gm3_162, gm3_165, gn14, gn55, gn59, gr14, gr55, gr59, gt3_7, gt3_8, gv59, gi59_0, gi59_1, gi59_4, gi59_5, gi59_6, gi59_9, gi59_10, gi59_13, gi59_16, gi59_17, gi59_18, gi59_19, gi59_20, gi59_23, gi59_24, gi59_27, gi59_30, gi59_31, gi59_32, gi59_33, gi59_34, gi59_37, gi59_38, gi59_41, gi59_44, gi59_45, gi59_46, gi59_47, gi59_48, gi59_51, gi59_54, gi59_57, gi59_58, gi59_61, gi59_64, gi59_65, gi59_66, gi59_67, gi59_68, gi59_71, gi59_72, gi59_75, gi59_76, gi59_77, gi59_78, gi59_79, gi59_82, gi59_83, gi59_84, gi59_87, gi59_90, gi59_93, gi59_94, gi59_95, gi59_98, gl0, gl1, gl2, gl3, gl4, gl5, gl6, gl7, gl8, gl9, gl10, gl11, gl12, gl13, gl14, gl15, gl16, gl17, gl18, gl19, gl20, gl21, gl22, gl23, gl24, gl25, gl26, gl27, gl28, gl29, gl30, gl31, gl32, gl33, gl34, gl35, gl36, gl37, gl38, gl39, gl40, gl41, gl42, gl43, gl44, gl45, gl46, gl47, gl48, gl49, gl50, gl51, gl52, gl53, gl54, gl55, gl56, gl57]
    refine ⟨fun _ => hP M b F (stl_nq S.2.2.1) J, fun q => absurd (by decide) q⟩
  | succ k ih =>
    intro M b v hk F H S J
    obtain ⟨j1, j2, j3, j4⟩ := id J
    have ek : nI (k + 1) - 1 = nI k := nI_pred k
    have bok : ∀ b k, gok (dW (dC M0 n m) (bx (dC M0 n m) b k)) := fun b k => bx_ok O _ (fun j => by
      unfold bx
      by_cases z : j < k
      · rw [if_pos z]; exact Or.inl rfl
      · rw [if_neg z]
        by_cases z2 : b j = true
        · rw [if_pos z2]; exact Or.inl rfl
        · rw [if_neg z2]; exact Or.inr rfl)
    have rok : gok (dW (dC M0 n m) (brx (dC M0 n m) b k)) := bx_ok O _ (fun j => by
      unfold brx
      by_cases z : j < k
      · rw [if_pos z]; exact Or.inl rfl
      · rw [if_neg z]
        by_cases z2 : j = k
        · rw [if_pos z2]; exact Or.inr rfl
        · rw [if_neg z2]
          by_cases z2 : b j = true
          · rw [if_pos z2]; exact Or.inl rfl
          · rw [if_neg z2]; exact Or.inr rfl)
    have bk : b k = false := j1 k (by omega)
    -- the least of arc k
    have l11 : dE (dC M0 n m) k = true → M 11 k = M0 8 k := fun hp => by
      have := (S.2.2.2.2 k (by omega)).2.1
      unfold nlo dL at this
      rw [if_pos (show dE (dW (dC M0 n m) (bx (dC M0 n m) b (k + 1))) k = true from hp), if_pos (by omega)] at this
      have e : gdx (dW (dC M0 n m) (bx (dC M0 n m) b (k + 1))) k = M0 8 k := by
        show (if k < k + 1 then gdx (dC M0 n m) k else _) = _
        rw [if_pos (by omega)]; rfl
      rw [e] at this
      exact i_eq.mpr this
    have l11n : dE (dC M0 n m) k = false → M 11 k = 0 := fun hp => by
      have := (S.2.2.2.2 k (by omega)).2.1
      unfold nlo dL at this
      rw [if_neg (show ¬ dE (dW (dC M0 n m) (bx (dC M0 n m) b (k + 1))) k = true by show ¬ dE (dC M0 n m) k = true; rw [hp]; decide)] at this
      exact i_eq.mpr (by rw [this, z0])
    have g8 := W.2.2.2.2.2.1 k (by omega)
    rw [ek]
    refine gx_wp_ok 60 false _ _ _ _ ?_
    simp only [gx_w_np, gx_w_p, ne_eq, not_false_eq_true, gx_wp, gx_step, gx_cnd, gb0, gb1, Classical.not_not, List.getD_cons_zero, List.getD_cons_succ, List.set_cons_zero, List.set_cons_succ, List.length_cons, List.length_nil, Nat.reduceAdd, Nat.reduceLT, Nat.reduceLeDiff, Nat.reduceEqDiff, Bool.and_false, Bool.and_true, Bool.true_and, Bool.false_and, Bool.false_eq_true, if_false, if_true, ite_true, ite_false, Fin.isValue, Fin.val_zero, Fin.val_one, Fin.val_two, gz0, gz1, gz2, gz3, List.take_succ_cons, List.take_zero, List.drop_succ_cons, List.drop_zero, List.reverse_cons, List.reverse_nil, List.nil_append, List.cons_append, gx_nx, Int32.reduceToInt, Int.reduceToNat, Int.toNat_zero, Int.toNat_one, Int.reduceLT, Int.reduceLE, Int.ofNat_zero, Int.reduceNeg, Int.le_refl, and_self, List.getElem?_cons_zero, List.getElem?_cons_succ, true_and, and_true, Nat.reduceSub, List.replicate, List.append_nil, Nat.reduceLeDiff, Nat.le_add_left, Nat.zero_le, Nat.zero_add, gf3_12, gf3_131, gf3_138, gf3_19, gf3_208, gf3_43, gf3_72, gk_iconst_0, gk_iconst_1, gk_iconst_m1, gm3_162, gm3_165, gn14, gn55, gn59, gr14, gr55, gr59, gt3_7, gt3_8, gv59, gi59_0, gi59_1, gi59_4, gi59_5, gi59_6, gi59_9, gi59_10, gi59_13, gi59_16, gi59_17, gi59_18, gi59_19, gi59_20, gi59_23, gi59_24, gi59_27, gi59_30, gi59_31, gi59_32, gi59_33, gi59_34, gi59_37, gi59_38, gi59_41, gi59_44, gi59_45, gi59_46, gi59_47, gi59_48, gi59_51, gi59_54, gi59_57, gi59_58, gi59_61, gi59_64, gi59_65, gi59_66, gi59_67, gi59_68, gi59_71, gi59_72, gi59_75, gi59_76, gi59_77, gi59_78, gi59_79, gi59_82, gi59_83, gi59_84, gi59_87, gi59_90, gi59_93, gi59_94, gi59_95, gi59_98, gl0, gl1, gl2, gl3, gl4, gl5, gl6, gl7, gl8, gl9, gl10, gl11, gl12, gl13, gl14, gl15, gl16, gl17, gl18, gl19, gl20, gl21, gl22, gl23, gl24, gl25, gl26, gl27, gl28, gl29, gl30, gl31, gl32, gl33, gl34, gl35, gl36, gl37, gl38, gl39, gl40, gl41, gl42, gl43, gl44, gl45, gl46, gl47, gl48, gl49, gl50, gl51, gl52, gl53, gl54, gl55, gl56, gl57]
    have e1 : nI k + -1 = nI k - 1 := by rw [i_eq, Int32.toInt_add, Int32.toInt_sub]; rfl
    rw [e1]
    simp (disch := first | decide | omega) only [gx_w_np, gx_w_p, Int32.reduceToInt, Int.toNat_natCast, if_true, if_false, nI_1, nI_pred, i_nI, ite_true, ite_false, Int.reduceToNat, Nat.reduceEqDiff, Nat.reduceAdd, i_lt, i_le]
    -- not barred
    have no : ∀ M2 v2, bF M0 M2 → (∀ e, e < 61 → M2 16 e = 0) → M2 0 7 = M 0 7 → M2 33 = M 33 → cs M2 M2 (dW (dC M0 n m) (bx (dC M0 n m) b k)) → ¬ (gdl (dC M0 n m) k = true ∧ gdx (dC M0 n m) k ≠ 0 ∧ ∃ g, FL (dW (dC M0 n m) (brx (dC M0 n m) b k)) g) → gx_OK X 59 19 [.ref 0, .int (nI k - 1), v2] [] M2 P := by
      intro M2 v2 F2 H2 c7 c33 S2 hno
      refine ih M2 b v2 (by omega) F2 H2 S2 ⟨fun j hj => j1 j (by omega), fun j h1 h2 => ?_, by rw [c7]; exact j3, fun j hj hb => by rw [c33]; exact j4 j hj hb⟩
      by_cases z : j = k
      · subst z
        rw [bk]
        exact ⟨fun q => (by cases q), fun q => absurd q hno⟩
      · exact j2 j (by omega) h2
    refine ⟨fun q => absurd q (by omega), fun _ => ⟨by omega, fun q => ?_, fun q => ⟨by omega, ?_⟩⟩⟩
    · -- its least is 0
      refine no M _ F H rfl rfl (cs_W (bok b k) S (fun _ _ _ _ => rfl) (fun e he => ?_) M (fun _ _ => rfl)) (fun h => ?_)
      · by_cases z : e < 40
        · rw [if_pos z]
          by_cases z2 : dE (dC M0 n m) e = true
          · rw [if_pos z2]
            have t := (S.2.2.2.2 e he).2.1
            unfold nlo dL at t
            rw [if_pos (show dE (dW (dC M0 n m) (bx (dC M0 n m) b (k + 1))) e = true from z2), if_pos z] at t
            have t := i_eq.mpr t
            rw [t]
            show bx (dC M0 n m) b (k + 1) e = bx (dC M0 n m) b k e
            unfold bx
            by_cases z3 : e = k
            · rw [if_pos (by omega), if_neg (by omega), z3, bk, if_neg (by decide)]
              rw [z3] at z2
              have := l11 z2
              rw [this] at q
              show M0 8 k = 0
              exact i_eq.mpr (by rw [z0]; omega)
            · by_cases z4 : e < k
              · rw [if_pos (by omega), if_pos z4]
              · rw [if_neg (by omega), if_neg z4]
          · rw [if_neg z2]
        · rw [if_neg z]
      · have hp : dE (dC M0 n m) k = true := (dE1 (by omega)).mpr ⟨show k < m by omega, h.1⟩
        have := l11 hp
        rw [this] at q
        exact h.2.1 (i_eq.mpr (by rw [z0]; show (M0 8 k).toInt = 0; omega))
    · have hp : dE (dC M0 n m) k = true := by
        cases w : dE (dC M0 n m) k with
        | true => rfl
        | false =>
          have := l11n w
          rw [this, z0] at q
          omega
      have l1 := l11 hp
      have hal : gdl (dC M0 n m) k = true := ((dE1 (by omega)).mp hp).2
      have hx : gdx (dC M0 n m) k ≠ 0 := fun z => by
        have z : M0 8 k = 0 := z
        rw [l1, z, z0] at q; omega
      rw [l1]
      have t : ∀ e, e < 40 → dE (dC M0 n m) e = true → M 11 e = bx (dC M0 n m) b (k + 1) e := fun e he z2 => by
        have t := (S.2.2.2.2 e (by omega)).2.1
        unfold nlo dL at t
        rw [if_pos (show dE (dW (dC M0 n m) (bx (dC M0 n m) b (k + 1))) e = true from z2), if_pos he] at t
        exact i_eq.mpr t
      have S2 : cs (gx_w M 11 k 0) (gx_w M 11 k 0) (dW (dC M0 n m) (brx (dC M0 n m) b k)) := cs_W rok S (fun p h _ _ => by funext j; rw [gx_w_np h]) (fun e he => by
        rw [gx_w_p]
        by_cases z3 : e = k
        · rw [if_pos z3, if_pos (by omega), z3, if_pos hp]
          unfold brx
          rw [if_neg (by omega), if_pos rfl]
        · rw [if_neg z3]
          by_cases z : e < 40
          · rw [if_pos z]
            by_cases z2 : dE (dC M0 n m) e = true
            · rw [if_pos z2, t e z z2]
              unfold bx brx
              by_cases z4 : e < k
              · rw [if_pos (by omega), if_pos z4]
              · rw [if_neg (by omega), if_neg z4, if_neg z3]
            · rw [if_neg z2]
          · rw [if_neg z]) _ (fun _ _ => rfl)
      refine sp_mend S2.2.1 S2.2.2.1 S2.2.2.2.1 (fun e he => by rw [gx_w_np (by decide)]; exact H e he) (fun M1 N1 H1 L1 => ?_) (fun M1 N1 H1 L1 => ?_)
      · -- there is a flow: it is barred
        intro z hz
        cases hz
        refine ⟨fun q => absurd q (by decide), fun _ => ?_⟩
        have S3 := cs_ns S2 N1
        have FLk : ∃ g, FL (dW (dC M0 n m) (brx (dC M0 n m) b k)) g := ⟨_, cs_FL rok S3 (cs_lo S3 L1)⟩
        have f7 : M1 0 7 = nI (up b m) := by rw [N1.1 0 (by decide) (by decide) (by decide) (by decide), gx_w_np (by decide)]; exact j3
        have lt := up_lt bk m (by omega)
        rw [f7]
        simp (disch := first | decide | omega) only [gx_w_np, gx_w_p, Int32.reduceToInt, Int.toNat_natCast, if_true, if_false, nI_1, nI_pred, i_nI, ite_true, ite_false, Int.reduceToNat, Nat.reduceEqDiff, Nat.reduceAdd]
        refine ⟨by omega, by omega, ?_⟩
        have fr : ∀ p, p ≠ 11 → p ≠ 15 → p ≠ 16 → p ≠ 19 → p ≠ 20 → M1 p = M p := fun p a b c d e => by
          rw [N1.1 p b c d e]; funext j; rw [gx_w_np a]
        generalize hM2 : gx_w (gx_w (gx_w M1 11 k (M0 8 k)) 33 (up b m) (nI k)) 0 7 (nI (up b m + 1)) = M2
        have p2 : ∀ p, p ≠ 11 → p ≠ 0 → p ≠ 33 → M2 p = M1 p := fun p a b c => by
          rw [← hM2]; funext j; rw [gx_w_np b, gx_w_np c, gx_w_np a]
        have e11 : ∀ e, M2 11 e = if e = k then M0 8 k else M1 11 e := fun e => by
          rw [← hM2, gx_w_np (by decide), gx_w_np (by decide), gx_w_p]
        have e33 : ∀ e, M2 33 e = if e = up b m then nI k else M 33 e := fun e => by
          rw [← hM2, gx_w_np (by decide), gx_w_p, gx_w_np (by decide), fr 33 (by decide) (by decide) (by decide) (by decide) (by decide)]
        have e0 : ∀ e, M2 0 e = if e = 7 then nI (up b m + 1) else M 0 e := fun e => by
          rw [← hM2, gx_w_p, gx_w_np (by decide), gx_w_np (by decide), fr 0 (by decide) (by decide) (by decide) (by decide) (by decide)]
        have uu := fun j => up_up (b := b) (a := k) bk j
        refine ih M2 (fun i => if i = k then true else b i) _ (by omega) ⟨fun p a b c => ?_, fun j hj => ?_⟩ (fun e he => ?_) ?_ ⟨fun j hj => ?_, fun j h1 h2 => ?_, ?_, fun j hj hb => ?_⟩
        · rw [p2 p (by omega) a b, fr p (by omega) (by omega) (by omega) (by omega) (by omega)]
          exact F.1 p a b c
        · rw [e0, if_neg hj]; exact F.2 j hj
        · rw [p2 16 (by decide) (by decide) (by decide)]; exact H1 e he
        · refine cs_W (bok _ k) S3 p2 (fun e he => ?_) M2 (fun _ _ => rfl)
          rw [e11]
          have m11 : ∀ e, M1 11 e = if e = k then 0 else M 11 e := fun e => by rw [N1.1 11 (by decide) (by decide) (by decide) (by decide), gx_w_p]
          by_cases z3 : e = k
          · rw [if_pos z3, if_pos (by omega), z3, if_pos hp]
            unfold bx
            rw [if_neg (by omega), if_pos (by simp)]; rfl
          · rw [if_neg z3]
            by_cases z : e < 40
            · rw [if_pos z]
              by_cases z2 : dE (dC M0 n m) e = true
              · rw [if_pos z2, m11, if_neg z3, t e z z2]
                unfold bx
                by_cases z4 : e < k
                · rw [if_pos (by omega), if_pos z4]
                · rw [if_neg (by omega), if_neg z4]
                  show _ = (if (if e = k then true else b e) = true then _ else _)
                  rw [if_neg z3]
              · rw [if_neg z2]
            · rw [if_neg z]
        · show (if j = k then true else b j) = false
          rw [if_neg (by omega)]; exact j1 j (by omega)
        · by_cases z : j = k
          · subst z
            have : brx (dC M0 n m) (fun i => if i = j then true else b i) j = brx (dC M0 n m) b j := brx_eq (fun i hi => by rw [if_neg (by omega)])
            rw [this]
            exact ⟨fun _ => ⟨hal, hx, FLk⟩, fun _ => by show (if j = j then true else b j) = true; rw [if_pos rfl]⟩
          · have : brx (dC M0 n m) (fun i => if i = k then true else b i) j = brx (dC M0 n m) b j := brx_eq (fun i hi => by rw [if_neg (by omega)])
            rw [this]
            show (if j = k then true else b j) = true ↔ _
            rw [if_neg z]
            exact j2 j (by omega) h2
        · rw [e0, if_pos rfl]
          show _ = nI (up (fun i => if i = k then true else b i) m)
          rw [uu, if_pos (by omega)]
        · show M2 33 (up (fun i => if i = k then true else b i) m - up (fun i => if i = k then true else b i) (j + 1)) = nI j
          have hb : (if j = k then true else b j) = true := hb
          have hj : j < m := hj
          rw [uu, uu, if_pos (show k < m by omega)]
          by_cases z : j = k
          · rw [z, if_pos (by omega), show up b (k + 1) = 0 from up_0 (k := k + 1) j1 (k + 1) (Nat.le_refl _), e33, if_pos (by omega)]
          · rw [if_neg z] at hb
            have hk : ¬ j < k + 1 := fun q => by rw [j1 j q] at hb; cases hb
            rw [if_pos (by omega), e33, if_neg ?_]
            · rw [show up b m + 1 - (up b (j + 1) + 1) = up b m - up b (j + 1) by omega]
              exact j4 j hj hb
            · have h1 : up b (j + 1) = up b j + 1 := by show up b j + (if b j = true then 1 else 0) = _; rw [if_pos hb]
              have h2 := up_mono (b := b) (i := j + 1) m (by omega)
              omega
      · -- none: its least stays 0
        intro z hz
        cases hz
        refine ⟨fun _ => ?_, fun q => absurd rfl q⟩
        have S3 := cs_ns S2 N1
        have fr : ∀ p, p ≠ 11 → p ≠ 15 → p ≠ 16 → p ≠ 19 → p ≠ 20 → M1 p = M p := fun p a b c d e => by
          rw [N1.1 p b c d e]; funext j; rw [gx_w_np a]
        refine no M1 _ ⟨fun p a b c => ?_, fun j hj => ?_⟩ H1 (by rw [fr 0 (by decide) (by decide) (by decide) (by decide) (by decide)]) (fr 33 (by decide) (by decide) (by decide) (by decide) (by decide)) (cs_W (bok b k) S3 (fun _ _ _ _ => rfl) (fun e he => ?_) M1 (fun _ _ => rfl)) (fun h => L1 ((cs_feas rok S3).mpr h.2.2))
        · rw [fr p (by omega) (by omega) (by omega) (by omega) (by omega)]; exact F.1 p a b c
        · rw [fr 0 (by decide) (by decide) (by decide) (by decide) (by decide)]; exact F.2 j hj
        · have m11 : ∀ e, M1 11 e = if e = k then 0 else M 11 e := fun e => by rw [N1.1 11 (by decide) (by decide) (by decide) (by decide), gx_w_p]
          by_cases z : e < 40
          · rw [if_pos z]
            by_cases z2 : dE (dC M0 n m) e = true
            · rw [if_pos z2, m11]
              by_cases z3 : e = k
              · rw [if_pos z3, z3]
                unfold bx
                rw [if_neg (by omega), bk, if_neg (by decide)]
              · rw [if_neg z3, t e z z2]
                unfold bx
                by_cases z4 : e < k
                · rw [if_pos (by omega), if_pos z4]
                · rw [if_neg (by omega), if_neg z4]
            · rw [if_neg z2]
          · rw [if_neg z]
set_option maxRecDepth 100000 in
set_option maxHeartbeats 4000000 in
theorem s_findBarred {X : gx_X} {M : gx_M} {n m : Nat} {P : Option Value → gx_M → Prop} (C : ck M n m)
    (hP : ∀ M1, cf M M1 → ck M1 n m → M1 0 8 ≠ 0 → P none M1) : gx_C X 59 [.ref 0] M P := by
  obtain ⟨W, S, CC⟩ := id C
  have O := gok_C W
  have hm40 := W.2.2.2.1
  refine gx_C_wp 30 ?_
  simp only [gx_w_np, gx_w_p, ne_eq, not_false_eq_true, gx_wp, gx_step, gx_cnd, gb0, gb1, Classical.not_not, List.getD_cons_zero, List.getD_cons_succ, List.set_cons_zero, List.set_cons_succ, List.length_cons, List.length_nil, Nat.reduceAdd, Nat.reduceLT, Nat.reduceLeDiff, Nat.reduceEqDiff, Bool.and_false, Bool.and_true, Bool.true_and, Bool.false_and, Bool.false_eq_true, if_false, if_true, ite_true, ite_false, Fin.isValue, Fin.val_zero, Fin.val_one, Fin.val_two, gz0, gz1, gz2, gz3, List.take_succ_cons, List.take_zero, List.drop_succ_cons, List.drop_zero, List.reverse_cons, List.reverse_nil, List.nil_append, List.cons_append, gx_nx, Int32.reduceToInt, Int.reduceToNat, Int.toNat_zero, Int.toNat_one, Int.reduceLT, Int.reduceLE, Int.ofNat_zero, Int.reduceNeg, Int.le_refl, and_self, List.getElem?_cons_zero, List.getElem?_cons_succ, true_and, and_true, Nat.reduceSub, List.replicate, List.append_nil, Nat.reduceLeDiff, Nat.le_add_left, Nat.zero_le, Nat.zero_add, gf3_12, gf3_131, gf3_138, gf3_19, gf3_208, gf3_43, gf3_72, gk_iconst_0, gk_iconst_1, gk_iconst_m1, gm3_162, gm3_165, gn14, gn55, gn59, gr14, gr55, gr59, gt3_7, gt3_8, gv59, gi59_0, gi59_1, gi59_4, gi59_5, gi59_6, gi59_9, gi59_10, gi59_13, gi59_16, gi59_17, gi59_18, gi59_19, gi59_20, gi59_23, gi59_24, gi59_27, gi59_30, gi59_31, gi59_32, gi59_33, gi59_34, gi59_37, gi59_38, gi59_41, gi59_44, gi59_45, gi59_46, gi59_47, gi59_48, gi59_51, gi59_54, gi59_57, gi59_58, gi59_61, gi59_64, gi59_65, gi59_66, gi59_67, gi59_68, gi59_71, gi59_72, gi59_75, gi59_76, gi59_77, gi59_78, gi59_79, gi59_82, gi59_83, gi59_84, gi59_87, gi59_90, gi59_93, gi59_94, gi59_95, gi59_98, gl0, gl1, gl2, gl3, gl4, gl5, gl6, gl7, gl8, gl9, gl10, gl11, gl12, gl13, gl14, gl15, gl16, gl17, gl18, gl19, gl20, gl21, gl22, gl23, gl24, gl25, gl26, gl27, gl28, gl29, gl30, gl31, gl32, gl33, gl34, gl35, gl36, gl37, gl38, gl39, gl40, gl41, gl42, gl43, gl44, gl45, gl46, gl47, gl48, gl49, gl50, gl51, gl52, gl53, gl54, gl55, gl56, gl57]
  refine sp_lay W S (fun M1 S1 H1 f1 _ => ?_)
  have e8 : M1 1 8 = nI m := by rw [S1.1 1 (by omega)]; exact W.2.1
  rw [e8]
  have S2 : cs (gx_w M1 0 7 0) (gx_w M1 0 7 0) (dW (dC M n m) (bx (dC M n m) (fun _ => false) m)) := by
    have S1' : cs M M1 (dW (dC M n m) (gdx (dC M n m))) := S1
    refine cs_W (bx_ok O _ (fun j => ?_)) S1' (fun p _ h _ => by funext j; rw [gx_w_np h]) (fun e he => ?_) _ (fun _ _ => rfl)
    · unfold bx
      by_cases z : j < m
      · rw [if_pos z]; exact Or.inl rfl
      · rw [if_neg z, if_neg (fun h => by cases h)]; exact Or.inr rfl
    · rw [gx_w_np (by decide)]
      by_cases z : e < 40
      · rw [if_pos z]
        by_cases z2 : dE (dC M n m) e = true
        · rw [if_pos z2]
          have t := (S1.2.2.2.2 e he).2.1
          unfold nlo dL at t
          rw [if_pos z2, if_pos z] at t
          unfold bx
          rw [if_pos (show e < m from ((dE1 z).mp z2).1)]
          exact i_eq.mpr t
        · rw [if_neg z2]
      · rw [if_neg z]
  refine l59 W (fun M2 b F2 s2 J => ?_) m (gx_w M1 0 7 0) (fun _ => false) _ (Nat.le_refl _) ⟨fun p a b c => ?_, fun j hj => ?_⟩ (fun e he => by rw [gx_w_np (by decide)]; exact H1 e he) S2 ⟨fun _ _ => rfl, fun j h1 h2 => absurd h2 (by show ¬ j < m; omega), ?_, fun j _ h => (by cases h)⟩
  · obtain ⟨j1, j2, j3, j4⟩ := J
    have e0 : ∀ e, (gx_w M2 0 8 1) 0 e = if e = 8 then 1 else M2 0 e := fun e => by rw [gx_w_p]
    have ep : ∀ p, p ≠ 0 → (gx_w M2 0 8 1) p = M2 p := fun p h => by funext j; rw [gx_w_np h]
    have F : cf M (gx_w M2 0 8 1) := fun p hp => by rw [ep p (by omega)]; exact F2.1 p (by omega) (by omega) (by omega)
    have fp : ∀ p, p ≠ 0 → p ≠ 33 → p < 11 ∨ 20 < p → (gx_w M2 0 8 1) p = M p := fun p a b c => by rw [ep p a]; exact F2.1 p a b c
    have f0 : ∀ e, e ≠ 8 → e ≠ 7 → (gx_w M2 0 8 1) 0 e = M 0 e := fun e a b => by rw [e0, if_neg a]; exact F2.2 e b
    refine hP _ F ⟨W_cf F W, ?_, ?_⟩ (by rw [e0, if_pos rfl]; decide)
    · intro e he
      rw [ep 13 (by decide), ep 14 (by decide)]; exact s2 e he
    · rw [dC_cf n m F]
      obtain ⟨c1, c2, c3, c4, c5⟩ := CC
      refine ⟨?_, ?_, ?_, fun _ => ⟨b, fun j hj => j2 j (by omega) hj, by rw [e0, if_neg (by decide)]; exact j3, fun j hj h => by rw [ep 33 (by decide)]; exact j4 j hj h⟩, ?_⟩
      · have : sv (gx_w M2 0 8 1) 28 = sv M 28 := by unfold sv; rw [fp 28 (by decide) (by decide) (by omega)]
        rw [f0 10 (by decide) (by decide), f0 11 (by decide) (by decide), this]; exact c1
      · have : sv (gx_w M2 0 8 1) 30 = sv M 30 := by unfold sv; rw [fp 30 (by decide) (by decide) (by omega)]
        rw [fp 32 (by decide) (by decide) (by omega), this]; exact c2
      · have : sv (gx_w M2 0 8 1) 31 = sv M 31 := by unfold sv; rw [fp 31 (by decide) (by decide) (by omega)]
        rw [fp 32 (by decide) (by decide) (by omega), this]; exact c3
      · rw [f0 9 (by decide) (by decide)]
        exact fun q => CP_eq (fp 3 (by decide) (by decide) (by omega)) (fp 21 (by decide) (by decide) (by omega)) (fp 22 (by decide) (by decide) (by omega)) (fp 23 (by decide) (by decide) (by omega)) (c5 q)
  · rw [← S1.1 p c]; funext j; rw [gx_w_np a]
  · rw [gx_w_p, if_neg hj, S1.1 0 (by omega)]
  · rw [gx_w_p, if_pos rfl]
    have : up (fun _ => false) (gdm (dC M n m)) = 0 := up_0 (k := gdm (dC M n m)) (fun _ _ => rfl) _ (Nat.le_refl _)
    rw [this, nI_0]
theorem up_at {b : Nat → Bool} {k : Nat} : ∀ m, k < up b m → ∃ j, j < m ∧ b j = true ∧ up b j = k
  | 0, h => absurd h (by show ¬ k < 0; omega)
  | m + 1, h => by
    have h : k < up b m + (if b m = true then 1 else 0) := h
    by_cases z : k < up b m
    · obtain ⟨j, a, c, d⟩ := up_at m z
      exact ⟨j, by omega, c, d⟩
    · by_cases z2 : b m = true
      · rw [if_pos z2] at h
        exact ⟨m, by omega, z2, by omega⟩
      · rw [if_neg z2] at h; omega
set_option maxRecDepth 100000 in
set_option maxHeartbeats 4000000 in
theorem s_barred {X : gx_X} {M : gx_M} {n m : Nat} {a : Int32} {P : Option Value → gx_M → Prop} (C : ck M n m)
    (h1 : ∀ M1, cf M M1 → ck M1 n m → (∃ g, FL (dC M n m) g) → P (some (.int (-2))) M1)
    (h2 : ∀ M1 b, cf M M1 → ck M1 n m → (¬ ∃ g, FL (dC M n m) g) → BR (dC M n m) b → ¬ (0 ≤ a.toInt ∧ a.toInt < up b m) → P (some (.int (-1))) M1)
    (h3 : ∀ M1 b j, cf M M1 → ck M1 n m → (¬ ∃ g, FL (dC M n m) g) → BR (dC M n m) b → j < m → b j = true → (up b j : Int) = a.toInt → P (some (.int (nI j))) M1) : gx_C X 45 [.ref 0, .int a] M P := by
  have hm40 := C.1.2.2.2.1
  refine gx_C_wp 60 ?_
  simp only [gx_w_np, gx_w_p, ne_eq, not_false_eq_true, gx_wp, gx_step, gx_cnd, gb0, gb1, Classical.not_not, List.getD_cons_zero, List.getD_cons_succ, List.set_cons_zero, List.set_cons_succ, List.length_cons, List.length_nil, Nat.reduceAdd, Nat.reduceLT, Nat.reduceLeDiff, Nat.reduceEqDiff, Bool.and_false, Bool.and_true, Bool.true_and, Bool.false_and, Bool.false_eq_true, if_false, if_true, ite_true, ite_false, Fin.isValue, Fin.val_zero, Fin.val_one, Fin.val_two, gz0, gz1, gz2, gz3, List.take_succ_cons, List.take_zero, List.drop_succ_cons, List.drop_zero, List.reverse_cons, List.reverse_nil, List.nil_append, List.cons_append, gx_nx, Int32.reduceToInt, Int.reduceToNat, Int.toNat_zero, Int.toNat_one, Int.reduceLT, Int.reduceLE, Int.ofNat_zero, Int.reduceNeg, Int.le_refl, and_self, List.getElem?_cons_zero, List.getElem?_cons_succ, true_and, and_true, Nat.reduceSub, List.replicate, List.append_nil, Nat.reduceLeDiff, Nat.le_add_left, Nat.zero_le, Nat.zero_add, gf3_131, gf3_138, gf3_43, gk_bipush_m2, gk_iconst_1, gk_iconst_m1, gm3_135, gm3_95, gn45, gn53, gn59, gr45, gr53, gr59, gv45, gi45_0, gi45_1, gi45_4, gi45_7, gi45_9, gi45_10, gi45_11, gi45_14, gi45_17, gi45_18, gi45_21, gi45_22, gi45_25, gi45_26, gi45_27, gi45_30, gi45_33, gi45_34, gi45_35, gi45_36, gi45_39, gi45_40, gi45_43, gi45_44, gi45_45, gi45_46, gi45_47, gi45_48, gl0, gl1, gl2, gl3, gl4, gl5, gl6, gl7, gl8, gl9, gl10, gl11, gl12, gl13, gl14, gl15, gl16, gl17, gl18, gl19, gl20, gl21, gl22, gl23, gl24, gl25, gl26, gl27, gl28, gl29, gl30, gl31, gl32, gl33, gl34, gl35, gl36, gl37, gl38, gl39, gl40, gl41, gl42, gl43, gl44, gl45, gl46, gl47, gl48, gl49, gl50, gl51, gl52, gl53, gl54, gl55, gl56, gl57]
  refine s_hasFlow C (fun M1 F1 C1 t1 t2 => ?_) (fun M1 F1 C1 t1 => ?_)
  · intro z hz
    cases hz
    refine ⟨fun q => absurd q (by decide), fun _ => h1 M1 F1 C1 ?_⟩
    rcases C1.2.2.1 t1 with ⟨x, y⟩ | ⟨x, y⟩
    · rw [dC_cf n m F1] at y; exact ⟨_, y⟩
    · rw [x] at t2; exact absurd t2 (by decide)
  · intro z hz
    cases hz
    have fin : ∀ M2, cf M M2 → ck M2 n m → M2 0 8 ≠ 0 → (a < 0 → P (some (.int (-1))) M2) ∧ (¬ a < 0 → (a < M2 0 7 → (0 ≤ (M2 0 7 - 1 - a).toInt ∧ (M2 0 7 - 1 - a).toInt < ((40 : Nat) : Int)) ∧ P (some (.int (M2 33 (M2 0 7 - 1 - a).toInt.toNat))) M2) ∧ (¬ a < M2 0 7 → P (some (.int (-1))) M2)) := by
      intro M2 F2 C2 h8
      have CBx := C2.2.2.2.2.2.1 h8
      rw [dC_cf n m F2] at CBx
      obtain ⟨b, b1, b2, b3⟩ := CBx
      have b2 : M2 0 7 = nI (up b m) := b2
      have ul := up_le (b := b) m
      rw [b2]
      have e1 : (nI (up b m) - 1).toInt = (up b m : Int) - 1 := by rw [i_sub (by simp (disch := first | decide | omega) only [gx_w_np, gx_w_p, Int32.reduceToInt, Int.toNat_natCast, if_true, if_false, nI_1, nI_pred, i_nI, ite_true, ite_false, Int.reduceToNat, Nat.reduceEqDiff, Nat.reduceAdd]; omega) (by simp (disch := first | decide | omega) only [gx_w_np, gx_w_p, Int32.reduceToInt, Int.toNat_natCast, if_true, if_false, nI_1, nI_pred, i_nI, ite_true, ite_false, Int.reduceToNat, Nat.reduceEqDiff, Nat.reduceAdd]; omega)]; simp (disch := first | decide | omega) only [gx_w_np, gx_w_p, Int32.reduceToInt, Int.toNat_natCast, if_true, if_false, nI_1, nI_pred, i_nI, ite_true, ite_false, Int.reduceToNat, Nat.reduceEqDiff, Nat.reduceAdd]
      simp (disch := first | decide | omega) only [gx_w_np, gx_w_p, Int32.reduceToInt, Int.toNat_natCast, if_true, if_false, nI_1, nI_pred, i_nI, ite_true, ite_false, Int.reduceToNat, Nat.reduceEqDiff, Nat.reduceAdd, i_lt]
      refine ⟨fun q => h2 M2 b F2 C2 t1 b1 (by omega), fun q => ⟨fun q2 => ?_, fun q2 => h2 M2 b F2 C2 t1 b1 (by omega)⟩⟩
      have e2 : (nI (up b m) - 1 - a).toInt = (up b m : Int) - 1 - a.toInt := by rw [i_sub (by rw [e1]; omega) (by rw [e1]; omega), e1]
      rw [e2]
      obtain ⟨j, d1, d2, d3⟩ := up_at (b := b) (k := a.toInt.toNat) m (by omega)
      have d4 := b3 j d1 d2
      have d5 : up b (j + 1) = up b j + 1 := by show up b j + (if b j = true then 1 else 0) = _; rw [if_pos d2]
      have d6 : up b m - up b (j + 1) = ((up b m : Int) - 1 - a.toInt).toNat := by omega
      have d4 : M2 33 (up b m - up b (j + 1)) = nI j := d4
      rw [d6] at d4
      rw [d4]
      exact ⟨by omega, h3 M2 b j F2 C2 t1 b1 d1 d2 (by omega)⟩
    refine ⟨fun _ => ⟨fun q => fin M1 F1 C1 q, fun q => ?_⟩, fun q => absurd rfl q⟩
    exact s_findBarred C1 (fun M2 F2 C2 h8 => fin M2 (cf_t F1 F2) C2 h8)
