/-! first(way). -/
theorem cs_load {M0 M1 M2 : gx_M} {D : gD} {f : Nat → Int} (O : gok D) (S : cs M0 M1 D) (F : FL D f) (h : ∀ p, p ≠ 15 → M2 p = M1 p) (hf : ∀ e, e < 61 → nf M2 e = f e) : cs M0 M2 D ∧ FL D (nf M2) := by
  obtain ⟨s1, s2, s3, s4, s5⟩ := id S
  have F2 : FL D (nf M2) := FL_congr (fun e he => (hf e he).symm) F
  have b := (nD_FL O s2 s5).mpr F2
  have nn := FL_nn O F2
  refine ⟨⟨fun p hp => by rw [h p (by omega), s1 p hp], ⟨st_H_eq2 (h 13 (by decide)) (h 14 (by decide)) (h 17 (by decide)) (h 18 (by decide)) s2.1, fun e he => ?_⟩, nq_eq (h 13 (by decide)) (h 14 (by decide)) s3, ?_, ?_⟩, F2⟩
  · have k := s2.2 e he
    have e1 : nlo M2 e = nlo M1 e := by unfold nlo; rw [h 11 (by decide)]
    have e2 : nhi M2 e = nhi M1 e := by unfold nhi; rw [h 12 (by decide)]
    have k2 := b.2 e he
    rw [e1, e2]
    exact ⟨k.1, k.2.1, k.2.2.1, (nn e he).1, k2.2, k.2.2.2.2.2⟩
  · intro v hv
    have := b.1 v hv
    unfold na nb at this ⊢
    rw [h 13 (by decide), h 14 (by decide)]
    exact this
  · unfold nD na nb nlo nhi
    rw [h 11 (by decide), h 12 (by decide), h 13 (by decide), h 14 (by decide)]
    exact s5
theorem cs_60 {M0 M : gx_M} {D : gD} (S : cs M0 M D) : 100000 ≤ nhi M 60 ∧ na M 60 ≠ nb M 60 ∧ 0 ≤ (M 13 60).toInt ∧ 0 ≤ (M 14 60).toInt ∧ nlo M 60 = 0 := by
  obtain ⟨s1, s2, s3, s4, s5⟩ := S
  obtain ⟨a, b, c, d, e⟩ := s3 60 (by omega)
  obtain ⟨k1, k2, k3⟩ := s5 60 (by omega)
  have h : dH D 1000000 60 = 1000000 := by unfold dH; rw [if_pos dE4, if_neg (by omega), if_neg (by omega), if_neg (by omega)]
  have l : dL D 0 60 = 0 := by unfold dL; rw [if_pos dE4, if_neg (by omega), if_neg (by omega)]
  exact ⟨by omega, e dE4, a, b, by omega⟩
/-- raise on the edge that leads back: as much as there can be, at most l -/
theorem s_raise60 {X : gx_X} {M0 M : gx_M} {D : gD} {l : Int32} {P : Option Value → gx_M → Prop} (O : gok D) (S : cs M0 M D) (F : FL D (nf M)) (H : ∀ e, e < 61 → M 16 e = 0) (hl0 : 0 ≤ l.toInt) (hl : l.toInt ≤ 100000)
    (hP : ∀ (c : Int32) (M2 : gx_M), 0 ≤ c.toInt → c.toInt ≤ l.toInt → cs M0 M2 D → FL D (nf M2) → (∀ e, e < 61 → M2 16 e = 0) → nf M2 60 = nf M 60 + c.toInt → (c.toInt < l.toInt → ∀ g, FL D g → g 60 ≤ nf M2 60) → P (some (.int c)) M2) : gx_C X 15 [.ref 2, .int 60, .int l] M P := by
  obtain ⟨s1, s2, s3, s4, s5⟩ := id S
  obtain ⟨k1, k2, k3, k4, k5⟩ := cs_60 S
  have nn := FL_nn O F 60 (by omega)
  rw [show (60 : Int32) = nI 60 by decide]
  refine sp_raise (ep := dE D) (by omega) s2 (fun e he => ⟨(s3 e he).2.2.1, (s3 e he).2.2.2.1⟩) k2 ⟨k3, k4⟩ hl0 (by omega) s4 (fun c M2 c1 c2 c3 R K => ?_)
  obtain ⟨S2, F2⟩ := cs_rz O (by omega) S F R (by omega) c3
  have fr := FL_free O F2 60 (by omega) (by omega)
  have e60 := R.2.2.1
  refine hP c M2 c1 c2 S2 F2 (fun e he => ?_) e60 (fun hlt g hg => ?_)
  · rw [R.2.1 e]
    by_cases z : e = 60
    · rw [if_pos z]
    · rw [if_neg z]; exact H e he
  · rcases K with K | K | K
    · omega
    · omega
    · have gb := (nD_FL O s2 s5).mpr hg
      exact K g gb.1 (fun j hj _ => ⟨(gb.2 j hj).1, (gb.2 j hj).2, fun z => absurd (H j hj) z⟩)
theorem s_lower60 {X : gx_X} {M0 M : gx_M} {D : gD} {P : Option Value → gx_M → Prop} (O : gok D) (S : cs M0 M D) (F : FL D (nf M)) (H : ∀ e, e < 61 → M 16 e = 0)
    (hP : ∀ (M2 : gx_M), cs M0 M2 D → FL D (nf M2) → (∀ e, e < 61 → M2 16 e = 0) → (∀ g, FL D g → nf M2 60 ≤ g 60) → P none M2) : gx_C X 16 [.ref 2, .int 60] M P := by
  obtain ⟨s1, s2, s3, s4, s5⟩ := id S
  obtain ⟨k1, k2, k3, k4, k5⟩ := cs_60 S
  have nn := FL_nn O F 60 (by omega)
  have n2 := s2.2 60 (by omega)
  rw [show (60 : Int32) = nI 60 by decide]
  refine sp_lower (ep := dE D) (by omega) s2 (fun e he => ⟨(s3 e he).2.2.1, (s3 e he).2.2.2.1⟩) k2 ⟨k3, k4⟩ (by omega) s4 (fun c M2 c1 c2 R K => ?_)
  obtain ⟨S2, F2⟩ := cs_rz O (by omega) S F R (by omega) (by omega)
  refine hP M2 S2 F2 (fun e he => ?_) (fun g hg => ?_)
  · rw [R.2.1 e]
    by_cases z : e = 60
    · rw [if_pos z]
    · rw [if_neg z]; exact H e he
  · have gb := (nD_FL O s2 s5).mpr hg
    exact K g gb.1 (fun j hj => ⟨(gb.2 j hj).1, (gb.2 j hj).2, fun _ z => absurd (H j hj) z⟩)
theorem fj_0 {M0 M : gx_M} {D : gD} {w : Nat} (S : cs M0 M D) (F : FL D (nf M)) (H : ∀ e, e < 61 → M 16 e = 0) (h : ∀ g, FL D g → if w = 0 then g 60 ≤ nf M 60 else nf M 60 ≤ g 60) : fj M0 (gx_w M 16 60 1) D w 0 := by
  have en : nf (gx_w M 16 60 1) = nf M := by unfold nf; funext e; rw [gx_w_np (by decide)]
  have e1 : ∀ p, p ≠ 16 → (gx_w M 16 60 1) p = M p := fun p hp => by funext i; rw [gx_w_np hp]
  obtain ⟨s1, s2, s3, s4, s5⟩ := S
  refine ⟨⟨fun p hp => by rw [e1 p (by omega), s1 p hp], nv_w s2, ?_, ?_, ?_⟩, by rw [en]; exact F, fun e he => ?_, by rw [en]; exact h, fun i hi => absurd hi (by omega)⟩
  · unfold nq na nb; rw [e1 13 (by decide), e1 14 (by decide)]; exact s3
  · unfold circ nf na nb; rw [e1 13 (by decide), e1 14 (by decide), e1 15 (by decide)]; exact s4
  · unfold nD na nb nlo nhi; rw [e1 13 (by decide), e1 14 (by decide), e1 11 (by decide), e1 12 (by decide)]; exact s5
  · rw [gx_w_p]
    by_cases z : e = 60
    · rw [if_pos z]; exact ⟨fun _ => Or.inl z, fun _ => by decide⟩
    · rw [if_neg z, H e he]
      exact ⟨fun q => absurd rfl q, fun q => by omega⟩
set_option maxRecDepth 100000 in
set_option maxHeartbeats 4000000 in
theorem s_first {X : gx_X} {M : gx_M} {n m w : Nat} {P : Option Value → gx_M → Prop} (hw : w = 0 ∨ w = 1) (C : ck M n m) (h10 : M 0 10 ≠ 0) (h11 : M 0 11 = 1)
    (hP : ∀ M1, cf M M1 → ck M1 n m → M1 0 = M 0 → FV (dC M n m) w (sv M1 (30 + w)) → P (some (.ref (30 + w))) M1) : gx_C X 54 [.ref 0, .int (nI w)] M P := by
  obtain ⟨W, S, CC⟩ := id C
  have O := gok_C W
  have F0 : FL (dC M n m) (sv M 28) := by
    rcases CC.1 h10 with ⟨a, b⟩ | ⟨a, b⟩
    · exact b
    · rw [a] at h11; exact absurd h11 (by decide)
  have known : M 32 w ≠ 0 → P (some (.ref (30 + w))) M := fun q => by
    refine hP M (cf_r M) C rfl ?_
    rcases hw with rfl | rfl
    · exact CC.2.1 q
    · exact CC.2.2.1 q
  have fin : ∀ M2, fj M M2 (dC M n m) w m → gx_C X 11 [.ref 2, .ref (30 + w)] M2 fun r M1 => P (some (.ref (30 + w))) (gx_w M1 32 w 1) := by
    intro M2 J
    obtain ⟨j1, j2, j3, j4, j5⟩ := J
    have V : FV (dC M n m) w (nf M2) := ⟨j2, j4, fun g hg h60 k hk ht => j5 k hk g hg h60 ht⟩
    refine sp_save (by omega) ?_
    have fr : ∀ p, p ≠ 30 + w → p ≠ 32 → p < 11 ∨ 20 < p → (gx_w (gx_cp M2 15 (30 + w) 0 0 61) 32 w 1) p = M p := fun p a b c => by
      rw [← j1.1 p c]; funext j; rw [gx_w_np b, gx_cp_o a]
    have net : ∀ p, 11 ≤ p → p ≤ 20 → (gx_w (gx_cp M2 15 (30 + w) 0 0 61) 32 w 1) p = M2 p := fun p a b => by
      funext j; rw [gx_w_np (by omega), gx_cp_o (by omega)]
    have F : cf M (gx_w (gx_cp M2 15 (30 + w) 0 0 61) 32 w 1) := fun p hp => fr p (by omega) (by omega) (by omega)
    have V2 : FV (dC M n m) w (sv (gx_w (gx_cp M2 15 (30 + w) 0 0 61) 32 w 1) (30 + w)) := FV_congr O (fun e he => by
      unfold sv nf; rw [gx_w_np (by omega), gx_cp_i he]) V
    have f32 : ∀ j, (gx_w (gx_cp M2 15 (30 + w) 0 0 61) 32 w 1) 32 j = if j = w then 1 else M 32 j := fun j => by
      rw [gx_w_p, gx_cp_o (by omega), j1.1 32 (by omega)]
    refine hP _ F ⟨W_cf F W, ?_, ?_⟩ (fr 0 (by omega) (by omega) (by omega)) V2
    · have := stl_nq j1.2.2.1
      intro e he
      rw [net 13 (by omega) (by omega), net 14 (by omega) (by omega)]
      exact this e he
    · rw [dC_cf n m F]
      obtain ⟨c1, c2, c3, c4, c5⟩ := CC
      have f0 := fr 0 (by omega) (by omega) (by omega)
      refine ⟨?_, ?_, ?_, ?_, ?_⟩
      · have : sv (gx_w (gx_cp M2 15 (30 + w) 0 0 61) 32 w 1) 28 = sv M 28 := by unfold sv; rw [fr 28 (by omega) (by omega) (by omega)]
        rw [f0, this]; exact c1
      · rcases hw with rfl | rfl
        · exact fun _ => V2
        · have : sv (gx_w (gx_cp M2 15 (30 + 1) 0 0 61) 32 1 1) 30 = sv M 30 := by unfold sv; rw [fr 30 (by omega) (by omega) (by omega)]
          rw [this, f32, if_neg (by decide)]; exact c2
      · rcases hw with rfl | rfl
        · have : sv (gx_w (gx_cp M2 15 (30 + 0) 0 0 61) 32 0 1) 31 = sv M 31 := by unfold sv; rw [fr 31 (by omega) (by omega) (by omega)]
          rw [this, f32, if_neg (by decide)]; exact c3
        · exact fun _ => V2
      · rw [f0]
        exact fun h => CB_eq (by rw [f0]) (fr 33 (by omega) (by omega) (by omega)) (c4 h)
      · rw [f0]
        exact fun h => CP_eq (fr 3 (by omega) (by omega) (by omega)) (fr 21 (by omega) (by omega) (by omega)) (fr 22 (by omega) (by omega) (by omega)) (fr 23 (by omega) (by omega) (by omega)) (c5 h)
  have lay : ∀ Q : Option Value → gx_M → Prop, (∀ M2, cs M M2 (dC M n m) → FL (dC M n m) (nf M2) → (∀ e, e < 61 → M2 16 e = 0) → Q none M2) → gx_C X 55 [.ref 0] M fun r M1 => gx_C X 12 [.ref 2, .ref 28] M1 Q := by
    intro Q hQ
    refine sp_lay W S (fun M1 S1 H1 f1 _ => sp_load (Or.inl rfl) ?_)
    obtain ⟨S2, F2⟩ := cs_load (M2 := gx_cp M1 28 15 0 0 61) O S1 F0 (fun p hp => by funext j; rw [gx_cp_o hp]) (fun e he => by
      unfold nf sv; rw [gx_cp_i he, S1.1 28 (by omega)])
    exact hQ _ S2 F2 (fun e he => by rw [gx_cp_o (by decide)]; exact H1 e he)
  have zf : (100000 : Int32).toInt = 100000 := by decide
  rcases hw with rfl | rfl
  · rw [nI_0]
    refine gx_C_wp 40 ?_
    simp only [gx_w_np, gx_w_p, ne_eq, not_false_eq_true, gx_wp, gx_step, gx_cnd, gb0, gb1, Classical.not_not, List.getD_cons_zero, List.getD_cons_succ, List.set_cons_zero, List.set_cons_succ, List.length_cons, List.length_nil, Nat.reduceAdd, Nat.reduceLT, Nat.reduceLeDiff, Nat.reduceEqDiff, Bool.and_false, Bool.and_true, Bool.true_and, Bool.false_and, Bool.false_eq_true, if_false, if_true, ite_true, ite_false, Fin.isValue, Fin.val_zero, Fin.val_one, Fin.val_two, gz0, gz1, gz2, gz3, List.take_succ_cons, List.take_zero, List.drop_succ_cons, List.drop_zero, List.reverse_cons, List.reverse_nil, List.nil_append, List.cons_append, gx_nx, Int32.reduceToInt, Int.reduceToNat, Int.toNat_zero, Int.toNat_one, Int.reduceLT, Int.reduceLE, Int.ofNat_zero, Int.reduceNeg, Int.le_refl, and_self, List.getElem?_cons_zero, List.getElem?_cons_succ, true_and, and_true, Nat.reduceSub, List.replicate, List.append_nil, Nat.reduceLeDiff, Nat.le_add_left, Nat.zero_le, Nat.zero_add, gc3_64, gf3_12, gf3_19, gf3_30, gf3_36, gf3_39, gf3_72, gk_bipush_60, gk_iconst_0, gk_iconst_1, gm3_128, gm3_162, gm3_171, gm3_175, gm3_178, gm3_182, gn11, gn12, gn13, gn15, gn16, gn54, gn55, gr11, gr12, gr13, gr15, gr16, gr54, gr55, gv54, gi54_0, gi54_1, gi54_4, gi54_5, gi54_6, gi54_9, gi54_10, gi54_13, gi54_14, gi54_17, gi54_18, gi54_21, gi54_24, gi54_25, gi54_28, gi54_29, gi54_32, gi54_34, gi54_36, gi54_39, gi54_40, gi54_43, gi54_44, gi54_47, gi54_49, gi54_52, gi54_53, gi54_56, gi54_58, gi54_61, gi54_62, gi54_63, gi54_64, gi54_65, gi54_68, gi54_71, gi54_74, gi54_75, gi54_78, gi54_79, gi54_82, gi54_83, gi54_86, gi54_87, gi54_90, gi54_93, gi54_96, gi54_97, gi54_100, gi54_101, gi54_104, gi54_105, gi54_106, gi54_109, gi54_110, gi54_113, gi54_114, gi54_115, gi54_116, gi54_117, gi54_120, gi54_121, gi54_122, gl0, gl1, gl2, gl3, gl4, gl5, gl6, gl7, gl8, gl9, gl10, gl11, gl12, gl13, gl14, gl15, gl16, gl17, gl18, gl19, gl20, gl21, gl22, gl23, gl24, gl25, gl26, gl27, gl28, gl29, gl30, gl31, gl32, gl33, gl34, gl35, gl36, gl37, gl38, gl39, gl40, gl41, gl42, gl43, gl44, gl45, gl46, gl47, gl48, gl49, gl50, gl51, gl52, gl53, gl54, gl55, gl56, gl57]
    refine ⟨by omega, fun q => ⟨by omega, known q⟩, fun q => lay _ (fun M2 S2 F2 H2 => ⟨fun q => absurd trivial q, fun _ => ?_⟩)⟩
    refine s_raise60 O S2 F2 H2 (by decide) (by decide) (fun c M3 c1 c2 S3 F3 H3 e3 K => ?_)
    intro z hz
    cases hz
    rw [show (60 : Int32) = nI 60 by decide]
    refine sp_hold (by omega) ?_
    rw [← nI_0]
    refine l54 (Or.inl rfl) W fin m 0 _ (by omega) (fj_0 S3 F3 H3 (fun g hg => ?_))
    rw [if_pos rfl]
    by_cases z : c.toInt < (100000 : Int32).toInt
    · exact K z g hg
    · have a := FL_free O F3 60 (by omega) (by omega)
      have b := (FL_nn O F2 60 (by omega)).1
      omega
  · rw [show nI 1 = 1 by decide]
    refine gx_C_wp 40 ?_
    simp only [gx_w_np, gx_w_p, ne_eq, not_false_eq_true, gx_wp, gx_step, gx_cnd, gb0, gb1, Classical.not_not, List.getD_cons_zero, List.getD_cons_succ, List.set_cons_zero, List.set_cons_succ, List.length_cons, List.length_nil, Nat.reduceAdd, Nat.reduceLT, Nat.reduceLeDiff, Nat.reduceEqDiff, Bool.and_false, Bool.and_true, Bool.true_and, Bool.false_and, Bool.false_eq_true, if_false, if_true, ite_true, ite_false, Fin.isValue, Fin.val_zero, Fin.val_one, Fin.val_two, gz0, gz1, gz2, gz3, List.take_succ_cons, List.take_zero, List.drop_succ_cons, List.drop_zero, List.reverse_cons, List.reverse_nil, List.nil_append, List.cons_append, gx_nx, Int32.reduceToInt, Int.reduceToNat, Int.toNat_zero, Int.toNat_one, Int.reduceLT, Int.reduceLE, Int.ofNat_zero, Int.reduceNeg, Int.le_refl, and_self, List.getElem?_cons_zero, List.getElem?_cons_succ, true_and, and_true, Nat.reduceSub, List.replicate, List.append_nil, Nat.reduceLeDiff, Nat.le_add_left, Nat.zero_le, Nat.zero_add, gc3_64, gf3_12, gf3_19, gf3_30, gf3_36, gf3_39, gf3_72, gk_bipush_60, gk_iconst_0, gk_iconst_1, gm3_128, gm3_162, gm3_171, gm3_175, gm3_178, gm3_182, gn11, gn12, gn13, gn15, gn16, gn54, gn55, gr11, gr12, gr13, gr15, gr16, gr54, gr55, gv54, gi54_0, gi54_1, gi54_4, gi54_5, gi54_6, gi54_9, gi54_10, gi54_13, gi54_14, gi54_17, gi54_18, gi54_21, gi54_24, gi54_25, gi54_28, gi54_29, gi54_32, gi54_34, gi54_36, gi54_39, gi54_40, gi54_43, gi54_44, gi54_47, gi54_49, gi54_52, gi54_53, gi54_56, gi54_58, gi54_61, gi54_62, gi54_63, gi54_64, gi54_65, gi54_68, gi54_71, gi54_74, gi54_75, gi54_78, gi54_79, gi54_82, gi54_83, gi54_86, gi54_87, gi54_90, gi54_93, gi54_96, gi54_97, gi54_100, gi54_101, gi54_104, gi54_105, gi54_106, gi54_109, gi54_110, gi54_113, gi54_114, gi54_115, gi54_116, gi54_117, gi54_120, gi54_121, gi54_122, gl0, gl1, gl2, gl3, gl4, gl5, gl6, gl7, gl8, gl9, gl10, gl11, gl12, gl13, gl14, gl15, gl16, gl17, gl18, gl19, gl20, gl21, gl22, gl23, gl24, gl25, gl26, gl27, gl28, gl29, gl30, gl31, gl32, gl33, gl34, gl35, gl36, gl37, gl38, gl39, gl40, gl41, gl42, gl43, gl44, gl45, gl46, gl47, gl48, gl49, gl50, gl51, gl52, gl53, gl54, gl55, gl56, gl57]
    refine ⟨by omega, fun q => ⟨by omega, known q⟩, fun q => lay _ (fun M2 S2 F2 H2 => ⟨fun _ => ?_, fun q => absurd q (by decide)⟩)⟩
    refine s_lower60 O S2 F2 H2 (fun M3 S3 F3 H3 K => ?_)
    rw [show (60 : Int32) = nI 60 by decide]
    refine sp_hold (by omega) ?_
    rw [← nI_0, show (1 : Int32) = nI 1 by decide]
    exact l54 (Or.inr rfl) W fin m 0 _ (by omega) (fj_0 S3 F3 H3 (fun g hg => by rw [if_neg (by decide)]; exact K g hg))
