/-! tight; the barred. -/
/-- the most of an arc 1 more -/
def dT (D : gD) (a : Nat) : gD := (gdn D, gdm D, gdl D, gdf D, gdt D, gdb D, gdk D, gdx D, (fun j => if j = a then gdy D j + 1 else gdy D j))
theorem gok_T {D : gD} (O : gok D) {a : Nat} (h : ∀ k, k < gdm D → gdl D k = true → (gdy D k).toInt ≤ 1000) : gok (dT D a) :=
  ⟨O.1, O.2.1, O.2.2.1, fun k hk al => by
    have := O.2.2.2 k hk al
    have h1 := h k hk al
    have z1 : (1 : Int32).toInt = 1 := by decide
    have e : (if k = a then gdy D k + 1 else gdy D k).toInt = (gdy D k).toInt + (if k = a then 1 else 0) := by
      by_cases z : k = a
      · rw [if_pos z, if_pos z, i_add (by omega) (by omega), z1]
      · rw [if_neg z, if_neg z]; omega
    refine ⟨this.1, this.2.1, this.2.2.1, this.2.2.2.1, this.2.2.2.2.1, this.2.2.2.2.2.1, ?_, ?_⟩
    · show (gdx D k).toInt ≤ (if k = a then gdy D k + 1 else gdy D k).toInt
      rw [e]
      by_cases z : k = a
      · rw [if_pos z]; omega
      · rw [if_neg z]; omega
    · show (if k = a then gdy D k + 1 else gdy D k).toInt ≤ 1001
      rw [e]
      by_cases z : k = a
      · rw [if_pos z]; omega
      · rw [if_neg z]; omega⟩
theorem cs_T {M1 M2 : gx_M} {D : gD} {a : Nat} (O : gok D) (ha : a < 40) (hp : dE D a = true) (S : cs M1 M2 D) (F : FL D (nf M2)) (hb : ∀ k, k < gdm D → gdl D k = true → (gdy D k).toInt ≤ 1000) : cs M1 (gx_w M2 12 a (M2 12 a + 1)) (dT D a) ∧ FL (dT D a) (nf (gx_w M2 12 a (M2 12 a + 1))) := by
  obtain ⟨s1, s2, s3, s4, s5⟩ := id S
  have O2 := gok_T (a := a) O hb
  have z1 : (1 : Int32).toInt = 1 := by decide
  have e1 : ∀ p, p ≠ 12 → (gx_w M2 12 a (M2 12 a + 1)) p = M2 p := fun p h => by funext j; rw [gx_w_np h]
  have n0 := s2.2 a (by omega)
  have hi : ∀ e, nhi (gx_w M2 12 a (M2 12 a + 1)) e = nhi M2 e + (if e = a then 1 else 0) := fun e => by
    unfold nhi
    rw [gx_w_p]
    by_cases z : e = a
    · rw [if_pos z, if_pos z, i_add (by rw [z1]; unfold nf nhi nlo at n0; omega) (by rw [z1]; unfold nf nhi nlo at n0; omega), z1, z]
    · rw [if_neg z, if_neg z]; omega
  have lo : ∀ e, nlo (gx_w M2 12 a (M2 12 a + 1)) e = nlo M2 e := fun e => by unfold nlo; rw [e1 11 (by decide)]
  have fl : nf (gx_w M2 12 a (M2 12 a + 1)) = nf M2 := by unfold nf; rw [e1 15 (by decide)]
  have ka := (dE1 ha).mp hp
  have h1000 := hb a ka.1 ka.2
  have dHa : dH D 1000000 a = (gdy D a).toInt := by unfold dH; rw [if_pos hp, if_pos ha]
  have hia : nhi M2 a ≤ 1000 := by
    rcases (s5 a (by omega)).2.2 with h | h
    · rw [h, dHa]; exact h1000
    · omega
  have S3 : cs M1 (gx_w M2 12 a (M2 12 a + 1)) (dT D a) := by
    refine ⟨fun p h => by rw [e1 p (by omega), s1 p h], ⟨st_H_eq2 (e1 13 (by decide)) (e1 14 (by decide)) (e1 17 (by decide)) (e1 18 (by decide)) s2.1, fun e he => ?_⟩, ?_, ?_, fun e he => ?_⟩
    · rw [lo, hi, fl]
      have k := s2.2 e he
      by_cases z : e = a
      · rw [if_pos z]
        rw [z] at k ⊢
        refine ⟨k.1, by omega, by omega, k.2.2.2.1, by omega, fun q => ?_⟩
        have q2 : dE D a = false := q
        rw [hp] at q2; cases q2
      · rw [if_neg z]
        refine ⟨k.1, by omega, by omega, k.2.2.2.1, by omega, fun q => ?_⟩
        have := k.2.2.2.2.2 q
        omega
    · unfold nq na nb; rw [e1 13 (by decide), e1 14 (by decide)]; exact s3
    · unfold circ nf na nb; rw [e1 13 (by decide), e1 14 (by decide), e1 15 (by decide)]; exact s4
    · rw [lo, hi]
      have k := s5 e he
      refine ⟨?_, k.2.1, ?_⟩
      · unfold na nb; rw [e1 13 (by decide), e1 14 (by decide)]; exact k.1
      · by_cases z : e = a
        · rw [if_pos z]
          left
          have hp2 : dE (dT D a) a = true := hp
          have : dH (dT D a) 1000000 a = (gdy D a + 1).toInt := by
            unfold dH; rw [if_pos hp2, if_pos ha]
            show (if a = a then gdy D a + 1 else gdy D a).toInt = _
            rw [if_pos rfl]
          have ga := O.2.2.2 a ka.1 ka.2
          rw [z, this, i_add (by rw [z1]; omega) (by rw [z1]; omega), z1]
          rcases (s5 a (by omega)).2.2 with h | h
          · rw [h, dHa]
          · omega
        · rw [if_neg z]
          have : dH (dT D a) 1000000 e = dH D 1000000 e := by
            unfold dH
            show (if dE D e = true then (if e < 40 then (if e = a then gdy D e + 1 else gdy D e).toInt else _) else 0) = _
            rw [if_neg z]; rfl
          rw [this, Int.add_zero]; exact k.2.2
  refine ⟨S3, cs_FL O2 S3 (fun e he => ?_)⟩
  rw [lo, fl]
  exact (((nD_FL O s2 s5).mpr F).2 e he).1
set_option maxRecDepth 100000 in
set_option maxHeartbeats 4000000 in
theorem s_tight {X : gx_X} {M : gx_M} {n m : Nat} {a : Int32} {P : Option Value → gx_M → Prop} (C : ck M n m)
    (h1 : ¬ (0 ≤ a.toInt ∧ a.toInt < m ∧ M 10 a.toInt.toNat = 0) → P (some (.int (-1))) M)
    (h3 : ∀ M1, cf M M1 → ck M1 n m → (0 ≤ a.toInt ∧ a.toInt < m ∧ M 10 a.toInt.toNat = 0) → (¬ ∃ g, FL (dC M n m) g) → P (some (.int (-3))) M1)
    (h4 : ∀ (z : Int32) (M1 : gx_M) (f : Nat → Int), cf M M1 → ck M1 n m → (0 ≤ a.toInt ∧ a.toInt < m ∧ M 10 a.toInt.toNat = 0) → FV (dC M n m) 0 f → (z = 1 ∧ (∃ g, FL (dT (dC M n m) a.toInt.toNat) g ∧ f 60 + 1 ≤ g 60) ∨ z = 0 ∧ ¬ ∃ g, FL (dT (dC M n m) a.toInt.toNat) g ∧ f 60 + 1 ≤ g 60) → P (some (.int z)) M1) :
    gx_C X 44 [.ref 0, .int a] M P := by
  obtain ⟨W, -, -⟩ := id C
  have O := gok_C W
  have hm40 := W.2.2.2.1
  refine gx_C_wp 50 ?_
  simp only [gx_w_np, gx_w_p, ne_eq, not_false_eq_true, gx_wp, gx_step, gx_cnd, gb0, gb1, Classical.not_not, List.getD_cons_zero, List.getD_cons_succ, List.set_cons_zero, List.set_cons_succ, List.length_cons, List.length_nil, Nat.reduceAdd, Nat.reduceLT, Nat.reduceLeDiff, Nat.reduceEqDiff, Bool.and_false, Bool.and_true, Bool.true_and, Bool.false_and, Bool.false_eq_true, if_false, if_true, ite_true, ite_false, Fin.isValue, Fin.val_zero, Fin.val_one, Fin.val_two, gz0, gz1, gz2, gz3, List.take_succ_cons, List.take_zero, List.drop_succ_cons, List.drop_zero, List.reverse_cons, List.reverse_nil, List.nil_append, List.cons_append, gx_nx, Int32.reduceToInt, Int.reduceToNat, Int.toNat_zero, Int.toNat_one, Int.reduceLT, Int.reduceLE, Int.ofNat_zero, Int.reduceNeg, Int.le_refl, and_self, List.getElem?_cons_zero, List.getElem?_cons_succ, true_and, and_true, Nat.reduceSub, List.replicate, List.append_nil, Nat.reduceLeDiff, Nat.le_add_left, Nat.zero_le, Nat.zero_add, gf3_12, gf3_125, gf3_19, gk_bipush_60, gk_bipush_m3, gk_iconst_1, gk_iconst_m1, gm3_122, gm3_128, gm3_79, gm3_95, gn1, gn15, gn44, gn53, gn57, gr1, gr15, gr44, gr53, gr57, gv44, gi44_0, gi44_1, gi44_4, gi44_5, gi44_8, gi44_11, gi44_12, gi44_13, gi44_14, gi44_17, gi44_20, gi44_22, gi44_23, gi44_24, gi44_27, gi44_28, gi44_31, gi44_34, gi44_35, gi44_36, gi44_37, gi44_38, gi44_39, gi44_40, gi44_41, gi44_44, gi44_46, gi44_47, gi44_50, gl0, gl1, gl2, gl3, gl4, gl5, gl6, gl7, gl8, gl9, gl10, gl11, gl12, gl13, gl14, gl15, gl16, gl17, gl18, gl19, gl20, gl21, gl22, gl23, gl24, gl25, gl26, gl27, gl28, gl29, gl30, gl31, gl32, gl33, gl34, gl35, gl36, gl37, gl38, gl39, gl40, gl41, gl42, gl43, gl44, gl45, gl46, gl47, gl48, gl49, gl50, gl51, gl52, gl53, gl54, gl55, gl56, gl57]
  refine sp_hasArc W.2.1 hm40 (fun a1 a2 a3 => ?_) (fun a1 => ?_)
  · intro z hz
    cases hz
    refine ⟨fun _ => ?_, fun q => absurd q (by decide)⟩
    refine s_hasFlow C (fun M1 F1 C1 t1 t2 => ?_) (fun M1 F1 C1 t1 => ?_)
    · intro z hz
      cases hz
      refine ⟨fun _ => ?_, fun q => absurd q (by decide)⟩
      refine s_lfg C1 t1 t2 (fun M2 M3 F2 C2 e2 S3 V3 H3 c3 => ⟨by omega, by omega, ?_⟩)
      have eD := dC_cf n m F1
      rw [eD] at S3 V3
      have hb : ∀ k, k < gdm (dC M n m) → gdl (dC M n m) k = true → (gdy (dC M n m) k).toInt ≤ 1000 := fun k hk _ => (W.2.2.2.2.2.1 k hk).2.2.2.2.2.2.2.1
      have hp : dE (dC M n m) a.toInt.toNat = true := (dE1 (by omega)).mpr ⟨show a.toInt.toNat < m by omega, decide_eq_true a3⟩
      obtain ⟨S4, F4⟩ := cs_T (a := a.toInt.toNat) O (by omega) hp S3 V3.1 hb
      refine s_more (V := nf M3 60) (gok_T O hb) C2 S4 F4 (fun e he => by rw [gx_w_np (by decide)]; exact H3 e he) (by unfold nf; rw [gx_w_np (by decide)]) (fun z M5 F5 C5 hz => h4 z M5 (nf M3) (cf_t (cf_t F1 F2) F5) C5 ⟨a1, a2, a3⟩ V3 hz)
    · intro z hz
      cases hz
      exact ⟨fun q => absurd rfl q, fun _ => h3 M1 F1 C1 ⟨a1, a2, a3⟩ t1⟩
  · intro z hz
    cases hz
    exact ⟨fun q => absurd rfl q, fun _ => h1 a1⟩
/-! findBarred. -/
theorem up_le {b : Nat → Bool} : ∀ j, up b j ≤ j
  | 0 => Nat.le_refl 0
  | j + 1 => by
    have := up_le (b := b) j
    show up b j + (if b j = true then 1 else 0) ≤ j + 1
    by_cases z : b j = true
    · rw [if_pos z]; omega
    · rw [if_neg z]; omega
theorem up_lt {b : Nat → Bool} {a : Nat} (ha : b a = false) : ∀ j, a < j → up b j < j
  | 0, h => by omega
  | j + 1, h => by
    show up b j + (if b j = true then 1 else 0) < j + 1
    by_cases z : j = a
    · rw [z, ha, if_neg (by decide)]
      have := up_le (b := b) a
      omega
    · have := up_lt ha j (by omega)
      by_cases z : b j = true
      · rw [if_pos z]; omega
      · rw [if_neg z]; omega
theorem up_up {b : Nat → Bool} {a : Nat} (ha : b a = false) : ∀ j, up (fun i => if i = a then true else b i) j = up b j + (if a < j then 1 else 0)
  | 0 => rfl
  | j + 1 => by
    show up (fun i => if i = a then true else b i) j + (if (if j = a then true else b j) = true then 1 else 0) = up b j + (if b j = true then 1 else 0) + (if a < j + 1 then 1 else 0)
    rw [up_up ha j]
    by_cases z : j = a
    · rw [z, if_neg (Nat.lt_irrefl a), if_pos rfl, if_pos rfl, ha, if_neg (by decide), if_pos (by omega)]
    · rw [if_neg z]
      by_cases z2 : a < j
      · rw [if_pos z2, if_pos (show a < j + 1 by omega)]; omega
      · rw [if_neg z2, if_neg (show ¬ a < j + 1 by omega)]; omega
theorem up_mono {b : Nat → Bool} {i : Nat} : ∀ j, i ≤ j → up b i ≤ up b j
  | 0, h => by rw [show i = 0 by omega]; exact Nat.le_refl _
  | j + 1, h => by
    by_cases z : i = j + 1
    · rw [z]; exact Nat.le_refl _
    · have := up_mono (b := b) (i := i) j (by omega)
      show up b i ≤ up b j + _
      omega
theorem up_0 {b : Nat → Bool} {k : Nat} (h : ∀ j, j < k → b j = false) : ∀ j, j ≤ k → up b j = 0
  | 0, _ => rfl
  | j + 1, hj => by
    show up b j + (if b j = true then 1 else 0) = 0
    rw [up_0 h j (by omega), h j (by omega), if_neg (by decide)]
/-- the leasts while the barred are sought: those from k on are settled -/
def bx (D : gD) (b : Nat → Bool) (k : Nat) (j : Nat) : Int32 := if j < k then gdx D j else if b j = true then gdx D j else 0
theorem bx_ok {D : gD} (O : gok D) (x : Nat → Int32) (h : ∀ j, x j = gdx D j ∨ x j = 0) : gok (dW D x) := gok_W O (fun k hk al => by
  have := O.2.2.2 k hk al
  have z0 : (0 : Int32).toInt = 0 := by decide
  rcases h k with h | h
  · rw [h]; omega
  · rw [h, z0]; omega)
theorem cs_W {M0 M M2 : gx_M} {D : gD} {x y : Nat → Int32} (Oy : gok (dW D y)) (S : cs M0 M (dW D x)) (h : ∀ p, p ≠ 11 → p ≠ 0 → p ≠ 33 → M2 p = M p) (hy : ∀ e, e < 61 → M2 11 e = if e < 40 then (if dE D e = true then y e else M 11 e) else M 11 e) (M0' : gx_M) (h0 : ∀ p, p < 11 ∨ 20 < p → M2 p = M0' p) : cs M0' M2 (dW D y) := by
  obtain ⟨s1, s2, s3, s4, s5⟩ := S
  have lo : ∀ e, e < 61 → nlo M2 e = dL (dW D y) 0 e := fun e he => by
    have k := (s5 e he).2.1
    unfold nlo at k ⊢
    rw [hy e he]
    unfold dL at k ⊢
    have q1 : dE (dW D x) e = dE D e := rfl
    have q2 : dE (dW D y) e = dE D e := rfl
    rw [q1] at k
    rw [q2]
    by_cases z : e < 40
    · rw [if_pos z]
      by_cases z2 : dE D e = true
      · rw [if_pos z2, if_pos z2, if_pos z]; rfl
      · rw [if_neg z2, if_neg z2]
        rw [if_neg z2] at k; exact k
    · rw [if_neg z, k]
      by_cases z2 : dE D e = true
      · rw [if_pos z2, if_pos z2, if_neg z, if_neg z]
      · rw [if_neg z2, if_neg z2]
  have o : ∀ p, 12 ≤ p → p ≤ 20 → M2 p = M p := fun p a b => h p (by omega) (by omega) (by omega)
  refine ⟨h0, ⟨st_H_eq2 (o 13 (by omega) (by omega)) (o 14 (by omega) (by omega)) (o 17 (by omega) (by omega)) (o 18 (by omega) (by omega)) s2.1, fun e he => ?_⟩, ?_, ?_, fun e he => ?_⟩
  · have k := s2.2 e he
    have e2 : nhi M2 e = nhi M e := by unfold nhi; rw [o 12 (by omega) (by omega)]
    have e3 : nf M2 e = nf M e := by unfold nf; rw [o 15 (by omega) (by omega)]
    have k5 := (s5 e he).2.2
    have d1 := d_ok Oy (Int.le_refl 0) (show (0 : Int) ≤ 1000000 by omega) (Int.le_refl _) he
    have dh : dH (dW D x) 1000000 e = dH (dW D y) 1000000 e := rfl
    rw [lo e he, e2, e3]
    rw [dh] at k5
    refine ⟨d1.1, ?_, k.2.2.1, k.2.2.2.1, k.2.2.2.2.1, k.2.2.2.2.2⟩
    rcases k5 with q | q
    · omega
    · have : dL (dW D y) 0 e = 0 := by
        unfold dL
        by_cases z2 : dE (dW D y) e = true
        · rw [if_pos z2, if_neg (by omega)]
          by_cases z3 : e < 60
          · rw [if_pos z3]
          · rw [if_neg z3]
        · rw [if_neg z2]
      omega
  · unfold nq na nb; rw [o 13 (by omega) (by omega), o 14 (by omega) (by omega)]; exact s3
  · unfold circ nf na nb; rw [o 13 (by omega) (by omega), o 14 (by omega) (by omega), o 15 (by omega) (by omega)]; exact s4
  · refine ⟨?_, lo e he, ?_⟩
    · unfold na nb; rw [o 13 (by omega) (by omega), o 14 (by omega) (by omega)]; exact (s5 e he).1
    · unfold nhi; rw [o 12 (by omega) (by omega)]; exact (s5 e he).2.2
