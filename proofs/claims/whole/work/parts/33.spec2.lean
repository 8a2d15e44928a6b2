/-! First flows, what bars: one of each. -/
def FV (D : gD) (w : Nat) (f : Nat → Int) : Prop := FL D f ∧ (∀ g, FL D g → if w = 0 then g 60 ≤ f 60 else f 60 ≤ g 60) ∧ ∀ g, FL D g → g 60 = f 60 → ∀ k, k < gdm D → (∀ j, j < k → g j = f j) → f k ≤ g k
theorem FV_uq {D : gD} {w : Nat} {f g : Nat → Int} (O : gok D) (F : FV D w f) (G : FV D w g) : f 60 = g 60 ∧ ∀ k, k < 40 → f k = g k := by
  have h60 : f 60 = g 60 := by
    have a := F.2.1 g G.1
    have b := G.2.1 f F.1
    by_cases z : w = 0
    · rw [if_pos z] at a b; omega
    · rw [if_neg z] at a b; omega
  refine ⟨h60, fun k => ?_⟩
  induction k using Nat.strongRecOn with
  | ind k ih =>
    intro hk
    by_cases hm : k < gdm D
    · have a := F.2.2 g G.1 h60.symm k hm (fun j hj => (ih j hj (by omega)).symm)
      have b := G.2.2 f F.1 h60 k hm (fun j hj => ih j hj (by omega))
      omega
    · have z : dE D k = false := by
        cases q : dE D k with
        | false => rfl
        | true => exact absurd ((dE1 hk).mp q).1 hm
      rw [(FL_nn O F.1 k (by omega)).2.1 z, (FL_nn O G.1 k (by omega)).2.1 z]
theorem deq_FV {D D2 : gD} (Q : deq D D2) {w : Nat} {f : Nat → Int} (F : FV D w f) : FV D2 w f :=
  ⟨(deq_FL Q).mp F.1, fun g G => F.2.1 g ((deq_FL Q).mpr G), fun g G h k hk => F.2.2 g ((deq_FL Q).mpr G) h k (by rw [Q.2.1]; exact hk)⟩
/-- other leasts -/
def dW (D : gD) (x : Nat → Int32) : gD := (gdn D, gdm D, gdl D, gdf D, gdt D, gdb D, gdk D, x, gdy D)
def brx (D : gD) (b : Nat → Bool) (k : Nat) (j : Nat) : Int32 := if j < k then gdx D j else if j = k then 0 else if b j = true then gdx D j else 0
def BR (D : gD) (b : Nat → Bool) : Prop := ∀ k, k < gdm D → (b k = true ↔ gdl D k = true ∧ gdx D k ≠ 0 ∧ ∃ g, FL (dW D (brx D b k)) g)
theorem deq_rfl (D : gD) : deq D D := ⟨rfl, rfl, fun _ _ => ⟨rfl, rfl⟩, fun _ _ => ⟨rfl, fun _ => ⟨rfl, rfl, rfl, rfl⟩⟩⟩
theorem deq_symm {D D2 : gD} (Q : deq D D2) : deq D2 D := ⟨Q.1.symm, Q.2.1.symm, fun v hv => ⟨(Q.2.2.1 v (by rw [Q.1]; exact hv)).1.symm, (Q.2.2.1 v (by rw [Q.1]; exact hv)).2.symm⟩, fun k hk => by
  have := Q.2.2.2 k (by rw [Q.2.1]; exact hk)
  refine ⟨this.1.symm, fun h => ?_⟩
  have := this.2 (by rw [this.1]; exact h)
  exact ⟨this.1.symm, this.2.1.symm, this.2.2.1.symm, this.2.2.2.symm⟩⟩
theorem deq_W {D D2 : gD} (Q : deq D D2) {x y : Nat → Int32} (h : ∀ k, k < gdm D → gdl D k = true → x k = y k) : deq (dW D x) (dW D2 y) :=
  ⟨Q.1, Q.2.1, Q.2.2.1, fun k hk => ⟨(Q.2.2.2 k hk).1, fun a => ⟨((Q.2.2.2 k hk).2 a).1, ((Q.2.2.2 k hk).2 a).2.1, h k hk a, ((Q.2.2.2 k hk).2 a).2.2.2⟩⟩⟩
theorem BR_uq {D D2 : gD} {b c : Nat → Bool} (Q : deq D D2) (B : BR D b) (C : BR D2 c) : ∀ d k, k + d = gdm D → ∀ j, k ≤ j → j < gdm D → b j = c j := by
  intro d
  induction d with
  | zero => intro k hk j h1 h2; omega
  | succ d ih =>
    intro k hk j h1 h2
    have ih := ih (k + 1) (by omega)
    by_cases z : j = k
    · subst z
      have q := Q.2.2.2 j h2
      refine Bool.eq_iff_iff.mpr ?_
      rw [B j h2, C j (by rw [← Q.2.1]; exact h2), ← q.1]
      have key : gdl D j = true → (∀ g, FL (dW D (brx D b j)) g ↔ FL (dW D2 (brx D2 c j)) g) := fun _ g => deq_FL (deq_W Q (fun k hk al => by
        have q2 := (Q.2.2.2 k hk).2 al
        unfold brx
        by_cases z1 : k < j
        · rw [if_pos z1, if_pos z1, q2.2.2.1]
        · rw [if_neg z1, if_neg z1]
          by_cases z2 : k = j
          · rw [if_pos z2, if_pos z2]
          · rw [if_neg z2, if_neg z2, ih k (by omega) hk, q2.2.2.1]))
      constructor
      · rintro ⟨a1, a2, g, a3⟩
        exact ⟨a1, by rw [← (q.2 a1).2.2.1]; exact a2, g, (key a1 g).mp a3⟩
      · rintro ⟨a1, a2, g, a3⟩
        exact ⟨a1, by rw [(q.2 a1).2.2.1]; exact a2, g, (key a1 g).mpr a3⟩
    · exact ih j (by omega) h2
theorem gok_W {D : gD} (O : gok D) {x : Nat → Int32} (h : ∀ k, k < gdm D → gdl D k = true → 0 ≤ (x k).toInt ∧ (x k).toInt ≤ (gdy D k).toInt) : gok (dW D x) :=
  ⟨O.1, O.2.1, O.2.2.1, fun k hk a => by
    have := O.2.2.2 k hk a
    have h1 := h k hk a
    exact ⟨this.1, this.2.1, this.2.2.1, this.2.2.2.1, this.2.2.2.2.1, h1.1, h1.2, this.2.2.2.2.2.2.2⟩⟩
