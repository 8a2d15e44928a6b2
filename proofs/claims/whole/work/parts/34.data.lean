/-! The object's graph and its net are the spec's. -/
def dC (M : gx_M) (n m : Nat) : gD := (n, m, (fun k => decide (M 10 k = 0)), M 6, M 7, M 5, M 4, M 8, M 9)
theorem gok_C {M : gx_M} {n m : Nat} (W : gg_W M n m) : gok (dC M n m) := by
  obtain ⟨w1, w2, w3, w4, w5, w6, w7⟩ := W
  refine ⟨w3, w4, fun v hv => w5 v hv, fun k hk _ => ?_⟩
  obtain ⟨a1, a2, a3, a4, a5, a6, a7, a8, a9⟩ := w6 k hk
  exact ⟨a1, a2, a3, a4, a5, a6, a7, Int.le_trans a8 (by decide)⟩
theorem ly_E {M : gx_M} {n m e : Nat} (he : e < 61) : lyF M n m e = dE (dC M n m) e := by
  unfold lyF
  by_cases z : e = 60
  · rw [if_pos z, z, dE4]
  · rw [if_neg z]
    unfold lyE dE
    refine decide_eq_decide.mpr ⟨fun h => ?_, fun h => ?_⟩
    · rcases h with h | h | h
      · exact Or.inl ⟨h.2.1, h.1, decide_eq_true h.2.2⟩
      · exact Or.inr (Or.inl ⟨h.1, h.2.2, h.2.1⟩)
      · exact Or.inr (Or.inr (Or.inl ⟨h.1, h.2.2.1, h.2.1, h.2.2.2⟩))
    · rcases h with h | h | h | h
      · exact Or.inl ⟨h.2.1, h.1, of_decide_eq_true h.2.2⟩
      · exact Or.inr (Or.inl ⟨h.1, h.2.2, h.2.1⟩)
      · exact Or.inr (Or.inr ⟨h.1, h.2.2.1, h.2.1, h.2.2.2⟩)
      · exact absurd h z
theorem ly_A {M : gx_M} {n m e : Nat} : lyA M (M 4) e = dA' (dC M n m) e := rfl
theorem ly_B {M : gx_M} {n m e : Nat} : lyB M (M 4) e = dB' (dC M n m) e := rfl
/-- the net is that of the graph -/
def nD (M : gx_M) (D : gD) : Prop := ∀ e, e < 61 → (dE D e = true → na M e = dA D e ∧ nb M e = dB D e) ∧ nlo M e = dL D 0 e ∧ (nhi M e = dH D 1000000 e ∨ (nhi M e = 100000 ∧ 40 ≤ e ∧ dH D 1000000 e = 1000000))
theorem nD_FL {M : gx_M} {D : gD} (O : gok D) (N : nv M (dE D)) (K : nD M D) {f : Nat → Int} : (circ M f ∧ ∀ j, j < 61 → nlo M j ≤ f j ∧ f j ≤ nhi M j) ↔ FL D f := by
  constructor
  · rintro ⟨a, b⟩
    have z : ∀ e, e < 61 → dE D e = false → f e = 0 := fun e he h => by
      have h1 := (N.2 e he)
      have h2 := h1.2.2.2.2.2 h
      have h3 := b e he
      omega
    refine ⟨fun v hv => ?_, fun e he => ?_⟩
    · rw [← a v hv]
      refine nt_d_eq (fun e he => ?_) v
      cases h : dE D e with
      | false => exact Or.inl (z e he h)
      | true => exact Or.inr ⟨((K e he).1 h).1.symm, ((K e he).1 h).2.symm⟩
    · obtain ⟨k1, k2, k3⟩ := K e he
      have h3 := b e he
      rw [k2] at h3
      refine ⟨h3.1, ?_⟩
      rcases k3 with k3 | k3
      · rw [← k3]; exact h3.2
      · omega
  · intro F
    refine ⟨fun v hv => ?_, fun e he => ?_⟩
    · rw [← F.1 v hv]
      refine nt_d_eq (fun e he => ?_) v
      cases h : dE D e with
      | false => exact Or.inl ((FL_nn O F e he).2.1 h)
      | true => exact Or.inr ((K e he).1 h)
    · obtain ⟨k1, k2, k3⟩ := K e he
      have h3 := F.2 e he
      rw [k2]
      refine ⟨h3.1, ?_⟩
      rcases k3 with k3 | k3
      · rw [k3]; exact h3.2
      · have := FL_free O F e k3.2.1 he
        omega
/-- the state of the net while it is that of D: nothing else is changed -/
def cs (M0 M : gx_M) (D : gD) : Prop := (∀ p, p < 11 ∨ 20 < p → M p = M0 p) ∧ nv M (dE D) ∧ nq M (dE D) ∧ circ M (nf M) ∧ nD M D
theorem lay_cs {M0 M : gx_M} {n m : Nat} {ct : Nat → Nat} (W : gg_W M0 n m) (K : mk_ M0 M (lyF M0 n m) (lyL M0) (lyH M0) (lyA M0 (M0 4)) (lyB M0 (M0 4)) ct) : cs M0 M (dC M0 n m) ∧ (∀ j, j < 61 → M 16 j = 0) ∧ ∀ j, j < 61 → nf M j = 0 := by
  have O := gok_C W
  have hE : ∀ e, e < 61 → dE (dC M0 n m) e = lyF M0 n m e := fun e he => (ly_E he).symm
  have K2 := mk_mono (ct2 := ct) K hE (fun w _ => Nat.le_refl _)
  have hab : ∀ e, e < 61 → lyF M0 n m e = true → lyA M0 (M0 4) e < 22 ∧ lyB M0 (M0 4) e < 22 ∧ lyA M0 (M0 4) e ≠ lyB M0 (M0 4) e := fun e he hp => by
    rw [← hE e he] at hp
    have h1 := dlt O he
    have h2 := dAB he hp
    unfold dA dB at h1 h2
    rw [if_pos hp, if_pos hp] at h1 h2
    exact ⟨h1.1, h1.2, h2⟩
  obtain ⟨l1, l2, l3, l4, l5⟩ := lay_ok W hab K
  have N : nv M (dE (dC M0 n m)) := ⟨K2.2.1, fun e he => by
    have := l1.2 e he
    rw [hE e he]; exact this⟩
  refine ⟨⟨fun p hp => K.1 p (by omega) (by omega) (by omega) (by omega) (by omega) (by omega) (by omega) (by omega), N, fun e he => ?_, l3, fun e he => ?_⟩, l4, l5⟩
  · have := l2 e he
    rw [hE e he]; exact this
  · obtain ⟨k1, k2, k3, k4, k5⟩ := K2.2.2.1 e he
    have hlt := dlt O he
    unfold nlo nhi na nb dA dB dL dH
    cases hp : dE (dC M0 n m) e with
    | false =>
      refine ⟨fun q => (by cases q), ?_, Or.inl ?_⟩
      · rw [if_neg (by decide), (k2 hp).1]; decide
      · rw [if_neg (by decide), (k2 hp).2]; decide
    | true =>
      unfold dA dB at hlt
      rw [if_pos hp, if_pos hp] at hlt
      obtain ⟨c1, c2, c3, c4⟩ := k1 hp
      rw [ly_A (n := n) (m := m)] at c3
      rw [ly_B (n := n) (m := m)] at c4
      rw [if_pos rfl, if_pos rfl, if_pos rfl, if_pos rfl, c1, c2, c3, c4, i_nI (by omega), i_nI (by omega)]
      refine ⟨fun _ => ⟨by simp, by simp⟩, ?_, ?_⟩
      · unfold lyL
        by_cases h : e < 40
        · rw [if_pos h, if_pos h]; rfl
        · rw [if_neg h, if_neg h]
          by_cases h2 : e < 60
          · rw [if_pos h2]; decide
          · rw [if_neg h2]; decide
      · have zf : (100000 : Int32).toInt = 100000 := by decide
        unfold lyH
        by_cases h : e < 40
        · rw [if_pos h, if_pos h]; exact Or.inl rfl
        · rw [if_neg h, if_neg h]
          by_cases h2 : e < 50
          · rw [if_pos h2, if_pos h2]
            show _ ∨ (_ ∧ _ ∧ (if M0 5 (e - 40) = -1 then (1000000 : Int) else (M0 5 (e - 40)).toInt) = 1000000)
            by_cases h3 : M0 5 (e - 40) = -1
            · rw [if_pos h3, if_pos h3]; exact Or.inr ⟨zf, by omega, rfl⟩
            · rw [if_neg h3]
              left
              show _ = (if M0 5 (e - 40) = -1 then (1000000 : Int) else (M0 5 (e - 40)).toInt)
              rw [if_neg h3]
          · rw [if_neg h2, if_neg h2]
            right
            refine ⟨zf, by omega, ?_⟩
            by_cases h3 : e < 60
            · rw [if_pos h3]
            · rw [if_neg h3]
set_option maxRecDepth 100000 in
set_option maxHeartbeats 4000000 in
theorem sp_lay {X : gx_X} {M0 : gx_M} {n m : Nat} {P : Option Value → gx_M → Prop} (W : gg_W M0 n m) (hst : stl M0)
    (hP : ∀ M1, cs M0 M1 (dC M0 n m) → (∀ j, j < 61 → M1 16 j = 0) → (∀ j, j < 61 → nf M1 j = 0) → (∀ w, w < 22 → ∃ c, c ≤ (if 20 ≤ w then lyC (M0 4) n m w + 1 else lyC (M0 4) n m w) ∧ M1 18 w = nI c) → P none M1) : gx_C X 55 [.ref 0] M0 P :=
  sp_layOut W hst (fun M1 K => by
    obtain ⟨a, b, c⟩ := lay_cs W K
    exact hP M1 a b c K.2.2.2)
