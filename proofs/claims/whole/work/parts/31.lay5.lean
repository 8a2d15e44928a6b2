/-! What layOut leaves: a net in order, without flow. -/
def lyF (M0 : gx_M) (n m : Nat) (e : Nat) : Bool := if e = 60 then true else lyE M0 (M0 4) n m e
theorem lyAB {M0 : gx_M} {kd : Nat → Int32} {e : Nat} (he : e < 61) : lyA M0 kd e ≠ lyB M0 kd e := by
  unfold lyA lyB
  by_cases h1 : e < 40
  · rw [if_pos h1, if_pos h1]; omega
  · rw [if_neg h1, if_neg h1]
    by_cases h2 : e < 50
    · rw [if_pos h2, if_pos h2]; omega
    · rw [if_neg h2, if_neg h2]
      by_cases h3 : e < 60
      · rw [if_pos h3, if_pos h3]
        by_cases h4 : kd (e - 50) = 1
        · rw [if_pos h4, if_pos h4]; omega
        · rw [if_neg h4, if_neg h4]; omega
      · rw [if_neg h3, if_neg h3]; omega
theorem lay_ok {M0 M : gx_M} {n m : Nat} {fa fb ct : Nat → Nat} (W : gg_W M0 n m) (hab : ∀ e, e < 61 → lyF M0 n m e = true → fa e < 22 ∧ fb e < 22 ∧ fa e ≠ fb e) (K : mk_ M0 M (lyF M0 n m) (lyL M0) (lyH M0) fa fb ct) : nv M (lyF M0 n m) ∧ nq M (lyF M0 n m) ∧ circ M (nf M) ∧ (∀ j, j < 61 → M 16 j = 0) ∧ ∀ j, j < 61 → nf M j = 0 := by
  obtain ⟨w1, w2, w3, w4, w5, w6, w7⟩ := id W
  obtain ⟨k1, k2, k3, k4⟩ := K
  have z0 : (0 : Int32).toInt = 0 := by decide
  have zf : (100000 : Int32).toInt = 100000 := by decide
  have f0 : ∀ j, j < 61 → nf M j = 0 := fun j hj => by unfold nf; rw [(k3 j hj).2.2.1]; exact z0
  refine ⟨⟨k2, fun e he => ?_⟩, fun e he => ?_, fun v _ => ?_, fun j hj => (k3 j hj).2.2.2.1, f0⟩
  · rw [f0 e he]
    unfold nlo nhi
    cases hp : lyF M0 n m e with
    | false =>
      rw [((k3 e he).2.1 hp).1, ((k3 e he).2.1 hp).2, z0]
      simp
    | true =>
      rw [((k3 e he).1 hp).1, ((k3 e he).1 hp).2.1]
      unfold lyL lyH
      by_cases h1 : e < 40
      · rw [if_pos h1, if_pos h1]
        have : e < m := by
          unfold lyF at hp
          rw [if_neg (by omega)] at hp
          rcases of_decide_eq_true hp with h | h | h <;> omega
        have := w6 e this
        refine ⟨by omega, by omega, by omega, by omega, by omega, fun q => by cases q⟩
      · rw [if_neg h1, if_neg h1, z0]
        by_cases h2 : e < 50
        · rw [if_pos h2]
          have : e - 40 < n := by
            unfold lyF at hp
            rw [if_neg (by omega)] at hp
            rcases of_decide_eq_true hp with h | h | h <;> omega
          have := w5 _ this
          by_cases h3 : M0 5 (e - 40) = -1
          · rw [if_pos h3, zf]
            refine ⟨by omega, by omega, by omega, by omega, by omega, fun q => by cases q⟩
          · rw [if_neg h3]
            have zm : (-1 : Int32).toInt = -1 := by decide
            have h4 : (M0 5 (e - 40)).toInt ≠ -1 := fun q => h3 (i_eq.mpr (by rw [q, zm]))
            refine ⟨by omega, by omega, by omega, by omega, by omega, fun q => by cases q⟩
        · rw [if_neg h2, zf]
          refine ⟨by omega, by omega, by omega, by omega, by omega, fun q => by cases q⟩
  · obtain ⟨a, b, ha, hb, e1, e2⟩ := (k3 e he).2.2.2.2
    have na1 : na M e = a := by unfold na; rw [e1, i_nI (by omega), Int.toNat_natCast]
    have nb1 : nb M e = b := by unfold nb; rw [e2, i_nI (by omega), Int.toNat_natCast]
    rw [na1, nb1, e1, e2, i_nI (by omega), i_nI (by omega)]
    refine ⟨by omega, by omega, ha, hb, fun hp z => ?_⟩
    obtain ⟨-, -, c1, c2⟩ := (k3 e he).1 hp
    rw [e1] at c1
    rw [e2] at c2
    rw [z] at c1
    have c3 := c1.symm.trans c2
    have h9 := hab e he hp
    exact h9.2.2 (nI_inj (by omega) (by omega) c3)
  · exact sm_z' (fun e he => by rw [f0 e he, Int.mul_zero])
