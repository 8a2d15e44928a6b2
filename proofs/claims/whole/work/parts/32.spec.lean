/-! What both objects are asked about: circulations in the net of a graph. Nothing of the machine. -/
abbrev gD := Nat × Nat × (Nat → Bool) × (Nat → Int32) × (Nat → Int32) × (Nat → Int32) × (Nat → Int32) × (Nat → Int32) × (Nat → Int32)
def gdn (D : gD) : Nat := D.1
def gdm (D : gD) : Nat := D.2.1
def gdl (D : gD) : Nat → Bool := D.2.2.1
def gdf (D : gD) : Nat → Int32 := D.2.2.2.1
def gdt (D : gD) : Nat → Int32 := D.2.2.2.2.1
def gdb (D : gD) : Nat → Int32 := D.2.2.2.2.2.1
def gdk (D : gD) : Nat → Int32 := D.2.2.2.2.2.2.1
def gdx (D : gD) : Nat → Int32 := D.2.2.2.2.2.2.2.1
def gdy (D : gD) : Nat → Int32 := D.2.2.2.2.2.2.2.2
def gok (D : gD) : Prop := gdn D ≤ 10 ∧ gdm D ≤ 40 ∧
  (∀ v, v < gdn D → 0 ≤ (gdk D v).toInt ∧ (gdk D v).toInt ≤ 2 ∧ -1 ≤ (gdb D v).toInt ∧ (gdb D v).toInt ≤ 100000) ∧
  (∀ k, k < gdm D → gdl D k = true → 0 ≤ (gdf D k).toInt ∧ (gdf D k).toInt < gdn D ∧ 0 ≤ (gdt D k).toInt ∧ (gdt D k).toInt < gdn D ∧ (gdf D k).toInt ≠ (gdt D k).toInt ∧ 0 ≤ (gdx D k).toInt ∧ (gdx D k).toInt ≤ (gdy D k).toInt ∧ (gdy D k).toInt ≤ 1001)
/-- the edge is put -/
def dE (D : gD) (e : Nat) : Bool := decide ((e < 40 ∧ e < gdm D ∧ gdl D e = true) ∨ (40 ≤ e ∧ e < 50 ∧ e < 40 + gdn D) ∨ (50 ≤ e ∧ e < 60 ∧ e < 50 + gdn D ∧ gdk D (e - 50) ≠ 0) ∨ e = 60)
def dA' (D : gD) (e : Nat) : Nat := if e < 40 then 2 * (gdf D e).toInt.toNat + 1 else if e < 50 then 2 * (e - 40) else if e < 60 then (if gdk D (e - 50) = 1 then 20 else 2 * (e - 50) + 1) else 21
def dB' (D : gD) (e : Nat) : Nat := if e < 40 then 2 * (gdt D e).toInt.toNat else if e < 50 then 2 * (e - 40) + 1 else if e < 60 then (if gdk D (e - 50) = 1 then 2 * (e - 50) else 21) else 20
def dA (D : gD) (e : Nat) : Nat := if dE D e = true then dA' D e else 0
def dB (D : gD) (e : Nat) : Nat := if dE D e = true then dB' D e else 0
def dL (D : gD) (r : Int) (e : Nat) : Int := if dE D e = true then (if e < 40 then (gdx D e).toInt else if e < 60 then 0 else r) else 0
def dH (D : gD) (r : Int) (e : Nat) : Int := if dE D e = true then (if e < 40 then (gdy D e).toInt else if e < 50 then (if gdb D (e - 40) = -1 then 1000000 else (gdb D (e - 40)).toInt) else if e < 60 then 1000000 else r) else 0
def SP (D : gD) (r s : Int) (g : Nat → Int) : Prop := (∀ v, v < 22 → nt_d 61 (dA D) (dB D) g v = 0) ∧ ∀ e, e < 61 → dL D r e ≤ g e ∧ g e ≤ dH D s e
theorem d_reg {e : Nat} (he : e < 61) : e < 40 ∨ (∃ v, v < 10 ∧ e = 40 + v) ∨ (∃ v, v < 10 ∧ e = 50 + v) ∨ e = 60 := by
  by_cases h1 : e < 40
  · exact Or.inl h1
  · by_cases h2 : e < 50
    · exact Or.inr (Or.inl ⟨e - 40, by omega, by omega⟩)
    · by_cases h3 : e < 60
      · exact Or.inr (Or.inr (Or.inl ⟨e - 50, by omega, by omega⟩))
      · exact Or.inr (Or.inr (Or.inr (by omega)))
section DREG
variable {D : gD} {v : Nat}
theorem dA1 {e : Nat} (h : e < 40) : dA' D e = 2 * (gdf D e).toInt.toNat + 1 := by unfold dA'; rw [if_pos h]
theorem dB1 {e : Nat} (h : e < 40) : dB' D e = 2 * (gdt D e).toInt.toNat := by unfold dB'; rw [if_pos h]
theorem dA2 (h : v < 10) : dA' D (40 + v) = 2 * v := by unfold dA'; rw [if_neg (by omega), if_pos (by omega)]; omega
theorem dB2 (h : v < 10) : dB' D (40 + v) = 2 * v + 1 := by unfold dB'; rw [if_neg (by omega), if_pos (by omega)]; omega
theorem dA3 (h : v < 10) : dA' D (50 + v) = if gdk D v = 1 then 20 else 2 * v + 1 := by unfold dA'; rw [if_neg (by omega), if_neg (by omega), if_pos (by omega), show 50 + v - 50 = v by omega]
theorem dB3 (h : v < 10) : dB' D (50 + v) = if gdk D v = 1 then 2 * v else 21 := by unfold dB'; rw [if_neg (by omega), if_neg (by omega), if_pos (by omega), show 50 + v - 50 = v by omega]
theorem dA4 : dA' D 60 = 21 := rfl
theorem dB4 : dB' D 60 = 20 := rfl
theorem dE1 {e : Nat} (h : e < 40) : dE D e = true ↔ e < gdm D ∧ gdl D e = true := by
  unfold dE; rw [decide_eq_true_iff]
  constructor
  · rintro (h | h | h | h)
    · exact h.2
    · omega
    · omega
    · omega
  · exact fun h2 => Or.inl ⟨h, h2⟩
theorem dE2 (h : v < 10) : dE D (40 + v) = true ↔ v < gdn D := by
  unfold dE; rw [decide_eq_true_iff]
  constructor
  · rintro (h | h | h | h) <;> omega
  · exact fun h2 => Or.inr (Or.inl (by omega))
theorem dE3 (h : v < 10) : dE D (50 + v) = true ↔ v < gdn D ∧ gdk D v ≠ 0 := by
  unfold dE; rw [decide_eq_true_iff, show 50 + v - 50 = v by omega]
  constructor
  · rintro (h | h | h | h)
    · omega
    · omega
    · exact ⟨by omega, h.2.2.2⟩
    · omega
  · exact fun h2 => Or.inr (Or.inr (Or.inl ⟨by omega, by omega, by omega, h2.2⟩))
theorem dE4 : dE D 60 = true := by unfold dE; exact decide_eq_true (Or.inr (Or.inr (Or.inr rfl)))
end DREG
theorem dlt {D : gD} (O : gok D) {e : Nat} (he : e < 61) : dA D e < 22 ∧ dB D e < 22 := by
  unfold dA dB
  by_cases hp : dE D e = true
  · rw [if_pos hp, if_pos hp]
    rcases d_reg he with h | ⟨v, h, rfl⟩ | ⟨v, h, rfl⟩ | rfl
    · rw [dA1 h, dB1 h]
      have h1 := (dE1 h).mp hp
      have := O.2.2.2 e h1.1 h1.2
      have := O.1
      omega
    · rw [dA2 h, dB2 h]; omega
    · rw [dA3 h, dB3 h]
      by_cases z : gdk D v = 1
      · rw [if_pos z, if_pos z]; omega
      · rw [if_neg z, if_neg z]; omega
    · rw [dA4, dB4]; omega
  · rw [if_neg hp, if_neg hp]; omega
theorem dAB {D : gD} {e : Nat} (he : e < 61) (hp : dE D e = true) : dA D e ≠ dB D e := by
  unfold dA dB
  rw [if_pos hp, if_pos hp]
  rcases d_reg he with h | ⟨v, h, rfl⟩ | ⟨v, h, rfl⟩ | rfl
  · rw [dA1 h, dB1 h]; omega
  · rw [dA2 h, dB2 h]; omega
  · rw [dA3 h, dB3 h]
    by_cases z : gdk D v = 1
    · rw [if_pos z, if_pos z]; omega
    · rw [if_neg z, if_neg z]; omega
  · rw [dA4, dB4]; omega
theorem SP_nn {D : gD} (O : gok D) {r s : Int} (hr : 0 ≤ r) {g : Nat → Int} (G : SP D r s g) : ∀ e, e < 61 → 0 ≤ g e ∧ (dE D e = false → g e = 0) ∧ (e < 40 → g e ≤ 1001) := by
  intro e he
  obtain ⟨a, b⟩ := G.2 e he
  unfold dL at a
  unfold dH at b
  by_cases hp : dE D e = true
  · rw [if_pos hp] at a b
    rcases d_reg he with h | ⟨v, h, rfl⟩ | ⟨v, h, rfl⟩ | rfl
    · have h1 := (dE1 h).mp hp
      have := O.2.2.2 e h1.1 h1.2
      rw [if_pos h] at a b
      exact ⟨by omega, fun q => (by rw [hp] at q; cases q), fun _ => by omega⟩
    · rw [if_neg (by omega), if_pos (by omega)] at a
      exact ⟨a, fun q => (by rw [hp] at q; cases q), fun _ => by omega⟩
    · rw [if_neg (by omega), if_pos (by omega)] at a
      exact ⟨a, fun q => (by rw [hp] at q; cases q), fun _ => by omega⟩
    · rw [if_neg (by omega), if_neg (by omega)] at a
      exact ⟨by omega, fun q => (by rw [hp] at q; cases q), fun _ => by omega⟩
  · rw [if_neg hp] at a b
    exact ⟨by omega, fun _ => by omega, fun _ => by omega⟩
theorem sm_low {f : Nat → Int} {a : Nat} {x : Int} : ∀ {n : Nat}, n ≤ 61 → 40 ≤ a → f a = x → (∀ e, e < n → e < 40 → -1001 ≤ f e) → (∀ e, e < n → 40 ≤ e → e ≠ a → 0 ≤ f e) → (if a < n then x else 0) - 1001 * (if n < 40 then (n : Int) else 40) ≤ sm_ n f
  | 0, _, _, _, _, _ => by simp [sm_]
  | n + 1, h0, h1, h2, h3, h4 => by
    have ih := sm_low (f := f) (a := a) (x := x) (n := n) (by omega) h1 h2 (fun e he => h3 e (by omega)) (fun e he => h4 e (by omega))
    rw [sm_s]
    by_cases c1 : n < 40
    · have := h3 n (by omega) c1
      rw [if_neg (by omega)] at ih ⊢
      rw [if_pos c1] at ih
      by_cases c2 : n + 1 < 40
      · rw [if_pos c2]; omega
      · rw [if_neg c2]; omega
    · rw [if_neg c1] at ih
      rw [if_neg (show ¬ n + 1 < 40 by omega)]
      by_cases c2 : n = a
      · subst c2
        rw [if_neg (by omega)] at ih
        rw [if_pos (by omega)]; omega
      · have := h4 n (by omega) (by omega) c2
        by_cases c3 : a < n
        · rw [if_pos c3] at ih
          rw [if_pos (by omega)]; omega
        · rw [if_neg c3] at ih
          rw [if_neg (by omega)]; omega
/-- no edge but arcs leads out of S: what comes into S on a is at most what arcs carry -/
theorem fr_bound {D : gD} (O : gok D) {r s : Int} (hr : 0 ≤ r) {g : Nat → Int} (G : SP D r s g) (S : Nat → Bool) {a : Nat} (ha : 40 ≤ a) (ha2 : a < 61) (hp : dE D a = true) (h1 : S (dA' D a) = false) (h2 : S (dB' D a) = true)
    (h3 : ∀ e, 40 ≤ e → e < 61 → e ≠ a → dE D e = true → S (dA' D e) = true → S (dB' D e) = true) : g a ≤ 40040 := by
  have nn := SP_nn O hr G
  have h0 := nt_cut (n := 61) (V := 22) (fr := dA D) (to := dB D) g S (fun e he => (dlt O he).1) (fun e he => (dlt O he).2)
  rw [sm_z' (fun v hv => by rw [G.1 v hv, Int.mul_zero])] at h0
  have h5 := sm_low (f := fun e => (nt_in S (dB D e) - nt_in S (dA D e)) * g e) (a := a) (x := g a) (n := 61) (Nat.le_refl _) ha (by
    show (nt_in S (dB D a) - nt_in S (dA D a)) * g a = g a
    unfold dA dB nt_in
    rw [if_pos hp, if_pos hp, h1, h2]
    simp) (fun e he h40 => by
    have := nn e he
    have h6 := this.2.2 h40
    show -1001 ≤ (nt_in S (dB D e) - nt_in S (dA D e)) * g e
    unfold nt_in
    cases S (dB D e) <;> cases S (dA D e) <;> simp <;> omega) (fun e he h40 hne => by
    have := nn e he
    show 0 ≤ (nt_in S (dB D e) - nt_in S (dA D e)) * g e
    cases hq : dE D e with
    | false => rw [this.2.1 hq]; simp
    | true =>
      have h7 := h3 e h40 he hne hq
      unfold dA dB nt_in
      rw [if_pos hq, if_pos hq]
      cases c1 : S (dB' D e) <;> cases c2 : S (dA' D e) <;> simp
      · rw [h7 c2] at c1; cases c1
      · exact this.1)
  rw [← h0, if_pos ha2, if_neg (by omega)] at h5
  omega
theorem kd3 {k : Int32} (h1 : 0 ≤ k.toInt) (h2 : k.toInt ≤ 2) : k = 0 ∨ k = 1 ∨ k = 2 := by
  have a0 : (0 : Int32).toInt = 0 := by decide
  have a1 : (1 : Int32).toInt = 1 := by decide
  have a2 : (2 : Int32).toInt = 2 := by decide
  rcases (show k.toInt = 0 ∨ k.toInt = 1 ∨ k.toInt = 2 by omega) with h | h | h
  · exact Or.inl (Int32.toInt_inj.mp (by rw [h, a0]))
  · exact Or.inr (Or.inl (Int32.toInt_inj.mp (by rw [h, a1])))
  · exact Or.inr (Or.inr (Int32.toInt_inj.mp (by rw [h, a2])))
theorem SP_free {D : gD} (O : gok D) {r s : Int} (hr : 0 ≤ r) {g : Nat → Int} (G : SP D r s g) : ∀ e, 40 ≤ e → e < 61 → g e ≤ 40040 := by
  intro e h40 h61
  have nn := SP_nn O hr G
  have k12 : ¬ (2 : Int32) = 1 := by decide
  have k01 : ¬ (0 : Int32) = 1 := by decide
  have O1 := O.1
  cases hp : dE D e with
  | false => rw [(nn e h61).2.1 hp]; omega
  | true =>
    rcases d_reg h61 with h | ⟨v, h, rfl⟩ | ⟨v, h, rfl⟩ | rfl
    · omega
    · have hv := (dE2 h).mp hp
      have hk := O.2.2.1 v hv
      rcases kd3 hk.1 hk.2.1 with k | k | k
      · refine fr_bound O hr G (fun w => decide (w = 2 * v + 1)) h40 h61 hp (by rw [dA2 h]; simp <;> omega) (by rw [dB2 h]; simp) (fun e a b c d f => ?_)
        have f := of_decide_eq_true f
        refine decide_eq_true ?_
        rcases d_reg b with q | ⟨u, q, rfl⟩ | ⟨u, q, rfl⟩ | rfl
        · omega
        · rw [dA2 q] at f; omega
        · rw [dA3 q] at f
          by_cases z : gdk D u = 1
          · rw [if_pos z] at f; omega
          · rw [if_neg z] at f
            have : u = v := by omega
            subst this
            exact absurd k ((dE3 q).mp d).2
        · rw [dA4] at f; omega
      · refine fr_bound O hr G (fun w => decide (w = 2 * v + 1)) h40 h61 hp (by rw [dA2 h]; simp <;> omega) (by rw [dB2 h]; simp) (fun e a b c d f => ?_)
        have f := of_decide_eq_true f
        refine decide_eq_true ?_
        rcases d_reg b with q | ⟨u, q, rfl⟩ | ⟨u, q, rfl⟩ | rfl
        · omega
        · rw [dA2 q] at f; omega
        · rw [dA3 q] at f
          by_cases z : gdk D u = 1
          · rw [if_pos z] at f; omega
          · rw [if_neg z] at f
            have : u = v := by omega
            subst this
            exact absurd k z
        · rw [dA4] at f; omega
      · refine fr_bound O hr G (fun w => decide (w ≠ 2 * v)) h40 h61 hp (by rw [dA2 h]; simp) (by rw [dB2 h]; simp <;> omega) (fun e a b c d f => ?_)
        have f := of_decide_eq_true f
        refine decide_eq_true ?_
        rcases d_reg b with q | ⟨u, q, rfl⟩ | ⟨u, q, rfl⟩ | rfl
        · omega
        · rw [dB2 q]; omega
        · rw [dB3 q]
          by_cases z : gdk D u = 1
          · rw [if_pos z]
            intro y
            have : u = v := by omega
            subst this
            rw [k] at z
            exact absurd z k12
          · rw [if_neg z]; omega
        · rw [dB4]; omega
    · have hv := (dE3 h).mp hp
      by_cases k : gdk D v = 1
      · refine fr_bound O hr G (fun w => decide (w = 2 * v ∨ w = 2 * v + 1)) h40 h61 hp (by rw [dA3 h, if_pos k]; simp <;> omega) (by rw [dB3 h, if_pos k]; simp) (fun e a b c d f => ?_)
        have f := of_decide_eq_true f
        refine decide_eq_true ?_
        rcases d_reg b with q | ⟨u, q, rfl⟩ | ⟨u, q, rfl⟩ | rfl
        · omega
        · rw [dA2 q] at f; rw [dB2 q]; omega
        · rw [dA3 q] at f
          by_cases z : gdk D u = 1
          · rw [if_pos z] at f; omega
          · rw [if_neg z] at f; omega
        · rw [dA4] at f; omega
      · refine fr_bound O hr G (fun w => decide (w ≠ 2 * v ∧ w ≠ 2 * v + 1)) h40 h61 hp (by rw [dA3 h, if_neg k]; simp) (by rw [dB3 h, if_neg k]; simp <;> omega) (fun e a b c d f => ?_)
        have f := of_decide_eq_true f
        refine decide_eq_true ?_
        rcases d_reg b with q | ⟨u, q, rfl⟩ | ⟨u, q, rfl⟩ | rfl
        · omega
        · rw [dA2 q] at f; rw [dB2 q]; omega
        · rw [dB3 q]
          by_cases z : gdk D u = 1
          · rw [if_pos z]
            have : u ≠ v := fun y => k (by rw [← y]; exact z)
            omega
          · rw [if_neg z]; omega
        · rw [dB4]; omega
    · refine fr_bound O hr G (fun w => decide (w = 20 ∨ (w / 2 < 10 ∧ gdk D (w / 2) = 1))) h40 h61 hp (by rw [dA4]; simp) (by rw [dB4]; simp) (fun e a b c d f => ?_)
      have f := of_decide_eq_true f
      refine decide_eq_true ?_
      rcases d_reg b with q | ⟨u, q, rfl⟩ | ⟨u, q, rfl⟩ | rfl
      · omega
      · rw [dA2 q, show 2 * u / 2 = u by omega] at f; rw [dB2 q, show (2 * u + 1) / 2 = u by omega]
        rcases f with f | f
        · omega
        · exact Or.inr f
      · rw [dA3 q] at f
        rw [dB3 q]
        by_cases z : gdk D u = 1
        · rw [if_pos z, show 2 * u / 2 = u by omega]; exact Or.inr ⟨q, z⟩
        · rw [if_neg z, show (2 * u + 1) / 2 = u by omega] at f
          rcases f with f | f
          · omega
          · exact absurd f.2 z
      · omega
/-- a flow: the edge that leads all back has any value -/
def FL (D : gD) (g : Nat → Int) : Prop := SP D 0 1000000 g
theorem SP_iff {D : gD} (O : gok D) {r s : Int} (hr : 0 ≤ r) {g : Nat → Int} : SP D r s g ↔ FL D g ∧ r ≤ g 60 ∧ g 60 ≤ s := by
  have key : ∀ e, e < 61 → e ≠ 60 → ∀ x y : Int, dL D x e = dL D y e ∧ dH D x e = dH D y e := by
    intro e he hne x y
    unfold dL dH
    by_cases hp : dE D e = true
    · rw [if_pos hp, if_pos hp, if_pos hp, if_pos hp, if_pos (show e < 60 by omega), if_pos (show e < 60 by omega), if_pos (show e < 60 by omega), if_pos (show e < 60 by omega)]
      exact ⟨rfl, rfl⟩
    · rw [if_neg hp, if_neg hp, if_neg hp, if_neg hp]; exact ⟨rfl, rfl⟩
  have l60 : ∀ x, dL D x 60 = x := fun x => by unfold dL; rw [if_pos dE4, if_neg (by omega), if_neg (by omega)]
  have h60 : ∀ x, dH D x 60 = x := fun x => by unfold dH; rw [if_pos dE4, if_neg (by omega), if_neg (by omega), if_neg (by omega)]
  constructor
  · intro G
    have f := SP_free O hr G 60 (by omega) (by omega)
    have g60 := G.2 60 (by omega)
    rw [l60, h60] at g60
    refine ⟨⟨G.1, fun e he => ?_⟩, g60.1, g60.2⟩
    by_cases z : e = 60
    · rw [z, l60, h60]; omega
    · rw [(key e he z 0 r).1, (key e he z 1000000 s).2]; exact G.2 e he
  · rintro ⟨F, a, b⟩
    refine ⟨F.1, fun e he => ?_⟩
    by_cases z : e = 60
    · rw [z, l60, h60]; exact ⟨a, b⟩
    · rw [(key e he z r 0).1, (key e he z s 1000000).2]; exact F.2 e he
theorem FL_free {D : gD} (O : gok D) {g : Nat → Int} (G : FL D g) : ∀ e, 40 ≤ e → e < 61 → g e ≤ 40040 := SP_free O (Int.le_refl 0) G
theorem FL_nn {D : gD} (O : gok D) {g : Nat → Int} (G : FL D g) : ∀ e, e < 61 → 0 ≤ g e ∧ (dE D e = false → g e = 0) ∧ (e < 40 → g e ≤ 1001) := SP_nn O (Int.le_refl 0) G
/-- the same graph, as far as it counts -/
def deq (D D2 : gD) : Prop := gdn D = gdn D2 ∧ gdm D = gdm D2 ∧ (∀ v, v < gdn D → gdk D v = gdk D2 v ∧ gdb D v = gdb D2 v) ∧ (∀ k, k < gdm D → gdl D k = gdl D2 k ∧ (gdl D k = true → gdf D k = gdf D2 k ∧ gdt D k = gdt D2 k ∧ gdx D k = gdx D2 k ∧ gdy D k = gdy D2 k))
theorem deq_E {D D2 : gD} (Q : deq D D2) {e : Nat} (he : e < 61) : dE D e = dE D2 e := by
  obtain ⟨q1, q2, q3, q4⟩ := Q
  refine Bool.eq_iff_iff.mpr ?_
  rcases d_reg he with h | ⟨v, h, rfl⟩ | ⟨v, h, rfl⟩ | rfl
  · rw [dE1 h, dE1 h, ← q2]
    exact ⟨fun z => ⟨z.1, by rw [← (q4 e z.1).1]; exact z.2⟩, fun z => ⟨z.1, by rw [(q4 e z.1).1]; exact z.2⟩⟩
  · rw [dE2 h, dE2 h, q1]
  · rw [dE3 h, dE3 h, ← q1]
    exact ⟨fun z => ⟨z.1, by rw [← (q3 v z.1).1]; exact z.2⟩, fun z => ⟨z.1, by rw [(q3 v z.1).1]; exact z.2⟩⟩
  · rw [dE4, dE4]
theorem deq_all {D D2 : gD} (Q : deq D D2) {e : Nat} (he : e < 61) : dA D e = dA D2 e ∧ dB D e = dB D2 e ∧ (∀ r, dL D r e = dL D2 r e) ∧ ∀ r, dH D r e = dH D2 r e := by
  have hE := deq_E Q he
  unfold dA dB dL dH
  rw [← hE]
  by_cases hp : dE D e = true
  · rw [if_pos hp, if_pos hp, if_pos hp, if_pos hp]
    simp only [if_pos hp]
    obtain ⟨q1, q2, q3, q4⟩ := Q
    rcases d_reg he with h | ⟨v, h, rfl⟩ | ⟨v, h, rfl⟩ | rfl
    · have := (dE1 h).mp hp
      have := (q4 e this.1).2 this.2
      refine ⟨by rw [dA1 h, dA1 h, this.1], by rw [dB1 h, dB1 h, this.2.1], fun r => by rw [if_pos h, if_pos h, this.2.2.1], fun r => by rw [if_pos h, if_pos h, this.2.2.2]⟩
    · have := (q3 v ((dE2 h).mp hp)).2
      have n4 : ¬ 40 + v < 40 := by omega
      have n5 : 40 + v < 50 := by omega
      have n6 : 40 + v < 60 := by omega
      refine ⟨by rw [dA2 h, dA2 h], by rw [dB2 h, dB2 h], fun r => ?_, fun r => ?_⟩
      · rw [if_neg n4, if_neg n4]
      · rw [if_neg n4, if_neg n4, if_pos n5, if_pos n5, show 40 + v - 40 = v by omega, this]
    · have := (q3 v ((dE3 h).mp hp).1).1
      have n4 : ¬ 50 + v < 40 := by omega
      have n5 : ¬ 50 + v < 50 := by omega
      refine ⟨by rw [dA3 h, dA3 h, this], by rw [dB3 h, dB3 h, this], fun r => ?_, fun r => ?_⟩
      · rw [if_neg n4, if_neg n4]
      · rw [if_neg n4, if_neg n4, if_neg n5, if_neg n5]
    · have n4 : ¬ 60 < 40 := by omega
      have n5 : ¬ 60 < 50 := by omega
      have n6 : ¬ 60 < 60 := by omega
      refine ⟨by rw [dA4, dA4], by rw [dB4, dB4], fun r => ?_, fun r => ?_⟩
      · rw [if_neg n4, if_neg n4]
      · rw [if_neg n4, if_neg n4, if_neg n5, if_neg n5, if_neg n6]
  · rw [if_neg hp, if_neg hp, if_neg hp, if_neg hp]
    simp only [if_neg hp]
    exact ⟨trivial, trivial, fun _ => trivial, fun _ => trivial⟩
theorem nt_d_eq {n : Nat} {fr to fr2 to2 : Nat → Nat} {f : Nat → Int} (h : ∀ e, e < n → f e = 0 ∨ (fr e = fr2 e ∧ to e = to2 e)) (v : Nat) : nt_d n fr to f v = nt_d n fr2 to2 f v := by
  unfold nt_d
  refine sm_congr (fun e he => ?_)
  rcases h e he with z | z
  · rw [z, Int.mul_zero, Int.mul_zero]
  · unfold nt_c
    rw [z.1, z.2]
theorem deq_SP {D D2 : gD} (Q : deq D D2) {r s : Int} {g : Nat → Int} : SP D r s g ↔ SP D2 r s g := by
  have h1 : ∀ v, nt_d 61 (dA D) (dB D) g v = nt_d 61 (dA D2) (dB D2) g v := nt_d_eq (fun e he => Or.inr ⟨(deq_all Q he).1, (deq_all Q he).2.1⟩)
  unfold SP
  constructor
  · rintro ⟨a, b⟩
    exact ⟨fun v hv => by rw [← h1]; exact a v hv, fun e he => by rw [← (deq_all Q he).2.2.1, ← (deq_all Q he).2.2.2]; exact b e he⟩
  · rintro ⟨a, b⟩
    exact ⟨fun v hv => by rw [h1]; exact a v hv, fun e he => by rw [(deq_all Q he).2.2.1, (deq_all Q he).2.2.2]; exact b e he⟩
theorem deq_FL {D D2 : gD} (Q : deq D D2) {g : Nat → Int} : FL D g ↔ FL D2 g := deq_SP Q
