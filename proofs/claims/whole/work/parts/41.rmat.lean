/-! The reference's matrix: when all that must go goes, there is a circulation, and only then. -/
def pk2 (a b u v : Nat) : Int := if a = u ∧ b = v then 1 else 0
theorem sm_pick (f : Nat → Int) {a n : Nat} (ha : a < n) : sm_ n (fun u => f u * (if a = u then 1 else 0)) = f a := by
  have h := sm_one f a n
  rw [if_pos ha] at h
  rw [← h]
  refine sm_congr (fun i _ => ?_)
  by_cases z : i = a
  · rw [if_pos z, if_pos z.symm, Int.mul_one]
  · rw [if_neg z, if_neg (fun q => z q.symm), Int.mul_zero]
theorem pick2 (w : Nat → Nat → Int) {a b n : Nat} (ha : a < n) (hb : b < n) : sm_ n (fun u => sm_ n (fun v => w u v * pk2 a b u v)) = w a b := by
  have h1 : ∀ u, sm_ n (fun v => w u v * pk2 a b u v) = w u b * (if a = u then 1 else 0) := fun u => by
    by_cases z : a = u
    · rw [if_pos z, Int.mul_one, ← sm_pick (fun v => w u v) hb]
      refine sm_congr (fun v _ => ?_)
      unfold pk2
      by_cases z2 : b = v
      · rw [if_pos ⟨z, z2⟩, if_pos z2]
      · rw [if_neg (fun q => z2 q.2), if_neg z2]
    · rw [if_neg z, Int.mul_zero]
      exact sm_z' (fun v _ => by unfold pk2; rw [if_neg (fun q => z q.1), Int.mul_zero])
  rw [sm_congr (fun u _ => h1 u)]
  exact sm_pick (fun u => w u b) ha
section RMAT
variable {A B : Nat → Nat} {l h : Nat → Int}
def cN (A B : Nat → Nat) (l h : Nat → Int) (e u v : Nat) : Int := pk2 (A e) (B e) u v * (h e - l e) + pk2 22 (B e) u v * l e + pk2 (A e) 23 u v * l e
def cM (A B : Nat → Nat) (l h : Nat → Int) (u v : Nat) : Int := sm_ 61 (fun e => cN A B l h e u v)
theorem sm_swap3 (f : Nat → Nat → Nat → Int) (n k : Nat) : sm_ n (fun u => sm_ n (fun v => sm_ k (fun e => f u v e))) = sm_ k (fun e => sm_ n (fun u => sm_ n (fun v => f u v e))) := by
  have h1 : sm_ n (fun u => sm_ n (fun v => sm_ k (fun e => f u v e))) = sm_ n (fun u => sm_ k (fun e => sm_ n (fun v => f u v e))) := sm_congr (fun u _ => sm_swap (fun v e => f u v e) k n)
  rw [h1]
  exact sm_swap (fun u e => sm_ n (fun v => f u v e)) k n
theorem capw (hA : ∀ e, e < 61 → A e < 22) (hB : ∀ e, e < 61 → B e < 22) (w : Nat → Nat → Int) : sm_ 24 (fun u => sm_ 24 (fun v => w u v * cM A B l h u v)) = sm_ 61 (fun e => w (A e) (B e) * (h e - l e) + w 22 (B e) * l e + w (A e) 23 * l e) := by
  have h1 : sm_ 24 (fun u => sm_ 24 (fun v => w u v * cM A B l h u v)) = sm_ 24 (fun u => sm_ 24 (fun v => sm_ 61 (fun e => w u v * cN A B l h e u v))) :=
    sm_congr (fun u _ => sm_congr (fun v _ => by unfold cM; rw [sm_mul]))
  rw [h1, sm_swap3 (fun u v e => w u v * cN A B l h e u v)]
  refine sm_congr (fun e he => ?_)
  have h2 : sm_ 24 (fun u => sm_ 24 (fun v => w u v * cN A B l h e u v)) = sm_ 24 (fun u => sm_ 24 (fun v => (h e - l e) * (w u v * pk2 (A e) (B e) u v) + l e * (w u v * pk2 22 (B e) u v) + l e * (w u v * pk2 (A e) 23 u v))) :=
    sm_congr (fun u _ => sm_congr (fun v _ => by
      unfold cN
      rw [Int.mul_add, Int.mul_add, ← Int.mul_assoc, ← Int.mul_assoc, ← Int.mul_assoc, Int.mul_comm (w u v * pk2 (A e) (B e) u v), Int.mul_comm (w u v * pk2 22 (B e) u v), Int.mul_comm (w u v * pk2 (A e) 23 u v)]))
  have h3 : ∀ u, sm_ 24 (fun v => (h e - l e) * (w u v * pk2 (A e) (B e) u v) + l e * (w u v * pk2 22 (B e) u v) + l e * (w u v * pk2 (A e) 23 u v)) = (h e - l e) * sm_ 24 (fun v => w u v * pk2 (A e) (B e) u v) + l e * sm_ 24 (fun v => w u v * pk2 22 (B e) u v) + l e * sm_ 24 (fun v => w u v * pk2 (A e) 23 u v) := fun u => by
    rw [sm_add, sm_add, sm_mul, sm_mul, sm_mul]
  have a1 := hA e he
  have b1 := hB e he
  rw [h2, sm_congr (fun u _ => h3 u), sm_add, sm_add, sm_mul, sm_mul, sm_mul, pick2 w (by omega) (by omega), pick2 w (by omega) (by omega), pick2 w (by omega) (by omega), Int.mul_comm (h e - l e), Int.mul_comm (l e), Int.mul_comm (l e)]
theorem anti0 {f : Nat → Nat → Int} {n : Nat} (hf : ∀ u v, u < n → v < n → f u v = - f v u) : sm_ n (fun u => sm_ n (fun v => f u v)) = 0 := by
  have h1 := sm_swap f n n
  have h2 : sm_ n (fun j => sm_ n (fun i => f i j)) = sm_ n (fun j => sm_ n (fun i => (-1) * f j i)) := sm_congr (fun j hj => sm_congr (fun i hi => by rw [hf i j hi hj]; omega))
  have h3 : sm_ n (fun j => sm_ n (fun i => (-1) * f j i)) = (-1) * sm_ n (fun j => sm_ n (fun i => f j i)) := by
    rw [← sm_mul]
    exact sm_congr (fun j _ => by rw [sm_mul])
  have h4 : sm_ n (fun u => sm_ n (fun v => f u v)) = sm_ n (fun j => sm_ n (fun i => f i j)) := h1
  rw [h2, h3] at h4
  omega
/-- what holds of what is left, between the ways -/
def rI (C L : Nat → Nat → Int) (dn : Int) : Prop := (∀ u v, u < 24 → v < 24 → 0 ≤ L u v) ∧ (∀ u v, u < 24 → v < 24 → L u v + L v u = C u v + C v u) ∧ (∀ v, v < 22 → sm_ 24 (fun u => L v u) = sm_ 24 (fun u => C v u)) ∧ sm_ 24 (fun u => L 22 u) = sm_ 24 (fun u => C 22 u) - dn
theorem row22 (hA : ∀ e, e < 61 → A e < 22) (hB : ∀ e, e < 61 → B e < 22) : sm_ 24 (fun v => cM A B l h 22 v) = sm_ 61 l := by
  have h1 := capw (l := l) (h := h) hA hB (fun u _ => if u = 22 then 1 else 0)
  have h2 : sm_ 24 (fun u => sm_ 24 (fun v => (if u = 22 then 1 else 0) * cM A B l h u v)) = sm_ 24 (fun u => if u = 22 then sm_ 24 (fun v => cM A B l h u v) else 0) := sm_congr (fun u _ => by
    by_cases z : u = 22
    · rw [if_pos z, if_pos z]; exact sm_congr (fun v _ => by rw [Int.one_mul])
    · rw [if_neg z, if_neg z]; exact sm_z' (fun v _ => by rw [Int.zero_mul]))
  have h3 := sm_one (fun u => sm_ 24 (fun v => cM A B l h u v)) 22 24
  rw [if_pos (by omega)] at h3
  rw [← h3, ← h2, h1]
  refine sm_congr (fun e he => ?_)
  have := hA e he
  show (if A e = 22 then (1 : Int) else 0) * (h e - l e) + (if 22 = 22 then 1 else 0) * l e + (if A e = 22 then 1 else 0) * l e = l e
  rw [if_neg (by omega), if_pos rfl]; omega
theorem col23 (hA : ∀ e, e < 61 → A e < 22) (hB : ∀ e, e < 61 → B e < 22) : sm_ 24 (fun u => cM A B l h u 23) = sm_ 61 l := by
  have h1 := capw (l := l) (h := h) hA hB (fun _ v => if v = 23 then 1 else 0)
  have h2 : sm_ 24 (fun u => sm_ 24 (fun v => (if v = 23 then 1 else 0) * cM A B l h u v)) = sm_ 24 (fun u => cM A B l h u 23) := sm_congr (fun u _ => by
    have h3 := sm_one (fun v => cM A B l h u v) 23 24
    rw [if_pos (by omega)] at h3
    rw [← h3]
    refine sm_congr (fun v _ => ?_)
    by_cases z : v = 23
    · rw [if_pos z, if_pos z, Int.one_mul]
    · rw [if_neg z, if_neg z, Int.zero_mul])
  rw [← h2, h1]
  refine sm_congr (fun e he => ?_)
  have := hB e he
  show (if B e = 23 then (1 : Int) else 0) * (h e - l e) + (if B e = 23 then 1 else 0) * l e + (if 23 = 23 then 1 else 0) * l e = l e
  rw [if_neg (by omega), if_pos rfl]; omega
theorem cN_nn (hl : ∀ e, e < 61 → 0 ≤ l e ∧ l e ≤ h e) {e u v : Nat} (he : e < 61) : 0 ≤ cN A B l h e u v := by
  have := hl e he
  unfold cN pk2
  have a : ∀ p : Prop, [Decidable p] → ∀ x : Int, 0 ≤ x → 0 ≤ (if p then (1 : Int) else 0) * x := fun p _ x hx => by
    by_cases z : p
    · rw [if_pos z]; omega
    · rw [if_neg z]; omega
  have a1 := a (A e = u ∧ B e = v) (h e - l e) (by omega)
  have a2 := a (22 = u ∧ B e = v) (l e) this.1
  have a3 := a (A e = u ∧ 23 = v) (l e) this.1
  omega
theorem cM_nn (hl : ∀ e, e < 61 → 0 ≤ l e ∧ l e ≤ h e) (u v : Nat) : 0 ≤ cM A B l h u v := sm_nonneg (fun e he => cN_nn hl he)
theorem cM_23 (hA : ∀ e, e < 61 → A e < 22) (v : Nat) : cM A B l h 23 v = 0 := sm_z' (fun e he => by
  have := hA e he
  unfold cN pk2
  rw [if_neg (fun q => by omega), if_neg (fun q => by omega), if_neg (fun q => by omega)]; omega)
theorem cM_c22 (hB : ∀ e, e < 61 → B e < 22) (u : Nat) : cM A B l h u 22 = 0 := sm_z' (fun e he => by
  have := hB e he
  unfold cN pk2
  rw [if_neg (fun q => by omega), if_neg (fun q => by omega), if_neg (fun q => by omega)]; omega)
theorem rI_le (hA : ∀ e, e < 61 → A e < 22) (hB : ∀ e, e < 61 → B e < 22) {L : Nat → Nat → Int} {dn : Int} (I : rI (cM A B l h) L dn) : dn ≤ sm_ 61 l := by
  have h1 := I.2.2.2
  rw [row22 hA hB] at h1
  have h2 : 0 ≤ sm_ 24 (fun u => L 22 u) := sm_nonneg (fun u hu => I.1 22 u (by omega) hu)
  omega
/-- the cut: where there is a circulation, all goes -/
theorem rt_no (hA : ∀ e, e < 61 → A e < 22) (hB : ∀ e, e < 61 → B e < 22) {L : Nat → Nat → Int} {dn : Int} (I : rI (cM A B l h) L dn)
    {S : Nat → Bool} (s1 : S 22 = true) (s2 : S 23 = false) (s3 : ∀ u v, u < 24 → v < 24 → S u = true → 0 < L u v → S v = true)
    {g : Nat → Int} (hg : ∀ v, v < 22 → nt_d 61 A B g v = 0) (gb : ∀ e, e < 61 → l e ≤ g e ∧ g e ≤ h e) : dn = sm_ 61 l := by
  have h0 := rI_le hA hB I
  obtain ⟨i1, i2, i3, i4⟩ := I
  -- all that goes out of S
  have t1 : sm_ 24 (fun u => sm_ 24 (fun v => nt_in S u * (cM A B l h u v - L u v))) = dn := by
    have e1 : ∀ u, sm_ 24 (fun v => nt_in S u * (cM A B l h u v - L u v)) = nt_in S u * (sm_ 24 (fun v => cM A B l h u v) - sm_ 24 (fun v => L u v)) := fun u => by rw [sm_mul, sm_sub]
    rw [sm_congr (fun u _ => e1 u), sm_s, sm_s, sm_z' (fun u hu => by rw [i3 u hu, Int.sub_self, Int.mul_zero])]
    unfold nt_in
    rw [s1, s2, i4]
    simp
    omega
  have t2 : sm_ 24 (fun u => sm_ 24 (fun v => nt_in S u * nt_in S v * (cM A B l h u v - L u v))) = 0 := anti0 (fun u v hu hv => by
    have := i2 u v hu hv
    have e2 : cM A B l h u v - L u v = -(cM A B l h v u - L v u) := by omega
    rw [e2, Int.mul_comm (nt_in S u), Int.mul_neg])
  have t3 : sm_ 24 (fun u => sm_ 24 (fun v => nt_in S u * (cM A B l h u v - L u v))) - sm_ 24 (fun u => sm_ 24 (fun v => nt_in S u * nt_in S v * (cM A B l h u v - L u v))) = sm_ 24 (fun u => sm_ 24 (fun v => (nt_in S u * (1 - nt_in S v)) * cM A B l h u v)) := by
    rw [← sm_sub]
    refine sm_congr (fun u hu => ?_)
    rw [← sm_sub]
    refine sm_congr (fun v hv => ?_)
    unfold nt_in
    cases a : S u <;> cases b : S v <;> simp
    have c1 := i1 u v hu hv
    by_cases z : 0 < L u v
    · have := s3 u v hu hv a z
      rw [b] at this; cases this
    · omega
  rw [t1, t2, capw hA hB] at t3
  have t4 := nt_cut (n := 61) (V := 22) (fr := A) (to := B) g S hA hB
  rw [sm_z' (fun v hv => by rw [hg v hv, Int.mul_zero])] at t4
  have t5 : sm_ 61 l ≤ dn := by
    have t6 : sm_ 61 (fun e => l e - (nt_in S (B e) - nt_in S (A e)) * g e) ≤ sm_ 61 (fun e => (nt_in S (A e) * (1 - nt_in S (B e))) * (h e - l e) + (nt_in S 22 * (1 - nt_in S (B e))) * l e + (nt_in S (A e) * (1 - nt_in S 23)) * l e) := sm_le (fun e he => by
      have := gb e he
      unfold nt_in
      rw [s1, s2]
      cases S (A e) <;> cases S (B e) <;> simp <;> omega)
    rw [sm_sub, ← t4] at t6
    omega
  omega
/-- a sum is shared out among terms that have room -/
theorem sm_split {c : Nat → Int} : ∀ {n : Nat} {y : Int}, (∀ e, e < n → 0 ≤ c e) → 0 ≤ y → y ≤ sm_ n c → ∃ z : Nat → Int, (∀ e, e < n → 0 ≤ z e ∧ z e ≤ c e) ∧ sm_ n z = y
  | 0, y, _, h1, h2 => ⟨fun _ => 0, fun e he => absurd he (by omega), by rw [sm_0] at h2 ⊢; omega⟩
  | n + 1, y, h0, h1, h2 => by
    rw [sm_s] at h2
    have hn := h0 n (by omega)
    by_cases q : y ≤ sm_ n c
    · obtain ⟨z, z1, z2⟩ := sm_split (n := n) (fun e he => h0 e (by omega)) h1 q
      refine ⟨fun e => if e = n then 0 else z e, fun e he => ?_, ?_⟩
      · show 0 ≤ (if e = n then 0 else z e) ∧ (if e = n then 0 else z e) ≤ c e
        by_cases w : e = n
        · rw [if_pos w, w]; omega
        · rw [if_neg w]; exact z1 e (by omega)
      · rw [sm_s, if_pos rfl, sm_congr (g := z) (fun i hi => if_neg (by omega)), z2]; omega
    · have h3 := sm_nonneg (n := n) (fun e he => h0 e (by omega))
      obtain ⟨z, z1, z2⟩ := sm_split (n := n) (y := sm_ n c) (fun e he => h0 e (by omega)) h3 (Int.le_refl _)
      refine ⟨fun e => if e = n then y - sm_ n c else z e, fun e he => ?_, ?_⟩
      · show 0 ≤ (if e = n then y - sm_ n c else z e) ∧ (if e = n then y - sm_ n c else z e) ≤ c e
        by_cases w : e = n
        · rw [if_pos w, w]; omega
        · rw [if_neg w]; exact z1 e (by omega)
      · rw [sm_s, if_pos rfl, sm_congr (g := z) (fun i hi => if_neg (by omega)), z2]; omega
theorem rt_yes (hA : ∀ e, e < 61 → A e < 22) (hB : ∀ e, e < 61 → B e < 22) (hl : ∀ e, e < 61 → 0 ≤ l e ∧ l e ≤ h e) {L : Nat → Nat → Int} (I : rI (cM A B l h) L (sm_ 61 l)) :
    ∃ g : Nat → Int, (∀ v, v < 22 → nt_d 61 A B g v = 0) ∧ ∀ e, e < 61 → l e ≤ g e ∧ g e ≤ h e := by
  obtain ⟨i1, i2, i3, i4⟩ := I
  rw [row22 hA hB] at i4
  have i5 : sm_ 24 (fun u => L 22 u) ≤ 0 := by omega
  have L22 : ∀ v, v < 24 → L 22 v = 0 := sm_each (f := fun u => L 22 u) (fun v hv => i1 22 v (by omega) hv) i5
  have x0 : sm_ 24 (fun u => sm_ 24 (fun v => cM A B l h u v - L u v)) = 0 := anti0 (fun u v hu hv => by have := i2 u v hu hv; omega)
  have R23 : sm_ 24 (fun v => L 23 v) = sm_ 61 l := by
    have e1 : ∀ u, sm_ 24 (fun v => cM A B l h u v - L u v) = sm_ 24 (fun v => cM A B l h u v) - sm_ 24 (fun v => L u v) := fun u => by rw [sm_sub]
    rw [sm_congr (fun u _ => e1 u), sm_s, sm_s, sm_z' (fun u hu => by rw [i3 u hu, Int.sub_self]), row22 hA hB, i4, sm_z' (f := fun v => cM A B l h 23 v) (fun v _ => cM_23 hA v)] at x0
    omega
  have L23 : ∀ v, v < 24 → L v 23 = 0 := by
    have h1 : sm_ 24 (fun v => L v 23) ≤ 0 := by
      have h2 : sm_ 24 (fun v => L v 23) = sm_ 24 (fun v => cM A B l h v 23 - L 23 v) := sm_congr (fun v hv => by
        have := i2 v 23 hv (by omega)
        rw [cM_23 hA v] at this
        omega)
      rw [h2, sm_sub, col23 hA hB, R23]; omega
    exact sm_each (fun v hv => i1 v 23 hv (by omega)) h1
  -- between the vertices
  have hx : ∀ v, v < 22 → sm_ 22 (fun u => cM A B l h v u - L v u) = cM A B l h 22 v - cM A B l h v 23 := fun v hv => by
    have h1 := i3 v hv
    have h2 : sm_ 24 (fun u => cM A B l h v u - L v u) = 0 := by rw [sm_sub]; exact Int.sub_eq_zero.mpr h1.symm
    rw [sm_s, sm_s] at h2
    have h3 := i2 v 22 (by omega) (by omega)
    rw [L22 v (by omega), cM_c22 hB v] at h3
    rw [L23 v (by omega), cM_c22 hB v] at h2
    omega
  have c22 : ∀ v, cM A B l h 22 v = sm_ 61 (fun e => (if B e = v then 1 else 0) * l e) := fun v => sm_congr (fun e he => by
    have := hA e he
    unfold cN pk2
    rw [if_neg (fun q => by omega), if_neg (c := A e = 22 ∧ 23 = v) (fun q => by omega)]
    by_cases z : B e = v
    · rw [if_pos ⟨rfl, z⟩, if_pos z]; omega
    · rw [if_neg (fun q => z q.2), if_neg z]; omega)
  have c23 : ∀ v, v < 22 → cM A B l h v 23 = sm_ 61 (fun e => (if A e = v then 1 else 0) * l e) := fun v hv => sm_congr (fun e he => by
    have := hB e he
    unfold cN pk2
    rw [if_neg (fun q => by omega), if_neg (c := 22 = v ∧ B e = 23) (fun q => by omega)]
    by_cases z : A e = v
    · rw [if_pos ⟨z, rfl⟩, if_pos z]; omega
    · rw [if_neg (fun q => z q.1), if_neg z]; omega)
  -- shared out among the edges of each pair
  have hsplit : ∀ u v : Nat, ∃ z : Nat → Int, u < 22 → v < 22 → (∀ e, e < 61 → 0 ≤ z e ∧ z e ≤ pk2 (A e) (B e) u v * (h e - l e)) ∧ sm_ 61 z = (if 0 ≤ cM A B l h u v - L u v then cM A B l h u v - L u v else 0) := by
    intro u v
    by_cases q : u < 22 ∧ v < 22
    · have e1 : cM A B l h u v = sm_ 61 (fun e => pk2 (A e) (B e) u v * (h e - l e)) := sm_congr (fun e he => by
        unfold cN pk2
        rw [if_neg (c := 22 = u ∧ B e = v) (fun q => by omega), if_neg (c := A e = u ∧ 23 = v) (fun q => by omega)]; omega)
      have n1 := i1 u v (by omega) (by omega)
      have n2 := cM_nn (A := A) (B := B) hl u v
      obtain ⟨z, z1, z2⟩ := sm_split (c := fun e => pk2 (A e) (B e) u v * (h e - l e)) (n := 61) (y := if 0 ≤ cM A B l h u v - L u v then cM A B l h u v - L u v else 0) (fun e he => by
        have := hl e he
        show 0 ≤ pk2 (A e) (B e) u v * (h e - l e)
        unfold pk2
        by_cases w : A e = u ∧ B e = v
        · rw [if_pos w]; omega
        · rw [if_neg w]; omega) (by
        by_cases w : 0 ≤ cM A B l h u v - L u v
        · rw [if_pos w]; exact w
        · rw [if_neg w]; exact Int.le_refl _) (by
        rw [← e1]
        by_cases w : 0 ≤ cM A B l h u v - L u v
        · rw [if_pos w]; omega
        · rw [if_neg w]; exact n2)
      exact ⟨z, fun _ _ => ⟨z1, z2⟩⟩
    · exact ⟨fun _ => 0, fun a b => absurd ⟨a, b⟩ q⟩
  have hz := fun u v => Classical.choose_spec (hsplit u v)
  generalize hZ : (fun u v => Classical.choose (hsplit u v)) = Z at hz
  have hz : ∀ u v, u < 22 → v < 22 → (∀ e, e < 61 → 0 ≤ Z u v e ∧ Z u v e ≤ pk2 (A e) (B e) u v * (h e - l e)) ∧ sm_ 61 (Z u v) = (if 0 ≤ cM A B l h u v - L u v then cM A B l h u v - L u v else 0) := by
    intro u v
    rw [← hZ]
    exact Classical.choose_spec (hsplit u v)
  have Zpk : ∀ u v e, u < 22 → v < 22 → e < 61 → Z u v e = pk2 (A e) (B e) u v * Z (A e) (B e) e := by
    intro u v e hu hv he
    have h1 := (hz u v hu hv).1 e he
    unfold pk2 at h1 ⊢
    by_cases w : A e = u ∧ B e = v
    · rw [if_pos w, w.1, w.2]; omega
    · rw [if_neg w] at h1 ⊢; omega
  refine ⟨fun e => l e + Z (A e) (B e) e, fun v hv => ?_, fun e he => ?_⟩
  · have d1 : nt_d 61 A B (fun e => l e + Z (A e) (B e) e) v = (cM A B l h 22 v - cM A B l h v 23) + (sm_ 61 (fun e => (if B e = v then 1 else 0) * Z (A e) (B e) e) - sm_ 61 (fun e => (if A e = v then 1 else 0) * Z (A e) (B e) e)) := by
      rw [c22 v, c23 v hv, ← sm_sub, ← sm_sub, ← sm_add]
      unfold nt_d
      refine sm_congr (fun e he => ?_)
      unfold nt_c
      rw [Int.mul_add, Int.sub_mul, Int.sub_mul]
    have d2 : sm_ 61 (fun e => (if B e = v then 1 else 0) * Z (A e) (B e) e) = sm_ 22 (fun u => sm_ 61 (Z u v)) := by
      have := sm_swap (fun u e => Z u v e) 61 22
      show _ = sm_ 22 (fun i => sm_ 61 (fun j => Z i v j))
      rw [this]
      refine sm_congr (fun e he => ?_)
      have e2 : sm_ 22 (fun u => Z u v e) = sm_ 22 (fun u => ((if B e = v then 1 else 0) * Z (A e) (B e) e) * (if A e = u then 1 else 0)) := sm_congr (fun u hu => by
        rw [Zpk u v e hu hv he]
        unfold pk2
        by_cases w1 : A e = u <;> by_cases w2 : B e = v
        · rw [if_pos ⟨w1, w2⟩, if_pos w1, if_pos w2]; omega
        · rw [if_neg (fun q => w2 q.2), if_neg w2]; omega
        · rw [if_neg (fun q => w1 q.1), if_neg w1]; omega
        · rw [if_neg (fun q => w1 q.1), if_neg w1]; omega)
      rw [e2]
      exact (sm_pick (fun _ => (if B e = v then 1 else 0) * Z (A e) (B e) e) (hA e he)).symm
    have d3 : sm_ 61 (fun e => (if A e = v then 1 else 0) * Z (A e) (B e) e) = sm_ 22 (fun u => sm_ 61 (Z v u)) := by
      have := sm_swap (fun u e => Z v u e) 61 22
      show _ = sm_ 22 (fun i => sm_ 61 (fun j => Z v i j))
      rw [this]
      refine sm_congr (fun e he => ?_)
      have e2 : sm_ 22 (fun u => Z v u e) = sm_ 22 (fun u => ((if A e = v then 1 else 0) * Z (A e) (B e) e) * (if B e = u then 1 else 0)) := sm_congr (fun u hu => by
        rw [Zpk v u e hv hu he]
        unfold pk2
        by_cases w1 : A e = v <;> by_cases w2 : B e = u
        · rw [if_pos ⟨w1, w2⟩, if_pos w1, if_pos w2]; omega
        · rw [if_neg (fun q => w2 q.2), if_neg w2]; omega
        · rw [if_neg (fun q => w1 q.1), if_neg w1]; omega
        · rw [if_neg (fun q => w1 q.1), if_neg w1]; omega)
      rw [e2]
      exact (sm_pick (fun _ => (if A e = v then 1 else 0) * Z (A e) (B e) e) (hB e he)).symm
    rw [d1, d2, d3, ← hx v hv, ← sm_sub, ← sm_add]
    refine sm_z' (fun u hu => ?_)
    show cM A B l h v u - L v u + (sm_ 61 (Z u v) - sm_ 61 (Z v u)) = 0
    rw [(hz u v hu hv).2, (hz v u hv hu).2]
    have := i2 u v (by omega) (by omega)
    by_cases w : 0 ≤ cM A B l h u v - L u v
    · rw [if_pos w]
      by_cases w2 : 0 ≤ cM A B l h v u - L v u
      · rw [if_pos w2]; omega
      · rw [if_neg w2]; omega
    · rw [if_neg w]
      by_cases w2 : 0 ≤ cM A B l h v u - L v u
      · rw [if_pos w2]; omega
      · rw [if_neg w2]; omega
  · have h1 := (hz (A e) (B e) (hA e he) (hB e he)).1 e he
    unfold pk2 at h1
    rw [if_pos ⟨rfl, rfl⟩] at h1
    show l e ≤ l e + Z (A e) (B e) e ∧ l e + Z (A e) (B e) e ≤ h e
    omega
end RMAT
