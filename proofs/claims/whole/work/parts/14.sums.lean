/-! Finite sums of whole numbers, circulations, the cut. Nothing of the machine. -/
def sm_ : Nat → (Nat → Int) → Int
  | 0, _ => 0
  | k + 1, f => sm_ k f + f k
theorem sm_0 (f : Nat → Int) : sm_ 0 f = 0 := rfl
theorem sm_s (n : Nat) (f : Nat → Int) : sm_ (n + 1) f = sm_ n f + f n := rfl
theorem sm_congr {f g : Nat → Int} : ∀ {n : Nat}, (∀ i, i < n → f i = g i) → sm_ n f = sm_ n g
  | 0, _ => rfl
  | n + 1, h => by rw [sm_s, sm_s, sm_congr (fun i hi => h i (by omega)), h n (by omega)]
theorem sm_add (f g : Nat → Int) : ∀ n : Nat, sm_ n (fun i => f i + g i) = sm_ n f + sm_ n g
  | 0 => rfl
  | n + 1 => by rw [sm_s, sm_s, sm_s, sm_add f g n]; omega
theorem sm_sub (f g : Nat → Int) : ∀ n : Nat, sm_ n (fun i => f i - g i) = sm_ n f - sm_ n g
  | 0 => rfl
  | n + 1 => by rw [sm_s, sm_s, sm_s, sm_sub f g n]; omega
theorem sm_mul (c : Int) (f : Nat → Int) : ∀ n : Nat, sm_ n (fun i => c * f i) = c * sm_ n f
  | 0 => by simp [sm_]
  | n + 1 => by rw [sm_s, sm_s, sm_mul c f n, Int.mul_add]
theorem sm_z : ∀ n : Nat, sm_ n (fun _ => 0) = 0
  | 0 => rfl
  | n + 1 => by rw [sm_s, sm_z n]; rfl
theorem sm_z' {f : Nat → Int} {n : Nat} (h : ∀ i, i < n → f i = 0) : sm_ n f = 0 := by
  rw [sm_congr h, sm_z]
theorem sm_swap (f : Nat → Nat → Int) (k : Nat) : ∀ n : Nat, sm_ n (fun i => sm_ k (fun j => f i j)) = sm_ k (fun j => sm_ n (fun i => f i j))
  | 0 => (sm_z k).symm
  | n + 1 => by
    rw [sm_s, sm_swap f k n, ← sm_add]
    rfl
theorem sm_one (f : Nat → Int) (k : Nat) : ∀ n : Nat, sm_ n (fun i => if i = k then f i else 0) = if k < n then f k else 0
  | 0 => by simp [sm_]
  | n + 1 => by
    rw [sm_s, sm_one f k n]
    by_cases h : n = k
    · subst h
      simp
    · by_cases h2 : k < n
      · rw [if_pos h2, if_neg h, if_pos (by omega)]; omega
      · rw [if_neg h2, if_neg h, if_neg (by omega)]; rfl
theorem sm_nonneg {f : Nat → Int} : ∀ {n : Nat}, (∀ i, i < n → 0 ≤ f i) → 0 ≤ sm_ n f
  | 0, _ => Int.le_refl 0
  | n + 1, h => by
    have h1 := sm_nonneg (n := n) (fun i hi => h i (by omega))
    have h2 := h n (by omega)
    rw [sm_s]; omega
theorem sm_le {f g : Nat → Int} : ∀ {n : Nat}, (∀ i, i < n → f i ≤ g i) → sm_ n f ≤ sm_ n g
  | 0, _ => Int.le_refl 0
  | n + 1, h => by
    have h1 := sm_le (n := n) (fun i hi => h i (by omega))
    have h2 := h n (by omega)
    rw [sm_s, sm_s]; omega
theorem sm_each {f : Nat → Int} : ∀ {n : Nat}, (∀ i, i < n → 0 ≤ f i) → sm_ n f ≤ 0 → ∀ i, i < n → f i = 0
  | 0, _, _, i, hi => by omega
  | n + 1, h, h0, i, hi => by
    have h1 := sm_nonneg (n := n) (fun i hi => h i (by omega))
    have h2 := h n (by omega)
    rw [sm_s] at h0
    by_cases hin : i = n
    · subst hin; omega
    · exact sm_each (n := n) (fun i hi => h i (by omega)) (by omega) i (by omega)
/-- all terms but one are at least 0, the sum is 0: that one is at most 0 -/
theorem sm_but {f : Nat → Int} {a : Nat} : ∀ {n : Nat}, a < n → (∀ i, i < n → i ≠ a → 0 ≤ f i) → f a ≤ sm_ n f
  | 0, h, _ => by omega
  | n + 1, h, hp => by
    rw [sm_s]
    by_cases hn : n = a
    · subst hn
      have := sm_nonneg (n := n) (f := f) (fun i hi => hp i (by omega) (by omega))
      omega
    · have h1 := sm_but (n := n) (f := f) (a := a) (by omega) (fun i hi => hp i (by omega))
      have h2 := hp n (by omega) hn
      omega
theorem sm_up {f : Nat → Int} {k : Nat} {x : Int} : ∀ {n : Nat}, k < n → sm_ n (fun i => if i = k then x else f i) = sm_ n f - f k + x
  | 0, h => by omega
  | n + 1, h => by
    rw [sm_s, sm_s]
    by_cases hn : n = k
    · subst hn
      rw [if_pos rfl, sm_congr (g := f) (fun i hi => if_neg (by omega))]
      omega
    · rw [if_neg hn, sm_up (n := n) (by omega)]
      omega
/-- what an edge brings to a vertex, less what it takes from there -/
def nt_c (fr to : Nat → Nat) (e v : Nat) : Int := (if to e = v then 1 else 0) - (if fr e = v then 1 else 0)
/-- what comes to v less what goes -/
def nt_d (n : Nat) (fr to : Nat → Nat) (g : Nat → Int) (v : Nat) : Int := sm_ n (fun e => nt_c fr to e v * g e)
def nt_in (S : Nat → Bool) (v : Nat) : Int := if S v = true then 1 else 0
theorem nt_pick (V : Nat) (S : Nat → Bool) {u : Nat} (hu : u < V) : sm_ V (fun v => nt_in S v * (if u = v then 1 else 0)) = nt_in S u := by
  have h := sm_one (nt_in S) u V
  rw [if_pos hu] at h
  rw [← h]
  refine sm_congr (fun i _ => ?_)
  by_cases hi : i = u
  · subst hi; simp
  · rw [if_neg hi, if_neg (fun z => hi z.symm)]; simp
/-- the sum of what comes less what goes over a set is what comes into the set less what goes out -/
theorem nt_cut {n V : Nat} {fr to : Nat → Nat} (d : Nat → Int) (S : Nat → Bool) (hf : ∀ e, e < n → fr e < V) (ht : ∀ e, e < n → to e < V) :
    sm_ V (fun v => nt_in S v * nt_d n fr to d v) = sm_ n (fun e => (nt_in S (to e) - nt_in S (fr e)) * d e) := by
  have h1 : sm_ V (fun v => nt_in S v * nt_d n fr to d v) = sm_ V (fun v => sm_ n (fun e => nt_in S v * (nt_c fr to e v * d e))) :=
    sm_congr (fun v _ => by unfold nt_d; rw [sm_mul])
  rw [h1, sm_swap]
  refine sm_congr (fun e he => ?_)
  have h2 : sm_ V (fun v => nt_in S v * (nt_c fr to e v * d e)) = sm_ V (fun v => d e * (nt_in S v * (if to e = v then 1 else 0) - nt_in S v * (if fr e = v then 1 else 0))) :=
    sm_congr (fun v _ => by unfold nt_c; rw [← Int.mul_sub, Int.mul_comm (d e), Int.mul_assoc])
  rw [h2, sm_mul, sm_sub, nt_pick V S (ht e he), nt_pick V S (hf e he), Int.mul_comm]
theorem nt_d_sub (n : Nat) (fr to : Nat → Nat) (g h : Nat → Int) (v : Nat) : nt_d n fr to (fun e => g e - h e) v = nt_d n fr to g v - nt_d n fr to h v := by
  unfold nt_d
  rw [← sm_sub]
  exact sm_congr (fun e _ => by rw [Int.mul_sub])
/-- THE CUT: two circulations differ by nothing over any set -/
theorem nt_same {n V : Nat} {fr to : Nat → Nat} {g h : Nat → Int} (S : Nat → Bool) (hf : ∀ e, e < n → fr e < V) (ht : ∀ e, e < n → to e < V)
    (hg : ∀ v, v < V → nt_d n fr to g v = 0) (hh : ∀ v, v < V → nt_d n fr to h v = 0) :
    sm_ n (fun e => (nt_in S (to e) - nt_in S (fr e)) * (h e - g e)) = 0 := by
  rw [← nt_cut (fun e => h e - g e) S hf ht]
  exact sm_z' (fun v hv => by rw [nt_d_sub, hg v hv, hh v hv]; simp)
/-- no edge but a leads out of S with room left, none into S that can be lowered: another circulation has no more on a, which leads into S -/
theorem nt_most {n V : Nat} {fr to : Nat → Nat} {g h : Nat → Int} (S : Nat → Bool) (hf : ∀ e, e < n → fr e < V) (ht : ∀ e, e < n → to e < V)
    (hg : ∀ v, v < V → nt_d n fr to g v = 0) (hh : ∀ v, v < V → nt_d n fr to h v = 0) {a : Nat} (ha : a < n) (haf : S (fr a) = false) (hat : S (to a) = true)
    (hout : ∀ e, e < n → e ≠ a → S (fr e) = true → S (to e) = false → h e ≤ g e) (hin : ∀ e, e < n → e ≠ a → S (fr e) = false → S (to e) = true → g e ≤ h e) : h a ≤ g a := by
  have h0 := nt_same S hf ht hg hh
  have h1 := sm_but (f := fun e => (nt_in S (to e) - nt_in S (fr e)) * (h e - g e)) ha (fun e he hne => ?_)
  · rw [h0] at h1
    simp only [nt_in, haf, hat] at h1
    simp at h1
    omega
  · have o := hout e he hne
    have i := hin e he hne
    simp only [nt_in]
    cases hs : S (fr e) <;> cases hs2 : S (to e)
    · simp
    · have := i hs hs2; simp; omega
    · have := o hs hs2; simp; omega
    · simp
/-- the same with a leading out of S: another circulation has no less on a -/
theorem nt_least {n V : Nat} {fr to : Nat → Nat} {g h : Nat → Int} (S : Nat → Bool) (hf : ∀ e, e < n → fr e < V) (ht : ∀ e, e < n → to e < V)
    (hg : ∀ v, v < V → nt_d n fr to g v = 0) (hh : ∀ v, v < V → nt_d n fr to h v = 0) {a : Nat} (ha : a < n) (haf : S (fr a) = true) (hat : S (to a) = false)
    (hout : ∀ e, e < n → e ≠ a → S (fr e) = true → S (to e) = false → h e ≤ g e) (hin : ∀ e, e < n → e ≠ a → S (fr e) = false → S (to e) = true → g e ≤ h e) : g a ≤ h a := by
  have h0 := nt_same S hf ht hg hh
  have h1 := sm_but (f := fun e => (nt_in S (to e) - nt_in S (fr e)) * (h e - g e)) ha (fun e he hne => ?_)
  · rw [h0] at h1
    simp only [nt_in, haf, hat] at h1
    simp at h1
    omega
  · have o := hout e he hne
    have i := hin e he hne
    simp only [nt_in]
    cases hs : S (fr e) <;> cases hs2 : S (to e)
    · simp
    · have := i hs hs2; simp; omega
    · have := o hs hs2; simp; omega
    · simp
