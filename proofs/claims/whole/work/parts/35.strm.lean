/-! Streams, as both find them. -/
def fnd (p : Nat → Bool) : Nat → Nat → Nat
  | 0, i => i
  | d + 1, i => if p i = true then i else fnd p d (i + 1)
theorem fnd_spec (p : Nat → Bool) : ∀ d i : Nat, i ≤ fnd p d i ∧ fnd p d i ≤ i + d ∧ (∀ j, i ≤ j → j < fnd p d i → p j = false) ∧ (fnd p d i < i + d → p (fnd p d i) = true)
  | 0, i => ⟨Nat.le_refl _, Nat.le_refl _, fun j h1 h2 => absurd h2 (by show ¬ j < i; omega), fun h => absurd h (by show ¬ i < i + 0; omega)⟩
  | d + 1, i => by
    by_cases h : p i = true
    · have e : fnd p (d + 1) i = i := by show (if p i = true then i else fnd p d (i + 1)) = i; rw [if_pos h]
      rw [e]
      exact ⟨Nat.le_refl _, by omega, fun j h1 h2 => absurd h2 (by omega), fun _ => h⟩
    · have e : fnd p (d + 1) i = fnd p d (i + 1) := by show (if p i = true then i else fnd p d (i + 1)) = _; rw [if_neg h]
      have ih := fnd_spec p d (i + 1)
      rw [e]
      refine ⟨by omega, by omega, fun j h1 h2 => ?_, fun h2 => ih.2.2.2 (by omega)⟩
      by_cases z : j = i
      · rw [z]; simpa using h
      · exact ih.2.2.1 j (by omega) h2
theorem fnd_uq {p : Nat → Bool} {d i r : Nat} (h1 : i ≤ r) (h2 : r < i + d) (h3 : ∀ j, i ≤ j → j < r → p j = false) (h4 : p r = true) : fnd p d i = r := by
  have S := fnd_spec p d i
  rcases Nat.lt_trichotomy (fnd p d i) r with h | h | h
  · have a := h3 _ S.1 h
    rw [S.2.2.2 (by omega)] at a; cases a
  · exact h
  · have a := S.2.2.1 r h1 h
    rw [h4] at a; cases a
/-- the arc on which it goes on from v -/
def nx (D : gD) (l : Nat → Int) (v : Nat) : Nat := fnd (fun k => decide ((gdf D k).toInt = v ∧ 0 < l k)) (gdm D) 0
/-- the nodes of the walk from s -/
def nd (D : gD) (l : Nat → Int) (s : Nat) : Nat → Nat
  | 0 => s
  | i + 1 => (gdt D (nx D l (nd D l s i))).toInt.toNat
/-- the arcs of the walk -/
def na_ (D : gD) (l : Nat → Int) (s i : Nat) : Nat := nx D l (nd D l s i)
/-- a sink that has to take -/
def se (D : gD) (u : Nat → Int) (v : Nat) : Bool := decide (gdk D v = 2 ∧ 0 < u v)
/-- it was there before -/
def sb (D : gD) (l : Nat → Int) (s i : Nat) : Bool := decide (fnd (fun j => decide (nd D l s j = nd D l s i)) i 0 < i)
/-- where the walk ends -/
def wl (D : gD) (l u : Nat → Int) (s : Nat) : Nat := fnd (fun i => se D u (nd D l s i) || sb D l s i) 11 0
/-- what the arcs from b on have less -/
def tk (l : Nat → Int) (a : Nat → Nat) (x : Int) (b : Nat) : Nat → Nat → Int
  | 0 => l
  | d + 1 => fun k => if k = a (b + d) then tk l a x b d k - x else tk l a x b d k
/-- the least of what the arcs from b on have left -/
def mn (F : Int) (l : Nat → Int) (a : Nat → Nat) (b : Nat) : Nat → Int
  | 0 => F
  | d + 1 => if l (a (b + d)) < mn F l a b d then l (a (b + d)) else mn F l a b d
def i_mn (x y : Int) : Int := if x < y then x else y
/-- how much a stream has -/
def am (D : gD) (l u : Nat → Int) (s : Nat) : Int := i_mn (mn 100000 l (na_ D l s) 0 (wl D l u s)) (i_mn (u s) (u (nd D l s (wl D l u s))))
/-- behind a walk -/
def ws_l (D : gD) (l u : Nat → Int) (s : Nat) : Nat → Int :=
  if se D u (nd D l s (wl D l u s)) = true then tk l (na_ D l s) (am D l u s) 0 (wl D l u s)
  else tk l (na_ D l s) (mn 100000 l (na_ D l s) (fnd (fun j => decide (nd D l s j = nd D l s (wl D l u s))) (wl D l u s) 0) (wl D l u s - fnd (fun j => decide (nd D l s j = nd D l s (wl D l u s))) (wl D l u s) 0)) (fnd (fun j => decide (nd D l s j = nd D l s (wl D l u s))) (wl D l u s) 0) (wl D l u s - fnd (fun j => decide (nd D l s j = nd D l s (wl D l u s))) (wl D l u s) 0)
def ws_u (D : gD) (l u : Nat → Int) (s : Nat) : Nat → Int :=
  if se D u (nd D l s (wl D l u s)) = true then (fun v => if v = nd D l s (wl D l u s) then u v - am D l u s else if v = s then u v - am D l u s else u v) else u
/-- the least node that has to give -/
def lg (D : gD) (u : Nat → Int) : Nat := fnd (fun v => decide (gdk D v = 1 ∧ 0 < u v)) (gdn D) 0
/-- the streams: how much, how many arcs, which -/
def rn (D : gD) : Nat → (Nat → Int) → (Nat → Int) → List (Int × Nat × (Nat → Nat))
  | 0, _, _ => []
  | k + 1, l, u => if lg D u < gdn D then
      (if se D u (nd D l (lg D u) (wl D l u (lg D u))) = true then (am D l u (lg D u), wl D l u (lg D u), na_ D l (lg D u)) :: rn D k (ws_l D l u (lg D u)) (ws_u D l u (lg D u)) else rn D k (ws_l D l u (lg D u)) (ws_u D l u (lg D u)))
    else []
/-- what goes from v, what comes -/
def go_ (D : gD) (l : Nat → Int) (v : Nat) : Int := sm_ (gdm D) (fun k => if (gdf D k).toInt = v then l k else 0)
def co_ (D : gD) (l : Nat → Int) (v : Nat) : Int := sm_ (gdm D) (fun k => if (gdt D k).toInt = v then l k else 0)
def l0 (f : Nat → Int) (k : Nat) : Int := if k < 40 then f k else 0
def u0 (D : gD) (l : Nat → Int) (v : Nat) : Int := if gdk D v = 1 then go_ D l v - co_ D l v else if gdk D v = 2 then co_ D l v - go_ D l v else 0
