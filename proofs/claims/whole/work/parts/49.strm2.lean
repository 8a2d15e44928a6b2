/-! Streams: what holds all along, and that it ends. -/
/-- what is left and what is due: no node has or lacks anything -/
def vs (D : gD) (l u : Nat → Int) : Prop := (∀ k, k < gdm D → 0 ≤ l k ∧ l k ≤ 1001 ∧ (gdl D k = false → l k = 0)) ∧ (∀ v, v < gdn D → 0 ≤ u v ∧ u v ≤ 100000) ∧
  ∀ v, v < gdn D → go_ D l v - co_ D l v = if gdk D v = 1 then u v else if gdk D v = 2 then - u v else 0
theorem sm_pos {f : Nat → Int} : ∀ {n : Nat}, 0 < sm_ n f → ∃ k, k < n ∧ 0 < f k
  | 0, h => absurd h (by rw [sm_0]; omega)
  | n + 1, h => by
    rw [sm_s] at h
    by_cases z : 0 < f n
    · exact ⟨n, by omega, z⟩
    · obtain ⟨k, a, b⟩ := sm_pos (f := f) (n := n) (by omega)
      exact ⟨k, by omega, b⟩
theorem sm_ge {f : Nat → Int} {n k : Nat} (hk : k < n) (h : ∀ i, i < n → 0 ≤ f i) : f k ≤ sm_ n f := sm_but hk (fun i hi _ => h i hi)
theorem co_nn {D : gD} {l u : Nat → Int} (V : vs D l u) (v : Nat) : 0 ≤ co_ D l v := sm_nonneg (fun k hk => by
  show 0 ≤ if (gdt D k).toInt = v then l k else 0
  by_cases z : (gdt D k).toInt = v
  · rw [if_pos z]; exact (V.1 k hk).1
  · rw [if_neg z]; exact Int.le_refl 0)
/-- where something goes from v there is an arc -/
theorem nx_ok {D : gD} {l u : Nat → Int} (O : gok D) (V : vs D l u) {v : Nat} (h : 0 < go_ D l v) : nx D l v < gdm D ∧ (gdf D (nx D l v)).toInt = v ∧ 0 < l (nx D l v) ∧ gdl D (nx D l v) = true ∧ 0 ≤ (gdt D (nx D l v)).toInt ∧ (gdt D (nx D l v)).toInt < gdn D ∧ ∀ j, j < nx D l v → ¬ ((gdf D j).toInt = v ∧ 0 < l j) := by
  have S := fnd_spec (fun k => decide ((gdf D k).toInt = v ∧ 0 < l k)) (gdm D) 0
  have lt : nx D l v < gdm D := by
    by_cases z : nx D l v < gdm D
    · exact z
    · obtain ⟨k, a, b⟩ := sm_pos h
      have hk : (gdf D k).toInt = v ∧ 0 < l k := by
        have b : 0 < if (gdf D k).toInt = v then l k else 0 := b
        by_cases w : (gdf D k).toInt = v
        · rw [if_pos w] at b; exact ⟨w, b⟩
        · rw [if_neg w] at b; omega
      have := S.2.2.1 k (by omega) (by show k < nx D l v; omega)
      exact absurd hk (of_decide_eq_false this)
  have p := of_decide_eq_true (S.2.2.2 (by show nx D l v < 0 + gdm D; omega))
  have p : (gdf D (nx D l v)).toInt = v ∧ 0 < l (nx D l v) := p
  have al : gdl D (nx D l v) = true := by
    cases w : gdl D (nx D l v) with
    | true => rfl
    | false => have := (V.1 _ lt).2.2 w; omega
  have g := O.2.2.2 _ lt al
  exact ⟨lt, p.1, p.2, al, g.2.2.1, g.2.2.2.1, fun j hj => of_decide_eq_false (S.2.2.1 j (by omega) hj)⟩
/-- a source that has to give -/
def sr (D : gD) (u : Nat → Int) (s : Nat) : Prop := s < gdn D ∧ gdk D s = 1 ∧ 0 < u s
theorem se_iff {D : gD} {u : Nat → Int} {v : Nat} : se D u v = true ↔ gdk D v = 2 ∧ 0 < u v := decide_eq_true_iff
theorem sb_iff {D : gD} {l : Nat → Int} {s i : Nat} : sb D l s i = true ↔ ∃ j, j < i ∧ nd D l s j = nd D l s i := by
  have S := fnd_spec (fun j => decide (nd D l s j = nd D l s i)) i 0
  unfold sb
  rw [decide_eq_true_iff]
  constructor
  · intro h
    exact ⟨_, h, of_decide_eq_true (S.2.2.2 (by omega))⟩
  · rintro ⟨j, a, b⟩
    by_cases z : fnd (fun j => decide (nd D l s j = nd D l s i)) i 0 < i
    · exact z
    · have := S.2.2.1 j (by omega) (by omega)
      exact absurd b (of_decide_eq_false this)
/-- the walk, up to where it ends -/
theorem walk_ok {D : gD} {l u : Nat → Int} (O : gok D) (V : vs D l u) {s : Nat} (R : sr D u s) : ∀ i, (∀ j, j < i → se D u (nd D l s j) = false) → nd D l s i < gdn D ∧ (se D u (nd D l s i) = false → 0 < go_ D l (nd D l s i)) ∧
    ∀ j, j < i → na_ D l s j < gdm D ∧ (gdf D (na_ D l s j)).toInt = nd D l s j ∧ 0 < l (na_ D l s j) ∧ gdl D (na_ D l s j) = true ∧ (gdt D (na_ D l s j)).toInt = nd D l s (j + 1) ∧ ∀ t, t < na_ D l s j → ¬ ((gdf D t).toInt = nd D l s j ∧ 0 < l t) := by
  intro i
  induction i with
  | zero =>
    intro _
    refine ⟨R.1, fun _ => ?_, fun j hj => absurd hj (by omega)⟩
    have c := V.2.2 s R.1
    rw [if_pos R.2.1] at c
    have h1 := co_nn V s
    have h2 := R.2.2
    show 0 < go_ D l s
    omega
  | succ i ih =>
    intro h
    obtain ⟨i1, i2, i3⟩ := ih (fun j hj => h j (by omega))
    obtain ⟨k1, k2, k3, k4, k5, k6, k7⟩ := nx_ok O V (i2 (h i (by omega)))
    have e : (nd D l s (i + 1) : Int) = (gdt D (nx D l (nd D l s i))).toInt := by
      show (((gdt D (nx D l (nd D l s i))).toInt.toNat : Nat) : Int) = _
      omega
    have lt : nd D l s (i + 1) < gdn D := by omega
    refine ⟨lt, fun hs => ?_, fun j hj => ?_⟩
    · have c := V.2.2 _ lt
      have hc : l (nx D l (nd D l s i)) ≤ co_ D l (nd D l s (i + 1)) := by
        have := sm_ge (f := fun k => if (gdt D k).toInt = (nd D l s (i + 1) : Nat) then l k else 0) k1 (fun t ht => by
          show 0 ≤ if (gdt D t).toInt = (nd D l s (i + 1) : Nat) then l t else 0
          by_cases z : (gdt D t).toInt = (nd D l s (i + 1) : Nat)
          · rw [if_pos z]; exact (V.1 t ht).1
          · rw [if_neg z]; exact Int.le_refl 0)
        have e2 : (if (gdt D (nx D l (nd D l s i))).toInt = (nd D l s (i + 1) : Nat) then l (nx D l (nd D l s i)) else 0) = l (nx D l (nd D l s i)) := if_pos e.symm
        rw [← e2]; exact this
      have uu := V.2.1 _ lt
      by_cases z1 : gdk D (nd D l s (i + 1)) = 1
      · rw [if_pos z1] at c; omega
      · rw [if_neg z1] at c
        by_cases z2 : gdk D (nd D l s (i + 1)) = 2
        · rw [if_pos z2] at c
          have : ¬ 0 < u (nd D l s (i + 1)) := fun q => by
            rw [se_iff.mpr ⟨z2, q⟩] at hs; cases hs
          omega
        · rw [if_neg z2] at c; omega
    · by_cases z : j = i
      · rw [z]; exact ⟨k1, k2, k3, k4, e.symm, k7⟩
      · exact i3 j (by omega)
/-- where the walk ends -/
theorem wl_ok {D : gD} {l u : Nat → Int} (O : gok D) (V : vs D l u) {s : Nat} (R : sr D u s) : 1 ≤ wl D l u s ∧ wl D l u s ≤ 10 ∧ (∀ j, j < wl D l u s → se D u (nd D l s j) = false ∧ sb D l s j = false) ∧ (se D u (nd D l s (wl D l u s)) = true ∨ sb D l s (wl D l u s) = true) := by
  have S := fnd_spec (fun i => se D u (nd D l s i) || sb D l s i) 11 0
  have hf : ∀ j, j < wl D l u s → se D u (nd D l s j) = false ∧ sb D l s j = false := fun j hj => by
    have := S.2.2.1 j (by omega) hj
    exact Bool.or_eq_false_iff.mp this
  have ten : wl D l u s ≤ 10 := by
    by_cases z : wl D l u s ≤ 10
    · exact z
    · have h11 : ∀ j, j < 11 → se D u (nd D l s j) = false ∧ sb D l s j = false := fun j hj => hf j (by omega)
      have := php 10 11 (nd D l s) (fun i hi => Nat.lt_of_lt_of_le (walk_ok O V R i (fun j hj => (h11 j (by omega)).1)).1 O.1) (fun i j hij hj q => by
        have := (h11 j hj).2
        rw [sb_iff.mpr ⟨i, hij, q⟩] at this; cases this)
      omega
  have last := S.2.2.2 (by show wl D l u s < 0 + 11; omega)
  have last := Bool.or_eq_true_iff.mp last
  refine ⟨?_, ten, hf, last⟩
  by_cases z : 1 ≤ wl D l u s
  · exact z
  · have e : wl D l u s = 0 := by omega
    have last : se D u (nd D l s (wl D l u s)) = true ∨ sb D l s (wl D l u s) = true := last
    rw [e] at last
    rcases last with h | h
    · have := (se_iff.mp h).1
      have r : gdk D s = 1 := R.2.1
      have : gdk D s = 2 := this
      rw [r] at this; exact absurd this (by decide)
    · obtain ⟨j, a, -⟩ := sb_iff.mp h
      omega
theorem nd_inj {D : gD} {l u : Nat → Int} {s L : Nat} (hf : ∀ j, j < L → se D u (nd D l s j) = false ∧ sb D l s j = false) {i j : Nat} (hi : i < L) (hj : j < L) (h : nd D l s i = nd D l s j) : i = j := by
  rcases Nat.lt_trichotomy i j with z | z | z
  · have := (hf j hj).2
    rw [sb_iff.mpr ⟨i, z, h⟩] at this; cases this
  · exact z
  · have := (hf i hi).2
    rw [sb_iff.mpr ⟨j, z, h.symm⟩] at this; cases this
/-- the arcs of the walk are apart -/
theorem na_inj {D : gD} {l u : Nat → Int} (O : gok D) (V : vs D l u) {s : Nat} (R : sr D u s) {L : Nat} (hf : ∀ j, j < L → se D u (nd D l s j) = false ∧ sb D l s j = false) {i j : Nat} (hi : i < L) (hj : j < L) (h : na_ D l s i = na_ D l s j) : i = j := by
  have w := (walk_ok O V R L (fun j hj => (hf j hj).1)).2.2
  have a := (w i hi).2.1
  have b := (w j hj).2.1
  rw [h, b] at a
  exact (nd_inj hf hj hi (by omega)).symm
theorem tk_out {l : Nat → Int} {a : Nat → Nat} {x : Int} {b k : Nat} : ∀ d, (∀ i, i < d → a (b + i) ≠ k) → tk l a x b d k = l k
  | 0, _ => rfl
  | d + 1, h => by
    show (if k = a (b + d) then tk l a x b d k - x else tk l a x b d k) = l k
    rw [if_neg (fun q => h d (by omega) q.symm)]
    exact tk_out d (fun i hi => h i (by omega))
theorem tk_in {l : Nat → Int} {a : Nat → Nat} {x : Int} {b : Nat} : ∀ d, (∀ i j, i < d → j < d → a (b + i) = a (b + j) → i = j) → ∀ i, i < d → tk l a x b d (a (b + i)) = l (a (b + i)) - x
  | 0, _, i, hi => by omega
  | d + 1, h, i, hi => by
    show (if a (b + i) = a (b + d) then tk l a x b d (a (b + i)) - x else tk l a x b d (a (b + i))) = _
    by_cases z : i = d
    · subst z
      rw [if_pos rfl, tk_out i (fun j hj q => by have := h j i (by omega) (by omega) q; omega)]
    · rw [if_neg (fun q => z (h i d (by omega) (by omega) q))]
      exact tk_in d (fun i j hi hj => h i j (by omega) (by omega)) i (by omega)
theorem mn_le {F : Int} {l : Nat → Int} {a : Nat → Nat} {b : Nat} : ∀ d, mn F l a b d ≤ F ∧ ∀ i, i < d → mn F l a b d ≤ l (a (b + i))
  | 0 => ⟨Int.le_refl F, fun i hi => by omega⟩
  | d + 1 => by
    have ih := mn_le (F := F) (l := l) (a := a) (b := b) d
    show (if l (a (b + d)) < mn F l a b d then l (a (b + d)) else mn F l a b d) ≤ F ∧ ∀ i, i < d + 1 → (if l (a (b + d)) < mn F l a b d then l (a (b + d)) else mn F l a b d) ≤ l (a (b + i))
    by_cases z : l (a (b + d)) < mn F l a b d
    · rw [if_pos z]
      refine ⟨by omega, fun i hi => ?_⟩
      by_cases z2 : i = d
      · rw [z2]; exact Int.le_refl _
      · have := ih.2 i (by omega); omega
    · rw [if_neg z]
      refine ⟨ih.1, fun i hi => ?_⟩
      by_cases z2 : i = d
      · rw [z2]; omega
      · exact ih.2 i (by omega)
theorem mn_at {F : Int} {l : Nat → Int} {a : Nat → Nat} {b : Nat} : ∀ d, mn F l a b d = F ∨ ∃ i, i < d ∧ mn F l a b d = l (a (b + i))
  | 0 => Or.inl rfl
  | d + 1 => by
    show (if l (a (b + d)) < mn F l a b d then l (a (b + d)) else mn F l a b d) = F ∨ ∃ i, i < d + 1 ∧ (if l (a (b + d)) < mn F l a b d then l (a (b + d)) else mn F l a b d) = l (a (b + i))
    by_cases z : l (a (b + d)) < mn F l a b d
    · rw [if_pos z]; exact Or.inr ⟨d, by omega, rfl⟩
    · rw [if_neg z]
      rcases mn_at (F := F) (l := l) (a := a) (b := b) d with h | ⟨i, h1, h2⟩
      · exact Or.inl h
      · exact Or.inr ⟨i, by omega, h2⟩
/-- with arcs that have less than F: one of them -/
theorem mn_one {F : Int} {l : Nat → Int} {a : Nat → Nat} {b d : Nat} (hd : 1 ≤ d) (h : ∀ i, i < d → l (a (b + i)) < F) : ∃ i, i < d ∧ mn F l a b d = l (a (b + i)) := by
  rcases mn_at (F := F) (l := l) (a := a) (b := b) d with z | z
  · have h1 := (mn_le (F := F) (l := l) (a := a) (b := b) d).2 0 (by omega)
    have h2 := h 0 (by omega)
    omega
  · exact z
theorem mn_F {F G : Int} {l : Nat → Int} {a : Nat → Nat} {b d : Nat} (hd : 1 ≤ d) (h : ∀ i, i < d → l (a (b + i)) < F ∧ l (a (b + i)) < G) : mn F l a b d = mn G l a b d := by
  obtain ⟨i, a1, a2⟩ := mn_one (F := F) (l := l) (a := a) (b := b) hd (fun i hi => (h i hi).1)
  obtain ⟨j, b1, b2⟩ := mn_one (F := G) (l := l) (a := a) (b := b) hd (fun i hi => (h i hi).2)
  have c1 := (mn_le (F := F) (l := l) (a := a) (b := b) d).2 j b1
  have c2 := (mn_le (F := G) (l := l) (a := a) (b := b) d).2 i a1
  omega
/-- what arcs from b on have less: at the ends alone it shows -/
theorem tk_go {D : gD} {l : Nat → Int} {a nn : Nat → Nat} {x : Int} {b v : Nat} : ∀ d, (∀ i, i < d → a (b + i) < gdm D ∧ (gdf D (a (b + i))).toInt = nn (b + i) ∧ (gdt D (a (b + i))).toInt = nn (b + i + 1)) →
    go_ D (tk l a x b d) v - co_ D (tk l a x b d) v = go_ D l v - co_ D l v - (if v = nn b then x else 0) + (if v = nn (b + d) then x else 0)
  | 0, _ => by
    show go_ D l v - co_ D l v = go_ D l v - co_ D l v - (if v = nn b then x else 0) + (if v = nn b then x else 0)
    omega
  | d + 1, h => by
    have ih := tk_go (D := D) (l := l) (a := a) (nn := nn) (x := x) (b := b) (v := v) d (fun i hi => h i (by omega))
    obtain ⟨h1, h2, h3⟩ := h d (by omega)
    have g1 : go_ D (tk l a x b (d + 1)) v = go_ D (tk l a x b d) v - (if v = nn (b + d) then x else 0) := by
      have := sm_up (f := fun k => if (gdf D k).toInt = v then tk l a x b d k else 0) (k := a (b + d)) (x := if (gdf D (a (b + d))).toInt = v then tk l a x b d (a (b + d)) - x else 0) (n := gdm D) h1
      unfold go_
      rw [sm_congr (g := fun i => if i = a (b + d) then (if (gdf D (a (b + d))).toInt = v then tk l a x b d (a (b + d)) - x else 0) else if (gdf D i).toInt = v then tk l a x b d i else 0) (fun i _ => ?_), this]
      · by_cases z : v = nn (b + d)
        · rw [if_pos z, if_pos (by rw [h2, z]), if_pos (by rw [h2, z])]; omega
        · rw [if_neg z, if_neg (by rw [h2]; omega), if_neg (by rw [h2]; omega)]; omega
      · show (if (gdf D i).toInt = v then (if i = a (b + d) then tk l a x b d i - x else tk l a x b d i) else 0) = _
        by_cases z : i = a (b + d)
        · rw [if_pos z, if_pos z, z]
        · rw [if_neg z, if_neg z]
    have g2 : co_ D (tk l a x b (d + 1)) v = co_ D (tk l a x b d) v - (if v = nn (b + d + 1) then x else 0) := by
      have := sm_up (f := fun k => if (gdt D k).toInt = v then tk l a x b d k else 0) (k := a (b + d)) (x := if (gdt D (a (b + d))).toInt = v then tk l a x b d (a (b + d)) - x else 0) (n := gdm D) h1
      unfold co_
      rw [sm_congr (g := fun i => if i = a (b + d) then (if (gdt D (a (b + d))).toInt = v then tk l a x b d (a (b + d)) - x else 0) else if (gdt D i).toInt = v then tk l a x b d i else 0) (fun i _ => ?_), this]
      · by_cases z : v = nn (b + d + 1)
        · rw [if_pos z, if_pos (by rw [h3, z]), if_pos (by rw [h3, z])]; omega
        · rw [if_neg z, if_neg (by rw [h3]; omega), if_neg (by rw [h3]; omega)]; omega
      · show (if (gdt D i).toInt = v then (if i = a (b + d) then tk l a x b d i - x else tk l a x b d i) else 0) = _
        by_cases z : i = a (b + d)
        · rw [if_pos z, if_pos z, z]
        · rw [if_neg z, if_neg z]
    rw [g1, g2, show b + (d + 1) = b + d + 1 by omega]
    omega
theorem up_mb {b c : Nat → Bool} : ∀ m, (∀ j, j < m → c j = true → b j = true) → up c m ≤ up b m
  | 0, _ => Nat.le_refl 0
  | m + 1, h => by
    have := up_mb (b := b) (c := c) m (fun j hj => h j (by omega))
    show up c m + (if c m = true then 1 else 0) ≤ up b m + (if b m = true then 1 else 0)
    by_cases z : c m = true
    · rw [if_pos z, if_pos (h m (by omega) z)]; omega
    · rw [if_neg z]; omega
theorem up_ms {b c : Nat → Bool} {a : Nat} : ∀ m, a < m → (∀ j, j < m → c j = true → b j = true) → b a = true → c a = false → up c m < up b m
  | 0, h, _, _, _ => by omega
  | m + 1, ha, h, h1, h2 => by
    show up c m + (if c m = true then 1 else 0) < up b m + (if b m = true then 1 else 0)
    by_cases z : a = m
    · subst z
      have := up_mb (b := b) (c := c) a (fun j hj => h j (by omega))
      rw [h2, if_neg (by decide), if_pos h1]; omega
    · have := up_ms (b := b) (c := c) (a := a) m (by omega) (fun j hj => h j (by omega)) h1 h2
      by_cases z : c m = true
      · rw [if_pos z, if_pos (h m (by omega) z)]; omega
      · rw [if_neg z]; omega
/-- arcs with something left, nodes with something due -/
def ms (D : gD) (l u : Nat → Int) : Nat := up (fun k => decide (0 < l k)) (gdm D) + up (fun v => decide (0 < u v)) (gdn D)
