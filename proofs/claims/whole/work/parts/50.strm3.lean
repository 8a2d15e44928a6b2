/-! One walk: what holds goes on to hold, and there is less to do. -/
theorem tk_bd {l : Nat → Int} {a : Nat → Nat} {x : Int} {b d : Nat} (hx : 0 < x) (inj : ∀ i j, i < d → j < d → a (b + i) = a (b + j) → i = j) (hle : ∀ i, i < d → x ≤ l (a (b + i))) (k : Nat) : tk l a x b d k ≤ l k ∧ (0 ≤ l k → 0 ≤ tk l a x b d k) := by
  by_cases z : ∃ i, i < d ∧ a (b + i) = k
  · obtain ⟨i, i1, i2⟩ := z
    have := tk_in (l := l) (x := x) d inj i i1
    rw [i2] at this
    have h := hle i i1
    rw [i2] at h
    omega
  · rw [tk_out d (fun i hi q => z ⟨i, hi, q⟩)]
    exact ⟨Int.le_refl _, fun h => h⟩
theorem i_mn_le (x y : Int) : i_mn x y ≤ x ∧ i_mn x y ≤ y ∧ (i_mn x y = x ∨ i_mn x y = y) := by
  unfold i_mn
  by_cases z : x < y
  · rw [if_pos z]; omega
  · rw [if_neg z]; omega
theorem step_ok {D : gD} {l u : Nat → Int} (O : gok D) (V : vs D l u) {s : Nat} (R : sr D u s) : vs D (ws_l D l u s) (ws_u D l u s) ∧ ms D (ws_l D l u s) (ws_u D l u s) < ms D l u ∧ (se D u (nd D l s (wl D l u s)) = true → 0 < am D l u s) := by
  obtain ⟨L1, L2, L3, L4⟩ := wl_ok O V R
  have hse : ∀ j, j < wl D l u s → se D u (nd D l s j) = false := fun j hj => (L3 j hj).1
  obtain ⟨w1, w2, w3⟩ := walk_ok O V R (wl D l u s) hse
  generalize hL : wl D l u s = L at *
  have inj : ∀ i j, i < L → j < L → na_ D l s i = na_ D l s j → i = j := fun i j hi hj => na_inj O V R L3 hi hj
  by_cases hS : se D u (nd D l s L) = true
  · obtain ⟨t1, t2⟩ := se_iff.mp hS
    have hst : nd D l s L ≠ s := fun q => by rw [q, R.2.1] at t1; exact absurd t1 (by decide)
    have eam : am D l u s = i_mn (mn 100000 l (na_ D l s) 0 L) (i_mn (u s) (u (nd D l s L))) := by unfold am; rw [hL]
    have el : ws_l D l u s = tk l (na_ D l s) (am D l u s) 0 L := by unfold ws_l; rw [hL, if_pos hS]
    have eu : ws_u D l u s = fun v => if v = nd D l s L then u v - am D l u s else if v = s then u v - am D l u s else u v := by unfold ws_u; rw [hL, if_pos hS]
    have one := mn_one (F := 100000) (l := l) (a := na_ D l s) (b := 0) L1 (fun i hi => by
      rw [Nat.zero_add]
      have := V.1 _ (w3 i hi).1
      omega)
    obtain ⟨i0, p1, p2⟩ := one
    have le := (mn_le (F := 100000) (l := l) (a := na_ D l s) (b := 0) L).2
    have mpos : 0 < mn 100000 l (na_ D l s) 0 L := by rw [p2, Nat.zero_add]; exact (w3 i0 p1).2.2.1
    have m1 := i_mn_le (mn 100000 l (na_ D l s) 0 L) (i_mn (u s) (u (nd D l s L)))
    have m2 := i_mn_le (u s) (u (nd D l s L))
    rw [← eam] at m1
    have us := R.2.2
    have xpos : 0 < am D l u s := by omega
    have xle : ∀ i, i < L → am D l u s ≤ l (na_ D l s (0 + i)) := fun i hi => by have := le i hi; omega
    have inj0 : ∀ i j, i < L → j < L → na_ D l s (0 + i) = na_ D l s (0 + j) → i = j := fun i j hi hj q => inj i j hi hj (by rw [Nat.zero_add, Nat.zero_add] at q; exact q)
    have bd := tk_bd (l := l) (a := na_ D l s) (b := 0) xpos inj0 xle
    have V2 : vs D (ws_l D l u s) (ws_u D l u s) := by
      rw [el, eu]
      refine ⟨fun k hk => ?_, fun v hv => ?_, fun v hv => ?_⟩
      · have h1 := bd k
        have h2 := V.1 k hk
        exact ⟨h1.2 h2.1, by omega, fun q => by have := h2.2.2 q; have := h1.2 h2.1; omega⟩
      · show 0 ≤ (if v = nd D l s L then u v - am D l u s else if v = s then u v - am D l u s else u v) ∧ (if v = nd D l s L then u v - am D l u s else if v = s then u v - am D l u s else u v) ≤ 100000
        have h1 := V.2.1 v hv
        by_cases z1 : v = nd D l s L
        · rw [if_pos z1, z1]
          rw [z1] at h1
          omega
        · rw [if_neg z1]
          by_cases z2 : v = s
          · rw [if_pos z2, z2]
            rw [z2] at h1
            omega
          · rw [if_neg z2]; exact h1
      · have g := tk_go (D := D) (l := l) (a := na_ D l s) (nn := nd D l s) (x := am D l u s) (b := 0) (v := v) L (fun i hi => by
          rw [Nat.zero_add]
          have := w3 i hi
          exact ⟨this.1, this.2.1, this.2.2.2.2.1⟩)
        rw [Nat.zero_add] at g
        have c := V.2.2 v hv
        rw [c] at g
        rw [g]
        show _ = if gdk D v = 1 then (if v = nd D l s L then u v - am D l u s else if v = s then u v - am D l u s else u v) else if gdk D v = 2 then - (if v = nd D l s L then u v - am D l u s else if v = s then u v - am D l u s else u v) else 0
        have e0 : nd D l s 0 = s := rfl
        rw [e0]
        by_cases z1 : v = nd D l s L
        · have k2 : gdk D v = 2 := by rw [z1]; exact t1
          have k1 : ¬ gdk D v = 1 := by rw [k2]; decide
          have nvs : ¬ v = s := fun q => hst (by rw [← z1]; exact q)
          rw [if_neg k1, if_neg k1, if_pos k2, if_pos k2, if_pos z1, if_pos z1, if_neg nvs]; omega
        · rw [if_neg z1, if_neg z1]
          by_cases z2 : v = s
          · have k1 : gdk D v = 1 := by rw [z2]; exact R.2.1
            rw [if_pos k1, if_pos k1, if_pos z2, if_pos z2]; omega
          · rw [if_neg z2, if_neg z2]; omega
    refine ⟨V2, ?_, fun _ => xpos⟩
    unfold ms
    have ml : ∀ j, j < gdm D → decide (0 < ws_l D l u s j) = true → decide (0 < l j) = true := fun j hj h => by
      have h := of_decide_eq_true h
      rw [el] at h
      have := (bd j).1
      exact decide_eq_true (by omega)
    have mu : ∀ v, v < gdn D → decide (0 < ws_u D l u s v) = true → decide (0 < u v) = true := fun v hv h => by
      have h := of_decide_eq_true h
      rw [eu] at h
      have h : 0 < if v = nd D l s L then u v - am D l u s else if v = s then u v - am D l u s else u v := h
      refine decide_eq_true ?_
      by_cases z1 : v = nd D l s L
      · rw [if_pos z1] at h; omega
      · rw [if_neg z1] at h
        by_cases z2 : v = s
        · rw [if_pos z2] at h; omega
        · rw [if_neg z2] at h; exact h
    have A := up_mb (b := fun k => decide (0 < l k)) (c := fun k => decide (0 < ws_l D l u s k)) (gdm D) ml
    have B := up_mb (b := fun v => decide (0 < u v)) (c := fun v => decide (0 < ws_u D l u s v)) (gdn D) mu
    rcases m1.2.2 with h | h
    · have := up_ms (b := fun k => decide (0 < l k)) (c := fun k => decide (0 < ws_l D l u s k)) (a := na_ D l s i0) (gdm D) (w3 i0 p1).1 ml (decide_eq_true (w3 i0 p1).2.2.1) (decide_eq_false (by
        rw [el]
        have q := tk_in (l := l) (x := am D l u s) L inj0 i0 p1
        rw [Nat.zero_add] at q p2
        rw [q]; omega))
      omega
    · rcases m2.2.2 with h2 | h2
      · have := up_ms (b := fun v => decide (0 < u v)) (c := fun v => decide (0 < ws_u D l u s v)) (a := s) (gdn D) R.1 mu (decide_eq_true us) (decide_eq_false (by
          rw [eu]
          show ¬ 0 < if s = nd D l s L then u s - am D l u s else if s = s then u s - am D l u s else u s
          rw [if_neg (fun q => hst q.symm), if_pos rfl]; omega))
        omega
      · have := up_ms (b := fun v => decide (0 < u v)) (c := fun v => decide (0 < ws_u D l u s v)) (a := nd D l s L) (gdn D) w1 mu (decide_eq_true t2) (decide_eq_false (by
          rw [eu]
          show ¬ 0 < if nd D l s L = nd D l s L then u (nd D l s L) - am D l u s else _
          rw [if_pos rfl]; omega))
        omega
  · have hb : sb D l s L = true := by
      rcases L4 with h | h
      · exact absurd h hS
      · exact h
    have hp : fnd (fun j => decide (nd D l s j = nd D l s L)) L 0 < L := of_decide_eq_true hb
    have S := fnd_spec (fun j => decide (nd D l s j = nd D l s L)) L 0
    have hq : nd D l s (fnd (fun j => decide (nd D l s j = nd D l s L)) L 0) = nd D l s L := of_decide_eq_true (S.2.2.2 (by omega))
    have eu : ws_u D l u s = u := by unfold ws_u; rw [hL, if_neg hS]
    have el : ws_l D l u s = tk l (na_ D l s) (mn 100000 l (na_ D l s) (fnd (fun j => decide (nd D l s j = nd D l s L)) L 0) (L - fnd (fun j => decide (nd D l s j = nd D l s L)) L 0)) (fnd (fun j => decide (nd D l s j = nd D l s L)) L 0) (L - fnd (fun j => decide (nd D l s j = nd D l s L)) L 0) := by unfold ws_l; rw [hL, if_neg hS]
    generalize fnd (fun j => decide (nd D l s j = nd D l s L)) L 0 = p at *
    have one := mn_one (F := 100000) (l := l) (a := na_ D l s) (b := p) (d := L - p) (by omega) (fun i hi => by
      have := V.1 _ (w3 (p + i) (by omega)).1
      omega)
    obtain ⟨i0, p1, p2⟩ := one
    have le := (mn_le (F := 100000) (l := l) (a := na_ D l s) (b := p) (L - p)).2
    have xpos : 0 < mn 100000 l (na_ D l s) p (L - p) := by rw [p2]; exact (w3 (p + i0) (by omega)).2.2.1
    have inj0 : ∀ i j, i < L - p → j < L - p → na_ D l s (p + i) = na_ D l s (p + j) → i = j := fun i j hi hj q => by have := inj (p + i) (p + j) (by omega) (by omega) q; omega
    generalize mn 100000 l (na_ D l s) p (L - p) = x at *
    have bd := tk_bd (l := l) (a := na_ D l s) (b := p) xpos inj0 le
    refine ⟨?_, ?_, fun h => absurd h hS⟩
    · rw [el, eu]
      refine ⟨fun k hk => ?_, V.2.1, fun v hv => ?_⟩
      · have h1 := bd k
        have h2 := V.1 k hk
        exact ⟨h1.2 h2.1, by omega, fun q => by have := h2.2.2 q; have := h1.2 h2.1; omega⟩
      · have g := tk_go (D := D) (l := l) (a := na_ D l s) (nn := nd D l s) (x := x) (b := p) (v := v) (L - p) (fun i hi => by
          have := w3 (p + i) (by omega)
          exact ⟨this.1, this.2.1, this.2.2.2.2.1⟩)
        rw [show p + (L - p) = L by omega, hq] at g
        rw [g, V.2.2 v hv]
        omega
    · unfold ms
      rw [eu, el]
      have ml : ∀ j, j < gdm D → decide (0 < tk l (na_ D l s) x p (L - p) j) = true → decide (0 < l j) = true := fun j hj h => by
        have h := of_decide_eq_true h
        have := (bd j).1
        exact decide_eq_true (by omega)
      have := up_ms (b := fun k => decide (0 < l k)) (c := fun k => decide (0 < tk l (na_ D l s) x p (L - p) k)) (a := na_ D l s (p + i0)) (gdm D) (w3 (p + i0) (by omega)).1 ml (decide_eq_true (w3 (p + i0) (by omega)).2.2.1) (decide_eq_false (by
        have q := tk_in (l := l) (x := x) (L - p) inj0 i0 p1
        rw [q]; omega))
      omega
theorem sm_app (f : Nat → Int) (a : Nat) : ∀ b, sm_ (a + b) f = sm_ a f + sm_ b (fun i => f (a + i))
  | 0 => by rw [sm_0]; show sm_ a f = sm_ a f + 0; omega
  | b + 1 => by
    rw [show a + (b + 1) = (a + b) + 1 by omega, sm_s, sm_app f a b, sm_s]
    omega
/-- what goes from a node less what comes -/
theorem FL_cons {D : gD} (O : gok D) {f : Nat → Int} (F : FL D f) {v : Nat} (hv : v < gdn D) : go_ D (l0 f) v - co_ D (l0 f) v = if gdk D v = 1 then f (50 + v) else if gdk D v = 2 then - f (50 + v) else 0 := by
  have hv10 : v < 10 := Nat.lt_of_lt_of_le hv O.1
  have hm40 := O.2.1
  have nn := FL_nn O F
  have h0 := nt_cut (n := 61) (V := 22) (fr := dA D) (to := dB D) f (fun w => decide (w = 2 * v ∨ w = 2 * v + 1)) (fun e he => (dlt O he).1) (fun e he => (dlt O he).2)
  rw [sm_z' (fun w hw => by rw [F.1 w hw, Int.mul_zero])] at h0
  have h1 := sm_app (fun e => (nt_in (fun w => decide (w = 2 * v ∨ w = 2 * v + 1)) (dB D e) - nt_in (fun w => decide (w = 2 * v ∨ w = 2 * v + 1)) (dA D e)) * f e) 40 21
  rw [show 40 + 21 = 61 by omega, ← h0] at h1
  -- arcs
  have a1 : sm_ 40 (fun e => (nt_in (fun w => decide (w = 2 * v ∨ w = 2 * v + 1)) (dB D e) - nt_in (fun w => decide (w = 2 * v ∨ w = 2 * v + 1)) (dA D e)) * f e) = co_ D (l0 f) v - go_ D (l0 f) v := by
    have e1 := sm_app (fun e => (nt_in (fun w => decide (w = 2 * v ∨ w = 2 * v + 1)) (dB D e) - nt_in (fun w => decide (w = 2 * v ∨ w = 2 * v + 1)) (dA D e)) * f e) (gdm D) (40 - gdm D)
    rw [show gdm D + (40 - gdm D) = 40 by omega] at e1
    have e2 : sm_ (40 - gdm D) (fun i => (nt_in (fun w => decide (w = 2 * v ∨ w = 2 * v + 1)) (dB D (gdm D + i)) - nt_in (fun w => decide (w = 2 * v ∨ w = 2 * v + 1)) (dA D (gdm D + i))) * f (gdm D + i)) = 0 := sm_z' (fun i hi => by
      have : dE D (gdm D + i) = false := by
        cases q : dE D (gdm D + i) with
        | false => rfl
        | true => have := ((dE1 (by omega)).mp q).1; omega
      rw [(nn (gdm D + i) (by omega)).2.1 this, Int.mul_zero])
    rw [e1, e2, Int.add_zero]
    unfold co_ go_
    rw [← sm_sub]
    refine sm_congr (fun k hk => ?_)
    have lk : l0 f k = f k := by unfold l0; rw [if_pos (by omega)]
    rw [lk]
    cases q : dE D k with
    | false =>
      rw [(nn k (by omega)).2.1 q]
      by_cases y1 : (gdt D k).toInt = v <;> by_cases y2 : (gdf D k).toInt = v <;> simp [y1, y2]
    | true =>
      have al := (dE1 (D := D) (e := k) (by omega)).mp q
      have g := O.2.2.2 k al.1 al.2
      unfold dA dB nt_in
      rw [if_pos q, if_pos q, dA1 (by omega), dB1 (by omega)]
      have c1 : (decide (2 * (gdt D k).toInt.toNat = 2 * v ∨ 2 * (gdt D k).toInt.toNat = 2 * v + 1) = true) ↔ (gdt D k).toInt = v := by
        rw [decide_eq_true_iff]; omega
      have c2 : (decide (2 * (gdf D k).toInt.toNat + 1 = 2 * v ∨ 2 * (gdf D k).toInt.toNat + 1 = 2 * v + 1) = true) ↔ (gdf D k).toInt = v := by
        rw [decide_eq_true_iff]; omega
      by_cases y1 : (gdt D k).toInt = v
      · rw [if_pos (c1.mpr y1), if_pos y1]
        by_cases y2 : (gdf D k).toInt = v
        · rw [if_pos (c2.mpr y2), if_pos y2]; omega
        · rw [if_neg (fun h => y2 (c2.mp h)), if_neg y2]; omega
      · rw [if_neg (fun h => y1 (c1.mp h)), if_neg y1]
        by_cases y2 : (gdf D k).toInt = v
        · rw [if_pos (c2.mpr y2), if_pos y2]; omega
        · rw [if_neg (fun h => y2 (c2.mp h)), if_neg y2]; omega
  have a2 : sm_ 21 (fun i => (nt_in (fun w => decide (w = 2 * v ∨ w = 2 * v + 1)) (dB D (40 + i)) - nt_in (fun w => decide (w = 2 * v ∨ w = 2 * v + 1)) (dA D (40 + i))) * f (40 + i)) = if gdk D v = 1 then f (50 + v) else if gdk D v = 2 then - f (50 + v) else 0 := by
    have e3 := sm_one (fun i => if gdk D v = 1 then f (40 + i) else if gdk D v = 2 then - f (40 + i) else 0) (10 + v) 21
    rw [if_pos (by omega), show 40 + (10 + v) = 50 + v by omega] at e3
    rw [← e3]
    refine sm_congr (fun i hi => ?_)
    cases q : dE D (40 + i) with
    | false =>
      rw [(nn (40 + i) (by omega)).2.1 q, Int.mul_zero]
      by_cases z : i = 10 + v
      · rw [if_pos z]
        by_cases k1 : gdk D v = 1
        · rw [if_pos k1]
        · rw [if_neg k1]
          by_cases k2 : gdk D v = 2
          · rw [if_pos k2]; rfl
          · rw [if_neg k2]
      · rw [if_neg z]
    | true =>
      unfold dA dB nt_in
      rw [if_pos q, if_pos q]
      rcases d_reg (e := 40 + i) (by omega) with h | ⟨w, h, e⟩ | ⟨w, h, e⟩ | e
      · omega
      · rw [e, dA2 h, dB2 h, if_neg (show ¬ i = 10 + v by omega)]
        by_cases y : w = v
        · rw [if_pos (decide_eq_true (by omega)), if_pos (decide_eq_true (by omega))]; omega
        · rw [if_neg (by rw [decide_eq_true_iff]; omega), if_neg (by rw [decide_eq_true_iff]; omega)]; omega
      · rw [e, dA3 h, dB3 h]
        rw [e] at q
        have hk := (dE3 h).mp q
        by_cases y : w = v
        · subst y
          rw [if_pos (show i = 10 + w by omega)]
          by_cases k1 : gdk D w = 1
          · rw [if_pos k1, if_pos k1, if_pos k1, if_pos (decide_eq_true (by omega)), if_neg (by rw [decide_eq_true_iff]; omega)]; omega
          · have k3 := O.2.2.1 w hv
            have k2 : gdk D w = 2 := by
              rcases kd3 k3.1 k3.2.1 with k | k | k
              · exact absurd k hk.2
              · exact absurd k k1
              · exact k
            rw [if_neg k1, if_neg k1, if_neg k1, if_pos k2, if_neg (by rw [decide_eq_true_iff]; omega), if_pos (decide_eq_true (by omega))]; omega
        · rw [if_neg (show ¬ i = 10 + v by omega)]
          by_cases k1 : gdk D w = 1
          · rw [if_pos k1, if_pos k1, if_neg (by rw [decide_eq_true_iff]; omega), if_neg (by rw [decide_eq_true_iff]; omega)]; omega
          · rw [if_neg k1, if_neg k1, if_neg (by rw [decide_eq_true_iff]; omega), if_neg (by rw [decide_eq_true_iff]; omega)]; omega
      · rw [e, dA4, dB4, if_neg (show ¬ i = 10 + v by omega), if_neg (by rw [decide_eq_true_iff]; omega), if_neg (by rw [decide_eq_true_iff]; omega)]; omega
  rw [a1, a2] at h1
  omega
theorem vs_0 {D : gD} (O : gok D) {f : Nat → Int} (F : FL D f) : vs D (l0 f) (u0 D (l0 f)) := by
  have nn := FL_nn O F
  have hm40 := O.2.1
  have u50 : ∀ v, v < gdn D → u0 D (l0 f) v = if gdk D v = 1 then f (50 + v) else if gdk D v = 2 then f (50 + v) else 0 := fun v hv => by
    have c := FL_cons O F hv
    unfold u0
    by_cases k1 : gdk D v = 1
    · rw [if_pos k1] at c ⊢
      rw [if_pos k1]; exact c
    · rw [if_neg k1] at c ⊢
      rw [if_neg k1]
      by_cases k2 : gdk D v = 2
      · rw [if_pos k2] at c ⊢
        rw [if_pos k2]; omega
      · rw [if_neg k2, if_neg k2]
  refine ⟨fun k hk => ?_, fun v hv => ?_, fun v hv => ?_⟩
  · have lk : l0 f k = f k := by unfold l0; rw [if_pos (by omega)]
    have := nn k (by omega)
    rw [lk]
    refine ⟨this.1, this.2.2 (by omega), fun q => this.2.1 ?_⟩
    cases w : dE D k with
    | false => rfl
    | true => have := ((dE1 (by omega)).mp w).2; rw [q] at this; cases this
  · have hv10 : v < 10 := Nat.lt_of_lt_of_le hv O.1
    have a := (nn (50 + v) (by omega)).1
    have b := FL_free O F (50 + v) (by omega) (by omega)
    rw [u50 v hv]
    by_cases k1 : gdk D v = 1
    · rw [if_pos k1]; omega
    · rw [if_neg k1]
      by_cases k2 : gdk D v = 2
      · rw [if_pos k2]; omega
      · rw [if_neg k2]; omega
  · rw [FL_cons O F hv, u50 v hv]
    by_cases k1 : gdk D v = 1
    · rw [if_pos k1, if_pos k1, if_pos k1]
    · rw [if_neg k1, if_neg k1, if_neg k1]
      by_cases k2 : gdk D v = 2
      · rw [if_pos k2, if_pos k2, if_pos k2]
      · rw [if_neg k2, if_neg k2]
theorem lg_ok {D : gD} {u : Nat → Int} (h : lg D u < gdn D) : sr D u (lg D u) := by
  have S := fnd_spec (fun v => decide (gdk D v = 1 ∧ 0 < u v)) (gdn D) 0
  have := of_decide_eq_true (S.2.2.2 (by show lg D u < 0 + gdn D; omega))
  exact ⟨h, this.1, this.2⟩
theorem lg_no {D : gD} {u : Nat → Int} (h : ¬ lg D u < gdn D) : ∀ v, v < gdn D → ¬ (gdk D v = 1 ∧ 0 < u v) := fun v hv => by
  have S := fnd_spec (fun v => decide (gdk D v = 1 ∧ 0 < u v)) (gdn D) 0
  exact of_decide_eq_false (S.2.2.1 v (by omega) (by show v < lg D u; omega))
theorem ms_0 {D : gD} {l u : Nat → Int} (h : ms D l u = 0) : ¬ lg D u < gdn D := fun q => by
  have R := lg_ok q
  have : up (fun v => decide (0 < u v)) (gdn D) ≠ 0 := fun z => by
    have := up_mono (b := fun v => decide (0 < u v)) (i := lg D u + 1) (gdn D) (by omega)
    have e : up (fun v => decide (0 < u v)) (lg D u + 1) = up (fun v => decide (0 < u v)) (lg D u) + 1 := by
      show up (fun v => decide (0 < u v)) (lg D u) + (if decide (0 < u (lg D u)) = true then 1 else 0) = _
      rw [if_pos (decide_eq_true R.2.2)]
    omega
  unfold ms at h
  omega
theorem ms_50 {D : gD} (O : gok D) (l u : Nat → Int) : ms D l u ≤ 50 := by
  have a := up_le (b := fun k => decide (0 < l k)) (gdm D)
  have b := up_le (b := fun v => decide (0 < u v)) (gdn D)
  have := O.1
  have := O.2.1
  unfold ms
  omega
/-- more rounds than there is to do change nothing -/
theorem rn_more {D : gD} (O : gok D) : ∀ (k : Nat) (l u : Nat → Int), vs D l u → ms D l u ≤ k → rn D (k + 1) l u = rn D k l u
  | 0, l, u, V, h => by
    show (if lg D u < gdn D then _ else []) = []
    rw [if_neg (ms_0 (l := l) (by omega))]
  | k + 1, l, u, V, h => by
    by_cases q : lg D u < gdn D
    · have st := step_ok O V (lg_ok q)
      have ih := rn_more O k _ _ st.1 (by omega)
      show (if lg D u < gdn D then (if se D u (nd D l (lg D u) (wl D l u (lg D u))) = true then _ :: rn D (k + 1) (ws_l D l u (lg D u)) (ws_u D l u (lg D u)) else rn D (k + 1) (ws_l D l u (lg D u)) (ws_u D l u (lg D u))) else []) = (if lg D u < gdn D then (if se D u (nd D l (lg D u) (wl D l u (lg D u))) = true then _ :: rn D k (ws_l D l u (lg D u)) (ws_u D l u (lg D u)) else rn D k (ws_l D l u (lg D u)) (ws_u D l u (lg D u))) else [])
      rw [ih]
    · show (if lg D u < gdn D then _ else []) = (if lg D u < gdn D then _ else [])
      rw [if_neg q, if_neg q]
theorem rn_len {D : gD} : ∀ (k : Nat) (l u : Nat → Int), (rn D k l u).length ≤ k
  | 0, _, _ => Nat.le_refl 0
  | k + 1, l, u => by
    have ih := rn_len (D := D) k (ws_l D l u (lg D u)) (ws_u D l u (lg D u))
    show (if lg D u < gdn D then (if se D u (nd D l (lg D u) (wl D l u (lg D u))) = true then (am D l u (lg D u), wl D l u (lg D u), na_ D l (lg D u)) :: rn D k (ws_l D l u (lg D u)) (ws_u D l u (lg D u)) else rn D k (ws_l D l u (lg D u)) (ws_u D l u (lg D u))) else []).length ≤ k + 1
    by_cases q : lg D u < gdn D
    · rw [if_pos q]
      by_cases w : se D u (nd D l (lg D u) (wl D l u (lg D u))) = true
      · rw [if_pos w]; simp; exact ih
      · rw [if_neg w]; omega
    · rw [if_neg q]; simp
