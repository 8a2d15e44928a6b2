/-! The search for a way through the net. -/
theorem php : ∀ (n m : Nat) (f : Nat → Nat), (∀ i, i < m → f i < n) → (∀ i j, i < j → j < m → f i ≠ f j) → m ≤ n
  | 0, m, f, h, _ => by
    cases m with
    | zero => exact Nat.le_refl 0
    | succ m => exact absurd (h 0 (by omega)) (by omega)
  | n + 1, 0, f, _, _ => by omega
  | n + 1, m + 1, f, h, hi => by
    have := php n m (fun i => if f i = n then f m else f i) (fun i hm => ?_) (fun i j hij hj => ?_)
    · omega
    · show (if f i = n then f m else f i) < n
      by_cases e : f i = n
      · rw [if_pos e]
        have := h m (by omega)
        have := hi i m hm (by omega)
        omega
      · rw [if_neg e]
        have := h i (by omega)
        omega
    · show (if f i = n then f m else f i) ≠ (if f j = n then f m else f j)
      have a := hi i j hij (by omega)
      have b := hi i m (by omega) (by omega)
      have c := hi j m hj (by omega)
      by_cases e : f i = n <;> by_cases e2 : f j = n
      · omega
      · rw [if_pos e, if_neg e2]; omega
      · rw [if_neg e, if_pos e2]; omega
      · rw [if_neg e, if_neg e2]; exact a
/-- the halves of the edges that were put -/
def st_H (M : gx_M) (ep : Nat → Bool) : Prop :=
  (∀ e, e < 61 → ep e = true → ∃ a b, a < 22 ∧ b < 22 ∧ M 13 e = nI a ∧ M 14 e = nI b) ∧
  (∀ w, w < 22 → ∃ c, c ≤ 42 ∧ M 18 w = nI c ∧ ∀ i, i < c → ∃ h, h < 122 ∧ M 17 (w * 42 + i) = nI h ∧ ep (h / 2) = true ∧ nt_e M (b_x h) = nI w) ∧
  (∀ h, h < 122 → ep (h / 2) = true → ∀ w, w < 22 → nt_e M (b_x h) = nI w → ∃ i c, c ≤ 42 ∧ M 18 w = nI c ∧ i < c ∧ M 17 (w * 42 + i) = nI h)
theorem st_e {M : gx_M} {ep : Nat → Bool} (H : st_H M ep) {h : Nat} (hh : h < 122) (hp : ep (h / 2) = true) : ∃ v, v < 22 ∧ nt_e M h = nI v := by
  obtain ⟨a, b, ha, hb, e1, e2⟩ := H.1 (h / 2) (by omega) hp
  unfold nt_e
  by_cases e : h % 2 = 0
  · rw [if_pos e]; exact ⟨b, hb, e2⟩
  · rw [if_neg e]; exact ⟨a, ha, e1⟩
def bf_I (M0 M : gx_M) (ep : Nat → Bool) (s g k sz : Nat) : Prop :=
  (∀ p, p ≠ 19 → p ≠ 20 → M p = M0 p) ∧ 1 ≤ sz ∧ k ≤ sz ∧
  (∀ i, i < sz → ∃ v, v < 22 ∧ v ≠ g ∧ M 20 i = nI v) ∧ M 20 0 = nI s ∧
  (∀ i j, i < j → j < sz → M 20 i ≠ M 20 j) ∧ M 19 s = -1 ∧ M 19 g = -1 ∧
  (∀ v, v < 22 → M 19 v ≠ -1 → ∃ i, 1 ≤ i ∧ i < sz ∧ M 20 i = nI v) ∧
  (∀ i, 1 ≤ i → i < sz → ∃ h i', h < 122 ∧ M 19 (M 20 i).toInt.toNat = nI h ∧ ep (h / 2) = true ∧ nt_e M0 h = M 20 i ∧ 0 < (nt_l M0 h).toInt ∧ i' < i ∧ nt_e M0 (b_x h) = M 20 i') ∧
  (∀ i, i < k → ∀ h, h < 122 → ep (h / 2) = true → nt_e M0 (b_x h) = M 20 i → 0 < (nt_l M0 h).toInt → nt_e M0 h = nI s ∨ M 19 (nt_e M0 h).toInt.toNat ≠ -1)
/-- no way: a set that nothing leads out of -/
def bf_0 (M0 M : gx_M) (ep : Nat → Bool) (s g : Nat) : Prop := (∀ p, p ≠ 19 → p ≠ 20 → M p = M0 p) ∧ ∃ S : Nat → Bool, S s = true ∧ S g = false ∧ ∀ h, h < 122 → ep (h / 2) = true → S (nt_e M0 (b_x h)).toInt.toNat = true → 0 < (nt_l M0 h).toInt → S (nt_e M0 h).toInt.toNat = true
/-- a way: every vertex that was reached has its half, from a vertex of lower rank -/
def bf_1 (M0 M : gx_M) (ep : Nat → Bool) (s g : Nat) : Prop := (∀ p, p ≠ 19 → p ≠ 20 → M p = M0 p) ∧ M 19 s = -1 ∧ M 19 g ≠ -1 ∧ ∃ rk : Nat → Nat, rk g ≤ 21 ∧ ∀ v, v < 22 → M 19 v ≠ -1 → ∃ h u, h < 122 ∧ M 19 v = nI h ∧ ep (h / 2) = true ∧ nt_e M0 h = nI v ∧ 0 < (nt_l M0 h).toInt ∧ u < 22 ∧ nt_e M0 (b_x h) = nI u ∧ rk u < rk v ∧ (u = s ∨ M 19 u ≠ -1)
theorem nt_e_eq {M0 M : gx_M} (h : ∀ p, p ≠ 19 → p ≠ 20 → M p = M0 p) (x : Nat) : nt_e M x = nt_e M0 x := by
  unfold nt_e
  rw [h 13 (by decide) (by decide), h 14 (by decide) (by decide)]
theorem nt_l_eq {M0 M : gx_M} (h : ∀ p, p ≠ 19 → p ≠ 20 → M p = M0 p) (x : Nat) : nt_l M x = nt_l M0 x := by
  unfold nt_l
  rw [h 11 (by decide) (by decide), h 12 (by decide) (by decide), h 15 (by decide) (by decide), h 16 (by decide) (by decide)]
theorem nI_inj {a b : Nat} (ha : a < 2147483648) (hb : b < 2147483648) (h : nI a = nI b) : a = b := by
  have := i_eq.mp h
  rw [i_nI ha, i_nI hb] at this
  omega
theorem nI_m1 {a : Nat} (ha : a < 2147483648) : nI a ≠ -1 := fun h => by
  have := i_eq.mp h
  rw [i_nI ha] at this
  simp at this
/-- the queue has room -/
theorem bf_sz {M0 M : gx_M} {ep : Nat → Bool} {s g k sz : Nat} (hg : g < 22) (B : bf_I M0 M ep s g k sz) : sz ≤ 21 := by
  obtain ⟨-, -, -, b4, -, b6, -⟩ := B
  have := php 22 (sz + 1) (fun i => if i < sz then (M 20 i).toInt.toNat else g) (fun i hi => ?_) (fun i j hij hj => ?_)
  · omega
  · show (if i < sz then (M 20 i).toInt.toNat else g) < 22
    by_cases e : i < sz
    · obtain ⟨v, h1, -, h3⟩ := b4 i e
      rw [if_pos e, h3, i_nI (by omega)]
      omega
    · rw [if_neg e]; exact hg
  · show (if i < sz then (M 20 i).toInt.toNat else g) ≠ (if j < sz then (M 20 j).toInt.toNat else g)
    obtain ⟨v, h1, h2, h3⟩ := b4 i (by omega)
    rw [if_pos (by omega), h3, i_nI (by omega)]
    by_cases e : j < sz
    · obtain ⟨u, h4, -, h6⟩ := b4 j e
      rw [if_pos e, h6, i_nI (by omega)]
      have h7 := b6 i j hij e
      rw [h3, h6] at h7
      intro z
      exact h7 (by congr 1)
    · rw [if_neg e]; omega
/-- the queue has room for one more, that is neither in it nor the goal -/
theorem bf_sz2 {M0 M : gx_M} {ep : Nat → Bool} {s g k sz v : Nat} (hg : g < 22) (hs : s < 22) (B : bf_I M0 M ep s g k sz) (hv : v < 22) (hvg : v ≠ g) (hvs : v ≠ s) (hvn : M 19 v = -1) : sz ≤ 20 := by
  obtain ⟨-, b2, -, b4, b5, b6, b7, b8, b9, b10, -⟩ := B
  have hq : ∀ i, i < sz → M 20 i ≠ nI v := by
    intro i hi e
    by_cases e0 : i = 0
    · rw [e0, b5] at e
      exact hvs (nI_inj (by omega) (by omega) e).symm
    · obtain ⟨h, i', h1, h2, -⟩ := b10 i (by omega) hi
      rw [e, i_nI (by omega)] at h2
      simp only [Int.toNat_natCast] at h2
      rw [hvn] at h2
      exact nI_m1 (by omega) h2.symm
  have := php 22 (sz + 2) (fun i => if i < sz then (M 20 i).toInt.toNat else if i = sz then v else g) (fun i hi => ?_) (fun i j hij hj => ?_)
  · omega
  · show (if i < sz then (M 20 i).toInt.toNat else if i = sz then v else g) < 22
    by_cases e : i < sz
    · obtain ⟨u, h1, -, h3⟩ := b4 i e
      rw [if_pos e, h3, i_nI (by omega)]
      omega
    · rw [if_neg e]
      by_cases e2 : i = sz
      · rw [if_pos e2]; exact hv
      · rw [if_neg e2]; exact hg
  · show (if i < sz then (M 20 i).toInt.toNat else if i = sz then v else g) ≠ (if j < sz then (M 20 j).toInt.toNat else if j = sz then v else g)
    by_cases ei : i < sz
    · obtain ⟨u, h1, h2, h3⟩ := b4 i ei
      rw [if_pos ei, h3, i_nI (by omega)]
      by_cases e : j < sz
      · obtain ⟨u2, h4, -, h6⟩ := b4 j e
        rw [if_pos e, h6, i_nI (by omega)]
        have h7 := b6 i j hij e
        rw [h3, h6] at h7
        intro z
        exact h7 (by congr 1)
      · rw [if_neg e]
        have h8 := hq i ei
        rw [h3] at h8
        by_cases e2 : j = sz
        · rw [if_pos e2]
          intro z
          exact h8 (by congr 1)
        · rw [if_neg e2]; omega
    · rw [if_neg ei, if_pos (by omega), if_neg (by omega), if_neg (by omega)]
      exact hvg
/-- one more vertex in the queue -/
theorem bf_push {M0 M : gx_M} {ep : Nat → Bool} {s g k sz v h : Nat} (hg : g < 22) (hs : s < 22) (hk : k < sz) (B : bf_I M0 M ep s g k sz) (hv : v < 22) (hvg : v ≠ g) (hvs : v ≠ s) (hvn : M 19 v = -1) (hh : h < 122) (hp : ep (h / 2) = true) (he : nt_e M0 h = nI v) (hl : 0 < (nt_l M0 h).toInt) (hb : nt_e M0 (b_x h) = M 20 k) :
    bf_I M0 (gx_w (gx_w M 19 v (nI h)) 20 sz (nI v)) ep s g k (sz + 1) := by
  obtain ⟨b1, b2, b3, b4, b5, b6, b7, b8, b9, b10, b11⟩ := B
  have q20 : ∀ i, i < sz → (gx_w (gx_w M 19 v (nI h)) 20 sz (nI v)) 20 i = M 20 i := fun i hi => by rw [gx_w_p, if_neg (by omega), gx_w_np (by decide)]
  have q20s : (gx_w (gx_w M 19 v (nI h)) 20 sz (nI v)) 20 sz = nI v := by rw [gx_w_p, if_pos rfl]
  have q19 : ∀ u, (gx_w (gx_w M 19 v (nI h)) 20 sz (nI v)) 19 u = if u = v then nI h else M 19 u := fun u => by rw [gx_w_np (by decide), gx_w_p]
  have hq : ∀ i, i < sz → M 20 i ≠ nI v := by
    intro i hi e
    by_cases e0 : i = 0
    · rw [e0, b5] at e
      exact hvs (nI_inj (by omega) (by omega) e).symm
    · obtain ⟨h, i', h1, h2, -⟩ := b10 i (by omega) hi
      rw [e, i_nI (by omega)] at h2
      simp only [Int.toNat_natCast] at h2
      rw [hvn] at h2
      exact nI_m1 (by omega) h2.symm
  refine ⟨fun p h1 h2 => ?_, by omega, by omega, fun i hi => ?_, ?_, fun i j hij hj => ?_, ?_, ?_, fun u hu hn => ?_, fun i h1 h2 => ?_, fun i hi h1 a1 a2 a3 a4 => ?_⟩
  · rw [← b1 p h1 h2]
    funext j
    rw [gx_w_np h2, gx_w_np h1]
  · by_cases e : i = sz
    · rw [e, q20s]
      exact ⟨v, hv, hvg, rfl⟩
    · rw [q20 i (by omega)]
      exact b4 i (by omega)
  · rw [q20 0 (by omega)]; exact b5
  · by_cases e : j = sz
    · rw [e, q20s, q20 i (by omega)]
      exact hq i (by omega)
    · rw [q20 i (by omega), q20 j (by omega)]
      exact b6 i j hij (by omega)
  · rw [q19, if_neg (fun z => hvs z.symm)]; exact b7
  · rw [q19, if_neg (fun z => hvg z.symm)]; exact b8
  · rw [q19] at hn
    by_cases e : u = v
    · exact ⟨sz, by omega, by omega, by rw [q20s, e]⟩
    · rw [if_neg e] at hn
      obtain ⟨i, h1, h2, h3⟩ := b9 u hu hn
      exact ⟨i, h1, by omega, by rw [q20 i h2]; exact h3⟩
  · by_cases e : i = sz
    · refine ⟨h, k, hh, ?_, hp, ?_, hl, by omega, ?_⟩
      · rw [e, q20s, i_nI (by omega), Int.toNat_natCast, q19, if_pos rfl]
      · rw [e, q20s]; exact he
      · rw [q20 k hk]; exact hb
    · obtain ⟨h3, i', c1, c2, c3, c4, c5, c6, c7⟩ := b10 i h1 (by omega)
      refine ⟨h3, i', c1, ?_, c3, ?_, c5, c6, ?_⟩
      · rw [q20 i (by omega), q19, if_neg ?_]
        · exact c2
        · intro z
          obtain ⟨u, d1, -, d3⟩ := b4 i (by omega)
          rw [d3, i_nI (by omega), Int.toNat_natCast] at z
          exact hq i (by omega) (by rw [d3, z])
      · rw [q20 i (by omega)]; exact c4
      · rw [q20 i' (by omega)]; exact c7
  · rw [q20 i (by omega)] at a3
    rcases b11 i hi h1 a1 a2 a3 a4 with z | z
    · exact Or.inl z
    · refine Or.inr ?_
      rw [q19]
      by_cases e : (nt_e M0 h1).toInt.toNat = v
      · rw [if_pos e]; exact nI_m1 (by omega)
      · rw [if_neg e]; exact z
/-- the goal is reached -/
theorem bf_goal {M0 M : gx_M} {ep : Nat → Bool} {s g k sz h : Nat} (hg : g < 22) (hs : s < 22) (hgs : g ≠ s) (hk : k < sz) (B : bf_I M0 M ep s g k sz) (hh : h < 122) (hp : ep (h / 2) = true) (he : nt_e M0 h = nI g) (hl : 0 < (nt_l M0 h).toInt) (hb : nt_e M0 (b_x h) = M 20 k) :
    bf_1 M0 (gx_w M 19 g (nI h)) ep s g := by
  have hsz := bf_sz hg B
  obtain ⟨b1, b2, b3, b4, b5, b6, b7, b8, b9, b10, b11⟩ := B
  have q19 : ∀ u, (gx_w M 19 g (nI h)) 19 u = if u = g then nI h else M 19 u := fun u => by rw [gx_w_p]
  have hin : ∀ i j, i < sz → j < sz → M 20 i = M 20 j → i = j := by
    intro i j hi hj e
    rcases Nat.lt_trichotomy i j with z | z | z
    · exact absurd e (b6 i j z hj)
    · exact z
    · exact absurd e.symm (b6 j i z hi)
  have hc : ∀ v, ∃ i, v < 22 → M 19 v ≠ -1 → 1 ≤ i ∧ i < sz ∧ M 20 i = nI v := by
    intro v
    by_cases e : v < 22 ∧ M 19 v ≠ -1
    · obtain ⟨i, h1⟩ := b9 v e.1 e.2
      exact ⟨i, fun _ _ => h1⟩
    · exact ⟨0, fun a b => absurd ⟨a, b⟩ e⟩
  -- the place of a vertex in the queue
  have key : ∀ i, i < sz → ∀ u, M 20 i = nI u → u < 22 → (u = s ∧ i = 0) ∨ (u ≠ s ∧ M 19 u ≠ -1) := by
    intro i hi u hu hu2
    by_cases e : i = 0
    · left
      rw [e, b5] at hu
      exact ⟨(nI_inj (by omega) (by omega) hu).symm, e⟩
    · right
      obtain ⟨h3, i', c1, c2, -⟩ := b10 i (by omega) hi
      rw [hu, i_nI (by omega), Int.toNat_natCast] at c2
      refine ⟨fun z => ?_, by rw [c2]; exact nI_m1 (by omega)⟩
      rw [z, b7] at c2
      exact nI_m1 (by omega) c2.symm
  refine ⟨fun p h1 h2 => ?_, ?_, ?_, (fun u => if u = g then sz else if u = s then 0 else Classical.choose (hc u)), ?_, fun v hv hn => ?_⟩
  · rw [← b1 p h1 h2]
    funext j
    rw [gx_w_np h1]
  · rw [q19, if_neg (fun z => hgs z.symm)]; exact b7
  · rw [q19, if_pos rfl]; exact nI_m1 (by omega)
  · show (if g = g then sz else _) ≤ 21
    rw [if_pos rfl]; exact hsz
  · rw [q19] at hn
    by_cases e : v = g
    · obtain ⟨w, w1, w2, w3⟩ := b4 k hk
      refine ⟨h, w, hh, by rw [q19, if_pos e], hp, by rw [e]; exact he, hl, w1, by rw [hb, w3], ?_, ?_⟩
      · show (if w = g then sz else if w = s then 0 else Classical.choose (hc w)) < (if v = g then sz else _)
        rw [if_pos e, if_neg w2]
        by_cases e2 : w = s
        · rw [if_pos e2]; omega
        · rw [if_neg e2]
          rcases key k hk w w3 w1 with z | z
          · exact absurd z.1 e2
          · exact (Classical.choose_spec (hc w) w1 z.2).2.1
      · rcases key k hk w w3 w1 with z | z
        · exact Or.inl z.1
        · exact Or.inr (by rw [q19, if_neg w2]; exact z.2)
    · rw [if_neg e] at hn
      have hvs : v ≠ s := fun z => hn (by rw [z]; exact b7)
      obtain ⟨i1, i2, i3⟩ := Classical.choose_spec (hc v) hv hn
      obtain ⟨h3, i', c1, c2, c3, c4, c5, c6, c7⟩ := b10 (Classical.choose (hc v)) i1 i2
      obtain ⟨w, w1, w2, w3⟩ := b4 i' (by omega)
      refine ⟨h3, w, c1, ?_, c3, by rw [c4, i3], c5, w1, by rw [c7, w3], ?_, ?_⟩
      · rw [i3, i_nI (by omega), Int.toNat_natCast] at c2
        rw [q19, if_neg e]; exact c2
      · show (if w = g then sz else if w = s then 0 else Classical.choose (hc w)) < (if v = g then sz else if v = s then 0 else Classical.choose (hc v))
        rw [if_neg w2, if_neg e, if_neg hvs]
        by_cases e2 : w = s
        · rw [if_pos e2]; omega
        · rw [if_neg e2]
          rcases key i' (by omega) w w3 w1 with z | z
          · exact absurd z.1 e2
          · have := Classical.choose_spec (hc w) w1 z.2
            have h9 := hin _ i' this.2.1 (by omega) (by rw [this.2.2, w3])
            omega
      · rcases key i' (by omega) w w3 w1 with z | z
        · exact Or.inl z.1
        · exact Or.inr (by rw [q19, if_neg w2]; exact z.2)
