/-! Small rows for the pure part. -/
theorem gz0 : (0 : Fin 4).val = 0 := rfl
theorem gz1 : (1 : Fin 4).val = 1 := rfl
theorem gz2 : (2 : Fin 4).val = 2 := rfl
theorem gz3 : (3 : Fin 4).val = 3 := rfl
theorem gb0 : gx_bl 0 = True := eq_true (Or.inl rfl)
theorem gb1 : gx_bl 1 = True := eq_true (Or.inr rfl)
theorem i_lt {x y : Int32} : x < y ↔ x.toInt < y.toInt := Int32.lt_iff_toInt_lt
theorem i_le {x y : Int32} : x ≤ y ↔ x.toInt ≤ y.toInt := Int32.le_iff_toInt_le
theorem i_eq {x y : Int32} : x = y ↔ x.toInt = y.toInt := Int32.toInt_inj.symm
theorem i_lo (x : Int32) : -2147483648 ≤ x.toInt := Int32.le_toInt x
theorem i_hi (x : Int32) : x.toInt < 2147483648 := Int32.toInt_lt x
theorem i_bm {z : Int} (h1 : -2147483648 ≤ z) (h2 : z < 2147483648) : z.bmod 4294967296 = z := by
  rw [Int.bmod_eq_of_le] <;> omega
theorem i_add {x y : Int32} (h1 : -2147483648 ≤ x.toInt + y.toInt) (h2 : x.toInt + y.toInt < 2147483648) : (x + y).toInt = x.toInt + y.toInt := by
  rw [Int32.toInt_add]
  exact i_bm h1 h2
theorem i_sub {x y : Int32} (h1 : -2147483648 ≤ x.toInt - y.toInt) (h2 : x.toInt - y.toInt < 2147483648) : (x - y).toInt = x.toInt - y.toInt := by
  rw [Int32.toInt_sub]
  exact i_bm h1 h2
theorem i_mul {x y : Int32} (h1 : -2147483648 ≤ x.toInt * y.toInt) (h2 : x.toInt * y.toInt < 2147483648) : (x * y).toInt = x.toInt * y.toInt := by
  rw [Int32.toInt_mul]
  exact i_bm h1 h2
theorem i_cl (x : Int32) : x.toNatClampNeg = x.toInt.toNat := rfl
theorem i_nat {x : Int32} (h : 0 ≤ x.toInt) : x = nI x.toInt.toNat := by
  rw [i_eq, nI_toInt (by have := i_hi x; omega)]
  omega
theorem i_nI {n : Nat} (h : n < 2147483648) : (nI n).toInt = (n : Int) := nI_toInt (by omega)
theorem i_nc {n : Nat} (h : n < 2147483648) : (nI n).toNatClampNeg = n := nI_clamp (by omega)
theorem gx_w_np {M : gx_M} {p k q j : Nat} {x : Int32} (h : q ≠ p) : gx_w M p k x q j = M q j := by simp [gx_w, h]
theorem gx_w_p {M : gx_M} {p k j : Nat} {x : Int32} : gx_w M p k x p j = if j = k then x else M p j := by simp [gx_w]
theorem gx_C_wp (n : Nat) {X : gx_X} {μ : Nat} {as : List Value} {M : gx_M} {P : Option Value → gx_M → Prop} (h : gx_wp X μ P n false 0 (as ++ List.replicate (gx_mL μ - as.length) .null) [] M) : gx_C X μ as M P := gx_wp_ok n false 0 _ _ _ h
