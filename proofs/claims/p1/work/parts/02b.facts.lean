-- branches said of Int
theorem xi_lt {x y : Int32} {a b : Int} (hx : x.toInt = a) (hy : y.toInt = b) : x < y ↔ a < b := by rw [Int32.lt_iff_toInt_lt, hx, hy]
theorem xi_le {x y : Int32} {a b : Int} (hx : x.toInt = a) (hy : y.toInt = b) : x ≤ y ↔ a ≤ b := by rw [Int32.le_iff_toInt_le, hx, hy]
theorem xi_eq {x y : Int32} {a b : Int} (hx : x.toInt = a) (hy : y.toInt = b) : x = y ↔ a = b := by rw [← Int32.toInt_inj, hx, hy]
theorem xl_gt {y x : Int64} {b a : Int} (hy : y.toInt = b) (hx : x.toInt = a) : 0 < lg_cmp x y ↔ b < a := by rw [lg_cmp_gt, Int64.lt_iff_toInt_lt, hx, hy]
theorem xandnn {x m f : Int32} (k : Nat) (hk : k ≤ 30) (hm : m.toBitVec.toNat = 2 ^ k - 1) (e : f = x &&& m) : 0 ≤ f.toInt := by
  obtain ⟨j, hj, h⟩ := pk_andE x k hm
  have h1 : 2 ^ k ≤ 2 ^ 30 := Nat.pow_le_pow_right (by decide) hk
  have h2 : (2 : Nat) ^ 30 = 1073741824 := by decide
  rw [e, h, nI_toInt (by omega)]
  omega
theorem xsubn {x y : Int32} {n : Int} (hy : y.toInt = n) (h : -2147483648 ≤ x.toInt - n ∧ x.toInt - n < 2147483648) : (x - y).toInt = x.toInt - n := by
  rw [Int32.toInt_sub, hy]
  exact Int.bmod_eq_of_le (by omega) (by omega)
