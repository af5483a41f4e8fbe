theorem i32_divb {v x y : Int32} {m : Int} (h : v = x / y) (hx : 0 ≤ x.toInt) (hm : 0 < m) (hy : m ≤ y.toInt) : 0 ≤ v.toInt ∧ v.toInt ≤ x.toInt / m := by
  have hy0 : 0 < y.toInt := Int.lt_of_lt_of_le hm hy
  rw [i32_div h hx hy0]
  refine ⟨Int.ediv_nonneg hx (Int.le_of_lt hy0), ?_⟩
  refine (Int.le_ediv_iff_mul_le hm).mpr ?_
  have h1 : x.toInt / y.toInt * m ≤ x.toInt / y.toInt * y.toInt := Int.mul_le_mul_of_nonneg_left hy (Int.ediv_nonneg hx (Int.le_of_lt hy0))
  exact Int.le_trans h1 (Int.ediv_mul_le _ (Int.ne_of_gt hy0))
theorem ny_nb {v : Int32} (h : v.toInt = 0 ∨ v.toInt = 1) : narrow .boolean (.int v) = .int v := by
  rcases h with h | h
  · obtain rfl : v = 0 := ck_eq h
    rfl
  · obtain rfl : v = 1 := ck_eq h
    rfl
