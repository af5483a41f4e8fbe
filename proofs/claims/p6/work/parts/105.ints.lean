-- Int32 as whole numbers
theorem i32_bmod (z : Int) : z.bmod (2 ^ 32) = (z + 2147483648) % 4294967296 - 2147483648 := by
  rw [Int.bmod_def]
  split <;> omega
theorem i32_add {v x y : Int32} (h : v = x + y) : v.toInt = (x.toInt + y.toInt + 2147483648) % 4294967296 - 2147483648 := by rw [h, Int32.toInt_add, i32_bmod]
theorem i32_sub {v x y : Int32} (h : v = x - y) : v.toInt = (x.toInt - y.toInt + 2147483648) % 4294967296 - 2147483648 := by rw [h, Int32.toInt_sub, i32_bmod]
theorem i32_mul {v x y : Int32} (h : v = x * y) : v.toInt = (x.toInt * y.toInt + 2147483648) % 4294967296 - 2147483648 := by rw [h, Int32.toInt_mul, i32_bmod]
theorem i32_mulb {v x y : Int32} {a b : Int} (h : v = x * y) (h1 : 0 ≤ x.toInt) (h2 : x.toInt ≤ a) (h3 : 0 ≤ y.toInt) (h4 : y.toInt ≤ b) (h5 : a * b < 2147483648) : 0 ≤ v.toInt ∧ v.toInt ≤ a * b := by
  have e := i32_mul h
  have p1 : 0 ≤ x.toInt * y.toInt := Int.mul_nonneg h1 h3
  have p2 : x.toInt * y.toInt ≤ a * b := Int.mul_le_mul h2 h4 h3 (Int.le_trans h1 h2)
  generalize x.toInt * y.toInt = z at e p1 p2
  generalize a * b = w at h5 p2 ⊢
  omega
theorem i32_div {v x y : Int32} (h : v = x / y) (hx : 0 ≤ x.toInt) (hy : 0 < y.toInt) : v.toInt = x.toInt / y.toInt := by
  have hb : x.toInt < 2147483648 := by have := Int32.toInt_lt x; omega
  have q1 : 0 ≤ x.toInt / y.toInt := Int.ediv_nonneg hx (Int.le_of_lt hy)
  have q2 : x.toInt / y.toInt ≤ x.toInt := Int.ediv_le_self _ hx
  rw [h, Int32.toInt_div, Int.tdiv_eq_ediv_of_nonneg hx, i32_bmod]
  omega
theorem i32_rem {v x y : Int32} (h : v = x - x / y * y) (hx : 0 ≤ x.toInt) (hy : 0 < y.toInt) : v.toInt = x.toInt % y.toInt := by
  obtain ⟨q, eq⟩ : ∃ q, q = x / y := ⟨_, rfl⟩
  obtain ⟨w, ew⟩ : ∃ w, w = q * y := ⟨_, rfl⟩
  have hb : x.toInt < 2147483648 := by have := Int32.toInt_lt x; omega
  have t1 := i32_div eq hx hy
  have t2 := i32_mul ew
  rw [← eq, ← ew] at h
  have t3 := i32_sub h
  have e1 : x.toInt = y.toInt * (x.toInt / y.toInt) + x.toInt % y.toInt := (Int.mul_ediv_add_emod x.toInt y.toInt).symm
  have e2 : 0 ≤ x.toInt % y.toInt := Int.emod_nonneg _ (Int.ne_of_gt hy)
  have e3 : x.toInt % y.toInt < y.toInt := Int.emod_lt_of_pos _ hy
  have e4 : 0 ≤ y.toInt * (x.toInt / y.toInt) := Int.mul_nonneg (Int.le_of_lt hy) (Int.ediv_nonneg hx (Int.le_of_lt hy))
  rw [t1, Int.mul_comm] at t2
  generalize y.toInt * (x.toInt / y.toInt) = z at e1 e4 t2
  omega
theorem i32_le {x y : Int32} (h : x ≤ y) : x.toInt ≤ y.toInt := Int32.le_iff_toInt_le.mp h
theorem i32_nle {x y : Int32} (h : ¬ x ≤ y) : ¬ (x.toInt ≤ y.toInt) := fun q => h (Int32.le_iff_toInt_le.mpr q)
theorem i32_lt {x y : Int32} (h : x < y) : x.toInt < y.toInt := Int32.lt_iff_toInt_lt.mp h
theorem i32_nlt {x y : Int32} (h : ¬ x < y) : ¬ (x.toInt < y.toInt) := fun q => h (Int32.lt_iff_toInt_lt.mpr q)
theorem i32_eq {x y : Int32} (h : x = y) : x.toInt = y.toInt := by rw [h]
theorem i32_neq {x y : Int32} (h : ¬ x = y) : ¬ (x.toInt = y.toInt) := fun q => h (Int32.toInt_inj.mp q)
theorem ck_lt {i : Int32} {n : Nat} (h0 : 0 ≤ i.toInt) (h1 : i.toInt < (n : Int)) : i.toNatClampNeg < n := by
  show i.toInt.toNat < n
  omega
theorem upd_all {P : Int32 → Prop} {f : Nat → Int32} {n i : Nat} {x : Int32} (h : ∀ k : Nat, k < n → P (f k)) (hx : P x) : ∀ k : Nat, k < n → P (upd f i x k) := fun k hk => (Decidable.em (k = i)).elim (fun e9 => by subst e9; rw [pk_us]; exact hx) (fun e9 => by rw [pk_un e9]; exact h k hk)
theorem i32_min {v x y : Int32} (h : v = if y < x then y else x) : v.toInt ≤ x.toInt ∧ v.toInt ≤ y.toInt ∧ (v.toInt = x.toInt ∨ v.toInt = y.toInt) := by
  by_cases c : y < x
  · rw [if_pos c] at h
    have := i32_lt c
    subst h
    omega
  · rw [if_neg c] at h
    have := i32_nlt c
    subst h
    omega
theorem i32_max {v x y : Int32} (h : v = if x < y then y else x) : v.toInt ≥ x.toInt ∧ v.toInt ≥ y.toInt ∧ (v.toInt = x.toInt ∨ v.toInt = y.toInt) := by
  by_cases c : x < y
  · rw [if_pos c] at h
    have := i32_lt c
    subst h
    omega
  · rw [if_neg c] at h
    have := i32_nlt c
    subst h
    omega
