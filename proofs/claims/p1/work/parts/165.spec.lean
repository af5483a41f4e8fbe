theorem ny_of {a : Int32} {n : Nat} (h : ny_in a (nI n)) (hn : n < 2 ^ 31) : ∃ j : Nat, j < n ∧ a = nI j := by
  obtain ⟨j, hj, rfl⟩ := nI_of (x := a) (Int32.not_lt.mpr h.1)
  exact ⟨j, (nI_ltI hj hn).mp h.2, rfl⟩
theorem sw2 (x : Int32) : x = 0 ∨ x = 1 ∨ (¬ x = 0 ∧ ¬ x = 1) := by
  by_cases h0 : x = 0
  · exact Or.inl h0
  · by_cases h1 : x = 1
    · exact Or.inr (Or.inl h1)
    · exact Or.inr (Or.inr ⟨h0, h1⟩)
noncomputable def pick (P : Prop) (x y : Int32) : Int32 := @ite _ P (Classical.propDecidable P) x y
theorem pick_t {P : Prop} {x y : Int32} (h : P) : pick P x y = x := if_pos h
theorem pick_f {P : Prop} {x y : Int32} (h : ¬ P) : pick P x y = y := if_neg h
/-- what a fresh desk answers -/
noncomputable def s_told (w a b : Int32) : Int32 := if w = 0 then pick (ny_in a 6) 400 (-1000) else if w = 1 then -1000 else if w = 2 then pick (ny_in a 6 ∧ ny_in b 5) 1000 (-1000) else if w = 3 then pick (ny_in a 6) 0 (-1000) else if w = 4 then 30000 else if w = 5 then 60000 else if w = 6 then 60000 else if w = 7 then 0 else -1000
theorem s_told0 {a b : Int32} : s_told 0 a b = pick (ny_in a 6) 400 (-1000) := rfl
theorem s_told1 {a b : Int32} : s_told 1 a b = -1000 := rfl
theorem s_told2 {a b : Int32} : s_told 2 a b = pick (ny_in a 6 ∧ ny_in b 5) 1000 (-1000) := rfl
theorem s_told3 {a b : Int32} : s_told 3 a b = pick (ny_in a 6) 0 (-1000) := rfl
theorem s_told9 {w a b : Int32} (h : w.toInt < 0 ∨ 7 < w.toInt) : s_told w a b = -1000 := by
  have hk : ∀ n : Nat, n < 8 → ¬ w = nI n := fun n hn e => by
    rw [e, nI_toInt (by omega)] at h
    omega
  have h0 : ¬ w = 0 := hk 0 (by decide)
  have h1 : ¬ w = 1 := hk 1 (by decide)
  have h2 : ¬ w = 2 := hk 2 (by decide)
  have h3 : ¬ w = 3 := hk 3 (by decide)
  have h4 : ¬ w = 4 := hk 4 (by decide)
  have h5 : ¬ w = 5 := hk 5 (by decide)
  have h6 : ¬ w = 6 := hk 6 (by decide)
  have h7 : ¬ w = 7 := hk 7 (by decide)
  unfold s_told
  rw [if_neg h0, if_neg h1, if_neg h2, if_neg h3, if_neg h4, if_neg h5, if_neg h6, if_neg h7]
def s_flight (a b c d e : Int32) : Prop := ny_in a 10 ∧ ny_in b 10 ∧ ¬ a = b ∧ ny_in c 1000 ∧ ny_in d 30001 ∧ ny_in e 10001
noncomputable def s_end (n : Int32) : Int32 := pick (n = 0) 0 (-1)
noncomputable def s_fault (w : Int32) : Int32 := pick (w = 0) 0 (-1)
noncomputable def s_about (w : Int32) : Int32 := pick (w = 0 ∨ w = 1 ∨ w = 2 ∨ w = 3) 0 (-1)
theorem s_about9 {w : Int32} (h : w.toInt < 0 ∨ 3 < w.toInt) : s_about w = -1 := pick_f (fun q => by
  rcases q with rfl | rfl | rfl | rfl <;> revert h <;> decide)
theorem ny_bool_inj {r r' : Int32} {P : Prop} (h : ny_bool r P) (h' : ny_bool r' P) : r = r' := by
  rcases h with ⟨rfl, h⟩ | ⟨rfl, h⟩ <;> rcases h' with ⟨rfl, h'⟩ | ⟨rfl, h'⟩
  · rfl
  · exact absurd h h'
  · exact absurd h' h
  · rfl
theorem ny_look {x : Int32} {d o0 o1 : Int} (h0 : ¬ x = 0) (h1 : ¬ x = 1) : Op.lookupswitch.offset #[((0 : Int), o0), ((1 : Int), o1)].toList d x.toInt = d := by
  have e0 : ¬ (0 : Int) = x.toInt := fun e => h0 (Int32.toInt_inj.mp (by rw [← e]; rfl))
  have e1 : ¬ (1 : Int) = x.toInt := fun e => h1 (Int32.toInt_inj.mp (by rw [← e]; rfl))
  simp [Op.lookupswitch.offset, e0, e1]
theorem ny_bool0 {r a : Int32} (h : ny_bool r (ny_in a 0)) : r = 0 := by
  rcases h with ⟨_, h1, h2⟩ | ⟨h, _⟩
  · exact absurd h2 (Int32.not_lt.mpr h1)
  · exact h
