theorem sw2 (x : Int32) : x = 0 ∨ x = 1 ∨ (¬ x = 0 ∧ ¬ x = 1) := by
  by_cases h0 : x = 0
  · exact Or.inl h0
  · by_cases h1 : x = 1
    · exact Or.inr (Or.inl h1)
    · exact Or.inr (Or.inr ⟨h0, h1⟩)
theorem ny_bool_inj {r r' : Int32} {P : Prop} (h : ny_bool r P) (h' : ny_bool r' P) : r = r' := by
  rcases h with ⟨rfl, h⟩ | ⟨rfl, h⟩ <;> rcases h' with ⟨rfl, h'⟩ | ⟨rfl, h'⟩
  · rfl
  · exact absurd h h'
  · exact absurd h' h
  · rfl
theorem ny_look {x : Int32} {d o0 o1 : Int} (h0 : ¬ x = 0) (h1 : ¬ x = 1) : Op.lookupswitch.offset #[((0 : Int), o0), ((1 : Int), o1)].toList d x.toInt = d := by
  have e0 : ¬ (0 : Int) = x.toInt := fun e => h0 (Int32.toInt_inj.mp (by rw [← e]; rfl))
  have e1 : ¬ (1 : Int) = x.toInt := fun e => h1 (Int32.toInt_inj.mp (by rw [← e]; rfl))
  simp [Op.lookupswitch.offset, e0, e1]
theorem ny_bool0 {r a : Int32} (h : ny_bool r (ny_in a 0)) : r = 0 := by
  rcases h with ⟨_, h1, h2⟩ | ⟨h, _⟩
  · exact absurd h2 (Int32.not_lt.mpr h1)
  · exact h
