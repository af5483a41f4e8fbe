theorem ny_cases9 {P : Nat → Prop} (h0 : P 0) (h1 : P 1) (h2 : P 2) (h3 : P 3) (h4 : P 4) (h5 : P 5) (h6 : P 6) (h7 : P 7) (h8 : P 8) : ∀ k : Nat, k < 9 → P k := fun k hk => by
  rcases (show k = 0 ∨ k = 1 ∨ k = 2 ∨ k = 3 ∨ k = 4 ∨ k = 5 ∨ k = 6 ∨ k = 7 ∨ k = 8 by omega) with rfl | rfl | rfl | rfl | rfl | rfl | rfl | rfl | rfl <;> assumption
set_option maxHeartbeats 4000000 in
set_option maxRecDepth 100000 in
/-- what the tables say of the classes, of the arrays' classes and of the links among nest mates -/
theorem law_known {s : State} {args : Array Value} (hts : ∀ w ∈ lw_tbl, w.before args s = true) : ∃ (D : va_G) (cI cB cP : ClassId), va_K D vwCl (TY cI cB cP) s ∧ nw s := by
  obtain ⟨c0, i0, hk0⟩ := u_known (C := RX0) (T := TX0) (N := 15) (n := 15) hts iw_law_0 (hts (.instantiable RX0 15) (List.mem_of_getElem? (i := 138) (by decide +kernel)))
  obtain ⟨c1, i1, hk1⟩ := u_known (C := RX1) (T := TX1) (N := 7) (n := 7) hts iw_law_1 (hts (.instantiable RX1 7) (List.mem_of_getElem? (i := 273) (by decide +kernel)))
  obtain ⟨c2, i2, hk2⟩ := u_known (C := RX2) (T := TX2) (N := 13) (n := 13) hts iw_law_2 (hts (.instantiable RX2 13) (List.mem_of_getElem? (i := 307) (by decide +kernel)))
  obtain ⟨c3, i3, hk3⟩ := u_known (C := RX3) (T := TX3) (N := 5) (n := 5) hts iw_law_3 (hts (.instantiable RX3 5) (List.mem_of_getElem? (i := 103) (by decide +kernel)))
  obtain ⟨c4, i4, hk4⟩ := u_known (C := RX4) (T := TX4) (N := 6) (n := 6) hts iw_law_4 (hts (.instantiable RX4 6) (List.mem_of_getElem? (i := 109) (by decide +kernel)))
  obtain ⟨c5, i5, hk5⟩ := u_known (C := RX5) (T := TX5) (N := 2) (n := 2) hts iw_law_5 (hts (.instantiable RX5 2) (List.mem_of_getElem? (i := 87) (by decide +kernel)))
  obtain ⟨c6, i6, hk6⟩ := u_known (C := RX6) (T := TX6) (N := 5) (n := 5) hts iw_law_6 (hts (.instantiable RX6 5) (List.mem_of_getElem? (i := 313) (by decide +kernel)))
  obtain ⟨c7, i7, hk7⟩ := u_known (C := RX7) (T := TX7) (N := 5) (n := 5) hts iw_law_7 (hts (.instantiable RX7 5) (List.mem_of_getElem? (i := 79) (by decide +kernel)))
  obtain ⟨c8, i8, hk8⟩ := u_known (C := RX8) (T := TX8) (N := 40) (n := 40) hts iw_law_8 (hts (.instantiable RX8 40) (List.mem_of_getElem? (i := 792) (by decide +kernel)))
  obtain ⟨cI, kI, mI, fI, gI, tI⟩ := Cond.arrayClass_spec (hts (.arrayClass .int) (List.mem_of_getElem? (i := 101) (by decide +kernel)))
  obtain ⟨cB, kB, mB, fB, gB, tB⟩ := Cond.arrayClass_spec (hts (.arrayClass .byte) (List.mem_of_getElem? (i := 603) (by decide +kernel)))
  have hov := hts (.arrayOver (.object "FlightDesk$Plan")) (List.mem_of_getElem? (i := 306) (by decide +kernel))
  obtain ⟨mP, cP, kP, f1, f2, f3, f4, f5⟩ := Cond.arrayOver_spec hov
  refine ⟨(fun k => match k with | 0 => c0 | 1 => c1 | 2 => c2 | 3 => c3 | 4 => c4 | 5 => c5 | 6 => c6 | 7 => c7 | _ => c8, fun k => match k with | 0 => i0 | 1 => i1 | 2 => i2 | 3 => i3 | 4 => i4 | 5 => i5 | 6 => i6 | 7 => i7 | _ => i8), cI, cB, cP, ⟨fun k q hq => ?_, fun k q hq => ?_⟩, ?_⟩
  · match k, hq with
    | 0, hq => cases hq; exact hk0
    | 1, hq => cases hq; exact hk1
    | 2, hq => cases hq; exact hk2
    | 3, hq => cases hq; exact hk3
    | 4, hq => cases hq; exact hk4
    | 5, hq => cases hq; exact hk5
    | 6, hq => cases hq; exact hk6
    | 7, hq => cases hq; exact hk7
    | 8, hq => cases hq; exact hk8
    | k + 9, hq => simp [vwCl] at hq
  · match k, hq with
    | 0, hq => cases hq; exact ⟨fun n z => ⟨fun k h => (by cases h), kI, gI, mI, tI⟩, fI⟩
    | 1, hq => cases hq; exact ⟨fun n z => ⟨fun k h => (by cases h), kB, gB, mB, tB⟩, fB⟩
    | 2, hq => cases hq; exact ⟨fun n z => ⟨fun k h => (by cases h), kP, f3, mP, f4⟩, kP, mP, f3, f4, f1, f5⟩
    | k + 3, hq => simp at hq
  · exact ⟨va_Nw.of rfl (hts (.methodLinkNest RX0 89 yX7_burnIndex RX7) (List.mem_of_getElem? (i := 261) (by decide +kernel))), va_Nw.of rfl (hts (.methodLinkNest RX2 11 yX6_init RX7) (List.mem_of_getElem? (i := 314) (by decide +kernel))), va_Nw.of rfl (hts (.methodLinkNest RX7 11 yX5_init RX7) (List.mem_of_getElem? (i := 88) (by decide +kernel))), va_AO.of hov⟩
