def wk_k_minutes : List Cond := .code yX7_minutes cX7_minutes 4 (some .int) :: ([.fieldLink RX7 40 "FlightDesk" "flight" "LFlightDesk$Flight;", .fieldLink RX7 75 "FlightDesk$Flight" "isSet" "Z"] ++ wsX70 ++ wsX10)
theorem iw_k_minutes_7 : ∀ w ∈ wsX70, w ∈ wk_k_minutes := fun _ h => List.mem_cons_of_mem _ (List.mem_append_left _ (List.mem_append_right _ h))
theorem iw_k_minutes_1 : ∀ w ∈ wsX10, w ∈ wk_k_minutes := fun _ h => List.mem_cons_of_mem _ (List.mem_append_right _ h)
set_option maxHeartbeats 4000000 in
set_option maxRecDepth 100000 in
theorem k_minutes (l : Launch) (D : va_G) (cI cB cP : ClassId) (sz : Nat) (h0 : Nat) (tp : Nat) (rd : Nat) (bk : Nat) (fl : Nat) (pl : Nat) (y1 : Int32) (y2 : Int32) (y3 : Int32) : Met l yX7_minutes wk_k_minutes ({ frames := 0, cells := 0, slots := 0, locals := 0 } : Room) (va_Pc [.ref h0, .int y1, .int y2, .int y3] (Pw D cI cB cP sz [(h0, .inr (7, [.ref tp, .ref rd, .ref bk, .ref fl, .ref pl])), (fl, .inr (1, [.ref bk, .int 0, .int 0, .int 0, .int 0, .int 0, .int 0]))])) (va_Qi (fun (r : Int32) (_ : Unit) => r = (-1)) (fun _ _ => True) (va_A [(h0, .inr (7, [.ref tp, .ref rd, .ref bk, .ref fl, .ref pl])), (fl, .inr (1, [.ref bk, .int 0, .int 0, .int 0, .int 0, .int 0, .int 0]))] sz)) 0 0 (va_A [(h0, .inr (7, [.ref tp, .ref rd, .ref bk, .ref fl, .ref pl])), (fl, .inr (1, [.ref bk, .int 0, .int 0, .int 0, .int 0, .int 0, .int 0]))] sz) := by
  refine Met.ofW (cc := cX7_minutes) (maxL := 4) (ret := (some .int)) (by decide) rfl ?_
  intro p e s m args below meth c s₁ B hml hv
  obtain ⟨rfl, hsz, hP, ⟨hK, hN⟩, hD0⟩ := hv
  have hx := B.exec
  have hb := B.bytes
  have hr := B.returns
  have hts := atoms_spec (ws := wk_k_minutes) B.pre
  have hown : s.vm.findClass RX7 = some m.cls := findClass_of_methodNamed B.named
  have hlocks := B.notSynchronized
  subst hsz
  have hD := hD0.self (sz := s.heap.size)
  generalize hAe : va_A [(h0, .inr (7, [.ref tp, .ref rd, .ref bk, .ref fl, .ref pl])), (fl, .inr (1, [.ref bk, .int 0, .int 0, .int 0, .int 0, .int 0, .int 0]))] s.heap.size = A at hD ⊢
  have hA : ∀ q : Nat, s.heap.size ≤ q → A q := fun q h => by rw [← hAe]; exact Or.inr h
  have hS : va_S A s.heap s.heap [] := va_S.rf
  have hP : va_P D vwCl [(h0, .inr (7, [.ref tp, .ref rd, .ref bk, .ref fl, .ref pl])), (fl, .inr (1, [.ref bk, .int 0, .int 0, .int 0, .int 0, .int 0, .int 0]))] s.heap := hP
  have hl := lv_entry ([.ref h0, .int y1, .int y2, .int y3]) (n := 4) (Nat.le_of_ble_eq_true rfl)
  rw [lg_entry_eq]
  generalize (lg_sl ([.ref h0, .int y1, .int y2, .int y3]) ++ List.replicate (4 - (lg_sl ([.ref h0, .int y1, .int y2, .int y3])).length) Slot.unset).toArray = ls at hl ⊢
  have hl : lv_has ls 4 [(0, .ref h0), (1, .int y1), (2, .int y2), (3, .int y3)] := hl
  refine lv_aload_n hx hb dX7_minutes_0 rfl (lv_at hl 0 rfl) ?_
  refine va_get (D := D) (ci := 7) (v := .ref fl) (C := RX7) (T := TX7) (N := 5) hx hb hts iw_k_minutes_7 hown hK hP 0 rfl rfl 3 (by decide) (hts (.fieldLink RX7 40 "FlightDesk" "flight" "LFlightDesk$Flight;") (by decide +kernel)) (fun _ h9 => h9) rfl dX7_minutes_1 ?_
  refine va_get (D := D) (ci := 1) (v := .int 0) (C := RX1) (T := TX1) (N := 7) hx hb hts iw_k_minutes_1 hown hK hP 1 rfl rfl 1 (by decide) (hts (.fieldLink RX7 75 "FlightDesk$Flight" "isSet" "Z") (by decide +kernel)) (fun _ h9 => h9) rfl dX7_minutes_4 ?_
  refine lv_if_eq (tgt := 41) hx hb dX7_minutes_7 (by decide) (fun c1 => ?_) (fun h9 => (by first | exact absurd h9 (by decide) | exact absurd (by decide) h9))
  refine lv_iconst (v := (-1)) hx hb dX7_minutes_41 (by decide) ?_
  refine W.widen (k := 0) (n := 0) (by decide) (by decide) ?_
  exact W.iret (v := (-1)) hx hb hr (fun t ht hW => ⟨⟨(-1), (), rfl, rfl, trivial⟩, hS.F ht⟩) hS.2.2 dX7_minutes_42

def wk_k_fuel : List Cond := .code yX7_fuel cX7_fuel 6 (some .int) :: ([.methodLink RX7 126 yX7_minutes, .instanceMethod yX7_minutes, .selects RX7 yX7_minutes yX7_minutes, .initialized RX7, .code yX7_minutes cX7_minutes 4 (some .int), .fieldLink RX7 40 "FlightDesk" "flight" "LFlightDesk$Flight;", .fieldLink RX7 75 "FlightDesk$Flight" "isSet" "Z"] ++ wsX70 ++ wsX10)
theorem iw_k_fuel_7 : ∀ w ∈ wsX70, w ∈ wk_k_fuel := fun _ h => List.mem_cons_of_mem _ (List.mem_append_left _ (List.mem_append_right _ h))
theorem iw_k_fuel_1 : ∀ w ∈ wsX10, w ∈ wk_k_fuel := fun _ h => List.mem_cons_of_mem _ (List.mem_append_right _ h)
set_option maxRecDepth 20000 in
theorem gw_k_fuel_0 : GoodIn wk_k_fuel (wsV RX7 126 RX7 yX7_minutes wk_k_minutes) := goodIn_sub (by decide +kernel) (by decide +kernel)
set_option maxHeartbeats 4000000 in
set_option maxRecDepth 100000 in
theorem k_fuel (l : Launch) (D : va_G) (cI cB cP : ClassId) (sz : Nat) (h0 : Nat) (tp : Nat) (rd : Nat) (bk : Nat) (fl : Nat) (pl : Nat) (y1 : Int32) (y2 : Int32) (y3 : Int32) (y4 : Int32) : Met l yX7_fuel wk_k_fuel ({ frames := 1, cells := 0, slots := 0, locals := 23 } : Room) (va_Pc [.ref h0, .int y1, .int y2, .int y3, .int y4] (Pw D cI cB cP sz [(h0, .inr (7, [.ref tp, .ref rd, .ref bk, .ref fl, .ref pl])), (fl, .inr (1, [.ref bk, .int 0, .int 0, .int 0, .int 0, .int 0, .int 0]))])) (va_Qi (fun (r : Int32) (_ : Unit) => r = (-1)) (fun _ _ => True) (va_A [(h0, .inr (7, [.ref tp, .ref rd, .ref bk, .ref fl, .ref pl])), (fl, .inr (1, [.ref bk, .int 0, .int 0, .int 0, .int 0, .int 0, .int 0]))] sz)) 0 0 (va_A [(h0, .inr (7, [.ref tp, .ref rd, .ref bk, .ref fl, .ref pl])), (fl, .inr (1, [.ref bk, .int 0, .int 0, .int 0, .int 0, .int 0, .int 0]))] sz) := by
  refine Met.ofW (cc := cX7_fuel) (maxL := 6) (ret := (some .int)) (by decide) rfl ?_
  intro p e s m args below meth c s₁ B hml hv
  obtain ⟨rfl, hsz, hP, ⟨hK, hN⟩, hD0⟩ := hv
  have hx := B.exec
  have hb := B.bytes
  have hr := B.returns
  have hts := atoms_spec (ws := wk_k_fuel) B.pre
  have hown : s.vm.findClass RX7 = some m.cls := findClass_of_methodNamed B.named
  have hlocks := B.notSynchronized
  subst hsz
  have hD := hD0.self (sz := s.heap.size)
  generalize hAe : va_A [(h0, .inr (7, [.ref tp, .ref rd, .ref bk, .ref fl, .ref pl])), (fl, .inr (1, [.ref bk, .int 0, .int 0, .int 0, .int 0, .int 0, .int 0]))] s.heap.size = A at hD ⊢
  have hA : ∀ q : Nat, s.heap.size ≤ q → A q := fun q h => by rw [← hAe]; exact Or.inr h
  have hS : va_S A s.heap s.heap [] := va_S.rf
  have hP : va_P D vwCl [(h0, .inr (7, [.ref tp, .ref rd, .ref bk, .ref fl, .ref pl])), (fl, .inr (1, [.ref bk, .int 0, .int 0, .int 0, .int 0, .int 0, .int 0]))] s.heap := hP
  have hl := lv_entry ([.ref h0, .int y1, .int y2, .int y3, .int y4]) (n := 6) (Nat.le_of_ble_eq_true rfl)
  rw [lg_entry_eq]
  generalize (lg_sl ([.ref h0, .int y1, .int y2, .int y3, .int y4]) ++ List.replicate (6 - (lg_sl ([.ref h0, .int y1, .int y2, .int y3, .int y4])).length) Slot.unset).toArray = ls at hl ⊢
  have hl : lv_has ls 6 [(0, .ref h0), (1, .int y1), (2, .int y2), (3, .int y3), (4, .int y4)] := hl
  refine lv_aload_n hx hb dX7_fuel_0 rfl (lv_at hl 0 rfl) ?_
  refine lv_iload_n hx hb dX7_fuel_1 rfl (lv_at hl 1 rfl) ?_
  refine lv_iload_n hx hb dX7_fuel_2 rfl (lv_at hl 2 rfl) ?_
  refine lv_iload_n hx hb dX7_fuel_3 rfl (lv_at hl 3 rfl) ?_
  have hPc := hP.sub (ws' := [(h0, .inr (7, [.ref tp, .ref rd, .ref bk, .ref fl, .ref pl])), (fl, .inr (1, [.ref bk, .int 0, .int 0, .int 0, .int 0, .int 0, .int 0]))]) [0, 1] rfl
  have hDc := hD.sub (ws' := [(h0, .inr (7, [.ref tp, .ref rd, .ref bk, .ref fl, .ref pl])), (fl, .inr (1, [.ref bk, .int 0, .int 0, .int 0, .int 0, .int 0, .int 0]))]) [0, 1] (by decide) rfl
  have hFc := va_free (wc := [(h0, .inr (7, [.ref tp, .ref rd, .ref bk, .ref fl, .ref pl])), (fl, .inr (1, [.ref bk, .int 0, .int 0, .int 0, .int 0, .int 0, .int 0]))]) hD hS hA [0, 1] rfl
  refine va_calli (va_runV (As := [.int y1, .int y2, .int y3]) (rest := []) ⟨hx, hb, hml, hown, hts⟩ (k_minutes l D cI cB cP s.heap.size h0 tp rd bk fl pl y1 y2 y3) (cwV 3 hts gw_k_fuel_0 rfl rfl rfl (by decide +kernel) ⟨Nat.le_of_ble_eq_true rfl, Nat.le_of_ble_eq_true rfl⟩) ⟨ny_blind, va_recv hK hPc (ci := 7) (q0 := 0) rfl rfl, ny_pre hPc hK hN hDc⟩ rfl rfl hl.1 rfl (lv_room (Nat.le_of_ble_eq_true rfl)) dX7_fuel_4 ⟨Nat.le_of_ble_eq_true rfl, Nat.le_of_ble_eq_true rfl⟩) hS (fun q _ h => hFc q h) hFc (fun r1 u t H locs ht hvm hw hB hz1 hk1 hS => ?_)
  obtain ⟨hP, hD⟩ := va_join (wr := []) (w1 := []) hP hD [0, 1] [] rfl rfl (by decide) (by decide) hk1 hFc ny_P0 ny_D0
  have hP : va_P D vwCl [] H := hP
  have hD : va_D A [] := hD
  subst hw
  refine lv_istore (lv' := [(5, .int (-1)), (0, .ref h0), (1, .int y1), (2, .int y2), (3, .int y3), (4, .int y4)]) hx hb dX7_fuel_7 hl (by decide) rfl (fun ls hl => ?_)
  refine lv_iload hx hb dX7_fuel_9 (lv_at hl 0 rfl) ?_
  refine lv_iconst (v := (-1)) hx hb dX7_fuel_11 (by decide) ?_
  refine lv_icmp_eq (tgt := 25) hx hb dX7_fuel_12 (by decide) (fun c2 => ?_) (fun h9 => (by first | exact absurd h9 (by decide) | exact absurd (by decide) h9))
  refine lv_iconst (v := (-1)) hx hb dX7_fuel_25 (by decide) ?_
  refine W.widen (k := 0) (n := 0) (by decide) (by decide) ?_
  exact W.iret (v := (-1)) hx hb hr (fun t ht hW => ⟨⟨(-1), (), rfl, rfl, trivial⟩, hS.F ht⟩) hS.2.2 dX7_fuel_26

def wk_k_planOf : List Cond := .code yX7_planOf cX7_planOf 3 (some (.object "FlightDesk$Plan")) :: ([.fieldLink RX7 40 "FlightDesk" "flight" "LFlightDesk$Flight;", .fieldLink RX7 75 "FlightDesk$Flight" "isSet" "Z"] ++ wsX70 ++ wsX10)
theorem iw_k_planOf_7 : ∀ w ∈ wsX70, w ∈ wk_k_planOf := fun _ h => List.mem_cons_of_mem _ (List.mem_append_left _ (List.mem_append_right _ h))
theorem iw_k_planOf_1 : ∀ w ∈ wsX10, w ∈ wk_k_planOf := fun _ h => List.mem_cons_of_mem _ (List.mem_append_right _ h)
set_option maxHeartbeats 4000000 in
set_option maxRecDepth 100000 in
theorem k_planOf (l : Launch) (D : va_G) (cI cB cP : ClassId) (sz : Nat) (h0 : Nat) (tp : Nat) (rd : Nat) (bk : Nat) (fl : Nat) (pl : Nat) (y1 : Int32) : Met l yX7_planOf wk_k_planOf ({ frames := 0, cells := 0, slots := 0, locals := 0 } : Room) (va_Pc [.ref h0, .int y1] (Pw D cI cB cP sz [(h0, .inr (7, [.ref tp, .ref rd, .ref bk, .ref fl, .ref pl])), (fl, .inr (1, [.ref bk, .int 0, .int 0, .int 0, .int 0, .int 0, .int 0]))])) (va_Qq (fun (r : Option Nat) (_ : Unit) => r = none) (fun _ t => va_P D vwCl [(h0, .inr (7, [.ref tp, .ref rd, .ref bk, .ref fl, .ref pl])), (fl, .inr (1, [.ref bk, .int 0, .int 0, .int 0, .int 0, .int 0, .int 0]))] t.heap ∧ va_D (va_A [(h0, .inr (7, [.ref tp, .ref rd, .ref bk, .ref fl, .ref pl])), (fl, .inr (1, [.ref bk, .int 0, .int 0, .int 0, .int 0, .int 0, .int 0]))] sz) [(h0, .inr (7, [.ref tp, .ref rd, .ref bk, .ref fl, .ref pl])), (fl, .inr (1, [.ref bk, .int 0, .int 0, .int 0, .int 0, .int 0, .int 0]))]) (va_A [(h0, .inr (7, [.ref tp, .ref rd, .ref bk, .ref fl, .ref pl])), (fl, .inr (1, [.ref bk, .int 0, .int 0, .int 0, .int 0, .int 0, .int 0]))] sz)) 0 0 (va_A [(h0, .inr (7, [.ref tp, .ref rd, .ref bk, .ref fl, .ref pl])), (fl, .inr (1, [.ref bk, .int 0, .int 0, .int 0, .int 0, .int 0, .int 0]))] sz) := by
  refine Met.ofW (cc := cX7_planOf) (maxL := 3) (ret := (some (.object "FlightDesk$Plan"))) (by decide) rfl ?_
  intro p e s m args below meth c s₁ B hml hv
  obtain ⟨rfl, hsz, hP, ⟨hK, hN⟩, hD0⟩ := hv
  have hx := B.exec
  have hb := B.bytes
  have hr := B.returns
  have hts := atoms_spec (ws := wk_k_planOf) B.pre
  have hown : s.vm.findClass RX7 = some m.cls := findClass_of_methodNamed B.named
  have hlocks := B.notSynchronized
  subst hsz
  have hD := hD0.self (sz := s.heap.size)
  generalize hAe : va_A [(h0, .inr (7, [.ref tp, .ref rd, .ref bk, .ref fl, .ref pl])), (fl, .inr (1, [.ref bk, .int 0, .int 0, .int 0, .int 0, .int 0, .int 0]))] s.heap.size = A at hD ⊢
  have hA : ∀ q : Nat, s.heap.size ≤ q → A q := fun q h => by rw [← hAe]; exact Or.inr h
  have hS : va_S A s.heap s.heap [] := va_S.rf
  have hP : va_P D vwCl [(h0, .inr (7, [.ref tp, .ref rd, .ref bk, .ref fl, .ref pl])), (fl, .inr (1, [.ref bk, .int 0, .int 0, .int 0, .int 0, .int 0, .int 0]))] s.heap := hP
  have hl := lv_entry ([.ref h0, .int y1]) (n := 3) (Nat.le_of_ble_eq_true rfl)
  rw [lg_entry_eq]
  generalize (lg_sl ([.ref h0, .int y1]) ++ List.replicate (3 - (lg_sl ([.ref h0, .int y1])).length) Slot.unset).toArray = ls at hl ⊢
  have hl : lv_has ls 3 [(0, .ref h0), (1, .int y1)] := hl
  refine lv_aload_n hx hb dX7_planOf_0 rfl (lv_at hl 0 rfl) ?_
  refine va_get (D := D) (ci := 7) (v := .ref fl) (C := RX7) (T := TX7) (N := 5) hx hb hts iw_k_planOf_7 hown hK hP 0 rfl rfl 3 (by decide) (hts (.fieldLink RX7 40 "FlightDesk" "flight" "LFlightDesk$Flight;") (by decide +kernel)) (fun _ h9 => h9) rfl dX7_planOf_1 ?_
  refine va_get (D := D) (ci := 1) (v := .int 0) (C := RX1) (T := TX1) (N := 7) hx hb hts iw_k_planOf_1 hown hK hP 1 rfl rfl 1 (by decide) (hts (.fieldLink RX7 75 "FlightDesk$Flight" "isSet" "Z") (by decide +kernel)) (fun _ h9 => h9) rfl dX7_planOf_4 ?_
  refine lv_if_eq (tgt := 18) hx hb dX7_planOf_7 (by decide) (fun c1 => ?_) (fun h9 => (by first | exact absurd h9 (by decide) | exact absurd (by decide) h9))
  refine lv_null hx hb dX7_planOf_18 ?_
  have hP9 := hP.sub (ws' := [(h0, .inr (7, [.ref tp, .ref rd, .ref bk, .ref fl, .ref pl])), (fl, .inr (1, [.ref bk, .int 0, .int 0, .int 0, .int 0, .int 0, .int 0]))]) [0, 1] rfl
  have hD9 := hD.sub (ws' := [(h0, .inr (7, [.ref tp, .ref rd, .ref bk, .ref fl, .ref pl])), (fl, .inr (1, [.ref bk, .int 0, .int 0, .int 0, .int 0, .int 0, .int 0]))]) [0, 1] (by decide) rfl
  refine W.widen (k := 0) (n := 0) (by decide) (by decide) ?_
  exact W.aret (v := .null) hx hb hr (Or.inl ⟨_, rfl⟩) (Or.inl rfl) (fun t ht hW => ⟨⟨none, (), rfl, rfl, by rw [ht]; exact hP9, hD9⟩, hS.F ht⟩) hS.2.2 dX7_planOf_19

def wk_k_need : List Cond := .code yX7_need cX7_need 3 (some .int) :: ([.methodLink RX7 133 yX7_planOf, .instanceMethod yX7_planOf, .selects RX7 yX7_planOf yX7_planOf, .initialized RX7, .code yX7_planOf cX7_planOf 3 (some (.object "FlightDesk$Plan")), .fieldLink RX7 40 "FlightDesk" "flight" "LFlightDesk$Flight;", .fieldLink RX7 75 "FlightDesk$Flight" "isSet" "Z"] ++ wsX70 ++ wsX10)
theorem iw_k_need_7 : ∀ w ∈ wsX70, w ∈ wk_k_need := fun _ h => List.mem_cons_of_mem _ (List.mem_append_left _ (List.mem_append_right _ h))
theorem iw_k_need_1 : ∀ w ∈ wsX10, w ∈ wk_k_need := fun _ h => List.mem_cons_of_mem _ (List.mem_append_right _ h)
set_option maxRecDepth 20000 in
theorem gw_k_need_0 : GoodIn wk_k_need (wsV RX7 133 RX7 yX7_planOf wk_k_planOf) := goodIn_sub (by decide +kernel) (by decide +kernel)
set_option maxHeartbeats 4000000 in
set_option maxRecDepth 100000 in
theorem k_need (l : Launch) (D : va_G) (cI cB cP : ClassId) (sz : Nat) (h0 : Nat) (tp : Nat) (rd : Nat) (bk : Nat) (fl : Nat) (pl : Nat) (y1 : Int32) : Met l yX7_need wk_k_need ({ frames := 1, cells := 0, slots := 0, locals := 22 } : Room) (va_Pc [.ref h0, .int y1] (Pw D cI cB cP sz [(h0, .inr (7, [.ref tp, .ref rd, .ref bk, .ref fl, .ref pl])), (fl, .inr (1, [.ref bk, .int 0, .int 0, .int 0, .int 0, .int 0, .int 0]))])) (va_Qi (fun (r : Int32) (_ : Unit) => r = (-1)) (fun _ _ => True) (va_A [(h0, .inr (7, [.ref tp, .ref rd, .ref bk, .ref fl, .ref pl])), (fl, .inr (1, [.ref bk, .int 0, .int 0, .int 0, .int 0, .int 0, .int 0]))] sz)) 0 0 (va_A [(h0, .inr (7, [.ref tp, .ref rd, .ref bk, .ref fl, .ref pl])), (fl, .inr (1, [.ref bk, .int 0, .int 0, .int 0, .int 0, .int 0, .int 0]))] sz) := by
  refine Met.ofW (cc := cX7_need) (maxL := 3) (ret := (some .int)) (by decide) rfl ?_
  intro p e s m args below meth c s₁ B hml hv
  obtain ⟨rfl, hsz, hP, ⟨hK, hN⟩, hD0⟩ := hv
  have hx := B.exec
  have hb := B.bytes
  have hr := B.returns
  have hts := atoms_spec (ws := wk_k_need) B.pre
  have hown : s.vm.findClass RX7 = some m.cls := findClass_of_methodNamed B.named
  have hlocks := B.notSynchronized
  subst hsz
  have hD := hD0.self (sz := s.heap.size)
  generalize hAe : va_A [(h0, .inr (7, [.ref tp, .ref rd, .ref bk, .ref fl, .ref pl])), (fl, .inr (1, [.ref bk, .int 0, .int 0, .int 0, .int 0, .int 0, .int 0]))] s.heap.size = A at hD ⊢
  have hA : ∀ q : Nat, s.heap.size ≤ q → A q := fun q h => by rw [← hAe]; exact Or.inr h
  have hS : va_S A s.heap s.heap [] := va_S.rf
  have hP : va_P D vwCl [(h0, .inr (7, [.ref tp, .ref rd, .ref bk, .ref fl, .ref pl])), (fl, .inr (1, [.ref bk, .int 0, .int 0, .int 0, .int 0, .int 0, .int 0]))] s.heap := hP
  have hl := lv_entry ([.ref h0, .int y1]) (n := 3) (Nat.le_of_ble_eq_true rfl)
  rw [lg_entry_eq]
  generalize (lg_sl ([.ref h0, .int y1]) ++ List.replicate (3 - (lg_sl ([.ref h0, .int y1])).length) Slot.unset).toArray = ls at hl ⊢
  have hl : lv_has ls 3 [(0, .ref h0), (1, .int y1)] := hl
  refine lv_aload_n hx hb dX7_need_0 rfl (lv_at hl 0 rfl) ?_
  refine lv_iload_n hx hb dX7_need_1 rfl (lv_at hl 1 rfl) ?_
  have hPc := hP.sub (ws' := [(h0, .inr (7, [.ref tp, .ref rd, .ref bk, .ref fl, .ref pl])), (fl, .inr (1, [.ref bk, .int 0, .int 0, .int 0, .int 0, .int 0, .int 0]))]) [0, 1] rfl
  have hDc := hD.sub (ws' := [(h0, .inr (7, [.ref tp, .ref rd, .ref bk, .ref fl, .ref pl])), (fl, .inr (1, [.ref bk, .int 0, .int 0, .int 0, .int 0, .int 0, .int 0]))]) [0, 1] (by decide) rfl
  have hFc := va_free (wc := [(h0, .inr (7, [.ref tp, .ref rd, .ref bk, .ref fl, .ref pl])), (fl, .inr (1, [.ref bk, .int 0, .int 0, .int 0, .int 0, .int 0, .int 0]))]) hD hS hA [0, 1] rfl
  refine va_callq (va_runV (As := [.int y1]) (rest := []) ⟨hx, hb, hml, hown, hts⟩ (k_planOf l D cI cB cP s.heap.size h0 tp rd bk fl pl y1) (cwV 1 hts gw_k_need_0 rfl rfl rfl (by decide +kernel) ⟨Nat.le_of_ble_eq_true rfl, Nat.le_of_ble_eq_true rfl⟩) ⟨ny_blind, va_recv hK hPc (ci := 7) (q0 := 0) rfl rfl, ny_pre hPc hK hN hDc⟩ rfl rfl hl.1 rfl (lv_room (Nat.le_of_ble_eq_true rfl)) dX7_need_2 ⟨Nat.le_of_ble_eq_true rfl, Nat.le_of_ble_eq_true rfl⟩) hS (fun q _ h => hFc q h) hFc (fun r1 u t H locs ht hvm hw hB hz1 hk1 hS => ?_)
  obtain ⟨hP1, hD1⟩ := hB
  rw [ht] at hP1
  obtain ⟨hP, hD⟩ := va_join (wr := []) (w1 := [(h0, .inr (7, [.ref tp, .ref rd, .ref bk, .ref fl, .ref pl])), (fl, .inr (1, [.ref bk, .int 0, .int 0, .int 0, .int 0, .int 0, .int 0]))]) hP hD [0, 1] [] rfl rfl (by decide) (by decide) hk1 hFc hP1 hD1
  have hP : va_P D vwCl [(h0, .inr (7, [.ref tp, .ref rd, .ref bk, .ref fl, .ref pl])), (fl, .inr (1, [.ref bk, .int 0, .int 0, .int 0, .int 0, .int 0, .int 0]))] H := hP
  have hD : va_D A [(h0, .inr (7, [.ref tp, .ref rd, .ref bk, .ref fl, .ref pl])), (fl, .inr (1, [.ref bk, .int 0, .int 0, .int 0, .int 0, .int 0, .int 0]))] := hD
  subst hw
  refine W.eq (g2 := F0 m 5 ls [.null]) rfl ?_
  refine lv_astore_nN (lv' := [(2, .null), (0, .ref h0), (1, .int y1)]) hx hb dX7_need_5 rfl hl (by decide) rfl (fun ls hl => ?_)
  refine lv_aload_nN hx hb dX7_need_6 rfl (lv_at hl 0 rfl) ?_
  refine lv_ifnonnullN hx hb dX7_need_7 ?_
  refine lv_iconst (v := (-1)) hx hb dX7_need_10 (by decide) ?_
  refine lv_goto (tgt := 21) hx hb dX7_need_11 (by decide) ?_
  refine W.widen (k := 0) (n := 0) (by decide) (by decide) ?_
  exact W.iret (v := (-1)) hx hb hr (fun t ht hW => ⟨⟨(-1), (), rfl, rfl, trivial⟩, hS.F ht⟩) hS.2.2 dX7_need_21

def wk_k_legs : List Cond := .code yX7_legs cX7_legs 3 (some .int) :: ([.methodLink RX7 133 yX7_planOf, .instanceMethod yX7_planOf, .selects RX7 yX7_planOf yX7_planOf, .initialized RX7, .code yX7_planOf cX7_planOf 3 (some (.object "FlightDesk$Plan")), .fieldLink RX7 40 "FlightDesk" "flight" "LFlightDesk$Flight;", .fieldLink RX7 75 "FlightDesk$Flight" "isSet" "Z"] ++ wsX70 ++ wsX10)
theorem iw_k_legs_7 : ∀ w ∈ wsX70, w ∈ wk_k_legs := fun _ h => List.mem_cons_of_mem _ (List.mem_append_left _ (List.mem_append_right _ h))
theorem iw_k_legs_1 : ∀ w ∈ wsX10, w ∈ wk_k_legs := fun _ h => List.mem_cons_of_mem _ (List.mem_append_right _ h)
set_option maxRecDepth 20000 in
theorem gw_k_legs_0 : GoodIn wk_k_legs (wsV RX7 133 RX7 yX7_planOf wk_k_planOf) := goodIn_sub (by decide +kernel) (by decide +kernel)
set_option maxHeartbeats 4000000 in
set_option maxRecDepth 100000 in
theorem k_legs (l : Launch) (D : va_G) (cI cB cP : ClassId) (sz : Nat) (h0 : Nat) (tp : Nat) (rd : Nat) (bk : Nat) (fl : Nat) (pl : Nat) (y1 : Int32) : Met l yX7_legs wk_k_legs ({ frames := 1, cells := 0, slots := 0, locals := 22 } : Room) (va_Pc [.ref h0, .int y1] (Pw D cI cB cP sz [(h0, .inr (7, [.ref tp, .ref rd, .ref bk, .ref fl, .ref pl])), (fl, .inr (1, [.ref bk, .int 0, .int 0, .int 0, .int 0, .int 0, .int 0]))])) (va_Qi (fun (r : Int32) (_ : Unit) => r = (-1)) (fun _ _ => True) (va_A [(h0, .inr (7, [.ref tp, .ref rd, .ref bk, .ref fl, .ref pl])), (fl, .inr (1, [.ref bk, .int 0, .int 0, .int 0, .int 0, .int 0, .int 0]))] sz)) 0 0 (va_A [(h0, .inr (7, [.ref tp, .ref rd, .ref bk, .ref fl, .ref pl])), (fl, .inr (1, [.ref bk, .int 0, .int 0, .int 0, .int 0, .int 0, .int 0]))] sz) := by
  refine Met.ofW (cc := cX7_legs) (maxL := 3) (ret := (some .int)) (by decide) rfl ?_
  intro p e s m args below meth c s₁ B hml hv
  obtain ⟨rfl, hsz, hP, ⟨hK, hN⟩, hD0⟩ := hv
  have hx := B.exec
  have hb := B.bytes
  have hr := B.returns
  have hts := atoms_spec (ws := wk_k_legs) B.pre
  have hown : s.vm.findClass RX7 = some m.cls := findClass_of_methodNamed B.named
  have hlocks := B.notSynchronized
  subst hsz
  have hD := hD0.self (sz := s.heap.size)
  generalize hAe : va_A [(h0, .inr (7, [.ref tp, .ref rd, .ref bk, .ref fl, .ref pl])), (fl, .inr (1, [.ref bk, .int 0, .int 0, .int 0, .int 0, .int 0, .int 0]))] s.heap.size = A at hD ⊢
  have hA : ∀ q : Nat, s.heap.size ≤ q → A q := fun q h => by rw [← hAe]; exact Or.inr h
  have hS : va_S A s.heap s.heap [] := va_S.rf
  have hP : va_P D vwCl [(h0, .inr (7, [.ref tp, .ref rd, .ref bk, .ref fl, .ref pl])), (fl, .inr (1, [.ref bk, .int 0, .int 0, .int 0, .int 0, .int 0, .int 0]))] s.heap := hP
  have hl := lv_entry ([.ref h0, .int y1]) (n := 3) (Nat.le_of_ble_eq_true rfl)
  rw [lg_entry_eq]
  generalize (lg_sl ([.ref h0, .int y1]) ++ List.replicate (3 - (lg_sl ([.ref h0, .int y1])).length) Slot.unset).toArray = ls at hl ⊢
  have hl : lv_has ls 3 [(0, .ref h0), (1, .int y1)] := hl
  refine lv_aload_n hx hb dX7_legs_0 rfl (lv_at hl 0 rfl) ?_
  refine lv_iload_n hx hb dX7_legs_1 rfl (lv_at hl 1 rfl) ?_
  have hPc := hP.sub (ws' := [(h0, .inr (7, [.ref tp, .ref rd, .ref bk, .ref fl, .ref pl])), (fl, .inr (1, [.ref bk, .int 0, .int 0, .int 0, .int 0, .int 0, .int 0]))]) [0, 1] rfl
  have hDc := hD.sub (ws' := [(h0, .inr (7, [.ref tp, .ref rd, .ref bk, .ref fl, .ref pl])), (fl, .inr (1, [.ref bk, .int 0, .int 0, .int 0, .int 0, .int 0, .int 0]))]) [0, 1] (by decide) rfl
  have hFc := va_free (wc := [(h0, .inr (7, [.ref tp, .ref rd, .ref bk, .ref fl, .ref pl])), (fl, .inr (1, [.ref bk, .int 0, .int 0, .int 0, .int 0, .int 0, .int 0]))]) hD hS hA [0, 1] rfl
  refine va_callq (va_runV (As := [.int y1]) (rest := []) ⟨hx, hb, hml, hown, hts⟩ (k_planOf l D cI cB cP s.heap.size h0 tp rd bk fl pl y1) (cwV 1 hts gw_k_legs_0 rfl rfl rfl (by decide +kernel) ⟨Nat.le_of_ble_eq_true rfl, Nat.le_of_ble_eq_true rfl⟩) ⟨ny_blind, va_recv hK hPc (ci := 7) (q0 := 0) rfl rfl, ny_pre hPc hK hN hDc⟩ rfl rfl hl.1 rfl (lv_room (Nat.le_of_ble_eq_true rfl)) dX7_legs_2 ⟨Nat.le_of_ble_eq_true rfl, Nat.le_of_ble_eq_true rfl⟩) hS (fun q _ h => hFc q h) hFc (fun r1 u t H locs ht hvm hw hB hz1 hk1 hS => ?_)
  obtain ⟨hP1, hD1⟩ := hB
  rw [ht] at hP1
  obtain ⟨hP, hD⟩ := va_join (wr := []) (w1 := [(h0, .inr (7, [.ref tp, .ref rd, .ref bk, .ref fl, .ref pl])), (fl, .inr (1, [.ref bk, .int 0, .int 0, .int 0, .int 0, .int 0, .int 0]))]) hP hD [0, 1] [] rfl rfl (by decide) (by decide) hk1 hFc hP1 hD1
  have hP : va_P D vwCl [(h0, .inr (7, [.ref tp, .ref rd, .ref bk, .ref fl, .ref pl])), (fl, .inr (1, [.ref bk, .int 0, .int 0, .int 0, .int 0, .int 0, .int 0]))] H := hP
  have hD : va_D A [(h0, .inr (7, [.ref tp, .ref rd, .ref bk, .ref fl, .ref pl])), (fl, .inr (1, [.ref bk, .int 0, .int 0, .int 0, .int 0, .int 0, .int 0]))] := hD
  subst hw
  refine W.eq (g2 := F0 m 5 ls [.null]) rfl ?_
  refine lv_astore_nN (lv' := [(2, .null), (0, .ref h0), (1, .int y1)]) hx hb dX7_legs_5 rfl hl (by decide) rfl (fun ls hl => ?_)
  refine lv_aload_nN hx hb dX7_legs_6 rfl (lv_at hl 0 rfl) ?_
  refine lv_ifnonnullN hx hb dX7_legs_7 ?_
  refine lv_iconst (v := (-1)) hx hb dX7_legs_10 (by decide) ?_
  refine lv_goto (tgt := 21) hx hb dX7_legs_11 (by decide) ?_
  refine W.widen (k := 0) (n := 0) (by decide) (by decide) ?_
  exact W.iret (v := (-1)) hx hb hr (fun t ht hW => ⟨⟨(-1), (), rfl, rfl, trivial⟩, hS.F ht⟩) hS.2.2 dX7_legs_21

def wk_k_leg : List Cond := .code yX7_leg cX7_leg 5 (some .int) :: ([.methodLink RX7 133 yX7_planOf, .instanceMethod yX7_planOf, .selects RX7 yX7_planOf yX7_planOf, .initialized RX7, .code yX7_planOf cX7_planOf 3 (some (.object "FlightDesk$Plan")), .fieldLink RX7 40 "FlightDesk" "flight" "LFlightDesk$Flight;", .fieldLink RX7 75 "FlightDesk$Flight" "isSet" "Z"] ++ wsX70 ++ wsX10)
theorem iw_k_leg_7 : ∀ w ∈ wsX70, w ∈ wk_k_leg := fun _ h => List.mem_cons_of_mem _ (List.mem_append_left _ (List.mem_append_right _ h))
theorem iw_k_leg_1 : ∀ w ∈ wsX10, w ∈ wk_k_leg := fun _ h => List.mem_cons_of_mem _ (List.mem_append_right _ h)
set_option maxRecDepth 20000 in
theorem gw_k_leg_0 : GoodIn wk_k_leg (wsV RX7 133 RX7 yX7_planOf wk_k_planOf) := goodIn_sub (by decide +kernel) (by decide +kernel)
set_option maxHeartbeats 4000000 in
set_option maxRecDepth 100000 in
theorem k_leg (l : Launch) (D : va_G) (cI cB cP : ClassId) (sz : Nat) (h0 : Nat) (tp : Nat) (rd : Nat) (bk : Nat) (fl : Nat) (pl : Nat) (y1 : Int32) (y2 : Int32) (y3 : Int32) : Met l yX7_leg wk_k_leg ({ frames := 1, cells := 0, slots := 0, locals := 22 } : Room) (va_Pc [.ref h0, .int y1, .int y2, .int y3] (Pw D cI cB cP sz [(h0, .inr (7, [.ref tp, .ref rd, .ref bk, .ref fl, .ref pl])), (fl, .inr (1, [.ref bk, .int 0, .int 0, .int 0, .int 0, .int 0, .int 0]))])) (va_Qi (fun (r : Int32) (_ : Unit) => r = (-1)) (fun _ _ => True) (va_A [(h0, .inr (7, [.ref tp, .ref rd, .ref bk, .ref fl, .ref pl])), (fl, .inr (1, [.ref bk, .int 0, .int 0, .int 0, .int 0, .int 0, .int 0]))] sz)) 0 0 (va_A [(h0, .inr (7, [.ref tp, .ref rd, .ref bk, .ref fl, .ref pl])), (fl, .inr (1, [.ref bk, .int 0, .int 0, .int 0, .int 0, .int 0, .int 0]))] sz) := by
  refine Met.ofW (cc := cX7_leg) (maxL := 5) (ret := (some .int)) (by decide) rfl ?_
  intro p e s m args below meth c s₁ B hml hv
  obtain ⟨rfl, hsz, hP, ⟨hK, hN⟩, hD0⟩ := hv
  have hx := B.exec
  have hb := B.bytes
  have hr := B.returns
  have hts := atoms_spec (ws := wk_k_leg) B.pre
  have hown : s.vm.findClass RX7 = some m.cls := findClass_of_methodNamed B.named
  have hlocks := B.notSynchronized
  subst hsz
  have hD := hD0.self (sz := s.heap.size)
  generalize hAe : va_A [(h0, .inr (7, [.ref tp, .ref rd, .ref bk, .ref fl, .ref pl])), (fl, .inr (1, [.ref bk, .int 0, .int 0, .int 0, .int 0, .int 0, .int 0]))] s.heap.size = A at hD ⊢
  have hA : ∀ q : Nat, s.heap.size ≤ q → A q := fun q h => by rw [← hAe]; exact Or.inr h
  have hS : va_S A s.heap s.heap [] := va_S.rf
  have hP : va_P D vwCl [(h0, .inr (7, [.ref tp, .ref rd, .ref bk, .ref fl, .ref pl])), (fl, .inr (1, [.ref bk, .int 0, .int 0, .int 0, .int 0, .int 0, .int 0]))] s.heap := hP
  have hl := lv_entry ([.ref h0, .int y1, .int y2, .int y3]) (n := 5) (Nat.le_of_ble_eq_true rfl)
  rw [lg_entry_eq]
  generalize (lg_sl ([.ref h0, .int y1, .int y2, .int y3]) ++ List.replicate (5 - (lg_sl ([.ref h0, .int y1, .int y2, .int y3])).length) Slot.unset).toArray = ls at hl ⊢
  have hl : lv_has ls 5 [(0, .ref h0), (1, .int y1), (2, .int y2), (3, .int y3)] := hl
  refine lv_aload_n hx hb dX7_leg_0 rfl (lv_at hl 0 rfl) ?_
  refine lv_iload_n hx hb dX7_leg_1 rfl (lv_at hl 1 rfl) ?_
  have hPc := hP.sub (ws' := [(h0, .inr (7, [.ref tp, .ref rd, .ref bk, .ref fl, .ref pl])), (fl, .inr (1, [.ref bk, .int 0, .int 0, .int 0, .int 0, .int 0, .int 0]))]) [0, 1] rfl
  have hDc := hD.sub (ws' := [(h0, .inr (7, [.ref tp, .ref rd, .ref bk, .ref fl, .ref pl])), (fl, .inr (1, [.ref bk, .int 0, .int 0, .int 0, .int 0, .int 0, .int 0]))]) [0, 1] (by decide) rfl
  have hFc := va_free (wc := [(h0, .inr (7, [.ref tp, .ref rd, .ref bk, .ref fl, .ref pl])), (fl, .inr (1, [.ref bk, .int 0, .int 0, .int 0, .int 0, .int 0, .int 0]))]) hD hS hA [0, 1] rfl
  refine va_callq (va_runV (As := [.int y1]) (rest := []) ⟨hx, hb, hml, hown, hts⟩ (k_planOf l D cI cB cP s.heap.size h0 tp rd bk fl pl y1) (cwV 1 hts gw_k_leg_0 rfl rfl rfl (by decide +kernel) ⟨Nat.le_of_ble_eq_true rfl, Nat.le_of_ble_eq_true rfl⟩) ⟨ny_blind, va_recv hK hPc (ci := 7) (q0 := 0) rfl rfl, ny_pre hPc hK hN hDc⟩ rfl rfl hl.1 rfl (lv_room (Nat.le_of_ble_eq_true rfl)) dX7_leg_2 ⟨Nat.le_of_ble_eq_true rfl, Nat.le_of_ble_eq_true rfl⟩) hS (fun q _ h => hFc q h) hFc (fun r1 u t H locs ht hvm hw hB hz1 hk1 hS => ?_)
  obtain ⟨hP1, hD1⟩ := hB
  rw [ht] at hP1
  obtain ⟨hP, hD⟩ := va_join (wr := []) (w1 := [(h0, .inr (7, [.ref tp, .ref rd, .ref bk, .ref fl, .ref pl])), (fl, .inr (1, [.ref bk, .int 0, .int 0, .int 0, .int 0, .int 0, .int 0]))]) hP hD [0, 1] [] rfl rfl (by decide) (by decide) hk1 hFc hP1 hD1
  have hP : va_P D vwCl [(h0, .inr (7, [.ref tp, .ref rd, .ref bk, .ref fl, .ref pl])), (fl, .inr (1, [.ref bk, .int 0, .int 0, .int 0, .int 0, .int 0, .int 0]))] H := hP
  have hD : va_D A [(h0, .inr (7, [.ref tp, .ref rd, .ref bk, .ref fl, .ref pl])), (fl, .inr (1, [.ref bk, .int 0, .int 0, .int 0, .int 0, .int 0, .int 0]))] := hD
  subst hw
  refine W.eq (g2 := F0 m 5 ls [.null]) rfl ?_
  refine lv_astoreN (lv' := [(4, .null), (0, .ref h0), (1, .int y1), (2, .int y2), (3, .int y3)]) hx hb dX7_leg_5 hl (by decide) rfl (fun ls hl => ?_)
  refine lv_aloadN hx hb dX7_leg_7 (lv_at hl 0 rfl) ?_
  refine lv_ifnullN (tgt := 27) hx hb dX7_leg_9 (by decide) ?_
  refine lv_iconst (v := (-1)) hx hb dX7_leg_27 (by decide) ?_
  refine W.widen (k := 0) (n := 0) (by decide) (by decide) ?_
  exact W.iret (v := (-1)) hx hb hr (fun t ht hW => ⟨⟨(-1), (), rfl, rfl, trivial⟩, hS.F ht⟩) hS.2.2 dX7_leg_28

def wk_k_time : List Cond := .code yX7_time cX7_time 5 (some .int) :: ([.methodLink RX7 133 yX7_planOf, .instanceMethod yX7_planOf, .selects RX7 yX7_planOf yX7_planOf, .initialized RX7, .code yX7_planOf cX7_planOf 3 (some (.object "FlightDesk$Plan")), .fieldLink RX7 40 "FlightDesk" "flight" "LFlightDesk$Flight;", .fieldLink RX7 75 "FlightDesk$Flight" "isSet" "Z"] ++ wsX70 ++ wsX10)
theorem iw_k_time_7 : ∀ w ∈ wsX70, w ∈ wk_k_time := fun _ h => List.mem_cons_of_mem _ (List.mem_append_left _ (List.mem_append_right _ h))
theorem iw_k_time_1 : ∀ w ∈ wsX10, w ∈ wk_k_time := fun _ h => List.mem_cons_of_mem _ (List.mem_append_right _ h)
set_option maxRecDepth 20000 in
theorem gw_k_time_0 : GoodIn wk_k_time (wsV RX7 133 RX7 yX7_planOf wk_k_planOf) := goodIn_sub (by decide +kernel) (by decide +kernel)
set_option maxHeartbeats 4000000 in
set_option maxRecDepth 100000 in
theorem k_time (l : Launch) (D : va_G) (cI cB cP : ClassId) (sz : Nat) (h0 : Nat) (tp : Nat) (rd : Nat) (bk : Nat) (fl : Nat) (pl : Nat) (y1 : Int32) : Met l yX7_time wk_k_time ({ frames := 1, cells := 0, slots := 0, locals := 22 } : Room) (va_Pc [.ref h0, .int y1] (Pw D cI cB cP sz [(h0, .inr (7, [.ref tp, .ref rd, .ref bk, .ref fl, .ref pl])), (fl, .inr (1, [.ref bk, .int 0, .int 0, .int 0, .int 0, .int 0, .int 0]))])) (va_Qi (fun (r : Int32) (_ : Unit) => r = (-1)) (fun _ _ => True) (va_A [(h0, .inr (7, [.ref tp, .ref rd, .ref bk, .ref fl, .ref pl])), (fl, .inr (1, [.ref bk, .int 0, .int 0, .int 0, .int 0, .int 0, .int 0]))] sz)) 0 0 (va_A [(h0, .inr (7, [.ref tp, .ref rd, .ref bk, .ref fl, .ref pl])), (fl, .inr (1, [.ref bk, .int 0, .int 0, .int 0, .int 0, .int 0, .int 0]))] sz) := by
  refine Met.ofW (cc := cX7_time) (maxL := 5) (ret := (some .int)) (by decide) rfl ?_
  intro p e s m args below meth c s₁ B hml hv
  obtain ⟨rfl, hsz, hP, ⟨hK, hN⟩, hD0⟩ := hv
  have hx := B.exec
  have hb := B.bytes
  have hr := B.returns
  have hts := atoms_spec (ws := wk_k_time) B.pre
  have hown : s.vm.findClass RX7 = some m.cls := findClass_of_methodNamed B.named
  have hlocks := B.notSynchronized
  subst hsz
  have hD := hD0.self (sz := s.heap.size)
  generalize hAe : va_A [(h0, .inr (7, [.ref tp, .ref rd, .ref bk, .ref fl, .ref pl])), (fl, .inr (1, [.ref bk, .int 0, .int 0, .int 0, .int 0, .int 0, .int 0]))] s.heap.size = A at hD ⊢
  have hA : ∀ q : Nat, s.heap.size ≤ q → A q := fun q h => by rw [← hAe]; exact Or.inr h
  have hS : va_S A s.heap s.heap [] := va_S.rf
  have hP : va_P D vwCl [(h0, .inr (7, [.ref tp, .ref rd, .ref bk, .ref fl, .ref pl])), (fl, .inr (1, [.ref bk, .int 0, .int 0, .int 0, .int 0, .int 0, .int 0]))] s.heap := hP
  have hl := lv_entry ([.ref h0, .int y1]) (n := 5) (Nat.le_of_ble_eq_true rfl)
  rw [lg_entry_eq]
  generalize (lg_sl ([.ref h0, .int y1]) ++ List.replicate (5 - (lg_sl ([.ref h0, .int y1])).length) Slot.unset).toArray = ls at hl ⊢
  have hl : lv_has ls 5 [(0, .ref h0), (1, .int y1)] := hl
  refine lv_aload_n hx hb dX7_time_0 rfl (lv_at hl 0 rfl) ?_
  refine lv_iload_n hx hb dX7_time_1 rfl (lv_at hl 1 rfl) ?_
  have hPc := hP.sub (ws' := [(h0, .inr (7, [.ref tp, .ref rd, .ref bk, .ref fl, .ref pl])), (fl, .inr (1, [.ref bk, .int 0, .int 0, .int 0, .int 0, .int 0, .int 0]))]) [0, 1] rfl
  have hDc := hD.sub (ws' := [(h0, .inr (7, [.ref tp, .ref rd, .ref bk, .ref fl, .ref pl])), (fl, .inr (1, [.ref bk, .int 0, .int 0, .int 0, .int 0, .int 0, .int 0]))]) [0, 1] (by decide) rfl
  have hFc := va_free (wc := [(h0, .inr (7, [.ref tp, .ref rd, .ref bk, .ref fl, .ref pl])), (fl, .inr (1, [.ref bk, .int 0, .int 0, .int 0, .int 0, .int 0, .int 0]))]) hD hS hA [0, 1] rfl
  refine va_callq (va_runV (As := [.int y1]) (rest := []) ⟨hx, hb, hml, hown, hts⟩ (k_planOf l D cI cB cP s.heap.size h0 tp rd bk fl pl y1) (cwV 1 hts gw_k_time_0 rfl rfl rfl (by decide +kernel) ⟨Nat.le_of_ble_eq_true rfl, Nat.le_of_ble_eq_true rfl⟩) ⟨ny_blind, va_recv hK hPc (ci := 7) (q0 := 0) rfl rfl, ny_pre hPc hK hN hDc⟩ rfl rfl hl.1 rfl (lv_room (Nat.le_of_ble_eq_true rfl)) dX7_time_2 ⟨Nat.le_of_ble_eq_true rfl, Nat.le_of_ble_eq_true rfl⟩) hS (fun q _ h => hFc q h) hFc (fun r1 u t H locs ht hvm hw hB hz1 hk1 hS => ?_)
  obtain ⟨hP1, hD1⟩ := hB
  rw [ht] at hP1
  obtain ⟨hP, hD⟩ := va_join (wr := []) (w1 := [(h0, .inr (7, [.ref tp, .ref rd, .ref bk, .ref fl, .ref pl])), (fl, .inr (1, [.ref bk, .int 0, .int 0, .int 0, .int 0, .int 0, .int 0]))]) hP hD [0, 1] [] rfl rfl (by decide) (by decide) hk1 hFc hP1 hD1
  have hP : va_P D vwCl [(h0, .inr (7, [.ref tp, .ref rd, .ref bk, .ref fl, .ref pl])), (fl, .inr (1, [.ref bk, .int 0, .int 0, .int 0, .int 0, .int 0, .int 0]))] H := hP
  have hD : va_D A [(h0, .inr (7, [.ref tp, .ref rd, .ref bk, .ref fl, .ref pl])), (fl, .inr (1, [.ref bk, .int 0, .int 0, .int 0, .int 0, .int 0, .int 0]))] := hD
  subst hw
  refine W.eq (g2 := F0 m 5 ls [.null]) rfl ?_
  refine lv_astore_nN (lv' := [(2, .null), (0, .ref h0), (1, .int y1)]) hx hb dX7_time_5 rfl hl (by decide) rfl (fun ls hl => ?_)
  refine lv_aload_nN hx hb dX7_time_6 rfl (lv_at hl 0 rfl) ?_
  refine lv_ifnonnullN hx hb dX7_time_7 ?_
  refine lv_iconst (v := (-1)) hx hb dX7_time_10 (by decide) ?_
  refine W.widen (k := 0) (n := 0) (by decide) (by decide) ?_
  exact W.iret (v := (-1)) hx hb hr (fun t ht hW => ⟨⟨(-1), (), rfl, rfl, trivial⟩, hS.F ht⟩) hS.2.2 dX7_time_11

def wk_k_legal : List Cond := .code yX7_legal cX7_legal 3 (some .int) :: ([.methodLink RX7 133 yX7_planOf, .instanceMethod yX7_planOf, .selects RX7 yX7_planOf yX7_planOf, .initialized RX7, .code yX7_planOf cX7_planOf 3 (some (.object "FlightDesk$Plan")), .fieldLink RX7 40 "FlightDesk" "flight" "LFlightDesk$Flight;", .fieldLink RX7 75 "FlightDesk$Flight" "isSet" "Z"] ++ wsX70 ++ wsX10)
theorem iw_k_legal_7 : ∀ w ∈ wsX70, w ∈ wk_k_legal := fun _ h => List.mem_cons_of_mem _ (List.mem_append_left _ (List.mem_append_right _ h))
theorem iw_k_legal_1 : ∀ w ∈ wsX10, w ∈ wk_k_legal := fun _ h => List.mem_cons_of_mem _ (List.mem_append_right _ h)
set_option maxRecDepth 20000 in
theorem gw_k_legal_0 : GoodIn wk_k_legal (wsV RX7 133 RX7 yX7_planOf wk_k_planOf) := goodIn_sub (by decide +kernel) (by decide +kernel)
set_option maxHeartbeats 4000000 in
set_option maxRecDepth 100000 in
theorem k_legal (l : Launch) (D : va_G) (cI cB cP : ClassId) (sz : Nat) (h0 : Nat) (tp : Nat) (rd : Nat) (bk : Nat) (fl : Nat) (pl : Nat) (y1 : Int32) : Met l yX7_legal wk_k_legal ({ frames := 1, cells := 0, slots := 0, locals := 22 } : Room) (va_Pc [.ref h0, .int y1] (Pw D cI cB cP sz [(h0, .inr (7, [.ref tp, .ref rd, .ref bk, .ref fl, .ref pl])), (fl, .inr (1, [.ref bk, .int 0, .int 0, .int 0, .int 0, .int 0, .int 0]))])) (va_Qi (fun (r : Int32) (_ : Unit) => r = (-1)) (fun _ _ => True) (va_A [(h0, .inr (7, [.ref tp, .ref rd, .ref bk, .ref fl, .ref pl])), (fl, .inr (1, [.ref bk, .int 0, .int 0, .int 0, .int 0, .int 0, .int 0]))] sz)) 0 0 (va_A [(h0, .inr (7, [.ref tp, .ref rd, .ref bk, .ref fl, .ref pl])), (fl, .inr (1, [.ref bk, .int 0, .int 0, .int 0, .int 0, .int 0, .int 0]))] sz) := by
  refine Met.ofW (cc := cX7_legal) (maxL := 3) (ret := (some .int)) (by decide) rfl ?_
  intro p e s m args below meth c s₁ B hml hv
  obtain ⟨rfl, hsz, hP, ⟨hK, hN⟩, hD0⟩ := hv
  have hx := B.exec
  have hb := B.bytes
  have hr := B.returns
  have hts := atoms_spec (ws := wk_k_legal) B.pre
  have hown : s.vm.findClass RX7 = some m.cls := findClass_of_methodNamed B.named
  have hlocks := B.notSynchronized
  subst hsz
  have hD := hD0.self (sz := s.heap.size)
  generalize hAe : va_A [(h0, .inr (7, [.ref tp, .ref rd, .ref bk, .ref fl, .ref pl])), (fl, .inr (1, [.ref bk, .int 0, .int 0, .int 0, .int 0, .int 0, .int 0]))] s.heap.size = A at hD ⊢
  have hA : ∀ q : Nat, s.heap.size ≤ q → A q := fun q h => by rw [← hAe]; exact Or.inr h
  have hS : va_S A s.heap s.heap [] := va_S.rf
  have hP : va_P D vwCl [(h0, .inr (7, [.ref tp, .ref rd, .ref bk, .ref fl, .ref pl])), (fl, .inr (1, [.ref bk, .int 0, .int 0, .int 0, .int 0, .int 0, .int 0]))] s.heap := hP
  have hl := lv_entry ([.ref h0, .int y1]) (n := 3) (Nat.le_of_ble_eq_true rfl)
  rw [lg_entry_eq]
  generalize (lg_sl ([.ref h0, .int y1]) ++ List.replicate (3 - (lg_sl ([.ref h0, .int y1])).length) Slot.unset).toArray = ls at hl ⊢
  have hl : lv_has ls 3 [(0, .ref h0), (1, .int y1)] := hl
  refine lv_aload_n hx hb dX7_legal_0 rfl (lv_at hl 0 rfl) ?_
  refine lv_iload_n hx hb dX7_legal_1 rfl (lv_at hl 1 rfl) ?_
  have hPc := hP.sub (ws' := [(h0, .inr (7, [.ref tp, .ref rd, .ref bk, .ref fl, .ref pl])), (fl, .inr (1, [.ref bk, .int 0, .int 0, .int 0, .int 0, .int 0, .int 0]))]) [0, 1] rfl
  have hDc := hD.sub (ws' := [(h0, .inr (7, [.ref tp, .ref rd, .ref bk, .ref fl, .ref pl])), (fl, .inr (1, [.ref bk, .int 0, .int 0, .int 0, .int 0, .int 0, .int 0]))]) [0, 1] (by decide) rfl
  have hFc := va_free (wc := [(h0, .inr (7, [.ref tp, .ref rd, .ref bk, .ref fl, .ref pl])), (fl, .inr (1, [.ref bk, .int 0, .int 0, .int 0, .int 0, .int 0, .int 0]))]) hD hS hA [0, 1] rfl
  refine va_callq (va_runV (As := [.int y1]) (rest := []) ⟨hx, hb, hml, hown, hts⟩ (k_planOf l D cI cB cP s.heap.size h0 tp rd bk fl pl y1) (cwV 1 hts gw_k_legal_0 rfl rfl rfl (by decide +kernel) ⟨Nat.le_of_ble_eq_true rfl, Nat.le_of_ble_eq_true rfl⟩) ⟨ny_blind, va_recv hK hPc (ci := 7) (q0 := 0) rfl rfl, ny_pre hPc hK hN hDc⟩ rfl rfl hl.1 rfl (lv_room (Nat.le_of_ble_eq_true rfl)) dX7_legal_2 ⟨Nat.le_of_ble_eq_true rfl, Nat.le_of_ble_eq_true rfl⟩) hS (fun q _ h => hFc q h) hFc (fun r1 u t H locs ht hvm hw hB hz1 hk1 hS => ?_)
  obtain ⟨hP1, hD1⟩ := hB
  rw [ht] at hP1
  obtain ⟨hP, hD⟩ := va_join (wr := []) (w1 := [(h0, .inr (7, [.ref tp, .ref rd, .ref bk, .ref fl, .ref pl])), (fl, .inr (1, [.ref bk, .int 0, .int 0, .int 0, .int 0, .int 0, .int 0]))]) hP hD [0, 1] [] rfl rfl (by decide) (by decide) hk1 hFc hP1 hD1
  have hP : va_P D vwCl [(h0, .inr (7, [.ref tp, .ref rd, .ref bk, .ref fl, .ref pl])), (fl, .inr (1, [.ref bk, .int 0, .int 0, .int 0, .int 0, .int 0, .int 0]))] H := hP
  have hD : va_D A [(h0, .inr (7, [.ref tp, .ref rd, .ref bk, .ref fl, .ref pl])), (fl, .inr (1, [.ref bk, .int 0, .int 0, .int 0, .int 0, .int 0, .int 0]))] := hD
  subst hw
  refine W.eq (g2 := F0 m 5 ls [.null]) rfl ?_
  refine lv_astore_nN (lv' := [(2, .null), (0, .ref h0), (1, .int y1)]) hx hb dX7_legal_5 rfl hl (by decide) rfl (fun ls hl => ?_)
  refine lv_aload_nN hx hb dX7_legal_6 rfl (lv_at hl 0 rfl) ?_
  refine lv_ifnonnullN hx hb dX7_legal_7 ?_
  refine lv_iconst (v := (-1)) hx hb dX7_legal_10 (by decide) ?_
  refine lv_goto (tgt := 35) hx hb dX7_legal_11 (by decide) ?_
  refine W.widen (k := 0) (n := 0) (by decide) (by decide) ?_
  exact W.iret (v := (-1)) hx hb hr (fun t ht hW => ⟨⟨(-1), (), rfl, rfl, trivial⟩, hS.F ht⟩) hS.2.2 dX7_legal_35

def wk_k_at : List Cond := .code yX7_at cX7_at 7 (some .int) :: ([.methodLink RX7 133 yX7_planOf, .instanceMethod yX7_planOf, .selects RX7 yX7_planOf yX7_planOf, .initialized RX7, .code yX7_planOf cX7_planOf 3 (some (.object "FlightDesk$Plan")), .fieldLink RX7 40 "FlightDesk" "flight" "LFlightDesk$Flight;", .fieldLink RX7 75 "FlightDesk$Flight" "isSet" "Z"] ++ wsX70 ++ wsX10)
theorem iw_k_at_7 : ∀ w ∈ wsX70, w ∈ wk_k_at := fun _ h => List.mem_cons_of_mem _ (List.mem_append_left _ (List.mem_append_right _ h))
theorem iw_k_at_1 : ∀ w ∈ wsX10, w ∈ wk_k_at := fun _ h => List.mem_cons_of_mem _ (List.mem_append_right _ h)
set_option maxRecDepth 20000 in
theorem gw_k_at_0 : GoodIn wk_k_at (wsV RX7 133 RX7 yX7_planOf wk_k_planOf) := goodIn_sub (by decide +kernel) (by decide +kernel)
set_option maxHeartbeats 4000000 in
set_option maxRecDepth 100000 in
theorem k_at (l : Launch) (D : va_G) (cI cB cP : ClassId) (sz : Nat) (h0 : Nat) (tp : Nat) (rd : Nat) (bk : Nat) (fl : Nat) (pl : Nat) (y1 : Int32) (y2 : Int32) (y3 : Int32) : Met l yX7_at wk_k_at ({ frames := 1, cells := 0, slots := 0, locals := 22 } : Room) (va_Pc [.ref h0, .int y1, .int y2, .int y3] (Pw D cI cB cP sz [(h0, .inr (7, [.ref tp, .ref rd, .ref bk, .ref fl, .ref pl])), (fl, .inr (1, [.ref bk, .int 0, .int 0, .int 0, .int 0, .int 0, .int 0]))])) (va_Qi (fun (r : Int32) (_ : Unit) => r = (-1)) (fun _ _ => True) (va_A [(h0, .inr (7, [.ref tp, .ref rd, .ref bk, .ref fl, .ref pl])), (fl, .inr (1, [.ref bk, .int 0, .int 0, .int 0, .int 0, .int 0, .int 0]))] sz)) 0 0 (va_A [(h0, .inr (7, [.ref tp, .ref rd, .ref bk, .ref fl, .ref pl])), (fl, .inr (1, [.ref bk, .int 0, .int 0, .int 0, .int 0, .int 0, .int 0]))] sz) := by
  refine Met.ofW (cc := cX7_at) (maxL := 7) (ret := (some .int)) (by decide) rfl ?_
  intro p e s m args below meth c s₁ B hml hv
  obtain ⟨rfl, hsz, hP, ⟨hK, hN⟩, hD0⟩ := hv
  have hx := B.exec
  have hb := B.bytes
  have hr := B.returns
  have hts := atoms_spec (ws := wk_k_at) B.pre
  have hown : s.vm.findClass RX7 = some m.cls := findClass_of_methodNamed B.named
  have hlocks := B.notSynchronized
  subst hsz
  have hD := hD0.self (sz := s.heap.size)
  generalize hAe : va_A [(h0, .inr (7, [.ref tp, .ref rd, .ref bk, .ref fl, .ref pl])), (fl, .inr (1, [.ref bk, .int 0, .int 0, .int 0, .int 0, .int 0, .int 0]))] s.heap.size = A at hD ⊢
  have hA : ∀ q : Nat, s.heap.size ≤ q → A q := fun q h => by rw [← hAe]; exact Or.inr h
  have hS : va_S A s.heap s.heap [] := va_S.rf
  have hP : va_P D vwCl [(h0, .inr (7, [.ref tp, .ref rd, .ref bk, .ref fl, .ref pl])), (fl, .inr (1, [.ref bk, .int 0, .int 0, .int 0, .int 0, .int 0, .int 0]))] s.heap := hP
  have hl := lv_entry ([.ref h0, .int y1, .int y2, .int y3]) (n := 7) (Nat.le_of_ble_eq_true rfl)
  rw [lg_entry_eq]
  generalize (lg_sl ([.ref h0, .int y1, .int y2, .int y3]) ++ List.replicate (7 - (lg_sl ([.ref h0, .int y1, .int y2, .int y3])).length) Slot.unset).toArray = ls at hl ⊢
  have hl : lv_has ls 7 [(0, .ref h0), (1, .int y1), (2, .int y2), (3, .int y3)] := hl
  refine lv_aload_n hx hb dX7_at_0 rfl (lv_at hl 0 rfl) ?_
  refine lv_iload_n hx hb dX7_at_1 rfl (lv_at hl 1 rfl) ?_
  have hPc := hP.sub (ws' := [(h0, .inr (7, [.ref tp, .ref rd, .ref bk, .ref fl, .ref pl])), (fl, .inr (1, [.ref bk, .int 0, .int 0, .int 0, .int 0, .int 0, .int 0]))]) [0, 1] rfl
  have hDc := hD.sub (ws' := [(h0, .inr (7, [.ref tp, .ref rd, .ref bk, .ref fl, .ref pl])), (fl, .inr (1, [.ref bk, .int 0, .int 0, .int 0, .int 0, .int 0, .int 0]))]) [0, 1] (by decide) rfl
  have hFc := va_free (wc := [(h0, .inr (7, [.ref tp, .ref rd, .ref bk, .ref fl, .ref pl])), (fl, .inr (1, [.ref bk, .int 0, .int 0, .int 0, .int 0, .int 0, .int 0]))]) hD hS hA [0, 1] rfl
  refine va_callq (va_runV (As := [.int y1]) (rest := []) ⟨hx, hb, hml, hown, hts⟩ (k_planOf l D cI cB cP s.heap.size h0 tp rd bk fl pl y1) (cwV 1 hts gw_k_at_0 rfl rfl rfl (by decide +kernel) ⟨Nat.le_of_ble_eq_true rfl, Nat.le_of_ble_eq_true rfl⟩) ⟨ny_blind, va_recv hK hPc (ci := 7) (q0 := 0) rfl rfl, ny_pre hPc hK hN hDc⟩ rfl rfl hl.1 rfl (lv_room (Nat.le_of_ble_eq_true rfl)) dX7_at_2 ⟨Nat.le_of_ble_eq_true rfl, Nat.le_of_ble_eq_true rfl⟩) hS (fun q _ h => hFc q h) hFc (fun r1 u t H locs ht hvm hw hB hz1 hk1 hS => ?_)
  obtain ⟨hP1, hD1⟩ := hB
  rw [ht] at hP1
  obtain ⟨hP, hD⟩ := va_join (wr := []) (w1 := [(h0, .inr (7, [.ref tp, .ref rd, .ref bk, .ref fl, .ref pl])), (fl, .inr (1, [.ref bk, .int 0, .int 0, .int 0, .int 0, .int 0, .int 0]))]) hP hD [0, 1] [] rfl rfl (by decide) (by decide) hk1 hFc hP1 hD1
  have hP : va_P D vwCl [(h0, .inr (7, [.ref tp, .ref rd, .ref bk, .ref fl, .ref pl])), (fl, .inr (1, [.ref bk, .int 0, .int 0, .int 0, .int 0, .int 0, .int 0]))] H := hP
  have hD : va_D A [(h0, .inr (7, [.ref tp, .ref rd, .ref bk, .ref fl, .ref pl])), (fl, .inr (1, [.ref bk, .int 0, .int 0, .int 0, .int 0, .int 0, .int 0]))] := hD
  subst hw
  refine W.eq (g2 := F0 m 5 ls [.null]) rfl ?_
  refine lv_astoreN (lv' := [(4, .null), (0, .ref h0), (1, .int y1), (2, .int y2), (3, .int y3)]) hx hb dX7_at_5 hl (by decide) rfl (fun ls hl => ?_)
  refine lv_aloadN hx hb dX7_at_7 (lv_at hl 0 rfl) ?_
  refine lv_ifnullN (tgt := 37) hx hb dX7_at_9 (by decide) ?_
  refine lv_iconst (v := (-1)) hx hb dX7_at_37 (by decide) ?_
  refine W.widen (k := 0) (n := 0) (by decide) (by decide) ?_
  exact W.iret (v := (-1)) hx hb hr (fun t ht hW => ⟨⟨(-1), (), rfl, rfl, trivial⟩, hS.F ht⟩) hS.2.2 dX7_at_38

def wk_k_home : List Cond := .code yX7_home cX7_home 5 (some .int) :: ([.methodLink RX7 133 yX7_planOf, .instanceMethod yX7_planOf, .selects RX7 yX7_planOf yX7_planOf, .initialized RX7, .code yX7_planOf cX7_planOf 3 (some (.object "FlightDesk$Plan")), .fieldLink RX7 40 "FlightDesk" "flight" "LFlightDesk$Flight;", .fieldLink RX7 75 "FlightDesk$Flight" "isSet" "Z"] ++ wsX70 ++ wsX10)
theorem iw_k_home_7 : ∀ w ∈ wsX70, w ∈ wk_k_home := fun _ h => List.mem_cons_of_mem _ (List.mem_append_left _ (List.mem_append_right _ h))
theorem iw_k_home_1 : ∀ w ∈ wsX10, w ∈ wk_k_home := fun _ h => List.mem_cons_of_mem _ (List.mem_append_right _ h)
set_option maxRecDepth 20000 in
theorem gw_k_home_0 : GoodIn wk_k_home (wsV RX7 133 RX7 yX7_planOf wk_k_planOf) := goodIn_sub (by decide +kernel) (by decide +kernel)
set_option maxHeartbeats 4000000 in
set_option maxRecDepth 100000 in
theorem k_home (l : Launch) (D : va_G) (cI cB cP : ClassId) (sz : Nat) (h0 : Nat) (tp : Nat) (rd : Nat) (bk : Nat) (fl : Nat) (pl : Nat) (y1 : Int32) (y2 : Int32) : Met l yX7_home wk_k_home ({ frames := 1, cells := 0, slots := 0, locals := 22 } : Room) (va_Pc [.ref h0, .int y1, .int y2] (Pw D cI cB cP sz [(h0, .inr (7, [.ref tp, .ref rd, .ref bk, .ref fl, .ref pl])), (fl, .inr (1, [.ref bk, .int 0, .int 0, .int 0, .int 0, .int 0, .int 0]))])) (va_Qi (fun (r : Int32) (_ : Unit) => r = (-1)) (fun _ _ => True) (va_A [(h0, .inr (7, [.ref tp, .ref rd, .ref bk, .ref fl, .ref pl])), (fl, .inr (1, [.ref bk, .int 0, .int 0, .int 0, .int 0, .int 0, .int 0]))] sz)) 0 0 (va_A [(h0, .inr (7, [.ref tp, .ref rd, .ref bk, .ref fl, .ref pl])), (fl, .inr (1, [.ref bk, .int 0, .int 0, .int 0, .int 0, .int 0, .int 0]))] sz) := by
  refine Met.ofW (cc := cX7_home) (maxL := 5) (ret := (some .int)) (by decide) rfl ?_
  intro p e s m args below meth c s₁ B hml hv
  obtain ⟨rfl, hsz, hP, ⟨hK, hN⟩, hD0⟩ := hv
  have hx := B.exec
  have hb := B.bytes
  have hr := B.returns
  have hts := atoms_spec (ws := wk_k_home) B.pre
  have hown : s.vm.findClass RX7 = some m.cls := findClass_of_methodNamed B.named
  have hlocks := B.notSynchronized
  subst hsz
  have hD := hD0.self (sz := s.heap.size)
  generalize hAe : va_A [(h0, .inr (7, [.ref tp, .ref rd, .ref bk, .ref fl, .ref pl])), (fl, .inr (1, [.ref bk, .int 0, .int 0, .int 0, .int 0, .int 0, .int 0]))] s.heap.size = A at hD ⊢
  have hA : ∀ q : Nat, s.heap.size ≤ q → A q := fun q h => by rw [← hAe]; exact Or.inr h
  have hS : va_S A s.heap s.heap [] := va_S.rf
  have hP : va_P D vwCl [(h0, .inr (7, [.ref tp, .ref rd, .ref bk, .ref fl, .ref pl])), (fl, .inr (1, [.ref bk, .int 0, .int 0, .int 0, .int 0, .int 0, .int 0]))] s.heap := hP
  have hl := lv_entry ([.ref h0, .int y1, .int y2]) (n := 5) (Nat.le_of_ble_eq_true rfl)
  rw [lg_entry_eq]
  generalize (lg_sl ([.ref h0, .int y1, .int y2]) ++ List.replicate (5 - (lg_sl ([.ref h0, .int y1, .int y2])).length) Slot.unset).toArray = ls at hl ⊢
  have hl : lv_has ls 5 [(0, .ref h0), (1, .int y1), (2, .int y2)] := hl
  refine lv_aload_n hx hb dX7_home_0 rfl (lv_at hl 0 rfl) ?_
  refine lv_iload_n hx hb dX7_home_1 rfl (lv_at hl 1 rfl) ?_
  have hPc := hP.sub (ws' := [(h0, .inr (7, [.ref tp, .ref rd, .ref bk, .ref fl, .ref pl])), (fl, .inr (1, [.ref bk, .int 0, .int 0, .int 0, .int 0, .int 0, .int 0]))]) [0, 1] rfl
  have hDc := hD.sub (ws' := [(h0, .inr (7, [.ref tp, .ref rd, .ref bk, .ref fl, .ref pl])), (fl, .inr (1, [.ref bk, .int 0, .int 0, .int 0, .int 0, .int 0, .int 0]))]) [0, 1] (by decide) rfl
  have hFc := va_free (wc := [(h0, .inr (7, [.ref tp, .ref rd, .ref bk, .ref fl, .ref pl])), (fl, .inr (1, [.ref bk, .int 0, .int 0, .int 0, .int 0, .int 0, .int 0]))]) hD hS hA [0, 1] rfl
  refine va_callq (va_runV (As := [.int y1]) (rest := []) ⟨hx, hb, hml, hown, hts⟩ (k_planOf l D cI cB cP s.heap.size h0 tp rd bk fl pl y1) (cwV 1 hts gw_k_home_0 rfl rfl rfl (by decide +kernel) ⟨Nat.le_of_ble_eq_true rfl, Nat.le_of_ble_eq_true rfl⟩) ⟨ny_blind, va_recv hK hPc (ci := 7) (q0 := 0) rfl rfl, ny_pre hPc hK hN hDc⟩ rfl rfl hl.1 rfl (lv_room (Nat.le_of_ble_eq_true rfl)) dX7_home_2 ⟨Nat.le_of_ble_eq_true rfl, Nat.le_of_ble_eq_true rfl⟩) hS (fun q _ h => hFc q h) hFc (fun r1 u t H locs ht hvm hw hB hz1 hk1 hS => ?_)
  obtain ⟨hP1, hD1⟩ := hB
  rw [ht] at hP1
  obtain ⟨hP, hD⟩ := va_join (wr := []) (w1 := [(h0, .inr (7, [.ref tp, .ref rd, .ref bk, .ref fl, .ref pl])), (fl, .inr (1, [.ref bk, .int 0, .int 0, .int 0, .int 0, .int 0, .int 0]))]) hP hD [0, 1] [] rfl rfl (by decide) (by decide) hk1 hFc hP1 hD1
  have hP : va_P D vwCl [(h0, .inr (7, [.ref tp, .ref rd, .ref bk, .ref fl, .ref pl])), (fl, .inr (1, [.ref bk, .int 0, .int 0, .int 0, .int 0, .int 0, .int 0]))] H := hP
  have hD : va_D A [(h0, .inr (7, [.ref tp, .ref rd, .ref bk, .ref fl, .ref pl])), (fl, .inr (1, [.ref bk, .int 0, .int 0, .int 0, .int 0, .int 0, .int 0]))] := hD
  subst hw
  refine W.eq (g2 := F0 m 5 ls [.null]) rfl ?_
  refine lv_astore_nN (lv' := [(3, .null), (0, .ref h0), (1, .int y1), (2, .int y2)]) hx hb dX7_home_5 rfl hl (by decide) rfl (fun ls hl => ?_)
  refine lv_aload_nN hx hb dX7_home_6 rfl (lv_at hl 0 rfl) ?_
  refine lv_ifnullN (tgt := 25) hx hb dX7_home_7 (by decide) ?_
  refine lv_iconst (v := (-1)) hx hb dX7_home_25 (by decide) ?_
  refine W.widen (k := 0) (n := 0) (by decide) (by decide) ?_
  exact W.iret (v := (-1)) hx hb hr (fun t ht hW => ⟨⟨(-1), (), rfl, rfl, trivial⟩, hS.F ht⟩) hS.2.2 dX7_home_26

def wk_k_lastReturn : List Cond := .code yX7_lastReturn cX7_lastReturn 7 (some .int) :: ([.methodLink RX7 133 yX7_planOf, .instanceMethod yX7_planOf, .selects RX7 yX7_planOf yX7_planOf, .initialized RX7, .code yX7_planOf cX7_planOf 3 (some (.object "FlightDesk$Plan")), .fieldLink RX7 40 "FlightDesk" "flight" "LFlightDesk$Flight;", .fieldLink RX7 75 "FlightDesk$Flight" "isSet" "Z"] ++ wsX70 ++ wsX10)
theorem iw_k_lastReturn_7 : ∀ w ∈ wsX70, w ∈ wk_k_lastReturn := fun _ h => List.mem_cons_of_mem _ (List.mem_append_left _ (List.mem_append_right _ h))
theorem iw_k_lastReturn_1 : ∀ w ∈ wsX10, w ∈ wk_k_lastReturn := fun _ h => List.mem_cons_of_mem _ (List.mem_append_right _ h)
set_option maxRecDepth 20000 in
theorem gw_k_lastReturn_0 : GoodIn wk_k_lastReturn (wsV RX7 133 RX7 yX7_planOf wk_k_planOf) := goodIn_sub (by decide +kernel) (by decide +kernel)
set_option maxHeartbeats 4000000 in
set_option maxRecDepth 100000 in
theorem k_lastReturn (l : Launch) (D : va_G) (cI cB cP : ClassId) (sz : Nat) (h0 : Nat) (tp : Nat) (rd : Nat) (bk : Nat) (fl : Nat) (pl : Nat) (y1 : Int32) (y2 : Int32) : Met l yX7_lastReturn wk_k_lastReturn ({ frames := 1, cells := 0, slots := 0, locals := 22 } : Room) (va_Pc [.ref h0, .int y1, .int y2] (Pw D cI cB cP sz [(h0, .inr (7, [.ref tp, .ref rd, .ref bk, .ref fl, .ref pl])), (fl, .inr (1, [.ref bk, .int 0, .int 0, .int 0, .int 0, .int 0, .int 0]))])) (va_Qi (fun (r : Int32) (_ : Unit) => r = (-1)) (fun _ _ => True) (va_A [(h0, .inr (7, [.ref tp, .ref rd, .ref bk, .ref fl, .ref pl])), (fl, .inr (1, [.ref bk, .int 0, .int 0, .int 0, .int 0, .int 0, .int 0]))] sz)) 0 0 (va_A [(h0, .inr (7, [.ref tp, .ref rd, .ref bk, .ref fl, .ref pl])), (fl, .inr (1, [.ref bk, .int 0, .int 0, .int 0, .int 0, .int 0, .int 0]))] sz) := by
  refine Met.ofW (cc := cX7_lastReturn) (maxL := 7) (ret := (some .int)) (by decide) rfl ?_
  intro p e s m args below meth c s₁ B hml hv
  obtain ⟨rfl, hsz, hP, ⟨hK, hN⟩, hD0⟩ := hv
  have hx := B.exec
  have hb := B.bytes
  have hr := B.returns
  have hts := atoms_spec (ws := wk_k_lastReturn) B.pre
  have hown : s.vm.findClass RX7 = some m.cls := findClass_of_methodNamed B.named
  have hlocks := B.notSynchronized
  subst hsz
  have hD := hD0.self (sz := s.heap.size)
  generalize hAe : va_A [(h0, .inr (7, [.ref tp, .ref rd, .ref bk, .ref fl, .ref pl])), (fl, .inr (1, [.ref bk, .int 0, .int 0, .int 0, .int 0, .int 0, .int 0]))] s.heap.size = A at hD ⊢
  have hA : ∀ q : Nat, s.heap.size ≤ q → A q := fun q h => by rw [← hAe]; exact Or.inr h
  have hS : va_S A s.heap s.heap [] := va_S.rf
  have hP : va_P D vwCl [(h0, .inr (7, [.ref tp, .ref rd, .ref bk, .ref fl, .ref pl])), (fl, .inr (1, [.ref bk, .int 0, .int 0, .int 0, .int 0, .int 0, .int 0]))] s.heap := hP
  have hl := lv_entry ([.ref h0, .int y1, .int y2]) (n := 7) (Nat.le_of_ble_eq_true rfl)
  rw [lg_entry_eq]
  generalize (lg_sl ([.ref h0, .int y1, .int y2]) ++ List.replicate (7 - (lg_sl ([.ref h0, .int y1, .int y2])).length) Slot.unset).toArray = ls at hl ⊢
  have hl : lv_has ls 7 [(0, .ref h0), (1, .int y1), (2, .int y2)] := hl
  refine lv_aload_n hx hb dX7_lastReturn_0 rfl (lv_at hl 0 rfl) ?_
  refine lv_iload_n hx hb dX7_lastReturn_1 rfl (lv_at hl 1 rfl) ?_
  have hPc := hP.sub (ws' := [(h0, .inr (7, [.ref tp, .ref rd, .ref bk, .ref fl, .ref pl])), (fl, .inr (1, [.ref bk, .int 0, .int 0, .int 0, .int 0, .int 0, .int 0]))]) [0, 1] rfl
  have hDc := hD.sub (ws' := [(h0, .inr (7, [.ref tp, .ref rd, .ref bk, .ref fl, .ref pl])), (fl, .inr (1, [.ref bk, .int 0, .int 0, .int 0, .int 0, .int 0, .int 0]))]) [0, 1] (by decide) rfl
  have hFc := va_free (wc := [(h0, .inr (7, [.ref tp, .ref rd, .ref bk, .ref fl, .ref pl])), (fl, .inr (1, [.ref bk, .int 0, .int 0, .int 0, .int 0, .int 0, .int 0]))]) hD hS hA [0, 1] rfl
  refine va_callq (va_runV (As := [.int y1]) (rest := []) ⟨hx, hb, hml, hown, hts⟩ (k_planOf l D cI cB cP s.heap.size h0 tp rd bk fl pl y1) (cwV 1 hts gw_k_lastReturn_0 rfl rfl rfl (by decide +kernel) ⟨Nat.le_of_ble_eq_true rfl, Nat.le_of_ble_eq_true rfl⟩) ⟨ny_blind, va_recv hK hPc (ci := 7) (q0 := 0) rfl rfl, ny_pre hPc hK hN hDc⟩ rfl rfl hl.1 rfl (lv_room (Nat.le_of_ble_eq_true rfl)) dX7_lastReturn_2 ⟨Nat.le_of_ble_eq_true rfl, Nat.le_of_ble_eq_true rfl⟩) hS (fun q _ h => hFc q h) hFc (fun r1 u t H locs ht hvm hw hB hz1 hk1 hS => ?_)
  obtain ⟨hP1, hD1⟩ := hB
  rw [ht] at hP1
  obtain ⟨hP, hD⟩ := va_join (wr := []) (w1 := [(h0, .inr (7, [.ref tp, .ref rd, .ref bk, .ref fl, .ref pl])), (fl, .inr (1, [.ref bk, .int 0, .int 0, .int 0, .int 0, .int 0, .int 0]))]) hP hD [0, 1] [] rfl rfl (by decide) (by decide) hk1 hFc hP1 hD1
  have hP : va_P D vwCl [(h0, .inr (7, [.ref tp, .ref rd, .ref bk, .ref fl, .ref pl])), (fl, .inr (1, [.ref bk, .int 0, .int 0, .int 0, .int 0, .int 0, .int 0]))] H := hP
  have hD : va_D A [(h0, .inr (7, [.ref tp, .ref rd, .ref bk, .ref fl, .ref pl])), (fl, .inr (1, [.ref bk, .int 0, .int 0, .int 0, .int 0, .int 0, .int 0]))] := hD
  subst hw
  refine W.eq (g2 := F0 m 5 ls [.null]) rfl ?_
  refine lv_astore_nN (lv' := [(3, .null), (0, .ref h0), (1, .int y1), (2, .int y2)]) hx hb dX7_lastReturn_5 rfl hl (by decide) rfl (fun ls hl => ?_)
  refine lv_aload_nN hx hb dX7_lastReturn_6 rfl (lv_at hl 0 rfl) ?_
  refine lv_ifnullN (tgt := 18) hx hb dX7_lastReturn_7 (by decide) ?_
  refine lv_iconst (v := (-1)) hx hb dX7_lastReturn_18 (by decide) ?_
  refine W.widen (k := 0) (n := 0) (by decide) (by decide) ?_
  exact W.iret (v := (-1)) hx hb hr (fun t ht hW => ⟨⟨(-1), (), rfl, rfl, trivial⟩, hS.F ht⟩) hS.2.2 dX7_lastReturn_19

def wk_k_carry : List Cond := .code yX7_carry cX7_carry 5 (some .int) :: ([.methodLink RX7 133 yX7_planOf, .instanceMethod yX7_planOf, .selects RX7 yX7_planOf yX7_planOf, .initialized RX7, .code yX7_planOf cX7_planOf 3 (some (.object "FlightDesk$Plan")), .fieldLink RX7 40 "FlightDesk" "flight" "LFlightDesk$Flight;", .fieldLink RX7 75 "FlightDesk$Flight" "isSet" "Z"] ++ wsX70 ++ wsX10)
theorem iw_k_carry_7 : ∀ w ∈ wsX70, w ∈ wk_k_carry := fun _ h => List.mem_cons_of_mem _ (List.mem_append_left _ (List.mem_append_right _ h))
theorem iw_k_carry_1 : ∀ w ∈ wsX10, w ∈ wk_k_carry := fun _ h => List.mem_cons_of_mem _ (List.mem_append_right _ h)
set_option maxRecDepth 20000 in
theorem gw_k_carry_0 : GoodIn wk_k_carry (wsV RX7 133 RX7 yX7_planOf wk_k_planOf) := goodIn_sub (by decide +kernel) (by decide +kernel)
set_option maxHeartbeats 4000000 in
set_option maxRecDepth 100000 in
theorem k_carry (l : Launch) (D : va_G) (cI cB cP : ClassId) (sz : Nat) (h0 : Nat) (tp : Nat) (rd : Nat) (bk : Nat) (fl : Nat) (pl : Nat) (y1 : Int32) (y2 : Int32) (y3 : Int32) : Met l yX7_carry wk_k_carry ({ frames := 1, cells := 0, slots := 0, locals := 22 } : Room) (va_Pc [.ref h0, .int y1, .int y2, .int y3] (Pw D cI cB cP sz [(h0, .inr (7, [.ref tp, .ref rd, .ref bk, .ref fl, .ref pl])), (fl, .inr (1, [.ref bk, .int 0, .int 0, .int 0, .int 0, .int 0, .int 0]))])) (va_Qi (fun (r : Int32) (_ : Unit) => r = (-1)) (fun _ _ => True) (va_A [(h0, .inr (7, [.ref tp, .ref rd, .ref bk, .ref fl, .ref pl])), (fl, .inr (1, [.ref bk, .int 0, .int 0, .int 0, .int 0, .int 0, .int 0]))] sz)) 0 0 (va_A [(h0, .inr (7, [.ref tp, .ref rd, .ref bk, .ref fl, .ref pl])), (fl, .inr (1, [.ref bk, .int 0, .int 0, .int 0, .int 0, .int 0, .int 0]))] sz) := by
  refine Met.ofW (cc := cX7_carry) (maxL := 5) (ret := (some .int)) (by decide) rfl ?_
  intro p e s m args below meth c s₁ B hml hv
  obtain ⟨rfl, hsz, hP, ⟨hK, hN⟩, hD0⟩ := hv
  have hx := B.exec
  have hb := B.bytes
  have hr := B.returns
  have hts := atoms_spec (ws := wk_k_carry) B.pre
  have hown : s.vm.findClass RX7 = some m.cls := findClass_of_methodNamed B.named
  have hlocks := B.notSynchronized
  subst hsz
  have hD := hD0.self (sz := s.heap.size)
  generalize hAe : va_A [(h0, .inr (7, [.ref tp, .ref rd, .ref bk, .ref fl, .ref pl])), (fl, .inr (1, [.ref bk, .int 0, .int 0, .int 0, .int 0, .int 0, .int 0]))] s.heap.size = A at hD ⊢
  have hA : ∀ q : Nat, s.heap.size ≤ q → A q := fun q h => by rw [← hAe]; exact Or.inr h
  have hS : va_S A s.heap s.heap [] := va_S.rf
  have hP : va_P D vwCl [(h0, .inr (7, [.ref tp, .ref rd, .ref bk, .ref fl, .ref pl])), (fl, .inr (1, [.ref bk, .int 0, .int 0, .int 0, .int 0, .int 0, .int 0]))] s.heap := hP
  have hl := lv_entry ([.ref h0, .int y1, .int y2, .int y3]) (n := 5) (Nat.le_of_ble_eq_true rfl)
  rw [lg_entry_eq]
  generalize (lg_sl ([.ref h0, .int y1, .int y2, .int y3]) ++ List.replicate (5 - (lg_sl ([.ref h0, .int y1, .int y2, .int y3])).length) Slot.unset).toArray = ls at hl ⊢
  have hl : lv_has ls 5 [(0, .ref h0), (1, .int y1), (2, .int y2), (3, .int y3)] := hl
  refine lv_aload_n hx hb dX7_carry_0 rfl (lv_at hl 0 rfl) ?_
  refine lv_iload_n hx hb dX7_carry_1 rfl (lv_at hl 1 rfl) ?_
  have hPc := hP.sub (ws' := [(h0, .inr (7, [.ref tp, .ref rd, .ref bk, .ref fl, .ref pl])), (fl, .inr (1, [.ref bk, .int 0, .int 0, .int 0, .int 0, .int 0, .int 0]))]) [0, 1] rfl
  have hDc := hD.sub (ws' := [(h0, .inr (7, [.ref tp, .ref rd, .ref bk, .ref fl, .ref pl])), (fl, .inr (1, [.ref bk, .int 0, .int 0, .int 0, .int 0, .int 0, .int 0]))]) [0, 1] (by decide) rfl
  have hFc := va_free (wc := [(h0, .inr (7, [.ref tp, .ref rd, .ref bk, .ref fl, .ref pl])), (fl, .inr (1, [.ref bk, .int 0, .int 0, .int 0, .int 0, .int 0, .int 0]))]) hD hS hA [0, 1] rfl
  refine va_callq (va_runV (As := [.int y1]) (rest := []) ⟨hx, hb, hml, hown, hts⟩ (k_planOf l D cI cB cP s.heap.size h0 tp rd bk fl pl y1) (cwV 1 hts gw_k_carry_0 rfl rfl rfl (by decide +kernel) ⟨Nat.le_of_ble_eq_true rfl, Nat.le_of_ble_eq_true rfl⟩) ⟨ny_blind, va_recv hK hPc (ci := 7) (q0 := 0) rfl rfl, ny_pre hPc hK hN hDc⟩ rfl rfl hl.1 rfl (lv_room (Nat.le_of_ble_eq_true rfl)) dX7_carry_2 ⟨Nat.le_of_ble_eq_true rfl, Nat.le_of_ble_eq_true rfl⟩) hS (fun q _ h => hFc q h) hFc (fun r1 u t H locs ht hvm hw hB hz1 hk1 hS => ?_)
  obtain ⟨hP1, hD1⟩ := hB
  rw [ht] at hP1
  obtain ⟨hP, hD⟩ := va_join (wr := []) (w1 := [(h0, .inr (7, [.ref tp, .ref rd, .ref bk, .ref fl, .ref pl])), (fl, .inr (1, [.ref bk, .int 0, .int 0, .int 0, .int 0, .int 0, .int 0]))]) hP hD [0, 1] [] rfl rfl (by decide) (by decide) hk1 hFc hP1 hD1
  have hP : va_P D vwCl [(h0, .inr (7, [.ref tp, .ref rd, .ref bk, .ref fl, .ref pl])), (fl, .inr (1, [.ref bk, .int 0, .int 0, .int 0, .int 0, .int 0, .int 0]))] H := hP
  have hD : va_D A [(h0, .inr (7, [.ref tp, .ref rd, .ref bk, .ref fl, .ref pl])), (fl, .inr (1, [.ref bk, .int 0, .int 0, .int 0, .int 0, .int 0, .int 0]))] := hD
  subst hw
  refine W.eq (g2 := F0 m 5 ls [.null]) rfl ?_
  refine lv_astoreN (lv' := [(4, .null), (0, .ref h0), (1, .int y1), (2, .int y2), (3, .int y3)]) hx hb dX7_carry_5 hl (by decide) rfl (fun ls hl => ?_)
  refine lv_aloadN hx hb dX7_carry_7 (lv_at hl 0 rfl) ?_
  refine lv_ifnullN (tgt := 32) hx hb dX7_carry_9 (by decide) ?_
  refine lv_iconst (v := (-1)) hx hb dX7_carry_32 (by decide) ?_
  refine W.widen (k := 0) (n := 0) (by decide) (by decide) ?_
  exact W.iret (v := (-1)) hx hb hr (fun t ht hW => ⟨⟨(-1), (), rfl, rfl, trivial⟩, hS.F ht⟩) hS.2.2 dX7_carry_33

def wk_k_borne : List Cond := .code yX7_borne cX7_borne 5 (some .int) :: ([.methodLink RX7 133 yX7_planOf, .instanceMethod yX7_planOf, .selects RX7 yX7_planOf yX7_planOf, .initialized RX7, .code yX7_planOf cX7_planOf 3 (some (.object "FlightDesk$Plan")), .fieldLink RX7 40 "FlightDesk" "flight" "LFlightDesk$Flight;", .fieldLink RX7 75 "FlightDesk$Flight" "isSet" "Z"] ++ wsX70 ++ wsX10)
theorem iw_k_borne_7 : ∀ w ∈ wsX70, w ∈ wk_k_borne := fun _ h => List.mem_cons_of_mem _ (List.mem_append_left _ (List.mem_append_right _ h))
theorem iw_k_borne_1 : ∀ w ∈ wsX10, w ∈ wk_k_borne := fun _ h => List.mem_cons_of_mem _ (List.mem_append_right _ h)
set_option maxRecDepth 20000 in
theorem gw_k_borne_0 : GoodIn wk_k_borne (wsV RX7 133 RX7 yX7_planOf wk_k_planOf) := goodIn_sub (by decide +kernel) (by decide +kernel)
set_option maxHeartbeats 4000000 in
set_option maxRecDepth 100000 in
theorem k_borne (l : Launch) (D : va_G) (cI cB cP : ClassId) (sz : Nat) (h0 : Nat) (tp : Nat) (rd : Nat) (bk : Nat) (fl : Nat) (pl : Nat) (y1 : Int32) : Met l yX7_borne wk_k_borne ({ frames := 1, cells := 0, slots := 0, locals := 22 } : Room) (va_Pc [.ref h0, .int y1] (Pw D cI cB cP sz [(h0, .inr (7, [.ref tp, .ref rd, .ref bk, .ref fl, .ref pl])), (fl, .inr (1, [.ref bk, .int 0, .int 0, .int 0, .int 0, .int 0, .int 0]))])) (va_Qi (fun (r : Int32) (_ : Unit) => r = (-1)) (fun _ _ => True) (va_A [(h0, .inr (7, [.ref tp, .ref rd, .ref bk, .ref fl, .ref pl])), (fl, .inr (1, [.ref bk, .int 0, .int 0, .int 0, .int 0, .int 0, .int 0]))] sz)) 0 0 (va_A [(h0, .inr (7, [.ref tp, .ref rd, .ref bk, .ref fl, .ref pl])), (fl, .inr (1, [.ref bk, .int 0, .int 0, .int 0, .int 0, .int 0, .int 0]))] sz) := by
  refine Met.ofW (cc := cX7_borne) (maxL := 5) (ret := (some .int)) (by decide) rfl ?_
  intro p e s m args below meth c s₁ B hml hv
  obtain ⟨rfl, hsz, hP, ⟨hK, hN⟩, hD0⟩ := hv
  have hx := B.exec
  have hb := B.bytes
  have hr := B.returns
  have hts := atoms_spec (ws := wk_k_borne) B.pre
  have hown : s.vm.findClass RX7 = some m.cls := findClass_of_methodNamed B.named
  have hlocks := B.notSynchronized
  subst hsz
  have hD := hD0.self (sz := s.heap.size)
  generalize hAe : va_A [(h0, .inr (7, [.ref tp, .ref rd, .ref bk, .ref fl, .ref pl])), (fl, .inr (1, [.ref bk, .int 0, .int 0, .int 0, .int 0, .int 0, .int 0]))] s.heap.size = A at hD ⊢
  have hA : ∀ q : Nat, s.heap.size ≤ q → A q := fun q h => by rw [← hAe]; exact Or.inr h
  have hS : va_S A s.heap s.heap [] := va_S.rf
  have hP : va_P D vwCl [(h0, .inr (7, [.ref tp, .ref rd, .ref bk, .ref fl, .ref pl])), (fl, .inr (1, [.ref bk, .int 0, .int 0, .int 0, .int 0, .int 0, .int 0]))] s.heap := hP
  have hl := lv_entry ([.ref h0, .int y1]) (n := 5) (Nat.le_of_ble_eq_true rfl)
  rw [lg_entry_eq]
  generalize (lg_sl ([.ref h0, .int y1]) ++ List.replicate (5 - (lg_sl ([.ref h0, .int y1])).length) Slot.unset).toArray = ls at hl ⊢
  have hl : lv_has ls 5 [(0, .ref h0), (1, .int y1)] := hl
  refine lv_iload_n hx hb dX7_borne_0 rfl (lv_at hl 1 rfl) ?_
  refine lv_iconst (v := 1) hx hb dX7_borne_1 (by decide) ?_
  refine lv_icmp_lt (tgt := 10) hx hb dX7_borne_2 (by decide) (fun c1 => ?_) (fun c1 => ?_)
  · refine lv_iconst (v := (-1)) hx hb dX7_borne_10 (by decide) ?_
    refine W.widen (k := 0) (n := 0) (by decide) (by decide) ?_
    exact W.iret (v := (-1)) hx hb hr (fun t ht hW => ⟨⟨(-1), (), rfl, rfl, trivial⟩, hS.F ht⟩) hS.2.2 dX7_borne_11
  · refine lv_iload_n hx hb dX7_borne_5 rfl (lv_at hl 1 rfl) ?_
    refine lv_iconst (v := 3) hx hb dX7_borne_6 (by decide) ?_
    refine lv_icmp_le (tgt := 12) hx hb dX7_borne_7 (by decide) (fun c2 => ?_) (fun c2 => ?_)
    · refine lv_iconst (v := 0) hx hb dX7_borne_12 (by decide) ?_
      refine lv_istore_n (lv' := [(2, .int 0), (0, .ref h0), (1, .int y1)]) hx hb dX7_borne_13 rfl hl (by decide) rfl (fun ls hl => ?_)
      refine lv_iload_n hx hb dX7_borne_14 rfl (lv_at hl 0 rfl) ?_
      refine lv_iload_n hx hb dX7_borne_15 rfl (lv_at hl 2 rfl) ?_
      refine lv_icmp_ge (tgt := 35) hx hb dX7_borne_16 (by decide) (fun h9 => (by exfalso; simp only [Int32.lt_iff_toInt_lt, Int32.le_iff_toInt_le, show (0 : Int32).toInt = 0 from rfl, show (1 : Int32).toInt = 1 from rfl] at h9 c1; omega)) (fun c3 => ?_)
      refine lv_aload_n hx hb dX7_borne_19 rfl (lv_at hl 1 rfl) ?_
      refine lv_iload_n hx hb dX7_borne_20 rfl (lv_at hl 0 rfl) ?_
      have hPc := hP.sub (ws' := [(h0, .inr (7, [.ref tp, .ref rd, .ref bk, .ref fl, .ref pl])), (fl, .inr (1, [.ref bk, .int 0, .int 0, .int 0, .int 0, .int 0, .int 0]))]) [0, 1] rfl
      have hDc := hD.sub (ws' := [(h0, .inr (7, [.ref tp, .ref rd, .ref bk, .ref fl, .ref pl])), (fl, .inr (1, [.ref bk, .int 0, .int 0, .int 0, .int 0, .int 0, .int 0]))]) [0, 1] (by decide) rfl
      have hFc := va_free (wc := [(h0, .inr (7, [.ref tp, .ref rd, .ref bk, .ref fl, .ref pl])), (fl, .inr (1, [.ref bk, .int 0, .int 0, .int 0, .int 0, .int 0, .int 0]))]) hD hS hA [0, 1] rfl
      refine va_callq (va_runV (As := [.int 0]) (rest := []) ⟨hx, hb, hml, hown, hts⟩ (k_planOf l D cI cB cP s.heap.size h0 tp rd bk fl pl 0) (cwV 1 hts gw_k_borne_0 rfl rfl rfl (by decide +kernel) ⟨Nat.le_of_ble_eq_true rfl, Nat.le_of_ble_eq_true rfl⟩) ⟨ny_blind, va_recv hK hPc (ci := 7) (q0 := 0) rfl rfl, ny_pre hPc hK hN hDc⟩ rfl rfl hl.1 rfl (lv_room (Nat.le_of_ble_eq_true rfl)) dX7_borne_21 ⟨Nat.le_of_ble_eq_true rfl, Nat.le_of_ble_eq_true rfl⟩) hS (fun q _ h => hFc q h) hFc (fun r4 u t H locs ht hvm hw hB hz1 hk1 hS => ?_)
      obtain ⟨hP1, hD1⟩ := hB
      rw [ht] at hP1
      obtain ⟨hP, hD⟩ := va_join (wr := []) (w1 := [(h0, .inr (7, [.ref tp, .ref rd, .ref bk, .ref fl, .ref pl])), (fl, .inr (1, [.ref bk, .int 0, .int 0, .int 0, .int 0, .int 0, .int 0]))]) hP hD [0, 1] [] rfl rfl (by decide) (by decide) hk1 hFc hP1 hD1
      have hP : va_P D vwCl [(h0, .inr (7, [.ref tp, .ref rd, .ref bk, .ref fl, .ref pl])), (fl, .inr (1, [.ref bk, .int 0, .int 0, .int 0, .int 0, .int 0, .int 0]))] H := hP
      have hD : va_D A [(h0, .inr (7, [.ref tp, .ref rd, .ref bk, .ref fl, .ref pl])), (fl, .inr (1, [.ref bk, .int 0, .int 0, .int 0, .int 0, .int 0, .int 0]))] := hD
      subst hw
      refine W.eq (g2 := F0 m 24 ls [.null]) rfl ?_
      refine lv_ifnonnullN hx hb dX7_borne_24 ?_
      refine lv_iconst (v := (-1)) hx hb dX7_borne_27 (by decide) ?_
      refine W.widen (k := 0) (n := 0) (by decide) (by decide) ?_
      exact W.iret (v := (-1)) hx hb hr (fun t ht hW => ⟨⟨(-1), (), rfl, rfl, trivial⟩, hS.F ht⟩) hS.2.2 dX7_borne_28
    · refine lv_iconst (v := (-1)) hx hb dX7_borne_10 (by decide) ?_
      refine W.widen (k := 0) (n := 0) (by decide) (by decide) ?_
      exact W.iret (v := (-1)) hx hb hr (fun t ht hW => ⟨⟨(-1), (), rfl, rfl, trivial⟩, hS.F ht⟩) hS.2.2 dX7_borne_11

def wk_k_about : List Cond := .code yX7_about cX7_about 2 (some .int) :: ([.fieldLink RX7 28 "FlightDesk" "book" "LFlightDesk$Book;", .fieldLink RX7 82 "FlightDesk$Book" "legCount" "I", .fieldLink RX7 185 "FlightDesk$Book" "lineCount" "I", .fieldLink RX7 40 "FlightDesk" "flight" "LFlightDesk$Flight;", .fieldLink RX7 75 "FlightDesk$Flight" "isSet" "Z", .fieldLink RX7 12 "FlightDesk" "tape" "LFlightDesk$Tape;", .fieldLink RX7 61 "FlightDesk$Tape" "length" "I"] ++ wsX70 ++ wsX00 ++ wsX10 ++ wsX50)
theorem iw_k_about_7 : ∀ w ∈ wsX70, w ∈ wk_k_about := fun _ h => List.mem_cons_of_mem _ (List.mem_append_left _ (List.mem_append_left _ (List.mem_append_left _ (List.mem_append_right _ h))))
theorem iw_k_about_0 : ∀ w ∈ wsX00, w ∈ wk_k_about := fun _ h => List.mem_cons_of_mem _ (List.mem_append_left _ (List.mem_append_left _ (List.mem_append_right _ h)))
theorem iw_k_about_1 : ∀ w ∈ wsX10, w ∈ wk_k_about := fun _ h => List.mem_cons_of_mem _ (List.mem_append_left _ (List.mem_append_right _ h))
theorem iw_k_about_5 : ∀ w ∈ wsX50, w ∈ wk_k_about := fun _ h => List.mem_cons_of_mem _ (List.mem_append_right _ h)
set_option maxHeartbeats 4000000 in
set_option maxRecDepth 100000 in
theorem k_about (l : Launch) (D : va_G) (cI cB cP : ClassId) (sz : Nat) (h0 : Nat) (tp : Nat) (rd : Nat) (bk : Nat) (fl : Nat) (pl : Nat) (yb : Nat) (a2 : Nat) (a3 : Nat) (a4 : Nat) (a5 : Nat) (a6 : Nat) (a7 : Nat) (a8 : Nat) (a9 : Nat) (a10 : Nat) (a11 : Nat) (a12 : Nat) (a13 : Nat) (a14 : Nat) (y1 : Int32) : Met l yX7_about wk_k_about ({ frames := 0, cells := 0, slots := 0, locals := 0 } : Room) (va_Pc [.ref h0, .int y1] (Pw D cI cB cP sz [(h0, .inr (7, [.ref tp, .ref rd, .ref bk, .ref fl, .ref pl])), (tp, .inr (5, [.ref yb, .int 0])), (bk, .inr (0, [.int 0, .int 0, .ref a2, .ref a3, .ref a4, .ref a5, .ref a6, .ref a7, .ref a8, .ref a9, .ref a10, .ref a11, .ref a12, .ref a13, .ref a14])), (fl, .inr (1, [.ref bk, .int 0, .int 0, .int 0, .int 0, .int 0, .int 0]))])) (va_Qi (fun (r : Int32) (_ : Unit) => r = s_about y1) (fun _ _ => True) (va_A [(h0, .inr (7, [.ref tp, .ref rd, .ref bk, .ref fl, .ref pl])), (tp, .inr (5, [.ref yb, .int 0])), (bk, .inr (0, [.int 0, .int 0, .ref a2, .ref a3, .ref a4, .ref a5, .ref a6, .ref a7, .ref a8, .ref a9, .ref a10, .ref a11, .ref a12, .ref a13, .ref a14])), (fl, .inr (1, [.ref bk, .int 0, .int 0, .int 0, .int 0, .int 0, .int 0]))] sz)) 0 0 (va_A [(h0, .inr (7, [.ref tp, .ref rd, .ref bk, .ref fl, .ref pl])), (tp, .inr (5, [.ref yb, .int 0])), (bk, .inr (0, [.int 0, .int 0, .ref a2, .ref a3, .ref a4, .ref a5, .ref a6, .ref a7, .ref a8, .ref a9, .ref a10, .ref a11, .ref a12, .ref a13, .ref a14])), (fl, .inr (1, [.ref bk, .int 0, .int 0, .int 0, .int 0, .int 0, .int 0]))] sz) := by
  refine Met.ofW (cc := cX7_about) (maxL := 2) (ret := (some .int)) (by decide) rfl ?_
  intro p e s m args below meth c s₁ B hml hv
  obtain ⟨rfl, hsz, hP, ⟨hK, hN⟩, hD0⟩ := hv
  have hx := B.exec
  have hb := B.bytes
  have hr := B.returns
  have hts := atoms_spec (ws := wk_k_about) B.pre
  have hown : s.vm.findClass RX7 = some m.cls := findClass_of_methodNamed B.named
  have hlocks := B.notSynchronized
  subst hsz
  have hD := hD0.self (sz := s.heap.size)
  generalize hAe : va_A [(h0, .inr (7, [.ref tp, .ref rd, .ref bk, .ref fl, .ref pl])), (tp, .inr (5, [.ref yb, .int 0])), (bk, .inr (0, [.int 0, .int 0, .ref a2, .ref a3, .ref a4, .ref a5, .ref a6, .ref a7, .ref a8, .ref a9, .ref a10, .ref a11, .ref a12, .ref a13, .ref a14])), (fl, .inr (1, [.ref bk, .int 0, .int 0, .int 0, .int 0, .int 0, .int 0]))] s.heap.size = A at hD ⊢
  have hA : ∀ q : Nat, s.heap.size ≤ q → A q := fun q h => by rw [← hAe]; exact Or.inr h
  have hS : va_S A s.heap s.heap [] := va_S.rf
  have hP : va_P D vwCl [(h0, .inr (7, [.ref tp, .ref rd, .ref bk, .ref fl, .ref pl])), (tp, .inr (5, [.ref yb, .int 0])), (bk, .inr (0, [.int 0, .int 0, .ref a2, .ref a3, .ref a4, .ref a5, .ref a6, .ref a7, .ref a8, .ref a9, .ref a10, .ref a11, .ref a12, .ref a13, .ref a14])), (fl, .inr (1, [.ref bk, .int 0, .int 0, .int 0, .int 0, .int 0, .int 0]))] s.heap := hP
  have hl := lv_entry ([.ref h0, .int y1]) (n := 2) (Nat.le_of_ble_eq_true rfl)
  rw [lg_entry_eq]
  generalize (lg_sl ([.ref h0, .int y1]) ++ List.replicate (2 - (lg_sl ([.ref h0, .int y1])).length) Slot.unset).toArray = ls at hl ⊢
  have hl : lv_has ls 2 [(0, .ref h0), (1, .int y1)] := hl
  refine lv_iload_n hx hb dX7_about_0 rfl (lv_at hl 1 rfl) ?_
  rcases sw_4 y1 with rfl | rfl | rfl | rfl | h9
  · refine lv_tableIn (off := 31) (tgt := 32) hx hb dX7_about_1 (by decide) (by decide) (by decide) (by decide) ?_
    refine lv_aload_n hx hb dX7_about_32 rfl (lv_at hl 0 rfl) ?_
    refine va_get (D := D) (ci := 7) (v := .ref bk) (C := RX7) (T := TX7) (N := 5) hx hb hts iw_k_about_7 hown hK hP 0 rfl rfl 2 (by decide) (hts (.fieldLink RX7 28 "FlightDesk" "book" "LFlightDesk$Book;") (by decide +kernel)) (fun _ h9 => h9) rfl dX7_about_33 ?_
    refine va_get (D := D) (ci := 0) (v := .int 0) (C := RX0) (T := TX0) (N := 15) hx hb hts iw_k_about_0 hown hK hP 2 rfl rfl 0 (by decide) (hts (.fieldLink RX7 82 "FlightDesk$Book" "legCount" "I") (by decide +kernel)) (fun _ h9 => h9) rfl dX7_about_36 ?_
    refine W.widen (k := 0) (n := 0) (by decide) (by decide) ?_
    exact W.iret (v := 0) hx hb hr (fun t ht hW => ⟨⟨0, (), rfl, (pick_t (by decide)).symm, trivial⟩, hS.F ht⟩) hS.2.2 dX7_about_39
  · refine lv_tableIn (off := 39) (tgt := 40) hx hb dX7_about_1 (by decide) (by decide) (by decide) (by decide) ?_
    refine lv_aload_n hx hb dX7_about_40 rfl (lv_at hl 0 rfl) ?_
    refine va_get (D := D) (ci := 7) (v := .ref bk) (C := RX7) (T := TX7) (N := 5) hx hb hts iw_k_about_7 hown hK hP 0 rfl rfl 2 (by decide) (hts (.fieldLink RX7 28 "FlightDesk" "book" "LFlightDesk$Book;") (by decide +kernel)) (fun _ h9 => h9) rfl dX7_about_41 ?_
    refine va_get (D := D) (ci := 0) (v := .int 0) (C := RX0) (T := TX0) (N := 15) hx hb hts iw_k_about_0 hown hK hP 2 rfl rfl 1 (by decide) (hts (.fieldLink RX7 185 "FlightDesk$Book" "lineCount" "I") (by decide +kernel)) (fun _ h9 => h9) rfl dX7_about_44 ?_
    refine W.widen (k := 0) (n := 0) (by decide) (by decide) ?_
    exact W.iret (v := 0) hx hb hr (fun t ht hW => ⟨⟨0, (), rfl, (pick_t (by decide)).symm, trivial⟩, hS.F ht⟩) hS.2.2 dX7_about_47
  · refine lv_tableIn (off := 47) (tgt := 48) hx hb dX7_about_1 (by decide) (by decide) (by decide) (by decide) ?_
    refine lv_aload_n hx hb dX7_about_48 rfl (lv_at hl 0 rfl) ?_
    refine va_get (D := D) (ci := 7) (v := .ref fl) (C := RX7) (T := TX7) (N := 5) hx hb hts iw_k_about_7 hown hK hP 0 rfl rfl 3 (by decide) (hts (.fieldLink RX7 40 "FlightDesk" "flight" "LFlightDesk$Flight;") (by decide +kernel)) (fun _ h9 => h9) rfl dX7_about_49 ?_
    refine va_get (D := D) (ci := 1) (v := .int 0) (C := RX1) (T := TX1) (N := 7) hx hb hts iw_k_about_1 hown hK hP 3 rfl rfl 1 (by decide) (hts (.fieldLink RX7 75 "FlightDesk$Flight" "isSet" "Z") (by decide +kernel)) (fun _ h9 => h9) rfl dX7_about_52 ?_
    refine lv_if_eq (tgt := 62) hx hb dX7_about_55 (by decide) (fun c1 => ?_) (fun h9 => (by first | exact absurd h9 (by decide) | exact absurd (by decide) h9))
    refine lv_iconst (v := 0) hx hb dX7_about_62 (by decide) ?_
    refine W.widen (k := 0) (n := 0) (by decide) (by decide) ?_
    exact W.iret (v := 0) hx hb hr (fun t ht hW => ⟨⟨0, (), rfl, (pick_t (by decide)).symm, trivial⟩, hS.F ht⟩) hS.2.2 dX7_about_63
  · refine lv_tableIn (off := 63) (tgt := 64) hx hb dX7_about_1 (by decide) (by decide) (by decide) (by decide) ?_
    refine lv_aload_n hx hb dX7_about_64 rfl (lv_at hl 0 rfl) ?_
    refine va_get (D := D) (ci := 7) (v := .ref tp) (C := RX7) (T := TX7) (N := 5) hx hb hts iw_k_about_7 hown hK hP 0 rfl rfl 0 (by decide) (hts (.fieldLink RX7 12 "FlightDesk" "tape" "LFlightDesk$Tape;") (by decide +kernel)) (fun _ h9 => h9) rfl dX7_about_65 ?_
    refine va_get (D := D) (ci := 5) (v := .int 0) (C := RX5) (T := TX5) (N := 2) hx hb hts iw_k_about_5 hown hK hP 1 rfl rfl 1 (by decide) (hts (.fieldLink RX7 61 "FlightDesk$Tape" "length" "I") (by decide +kernel)) (fun _ h9 => h9) rfl dX7_about_68 ?_
    refine W.widen (k := 0) (n := 0) (by decide) (by decide) ?_
    exact W.iret (v := 0) hx hb hr (fun t ht hW => ⟨⟨0, (), rfl, (pick_t (by decide)).symm, trivial⟩, hS.F ht⟩) hS.2.2 dX7_about_71
  · refine lv_tableOut (tgt := 72) hx hb dX7_about_1 h9 (by decide) ?_
    refine lv_iconst (v := (-1)) hx hb dX7_about_72 (by decide) ?_
    refine W.widen (k := 0) (n := 0) (by decide) (by decide) ?_
    exact W.iret (v := (-1)) hx hb hr (fun t ht hW => ⟨⟨(-1), (), rfl, (s_about9 h9).symm, trivial⟩, hS.F ht⟩) hS.2.2 dX7_about_73
