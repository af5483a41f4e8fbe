def wk_k_Flight : List Cond := .code yX1_init cX1_init 2 none :: ([.methodLink RX1 3 objectInit, .instanceMethod objectInit, .code objectInit ⟨#[0xb1]⟩ 1 none, .fieldLink RX1 9 "FlightDesk$Flight" "book" "LFlightDesk$Book;"] ++ wsX10)
theorem iw_k_Flight_1 : ∀ w ∈ wsX10, w ∈ wk_k_Flight := fun _ h => List.mem_cons_of_mem _ (List.mem_append_right _ h)
set_option maxHeartbeats 4000000 in
set_option maxRecDepth 100000 in
theorem k_Flight (l : Launch) (D : va_G) (cI cB cP : ClassId) (sz : Nat) (h0 : Nat) (b : Nat) : Met l yX1_init wk_k_Flight ({ frames := 1, cells := 0, slots := 0, locals := 12 } : Room) (va_Pc [.ref h0, .ref b] (Pw D cI cB cP sz [(h0, .inr (1, [.null, .int 0, .int 0, .int 0, .int 0, .int 0, .int 0]))])) (va_Qv (fun (_ : Unit) => True) (fun _ t => va_P D vwCl [(h0, .inr (1, [.ref b, .int 0, .int 0, .int 0, .int 0, .int 0, .int 0]))] t.heap ∧ va_D (va_A [(h0, .inr (1, [.null, .int 0, .int 0, .int 0, .int 0, .int 0, .int 0]))] sz) [(h0, .inr (1, [.ref b, .int 0, .int 0, .int 0, .int 0, .int 0, .int 0]))]) (va_A [(h0, .inr (1, [.null, .int 0, .int 0, .int 0, .int 0, .int 0, .int 0]))] sz)) 0 0 (va_A [(h0, .inr (1, [.null, .int 0, .int 0, .int 0, .int 0, .int 0, .int 0]))] sz) := by
  refine Met.ofW (cc := cX1_init) (maxL := 2) (ret := none) (by decide) rfl ?_
  intro p e s m args below meth c s₁ B hml hv
  obtain ⟨rfl, hsz, hP, ⟨hK, hN⟩, hD0⟩ := hv
  have hx := B.exec
  have hb := B.bytes
  have hr := B.returns
  have hts := atoms_spec (ws := wk_k_Flight) B.pre
  have hown : s.vm.findClass RX1 = some m.cls := findClass_of_methodNamed B.named
  have hlocks := B.notSynchronized
  have hin : meth.name = "<init>" := (name_of_methodNamed B.named B.method).1
  subst hsz
  have hD := hD0.self (sz := s.heap.size)
  generalize hAe : va_A [(h0, .inr (1, [.null, .int 0, .int 0, .int 0, .int 0, .int 0, .int 0]))] s.heap.size = A at hD ⊢
  have hA : ∀ q : Nat, s.heap.size ≤ q → A q := fun q h => by rw [← hAe]; exact Or.inr h
  have hS : va_S A s.heap s.heap [] := va_S.rf
  have hP : va_P D vwCl [(h0, .inr (1, [.null, .int 0, .int 0, .int 0, .int 0, .int 0, .int 0]))] s.heap := hP
  have hl := lv_entry ([.ref h0, .ref b]) (n := 2) (Nat.le_of_ble_eq_true rfl)
  rw [lg_entry_eq]
  generalize (lg_sl ([.ref h0, .ref b]) ++ List.replicate (2 - (lg_sl ([.ref h0, .ref b])).length) Slot.unset).toArray = ls at hl ⊢
  have hl : lv_has ls 2 [(0, .ref h0), (1, .ref b)] := hl
  refine lv_aload_n hx hb dX1_init_0 rfl (lv_at hl 0 rfl) ?_
  refine W.objInit hx hb hown (hts (.methodLink RX1 3 objectInit) (by decide +kernel)) (hts (.instanceMethod objectInit) (by decide +kernel)) (hts (.code objectInit ⟨#[0xb1]⟩ 1 none) (by decide +kernel)) rfl (by rw [hml]; exact hl.1) rfl dX1_init_1 (Nat.le_of_ble_eq_true rfl) (Nat.le_of_ble_eq_true rfl) ?_
  refine W.eq (g2 := F0 m 4 ls []) rfl ?_
  refine lv_aload_n hx hb dX1_init_4 rfl (lv_at hl 0 rfl) ?_
  refine lv_aload_n hx hb dX1_init_5 rfl (lv_at hl 1 rfl) ?_
  refine va_putF (D := D) (ci := 1) (v := .ref b) (ty := .object "FlightDesk$Book") (C := RX1) (T := TX1) (N := 7) hx hb hts iw_k_Flight_1 tyX1 tyX1_ok nmX1 hown hK hP hD hS 0 rfl rfl 0 (by decide) (hts (.fieldLink RX1 9 "FlightDesk$Flight" "book" "LFlightDesk$Book;") (by decide +kernel)) (fun _ h9 => h9) rfl hin rfl (by decide +kernel) rfl rfl (Nat.le_of_ble_eq_true rfl) dX1_init_6 (fun H locs hP hD hS => ?_)
  have hP : va_P D vwCl [(h0, .inr (1, [.ref b, .int 0, .int 0, .int 0, .int 0, .int 0, .int 0]))] H := hP
  have hD : va_D A [(h0, .inr (1, [.ref b, .int 0, .int 0, .int 0, .int 0, .int 0, .int 0]))] := hD
  have hP9 := hP.sub (ws' := [(h0, .inr (1, [.ref b, .int 0, .int 0, .int 0, .int 0, .int 0, .int 0]))]) [0] rfl
  have hD9 := hD.sub (ws' := [(h0, .inr (1, [.ref b, .int 0, .int 0, .int 0, .int 0, .int 0, .int 0]))]) [0] (by decide) rfl
  refine W.widen (k := 0) (n := 0) (by decide) (by decide) ?_
  exact W.vret hx hb hr (fun t ht hW => ⟨⟨(), rfl, trivial, by rw [ht]; exact hP9, hD9⟩, hS.F ht⟩) hS.2.2 dX1_init_9

def wk_k_Way : List Cond := .code yX6_init cX6_init 1 none :: ([.methodLink RX6 3 objectInit, .instanceMethod objectInit, .code objectInit ⟨#[0xb1]⟩ 1 none, .arrayClass .int, .fieldLink RX6 9 "FlightDesk$Way" "leg" "[I", .fieldLink RX6 15 "FlightDesk$Way" "level" "[I", .fieldLink RX6 18 "FlightDesk$Way" "left" "[I"] ++ wsX60)
theorem iw_k_Way_6 : ∀ w ∈ wsX60, w ∈ wk_k_Way := fun _ h => List.mem_cons_of_mem _ (List.mem_append_right _ h)
set_option maxHeartbeats 4000000 in
set_option maxRecDepth 100000 in
theorem k_Way (l : Launch) (D : va_G) (cI cB cP : ClassId) (sz : Nat) (h0 : Nat) : Met l yX6_init wk_k_Way ({ frames := 1, cells := 3, slots := 48, locals := 12 } : Room) (va_Pc [.ref h0] (Pw D cI cB cP sz [(h0, .inr (6, [.int 0, .int 0, .null, .null, .null]))])) (va_Qv (fun (_ : Unit) => True) (fun _ t => ∃ q2 : Nat, ∃ q3 : Nat, ∃ q4 : Nat, va_P D vwCl [(h0, .inr (6, [.int 0, .int 0, .ref q2, .ref q3, .ref q4]))] t.heap ∧ va_D (va_A [(h0, .inr (6, [.int 0, .int 0, .null, .null, .null]))] sz) [(h0, .inr (6, [.int 0, .int 0, .ref q2, .ref q3, .ref q4]))]) (va_A [(h0, .inr (6, [.int 0, .int 0, .null, .null, .null]))] sz)) 3 48 (va_A [(h0, .inr (6, [.int 0, .int 0, .null, .null, .null]))] sz) := by
  refine Met.ofW (cc := cX6_init) (maxL := 1) (ret := none) (by decide) rfl ?_
  intro p e s m args below meth c s₁ B hml hv
  obtain ⟨rfl, hsz, hP, ⟨hK, hN⟩, hD0⟩ := hv
  have hx := B.exec
  have hb := B.bytes
  have hr := B.returns
  have hts := atoms_spec (ws := wk_k_Way) B.pre
  have hown : s.vm.findClass RX6 = some m.cls := findClass_of_methodNamed B.named
  have hlocks := B.notSynchronized
  have hin : meth.name = "<init>" := (name_of_methodNamed B.named B.method).1
  subst hsz
  have hD := hD0.self (sz := s.heap.size)
  generalize hAe : va_A [(h0, .inr (6, [.int 0, .int 0, .null, .null, .null]))] s.heap.size = A at hD ⊢
  have hA : ∀ q : Nat, s.heap.size ≤ q → A q := fun q h => by rw [← hAe]; exact Or.inr h
  have hS : va_S A s.heap s.heap [] := va_S.rf
  have hP : va_P D vwCl [(h0, .inr (6, [.int 0, .int 0, .null, .null, .null]))] s.heap := hP
  have hl := lv_entry ([.ref h0]) (n := 1) (Nat.le_of_ble_eq_true rfl)
  rw [lg_entry_eq]
  generalize (lg_sl ([.ref h0]) ++ List.replicate (1 - (lg_sl ([.ref h0])).length) Slot.unset).toArray = ls at hl ⊢
  have hl : lv_has ls 1 [(0, .ref h0)] := hl
  refine lv_aload_n hx hb dX6_init_0 rfl (lv_at hl 0 rfl) ?_
  refine W.objInit hx hb hown (hts (.methodLink RX6 3 objectInit) (by decide +kernel)) (hts (.instanceMethod objectInit) (by decide +kernel)) (hts (.code objectInit ⟨#[0xb1]⟩ 1 none) (by decide +kernel)) rfl (by rw [hml]; exact hl.1) rfl dX6_init_1 (Nat.le_of_ble_eq_true rfl) (Nat.le_of_ble_eq_true rfl) ?_
  refine W.eq (g2 := F0 m 4 ls []) rfl ?_
  refine lv_aload_n hx hb dX6_init_4 rfl (lv_at hl 0 rfl) ?_
  refine lv_bipush (v := 16) hx hb dX6_init_5 (by decide) ?_
  refine ny_i (N' := 16) hx hb (hts (.arrayClass .int) (by decide +kernel)) hK hP hD hS hA (by decide) (by decide) (by decide) (Nat.le_of_ble_eq_true rfl) (Nat.le_of_ble_eq_true rfl) dX6_init_7 (fun q1 H hP hD hS => ?_)
  have hP : va_P D vwCl [(h0, .inr (6, [.int 0, .int 0, .null, .null, .null])), (q1, .inl (cI, 16, .inl (fun _ => 0)))] H := hP
  have hD : va_D A [(h0, .inr (6, [.int 0, .int 0, .null, .null, .null])), (q1, .inl (cI, 16, .inl (fun _ => 0)))] := hD
  refine W.widen (k := 1) (n := 16) (by decide) (by decide) ?_
  refine va_putF (D := D) (ci := 6) (v := .ref q1) (ty := .array .int) (C := RX6) (T := TX6) (N := 5) hx hb hts iw_k_Way_6 tyX6 tyX6_ok nmX6 hown hK hP hD hS 0 rfl rfl 2 (by decide) (hts (.fieldLink RX6 9 "FlightDesk$Way" "leg" "[I") (by decide +kernel)) (fun _ h9 => h9) rfl hin rfl (by decide +kernel) rfl rfl (Nat.le_of_ble_eq_true rfl) dX6_init_9 (fun H locs hP hD hS => ?_)
  have hP : va_P D vwCl [(h0, .inr (6, [.int 0, .int 0, .ref q1, .null, .null])), (q1, .inl (cI, 16, .inl (fun _ => 0)))] H := hP
  have hD : va_D A [(h0, .inr (6, [.int 0, .int 0, .ref q1, .null, .null])), (q1, .inl (cI, 16, .inl (fun _ => 0)))] := hD
  refine lv_aload_n hx hb dX6_init_12 rfl (lv_at hl 0 rfl) ?_
  refine lv_bipush (v := 16) hx hb dX6_init_13 (by decide) ?_
  refine ny_i (N' := 16) hx hb (hts (.arrayClass .int) (by decide +kernel)) hK hP hD hS hA (by decide) (by decide) (by decide) (Nat.le_of_ble_eq_true rfl) (Nat.le_of_ble_eq_true rfl) dX6_init_15 (fun q2 H hP hD hS => ?_)
  have hP : va_P D vwCl [(h0, .inr (6, [.int 0, .int 0, .ref q1, .null, .null])), (q1, .inl (cI, 16, .inl (fun _ => 0))), (q2, .inl (cI, 16, .inl (fun _ => 0)))] H := hP
  have hD : va_D A [(h0, .inr (6, [.int 0, .int 0, .ref q1, .null, .null])), (q1, .inl (cI, 16, .inl (fun _ => 0))), (q2, .inl (cI, 16, .inl (fun _ => 0)))] := hD
  refine W.widen (k := 2) (n := 32) (by decide) (by decide) ?_
  refine va_putF (D := D) (ci := 6) (v := .ref q2) (ty := .array .int) (C := RX6) (T := TX6) (N := 5) hx hb hts iw_k_Way_6 tyX6 tyX6_ok nmX6 hown hK hP hD hS 0 rfl rfl 3 (by decide) (hts (.fieldLink RX6 15 "FlightDesk$Way" "level" "[I") (by decide +kernel)) (fun _ h9 => h9) rfl hin rfl (by decide +kernel) rfl rfl (Nat.le_of_ble_eq_true rfl) dX6_init_17 (fun H locs hP hD hS => ?_)
  have hP : va_P D vwCl [(h0, .inr (6, [.int 0, .int 0, .ref q1, .ref q2, .null])), (q1, .inl (cI, 16, .inl (fun _ => 0))), (q2, .inl (cI, 16, .inl (fun _ => 0)))] H := hP
  have hD : va_D A [(h0, .inr (6, [.int 0, .int 0, .ref q1, .ref q2, .null])), (q1, .inl (cI, 16, .inl (fun _ => 0))), (q2, .inl (cI, 16, .inl (fun _ => 0)))] := hD
  refine lv_aload_n hx hb dX6_init_20 rfl (lv_at hl 0 rfl) ?_
  refine lv_bipush (v := 16) hx hb dX6_init_21 (by decide) ?_
  refine ny_i (N' := 16) hx hb (hts (.arrayClass .int) (by decide +kernel)) hK hP hD hS hA (by decide) (by decide) (by decide) (Nat.le_of_ble_eq_true rfl) (Nat.le_of_ble_eq_true rfl) dX6_init_23 (fun q3 H hP hD hS => ?_)
  have hP : va_P D vwCl [(h0, .inr (6, [.int 0, .int 0, .ref q1, .ref q2, .null])), (q1, .inl (cI, 16, .inl (fun _ => 0))), (q2, .inl (cI, 16, .inl (fun _ => 0))), (q3, .inl (cI, 16, .inl (fun _ => 0)))] H := hP
  have hD : va_D A [(h0, .inr (6, [.int 0, .int 0, .ref q1, .ref q2, .null])), (q1, .inl (cI, 16, .inl (fun _ => 0))), (q2, .inl (cI, 16, .inl (fun _ => 0))), (q3, .inl (cI, 16, .inl (fun _ => 0)))] := hD
  refine W.widen (k := 3) (n := 48) (by decide) (by decide) ?_
  refine va_putF (D := D) (ci := 6) (v := .ref q3) (ty := .array .int) (C := RX6) (T := TX6) (N := 5) hx hb hts iw_k_Way_6 tyX6 tyX6_ok nmX6 hown hK hP hD hS 0 rfl rfl 4 (by decide) (hts (.fieldLink RX6 18 "FlightDesk$Way" "left" "[I") (by decide +kernel)) (fun _ h9 => h9) rfl hin rfl (by decide +kernel) rfl rfl (Nat.le_of_ble_eq_true rfl) dX6_init_25 (fun H locs hP hD hS => ?_)
  have hP : va_P D vwCl [(h0, .inr (6, [.int 0, .int 0, .ref q1, .ref q2, .ref q3])), (q1, .inl (cI, 16, .inl (fun _ => 0))), (q2, .inl (cI, 16, .inl (fun _ => 0))), (q3, .inl (cI, 16, .inl (fun _ => 0)))] H := hP
  have hD : va_D A [(h0, .inr (6, [.int 0, .int 0, .ref q1, .ref q2, .ref q3])), (q1, .inl (cI, 16, .inl (fun _ => 0))), (q2, .inl (cI, 16, .inl (fun _ => 0))), (q3, .inl (cI, 16, .inl (fun _ => 0)))] := hD
  have hP9 := hP.sub (ws' := [(h0, .inr (6, [.int 0, .int 0, .ref q1, .ref q2, .ref q3]))]) [0] rfl
  have hD9 := hD.sub (ws' := [(h0, .inr (6, [.int 0, .int 0, .ref q1, .ref q2, .ref q3]))]) [0] (by decide) rfl
  refine W.widen (k := 3) (n := 48) (by decide) (by decide) ?_
  exact W.vret hx hb hr (fun t ht hW => ⟨⟨(), rfl, trivial, q1, q2, q3, by rw [ht]; exact hP9, hD9⟩, hS.F ht⟩) hS.2.2 dX6_init_28

def wk_k_Plan : List Cond := .code yX2_init cX2_init 4 none :: ([.methodLink RX2 3 objectInit, .instanceMethod objectInit, .code objectInit ⟨#[0xb1]⟩ 1 none, .classLink RX2 9 RX6, .instantiable RX6 5, .initialized RX6, .instanceMethod yX6_init, .code yX6_init cX6_init 1 none, .methodLink RX6 3 objectInit, .arrayClass .int, .fieldLink RX6 9 "FlightDesk$Way" "leg" "[I", .fieldLink RX6 15 "FlightDesk$Way" "level" "[I", .fieldLink RX6 18 "FlightDesk$Way" "left" "[I", .fieldLink RX2 12 "FlightDesk$Plan" "best" "LFlightDesk$Way;", .fieldLink RX2 18 "FlightDesk$Plan" "minutes" "[I", .fieldLink RX2 22 "FlightDesk$Plan" "onward" "[I", .fieldLink RX2 25 "FlightDesk$Plan" "back" "[I", .fieldLink RX2 28 "FlightDesk$Plan" "groundCarrying" "[I", .fieldLink RX2 31 "FlightDesk$Plan" "book" "LFlightDesk$Book;", .fieldLink RX2 35 "FlightDesk$Plan" "flight" "LFlightDesk$Flight;", .fieldLink RX2 39 "FlightDesk$Plan" "world" "I"] ++ wsX60 ++ wsX20)
theorem iw_k_Plan_6 : ∀ w ∈ wsX60, w ∈ wk_k_Plan := fun _ h => List.mem_cons_of_mem _ (List.mem_append_left _ (List.mem_append_right _ h))
theorem iw_k_Plan_2 : ∀ w ∈ wsX20, w ∈ wk_k_Plan := fun _ h => List.mem_cons_of_mem _ (List.mem_append_right _ h)
set_option maxRecDepth 20000 in
theorem gw_k_Plan_0 : GoodIn wk_k_Plan wk_k_Way := goodIn_sub (by decide +kernel) (by decide +kernel)
set_option maxHeartbeats 4000000 in
set_option maxRecDepth 100000 in
theorem k_Plan (l : Launch) (D : va_G) (cI cB cP : ClassId) (sz : Nat) (h0 : Nat) (b : Nat) (f : Nat) (w : Int32) : Met l yX2_init wk_k_Plan ({ frames := 2, cells := 8, slots := 790, locals := 32 } : Room) (va_Pc [.ref h0, .ref b, .ref f, .int w] (Pw D cI cB cP sz [(h0, .inr (2, [.null, .null, .int 0, .null, .int 0, .int 0, .int 0, .int 0, .int 0, .null, .null, .null, .null]))])) (va_Qv (fun (_ : Unit) => True) (fun _ t => ∃ q3 : Nat, ∃ q9 : Nat, ∃ q10 : Nat, ∃ q11 : Nat, ∃ q12 : Nat, va_P D vwCl [(h0, .inr (2, [.ref b, .ref f, .int w, .ref q3, .int 0, .int 0, .int 0, .int 0, .int 0, .ref q9, .ref q10, .ref q11, .ref q12]))] t.heap ∧ va_D (va_A [(h0, .inr (2, [.null, .null, .int 0, .null, .int 0, .int 0, .int 0, .int 0, .int 0, .null, .null, .null, .null]))] sz) [(h0, .inr (2, [.ref b, .ref f, .int w, .ref q3, .int 0, .int 0, .int 0, .int 0, .int 0, .ref q9, .ref q10, .ref q11, .ref q12]))]) (va_A [(h0, .inr (2, [.null, .null, .int 0, .null, .int 0, .int 0, .int 0, .int 0, .int 0, .null, .null, .null, .null]))] sz)) 8 790 (va_A [(h0, .inr (2, [.null, .null, .int 0, .null, .int 0, .int 0, .int 0, .int 0, .int 0, .null, .null, .null, .null]))] sz) := by
  refine Met.ofW (cc := cX2_init) (maxL := 4) (ret := none) (by decide) rfl ?_
  intro p e s m args below meth c s₁ B hml hv
  obtain ⟨rfl, hsz, hP, ⟨hK, hN⟩, hD0⟩ := hv
  have hx := B.exec
  have hb := B.bytes
  have hr := B.returns
  have hts := atoms_spec (ws := wk_k_Plan) B.pre
  have hown : s.vm.findClass RX2 = some m.cls := findClass_of_methodNamed B.named
  have hlocks := B.notSynchronized
  have hin : meth.name = "<init>" := (name_of_methodNamed B.named B.method).1
  subst hsz
  have hD := hD0.self (sz := s.heap.size)
  generalize hAe : va_A [(h0, .inr (2, [.null, .null, .int 0, .null, .int 0, .int 0, .int 0, .int 0, .int 0, .null, .null, .null, .null]))] s.heap.size = A at hD ⊢
  have hA : ∀ q : Nat, s.heap.size ≤ q → A q := fun q h => by rw [← hAe]; exact Or.inr h
  have hS : va_S A s.heap s.heap [] := va_S.rf
  have hP : va_P D vwCl [(h0, .inr (2, [.null, .null, .int 0, .null, .int 0, .int 0, .int 0, .int 0, .int 0, .null, .null, .null, .null]))] s.heap := hP
  have hl := lv_entry ([.ref h0, .ref b, .ref f, .int w]) (n := 4) (Nat.le_of_ble_eq_true rfl)
  rw [lg_entry_eq]
  generalize (lg_sl ([.ref h0, .ref b, .ref f, .int w]) ++ List.replicate (4 - (lg_sl ([.ref h0, .ref b, .ref f, .int w])).length) Slot.unset).toArray = ls at hl ⊢
  have hl : lv_has ls 4 [(0, .ref h0), (1, .ref b), (2, .ref f), (3, .int w)] := hl
  refine lv_aload_n hx hb dX2_init_0 rfl (lv_at hl 0 rfl) ?_
  refine W.objInit hx hb hown (hts (.methodLink RX2 3 objectInit) (by decide +kernel)) (hts (.instanceMethod objectInit) (by decide +kernel)) (hts (.code objectInit ⟨#[0xb1]⟩ 1 none) (by decide +kernel)) rfl (by rw [hml]; exact hl.1) rfl dX2_init_1 (Nat.le_of_ble_eq_true rfl) (Nat.le_of_ble_eq_true rfl) ?_
  refine W.eq (g2 := F0 m 4 ls []) rfl ?_
  refine lv_aload_n hx hb dX2_init_4 rfl (lv_at hl 0 rfl) ?_
  refine va_new (ci := 6) (fs := [.int 0, .int 0, .null, .null, .null]) (C := RX6) (T := TX6) (N := 5) hx hb hts iw_k_Plan_6 tyX6 tyX6_ok hown (hts (.classLink RX2 9 RX6) (by decide +kernel)) (hts (.instantiable RX6 5) (by decide +kernel)) (hts (.initialized RX6) (by decide +kernel)) hK hP hD hS hA rfl (by decide +kernel) (Nat.le_of_ble_eq_true rfl) (Nat.le_of_ble_eq_true rfl) dX2_init_5 (fun q1 H hP hD hS => ?_)
  have hP : va_P D vwCl [(h0, .inr (2, [.null, .null, .int 0, .null, .int 0, .int 0, .int 0, .int 0, .int 0, .null, .null, .null, .null])), (q1, .inr (6, [.int 0, .int 0, .null, .null, .null]))] H := hP
  have hD : va_D A [(h0, .inr (2, [.null, .null, .int 0, .null, .int 0, .int 0, .int 0, .int 0, .int 0, .null, .null, .null, .null])), (q1, .inr (6, [.int 0, .int 0, .null, .null, .null]))] := hD
  refine W.widen (k := 1) (n := 5) (by decide) (by decide) ?_
  refine lv_dup hx hb dX2_init_8 rfl ?_
  have hPc := hP.sub (ws' := [(q1, .inr (6, [.int 0, .int 0, .null, .null, .null]))]) [1] rfl
  have hDc := hD.sub (ws' := [(q1, .inr (6, [.int 0, .int 0, .null, .null, .null]))]) [1] (by decide) rfl
  have hFc := va_free (wc := [(q1, .inr (6, [.int 0, .int 0, .null, .null, .null]))]) hD hS hA [1] rfl
  refine va_callv (va_runIN (As := []) (rest := [.ref q1, .ref h0]) ⟨hx, hb, hml, hown, hts⟩ (k_Way l D cI cB cP H.size q1) ⟨va_cnB 0 hts gw_k_Plan_0 rfl rfl rfl (hN.2.1) (hts (.initialized RX6) (by decide +kernel)) (by decide +kernel) ⟨Nat.le_of_ble_eq_true rfl, Nat.le_of_ble_eq_true rfl⟩, rfl, (hts (.instanceMethod yX6_init) (by decide +kernel))⟩ ⟨ny_blind, ny_pre hPc hK hN hDc⟩ rfl rfl hl.1 rfl (lv_room (Nat.le_of_ble_eq_true rfl)) dX2_init_9 ⟨Nat.le_of_ble_eq_true rfl, Nat.le_of_ble_eq_true rfl⟩) hS (fun q _ h => hFc q h) hFc (fun u t H locs ht hvm hw hB hz1 hk1 hS => ?_)
  obtain ⟨q_2, q_3, q_4, hP1, hD1⟩ := hB
  rw [ht] at hP1
  obtain ⟨hP, hD⟩ := va_join (wr := [(h0, .inr (2, [.null, .null, .int 0, .null, .int 0, .int 0, .int 0, .int 0, .int 0, .null, .null, .null, .null]))]) (w1 := [(q1, .inr (6, [.int 0, .int 0, .ref q_2, .ref q_3, .ref q_4]))]) hP hD [1] [0] rfl rfl (by decide) (by decide) hk1 hFc hP1 hD1
  have hP : va_P D vwCl [(h0, .inr (2, [.null, .null, .int 0, .null, .int 0, .int 0, .int 0, .int 0, .int 0, .null, .null, .null, .null])), (q1, .inr (6, [.int 0, .int 0, .ref q_2, .ref q_3, .ref q_4]))] H := hP
  have hD : va_D A [(h0, .inr (2, [.null, .null, .int 0, .null, .int 0, .int 0, .int 0, .int 0, .int 0, .null, .null, .null, .null])), (q1, .inr (6, [.int 0, .int 0, .ref q_2, .ref q_3, .ref q_4]))] := hD
  refine W.widen (k := 4) (n := 53) (by decide) (by decide) ?_
  refine va_putF (D := D) (ci := 2) (v := .ref q1) (ty := .object "FlightDesk$Way") (C := RX2) (T := TX2) (N := 13) hx hb hts iw_k_Plan_2 tyX2 tyX2_ok nmX2 hown hK hP hD hS 0 rfl rfl 3 (by decide) (hts (.fieldLink RX2 12 "FlightDesk$Plan" "best" "LFlightDesk$Way;") (by decide +kernel)) (fun _ h9 => h9) rfl hin rfl (by decide +kernel) rfl rfl (Nat.le_of_ble_eq_true rfl) dX2_init_12 (fun H locs hP hD hS => ?_)
  have hP : va_P D vwCl [(h0, .inr (2, [.null, .null, .int 0, .ref q1, .int 0, .int 0, .int 0, .int 0, .int 0, .null, .null, .null, .null])), (q1, .inr (6, [.int 0, .int 0, .ref q_2, .ref q_3, .ref q_4]))] H := hP
  have hD : va_D A [(h0, .inr (2, [.null, .null, .int 0, .ref q1, .int 0, .int 0, .int 0, .int 0, .int 0, .null, .null, .null, .null])), (q1, .inr (6, [.int 0, .int 0, .ref q_2, .ref q_3, .ref q_4]))] := hD
  refine lv_aload_n hx hb dX2_init_15 rfl (lv_at hl 0 rfl) ?_
  refine lv_bipush (v := 96) hx hb dX2_init_16 (by decide) ?_
  refine ny_i (N' := 96) hx hb (hts (.arrayClass .int) (by decide +kernel)) hK hP hD hS hA (by decide) (by decide) (by decide) (Nat.le_of_ble_eq_true rfl) (Nat.le_of_ble_eq_true rfl) dX2_init_18 (fun q6 H hP hD hS => ?_)
  have hP : va_P D vwCl [(h0, .inr (2, [.null, .null, .int 0, .ref q1, .int 0, .int 0, .int 0, .int 0, .int 0, .null, .null, .null, .null])), (q1, .inr (6, [.int 0, .int 0, .ref q_2, .ref q_3, .ref q_4])), (q6, .inl (cI, 96, .inl (fun _ => 0)))] H := hP
  have hD : va_D A [(h0, .inr (2, [.null, .null, .int 0, .ref q1, .int 0, .int 0, .int 0, .int 0, .int 0, .null, .null, .null, .null])), (q1, .inr (6, [.int 0, .int 0, .ref q_2, .ref q_3, .ref q_4])), (q6, .inl (cI, 96, .inl (fun _ => 0)))] := hD
  refine W.widen (k := 5) (n := 149) (by decide) (by decide) ?_
  refine va_putF (D := D) (ci := 2) (v := .ref q6) (ty := .array .int) (C := RX2) (T := TX2) (N := 13) hx hb hts iw_k_Plan_2 tyX2 tyX2_ok nmX2 hown hK hP hD hS 0 rfl rfl 9 (by decide) (hts (.fieldLink RX2 18 "FlightDesk$Plan" "minutes" "[I") (by decide +kernel)) (fun _ h9 => h9) rfl hin rfl (by decide +kernel) rfl rfl (Nat.le_of_ble_eq_true rfl) dX2_init_20 (fun H locs hP hD hS => ?_)
  have hP : va_P D vwCl [(h0, .inr (2, [.null, .null, .int 0, .ref q1, .int 0, .int 0, .int 0, .int 0, .int 0, .ref q6, .null, .null, .null])), (q1, .inr (6, [.int 0, .int 0, .ref q_2, .ref q_3, .ref q_4])), (q6, .inl (cI, 96, .inl (fun _ => 0)))] H := hP
  have hD : va_D A [(h0, .inr (2, [.null, .null, .int 0, .ref q1, .int 0, .int 0, .int 0, .int 0, .int 0, .ref q6, .null, .null, .null])), (q1, .inr (6, [.int 0, .int 0, .ref q_2, .ref q_3, .ref q_4])), (q6, .inl (cI, 96, .inl (fun _ => 0)))] := hD
  refine lv_aload_n hx hb dX2_init_23 rfl (lv_at hl 0 rfl) ?_
  refine lv_bipush (v := 70) hx hb dX2_init_24 (by decide) ?_
  refine ny_i (N' := 70) hx hb (hts (.arrayClass .int) (by decide +kernel)) hK hP hD hS hA (by decide) (by decide) (by decide) (Nat.le_of_ble_eq_true rfl) (Nat.le_of_ble_eq_true rfl) dX2_init_26 (fun q7 H hP hD hS => ?_)
  have hP : va_P D vwCl [(h0, .inr (2, [.null, .null, .int 0, .ref q1, .int 0, .int 0, .int 0, .int 0, .int 0, .ref q6, .null, .null, .null])), (q1, .inr (6, [.int 0, .int 0, .ref q_2, .ref q_3, .ref q_4])), (q6, .inl (cI, 96, .inl (fun _ => 0))), (q7, .inl (cI, 70, .inl (fun _ => 0)))] H := hP
  have hD : va_D A [(h0, .inr (2, [.null, .null, .int 0, .ref q1, .int 0, .int 0, .int 0, .int 0, .int 0, .ref q6, .null, .null, .null])), (q1, .inr (6, [.int 0, .int 0, .ref q_2, .ref q_3, .ref q_4])), (q6, .inl (cI, 96, .inl (fun _ => 0))), (q7, .inl (cI, 70, .inl (fun _ => 0)))] := hD
  refine W.widen (k := 6) (n := 219) (by decide) (by decide) ?_
  refine va_putF (D := D) (ci := 2) (v := .ref q7) (ty := .array .int) (C := RX2) (T := TX2) (N := 13) hx hb hts iw_k_Plan_2 tyX2 tyX2_ok nmX2 hown hK hP hD hS 0 rfl rfl 10 (by decide) (hts (.fieldLink RX2 22 "FlightDesk$Plan" "onward" "[I") (by decide +kernel)) (fun _ h9 => h9) rfl hin rfl (by decide +kernel) rfl rfl (Nat.le_of_ble_eq_true rfl) dX2_init_28 (fun H locs hP hD hS => ?_)
  have hP : va_P D vwCl [(h0, .inr (2, [.null, .null, .int 0, .ref q1, .int 0, .int 0, .int 0, .int 0, .int 0, .ref q6, .ref q7, .null, .null])), (q1, .inr (6, [.int 0, .int 0, .ref q_2, .ref q_3, .ref q_4])), (q6, .inl (cI, 96, .inl (fun _ => 0))), (q7, .inl (cI, 70, .inl (fun _ => 0)))] H := hP
  have hD : va_D A [(h0, .inr (2, [.null, .null, .int 0, .ref q1, .int 0, .int 0, .int 0, .int 0, .int 0, .ref q6, .ref q7, .null, .null])), (q1, .inr (6, [.int 0, .int 0, .ref q_2, .ref q_3, .ref q_4])), (q6, .inl (cI, 96, .inl (fun _ => 0))), (q7, .inl (cI, 70, .inl (fun _ => 0)))] := hD
  refine lv_aload_n hx hb dX2_init_31 rfl (lv_at hl 0 rfl) ?_
  refine lv_bipush (v := 70) hx hb dX2_init_32 (by decide) ?_
  refine ny_i (N' := 70) hx hb (hts (.arrayClass .int) (by decide +kernel)) hK hP hD hS hA (by decide) (by decide) (by decide) (Nat.le_of_ble_eq_true rfl) (Nat.le_of_ble_eq_true rfl) dX2_init_34 (fun q8 H hP hD hS => ?_)
  have hP : va_P D vwCl [(h0, .inr (2, [.null, .null, .int 0, .ref q1, .int 0, .int 0, .int 0, .int 0, .int 0, .ref q6, .ref q7, .null, .null])), (q1, .inr (6, [.int 0, .int 0, .ref q_2, .ref q_3, .ref q_4])), (q6, .inl (cI, 96, .inl (fun _ => 0))), (q7, .inl (cI, 70, .inl (fun _ => 0))), (q8, .inl (cI, 70, .inl (fun _ => 0)))] H := hP
  have hD : va_D A [(h0, .inr (2, [.null, .null, .int 0, .ref q1, .int 0, .int 0, .int 0, .int 0, .int 0, .ref q6, .ref q7, .null, .null])), (q1, .inr (6, [.int 0, .int 0, .ref q_2, .ref q_3, .ref q_4])), (q6, .inl (cI, 96, .inl (fun _ => 0))), (q7, .inl (cI, 70, .inl (fun _ => 0))), (q8, .inl (cI, 70, .inl (fun _ => 0)))] := hD
  refine W.widen (k := 7) (n := 289) (by decide) (by decide) ?_
  refine va_putF (D := D) (ci := 2) (v := .ref q8) (ty := .array .int) (C := RX2) (T := TX2) (N := 13) hx hb hts iw_k_Plan_2 tyX2 tyX2_ok nmX2 hown hK hP hD hS 0 rfl rfl 11 (by decide) (hts (.fieldLink RX2 25 "FlightDesk$Plan" "back" "[I") (by decide +kernel)) (fun _ h9 => h9) rfl hin rfl (by decide +kernel) rfl rfl (Nat.le_of_ble_eq_true rfl) dX2_init_36 (fun H locs hP hD hS => ?_)
  have hP : va_P D vwCl [(h0, .inr (2, [.null, .null, .int 0, .ref q1, .int 0, .int 0, .int 0, .int 0, .int 0, .ref q6, .ref q7, .ref q8, .null])), (q1, .inr (6, [.int 0, .int 0, .ref q_2, .ref q_3, .ref q_4])), (q6, .inl (cI, 96, .inl (fun _ => 0))), (q7, .inl (cI, 70, .inl (fun _ => 0))), (q8, .inl (cI, 70, .inl (fun _ => 0)))] H := hP
  have hD : va_D A [(h0, .inr (2, [.null, .null, .int 0, .ref q1, .int 0, .int 0, .int 0, .int 0, .int 0, .ref q6, .ref q7, .ref q8, .null])), (q1, .inr (6, [.int 0, .int 0, .ref q_2, .ref q_3, .ref q_4])), (q6, .inl (cI, 96, .inl (fun _ => 0))), (q7, .inl (cI, 70, .inl (fun _ => 0))), (q8, .inl (cI, 70, .inl (fun _ => 0)))] := hD
  refine lv_aload_n hx hb dX2_init_39 rfl (lv_at hl 0 rfl) ?_
  refine lv_sipush (v := 501) hx hb dX2_init_40 (by decide) ?_
  refine ny_i (N' := 501) hx hb (hts (.arrayClass .int) (by decide +kernel)) hK hP hD hS hA (by decide) (by decide) (by decide) (Nat.le_of_ble_eq_true rfl) (Nat.le_of_ble_eq_true rfl) dX2_init_43 (fun q9 H hP hD hS => ?_)
  have hP : va_P D vwCl [(h0, .inr (2, [.null, .null, .int 0, .ref q1, .int 0, .int 0, .int 0, .int 0, .int 0, .ref q6, .ref q7, .ref q8, .null])), (q1, .inr (6, [.int 0, .int 0, .ref q_2, .ref q_3, .ref q_4])), (q6, .inl (cI, 96, .inl (fun _ => 0))), (q7, .inl (cI, 70, .inl (fun _ => 0))), (q8, .inl (cI, 70, .inl (fun _ => 0))), (q9, .inl (cI, 501, .inl (fun _ => 0)))] H := hP
  have hD : va_D A [(h0, .inr (2, [.null, .null, .int 0, .ref q1, .int 0, .int 0, .int 0, .int 0, .int 0, .ref q6, .ref q7, .ref q8, .null])), (q1, .inr (6, [.int 0, .int 0, .ref q_2, .ref q_3, .ref q_4])), (q6, .inl (cI, 96, .inl (fun _ => 0))), (q7, .inl (cI, 70, .inl (fun _ => 0))), (q8, .inl (cI, 70, .inl (fun _ => 0))), (q9, .inl (cI, 501, .inl (fun _ => 0)))] := hD
  refine W.widen (k := 8) (n := 790) (by decide) (by decide) ?_
  refine va_putF (D := D) (ci := 2) (v := .ref q9) (ty := .array .int) (C := RX2) (T := TX2) (N := 13) hx hb hts iw_k_Plan_2 tyX2 tyX2_ok nmX2 hown hK hP hD hS 0 rfl rfl 12 (by decide) (hts (.fieldLink RX2 28 "FlightDesk$Plan" "groundCarrying" "[I") (by decide +kernel)) (fun _ h9 => h9) rfl hin rfl (by decide +kernel) rfl rfl (Nat.le_of_ble_eq_true rfl) dX2_init_45 (fun H locs hP hD hS => ?_)
  have hP : va_P D vwCl [(h0, .inr (2, [.null, .null, .int 0, .ref q1, .int 0, .int 0, .int 0, .int 0, .int 0, .ref q6, .ref q7, .ref q8, .ref q9])), (q1, .inr (6, [.int 0, .int 0, .ref q_2, .ref q_3, .ref q_4])), (q6, .inl (cI, 96, .inl (fun _ => 0))), (q7, .inl (cI, 70, .inl (fun _ => 0))), (q8, .inl (cI, 70, .inl (fun _ => 0))), (q9, .inl (cI, 501, .inl (fun _ => 0)))] H := hP
  have hD : va_D A [(h0, .inr (2, [.null, .null, .int 0, .ref q1, .int 0, .int 0, .int 0, .int 0, .int 0, .ref q6, .ref q7, .ref q8, .ref q9])), (q1, .inr (6, [.int 0, .int 0, .ref q_2, .ref q_3, .ref q_4])), (q6, .inl (cI, 96, .inl (fun _ => 0))), (q7, .inl (cI, 70, .inl (fun _ => 0))), (q8, .inl (cI, 70, .inl (fun _ => 0))), (q9, .inl (cI, 501, .inl (fun _ => 0)))] := hD
  refine lv_aload_n hx hb dX2_init_48 rfl (lv_at hl 0 rfl) ?_
  refine lv_aload_n hx hb dX2_init_49 rfl (lv_at hl 1 rfl) ?_
  refine va_putF (D := D) (ci := 2) (v := .ref b) (ty := .object "FlightDesk$Book") (C := RX2) (T := TX2) (N := 13) hx hb hts iw_k_Plan_2 tyX2 tyX2_ok nmX2 hown hK hP hD hS 0 rfl rfl 0 (by decide) (hts (.fieldLink RX2 31 "FlightDesk$Plan" "book" "LFlightDesk$Book;") (by decide +kernel)) (fun _ h9 => h9) rfl hin rfl (by decide +kernel) rfl rfl (Nat.le_of_ble_eq_true rfl) dX2_init_50 (fun H locs hP hD hS => ?_)
  have hP : va_P D vwCl [(h0, .inr (2, [.ref b, .null, .int 0, .ref q1, .int 0, .int 0, .int 0, .int 0, .int 0, .ref q6, .ref q7, .ref q8, .ref q9])), (q1, .inr (6, [.int 0, .int 0, .ref q_2, .ref q_3, .ref q_4])), (q6, .inl (cI, 96, .inl (fun _ => 0))), (q7, .inl (cI, 70, .inl (fun _ => 0))), (q8, .inl (cI, 70, .inl (fun _ => 0))), (q9, .inl (cI, 501, .inl (fun _ => 0)))] H := hP
  have hD : va_D A [(h0, .inr (2, [.ref b, .null, .int 0, .ref q1, .int 0, .int 0, .int 0, .int 0, .int 0, .ref q6, .ref q7, .ref q8, .ref q9])), (q1, .inr (6, [.int 0, .int 0, .ref q_2, .ref q_3, .ref q_4])), (q6, .inl (cI, 96, .inl (fun _ => 0))), (q7, .inl (cI, 70, .inl (fun _ => 0))), (q8, .inl (cI, 70, .inl (fun _ => 0))), (q9, .inl (cI, 501, .inl (fun _ => 0)))] := hD
  refine lv_aload_n hx hb dX2_init_53 rfl (lv_at hl 0 rfl) ?_
  refine lv_aload_n hx hb dX2_init_54 rfl (lv_at hl 2 rfl) ?_
  refine va_putF (D := D) (ci := 2) (v := .ref f) (ty := .object "FlightDesk$Flight") (C := RX2) (T := TX2) (N := 13) hx hb hts iw_k_Plan_2 tyX2 tyX2_ok nmX2 hown hK hP hD hS 0 rfl rfl 1 (by decide) (hts (.fieldLink RX2 35 "FlightDesk$Plan" "flight" "LFlightDesk$Flight;") (by decide +kernel)) (fun _ h9 => h9) rfl hin rfl (by decide +kernel) rfl rfl (Nat.le_of_ble_eq_true rfl) dX2_init_55 (fun H locs hP hD hS => ?_)
  have hP : va_P D vwCl [(h0, .inr (2, [.ref b, .ref f, .int 0, .ref q1, .int 0, .int 0, .int 0, .int 0, .int 0, .ref q6, .ref q7, .ref q8, .ref q9])), (q1, .inr (6, [.int 0, .int 0, .ref q_2, .ref q_3, .ref q_4])), (q6, .inl (cI, 96, .inl (fun _ => 0))), (q7, .inl (cI, 70, .inl (fun _ => 0))), (q8, .inl (cI, 70, .inl (fun _ => 0))), (q9, .inl (cI, 501, .inl (fun _ => 0)))] H := hP
  have hD : va_D A [(h0, .inr (2, [.ref b, .ref f, .int 0, .ref q1, .int 0, .int 0, .int 0, .int 0, .int 0, .ref q6, .ref q7, .ref q8, .ref q9])), (q1, .inr (6, [.int 0, .int 0, .ref q_2, .ref q_3, .ref q_4])), (q6, .inl (cI, 96, .inl (fun _ => 0))), (q7, .inl (cI, 70, .inl (fun _ => 0))), (q8, .inl (cI, 70, .inl (fun _ => 0))), (q9, .inl (cI, 501, .inl (fun _ => 0)))] := hD
  refine lv_aload_n hx hb dX2_init_58 rfl (lv_at hl 0 rfl) ?_
  refine lv_iload_n hx hb dX2_init_59 rfl (lv_at hl 3 rfl) ?_
  refine va_putF (D := D) (ci := 2) (v := .int w) (ty := .int) (C := RX2) (T := TX2) (N := 13) hx hb hts iw_k_Plan_2 tyX2 tyX2_ok nmX2 hown hK hP hD hS 0 rfl rfl 2 (by decide) (hts (.fieldLink RX2 39 "FlightDesk$Plan" "world" "I") (by decide +kernel)) (fun _ h9 => h9) rfl hin rfl (by decide +kernel) rfl rfl (Nat.le_of_ble_eq_true rfl) dX2_init_60 (fun H locs hP hD hS => ?_)
  have hP : va_P D vwCl [(h0, .inr (2, [.ref b, .ref f, .int w, .ref q1, .int 0, .int 0, .int 0, .int 0, .int 0, .ref q6, .ref q7, .ref q8, .ref q9])), (q1, .inr (6, [.int 0, .int 0, .ref q_2, .ref q_3, .ref q_4])), (q6, .inl (cI, 96, .inl (fun _ => 0))), (q7, .inl (cI, 70, .inl (fun _ => 0))), (q8, .inl (cI, 70, .inl (fun _ => 0))), (q9, .inl (cI, 501, .inl (fun _ => 0)))] H := hP
  have hD : va_D A [(h0, .inr (2, [.ref b, .ref f, .int w, .ref q1, .int 0, .int 0, .int 0, .int 0, .int 0, .ref q6, .ref q7, .ref q8, .ref q9])), (q1, .inr (6, [.int 0, .int 0, .ref q_2, .ref q_3, .ref q_4])), (q6, .inl (cI, 96, .inl (fun _ => 0))), (q7, .inl (cI, 70, .inl (fun _ => 0))), (q8, .inl (cI, 70, .inl (fun _ => 0))), (q9, .inl (cI, 501, .inl (fun _ => 0)))] := hD
  have hP9 := hP.sub (ws' := [(h0, .inr (2, [.ref b, .ref f, .int w, .ref q1, .int 0, .int 0, .int 0, .int 0, .int 0, .ref q6, .ref q7, .ref q8, .ref q9]))]) [0] rfl
  have hD9 := hD.sub (ws' := [(h0, .inr (2, [.ref b, .ref f, .int w, .ref q1, .int 0, .int 0, .int 0, .int 0, .int 0, .ref q6, .ref q7, .ref q8, .ref q9]))]) [0] (by decide) rfl
  refine W.widen (k := 8) (n := 790) (by decide) (by decide) ?_
  exact W.vret hx hb hr (fun t ht hW => ⟨⟨(), rfl, trivial, q1, q6, q7, q8, q9, by rw [ht]; exact hP9, hD9⟩, hS.F ht⟩) hS.2.2 dX2_init_63

def wk_k_Scanner : List Cond := .code yX4_init cX4_init 2 none :: ([.methodLink RX4 3 objectInit, .instanceMethod objectInit, .code objectInit ⟨#[0xb1]⟩ 1 none, .arrayClass .int, .fieldLink RX4 11 "FlightDesk$Scanner" "kind" "[I", .fieldLink RX4 15 "FlightDesk$Scanner" "place" "[I", .fieldLink RX4 18 "FlightDesk$Scanner" "value" "[I", .fieldLink RX4 21 "FlightDesk$Scanner" "tape" "LFlightDesk$Tape;"] ++ wsX40)
theorem iw_k_Scanner_4 : ∀ w ∈ wsX40, w ∈ wk_k_Scanner := fun _ h => List.mem_cons_of_mem _ (List.mem_append_right _ h)
set_option maxHeartbeats 4000000 in
set_option maxRecDepth 100000 in
theorem k_Scanner (l : Launch) (D : va_G) (cI cB cP : ClassId) (sz : Nat) (h0 : Nat) (tp : Nat) : Met l yX4_init wk_k_Scanner ({ frames := 1, cells := 3, slots := 36, locals := 12 } : Room) (va_Pc [.ref h0, .ref tp] (Pw D cI cB cP sz [(h0, .inr (4, [.null, .int 0, .null, .null, .null, .int 0]))])) (va_Qv (fun (_ : Unit) => True) (fun _ t => ∃ q2 : Nat, ∃ q3 : Nat, ∃ q4 : Nat, ∃ g2 : Nat → Int32, ∃ g3 : Nat → Int32, ∃ g4 : Nat → Int32, va_P D vwCl [(h0, .inr (4, [.ref tp, .int 0, .ref q2, .ref q3, .ref q4, .int 0])), (q2, .inl (cI, 12, .inl g2)), (q3, .inl (cI, 12, .inl g3)), (q4, .inl (cI, 12, .inl g4))] t.heap ∧ va_D (va_A [(h0, .inr (4, [.null, .int 0, .null, .null, .null, .int 0]))] sz) [(h0, .inr (4, [.ref tp, .int 0, .ref q2, .ref q3, .ref q4, .int 0])), (q2, .inl (cI, 12, .inl g2)), (q3, .inl (cI, 12, .inl g3)), (q4, .inl (cI, 12, .inl g4))]) (va_A [(h0, .inr (4, [.null, .int 0, .null, .null, .null, .int 0]))] sz)) 3 36 (va_A [(h0, .inr (4, [.null, .int 0, .null, .null, .null, .int 0]))] sz) := by
  refine Met.ofW (cc := cX4_init) (maxL := 2) (ret := none) (by decide) rfl ?_
  intro p e s m args below meth c s₁ B hml hv
  obtain ⟨rfl, hsz, hP, ⟨hK, hN⟩, hD0⟩ := hv
  have hx := B.exec
  have hb := B.bytes
  have hr := B.returns
  have hts := atoms_spec (ws := wk_k_Scanner) B.pre
  have hown : s.vm.findClass RX4 = some m.cls := findClass_of_methodNamed B.named
  have hlocks := B.notSynchronized
  have hin : meth.name = "<init>" := (name_of_methodNamed B.named B.method).1
  subst hsz
  have hD := hD0.self (sz := s.heap.size)
  generalize hAe : va_A [(h0, .inr (4, [.null, .int 0, .null, .null, .null, .int 0]))] s.heap.size = A at hD ⊢
  have hA : ∀ q : Nat, s.heap.size ≤ q → A q := fun q h => by rw [← hAe]; exact Or.inr h
  have hS : va_S A s.heap s.heap [] := va_S.rf
  have hP : va_P D vwCl [(h0, .inr (4, [.null, .int 0, .null, .null, .null, .int 0]))] s.heap := hP
  have hl := lv_entry ([.ref h0, .ref tp]) (n := 2) (Nat.le_of_ble_eq_true rfl)
  rw [lg_entry_eq]
  generalize (lg_sl ([.ref h0, .ref tp]) ++ List.replicate (2 - (lg_sl ([.ref h0, .ref tp])).length) Slot.unset).toArray = ls at hl ⊢
  have hl : lv_has ls 2 [(0, .ref h0), (1, .ref tp)] := hl
  refine lv_aload_n hx hb dX4_init_0 rfl (lv_at hl 0 rfl) ?_
  refine W.objInit hx hb hown (hts (.methodLink RX4 3 objectInit) (by decide +kernel)) (hts (.instanceMethod objectInit) (by decide +kernel)) (hts (.code objectInit ⟨#[0xb1]⟩ 1 none) (by decide +kernel)) rfl (by rw [hml]; exact hl.1) rfl dX4_init_1 (Nat.le_of_ble_eq_true rfl) (Nat.le_of_ble_eq_true rfl) ?_
  refine W.eq (g2 := F0 m 4 ls []) rfl ?_
  refine lv_aload_n hx hb dX4_init_4 rfl (lv_at hl 0 rfl) ?_
  refine lv_bipush (v := 12) hx hb dX4_init_5 (by decide) ?_
  refine ny_i (N' := 12) hx hb (hts (.arrayClass .int) (by decide +kernel)) hK hP hD hS hA (by decide) (by decide) (by decide) (Nat.le_of_ble_eq_true rfl) (Nat.le_of_ble_eq_true rfl) dX4_init_7 (fun q1 H hP hD hS => ?_)
  have hP : va_P D vwCl [(h0, .inr (4, [.null, .int 0, .null, .null, .null, .int 0])), (q1, .inl (cI, 12, .inl (fun _ => 0)))] H := hP
  have hD : va_D A [(h0, .inr (4, [.null, .int 0, .null, .null, .null, .int 0])), (q1, .inl (cI, 12, .inl (fun _ => 0)))] := hD
  refine W.widen (k := 1) (n := 12) (by decide) (by decide) ?_
  refine va_putF (D := D) (ci := 4) (v := .ref q1) (ty := .array .int) (C := RX4) (T := TX4) (N := 6) hx hb hts iw_k_Scanner_4 tyX4 tyX4_ok nmX4 hown hK hP hD hS 0 rfl rfl 2 (by decide) (hts (.fieldLink RX4 11 "FlightDesk$Scanner" "kind" "[I") (by decide +kernel)) (fun _ h9 => h9) rfl hin rfl (by decide +kernel) rfl rfl (Nat.le_of_ble_eq_true rfl) dX4_init_9 (fun H locs hP hD hS => ?_)
  have hP : va_P D vwCl [(h0, .inr (4, [.null, .int 0, .ref q1, .null, .null, .int 0])), (q1, .inl (cI, 12, .inl (fun _ => 0)))] H := hP
  have hD : va_D A [(h0, .inr (4, [.null, .int 0, .ref q1, .null, .null, .int 0])), (q1, .inl (cI, 12, .inl (fun _ => 0)))] := hD
  refine lv_aload_n hx hb dX4_init_12 rfl (lv_at hl 0 rfl) ?_
  refine lv_bipush (v := 12) hx hb dX4_init_13 (by decide) ?_
  refine ny_i (N' := 12) hx hb (hts (.arrayClass .int) (by decide +kernel)) hK hP hD hS hA (by decide) (by decide) (by decide) (Nat.le_of_ble_eq_true rfl) (Nat.le_of_ble_eq_true rfl) dX4_init_15 (fun q2 H hP hD hS => ?_)
  have hP : va_P D vwCl [(h0, .inr (4, [.null, .int 0, .ref q1, .null, .null, .int 0])), (q1, .inl (cI, 12, .inl (fun _ => 0))), (q2, .inl (cI, 12, .inl (fun _ => 0)))] H := hP
  have hD : va_D A [(h0, .inr (4, [.null, .int 0, .ref q1, .null, .null, .int 0])), (q1, .inl (cI, 12, .inl (fun _ => 0))), (q2, .inl (cI, 12, .inl (fun _ => 0)))] := hD
  refine W.widen (k := 2) (n := 24) (by decide) (by decide) ?_
  refine va_putF (D := D) (ci := 4) (v := .ref q2) (ty := .array .int) (C := RX4) (T := TX4) (N := 6) hx hb hts iw_k_Scanner_4 tyX4 tyX4_ok nmX4 hown hK hP hD hS 0 rfl rfl 3 (by decide) (hts (.fieldLink RX4 15 "FlightDesk$Scanner" "place" "[I") (by decide +kernel)) (fun _ h9 => h9) rfl hin rfl (by decide +kernel) rfl rfl (Nat.le_of_ble_eq_true rfl) dX4_init_17 (fun H locs hP hD hS => ?_)
  have hP : va_P D vwCl [(h0, .inr (4, [.null, .int 0, .ref q1, .ref q2, .null, .int 0])), (q1, .inl (cI, 12, .inl (fun _ => 0))), (q2, .inl (cI, 12, .inl (fun _ => 0)))] H := hP
  have hD : va_D A [(h0, .inr (4, [.null, .int 0, .ref q1, .ref q2, .null, .int 0])), (q1, .inl (cI, 12, .inl (fun _ => 0))), (q2, .inl (cI, 12, .inl (fun _ => 0)))] := hD
  refine lv_aload_n hx hb dX4_init_20 rfl (lv_at hl 0 rfl) ?_
  refine lv_bipush (v := 12) hx hb dX4_init_21 (by decide) ?_
  refine ny_i (N' := 12) hx hb (hts (.arrayClass .int) (by decide +kernel)) hK hP hD hS hA (by decide) (by decide) (by decide) (Nat.le_of_ble_eq_true rfl) (Nat.le_of_ble_eq_true rfl) dX4_init_23 (fun q3 H hP hD hS => ?_)
  have hP : va_P D vwCl [(h0, .inr (4, [.null, .int 0, .ref q1, .ref q2, .null, .int 0])), (q1, .inl (cI, 12, .inl (fun _ => 0))), (q2, .inl (cI, 12, .inl (fun _ => 0))), (q3, .inl (cI, 12, .inl (fun _ => 0)))] H := hP
  have hD : va_D A [(h0, .inr (4, [.null, .int 0, .ref q1, .ref q2, .null, .int 0])), (q1, .inl (cI, 12, .inl (fun _ => 0))), (q2, .inl (cI, 12, .inl (fun _ => 0))), (q3, .inl (cI, 12, .inl (fun _ => 0)))] := hD
  refine W.widen (k := 3) (n := 36) (by decide) (by decide) ?_
  refine va_putF (D := D) (ci := 4) (v := .ref q3) (ty := .array .int) (C := RX4) (T := TX4) (N := 6) hx hb hts iw_k_Scanner_4 tyX4 tyX4_ok nmX4 hown hK hP hD hS 0 rfl rfl 4 (by decide) (hts (.fieldLink RX4 18 "FlightDesk$Scanner" "value" "[I") (by decide +kernel)) (fun _ h9 => h9) rfl hin rfl (by decide +kernel) rfl rfl (Nat.le_of_ble_eq_true rfl) dX4_init_25 (fun H locs hP hD hS => ?_)
  have hP : va_P D vwCl [(h0, .inr (4, [.null, .int 0, .ref q1, .ref q2, .ref q3, .int 0])), (q1, .inl (cI, 12, .inl (fun _ => 0))), (q2, .inl (cI, 12, .inl (fun _ => 0))), (q3, .inl (cI, 12, .inl (fun _ => 0)))] H := hP
  have hD : va_D A [(h0, .inr (4, [.null, .int 0, .ref q1, .ref q2, .ref q3, .int 0])), (q1, .inl (cI, 12, .inl (fun _ => 0))), (q2, .inl (cI, 12, .inl (fun _ => 0))), (q3, .inl (cI, 12, .inl (fun _ => 0)))] := hD
  refine lv_aload_n hx hb dX4_init_28 rfl (lv_at hl 0 rfl) ?_
  refine lv_aload_n hx hb dX4_init_29 rfl (lv_at hl 1 rfl) ?_
  refine va_putF (D := D) (ci := 4) (v := .ref tp) (ty := .object "FlightDesk$Tape") (C := RX4) (T := TX4) (N := 6) hx hb hts iw_k_Scanner_4 tyX4 tyX4_ok nmX4 hown hK hP hD hS 0 rfl rfl 0 (by decide) (hts (.fieldLink RX4 21 "FlightDesk$Scanner" "tape" "LFlightDesk$Tape;") (by decide +kernel)) (fun _ h9 => h9) rfl hin rfl (by decide +kernel) rfl rfl (Nat.le_of_ble_eq_true rfl) dX4_init_30 (fun H locs hP hD hS => ?_)
  have hP : va_P D vwCl [(h0, .inr (4, [.ref tp, .int 0, .ref q1, .ref q2, .ref q3, .int 0])), (q1, .inl (cI, 12, .inl (fun _ => 0))), (q2, .inl (cI, 12, .inl (fun _ => 0))), (q3, .inl (cI, 12, .inl (fun _ => 0)))] H := hP
  have hD : va_D A [(h0, .inr (4, [.ref tp, .int 0, .ref q1, .ref q2, .ref q3, .int 0])), (q1, .inl (cI, 12, .inl (fun _ => 0))), (q2, .inl (cI, 12, .inl (fun _ => 0))), (q3, .inl (cI, 12, .inl (fun _ => 0)))] := hD
  have hP9 := hP.sub (ws' := [(h0, .inr (4, [.ref tp, .int 0, .ref q1, .ref q2, .ref q3, .int 0])), (q1, .inl (cI, 12, .inl (fun _ => 0))), (q2, .inl (cI, 12, .inl (fun _ => 0))), (q3, .inl (cI, 12, .inl (fun _ => 0)))]) [0, 1, 2, 3] rfl
  have hD9 := hD.sub (ws' := [(h0, .inr (4, [.ref tp, .int 0, .ref q1, .ref q2, .ref q3, .int 0])), (q1, .inl (cI, 12, .inl (fun _ => 0))), (q2, .inl (cI, 12, .inl (fun _ => 0))), (q3, .inl (cI, 12, .inl (fun _ => 0)))]) [0, 1, 2, 3] (by decide) rfl
  refine W.widen (k := 3) (n := 36) (by decide) (by decide) ?_
  exact W.vret hx hb hr (fun t ht hW => ⟨⟨(), rfl, trivial, q1, q2, q3, (fun _ => 0), (fun _ => 0), (fun _ => 0), by rw [ht]; exact hP9, hD9⟩, hS.F ht⟩) hS.2.2 dX4_init_33

def wk_k_Tape : List Cond := .code yX5_init cX5_init 1 none :: ([.methodLink RX5 3 objectInit, .instanceMethod objectInit, .code objectInit ⟨#[0xb1]⟩ 1 none, .arrayClass .int, .fieldLink RX5 9 "FlightDesk$Tape" "bytes" "[I"] ++ wsX50)
theorem iw_k_Tape_5 : ∀ w ∈ wsX50, w ∈ wk_k_Tape := fun _ h => List.mem_cons_of_mem _ (List.mem_append_right _ h)
set_option maxHeartbeats 4000000 in
set_option maxRecDepth 100000 in
theorem k_Tape (l : Launch) (D : va_G) (cI cB cP : ClassId) (sz : Nat) (h0 : Nat) : Met l yX5_init wk_k_Tape ({ frames := 1, cells := 1, slots := 1000, locals := 12 } : Room) (va_Pc [.ref h0] (Pw D cI cB cP sz [(h0, .inr (5, [.null, .int 0]))])) (va_Qv (fun (_ : Unit) => True) (fun _ t => ∃ q1 : Nat, ∃ g1 : Nat → Int32, va_P D vwCl [(h0, .inr (5, [.ref q1, .int 0])), (q1, .inl (cI, 1000, .inl g1))] t.heap ∧ va_D (va_A [(h0, .inr (5, [.null, .int 0]))] sz) [(h0, .inr (5, [.ref q1, .int 0])), (q1, .inl (cI, 1000, .inl g1))]) (va_A [(h0, .inr (5, [.null, .int 0]))] sz)) 1 1000 (va_A [(h0, .inr (5, [.null, .int 0]))] sz) := by
  refine Met.ofW (cc := cX5_init) (maxL := 1) (ret := none) (by decide) rfl ?_
  intro p e s m args below meth c s₁ B hml hv
  obtain ⟨rfl, hsz, hP, ⟨hK, hN⟩, hD0⟩ := hv
  have hx := B.exec
  have hb := B.bytes
  have hr := B.returns
  have hts := atoms_spec (ws := wk_k_Tape) B.pre
  have hown : s.vm.findClass RX5 = some m.cls := findClass_of_methodNamed B.named
  have hlocks := B.notSynchronized
  have hin : meth.name = "<init>" := (name_of_methodNamed B.named B.method).1
  subst hsz
  have hD := hD0.self (sz := s.heap.size)
  generalize hAe : va_A [(h0, .inr (5, [.null, .int 0]))] s.heap.size = A at hD ⊢
  have hA : ∀ q : Nat, s.heap.size ≤ q → A q := fun q h => by rw [← hAe]; exact Or.inr h
  have hS : va_S A s.heap s.heap [] := va_S.rf
  have hP : va_P D vwCl [(h0, .inr (5, [.null, .int 0]))] s.heap := hP
  have hl := lv_entry ([.ref h0]) (n := 1) (Nat.le_of_ble_eq_true rfl)
  rw [lg_entry_eq]
  generalize (lg_sl ([.ref h0]) ++ List.replicate (1 - (lg_sl ([.ref h0])).length) Slot.unset).toArray = ls at hl ⊢
  have hl : lv_has ls 1 [(0, .ref h0)] := hl
  refine lv_aload_n hx hb dX5_init_0 rfl (lv_at hl 0 rfl) ?_
  refine W.objInit hx hb hown (hts (.methodLink RX5 3 objectInit) (by decide +kernel)) (hts (.instanceMethod objectInit) (by decide +kernel)) (hts (.code objectInit ⟨#[0xb1]⟩ 1 none) (by decide +kernel)) rfl (by rw [hml]; exact hl.1) rfl dX5_init_1 (Nat.le_of_ble_eq_true rfl) (Nat.le_of_ble_eq_true rfl) ?_
  refine W.eq (g2 := F0 m 4 ls []) rfl ?_
  refine lv_aload_n hx hb dX5_init_4 rfl (lv_at hl 0 rfl) ?_
  refine lv_sipush (v := 1000) hx hb dX5_init_5 (by decide) ?_
  refine ny_i (N' := 1000) hx hb (hts (.arrayClass .int) (by decide +kernel)) hK hP hD hS hA (by decide) (by decide) (by decide) (Nat.le_of_ble_eq_true rfl) (Nat.le_of_ble_eq_true rfl) dX5_init_8 (fun q1 H hP hD hS => ?_)
  have hP : va_P D vwCl [(h0, .inr (5, [.null, .int 0])), (q1, .inl (cI, 1000, .inl (fun _ => 0)))] H := hP
  have hD : va_D A [(h0, .inr (5, [.null, .int 0])), (q1, .inl (cI, 1000, .inl (fun _ => 0)))] := hD
  refine W.widen (k := 1) (n := 1000) (by decide) (by decide) ?_
  refine va_putF (D := D) (ci := 5) (v := .ref q1) (ty := .array .int) (C := RX5) (T := TX5) (N := 2) hx hb hts iw_k_Tape_5 tyX5 tyX5_ok nmX5 hown hK hP hD hS 0 rfl rfl 0 (by decide) (hts (.fieldLink RX5 9 "FlightDesk$Tape" "bytes" "[I") (by decide +kernel)) (fun _ h9 => h9) rfl hin rfl (by decide +kernel) rfl rfl (Nat.le_of_ble_eq_true rfl) dX5_init_10 (fun H locs hP hD hS => ?_)
  have hP : va_P D vwCl [(h0, .inr (5, [.ref q1, .int 0])), (q1, .inl (cI, 1000, .inl (fun _ => 0)))] H := hP
  have hD : va_D A [(h0, .inr (5, [.ref q1, .int 0])), (q1, .inl (cI, 1000, .inl (fun _ => 0)))] := hD
  have hP9 := hP.sub (ws' := [(h0, .inr (5, [.ref q1, .int 0])), (q1, .inl (cI, 1000, .inl (fun _ => 0)))]) [0, 1] rfl
  have hD9 := hD.sub (ws' := [(h0, .inr (5, [.ref q1, .int 0])), (q1, .inl (cI, 1000, .inl (fun _ => 0)))]) [0, 1] (by decide) rfl
  refine W.widen (k := 1) (n := 1000) (by decide) (by decide) ?_
  exact W.vret hx hb hr (fun t ht hW => ⟨⟨(), rfl, trivial, q1, (fun _ => 0), by rw [ht]; exact hP9, hD9⟩, hS.F ht⟩) hS.2.2 dX5_init_13

def wk_k_Reader : List Cond := .code yX3_init cX3_init 2 none :: ([.methodLink RX3 3 objectInit, .instanceMethod objectInit, .code objectInit ⟨#[0xb1]⟩ 1 none, .classLink RX3 9 RX4, .instantiable RX4 6, .initialized RX4, .instanceMethod yX4_init, .methodLink RX3 11 yX4_init, .code yX4_init cX4_init 2 none, .methodLink RX4 3 objectInit, .arrayClass .int, .fieldLink RX4 11 "FlightDesk$Scanner" "kind" "[I", .fieldLink RX4 15 "FlightDesk$Scanner" "place" "[I", .fieldLink RX4 18 "FlightDesk$Scanner" "value" "[I", .fieldLink RX4 21 "FlightDesk$Scanner" "tape" "LFlightDesk$Tape;", .fieldLink RX3 14 "FlightDesk$Reader" "scanner" "LFlightDesk$Scanner;", .classLink RX3 20 RX0, .instantiable RX0 15, .initialized RX0, .instanceMethod yX0_init, .methodLink RX3 22 yX0_init, .code yX0_init cX0_init 1 none, .methodLink RX0 3 objectInit, .fieldLink RX0 9 "FlightDesk$Book" "from" "[I", .fieldLink RX0 15 "FlightDesk$Book" "to" "[I", .fieldLink RX0 18 "FlightDesk$Book" "miles" "[I", .fieldLink RX0 21 "FlightDesk$Book" "lowest" "[I", .fieldLink RX0 24 "FlightDesk$Book" "highest" "[I", .fieldLink RX0 27 "FlightDesk$Book" "firstDay" "[I", .fieldLink RX0 30 "FlightDesk$Book" "lastDay" "[I", .fieldLink RX0 33 "FlightDesk$Book" "speed" "[I", .fieldLink RX0 36 "FlightDesk$Book" "wind" "[I", .fieldLink RX0 39 "FlightDesk$Book" "burn" "[I", .fieldLink RX0 42 "FlightDesk$Book" "climb" "[I", .fieldLink RX0 45 "FlightDesk$Book" "limit" "[I", .fieldLink RX0 48 "FlightDesk$Book" "height" "[I", .methodLink RX0 51 yX0_clear, .instanceMethod yX0_clear, .selects RX0 yX0_clear yX0_clear, .code yX0_clear cX0_clear 1 none, .fieldLink RX0 54 "FlightDesk$Book" "legCount" "I", .fieldLink RX0 58 "FlightDesk$Book" "lineCount" "I", .methodLink RX0 61 yJ7_fill_53178, .static yJ7_fill_53178, .initialized RJ7, .code yJ7_fill_53178 cJ7_fill_53178 4 none, .fieldLink RX3 23 "FlightDesk$Reader" "draft" "LFlightDesk$Book;", .fieldLink RX3 27 "FlightDesk$Reader" "found" "I", .fieldLink RX3 31 "FlightDesk$Reader" "foundAt" "I"] ++ wsX40 ++ wsX30 ++ wsX00)
theorem iw_k_Reader_4 : ∀ w ∈ wsX40, w ∈ wk_k_Reader := fun _ h => List.mem_cons_of_mem _ (List.mem_append_left _ (List.mem_append_left _ (List.mem_append_right _ h)))
theorem iw_k_Reader_3 : ∀ w ∈ wsX30, w ∈ wk_k_Reader := fun _ h => List.mem_cons_of_mem _ (List.mem_append_left _ (List.mem_append_right _ h))
theorem iw_k_Reader_0 : ∀ w ∈ wsX00, w ∈ wk_k_Reader := fun _ h => List.mem_cons_of_mem _ (List.mem_append_right _ h)
set_option maxRecDepth 20000 in
theorem gw_k_Reader_0 : GoodIn wk_k_Reader wk_k_Scanner := goodIn_sub (by decide +kernel) (by decide +kernel)
set_option maxRecDepth 20000 in
theorem gw_k_Reader_1 : GoodIn wk_k_Reader wk_k_Book := goodIn_sub (by decide +kernel) (by decide +kernel)
set_option maxHeartbeats 4000000 in
set_option maxRecDepth 100000 in
theorem k_Reader (l : Launch) (D : va_G) (cI cB cP : ClassId) (sz : Nat) (h0 : Nat) (tp : Nat) : Met l yX3_init wk_k_Reader ({ frames := 3, cells := 18, slots := 510, locals := 63 } : Room) (va_Pc [.ref h0, .ref tp] (Pw D cI cB cP sz [(h0, .inr (3, [.null, .null, .int 0, .int 0, .int 0]))])) (va_Qv (fun (_ : Unit) => True) (fun _ t => ∃ sc : Nat, ∃ dr : Nat, ∃ s2 : Nat, ∃ s3 : Nat, ∃ s4 : Nat, ∃ gs2 : Nat → Int32, ∃ gs3 : Nat → Int32, ∃ gs4 : Nat → Int32, ∃ q2 : Nat, ∃ q3 : Nat, ∃ q4 : Nat, ∃ q5 : Nat, ∃ q6 : Nat, ∃ q7 : Nat, ∃ q8 : Nat, ∃ q9 : Nat, ∃ q10 : Nat, ∃ q11 : Nat, ∃ q12 : Nat, ∃ q13 : Nat, ∃ q14 : Nat, ∃ g2 : Nat → Int32, ∃ g3 : Nat → Int32, ∃ g4 : Nat → Int32, ∃ g5 : Nat → Int32, ∃ g6 : Nat → Int32, ∃ g7 : Nat → Int32, ∃ g8 : Nat → Int32, ∃ g9 : Nat → Int32, ∃ g10 : Nat → Int32, ∃ g11 : Nat → Int32, ∃ g12 : Nat → Int32, ∃ g13 : Nat → Int32, ∃ g14 : Nat → Int32, va_P D vwCl [(h0, .inr (3, [.ref sc, .ref dr, .int 0, .int (-1), .int 0])), (sc, .inr (4, [.ref tp, .int 0, .ref s2, .ref s3, .ref s4, .int 0])), (s2, .inl (cI, 12, .inl gs2)), (s3, .inl (cI, 12, .inl gs3)), (s4, .inl (cI, 12, .inl gs4)), (dr, .inr (0, [.int 0, .int 0, .ref q2, .ref q3, .ref q4, .ref q5, .ref q6, .ref q7, .ref q8, .ref q9, .ref q10, .ref q11, .ref q12, .ref q13, .ref q14])), (q2, .inl (cI, 16, .inl g2)), (q3, .inl (cI, 16, .inl g3)), (q4, .inl (cI, 16, .inl g4)), (q5, .inl (cI, 16, .inl g5)), (q6, .inl (cI, 16, .inl g6)), (q7, .inl (cI, 16, .inl g7)), (q8, .inl (cI, 16, .inl g8)), (q9, .inl (cI, 6, .inl g9)), (q10, .inl (cI, 288, .inl g10)), (q11, .inl (cI, 30, .inl g11)), (q12, .inl (cI, 6, .inl g12)), (q13, .inl (cI, 4, .inl g13)), (q14, .inl (cI, 7, .inl g14))] t.heap ∧ va_D (va_A [(h0, .inr (3, [.null, .null, .int 0, .int 0, .int 0]))] sz) [(h0, .inr (3, [.ref sc, .ref dr, .int 0, .int (-1), .int 0])), (sc, .inr (4, [.ref tp, .int 0, .ref s2, .ref s3, .ref s4, .int 0])), (s2, .inl (cI, 12, .inl gs2)), (s3, .inl (cI, 12, .inl gs3)), (s4, .inl (cI, 12, .inl gs4)), (dr, .inr (0, [.int 0, .int 0, .ref q2, .ref q3, .ref q4, .ref q5, .ref q6, .ref q7, .ref q8, .ref q9, .ref q10, .ref q11, .ref q12, .ref q13, .ref q14])), (q2, .inl (cI, 16, .inl g2)), (q3, .inl (cI, 16, .inl g3)), (q4, .inl (cI, 16, .inl g4)), (q5, .inl (cI, 16, .inl g5)), (q6, .inl (cI, 16, .inl g6)), (q7, .inl (cI, 16, .inl g7)), (q8, .inl (cI, 16, .inl g8)), (q9, .inl (cI, 6, .inl g9)), (q10, .inl (cI, 288, .inl g10)), (q11, .inl (cI, 30, .inl g11)), (q12, .inl (cI, 6, .inl g12)), (q13, .inl (cI, 4, .inl g13)), (q14, .inl (cI, 7, .inl g14))]) (va_A [(h0, .inr (3, [.null, .null, .int 0, .int 0, .int 0]))] sz)) 18 510 (va_A [(h0, .inr (3, [.null, .null, .int 0, .int 0, .int 0]))] sz) := by
  refine Met.ofW (cc := cX3_init) (maxL := 2) (ret := none) (by decide) rfl ?_
  intro p e s m args below meth c s₁ B hml hv
  obtain ⟨rfl, hsz, hP, ⟨hK, hN⟩, hD0⟩ := hv
  have hx := B.exec
  have hb := B.bytes
  have hr := B.returns
  have hts := atoms_spec (ws := wk_k_Reader) B.pre
  have hown : s.vm.findClass RX3 = some m.cls := findClass_of_methodNamed B.named
  have hlocks := B.notSynchronized
  have hin : meth.name = "<init>" := (name_of_methodNamed B.named B.method).1
  subst hsz
  have hD := hD0.self (sz := s.heap.size)
  generalize hAe : va_A [(h0, .inr (3, [.null, .null, .int 0, .int 0, .int 0]))] s.heap.size = A at hD ⊢
  have hA : ∀ q : Nat, s.heap.size ≤ q → A q := fun q h => by rw [← hAe]; exact Or.inr h
  have hS : va_S A s.heap s.heap [] := va_S.rf
  have hP : va_P D vwCl [(h0, .inr (3, [.null, .null, .int 0, .int 0, .int 0]))] s.heap := hP
  have hl := lv_entry ([.ref h0, .ref tp]) (n := 2) (Nat.le_of_ble_eq_true rfl)
  rw [lg_entry_eq]
  generalize (lg_sl ([.ref h0, .ref tp]) ++ List.replicate (2 - (lg_sl ([.ref h0, .ref tp])).length) Slot.unset).toArray = ls at hl ⊢
  have hl : lv_has ls 2 [(0, .ref h0), (1, .ref tp)] := hl
  refine lv_aload_n hx hb dX3_init_0 rfl (lv_at hl 0 rfl) ?_
  refine W.objInit hx hb hown (hts (.methodLink RX3 3 objectInit) (by decide +kernel)) (hts (.instanceMethod objectInit) (by decide +kernel)) (hts (.code objectInit ⟨#[0xb1]⟩ 1 none) (by decide +kernel)) rfl (by rw [hml]; exact hl.1) rfl dX3_init_1 (Nat.le_of_ble_eq_true rfl) (Nat.le_of_ble_eq_true rfl) ?_
  refine W.eq (g2 := F0 m 4 ls []) rfl ?_
  refine lv_aload_n hx hb dX3_init_4 rfl (lv_at hl 0 rfl) ?_
  refine va_new (ci := 4) (fs := [.null, .int 0, .null, .null, .null, .int 0]) (C := RX4) (T := TX4) (N := 6) hx hb hts iw_k_Reader_4 tyX4 tyX4_ok hown (hts (.classLink RX3 9 RX4) (by decide +kernel)) (hts (.instantiable RX4 6) (by decide +kernel)) (hts (.initialized RX4) (by decide +kernel)) hK hP hD hS hA rfl (by decide +kernel) (Nat.le_of_ble_eq_true rfl) (Nat.le_of_ble_eq_true rfl) dX3_init_5 (fun q1 H hP hD hS => ?_)
  have hP : va_P D vwCl [(h0, .inr (3, [.null, .null, .int 0, .int 0, .int 0])), (q1, .inr (4, [.null, .int 0, .null, .null, .null, .int 0]))] H := hP
  have hD : va_D A [(h0, .inr (3, [.null, .null, .int 0, .int 0, .int 0])), (q1, .inr (4, [.null, .int 0, .null, .null, .null, .int 0]))] := hD
  refine W.widen (k := 1) (n := 6) (by decide) (by decide) ?_
  refine lv_dup hx hb dX3_init_8 rfl ?_
  refine lv_aload_n hx hb dX3_init_9 rfl (lv_at hl 1 rfl) ?_
  have hPc := hP.sub (ws' := [(q1, .inr (4, [.null, .int 0, .null, .null, .null, .int 0]))]) [1] rfl
  have hDc := hD.sub (ws' := [(q1, .inr (4, [.null, .int 0, .null, .null, .null, .int 0]))]) [1] (by decide) rfl
  have hFc := va_free (wc := [(q1, .inr (4, [.null, .int 0, .null, .null, .null, .int 0]))]) hD hS hA [1] rfl
  refine va_callv (va_runI (As := [.ref tp]) (rest := [.ref q1, .ref h0]) ⟨hx, hb, hml, hown, hts⟩ (k_Scanner l D cI cB cP H.size q1 tp) (cwI 1 hts gw_k_Reader_0 rfl rfl rfl (hts (.initialized RX4) (by decide +kernel)) (hts (.methodLink RX3 11 yX4_init) (by decide +kernel)) (hts (.instanceMethod yX4_init) (by decide +kernel)) rfl (by decide +kernel) ⟨Nat.le_of_ble_eq_true rfl, Nat.le_of_ble_eq_true rfl⟩) ⟨ny_blind, ny_pre hPc hK hN hDc⟩ rfl rfl hl.1 rfl (lv_room (Nat.le_of_ble_eq_true rfl)) dX3_init_10 ⟨Nat.le_of_ble_eq_true rfl, Nat.le_of_ble_eq_true rfl⟩) hS (fun q _ h => hFc q h) hFc (fun u t H locs ht hvm hw hB hz1 hk1 hS => ?_)
  obtain ⟨q_2, q_3, q_4, g_5, g_6, g_7, hP1, hD1⟩ := hB
  rw [ht] at hP1
  obtain ⟨hP, hD⟩ := va_join (wr := [(h0, .inr (3, [.null, .null, .int 0, .int 0, .int 0]))]) (w1 := [(q1, .inr (4, [.ref tp, .int 0, .ref q_2, .ref q_3, .ref q_4, .int 0])), (q_2, .inl (cI, 12, .inl g_5)), (q_3, .inl (cI, 12, .inl g_6)), (q_4, .inl (cI, 12, .inl g_7))]) hP hD [1] [0] rfl rfl (by decide) (by decide) hk1 hFc hP1 hD1
  have hP : va_P D vwCl [(h0, .inr (3, [.null, .null, .int 0, .int 0, .int 0])), (q1, .inr (4, [.ref tp, .int 0, .ref q_2, .ref q_3, .ref q_4, .int 0])), (q_2, .inl (cI, 12, .inl g_5)), (q_3, .inl (cI, 12, .inl g_6)), (q_4, .inl (cI, 12, .inl g_7))] H := hP
  have hD : va_D A [(h0, .inr (3, [.null, .null, .int 0, .int 0, .int 0])), (q1, .inr (4, [.ref tp, .int 0, .ref q_2, .ref q_3, .ref q_4, .int 0])), (q_2, .inl (cI, 12, .inl g_5)), (q_3, .inl (cI, 12, .inl g_6)), (q_4, .inl (cI, 12, .inl g_7))] := hD
  refine W.widen (k := 4) (n := 42) (by decide) (by decide) ?_
  refine va_putF (D := D) (ci := 3) (v := .ref q1) (ty := .object "FlightDesk$Scanner") (C := RX3) (T := TX3) (N := 5) hx hb hts iw_k_Reader_3 tyX3 tyX3_ok nmX3 hown hK hP hD hS 0 rfl rfl 0 (by decide) (hts (.fieldLink RX3 14 "FlightDesk$Reader" "scanner" "LFlightDesk$Scanner;") (by decide +kernel)) (fun _ h9 => h9) rfl hin rfl (by decide +kernel) rfl rfl (Nat.le_of_ble_eq_true rfl) dX3_init_13 (fun H locs hP hD hS => ?_)
  have hP : va_P D vwCl [(h0, .inr (3, [.ref q1, .null, .int 0, .int 0, .int 0])), (q1, .inr (4, [.ref tp, .int 0, .ref q_2, .ref q_3, .ref q_4, .int 0])), (q_2, .inl (cI, 12, .inl g_5)), (q_3, .inl (cI, 12, .inl g_6)), (q_4, .inl (cI, 12, .inl g_7))] H := hP
  have hD : va_D A [(h0, .inr (3, [.ref q1, .null, .int 0, .int 0, .int 0])), (q1, .inr (4, [.ref tp, .int 0, .ref q_2, .ref q_3, .ref q_4, .int 0])), (q_2, .inl (cI, 12, .inl g_5)), (q_3, .inl (cI, 12, .inl g_6)), (q_4, .inl (cI, 12, .inl g_7))] := hD
  refine lv_aload_n hx hb dX3_init_16 rfl (lv_at hl 0 rfl) ?_
  refine va_new (ci := 0) (fs := [.int 0, .int 0, .null, .null, .null, .null, .null, .null, .null, .null, .null, .null, .null, .null, .null]) (C := RX0) (T := TX0) (N := 15) hx hb hts iw_k_Reader_0 tyX0 tyX0_ok hown (hts (.classLink RX3 20 RX0) (by decide +kernel)) (hts (.instantiable RX0 15) (by decide +kernel)) (hts (.initialized RX0) (by decide +kernel)) hK hP hD hS hA rfl (by decide +kernel) (Nat.le_of_ble_eq_true rfl) (Nat.le_of_ble_eq_true rfl) dX3_init_17 (fun q9 H hP hD hS => ?_)
  have hP : va_P D vwCl [(h0, .inr (3, [.ref q1, .null, .int 0, .int 0, .int 0])), (q1, .inr (4, [.ref tp, .int 0, .ref q_2, .ref q_3, .ref q_4, .int 0])), (q_2, .inl (cI, 12, .inl g_5)), (q_3, .inl (cI, 12, .inl g_6)), (q_4, .inl (cI, 12, .inl g_7)), (q9, .inr (0, [.int 0, .int 0, .null, .null, .null, .null, .null, .null, .null, .null, .null, .null, .null, .null, .null]))] H := hP
  have hD : va_D A [(h0, .inr (3, [.ref q1, .null, .int 0, .int 0, .int 0])), (q1, .inr (4, [.ref tp, .int 0, .ref q_2, .ref q_3, .ref q_4, .int 0])), (q_2, .inl (cI, 12, .inl g_5)), (q_3, .inl (cI, 12, .inl g_6)), (q_4, .inl (cI, 12, .inl g_7)), (q9, .inr (0, [.int 0, .int 0, .null, .null, .null, .null, .null, .null, .null, .null, .null, .null, .null, .null, .null]))] := hD
  refine W.widen (k := 5) (n := 57) (by decide) (by decide) ?_
  refine lv_dup hx hb dX3_init_20 rfl ?_
  have hPc := hP.sub (ws' := [(q9, .inr (0, [.int 0, .int 0, .null, .null, .null, .null, .null, .null, .null, .null, .null, .null, .null, .null, .null]))]) [5] rfl
  have hDc := hD.sub (ws' := [(q9, .inr (0, [.int 0, .int 0, .null, .null, .null, .null, .null, .null, .null, .null, .null, .null, .null, .null, .null]))]) [5] (by decide) rfl
  have hFc := va_free (wc := [(q9, .inr (0, [.int 0, .int 0, .null, .null, .null, .null, .null, .null, .null, .null, .null, .null, .null, .null, .null]))]) hD hS hA [5] rfl
  refine va_callv (va_runI (As := []) (rest := [.ref q9, .ref h0]) ⟨hx, hb, hml, hown, hts⟩ (k_Book l D cI cB cP H.size q9) (cwI 0 hts gw_k_Reader_1 rfl rfl rfl (hts (.initialized RX0) (by decide +kernel)) (hts (.methodLink RX3 22 yX0_init) (by decide +kernel)) (hts (.instanceMethod yX0_init) (by decide +kernel)) rfl (by decide +kernel) ⟨Nat.le_of_ble_eq_true rfl, Nat.le_of_ble_eq_true rfl⟩) ⟨ny_blind, ny_pre hPc hK hN hDc⟩ rfl rfl hl.1 rfl (lv_room (Nat.le_of_ble_eq_true rfl)) dX3_init_21 ⟨Nat.le_of_ble_eq_true rfl, Nat.le_of_ble_eq_true rfl⟩) hS (fun q _ h => hFc q h) hFc (fun u t H locs ht hvm hw hB hz1 hk1 hS => ?_)
  obtain ⟨q_10, q_11, q_12, q_13, q_14, q_15, q_16, q_17, q_18, q_19, q_20, q_21, q_22, g_23, g_24, g_25, g_26, g_27, g_28, g_29, g_30, g_31, g_32, g_33, g_34, g_35, hp37, hp38, hp39, hp40, hp41, hP1, hD1⟩ := hB
  rw [ht] at hP1
  obtain ⟨hP, hD⟩ := va_join (wr := [(h0, .inr (3, [.ref q1, .null, .int 0, .int 0, .int 0])), (q1, .inr (4, [.ref tp, .int 0, .ref q_2, .ref q_3, .ref q_4, .int 0])), (q_2, .inl (cI, 12, .inl g_5)), (q_3, .inl (cI, 12, .inl g_6)), (q_4, .inl (cI, 12, .inl g_7))]) (w1 := [(q9, .inr (0, [.int 0, .int 0, .ref q_10, .ref q_11, .ref q_12, .ref q_13, .ref q_14, .ref q_15, .ref q_16, .ref q_17, .ref q_18, .ref q_19, .ref q_20, .ref q_21, .ref q_22])), (q_10, .inl (cI, 16, .inl g_23)), (q_11, .inl (cI, 16, .inl g_24)), (q_12, .inl (cI, 16, .inl g_25)), (q_13, .inl (cI, 16, .inl g_26)), (q_14, .inl (cI, 16, .inl g_27)), (q_15, .inl (cI, 16, .inl g_28)), (q_16, .inl (cI, 16, .inl g_29)), (q_17, .inl (cI, 6, .inl g_30)), (q_18, .inl (cI, 288, .inl g_31)), (q_19, .inl (cI, 30, .inl g_32)), (q_20, .inl (cI, 6, .inl g_33)), (q_21, .inl (cI, 4, .inl g_34)), (q_22, .inl (cI, 7, .inl g_35))]) hP hD [5] [0, 1, 2, 3, 4] rfl rfl (by decide) (by decide) hk1 hFc hP1 hD1
  have hP : va_P D vwCl [(h0, .inr (3, [.ref q1, .null, .int 0, .int 0, .int 0])), (q1, .inr (4, [.ref tp, .int 0, .ref q_2, .ref q_3, .ref q_4, .int 0])), (q_2, .inl (cI, 12, .inl g_5)), (q_3, .inl (cI, 12, .inl g_6)), (q_4, .inl (cI, 12, .inl g_7)), (q9, .inr (0, [.int 0, .int 0, .ref q_10, .ref q_11, .ref q_12, .ref q_13, .ref q_14, .ref q_15, .ref q_16, .ref q_17, .ref q_18, .ref q_19, .ref q_20, .ref q_21, .ref q_22])), (q_10, .inl (cI, 16, .inl g_23)), (q_11, .inl (cI, 16, .inl g_24)), (q_12, .inl (cI, 16, .inl g_25)), (q_13, .inl (cI, 16, .inl g_26)), (q_14, .inl (cI, 16, .inl g_27)), (q_15, .inl (cI, 16, .inl g_28)), (q_16, .inl (cI, 16, .inl g_29)), (q_17, .inl (cI, 6, .inl g_30)), (q_18, .inl (cI, 288, .inl g_31)), (q_19, .inl (cI, 30, .inl g_32)), (q_20, .inl (cI, 6, .inl g_33)), (q_21, .inl (cI, 4, .inl g_34)), (q_22, .inl (cI, 7, .inl g_35))] H := hP
  have hD : va_D A [(h0, .inr (3, [.ref q1, .null, .int 0, .int 0, .int 0])), (q1, .inr (4, [.ref tp, .int 0, .ref q_2, .ref q_3, .ref q_4, .int 0])), (q_2, .inl (cI, 12, .inl g_5)), (q_3, .inl (cI, 12, .inl g_6)), (q_4, .inl (cI, 12, .inl g_7)), (q9, .inr (0, [.int 0, .int 0, .ref q_10, .ref q_11, .ref q_12, .ref q_13, .ref q_14, .ref q_15, .ref q_16, .ref q_17, .ref q_18, .ref q_19, .ref q_20, .ref q_21, .ref q_22])), (q_10, .inl (cI, 16, .inl g_23)), (q_11, .inl (cI, 16, .inl g_24)), (q_12, .inl (cI, 16, .inl g_25)), (q_13, .inl (cI, 16, .inl g_26)), (q_14, .inl (cI, 16, .inl g_27)), (q_15, .inl (cI, 16, .inl g_28)), (q_16, .inl (cI, 16, .inl g_29)), (q_17, .inl (cI, 6, .inl g_30)), (q_18, .inl (cI, 288, .inl g_31)), (q_19, .inl (cI, 30, .inl g_32)), (q_20, .inl (cI, 6, .inl g_33)), (q_21, .inl (cI, 4, .inl g_34)), (q_22, .inl (cI, 7, .inl g_35))] := hD
  refine W.widen (k := 18) (n := 510) (by decide) (by decide) ?_
  refine va_putF (D := D) (ci := 3) (v := .ref q9) (ty := .object "FlightDesk$Book") (C := RX3) (T := TX3) (N := 5) hx hb hts iw_k_Reader_3 tyX3 tyX3_ok nmX3 hown hK hP hD hS 0 rfl rfl 1 (by decide) (hts (.fieldLink RX3 23 "FlightDesk$Reader" "draft" "LFlightDesk$Book;") (by decide +kernel)) (fun _ h9 => h9) rfl hin rfl (by decide +kernel) rfl rfl (Nat.le_of_ble_eq_true rfl) dX3_init_24 (fun H locs hP hD hS => ?_)
  have hP : va_P D vwCl [(h0, .inr (3, [.ref q1, .ref q9, .int 0, .int 0, .int 0])), (q1, .inr (4, [.ref tp, .int 0, .ref q_2, .ref q_3, .ref q_4, .int 0])), (q_2, .inl (cI, 12, .inl g_5)), (q_3, .inl (cI, 12, .inl g_6)), (q_4, .inl (cI, 12, .inl g_7)), (q9, .inr (0, [.int 0, .int 0, .ref q_10, .ref q_11, .ref q_12, .ref q_13, .ref q_14, .ref q_15, .ref q_16, .ref q_17, .ref q_18, .ref q_19, .ref q_20, .ref q_21, .ref q_22])), (q_10, .inl (cI, 16, .inl g_23)), (q_11, .inl (cI, 16, .inl g_24)), (q_12, .inl (cI, 16, .inl g_25)), (q_13, .inl (cI, 16, .inl g_26)), (q_14, .inl (cI, 16, .inl g_27)), (q_15, .inl (cI, 16, .inl g_28)), (q_16, .inl (cI, 16, .inl g_29)), (q_17, .inl (cI, 6, .inl g_30)), (q_18, .inl (cI, 288, .inl g_31)), (q_19, .inl (cI, 30, .inl g_32)), (q_20, .inl (cI, 6, .inl g_33)), (q_21, .inl (cI, 4, .inl g_34)), (q_22, .inl (cI, 7, .inl g_35))] H := hP
  have hD : va_D A [(h0, .inr (3, [.ref q1, .ref q9, .int 0, .int 0, .int 0])), (q1, .inr (4, [.ref tp, .int 0, .ref q_2, .ref q_3, .ref q_4, .int 0])), (q_2, .inl (cI, 12, .inl g_5)), (q_3, .inl (cI, 12, .inl g_6)), (q_4, .inl (cI, 12, .inl g_7)), (q9, .inr (0, [.int 0, .int 0, .ref q_10, .ref q_11, .ref q_12, .ref q_13, .ref q_14, .ref q_15, .ref q_16, .ref q_17, .ref q_18, .ref q_19, .ref q_20, .ref q_21, .ref q_22])), (q_10, .inl (cI, 16, .inl g_23)), (q_11, .inl (cI, 16, .inl g_24)), (q_12, .inl (cI, 16, .inl g_25)), (q_13, .inl (cI, 16, .inl g_26)), (q_14, .inl (cI, 16, .inl g_27)), (q_15, .inl (cI, 16, .inl g_28)), (q_16, .inl (cI, 16, .inl g_29)), (q_17, .inl (cI, 6, .inl g_30)), (q_18, .inl (cI, 288, .inl g_31)), (q_19, .inl (cI, 30, .inl g_32)), (q_20, .inl (cI, 6, .inl g_33)), (q_21, .inl (cI, 4, .inl g_34)), (q_22, .inl (cI, 7, .inl g_35))] := hD
  refine lv_aload_n hx hb dX3_init_27 rfl (lv_at hl 0 rfl) ?_
  refine lv_iconst (v := 0) hx hb dX3_init_28 (by decide) ?_
  refine va_put (D := D) (ci := 3) (v := .int 0) (ty := .int) (C := RX3) (T := TX3) (N := 5) hx hb hts iw_k_Reader_3 tyX3 tyX3_ok nmX3 hown hK hP hD hS 0 rfl rfl 2 (by decide) (hts (.fieldLink RX3 27 "FlightDesk$Reader" "found" "I") (by decide +kernel)) (fun _ h9 => h9) rfl (by decide +kernel) rfl rfl (Nat.le_of_ble_eq_true rfl) dX3_init_29 (fun H locs hP hD hS => ?_)
  have hP : va_P D vwCl [(h0, .inr (3, [.ref q1, .ref q9, .int 0, .int 0, .int 0])), (q1, .inr (4, [.ref tp, .int 0, .ref q_2, .ref q_3, .ref q_4, .int 0])), (q_2, .inl (cI, 12, .inl g_5)), (q_3, .inl (cI, 12, .inl g_6)), (q_4, .inl (cI, 12, .inl g_7)), (q9, .inr (0, [.int 0, .int 0, .ref q_10, .ref q_11, .ref q_12, .ref q_13, .ref q_14, .ref q_15, .ref q_16, .ref q_17, .ref q_18, .ref q_19, .ref q_20, .ref q_21, .ref q_22])), (q_10, .inl (cI, 16, .inl g_23)), (q_11, .inl (cI, 16, .inl g_24)), (q_12, .inl (cI, 16, .inl g_25)), (q_13, .inl (cI, 16, .inl g_26)), (q_14, .inl (cI, 16, .inl g_27)), (q_15, .inl (cI, 16, .inl g_28)), (q_16, .inl (cI, 16, .inl g_29)), (q_17, .inl (cI, 6, .inl g_30)), (q_18, .inl (cI, 288, .inl g_31)), (q_19, .inl (cI, 30, .inl g_32)), (q_20, .inl (cI, 6, .inl g_33)), (q_21, .inl (cI, 4, .inl g_34)), (q_22, .inl (cI, 7, .inl g_35))] H := hP
  have hD : va_D A [(h0, .inr (3, [.ref q1, .ref q9, .int 0, .int 0, .int 0])), (q1, .inr (4, [.ref tp, .int 0, .ref q_2, .ref q_3, .ref q_4, .int 0])), (q_2, .inl (cI, 12, .inl g_5)), (q_3, .inl (cI, 12, .inl g_6)), (q_4, .inl (cI, 12, .inl g_7)), (q9, .inr (0, [.int 0, .int 0, .ref q_10, .ref q_11, .ref q_12, .ref q_13, .ref q_14, .ref q_15, .ref q_16, .ref q_17, .ref q_18, .ref q_19, .ref q_20, .ref q_21, .ref q_22])), (q_10, .inl (cI, 16, .inl g_23)), (q_11, .inl (cI, 16, .inl g_24)), (q_12, .inl (cI, 16, .inl g_25)), (q_13, .inl (cI, 16, .inl g_26)), (q_14, .inl (cI, 16, .inl g_27)), (q_15, .inl (cI, 16, .inl g_28)), (q_16, .inl (cI, 16, .inl g_29)), (q_17, .inl (cI, 6, .inl g_30)), (q_18, .inl (cI, 288, .inl g_31)), (q_19, .inl (cI, 30, .inl g_32)), (q_20, .inl (cI, 6, .inl g_33)), (q_21, .inl (cI, 4, .inl g_34)), (q_22, .inl (cI, 7, .inl g_35))] := hD
  refine lv_aload_n hx hb dX3_init_32 rfl (lv_at hl 0 rfl) ?_
  refine lv_iconst (v := (-1)) hx hb dX3_init_33 (by decide) ?_
  refine va_put (D := D) (ci := 3) (v := .int (-1)) (ty := .int) (C := RX3) (T := TX3) (N := 5) hx hb hts iw_k_Reader_3 tyX3 tyX3_ok nmX3 hown hK hP hD hS 0 rfl rfl 3 (by decide) (hts (.fieldLink RX3 31 "FlightDesk$Reader" "foundAt" "I") (by decide +kernel)) (fun _ h9 => h9) rfl (by decide +kernel) rfl rfl (Nat.le_of_ble_eq_true rfl) dX3_init_34 (fun H locs hP hD hS => ?_)
  have hP : va_P D vwCl [(h0, .inr (3, [.ref q1, .ref q9, .int 0, .int (-1), .int 0])), (q1, .inr (4, [.ref tp, .int 0, .ref q_2, .ref q_3, .ref q_4, .int 0])), (q_2, .inl (cI, 12, .inl g_5)), (q_3, .inl (cI, 12, .inl g_6)), (q_4, .inl (cI, 12, .inl g_7)), (q9, .inr (0, [.int 0, .int 0, .ref q_10, .ref q_11, .ref q_12, .ref q_13, .ref q_14, .ref q_15, .ref q_16, .ref q_17, .ref q_18, .ref q_19, .ref q_20, .ref q_21, .ref q_22])), (q_10, .inl (cI, 16, .inl g_23)), (q_11, .inl (cI, 16, .inl g_24)), (q_12, .inl (cI, 16, .inl g_25)), (q_13, .inl (cI, 16, .inl g_26)), (q_14, .inl (cI, 16, .inl g_27)), (q_15, .inl (cI, 16, .inl g_28)), (q_16, .inl (cI, 16, .inl g_29)), (q_17, .inl (cI, 6, .inl g_30)), (q_18, .inl (cI, 288, .inl g_31)), (q_19, .inl (cI, 30, .inl g_32)), (q_20, .inl (cI, 6, .inl g_33)), (q_21, .inl (cI, 4, .inl g_34)), (q_22, .inl (cI, 7, .inl g_35))] H := hP
  have hD : va_D A [(h0, .inr (3, [.ref q1, .ref q9, .int 0, .int (-1), .int 0])), (q1, .inr (4, [.ref tp, .int 0, .ref q_2, .ref q_3, .ref q_4, .int 0])), (q_2, .inl (cI, 12, .inl g_5)), (q_3, .inl (cI, 12, .inl g_6)), (q_4, .inl (cI, 12, .inl g_7)), (q9, .inr (0, [.int 0, .int 0, .ref q_10, .ref q_11, .ref q_12, .ref q_13, .ref q_14, .ref q_15, .ref q_16, .ref q_17, .ref q_18, .ref q_19, .ref q_20, .ref q_21, .ref q_22])), (q_10, .inl (cI, 16, .inl g_23)), (q_11, .inl (cI, 16, .inl g_24)), (q_12, .inl (cI, 16, .inl g_25)), (q_13, .inl (cI, 16, .inl g_26)), (q_14, .inl (cI, 16, .inl g_27)), (q_15, .inl (cI, 16, .inl g_28)), (q_16, .inl (cI, 16, .inl g_29)), (q_17, .inl (cI, 6, .inl g_30)), (q_18, .inl (cI, 288, .inl g_31)), (q_19, .inl (cI, 30, .inl g_32)), (q_20, .inl (cI, 6, .inl g_33)), (q_21, .inl (cI, 4, .inl g_34)), (q_22, .inl (cI, 7, .inl g_35))] := hD
  have hP9 := hP.sub (ws' := [(h0, .inr (3, [.ref q1, .ref q9, .int 0, .int (-1), .int 0])), (q1, .inr (4, [.ref tp, .int 0, .ref q_2, .ref q_3, .ref q_4, .int 0])), (q_2, .inl (cI, 12, .inl g_5)), (q_3, .inl (cI, 12, .inl g_6)), (q_4, .inl (cI, 12, .inl g_7)), (q9, .inr (0, [.int 0, .int 0, .ref q_10, .ref q_11, .ref q_12, .ref q_13, .ref q_14, .ref q_15, .ref q_16, .ref q_17, .ref q_18, .ref q_19, .ref q_20, .ref q_21, .ref q_22])), (q_10, .inl (cI, 16, .inl g_23)), (q_11, .inl (cI, 16, .inl g_24)), (q_12, .inl (cI, 16, .inl g_25)), (q_13, .inl (cI, 16, .inl g_26)), (q_14, .inl (cI, 16, .inl g_27)), (q_15, .inl (cI, 16, .inl g_28)), (q_16, .inl (cI, 16, .inl g_29)), (q_17, .inl (cI, 6, .inl g_30)), (q_18, .inl (cI, 288, .inl g_31)), (q_19, .inl (cI, 30, .inl g_32)), (q_20, .inl (cI, 6, .inl g_33)), (q_21, .inl (cI, 4, .inl g_34)), (q_22, .inl (cI, 7, .inl g_35))]) [0, 1, 2, 3, 4, 5, 6, 7, 8, 9, 10, 11, 12, 13, 14, 15, 16, 17, 18] rfl
  have hD9 := hD.sub (ws' := [(h0, .inr (3, [.ref q1, .ref q9, .int 0, .int (-1), .int 0])), (q1, .inr (4, [.ref tp, .int 0, .ref q_2, .ref q_3, .ref q_4, .int 0])), (q_2, .inl (cI, 12, .inl g_5)), (q_3, .inl (cI, 12, .inl g_6)), (q_4, .inl (cI, 12, .inl g_7)), (q9, .inr (0, [.int 0, .int 0, .ref q_10, .ref q_11, .ref q_12, .ref q_13, .ref q_14, .ref q_15, .ref q_16, .ref q_17, .ref q_18, .ref q_19, .ref q_20, .ref q_21, .ref q_22])), (q_10, .inl (cI, 16, .inl g_23)), (q_11, .inl (cI, 16, .inl g_24)), (q_12, .inl (cI, 16, .inl g_25)), (q_13, .inl (cI, 16, .inl g_26)), (q_14, .inl (cI, 16, .inl g_27)), (q_15, .inl (cI, 16, .inl g_28)), (q_16, .inl (cI, 16, .inl g_29)), (q_17, .inl (cI, 6, .inl g_30)), (q_18, .inl (cI, 288, .inl g_31)), (q_19, .inl (cI, 30, .inl g_32)), (q_20, .inl (cI, 6, .inl g_33)), (q_21, .inl (cI, 4, .inl g_34)), (q_22, .inl (cI, 7, .inl g_35))]) [0, 1, 2, 3, 4, 5, 6, 7, 8, 9, 10, 11, 12, 13, 14, 15, 16, 17, 18] (by decide) rfl
  refine W.widen (k := 18) (n := 510) (by decide) (by decide) ?_
  exact W.vret hx hb hr (fun t ht hW => ⟨⟨(), rfl, trivial, q1, q9, q_2, q_3, q_4, g_5, g_6, g_7, q_10, q_11, q_12, q_13, q_14, q_15, q_16, q_17, q_18, q_19, q_20, q_21, q_22, g_23, g_24, g_25, g_26, g_27, g_28, g_29, g_30, g_31, g_32, g_33, g_34, g_35, by rw [ht]; exact hP9, hD9⟩, hS.F ht⟩) hS.2.2 dX3_init_37
