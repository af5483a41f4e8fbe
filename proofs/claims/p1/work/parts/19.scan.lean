def wk_k_byteAt : List Cond := .code yX5_byteAt cX5_byteAt 2 (some .int) :: ([.fieldLink RX5 15 "FlightDesk$Tape" "length" "I"] ++ wsX50)
theorem iw_k_byteAt_5 : ∀ w ∈ wsX50, w ∈ wk_k_byteAt := fun _ h => List.mem_cons_of_mem _ (List.mem_append_right _ h)
set_option maxHeartbeats 4000000 in
set_option maxRecDepth 100000 in
theorem k_byteAt (l : Launch) (D : va_G) (cI cB cP : ClassId) (sz : Nat) (h0 : Nat) (yb : Nat) : Met l yX5_byteAt wk_k_byteAt ({ frames := 0, cells := 0, slots := 0, locals := 0 } : Room) (va_Pc [.ref h0, .int 0] (Pw D cI cB cP sz [(h0, .inr (5, [.ref yb, .int 0]))])) (va_Qi (fun (r : Int32) (_ : Unit) => r = (-1)) (fun _ t => va_P D vwCl [(h0, .inr (5, [.ref yb, .int 0]))] t.heap ∧ va_D (va_A [(h0, .inr (5, [.ref yb, .int 0]))] sz) [(h0, .inr (5, [.ref yb, .int 0]))]) (va_A [(h0, .inr (5, [.ref yb, .int 0]))] sz)) 0 0 (va_A [(h0, .inr (5, [.ref yb, .int 0]))] sz) := by
  refine Met.ofW (cc := cX5_byteAt) (maxL := 2) (ret := (some .int)) (by decide) rfl ?_
  intro p e s m args below meth c s₁ B hml hv
  obtain ⟨rfl, hsz, hP, ⟨hK, hN⟩, hD0⟩ := hv
  have hx := B.exec
  have hb := B.bytes
  have hr := B.returns
  have hts := atoms_spec (ws := wk_k_byteAt) B.pre
  have hown : s.vm.findClass RX5 = some m.cls := findClass_of_methodNamed B.named
  have hlocks := B.notSynchronized
  subst hsz
  have hD := hD0.self (sz := s.heap.size)
  generalize hAe : va_A [(h0, .inr (5, [.ref yb, .int 0]))] s.heap.size = A at hD ⊢
  have hA : ∀ q : Nat, s.heap.size ≤ q → A q := fun q h => by rw [← hAe]; exact Or.inr h
  have hS : va_S A s.heap s.heap [] := va_S.rf
  have hP : va_P D vwCl [(h0, .inr (5, [.ref yb, .int 0]))] s.heap := hP
  have hl := lv_entry ([.ref h0, .int 0]) (n := 2) (Nat.le_of_ble_eq_true rfl)
  rw [lg_entry_eq]
  generalize (lg_sl ([.ref h0, .int 0]) ++ List.replicate (2 - (lg_sl ([.ref h0, .int 0])).length) Slot.unset).toArray = ls at hl ⊢
  have hl : lv_has ls 2 [(0, .ref h0), (1, .int 0)] := hl
  refine lv_iload_n hx hb dX5_byteAt_0 rfl (lv_at hl 1 rfl) ?_
  refine lv_if_lt (tgt := 21) hx hb dX5_byteAt_1 (by decide) (fun h9 => (by first | exact absurd h9 (by decide) | exact absurd (by decide) h9)) (fun c1 => ?_)
  refine lv_iload_n hx hb dX5_byteAt_4 rfl (lv_at hl 1 rfl) ?_
  refine lv_aload_n hx hb dX5_byteAt_5 rfl (lv_at hl 0 rfl) ?_
  refine va_get (D := D) (ci := 5) (v := .int 0) (C := RX5) (T := TX5) (N := 2) hx hb hts iw_k_byteAt_5 hown hK hP 0 rfl rfl 1 (by decide) (hts (.fieldLink RX5 15 "FlightDesk$Tape" "length" "I") (by decide +kernel)) (fun _ h9 => h9) rfl dX5_byteAt_6 ?_
  refine lv_icmp_ge (tgt := 21) hx hb dX5_byteAt_9 (by decide) (fun c2 => ?_) (fun h9 => (by first | exact absurd h9 (by decide) | exact absurd (by decide) h9))
  refine lv_iconst (v := (-1)) hx hb dX5_byteAt_21 (by decide) ?_
  have hP9 := hP.sub (ws' := [(h0, .inr (5, [.ref yb, .int 0]))]) [0] rfl
  have hD9 := hD.sub (ws' := [(h0, .inr (5, [.ref yb, .int 0]))]) [0] (by decide) rfl
  refine W.widen (k := 0) (n := 0) (by decide) (by decide) ?_
  exact W.iret (v := (-1)) hx hb hr (fun t ht hW => ⟨⟨(-1), (), rfl, rfl, by rw [ht]; exact hP9, hD9⟩, hS.F ht⟩) hS.2.2 dX5_byteAt_22

def wk_k_skipBlanks : List Cond := .code yX4_skipBlanks cX4_skipBlanks 1 (some .int) :: ([.fieldLink RX4 29 "FlightDesk$Scanner" "next" "I", .fieldLink RX4 21 "FlightDesk$Scanner" "tape" "LFlightDesk$Tape;", .fieldLink RX4 54 "FlightDesk$Tape" "length" "I"] ++ wsX40 ++ wsX50)
theorem iw_k_skipBlanks_4 : ∀ w ∈ wsX40, w ∈ wk_k_skipBlanks := fun _ h => List.mem_cons_of_mem _ (List.mem_append_left _ (List.mem_append_right _ h))
theorem iw_k_skipBlanks_5 : ∀ w ∈ wsX50, w ∈ wk_k_skipBlanks := fun _ h => List.mem_cons_of_mem _ (List.mem_append_right _ h)
set_option maxHeartbeats 4000000 in
set_option maxRecDepth 100000 in
theorem k_skipBlanks (l : Launch) (D : va_G) (cI cB cP : ClassId) (sz : Nat) (h0 : Nat) (tp : Nat) (s2 : Nat) (s3 : Nat) (s4 : Nat) (yb : Nat) (ct : Int32) : Met l yX4_skipBlanks wk_k_skipBlanks ({ frames := 0, cells := 0, slots := 0, locals := 0 } : Room) (va_Pc [.ref h0] (Pw D cI cB cP sz [(h0, .inr (4, [.ref tp, .int ct, .ref s2, .ref s3, .ref s4, .int 0])), (tp, .inr (5, [.ref yb, .int 0]))])) (va_Qi (fun (r : Int32) (_ : Unit) => r = 0) (fun _ t => va_P D vwCl [(h0, .inr (4, [.ref tp, .int ct, .ref s2, .ref s3, .ref s4, .int 0])), (tp, .inr (5, [.ref yb, .int 0]))] t.heap ∧ va_D (va_A [(h0, .inr (4, [.ref tp, .int ct, .ref s2, .ref s3, .ref s4, .int 0])), (tp, .inr (5, [.ref yb, .int 0]))] sz) [(h0, .inr (4, [.ref tp, .int ct, .ref s2, .ref s3, .ref s4, .int 0])), (tp, .inr (5, [.ref yb, .int 0]))]) (va_A [(h0, .inr (4, [.ref tp, .int ct, .ref s2, .ref s3, .ref s4, .int 0])), (tp, .inr (5, [.ref yb, .int 0]))] sz)) 0 0 (va_A [(h0, .inr (4, [.ref tp, .int ct, .ref s2, .ref s3, .ref s4, .int 0])), (tp, .inr (5, [.ref yb, .int 0]))] sz) := by
  refine Met.ofW (cc := cX4_skipBlanks) (maxL := 1) (ret := (some .int)) (by decide) rfl ?_
  intro p e s m args below meth c s₁ B hml hv
  obtain ⟨rfl, hsz, hP, ⟨hK, hN⟩, hD0⟩ := hv
  have hx := B.exec
  have hb := B.bytes
  have hr := B.returns
  have hts := atoms_spec (ws := wk_k_skipBlanks) B.pre
  have hown : s.vm.findClass RX4 = some m.cls := findClass_of_methodNamed B.named
  have hlocks := B.notSynchronized
  subst hsz
  have hD := hD0.self (sz := s.heap.size)
  generalize hAe : va_A [(h0, .inr (4, [.ref tp, .int ct, .ref s2, .ref s3, .ref s4, .int 0])), (tp, .inr (5, [.ref yb, .int 0]))] s.heap.size = A at hD ⊢
  have hA : ∀ q : Nat, s.heap.size ≤ q → A q := fun q h => by rw [← hAe]; exact Or.inr h
  have hS : va_S A s.heap s.heap [] := va_S.rf
  have hP : va_P D vwCl [(h0, .inr (4, [.ref tp, .int ct, .ref s2, .ref s3, .ref s4, .int 0])), (tp, .inr (5, [.ref yb, .int 0]))] s.heap := hP
  have hl := lv_entry ([.ref h0]) (n := 1) (Nat.le_of_ble_eq_true rfl)
  rw [lg_entry_eq]
  generalize (lg_sl ([.ref h0]) ++ List.replicate (1 - (lg_sl ([.ref h0])).length) Slot.unset).toArray = ls at hl ⊢
  have hl : lv_has ls 1 [(0, .ref h0)] := hl
  refine lv_aload_n hx hb dX4_skipBlanks_0 rfl (lv_at hl 0 rfl) ?_
  refine va_get (D := D) (ci := 4) (v := .int 0) (C := RX4) (T := TX4) (N := 6) hx hb hts iw_k_skipBlanks_4 hown hK hP 0 rfl rfl 5 (by decide) (hts (.fieldLink RX4 29 "FlightDesk$Scanner" "next" "I") (by decide +kernel)) (fun _ h9 => h9) rfl dX4_skipBlanks_1 ?_
  refine lv_aload_n hx hb dX4_skipBlanks_4 rfl (lv_at hl 0 rfl) ?_
  refine va_get (D := D) (ci := 4) (v := .ref tp) (C := RX4) (T := TX4) (N := 6) hx hb hts iw_k_skipBlanks_4 hown hK hP 0 rfl rfl 0 (by decide) (hts (.fieldLink RX4 21 "FlightDesk$Scanner" "tape" "LFlightDesk$Tape;") (by decide +kernel)) (fun _ h9 => h9) rfl dX4_skipBlanks_5 ?_
  refine va_get (D := D) (ci := 5) (v := .int 0) (C := RX5) (T := TX5) (N := 2) hx hb hts iw_k_skipBlanks_5 hown hK hP 1 rfl rfl 1 (by decide) (hts (.fieldLink RX4 54 "FlightDesk$Tape" "length" "I") (by decide +kernel)) (fun _ h9 => h9) rfl dX4_skipBlanks_8 ?_
  refine lv_icmp_ge (tgt := 44) hx hb dX4_skipBlanks_11 (by decide) (fun c1 => ?_) (fun h9 => (by first | exact absurd h9 (by decide) | exact absurd (by decide) h9))
  refine lv_aload_n hx hb dX4_skipBlanks_44 rfl (lv_at hl 0 rfl) ?_
  refine va_get (D := D) (ci := 4) (v := .int 0) (C := RX4) (T := TX4) (N := 6) hx hb hts iw_k_skipBlanks_4 hown hK hP 0 rfl rfl 5 (by decide) (hts (.fieldLink RX4 29 "FlightDesk$Scanner" "next" "I") (by decide +kernel)) (fun _ h9 => h9) rfl dX4_skipBlanks_45 ?_
  have hP9 := hP.sub (ws' := [(h0, .inr (4, [.ref tp, .int ct, .ref s2, .ref s3, .ref s4, .int 0])), (tp, .inr (5, [.ref yb, .int 0]))]) [0, 1] rfl
  have hD9 := hD.sub (ws' := [(h0, .inr (4, [.ref tp, .int ct, .ref s2, .ref s3, .ref s4, .int 0])), (tp, .inr (5, [.ref yb, .int 0]))]) [0, 1] (by decide) rfl
  refine W.widen (k := 0) (n := 0) (by decide) (by decide) ?_
  exact W.iret (v := 0) hx hb hr (fun t ht hW => ⟨⟨0, (), rfl, rfl, by rw [ht]; exact hP9, hD9⟩, hS.F ht⟩) hS.2.2 dX4_skipBlanks_48

def wk_k_scanToken : List Cond := .code yX4_scanToken cX4_scanToken 3 (some .int) :: ([.fieldLink RX4 21 "FlightDesk$Scanner" "tape" "LFlightDesk$Tape;", .fieldLink RX4 29 "FlightDesk$Scanner" "next" "I", .methodLink RX4 45 yX5_byteAt, .instanceMethod yX5_byteAt, .selects RX5 yX5_byteAt yX5_byteAt, .initialized RX5, .code yX5_byteAt cX5_byteAt 2 (some .int), .fieldLink RX5 15 "FlightDesk$Tape" "length" "I"] ++ wsX40 ++ wsX50)
theorem iw_k_scanToken_4 : ∀ w ∈ wsX40, w ∈ wk_k_scanToken := fun _ h => List.mem_cons_of_mem _ (List.mem_append_left _ (List.mem_append_right _ h))
theorem iw_k_scanToken_5 : ∀ w ∈ wsX50, w ∈ wk_k_scanToken := fun _ h => List.mem_cons_of_mem _ (List.mem_append_right _ h)
set_option maxRecDepth 20000 in
theorem gw_k_scanToken_0 : GoodIn wk_k_scanToken (wsV RX4 45 RX5 yX5_byteAt wk_k_byteAt) := goodIn_sub (by decide +kernel) (by decide +kernel)
set_option maxHeartbeats 4000000 in
set_option maxRecDepth 100000 in
theorem k_scanToken (l : Launch) (D : va_G) (cI cB cP : ClassId) (sz : Nat) (h0 : Nat) (tp : Nat) (s2 : Nat) (s3 : Nat) (s4 : Nat) (yb : Nat) (ct : Int32) (i9 : Int32) : Met l yX4_scanToken wk_k_scanToken ({ frames := 1, cells := 0, slots := 0, locals := 21 } : Room) (va_Pc [.ref h0, .int i9] (Pw D cI cB cP sz [(h0, .inr (4, [.ref tp, .int ct, .ref s2, .ref s3, .ref s4, .int 0])), (tp, .inr (5, [.ref yb, .int 0]))])) (va_Qi (fun (r : Int32) (_ : Unit) => r = 0) (fun _ t => va_P D vwCl [(h0, .inr (4, [.ref tp, .int ct, .ref s2, .ref s3, .ref s4, .int 0])), (tp, .inr (5, [.ref yb, .int 0]))] t.heap ∧ va_D (va_A [(h0, .inr (4, [.ref tp, .int ct, .ref s2, .ref s3, .ref s4, .int 0])), (tp, .inr (5, [.ref yb, .int 0]))] sz) [(h0, .inr (4, [.ref tp, .int ct, .ref s2, .ref s3, .ref s4, .int 0])), (tp, .inr (5, [.ref yb, .int 0]))]) (va_A [(h0, .inr (4, [.ref tp, .int ct, .ref s2, .ref s3, .ref s4, .int 0])), (tp, .inr (5, [.ref yb, .int 0]))] sz)) 0 0 (va_A [(h0, .inr (4, [.ref tp, .int ct, .ref s2, .ref s3, .ref s4, .int 0])), (tp, .inr (5, [.ref yb, .int 0]))] sz) := by
  refine Met.ofW (cc := cX4_scanToken) (maxL := 3) (ret := (some .int)) (by decide) rfl ?_
  intro p e s m args below meth c s₁ B hml hv
  obtain ⟨rfl, hsz, hP, ⟨hK, hN⟩, hD0⟩ := hv
  have hx := B.exec
  have hb := B.bytes
  have hr := B.returns
  have hts := atoms_spec (ws := wk_k_scanToken) B.pre
  have hown : s.vm.findClass RX4 = some m.cls := findClass_of_methodNamed B.named
  have hlocks := B.notSynchronized
  subst hsz
  have hD := hD0.self (sz := s.heap.size)
  generalize hAe : va_A [(h0, .inr (4, [.ref tp, .int ct, .ref s2, .ref s3, .ref s4, .int 0])), (tp, .inr (5, [.ref yb, .int 0]))] s.heap.size = A at hD ⊢
  have hA : ∀ q : Nat, s.heap.size ≤ q → A q := fun q h => by rw [← hAe]; exact Or.inr h
  have hS : va_S A s.heap s.heap [] := va_S.rf
  have hP : va_P D vwCl [(h0, .inr (4, [.ref tp, .int ct, .ref s2, .ref s3, .ref s4, .int 0])), (tp, .inr (5, [.ref yb, .int 0]))] s.heap := hP
  have hl := lv_entry ([.ref h0, .int i9]) (n := 3) (Nat.le_of_ble_eq_true rfl)
  rw [lg_entry_eq]
  generalize (lg_sl ([.ref h0, .int i9]) ++ List.replicate (3 - (lg_sl ([.ref h0, .int i9])).length) Slot.unset).toArray = ls at hl ⊢
  have hl : lv_has ls 3 [(0, .ref h0), (1, .int i9)] := hl
  refine lv_aload_n hx hb dX4_scanToken_0 rfl (lv_at hl 0 rfl) ?_
  refine va_get (D := D) (ci := 4) (v := .ref tp) (C := RX4) (T := TX4) (N := 6) hx hb hts iw_k_scanToken_4 hown hK hP 0 rfl rfl 0 (by decide) (hts (.fieldLink RX4 21 "FlightDesk$Scanner" "tape" "LFlightDesk$Tape;") (by decide +kernel)) (fun _ h9 => h9) rfl dX4_scanToken_1 ?_
  refine lv_aload_n hx hb dX4_scanToken_4 rfl (lv_at hl 0 rfl) ?_
  refine va_get (D := D) (ci := 4) (v := .int 0) (C := RX4) (T := TX4) (N := 6) hx hb hts iw_k_scanToken_4 hown hK hP 0 rfl rfl 5 (by decide) (hts (.fieldLink RX4 29 "FlightDesk$Scanner" "next" "I") (by decide +kernel)) (fun _ h9 => h9) rfl dX4_scanToken_5 ?_
  have hPc := hP.sub (ws' := [(tp, .inr (5, [.ref yb, .int 0]))]) [1] rfl
  have hDc := hD.sub (ws' := [(tp, .inr (5, [.ref yb, .int 0]))]) [1] (by decide) rfl
  have hFc := va_free (wc := [(tp, .inr (5, [.ref yb, .int 0]))]) hD hS hA [1] rfl
  refine va_calli (va_runV (As := [.int 0]) (rest := []) ⟨hx, hb, hml, hown, hts⟩ (k_byteAt l D cI cB cP s.heap.size tp yb) (cwV 1 hts gw_k_scanToken_0 rfl rfl rfl (by decide +kernel) ⟨Nat.le_of_ble_eq_true rfl, Nat.le_of_ble_eq_true rfl⟩) ⟨ny_blind, va_recv hK hPc (ci := 5) (q0 := 0) rfl rfl, ny_pre hPc hK hN hDc⟩ rfl rfl hl.1 rfl (lv_room (Nat.le_of_ble_eq_true rfl)) dX4_scanToken_8 ⟨Nat.le_of_ble_eq_true rfl, Nat.le_of_ble_eq_true rfl⟩) hS (fun q _ h => hFc q h) hFc (fun r1 u t H locs ht hvm hw hB hz1 hk1 hS => ?_)
  obtain ⟨hP1, hD1⟩ := hB
  rw [ht] at hP1
  obtain ⟨hP, hD⟩ := va_join (wr := [(h0, .inr (4, [.ref tp, .int ct, .ref s2, .ref s3, .ref s4, .int 0]))]) (w1 := [(tp, .inr (5, [.ref yb, .int 0]))]) hP hD [1] [0] rfl rfl (by decide) (by decide) hk1 hFc hP1 hD1
  have hP : va_P D vwCl [(h0, .inr (4, [.ref tp, .int ct, .ref s2, .ref s3, .ref s4, .int 0])), (tp, .inr (5, [.ref yb, .int 0]))] H := hP
  have hD : va_D A [(h0, .inr (4, [.ref tp, .int ct, .ref s2, .ref s3, .ref s4, .int 0])), (tp, .inr (5, [.ref yb, .int 0]))] := hD
  subst hw
  refine lv_istore_n (lv' := [(2, .int (-1)), (0, .ref h0), (1, .int i9)]) hx hb dX4_scanToken_11 rfl hl (by decide) rfl (fun ls hl => ?_)
  refine lv_iload_n hx hb dX4_scanToken_12 rfl (lv_at hl 0 rfl) ?_
  refine lv_iconst (v := (-1)) hx hb dX4_scanToken_13 (by decide) ?_
  refine lv_icmp_ne (tgt := 19) hx hb dX4_scanToken_14 (by decide) (fun h9 => (by first | exact absurd h9 (by decide) | exact absurd (by decide) h9)) (fun c2 => ?_)
  refine lv_iconst (v := 0) hx hb dX4_scanToken_17 (by decide) ?_
  have hP9 := hP.sub (ws' := [(h0, .inr (4, [.ref tp, .int ct, .ref s2, .ref s3, .ref s4, .int 0])), (tp, .inr (5, [.ref yb, .int 0]))]) [0, 1] rfl
  have hD9 := hD.sub (ws' := [(h0, .inr (4, [.ref tp, .int ct, .ref s2, .ref s3, .ref s4, .int 0])), (tp, .inr (5, [.ref yb, .int 0]))]) [0, 1] (by decide) rfl
  refine W.widen (k := 0) (n := 0) (by decide) (by decide) ?_
  exact W.iret (v := 0) hx hb hr (fun t ht hW => ⟨⟨0, (), rfl, rfl, by rw [ht]; exact hP9, hD9⟩, hS.F ht⟩) hS.2.2 dX4_scanToken_18

def wk_k_restart : List Cond := .code yX4_restart cX4_restart 1 none :: ([.fieldLink RX4 25 "FlightDesk$Scanner" "count" "I", .fieldLink RX4 29 "FlightDesk$Scanner" "next" "I"] ++ wsX40)
theorem iw_k_restart_4 : ∀ w ∈ wsX40, w ∈ wk_k_restart := fun _ h => List.mem_cons_of_mem _ (List.mem_append_right _ h)
set_option maxHeartbeats 4000000 in
set_option maxRecDepth 100000 in
theorem k_restart (l : Launch) (D : va_G) (cI cB cP : ClassId) (sz : Nat) (h0 : Nat) (tp : Nat) (s2 : Nat) (s3 : Nat) (s4 : Nat) (ct : Int32) (nx : Int32) : Met l yX4_restart wk_k_restart ({ frames := 0, cells := 0, slots := 0, locals := 0 } : Room) (va_Pc [.ref h0] (Pw D cI cB cP sz [(h0, .inr (4, [.ref tp, .int ct, .ref s2, .ref s3, .ref s4, .int nx]))])) (va_Qv (fun (_ : Unit) => True) (fun _ t => va_P D vwCl [(h0, .inr (4, [.ref tp, .int 0, .ref s2, .ref s3, .ref s4, .int 0]))] t.heap ∧ va_D (va_A [(h0, .inr (4, [.ref tp, .int ct, .ref s2, .ref s3, .ref s4, .int nx]))] sz) [(h0, .inr (4, [.ref tp, .int 0, .ref s2, .ref s3, .ref s4, .int 0]))]) (va_A [(h0, .inr (4, [.ref tp, .int ct, .ref s2, .ref s3, .ref s4, .int nx]))] sz)) 0 0 (va_A [(h0, .inr (4, [.ref tp, .int ct, .ref s2, .ref s3, .ref s4, .int nx]))] sz) := by
  refine Met.ofW (cc := cX4_restart) (maxL := 1) (ret := none) (by decide) rfl ?_
  intro p e s m args below meth c s₁ B hml hv
  obtain ⟨rfl, hsz, hP, ⟨hK, hN⟩, hD0⟩ := hv
  have hx := B.exec
  have hb := B.bytes
  have hr := B.returns
  have hts := atoms_spec (ws := wk_k_restart) B.pre
  have hown : s.vm.findClass RX4 = some m.cls := findClass_of_methodNamed B.named
  have hlocks := B.notSynchronized
  subst hsz
  have hD := hD0.self (sz := s.heap.size)
  generalize hAe : va_A [(h0, .inr (4, [.ref tp, .int ct, .ref s2, .ref s3, .ref s4, .int nx]))] s.heap.size = A at hD ⊢
  have hA : ∀ q : Nat, s.heap.size ≤ q → A q := fun q h => by rw [← hAe]; exact Or.inr h
  have hS : va_S A s.heap s.heap [] := va_S.rf
  have hP : va_P D vwCl [(h0, .inr (4, [.ref tp, .int ct, .ref s2, .ref s3, .ref s4, .int nx]))] s.heap := hP
  have hl := lv_entry ([.ref h0]) (n := 1) (Nat.le_of_ble_eq_true rfl)
  rw [lg_entry_eq]
  generalize (lg_sl ([.ref h0]) ++ List.replicate (1 - (lg_sl ([.ref h0])).length) Slot.unset).toArray = ls at hl ⊢
  have hl : lv_has ls 1 [(0, .ref h0)] := hl
  refine lv_aload_n hx hb dX4_restart_0 rfl (lv_at hl 0 rfl) ?_
  refine lv_iconst (v := 0) hx hb dX4_restart_1 (by decide) ?_
  refine va_put (D := D) (ci := 4) (v := .int 0) (ty := .int) (C := RX4) (T := TX4) (N := 6) hx hb hts iw_k_restart_4 tyX4 tyX4_ok nmX4 hown hK hP hD hS 0 rfl rfl 1 (by decide) (hts (.fieldLink RX4 25 "FlightDesk$Scanner" "count" "I") (by decide +kernel)) (fun _ h9 => h9) rfl (by decide +kernel) rfl rfl (Nat.le_of_ble_eq_true rfl) dX4_restart_2 (fun H locs hP hD hS => ?_)
  have hP : va_P D vwCl [(h0, .inr (4, [.ref tp, .int 0, .ref s2, .ref s3, .ref s4, .int nx]))] H := hP
  have hD : va_D A [(h0, .inr (4, [.ref tp, .int 0, .ref s2, .ref s3, .ref s4, .int nx]))] := hD
  refine lv_aload_n hx hb dX4_restart_5 rfl (lv_at hl 0 rfl) ?_
  refine lv_iconst (v := 0) hx hb dX4_restart_6 (by decide) ?_
  refine va_put (D := D) (ci := 4) (v := .int 0) (ty := .int) (C := RX4) (T := TX4) (N := 6) hx hb hts iw_k_restart_4 tyX4 tyX4_ok nmX4 hown hK hP hD hS 0 rfl rfl 5 (by decide) (hts (.fieldLink RX4 29 "FlightDesk$Scanner" "next" "I") (by decide +kernel)) (fun _ h9 => h9) rfl (by decide +kernel) rfl rfl (Nat.le_of_ble_eq_true rfl) dX4_restart_7 (fun H locs hP hD hS => ?_)
  have hP : va_P D vwCl [(h0, .inr (4, [.ref tp, .int 0, .ref s2, .ref s3, .ref s4, .int 0]))] H := hP
  have hD : va_D A [(h0, .inr (4, [.ref tp, .int 0, .ref s2, .ref s3, .ref s4, .int 0]))] := hD
  have hP9 := hP.sub (ws' := [(h0, .inr (4, [.ref tp, .int 0, .ref s2, .ref s3, .ref s4, .int 0]))]) [0] rfl
  have hD9 := hD.sub (ws' := [(h0, .inr (4, [.ref tp, .int 0, .ref s2, .ref s3, .ref s4, .int 0]))]) [0] (by decide) rfl
  refine W.widen (k := 0) (n := 0) (by decide) (by decide) ?_
  exact W.vret hx hb hr (fun t ht hW => ⟨⟨(), rfl, trivial, by rw [ht]; exact hP9, hD9⟩, hS.F ht⟩) hS.2.2 dX4_restart_10

def wk_k_scanLine : List Cond := .code yX4_scanLine cX4_scanLine 2 none :: ([.fieldLink RX4 25 "FlightDesk$Scanner" "count" "I", .fieldLink RX4 15 "FlightDesk$Scanner" "place" "[I", .methodLink RX4 32 yX4_skipBlanks, .instanceMethod yX4_skipBlanks, .selects RX4 yX4_skipBlanks yX4_skipBlanks, .initialized RX4, .code yX4_skipBlanks cX4_skipBlanks 1 (some .int), .fieldLink RX4 29 "FlightDesk$Scanner" "next" "I", .fieldLink RX4 21 "FlightDesk$Scanner" "tape" "LFlightDesk$Tape;", .fieldLink RX4 54 "FlightDesk$Tape" "length" "I", .fieldLink RX4 11 "FlightDesk$Scanner" "kind" "[I", .methodLink RX4 36 yX4_scanToken, .instanceMethod yX4_scanToken, .selects RX4 yX4_scanToken yX4_scanToken, .code yX4_scanToken cX4_scanToken 3 (some .int), .methodLink RX4 45 yX5_byteAt, .instanceMethod yX5_byteAt, .selects RX5 yX5_byteAt yX5_byteAt, .initialized RX5, .code yX5_byteAt cX5_byteAt 2 (some .int), .fieldLink RX5 15 "FlightDesk$Tape" "length" "I"] ++ wsX40 ++ wsX50)
theorem iw_k_scanLine_4 : ∀ w ∈ wsX40, w ∈ wk_k_scanLine := fun _ h => List.mem_cons_of_mem _ (List.mem_append_left _ (List.mem_append_right _ h))
theorem iw_k_scanLine_5 : ∀ w ∈ wsX50, w ∈ wk_k_scanLine := fun _ h => List.mem_cons_of_mem _ (List.mem_append_right _ h)
set_option maxRecDepth 20000 in
theorem gw_k_scanLine_0 : GoodIn wk_k_scanLine (wsV RX4 32 RX4 yX4_skipBlanks wk_k_skipBlanks) := goodIn_sub (by decide +kernel) (by decide +kernel)
set_option maxRecDepth 20000 in
theorem gw_k_scanLine_1 : GoodIn wk_k_scanLine (wsV RX4 36 RX4 yX4_scanToken wk_k_scanToken) := goodIn_sub (by decide +kernel) (by decide +kernel)
set_option maxHeartbeats 4000000 in
set_option maxRecDepth 100000 in
theorem k_scanLine (l : Launch) (D : va_G) (cI cB cP : ClassId) (sz : Nat) (h0 : Nat) (tp : Nat) (s2 : Nat) (s3 : Nat) (s4 : Nat) (yb : Nat) (ct : Int32) (f2 : Nat → Int32) (f3 : Nat → Int32) : Met l yX4_scanLine wk_k_scanLine ({ frames := 2, cells := 0, slots := 0, locals := 43 } : Room) (va_Pc [.ref h0] (Pw D cI cB cP sz [(h0, .inr (4, [.ref tp, .int ct, .ref s2, .ref s3, .ref s4, .int 0])), (tp, .inr (5, [.ref yb, .int 0])), (s2, .inl (cI, 12, .inl f2)), (s3, .inl (cI, 12, .inl f3))])) (va_Qv (fun (_ : Unit) => True) (fun _ t => ∃ g2 : Nat → Int32, ∃ g3 : Nat → Int32, (g2 0 = 0) ∧ va_P D vwCl [(h0, .inr (4, [.ref tp, .int 1, .ref s2, .ref s3, .ref s4, .int 0])), (tp, .inr (5, [.ref yb, .int 0])), (s2, .inl (cI, 12, .inl g2)), (s3, .inl (cI, 12, .inl g3))] t.heap ∧ va_D (va_A [(h0, .inr (4, [.ref tp, .int ct, .ref s2, .ref s3, .ref s4, .int 0])), (tp, .inr (5, [.ref yb, .int 0])), (s2, .inl (cI, 12, .inl f2)), (s3, .inl (cI, 12, .inl f3))] sz) [(h0, .inr (4, [.ref tp, .int 1, .ref s2, .ref s3, .ref s4, .int 0])), (tp, .inr (5, [.ref yb, .int 0])), (s2, .inl (cI, 12, .inl g2)), (s3, .inl (cI, 12, .inl g3))]) (va_A [(h0, .inr (4, [.ref tp, .int ct, .ref s2, .ref s3, .ref s4, .int 0])), (tp, .inr (5, [.ref yb, .int 0])), (s2, .inl (cI, 12, .inl f2)), (s3, .inl (cI, 12, .inl f3))] sz)) 0 0 (va_A [(h0, .inr (4, [.ref tp, .int ct, .ref s2, .ref s3, .ref s4, .int 0])), (tp, .inr (5, [.ref yb, .int 0])), (s2, .inl (cI, 12, .inl f2)), (s3, .inl (cI, 12, .inl f3))] sz) := by
  refine Met.ofW (cc := cX4_scanLine) (maxL := 2) (ret := none) (by decide) rfl ?_
  intro p e s m args below meth c s₁ B hml hv
  obtain ⟨rfl, hsz, hP, ⟨hK, hN⟩, hD0⟩ := hv
  have hx := B.exec
  have hb := B.bytes
  have hr := B.returns
  have hts := atoms_spec (ws := wk_k_scanLine) B.pre
  have hown : s.vm.findClass RX4 = some m.cls := findClass_of_methodNamed B.named
  have hlocks := B.notSynchronized
  subst hsz
  have hD := hD0.self (sz := s.heap.size)
  generalize hAe : va_A [(h0, .inr (4, [.ref tp, .int ct, .ref s2, .ref s3, .ref s4, .int 0])), (tp, .inr (5, [.ref yb, .int 0])), (s2, .inl (cI, 12, .inl f2)), (s3, .inl (cI, 12, .inl f3))] s.heap.size = A at hD ⊢
  have hA : ∀ q : Nat, s.heap.size ≤ q → A q := fun q h => by rw [← hAe]; exact Or.inr h
  have hS : va_S A s.heap s.heap [] := va_S.rf
  have hP : va_P D vwCl [(h0, .inr (4, [.ref tp, .int ct, .ref s2, .ref s3, .ref s4, .int 0])), (tp, .inr (5, [.ref yb, .int 0])), (s2, .inl (cI, 12, .inl f2)), (s3, .inl (cI, 12, .inl f3))] s.heap := hP
  have hl := lv_entry ([.ref h0]) (n := 2) (Nat.le_of_ble_eq_true rfl)
  rw [lg_entry_eq]
  generalize (lg_sl ([.ref h0]) ++ List.replicate (2 - (lg_sl ([.ref h0])).length) Slot.unset).toArray = ls at hl ⊢
  have hl : lv_has ls 2 [(0, .ref h0)] := hl
  refine lv_aload_n hx hb dX4_scanLine_0 rfl (lv_at hl 0 rfl) ?_
  refine lv_iconst (v := 0) hx hb dX4_scanLine_1 (by decide) ?_
  refine va_put (D := D) (ci := 4) (v := .int 0) (ty := .int) (C := RX4) (T := TX4) (N := 6) hx hb hts iw_k_scanLine_4 tyX4 tyX4_ok nmX4 hown hK hP hD hS 0 rfl rfl 1 (by decide) (hts (.fieldLink RX4 25 "FlightDesk$Scanner" "count" "I") (by decide +kernel)) (fun _ h9 => h9) rfl (by decide +kernel) rfl rfl (Nat.le_of_ble_eq_true rfl) dX4_scanLine_2 (fun H locs hP hD hS => ?_)
  have hP : va_P D vwCl [(h0, .inr (4, [.ref tp, .int 0, .ref s2, .ref s3, .ref s4, .int 0])), (tp, .inr (5, [.ref yb, .int 0])), (s2, .inl (cI, 12, .inl f2)), (s3, .inl (cI, 12, .inl f3))] H := hP
  have hD : va_D A [(h0, .inr (4, [.ref tp, .int 0, .ref s2, .ref s3, .ref s4, .int 0])), (tp, .inr (5, [.ref yb, .int 0])), (s2, .inl (cI, 12, .inl f2)), (s3, .inl (cI, 12, .inl f3))] := hD
  refine lv_iconst (v := 0) hx hb dX4_scanLine_5 (by decide) ?_
  refine lv_istore_n (lv' := [(1, .int 0), (0, .ref h0)]) hx hb dX4_scanLine_6 rfl hl (by decide) rfl (fun ls hl => ?_)
  refine lv_iload_n hx hb dX4_scanLine_7 rfl (lv_at hl 0 rfl) ?_
  refine lv_bipush (v := 12) hx hb dX4_scanLine_8 (by decide) ?_
  refine lv_icmp_ge (tgt := 70) hx hb dX4_scanLine_10 (by decide) (fun h9 => (by first | exact absurd h9 (by decide) | exact absurd (by decide) h9)) (fun c1 => ?_)
  refine lv_aload_n hx hb dX4_scanLine_13 rfl (lv_at hl 1 rfl) ?_
  refine va_get (D := D) (ci := 4) (v := .ref s3) (C := RX4) (T := TX4) (N := 6) hx hb hts iw_k_scanLine_4 hown hK hP 0 rfl rfl 3 (by decide) (hts (.fieldLink RX4 15 "FlightDesk$Scanner" "place" "[I") (by decide +kernel)) (fun _ h9 => h9) rfl dX4_scanLine_14 ?_
  refine lv_iload_n hx hb dX4_scanLine_17 rfl (lv_at hl 0 rfl) ?_
  refine lv_aload_n hx hb dX4_scanLine_18 rfl (lv_at hl 1 rfl) ?_
  have hPc := hP.sub (ws' := [(h0, .inr (4, [.ref tp, .int 0, .ref s2, .ref s3, .ref s4, .int 0])), (tp, .inr (5, [.ref yb, .int 0]))]) [0, 1] rfl
  have hDc := hD.sub (ws' := [(h0, .inr (4, [.ref tp, .int 0, .ref s2, .ref s3, .ref s4, .int 0])), (tp, .inr (5, [.ref yb, .int 0]))]) [0, 1] (by decide) rfl
  have hFc := va_free (wc := [(h0, .inr (4, [.ref tp, .int 0, .ref s2, .ref s3, .ref s4, .int 0])), (tp, .inr (5, [.ref yb, .int 0]))]) hD hS hA [0, 1] rfl
  refine va_calli (va_runV (As := []) (rest := [.int 0, .ref s3]) ⟨hx, hb, hml, hown, hts⟩ (k_skipBlanks l D cI cB cP H.size h0 tp s2 s3 s4 yb 0) (cwV 0 hts gw_k_scanLine_0 rfl rfl rfl (by decide +kernel) ⟨Nat.le_of_ble_eq_true rfl, Nat.le_of_ble_eq_true rfl⟩) ⟨ny_blind, va_recv hK hPc (ci := 4) (q0 := 0) rfl rfl, ny_pre hPc hK hN hDc⟩ rfl rfl hl.1 rfl (lv_room (Nat.le_of_ble_eq_true rfl)) dX4_scanLine_19 ⟨Nat.le_of_ble_eq_true rfl, Nat.le_of_ble_eq_true rfl⟩) hS (fun q _ h => hFc q h) hFc (fun r2 u t H locs ht hvm hw hB hz1 hk1 hS => ?_)
  obtain ⟨hP1, hD1⟩ := hB
  rw [ht] at hP1
  obtain ⟨hP, hD⟩ := va_join (wr := [(s2, .inl (cI, 12, .inl f2)), (s3, .inl (cI, 12, .inl f3))]) (w1 := [(h0, .inr (4, [.ref tp, .int 0, .ref s2, .ref s3, .ref s4, .int 0])), (tp, .inr (5, [.ref yb, .int 0]))]) hP hD [0, 1] [2, 3] rfl rfl (by decide) (by decide) hk1 hFc hP1 hD1
  have hP : va_P D vwCl [(s2, .inl (cI, 12, .inl f2)), (s3, .inl (cI, 12, .inl f3)), (h0, .inr (4, [.ref tp, .int 0, .ref s2, .ref s3, .ref s4, .int 0])), (tp, .inr (5, [.ref yb, .int 0]))] H := hP
  have hD : va_D A [(s2, .inl (cI, 12, .inl f2)), (s3, .inl (cI, 12, .inl f3)), (h0, .inr (4, [.ref tp, .int 0, .ref s2, .ref s3, .ref s4, .int 0])), (tp, .inr (5, [.ref yb, .int 0]))] := hD
  subst hw
  refine va_iast hx hb hK hP hD hS 1 0 rfl rfl (show ¬ (_ ∨ _) by decide) dX4_scanLine_22 (fun H locs hP hD hS => ?_)
  have hP : va_P D vwCl [(s2, .inl (cI, 12, .inl f2)), (s3, .inl (cI, 12, .inl (upd f3 (0 : Int32).toNatClampNeg 0))), (h0, .inr (4, [.ref tp, .int 0, .ref s2, .ref s3, .ref s4, .int 0])), (tp, .inr (5, [.ref yb, .int 0]))] H := hP
  have hD : va_D A [(s2, .inl (cI, 12, .inl f2)), (s3, .inl (cI, 12, .inl (upd f3 (0 : Int32).toNatClampNeg 0))), (h0, .inr (4, [.ref tp, .int 0, .ref s2, .ref s3, .ref s4, .int 0])), (tp, .inr (5, [.ref yb, .int 0]))] := hD
  obtain ⟨fx3, efx3⟩ : ∃ z : Nat → Int32, z = (upd f3 (0 : Int32).toNatClampNeg 0) := ⟨_, rfl⟩
  rw [← efx3] at hP hD
  refine lv_aload_n hx hb dX4_scanLine_23 rfl (lv_at hl 1 rfl) ?_
  refine va_get (D := D) (ci := 4) (v := .ref s2) (C := RX4) (T := TX4) (N := 6) hx hb hts iw_k_scanLine_4 hown hK hP 2 rfl rfl 2 (by decide) (hts (.fieldLink RX4 11 "FlightDesk$Scanner" "kind" "[I") (by decide +kernel)) (fun _ h9 => h9) rfl dX4_scanLine_24 ?_
  refine lv_iload_n hx hb dX4_scanLine_27 rfl (lv_at hl 0 rfl) ?_
  refine lv_aload_n hx hb dX4_scanLine_28 rfl (lv_at hl 1 rfl) ?_
  refine lv_iload_n hx hb dX4_scanLine_29 rfl (lv_at hl 0 rfl) ?_
  have hPc := hP.sub (ws' := [(h0, .inr (4, [.ref tp, .int 0, .ref s2, .ref s3, .ref s4, .int 0])), (tp, .inr (5, [.ref yb, .int 0]))]) [2, 3] rfl
  have hDc := hD.sub (ws' := [(h0, .inr (4, [.ref tp, .int 0, .ref s2, .ref s3, .ref s4, .int 0])), (tp, .inr (5, [.ref yb, .int 0]))]) [2, 3] (by decide) rfl
  have hFc := va_free (wc := [(h0, .inr (4, [.ref tp, .int 0, .ref s2, .ref s3, .ref s4, .int 0])), (tp, .inr (5, [.ref yb, .int 0]))]) hD hS hA [2, 3] rfl
  refine va_calli (va_runV (As := [.int 0]) (rest := [.int 0, .ref s2]) ⟨hx, hb, hml, hown, hts⟩ (k_scanToken l D cI cB cP H.size h0 tp s2 s3 s4 yb 0 0) (cwV 1 hts gw_k_scanLine_1 rfl rfl rfl (by decide +kernel) ⟨Nat.le_of_ble_eq_true rfl, Nat.le_of_ble_eq_true rfl⟩) ⟨ny_blind, va_recv hK hPc (ci := 4) (q0 := 0) rfl rfl, ny_pre hPc hK hN hDc⟩ rfl rfl hl.1 rfl (lv_room (Nat.le_of_ble_eq_true rfl)) dX4_scanLine_30 ⟨Nat.le_of_ble_eq_true rfl, Nat.le_of_ble_eq_true rfl⟩) hS (fun q _ h => hFc q h) hFc (fun r4 u t H locs ht hvm hw hB hz1 hk1 hS => ?_)
  obtain ⟨hP1, hD1⟩ := hB
  rw [ht] at hP1
  obtain ⟨hP, hD⟩ := va_join (wr := [(s2, .inl (cI, 12, .inl f2)), (s3, .inl (cI, 12, .inl fx3))]) (w1 := [(h0, .inr (4, [.ref tp, .int 0, .ref s2, .ref s3, .ref s4, .int 0])), (tp, .inr (5, [.ref yb, .int 0]))]) hP hD [2, 3] [0, 1] rfl rfl (by decide) (by decide) hk1 hFc hP1 hD1
  have hP : va_P D vwCl [(s2, .inl (cI, 12, .inl f2)), (s3, .inl (cI, 12, .inl fx3)), (h0, .inr (4, [.ref tp, .int 0, .ref s2, .ref s3, .ref s4, .int 0])), (tp, .inr (5, [.ref yb, .int 0]))] H := hP
  have hD : va_D A [(s2, .inl (cI, 12, .inl f2)), (s3, .inl (cI, 12, .inl fx3)), (h0, .inr (4, [.ref tp, .int 0, .ref s2, .ref s3, .ref s4, .int 0])), (tp, .inr (5, [.ref yb, .int 0]))] := hD
  subst hw
  refine va_iast hx hb hK hP hD hS 0 0 rfl rfl (show ¬ (_ ∨ _) by decide) dX4_scanLine_33 (fun H locs hP hD hS => ?_)
  have hP : va_P D vwCl [(s2, .inl (cI, 12, .inl (upd f2 (0 : Int32).toNatClampNeg 0))), (s3, .inl (cI, 12, .inl fx3)), (h0, .inr (4, [.ref tp, .int 0, .ref s2, .ref s3, .ref s4, .int 0])), (tp, .inr (5, [.ref yb, .int 0]))] H := hP
  have hD : va_D A [(s2, .inl (cI, 12, .inl (upd f2 (0 : Int32).toNatClampNeg 0))), (s3, .inl (cI, 12, .inl fx3)), (h0, .inr (4, [.ref tp, .int 0, .ref s2, .ref s3, .ref s4, .int 0])), (tp, .inr (5, [.ref yb, .int 0]))] := hD
  obtain ⟨f5, ef5⟩ : ∃ z : Nat → Int32, z = (upd f2 (0 : Int32).toNatClampNeg 0) := ⟨_, rfl⟩
  rw [← ef5] at hP hD
  refine lv_aload_n hx hb dX4_scanLine_34 rfl (lv_at hl 1 rfl) ?_
  refine lv_iload_n hx hb dX4_scanLine_35 rfl (lv_at hl 0 rfl) ?_
  refine lv_iconst (v := 1) hx hb dX4_scanLine_36 (by decide) ?_
  refine lv_iadd hx hb dX4_scanLine_37 ?_
  refine lv_topi (fun vv ev => ?_)
  obtain rfl : vv = 1 := ev.trans (by decide)
  refine va_put (D := D) (ci := 4) (v := .int 1) (ty := .int) (C := RX4) (T := TX4) (N := 6) hx hb hts iw_k_scanLine_4 tyX4 tyX4_ok nmX4 hown hK hP hD hS 2 rfl rfl 1 (by decide) (hts (.fieldLink RX4 25 "FlightDesk$Scanner" "count" "I") (by decide +kernel)) (fun _ h9 => h9) rfl (by decide +kernel) rfl rfl (Nat.le_of_ble_eq_true rfl) dX4_scanLine_38 (fun H locs hP hD hS => ?_)
  have hP : va_P D vwCl [(s2, .inl (cI, 12, .inl f5)), (s3, .inl (cI, 12, .inl fx3)), (h0, .inr (4, [.ref tp, .int 1, .ref s2, .ref s3, .ref s4, .int 0])), (tp, .inr (5, [.ref yb, .int 0]))] H := hP
  have hD : va_D A [(s2, .inl (cI, 12, .inl f5)), (s3, .inl (cI, 12, .inl fx3)), (h0, .inr (4, [.ref tp, .int 1, .ref s2, .ref s3, .ref s4, .int 0])), (tp, .inr (5, [.ref yb, .int 0]))] := hD
  refine lv_aload_n hx hb dX4_scanLine_41 rfl (lv_at hl 1 rfl) ?_
  refine va_get (D := D) (ci := 4) (v := .ref s2) (C := RX4) (T := TX4) (N := 6) hx hb hts iw_k_scanLine_4 hown hK hP 2 rfl rfl 2 (by decide) (hts (.fieldLink RX4 11 "FlightDesk$Scanner" "kind" "[I") (by decide +kernel)) (fun _ h9 => h9) rfl dX4_scanLine_42 ?_
  refine lv_iload_n hx hb dX4_scanLine_45 rfl (lv_at hl 0 rfl) ?_
  refine va_iald hx hb hK hP 0 0 rfl rfl (show ¬ (_ ∨ _) by decide) dX4_scanLine_46 ?_
  refine lv_topi (fun vv ev => ?_)
  obtain rfl : vv = 0 := ev.trans (by rw [ef5]; exact pk_us)
  refine lv_iconst (v := 1) hx hb dX4_scanLine_47 (by decide) ?_
  refine lv_icmp_eq (tgt := 64) hx hb dX4_scanLine_48 (by decide) (fun h9 => (by first | exact absurd h9 (by decide) | exact absurd (by decide) h9)) (fun c6 => ?_)
  refine lv_aload_n hx hb dX4_scanLine_51 rfl (lv_at hl 1 rfl) ?_
  refine va_get (D := D) (ci := 4) (v := .ref s2) (C := RX4) (T := TX4) (N := 6) hx hb hts iw_k_scanLine_4 hown hK hP 2 rfl rfl 2 (by decide) (hts (.fieldLink RX4 11 "FlightDesk$Scanner" "kind" "[I") (by decide +kernel)) (fun _ h9 => h9) rfl dX4_scanLine_52 ?_
  refine lv_iload_n hx hb dX4_scanLine_55 rfl (lv_at hl 0 rfl) ?_
  refine va_iald hx hb hK hP 0 0 rfl rfl (show ¬ (_ ∨ _) by decide) dX4_scanLine_56 ?_
  refine lv_topi (fun vv ev => ?_)
  obtain rfl : vv = 0 := ev.trans (by rw [ef5]; exact pk_us)
  refine lv_iconst (v := 2) hx hb dX4_scanLine_57 (by decide) ?_
  refine lv_icmp_eq (tgt := 64) hx hb dX4_scanLine_58 (by decide) (fun h9 => (by first | exact absurd h9 (by decide) | exact absurd (by decide) h9)) (fun c7 => ?_)
  refine lv_goto (tgt := 70) hx hb dX4_scanLine_61 (by decide) ?_
  have hP9 := hP.sub (ws' := [(h0, .inr (4, [.ref tp, .int 1, .ref s2, .ref s3, .ref s4, .int 0])), (tp, .inr (5, [.ref yb, .int 0])), (s2, .inl (cI, 12, .inl f5)), (s3, .inl (cI, 12, .inl fx3))]) [2, 3, 0, 1] rfl
  have hD9 := hD.sub (ws' := [(h0, .inr (4, [.ref tp, .int 1, .ref s2, .ref s3, .ref s4, .int 0])), (tp, .inr (5, [.ref yb, .int 0])), (s2, .inl (cI, 12, .inl f5)), (s3, .inl (cI, 12, .inl fx3))]) [2, 3, 0, 1] (by decide) rfl
  refine W.widen (k := 0) (n := 0) (by decide) (by decide) ?_
  exact W.vret hx hb hr (fun t ht hW => ⟨⟨(), rfl, trivial, f5, fx3, (by rw [ef5]; exact pk_us), by rw [ht]; exact hP9, hD9⟩, hS.F ht⟩) hS.2.2 dX4_scanLine_70
