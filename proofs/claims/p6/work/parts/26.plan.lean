def wk_k_fuelOfAny : List Cond := .code yX1_fuelOf cX1_fuelOf 5 (some .int) :: ([.fieldLink RX1 38 "FlightDesk$Flight" "weight" "I", .methodLink RX1 66 Lib.Math.min.name, .static Lib.Math.min.name, .initialized "java/lang/Math", .code Lib.Math.min.name Lib.Math.min.code 2 (some .int), .fieldLink RX1 9 "FlightDesk$Flight" "book" "LFlightDesk$Book;", .fieldLink RX1 72 "FlightDesk$Book" "burn" "[I", .initialized RX7, .static yX7_burnIndex, .code yX7_burnIndex cX7_burnIndex 2 (some .int)] ++ wsX10 ++ wsX00)
theorem iw_k_fuelOfAny_1 : ∀ w ∈ wsX10, w ∈ wk_k_fuelOfAny := fun _ h => List.mem_cons_of_mem _ (List.mem_append_left _ (List.mem_append_right _ h))
theorem iw_k_fuelOfAny_0 : ∀ w ∈ wsX00, w ∈ wk_k_fuelOfAny := fun _ h => List.mem_cons_of_mem _ (List.mem_append_right _ h)
set_option maxRecDepth 20000 in
theorem gw_k_fuelOfAny_0 : GoodIn wk_k_fuelOfAny wk_k_burnIndex := goodIn_sub (by decide +kernel) (by decide +kernel)
set_option maxHeartbeats 4000000 in
set_option maxRecDepth 100000 in
theorem k_fuelOfAny (l : Launch) (D : va_G) (cI cB cP : ClassId) (sz : Nat) (h0 : Nat) (bk : Nat) (fi : Int32) (ff : Int32) (ft : Int32) (fd : Int32) (fr : Int32) (fw : Int32) (lc : Int32) (ln : Int32) (a2 : Nat) (a3 : Nat) (a4 : Nat) (a5 : Nat) (a6 : Nat) (a7 : Nat) (a8 : Nat) (a9 : Nat) (a10 : Nat) (a11 : Nat) (a12 : Nat) (a13 : Nat) (a14 : Nat) (x : Int32) (v : Int32) (y : Int32) (f11 : Nat → Int32) (hv9 : 0 ≤ v.toInt ∧ v.toInt ≤ 5) (hy9 : 0 ≤ y.toInt ∧ y.toInt ≤ 1100000000) (hfw9 : 0 ≤ fw.toInt ∧ fw.toInt ≤ 90000) : Met l yX1_fuelOf wk_k_fuelOfAny ({ frames := 1, cells := 0, slots := 0, locals := 21 } : Room) (va_Pc [.ref h0, .int x, .int v, .int y] (Pw D cI cB cP sz [(h0, .inr (1, [.ref bk, .int fi, .int ff, .int ft, .int fd, .int fr, .int fw])), (bk, .inr (0, [.int lc, .int ln, .ref a2, .ref a3, .ref a4, .ref a5, .ref a6, .ref a7, .ref a8, .ref a9, .ref a10, .ref a11, .ref a12, .ref a13, .ref a14])), (a11, .inl (cI, 30, .inl f11))])) (va_Qi (fun (r : Int32) (_ : Unit) => True) (fun _ t => va_P D vwCl [(h0, .inr (1, [.ref bk, .int fi, .int ff, .int ft, .int fd, .int fr, .int fw])), (bk, .inr (0, [.int lc, .int ln, .ref a2, .ref a3, .ref a4, .ref a5, .ref a6, .ref a7, .ref a8, .ref a9, .ref a10, .ref a11, .ref a12, .ref a13, .ref a14])), (a11, .inl (cI, 30, .inl f11))] t.heap ∧ va_D (va_A [(h0, .inr (1, [.ref bk, .int fi, .int ff, .int ft, .int fd, .int fr, .int fw])), (bk, .inr (0, [.int lc, .int ln, .ref a2, .ref a3, .ref a4, .ref a5, .ref a6, .ref a7, .ref a8, .ref a9, .ref a10, .ref a11, .ref a12, .ref a13, .ref a14])), (a11, .inl (cI, 30, .inl f11))] sz) [(h0, .inr (1, [.ref bk, .int fi, .int ff, .int ft, .int fd, .int fr, .int fw])), (bk, .inr (0, [.int lc, .int ln, .ref a2, .ref a3, .ref a4, .ref a5, .ref a6, .ref a7, .ref a8, .ref a9, .ref a10, .ref a11, .ref a12, .ref a13, .ref a14])), (a11, .inl (cI, 30, .inl f11))]) (va_A [(h0, .inr (1, [.ref bk, .int fi, .int ff, .int ft, .int fd, .int fr, .int fw])), (bk, .inr (0, [.int lc, .int ln, .ref a2, .ref a3, .ref a4, .ref a5, .ref a6, .ref a7, .ref a8, .ref a9, .ref a10, .ref a11, .ref a12, .ref a13, .ref a14])), (a11, .inl (cI, 30, .inl f11))] sz)) 0 0 (va_A [(h0, .inr (1, [.ref bk, .int fi, .int ff, .int ft, .int fd, .int fr, .int fw])), (bk, .inr (0, [.int lc, .int ln, .ref a2, .ref a3, .ref a4, .ref a5, .ref a6, .ref a7, .ref a8, .ref a9, .ref a10, .ref a11, .ref a12, .ref a13, .ref a14])), (a11, .inl (cI, 30, .inl f11))] sz) := by
  refine Met.ofW (cc := cX1_fuelOf) (maxL := 5) (ret := (some .int)) (by decide) rfl ?_
  intro p e s m args below meth c s₁ B hml hv
  obtain ⟨rfl, hsz, hP, ⟨hK, hN⟩, hD0⟩ := hv
  have hx := B.exec
  have hb := B.bytes
  have hr := B.returns
  have hts := atoms_spec (ws := wk_k_fuelOfAny) B.pre
  have hown : s.vm.findClass RX1 = some m.cls := findClass_of_methodNamed B.named
  have hlocks := B.notSynchronized
  subst hsz
  have hD := hD0.self (sz := s.heap.size)
  generalize hAe : va_A [(h0, .inr (1, [.ref bk, .int fi, .int ff, .int ft, .int fd, .int fr, .int fw])), (bk, .inr (0, [.int lc, .int ln, .ref a2, .ref a3, .ref a4, .ref a5, .ref a6, .ref a7, .ref a8, .ref a9, .ref a10, .ref a11, .ref a12, .ref a13, .ref a14])), (a11, .inl (cI, 30, .inl f11))] s.heap.size = A at hD ⊢
  have hA : ∀ q : Nat, s.heap.size ≤ q → A q := fun q h => by rw [← hAe]; exact Or.inr h
  have hS : va_S A s.heap s.heap [] := va_S.rf
  have hP : va_P D vwCl [(h0, .inr (1, [.ref bk, .int fi, .int ff, .int ft, .int fd, .int fr, .int fw])), (bk, .inr (0, [.int lc, .int ln, .ref a2, .ref a3, .ref a4, .ref a5, .ref a6, .ref a7, .ref a8, .ref a9, .ref a10, .ref a11, .ref a12, .ref a13, .ref a14])), (a11, .inl (cI, 30, .inl f11))] s.heap := hP
  have hl := lv_entry ([.ref h0, .int x, .int v, .int y]) (n := 5) (Nat.le_of_ble_eq_true rfl)
  rw [lg_entry_eq]
  generalize (lg_sl ([.ref h0, .int x, .int v, .int y]) ++ List.replicate (5 - (lg_sl ([.ref h0, .int x, .int v, .int y])).length) Slot.unset).toArray = ls at hl ⊢
  have hl : lv_has ls 5 [(0, .ref h0), (1, .int x), (2, .int v), (3, .int y)] := hl
  refine lv_aload_n hx hb dX1_fuelOf_0 rfl (lv_at hl 0 rfl) ?_
  refine va_get (D := D) (ci := 1) (v := .int fw) (C := RX1) (T := TX1) (N := 7) hx hb hts iw_k_fuelOfAny_1 hown hK hP 0 rfl rfl 6 (by decide) (hts (.fieldLink RX1 38 "FlightDesk$Flight" "weight" "I") (by decide +kernel)) (fun _ h9 => h9) rfl dX1_fuelOf_1 ?_
  refine lv_iload_n hx hb dX1_fuelOf_4 rfl (lv_at hl 3 rfl) ?_
  refine lv_iadd hx hb dX1_fuelOf_5 ?_
  refine lv_topi (fun v1 ev1 => ?_)
  have tv1 : v1.toInt = (fw.toInt + y.toInt + 2147483648) % 4294967296 - 2147483648 := i32_add ev1
  refine lv_sipush (v := 1000) hx hb dX1_fuelOf_6 (by decide) ?_
  refine lv_idiv hx hb dX1_fuelOf_9 (by decide) ?_
  refine lv_topi (fun v2 ev2 => ?_)
  have tv2 : v2.toInt = v1.toInt / 1000 := i32_div ev2 (show 0 ≤ v1.toInt by omega) (show 0 < 1000 by omega)
  refine lv_iconst (v := 4) hx hb dX1_fuelOf_10 (by decide) ?_
  refine va_mmin hx hb (by rw [hml]; exact hl.1.symm) hown (hts (.methodLink RX1 66 Lib.Math.min.name) (by decide +kernel)) (hts (.static Lib.Math.min.name) (by decide +kernel)) (hts (.initialized "java/lang/Math") (by decide +kernel)) (hts (.code Lib.Math.min.name Lib.Math.min.code 2 (some .int)) (by decide +kernel)) (Nat.le_of_ble_eq_true rfl) (Nat.le_of_ble_eq_true rfl) (Nat.le_of_ble_eq_true rfl) (Nat.le_of_ble_eq_true rfl) dX1_fuelOf_11 ?_
  refine lv_topi (fun v3 ev3 => ?_)
  have tv3 : v3.toInt ≤ v2.toInt ∧ v3.toInt ≤ 4 ∧ (v3.toInt = v2.toInt ∨ v3.toInt = 4) := i32_min ev3
  refine lv_istore (lv' := [(4, .int v3), (0, .ref h0), (1, .int x), (2, .int v), (3, .int y)]) hx hb dX1_fuelOf_14 hl (by decide) rfl (fun ls hl => ?_)
  refine lv_iload_n hx hb dX1_fuelOf_16 rfl (lv_at hl 2 rfl) ?_
  refine lv_aload_n hx hb dX1_fuelOf_17 rfl (lv_at hl 1 rfl) ?_
  refine va_get (D := D) (ci := 1) (v := .ref bk) (C := RX1) (T := TX1) (N := 7) hx hb hts iw_k_fuelOfAny_1 hown hK hP 0 rfl rfl 0 (by decide) (hts (.fieldLink RX1 9 "FlightDesk$Flight" "book" "LFlightDesk$Book;") (by decide +kernel)) (fun _ h9 => h9) rfl dX1_fuelOf_18 ?_
  refine va_get (D := D) (ci := 0) (v := .ref a11) (C := RX0) (T := TX0) (N := 15) hx hb hts iw_k_fuelOfAny_0 hown hK hP 1 rfl rfl 11 (by decide) (hts (.fieldLink RX1 72 "FlightDesk$Book" "burn" "[I") (by decide +kernel)) (fun _ h9 => h9) rfl dX1_fuelOf_21 ?_
  refine lv_iload_n hx hb dX1_fuelOf_24 rfl (lv_at hl 3 rfl) ?_
  refine lv_iload hx hb dX1_fuelOf_25 (lv_at hl 0 rfl) ?_
  have hPc := hP.sub (ws' := []) [] rfl
  have hDc := hD.sub (ws' := []) [] (by decide) rfl
  have hFc := va_free (wc := []) hD hS hA [] rfl
  refine va_calli (va_runSN (As := [.int v, .int v3]) (rest := [.ref a11, .int x]) ⟨hx, hb, hml, hown, hts⟩ (k_burnIndex l D cI cB cP s.heap.size v v3 (show 0 ≤ v.toInt ∧ v.toInt ≤ 1000 by first | assumption | omega | decide) (show 0 ≤ v3.toInt ∧ v3.toInt ≤ 1000 by first | assumption | omega | decide)) ⟨va_cnB 2 hts gw_k_fuelOfAny_0 rfl rfl rfl (hN.2.2.2.1) (hts (.initialized RX7) (by decide +kernel)) (by decide +kernel) ⟨Nat.le_of_ble_eq_true rfl, Nat.le_of_ble_eq_true rfl⟩, (hts (.static yX7_burnIndex) (by decide +kernel)), trivial⟩ ⟨ny_blind, ny_pre hPc hK hN hDc⟩ rfl rfl hl.1 rfl (lv_room (Nat.le_of_ble_eq_true rfl)) dX1_fuelOf_27 ⟨Nat.le_of_ble_eq_true rfl, Nat.le_of_ble_eq_true rfl⟩) hS (fun q _ h => hFc q h) hFc (fun r4 u t H locs ht hvm hw hB hz1 hk1 hS => ?_)
  obtain ⟨hP, hD⟩ := va_join (wr := [(h0, .inr (1, [.ref bk, .int fi, .int ff, .int ft, .int fd, .int fr, .int fw])), (bk, .inr (0, [.int lc, .int ln, .ref a2, .ref a3, .ref a4, .ref a5, .ref a6, .ref a7, .ref a8, .ref a9, .ref a10, .ref a11, .ref a12, .ref a13, .ref a14])), (a11, .inl (cI, 30, .inl f11))]) (w1 := []) hP hD [] [0, 1, 2] rfl rfl (by decide) (by decide) hk1 hFc ny_P0 ny_D0
  have hP : va_P D vwCl [(h0, .inr (1, [.ref bk, .int fi, .int ff, .int ft, .int fd, .int fr, .int fw])), (bk, .inr (0, [.int lc, .int ln, .ref a2, .ref a3, .ref a4, .ref a5, .ref a6, .ref a7, .ref a8, .ref a9, .ref a10, .ref a11, .ref a12, .ref a13, .ref a14])), (a11, .inl (cI, 30, .inl f11))] H := hP
  have hD : va_D A [(h0, .inr (1, [.ref bk, .int fi, .int ff, .int ft, .int fd, .int fr, .int fw])), (bk, .inr (0, [.int lc, .int ln, .ref a2, .ref a3, .ref a4, .ref a5, .ref a6, .ref a7, .ref a8, .ref a9, .ref a10, .ref a11, .ref a12, .ref a13, .ref a14])), (a11, .inl (cI, 30, .inl f11))] := hD
  have hr4 : r4.toInt = v.toInt * 5 + v3.toInt := hw
  refine va_iald hx hb hK hP 2 0 rfl rfl (vp_in_iff.mpr ⟨show 0 ≤ r4.toInt by omega, show r4.toInt < ((30 : Nat) : Int) by omega⟩) dX1_fuelOf_30 ?_
  refine lv_topi (fun v5 ev5 => ?_)
  refine lv_imul hx hb dX1_fuelOf_31 ?_
  refine lv_topi (fun v6 ev6 => ?_)
  refine lv_bipush (v := 59) hx hb dX1_fuelOf_32 (by decide) ?_
  refine lv_iadd hx hb dX1_fuelOf_34 ?_
  refine lv_topi (fun v7 ev7 => ?_)
  have tv7 : v7.toInt = (v6.toInt + 59 + 2147483648) % 4294967296 - 2147483648 := i32_add ev7
  refine lv_bipush (v := 60) hx hb dX1_fuelOf_35 (by decide) ?_
  refine lv_idiv hx hb dX1_fuelOf_37 (by decide) ?_
  refine lv_topi (fun v8 ev8 => ?_)
  have hP9 := hP.sub (ws' := [(h0, .inr (1, [.ref bk, .int fi, .int ff, .int ft, .int fd, .int fr, .int fw])), (bk, .inr (0, [.int lc, .int ln, .ref a2, .ref a3, .ref a4, .ref a5, .ref a6, .ref a7, .ref a8, .ref a9, .ref a10, .ref a11, .ref a12, .ref a13, .ref a14])), (a11, .inl (cI, 30, .inl f11))]) [0, 1, 2] rfl
  have hD9 := hD.sub (ws' := [(h0, .inr (1, [.ref bk, .int fi, .int ff, .int ft, .int fd, .int fr, .int fw])), (bk, .inr (0, [.int lc, .int ln, .ref a2, .ref a3, .ref a4, .ref a5, .ref a6, .ref a7, .ref a8, .ref a9, .ref a10, .ref a11, .ref a12, .ref a13, .ref a14])), (a11, .inl (cI, 30, .inl f11))]) [0, 1, 2] (by decide) rfl
  refine W.widen (k := 0) (n := 0) (by decide) (by decide) ?_
  exact W.iret (v := v8) hx hb hr (fun t ht hW => ⟨⟨v8, (), rfl, (trivial), by rw [ht]; exact hP9, hD9⟩, hS.F ht⟩) hS.2.2 dX1_fuelOf_38

def wk_k_greatestLeftAny : List Cond := .code yX1_greatestLeft cX1_greatestLeft 8 (some .int) :: ([.fieldLink RX1 38 "FlightDesk$Flight" "weight" "I", .methodLink RX1 78 Lib.Math.max.name, .static Lib.Math.max.name, .initialized "java/lang/Math", .code Lib.Math.max.name Lib.Math.max.code 2 (some .int), .methodLink RX1 81 yX1_fuelOf, .instanceMethod yX1_fuelOf, .selects RX1 yX1_fuelOf yX1_fuelOf, .initialized RX1, .code yX1_fuelOf cX1_fuelOf 5 (some .int), .methodLink RX1 66 Lib.Math.min.name, .static Lib.Math.min.name, .code Lib.Math.min.name Lib.Math.min.code 2 (some .int), .fieldLink RX1 9 "FlightDesk$Flight" "book" "LFlightDesk$Book;", .fieldLink RX1 72 "FlightDesk$Book" "burn" "[I", .initialized RX7, .static yX7_burnIndex, .code yX7_burnIndex cX7_burnIndex 2 (some .int)] ++ wsX10 ++ wsX00)
theorem iw_k_greatestLeftAny_1 : ∀ w ∈ wsX10, w ∈ wk_k_greatestLeftAny := fun _ h => List.mem_cons_of_mem _ (List.mem_append_left _ (List.mem_append_right _ h))
theorem iw_k_greatestLeftAny_0 : ∀ w ∈ wsX00, w ∈ wk_k_greatestLeftAny := fun _ h => List.mem_cons_of_mem _ (List.mem_append_right _ h)
set_option maxRecDepth 20000 in
theorem gw_k_greatestLeftAny_0 : GoodIn wk_k_greatestLeftAny (wsV RX1 81 RX1 yX1_fuelOf wk_k_fuelOfAny) := goodIn_sub (by decide +kernel) (by decide +kernel)
set_option maxHeartbeats 4000000 in
set_option maxRecDepth 100000 in
theorem k_greatestLeftAny (l : Launch) (D : va_G) (cI cB cP : ClassId) (sz : Nat) (h0 : Nat) (bk : Nat) (fi : Int32) (ff : Int32) (ft : Int32) (fd : Int32) (fr : Int32) (fw : Int32) (lc : Int32) (ln : Int32) (a2 : Nat) (a3 : Nat) (a4 : Nat) (a5 : Nat) (a6 : Nat) (a7 : Nat) (a8 : Nat) (a9 : Nat) (a10 : Nat) (a11 : Nat) (a12 : Nat) (a13 : Nat) (a14 : Nat) (x : Int32) (v : Int32) (y : Int32) (f11 : Nat → Int32) (hv9 : 0 ≤ v.toInt ∧ v.toInt ≤ 5) (hfw9 : 0 ≤ fw.toInt ∧ fw.toInt ≤ 90000) : Met l yX1_greatestLeft wk_k_greatestLeftAny ({ frames := 2, cells := 0, slots := 0, locals := 45 } : Room) (va_Pc [.ref h0, .int x, .int v, .int y] (Pw D cI cB cP sz [(h0, .inr (1, [.ref bk, .int fi, .int ff, .int ft, .int fd, .int fr, .int fw])), (bk, .inr (0, [.int lc, .int ln, .ref a2, .ref a3, .ref a4, .ref a5, .ref a6, .ref a7, .ref a8, .ref a9, .ref a10, .ref a11, .ref a12, .ref a13, .ref a14])), (a11, .inl (cI, 30, .inl f11))])) (va_Qi (fun (r : Int32) (_ : Unit) => True) (fun _ t => va_P D vwCl [(h0, .inr (1, [.ref bk, .int fi, .int ff, .int ft, .int fd, .int fr, .int fw])), (bk, .inr (0, [.int lc, .int ln, .ref a2, .ref a3, .ref a4, .ref a5, .ref a6, .ref a7, .ref a8, .ref a9, .ref a10, .ref a11, .ref a12, .ref a13, .ref a14])), (a11, .inl (cI, 30, .inl f11))] t.heap ∧ va_D (va_A [(h0, .inr (1, [.ref bk, .int fi, .int ff, .int ft, .int fd, .int fr, .int fw])), (bk, .inr (0, [.int lc, .int ln, .ref a2, .ref a3, .ref a4, .ref a5, .ref a6, .ref a7, .ref a8, .ref a9, .ref a10, .ref a11, .ref a12, .ref a13, .ref a14])), (a11, .inl (cI, 30, .inl f11))] sz) [(h0, .inr (1, [.ref bk, .int fi, .int ff, .int ft, .int fd, .int fr, .int fw])), (bk, .inr (0, [.int lc, .int ln, .ref a2, .ref a3, .ref a4, .ref a5, .ref a6, .ref a7, .ref a8, .ref a9, .ref a10, .ref a11, .ref a12, .ref a13, .ref a14])), (a11, .inl (cI, 30, .inl f11))]) (va_A [(h0, .inr (1, [.ref bk, .int fi, .int ff, .int ft, .int fd, .int fr, .int fw])), (bk, .inr (0, [.int lc, .int ln, .ref a2, .ref a3, .ref a4, .ref a5, .ref a6, .ref a7, .ref a8, .ref a9, .ref a10, .ref a11, .ref a12, .ref a13, .ref a14])), (a11, .inl (cI, 30, .inl f11))] sz)) 0 0 (va_A [(h0, .inr (1, [.ref bk, .int fi, .int ff, .int ft, .int fd, .int fr, .int fw])), (bk, .inr (0, [.int lc, .int ln, .ref a2, .ref a3, .ref a4, .ref a5, .ref a6, .ref a7, .ref a8, .ref a9, .ref a10, .ref a11, .ref a12, .ref a13, .ref a14])), (a11, .inl (cI, 30, .inl f11))] sz) := by
  refine Met.ofW (cc := cX1_greatestLeft) (maxL := 8) (ret := (some .int)) (by decide) rfl ?_
  intro p e s m args below meth c s₁ B hml hv
  obtain ⟨rfl, hsz, hP, ⟨hK, hN⟩, hD0⟩ := hv
  have hx := B.exec
  have hb := B.bytes
  have hr := B.returns
  have hts := atoms_spec (ws := wk_k_greatestLeftAny) B.pre
  have hown : s.vm.findClass RX1 = some m.cls := findClass_of_methodNamed B.named
  have hlocks := B.notSynchronized
  subst hsz
  have hD := hD0.self (sz := s.heap.size)
  generalize hAe : va_A [(h0, .inr (1, [.ref bk, .int fi, .int ff, .int ft, .int fd, .int fr, .int fw])), (bk, .inr (0, [.int lc, .int ln, .ref a2, .ref a3, .ref a4, .ref a5, .ref a6, .ref a7, .ref a8, .ref a9, .ref a10, .ref a11, .ref a12, .ref a13, .ref a14])), (a11, .inl (cI, 30, .inl f11))] s.heap.size = A at hD ⊢
  have hA : ∀ q : Nat, s.heap.size ≤ q → A q := fun q h => by rw [← hAe]; exact Or.inr h
  have hS : va_S A s.heap s.heap [] := va_S.rf
  have hP : va_P D vwCl [(h0, .inr (1, [.ref bk, .int fi, .int ff, .int ft, .int fd, .int fr, .int fw])), (bk, .inr (0, [.int lc, .int ln, .ref a2, .ref a3, .ref a4, .ref a5, .ref a6, .ref a7, .ref a8, .ref a9, .ref a10, .ref a11, .ref a12, .ref a13, .ref a14])), (a11, .inl (cI, 30, .inl f11))] s.heap := hP
  have hl := lv_entry ([.ref h0, .int x, .int v, .int y]) (n := 8) (Nat.le_of_ble_eq_true rfl)
  rw [lg_entry_eq]
  generalize (lg_sl ([.ref h0, .int x, .int v, .int y]) ++ List.replicate (8 - (lg_sl ([.ref h0, .int x, .int v, .int y])).length) Slot.unset).toArray = ls at hl ⊢
  have hl : lv_has ls 8 [(0, .ref h0), (1, .int x), (2, .int v), (3, .int y)] := hl
  refine lv_iconst (v := 4) hx hb dX1_greatestLeft_0 (by decide) ?_
  refine lv_istore (lv' := [(4, .int 4), (0, .ref h0), (1, .int x), (2, .int v), (3, .int y)]) hx hb dX1_greatestLeft_1 hl (by decide) rfl (fun ls hl => ?_)
  refine lv_iload hx hb dX1_greatestLeft_3 (lv_at hl 0 rfl) ?_
  refine lv_if_lt (tgt := 85) hx hb dX1_greatestLeft_5 (by decide) (fun h9 => (by first | exact absurd h9 (by decide) | exact absurd (by decide) h9)) (fun c1 => ?_)
  refine lv_iconst (v := 0) hx hb dX1_greatestLeft_8 (by decide) ?_
  refine lv_iload hx hb dX1_greatestLeft_9 (lv_at hl 0 rfl) ?_
  refine lv_sipush (v := 1000) hx hb dX1_greatestLeft_11 (by decide) ?_
  refine lv_imul hx hb dX1_greatestLeft_14 ?_
  refine lv_topi (fun vv ev => ?_)
  obtain rfl : vv = 4000 := ev.trans (by decide)
  refine lv_aload_n hx hb dX1_greatestLeft_15 rfl (lv_at hl 1 rfl) ?_
  refine va_get (D := D) (ci := 1) (v := .int fw) (C := RX1) (T := TX1) (N := 7) hx hb hts iw_k_greatestLeftAny_1 hown hK hP 0 rfl rfl 6 (by decide) (hts (.fieldLink RX1 38 "FlightDesk$Flight" "weight" "I") (by decide +kernel)) (fun _ h9 => h9) rfl dX1_greatestLeft_16 ?_
  refine lv_isub hx hb dX1_greatestLeft_19 ?_
  refine lv_topi (fun v2 ev2 => ?_)
  have tv2 : v2.toInt = (4000 - fw.toInt + 2147483648) % 4294967296 - 2147483648 := i32_sub ev2
  refine va_mmax hx hb (by rw [hml]; exact hl.1.symm) hown (hts (.methodLink RX1 78 Lib.Math.max.name) (by decide +kernel)) (hts (.static Lib.Math.max.name) (by decide +kernel)) (hts (.initialized "java/lang/Math") (by decide +kernel)) (hts (.code Lib.Math.max.name Lib.Math.max.code 2 (some .int)) (by decide +kernel)) (Nat.le_of_ble_eq_true rfl) (Nat.le_of_ble_eq_true rfl) (Nat.le_of_ble_eq_true rfl) (Nat.le_of_ble_eq_true rfl) dX1_greatestLeft_20 ?_
  refine lv_topi (fun v3 ev3 => ?_)
  have tv3 : v3.toInt ≥ 0 ∧ v3.toInt ≥ v2.toInt ∧ (v3.toInt = 0 ∨ v3.toInt = v2.toInt) := i32_max ev3
  refine lv_istore (lv' := [(5, .int v3), (4, .int 4), (0, .ref h0), (1, .int x), (2, .int v), (3, .int y)]) hx hb dX1_greatestLeft_23 hl (by decide) rfl (fun ls hl => ?_)
  refine lv_iload hx hb dX1_greatestLeft_25 (lv_at hl 1 rfl) ?_
  refine lv_iconst (v := 4) hx hb dX1_greatestLeft_27 (by decide) ?_
  refine lv_icmp_ne (tgt := 35) hx hb dX1_greatestLeft_28 (by decide) (fun h9 => (by first | exact absurd h9 (by decide) | exact absurd (by decide) h9)) (fun c4 => ?_)
  refine lv_iload_n hx hb dX1_greatestLeft_31 rfl (lv_at hl 5 rfl) ?_
  refine lv_goto (tgt := 50) hx hb dX1_greatestLeft_32 (by decide) ?_
  refine lv_istore (lv' := [(6, .int y), (5, .int v3), (4, .int 4), (0, .ref h0), (1, .int x), (2, .int v), (3, .int y)]) hx hb dX1_greatestLeft_50 hl (by decide) rfl (fun ls hl => ?_)
  refine lv_iload hx hb dX1_greatestLeft_52 (lv_at hl 0 rfl) ?_
  refine lv_iload_n hx hb dX1_greatestLeft_54 rfl (lv_at hl 6 rfl) ?_
  refine lv_aload_n hx hb dX1_greatestLeft_55 rfl (lv_at hl 3 rfl) ?_
  refine lv_iload_n hx hb dX1_greatestLeft_56 rfl (lv_at hl 4 rfl) ?_
  refine lv_iload_n hx hb dX1_greatestLeft_57 rfl (lv_at hl 5 rfl) ?_
  refine lv_iload hx hb dX1_greatestLeft_58 (lv_at hl 1 rfl) ?_
  have hPc := hP.sub (ws' := [(h0, .inr (1, [.ref bk, .int fi, .int ff, .int ft, .int fd, .int fr, .int fw])), (bk, .inr (0, [.int lc, .int ln, .ref a2, .ref a3, .ref a4, .ref a5, .ref a6, .ref a7, .ref a8, .ref a9, .ref a10, .ref a11, .ref a12, .ref a13, .ref a14])), (a11, .inl (cI, 30, .inl f11))]) [0, 1, 2] rfl
  have hDc := hD.sub (ws' := [(h0, .inr (1, [.ref bk, .int fi, .int ff, .int ft, .int fd, .int fr, .int fw])), (bk, .inr (0, [.int lc, .int ln, .ref a2, .ref a3, .ref a4, .ref a5, .ref a6, .ref a7, .ref a8, .ref a9, .ref a10, .ref a11, .ref a12, .ref a13, .ref a14])), (a11, .inl (cI, 30, .inl f11))]) [0, 1, 2] (by decide) rfl
  have hFc := va_free (wc := [(h0, .inr (1, [.ref bk, .int fi, .int ff, .int ft, .int fd, .int fr, .int fw])), (bk, .inr (0, [.int lc, .int ln, .ref a2, .ref a3, .ref a4, .ref a5, .ref a6, .ref a7, .ref a8, .ref a9, .ref a10, .ref a11, .ref a12, .ref a13, .ref a14])), (a11, .inl (cI, 30, .inl f11))]) hD hS hA [0, 1, 2] rfl
  refine va_calli (va_runV (As := [.int x, .int v, .int v3]) (rest := [.int y, .int y]) ⟨hx, hb, hml, hown, hts⟩ (k_fuelOfAny l D cI cB cP s.heap.size h0 bk fi ff ft fd fr fw lc ln a2 a3 a4 a5 a6 a7 a8 a9 a10 a11 a12 a13 a14 x v v3 f11 (show 0 ≤ v.toInt ∧ v.toInt ≤ 5 by first | assumption | omega | decide) (show 0 ≤ v3.toInt ∧ v3.toInt ≤ 1100000000 by first | assumption | omega | decide) (show 0 ≤ fw.toInt ∧ fw.toInt ≤ 90000 by first | assumption | omega | decide)) (cwV 3 hts gw_k_greatestLeftAny_0 rfl rfl rfl (by decide +kernel) ⟨Nat.le_of_ble_eq_true rfl, Nat.le_of_ble_eq_true rfl⟩) ⟨ny_blind, va_recv hK hPc (ci := 1) (q0 := 0) rfl rfl, ny_pre hPc hK hN hDc⟩ rfl rfl hl.1 rfl (lv_room (Nat.le_of_ble_eq_true rfl)) dX1_greatestLeft_60 ⟨Nat.le_of_ble_eq_true rfl, Nat.le_of_ble_eq_true rfl⟩) hS (fun q _ h => hFc q h) hFc (fun r5 u t H locs ht hvm hw hB hz1 hk1 hS => ?_)
  obtain ⟨hP1, hD1⟩ := hB
  rw [ht] at hP1
  obtain ⟨hP, hD⟩ := va_join (wr := []) (w1 := [(h0, .inr (1, [.ref bk, .int fi, .int ff, .int ft, .int fd, .int fr, .int fw])), (bk, .inr (0, [.int lc, .int ln, .ref a2, .ref a3, .ref a4, .ref a5, .ref a6, .ref a7, .ref a8, .ref a9, .ref a10, .ref a11, .ref a12, .ref a13, .ref a14])), (a11, .inl (cI, 30, .inl f11))]) hP hD [0, 1, 2] [] rfl rfl (by decide) (by decide) hk1 hFc hP1 hD1
  have hP : va_P D vwCl [(h0, .inr (1, [.ref bk, .int fi, .int ff, .int ft, .int fd, .int fr, .int fw])), (bk, .inr (0, [.int lc, .int ln, .ref a2, .ref a3, .ref a4, .ref a5, .ref a6, .ref a7, .ref a8, .ref a9, .ref a10, .ref a11, .ref a12, .ref a13, .ref a14])), (a11, .inl (cI, 30, .inl f11))] H := hP
  have hD : va_D A [(h0, .inr (1, [.ref bk, .int fi, .int ff, .int ft, .int fd, .int fr, .int fw])), (bk, .inr (0, [.int lc, .int ln, .ref a2, .ref a3, .ref a4, .ref a5, .ref a6, .ref a7, .ref a8, .ref a9, .ref a10, .ref a11, .ref a12, .ref a13, .ref a14])), (a11, .inl (cI, 30, .inl f11))] := hD
  have hr5 : True := hw
  refine lv_isub hx hb dX1_greatestLeft_63 ?_
  refine lv_topi (fun v6 ev6 => ?_)
  have tv6 : v6.toInt = (y.toInt - r5.toInt + 2147483648) % 4294967296 - 2147483648 := i32_sub ev6
  refine va_mmin hx hb (by rw [hml]; exact hl.1.symm) hown (hts (.methodLink RX1 66 Lib.Math.min.name) (by decide +kernel)) (hts (.static Lib.Math.min.name) (by decide +kernel)) (hts (.initialized "java/lang/Math") (by decide +kernel)) (hts (.code Lib.Math.min.name Lib.Math.min.code 2 (some .int)) (by decide +kernel)) (Nat.le_of_ble_eq_true rfl) (Nat.le_of_ble_eq_true rfl) (Nat.le_of_ble_eq_true rfl) (Nat.le_of_ble_eq_true rfl) dX1_greatestLeft_64 ?_
  refine lv_topi (fun v7 ev7 => ?_)
  have tv7 : v7.toInt ≤ y.toInt ∧ v7.toInt ≤ v6.toInt ∧ (v7.toInt = y.toInt ∨ v7.toInt = v6.toInt) := i32_min ev7
  refine lv_istore (lv' := [(7, .int v7), (6, .int y), (5, .int v3), (4, .int 4), (0, .ref h0), (1, .int x), (2, .int v), (3, .int y)]) hx hb dX1_greatestLeft_67 hl (by decide) rfl (fun ls hl => ?_)
  refine lv_iload hx hb dX1_greatestLeft_69 (lv_at hl 0 rfl) ?_
  refine lv_iload hx hb dX1_greatestLeft_71 (lv_at hl 2 rfl) ?_
  refine lv_icmp_lt (tgt := 79) hx hb dX1_greatestLeft_73 (by decide) (fun c8 => ?_) (fun c8 => ?_)
  · have tc8 : v7.toInt < v3.toInt := i32_lt c8
    refine lv_iinc (v := 3) (lv' := [(4, .int 3), (7, .int v7), (6, .int y), (5, .int v3), (0, .ref h0), (1, .int x), (2, .int v), (3, .int y)]) hx hb dX1_greatestLeft_79 hl (k := 3) rfl (by decide) (by decide) rfl (fun ls hl => ?_)
    refine lv_goto (tgt := 3) hx hb dX1_greatestLeft_82 (by decide) ?_
    refine lv_iload hx hb dX1_greatestLeft_3 (lv_at hl 0 rfl) ?_
    refine lv_if_lt (tgt := 85) hx hb dX1_greatestLeft_5 (by decide) (fun h9 => (by first | exact absurd h9 (by decide) | exact absurd (by decide) h9)) (fun c9 => ?_)
    refine lv_iconst (v := 0) hx hb dX1_greatestLeft_8 (by decide) ?_
    refine lv_iload hx hb dX1_greatestLeft_9 (lv_at hl 0 rfl) ?_
    refine lv_sipush (v := 1000) hx hb dX1_greatestLeft_11 (by decide) ?_
    refine lv_imul hx hb dX1_greatestLeft_14 ?_
    refine lv_topi (fun vv ev => ?_)
    obtain rfl : vv = 3000 := ev.trans (by decide)
    refine lv_aload_n hx hb dX1_greatestLeft_15 rfl (lv_at hl 4 rfl) ?_
    refine va_get (D := D) (ci := 1) (v := .int fw) (C := RX1) (T := TX1) (N := 7) hx hb hts iw_k_greatestLeftAny_1 hown hK hP 0 rfl rfl 6 (by decide) (hts (.fieldLink RX1 38 "FlightDesk$Flight" "weight" "I") (by decide +kernel)) (fun _ h9 => h9) rfl dX1_greatestLeft_16 ?_
    refine lv_isub hx hb dX1_greatestLeft_19 ?_
    refine lv_topi (fun v10 ev10 => ?_)
    have tv10 : v10.toInt = (3000 - fw.toInt + 2147483648) % 4294967296 - 2147483648 := i32_sub ev10
    refine va_mmax hx hb (by rw [hml]; exact hl.1.symm) hown (hts (.methodLink RX1 78 Lib.Math.max.name) (by decide +kernel)) (hts (.static Lib.Math.max.name) (by decide +kernel)) (hts (.initialized "java/lang/Math") (by decide +kernel)) (hts (.code Lib.Math.max.name Lib.Math.max.code 2 (some .int)) (by decide +kernel)) (Nat.le_of_ble_eq_true rfl) (Nat.le_of_ble_eq_true rfl) (Nat.le_of_ble_eq_true rfl) (Nat.le_of_ble_eq_true rfl) dX1_greatestLeft_20 ?_
    refine lv_topi (fun v11 ev11 => ?_)
    have tv11 : v11.toInt ≥ 0 ∧ v11.toInt ≥ v10.toInt ∧ (v11.toInt = 0 ∨ v11.toInt = v10.toInt) := i32_max ev11
    refine lv_istore (lv' := [(5, .int v11), (4, .int 3), (7, .int v7), (6, .int y), (0, .ref h0), (1, .int x), (2, .int v), (3, .int y)]) hx hb dX1_greatestLeft_23 hl (by decide) rfl (fun ls hl => ?_)
    refine lv_iload hx hb dX1_greatestLeft_25 (lv_at hl 1 rfl) ?_
    refine lv_iconst (v := 4) hx hb dX1_greatestLeft_27 (by decide) ?_
    refine lv_icmp_ne (tgt := 35) hx hb dX1_greatestLeft_28 (by decide) (fun c12 => ?_) (fun h9 => (by first | exact absurd h9 (by decide) | exact absurd (by decide) h9))
    refine lv_iload hx hb dX1_greatestLeft_35 (lv_at hl 1 rfl) ?_
    refine lv_iconst (v := 1) hx hb dX1_greatestLeft_37 (by decide) ?_
    refine lv_iadd hx hb dX1_greatestLeft_38 ?_
    refine lv_topi (fun vv ev => ?_)
    obtain rfl : vv = 4 := ev.trans (by decide)
    refine lv_sipush (v := 1000) hx hb dX1_greatestLeft_39 (by decide) ?_
    refine lv_imul hx hb dX1_greatestLeft_42 ?_
    refine lv_topi (fun vv ev => ?_)
    obtain rfl : vv = 4000 := ev.trans (by decide)
    refine lv_iconst (v := 1) hx hb dX1_greatestLeft_43 (by decide) ?_
    refine lv_isub hx hb dX1_greatestLeft_44 ?_
    refine lv_topi (fun vv ev => ?_)
    obtain rfl : vv = 3999 := ev.trans (by decide)
    refine lv_aload_n hx hb dX1_greatestLeft_45 rfl (lv_at hl 4 rfl) ?_
    refine va_get (D := D) (ci := 1) (v := .int fw) (C := RX1) (T := TX1) (N := 7) hx hb hts iw_k_greatestLeftAny_1 hown hK hP 0 rfl rfl 6 (by decide) (hts (.fieldLink RX1 38 "FlightDesk$Flight" "weight" "I") (by decide +kernel)) (fun _ h9 => h9) rfl dX1_greatestLeft_46 ?_
    refine lv_isub hx hb dX1_greatestLeft_49 ?_
    refine lv_topi (fun v13 ev13 => ?_)
    have tv13 : v13.toInt = (3999 - fw.toInt + 2147483648) % 4294967296 - 2147483648 := i32_sub ev13
    refine lv_istore (lv' := [(6, .int v13), (5, .int v11), (4, .int 3), (7, .int v7), (0, .ref h0), (1, .int x), (2, .int v), (3, .int y)]) hx hb dX1_greatestLeft_50 hl (by decide) rfl (fun ls hl => ?_)
    refine lv_iload hx hb dX1_greatestLeft_52 (lv_at hl 0 rfl) ?_
    refine lv_iload_n hx hb dX1_greatestLeft_54 rfl (lv_at hl 7 rfl) ?_
    refine lv_aload_n hx hb dX1_greatestLeft_55 rfl (lv_at hl 4 rfl) ?_
    refine lv_iload_n hx hb dX1_greatestLeft_56 rfl (lv_at hl 5 rfl) ?_
    refine lv_iload_n hx hb dX1_greatestLeft_57 rfl (lv_at hl 6 rfl) ?_
    refine lv_iload hx hb dX1_greatestLeft_58 (lv_at hl 1 rfl) ?_
    have hPc := hP.sub (ws' := [(h0, .inr (1, [.ref bk, .int fi, .int ff, .int ft, .int fd, .int fr, .int fw])), (bk, .inr (0, [.int lc, .int ln, .ref a2, .ref a3, .ref a4, .ref a5, .ref a6, .ref a7, .ref a8, .ref a9, .ref a10, .ref a11, .ref a12, .ref a13, .ref a14])), (a11, .inl (cI, 30, .inl f11))]) [0, 1, 2] rfl
    have hDc := hD.sub (ws' := [(h0, .inr (1, [.ref bk, .int fi, .int ff, .int ft, .int fd, .int fr, .int fw])), (bk, .inr (0, [.int lc, .int ln, .ref a2, .ref a3, .ref a4, .ref a5, .ref a6, .ref a7, .ref a8, .ref a9, .ref a10, .ref a11, .ref a12, .ref a13, .ref a14])), (a11, .inl (cI, 30, .inl f11))]) [0, 1, 2] (by decide) rfl
    have hFc := va_free (wc := [(h0, .inr (1, [.ref bk, .int fi, .int ff, .int ft, .int fd, .int fr, .int fw])), (bk, .inr (0, [.int lc, .int ln, .ref a2, .ref a3, .ref a4, .ref a5, .ref a6, .ref a7, .ref a8, .ref a9, .ref a10, .ref a11, .ref a12, .ref a13, .ref a14])), (a11, .inl (cI, 30, .inl f11))]) hD hS hA [0, 1, 2] rfl
    refine va_calli (va_runV (As := [.int x, .int v, .int v11]) (rest := [.int y, .int v13]) ⟨hx, hb, hml, hown, hts⟩ (k_fuelOfAny l D cI cB cP H.size h0 bk fi ff ft fd fr fw lc ln a2 a3 a4 a5 a6 a7 a8 a9 a10 a11 a12 a13 a14 x v v11 f11 (show 0 ≤ v.toInt ∧ v.toInt ≤ 5 by first | assumption | omega | decide) (show 0 ≤ v11.toInt ∧ v11.toInt ≤ 1100000000 by first | assumption | omega | decide) (show 0 ≤ fw.toInt ∧ fw.toInt ≤ 90000 by first | assumption | omega | decide)) (cwV 3 hts gw_k_greatestLeftAny_0 rfl rfl rfl (by decide +kernel) ⟨Nat.le_of_ble_eq_true rfl, Nat.le_of_ble_eq_true rfl⟩) ⟨ny_blind, va_recv hK hPc (ci := 1) (q0 := 0) rfl rfl, ny_pre hPc hK hN hDc⟩ rfl rfl hl.1 rfl (lv_room (Nat.le_of_ble_eq_true rfl)) dX1_greatestLeft_60 ⟨Nat.le_of_ble_eq_true rfl, Nat.le_of_ble_eq_true rfl⟩) hS (fun q _ h => hFc q h) hFc (fun r14 u t H locs ht hvm hw hB hz1 hk1 hS => ?_)
    obtain ⟨hP1, hD1⟩ := hB
    rw [ht] at hP1
    obtain ⟨hP, hD⟩ := va_join (wr := []) (w1 := [(h0, .inr (1, [.ref bk, .int fi, .int ff, .int ft, .int fd, .int fr, .int fw])), (bk, .inr (0, [.int lc, .int ln, .ref a2, .ref a3, .ref a4, .ref a5, .ref a6, .ref a7, .ref a8, .ref a9, .ref a10, .ref a11, .ref a12, .ref a13, .ref a14])), (a11, .inl (cI, 30, .inl f11))]) hP hD [0, 1, 2] [] rfl rfl (by decide) (by decide) hk1 hFc hP1 hD1
    have hP : va_P D vwCl [(h0, .inr (1, [.ref bk, .int fi, .int ff, .int ft, .int fd, .int fr, .int fw])), (bk, .inr (0, [.int lc, .int ln, .ref a2, .ref a3, .ref a4, .ref a5, .ref a6, .ref a7, .ref a8, .ref a9, .ref a10, .ref a11, .ref a12, .ref a13, .ref a14])), (a11, .inl (cI, 30, .inl f11))] H := hP
    have hD : va_D A [(h0, .inr (1, [.ref bk, .int fi, .int ff, .int ft, .int fd, .int fr, .int fw])), (bk, .inr (0, [.int lc, .int ln, .ref a2, .ref a3, .ref a4, .ref a5, .ref a6, .ref a7, .ref a8, .ref a9, .ref a10, .ref a11, .ref a12, .ref a13, .ref a14])), (a11, .inl (cI, 30, .inl f11))] := hD
    have hr14 : True := hw
    refine lv_isub hx hb dX1_greatestLeft_63 ?_
    refine lv_topi (fun v15 ev15 => ?_)
    have tv15 : v15.toInt = (y.toInt - r14.toInt + 2147483648) % 4294967296 - 2147483648 := i32_sub ev15
    refine va_mmin hx hb (by rw [hml]; exact hl.1.symm) hown (hts (.methodLink RX1 66 Lib.Math.min.name) (by decide +kernel)) (hts (.static Lib.Math.min.name) (by decide +kernel)) (hts (.initialized "java/lang/Math") (by decide +kernel)) (hts (.code Lib.Math.min.name Lib.Math.min.code 2 (some .int)) (by decide +kernel)) (Nat.le_of_ble_eq_true rfl) (Nat.le_of_ble_eq_true rfl) (Nat.le_of_ble_eq_true rfl) (Nat.le_of_ble_eq_true rfl) dX1_greatestLeft_64 ?_
    refine lv_topi (fun v16 ev16 => ?_)
    have tv16 : v16.toInt ≤ v13.toInt ∧ v16.toInt ≤ v15.toInt ∧ (v16.toInt = v13.toInt ∨ v16.toInt = v15.toInt) := i32_min ev16
    refine lv_istore (lv' := [(7, .int v16), (6, .int v13), (5, .int v11), (4, .int 3), (0, .ref h0), (1, .int x), (2, .int v), (3, .int y)]) hx hb dX1_greatestLeft_67 hl (by decide) rfl (fun ls hl => ?_)
    refine lv_iload hx hb dX1_greatestLeft_69 (lv_at hl 0 rfl) ?_
    refine lv_iload hx hb dX1_greatestLeft_71 (lv_at hl 2 rfl) ?_
    refine lv_icmp_lt (tgt := 79) hx hb dX1_greatestLeft_73 (by decide) (fun c17 => ?_) (fun c17 => ?_)
    · have tc17 : v16.toInt < v11.toInt := i32_lt c17
      refine lv_iinc (v := 2) (lv' := [(4, .int 2), (7, .int v16), (6, .int v13), (5, .int v11), (0, .ref h0), (1, .int x), (2, .int v), (3, .int y)]) hx hb dX1_greatestLeft_79 hl (k := 3) rfl (by decide) (by decide) rfl (fun ls hl => ?_)
      refine lv_goto (tgt := 3) hx hb dX1_greatestLeft_82 (by decide) ?_
      refine lv_iload hx hb dX1_greatestLeft_3 (lv_at hl 0 rfl) ?_
      refine lv_if_lt (tgt := 85) hx hb dX1_greatestLeft_5 (by decide) (fun h9 => (by first | exact absurd h9 (by decide) | exact absurd (by decide) h9)) (fun c18 => ?_)
      refine lv_iconst (v := 0) hx hb dX1_greatestLeft_8 (by decide) ?_
      refine lv_iload hx hb dX1_greatestLeft_9 (lv_at hl 0 rfl) ?_
      refine lv_sipush (v := 1000) hx hb dX1_greatestLeft_11 (by decide) ?_
      refine lv_imul hx hb dX1_greatestLeft_14 ?_
      refine lv_topi (fun vv ev => ?_)
      obtain rfl : vv = 2000 := ev.trans (by decide)
      refine lv_aload_n hx hb dX1_greatestLeft_15 rfl (lv_at hl 4 rfl) ?_
      refine va_get (D := D) (ci := 1) (v := .int fw) (C := RX1) (T := TX1) (N := 7) hx hb hts iw_k_greatestLeftAny_1 hown hK hP 0 rfl rfl 6 (by decide) (hts (.fieldLink RX1 38 "FlightDesk$Flight" "weight" "I") (by decide +kernel)) (fun _ h9 => h9) rfl dX1_greatestLeft_16 ?_
      refine lv_isub hx hb dX1_greatestLeft_19 ?_
      refine lv_topi (fun v19 ev19 => ?_)
      have tv19 : v19.toInt = (2000 - fw.toInt + 2147483648) % 4294967296 - 2147483648 := i32_sub ev19
      refine va_mmax hx hb (by rw [hml]; exact hl.1.symm) hown (hts (.methodLink RX1 78 Lib.Math.max.name) (by decide +kernel)) (hts (.static Lib.Math.max.name) (by decide +kernel)) (hts (.initialized "java/lang/Math") (by decide +kernel)) (hts (.code Lib.Math.max.name Lib.Math.max.code 2 (some .int)) (by decide +kernel)) (Nat.le_of_ble_eq_true rfl) (Nat.le_of_ble_eq_true rfl) (Nat.le_of_ble_eq_true rfl) (Nat.le_of_ble_eq_true rfl) dX1_greatestLeft_20 ?_
      refine lv_topi (fun v20 ev20 => ?_)
      have tv20 : v20.toInt ≥ 0 ∧ v20.toInt ≥ v19.toInt ∧ (v20.toInt = 0 ∨ v20.toInt = v19.toInt) := i32_max ev20
      refine lv_istore (lv' := [(5, .int v20), (4, .int 2), (7, .int v16), (6, .int v13), (0, .ref h0), (1, .int x), (2, .int v), (3, .int y)]) hx hb dX1_greatestLeft_23 hl (by decide) rfl (fun ls hl => ?_)
      refine lv_iload hx hb dX1_greatestLeft_25 (lv_at hl 1 rfl) ?_
      refine lv_iconst (v := 4) hx hb dX1_greatestLeft_27 (by decide) ?_
      refine lv_icmp_ne (tgt := 35) hx hb dX1_greatestLeft_28 (by decide) (fun c21 => ?_) (fun h9 => (by first | exact absurd h9 (by decide) | exact absurd (by decide) h9))
      refine lv_iload hx hb dX1_greatestLeft_35 (lv_at hl 1 rfl) ?_
      refine lv_iconst (v := 1) hx hb dX1_greatestLeft_37 (by decide) ?_
      refine lv_iadd hx hb dX1_greatestLeft_38 ?_
      refine lv_topi (fun vv ev => ?_)
      obtain rfl : vv = 3 := ev.trans (by decide)
      refine lv_sipush (v := 1000) hx hb dX1_greatestLeft_39 (by decide) ?_
      refine lv_imul hx hb dX1_greatestLeft_42 ?_
      refine lv_topi (fun vv ev => ?_)
      obtain rfl : vv = 3000 := ev.trans (by decide)
      refine lv_iconst (v := 1) hx hb dX1_greatestLeft_43 (by decide) ?_
      refine lv_isub hx hb dX1_greatestLeft_44 ?_
      refine lv_topi (fun vv ev => ?_)
      obtain rfl : vv = 2999 := ev.trans (by decide)
      refine lv_aload_n hx hb dX1_greatestLeft_45 rfl (lv_at hl 4 rfl) ?_
      refine va_get (D := D) (ci := 1) (v := .int fw) (C := RX1) (T := TX1) (N := 7) hx hb hts iw_k_greatestLeftAny_1 hown hK hP 0 rfl rfl 6 (by decide) (hts (.fieldLink RX1 38 "FlightDesk$Flight" "weight" "I") (by decide +kernel)) (fun _ h9 => h9) rfl dX1_greatestLeft_46 ?_
      refine lv_isub hx hb dX1_greatestLeft_49 ?_
      refine lv_topi (fun v22 ev22 => ?_)
      have tv22 : v22.toInt = (2999 - fw.toInt + 2147483648) % 4294967296 - 2147483648 := i32_sub ev22
      refine lv_istore (lv' := [(6, .int v22), (5, .int v20), (4, .int 2), (7, .int v16), (0, .ref h0), (1, .int x), (2, .int v), (3, .int y)]) hx hb dX1_greatestLeft_50 hl (by decide) rfl (fun ls hl => ?_)
      refine lv_iload hx hb dX1_greatestLeft_52 (lv_at hl 0 rfl) ?_
      refine lv_iload_n hx hb dX1_greatestLeft_54 rfl (lv_at hl 7 rfl) ?_
      refine lv_aload_n hx hb dX1_greatestLeft_55 rfl (lv_at hl 4 rfl) ?_
      refine lv_iload_n hx hb dX1_greatestLeft_56 rfl (lv_at hl 5 rfl) ?_
      refine lv_iload_n hx hb dX1_greatestLeft_57 rfl (lv_at hl 6 rfl) ?_
      refine lv_iload hx hb dX1_greatestLeft_58 (lv_at hl 1 rfl) ?_
      have hPc := hP.sub (ws' := [(h0, .inr (1, [.ref bk, .int fi, .int ff, .int ft, .int fd, .int fr, .int fw])), (bk, .inr (0, [.int lc, .int ln, .ref a2, .ref a3, .ref a4, .ref a5, .ref a6, .ref a7, .ref a8, .ref a9, .ref a10, .ref a11, .ref a12, .ref a13, .ref a14])), (a11, .inl (cI, 30, .inl f11))]) [0, 1, 2] rfl
      have hDc := hD.sub (ws' := [(h0, .inr (1, [.ref bk, .int fi, .int ff, .int ft, .int fd, .int fr, .int fw])), (bk, .inr (0, [.int lc, .int ln, .ref a2, .ref a3, .ref a4, .ref a5, .ref a6, .ref a7, .ref a8, .ref a9, .ref a10, .ref a11, .ref a12, .ref a13, .ref a14])), (a11, .inl (cI, 30, .inl f11))]) [0, 1, 2] (by decide) rfl
      have hFc := va_free (wc := [(h0, .inr (1, [.ref bk, .int fi, .int ff, .int ft, .int fd, .int fr, .int fw])), (bk, .inr (0, [.int lc, .int ln, .ref a2, .ref a3, .ref a4, .ref a5, .ref a6, .ref a7, .ref a8, .ref a9, .ref a10, .ref a11, .ref a12, .ref a13, .ref a14])), (a11, .inl (cI, 30, .inl f11))]) hD hS hA [0, 1, 2] rfl
      refine va_calli (va_runV (As := [.int x, .int v, .int v20]) (rest := [.int y, .int v22]) ⟨hx, hb, hml, hown, hts⟩ (k_fuelOfAny l D cI cB cP H.size h0 bk fi ff ft fd fr fw lc ln a2 a3 a4 a5 a6 a7 a8 a9 a10 a11 a12 a13 a14 x v v20 f11 (show 0 ≤ v.toInt ∧ v.toInt ≤ 5 by first | assumption | omega | decide) (show 0 ≤ v20.toInt ∧ v20.toInt ≤ 1100000000 by first | assumption | omega | decide) (show 0 ≤ fw.toInt ∧ fw.toInt ≤ 90000 by first | assumption | omega | decide)) (cwV 3 hts gw_k_greatestLeftAny_0 rfl rfl rfl (by decide +kernel) ⟨Nat.le_of_ble_eq_true rfl, Nat.le_of_ble_eq_true rfl⟩) ⟨ny_blind, va_recv hK hPc (ci := 1) (q0 := 0) rfl rfl, ny_pre hPc hK hN hDc⟩ rfl rfl hl.1 rfl (lv_room (Nat.le_of_ble_eq_true rfl)) dX1_greatestLeft_60 ⟨Nat.le_of_ble_eq_true rfl, Nat.le_of_ble_eq_true rfl⟩) hS (fun q _ h => hFc q h) hFc (fun r23 u t H locs ht hvm hw hB hz1 hk1 hS => ?_)
      obtain ⟨hP1, hD1⟩ := hB
      rw [ht] at hP1
      obtain ⟨hP, hD⟩ := va_join (wr := []) (w1 := [(h0, .inr (1, [.ref bk, .int fi, .int ff, .int ft, .int fd, .int fr, .int fw])), (bk, .inr (0, [.int lc, .int ln, .ref a2, .ref a3, .ref a4, .ref a5, .ref a6, .ref a7, .ref a8, .ref a9, .ref a10, .ref a11, .ref a12, .ref a13, .ref a14])), (a11, .inl (cI, 30, .inl f11))]) hP hD [0, 1, 2] [] rfl rfl (by decide) (by decide) hk1 hFc hP1 hD1
      have hP : va_P D vwCl [(h0, .inr (1, [.ref bk, .int fi, .int ff, .int ft, .int fd, .int fr, .int fw])), (bk, .inr (0, [.int lc, .int ln, .ref a2, .ref a3, .ref a4, .ref a5, .ref a6, .ref a7, .ref a8, .ref a9, .ref a10, .ref a11, .ref a12, .ref a13, .ref a14])), (a11, .inl (cI, 30, .inl f11))] H := hP
      have hD : va_D A [(h0, .inr (1, [.ref bk, .int fi, .int ff, .int ft, .int fd, .int fr, .int fw])), (bk, .inr (0, [.int lc, .int ln, .ref a2, .ref a3, .ref a4, .ref a5, .ref a6, .ref a7, .ref a8, .ref a9, .ref a10, .ref a11, .ref a12, .ref a13, .ref a14])), (a11, .inl (cI, 30, .inl f11))] := hD
      have hr23 : True := hw
      refine lv_isub hx hb dX1_greatestLeft_63 ?_
      refine lv_topi (fun v24 ev24 => ?_)
      have tv24 : v24.toInt = (y.toInt - r23.toInt + 2147483648) % 4294967296 - 2147483648 := i32_sub ev24
      refine va_mmin hx hb (by rw [hml]; exact hl.1.symm) hown (hts (.methodLink RX1 66 Lib.Math.min.name) (by decide +kernel)) (hts (.static Lib.Math.min.name) (by decide +kernel)) (hts (.initialized "java/lang/Math") (by decide +kernel)) (hts (.code Lib.Math.min.name Lib.Math.min.code 2 (some .int)) (by decide +kernel)) (Nat.le_of_ble_eq_true rfl) (Nat.le_of_ble_eq_true rfl) (Nat.le_of_ble_eq_true rfl) (Nat.le_of_ble_eq_true rfl) dX1_greatestLeft_64 ?_
      refine lv_topi (fun v25 ev25 => ?_)
      have tv25 : v25.toInt ≤ v22.toInt ∧ v25.toInt ≤ v24.toInt ∧ (v25.toInt = v22.toInt ∨ v25.toInt = v24.toInt) := i32_min ev25
      refine lv_istore (lv' := [(7, .int v25), (6, .int v22), (5, .int v20), (4, .int 2), (0, .ref h0), (1, .int x), (2, .int v), (3, .int y)]) hx hb dX1_greatestLeft_67 hl (by decide) rfl (fun ls hl => ?_)
      refine lv_iload hx hb dX1_greatestLeft_69 (lv_at hl 0 rfl) ?_
      refine lv_iload hx hb dX1_greatestLeft_71 (lv_at hl 2 rfl) ?_
      refine lv_icmp_lt (tgt := 79) hx hb dX1_greatestLeft_73 (by decide) (fun c26 => ?_) (fun c26 => ?_)
      · have tc26 : v25.toInt < v20.toInt := i32_lt c26
        refine lv_iinc (v := 1) (lv' := [(4, .int 1), (7, .int v25), (6, .int v22), (5, .int v20), (0, .ref h0), (1, .int x), (2, .int v), (3, .int y)]) hx hb dX1_greatestLeft_79 hl (k := 3) rfl (by decide) (by decide) rfl (fun ls hl => ?_)
        refine lv_goto (tgt := 3) hx hb dX1_greatestLeft_82 (by decide) ?_
        refine lv_iload hx hb dX1_greatestLeft_3 (lv_at hl 0 rfl) ?_
        refine lv_if_lt (tgt := 85) hx hb dX1_greatestLeft_5 (by decide) (fun h9 => (by first | exact absurd h9 (by decide) | exact absurd (by decide) h9)) (fun c27 => ?_)
        refine lv_iconst (v := 0) hx hb dX1_greatestLeft_8 (by decide) ?_
        refine lv_iload hx hb dX1_greatestLeft_9 (lv_at hl 0 rfl) ?_
        refine lv_sipush (v := 1000) hx hb dX1_greatestLeft_11 (by decide) ?_
        refine lv_imul hx hb dX1_greatestLeft_14 ?_
        refine lv_topi (fun vv ev => ?_)
        obtain rfl : vv = 1000 := ev.trans (by decide)
        refine lv_aload_n hx hb dX1_greatestLeft_15 rfl (lv_at hl 4 rfl) ?_
        refine va_get (D := D) (ci := 1) (v := .int fw) (C := RX1) (T := TX1) (N := 7) hx hb hts iw_k_greatestLeftAny_1 hown hK hP 0 rfl rfl 6 (by decide) (hts (.fieldLink RX1 38 "FlightDesk$Flight" "weight" "I") (by decide +kernel)) (fun _ h9 => h9) rfl dX1_greatestLeft_16 ?_
        refine lv_isub hx hb dX1_greatestLeft_19 ?_
        refine lv_topi (fun v28 ev28 => ?_)
        have tv28 : v28.toInt = (1000 - fw.toInt + 2147483648) % 4294967296 - 2147483648 := i32_sub ev28
        refine va_mmax hx hb (by rw [hml]; exact hl.1.symm) hown (hts (.methodLink RX1 78 Lib.Math.max.name) (by decide +kernel)) (hts (.static Lib.Math.max.name) (by decide +kernel)) (hts (.initialized "java/lang/Math") (by decide +kernel)) (hts (.code Lib.Math.max.name Lib.Math.max.code 2 (some .int)) (by decide +kernel)) (Nat.le_of_ble_eq_true rfl) (Nat.le_of_ble_eq_true rfl) (Nat.le_of_ble_eq_true rfl) (Nat.le_of_ble_eq_true rfl) dX1_greatestLeft_20 ?_
        refine lv_topi (fun v29 ev29 => ?_)
        have tv29 : v29.toInt ≥ 0 ∧ v29.toInt ≥ v28.toInt ∧ (v29.toInt = 0 ∨ v29.toInt = v28.toInt) := i32_max ev29
        refine lv_istore (lv' := [(5, .int v29), (4, .int 1), (7, .int v25), (6, .int v22), (0, .ref h0), (1, .int x), (2, .int v), (3, .int y)]) hx hb dX1_greatestLeft_23 hl (by decide) rfl (fun ls hl => ?_)
        refine lv_iload hx hb dX1_greatestLeft_25 (lv_at hl 1 rfl) ?_
        refine lv_iconst (v := 4) hx hb dX1_greatestLeft_27 (by decide) ?_
        refine lv_icmp_ne (tgt := 35) hx hb dX1_greatestLeft_28 (by decide) (fun c30 => ?_) (fun h9 => (by first | exact absurd h9 (by decide) | exact absurd (by decide) h9))
        refine lv_iload hx hb dX1_greatestLeft_35 (lv_at hl 1 rfl) ?_
        refine lv_iconst (v := 1) hx hb dX1_greatestLeft_37 (by decide) ?_
        refine lv_iadd hx hb dX1_greatestLeft_38 ?_
        refine lv_topi (fun vv ev => ?_)
        obtain rfl : vv = 2 := ev.trans (by decide)
        refine lv_sipush (v := 1000) hx hb dX1_greatestLeft_39 (by decide) ?_
        refine lv_imul hx hb dX1_greatestLeft_42 ?_
        refine lv_topi (fun vv ev => ?_)
        obtain rfl : vv = 2000 := ev.trans (by decide)
        refine lv_iconst (v := 1) hx hb dX1_greatestLeft_43 (by decide) ?_
        refine lv_isub hx hb dX1_greatestLeft_44 ?_
        refine lv_topi (fun vv ev => ?_)
        obtain rfl : vv = 1999 := ev.trans (by decide)
        refine lv_aload_n hx hb dX1_greatestLeft_45 rfl (lv_at hl 4 rfl) ?_
        refine va_get (D := D) (ci := 1) (v := .int fw) (C := RX1) (T := TX1) (N := 7) hx hb hts iw_k_greatestLeftAny_1 hown hK hP 0 rfl rfl 6 (by decide) (hts (.fieldLink RX1 38 "FlightDesk$Flight" "weight" "I") (by decide +kernel)) (fun _ h9 => h9) rfl dX1_greatestLeft_46 ?_
        refine lv_isub hx hb dX1_greatestLeft_49 ?_
        refine lv_topi (fun v31 ev31 => ?_)
        have tv31 : v31.toInt = (1999 - fw.toInt + 2147483648) % 4294967296 - 2147483648 := i32_sub ev31
        refine lv_istore (lv' := [(6, .int v31), (5, .int v29), (4, .int 1), (7, .int v25), (0, .ref h0), (1, .int x), (2, .int v), (3, .int y)]) hx hb dX1_greatestLeft_50 hl (by decide) rfl (fun ls hl => ?_)
        refine lv_iload hx hb dX1_greatestLeft_52 (lv_at hl 0 rfl) ?_
        refine lv_iload_n hx hb dX1_greatestLeft_54 rfl (lv_at hl 7 rfl) ?_
        refine lv_aload_n hx hb dX1_greatestLeft_55 rfl (lv_at hl 4 rfl) ?_
        refine lv_iload_n hx hb dX1_greatestLeft_56 rfl (lv_at hl 5 rfl) ?_
        refine lv_iload_n hx hb dX1_greatestLeft_57 rfl (lv_at hl 6 rfl) ?_
        refine lv_iload hx hb dX1_greatestLeft_58 (lv_at hl 1 rfl) ?_
        have hPc := hP.sub (ws' := [(h0, .inr (1, [.ref bk, .int fi, .int ff, .int ft, .int fd, .int fr, .int fw])), (bk, .inr (0, [.int lc, .int ln, .ref a2, .ref a3, .ref a4, .ref a5, .ref a6, .ref a7, .ref a8, .ref a9, .ref a10, .ref a11, .ref a12, .ref a13, .ref a14])), (a11, .inl (cI, 30, .inl f11))]) [0, 1, 2] rfl
        have hDc := hD.sub (ws' := [(h0, .inr (1, [.ref bk, .int fi, .int ff, .int ft, .int fd, .int fr, .int fw])), (bk, .inr (0, [.int lc, .int ln, .ref a2, .ref a3, .ref a4, .ref a5, .ref a6, .ref a7, .ref a8, .ref a9, .ref a10, .ref a11, .ref a12, .ref a13, .ref a14])), (a11, .inl (cI, 30, .inl f11))]) [0, 1, 2] (by decide) rfl
        have hFc := va_free (wc := [(h0, .inr (1, [.ref bk, .int fi, .int ff, .int ft, .int fd, .int fr, .int fw])), (bk, .inr (0, [.int lc, .int ln, .ref a2, .ref a3, .ref a4, .ref a5, .ref a6, .ref a7, .ref a8, .ref a9, .ref a10, .ref a11, .ref a12, .ref a13, .ref a14])), (a11, .inl (cI, 30, .inl f11))]) hD hS hA [0, 1, 2] rfl
        refine va_calli (va_runV (As := [.int x, .int v, .int v29]) (rest := [.int y, .int v31]) ⟨hx, hb, hml, hown, hts⟩ (k_fuelOfAny l D cI cB cP H.size h0 bk fi ff ft fd fr fw lc ln a2 a3 a4 a5 a6 a7 a8 a9 a10 a11 a12 a13 a14 x v v29 f11 (show 0 ≤ v.toInt ∧ v.toInt ≤ 5 by first | assumption | omega | decide) (show 0 ≤ v29.toInt ∧ v29.toInt ≤ 1100000000 by first | assumption | omega | decide) (show 0 ≤ fw.toInt ∧ fw.toInt ≤ 90000 by first | assumption | omega | decide)) (cwV 3 hts gw_k_greatestLeftAny_0 rfl rfl rfl (by decide +kernel) ⟨Nat.le_of_ble_eq_true rfl, Nat.le_of_ble_eq_true rfl⟩) ⟨ny_blind, va_recv hK hPc (ci := 1) (q0 := 0) rfl rfl, ny_pre hPc hK hN hDc⟩ rfl rfl hl.1 rfl (lv_room (Nat.le_of_ble_eq_true rfl)) dX1_greatestLeft_60 ⟨Nat.le_of_ble_eq_true rfl, Nat.le_of_ble_eq_true rfl⟩) hS (fun q _ h => hFc q h) hFc (fun r32 u t H locs ht hvm hw hB hz1 hk1 hS => ?_)
        obtain ⟨hP1, hD1⟩ := hB
        rw [ht] at hP1
        obtain ⟨hP, hD⟩ := va_join (wr := []) (w1 := [(h0, .inr (1, [.ref bk, .int fi, .int ff, .int ft, .int fd, .int fr, .int fw])), (bk, .inr (0, [.int lc, .int ln, .ref a2, .ref a3, .ref a4, .ref a5, .ref a6, .ref a7, .ref a8, .ref a9, .ref a10, .ref a11, .ref a12, .ref a13, .ref a14])), (a11, .inl (cI, 30, .inl f11))]) hP hD [0, 1, 2] [] rfl rfl (by decide) (by decide) hk1 hFc hP1 hD1
        have hP : va_P D vwCl [(h0, .inr (1, [.ref bk, .int fi, .int ff, .int ft, .int fd, .int fr, .int fw])), (bk, .inr (0, [.int lc, .int ln, .ref a2, .ref a3, .ref a4, .ref a5, .ref a6, .ref a7, .ref a8, .ref a9, .ref a10, .ref a11, .ref a12, .ref a13, .ref a14])), (a11, .inl (cI, 30, .inl f11))] H := hP
        have hD : va_D A [(h0, .inr (1, [.ref bk, .int fi, .int ff, .int ft, .int fd, .int fr, .int fw])), (bk, .inr (0, [.int lc, .int ln, .ref a2, .ref a3, .ref a4, .ref a5, .ref a6, .ref a7, .ref a8, .ref a9, .ref a10, .ref a11, .ref a12, .ref a13, .ref a14])), (a11, .inl (cI, 30, .inl f11))] := hD
        have hr32 : True := hw
        refine lv_isub hx hb dX1_greatestLeft_63 ?_
        refine lv_topi (fun v33 ev33 => ?_)
        have tv33 : v33.toInt = (y.toInt - r32.toInt + 2147483648) % 4294967296 - 2147483648 := i32_sub ev33
        refine va_mmin hx hb (by rw [hml]; exact hl.1.symm) hown (hts (.methodLink RX1 66 Lib.Math.min.name) (by decide +kernel)) (hts (.static Lib.Math.min.name) (by decide +kernel)) (hts (.initialized "java/lang/Math") (by decide +kernel)) (hts (.code Lib.Math.min.name Lib.Math.min.code 2 (some .int)) (by decide +kernel)) (Nat.le_of_ble_eq_true rfl) (Nat.le_of_ble_eq_true rfl) (Nat.le_of_ble_eq_true rfl) (Nat.le_of_ble_eq_true rfl) dX1_greatestLeft_64 ?_
        refine lv_topi (fun v34 ev34 => ?_)
        have tv34 : v34.toInt ≤ v31.toInt ∧ v34.toInt ≤ v33.toInt ∧ (v34.toInt = v31.toInt ∨ v34.toInt = v33.toInt) := i32_min ev34
        refine lv_istore (lv' := [(7, .int v34), (6, .int v31), (5, .int v29), (4, .int 1), (0, .ref h0), (1, .int x), (2, .int v), (3, .int y)]) hx hb dX1_greatestLeft_67 hl (by decide) rfl (fun ls hl => ?_)
        refine lv_iload hx hb dX1_greatestLeft_69 (lv_at hl 0 rfl) ?_
        refine lv_iload hx hb dX1_greatestLeft_71 (lv_at hl 2 rfl) ?_
        refine lv_icmp_lt (tgt := 79) hx hb dX1_greatestLeft_73 (by decide) (fun c35 => ?_) (fun c35 => ?_)
        · have tc35 : v34.toInt < v29.toInt := i32_lt c35
          refine lv_iinc (v := 0) (lv' := [(4, .int 0), (7, .int v34), (6, .int v31), (5, .int v29), (0, .ref h0), (1, .int x), (2, .int v), (3, .int y)]) hx hb dX1_greatestLeft_79 hl (k := 3) rfl (by decide) (by decide) rfl (fun ls hl => ?_)
          refine lv_goto (tgt := 3) hx hb dX1_greatestLeft_82 (by decide) ?_
          refine lv_iload hx hb dX1_greatestLeft_3 (lv_at hl 0 rfl) ?_
          refine lv_if_lt (tgt := 85) hx hb dX1_greatestLeft_5 (by decide) (fun h9 => (by first | exact absurd h9 (by decide) | exact absurd (by decide) h9)) (fun c36 => ?_)
          refine lv_iconst (v := 0) hx hb dX1_greatestLeft_8 (by decide) ?_
          refine lv_iload hx hb dX1_greatestLeft_9 (lv_at hl 0 rfl) ?_
          refine lv_sipush (v := 1000) hx hb dX1_greatestLeft_11 (by decide) ?_
          refine lv_imul hx hb dX1_greatestLeft_14 ?_
          refine lv_topi (fun vv ev => ?_)
          obtain rfl : vv = 0 := ev.trans (by decide)
          refine lv_aload_n hx hb dX1_greatestLeft_15 rfl (lv_at hl 4 rfl) ?_
          refine va_get (D := D) (ci := 1) (v := .int fw) (C := RX1) (T := TX1) (N := 7) hx hb hts iw_k_greatestLeftAny_1 hown hK hP 0 rfl rfl 6 (by decide) (hts (.fieldLink RX1 38 "FlightDesk$Flight" "weight" "I") (by decide +kernel)) (fun _ h9 => h9) rfl dX1_greatestLeft_16 ?_
          refine lv_isub hx hb dX1_greatestLeft_19 ?_
          refine lv_topi (fun v37 ev37 => ?_)
          have tv37 : v37.toInt = (0 - fw.toInt + 2147483648) % 4294967296 - 2147483648 := i32_sub ev37
          refine va_mmax hx hb (by rw [hml]; exact hl.1.symm) hown (hts (.methodLink RX1 78 Lib.Math.max.name) (by decide +kernel)) (hts (.static Lib.Math.max.name) (by decide +kernel)) (hts (.initialized "java/lang/Math") (by decide +kernel)) (hts (.code Lib.Math.max.name Lib.Math.max.code 2 (some .int)) (by decide +kernel)) (Nat.le_of_ble_eq_true rfl) (Nat.le_of_ble_eq_true rfl) (Nat.le_of_ble_eq_true rfl) (Nat.le_of_ble_eq_true rfl) dX1_greatestLeft_20 ?_
          refine lv_topi (fun v38 ev38 => ?_)
          have tv38 : v38.toInt ≥ 0 ∧ v38.toInt ≥ v37.toInt ∧ (v38.toInt = 0 ∨ v38.toInt = v37.toInt) := i32_max ev38
          refine lv_istore (lv' := [(5, .int v38), (4, .int 0), (7, .int v34), (6, .int v31), (0, .ref h0), (1, .int x), (2, .int v), (3, .int y)]) hx hb dX1_greatestLeft_23 hl (by decide) rfl (fun ls hl => ?_)
          refine lv_iload hx hb dX1_greatestLeft_25 (lv_at hl 1 rfl) ?_
          refine lv_iconst (v := 4) hx hb dX1_greatestLeft_27 (by decide) ?_
          refine lv_icmp_ne (tgt := 35) hx hb dX1_greatestLeft_28 (by decide) (fun c39 => ?_) (fun h9 => (by first | exact absurd h9 (by decide) | exact absurd (by decide) h9))
          refine lv_iload hx hb dX1_greatestLeft_35 (lv_at hl 1 rfl) ?_
          refine lv_iconst (v := 1) hx hb dX1_greatestLeft_37 (by decide) ?_
          refine lv_iadd hx hb dX1_greatestLeft_38 ?_
          refine lv_topi (fun vv ev => ?_)
          obtain rfl : vv = 1 := ev.trans (by decide)
          refine lv_sipush (v := 1000) hx hb dX1_greatestLeft_39 (by decide) ?_
          refine lv_imul hx hb dX1_greatestLeft_42 ?_
          refine lv_topi (fun vv ev => ?_)
          obtain rfl : vv = 1000 := ev.trans (by decide)
          refine lv_iconst (v := 1) hx hb dX1_greatestLeft_43 (by decide) ?_
          refine lv_isub hx hb dX1_greatestLeft_44 ?_
          refine lv_topi (fun vv ev => ?_)
          obtain rfl : vv = 999 := ev.trans (by decide)
          refine lv_aload_n hx hb dX1_greatestLeft_45 rfl (lv_at hl 4 rfl) ?_
          refine va_get (D := D) (ci := 1) (v := .int fw) (C := RX1) (T := TX1) (N := 7) hx hb hts iw_k_greatestLeftAny_1 hown hK hP 0 rfl rfl 6 (by decide) (hts (.fieldLink RX1 38 "FlightDesk$Flight" "weight" "I") (by decide +kernel)) (fun _ h9 => h9) rfl dX1_greatestLeft_46 ?_
          refine lv_isub hx hb dX1_greatestLeft_49 ?_
          refine lv_topi (fun v40 ev40 => ?_)
          have tv40 : v40.toInt = (999 - fw.toInt + 2147483648) % 4294967296 - 2147483648 := i32_sub ev40
          refine lv_istore (lv' := [(6, .int v40), (5, .int v38), (4, .int 0), (7, .int v34), (0, .ref h0), (1, .int x), (2, .int v), (3, .int y)]) hx hb dX1_greatestLeft_50 hl (by decide) rfl (fun ls hl => ?_)
          refine lv_iload hx hb dX1_greatestLeft_52 (lv_at hl 0 rfl) ?_
          refine lv_iload_n hx hb dX1_greatestLeft_54 rfl (lv_at hl 7 rfl) ?_
          refine lv_aload_n hx hb dX1_greatestLeft_55 rfl (lv_at hl 4 rfl) ?_
          refine lv_iload_n hx hb dX1_greatestLeft_56 rfl (lv_at hl 5 rfl) ?_
          refine lv_iload_n hx hb dX1_greatestLeft_57 rfl (lv_at hl 6 rfl) ?_
          refine lv_iload hx hb dX1_greatestLeft_58 (lv_at hl 1 rfl) ?_
          have hPc := hP.sub (ws' := [(h0, .inr (1, [.ref bk, .int fi, .int ff, .int ft, .int fd, .int fr, .int fw])), (bk, .inr (0, [.int lc, .int ln, .ref a2, .ref a3, .ref a4, .ref a5, .ref a6, .ref a7, .ref a8, .ref a9, .ref a10, .ref a11, .ref a12, .ref a13, .ref a14])), (a11, .inl (cI, 30, .inl f11))]) [0, 1, 2] rfl
          have hDc := hD.sub (ws' := [(h0, .inr (1, [.ref bk, .int fi, .int ff, .int ft, .int fd, .int fr, .int fw])), (bk, .inr (0, [.int lc, .int ln, .ref a2, .ref a3, .ref a4, .ref a5, .ref a6, .ref a7, .ref a8, .ref a9, .ref a10, .ref a11, .ref a12, .ref a13, .ref a14])), (a11, .inl (cI, 30, .inl f11))]) [0, 1, 2] (by decide) rfl
          have hFc := va_free (wc := [(h0, .inr (1, [.ref bk, .int fi, .int ff, .int ft, .int fd, .int fr, .int fw])), (bk, .inr (0, [.int lc, .int ln, .ref a2, .ref a3, .ref a4, .ref a5, .ref a6, .ref a7, .ref a8, .ref a9, .ref a10, .ref a11, .ref a12, .ref a13, .ref a14])), (a11, .inl (cI, 30, .inl f11))]) hD hS hA [0, 1, 2] rfl
          refine va_calli (va_runV (As := [.int x, .int v, .int v38]) (rest := [.int y, .int v40]) ⟨hx, hb, hml, hown, hts⟩ (k_fuelOfAny l D cI cB cP H.size h0 bk fi ff ft fd fr fw lc ln a2 a3 a4 a5 a6 a7 a8 a9 a10 a11 a12 a13 a14 x v v38 f11 (show 0 ≤ v.toInt ∧ v.toInt ≤ 5 by first | assumption | omega | decide) (show 0 ≤ v38.toInt ∧ v38.toInt ≤ 1100000000 by first | assumption | omega | decide) (show 0 ≤ fw.toInt ∧ fw.toInt ≤ 90000 by first | assumption | omega | decide)) (cwV 3 hts gw_k_greatestLeftAny_0 rfl rfl rfl (by decide +kernel) ⟨Nat.le_of_ble_eq_true rfl, Nat.le_of_ble_eq_true rfl⟩) ⟨ny_blind, va_recv hK hPc (ci := 1) (q0 := 0) rfl rfl, ny_pre hPc hK hN hDc⟩ rfl rfl hl.1 rfl (lv_room (Nat.le_of_ble_eq_true rfl)) dX1_greatestLeft_60 ⟨Nat.le_of_ble_eq_true rfl, Nat.le_of_ble_eq_true rfl⟩) hS (fun q _ h => hFc q h) hFc (fun r41 u t H locs ht hvm hw hB hz1 hk1 hS => ?_)
          obtain ⟨hP1, hD1⟩ := hB
          rw [ht] at hP1
          obtain ⟨hP, hD⟩ := va_join (wr := []) (w1 := [(h0, .inr (1, [.ref bk, .int fi, .int ff, .int ft, .int fd, .int fr, .int fw])), (bk, .inr (0, [.int lc, .int ln, .ref a2, .ref a3, .ref a4, .ref a5, .ref a6, .ref a7, .ref a8, .ref a9, .ref a10, .ref a11, .ref a12, .ref a13, .ref a14])), (a11, .inl (cI, 30, .inl f11))]) hP hD [0, 1, 2] [] rfl rfl (by decide) (by decide) hk1 hFc hP1 hD1
          have hP : va_P D vwCl [(h0, .inr (1, [.ref bk, .int fi, .int ff, .int ft, .int fd, .int fr, .int fw])), (bk, .inr (0, [.int lc, .int ln, .ref a2, .ref a3, .ref a4, .ref a5, .ref a6, .ref a7, .ref a8, .ref a9, .ref a10, .ref a11, .ref a12, .ref a13, .ref a14])), (a11, .inl (cI, 30, .inl f11))] H := hP
          have hD : va_D A [(h0, .inr (1, [.ref bk, .int fi, .int ff, .int ft, .int fd, .int fr, .int fw])), (bk, .inr (0, [.int lc, .int ln, .ref a2, .ref a3, .ref a4, .ref a5, .ref a6, .ref a7, .ref a8, .ref a9, .ref a10, .ref a11, .ref a12, .ref a13, .ref a14])), (a11, .inl (cI, 30, .inl f11))] := hD
          have hr41 : True := hw
          refine lv_isub hx hb dX1_greatestLeft_63 ?_
          refine lv_topi (fun v42 ev42 => ?_)
          have tv42 : v42.toInt = (y.toInt - r41.toInt + 2147483648) % 4294967296 - 2147483648 := i32_sub ev42
          refine va_mmin hx hb (by rw [hml]; exact hl.1.symm) hown (hts (.methodLink RX1 66 Lib.Math.min.name) (by decide +kernel)) (hts (.static Lib.Math.min.name) (by decide +kernel)) (hts (.initialized "java/lang/Math") (by decide +kernel)) (hts (.code Lib.Math.min.name Lib.Math.min.code 2 (some .int)) (by decide +kernel)) (Nat.le_of_ble_eq_true rfl) (Nat.le_of_ble_eq_true rfl) (Nat.le_of_ble_eq_true rfl) (Nat.le_of_ble_eq_true rfl) dX1_greatestLeft_64 ?_
          refine lv_topi (fun v43 ev43 => ?_)
          have tv43 : v43.toInt ≤ v40.toInt ∧ v43.toInt ≤ v42.toInt ∧ (v43.toInt = v40.toInt ∨ v43.toInt = v42.toInt) := i32_min ev43
          refine lv_istore (lv' := [(7, .int v43), (6, .int v40), (5, .int v38), (4, .int 0), (0, .ref h0), (1, .int x), (2, .int v), (3, .int y)]) hx hb dX1_greatestLeft_67 hl (by decide) rfl (fun ls hl => ?_)
          refine lv_iload hx hb dX1_greatestLeft_69 (lv_at hl 0 rfl) ?_
          refine lv_iload hx hb dX1_greatestLeft_71 (lv_at hl 2 rfl) ?_
          refine lv_icmp_lt (tgt := 79) hx hb dX1_greatestLeft_73 (by decide) (fun c44 => ?_) (fun c44 => ?_)
          · have tc44 : v43.toInt < v38.toInt := i32_lt c44
            refine lv_iinc (v := (-1)) (lv' := [(4, .int (-1)), (7, .int v43), (6, .int v40), (5, .int v38), (0, .ref h0), (1, .int x), (2, .int v), (3, .int y)]) hx hb dX1_greatestLeft_79 hl (k := 3) rfl (by decide) (by decide) rfl (fun ls hl => ?_)
            refine lv_goto (tgt := 3) hx hb dX1_greatestLeft_82 (by decide) ?_
            refine lv_iload hx hb dX1_greatestLeft_3 (lv_at hl 0 rfl) ?_
            refine lv_if_lt (tgt := 85) hx hb dX1_greatestLeft_5 (by decide) (fun c45 => ?_) (fun h9 => (by first | exact absurd h9 (by decide) | exact absurd (by decide) h9))
            refine lv_iconst (v := 0) hx hb dX1_greatestLeft_85 (by decide) ?_
            have hP9 := hP.sub (ws' := [(h0, .inr (1, [.ref bk, .int fi, .int ff, .int ft, .int fd, .int fr, .int fw])), (bk, .inr (0, [.int lc, .int ln, .ref a2, .ref a3, .ref a4, .ref a5, .ref a6, .ref a7, .ref a8, .ref a9, .ref a10, .ref a11, .ref a12, .ref a13, .ref a14])), (a11, .inl (cI, 30, .inl f11))]) [0, 1, 2] rfl
            have hD9 := hD.sub (ws' := [(h0, .inr (1, [.ref bk, .int fi, .int ff, .int ft, .int fd, .int fr, .int fw])), (bk, .inr (0, [.int lc, .int ln, .ref a2, .ref a3, .ref a4, .ref a5, .ref a6, .ref a7, .ref a8, .ref a9, .ref a10, .ref a11, .ref a12, .ref a13, .ref a14])), (a11, .inl (cI, 30, .inl f11))]) [0, 1, 2] (by decide) rfl
            refine W.widen (k := 0) (n := 0) (by decide) (by decide) ?_
            exact W.iret (v := 0) hx hb hr (fun t ht hW => ⟨⟨0, (), rfl, (trivial), by rw [ht]; exact hP9, hD9⟩, hS.F ht⟩) hS.2.2 dX1_greatestLeft_86
          · have tc44 : ¬ (v43.toInt < v38.toInt) := i32_nlt c44
            refine lv_iload hx hb dX1_greatestLeft_76 (lv_at hl 0 rfl) ?_
            have hP9 := hP.sub (ws' := [(h0, .inr (1, [.ref bk, .int fi, .int ff, .int ft, .int fd, .int fr, .int fw])), (bk, .inr (0, [.int lc, .int ln, .ref a2, .ref a3, .ref a4, .ref a5, .ref a6, .ref a7, .ref a8, .ref a9, .ref a10, .ref a11, .ref a12, .ref a13, .ref a14])), (a11, .inl (cI, 30, .inl f11))]) [0, 1, 2] rfl
            have hD9 := hD.sub (ws' := [(h0, .inr (1, [.ref bk, .int fi, .int ff, .int ft, .int fd, .int fr, .int fw])), (bk, .inr (0, [.int lc, .int ln, .ref a2, .ref a3, .ref a4, .ref a5, .ref a6, .ref a7, .ref a8, .ref a9, .ref a10, .ref a11, .ref a12, .ref a13, .ref a14])), (a11, .inl (cI, 30, .inl f11))]) [0, 1, 2] (by decide) rfl
            refine W.widen (k := 0) (n := 0) (by decide) (by decide) ?_
            exact W.iret (v := v43) hx hb hr (fun t ht hW => ⟨⟨v43, (), rfl, (trivial), by rw [ht]; exact hP9, hD9⟩, hS.F ht⟩) hS.2.2 dX1_greatestLeft_78
        · have tc35 : ¬ (v34.toInt < v29.toInt) := i32_nlt c35
          refine lv_iload hx hb dX1_greatestLeft_76 (lv_at hl 0 rfl) ?_
          have hP9 := hP.sub (ws' := [(h0, .inr (1, [.ref bk, .int fi, .int ff, .int ft, .int fd, .int fr, .int fw])), (bk, .inr (0, [.int lc, .int ln, .ref a2, .ref a3, .ref a4, .ref a5, .ref a6, .ref a7, .ref a8, .ref a9, .ref a10, .ref a11, .ref a12, .ref a13, .ref a14])), (a11, .inl (cI, 30, .inl f11))]) [0, 1, 2] rfl
          have hD9 := hD.sub (ws' := [(h0, .inr (1, [.ref bk, .int fi, .int ff, .int ft, .int fd, .int fr, .int fw])), (bk, .inr (0, [.int lc, .int ln, .ref a2, .ref a3, .ref a4, .ref a5, .ref a6, .ref a7, .ref a8, .ref a9, .ref a10, .ref a11, .ref a12, .ref a13, .ref a14])), (a11, .inl (cI, 30, .inl f11))]) [0, 1, 2] (by decide) rfl
          refine W.widen (k := 0) (n := 0) (by decide) (by decide) ?_
          exact W.iret (v := v34) hx hb hr (fun t ht hW => ⟨⟨v34, (), rfl, (trivial), by rw [ht]; exact hP9, hD9⟩, hS.F ht⟩) hS.2.2 dX1_greatestLeft_78
      · have tc26 : ¬ (v25.toInt < v20.toInt) := i32_nlt c26
        refine lv_iload hx hb dX1_greatestLeft_76 (lv_at hl 0 rfl) ?_
        have hP9 := hP.sub (ws' := [(h0, .inr (1, [.ref bk, .int fi, .int ff, .int ft, .int fd, .int fr, .int fw])), (bk, .inr (0, [.int lc, .int ln, .ref a2, .ref a3, .ref a4, .ref a5, .ref a6, .ref a7, .ref a8, .ref a9, .ref a10, .ref a11, .ref a12, .ref a13, .ref a14])), (a11, .inl (cI, 30, .inl f11))]) [0, 1, 2] rfl
        have hD9 := hD.sub (ws' := [(h0, .inr (1, [.ref bk, .int fi, .int ff, .int ft, .int fd, .int fr, .int fw])), (bk, .inr (0, [.int lc, .int ln, .ref a2, .ref a3, .ref a4, .ref a5, .ref a6, .ref a7, .ref a8, .ref a9, .ref a10, .ref a11, .ref a12, .ref a13, .ref a14])), (a11, .inl (cI, 30, .inl f11))]) [0, 1, 2] (by decide) rfl
        refine W.widen (k := 0) (n := 0) (by decide) (by decide) ?_
        exact W.iret (v := v25) hx hb hr (fun t ht hW => ⟨⟨v25, (), rfl, (trivial), by rw [ht]; exact hP9, hD9⟩, hS.F ht⟩) hS.2.2 dX1_greatestLeft_78
    · have tc17 : ¬ (v16.toInt < v11.toInt) := i32_nlt c17
      refine lv_iload hx hb dX1_greatestLeft_76 (lv_at hl 0 rfl) ?_
      have hP9 := hP.sub (ws' := [(h0, .inr (1, [.ref bk, .int fi, .int ff, .int ft, .int fd, .int fr, .int fw])), (bk, .inr (0, [.int lc, .int ln, .ref a2, .ref a3, .ref a4, .ref a5, .ref a6, .ref a7, .ref a8, .ref a9, .ref a10, .ref a11, .ref a12, .ref a13, .ref a14])), (a11, .inl (cI, 30, .inl f11))]) [0, 1, 2] rfl
      have hD9 := hD.sub (ws' := [(h0, .inr (1, [.ref bk, .int fi, .int ff, .int ft, .int fd, .int fr, .int fw])), (bk, .inr (0, [.int lc, .int ln, .ref a2, .ref a3, .ref a4, .ref a5, .ref a6, .ref a7, .ref a8, .ref a9, .ref a10, .ref a11, .ref a12, .ref a13, .ref a14])), (a11, .inl (cI, 30, .inl f11))]) [0, 1, 2] (by decide) rfl
      refine W.widen (k := 0) (n := 0) (by decide) (by decide) ?_
      exact W.iret (v := v16) hx hb hr (fun t ht hW => ⟨⟨v16, (), rfl, (trivial), by rw [ht]; exact hP9, hD9⟩, hS.F ht⟩) hS.2.2 dX1_greatestLeft_78
  · have tc8 : ¬ (v7.toInt < v3.toInt) := i32_nlt c8
    refine lv_iload hx hb dX1_greatestLeft_76 (lv_at hl 0 rfl) ?_
    have hP9 := hP.sub (ws' := [(h0, .inr (1, [.ref bk, .int fi, .int ff, .int ft, .int fd, .int fr, .int fw])), (bk, .inr (0, [.int lc, .int ln, .ref a2, .ref a3, .ref a4, .ref a5, .ref a6, .ref a7, .ref a8, .ref a9, .ref a10, .ref a11, .ref a12, .ref a13, .ref a14])), (a11, .inl (cI, 30, .inl f11))]) [0, 1, 2] rfl
    have hD9 := hD.sub (ws' := [(h0, .inr (1, [.ref bk, .int fi, .int ff, .int ft, .int fd, .int fr, .int fw])), (bk, .inr (0, [.int lc, .int ln, .ref a2, .ref a3, .ref a4, .ref a5, .ref a6, .ref a7, .ref a8, .ref a9, .ref a10, .ref a11, .ref a12, .ref a13, .ref a14])), (a11, .inl (cI, 30, .inl f11))]) [0, 1, 2] (by decide) rfl
    refine W.widen (k := 0) (n := 0) (by decide) (by decide) ?_
    exact W.iret (v := v7) hx hb hr (fun t ht hW => ⟨⟨v7, (), rfl, (trivial), by rw [ht]; exact hP9, hD9⟩, hS.F ht⟩) hS.2.2 dX1_greatestLeft_78

def wk_k_minutesAlong : List Cond := .code yX2_minutesAlong cX2_minutesAlong 2 (some .int) :: ([.fieldLink RX2 12 "FlightDesk$Plan" "best" "LFlightDesk$Way;", .fieldLink RX2 81 "FlightDesk$Way" "count" "I", .fieldLink RX2 18 "FlightDesk$Plan" "minutes" "[I", .fieldLink RX2 84 "FlightDesk$Way" "leg" "[I", .fieldLink RX2 87 "FlightDesk$Way" "level" "[I", .initialized RX7, .static yX7_legIndex, .code yX7_legIndex cX7_legIndex 2 (some .int)] ++ wsX20 ++ wsX60)
theorem iw_k_minutesAlong_2 : ∀ w ∈ wsX20, w ∈ wk_k_minutesAlong := fun _ h => List.mem_cons_of_mem _ (List.mem_append_left _ (List.mem_append_right _ h))
theorem iw_k_minutesAlong_6 : ∀ w ∈ wsX60, w ∈ wk_k_minutesAlong := fun _ h => List.mem_cons_of_mem _ (List.mem_append_right _ h)
set_option maxRecDepth 20000 in
theorem gw_k_minutesAlong_0 : GoodIn wk_k_minutesAlong wk_k_legIndex := goodIn_sub (by decide +kernel) (by decide +kernel)
set_option maxHeartbeats 4000000 in
set_option maxRecDepth 100000 in
theorem k_minutesAlong (l : Launch) (D : va_G) (cI cB cP : ClassId) (sz : Nat) (h0 : Nat) (bk : Nat) (fl : Nat) (bs : Nat) (m9 : Nat) (m10 : Nat) (m11 : Nat) (m12 : Nat) (wd : Int32) (pw : Int32) (pi : Int32) (pb : Int32) (pk : Int32) (pr : Int32) (ct : Int32) (gr : Int32) (l2 : Nat) (l3 : Nat) (l4 : Nat) (k : Int32) (w2 : Nat → Int32) (w3 : Nat → Int32) (n9 : Nat → Int32) (hct9 : 0 ≤ ct.toInt ∧ ct.toInt ≤ 16) (h29 : ∀ k : Nat, k < 16 → 0 ≤ (w2 k).toInt ∧ (w2 k).toInt ≤ 15) (h39 : ∀ k : Nat, k < 16 → 0 ≤ (w3 k).toInt ∧ (w3 k).toInt ≤ 5) (hmi9 : ∀ k : Nat, k < 96 → (-1) ≤ (n9 k).toInt ∧ (n9 k).toInt ≤ 1300) : Met l yX2_minutesAlong wk_k_minutesAlong ({ frames := 1, cells := 0, slots := 0, locals := 21 } : Room) (va_Pc [.ref h0, .int k] (Pw D cI cB cP sz [(h0, .inr (2, [.ref bk, .ref fl, .int wd, .ref bs, .int pw, .int pi, .int pb, .int pk, .int pr, .ref m9, .ref m10, .ref m11, .ref m12])), (bs, .inr (6, [.int ct, .int gr, .ref l2, .ref l3, .ref l4])), (l2, .inl (cI, 16, .inl w2)), (l3, .inl (cI, 16, .inl w3)), (m9, .inl (cI, 96, .inl n9))])) (va_Qi (fun (r : Int32) (_ : Unit) => (-1) ≤ r.toInt ∧ r.toInt ≤ 1300) (fun _ t => va_P D vwCl [(h0, .inr (2, [.ref bk, .ref fl, .int wd, .ref bs, .int pw, .int pi, .int pb, .int pk, .int pr, .ref m9, .ref m10, .ref m11, .ref m12])), (bs, .inr (6, [.int ct, .int gr, .ref l2, .ref l3, .ref l4])), (l2, .inl (cI, 16, .inl w2)), (l3, .inl (cI, 16, .inl w3)), (m9, .inl (cI, 96, .inl n9))] t.heap ∧ va_D (va_A [(h0, .inr (2, [.ref bk, .ref fl, .int wd, .ref bs, .int pw, .int pi, .int pb, .int pk, .int pr, .ref m9, .ref m10, .ref m11, .ref m12])), (bs, .inr (6, [.int ct, .int gr, .ref l2, .ref l3, .ref l4])), (l2, .inl (cI, 16, .inl w2)), (l3, .inl (cI, 16, .inl w3)), (m9, .inl (cI, 96, .inl n9))] sz) [(h0, .inr (2, [.ref bk, .ref fl, .int wd, .ref bs, .int pw, .int pi, .int pb, .int pk, .int pr, .ref m9, .ref m10, .ref m11, .ref m12])), (bs, .inr (6, [.int ct, .int gr, .ref l2, .ref l3, .ref l4])), (l2, .inl (cI, 16, .inl w2)), (l3, .inl (cI, 16, .inl w3)), (m9, .inl (cI, 96, .inl n9))]) (va_A [(h0, .inr (2, [.ref bk, .ref fl, .int wd, .ref bs, .int pw, .int pi, .int pb, .int pk, .int pr, .ref m9, .ref m10, .ref m11, .ref m12])), (bs, .inr (6, [.int ct, .int gr, .ref l2, .ref l3, .ref l4])), (l2, .inl (cI, 16, .inl w2)), (l3, .inl (cI, 16, .inl w3)), (m9, .inl (cI, 96, .inl n9))] sz)) 0 0 (va_A [(h0, .inr (2, [.ref bk, .ref fl, .int wd, .ref bs, .int pw, .int pi, .int pb, .int pk, .int pr, .ref m9, .ref m10, .ref m11, .ref m12])), (bs, .inr (6, [.int ct, .int gr, .ref l2, .ref l3, .ref l4])), (l2, .inl (cI, 16, .inl w2)), (l3, .inl (cI, 16, .inl w3)), (m9, .inl (cI, 96, .inl n9))] sz) := by
  refine Met.ofW (cc := cX2_minutesAlong) (maxL := 2) (ret := (some .int)) (by decide) rfl ?_
  intro p e s m args below meth c s₁ B hml hv
  obtain ⟨rfl, hsz, hP, ⟨hK, hN⟩, hD0⟩ := hv
  have hx := B.exec
  have hb := B.bytes
  have hr := B.returns
  have hts := atoms_spec (ws := wk_k_minutesAlong) B.pre
  have hown : s.vm.findClass RX2 = some m.cls := findClass_of_methodNamed B.named
  have hlocks := B.notSynchronized
  subst hsz
  have hD := hD0.self (sz := s.heap.size)
  generalize hAe : va_A [(h0, .inr (2, [.ref bk, .ref fl, .int wd, .ref bs, .int pw, .int pi, .int pb, .int pk, .int pr, .ref m9, .ref m10, .ref m11, .ref m12])), (bs, .inr (6, [.int ct, .int gr, .ref l2, .ref l3, .ref l4])), (l2, .inl (cI, 16, .inl w2)), (l3, .inl (cI, 16, .inl w3)), (m9, .inl (cI, 96, .inl n9))] s.heap.size = A at hD ⊢
  have hA : ∀ q : Nat, s.heap.size ≤ q → A q := fun q h => by rw [← hAe]; exact Or.inr h
  have hS : va_S A s.heap s.heap [] := va_S.rf
  have hP : va_P D vwCl [(h0, .inr (2, [.ref bk, .ref fl, .int wd, .ref bs, .int pw, .int pi, .int pb, .int pk, .int pr, .ref m9, .ref m10, .ref m11, .ref m12])), (bs, .inr (6, [.int ct, .int gr, .ref l2, .ref l3, .ref l4])), (l2, .inl (cI, 16, .inl w2)), (l3, .inl (cI, 16, .inl w3)), (m9, .inl (cI, 96, .inl n9))] s.heap := hP
  have hl := lv_entry ([.ref h0, .int k]) (n := 2) (Nat.le_of_ble_eq_true rfl)
  rw [lg_entry_eq]
  generalize (lg_sl ([.ref h0, .int k]) ++ List.replicate (2 - (lg_sl ([.ref h0, .int k])).length) Slot.unset).toArray = ls at hl ⊢
  have hl : lv_has ls 2 [(0, .ref h0), (1, .int k)] := hl
  refine lv_iload_n hx hb dX2_minutesAlong_0 rfl (lv_at hl 1 rfl) ?_
  refine lv_if_lt (tgt := 44) hx hb dX2_minutesAlong_1 (by decide) (fun c1 => ?_) (fun c1 => ?_)
  · have tc1 : k.toInt < 0 := i32_lt c1
    refine lv_iconst (v := (-1)) hx hb dX2_minutesAlong_44 (by decide) ?_
    have hP9 := hP.sub (ws' := [(h0, .inr (2, [.ref bk, .ref fl, .int wd, .ref bs, .int pw, .int pi, .int pb, .int pk, .int pr, .ref m9, .ref m10, .ref m11, .ref m12])), (bs, .inr (6, [.int ct, .int gr, .ref l2, .ref l3, .ref l4])), (l2, .inl (cI, 16, .inl w2)), (l3, .inl (cI, 16, .inl w3)), (m9, .inl (cI, 96, .inl n9))]) [0, 1, 2, 3, 4] rfl
    have hD9 := hD.sub (ws' := [(h0, .inr (2, [.ref bk, .ref fl, .int wd, .ref bs, .int pw, .int pi, .int pb, .int pk, .int pr, .ref m9, .ref m10, .ref m11, .ref m12])), (bs, .inr (6, [.int ct, .int gr, .ref l2, .ref l3, .ref l4])), (l2, .inl (cI, 16, .inl w2)), (l3, .inl (cI, 16, .inl w3)), (m9, .inl (cI, 96, .inl n9))]) [0, 1, 2, 3, 4] (by decide) rfl
    refine W.widen (k := 0) (n := 0) (by decide) (by decide) ?_
    exact W.iret (v := (-1)) hx hb hr (fun t ht hW => ⟨⟨(-1), (), rfl, (show (-1) ≤ (-1) ∧ (-1) ≤ 1300 by first | assumption | omega | trivial | decide), by rw [ht]; exact hP9, hD9⟩, hS.F ht⟩) hS.2.2 dX2_minutesAlong_45
  · have tc1 : ¬ (k.toInt < 0) := i32_nlt c1
    refine lv_iload_n hx hb dX2_minutesAlong_4 rfl (lv_at hl 1 rfl) ?_
    refine lv_aload_n hx hb dX2_minutesAlong_5 rfl (lv_at hl 0 rfl) ?_
    refine va_get (D := D) (ci := 2) (v := .ref bs) (C := RX2) (T := TX2) (N := 13) hx hb hts iw_k_minutesAlong_2 hown hK hP 0 rfl rfl 3 (by decide) (hts (.fieldLink RX2 12 "FlightDesk$Plan" "best" "LFlightDesk$Way;") (by decide +kernel)) (fun _ h9 => h9) rfl dX2_minutesAlong_6 ?_
    refine va_get (D := D) (ci := 6) (v := .int ct) (C := RX6) (T := TX6) (N := 5) hx hb hts iw_k_minutesAlong_6 hown hK hP 1 rfl rfl 0 (by decide) (hts (.fieldLink RX2 81 "FlightDesk$Way" "count" "I") (by decide +kernel)) (fun _ h9 => h9) rfl dX2_minutesAlong_9 ?_
    refine lv_icmp_ge (tgt := 44) hx hb dX2_minutesAlong_12 (by decide) (fun c2 => ?_) (fun c2 => ?_)
    · have tc2 : ct.toInt ≤ k.toInt := i32_le c2
      refine lv_iconst (v := (-1)) hx hb dX2_minutesAlong_44 (by decide) ?_
      have hP9 := hP.sub (ws' := [(h0, .inr (2, [.ref bk, .ref fl, .int wd, .ref bs, .int pw, .int pi, .int pb, .int pk, .int pr, .ref m9, .ref m10, .ref m11, .ref m12])), (bs, .inr (6, [.int ct, .int gr, .ref l2, .ref l3, .ref l4])), (l2, .inl (cI, 16, .inl w2)), (l3, .inl (cI, 16, .inl w3)), (m9, .inl (cI, 96, .inl n9))]) [0, 1, 2, 3, 4] rfl
      have hD9 := hD.sub (ws' := [(h0, .inr (2, [.ref bk, .ref fl, .int wd, .ref bs, .int pw, .int pi, .int pb, .int pk, .int pr, .ref m9, .ref m10, .ref m11, .ref m12])), (bs, .inr (6, [.int ct, .int gr, .ref l2, .ref l3, .ref l4])), (l2, .inl (cI, 16, .inl w2)), (l3, .inl (cI, 16, .inl w3)), (m9, .inl (cI, 96, .inl n9))]) [0, 1, 2, 3, 4] (by decide) rfl
      refine W.widen (k := 0) (n := 0) (by decide) (by decide) ?_
      exact W.iret (v := (-1)) hx hb hr (fun t ht hW => ⟨⟨(-1), (), rfl, (show (-1) ≤ (-1) ∧ (-1) ≤ 1300 by first | assumption | omega | trivial | decide), by rw [ht]; exact hP9, hD9⟩, hS.F ht⟩) hS.2.2 dX2_minutesAlong_45
    · have tc2 : ¬ (ct.toInt ≤ k.toInt) := i32_nle c2
      refine lv_aload_n hx hb dX2_minutesAlong_15 rfl (lv_at hl 0 rfl) ?_
      refine va_get (D := D) (ci := 2) (v := .ref m9) (C := RX2) (T := TX2) (N := 13) hx hb hts iw_k_minutesAlong_2 hown hK hP 0 rfl rfl 9 (by decide) (hts (.fieldLink RX2 18 "FlightDesk$Plan" "minutes" "[I") (by decide +kernel)) (fun _ h9 => h9) rfl dX2_minutesAlong_16 ?_
      refine lv_aload_n hx hb dX2_minutesAlong_19 rfl (lv_at hl 0 rfl) ?_
      refine va_get (D := D) (ci := 2) (v := .ref bs) (C := RX2) (T := TX2) (N := 13) hx hb hts iw_k_minutesAlong_2 hown hK hP 0 rfl rfl 3 (by decide) (hts (.fieldLink RX2 12 "FlightDesk$Plan" "best" "LFlightDesk$Way;") (by decide +kernel)) (fun _ h9 => h9) rfl dX2_minutesAlong_20 ?_
      refine va_get (D := D) (ci := 6) (v := .ref l2) (C := RX6) (T := TX6) (N := 5) hx hb hts iw_k_minutesAlong_6 hown hK hP 1 rfl rfl 2 (by decide) (hts (.fieldLink RX2 84 "FlightDesk$Way" "leg" "[I") (by decide +kernel)) (fun _ h9 => h9) rfl dX2_minutesAlong_23 ?_
      refine lv_iload_n hx hb dX2_minutesAlong_26 rfl (lv_at hl 1 rfl) ?_
      refine va_iald hx hb hK hP 2 0 rfl rfl (vp_in_iff.mpr ⟨show 0 ≤ k.toInt by omega, show k.toInt < ((16 : Nat) : Int) by omega⟩) dX2_minutesAlong_27 ?_
      refine lv_topi (fun v3 ev3 => ?_)
      have tv3 : 0 ≤ v3.toInt ∧ v3.toInt ≤ 15 := by rw [ev3]; exact h29 _ (ck_lt (show 0 ≤ k.toInt by omega) (show k.toInt < ((16 : Nat) : Int) by omega))
      refine lv_aload_n hx hb dX2_minutesAlong_28 rfl (lv_at hl 0 rfl) ?_
      refine va_get (D := D) (ci := 2) (v := .ref bs) (C := RX2) (T := TX2) (N := 13) hx hb hts iw_k_minutesAlong_2 hown hK hP 0 rfl rfl 3 (by decide) (hts (.fieldLink RX2 12 "FlightDesk$Plan" "best" "LFlightDesk$Way;") (by decide +kernel)) (fun _ h9 => h9) rfl dX2_minutesAlong_29 ?_
      refine va_get (D := D) (ci := 6) (v := .ref l3) (C := RX6) (T := TX6) (N := 5) hx hb hts iw_k_minutesAlong_6 hown hK hP 1 rfl rfl 3 (by decide) (hts (.fieldLink RX2 87 "FlightDesk$Way" "level" "[I") (by decide +kernel)) (fun _ h9 => h9) rfl dX2_minutesAlong_32 ?_
      refine lv_iload_n hx hb dX2_minutesAlong_35 rfl (lv_at hl 1 rfl) ?_
      refine va_iald hx hb hK hP 3 0 rfl rfl (vp_in_iff.mpr ⟨show 0 ≤ k.toInt by omega, show k.toInt < ((16 : Nat) : Int) by omega⟩) dX2_minutesAlong_36 ?_
      refine lv_topi (fun v4 ev4 => ?_)
      have tv4 : 0 ≤ v4.toInt ∧ v4.toInt ≤ 5 := by rw [ev4]; exact h39 _ (ck_lt (show 0 ≤ k.toInt by omega) (show k.toInt < ((16 : Nat) : Int) by omega))
      have hPc := hP.sub (ws' := []) [] rfl
      have hDc := hD.sub (ws' := []) [] (by decide) rfl
      have hFc := va_free (wc := []) hD hS hA [] rfl
      refine va_calli (va_runSN (As := [.int v3, .int v4]) (rest := [.ref m9]) ⟨hx, hb, hml, hown, hts⟩ (k_legIndex l D cI cB cP s.heap.size v3 v4 (show 0 ≤ v3.toInt ∧ v3.toInt ≤ 1000 by first | assumption | omega | decide) (show 0 ≤ v4.toInt ∧ v4.toInt ≤ 1000 by first | assumption | omega | decide)) ⟨va_cnB 2 hts gw_k_minutesAlong_0 rfl rfl rfl (hN.2.2.2.2.2.1) (hts (.initialized RX7) (by decide +kernel)) (by decide +kernel) ⟨Nat.le_of_ble_eq_true rfl, Nat.le_of_ble_eq_true rfl⟩, (hts (.static yX7_legIndex) (by decide +kernel)), trivial⟩ ⟨ny_blind, ny_pre hPc hK hN hDc⟩ rfl rfl hl.1 rfl (lv_room (Nat.le_of_ble_eq_true rfl)) dX2_minutesAlong_37 ⟨Nat.le_of_ble_eq_true rfl, Nat.le_of_ble_eq_true rfl⟩) hS (fun q _ h => hFc q h) hFc (fun r5 u t H locs ht hvm hw hB hz1 hk1 hS => ?_)
      obtain ⟨hP, hD⟩ := va_join (wr := [(h0, .inr (2, [.ref bk, .ref fl, .int wd, .ref bs, .int pw, .int pi, .int pb, .int pk, .int pr, .ref m9, .ref m10, .ref m11, .ref m12])), (bs, .inr (6, [.int ct, .int gr, .ref l2, .ref l3, .ref l4])), (l2, .inl (cI, 16, .inl w2)), (l3, .inl (cI, 16, .inl w3)), (m9, .inl (cI, 96, .inl n9))]) (w1 := []) hP hD [] [0, 1, 2, 3, 4] rfl rfl (by decide) (by decide) hk1 hFc ny_P0 ny_D0
      have hP : va_P D vwCl [(h0, .inr (2, [.ref bk, .ref fl, .int wd, .ref bs, .int pw, .int pi, .int pb, .int pk, .int pr, .ref m9, .ref m10, .ref m11, .ref m12])), (bs, .inr (6, [.int ct, .int gr, .ref l2, .ref l3, .ref l4])), (l2, .inl (cI, 16, .inl w2)), (l3, .inl (cI, 16, .inl w3)), (m9, .inl (cI, 96, .inl n9))] H := hP
      have hD : va_D A [(h0, .inr (2, [.ref bk, .ref fl, .int wd, .ref bs, .int pw, .int pi, .int pb, .int pk, .int pr, .ref m9, .ref m10, .ref m11, .ref m12])), (bs, .inr (6, [.int ct, .int gr, .ref l2, .ref l3, .ref l4])), (l2, .inl (cI, 16, .inl w2)), (l3, .inl (cI, 16, .inl w3)), (m9, .inl (cI, 96, .inl n9))] := hD
      have hr5 : r5.toInt = v3.toInt * 6 + v4.toInt := hw
      refine va_iald hx hb hK hP 4 0 rfl rfl (vp_in_iff.mpr ⟨show 0 ≤ r5.toInt by omega, show r5.toInt < ((96 : Nat) : Int) by omega⟩) dX2_minutesAlong_40 ?_
      refine lv_topi (fun v6 ev6 => ?_)
      have tv6 : (-1) ≤ v6.toInt ∧ v6.toInt ≤ 1300 := by rw [ev6]; exact hmi9 _ (ck_lt (show 0 ≤ r5.toInt by omega) (show r5.toInt < ((96 : Nat) : Int) by omega))
      refine lv_goto (tgt := 45) hx hb dX2_minutesAlong_41 (by decide) ?_
      have hP9 := hP.sub (ws' := [(h0, .inr (2, [.ref bk, .ref fl, .int wd, .ref bs, .int pw, .int pi, .int pb, .int pk, .int pr, .ref m9, .ref m10, .ref m11, .ref m12])), (bs, .inr (6, [.int ct, .int gr, .ref l2, .ref l3, .ref l4])), (l2, .inl (cI, 16, .inl w2)), (l3, .inl (cI, 16, .inl w3)), (m9, .inl (cI, 96, .inl n9))]) [0, 1, 2, 3, 4] rfl
      have hD9 := hD.sub (ws' := [(h0, .inr (2, [.ref bk, .ref fl, .int wd, .ref bs, .int pw, .int pi, .int pb, .int pk, .int pr, .ref m9, .ref m10, .ref m11, .ref m12])), (bs, .inr (6, [.int ct, .int gr, .ref l2, .ref l3, .ref l4])), (l2, .inl (cI, 16, .inl w2)), (l3, .inl (cI, 16, .inl w3)), (m9, .inl (cI, 96, .inl n9))]) [0, 1, 2, 3, 4] (by decide) rfl
      refine W.widen (k := 0) (n := 0) (by decide) (by decide) ?_
      exact W.iret (v := v6) hx hb hr (fun t ht hW => ⟨⟨v6, (), rfl, (show (-1) ≤ v6.toInt ∧ v6.toInt ≤ 1300 by first | assumption | omega | trivial | decide), by rw [ht]; exact hP9, hD9⟩, hS.F ht⟩) hS.2.2 dX2_minutesAlong_45

def wk_k_canStartWith : List Cond := .code yX2_canStartWith cX2_canStartWith 2 (some .boolean) :: ([.fieldLink RX2 12 "FlightDesk$Plan" "best" "LFlightDesk$Way;", .fieldLink RX2 90 "FlightDesk$Way" "ground" "I", .constant RX2 93 (60000)] ++ wsX20 ++ wsX60)
theorem iw_k_canStartWith_2 : ∀ w ∈ wsX20, w ∈ wk_k_canStartWith := fun _ h => List.mem_cons_of_mem _ (List.mem_append_left _ (List.mem_append_right _ h))
theorem iw_k_canStartWith_6 : ∀ w ∈ wsX60, w ∈ wk_k_canStartWith := fun _ h => List.mem_cons_of_mem _ (List.mem_append_right _ h)
set_option maxHeartbeats 4000000 in
set_option maxRecDepth 100000 in
theorem k_canStartWith (l : Launch) (D : va_G) (cI cB cP : ClassId) (sz : Nat) (h0 : Nat) (bk : Nat) (fl : Nat) (bs : Nat) (m9 : Nat) (m10 : Nat) (m11 : Nat) (m12 : Nat) (wd : Int32) (pw : Int32) (pi : Int32) (pb : Int32) (pk : Int32) (pr : Int32) (ct : Int32) (gr : Int32) (l2 : Nat) (l3 : Nat) (l4 : Nat) (k : Int32) : Met l yX2_canStartWith wk_k_canStartWith ({ frames := 0, cells := 0, slots := 0, locals := 0 } : Room) (va_Pc [.ref h0, .int k] (Pw D cI cB cP sz [(h0, .inr (2, [.ref bk, .ref fl, .int wd, .ref bs, .int pw, .int pi, .int pb, .int pk, .int pr, .ref m9, .ref m10, .ref m11, .ref m12])), (bs, .inr (6, [.int ct, .int gr, .ref l2, .ref l3, .ref l4]))])) (va_Qi (fun (r : Int32) (_ : Unit) => 0 ≤ r.toInt) (fun _ t => va_P D vwCl [(h0, .inr (2, [.ref bk, .ref fl, .int wd, .ref bs, .int pw, .int pi, .int pb, .int pk, .int pr, .ref m9, .ref m10, .ref m11, .ref m12])), (bs, .inr (6, [.int ct, .int gr, .ref l2, .ref l3, .ref l4]))] t.heap ∧ va_D (va_A [(h0, .inr (2, [.ref bk, .ref fl, .int wd, .ref bs, .int pw, .int pi, .int pb, .int pk, .int pr, .ref m9, .ref m10, .ref m11, .ref m12])), (bs, .inr (6, [.int ct, .int gr, .ref l2, .ref l3, .ref l4]))] sz) [(h0, .inr (2, [.ref bk, .ref fl, .int wd, .ref bs, .int pw, .int pi, .int pb, .int pk, .int pr, .ref m9, .ref m10, .ref m11, .ref m12])), (bs, .inr (6, [.int ct, .int gr, .ref l2, .ref l3, .ref l4]))]) (va_A [(h0, .inr (2, [.ref bk, .ref fl, .int wd, .ref bs, .int pw, .int pi, .int pb, .int pk, .int pr, .ref m9, .ref m10, .ref m11, .ref m12])), (bs, .inr (6, [.int ct, .int gr, .ref l2, .ref l3, .ref l4]))] sz)) 0 0 (va_A [(h0, .inr (2, [.ref bk, .ref fl, .int wd, .ref bs, .int pw, .int pi, .int pb, .int pk, .int pr, .ref m9, .ref m10, .ref m11, .ref m12])), (bs, .inr (6, [.int ct, .int gr, .ref l2, .ref l3, .ref l4]))] sz) := by
  refine Met.ofW (cc := cX2_canStartWith) (maxL := 2) (ret := (some .boolean)) (by decide) rfl ?_
  intro p e s m args below meth c s₁ B hml hv
  obtain ⟨rfl, hsz, hP, ⟨hK, hN⟩, hD0⟩ := hv
  have hx := B.exec
  have hb := B.bytes
  have hr := B.returns
  have hts := atoms_spec (ws := wk_k_canStartWith) B.pre
  have hown : s.vm.findClass RX2 = some m.cls := findClass_of_methodNamed B.named
  have hlocks := B.notSynchronized
  subst hsz
  have hD := hD0.self (sz := s.heap.size)
  generalize hAe : va_A [(h0, .inr (2, [.ref bk, .ref fl, .int wd, .ref bs, .int pw, .int pi, .int pb, .int pk, .int pr, .ref m9, .ref m10, .ref m11, .ref m12])), (bs, .inr (6, [.int ct, .int gr, .ref l2, .ref l3, .ref l4]))] s.heap.size = A at hD ⊢
  have hA : ∀ q : Nat, s.heap.size ≤ q → A q := fun q h => by rw [← hAe]; exact Or.inr h
  have hS : va_S A s.heap s.heap [] := va_S.rf
  have hP : va_P D vwCl [(h0, .inr (2, [.ref bk, .ref fl, .int wd, .ref bs, .int pw, .int pi, .int pb, .int pk, .int pr, .ref m9, .ref m10, .ref m11, .ref m12])), (bs, .inr (6, [.int ct, .int gr, .ref l2, .ref l3, .ref l4]))] s.heap := hP
  have hl := lv_entry ([.ref h0, .int k]) (n := 2) (Nat.le_of_ble_eq_true rfl)
  rw [lg_entry_eq]
  generalize (lg_sl ([.ref h0, .int k]) ++ List.replicate (2 - (lg_sl ([.ref h0, .int k])).length) Slot.unset).toArray = ls at hl ⊢
  have hl : lv_has ls 2 [(0, .ref h0), (1, .int k)] := hl
  refine lv_iload_n hx hb dX2_canStartWith_0 rfl (lv_at hl 1 rfl) ?_
  refine lv_aload_n hx hb dX2_canStartWith_1 rfl (lv_at hl 0 rfl) ?_
  refine va_get (D := D) (ci := 2) (v := .ref bs) (C := RX2) (T := TX2) (N := 13) hx hb hts iw_k_canStartWith_2 hown hK hP 0 rfl rfl 3 (by decide) (hts (.fieldLink RX2 12 "FlightDesk$Plan" "best" "LFlightDesk$Way;") (by decide +kernel)) (fun _ h9 => h9) rfl dX2_canStartWith_2 ?_
  refine va_get (D := D) (ci := 6) (v := .int gr) (C := RX6) (T := TX6) (N := 5) hx hb hts iw_k_canStartWith_6 hown hK hP 1 rfl rfl 1 (by decide) (hts (.fieldLink RX2 90 "FlightDesk$Way" "ground" "I") (by decide +kernel)) (fun _ h9 => h9) rfl dX2_canStartWith_5 ?_
  refine lv_icmp_lt (tgt := 21) hx hb dX2_canStartWith_8 (by decide) (fun c1 => ?_) (fun c1 => ?_)
  · have tc1 : k.toInt < gr.toInt := i32_lt c1
    refine lv_iconst (v := 0) hx hb dX2_canStartWith_21 (by decide) ?_
    have hP9 := hP.sub (ws' := [(h0, .inr (2, [.ref bk, .ref fl, .int wd, .ref bs, .int pw, .int pi, .int pb, .int pk, .int pr, .ref m9, .ref m10, .ref m11, .ref m12])), (bs, .inr (6, [.int ct, .int gr, .ref l2, .ref l3, .ref l4]))]) [0, 1] rfl
    have hD9 := hD.sub (ws' := [(h0, .inr (2, [.ref bk, .ref fl, .int wd, .ref bs, .int pw, .int pi, .int pb, .int pk, .int pr, .ref m9, .ref m10, .ref m11, .ref m12])), (bs, .inr (6, [.int ct, .int gr, .ref l2, .ref l3, .ref l4]))]) [0, 1] (by decide) rfl
    refine W.widen (k := 0) (n := 0) (by decide) (by decide) ?_
    exact W.zret (v := 0) hx hb hr (by decide) (fun t ht hW => ⟨⟨0, (), rfl, (show 0 ≤ 0 by first | assumption | omega | trivial | decide), by rw [ht]; exact hP9, hD9⟩, hS.F ht⟩) hS.2.2 dX2_canStartWith_22
  · have tc1 : ¬ (k.toInt < gr.toInt) := i32_nlt c1
    refine lv_iload_n hx hb dX2_canStartWith_11 rfl (lv_at hl 1 rfl) ?_
    refine lv_ldc hx hb hown (hts (.constant RX2 93 (60000)) (by decide +kernel)) dX2_canStartWith_12 ?_
    refine lv_icmp_gt (tgt := 21) hx hb dX2_canStartWith_14 (by decide) (fun c2 => ?_) (fun c2 => ?_)
    · have tc2 : 60000 < k.toInt := i32_lt c2
      refine lv_iconst (v := 0) hx hb dX2_canStartWith_21 (by decide) ?_
      have hP9 := hP.sub (ws' := [(h0, .inr (2, [.ref bk, .ref fl, .int wd, .ref bs, .int pw, .int pi, .int pb, .int pk, .int pr, .ref m9, .ref m10, .ref m11, .ref m12])), (bs, .inr (6, [.int ct, .int gr, .ref l2, .ref l3, .ref l4]))]) [0, 1] rfl
      have hD9 := hD.sub (ws' := [(h0, .inr (2, [.ref bk, .ref fl, .int wd, .ref bs, .int pw, .int pi, .int pb, .int pk, .int pr, .ref m9, .ref m10, .ref m11, .ref m12])), (bs, .inr (6, [.int ct, .int gr, .ref l2, .ref l3, .ref l4]))]) [0, 1] (by decide) rfl
      refine W.widen (k := 0) (n := 0) (by decide) (by decide) ?_
      exact W.zret (v := 0) hx hb hr (by decide) (fun t ht hW => ⟨⟨0, (), rfl, (show 0 ≤ 0 by first | assumption | omega | trivial | decide), by rw [ht]; exact hP9, hD9⟩, hS.F ht⟩) hS.2.2 dX2_canStartWith_22
    · have tc2 : ¬ (60000 < k.toInt) := i32_nlt c2
      refine lv_iconst (v := 1) hx hb dX2_canStartWith_17 (by decide) ?_
      refine lv_goto (tgt := 22) hx hb dX2_canStartWith_18 (by decide) ?_
      have hP9 := hP.sub (ws' := [(h0, .inr (2, [.ref bk, .ref fl, .int wd, .ref bs, .int pw, .int pi, .int pb, .int pk, .int pr, .ref m9, .ref m10, .ref m11, .ref m12])), (bs, .inr (6, [.int ct, .int gr, .ref l2, .ref l3, .ref l4]))]) [0, 1] rfl
      have hD9 := hD.sub (ws' := [(h0, .inr (2, [.ref bk, .ref fl, .int wd, .ref bs, .int pw, .int pi, .int pb, .int pk, .int pr, .ref m9, .ref m10, .ref m11, .ref m12])), (bs, .inr (6, [.int ct, .int gr, .ref l2, .ref l3, .ref l4]))]) [0, 1] (by decide) rfl
      refine W.widen (k := 0) (n := 0) (by decide) (by decide) ?_
      exact W.zret (v := 1) hx hb hr (by decide) (fun t ht hW => ⟨⟨1, (), rfl, (show 0 ≤ 1 by first | assumption | omega | trivial | decide), by rw [ht]; exact hP9, hD9⟩, hS.F ht⟩) hS.2.2 dX2_canStartWith_22

def wk_k_fuelBehind : List Cond := .code yX2_fuelBehind cX2_fuelBehind 5 (some .int) :: ([.fieldLink RX2 12 "FlightDesk$Plan" "best" "LFlightDesk$Way;", .fieldLink RX2 81 "FlightDesk$Way" "count" "I", .fieldLink RX2 87 "FlightDesk$Way" "level" "[I", .fieldLink RX2 31 "FlightDesk$Plan" "book" "LFlightDesk$Book;", .methodLink RX2 94 yX6_stageAhead, .instanceMethod yX6_stageAhead, .selects RX6 yX6_stageAhead yX6_stageAhead, .initialized RX6, .code yX6_stageAhead cX6_stageAhead 2 (some .int), .fieldLink RX6 21 "FlightDesk$Way" "count" "I", .fieldLink RX6 15 "FlightDesk$Way" "level" "[I", .methodLink RX2 98 yX0_climbsTo, .instanceMethod yX0_climbsTo, .selects RX0 yX0_climbsTo yX0_climbsTo, .initialized RX0, .code yX0_climbsTo cX0_climbsTo 3 (some .int), .fieldLink RX0 48 "FlightDesk$Book" "height" "[I", .methodLink RX0 83 Lib.Math.max.name, .static Lib.Math.max.name, .initialized "java/lang/Math", .code Lib.Math.max.name Lib.Math.max.code 2 (some .int), .fieldLink RX2 35 "FlightDesk$Plan" "flight" "LFlightDesk$Flight;", .methodLink RX2 101 yX2_minutesAlong, .instanceMethod yX2_minutesAlong, .selects RX2 yX2_minutesAlong yX2_minutesAlong, .initialized RX2, .code yX2_minutesAlong cX2_minutesAlong 2 (some .int), .fieldLink RX2 18 "FlightDesk$Plan" "minutes" "[I", .fieldLink RX2 84 "FlightDesk$Way" "leg" "[I", .initialized RX7, .static yX7_legIndex, .code yX7_legIndex cX7_legIndex 2 (some .int), .methodLink RX2 104 yX1_greatestLeft, .instanceMethod yX1_greatestLeft, .selects RX1 yX1_greatestLeft yX1_greatestLeft, .initialized RX1, .code yX1_greatestLeft cX1_greatestLeft 8 (some .int), .fieldLink RX1 38 "FlightDesk$Flight" "weight" "I", .methodLink RX1 78 Lib.Math.max.name, .methodLink RX1 81 yX1_fuelOf, .instanceMethod yX1_fuelOf, .selects RX1 yX1_fuelOf yX1_fuelOf, .code yX1_fuelOf cX1_fuelOf 5 (some .int), .methodLink RX1 66 Lib.Math.min.name, .static Lib.Math.min.name, .code Lib.Math.min.name Lib.Math.min.code 2 (some .int), .fieldLink RX1 9 "FlightDesk$Flight" "book" "LFlightDesk$Book;", .fieldLink RX1 72 "FlightDesk$Book" "burn" "[I", .static yX7_burnIndex, .code yX7_burnIndex cX7_burnIndex 2 (some .int)] ++ wsX20 ++ wsX60 ++ wsX00 ++ wsX10)
theorem iw_k_fuelBehind_2 : ∀ w ∈ wsX20, w ∈ wk_k_fuelBehind := fun _ h => List.mem_cons_of_mem _ (List.mem_append_left _ (List.mem_append_left _ (List.mem_append_left _ (List.mem_append_right _ h))))
theorem iw_k_fuelBehind_6 : ∀ w ∈ wsX60, w ∈ wk_k_fuelBehind := fun _ h => List.mem_cons_of_mem _ (List.mem_append_left _ (List.mem_append_left _ (List.mem_append_right _ h)))
theorem iw_k_fuelBehind_0 : ∀ w ∈ wsX00, w ∈ wk_k_fuelBehind := fun _ h => List.mem_cons_of_mem _ (List.mem_append_left _ (List.mem_append_right _ h))
theorem iw_k_fuelBehind_1 : ∀ w ∈ wsX10, w ∈ wk_k_fuelBehind := fun _ h => List.mem_cons_of_mem _ (List.mem_append_right _ h)
set_option maxRecDepth 20000 in
theorem gw_k_fuelBehind_0 : GoodIn wk_k_fuelBehind (wsV RX2 94 RX6 yX6_stageAhead wk_k_stageAhead) := goodIn_sub (by decide +kernel) (by decide +kernel)
set_option maxRecDepth 20000 in
theorem gw_k_fuelBehind_1 : GoodIn wk_k_fuelBehind (wsV RX2 98 RX0 yX0_climbsTo wk_k_climbsTo) := goodIn_sub (by decide +kernel) (by decide +kernel)
set_option maxRecDepth 20000 in
theorem gw_k_fuelBehind_2 : GoodIn wk_k_fuelBehind (wsV RX2 101 RX2 yX2_minutesAlong wk_k_minutesAlong) := goodIn_sub (by decide +kernel) (by decide +kernel)
set_option maxRecDepth 20000 in
theorem gw_k_fuelBehind_3 : GoodIn wk_k_fuelBehind (wsV RX2 104 RX1 yX1_greatestLeft wk_k_greatestLeftAny) := goodIn_sub (by decide +kernel) (by decide +kernel)
set_option maxHeartbeats 4000000 in
set_option maxRecDepth 100000 in
theorem k_fuelBehind (l : Launch) (D : va_G) (cI cB cP : ClassId) (sz : Nat) (h0 : Nat) (bk : Nat) (fl : Nat) (bs : Nat) (m9 : Nat) (m10 : Nat) (m11 : Nat) (m12 : Nat) (wd : Int32) (pw : Int32) (pi : Int32) (pb : Int32) (pk : Int32) (pr : Int32) (ct : Int32) (gr : Int32) (l2 : Nat) (l3 : Nat) (l4 : Nat) (lc : Int32) (ln : Int32) (a2 : Nat) (a3 : Nat) (a4 : Nat) (a5 : Nat) (a6 : Nat) (a7 : Nat) (a8 : Nat) (a9 : Nat) (a10 : Nat) (a11 : Nat) (a12 : Nat) (a13 : Nat) (a14 : Nat) (fi : Int32) (ff : Int32) (ft : Int32) (fd : Int32) (fr : Int32) (fw : Int32) (k : Int32) (y : Int32) (w2 : Nat → Int32) (w3 : Nat → Int32) (n9 : Nat → Int32) (f11 : Nat → Int32) (f14 : Nat → Int32) (hct9 : 0 ≤ ct.toInt ∧ ct.toInt ≤ 16) (h29 : ∀ k : Nat, k < 16 → 0 ≤ (w2 k).toInt ∧ (w2 k).toInt ≤ 15) (h39 : ∀ k : Nat, k < 16 → 0 ≤ (w3 k).toInt ∧ (w3 k).toInt ≤ 5) (hmi9 : ∀ k : Nat, k < 96 → (-1) ≤ (n9 k).toInt ∧ (n9 k).toInt ≤ 1300) (hfw9 : 0 ≤ fw.toInt ∧ fw.toInt ≤ 90000) (r149 : ∀ k : Nat, k < 7 → 0 ≤ (f14 k).toInt ∧ (f14 k).toInt ≤ 5994) : Met l yX2_fuelBehind wk_k_fuelBehind ({ frames := 3, cells := 0, slots := 0, locals := 72 } : Room) (va_Pc [.ref h0, .int k, .int y] (Pw D cI cB cP sz [(h0, .inr (2, [.ref bk, .ref fl, .int wd, .ref bs, .int pw, .int pi, .int pb, .int pk, .int pr, .ref m9, .ref m10, .ref m11, .ref m12])), (bs, .inr (6, [.int ct, .int gr, .ref l2, .ref l3, .ref l4])), (l2, .inl (cI, 16, .inl w2)), (l3, .inl (cI, 16, .inl w3)), (m9, .inl (cI, 96, .inl n9)), (bk, .inr (0, [.int lc, .int ln, .ref a2, .ref a3, .ref a4, .ref a5, .ref a6, .ref a7, .ref a8, .ref a9, .ref a10, .ref a11, .ref a12, .ref a13, .ref a14])), (fl, .inr (1, [.ref bk, .int fi, .int ff, .int ft, .int fd, .int fr, .int fw])), (a11, .inl (cI, 30, .inl f11)), (a14, .inl (cI, 7, .inl f14))])) (va_Qi (fun (r : Int32) (_ : Unit) => True) (fun _ t => va_P D vwCl [(h0, .inr (2, [.ref bk, .ref fl, .int wd, .ref bs, .int pw, .int pi, .int pb, .int pk, .int pr, .ref m9, .ref m10, .ref m11, .ref m12])), (bs, .inr (6, [.int ct, .int gr, .ref l2, .ref l3, .ref l4])), (l2, .inl (cI, 16, .inl w2)), (l3, .inl (cI, 16, .inl w3)), (m9, .inl (cI, 96, .inl n9)), (bk, .inr (0, [.int lc, .int ln, .ref a2, .ref a3, .ref a4, .ref a5, .ref a6, .ref a7, .ref a8, .ref a9, .ref a10, .ref a11, .ref a12, .ref a13, .ref a14])), (fl, .inr (1, [.ref bk, .int fi, .int ff, .int ft, .int fd, .int fr, .int fw])), (a11, .inl (cI, 30, .inl f11)), (a14, .inl (cI, 7, .inl f14))] t.heap ∧ va_D (va_A [(h0, .inr (2, [.ref bk, .ref fl, .int wd, .ref bs, .int pw, .int pi, .int pb, .int pk, .int pr, .ref m9, .ref m10, .ref m11, .ref m12])), (bs, .inr (6, [.int ct, .int gr, .ref l2, .ref l3, .ref l4])), (l2, .inl (cI, 16, .inl w2)), (l3, .inl (cI, 16, .inl w3)), (m9, .inl (cI, 96, .inl n9)), (bk, .inr (0, [.int lc, .int ln, .ref a2, .ref a3, .ref a4, .ref a5, .ref a6, .ref a7, .ref a8, .ref a9, .ref a10, .ref a11, .ref a12, .ref a13, .ref a14])), (fl, .inr (1, [.ref bk, .int fi, .int ff, .int ft, .int fd, .int fr, .int fw])), (a11, .inl (cI, 30, .inl f11)), (a14, .inl (cI, 7, .inl f14))] sz) [(h0, .inr (2, [.ref bk, .ref fl, .int wd, .ref bs, .int pw, .int pi, .int pb, .int pk, .int pr, .ref m9, .ref m10, .ref m11, .ref m12])), (bs, .inr (6, [.int ct, .int gr, .ref l2, .ref l3, .ref l4])), (l2, .inl (cI, 16, .inl w2)), (l3, .inl (cI, 16, .inl w3)), (m9, .inl (cI, 96, .inl n9)), (bk, .inr (0, [.int lc, .int ln, .ref a2, .ref a3, .ref a4, .ref a5, .ref a6, .ref a7, .ref a8, .ref a9, .ref a10, .ref a11, .ref a12, .ref a13, .ref a14])), (fl, .inr (1, [.ref bk, .int fi, .int ff, .int ft, .int fd, .int fr, .int fw])), (a11, .inl (cI, 30, .inl f11)), (a14, .inl (cI, 7, .inl f14))]) (va_A [(h0, .inr (2, [.ref bk, .ref fl, .int wd, .ref bs, .int pw, .int pi, .int pb, .int pk, .int pr, .ref m9, .ref m10, .ref m11, .ref m12])), (bs, .inr (6, [.int ct, .int gr, .ref l2, .ref l3, .ref l4])), (l2, .inl (cI, 16, .inl w2)), (l3, .inl (cI, 16, .inl w3)), (m9, .inl (cI, 96, .inl n9)), (bk, .inr (0, [.int lc, .int ln, .ref a2, .ref a3, .ref a4, .ref a5, .ref a6, .ref a7, .ref a8, .ref a9, .ref a10, .ref a11, .ref a12, .ref a13, .ref a14])), (fl, .inr (1, [.ref bk, .int fi, .int ff, .int ft, .int fd, .int fr, .int fw])), (a11, .inl (cI, 30, .inl f11)), (a14, .inl (cI, 7, .inl f14))] sz)) 0 0 (va_A [(h0, .inr (2, [.ref bk, .ref fl, .int wd, .ref bs, .int pw, .int pi, .int pb, .int pk, .int pr, .ref m9, .ref m10, .ref m11, .ref m12])), (bs, .inr (6, [.int ct, .int gr, .ref l2, .ref l3, .ref l4])), (l2, .inl (cI, 16, .inl w2)), (l3, .inl (cI, 16, .inl w3)), (m9, .inl (cI, 96, .inl n9)), (bk, .inr (0, [.int lc, .int ln, .ref a2, .ref a3, .ref a4, .ref a5, .ref a6, .ref a7, .ref a8, .ref a9, .ref a10, .ref a11, .ref a12, .ref a13, .ref a14])), (fl, .inr (1, [.ref bk, .int fi, .int ff, .int ft, .int fd, .int fr, .int fw])), (a11, .inl (cI, 30, .inl f11)), (a14, .inl (cI, 7, .inl f14))] sz) := by
  refine Met.ofW (cc := cX2_fuelBehind) (maxL := 5) (ret := (some .int)) (by decide) rfl ?_
  intro p e s m args below meth c s₁ B hml hv
  obtain ⟨rfl, hsz, hP, ⟨hK, hN⟩, hD0⟩ := hv
  have hx := B.exec
  have hb := B.bytes
  have hr := B.returns
  have hts := atoms_spec (ws := wk_k_fuelBehind) B.pre
  have hown : s.vm.findClass RX2 = some m.cls := findClass_of_methodNamed B.named
  have hlocks := B.notSynchronized
  subst hsz
  have hD := hD0.self (sz := s.heap.size)
  generalize hAe : va_A [(h0, .inr (2, [.ref bk, .ref fl, .int wd, .ref bs, .int pw, .int pi, .int pb, .int pk, .int pr, .ref m9, .ref m10, .ref m11, .ref m12])), (bs, .inr (6, [.int ct, .int gr, .ref l2, .ref l3, .ref l4])), (l2, .inl (cI, 16, .inl w2)), (l3, .inl (cI, 16, .inl w3)), (m9, .inl (cI, 96, .inl n9)), (bk, .inr (0, [.int lc, .int ln, .ref a2, .ref a3, .ref a4, .ref a5, .ref a6, .ref a7, .ref a8, .ref a9, .ref a10, .ref a11, .ref a12, .ref a13, .ref a14])), (fl, .inr (1, [.ref bk, .int fi, .int ff, .int ft, .int fd, .int fr, .int fw])), (a11, .inl (cI, 30, .inl f11)), (a14, .inl (cI, 7, .inl f14))] s.heap.size = A at hD ⊢
  have hA : ∀ q : Nat, s.heap.size ≤ q → A q := fun q h => by rw [← hAe]; exact Or.inr h
  have hS : va_S A s.heap s.heap [] := va_S.rf
  have hP : va_P D vwCl [(h0, .inr (2, [.ref bk, .ref fl, .int wd, .ref bs, .int pw, .int pi, .int pb, .int pk, .int pr, .ref m9, .ref m10, .ref m11, .ref m12])), (bs, .inr (6, [.int ct, .int gr, .ref l2, .ref l3, .ref l4])), (l2, .inl (cI, 16, .inl w2)), (l3, .inl (cI, 16, .inl w3)), (m9, .inl (cI, 96, .inl n9)), (bk, .inr (0, [.int lc, .int ln, .ref a2, .ref a3, .ref a4, .ref a5, .ref a6, .ref a7, .ref a8, .ref a9, .ref a10, .ref a11, .ref a12, .ref a13, .ref a14])), (fl, .inr (1, [.ref bk, .int fi, .int ff, .int ft, .int fd, .int fr, .int fw])), (a11, .inl (cI, 30, .inl f11)), (a14, .inl (cI, 7, .inl f14))] s.heap := hP
  have hl := lv_entry ([.ref h0, .int k, .int y]) (n := 5) (Nat.le_of_ble_eq_true rfl)
  rw [lg_entry_eq]
  generalize (lg_sl ([.ref h0, .int k, .int y]) ++ List.replicate (5 - (lg_sl ([.ref h0, .int k, .int y])).length) Slot.unset).toArray = ls at hl ⊢
  have hl : lv_has ls 5 [(0, .ref h0), (1, .int k), (2, .int y)] := hl
  refine lv_iload_n hx hb dX2_fuelBehind_0 rfl (lv_at hl 1 rfl) ?_
  refine lv_if_lt (tgt := 15) hx hb dX2_fuelBehind_1 (by decide) (fun c1 => ?_) (fun c1 => ?_)
  · have tc1 : k.toInt < 0 := i32_lt c1
    refine lv_iload_n hx hb dX2_fuelBehind_15 rfl (lv_at hl 2 rfl) ?_
    have hP9 := hP.sub (ws' := [(h0, .inr (2, [.ref bk, .ref fl, .int wd, .ref bs, .int pw, .int pi, .int pb, .int pk, .int pr, .ref m9, .ref m10, .ref m11, .ref m12])), (bs, .inr (6, [.int ct, .int gr, .ref l2, .ref l3, .ref l4])), (l2, .inl (cI, 16, .inl w2)), (l3, .inl (cI, 16, .inl w3)), (m9, .inl (cI, 96, .inl n9)), (bk, .inr (0, [.int lc, .int ln, .ref a2, .ref a3, .ref a4, .ref a5, .ref a6, .ref a7, .ref a8, .ref a9, .ref a10, .ref a11, .ref a12, .ref a13, .ref a14])), (fl, .inr (1, [.ref bk, .int fi, .int ff, .int ft, .int fd, .int fr, .int fw])), (a11, .inl (cI, 30, .inl f11)), (a14, .inl (cI, 7, .inl f14))]) [0, 1, 2, 3, 4, 5, 6, 7, 8] rfl
    have hD9 := hD.sub (ws' := [(h0, .inr (2, [.ref bk, .ref fl, .int wd, .ref bs, .int pw, .int pi, .int pb, .int pk, .int pr, .ref m9, .ref m10, .ref m11, .ref m12])), (bs, .inr (6, [.int ct, .int gr, .ref l2, .ref l3, .ref l4])), (l2, .inl (cI, 16, .inl w2)), (l3, .inl (cI, 16, .inl w3)), (m9, .inl (cI, 96, .inl n9)), (bk, .inr (0, [.int lc, .int ln, .ref a2, .ref a3, .ref a4, .ref a5, .ref a6, .ref a7, .ref a8, .ref a9, .ref a10, .ref a11, .ref a12, .ref a13, .ref a14])), (fl, .inr (1, [.ref bk, .int fi, .int ff, .int ft, .int fd, .int fr, .int fw])), (a11, .inl (cI, 30, .inl f11)), (a14, .inl (cI, 7, .inl f14))]) [0, 1, 2, 3, 4, 5, 6, 7, 8] (by decide) rfl
    refine W.widen (k := 0) (n := 0) (by decide) (by decide) ?_
    exact W.iret (v := y) hx hb hr (fun t ht hW => ⟨⟨y, (), rfl, (trivial), by rw [ht]; exact hP9, hD9⟩, hS.F ht⟩) hS.2.2 dX2_fuelBehind_16
  · have tc1 : ¬ (k.toInt < 0) := i32_nlt c1
    refine lv_iload_n hx hb dX2_fuelBehind_4 rfl (lv_at hl 1 rfl) ?_
    refine lv_aload_n hx hb dX2_fuelBehind_5 rfl (lv_at hl 0 rfl) ?_
    refine va_get (D := D) (ci := 2) (v := .ref bs) (C := RX2) (T := TX2) (N := 13) hx hb hts iw_k_fuelBehind_2 hown hK hP 0 rfl rfl 3 (by decide) (hts (.fieldLink RX2 12 "FlightDesk$Plan" "best" "LFlightDesk$Way;") (by decide +kernel)) (fun _ h9 => h9) rfl dX2_fuelBehind_6 ?_
    refine va_get (D := D) (ci := 6) (v := .int ct) (C := RX6) (T := TX6) (N := 5) hx hb hts iw_k_fuelBehind_6 hown hK hP 1 rfl rfl 0 (by decide) (hts (.fieldLink RX2 81 "FlightDesk$Way" "count" "I") (by decide +kernel)) (fun _ h9 => h9) rfl dX2_fuelBehind_9 ?_
    refine lv_icmp_lt (tgt := 17) hx hb dX2_fuelBehind_12 (by decide) (fun c2 => ?_) (fun c2 => ?_)
    · have tc2 : k.toInt < ct.toInt := i32_lt c2
      refine lv_aload_n hx hb dX2_fuelBehind_17 rfl (lv_at hl 0 rfl) ?_
      refine va_get (D := D) (ci := 2) (v := .ref bs) (C := RX2) (T := TX2) (N := 13) hx hb hts iw_k_fuelBehind_2 hown hK hP 0 rfl rfl 3 (by decide) (hts (.fieldLink RX2 12 "FlightDesk$Plan" "best" "LFlightDesk$Way;") (by decide +kernel)) (fun _ h9 => h9) rfl dX2_fuelBehind_18 ?_
      refine va_get (D := D) (ci := 6) (v := .ref l3) (C := RX6) (T := TX6) (N := 5) hx hb hts iw_k_fuelBehind_6 hown hK hP 1 rfl rfl 3 (by decide) (hts (.fieldLink RX2 87 "FlightDesk$Way" "level" "[I") (by decide +kernel)) (fun _ h9 => h9) rfl dX2_fuelBehind_21 ?_
      refine lv_iload_n hx hb dX2_fuelBehind_24 rfl (lv_at hl 1 rfl) ?_
      refine va_iald hx hb hK hP 3 0 rfl rfl (vp_in_iff.mpr ⟨show 0 ≤ k.toInt by omega, show k.toInt < ((16 : Nat) : Int) by omega⟩) dX2_fuelBehind_25 ?_
      refine lv_topi (fun v3 ev3 => ?_)
      have tv3 : 0 ≤ v3.toInt ∧ v3.toInt ≤ 5 := by rw [ev3]; exact h39 _ (ck_lt (show 0 ≤ k.toInt by omega) (show k.toInt < ((16 : Nat) : Int) by omega))
      refine lv_istore_n (lv' := [(3, .int v3), (0, .ref h0), (1, .int k), (2, .int y)]) hx hb dX2_fuelBehind_26 rfl hl (by decide) rfl (fun ls hl => ?_)
      refine lv_iload_n hx hb dX2_fuelBehind_27 rfl (lv_at hl 3 rfl) ?_
      refine lv_aload_n hx hb dX2_fuelBehind_28 rfl (lv_at hl 1 rfl) ?_
      refine va_get (D := D) (ci := 2) (v := .ref bk) (C := RX2) (T := TX2) (N := 13) hx hb hts iw_k_fuelBehind_2 hown hK hP 0 rfl rfl 0 (by decide) (hts (.fieldLink RX2 31 "FlightDesk$Plan" "book" "LFlightDesk$Book;") (by decide +kernel)) (fun _ h9 => h9) rfl dX2_fuelBehind_29 ?_
      refine lv_iload_n hx hb dX2_fuelBehind_32 rfl (lv_at hl 0 rfl) ?_
      refine lv_aload_n hx hb dX2_fuelBehind_33 rfl (lv_at hl 1 rfl) ?_
      refine va_get (D := D) (ci := 2) (v := .ref bs) (C := RX2) (T := TX2) (N := 13) hx hb hts iw_k_fuelBehind_2 hown hK hP 0 rfl rfl 3 (by decide) (hts (.fieldLink RX2 12 "FlightDesk$Plan" "best" "LFlightDesk$Way;") (by decide +kernel)) (fun _ h9 => h9) rfl dX2_fuelBehind_34 ?_
      refine lv_iload_n hx hb dX2_fuelBehind_37 rfl (lv_at hl 2 rfl) ?_
      have hPc := hP.sub (ws' := [(bs, .inr (6, [.int ct, .int gr, .ref l2, .ref l3, .ref l4])), (l3, .inl (cI, 16, .inl w3))]) [1, 3] rfl
      have hDc := hD.sub (ws' := [(bs, .inr (6, [.int ct, .int gr, .ref l2, .ref l3, .ref l4])), (l3, .inl (cI, 16, .inl w3))]) [1, 3] (by decide) rfl
      have hFc := va_free (wc := [(bs, .inr (6, [.int ct, .int gr, .ref l2, .ref l3, .ref l4])), (l3, .inl (cI, 16, .inl w3))]) hD hS hA [1, 3] rfl
      refine va_calli (va_runV (As := [.int k]) (rest := [.int v3, .ref bk, .int y]) ⟨hx, hb, hml, hown, hts⟩ (k_stageAhead l D cI cB cP s.heap.size bs ct gr l2 l3 l4 k w3 (show 0 ≤ ct.toInt ∧ ct.toInt ≤ 16 by first | assumption | omega | decide) (by assumption)) (cwV 1 hts gw_k_fuelBehind_0 rfl rfl rfl (by decide +kernel) ⟨Nat.le_of_ble_eq_true rfl, Nat.le_of_ble_eq_true rfl⟩) ⟨ny_blind, va_recv hK hPc (ci := 6) (q0 := 0) rfl rfl, ny_pre hPc hK hN hDc⟩ rfl rfl hl.1 rfl (lv_room (Nat.le_of_ble_eq_true rfl)) dX2_fuelBehind_38 ⟨Nat.le_of_ble_eq_true rfl, Nat.le_of_ble_eq_true rfl⟩) hS (fun q _ h => hFc q h) hFc (fun r4 u t H locs ht hvm hw hB hz1 hk1 hS => ?_)
      obtain ⟨hP1, hD1⟩ := hB
      rw [ht] at hP1
      obtain ⟨hP, hD⟩ := va_join (wr := [(h0, .inr (2, [.ref bk, .ref fl, .int wd, .ref bs, .int pw, .int pi, .int pb, .int pk, .int pr, .ref m9, .ref m10, .ref m11, .ref m12])), (l2, .inl (cI, 16, .inl w2)), (m9, .inl (cI, 96, .inl n9)), (bk, .inr (0, [.int lc, .int ln, .ref a2, .ref a3, .ref a4, .ref a5, .ref a6, .ref a7, .ref a8, .ref a9, .ref a10, .ref a11, .ref a12, .ref a13, .ref a14])), (fl, .inr (1, [.ref bk, .int fi, .int ff, .int ft, .int fd, .int fr, .int fw])), (a11, .inl (cI, 30, .inl f11)), (a14, .inl (cI, 7, .inl f14))]) (w1 := [(bs, .inr (6, [.int ct, .int gr, .ref l2, .ref l3, .ref l4])), (l3, .inl (cI, 16, .inl w3))]) hP hD [1, 3] [0, 2, 4, 5, 6, 7, 8] rfl rfl (by decide) (by decide) hk1 hFc hP1 hD1
      have hP : va_P D vwCl [(h0, .inr (2, [.ref bk, .ref fl, .int wd, .ref bs, .int pw, .int pi, .int pb, .int pk, .int pr, .ref m9, .ref m10, .ref m11, .ref m12])), (l2, .inl (cI, 16, .inl w2)), (m9, .inl (cI, 96, .inl n9)), (bk, .inr (0, [.int lc, .int ln, .ref a2, .ref a3, .ref a4, .ref a5, .ref a6, .ref a7, .ref a8, .ref a9, .ref a10, .ref a11, .ref a12, .ref a13, .ref a14])), (fl, .inr (1, [.ref bk, .int fi, .int ff, .int ft, .int fd, .int fr, .int fw])), (a11, .inl (cI, 30, .inl f11)), (a14, .inl (cI, 7, .inl f14)), (bs, .inr (6, [.int ct, .int gr, .ref l2, .ref l3, .ref l4])), (l3, .inl (cI, 16, .inl w3))] H := hP
      have hD : va_D A [(h0, .inr (2, [.ref bk, .ref fl, .int wd, .ref bs, .int pw, .int pi, .int pb, .int pk, .int pr, .ref m9, .ref m10, .ref m11, .ref m12])), (l2, .inl (cI, 16, .inl w2)), (m9, .inl (cI, 96, .inl n9)), (bk, .inr (0, [.int lc, .int ln, .ref a2, .ref a3, .ref a4, .ref a5, .ref a6, .ref a7, .ref a8, .ref a9, .ref a10, .ref a11, .ref a12, .ref a13, .ref a14])), (fl, .inr (1, [.ref bk, .int fi, .int ff, .int ft, .int fd, .int fr, .int fw])), (a11, .inl (cI, 30, .inl f11)), (a14, .inl (cI, 7, .inl f14)), (bs, .inr (6, [.int ct, .int gr, .ref l2, .ref l3, .ref l4])), (l3, .inl (cI, 16, .inl w3))] := hD
      have hr4 : 0 ≤ r4.toInt ∧ r4.toInt ≤ 6 := hw
      have hPc := hP.sub (ws' := [(bk, .inr (0, [.int lc, .int ln, .ref a2, .ref a3, .ref a4, .ref a5, .ref a6, .ref a7, .ref a8, .ref a9, .ref a10, .ref a11, .ref a12, .ref a13, .ref a14])), (a14, .inl (cI, 7, .inl f14))]) [3, 6] rfl
      have hDc := hD.sub (ws' := [(bk, .inr (0, [.int lc, .int ln, .ref a2, .ref a3, .ref a4, .ref a5, .ref a6, .ref a7, .ref a8, .ref a9, .ref a10, .ref a11, .ref a12, .ref a13, .ref a14])), (a14, .inl (cI, 7, .inl f14))]) [3, 6] (by decide) rfl
      have hFc := va_free (wc := [(bk, .inr (0, [.int lc, .int ln, .ref a2, .ref a3, .ref a4, .ref a5, .ref a6, .ref a7, .ref a8, .ref a9, .ref a10, .ref a11, .ref a12, .ref a13, .ref a14])), (a14, .inl (cI, 7, .inl f14))]) hD hS hA [3, 6] rfl
      refine va_calli (va_runV (As := [.int v3, .int r4]) (rest := [.int y]) ⟨hx, hb, hml, hown, hts⟩ (k_climbsTo l D cI cB cP H.size bk lc ln a2 a3 a4 a5 a6 a7 a8 a9 a10 a11 a12 a13 a14 v3 r4 f14 (show 0 ≤ v3.toInt ∧ v3.toInt ≤ 5 by first | assumption | omega | decide) (show 0 ≤ r4.toInt ∧ r4.toInt ≤ 6 by first | assumption | omega | decide) (by assumption)) (cwV 2 hts gw_k_fuelBehind_1 rfl rfl rfl (by decide +kernel) ⟨Nat.le_of_ble_eq_true rfl, Nat.le_of_ble_eq_true rfl⟩) ⟨ny_blind, va_recv hK hPc (ci := 0) (q0 := 0) rfl rfl, ny_pre hPc hK hN hDc⟩ rfl rfl hl.1 rfl (lv_room (Nat.le_of_ble_eq_true rfl)) dX2_fuelBehind_41 ⟨Nat.le_of_ble_eq_true rfl, Nat.le_of_ble_eq_true rfl⟩) hS (fun q _ h => hFc q h) hFc (fun r5 u t H locs ht hvm hw hB hz1 hk1 hS => ?_)
      obtain ⟨hP1, hD1⟩ := hB
      rw [ht] at hP1
      obtain ⟨hP, hD⟩ := va_join (wr := [(h0, .inr (2, [.ref bk, .ref fl, .int wd, .ref bs, .int pw, .int pi, .int pb, .int pk, .int pr, .ref m9, .ref m10, .ref m11, .ref m12])), (l2, .inl (cI, 16, .inl w2)), (m9, .inl (cI, 96, .inl n9)), (fl, .inr (1, [.ref bk, .int fi, .int ff, .int ft, .int fd, .int fr, .int fw])), (a11, .inl (cI, 30, .inl f11)), (bs, .inr (6, [.int ct, .int gr, .ref l2, .ref l3, .ref l4])), (l3, .inl (cI, 16, .inl w3))]) (w1 := [(bk, .inr (0, [.int lc, .int ln, .ref a2, .ref a3, .ref a4, .ref a5, .ref a6, .ref a7, .ref a8, .ref a9, .ref a10, .ref a11, .ref a12, .ref a13, .ref a14])), (a14, .inl (cI, 7, .inl f14))]) hP hD [3, 6] [0, 1, 2, 4, 5, 7, 8] rfl rfl (by decide) (by decide) hk1 hFc hP1 hD1
      have hP : va_P D vwCl [(h0, .inr (2, [.ref bk, .ref fl, .int wd, .ref bs, .int pw, .int pi, .int pb, .int pk, .int pr, .ref m9, .ref m10, .ref m11, .ref m12])), (l2, .inl (cI, 16, .inl w2)), (m9, .inl (cI, 96, .inl n9)), (fl, .inr (1, [.ref bk, .int fi, .int ff, .int ft, .int fd, .int fr, .int fw])), (a11, .inl (cI, 30, .inl f11)), (bs, .inr (6, [.int ct, .int gr, .ref l2, .ref l3, .ref l4])), (l3, .inl (cI, 16, .inl w3)), (bk, .inr (0, [.int lc, .int ln, .ref a2, .ref a3, .ref a4, .ref a5, .ref a6, .ref a7, .ref a8, .ref a9, .ref a10, .ref a11, .ref a12, .ref a13, .ref a14])), (a14, .inl (cI, 7, .inl f14))] H := hP
      have hD : va_D A [(h0, .inr (2, [.ref bk, .ref fl, .int wd, .ref bs, .int pw, .int pi, .int pb, .int pk, .int pr, .ref m9, .ref m10, .ref m11, .ref m12])), (l2, .inl (cI, 16, .inl w2)), (m9, .inl (cI, 96, .inl n9)), (fl, .inr (1, [.ref bk, .int fi, .int ff, .int ft, .int fd, .int fr, .int fw])), (a11, .inl (cI, 30, .inl f11)), (bs, .inr (6, [.int ct, .int gr, .ref l2, .ref l3, .ref l4])), (l3, .inl (cI, 16, .inl w3)), (bk, .inr (0, [.int lc, .int ln, .ref a2, .ref a3, .ref a4, .ref a5, .ref a6, .ref a7, .ref a8, .ref a9, .ref a10, .ref a11, .ref a12, .ref a13, .ref a14])), (a14, .inl (cI, 7, .inl f14))] := hD
      have hr5 : 0 ≤ r5.toInt ∧ r5.toInt ≤ 5994 := hw
      refine lv_isub hx hb dX2_fuelBehind_44 ?_
      refine lv_topi (fun v6 ev6 => ?_)
      have tv6 : v6.toInt = (y.toInt - r5.toInt + 2147483648) % 4294967296 - 2147483648 := i32_sub ev6
      refine lv_istore (lv' := [(4, .int v6), (3, .int v3), (0, .ref h0), (1, .int k), (2, .int y)]) hx hb dX2_fuelBehind_45 hl (by decide) rfl (fun ls hl => ?_)
      refine lv_aload_n hx hb dX2_fuelBehind_47 rfl (lv_at hl 2 rfl) ?_
      refine va_get (D := D) (ci := 2) (v := .ref fl) (C := RX2) (T := TX2) (N := 13) hx hb hts iw_k_fuelBehind_2 hown hK hP 0 rfl rfl 1 (by decide) (hts (.fieldLink RX2 35 "FlightDesk$Plan" "flight" "LFlightDesk$Flight;") (by decide +kernel)) (fun _ h9 => h9) rfl dX2_fuelBehind_48 ?_
      refine lv_aload_n hx hb dX2_fuelBehind_51 rfl (lv_at hl 2 rfl) ?_
      refine lv_iload_n hx hb dX2_fuelBehind_52 rfl (lv_at hl 3 rfl) ?_
      have hPc := hP.sub (ws' := [(h0, .inr (2, [.ref bk, .ref fl, .int wd, .ref bs, .int pw, .int pi, .int pb, .int pk, .int pr, .ref m9, .ref m10, .ref m11, .ref m12])), (bs, .inr (6, [.int ct, .int gr, .ref l2, .ref l3, .ref l4])), (l2, .inl (cI, 16, .inl w2)), (l3, .inl (cI, 16, .inl w3)), (m9, .inl (cI, 96, .inl n9))]) [0, 5, 1, 6, 2] rfl
      have hDc := hD.sub (ws' := [(h0, .inr (2, [.ref bk, .ref fl, .int wd, .ref bs, .int pw, .int pi, .int pb, .int pk, .int pr, .ref m9, .ref m10, .ref m11, .ref m12])), (bs, .inr (6, [.int ct, .int gr, .ref l2, .ref l3, .ref l4])), (l2, .inl (cI, 16, .inl w2)), (l3, .inl (cI, 16, .inl w3)), (m9, .inl (cI, 96, .inl n9))]) [0, 5, 1, 6, 2] (by decide) rfl
      have hFc := va_free (wc := [(h0, .inr (2, [.ref bk, .ref fl, .int wd, .ref bs, .int pw, .int pi, .int pb, .int pk, .int pr, .ref m9, .ref m10, .ref m11, .ref m12])), (bs, .inr (6, [.int ct, .int gr, .ref l2, .ref l3, .ref l4])), (l2, .inl (cI, 16, .inl w2)), (l3, .inl (cI, 16, .inl w3)), (m9, .inl (cI, 96, .inl n9))]) hD hS hA [0, 5, 1, 6, 2] rfl
      refine va_calli (va_runV (As := [.int k]) (rest := [.ref fl]) ⟨hx, hb, hml, hown, hts⟩ (k_minutesAlong l D cI cB cP H.size h0 bk fl bs m9 m10 m11 m12 wd pw pi pb pk pr ct gr l2 l3 l4 k w2 w3 n9 (show 0 ≤ ct.toInt ∧ ct.toInt ≤ 16 by first | assumption | omega | decide) (by assumption) (by assumption) (by assumption)) (cwV 1 hts gw_k_fuelBehind_2 rfl rfl rfl (by decide +kernel) ⟨Nat.le_of_ble_eq_true rfl, Nat.le_of_ble_eq_true rfl⟩) ⟨ny_blind, va_recv hK hPc (ci := 2) (q0 := 0) rfl rfl, ny_pre hPc hK hN hDc⟩ rfl rfl hl.1 rfl (lv_room (Nat.le_of_ble_eq_true rfl)) dX2_fuelBehind_53 ⟨Nat.le_of_ble_eq_true rfl, Nat.le_of_ble_eq_true rfl⟩) hS (fun q _ h => hFc q h) hFc (fun r7 u t H locs ht hvm hw hB hz1 hk1 hS => ?_)
      obtain ⟨hP1, hD1⟩ := hB
      rw [ht] at hP1
      obtain ⟨hP, hD⟩ := va_join (wr := [(fl, .inr (1, [.ref bk, .int fi, .int ff, .int ft, .int fd, .int fr, .int fw])), (a11, .inl (cI, 30, .inl f11)), (bk, .inr (0, [.int lc, .int ln, .ref a2, .ref a3, .ref a4, .ref a5, .ref a6, .ref a7, .ref a8, .ref a9, .ref a10, .ref a11, .ref a12, .ref a13, .ref a14])), (a14, .inl (cI, 7, .inl f14))]) (w1 := [(h0, .inr (2, [.ref bk, .ref fl, .int wd, .ref bs, .int pw, .int pi, .int pb, .int pk, .int pr, .ref m9, .ref m10, .ref m11, .ref m12])), (bs, .inr (6, [.int ct, .int gr, .ref l2, .ref l3, .ref l4])), (l2, .inl (cI, 16, .inl w2)), (l3, .inl (cI, 16, .inl w3)), (m9, .inl (cI, 96, .inl n9))]) hP hD [0, 5, 1, 6, 2] [3, 4, 7, 8] rfl rfl (by decide) (by decide) hk1 hFc hP1 hD1
      have hP : va_P D vwCl [(fl, .inr (1, [.ref bk, .int fi, .int ff, .int ft, .int fd, .int fr, .int fw])), (a11, .inl (cI, 30, .inl f11)), (bk, .inr (0, [.int lc, .int ln, .ref a2, .ref a3, .ref a4, .ref a5, .ref a6, .ref a7, .ref a8, .ref a9, .ref a10, .ref a11, .ref a12, .ref a13, .ref a14])), (a14, .inl (cI, 7, .inl f14)), (h0, .inr (2, [.ref bk, .ref fl, .int wd, .ref bs, .int pw, .int pi, .int pb, .int pk, .int pr, .ref m9, .ref m10, .ref m11, .ref m12])), (bs, .inr (6, [.int ct, .int gr, .ref l2, .ref l3, .ref l4])), (l2, .inl (cI, 16, .inl w2)), (l3, .inl (cI, 16, .inl w3)), (m9, .inl (cI, 96, .inl n9))] H := hP
      have hD : va_D A [(fl, .inr (1, [.ref bk, .int fi, .int ff, .int ft, .int fd, .int fr, .int fw])), (a11, .inl (cI, 30, .inl f11)), (bk, .inr (0, [.int lc, .int ln, .ref a2, .ref a3, .ref a4, .ref a5, .ref a6, .ref a7, .ref a8, .ref a9, .ref a10, .ref a11, .ref a12, .ref a13, .ref a14])), (a14, .inl (cI, 7, .inl f14)), (h0, .inr (2, [.ref bk, .ref fl, .int wd, .ref bs, .int pw, .int pi, .int pb, .int pk, .int pr, .ref m9, .ref m10, .ref m11, .ref m12])), (bs, .inr (6, [.int ct, .int gr, .ref l2, .ref l3, .ref l4])), (l2, .inl (cI, 16, .inl w2)), (l3, .inl (cI, 16, .inl w3)), (m9, .inl (cI, 96, .inl n9))] := hD
      have hr7 : (-1) ≤ r7.toInt ∧ r7.toInt ≤ 1300 := hw
      refine lv_iload_n hx hb dX2_fuelBehind_56 rfl (lv_at hl 1 rfl) ?_
      refine lv_iload hx hb dX2_fuelBehind_57 (lv_at hl 0 rfl) ?_
      have hPc := hP.sub (ws' := [(fl, .inr (1, [.ref bk, .int fi, .int ff, .int ft, .int fd, .int fr, .int fw])), (bk, .inr (0, [.int lc, .int ln, .ref a2, .ref a3, .ref a4, .ref a5, .ref a6, .ref a7, .ref a8, .ref a9, .ref a10, .ref a11, .ref a12, .ref a13, .ref a14])), (a11, .inl (cI, 30, .inl f11))]) [0, 2, 1] rfl
      have hDc := hD.sub (ws' := [(fl, .inr (1, [.ref bk, .int fi, .int ff, .int ft, .int fd, .int fr, .int fw])), (bk, .inr (0, [.int lc, .int ln, .ref a2, .ref a3, .ref a4, .ref a5, .ref a6, .ref a7, .ref a8, .ref a9, .ref a10, .ref a11, .ref a12, .ref a13, .ref a14])), (a11, .inl (cI, 30, .inl f11))]) [0, 2, 1] (by decide) rfl
      have hFc := va_free (wc := [(fl, .inr (1, [.ref bk, .int fi, .int ff, .int ft, .int fd, .int fr, .int fw])), (bk, .inr (0, [.int lc, .int ln, .ref a2, .ref a3, .ref a4, .ref a5, .ref a6, .ref a7, .ref a8, .ref a9, .ref a10, .ref a11, .ref a12, .ref a13, .ref a14])), (a11, .inl (cI, 30, .inl f11))]) hD hS hA [0, 2, 1] rfl
      refine va_calli (va_runV (As := [.int r7, .int v3, .int v6]) (rest := []) ⟨hx, hb, hml, hown, hts⟩ (k_greatestLeftAny l D cI cB cP H.size fl bk fi ff ft fd fr fw lc ln a2 a3 a4 a5 a6 a7 a8 a9 a10 a11 a12 a13 a14 r7 v3 v6 f11 (show 0 ≤ v3.toInt ∧ v3.toInt ≤ 5 by first | assumption | omega | decide) (show 0 ≤ fw.toInt ∧ fw.toInt ≤ 90000 by first | assumption | omega | decide)) (cwV 3 hts gw_k_fuelBehind_3 rfl rfl rfl (by decide +kernel) ⟨Nat.le_of_ble_eq_true rfl, Nat.le_of_ble_eq_true rfl⟩) ⟨ny_blind, va_recv hK hPc (ci := 1) (q0 := 0) rfl rfl, ny_pre hPc hK hN hDc⟩ rfl rfl hl.1 rfl (lv_room (Nat.le_of_ble_eq_true rfl)) dX2_fuelBehind_59 ⟨Nat.le_of_ble_eq_true rfl, Nat.le_of_ble_eq_true rfl⟩) hS (fun q _ h => hFc q h) hFc (fun r8 u t H locs ht hvm hw hB hz1 hk1 hS => ?_)
      obtain ⟨hP1, hD1⟩ := hB
      rw [ht] at hP1
      obtain ⟨hP, hD⟩ := va_join (wr := [(a14, .inl (cI, 7, .inl f14)), (h0, .inr (2, [.ref bk, .ref fl, .int wd, .ref bs, .int pw, .int pi, .int pb, .int pk, .int pr, .ref m9, .ref m10, .ref m11, .ref m12])), (bs, .inr (6, [.int ct, .int gr, .ref l2, .ref l3, .ref l4])), (l2, .inl (cI, 16, .inl w2)), (l3, .inl (cI, 16, .inl w3)), (m9, .inl (cI, 96, .inl n9))]) (w1 := [(fl, .inr (1, [.ref bk, .int fi, .int ff, .int ft, .int fd, .int fr, .int fw])), (bk, .inr (0, [.int lc, .int ln, .ref a2, .ref a3, .ref a4, .ref a5, .ref a6, .ref a7, .ref a8, .ref a9, .ref a10, .ref a11, .ref a12, .ref a13, .ref a14])), (a11, .inl (cI, 30, .inl f11))]) hP hD [0, 2, 1] [3, 4, 5, 6, 7, 8] rfl rfl (by decide) (by decide) hk1 hFc hP1 hD1
      have hP : va_P D vwCl [(a14, .inl (cI, 7, .inl f14)), (h0, .inr (2, [.ref bk, .ref fl, .int wd, .ref bs, .int pw, .int pi, .int pb, .int pk, .int pr, .ref m9, .ref m10, .ref m11, .ref m12])), (bs, .inr (6, [.int ct, .int gr, .ref l2, .ref l3, .ref l4])), (l2, .inl (cI, 16, .inl w2)), (l3, .inl (cI, 16, .inl w3)), (m9, .inl (cI, 96, .inl n9)), (fl, .inr (1, [.ref bk, .int fi, .int ff, .int ft, .int fd, .int fr, .int fw])), (bk, .inr (0, [.int lc, .int ln, .ref a2, .ref a3, .ref a4, .ref a5, .ref a6, .ref a7, .ref a8, .ref a9, .ref a10, .ref a11, .ref a12, .ref a13, .ref a14])), (a11, .inl (cI, 30, .inl f11))] H := hP
      have hD : va_D A [(a14, .inl (cI, 7, .inl f14)), (h0, .inr (2, [.ref bk, .ref fl, .int wd, .ref bs, .int pw, .int pi, .int pb, .int pk, .int pr, .ref m9, .ref m10, .ref m11, .ref m12])), (bs, .inr (6, [.int ct, .int gr, .ref l2, .ref l3, .ref l4])), (l2, .inl (cI, 16, .inl w2)), (l3, .inl (cI, 16, .inl w3)), (m9, .inl (cI, 96, .inl n9)), (fl, .inr (1, [.ref bk, .int fi, .int ff, .int ft, .int fd, .int fr, .int fw])), (bk, .inr (0, [.int lc, .int ln, .ref a2, .ref a3, .ref a4, .ref a5, .ref a6, .ref a7, .ref a8, .ref a9, .ref a10, .ref a11, .ref a12, .ref a13, .ref a14])), (a11, .inl (cI, 30, .inl f11))] := hD
      have hr8 : True := hw
      have hP9 := hP.sub (ws' := [(h0, .inr (2, [.ref bk, .ref fl, .int wd, .ref bs, .int pw, .int pi, .int pb, .int pk, .int pr, .ref m9, .ref m10, .ref m11, .ref m12])), (bs, .inr (6, [.int ct, .int gr, .ref l2, .ref l3, .ref l4])), (l2, .inl (cI, 16, .inl w2)), (l3, .inl (cI, 16, .inl w3)), (m9, .inl (cI, 96, .inl n9)), (bk, .inr (0, [.int lc, .int ln, .ref a2, .ref a3, .ref a4, .ref a5, .ref a6, .ref a7, .ref a8, .ref a9, .ref a10, .ref a11, .ref a12, .ref a13, .ref a14])), (fl, .inr (1, [.ref bk, .int fi, .int ff, .int ft, .int fd, .int fr, .int fw])), (a11, .inl (cI, 30, .inl f11)), (a14, .inl (cI, 7, .inl f14))]) [1, 2, 3, 4, 5, 7, 6, 8, 0] rfl
      have hD9 := hD.sub (ws' := [(h0, .inr (2, [.ref bk, .ref fl, .int wd, .ref bs, .int pw, .int pi, .int pb, .int pk, .int pr, .ref m9, .ref m10, .ref m11, .ref m12])), (bs, .inr (6, [.int ct, .int gr, .ref l2, .ref l3, .ref l4])), (l2, .inl (cI, 16, .inl w2)), (l3, .inl (cI, 16, .inl w3)), (m9, .inl (cI, 96, .inl n9)), (bk, .inr (0, [.int lc, .int ln, .ref a2, .ref a3, .ref a4, .ref a5, .ref a6, .ref a7, .ref a8, .ref a9, .ref a10, .ref a11, .ref a12, .ref a13, .ref a14])), (fl, .inr (1, [.ref bk, .int fi, .int ff, .int ft, .int fd, .int fr, .int fw])), (a11, .inl (cI, 30, .inl f11)), (a14, .inl (cI, 7, .inl f14))]) [1, 2, 3, 4, 5, 7, 6, 8, 0] (by decide) rfl
      refine W.widen (k := 0) (n := 0) (by decide) (by decide) ?_
      exact W.iret (v := r8) hx hb hr (fun t ht hW => ⟨⟨r8, (), rfl, (trivial), by rw [ht]; exact hP9, hD9⟩, hS.F ht⟩) hS.2.2 dX2_fuelBehind_62
    · have tc2 : ¬ (k.toInt < ct.toInt) := i32_nlt c2
      refine lv_iload_n hx hb dX2_fuelBehind_15 rfl (lv_at hl 2 rfl) ?_
      have hP9 := hP.sub (ws' := [(h0, .inr (2, [.ref bk, .ref fl, .int wd, .ref bs, .int pw, .int pi, .int pb, .int pk, .int pr, .ref m9, .ref m10, .ref m11, .ref m12])), (bs, .inr (6, [.int ct, .int gr, .ref l2, .ref l3, .ref l4])), (l2, .inl (cI, 16, .inl w2)), (l3, .inl (cI, 16, .inl w3)), (m9, .inl (cI, 96, .inl n9)), (bk, .inr (0, [.int lc, .int ln, .ref a2, .ref a3, .ref a4, .ref a5, .ref a6, .ref a7, .ref a8, .ref a9, .ref a10, .ref a11, .ref a12, .ref a13, .ref a14])), (fl, .inr (1, [.ref bk, .int fi, .int ff, .int ft, .int fd, .int fr, .int fw])), (a11, .inl (cI, 30, .inl f11)), (a14, .inl (cI, 7, .inl f14))]) [0, 1, 2, 3, 4, 5, 6, 7, 8] rfl
      have hD9 := hD.sub (ws' := [(h0, .inr (2, [.ref bk, .ref fl, .int wd, .ref bs, .int pw, .int pi, .int pb, .int pk, .int pr, .ref m9, .ref m10, .ref m11, .ref m12])), (bs, .inr (6, [.int ct, .int gr, .ref l2, .ref l3, .ref l4])), (l2, .inl (cI, 16, .inl w2)), (l3, .inl (cI, 16, .inl w3)), (m9, .inl (cI, 96, .inl n9)), (bk, .inr (0, [.int lc, .int ln, .ref a2, .ref a3, .ref a4, .ref a5, .ref a6, .ref a7, .ref a8, .ref a9, .ref a10, .ref a11, .ref a12, .ref a13, .ref a14])), (fl, .inr (1, [.ref bk, .int fi, .int ff, .int ft, .int fd, .int fr, .int fw])), (a11, .inl (cI, 30, .inl f11)), (a14, .inl (cI, 7, .inl f14))]) [0, 1, 2, 3, 4, 5, 6, 7, 8] (by decide) rfl
      refine W.widen (k := 0) (n := 0) (by decide) (by decide) ?_
      exact W.iret (v := y) hx hb hr (fun t ht hW => ⟨⟨y, (), rfl, (trivial), by rw [ht]; exact hP9, hD9⟩, hS.F ht⟩) hS.2.2 dX2_fuelBehind_16

def wk_k_groundFor : List Cond := .code yX2_groundFor cX2_groundFor 7 (some .int) :: ([.fieldLink RX2 81 "FlightDesk$Way" "count" "I", .fieldLink RX2 87 "FlightDesk$Way" "level" "[I", .fieldLink RX2 18 "FlightDesk$Plan" "minutes" "[I", .fieldLink RX2 84 "FlightDesk$Way" "leg" "[I", .initialized RX7, .static yX7_legIndex, .code yX7_legIndex cX7_legIndex 2 (some .int), .fieldLink RX2 35 "FlightDesk$Plan" "flight" "LFlightDesk$Flight;", .methodLink RX2 115 yX1_fuelOf, .instanceMethod yX1_fuelOf, .selects RX1 yX1_fuelOf yX1_fuelOf, .initialized RX1, .code yX1_fuelOf cX1_fuelOf 5 (some .int), .fieldLink RX1 38 "FlightDesk$Flight" "weight" "I", .methodLink RX1 66 Lib.Math.min.name, .static Lib.Math.min.name, .initialized "java/lang/Math", .code Lib.Math.min.name Lib.Math.min.code 2 (some .int), .fieldLink RX1 9 "FlightDesk$Flight" "book" "LFlightDesk$Book;", .fieldLink RX1 72 "FlightDesk$Book" "burn" "[I", .static yX7_burnIndex, .code yX7_burnIndex cX7_burnIndex 2 (some .int), .fieldLink RX2 31 "FlightDesk$Plan" "book" "LFlightDesk$Book;", .methodLink RX2 94 yX6_stageAhead, .instanceMethod yX6_stageAhead, .selects RX6 yX6_stageAhead yX6_stageAhead, .initialized RX6, .code yX6_stageAhead cX6_stageAhead 2 (some .int), .fieldLink RX6 21 "FlightDesk$Way" "count" "I", .fieldLink RX6 15 "FlightDesk$Way" "level" "[I", .methodLink RX2 98 yX0_climbsTo, .instanceMethod yX0_climbsTo, .selects RX0 yX0_climbsTo yX0_climbsTo, .initialized RX0, .code yX0_climbsTo cX0_climbsTo 3 (some .int), .fieldLink RX0 48 "FlightDesk$Book" "height" "[I", .methodLink RX0 83 Lib.Math.max.name, .static Lib.Math.max.name, .code Lib.Math.max.name Lib.Math.max.code 2 (some .int)] ++ wsX60 ++ wsX20 ++ wsX10 ++ wsX00)
theorem iw_k_groundFor_6 : ∀ w ∈ wsX60, w ∈ wk_k_groundFor := fun _ h => List.mem_cons_of_mem _ (List.mem_append_left _ (List.mem_append_left _ (List.mem_append_left _ (List.mem_append_right _ h))))
theorem iw_k_groundFor_2 : ∀ w ∈ wsX20, w ∈ wk_k_groundFor := fun _ h => List.mem_cons_of_mem _ (List.mem_append_left _ (List.mem_append_left _ (List.mem_append_right _ h)))
theorem iw_k_groundFor_1 : ∀ w ∈ wsX10, w ∈ wk_k_groundFor := fun _ h => List.mem_cons_of_mem _ (List.mem_append_left _ (List.mem_append_right _ h))
theorem iw_k_groundFor_0 : ∀ w ∈ wsX00, w ∈ wk_k_groundFor := fun _ h => List.mem_cons_of_mem _ (List.mem_append_right _ h)
set_option maxRecDepth 20000 in
theorem gw_k_groundFor_0 : GoodIn wk_k_groundFor wk_k_legIndex := goodIn_sub (by decide +kernel) (by decide +kernel)
set_option maxRecDepth 20000 in
theorem gw_k_groundFor_1 : GoodIn wk_k_groundFor (wsV RX2 115 RX1 yX1_fuelOf wk_k_fuelOf) := goodIn_sub (by decide +kernel) (by decide +kernel)
set_option maxRecDepth 20000 in
theorem gw_k_groundFor_2 : GoodIn wk_k_groundFor (wsV RX2 94 RX6 yX6_stageAhead wk_k_stageAhead) := goodIn_sub (by decide +kernel) (by decide +kernel)
set_option maxRecDepth 20000 in
theorem gw_k_groundFor_3 : GoodIn wk_k_groundFor (wsV RX2 98 RX0 yX0_climbsTo wk_k_climbsTo) := goodIn_sub (by decide +kernel) (by decide +kernel)
set_option maxHeartbeats 4000000 in
set_option maxRecDepth 100000 in
theorem k_groundFor (l : Launch) (D : va_G) (cI cB cP : ClassId) (sz : Nat) (h0 : Nat) (bk : Nat) (fl : Nat) (bs : Nat) (m9 : Nat) (m10 : Nat) (m11 : Nat) (m12 : Nat) (wd : Int32) (pw : Int32) (pi : Int32) (pb : Int32) (pk : Int32) (pr : Int32) (wy : Nat) (ct : Int32) (gr : Int32) (l2 : Nat) (l3 : Nat) (l4 : Nat) (lc : Int32) (ln : Int32) (a2 : Nat) (a3 : Nat) (a4 : Nat) (a5 : Nat) (a6 : Nat) (a7 : Nat) (a8 : Nat) (a9 : Nat) (a10 : Nat) (a11 : Nat) (a12 : Nat) (a13 : Nat) (a14 : Nat) (fi : Int32) (ff : Int32) (ft : Int32) (fd : Int32) (fr : Int32) (fw : Int32) (y : Int32) (w2 : Nat → Int32) (w3 : Nat → Int32) (n9 : Nat → Int32) (f11 : Nat → Int32) (f14 : Nat → Int32) (hct9 : 0 ≤ ct.toInt ∧ ct.toInt ≤ 16) (h29 : ∀ k : Nat, k < 16 → 0 ≤ (w2 k).toInt ∧ (w2 k).toInt ≤ 15) (h39 : ∀ k : Nat, k < 16 → 0 ≤ (w3 k).toInt ∧ (w3 k).toInt ≤ 5) (hmi9 : ∀ k : Nat, k < 96 → (-1) ≤ (n9 k).toInt ∧ (n9 k).toInt ≤ 1300) (hfw9 : 0 ≤ fw.toInt ∧ fw.toInt ≤ 90000) (r119 : ∀ k : Nat, k < 30 → 1 ≤ (f11 k).toInt ∧ (f11 k).toInt ≤ 9999) (r149 : ∀ k : Nat, k < 7 → 0 ≤ (f14 k).toInt ∧ (f14 k).toInt ≤ 5994) (hy9 : 0 ≤ y.toInt ∧ y.toInt ≤ 20000) : Met l yX2_groundFor wk_k_groundFor ({ frames := 2, cells := 0, slots := 0, locals := 45 } : Room) (va_Pc [.ref h0, .ref wy, .int y] (Pw D cI cB cP sz [(h0, .inr (2, [.ref bk, .ref fl, .int wd, .ref bs, .int pw, .int pi, .int pb, .int pk, .int pr, .ref m9, .ref m10, .ref m11, .ref m12])), (wy, .inr (6, [.int ct, .int gr, .ref l2, .ref l3, .ref l4])), (l2, .inl (cI, 16, .inl w2)), (l3, .inl (cI, 16, .inl w3)), (m9, .inl (cI, 96, .inl n9)), (bk, .inr (0, [.int lc, .int ln, .ref a2, .ref a3, .ref a4, .ref a5, .ref a6, .ref a7, .ref a8, .ref a9, .ref a10, .ref a11, .ref a12, .ref a13, .ref a14])), (fl, .inr (1, [.ref bk, .int fi, .int ff, .int ft, .int fd, .int fr, .int fw])), (a11, .inl (cI, 30, .inl f11)), (a14, .inl (cI, 7, .inl f14))])) (va_Qi (fun (r : Int32) (_ : Unit) => r.toInt = (-1) ∨ (0 ≤ r.toInt ∧ r.toInt ≤ 4000000)) (fun _ t => va_P D vwCl [(h0, .inr (2, [.ref bk, .ref fl, .int wd, .ref bs, .int pw, .int pi, .int pb, .int pk, .int pr, .ref m9, .ref m10, .ref m11, .ref m12])), (wy, .inr (6, [.int ct, .int gr, .ref l2, .ref l3, .ref l4])), (l2, .inl (cI, 16, .inl w2)), (l3, .inl (cI, 16, .inl w3)), (m9, .inl (cI, 96, .inl n9)), (bk, .inr (0, [.int lc, .int ln, .ref a2, .ref a3, .ref a4, .ref a5, .ref a6, .ref a7, .ref a8, .ref a9, .ref a10, .ref a11, .ref a12, .ref a13, .ref a14])), (fl, .inr (1, [.ref bk, .int fi, .int ff, .int ft, .int fd, .int fr, .int fw])), (a11, .inl (cI, 30, .inl f11)), (a14, .inl (cI, 7, .inl f14))] t.heap ∧ va_D (va_A [(h0, .inr (2, [.ref bk, .ref fl, .int wd, .ref bs, .int pw, .int pi, .int pb, .int pk, .int pr, .ref m9, .ref m10, .ref m11, .ref m12])), (wy, .inr (6, [.int ct, .int gr, .ref l2, .ref l3, .ref l4])), (l2, .inl (cI, 16, .inl w2)), (l3, .inl (cI, 16, .inl w3)), (m9, .inl (cI, 96, .inl n9)), (bk, .inr (0, [.int lc, .int ln, .ref a2, .ref a3, .ref a4, .ref a5, .ref a6, .ref a7, .ref a8, .ref a9, .ref a10, .ref a11, .ref a12, .ref a13, .ref a14])), (fl, .inr (1, [.ref bk, .int fi, .int ff, .int ft, .int fd, .int fr, .int fw])), (a11, .inl (cI, 30, .inl f11)), (a14, .inl (cI, 7, .inl f14))] sz) [(h0, .inr (2, [.ref bk, .ref fl, .int wd, .ref bs, .int pw, .int pi, .int pb, .int pk, .int pr, .ref m9, .ref m10, .ref m11, .ref m12])), (wy, .inr (6, [.int ct, .int gr, .ref l2, .ref l3, .ref l4])), (l2, .inl (cI, 16, .inl w2)), (l3, .inl (cI, 16, .inl w3)), (m9, .inl (cI, 96, .inl n9)), (bk, .inr (0, [.int lc, .int ln, .ref a2, .ref a3, .ref a4, .ref a5, .ref a6, .ref a7, .ref a8, .ref a9, .ref a10, .ref a11, .ref a12, .ref a13, .ref a14])), (fl, .inr (1, [.ref bk, .int fi, .int ff, .int ft, .int fd, .int fr, .int fw])), (a11, .inl (cI, 30, .inl f11)), (a14, .inl (cI, 7, .inl f14))]) (va_A [(h0, .inr (2, [.ref bk, .ref fl, .int wd, .ref bs, .int pw, .int pi, .int pb, .int pk, .int pr, .ref m9, .ref m10, .ref m11, .ref m12])), (wy, .inr (6, [.int ct, .int gr, .ref l2, .ref l3, .ref l4])), (l2, .inl (cI, 16, .inl w2)), (l3, .inl (cI, 16, .inl w3)), (m9, .inl (cI, 96, .inl n9)), (bk, .inr (0, [.int lc, .int ln, .ref a2, .ref a3, .ref a4, .ref a5, .ref a6, .ref a7, .ref a8, .ref a9, .ref a10, .ref a11, .ref a12, .ref a13, .ref a14])), (fl, .inr (1, [.ref bk, .int fi, .int ff, .int ft, .int fd, .int fr, .int fw])), (a11, .inl (cI, 30, .inl f11)), (a14, .inl (cI, 7, .inl f14))] sz)) 0 0 (va_A [(h0, .inr (2, [.ref bk, .ref fl, .int wd, .ref bs, .int pw, .int pi, .int pb, .int pk, .int pr, .ref m9, .ref m10, .ref m11, .ref m12])), (wy, .inr (6, [.int ct, .int gr, .ref l2, .ref l3, .ref l4])), (l2, .inl (cI, 16, .inl w2)), (l3, .inl (cI, 16, .inl w3)), (m9, .inl (cI, 96, .inl n9)), (bk, .inr (0, [.int lc, .int ln, .ref a2, .ref a3, .ref a4, .ref a5, .ref a6, .ref a7, .ref a8, .ref a9, .ref a10, .ref a11, .ref a12, .ref a13, .ref a14])), (fl, .inr (1, [.ref bk, .int fi, .int ff, .int ft, .int fd, .int fr, .int fw])), (a11, .inl (cI, 30, .inl f11)), (a14, .inl (cI, 7, .inl f14))] sz) := by
  refine Met.ofW (cc := cX2_groundFor) (maxL := 7) (ret := (some .int)) (by decide) rfl ?_
  intro p e s m args below meth c s₁ B hml hv
  obtain ⟨rfl, hsz, hP, ⟨hK, hN⟩, hD0⟩ := hv
  have hx := B.exec
  have hb := B.bytes
  have hr := B.returns
  have hts := atoms_spec (ws := wk_k_groundFor) B.pre
  have hown : s.vm.findClass RX2 = some m.cls := findClass_of_methodNamed B.named
  have hlocks := B.notSynchronized
  subst hsz
  have hD := hD0.self (sz := s.heap.size)
  generalize hAe : va_A [(h0, .inr (2, [.ref bk, .ref fl, .int wd, .ref bs, .int pw, .int pi, .int pb, .int pk, .int pr, .ref m9, .ref m10, .ref m11, .ref m12])), (wy, .inr (6, [.int ct, .int gr, .ref l2, .ref l3, .ref l4])), (l2, .inl (cI, 16, .inl w2)), (l3, .inl (cI, 16, .inl w3)), (m9, .inl (cI, 96, .inl n9)), (bk, .inr (0, [.int lc, .int ln, .ref a2, .ref a3, .ref a4, .ref a5, .ref a6, .ref a7, .ref a8, .ref a9, .ref a10, .ref a11, .ref a12, .ref a13, .ref a14])), (fl, .inr (1, [.ref bk, .int fi, .int ff, .int ft, .int fd, .int fr, .int fw])), (a11, .inl (cI, 30, .inl f11)), (a14, .inl (cI, 7, .inl f14))] s.heap.size = A at hD ⊢
  have hA : ∀ q : Nat, s.heap.size ≤ q → A q := fun q h => by rw [← hAe]; exact Or.inr h
  have hS : va_S A s.heap s.heap [] := va_S.rf
  have hP : va_P D vwCl [(h0, .inr (2, [.ref bk, .ref fl, .int wd, .ref bs, .int pw, .int pi, .int pb, .int pk, .int pr, .ref m9, .ref m10, .ref m11, .ref m12])), (wy, .inr (6, [.int ct, .int gr, .ref l2, .ref l3, .ref l4])), (l2, .inl (cI, 16, .inl w2)), (l3, .inl (cI, 16, .inl w3)), (m9, .inl (cI, 96, .inl n9)), (bk, .inr (0, [.int lc, .int ln, .ref a2, .ref a3, .ref a4, .ref a5, .ref a6, .ref a7, .ref a8, .ref a9, .ref a10, .ref a11, .ref a12, .ref a13, .ref a14])), (fl, .inr (1, [.ref bk, .int fi, .int ff, .int ft, .int fd, .int fr, .int fw])), (a11, .inl (cI, 30, .inl f11)), (a14, .inl (cI, 7, .inl f14))] s.heap := hP
  have hl := lv_entry ([.ref h0, .ref wy, .int y]) (n := 7) (Nat.le_of_ble_eq_true rfl)
  rw [lg_entry_eq]
  generalize (lg_sl ([.ref h0, .ref wy, .int y]) ++ List.replicate (7 - (lg_sl ([.ref h0, .ref wy, .int y])).length) Slot.unset).toArray = ls at hl ⊢
  have hl : lv_has ls 7 [(0, .ref h0), (1, .ref wy), (2, .int y)] := hl
  refine lv_iload_n hx hb dX2_groundFor_0 rfl (lv_at hl 2 rfl) ?_
  refine lv_istore_n (lv' := [(3, .int y), (0, .ref h0), (1, .ref wy), (2, .int y)]) hx hb dX2_groundFor_1 rfl hl (by decide) rfl (fun ls hl => ?_)
  refine lv_aload_n hx hb dX2_groundFor_2 rfl (lv_at hl 2 rfl) ?_
  refine va_get (D := D) (ci := 6) (v := .int ct) (C := RX6) (T := TX6) (N := 5) hx hb hts iw_k_groundFor_6 hown hK hP 1 rfl rfl 0 (by decide) (hts (.fieldLink RX2 81 "FlightDesk$Way" "count" "I") (by decide +kernel)) (fun _ h9 => h9) rfl dX2_groundFor_3 ?_
  refine lv_iconst (v := 1) hx hb dX2_groundFor_6 (by decide) ?_
  refine lv_isub hx hb dX2_groundFor_7 ?_
  refine lv_topi (fun v1 ev1 => ?_)
  have tv1 : v1.toInt = ct.toInt - 1 := (by have q9 : v1.toInt = (ct.toInt - 1 + 2147483648) % 4294967296 - 2147483648 := i32_sub ev1; omega)
  refine lv_istore (lv' := [(4, .int v1), (3, .int y), (0, .ref h0), (1, .ref wy), (2, .int y)]) hx hb dX2_groundFor_8 hl (by decide) rfl (fun ls hl => ?_)
  have loop4 : ∀ (N5 : Nat) (kk1 : Int32) (fu1 : Int32) (H : Heap) (locs : List Loc) (ls : Array Slot), ((-1) ≤ kk1.toInt ∧ kk1.toInt ≤ 15) → (0 ≤ fu1.toInt ∧ fu1.toInt ≤ 20000 + 223000 * (15 - kk1.toInt)) → (kk1.toInt + 1).toNat < N5 → va_P D vwCl [(h0, .inr (2, [.ref bk, .ref fl, .int wd, .ref bs, .int pw, .int pi, .int pb, .int pk, .int pr, .ref m9, .ref m10, .ref m11, .ref m12])), (wy, .inr (6, [.int ct, .int gr, .ref l2, .ref l3, .ref l4])), (l2, .inl (cI, 16, .inl w2)), (l3, .inl (cI, 16, .inl w3)), (m9, .inl (cI, 96, .inl n9)), (bk, .inr (0, [.int lc, .int ln, .ref a2, .ref a3, .ref a4, .ref a5, .ref a6, .ref a7, .ref a8, .ref a9, .ref a10, .ref a11, .ref a12, .ref a13, .ref a14])), (fl, .inr (1, [.ref bk, .int fi, .int ff, .int ft, .int fd, .int fr, .int fw])), (a11, .inl (cI, 30, .inl f11)), (a14, .inl (cI, 7, .inl f14))] H → va_D A [(h0, .inr (2, [.ref bk, .ref fl, .int wd, .ref bs, .int pw, .int pi, .int pb, .int pk, .int pr, .ref m9, .ref m10, .ref m11, .ref m12])), (wy, .inr (6, [.int ct, .int gr, .ref l2, .ref l3, .ref l4])), (l2, .inl (cI, 16, .inl w2)), (l3, .inl (cI, 16, .inl w3)), (m9, .inl (cI, 96, .inl n9)), (bk, .inr (0, [.int lc, .int ln, .ref a2, .ref a3, .ref a4, .ref a5, .ref a6, .ref a7, .ref a8, .ref a9, .ref a10, .ref a11, .ref a12, .ref a13, .ref a14])), (fl, .inr (1, [.ref bk, .int fi, .int ff, .int ft, .int fd, .int fr, .int fw])), (a11, .inl (cI, 30, .inl f11)), (a14, .inl (cI, 7, .inl f14))] → va_S A s.heap H locs → lv_has ls 7 [(4, .int kk1), (3, .int fu1), (0, .ref h0), (1, .ref wy), (2, .int y)] → W p l e ({ frames := 2, cells := 0, slots := 0, locals := 45 } : Room) s m ([.ref h0, .ref wy, .int y] : List Value).toArray below meth c H locs 0 0 (MQ below (va_Qi (fun (r : Int32) (_ : Unit) => r.toInt = (-1) ∨ (0 ≤ r.toInt ∧ r.toInt ≤ 4000000)) (fun _ t => va_P D vwCl [(h0, .inr (2, [.ref bk, .ref fl, .int wd, .ref bs, .int pw, .int pi, .int pb, .int pk, .int pr, .ref m9, .ref m10, .ref m11, .ref m12])), (wy, .inr (6, [.int ct, .int gr, .ref l2, .ref l3, .ref l4])), (l2, .inl (cI, 16, .inl w2)), (l3, .inl (cI, 16, .inl w3)), (m9, .inl (cI, 96, .inl n9)), (bk, .inr (0, [.int lc, .int ln, .ref a2, .ref a3, .ref a4, .ref a5, .ref a6, .ref a7, .ref a8, .ref a9, .ref a10, .ref a11, .ref a12, .ref a13, .ref a14])), (fl, .inr (1, [.ref bk, .int fi, .int ff, .int ft, .int fd, .int fr, .int fw])), (a11, .inl (cI, 30, .inl f11)), (a14, .inl (cI, 7, .inl f14))] t.heap ∧ va_D A [(h0, .inr (2, [.ref bk, .ref fl, .int wd, .ref bs, .int pw, .int pi, .int pb, .int pk, .int pr, .ref m9, .ref m10, .ref m11, .ref m12])), (wy, .inr (6, [.int ct, .int gr, .ref l2, .ref l3, .ref l4])), (l2, .inl (cI, 16, .inl w2)), (l3, .inl (cI, 16, .inl w3)), (m9, .inl (cI, 96, .inl n9)), (bk, .inr (0, [.int lc, .int ln, .ref a2, .ref a3, .ref a4, .ref a5, .ref a6, .ref a7, .ref a8, .ref a9, .ref a10, .ref a11, .ref a12, .ref a13, .ref a14])), (fl, .inr (1, [.ref bk, .int fi, .int ff, .int ft, .int fd, .int fr, .int fw])), (a11, .inl (cI, 30, .inl f11)), (a14, .inl (cI, 7, .inl f14))]) A) ([.ref h0, .ref wy, .int y] : List Value).toArray s 0 0 A) (F0 m 10 ls []) := by
    intro N5
    induction N5 with
    | zero => intro kk1 fu1 H locs ls hi2 hi3 hm9 hP hD hS hl; exact absurd hm9 (Nat.not_lt_zero _)
    | succ N5 ih_N5 => 
      intro kk1 fu1 H locs ls hi2 hi3 hm9 hP hD hS hl
      refine lv_iload hx hb dX2_groundFor_10 (lv_at hl 0 rfl) ?_
      refine lv_if_lt (tgt := 90) hx hb dX2_groundFor_12 (by decide) (fun c6 => ?_) (fun c6 => ?_)
      · have tc6 : kk1.toInt < 0 := i32_lt c6
        refine lv_iload_n hx hb dX2_groundFor_90 rfl (lv_at hl 1 rfl) ?_
        have hP9 := hP.sub (ws' := [(h0, .inr (2, [.ref bk, .ref fl, .int wd, .ref bs, .int pw, .int pi, .int pb, .int pk, .int pr, .ref m9, .ref m10, .ref m11, .ref m12])), (wy, .inr (6, [.int ct, .int gr, .ref l2, .ref l3, .ref l4])), (l2, .inl (cI, 16, .inl w2)), (l3, .inl (cI, 16, .inl w3)), (m9, .inl (cI, 96, .inl n9)), (bk, .inr (0, [.int lc, .int ln, .ref a2, .ref a3, .ref a4, .ref a5, .ref a6, .ref a7, .ref a8, .ref a9, .ref a10, .ref a11, .ref a12, .ref a13, .ref a14])), (fl, .inr (1, [.ref bk, .int fi, .int ff, .int ft, .int fd, .int fr, .int fw])), (a11, .inl (cI, 30, .inl f11)), (a14, .inl (cI, 7, .inl f14))]) [0, 1, 2, 3, 4, 5, 6, 7, 8] rfl
        have hD9 := hD.sub (ws' := [(h0, .inr (2, [.ref bk, .ref fl, .int wd, .ref bs, .int pw, .int pi, .int pb, .int pk, .int pr, .ref m9, .ref m10, .ref m11, .ref m12])), (wy, .inr (6, [.int ct, .int gr, .ref l2, .ref l3, .ref l4])), (l2, .inl (cI, 16, .inl w2)), (l3, .inl (cI, 16, .inl w3)), (m9, .inl (cI, 96, .inl n9)), (bk, .inr (0, [.int lc, .int ln, .ref a2, .ref a3, .ref a4, .ref a5, .ref a6, .ref a7, .ref a8, .ref a9, .ref a10, .ref a11, .ref a12, .ref a13, .ref a14])), (fl, .inr (1, [.ref bk, .int fi, .int ff, .int ft, .int fd, .int fr, .int fw])), (a11, .inl (cI, 30, .inl f11)), (a14, .inl (cI, 7, .inl f14))]) [0, 1, 2, 3, 4, 5, 6, 7, 8] (by decide) rfl
        refine W.widen (k := 0) (n := 0) (by decide) (by decide) ?_
        exact W.iret (v := fu1) hx hb hr (fun t ht hW => ⟨⟨fu1, (), rfl, (show fu1.toInt = (-1) ∨ (0 ≤ fu1.toInt ∧ fu1.toInt ≤ 4000000) by first | assumption | omega | trivial | decide), by rw [ht]; exact hP9, hD9⟩, hS.F ht⟩) hS.2.2 dX2_groundFor_91
      · have tc6 : ¬ (kk1.toInt < 0) := i32_nlt c6
        refine lv_aload_n hx hb dX2_groundFor_15 rfl (lv_at hl 3 rfl) ?_
        refine va_get (D := D) (ci := 6) (v := .ref l3) (C := RX6) (T := TX6) (N := 5) hx hb hts iw_k_groundFor_6 hown hK hP 1 rfl rfl 3 (by decide) (hts (.fieldLink RX2 87 "FlightDesk$Way" "level" "[I") (by decide +kernel)) (fun _ h9 => h9) rfl dX2_groundFor_16 ?_
        refine lv_iload hx hb dX2_groundFor_19 (lv_at hl 0 rfl) ?_
        refine va_iald hx hb hK hP 3 0 rfl rfl (vp_in_iff.mpr ⟨show 0 ≤ kk1.toInt by omega, show kk1.toInt < ((16 : Nat) : Int) by omega⟩) dX2_groundFor_21 ?_
        refine lv_topi (fun v7 ev7 => ?_)
        have tv7 : 0 ≤ v7.toInt ∧ v7.toInt ≤ 5 := by rw [ev7]; exact h39 _ (ck_lt (show 0 ≤ kk1.toInt by omega) (show kk1.toInt < ((16 : Nat) : Int) by omega))
        refine lv_istore (lv' := [(5, .int v7), (4, .int kk1), (3, .int fu1), (0, .ref h0), (1, .ref wy), (2, .int y)]) hx hb dX2_groundFor_22 hl (by decide) rfl (fun ls hl => ?_)
        refine lv_aload_n hx hb dX2_groundFor_24 rfl (lv_at hl 3 rfl) ?_
        refine va_get (D := D) (ci := 2) (v := .ref m9) (C := RX2) (T := TX2) (N := 13) hx hb hts iw_k_groundFor_2 hown hK hP 0 rfl rfl 9 (by decide) (hts (.fieldLink RX2 18 "FlightDesk$Plan" "minutes" "[I") (by decide +kernel)) (fun _ h9 => h9) rfl dX2_groundFor_25 ?_
        refine lv_aload_n hx hb dX2_groundFor_28 rfl (lv_at hl 4 rfl) ?_
        refine va_get (D := D) (ci := 6) (v := .ref l2) (C := RX6) (T := TX6) (N := 5) hx hb hts iw_k_groundFor_6 hown hK hP 1 rfl rfl 2 (by decide) (hts (.fieldLink RX2 84 "FlightDesk$Way" "leg" "[I") (by decide +kernel)) (fun _ h9 => h9) rfl dX2_groundFor_29 ?_
        refine lv_iload hx hb dX2_groundFor_32 (lv_at hl 1 rfl) ?_
        refine va_iald hx hb hK hP 2 0 rfl rfl (vp_in_iff.mpr ⟨show 0 ≤ kk1.toInt by omega, show kk1.toInt < ((16 : Nat) : Int) by omega⟩) dX2_groundFor_34 ?_
        refine lv_topi (fun v8 ev8 => ?_)
        have tv8 : 0 ≤ v8.toInt ∧ v8.toInt ≤ 15 := by rw [ev8]; exact h29 _ (ck_lt (show 0 ≤ kk1.toInt by omega) (show kk1.toInt < ((16 : Nat) : Int) by omega))
        refine lv_iload hx hb dX2_groundFor_35 (lv_at hl 0 rfl) ?_
        have hPc := hP.sub (ws' := []) [] rfl
        have hDc := hD.sub (ws' := []) [] (by decide) rfl
        have hFc := va_free (wc := []) hD hS hA [] rfl
        refine va_calli (va_runSN (As := [.int v8, .int v7]) (rest := [.ref m9]) ⟨hx, hb, hml, hown, hts⟩ (k_legIndex l D cI cB cP H.size v8 v7 (show 0 ≤ v8.toInt ∧ v8.toInt ≤ 1000 by first | assumption | omega | decide) (show 0 ≤ v7.toInt ∧ v7.toInt ≤ 1000 by first | assumption | omega | decide)) ⟨va_cnB 2 hts gw_k_groundFor_0 rfl rfl rfl (hN.2.2.2.2.2.1) (hts (.initialized RX7) (by decide +kernel)) (by decide +kernel) ⟨Nat.le_of_ble_eq_true rfl, Nat.le_of_ble_eq_true rfl⟩, (hts (.static yX7_legIndex) (by decide +kernel)), trivial⟩ ⟨ny_blind, ny_pre hPc hK hN hDc⟩ rfl rfl hl.1 rfl (lv_room (Nat.le_of_ble_eq_true rfl)) dX2_groundFor_37 ⟨Nat.le_of_ble_eq_true rfl, Nat.le_of_ble_eq_true rfl⟩) hS (fun q _ h => hFc q h) hFc (fun r9 u t H locs ht hvm hw hB hz1 hk1 hS => ?_)
        obtain ⟨hP, hD⟩ := va_join (wr := [(h0, .inr (2, [.ref bk, .ref fl, .int wd, .ref bs, .int pw, .int pi, .int pb, .int pk, .int pr, .ref m9, .ref m10, .ref m11, .ref m12])), (wy, .inr (6, [.int ct, .int gr, .ref l2, .ref l3, .ref l4])), (l2, .inl (cI, 16, .inl w2)), (l3, .inl (cI, 16, .inl w3)), (m9, .inl (cI, 96, .inl n9)), (bk, .inr (0, [.int lc, .int ln, .ref a2, .ref a3, .ref a4, .ref a5, .ref a6, .ref a7, .ref a8, .ref a9, .ref a10, .ref a11, .ref a12, .ref a13, .ref a14])), (fl, .inr (1, [.ref bk, .int fi, .int ff, .int ft, .int fd, .int fr, .int fw])), (a11, .inl (cI, 30, .inl f11)), (a14, .inl (cI, 7, .inl f14))]) (w1 := []) hP hD [] [0, 1, 2, 3, 4, 5, 6, 7, 8] rfl rfl (by decide) (by decide) hk1 hFc ny_P0 ny_D0
        have hP : va_P D vwCl [(h0, .inr (2, [.ref bk, .ref fl, .int wd, .ref bs, .int pw, .int pi, .int pb, .int pk, .int pr, .ref m9, .ref m10, .ref m11, .ref m12])), (wy, .inr (6, [.int ct, .int gr, .ref l2, .ref l3, .ref l4])), (l2, .inl (cI, 16, .inl w2)), (l3, .inl (cI, 16, .inl w3)), (m9, .inl (cI, 96, .inl n9)), (bk, .inr (0, [.int lc, .int ln, .ref a2, .ref a3, .ref a4, .ref a5, .ref a6, .ref a7, .ref a8, .ref a9, .ref a10, .ref a11, .ref a12, .ref a13, .ref a14])), (fl, .inr (1, [.ref bk, .int fi, .int ff, .int ft, .int fd, .int fr, .int fw])), (a11, .inl (cI, 30, .inl f11)), (a14, .inl (cI, 7, .inl f14))] H := hP
        have hD : va_D A [(h0, .inr (2, [.ref bk, .ref fl, .int wd, .ref bs, .int pw, .int pi, .int pb, .int pk, .int pr, .ref m9, .ref m10, .ref m11, .ref m12])), (wy, .inr (6, [.int ct, .int gr, .ref l2, .ref l3, .ref l4])), (l2, .inl (cI, 16, .inl w2)), (l3, .inl (cI, 16, .inl w3)), (m9, .inl (cI, 96, .inl n9)), (bk, .inr (0, [.int lc, .int ln, .ref a2, .ref a3, .ref a4, .ref a5, .ref a6, .ref a7, .ref a8, .ref a9, .ref a10, .ref a11, .ref a12, .ref a13, .ref a14])), (fl, .inr (1, [.ref bk, .int fi, .int ff, .int ft, .int fd, .int fr, .int fw])), (a11, .inl (cI, 30, .inl f11)), (a14, .inl (cI, 7, .inl f14))] := hD
        have hr9 : r9.toInt = v8.toInt * 6 + v7.toInt := hw
        refine va_iald hx hb hK hP 4 0 rfl rfl (vp_in_iff.mpr ⟨show 0 ≤ r9.toInt by omega, show r9.toInt < ((96 : Nat) : Int) by omega⟩) dX2_groundFor_40 ?_
        refine lv_topi (fun v10 ev10 => ?_)
        have tv10 : (-1) ≤ v10.toInt ∧ v10.toInt ≤ 1300 := by rw [ev10]; exact hmi9 _ (ck_lt (show 0 ≤ r9.toInt by omega) (show r9.toInt < ((96 : Nat) : Int) by omega))
        refine lv_istore (lv' := [(6, .int v10), (5, .int v7), (4, .int kk1), (3, .int fu1), (0, .ref h0), (1, .ref wy), (2, .int y)]) hx hb dX2_groundFor_41 hl (by decide) rfl (fun ls hl => ?_)
        refine lv_iload hx hb dX2_groundFor_43 (lv_at hl 0 rfl) ?_
        refine lv_iconst (v := (-1)) hx hb dX2_groundFor_45 (by decide) ?_
        refine lv_icmp_ne (tgt := 51) hx hb dX2_groundFor_46 (by decide) (fun c11 => ?_) (fun c11 => ?_)
        · have tc11 : ¬ (v10.toInt = (-1)) := i32_neq c11
          refine lv_iload_n hx hb dX2_groundFor_51 rfl (lv_at hl 3 rfl) ?_
          refine lv_aload_n hx hb dX2_groundFor_52 rfl (lv_at hl 4 rfl) ?_
          refine va_get (D := D) (ci := 2) (v := .ref fl) (C := RX2) (T := TX2) (N := 13) hx hb hts iw_k_groundFor_2 hown hK hP 0 rfl rfl 1 (by decide) (hts (.fieldLink RX2 35 "FlightDesk$Plan" "flight" "LFlightDesk$Flight;") (by decide +kernel)) (fun _ h9 => h9) rfl dX2_groundFor_53 ?_
          refine lv_iload hx hb dX2_groundFor_56 (lv_at hl 0 rfl) ?_
          refine lv_iload hx hb dX2_groundFor_58 (lv_at hl 1 rfl) ?_
          refine lv_iload_n hx hb dX2_groundFor_60 rfl (lv_at hl 3 rfl) ?_
          have hPc := hP.sub (ws' := [(fl, .inr (1, [.ref bk, .int fi, .int ff, .int ft, .int fd, .int fr, .int fw])), (bk, .inr (0, [.int lc, .int ln, .ref a2, .ref a3, .ref a4, .ref a5, .ref a6, .ref a7, .ref a8, .ref a9, .ref a10, .ref a11, .ref a12, .ref a13, .ref a14])), (a11, .inl (cI, 30, .inl f11))]) [6, 5, 7] rfl
          have hDc := hD.sub (ws' := [(fl, .inr (1, [.ref bk, .int fi, .int ff, .int ft, .int fd, .int fr, .int fw])), (bk, .inr (0, [.int lc, .int ln, .ref a2, .ref a3, .ref a4, .ref a5, .ref a6, .ref a7, .ref a8, .ref a9, .ref a10, .ref a11, .ref a12, .ref a13, .ref a14])), (a11, .inl (cI, 30, .inl f11))]) [6, 5, 7] (by decide) rfl
          have hFc := va_free (wc := [(fl, .inr (1, [.ref bk, .int fi, .int ff, .int ft, .int fd, .int fr, .int fw])), (bk, .inr (0, [.int lc, .int ln, .ref a2, .ref a3, .ref a4, .ref a5, .ref a6, .ref a7, .ref a8, .ref a9, .ref a10, .ref a11, .ref a12, .ref a13, .ref a14])), (a11, .inl (cI, 30, .inl f11))]) hD hS hA [6, 5, 7] rfl
          refine va_calli (va_runV (As := [.int v10, .int v7, .int fu1]) (rest := [.int fu1]) ⟨hx, hb, hml, hown, hts⟩ (k_fuelOf l D cI cB cP H.size fl bk fi ff ft fd fr fw lc ln a2 a3 a4 a5 a6 a7 a8 a9 a10 a11 a12 a13 a14 v10 v7 fu1 f11 (show 0 ≤ v10.toInt ∧ v10.toInt ≤ 1300 by first | assumption | omega | decide) (show 0 ≤ v7.toInt ∧ v7.toInt ≤ 5 by first | assumption | omega | decide) (show 0 ≤ fu1.toInt ∧ fu1.toInt ≤ 1100000000 by first | assumption | omega | decide) (show 0 ≤ fw.toInt ∧ fw.toInt ≤ 90000 by first | assumption | omega | decide) (by assumption)) (cwV 3 hts gw_k_groundFor_1 rfl rfl rfl (by decide +kernel) ⟨Nat.le_of_ble_eq_true rfl, Nat.le_of_ble_eq_true rfl⟩) ⟨ny_blind, va_recv hK hPc (ci := 1) (q0 := 0) rfl rfl, ny_pre hPc hK hN hDc⟩ rfl rfl hl.1 rfl (lv_room (Nat.le_of_ble_eq_true rfl)) dX2_groundFor_61 ⟨Nat.le_of_ble_eq_true rfl, Nat.le_of_ble_eq_true rfl⟩) hS (fun q _ h => hFc q h) hFc (fun r12 u t H locs ht hvm hw hB hz1 hk1 hS => ?_)
          obtain ⟨hP1, hD1⟩ := hB
          rw [ht] at hP1
          obtain ⟨hP, hD⟩ := va_join (wr := [(h0, .inr (2, [.ref bk, .ref fl, .int wd, .ref bs, .int pw, .int pi, .int pb, .int pk, .int pr, .ref m9, .ref m10, .ref m11, .ref m12])), (wy, .inr (6, [.int ct, .int gr, .ref l2, .ref l3, .ref l4])), (l2, .inl (cI, 16, .inl w2)), (l3, .inl (cI, 16, .inl w3)), (m9, .inl (cI, 96, .inl n9)), (a14, .inl (cI, 7, .inl f14))]) (w1 := [(fl, .inr (1, [.ref bk, .int fi, .int ff, .int ft, .int fd, .int fr, .int fw])), (bk, .inr (0, [.int lc, .int ln, .ref a2, .ref a3, .ref a4, .ref a5, .ref a6, .ref a7, .ref a8, .ref a9, .ref a10, .ref a11, .ref a12, .ref a13, .ref a14])), (a11, .inl (cI, 30, .inl f11))]) hP hD [6, 5, 7] [0, 1, 2, 3, 4, 8] rfl rfl (by decide) (by decide) hk1 hFc hP1 hD1
          have hP : va_P D vwCl [(h0, .inr (2, [.ref bk, .ref fl, .int wd, .ref bs, .int pw, .int pi, .int pb, .int pk, .int pr, .ref m9, .ref m10, .ref m11, .ref m12])), (wy, .inr (6, [.int ct, .int gr, .ref l2, .ref l3, .ref l4])), (l2, .inl (cI, 16, .inl w2)), (l3, .inl (cI, 16, .inl w3)), (m9, .inl (cI, 96, .inl n9)), (a14, .inl (cI, 7, .inl f14)), (fl, .inr (1, [.ref bk, .int fi, .int ff, .int ft, .int fd, .int fr, .int fw])), (bk, .inr (0, [.int lc, .int ln, .ref a2, .ref a3, .ref a4, .ref a5, .ref a6, .ref a7, .ref a8, .ref a9, .ref a10, .ref a11, .ref a12, .ref a13, .ref a14])), (a11, .inl (cI, 30, .inl f11))] H := hP
          have hD : va_D A [(h0, .inr (2, [.ref bk, .ref fl, .int wd, .ref bs, .int pw, .int pi, .int pb, .int pk, .int pr, .ref m9, .ref m10, .ref m11, .ref m12])), (wy, .inr (6, [.int ct, .int gr, .ref l2, .ref l3, .ref l4])), (l2, .inl (cI, 16, .inl w2)), (l3, .inl (cI, 16, .inl w3)), (m9, .inl (cI, 96, .inl n9)), (a14, .inl (cI, 7, .inl f14)), (fl, .inr (1, [.ref bk, .int fi, .int ff, .int ft, .int fd, .int fr, .int fw])), (bk, .inr (0, [.int lc, .int ln, .ref a2, .ref a3, .ref a4, .ref a5, .ref a6, .ref a7, .ref a8, .ref a9, .ref a10, .ref a11, .ref a12, .ref a13, .ref a14])), (a11, .inl (cI, 30, .inl f11))] := hD
          have hr12 : 0 ≤ r12.toInt ∧ r12.toInt ≤ 216650 := hw
          refine lv_iadd hx hb dX2_groundFor_64 ?_
          refine lv_topi (fun v13 ev13 => ?_)
          have tv13 : v13.toInt = fu1.toInt + r12.toInt := (by have q9 : v13.toInt = (fu1.toInt + r12.toInt + 2147483648) % 4294967296 - 2147483648 := i32_add ev13; omega)
          refine lv_istore_n (lv' := [(3, .int v13), (6, .int v10), (5, .int v7), (4, .int kk1), (0, .ref h0), (1, .ref wy), (2, .int y)]) hx hb dX2_groundFor_65 rfl hl (by decide) rfl (fun ls hl => ?_)
          refine lv_iload_n hx hb dX2_groundFor_66 rfl (lv_at hl 0 rfl) ?_
          refine lv_aload_n hx hb dX2_groundFor_67 rfl (lv_at hl 4 rfl) ?_
          refine va_get (D := D) (ci := 2) (v := .ref bk) (C := RX2) (T := TX2) (N := 13) hx hb hts iw_k_groundFor_2 hown hK hP 0 rfl rfl 0 (by decide) (hts (.fieldLink RX2 31 "FlightDesk$Plan" "book" "LFlightDesk$Book;") (by decide +kernel)) (fun _ h9 => h9) rfl dX2_groundFor_68 ?_
          refine lv_iload hx hb dX2_groundFor_71 (lv_at hl 2 rfl) ?_
          refine lv_aload_n hx hb dX2_groundFor_73 rfl (lv_at hl 5 rfl) ?_
          refine lv_iload hx hb dX2_groundFor_74 (lv_at hl 3 rfl) ?_
          have hPc := hP.sub (ws' := [(wy, .inr (6, [.int ct, .int gr, .ref l2, .ref l3, .ref l4])), (l3, .inl (cI, 16, .inl w3))]) [1, 3] rfl
          have hDc := hD.sub (ws' := [(wy, .inr (6, [.int ct, .int gr, .ref l2, .ref l3, .ref l4])), (l3, .inl (cI, 16, .inl w3))]) [1, 3] (by decide) rfl
          have hFc := va_free (wc := [(wy, .inr (6, [.int ct, .int gr, .ref l2, .ref l3, .ref l4])), (l3, .inl (cI, 16, .inl w3))]) hD hS hA [1, 3] rfl
          refine va_calli (va_runV (As := [.int kk1]) (rest := [.int v7, .ref bk, .int v13]) ⟨hx, hb, hml, hown, hts⟩ (k_stageAhead l D cI cB cP H.size wy ct gr l2 l3 l4 kk1 w3 (show 0 ≤ ct.toInt ∧ ct.toInt ≤ 16 by first | assumption | omega | decide) (by assumption)) (cwV 1 hts gw_k_groundFor_2 rfl rfl rfl (by decide +kernel) ⟨Nat.le_of_ble_eq_true rfl, Nat.le_of_ble_eq_true rfl⟩) ⟨ny_blind, va_recv hK hPc (ci := 6) (q0 := 0) rfl rfl, ny_pre hPc hK hN hDc⟩ rfl rfl hl.1 rfl (lv_room (Nat.le_of_ble_eq_true rfl)) dX2_groundFor_76 ⟨Nat.le_of_ble_eq_true rfl, Nat.le_of_ble_eq_true rfl⟩) hS (fun q _ h => hFc q h) hFc (fun r14 u t H locs ht hvm hw hB hz1 hk1 hS => ?_)
          obtain ⟨hP1, hD1⟩ := hB
          rw [ht] at hP1
          obtain ⟨hP, hD⟩ := va_join (wr := [(h0, .inr (2, [.ref bk, .ref fl, .int wd, .ref bs, .int pw, .int pi, .int pb, .int pk, .int pr, .ref m9, .ref m10, .ref m11, .ref m12])), (l2, .inl (cI, 16, .inl w2)), (m9, .inl (cI, 96, .inl n9)), (a14, .inl (cI, 7, .inl f14)), (fl, .inr (1, [.ref bk, .int fi, .int ff, .int ft, .int fd, .int fr, .int fw])), (bk, .inr (0, [.int lc, .int ln, .ref a2, .ref a3, .ref a4, .ref a5, .ref a6, .ref a7, .ref a8, .ref a9, .ref a10, .ref a11, .ref a12, .ref a13, .ref a14])), (a11, .inl (cI, 30, .inl f11))]) (w1 := [(wy, .inr (6, [.int ct, .int gr, .ref l2, .ref l3, .ref l4])), (l3, .inl (cI, 16, .inl w3))]) hP hD [1, 3] [0, 2, 4, 5, 6, 7, 8] rfl rfl (by decide) (by decide) hk1 hFc hP1 hD1
          have hP : va_P D vwCl [(h0, .inr (2, [.ref bk, .ref fl, .int wd, .ref bs, .int pw, .int pi, .int pb, .int pk, .int pr, .ref m9, .ref m10, .ref m11, .ref m12])), (l2, .inl (cI, 16, .inl w2)), (m9, .inl (cI, 96, .inl n9)), (a14, .inl (cI, 7, .inl f14)), (fl, .inr (1, [.ref bk, .int fi, .int ff, .int ft, .int fd, .int fr, .int fw])), (bk, .inr (0, [.int lc, .int ln, .ref a2, .ref a3, .ref a4, .ref a5, .ref a6, .ref a7, .ref a8, .ref a9, .ref a10, .ref a11, .ref a12, .ref a13, .ref a14])), (a11, .inl (cI, 30, .inl f11)), (wy, .inr (6, [.int ct, .int gr, .ref l2, .ref l3, .ref l4])), (l3, .inl (cI, 16, .inl w3))] H := hP
          have hD : va_D A [(h0, .inr (2, [.ref bk, .ref fl, .int wd, .ref bs, .int pw, .int pi, .int pb, .int pk, .int pr, .ref m9, .ref m10, .ref m11, .ref m12])), (l2, .inl (cI, 16, .inl w2)), (m9, .inl (cI, 96, .inl n9)), (a14, .inl (cI, 7, .inl f14)), (fl, .inr (1, [.ref bk, .int fi, .int ff, .int ft, .int fd, .int fr, .int fw])), (bk, .inr (0, [.int lc, .int ln, .ref a2, .ref a3, .ref a4, .ref a5, .ref a6, .ref a7, .ref a8, .ref a9, .ref a10, .ref a11, .ref a12, .ref a13, .ref a14])), (a11, .inl (cI, 30, .inl f11)), (wy, .inr (6, [.int ct, .int gr, .ref l2, .ref l3, .ref l4])), (l3, .inl (cI, 16, .inl w3))] := hD
          have hr14 : 0 ≤ r14.toInt ∧ r14.toInt ≤ 6 := hw
          have hPc := hP.sub (ws' := [(bk, .inr (0, [.int lc, .int ln, .ref a2, .ref a3, .ref a4, .ref a5, .ref a6, .ref a7, .ref a8, .ref a9, .ref a10, .ref a11, .ref a12, .ref a13, .ref a14])), (a14, .inl (cI, 7, .inl f14))]) [5, 3] rfl
          have hDc := hD.sub (ws' := [(bk, .inr (0, [.int lc, .int ln, .ref a2, .ref a3, .ref a4, .ref a5, .ref a6, .ref a7, .ref a8, .ref a9, .ref a10, .ref a11, .ref a12, .ref a13, .ref a14])), (a14, .inl (cI, 7, .inl f14))]) [5, 3] (by decide) rfl
          have hFc := va_free (wc := [(bk, .inr (0, [.int lc, .int ln, .ref a2, .ref a3, .ref a4, .ref a5, .ref a6, .ref a7, .ref a8, .ref a9, .ref a10, .ref a11, .ref a12, .ref a13, .ref a14])), (a14, .inl (cI, 7, .inl f14))]) hD hS hA [5, 3] rfl
          refine va_calli (va_runV (As := [.int v7, .int r14]) (rest := [.int v13]) ⟨hx, hb, hml, hown, hts⟩ (k_climbsTo l D cI cB cP H.size bk lc ln a2 a3 a4 a5 a6 a7 a8 a9 a10 a11 a12 a13 a14 v7 r14 f14 (show 0 ≤ v7.toInt ∧ v7.toInt ≤ 5 by first | assumption | omega | decide) (show 0 ≤ r14.toInt ∧ r14.toInt ≤ 6 by first | assumption | omega | decide) (by assumption)) (cwV 2 hts gw_k_groundFor_3 rfl rfl rfl (by decide +kernel) ⟨Nat.le_of_ble_eq_true rfl, Nat.le_of_ble_eq_true rfl⟩) ⟨ny_blind, va_recv hK hPc (ci := 0) (q0 := 0) rfl rfl, ny_pre hPc hK hN hDc⟩ rfl rfl hl.1 rfl (lv_room (Nat.le_of_ble_eq_true rfl)) dX2_groundFor_79 ⟨Nat.le_of_ble_eq_true rfl, Nat.le_of_ble_eq_true rfl⟩) hS (fun q _ h => hFc q h) hFc (fun r15 u t H locs ht hvm hw hB hz1 hk1 hS => ?_)
          obtain ⟨hP1, hD1⟩ := hB
          rw [ht] at hP1
          obtain ⟨hP, hD⟩ := va_join (wr := [(h0, .inr (2, [.ref bk, .ref fl, .int wd, .ref bs, .int pw, .int pi, .int pb, .int pk, .int pr, .ref m9, .ref m10, .ref m11, .ref m12])), (l2, .inl (cI, 16, .inl w2)), (m9, .inl (cI, 96, .inl n9)), (fl, .inr (1, [.ref bk, .int fi, .int ff, .int ft, .int fd, .int fr, .int fw])), (a11, .inl (cI, 30, .inl f11)), (wy, .inr (6, [.int ct, .int gr, .ref l2, .ref l3, .ref l4])), (l3, .inl (cI, 16, .inl w3))]) (w1 := [(bk, .inr (0, [.int lc, .int ln, .ref a2, .ref a3, .ref a4, .ref a5, .ref a6, .ref a7, .ref a8, .ref a9, .ref a10, .ref a11, .ref a12, .ref a13, .ref a14])), (a14, .inl (cI, 7, .inl f14))]) hP hD [5, 3] [0, 1, 2, 4, 6, 7, 8] rfl rfl (by decide) (by decide) hk1 hFc hP1 hD1
          have hP : va_P D vwCl [(h0, .inr (2, [.ref bk, .ref fl, .int wd, .ref bs, .int pw, .int pi, .int pb, .int pk, .int pr, .ref m9, .ref m10, .ref m11, .ref m12])), (l2, .inl (cI, 16, .inl w2)), (m9, .inl (cI, 96, .inl n9)), (fl, .inr (1, [.ref bk, .int fi, .int ff, .int ft, .int fd, .int fr, .int fw])), (a11, .inl (cI, 30, .inl f11)), (wy, .inr (6, [.int ct, .int gr, .ref l2, .ref l3, .ref l4])), (l3, .inl (cI, 16, .inl w3)), (bk, .inr (0, [.int lc, .int ln, .ref a2, .ref a3, .ref a4, .ref a5, .ref a6, .ref a7, .ref a8, .ref a9, .ref a10, .ref a11, .ref a12, .ref a13, .ref a14])), (a14, .inl (cI, 7, .inl f14))] H := hP
          have hD : va_D A [(h0, .inr (2, [.ref bk, .ref fl, .int wd, .ref bs, .int pw, .int pi, .int pb, .int pk, .int pr, .ref m9, .ref m10, .ref m11, .ref m12])), (l2, .inl (cI, 16, .inl w2)), (m9, .inl (cI, 96, .inl n9)), (fl, .inr (1, [.ref bk, .int fi, .int ff, .int ft, .int fd, .int fr, .int fw])), (a11, .inl (cI, 30, .inl f11)), (wy, .inr (6, [.int ct, .int gr, .ref l2, .ref l3, .ref l4])), (l3, .inl (cI, 16, .inl w3)), (bk, .inr (0, [.int lc, .int ln, .ref a2, .ref a3, .ref a4, .ref a5, .ref a6, .ref a7, .ref a8, .ref a9, .ref a10, .ref a11, .ref a12, .ref a13, .ref a14])), (a14, .inl (cI, 7, .inl f14))] := hD
          have hr15 : 0 ≤ r15.toInt ∧ r15.toInt ≤ 5994 := hw
          refine lv_iadd hx hb dX2_groundFor_82 ?_
          refine lv_topi (fun v16 ev16 => ?_)
          have tv16 : v16.toInt = v13.toInt + r15.toInt := (by have q9 : v16.toInt = (v13.toInt + r15.toInt + 2147483648) % 4294967296 - 2147483648 := i32_add ev16; omega)
          refine lv_istore_n (lv' := [(3, .int v16), (6, .int v10), (5, .int v7), (4, .int kk1), (0, .ref h0), (1, .ref wy), (2, .int y)]) hx hb dX2_groundFor_83 rfl hl (by decide) rfl (fun ls hl => ?_)
          obtain ⟨v17, ev17⟩ : ∃ y : Int32, y = kk1 + (-1) := ⟨_, rfl⟩
          have tv17 : v17.toInt = kk1.toInt + (-1) := (by have q9 : v17.toInt = (kk1.toInt + (-1) + 2147483648) % 4294967296 - 2147483648 := i32_add ev17; omega)
          refine lv_iinc (v := v17) (lv' := [(4, .int v17), (3, .int v16), (6, .int v10), (5, .int v7), (0, .ref h0), (1, .ref wy), (2, .int y)]) hx hb dX2_groundFor_84 hl (k := 3) rfl (by rw [ev17]; rfl) (by decide) rfl (fun ls hl => ?_)
          refine lv_goto (tgt := 10) hx hb dX2_groundFor_87 (by decide) ?_
          exact ih_N5 v17 v16 _ _ _ (show (-1) ≤ v17.toInt ∧ v17.toInt ≤ 15 by first | assumption | omega | decide) (show 0 ≤ v16.toInt ∧ v16.toInt ≤ 20000 + 223000 * (15 - v17.toInt) by first | assumption | omega | decide) (by omega) (hP.sub [0, 5, 1, 6, 2, 7, 3, 4, 8] rfl) (hD.sub [0, 5, 1, 6, 2, 7, 3, 4, 8] (by decide) rfl) hS (lv_sub hl [0, 1, 4, 5, 6] rfl)
        · have tc11 : v10.toInt = (-1) := i32_eq c11
          refine lv_iconst (v := (-1)) hx hb dX2_groundFor_49 (by decide) ?_
          have hP9 := hP.sub (ws' := [(h0, .inr (2, [.ref bk, .ref fl, .int wd, .ref bs, .int pw, .int pi, .int pb, .int pk, .int pr, .ref m9, .ref m10, .ref m11, .ref m12])), (wy, .inr (6, [.int ct, .int gr, .ref l2, .ref l3, .ref l4])), (l2, .inl (cI, 16, .inl w2)), (l3, .inl (cI, 16, .inl w3)), (m9, .inl (cI, 96, .inl n9)), (bk, .inr (0, [.int lc, .int ln, .ref a2, .ref a3, .ref a4, .ref a5, .ref a6, .ref a7, .ref a8, .ref a9, .ref a10, .ref a11, .ref a12, .ref a13, .ref a14])), (fl, .inr (1, [.ref bk, .int fi, .int ff, .int ft, .int fd, .int fr, .int fw])), (a11, .inl (cI, 30, .inl f11)), (a14, .inl (cI, 7, .inl f14))]) [0, 1, 2, 3, 4, 5, 6, 7, 8] rfl
          have hD9 := hD.sub (ws' := [(h0, .inr (2, [.ref bk, .ref fl, .int wd, .ref bs, .int pw, .int pi, .int pb, .int pk, .int pr, .ref m9, .ref m10, .ref m11, .ref m12])), (wy, .inr (6, [.int ct, .int gr, .ref l2, .ref l3, .ref l4])), (l2, .inl (cI, 16, .inl w2)), (l3, .inl (cI, 16, .inl w3)), (m9, .inl (cI, 96, .inl n9)), (bk, .inr (0, [.int lc, .int ln, .ref a2, .ref a3, .ref a4, .ref a5, .ref a6, .ref a7, .ref a8, .ref a9, .ref a10, .ref a11, .ref a12, .ref a13, .ref a14])), (fl, .inr (1, [.ref bk, .int fi, .int ff, .int ft, .int fd, .int fr, .int fw])), (a11, .inl (cI, 30, .inl f11)), (a14, .inl (cI, 7, .inl f14))]) [0, 1, 2, 3, 4, 5, 6, 7, 8] (by decide) rfl
          refine W.widen (k := 0) (n := 0) (by decide) (by decide) ?_
          exact W.iret (v := (-1)) hx hb hr (fun t ht hW => ⟨⟨(-1), (), rfl, (show (-1) = (-1) ∨ (0 ≤ (-1) ∧ (-1) ≤ 4000000) by first | assumption | omega | trivial | decide), by rw [ht]; exact hP9, hD9⟩, hS.F ht⟩) hS.2.2 dX2_groundFor_50
  exact loop4 _ v1 y _ _ _ (show (-1) ≤ v1.toInt ∧ v1.toInt ≤ 15 by first | assumption | omega | decide) (show 0 ≤ y.toInt ∧ y.toInt ≤ 20000 + 223000 * (15 - v1.toInt) by first | assumption | omega | decide) (Nat.lt_succ_self _) (hP.sub [0, 1, 2, 3, 4, 5, 6, 7, 8] rfl) (hD.sub [0, 1, 2, 3, 4, 5, 6, 7, 8] (by decide) rfl) hS (lv_sub hl [0, 1, 2, 3, 4] rfl)
