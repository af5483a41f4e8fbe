def wk_k_climbsTo : List Cond := .code yX0_climbsTo cX0_climbsTo 3 (some .int) :: ([.fieldLink RX0 48 "FlightDesk$Book" "height" "[I", .methodLink RX0 83 Lib.Math.max.name, .static Lib.Math.max.name, .initialized "java/lang/Math", .code Lib.Math.max.name Lib.Math.max.code 2 (some .int)] ++ wsX00)
theorem iw_k_climbsTo_0 : ∀ w ∈ wsX00, w ∈ wk_k_climbsTo := fun _ h => List.mem_cons_of_mem _ (List.mem_append_right _ h)
set_option maxHeartbeats 4000000 in
set_option maxRecDepth 100000 in
theorem k_climbsTo (l : Launch) (D : va_G) (cI cB cP : ClassId) (sz : Nat) (h0 : Nat) (lc : Int32) (ln : Int32) (a2 : Nat) (a3 : Nat) (a4 : Nat) (a5 : Nat) (a6 : Nat) (a7 : Nat) (a8 : Nat) (a9 : Nat) (a10 : Nat) (a11 : Nat) (a12 : Nat) (a13 : Nat) (a14 : Nat) (v : Int32) (g : Int32) (f14 : Nat → Int32) (hv9 : 0 ≤ v.toInt ∧ v.toInt ≤ 5) (hg9 : 0 ≤ g.toInt ∧ g.toInt ≤ 6) (hf9 : ∀ k : Nat, k < 7 → 0 ≤ (f14 k).toInt ∧ (f14 k).toInt ≤ 5994) : Met l yX0_climbsTo wk_k_climbsTo ({ frames := 1, cells := 0, slots := 0, locals := 13 } : Room) (va_Pc [.ref h0, .int v, .int g] (Pw D cI cB cP sz [(h0, .inr (0, [.int lc, .int ln, .ref a2, .ref a3, .ref a4, .ref a5, .ref a6, .ref a7, .ref a8, .ref a9, .ref a10, .ref a11, .ref a12, .ref a13, .ref a14])), (a14, .inl (cI, 7, .inl f14))])) (va_Qi (fun (r : Int32) (_ : Unit) => 0 ≤ r.toInt ∧ r.toInt ≤ 5994) (fun _ t => va_P D vwCl [(h0, .inr (0, [.int lc, .int ln, .ref a2, .ref a3, .ref a4, .ref a5, .ref a6, .ref a7, .ref a8, .ref a9, .ref a10, .ref a11, .ref a12, .ref a13, .ref a14])), (a14, .inl (cI, 7, .inl f14))] t.heap ∧ va_D (va_A [(h0, .inr (0, [.int lc, .int ln, .ref a2, .ref a3, .ref a4, .ref a5, .ref a6, .ref a7, .ref a8, .ref a9, .ref a10, .ref a11, .ref a12, .ref a13, .ref a14])), (a14, .inl (cI, 7, .inl f14))] sz) [(h0, .inr (0, [.int lc, .int ln, .ref a2, .ref a3, .ref a4, .ref a5, .ref a6, .ref a7, .ref a8, .ref a9, .ref a10, .ref a11, .ref a12, .ref a13, .ref a14])), (a14, .inl (cI, 7, .inl f14))]) (va_A [(h0, .inr (0, [.int lc, .int ln, .ref a2, .ref a3, .ref a4, .ref a5, .ref a6, .ref a7, .ref a8, .ref a9, .ref a10, .ref a11, .ref a12, .ref a13, .ref a14])), (a14, .inl (cI, 7, .inl f14))] sz)) 0 0 (va_A [(h0, .inr (0, [.int lc, .int ln, .ref a2, .ref a3, .ref a4, .ref a5, .ref a6, .ref a7, .ref a8, .ref a9, .ref a10, .ref a11, .ref a12, .ref a13, .ref a14])), (a14, .inl (cI, 7, .inl f14))] sz) := by
  refine Met.ofW (cc := cX0_climbsTo) (maxL := 3) (ret := (some .int)) (by decide) rfl ?_
  intro p e s m args below meth c s₁ B hml hv
  obtain ⟨rfl, hsz, hP, ⟨hK, hN⟩, hD0⟩ := hv
  have hx := B.exec
  have hb := B.bytes
  have hr := B.returns
  have hts := atoms_spec (ws := wk_k_climbsTo) B.pre
  have hown : s.vm.findClass RX0 = some m.cls := findClass_of_methodNamed B.named
  have hlocks := B.notSynchronized
  subst hsz
  have hD := hD0.self (sz := s.heap.size)
  generalize hAe : va_A [(h0, .inr (0, [.int lc, .int ln, .ref a2, .ref a3, .ref a4, .ref a5, .ref a6, .ref a7, .ref a8, .ref a9, .ref a10, .ref a11, .ref a12, .ref a13, .ref a14])), (a14, .inl (cI, 7, .inl f14))] s.heap.size = A at hD ⊢
  have hA : ∀ q : Nat, s.heap.size ≤ q → A q := fun q h => by rw [← hAe]; exact Or.inr h
  have hS : va_S A s.heap s.heap [] := va_S.rf
  have hP : va_P D vwCl [(h0, .inr (0, [.int lc, .int ln, .ref a2, .ref a3, .ref a4, .ref a5, .ref a6, .ref a7, .ref a8, .ref a9, .ref a10, .ref a11, .ref a12, .ref a13, .ref a14])), (a14, .inl (cI, 7, .inl f14))] s.heap := hP
  have hl := lv_entry ([.ref h0, .int v, .int g]) (n := 3) (Nat.le_of_ble_eq_true rfl)
  rw [lg_entry_eq]
  generalize (lg_sl ([.ref h0, .int v, .int g]) ++ List.replicate (3 - (lg_sl ([.ref h0, .int v, .int g])).length) Slot.unset).toArray = ls at hl ⊢
  have hl : lv_has ls 3 [(0, .ref h0), (1, .int v), (2, .int g)] := hl
  refine lv_iconst (v := 0) hx hb dX0_climbsTo_0 (by decide) ?_
  refine lv_aload_n hx hb dX0_climbsTo_1 rfl (lv_at hl 0 rfl) ?_
  refine va_get (D := D) (ci := 0) (v := .ref a14) (C := RX0) (T := TX0) (N := 15) hx hb hts iw_k_climbsTo_0 hown hK hP 0 rfl rfl 14 (by decide) (hts (.fieldLink RX0 48 "FlightDesk$Book" "height" "[I") (by decide +kernel)) (fun _ h9 => h9) rfl dX0_climbsTo_2 ?_
  refine lv_iload_n hx hb dX0_climbsTo_5 rfl (lv_at hl 1 rfl) ?_
  refine lv_iconst (v := 1) hx hb dX0_climbsTo_6 (by decide) ?_
  refine lv_iadd hx hb dX0_climbsTo_7 ?_
  refine lv_topi (fun v1 ev1 => ?_)
  have tv1 : v1.toInt = (v.toInt + 1 + 2147483648) % 4294967296 - 2147483648 := i32_add ev1
  refine va_iald hx hb hK hP 1 0 rfl rfl (vp_in_iff.mpr ⟨show 0 ≤ v1.toInt by omega, show v1.toInt < ((7 : Nat) : Int) by omega⟩) dX0_climbsTo_8 ?_
  refine lv_topi (fun v2 ev2 => ?_)
  have tv2 : 0 ≤ v2.toInt ∧ v2.toInt ≤ 5994 := by rw [ev2]; exact hf9 _ (ck_lt (show 0 ≤ v1.toInt by omega) (show v1.toInt < ((7 : Nat) : Int) by omega))
  refine lv_aload_n hx hb dX0_climbsTo_9 rfl (lv_at hl 0 rfl) ?_
  refine va_get (D := D) (ci := 0) (v := .ref a14) (C := RX0) (T := TX0) (N := 15) hx hb hts iw_k_climbsTo_0 hown hK hP 0 rfl rfl 14 (by decide) (hts (.fieldLink RX0 48 "FlightDesk$Book" "height" "[I") (by decide +kernel)) (fun _ h9 => h9) rfl dX0_climbsTo_10 ?_
  refine lv_iload_n hx hb dX0_climbsTo_13 rfl (lv_at hl 2 rfl) ?_
  refine va_iald hx hb hK hP 1 0 rfl rfl (vp_in_iff.mpr ⟨show 0 ≤ g.toInt by omega, show g.toInt < ((7 : Nat) : Int) by omega⟩) dX0_climbsTo_14 ?_
  refine lv_topi (fun v3 ev3 => ?_)
  have tv3 : 0 ≤ v3.toInt ∧ v3.toInt ≤ 5994 := by rw [ev3]; exact hf9 _ (ck_lt (show 0 ≤ g.toInt by omega) (show g.toInt < ((7 : Nat) : Int) by omega))
  refine lv_isub hx hb dX0_climbsTo_15 ?_
  refine lv_topi (fun v4 ev4 => ?_)
  have tv4 : v4.toInt = (v2.toInt - v3.toInt + 2147483648) % 4294967296 - 2147483648 := i32_sub ev4
  refine va_mmax hx hb (by rw [hml]; exact hl.1.symm) hown (hts (.methodLink RX0 83 Lib.Math.max.name) (by decide +kernel)) (hts (.static Lib.Math.max.name) (by decide +kernel)) (hts (.initialized "java/lang/Math") (by decide +kernel)) (hts (.code Lib.Math.max.name Lib.Math.max.code 2 (some .int)) (by decide +kernel)) (Nat.le_of_ble_eq_true rfl) (Nat.le_of_ble_eq_true rfl) (Nat.le_of_ble_eq_true rfl) (Nat.le_of_ble_eq_true rfl) dX0_climbsTo_16 ?_
  refine lv_topi (fun v5 ev5 => ?_)
  have tv5 : v5.toInt ≥ 0 ∧ v5.toInt ≥ v4.toInt ∧ (v5.toInt = 0 ∨ v5.toInt = v4.toInt) := i32_max ev5
  have hP9 := hP.sub (ws' := [(h0, .inr (0, [.int lc, .int ln, .ref a2, .ref a3, .ref a4, .ref a5, .ref a6, .ref a7, .ref a8, .ref a9, .ref a10, .ref a11, .ref a12, .ref a13, .ref a14])), (a14, .inl (cI, 7, .inl f14))]) [0, 1] rfl
  have hD9 := hD.sub (ws' := [(h0, .inr (0, [.int lc, .int ln, .ref a2, .ref a3, .ref a4, .ref a5, .ref a6, .ref a7, .ref a8, .ref a9, .ref a10, .ref a11, .ref a12, .ref a13, .ref a14])), (a14, .inl (cI, 7, .inl f14))]) [0, 1] (by decide) rfl
  refine W.widen (k := 0) (n := 0) (by decide) (by decide) ?_
  exact W.iret (v := v5) hx hb hr (fun t ht hW => ⟨⟨v5, (), rfl, (show 0 ≤ v5.toInt ∧ v5.toInt ≤ 5994 by first | assumption | omega | trivial | decide), by rw [ht]; exact hP9, hD9⟩, hS.F ht⟩) hS.2.2 dX0_climbsTo_19

def wk_k_minutesOf : List Cond := .code yX1_minutesOf cX1_minutesOf 6 (some .int) :: ([.fieldLink RX1 9 "FlightDesk$Flight" "book" "LFlightDesk$Book;", .fieldLink RX1 41 "FlightDesk$Book" "lowest" "[I", .fieldLink RX1 53 "FlightDesk$Book" "speed" "[I", .fieldLink RX1 56 "FlightDesk$Book" "wind" "[I", .initialized RX7, .static yX7_windIndex, .code yX7_windIndex cX7_windIndex 3 (some .int), .fieldLink RX1 44 "FlightDesk$Book" "highest" "[I", .fieldLink RX1 26 "FlightDesk$Flight" "day" "I", .fieldLink RX1 47 "FlightDesk$Book" "firstDay" "[I", .fieldLink RX1 50 "FlightDesk$Book" "lastDay" "[I", .fieldLink RX1 63 "FlightDesk$Book" "miles" "[I"] ++ wsX10 ++ wsX00)
theorem iw_k_minutesOf_1 : ∀ w ∈ wsX10, w ∈ wk_k_minutesOf := fun _ h => List.mem_cons_of_mem _ (List.mem_append_left _ (List.mem_append_right _ h))
theorem iw_k_minutesOf_0 : ∀ w ∈ wsX00, w ∈ wk_k_minutesOf := fun _ h => List.mem_cons_of_mem _ (List.mem_append_right _ h)
set_option maxRecDepth 20000 in
theorem gw_k_minutesOf_0 : GoodIn wk_k_minutesOf wk_k_windIndex := goodIn_sub (by decide +kernel) (by decide +kernel)
set_option maxHeartbeats 4000000 in
set_option maxRecDepth 100000 in
theorem k_minutesOf (l : Launch) (D : va_G) (cI cB cP : ClassId) (sz : Nat) (h0 : Nat) (bk : Nat) (fi : Int32) (ff : Int32) (ft : Int32) (fd : Int32) (fr : Int32) (fw : Int32) (lc : Int32) (ln : Int32) (a2 : Nat) (a3 : Nat) (a4 : Nat) (a5 : Nat) (a6 : Nat) (a7 : Nat) (a8 : Nat) (a9 : Nat) (a10 : Nat) (a11 : Nat) (a12 : Nat) (a13 : Nat) (a14 : Nat) (g : Int32) (v : Int32) (w : Int32) (f4 : Nat → Int32) (f5 : Nat → Int32) (f6 : Nat → Int32) (f7 : Nat → Int32) (f8 : Nat → Int32) (f9 : Nat → Int32) (f10 : Nat → Int32) (hg9 : 0 ≤ g.toInt ∧ g.toInt ≤ 15) (hv9 : 0 ≤ v.toInt ∧ v.toInt ≤ 5) (hw9 : 0 ≤ w.toInt ∧ w.toInt ≤ 2) (r49 : ∀ k : Nat, k < 16 → 0 ≤ (f4 k).toInt ∧ (f4 k).toInt ≤ 999) (r59 : ∀ k : Nat, k < 16 → 0 ≤ (f5 k).toInt ∧ (f5 k).toInt ≤ 5) (r69 : ∀ k : Nat, k < 16 → 0 ≤ (f6 k).toInt ∧ (f6 k).toInt ≤ 5) (r79 : ∀ k : Nat, k < 16 → 0 ≤ (f7 k).toInt ∧ (f7 k).toInt ≤ 999) (r89 : ∀ k : Nat, k < 16 → 0 ≤ (f8 k).toInt ∧ (f8 k).toInt ≤ 999) (r99 : ∀ k : Nat, k < 6 → (f9 k).toInt = (-1000) ∨ (100 ≤ (f9 k).toInt ∧ (f9 k).toInt ≤ 999)) (r109 : ∀ k : Nat, k < 288 → (f10 k).toInt = (-1000) ∨ ((-400) ≤ (f10 k).toInt ∧ (f10 k).toInt ≤ 400)) : Met l yX1_minutesOf wk_k_minutesOf ({ frames := 1, cells := 0, slots := 0, locals := 22 } : Room) (va_Pc [.ref h0, .int g, .int v, .int w] (Pw D cI cB cP sz [(h0, .inr (1, [.ref bk, .int fi, .int ff, .int ft, .int fd, .int fr, .int fw])), (bk, .inr (0, [.int lc, .int ln, .ref a2, .ref a3, .ref a4, .ref a5, .ref a6, .ref a7, .ref a8, .ref a9, .ref a10, .ref a11, .ref a12, .ref a13, .ref a14])), (a4, .inl (cI, 16, .inl f4)), (a5, .inl (cI, 16, .inl f5)), (a6, .inl (cI, 16, .inl f6)), (a7, .inl (cI, 16, .inl f7)), (a8, .inl (cI, 16, .inl f8)), (a9, .inl (cI, 6, .inl f9)), (a10, .inl (cI, 288, .inl f10))])) (va_Qi (fun (r : Int32) (_ : Unit) => (-1) ≤ r.toInt ∧ r.toInt ≤ 1300) (fun _ t => va_P D vwCl [(h0, .inr (1, [.ref bk, .int fi, .int ff, .int ft, .int fd, .int fr, .int fw])), (bk, .inr (0, [.int lc, .int ln, .ref a2, .ref a3, .ref a4, .ref a5, .ref a6, .ref a7, .ref a8, .ref a9, .ref a10, .ref a11, .ref a12, .ref a13, .ref a14])), (a4, .inl (cI, 16, .inl f4)), (a5, .inl (cI, 16, .inl f5)), (a6, .inl (cI, 16, .inl f6)), (a7, .inl (cI, 16, .inl f7)), (a8, .inl (cI, 16, .inl f8)), (a9, .inl (cI, 6, .inl f9)), (a10, .inl (cI, 288, .inl f10))] t.heap ∧ va_D (va_A [(h0, .inr (1, [.ref bk, .int fi, .int ff, .int ft, .int fd, .int fr, .int fw])), (bk, .inr (0, [.int lc, .int ln, .ref a2, .ref a3, .ref a4, .ref a5, .ref a6, .ref a7, .ref a8, .ref a9, .ref a10, .ref a11, .ref a12, .ref a13, .ref a14])), (a4, .inl (cI, 16, .inl f4)), (a5, .inl (cI, 16, .inl f5)), (a6, .inl (cI, 16, .inl f6)), (a7, .inl (cI, 16, .inl f7)), (a8, .inl (cI, 16, .inl f8)), (a9, .inl (cI, 6, .inl f9)), (a10, .inl (cI, 288, .inl f10))] sz) [(h0, .inr (1, [.ref bk, .int fi, .int ff, .int ft, .int fd, .int fr, .int fw])), (bk, .inr (0, [.int lc, .int ln, .ref a2, .ref a3, .ref a4, .ref a5, .ref a6, .ref a7, .ref a8, .ref a9, .ref a10, .ref a11, .ref a12, .ref a13, .ref a14])), (a4, .inl (cI, 16, .inl f4)), (a5, .inl (cI, 16, .inl f5)), (a6, .inl (cI, 16, .inl f6)), (a7, .inl (cI, 16, .inl f7)), (a8, .inl (cI, 16, .inl f8)), (a9, .inl (cI, 6, .inl f9)), (a10, .inl (cI, 288, .inl f10))]) (va_A [(h0, .inr (1, [.ref bk, .int fi, .int ff, .int ft, .int fd, .int fr, .int fw])), (bk, .inr (0, [.int lc, .int ln, .ref a2, .ref a3, .ref a4, .ref a5, .ref a6, .ref a7, .ref a8, .ref a9, .ref a10, .ref a11, .ref a12, .ref a13, .ref a14])), (a4, .inl (cI, 16, .inl f4)), (a5, .inl (cI, 16, .inl f5)), (a6, .inl (cI, 16, .inl f6)), (a7, .inl (cI, 16, .inl f7)), (a8, .inl (cI, 16, .inl f8)), (a9, .inl (cI, 6, .inl f9)), (a10, .inl (cI, 288, .inl f10))] sz)) 0 0 (va_A [(h0, .inr (1, [.ref bk, .int fi, .int ff, .int ft, .int fd, .int fr, .int fw])), (bk, .inr (0, [.int lc, .int ln, .ref a2, .ref a3, .ref a4, .ref a5, .ref a6, .ref a7, .ref a8, .ref a9, .ref a10, .ref a11, .ref a12, .ref a13, .ref a14])), (a4, .inl (cI, 16, .inl f4)), (a5, .inl (cI, 16, .inl f5)), (a6, .inl (cI, 16, .inl f6)), (a7, .inl (cI, 16, .inl f7)), (a8, .inl (cI, 16, .inl f8)), (a9, .inl (cI, 6, .inl f9)), (a10, .inl (cI, 288, .inl f10))] sz) := by
  refine Met.ofW (cc := cX1_minutesOf) (maxL := 6) (ret := (some .int)) (by decide) rfl ?_
  intro p e s m args below meth c s₁ B hml hv
  obtain ⟨rfl, hsz, hP, ⟨hK, hN⟩, hD0⟩ := hv
  have hx := B.exec
  have hb := B.bytes
  have hr := B.returns
  have hts := atoms_spec (ws := wk_k_minutesOf) B.pre
  have hown : s.vm.findClass RX1 = some m.cls := findClass_of_methodNamed B.named
  have hlocks := B.notSynchronized
  subst hsz
  have hD := hD0.self (sz := s.heap.size)
  generalize hAe : va_A [(h0, .inr (1, [.ref bk, .int fi, .int ff, .int ft, .int fd, .int fr, .int fw])), (bk, .inr (0, [.int lc, .int ln, .ref a2, .ref a3, .ref a4, .ref a5, .ref a6, .ref a7, .ref a8, .ref a9, .ref a10, .ref a11, .ref a12, .ref a13, .ref a14])), (a4, .inl (cI, 16, .inl f4)), (a5, .inl (cI, 16, .inl f5)), (a6, .inl (cI, 16, .inl f6)), (a7, .inl (cI, 16, .inl f7)), (a8, .inl (cI, 16, .inl f8)), (a9, .inl (cI, 6, .inl f9)), (a10, .inl (cI, 288, .inl f10))] s.heap.size = A at hD ⊢
  have hA : ∀ q : Nat, s.heap.size ≤ q → A q := fun q h => by rw [← hAe]; exact Or.inr h
  have hS : va_S A s.heap s.heap [] := va_S.rf
  have hP : va_P D vwCl [(h0, .inr (1, [.ref bk, .int fi, .int ff, .int ft, .int fd, .int fr, .int fw])), (bk, .inr (0, [.int lc, .int ln, .ref a2, .ref a3, .ref a4, .ref a5, .ref a6, .ref a7, .ref a8, .ref a9, .ref a10, .ref a11, .ref a12, .ref a13, .ref a14])), (a4, .inl (cI, 16, .inl f4)), (a5, .inl (cI, 16, .inl f5)), (a6, .inl (cI, 16, .inl f6)), (a7, .inl (cI, 16, .inl f7)), (a8, .inl (cI, 16, .inl f8)), (a9, .inl (cI, 6, .inl f9)), (a10, .inl (cI, 288, .inl f10))] s.heap := hP
  have hl := lv_entry ([.ref h0, .int g, .int v, .int w]) (n := 6) (Nat.le_of_ble_eq_true rfl)
  rw [lg_entry_eq]
  generalize (lg_sl ([.ref h0, .int g, .int v, .int w]) ++ List.replicate (6 - (lg_sl ([.ref h0, .int g, .int v, .int w])).length) Slot.unset).toArray = ls at hl ⊢
  have hl : lv_has ls 6 [(0, .ref h0), (1, .int g), (2, .int v), (3, .int w)] := hl
  refine lv_iload_n hx hb dX1_minutesOf_0 rfl (lv_at hl 2 rfl) ?_
  refine lv_aload_n hx hb dX1_minutesOf_1 rfl (lv_at hl 0 rfl) ?_
  refine va_get (D := D) (ci := 1) (v := .ref bk) (C := RX1) (T := TX1) (N := 7) hx hb hts iw_k_minutesOf_1 hown hK hP 0 rfl rfl 0 (by decide) (hts (.fieldLink RX1 9 "FlightDesk$Flight" "book" "LFlightDesk$Book;") (by decide +kernel)) (fun _ h9 => h9) rfl dX1_minutesOf_2 ?_
  refine va_get (D := D) (ci := 0) (v := .ref a5) (C := RX0) (T := TX0) (N := 15) hx hb hts iw_k_minutesOf_0 hown hK hP 1 rfl rfl 5 (by decide) (hts (.fieldLink RX1 41 "FlightDesk$Book" "lowest" "[I") (by decide +kernel)) (fun _ h9 => h9) rfl dX1_minutesOf_5 ?_
  refine lv_iload_n hx hb dX1_minutesOf_8 rfl (lv_at hl 1 rfl) ?_
  refine va_iald hx hb hK hP 3 0 rfl rfl (vp_in_iff.mpr ⟨show 0 ≤ g.toInt by omega, show g.toInt < ((16 : Nat) : Int) by omega⟩) dX1_minutesOf_9 ?_
  refine lv_topi (fun v1 ev1 => ?_)
  have tv1 : 0 ≤ v1.toInt ∧ v1.toInt ≤ 5 := by rw [ev1]; exact r59 _ (ck_lt (show 0 ≤ g.toInt by omega) (show g.toInt < ((16 : Nat) : Int) by omega))
  refine lv_icmp_lt (tgt := 62) hx hb dX1_minutesOf_10 (by decide) (fun c2 => ?_) (fun c2 => ?_)
  · have tc2 : v.toInt < v1.toInt := i32_lt c2
    refine lv_iconst (v := 0) hx hb dX1_minutesOf_62 (by decide) ?_
    refine lv_istore (lv' := [(4, .int 0), (0, .ref h0), (1, .int g), (2, .int v), (3, .int w)]) hx hb dX1_minutesOf_63 hl (by decide) rfl (fun ls hl => ?_)
    refine lv_aload_n hx hb dX1_minutesOf_65 rfl (lv_at hl 1 rfl) ?_
    refine va_get (D := D) (ci := 1) (v := .ref bk) (C := RX1) (T := TX1) (N := 7) hx hb hts iw_k_minutesOf_1 hown hK hP 0 rfl rfl 0 (by decide) (hts (.fieldLink RX1 9 "FlightDesk$Flight" "book" "LFlightDesk$Book;") (by decide +kernel)) (fun _ h9 => h9) rfl dX1_minutesOf_66 ?_
    refine va_get (D := D) (ci := 0) (v := .ref a9) (C := RX0) (T := TX0) (N := 15) hx hb hts iw_k_minutesOf_0 hown hK hP 1 rfl rfl 9 (by decide) (hts (.fieldLink RX1 53 "FlightDesk$Book" "speed" "[I") (by decide +kernel)) (fun _ h9 => h9) rfl dX1_minutesOf_69 ?_
    refine lv_iload_n hx hb dX1_minutesOf_72 rfl (lv_at hl 3 rfl) ?_
    refine va_iald hx hb hK hP 7 0 rfl rfl (vp_in_iff.mpr ⟨show 0 ≤ v.toInt by omega, show v.toInt < ((6 : Nat) : Int) by omega⟩) dX1_minutesOf_73 ?_
    refine lv_topi (fun v3 ev3 => ?_)
    have tv3 : v3.toInt = (-1000) ∨ (100 ≤ v3.toInt ∧ v3.toInt ≤ 999) := by rw [ev3]; exact r99 _ (ck_lt (show 0 ≤ v.toInt by omega) (show v.toInt < ((6 : Nat) : Int) by omega))
    refine lv_aload_n hx hb dX1_minutesOf_74 rfl (lv_at hl 1 rfl) ?_
    refine va_get (D := D) (ci := 1) (v := .ref bk) (C := RX1) (T := TX1) (N := 7) hx hb hts iw_k_minutesOf_1 hown hK hP 0 rfl rfl 0 (by decide) (hts (.fieldLink RX1 9 "FlightDesk$Flight" "book" "LFlightDesk$Book;") (by decide +kernel)) (fun _ h9 => h9) rfl dX1_minutesOf_75 ?_
    refine va_get (D := D) (ci := 0) (v := .ref a10) (C := RX0) (T := TX0) (N := 15) hx hb hts iw_k_minutesOf_0 hown hK hP 1 rfl rfl 10 (by decide) (hts (.fieldLink RX1 56 "FlightDesk$Book" "wind" "[I") (by decide +kernel)) (fun _ h9 => h9) rfl dX1_minutesOf_78 ?_
    refine lv_iload_n hx hb dX1_minutesOf_81 rfl (lv_at hl 4 rfl) ?_
    refine lv_iload_n hx hb dX1_minutesOf_82 rfl (lv_at hl 3 rfl) ?_
    refine lv_iload_n hx hb dX1_minutesOf_83 rfl (lv_at hl 2 rfl) ?_
    have hPc := hP.sub (ws' := []) [] rfl
    have hDc := hD.sub (ws' := []) [] (by decide) rfl
    have hFc := va_free (wc := []) hD hS hA [] rfl
    refine va_calli (va_runSN (As := [.int w, .int v, .int g]) (rest := [.ref a10, .int v3]) ⟨hx, hb, hml, hown, hts⟩ (k_windIndex l D cI cB cP s.heap.size w v g (show 0 ≤ w.toInt ∧ w.toInt ≤ 1000 by first | assumption | omega | decide) (show 0 ≤ v.toInt ∧ v.toInt ≤ 1000 by first | assumption | omega | decide) (show 0 ≤ g.toInt ∧ g.toInt ≤ 1000 by first | assumption | omega | decide)) ⟨va_cnB 3 hts gw_k_minutesOf_0 rfl rfl rfl (hN.2.2.1) (hts (.initialized RX7) (by decide +kernel)) (by decide +kernel) ⟨Nat.le_of_ble_eq_true rfl, Nat.le_of_ble_eq_true rfl⟩, (hts (.static yX7_windIndex) (by decide +kernel)), trivial⟩ ⟨ny_blind, ny_pre hPc hK hN hDc⟩ rfl rfl hl.1 rfl (lv_room (Nat.le_of_ble_eq_true rfl)) dX1_minutesOf_84 ⟨Nat.le_of_ble_eq_true rfl, Nat.le_of_ble_eq_true rfl⟩) hS (fun q _ h => hFc q h) hFc (fun r4 u t H locs ht hvm hw hB hz1 hk1 hS => ?_)
    obtain ⟨hP, hD⟩ := va_join (wr := [(h0, .inr (1, [.ref bk, .int fi, .int ff, .int ft, .int fd, .int fr, .int fw])), (bk, .inr (0, [.int lc, .int ln, .ref a2, .ref a3, .ref a4, .ref a5, .ref a6, .ref a7, .ref a8, .ref a9, .ref a10, .ref a11, .ref a12, .ref a13, .ref a14])), (a4, .inl (cI, 16, .inl f4)), (a5, .inl (cI, 16, .inl f5)), (a6, .inl (cI, 16, .inl f6)), (a7, .inl (cI, 16, .inl f7)), (a8, .inl (cI, 16, .inl f8)), (a9, .inl (cI, 6, .inl f9)), (a10, .inl (cI, 288, .inl f10))]) (w1 := []) hP hD [] [0, 1, 2, 3, 4, 5, 6, 7, 8] rfl rfl (by decide) (by decide) hk1 hFc ny_P0 ny_D0
    have hP : va_P D vwCl [(h0, .inr (1, [.ref bk, .int fi, .int ff, .int ft, .int fd, .int fr, .int fw])), (bk, .inr (0, [.int lc, .int ln, .ref a2, .ref a3, .ref a4, .ref a5, .ref a6, .ref a7, .ref a8, .ref a9, .ref a10, .ref a11, .ref a12, .ref a13, .ref a14])), (a4, .inl (cI, 16, .inl f4)), (a5, .inl (cI, 16, .inl f5)), (a6, .inl (cI, 16, .inl f6)), (a7, .inl (cI, 16, .inl f7)), (a8, .inl (cI, 16, .inl f8)), (a9, .inl (cI, 6, .inl f9)), (a10, .inl (cI, 288, .inl f10))] H := hP
    have hD : va_D A [(h0, .inr (1, [.ref bk, .int fi, .int ff, .int ft, .int fd, .int fr, .int fw])), (bk, .inr (0, [.int lc, .int ln, .ref a2, .ref a3, .ref a4, .ref a5, .ref a6, .ref a7, .ref a8, .ref a9, .ref a10, .ref a11, .ref a12, .ref a13, .ref a14])), (a4, .inl (cI, 16, .inl f4)), (a5, .inl (cI, 16, .inl f5)), (a6, .inl (cI, 16, .inl f6)), (a7, .inl (cI, 16, .inl f7)), (a8, .inl (cI, 16, .inl f8)), (a9, .inl (cI, 6, .inl f9)), (a10, .inl (cI, 288, .inl f10))] := hD
    have hr4 : r4.toInt = (w.toInt * 6 + v.toInt) * 16 + g.toInt := hw
    refine va_iald hx hb hK hP 8 0 rfl rfl (vp_in_iff.mpr ⟨show 0 ≤ r4.toInt by omega, show r4.toInt < ((288 : Nat) : Int) by omega⟩) dX1_minutesOf_87 ?_
    refine lv_topi (fun v5 ev5 => ?_)
    have tv5 : v5.toInt = (-1000) ∨ ((-400) ≤ v5.toInt ∧ v5.toInt ≤ 400) := by rw [ev5]; exact r109 _ (ck_lt (show 0 ≤ r4.toInt by omega) (show r4.toInt < ((288 : Nat) : Int) by omega))
    refine lv_iadd hx hb dX1_minutesOf_88 ?_
    refine lv_topi (fun v6 ev6 => ?_)
    have tv6 : v6.toInt = v3.toInt + v5.toInt := (by have q9 : v6.toInt = (v3.toInt + v5.toInt + 2147483648) % 4294967296 - 2147483648 := i32_add ev6; omega)
    refine lv_istore (lv' := [(5, .int v6), (4, .int 0), (0, .ref h0), (1, .int g), (2, .int v), (3, .int w)]) hx hb dX1_minutesOf_89 hl (by decide) rfl (fun ls hl => ?_)
    refine lv_iload hx hb dX1_minutesOf_91 (lv_at hl 1 rfl) ?_
    refine lv_if_eq (tgt := 103) hx hb dX1_minutesOf_93 (by decide) (fun c7 => ?_) (fun h9 => (by first | exact absurd h9 (by decide) | exact absurd (by decide) h9))
    refine lv_iconst (v := (-1)) hx hb dX1_minutesOf_103 (by decide) ?_
    have hP9 := hP.sub (ws' := [(h0, .inr (1, [.ref bk, .int fi, .int ff, .int ft, .int fd, .int fr, .int fw])), (bk, .inr (0, [.int lc, .int ln, .ref a2, .ref a3, .ref a4, .ref a5, .ref a6, .ref a7, .ref a8, .ref a9, .ref a10, .ref a11, .ref a12, .ref a13, .ref a14])), (a4, .inl (cI, 16, .inl f4)), (a5, .inl (cI, 16, .inl f5)), (a6, .inl (cI, 16, .inl f6)), (a7, .inl (cI, 16, .inl f7)), (a8, .inl (cI, 16, .inl f8)), (a9, .inl (cI, 6, .inl f9)), (a10, .inl (cI, 288, .inl f10))]) [0, 1, 2, 3, 4, 5, 6, 7, 8] rfl
    have hD9 := hD.sub (ws' := [(h0, .inr (1, [.ref bk, .int fi, .int ff, .int ft, .int fd, .int fr, .int fw])), (bk, .inr (0, [.int lc, .int ln, .ref a2, .ref a3, .ref a4, .ref a5, .ref a6, .ref a7, .ref a8, .ref a9, .ref a10, .ref a11, .ref a12, .ref a13, .ref a14])), (a4, .inl (cI, 16, .inl f4)), (a5, .inl (cI, 16, .inl f5)), (a6, .inl (cI, 16, .inl f6)), (a7, .inl (cI, 16, .inl f7)), (a8, .inl (cI, 16, .inl f8)), (a9, .inl (cI, 6, .inl f9)), (a10, .inl (cI, 288, .inl f10))]) [0, 1, 2, 3, 4, 5, 6, 7, 8] (by decide) rfl
    refine W.widen (k := 0) (n := 0) (by decide) (by decide) ?_
    exact W.iret (v := (-1)) hx hb hr (fun t ht hW => ⟨⟨(-1), (), rfl, (show (-1) ≤ (-1) ∧ (-1) ≤ 1300 by first | assumption | omega | trivial | decide), by rw [ht]; exact hP9, hD9⟩, hS.F ht⟩) hS.2.2 dX1_minutesOf_104
  · have tc2 : ¬ (v.toInt < v1.toInt) := i32_nlt c2
    refine lv_iload_n hx hb dX1_minutesOf_13 rfl (lv_at hl 2 rfl) ?_
    refine lv_aload_n hx hb dX1_minutesOf_14 rfl (lv_at hl 0 rfl) ?_
    refine va_get (D := D) (ci := 1) (v := .ref bk) (C := RX1) (T := TX1) (N := 7) hx hb hts iw_k_minutesOf_1 hown hK hP 0 rfl rfl 0 (by decide) (hts (.fieldLink RX1 9 "FlightDesk$Flight" "book" "LFlightDesk$Book;") (by decide +kernel)) (fun _ h9 => h9) rfl dX1_minutesOf_15 ?_
    refine va_get (D := D) (ci := 0) (v := .ref a6) (C := RX0) (T := TX0) (N := 15) hx hb hts iw_k_minutesOf_0 hown hK hP 1 rfl rfl 6 (by decide) (hts (.fieldLink RX1 44 "FlightDesk$Book" "highest" "[I") (by decide +kernel)) (fun _ h9 => h9) rfl dX1_minutesOf_18 ?_
    refine lv_iload_n hx hb dX1_minutesOf_21 rfl (lv_at hl 1 rfl) ?_
    refine va_iald hx hb hK hP 4 0 rfl rfl (vp_in_iff.mpr ⟨show 0 ≤ g.toInt by omega, show g.toInt < ((16 : Nat) : Int) by omega⟩) dX1_minutesOf_22 ?_
    refine lv_topi (fun v8 ev8 => ?_)
    have tv8 : 0 ≤ v8.toInt ∧ v8.toInt ≤ 5 := by rw [ev8]; exact r69 _ (ck_lt (show 0 ≤ g.toInt by omega) (show g.toInt < ((16 : Nat) : Int) by omega))
    refine lv_icmp_gt (tgt := 62) hx hb dX1_minutesOf_23 (by decide) (fun c9 => ?_) (fun c9 => ?_)
    · have tc9 : v8.toInt < v.toInt := i32_lt c9
      refine lv_iconst (v := 0) hx hb dX1_minutesOf_62 (by decide) ?_
      refine lv_istore (lv' := [(4, .int 0), (0, .ref h0), (1, .int g), (2, .int v), (3, .int w)]) hx hb dX1_minutesOf_63 hl (by decide) rfl (fun ls hl => ?_)
      refine lv_aload_n hx hb dX1_minutesOf_65 rfl (lv_at hl 1 rfl) ?_
      refine va_get (D := D) (ci := 1) (v := .ref bk) (C := RX1) (T := TX1) (N := 7) hx hb hts iw_k_minutesOf_1 hown hK hP 0 rfl rfl 0 (by decide) (hts (.fieldLink RX1 9 "FlightDesk$Flight" "book" "LFlightDesk$Book;") (by decide +kernel)) (fun _ h9 => h9) rfl dX1_minutesOf_66 ?_
      refine va_get (D := D) (ci := 0) (v := .ref a9) (C := RX0) (T := TX0) (N := 15) hx hb hts iw_k_minutesOf_0 hown hK hP 1 rfl rfl 9 (by decide) (hts (.fieldLink RX1 53 "FlightDesk$Book" "speed" "[I") (by decide +kernel)) (fun _ h9 => h9) rfl dX1_minutesOf_69 ?_
      refine lv_iload_n hx hb dX1_minutesOf_72 rfl (lv_at hl 3 rfl) ?_
      refine va_iald hx hb hK hP 7 0 rfl rfl (vp_in_iff.mpr ⟨show 0 ≤ v.toInt by omega, show v.toInt < ((6 : Nat) : Int) by omega⟩) dX1_minutesOf_73 ?_
      refine lv_topi (fun v10 ev10 => ?_)
      have tv10 : v10.toInt = (-1000) ∨ (100 ≤ v10.toInt ∧ v10.toInt ≤ 999) := by rw [ev10]; exact r99 _ (ck_lt (show 0 ≤ v.toInt by omega) (show v.toInt < ((6 : Nat) : Int) by omega))
      refine lv_aload_n hx hb dX1_minutesOf_74 rfl (lv_at hl 1 rfl) ?_
      refine va_get (D := D) (ci := 1) (v := .ref bk) (C := RX1) (T := TX1) (N := 7) hx hb hts iw_k_minutesOf_1 hown hK hP 0 rfl rfl 0 (by decide) (hts (.fieldLink RX1 9 "FlightDesk$Flight" "book" "LFlightDesk$Book;") (by decide +kernel)) (fun _ h9 => h9) rfl dX1_minutesOf_75 ?_
      refine va_get (D := D) (ci := 0) (v := .ref a10) (C := RX0) (T := TX0) (N := 15) hx hb hts iw_k_minutesOf_0 hown hK hP 1 rfl rfl 10 (by decide) (hts (.fieldLink RX1 56 "FlightDesk$Book" "wind" "[I") (by decide +kernel)) (fun _ h9 => h9) rfl dX1_minutesOf_78 ?_
      refine lv_iload_n hx hb dX1_minutesOf_81 rfl (lv_at hl 4 rfl) ?_
      refine lv_iload_n hx hb dX1_minutesOf_82 rfl (lv_at hl 3 rfl) ?_
      refine lv_iload_n hx hb dX1_minutesOf_83 rfl (lv_at hl 2 rfl) ?_
      have hPc := hP.sub (ws' := []) [] rfl
      have hDc := hD.sub (ws' := []) [] (by decide) rfl
      have hFc := va_free (wc := []) hD hS hA [] rfl
      refine va_calli (va_runSN (As := [.int w, .int v, .int g]) (rest := [.ref a10, .int v10]) ⟨hx, hb, hml, hown, hts⟩ (k_windIndex l D cI cB cP s.heap.size w v g (show 0 ≤ w.toInt ∧ w.toInt ≤ 1000 by first | assumption | omega | decide) (show 0 ≤ v.toInt ∧ v.toInt ≤ 1000 by first | assumption | omega | decide) (show 0 ≤ g.toInt ∧ g.toInt ≤ 1000 by first | assumption | omega | decide)) ⟨va_cnB 3 hts gw_k_minutesOf_0 rfl rfl rfl (hN.2.2.1) (hts (.initialized RX7) (by decide +kernel)) (by decide +kernel) ⟨Nat.le_of_ble_eq_true rfl, Nat.le_of_ble_eq_true rfl⟩, (hts (.static yX7_windIndex) (by decide +kernel)), trivial⟩ ⟨ny_blind, ny_pre hPc hK hN hDc⟩ rfl rfl hl.1 rfl (lv_room (Nat.le_of_ble_eq_true rfl)) dX1_minutesOf_84 ⟨Nat.le_of_ble_eq_true rfl, Nat.le_of_ble_eq_true rfl⟩) hS (fun q _ h => hFc q h) hFc (fun r11 u t H locs ht hvm hw hB hz1 hk1 hS => ?_)
      obtain ⟨hP, hD⟩ := va_join (wr := [(h0, .inr (1, [.ref bk, .int fi, .int ff, .int ft, .int fd, .int fr, .int fw])), (bk, .inr (0, [.int lc, .int ln, .ref a2, .ref a3, .ref a4, .ref a5, .ref a6, .ref a7, .ref a8, .ref a9, .ref a10, .ref a11, .ref a12, .ref a13, .ref a14])), (a4, .inl (cI, 16, .inl f4)), (a5, .inl (cI, 16, .inl f5)), (a6, .inl (cI, 16, .inl f6)), (a7, .inl (cI, 16, .inl f7)), (a8, .inl (cI, 16, .inl f8)), (a9, .inl (cI, 6, .inl f9)), (a10, .inl (cI, 288, .inl f10))]) (w1 := []) hP hD [] [0, 1, 2, 3, 4, 5, 6, 7, 8] rfl rfl (by decide) (by decide) hk1 hFc ny_P0 ny_D0
      have hP : va_P D vwCl [(h0, .inr (1, [.ref bk, .int fi, .int ff, .int ft, .int fd, .int fr, .int fw])), (bk, .inr (0, [.int lc, .int ln, .ref a2, .ref a3, .ref a4, .ref a5, .ref a6, .ref a7, .ref a8, .ref a9, .ref a10, .ref a11, .ref a12, .ref a13, .ref a14])), (a4, .inl (cI, 16, .inl f4)), (a5, .inl (cI, 16, .inl f5)), (a6, .inl (cI, 16, .inl f6)), (a7, .inl (cI, 16, .inl f7)), (a8, .inl (cI, 16, .inl f8)), (a9, .inl (cI, 6, .inl f9)), (a10, .inl (cI, 288, .inl f10))] H := hP
      have hD : va_D A [(h0, .inr (1, [.ref bk, .int fi, .int ff, .int ft, .int fd, .int fr, .int fw])), (bk, .inr (0, [.int lc, .int ln, .ref a2, .ref a3, .ref a4, .ref a5, .ref a6, .ref a7, .ref a8, .ref a9, .ref a10, .ref a11, .ref a12, .ref a13, .ref a14])), (a4, .inl (cI, 16, .inl f4)), (a5, .inl (cI, 16, .inl f5)), (a6, .inl (cI, 16, .inl f6)), (a7, .inl (cI, 16, .inl f7)), (a8, .inl (cI, 16, .inl f8)), (a9, .inl (cI, 6, .inl f9)), (a10, .inl (cI, 288, .inl f10))] := hD
      have hr11 : r11.toInt = (w.toInt * 6 + v.toInt) * 16 + g.toInt := hw
      refine va_iald hx hb hK hP 8 0 rfl rfl (vp_in_iff.mpr ⟨show 0 ≤ r11.toInt by omega, show r11.toInt < ((288 : Nat) : Int) by omega⟩) dX1_minutesOf_87 ?_
      refine lv_topi (fun v12 ev12 => ?_)
      have tv12 : v12.toInt = (-1000) ∨ ((-400) ≤ v12.toInt ∧ v12.toInt ≤ 400) := by rw [ev12]; exact r109 _ (ck_lt (show 0 ≤ r11.toInt by omega) (show r11.toInt < ((288 : Nat) : Int) by omega))
      refine lv_iadd hx hb dX1_minutesOf_88 ?_
      refine lv_topi (fun v13 ev13 => ?_)
      have tv13 : v13.toInt = v10.toInt + v12.toInt := (by have q9 : v13.toInt = (v10.toInt + v12.toInt + 2147483648) % 4294967296 - 2147483648 := i32_add ev13; omega)
      refine lv_istore (lv' := [(5, .int v13), (4, .int 0), (0, .ref h0), (1, .int g), (2, .int v), (3, .int w)]) hx hb dX1_minutesOf_89 hl (by decide) rfl (fun ls hl => ?_)
      refine lv_iload hx hb dX1_minutesOf_91 (lv_at hl 1 rfl) ?_
      refine lv_if_eq (tgt := 103) hx hb dX1_minutesOf_93 (by decide) (fun c14 => ?_) (fun h9 => (by first | exact absurd h9 (by decide) | exact absurd (by decide) h9))
      refine lv_iconst (v := (-1)) hx hb dX1_minutesOf_103 (by decide) ?_
      have hP9 := hP.sub (ws' := [(h0, .inr (1, [.ref bk, .int fi, .int ff, .int ft, .int fd, .int fr, .int fw])), (bk, .inr (0, [.int lc, .int ln, .ref a2, .ref a3, .ref a4, .ref a5, .ref a6, .ref a7, .ref a8, .ref a9, .ref a10, .ref a11, .ref a12, .ref a13, .ref a14])), (a4, .inl (cI, 16, .inl f4)), (a5, .inl (cI, 16, .inl f5)), (a6, .inl (cI, 16, .inl f6)), (a7, .inl (cI, 16, .inl f7)), (a8, .inl (cI, 16, .inl f8)), (a9, .inl (cI, 6, .inl f9)), (a10, .inl (cI, 288, .inl f10))]) [0, 1, 2, 3, 4, 5, 6, 7, 8] rfl
      have hD9 := hD.sub (ws' := [(h0, .inr (1, [.ref bk, .int fi, .int ff, .int ft, .int fd, .int fr, .int fw])), (bk, .inr (0, [.int lc, .int ln, .ref a2, .ref a3, .ref a4, .ref a5, .ref a6, .ref a7, .ref a8, .ref a9, .ref a10, .ref a11, .ref a12, .ref a13, .ref a14])), (a4, .inl (cI, 16, .inl f4)), (a5, .inl (cI, 16, .inl f5)), (a6, .inl (cI, 16, .inl f6)), (a7, .inl (cI, 16, .inl f7)), (a8, .inl (cI, 16, .inl f8)), (a9, .inl (cI, 6, .inl f9)), (a10, .inl (cI, 288, .inl f10))]) [0, 1, 2, 3, 4, 5, 6, 7, 8] (by decide) rfl
      refine W.widen (k := 0) (n := 0) (by decide) (by decide) ?_
      exact W.iret (v := (-1)) hx hb hr (fun t ht hW => ⟨⟨(-1), (), rfl, (show (-1) ≤ (-1) ∧ (-1) ≤ 1300 by first | assumption | omega | trivial | decide), by rw [ht]; exact hP9, hD9⟩, hS.F ht⟩) hS.2.2 dX1_minutesOf_104
    · have tc9 : ¬ (v8.toInt < v.toInt) := i32_nlt c9
      refine lv_aload_n hx hb dX1_minutesOf_26 rfl (lv_at hl 0 rfl) ?_
      refine va_get (D := D) (ci := 1) (v := .int fd) (C := RX1) (T := TX1) (N := 7) hx hb hts iw_k_minutesOf_1 hown hK hP 0 rfl rfl 4 (by decide) (hts (.fieldLink RX1 26 "FlightDesk$Flight" "day" "I") (by decide +kernel)) (fun _ h9 => h9) rfl dX1_minutesOf_27 ?_
      refine lv_aload_n hx hb dX1_minutesOf_30 rfl (lv_at hl 0 rfl) ?_
      refine va_get (D := D) (ci := 1) (v := .ref bk) (C := RX1) (T := TX1) (N := 7) hx hb hts iw_k_minutesOf_1 hown hK hP 0 rfl rfl 0 (by decide) (hts (.fieldLink RX1 9 "FlightDesk$Flight" "book" "LFlightDesk$Book;") (by decide +kernel)) (fun _ h9 => h9) rfl dX1_minutesOf_31 ?_
      refine va_get (D := D) (ci := 0) (v := .ref a7) (C := RX0) (T := TX0) (N := 15) hx hb hts iw_k_minutesOf_0 hown hK hP 1 rfl rfl 7 (by decide) (hts (.fieldLink RX1 47 "FlightDesk$Book" "firstDay" "[I") (by decide +kernel)) (fun _ h9 => h9) rfl dX1_minutesOf_34 ?_
      refine lv_iload_n hx hb dX1_minutesOf_37 rfl (lv_at hl 1 rfl) ?_
      refine va_iald hx hb hK hP 5 0 rfl rfl (vp_in_iff.mpr ⟨show 0 ≤ g.toInt by omega, show g.toInt < ((16 : Nat) : Int) by omega⟩) dX1_minutesOf_38 ?_
      refine lv_topi (fun v15 ev15 => ?_)
      have tv15 : 0 ≤ v15.toInt ∧ v15.toInt ≤ 999 := by rw [ev15]; exact r79 _ (ck_lt (show 0 ≤ g.toInt by omega) (show g.toInt < ((16 : Nat) : Int) by omega))
      refine lv_icmp_lt (tgt := 62) hx hb dX1_minutesOf_39 (by decide) (fun c16 => ?_) (fun c16 => ?_)
      · have tc16 : fd.toInt < v15.toInt := i32_lt c16
        refine lv_iconst (v := 0) hx hb dX1_minutesOf_62 (by decide) ?_
        refine lv_istore (lv' := [(4, .int 0), (0, .ref h0), (1, .int g), (2, .int v), (3, .int w)]) hx hb dX1_minutesOf_63 hl (by decide) rfl (fun ls hl => ?_)
        refine lv_aload_n hx hb dX1_minutesOf_65 rfl (lv_at hl 1 rfl) ?_
        refine va_get (D := D) (ci := 1) (v := .ref bk) (C := RX1) (T := TX1) (N := 7) hx hb hts iw_k_minutesOf_1 hown hK hP 0 rfl rfl 0 (by decide) (hts (.fieldLink RX1 9 "FlightDesk$Flight" "book" "LFlightDesk$Book;") (by decide +kernel)) (fun _ h9 => h9) rfl dX1_minutesOf_66 ?_
        refine va_get (D := D) (ci := 0) (v := .ref a9) (C := RX0) (T := TX0) (N := 15) hx hb hts iw_k_minutesOf_0 hown hK hP 1 rfl rfl 9 (by decide) (hts (.fieldLink RX1 53 "FlightDesk$Book" "speed" "[I") (by decide +kernel)) (fun _ h9 => h9) rfl dX1_minutesOf_69 ?_
        refine lv_iload_n hx hb dX1_minutesOf_72 rfl (lv_at hl 3 rfl) ?_
        refine va_iald hx hb hK hP 7 0 rfl rfl (vp_in_iff.mpr ⟨show 0 ≤ v.toInt by omega, show v.toInt < ((6 : Nat) : Int) by omega⟩) dX1_minutesOf_73 ?_
        refine lv_topi (fun v17 ev17 => ?_)
        have tv17 : v17.toInt = (-1000) ∨ (100 ≤ v17.toInt ∧ v17.toInt ≤ 999) := by rw [ev17]; exact r99 _ (ck_lt (show 0 ≤ v.toInt by omega) (show v.toInt < ((6 : Nat) : Int) by omega))
        refine lv_aload_n hx hb dX1_minutesOf_74 rfl (lv_at hl 1 rfl) ?_
        refine va_get (D := D) (ci := 1) (v := .ref bk) (C := RX1) (T := TX1) (N := 7) hx hb hts iw_k_minutesOf_1 hown hK hP 0 rfl rfl 0 (by decide) (hts (.fieldLink RX1 9 "FlightDesk$Flight" "book" "LFlightDesk$Book;") (by decide +kernel)) (fun _ h9 => h9) rfl dX1_minutesOf_75 ?_
        refine va_get (D := D) (ci := 0) (v := .ref a10) (C := RX0) (T := TX0) (N := 15) hx hb hts iw_k_minutesOf_0 hown hK hP 1 rfl rfl 10 (by decide) (hts (.fieldLink RX1 56 "FlightDesk$Book" "wind" "[I") (by decide +kernel)) (fun _ h9 => h9) rfl dX1_minutesOf_78 ?_
        refine lv_iload_n hx hb dX1_minutesOf_81 rfl (lv_at hl 4 rfl) ?_
        refine lv_iload_n hx hb dX1_minutesOf_82 rfl (lv_at hl 3 rfl) ?_
        refine lv_iload_n hx hb dX1_minutesOf_83 rfl (lv_at hl 2 rfl) ?_
        have hPc := hP.sub (ws' := []) [] rfl
        have hDc := hD.sub (ws' := []) [] (by decide) rfl
        have hFc := va_free (wc := []) hD hS hA [] rfl
        refine va_calli (va_runSN (As := [.int w, .int v, .int g]) (rest := [.ref a10, .int v17]) ⟨hx, hb, hml, hown, hts⟩ (k_windIndex l D cI cB cP s.heap.size w v g (show 0 ≤ w.toInt ∧ w.toInt ≤ 1000 by first | assumption | omega | decide) (show 0 ≤ v.toInt ∧ v.toInt ≤ 1000 by first | assumption | omega | decide) (show 0 ≤ g.toInt ∧ g.toInt ≤ 1000 by first | assumption | omega | decide)) ⟨va_cnB 3 hts gw_k_minutesOf_0 rfl rfl rfl (hN.2.2.1) (hts (.initialized RX7) (by decide +kernel)) (by decide +kernel) ⟨Nat.le_of_ble_eq_true rfl, Nat.le_of_ble_eq_true rfl⟩, (hts (.static yX7_windIndex) (by decide +kernel)), trivial⟩ ⟨ny_blind, ny_pre hPc hK hN hDc⟩ rfl rfl hl.1 rfl (lv_room (Nat.le_of_ble_eq_true rfl)) dX1_minutesOf_84 ⟨Nat.le_of_ble_eq_true rfl, Nat.le_of_ble_eq_true rfl⟩) hS (fun q _ h => hFc q h) hFc (fun r18 u t H locs ht hvm hw hB hz1 hk1 hS => ?_)
        obtain ⟨hP, hD⟩ := va_join (wr := [(h0, .inr (1, [.ref bk, .int fi, .int ff, .int ft, .int fd, .int fr, .int fw])), (bk, .inr (0, [.int lc, .int ln, .ref a2, .ref a3, .ref a4, .ref a5, .ref a6, .ref a7, .ref a8, .ref a9, .ref a10, .ref a11, .ref a12, .ref a13, .ref a14])), (a4, .inl (cI, 16, .inl f4)), (a5, .inl (cI, 16, .inl f5)), (a6, .inl (cI, 16, .inl f6)), (a7, .inl (cI, 16, .inl f7)), (a8, .inl (cI, 16, .inl f8)), (a9, .inl (cI, 6, .inl f9)), (a10, .inl (cI, 288, .inl f10))]) (w1 := []) hP hD [] [0, 1, 2, 3, 4, 5, 6, 7, 8] rfl rfl (by decide) (by decide) hk1 hFc ny_P0 ny_D0
        have hP : va_P D vwCl [(h0, .inr (1, [.ref bk, .int fi, .int ff, .int ft, .int fd, .int fr, .int fw])), (bk, .inr (0, [.int lc, .int ln, .ref a2, .ref a3, .ref a4, .ref a5, .ref a6, .ref a7, .ref a8, .ref a9, .ref a10, .ref a11, .ref a12, .ref a13, .ref a14])), (a4, .inl (cI, 16, .inl f4)), (a5, .inl (cI, 16, .inl f5)), (a6, .inl (cI, 16, .inl f6)), (a7, .inl (cI, 16, .inl f7)), (a8, .inl (cI, 16, .inl f8)), (a9, .inl (cI, 6, .inl f9)), (a10, .inl (cI, 288, .inl f10))] H := hP
        have hD : va_D A [(h0, .inr (1, [.ref bk, .int fi, .int ff, .int ft, .int fd, .int fr, .int fw])), (bk, .inr (0, [.int lc, .int ln, .ref a2, .ref a3, .ref a4, .ref a5, .ref a6, .ref a7, .ref a8, .ref a9, .ref a10, .ref a11, .ref a12, .ref a13, .ref a14])), (a4, .inl (cI, 16, .inl f4)), (a5, .inl (cI, 16, .inl f5)), (a6, .inl (cI, 16, .inl f6)), (a7, .inl (cI, 16, .inl f7)), (a8, .inl (cI, 16, .inl f8)), (a9, .inl (cI, 6, .inl f9)), (a10, .inl (cI, 288, .inl f10))] := hD
        have hr18 : r18.toInt = (w.toInt * 6 + v.toInt) * 16 + g.toInt := hw
        refine va_iald hx hb hK hP 8 0 rfl rfl (vp_in_iff.mpr ⟨show 0 ≤ r18.toInt by omega, show r18.toInt < ((288 : Nat) : Int) by omega⟩) dX1_minutesOf_87 ?_
        refine lv_topi (fun v19 ev19 => ?_)
        have tv19 : v19.toInt = (-1000) ∨ ((-400) ≤ v19.toInt ∧ v19.toInt ≤ 400) := by rw [ev19]; exact r109 _ (ck_lt (show 0 ≤ r18.toInt by omega) (show r18.toInt < ((288 : Nat) : Int) by omega))
        refine lv_iadd hx hb dX1_minutesOf_88 ?_
        refine lv_topi (fun v20 ev20 => ?_)
        have tv20 : v20.toInt = v17.toInt + v19.toInt := (by have q9 : v20.toInt = (v17.toInt + v19.toInt + 2147483648) % 4294967296 - 2147483648 := i32_add ev20; omega)
        refine lv_istore (lv' := [(5, .int v20), (4, .int 0), (0, .ref h0), (1, .int g), (2, .int v), (3, .int w)]) hx hb dX1_minutesOf_89 hl (by decide) rfl (fun ls hl => ?_)
        refine lv_iload hx hb dX1_minutesOf_91 (lv_at hl 1 rfl) ?_
        refine lv_if_eq (tgt := 103) hx hb dX1_minutesOf_93 (by decide) (fun c21 => ?_) (fun h9 => (by first | exact absurd h9 (by decide) | exact absurd (by decide) h9))
        refine lv_iconst (v := (-1)) hx hb dX1_minutesOf_103 (by decide) ?_
        have hP9 := hP.sub (ws' := [(h0, .inr (1, [.ref bk, .int fi, .int ff, .int ft, .int fd, .int fr, .int fw])), (bk, .inr (0, [.int lc, .int ln, .ref a2, .ref a3, .ref a4, .ref a5, .ref a6, .ref a7, .ref a8, .ref a9, .ref a10, .ref a11, .ref a12, .ref a13, .ref a14])), (a4, .inl (cI, 16, .inl f4)), (a5, .inl (cI, 16, .inl f5)), (a6, .inl (cI, 16, .inl f6)), (a7, .inl (cI, 16, .inl f7)), (a8, .inl (cI, 16, .inl f8)), (a9, .inl (cI, 6, .inl f9)), (a10, .inl (cI, 288, .inl f10))]) [0, 1, 2, 3, 4, 5, 6, 7, 8] rfl
        have hD9 := hD.sub (ws' := [(h0, .inr (1, [.ref bk, .int fi, .int ff, .int ft, .int fd, .int fr, .int fw])), (bk, .inr (0, [.int lc, .int ln, .ref a2, .ref a3, .ref a4, .ref a5, .ref a6, .ref a7, .ref a8, .ref a9, .ref a10, .ref a11, .ref a12, .ref a13, .ref a14])), (a4, .inl (cI, 16, .inl f4)), (a5, .inl (cI, 16, .inl f5)), (a6, .inl (cI, 16, .inl f6)), (a7, .inl (cI, 16, .inl f7)), (a8, .inl (cI, 16, .inl f8)), (a9, .inl (cI, 6, .inl f9)), (a10, .inl (cI, 288, .inl f10))]) [0, 1, 2, 3, 4, 5, 6, 7, 8] (by decide) rfl
        refine W.widen (k := 0) (n := 0) (by decide) (by decide) ?_
        exact W.iret (v := (-1)) hx hb hr (fun t ht hW => ⟨⟨(-1), (), rfl, (show (-1) ≤ (-1) ∧ (-1) ≤ 1300 by first | assumption | omega | trivial | decide), by rw [ht]; exact hP9, hD9⟩, hS.F ht⟩) hS.2.2 dX1_minutesOf_104
      · have tc16 : ¬ (fd.toInt < v15.toInt) := i32_nlt c16
        refine lv_aload_n hx hb dX1_minutesOf_42 rfl (lv_at hl 0 rfl) ?_
        refine va_get (D := D) (ci := 1) (v := .int fd) (C := RX1) (T := TX1) (N := 7) hx hb hts iw_k_minutesOf_1 hown hK hP 0 rfl rfl 4 (by decide) (hts (.fieldLink RX1 26 "FlightDesk$Flight" "day" "I") (by decide +kernel)) (fun _ h9 => h9) rfl dX1_minutesOf_43 ?_
        refine lv_aload_n hx hb dX1_minutesOf_46 rfl (lv_at hl 0 rfl) ?_
        refine va_get (D := D) (ci := 1) (v := .ref bk) (C := RX1) (T := TX1) (N := 7) hx hb hts iw_k_minutesOf_1 hown hK hP 0 rfl rfl 0 (by decide) (hts (.fieldLink RX1 9 "FlightDesk$Flight" "book" "LFlightDesk$Book;") (by decide +kernel)) (fun _ h9 => h9) rfl dX1_minutesOf_47 ?_
        refine va_get (D := D) (ci := 0) (v := .ref a8) (C := RX0) (T := TX0) (N := 15) hx hb hts iw_k_minutesOf_0 hown hK hP 1 rfl rfl 8 (by decide) (hts (.fieldLink RX1 50 "FlightDesk$Book" "lastDay" "[I") (by decide +kernel)) (fun _ h9 => h9) rfl dX1_minutesOf_50 ?_
        refine lv_iload_n hx hb dX1_minutesOf_53 rfl (lv_at hl 1 rfl) ?_
        refine va_iald hx hb hK hP 6 0 rfl rfl (vp_in_iff.mpr ⟨show 0 ≤ g.toInt by omega, show g.toInt < ((16 : Nat) : Int) by omega⟩) dX1_minutesOf_54 ?_
        refine lv_topi (fun v22 ev22 => ?_)
        have tv22 : 0 ≤ v22.toInt ∧ v22.toInt ≤ 999 := by rw [ev22]; exact r89 _ (ck_lt (show 0 ≤ g.toInt by omega) (show g.toInt < ((16 : Nat) : Int) by omega))
        refine lv_icmp_gt (tgt := 62) hx hb dX1_minutesOf_55 (by decide) (fun c23 => ?_) (fun c23 => ?_)
        · have tc23 : v22.toInt < fd.toInt := i32_lt c23
          refine lv_iconst (v := 0) hx hb dX1_minutesOf_62 (by decide) ?_
          refine lv_istore (lv' := [(4, .int 0), (0, .ref h0), (1, .int g), (2, .int v), (3, .int w)]) hx hb dX1_minutesOf_63 hl (by decide) rfl (fun ls hl => ?_)
          refine lv_aload_n hx hb dX1_minutesOf_65 rfl (lv_at hl 1 rfl) ?_
          refine va_get (D := D) (ci := 1) (v := .ref bk) (C := RX1) (T := TX1) (N := 7) hx hb hts iw_k_minutesOf_1 hown hK hP 0 rfl rfl 0 (by decide) (hts (.fieldLink RX1 9 "FlightDesk$Flight" "book" "LFlightDesk$Book;") (by decide +kernel)) (fun _ h9 => h9) rfl dX1_minutesOf_66 ?_
          refine va_get (D := D) (ci := 0) (v := .ref a9) (C := RX0) (T := TX0) (N := 15) hx hb hts iw_k_minutesOf_0 hown hK hP 1 rfl rfl 9 (by decide) (hts (.fieldLink RX1 53 "FlightDesk$Book" "speed" "[I") (by decide +kernel)) (fun _ h9 => h9) rfl dX1_minutesOf_69 ?_
          refine lv_iload_n hx hb dX1_minutesOf_72 rfl (lv_at hl 3 rfl) ?_
          refine va_iald hx hb hK hP 7 0 rfl rfl (vp_in_iff.mpr ⟨show 0 ≤ v.toInt by omega, show v.toInt < ((6 : Nat) : Int) by omega⟩) dX1_minutesOf_73 ?_
          refine lv_topi (fun v24 ev24 => ?_)
          have tv24 : v24.toInt = (-1000) ∨ (100 ≤ v24.toInt ∧ v24.toInt ≤ 999) := by rw [ev24]; exact r99 _ (ck_lt (show 0 ≤ v.toInt by omega) (show v.toInt < ((6 : Nat) : Int) by omega))
          refine lv_aload_n hx hb dX1_minutesOf_74 rfl (lv_at hl 1 rfl) ?_
          refine va_get (D := D) (ci := 1) (v := .ref bk) (C := RX1) (T := TX1) (N := 7) hx hb hts iw_k_minutesOf_1 hown hK hP 0 rfl rfl 0 (by decide) (hts (.fieldLink RX1 9 "FlightDesk$Flight" "book" "LFlightDesk$Book;") (by decide +kernel)) (fun _ h9 => h9) rfl dX1_minutesOf_75 ?_
          refine va_get (D := D) (ci := 0) (v := .ref a10) (C := RX0) (T := TX0) (N := 15) hx hb hts iw_k_minutesOf_0 hown hK hP 1 rfl rfl 10 (by decide) (hts (.fieldLink RX1 56 "FlightDesk$Book" "wind" "[I") (by decide +kernel)) (fun _ h9 => h9) rfl dX1_minutesOf_78 ?_
          refine lv_iload_n hx hb dX1_minutesOf_81 rfl (lv_at hl 4 rfl) ?_
          refine lv_iload_n hx hb dX1_minutesOf_82 rfl (lv_at hl 3 rfl) ?_
          refine lv_iload_n hx hb dX1_minutesOf_83 rfl (lv_at hl 2 rfl) ?_
          have hPc := hP.sub (ws' := []) [] rfl
          have hDc := hD.sub (ws' := []) [] (by decide) rfl
          have hFc := va_free (wc := []) hD hS hA [] rfl
          refine va_calli (va_runSN (As := [.int w, .int v, .int g]) (rest := [.ref a10, .int v24]) ⟨hx, hb, hml, hown, hts⟩ (k_windIndex l D cI cB cP s.heap.size w v g (show 0 ≤ w.toInt ∧ w.toInt ≤ 1000 by first | assumption | omega | decide) (show 0 ≤ v.toInt ∧ v.toInt ≤ 1000 by first | assumption | omega | decide) (show 0 ≤ g.toInt ∧ g.toInt ≤ 1000 by first | assumption | omega | decide)) ⟨va_cnB 3 hts gw_k_minutesOf_0 rfl rfl rfl (hN.2.2.1) (hts (.initialized RX7) (by decide +kernel)) (by decide +kernel) ⟨Nat.le_of_ble_eq_true rfl, Nat.le_of_ble_eq_true rfl⟩, (hts (.static yX7_windIndex) (by decide +kernel)), trivial⟩ ⟨ny_blind, ny_pre hPc hK hN hDc⟩ rfl rfl hl.1 rfl (lv_room (Nat.le_of_ble_eq_true rfl)) dX1_minutesOf_84 ⟨Nat.le_of_ble_eq_true rfl, Nat.le_of_ble_eq_true rfl⟩) hS (fun q _ h => hFc q h) hFc (fun r25 u t H locs ht hvm hw hB hz1 hk1 hS => ?_)
          obtain ⟨hP, hD⟩ := va_join (wr := [(h0, .inr (1, [.ref bk, .int fi, .int ff, .int ft, .int fd, .int fr, .int fw])), (bk, .inr (0, [.int lc, .int ln, .ref a2, .ref a3, .ref a4, .ref a5, .ref a6, .ref a7, .ref a8, .ref a9, .ref a10, .ref a11, .ref a12, .ref a13, .ref a14])), (a4, .inl (cI, 16, .inl f4)), (a5, .inl (cI, 16, .inl f5)), (a6, .inl (cI, 16, .inl f6)), (a7, .inl (cI, 16, .inl f7)), (a8, .inl (cI, 16, .inl f8)), (a9, .inl (cI, 6, .inl f9)), (a10, .inl (cI, 288, .inl f10))]) (w1 := []) hP hD [] [0, 1, 2, 3, 4, 5, 6, 7, 8] rfl rfl (by decide) (by decide) hk1 hFc ny_P0 ny_D0
          have hP : va_P D vwCl [(h0, .inr (1, [.ref bk, .int fi, .int ff, .int ft, .int fd, .int fr, .int fw])), (bk, .inr (0, [.int lc, .int ln, .ref a2, .ref a3, .ref a4, .ref a5, .ref a6, .ref a7, .ref a8, .ref a9, .ref a10, .ref a11, .ref a12, .ref a13, .ref a14])), (a4, .inl (cI, 16, .inl f4)), (a5, .inl (cI, 16, .inl f5)), (a6, .inl (cI, 16, .inl f6)), (a7, .inl (cI, 16, .inl f7)), (a8, .inl (cI, 16, .inl f8)), (a9, .inl (cI, 6, .inl f9)), (a10, .inl (cI, 288, .inl f10))] H := hP
          have hD : va_D A [(h0, .inr (1, [.ref bk, .int fi, .int ff, .int ft, .int fd, .int fr, .int fw])), (bk, .inr (0, [.int lc, .int ln, .ref a2, .ref a3, .ref a4, .ref a5, .ref a6, .ref a7, .ref a8, .ref a9, .ref a10, .ref a11, .ref a12, .ref a13, .ref a14])), (a4, .inl (cI, 16, .inl f4)), (a5, .inl (cI, 16, .inl f5)), (a6, .inl (cI, 16, .inl f6)), (a7, .inl (cI, 16, .inl f7)), (a8, .inl (cI, 16, .inl f8)), (a9, .inl (cI, 6, .inl f9)), (a10, .inl (cI, 288, .inl f10))] := hD
          have hr25 : r25.toInt = (w.toInt * 6 + v.toInt) * 16 + g.toInt := hw
          refine va_iald hx hb hK hP 8 0 rfl rfl (vp_in_iff.mpr ⟨show 0 ≤ r25.toInt by omega, show r25.toInt < ((288 : Nat) : Int) by omega⟩) dX1_minutesOf_87 ?_
          refine lv_topi (fun v26 ev26 => ?_)
          have tv26 : v26.toInt = (-1000) ∨ ((-400) ≤ v26.toInt ∧ v26.toInt ≤ 400) := by rw [ev26]; exact r109 _ (ck_lt (show 0 ≤ r25.toInt by omega) (show r25.toInt < ((288 : Nat) : Int) by omega))
          refine lv_iadd hx hb dX1_minutesOf_88 ?_
          refine lv_topi (fun v27 ev27 => ?_)
          have tv27 : v27.toInt = v24.toInt + v26.toInt := (by have q9 : v27.toInt = (v24.toInt + v26.toInt + 2147483648) % 4294967296 - 2147483648 := i32_add ev27; omega)
          refine lv_istore (lv' := [(5, .int v27), (4, .int 0), (0, .ref h0), (1, .int g), (2, .int v), (3, .int w)]) hx hb dX1_minutesOf_89 hl (by decide) rfl (fun ls hl => ?_)
          refine lv_iload hx hb dX1_minutesOf_91 (lv_at hl 1 rfl) ?_
          refine lv_if_eq (tgt := 103) hx hb dX1_minutesOf_93 (by decide) (fun c28 => ?_) (fun h9 => (by first | exact absurd h9 (by decide) | exact absurd (by decide) h9))
          refine lv_iconst (v := (-1)) hx hb dX1_minutesOf_103 (by decide) ?_
          have hP9 := hP.sub (ws' := [(h0, .inr (1, [.ref bk, .int fi, .int ff, .int ft, .int fd, .int fr, .int fw])), (bk, .inr (0, [.int lc, .int ln, .ref a2, .ref a3, .ref a4, .ref a5, .ref a6, .ref a7, .ref a8, .ref a9, .ref a10, .ref a11, .ref a12, .ref a13, .ref a14])), (a4, .inl (cI, 16, .inl f4)), (a5, .inl (cI, 16, .inl f5)), (a6, .inl (cI, 16, .inl f6)), (a7, .inl (cI, 16, .inl f7)), (a8, .inl (cI, 16, .inl f8)), (a9, .inl (cI, 6, .inl f9)), (a10, .inl (cI, 288, .inl f10))]) [0, 1, 2, 3, 4, 5, 6, 7, 8] rfl
          have hD9 := hD.sub (ws' := [(h0, .inr (1, [.ref bk, .int fi, .int ff, .int ft, .int fd, .int fr, .int fw])), (bk, .inr (0, [.int lc, .int ln, .ref a2, .ref a3, .ref a4, .ref a5, .ref a6, .ref a7, .ref a8, .ref a9, .ref a10, .ref a11, .ref a12, .ref a13, .ref a14])), (a4, .inl (cI, 16, .inl f4)), (a5, .inl (cI, 16, .inl f5)), (a6, .inl (cI, 16, .inl f6)), (a7, .inl (cI, 16, .inl f7)), (a8, .inl (cI, 16, .inl f8)), (a9, .inl (cI, 6, .inl f9)), (a10, .inl (cI, 288, .inl f10))]) [0, 1, 2, 3, 4, 5, 6, 7, 8] (by decide) rfl
          refine W.widen (k := 0) (n := 0) (by decide) (by decide) ?_
          exact W.iret (v := (-1)) hx hb hr (fun t ht hW => ⟨⟨(-1), (), rfl, (show (-1) ≤ (-1) ∧ (-1) ≤ 1300 by first | assumption | omega | trivial | decide), by rw [ht]; exact hP9, hD9⟩, hS.F ht⟩) hS.2.2 dX1_minutesOf_104
        · have tc23 : ¬ (v22.toInt < fd.toInt) := i32_nlt c23
          refine lv_iconst (v := 1) hx hb dX1_minutesOf_58 (by decide) ?_
          refine lv_goto (tgt := 63) hx hb dX1_minutesOf_59 (by decide) ?_
          refine lv_istore (lv' := [(4, .int 1), (0, .ref h0), (1, .int g), (2, .int v), (3, .int w)]) hx hb dX1_minutesOf_63 hl (by decide) rfl (fun ls hl => ?_)
          refine lv_aload_n hx hb dX1_minutesOf_65 rfl (lv_at hl 1 rfl) ?_
          refine va_get (D := D) (ci := 1) (v := .ref bk) (C := RX1) (T := TX1) (N := 7) hx hb hts iw_k_minutesOf_1 hown hK hP 0 rfl rfl 0 (by decide) (hts (.fieldLink RX1 9 "FlightDesk$Flight" "book" "LFlightDesk$Book;") (by decide +kernel)) (fun _ h9 => h9) rfl dX1_minutesOf_66 ?_
          refine va_get (D := D) (ci := 0) (v := .ref a9) (C := RX0) (T := TX0) (N := 15) hx hb hts iw_k_minutesOf_0 hown hK hP 1 rfl rfl 9 (by decide) (hts (.fieldLink RX1 53 "FlightDesk$Book" "speed" "[I") (by decide +kernel)) (fun _ h9 => h9) rfl dX1_minutesOf_69 ?_
          refine lv_iload_n hx hb dX1_minutesOf_72 rfl (lv_at hl 3 rfl) ?_
          refine va_iald hx hb hK hP 7 0 rfl rfl (vp_in_iff.mpr ⟨show 0 ≤ v.toInt by omega, show v.toInt < ((6 : Nat) : Int) by omega⟩) dX1_minutesOf_73 ?_
          refine lv_topi (fun v29 ev29 => ?_)
          have tv29 : v29.toInt = (-1000) ∨ (100 ≤ v29.toInt ∧ v29.toInt ≤ 999) := by rw [ev29]; exact r99 _ (ck_lt (show 0 ≤ v.toInt by omega) (show v.toInt < ((6 : Nat) : Int) by omega))
          refine lv_aload_n hx hb dX1_minutesOf_74 rfl (lv_at hl 1 rfl) ?_
          refine va_get (D := D) (ci := 1) (v := .ref bk) (C := RX1) (T := TX1) (N := 7) hx hb hts iw_k_minutesOf_1 hown hK hP 0 rfl rfl 0 (by decide) (hts (.fieldLink RX1 9 "FlightDesk$Flight" "book" "LFlightDesk$Book;") (by decide +kernel)) (fun _ h9 => h9) rfl dX1_minutesOf_75 ?_
          refine va_get (D := D) (ci := 0) (v := .ref a10) (C := RX0) (T := TX0) (N := 15) hx hb hts iw_k_minutesOf_0 hown hK hP 1 rfl rfl 10 (by decide) (hts (.fieldLink RX1 56 "FlightDesk$Book" "wind" "[I") (by decide +kernel)) (fun _ h9 => h9) rfl dX1_minutesOf_78 ?_
          refine lv_iload_n hx hb dX1_minutesOf_81 rfl (lv_at hl 4 rfl) ?_
          refine lv_iload_n hx hb dX1_minutesOf_82 rfl (lv_at hl 3 rfl) ?_
          refine lv_iload_n hx hb dX1_minutesOf_83 rfl (lv_at hl 2 rfl) ?_
          have hPc := hP.sub (ws' := []) [] rfl
          have hDc := hD.sub (ws' := []) [] (by decide) rfl
          have hFc := va_free (wc := []) hD hS hA [] rfl
          refine va_calli (va_runSN (As := [.int w, .int v, .int g]) (rest := [.ref a10, .int v29]) ⟨hx, hb, hml, hown, hts⟩ (k_windIndex l D cI cB cP s.heap.size w v g (show 0 ≤ w.toInt ∧ w.toInt ≤ 1000 by first | assumption | omega | decide) (show 0 ≤ v.toInt ∧ v.toInt ≤ 1000 by first | assumption | omega | decide) (show 0 ≤ g.toInt ∧ g.toInt ≤ 1000 by first | assumption | omega | decide)) ⟨va_cnB 3 hts gw_k_minutesOf_0 rfl rfl rfl (hN.2.2.1) (hts (.initialized RX7) (by decide +kernel)) (by decide +kernel) ⟨Nat.le_of_ble_eq_true rfl, Nat.le_of_ble_eq_true rfl⟩, (hts (.static yX7_windIndex) (by decide +kernel)), trivial⟩ ⟨ny_blind, ny_pre hPc hK hN hDc⟩ rfl rfl hl.1 rfl (lv_room (Nat.le_of_ble_eq_true rfl)) dX1_minutesOf_84 ⟨Nat.le_of_ble_eq_true rfl, Nat.le_of_ble_eq_true rfl⟩) hS (fun q _ h => hFc q h) hFc (fun r30 u t H locs ht hvm hw hB hz1 hk1 hS => ?_)
          obtain ⟨hP, hD⟩ := va_join (wr := [(h0, .inr (1, [.ref bk, .int fi, .int ff, .int ft, .int fd, .int fr, .int fw])), (bk, .inr (0, [.int lc, .int ln, .ref a2, .ref a3, .ref a4, .ref a5, .ref a6, .ref a7, .ref a8, .ref a9, .ref a10, .ref a11, .ref a12, .ref a13, .ref a14])), (a4, .inl (cI, 16, .inl f4)), (a5, .inl (cI, 16, .inl f5)), (a6, .inl (cI, 16, .inl f6)), (a7, .inl (cI, 16, .inl f7)), (a8, .inl (cI, 16, .inl f8)), (a9, .inl (cI, 6, .inl f9)), (a10, .inl (cI, 288, .inl f10))]) (w1 := []) hP hD [] [0, 1, 2, 3, 4, 5, 6, 7, 8] rfl rfl (by decide) (by decide) hk1 hFc ny_P0 ny_D0
          have hP : va_P D vwCl [(h0, .inr (1, [.ref bk, .int fi, .int ff, .int ft, .int fd, .int fr, .int fw])), (bk, .inr (0, [.int lc, .int ln, .ref a2, .ref a3, .ref a4, .ref a5, .ref a6, .ref a7, .ref a8, .ref a9, .ref a10, .ref a11, .ref a12, .ref a13, .ref a14])), (a4, .inl (cI, 16, .inl f4)), (a5, .inl (cI, 16, .inl f5)), (a6, .inl (cI, 16, .inl f6)), (a7, .inl (cI, 16, .inl f7)), (a8, .inl (cI, 16, .inl f8)), (a9, .inl (cI, 6, .inl f9)), (a10, .inl (cI, 288, .inl f10))] H := hP
          have hD : va_D A [(h0, .inr (1, [.ref bk, .int fi, .int ff, .int ft, .int fd, .int fr, .int fw])), (bk, .inr (0, [.int lc, .int ln, .ref a2, .ref a3, .ref a4, .ref a5, .ref a6, .ref a7, .ref a8, .ref a9, .ref a10, .ref a11, .ref a12, .ref a13, .ref a14])), (a4, .inl (cI, 16, .inl f4)), (a5, .inl (cI, 16, .inl f5)), (a6, .inl (cI, 16, .inl f6)), (a7, .inl (cI, 16, .inl f7)), (a8, .inl (cI, 16, .inl f8)), (a9, .inl (cI, 6, .inl f9)), (a10, .inl (cI, 288, .inl f10))] := hD
          have hr30 : r30.toInt = (w.toInt * 6 + v.toInt) * 16 + g.toInt := hw
          refine va_iald hx hb hK hP 8 0 rfl rfl (vp_in_iff.mpr ⟨show 0 ≤ r30.toInt by omega, show r30.toInt < ((288 : Nat) : Int) by omega⟩) dX1_minutesOf_87 ?_
          refine lv_topi (fun v31 ev31 => ?_)
          have tv31 : v31.toInt = (-1000) ∨ ((-400) ≤ v31.toInt ∧ v31.toInt ≤ 400) := by rw [ev31]; exact r109 _ (ck_lt (show 0 ≤ r30.toInt by omega) (show r30.toInt < ((288 : Nat) : Int) by omega))
          refine lv_iadd hx hb dX1_minutesOf_88 ?_
          refine lv_topi (fun v32 ev32 => ?_)
          have tv32 : v32.toInt = v29.toInt + v31.toInt := (by have q9 : v32.toInt = (v29.toInt + v31.toInt + 2147483648) % 4294967296 - 2147483648 := i32_add ev32; omega)
          refine lv_istore (lv' := [(5, .int v32), (4, .int 1), (0, .ref h0), (1, .int g), (2, .int v), (3, .int w)]) hx hb dX1_minutesOf_89 hl (by decide) rfl (fun ls hl => ?_)
          refine lv_iload hx hb dX1_minutesOf_91 (lv_at hl 1 rfl) ?_
          refine lv_if_eq (tgt := 103) hx hb dX1_minutesOf_93 (by decide) (fun h9 => (by first | exact absurd h9 (by decide) | exact absurd (by decide) h9)) (fun c33 => ?_)
          refine lv_iload hx hb dX1_minutesOf_96 (lv_at hl 0 rfl) ?_
          refine lv_bipush (v := 50) hx hb dX1_minutesOf_98 (by decide) ?_
          refine lv_icmp_ge (tgt := 105) hx hb dX1_minutesOf_100 (by decide) (fun c34 => ?_) (fun c34 => ?_)
          · have tc34 : 50 ≤ v32.toInt := i32_le c34
            refine lv_aload_n hx hb dX1_minutesOf_105 rfl (lv_at hl 2 rfl) ?_
            refine va_get (D := D) (ci := 1) (v := .ref bk) (C := RX1) (T := TX1) (N := 7) hx hb hts iw_k_minutesOf_1 hown hK hP 0 rfl rfl 0 (by decide) (hts (.fieldLink RX1 9 "FlightDesk$Flight" "book" "LFlightDesk$Book;") (by decide +kernel)) (fun _ h9 => h9) rfl dX1_minutesOf_106 ?_
            refine va_get (D := D) (ci := 0) (v := .ref a4) (C := RX0) (T := TX0) (N := 15) hx hb hts iw_k_minutesOf_0 hown hK hP 1 rfl rfl 4 (by decide) (hts (.fieldLink RX1 63 "FlightDesk$Book" "miles" "[I") (by decide +kernel)) (fun _ h9 => h9) rfl dX1_minutesOf_109 ?_
            refine lv_iload_n hx hb dX1_minutesOf_112 rfl (lv_at hl 3 rfl) ?_
            refine va_iald hx hb hK hP 2 0 rfl rfl (vp_in_iff.mpr ⟨show 0 ≤ g.toInt by omega, show g.toInt < ((16 : Nat) : Int) by omega⟩) dX1_minutesOf_113 ?_
            refine lv_topi (fun v35 ev35 => ?_)
            have tv35 : 0 ≤ v35.toInt ∧ v35.toInt ≤ 999 := by rw [ev35]; exact r49 _ (ck_lt (show 0 ≤ g.toInt by omega) (show g.toInt < ((16 : Nat) : Int) by omega))
            refine lv_bipush (v := 60) hx hb dX1_minutesOf_114 (by decide) ?_
            refine lv_imul hx hb dX1_minutesOf_116 ?_
            refine lv_topi (fun v36 ev36 => ?_)
            have tv36 : v36.toInt = v35.toInt * 60 := (by have q9 : v36.toInt = (v35.toInt * 60 + 2147483648) % 4294967296 - 2147483648 := i32_mul ev36; omega)
            refine lv_iload hx hb dX1_minutesOf_117 (lv_at hl 0 rfl) ?_
            refine lv_iadd hx hb dX1_minutesOf_119 ?_
            refine lv_topi (fun v37 ev37 => ?_)
            have tv37 : v37.toInt = v36.toInt + v32.toInt := (by have q9 : v37.toInt = (v36.toInt + v32.toInt + 2147483648) % 4294967296 - 2147483648 := i32_add ev37; omega)
            refine lv_iconst (v := 1) hx hb dX1_minutesOf_120 (by decide) ?_
            refine lv_isub hx hb dX1_minutesOf_121 ?_
            refine lv_topi (fun v38 ev38 => ?_)
            have tv38 : v38.toInt = v37.toInt - 1 := (by have q9 : v38.toInt = (v37.toInt - 1 + 2147483648) % 4294967296 - 2147483648 := i32_sub ev38; omega)
            refine lv_iload hx hb dX1_minutesOf_122 (lv_at hl 0 rfl) ?_
            refine lv_idiv hx hb dX1_minutesOf_124 (fun h9 => absurd (show v32.toInt = 0 from i32_eq h9) (by omega)) ?_
            refine lv_topi (fun v39 ev39 => ?_)
            have tv39 : 0 ≤ v39.toInt ∧ v39.toInt ≤ v38.toInt / 50 := i32_divb ev39 (show 0 ≤ v38.toInt by omega) (by decide) (show 50 ≤ v32.toInt by omega)
            have hP9 := hP.sub (ws' := [(h0, .inr (1, [.ref bk, .int fi, .int ff, .int ft, .int fd, .int fr, .int fw])), (bk, .inr (0, [.int lc, .int ln, .ref a2, .ref a3, .ref a4, .ref a5, .ref a6, .ref a7, .ref a8, .ref a9, .ref a10, .ref a11, .ref a12, .ref a13, .ref a14])), (a4, .inl (cI, 16, .inl f4)), (a5, .inl (cI, 16, .inl f5)), (a6, .inl (cI, 16, .inl f6)), (a7, .inl (cI, 16, .inl f7)), (a8, .inl (cI, 16, .inl f8)), (a9, .inl (cI, 6, .inl f9)), (a10, .inl (cI, 288, .inl f10))]) [0, 1, 2, 3, 4, 5, 6, 7, 8] rfl
            have hD9 := hD.sub (ws' := [(h0, .inr (1, [.ref bk, .int fi, .int ff, .int ft, .int fd, .int fr, .int fw])), (bk, .inr (0, [.int lc, .int ln, .ref a2, .ref a3, .ref a4, .ref a5, .ref a6, .ref a7, .ref a8, .ref a9, .ref a10, .ref a11, .ref a12, .ref a13, .ref a14])), (a4, .inl (cI, 16, .inl f4)), (a5, .inl (cI, 16, .inl f5)), (a6, .inl (cI, 16, .inl f6)), (a7, .inl (cI, 16, .inl f7)), (a8, .inl (cI, 16, .inl f8)), (a9, .inl (cI, 6, .inl f9)), (a10, .inl (cI, 288, .inl f10))]) [0, 1, 2, 3, 4, 5, 6, 7, 8] (by decide) rfl
            refine W.widen (k := 0) (n := 0) (by decide) (by decide) ?_
            exact W.iret (v := v39) hx hb hr (fun t ht hW => ⟨⟨v39, (), rfl, (show (-1) ≤ v39.toInt ∧ v39.toInt ≤ 1300 by first | assumption | omega | trivial | decide), by rw [ht]; exact hP9, hD9⟩, hS.F ht⟩) hS.2.2 dX1_minutesOf_125
          · have tc34 : ¬ (50 ≤ v32.toInt) := i32_nle c34
            refine lv_iconst (v := (-1)) hx hb dX1_minutesOf_103 (by decide) ?_
            have hP9 := hP.sub (ws' := [(h0, .inr (1, [.ref bk, .int fi, .int ff, .int ft, .int fd, .int fr, .int fw])), (bk, .inr (0, [.int lc, .int ln, .ref a2, .ref a3, .ref a4, .ref a5, .ref a6, .ref a7, .ref a8, .ref a9, .ref a10, .ref a11, .ref a12, .ref a13, .ref a14])), (a4, .inl (cI, 16, .inl f4)), (a5, .inl (cI, 16, .inl f5)), (a6, .inl (cI, 16, .inl f6)), (a7, .inl (cI, 16, .inl f7)), (a8, .inl (cI, 16, .inl f8)), (a9, .inl (cI, 6, .inl f9)), (a10, .inl (cI, 288, .inl f10))]) [0, 1, 2, 3, 4, 5, 6, 7, 8] rfl
            have hD9 := hD.sub (ws' := [(h0, .inr (1, [.ref bk, .int fi, .int ff, .int ft, .int fd, .int fr, .int fw])), (bk, .inr (0, [.int lc, .int ln, .ref a2, .ref a3, .ref a4, .ref a5, .ref a6, .ref a7, .ref a8, .ref a9, .ref a10, .ref a11, .ref a12, .ref a13, .ref a14])), (a4, .inl (cI, 16, .inl f4)), (a5, .inl (cI, 16, .inl f5)), (a6, .inl (cI, 16, .inl f6)), (a7, .inl (cI, 16, .inl f7)), (a8, .inl (cI, 16, .inl f8)), (a9, .inl (cI, 6, .inl f9)), (a10, .inl (cI, 288, .inl f10))]) [0, 1, 2, 3, 4, 5, 6, 7, 8] (by decide) rfl
            refine W.widen (k := 0) (n := 0) (by decide) (by decide) ?_
            exact W.iret (v := (-1)) hx hb hr (fun t ht hW => ⟨⟨(-1), (), rfl, (show (-1) ≤ (-1) ∧ (-1) ≤ 1300 by first | assumption | omega | trivial | decide), by rw [ht]; exact hP9, hD9⟩, hS.F ht⟩) hS.2.2 dX1_minutesOf_104

def wk_k_fuelOf : List Cond := .code yX1_fuelOf cX1_fuelOf 5 (some .int) :: ([.fieldLink RX1 38 "FlightDesk$Flight" "weight" "I", .methodLink RX1 66 Lib.Math.min.name, .static Lib.Math.min.name, .initialized "java/lang/Math", .code Lib.Math.min.name Lib.Math.min.code 2 (some .int), .fieldLink RX1 9 "FlightDesk$Flight" "book" "LFlightDesk$Book;", .fieldLink RX1 72 "FlightDesk$Book" "burn" "[I", .initialized RX7, .static yX7_burnIndex, .code yX7_burnIndex cX7_burnIndex 2 (some .int)] ++ wsX10 ++ wsX00)
theorem iw_k_fuelOf_1 : ∀ w ∈ wsX10, w ∈ wk_k_fuelOf := fun _ h => List.mem_cons_of_mem _ (List.mem_append_left _ (List.mem_append_right _ h))
theorem iw_k_fuelOf_0 : ∀ w ∈ wsX00, w ∈ wk_k_fuelOf := fun _ h => List.mem_cons_of_mem _ (List.mem_append_right _ h)
set_option maxRecDepth 20000 in
theorem gw_k_fuelOf_0 : GoodIn wk_k_fuelOf wk_k_burnIndex := goodIn_sub (by decide +kernel) (by decide +kernel)
set_option maxHeartbeats 4000000 in
set_option maxRecDepth 100000 in
theorem k_fuelOf (l : Launch) (D : va_G) (cI cB cP : ClassId) (sz : Nat) (h0 : Nat) (bk : Nat) (fi : Int32) (ff : Int32) (ft : Int32) (fd : Int32) (fr : Int32) (fw : Int32) (lc : Int32) (ln : Int32) (a2 : Nat) (a3 : Nat) (a4 : Nat) (a5 : Nat) (a6 : Nat) (a7 : Nat) (a8 : Nat) (a9 : Nat) (a10 : Nat) (a11 : Nat) (a12 : Nat) (a13 : Nat) (a14 : Nat) (x : Int32) (v : Int32) (y : Int32) (f11 : Nat → Int32) (hx9 : 0 ≤ x.toInt ∧ x.toInt ≤ 1300) (hv9 : 0 ≤ v.toInt ∧ v.toInt ≤ 5) (hy9 : 0 ≤ y.toInt ∧ y.toInt ≤ 1100000000) (hfw9 : 0 ≤ fw.toInt ∧ fw.toInt ≤ 90000) (r119 : ∀ k : Nat, k < 30 → 1 ≤ (f11 k).toInt ∧ (f11 k).toInt ≤ 9999) : Met l yX1_fuelOf wk_k_fuelOf ({ frames := 1, cells := 0, slots := 0, locals := 21 } : Room) (va_Pc [.ref h0, .int x, .int v, .int y] (Pw D cI cB cP sz [(h0, .inr (1, [.ref bk, .int fi, .int ff, .int ft, .int fd, .int fr, .int fw])), (bk, .inr (0, [.int lc, .int ln, .ref a2, .ref a3, .ref a4, .ref a5, .ref a6, .ref a7, .ref a8, .ref a9, .ref a10, .ref a11, .ref a12, .ref a13, .ref a14])), (a11, .inl (cI, 30, .inl f11))])) (va_Qi (fun (r : Int32) (_ : Unit) => 0 ≤ r.toInt ∧ r.toInt ≤ 216650) (fun _ t => va_P D vwCl [(h0, .inr (1, [.ref bk, .int fi, .int ff, .int ft, .int fd, .int fr, .int fw])), (bk, .inr (0, [.int lc, .int ln, .ref a2, .ref a3, .ref a4, .ref a5, .ref a6, .ref a7, .ref a8, .ref a9, .ref a10, .ref a11, .ref a12, .ref a13, .ref a14])), (a11, .inl (cI, 30, .inl f11))] t.heap ∧ va_D (va_A [(h0, .inr (1, [.ref bk, .int fi, .int ff, .int ft, .int fd, .int fr, .int fw])), (bk, .inr (0, [.int lc, .int ln, .ref a2, .ref a3, .ref a4, .ref a5, .ref a6, .ref a7, .ref a8, .ref a9, .ref a10, .ref a11, .ref a12, .ref a13, .ref a14])), (a11, .inl (cI, 30, .inl f11))] sz) [(h0, .inr (1, [.ref bk, .int fi, .int ff, .int ft, .int fd, .int fr, .int fw])), (bk, .inr (0, [.int lc, .int ln, .ref a2, .ref a3, .ref a4, .ref a5, .ref a6, .ref a7, .ref a8, .ref a9, .ref a10, .ref a11, .ref a12, .ref a13, .ref a14])), (a11, .inl (cI, 30, .inl f11))]) (va_A [(h0, .inr (1, [.ref bk, .int fi, .int ff, .int ft, .int fd, .int fr, .int fw])), (bk, .inr (0, [.int lc, .int ln, .ref a2, .ref a3, .ref a4, .ref a5, .ref a6, .ref a7, .ref a8, .ref a9, .ref a10, .ref a11, .ref a12, .ref a13, .ref a14])), (a11, .inl (cI, 30, .inl f11))] sz)) 0 0 (va_A [(h0, .inr (1, [.ref bk, .int fi, .int ff, .int ft, .int fd, .int fr, .int fw])), (bk, .inr (0, [.int lc, .int ln, .ref a2, .ref a3, .ref a4, .ref a5, .ref a6, .ref a7, .ref a8, .ref a9, .ref a10, .ref a11, .ref a12, .ref a13, .ref a14])), (a11, .inl (cI, 30, .inl f11))] sz) := by
  refine Met.ofW (cc := cX1_fuelOf) (maxL := 5) (ret := (some .int)) (by decide) rfl ?_
  intro p e s m args below meth c s₁ B hml hv
  obtain ⟨rfl, hsz, hP, ⟨hK, hN⟩, hD0⟩ := hv
  have hx := B.exec
  have hb := B.bytes
  have hr := B.returns
  have hts := atoms_spec (ws := wk_k_fuelOf) B.pre
  have hown : s.vm.findClass RX1 = some m.cls := findClass_of_methodNamed B.named
  have hlocks := B.notSynchronized
  subst hsz
  have hD := hD0.self (sz := s.heap.size)
  generalize hAe : va_A [(h0, .inr (1, [.ref bk, .int fi, .int ff, .int ft, .int fd, .int fr, .int fw])), (bk, .inr (0, [.int lc, .int ln, .ref a2, .ref a3, .ref a4, .ref a5, .ref a6, .ref a7, .ref a8, .ref a9, .ref a10, .ref a11, .ref a12, .ref a13, .ref a14])), (a11, .inl (cI, 30, .inl f11))] s.heap.size = A at hD ⊢
  have hA : ∀ q : Nat, s.heap.size ≤ q → A q := fun q h => by rw [← hAe]; exact Or.inr h
  have hS : va_S A s.heap s.heap [] := va_S.rf
  have hP : va_P D vwCl [(h0, .inr (1, [.ref bk, .int fi, .int ff, .int ft, .int fd, .int fr, .int fw])), (bk, .inr (0, [.int lc, .int ln, .ref a2, .ref a3, .ref a4, .ref a5, .ref a6, .ref a7, .ref a8, .ref a9, .ref a10, .ref a11, .ref a12, .ref a13, .ref a14])), (a11, .inl (cI, 30, .inl f11))] s.heap := hP
  have hl := lv_entry ([.ref h0, .int x, .int v, .int y]) (n := 5) (Nat.le_of_ble_eq_true rfl)
  rw [lg_entry_eq]
  generalize (lg_sl ([.ref h0, .int x, .int v, .int y]) ++ List.replicate (5 - (lg_sl ([.ref h0, .int x, .int v, .int y])).length) Slot.unset).toArray = ls at hl ⊢
  have hl : lv_has ls 5 [(0, .ref h0), (1, .int x), (2, .int v), (3, .int y)] := hl
  refine lv_aload_n hx hb dX1_fuelOf_0 rfl (lv_at hl 0 rfl) ?_
  refine va_get (D := D) (ci := 1) (v := .int fw) (C := RX1) (T := TX1) (N := 7) hx hb hts iw_k_fuelOf_1 hown hK hP 0 rfl rfl 6 (by decide) (hts (.fieldLink RX1 38 "FlightDesk$Flight" "weight" "I") (by decide +kernel)) (fun _ h9 => h9) rfl dX1_fuelOf_1 ?_
  refine lv_iload_n hx hb dX1_fuelOf_4 rfl (lv_at hl 3 rfl) ?_
  refine lv_iadd hx hb dX1_fuelOf_5 ?_
  refine lv_topi (fun v1 ev1 => ?_)
  have tv1 : v1.toInt = (fw.toInt + y.toInt + 2147483648) % 4294967296 - 2147483648 := i32_add ev1
  refine lv_sipush (v := 1000) hx hb dX1_fuelOf_6 (by decide) ?_
  refine lv_idiv hx hb dX1_fuelOf_9 (by decide) ?_
  refine lv_topi (fun v2 ev2 => ?_)
  have tv2 : v2.toInt = v1.toInt / 1000 := i32_div ev2 (show 0 ≤ v1.toInt by omega) (show 0 < 1000 by omega)
  refine lv_iconst (v := 4) hx hb dX1_fuelOf_10 (by decide) ?_
  refine va_mmin hx hb (by rw [hml]; exact hl.1.symm) hown (hts (.methodLink RX1 66 Lib.Math.min.name) (by decide +kernel)) (hts (.static Lib.Math.min.name) (by decide +kernel)) (hts (.initialized "java/lang/Math") (by decide +kernel)) (hts (.code Lib.Math.min.name Lib.Math.min.code 2 (some .int)) (by decide +kernel)) (Nat.le_of_ble_eq_true rfl) (Nat.le_of_ble_eq_true rfl) (Nat.le_of_ble_eq_true rfl) (Nat.le_of_ble_eq_true rfl) dX1_fuelOf_11 ?_
  refine lv_topi (fun v3 ev3 => ?_)
  have tv3 : v3.toInt ≤ v2.toInt ∧ v3.toInt ≤ 4 ∧ (v3.toInt = v2.toInt ∨ v3.toInt = 4) := i32_min ev3
  refine lv_istore (lv' := [(4, .int v3), (0, .ref h0), (1, .int x), (2, .int v), (3, .int y)]) hx hb dX1_fuelOf_14 hl (by decide) rfl (fun ls hl => ?_)
  refine lv_iload_n hx hb dX1_fuelOf_16 rfl (lv_at hl 2 rfl) ?_
  refine lv_aload_n hx hb dX1_fuelOf_17 rfl (lv_at hl 1 rfl) ?_
  refine va_get (D := D) (ci := 1) (v := .ref bk) (C := RX1) (T := TX1) (N := 7) hx hb hts iw_k_fuelOf_1 hown hK hP 0 rfl rfl 0 (by decide) (hts (.fieldLink RX1 9 "FlightDesk$Flight" "book" "LFlightDesk$Book;") (by decide +kernel)) (fun _ h9 => h9) rfl dX1_fuelOf_18 ?_
  refine va_get (D := D) (ci := 0) (v := .ref a11) (C := RX0) (T := TX0) (N := 15) hx hb hts iw_k_fuelOf_0 hown hK hP 1 rfl rfl 11 (by decide) (hts (.fieldLink RX1 72 "FlightDesk$Book" "burn" "[I") (by decide +kernel)) (fun _ h9 => h9) rfl dX1_fuelOf_21 ?_
  refine lv_iload_n hx hb dX1_fuelOf_24 rfl (lv_at hl 3 rfl) ?_
  refine lv_iload hx hb dX1_fuelOf_25 (lv_at hl 0 rfl) ?_
  have hPc := hP.sub (ws' := []) [] rfl
  have hDc := hD.sub (ws' := []) [] (by decide) rfl
  have hFc := va_free (wc := []) hD hS hA [] rfl
  refine va_calli (va_runSN (As := [.int v, .int v3]) (rest := [.ref a11, .int x]) ⟨hx, hb, hml, hown, hts⟩ (k_burnIndex l D cI cB cP s.heap.size v v3 (show 0 ≤ v.toInt ∧ v.toInt ≤ 1000 by first | assumption | omega | decide) (show 0 ≤ v3.toInt ∧ v3.toInt ≤ 1000 by first | assumption | omega | decide)) ⟨va_cnB 2 hts gw_k_fuelOf_0 rfl rfl rfl (hN.2.2.2.1) (hts (.initialized RX7) (by decide +kernel)) (by decide +kernel) ⟨Nat.le_of_ble_eq_true rfl, Nat.le_of_ble_eq_true rfl⟩, (hts (.static yX7_burnIndex) (by decide +kernel)), trivial⟩ ⟨ny_blind, ny_pre hPc hK hN hDc⟩ rfl rfl hl.1 rfl (lv_room (Nat.le_of_ble_eq_true rfl)) dX1_fuelOf_27 ⟨Nat.le_of_ble_eq_true rfl, Nat.le_of_ble_eq_true rfl⟩) hS (fun q _ h => hFc q h) hFc (fun r4 u t H locs ht hvm hw hB hz1 hk1 hS => ?_)
  obtain ⟨hP, hD⟩ := va_join (wr := [(h0, .inr (1, [.ref bk, .int fi, .int ff, .int ft, .int fd, .int fr, .int fw])), (bk, .inr (0, [.int lc, .int ln, .ref a2, .ref a3, .ref a4, .ref a5, .ref a6, .ref a7, .ref a8, .ref a9, .ref a10, .ref a11, .ref a12, .ref a13, .ref a14])), (a11, .inl (cI, 30, .inl f11))]) (w1 := []) hP hD [] [0, 1, 2] rfl rfl (by decide) (by decide) hk1 hFc ny_P0 ny_D0
  have hP : va_P D vwCl [(h0, .inr (1, [.ref bk, .int fi, .int ff, .int ft, .int fd, .int fr, .int fw])), (bk, .inr (0, [.int lc, .int ln, .ref a2, .ref a3, .ref a4, .ref a5, .ref a6, .ref a7, .ref a8, .ref a9, .ref a10, .ref a11, .ref a12, .ref a13, .ref a14])), (a11, .inl (cI, 30, .inl f11))] H := hP
  have hD : va_D A [(h0, .inr (1, [.ref bk, .int fi, .int ff, .int ft, .int fd, .int fr, .int fw])), (bk, .inr (0, [.int lc, .int ln, .ref a2, .ref a3, .ref a4, .ref a5, .ref a6, .ref a7, .ref a8, .ref a9, .ref a10, .ref a11, .ref a12, .ref a13, .ref a14])), (a11, .inl (cI, 30, .inl f11))] := hD
  have hr4 : r4.toInt = v.toInt * 5 + v3.toInt := hw
  refine va_iald hx hb hK hP 2 0 rfl rfl (vp_in_iff.mpr ⟨show 0 ≤ r4.toInt by omega, show r4.toInt < ((30 : Nat) : Int) by omega⟩) dX1_fuelOf_30 ?_
  refine lv_topi (fun v5 ev5 => ?_)
  have tv5 : 1 ≤ v5.toInt ∧ v5.toInt ≤ 9999 := by rw [ev5]; exact r119 _ (ck_lt (show 0 ≤ r4.toInt by omega) (show r4.toInt < ((30 : Nat) : Int) by omega))
  refine lv_imul hx hb dX1_fuelOf_31 ?_
  refine lv_topi (fun v6 ev6 => ?_)
  have tv6 : 0 ≤ v6.toInt ∧ v6.toInt ≤ 12998700 := by have q := i32_mulb (a := 1300) (b := 9999) ev6 (by omega) (by omega) (by omega) (by omega) (by decide); omega
  refine lv_bipush (v := 59) hx hb dX1_fuelOf_32 (by decide) ?_
  refine lv_iadd hx hb dX1_fuelOf_34 ?_
  refine lv_topi (fun v7 ev7 => ?_)
  have tv7 : v7.toInt = (v6.toInt + 59 + 2147483648) % 4294967296 - 2147483648 := i32_add ev7
  refine lv_bipush (v := 60) hx hb dX1_fuelOf_35 (by decide) ?_
  refine lv_idiv hx hb dX1_fuelOf_37 (by decide) ?_
  refine lv_topi (fun v8 ev8 => ?_)
  have tv8 : v8.toInt = v7.toInt / 60 := i32_div ev8 (show 0 ≤ v7.toInt by omega) (show 0 < 60 by omega)
  have hP9 := hP.sub (ws' := [(h0, .inr (1, [.ref bk, .int fi, .int ff, .int ft, .int fd, .int fr, .int fw])), (bk, .inr (0, [.int lc, .int ln, .ref a2, .ref a3, .ref a4, .ref a5, .ref a6, .ref a7, .ref a8, .ref a9, .ref a10, .ref a11, .ref a12, .ref a13, .ref a14])), (a11, .inl (cI, 30, .inl f11))]) [0, 1, 2] rfl
  have hD9 := hD.sub (ws' := [(h0, .inr (1, [.ref bk, .int fi, .int ff, .int ft, .int fd, .int fr, .int fw])), (bk, .inr (0, [.int lc, .int ln, .ref a2, .ref a3, .ref a4, .ref a5, .ref a6, .ref a7, .ref a8, .ref a9, .ref a10, .ref a11, .ref a12, .ref a13, .ref a14])), (a11, .inl (cI, 30, .inl f11))]) [0, 1, 2] (by decide) rfl
  refine W.widen (k := 0) (n := 0) (by decide) (by decide) ?_
  exact W.iret (v := v8) hx hb hr (fun t ht hW => ⟨⟨v8, (), rfl, (show 0 ≤ v8.toInt ∧ v8.toInt ≤ 216650 by first | assumption | omega | trivial | decide), by rw [ht]; exact hP9, hD9⟩, hS.F ht⟩) hS.2.2 dX1_fuelOf_38

def wk_k_greatestLeft : List Cond := .code yX1_greatestLeft cX1_greatestLeft 8 (some .int) :: ([.fieldLink RX1 38 "FlightDesk$Flight" "weight" "I", .methodLink RX1 78 Lib.Math.max.name, .static Lib.Math.max.name, .initialized "java/lang/Math", .code Lib.Math.max.name Lib.Math.max.code 2 (some .int), .methodLink RX1 81 yX1_fuelOf, .instanceMethod yX1_fuelOf, .selects RX1 yX1_fuelOf yX1_fuelOf, .initialized RX1, .code yX1_fuelOf cX1_fuelOf 5 (some .int), .methodLink RX1 66 Lib.Math.min.name, .static Lib.Math.min.name, .code Lib.Math.min.name Lib.Math.min.code 2 (some .int), .fieldLink RX1 9 "FlightDesk$Flight" "book" "LFlightDesk$Book;", .fieldLink RX1 72 "FlightDesk$Book" "burn" "[I", .initialized RX7, .static yX7_burnIndex, .code yX7_burnIndex cX7_burnIndex 2 (some .int)] ++ wsX10 ++ wsX00)
theorem iw_k_greatestLeft_1 : ∀ w ∈ wsX10, w ∈ wk_k_greatestLeft := fun _ h => List.mem_cons_of_mem _ (List.mem_append_left _ (List.mem_append_right _ h))
theorem iw_k_greatestLeft_0 : ∀ w ∈ wsX00, w ∈ wk_k_greatestLeft := fun _ h => List.mem_cons_of_mem _ (List.mem_append_right _ h)
set_option maxRecDepth 20000 in
theorem gw_k_greatestLeft_0 : GoodIn wk_k_greatestLeft (wsV RX1 81 RX1 yX1_fuelOf wk_k_fuelOf) := goodIn_sub (by decide +kernel) (by decide +kernel)
set_option maxHeartbeats 4000000 in
set_option maxRecDepth 100000 in
theorem k_greatestLeft (l : Launch) (D : va_G) (cI cB cP : ClassId) (sz : Nat) (h0 : Nat) (bk : Nat) (fi : Int32) (ff : Int32) (ft : Int32) (fd : Int32) (fr : Int32) (fw : Int32) (lc : Int32) (ln : Int32) (a2 : Nat) (a3 : Nat) (a4 : Nat) (a5 : Nat) (a6 : Nat) (a7 : Nat) (a8 : Nat) (a9 : Nat) (a10 : Nat) (a11 : Nat) (a12 : Nat) (a13 : Nat) (a14 : Nat) (x : Int32) (v : Int32) (y : Int32) (f11 : Nat → Int32) (hx9 : 0 ≤ x.toInt ∧ x.toInt ≤ 1300) (hv9 : 0 ≤ v.toInt ∧ v.toInt ≤ 5) (hfw9 : 0 ≤ fw.toInt ∧ fw.toInt ≤ 90000) (r119 : ∀ k : Nat, k < 30 → 1 ≤ (f11 k).toInt ∧ (f11 k).toInt ≤ 9999) : Met l yX1_greatestLeft wk_k_greatestLeft ({ frames := 2, cells := 0, slots := 0, locals := 45 } : Room) (va_Pc [.ref h0, .int x, .int v, .int y] (Pw D cI cB cP sz [(h0, .inr (1, [.ref bk, .int fi, .int ff, .int ft, .int fd, .int fr, .int fw])), (bk, .inr (0, [.int lc, .int ln, .ref a2, .ref a3, .ref a4, .ref a5, .ref a6, .ref a7, .ref a8, .ref a9, .ref a10, .ref a11, .ref a12, .ref a13, .ref a14])), (a11, .inl (cI, 30, .inl f11))])) (va_Qi (fun (r : Int32) (_ : Unit) => True) (fun _ t => va_P D vwCl [(h0, .inr (1, [.ref bk, .int fi, .int ff, .int ft, .int fd, .int fr, .int fw])), (bk, .inr (0, [.int lc, .int ln, .ref a2, .ref a3, .ref a4, .ref a5, .ref a6, .ref a7, .ref a8, .ref a9, .ref a10, .ref a11, .ref a12, .ref a13, .ref a14])), (a11, .inl (cI, 30, .inl f11))] t.heap ∧ va_D (va_A [(h0, .inr (1, [.ref bk, .int fi, .int ff, .int ft, .int fd, .int fr, .int fw])), (bk, .inr (0, [.int lc, .int ln, .ref a2, .ref a3, .ref a4, .ref a5, .ref a6, .ref a7, .ref a8, .ref a9, .ref a10, .ref a11, .ref a12, .ref a13, .ref a14])), (a11, .inl (cI, 30, .inl f11))] sz) [(h0, .inr (1, [.ref bk, .int fi, .int ff, .int ft, .int fd, .int fr, .int fw])), (bk, .inr (0, [.int lc, .int ln, .ref a2, .ref a3, .ref a4, .ref a5, .ref a6, .ref a7, .ref a8, .ref a9, .ref a10, .ref a11, .ref a12, .ref a13, .ref a14])), (a11, .inl (cI, 30, .inl f11))]) (va_A [(h0, .inr (1, [.ref bk, .int fi, .int ff, .int ft, .int fd, .int fr, .int fw])), (bk, .inr (0, [.int lc, .int ln, .ref a2, .ref a3, .ref a4, .ref a5, .ref a6, .ref a7, .ref a8, .ref a9, .ref a10, .ref a11, .ref a12, .ref a13, .ref a14])), (a11, .inl (cI, 30, .inl f11))] sz)) 0 0 (va_A [(h0, .inr (1, [.ref bk, .int fi, .int ff, .int ft, .int fd, .int fr, .int fw])), (bk, .inr (0, [.int lc, .int ln, .ref a2, .ref a3, .ref a4, .ref a5, .ref a6, .ref a7, .ref a8, .ref a9, .ref a10, .ref a11, .ref a12, .ref a13, .ref a14])), (a11, .inl (cI, 30, .inl f11))] sz) := by
  refine Met.ofW (cc := cX1_greatestLeft) (maxL := 8) (ret := (some .int)) (by decide) rfl ?_
  intro p e s m args below meth c s₁ B hml hv
  obtain ⟨rfl, hsz, hP, ⟨hK, hN⟩, hD0⟩ := hv
  have hx := B.exec
  have hb := B.bytes
  have hr := B.returns
  have hts := atoms_spec (ws := wk_k_greatestLeft) B.pre
  have hown : s.vm.findClass RX1 = some m.cls := findClass_of_methodNamed B.named
  have hlocks := B.notSynchronized
  subst hsz
  have hD := hD0.self (sz := s.heap.size)
  generalize hAe : va_A [(h0, .inr (1, [.ref bk, .int fi, .int ff, .int ft, .int fd, .int fr, .int fw])), (bk, .inr (0, [.int lc, .int ln, .ref a2, .ref a3, .ref a4, .ref a5, .ref a6, .ref a7, .ref a8, .ref a9, .ref a10, .ref a11, .ref a12, .ref a13, .ref a14])), (a11, .inl (cI, 30, .inl f11))] s.heap.size = A at hD ⊢
  have hA : ∀ q : Nat, s.heap.size ≤ q → A q := fun q h => by rw [← hAe]; exact Or.inr h
  have hS : va_S A s.heap s.heap [] := va_S.rf
  have hP : va_P D vwCl [(h0, .inr (1, [.ref bk, .int fi, .int ff, .int ft, .int fd, .int fr, .int fw])), (bk, .inr (0, [.int lc, .int ln, .ref a2, .ref a3, .ref a4, .ref a5, .ref a6, .ref a7, .ref a8, .ref a9, .ref a10, .ref a11, .ref a12, .ref a13, .ref a14])), (a11, .inl (cI, 30, .inl f11))] s.heap := hP
  have hl := lv_entry ([.ref h0, .int x, .int v, .int y]) (n := 8) (Nat.le_of_ble_eq_true rfl)
  rw [lg_entry_eq]
  generalize (lg_sl ([.ref h0, .int x, .int v, .int y]) ++ List.replicate (8 - (lg_sl ([.ref h0, .int x, .int v, .int y])).length) Slot.unset).toArray = ls at hl ⊢
  have hl : lv_has ls 8 [(0, .ref h0), (1, .int x), (2, .int v), (3, .int y)] := hl
  refine lv_iconst (v := 4) hx hb dX1_greatestLeft_0 (by decide) ?_
  refine lv_istore (lv' := [(4, .int 4), (0, .ref h0), (1, .int x), (2, .int v), (3, .int y)]) hx hb dX1_greatestLeft_1 hl (by decide) rfl (fun ls hl => ?_)
  refine lv_iload hx hb dX1_greatestLeft_3 (lv_at hl 0 rfl) ?_
  refine lv_if_lt (tgt := 85) hx hb dX1_greatestLeft_5 (by decide) (fun h9 => (by first | exact absurd h9 (by decide) | exact absurd (by decide) h9)) (fun c1 => ?_)
  refine lv_iconst (v := 0) hx hb dX1_greatestLeft_8 (by decide) ?_
  refine lv_iload hx hb dX1_greatestLeft_9 (lv_at hl 0 rfl) ?_
  refine lv_sipush (v := 1000) hx hb dX1_greatestLeft_11 (by decide) ?_
  refine lv_imul hx hb dX1_greatestLeft_14 ?_
  refine lv_topi (fun vv ev => ?_)
  obtain rfl : vv = 4000 := ev.trans (by decide)
  refine lv_aload_n hx hb dX1_greatestLeft_15 rfl (lv_at hl 1 rfl) ?_
  refine va_get (D := D) (ci := 1) (v := .int fw) (C := RX1) (T := TX1) (N := 7) hx hb hts iw_k_greatestLeft_1 hown hK hP 0 rfl rfl 6 (by decide) (hts (.fieldLink RX1 38 "FlightDesk$Flight" "weight" "I") (by decide +kernel)) (fun _ h9 => h9) rfl dX1_greatestLeft_16 ?_
  refine lv_isub hx hb dX1_greatestLeft_19 ?_
  refine lv_topi (fun v2 ev2 => ?_)
  have tv2 : v2.toInt = (4000 - fw.toInt + 2147483648) % 4294967296 - 2147483648 := i32_sub ev2
  refine va_mmax hx hb (by rw [hml]; exact hl.1.symm) hown (hts (.methodLink RX1 78 Lib.Math.max.name) (by decide +kernel)) (hts (.static Lib.Math.max.name) (by decide +kernel)) (hts (.initialized "java/lang/Math") (by decide +kernel)) (hts (.code Lib.Math.max.name Lib.Math.max.code 2 (some .int)) (by decide +kernel)) (Nat.le_of_ble_eq_true rfl) (Nat.le_of_ble_eq_true rfl) (Nat.le_of_ble_eq_true rfl) (Nat.le_of_ble_eq_true rfl) dX1_greatestLeft_20 ?_
  refine lv_topi (fun v3 ev3 => ?_)
  have tv3 : v3.toInt ≥ 0 ∧ v3.toInt ≥ v2.toInt ∧ (v3.toInt = 0 ∨ v3.toInt = v2.toInt) := i32_max ev3
  refine lv_istore (lv' := [(5, .int v3), (4, .int 4), (0, .ref h0), (1, .int x), (2, .int v), (3, .int y)]) hx hb dX1_greatestLeft_23 hl (by decide) rfl (fun ls hl => ?_)
  refine lv_iload hx hb dX1_greatestLeft_25 (lv_at hl 1 rfl) ?_
  refine lv_iconst (v := 4) hx hb dX1_greatestLeft_27 (by decide) ?_
  refine lv_icmp_ne (tgt := 35) hx hb dX1_greatestLeft_28 (by decide) (fun h9 => (by first | exact absurd h9 (by decide) | exact absurd (by decide) h9)) (fun c4 => ?_)
  refine lv_iload_n hx hb dX1_greatestLeft_31 rfl (lv_at hl 5 rfl) ?_
  refine lv_goto (tgt := 50) hx hb dX1_greatestLeft_32 (by decide) ?_
  refine lv_istore (lv' := [(6, .int y), (5, .int v3), (4, .int 4), (0, .ref h0), (1, .int x), (2, .int v), (3, .int y)]) hx hb dX1_greatestLeft_50 hl (by decide) rfl (fun ls hl => ?_)
  refine lv_iload hx hb dX1_greatestLeft_52 (lv_at hl 0 rfl) ?_
  refine lv_iload_n hx hb dX1_greatestLeft_54 rfl (lv_at hl 6 rfl) ?_
  refine lv_aload_n hx hb dX1_greatestLeft_55 rfl (lv_at hl 3 rfl) ?_
  refine lv_iload_n hx hb dX1_greatestLeft_56 rfl (lv_at hl 4 rfl) ?_
  refine lv_iload_n hx hb dX1_greatestLeft_57 rfl (lv_at hl 5 rfl) ?_
  refine lv_iload hx hb dX1_greatestLeft_58 (lv_at hl 1 rfl) ?_
  have hPc := hP.sub (ws' := [(h0, .inr (1, [.ref bk, .int fi, .int ff, .int ft, .int fd, .int fr, .int fw])), (bk, .inr (0, [.int lc, .int ln, .ref a2, .ref a3, .ref a4, .ref a5, .ref a6, .ref a7, .ref a8, .ref a9, .ref a10, .ref a11, .ref a12, .ref a13, .ref a14])), (a11, .inl (cI, 30, .inl f11))]) [0, 1, 2] rfl
  have hDc := hD.sub (ws' := [(h0, .inr (1, [.ref bk, .int fi, .int ff, .int ft, .int fd, .int fr, .int fw])), (bk, .inr (0, [.int lc, .int ln, .ref a2, .ref a3, .ref a4, .ref a5, .ref a6, .ref a7, .ref a8, .ref a9, .ref a10, .ref a11, .ref a12, .ref a13, .ref a14])), (a11, .inl (cI, 30, .inl f11))]) [0, 1, 2] (by decide) rfl
  have hFc := va_free (wc := [(h0, .inr (1, [.ref bk, .int fi, .int ff, .int ft, .int fd, .int fr, .int fw])), (bk, .inr (0, [.int lc, .int ln, .ref a2, .ref a3, .ref a4, .ref a5, .ref a6, .ref a7, .ref a8, .ref a9, .ref a10, .ref a11, .ref a12, .ref a13, .ref a14])), (a11, .inl (cI, 30, .inl f11))]) hD hS hA [0, 1, 2] rfl
  refine va_calli (va_runV (As := [.int x, .int v, .int v3]) (rest := [.int y, .int y]) ⟨hx, hb, hml, hown, hts⟩ (k_fuelOf l D cI cB cP s.heap.size h0 bk fi ff ft fd fr fw lc ln a2 a3 a4 a5 a6 a7 a8 a9 a10 a11 a12 a13 a14 x v v3 f11 (show 0 ≤ x.toInt ∧ x.toInt ≤ 1300 by first | assumption | omega | decide) (show 0 ≤ v.toInt ∧ v.toInt ≤ 5 by first | assumption | omega | decide) (show 0 ≤ v3.toInt ∧ v3.toInt ≤ 1100000000 by first | assumption | omega | decide) (show 0 ≤ fw.toInt ∧ fw.toInt ≤ 90000 by first | assumption | omega | decide) (by assumption)) (cwV 3 hts gw_k_greatestLeft_0 rfl rfl rfl (by decide +kernel) ⟨Nat.le_of_ble_eq_true rfl, Nat.le_of_ble_eq_true rfl⟩) ⟨ny_blind, va_recv hK hPc (ci := 1) (q0 := 0) rfl rfl, ny_pre hPc hK hN hDc⟩ rfl rfl hl.1 rfl (lv_room (Nat.le_of_ble_eq_true rfl)) dX1_greatestLeft_60 ⟨Nat.le_of_ble_eq_true rfl, Nat.le_of_ble_eq_true rfl⟩) hS (fun q _ h => hFc q h) hFc (fun r5 u t H locs ht hvm hw hB hz1 hk1 hS => ?_)
  obtain ⟨hP1, hD1⟩ := hB
  rw [ht] at hP1
  obtain ⟨hP, hD⟩ := va_join (wr := []) (w1 := [(h0, .inr (1, [.ref bk, .int fi, .int ff, .int ft, .int fd, .int fr, .int fw])), (bk, .inr (0, [.int lc, .int ln, .ref a2, .ref a3, .ref a4, .ref a5, .ref a6, .ref a7, .ref a8, .ref a9, .ref a10, .ref a11, .ref a12, .ref a13, .ref a14])), (a11, .inl (cI, 30, .inl f11))]) hP hD [0, 1, 2] [] rfl rfl (by decide) (by decide) hk1 hFc hP1 hD1
  have hP : va_P D vwCl [(h0, .inr (1, [.ref bk, .int fi, .int ff, .int ft, .int fd, .int fr, .int fw])), (bk, .inr (0, [.int lc, .int ln, .ref a2, .ref a3, .ref a4, .ref a5, .ref a6, .ref a7, .ref a8, .ref a9, .ref a10, .ref a11, .ref a12, .ref a13, .ref a14])), (a11, .inl (cI, 30, .inl f11))] H := hP
  have hD : va_D A [(h0, .inr (1, [.ref bk, .int fi, .int ff, .int ft, .int fd, .int fr, .int fw])), (bk, .inr (0, [.int lc, .int ln, .ref a2, .ref a3, .ref a4, .ref a5, .ref a6, .ref a7, .ref a8, .ref a9, .ref a10, .ref a11, .ref a12, .ref a13, .ref a14])), (a11, .inl (cI, 30, .inl f11))] := hD
  have hr5 : 0 ≤ r5.toInt ∧ r5.toInt ≤ 216650 := hw
  refine lv_isub hx hb dX1_greatestLeft_63 ?_
  refine lv_topi (fun v6 ev6 => ?_)
  have tv6 : v6.toInt = (y.toInt - r5.toInt + 2147483648) % 4294967296 - 2147483648 := i32_sub ev6
  refine va_mmin hx hb (by rw [hml]; exact hl.1.symm) hown (hts (.methodLink RX1 66 Lib.Math.min.name) (by decide +kernel)) (hts (.static Lib.Math.min.name) (by decide +kernel)) (hts (.initialized "java/lang/Math") (by decide +kernel)) (hts (.code Lib.Math.min.name Lib.Math.min.code 2 (some .int)) (by decide +kernel)) (Nat.le_of_ble_eq_true rfl) (Nat.le_of_ble_eq_true rfl) (Nat.le_of_ble_eq_true rfl) (Nat.le_of_ble_eq_true rfl) dX1_greatestLeft_64 ?_
  refine lv_topi (fun v7 ev7 => ?_)
  have tv7 : v7.toInt ≤ y.toInt ∧ v7.toInt ≤ v6.toInt ∧ (v7.toInt = y.toInt ∨ v7.toInt = v6.toInt) := i32_min ev7
  refine lv_istore (lv' := [(7, .int v7), (6, .int y), (5, .int v3), (4, .int 4), (0, .ref h0), (1, .int x), (2, .int v), (3, .int y)]) hx hb dX1_greatestLeft_67 hl (by decide) rfl (fun ls hl => ?_)
  refine lv_iload hx hb dX1_greatestLeft_69 (lv_at hl 0 rfl) ?_
  refine lv_iload hx hb dX1_greatestLeft_71 (lv_at hl 2 rfl) ?_
  refine lv_icmp_lt (tgt := 79) hx hb dX1_greatestLeft_73 (by decide) (fun c8 => ?_) (fun c8 => ?_)
  · have tc8 : v7.toInt < v3.toInt := i32_lt c8
    refine lv_iinc (v := 3) (lv' := [(4, .int 3), (7, .int v7), (6, .int y), (5, .int v3), (0, .ref h0), (1, .int x), (2, .int v), (3, .int y)]) hx hb dX1_greatestLeft_79 hl (k := 3) rfl (by decide) (by decide) rfl (fun ls hl => ?_)
    refine lv_goto (tgt := 3) hx hb dX1_greatestLeft_82 (by decide) ?_
    refine lv_iload hx hb dX1_greatestLeft_3 (lv_at hl 0 rfl) ?_
    refine lv_if_lt (tgt := 85) hx hb dX1_greatestLeft_5 (by decide) (fun h9 => (by first | exact absurd h9 (by decide) | exact absurd (by decide) h9)) (fun c9 => ?_)
    refine lv_iconst (v := 0) hx hb dX1_greatestLeft_8 (by decide) ?_
    refine lv_iload hx hb dX1_greatestLeft_9 (lv_at hl 0 rfl) ?_
    refine lv_sipush (v := 1000) hx hb dX1_greatestLeft_11 (by decide) ?_
    refine lv_imul hx hb dX1_greatestLeft_14 ?_
    refine lv_topi (fun vv ev => ?_)
    obtain rfl : vv = 3000 := ev.trans (by decide)
    refine lv_aload_n hx hb dX1_greatestLeft_15 rfl (lv_at hl 4 rfl) ?_
    refine va_get (D := D) (ci := 1) (v := .int fw) (C := RX1) (T := TX1) (N := 7) hx hb hts iw_k_greatestLeft_1 hown hK hP 0 rfl rfl 6 (by decide) (hts (.fieldLink RX1 38 "FlightDesk$Flight" "weight" "I") (by decide +kernel)) (fun _ h9 => h9) rfl dX1_greatestLeft_16 ?_
    refine lv_isub hx hb dX1_greatestLeft_19 ?_
    refine lv_topi (fun v10 ev10 => ?_)
    have tv10 : v10.toInt = (3000 - fw.toInt + 2147483648) % 4294967296 - 2147483648 := i32_sub ev10
    refine va_mmax hx hb (by rw [hml]; exact hl.1.symm) hown (hts (.methodLink RX1 78 Lib.Math.max.name) (by decide +kernel)) (hts (.static Lib.Math.max.name) (by decide +kernel)) (hts (.initialized "java/lang/Math") (by decide +kernel)) (hts (.code Lib.Math.max.name Lib.Math.max.code 2 (some .int)) (by decide +kernel)) (Nat.le_of_ble_eq_true rfl) (Nat.le_of_ble_eq_true rfl) (Nat.le_of_ble_eq_true rfl) (Nat.le_of_ble_eq_true rfl) dX1_greatestLeft_20 ?_
    refine lv_topi (fun v11 ev11 => ?_)
    have tv11 : v11.toInt ≥ 0 ∧ v11.toInt ≥ v10.toInt ∧ (v11.toInt = 0 ∨ v11.toInt = v10.toInt) := i32_max ev11
    refine lv_istore (lv' := [(5, .int v11), (4, .int 3), (7, .int v7), (6, .int y), (0, .ref h0), (1, .int x), (2, .int v), (3, .int y)]) hx hb dX1_greatestLeft_23 hl (by decide) rfl (fun ls hl => ?_)
    refine lv_iload hx hb dX1_greatestLeft_25 (lv_at hl 1 rfl) ?_
    refine lv_iconst (v := 4) hx hb dX1_greatestLeft_27 (by decide) ?_
    refine lv_icmp_ne (tgt := 35) hx hb dX1_greatestLeft_28 (by decide) (fun c12 => ?_) (fun h9 => (by first | exact absurd h9 (by decide) | exact absurd (by decide) h9))
    refine lv_iload hx hb dX1_greatestLeft_35 (lv_at hl 1 rfl) ?_
    refine lv_iconst (v := 1) hx hb dX1_greatestLeft_37 (by decide) ?_
    refine lv_iadd hx hb dX1_greatestLeft_38 ?_
    refine lv_topi (fun vv ev => ?_)
    obtain rfl : vv = 4 := ev.trans (by decide)
    refine lv_sipush (v := 1000) hx hb dX1_greatestLeft_39 (by decide) ?_
    refine lv_imul hx hb dX1_greatestLeft_42 ?_
    refine lv_topi (fun vv ev => ?_)
    obtain rfl : vv = 4000 := ev.trans (by decide)
    refine lv_iconst (v := 1) hx hb dX1_greatestLeft_43 (by decide) ?_
    refine lv_isub hx hb dX1_greatestLeft_44 ?_
    refine lv_topi (fun vv ev => ?_)
    obtain rfl : vv = 3999 := ev.trans (by decide)
    refine lv_aload_n hx hb dX1_greatestLeft_45 rfl (lv_at hl 4 rfl) ?_
    refine va_get (D := D) (ci := 1) (v := .int fw) (C := RX1) (T := TX1) (N := 7) hx hb hts iw_k_greatestLeft_1 hown hK hP 0 rfl rfl 6 (by decide) (hts (.fieldLink RX1 38 "FlightDesk$Flight" "weight" "I") (by decide +kernel)) (fun _ h9 => h9) rfl dX1_greatestLeft_46 ?_
    refine lv_isub hx hb dX1_greatestLeft_49 ?_
    refine lv_topi (fun v13 ev13 => ?_)
    have tv13 : v13.toInt = (3999 - fw.toInt + 2147483648) % 4294967296 - 2147483648 := i32_sub ev13
    refine lv_istore (lv' := [(6, .int v13), (5, .int v11), (4, .int 3), (7, .int v7), (0, .ref h0), (1, .int x), (2, .int v), (3, .int y)]) hx hb dX1_greatestLeft_50 hl (by decide) rfl (fun ls hl => ?_)
    refine lv_iload hx hb dX1_greatestLeft_52 (lv_at hl 0 rfl) ?_
    refine lv_iload_n hx hb dX1_greatestLeft_54 rfl (lv_at hl 7 rfl) ?_
    refine lv_aload_n hx hb dX1_greatestLeft_55 rfl (lv_at hl 4 rfl) ?_
    refine lv_iload_n hx hb dX1_greatestLeft_56 rfl (lv_at hl 5 rfl) ?_
    refine lv_iload_n hx hb dX1_greatestLeft_57 rfl (lv_at hl 6 rfl) ?_
    refine lv_iload hx hb dX1_greatestLeft_58 (lv_at hl 1 rfl) ?_
    have hPc := hP.sub (ws' := [(h0, .inr (1, [.ref bk, .int fi, .int ff, .int ft, .int fd, .int fr, .int fw])), (bk, .inr (0, [.int lc, .int ln, .ref a2, .ref a3, .ref a4, .ref a5, .ref a6, .ref a7, .ref a8, .ref a9, .ref a10, .ref a11, .ref a12, .ref a13, .ref a14])), (a11, .inl (cI, 30, .inl f11))]) [0, 1, 2] rfl
    have hDc := hD.sub (ws' := [(h0, .inr (1, [.ref bk, .int fi, .int ff, .int ft, .int fd, .int fr, .int fw])), (bk, .inr (0, [.int lc, .int ln, .ref a2, .ref a3, .ref a4, .ref a5, .ref a6, .ref a7, .ref a8, .ref a9, .ref a10, .ref a11, .ref a12, .ref a13, .ref a14])), (a11, .inl (cI, 30, .inl f11))]) [0, 1, 2] (by decide) rfl
    have hFc := va_free (wc := [(h0, .inr (1, [.ref bk, .int fi, .int ff, .int ft, .int fd, .int fr, .int fw])), (bk, .inr (0, [.int lc, .int ln, .ref a2, .ref a3, .ref a4, .ref a5, .ref a6, .ref a7, .ref a8, .ref a9, .ref a10, .ref a11, .ref a12, .ref a13, .ref a14])), (a11, .inl (cI, 30, .inl f11))]) hD hS hA [0, 1, 2] rfl
    refine va_calli (va_runV (As := [.int x, .int v, .int v11]) (rest := [.int y, .int v13]) ⟨hx, hb, hml, hown, hts⟩ (k_fuelOf l D cI cB cP H.size h0 bk fi ff ft fd fr fw lc ln a2 a3 a4 a5 a6 a7 a8 a9 a10 a11 a12 a13 a14 x v v11 f11 (show 0 ≤ x.toInt ∧ x.toInt ≤ 1300 by first | assumption | omega | decide) (show 0 ≤ v.toInt ∧ v.toInt ≤ 5 by first | assumption | omega | decide) (show 0 ≤ v11.toInt ∧ v11.toInt ≤ 1100000000 by first | assumption | omega | decide) (show 0 ≤ fw.toInt ∧ fw.toInt ≤ 90000 by first | assumption | omega | decide) (by assumption)) (cwV 3 hts gw_k_greatestLeft_0 rfl rfl rfl (by decide +kernel) ⟨Nat.le_of_ble_eq_true rfl, Nat.le_of_ble_eq_true rfl⟩) ⟨ny_blind, va_recv hK hPc (ci := 1) (q0 := 0) rfl rfl, ny_pre hPc hK hN hDc⟩ rfl rfl hl.1 rfl (lv_room (Nat.le_of_ble_eq_true rfl)) dX1_greatestLeft_60 ⟨Nat.le_of_ble_eq_true rfl, Nat.le_of_ble_eq_true rfl⟩) hS (fun q _ h => hFc q h) hFc (fun r14 u t H locs ht hvm hw hB hz1 hk1 hS => ?_)
    obtain ⟨hP1, hD1⟩ := hB
    rw [ht] at hP1
    obtain ⟨hP, hD⟩ := va_join (wr := []) (w1 := [(h0, .inr (1, [.ref bk, .int fi, .int ff, .int ft, .int fd, .int fr, .int fw])), (bk, .inr (0, [.int lc, .int ln, .ref a2, .ref a3, .ref a4, .ref a5, .ref a6, .ref a7, .ref a8, .ref a9, .ref a10, .ref a11, .ref a12, .ref a13, .ref a14])), (a11, .inl (cI, 30, .inl f11))]) hP hD [0, 1, 2] [] rfl rfl (by decide) (by decide) hk1 hFc hP1 hD1
    have hP : va_P D vwCl [(h0, .inr (1, [.ref bk, .int fi, .int ff, .int ft, .int fd, .int fr, .int fw])), (bk, .inr (0, [.int lc, .int ln, .ref a2, .ref a3, .ref a4, .ref a5, .ref a6, .ref a7, .ref a8, .ref a9, .ref a10, .ref a11, .ref a12, .ref a13, .ref a14])), (a11, .inl (cI, 30, .inl f11))] H := hP
    have hD : va_D A [(h0, .inr (1, [.ref bk, .int fi, .int ff, .int ft, .int fd, .int fr, .int fw])), (bk, .inr (0, [.int lc, .int ln, .ref a2, .ref a3, .ref a4, .ref a5, .ref a6, .ref a7, .ref a8, .ref a9, .ref a10, .ref a11, .ref a12, .ref a13, .ref a14])), (a11, .inl (cI, 30, .inl f11))] := hD
    have hr14 : 0 ≤ r14.toInt ∧ r14.toInt ≤ 216650 := hw
    refine lv_isub hx hb dX1_greatestLeft_63 ?_
    refine lv_topi (fun v15 ev15 => ?_)
    have tv15 : v15.toInt = (y.toInt - r14.toInt + 2147483648) % 4294967296 - 2147483648 := i32_sub ev15
    refine va_mmin hx hb (by rw [hml]; exact hl.1.symm) hown (hts (.methodLink RX1 66 Lib.Math.min.name) (by decide +kernel)) (hts (.static Lib.Math.min.name) (by decide +kernel)) (hts (.initialized "java/lang/Math") (by decide +kernel)) (hts (.code Lib.Math.min.name Lib.Math.min.code 2 (some .int)) (by decide +kernel)) (Nat.le_of_ble_eq_true rfl) (Nat.le_of_ble_eq_true rfl) (Nat.le_of_ble_eq_true rfl) (Nat.le_of_ble_eq_true rfl) dX1_greatestLeft_64 ?_
    refine lv_topi (fun v16 ev16 => ?_)
    have tv16 : v16.toInt ≤ v13.toInt ∧ v16.toInt ≤ v15.toInt ∧ (v16.toInt = v13.toInt ∨ v16.toInt = v15.toInt) := i32_min ev16
    refine lv_istore (lv' := [(7, .int v16), (6, .int v13), (5, .int v11), (4, .int 3), (0, .ref h0), (1, .int x), (2, .int v), (3, .int y)]) hx hb dX1_greatestLeft_67 hl (by decide) rfl (fun ls hl => ?_)
    refine lv_iload hx hb dX1_greatestLeft_69 (lv_at hl 0 rfl) ?_
    refine lv_iload hx hb dX1_greatestLeft_71 (lv_at hl 2 rfl) ?_
    refine lv_icmp_lt (tgt := 79) hx hb dX1_greatestLeft_73 (by decide) (fun c17 => ?_) (fun c17 => ?_)
    · have tc17 : v16.toInt < v11.toInt := i32_lt c17
      refine lv_iinc (v := 2) (lv' := [(4, .int 2), (7, .int v16), (6, .int v13), (5, .int v11), (0, .ref h0), (1, .int x), (2, .int v), (3, .int y)]) hx hb dX1_greatestLeft_79 hl (k := 3) rfl (by decide) (by decide) rfl (fun ls hl => ?_)
      refine lv_goto (tgt := 3) hx hb dX1_greatestLeft_82 (by decide) ?_
      refine lv_iload hx hb dX1_greatestLeft_3 (lv_at hl 0 rfl) ?_
      refine lv_if_lt (tgt := 85) hx hb dX1_greatestLeft_5 (by decide) (fun h9 => (by first | exact absurd h9 (by decide) | exact absurd (by decide) h9)) (fun c18 => ?_)
      refine lv_iconst (v := 0) hx hb dX1_greatestLeft_8 (by decide) ?_
      refine lv_iload hx hb dX1_greatestLeft_9 (lv_at hl 0 rfl) ?_
      refine lv_sipush (v := 1000) hx hb dX1_greatestLeft_11 (by decide) ?_
      refine lv_imul hx hb dX1_greatestLeft_14 ?_
      refine lv_topi (fun vv ev => ?_)
      obtain rfl : vv = 2000 := ev.trans (by decide)
      refine lv_aload_n hx hb dX1_greatestLeft_15 rfl (lv_at hl 4 rfl) ?_
      refine va_get (D := D) (ci := 1) (v := .int fw) (C := RX1) (T := TX1) (N := 7) hx hb hts iw_k_greatestLeft_1 hown hK hP 0 rfl rfl 6 (by decide) (hts (.fieldLink RX1 38 "FlightDesk$Flight" "weight" "I") (by decide +kernel)) (fun _ h9 => h9) rfl dX1_greatestLeft_16 ?_
      refine lv_isub hx hb dX1_greatestLeft_19 ?_
      refine lv_topi (fun v19 ev19 => ?_)
      have tv19 : v19.toInt = (2000 - fw.toInt + 2147483648) % 4294967296 - 2147483648 := i32_sub ev19
      refine va_mmax hx hb (by rw [hml]; exact hl.1.symm) hown (hts (.methodLink RX1 78 Lib.Math.max.name) (by decide +kernel)) (hts (.static Lib.Math.max.name) (by decide +kernel)) (hts (.initialized "java/lang/Math") (by decide +kernel)) (hts (.code Lib.Math.max.name Lib.Math.max.code 2 (some .int)) (by decide +kernel)) (Nat.le_of_ble_eq_true rfl) (Nat.le_of_ble_eq_true rfl) (Nat.le_of_ble_eq_true rfl) (Nat.le_of_ble_eq_true rfl) dX1_greatestLeft_20 ?_
      refine lv_topi (fun v20 ev20 => ?_)
      have tv20 : v20.toInt ≥ 0 ∧ v20.toInt ≥ v19.toInt ∧ (v20.toInt = 0 ∨ v20.toInt = v19.toInt) := i32_max ev20
      refine lv_istore (lv' := [(5, .int v20), (4, .int 2), (7, .int v16), (6, .int v13), (0, .ref h0), (1, .int x), (2, .int v), (3, .int y)]) hx hb dX1_greatestLeft_23 hl (by decide) rfl (fun ls hl => ?_)
      refine lv_iload hx hb dX1_greatestLeft_25 (lv_at hl 1 rfl) ?_
      refine lv_iconst (v := 4) hx hb dX1_greatestLeft_27 (by decide) ?_
      refine lv_icmp_ne (tgt := 35) hx hb dX1_greatestLeft_28 (by decide) (fun c21 => ?_) (fun h9 => (by first | exact absurd h9 (by decide) | exact absurd (by decide) h9))
      refine lv_iload hx hb dX1_greatestLeft_35 (lv_at hl 1 rfl) ?_
      refine lv_iconst (v := 1) hx hb dX1_greatestLeft_37 (by decide) ?_
      refine lv_iadd hx hb dX1_greatestLeft_38 ?_
      refine lv_topi (fun vv ev => ?_)
      obtain rfl : vv = 3 := ev.trans (by decide)
      refine lv_sipush (v := 1000) hx hb dX1_greatestLeft_39 (by decide) ?_
      refine lv_imul hx hb dX1_greatestLeft_42 ?_
      refine lv_topi (fun vv ev => ?_)
      obtain rfl : vv = 3000 := ev.trans (by decide)
      refine lv_iconst (v := 1) hx hb dX1_greatestLeft_43 (by decide) ?_
      refine lv_isub hx hb dX1_greatestLeft_44 ?_
      refine lv_topi (fun vv ev => ?_)
      obtain rfl : vv = 2999 := ev.trans (by decide)
      refine lv_aload_n hx hb dX1_greatestLeft_45 rfl (lv_at hl 4 rfl) ?_
      refine va_get (D := D) (ci := 1) (v := .int fw) (C := RX1) (T := TX1) (N := 7) hx hb hts iw_k_greatestLeft_1 hown hK hP 0 rfl rfl 6 (by decide) (hts (.fieldLink RX1 38 "FlightDesk$Flight" "weight" "I") (by decide +kernel)) (fun _ h9 => h9) rfl dX1_greatestLeft_46 ?_
      refine lv_isub hx hb dX1_greatestLeft_49 ?_
      refine lv_topi (fun v22 ev22 => ?_)
      have tv22 : v22.toInt = (2999 - fw.toInt + 2147483648) % 4294967296 - 2147483648 := i32_sub ev22
      refine lv_istore (lv' := [(6, .int v22), (5, .int v20), (4, .int 2), (7, .int v16), (0, .ref h0), (1, .int x), (2, .int v), (3, .int y)]) hx hb dX1_greatestLeft_50 hl (by decide) rfl (fun ls hl => ?_)
      refine lv_iload hx hb dX1_greatestLeft_52 (lv_at hl 0 rfl) ?_
      refine lv_iload_n hx hb dX1_greatestLeft_54 rfl (lv_at hl 7 rfl) ?_
      refine lv_aload_n hx hb dX1_greatestLeft_55 rfl (lv_at hl 4 rfl) ?_
      refine lv_iload_n hx hb dX1_greatestLeft_56 rfl (lv_at hl 5 rfl) ?_
      refine lv_iload_n hx hb dX1_greatestLeft_57 rfl (lv_at hl 6 rfl) ?_
      refine lv_iload hx hb dX1_greatestLeft_58 (lv_at hl 1 rfl) ?_
      have hPc := hP.sub (ws' := [(h0, .inr (1, [.ref bk, .int fi, .int ff, .int ft, .int fd, .int fr, .int fw])), (bk, .inr (0, [.int lc, .int ln, .ref a2, .ref a3, .ref a4, .ref a5, .ref a6, .ref a7, .ref a8, .ref a9, .ref a10, .ref a11, .ref a12, .ref a13, .ref a14])), (a11, .inl (cI, 30, .inl f11))]) [0, 1, 2] rfl
      have hDc := hD.sub (ws' := [(h0, .inr (1, [.ref bk, .int fi, .int ff, .int ft, .int fd, .int fr, .int fw])), (bk, .inr (0, [.int lc, .int ln, .ref a2, .ref a3, .ref a4, .ref a5, .ref a6, .ref a7, .ref a8, .ref a9, .ref a10, .ref a11, .ref a12, .ref a13, .ref a14])), (a11, .inl (cI, 30, .inl f11))]) [0, 1, 2] (by decide) rfl
      have hFc := va_free (wc := [(h0, .inr (1, [.ref bk, .int fi, .int ff, .int ft, .int fd, .int fr, .int fw])), (bk, .inr (0, [.int lc, .int ln, .ref a2, .ref a3, .ref a4, .ref a5, .ref a6, .ref a7, .ref a8, .ref a9, .ref a10, .ref a11, .ref a12, .ref a13, .ref a14])), (a11, .inl (cI, 30, .inl f11))]) hD hS hA [0, 1, 2] rfl
      refine va_calli (va_runV (As := [.int x, .int v, .int v20]) (rest := [.int y, .int v22]) ⟨hx, hb, hml, hown, hts⟩ (k_fuelOf l D cI cB cP H.size h0 bk fi ff ft fd fr fw lc ln a2 a3 a4 a5 a6 a7 a8 a9 a10 a11 a12 a13 a14 x v v20 f11 (show 0 ≤ x.toInt ∧ x.toInt ≤ 1300 by first | assumption | omega | decide) (show 0 ≤ v.toInt ∧ v.toInt ≤ 5 by first | assumption | omega | decide) (show 0 ≤ v20.toInt ∧ v20.toInt ≤ 1100000000 by first | assumption | omega | decide) (show 0 ≤ fw.toInt ∧ fw.toInt ≤ 90000 by first | assumption | omega | decide) (by assumption)) (cwV 3 hts gw_k_greatestLeft_0 rfl rfl rfl (by decide +kernel) ⟨Nat.le_of_ble_eq_true rfl, Nat.le_of_ble_eq_true rfl⟩) ⟨ny_blind, va_recv hK hPc (ci := 1) (q0 := 0) rfl rfl, ny_pre hPc hK hN hDc⟩ rfl rfl hl.1 rfl (lv_room (Nat.le_of_ble_eq_true rfl)) dX1_greatestLeft_60 ⟨Nat.le_of_ble_eq_true rfl, Nat.le_of_ble_eq_true rfl⟩) hS (fun q _ h => hFc q h) hFc (fun r23 u t H locs ht hvm hw hB hz1 hk1 hS => ?_)
      obtain ⟨hP1, hD1⟩ := hB
      rw [ht] at hP1
      obtain ⟨hP, hD⟩ := va_join (wr := []) (w1 := [(h0, .inr (1, [.ref bk, .int fi, .int ff, .int ft, .int fd, .int fr, .int fw])), (bk, .inr (0, [.int lc, .int ln, .ref a2, .ref a3, .ref a4, .ref a5, .ref a6, .ref a7, .ref a8, .ref a9, .ref a10, .ref a11, .ref a12, .ref a13, .ref a14])), (a11, .inl (cI, 30, .inl f11))]) hP hD [0, 1, 2] [] rfl rfl (by decide) (by decide) hk1 hFc hP1 hD1
      have hP : va_P D vwCl [(h0, .inr (1, [.ref bk, .int fi, .int ff, .int ft, .int fd, .int fr, .int fw])), (bk, .inr (0, [.int lc, .int ln, .ref a2, .ref a3, .ref a4, .ref a5, .ref a6, .ref a7, .ref a8, .ref a9, .ref a10, .ref a11, .ref a12, .ref a13, .ref a14])), (a11, .inl (cI, 30, .inl f11))] H := hP
      have hD : va_D A [(h0, .inr (1, [.ref bk, .int fi, .int ff, .int ft, .int fd, .int fr, .int fw])), (bk, .inr (0, [.int lc, .int ln, .ref a2, .ref a3, .ref a4, .ref a5, .ref a6, .ref a7, .ref a8, .ref a9, .ref a10, .ref a11, .ref a12, .ref a13, .ref a14])), (a11, .inl (cI, 30, .inl f11))] := hD
      have hr23 : 0 ≤ r23.toInt ∧ r23.toInt ≤ 216650 := hw
      refine lv_isub hx hb dX1_greatestLeft_63 ?_
      refine lv_topi (fun v24 ev24 => ?_)
      have tv24 : v24.toInt = (y.toInt - r23.toInt + 2147483648) % 4294967296 - 2147483648 := i32_sub ev24
      refine va_mmin hx hb (by rw [hml]; exact hl.1.symm) hown (hts (.methodLink RX1 66 Lib.Math.min.name) (by decide +kernel)) (hts (.static Lib.Math.min.name) (by decide +kernel)) (hts (.initialized "java/lang/Math") (by decide +kernel)) (hts (.code Lib.Math.min.name Lib.Math.min.code 2 (some .int)) (by decide +kernel)) (Nat.le_of_ble_eq_true rfl) (Nat.le_of_ble_eq_true rfl) (Nat.le_of_ble_eq_true rfl) (Nat.le_of_ble_eq_true rfl) dX1_greatestLeft_64 ?_
      refine lv_topi (fun v25 ev25 => ?_)
      have tv25 : v25.toInt ≤ v22.toInt ∧ v25.toInt ≤ v24.toInt ∧ (v25.toInt = v22.toInt ∨ v25.toInt = v24.toInt) := i32_min ev25
      refine lv_istore (lv' := [(7, .int v25), (6, .int v22), (5, .int v20), (4, .int 2), (0, .ref h0), (1, .int x), (2, .int v), (3, .int y)]) hx hb dX1_greatestLeft_67 hl (by decide) rfl (fun ls hl => ?_)
      refine lv_iload hx hb dX1_greatestLeft_69 (lv_at hl 0 rfl) ?_
      refine lv_iload hx hb dX1_greatestLeft_71 (lv_at hl 2 rfl) ?_
      refine lv_icmp_lt (tgt := 79) hx hb dX1_greatestLeft_73 (by decide) (fun c26 => ?_) (fun c26 => ?_)
      · have tc26 : v25.toInt < v20.toInt := i32_lt c26
        refine lv_iinc (v := 1) (lv' := [(4, .int 1), (7, .int v25), (6, .int v22), (5, .int v20), (0, .ref h0), (1, .int x), (2, .int v), (3, .int y)]) hx hb dX1_greatestLeft_79 hl (k := 3) rfl (by decide) (by decide) rfl (fun ls hl => ?_)
        refine lv_goto (tgt := 3) hx hb dX1_greatestLeft_82 (by decide) ?_
        refine lv_iload hx hb dX1_greatestLeft_3 (lv_at hl 0 rfl) ?_
        refine lv_if_lt (tgt := 85) hx hb dX1_greatestLeft_5 (by decide) (fun h9 => (by first | exact absurd h9 (by decide) | exact absurd (by decide) h9)) (fun c27 => ?_)
        refine lv_iconst (v := 0) hx hb dX1_greatestLeft_8 (by decide) ?_
        refine lv_iload hx hb dX1_greatestLeft_9 (lv_at hl 0 rfl) ?_
        refine lv_sipush (v := 1000) hx hb dX1_greatestLeft_11 (by decide) ?_
        refine lv_imul hx hb dX1_greatestLeft_14 ?_
        refine lv_topi (fun vv ev => ?_)
        obtain rfl : vv = 1000 := ev.trans (by decide)
        refine lv_aload_n hx hb dX1_greatestLeft_15 rfl (lv_at hl 4 rfl) ?_
        refine va_get (D := D) (ci := 1) (v := .int fw) (C := RX1) (T := TX1) (N := 7) hx hb hts iw_k_greatestLeft_1 hown hK hP 0 rfl rfl 6 (by decide) (hts (.fieldLink RX1 38 "FlightDesk$Flight" "weight" "I") (by decide +kernel)) (fun _ h9 => h9) rfl dX1_greatestLeft_16 ?_
        refine lv_isub hx hb dX1_greatestLeft_19 ?_
        refine lv_topi (fun v28 ev28 => ?_)
        have tv28 : v28.toInt = (1000 - fw.toInt + 2147483648) % 4294967296 - 2147483648 := i32_sub ev28
        refine va_mmax hx hb (by rw [hml]; exact hl.1.symm) hown (hts (.methodLink RX1 78 Lib.Math.max.name) (by decide +kernel)) (hts (.static Lib.Math.max.name) (by decide +kernel)) (hts (.initialized "java/lang/Math") (by decide +kernel)) (hts (.code Lib.Math.max.name Lib.Math.max.code 2 (some .int)) (by decide +kernel)) (Nat.le_of_ble_eq_true rfl) (Nat.le_of_ble_eq_true rfl) (Nat.le_of_ble_eq_true rfl) (Nat.le_of_ble_eq_true rfl) dX1_greatestLeft_20 ?_
        refine lv_topi (fun v29 ev29 => ?_)
        have tv29 : v29.toInt ≥ 0 ∧ v29.toInt ≥ v28.toInt ∧ (v29.toInt = 0 ∨ v29.toInt = v28.toInt) := i32_max ev29
        refine lv_istore (lv' := [(5, .int v29), (4, .int 1), (7, .int v25), (6, .int v22), (0, .ref h0), (1, .int x), (2, .int v), (3, .int y)]) hx hb dX1_greatestLeft_23 hl (by decide) rfl (fun ls hl => ?_)
        refine lv_iload hx hb dX1_greatestLeft_25 (lv_at hl 1 rfl) ?_
        refine lv_iconst (v := 4) hx hb dX1_greatestLeft_27 (by decide) ?_
        refine lv_icmp_ne (tgt := 35) hx hb dX1_greatestLeft_28 (by decide) (fun c30 => ?_) (fun h9 => (by first | exact absurd h9 (by decide) | exact absurd (by decide) h9))
        refine lv_iload hx hb dX1_greatestLeft_35 (lv_at hl 1 rfl) ?_
        refine lv_iconst (v := 1) hx hb dX1_greatestLeft_37 (by decide) ?_
        refine lv_iadd hx hb dX1_greatestLeft_38 ?_
        refine lv_topi (fun vv ev => ?_)
        obtain rfl : vv = 2 := ev.trans (by decide)
        refine lv_sipush (v := 1000) hx hb dX1_greatestLeft_39 (by decide) ?_
        refine lv_imul hx hb dX1_greatestLeft_42 ?_
        refine lv_topi (fun vv ev => ?_)
        obtain rfl : vv = 2000 := ev.trans (by decide)
        refine lv_iconst (v := 1) hx hb dX1_greatestLeft_43 (by decide) ?_
        refine lv_isub hx hb dX1_greatestLeft_44 ?_
        refine lv_topi (fun vv ev => ?_)
        obtain rfl : vv = 1999 := ev.trans (by decide)
        refine lv_aload_n hx hb dX1_greatestLeft_45 rfl (lv_at hl 4 rfl) ?_
        refine va_get (D := D) (ci := 1) (v := .int fw) (C := RX1) (T := TX1) (N := 7) hx hb hts iw_k_greatestLeft_1 hown hK hP 0 rfl rfl 6 (by decide) (hts (.fieldLink RX1 38 "FlightDesk$Flight" "weight" "I") (by decide +kernel)) (fun _ h9 => h9) rfl dX1_greatestLeft_46 ?_
        refine lv_isub hx hb dX1_greatestLeft_49 ?_
        refine lv_topi (fun v31 ev31 => ?_)
        have tv31 : v31.toInt = (1999 - fw.toInt + 2147483648) % 4294967296 - 2147483648 := i32_sub ev31
        refine lv_istore (lv' := [(6, .int v31), (5, .int v29), (4, .int 1), (7, .int v25), (0, .ref h0), (1, .int x), (2, .int v), (3, .int y)]) hx hb dX1_greatestLeft_50 hl (by decide) rfl (fun ls hl => ?_)
        refine lv_iload hx hb dX1_greatestLeft_52 (lv_at hl 0 rfl) ?_
        refine lv_iload_n hx hb dX1_greatestLeft_54 rfl (lv_at hl 7 rfl) ?_
        refine lv_aload_n hx hb dX1_greatestLeft_55 rfl (lv_at hl 4 rfl) ?_
        refine lv_iload_n hx hb dX1_greatestLeft_56 rfl (lv_at hl 5 rfl) ?_
        refine lv_iload_n hx hb dX1_greatestLeft_57 rfl (lv_at hl 6 rfl) ?_
        refine lv_iload hx hb dX1_greatestLeft_58 (lv_at hl 1 rfl) ?_
        have hPc := hP.sub (ws' := [(h0, .inr (1, [.ref bk, .int fi, .int ff, .int ft, .int fd, .int fr, .int fw])), (bk, .inr (0, [.int lc, .int ln, .ref a2, .ref a3, .ref a4, .ref a5, .ref a6, .ref a7, .ref a8, .ref a9, .ref a10, .ref a11, .ref a12, .ref a13, .ref a14])), (a11, .inl (cI, 30, .inl f11))]) [0, 1, 2] rfl
        have hDc := hD.sub (ws' := [(h0, .inr (1, [.ref bk, .int fi, .int ff, .int ft, .int fd, .int fr, .int fw])), (bk, .inr (0, [.int lc, .int ln, .ref a2, .ref a3, .ref a4, .ref a5, .ref a6, .ref a7, .ref a8, .ref a9, .ref a10, .ref a11, .ref a12, .ref a13, .ref a14])), (a11, .inl (cI, 30, .inl f11))]) [0, 1, 2] (by decide) rfl
        have hFc := va_free (wc := [(h0, .inr (1, [.ref bk, .int fi, .int ff, .int ft, .int fd, .int fr, .int fw])), (bk, .inr (0, [.int lc, .int ln, .ref a2, .ref a3, .ref a4, .ref a5, .ref a6, .ref a7, .ref a8, .ref a9, .ref a10, .ref a11, .ref a12, .ref a13, .ref a14])), (a11, .inl (cI, 30, .inl f11))]) hD hS hA [0, 1, 2] rfl
        refine va_calli (va_runV (As := [.int x, .int v, .int v29]) (rest := [.int y, .int v31]) ⟨hx, hb, hml, hown, hts⟩ (k_fuelOf l D cI cB cP H.size h0 bk fi ff ft fd fr fw lc ln a2 a3 a4 a5 a6 a7 a8 a9 a10 a11 a12 a13 a14 x v v29 f11 (show 0 ≤ x.toInt ∧ x.toInt ≤ 1300 by first | assumption | omega | decide) (show 0 ≤ v.toInt ∧ v.toInt ≤ 5 by first | assumption | omega | decide) (show 0 ≤ v29.toInt ∧ v29.toInt ≤ 1100000000 by first | assumption | omega | decide) (show 0 ≤ fw.toInt ∧ fw.toInt ≤ 90000 by first | assumption | omega | decide) (by assumption)) (cwV 3 hts gw_k_greatestLeft_0 rfl rfl rfl (by decide +kernel) ⟨Nat.le_of_ble_eq_true rfl, Nat.le_of_ble_eq_true rfl⟩) ⟨ny_blind, va_recv hK hPc (ci := 1) (q0 := 0) rfl rfl, ny_pre hPc hK hN hDc⟩ rfl rfl hl.1 rfl (lv_room (Nat.le_of_ble_eq_true rfl)) dX1_greatestLeft_60 ⟨Nat.le_of_ble_eq_true rfl, Nat.le_of_ble_eq_true rfl⟩) hS (fun q _ h => hFc q h) hFc (fun r32 u t H locs ht hvm hw hB hz1 hk1 hS => ?_)
        obtain ⟨hP1, hD1⟩ := hB
        rw [ht] at hP1
        obtain ⟨hP, hD⟩ := va_join (wr := []) (w1 := [(h0, .inr (1, [.ref bk, .int fi, .int ff, .int ft, .int fd, .int fr, .int fw])), (bk, .inr (0, [.int lc, .int ln, .ref a2, .ref a3, .ref a4, .ref a5, .ref a6, .ref a7, .ref a8, .ref a9, .ref a10, .ref a11, .ref a12, .ref a13, .ref a14])), (a11, .inl (cI, 30, .inl f11))]) hP hD [0, 1, 2] [] rfl rfl (by decide) (by decide) hk1 hFc hP1 hD1
        have hP : va_P D vwCl [(h0, .inr (1, [.ref bk, .int fi, .int ff, .int ft, .int fd, .int fr, .int fw])), (bk, .inr (0, [.int lc, .int ln, .ref a2, .ref a3, .ref a4, .ref a5, .ref a6, .ref a7, .ref a8, .ref a9, .ref a10, .ref a11, .ref a12, .ref a13, .ref a14])), (a11, .inl (cI, 30, .inl f11))] H := hP
        have hD : va_D A [(h0, .inr (1, [.ref bk, .int fi, .int ff, .int ft, .int fd, .int fr, .int fw])), (bk, .inr (0, [.int lc, .int ln, .ref a2, .ref a3, .ref a4, .ref a5, .ref a6, .ref a7, .ref a8, .ref a9, .ref a10, .ref a11, .ref a12, .ref a13, .ref a14])), (a11, .inl (cI, 30, .inl f11))] := hD
        have hr32 : 0 ≤ r32.toInt ∧ r32.toInt ≤ 216650 := hw
        refine lv_isub hx hb dX1_greatestLeft_63 ?_
        refine lv_topi (fun v33 ev33 => ?_)
        have tv33 : v33.toInt = (y.toInt - r32.toInt + 2147483648) % 4294967296 - 2147483648 := i32_sub ev33
        refine va_mmin hx hb (by rw [hml]; exact hl.1.symm) hown (hts (.methodLink RX1 66 Lib.Math.min.name) (by decide +kernel)) (hts (.static Lib.Math.min.name) (by decide +kernel)) (hts (.initialized "java/lang/Math") (by decide +kernel)) (hts (.code Lib.Math.min.name Lib.Math.min.code 2 (some .int)) (by decide +kernel)) (Nat.le_of_ble_eq_true rfl) (Nat.le_of_ble_eq_true rfl) (Nat.le_of_ble_eq_true rfl) (Nat.le_of_ble_eq_true rfl) dX1_greatestLeft_64 ?_
        refine lv_topi (fun v34 ev34 => ?_)
        have tv34 : v34.toInt ≤ v31.toInt ∧ v34.toInt ≤ v33.toInt ∧ (v34.toInt = v31.toInt ∨ v34.toInt = v33.toInt) := i32_min ev34
        refine lv_istore (lv' := [(7, .int v34), (6, .int v31), (5, .int v29), (4, .int 1), (0, .ref h0), (1, .int x), (2, .int v), (3, .int y)]) hx hb dX1_greatestLeft_67 hl (by decide) rfl (fun ls hl => ?_)
        refine lv_iload hx hb dX1_greatestLeft_69 (lv_at hl 0 rfl) ?_
        refine lv_iload hx hb dX1_greatestLeft_71 (lv_at hl 2 rfl) ?_
        refine lv_icmp_lt (tgt := 79) hx hb dX1_greatestLeft_73 (by decide) (fun c35 => ?_) (fun c35 => ?_)
        · have tc35 : v34.toInt < v29.toInt := i32_lt c35
          refine lv_iinc (v := 0) (lv' := [(4, .int 0), (7, .int v34), (6, .int v31), (5, .int v29), (0, .ref h0), (1, .int x), (2, .int v), (3, .int y)]) hx hb dX1_greatestLeft_79 hl (k := 3) rfl (by decide) (by decide) rfl (fun ls hl => ?_)
          refine lv_goto (tgt := 3) hx hb dX1_greatestLeft_82 (by decide) ?_
          refine lv_iload hx hb dX1_greatestLeft_3 (lv_at hl 0 rfl) ?_
          refine lv_if_lt (tgt := 85) hx hb dX1_greatestLeft_5 (by decide) (fun h9 => (by first | exact absurd h9 (by decide) | exact absurd (by decide) h9)) (fun c36 => ?_)
          refine lv_iconst (v := 0) hx hb dX1_greatestLeft_8 (by decide) ?_
          refine lv_iload hx hb dX1_greatestLeft_9 (lv_at hl 0 rfl) ?_
          refine lv_sipush (v := 1000) hx hb dX1_greatestLeft_11 (by decide) ?_
          refine lv_imul hx hb dX1_greatestLeft_14 ?_
          refine lv_topi (fun vv ev => ?_)
          obtain rfl : vv = 0 := ev.trans (by decide)
          refine lv_aload_n hx hb dX1_greatestLeft_15 rfl (lv_at hl 4 rfl) ?_
          refine va_get (D := D) (ci := 1) (v := .int fw) (C := RX1) (T := TX1) (N := 7) hx hb hts iw_k_greatestLeft_1 hown hK hP 0 rfl rfl 6 (by decide) (hts (.fieldLink RX1 38 "FlightDesk$Flight" "weight" "I") (by decide +kernel)) (fun _ h9 => h9) rfl dX1_greatestLeft_16 ?_
          refine lv_isub hx hb dX1_greatestLeft_19 ?_
          refine lv_topi (fun v37 ev37 => ?_)
          have tv37 : v37.toInt = (0 - fw.toInt + 2147483648) % 4294967296 - 2147483648 := i32_sub ev37
          refine va_mmax hx hb (by rw [hml]; exact hl.1.symm) hown (hts (.methodLink RX1 78 Lib.Math.max.name) (by decide +kernel)) (hts (.static Lib.Math.max.name) (by decide +kernel)) (hts (.initialized "java/lang/Math") (by decide +kernel)) (hts (.code Lib.Math.max.name Lib.Math.max.code 2 (some .int)) (by decide +kernel)) (Nat.le_of_ble_eq_true rfl) (Nat.le_of_ble_eq_true rfl) (Nat.le_of_ble_eq_true rfl) (Nat.le_of_ble_eq_true rfl) dX1_greatestLeft_20 ?_
          refine lv_topi (fun v38 ev38 => ?_)
          have tv38 : v38.toInt ≥ 0 ∧ v38.toInt ≥ v37.toInt ∧ (v38.toInt = 0 ∨ v38.toInt = v37.toInt) := i32_max ev38
          refine lv_istore (lv' := [(5, .int v38), (4, .int 0), (7, .int v34), (6, .int v31), (0, .ref h0), (1, .int x), (2, .int v), (3, .int y)]) hx hb dX1_greatestLeft_23 hl (by decide) rfl (fun ls hl => ?_)
          refine lv_iload hx hb dX1_greatestLeft_25 (lv_at hl 1 rfl) ?_
          refine lv_iconst (v := 4) hx hb dX1_greatestLeft_27 (by decide) ?_
          refine lv_icmp_ne (tgt := 35) hx hb dX1_greatestLeft_28 (by decide) (fun c39 => ?_) (fun h9 => (by first | exact absurd h9 (by decide) | exact absurd (by decide) h9))
          refine lv_iload hx hb dX1_greatestLeft_35 (lv_at hl 1 rfl) ?_
          refine lv_iconst (v := 1) hx hb dX1_greatestLeft_37 (by decide) ?_
          refine lv_iadd hx hb dX1_greatestLeft_38 ?_
          refine lv_topi (fun vv ev => ?_)
          obtain rfl : vv = 1 := ev.trans (by decide)
          refine lv_sipush (v := 1000) hx hb dX1_greatestLeft_39 (by decide) ?_
          refine lv_imul hx hb dX1_greatestLeft_42 ?_
          refine lv_topi (fun vv ev => ?_)
          obtain rfl : vv = 1000 := ev.trans (by decide)
          refine lv_iconst (v := 1) hx hb dX1_greatestLeft_43 (by decide) ?_
          refine lv_isub hx hb dX1_greatestLeft_44 ?_
          refine lv_topi (fun vv ev => ?_)
          obtain rfl : vv = 999 := ev.trans (by decide)
          refine lv_aload_n hx hb dX1_greatestLeft_45 rfl (lv_at hl 4 rfl) ?_
          refine va_get (D := D) (ci := 1) (v := .int fw) (C := RX1) (T := TX1) (N := 7) hx hb hts iw_k_greatestLeft_1 hown hK hP 0 rfl rfl 6 (by decide) (hts (.fieldLink RX1 38 "FlightDesk$Flight" "weight" "I") (by decide +kernel)) (fun _ h9 => h9) rfl dX1_greatestLeft_46 ?_
          refine lv_isub hx hb dX1_greatestLeft_49 ?_
          refine lv_topi (fun v40 ev40 => ?_)
          have tv40 : v40.toInt = (999 - fw.toInt + 2147483648) % 4294967296 - 2147483648 := i32_sub ev40
          refine lv_istore (lv' := [(6, .int v40), (5, .int v38), (4, .int 0), (7, .int v34), (0, .ref h0), (1, .int x), (2, .int v), (3, .int y)]) hx hb dX1_greatestLeft_50 hl (by decide) rfl (fun ls hl => ?_)
          refine lv_iload hx hb dX1_greatestLeft_52 (lv_at hl 0 rfl) ?_
          refine lv_iload_n hx hb dX1_greatestLeft_54 rfl (lv_at hl 7 rfl) ?_
          refine lv_aload_n hx hb dX1_greatestLeft_55 rfl (lv_at hl 4 rfl) ?_
          refine lv_iload_n hx hb dX1_greatestLeft_56 rfl (lv_at hl 5 rfl) ?_
          refine lv_iload_n hx hb dX1_greatestLeft_57 rfl (lv_at hl 6 rfl) ?_
          refine lv_iload hx hb dX1_greatestLeft_58 (lv_at hl 1 rfl) ?_
          have hPc := hP.sub (ws' := [(h0, .inr (1, [.ref bk, .int fi, .int ff, .int ft, .int fd, .int fr, .int fw])), (bk, .inr (0, [.int lc, .int ln, .ref a2, .ref a3, .ref a4, .ref a5, .ref a6, .ref a7, .ref a8, .ref a9, .ref a10, .ref a11, .ref a12, .ref a13, .ref a14])), (a11, .inl (cI, 30, .inl f11))]) [0, 1, 2] rfl
          have hDc := hD.sub (ws' := [(h0, .inr (1, [.ref bk, .int fi, .int ff, .int ft, .int fd, .int fr, .int fw])), (bk, .inr (0, [.int lc, .int ln, .ref a2, .ref a3, .ref a4, .ref a5, .ref a6, .ref a7, .ref a8, .ref a9, .ref a10, .ref a11, .ref a12, .ref a13, .ref a14])), (a11, .inl (cI, 30, .inl f11))]) [0, 1, 2] (by decide) rfl
          have hFc := va_free (wc := [(h0, .inr (1, [.ref bk, .int fi, .int ff, .int ft, .int fd, .int fr, .int fw])), (bk, .inr (0, [.int lc, .int ln, .ref a2, .ref a3, .ref a4, .ref a5, .ref a6, .ref a7, .ref a8, .ref a9, .ref a10, .ref a11, .ref a12, .ref a13, .ref a14])), (a11, .inl (cI, 30, .inl f11))]) hD hS hA [0, 1, 2] rfl
          refine va_calli (va_runV (As := [.int x, .int v, .int v38]) (rest := [.int y, .int v40]) ⟨hx, hb, hml, hown, hts⟩ (k_fuelOf l D cI cB cP H.size h0 bk fi ff ft fd fr fw lc ln a2 a3 a4 a5 a6 a7 a8 a9 a10 a11 a12 a13 a14 x v v38 f11 (show 0 ≤ x.toInt ∧ x.toInt ≤ 1300 by first | assumption | omega | decide) (show 0 ≤ v.toInt ∧ v.toInt ≤ 5 by first | assumption | omega | decide) (show 0 ≤ v38.toInt ∧ v38.toInt ≤ 1100000000 by first | assumption | omega | decide) (show 0 ≤ fw.toInt ∧ fw.toInt ≤ 90000 by first | assumption | omega | decide) (by assumption)) (cwV 3 hts gw_k_greatestLeft_0 rfl rfl rfl (by decide +kernel) ⟨Nat.le_of_ble_eq_true rfl, Nat.le_of_ble_eq_true rfl⟩) ⟨ny_blind, va_recv hK hPc (ci := 1) (q0 := 0) rfl rfl, ny_pre hPc hK hN hDc⟩ rfl rfl hl.1 rfl (lv_room (Nat.le_of_ble_eq_true rfl)) dX1_greatestLeft_60 ⟨Nat.le_of_ble_eq_true rfl, Nat.le_of_ble_eq_true rfl⟩) hS (fun q _ h => hFc q h) hFc (fun r41 u t H locs ht hvm hw hB hz1 hk1 hS => ?_)
          obtain ⟨hP1, hD1⟩ := hB
          rw [ht] at hP1
          obtain ⟨hP, hD⟩ := va_join (wr := []) (w1 := [(h0, .inr (1, [.ref bk, .int fi, .int ff, .int ft, .int fd, .int fr, .int fw])), (bk, .inr (0, [.int lc, .int ln, .ref a2, .ref a3, .ref a4, .ref a5, .ref a6, .ref a7, .ref a8, .ref a9, .ref a10, .ref a11, .ref a12, .ref a13, .ref a14])), (a11, .inl (cI, 30, .inl f11))]) hP hD [0, 1, 2] [] rfl rfl (by decide) (by decide) hk1 hFc hP1 hD1
          have hP : va_P D vwCl [(h0, .inr (1, [.ref bk, .int fi, .int ff, .int ft, .int fd, .int fr, .int fw])), (bk, .inr (0, [.int lc, .int ln, .ref a2, .ref a3, .ref a4, .ref a5, .ref a6, .ref a7, .ref a8, .ref a9, .ref a10, .ref a11, .ref a12, .ref a13, .ref a14])), (a11, .inl (cI, 30, .inl f11))] H := hP
          have hD : va_D A [(h0, .inr (1, [.ref bk, .int fi, .int ff, .int ft, .int fd, .int fr, .int fw])), (bk, .inr (0, [.int lc, .int ln, .ref a2, .ref a3, .ref a4, .ref a5, .ref a6, .ref a7, .ref a8, .ref a9, .ref a10, .ref a11, .ref a12, .ref a13, .ref a14])), (a11, .inl (cI, 30, .inl f11))] := hD
          have hr41 : 0 ≤ r41.toInt ∧ r41.toInt ≤ 216650 := hw
          refine lv_isub hx hb dX1_greatestLeft_63 ?_
          refine lv_topi (fun v42 ev42 => ?_)
          have tv42 : v42.toInt = (y.toInt - r41.toInt + 2147483648) % 4294967296 - 2147483648 := i32_sub ev42
          refine va_mmin hx hb (by rw [hml]; exact hl.1.symm) hown (hts (.methodLink RX1 66 Lib.Math.min.name) (by decide +kernel)) (hts (.static Lib.Math.min.name) (by decide +kernel)) (hts (.initialized "java/lang/Math") (by decide +kernel)) (hts (.code Lib.Math.min.name Lib.Math.min.code 2 (some .int)) (by decide +kernel)) (Nat.le_of_ble_eq_true rfl) (Nat.le_of_ble_eq_true rfl) (Nat.le_of_ble_eq_true rfl) (Nat.le_of_ble_eq_true rfl) dX1_greatestLeft_64 ?_
          refine lv_topi (fun v43 ev43 => ?_)
          have tv43 : v43.toInt ≤ v40.toInt ∧ v43.toInt ≤ v42.toInt ∧ (v43.toInt = v40.toInt ∨ v43.toInt = v42.toInt) := i32_min ev43
          refine lv_istore (lv' := [(7, .int v43), (6, .int v40), (5, .int v38), (4, .int 0), (0, .ref h0), (1, .int x), (2, .int v), (3, .int y)]) hx hb dX1_greatestLeft_67 hl (by decide) rfl (fun ls hl => ?_)
          refine lv_iload hx hb dX1_greatestLeft_69 (lv_at hl 0 rfl) ?_
          refine lv_iload hx hb dX1_greatestLeft_71 (lv_at hl 2 rfl) ?_
          refine lv_icmp_lt (tgt := 79) hx hb dX1_greatestLeft_73 (by decide) (fun c44 => ?_) (fun c44 => ?_)
          · have tc44 : v43.toInt < v38.toInt := i32_lt c44
            refine lv_iinc (v := (-1)) (lv' := [(4, .int (-1)), (7, .int v43), (6, .int v40), (5, .int v38), (0, .ref h0), (1, .int x), (2, .int v), (3, .int y)]) hx hb dX1_greatestLeft_79 hl (k := 3) rfl (by decide) (by decide) rfl (fun ls hl => ?_)
            refine lv_goto (tgt := 3) hx hb dX1_greatestLeft_82 (by decide) ?_
            refine lv_iload hx hb dX1_greatestLeft_3 (lv_at hl 0 rfl) ?_
            refine lv_if_lt (tgt := 85) hx hb dX1_greatestLeft_5 (by decide) (fun c45 => ?_) (fun h9 => (by first | exact absurd h9 (by decide) | exact absurd (by decide) h9))
            refine lv_iconst (v := 0) hx hb dX1_greatestLeft_85 (by decide) ?_
            have hP9 := hP.sub (ws' := [(h0, .inr (1, [.ref bk, .int fi, .int ff, .int ft, .int fd, .int fr, .int fw])), (bk, .inr (0, [.int lc, .int ln, .ref a2, .ref a3, .ref a4, .ref a5, .ref a6, .ref a7, .ref a8, .ref a9, .ref a10, .ref a11, .ref a12, .ref a13, .ref a14])), (a11, .inl (cI, 30, .inl f11))]) [0, 1, 2] rfl
            have hD9 := hD.sub (ws' := [(h0, .inr (1, [.ref bk, .int fi, .int ff, .int ft, .int fd, .int fr, .int fw])), (bk, .inr (0, [.int lc, .int ln, .ref a2, .ref a3, .ref a4, .ref a5, .ref a6, .ref a7, .ref a8, .ref a9, .ref a10, .ref a11, .ref a12, .ref a13, .ref a14])), (a11, .inl (cI, 30, .inl f11))]) [0, 1, 2] (by decide) rfl
            refine W.widen (k := 0) (n := 0) (by decide) (by decide) ?_
            exact W.iret (v := 0) hx hb hr (fun t ht hW => ⟨⟨0, (), rfl, (trivial), by rw [ht]; exact hP9, hD9⟩, hS.F ht⟩) hS.2.2 dX1_greatestLeft_86
          · have tc44 : ¬ (v43.toInt < v38.toInt) := i32_nlt c44
            refine lv_iload hx hb dX1_greatestLeft_76 (lv_at hl 0 rfl) ?_
            have hP9 := hP.sub (ws' := [(h0, .inr (1, [.ref bk, .int fi, .int ff, .int ft, .int fd, .int fr, .int fw])), (bk, .inr (0, [.int lc, .int ln, .ref a2, .ref a3, .ref a4, .ref a5, .ref a6, .ref a7, .ref a8, .ref a9, .ref a10, .ref a11, .ref a12, .ref a13, .ref a14])), (a11, .inl (cI, 30, .inl f11))]) [0, 1, 2] rfl
            have hD9 := hD.sub (ws' := [(h0, .inr (1, [.ref bk, .int fi, .int ff, .int ft, .int fd, .int fr, .int fw])), (bk, .inr (0, [.int lc, .int ln, .ref a2, .ref a3, .ref a4, .ref a5, .ref a6, .ref a7, .ref a8, .ref a9, .ref a10, .ref a11, .ref a12, .ref a13, .ref a14])), (a11, .inl (cI, 30, .inl f11))]) [0, 1, 2] (by decide) rfl
            refine W.widen (k := 0) (n := 0) (by decide) (by decide) ?_
            exact W.iret (v := v43) hx hb hr (fun t ht hW => ⟨⟨v43, (), rfl, (trivial), by rw [ht]; exact hP9, hD9⟩, hS.F ht⟩) hS.2.2 dX1_greatestLeft_78
        · have tc35 : ¬ (v34.toInt < v29.toInt) := i32_nlt c35
          refine lv_iload hx hb dX1_greatestLeft_76 (lv_at hl 0 rfl) ?_
          have hP9 := hP.sub (ws' := [(h0, .inr (1, [.ref bk, .int fi, .int ff, .int ft, .int fd, .int fr, .int fw])), (bk, .inr (0, [.int lc, .int ln, .ref a2, .ref a3, .ref a4, .ref a5, .ref a6, .ref a7, .ref a8, .ref a9, .ref a10, .ref a11, .ref a12, .ref a13, .ref a14])), (a11, .inl (cI, 30, .inl f11))]) [0, 1, 2] rfl
          have hD9 := hD.sub (ws' := [(h0, .inr (1, [.ref bk, .int fi, .int ff, .int ft, .int fd, .int fr, .int fw])), (bk, .inr (0, [.int lc, .int ln, .ref a2, .ref a3, .ref a4, .ref a5, .ref a6, .ref a7, .ref a8, .ref a9, .ref a10, .ref a11, .ref a12, .ref a13, .ref a14])), (a11, .inl (cI, 30, .inl f11))]) [0, 1, 2] (by decide) rfl
          refine W.widen (k := 0) (n := 0) (by decide) (by decide) ?_
          exact W.iret (v := v34) hx hb hr (fun t ht hW => ⟨⟨v34, (), rfl, (trivial), by rw [ht]; exact hP9, hD9⟩, hS.F ht⟩) hS.2.2 dX1_greatestLeft_78
      · have tc26 : ¬ (v25.toInt < v20.toInt) := i32_nlt c26
        refine lv_iload hx hb dX1_greatestLeft_76 (lv_at hl 0 rfl) ?_
        have hP9 := hP.sub (ws' := [(h0, .inr (1, [.ref bk, .int fi, .int ff, .int ft, .int fd, .int fr, .int fw])), (bk, .inr (0, [.int lc, .int ln, .ref a2, .ref a3, .ref a4, .ref a5, .ref a6, .ref a7, .ref a8, .ref a9, .ref a10, .ref a11, .ref a12, .ref a13, .ref a14])), (a11, .inl (cI, 30, .inl f11))]) [0, 1, 2] rfl
        have hD9 := hD.sub (ws' := [(h0, .inr (1, [.ref bk, .int fi, .int ff, .int ft, .int fd, .int fr, .int fw])), (bk, .inr (0, [.int lc, .int ln, .ref a2, .ref a3, .ref a4, .ref a5, .ref a6, .ref a7, .ref a8, .ref a9, .ref a10, .ref a11, .ref a12, .ref a13, .ref a14])), (a11, .inl (cI, 30, .inl f11))]) [0, 1, 2] (by decide) rfl
        refine W.widen (k := 0) (n := 0) (by decide) (by decide) ?_
        exact W.iret (v := v25) hx hb hr (fun t ht hW => ⟨⟨v25, (), rfl, (trivial), by rw [ht]; exact hP9, hD9⟩, hS.F ht⟩) hS.2.2 dX1_greatestLeft_78
    · have tc17 : ¬ (v16.toInt < v11.toInt) := i32_nlt c17
      refine lv_iload hx hb dX1_greatestLeft_76 (lv_at hl 0 rfl) ?_
      have hP9 := hP.sub (ws' := [(h0, .inr (1, [.ref bk, .int fi, .int ff, .int ft, .int fd, .int fr, .int fw])), (bk, .inr (0, [.int lc, .int ln, .ref a2, .ref a3, .ref a4, .ref a5, .ref a6, .ref a7, .ref a8, .ref a9, .ref a10, .ref a11, .ref a12, .ref a13, .ref a14])), (a11, .inl (cI, 30, .inl f11))]) [0, 1, 2] rfl
      have hD9 := hD.sub (ws' := [(h0, .inr (1, [.ref bk, .int fi, .int ff, .int ft, .int fd, .int fr, .int fw])), (bk, .inr (0, [.int lc, .int ln, .ref a2, .ref a3, .ref a4, .ref a5, .ref a6, .ref a7, .ref a8, .ref a9, .ref a10, .ref a11, .ref a12, .ref a13, .ref a14])), (a11, .inl (cI, 30, .inl f11))]) [0, 1, 2] (by decide) rfl
      refine W.widen (k := 0) (n := 0) (by decide) (by decide) ?_
      exact W.iret (v := v16) hx hb hr (fun t ht hW => ⟨⟨v16, (), rfl, (trivial), by rw [ht]; exact hP9, hD9⟩, hS.F ht⟩) hS.2.2 dX1_greatestLeft_78
  · have tc8 : ¬ (v7.toInt < v3.toInt) := i32_nlt c8
    refine lv_iload hx hb dX1_greatestLeft_76 (lv_at hl 0 rfl) ?_
    have hP9 := hP.sub (ws' := [(h0, .inr (1, [.ref bk, .int fi, .int ff, .int ft, .int fd, .int fr, .int fw])), (bk, .inr (0, [.int lc, .int ln, .ref a2, .ref a3, .ref a4, .ref a5, .ref a6, .ref a7, .ref a8, .ref a9, .ref a10, .ref a11, .ref a12, .ref a13, .ref a14])), (a11, .inl (cI, 30, .inl f11))]) [0, 1, 2] rfl
    have hD9 := hD.sub (ws' := [(h0, .inr (1, [.ref bk, .int fi, .int ff, .int ft, .int fd, .int fr, .int fw])), (bk, .inr (0, [.int lc, .int ln, .ref a2, .ref a3, .ref a4, .ref a5, .ref a6, .ref a7, .ref a8, .ref a9, .ref a10, .ref a11, .ref a12, .ref a13, .ref a14])), (a11, .inl (cI, 30, .inl f11))]) [0, 1, 2] (by decide) rfl
    refine W.widen (k := 0) (n := 0) (by decide) (by decide) ?_
    exact W.iret (v := v7) hx hb hr (fun t ht hW => ⟨⟨v7, (), rfl, (trivial), by rw [ht]; exact hP9, hD9⟩, hS.F ht⟩) hS.2.2 dX1_greatestLeft_78

def wk_k_brokenLaw : List Cond := .code yX1_brokenLaw cX1_brokenLaw 3 (some .int) :: ([.fieldLink RX1 9 "FlightDesk$Flight" "book" "LFlightDesk$Book;", .fieldLink RX1 32 "FlightDesk$Book" "limit" "[I", .fieldLink RX1 38 "FlightDesk$Flight" "weight" "I"] ++ wsX10 ++ wsX00)
theorem iw_k_brokenLaw_1 : ∀ w ∈ wsX10, w ∈ wk_k_brokenLaw := fun _ h => List.mem_cons_of_mem _ (List.mem_append_left _ (List.mem_append_right _ h))
theorem iw_k_brokenLaw_0 : ∀ w ∈ wsX00, w ∈ wk_k_brokenLaw := fun _ h => List.mem_cons_of_mem _ (List.mem_append_right _ h)
set_option maxHeartbeats 4000000 in
set_option maxRecDepth 100000 in
theorem k_brokenLaw (l : Launch) (D : va_G) (cI cB cP : ClassId) (sz : Nat) (h0 : Nat) (bk : Nat) (fi : Int32) (ff : Int32) (ft : Int32) (fd : Int32) (fr : Int32) (fw : Int32) (lc : Int32) (ln : Int32) (a2 : Nat) (a3 : Nat) (a4 : Nat) (a5 : Nat) (a6 : Nat) (a7 : Nat) (a8 : Nat) (a9 : Nat) (a10 : Nat) (a11 : Nat) (a12 : Nat) (a13 : Nat) (a14 : Nat) (x : Int32) (y : Int32) (f13 : Nat → Int32) : Met l yX1_brokenLaw wk_k_brokenLaw ({ frames := 0, cells := 0, slots := 0, locals := 0 } : Room) (va_Pc [.ref h0, .int x, .int y] (Pw D cI cB cP sz [(h0, .inr (1, [.ref bk, .int fi, .int ff, .int ft, .int fd, .int fr, .int fw])), (bk, .inr (0, [.int lc, .int ln, .ref a2, .ref a3, .ref a4, .ref a5, .ref a6, .ref a7, .ref a8, .ref a9, .ref a10, .ref a11, .ref a12, .ref a13, .ref a14])), (a13, .inl (cI, 4, .inl f13))])) (va_Qi (fun (r : Int32) (_ : Unit) => True) (fun _ t => va_P D vwCl [(h0, .inr (1, [.ref bk, .int fi, .int ff, .int ft, .int fd, .int fr, .int fw])), (bk, .inr (0, [.int lc, .int ln, .ref a2, .ref a3, .ref a4, .ref a5, .ref a6, .ref a7, .ref a8, .ref a9, .ref a10, .ref a11, .ref a12, .ref a13, .ref a14])), (a13, .inl (cI, 4, .inl f13))] t.heap ∧ va_D (va_A [(h0, .inr (1, [.ref bk, .int fi, .int ff, .int ft, .int fd, .int fr, .int fw])), (bk, .inr (0, [.int lc, .int ln, .ref a2, .ref a3, .ref a4, .ref a5, .ref a6, .ref a7, .ref a8, .ref a9, .ref a10, .ref a11, .ref a12, .ref a13, .ref a14])), (a13, .inl (cI, 4, .inl f13))] sz) [(h0, .inr (1, [.ref bk, .int fi, .int ff, .int ft, .int fd, .int fr, .int fw])), (bk, .inr (0, [.int lc, .int ln, .ref a2, .ref a3, .ref a4, .ref a5, .ref a6, .ref a7, .ref a8, .ref a9, .ref a10, .ref a11, .ref a12, .ref a13, .ref a14])), (a13, .inl (cI, 4, .inl f13))]) (va_A [(h0, .inr (1, [.ref bk, .int fi, .int ff, .int ft, .int fd, .int fr, .int fw])), (bk, .inr (0, [.int lc, .int ln, .ref a2, .ref a3, .ref a4, .ref a5, .ref a6, .ref a7, .ref a8, .ref a9, .ref a10, .ref a11, .ref a12, .ref a13, .ref a14])), (a13, .inl (cI, 4, .inl f13))] sz)) 0 0 (va_A [(h0, .inr (1, [.ref bk, .int fi, .int ff, .int ft, .int fd, .int fr, .int fw])), (bk, .inr (0, [.int lc, .int ln, .ref a2, .ref a3, .ref a4, .ref a5, .ref a6, .ref a7, .ref a8, .ref a9, .ref a10, .ref a11, .ref a12, .ref a13, .ref a14])), (a13, .inl (cI, 4, .inl f13))] sz) := by
  refine Met.ofW (cc := cX1_brokenLaw) (maxL := 3) (ret := (some .int)) (by decide) rfl ?_
  intro p e s m args below meth c s₁ B hml hv
  obtain ⟨rfl, hsz, hP, ⟨hK, hN⟩, hD0⟩ := hv
  have hx := B.exec
  have hb := B.bytes
  have hr := B.returns
  have hts := atoms_spec (ws := wk_k_brokenLaw) B.pre
  have hown : s.vm.findClass RX1 = some m.cls := findClass_of_methodNamed B.named
  have hlocks := B.notSynchronized
  subst hsz
  have hD := hD0.self (sz := s.heap.size)
  generalize hAe : va_A [(h0, .inr (1, [.ref bk, .int fi, .int ff, .int ft, .int fd, .int fr, .int fw])), (bk, .inr (0, [.int lc, .int ln, .ref a2, .ref a3, .ref a4, .ref a5, .ref a6, .ref a7, .ref a8, .ref a9, .ref a10, .ref a11, .ref a12, .ref a13, .ref a14])), (a13, .inl (cI, 4, .inl f13))] s.heap.size = A at hD ⊢
  have hA : ∀ q : Nat, s.heap.size ≤ q → A q := fun q h => by rw [← hAe]; exact Or.inr h
  have hS : va_S A s.heap s.heap [] := va_S.rf
  have hP : va_P D vwCl [(h0, .inr (1, [.ref bk, .int fi, .int ff, .int ft, .int fd, .int fr, .int fw])), (bk, .inr (0, [.int lc, .int ln, .ref a2, .ref a3, .ref a4, .ref a5, .ref a6, .ref a7, .ref a8, .ref a9, .ref a10, .ref a11, .ref a12, .ref a13, .ref a14])), (a13, .inl (cI, 4, .inl f13))] s.heap := hP
  have hl := lv_entry ([.ref h0, .int x, .int y]) (n := 3) (Nat.le_of_ble_eq_true rfl)
  rw [lg_entry_eq]
  generalize (lg_sl ([.ref h0, .int x, .int y]) ++ List.replicate (3 - (lg_sl ([.ref h0, .int x, .int y])).length) Slot.unset).toArray = ls at hl ⊢
  have hl : lv_has ls 3 [(0, .ref h0), (1, .int x), (2, .int y)] := hl
  refine lv_iload_n hx hb dX1_brokenLaw_0 rfl (lv_at hl 1 rfl) ?_
  refine lv_aload_n hx hb dX1_brokenLaw_1 rfl (lv_at hl 0 rfl) ?_
  refine va_get (D := D) (ci := 1) (v := .ref bk) (C := RX1) (T := TX1) (N := 7) hx hb hts iw_k_brokenLaw_1 hown hK hP 0 rfl rfl 0 (by decide) (hts (.fieldLink RX1 9 "FlightDesk$Flight" "book" "LFlightDesk$Book;") (by decide +kernel)) (fun _ h9 => h9) rfl dX1_brokenLaw_2 ?_
  refine va_get (D := D) (ci := 0) (v := .ref a13) (C := RX0) (T := TX0) (N := 15) hx hb hts iw_k_brokenLaw_0 hown hK hP 1 rfl rfl 13 (by decide) (hts (.fieldLink RX1 32 "FlightDesk$Book" "limit" "[I") (by decide +kernel)) (fun _ h9 => h9) rfl dX1_brokenLaw_5 ?_
  refine lv_iconst (v := 0) hx hb dX1_brokenLaw_8 (by decide) ?_
  refine va_iald hx hb hK hP 2 0 rfl rfl (show ¬ (_ ∨ _) by decide) dX1_brokenLaw_9 ?_
  refine lv_topi (fun v1 ev1 => ?_)
  refine lv_icmp_le (tgt := 15) hx hb dX1_brokenLaw_10 (by decide) (fun c2 => ?_) (fun c2 => ?_)
  · have tc2 : x.toInt ≤ v1.toInt := i32_le c2
    refine lv_aload_n hx hb dX1_brokenLaw_15 rfl (lv_at hl 0 rfl) ?_
    refine va_get (D := D) (ci := 1) (v := .int fw) (C := RX1) (T := TX1) (N := 7) hx hb hts iw_k_brokenLaw_1 hown hK hP 0 rfl rfl 6 (by decide) (hts (.fieldLink RX1 38 "FlightDesk$Flight" "weight" "I") (by decide +kernel)) (fun _ h9 => h9) rfl dX1_brokenLaw_16 ?_
    refine lv_iload_n hx hb dX1_brokenLaw_19 rfl (lv_at hl 1 rfl) ?_
    refine lv_iadd hx hb dX1_brokenLaw_20 ?_
    refine lv_topi (fun v3 ev3 => ?_)
    have tv3 : v3.toInt = (fw.toInt + x.toInt + 2147483648) % 4294967296 - 2147483648 := i32_add ev3
    refine lv_aload_n hx hb dX1_brokenLaw_21 rfl (lv_at hl 0 rfl) ?_
    refine va_get (D := D) (ci := 1) (v := .ref bk) (C := RX1) (T := TX1) (N := 7) hx hb hts iw_k_brokenLaw_1 hown hK hP 0 rfl rfl 0 (by decide) (hts (.fieldLink RX1 9 "FlightDesk$Flight" "book" "LFlightDesk$Book;") (by decide +kernel)) (fun _ h9 => h9) rfl dX1_brokenLaw_22 ?_
    refine va_get (D := D) (ci := 0) (v := .ref a13) (C := RX0) (T := TX0) (N := 15) hx hb hts iw_k_brokenLaw_0 hown hK hP 1 rfl rfl 13 (by decide) (hts (.fieldLink RX1 32 "FlightDesk$Book" "limit" "[I") (by decide +kernel)) (fun _ h9 => h9) rfl dX1_brokenLaw_25 ?_
    refine lv_iconst (v := 1) hx hb dX1_brokenLaw_28 (by decide) ?_
    refine va_iald hx hb hK hP 2 0 rfl rfl (show ¬ (_ ∨ _) by decide) dX1_brokenLaw_29 ?_
    refine lv_topi (fun v4 ev4 => ?_)
    refine lv_icmp_le (tgt := 35) hx hb dX1_brokenLaw_30 (by decide) (fun c5 => ?_) (fun c5 => ?_)
    · have tc5 : v3.toInt ≤ v4.toInt := i32_le c5
      refine lv_aload_n hx hb dX1_brokenLaw_35 rfl (lv_at hl 0 rfl) ?_
      refine va_get (D := D) (ci := 1) (v := .int fw) (C := RX1) (T := TX1) (N := 7) hx hb hts iw_k_brokenLaw_1 hown hK hP 0 rfl rfl 6 (by decide) (hts (.fieldLink RX1 38 "FlightDesk$Flight" "weight" "I") (by decide +kernel)) (fun _ h9 => h9) rfl dX1_brokenLaw_36 ?_
      refine lv_iload_n hx hb dX1_brokenLaw_39 rfl (lv_at hl 2 rfl) ?_
      refine lv_iadd hx hb dX1_brokenLaw_40 ?_
      refine lv_topi (fun v6 ev6 => ?_)
      have tv6 : v6.toInt = (fw.toInt + y.toInt + 2147483648) % 4294967296 - 2147483648 := i32_add ev6
      refine lv_aload_n hx hb dX1_brokenLaw_41 rfl (lv_at hl 0 rfl) ?_
      refine va_get (D := D) (ci := 1) (v := .ref bk) (C := RX1) (T := TX1) (N := 7) hx hb hts iw_k_brokenLaw_1 hown hK hP 0 rfl rfl 0 (by decide) (hts (.fieldLink RX1 9 "FlightDesk$Flight" "book" "LFlightDesk$Book;") (by decide +kernel)) (fun _ h9 => h9) rfl dX1_brokenLaw_42 ?_
      refine va_get (D := D) (ci := 0) (v := .ref a13) (C := RX0) (T := TX0) (N := 15) hx hb hts iw_k_brokenLaw_0 hown hK hP 1 rfl rfl 13 (by decide) (hts (.fieldLink RX1 32 "FlightDesk$Book" "limit" "[I") (by decide +kernel)) (fun _ h9 => h9) rfl dX1_brokenLaw_45 ?_
      refine lv_iconst (v := 2) hx hb dX1_brokenLaw_48 (by decide) ?_
      refine va_iald hx hb hK hP 2 0 rfl rfl (show ¬ (_ ∨ _) by decide) dX1_brokenLaw_49 ?_
      refine lv_topi (fun v7 ev7 => ?_)
      refine lv_icmp_le (tgt := 57) hx hb dX1_brokenLaw_50 (by decide) (fun c8 => ?_) (fun c8 => ?_)
      · have tc8 : v6.toInt ≤ v7.toInt := i32_le c8
        refine lv_iconst (v := 0) hx hb dX1_brokenLaw_57 (by decide) ?_
        have hP9 := hP.sub (ws' := [(h0, .inr (1, [.ref bk, .int fi, .int ff, .int ft, .int fd, .int fr, .int fw])), (bk, .inr (0, [.int lc, .int ln, .ref a2, .ref a3, .ref a4, .ref a5, .ref a6, .ref a7, .ref a8, .ref a9, .ref a10, .ref a11, .ref a12, .ref a13, .ref a14])), (a13, .inl (cI, 4, .inl f13))]) [0, 1, 2] rfl
        have hD9 := hD.sub (ws' := [(h0, .inr (1, [.ref bk, .int fi, .int ff, .int ft, .int fd, .int fr, .int fw])), (bk, .inr (0, [.int lc, .int ln, .ref a2, .ref a3, .ref a4, .ref a5, .ref a6, .ref a7, .ref a8, .ref a9, .ref a10, .ref a11, .ref a12, .ref a13, .ref a14])), (a13, .inl (cI, 4, .inl f13))]) [0, 1, 2] (by decide) rfl
        refine W.widen (k := 0) (n := 0) (by decide) (by decide) ?_
        exact W.iret (v := 0) hx hb hr (fun t ht hW => ⟨⟨0, (), rfl, (trivial), by rw [ht]; exact hP9, hD9⟩, hS.F ht⟩) hS.2.2 dX1_brokenLaw_58
      · have tc8 : ¬ (v6.toInt ≤ v7.toInt) := i32_nle c8
        refine lv_iconst (v := 3) hx hb dX1_brokenLaw_53 (by decide) ?_
        refine lv_goto (tgt := 58) hx hb dX1_brokenLaw_54 (by decide) ?_
        have hP9 := hP.sub (ws' := [(h0, .inr (1, [.ref bk, .int fi, .int ff, .int ft, .int fd, .int fr, .int fw])), (bk, .inr (0, [.int lc, .int ln, .ref a2, .ref a3, .ref a4, .ref a5, .ref a6, .ref a7, .ref a8, .ref a9, .ref a10, .ref a11, .ref a12, .ref a13, .ref a14])), (a13, .inl (cI, 4, .inl f13))]) [0, 1, 2] rfl
        have hD9 := hD.sub (ws' := [(h0, .inr (1, [.ref bk, .int fi, .int ff, .int ft, .int fd, .int fr, .int fw])), (bk, .inr (0, [.int lc, .int ln, .ref a2, .ref a3, .ref a4, .ref a5, .ref a6, .ref a7, .ref a8, .ref a9, .ref a10, .ref a11, .ref a12, .ref a13, .ref a14])), (a13, .inl (cI, 4, .inl f13))]) [0, 1, 2] (by decide) rfl
        refine W.widen (k := 0) (n := 0) (by decide) (by decide) ?_
        exact W.iret (v := 3) hx hb hr (fun t ht hW => ⟨⟨3, (), rfl, (trivial), by rw [ht]; exact hP9, hD9⟩, hS.F ht⟩) hS.2.2 dX1_brokenLaw_58
    · have tc5 : ¬ (v3.toInt ≤ v4.toInt) := i32_nle c5
      refine lv_iconst (v := 2) hx hb dX1_brokenLaw_33 (by decide) ?_
      have hP9 := hP.sub (ws' := [(h0, .inr (1, [.ref bk, .int fi, .int ff, .int ft, .int fd, .int fr, .int fw])), (bk, .inr (0, [.int lc, .int ln, .ref a2, .ref a3, .ref a4, .ref a5, .ref a6, .ref a7, .ref a8, .ref a9, .ref a10, .ref a11, .ref a12, .ref a13, .ref a14])), (a13, .inl (cI, 4, .inl f13))]) [0, 1, 2] rfl
      have hD9 := hD.sub (ws' := [(h0, .inr (1, [.ref bk, .int fi, .int ff, .int ft, .int fd, .int fr, .int fw])), (bk, .inr (0, [.int lc, .int ln, .ref a2, .ref a3, .ref a4, .ref a5, .ref a6, .ref a7, .ref a8, .ref a9, .ref a10, .ref a11, .ref a12, .ref a13, .ref a14])), (a13, .inl (cI, 4, .inl f13))]) [0, 1, 2] (by decide) rfl
      refine W.widen (k := 0) (n := 0) (by decide) (by decide) ?_
      exact W.iret (v := 2) hx hb hr (fun t ht hW => ⟨⟨2, (), rfl, (trivial), by rw [ht]; exact hP9, hD9⟩, hS.F ht⟩) hS.2.2 dX1_brokenLaw_34
  · have tc2 : ¬ (x.toInt ≤ v1.toInt) := i32_nle c2
    refine lv_iconst (v := 1) hx hb dX1_brokenLaw_13 (by decide) ?_
    have hP9 := hP.sub (ws' := [(h0, .inr (1, [.ref bk, .int fi, .int ff, .int ft, .int fd, .int fr, .int fw])), (bk, .inr (0, [.int lc, .int ln, .ref a2, .ref a3, .ref a4, .ref a5, .ref a6, .ref a7, .ref a8, .ref a9, .ref a10, .ref a11, .ref a12, .ref a13, .ref a14])), (a13, .inl (cI, 4, .inl f13))]) [0, 1, 2] rfl
    have hD9 := hD.sub (ws' := [(h0, .inr (1, [.ref bk, .int fi, .int ff, .int ft, .int fd, .int fr, .int fw])), (bk, .inr (0, [.int lc, .int ln, .ref a2, .ref a3, .ref a4, .ref a5, .ref a6, .ref a7, .ref a8, .ref a9, .ref a10, .ref a11, .ref a12, .ref a13, .ref a14])), (a13, .inl (cI, 4, .inl f13))]) [0, 1, 2] (by decide) rfl
    refine W.widen (k := 0) (n := 0) (by decide) (by decide) ?_
    exact W.iret (v := 1) hx hb hr (fun t ht hW => ⟨⟨1, (), rfl, (trivial), by rw [ht]; exact hP9, hD9⟩, hS.F ht⟩) hS.2.2 dX1_brokenLaw_14

def wk_k_set : List Cond := .code yX1_set cX1_set 6 none :: ([.fieldLink RX1 15 "FlightDesk$Flight" "isSet" "Z", .fieldLink RX1 19 "FlightDesk$Flight" "from" "I", .fieldLink RX1 23 "FlightDesk$Flight" "to" "I", .fieldLink RX1 26 "FlightDesk$Flight" "day" "I", .fieldLink RX1 29 "FlightDesk$Flight" "reserve" "I", .fieldLink RX1 9 "FlightDesk$Flight" "book" "LFlightDesk$Book;", .fieldLink RX1 32 "FlightDesk$Book" "limit" "[I", .fieldLink RX1 38 "FlightDesk$Flight" "weight" "I"] ++ wsX10 ++ wsX00)
theorem iw_k_set_1 : ∀ w ∈ wsX10, w ∈ wk_k_set := fun _ h => List.mem_cons_of_mem _ (List.mem_append_left _ (List.mem_append_right _ h))
theorem iw_k_set_0 : ∀ w ∈ wsX00, w ∈ wk_k_set := fun _ h => List.mem_cons_of_mem _ (List.mem_append_right _ h)
set_option maxHeartbeats 4000000 in
set_option maxRecDepth 100000 in
theorem k_set (l : Launch) (D : va_G) (cI cB cP : ClassId) (sz : Nat) (h0 : Nat) (bk : Nat) (fi : Int32) (ff : Int32) (ft : Int32) (fd : Int32) (fr : Int32) (fw : Int32) (lc : Int32) (ln : Int32) (a2 : Nat) (a3 : Nat) (a4 : Nat) (a5 : Nat) (a6 : Nat) (a7 : Nat) (a8 : Nat) (a9 : Nat) (a10 : Nat) (a11 : Nat) (a12 : Nat) (a13 : Nat) (a14 : Nat) (x1 : Int32) (x2 : Int32) (x3 : Int32) (x4 : Int32) (x5 : Int32) (f13 : Nat → Int32) (hp9 : 0 ≤ x4.toInt ∧ x4.toInt ≤ 30000) (q39 : 0 ≤ (f13 3).toInt ∧ (f13 3).toInt ≤ 60000) : Met l yX1_set wk_k_set ({ frames := 0, cells := 0, slots := 0, locals := 0 } : Room) (va_Pc [.ref h0, .int x1, .int x2, .int x3, .int x4, .int x5] (Pw D cI cB cP sz [(h0, .inr (1, [.ref bk, .int fi, .int ff, .int ft, .int fd, .int fr, .int fw])), (bk, .inr (0, [.int lc, .int ln, .ref a2, .ref a3, .ref a4, .ref a5, .ref a6, .ref a7, .ref a8, .ref a9, .ref a10, .ref a11, .ref a12, .ref a13, .ref a14])), (a13, .inl (cI, 4, .inl f13))])) (va_Qv (fun (_ : Unit) => True) (fun _ t => ∃ fw9 : Int32, (0 ≤ fw9.toInt ∧ fw9.toInt ≤ 90000) ∧ va_P D vwCl [(h0, .inr (1, [.ref bk, .int 1, .int x1, .int x2, .int x3, .int x5, .int fw9])), (bk, .inr (0, [.int lc, .int ln, .ref a2, .ref a3, .ref a4, .ref a5, .ref a6, .ref a7, .ref a8, .ref a9, .ref a10, .ref a11, .ref a12, .ref a13, .ref a14])), (a13, .inl (cI, 4, .inl f13))] t.heap ∧ va_D (va_A [(h0, .inr (1, [.ref bk, .int fi, .int ff, .int ft, .int fd, .int fr, .int fw])), (bk, .inr (0, [.int lc, .int ln, .ref a2, .ref a3, .ref a4, .ref a5, .ref a6, .ref a7, .ref a8, .ref a9, .ref a10, .ref a11, .ref a12, .ref a13, .ref a14])), (a13, .inl (cI, 4, .inl f13))] sz) [(h0, .inr (1, [.ref bk, .int 1, .int x1, .int x2, .int x3, .int x5, .int fw9])), (bk, .inr (0, [.int lc, .int ln, .ref a2, .ref a3, .ref a4, .ref a5, .ref a6, .ref a7, .ref a8, .ref a9, .ref a10, .ref a11, .ref a12, .ref a13, .ref a14])), (a13, .inl (cI, 4, .inl f13))]) (va_A [(h0, .inr (1, [.ref bk, .int fi, .int ff, .int ft, .int fd, .int fr, .int fw])), (bk, .inr (0, [.int lc, .int ln, .ref a2, .ref a3, .ref a4, .ref a5, .ref a6, .ref a7, .ref a8, .ref a9, .ref a10, .ref a11, .ref a12, .ref a13, .ref a14])), (a13, .inl (cI, 4, .inl f13))] sz)) 0 0 (va_A [(h0, .inr (1, [.ref bk, .int fi, .int ff, .int ft, .int fd, .int fr, .int fw])), (bk, .inr (0, [.int lc, .int ln, .ref a2, .ref a3, .ref a4, .ref a5, .ref a6, .ref a7, .ref a8, .ref a9, .ref a10, .ref a11, .ref a12, .ref a13, .ref a14])), (a13, .inl (cI, 4, .inl f13))] sz) := by
  refine Met.ofW (cc := cX1_set) (maxL := 6) (ret := none) (by decide) rfl ?_
  intro p e s m args below meth c s₁ B hml hv
  obtain ⟨rfl, hsz, hP, ⟨hK, hN⟩, hD0⟩ := hv
  have hx := B.exec
  have hb := B.bytes
  have hr := B.returns
  have hts := atoms_spec (ws := wk_k_set) B.pre
  have hown : s.vm.findClass RX1 = some m.cls := findClass_of_methodNamed B.named
  have hlocks := B.notSynchronized
  subst hsz
  have hD := hD0.self (sz := s.heap.size)
  generalize hAe : va_A [(h0, .inr (1, [.ref bk, .int fi, .int ff, .int ft, .int fd, .int fr, .int fw])), (bk, .inr (0, [.int lc, .int ln, .ref a2, .ref a3, .ref a4, .ref a5, .ref a6, .ref a7, .ref a8, .ref a9, .ref a10, .ref a11, .ref a12, .ref a13, .ref a14])), (a13, .inl (cI, 4, .inl f13))] s.heap.size = A at hD ⊢
  have hA : ∀ q : Nat, s.heap.size ≤ q → A q := fun q h => by rw [← hAe]; exact Or.inr h
  have hS : va_S A s.heap s.heap [] := va_S.rf
  have hP : va_P D vwCl [(h0, .inr (1, [.ref bk, .int fi, .int ff, .int ft, .int fd, .int fr, .int fw])), (bk, .inr (0, [.int lc, .int ln, .ref a2, .ref a3, .ref a4, .ref a5, .ref a6, .ref a7, .ref a8, .ref a9, .ref a10, .ref a11, .ref a12, .ref a13, .ref a14])), (a13, .inl (cI, 4, .inl f13))] s.heap := hP
  have hl := lv_entry ([.ref h0, .int x1, .int x2, .int x3, .int x4, .int x5]) (n := 6) (Nat.le_of_ble_eq_true rfl)
  rw [lg_entry_eq]
  generalize (lg_sl ([.ref h0, .int x1, .int x2, .int x3, .int x4, .int x5]) ++ List.replicate (6 - (lg_sl ([.ref h0, .int x1, .int x2, .int x3, .int x4, .int x5])).length) Slot.unset).toArray = ls at hl ⊢
  have hl : lv_has ls 6 [(0, .ref h0), (1, .int x1), (2, .int x2), (3, .int x3), (4, .int x4), (5, .int x5)] := hl
  refine lv_aload_n hx hb dX1_set_0 rfl (lv_at hl 0 rfl) ?_
  refine lv_iconst (v := 1) hx hb dX1_set_1 (by decide) ?_
  refine va_put (D := D) (ci := 1) (v := .int 1) (ty := .boolean) (C := RX1) (T := TX1) (N := 7) hx hb hts iw_k_set_1 tyX1 tyX1_ok nmX1 hown hK hP hD hS 0 rfl rfl 1 (by decide) (hts (.fieldLink RX1 15 "FlightDesk$Flight" "isSet" "Z") (by decide +kernel)) (fun _ h9 => h9) rfl (by decide +kernel) rfl rfl (Nat.le_of_ble_eq_true rfl) dX1_set_2 (fun H locs hP hD hS => ?_)
  have hP : va_P D vwCl [(h0, .inr (1, [.ref bk, .int 1, .int ff, .int ft, .int fd, .int fr, .int fw])), (bk, .inr (0, [.int lc, .int ln, .ref a2, .ref a3, .ref a4, .ref a5, .ref a6, .ref a7, .ref a8, .ref a9, .ref a10, .ref a11, .ref a12, .ref a13, .ref a14])), (a13, .inl (cI, 4, .inl f13))] H := hP
  have hD : va_D A [(h0, .inr (1, [.ref bk, .int 1, .int ff, .int ft, .int fd, .int fr, .int fw])), (bk, .inr (0, [.int lc, .int ln, .ref a2, .ref a3, .ref a4, .ref a5, .ref a6, .ref a7, .ref a8, .ref a9, .ref a10, .ref a11, .ref a12, .ref a13, .ref a14])), (a13, .inl (cI, 4, .inl f13))] := hD
  refine lv_aload_n hx hb dX1_set_5 rfl (lv_at hl 0 rfl) ?_
  refine lv_iload_n hx hb dX1_set_6 rfl (lv_at hl 1 rfl) ?_
  refine va_put (D := D) (ci := 1) (v := .int x1) (ty := .int) (C := RX1) (T := TX1) (N := 7) hx hb hts iw_k_set_1 tyX1 tyX1_ok nmX1 hown hK hP hD hS 0 rfl rfl 2 (by decide) (hts (.fieldLink RX1 19 "FlightDesk$Flight" "from" "I") (by decide +kernel)) (fun _ h9 => h9) rfl (by decide +kernel) rfl rfl (Nat.le_of_ble_eq_true rfl) dX1_set_7 (fun H locs hP hD hS => ?_)
  have hP : va_P D vwCl [(h0, .inr (1, [.ref bk, .int 1, .int x1, .int ft, .int fd, .int fr, .int fw])), (bk, .inr (0, [.int lc, .int ln, .ref a2, .ref a3, .ref a4, .ref a5, .ref a6, .ref a7, .ref a8, .ref a9, .ref a10, .ref a11, .ref a12, .ref a13, .ref a14])), (a13, .inl (cI, 4, .inl f13))] H := hP
  have hD : va_D A [(h0, .inr (1, [.ref bk, .int 1, .int x1, .int ft, .int fd, .int fr, .int fw])), (bk, .inr (0, [.int lc, .int ln, .ref a2, .ref a3, .ref a4, .ref a5, .ref a6, .ref a7, .ref a8, .ref a9, .ref a10, .ref a11, .ref a12, .ref a13, .ref a14])), (a13, .inl (cI, 4, .inl f13))] := hD
  refine lv_aload_n hx hb dX1_set_10 rfl (lv_at hl 0 rfl) ?_
  refine lv_iload_n hx hb dX1_set_11 rfl (lv_at hl 2 rfl) ?_
  refine va_put (D := D) (ci := 1) (v := .int x2) (ty := .int) (C := RX1) (T := TX1) (N := 7) hx hb hts iw_k_set_1 tyX1 tyX1_ok nmX1 hown hK hP hD hS 0 rfl rfl 3 (by decide) (hts (.fieldLink RX1 23 "FlightDesk$Flight" "to" "I") (by decide +kernel)) (fun _ h9 => h9) rfl (by decide +kernel) rfl rfl (Nat.le_of_ble_eq_true rfl) dX1_set_12 (fun H locs hP hD hS => ?_)
  have hP : va_P D vwCl [(h0, .inr (1, [.ref bk, .int 1, .int x1, .int x2, .int fd, .int fr, .int fw])), (bk, .inr (0, [.int lc, .int ln, .ref a2, .ref a3, .ref a4, .ref a5, .ref a6, .ref a7, .ref a8, .ref a9, .ref a10, .ref a11, .ref a12, .ref a13, .ref a14])), (a13, .inl (cI, 4, .inl f13))] H := hP
  have hD : va_D A [(h0, .inr (1, [.ref bk, .int 1, .int x1, .int x2, .int fd, .int fr, .int fw])), (bk, .inr (0, [.int lc, .int ln, .ref a2, .ref a3, .ref a4, .ref a5, .ref a6, .ref a7, .ref a8, .ref a9, .ref a10, .ref a11, .ref a12, .ref a13, .ref a14])), (a13, .inl (cI, 4, .inl f13))] := hD
  refine lv_aload_n hx hb dX1_set_15 rfl (lv_at hl 0 rfl) ?_
  refine lv_iload_n hx hb dX1_set_16 rfl (lv_at hl 3 rfl) ?_
  refine va_put (D := D) (ci := 1) (v := .int x3) (ty := .int) (C := RX1) (T := TX1) (N := 7) hx hb hts iw_k_set_1 tyX1 tyX1_ok nmX1 hown hK hP hD hS 0 rfl rfl 4 (by decide) (hts (.fieldLink RX1 26 "FlightDesk$Flight" "day" "I") (by decide +kernel)) (fun _ h9 => h9) rfl (by decide +kernel) rfl rfl (Nat.le_of_ble_eq_true rfl) dX1_set_17 (fun H locs hP hD hS => ?_)
  have hP : va_P D vwCl [(h0, .inr (1, [.ref bk, .int 1, .int x1, .int x2, .int x3, .int fr, .int fw])), (bk, .inr (0, [.int lc, .int ln, .ref a2, .ref a3, .ref a4, .ref a5, .ref a6, .ref a7, .ref a8, .ref a9, .ref a10, .ref a11, .ref a12, .ref a13, .ref a14])), (a13, .inl (cI, 4, .inl f13))] H := hP
  have hD : va_D A [(h0, .inr (1, [.ref bk, .int 1, .int x1, .int x2, .int x3, .int fr, .int fw])), (bk, .inr (0, [.int lc, .int ln, .ref a2, .ref a3, .ref a4, .ref a5, .ref a6, .ref a7, .ref a8, .ref a9, .ref a10, .ref a11, .ref a12, .ref a13, .ref a14])), (a13, .inl (cI, 4, .inl f13))] := hD
  refine lv_aload_n hx hb dX1_set_20 rfl (lv_at hl 0 rfl) ?_
  refine lv_iload hx hb dX1_set_21 (lv_at hl 5 rfl) ?_
  refine va_put (D := D) (ci := 1) (v := .int x5) (ty := .int) (C := RX1) (T := TX1) (N := 7) hx hb hts iw_k_set_1 tyX1 tyX1_ok nmX1 hown hK hP hD hS 0 rfl rfl 5 (by decide) (hts (.fieldLink RX1 29 "FlightDesk$Flight" "reserve" "I") (by decide +kernel)) (fun _ h9 => h9) rfl (by decide +kernel) rfl rfl (Nat.le_of_ble_eq_true rfl) dX1_set_23 (fun H locs hP hD hS => ?_)
  have hP : va_P D vwCl [(h0, .inr (1, [.ref bk, .int 1, .int x1, .int x2, .int x3, .int x5, .int fw])), (bk, .inr (0, [.int lc, .int ln, .ref a2, .ref a3, .ref a4, .ref a5, .ref a6, .ref a7, .ref a8, .ref a9, .ref a10, .ref a11, .ref a12, .ref a13, .ref a14])), (a13, .inl (cI, 4, .inl f13))] H := hP
  have hD : va_D A [(h0, .inr (1, [.ref bk, .int 1, .int x1, .int x2, .int x3, .int x5, .int fw])), (bk, .inr (0, [.int lc, .int ln, .ref a2, .ref a3, .ref a4, .ref a5, .ref a6, .ref a7, .ref a8, .ref a9, .ref a10, .ref a11, .ref a12, .ref a13, .ref a14])), (a13, .inl (cI, 4, .inl f13))] := hD
  refine lv_aload_n hx hb dX1_set_26 rfl (lv_at hl 0 rfl) ?_
  refine lv_aload_n hx hb dX1_set_27 rfl (lv_at hl 0 rfl) ?_
  refine va_get (D := D) (ci := 1) (v := .ref bk) (C := RX1) (T := TX1) (N := 7) hx hb hts iw_k_set_1 hown hK hP 0 rfl rfl 0 (by decide) (hts (.fieldLink RX1 9 "FlightDesk$Flight" "book" "LFlightDesk$Book;") (by decide +kernel)) (fun _ h9 => h9) rfl dX1_set_28 ?_
  refine va_get (D := D) (ci := 0) (v := .ref a13) (C := RX0) (T := TX0) (N := 15) hx hb hts iw_k_set_0 hown hK hP 1 rfl rfl 13 (by decide) (hts (.fieldLink RX1 32 "FlightDesk$Book" "limit" "[I") (by decide +kernel)) (fun _ h9 => h9) rfl dX1_set_31 ?_
  refine lv_iconst (v := 3) hx hb dX1_set_34 (by decide) ?_
  refine va_iald hx hb hK hP 2 0 rfl rfl (show ¬ (_ ∨ _) by decide) dX1_set_35 ?_
  refine lv_topi (fun v1 ev1 => ?_)
  have tv1 : 0 ≤ v1.toInt ∧ v1.toInt ≤ 60000 := by rw [ev1]; exact q39
  refine lv_iload hx hb dX1_set_36 (lv_at hl 4 rfl) ?_
  refine lv_iadd hx hb dX1_set_38 ?_
  refine lv_topi (fun v2 ev2 => ?_)
  have tv2 : v2.toInt = (v1.toInt + x4.toInt + 2147483648) % 4294967296 - 2147483648 := i32_add ev2
  refine va_put (D := D) (ci := 1) (v := .int v2) (ty := .int) (C := RX1) (T := TX1) (N := 7) hx hb hts iw_k_set_1 tyX1 tyX1_ok nmX1 hown hK hP hD hS 0 rfl rfl 6 (by decide) (hts (.fieldLink RX1 38 "FlightDesk$Flight" "weight" "I") (by decide +kernel)) (fun _ h9 => h9) rfl (by decide +kernel) rfl rfl (Nat.le_of_ble_eq_true rfl) dX1_set_39 (fun H locs hP hD hS => ?_)
  have hP : va_P D vwCl [(h0, .inr (1, [.ref bk, .int 1, .int x1, .int x2, .int x3, .int x5, .int v2])), (bk, .inr (0, [.int lc, .int ln, .ref a2, .ref a3, .ref a4, .ref a5, .ref a6, .ref a7, .ref a8, .ref a9, .ref a10, .ref a11, .ref a12, .ref a13, .ref a14])), (a13, .inl (cI, 4, .inl f13))] H := hP
  have hD : va_D A [(h0, .inr (1, [.ref bk, .int 1, .int x1, .int x2, .int x3, .int x5, .int v2])), (bk, .inr (0, [.int lc, .int ln, .ref a2, .ref a3, .ref a4, .ref a5, .ref a6, .ref a7, .ref a8, .ref a9, .ref a10, .ref a11, .ref a12, .ref a13, .ref a14])), (a13, .inl (cI, 4, .inl f13))] := hD
  have hP9 := hP.sub (ws' := [(h0, .inr (1, [.ref bk, .int 1, .int x1, .int x2, .int x3, .int x5, .int v2])), (bk, .inr (0, [.int lc, .int ln, .ref a2, .ref a3, .ref a4, .ref a5, .ref a6, .ref a7, .ref a8, .ref a9, .ref a10, .ref a11, .ref a12, .ref a13, .ref a14])), (a13, .inl (cI, 4, .inl f13))]) [0, 1, 2] rfl
  have hD9 := hD.sub (ws' := [(h0, .inr (1, [.ref bk, .int 1, .int x1, .int x2, .int x3, .int x5, .int v2])), (bk, .inr (0, [.int lc, .int ln, .ref a2, .ref a3, .ref a4, .ref a5, .ref a6, .ref a7, .ref a8, .ref a9, .ref a10, .ref a11, .ref a12, .ref a13, .ref a14])), (a13, .inl (cI, 4, .inl f13))]) [0, 1, 2] (by decide) rfl
  refine W.widen (k := 0) (n := 0) (by decide) (by decide) ?_
  exact W.vret hx hb hr (fun t ht hW => ⟨⟨(), rfl, trivial, v2, (show 0 ≤ v2.toInt ∧ v2.toInt ≤ 90000 by first | assumption | omega | decide), by rw [ht]; exact hP9, hD9⟩, hS.F ht⟩) hS.2.2 dX1_set_42
