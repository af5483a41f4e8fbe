def wk_k_leadBurnsOn : List Cond := .code yX0_leadBurnsOn cX0_leadBurnsOn 5 none :: ([.fieldLink RX0 39 "FlightDesk$Book" "burn" "[I", .initialized RX7, .static yX7_burnIndex, .code yX7_burnIndex cX7_burnIndex 2 (some .int), .methodLink RX0 67 yX0_putIfUntold, .static yX0_putIfUntold, .initialized RX0, .code yX0_putIfUntold cX0_putIfUntold 3 none] ++ wsX00)
theorem iw_k_leadBurnsOn_0 : ∀ w ∈ wsX00, w ∈ wk_k_leadBurnsOn := fun _ h => List.mem_cons_of_mem _ (List.mem_append_right _ h)
set_option maxRecDepth 20000 in
theorem gw_k_leadBurnsOn_0 : GoodIn wk_k_leadBurnsOn wk_k_burnIndex := goodIn_sub (by decide +kernel) (by decide +kernel)
set_option maxRecDepth 20000 in
theorem gw_k_leadBurnsOn_1 : GoodIn wk_k_leadBurnsOn (wsS RX0 67 yX0_putIfUntold wk_k_putIfUntold) := goodIn_sub (by decide +kernel) (by decide +kernel)
set_option maxHeartbeats 4000000 in
set_option maxRecDepth 100000 in
theorem k_leadBurnsOn (l : Launch) (D : va_G) (cI cB cP : ClassId) (sz : Nat) (h0 : Nat) (lc : Int32) (ln : Int32) (a2 : Nat) (a3 : Nat) (a4 : Nat) (a5 : Nat) (a6 : Nat) (a7 : Nat) (a8 : Nat) (a9 : Nat) (a10 : Nat) (a11 : Nat) (a12 : Nat) (a13 : Nat) (a14 : Nat) (L : Nat) (fb : Nat → Int32) (hL : L < 6) (hu : ∀ b : Nat, b < 5 → fb (L * 5 + b) = -1000) : Met l yX0_leadBurnsOn wk_k_leadBurnsOn ({ frames := 1, cells := 0, slots := 0, locals := 22 } : Room) (va_Pc [.ref h0, .int (nI L)] (Pw D cI cB cP sz [(h0, .inr (0, [.int lc, .int ln, .ref a2, .ref a3, .ref a4, .ref a5, .ref a6, .ref a7, .ref a8, .ref a9, .ref a10, .ref a11, .ref a12, .ref a13, .ref a14])), (a11, .inl (cI, 30, .inl fb))])) (va_Qv (fun (_ : Unit) => True) (fun _ t => ∃ g : Nat → Int32, (∀ b : Nat, b < 5 → g (L * 5 + b) = 1000) ∧ (∀ k : Nat, (k < L * 5 ∨ L * 5 + 5 ≤ k) → g k = fb k) ∧ va_P D vwCl [(h0, .inr (0, [.int lc, .int ln, .ref a2, .ref a3, .ref a4, .ref a5, .ref a6, .ref a7, .ref a8, .ref a9, .ref a10, .ref a11, .ref a12, .ref a13, .ref a14])), (a11, .inl (cI, 30, .inl g))] t.heap ∧ va_D (va_A [(h0, .inr (0, [.int lc, .int ln, .ref a2, .ref a3, .ref a4, .ref a5, .ref a6, .ref a7, .ref a8, .ref a9, .ref a10, .ref a11, .ref a12, .ref a13, .ref a14])), (a11, .inl (cI, 30, .inl fb))] sz) [(h0, .inr (0, [.int lc, .int ln, .ref a2, .ref a3, .ref a4, .ref a5, .ref a6, .ref a7, .ref a8, .ref a9, .ref a10, .ref a11, .ref a12, .ref a13, .ref a14])), (a11, .inl (cI, 30, .inl g))]) (va_A [(h0, .inr (0, [.int lc, .int ln, .ref a2, .ref a3, .ref a4, .ref a5, .ref a6, .ref a7, .ref a8, .ref a9, .ref a10, .ref a11, .ref a12, .ref a13, .ref a14])), (a11, .inl (cI, 30, .inl fb))] sz)) 0 0 (va_A [(h0, .inr (0, [.int lc, .int ln, .ref a2, .ref a3, .ref a4, .ref a5, .ref a6, .ref a7, .ref a8, .ref a9, .ref a10, .ref a11, .ref a12, .ref a13, .ref a14])), (a11, .inl (cI, 30, .inl fb))] sz) := by
  refine Met.ofW (cc := cX0_leadBurnsOn) (maxL := 5) (ret := none) (by decide) rfl ?_
  intro p e s m args below meth c s₁ B hml hv
  obtain ⟨rfl, hsz, hP, ⟨hK, hN⟩, hD0⟩ := hv
  have hx := B.exec
  have hb := B.bytes
  have hr := B.returns
  have hts := atoms_spec (ws := wk_k_leadBurnsOn) B.pre
  have hown : s.vm.findClass RX0 = some m.cls := findClass_of_methodNamed B.named
  have hlocks := B.notSynchronized
  subst hsz
  have hD := hD0.self (sz := s.heap.size)
  generalize hAe : va_A [(h0, .inr (0, [.int lc, .int ln, .ref a2, .ref a3, .ref a4, .ref a5, .ref a6, .ref a7, .ref a8, .ref a9, .ref a10, .ref a11, .ref a12, .ref a13, .ref a14])), (a11, .inl (cI, 30, .inl fb))] s.heap.size = A at hD ⊢
  have hA : ∀ q : Nat, s.heap.size ≤ q → A q := fun q h => by rw [← hAe]; exact Or.inr h
  have hS : va_S A s.heap s.heap [] := va_S.rf
  have hP : va_P D vwCl [(h0, .inr (0, [.int lc, .int ln, .ref a2, .ref a3, .ref a4, .ref a5, .ref a6, .ref a7, .ref a8, .ref a9, .ref a10, .ref a11, .ref a12, .ref a13, .ref a14])), (a11, .inl (cI, 30, .inl fb))] s.heap := hP
  have hl := lv_entry ([.ref h0, .int (nI L)]) (n := 5) (Nat.le_of_ble_eq_true rfl)
  rw [lg_entry_eq]
  generalize (lg_sl ([.ref h0, .int (nI L)]) ++ List.replicate (5 - (lg_sl ([.ref h0, .int (nI L)])).length) Slot.unset).toArray = ls at hl ⊢
  have hl : lv_has ls 5 [(0, .ref h0), (1, .int (nI L))] := hl
  refine lv_sipush (v := 1000) hx hb dX0_leadBurnsOn_0 (by decide) ?_
  refine lv_istore_n (lv' := [(2, .int 1000), (0, .ref h0), (1, .int (nI L))]) hx hb dX0_leadBurnsOn_3 rfl hl (by decide) rfl (fun ls hl => ?_)
  refine lv_iconst (v := 4) hx hb dX0_leadBurnsOn_4 (by decide) ?_
  refine lv_istore_n (lv' := [(3, .int 4), (2, .int 1000), (0, .ref h0), (1, .int (nI L))]) hx hb dX0_leadBurnsOn_5 rfl hl (by decide) rfl (fun ls hl => ?_)
  refine lv_iload_n hx hb dX0_leadBurnsOn_6 rfl (lv_at hl 0 rfl) ?_
  refine lv_if_lt (tgt := 43) hx hb dX0_leadBurnsOn_7 (by decide) (fun h9 => (by first | exact absurd h9 (by decide) | exact absurd (by decide) h9)) (fun c1 => ?_)
  refine lv_aload_n hx hb dX0_leadBurnsOn_10 rfl (lv_at hl 2 rfl) ?_
  refine va_get (D := D) (ci := 0) (v := .ref a11) (C := RX0) (T := TX0) (N := 15) hx hb hts iw_k_leadBurnsOn_0 hown hK hP 0 rfl rfl 11 (by decide) (hts (.fieldLink RX0 39 "FlightDesk$Book" "burn" "[I") (by decide +kernel)) (fun _ h9 => h9) rfl dX0_leadBurnsOn_11 ?_
  refine lv_iload_n hx hb dX0_leadBurnsOn_14 rfl (lv_at hl 3 rfl) ?_
  refine lv_iload_n hx hb dX0_leadBurnsOn_15 rfl (lv_at hl 0 rfl) ?_
  have hPc := hP.sub (ws' := []) [] rfl
  have hDc := hD.sub (ws' := []) [] (by decide) rfl
  have hFc := va_free (wc := []) hD hS hA [] rfl
  refine va_calli (va_runSN (As := [.int (nI L), .int 4]) (rest := [.ref a11]) ⟨hx, hb, hml, hown, hts⟩ (k_burnIndex l D cI cB cP s.heap.size L 4) ⟨va_cnB 2 hts gw_k_leadBurnsOn_0 rfl rfl rfl (hN.1) (hts (.initialized RX7) (by decide +kernel)) (by decide +kernel) ⟨Nat.le_of_ble_eq_true rfl, Nat.le_of_ble_eq_true rfl⟩, (hts (.static yX7_burnIndex) (by decide +kernel)), trivial⟩ ⟨ny_blind, ny_pre hPc hK hN hDc⟩ rfl rfl hl.1 rfl (lv_room (Nat.le_of_ble_eq_true rfl)) dX0_leadBurnsOn_16 ⟨Nat.le_of_ble_eq_true rfl, Nat.le_of_ble_eq_true rfl⟩) hS (fun q _ h => hFc q h) hFc (fun r2 u t H locs ht hvm hw hB hz1 hk1 hS => ?_)
  obtain ⟨hP, hD⟩ := va_join (wr := [(h0, .inr (0, [.int lc, .int ln, .ref a2, .ref a3, .ref a4, .ref a5, .ref a6, .ref a7, .ref a8, .ref a9, .ref a10, .ref a11, .ref a12, .ref a13, .ref a14])), (a11, .inl (cI, 30, .inl fb))]) (w1 := []) hP hD [] [0, 1] rfl rfl (by decide) (by decide) hk1 hFc ny_P0 ny_D0
  have hP : va_P D vwCl [(h0, .inr (0, [.int lc, .int ln, .ref a2, .ref a3, .ref a4, .ref a5, .ref a6, .ref a7, .ref a8, .ref a9, .ref a10, .ref a11, .ref a12, .ref a13, .ref a14])), (a11, .inl (cI, 30, .inl fb))] H := hP
  have hD : va_D A [(h0, .inr (0, [.int lc, .int ln, .ref a2, .ref a3, .ref a4, .ref a5, .ref a6, .ref a7, .ref a8, .ref a9, .ref a10, .ref a11, .ref a12, .ref a13, .ref a14])), (a11, .inl (cI, 30, .inl fb))] := hD
  subst hw
  refine va_iald hx hb hK hP 1 0 rfl rfl (vp_in_nI (by omega) (by decide)) dX0_leadBurnsOn_19 ?_
  refine lv_topi (fun vv ev => ?_)
  obtain rfl : vv = (-1000) := ev.trans (by rw [nI_clamp (by omega)]; exact hu 4 (by decide))
  refine lv_istore (lv' := [(4, .int (-1000)), (3, .int 4), (2, .int 1000), (0, .ref h0), (1, .int (nI L))]) hx hb dX0_leadBurnsOn_20 hl (by decide) rfl (fun ls hl => ?_)
  refine lv_iload hx hb dX0_leadBurnsOn_22 (lv_at hl 0 rfl) ?_
  refine lv_sipush (v := (-1000)) hx hb dX0_leadBurnsOn_24 (by decide) ?_
  refine lv_icmp_ne (tgt := 34) hx hb dX0_leadBurnsOn_27 (by decide) (fun h9 => (by first | exact absurd h9 (by decide) | exact absurd (by decide) h9)) (fun c3 => ?_)
  refine lv_iload_n hx hb dX0_leadBurnsOn_30 rfl (lv_at hl 2 rfl) ?_
  refine lv_goto (tgt := 36) hx hb dX0_leadBurnsOn_31 (by decide) ?_
  refine lv_istore_n (lv' := [(2, .int 1000), (4, .int (-1000)), (3, .int 4), (0, .ref h0), (1, .int (nI L))]) hx hb dX0_leadBurnsOn_36 rfl hl (by decide) rfl (fun ls hl => ?_)
  refine lv_iinc (v := 3) (lv' := [(3, .int 3), (2, .int 1000), (4, .int (-1000)), (0, .ref h0), (1, .int (nI L))]) hx hb dX0_leadBurnsOn_37 hl (k := 2) rfl (by decide) (by decide) rfl (fun ls hl => ?_)
  refine lv_goto (tgt := 6) hx hb dX0_leadBurnsOn_40 (by decide) ?_
  refine lv_iload_n hx hb dX0_leadBurnsOn_6 rfl (lv_at hl 0 rfl) ?_
  refine lv_if_lt (tgt := 43) hx hb dX0_leadBurnsOn_7 (by decide) (fun h9 => (by first | exact absurd h9 (by decide) | exact absurd (by decide) h9)) (fun c4 => ?_)
  refine lv_aload_n hx hb dX0_leadBurnsOn_10 rfl (lv_at hl 3 rfl) ?_
  refine va_get (D := D) (ci := 0) (v := .ref a11) (C := RX0) (T := TX0) (N := 15) hx hb hts iw_k_leadBurnsOn_0 hown hK hP 0 rfl rfl 11 (by decide) (hts (.fieldLink RX0 39 "FlightDesk$Book" "burn" "[I") (by decide +kernel)) (fun _ h9 => h9) rfl dX0_leadBurnsOn_11 ?_
  refine lv_iload_n hx hb dX0_leadBurnsOn_14 rfl (lv_at hl 4 rfl) ?_
  refine lv_iload_n hx hb dX0_leadBurnsOn_15 rfl (lv_at hl 0 rfl) ?_
  have hPc := hP.sub (ws' := []) [] rfl
  have hDc := hD.sub (ws' := []) [] (by decide) rfl
  have hFc := va_free (wc := []) hD hS hA [] rfl
  refine va_calli (va_runSN (As := [.int (nI L), .int 3]) (rest := [.ref a11]) ⟨hx, hb, hml, hown, hts⟩ (k_burnIndex l D cI cB cP H.size L 3) ⟨va_cnB 2 hts gw_k_leadBurnsOn_0 rfl rfl rfl (hN.1) (hts (.initialized RX7) (by decide +kernel)) (by decide +kernel) ⟨Nat.le_of_ble_eq_true rfl, Nat.le_of_ble_eq_true rfl⟩, (hts (.static yX7_burnIndex) (by decide +kernel)), trivial⟩ ⟨ny_blind, ny_pre hPc hK hN hDc⟩ rfl rfl hl.1 rfl (lv_room (Nat.le_of_ble_eq_true rfl)) dX0_leadBurnsOn_16 ⟨Nat.le_of_ble_eq_true rfl, Nat.le_of_ble_eq_true rfl⟩) hS (fun q _ h => hFc q h) hFc (fun r5 u t H locs ht hvm hw hB hz1 hk1 hS => ?_)
  obtain ⟨hP, hD⟩ := va_join (wr := [(h0, .inr (0, [.int lc, .int ln, .ref a2, .ref a3, .ref a4, .ref a5, .ref a6, .ref a7, .ref a8, .ref a9, .ref a10, .ref a11, .ref a12, .ref a13, .ref a14])), (a11, .inl (cI, 30, .inl fb))]) (w1 := []) hP hD [] [0, 1] rfl rfl (by decide) (by decide) hk1 hFc ny_P0 ny_D0
  have hP : va_P D vwCl [(h0, .inr (0, [.int lc, .int ln, .ref a2, .ref a3, .ref a4, .ref a5, .ref a6, .ref a7, .ref a8, .ref a9, .ref a10, .ref a11, .ref a12, .ref a13, .ref a14])), (a11, .inl (cI, 30, .inl fb))] H := hP
  have hD : va_D A [(h0, .inr (0, [.int lc, .int ln, .ref a2, .ref a3, .ref a4, .ref a5, .ref a6, .ref a7, .ref a8, .ref a9, .ref a10, .ref a11, .ref a12, .ref a13, .ref a14])), (a11, .inl (cI, 30, .inl fb))] := hD
  subst hw
  refine va_iald hx hb hK hP 1 0 rfl rfl (vp_in_nI (by omega) (by decide)) dX0_leadBurnsOn_19 ?_
  refine lv_topi (fun vv ev => ?_)
  obtain rfl : vv = (-1000) := ev.trans (by rw [nI_clamp (by omega)]; exact hu 3 (by decide))
  refine lv_istore (lv' := [(4, .int (-1000)), (3, .int 3), (2, .int 1000), (0, .ref h0), (1, .int (nI L))]) hx hb dX0_leadBurnsOn_20 hl (by decide) rfl (fun ls hl => ?_)
  refine lv_iload hx hb dX0_leadBurnsOn_22 (lv_at hl 0 rfl) ?_
  refine lv_sipush (v := (-1000)) hx hb dX0_leadBurnsOn_24 (by decide) ?_
  refine lv_icmp_ne (tgt := 34) hx hb dX0_leadBurnsOn_27 (by decide) (fun h9 => (by first | exact absurd h9 (by decide) | exact absurd (by decide) h9)) (fun c6 => ?_)
  refine lv_iload_n hx hb dX0_leadBurnsOn_30 rfl (lv_at hl 2 rfl) ?_
  refine lv_goto (tgt := 36) hx hb dX0_leadBurnsOn_31 (by decide) ?_
  refine lv_istore_n (lv' := [(2, .int 1000), (4, .int (-1000)), (3, .int 3), (0, .ref h0), (1, .int (nI L))]) hx hb dX0_leadBurnsOn_36 rfl hl (by decide) rfl (fun ls hl => ?_)
  refine lv_iinc (v := 2) (lv' := [(3, .int 2), (2, .int 1000), (4, .int (-1000)), (0, .ref h0), (1, .int (nI L))]) hx hb dX0_leadBurnsOn_37 hl (k := 2) rfl (by decide) (by decide) rfl (fun ls hl => ?_)
  refine lv_goto (tgt := 6) hx hb dX0_leadBurnsOn_40 (by decide) ?_
  refine lv_iload_n hx hb dX0_leadBurnsOn_6 rfl (lv_at hl 0 rfl) ?_
  refine lv_if_lt (tgt := 43) hx hb dX0_leadBurnsOn_7 (by decide) (fun h9 => (by first | exact absurd h9 (by decide) | exact absurd (by decide) h9)) (fun c7 => ?_)
  refine lv_aload_n hx hb dX0_leadBurnsOn_10 rfl (lv_at hl 3 rfl) ?_
  refine va_get (D := D) (ci := 0) (v := .ref a11) (C := RX0) (T := TX0) (N := 15) hx hb hts iw_k_leadBurnsOn_0 hown hK hP 0 rfl rfl 11 (by decide) (hts (.fieldLink RX0 39 "FlightDesk$Book" "burn" "[I") (by decide +kernel)) (fun _ h9 => h9) rfl dX0_leadBurnsOn_11 ?_
  refine lv_iload_n hx hb dX0_leadBurnsOn_14 rfl (lv_at hl 4 rfl) ?_
  refine lv_iload_n hx hb dX0_leadBurnsOn_15 rfl (lv_at hl 0 rfl) ?_
  have hPc := hP.sub (ws' := []) [] rfl
  have hDc := hD.sub (ws' := []) [] (by decide) rfl
  have hFc := va_free (wc := []) hD hS hA [] rfl
  refine va_calli (va_runSN (As := [.int (nI L), .int 2]) (rest := [.ref a11]) ⟨hx, hb, hml, hown, hts⟩ (k_burnIndex l D cI cB cP H.size L 2) ⟨va_cnB 2 hts gw_k_leadBurnsOn_0 rfl rfl rfl (hN.1) (hts (.initialized RX7) (by decide +kernel)) (by decide +kernel) ⟨Nat.le_of_ble_eq_true rfl, Nat.le_of_ble_eq_true rfl⟩, (hts (.static yX7_burnIndex) (by decide +kernel)), trivial⟩ ⟨ny_blind, ny_pre hPc hK hN hDc⟩ rfl rfl hl.1 rfl (lv_room (Nat.le_of_ble_eq_true rfl)) dX0_leadBurnsOn_16 ⟨Nat.le_of_ble_eq_true rfl, Nat.le_of_ble_eq_true rfl⟩) hS (fun q _ h => hFc q h) hFc (fun r8 u t H locs ht hvm hw hB hz1 hk1 hS => ?_)
  obtain ⟨hP, hD⟩ := va_join (wr := [(h0, .inr (0, [.int lc, .int ln, .ref a2, .ref a3, .ref a4, .ref a5, .ref a6, .ref a7, .ref a8, .ref a9, .ref a10, .ref a11, .ref a12, .ref a13, .ref a14])), (a11, .inl (cI, 30, .inl fb))]) (w1 := []) hP hD [] [0, 1] rfl rfl (by decide) (by decide) hk1 hFc ny_P0 ny_D0
  have hP : va_P D vwCl [(h0, .inr (0, [.int lc, .int ln, .ref a2, .ref a3, .ref a4, .ref a5, .ref a6, .ref a7, .ref a8, .ref a9, .ref a10, .ref a11, .ref a12, .ref a13, .ref a14])), (a11, .inl (cI, 30, .inl fb))] H := hP
  have hD : va_D A [(h0, .inr (0, [.int lc, .int ln, .ref a2, .ref a3, .ref a4, .ref a5, .ref a6, .ref a7, .ref a8, .ref a9, .ref a10, .ref a11, .ref a12, .ref a13, .ref a14])), (a11, .inl (cI, 30, .inl fb))] := hD
  subst hw
  refine va_iald hx hb hK hP 1 0 rfl rfl (vp_in_nI (by omega) (by decide)) dX0_leadBurnsOn_19 ?_
  refine lv_topi (fun vv ev => ?_)
  obtain rfl : vv = (-1000) := ev.trans (by rw [nI_clamp (by omega)]; exact hu 2 (by decide))
  refine lv_istore (lv' := [(4, .int (-1000)), (3, .int 2), (2, .int 1000), (0, .ref h0), (1, .int (nI L))]) hx hb dX0_leadBurnsOn_20 hl (by decide) rfl (fun ls hl => ?_)
  refine lv_iload hx hb dX0_leadBurnsOn_22 (lv_at hl 0 rfl) ?_
  refine lv_sipush (v := (-1000)) hx hb dX0_leadBurnsOn_24 (by decide) ?_
  refine lv_icmp_ne (tgt := 34) hx hb dX0_leadBurnsOn_27 (by decide) (fun h9 => (by first | exact absurd h9 (by decide) | exact absurd (by decide) h9)) (fun c9 => ?_)
  refine lv_iload_n hx hb dX0_leadBurnsOn_30 rfl (lv_at hl 2 rfl) ?_
  refine lv_goto (tgt := 36) hx hb dX0_leadBurnsOn_31 (by decide) ?_
  refine lv_istore_n (lv' := [(2, .int 1000), (4, .int (-1000)), (3, .int 2), (0, .ref h0), (1, .int (nI L))]) hx hb dX0_leadBurnsOn_36 rfl hl (by decide) rfl (fun ls hl => ?_)
  refine lv_iinc (v := 1) (lv' := [(3, .int 1), (2, .int 1000), (4, .int (-1000)), (0, .ref h0), (1, .int (nI L))]) hx hb dX0_leadBurnsOn_37 hl (k := 2) rfl (by decide) (by decide) rfl (fun ls hl => ?_)
  refine lv_goto (tgt := 6) hx hb dX0_leadBurnsOn_40 (by decide) ?_
  refine lv_iload_n hx hb dX0_leadBurnsOn_6 rfl (lv_at hl 0 rfl) ?_
  refine lv_if_lt (tgt := 43) hx hb dX0_leadBurnsOn_7 (by decide) (fun h9 => (by first | exact absurd h9 (by decide) | exact absurd (by decide) h9)) (fun c10 => ?_)
  refine lv_aload_n hx hb dX0_leadBurnsOn_10 rfl (lv_at hl 3 rfl) ?_
  refine va_get (D := D) (ci := 0) (v := .ref a11) (C := RX0) (T := TX0) (N := 15) hx hb hts iw_k_leadBurnsOn_0 hown hK hP 0 rfl rfl 11 (by decide) (hts (.fieldLink RX0 39 "FlightDesk$Book" "burn" "[I") (by decide +kernel)) (fun _ h9 => h9) rfl dX0_leadBurnsOn_11 ?_
  refine lv_iload_n hx hb dX0_leadBurnsOn_14 rfl (lv_at hl 4 rfl) ?_
  refine lv_iload_n hx hb dX0_leadBurnsOn_15 rfl (lv_at hl 0 rfl) ?_
  have hPc := hP.sub (ws' := []) [] rfl
  have hDc := hD.sub (ws' := []) [] (by decide) rfl
  have hFc := va_free (wc := []) hD hS hA [] rfl
  refine va_calli (va_runSN (As := [.int (nI L), .int 1]) (rest := [.ref a11]) ⟨hx, hb, hml, hown, hts⟩ (k_burnIndex l D cI cB cP H.size L 1) ⟨va_cnB 2 hts gw_k_leadBurnsOn_0 rfl rfl rfl (hN.1) (hts (.initialized RX7) (by decide +kernel)) (by decide +kernel) ⟨Nat.le_of_ble_eq_true rfl, Nat.le_of_ble_eq_true rfl⟩, (hts (.static yX7_burnIndex) (by decide +kernel)), trivial⟩ ⟨ny_blind, ny_pre hPc hK hN hDc⟩ rfl rfl hl.1 rfl (lv_room (Nat.le_of_ble_eq_true rfl)) dX0_leadBurnsOn_16 ⟨Nat.le_of_ble_eq_true rfl, Nat.le_of_ble_eq_true rfl⟩) hS (fun q _ h => hFc q h) hFc (fun r11 u t H locs ht hvm hw hB hz1 hk1 hS => ?_)
  obtain ⟨hP, hD⟩ := va_join (wr := [(h0, .inr (0, [.int lc, .int ln, .ref a2, .ref a3, .ref a4, .ref a5, .ref a6, .ref a7, .ref a8, .ref a9, .ref a10, .ref a11, .ref a12, .ref a13, .ref a14])), (a11, .inl (cI, 30, .inl fb))]) (w1 := []) hP hD [] [0, 1] rfl rfl (by decide) (by decide) hk1 hFc ny_P0 ny_D0
  have hP : va_P D vwCl [(h0, .inr (0, [.int lc, .int ln, .ref a2, .ref a3, .ref a4, .ref a5, .ref a6, .ref a7, .ref a8, .ref a9, .ref a10, .ref a11, .ref a12, .ref a13, .ref a14])), (a11, .inl (cI, 30, .inl fb))] H := hP
  have hD : va_D A [(h0, .inr (0, [.int lc, .int ln, .ref a2, .ref a3, .ref a4, .ref a5, .ref a6, .ref a7, .ref a8, .ref a9, .ref a10, .ref a11, .ref a12, .ref a13, .ref a14])), (a11, .inl (cI, 30, .inl fb))] := hD
  subst hw
  refine va_iald hx hb hK hP 1 0 rfl rfl (vp_in_nI (by omega) (by decide)) dX0_leadBurnsOn_19 ?_
  refine lv_topi (fun vv ev => ?_)
  obtain rfl : vv = (-1000) := ev.trans (by rw [nI_clamp (by omega)]; exact hu 1 (by decide))
  refine lv_istore (lv' := [(4, .int (-1000)), (3, .int 1), (2, .int 1000), (0, .ref h0), (1, .int (nI L))]) hx hb dX0_leadBurnsOn_20 hl (by decide) rfl (fun ls hl => ?_)
  refine lv_iload hx hb dX0_leadBurnsOn_22 (lv_at hl 0 rfl) ?_
  refine lv_sipush (v := (-1000)) hx hb dX0_leadBurnsOn_24 (by decide) ?_
  refine lv_icmp_ne (tgt := 34) hx hb dX0_leadBurnsOn_27 (by decide) (fun h9 => (by first | exact absurd h9 (by decide) | exact absurd (by decide) h9)) (fun c12 => ?_)
  refine lv_iload_n hx hb dX0_leadBurnsOn_30 rfl (lv_at hl 2 rfl) ?_
  refine lv_goto (tgt := 36) hx hb dX0_leadBurnsOn_31 (by decide) ?_
  refine lv_istore_n (lv' := [(2, .int 1000), (4, .int (-1000)), (3, .int 1), (0, .ref h0), (1, .int (nI L))]) hx hb dX0_leadBurnsOn_36 rfl hl (by decide) rfl (fun ls hl => ?_)
  refine lv_iinc (v := 0) (lv' := [(3, .int 0), (2, .int 1000), (4, .int (-1000)), (0, .ref h0), (1, .int (nI L))]) hx hb dX0_leadBurnsOn_37 hl (k := 2) rfl (by decide) (by decide) rfl (fun ls hl => ?_)
  refine lv_goto (tgt := 6) hx hb dX0_leadBurnsOn_40 (by decide) ?_
  refine lv_iload_n hx hb dX0_leadBurnsOn_6 rfl (lv_at hl 0 rfl) ?_
  refine lv_if_lt (tgt := 43) hx hb dX0_leadBurnsOn_7 (by decide) (fun h9 => (by first | exact absurd h9 (by decide) | exact absurd (by decide) h9)) (fun c13 => ?_)
  refine lv_aload_n hx hb dX0_leadBurnsOn_10 rfl (lv_at hl 3 rfl) ?_
  refine va_get (D := D) (ci := 0) (v := .ref a11) (C := RX0) (T := TX0) (N := 15) hx hb hts iw_k_leadBurnsOn_0 hown hK hP 0 rfl rfl 11 (by decide) (hts (.fieldLink RX0 39 "FlightDesk$Book" "burn" "[I") (by decide +kernel)) (fun _ h9 => h9) rfl dX0_leadBurnsOn_11 ?_
  refine lv_iload_n hx hb dX0_leadBurnsOn_14 rfl (lv_at hl 4 rfl) ?_
  refine lv_iload_n hx hb dX0_leadBurnsOn_15 rfl (lv_at hl 0 rfl) ?_
  have hPc := hP.sub (ws' := []) [] rfl
  have hDc := hD.sub (ws' := []) [] (by decide) rfl
  have hFc := va_free (wc := []) hD hS hA [] rfl
  refine va_calli (va_runSN (As := [.int (nI L), .int 0]) (rest := [.ref a11]) ⟨hx, hb, hml, hown, hts⟩ (k_burnIndex l D cI cB cP H.size L 0) ⟨va_cnB 2 hts gw_k_leadBurnsOn_0 rfl rfl rfl (hN.1) (hts (.initialized RX7) (by decide +kernel)) (by decide +kernel) ⟨Nat.le_of_ble_eq_true rfl, Nat.le_of_ble_eq_true rfl⟩, (hts (.static yX7_burnIndex) (by decide +kernel)), trivial⟩ ⟨ny_blind, ny_pre hPc hK hN hDc⟩ rfl rfl hl.1 rfl (lv_room (Nat.le_of_ble_eq_true rfl)) dX0_leadBurnsOn_16 ⟨Nat.le_of_ble_eq_true rfl, Nat.le_of_ble_eq_true rfl⟩) hS (fun q _ h => hFc q h) hFc (fun r14 u t H locs ht hvm hw hB hz1 hk1 hS => ?_)
  obtain ⟨hP, hD⟩ := va_join (wr := [(h0, .inr (0, [.int lc, .int ln, .ref a2, .ref a3, .ref a4, .ref a5, .ref a6, .ref a7, .ref a8, .ref a9, .ref a10, .ref a11, .ref a12, .ref a13, .ref a14])), (a11, .inl (cI, 30, .inl fb))]) (w1 := []) hP hD [] [0, 1] rfl rfl (by decide) (by decide) hk1 hFc ny_P0 ny_D0
  have hP : va_P D vwCl [(h0, .inr (0, [.int lc, .int ln, .ref a2, .ref a3, .ref a4, .ref a5, .ref a6, .ref a7, .ref a8, .ref a9, .ref a10, .ref a11, .ref a12, .ref a13, .ref a14])), (a11, .inl (cI, 30, .inl fb))] H := hP
  have hD : va_D A [(h0, .inr (0, [.int lc, .int ln, .ref a2, .ref a3, .ref a4, .ref a5, .ref a6, .ref a7, .ref a8, .ref a9, .ref a10, .ref a11, .ref a12, .ref a13, .ref a14])), (a11, .inl (cI, 30, .inl fb))] := hD
  subst hw
  refine va_iald hx hb hK hP 1 0 rfl rfl (vp_in_nI (by omega) (by decide)) dX0_leadBurnsOn_19 ?_
  refine lv_topi (fun vv ev => ?_)
  obtain rfl : vv = (-1000) := ev.trans (by rw [nI_clamp (by omega)]; exact hu 0 (by decide))
  refine lv_istore (lv' := [(4, .int (-1000)), (3, .int 0), (2, .int 1000), (0, .ref h0), (1, .int (nI L))]) hx hb dX0_leadBurnsOn_20 hl (by decide) rfl (fun ls hl => ?_)
  refine lv_iload hx hb dX0_leadBurnsOn_22 (lv_at hl 0 rfl) ?_
  refine lv_sipush (v := (-1000)) hx hb dX0_leadBurnsOn_24 (by decide) ?_
  refine lv_icmp_ne (tgt := 34) hx hb dX0_leadBurnsOn_27 (by decide) (fun h9 => (by first | exact absurd h9 (by decide) | exact absurd (by decide) h9)) (fun c15 => ?_)
  refine lv_iload_n hx hb dX0_leadBurnsOn_30 rfl (lv_at hl 2 rfl) ?_
  refine lv_goto (tgt := 36) hx hb dX0_leadBurnsOn_31 (by decide) ?_
  refine lv_istore_n (lv' := [(2, .int 1000), (4, .int (-1000)), (3, .int 0), (0, .ref h0), (1, .int (nI L))]) hx hb dX0_leadBurnsOn_36 rfl hl (by decide) rfl (fun ls hl => ?_)
  refine lv_iinc (v := (-1)) (lv' := [(3, .int (-1)), (2, .int 1000), (4, .int (-1000)), (0, .ref h0), (1, .int (nI L))]) hx hb dX0_leadBurnsOn_37 hl (k := 2) rfl (by decide) (by decide) rfl (fun ls hl => ?_)
  refine lv_goto (tgt := 6) hx hb dX0_leadBurnsOn_40 (by decide) ?_
  refine lv_iload_n hx hb dX0_leadBurnsOn_6 rfl (lv_at hl 0 rfl) ?_
  refine lv_if_lt (tgt := 43) hx hb dX0_leadBurnsOn_7 (by decide) (fun c16 => ?_) (fun h9 => (by first | exact absurd h9 (by decide) | exact absurd (by decide) h9))
  refine lv_iconst (v := 0) hx hb dX0_leadBurnsOn_43 (by decide) ?_
  refine lv_istore_n (lv' := [(3, .int 0), (2, .int 1000), (4, .int (-1000)), (0, .ref h0), (1, .int (nI L))]) hx hb dX0_leadBurnsOn_44 rfl hl (by decide) rfl (fun ls hl => ?_)
  refine lv_iload_n hx hb dX0_leadBurnsOn_45 rfl (lv_at hl 0 rfl) ?_
  refine lv_iconst (v := 5) hx hb dX0_leadBurnsOn_46 (by decide) ?_
  refine lv_icmp_ge (tgt := 80) hx hb dX0_leadBurnsOn_47 (by decide) (fun h9 => (by first | exact absurd h9 (by decide) | exact absurd (by decide) h9)) (fun c17 => ?_)
  refine lv_aload_n hx hb dX0_leadBurnsOn_50 rfl (lv_at hl 3 rfl) ?_
  refine va_get (D := D) (ci := 0) (v := .ref a11) (C := RX0) (T := TX0) (N := 15) hx hb hts iw_k_leadBurnsOn_0 hown hK hP 0 rfl rfl 11 (by decide) (hts (.fieldLink RX0 39 "FlightDesk$Book" "burn" "[I") (by decide +kernel)) (fun _ h9 => h9) rfl dX0_leadBurnsOn_51 ?_
  refine lv_iload_n hx hb dX0_leadBurnsOn_54 rfl (lv_at hl 4 rfl) ?_
  refine lv_iload_n hx hb dX0_leadBurnsOn_55 rfl (lv_at hl 0 rfl) ?_
  have hPc := hP.sub (ws' := []) [] rfl
  have hDc := hD.sub (ws' := []) [] (by decide) rfl
  have hFc := va_free (wc := []) hD hS hA [] rfl
  refine va_calli (va_runSN (As := [.int (nI L), .int 0]) (rest := [.ref a11]) ⟨hx, hb, hml, hown, hts⟩ (k_burnIndex l D cI cB cP H.size L 0) ⟨va_cnB 2 hts gw_k_leadBurnsOn_0 rfl rfl rfl (hN.1) (hts (.initialized RX7) (by decide +kernel)) (by decide +kernel) ⟨Nat.le_of_ble_eq_true rfl, Nat.le_of_ble_eq_true rfl⟩, (hts (.static yX7_burnIndex) (by decide +kernel)), trivial⟩ ⟨ny_blind, ny_pre hPc hK hN hDc⟩ rfl rfl hl.1 rfl (lv_room (Nat.le_of_ble_eq_true rfl)) dX0_leadBurnsOn_56 ⟨Nat.le_of_ble_eq_true rfl, Nat.le_of_ble_eq_true rfl⟩) hS (fun q _ h => hFc q h) hFc (fun r18 u t H locs ht hvm hw hB hz1 hk1 hS => ?_)
  obtain ⟨hP, hD⟩ := va_join (wr := [(h0, .inr (0, [.int lc, .int ln, .ref a2, .ref a3, .ref a4, .ref a5, .ref a6, .ref a7, .ref a8, .ref a9, .ref a10, .ref a11, .ref a12, .ref a13, .ref a14])), (a11, .inl (cI, 30, .inl fb))]) (w1 := []) hP hD [] [0, 1] rfl rfl (by decide) (by decide) hk1 hFc ny_P0 ny_D0
  have hP : va_P D vwCl [(h0, .inr (0, [.int lc, .int ln, .ref a2, .ref a3, .ref a4, .ref a5, .ref a6, .ref a7, .ref a8, .ref a9, .ref a10, .ref a11, .ref a12, .ref a13, .ref a14])), (a11, .inl (cI, 30, .inl fb))] H := hP
  have hD : va_D A [(h0, .inr (0, [.int lc, .int ln, .ref a2, .ref a3, .ref a4, .ref a5, .ref a6, .ref a7, .ref a8, .ref a9, .ref a10, .ref a11, .ref a12, .ref a13, .ref a14])), (a11, .inl (cI, 30, .inl fb))] := hD
  subst hw
  refine lv_iload_n hx hb dX0_leadBurnsOn_59 rfl (lv_at hl 1 rfl) ?_
  have hPc := hP.sub (ws' := [(a11, .inl (cI, 30, .inl fb))]) [1] rfl
  have hDc := hD.sub (ws' := [(a11, .inl (cI, 30, .inl fb))]) [1] (by decide) rfl
  have hFc := va_free (wc := [(a11, .inl (cI, 30, .inl fb))]) hD hS hA [1] rfl
  refine va_callv (va_runS (As := [.ref a11, .int (nI (L * 5 + 0)), .int 1000]) (rest := []) ⟨hx, hb, hml, hown, hts⟩ (k_putIfUntold l D cI cB cP H.size a11 (L * 5 + 0) 30 fb 1000 (by decide) (by omega) (by rw [hu 0 (by decide)])) (cwS 3 hts gw_k_leadBurnsOn_1 rfl rfl rfl (by decide +kernel) ⟨Nat.le_of_ble_eq_true rfl, Nat.le_of_ble_eq_true rfl⟩) ⟨ny_blind, ny_pre hPc hK hN hDc⟩ rfl rfl hl.1 rfl (lv_room (Nat.le_of_ble_eq_true rfl)) dX0_leadBurnsOn_60 ⟨Nat.le_of_ble_eq_true rfl, Nat.le_of_ble_eq_true rfl⟩) hS (fun q _ h => hFc q h) hFc (fun u t H locs ht hvm hw hB hz1 hk1 hS => ?_)
  obtain ⟨g_19, hp21, hp22, hP1, hD1⟩ := hB
  rw [ht] at hP1
  obtain ⟨hP, hD⟩ := va_join (wr := [(h0, .inr (0, [.int lc, .int ln, .ref a2, .ref a3, .ref a4, .ref a5, .ref a6, .ref a7, .ref a8, .ref a9, .ref a10, .ref a11, .ref a12, .ref a13, .ref a14]))]) (w1 := [(a11, .inl (cI, 30, .inl g_19))]) hP hD [1] [0] rfl rfl (by decide) (by decide) hk1 hFc hP1 hD1
  have hP : va_P D vwCl [(h0, .inr (0, [.int lc, .int ln, .ref a2, .ref a3, .ref a4, .ref a5, .ref a6, .ref a7, .ref a8, .ref a9, .ref a10, .ref a11, .ref a12, .ref a13, .ref a14])), (a11, .inl (cI, 30, .inl g_19))] H := hP
  have hD : va_D A [(h0, .inr (0, [.int lc, .int ln, .ref a2, .ref a3, .ref a4, .ref a5, .ref a6, .ref a7, .ref a8, .ref a9, .ref a10, .ref a11, .ref a12, .ref a13, .ref a14])), (a11, .inl (cI, 30, .inl g_19))] := hD
  refine lv_aload_n hx hb dX0_leadBurnsOn_63 rfl (lv_at hl 3 rfl) ?_
  refine va_get (D := D) (ci := 0) (v := .ref a11) (C := RX0) (T := TX0) (N := 15) hx hb hts iw_k_leadBurnsOn_0 hown hK hP 0 rfl rfl 11 (by decide) (hts (.fieldLink RX0 39 "FlightDesk$Book" "burn" "[I") (by decide +kernel)) (fun _ h9 => h9) rfl dX0_leadBurnsOn_64 ?_
  refine lv_iload_n hx hb dX0_leadBurnsOn_67 rfl (lv_at hl 4 rfl) ?_
  refine lv_iload_n hx hb dX0_leadBurnsOn_68 rfl (lv_at hl 0 rfl) ?_
  have hPc := hP.sub (ws' := []) [] rfl
  have hDc := hD.sub (ws' := []) [] (by decide) rfl
  have hFc := va_free (wc := []) hD hS hA [] rfl
  refine va_calli (va_runSN (As := [.int (nI L), .int 0]) (rest := [.ref a11]) ⟨hx, hb, hml, hown, hts⟩ (k_burnIndex l D cI cB cP H.size L 0) ⟨va_cnB 2 hts gw_k_leadBurnsOn_0 rfl rfl rfl (hN.1) (hts (.initialized RX7) (by decide +kernel)) (by decide +kernel) ⟨Nat.le_of_ble_eq_true rfl, Nat.le_of_ble_eq_true rfl⟩, (hts (.static yX7_burnIndex) (by decide +kernel)), trivial⟩ ⟨ny_blind, ny_pre hPc hK hN hDc⟩ rfl rfl hl.1 rfl (lv_room (Nat.le_of_ble_eq_true rfl)) dX0_leadBurnsOn_69 ⟨Nat.le_of_ble_eq_true rfl, Nat.le_of_ble_eq_true rfl⟩) hS (fun q _ h => hFc q h) hFc (fun r23 u t H locs ht hvm hw hB hz1 hk1 hS => ?_)
  obtain ⟨hP, hD⟩ := va_join (wr := [(h0, .inr (0, [.int lc, .int ln, .ref a2, .ref a3, .ref a4, .ref a5, .ref a6, .ref a7, .ref a8, .ref a9, .ref a10, .ref a11, .ref a12, .ref a13, .ref a14])), (a11, .inl (cI, 30, .inl g_19))]) (w1 := []) hP hD [] [0, 1] rfl rfl (by decide) (by decide) hk1 hFc ny_P0 ny_D0
  have hP : va_P D vwCl [(h0, .inr (0, [.int lc, .int ln, .ref a2, .ref a3, .ref a4, .ref a5, .ref a6, .ref a7, .ref a8, .ref a9, .ref a10, .ref a11, .ref a12, .ref a13, .ref a14])), (a11, .inl (cI, 30, .inl g_19))] H := hP
  have hD : va_D A [(h0, .inr (0, [.int lc, .int ln, .ref a2, .ref a3, .ref a4, .ref a5, .ref a6, .ref a7, .ref a8, .ref a9, .ref a10, .ref a11, .ref a12, .ref a13, .ref a14])), (a11, .inl (cI, 30, .inl g_19))] := hD
  subst hw
  refine va_iald hx hb hK hP 1 0 rfl rfl (vp_in_nI (by omega) (by decide)) dX0_leadBurnsOn_72 ?_
  refine lv_topi (fun vv ev => ?_)
  obtain rfl : vv = 1000 := ev.trans (by rw [nI_clamp (by omega)]; exact hp21)
  refine lv_istore_n (lv' := [(2, .int 1000), (3, .int 0), (4, .int (-1000)), (0, .ref h0), (1, .int (nI L))]) hx hb dX0_leadBurnsOn_73 rfl hl (by decide) rfl (fun ls hl => ?_)
  refine lv_iinc (v := 1) (lv' := [(3, .int 1), (2, .int 1000), (4, .int (-1000)), (0, .ref h0), (1, .int (nI L))]) hx hb dX0_leadBurnsOn_74 hl (k := 1) rfl (by decide) (by decide) rfl (fun ls hl => ?_)
  refine lv_goto (tgt := 45) hx hb dX0_leadBurnsOn_77 (by decide) ?_
  refine lv_iload_n hx hb dX0_leadBurnsOn_45 rfl (lv_at hl 0 rfl) ?_
  refine lv_iconst (v := 5) hx hb dX0_leadBurnsOn_46 (by decide) ?_
  refine lv_icmp_ge (tgt := 80) hx hb dX0_leadBurnsOn_47 (by decide) (fun h9 => (by first | exact absurd h9 (by decide) | exact absurd (by decide) h9)) (fun c24 => ?_)
  refine lv_aload_n hx hb dX0_leadBurnsOn_50 rfl (lv_at hl 3 rfl) ?_
  refine va_get (D := D) (ci := 0) (v := .ref a11) (C := RX0) (T := TX0) (N := 15) hx hb hts iw_k_leadBurnsOn_0 hown hK hP 0 rfl rfl 11 (by decide) (hts (.fieldLink RX0 39 "FlightDesk$Book" "burn" "[I") (by decide +kernel)) (fun _ h9 => h9) rfl dX0_leadBurnsOn_51 ?_
  refine lv_iload_n hx hb dX0_leadBurnsOn_54 rfl (lv_at hl 4 rfl) ?_
  refine lv_iload_n hx hb dX0_leadBurnsOn_55 rfl (lv_at hl 0 rfl) ?_
  have hPc := hP.sub (ws' := []) [] rfl
  have hDc := hD.sub (ws' := []) [] (by decide) rfl
  have hFc := va_free (wc := []) hD hS hA [] rfl
  refine va_calli (va_runSN (As := [.int (nI L), .int 1]) (rest := [.ref a11]) ⟨hx, hb, hml, hown, hts⟩ (k_burnIndex l D cI cB cP H.size L 1) ⟨va_cnB 2 hts gw_k_leadBurnsOn_0 rfl rfl rfl (hN.1) (hts (.initialized RX7) (by decide +kernel)) (by decide +kernel) ⟨Nat.le_of_ble_eq_true rfl, Nat.le_of_ble_eq_true rfl⟩, (hts (.static yX7_burnIndex) (by decide +kernel)), trivial⟩ ⟨ny_blind, ny_pre hPc hK hN hDc⟩ rfl rfl hl.1 rfl (lv_room (Nat.le_of_ble_eq_true rfl)) dX0_leadBurnsOn_56 ⟨Nat.le_of_ble_eq_true rfl, Nat.le_of_ble_eq_true rfl⟩) hS (fun q _ h => hFc q h) hFc (fun r25 u t H locs ht hvm hw hB hz1 hk1 hS => ?_)
  obtain ⟨hP, hD⟩ := va_join (wr := [(h0, .inr (0, [.int lc, .int ln, .ref a2, .ref a3, .ref a4, .ref a5, .ref a6, .ref a7, .ref a8, .ref a9, .ref a10, .ref a11, .ref a12, .ref a13, .ref a14])), (a11, .inl (cI, 30, .inl g_19))]) (w1 := []) hP hD [] [0, 1] rfl rfl (by decide) (by decide) hk1 hFc ny_P0 ny_D0
  have hP : va_P D vwCl [(h0, .inr (0, [.int lc, .int ln, .ref a2, .ref a3, .ref a4, .ref a5, .ref a6, .ref a7, .ref a8, .ref a9, .ref a10, .ref a11, .ref a12, .ref a13, .ref a14])), (a11, .inl (cI, 30, .inl g_19))] H := hP
  have hD : va_D A [(h0, .inr (0, [.int lc, .int ln, .ref a2, .ref a3, .ref a4, .ref a5, .ref a6, .ref a7, .ref a8, .ref a9, .ref a10, .ref a11, .ref a12, .ref a13, .ref a14])), (a11, .inl (cI, 30, .inl g_19))] := hD
  subst hw
  refine lv_iload_n hx hb dX0_leadBurnsOn_59 rfl (lv_at hl 1 rfl) ?_
  have hPc := hP.sub (ws' := [(a11, .inl (cI, 30, .inl g_19))]) [1] rfl
  have hDc := hD.sub (ws' := [(a11, .inl (cI, 30, .inl g_19))]) [1] (by decide) rfl
  have hFc := va_free (wc := [(a11, .inl (cI, 30, .inl g_19))]) hD hS hA [1] rfl
  refine va_callv (va_runS (As := [.ref a11, .int (nI (L * 5 + 1)), .int 1000]) (rest := []) ⟨hx, hb, hml, hown, hts⟩ (k_putIfUntold l D cI cB cP H.size a11 (L * 5 + 1) 30 g_19 1000 (by decide) (by omega) (by rw [hp22 _ (by omega), hu 1 (by decide)])) (cwS 3 hts gw_k_leadBurnsOn_1 rfl rfl rfl (by decide +kernel) ⟨Nat.le_of_ble_eq_true rfl, Nat.le_of_ble_eq_true rfl⟩) ⟨ny_blind, ny_pre hPc hK hN hDc⟩ rfl rfl hl.1 rfl (lv_room (Nat.le_of_ble_eq_true rfl)) dX0_leadBurnsOn_60 ⟨Nat.le_of_ble_eq_true rfl, Nat.le_of_ble_eq_true rfl⟩) hS (fun q _ h => hFc q h) hFc (fun u t H locs ht hvm hw hB hz1 hk1 hS => ?_)
  obtain ⟨g_26, hp28, hp29, hP1, hD1⟩ := hB
  rw [ht] at hP1
  obtain ⟨hP, hD⟩ := va_join (wr := [(h0, .inr (0, [.int lc, .int ln, .ref a2, .ref a3, .ref a4, .ref a5, .ref a6, .ref a7, .ref a8, .ref a9, .ref a10, .ref a11, .ref a12, .ref a13, .ref a14]))]) (w1 := [(a11, .inl (cI, 30, .inl g_26))]) hP hD [1] [0] rfl rfl (by decide) (by decide) hk1 hFc hP1 hD1
  have hP : va_P D vwCl [(h0, .inr (0, [.int lc, .int ln, .ref a2, .ref a3, .ref a4, .ref a5, .ref a6, .ref a7, .ref a8, .ref a9, .ref a10, .ref a11, .ref a12, .ref a13, .ref a14])), (a11, .inl (cI, 30, .inl g_26))] H := hP
  have hD : va_D A [(h0, .inr (0, [.int lc, .int ln, .ref a2, .ref a3, .ref a4, .ref a5, .ref a6, .ref a7, .ref a8, .ref a9, .ref a10, .ref a11, .ref a12, .ref a13, .ref a14])), (a11, .inl (cI, 30, .inl g_26))] := hD
  refine lv_aload_n hx hb dX0_leadBurnsOn_63 rfl (lv_at hl 3 rfl) ?_
  refine va_get (D := D) (ci := 0) (v := .ref a11) (C := RX0) (T := TX0) (N := 15) hx hb hts iw_k_leadBurnsOn_0 hown hK hP 0 rfl rfl 11 (by decide) (hts (.fieldLink RX0 39 "FlightDesk$Book" "burn" "[I") (by decide +kernel)) (fun _ h9 => h9) rfl dX0_leadBurnsOn_64 ?_
  refine lv_iload_n hx hb dX0_leadBurnsOn_67 rfl (lv_at hl 4 rfl) ?_
  refine lv_iload_n hx hb dX0_leadBurnsOn_68 rfl (lv_at hl 0 rfl) ?_
  have hPc := hP.sub (ws' := []) [] rfl
  have hDc := hD.sub (ws' := []) [] (by decide) rfl
  have hFc := va_free (wc := []) hD hS hA [] rfl
  refine va_calli (va_runSN (As := [.int (nI L), .int 1]) (rest := [.ref a11]) ⟨hx, hb, hml, hown, hts⟩ (k_burnIndex l D cI cB cP H.size L 1) ⟨va_cnB 2 hts gw_k_leadBurnsOn_0 rfl rfl rfl (hN.1) (hts (.initialized RX7) (by decide +kernel)) (by decide +kernel) ⟨Nat.le_of_ble_eq_true rfl, Nat.le_of_ble_eq_true rfl⟩, (hts (.static yX7_burnIndex) (by decide +kernel)), trivial⟩ ⟨ny_blind, ny_pre hPc hK hN hDc⟩ rfl rfl hl.1 rfl (lv_room (Nat.le_of_ble_eq_true rfl)) dX0_leadBurnsOn_69 ⟨Nat.le_of_ble_eq_true rfl, Nat.le_of_ble_eq_true rfl⟩) hS (fun q _ h => hFc q h) hFc (fun r30 u t H locs ht hvm hw hB hz1 hk1 hS => ?_)
  obtain ⟨hP, hD⟩ := va_join (wr := [(h0, .inr (0, [.int lc, .int ln, .ref a2, .ref a3, .ref a4, .ref a5, .ref a6, .ref a7, .ref a8, .ref a9, .ref a10, .ref a11, .ref a12, .ref a13, .ref a14])), (a11, .inl (cI, 30, .inl g_26))]) (w1 := []) hP hD [] [0, 1] rfl rfl (by decide) (by decide) hk1 hFc ny_P0 ny_D0
  have hP : va_P D vwCl [(h0, .inr (0, [.int lc, .int ln, .ref a2, .ref a3, .ref a4, .ref a5, .ref a6, .ref a7, .ref a8, .ref a9, .ref a10, .ref a11, .ref a12, .ref a13, .ref a14])), (a11, .inl (cI, 30, .inl g_26))] H := hP
  have hD : va_D A [(h0, .inr (0, [.int lc, .int ln, .ref a2, .ref a3, .ref a4, .ref a5, .ref a6, .ref a7, .ref a8, .ref a9, .ref a10, .ref a11, .ref a12, .ref a13, .ref a14])), (a11, .inl (cI, 30, .inl g_26))] := hD
  subst hw
  refine va_iald hx hb hK hP 1 0 rfl rfl (vp_in_nI (by omega) (by decide)) dX0_leadBurnsOn_72 ?_
  refine lv_topi (fun vv ev => ?_)
  obtain rfl : vv = 1000 := ev.trans (by rw [nI_clamp (by omega)]; exact hp28)
  refine lv_istore_n (lv' := [(2, .int 1000), (3, .int 1), (4, .int (-1000)), (0, .ref h0), (1, .int (nI L))]) hx hb dX0_leadBurnsOn_73 rfl hl (by decide) rfl (fun ls hl => ?_)
  refine lv_iinc (v := 2) (lv' := [(3, .int 2), (2, .int 1000), (4, .int (-1000)), (0, .ref h0), (1, .int (nI L))]) hx hb dX0_leadBurnsOn_74 hl (k := 1) rfl (by decide) (by decide) rfl (fun ls hl => ?_)
  refine lv_goto (tgt := 45) hx hb dX0_leadBurnsOn_77 (by decide) ?_
  refine lv_iload_n hx hb dX0_leadBurnsOn_45 rfl (lv_at hl 0 rfl) ?_
  refine lv_iconst (v := 5) hx hb dX0_leadBurnsOn_46 (by decide) ?_
  refine lv_icmp_ge (tgt := 80) hx hb dX0_leadBurnsOn_47 (by decide) (fun h9 => (by first | exact absurd h9 (by decide) | exact absurd (by decide) h9)) (fun c31 => ?_)
  refine lv_aload_n hx hb dX0_leadBurnsOn_50 rfl (lv_at hl 3 rfl) ?_
  refine va_get (D := D) (ci := 0) (v := .ref a11) (C := RX0) (T := TX0) (N := 15) hx hb hts iw_k_leadBurnsOn_0 hown hK hP 0 rfl rfl 11 (by decide) (hts (.fieldLink RX0 39 "FlightDesk$Book" "burn" "[I") (by decide +kernel)) (fun _ h9 => h9) rfl dX0_leadBurnsOn_51 ?_
  refine lv_iload_n hx hb dX0_leadBurnsOn_54 rfl (lv_at hl 4 rfl) ?_
  refine lv_iload_n hx hb dX0_leadBurnsOn_55 rfl (lv_at hl 0 rfl) ?_
  have hPc := hP.sub (ws' := []) [] rfl
  have hDc := hD.sub (ws' := []) [] (by decide) rfl
  have hFc := va_free (wc := []) hD hS hA [] rfl
  refine va_calli (va_runSN (As := [.int (nI L), .int 2]) (rest := [.ref a11]) ⟨hx, hb, hml, hown, hts⟩ (k_burnIndex l D cI cB cP H.size L 2) ⟨va_cnB 2 hts gw_k_leadBurnsOn_0 rfl rfl rfl (hN.1) (hts (.initialized RX7) (by decide +kernel)) (by decide +kernel) ⟨Nat.le_of_ble_eq_true rfl, Nat.le_of_ble_eq_true rfl⟩, (hts (.static yX7_burnIndex) (by decide +kernel)), trivial⟩ ⟨ny_blind, ny_pre hPc hK hN hDc⟩ rfl rfl hl.1 rfl (lv_room (Nat.le_of_ble_eq_true rfl)) dX0_leadBurnsOn_56 ⟨Nat.le_of_ble_eq_true rfl, Nat.le_of_ble_eq_true rfl⟩) hS (fun q _ h => hFc q h) hFc (fun r32 u t H locs ht hvm hw hB hz1 hk1 hS => ?_)
  obtain ⟨hP, hD⟩ := va_join (wr := [(h0, .inr (0, [.int lc, .int ln, .ref a2, .ref a3, .ref a4, .ref a5, .ref a6, .ref a7, .ref a8, .ref a9, .ref a10, .ref a11, .ref a12, .ref a13, .ref a14])), (a11, .inl (cI, 30, .inl g_26))]) (w1 := []) hP hD [] [0, 1] rfl rfl (by decide) (by decide) hk1 hFc ny_P0 ny_D0
  have hP : va_P D vwCl [(h0, .inr (0, [.int lc, .int ln, .ref a2, .ref a3, .ref a4, .ref a5, .ref a6, .ref a7, .ref a8, .ref a9, .ref a10, .ref a11, .ref a12, .ref a13, .ref a14])), (a11, .inl (cI, 30, .inl g_26))] H := hP
  have hD : va_D A [(h0, .inr (0, [.int lc, .int ln, .ref a2, .ref a3, .ref a4, .ref a5, .ref a6, .ref a7, .ref a8, .ref a9, .ref a10, .ref a11, .ref a12, .ref a13, .ref a14])), (a11, .inl (cI, 30, .inl g_26))] := hD
  subst hw
  refine lv_iload_n hx hb dX0_leadBurnsOn_59 rfl (lv_at hl 1 rfl) ?_
  have hPc := hP.sub (ws' := [(a11, .inl (cI, 30, .inl g_26))]) [1] rfl
  have hDc := hD.sub (ws' := [(a11, .inl (cI, 30, .inl g_26))]) [1] (by decide) rfl
  have hFc := va_free (wc := [(a11, .inl (cI, 30, .inl g_26))]) hD hS hA [1] rfl
  refine va_callv (va_runS (As := [.ref a11, .int (nI (L * 5 + 2)), .int 1000]) (rest := []) ⟨hx, hb, hml, hown, hts⟩ (k_putIfUntold l D cI cB cP H.size a11 (L * 5 + 2) 30 g_26 1000 (by decide) (by omega) (by rw [hp29 _ (by omega), hp22 _ (by omega), hu 2 (by decide)])) (cwS 3 hts gw_k_leadBurnsOn_1 rfl rfl rfl (by decide +kernel) ⟨Nat.le_of_ble_eq_true rfl, Nat.le_of_ble_eq_true rfl⟩) ⟨ny_blind, ny_pre hPc hK hN hDc⟩ rfl rfl hl.1 rfl (lv_room (Nat.le_of_ble_eq_true rfl)) dX0_leadBurnsOn_60 ⟨Nat.le_of_ble_eq_true rfl, Nat.le_of_ble_eq_true rfl⟩) hS (fun q _ h => hFc q h) hFc (fun u t H locs ht hvm hw hB hz1 hk1 hS => ?_)
  obtain ⟨g_33, hp35, hp36, hP1, hD1⟩ := hB
  rw [ht] at hP1
  obtain ⟨hP, hD⟩ := va_join (wr := [(h0, .inr (0, [.int lc, .int ln, .ref a2, .ref a3, .ref a4, .ref a5, .ref a6, .ref a7, .ref a8, .ref a9, .ref a10, .ref a11, .ref a12, .ref a13, .ref a14]))]) (w1 := [(a11, .inl (cI, 30, .inl g_33))]) hP hD [1] [0] rfl rfl (by decide) (by decide) hk1 hFc hP1 hD1
  have hP : va_P D vwCl [(h0, .inr (0, [.int lc, .int ln, .ref a2, .ref a3, .ref a4, .ref a5, .ref a6, .ref a7, .ref a8, .ref a9, .ref a10, .ref a11, .ref a12, .ref a13, .ref a14])), (a11, .inl (cI, 30, .inl g_33))] H := hP
  have hD : va_D A [(h0, .inr (0, [.int lc, .int ln, .ref a2, .ref a3, .ref a4, .ref a5, .ref a6, .ref a7, .ref a8, .ref a9, .ref a10, .ref a11, .ref a12, .ref a13, .ref a14])), (a11, .inl (cI, 30, .inl g_33))] := hD
  refine lv_aload_n hx hb dX0_leadBurnsOn_63 rfl (lv_at hl 3 rfl) ?_
  refine va_get (D := D) (ci := 0) (v := .ref a11) (C := RX0) (T := TX0) (N := 15) hx hb hts iw_k_leadBurnsOn_0 hown hK hP 0 rfl rfl 11 (by decide) (hts (.fieldLink RX0 39 "FlightDesk$Book" "burn" "[I") (by decide +kernel)) (fun _ h9 => h9) rfl dX0_leadBurnsOn_64 ?_
  refine lv_iload_n hx hb dX0_leadBurnsOn_67 rfl (lv_at hl 4 rfl) ?_
  refine lv_iload_n hx hb dX0_leadBurnsOn_68 rfl (lv_at hl 0 rfl) ?_
  have hPc := hP.sub (ws' := []) [] rfl
  have hDc := hD.sub (ws' := []) [] (by decide) rfl
  have hFc := va_free (wc := []) hD hS hA [] rfl
  refine va_calli (va_runSN (As := [.int (nI L), .int 2]) (rest := [.ref a11]) ⟨hx, hb, hml, hown, hts⟩ (k_burnIndex l D cI cB cP H.size L 2) ⟨va_cnB 2 hts gw_k_leadBurnsOn_0 rfl rfl rfl (hN.1) (hts (.initialized RX7) (by decide +kernel)) (by decide +kernel) ⟨Nat.le_of_ble_eq_true rfl, Nat.le_of_ble_eq_true rfl⟩, (hts (.static yX7_burnIndex) (by decide +kernel)), trivial⟩ ⟨ny_blind, ny_pre hPc hK hN hDc⟩ rfl rfl hl.1 rfl (lv_room (Nat.le_of_ble_eq_true rfl)) dX0_leadBurnsOn_69 ⟨Nat.le_of_ble_eq_true rfl, Nat.le_of_ble_eq_true rfl⟩) hS (fun q _ h => hFc q h) hFc (fun r37 u t H locs ht hvm hw hB hz1 hk1 hS => ?_)
  obtain ⟨hP, hD⟩ := va_join (wr := [(h0, .inr (0, [.int lc, .int ln, .ref a2, .ref a3, .ref a4, .ref a5, .ref a6, .ref a7, .ref a8, .ref a9, .ref a10, .ref a11, .ref a12, .ref a13, .ref a14])), (a11, .inl (cI, 30, .inl g_33))]) (w1 := []) hP hD [] [0, 1] rfl rfl (by decide) (by decide) hk1 hFc ny_P0 ny_D0
  have hP : va_P D vwCl [(h0, .inr (0, [.int lc, .int ln, .ref a2, .ref a3, .ref a4, .ref a5, .ref a6, .ref a7, .ref a8, .ref a9, .ref a10, .ref a11, .ref a12, .ref a13, .ref a14])), (a11, .inl (cI, 30, .inl g_33))] H := hP
  have hD : va_D A [(h0, .inr (0, [.int lc, .int ln, .ref a2, .ref a3, .ref a4, .ref a5, .ref a6, .ref a7, .ref a8, .ref a9, .ref a10, .ref a11, .ref a12, .ref a13, .ref a14])), (a11, .inl (cI, 30, .inl g_33))] := hD
  subst hw
  refine va_iald hx hb hK hP 1 0 rfl rfl (vp_in_nI (by omega) (by decide)) dX0_leadBurnsOn_72 ?_
  refine lv_topi (fun vv ev => ?_)
  obtain rfl : vv = 1000 := ev.trans (by rw [nI_clamp (by omega)]; exact hp35)
  refine lv_istore_n (lv' := [(2, .int 1000), (3, .int 2), (4, .int (-1000)), (0, .ref h0), (1, .int (nI L))]) hx hb dX0_leadBurnsOn_73 rfl hl (by decide) rfl (fun ls hl => ?_)
  refine lv_iinc (v := 3) (lv' := [(3, .int 3), (2, .int 1000), (4, .int (-1000)), (0, .ref h0), (1, .int (nI L))]) hx hb dX0_leadBurnsOn_74 hl (k := 1) rfl (by decide) (by decide) rfl (fun ls hl => ?_)
  refine lv_goto (tgt := 45) hx hb dX0_leadBurnsOn_77 (by decide) ?_
  refine lv_iload_n hx hb dX0_leadBurnsOn_45 rfl (lv_at hl 0 rfl) ?_
  refine lv_iconst (v := 5) hx hb dX0_leadBurnsOn_46 (by decide) ?_
  refine lv_icmp_ge (tgt := 80) hx hb dX0_leadBurnsOn_47 (by decide) (fun h9 => (by first | exact absurd h9 (by decide) | exact absurd (by decide) h9)) (fun c38 => ?_)
  refine lv_aload_n hx hb dX0_leadBurnsOn_50 rfl (lv_at hl 3 rfl) ?_
  refine va_get (D := D) (ci := 0) (v := .ref a11) (C := RX0) (T := TX0) (N := 15) hx hb hts iw_k_leadBurnsOn_0 hown hK hP 0 rfl rfl 11 (by decide) (hts (.fieldLink RX0 39 "FlightDesk$Book" "burn" "[I") (by decide +kernel)) (fun _ h9 => h9) rfl dX0_leadBurnsOn_51 ?_
  refine lv_iload_n hx hb dX0_leadBurnsOn_54 rfl (lv_at hl 4 rfl) ?_
  refine lv_iload_n hx hb dX0_leadBurnsOn_55 rfl (lv_at hl 0 rfl) ?_
  have hPc := hP.sub (ws' := []) [] rfl
  have hDc := hD.sub (ws' := []) [] (by decide) rfl
  have hFc := va_free (wc := []) hD hS hA [] rfl
  refine va_calli (va_runSN (As := [.int (nI L), .int 3]) (rest := [.ref a11]) ⟨hx, hb, hml, hown, hts⟩ (k_burnIndex l D cI cB cP H.size L 3) ⟨va_cnB 2 hts gw_k_leadBurnsOn_0 rfl rfl rfl (hN.1) (hts (.initialized RX7) (by decide +kernel)) (by decide +kernel) ⟨Nat.le_of_ble_eq_true rfl, Nat.le_of_ble_eq_true rfl⟩, (hts (.static yX7_burnIndex) (by decide +kernel)), trivial⟩ ⟨ny_blind, ny_pre hPc hK hN hDc⟩ rfl rfl hl.1 rfl (lv_room (Nat.le_of_ble_eq_true rfl)) dX0_leadBurnsOn_56 ⟨Nat.le_of_ble_eq_true rfl, Nat.le_of_ble_eq_true rfl⟩) hS (fun q _ h => hFc q h) hFc (fun r39 u t H locs ht hvm hw hB hz1 hk1 hS => ?_)
  obtain ⟨hP, hD⟩ := va_join (wr := [(h0, .inr (0, [.int lc, .int ln, .ref a2, .ref a3, .ref a4, .ref a5, .ref a6, .ref a7, .ref a8, .ref a9, .ref a10, .ref a11, .ref a12, .ref a13, .ref a14])), (a11, .inl (cI, 30, .inl g_33))]) (w1 := []) hP hD [] [0, 1] rfl rfl (by decide) (by decide) hk1 hFc ny_P0 ny_D0
  have hP : va_P D vwCl [(h0, .inr (0, [.int lc, .int ln, .ref a2, .ref a3, .ref a4, .ref a5, .ref a6, .ref a7, .ref a8, .ref a9, .ref a10, .ref a11, .ref a12, .ref a13, .ref a14])), (a11, .inl (cI, 30, .inl g_33))] H := hP
  have hD : va_D A [(h0, .inr (0, [.int lc, .int ln, .ref a2, .ref a3, .ref a4, .ref a5, .ref a6, .ref a7, .ref a8, .ref a9, .ref a10, .ref a11, .ref a12, .ref a13, .ref a14])), (a11, .inl (cI, 30, .inl g_33))] := hD
  subst hw
  refine lv_iload_n hx hb dX0_leadBurnsOn_59 rfl (lv_at hl 1 rfl) ?_
  have hPc := hP.sub (ws' := [(a11, .inl (cI, 30, .inl g_33))]) [1] rfl
  have hDc := hD.sub (ws' := [(a11, .inl (cI, 30, .inl g_33))]) [1] (by decide) rfl
  have hFc := va_free (wc := [(a11, .inl (cI, 30, .inl g_33))]) hD hS hA [1] rfl
  refine va_callv (va_runS (As := [.ref a11, .int (nI (L * 5 + 3)), .int 1000]) (rest := []) ⟨hx, hb, hml, hown, hts⟩ (k_putIfUntold l D cI cB cP H.size a11 (L * 5 + 3) 30 g_33 1000 (by decide) (by omega) (by rw [hp36 _ (by omega), hp29 _ (by omega), hp22 _ (by omega), hu 3 (by decide)])) (cwS 3 hts gw_k_leadBurnsOn_1 rfl rfl rfl (by decide +kernel) ⟨Nat.le_of_ble_eq_true rfl, Nat.le_of_ble_eq_true rfl⟩) ⟨ny_blind, ny_pre hPc hK hN hDc⟩ rfl rfl hl.1 rfl (lv_room (Nat.le_of_ble_eq_true rfl)) dX0_leadBurnsOn_60 ⟨Nat.le_of_ble_eq_true rfl, Nat.le_of_ble_eq_true rfl⟩) hS (fun q _ h => hFc q h) hFc (fun u t H locs ht hvm hw hB hz1 hk1 hS => ?_)
  obtain ⟨g_40, hp42, hp43, hP1, hD1⟩ := hB
  rw [ht] at hP1
  obtain ⟨hP, hD⟩ := va_join (wr := [(h0, .inr (0, [.int lc, .int ln, .ref a2, .ref a3, .ref a4, .ref a5, .ref a6, .ref a7, .ref a8, .ref a9, .ref a10, .ref a11, .ref a12, .ref a13, .ref a14]))]) (w1 := [(a11, .inl (cI, 30, .inl g_40))]) hP hD [1] [0] rfl rfl (by decide) (by decide) hk1 hFc hP1 hD1
  have hP : va_P D vwCl [(h0, .inr (0, [.int lc, .int ln, .ref a2, .ref a3, .ref a4, .ref a5, .ref a6, .ref a7, .ref a8, .ref a9, .ref a10, .ref a11, .ref a12, .ref a13, .ref a14])), (a11, .inl (cI, 30, .inl g_40))] H := hP
  have hD : va_D A [(h0, .inr (0, [.int lc, .int ln, .ref a2, .ref a3, .ref a4, .ref a5, .ref a6, .ref a7, .ref a8, .ref a9, .ref a10, .ref a11, .ref a12, .ref a13, .ref a14])), (a11, .inl (cI, 30, .inl g_40))] := hD
  refine lv_aload_n hx hb dX0_leadBurnsOn_63 rfl (lv_at hl 3 rfl) ?_
  refine va_get (D := D) (ci := 0) (v := .ref a11) (C := RX0) (T := TX0) (N := 15) hx hb hts iw_k_leadBurnsOn_0 hown hK hP 0 rfl rfl 11 (by decide) (hts (.fieldLink RX0 39 "FlightDesk$Book" "burn" "[I") (by decide +kernel)) (fun _ h9 => h9) rfl dX0_leadBurnsOn_64 ?_
  refine lv_iload_n hx hb dX0_leadBurnsOn_67 rfl (lv_at hl 4 rfl) ?_
  refine lv_iload_n hx hb dX0_leadBurnsOn_68 rfl (lv_at hl 0 rfl) ?_
  have hPc := hP.sub (ws' := []) [] rfl
  have hDc := hD.sub (ws' := []) [] (by decide) rfl
  have hFc := va_free (wc := []) hD hS hA [] rfl
  refine va_calli (va_runSN (As := [.int (nI L), .int 3]) (rest := [.ref a11]) ⟨hx, hb, hml, hown, hts⟩ (k_burnIndex l D cI cB cP H.size L 3) ⟨va_cnB 2 hts gw_k_leadBurnsOn_0 rfl rfl rfl (hN.1) (hts (.initialized RX7) (by decide +kernel)) (by decide +kernel) ⟨Nat.le_of_ble_eq_true rfl, Nat.le_of_ble_eq_true rfl⟩, (hts (.static yX7_burnIndex) (by decide +kernel)), trivial⟩ ⟨ny_blind, ny_pre hPc hK hN hDc⟩ rfl rfl hl.1 rfl (lv_room (Nat.le_of_ble_eq_true rfl)) dX0_leadBurnsOn_69 ⟨Nat.le_of_ble_eq_true rfl, Nat.le_of_ble_eq_true rfl⟩) hS (fun q _ h => hFc q h) hFc (fun r44 u t H locs ht hvm hw hB hz1 hk1 hS => ?_)
  obtain ⟨hP, hD⟩ := va_join (wr := [(h0, .inr (0, [.int lc, .int ln, .ref a2, .ref a3, .ref a4, .ref a5, .ref a6, .ref a7, .ref a8, .ref a9, .ref a10, .ref a11, .ref a12, .ref a13, .ref a14])), (a11, .inl (cI, 30, .inl g_40))]) (w1 := []) hP hD [] [0, 1] rfl rfl (by decide) (by decide) hk1 hFc ny_P0 ny_D0
  have hP : va_P D vwCl [(h0, .inr (0, [.int lc, .int ln, .ref a2, .ref a3, .ref a4, .ref a5, .ref a6, .ref a7, .ref a8, .ref a9, .ref a10, .ref a11, .ref a12, .ref a13, .ref a14])), (a11, .inl (cI, 30, .inl g_40))] H := hP
  have hD : va_D A [(h0, .inr (0, [.int lc, .int ln, .ref a2, .ref a3, .ref a4, .ref a5, .ref a6, .ref a7, .ref a8, .ref a9, .ref a10, .ref a11, .ref a12, .ref a13, .ref a14])), (a11, .inl (cI, 30, .inl g_40))] := hD
  subst hw
  refine va_iald hx hb hK hP 1 0 rfl rfl (vp_in_nI (by omega) (by decide)) dX0_leadBurnsOn_72 ?_
  refine lv_topi (fun vv ev => ?_)
  obtain rfl : vv = 1000 := ev.trans (by rw [nI_clamp (by omega)]; exact hp42)
  refine lv_istore_n (lv' := [(2, .int 1000), (3, .int 3), (4, .int (-1000)), (0, .ref h0), (1, .int (nI L))]) hx hb dX0_leadBurnsOn_73 rfl hl (by decide) rfl (fun ls hl => ?_)
  refine lv_iinc (v := 4) (lv' := [(3, .int 4), (2, .int 1000), (4, .int (-1000)), (0, .ref h0), (1, .int (nI L))]) hx hb dX0_leadBurnsOn_74 hl (k := 1) rfl (by decide) (by decide) rfl (fun ls hl => ?_)
  refine lv_goto (tgt := 45) hx hb dX0_leadBurnsOn_77 (by decide) ?_
  refine lv_iload_n hx hb dX0_leadBurnsOn_45 rfl (lv_at hl 0 rfl) ?_
  refine lv_iconst (v := 5) hx hb dX0_leadBurnsOn_46 (by decide) ?_
  refine lv_icmp_ge (tgt := 80) hx hb dX0_leadBurnsOn_47 (by decide) (fun h9 => (by first | exact absurd h9 (by decide) | exact absurd (by decide) h9)) (fun c45 => ?_)
  refine lv_aload_n hx hb dX0_leadBurnsOn_50 rfl (lv_at hl 3 rfl) ?_
  refine va_get (D := D) (ci := 0) (v := .ref a11) (C := RX0) (T := TX0) (N := 15) hx hb hts iw_k_leadBurnsOn_0 hown hK hP 0 rfl rfl 11 (by decide) (hts (.fieldLink RX0 39 "FlightDesk$Book" "burn" "[I") (by decide +kernel)) (fun _ h9 => h9) rfl dX0_leadBurnsOn_51 ?_
  refine lv_iload_n hx hb dX0_leadBurnsOn_54 rfl (lv_at hl 4 rfl) ?_
  refine lv_iload_n hx hb dX0_leadBurnsOn_55 rfl (lv_at hl 0 rfl) ?_
  have hPc := hP.sub (ws' := []) [] rfl
  have hDc := hD.sub (ws' := []) [] (by decide) rfl
  have hFc := va_free (wc := []) hD hS hA [] rfl
  refine va_calli (va_runSN (As := [.int (nI L), .int 4]) (rest := [.ref a11]) ⟨hx, hb, hml, hown, hts⟩ (k_burnIndex l D cI cB cP H.size L 4) ⟨va_cnB 2 hts gw_k_leadBurnsOn_0 rfl rfl rfl (hN.1) (hts (.initialized RX7) (by decide +kernel)) (by decide +kernel) ⟨Nat.le_of_ble_eq_true rfl, Nat.le_of_ble_eq_true rfl⟩, (hts (.static yX7_burnIndex) (by decide +kernel)), trivial⟩ ⟨ny_blind, ny_pre hPc hK hN hDc⟩ rfl rfl hl.1 rfl (lv_room (Nat.le_of_ble_eq_true rfl)) dX0_leadBurnsOn_56 ⟨Nat.le_of_ble_eq_true rfl, Nat.le_of_ble_eq_true rfl⟩) hS (fun q _ h => hFc q h) hFc (fun r46 u t H locs ht hvm hw hB hz1 hk1 hS => ?_)
  obtain ⟨hP, hD⟩ := va_join (wr := [(h0, .inr (0, [.int lc, .int ln, .ref a2, .ref a3, .ref a4, .ref a5, .ref a6, .ref a7, .ref a8, .ref a9, .ref a10, .ref a11, .ref a12, .ref a13, .ref a14])), (a11, .inl (cI, 30, .inl g_40))]) (w1 := []) hP hD [] [0, 1] rfl rfl (by decide) (by decide) hk1 hFc ny_P0 ny_D0
  have hP : va_P D vwCl [(h0, .inr (0, [.int lc, .int ln, .ref a2, .ref a3, .ref a4, .ref a5, .ref a6, .ref a7, .ref a8, .ref a9, .ref a10, .ref a11, .ref a12, .ref a13, .ref a14])), (a11, .inl (cI, 30, .inl g_40))] H := hP
  have hD : va_D A [(h0, .inr (0, [.int lc, .int ln, .ref a2, .ref a3, .ref a4, .ref a5, .ref a6, .ref a7, .ref a8, .ref a9, .ref a10, .ref a11, .ref a12, .ref a13, .ref a14])), (a11, .inl (cI, 30, .inl g_40))] := hD
  subst hw
  refine lv_iload_n hx hb dX0_leadBurnsOn_59 rfl (lv_at hl 1 rfl) ?_
  have hPc := hP.sub (ws' := [(a11, .inl (cI, 30, .inl g_40))]) [1] rfl
  have hDc := hD.sub (ws' := [(a11, .inl (cI, 30, .inl g_40))]) [1] (by decide) rfl
  have hFc := va_free (wc := [(a11, .inl (cI, 30, .inl g_40))]) hD hS hA [1] rfl
  refine va_callv (va_runS (As := [.ref a11, .int (nI (L * 5 + 4)), .int 1000]) (rest := []) ⟨hx, hb, hml, hown, hts⟩ (k_putIfUntold l D cI cB cP H.size a11 (L * 5 + 4) 30 g_40 1000 (by decide) (by omega) (by rw [hp43 _ (by omega), hp36 _ (by omega), hp29 _ (by omega), hp22 _ (by omega), hu 4 (by decide)])) (cwS 3 hts gw_k_leadBurnsOn_1 rfl rfl rfl (by decide +kernel) ⟨Nat.le_of_ble_eq_true rfl, Nat.le_of_ble_eq_true rfl⟩) ⟨ny_blind, ny_pre hPc hK hN hDc⟩ rfl rfl hl.1 rfl (lv_room (Nat.le_of_ble_eq_true rfl)) dX0_leadBurnsOn_60 ⟨Nat.le_of_ble_eq_true rfl, Nat.le_of_ble_eq_true rfl⟩) hS (fun q _ h => hFc q h) hFc (fun u t H locs ht hvm hw hB hz1 hk1 hS => ?_)
  obtain ⟨g_47, hp49, hp50, hP1, hD1⟩ := hB
  rw [ht] at hP1
  obtain ⟨hP, hD⟩ := va_join (wr := [(h0, .inr (0, [.int lc, .int ln, .ref a2, .ref a3, .ref a4, .ref a5, .ref a6, .ref a7, .ref a8, .ref a9, .ref a10, .ref a11, .ref a12, .ref a13, .ref a14]))]) (w1 := [(a11, .inl (cI, 30, .inl g_47))]) hP hD [1] [0] rfl rfl (by decide) (by decide) hk1 hFc hP1 hD1
  have hP : va_P D vwCl [(h0, .inr (0, [.int lc, .int ln, .ref a2, .ref a3, .ref a4, .ref a5, .ref a6, .ref a7, .ref a8, .ref a9, .ref a10, .ref a11, .ref a12, .ref a13, .ref a14])), (a11, .inl (cI, 30, .inl g_47))] H := hP
  have hD : va_D A [(h0, .inr (0, [.int lc, .int ln, .ref a2, .ref a3, .ref a4, .ref a5, .ref a6, .ref a7, .ref a8, .ref a9, .ref a10, .ref a11, .ref a12, .ref a13, .ref a14])), (a11, .inl (cI, 30, .inl g_47))] := hD
  refine lv_aload_n hx hb dX0_leadBurnsOn_63 rfl (lv_at hl 3 rfl) ?_
  refine va_get (D := D) (ci := 0) (v := .ref a11) (C := RX0) (T := TX0) (N := 15) hx hb hts iw_k_leadBurnsOn_0 hown hK hP 0 rfl rfl 11 (by decide) (hts (.fieldLink RX0 39 "FlightDesk$Book" "burn" "[I") (by decide +kernel)) (fun _ h9 => h9) rfl dX0_leadBurnsOn_64 ?_
  refine lv_iload_n hx hb dX0_leadBurnsOn_67 rfl (lv_at hl 4 rfl) ?_
  refine lv_iload_n hx hb dX0_leadBurnsOn_68 rfl (lv_at hl 0 rfl) ?_
  have hPc := hP.sub (ws' := []) [] rfl
  have hDc := hD.sub (ws' := []) [] (by decide) rfl
  have hFc := va_free (wc := []) hD hS hA [] rfl
  refine va_calli (va_runSN (As := [.int (nI L), .int 4]) (rest := [.ref a11]) ⟨hx, hb, hml, hown, hts⟩ (k_burnIndex l D cI cB cP H.size L 4) ⟨va_cnB 2 hts gw_k_leadBurnsOn_0 rfl rfl rfl (hN.1) (hts (.initialized RX7) (by decide +kernel)) (by decide +kernel) ⟨Nat.le_of_ble_eq_true rfl, Nat.le_of_ble_eq_true rfl⟩, (hts (.static yX7_burnIndex) (by decide +kernel)), trivial⟩ ⟨ny_blind, ny_pre hPc hK hN hDc⟩ rfl rfl hl.1 rfl (lv_room (Nat.le_of_ble_eq_true rfl)) dX0_leadBurnsOn_69 ⟨Nat.le_of_ble_eq_true rfl, Nat.le_of_ble_eq_true rfl⟩) hS (fun q _ h => hFc q h) hFc (fun r51 u t H locs ht hvm hw hB hz1 hk1 hS => ?_)
  obtain ⟨hP, hD⟩ := va_join (wr := [(h0, .inr (0, [.int lc, .int ln, .ref a2, .ref a3, .ref a4, .ref a5, .ref a6, .ref a7, .ref a8, .ref a9, .ref a10, .ref a11, .ref a12, .ref a13, .ref a14])), (a11, .inl (cI, 30, .inl g_47))]) (w1 := []) hP hD [] [0, 1] rfl rfl (by decide) (by decide) hk1 hFc ny_P0 ny_D0
  have hP : va_P D vwCl [(h0, .inr (0, [.int lc, .int ln, .ref a2, .ref a3, .ref a4, .ref a5, .ref a6, .ref a7, .ref a8, .ref a9, .ref a10, .ref a11, .ref a12, .ref a13, .ref a14])), (a11, .inl (cI, 30, .inl g_47))] H := hP
  have hD : va_D A [(h0, .inr (0, [.int lc, .int ln, .ref a2, .ref a3, .ref a4, .ref a5, .ref a6, .ref a7, .ref a8, .ref a9, .ref a10, .ref a11, .ref a12, .ref a13, .ref a14])), (a11, .inl (cI, 30, .inl g_47))] := hD
  subst hw
  refine va_iald hx hb hK hP 1 0 rfl rfl (vp_in_nI (by omega) (by decide)) dX0_leadBurnsOn_72 ?_
  refine lv_topi (fun vv ev => ?_)
  obtain rfl : vv = 1000 := ev.trans (by rw [nI_clamp (by omega)]; exact hp49)
  refine lv_istore_n (lv' := [(2, .int 1000), (3, .int 4), (4, .int (-1000)), (0, .ref h0), (1, .int (nI L))]) hx hb dX0_leadBurnsOn_73 rfl hl (by decide) rfl (fun ls hl => ?_)
  refine lv_iinc (v := 5) (lv' := [(3, .int 5), (2, .int 1000), (4, .int (-1000)), (0, .ref h0), (1, .int (nI L))]) hx hb dX0_leadBurnsOn_74 hl (k := 1) rfl (by decide) (by decide) rfl (fun ls hl => ?_)
  refine lv_goto (tgt := 45) hx hb dX0_leadBurnsOn_77 (by decide) ?_
  refine lv_iload_n hx hb dX0_leadBurnsOn_45 rfl (lv_at hl 0 rfl) ?_
  refine lv_iconst (v := 5) hx hb dX0_leadBurnsOn_46 (by decide) ?_
  refine lv_icmp_ge (tgt := 80) hx hb dX0_leadBurnsOn_47 (by decide) (fun c52 => ?_) (fun h9 => (by first | exact absurd h9 (by decide) | exact absurd (by decide) h9))
  have hP9 := hP.sub (ws' := [(h0, .inr (0, [.int lc, .int ln, .ref a2, .ref a3, .ref a4, .ref a5, .ref a6, .ref a7, .ref a8, .ref a9, .ref a10, .ref a11, .ref a12, .ref a13, .ref a14])), (a11, .inl (cI, 30, .inl g_47))]) [0, 1] rfl
  have hD9 := hD.sub (ws' := [(h0, .inr (0, [.int lc, .int ln, .ref a2, .ref a3, .ref a4, .ref a5, .ref a6, .ref a7, .ref a8, .ref a9, .ref a10, .ref a11, .ref a12, .ref a13, .ref a14])), (a11, .inl (cI, 30, .inl g_47))]) [0, 1] (by decide) rfl
  refine W.widen (k := 0) (n := 0) (by decide) (by decide) ?_
  exact W.vret hx hb hr (fun t ht hW => ⟨⟨(), rfl, trivial, g_47, (all5 (P := fun b => g_47 (L * 5 + b) = 1000) (by rw [hp50 _ (by omega), hp43 _ (by omega), hp36 _ (by omega), hp29 _ (by omega)]; exact hp21) (by rw [hp50 _ (by omega), hp43 _ (by omega), hp36 _ (by omega)]; exact hp28) (by rw [hp50 _ (by omega), hp43 _ (by omega)]; exact hp35) (by rw [hp50 _ (by omega)]; exact hp42) (by exact hp49)), (fun k hk => by rw [hp50 k (by omega), hp43 k (by omega), hp36 k (by omega), hp29 k (by omega), hp22 k (by omega)]), by rw [ht]; exact hP9, hD9⟩, hS.F ht⟩) hS.2.2 dX0_leadBurnsOn_80

def wk_k_leadWindsOn : List Cond := .code yX0_leadWindsOn cX0_leadWindsOn 5 none :: ([.fieldLink RX0 54 "FlightDesk$Book" "legCount" "I"] ++ wsX00)
theorem iw_k_leadWindsOn_0 : ∀ w ∈ wsX00, w ∈ wk_k_leadWindsOn := fun _ h => List.mem_cons_of_mem _ (List.mem_append_right _ h)
set_option maxHeartbeats 4000000 in
set_option maxRecDepth 100000 in
theorem k_leadWindsOn (l : Launch) (D : va_G) (cI cB cP : ClassId) (sz : Nat) (h0 : Nat) (ln : Int32) (a2 : Nat) (a3 : Nat) (a4 : Nat) (a5 : Nat) (a6 : Nat) (a7 : Nat) (a8 : Nat) (a9 : Nat) (a10 : Nat) (a11 : Nat) (a12 : Nat) (a13 : Nat) (a14 : Nat) : Met l yX0_leadWindsOn wk_k_leadWindsOn ({ frames := 0, cells := 0, slots := 0, locals := 0 } : Room) (va_Pc [.ref h0] (Pw D cI cB cP sz [(h0, .inr (0, [.int 0, .int ln, .ref a2, .ref a3, .ref a4, .ref a5, .ref a6, .ref a7, .ref a8, .ref a9, .ref a10, .ref a11, .ref a12, .ref a13, .ref a14]))])) (va_Qv (fun (_ : Unit) => True) (fun _ t => va_P D vwCl [(h0, .inr (0, [.int 0, .int ln, .ref a2, .ref a3, .ref a4, .ref a5, .ref a6, .ref a7, .ref a8, .ref a9, .ref a10, .ref a11, .ref a12, .ref a13, .ref a14]))] t.heap ∧ va_D (va_A [(h0, .inr (0, [.int 0, .int ln, .ref a2, .ref a3, .ref a4, .ref a5, .ref a6, .ref a7, .ref a8, .ref a9, .ref a10, .ref a11, .ref a12, .ref a13, .ref a14]))] sz) [(h0, .inr (0, [.int 0, .int ln, .ref a2, .ref a3, .ref a4, .ref a5, .ref a6, .ref a7, .ref a8, .ref a9, .ref a10, .ref a11, .ref a12, .ref a13, .ref a14]))]) (va_A [(h0, .inr (0, [.int 0, .int ln, .ref a2, .ref a3, .ref a4, .ref a5, .ref a6, .ref a7, .ref a8, .ref a9, .ref a10, .ref a11, .ref a12, .ref a13, .ref a14]))] sz)) 0 0 (va_A [(h0, .inr (0, [.int 0, .int ln, .ref a2, .ref a3, .ref a4, .ref a5, .ref a6, .ref a7, .ref a8, .ref a9, .ref a10, .ref a11, .ref a12, .ref a13, .ref a14]))] sz) := by
  refine Met.ofW (cc := cX0_leadWindsOn) (maxL := 5) (ret := none) (by decide) rfl ?_
  intro p e s m args below meth c s₁ B hml hv
  obtain ⟨rfl, hsz, hP, ⟨hK, hN⟩, hD0⟩ := hv
  have hx := B.exec
  have hb := B.bytes
  have hr := B.returns
  have hts := atoms_spec (ws := wk_k_leadWindsOn) B.pre
  have hown : s.vm.findClass RX0 = some m.cls := findClass_of_methodNamed B.named
  have hlocks := B.notSynchronized
  subst hsz
  have hD := hD0.self (sz := s.heap.size)
  generalize hAe : va_A [(h0, .inr (0, [.int 0, .int ln, .ref a2, .ref a3, .ref a4, .ref a5, .ref a6, .ref a7, .ref a8, .ref a9, .ref a10, .ref a11, .ref a12, .ref a13, .ref a14]))] s.heap.size = A at hD ⊢
  have hA : ∀ q : Nat, s.heap.size ≤ q → A q := fun q h => by rw [← hAe]; exact Or.inr h
  have hS : va_S A s.heap s.heap [] := va_S.rf
  have hP : va_P D vwCl [(h0, .inr (0, [.int 0, .int ln, .ref a2, .ref a3, .ref a4, .ref a5, .ref a6, .ref a7, .ref a8, .ref a9, .ref a10, .ref a11, .ref a12, .ref a13, .ref a14]))] s.heap := hP
  have hl := lv_entry ([.ref h0]) (n := 5) (Nat.le_of_ble_eq_true rfl)
  rw [lg_entry_eq]
  generalize (lg_sl ([.ref h0]) ++ List.replicate (5 - (lg_sl ([.ref h0])).length) Slot.unset).toArray = ls at hl ⊢
  have hl : lv_has ls 5 [(0, .ref h0)] := hl
  refine lv_iconst (v := 0) hx hb dX0_leadWindsOn_0 (by decide) ?_
  refine lv_istore_n (lv' := [(1, .int 0), (0, .ref h0)]) hx hb dX0_leadWindsOn_1 rfl hl (by decide) rfl (fun ls hl => ?_)
  refine lv_iload_n hx hb dX0_leadWindsOn_2 rfl (lv_at hl 0 rfl) ?_
  refine lv_iconst (v := 3) hx hb dX0_leadWindsOn_3 (by decide) ?_
  refine lv_icmp_ge (tgt := 75) hx hb dX0_leadWindsOn_4 (by decide) (fun h9 => (by first | exact absurd h9 (by decide) | exact absurd (by decide) h9)) (fun c1 => ?_)
  refine lv_iconst (v := 0) hx hb dX0_leadWindsOn_7 (by decide) ?_
  refine lv_istore_n (lv' := [(2, .int 0), (1, .int 0), (0, .ref h0)]) hx hb dX0_leadWindsOn_8 rfl hl (by decide) rfl (fun ls hl => ?_)
  refine lv_iload_n hx hb dX0_leadWindsOn_9 rfl (lv_at hl 0 rfl) ?_
  refine lv_aload_n hx hb dX0_leadWindsOn_10 rfl (lv_at hl 2 rfl) ?_
  refine va_get (D := D) (ci := 0) (v := .int 0) (C := RX0) (T := TX0) (N := 15) hx hb hts iw_k_leadWindsOn_0 hown hK hP 0 rfl rfl 0 (by decide) (hts (.fieldLink RX0 54 "FlightDesk$Book" "legCount" "I") (by decide +kernel)) (fun _ h9 => h9) rfl dX0_leadWindsOn_11 ?_
  refine lv_icmp_ge (tgt := 69) hx hb dX0_leadWindsOn_14 (by decide) (fun c2 => ?_) (fun h9 => (by first | exact absurd h9 (by decide) | exact absurd (by decide) h9))
  refine lv_iinc (v := 1) (lv' := [(1, .int 1), (2, .int 0), (0, .ref h0)]) hx hb dX0_leadWindsOn_69 hl (k := 1) rfl (by decide) (by decide) rfl (fun ls hl => ?_)
  refine lv_goto (tgt := 2) hx hb dX0_leadWindsOn_72 (by decide) ?_
  refine lv_iload_n hx hb dX0_leadWindsOn_2 rfl (lv_at hl 0 rfl) ?_
  refine lv_iconst (v := 3) hx hb dX0_leadWindsOn_3 (by decide) ?_
  refine lv_icmp_ge (tgt := 75) hx hb dX0_leadWindsOn_4 (by decide) (fun h9 => (by first | exact absurd h9 (by decide) | exact absurd (by decide) h9)) (fun c3 => ?_)
  refine lv_iconst (v := 0) hx hb dX0_leadWindsOn_7 (by decide) ?_
  refine lv_istore_n (lv' := [(2, .int 0), (1, .int 1), (0, .ref h0)]) hx hb dX0_leadWindsOn_8 rfl hl (by decide) rfl (fun ls hl => ?_)
  refine lv_iload_n hx hb dX0_leadWindsOn_9 rfl (lv_at hl 0 rfl) ?_
  refine lv_aload_n hx hb dX0_leadWindsOn_10 rfl (lv_at hl 2 rfl) ?_
  refine va_get (D := D) (ci := 0) (v := .int 0) (C := RX0) (T := TX0) (N := 15) hx hb hts iw_k_leadWindsOn_0 hown hK hP 0 rfl rfl 0 (by decide) (hts (.fieldLink RX0 54 "FlightDesk$Book" "legCount" "I") (by decide +kernel)) (fun _ h9 => h9) rfl dX0_leadWindsOn_11 ?_
  refine lv_icmp_ge (tgt := 69) hx hb dX0_leadWindsOn_14 (by decide) (fun c4 => ?_) (fun h9 => (by first | exact absurd h9 (by decide) | exact absurd (by decide) h9))
  refine lv_iinc (v := 2) (lv' := [(1, .int 2), (2, .int 0), (0, .ref h0)]) hx hb dX0_leadWindsOn_69 hl (k := 1) rfl (by decide) (by decide) rfl (fun ls hl => ?_)
  refine lv_goto (tgt := 2) hx hb dX0_leadWindsOn_72 (by decide) ?_
  refine lv_iload_n hx hb dX0_leadWindsOn_2 rfl (lv_at hl 0 rfl) ?_
  refine lv_iconst (v := 3) hx hb dX0_leadWindsOn_3 (by decide) ?_
  refine lv_icmp_ge (tgt := 75) hx hb dX0_leadWindsOn_4 (by decide) (fun h9 => (by first | exact absurd h9 (by decide) | exact absurd (by decide) h9)) (fun c5 => ?_)
  refine lv_iconst (v := 0) hx hb dX0_leadWindsOn_7 (by decide) ?_
  refine lv_istore_n (lv' := [(2, .int 0), (1, .int 2), (0, .ref h0)]) hx hb dX0_leadWindsOn_8 rfl hl (by decide) rfl (fun ls hl => ?_)
  refine lv_iload_n hx hb dX0_leadWindsOn_9 rfl (lv_at hl 0 rfl) ?_
  refine lv_aload_n hx hb dX0_leadWindsOn_10 rfl (lv_at hl 2 rfl) ?_
  refine va_get (D := D) (ci := 0) (v := .int 0) (C := RX0) (T := TX0) (N := 15) hx hb hts iw_k_leadWindsOn_0 hown hK hP 0 rfl rfl 0 (by decide) (hts (.fieldLink RX0 54 "FlightDesk$Book" "legCount" "I") (by decide +kernel)) (fun _ h9 => h9) rfl dX0_leadWindsOn_11 ?_
  refine lv_icmp_ge (tgt := 69) hx hb dX0_leadWindsOn_14 (by decide) (fun c6 => ?_) (fun h9 => (by first | exact absurd h9 (by decide) | exact absurd (by decide) h9))
  refine lv_iinc (v := 3) (lv' := [(1, .int 3), (2, .int 0), (0, .ref h0)]) hx hb dX0_leadWindsOn_69 hl (k := 1) rfl (by decide) (by decide) rfl (fun ls hl => ?_)
  refine lv_goto (tgt := 2) hx hb dX0_leadWindsOn_72 (by decide) ?_
  refine lv_iload_n hx hb dX0_leadWindsOn_2 rfl (lv_at hl 0 rfl) ?_
  refine lv_iconst (v := 3) hx hb dX0_leadWindsOn_3 (by decide) ?_
  refine lv_icmp_ge (tgt := 75) hx hb dX0_leadWindsOn_4 (by decide) (fun c7 => ?_) (fun h9 => (by first | exact absurd h9 (by decide) | exact absurd (by decide) h9))
  have hP9 := hP.sub (ws' := [(h0, .inr (0, [.int 0, .int ln, .ref a2, .ref a3, .ref a4, .ref a5, .ref a6, .ref a7, .ref a8, .ref a9, .ref a10, .ref a11, .ref a12, .ref a13, .ref a14]))]) [0] rfl
  have hD9 := hD.sub (ws' := [(h0, .inr (0, [.int 0, .int ln, .ref a2, .ref a3, .ref a4, .ref a5, .ref a6, .ref a7, .ref a8, .ref a9, .ref a10, .ref a11, .ref a12, .ref a13, .ref a14]))]) [0] (by decide) rfl
  refine W.widen (k := 0) (n := 0) (by decide) (by decide) ?_
  exact W.vret hx hb hr (fun t ht hW => ⟨⟨(), rfl, trivial, by rw [ht]; exact hP9, hD9⟩, hS.F ht⟩) hS.2.2 dX0_leadWindsOn_75
