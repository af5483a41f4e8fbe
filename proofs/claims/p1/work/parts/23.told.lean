def wk_k_told : List Cond := .code yX7_told cX7_told 5 (some .int) :: ([.methodLink RX7 91 yX7_within, .static yX7_within, .initialized RX7, .code yX7_within cX7_within 2 (some .boolean), .fieldLink RX7 28 "FlightDesk" "book" "LFlightDesk$Book;", .fieldLink RX7 99 "FlightDesk$Book" "speed" "[I", .fieldLink RX7 82 "FlightDesk$Book" "legCount" "I", .fieldLink RX7 110 "FlightDesk$Book" "burn" "[I", .methodLink RX7 113 yX7_burnIndex, .static yX7_burnIndex, .code yX7_burnIndex cX7_burnIndex 2 (some .int), .fieldLink RX7 117 "FlightDesk$Book" "climb" "[I", .fieldLink RX7 120 "FlightDesk$Book" "limit" "[I"] ++ wsX70 ++ wsX00)
theorem iw_k_told_7 : ∀ w ∈ wsX70, w ∈ wk_k_told := fun _ h => List.mem_cons_of_mem _ (List.mem_append_left _ (List.mem_append_right _ h))
theorem iw_k_told_0 : ∀ w ∈ wsX00, w ∈ wk_k_told := fun _ h => List.mem_cons_of_mem _ (List.mem_append_right _ h)
set_option maxRecDepth 20000 in
theorem gw_k_told_0 : GoodIn wk_k_told (wsS RX7 91 yX7_within wk_k_within) := goodIn_sub (by decide +kernel) (by decide +kernel)
set_option maxRecDepth 20000 in
theorem gw_k_told_1 : GoodIn wk_k_told (wsS RX7 113 yX7_burnIndex wk_k_burnIndex) := goodIn_sub (by decide +kernel) (by decide +kernel)
set_option maxHeartbeats 4000000 in
set_option maxRecDepth 100000 in
theorem k_told (l : Launch) (D : va_G) (cI cB cP : ClassId) (sz : Nat) (h0 : Nat) (tp : Nat) (rd : Nat) (bk : Nat) (fl : Nat) (pl : Nat) (a2 : Nat) (a3 : Nat) (a4 : Nat) (a5 : Nat) (a6 : Nat) (a7 : Nat) (a8 : Nat) (a9 : Nat) (a10 : Nat) (a11 : Nat) (a12 : Nat) (a13 : Nat) (a14 : Nat) (f9 : Nat → Int32) (f11 : Nat → Int32) (f12 : Nat → Int32) (f13 : Nat → Int32) (w : Int32) (a : Int32) (b : Int32) (d : Int32) (h9s : ∀ k : Nat, k < 6 → f9 k = 400) (h9b : ∀ k : Nat, k < 30 → f11 k = 1000) (h9c : ∀ k : Nat, k < 6 → f12 k = 0) (h9l : f13 0 = 30000 ∧ f13 1 = 60000 ∧ f13 2 = 60000 ∧ f13 3 = 0) : Met l yX7_told wk_k_told ({ frames := 1, cells := 0, slots := 0, locals := 21 } : Room) (va_Pc [.ref h0, .int w, .int a, .int b, .int d] (Pw D cI cB cP sz [(h0, .inr (7, [.ref tp, .ref rd, .ref bk, .ref fl, .ref pl])), (bk, .inr (0, [.int 0, .int 0, .ref a2, .ref a3, .ref a4, .ref a5, .ref a6, .ref a7, .ref a8, .ref a9, .ref a10, .ref a11, .ref a12, .ref a13, .ref a14])), (a9, .inl (cI, 6, .inl f9)), (a11, .inl (cI, 30, .inl f11)), (a12, .inl (cI, 6, .inl f12)), (a13, .inl (cI, 4, .inl f13))])) (va_Qi (fun (r : Int32) (_ : Unit) => r = s_told w a b) (fun _ _ => True) (va_A [(h0, .inr (7, [.ref tp, .ref rd, .ref bk, .ref fl, .ref pl])), (bk, .inr (0, [.int 0, .int 0, .ref a2, .ref a3, .ref a4, .ref a5, .ref a6, .ref a7, .ref a8, .ref a9, .ref a10, .ref a11, .ref a12, .ref a13, .ref a14])), (a9, .inl (cI, 6, .inl f9)), (a11, .inl (cI, 30, .inl f11)), (a12, .inl (cI, 6, .inl f12)), (a13, .inl (cI, 4, .inl f13))] sz)) 0 0 (va_A [(h0, .inr (7, [.ref tp, .ref rd, .ref bk, .ref fl, .ref pl])), (bk, .inr (0, [.int 0, .int 0, .ref a2, .ref a3, .ref a4, .ref a5, .ref a6, .ref a7, .ref a8, .ref a9, .ref a10, .ref a11, .ref a12, .ref a13, .ref a14])), (a9, .inl (cI, 6, .inl f9)), (a11, .inl (cI, 30, .inl f11)), (a12, .inl (cI, 6, .inl f12)), (a13, .inl (cI, 4, .inl f13))] sz) := by
  refine Met.ofW (cc := cX7_told) (maxL := 5) (ret := (some .int)) (by decide) rfl ?_
  intro p e s m args below meth c s₁ B hml hv
  obtain ⟨rfl, hsz, hP, ⟨hK, hN⟩, hD0⟩ := hv
  have hx := B.exec
  have hb := B.bytes
  have hr := B.returns
  have hts := atoms_spec (ws := wk_k_told) B.pre
  have hown : s.vm.findClass RX7 = some m.cls := findClass_of_methodNamed B.named
  have hlocks := B.notSynchronized
  subst hsz
  have hD := hD0.self (sz := s.heap.size)
  generalize hAe : va_A [(h0, .inr (7, [.ref tp, .ref rd, .ref bk, .ref fl, .ref pl])), (bk, .inr (0, [.int 0, .int 0, .ref a2, .ref a3, .ref a4, .ref a5, .ref a6, .ref a7, .ref a8, .ref a9, .ref a10, .ref a11, .ref a12, .ref a13, .ref a14])), (a9, .inl (cI, 6, .inl f9)), (a11, .inl (cI, 30, .inl f11)), (a12, .inl (cI, 6, .inl f12)), (a13, .inl (cI, 4, .inl f13))] s.heap.size = A at hD ⊢
  have hA : ∀ q : Nat, s.heap.size ≤ q → A q := fun q h => by rw [← hAe]; exact Or.inr h
  have hS : va_S A s.heap s.heap [] := va_S.rf
  have hP : va_P D vwCl [(h0, .inr (7, [.ref tp, .ref rd, .ref bk, .ref fl, .ref pl])), (bk, .inr (0, [.int 0, .int 0, .ref a2, .ref a3, .ref a4, .ref a5, .ref a6, .ref a7, .ref a8, .ref a9, .ref a10, .ref a11, .ref a12, .ref a13, .ref a14])), (a9, .inl (cI, 6, .inl f9)), (a11, .inl (cI, 30, .inl f11)), (a12, .inl (cI, 6, .inl f12)), (a13, .inl (cI, 4, .inl f13))] s.heap := hP
  have hl := lv_entry ([.ref h0, .int w, .int a, .int b, .int d]) (n := 5) (Nat.le_of_ble_eq_true rfl)
  rw [lg_entry_eq]
  generalize (lg_sl ([.ref h0, .int w, .int a, .int b, .int d]) ++ List.replicate (5 - (lg_sl ([.ref h0, .int w, .int a, .int b, .int d])).length) Slot.unset).toArray = ls at hl ⊢
  have hl : lv_has ls 5 [(0, .ref h0), (1, .int w), (2, .int a), (3, .int b), (4, .int d)] := hl
  refine lv_iload_n hx hb dX7_told_0 rfl (lv_at hl 1 rfl) ?_
  rcases sw_8 w with rfl | rfl | rfl | rfl | rfl | rfl | rfl | rfl | h9
  · refine lv_tableIn (off := 47) (tgt := 48) hx hb dX7_told_1 (by decide) (by decide) (by decide) (by decide) ?_
    refine lv_iload_n hx hb dX7_told_48 rfl (lv_at hl 2 rfl) ?_
    refine lv_bipush (v := 6) hx hb dX7_told_49 (by decide) ?_
    have hPc := hP.sub (ws' := []) [] rfl
    have hDc := hD.sub (ws' := []) [] (by decide) rfl
    have hFc := va_free (wc := []) hD hS hA [] rfl
    refine va_calli (va_runS (As := [.int a, .int 6]) (rest := []) ⟨hx, hb, hml, hown, hts⟩ (k_within l D cI cB cP s.heap.size a 6) (cwS 2 hts gw_k_told_0 rfl rfl rfl (by decide +kernel) ⟨Nat.le_of_ble_eq_true rfl, Nat.le_of_ble_eq_true rfl⟩) ⟨ny_blind, ny_pre hPc hK hN hDc⟩ rfl rfl hl.1 rfl (lv_room (Nat.le_of_ble_eq_true rfl)) dX7_told_51 ⟨Nat.le_of_ble_eq_true rfl, Nat.le_of_ble_eq_true rfl⟩) hS (fun q _ h => hFc q h) hFc (fun r1 u t H locs ht hvm hw hB hz1 hk1 hS => ?_)
    obtain ⟨hP, hD⟩ := va_join (wr := [(h0, .inr (7, [.ref tp, .ref rd, .ref bk, .ref fl, .ref pl])), (bk, .inr (0, [.int 0, .int 0, .ref a2, .ref a3, .ref a4, .ref a5, .ref a6, .ref a7, .ref a8, .ref a9, .ref a10, .ref a11, .ref a12, .ref a13, .ref a14])), (a9, .inl (cI, 6, .inl f9)), (a11, .inl (cI, 30, .inl f11)), (a12, .inl (cI, 6, .inl f12)), (a13, .inl (cI, 4, .inl f13))]) (w1 := []) hP hD [] [0, 1, 2, 3, 4, 5] rfl rfl (by decide) (by decide) hk1 hFc ny_P0 ny_D0
    have hP : va_P D vwCl [(h0, .inr (7, [.ref tp, .ref rd, .ref bk, .ref fl, .ref pl])), (bk, .inr (0, [.int 0, .int 0, .ref a2, .ref a3, .ref a4, .ref a5, .ref a6, .ref a7, .ref a8, .ref a9, .ref a10, .ref a11, .ref a12, .ref a13, .ref a14])), (a9, .inl (cI, 6, .inl f9)), (a11, .inl (cI, 30, .inl f11)), (a12, .inl (cI, 6, .inl f12)), (a13, .inl (cI, 4, .inl f13))] H := hP
    have hD : va_D A [(h0, .inr (7, [.ref tp, .ref rd, .ref bk, .ref fl, .ref pl])), (bk, .inr (0, [.int 0, .int 0, .ref a2, .ref a3, .ref a4, .ref a5, .ref a6, .ref a7, .ref a8, .ref a9, .ref a10, .ref a11, .ref a12, .ref a13, .ref a14])), (a9, .inl (cI, 6, .inl f9)), (a11, .inl (cI, 30, .inl f11)), (a12, .inl (cI, 6, .inl f12)), (a13, .inl (cI, 4, .inl f13))] := hD
    rcases hw with ⟨rfl, h2⟩ | ⟨rfl, h2⟩
    · obtain ⟨j3, hj3, rfl⟩ := ny_of (n := 6) h2 (by decide)
      refine lv_if_eq (tgt := 69) hx hb dX7_told_54 (by decide) (fun h9 => (by first | exact absurd h9 (by decide) | exact absurd (by decide) h9)) (fun c4 => ?_)
      refine lv_aload_n hx hb dX7_told_57 rfl (lv_at hl 0 rfl) ?_
      refine va_get (D := D) (ci := 7) (v := .ref bk) (C := RX7) (T := TX7) (N := 5) hx hb hts iw_k_told_7 hown hK hP 0 rfl rfl 2 (by decide) (hts (.fieldLink RX7 28 "FlightDesk" "book" "LFlightDesk$Book;") (by decide +kernel)) (fun _ h9 => h9) rfl dX7_told_58 ?_
      refine va_get (D := D) (ci := 0) (v := .ref a9) (C := RX0) (T := TX0) (N := 15) hx hb hts iw_k_told_0 hown hK hP 1 rfl rfl 9 (by decide) (hts (.fieldLink RX7 99 "FlightDesk$Book" "speed" "[I") (by decide +kernel)) (fun _ h9 => h9) rfl dX7_told_61 ?_
      refine lv_iload_n hx hb dX7_told_64 rfl (lv_at hl 2 rfl) ?_
      refine va_iald hx hb hK hP 2 0 rfl rfl (vp_in_nI (by omega) (by decide)) dX7_told_65 ?_
      refine lv_topi (fun vv ev => ?_)
      obtain rfl : vv = 400 := ev.trans (by rw [nI_clamp (by omega)]; exact h9s _ (by omega))
      refine lv_goto (tgt := 72) hx hb dX7_told_66 (by decide) ?_
      refine W.widen (k := 0) (n := 0) (by decide) (by decide) ?_
      exact W.iret (v := 400) hx hb hr (fun t ht hW => ⟨⟨400, (), rfl, (s_told0.trans (pick_t h2)).symm, trivial⟩, hS.F ht⟩) hS.2.2 dX7_told_72
    · refine lv_if_eq (tgt := 69) hx hb dX7_told_54 (by decide) (fun c5 => ?_) (fun h9 => (by first | exact absurd h9 (by decide) | exact absurd (by decide) h9))
      refine lv_sipush (v := (-1000)) hx hb dX7_told_69 (by decide) ?_
      refine W.widen (k := 0) (n := 0) (by decide) (by decide) ?_
      exact W.iret (v := (-1000)) hx hb hr (fun t ht hW => ⟨⟨(-1000), (), rfl, (s_told0.trans (pick_f h2)).symm, trivial⟩, hS.F ht⟩) hS.2.2 dX7_told_72
  · refine lv_tableIn (off := 72) (tgt := 73) hx hb dX7_told_1 (by decide) (by decide) (by decide) (by decide) ?_
    refine lv_iload_n hx hb dX7_told_73 rfl (lv_at hl 2 rfl) ?_
    refine lv_iconst (v := 3) hx hb dX7_told_74 (by decide) ?_
    have hPc := hP.sub (ws' := []) [] rfl
    have hDc := hD.sub (ws' := []) [] (by decide) rfl
    have hFc := va_free (wc := []) hD hS hA [] rfl
    refine va_calli (va_runS (As := [.int a, .int 3]) (rest := []) ⟨hx, hb, hml, hown, hts⟩ (k_within l D cI cB cP s.heap.size a 3) (cwS 2 hts gw_k_told_0 rfl rfl rfl (by decide +kernel) ⟨Nat.le_of_ble_eq_true rfl, Nat.le_of_ble_eq_true rfl⟩) ⟨ny_blind, ny_pre hPc hK hN hDc⟩ rfl rfl hl.1 rfl (lv_room (Nat.le_of_ble_eq_true rfl)) dX7_told_75 ⟨Nat.le_of_ble_eq_true rfl, Nat.le_of_ble_eq_true rfl⟩) hS (fun q _ h => hFc q h) hFc (fun r6 u t H locs ht hvm hw hB hz1 hk1 hS => ?_)
    obtain ⟨hP, hD⟩ := va_join (wr := [(h0, .inr (7, [.ref tp, .ref rd, .ref bk, .ref fl, .ref pl])), (bk, .inr (0, [.int 0, .int 0, .ref a2, .ref a3, .ref a4, .ref a5, .ref a6, .ref a7, .ref a8, .ref a9, .ref a10, .ref a11, .ref a12, .ref a13, .ref a14])), (a9, .inl (cI, 6, .inl f9)), (a11, .inl (cI, 30, .inl f11)), (a12, .inl (cI, 6, .inl f12)), (a13, .inl (cI, 4, .inl f13))]) (w1 := []) hP hD [] [0, 1, 2, 3, 4, 5] rfl rfl (by decide) (by decide) hk1 hFc ny_P0 ny_D0
    have hP : va_P D vwCl [(h0, .inr (7, [.ref tp, .ref rd, .ref bk, .ref fl, .ref pl])), (bk, .inr (0, [.int 0, .int 0, .ref a2, .ref a3, .ref a4, .ref a5, .ref a6, .ref a7, .ref a8, .ref a9, .ref a10, .ref a11, .ref a12, .ref a13, .ref a14])), (a9, .inl (cI, 6, .inl f9)), (a11, .inl (cI, 30, .inl f11)), (a12, .inl (cI, 6, .inl f12)), (a13, .inl (cI, 4, .inl f13))] H := hP
    have hD : va_D A [(h0, .inr (7, [.ref tp, .ref rd, .ref bk, .ref fl, .ref pl])), (bk, .inr (0, [.int 0, .int 0, .ref a2, .ref a3, .ref a4, .ref a5, .ref a6, .ref a7, .ref a8, .ref a9, .ref a10, .ref a11, .ref a12, .ref a13, .ref a14])), (a9, .inl (cI, 6, .inl f9)), (a11, .inl (cI, 30, .inl f11)), (a12, .inl (cI, 6, .inl f12)), (a13, .inl (cI, 4, .inl f13))] := hD
    rcases hw with ⟨rfl, h7⟩ | ⟨rfl, h7⟩
    · refine lv_if_eq (tgt := 123) hx hb dX7_told_78 (by decide) (fun h9 => (by first | exact absurd h9 (by decide) | exact absurd (by decide) h9)) (fun c8 => ?_)
      refine lv_iload_n hx hb dX7_told_81 rfl (lv_at hl 3 rfl) ?_
      refine lv_bipush (v := 6) hx hb dX7_told_82 (by decide) ?_
      have hPc := hP.sub (ws' := []) [] rfl
      have hDc := hD.sub (ws' := []) [] (by decide) rfl
      have hFc := va_free (wc := []) hD hS hA [] rfl
      refine va_calli (va_runS (As := [.int b, .int 6]) (rest := []) ⟨hx, hb, hml, hown, hts⟩ (k_within l D cI cB cP H.size b 6) (cwS 2 hts gw_k_told_0 rfl rfl rfl (by decide +kernel) ⟨Nat.le_of_ble_eq_true rfl, Nat.le_of_ble_eq_true rfl⟩) ⟨ny_blind, ny_pre hPc hK hN hDc⟩ rfl rfl hl.1 rfl (lv_room (Nat.le_of_ble_eq_true rfl)) dX7_told_84 ⟨Nat.le_of_ble_eq_true rfl, Nat.le_of_ble_eq_true rfl⟩) hS (fun q _ h => hFc q h) hFc (fun r9 u t H locs ht hvm hw hB hz1 hk1 hS => ?_)
      obtain ⟨hP, hD⟩ := va_join (wr := [(h0, .inr (7, [.ref tp, .ref rd, .ref bk, .ref fl, .ref pl])), (bk, .inr (0, [.int 0, .int 0, .ref a2, .ref a3, .ref a4, .ref a5, .ref a6, .ref a7, .ref a8, .ref a9, .ref a10, .ref a11, .ref a12, .ref a13, .ref a14])), (a9, .inl (cI, 6, .inl f9)), (a11, .inl (cI, 30, .inl f11)), (a12, .inl (cI, 6, .inl f12)), (a13, .inl (cI, 4, .inl f13))]) (w1 := []) hP hD [] [0, 1, 2, 3, 4, 5] rfl rfl (by decide) (by decide) hk1 hFc ny_P0 ny_D0
      have hP : va_P D vwCl [(h0, .inr (7, [.ref tp, .ref rd, .ref bk, .ref fl, .ref pl])), (bk, .inr (0, [.int 0, .int 0, .ref a2, .ref a3, .ref a4, .ref a5, .ref a6, .ref a7, .ref a8, .ref a9, .ref a10, .ref a11, .ref a12, .ref a13, .ref a14])), (a9, .inl (cI, 6, .inl f9)), (a11, .inl (cI, 30, .inl f11)), (a12, .inl (cI, 6, .inl f12)), (a13, .inl (cI, 4, .inl f13))] H := hP
      have hD : va_D A [(h0, .inr (7, [.ref tp, .ref rd, .ref bk, .ref fl, .ref pl])), (bk, .inr (0, [.int 0, .int 0, .ref a2, .ref a3, .ref a4, .ref a5, .ref a6, .ref a7, .ref a8, .ref a9, .ref a10, .ref a11, .ref a12, .ref a13, .ref a14])), (a9, .inl (cI, 6, .inl f9)), (a11, .inl (cI, 30, .inl f11)), (a12, .inl (cI, 6, .inl f12)), (a13, .inl (cI, 4, .inl f13))] := hD
      rcases hw with ⟨rfl, h10⟩ | ⟨rfl, h10⟩
      · refine lv_if_eq (tgt := 123) hx hb dX7_told_87 (by decide) (fun h9 => (by first | exact absurd h9 (by decide) | exact absurd (by decide) h9)) (fun c11 => ?_)
        refine lv_iload hx hb dX7_told_90 (lv_at hl 4 rfl) ?_
        refine lv_aload_n hx hb dX7_told_92 rfl (lv_at hl 0 rfl) ?_
        refine va_get (D := D) (ci := 7) (v := .ref bk) (C := RX7) (T := TX7) (N := 5) hx hb hts iw_k_told_7 hown hK hP 0 rfl rfl 2 (by decide) (hts (.fieldLink RX7 28 "FlightDesk" "book" "LFlightDesk$Book;") (by decide +kernel)) (fun _ h9 => h9) rfl dX7_told_93 ?_
        refine va_get (D := D) (ci := 0) (v := .int 0) (C := RX0) (T := TX0) (N := 15) hx hb hts iw_k_told_0 hown hK hP 1 rfl rfl 0 (by decide) (hts (.fieldLink RX7 82 "FlightDesk$Book" "legCount" "I") (by decide +kernel)) (fun _ h9 => h9) rfl dX7_told_96 ?_
        have hPc := hP.sub (ws' := []) [] rfl
        have hDc := hD.sub (ws' := []) [] (by decide) rfl
        have hFc := va_free (wc := []) hD hS hA [] rfl
        refine va_calli (va_runS (As := [.int d, .int 0]) (rest := []) ⟨hx, hb, hml, hown, hts⟩ (k_within l D cI cB cP H.size d 0) (cwS 2 hts gw_k_told_0 rfl rfl rfl (by decide +kernel) ⟨Nat.le_of_ble_eq_true rfl, Nat.le_of_ble_eq_true rfl⟩) ⟨ny_blind, ny_pre hPc hK hN hDc⟩ rfl rfl hl.1 rfl (lv_room (Nat.le_of_ble_eq_true rfl)) dX7_told_99 ⟨Nat.le_of_ble_eq_true rfl, Nat.le_of_ble_eq_true rfl⟩) hS (fun q _ h => hFc q h) hFc (fun r12 u t H locs ht hvm hw hB hz1 hk1 hS => ?_)
        obtain ⟨hP, hD⟩ := va_join (wr := [(h0, .inr (7, [.ref tp, .ref rd, .ref bk, .ref fl, .ref pl])), (bk, .inr (0, [.int 0, .int 0, .ref a2, .ref a3, .ref a4, .ref a5, .ref a6, .ref a7, .ref a8, .ref a9, .ref a10, .ref a11, .ref a12, .ref a13, .ref a14])), (a9, .inl (cI, 6, .inl f9)), (a11, .inl (cI, 30, .inl f11)), (a12, .inl (cI, 6, .inl f12)), (a13, .inl (cI, 4, .inl f13))]) (w1 := []) hP hD [] [0, 1, 2, 3, 4, 5] rfl rfl (by decide) (by decide) hk1 hFc ny_P0 ny_D0
        have hP : va_P D vwCl [(h0, .inr (7, [.ref tp, .ref rd, .ref bk, .ref fl, .ref pl])), (bk, .inr (0, [.int 0, .int 0, .ref a2, .ref a3, .ref a4, .ref a5, .ref a6, .ref a7, .ref a8, .ref a9, .ref a10, .ref a11, .ref a12, .ref a13, .ref a14])), (a9, .inl (cI, 6, .inl f9)), (a11, .inl (cI, 30, .inl f11)), (a12, .inl (cI, 6, .inl f12)), (a13, .inl (cI, 4, .inl f13))] H := hP
        have hD : va_D A [(h0, .inr (7, [.ref tp, .ref rd, .ref bk, .ref fl, .ref pl])), (bk, .inr (0, [.int 0, .int 0, .ref a2, .ref a3, .ref a4, .ref a5, .ref a6, .ref a7, .ref a8, .ref a9, .ref a10, .ref a11, .ref a12, .ref a13, .ref a14])), (a9, .inl (cI, 6, .inl f9)), (a11, .inl (cI, 30, .inl f11)), (a12, .inl (cI, 6, .inl f12)), (a13, .inl (cI, 4, .inl f13))] := hD
        obtain rfl : r12 = 0 := ny_bool0 hw
        refine lv_if_eq (tgt := 123) hx hb dX7_told_102 (by decide) (fun c13 => ?_) (fun h9 => (by first | exact absurd h9 (by decide) | exact absurd (by decide) h9))
        refine lv_sipush (v := (-1000)) hx hb dX7_told_123 (by decide) ?_
        refine W.widen (k := 0) (n := 0) (by decide) (by decide) ?_
        exact W.iret (v := (-1000)) hx hb hr (fun t ht hW => ⟨⟨(-1000), (), rfl, s_told1.symm, trivial⟩, hS.F ht⟩) hS.2.2 dX7_told_126
      · refine lv_if_eq (tgt := 123) hx hb dX7_told_87 (by decide) (fun c14 => ?_) (fun h9 => (by first | exact absurd h9 (by decide) | exact absurd (by decide) h9))
        refine lv_sipush (v := (-1000)) hx hb dX7_told_123 (by decide) ?_
        refine W.widen (k := 0) (n := 0) (by decide) (by decide) ?_
        exact W.iret (v := (-1000)) hx hb hr (fun t ht hW => ⟨⟨(-1000), (), rfl, s_told1.symm, trivial⟩, hS.F ht⟩) hS.2.2 dX7_told_126
    · refine lv_if_eq (tgt := 123) hx hb dX7_told_78 (by decide) (fun c15 => ?_) (fun h9 => (by first | exact absurd h9 (by decide) | exact absurd (by decide) h9))
      refine lv_sipush (v := (-1000)) hx hb dX7_told_123 (by decide) ?_
      refine W.widen (k := 0) (n := 0) (by decide) (by decide) ?_
      exact W.iret (v := (-1000)) hx hb hr (fun t ht hW => ⟨⟨(-1000), (), rfl, s_told1.symm, trivial⟩, hS.F ht⟩) hS.2.2 dX7_told_126
  · refine lv_tableIn (off := 126) (tgt := 127) hx hb dX7_told_1 (by decide) (by decide) (by decide) (by decide) ?_
    refine lv_iload_n hx hb dX7_told_127 rfl (lv_at hl 2 rfl) ?_
    refine lv_bipush (v := 6) hx hb dX7_told_128 (by decide) ?_
    have hPc := hP.sub (ws' := []) [] rfl
    have hDc := hD.sub (ws' := []) [] (by decide) rfl
    have hFc := va_free (wc := []) hD hS hA [] rfl
    refine va_calli (va_runS (As := [.int a, .int 6]) (rest := []) ⟨hx, hb, hml, hown, hts⟩ (k_within l D cI cB cP s.heap.size a 6) (cwS 2 hts gw_k_told_0 rfl rfl rfl (by decide +kernel) ⟨Nat.le_of_ble_eq_true rfl, Nat.le_of_ble_eq_true rfl⟩) ⟨ny_blind, ny_pre hPc hK hN hDc⟩ rfl rfl hl.1 rfl (lv_room (Nat.le_of_ble_eq_true rfl)) dX7_told_130 ⟨Nat.le_of_ble_eq_true rfl, Nat.le_of_ble_eq_true rfl⟩) hS (fun q _ h => hFc q h) hFc (fun r16 u t H locs ht hvm hw hB hz1 hk1 hS => ?_)
    obtain ⟨hP, hD⟩ := va_join (wr := [(h0, .inr (7, [.ref tp, .ref rd, .ref bk, .ref fl, .ref pl])), (bk, .inr (0, [.int 0, .int 0, .ref a2, .ref a3, .ref a4, .ref a5, .ref a6, .ref a7, .ref a8, .ref a9, .ref a10, .ref a11, .ref a12, .ref a13, .ref a14])), (a9, .inl (cI, 6, .inl f9)), (a11, .inl (cI, 30, .inl f11)), (a12, .inl (cI, 6, .inl f12)), (a13, .inl (cI, 4, .inl f13))]) (w1 := []) hP hD [] [0, 1, 2, 3, 4, 5] rfl rfl (by decide) (by decide) hk1 hFc ny_P0 ny_D0
    have hP : va_P D vwCl [(h0, .inr (7, [.ref tp, .ref rd, .ref bk, .ref fl, .ref pl])), (bk, .inr (0, [.int 0, .int 0, .ref a2, .ref a3, .ref a4, .ref a5, .ref a6, .ref a7, .ref a8, .ref a9, .ref a10, .ref a11, .ref a12, .ref a13, .ref a14])), (a9, .inl (cI, 6, .inl f9)), (a11, .inl (cI, 30, .inl f11)), (a12, .inl (cI, 6, .inl f12)), (a13, .inl (cI, 4, .inl f13))] H := hP
    have hD : va_D A [(h0, .inr (7, [.ref tp, .ref rd, .ref bk, .ref fl, .ref pl])), (bk, .inr (0, [.int 0, .int 0, .ref a2, .ref a3, .ref a4, .ref a5, .ref a6, .ref a7, .ref a8, .ref a9, .ref a10, .ref a11, .ref a12, .ref a13, .ref a14])), (a9, .inl (cI, 6, .inl f9)), (a11, .inl (cI, 30, .inl f11)), (a12, .inl (cI, 6, .inl f12)), (a13, .inl (cI, 4, .inl f13))] := hD
    rcases hw with ⟨rfl, h17⟩ | ⟨rfl, h17⟩
    · obtain ⟨j18, hj18, rfl⟩ := ny_of (n := 6) h17 (by decide)
      refine lv_if_eq (tgt := 160) hx hb dX7_told_133 (by decide) (fun h9 => (by first | exact absurd h9 (by decide) | exact absurd (by decide) h9)) (fun c19 => ?_)
      refine lv_iload_n hx hb dX7_told_136 rfl (lv_at hl 3 rfl) ?_
      refine lv_iconst (v := 5) hx hb dX7_told_137 (by decide) ?_
      have hPc := hP.sub (ws' := []) [] rfl
      have hDc := hD.sub (ws' := []) [] (by decide) rfl
      have hFc := va_free (wc := []) hD hS hA [] rfl
      refine va_calli (va_runS (As := [.int b, .int 5]) (rest := []) ⟨hx, hb, hml, hown, hts⟩ (k_within l D cI cB cP H.size b 5) (cwS 2 hts gw_k_told_0 rfl rfl rfl (by decide +kernel) ⟨Nat.le_of_ble_eq_true rfl, Nat.le_of_ble_eq_true rfl⟩) ⟨ny_blind, ny_pre hPc hK hN hDc⟩ rfl rfl hl.1 rfl (lv_room (Nat.le_of_ble_eq_true rfl)) dX7_told_138 ⟨Nat.le_of_ble_eq_true rfl, Nat.le_of_ble_eq_true rfl⟩) hS (fun q _ h => hFc q h) hFc (fun r20 u t H locs ht hvm hw hB hz1 hk1 hS => ?_)
      obtain ⟨hP, hD⟩ := va_join (wr := [(h0, .inr (7, [.ref tp, .ref rd, .ref bk, .ref fl, .ref pl])), (bk, .inr (0, [.int 0, .int 0, .ref a2, .ref a3, .ref a4, .ref a5, .ref a6, .ref a7, .ref a8, .ref a9, .ref a10, .ref a11, .ref a12, .ref a13, .ref a14])), (a9, .inl (cI, 6, .inl f9)), (a11, .inl (cI, 30, .inl f11)), (a12, .inl (cI, 6, .inl f12)), (a13, .inl (cI, 4, .inl f13))]) (w1 := []) hP hD [] [0, 1, 2, 3, 4, 5] rfl rfl (by decide) (by decide) hk1 hFc ny_P0 ny_D0
      have hP : va_P D vwCl [(h0, .inr (7, [.ref tp, .ref rd, .ref bk, .ref fl, .ref pl])), (bk, .inr (0, [.int 0, .int 0, .ref a2, .ref a3, .ref a4, .ref a5, .ref a6, .ref a7, .ref a8, .ref a9, .ref a10, .ref a11, .ref a12, .ref a13, .ref a14])), (a9, .inl (cI, 6, .inl f9)), (a11, .inl (cI, 30, .inl f11)), (a12, .inl (cI, 6, .inl f12)), (a13, .inl (cI, 4, .inl f13))] H := hP
      have hD : va_D A [(h0, .inr (7, [.ref tp, .ref rd, .ref bk, .ref fl, .ref pl])), (bk, .inr (0, [.int 0, .int 0, .ref a2, .ref a3, .ref a4, .ref a5, .ref a6, .ref a7, .ref a8, .ref a9, .ref a10, .ref a11, .ref a12, .ref a13, .ref a14])), (a9, .inl (cI, 6, .inl f9)), (a11, .inl (cI, 30, .inl f11)), (a12, .inl (cI, 6, .inl f12)), (a13, .inl (cI, 4, .inl f13))] := hD
      rcases hw with ⟨rfl, h21⟩ | ⟨rfl, h21⟩
      · obtain ⟨j22, hj22, rfl⟩ := ny_of (n := 5) h21 (by decide)
        refine lv_if_eq (tgt := 160) hx hb dX7_told_141 (by decide) (fun h9 => (by first | exact absurd h9 (by decide) | exact absurd (by decide) h9)) (fun c23 => ?_)
        refine lv_aload_n hx hb dX7_told_144 rfl (lv_at hl 0 rfl) ?_
        refine va_get (D := D) (ci := 7) (v := .ref bk) (C := RX7) (T := TX7) (N := 5) hx hb hts iw_k_told_7 hown hK hP 0 rfl rfl 2 (by decide) (hts (.fieldLink RX7 28 "FlightDesk" "book" "LFlightDesk$Book;") (by decide +kernel)) (fun _ h9 => h9) rfl dX7_told_145 ?_
        refine va_get (D := D) (ci := 0) (v := .ref a11) (C := RX0) (T := TX0) (N := 15) hx hb hts iw_k_told_0 hown hK hP 1 rfl rfl 11 (by decide) (hts (.fieldLink RX7 110 "FlightDesk$Book" "burn" "[I") (by decide +kernel)) (fun _ h9 => h9) rfl dX7_told_148 ?_
        refine lv_iload_n hx hb dX7_told_151 rfl (lv_at hl 2 rfl) ?_
        refine lv_iload_n hx hb dX7_told_152 rfl (lv_at hl 3 rfl) ?_
        have hPc := hP.sub (ws' := []) [] rfl
        have hDc := hD.sub (ws' := []) [] (by decide) rfl
        have hFc := va_free (wc := []) hD hS hA [] rfl
        refine va_calli (va_runS (As := [.int (nI j18), .int (nI j22)]) (rest := [.ref a11]) ⟨hx, hb, hml, hown, hts⟩ (k_burnIndex l D cI cB cP H.size j18 j22) (cwS 2 hts gw_k_told_1 rfl rfl rfl (by decide +kernel) ⟨Nat.le_of_ble_eq_true rfl, Nat.le_of_ble_eq_true rfl⟩) ⟨ny_blind, ny_pre hPc hK hN hDc⟩ rfl rfl hl.1 rfl (lv_room (Nat.le_of_ble_eq_true rfl)) dX7_told_153 ⟨Nat.le_of_ble_eq_true rfl, Nat.le_of_ble_eq_true rfl⟩) hS (fun q _ h => hFc q h) hFc (fun r24 u t H locs ht hvm hw hB hz1 hk1 hS => ?_)
        obtain ⟨hP, hD⟩ := va_join (wr := [(h0, .inr (7, [.ref tp, .ref rd, .ref bk, .ref fl, .ref pl])), (bk, .inr (0, [.int 0, .int 0, .ref a2, .ref a3, .ref a4, .ref a5, .ref a6, .ref a7, .ref a8, .ref a9, .ref a10, .ref a11, .ref a12, .ref a13, .ref a14])), (a9, .inl (cI, 6, .inl f9)), (a11, .inl (cI, 30, .inl f11)), (a12, .inl (cI, 6, .inl f12)), (a13, .inl (cI, 4, .inl f13))]) (w1 := []) hP hD [] [0, 1, 2, 3, 4, 5] rfl rfl (by decide) (by decide) hk1 hFc ny_P0 ny_D0
        have hP : va_P D vwCl [(h0, .inr (7, [.ref tp, .ref rd, .ref bk, .ref fl, .ref pl])), (bk, .inr (0, [.int 0, .int 0, .ref a2, .ref a3, .ref a4, .ref a5, .ref a6, .ref a7, .ref a8, .ref a9, .ref a10, .ref a11, .ref a12, .ref a13, .ref a14])), (a9, .inl (cI, 6, .inl f9)), (a11, .inl (cI, 30, .inl f11)), (a12, .inl (cI, 6, .inl f12)), (a13, .inl (cI, 4, .inl f13))] H := hP
        have hD : va_D A [(h0, .inr (7, [.ref tp, .ref rd, .ref bk, .ref fl, .ref pl])), (bk, .inr (0, [.int 0, .int 0, .ref a2, .ref a3, .ref a4, .ref a5, .ref a6, .ref a7, .ref a8, .ref a9, .ref a10, .ref a11, .ref a12, .ref a13, .ref a14])), (a9, .inl (cI, 6, .inl f9)), (a11, .inl (cI, 30, .inl f11)), (a12, .inl (cI, 6, .inl f12)), (a13, .inl (cI, 4, .inl f13))] := hD
        subst hw
        refine va_iald hx hb hK hP 3 0 rfl rfl (vp_in_nI (by omega) (by decide)) dX7_told_156 ?_
        refine lv_topi (fun vv ev => ?_)
        obtain rfl : vv = 1000 := ev.trans (by rw [nI_clamp (by omega)]; exact h9b _ (by omega))
        refine lv_goto (tgt := 163) hx hb dX7_told_157 (by decide) ?_
        refine W.widen (k := 0) (n := 0) (by decide) (by decide) ?_
        exact W.iret (v := 1000) hx hb hr (fun t ht hW => ⟨⟨1000, (), rfl, (s_told2.trans (pick_t ⟨h17, h21⟩)).symm, trivial⟩, hS.F ht⟩) hS.2.2 dX7_told_163
      · refine lv_if_eq (tgt := 160) hx hb dX7_told_141 (by decide) (fun c25 => ?_) (fun h9 => (by first | exact absurd h9 (by decide) | exact absurd (by decide) h9))
        refine lv_sipush (v := (-1000)) hx hb dX7_told_160 (by decide) ?_
        refine W.widen (k := 0) (n := 0) (by decide) (by decide) ?_
        exact W.iret (v := (-1000)) hx hb hr (fun t ht hW => ⟨⟨(-1000), (), rfl, (s_told2.trans (pick_f (fun q => h21 q.2))).symm, trivial⟩, hS.F ht⟩) hS.2.2 dX7_told_163
    · refine lv_if_eq (tgt := 160) hx hb dX7_told_133 (by decide) (fun c26 => ?_) (fun h9 => (by first | exact absurd h9 (by decide) | exact absurd (by decide) h9))
      refine lv_sipush (v := (-1000)) hx hb dX7_told_160 (by decide) ?_
      refine W.widen (k := 0) (n := 0) (by decide) (by decide) ?_
      exact W.iret (v := (-1000)) hx hb hr (fun t ht hW => ⟨⟨(-1000), (), rfl, (s_told2.trans (pick_f (fun q => h17 q.1))).symm, trivial⟩, hS.F ht⟩) hS.2.2 dX7_told_163
  · refine lv_tableIn (off := 163) (tgt := 164) hx hb dX7_told_1 (by decide) (by decide) (by decide) (by decide) ?_
    refine lv_iload_n hx hb dX7_told_164 rfl (lv_at hl 2 rfl) ?_
    refine lv_bipush (v := 6) hx hb dX7_told_165 (by decide) ?_
    have hPc := hP.sub (ws' := []) [] rfl
    have hDc := hD.sub (ws' := []) [] (by decide) rfl
    have hFc := va_free (wc := []) hD hS hA [] rfl
    refine va_calli (va_runS (As := [.int a, .int 6]) (rest := []) ⟨hx, hb, hml, hown, hts⟩ (k_within l D cI cB cP s.heap.size a 6) (cwS 2 hts gw_k_told_0 rfl rfl rfl (by decide +kernel) ⟨Nat.le_of_ble_eq_true rfl, Nat.le_of_ble_eq_true rfl⟩) ⟨ny_blind, ny_pre hPc hK hN hDc⟩ rfl rfl hl.1 rfl (lv_room (Nat.le_of_ble_eq_true rfl)) dX7_told_167 ⟨Nat.le_of_ble_eq_true rfl, Nat.le_of_ble_eq_true rfl⟩) hS (fun q _ h => hFc q h) hFc (fun r27 u t H locs ht hvm hw hB hz1 hk1 hS => ?_)
    obtain ⟨hP, hD⟩ := va_join (wr := [(h0, .inr (7, [.ref tp, .ref rd, .ref bk, .ref fl, .ref pl])), (bk, .inr (0, [.int 0, .int 0, .ref a2, .ref a3, .ref a4, .ref a5, .ref a6, .ref a7, .ref a8, .ref a9, .ref a10, .ref a11, .ref a12, .ref a13, .ref a14])), (a9, .inl (cI, 6, .inl f9)), (a11, .inl (cI, 30, .inl f11)), (a12, .inl (cI, 6, .inl f12)), (a13, .inl (cI, 4, .inl f13))]) (w1 := []) hP hD [] [0, 1, 2, 3, 4, 5] rfl rfl (by decide) (by decide) hk1 hFc ny_P0 ny_D0
    have hP : va_P D vwCl [(h0, .inr (7, [.ref tp, .ref rd, .ref bk, .ref fl, .ref pl])), (bk, .inr (0, [.int 0, .int 0, .ref a2, .ref a3, .ref a4, .ref a5, .ref a6, .ref a7, .ref a8, .ref a9, .ref a10, .ref a11, .ref a12, .ref a13, .ref a14])), (a9, .inl (cI, 6, .inl f9)), (a11, .inl (cI, 30, .inl f11)), (a12, .inl (cI, 6, .inl f12)), (a13, .inl (cI, 4, .inl f13))] H := hP
    have hD : va_D A [(h0, .inr (7, [.ref tp, .ref rd, .ref bk, .ref fl, .ref pl])), (bk, .inr (0, [.int 0, .int 0, .ref a2, .ref a3, .ref a4, .ref a5, .ref a6, .ref a7, .ref a8, .ref a9, .ref a10, .ref a11, .ref a12, .ref a13, .ref a14])), (a9, .inl (cI, 6, .inl f9)), (a11, .inl (cI, 30, .inl f11)), (a12, .inl (cI, 6, .inl f12)), (a13, .inl (cI, 4, .inl f13))] := hD
    rcases hw with ⟨rfl, h28⟩ | ⟨rfl, h28⟩
    · obtain ⟨j29, hj29, rfl⟩ := ny_of (n := 6) h28 (by decide)
      refine lv_if_eq (tgt := 185) hx hb dX7_told_170 (by decide) (fun h9 => (by first | exact absurd h9 (by decide) | exact absurd (by decide) h9)) (fun c30 => ?_)
      refine lv_aload_n hx hb dX7_told_173 rfl (lv_at hl 0 rfl) ?_
      refine va_get (D := D) (ci := 7) (v := .ref bk) (C := RX7) (T := TX7) (N := 5) hx hb hts iw_k_told_7 hown hK hP 0 rfl rfl 2 (by decide) (hts (.fieldLink RX7 28 "FlightDesk" "book" "LFlightDesk$Book;") (by decide +kernel)) (fun _ h9 => h9) rfl dX7_told_174 ?_
      refine va_get (D := D) (ci := 0) (v := .ref a12) (C := RX0) (T := TX0) (N := 15) hx hb hts iw_k_told_0 hown hK hP 1 rfl rfl 12 (by decide) (hts (.fieldLink RX7 117 "FlightDesk$Book" "climb" "[I") (by decide +kernel)) (fun _ h9 => h9) rfl dX7_told_177 ?_
      refine lv_iload_n hx hb dX7_told_180 rfl (lv_at hl 2 rfl) ?_
      refine va_iald hx hb hK hP 4 0 rfl rfl (vp_in_nI (by omega) (by decide)) dX7_told_181 ?_
      refine lv_topi (fun vv ev => ?_)
      obtain rfl : vv = 0 := ev.trans (by rw [nI_clamp (by omega)]; exact h9c _ (by omega))
      refine lv_goto (tgt := 188) hx hb dX7_told_182 (by decide) ?_
      refine W.widen (k := 0) (n := 0) (by decide) (by decide) ?_
      exact W.iret (v := 0) hx hb hr (fun t ht hW => ⟨⟨0, (), rfl, (s_told3.trans (pick_t h28)).symm, trivial⟩, hS.F ht⟩) hS.2.2 dX7_told_188
    · refine lv_if_eq (tgt := 185) hx hb dX7_told_170 (by decide) (fun c31 => ?_) (fun h9 => (by first | exact absurd h9 (by decide) | exact absurd (by decide) h9))
      refine lv_sipush (v := (-1000)) hx hb dX7_told_185 (by decide) ?_
      refine W.widen (k := 0) (n := 0) (by decide) (by decide) ?_
      exact W.iret (v := (-1000)) hx hb hr (fun t ht hW => ⟨⟨(-1000), (), rfl, (s_told3.trans (pick_f h28)).symm, trivial⟩, hS.F ht⟩) hS.2.2 dX7_told_188
  · refine lv_tableIn (off := 188) (tgt := 189) hx hb dX7_told_1 (by decide) (by decide) (by decide) (by decide) ?_
    refine lv_aload_n hx hb dX7_told_189 rfl (lv_at hl 0 rfl) ?_
    refine va_get (D := D) (ci := 7) (v := .ref bk) (C := RX7) (T := TX7) (N := 5) hx hb hts iw_k_told_7 hown hK hP 0 rfl rfl 2 (by decide) (hts (.fieldLink RX7 28 "FlightDesk" "book" "LFlightDesk$Book;") (by decide +kernel)) (fun _ h9 => h9) rfl dX7_told_190 ?_
    refine va_get (D := D) (ci := 0) (v := .ref a13) (C := RX0) (T := TX0) (N := 15) hx hb hts iw_k_told_0 hown hK hP 1 rfl rfl 13 (by decide) (hts (.fieldLink RX7 120 "FlightDesk$Book" "limit" "[I") (by decide +kernel)) (fun _ h9 => h9) rfl dX7_told_193 ?_
    refine lv_iconst (v := 0) hx hb dX7_told_196 (by decide) ?_
    refine va_iald hx hb hK hP 5 0 rfl rfl (show ¬ (_ ∨ _) by decide) dX7_told_197 ?_
    refine lv_topi (fun vv ev => ?_)
    obtain rfl : vv = 30000 := ev.trans (h9l.1)
    refine W.widen (k := 0) (n := 0) (by decide) (by decide) ?_
    exact W.iret (v := 30000) hx hb hr (fun t ht hW => ⟨⟨30000, (), rfl, rfl, trivial⟩, hS.F ht⟩) hS.2.2 dX7_told_198
  · refine lv_tableIn (off := 198) (tgt := 199) hx hb dX7_told_1 (by decide) (by decide) (by decide) (by decide) ?_
    refine lv_aload_n hx hb dX7_told_199 rfl (lv_at hl 0 rfl) ?_
    refine va_get (D := D) (ci := 7) (v := .ref bk) (C := RX7) (T := TX7) (N := 5) hx hb hts iw_k_told_7 hown hK hP 0 rfl rfl 2 (by decide) (hts (.fieldLink RX7 28 "FlightDesk" "book" "LFlightDesk$Book;") (by decide +kernel)) (fun _ h9 => h9) rfl dX7_told_200 ?_
    refine va_get (D := D) (ci := 0) (v := .ref a13) (C := RX0) (T := TX0) (N := 15) hx hb hts iw_k_told_0 hown hK hP 1 rfl rfl 13 (by decide) (hts (.fieldLink RX7 120 "FlightDesk$Book" "limit" "[I") (by decide +kernel)) (fun _ h9 => h9) rfl dX7_told_203 ?_
    refine lv_iconst (v := 1) hx hb dX7_told_206 (by decide) ?_
    refine va_iald hx hb hK hP 5 0 rfl rfl (show ¬ (_ ∨ _) by decide) dX7_told_207 ?_
    refine lv_topi (fun vv ev => ?_)
    obtain rfl : vv = 60000 := ev.trans (h9l.2.1)
    refine W.widen (k := 0) (n := 0) (by decide) (by decide) ?_
    exact W.iret (v := 60000) hx hb hr (fun t ht hW => ⟨⟨60000, (), rfl, rfl, trivial⟩, hS.F ht⟩) hS.2.2 dX7_told_208
  · refine lv_tableIn (off := 208) (tgt := 209) hx hb dX7_told_1 (by decide) (by decide) (by decide) (by decide) ?_
    refine lv_aload_n hx hb dX7_told_209 rfl (lv_at hl 0 rfl) ?_
    refine va_get (D := D) (ci := 7) (v := .ref bk) (C := RX7) (T := TX7) (N := 5) hx hb hts iw_k_told_7 hown hK hP 0 rfl rfl 2 (by decide) (hts (.fieldLink RX7 28 "FlightDesk" "book" "LFlightDesk$Book;") (by decide +kernel)) (fun _ h9 => h9) rfl dX7_told_210 ?_
    refine va_get (D := D) (ci := 0) (v := .ref a13) (C := RX0) (T := TX0) (N := 15) hx hb hts iw_k_told_0 hown hK hP 1 rfl rfl 13 (by decide) (hts (.fieldLink RX7 120 "FlightDesk$Book" "limit" "[I") (by decide +kernel)) (fun _ h9 => h9) rfl dX7_told_213 ?_
    refine lv_iconst (v := 2) hx hb dX7_told_216 (by decide) ?_
    refine va_iald hx hb hK hP 5 0 rfl rfl (show ¬ (_ ∨ _) by decide) dX7_told_217 ?_
    refine lv_topi (fun vv ev => ?_)
    obtain rfl : vv = 60000 := ev.trans (h9l.2.2.1)
    refine W.widen (k := 0) (n := 0) (by decide) (by decide) ?_
    exact W.iret (v := 60000) hx hb hr (fun t ht hW => ⟨⟨60000, (), rfl, rfl, trivial⟩, hS.F ht⟩) hS.2.2 dX7_told_218
  · refine lv_tableIn (off := 218) (tgt := 219) hx hb dX7_told_1 (by decide) (by decide) (by decide) (by decide) ?_
    refine lv_aload_n hx hb dX7_told_219 rfl (lv_at hl 0 rfl) ?_
    refine va_get (D := D) (ci := 7) (v := .ref bk) (C := RX7) (T := TX7) (N := 5) hx hb hts iw_k_told_7 hown hK hP 0 rfl rfl 2 (by decide) (hts (.fieldLink RX7 28 "FlightDesk" "book" "LFlightDesk$Book;") (by decide +kernel)) (fun _ h9 => h9) rfl dX7_told_220 ?_
    refine va_get (D := D) (ci := 0) (v := .ref a13) (C := RX0) (T := TX0) (N := 15) hx hb hts iw_k_told_0 hown hK hP 1 rfl rfl 13 (by decide) (hts (.fieldLink RX7 120 "FlightDesk$Book" "limit" "[I") (by decide +kernel)) (fun _ h9 => h9) rfl dX7_told_223 ?_
    refine lv_iconst (v := 3) hx hb dX7_told_226 (by decide) ?_
    refine va_iald hx hb hK hP 5 0 rfl rfl (show ¬ (_ ∨ _) by decide) dX7_told_227 ?_
    refine lv_topi (fun vv ev => ?_)
    obtain rfl : vv = 0 := ev.trans (h9l.2.2.2)
    refine W.widen (k := 0) (n := 0) (by decide) (by decide) ?_
    exact W.iret (v := 0) hx hb hr (fun t ht hW => ⟨⟨0, (), rfl, rfl, trivial⟩, hS.F ht⟩) hS.2.2 dX7_told_228
  · refine lv_tableOut (tgt := 229) hx hb dX7_told_1 h9 (by decide) ?_
    refine lv_sipush (v := (-1000)) hx hb dX7_told_229 (by decide) ?_
    refine W.widen (k := 0) (n := 0) (by decide) (by decide) ?_
    exact W.iret (v := (-1000)) hx hb hr (fun t ht hW => ⟨⟨(-1000), (), rfl, (s_told9 h9).symm, trivial⟩, hS.F ht⟩) hS.2.2 dX7_told_232
