def wk_k_feed : List Cond := .code yX7_feed cX7_feed 6 (some .int) :: ([.fieldLink RX7 12 "FlightDesk" "tape" "LFlightDesk$Tape;", .methodLink RX7 53 yX5_hasRoomFor, .instanceMethod yX5_hasRoomFor, .selects RX5 yX5_hasRoomFor yX5_hasRoomFor, .initialized RX5, .code yX5_hasRoomFor cX5_hasRoomFor 2 (some .boolean), .fieldLink RX5 15 "FlightDesk$Tape" "length" "I", .methodLink RX7 57 yX5_put, .instanceMethod yX5_put, .selects RX5 yX5_put yX5_put, .code yX5_put cX5_put 3 none, .methodLink RX5 19 yX5_hasRoomFor, .fieldLink RX5 9 "FlightDesk$Tape" "bytes" "[I", .fieldLink RX7 61 "FlightDesk$Tape" "length" "I"] ++ wsX70 ++ wsX50)
theorem iw_k_feed_7 : ∀ w ∈ wsX70, w ∈ wk_k_feed := fun _ h => List.mem_cons_of_mem _ (List.mem_append_left _ (List.mem_append_right _ h))
theorem iw_k_feed_5 : ∀ w ∈ wsX50, w ∈ wk_k_feed := fun _ h => List.mem_cons_of_mem _ (List.mem_append_right _ h)
set_option maxRecDepth 20000 in
theorem gw_k_feed_0 : GoodIn wk_k_feed (wsV RX7 53 RX5 yX5_hasRoomFor wk_k_hasRoomFor) := goodIn_sub (by decide +kernel) (by decide +kernel)
set_option maxRecDepth 20000 in
theorem gw_k_feed_1 : GoodIn wk_k_feed (wsV RX7 57 RX5 yX5_put wk_k_put) := goodIn_sub (by decide +kernel) (by decide +kernel)
set_option maxHeartbeats 4000000 in
set_option maxRecDepth 100000 in
theorem k_feed (l : Launch) (D : va_G) (cI cB cP : ClassId) (sz : Nat) (x0 : Nat) (tp : Nat) (rd : Nat) (bk : Nat) (fl : Nat) (pl : Nat) (yb : Nat) (n : Int32) (y1 : Int32) (y2 : Int32) (y3 : Int32) (y4 : Int32) (y5 : Int32) (fy : Nat → Int32) (hn9 : 0 ≤ n.toInt ∧ n.toInt ≤ 1000) : Met l yX7_feed wk_k_feed ({ frames := 2, cells := 0, slots := 0, locals := 43 } : Room) (va_Pc [.ref x0, .int y1, .int y2, .int y3, .int y4, .int y5] (Pw D cI cB cP sz [(x0, .inr (7, [.ref tp, .ref rd, .ref bk, .ref fl, .ref pl])), (tp, .inr (5, [.ref yb, .int n])), (yb, .inl (cI, 1000, .inl fy))])) (va_Qi (fun (r : Int32) (_ : Unit) => True) (fun _ t => ∃ n9 : Int32, ∃ gy : Nat → Int32, (0 ≤ n9.toInt ∧ n9.toInt ≤ 1000) ∧ va_P D vwCl [(x0, .inr (7, [.ref tp, .ref rd, .ref bk, .ref fl, .ref pl])), (tp, .inr (5, [.ref yb, .int n9])), (yb, .inl (cI, 1000, .inl gy))] t.heap ∧ va_D (va_A [(x0, .inr (7, [.ref tp, .ref rd, .ref bk, .ref fl, .ref pl])), (tp, .inr (5, [.ref yb, .int n])), (yb, .inl (cI, 1000, .inl fy))] sz) [(x0, .inr (7, [.ref tp, .ref rd, .ref bk, .ref fl, .ref pl])), (tp, .inr (5, [.ref yb, .int n9])), (yb, .inl (cI, 1000, .inl gy))]) (va_A [(x0, .inr (7, [.ref tp, .ref rd, .ref bk, .ref fl, .ref pl])), (tp, .inr (5, [.ref yb, .int n])), (yb, .inl (cI, 1000, .inl fy))] sz)) 0 0 (va_A [(x0, .inr (7, [.ref tp, .ref rd, .ref bk, .ref fl, .ref pl])), (tp, .inr (5, [.ref yb, .int n])), (yb, .inl (cI, 1000, .inl fy))] sz) := by
  refine Met.ofW (cc := cX7_feed) (maxL := 6) (ret := (some .int)) (by decide) rfl ?_
  intro p e s m args below meth c s₁ B hml hv
  obtain ⟨rfl, hsz, hP, ⟨hK, hN⟩, hD0⟩ := hv
  have hx := B.exec
  have hb := B.bytes
  have hr := B.returns
  have hts := atoms_spec (ws := wk_k_feed) B.pre
  have hown : s.vm.findClass RX7 = some m.cls := findClass_of_methodNamed B.named
  have hlocks := B.notSynchronized
  subst hsz
  have hD := hD0.self (sz := s.heap.size)
  generalize hAe : va_A [(x0, .inr (7, [.ref tp, .ref rd, .ref bk, .ref fl, .ref pl])), (tp, .inr (5, [.ref yb, .int n])), (yb, .inl (cI, 1000, .inl fy))] s.heap.size = A at hD ⊢
  have hA : ∀ q : Nat, s.heap.size ≤ q → A q := fun q h => by rw [← hAe]; exact Or.inr h
  have hS : va_S A s.heap s.heap [] := va_S.rf
  have hP : va_P D vwCl [(x0, .inr (7, [.ref tp, .ref rd, .ref bk, .ref fl, .ref pl])), (tp, .inr (5, [.ref yb, .int n])), (yb, .inl (cI, 1000, .inl fy))] s.heap := hP
  have hl := lv_entry ([.ref x0, .int y1, .int y2, .int y3, .int y4, .int y5]) (n := 6) (Nat.le_of_ble_eq_true rfl)
  rw [lg_entry_eq]
  generalize (lg_sl ([.ref x0, .int y1, .int y2, .int y3, .int y4, .int y5]) ++ List.replicate (6 - (lg_sl ([.ref x0, .int y1, .int y2, .int y3, .int y4, .int y5])).length) Slot.unset).toArray = ls at hl ⊢
  have hl : lv_has ls 6 [(0, .ref x0), (1, .int y1), (2, .int y2), (3, .int y3), (4, .int y4), (5, .int y5)] := hl
  refine lv_aload_n hx hb dX7_feed_0 rfl (lv_at hl 0 rfl) ?_
  refine va_get (D := D) (ci := 7) (v := .ref tp) (C := RX7) (T := TX7) (N := 5) hx hb hts iw_k_feed_7 hown hK hP 0 rfl rfl 0 (by decide) (hts (.fieldLink RX7 12 "FlightDesk" "tape" "LFlightDesk$Tape;") (by decide +kernel)) (fun _ h9 => h9) rfl dX7_feed_1 ?_
  refine lv_bipush (v := 20) hx hb dX7_feed_4 (by decide) ?_
  have hPc := hP.sub (ws' := [(tp, .inr (5, [.ref yb, .int n]))]) [1] rfl
  have hDc := hD.sub (ws' := [(tp, .inr (5, [.ref yb, .int n]))]) [1] (by decide) rfl
  have hFc := va_free (wc := [(tp, .inr (5, [.ref yb, .int n]))]) hD hS hA [1] rfl
  refine va_calli (va_runV (As := [.int 20]) (rest := []) ⟨hx, hb, hml, hown, hts⟩ (k_hasRoomFor l D cI cB cP s.heap.size tp yb n 20 (show 0 ≤ n.toInt ∧ n.toInt ≤ 1000 by first | assumption | omega | decide) (show 0 ≤ 20 ∧ 20 ≤ 1000 by first | assumption | omega | decide)) (cwV 1 hts gw_k_feed_0 rfl rfl rfl (by decide +kernel) ⟨Nat.le_of_ble_eq_true rfl, Nat.le_of_ble_eq_true rfl⟩) ⟨ny_blind, va_recv hK hPc (ci := 5) (q0 := 0) rfl rfl, ny_pre hPc hK hN hDc⟩ rfl rfl hl.1 rfl (lv_room (Nat.le_of_ble_eq_true rfl)) dX7_feed_6 ⟨Nat.le_of_ble_eq_true rfl, Nat.le_of_ble_eq_true rfl⟩) hS (fun q _ h => hFc q h) hFc (fun r1 u t H locs ht hvm hw hB hz1 hk1 hS => ?_)
  obtain ⟨hP1, hD1⟩ := hB
  rw [ht] at hP1
  obtain ⟨hP, hD⟩ := va_join (wr := [(x0, .inr (7, [.ref tp, .ref rd, .ref bk, .ref fl, .ref pl])), (yb, .inl (cI, 1000, .inl fy))]) (w1 := [(tp, .inr (5, [.ref yb, .int n]))]) hP hD [1] [0, 2] rfl rfl (by decide) (by decide) hk1 hFc hP1 hD1
  have hP : va_P D vwCl [(x0, .inr (7, [.ref tp, .ref rd, .ref bk, .ref fl, .ref pl])), (yb, .inl (cI, 1000, .inl fy)), (tp, .inr (5, [.ref yb, .int n]))] H := hP
  have hD : va_D A [(x0, .inr (7, [.ref tp, .ref rd, .ref bk, .ref fl, .ref pl])), (yb, .inl (cI, 1000, .inl fy)), (tp, .inr (5, [.ref yb, .int n]))] := hD
  rcases hw with ⟨rfl, h2⟩ | ⟨rfl, h2⟩
  · have h2 : (n.toInt + 20 ≤ 1000) := h2
    refine lv_if_ne (tgt := 14) hx hb dX7_feed_9 (by decide) (fun c3 => ?_) (fun h9 => (by first | exact absurd h9 (by decide) | exact absurd (by decide) h9))
    refine lv_aload_n hx hb dX7_feed_14 rfl (lv_at hl 0 rfl) ?_
    refine va_get (D := D) (ci := 7) (v := .ref tp) (C := RX7) (T := TX7) (N := 5) hx hb hts iw_k_feed_7 hown hK hP 0 rfl rfl 0 (by decide) (hts (.fieldLink RX7 12 "FlightDesk" "tape" "LFlightDesk$Tape;") (by decide +kernel)) (fun _ h9 => h9) rfl dX7_feed_15 ?_
    refine lv_iload_n hx hb dX7_feed_18 rfl (lv_at hl 1 rfl) ?_
    have hPc := hP.sub (ws' := [(tp, .inr (5, [.ref yb, .int n])), (yb, .inl (cI, 1000, .inl fy))]) [2, 1] rfl
    have hDc := hD.sub (ws' := [(tp, .inr (5, [.ref yb, .int n])), (yb, .inl (cI, 1000, .inl fy))]) [2, 1] (by decide) rfl
    have hFc := va_free (wc := [(tp, .inr (5, [.ref yb, .int n])), (yb, .inl (cI, 1000, .inl fy))]) hD hS hA [2, 1] rfl
    refine va_callv (va_runV (As := [.int y1]) (rest := []) ⟨hx, hb, hml, hown, hts⟩ (k_put l D cI cB cP H.size tp yb n y1 fy (show 0 ≤ n.toInt ∧ n.toInt ≤ 1000 by first | assumption | omega | decide)) (cwV 1 hts gw_k_feed_1 rfl rfl rfl (by decide +kernel) ⟨Nat.le_of_ble_eq_true rfl, Nat.le_of_ble_eq_true rfl⟩) ⟨ny_blind, va_recv hK hPc (ci := 5) (q0 := 0) rfl rfl, ny_pre hPc hK hN hDc⟩ rfl rfl hl.1 rfl (lv_room (Nat.le_of_ble_eq_true rfl)) dX7_feed_19 ⟨Nat.le_of_ble_eq_true rfl, Nat.le_of_ble_eq_true rfl⟩) hS (fun q _ h => hFc q h) hFc (fun u t H locs ht hvm hw hB hz1 hk1 hS => ?_)
    obtain ⟨n_4, g_5, hp7, hP1, hD1⟩ := hB
    rw [ht] at hP1
    have hp7 : 0 ≤ n_4.toInt ∧ n_4.toInt ≤ 1000 := hp7
    obtain ⟨hP, hD⟩ := va_join (wr := [(x0, .inr (7, [.ref tp, .ref rd, .ref bk, .ref fl, .ref pl]))]) (w1 := [(tp, .inr (5, [.ref yb, .int n_4])), (yb, .inl (cI, 1000, .inl g_5))]) hP hD [2, 1] [0] rfl rfl (by decide) (by decide) hk1 hFc hP1 hD1
    have hP : va_P D vwCl [(x0, .inr (7, [.ref tp, .ref rd, .ref bk, .ref fl, .ref pl])), (tp, .inr (5, [.ref yb, .int n_4])), (yb, .inl (cI, 1000, .inl g_5))] H := hP
    have hD : va_D A [(x0, .inr (7, [.ref tp, .ref rd, .ref bk, .ref fl, .ref pl])), (tp, .inr (5, [.ref yb, .int n_4])), (yb, .inl (cI, 1000, .inl g_5))] := hD
    refine lv_aload_n hx hb dX7_feed_22 rfl (lv_at hl 0 rfl) ?_
    refine va_get (D := D) (ci := 7) (v := .ref tp) (C := RX7) (T := TX7) (N := 5) hx hb hts iw_k_feed_7 hown hK hP 0 rfl rfl 0 (by decide) (hts (.fieldLink RX7 12 "FlightDesk" "tape" "LFlightDesk$Tape;") (by decide +kernel)) (fun _ h9 => h9) rfl dX7_feed_23 ?_
    refine lv_iload_n hx hb dX7_feed_26 rfl (lv_at hl 2 rfl) ?_
    have hPc := hP.sub (ws' := [(tp, .inr (5, [.ref yb, .int n_4])), (yb, .inl (cI, 1000, .inl g_5))]) [1, 2] rfl
    have hDc := hD.sub (ws' := [(tp, .inr (5, [.ref yb, .int n_4])), (yb, .inl (cI, 1000, .inl g_5))]) [1, 2] (by decide) rfl
    have hFc := va_free (wc := [(tp, .inr (5, [.ref yb, .int n_4])), (yb, .inl (cI, 1000, .inl g_5))]) hD hS hA [1, 2] rfl
    refine va_callv (va_runV (As := [.int y2]) (rest := []) ⟨hx, hb, hml, hown, hts⟩ (k_put l D cI cB cP H.size tp yb n_4 y2 g_5 (show 0 ≤ n_4.toInt ∧ n_4.toInt ≤ 1000 by first | assumption | omega | decide)) (cwV 1 hts gw_k_feed_1 rfl rfl rfl (by decide +kernel) ⟨Nat.le_of_ble_eq_true rfl, Nat.le_of_ble_eq_true rfl⟩) ⟨ny_blind, va_recv hK hPc (ci := 5) (q0 := 0) rfl rfl, ny_pre hPc hK hN hDc⟩ rfl rfl hl.1 rfl (lv_room (Nat.le_of_ble_eq_true rfl)) dX7_feed_27 ⟨Nat.le_of_ble_eq_true rfl, Nat.le_of_ble_eq_true rfl⟩) hS (fun q _ h => hFc q h) hFc (fun u t H locs ht hvm hw hB hz1 hk1 hS => ?_)
    obtain ⟨n_8, g_9, hp11, hP1, hD1⟩ := hB
    rw [ht] at hP1
    have hp11 : 0 ≤ n_8.toInt ∧ n_8.toInt ≤ 1000 := hp11
    obtain ⟨hP, hD⟩ := va_join (wr := [(x0, .inr (7, [.ref tp, .ref rd, .ref bk, .ref fl, .ref pl]))]) (w1 := [(tp, .inr (5, [.ref yb, .int n_8])), (yb, .inl (cI, 1000, .inl g_9))]) hP hD [1, 2] [0] rfl rfl (by decide) (by decide) hk1 hFc hP1 hD1
    have hP : va_P D vwCl [(x0, .inr (7, [.ref tp, .ref rd, .ref bk, .ref fl, .ref pl])), (tp, .inr (5, [.ref yb, .int n_8])), (yb, .inl (cI, 1000, .inl g_9))] H := hP
    have hD : va_D A [(x0, .inr (7, [.ref tp, .ref rd, .ref bk, .ref fl, .ref pl])), (tp, .inr (5, [.ref yb, .int n_8])), (yb, .inl (cI, 1000, .inl g_9))] := hD
    refine lv_aload_n hx hb dX7_feed_30 rfl (lv_at hl 0 rfl) ?_
    refine va_get (D := D) (ci := 7) (v := .ref tp) (C := RX7) (T := TX7) (N := 5) hx hb hts iw_k_feed_7 hown hK hP 0 rfl rfl 0 (by decide) (hts (.fieldLink RX7 12 "FlightDesk" "tape" "LFlightDesk$Tape;") (by decide +kernel)) (fun _ h9 => h9) rfl dX7_feed_31 ?_
    refine lv_iload_n hx hb dX7_feed_34 rfl (lv_at hl 3 rfl) ?_
    have hPc := hP.sub (ws' := [(tp, .inr (5, [.ref yb, .int n_8])), (yb, .inl (cI, 1000, .inl g_9))]) [1, 2] rfl
    have hDc := hD.sub (ws' := [(tp, .inr (5, [.ref yb, .int n_8])), (yb, .inl (cI, 1000, .inl g_9))]) [1, 2] (by decide) rfl
    have hFc := va_free (wc := [(tp, .inr (5, [.ref yb, .int n_8])), (yb, .inl (cI, 1000, .inl g_9))]) hD hS hA [1, 2] rfl
    refine va_callv (va_runV (As := [.int y3]) (rest := []) ⟨hx, hb, hml, hown, hts⟩ (k_put l D cI cB cP H.size tp yb n_8 y3 g_9 (show 0 ≤ n_8.toInt ∧ n_8.toInt ≤ 1000 by first | assumption | omega | decide)) (cwV 1 hts gw_k_feed_1 rfl rfl rfl (by decide +kernel) ⟨Nat.le_of_ble_eq_true rfl, Nat.le_of_ble_eq_true rfl⟩) ⟨ny_blind, va_recv hK hPc (ci := 5) (q0 := 0) rfl rfl, ny_pre hPc hK hN hDc⟩ rfl rfl hl.1 rfl (lv_room (Nat.le_of_ble_eq_true rfl)) dX7_feed_35 ⟨Nat.le_of_ble_eq_true rfl, Nat.le_of_ble_eq_true rfl⟩) hS (fun q _ h => hFc q h) hFc (fun u t H locs ht hvm hw hB hz1 hk1 hS => ?_)
    obtain ⟨n_12, g_13, hp15, hP1, hD1⟩ := hB
    rw [ht] at hP1
    have hp15 : 0 ≤ n_12.toInt ∧ n_12.toInt ≤ 1000 := hp15
    obtain ⟨hP, hD⟩ := va_join (wr := [(x0, .inr (7, [.ref tp, .ref rd, .ref bk, .ref fl, .ref pl]))]) (w1 := [(tp, .inr (5, [.ref yb, .int n_12])), (yb, .inl (cI, 1000, .inl g_13))]) hP hD [1, 2] [0] rfl rfl (by decide) (by decide) hk1 hFc hP1 hD1
    have hP : va_P D vwCl [(x0, .inr (7, [.ref tp, .ref rd, .ref bk, .ref fl, .ref pl])), (tp, .inr (5, [.ref yb, .int n_12])), (yb, .inl (cI, 1000, .inl g_13))] H := hP
    have hD : va_D A [(x0, .inr (7, [.ref tp, .ref rd, .ref bk, .ref fl, .ref pl])), (tp, .inr (5, [.ref yb, .int n_12])), (yb, .inl (cI, 1000, .inl g_13))] := hD
    refine lv_aload_n hx hb dX7_feed_38 rfl (lv_at hl 0 rfl) ?_
    refine va_get (D := D) (ci := 7) (v := .ref tp) (C := RX7) (T := TX7) (N := 5) hx hb hts iw_k_feed_7 hown hK hP 0 rfl rfl 0 (by decide) (hts (.fieldLink RX7 12 "FlightDesk" "tape" "LFlightDesk$Tape;") (by decide +kernel)) (fun _ h9 => h9) rfl dX7_feed_39 ?_
    refine lv_iload hx hb dX7_feed_42 (lv_at hl 4 rfl) ?_
    have hPc := hP.sub (ws' := [(tp, .inr (5, [.ref yb, .int n_12])), (yb, .inl (cI, 1000, .inl g_13))]) [1, 2] rfl
    have hDc := hD.sub (ws' := [(tp, .inr (5, [.ref yb, .int n_12])), (yb, .inl (cI, 1000, .inl g_13))]) [1, 2] (by decide) rfl
    have hFc := va_free (wc := [(tp, .inr (5, [.ref yb, .int n_12])), (yb, .inl (cI, 1000, .inl g_13))]) hD hS hA [1, 2] rfl
    refine va_callv (va_runV (As := [.int y4]) (rest := []) ⟨hx, hb, hml, hown, hts⟩ (k_put l D cI cB cP H.size tp yb n_12 y4 g_13 (show 0 ≤ n_12.toInt ∧ n_12.toInt ≤ 1000 by first | assumption | omega | decide)) (cwV 1 hts gw_k_feed_1 rfl rfl rfl (by decide +kernel) ⟨Nat.le_of_ble_eq_true rfl, Nat.le_of_ble_eq_true rfl⟩) ⟨ny_blind, va_recv hK hPc (ci := 5) (q0 := 0) rfl rfl, ny_pre hPc hK hN hDc⟩ rfl rfl hl.1 rfl (lv_room (Nat.le_of_ble_eq_true rfl)) dX7_feed_44 ⟨Nat.le_of_ble_eq_true rfl, Nat.le_of_ble_eq_true rfl⟩) hS (fun q _ h => hFc q h) hFc (fun u t H locs ht hvm hw hB hz1 hk1 hS => ?_)
    obtain ⟨n_16, g_17, hp19, hP1, hD1⟩ := hB
    rw [ht] at hP1
    have hp19 : 0 ≤ n_16.toInt ∧ n_16.toInt ≤ 1000 := hp19
    obtain ⟨hP, hD⟩ := va_join (wr := [(x0, .inr (7, [.ref tp, .ref rd, .ref bk, .ref fl, .ref pl]))]) (w1 := [(tp, .inr (5, [.ref yb, .int n_16])), (yb, .inl (cI, 1000, .inl g_17))]) hP hD [1, 2] [0] rfl rfl (by decide) (by decide) hk1 hFc hP1 hD1
    have hP : va_P D vwCl [(x0, .inr (7, [.ref tp, .ref rd, .ref bk, .ref fl, .ref pl])), (tp, .inr (5, [.ref yb, .int n_16])), (yb, .inl (cI, 1000, .inl g_17))] H := hP
    have hD : va_D A [(x0, .inr (7, [.ref tp, .ref rd, .ref bk, .ref fl, .ref pl])), (tp, .inr (5, [.ref yb, .int n_16])), (yb, .inl (cI, 1000, .inl g_17))] := hD
    refine lv_aload_n hx hb dX7_feed_47 rfl (lv_at hl 0 rfl) ?_
    refine va_get (D := D) (ci := 7) (v := .ref tp) (C := RX7) (T := TX7) (N := 5) hx hb hts iw_k_feed_7 hown hK hP 0 rfl rfl 0 (by decide) (hts (.fieldLink RX7 12 "FlightDesk" "tape" "LFlightDesk$Tape;") (by decide +kernel)) (fun _ h9 => h9) rfl dX7_feed_48 ?_
    refine lv_iload hx hb dX7_feed_51 (lv_at hl 5 rfl) ?_
    have hPc := hP.sub (ws' := [(tp, .inr (5, [.ref yb, .int n_16])), (yb, .inl (cI, 1000, .inl g_17))]) [1, 2] rfl
    have hDc := hD.sub (ws' := [(tp, .inr (5, [.ref yb, .int n_16])), (yb, .inl (cI, 1000, .inl g_17))]) [1, 2] (by decide) rfl
    have hFc := va_free (wc := [(tp, .inr (5, [.ref yb, .int n_16])), (yb, .inl (cI, 1000, .inl g_17))]) hD hS hA [1, 2] rfl
    refine va_callv (va_runV (As := [.int y5]) (rest := []) ⟨hx, hb, hml, hown, hts⟩ (k_put l D cI cB cP H.size tp yb n_16 y5 g_17 (show 0 ≤ n_16.toInt ∧ n_16.toInt ≤ 1000 by first | assumption | omega | decide)) (cwV 1 hts gw_k_feed_1 rfl rfl rfl (by decide +kernel) ⟨Nat.le_of_ble_eq_true rfl, Nat.le_of_ble_eq_true rfl⟩) ⟨ny_blind, va_recv hK hPc (ci := 5) (q0 := 0) rfl rfl, ny_pre hPc hK hN hDc⟩ rfl rfl hl.1 rfl (lv_room (Nat.le_of_ble_eq_true rfl)) dX7_feed_53 ⟨Nat.le_of_ble_eq_true rfl, Nat.le_of_ble_eq_true rfl⟩) hS (fun q _ h => hFc q h) hFc (fun u t H locs ht hvm hw hB hz1 hk1 hS => ?_)
    obtain ⟨n_20, g_21, hp23, hP1, hD1⟩ := hB
    rw [ht] at hP1
    have hp23 : 0 ≤ n_20.toInt ∧ n_20.toInt ≤ 1000 := hp23
    obtain ⟨hP, hD⟩ := va_join (wr := [(x0, .inr (7, [.ref tp, .ref rd, .ref bk, .ref fl, .ref pl]))]) (w1 := [(tp, .inr (5, [.ref yb, .int n_20])), (yb, .inl (cI, 1000, .inl g_21))]) hP hD [1, 2] [0] rfl rfl (by decide) (by decide) hk1 hFc hP1 hD1
    have hP : va_P D vwCl [(x0, .inr (7, [.ref tp, .ref rd, .ref bk, .ref fl, .ref pl])), (tp, .inr (5, [.ref yb, .int n_20])), (yb, .inl (cI, 1000, .inl g_21))] H := hP
    have hD : va_D A [(x0, .inr (7, [.ref tp, .ref rd, .ref bk, .ref fl, .ref pl])), (tp, .inr (5, [.ref yb, .int n_20])), (yb, .inl (cI, 1000, .inl g_21))] := hD
    refine lv_aload_n hx hb dX7_feed_56 rfl (lv_at hl 0 rfl) ?_
    refine va_get (D := D) (ci := 7) (v := .ref tp) (C := RX7) (T := TX7) (N := 5) hx hb hts iw_k_feed_7 hown hK hP 0 rfl rfl 0 (by decide) (hts (.fieldLink RX7 12 "FlightDesk" "tape" "LFlightDesk$Tape;") (by decide +kernel)) (fun _ h9 => h9) rfl dX7_feed_57 ?_
    refine va_get (D := D) (ci := 5) (v := .int n_20) (C := RX5) (T := TX5) (N := 2) hx hb hts iw_k_feed_5 hown hK hP 1 rfl rfl 1 (by decide) (hts (.fieldLink RX7 61 "FlightDesk$Tape" "length" "I") (by decide +kernel)) (fun _ h9 => h9) rfl dX7_feed_60 ?_
    have hP9 := hP.sub (ws' := [(x0, .inr (7, [.ref tp, .ref rd, .ref bk, .ref fl, .ref pl])), (tp, .inr (5, [.ref yb, .int n_20])), (yb, .inl (cI, 1000, .inl g_21))]) [0, 1, 2] rfl
    have hD9 := hD.sub (ws' := [(x0, .inr (7, [.ref tp, .ref rd, .ref bk, .ref fl, .ref pl])), (tp, .inr (5, [.ref yb, .int n_20])), (yb, .inl (cI, 1000, .inl g_21))]) [0, 1, 2] (by decide) rfl
    refine W.widen (k := 0) (n := 0) (by decide) (by decide) ?_
    exact W.iret (v := n_20) hx hb hr (fun t ht hW => ⟨⟨n_20, (), rfl, (trivial), n_20, g_21, (show 0 ≤ n_20.toInt ∧ n_20.toInt ≤ 1000 by first | assumption | omega | decide), by rw [ht]; exact hP9, hD9⟩, hS.F ht⟩) hS.2.2 dX7_feed_63
  · have h2 : ¬ (n.toInt + 20 ≤ 1000) := h2
    refine lv_if_ne (tgt := 14) hx hb dX7_feed_9 (by decide) (fun h9 => (by first | exact absurd h9 (by decide) | exact absurd (by decide) h9)) (fun c24 => ?_)
    refine lv_iconst (v := (-1)) hx hb dX7_feed_12 (by decide) ?_
    have hP9 := hP.sub (ws' := [(x0, .inr (7, [.ref tp, .ref rd, .ref bk, .ref fl, .ref pl])), (tp, .inr (5, [.ref yb, .int n])), (yb, .inl (cI, 1000, .inl fy))]) [0, 2, 1] rfl
    have hD9 := hD.sub (ws' := [(x0, .inr (7, [.ref tp, .ref rd, .ref bk, .ref fl, .ref pl])), (tp, .inr (5, [.ref yb, .int n])), (yb, .inl (cI, 1000, .inl fy))]) [0, 2, 1] (by decide) rfl
    refine W.widen (k := 0) (n := 0) (by decide) (by decide) ?_
    exact W.iret (v := (-1)) hx hb hr (fun t ht hW => ⟨⟨(-1), (), rfl, (trivial), n, fy, (show 0 ≤ n.toInt ∧ n.toInt ≤ 1000 by first | assumption | omega | decide), by rw [ht]; exact hP9, hD9⟩, hS.F ht⟩) hS.2.2 dX7_feed_13

def wk_k_end : List Cond := .code yX7_end cX7_end 2 (some .int) :: ([.fieldLink RX7 12 "FlightDesk" "tape" "LFlightDesk$Tape;", .fieldLink RX7 61 "FlightDesk$Tape" "length" "I"] ++ wsX70 ++ wsX50)
theorem iw_k_end_7 : ∀ w ∈ wsX70, w ∈ wk_k_end := fun _ h => List.mem_cons_of_mem _ (List.mem_append_left _ (List.mem_append_right _ h))
theorem iw_k_end_5 : ∀ w ∈ wsX50, w ∈ wk_k_end := fun _ h => List.mem_cons_of_mem _ (List.mem_append_right _ h)
set_option maxHeartbeats 4000000 in
set_option maxRecDepth 100000 in
theorem k_end (l : Launch) (D : va_G) (cI cB cP : ClassId) (sz : Nat) (x0 : Nat) (tp : Nat) (rd : Nat) (bk : Nat) (fl : Nat) (pl : Nat) (yb : Nat) (n : Int32) (y1 : Int32) (hn9 : 0 ≤ n.toInt ∧ n.toInt ≤ 1000) : Met l yX7_end wk_k_end ({ frames := 0, cells := 0, slots := 0, locals := 0 } : Room) (va_Pc [.ref x0, .int y1] (Pw D cI cB cP sz [(x0, .inr (7, [.ref tp, .ref rd, .ref bk, .ref fl, .ref pl])), (tp, .inr (5, [.ref yb, .int n]))])) (va_Qi (fun (r : Int32) (_ : Unit) => True) (fun _ t => ∃ n9 : Int32, (0 ≤ n9.toInt ∧ n9.toInt ≤ 1000) ∧ va_P D vwCl [(x0, .inr (7, [.ref tp, .ref rd, .ref bk, .ref fl, .ref pl])), (tp, .inr (5, [.ref yb, .int n9]))] t.heap ∧ va_D (va_A [(x0, .inr (7, [.ref tp, .ref rd, .ref bk, .ref fl, .ref pl])), (tp, .inr (5, [.ref yb, .int n]))] sz) [(x0, .inr (7, [.ref tp, .ref rd, .ref bk, .ref fl, .ref pl])), (tp, .inr (5, [.ref yb, .int n9]))]) (va_A [(x0, .inr (7, [.ref tp, .ref rd, .ref bk, .ref fl, .ref pl])), (tp, .inr (5, [.ref yb, .int n]))] sz)) 0 0 (va_A [(x0, .inr (7, [.ref tp, .ref rd, .ref bk, .ref fl, .ref pl])), (tp, .inr (5, [.ref yb, .int n]))] sz) := by
  refine Met.ofW (cc := cX7_end) (maxL := 2) (ret := (some .int)) (by decide) rfl ?_
  intro p e s m args below meth c s₁ B hml hv
  obtain ⟨rfl, hsz, hP, ⟨hK, hN⟩, hD0⟩ := hv
  have hx := B.exec
  have hb := B.bytes
  have hr := B.returns
  have hts := atoms_spec (ws := wk_k_end) B.pre
  have hown : s.vm.findClass RX7 = some m.cls := findClass_of_methodNamed B.named
  have hlocks := B.notSynchronized
  subst hsz
  have hD := hD0.self (sz := s.heap.size)
  generalize hAe : va_A [(x0, .inr (7, [.ref tp, .ref rd, .ref bk, .ref fl, .ref pl])), (tp, .inr (5, [.ref yb, .int n]))] s.heap.size = A at hD ⊢
  have hA : ∀ q : Nat, s.heap.size ≤ q → A q := fun q h => by rw [← hAe]; exact Or.inr h
  have hS : va_S A s.heap s.heap [] := va_S.rf
  have hP : va_P D vwCl [(x0, .inr (7, [.ref tp, .ref rd, .ref bk, .ref fl, .ref pl])), (tp, .inr (5, [.ref yb, .int n]))] s.heap := hP
  have hl := lv_entry ([.ref x0, .int y1]) (n := 2) (Nat.le_of_ble_eq_true rfl)
  rw [lg_entry_eq]
  generalize (lg_sl ([.ref x0, .int y1]) ++ List.replicate (2 - (lg_sl ([.ref x0, .int y1])).length) Slot.unset).toArray = ls at hl ⊢
  have hl : lv_has ls 2 [(0, .ref x0), (1, .int y1)] := hl
  refine lv_iload_n hx hb dX7_end_0 rfl (lv_at hl 1 rfl) ?_
  refine lv_if_lt (tgt := 15) hx hb dX7_end_1 (by decide) (fun c1 => ?_) (fun c1 => ?_)
  · have tc1 : y1.toInt < 0 := i32_lt c1
    refine lv_iconst (v := (-1)) hx hb dX7_end_15 (by decide) ?_
    have hP9 := hP.sub (ws' := [(x0, .inr (7, [.ref tp, .ref rd, .ref bk, .ref fl, .ref pl])), (tp, .inr (5, [.ref yb, .int n]))]) [0, 1] rfl
    have hD9 := hD.sub (ws' := [(x0, .inr (7, [.ref tp, .ref rd, .ref bk, .ref fl, .ref pl])), (tp, .inr (5, [.ref yb, .int n]))]) [0, 1] (by decide) rfl
    refine W.widen (k := 0) (n := 0) (by decide) (by decide) ?_
    exact W.iret (v := (-1)) hx hb hr (fun t ht hW => ⟨⟨(-1), (), rfl, (trivial), n, (show 0 ≤ n.toInt ∧ n.toInt ≤ 1000 by first | assumption | omega | decide), by rw [ht]; exact hP9, hD9⟩, hS.F ht⟩) hS.2.2 dX7_end_16
  · have tc1 : ¬ (y1.toInt < 0) := i32_nlt c1
    refine lv_iload_n hx hb dX7_end_4 rfl (lv_at hl 1 rfl) ?_
    refine lv_aload_n hx hb dX7_end_5 rfl (lv_at hl 0 rfl) ?_
    refine va_get (D := D) (ci := 7) (v := .ref tp) (C := RX7) (T := TX7) (N := 5) hx hb hts iw_k_end_7 hown hK hP 0 rfl rfl 0 (by decide) (hts (.fieldLink RX7 12 "FlightDesk" "tape" "LFlightDesk$Tape;") (by decide +kernel)) (fun _ h9 => h9) rfl dX7_end_6 ?_
    refine va_get (D := D) (ci := 5) (v := .int n) (C := RX5) (T := TX5) (N := 2) hx hb hts iw_k_end_5 hown hK hP 1 rfl rfl 1 (by decide) (hts (.fieldLink RX7 61 "FlightDesk$Tape" "length" "I") (by decide +kernel)) (fun _ h9 => h9) rfl dX7_end_9 ?_
    refine lv_icmp_le (tgt := 17) hx hb dX7_end_12 (by decide) (fun c2 => ?_) (fun c2 => ?_)
    · have tc2 : y1.toInt ≤ n.toInt := i32_le c2
      refine lv_aload_n hx hb dX7_end_17 rfl (lv_at hl 0 rfl) ?_
      refine va_get (D := D) (ci := 7) (v := .ref tp) (C := RX7) (T := TX7) (N := 5) hx hb hts iw_k_end_7 hown hK hP 0 rfl rfl 0 (by decide) (hts (.fieldLink RX7 12 "FlightDesk" "tape" "LFlightDesk$Tape;") (by decide +kernel)) (fun _ h9 => h9) rfl dX7_end_18 ?_
      refine lv_iload_n hx hb dX7_end_21 rfl (lv_at hl 1 rfl) ?_
      refine va_put (D := D) (ci := 5) (v := .int y1) (ty := .int) (C := RX5) (T := TX5) (N := 2) hx hb hts iw_k_end_5 tyX5 tyX5_ok nmX5 hown hK hP hD hS 1 rfl rfl 1 (by decide) (hts (.fieldLink RX7 61 "FlightDesk$Tape" "length" "I") (by decide +kernel)) (fun _ h9 => h9) rfl (by decide +kernel) rfl rfl (Nat.le_of_ble_eq_true rfl) dX7_end_22 (fun H locs hP hD hS => ?_)
      have hP : va_P D vwCl [(x0, .inr (7, [.ref tp, .ref rd, .ref bk, .ref fl, .ref pl])), (tp, .inr (5, [.ref yb, .int y1]))] H := hP
      have hD : va_D A [(x0, .inr (7, [.ref tp, .ref rd, .ref bk, .ref fl, .ref pl])), (tp, .inr (5, [.ref yb, .int y1]))] := hD
      refine lv_iload_n hx hb dX7_end_25 rfl (lv_at hl 1 rfl) ?_
      have hP9 := hP.sub (ws' := [(x0, .inr (7, [.ref tp, .ref rd, .ref bk, .ref fl, .ref pl])), (tp, .inr (5, [.ref yb, .int y1]))]) [0, 1] rfl
      have hD9 := hD.sub (ws' := [(x0, .inr (7, [.ref tp, .ref rd, .ref bk, .ref fl, .ref pl])), (tp, .inr (5, [.ref yb, .int y1]))]) [0, 1] (by decide) rfl
      refine W.widen (k := 0) (n := 0) (by decide) (by decide) ?_
      exact W.iret (v := y1) hx hb hr (fun t ht hW => ⟨⟨y1, (), rfl, (trivial), y1, (show 0 ≤ y1.toInt ∧ y1.toInt ≤ 1000 by first | assumption | omega | decide), by rw [ht]; exact hP9, hD9⟩, hS.F ht⟩) hS.2.2 dX7_end_26
    · have tc2 : ¬ (y1.toInt ≤ n.toInt) := i32_nle c2
      refine lv_iconst (v := (-1)) hx hb dX7_end_15 (by decide) ?_
      have hP9 := hP.sub (ws' := [(x0, .inr (7, [.ref tp, .ref rd, .ref bk, .ref fl, .ref pl])), (tp, .inr (5, [.ref yb, .int n]))]) [0, 1] rfl
      have hD9 := hD.sub (ws' := [(x0, .inr (7, [.ref tp, .ref rd, .ref bk, .ref fl, .ref pl])), (tp, .inr (5, [.ref yb, .int n]))]) [0, 1] (by decide) rfl
      refine W.widen (k := 0) (n := 0) (by decide) (by decide) ?_
      exact W.iret (v := (-1)) hx hb hr (fun t ht hW => ⟨⟨(-1), (), rfl, (trivial), n, (show 0 ≤ n.toInt ∧ n.toInt ≤ 1000 by first | assumption | omega | decide), by rw [ht]; exact hP9, hD9⟩, hS.F ht⟩) hS.2.2 dX7_end_16

def wk_k_fault : List Cond := .code yX7_fault cX7_fault 2 (some .int) :: ([.fieldLink RX7 21 "FlightDesk" "reader" "LFlightDesk$Reader;", .fieldLink RX7 85 "FlightDesk$Reader" "found" "I", .fieldLink RX7 88 "FlightDesk$Reader" "foundAt" "I"] ++ wsX70 ++ wsX30)
theorem iw_k_fault_7 : ∀ w ∈ wsX70, w ∈ wk_k_fault := fun _ h => List.mem_cons_of_mem _ (List.mem_append_left _ (List.mem_append_right _ h))
theorem iw_k_fault_3 : ∀ w ∈ wsX30, w ∈ wk_k_fault := fun _ h => List.mem_cons_of_mem _ (List.mem_append_right _ h)
set_option maxHeartbeats 4000000 in
set_option maxRecDepth 100000 in
theorem k_fault (l : Launch) (D : va_G) (cI cB cP : ClassId) (sz : Nat) (x0 : Nat) (tp : Nat) (rd : Nat) (bk : Nat) (fl : Nat) (pl : Nat) (sc : Nat) (dr : Nat) (fo : Int32) (fa : Int32) (cu : Int32) (y1 : Int32) : Met l yX7_fault wk_k_fault ({ frames := 0, cells := 0, slots := 0, locals := 0 } : Room) (va_Pc [.ref x0, .int y1] (Pw D cI cB cP sz [(x0, .inr (7, [.ref tp, .ref rd, .ref bk, .ref fl, .ref pl])), (rd, .inr (3, [.ref sc, .ref dr, .int fo, .int fa, .int cu]))])) (va_Qi (fun (r : Int32) (_ : Unit) => True) (fun _ t => va_P D vwCl [(x0, .inr (7, [.ref tp, .ref rd, .ref bk, .ref fl, .ref pl])), (rd, .inr (3, [.ref sc, .ref dr, .int fo, .int fa, .int cu]))] t.heap ∧ va_D (va_A [(x0, .inr (7, [.ref tp, .ref rd, .ref bk, .ref fl, .ref pl])), (rd, .inr (3, [.ref sc, .ref dr, .int fo, .int fa, .int cu]))] sz) [(x0, .inr (7, [.ref tp, .ref rd, .ref bk, .ref fl, .ref pl])), (rd, .inr (3, [.ref sc, .ref dr, .int fo, .int fa, .int cu]))]) (va_A [(x0, .inr (7, [.ref tp, .ref rd, .ref bk, .ref fl, .ref pl])), (rd, .inr (3, [.ref sc, .ref dr, .int fo, .int fa, .int cu]))] sz)) 0 0 (va_A [(x0, .inr (7, [.ref tp, .ref rd, .ref bk, .ref fl, .ref pl])), (rd, .inr (3, [.ref sc, .ref dr, .int fo, .int fa, .int cu]))] sz) := by
  refine Met.ofW (cc := cX7_fault) (maxL := 2) (ret := (some .int)) (by decide) rfl ?_
  intro p e s m args below meth c s₁ B hml hv
  obtain ⟨rfl, hsz, hP, ⟨hK, hN⟩, hD0⟩ := hv
  have hx := B.exec
  have hb := B.bytes
  have hr := B.returns
  have hts := atoms_spec (ws := wk_k_fault) B.pre
  have hown : s.vm.findClass RX7 = some m.cls := findClass_of_methodNamed B.named
  have hlocks := B.notSynchronized
  subst hsz
  have hD := hD0.self (sz := s.heap.size)
  generalize hAe : va_A [(x0, .inr (7, [.ref tp, .ref rd, .ref bk, .ref fl, .ref pl])), (rd, .inr (3, [.ref sc, .ref dr, .int fo, .int fa, .int cu]))] s.heap.size = A at hD ⊢
  have hA : ∀ q : Nat, s.heap.size ≤ q → A q := fun q h => by rw [← hAe]; exact Or.inr h
  have hS : va_S A s.heap s.heap [] := va_S.rf
  have hP : va_P D vwCl [(x0, .inr (7, [.ref tp, .ref rd, .ref bk, .ref fl, .ref pl])), (rd, .inr (3, [.ref sc, .ref dr, .int fo, .int fa, .int cu]))] s.heap := hP
  have hl := lv_entry ([.ref x0, .int y1]) (n := 2) (Nat.le_of_ble_eq_true rfl)
  rw [lg_entry_eq]
  generalize (lg_sl ([.ref x0, .int y1]) ++ List.replicate (2 - (lg_sl ([.ref x0, .int y1])).length) Slot.unset).toArray = ls at hl ⊢
  have hl : lv_has ls 2 [(0, .ref x0), (1, .int y1)] := hl
  refine lv_iload_n hx hb dX7_fault_0 rfl (lv_at hl 1 rfl) ?_
  rcases sw2 y1 with rfl | rfl | ⟨h8, h9⟩
  · refine lv_lookup (off := 27) (tgt := 28) hx hb dX7_fault_1 (by decide) (by decide) (by decide) ?_
    refine lv_aload_n hx hb dX7_fault_28 rfl (lv_at hl 0 rfl) ?_
    refine va_get (D := D) (ci := 7) (v := .ref rd) (C := RX7) (T := TX7) (N := 5) hx hb hts iw_k_fault_7 hown hK hP 0 rfl rfl 1 (by decide) (hts (.fieldLink RX7 21 "FlightDesk" "reader" "LFlightDesk$Reader;") (by decide +kernel)) (fun _ h9 => h9) rfl dX7_fault_29 ?_
    refine va_get (D := D) (ci := 3) (v := .int fo) (C := RX3) (T := TX3) (N := 5) hx hb hts iw_k_fault_3 hown hK hP 1 rfl rfl 2 (by decide) (hts (.fieldLink RX7 85 "FlightDesk$Reader" "found" "I") (by decide +kernel)) (fun _ h9 => h9) rfl dX7_fault_32 ?_
    have hP9 := hP.sub (ws' := [(x0, .inr (7, [.ref tp, .ref rd, .ref bk, .ref fl, .ref pl])), (rd, .inr (3, [.ref sc, .ref dr, .int fo, .int fa, .int cu]))]) [0, 1] rfl
    have hD9 := hD.sub (ws' := [(x0, .inr (7, [.ref tp, .ref rd, .ref bk, .ref fl, .ref pl])), (rd, .inr (3, [.ref sc, .ref dr, .int fo, .int fa, .int cu]))]) [0, 1] (by decide) rfl
    refine W.widen (k := 0) (n := 0) (by decide) (by decide) ?_
    exact W.iret (v := fo) hx hb hr (fun t ht hW => ⟨⟨fo, (), rfl, (trivial), by rw [ht]; exact hP9, hD9⟩, hS.F ht⟩) hS.2.2 dX7_fault_35
  · refine lv_lookup (off := 35) (tgt := 36) hx hb dX7_fault_1 (by decide) (by decide) (by decide) ?_
    refine lv_aload_n hx hb dX7_fault_36 rfl (lv_at hl 0 rfl) ?_
    refine va_get (D := D) (ci := 7) (v := .ref rd) (C := RX7) (T := TX7) (N := 5) hx hb hts iw_k_fault_7 hown hK hP 0 rfl rfl 1 (by decide) (hts (.fieldLink RX7 21 "FlightDesk" "reader" "LFlightDesk$Reader;") (by decide +kernel)) (fun _ h9 => h9) rfl dX7_fault_37 ?_
    refine va_get (D := D) (ci := 3) (v := .int fa) (C := RX3) (T := TX3) (N := 5) hx hb hts iw_k_fault_3 hown hK hP 1 rfl rfl 3 (by decide) (hts (.fieldLink RX7 88 "FlightDesk$Reader" "foundAt" "I") (by decide +kernel)) (fun _ h9 => h9) rfl dX7_fault_40 ?_
    have hP9 := hP.sub (ws' := [(x0, .inr (7, [.ref tp, .ref rd, .ref bk, .ref fl, .ref pl])), (rd, .inr (3, [.ref sc, .ref dr, .int fo, .int fa, .int cu]))]) [0, 1] rfl
    have hD9 := hD.sub (ws' := [(x0, .inr (7, [.ref tp, .ref rd, .ref bk, .ref fl, .ref pl])), (rd, .inr (3, [.ref sc, .ref dr, .int fo, .int fa, .int cu]))]) [0, 1] (by decide) rfl
    refine W.widen (k := 0) (n := 0) (by decide) (by decide) ?_
    exact W.iret (v := fa) hx hb hr (fun t ht hW => ⟨⟨fa, (), rfl, (trivial), by rw [ht]; exact hP9, hD9⟩, hS.F ht⟩) hS.2.2 dX7_fault_43
  · refine lv_lookup (off := 43) (tgt := 44) hx hb dX7_fault_1 (by decide) (ny_look h8 h9) (by decide) ?_
    refine lv_iconst (v := (-1)) hx hb dX7_fault_44 (by decide) ?_
    have hP9 := hP.sub (ws' := [(x0, .inr (7, [.ref tp, .ref rd, .ref bk, .ref fl, .ref pl])), (rd, .inr (3, [.ref sc, .ref dr, .int fo, .int fa, .int cu]))]) [0, 1] rfl
    have hD9 := hD.sub (ws' := [(x0, .inr (7, [.ref tp, .ref rd, .ref bk, .ref fl, .ref pl])), (rd, .inr (3, [.ref sc, .ref dr, .int fo, .int fa, .int cu]))]) [0, 1] (by decide) rfl
    refine W.widen (k := 0) (n := 0) (by decide) (by decide) ?_
    exact W.iret (v := (-1)) hx hb hr (fun t ht hW => ⟨⟨(-1), (), rfl, (trivial), by rw [ht]; exact hP9, hD9⟩, hS.F ht⟩) hS.2.2 dX7_fault_45

def wk_k_about : List Cond := .code yX7_about cX7_about 2 (some .int) :: ([.fieldLink RX7 28 "FlightDesk" "book" "LFlightDesk$Book;", .fieldLink RX7 82 "FlightDesk$Book" "legCount" "I", .fieldLink RX7 185 "FlightDesk$Book" "lineCount" "I", .fieldLink RX7 40 "FlightDesk" "flight" "LFlightDesk$Flight;", .fieldLink RX7 75 "FlightDesk$Flight" "isSet" "Z", .fieldLink RX7 12 "FlightDesk" "tape" "LFlightDesk$Tape;", .fieldLink RX7 61 "FlightDesk$Tape" "length" "I"] ++ wsX70 ++ wsX00 ++ wsX10 ++ wsX50)
theorem iw_k_about_7 : ∀ w ∈ wsX70, w ∈ wk_k_about := fun _ h => List.mem_cons_of_mem _ (List.mem_append_left _ (List.mem_append_left _ (List.mem_append_left _ (List.mem_append_right _ h))))
theorem iw_k_about_0 : ∀ w ∈ wsX00, w ∈ wk_k_about := fun _ h => List.mem_cons_of_mem _ (List.mem_append_left _ (List.mem_append_left _ (List.mem_append_right _ h)))
theorem iw_k_about_1 : ∀ w ∈ wsX10, w ∈ wk_k_about := fun _ h => List.mem_cons_of_mem _ (List.mem_append_left _ (List.mem_append_right _ h))
theorem iw_k_about_5 : ∀ w ∈ wsX50, w ∈ wk_k_about := fun _ h => List.mem_cons_of_mem _ (List.mem_append_right _ h)
set_option maxHeartbeats 4000000 in
set_option maxRecDepth 100000 in
theorem k_about (l : Launch) (D : va_G) (cI cB cP : ClassId) (sz : Nat) (x0 : Nat) (tp : Nat) (rd : Nat) (bk : Nat) (fl : Nat) (pl : Nat) (yb : Nat) (n : Int32) (lc : Int32) (ln : Int32) (a2 : Nat) (a3 : Nat) (a4 : Nat) (a5 : Nat) (a6 : Nat) (a7 : Nat) (a8 : Nat) (a9 : Nat) (a10 : Nat) (a11 : Nat) (a12 : Nat) (a13 : Nat) (a14 : Nat) (fi : Int32) (ff : Int32) (ft : Int32) (fd : Int32) (fr : Int32) (fw : Int32) (y1 : Int32) : Met l yX7_about wk_k_about ({ frames := 0, cells := 0, slots := 0, locals := 0 } : Room) (va_Pc [.ref x0, .int y1] (Pw D cI cB cP sz [(x0, .inr (7, [.ref tp, .ref rd, .ref bk, .ref fl, .ref pl])), (tp, .inr (5, [.ref yb, .int n])), (bk, .inr (0, [.int lc, .int ln, .ref a2, .ref a3, .ref a4, .ref a5, .ref a6, .ref a7, .ref a8, .ref a9, .ref a10, .ref a11, .ref a12, .ref a13, .ref a14])), (fl, .inr (1, [.ref bk, .int fi, .int ff, .int ft, .int fd, .int fr, .int fw]))])) (va_Qi (fun (r : Int32) (_ : Unit) => True) (fun _ t => va_P D vwCl [(x0, .inr (7, [.ref tp, .ref rd, .ref bk, .ref fl, .ref pl])), (tp, .inr (5, [.ref yb, .int n])), (bk, .inr (0, [.int lc, .int ln, .ref a2, .ref a3, .ref a4, .ref a5, .ref a6, .ref a7, .ref a8, .ref a9, .ref a10, .ref a11, .ref a12, .ref a13, .ref a14])), (fl, .inr (1, [.ref bk, .int fi, .int ff, .int ft, .int fd, .int fr, .int fw]))] t.heap ∧ va_D (va_A [(x0, .inr (7, [.ref tp, .ref rd, .ref bk, .ref fl, .ref pl])), (tp, .inr (5, [.ref yb, .int n])), (bk, .inr (0, [.int lc, .int ln, .ref a2, .ref a3, .ref a4, .ref a5, .ref a6, .ref a7, .ref a8, .ref a9, .ref a10, .ref a11, .ref a12, .ref a13, .ref a14])), (fl, .inr (1, [.ref bk, .int fi, .int ff, .int ft, .int fd, .int fr, .int fw]))] sz) [(x0, .inr (7, [.ref tp, .ref rd, .ref bk, .ref fl, .ref pl])), (tp, .inr (5, [.ref yb, .int n])), (bk, .inr (0, [.int lc, .int ln, .ref a2, .ref a3, .ref a4, .ref a5, .ref a6, .ref a7, .ref a8, .ref a9, .ref a10, .ref a11, .ref a12, .ref a13, .ref a14])), (fl, .inr (1, [.ref bk, .int fi, .int ff, .int ft, .int fd, .int fr, .int fw]))]) (va_A [(x0, .inr (7, [.ref tp, .ref rd, .ref bk, .ref fl, .ref pl])), (tp, .inr (5, [.ref yb, .int n])), (bk, .inr (0, [.int lc, .int ln, .ref a2, .ref a3, .ref a4, .ref a5, .ref a6, .ref a7, .ref a8, .ref a9, .ref a10, .ref a11, .ref a12, .ref a13, .ref a14])), (fl, .inr (1, [.ref bk, .int fi, .int ff, .int ft, .int fd, .int fr, .int fw]))] sz)) 0 0 (va_A [(x0, .inr (7, [.ref tp, .ref rd, .ref bk, .ref fl, .ref pl])), (tp, .inr (5, [.ref yb, .int n])), (bk, .inr (0, [.int lc, .int ln, .ref a2, .ref a3, .ref a4, .ref a5, .ref a6, .ref a7, .ref a8, .ref a9, .ref a10, .ref a11, .ref a12, .ref a13, .ref a14])), (fl, .inr (1, [.ref bk, .int fi, .int ff, .int ft, .int fd, .int fr, .int fw]))] sz) := by
  refine Met.ofW (cc := cX7_about) (maxL := 2) (ret := (some .int)) (by decide) rfl ?_
  intro p e s m args below meth c s₁ B hml hv
  obtain ⟨rfl, hsz, hP, ⟨hK, hN⟩, hD0⟩ := hv
  have hx := B.exec
  have hb := B.bytes
  have hr := B.returns
  have hts := atoms_spec (ws := wk_k_about) B.pre
  have hown : s.vm.findClass RX7 = some m.cls := findClass_of_methodNamed B.named
  have hlocks := B.notSynchronized
  subst hsz
  have hD := hD0.self (sz := s.heap.size)
  generalize hAe : va_A [(x0, .inr (7, [.ref tp, .ref rd, .ref bk, .ref fl, .ref pl])), (tp, .inr (5, [.ref yb, .int n])), (bk, .inr (0, [.int lc, .int ln, .ref a2, .ref a3, .ref a4, .ref a5, .ref a6, .ref a7, .ref a8, .ref a9, .ref a10, .ref a11, .ref a12, .ref a13, .ref a14])), (fl, .inr (1, [.ref bk, .int fi, .int ff, .int ft, .int fd, .int fr, .int fw]))] s.heap.size = A at hD ⊢
  have hA : ∀ q : Nat, s.heap.size ≤ q → A q := fun q h => by rw [← hAe]; exact Or.inr h
  have hS : va_S A s.heap s.heap [] := va_S.rf
  have hP : va_P D vwCl [(x0, .inr (7, [.ref tp, .ref rd, .ref bk, .ref fl, .ref pl])), (tp, .inr (5, [.ref yb, .int n])), (bk, .inr (0, [.int lc, .int ln, .ref a2, .ref a3, .ref a4, .ref a5, .ref a6, .ref a7, .ref a8, .ref a9, .ref a10, .ref a11, .ref a12, .ref a13, .ref a14])), (fl, .inr (1, [.ref bk, .int fi, .int ff, .int ft, .int fd, .int fr, .int fw]))] s.heap := hP
  have hl := lv_entry ([.ref x0, .int y1]) (n := 2) (Nat.le_of_ble_eq_true rfl)
  rw [lg_entry_eq]
  generalize (lg_sl ([.ref x0, .int y1]) ++ List.replicate (2 - (lg_sl ([.ref x0, .int y1])).length) Slot.unset).toArray = ls at hl ⊢
  have hl : lv_has ls 2 [(0, .ref x0), (1, .int y1)] := hl
  refine lv_iload_n hx hb dX7_about_0 rfl (lv_at hl 1 rfl) ?_
  rcases sw_4 y1 with rfl | rfl | rfl | rfl | h9
  · refine lv_tableIn (off := 31) (tgt := 32) hx hb dX7_about_1 (by decide) (by decide) (by decide) (by decide) ?_
    refine lv_aload_n hx hb dX7_about_32 rfl (lv_at hl 0 rfl) ?_
    refine va_get (D := D) (ci := 7) (v := .ref bk) (C := RX7) (T := TX7) (N := 5) hx hb hts iw_k_about_7 hown hK hP 0 rfl rfl 2 (by decide) (hts (.fieldLink RX7 28 "FlightDesk" "book" "LFlightDesk$Book;") (by decide +kernel)) (fun _ h9 => h9) rfl dX7_about_33 ?_
    refine va_get (D := D) (ci := 0) (v := .int lc) (C := RX0) (T := TX0) (N := 15) hx hb hts iw_k_about_0 hown hK hP 2 rfl rfl 0 (by decide) (hts (.fieldLink RX7 82 "FlightDesk$Book" "legCount" "I") (by decide +kernel)) (fun _ h9 => h9) rfl dX7_about_36 ?_
    have hP9 := hP.sub (ws' := [(x0, .inr (7, [.ref tp, .ref rd, .ref bk, .ref fl, .ref pl])), (tp, .inr (5, [.ref yb, .int n])), (bk, .inr (0, [.int lc, .int ln, .ref a2, .ref a3, .ref a4, .ref a5, .ref a6, .ref a7, .ref a8, .ref a9, .ref a10, .ref a11, .ref a12, .ref a13, .ref a14])), (fl, .inr (1, [.ref bk, .int fi, .int ff, .int ft, .int fd, .int fr, .int fw]))]) [0, 1, 2, 3] rfl
    have hD9 := hD.sub (ws' := [(x0, .inr (7, [.ref tp, .ref rd, .ref bk, .ref fl, .ref pl])), (tp, .inr (5, [.ref yb, .int n])), (bk, .inr (0, [.int lc, .int ln, .ref a2, .ref a3, .ref a4, .ref a5, .ref a6, .ref a7, .ref a8, .ref a9, .ref a10, .ref a11, .ref a12, .ref a13, .ref a14])), (fl, .inr (1, [.ref bk, .int fi, .int ff, .int ft, .int fd, .int fr, .int fw]))]) [0, 1, 2, 3] (by decide) rfl
    refine W.widen (k := 0) (n := 0) (by decide) (by decide) ?_
    exact W.iret (v := lc) hx hb hr (fun t ht hW => ⟨⟨lc, (), rfl, (trivial), by rw [ht]; exact hP9, hD9⟩, hS.F ht⟩) hS.2.2 dX7_about_39
  · refine lv_tableIn (off := 39) (tgt := 40) hx hb dX7_about_1 (by decide) (by decide) (by decide) (by decide) ?_
    refine lv_aload_n hx hb dX7_about_40 rfl (lv_at hl 0 rfl) ?_
    refine va_get (D := D) (ci := 7) (v := .ref bk) (C := RX7) (T := TX7) (N := 5) hx hb hts iw_k_about_7 hown hK hP 0 rfl rfl 2 (by decide) (hts (.fieldLink RX7 28 "FlightDesk" "book" "LFlightDesk$Book;") (by decide +kernel)) (fun _ h9 => h9) rfl dX7_about_41 ?_
    refine va_get (D := D) (ci := 0) (v := .int ln) (C := RX0) (T := TX0) (N := 15) hx hb hts iw_k_about_0 hown hK hP 2 rfl rfl 1 (by decide) (hts (.fieldLink RX7 185 "FlightDesk$Book" "lineCount" "I") (by decide +kernel)) (fun _ h9 => h9) rfl dX7_about_44 ?_
    have hP9 := hP.sub (ws' := [(x0, .inr (7, [.ref tp, .ref rd, .ref bk, .ref fl, .ref pl])), (tp, .inr (5, [.ref yb, .int n])), (bk, .inr (0, [.int lc, .int ln, .ref a2, .ref a3, .ref a4, .ref a5, .ref a6, .ref a7, .ref a8, .ref a9, .ref a10, .ref a11, .ref a12, .ref a13, .ref a14])), (fl, .inr (1, [.ref bk, .int fi, .int ff, .int ft, .int fd, .int fr, .int fw]))]) [0, 1, 2, 3] rfl
    have hD9 := hD.sub (ws' := [(x0, .inr (7, [.ref tp, .ref rd, .ref bk, .ref fl, .ref pl])), (tp, .inr (5, [.ref yb, .int n])), (bk, .inr (0, [.int lc, .int ln, .ref a2, .ref a3, .ref a4, .ref a5, .ref a6, .ref a7, .ref a8, .ref a9, .ref a10, .ref a11, .ref a12, .ref a13, .ref a14])), (fl, .inr (1, [.ref bk, .int fi, .int ff, .int ft, .int fd, .int fr, .int fw]))]) [0, 1, 2, 3] (by decide) rfl
    refine W.widen (k := 0) (n := 0) (by decide) (by decide) ?_
    exact W.iret (v := ln) hx hb hr (fun t ht hW => ⟨⟨ln, (), rfl, (trivial), by rw [ht]; exact hP9, hD9⟩, hS.F ht⟩) hS.2.2 dX7_about_47
  · refine lv_tableIn (off := 47) (tgt := 48) hx hb dX7_about_1 (by decide) (by decide) (by decide) (by decide) ?_
    refine lv_aload_n hx hb dX7_about_48 rfl (lv_at hl 0 rfl) ?_
    refine va_get (D := D) (ci := 7) (v := .ref fl) (C := RX7) (T := TX7) (N := 5) hx hb hts iw_k_about_7 hown hK hP 0 rfl rfl 3 (by decide) (hts (.fieldLink RX7 40 "FlightDesk" "flight" "LFlightDesk$Flight;") (by decide +kernel)) (fun _ h9 => h9) rfl dX7_about_49 ?_
    refine va_get (D := D) (ci := 1) (v := .int fi) (C := RX1) (T := TX1) (N := 7) hx hb hts iw_k_about_1 hown hK hP 3 rfl rfl 1 (by decide) (hts (.fieldLink RX7 75 "FlightDesk$Flight" "isSet" "Z") (by decide +kernel)) (fun _ h9 => h9) rfl dX7_about_52 ?_
    refine lv_if_eq (tgt := 62) hx hb dX7_about_55 (by decide) (fun c1 => ?_) (fun c1 => ?_)
    · have tc1 : fi.toInt = 0 := i32_eq c1
      refine lv_iconst (v := 0) hx hb dX7_about_62 (by decide) ?_
      have hP9 := hP.sub (ws' := [(x0, .inr (7, [.ref tp, .ref rd, .ref bk, .ref fl, .ref pl])), (tp, .inr (5, [.ref yb, .int n])), (bk, .inr (0, [.int lc, .int ln, .ref a2, .ref a3, .ref a4, .ref a5, .ref a6, .ref a7, .ref a8, .ref a9, .ref a10, .ref a11, .ref a12, .ref a13, .ref a14])), (fl, .inr (1, [.ref bk, .int fi, .int ff, .int ft, .int fd, .int fr, .int fw]))]) [0, 1, 2, 3] rfl
      have hD9 := hD.sub (ws' := [(x0, .inr (7, [.ref tp, .ref rd, .ref bk, .ref fl, .ref pl])), (tp, .inr (5, [.ref yb, .int n])), (bk, .inr (0, [.int lc, .int ln, .ref a2, .ref a3, .ref a4, .ref a5, .ref a6, .ref a7, .ref a8, .ref a9, .ref a10, .ref a11, .ref a12, .ref a13, .ref a14])), (fl, .inr (1, [.ref bk, .int fi, .int ff, .int ft, .int fd, .int fr, .int fw]))]) [0, 1, 2, 3] (by decide) rfl
      refine W.widen (k := 0) (n := 0) (by decide) (by decide) ?_
      exact W.iret (v := 0) hx hb hr (fun t ht hW => ⟨⟨0, (), rfl, (trivial), by rw [ht]; exact hP9, hD9⟩, hS.F ht⟩) hS.2.2 dX7_about_63
    · have tc1 : ¬ (fi.toInt = 0) := i32_neq c1
      refine lv_iconst (v := 1) hx hb dX7_about_58 (by decide) ?_
      refine lv_goto (tgt := 63) hx hb dX7_about_59 (by decide) ?_
      have hP9 := hP.sub (ws' := [(x0, .inr (7, [.ref tp, .ref rd, .ref bk, .ref fl, .ref pl])), (tp, .inr (5, [.ref yb, .int n])), (bk, .inr (0, [.int lc, .int ln, .ref a2, .ref a3, .ref a4, .ref a5, .ref a6, .ref a7, .ref a8, .ref a9, .ref a10, .ref a11, .ref a12, .ref a13, .ref a14])), (fl, .inr (1, [.ref bk, .int fi, .int ff, .int ft, .int fd, .int fr, .int fw]))]) [0, 1, 2, 3] rfl
      have hD9 := hD.sub (ws' := [(x0, .inr (7, [.ref tp, .ref rd, .ref bk, .ref fl, .ref pl])), (tp, .inr (5, [.ref yb, .int n])), (bk, .inr (0, [.int lc, .int ln, .ref a2, .ref a3, .ref a4, .ref a5, .ref a6, .ref a7, .ref a8, .ref a9, .ref a10, .ref a11, .ref a12, .ref a13, .ref a14])), (fl, .inr (1, [.ref bk, .int fi, .int ff, .int ft, .int fd, .int fr, .int fw]))]) [0, 1, 2, 3] (by decide) rfl
      refine W.widen (k := 0) (n := 0) (by decide) (by decide) ?_
      exact W.iret (v := 1) hx hb hr (fun t ht hW => ⟨⟨1, (), rfl, (trivial), by rw [ht]; exact hP9, hD9⟩, hS.F ht⟩) hS.2.2 dX7_about_63
  · refine lv_tableIn (off := 63) (tgt := 64) hx hb dX7_about_1 (by decide) (by decide) (by decide) (by decide) ?_
    refine lv_aload_n hx hb dX7_about_64 rfl (lv_at hl 0 rfl) ?_
    refine va_get (D := D) (ci := 7) (v := .ref tp) (C := RX7) (T := TX7) (N := 5) hx hb hts iw_k_about_7 hown hK hP 0 rfl rfl 0 (by decide) (hts (.fieldLink RX7 12 "FlightDesk" "tape" "LFlightDesk$Tape;") (by decide +kernel)) (fun _ h9 => h9) rfl dX7_about_65 ?_
    refine va_get (D := D) (ci := 5) (v := .int n) (C := RX5) (T := TX5) (N := 2) hx hb hts iw_k_about_5 hown hK hP 1 rfl rfl 1 (by decide) (hts (.fieldLink RX7 61 "FlightDesk$Tape" "length" "I") (by decide +kernel)) (fun _ h9 => h9) rfl dX7_about_68 ?_
    have hP9 := hP.sub (ws' := [(x0, .inr (7, [.ref tp, .ref rd, .ref bk, .ref fl, .ref pl])), (tp, .inr (5, [.ref yb, .int n])), (bk, .inr (0, [.int lc, .int ln, .ref a2, .ref a3, .ref a4, .ref a5, .ref a6, .ref a7, .ref a8, .ref a9, .ref a10, .ref a11, .ref a12, .ref a13, .ref a14])), (fl, .inr (1, [.ref bk, .int fi, .int ff, .int ft, .int fd, .int fr, .int fw]))]) [0, 1, 2, 3] rfl
    have hD9 := hD.sub (ws' := [(x0, .inr (7, [.ref tp, .ref rd, .ref bk, .ref fl, .ref pl])), (tp, .inr (5, [.ref yb, .int n])), (bk, .inr (0, [.int lc, .int ln, .ref a2, .ref a3, .ref a4, .ref a5, .ref a6, .ref a7, .ref a8, .ref a9, .ref a10, .ref a11, .ref a12, .ref a13, .ref a14])), (fl, .inr (1, [.ref bk, .int fi, .int ff, .int ft, .int fd, .int fr, .int fw]))]) [0, 1, 2, 3] (by decide) rfl
    refine W.widen (k := 0) (n := 0) (by decide) (by decide) ?_
    exact W.iret (v := n) hx hb hr (fun t ht hW => ⟨⟨n, (), rfl, (trivial), by rw [ht]; exact hP9, hD9⟩, hS.F ht⟩) hS.2.2 dX7_about_71
  · refine lv_tableOut (tgt := 72) hx hb dX7_about_1 h9 (by decide) ?_
    refine lv_iconst (v := (-1)) hx hb dX7_about_72 (by decide) ?_
    have hP9 := hP.sub (ws' := [(x0, .inr (7, [.ref tp, .ref rd, .ref bk, .ref fl, .ref pl])), (tp, .inr (5, [.ref yb, .int n])), (bk, .inr (0, [.int lc, .int ln, .ref a2, .ref a3, .ref a4, .ref a5, .ref a6, .ref a7, .ref a8, .ref a9, .ref a10, .ref a11, .ref a12, .ref a13, .ref a14])), (fl, .inr (1, [.ref bk, .int fi, .int ff, .int ft, .int fd, .int fr, .int fw]))]) [0, 1, 2, 3] rfl
    have hD9 := hD.sub (ws' := [(x0, .inr (7, [.ref tp, .ref rd, .ref bk, .ref fl, .ref pl])), (tp, .inr (5, [.ref yb, .int n])), (bk, .inr (0, [.int lc, .int ln, .ref a2, .ref a3, .ref a4, .ref a5, .ref a6, .ref a7, .ref a8, .ref a9, .ref a10, .ref a11, .ref a12, .ref a13, .ref a14])), (fl, .inr (1, [.ref bk, .int fi, .int ff, .int ft, .int fd, .int fr, .int fw]))]) [0, 1, 2, 3] (by decide) rfl
    refine W.widen (k := 0) (n := 0) (by decide) (by decide) ?_
    exact W.iret (v := (-1)) hx hb hr (fun t ht hW => ⟨⟨(-1), (), rfl, (trivial), by rw [ht]; exact hP9, hD9⟩, hS.F ht⟩) hS.2.2 dX7_about_73

def wk_k_told : List Cond := .code yX7_told cX7_told 5 (some .int) :: ([.methodLink RX7 91 yX7_within, .static yX7_within, .initialized RX7, .code yX7_within cX7_within 2 (some .boolean), .fieldLink RX7 28 "FlightDesk" "book" "LFlightDesk$Book;", .fieldLink RX7 99 "FlightDesk$Book" "speed" "[I", .fieldLink RX7 82 "FlightDesk$Book" "legCount" "I", .fieldLink RX7 103 "FlightDesk$Book" "wind" "[I", .methodLink RX7 106 yX7_windIndex, .static yX7_windIndex, .code yX7_windIndex cX7_windIndex 3 (some .int), .fieldLink RX7 110 "FlightDesk$Book" "burn" "[I", .methodLink RX7 113 yX7_burnIndex, .static yX7_burnIndex, .code yX7_burnIndex cX7_burnIndex 2 (some .int), .fieldLink RX7 117 "FlightDesk$Book" "climb" "[I", .fieldLink RX7 120 "FlightDesk$Book" "limit" "[I"] ++ wsX70 ++ wsX00)
theorem iw_k_told_7 : ∀ w ∈ wsX70, w ∈ wk_k_told := fun _ h => List.mem_cons_of_mem _ (List.mem_append_left _ (List.mem_append_right _ h))
theorem iw_k_told_0 : ∀ w ∈ wsX00, w ∈ wk_k_told := fun _ h => List.mem_cons_of_mem _ (List.mem_append_right _ h)
set_option maxRecDepth 20000 in
theorem gw_k_told_0 : GoodIn wk_k_told (wsS RX7 91 yX7_within wk_k_within) := goodIn_sub (by decide +kernel) (by decide +kernel)
set_option maxRecDepth 20000 in
theorem gw_k_told_1 : GoodIn wk_k_told (wsS RX7 106 yX7_windIndex wk_k_windIndex) := goodIn_sub (by decide +kernel) (by decide +kernel)
set_option maxRecDepth 20000 in
theorem gw_k_told_2 : GoodIn wk_k_told (wsS RX7 113 yX7_burnIndex wk_k_burnIndex) := goodIn_sub (by decide +kernel) (by decide +kernel)
set_option maxHeartbeats 4000000 in
set_option maxRecDepth 100000 in
theorem k_told (l : Launch) (D : va_G) (cI cB cP : ClassId) (sz : Nat) (x0 : Nat) (tp : Nat) (rd : Nat) (bk : Nat) (fl : Nat) (pl : Nat) (lc : Int32) (ln : Int32) (a2 : Nat) (a3 : Nat) (a4 : Nat) (a5 : Nat) (a6 : Nat) (a7 : Nat) (a8 : Nat) (a9 : Nat) (a10 : Nat) (a11 : Nat) (a12 : Nat) (a13 : Nat) (a14 : Nat) (y1 : Int32) (y2 : Int32) (y3 : Int32) (y4 : Int32) (f9 : Nat → Int32) (f10 : Nat → Int32) (f11 : Nat → Int32) (f12 : Nat → Int32) (f13 : Nat → Int32) (hlc9 : 0 ≤ lc.toInt ∧ lc.toInt ≤ 16) : Met l yX7_told wk_k_told ({ frames := 1, cells := 0, slots := 0, locals := 22 } : Room) (va_Pc [.ref x0, .int y1, .int y2, .int y3, .int y4] (Pw D cI cB cP sz [(x0, .inr (7, [.ref tp, .ref rd, .ref bk, .ref fl, .ref pl])), (bk, .inr (0, [.int lc, .int ln, .ref a2, .ref a3, .ref a4, .ref a5, .ref a6, .ref a7, .ref a8, .ref a9, .ref a10, .ref a11, .ref a12, .ref a13, .ref a14])), (a9, .inl (cI, 6, .inl f9)), (a10, .inl (cI, 288, .inl f10)), (a11, .inl (cI, 30, .inl f11)), (a12, .inl (cI, 6, .inl f12)), (a13, .inl (cI, 4, .inl f13))])) (va_Qi (fun (r : Int32) (_ : Unit) => True) (fun _ t => va_P D vwCl [(x0, .inr (7, [.ref tp, .ref rd, .ref bk, .ref fl, .ref pl])), (bk, .inr (0, [.int lc, .int ln, .ref a2, .ref a3, .ref a4, .ref a5, .ref a6, .ref a7, .ref a8, .ref a9, .ref a10, .ref a11, .ref a12, .ref a13, .ref a14])), (a9, .inl (cI, 6, .inl f9)), (a10, .inl (cI, 288, .inl f10)), (a11, .inl (cI, 30, .inl f11)), (a12, .inl (cI, 6, .inl f12)), (a13, .inl (cI, 4, .inl f13))] t.heap ∧ va_D (va_A [(x0, .inr (7, [.ref tp, .ref rd, .ref bk, .ref fl, .ref pl])), (bk, .inr (0, [.int lc, .int ln, .ref a2, .ref a3, .ref a4, .ref a5, .ref a6, .ref a7, .ref a8, .ref a9, .ref a10, .ref a11, .ref a12, .ref a13, .ref a14])), (a9, .inl (cI, 6, .inl f9)), (a10, .inl (cI, 288, .inl f10)), (a11, .inl (cI, 30, .inl f11)), (a12, .inl (cI, 6, .inl f12)), (a13, .inl (cI, 4, .inl f13))] sz) [(x0, .inr (7, [.ref tp, .ref rd, .ref bk, .ref fl, .ref pl])), (bk, .inr (0, [.int lc, .int ln, .ref a2, .ref a3, .ref a4, .ref a5, .ref a6, .ref a7, .ref a8, .ref a9, .ref a10, .ref a11, .ref a12, .ref a13, .ref a14])), (a9, .inl (cI, 6, .inl f9)), (a10, .inl (cI, 288, .inl f10)), (a11, .inl (cI, 30, .inl f11)), (a12, .inl (cI, 6, .inl f12)), (a13, .inl (cI, 4, .inl f13))]) (va_A [(x0, .inr (7, [.ref tp, .ref rd, .ref bk, .ref fl, .ref pl])), (bk, .inr (0, [.int lc, .int ln, .ref a2, .ref a3, .ref a4, .ref a5, .ref a6, .ref a7, .ref a8, .ref a9, .ref a10, .ref a11, .ref a12, .ref a13, .ref a14])), (a9, .inl (cI, 6, .inl f9)), (a10, .inl (cI, 288, .inl f10)), (a11, .inl (cI, 30, .inl f11)), (a12, .inl (cI, 6, .inl f12)), (a13, .inl (cI, 4, .inl f13))] sz)) 0 0 (va_A [(x0, .inr (7, [.ref tp, .ref rd, .ref bk, .ref fl, .ref pl])), (bk, .inr (0, [.int lc, .int ln, .ref a2, .ref a3, .ref a4, .ref a5, .ref a6, .ref a7, .ref a8, .ref a9, .ref a10, .ref a11, .ref a12, .ref a13, .ref a14])), (a9, .inl (cI, 6, .inl f9)), (a10, .inl (cI, 288, .inl f10)), (a11, .inl (cI, 30, .inl f11)), (a12, .inl (cI, 6, .inl f12)), (a13, .inl (cI, 4, .inl f13))] sz) := by
  refine Met.ofW (cc := cX7_told) (maxL := 5) (ret := (some .int)) (by decide) rfl ?_
  intro p e s m args below meth c s₁ B hml hv
  obtain ⟨rfl, hsz, hP, ⟨hK, hN⟩, hD0⟩ := hv
  have hx := B.exec
  have hb := B.bytes
  have hr := B.returns
  have hts := atoms_spec (ws := wk_k_told) B.pre
  have hown : s.vm.findClass RX7 = some m.cls := findClass_of_methodNamed B.named
  have hlocks := B.notSynchronized
  subst hsz
  have hD := hD0.self (sz := s.heap.size)
  generalize hAe : va_A [(x0, .inr (7, [.ref tp, .ref rd, .ref bk, .ref fl, .ref pl])), (bk, .inr (0, [.int lc, .int ln, .ref a2, .ref a3, .ref a4, .ref a5, .ref a6, .ref a7, .ref a8, .ref a9, .ref a10, .ref a11, .ref a12, .ref a13, .ref a14])), (a9, .inl (cI, 6, .inl f9)), (a10, .inl (cI, 288, .inl f10)), (a11, .inl (cI, 30, .inl f11)), (a12, .inl (cI, 6, .inl f12)), (a13, .inl (cI, 4, .inl f13))] s.heap.size = A at hD ⊢
  have hA : ∀ q : Nat, s.heap.size ≤ q → A q := fun q h => by rw [← hAe]; exact Or.inr h
  have hS : va_S A s.heap s.heap [] := va_S.rf
  have hP : va_P D vwCl [(x0, .inr (7, [.ref tp, .ref rd, .ref bk, .ref fl, .ref pl])), (bk, .inr (0, [.int lc, .int ln, .ref a2, .ref a3, .ref a4, .ref a5, .ref a6, .ref a7, .ref a8, .ref a9, .ref a10, .ref a11, .ref a12, .ref a13, .ref a14])), (a9, .inl (cI, 6, .inl f9)), (a10, .inl (cI, 288, .inl f10)), (a11, .inl (cI, 30, .inl f11)), (a12, .inl (cI, 6, .inl f12)), (a13, .inl (cI, 4, .inl f13))] s.heap := hP
  have hl := lv_entry ([.ref x0, .int y1, .int y2, .int y3, .int y4]) (n := 5) (Nat.le_of_ble_eq_true rfl)
  rw [lg_entry_eq]
  generalize (lg_sl ([.ref x0, .int y1, .int y2, .int y3, .int y4]) ++ List.replicate (5 - (lg_sl ([.ref x0, .int y1, .int y2, .int y3, .int y4])).length) Slot.unset).toArray = ls at hl ⊢
  have hl : lv_has ls 5 [(0, .ref x0), (1, .int y1), (2, .int y2), (3, .int y3), (4, .int y4)] := hl
  refine lv_iload_n hx hb dX7_told_0 rfl (lv_at hl 1 rfl) ?_
  rcases sw_8 y1 with rfl | rfl | rfl | rfl | rfl | rfl | rfl | rfl | h9
  · refine lv_tableIn (off := 47) (tgt := 48) hx hb dX7_told_1 (by decide) (by decide) (by decide) (by decide) ?_
    refine lv_iload_n hx hb dX7_told_48 rfl (lv_at hl 2 rfl) ?_
    refine lv_bipush (v := 6) hx hb dX7_told_49 (by decide) ?_
    have hPc := hP.sub (ws' := []) [] rfl
    have hDc := hD.sub (ws' := []) [] (by decide) rfl
    have hFc := va_free (wc := []) hD hS hA [] rfl
    refine va_calli (va_runS (As := [.int y2, .int 6]) (rest := []) ⟨hx, hb, hml, hown, hts⟩ (k_within l D cI cB cP s.heap.size y2 6) (cwS 2 hts gw_k_told_0 rfl rfl rfl (by decide +kernel) ⟨Nat.le_of_ble_eq_true rfl, Nat.le_of_ble_eq_true rfl⟩) ⟨ny_blind, ny_pre hPc hK hN hDc⟩ rfl rfl hl.1 rfl (lv_room (Nat.le_of_ble_eq_true rfl)) dX7_told_51 ⟨Nat.le_of_ble_eq_true rfl, Nat.le_of_ble_eq_true rfl⟩) hS (fun q _ h => hFc q h) hFc (fun r1 u t H locs ht hvm hw hB hz1 hk1 hS => ?_)
    obtain ⟨hP, hD⟩ := va_join (wr := [(x0, .inr (7, [.ref tp, .ref rd, .ref bk, .ref fl, .ref pl])), (bk, .inr (0, [.int lc, .int ln, .ref a2, .ref a3, .ref a4, .ref a5, .ref a6, .ref a7, .ref a8, .ref a9, .ref a10, .ref a11, .ref a12, .ref a13, .ref a14])), (a9, .inl (cI, 6, .inl f9)), (a10, .inl (cI, 288, .inl f10)), (a11, .inl (cI, 30, .inl f11)), (a12, .inl (cI, 6, .inl f12)), (a13, .inl (cI, 4, .inl f13))]) (w1 := []) hP hD [] [0, 1, 2, 3, 4, 5, 6] rfl rfl (by decide) (by decide) hk1 hFc ny_P0 ny_D0
    have hP : va_P D vwCl [(x0, .inr (7, [.ref tp, .ref rd, .ref bk, .ref fl, .ref pl])), (bk, .inr (0, [.int lc, .int ln, .ref a2, .ref a3, .ref a4, .ref a5, .ref a6, .ref a7, .ref a8, .ref a9, .ref a10, .ref a11, .ref a12, .ref a13, .ref a14])), (a9, .inl (cI, 6, .inl f9)), (a10, .inl (cI, 288, .inl f10)), (a11, .inl (cI, 30, .inl f11)), (a12, .inl (cI, 6, .inl f12)), (a13, .inl (cI, 4, .inl f13))] H := hP
    have hD : va_D A [(x0, .inr (7, [.ref tp, .ref rd, .ref bk, .ref fl, .ref pl])), (bk, .inr (0, [.int lc, .int ln, .ref a2, .ref a3, .ref a4, .ref a5, .ref a6, .ref a7, .ref a8, .ref a9, .ref a10, .ref a11, .ref a12, .ref a13, .ref a14])), (a9, .inl (cI, 6, .inl f9)), (a10, .inl (cI, 288, .inl f10)), (a11, .inl (cI, 30, .inl f11)), (a12, .inl (cI, 6, .inl f12)), (a13, .inl (cI, 4, .inl f13))] := hD
    rcases hw with ⟨rfl, h2⟩ | ⟨rfl, h2⟩
    · have h2 : (0 ≤ y2.toInt ∧ y2.toInt < 6) := h2
      refine lv_if_eq (tgt := 69) hx hb dX7_told_54 (by decide) (fun h9 => (by first | exact absurd h9 (by decide) | exact absurd (by decide) h9)) (fun c3 => ?_)
      refine lv_aload_n hx hb dX7_told_57 rfl (lv_at hl 0 rfl) ?_
      refine va_get (D := D) (ci := 7) (v := .ref bk) (C := RX7) (T := TX7) (N := 5) hx hb hts iw_k_told_7 hown hK hP 0 rfl rfl 2 (by decide) (hts (.fieldLink RX7 28 "FlightDesk" "book" "LFlightDesk$Book;") (by decide +kernel)) (fun _ h9 => h9) rfl dX7_told_58 ?_
      refine va_get (D := D) (ci := 0) (v := .ref a9) (C := RX0) (T := TX0) (N := 15) hx hb hts iw_k_told_0 hown hK hP 1 rfl rfl 9 (by decide) (hts (.fieldLink RX7 99 "FlightDesk$Book" "speed" "[I") (by decide +kernel)) (fun _ h9 => h9) rfl dX7_told_61 ?_
      refine lv_iload_n hx hb dX7_told_64 rfl (lv_at hl 2 rfl) ?_
      refine va_iald hx hb hK hP 2 0 rfl rfl (vp_in_iff.mpr ⟨show 0 ≤ y2.toInt by omega, show y2.toInt < ((6 : Nat) : Int) by omega⟩) dX7_told_65 ?_
      refine lv_topi (fun v4 ev4 => ?_)
      refine lv_goto (tgt := 72) hx hb dX7_told_66 (by decide) ?_
      have hP9 := hP.sub (ws' := [(x0, .inr (7, [.ref tp, .ref rd, .ref bk, .ref fl, .ref pl])), (bk, .inr (0, [.int lc, .int ln, .ref a2, .ref a3, .ref a4, .ref a5, .ref a6, .ref a7, .ref a8, .ref a9, .ref a10, .ref a11, .ref a12, .ref a13, .ref a14])), (a9, .inl (cI, 6, .inl f9)), (a10, .inl (cI, 288, .inl f10)), (a11, .inl (cI, 30, .inl f11)), (a12, .inl (cI, 6, .inl f12)), (a13, .inl (cI, 4, .inl f13))]) [0, 1, 2, 3, 4, 5, 6] rfl
      have hD9 := hD.sub (ws' := [(x0, .inr (7, [.ref tp, .ref rd, .ref bk, .ref fl, .ref pl])), (bk, .inr (0, [.int lc, .int ln, .ref a2, .ref a3, .ref a4, .ref a5, .ref a6, .ref a7, .ref a8, .ref a9, .ref a10, .ref a11, .ref a12, .ref a13, .ref a14])), (a9, .inl (cI, 6, .inl f9)), (a10, .inl (cI, 288, .inl f10)), (a11, .inl (cI, 30, .inl f11)), (a12, .inl (cI, 6, .inl f12)), (a13, .inl (cI, 4, .inl f13))]) [0, 1, 2, 3, 4, 5, 6] (by decide) rfl
      refine W.widen (k := 0) (n := 0) (by decide) (by decide) ?_
      exact W.iret (v := v4) hx hb hr (fun t ht hW => ⟨⟨v4, (), rfl, (trivial), by rw [ht]; exact hP9, hD9⟩, hS.F ht⟩) hS.2.2 dX7_told_72
    · have h2 : ¬ (0 ≤ y2.toInt ∧ y2.toInt < 6) := h2
      refine lv_if_eq (tgt := 69) hx hb dX7_told_54 (by decide) (fun c5 => ?_) (fun h9 => (by first | exact absurd h9 (by decide) | exact absurd (by decide) h9))
      refine lv_sipush (v := (-1000)) hx hb dX7_told_69 (by decide) ?_
      have hP9 := hP.sub (ws' := [(x0, .inr (7, [.ref tp, .ref rd, .ref bk, .ref fl, .ref pl])), (bk, .inr (0, [.int lc, .int ln, .ref a2, .ref a3, .ref a4, .ref a5, .ref a6, .ref a7, .ref a8, .ref a9, .ref a10, .ref a11, .ref a12, .ref a13, .ref a14])), (a9, .inl (cI, 6, .inl f9)), (a10, .inl (cI, 288, .inl f10)), (a11, .inl (cI, 30, .inl f11)), (a12, .inl (cI, 6, .inl f12)), (a13, .inl (cI, 4, .inl f13))]) [0, 1, 2, 3, 4, 5, 6] rfl
      have hD9 := hD.sub (ws' := [(x0, .inr (7, [.ref tp, .ref rd, .ref bk, .ref fl, .ref pl])), (bk, .inr (0, [.int lc, .int ln, .ref a2, .ref a3, .ref a4, .ref a5, .ref a6, .ref a7, .ref a8, .ref a9, .ref a10, .ref a11, .ref a12, .ref a13, .ref a14])), (a9, .inl (cI, 6, .inl f9)), (a10, .inl (cI, 288, .inl f10)), (a11, .inl (cI, 30, .inl f11)), (a12, .inl (cI, 6, .inl f12)), (a13, .inl (cI, 4, .inl f13))]) [0, 1, 2, 3, 4, 5, 6] (by decide) rfl
      refine W.widen (k := 0) (n := 0) (by decide) (by decide) ?_
      exact W.iret (v := (-1000)) hx hb hr (fun t ht hW => ⟨⟨(-1000), (), rfl, (trivial), by rw [ht]; exact hP9, hD9⟩, hS.F ht⟩) hS.2.2 dX7_told_72
  · refine lv_tableIn (off := 72) (tgt := 73) hx hb dX7_told_1 (by decide) (by decide) (by decide) (by decide) ?_
    refine lv_iload_n hx hb dX7_told_73 rfl (lv_at hl 2 rfl) ?_
    refine lv_iconst (v := 3) hx hb dX7_told_74 (by decide) ?_
    have hPc := hP.sub (ws' := []) [] rfl
    have hDc := hD.sub (ws' := []) [] (by decide) rfl
    have hFc := va_free (wc := []) hD hS hA [] rfl
    refine va_calli (va_runS (As := [.int y2, .int 3]) (rest := []) ⟨hx, hb, hml, hown, hts⟩ (k_within l D cI cB cP s.heap.size y2 3) (cwS 2 hts gw_k_told_0 rfl rfl rfl (by decide +kernel) ⟨Nat.le_of_ble_eq_true rfl, Nat.le_of_ble_eq_true rfl⟩) ⟨ny_blind, ny_pre hPc hK hN hDc⟩ rfl rfl hl.1 rfl (lv_room (Nat.le_of_ble_eq_true rfl)) dX7_told_75 ⟨Nat.le_of_ble_eq_true rfl, Nat.le_of_ble_eq_true rfl⟩) hS (fun q _ h => hFc q h) hFc (fun r6 u t H locs ht hvm hw hB hz1 hk1 hS => ?_)
    obtain ⟨hP, hD⟩ := va_join (wr := [(x0, .inr (7, [.ref tp, .ref rd, .ref bk, .ref fl, .ref pl])), (bk, .inr (0, [.int lc, .int ln, .ref a2, .ref a3, .ref a4, .ref a5, .ref a6, .ref a7, .ref a8, .ref a9, .ref a10, .ref a11, .ref a12, .ref a13, .ref a14])), (a9, .inl (cI, 6, .inl f9)), (a10, .inl (cI, 288, .inl f10)), (a11, .inl (cI, 30, .inl f11)), (a12, .inl (cI, 6, .inl f12)), (a13, .inl (cI, 4, .inl f13))]) (w1 := []) hP hD [] [0, 1, 2, 3, 4, 5, 6] rfl rfl (by decide) (by decide) hk1 hFc ny_P0 ny_D0
    have hP : va_P D vwCl [(x0, .inr (7, [.ref tp, .ref rd, .ref bk, .ref fl, .ref pl])), (bk, .inr (0, [.int lc, .int ln, .ref a2, .ref a3, .ref a4, .ref a5, .ref a6, .ref a7, .ref a8, .ref a9, .ref a10, .ref a11, .ref a12, .ref a13, .ref a14])), (a9, .inl (cI, 6, .inl f9)), (a10, .inl (cI, 288, .inl f10)), (a11, .inl (cI, 30, .inl f11)), (a12, .inl (cI, 6, .inl f12)), (a13, .inl (cI, 4, .inl f13))] H := hP
    have hD : va_D A [(x0, .inr (7, [.ref tp, .ref rd, .ref bk, .ref fl, .ref pl])), (bk, .inr (0, [.int lc, .int ln, .ref a2, .ref a3, .ref a4, .ref a5, .ref a6, .ref a7, .ref a8, .ref a9, .ref a10, .ref a11, .ref a12, .ref a13, .ref a14])), (a9, .inl (cI, 6, .inl f9)), (a10, .inl (cI, 288, .inl f10)), (a11, .inl (cI, 30, .inl f11)), (a12, .inl (cI, 6, .inl f12)), (a13, .inl (cI, 4, .inl f13))] := hD
    rcases hw with ⟨rfl, h7⟩ | ⟨rfl, h7⟩
    · have h7 : (0 ≤ y2.toInt ∧ y2.toInt < 3) := h7
      refine lv_if_eq (tgt := 123) hx hb dX7_told_78 (by decide) (fun h9 => (by first | exact absurd h9 (by decide) | exact absurd (by decide) h9)) (fun c8 => ?_)
      refine lv_iload_n hx hb dX7_told_81 rfl (lv_at hl 3 rfl) ?_
      refine lv_bipush (v := 6) hx hb dX7_told_82 (by decide) ?_
      have hPc := hP.sub (ws' := []) [] rfl
      have hDc := hD.sub (ws' := []) [] (by decide) rfl
      have hFc := va_free (wc := []) hD hS hA [] rfl
      refine va_calli (va_runS (As := [.int y3, .int 6]) (rest := []) ⟨hx, hb, hml, hown, hts⟩ (k_within l D cI cB cP H.size y3 6) (cwS 2 hts gw_k_told_0 rfl rfl rfl (by decide +kernel) ⟨Nat.le_of_ble_eq_true rfl, Nat.le_of_ble_eq_true rfl⟩) ⟨ny_blind, ny_pre hPc hK hN hDc⟩ rfl rfl hl.1 rfl (lv_room (Nat.le_of_ble_eq_true rfl)) dX7_told_84 ⟨Nat.le_of_ble_eq_true rfl, Nat.le_of_ble_eq_true rfl⟩) hS (fun q _ h => hFc q h) hFc (fun r9 u t H locs ht hvm hw hB hz1 hk1 hS => ?_)
      obtain ⟨hP, hD⟩ := va_join (wr := [(x0, .inr (7, [.ref tp, .ref rd, .ref bk, .ref fl, .ref pl])), (bk, .inr (0, [.int lc, .int ln, .ref a2, .ref a3, .ref a4, .ref a5, .ref a6, .ref a7, .ref a8, .ref a9, .ref a10, .ref a11, .ref a12, .ref a13, .ref a14])), (a9, .inl (cI, 6, .inl f9)), (a10, .inl (cI, 288, .inl f10)), (a11, .inl (cI, 30, .inl f11)), (a12, .inl (cI, 6, .inl f12)), (a13, .inl (cI, 4, .inl f13))]) (w1 := []) hP hD [] [0, 1, 2, 3, 4, 5, 6] rfl rfl (by decide) (by decide) hk1 hFc ny_P0 ny_D0
      have hP : va_P D vwCl [(x0, .inr (7, [.ref tp, .ref rd, .ref bk, .ref fl, .ref pl])), (bk, .inr (0, [.int lc, .int ln, .ref a2, .ref a3, .ref a4, .ref a5, .ref a6, .ref a7, .ref a8, .ref a9, .ref a10, .ref a11, .ref a12, .ref a13, .ref a14])), (a9, .inl (cI, 6, .inl f9)), (a10, .inl (cI, 288, .inl f10)), (a11, .inl (cI, 30, .inl f11)), (a12, .inl (cI, 6, .inl f12)), (a13, .inl (cI, 4, .inl f13))] H := hP
      have hD : va_D A [(x0, .inr (7, [.ref tp, .ref rd, .ref bk, .ref fl, .ref pl])), (bk, .inr (0, [.int lc, .int ln, .ref a2, .ref a3, .ref a4, .ref a5, .ref a6, .ref a7, .ref a8, .ref a9, .ref a10, .ref a11, .ref a12, .ref a13, .ref a14])), (a9, .inl (cI, 6, .inl f9)), (a10, .inl (cI, 288, .inl f10)), (a11, .inl (cI, 30, .inl f11)), (a12, .inl (cI, 6, .inl f12)), (a13, .inl (cI, 4, .inl f13))] := hD
      rcases hw with ⟨rfl, h10⟩ | ⟨rfl, h10⟩
      · have h10 : (0 ≤ y3.toInt ∧ y3.toInt < 6) := h10
        refine lv_if_eq (tgt := 123) hx hb dX7_told_87 (by decide) (fun h9 => (by first | exact absurd h9 (by decide) | exact absurd (by decide) h9)) (fun c11 => ?_)
        refine lv_iload hx hb dX7_told_90 (lv_at hl 4 rfl) ?_
        refine lv_aload_n hx hb dX7_told_92 rfl (lv_at hl 0 rfl) ?_
        refine va_get (D := D) (ci := 7) (v := .ref bk) (C := RX7) (T := TX7) (N := 5) hx hb hts iw_k_told_7 hown hK hP 0 rfl rfl 2 (by decide) (hts (.fieldLink RX7 28 "FlightDesk" "book" "LFlightDesk$Book;") (by decide +kernel)) (fun _ h9 => h9) rfl dX7_told_93 ?_
        refine va_get (D := D) (ci := 0) (v := .int lc) (C := RX0) (T := TX0) (N := 15) hx hb hts iw_k_told_0 hown hK hP 1 rfl rfl 0 (by decide) (hts (.fieldLink RX7 82 "FlightDesk$Book" "legCount" "I") (by decide +kernel)) (fun _ h9 => h9) rfl dX7_told_96 ?_
        have hPc := hP.sub (ws' := []) [] rfl
        have hDc := hD.sub (ws' := []) [] (by decide) rfl
        have hFc := va_free (wc := []) hD hS hA [] rfl
        refine va_calli (va_runS (As := [.int y4, .int lc]) (rest := []) ⟨hx, hb, hml, hown, hts⟩ (k_within l D cI cB cP H.size y4 lc) (cwS 2 hts gw_k_told_0 rfl rfl rfl (by decide +kernel) ⟨Nat.le_of_ble_eq_true rfl, Nat.le_of_ble_eq_true rfl⟩) ⟨ny_blind, ny_pre hPc hK hN hDc⟩ rfl rfl hl.1 rfl (lv_room (Nat.le_of_ble_eq_true rfl)) dX7_told_99 ⟨Nat.le_of_ble_eq_true rfl, Nat.le_of_ble_eq_true rfl⟩) hS (fun q _ h => hFc q h) hFc (fun r12 u t H locs ht hvm hw hB hz1 hk1 hS => ?_)
        obtain ⟨hP, hD⟩ := va_join (wr := [(x0, .inr (7, [.ref tp, .ref rd, .ref bk, .ref fl, .ref pl])), (bk, .inr (0, [.int lc, .int ln, .ref a2, .ref a3, .ref a4, .ref a5, .ref a6, .ref a7, .ref a8, .ref a9, .ref a10, .ref a11, .ref a12, .ref a13, .ref a14])), (a9, .inl (cI, 6, .inl f9)), (a10, .inl (cI, 288, .inl f10)), (a11, .inl (cI, 30, .inl f11)), (a12, .inl (cI, 6, .inl f12)), (a13, .inl (cI, 4, .inl f13))]) (w1 := []) hP hD [] [0, 1, 2, 3, 4, 5, 6] rfl rfl (by decide) (by decide) hk1 hFc ny_P0 ny_D0
        have hP : va_P D vwCl [(x0, .inr (7, [.ref tp, .ref rd, .ref bk, .ref fl, .ref pl])), (bk, .inr (0, [.int lc, .int ln, .ref a2, .ref a3, .ref a4, .ref a5, .ref a6, .ref a7, .ref a8, .ref a9, .ref a10, .ref a11, .ref a12, .ref a13, .ref a14])), (a9, .inl (cI, 6, .inl f9)), (a10, .inl (cI, 288, .inl f10)), (a11, .inl (cI, 30, .inl f11)), (a12, .inl (cI, 6, .inl f12)), (a13, .inl (cI, 4, .inl f13))] H := hP
        have hD : va_D A [(x0, .inr (7, [.ref tp, .ref rd, .ref bk, .ref fl, .ref pl])), (bk, .inr (0, [.int lc, .int ln, .ref a2, .ref a3, .ref a4, .ref a5, .ref a6, .ref a7, .ref a8, .ref a9, .ref a10, .ref a11, .ref a12, .ref a13, .ref a14])), (a9, .inl (cI, 6, .inl f9)), (a10, .inl (cI, 288, .inl f10)), (a11, .inl (cI, 30, .inl f11)), (a12, .inl (cI, 6, .inl f12)), (a13, .inl (cI, 4, .inl f13))] := hD
        rcases hw with ⟨rfl, h13⟩ | ⟨rfl, h13⟩
        · have h13 : (0 ≤ y4.toInt ∧ y4.toInt < lc.toInt) := h13
          refine lv_if_eq (tgt := 123) hx hb dX7_told_102 (by decide) (fun h9 => (by first | exact absurd h9 (by decide) | exact absurd (by decide) h9)) (fun c14 => ?_)
          refine lv_aload_n hx hb dX7_told_105 rfl (lv_at hl 0 rfl) ?_
          refine va_get (D := D) (ci := 7) (v := .ref bk) (C := RX7) (T := TX7) (N := 5) hx hb hts iw_k_told_7 hown hK hP 0 rfl rfl 2 (by decide) (hts (.fieldLink RX7 28 "FlightDesk" "book" "LFlightDesk$Book;") (by decide +kernel)) (fun _ h9 => h9) rfl dX7_told_106 ?_
          refine va_get (D := D) (ci := 0) (v := .ref a10) (C := RX0) (T := TX0) (N := 15) hx hb hts iw_k_told_0 hown hK hP 1 rfl rfl 10 (by decide) (hts (.fieldLink RX7 103 "FlightDesk$Book" "wind" "[I") (by decide +kernel)) (fun _ h9 => h9) rfl dX7_told_109 ?_
          refine lv_iload_n hx hb dX7_told_112 rfl (lv_at hl 2 rfl) ?_
          refine lv_iload_n hx hb dX7_told_113 rfl (lv_at hl 3 rfl) ?_
          refine lv_iload hx hb dX7_told_114 (lv_at hl 4 rfl) ?_
          have hPc := hP.sub (ws' := []) [] rfl
          have hDc := hD.sub (ws' := []) [] (by decide) rfl
          have hFc := va_free (wc := []) hD hS hA [] rfl
          refine va_calli (va_runS (As := [.int y2, .int y3, .int y4]) (rest := [.ref a10]) ⟨hx, hb, hml, hown, hts⟩ (k_windIndex l D cI cB cP H.size y2 y3 y4 (show 0 ≤ y2.toInt ∧ y2.toInt ≤ 1000 by first | assumption | omega | decide) (show 0 ≤ y3.toInt ∧ y3.toInt ≤ 1000 by first | assumption | omega | decide) (show 0 ≤ y4.toInt ∧ y4.toInt ≤ 1000 by first | assumption | omega | decide)) (cwS 3 hts gw_k_told_1 rfl rfl rfl (by decide +kernel) ⟨Nat.le_of_ble_eq_true rfl, Nat.le_of_ble_eq_true rfl⟩) ⟨ny_blind, ny_pre hPc hK hN hDc⟩ rfl rfl hl.1 rfl (lv_room (Nat.le_of_ble_eq_true rfl)) dX7_told_116 ⟨Nat.le_of_ble_eq_true rfl, Nat.le_of_ble_eq_true rfl⟩) hS (fun q _ h => hFc q h) hFc (fun r15 u t H locs ht hvm hw hB hz1 hk1 hS => ?_)
          obtain ⟨hP, hD⟩ := va_join (wr := [(x0, .inr (7, [.ref tp, .ref rd, .ref bk, .ref fl, .ref pl])), (bk, .inr (0, [.int lc, .int ln, .ref a2, .ref a3, .ref a4, .ref a5, .ref a6, .ref a7, .ref a8, .ref a9, .ref a10, .ref a11, .ref a12, .ref a13, .ref a14])), (a9, .inl (cI, 6, .inl f9)), (a10, .inl (cI, 288, .inl f10)), (a11, .inl (cI, 30, .inl f11)), (a12, .inl (cI, 6, .inl f12)), (a13, .inl (cI, 4, .inl f13))]) (w1 := []) hP hD [] [0, 1, 2, 3, 4, 5, 6] rfl rfl (by decide) (by decide) hk1 hFc ny_P0 ny_D0
          have hP : va_P D vwCl [(x0, .inr (7, [.ref tp, .ref rd, .ref bk, .ref fl, .ref pl])), (bk, .inr (0, [.int lc, .int ln, .ref a2, .ref a3, .ref a4, .ref a5, .ref a6, .ref a7, .ref a8, .ref a9, .ref a10, .ref a11, .ref a12, .ref a13, .ref a14])), (a9, .inl (cI, 6, .inl f9)), (a10, .inl (cI, 288, .inl f10)), (a11, .inl (cI, 30, .inl f11)), (a12, .inl (cI, 6, .inl f12)), (a13, .inl (cI, 4, .inl f13))] H := hP
          have hD : va_D A [(x0, .inr (7, [.ref tp, .ref rd, .ref bk, .ref fl, .ref pl])), (bk, .inr (0, [.int lc, .int ln, .ref a2, .ref a3, .ref a4, .ref a5, .ref a6, .ref a7, .ref a8, .ref a9, .ref a10, .ref a11, .ref a12, .ref a13, .ref a14])), (a9, .inl (cI, 6, .inl f9)), (a10, .inl (cI, 288, .inl f10)), (a11, .inl (cI, 30, .inl f11)), (a12, .inl (cI, 6, .inl f12)), (a13, .inl (cI, 4, .inl f13))] := hD
          have hr15 : r15.toInt = (y2.toInt * 6 + y3.toInt) * 16 + y4.toInt := hw
          refine va_iald hx hb hK hP 3 0 rfl rfl (vp_in_iff.mpr ⟨show 0 ≤ r15.toInt by omega, show r15.toInt < ((288 : Nat) : Int) by omega⟩) dX7_told_119 ?_
          refine lv_topi (fun v16 ev16 => ?_)
          refine lv_goto (tgt := 126) hx hb dX7_told_120 (by decide) ?_
          have hP9 := hP.sub (ws' := [(x0, .inr (7, [.ref tp, .ref rd, .ref bk, .ref fl, .ref pl])), (bk, .inr (0, [.int lc, .int ln, .ref a2, .ref a3, .ref a4, .ref a5, .ref a6, .ref a7, .ref a8, .ref a9, .ref a10, .ref a11, .ref a12, .ref a13, .ref a14])), (a9, .inl (cI, 6, .inl f9)), (a10, .inl (cI, 288, .inl f10)), (a11, .inl (cI, 30, .inl f11)), (a12, .inl (cI, 6, .inl f12)), (a13, .inl (cI, 4, .inl f13))]) [0, 1, 2, 3, 4, 5, 6] rfl
          have hD9 := hD.sub (ws' := [(x0, .inr (7, [.ref tp, .ref rd, .ref bk, .ref fl, .ref pl])), (bk, .inr (0, [.int lc, .int ln, .ref a2, .ref a3, .ref a4, .ref a5, .ref a6, .ref a7, .ref a8, .ref a9, .ref a10, .ref a11, .ref a12, .ref a13, .ref a14])), (a9, .inl (cI, 6, .inl f9)), (a10, .inl (cI, 288, .inl f10)), (a11, .inl (cI, 30, .inl f11)), (a12, .inl (cI, 6, .inl f12)), (a13, .inl (cI, 4, .inl f13))]) [0, 1, 2, 3, 4, 5, 6] (by decide) rfl
          refine W.widen (k := 0) (n := 0) (by decide) (by decide) ?_
          exact W.iret (v := v16) hx hb hr (fun t ht hW => ⟨⟨v16, (), rfl, (trivial), by rw [ht]; exact hP9, hD9⟩, hS.F ht⟩) hS.2.2 dX7_told_126
        · have h13 : ¬ (0 ≤ y4.toInt ∧ y4.toInt < lc.toInt) := h13
          refine lv_if_eq (tgt := 123) hx hb dX7_told_102 (by decide) (fun c17 => ?_) (fun h9 => (by first | exact absurd h9 (by decide) | exact absurd (by decide) h9))
          refine lv_sipush (v := (-1000)) hx hb dX7_told_123 (by decide) ?_
          have hP9 := hP.sub (ws' := [(x0, .inr (7, [.ref tp, .ref rd, .ref bk, .ref fl, .ref pl])), (bk, .inr (0, [.int lc, .int ln, .ref a2, .ref a3, .ref a4, .ref a5, .ref a6, .ref a7, .ref a8, .ref a9, .ref a10, .ref a11, .ref a12, .ref a13, .ref a14])), (a9, .inl (cI, 6, .inl f9)), (a10, .inl (cI, 288, .inl f10)), (a11, .inl (cI, 30, .inl f11)), (a12, .inl (cI, 6, .inl f12)), (a13, .inl (cI, 4, .inl f13))]) [0, 1, 2, 3, 4, 5, 6] rfl
          have hD9 := hD.sub (ws' := [(x0, .inr (7, [.ref tp, .ref rd, .ref bk, .ref fl, .ref pl])), (bk, .inr (0, [.int lc, .int ln, .ref a2, .ref a3, .ref a4, .ref a5, .ref a6, .ref a7, .ref a8, .ref a9, .ref a10, .ref a11, .ref a12, .ref a13, .ref a14])), (a9, .inl (cI, 6, .inl f9)), (a10, .inl (cI, 288, .inl f10)), (a11, .inl (cI, 30, .inl f11)), (a12, .inl (cI, 6, .inl f12)), (a13, .inl (cI, 4, .inl f13))]) [0, 1, 2, 3, 4, 5, 6] (by decide) rfl
          refine W.widen (k := 0) (n := 0) (by decide) (by decide) ?_
          exact W.iret (v := (-1000)) hx hb hr (fun t ht hW => ⟨⟨(-1000), (), rfl, (trivial), by rw [ht]; exact hP9, hD9⟩, hS.F ht⟩) hS.2.2 dX7_told_126
      · have h10 : ¬ (0 ≤ y3.toInt ∧ y3.toInt < 6) := h10
        refine lv_if_eq (tgt := 123) hx hb dX7_told_87 (by decide) (fun c18 => ?_) (fun h9 => (by first | exact absurd h9 (by decide) | exact absurd (by decide) h9))
        refine lv_sipush (v := (-1000)) hx hb dX7_told_123 (by decide) ?_
        have hP9 := hP.sub (ws' := [(x0, .inr (7, [.ref tp, .ref rd, .ref bk, .ref fl, .ref pl])), (bk, .inr (0, [.int lc, .int ln, .ref a2, .ref a3, .ref a4, .ref a5, .ref a6, .ref a7, .ref a8, .ref a9, .ref a10, .ref a11, .ref a12, .ref a13, .ref a14])), (a9, .inl (cI, 6, .inl f9)), (a10, .inl (cI, 288, .inl f10)), (a11, .inl (cI, 30, .inl f11)), (a12, .inl (cI, 6, .inl f12)), (a13, .inl (cI, 4, .inl f13))]) [0, 1, 2, 3, 4, 5, 6] rfl
        have hD9 := hD.sub (ws' := [(x0, .inr (7, [.ref tp, .ref rd, .ref bk, .ref fl, .ref pl])), (bk, .inr (0, [.int lc, .int ln, .ref a2, .ref a3, .ref a4, .ref a5, .ref a6, .ref a7, .ref a8, .ref a9, .ref a10, .ref a11, .ref a12, .ref a13, .ref a14])), (a9, .inl (cI, 6, .inl f9)), (a10, .inl (cI, 288, .inl f10)), (a11, .inl (cI, 30, .inl f11)), (a12, .inl (cI, 6, .inl f12)), (a13, .inl (cI, 4, .inl f13))]) [0, 1, 2, 3, 4, 5, 6] (by decide) rfl
        refine W.widen (k := 0) (n := 0) (by decide) (by decide) ?_
        exact W.iret (v := (-1000)) hx hb hr (fun t ht hW => ⟨⟨(-1000), (), rfl, (trivial), by rw [ht]; exact hP9, hD9⟩, hS.F ht⟩) hS.2.2 dX7_told_126
    · have h7 : ¬ (0 ≤ y2.toInt ∧ y2.toInt < 3) := h7
      refine lv_if_eq (tgt := 123) hx hb dX7_told_78 (by decide) (fun c19 => ?_) (fun h9 => (by first | exact absurd h9 (by decide) | exact absurd (by decide) h9))
      refine lv_sipush (v := (-1000)) hx hb dX7_told_123 (by decide) ?_
      have hP9 := hP.sub (ws' := [(x0, .inr (7, [.ref tp, .ref rd, .ref bk, .ref fl, .ref pl])), (bk, .inr (0, [.int lc, .int ln, .ref a2, .ref a3, .ref a4, .ref a5, .ref a6, .ref a7, .ref a8, .ref a9, .ref a10, .ref a11, .ref a12, .ref a13, .ref a14])), (a9, .inl (cI, 6, .inl f9)), (a10, .inl (cI, 288, .inl f10)), (a11, .inl (cI, 30, .inl f11)), (a12, .inl (cI, 6, .inl f12)), (a13, .inl (cI, 4, .inl f13))]) [0, 1, 2, 3, 4, 5, 6] rfl
      have hD9 := hD.sub (ws' := [(x0, .inr (7, [.ref tp, .ref rd, .ref bk, .ref fl, .ref pl])), (bk, .inr (0, [.int lc, .int ln, .ref a2, .ref a3, .ref a4, .ref a5, .ref a6, .ref a7, .ref a8, .ref a9, .ref a10, .ref a11, .ref a12, .ref a13, .ref a14])), (a9, .inl (cI, 6, .inl f9)), (a10, .inl (cI, 288, .inl f10)), (a11, .inl (cI, 30, .inl f11)), (a12, .inl (cI, 6, .inl f12)), (a13, .inl (cI, 4, .inl f13))]) [0, 1, 2, 3, 4, 5, 6] (by decide) rfl
      refine W.widen (k := 0) (n := 0) (by decide) (by decide) ?_
      exact W.iret (v := (-1000)) hx hb hr (fun t ht hW => ⟨⟨(-1000), (), rfl, (trivial), by rw [ht]; exact hP9, hD9⟩, hS.F ht⟩) hS.2.2 dX7_told_126
  · refine lv_tableIn (off := 126) (tgt := 127) hx hb dX7_told_1 (by decide) (by decide) (by decide) (by decide) ?_
    refine lv_iload_n hx hb dX7_told_127 rfl (lv_at hl 2 rfl) ?_
    refine lv_bipush (v := 6) hx hb dX7_told_128 (by decide) ?_
    have hPc := hP.sub (ws' := []) [] rfl
    have hDc := hD.sub (ws' := []) [] (by decide) rfl
    have hFc := va_free (wc := []) hD hS hA [] rfl
    refine va_calli (va_runS (As := [.int y2, .int 6]) (rest := []) ⟨hx, hb, hml, hown, hts⟩ (k_within l D cI cB cP s.heap.size y2 6) (cwS 2 hts gw_k_told_0 rfl rfl rfl (by decide +kernel) ⟨Nat.le_of_ble_eq_true rfl, Nat.le_of_ble_eq_true rfl⟩) ⟨ny_blind, ny_pre hPc hK hN hDc⟩ rfl rfl hl.1 rfl (lv_room (Nat.le_of_ble_eq_true rfl)) dX7_told_130 ⟨Nat.le_of_ble_eq_true rfl, Nat.le_of_ble_eq_true rfl⟩) hS (fun q _ h => hFc q h) hFc (fun r20 u t H locs ht hvm hw hB hz1 hk1 hS => ?_)
    obtain ⟨hP, hD⟩ := va_join (wr := [(x0, .inr (7, [.ref tp, .ref rd, .ref bk, .ref fl, .ref pl])), (bk, .inr (0, [.int lc, .int ln, .ref a2, .ref a3, .ref a4, .ref a5, .ref a6, .ref a7, .ref a8, .ref a9, .ref a10, .ref a11, .ref a12, .ref a13, .ref a14])), (a9, .inl (cI, 6, .inl f9)), (a10, .inl (cI, 288, .inl f10)), (a11, .inl (cI, 30, .inl f11)), (a12, .inl (cI, 6, .inl f12)), (a13, .inl (cI, 4, .inl f13))]) (w1 := []) hP hD [] [0, 1, 2, 3, 4, 5, 6] rfl rfl (by decide) (by decide) hk1 hFc ny_P0 ny_D0
    have hP : va_P D vwCl [(x0, .inr (7, [.ref tp, .ref rd, .ref bk, .ref fl, .ref pl])), (bk, .inr (0, [.int lc, .int ln, .ref a2, .ref a3, .ref a4, .ref a5, .ref a6, .ref a7, .ref a8, .ref a9, .ref a10, .ref a11, .ref a12, .ref a13, .ref a14])), (a9, .inl (cI, 6, .inl f9)), (a10, .inl (cI, 288, .inl f10)), (a11, .inl (cI, 30, .inl f11)), (a12, .inl (cI, 6, .inl f12)), (a13, .inl (cI, 4, .inl f13))] H := hP
    have hD : va_D A [(x0, .inr (7, [.ref tp, .ref rd, .ref bk, .ref fl, .ref pl])), (bk, .inr (0, [.int lc, .int ln, .ref a2, .ref a3, .ref a4, .ref a5, .ref a6, .ref a7, .ref a8, .ref a9, .ref a10, .ref a11, .ref a12, .ref a13, .ref a14])), (a9, .inl (cI, 6, .inl f9)), (a10, .inl (cI, 288, .inl f10)), (a11, .inl (cI, 30, .inl f11)), (a12, .inl (cI, 6, .inl f12)), (a13, .inl (cI, 4, .inl f13))] := hD
    rcases hw with ⟨rfl, h21⟩ | ⟨rfl, h21⟩
    · have h21 : (0 ≤ y2.toInt ∧ y2.toInt < 6) := h21
      refine lv_if_eq (tgt := 160) hx hb dX7_told_133 (by decide) (fun h9 => (by first | exact absurd h9 (by decide) | exact absurd (by decide) h9)) (fun c22 => ?_)
      refine lv_iload_n hx hb dX7_told_136 rfl (lv_at hl 3 rfl) ?_
      refine lv_iconst (v := 5) hx hb dX7_told_137 (by decide) ?_
      have hPc := hP.sub (ws' := []) [] rfl
      have hDc := hD.sub (ws' := []) [] (by decide) rfl
      have hFc := va_free (wc := []) hD hS hA [] rfl
      refine va_calli (va_runS (As := [.int y3, .int 5]) (rest := []) ⟨hx, hb, hml, hown, hts⟩ (k_within l D cI cB cP H.size y3 5) (cwS 2 hts gw_k_told_0 rfl rfl rfl (by decide +kernel) ⟨Nat.le_of_ble_eq_true rfl, Nat.le_of_ble_eq_true rfl⟩) ⟨ny_blind, ny_pre hPc hK hN hDc⟩ rfl rfl hl.1 rfl (lv_room (Nat.le_of_ble_eq_true rfl)) dX7_told_138 ⟨Nat.le_of_ble_eq_true rfl, Nat.le_of_ble_eq_true rfl⟩) hS (fun q _ h => hFc q h) hFc (fun r23 u t H locs ht hvm hw hB hz1 hk1 hS => ?_)
      obtain ⟨hP, hD⟩ := va_join (wr := [(x0, .inr (7, [.ref tp, .ref rd, .ref bk, .ref fl, .ref pl])), (bk, .inr (0, [.int lc, .int ln, .ref a2, .ref a3, .ref a4, .ref a5, .ref a6, .ref a7, .ref a8, .ref a9, .ref a10, .ref a11, .ref a12, .ref a13, .ref a14])), (a9, .inl (cI, 6, .inl f9)), (a10, .inl (cI, 288, .inl f10)), (a11, .inl (cI, 30, .inl f11)), (a12, .inl (cI, 6, .inl f12)), (a13, .inl (cI, 4, .inl f13))]) (w1 := []) hP hD [] [0, 1, 2, 3, 4, 5, 6] rfl rfl (by decide) (by decide) hk1 hFc ny_P0 ny_D0
      have hP : va_P D vwCl [(x0, .inr (7, [.ref tp, .ref rd, .ref bk, .ref fl, .ref pl])), (bk, .inr (0, [.int lc, .int ln, .ref a2, .ref a3, .ref a4, .ref a5, .ref a6, .ref a7, .ref a8, .ref a9, .ref a10, .ref a11, .ref a12, .ref a13, .ref a14])), (a9, .inl (cI, 6, .inl f9)), (a10, .inl (cI, 288, .inl f10)), (a11, .inl (cI, 30, .inl f11)), (a12, .inl (cI, 6, .inl f12)), (a13, .inl (cI, 4, .inl f13))] H := hP
      have hD : va_D A [(x0, .inr (7, [.ref tp, .ref rd, .ref bk, .ref fl, .ref pl])), (bk, .inr (0, [.int lc, .int ln, .ref a2, .ref a3, .ref a4, .ref a5, .ref a6, .ref a7, .ref a8, .ref a9, .ref a10, .ref a11, .ref a12, .ref a13, .ref a14])), (a9, .inl (cI, 6, .inl f9)), (a10, .inl (cI, 288, .inl f10)), (a11, .inl (cI, 30, .inl f11)), (a12, .inl (cI, 6, .inl f12)), (a13, .inl (cI, 4, .inl f13))] := hD
      rcases hw with ⟨rfl, h24⟩ | ⟨rfl, h24⟩
      · have h24 : (0 ≤ y3.toInt ∧ y3.toInt < 5) := h24
        refine lv_if_eq (tgt := 160) hx hb dX7_told_141 (by decide) (fun h9 => (by first | exact absurd h9 (by decide) | exact absurd (by decide) h9)) (fun c25 => ?_)
        refine lv_aload_n hx hb dX7_told_144 rfl (lv_at hl 0 rfl) ?_
        refine va_get (D := D) (ci := 7) (v := .ref bk) (C := RX7) (T := TX7) (N := 5) hx hb hts iw_k_told_7 hown hK hP 0 rfl rfl 2 (by decide) (hts (.fieldLink RX7 28 "FlightDesk" "book" "LFlightDesk$Book;") (by decide +kernel)) (fun _ h9 => h9) rfl dX7_told_145 ?_
        refine va_get (D := D) (ci := 0) (v := .ref a11) (C := RX0) (T := TX0) (N := 15) hx hb hts iw_k_told_0 hown hK hP 1 rfl rfl 11 (by decide) (hts (.fieldLink RX7 110 "FlightDesk$Book" "burn" "[I") (by decide +kernel)) (fun _ h9 => h9) rfl dX7_told_148 ?_
        refine lv_iload_n hx hb dX7_told_151 rfl (lv_at hl 2 rfl) ?_
        refine lv_iload_n hx hb dX7_told_152 rfl (lv_at hl 3 rfl) ?_
        have hPc := hP.sub (ws' := []) [] rfl
        have hDc := hD.sub (ws' := []) [] (by decide) rfl
        have hFc := va_free (wc := []) hD hS hA [] rfl
        refine va_calli (va_runS (As := [.int y2, .int y3]) (rest := [.ref a11]) ⟨hx, hb, hml, hown, hts⟩ (k_burnIndex l D cI cB cP H.size y2 y3 (show 0 ≤ y2.toInt ∧ y2.toInt ≤ 1000 by first | assumption | omega | decide) (show 0 ≤ y3.toInt ∧ y3.toInt ≤ 1000 by first | assumption | omega | decide)) (cwS 2 hts gw_k_told_2 rfl rfl rfl (by decide +kernel) ⟨Nat.le_of_ble_eq_true rfl, Nat.le_of_ble_eq_true rfl⟩) ⟨ny_blind, ny_pre hPc hK hN hDc⟩ rfl rfl hl.1 rfl (lv_room (Nat.le_of_ble_eq_true rfl)) dX7_told_153 ⟨Nat.le_of_ble_eq_true rfl, Nat.le_of_ble_eq_true rfl⟩) hS (fun q _ h => hFc q h) hFc (fun r26 u t H locs ht hvm hw hB hz1 hk1 hS => ?_)
        obtain ⟨hP, hD⟩ := va_join (wr := [(x0, .inr (7, [.ref tp, .ref rd, .ref bk, .ref fl, .ref pl])), (bk, .inr (0, [.int lc, .int ln, .ref a2, .ref a3, .ref a4, .ref a5, .ref a6, .ref a7, .ref a8, .ref a9, .ref a10, .ref a11, .ref a12, .ref a13, .ref a14])), (a9, .inl (cI, 6, .inl f9)), (a10, .inl (cI, 288, .inl f10)), (a11, .inl (cI, 30, .inl f11)), (a12, .inl (cI, 6, .inl f12)), (a13, .inl (cI, 4, .inl f13))]) (w1 := []) hP hD [] [0, 1, 2, 3, 4, 5, 6] rfl rfl (by decide) (by decide) hk1 hFc ny_P0 ny_D0
        have hP : va_P D vwCl [(x0, .inr (7, [.ref tp, .ref rd, .ref bk, .ref fl, .ref pl])), (bk, .inr (0, [.int lc, .int ln, .ref a2, .ref a3, .ref a4, .ref a5, .ref a6, .ref a7, .ref a8, .ref a9, .ref a10, .ref a11, .ref a12, .ref a13, .ref a14])), (a9, .inl (cI, 6, .inl f9)), (a10, .inl (cI, 288, .inl f10)), (a11, .inl (cI, 30, .inl f11)), (a12, .inl (cI, 6, .inl f12)), (a13, .inl (cI, 4, .inl f13))] H := hP
        have hD : va_D A [(x0, .inr (7, [.ref tp, .ref rd, .ref bk, .ref fl, .ref pl])), (bk, .inr (0, [.int lc, .int ln, .ref a2, .ref a3, .ref a4, .ref a5, .ref a6, .ref a7, .ref a8, .ref a9, .ref a10, .ref a11, .ref a12, .ref a13, .ref a14])), (a9, .inl (cI, 6, .inl f9)), (a10, .inl (cI, 288, .inl f10)), (a11, .inl (cI, 30, .inl f11)), (a12, .inl (cI, 6, .inl f12)), (a13, .inl (cI, 4, .inl f13))] := hD
        have hr26 : r26.toInt = y2.toInt * 5 + y3.toInt := hw
        refine va_iald hx hb hK hP 4 0 rfl rfl (vp_in_iff.mpr ⟨show 0 ≤ r26.toInt by omega, show r26.toInt < ((30 : Nat) : Int) by omega⟩) dX7_told_156 ?_
        refine lv_topi (fun v27 ev27 => ?_)
        refine lv_goto (tgt := 163) hx hb dX7_told_157 (by decide) ?_
        have hP9 := hP.sub (ws' := [(x0, .inr (7, [.ref tp, .ref rd, .ref bk, .ref fl, .ref pl])), (bk, .inr (0, [.int lc, .int ln, .ref a2, .ref a3, .ref a4, .ref a5, .ref a6, .ref a7, .ref a8, .ref a9, .ref a10, .ref a11, .ref a12, .ref a13, .ref a14])), (a9, .inl (cI, 6, .inl f9)), (a10, .inl (cI, 288, .inl f10)), (a11, .inl (cI, 30, .inl f11)), (a12, .inl (cI, 6, .inl f12)), (a13, .inl (cI, 4, .inl f13))]) [0, 1, 2, 3, 4, 5, 6] rfl
        have hD9 := hD.sub (ws' := [(x0, .inr (7, [.ref tp, .ref rd, .ref bk, .ref fl, .ref pl])), (bk, .inr (0, [.int lc, .int ln, .ref a2, .ref a3, .ref a4, .ref a5, .ref a6, .ref a7, .ref a8, .ref a9, .ref a10, .ref a11, .ref a12, .ref a13, .ref a14])), (a9, .inl (cI, 6, .inl f9)), (a10, .inl (cI, 288, .inl f10)), (a11, .inl (cI, 30, .inl f11)), (a12, .inl (cI, 6, .inl f12)), (a13, .inl (cI, 4, .inl f13))]) [0, 1, 2, 3, 4, 5, 6] (by decide) rfl
        refine W.widen (k := 0) (n := 0) (by decide) (by decide) ?_
        exact W.iret (v := v27) hx hb hr (fun t ht hW => ⟨⟨v27, (), rfl, (trivial), by rw [ht]; exact hP9, hD9⟩, hS.F ht⟩) hS.2.2 dX7_told_163
      · have h24 : ¬ (0 ≤ y3.toInt ∧ y3.toInt < 5) := h24
        refine lv_if_eq (tgt := 160) hx hb dX7_told_141 (by decide) (fun c28 => ?_) (fun h9 => (by first | exact absurd h9 (by decide) | exact absurd (by decide) h9))
        refine lv_sipush (v := (-1000)) hx hb dX7_told_160 (by decide) ?_
        have hP9 := hP.sub (ws' := [(x0, .inr (7, [.ref tp, .ref rd, .ref bk, .ref fl, .ref pl])), (bk, .inr (0, [.int lc, .int ln, .ref a2, .ref a3, .ref a4, .ref a5, .ref a6, .ref a7, .ref a8, .ref a9, .ref a10, .ref a11, .ref a12, .ref a13, .ref a14])), (a9, .inl (cI, 6, .inl f9)), (a10, .inl (cI, 288, .inl f10)), (a11, .inl (cI, 30, .inl f11)), (a12, .inl (cI, 6, .inl f12)), (a13, .inl (cI, 4, .inl f13))]) [0, 1, 2, 3, 4, 5, 6] rfl
        have hD9 := hD.sub (ws' := [(x0, .inr (7, [.ref tp, .ref rd, .ref bk, .ref fl, .ref pl])), (bk, .inr (0, [.int lc, .int ln, .ref a2, .ref a3, .ref a4, .ref a5, .ref a6, .ref a7, .ref a8, .ref a9, .ref a10, .ref a11, .ref a12, .ref a13, .ref a14])), (a9, .inl (cI, 6, .inl f9)), (a10, .inl (cI, 288, .inl f10)), (a11, .inl (cI, 30, .inl f11)), (a12, .inl (cI, 6, .inl f12)), (a13, .inl (cI, 4, .inl f13))]) [0, 1, 2, 3, 4, 5, 6] (by decide) rfl
        refine W.widen (k := 0) (n := 0) (by decide) (by decide) ?_
        exact W.iret (v := (-1000)) hx hb hr (fun t ht hW => ⟨⟨(-1000), (), rfl, (trivial), by rw [ht]; exact hP9, hD9⟩, hS.F ht⟩) hS.2.2 dX7_told_163
    · have h21 : ¬ (0 ≤ y2.toInt ∧ y2.toInt < 6) := h21
      refine lv_if_eq (tgt := 160) hx hb dX7_told_133 (by decide) (fun c29 => ?_) (fun h9 => (by first | exact absurd h9 (by decide) | exact absurd (by decide) h9))
      refine lv_sipush (v := (-1000)) hx hb dX7_told_160 (by decide) ?_
      have hP9 := hP.sub (ws' := [(x0, .inr (7, [.ref tp, .ref rd, .ref bk, .ref fl, .ref pl])), (bk, .inr (0, [.int lc, .int ln, .ref a2, .ref a3, .ref a4, .ref a5, .ref a6, .ref a7, .ref a8, .ref a9, .ref a10, .ref a11, .ref a12, .ref a13, .ref a14])), (a9, .inl (cI, 6, .inl f9)), (a10, .inl (cI, 288, .inl f10)), (a11, .inl (cI, 30, .inl f11)), (a12, .inl (cI, 6, .inl f12)), (a13, .inl (cI, 4, .inl f13))]) [0, 1, 2, 3, 4, 5, 6] rfl
      have hD9 := hD.sub (ws' := [(x0, .inr (7, [.ref tp, .ref rd, .ref bk, .ref fl, .ref pl])), (bk, .inr (0, [.int lc, .int ln, .ref a2, .ref a3, .ref a4, .ref a5, .ref a6, .ref a7, .ref a8, .ref a9, .ref a10, .ref a11, .ref a12, .ref a13, .ref a14])), (a9, .inl (cI, 6, .inl f9)), (a10, .inl (cI, 288, .inl f10)), (a11, .inl (cI, 30, .inl f11)), (a12, .inl (cI, 6, .inl f12)), (a13, .inl (cI, 4, .inl f13))]) [0, 1, 2, 3, 4, 5, 6] (by decide) rfl
      refine W.widen (k := 0) (n := 0) (by decide) (by decide) ?_
      exact W.iret (v := (-1000)) hx hb hr (fun t ht hW => ⟨⟨(-1000), (), rfl, (trivial), by rw [ht]; exact hP9, hD9⟩, hS.F ht⟩) hS.2.2 dX7_told_163
  · refine lv_tableIn (off := 163) (tgt := 164) hx hb dX7_told_1 (by decide) (by decide) (by decide) (by decide) ?_
    refine lv_iload_n hx hb dX7_told_164 rfl (lv_at hl 2 rfl) ?_
    refine lv_bipush (v := 6) hx hb dX7_told_165 (by decide) ?_
    have hPc := hP.sub (ws' := []) [] rfl
    have hDc := hD.sub (ws' := []) [] (by decide) rfl
    have hFc := va_free (wc := []) hD hS hA [] rfl
    refine va_calli (va_runS (As := [.int y2, .int 6]) (rest := []) ⟨hx, hb, hml, hown, hts⟩ (k_within l D cI cB cP s.heap.size y2 6) (cwS 2 hts gw_k_told_0 rfl rfl rfl (by decide +kernel) ⟨Nat.le_of_ble_eq_true rfl, Nat.le_of_ble_eq_true rfl⟩) ⟨ny_blind, ny_pre hPc hK hN hDc⟩ rfl rfl hl.1 rfl (lv_room (Nat.le_of_ble_eq_true rfl)) dX7_told_167 ⟨Nat.le_of_ble_eq_true rfl, Nat.le_of_ble_eq_true rfl⟩) hS (fun q _ h => hFc q h) hFc (fun r30 u t H locs ht hvm hw hB hz1 hk1 hS => ?_)
    obtain ⟨hP, hD⟩ := va_join (wr := [(x0, .inr (7, [.ref tp, .ref rd, .ref bk, .ref fl, .ref pl])), (bk, .inr (0, [.int lc, .int ln, .ref a2, .ref a3, .ref a4, .ref a5, .ref a6, .ref a7, .ref a8, .ref a9, .ref a10, .ref a11, .ref a12, .ref a13, .ref a14])), (a9, .inl (cI, 6, .inl f9)), (a10, .inl (cI, 288, .inl f10)), (a11, .inl (cI, 30, .inl f11)), (a12, .inl (cI, 6, .inl f12)), (a13, .inl (cI, 4, .inl f13))]) (w1 := []) hP hD [] [0, 1, 2, 3, 4, 5, 6] rfl rfl (by decide) (by decide) hk1 hFc ny_P0 ny_D0
    have hP : va_P D vwCl [(x0, .inr (7, [.ref tp, .ref rd, .ref bk, .ref fl, .ref pl])), (bk, .inr (0, [.int lc, .int ln, .ref a2, .ref a3, .ref a4, .ref a5, .ref a6, .ref a7, .ref a8, .ref a9, .ref a10, .ref a11, .ref a12, .ref a13, .ref a14])), (a9, .inl (cI, 6, .inl f9)), (a10, .inl (cI, 288, .inl f10)), (a11, .inl (cI, 30, .inl f11)), (a12, .inl (cI, 6, .inl f12)), (a13, .inl (cI, 4, .inl f13))] H := hP
    have hD : va_D A [(x0, .inr (7, [.ref tp, .ref rd, .ref bk, .ref fl, .ref pl])), (bk, .inr (0, [.int lc, .int ln, .ref a2, .ref a3, .ref a4, .ref a5, .ref a6, .ref a7, .ref a8, .ref a9, .ref a10, .ref a11, .ref a12, .ref a13, .ref a14])), (a9, .inl (cI, 6, .inl f9)), (a10, .inl (cI, 288, .inl f10)), (a11, .inl (cI, 30, .inl f11)), (a12, .inl (cI, 6, .inl f12)), (a13, .inl (cI, 4, .inl f13))] := hD
    rcases hw with ⟨rfl, h31⟩ | ⟨rfl, h31⟩
    · have h31 : (0 ≤ y2.toInt ∧ y2.toInt < 6) := h31
      refine lv_if_eq (tgt := 185) hx hb dX7_told_170 (by decide) (fun h9 => (by first | exact absurd h9 (by decide) | exact absurd (by decide) h9)) (fun c32 => ?_)
      refine lv_aload_n hx hb dX7_told_173 rfl (lv_at hl 0 rfl) ?_
      refine va_get (D := D) (ci := 7) (v := .ref bk) (C := RX7) (T := TX7) (N := 5) hx hb hts iw_k_told_7 hown hK hP 0 rfl rfl 2 (by decide) (hts (.fieldLink RX7 28 "FlightDesk" "book" "LFlightDesk$Book;") (by decide +kernel)) (fun _ h9 => h9) rfl dX7_told_174 ?_
      refine va_get (D := D) (ci := 0) (v := .ref a12) (C := RX0) (T := TX0) (N := 15) hx hb hts iw_k_told_0 hown hK hP 1 rfl rfl 12 (by decide) (hts (.fieldLink RX7 117 "FlightDesk$Book" "climb" "[I") (by decide +kernel)) (fun _ h9 => h9) rfl dX7_told_177 ?_
      refine lv_iload_n hx hb dX7_told_180 rfl (lv_at hl 2 rfl) ?_
      refine va_iald hx hb hK hP 5 0 rfl rfl (vp_in_iff.mpr ⟨show 0 ≤ y2.toInt by omega, show y2.toInt < ((6 : Nat) : Int) by omega⟩) dX7_told_181 ?_
      refine lv_topi (fun v33 ev33 => ?_)
      refine lv_goto (tgt := 188) hx hb dX7_told_182 (by decide) ?_
      have hP9 := hP.sub (ws' := [(x0, .inr (7, [.ref tp, .ref rd, .ref bk, .ref fl, .ref pl])), (bk, .inr (0, [.int lc, .int ln, .ref a2, .ref a3, .ref a4, .ref a5, .ref a6, .ref a7, .ref a8, .ref a9, .ref a10, .ref a11, .ref a12, .ref a13, .ref a14])), (a9, .inl (cI, 6, .inl f9)), (a10, .inl (cI, 288, .inl f10)), (a11, .inl (cI, 30, .inl f11)), (a12, .inl (cI, 6, .inl f12)), (a13, .inl (cI, 4, .inl f13))]) [0, 1, 2, 3, 4, 5, 6] rfl
      have hD9 := hD.sub (ws' := [(x0, .inr (7, [.ref tp, .ref rd, .ref bk, .ref fl, .ref pl])), (bk, .inr (0, [.int lc, .int ln, .ref a2, .ref a3, .ref a4, .ref a5, .ref a6, .ref a7, .ref a8, .ref a9, .ref a10, .ref a11, .ref a12, .ref a13, .ref a14])), (a9, .inl (cI, 6, .inl f9)), (a10, .inl (cI, 288, .inl f10)), (a11, .inl (cI, 30, .inl f11)), (a12, .inl (cI, 6, .inl f12)), (a13, .inl (cI, 4, .inl f13))]) [0, 1, 2, 3, 4, 5, 6] (by decide) rfl
      refine W.widen (k := 0) (n := 0) (by decide) (by decide) ?_
      exact W.iret (v := v33) hx hb hr (fun t ht hW => ⟨⟨v33, (), rfl, (trivial), by rw [ht]; exact hP9, hD9⟩, hS.F ht⟩) hS.2.2 dX7_told_188
    · have h31 : ¬ (0 ≤ y2.toInt ∧ y2.toInt < 6) := h31
      refine lv_if_eq (tgt := 185) hx hb dX7_told_170 (by decide) (fun c34 => ?_) (fun h9 => (by first | exact absurd h9 (by decide) | exact absurd (by decide) h9))
      refine lv_sipush (v := (-1000)) hx hb dX7_told_185 (by decide) ?_
      have hP9 := hP.sub (ws' := [(x0, .inr (7, [.ref tp, .ref rd, .ref bk, .ref fl, .ref pl])), (bk, .inr (0, [.int lc, .int ln, .ref a2, .ref a3, .ref a4, .ref a5, .ref a6, .ref a7, .ref a8, .ref a9, .ref a10, .ref a11, .ref a12, .ref a13, .ref a14])), (a9, .inl (cI, 6, .inl f9)), (a10, .inl (cI, 288, .inl f10)), (a11, .inl (cI, 30, .inl f11)), (a12, .inl (cI, 6, .inl f12)), (a13, .inl (cI, 4, .inl f13))]) [0, 1, 2, 3, 4, 5, 6] rfl
      have hD9 := hD.sub (ws' := [(x0, .inr (7, [.ref tp, .ref rd, .ref bk, .ref fl, .ref pl])), (bk, .inr (0, [.int lc, .int ln, .ref a2, .ref a3, .ref a4, .ref a5, .ref a6, .ref a7, .ref a8, .ref a9, .ref a10, .ref a11, .ref a12, .ref a13, .ref a14])), (a9, .inl (cI, 6, .inl f9)), (a10, .inl (cI, 288, .inl f10)), (a11, .inl (cI, 30, .inl f11)), (a12, .inl (cI, 6, .inl f12)), (a13, .inl (cI, 4, .inl f13))]) [0, 1, 2, 3, 4, 5, 6] (by decide) rfl
      refine W.widen (k := 0) (n := 0) (by decide) (by decide) ?_
      exact W.iret (v := (-1000)) hx hb hr (fun t ht hW => ⟨⟨(-1000), (), rfl, (trivial), by rw [ht]; exact hP9, hD9⟩, hS.F ht⟩) hS.2.2 dX7_told_188
  · refine lv_tableIn (off := 188) (tgt := 189) hx hb dX7_told_1 (by decide) (by decide) (by decide) (by decide) ?_
    refine lv_aload_n hx hb dX7_told_189 rfl (lv_at hl 0 rfl) ?_
    refine va_get (D := D) (ci := 7) (v := .ref bk) (C := RX7) (T := TX7) (N := 5) hx hb hts iw_k_told_7 hown hK hP 0 rfl rfl 2 (by decide) (hts (.fieldLink RX7 28 "FlightDesk" "book" "LFlightDesk$Book;") (by decide +kernel)) (fun _ h9 => h9) rfl dX7_told_190 ?_
    refine va_get (D := D) (ci := 0) (v := .ref a13) (C := RX0) (T := TX0) (N := 15) hx hb hts iw_k_told_0 hown hK hP 1 rfl rfl 13 (by decide) (hts (.fieldLink RX7 120 "FlightDesk$Book" "limit" "[I") (by decide +kernel)) (fun _ h9 => h9) rfl dX7_told_193 ?_
    refine lv_iconst (v := 0) hx hb dX7_told_196 (by decide) ?_
    refine va_iald hx hb hK hP 6 0 rfl rfl (show ¬ (_ ∨ _) by decide) dX7_told_197 ?_
    refine lv_topi (fun v35 ev35 => ?_)
    have hP9 := hP.sub (ws' := [(x0, .inr (7, [.ref tp, .ref rd, .ref bk, .ref fl, .ref pl])), (bk, .inr (0, [.int lc, .int ln, .ref a2, .ref a3, .ref a4, .ref a5, .ref a6, .ref a7, .ref a8, .ref a9, .ref a10, .ref a11, .ref a12, .ref a13, .ref a14])), (a9, .inl (cI, 6, .inl f9)), (a10, .inl (cI, 288, .inl f10)), (a11, .inl (cI, 30, .inl f11)), (a12, .inl (cI, 6, .inl f12)), (a13, .inl (cI, 4, .inl f13))]) [0, 1, 2, 3, 4, 5, 6] rfl
    have hD9 := hD.sub (ws' := [(x0, .inr (7, [.ref tp, .ref rd, .ref bk, .ref fl, .ref pl])), (bk, .inr (0, [.int lc, .int ln, .ref a2, .ref a3, .ref a4, .ref a5, .ref a6, .ref a7, .ref a8, .ref a9, .ref a10, .ref a11, .ref a12, .ref a13, .ref a14])), (a9, .inl (cI, 6, .inl f9)), (a10, .inl (cI, 288, .inl f10)), (a11, .inl (cI, 30, .inl f11)), (a12, .inl (cI, 6, .inl f12)), (a13, .inl (cI, 4, .inl f13))]) [0, 1, 2, 3, 4, 5, 6] (by decide) rfl
    refine W.widen (k := 0) (n := 0) (by decide) (by decide) ?_
    exact W.iret (v := v35) hx hb hr (fun t ht hW => ⟨⟨v35, (), rfl, (trivial), by rw [ht]; exact hP9, hD9⟩, hS.F ht⟩) hS.2.2 dX7_told_198
  · refine lv_tableIn (off := 198) (tgt := 199) hx hb dX7_told_1 (by decide) (by decide) (by decide) (by decide) ?_
    refine lv_aload_n hx hb dX7_told_199 rfl (lv_at hl 0 rfl) ?_
    refine va_get (D := D) (ci := 7) (v := .ref bk) (C := RX7) (T := TX7) (N := 5) hx hb hts iw_k_told_7 hown hK hP 0 rfl rfl 2 (by decide) (hts (.fieldLink RX7 28 "FlightDesk" "book" "LFlightDesk$Book;") (by decide +kernel)) (fun _ h9 => h9) rfl dX7_told_200 ?_
    refine va_get (D := D) (ci := 0) (v := .ref a13) (C := RX0) (T := TX0) (N := 15) hx hb hts iw_k_told_0 hown hK hP 1 rfl rfl 13 (by decide) (hts (.fieldLink RX7 120 "FlightDesk$Book" "limit" "[I") (by decide +kernel)) (fun _ h9 => h9) rfl dX7_told_203 ?_
    refine lv_iconst (v := 1) hx hb dX7_told_206 (by decide) ?_
    refine va_iald hx hb hK hP 6 0 rfl rfl (show ¬ (_ ∨ _) by decide) dX7_told_207 ?_
    refine lv_topi (fun v36 ev36 => ?_)
    have hP9 := hP.sub (ws' := [(x0, .inr (7, [.ref tp, .ref rd, .ref bk, .ref fl, .ref pl])), (bk, .inr (0, [.int lc, .int ln, .ref a2, .ref a3, .ref a4, .ref a5, .ref a6, .ref a7, .ref a8, .ref a9, .ref a10, .ref a11, .ref a12, .ref a13, .ref a14])), (a9, .inl (cI, 6, .inl f9)), (a10, .inl (cI, 288, .inl f10)), (a11, .inl (cI, 30, .inl f11)), (a12, .inl (cI, 6, .inl f12)), (a13, .inl (cI, 4, .inl f13))]) [0, 1, 2, 3, 4, 5, 6] rfl
    have hD9 := hD.sub (ws' := [(x0, .inr (7, [.ref tp, .ref rd, .ref bk, .ref fl, .ref pl])), (bk, .inr (0, [.int lc, .int ln, .ref a2, .ref a3, .ref a4, .ref a5, .ref a6, .ref a7, .ref a8, .ref a9, .ref a10, .ref a11, .ref a12, .ref a13, .ref a14])), (a9, .inl (cI, 6, .inl f9)), (a10, .inl (cI, 288, .inl f10)), (a11, .inl (cI, 30, .inl f11)), (a12, .inl (cI, 6, .inl f12)), (a13, .inl (cI, 4, .inl f13))]) [0, 1, 2, 3, 4, 5, 6] (by decide) rfl
    refine W.widen (k := 0) (n := 0) (by decide) (by decide) ?_
    exact W.iret (v := v36) hx hb hr (fun t ht hW => ⟨⟨v36, (), rfl, (trivial), by rw [ht]; exact hP9, hD9⟩, hS.F ht⟩) hS.2.2 dX7_told_208
  · refine lv_tableIn (off := 208) (tgt := 209) hx hb dX7_told_1 (by decide) (by decide) (by decide) (by decide) ?_
    refine lv_aload_n hx hb dX7_told_209 rfl (lv_at hl 0 rfl) ?_
    refine va_get (D := D) (ci := 7) (v := .ref bk) (C := RX7) (T := TX7) (N := 5) hx hb hts iw_k_told_7 hown hK hP 0 rfl rfl 2 (by decide) (hts (.fieldLink RX7 28 "FlightDesk" "book" "LFlightDesk$Book;") (by decide +kernel)) (fun _ h9 => h9) rfl dX7_told_210 ?_
    refine va_get (D := D) (ci := 0) (v := .ref a13) (C := RX0) (T := TX0) (N := 15) hx hb hts iw_k_told_0 hown hK hP 1 rfl rfl 13 (by decide) (hts (.fieldLink RX7 120 "FlightDesk$Book" "limit" "[I") (by decide +kernel)) (fun _ h9 => h9) rfl dX7_told_213 ?_
    refine lv_iconst (v := 2) hx hb dX7_told_216 (by decide) ?_
    refine va_iald hx hb hK hP 6 0 rfl rfl (show ¬ (_ ∨ _) by decide) dX7_told_217 ?_
    refine lv_topi (fun v37 ev37 => ?_)
    have hP9 := hP.sub (ws' := [(x0, .inr (7, [.ref tp, .ref rd, .ref bk, .ref fl, .ref pl])), (bk, .inr (0, [.int lc, .int ln, .ref a2, .ref a3, .ref a4, .ref a5, .ref a6, .ref a7, .ref a8, .ref a9, .ref a10, .ref a11, .ref a12, .ref a13, .ref a14])), (a9, .inl (cI, 6, .inl f9)), (a10, .inl (cI, 288, .inl f10)), (a11, .inl (cI, 30, .inl f11)), (a12, .inl (cI, 6, .inl f12)), (a13, .inl (cI, 4, .inl f13))]) [0, 1, 2, 3, 4, 5, 6] rfl
    have hD9 := hD.sub (ws' := [(x0, .inr (7, [.ref tp, .ref rd, .ref bk, .ref fl, .ref pl])), (bk, .inr (0, [.int lc, .int ln, .ref a2, .ref a3, .ref a4, .ref a5, .ref a6, .ref a7, .ref a8, .ref a9, .ref a10, .ref a11, .ref a12, .ref a13, .ref a14])), (a9, .inl (cI, 6, .inl f9)), (a10, .inl (cI, 288, .inl f10)), (a11, .inl (cI, 30, .inl f11)), (a12, .inl (cI, 6, .inl f12)), (a13, .inl (cI, 4, .inl f13))]) [0, 1, 2, 3, 4, 5, 6] (by decide) rfl
    refine W.widen (k := 0) (n := 0) (by decide) (by decide) ?_
    exact W.iret (v := v37) hx hb hr (fun t ht hW => ⟨⟨v37, (), rfl, (trivial), by rw [ht]; exact hP9, hD9⟩, hS.F ht⟩) hS.2.2 dX7_told_218
  · refine lv_tableIn (off := 218) (tgt := 219) hx hb dX7_told_1 (by decide) (by decide) (by decide) (by decide) ?_
    refine lv_aload_n hx hb dX7_told_219 rfl (lv_at hl 0 rfl) ?_
    refine va_get (D := D) (ci := 7) (v := .ref bk) (C := RX7) (T := TX7) (N := 5) hx hb hts iw_k_told_7 hown hK hP 0 rfl rfl 2 (by decide) (hts (.fieldLink RX7 28 "FlightDesk" "book" "LFlightDesk$Book;") (by decide +kernel)) (fun _ h9 => h9) rfl dX7_told_220 ?_
    refine va_get (D := D) (ci := 0) (v := .ref a13) (C := RX0) (T := TX0) (N := 15) hx hb hts iw_k_told_0 hown hK hP 1 rfl rfl 13 (by decide) (hts (.fieldLink RX7 120 "FlightDesk$Book" "limit" "[I") (by decide +kernel)) (fun _ h9 => h9) rfl dX7_told_223 ?_
    refine lv_iconst (v := 3) hx hb dX7_told_226 (by decide) ?_
    refine va_iald hx hb hK hP 6 0 rfl rfl (show ¬ (_ ∨ _) by decide) dX7_told_227 ?_
    refine lv_topi (fun v38 ev38 => ?_)
    have hP9 := hP.sub (ws' := [(x0, .inr (7, [.ref tp, .ref rd, .ref bk, .ref fl, .ref pl])), (bk, .inr (0, [.int lc, .int ln, .ref a2, .ref a3, .ref a4, .ref a5, .ref a6, .ref a7, .ref a8, .ref a9, .ref a10, .ref a11, .ref a12, .ref a13, .ref a14])), (a9, .inl (cI, 6, .inl f9)), (a10, .inl (cI, 288, .inl f10)), (a11, .inl (cI, 30, .inl f11)), (a12, .inl (cI, 6, .inl f12)), (a13, .inl (cI, 4, .inl f13))]) [0, 1, 2, 3, 4, 5, 6] rfl
    have hD9 := hD.sub (ws' := [(x0, .inr (7, [.ref tp, .ref rd, .ref bk, .ref fl, .ref pl])), (bk, .inr (0, [.int lc, .int ln, .ref a2, .ref a3, .ref a4, .ref a5, .ref a6, .ref a7, .ref a8, .ref a9, .ref a10, .ref a11, .ref a12, .ref a13, .ref a14])), (a9, .inl (cI, 6, .inl f9)), (a10, .inl (cI, 288, .inl f10)), (a11, .inl (cI, 30, .inl f11)), (a12, .inl (cI, 6, .inl f12)), (a13, .inl (cI, 4, .inl f13))]) [0, 1, 2, 3, 4, 5, 6] (by decide) rfl
    refine W.widen (k := 0) (n := 0) (by decide) (by decide) ?_
    exact W.iret (v := v38) hx hb hr (fun t ht hW => ⟨⟨v38, (), rfl, (trivial), by rw [ht]; exact hP9, hD9⟩, hS.F ht⟩) hS.2.2 dX7_told_228
  · refine lv_tableOut (tgt := 229) hx hb dX7_told_1 h9 (by decide) ?_
    refine lv_sipush (v := (-1000)) hx hb dX7_told_229 (by decide) ?_
    have hP9 := hP.sub (ws' := [(x0, .inr (7, [.ref tp, .ref rd, .ref bk, .ref fl, .ref pl])), (bk, .inr (0, [.int lc, .int ln, .ref a2, .ref a3, .ref a4, .ref a5, .ref a6, .ref a7, .ref a8, .ref a9, .ref a10, .ref a11, .ref a12, .ref a13, .ref a14])), (a9, .inl (cI, 6, .inl f9)), (a10, .inl (cI, 288, .inl f10)), (a11, .inl (cI, 30, .inl f11)), (a12, .inl (cI, 6, .inl f12)), (a13, .inl (cI, 4, .inl f13))]) [0, 1, 2, 3, 4, 5, 6] rfl
    have hD9 := hD.sub (ws' := [(x0, .inr (7, [.ref tp, .ref rd, .ref bk, .ref fl, .ref pl])), (bk, .inr (0, [.int lc, .int ln, .ref a2, .ref a3, .ref a4, .ref a5, .ref a6, .ref a7, .ref a8, .ref a9, .ref a10, .ref a11, .ref a12, .ref a13, .ref a14])), (a9, .inl (cI, 6, .inl f9)), (a10, .inl (cI, 288, .inl f10)), (a11, .inl (cI, 30, .inl f11)), (a12, .inl (cI, 6, .inl f12)), (a13, .inl (cI, 4, .inl f13))]) [0, 1, 2, 3, 4, 5, 6] (by decide) rfl
    refine W.widen (k := 0) (n := 0) (by decide) (by decide) ?_
    exact W.iret (v := (-1000)) hx hb hr (fun t ht hW => ⟨⟨(-1000), (), rfl, (trivial), by rw [ht]; exact hP9, hD9⟩, hS.F ht⟩) hS.2.2 dX7_told_232

def wk_k_minutes : List Cond := .code yX7_minutes cX7_minutes 4 (some .int) :: ([.fieldLink RX7 40 "FlightDesk" "flight" "LFlightDesk$Flight;", .fieldLink RX7 75 "FlightDesk$Flight" "isSet" "Z", .fieldLink RX7 28 "FlightDesk" "book" "LFlightDesk$Book;", .fieldLink RX7 82 "FlightDesk$Book" "legCount" "I", .methodLink RX7 91 yX7_within, .static yX7_within, .initialized RX7, .code yX7_within cX7_within 2 (some .boolean), .methodLink RX7 123 yX1_minutesOf, .instanceMethod yX1_minutesOf, .selects RX1 yX1_minutesOf yX1_minutesOf, .initialized RX1, .code yX1_minutesOf cX1_minutesOf 6 (some .int), .fieldLink RX1 9 "FlightDesk$Flight" "book" "LFlightDesk$Book;", .fieldLink RX1 41 "FlightDesk$Book" "lowest" "[I", .fieldLink RX1 53 "FlightDesk$Book" "speed" "[I", .fieldLink RX1 56 "FlightDesk$Book" "wind" "[I", .static yX7_windIndex, .code yX7_windIndex cX7_windIndex 3 (some .int), .fieldLink RX1 44 "FlightDesk$Book" "highest" "[I", .fieldLink RX1 26 "FlightDesk$Flight" "day" "I", .fieldLink RX1 47 "FlightDesk$Book" "firstDay" "[I", .fieldLink RX1 50 "FlightDesk$Book" "lastDay" "[I", .fieldLink RX1 63 "FlightDesk$Book" "miles" "[I"] ++ wsX70 ++ wsX10 ++ wsX00)
theorem iw_k_minutes_7 : ∀ w ∈ wsX70, w ∈ wk_k_minutes := fun _ h => List.mem_cons_of_mem _ (List.mem_append_left _ (List.mem_append_left _ (List.mem_append_right _ h)))
theorem iw_k_minutes_1 : ∀ w ∈ wsX10, w ∈ wk_k_minutes := fun _ h => List.mem_cons_of_mem _ (List.mem_append_left _ (List.mem_append_right _ h))
theorem iw_k_minutes_0 : ∀ w ∈ wsX00, w ∈ wk_k_minutes := fun _ h => List.mem_cons_of_mem _ (List.mem_append_right _ h)
set_option maxRecDepth 20000 in
theorem gw_k_minutes_0 : GoodIn wk_k_minutes (wsS RX7 91 yX7_within wk_k_within) := goodIn_sub (by decide +kernel) (by decide +kernel)
set_option maxRecDepth 20000 in
theorem gw_k_minutes_1 : GoodIn wk_k_minutes (wsV RX7 123 RX1 yX1_minutesOf wk_k_minutesOf) := goodIn_sub (by decide +kernel) (by decide +kernel)
set_option maxHeartbeats 4000000 in
set_option maxRecDepth 100000 in
theorem k_minutes (l : Launch) (D : va_G) (cI cB cP : ClassId) (sz : Nat) (x0 : Nat) (tp : Nat) (rd : Nat) (bk : Nat) (fl : Nat) (pl : Nat) (lc : Int32) (ln : Int32) (a2 : Nat) (a3 : Nat) (a4 : Nat) (a5 : Nat) (a6 : Nat) (a7 : Nat) (a8 : Nat) (a9 : Nat) (a10 : Nat) (a11 : Nat) (a12 : Nat) (a13 : Nat) (a14 : Nat) (fi : Int32) (ff : Int32) (ft : Int32) (fd : Int32) (fr : Int32) (fw : Int32) (y1 : Int32) (y2 : Int32) (y3 : Int32) (f4 : Nat → Int32) (f5 : Nat → Int32) (f6 : Nat → Int32) (f7 : Nat → Int32) (f8 : Nat → Int32) (f9 : Nat → Int32) (f10 : Nat → Int32) (hlc9 : 0 ≤ lc.toInt ∧ lc.toInt ≤ 16) (r49 : ∀ k : Nat, k < 16 → 0 ≤ (f4 k).toInt ∧ (f4 k).toInt ≤ 999) (r59 : ∀ k : Nat, k < 16 → 0 ≤ (f5 k).toInt ∧ (f5 k).toInt ≤ 5) (r69 : ∀ k : Nat, k < 16 → 0 ≤ (f6 k).toInt ∧ (f6 k).toInt ≤ 5) (r79 : ∀ k : Nat, k < 16 → 0 ≤ (f7 k).toInt ∧ (f7 k).toInt ≤ 999) (r89 : ∀ k : Nat, k < 16 → 0 ≤ (f8 k).toInt ∧ (f8 k).toInt ≤ 999) (r99 : ∀ k : Nat, k < 6 → (f9 k).toInt = (-1000) ∨ (100 ≤ (f9 k).toInt ∧ (f9 k).toInt ≤ 999)) (r109 : ∀ k : Nat, k < 288 → (f10 k).toInt = (-1000) ∨ ((-400) ≤ (f10 k).toInt ∧ (f10 k).toInt ≤ 400)) : Met l yX7_minutes wk_k_minutes ({ frames := 2, cells := 0, slots := 0, locals := 47 } : Room) (va_Pc [.ref x0, .int y1, .int y2, .int y3] (Pw D cI cB cP sz [(x0, .inr (7, [.ref tp, .ref rd, .ref bk, .ref fl, .ref pl])), (bk, .inr (0, [.int lc, .int ln, .ref a2, .ref a3, .ref a4, .ref a5, .ref a6, .ref a7, .ref a8, .ref a9, .ref a10, .ref a11, .ref a12, .ref a13, .ref a14])), (fl, .inr (1, [.ref bk, .int fi, .int ff, .int ft, .int fd, .int fr, .int fw])), (a4, .inl (cI, 16, .inl f4)), (a5, .inl (cI, 16, .inl f5)), (a6, .inl (cI, 16, .inl f6)), (a7, .inl (cI, 16, .inl f7)), (a8, .inl (cI, 16, .inl f8)), (a9, .inl (cI, 6, .inl f9)), (a10, .inl (cI, 288, .inl f10))])) (va_Qi (fun (r : Int32) (_ : Unit) => r.toInt = (-1) ∨ (0 ≤ r.toInt ∧ r.toInt ≤ 1300 ∧ 0 ≤ y2.toInt ∧ y2.toInt ≤ 5)) (fun _ t => va_P D vwCl [(x0, .inr (7, [.ref tp, .ref rd, .ref bk, .ref fl, .ref pl])), (bk, .inr (0, [.int lc, .int ln, .ref a2, .ref a3, .ref a4, .ref a5, .ref a6, .ref a7, .ref a8, .ref a9, .ref a10, .ref a11, .ref a12, .ref a13, .ref a14])), (fl, .inr (1, [.ref bk, .int fi, .int ff, .int ft, .int fd, .int fr, .int fw])), (a4, .inl (cI, 16, .inl f4)), (a5, .inl (cI, 16, .inl f5)), (a6, .inl (cI, 16, .inl f6)), (a7, .inl (cI, 16, .inl f7)), (a8, .inl (cI, 16, .inl f8)), (a9, .inl (cI, 6, .inl f9)), (a10, .inl (cI, 288, .inl f10))] t.heap ∧ va_D (va_A [(x0, .inr (7, [.ref tp, .ref rd, .ref bk, .ref fl, .ref pl])), (bk, .inr (0, [.int lc, .int ln, .ref a2, .ref a3, .ref a4, .ref a5, .ref a6, .ref a7, .ref a8, .ref a9, .ref a10, .ref a11, .ref a12, .ref a13, .ref a14])), (fl, .inr (1, [.ref bk, .int fi, .int ff, .int ft, .int fd, .int fr, .int fw])), (a4, .inl (cI, 16, .inl f4)), (a5, .inl (cI, 16, .inl f5)), (a6, .inl (cI, 16, .inl f6)), (a7, .inl (cI, 16, .inl f7)), (a8, .inl (cI, 16, .inl f8)), (a9, .inl (cI, 6, .inl f9)), (a10, .inl (cI, 288, .inl f10))] sz) [(x0, .inr (7, [.ref tp, .ref rd, .ref bk, .ref fl, .ref pl])), (bk, .inr (0, [.int lc, .int ln, .ref a2, .ref a3, .ref a4, .ref a5, .ref a6, .ref a7, .ref a8, .ref a9, .ref a10, .ref a11, .ref a12, .ref a13, .ref a14])), (fl, .inr (1, [.ref bk, .int fi, .int ff, .int ft, .int fd, .int fr, .int fw])), (a4, .inl (cI, 16, .inl f4)), (a5, .inl (cI, 16, .inl f5)), (a6, .inl (cI, 16, .inl f6)), (a7, .inl (cI, 16, .inl f7)), (a8, .inl (cI, 16, .inl f8)), (a9, .inl (cI, 6, .inl f9)), (a10, .inl (cI, 288, .inl f10))]) (va_A [(x0, .inr (7, [.ref tp, .ref rd, .ref bk, .ref fl, .ref pl])), (bk, .inr (0, [.int lc, .int ln, .ref a2, .ref a3, .ref a4, .ref a5, .ref a6, .ref a7, .ref a8, .ref a9, .ref a10, .ref a11, .ref a12, .ref a13, .ref a14])), (fl, .inr (1, [.ref bk, .int fi, .int ff, .int ft, .int fd, .int fr, .int fw])), (a4, .inl (cI, 16, .inl f4)), (a5, .inl (cI, 16, .inl f5)), (a6, .inl (cI, 16, .inl f6)), (a7, .inl (cI, 16, .inl f7)), (a8, .inl (cI, 16, .inl f8)), (a9, .inl (cI, 6, .inl f9)), (a10, .inl (cI, 288, .inl f10))] sz)) 0 0 (va_A [(x0, .inr (7, [.ref tp, .ref rd, .ref bk, .ref fl, .ref pl])), (bk, .inr (0, [.int lc, .int ln, .ref a2, .ref a3, .ref a4, .ref a5, .ref a6, .ref a7, .ref a8, .ref a9, .ref a10, .ref a11, .ref a12, .ref a13, .ref a14])), (fl, .inr (1, [.ref bk, .int fi, .int ff, .int ft, .int fd, .int fr, .int fw])), (a4, .inl (cI, 16, .inl f4)), (a5, .inl (cI, 16, .inl f5)), (a6, .inl (cI, 16, .inl f6)), (a7, .inl (cI, 16, .inl f7)), (a8, .inl (cI, 16, .inl f8)), (a9, .inl (cI, 6, .inl f9)), (a10, .inl (cI, 288, .inl f10))] sz) := by
  refine Met.ofW (cc := cX7_minutes) (maxL := 4) (ret := (some .int)) (by decide) rfl ?_
  intro p e s m args below meth c s₁ B hml hv
  obtain ⟨rfl, hsz, hP, ⟨hK, hN⟩, hD0⟩ := hv
  have hx := B.exec
  have hb := B.bytes
  have hr := B.returns
  have hts := atoms_spec (ws := wk_k_minutes) B.pre
  have hown : s.vm.findClass RX7 = some m.cls := findClass_of_methodNamed B.named
  have hlocks := B.notSynchronized
  subst hsz
  have hD := hD0.self (sz := s.heap.size)
  generalize hAe : va_A [(x0, .inr (7, [.ref tp, .ref rd, .ref bk, .ref fl, .ref pl])), (bk, .inr (0, [.int lc, .int ln, .ref a2, .ref a3, .ref a4, .ref a5, .ref a6, .ref a7, .ref a8, .ref a9, .ref a10, .ref a11, .ref a12, .ref a13, .ref a14])), (fl, .inr (1, [.ref bk, .int fi, .int ff, .int ft, .int fd, .int fr, .int fw])), (a4, .inl (cI, 16, .inl f4)), (a5, .inl (cI, 16, .inl f5)), (a6, .inl (cI, 16, .inl f6)), (a7, .inl (cI, 16, .inl f7)), (a8, .inl (cI, 16, .inl f8)), (a9, .inl (cI, 6, .inl f9)), (a10, .inl (cI, 288, .inl f10))] s.heap.size = A at hD ⊢
  have hA : ∀ q : Nat, s.heap.size ≤ q → A q := fun q h => by rw [← hAe]; exact Or.inr h
  have hS : va_S A s.heap s.heap [] := va_S.rf
  have hP : va_P D vwCl [(x0, .inr (7, [.ref tp, .ref rd, .ref bk, .ref fl, .ref pl])), (bk, .inr (0, [.int lc, .int ln, .ref a2, .ref a3, .ref a4, .ref a5, .ref a6, .ref a7, .ref a8, .ref a9, .ref a10, .ref a11, .ref a12, .ref a13, .ref a14])), (fl, .inr (1, [.ref bk, .int fi, .int ff, .int ft, .int fd, .int fr, .int fw])), (a4, .inl (cI, 16, .inl f4)), (a5, .inl (cI, 16, .inl f5)), (a6, .inl (cI, 16, .inl f6)), (a7, .inl (cI, 16, .inl f7)), (a8, .inl (cI, 16, .inl f8)), (a9, .inl (cI, 6, .inl f9)), (a10, .inl (cI, 288, .inl f10))] s.heap := hP
  have hl := lv_entry ([.ref x0, .int y1, .int y2, .int y3]) (n := 4) (Nat.le_of_ble_eq_true rfl)
  rw [lg_entry_eq]
  generalize (lg_sl ([.ref x0, .int y1, .int y2, .int y3]) ++ List.replicate (4 - (lg_sl ([.ref x0, .int y1, .int y2, .int y3])).length) Slot.unset).toArray = ls at hl ⊢
  have hl : lv_has ls 4 [(0, .ref x0), (1, .int y1), (2, .int y2), (3, .int y3)] := hl
  refine lv_aload_n hx hb dX7_minutes_0 rfl (lv_at hl 0 rfl) ?_
  refine va_get (D := D) (ci := 7) (v := .ref fl) (C := RX7) (T := TX7) (N := 5) hx hb hts iw_k_minutes_7 hown hK hP 0 rfl rfl 3 (by decide) (hts (.fieldLink RX7 40 "FlightDesk" "flight" "LFlightDesk$Flight;") (by decide +kernel)) (fun _ h9 => h9) rfl dX7_minutes_1 ?_
  refine va_get (D := D) (ci := 1) (v := .int fi) (C := RX1) (T := TX1) (N := 7) hx hb hts iw_k_minutes_1 hown hK hP 2 rfl rfl 1 (by decide) (hts (.fieldLink RX7 75 "FlightDesk$Flight" "isSet" "Z") (by decide +kernel)) (fun _ h9 => h9) rfl dX7_minutes_4 ?_
  refine lv_if_eq (tgt := 41) hx hb dX7_minutes_7 (by decide) (fun c1 => ?_) (fun c1 => ?_)
  · have tc1 : fi.toInt = 0 := i32_eq c1
    refine lv_iconst (v := (-1)) hx hb dX7_minutes_41 (by decide) ?_
    have hP9 := hP.sub (ws' := [(x0, .inr (7, [.ref tp, .ref rd, .ref bk, .ref fl, .ref pl])), (bk, .inr (0, [.int lc, .int ln, .ref a2, .ref a3, .ref a4, .ref a5, .ref a6, .ref a7, .ref a8, .ref a9, .ref a10, .ref a11, .ref a12, .ref a13, .ref a14])), (fl, .inr (1, [.ref bk, .int fi, .int ff, .int ft, .int fd, .int fr, .int fw])), (a4, .inl (cI, 16, .inl f4)), (a5, .inl (cI, 16, .inl f5)), (a6, .inl (cI, 16, .inl f6)), (a7, .inl (cI, 16, .inl f7)), (a8, .inl (cI, 16, .inl f8)), (a9, .inl (cI, 6, .inl f9)), (a10, .inl (cI, 288, .inl f10))]) [0, 1, 2, 3, 4, 5, 6, 7, 8, 9] rfl
    have hD9 := hD.sub (ws' := [(x0, .inr (7, [.ref tp, .ref rd, .ref bk, .ref fl, .ref pl])), (bk, .inr (0, [.int lc, .int ln, .ref a2, .ref a3, .ref a4, .ref a5, .ref a6, .ref a7, .ref a8, .ref a9, .ref a10, .ref a11, .ref a12, .ref a13, .ref a14])), (fl, .inr (1, [.ref bk, .int fi, .int ff, .int ft, .int fd, .int fr, .int fw])), (a4, .inl (cI, 16, .inl f4)), (a5, .inl (cI, 16, .inl f5)), (a6, .inl (cI, 16, .inl f6)), (a7, .inl (cI, 16, .inl f7)), (a8, .inl (cI, 16, .inl f8)), (a9, .inl (cI, 6, .inl f9)), (a10, .inl (cI, 288, .inl f10))]) [0, 1, 2, 3, 4, 5, 6, 7, 8, 9] (by decide) rfl
    refine W.widen (k := 0) (n := 0) (by decide) (by decide) ?_
    exact W.iret (v := (-1)) hx hb hr (fun t ht hW => ⟨⟨(-1), (), rfl, (show (-1) = (-1) ∨ (0 ≤ (-1) ∧ (-1) ≤ 1300 ∧ 0 ≤ y2.toInt ∧ y2.toInt ≤ 5) by first | assumption | omega | trivial | decide), by rw [ht]; exact hP9, hD9⟩, hS.F ht⟩) hS.2.2 dX7_minutes_42
  · have tc1 : ¬ (fi.toInt = 0) := i32_neq c1
    refine lv_iload_n hx hb dX7_minutes_10 rfl (lv_at hl 1 rfl) ?_
    refine lv_aload_n hx hb dX7_minutes_11 rfl (lv_at hl 0 rfl) ?_
    refine va_get (D := D) (ci := 7) (v := .ref bk) (C := RX7) (T := TX7) (N := 5) hx hb hts iw_k_minutes_7 hown hK hP 0 rfl rfl 2 (by decide) (hts (.fieldLink RX7 28 "FlightDesk" "book" "LFlightDesk$Book;") (by decide +kernel)) (fun _ h9 => h9) rfl dX7_minutes_12 ?_
    refine va_get (D := D) (ci := 0) (v := .int lc) (C := RX0) (T := TX0) (N := 15) hx hb hts iw_k_minutes_0 hown hK hP 1 rfl rfl 0 (by decide) (hts (.fieldLink RX7 82 "FlightDesk$Book" "legCount" "I") (by decide +kernel)) (fun _ h9 => h9) rfl dX7_minutes_15 ?_
    have hPc := hP.sub (ws' := []) [] rfl
    have hDc := hD.sub (ws' := []) [] (by decide) rfl
    have hFc := va_free (wc := []) hD hS hA [] rfl
    refine va_calli (va_runS (As := [.int y1, .int lc]) (rest := []) ⟨hx, hb, hml, hown, hts⟩ (k_within l D cI cB cP s.heap.size y1 lc) (cwS 2 hts gw_k_minutes_0 rfl rfl rfl (by decide +kernel) ⟨Nat.le_of_ble_eq_true rfl, Nat.le_of_ble_eq_true rfl⟩) ⟨ny_blind, ny_pre hPc hK hN hDc⟩ rfl rfl hl.1 rfl (lv_room (Nat.le_of_ble_eq_true rfl)) dX7_minutes_18 ⟨Nat.le_of_ble_eq_true rfl, Nat.le_of_ble_eq_true rfl⟩) hS (fun q _ h => hFc q h) hFc (fun r2 u t H locs ht hvm hw hB hz1 hk1 hS => ?_)
    obtain ⟨hP, hD⟩ := va_join (wr := [(x0, .inr (7, [.ref tp, .ref rd, .ref bk, .ref fl, .ref pl])), (bk, .inr (0, [.int lc, .int ln, .ref a2, .ref a3, .ref a4, .ref a5, .ref a6, .ref a7, .ref a8, .ref a9, .ref a10, .ref a11, .ref a12, .ref a13, .ref a14])), (fl, .inr (1, [.ref bk, .int fi, .int ff, .int ft, .int fd, .int fr, .int fw])), (a4, .inl (cI, 16, .inl f4)), (a5, .inl (cI, 16, .inl f5)), (a6, .inl (cI, 16, .inl f6)), (a7, .inl (cI, 16, .inl f7)), (a8, .inl (cI, 16, .inl f8)), (a9, .inl (cI, 6, .inl f9)), (a10, .inl (cI, 288, .inl f10))]) (w1 := []) hP hD [] [0, 1, 2, 3, 4, 5, 6, 7, 8, 9] rfl rfl (by decide) (by decide) hk1 hFc ny_P0 ny_D0
    have hP : va_P D vwCl [(x0, .inr (7, [.ref tp, .ref rd, .ref bk, .ref fl, .ref pl])), (bk, .inr (0, [.int lc, .int ln, .ref a2, .ref a3, .ref a4, .ref a5, .ref a6, .ref a7, .ref a8, .ref a9, .ref a10, .ref a11, .ref a12, .ref a13, .ref a14])), (fl, .inr (1, [.ref bk, .int fi, .int ff, .int ft, .int fd, .int fr, .int fw])), (a4, .inl (cI, 16, .inl f4)), (a5, .inl (cI, 16, .inl f5)), (a6, .inl (cI, 16, .inl f6)), (a7, .inl (cI, 16, .inl f7)), (a8, .inl (cI, 16, .inl f8)), (a9, .inl (cI, 6, .inl f9)), (a10, .inl (cI, 288, .inl f10))] H := hP
    have hD : va_D A [(x0, .inr (7, [.ref tp, .ref rd, .ref bk, .ref fl, .ref pl])), (bk, .inr (0, [.int lc, .int ln, .ref a2, .ref a3, .ref a4, .ref a5, .ref a6, .ref a7, .ref a8, .ref a9, .ref a10, .ref a11, .ref a12, .ref a13, .ref a14])), (fl, .inr (1, [.ref bk, .int fi, .int ff, .int ft, .int fd, .int fr, .int fw])), (a4, .inl (cI, 16, .inl f4)), (a5, .inl (cI, 16, .inl f5)), (a6, .inl (cI, 16, .inl f6)), (a7, .inl (cI, 16, .inl f7)), (a8, .inl (cI, 16, .inl f8)), (a9, .inl (cI, 6, .inl f9)), (a10, .inl (cI, 288, .inl f10))] := hD
    rcases hw with ⟨rfl, h3⟩ | ⟨rfl, h3⟩
    · have h3 : (0 ≤ y1.toInt ∧ y1.toInt < lc.toInt) := h3
      refine lv_if_eq (tgt := 41) hx hb dX7_minutes_21 (by decide) (fun h9 => (by first | exact absurd h9 (by decide) | exact absurd (by decide) h9)) (fun c4 => ?_)
      refine lv_iload_n hx hb dX7_minutes_24 rfl (lv_at hl 2 rfl) ?_
      refine lv_bipush (v := 6) hx hb dX7_minutes_25 (by decide) ?_
      have hPc := hP.sub (ws' := []) [] rfl
      have hDc := hD.sub (ws' := []) [] (by decide) rfl
      have hFc := va_free (wc := []) hD hS hA [] rfl
      refine va_calli (va_runS (As := [.int y2, .int 6]) (rest := []) ⟨hx, hb, hml, hown, hts⟩ (k_within l D cI cB cP H.size y2 6) (cwS 2 hts gw_k_minutes_0 rfl rfl rfl (by decide +kernel) ⟨Nat.le_of_ble_eq_true rfl, Nat.le_of_ble_eq_true rfl⟩) ⟨ny_blind, ny_pre hPc hK hN hDc⟩ rfl rfl hl.1 rfl (lv_room (Nat.le_of_ble_eq_true rfl)) dX7_minutes_27 ⟨Nat.le_of_ble_eq_true rfl, Nat.le_of_ble_eq_true rfl⟩) hS (fun q _ h => hFc q h) hFc (fun r5 u t H locs ht hvm hw hB hz1 hk1 hS => ?_)
      obtain ⟨hP, hD⟩ := va_join (wr := [(x0, .inr (7, [.ref tp, .ref rd, .ref bk, .ref fl, .ref pl])), (bk, .inr (0, [.int lc, .int ln, .ref a2, .ref a3, .ref a4, .ref a5, .ref a6, .ref a7, .ref a8, .ref a9, .ref a10, .ref a11, .ref a12, .ref a13, .ref a14])), (fl, .inr (1, [.ref bk, .int fi, .int ff, .int ft, .int fd, .int fr, .int fw])), (a4, .inl (cI, 16, .inl f4)), (a5, .inl (cI, 16, .inl f5)), (a6, .inl (cI, 16, .inl f6)), (a7, .inl (cI, 16, .inl f7)), (a8, .inl (cI, 16, .inl f8)), (a9, .inl (cI, 6, .inl f9)), (a10, .inl (cI, 288, .inl f10))]) (w1 := []) hP hD [] [0, 1, 2, 3, 4, 5, 6, 7, 8, 9] rfl rfl (by decide) (by decide) hk1 hFc ny_P0 ny_D0
      have hP : va_P D vwCl [(x0, .inr (7, [.ref tp, .ref rd, .ref bk, .ref fl, .ref pl])), (bk, .inr (0, [.int lc, .int ln, .ref a2, .ref a3, .ref a4, .ref a5, .ref a6, .ref a7, .ref a8, .ref a9, .ref a10, .ref a11, .ref a12, .ref a13, .ref a14])), (fl, .inr (1, [.ref bk, .int fi, .int ff, .int ft, .int fd, .int fr, .int fw])), (a4, .inl (cI, 16, .inl f4)), (a5, .inl (cI, 16, .inl f5)), (a6, .inl (cI, 16, .inl f6)), (a7, .inl (cI, 16, .inl f7)), (a8, .inl (cI, 16, .inl f8)), (a9, .inl (cI, 6, .inl f9)), (a10, .inl (cI, 288, .inl f10))] H := hP
      have hD : va_D A [(x0, .inr (7, [.ref tp, .ref rd, .ref bk, .ref fl, .ref pl])), (bk, .inr (0, [.int lc, .int ln, .ref a2, .ref a3, .ref a4, .ref a5, .ref a6, .ref a7, .ref a8, .ref a9, .ref a10, .ref a11, .ref a12, .ref a13, .ref a14])), (fl, .inr (1, [.ref bk, .int fi, .int ff, .int ft, .int fd, .int fr, .int fw])), (a4, .inl (cI, 16, .inl f4)), (a5, .inl (cI, 16, .inl f5)), (a6, .inl (cI, 16, .inl f6)), (a7, .inl (cI, 16, .inl f7)), (a8, .inl (cI, 16, .inl f8)), (a9, .inl (cI, 6, .inl f9)), (a10, .inl (cI, 288, .inl f10))] := hD
      rcases hw with ⟨rfl, h6⟩ | ⟨rfl, h6⟩
      · have h6 : (0 ≤ y2.toInt ∧ y2.toInt < 6) := h6
        refine lv_if_eq (tgt := 41) hx hb dX7_minutes_30 (by decide) (fun h9 => (by first | exact absurd h9 (by decide) | exact absurd (by decide) h9)) (fun c7 => ?_)
        refine lv_iload_n hx hb dX7_minutes_33 rfl (lv_at hl 3 rfl) ?_
        refine lv_iconst (v := 3) hx hb dX7_minutes_34 (by decide) ?_
        have hPc := hP.sub (ws' := []) [] rfl
        have hDc := hD.sub (ws' := []) [] (by decide) rfl
        have hFc := va_free (wc := []) hD hS hA [] rfl
        refine va_calli (va_runS (As := [.int y3, .int 3]) (rest := []) ⟨hx, hb, hml, hown, hts⟩ (k_within l D cI cB cP H.size y3 3) (cwS 2 hts gw_k_minutes_0 rfl rfl rfl (by decide +kernel) ⟨Nat.le_of_ble_eq_true rfl, Nat.le_of_ble_eq_true rfl⟩) ⟨ny_blind, ny_pre hPc hK hN hDc⟩ rfl rfl hl.1 rfl (lv_room (Nat.le_of_ble_eq_true rfl)) dX7_minutes_35 ⟨Nat.le_of_ble_eq_true rfl, Nat.le_of_ble_eq_true rfl⟩) hS (fun q _ h => hFc q h) hFc (fun r8 u t H locs ht hvm hw hB hz1 hk1 hS => ?_)
        obtain ⟨hP, hD⟩ := va_join (wr := [(x0, .inr (7, [.ref tp, .ref rd, .ref bk, .ref fl, .ref pl])), (bk, .inr (0, [.int lc, .int ln, .ref a2, .ref a3, .ref a4, .ref a5, .ref a6, .ref a7, .ref a8, .ref a9, .ref a10, .ref a11, .ref a12, .ref a13, .ref a14])), (fl, .inr (1, [.ref bk, .int fi, .int ff, .int ft, .int fd, .int fr, .int fw])), (a4, .inl (cI, 16, .inl f4)), (a5, .inl (cI, 16, .inl f5)), (a6, .inl (cI, 16, .inl f6)), (a7, .inl (cI, 16, .inl f7)), (a8, .inl (cI, 16, .inl f8)), (a9, .inl (cI, 6, .inl f9)), (a10, .inl (cI, 288, .inl f10))]) (w1 := []) hP hD [] [0, 1, 2, 3, 4, 5, 6, 7, 8, 9] rfl rfl (by decide) (by decide) hk1 hFc ny_P0 ny_D0
        have hP : va_P D vwCl [(x0, .inr (7, [.ref tp, .ref rd, .ref bk, .ref fl, .ref pl])), (bk, .inr (0, [.int lc, .int ln, .ref a2, .ref a3, .ref a4, .ref a5, .ref a6, .ref a7, .ref a8, .ref a9, .ref a10, .ref a11, .ref a12, .ref a13, .ref a14])), (fl, .inr (1, [.ref bk, .int fi, .int ff, .int ft, .int fd, .int fr, .int fw])), (a4, .inl (cI, 16, .inl f4)), (a5, .inl (cI, 16, .inl f5)), (a6, .inl (cI, 16, .inl f6)), (a7, .inl (cI, 16, .inl f7)), (a8, .inl (cI, 16, .inl f8)), (a9, .inl (cI, 6, .inl f9)), (a10, .inl (cI, 288, .inl f10))] H := hP
        have hD : va_D A [(x0, .inr (7, [.ref tp, .ref rd, .ref bk, .ref fl, .ref pl])), (bk, .inr (0, [.int lc, .int ln, .ref a2, .ref a3, .ref a4, .ref a5, .ref a6, .ref a7, .ref a8, .ref a9, .ref a10, .ref a11, .ref a12, .ref a13, .ref a14])), (fl, .inr (1, [.ref bk, .int fi, .int ff, .int ft, .int fd, .int fr, .int fw])), (a4, .inl (cI, 16, .inl f4)), (a5, .inl (cI, 16, .inl f5)), (a6, .inl (cI, 16, .inl f6)), (a7, .inl (cI, 16, .inl f7)), (a8, .inl (cI, 16, .inl f8)), (a9, .inl (cI, 6, .inl f9)), (a10, .inl (cI, 288, .inl f10))] := hD
        rcases hw with ⟨rfl, h9⟩ | ⟨rfl, h9⟩
        · have h9 : (0 ≤ y3.toInt ∧ y3.toInt < 3) := h9
          refine lv_if_ne (tgt := 43) hx hb dX7_minutes_38 (by decide) (fun c10 => ?_) (fun h9 => (by first | exact absurd h9 (by decide) | exact absurd (by decide) h9))
          refine lv_aload_n hx hb dX7_minutes_43 rfl (lv_at hl 0 rfl) ?_
          refine va_get (D := D) (ci := 7) (v := .ref fl) (C := RX7) (T := TX7) (N := 5) hx hb hts iw_k_minutes_7 hown hK hP 0 rfl rfl 3 (by decide) (hts (.fieldLink RX7 40 "FlightDesk" "flight" "LFlightDesk$Flight;") (by decide +kernel)) (fun _ h9 => h9) rfl dX7_minutes_44 ?_
          refine lv_iload_n hx hb dX7_minutes_47 rfl (lv_at hl 1 rfl) ?_
          refine lv_iload_n hx hb dX7_minutes_48 rfl (lv_at hl 2 rfl) ?_
          refine lv_iload_n hx hb dX7_minutes_49 rfl (lv_at hl 3 rfl) ?_
          have hPc := hP.sub (ws' := [(fl, .inr (1, [.ref bk, .int fi, .int ff, .int ft, .int fd, .int fr, .int fw])), (bk, .inr (0, [.int lc, .int ln, .ref a2, .ref a3, .ref a4, .ref a5, .ref a6, .ref a7, .ref a8, .ref a9, .ref a10, .ref a11, .ref a12, .ref a13, .ref a14])), (a4, .inl (cI, 16, .inl f4)), (a5, .inl (cI, 16, .inl f5)), (a6, .inl (cI, 16, .inl f6)), (a7, .inl (cI, 16, .inl f7)), (a8, .inl (cI, 16, .inl f8)), (a9, .inl (cI, 6, .inl f9)), (a10, .inl (cI, 288, .inl f10))]) [2, 1, 3, 4, 5, 6, 7, 8, 9] rfl
          have hDc := hD.sub (ws' := [(fl, .inr (1, [.ref bk, .int fi, .int ff, .int ft, .int fd, .int fr, .int fw])), (bk, .inr (0, [.int lc, .int ln, .ref a2, .ref a3, .ref a4, .ref a5, .ref a6, .ref a7, .ref a8, .ref a9, .ref a10, .ref a11, .ref a12, .ref a13, .ref a14])), (a4, .inl (cI, 16, .inl f4)), (a5, .inl (cI, 16, .inl f5)), (a6, .inl (cI, 16, .inl f6)), (a7, .inl (cI, 16, .inl f7)), (a8, .inl (cI, 16, .inl f8)), (a9, .inl (cI, 6, .inl f9)), (a10, .inl (cI, 288, .inl f10))]) [2, 1, 3, 4, 5, 6, 7, 8, 9] (by decide) rfl
          have hFc := va_free (wc := [(fl, .inr (1, [.ref bk, .int fi, .int ff, .int ft, .int fd, .int fr, .int fw])), (bk, .inr (0, [.int lc, .int ln, .ref a2, .ref a3, .ref a4, .ref a5, .ref a6, .ref a7, .ref a8, .ref a9, .ref a10, .ref a11, .ref a12, .ref a13, .ref a14])), (a4, .inl (cI, 16, .inl f4)), (a5, .inl (cI, 16, .inl f5)), (a6, .inl (cI, 16, .inl f6)), (a7, .inl (cI, 16, .inl f7)), (a8, .inl (cI, 16, .inl f8)), (a9, .inl (cI, 6, .inl f9)), (a10, .inl (cI, 288, .inl f10))]) hD hS hA [2, 1, 3, 4, 5, 6, 7, 8, 9] rfl
          refine va_calli (va_runV (As := [.int y1, .int y2, .int y3]) (rest := []) ⟨hx, hb, hml, hown, hts⟩ (k_minutesOf l D cI cB cP H.size fl bk fi ff ft fd fr fw lc ln a2 a3 a4 a5 a6 a7 a8 a9 a10 a11 a12 a13 a14 y1 y2 y3 f4 f5 f6 f7 f8 f9 f10 (show 0 ≤ y1.toInt ∧ y1.toInt ≤ 15 by first | assumption | omega | decide) (show 0 ≤ y2.toInt ∧ y2.toInt ≤ 5 by first | assumption | omega | decide) (show 0 ≤ y3.toInt ∧ y3.toInt ≤ 2 by first | assumption | omega | decide) (by assumption) (by assumption) (by assumption) (by assumption) (by assumption) (by assumption) (by assumption)) (cwV 3 hts gw_k_minutes_1 rfl rfl rfl (by decide +kernel) ⟨Nat.le_of_ble_eq_true rfl, Nat.le_of_ble_eq_true rfl⟩) ⟨ny_blind, va_recv hK hPc (ci := 1) (q0 := 0) rfl rfl, ny_pre hPc hK hN hDc⟩ rfl rfl hl.1 rfl (lv_room (Nat.le_of_ble_eq_true rfl)) dX7_minutes_50 ⟨Nat.le_of_ble_eq_true rfl, Nat.le_of_ble_eq_true rfl⟩) hS (fun q _ h => hFc q h) hFc (fun r11 u t H locs ht hvm hw hB hz1 hk1 hS => ?_)
          obtain ⟨hP1, hD1⟩ := hB
          rw [ht] at hP1
          obtain ⟨hP, hD⟩ := va_join (wr := [(x0, .inr (7, [.ref tp, .ref rd, .ref bk, .ref fl, .ref pl]))]) (w1 := [(fl, .inr (1, [.ref bk, .int fi, .int ff, .int ft, .int fd, .int fr, .int fw])), (bk, .inr (0, [.int lc, .int ln, .ref a2, .ref a3, .ref a4, .ref a5, .ref a6, .ref a7, .ref a8, .ref a9, .ref a10, .ref a11, .ref a12, .ref a13, .ref a14])), (a4, .inl (cI, 16, .inl f4)), (a5, .inl (cI, 16, .inl f5)), (a6, .inl (cI, 16, .inl f6)), (a7, .inl (cI, 16, .inl f7)), (a8, .inl (cI, 16, .inl f8)), (a9, .inl (cI, 6, .inl f9)), (a10, .inl (cI, 288, .inl f10))]) hP hD [2, 1, 3, 4, 5, 6, 7, 8, 9] [0] rfl rfl (by decide) (by decide) hk1 hFc hP1 hD1
          have hP : va_P D vwCl [(x0, .inr (7, [.ref tp, .ref rd, .ref bk, .ref fl, .ref pl])), (fl, .inr (1, [.ref bk, .int fi, .int ff, .int ft, .int fd, .int fr, .int fw])), (bk, .inr (0, [.int lc, .int ln, .ref a2, .ref a3, .ref a4, .ref a5, .ref a6, .ref a7, .ref a8, .ref a9, .ref a10, .ref a11, .ref a12, .ref a13, .ref a14])), (a4, .inl (cI, 16, .inl f4)), (a5, .inl (cI, 16, .inl f5)), (a6, .inl (cI, 16, .inl f6)), (a7, .inl (cI, 16, .inl f7)), (a8, .inl (cI, 16, .inl f8)), (a9, .inl (cI, 6, .inl f9)), (a10, .inl (cI, 288, .inl f10))] H := hP
          have hD : va_D A [(x0, .inr (7, [.ref tp, .ref rd, .ref bk, .ref fl, .ref pl])), (fl, .inr (1, [.ref bk, .int fi, .int ff, .int ft, .int fd, .int fr, .int fw])), (bk, .inr (0, [.int lc, .int ln, .ref a2, .ref a3, .ref a4, .ref a5, .ref a6, .ref a7, .ref a8, .ref a9, .ref a10, .ref a11, .ref a12, .ref a13, .ref a14])), (a4, .inl (cI, 16, .inl f4)), (a5, .inl (cI, 16, .inl f5)), (a6, .inl (cI, 16, .inl f6)), (a7, .inl (cI, 16, .inl f7)), (a8, .inl (cI, 16, .inl f8)), (a9, .inl (cI, 6, .inl f9)), (a10, .inl (cI, 288, .inl f10))] := hD
          have hr11 : (-1) ≤ r11.toInt ∧ r11.toInt ≤ 1300 := hw
          have hP9 := hP.sub (ws' := [(x0, .inr (7, [.ref tp, .ref rd, .ref bk, .ref fl, .ref pl])), (bk, .inr (0, [.int lc, .int ln, .ref a2, .ref a3, .ref a4, .ref a5, .ref a6, .ref a7, .ref a8, .ref a9, .ref a10, .ref a11, .ref a12, .ref a13, .ref a14])), (fl, .inr (1, [.ref bk, .int fi, .int ff, .int ft, .int fd, .int fr, .int fw])), (a4, .inl (cI, 16, .inl f4)), (a5, .inl (cI, 16, .inl f5)), (a6, .inl (cI, 16, .inl f6)), (a7, .inl (cI, 16, .inl f7)), (a8, .inl (cI, 16, .inl f8)), (a9, .inl (cI, 6, .inl f9)), (a10, .inl (cI, 288, .inl f10))]) [0, 2, 1, 3, 4, 5, 6, 7, 8, 9] rfl
          have hD9 := hD.sub (ws' := [(x0, .inr (7, [.ref tp, .ref rd, .ref bk, .ref fl, .ref pl])), (bk, .inr (0, [.int lc, .int ln, .ref a2, .ref a3, .ref a4, .ref a5, .ref a6, .ref a7, .ref a8, .ref a9, .ref a10, .ref a11, .ref a12, .ref a13, .ref a14])), (fl, .inr (1, [.ref bk, .int fi, .int ff, .int ft, .int fd, .int fr, .int fw])), (a4, .inl (cI, 16, .inl f4)), (a5, .inl (cI, 16, .inl f5)), (a6, .inl (cI, 16, .inl f6)), (a7, .inl (cI, 16, .inl f7)), (a8, .inl (cI, 16, .inl f8)), (a9, .inl (cI, 6, .inl f9)), (a10, .inl (cI, 288, .inl f10))]) [0, 2, 1, 3, 4, 5, 6, 7, 8, 9] (by decide) rfl
          refine W.widen (k := 0) (n := 0) (by decide) (by decide) ?_
          exact W.iret (v := r11) hx hb hr (fun t ht hW => ⟨⟨r11, (), rfl, (show r11.toInt = (-1) ∨ (0 ≤ r11.toInt ∧ r11.toInt ≤ 1300 ∧ 0 ≤ y2.toInt ∧ y2.toInt ≤ 5) by first | assumption | omega | trivial | decide), by rw [ht]; exact hP9, hD9⟩, hS.F ht⟩) hS.2.2 dX7_minutes_53
        · have h9 : ¬ (0 ≤ y3.toInt ∧ y3.toInt < 3) := h9
          refine lv_if_ne (tgt := 43) hx hb dX7_minutes_38 (by decide) (fun h9 => (by first | exact absurd h9 (by decide) | exact absurd (by decide) h9)) (fun c12 => ?_)
          refine lv_iconst (v := (-1)) hx hb dX7_minutes_41 (by decide) ?_
          have hP9 := hP.sub (ws' := [(x0, .inr (7, [.ref tp, .ref rd, .ref bk, .ref fl, .ref pl])), (bk, .inr (0, [.int lc, .int ln, .ref a2, .ref a3, .ref a4, .ref a5, .ref a6, .ref a7, .ref a8, .ref a9, .ref a10, .ref a11, .ref a12, .ref a13, .ref a14])), (fl, .inr (1, [.ref bk, .int fi, .int ff, .int ft, .int fd, .int fr, .int fw])), (a4, .inl (cI, 16, .inl f4)), (a5, .inl (cI, 16, .inl f5)), (a6, .inl (cI, 16, .inl f6)), (a7, .inl (cI, 16, .inl f7)), (a8, .inl (cI, 16, .inl f8)), (a9, .inl (cI, 6, .inl f9)), (a10, .inl (cI, 288, .inl f10))]) [0, 1, 2, 3, 4, 5, 6, 7, 8, 9] rfl
          have hD9 := hD.sub (ws' := [(x0, .inr (7, [.ref tp, .ref rd, .ref bk, .ref fl, .ref pl])), (bk, .inr (0, [.int lc, .int ln, .ref a2, .ref a3, .ref a4, .ref a5, .ref a6, .ref a7, .ref a8, .ref a9, .ref a10, .ref a11, .ref a12, .ref a13, .ref a14])), (fl, .inr (1, [.ref bk, .int fi, .int ff, .int ft, .int fd, .int fr, .int fw])), (a4, .inl (cI, 16, .inl f4)), (a5, .inl (cI, 16, .inl f5)), (a6, .inl (cI, 16, .inl f6)), (a7, .inl (cI, 16, .inl f7)), (a8, .inl (cI, 16, .inl f8)), (a9, .inl (cI, 6, .inl f9)), (a10, .inl (cI, 288, .inl f10))]) [0, 1, 2, 3, 4, 5, 6, 7, 8, 9] (by decide) rfl
          refine W.widen (k := 0) (n := 0) (by decide) (by decide) ?_
          exact W.iret (v := (-1)) hx hb hr (fun t ht hW => ⟨⟨(-1), (), rfl, (show (-1) = (-1) ∨ (0 ≤ (-1) ∧ (-1) ≤ 1300 ∧ 0 ≤ y2.toInt ∧ y2.toInt ≤ 5) by first | assumption | omega | trivial | decide), by rw [ht]; exact hP9, hD9⟩, hS.F ht⟩) hS.2.2 dX7_minutes_42
      · have h6 : ¬ (0 ≤ y2.toInt ∧ y2.toInt < 6) := h6
        refine lv_if_eq (tgt := 41) hx hb dX7_minutes_30 (by decide) (fun c13 => ?_) (fun h9 => (by first | exact absurd h9 (by decide) | exact absurd (by decide) h9))
        refine lv_iconst (v := (-1)) hx hb dX7_minutes_41 (by decide) ?_
        have hP9 := hP.sub (ws' := [(x0, .inr (7, [.ref tp, .ref rd, .ref bk, .ref fl, .ref pl])), (bk, .inr (0, [.int lc, .int ln, .ref a2, .ref a3, .ref a4, .ref a5, .ref a6, .ref a7, .ref a8, .ref a9, .ref a10, .ref a11, .ref a12, .ref a13, .ref a14])), (fl, .inr (1, [.ref bk, .int fi, .int ff, .int ft, .int fd, .int fr, .int fw])), (a4, .inl (cI, 16, .inl f4)), (a5, .inl (cI, 16, .inl f5)), (a6, .inl (cI, 16, .inl f6)), (a7, .inl (cI, 16, .inl f7)), (a8, .inl (cI, 16, .inl f8)), (a9, .inl (cI, 6, .inl f9)), (a10, .inl (cI, 288, .inl f10))]) [0, 1, 2, 3, 4, 5, 6, 7, 8, 9] rfl
        have hD9 := hD.sub (ws' := [(x0, .inr (7, [.ref tp, .ref rd, .ref bk, .ref fl, .ref pl])), (bk, .inr (0, [.int lc, .int ln, .ref a2, .ref a3, .ref a4, .ref a5, .ref a6, .ref a7, .ref a8, .ref a9, .ref a10, .ref a11, .ref a12, .ref a13, .ref a14])), (fl, .inr (1, [.ref bk, .int fi, .int ff, .int ft, .int fd, .int fr, .int fw])), (a4, .inl (cI, 16, .inl f4)), (a5, .inl (cI, 16, .inl f5)), (a6, .inl (cI, 16, .inl f6)), (a7, .inl (cI, 16, .inl f7)), (a8, .inl (cI, 16, .inl f8)), (a9, .inl (cI, 6, .inl f9)), (a10, .inl (cI, 288, .inl f10))]) [0, 1, 2, 3, 4, 5, 6, 7, 8, 9] (by decide) rfl
        refine W.widen (k := 0) (n := 0) (by decide) (by decide) ?_
        exact W.iret (v := (-1)) hx hb hr (fun t ht hW => ⟨⟨(-1), (), rfl, (show (-1) = (-1) ∨ (0 ≤ (-1) ∧ (-1) ≤ 1300 ∧ 0 ≤ y2.toInt ∧ y2.toInt ≤ 5) by first | assumption | omega | trivial | decide), by rw [ht]; exact hP9, hD9⟩, hS.F ht⟩) hS.2.2 dX7_minutes_42
    · have h3 : ¬ (0 ≤ y1.toInt ∧ y1.toInt < lc.toInt) := h3
      refine lv_if_eq (tgt := 41) hx hb dX7_minutes_21 (by decide) (fun c14 => ?_) (fun h9 => (by first | exact absurd h9 (by decide) | exact absurd (by decide) h9))
      refine lv_iconst (v := (-1)) hx hb dX7_minutes_41 (by decide) ?_
      have hP9 := hP.sub (ws' := [(x0, .inr (7, [.ref tp, .ref rd, .ref bk, .ref fl, .ref pl])), (bk, .inr (0, [.int lc, .int ln, .ref a2, .ref a3, .ref a4, .ref a5, .ref a6, .ref a7, .ref a8, .ref a9, .ref a10, .ref a11, .ref a12, .ref a13, .ref a14])), (fl, .inr (1, [.ref bk, .int fi, .int ff, .int ft, .int fd, .int fr, .int fw])), (a4, .inl (cI, 16, .inl f4)), (a5, .inl (cI, 16, .inl f5)), (a6, .inl (cI, 16, .inl f6)), (a7, .inl (cI, 16, .inl f7)), (a8, .inl (cI, 16, .inl f8)), (a9, .inl (cI, 6, .inl f9)), (a10, .inl (cI, 288, .inl f10))]) [0, 1, 2, 3, 4, 5, 6, 7, 8, 9] rfl
      have hD9 := hD.sub (ws' := [(x0, .inr (7, [.ref tp, .ref rd, .ref bk, .ref fl, .ref pl])), (bk, .inr (0, [.int lc, .int ln, .ref a2, .ref a3, .ref a4, .ref a5, .ref a6, .ref a7, .ref a8, .ref a9, .ref a10, .ref a11, .ref a12, .ref a13, .ref a14])), (fl, .inr (1, [.ref bk, .int fi, .int ff, .int ft, .int fd, .int fr, .int fw])), (a4, .inl (cI, 16, .inl f4)), (a5, .inl (cI, 16, .inl f5)), (a6, .inl (cI, 16, .inl f6)), (a7, .inl (cI, 16, .inl f7)), (a8, .inl (cI, 16, .inl f8)), (a9, .inl (cI, 6, .inl f9)), (a10, .inl (cI, 288, .inl f10))]) [0, 1, 2, 3, 4, 5, 6, 7, 8, 9] (by decide) rfl
      refine W.widen (k := 0) (n := 0) (by decide) (by decide) ?_
      exact W.iret (v := (-1)) hx hb hr (fun t ht hW => ⟨⟨(-1), (), rfl, (show (-1) = (-1) ∨ (0 ≤ (-1) ∧ (-1) ≤ 1300 ∧ 0 ≤ y2.toInt ∧ y2.toInt ≤ 5) by first | assumption | omega | trivial | decide), by rw [ht]; exact hP9, hD9⟩, hS.F ht⟩) hS.2.2 dX7_minutes_42

def wk_k_fuel : List Cond := .code yX7_fuel cX7_fuel 6 (some .int) :: ([.methodLink RX7 126 yX7_minutes, .instanceMethod yX7_minutes, .selects RX7 yX7_minutes yX7_minutes, .initialized RX7, .code yX7_minutes cX7_minutes 4 (some .int), .fieldLink RX7 40 "FlightDesk" "flight" "LFlightDesk$Flight;", .fieldLink RX7 75 "FlightDesk$Flight" "isSet" "Z", .fieldLink RX7 28 "FlightDesk" "book" "LFlightDesk$Book;", .fieldLink RX7 82 "FlightDesk$Book" "legCount" "I", .methodLink RX7 91 yX7_within, .static yX7_within, .code yX7_within cX7_within 2 (some .boolean), .methodLink RX7 123 yX1_minutesOf, .instanceMethod yX1_minutesOf, .selects RX1 yX1_minutesOf yX1_minutesOf, .initialized RX1, .code yX1_minutesOf cX1_minutesOf 6 (some .int), .fieldLink RX1 9 "FlightDesk$Flight" "book" "LFlightDesk$Book;", .fieldLink RX1 41 "FlightDesk$Book" "lowest" "[I", .fieldLink RX1 53 "FlightDesk$Book" "speed" "[I", .fieldLink RX1 56 "FlightDesk$Book" "wind" "[I", .static yX7_windIndex, .code yX7_windIndex cX7_windIndex 3 (some .int), .fieldLink RX1 44 "FlightDesk$Book" "highest" "[I", .fieldLink RX1 26 "FlightDesk$Flight" "day" "I", .fieldLink RX1 47 "FlightDesk$Book" "firstDay" "[I", .fieldLink RX1 50 "FlightDesk$Book" "lastDay" "[I", .fieldLink RX1 63 "FlightDesk$Book" "miles" "[I", .constant RX7 129 (60001), .methodLink RX7 130 yX1_fuelOf, .instanceMethod yX1_fuelOf, .selects RX1 yX1_fuelOf yX1_fuelOf, .code yX1_fuelOf cX1_fuelOf 5 (some .int), .fieldLink RX1 38 "FlightDesk$Flight" "weight" "I", .methodLink RX1 66 Lib.Math.min.name, .static Lib.Math.min.name, .initialized "java/lang/Math", .code Lib.Math.min.name Lib.Math.min.code 2 (some .int), .fieldLink RX1 72 "FlightDesk$Book" "burn" "[I", .static yX7_burnIndex, .code yX7_burnIndex cX7_burnIndex 2 (some .int)] ++ wsX70 ++ wsX10 ++ wsX00)
theorem iw_k_fuel_7 : ∀ w ∈ wsX70, w ∈ wk_k_fuel := fun _ h => List.mem_cons_of_mem _ (List.mem_append_left _ (List.mem_append_left _ (List.mem_append_right _ h)))
theorem iw_k_fuel_1 : ∀ w ∈ wsX10, w ∈ wk_k_fuel := fun _ h => List.mem_cons_of_mem _ (List.mem_append_left _ (List.mem_append_right _ h))
theorem iw_k_fuel_0 : ∀ w ∈ wsX00, w ∈ wk_k_fuel := fun _ h => List.mem_cons_of_mem _ (List.mem_append_right _ h)
set_option maxRecDepth 20000 in
theorem gw_k_fuel_0 : GoodIn wk_k_fuel (wsV RX7 126 RX7 yX7_minutes wk_k_minutes) := goodIn_sub (by decide +kernel) (by decide +kernel)
set_option maxRecDepth 20000 in
theorem gw_k_fuel_1 : GoodIn wk_k_fuel (wsS RX7 91 yX7_within wk_k_within) := goodIn_sub (by decide +kernel) (by decide +kernel)
set_option maxRecDepth 20000 in
theorem gw_k_fuel_2 : GoodIn wk_k_fuel (wsV RX7 130 RX1 yX1_fuelOf wk_k_fuelOf) := goodIn_sub (by decide +kernel) (by decide +kernel)
set_option maxHeartbeats 4000000 in
set_option maxRecDepth 100000 in
theorem k_fuel (l : Launch) (D : va_G) (cI cB cP : ClassId) (sz : Nat) (x0 : Nat) (tp : Nat) (rd : Nat) (bk : Nat) (fl : Nat) (pl : Nat) (lc : Int32) (ln : Int32) (a2 : Nat) (a3 : Nat) (a4 : Nat) (a5 : Nat) (a6 : Nat) (a7 : Nat) (a8 : Nat) (a9 : Nat) (a10 : Nat) (a11 : Nat) (a12 : Nat) (a13 : Nat) (a14 : Nat) (fi : Int32) (ff : Int32) (ft : Int32) (fd : Int32) (fr : Int32) (fw : Int32) (y1 : Int32) (y2 : Int32) (y3 : Int32) (y4 : Int32) (f4 : Nat → Int32) (f5 : Nat → Int32) (f6 : Nat → Int32) (f7 : Nat → Int32) (f8 : Nat → Int32) (f9 : Nat → Int32) (f10 : Nat → Int32) (f11 : Nat → Int32) (hlc9 : 0 ≤ lc.toInt ∧ lc.toInt ≤ 16) (hfw9 : 0 ≤ fw.toInt ∧ fw.toInt ≤ 90000) (r49 : ∀ k : Nat, k < 16 → 0 ≤ (f4 k).toInt ∧ (f4 k).toInt ≤ 999) (r59 : ∀ k : Nat, k < 16 → 0 ≤ (f5 k).toInt ∧ (f5 k).toInt ≤ 5) (r69 : ∀ k : Nat, k < 16 → 0 ≤ (f6 k).toInt ∧ (f6 k).toInt ≤ 5) (r79 : ∀ k : Nat, k < 16 → 0 ≤ (f7 k).toInt ∧ (f7 k).toInt ≤ 999) (r89 : ∀ k : Nat, k < 16 → 0 ≤ (f8 k).toInt ∧ (f8 k).toInt ≤ 999) (r99 : ∀ k : Nat, k < 6 → (f9 k).toInt = (-1000) ∨ (100 ≤ (f9 k).toInt ∧ (f9 k).toInt ≤ 999)) (r109 : ∀ k : Nat, k < 288 → (f10 k).toInt = (-1000) ∨ ((-400) ≤ (f10 k).toInt ∧ (f10 k).toInt ≤ 400)) (r119 : ∀ k : Nat, k < 30 → 1 ≤ (f11 k).toInt ∧ (f11 k).toInt ≤ 9999) : Met l yX7_fuel wk_k_fuel ({ frames := 3, cells := 0, slots := 0, locals := 70 } : Room) (va_Pc [.ref x0, .int y1, .int y2, .int y3, .int y4] (Pw D cI cB cP sz [(x0, .inr (7, [.ref tp, .ref rd, .ref bk, .ref fl, .ref pl])), (bk, .inr (0, [.int lc, .int ln, .ref a2, .ref a3, .ref a4, .ref a5, .ref a6, .ref a7, .ref a8, .ref a9, .ref a10, .ref a11, .ref a12, .ref a13, .ref a14])), (fl, .inr (1, [.ref bk, .int fi, .int ff, .int ft, .int fd, .int fr, .int fw])), (a4, .inl (cI, 16, .inl f4)), (a5, .inl (cI, 16, .inl f5)), (a6, .inl (cI, 16, .inl f6)), (a7, .inl (cI, 16, .inl f7)), (a8, .inl (cI, 16, .inl f8)), (a9, .inl (cI, 6, .inl f9)), (a10, .inl (cI, 288, .inl f10)), (a11, .inl (cI, 30, .inl f11))])) (va_Qi (fun (r : Int32) (_ : Unit) => True) (fun _ t => va_P D vwCl [(x0, .inr (7, [.ref tp, .ref rd, .ref bk, .ref fl, .ref pl])), (bk, .inr (0, [.int lc, .int ln, .ref a2, .ref a3, .ref a4, .ref a5, .ref a6, .ref a7, .ref a8, .ref a9, .ref a10, .ref a11, .ref a12, .ref a13, .ref a14])), (fl, .inr (1, [.ref bk, .int fi, .int ff, .int ft, .int fd, .int fr, .int fw])), (a4, .inl (cI, 16, .inl f4)), (a5, .inl (cI, 16, .inl f5)), (a6, .inl (cI, 16, .inl f6)), (a7, .inl (cI, 16, .inl f7)), (a8, .inl (cI, 16, .inl f8)), (a9, .inl (cI, 6, .inl f9)), (a10, .inl (cI, 288, .inl f10)), (a11, .inl (cI, 30, .inl f11))] t.heap ∧ va_D (va_A [(x0, .inr (7, [.ref tp, .ref rd, .ref bk, .ref fl, .ref pl])), (bk, .inr (0, [.int lc, .int ln, .ref a2, .ref a3, .ref a4, .ref a5, .ref a6, .ref a7, .ref a8, .ref a9, .ref a10, .ref a11, .ref a12, .ref a13, .ref a14])), (fl, .inr (1, [.ref bk, .int fi, .int ff, .int ft, .int fd, .int fr, .int fw])), (a4, .inl (cI, 16, .inl f4)), (a5, .inl (cI, 16, .inl f5)), (a6, .inl (cI, 16, .inl f6)), (a7, .inl (cI, 16, .inl f7)), (a8, .inl (cI, 16, .inl f8)), (a9, .inl (cI, 6, .inl f9)), (a10, .inl (cI, 288, .inl f10)), (a11, .inl (cI, 30, .inl f11))] sz) [(x0, .inr (7, [.ref tp, .ref rd, .ref bk, .ref fl, .ref pl])), (bk, .inr (0, [.int lc, .int ln, .ref a2, .ref a3, .ref a4, .ref a5, .ref a6, .ref a7, .ref a8, .ref a9, .ref a10, .ref a11, .ref a12, .ref a13, .ref a14])), (fl, .inr (1, [.ref bk, .int fi, .int ff, .int ft, .int fd, .int fr, .int fw])), (a4, .inl (cI, 16, .inl f4)), (a5, .inl (cI, 16, .inl f5)), (a6, .inl (cI, 16, .inl f6)), (a7, .inl (cI, 16, .inl f7)), (a8, .inl (cI, 16, .inl f8)), (a9, .inl (cI, 6, .inl f9)), (a10, .inl (cI, 288, .inl f10)), (a11, .inl (cI, 30, .inl f11))]) (va_A [(x0, .inr (7, [.ref tp, .ref rd, .ref bk, .ref fl, .ref pl])), (bk, .inr (0, [.int lc, .int ln, .ref a2, .ref a3, .ref a4, .ref a5, .ref a6, .ref a7, .ref a8, .ref a9, .ref a10, .ref a11, .ref a12, .ref a13, .ref a14])), (fl, .inr (1, [.ref bk, .int fi, .int ff, .int ft, .int fd, .int fr, .int fw])), (a4, .inl (cI, 16, .inl f4)), (a5, .inl (cI, 16, .inl f5)), (a6, .inl (cI, 16, .inl f6)), (a7, .inl (cI, 16, .inl f7)), (a8, .inl (cI, 16, .inl f8)), (a9, .inl (cI, 6, .inl f9)), (a10, .inl (cI, 288, .inl f10)), (a11, .inl (cI, 30, .inl f11))] sz)) 0 0 (va_A [(x0, .inr (7, [.ref tp, .ref rd, .ref bk, .ref fl, .ref pl])), (bk, .inr (0, [.int lc, .int ln, .ref a2, .ref a3, .ref a4, .ref a5, .ref a6, .ref a7, .ref a8, .ref a9, .ref a10, .ref a11, .ref a12, .ref a13, .ref a14])), (fl, .inr (1, [.ref bk, .int fi, .int ff, .int ft, .int fd, .int fr, .int fw])), (a4, .inl (cI, 16, .inl f4)), (a5, .inl (cI, 16, .inl f5)), (a6, .inl (cI, 16, .inl f6)), (a7, .inl (cI, 16, .inl f7)), (a8, .inl (cI, 16, .inl f8)), (a9, .inl (cI, 6, .inl f9)), (a10, .inl (cI, 288, .inl f10)), (a11, .inl (cI, 30, .inl f11))] sz) := by
  refine Met.ofW (cc := cX7_fuel) (maxL := 6) (ret := (some .int)) (by decide) rfl ?_
  intro p e s m args below meth c s₁ B hml hv
  obtain ⟨rfl, hsz, hP, ⟨hK, hN⟩, hD0⟩ := hv
  have hx := B.exec
  have hb := B.bytes
  have hr := B.returns
  have hts := atoms_spec (ws := wk_k_fuel) B.pre
  have hown : s.vm.findClass RX7 = some m.cls := findClass_of_methodNamed B.named
  have hlocks := B.notSynchronized
  subst hsz
  have hD := hD0.self (sz := s.heap.size)
  generalize hAe : va_A [(x0, .inr (7, [.ref tp, .ref rd, .ref bk, .ref fl, .ref pl])), (bk, .inr (0, [.int lc, .int ln, .ref a2, .ref a3, .ref a4, .ref a5, .ref a6, .ref a7, .ref a8, .ref a9, .ref a10, .ref a11, .ref a12, .ref a13, .ref a14])), (fl, .inr (1, [.ref bk, .int fi, .int ff, .int ft, .int fd, .int fr, .int fw])), (a4, .inl (cI, 16, .inl f4)), (a5, .inl (cI, 16, .inl f5)), (a6, .inl (cI, 16, .inl f6)), (a7, .inl (cI, 16, .inl f7)), (a8, .inl (cI, 16, .inl f8)), (a9, .inl (cI, 6, .inl f9)), (a10, .inl (cI, 288, .inl f10)), (a11, .inl (cI, 30, .inl f11))] s.heap.size = A at hD ⊢
  have hA : ∀ q : Nat, s.heap.size ≤ q → A q := fun q h => by rw [← hAe]; exact Or.inr h
  have hS : va_S A s.heap s.heap [] := va_S.rf
  have hP : va_P D vwCl [(x0, .inr (7, [.ref tp, .ref rd, .ref bk, .ref fl, .ref pl])), (bk, .inr (0, [.int lc, .int ln, .ref a2, .ref a3, .ref a4, .ref a5, .ref a6, .ref a7, .ref a8, .ref a9, .ref a10, .ref a11, .ref a12, .ref a13, .ref a14])), (fl, .inr (1, [.ref bk, .int fi, .int ff, .int ft, .int fd, .int fr, .int fw])), (a4, .inl (cI, 16, .inl f4)), (a5, .inl (cI, 16, .inl f5)), (a6, .inl (cI, 16, .inl f6)), (a7, .inl (cI, 16, .inl f7)), (a8, .inl (cI, 16, .inl f8)), (a9, .inl (cI, 6, .inl f9)), (a10, .inl (cI, 288, .inl f10)), (a11, .inl (cI, 30, .inl f11))] s.heap := hP
  have hl := lv_entry ([.ref x0, .int y1, .int y2, .int y3, .int y4]) (n := 6) (Nat.le_of_ble_eq_true rfl)
  rw [lg_entry_eq]
  generalize (lg_sl ([.ref x0, .int y1, .int y2, .int y3, .int y4]) ++ List.replicate (6 - (lg_sl ([.ref x0, .int y1, .int y2, .int y3, .int y4])).length) Slot.unset).toArray = ls at hl ⊢
  have hl : lv_has ls 6 [(0, .ref x0), (1, .int y1), (2, .int y2), (3, .int y3), (4, .int y4)] := hl
  refine lv_aload_n hx hb dX7_fuel_0 rfl (lv_at hl 0 rfl) ?_
  refine lv_iload_n hx hb dX7_fuel_1 rfl (lv_at hl 1 rfl) ?_
  refine lv_iload_n hx hb dX7_fuel_2 rfl (lv_at hl 2 rfl) ?_
  refine lv_iload_n hx hb dX7_fuel_3 rfl (lv_at hl 3 rfl) ?_
  have hPc := hP.sub (ws' := [(x0, .inr (7, [.ref tp, .ref rd, .ref bk, .ref fl, .ref pl])), (bk, .inr (0, [.int lc, .int ln, .ref a2, .ref a3, .ref a4, .ref a5, .ref a6, .ref a7, .ref a8, .ref a9, .ref a10, .ref a11, .ref a12, .ref a13, .ref a14])), (fl, .inr (1, [.ref bk, .int fi, .int ff, .int ft, .int fd, .int fr, .int fw])), (a4, .inl (cI, 16, .inl f4)), (a5, .inl (cI, 16, .inl f5)), (a6, .inl (cI, 16, .inl f6)), (a7, .inl (cI, 16, .inl f7)), (a8, .inl (cI, 16, .inl f8)), (a9, .inl (cI, 6, .inl f9)), (a10, .inl (cI, 288, .inl f10))]) [0, 1, 2, 3, 4, 5, 6, 7, 8, 9] rfl
  have hDc := hD.sub (ws' := [(x0, .inr (7, [.ref tp, .ref rd, .ref bk, .ref fl, .ref pl])), (bk, .inr (0, [.int lc, .int ln, .ref a2, .ref a3, .ref a4, .ref a5, .ref a6, .ref a7, .ref a8, .ref a9, .ref a10, .ref a11, .ref a12, .ref a13, .ref a14])), (fl, .inr (1, [.ref bk, .int fi, .int ff, .int ft, .int fd, .int fr, .int fw])), (a4, .inl (cI, 16, .inl f4)), (a5, .inl (cI, 16, .inl f5)), (a6, .inl (cI, 16, .inl f6)), (a7, .inl (cI, 16, .inl f7)), (a8, .inl (cI, 16, .inl f8)), (a9, .inl (cI, 6, .inl f9)), (a10, .inl (cI, 288, .inl f10))]) [0, 1, 2, 3, 4, 5, 6, 7, 8, 9] (by decide) rfl
  have hFc := va_free (wc := [(x0, .inr (7, [.ref tp, .ref rd, .ref bk, .ref fl, .ref pl])), (bk, .inr (0, [.int lc, .int ln, .ref a2, .ref a3, .ref a4, .ref a5, .ref a6, .ref a7, .ref a8, .ref a9, .ref a10, .ref a11, .ref a12, .ref a13, .ref a14])), (fl, .inr (1, [.ref bk, .int fi, .int ff, .int ft, .int fd, .int fr, .int fw])), (a4, .inl (cI, 16, .inl f4)), (a5, .inl (cI, 16, .inl f5)), (a6, .inl (cI, 16, .inl f6)), (a7, .inl (cI, 16, .inl f7)), (a8, .inl (cI, 16, .inl f8)), (a9, .inl (cI, 6, .inl f9)), (a10, .inl (cI, 288, .inl f10))]) hD hS hA [0, 1, 2, 3, 4, 5, 6, 7, 8, 9] rfl
  refine va_calli (va_runV (As := [.int y1, .int y2, .int y3]) (rest := []) ⟨hx, hb, hml, hown, hts⟩ (k_minutes l D cI cB cP s.heap.size x0 tp rd bk fl pl lc ln a2 a3 a4 a5 a6 a7 a8 a9 a10 a11 a12 a13 a14 fi ff ft fd fr fw y1 y2 y3 f4 f5 f6 f7 f8 f9 f10 (show 0 ≤ lc.toInt ∧ lc.toInt ≤ 16 by first | assumption | omega | decide) (by assumption) (by assumption) (by assumption) (by assumption) (by assumption) (by assumption) (by assumption)) (cwV 3 hts gw_k_fuel_0 rfl rfl rfl (by decide +kernel) ⟨Nat.le_of_ble_eq_true rfl, Nat.le_of_ble_eq_true rfl⟩) ⟨ny_blind, va_recv hK hPc (ci := 7) (q0 := 0) rfl rfl, ny_pre hPc hK hN hDc⟩ rfl rfl hl.1 rfl (lv_room (Nat.le_of_ble_eq_true rfl)) dX7_fuel_4 ⟨Nat.le_of_ble_eq_true rfl, Nat.le_of_ble_eq_true rfl⟩) hS (fun q _ h => hFc q h) hFc (fun r1 u t H locs ht hvm hw hB hz1 hk1 hS => ?_)
  obtain ⟨hP1, hD1⟩ := hB
  rw [ht] at hP1
  obtain ⟨hP, hD⟩ := va_join (wr := [(a11, .inl (cI, 30, .inl f11))]) (w1 := [(x0, .inr (7, [.ref tp, .ref rd, .ref bk, .ref fl, .ref pl])), (bk, .inr (0, [.int lc, .int ln, .ref a2, .ref a3, .ref a4, .ref a5, .ref a6, .ref a7, .ref a8, .ref a9, .ref a10, .ref a11, .ref a12, .ref a13, .ref a14])), (fl, .inr (1, [.ref bk, .int fi, .int ff, .int ft, .int fd, .int fr, .int fw])), (a4, .inl (cI, 16, .inl f4)), (a5, .inl (cI, 16, .inl f5)), (a6, .inl (cI, 16, .inl f6)), (a7, .inl (cI, 16, .inl f7)), (a8, .inl (cI, 16, .inl f8)), (a9, .inl (cI, 6, .inl f9)), (a10, .inl (cI, 288, .inl f10))]) hP hD [0, 1, 2, 3, 4, 5, 6, 7, 8, 9] [10] rfl rfl (by decide) (by decide) hk1 hFc hP1 hD1
  have hP : va_P D vwCl [(a11, .inl (cI, 30, .inl f11)), (x0, .inr (7, [.ref tp, .ref rd, .ref bk, .ref fl, .ref pl])), (bk, .inr (0, [.int lc, .int ln, .ref a2, .ref a3, .ref a4, .ref a5, .ref a6, .ref a7, .ref a8, .ref a9, .ref a10, .ref a11, .ref a12, .ref a13, .ref a14])), (fl, .inr (1, [.ref bk, .int fi, .int ff, .int ft, .int fd, .int fr, .int fw])), (a4, .inl (cI, 16, .inl f4)), (a5, .inl (cI, 16, .inl f5)), (a6, .inl (cI, 16, .inl f6)), (a7, .inl (cI, 16, .inl f7)), (a8, .inl (cI, 16, .inl f8)), (a9, .inl (cI, 6, .inl f9)), (a10, .inl (cI, 288, .inl f10))] H := hP
  have hD : va_D A [(a11, .inl (cI, 30, .inl f11)), (x0, .inr (7, [.ref tp, .ref rd, .ref bk, .ref fl, .ref pl])), (bk, .inr (0, [.int lc, .int ln, .ref a2, .ref a3, .ref a4, .ref a5, .ref a6, .ref a7, .ref a8, .ref a9, .ref a10, .ref a11, .ref a12, .ref a13, .ref a14])), (fl, .inr (1, [.ref bk, .int fi, .int ff, .int ft, .int fd, .int fr, .int fw])), (a4, .inl (cI, 16, .inl f4)), (a5, .inl (cI, 16, .inl f5)), (a6, .inl (cI, 16, .inl f6)), (a7, .inl (cI, 16, .inl f7)), (a8, .inl (cI, 16, .inl f8)), (a9, .inl (cI, 6, .inl f9)), (a10, .inl (cI, 288, .inl f10))] := hD
  have hr1 : r1.toInt = (-1) ∨ (0 ≤ r1.toInt ∧ r1.toInt ≤ 1300 ∧ 0 ≤ y2.toInt ∧ y2.toInt ≤ 5) := hw
  refine lv_istore (lv' := [(5, .int r1), (0, .ref x0), (1, .int y1), (2, .int y2), (3, .int y3), (4, .int y4)]) hx hb dX7_fuel_7 hl (by decide) rfl (fun ls hl => ?_)
  refine lv_iload hx hb dX7_fuel_9 (lv_at hl 0 rfl) ?_
  refine lv_iconst (v := (-1)) hx hb dX7_fuel_11 (by decide) ?_
  refine lv_icmp_eq (tgt := 25) hx hb dX7_fuel_12 (by decide) (fun c2 => ?_) (fun c2 => ?_)
  · have tc2 : r1.toInt = (-1) := i32_eq c2
    refine lv_iconst (v := (-1)) hx hb dX7_fuel_25 (by decide) ?_
    have hP9 := hP.sub (ws' := [(x0, .inr (7, [.ref tp, .ref rd, .ref bk, .ref fl, .ref pl])), (bk, .inr (0, [.int lc, .int ln, .ref a2, .ref a3, .ref a4, .ref a5, .ref a6, .ref a7, .ref a8, .ref a9, .ref a10, .ref a11, .ref a12, .ref a13, .ref a14])), (fl, .inr (1, [.ref bk, .int fi, .int ff, .int ft, .int fd, .int fr, .int fw])), (a4, .inl (cI, 16, .inl f4)), (a5, .inl (cI, 16, .inl f5)), (a6, .inl (cI, 16, .inl f6)), (a7, .inl (cI, 16, .inl f7)), (a8, .inl (cI, 16, .inl f8)), (a9, .inl (cI, 6, .inl f9)), (a10, .inl (cI, 288, .inl f10)), (a11, .inl (cI, 30, .inl f11))]) [1, 2, 3, 4, 5, 6, 7, 8, 9, 10, 0] rfl
    have hD9 := hD.sub (ws' := [(x0, .inr (7, [.ref tp, .ref rd, .ref bk, .ref fl, .ref pl])), (bk, .inr (0, [.int lc, .int ln, .ref a2, .ref a3, .ref a4, .ref a5, .ref a6, .ref a7, .ref a8, .ref a9, .ref a10, .ref a11, .ref a12, .ref a13, .ref a14])), (fl, .inr (1, [.ref bk, .int fi, .int ff, .int ft, .int fd, .int fr, .int fw])), (a4, .inl (cI, 16, .inl f4)), (a5, .inl (cI, 16, .inl f5)), (a6, .inl (cI, 16, .inl f6)), (a7, .inl (cI, 16, .inl f7)), (a8, .inl (cI, 16, .inl f8)), (a9, .inl (cI, 6, .inl f9)), (a10, .inl (cI, 288, .inl f10)), (a11, .inl (cI, 30, .inl f11))]) [1, 2, 3, 4, 5, 6, 7, 8, 9, 10, 0] (by decide) rfl
    refine W.widen (k := 0) (n := 0) (by decide) (by decide) ?_
    exact W.iret (v := (-1)) hx hb hr (fun t ht hW => ⟨⟨(-1), (), rfl, (trivial), by rw [ht]; exact hP9, hD9⟩, hS.F ht⟩) hS.2.2 dX7_fuel_26
  · have tc2 : ¬ (r1.toInt = (-1)) := i32_neq c2
    refine lv_iload hx hb dX7_fuel_15 (lv_at hl 5 rfl) ?_
    refine lv_ldc hx hb hown (hts (.constant RX7 129 (60001)) (by decide +kernel)) dX7_fuel_17 ?_
    have hPc := hP.sub (ws' := []) [] rfl
    have hDc := hD.sub (ws' := []) [] (by decide) rfl
    have hFc := va_free (wc := []) hD hS hA [] rfl
    refine va_calli (va_runS (As := [.int y4, .int 60001]) (rest := []) ⟨hx, hb, hml, hown, hts⟩ (k_within l D cI cB cP H.size y4 60001) (cwS 2 hts gw_k_fuel_1 rfl rfl rfl (by decide +kernel) ⟨Nat.le_of_ble_eq_true rfl, Nat.le_of_ble_eq_true rfl⟩) ⟨ny_blind, ny_pre hPc hK hN hDc⟩ rfl rfl hl.1 rfl (lv_room (Nat.le_of_ble_eq_true rfl)) dX7_fuel_19 ⟨Nat.le_of_ble_eq_true rfl, Nat.le_of_ble_eq_true rfl⟩) hS (fun q _ h => hFc q h) hFc (fun r3 u t H locs ht hvm hw hB hz1 hk1 hS => ?_)
    obtain ⟨hP, hD⟩ := va_join (wr := [(a11, .inl (cI, 30, .inl f11)), (x0, .inr (7, [.ref tp, .ref rd, .ref bk, .ref fl, .ref pl])), (bk, .inr (0, [.int lc, .int ln, .ref a2, .ref a3, .ref a4, .ref a5, .ref a6, .ref a7, .ref a8, .ref a9, .ref a10, .ref a11, .ref a12, .ref a13, .ref a14])), (fl, .inr (1, [.ref bk, .int fi, .int ff, .int ft, .int fd, .int fr, .int fw])), (a4, .inl (cI, 16, .inl f4)), (a5, .inl (cI, 16, .inl f5)), (a6, .inl (cI, 16, .inl f6)), (a7, .inl (cI, 16, .inl f7)), (a8, .inl (cI, 16, .inl f8)), (a9, .inl (cI, 6, .inl f9)), (a10, .inl (cI, 288, .inl f10))]) (w1 := []) hP hD [] [0, 1, 2, 3, 4, 5, 6, 7, 8, 9, 10] rfl rfl (by decide) (by decide) hk1 hFc ny_P0 ny_D0
    have hP : va_P D vwCl [(a11, .inl (cI, 30, .inl f11)), (x0, .inr (7, [.ref tp, .ref rd, .ref bk, .ref fl, .ref pl])), (bk, .inr (0, [.int lc, .int ln, .ref a2, .ref a3, .ref a4, .ref a5, .ref a6, .ref a7, .ref a8, .ref a9, .ref a10, .ref a11, .ref a12, .ref a13, .ref a14])), (fl, .inr (1, [.ref bk, .int fi, .int ff, .int ft, .int fd, .int fr, .int fw])), (a4, .inl (cI, 16, .inl f4)), (a5, .inl (cI, 16, .inl f5)), (a6, .inl (cI, 16, .inl f6)), (a7, .inl (cI, 16, .inl f7)), (a8, .inl (cI, 16, .inl f8)), (a9, .inl (cI, 6, .inl f9)), (a10, .inl (cI, 288, .inl f10))] H := hP
    have hD : va_D A [(a11, .inl (cI, 30, .inl f11)), (x0, .inr (7, [.ref tp, .ref rd, .ref bk, .ref fl, .ref pl])), (bk, .inr (0, [.int lc, .int ln, .ref a2, .ref a3, .ref a4, .ref a5, .ref a6, .ref a7, .ref a8, .ref a9, .ref a10, .ref a11, .ref a12, .ref a13, .ref a14])), (fl, .inr (1, [.ref bk, .int fi, .int ff, .int ft, .int fd, .int fr, .int fw])), (a4, .inl (cI, 16, .inl f4)), (a5, .inl (cI, 16, .inl f5)), (a6, .inl (cI, 16, .inl f6)), (a7, .inl (cI, 16, .inl f7)), (a8, .inl (cI, 16, .inl f8)), (a9, .inl (cI, 6, .inl f9)), (a10, .inl (cI, 288, .inl f10))] := hD
    rcases hw with ⟨rfl, h4⟩ | ⟨rfl, h4⟩
    · have h4 : (0 ≤ y4.toInt ∧ y4.toInt < 60001) := h4
      refine lv_if_ne (tgt := 27) hx hb dX7_fuel_22 (by decide) (fun c5 => ?_) (fun h9 => (by first | exact absurd h9 (by decide) | exact absurd (by decide) h9))
      refine lv_aload_n hx hb dX7_fuel_27 rfl (lv_at hl 1 rfl) ?_
      refine va_get (D := D) (ci := 7) (v := .ref fl) (C := RX7) (T := TX7) (N := 5) hx hb hts iw_k_fuel_7 hown hK hP 1 rfl rfl 3 (by decide) (hts (.fieldLink RX7 40 "FlightDesk" "flight" "LFlightDesk$Flight;") (by decide +kernel)) (fun _ h9 => h9) rfl dX7_fuel_28 ?_
      refine lv_iload hx hb dX7_fuel_31 (lv_at hl 0 rfl) ?_
      refine lv_iload_n hx hb dX7_fuel_33 rfl (lv_at hl 3 rfl) ?_
      refine lv_iload hx hb dX7_fuel_34 (lv_at hl 5 rfl) ?_
      have hPc := hP.sub (ws' := [(fl, .inr (1, [.ref bk, .int fi, .int ff, .int ft, .int fd, .int fr, .int fw])), (bk, .inr (0, [.int lc, .int ln, .ref a2, .ref a3, .ref a4, .ref a5, .ref a6, .ref a7, .ref a8, .ref a9, .ref a10, .ref a11, .ref a12, .ref a13, .ref a14])), (a11, .inl (cI, 30, .inl f11))]) [3, 2, 0] rfl
      have hDc := hD.sub (ws' := [(fl, .inr (1, [.ref bk, .int fi, .int ff, .int ft, .int fd, .int fr, .int fw])), (bk, .inr (0, [.int lc, .int ln, .ref a2, .ref a3, .ref a4, .ref a5, .ref a6, .ref a7, .ref a8, .ref a9, .ref a10, .ref a11, .ref a12, .ref a13, .ref a14])), (a11, .inl (cI, 30, .inl f11))]) [3, 2, 0] (by decide) rfl
      have hFc := va_free (wc := [(fl, .inr (1, [.ref bk, .int fi, .int ff, .int ft, .int fd, .int fr, .int fw])), (bk, .inr (0, [.int lc, .int ln, .ref a2, .ref a3, .ref a4, .ref a5, .ref a6, .ref a7, .ref a8, .ref a9, .ref a10, .ref a11, .ref a12, .ref a13, .ref a14])), (a11, .inl (cI, 30, .inl f11))]) hD hS hA [3, 2, 0] rfl
      refine va_calli (va_runV (As := [.int r1, .int y2, .int y4]) (rest := []) ⟨hx, hb, hml, hown, hts⟩ (k_fuelOf l D cI cB cP H.size fl bk fi ff ft fd fr fw lc ln a2 a3 a4 a5 a6 a7 a8 a9 a10 a11 a12 a13 a14 r1 y2 y4 f11 (show 0 ≤ r1.toInt ∧ r1.toInt ≤ 1300 by first | assumption | omega | decide) (show 0 ≤ y2.toInt ∧ y2.toInt ≤ 5 by first | assumption | omega | decide) (show 0 ≤ y4.toInt ∧ y4.toInt ≤ 1100000000 by first | assumption | omega | decide) (show 0 ≤ fw.toInt ∧ fw.toInt ≤ 90000 by first | assumption | omega | decide) (by assumption)) (cwV 3 hts gw_k_fuel_2 rfl rfl rfl (by decide +kernel) ⟨Nat.le_of_ble_eq_true rfl, Nat.le_of_ble_eq_true rfl⟩) ⟨ny_blind, va_recv hK hPc (ci := 1) (q0 := 0) rfl rfl, ny_pre hPc hK hN hDc⟩ rfl rfl hl.1 rfl (lv_room (Nat.le_of_ble_eq_true rfl)) dX7_fuel_36 ⟨Nat.le_of_ble_eq_true rfl, Nat.le_of_ble_eq_true rfl⟩) hS (fun q _ h => hFc q h) hFc (fun r6 u t H locs ht hvm hw hB hz1 hk1 hS => ?_)
      obtain ⟨hP1, hD1⟩ := hB
      rw [ht] at hP1
      obtain ⟨hP, hD⟩ := va_join (wr := [(x0, .inr (7, [.ref tp, .ref rd, .ref bk, .ref fl, .ref pl])), (a4, .inl (cI, 16, .inl f4)), (a5, .inl (cI, 16, .inl f5)), (a6, .inl (cI, 16, .inl f6)), (a7, .inl (cI, 16, .inl f7)), (a8, .inl (cI, 16, .inl f8)), (a9, .inl (cI, 6, .inl f9)), (a10, .inl (cI, 288, .inl f10))]) (w1 := [(fl, .inr (1, [.ref bk, .int fi, .int ff, .int ft, .int fd, .int fr, .int fw])), (bk, .inr (0, [.int lc, .int ln, .ref a2, .ref a3, .ref a4, .ref a5, .ref a6, .ref a7, .ref a8, .ref a9, .ref a10, .ref a11, .ref a12, .ref a13, .ref a14])), (a11, .inl (cI, 30, .inl f11))]) hP hD [3, 2, 0] [1, 4, 5, 6, 7, 8, 9, 10] rfl rfl (by decide) (by decide) hk1 hFc hP1 hD1
      have hP : va_P D vwCl [(x0, .inr (7, [.ref tp, .ref rd, .ref bk, .ref fl, .ref pl])), (a4, .inl (cI, 16, .inl f4)), (a5, .inl (cI, 16, .inl f5)), (a6, .inl (cI, 16, .inl f6)), (a7, .inl (cI, 16, .inl f7)), (a8, .inl (cI, 16, .inl f8)), (a9, .inl (cI, 6, .inl f9)), (a10, .inl (cI, 288, .inl f10)), (fl, .inr (1, [.ref bk, .int fi, .int ff, .int ft, .int fd, .int fr, .int fw])), (bk, .inr (0, [.int lc, .int ln, .ref a2, .ref a3, .ref a4, .ref a5, .ref a6, .ref a7, .ref a8, .ref a9, .ref a10, .ref a11, .ref a12, .ref a13, .ref a14])), (a11, .inl (cI, 30, .inl f11))] H := hP
      have hD : va_D A [(x0, .inr (7, [.ref tp, .ref rd, .ref bk, .ref fl, .ref pl])), (a4, .inl (cI, 16, .inl f4)), (a5, .inl (cI, 16, .inl f5)), (a6, .inl (cI, 16, .inl f6)), (a7, .inl (cI, 16, .inl f7)), (a8, .inl (cI, 16, .inl f8)), (a9, .inl (cI, 6, .inl f9)), (a10, .inl (cI, 288, .inl f10)), (fl, .inr (1, [.ref bk, .int fi, .int ff, .int ft, .int fd, .int fr, .int fw])), (bk, .inr (0, [.int lc, .int ln, .ref a2, .ref a3, .ref a4, .ref a5, .ref a6, .ref a7, .ref a8, .ref a9, .ref a10, .ref a11, .ref a12, .ref a13, .ref a14])), (a11, .inl (cI, 30, .inl f11))] := hD
      have hr6 : 0 ≤ r6.toInt ∧ r6.toInt ≤ 216650 := hw
      have hP9 := hP.sub (ws' := [(x0, .inr (7, [.ref tp, .ref rd, .ref bk, .ref fl, .ref pl])), (bk, .inr (0, [.int lc, .int ln, .ref a2, .ref a3, .ref a4, .ref a5, .ref a6, .ref a7, .ref a8, .ref a9, .ref a10, .ref a11, .ref a12, .ref a13, .ref a14])), (fl, .inr (1, [.ref bk, .int fi, .int ff, .int ft, .int fd, .int fr, .int fw])), (a4, .inl (cI, 16, .inl f4)), (a5, .inl (cI, 16, .inl f5)), (a6, .inl (cI, 16, .inl f6)), (a7, .inl (cI, 16, .inl f7)), (a8, .inl (cI, 16, .inl f8)), (a9, .inl (cI, 6, .inl f9)), (a10, .inl (cI, 288, .inl f10)), (a11, .inl (cI, 30, .inl f11))]) [0, 9, 8, 1, 2, 3, 4, 5, 6, 7, 10] rfl
      have hD9 := hD.sub (ws' := [(x0, .inr (7, [.ref tp, .ref rd, .ref bk, .ref fl, .ref pl])), (bk, .inr (0, [.int lc, .int ln, .ref a2, .ref a3, .ref a4, .ref a5, .ref a6, .ref a7, .ref a8, .ref a9, .ref a10, .ref a11, .ref a12, .ref a13, .ref a14])), (fl, .inr (1, [.ref bk, .int fi, .int ff, .int ft, .int fd, .int fr, .int fw])), (a4, .inl (cI, 16, .inl f4)), (a5, .inl (cI, 16, .inl f5)), (a6, .inl (cI, 16, .inl f6)), (a7, .inl (cI, 16, .inl f7)), (a8, .inl (cI, 16, .inl f8)), (a9, .inl (cI, 6, .inl f9)), (a10, .inl (cI, 288, .inl f10)), (a11, .inl (cI, 30, .inl f11))]) [0, 9, 8, 1, 2, 3, 4, 5, 6, 7, 10] (by decide) rfl
      refine W.widen (k := 0) (n := 0) (by decide) (by decide) ?_
      exact W.iret (v := r6) hx hb hr (fun t ht hW => ⟨⟨r6, (), rfl, (trivial), by rw [ht]; exact hP9, hD9⟩, hS.F ht⟩) hS.2.2 dX7_fuel_39
    · have h4 : ¬ (0 ≤ y4.toInt ∧ y4.toInt < 60001) := h4
      refine lv_if_ne (tgt := 27) hx hb dX7_fuel_22 (by decide) (fun h9 => (by first | exact absurd h9 (by decide) | exact absurd (by decide) h9)) (fun c7 => ?_)
      refine lv_iconst (v := (-1)) hx hb dX7_fuel_25 (by decide) ?_
      have hP9 := hP.sub (ws' := [(x0, .inr (7, [.ref tp, .ref rd, .ref bk, .ref fl, .ref pl])), (bk, .inr (0, [.int lc, .int ln, .ref a2, .ref a3, .ref a4, .ref a5, .ref a6, .ref a7, .ref a8, .ref a9, .ref a10, .ref a11, .ref a12, .ref a13, .ref a14])), (fl, .inr (1, [.ref bk, .int fi, .int ff, .int ft, .int fd, .int fr, .int fw])), (a4, .inl (cI, 16, .inl f4)), (a5, .inl (cI, 16, .inl f5)), (a6, .inl (cI, 16, .inl f6)), (a7, .inl (cI, 16, .inl f7)), (a8, .inl (cI, 16, .inl f8)), (a9, .inl (cI, 6, .inl f9)), (a10, .inl (cI, 288, .inl f10)), (a11, .inl (cI, 30, .inl f11))]) [1, 2, 3, 4, 5, 6, 7, 8, 9, 10, 0] rfl
      have hD9 := hD.sub (ws' := [(x0, .inr (7, [.ref tp, .ref rd, .ref bk, .ref fl, .ref pl])), (bk, .inr (0, [.int lc, .int ln, .ref a2, .ref a3, .ref a4, .ref a5, .ref a6, .ref a7, .ref a8, .ref a9, .ref a10, .ref a11, .ref a12, .ref a13, .ref a14])), (fl, .inr (1, [.ref bk, .int fi, .int ff, .int ft, .int fd, .int fr, .int fw])), (a4, .inl (cI, 16, .inl f4)), (a5, .inl (cI, 16, .inl f5)), (a6, .inl (cI, 16, .inl f6)), (a7, .inl (cI, 16, .inl f7)), (a8, .inl (cI, 16, .inl f8)), (a9, .inl (cI, 6, .inl f9)), (a10, .inl (cI, 288, .inl f10)), (a11, .inl (cI, 30, .inl f11))]) [1, 2, 3, 4, 5, 6, 7, 8, 9, 10, 0] (by decide) rfl
      refine W.widen (k := 0) (n := 0) (by decide) (by decide) ?_
      exact W.iret (v := (-1)) hx hb hr (fun t ht hW => ⟨⟨(-1), (), rfl, (trivial), by rw [ht]; exact hP9, hD9⟩, hS.F ht⟩) hS.2.2 dX7_fuel_26
