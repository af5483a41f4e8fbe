def wk_k_mflight : List Cond := .code yX8_flight cX8_flight 6 (some .boolean) :: ([.methodLink RX8 230 yX8_isPoint, .static yX8_isPoint, .initialized RX8, .code yX8_isPoint cX8_isPoint 1 (some .boolean), .fieldLink RX8 233 "FlightDeskModel" "start" "I", .fieldLink RX8 236 "FlightDeskModel" "goal" "I", .fieldLink RX8 239 "FlightDeskModel" "day" "I", .fieldLink RX8 242 "FlightDeskModel" "payload" "I", .fieldLink RX8 245 "FlightDeskModel" "reserve" "I", .fieldLink RX8 140 "FlightDeskModel" "hasFlight" "Z"] ++ wsX80)
theorem iw_k_mflight_8 : ∀ w ∈ wsX80, w ∈ wk_k_mflight := fun _ h => List.mem_cons_of_mem _ (List.mem_append_right _ h)
set_option maxRecDepth 20000 in
theorem gw_k_mflight_0 : GoodIn wk_k_mflight (wsS RX8 230 yX8_isPoint wk_k_misPoint) := goodIn_sub (by decide +kernel) (by decide +kernel)
set_option maxHeartbeats 4000000 in
set_option maxRecDepth 100000 in
theorem k_mflight (l : Launch) (D : va_G) (cI cB cP : ClassId) (sz : Nat) (m0 : Nat) (r0 : Nat) (r1 : Nat) (r11 : Nat) (r12 : Nat) (r13 : Nat) (r14 : Nat) (r15 : Nat) (r16 : Nat) (r17 : Nat) (r18 : Nat) (r19 : Nat) (r20 : Nat) (r21 : Nat) (r22 : Nat) (r23 : Nat) (r24 : Nat) (r34 : Nat) (r35 : Nat) (r36 : Nat) (r39 : Nat) (x1 : Int32) (x2 : Int32) (x3 : Int32) (x4 : Int32) (x5 : Int32) : Met l yX8_flight wk_k_mflight ({ frames := 1, cells := 0, slots := 0, locals := 20 } : Room) (va_Pc [.ref m0, .int x1, .int x2, .int x3, .int x4, .int x5] (Pw D cI cB cP sz [(m0, .inr (8, [.ref r0, .ref r1, .int 0, .int 0, .int 0, .int (-1), .int 0, .int 0, .int 0, .int 0, .long 0, .ref r11, .ref r12, .ref r13, .ref r14, .ref r15, .ref r16, .ref r17, .ref r18, .ref r19, .ref r20, .ref r21, .ref r22, .ref r23, .ref r24, .int 0, .int 0, .int 0, .int 0, .int 0, .int 0, .int 0, .int 0, .int 0, .ref r34, .ref r35, .ref r36, .int 0, .int 0, .ref r39]))])) (va_Qi (fun (r : Int32) (_ : Unit) => ny_bool r (s_flight x1 x2 x3 x4 x5)) (fun _ _ => True) (va_A [(m0, .inr (8, [.ref r0, .ref r1, .int 0, .int 0, .int 0, .int (-1), .int 0, .int 0, .int 0, .int 0, .long 0, .ref r11, .ref r12, .ref r13, .ref r14, .ref r15, .ref r16, .ref r17, .ref r18, .ref r19, .ref r20, .ref r21, .ref r22, .ref r23, .ref r24, .int 0, .int 0, .int 0, .int 0, .int 0, .int 0, .int 0, .int 0, .int 0, .ref r34, .ref r35, .ref r36, .int 0, .int 0, .ref r39]))] sz)) 0 0 (va_A [(m0, .inr (8, [.ref r0, .ref r1, .int 0, .int 0, .int 0, .int (-1), .int 0, .int 0, .int 0, .int 0, .long 0, .ref r11, .ref r12, .ref r13, .ref r14, .ref r15, .ref r16, .ref r17, .ref r18, .ref r19, .ref r20, .ref r21, .ref r22, .ref r23, .ref r24, .int 0, .int 0, .int 0, .int 0, .int 0, .int 0, .int 0, .int 0, .int 0, .ref r34, .ref r35, .ref r36, .int 0, .int 0, .ref r39]))] sz) := by
  refine Met.ofW (cc := cX8_flight) (maxL := 6) (ret := (some .boolean)) (by decide) rfl ?_
  intro p e s m args below meth c s₁ B hml hv
  obtain ⟨rfl, hsz, hP, ⟨hK, hN⟩, hD0⟩ := hv
  have hx := B.exec
  have hb := B.bytes
  have hr := B.returns
  have hts := atoms_spec (ws := wk_k_mflight) B.pre
  have hown : s.vm.findClass RX8 = some m.cls := findClass_of_methodNamed B.named
  have hlocks := B.notSynchronized
  subst hsz
  have hD := hD0.self (sz := s.heap.size)
  generalize hAe : va_A [(m0, .inr (8, [.ref r0, .ref r1, .int 0, .int 0, .int 0, .int (-1), .int 0, .int 0, .int 0, .int 0, .long 0, .ref r11, .ref r12, .ref r13, .ref r14, .ref r15, .ref r16, .ref r17, .ref r18, .ref r19, .ref r20, .ref r21, .ref r22, .ref r23, .ref r24, .int 0, .int 0, .int 0, .int 0, .int 0, .int 0, .int 0, .int 0, .int 0, .ref r34, .ref r35, .ref r36, .int 0, .int 0, .ref r39]))] s.heap.size = A at hD ⊢
  have hA : ∀ q : Nat, s.heap.size ≤ q → A q := fun q h => by rw [← hAe]; exact Or.inr h
  have hS : va_S A s.heap s.heap [] := va_S.rf
  have hP : va_P D vwCl [(m0, .inr (8, [.ref r0, .ref r1, .int 0, .int 0, .int 0, .int (-1), .int 0, .int 0, .int 0, .int 0, .long 0, .ref r11, .ref r12, .ref r13, .ref r14, .ref r15, .ref r16, .ref r17, .ref r18, .ref r19, .ref r20, .ref r21, .ref r22, .ref r23, .ref r24, .int 0, .int 0, .int 0, .int 0, .int 0, .int 0, .int 0, .int 0, .int 0, .ref r34, .ref r35, .ref r36, .int 0, .int 0, .ref r39]))] s.heap := hP
  have hl := lv_entry ([.ref m0, .int x1, .int x2, .int x3, .int x4, .int x5]) (n := 6) (Nat.le_of_ble_eq_true rfl)
  rw [lg_entry_eq]
  generalize (lg_sl ([.ref m0, .int x1, .int x2, .int x3, .int x4, .int x5]) ++ List.replicate (6 - (lg_sl ([.ref m0, .int x1, .int x2, .int x3, .int x4, .int x5])).length) Slot.unset).toArray = ls at hl ⊢
  have hl : lv_has ls 6 [(0, .ref m0), (1, .int x1), (2, .int x2), (3, .int x3), (4, .int x4), (5, .int x5)] := hl
  refine lv_iload_n hx hb dX8_flight_0 rfl (lv_at hl 1 rfl) ?_
  have hPc := hP.sub (ws' := []) [] rfl
  have hDc := hD.sub (ws' := []) [] (by decide) rfl
  have hFc := va_free (wc := []) hD hS hA [] rfl
  refine va_calli (va_runS (As := [.int x1]) (rest := []) ⟨hx, hb, hml, hown, hts⟩ (k_misPoint l D cI cB cP s.heap.size x1) (cwS 1 hts gw_k_mflight_0 rfl rfl rfl (by decide +kernel) ⟨Nat.le_of_ble_eq_true rfl, Nat.le_of_ble_eq_true rfl⟩) ⟨ny_blind, ny_pre hPc hK hN hDc⟩ rfl rfl hl.1 rfl (lv_room (Nat.le_of_ble_eq_true rfl)) dX8_flight_1 ⟨Nat.le_of_ble_eq_true rfl, Nat.le_of_ble_eq_true rfl⟩) hS (fun q _ h => hFc q h) hFc (fun rx1 u t H locs ht hvm hw hB hz1 hk1 hS => ?_)
  obtain ⟨hP, hD⟩ := va_join (wr := [(m0, .inr (8, [.ref r0, .ref r1, .int 0, .int 0, .int 0, .int (-1), .int 0, .int 0, .int 0, .int 0, .long 0, .ref r11, .ref r12, .ref r13, .ref r14, .ref r15, .ref r16, .ref r17, .ref r18, .ref r19, .ref r20, .ref r21, .ref r22, .ref r23, .ref r24, .int 0, .int 0, .int 0, .int 0, .int 0, .int 0, .int 0, .int 0, .int 0, .ref r34, .ref r35, .ref r36, .int 0, .int 0, .ref r39]))]) (w1 := []) hP hD [] [0] rfl rfl (by decide) (by decide) hk1 hFc ny_P0 ny_D0
  have hP : va_P D vwCl [(m0, .inr (8, [.ref r0, .ref r1, .int 0, .int 0, .int 0, .int (-1), .int 0, .int 0, .int 0, .int 0, .long 0, .ref r11, .ref r12, .ref r13, .ref r14, .ref r15, .ref r16, .ref r17, .ref r18, .ref r19, .ref r20, .ref r21, .ref r22, .ref r23, .ref r24, .int 0, .int 0, .int 0, .int 0, .int 0, .int 0, .int 0, .int 0, .int 0, .ref r34, .ref r35, .ref r36, .int 0, .int 0, .ref r39]))] H := hP
  have hD : va_D A [(m0, .inr (8, [.ref r0, .ref r1, .int 0, .int 0, .int 0, .int (-1), .int 0, .int 0, .int 0, .int 0, .long 0, .ref r11, .ref r12, .ref r13, .ref r14, .ref r15, .ref r16, .ref r17, .ref r18, .ref r19, .ref r20, .ref r21, .ref r22, .ref r23, .ref r24, .int 0, .int 0, .int 0, .int 0, .int 0, .int 0, .int 0, .int 0, .int 0, .ref r34, .ref r35, .ref r36, .int 0, .int 0, .ref r39]))] := hD
  rcases hw with ⟨rfl, h2⟩ | ⟨rfl, h2⟩
  · refine lv_if_eq (tgt := 56) hx hb dX8_flight_4 (by decide) (fun h9 => (by first | exact absurd h9 (by decide) | exact absurd (by decide) h9)) (fun c3 => ?_)
    refine lv_iload_n hx hb dX8_flight_7 rfl (lv_at hl 2 rfl) ?_
    have hPc := hP.sub (ws' := []) [] rfl
    have hDc := hD.sub (ws' := []) [] (by decide) rfl
    have hFc := va_free (wc := []) hD hS hA [] rfl
    refine va_calli (va_runS (As := [.int x2]) (rest := []) ⟨hx, hb, hml, hown, hts⟩ (k_misPoint l D cI cB cP H.size x2) (cwS 1 hts gw_k_mflight_0 rfl rfl rfl (by decide +kernel) ⟨Nat.le_of_ble_eq_true rfl, Nat.le_of_ble_eq_true rfl⟩) ⟨ny_blind, ny_pre hPc hK hN hDc⟩ rfl rfl hl.1 rfl (lv_room (Nat.le_of_ble_eq_true rfl)) dX8_flight_8 ⟨Nat.le_of_ble_eq_true rfl, Nat.le_of_ble_eq_true rfl⟩) hS (fun q _ h => hFc q h) hFc (fun r4 u t H locs ht hvm hw hB hz1 hk1 hS => ?_)
    obtain ⟨hP, hD⟩ := va_join (wr := [(m0, .inr (8, [.ref r0, .ref r1, .int 0, .int 0, .int 0, .int (-1), .int 0, .int 0, .int 0, .int 0, .long 0, .ref r11, .ref r12, .ref r13, .ref r14, .ref r15, .ref r16, .ref r17, .ref r18, .ref r19, .ref r20, .ref r21, .ref r22, .ref r23, .ref r24, .int 0, .int 0, .int 0, .int 0, .int 0, .int 0, .int 0, .int 0, .int 0, .ref r34, .ref r35, .ref r36, .int 0, .int 0, .ref r39]))]) (w1 := []) hP hD [] [0] rfl rfl (by decide) (by decide) hk1 hFc ny_P0 ny_D0
    have hP : va_P D vwCl [(m0, .inr (8, [.ref r0, .ref r1, .int 0, .int 0, .int 0, .int (-1), .int 0, .int 0, .int 0, .int 0, .long 0, .ref r11, .ref r12, .ref r13, .ref r14, .ref r15, .ref r16, .ref r17, .ref r18, .ref r19, .ref r20, .ref r21, .ref r22, .ref r23, .ref r24, .int 0, .int 0, .int 0, .int 0, .int 0, .int 0, .int 0, .int 0, .int 0, .ref r34, .ref r35, .ref r36, .int 0, .int 0, .ref r39]))] H := hP
    have hD : va_D A [(m0, .inr (8, [.ref r0, .ref r1, .int 0, .int 0, .int 0, .int (-1), .int 0, .int 0, .int 0, .int 0, .long 0, .ref r11, .ref r12, .ref r13, .ref r14, .ref r15, .ref r16, .ref r17, .ref r18, .ref r19, .ref r20, .ref r21, .ref r22, .ref r23, .ref r24, .int 0, .int 0, .int 0, .int 0, .int 0, .int 0, .int 0, .int 0, .int 0, .ref r34, .ref r35, .ref r36, .int 0, .int 0, .ref r39]))] := hD
    rcases hw with ⟨rfl, h5⟩ | ⟨rfl, h5⟩
    · refine lv_if_eq (tgt := 56) hx hb dX8_flight_11 (by decide) (fun h9 => (by first | exact absurd h9 (by decide) | exact absurd (by decide) h9)) (fun c6 => ?_)
      refine lv_iload_n hx hb dX8_flight_14 rfl (lv_at hl 1 rfl) ?_
      refine lv_iload_n hx hb dX8_flight_15 rfl (lv_at hl 2 rfl) ?_
      refine lv_icmp_eq (tgt := 56) hx hb dX8_flight_16 (by decide) (fun c7 => ?_) (fun c7 => ?_)
      · refine lv_iconst (v := 0) hx hb dX8_flight_56 (by decide) ?_
        refine W.widen (k := 0) (n := 0) (by decide) (by decide) ?_
        exact W.zret (v := 0) hx hb hr (by decide) (fun t ht hW => ⟨⟨0, (), rfl, Or.inr ⟨rfl, fun q => by obtain ⟨q1, q2, q3, q4, q5, q6⟩ := q; first | contradiction | (simp only [ny_in, Int32.lt_iff_toInt_lt, Int32.le_iff_toInt_le, show (0 : Int32).toInt = 0 from rfl, show (999 : Int32).toInt = 999 from rfl, show (1000 : Int32).toInt = 1000 from rfl, show (30000 : Int32).toInt = 30000 from rfl, show (30001 : Int32).toInt = 30001 from rfl, show (10000 : Int32).toInt = 10000 from rfl, show (10001 : Int32).toInt = 10001 from rfl] at q4 q5 q6 ; omega)⟩, trivial⟩, hS.F ht⟩) hS.2.2 dX8_flight_57
      · refine lv_iload_n hx hb dX8_flight_19 rfl (lv_at hl 3 rfl) ?_
        refine lv_if_lt (tgt := 56) hx hb dX8_flight_20 (by decide) (fun c8 => ?_) (fun c8 => ?_)
        · refine lv_iconst (v := 0) hx hb dX8_flight_56 (by decide) ?_
          refine W.widen (k := 0) (n := 0) (by decide) (by decide) ?_
          exact W.zret (v := 0) hx hb hr (by decide) (fun t ht hW => ⟨⟨0, (), rfl, Or.inr ⟨rfl, fun q => by obtain ⟨q1, q2, q3, q4, q5, q6⟩ := q; first | contradiction | (simp only [ny_in, Int32.lt_iff_toInt_lt, Int32.le_iff_toInt_le, show (0 : Int32).toInt = 0 from rfl, show (999 : Int32).toInt = 999 from rfl, show (1000 : Int32).toInt = 1000 from rfl, show (30000 : Int32).toInt = 30000 from rfl, show (30001 : Int32).toInt = 30001 from rfl, show (10000 : Int32).toInt = 10000 from rfl, show (10001 : Int32).toInt = 10001 from rfl] at q4 q5 q6 c8; omega)⟩, trivial⟩, hS.F ht⟩) hS.2.2 dX8_flight_57
        · refine lv_iload_n hx hb dX8_flight_23 rfl (lv_at hl 3 rfl) ?_
          refine lv_sipush (v := 999) hx hb dX8_flight_24 (by decide) ?_
          refine lv_icmp_gt (tgt := 56) hx hb dX8_flight_27 (by decide) (fun c9 => ?_) (fun c9 => ?_)
          · refine lv_iconst (v := 0) hx hb dX8_flight_56 (by decide) ?_
            refine W.widen (k := 0) (n := 0) (by decide) (by decide) ?_
            exact W.zret (v := 0) hx hb hr (by decide) (fun t ht hW => ⟨⟨0, (), rfl, Or.inr ⟨rfl, fun q => by obtain ⟨q1, q2, q3, q4, q5, q6⟩ := q; first | contradiction | (simp only [ny_in, Int32.lt_iff_toInt_lt, Int32.le_iff_toInt_le, show (0 : Int32).toInt = 0 from rfl, show (999 : Int32).toInt = 999 from rfl, show (1000 : Int32).toInt = 1000 from rfl, show (30000 : Int32).toInt = 30000 from rfl, show (30001 : Int32).toInt = 30001 from rfl, show (10000 : Int32).toInt = 10000 from rfl, show (10001 : Int32).toInt = 10001 from rfl] at q4 q5 q6 c8 c9; omega)⟩, trivial⟩, hS.F ht⟩) hS.2.2 dX8_flight_57
          · refine lv_iload hx hb dX8_flight_30 (lv_at hl 4 rfl) ?_
            refine lv_if_lt (tgt := 56) hx hb dX8_flight_32 (by decide) (fun c10 => ?_) (fun c10 => ?_)
            · refine lv_iconst (v := 0) hx hb dX8_flight_56 (by decide) ?_
              refine W.widen (k := 0) (n := 0) (by decide) (by decide) ?_
              exact W.zret (v := 0) hx hb hr (by decide) (fun t ht hW => ⟨⟨0, (), rfl, Or.inr ⟨rfl, fun q => by obtain ⟨q1, q2, q3, q4, q5, q6⟩ := q; first | contradiction | (simp only [ny_in, Int32.lt_iff_toInt_lt, Int32.le_iff_toInt_le, show (0 : Int32).toInt = 0 from rfl, show (999 : Int32).toInt = 999 from rfl, show (1000 : Int32).toInt = 1000 from rfl, show (30000 : Int32).toInt = 30000 from rfl, show (30001 : Int32).toInt = 30001 from rfl, show (10000 : Int32).toInt = 10000 from rfl, show (10001 : Int32).toInt = 10001 from rfl] at q4 q5 q6 c8 c9 c10; omega)⟩, trivial⟩, hS.F ht⟩) hS.2.2 dX8_flight_57
            · refine lv_iload hx hb dX8_flight_35 (lv_at hl 4 rfl) ?_
              refine lv_sipush (v := 30000) hx hb dX8_flight_37 (by decide) ?_
              refine lv_icmp_gt (tgt := 56) hx hb dX8_flight_40 (by decide) (fun c11 => ?_) (fun c11 => ?_)
              · refine lv_iconst (v := 0) hx hb dX8_flight_56 (by decide) ?_
                refine W.widen (k := 0) (n := 0) (by decide) (by decide) ?_
                exact W.zret (v := 0) hx hb hr (by decide) (fun t ht hW => ⟨⟨0, (), rfl, Or.inr ⟨rfl, fun q => by obtain ⟨q1, q2, q3, q4, q5, q6⟩ := q; first | contradiction | (simp only [ny_in, Int32.lt_iff_toInt_lt, Int32.le_iff_toInt_le, show (0 : Int32).toInt = 0 from rfl, show (999 : Int32).toInt = 999 from rfl, show (1000 : Int32).toInt = 1000 from rfl, show (30000 : Int32).toInt = 30000 from rfl, show (30001 : Int32).toInt = 30001 from rfl, show (10000 : Int32).toInt = 10000 from rfl, show (10001 : Int32).toInt = 10001 from rfl] at q4 q5 q6 c8 c9 c10 c11; omega)⟩, trivial⟩, hS.F ht⟩) hS.2.2 dX8_flight_57
              · refine lv_iload hx hb dX8_flight_43 (lv_at hl 5 rfl) ?_
                refine lv_if_lt (tgt := 56) hx hb dX8_flight_45 (by decide) (fun c12 => ?_) (fun c12 => ?_)
                · refine lv_iconst (v := 0) hx hb dX8_flight_56 (by decide) ?_
                  refine W.widen (k := 0) (n := 0) (by decide) (by decide) ?_
                  exact W.zret (v := 0) hx hb hr (by decide) (fun t ht hW => ⟨⟨0, (), rfl, Or.inr ⟨rfl, fun q => by obtain ⟨q1, q2, q3, q4, q5, q6⟩ := q; first | contradiction | (simp only [ny_in, Int32.lt_iff_toInt_lt, Int32.le_iff_toInt_le, show (0 : Int32).toInt = 0 from rfl, show (999 : Int32).toInt = 999 from rfl, show (1000 : Int32).toInt = 1000 from rfl, show (30000 : Int32).toInt = 30000 from rfl, show (30001 : Int32).toInt = 30001 from rfl, show (10000 : Int32).toInt = 10000 from rfl, show (10001 : Int32).toInt = 10001 from rfl] at q4 q5 q6 c8 c9 c10 c11 c12; omega)⟩, trivial⟩, hS.F ht⟩) hS.2.2 dX8_flight_57
                · refine lv_iload hx hb dX8_flight_48 (lv_at hl 5 rfl) ?_
                  refine lv_sipush (v := 10000) hx hb dX8_flight_50 (by decide) ?_
                  refine lv_icmp_le (tgt := 58) hx hb dX8_flight_53 (by decide) (fun c13 => ?_) (fun c13 => ?_)
                  · refine lv_aload_n hx hb dX8_flight_58 rfl (lv_at hl 0 rfl) ?_
                    refine lv_iload_n hx hb dX8_flight_59 rfl (lv_at hl 1 rfl) ?_
                    refine va_put (D := D) (ci := 8) (v := .int x1) (ty := .int) (C := RX8) (T := TX8) (N := 40) hx hb hts iw_k_mflight_8 tyX8 tyX8_ok nmX8 hown hK hP hD hS 0 rfl rfl 28 (by decide) (hts (.fieldLink RX8 233 "FlightDeskModel" "start" "I") (by decide +kernel)) (fun _ h9 => h9) rfl (by decide +kernel) rfl rfl (Nat.le_of_ble_eq_true rfl) dX8_flight_60 (fun H locs hP hD hS => ?_)
                    have hP : va_P D vwCl [(m0, .inr (8, [.ref r0, .ref r1, .int 0, .int 0, .int 0, .int (-1), .int 0, .int 0, .int 0, .int 0, .long 0, .ref r11, .ref r12, .ref r13, .ref r14, .ref r15, .ref r16, .ref r17, .ref r18, .ref r19, .ref r20, .ref r21, .ref r22, .ref r23, .ref r24, .int 0, .int 0, .int 0, .int x1, .int 0, .int 0, .int 0, .int 0, .int 0, .ref r34, .ref r35, .ref r36, .int 0, .int 0, .ref r39]))] H := hP
                    have hD : va_D A [(m0, .inr (8, [.ref r0, .ref r1, .int 0, .int 0, .int 0, .int (-1), .int 0, .int 0, .int 0, .int 0, .long 0, .ref r11, .ref r12, .ref r13, .ref r14, .ref r15, .ref r16, .ref r17, .ref r18, .ref r19, .ref r20, .ref r21, .ref r22, .ref r23, .ref r24, .int 0, .int 0, .int 0, .int x1, .int 0, .int 0, .int 0, .int 0, .int 0, .ref r34, .ref r35, .ref r36, .int 0, .int 0, .ref r39]))] := hD
                    refine lv_aload_n hx hb dX8_flight_63 rfl (lv_at hl 0 rfl) ?_
                    refine lv_iload_n hx hb dX8_flight_64 rfl (lv_at hl 2 rfl) ?_
                    refine va_put (D := D) (ci := 8) (v := .int x2) (ty := .int) (C := RX8) (T := TX8) (N := 40) hx hb hts iw_k_mflight_8 tyX8 tyX8_ok nmX8 hown hK hP hD hS 0 rfl rfl 29 (by decide) (hts (.fieldLink RX8 236 "FlightDeskModel" "goal" "I") (by decide +kernel)) (fun _ h9 => h9) rfl (by decide +kernel) rfl rfl (Nat.le_of_ble_eq_true rfl) dX8_flight_65 (fun H locs hP hD hS => ?_)
                    have hP : va_P D vwCl [(m0, .inr (8, [.ref r0, .ref r1, .int 0, .int 0, .int 0, .int (-1), .int 0, .int 0, .int 0, .int 0, .long 0, .ref r11, .ref r12, .ref r13, .ref r14, .ref r15, .ref r16, .ref r17, .ref r18, .ref r19, .ref r20, .ref r21, .ref r22, .ref r23, .ref r24, .int 0, .int 0, .int 0, .int x1, .int x2, .int 0, .int 0, .int 0, .int 0, .ref r34, .ref r35, .ref r36, .int 0, .int 0, .ref r39]))] H := hP
                    have hD : va_D A [(m0, .inr (8, [.ref r0, .ref r1, .int 0, .int 0, .int 0, .int (-1), .int 0, .int 0, .int 0, .int 0, .long 0, .ref r11, .ref r12, .ref r13, .ref r14, .ref r15, .ref r16, .ref r17, .ref r18, .ref r19, .ref r20, .ref r21, .ref r22, .ref r23, .ref r24, .int 0, .int 0, .int 0, .int x1, .int x2, .int 0, .int 0, .int 0, .int 0, .ref r34, .ref r35, .ref r36, .int 0, .int 0, .ref r39]))] := hD
                    refine lv_aload_n hx hb dX8_flight_68 rfl (lv_at hl 0 rfl) ?_
                    refine lv_iload_n hx hb dX8_flight_69 rfl (lv_at hl 3 rfl) ?_
                    refine va_put (D := D) (ci := 8) (v := .int x3) (ty := .int) (C := RX8) (T := TX8) (N := 40) hx hb hts iw_k_mflight_8 tyX8 tyX8_ok nmX8 hown hK hP hD hS 0 rfl rfl 30 (by decide) (hts (.fieldLink RX8 239 "FlightDeskModel" "day" "I") (by decide +kernel)) (fun _ h9 => h9) rfl (by decide +kernel) rfl rfl (Nat.le_of_ble_eq_true rfl) dX8_flight_70 (fun H locs hP hD hS => ?_)
                    have hP : va_P D vwCl [(m0, .inr (8, [.ref r0, .ref r1, .int 0, .int 0, .int 0, .int (-1), .int 0, .int 0, .int 0, .int 0, .long 0, .ref r11, .ref r12, .ref r13, .ref r14, .ref r15, .ref r16, .ref r17, .ref r18, .ref r19, .ref r20, .ref r21, .ref r22, .ref r23, .ref r24, .int 0, .int 0, .int 0, .int x1, .int x2, .int x3, .int 0, .int 0, .int 0, .ref r34, .ref r35, .ref r36, .int 0, .int 0, .ref r39]))] H := hP
                    have hD : va_D A [(m0, .inr (8, [.ref r0, .ref r1, .int 0, .int 0, .int 0, .int (-1), .int 0, .int 0, .int 0, .int 0, .long 0, .ref r11, .ref r12, .ref r13, .ref r14, .ref r15, .ref r16, .ref r17, .ref r18, .ref r19, .ref r20, .ref r21, .ref r22, .ref r23, .ref r24, .int 0, .int 0, .int 0, .int x1, .int x2, .int x3, .int 0, .int 0, .int 0, .ref r34, .ref r35, .ref r36, .int 0, .int 0, .ref r39]))] := hD
                    refine lv_aload_n hx hb dX8_flight_73 rfl (lv_at hl 0 rfl) ?_
                    refine lv_iload hx hb dX8_flight_74 (lv_at hl 4 rfl) ?_
                    refine va_put (D := D) (ci := 8) (v := .int x4) (ty := .int) (C := RX8) (T := TX8) (N := 40) hx hb hts iw_k_mflight_8 tyX8 tyX8_ok nmX8 hown hK hP hD hS 0 rfl rfl 31 (by decide) (hts (.fieldLink RX8 242 "FlightDeskModel" "payload" "I") (by decide +kernel)) (fun _ h9 => h9) rfl (by decide +kernel) rfl rfl (Nat.le_of_ble_eq_true rfl) dX8_flight_76 (fun H locs hP hD hS => ?_)
                    have hP : va_P D vwCl [(m0, .inr (8, [.ref r0, .ref r1, .int 0, .int 0, .int 0, .int (-1), .int 0, .int 0, .int 0, .int 0, .long 0, .ref r11, .ref r12, .ref r13, .ref r14, .ref r15, .ref r16, .ref r17, .ref r18, .ref r19, .ref r20, .ref r21, .ref r22, .ref r23, .ref r24, .int 0, .int 0, .int 0, .int x1, .int x2, .int x3, .int x4, .int 0, .int 0, .ref r34, .ref r35, .ref r36, .int 0, .int 0, .ref r39]))] H := hP
                    have hD : va_D A [(m0, .inr (8, [.ref r0, .ref r1, .int 0, .int 0, .int 0, .int (-1), .int 0, .int 0, .int 0, .int 0, .long 0, .ref r11, .ref r12, .ref r13, .ref r14, .ref r15, .ref r16, .ref r17, .ref r18, .ref r19, .ref r20, .ref r21, .ref r22, .ref r23, .ref r24, .int 0, .int 0, .int 0, .int x1, .int x2, .int x3, .int x4, .int 0, .int 0, .ref r34, .ref r35, .ref r36, .int 0, .int 0, .ref r39]))] := hD
                    refine lv_aload_n hx hb dX8_flight_79 rfl (lv_at hl 0 rfl) ?_
                    refine lv_iload hx hb dX8_flight_80 (lv_at hl 5 rfl) ?_
                    refine va_put (D := D) (ci := 8) (v := .int x5) (ty := .int) (C := RX8) (T := TX8) (N := 40) hx hb hts iw_k_mflight_8 tyX8 tyX8_ok nmX8 hown hK hP hD hS 0 rfl rfl 32 (by decide) (hts (.fieldLink RX8 245 "FlightDeskModel" "reserve" "I") (by decide +kernel)) (fun _ h9 => h9) rfl (by decide +kernel) rfl rfl (Nat.le_of_ble_eq_true rfl) dX8_flight_82 (fun H locs hP hD hS => ?_)
                    have hP : va_P D vwCl [(m0, .inr (8, [.ref r0, .ref r1, .int 0, .int 0, .int 0, .int (-1), .int 0, .int 0, .int 0, .int 0, .long 0, .ref r11, .ref r12, .ref r13, .ref r14, .ref r15, .ref r16, .ref r17, .ref r18, .ref r19, .ref r20, .ref r21, .ref r22, .ref r23, .ref r24, .int 0, .int 0, .int 0, .int x1, .int x2, .int x3, .int x4, .int x5, .int 0, .ref r34, .ref r35, .ref r36, .int 0, .int 0, .ref r39]))] H := hP
                    have hD : va_D A [(m0, .inr (8, [.ref r0, .ref r1, .int 0, .int 0, .int 0, .int (-1), .int 0, .int 0, .int 0, .int 0, .long 0, .ref r11, .ref r12, .ref r13, .ref r14, .ref r15, .ref r16, .ref r17, .ref r18, .ref r19, .ref r20, .ref r21, .ref r22, .ref r23, .ref r24, .int 0, .int 0, .int 0, .int x1, .int x2, .int x3, .int x4, .int x5, .int 0, .ref r34, .ref r35, .ref r36, .int 0, .int 0, .ref r39]))] := hD
                    refine lv_aload_n hx hb dX8_flight_85 rfl (lv_at hl 0 rfl) ?_
                    refine lv_iconst (v := 1) hx hb dX8_flight_86 (by decide) ?_
                    refine va_put (D := D) (ci := 8) (v := .int 1) (ty := .boolean) (C := RX8) (T := TX8) (N := 40) hx hb hts iw_k_mflight_8 tyX8 tyX8_ok nmX8 hown hK hP hD hS 0 rfl rfl 33 (by decide) (hts (.fieldLink RX8 140 "FlightDeskModel" "hasFlight" "Z") (by decide +kernel)) (fun _ h9 => h9) rfl (by decide +kernel) rfl rfl (Nat.le_of_ble_eq_true rfl) dX8_flight_87 (fun H locs hP hD hS => ?_)
                    have hP : va_P D vwCl [(m0, .inr (8, [.ref r0, .ref r1, .int 0, .int 0, .int 0, .int (-1), .int 0, .int 0, .int 0, .int 0, .long 0, .ref r11, .ref r12, .ref r13, .ref r14, .ref r15, .ref r16, .ref r17, .ref r18, .ref r19, .ref r20, .ref r21, .ref r22, .ref r23, .ref r24, .int 0, .int 0, .int 0, .int x1, .int x2, .int x3, .int x4, .int x5, .int 1, .ref r34, .ref r35, .ref r36, .int 0, .int 0, .ref r39]))] H := hP
                    have hD : va_D A [(m0, .inr (8, [.ref r0, .ref r1, .int 0, .int 0, .int 0, .int (-1), .int 0, .int 0, .int 0, .int 0, .long 0, .ref r11, .ref r12, .ref r13, .ref r14, .ref r15, .ref r16, .ref r17, .ref r18, .ref r19, .ref r20, .ref r21, .ref r22, .ref r23, .ref r24, .int 0, .int 0, .int 0, .int x1, .int x2, .int x3, .int x4, .int x5, .int 1, .ref r34, .ref r35, .ref r36, .int 0, .int 0, .ref r39]))] := hD
                    refine lv_iconst (v := 1) hx hb dX8_flight_90 (by decide) ?_
                    refine W.widen (k := 0) (n := 0) (by decide) (by decide) ?_
                    exact W.zret (v := 1) hx hb hr (by decide) (fun t ht hW => ⟨⟨1, (), rfl, Or.inl ⟨rfl, ‹_›, ‹_›, ‹_›, (by simp only [ny_in, Int32.lt_iff_toInt_lt, Int32.le_iff_toInt_le, show (0 : Int32).toInt = 0 from rfl, show (999 : Int32).toInt = 999 from rfl, show (1000 : Int32).toInt = 1000 from rfl, show (30000 : Int32).toInt = 30000 from rfl, show (30001 : Int32).toInt = 30001 from rfl, show (10000 : Int32).toInt = 10000 from rfl, show (10001 : Int32).toInt = 10001 from rfl] at c8 c9 c10 c11 c12 c13 ⊢; omega), (by simp only [ny_in, Int32.lt_iff_toInt_lt, Int32.le_iff_toInt_le, show (0 : Int32).toInt = 0 from rfl, show (999 : Int32).toInt = 999 from rfl, show (1000 : Int32).toInt = 1000 from rfl, show (30000 : Int32).toInt = 30000 from rfl, show (30001 : Int32).toInt = 30001 from rfl, show (10000 : Int32).toInt = 10000 from rfl, show (10001 : Int32).toInt = 10001 from rfl] at c8 c9 c10 c11 c12 c13 ⊢; omega), (by simp only [ny_in, Int32.lt_iff_toInt_lt, Int32.le_iff_toInt_le, show (0 : Int32).toInt = 0 from rfl, show (999 : Int32).toInt = 999 from rfl, show (1000 : Int32).toInt = 1000 from rfl, show (30000 : Int32).toInt = 30000 from rfl, show (30001 : Int32).toInt = 30001 from rfl, show (10000 : Int32).toInt = 10000 from rfl, show (10001 : Int32).toInt = 10001 from rfl] at c8 c9 c10 c11 c12 c13 ⊢; omega)⟩, trivial⟩, hS.F ht⟩) hS.2.2 dX8_flight_91
                  · refine lv_iconst (v := 0) hx hb dX8_flight_56 (by decide) ?_
                    refine W.widen (k := 0) (n := 0) (by decide) (by decide) ?_
                    exact W.zret (v := 0) hx hb hr (by decide) (fun t ht hW => ⟨⟨0, (), rfl, Or.inr ⟨rfl, fun q => by obtain ⟨q1, q2, q3, q4, q5, q6⟩ := q; first | contradiction | (simp only [ny_in, Int32.lt_iff_toInt_lt, Int32.le_iff_toInt_le, show (0 : Int32).toInt = 0 from rfl, show (999 : Int32).toInt = 999 from rfl, show (1000 : Int32).toInt = 1000 from rfl, show (30000 : Int32).toInt = 30000 from rfl, show (30001 : Int32).toInt = 30001 from rfl, show (10000 : Int32).toInt = 10000 from rfl, show (10001 : Int32).toInt = 10001 from rfl] at q4 q5 q6 c8 c9 c10 c11 c12 c13; omega)⟩, trivial⟩, hS.F ht⟩) hS.2.2 dX8_flight_57
    · refine lv_if_eq (tgt := 56) hx hb dX8_flight_11 (by decide) (fun c14 => ?_) (fun h9 => (by first | exact absurd h9 (by decide) | exact absurd (by decide) h9))
      refine lv_iconst (v := 0) hx hb dX8_flight_56 (by decide) ?_
      refine W.widen (k := 0) (n := 0) (by decide) (by decide) ?_
      exact W.zret (v := 0) hx hb hr (by decide) (fun t ht hW => ⟨⟨0, (), rfl, Or.inr ⟨rfl, fun q => by obtain ⟨q1, q2, q3, q4, q5, q6⟩ := q; first | contradiction | (simp only [ny_in, Int32.lt_iff_toInt_lt, Int32.le_iff_toInt_le, show (0 : Int32).toInt = 0 from rfl, show (999 : Int32).toInt = 999 from rfl, show (1000 : Int32).toInt = 1000 from rfl, show (30000 : Int32).toInt = 30000 from rfl, show (30001 : Int32).toInt = 30001 from rfl, show (10000 : Int32).toInt = 10000 from rfl, show (10001 : Int32).toInt = 10001 from rfl] at q4 q5 q6 ; omega)⟩, trivial⟩, hS.F ht⟩) hS.2.2 dX8_flight_57
  · refine lv_if_eq (tgt := 56) hx hb dX8_flight_4 (by decide) (fun c15 => ?_) (fun h9 => (by first | exact absurd h9 (by decide) | exact absurd (by decide) h9))
    refine lv_iconst (v := 0) hx hb dX8_flight_56 (by decide) ?_
    refine W.widen (k := 0) (n := 0) (by decide) (by decide) ?_
    exact W.zret (v := 0) hx hb hr (by decide) (fun t ht hW => ⟨⟨0, (), rfl, Or.inr ⟨rfl, fun q => by obtain ⟨q1, q2, q3, q4, q5, q6⟩ := q; first | contradiction | (simp only [ny_in, Int32.lt_iff_toInt_lt, Int32.le_iff_toInt_le, show (0 : Int32).toInt = 0 from rfl, show (999 : Int32).toInt = 999 from rfl, show (1000 : Int32).toInt = 1000 from rfl, show (30000 : Int32).toInt = 30000 from rfl, show (30001 : Int32).toInt = 30001 from rfl, show (10000 : Int32).toInt = 10000 from rfl, show (10001 : Int32).toInt = 10001 from rfl] at q4 q5 q6 ; omega)⟩, trivial⟩, hS.F ht⟩) hS.2.2 dX8_flight_57

def wk_k_mspeed : List Cond := .code yX8_speed cX8_speed 2 (some .int) :: ([.fieldLink RX8 89 "FlightDeskModel" "speeds" "[I", .fieldLink RX8 124 "FlightDeskModel" "bank" "I", .constant RX8 120 (-100000)] ++ wsX80)
theorem iw_k_mspeed_8 : ∀ w ∈ wsX80, w ∈ wk_k_mspeed := fun _ h => List.mem_cons_of_mem _ (List.mem_append_right _ h)
set_option maxHeartbeats 4000000 in
set_option maxRecDepth 100000 in
theorem k_mspeed (l : Launch) (D : va_G) (cI cB cP : ClassId) (sz : Nat) (m0 : Nat) (r0 : Nat) (r1 : Nat) (r11 : Nat) (r12 : Nat) (r13 : Nat) (r14 : Nat) (r15 : Nat) (r16 : Nat) (r17 : Nat) (r18 : Nat) (r19 : Nat) (r20 : Nat) (r21 : Nat) (r22 : Nat) (r23 : Nat) (r24 : Nat) (r34 : Nat) (r35 : Nat) (r36 : Nat) (r39 : Nat) (L : Nat) (f : Nat → Int32) (hL : L < 6) (hu : ∀ k : Nat, k < 6 → f k = -100000) : Met l yX8_speed wk_k_mspeed ({ frames := 0, cells := 0, slots := 0, locals := 0 } : Room) (va_Pc [.ref m0, .int (nI L)] (Pw D cI cB cP sz [(m0, .inr (8, [.ref r0, .ref r1, .int 0, .int 0, .int 0, .int (-1), .int 0, .int 0, .int 0, .int 0, .long 0, .ref r11, .ref r12, .ref r13, .ref r14, .ref r15, .ref r16, .ref r17, .ref r18, .ref r19, .ref r20, .ref r21, .ref r22, .ref r23, .ref r24, .int 0, .int 0, .int 0, .int 0, .int 0, .int 0, .int 0, .int 0, .int 0, .ref r34, .ref r35, .ref r36, .int 0, .int 0, .ref r39])), (r20, .inl (cI, 12, .inl f))])) (va_Qi (fun (r : Int32) (_ : Unit) => r = 400) (fun _ _ => True) (va_A [(m0, .inr (8, [.ref r0, .ref r1, .int 0, .int 0, .int 0, .int (-1), .int 0, .int 0, .int 0, .int 0, .long 0, .ref r11, .ref r12, .ref r13, .ref r14, .ref r15, .ref r16, .ref r17, .ref r18, .ref r19, .ref r20, .ref r21, .ref r22, .ref r23, .ref r24, .int 0, .int 0, .int 0, .int 0, .int 0, .int 0, .int 0, .int 0, .int 0, .ref r34, .ref r35, .ref r36, .int 0, .int 0, .ref r39])), (r20, .inl (cI, 12, .inl f))] sz)) 0 0 (va_A [(m0, .inr (8, [.ref r0, .ref r1, .int 0, .int 0, .int 0, .int (-1), .int 0, .int 0, .int 0, .int 0, .long 0, .ref r11, .ref r12, .ref r13, .ref r14, .ref r15, .ref r16, .ref r17, .ref r18, .ref r19, .ref r20, .ref r21, .ref r22, .ref r23, .ref r24, .int 0, .int 0, .int 0, .int 0, .int 0, .int 0, .int 0, .int 0, .int 0, .ref r34, .ref r35, .ref r36, .int 0, .int 0, .ref r39])), (r20, .inl (cI, 12, .inl f))] sz) := by
  refine Met.ofW (cc := cX8_speed) (maxL := 2) (ret := (some .int)) (by decide) rfl ?_
  intro p e s m args below meth c s₁ B hml hv
  obtain ⟨rfl, hsz, hP, ⟨hK, hN⟩, hD0⟩ := hv
  have hx := B.exec
  have hb := B.bytes
  have hr := B.returns
  have hts := atoms_spec (ws := wk_k_mspeed) B.pre
  have hown : s.vm.findClass RX8 = some m.cls := findClass_of_methodNamed B.named
  have hlocks := B.notSynchronized
  subst hsz
  have hD := hD0.self (sz := s.heap.size)
  generalize hAe : va_A [(m0, .inr (8, [.ref r0, .ref r1, .int 0, .int 0, .int 0, .int (-1), .int 0, .int 0, .int 0, .int 0, .long 0, .ref r11, .ref r12, .ref r13, .ref r14, .ref r15, .ref r16, .ref r17, .ref r18, .ref r19, .ref r20, .ref r21, .ref r22, .ref r23, .ref r24, .int 0, .int 0, .int 0, .int 0, .int 0, .int 0, .int 0, .int 0, .int 0, .ref r34, .ref r35, .ref r36, .int 0, .int 0, .ref r39])), (r20, .inl (cI, 12, .inl f))] s.heap.size = A at hD ⊢
  have hA : ∀ q : Nat, s.heap.size ≤ q → A q := fun q h => by rw [← hAe]; exact Or.inr h
  have hS : va_S A s.heap s.heap [] := va_S.rf
  have hP : va_P D vwCl [(m0, .inr (8, [.ref r0, .ref r1, .int 0, .int 0, .int 0, .int (-1), .int 0, .int 0, .int 0, .int 0, .long 0, .ref r11, .ref r12, .ref r13, .ref r14, .ref r15, .ref r16, .ref r17, .ref r18, .ref r19, .ref r20, .ref r21, .ref r22, .ref r23, .ref r24, .int 0, .int 0, .int 0, .int 0, .int 0, .int 0, .int 0, .int 0, .int 0, .ref r34, .ref r35, .ref r36, .int 0, .int 0, .ref r39])), (r20, .inl (cI, 12, .inl f))] s.heap := hP
  have hl := lv_entry ([.ref m0, .int (nI L)]) (n := 2) (Nat.le_of_ble_eq_true rfl)
  rw [lg_entry_eq]
  generalize (lg_sl ([.ref m0, .int (nI L)]) ++ List.replicate (2 - (lg_sl ([.ref m0, .int (nI L)])).length) Slot.unset).toArray = ls at hl ⊢
  have hl : lv_has ls 2 [(0, .ref m0), (1, .int (nI L))] := hl
  refine lv_aload_n hx hb dX8_speed_0 rfl (lv_at hl 0 rfl) ?_
  refine va_get (D := D) (ci := 8) (v := .ref r20) (C := RX8) (T := TX8) (N := 40) hx hb hts iw_k_mspeed_8 hown hK hP 0 rfl rfl 20 (by decide) (hts (.fieldLink RX8 89 "FlightDeskModel" "speeds" "[I") (by decide +kernel)) (fun _ h9 => h9) rfl dX8_speed_1 ?_
  refine lv_bipush (v := 6) hx hb dX8_speed_4 (by decide) ?_
  refine lv_aload_n hx hb dX8_speed_6 rfl (lv_at hl 0 rfl) ?_
  refine va_get (D := D) (ci := 8) (v := .int 0) (C := RX8) (T := TX8) (N := 40) hx hb hts iw_k_mspeed_8 hown hK hP 0 rfl rfl 25 (by decide) (hts (.fieldLink RX8 124 "FlightDeskModel" "bank" "I") (by decide +kernel)) (fun _ h9 => h9) rfl dX8_speed_7 ?_
  refine lv_imul hx hb dX8_speed_10 ?_
  refine lv_topi (fun vv ev => ?_)
  obtain rfl : vv = 0 := ev.trans (by decide)
  refine lv_iload_n hx hb dX8_speed_11 rfl (lv_at hl 1 rfl) ?_
  refine lv_iadd hx hb dX8_speed_12 ?_
  refine lv_topi (fun vv ev => ?_)
  obtain rfl : vv = nI (0 + L) := ev.trans (nI_add 0 L)
  refine va_iald hx hb hK hP 1 0 rfl rfl (vp_in_nI (by omega) (by decide)) dX8_speed_13 ?_
  refine lv_topi (fun vv ev => ?_)
  obtain rfl : vv = (-100000) := ev.trans (by rw [nI_clamp (by omega), Nat.zero_add]; exact hu L hL)
  refine lv_ldc hx hb hown (hts (.constant RX8 120 (-100000)) (by decide +kernel)) dX8_speed_14 ?_
  refine lv_icmp_ne (tgt := 25) hx hb dX8_speed_16 (by decide) (fun h9 => (by first | exact absurd h9 (by decide) | exact absurd (by decide) h9)) (fun c1 => ?_)
  refine lv_sipush (v := 400) hx hb dX8_speed_19 (by decide) ?_
  refine lv_goto (tgt := 39) hx hb dX8_speed_22 (by decide) ?_
  refine W.widen (k := 0) (n := 0) (by decide) (by decide) ?_
  exact W.iret (v := 400) hx hb hr (fun t ht hW => ⟨⟨400, (), rfl, rfl, trivial⟩, hS.F ht⟩) hS.2.2 dX8_speed_39

def wk_k_mclimb : List Cond := .code yX8_climb cX8_climb 2 (some .int) :: ([.fieldLink RX8 98 "FlightDeskModel" "climbs" "[I", .fieldLink RX8 124 "FlightDeskModel" "bank" "I", .constant RX8 120 (-100000)] ++ wsX80)
theorem iw_k_mclimb_8 : ∀ w ∈ wsX80, w ∈ wk_k_mclimb := fun _ h => List.mem_cons_of_mem _ (List.mem_append_right _ h)
set_option maxHeartbeats 4000000 in
set_option maxRecDepth 100000 in
theorem k_mclimb (l : Launch) (D : va_G) (cI cB cP : ClassId) (sz : Nat) (m0 : Nat) (r0 : Nat) (r1 : Nat) (r11 : Nat) (r12 : Nat) (r13 : Nat) (r14 : Nat) (r15 : Nat) (r16 : Nat) (r17 : Nat) (r18 : Nat) (r19 : Nat) (r20 : Nat) (r21 : Nat) (r22 : Nat) (r23 : Nat) (r24 : Nat) (r34 : Nat) (r35 : Nat) (r36 : Nat) (r39 : Nat) (L : Nat) (f : Nat → Int32) (hL : L < 6) (hu : ∀ k : Nat, k < 6 → f k = -100000) : Met l yX8_climb wk_k_mclimb ({ frames := 0, cells := 0, slots := 0, locals := 0 } : Room) (va_Pc [.ref m0, .int (nI L)] (Pw D cI cB cP sz [(m0, .inr (8, [.ref r0, .ref r1, .int 0, .int 0, .int 0, .int (-1), .int 0, .int 0, .int 0, .int 0, .long 0, .ref r11, .ref r12, .ref r13, .ref r14, .ref r15, .ref r16, .ref r17, .ref r18, .ref r19, .ref r20, .ref r21, .ref r22, .ref r23, .ref r24, .int 0, .int 0, .int 0, .int 0, .int 0, .int 0, .int 0, .int 0, .int 0, .ref r34, .ref r35, .ref r36, .int 0, .int 0, .ref r39])), (r23, .inl (cI, 12, .inl f))])) (va_Qi (fun (r : Int32) (_ : Unit) => r = 0) (fun _ _ => True) (va_A [(m0, .inr (8, [.ref r0, .ref r1, .int 0, .int 0, .int 0, .int (-1), .int 0, .int 0, .int 0, .int 0, .long 0, .ref r11, .ref r12, .ref r13, .ref r14, .ref r15, .ref r16, .ref r17, .ref r18, .ref r19, .ref r20, .ref r21, .ref r22, .ref r23, .ref r24, .int 0, .int 0, .int 0, .int 0, .int 0, .int 0, .int 0, .int 0, .int 0, .ref r34, .ref r35, .ref r36, .int 0, .int 0, .ref r39])), (r23, .inl (cI, 12, .inl f))] sz)) 0 0 (va_A [(m0, .inr (8, [.ref r0, .ref r1, .int 0, .int 0, .int 0, .int (-1), .int 0, .int 0, .int 0, .int 0, .long 0, .ref r11, .ref r12, .ref r13, .ref r14, .ref r15, .ref r16, .ref r17, .ref r18, .ref r19, .ref r20, .ref r21, .ref r22, .ref r23, .ref r24, .int 0, .int 0, .int 0, .int 0, .int 0, .int 0, .int 0, .int 0, .int 0, .ref r34, .ref r35, .ref r36, .int 0, .int 0, .ref r39])), (r23, .inl (cI, 12, .inl f))] sz) := by
  refine Met.ofW (cc := cX8_climb) (maxL := 2) (ret := (some .int)) (by decide) rfl ?_
  intro p e s m args below meth c s₁ B hml hv
  obtain ⟨rfl, hsz, hP, ⟨hK, hN⟩, hD0⟩ := hv
  have hx := B.exec
  have hb := B.bytes
  have hr := B.returns
  have hts := atoms_spec (ws := wk_k_mclimb) B.pre
  have hown : s.vm.findClass RX8 = some m.cls := findClass_of_methodNamed B.named
  have hlocks := B.notSynchronized
  subst hsz
  have hD := hD0.self (sz := s.heap.size)
  generalize hAe : va_A [(m0, .inr (8, [.ref r0, .ref r1, .int 0, .int 0, .int 0, .int (-1), .int 0, .int 0, .int 0, .int 0, .long 0, .ref r11, .ref r12, .ref r13, .ref r14, .ref r15, .ref r16, .ref r17, .ref r18, .ref r19, .ref r20, .ref r21, .ref r22, .ref r23, .ref r24, .int 0, .int 0, .int 0, .int 0, .int 0, .int 0, .int 0, .int 0, .int 0, .ref r34, .ref r35, .ref r36, .int 0, .int 0, .ref r39])), (r23, .inl (cI, 12, .inl f))] s.heap.size = A at hD ⊢
  have hA : ∀ q : Nat, s.heap.size ≤ q → A q := fun q h => by rw [← hAe]; exact Or.inr h
  have hS : va_S A s.heap s.heap [] := va_S.rf
  have hP : va_P D vwCl [(m0, .inr (8, [.ref r0, .ref r1, .int 0, .int 0, .int 0, .int (-1), .int 0, .int 0, .int 0, .int 0, .long 0, .ref r11, .ref r12, .ref r13, .ref r14, .ref r15, .ref r16, .ref r17, .ref r18, .ref r19, .ref r20, .ref r21, .ref r22, .ref r23, .ref r24, .int 0, .int 0, .int 0, .int 0, .int 0, .int 0, .int 0, .int 0, .int 0, .ref r34, .ref r35, .ref r36, .int 0, .int 0, .ref r39])), (r23, .inl (cI, 12, .inl f))] s.heap := hP
  have hl := lv_entry ([.ref m0, .int (nI L)]) (n := 2) (Nat.le_of_ble_eq_true rfl)
  rw [lg_entry_eq]
  generalize (lg_sl ([.ref m0, .int (nI L)]) ++ List.replicate (2 - (lg_sl ([.ref m0, .int (nI L)])).length) Slot.unset).toArray = ls at hl ⊢
  have hl : lv_has ls 2 [(0, .ref m0), (1, .int (nI L))] := hl
  refine lv_aload_n hx hb dX8_climb_0 rfl (lv_at hl 0 rfl) ?_
  refine va_get (D := D) (ci := 8) (v := .ref r23) (C := RX8) (T := TX8) (N := 40) hx hb hts iw_k_mclimb_8 hown hK hP 0 rfl rfl 23 (by decide) (hts (.fieldLink RX8 98 "FlightDeskModel" "climbs" "[I") (by decide +kernel)) (fun _ h9 => h9) rfl dX8_climb_1 ?_
  refine lv_bipush (v := 6) hx hb dX8_climb_4 (by decide) ?_
  refine lv_aload_n hx hb dX8_climb_6 rfl (lv_at hl 0 rfl) ?_
  refine va_get (D := D) (ci := 8) (v := .int 0) (C := RX8) (T := TX8) (N := 40) hx hb hts iw_k_mclimb_8 hown hK hP 0 rfl rfl 25 (by decide) (hts (.fieldLink RX8 124 "FlightDeskModel" "bank" "I") (by decide +kernel)) (fun _ h9 => h9) rfl dX8_climb_7 ?_
  refine lv_imul hx hb dX8_climb_10 ?_
  refine lv_topi (fun vv ev => ?_)
  obtain rfl : vv = 0 := ev.trans (by decide)
  refine lv_iload_n hx hb dX8_climb_11 rfl (lv_at hl 1 rfl) ?_
  refine lv_iadd hx hb dX8_climb_12 ?_
  refine lv_topi (fun vv ev => ?_)
  obtain rfl : vv = nI (0 + L) := ev.trans (nI_add 0 L)
  refine va_iald hx hb hK hP 1 0 rfl rfl (vp_in_nI (by omega) (by decide)) dX8_climb_13 ?_
  refine lv_topi (fun vv ev => ?_)
  obtain rfl : vv = (-100000) := ev.trans (by rw [nI_clamp (by omega), Nat.zero_add]; exact hu L hL)
  refine lv_ldc hx hb hown (hts (.constant RX8 120 (-100000)) (by decide +kernel)) dX8_climb_14 ?_
  refine lv_icmp_ne (tgt := 23) hx hb dX8_climb_16 (by decide) (fun h9 => (by first | exact absurd h9 (by decide) | exact absurd (by decide) h9)) (fun c1 => ?_)
  refine lv_iconst (v := 0) hx hb dX8_climb_19 (by decide) ?_
  refine lv_goto (tgt := 37) hx hb dX8_climb_20 (by decide) ?_
  refine W.widen (k := 0) (n := 0) (by decide) (by decide) ?_
  exact W.iret (v := 0) hx hb hr (fun t ht hW => ⟨⟨0, (), rfl, rfl, trivial⟩, hS.F ht⟩) hS.2.2 dX8_climb_37

def wk_k_mlimit0 : List Cond := .code yX8_limit cX8_limit 3 (some .int) :: ([.fieldLink RX8 101 "FlightDeskModel" "limits" "[I", .fieldLink RX8 124 "FlightDeskModel" "bank" "I", .constant RX8 120 (-100000)] ++ wsX80)
theorem iw_k_mlimit0_8 : ∀ w ∈ wsX80, w ∈ wk_k_mlimit0 := fun _ h => List.mem_cons_of_mem _ (List.mem_append_right _ h)
set_option maxHeartbeats 4000000 in
set_option maxRecDepth 100000 in
theorem k_mlimit0 (l : Launch) (D : va_G) (cI cB cP : ClassId) (sz : Nat) (m0 : Nat) (r0 : Nat) (r1 : Nat) (r11 : Nat) (r12 : Nat) (r13 : Nat) (r14 : Nat) (r15 : Nat) (r16 : Nat) (r17 : Nat) (r18 : Nat) (r19 : Nat) (r20 : Nat) (r21 : Nat) (r22 : Nat) (r23 : Nat) (r24 : Nat) (r34 : Nat) (r35 : Nat) (r36 : Nat) (r39 : Nat) (f : Nat → Int32) (hu : ∀ k : Nat, k < 4 → f k = -100000) : Met l yX8_limit wk_k_mlimit0 ({ frames := 0, cells := 0, slots := 0, locals := 0 } : Room) (va_Pc [.ref m0, .int 0] (Pw D cI cB cP sz [(m0, .inr (8, [.ref r0, .ref r1, .int 0, .int 0, .int 0, .int (-1), .int 0, .int 0, .int 0, .int 0, .long 0, .ref r11, .ref r12, .ref r13, .ref r14, .ref r15, .ref r16, .ref r17, .ref r18, .ref r19, .ref r20, .ref r21, .ref r22, .ref r23, .ref r24, .int 0, .int 0, .int 0, .int 0, .int 0, .int 0, .int 0, .int 0, .int 0, .ref r34, .ref r35, .ref r36, .int 0, .int 0, .ref r39])), (r24, .inl (cI, 8, .inl f))])) (va_Qi (fun (r : Int32) (_ : Unit) => r = 30000) (fun _ _ => True) (va_A [(m0, .inr (8, [.ref r0, .ref r1, .int 0, .int 0, .int 0, .int (-1), .int 0, .int 0, .int 0, .int 0, .long 0, .ref r11, .ref r12, .ref r13, .ref r14, .ref r15, .ref r16, .ref r17, .ref r18, .ref r19, .ref r20, .ref r21, .ref r22, .ref r23, .ref r24, .int 0, .int 0, .int 0, .int 0, .int 0, .int 0, .int 0, .int 0, .int 0, .ref r34, .ref r35, .ref r36, .int 0, .int 0, .ref r39])), (r24, .inl (cI, 8, .inl f))] sz)) 0 0 (va_A [(m0, .inr (8, [.ref r0, .ref r1, .int 0, .int 0, .int 0, .int (-1), .int 0, .int 0, .int 0, .int 0, .long 0, .ref r11, .ref r12, .ref r13, .ref r14, .ref r15, .ref r16, .ref r17, .ref r18, .ref r19, .ref r20, .ref r21, .ref r22, .ref r23, .ref r24, .int 0, .int 0, .int 0, .int 0, .int 0, .int 0, .int 0, .int 0, .int 0, .ref r34, .ref r35, .ref r36, .int 0, .int 0, .ref r39])), (r24, .inl (cI, 8, .inl f))] sz) := by
  refine Met.ofW (cc := cX8_limit) (maxL := 3) (ret := (some .int)) (by decide) rfl ?_
  intro p e s m args below meth c s₁ B hml hv
  obtain ⟨rfl, hsz, hP, ⟨hK, hN⟩, hD0⟩ := hv
  have hx := B.exec
  have hb := B.bytes
  have hr := B.returns
  have hts := atoms_spec (ws := wk_k_mlimit0) B.pre
  have hown : s.vm.findClass RX8 = some m.cls := findClass_of_methodNamed B.named
  have hlocks := B.notSynchronized
  subst hsz
  have hD := hD0.self (sz := s.heap.size)
  generalize hAe : va_A [(m0, .inr (8, [.ref r0, .ref r1, .int 0, .int 0, .int 0, .int (-1), .int 0, .int 0, .int 0, .int 0, .long 0, .ref r11, .ref r12, .ref r13, .ref r14, .ref r15, .ref r16, .ref r17, .ref r18, .ref r19, .ref r20, .ref r21, .ref r22, .ref r23, .ref r24, .int 0, .int 0, .int 0, .int 0, .int 0, .int 0, .int 0, .int 0, .int 0, .ref r34, .ref r35, .ref r36, .int 0, .int 0, .ref r39])), (r24, .inl (cI, 8, .inl f))] s.heap.size = A at hD ⊢
  have hA : ∀ q : Nat, s.heap.size ≤ q → A q := fun q h => by rw [← hAe]; exact Or.inr h
  have hS : va_S A s.heap s.heap [] := va_S.rf
  have hP : va_P D vwCl [(m0, .inr (8, [.ref r0, .ref r1, .int 0, .int 0, .int 0, .int (-1), .int 0, .int 0, .int 0, .int 0, .long 0, .ref r11, .ref r12, .ref r13, .ref r14, .ref r15, .ref r16, .ref r17, .ref r18, .ref r19, .ref r20, .ref r21, .ref r22, .ref r23, .ref r24, .int 0, .int 0, .int 0, .int 0, .int 0, .int 0, .int 0, .int 0, .int 0, .ref r34, .ref r35, .ref r36, .int 0, .int 0, .ref r39])), (r24, .inl (cI, 8, .inl f))] s.heap := hP
  have hl := lv_entry ([.ref m0, .int 0]) (n := 3) (Nat.le_of_ble_eq_true rfl)
  rw [lg_entry_eq]
  generalize (lg_sl ([.ref m0, .int 0]) ++ List.replicate (3 - (lg_sl ([.ref m0, .int 0])).length) Slot.unset).toArray = ls at hl ⊢
  have hl : lv_has ls 3 [(0, .ref m0), (1, .int 0)] := hl
  refine lv_aload_n hx hb dX8_limit_0 rfl (lv_at hl 0 rfl) ?_
  refine va_get (D := D) (ci := 8) (v := .ref r24) (C := RX8) (T := TX8) (N := 40) hx hb hts iw_k_mlimit0_8 hown hK hP 0 rfl rfl 24 (by decide) (hts (.fieldLink RX8 101 "FlightDeskModel" "limits" "[I") (by decide +kernel)) (fun _ h9 => h9) rfl dX8_limit_1 ?_
  refine lv_iconst (v := 4) hx hb dX8_limit_4 (by decide) ?_
  refine lv_aload_n hx hb dX8_limit_5 rfl (lv_at hl 0 rfl) ?_
  refine va_get (D := D) (ci := 8) (v := .int 0) (C := RX8) (T := TX8) (N := 40) hx hb hts iw_k_mlimit0_8 hown hK hP 0 rfl rfl 25 (by decide) (hts (.fieldLink RX8 124 "FlightDeskModel" "bank" "I") (by decide +kernel)) (fun _ h9 => h9) rfl dX8_limit_6 ?_
  refine lv_imul hx hb dX8_limit_9 ?_
  refine lv_topi (fun vv ev => ?_)
  obtain rfl : vv = 0 := ev.trans (by decide)
  refine lv_iload_n hx hb dX8_limit_10 rfl (lv_at hl 1 rfl) ?_
  refine lv_iadd hx hb dX8_limit_11 ?_
  refine lv_topi (fun vv ev => ?_)
  obtain rfl : vv = 0 := ev.trans (by decide)
  refine va_iald hx hb hK hP 1 0 rfl rfl (show ¬ (_ ∨ _) by decide) dX8_limit_12 ?_
  refine lv_topi (fun vv ev => ?_)
  obtain rfl : vv = (-100000) := ev.trans (hu 0 (by decide))
  refine lv_istore_n (lv' := [(2, .int (-100000)), (0, .ref m0), (1, .int 0)]) hx hb dX8_limit_13 rfl hl (by decide) rfl (fun ls hl => ?_)
  refine lv_iload_n hx hb dX8_limit_14 rfl (lv_at hl 0 rfl) ?_
  refine lv_ldc hx hb hown (hts (.constant RX8 120 (-100000)) (by decide +kernel)) dX8_limit_15 ?_
  refine lv_icmp_eq (tgt := 24) hx hb dX8_limit_17 (by decide) (fun c1 => ?_) (fun h9 => (by first | exact absurd h9 (by decide) | exact absurd (by decide) h9))
  refine lv_iload_n hx hb dX8_limit_24 rfl (lv_at hl 2 rfl) ?_
  refine lv_if_ne (tgt := 34) hx hb dX8_limit_25 (by decide) (fun h9 => (by first | exact absurd h9 (by decide) | exact absurd (by decide) h9)) (fun c2 => ?_)
  refine lv_sipush (v := 30000) hx hb dX8_limit_28 (by decide) ?_
  refine lv_goto (tgt := 45) hx hb dX8_limit_31 (by decide) ?_
  refine W.widen (k := 0) (n := 0) (by decide) (by decide) ?_
  exact W.iret (v := 30000) hx hb hr (fun t ht hW => ⟨⟨30000, (), rfl, rfl, trivial⟩, hS.F ht⟩) hS.2.2 dX8_limit_45

def wk_k_mlimit1 : List Cond := .code yX8_limit cX8_limit 3 (some .int) :: ([.fieldLink RX8 101 "FlightDeskModel" "limits" "[I", .fieldLink RX8 124 "FlightDeskModel" "bank" "I", .constant RX8 120 (-100000), .constant RX8 176 (60000)] ++ wsX80)
theorem iw_k_mlimit1_8 : ∀ w ∈ wsX80, w ∈ wk_k_mlimit1 := fun _ h => List.mem_cons_of_mem _ (List.mem_append_right _ h)
set_option maxHeartbeats 4000000 in
set_option maxRecDepth 100000 in
theorem k_mlimit1 (l : Launch) (D : va_G) (cI cB cP : ClassId) (sz : Nat) (m0 : Nat) (r0 : Nat) (r1 : Nat) (r11 : Nat) (r12 : Nat) (r13 : Nat) (r14 : Nat) (r15 : Nat) (r16 : Nat) (r17 : Nat) (r18 : Nat) (r19 : Nat) (r20 : Nat) (r21 : Nat) (r22 : Nat) (r23 : Nat) (r24 : Nat) (r34 : Nat) (r35 : Nat) (r36 : Nat) (r39 : Nat) (f : Nat → Int32) (hu : ∀ k : Nat, k < 4 → f k = -100000) : Met l yX8_limit wk_k_mlimit1 ({ frames := 0, cells := 0, slots := 0, locals := 0 } : Room) (va_Pc [.ref m0, .int 1] (Pw D cI cB cP sz [(m0, .inr (8, [.ref r0, .ref r1, .int 0, .int 0, .int 0, .int (-1), .int 0, .int 0, .int 0, .int 0, .long 0, .ref r11, .ref r12, .ref r13, .ref r14, .ref r15, .ref r16, .ref r17, .ref r18, .ref r19, .ref r20, .ref r21, .ref r22, .ref r23, .ref r24, .int 0, .int 0, .int 0, .int 0, .int 0, .int 0, .int 0, .int 0, .int 0, .ref r34, .ref r35, .ref r36, .int 0, .int 0, .ref r39])), (r24, .inl (cI, 8, .inl f))])) (va_Qi (fun (r : Int32) (_ : Unit) => r = 60000) (fun _ _ => True) (va_A [(m0, .inr (8, [.ref r0, .ref r1, .int 0, .int 0, .int 0, .int (-1), .int 0, .int 0, .int 0, .int 0, .long 0, .ref r11, .ref r12, .ref r13, .ref r14, .ref r15, .ref r16, .ref r17, .ref r18, .ref r19, .ref r20, .ref r21, .ref r22, .ref r23, .ref r24, .int 0, .int 0, .int 0, .int 0, .int 0, .int 0, .int 0, .int 0, .int 0, .ref r34, .ref r35, .ref r36, .int 0, .int 0, .ref r39])), (r24, .inl (cI, 8, .inl f))] sz)) 0 0 (va_A [(m0, .inr (8, [.ref r0, .ref r1, .int 0, .int 0, .int 0, .int (-1), .int 0, .int 0, .int 0, .int 0, .long 0, .ref r11, .ref r12, .ref r13, .ref r14, .ref r15, .ref r16, .ref r17, .ref r18, .ref r19, .ref r20, .ref r21, .ref r22, .ref r23, .ref r24, .int 0, .int 0, .int 0, .int 0, .int 0, .int 0, .int 0, .int 0, .int 0, .ref r34, .ref r35, .ref r36, .int 0, .int 0, .ref r39])), (r24, .inl (cI, 8, .inl f))] sz) := by
  refine Met.ofW (cc := cX8_limit) (maxL := 3) (ret := (some .int)) (by decide) rfl ?_
  intro p e s m args below meth c s₁ B hml hv
  obtain ⟨rfl, hsz, hP, ⟨hK, hN⟩, hD0⟩ := hv
  have hx := B.exec
  have hb := B.bytes
  have hr := B.returns
  have hts := atoms_spec (ws := wk_k_mlimit1) B.pre
  have hown : s.vm.findClass RX8 = some m.cls := findClass_of_methodNamed B.named
  have hlocks := B.notSynchronized
  subst hsz
  have hD := hD0.self (sz := s.heap.size)
  generalize hAe : va_A [(m0, .inr (8, [.ref r0, .ref r1, .int 0, .int 0, .int 0, .int (-1), .int 0, .int 0, .int 0, .int 0, .long 0, .ref r11, .ref r12, .ref r13, .ref r14, .ref r15, .ref r16, .ref r17, .ref r18, .ref r19, .ref r20, .ref r21, .ref r22, .ref r23, .ref r24, .int 0, .int 0, .int 0, .int 0, .int 0, .int 0, .int 0, .int 0, .int 0, .ref r34, .ref r35, .ref r36, .int 0, .int 0, .ref r39])), (r24, .inl (cI, 8, .inl f))] s.heap.size = A at hD ⊢
  have hA : ∀ q : Nat, s.heap.size ≤ q → A q := fun q h => by rw [← hAe]; exact Or.inr h
  have hS : va_S A s.heap s.heap [] := va_S.rf
  have hP : va_P D vwCl [(m0, .inr (8, [.ref r0, .ref r1, .int 0, .int 0, .int 0, .int (-1), .int 0, .int 0, .int 0, .int 0, .long 0, .ref r11, .ref r12, .ref r13, .ref r14, .ref r15, .ref r16, .ref r17, .ref r18, .ref r19, .ref r20, .ref r21, .ref r22, .ref r23, .ref r24, .int 0, .int 0, .int 0, .int 0, .int 0, .int 0, .int 0, .int 0, .int 0, .ref r34, .ref r35, .ref r36, .int 0, .int 0, .ref r39])), (r24, .inl (cI, 8, .inl f))] s.heap := hP
  have hl := lv_entry ([.ref m0, .int 1]) (n := 3) (Nat.le_of_ble_eq_true rfl)
  rw [lg_entry_eq]
  generalize (lg_sl ([.ref m0, .int 1]) ++ List.replicate (3 - (lg_sl ([.ref m0, .int 1])).length) Slot.unset).toArray = ls at hl ⊢
  have hl : lv_has ls 3 [(0, .ref m0), (1, .int 1)] := hl
  refine lv_aload_n hx hb dX8_limit_0 rfl (lv_at hl 0 rfl) ?_
  refine va_get (D := D) (ci := 8) (v := .ref r24) (C := RX8) (T := TX8) (N := 40) hx hb hts iw_k_mlimit1_8 hown hK hP 0 rfl rfl 24 (by decide) (hts (.fieldLink RX8 101 "FlightDeskModel" "limits" "[I") (by decide +kernel)) (fun _ h9 => h9) rfl dX8_limit_1 ?_
  refine lv_iconst (v := 4) hx hb dX8_limit_4 (by decide) ?_
  refine lv_aload_n hx hb dX8_limit_5 rfl (lv_at hl 0 rfl) ?_
  refine va_get (D := D) (ci := 8) (v := .int 0) (C := RX8) (T := TX8) (N := 40) hx hb hts iw_k_mlimit1_8 hown hK hP 0 rfl rfl 25 (by decide) (hts (.fieldLink RX8 124 "FlightDeskModel" "bank" "I") (by decide +kernel)) (fun _ h9 => h9) rfl dX8_limit_6 ?_
  refine lv_imul hx hb dX8_limit_9 ?_
  refine lv_topi (fun vv ev => ?_)
  obtain rfl : vv = 0 := ev.trans (by decide)
  refine lv_iload_n hx hb dX8_limit_10 rfl (lv_at hl 1 rfl) ?_
  refine lv_iadd hx hb dX8_limit_11 ?_
  refine lv_topi (fun vv ev => ?_)
  obtain rfl : vv = 1 := ev.trans (by decide)
  refine va_iald hx hb hK hP 1 0 rfl rfl (show ¬ (_ ∨ _) by decide) dX8_limit_12 ?_
  refine lv_topi (fun vv ev => ?_)
  obtain rfl : vv = (-100000) := ev.trans (hu 1 (by decide))
  refine lv_istore_n (lv' := [(2, .int (-100000)), (0, .ref m0), (1, .int 1)]) hx hb dX8_limit_13 rfl hl (by decide) rfl (fun ls hl => ?_)
  refine lv_iload_n hx hb dX8_limit_14 rfl (lv_at hl 0 rfl) ?_
  refine lv_ldc hx hb hown (hts (.constant RX8 120 (-100000)) (by decide +kernel)) dX8_limit_15 ?_
  refine lv_icmp_eq (tgt := 24) hx hb dX8_limit_17 (by decide) (fun c1 => ?_) (fun h9 => (by first | exact absurd h9 (by decide) | exact absurd (by decide) h9))
  refine lv_iload_n hx hb dX8_limit_24 rfl (lv_at hl 2 rfl) ?_
  refine lv_if_ne (tgt := 34) hx hb dX8_limit_25 (by decide) (fun c2 => ?_) (fun h9 => (by first | exact absurd h9 (by decide) | exact absurd (by decide) h9))
  refine lv_iload_n hx hb dX8_limit_34 rfl (lv_at hl 2 rfl) ?_
  refine lv_iconst (v := 3) hx hb dX8_limit_35 (by decide) ?_
  refine lv_icmp_ne (tgt := 43) hx hb dX8_limit_36 (by decide) (fun c3 => ?_) (fun h9 => (by first | exact absurd h9 (by decide) | exact absurd (by decide) h9))
  refine lv_ldc hx hb hown (hts (.constant RX8 176 (60000)) (by decide +kernel)) dX8_limit_43 ?_
  refine W.widen (k := 0) (n := 0) (by decide) (by decide) ?_
  exact W.iret (v := 60000) hx hb hr (fun t ht hW => ⟨⟨60000, (), rfl, rfl, trivial⟩, hS.F ht⟩) hS.2.2 dX8_limit_45

def wk_k_mlimit2 : List Cond := .code yX8_limit cX8_limit 3 (some .int) :: ([.fieldLink RX8 101 "FlightDeskModel" "limits" "[I", .fieldLink RX8 124 "FlightDeskModel" "bank" "I", .constant RX8 120 (-100000), .constant RX8 176 (60000)] ++ wsX80)
theorem iw_k_mlimit2_8 : ∀ w ∈ wsX80, w ∈ wk_k_mlimit2 := fun _ h => List.mem_cons_of_mem _ (List.mem_append_right _ h)
set_option maxHeartbeats 4000000 in
set_option maxRecDepth 100000 in
theorem k_mlimit2 (l : Launch) (D : va_G) (cI cB cP : ClassId) (sz : Nat) (m0 : Nat) (r0 : Nat) (r1 : Nat) (r11 : Nat) (r12 : Nat) (r13 : Nat) (r14 : Nat) (r15 : Nat) (r16 : Nat) (r17 : Nat) (r18 : Nat) (r19 : Nat) (r20 : Nat) (r21 : Nat) (r22 : Nat) (r23 : Nat) (r24 : Nat) (r34 : Nat) (r35 : Nat) (r36 : Nat) (r39 : Nat) (f : Nat → Int32) (hu : ∀ k : Nat, k < 4 → f k = -100000) : Met l yX8_limit wk_k_mlimit2 ({ frames := 0, cells := 0, slots := 0, locals := 0 } : Room) (va_Pc [.ref m0, .int 2] (Pw D cI cB cP sz [(m0, .inr (8, [.ref r0, .ref r1, .int 0, .int 0, .int 0, .int (-1), .int 0, .int 0, .int 0, .int 0, .long 0, .ref r11, .ref r12, .ref r13, .ref r14, .ref r15, .ref r16, .ref r17, .ref r18, .ref r19, .ref r20, .ref r21, .ref r22, .ref r23, .ref r24, .int 0, .int 0, .int 0, .int 0, .int 0, .int 0, .int 0, .int 0, .int 0, .ref r34, .ref r35, .ref r36, .int 0, .int 0, .ref r39])), (r24, .inl (cI, 8, .inl f))])) (va_Qi (fun (r : Int32) (_ : Unit) => r = 60000) (fun _ _ => True) (va_A [(m0, .inr (8, [.ref r0, .ref r1, .int 0, .int 0, .int 0, .int (-1), .int 0, .int 0, .int 0, .int 0, .long 0, .ref r11, .ref r12, .ref r13, .ref r14, .ref r15, .ref r16, .ref r17, .ref r18, .ref r19, .ref r20, .ref r21, .ref r22, .ref r23, .ref r24, .int 0, .int 0, .int 0, .int 0, .int 0, .int 0, .int 0, .int 0, .int 0, .ref r34, .ref r35, .ref r36, .int 0, .int 0, .ref r39])), (r24, .inl (cI, 8, .inl f))] sz)) 0 0 (va_A [(m0, .inr (8, [.ref r0, .ref r1, .int 0, .int 0, .int 0, .int (-1), .int 0, .int 0, .int 0, .int 0, .long 0, .ref r11, .ref r12, .ref r13, .ref r14, .ref r15, .ref r16, .ref r17, .ref r18, .ref r19, .ref r20, .ref r21, .ref r22, .ref r23, .ref r24, .int 0, .int 0, .int 0, .int 0, .int 0, .int 0, .int 0, .int 0, .int 0, .ref r34, .ref r35, .ref r36, .int 0, .int 0, .ref r39])), (r24, .inl (cI, 8, .inl f))] sz) := by
  refine Met.ofW (cc := cX8_limit) (maxL := 3) (ret := (some .int)) (by decide) rfl ?_
  intro p e s m args below meth c s₁ B hml hv
  obtain ⟨rfl, hsz, hP, ⟨hK, hN⟩, hD0⟩ := hv
  have hx := B.exec
  have hb := B.bytes
  have hr := B.returns
  have hts := atoms_spec (ws := wk_k_mlimit2) B.pre
  have hown : s.vm.findClass RX8 = some m.cls := findClass_of_methodNamed B.named
  have hlocks := B.notSynchronized
  subst hsz
  have hD := hD0.self (sz := s.heap.size)
  generalize hAe : va_A [(m0, .inr (8, [.ref r0, .ref r1, .int 0, .int 0, .int 0, .int (-1), .int 0, .int 0, .int 0, .int 0, .long 0, .ref r11, .ref r12, .ref r13, .ref r14, .ref r15, .ref r16, .ref r17, .ref r18, .ref r19, .ref r20, .ref r21, .ref r22, .ref r23, .ref r24, .int 0, .int 0, .int 0, .int 0, .int 0, .int 0, .int 0, .int 0, .int 0, .ref r34, .ref r35, .ref r36, .int 0, .int 0, .ref r39])), (r24, .inl (cI, 8, .inl f))] s.heap.size = A at hD ⊢
  have hA : ∀ q : Nat, s.heap.size ≤ q → A q := fun q h => by rw [← hAe]; exact Or.inr h
  have hS : va_S A s.heap s.heap [] := va_S.rf
  have hP : va_P D vwCl [(m0, .inr (8, [.ref r0, .ref r1, .int 0, .int 0, .int 0, .int (-1), .int 0, .int 0, .int 0, .int 0, .long 0, .ref r11, .ref r12, .ref r13, .ref r14, .ref r15, .ref r16, .ref r17, .ref r18, .ref r19, .ref r20, .ref r21, .ref r22, .ref r23, .ref r24, .int 0, .int 0, .int 0, .int 0, .int 0, .int 0, .int 0, .int 0, .int 0, .ref r34, .ref r35, .ref r36, .int 0, .int 0, .ref r39])), (r24, .inl (cI, 8, .inl f))] s.heap := hP
  have hl := lv_entry ([.ref m0, .int 2]) (n := 3) (Nat.le_of_ble_eq_true rfl)
  rw [lg_entry_eq]
  generalize (lg_sl ([.ref m0, .int 2]) ++ List.replicate (3 - (lg_sl ([.ref m0, .int 2])).length) Slot.unset).toArray = ls at hl ⊢
  have hl : lv_has ls 3 [(0, .ref m0), (1, .int 2)] := hl
  refine lv_aload_n hx hb dX8_limit_0 rfl (lv_at hl 0 rfl) ?_
  refine va_get (D := D) (ci := 8) (v := .ref r24) (C := RX8) (T := TX8) (N := 40) hx hb hts iw_k_mlimit2_8 hown hK hP 0 rfl rfl 24 (by decide) (hts (.fieldLink RX8 101 "FlightDeskModel" "limits" "[I") (by decide +kernel)) (fun _ h9 => h9) rfl dX8_limit_1 ?_
  refine lv_iconst (v := 4) hx hb dX8_limit_4 (by decide) ?_
  refine lv_aload_n hx hb dX8_limit_5 rfl (lv_at hl 0 rfl) ?_
  refine va_get (D := D) (ci := 8) (v := .int 0) (C := RX8) (T := TX8) (N := 40) hx hb hts iw_k_mlimit2_8 hown hK hP 0 rfl rfl 25 (by decide) (hts (.fieldLink RX8 124 "FlightDeskModel" "bank" "I") (by decide +kernel)) (fun _ h9 => h9) rfl dX8_limit_6 ?_
  refine lv_imul hx hb dX8_limit_9 ?_
  refine lv_topi (fun vv ev => ?_)
  obtain rfl : vv = 0 := ev.trans (by decide)
  refine lv_iload_n hx hb dX8_limit_10 rfl (lv_at hl 1 rfl) ?_
  refine lv_iadd hx hb dX8_limit_11 ?_
  refine lv_topi (fun vv ev => ?_)
  obtain rfl : vv = 2 := ev.trans (by decide)
  refine va_iald hx hb hK hP 1 0 rfl rfl (show ¬ (_ ∨ _) by decide) dX8_limit_12 ?_
  refine lv_topi (fun vv ev => ?_)
  obtain rfl : vv = (-100000) := ev.trans (hu 2 (by decide))
  refine lv_istore_n (lv' := [(2, .int (-100000)), (0, .ref m0), (1, .int 2)]) hx hb dX8_limit_13 rfl hl (by decide) rfl (fun ls hl => ?_)
  refine lv_iload_n hx hb dX8_limit_14 rfl (lv_at hl 0 rfl) ?_
  refine lv_ldc hx hb hown (hts (.constant RX8 120 (-100000)) (by decide +kernel)) dX8_limit_15 ?_
  refine lv_icmp_eq (tgt := 24) hx hb dX8_limit_17 (by decide) (fun c1 => ?_) (fun h9 => (by first | exact absurd h9 (by decide) | exact absurd (by decide) h9))
  refine lv_iload_n hx hb dX8_limit_24 rfl (lv_at hl 2 rfl) ?_
  refine lv_if_ne (tgt := 34) hx hb dX8_limit_25 (by decide) (fun c2 => ?_) (fun h9 => (by first | exact absurd h9 (by decide) | exact absurd (by decide) h9))
  refine lv_iload_n hx hb dX8_limit_34 rfl (lv_at hl 2 rfl) ?_
  refine lv_iconst (v := 3) hx hb dX8_limit_35 (by decide) ?_
  refine lv_icmp_ne (tgt := 43) hx hb dX8_limit_36 (by decide) (fun c3 => ?_) (fun h9 => (by first | exact absurd h9 (by decide) | exact absurd (by decide) h9))
  refine lv_ldc hx hb hown (hts (.constant RX8 176 (60000)) (by decide +kernel)) dX8_limit_43 ?_
  refine W.widen (k := 0) (n := 0) (by decide) (by decide) ?_
  exact W.iret (v := 60000) hx hb hr (fun t ht hW => ⟨⟨60000, (), rfl, rfl, trivial⟩, hS.F ht⟩) hS.2.2 dX8_limit_45

def wk_k_mlimit3 : List Cond := .code yX8_limit cX8_limit 3 (some .int) :: ([.fieldLink RX8 101 "FlightDeskModel" "limits" "[I", .fieldLink RX8 124 "FlightDeskModel" "bank" "I", .constant RX8 120 (-100000)] ++ wsX80)
theorem iw_k_mlimit3_8 : ∀ w ∈ wsX80, w ∈ wk_k_mlimit3 := fun _ h => List.mem_cons_of_mem _ (List.mem_append_right _ h)
set_option maxHeartbeats 4000000 in
set_option maxRecDepth 100000 in
theorem k_mlimit3 (l : Launch) (D : va_G) (cI cB cP : ClassId) (sz : Nat) (m0 : Nat) (r0 : Nat) (r1 : Nat) (r11 : Nat) (r12 : Nat) (r13 : Nat) (r14 : Nat) (r15 : Nat) (r16 : Nat) (r17 : Nat) (r18 : Nat) (r19 : Nat) (r20 : Nat) (r21 : Nat) (r22 : Nat) (r23 : Nat) (r24 : Nat) (r34 : Nat) (r35 : Nat) (r36 : Nat) (r39 : Nat) (f : Nat → Int32) (hu : ∀ k : Nat, k < 4 → f k = -100000) : Met l yX8_limit wk_k_mlimit3 ({ frames := 0, cells := 0, slots := 0, locals := 0 } : Room) (va_Pc [.ref m0, .int 3] (Pw D cI cB cP sz [(m0, .inr (8, [.ref r0, .ref r1, .int 0, .int 0, .int 0, .int (-1), .int 0, .int 0, .int 0, .int 0, .long 0, .ref r11, .ref r12, .ref r13, .ref r14, .ref r15, .ref r16, .ref r17, .ref r18, .ref r19, .ref r20, .ref r21, .ref r22, .ref r23, .ref r24, .int 0, .int 0, .int 0, .int 0, .int 0, .int 0, .int 0, .int 0, .int 0, .ref r34, .ref r35, .ref r36, .int 0, .int 0, .ref r39])), (r24, .inl (cI, 8, .inl f))])) (va_Qi (fun (r : Int32) (_ : Unit) => r = 0) (fun _ _ => True) (va_A [(m0, .inr (8, [.ref r0, .ref r1, .int 0, .int 0, .int 0, .int (-1), .int 0, .int 0, .int 0, .int 0, .long 0, .ref r11, .ref r12, .ref r13, .ref r14, .ref r15, .ref r16, .ref r17, .ref r18, .ref r19, .ref r20, .ref r21, .ref r22, .ref r23, .ref r24, .int 0, .int 0, .int 0, .int 0, .int 0, .int 0, .int 0, .int 0, .int 0, .ref r34, .ref r35, .ref r36, .int 0, .int 0, .ref r39])), (r24, .inl (cI, 8, .inl f))] sz)) 0 0 (va_A [(m0, .inr (8, [.ref r0, .ref r1, .int 0, .int 0, .int 0, .int (-1), .int 0, .int 0, .int 0, .int 0, .long 0, .ref r11, .ref r12, .ref r13, .ref r14, .ref r15, .ref r16, .ref r17, .ref r18, .ref r19, .ref r20, .ref r21, .ref r22, .ref r23, .ref r24, .int 0, .int 0, .int 0, .int 0, .int 0, .int 0, .int 0, .int 0, .int 0, .ref r34, .ref r35, .ref r36, .int 0, .int 0, .ref r39])), (r24, .inl (cI, 8, .inl f))] sz) := by
  refine Met.ofW (cc := cX8_limit) (maxL := 3) (ret := (some .int)) (by decide) rfl ?_
  intro p e s m args below meth c s₁ B hml hv
  obtain ⟨rfl, hsz, hP, ⟨hK, hN⟩, hD0⟩ := hv
  have hx := B.exec
  have hb := B.bytes
  have hr := B.returns
  have hts := atoms_spec (ws := wk_k_mlimit3) B.pre
  have hown : s.vm.findClass RX8 = some m.cls := findClass_of_methodNamed B.named
  have hlocks := B.notSynchronized
  subst hsz
  have hD := hD0.self (sz := s.heap.size)
  generalize hAe : va_A [(m0, .inr (8, [.ref r0, .ref r1, .int 0, .int 0, .int 0, .int (-1), .int 0, .int 0, .int 0, .int 0, .long 0, .ref r11, .ref r12, .ref r13, .ref r14, .ref r15, .ref r16, .ref r17, .ref r18, .ref r19, .ref r20, .ref r21, .ref r22, .ref r23, .ref r24, .int 0, .int 0, .int 0, .int 0, .int 0, .int 0, .int 0, .int 0, .int 0, .ref r34, .ref r35, .ref r36, .int 0, .int 0, .ref r39])), (r24, .inl (cI, 8, .inl f))] s.heap.size = A at hD ⊢
  have hA : ∀ q : Nat, s.heap.size ≤ q → A q := fun q h => by rw [← hAe]; exact Or.inr h
  have hS : va_S A s.heap s.heap [] := va_S.rf
  have hP : va_P D vwCl [(m0, .inr (8, [.ref r0, .ref r1, .int 0, .int 0, .int 0, .int (-1), .int 0, .int 0, .int 0, .int 0, .long 0, .ref r11, .ref r12, .ref r13, .ref r14, .ref r15, .ref r16, .ref r17, .ref r18, .ref r19, .ref r20, .ref r21, .ref r22, .ref r23, .ref r24, .int 0, .int 0, .int 0, .int 0, .int 0, .int 0, .int 0, .int 0, .int 0, .ref r34, .ref r35, .ref r36, .int 0, .int 0, .ref r39])), (r24, .inl (cI, 8, .inl f))] s.heap := hP
  have hl := lv_entry ([.ref m0, .int 3]) (n := 3) (Nat.le_of_ble_eq_true rfl)
  rw [lg_entry_eq]
  generalize (lg_sl ([.ref m0, .int 3]) ++ List.replicate (3 - (lg_sl ([.ref m0, .int 3])).length) Slot.unset).toArray = ls at hl ⊢
  have hl : lv_has ls 3 [(0, .ref m0), (1, .int 3)] := hl
  refine lv_aload_n hx hb dX8_limit_0 rfl (lv_at hl 0 rfl) ?_
  refine va_get (D := D) (ci := 8) (v := .ref r24) (C := RX8) (T := TX8) (N := 40) hx hb hts iw_k_mlimit3_8 hown hK hP 0 rfl rfl 24 (by decide) (hts (.fieldLink RX8 101 "FlightDeskModel" "limits" "[I") (by decide +kernel)) (fun _ h9 => h9) rfl dX8_limit_1 ?_
  refine lv_iconst (v := 4) hx hb dX8_limit_4 (by decide) ?_
  refine lv_aload_n hx hb dX8_limit_5 rfl (lv_at hl 0 rfl) ?_
  refine va_get (D := D) (ci := 8) (v := .int 0) (C := RX8) (T := TX8) (N := 40) hx hb hts iw_k_mlimit3_8 hown hK hP 0 rfl rfl 25 (by decide) (hts (.fieldLink RX8 124 "FlightDeskModel" "bank" "I") (by decide +kernel)) (fun _ h9 => h9) rfl dX8_limit_6 ?_
  refine lv_imul hx hb dX8_limit_9 ?_
  refine lv_topi (fun vv ev => ?_)
  obtain rfl : vv = 0 := ev.trans (by decide)
  refine lv_iload_n hx hb dX8_limit_10 rfl (lv_at hl 1 rfl) ?_
  refine lv_iadd hx hb dX8_limit_11 ?_
  refine lv_topi (fun vv ev => ?_)
  obtain rfl : vv = 3 := ev.trans (by decide)
  refine va_iald hx hb hK hP 1 0 rfl rfl (show ¬ (_ ∨ _) by decide) dX8_limit_12 ?_
  refine lv_topi (fun vv ev => ?_)
  obtain rfl : vv = (-100000) := ev.trans (hu 3 (by decide))
  refine lv_istore_n (lv' := [(2, .int (-100000)), (0, .ref m0), (1, .int 3)]) hx hb dX8_limit_13 rfl hl (by decide) rfl (fun ls hl => ?_)
  refine lv_iload_n hx hb dX8_limit_14 rfl (lv_at hl 0 rfl) ?_
  refine lv_ldc hx hb hown (hts (.constant RX8 120 (-100000)) (by decide +kernel)) dX8_limit_15 ?_
  refine lv_icmp_eq (tgt := 24) hx hb dX8_limit_17 (by decide) (fun c1 => ?_) (fun h9 => (by first | exact absurd h9 (by decide) | exact absurd (by decide) h9))
  refine lv_iload_n hx hb dX8_limit_24 rfl (lv_at hl 2 rfl) ?_
  refine lv_if_ne (tgt := 34) hx hb dX8_limit_25 (by decide) (fun c2 => ?_) (fun h9 => (by first | exact absurd h9 (by decide) | exact absurd (by decide) h9))
  refine lv_iload_n hx hb dX8_limit_34 rfl (lv_at hl 2 rfl) ?_
  refine lv_iconst (v := 3) hx hb dX8_limit_35 (by decide) ?_
  refine lv_icmp_ne (tgt := 43) hx hb dX8_limit_36 (by decide) (fun h9 => (by first | exact absurd h9 (by decide) | exact absurd (by decide) h9)) (fun c3 => ?_)
  refine lv_iconst (v := 0) hx hb dX8_limit_39 (by decide) ?_
  refine lv_goto (tgt := 45) hx hb dX8_limit_40 (by decide) ?_
  refine W.widen (k := 0) (n := 0) (by decide) (by decide) ?_
  exact W.iret (v := 0) hx hb hr (fun t ht hW => ⟨⟨0, (), rfl, rfl, trivial⟩, hS.F ht⟩) hS.2.2 dX8_limit_45

def wk_k_mburn0 : List Cond := .code yX8_burn cX8_burn 5 (some .int) :: ([.fieldLink RX8 124 "FlightDeskModel" "bank" "I", .fieldLink RX8 95 "FlightDeskModel" "burns" "[I", .constant RX8 120 (-100000)] ++ wsX80)
theorem iw_k_mburn0_8 : ∀ w ∈ wsX80, w ∈ wk_k_mburn0 := fun _ h => List.mem_cons_of_mem _ (List.mem_append_right _ h)
set_option maxHeartbeats 4000000 in
set_option maxRecDepth 100000 in
theorem k_mburn0 (l : Launch) (D : va_G) (cI cB cP : ClassId) (sz : Nat) (m0 : Nat) (r0 : Nat) (r1 : Nat) (r11 : Nat) (r12 : Nat) (r13 : Nat) (r14 : Nat) (r15 : Nat) (r16 : Nat) (r17 : Nat) (r18 : Nat) (r19 : Nat) (r20 : Nat) (r21 : Nat) (r22 : Nat) (r23 : Nat) (r24 : Nat) (r34 : Nat) (r35 : Nat) (r36 : Nat) (r39 : Nat) (L : Nat) (f : Nat → Int32) (hL : L < 6) (hu : ∀ k : Nat, k < 30 → f k = -100000) : Met l yX8_burn wk_k_mburn0 ({ frames := 0, cells := 0, slots := 0, locals := 0 } : Room) (va_Pc [.ref m0, .int (nI L), .int 0] (Pw D cI cB cP sz [(m0, .inr (8, [.ref r0, .ref r1, .int 0, .int 0, .int 0, .int (-1), .int 0, .int 0, .int 0, .int 0, .long 0, .ref r11, .ref r12, .ref r13, .ref r14, .ref r15, .ref r16, .ref r17, .ref r18, .ref r19, .ref r20, .ref r21, .ref r22, .ref r23, .ref r24, .int 0, .int 0, .int 0, .int 0, .int 0, .int 0, .int 0, .int 0, .int 0, .ref r34, .ref r35, .ref r36, .int 0, .int 0, .ref r39])), (r22, .inl (cI, 60, .inl f))])) (va_Qi (fun (r : Int32) (_ : Unit) => r = 1000) (fun _ _ => True) (va_A [(m0, .inr (8, [.ref r0, .ref r1, .int 0, .int 0, .int 0, .int (-1), .int 0, .int 0, .int 0, .int 0, .long 0, .ref r11, .ref r12, .ref r13, .ref r14, .ref r15, .ref r16, .ref r17, .ref r18, .ref r19, .ref r20, .ref r21, .ref r22, .ref r23, .ref r24, .int 0, .int 0, .int 0, .int 0, .int 0, .int 0, .int 0, .int 0, .int 0, .ref r34, .ref r35, .ref r36, .int 0, .int 0, .ref r39])), (r22, .inl (cI, 60, .inl f))] sz)) 0 0 (va_A [(m0, .inr (8, [.ref r0, .ref r1, .int 0, .int 0, .int 0, .int (-1), .int 0, .int 0, .int 0, .int 0, .long 0, .ref r11, .ref r12, .ref r13, .ref r14, .ref r15, .ref r16, .ref r17, .ref r18, .ref r19, .ref r20, .ref r21, .ref r22, .ref r23, .ref r24, .int 0, .int 0, .int 0, .int 0, .int 0, .int 0, .int 0, .int 0, .int 0, .ref r34, .ref r35, .ref r36, .int 0, .int 0, .ref r39])), (r22, .inl (cI, 60, .inl f))] sz) := by
  refine Met.ofW (cc := cX8_burn) (maxL := 5) (ret := (some .int)) (by decide) rfl ?_
  intro p e s m args below meth c s₁ B hml hv
  obtain ⟨rfl, hsz, hP, ⟨hK, hN⟩, hD0⟩ := hv
  have hx := B.exec
  have hb := B.bytes
  have hr := B.returns
  have hts := atoms_spec (ws := wk_k_mburn0) B.pre
  have hown : s.vm.findClass RX8 = some m.cls := findClass_of_methodNamed B.named
  have hlocks := B.notSynchronized
  subst hsz
  have hD := hD0.self (sz := s.heap.size)
  generalize hAe : va_A [(m0, .inr (8, [.ref r0, .ref r1, .int 0, .int 0, .int 0, .int (-1), .int 0, .int 0, .int 0, .int 0, .long 0, .ref r11, .ref r12, .ref r13, .ref r14, .ref r15, .ref r16, .ref r17, .ref r18, .ref r19, .ref r20, .ref r21, .ref r22, .ref r23, .ref r24, .int 0, .int 0, .int 0, .int 0, .int 0, .int 0, .int 0, .int 0, .int 0, .ref r34, .ref r35, .ref r36, .int 0, .int 0, .ref r39])), (r22, .inl (cI, 60, .inl f))] s.heap.size = A at hD ⊢
  have hA : ∀ q : Nat, s.heap.size ≤ q → A q := fun q h => by rw [← hAe]; exact Or.inr h
  have hS : va_S A s.heap s.heap [] := va_S.rf
  have hP : va_P D vwCl [(m0, .inr (8, [.ref r0, .ref r1, .int 0, .int 0, .int 0, .int (-1), .int 0, .int 0, .int 0, .int 0, .long 0, .ref r11, .ref r12, .ref r13, .ref r14, .ref r15, .ref r16, .ref r17, .ref r18, .ref r19, .ref r20, .ref r21, .ref r22, .ref r23, .ref r24, .int 0, .int 0, .int 0, .int 0, .int 0, .int 0, .int 0, .int 0, .int 0, .ref r34, .ref r35, .ref r36, .int 0, .int 0, .ref r39])), (r22, .inl (cI, 60, .inl f))] s.heap := hP
  have hl := lv_entry ([.ref m0, .int (nI L), .int 0]) (n := 5) (Nat.le_of_ble_eq_true rfl)
  rw [lg_entry_eq]
  generalize (lg_sl ([.ref m0, .int (nI L), .int 0]) ++ List.replicate (5 - (lg_sl ([.ref m0, .int (nI L), .int 0])).length) Slot.unset).toArray = ls at hl ⊢
  have hl : lv_has ls 5 [(0, .ref m0), (1, .int (nI L)), (2, .int 0)] := hl
  refine lv_bipush (v := 30) hx hb dX8_burn_0 (by decide) ?_
  refine lv_aload_n hx hb dX8_burn_2 rfl (lv_at hl 0 rfl) ?_
  refine va_get (D := D) (ci := 8) (v := .int 0) (C := RX8) (T := TX8) (N := 40) hx hb hts iw_k_mburn0_8 hown hK hP 0 rfl rfl 25 (by decide) (hts (.fieldLink RX8 124 "FlightDeskModel" "bank" "I") (by decide +kernel)) (fun _ h9 => h9) rfl dX8_burn_3 ?_
  refine lv_imul hx hb dX8_burn_6 ?_
  refine lv_topi (fun vv ev => ?_)
  obtain rfl : vv = 0 := ev.trans (by decide)
  refine lv_iconst (v := 5) hx hb dX8_burn_7 (by decide) ?_
  refine lv_iload_n hx hb dX8_burn_8 rfl (lv_at hl 1 rfl) ?_
  refine lv_imul hx hb dX8_burn_9 ?_
  refine lv_topi (fun vv ev => ?_)
  obtain rfl : vv = nI (5 * L) := ev.trans (pk_mul 5 L)
  refine lv_iadd hx hb dX8_burn_10 ?_
  refine lv_topi (fun vv ev => ?_)
  obtain rfl : vv = nI (5 * L) := ev.trans (by rw [show (0 : Int32) = nI 0 from rfl, nI_add, Nat.zero_add])
  refine lv_istore_n (lv' := [(3, .int (nI (5 * L))), (0, .ref m0), (1, .int (nI L)), (2, .int 0)]) hx hb dX8_burn_11 rfl hl (by decide) rfl (fun ls hl => ?_)
  refine lv_iload_n hx hb dX8_burn_12 rfl (lv_at hl 3 rfl) ?_
  refine lv_istore (lv' := [(4, .int 0), (3, .int (nI (5 * L))), (0, .ref m0), (1, .int (nI L)), (2, .int 0)]) hx hb dX8_burn_13 hl (by decide) rfl (fun ls hl => ?_)
  refine lv_iload hx hb dX8_burn_15 (lv_at hl 0 rfl) ?_
  refine lv_if_lt (tgt := 40) hx hb dX8_burn_17 (by decide) (fun h9 => (by first | exact absurd h9 (by decide) | exact absurd (by decide) h9)) (fun c1 => ?_)
  refine lv_aload_n hx hb dX8_burn_20 rfl (lv_at hl 2 rfl) ?_
  refine va_get (D := D) (ci := 8) (v := .ref r22) (C := RX8) (T := TX8) (N := 40) hx hb hts iw_k_mburn0_8 hown hK hP 0 rfl rfl 22 (by decide) (hts (.fieldLink RX8 95 "FlightDeskModel" "burns" "[I") (by decide +kernel)) (fun _ h9 => h9) rfl dX8_burn_21 ?_
  refine lv_iload_n hx hb dX8_burn_24 rfl (lv_at hl 1 rfl) ?_
  refine lv_iload hx hb dX8_burn_25 (lv_at hl 0 rfl) ?_
  refine lv_iadd hx hb dX8_burn_27 ?_
  refine lv_topi (fun vv ev => ?_)
  obtain rfl : vv = nI (5 * L + 0) := ev.trans (nI_add (5 * L) 0)
  refine va_iald hx hb hK hP 1 0 rfl rfl (vp_in_nI (by omega) (by decide)) dX8_burn_28 ?_
  refine lv_topi (fun vv ev => ?_)
  obtain rfl : vv = (-100000) := ev.trans (by rw [nI_clamp (by omega)]; exact hu _ (by omega))
  refine lv_ldc hx hb hown (hts (.constant RX8 120 (-100000)) (by decide +kernel)) dX8_burn_29 ?_
  refine lv_icmp_ne (tgt := 40) hx hb dX8_burn_31 (by decide) (fun h9 => (by first | exact absurd h9 (by decide) | exact absurd (by decide) h9)) (fun c2 => ?_)
  refine lv_iinc (v := (-1)) (lv' := [(4, .int (-1)), (3, .int (nI (5 * L))), (0, .ref m0), (1, .int (nI L)), (2, .int 0)]) hx hb dX8_burn_34 hl (k := 0) rfl (by decide) (by decide) rfl (fun ls hl => ?_)
  refine lv_goto (tgt := 15) hx hb dX8_burn_37 (by decide) ?_
  refine lv_iload hx hb dX8_burn_15 (lv_at hl 0 rfl) ?_
  refine lv_if_lt (tgt := 40) hx hb dX8_burn_17 (by decide) (fun c3 => ?_) (fun h9 => (by first | exact absurd h9 (by decide) | exact absurd (by decide) h9))
  refine lv_iload hx hb dX8_burn_40 (lv_at hl 0 rfl) ?_
  refine lv_if_lt (tgt := 55) hx hb dX8_burn_42 (by decide) (fun c4 => ?_) (fun h9 => (by first | exact absurd h9 (by decide) | exact absurd (by decide) h9))
  refine lv_iload_n hx hb dX8_burn_55 rfl (lv_at hl 4 rfl) ?_
  refine lv_istore (lv' := [(4, .int 0), (3, .int (nI (5 * L))), (0, .ref m0), (1, .int (nI L)), (2, .int 0)]) hx hb dX8_burn_56 hl (by decide) rfl (fun ls hl => ?_)
  refine lv_iload hx hb dX8_burn_58 (lv_at hl 0 rfl) ?_
  refine lv_iconst (v := 5) hx hb dX8_burn_60 (by decide) ?_
  refine lv_icmp_ge (tgt := 84) hx hb dX8_burn_61 (by decide) (fun h9 => (by first | exact absurd h9 (by decide) | exact absurd (by decide) h9)) (fun c5 => ?_)
  refine lv_aload_n hx hb dX8_burn_64 rfl (lv_at hl 2 rfl) ?_
  refine va_get (D := D) (ci := 8) (v := .ref r22) (C := RX8) (T := TX8) (N := 40) hx hb hts iw_k_mburn0_8 hown hK hP 0 rfl rfl 22 (by decide) (hts (.fieldLink RX8 95 "FlightDeskModel" "burns" "[I") (by decide +kernel)) (fun _ h9 => h9) rfl dX8_burn_65 ?_
  refine lv_iload_n hx hb dX8_burn_68 rfl (lv_at hl 1 rfl) ?_
  refine lv_iload hx hb dX8_burn_69 (lv_at hl 0 rfl) ?_
  refine lv_iadd hx hb dX8_burn_71 ?_
  refine lv_topi (fun vv ev => ?_)
  obtain rfl : vv = nI (5 * L + 0) := ev.trans (nI_add (5 * L) 0)
  refine va_iald hx hb hK hP 1 0 rfl rfl (vp_in_nI (by omega) (by decide)) dX8_burn_72 ?_
  refine lv_topi (fun vv ev => ?_)
  obtain rfl : vv = (-100000) := ev.trans (by rw [nI_clamp (by omega)]; exact hu _ (by omega))
  refine lv_ldc hx hb hown (hts (.constant RX8 120 (-100000)) (by decide +kernel)) dX8_burn_73 ?_
  refine lv_icmp_ne (tgt := 84) hx hb dX8_burn_75 (by decide) (fun h9 => (by first | exact absurd h9 (by decide) | exact absurd (by decide) h9)) (fun c6 => ?_)
  refine lv_iinc (v := 1) (lv' := [(4, .int 1), (3, .int (nI (5 * L))), (0, .ref m0), (1, .int (nI L)), (2, .int 0)]) hx hb dX8_burn_78 hl (k := 0) rfl (by decide) (by decide) rfl (fun ls hl => ?_)
  refine lv_goto (tgt := 58) hx hb dX8_burn_81 (by decide) ?_
  refine lv_iload hx hb dX8_burn_58 (lv_at hl 0 rfl) ?_
  refine lv_iconst (v := 5) hx hb dX8_burn_60 (by decide) ?_
  refine lv_icmp_ge (tgt := 84) hx hb dX8_burn_61 (by decide) (fun h9 => (by first | exact absurd h9 (by decide) | exact absurd (by decide) h9)) (fun c7 => ?_)
  refine lv_aload_n hx hb dX8_burn_64 rfl (lv_at hl 2 rfl) ?_
  refine va_get (D := D) (ci := 8) (v := .ref r22) (C := RX8) (T := TX8) (N := 40) hx hb hts iw_k_mburn0_8 hown hK hP 0 rfl rfl 22 (by decide) (hts (.fieldLink RX8 95 "FlightDeskModel" "burns" "[I") (by decide +kernel)) (fun _ h9 => h9) rfl dX8_burn_65 ?_
  refine lv_iload_n hx hb dX8_burn_68 rfl (lv_at hl 1 rfl) ?_
  refine lv_iload hx hb dX8_burn_69 (lv_at hl 0 rfl) ?_
  refine lv_iadd hx hb dX8_burn_71 ?_
  refine lv_topi (fun vv ev => ?_)
  obtain rfl : vv = nI (5 * L + 1) := ev.trans (nI_add (5 * L) 1)
  refine va_iald hx hb hK hP 1 0 rfl rfl (vp_in_nI (by omega) (by decide)) dX8_burn_72 ?_
  refine lv_topi (fun vv ev => ?_)
  obtain rfl : vv = (-100000) := ev.trans (by rw [nI_clamp (by omega)]; exact hu _ (by omega))
  refine lv_ldc hx hb hown (hts (.constant RX8 120 (-100000)) (by decide +kernel)) dX8_burn_73 ?_
  refine lv_icmp_ne (tgt := 84) hx hb dX8_burn_75 (by decide) (fun h9 => (by first | exact absurd h9 (by decide) | exact absurd (by decide) h9)) (fun c8 => ?_)
  refine lv_iinc (v := 2) (lv' := [(4, .int 2), (3, .int (nI (5 * L))), (0, .ref m0), (1, .int (nI L)), (2, .int 0)]) hx hb dX8_burn_78 hl (k := 0) rfl (by decide) (by decide) rfl (fun ls hl => ?_)
  refine lv_goto (tgt := 58) hx hb dX8_burn_81 (by decide) ?_
  refine lv_iload hx hb dX8_burn_58 (lv_at hl 0 rfl) ?_
  refine lv_iconst (v := 5) hx hb dX8_burn_60 (by decide) ?_
  refine lv_icmp_ge (tgt := 84) hx hb dX8_burn_61 (by decide) (fun h9 => (by first | exact absurd h9 (by decide) | exact absurd (by decide) h9)) (fun c9 => ?_)
  refine lv_aload_n hx hb dX8_burn_64 rfl (lv_at hl 2 rfl) ?_
  refine va_get (D := D) (ci := 8) (v := .ref r22) (C := RX8) (T := TX8) (N := 40) hx hb hts iw_k_mburn0_8 hown hK hP 0 rfl rfl 22 (by decide) (hts (.fieldLink RX8 95 "FlightDeskModel" "burns" "[I") (by decide +kernel)) (fun _ h9 => h9) rfl dX8_burn_65 ?_
  refine lv_iload_n hx hb dX8_burn_68 rfl (lv_at hl 1 rfl) ?_
  refine lv_iload hx hb dX8_burn_69 (lv_at hl 0 rfl) ?_
  refine lv_iadd hx hb dX8_burn_71 ?_
  refine lv_topi (fun vv ev => ?_)
  obtain rfl : vv = nI (5 * L + 2) := ev.trans (nI_add (5 * L) 2)
  refine va_iald hx hb hK hP 1 0 rfl rfl (vp_in_nI (by omega) (by decide)) dX8_burn_72 ?_
  refine lv_topi (fun vv ev => ?_)
  obtain rfl : vv = (-100000) := ev.trans (by rw [nI_clamp (by omega)]; exact hu _ (by omega))
  refine lv_ldc hx hb hown (hts (.constant RX8 120 (-100000)) (by decide +kernel)) dX8_burn_73 ?_
  refine lv_icmp_ne (tgt := 84) hx hb dX8_burn_75 (by decide) (fun h9 => (by first | exact absurd h9 (by decide) | exact absurd (by decide) h9)) (fun c10 => ?_)
  refine lv_iinc (v := 3) (lv' := [(4, .int 3), (3, .int (nI (5 * L))), (0, .ref m0), (1, .int (nI L)), (2, .int 0)]) hx hb dX8_burn_78 hl (k := 0) rfl (by decide) (by decide) rfl (fun ls hl => ?_)
  refine lv_goto (tgt := 58) hx hb dX8_burn_81 (by decide) ?_
  refine lv_iload hx hb dX8_burn_58 (lv_at hl 0 rfl) ?_
  refine lv_iconst (v := 5) hx hb dX8_burn_60 (by decide) ?_
  refine lv_icmp_ge (tgt := 84) hx hb dX8_burn_61 (by decide) (fun h9 => (by first | exact absurd h9 (by decide) | exact absurd (by decide) h9)) (fun c11 => ?_)
  refine lv_aload_n hx hb dX8_burn_64 rfl (lv_at hl 2 rfl) ?_
  refine va_get (D := D) (ci := 8) (v := .ref r22) (C := RX8) (T := TX8) (N := 40) hx hb hts iw_k_mburn0_8 hown hK hP 0 rfl rfl 22 (by decide) (hts (.fieldLink RX8 95 "FlightDeskModel" "burns" "[I") (by decide +kernel)) (fun _ h9 => h9) rfl dX8_burn_65 ?_
  refine lv_iload_n hx hb dX8_burn_68 rfl (lv_at hl 1 rfl) ?_
  refine lv_iload hx hb dX8_burn_69 (lv_at hl 0 rfl) ?_
  refine lv_iadd hx hb dX8_burn_71 ?_
  refine lv_topi (fun vv ev => ?_)
  obtain rfl : vv = nI (5 * L + 3) := ev.trans (nI_add (5 * L) 3)
  refine va_iald hx hb hK hP 1 0 rfl rfl (vp_in_nI (by omega) (by decide)) dX8_burn_72 ?_
  refine lv_topi (fun vv ev => ?_)
  obtain rfl : vv = (-100000) := ev.trans (by rw [nI_clamp (by omega)]; exact hu _ (by omega))
  refine lv_ldc hx hb hown (hts (.constant RX8 120 (-100000)) (by decide +kernel)) dX8_burn_73 ?_
  refine lv_icmp_ne (tgt := 84) hx hb dX8_burn_75 (by decide) (fun h9 => (by first | exact absurd h9 (by decide) | exact absurd (by decide) h9)) (fun c12 => ?_)
  refine lv_iinc (v := 4) (lv' := [(4, .int 4), (3, .int (nI (5 * L))), (0, .ref m0), (1, .int (nI L)), (2, .int 0)]) hx hb dX8_burn_78 hl (k := 0) rfl (by decide) (by decide) rfl (fun ls hl => ?_)
  refine lv_goto (tgt := 58) hx hb dX8_burn_81 (by decide) ?_
  refine lv_iload hx hb dX8_burn_58 (lv_at hl 0 rfl) ?_
  refine lv_iconst (v := 5) hx hb dX8_burn_60 (by decide) ?_
  refine lv_icmp_ge (tgt := 84) hx hb dX8_burn_61 (by decide) (fun h9 => (by first | exact absurd h9 (by decide) | exact absurd (by decide) h9)) (fun c13 => ?_)
  refine lv_aload_n hx hb dX8_burn_64 rfl (lv_at hl 2 rfl) ?_
  refine va_get (D := D) (ci := 8) (v := .ref r22) (C := RX8) (T := TX8) (N := 40) hx hb hts iw_k_mburn0_8 hown hK hP 0 rfl rfl 22 (by decide) (hts (.fieldLink RX8 95 "FlightDeskModel" "burns" "[I") (by decide +kernel)) (fun _ h9 => h9) rfl dX8_burn_65 ?_
  refine lv_iload_n hx hb dX8_burn_68 rfl (lv_at hl 1 rfl) ?_
  refine lv_iload hx hb dX8_burn_69 (lv_at hl 0 rfl) ?_
  refine lv_iadd hx hb dX8_burn_71 ?_
  refine lv_topi (fun vv ev => ?_)
  obtain rfl : vv = nI (5 * L + 4) := ev.trans (nI_add (5 * L) 4)
  refine va_iald hx hb hK hP 1 0 rfl rfl (vp_in_nI (by omega) (by decide)) dX8_burn_72 ?_
  refine lv_topi (fun vv ev => ?_)
  obtain rfl : vv = (-100000) := ev.trans (by rw [nI_clamp (by omega)]; exact hu _ (by omega))
  refine lv_ldc hx hb hown (hts (.constant RX8 120 (-100000)) (by decide +kernel)) dX8_burn_73 ?_
  refine lv_icmp_ne (tgt := 84) hx hb dX8_burn_75 (by decide) (fun h9 => (by first | exact absurd h9 (by decide) | exact absurd (by decide) h9)) (fun c14 => ?_)
  refine lv_iinc (v := 5) (lv' := [(4, .int 5), (3, .int (nI (5 * L))), (0, .ref m0), (1, .int (nI L)), (2, .int 0)]) hx hb dX8_burn_78 hl (k := 0) rfl (by decide) (by decide) rfl (fun ls hl => ?_)
  refine lv_goto (tgt := 58) hx hb dX8_burn_81 (by decide) ?_
  refine lv_iload hx hb dX8_burn_58 (lv_at hl 0 rfl) ?_
  refine lv_iconst (v := 5) hx hb dX8_burn_60 (by decide) ?_
  refine lv_icmp_ge (tgt := 84) hx hb dX8_burn_61 (by decide) (fun c15 => ?_) (fun h9 => (by first | exact absurd h9 (by decide) | exact absurd (by decide) h9))
  refine lv_iload hx hb dX8_burn_84 (lv_at hl 0 rfl) ?_
  refine lv_iconst (v := 5) hx hb dX8_burn_86 (by decide) ?_
  refine lv_icmp_ge (tgt := 102) hx hb dX8_burn_87 (by decide) (fun c16 => ?_) (fun h9 => (by first | exact absurd h9 (by decide) | exact absurd (by decide) h9))
  refine lv_sipush (v := 1000) hx hb dX8_burn_102 (by decide) ?_
  refine W.widen (k := 0) (n := 0) (by decide) (by decide) ?_
  exact W.iret (v := 1000) hx hb hr (fun t ht hW => ⟨⟨1000, (), rfl, rfl, trivial⟩, hS.F ht⟩) hS.2.2 dX8_burn_105

def wk_k_mburn1 : List Cond := .code yX8_burn cX8_burn 5 (some .int) :: ([.fieldLink RX8 124 "FlightDeskModel" "bank" "I", .fieldLink RX8 95 "FlightDeskModel" "burns" "[I", .constant RX8 120 (-100000)] ++ wsX80)
theorem iw_k_mburn1_8 : ∀ w ∈ wsX80, w ∈ wk_k_mburn1 := fun _ h => List.mem_cons_of_mem _ (List.mem_append_right _ h)
set_option maxHeartbeats 4000000 in
set_option maxRecDepth 100000 in
theorem k_mburn1 (l : Launch) (D : va_G) (cI cB cP : ClassId) (sz : Nat) (m0 : Nat) (r0 : Nat) (r1 : Nat) (r11 : Nat) (r12 : Nat) (r13 : Nat) (r14 : Nat) (r15 : Nat) (r16 : Nat) (r17 : Nat) (r18 : Nat) (r19 : Nat) (r20 : Nat) (r21 : Nat) (r22 : Nat) (r23 : Nat) (r24 : Nat) (r34 : Nat) (r35 : Nat) (r36 : Nat) (r39 : Nat) (L : Nat) (f : Nat → Int32) (hL : L < 6) (hu : ∀ k : Nat, k < 30 → f k = -100000) : Met l yX8_burn wk_k_mburn1 ({ frames := 0, cells := 0, slots := 0, locals := 0 } : Room) (va_Pc [.ref m0, .int (nI L), .int 1] (Pw D cI cB cP sz [(m0, .inr (8, [.ref r0, .ref r1, .int 0, .int 0, .int 0, .int (-1), .int 0, .int 0, .int 0, .int 0, .long 0, .ref r11, .ref r12, .ref r13, .ref r14, .ref r15, .ref r16, .ref r17, .ref r18, .ref r19, .ref r20, .ref r21, .ref r22, .ref r23, .ref r24, .int 0, .int 0, .int 0, .int 0, .int 0, .int 0, .int 0, .int 0, .int 0, .ref r34, .ref r35, .ref r36, .int 0, .int 0, .ref r39])), (r22, .inl (cI, 60, .inl f))])) (va_Qi (fun (r : Int32) (_ : Unit) => r = 1000) (fun _ _ => True) (va_A [(m0, .inr (8, [.ref r0, .ref r1, .int 0, .int 0, .int 0, .int (-1), .int 0, .int 0, .int 0, .int 0, .long 0, .ref r11, .ref r12, .ref r13, .ref r14, .ref r15, .ref r16, .ref r17, .ref r18, .ref r19, .ref r20, .ref r21, .ref r22, .ref r23, .ref r24, .int 0, .int 0, .int 0, .int 0, .int 0, .int 0, .int 0, .int 0, .int 0, .ref r34, .ref r35, .ref r36, .int 0, .int 0, .ref r39])), (r22, .inl (cI, 60, .inl f))] sz)) 0 0 (va_A [(m0, .inr (8, [.ref r0, .ref r1, .int 0, .int 0, .int 0, .int (-1), .int 0, .int 0, .int 0, .int 0, .long 0, .ref r11, .ref r12, .ref r13, .ref r14, .ref r15, .ref r16, .ref r17, .ref r18, .ref r19, .ref r20, .ref r21, .ref r22, .ref r23, .ref r24, .int 0, .int 0, .int 0, .int 0, .int 0, .int 0, .int 0, .int 0, .int 0, .ref r34, .ref r35, .ref r36, .int 0, .int 0, .ref r39])), (r22, .inl (cI, 60, .inl f))] sz) := by
  refine Met.ofW (cc := cX8_burn) (maxL := 5) (ret := (some .int)) (by decide) rfl ?_
  intro p e s m args below meth c s₁ B hml hv
  obtain ⟨rfl, hsz, hP, ⟨hK, hN⟩, hD0⟩ := hv
  have hx := B.exec
  have hb := B.bytes
  have hr := B.returns
  have hts := atoms_spec (ws := wk_k_mburn1) B.pre
  have hown : s.vm.findClass RX8 = some m.cls := findClass_of_methodNamed B.named
  have hlocks := B.notSynchronized
  subst hsz
  have hD := hD0.self (sz := s.heap.size)
  generalize hAe : va_A [(m0, .inr (8, [.ref r0, .ref r1, .int 0, .int 0, .int 0, .int (-1), .int 0, .int 0, .int 0, .int 0, .long 0, .ref r11, .ref r12, .ref r13, .ref r14, .ref r15, .ref r16, .ref r17, .ref r18, .ref r19, .ref r20, .ref r21, .ref r22, .ref r23, .ref r24, .int 0, .int 0, .int 0, .int 0, .int 0, .int 0, .int 0, .int 0, .int 0, .ref r34, .ref r35, .ref r36, .int 0, .int 0, .ref r39])), (r22, .inl (cI, 60, .inl f))] s.heap.size = A at hD ⊢
  have hA : ∀ q : Nat, s.heap.size ≤ q → A q := fun q h => by rw [← hAe]; exact Or.inr h
  have hS : va_S A s.heap s.heap [] := va_S.rf
  have hP : va_P D vwCl [(m0, .inr (8, [.ref r0, .ref r1, .int 0, .int 0, .int 0, .int (-1), .int 0, .int 0, .int 0, .int 0, .long 0, .ref r11, .ref r12, .ref r13, .ref r14, .ref r15, .ref r16, .ref r17, .ref r18, .ref r19, .ref r20, .ref r21, .ref r22, .ref r23, .ref r24, .int 0, .int 0, .int 0, .int 0, .int 0, .int 0, .int 0, .int 0, .int 0, .ref r34, .ref r35, .ref r36, .int 0, .int 0, .ref r39])), (r22, .inl (cI, 60, .inl f))] s.heap := hP
  have hl := lv_entry ([.ref m0, .int (nI L), .int 1]) (n := 5) (Nat.le_of_ble_eq_true rfl)
  rw [lg_entry_eq]
  generalize (lg_sl ([.ref m0, .int (nI L), .int 1]) ++ List.replicate (5 - (lg_sl ([.ref m0, .int (nI L), .int 1])).length) Slot.unset).toArray = ls at hl ⊢
  have hl : lv_has ls 5 [(0, .ref m0), (1, .int (nI L)), (2, .int 1)] := hl
  refine lv_bipush (v := 30) hx hb dX8_burn_0 (by decide) ?_
  refine lv_aload_n hx hb dX8_burn_2 rfl (lv_at hl 0 rfl) ?_
  refine va_get (D := D) (ci := 8) (v := .int 0) (C := RX8) (T := TX8) (N := 40) hx hb hts iw_k_mburn1_8 hown hK hP 0 rfl rfl 25 (by decide) (hts (.fieldLink RX8 124 "FlightDeskModel" "bank" "I") (by decide +kernel)) (fun _ h9 => h9) rfl dX8_burn_3 ?_
  refine lv_imul hx hb dX8_burn_6 ?_
  refine lv_topi (fun vv ev => ?_)
  obtain rfl : vv = 0 := ev.trans (by decide)
  refine lv_iconst (v := 5) hx hb dX8_burn_7 (by decide) ?_
  refine lv_iload_n hx hb dX8_burn_8 rfl (lv_at hl 1 rfl) ?_
  refine lv_imul hx hb dX8_burn_9 ?_
  refine lv_topi (fun vv ev => ?_)
  obtain rfl : vv = nI (5 * L) := ev.trans (pk_mul 5 L)
  refine lv_iadd hx hb dX8_burn_10 ?_
  refine lv_topi (fun vv ev => ?_)
  obtain rfl : vv = nI (5 * L) := ev.trans (by rw [show (0 : Int32) = nI 0 from rfl, nI_add, Nat.zero_add])
  refine lv_istore_n (lv' := [(3, .int (nI (5 * L))), (0, .ref m0), (1, .int (nI L)), (2, .int 1)]) hx hb dX8_burn_11 rfl hl (by decide) rfl (fun ls hl => ?_)
  refine lv_iload_n hx hb dX8_burn_12 rfl (lv_at hl 3 rfl) ?_
  refine lv_istore (lv' := [(4, .int 1), (3, .int (nI (5 * L))), (0, .ref m0), (1, .int (nI L)), (2, .int 1)]) hx hb dX8_burn_13 hl (by decide) rfl (fun ls hl => ?_)
  refine lv_iload hx hb dX8_burn_15 (lv_at hl 0 rfl) ?_
  refine lv_if_lt (tgt := 40) hx hb dX8_burn_17 (by decide) (fun h9 => (by first | exact absurd h9 (by decide) | exact absurd (by decide) h9)) (fun c1 => ?_)
  refine lv_aload_n hx hb dX8_burn_20 rfl (lv_at hl 2 rfl) ?_
  refine va_get (D := D) (ci := 8) (v := .ref r22) (C := RX8) (T := TX8) (N := 40) hx hb hts iw_k_mburn1_8 hown hK hP 0 rfl rfl 22 (by decide) (hts (.fieldLink RX8 95 "FlightDeskModel" "burns" "[I") (by decide +kernel)) (fun _ h9 => h9) rfl dX8_burn_21 ?_
  refine lv_iload_n hx hb dX8_burn_24 rfl (lv_at hl 1 rfl) ?_
  refine lv_iload hx hb dX8_burn_25 (lv_at hl 0 rfl) ?_
  refine lv_iadd hx hb dX8_burn_27 ?_
  refine lv_topi (fun vv ev => ?_)
  obtain rfl : vv = nI (5 * L + 1) := ev.trans (nI_add (5 * L) 1)
  refine va_iald hx hb hK hP 1 0 rfl rfl (vp_in_nI (by omega) (by decide)) dX8_burn_28 ?_
  refine lv_topi (fun vv ev => ?_)
  obtain rfl : vv = (-100000) := ev.trans (by rw [nI_clamp (by omega)]; exact hu _ (by omega))
  refine lv_ldc hx hb hown (hts (.constant RX8 120 (-100000)) (by decide +kernel)) dX8_burn_29 ?_
  refine lv_icmp_ne (tgt := 40) hx hb dX8_burn_31 (by decide) (fun h9 => (by first | exact absurd h9 (by decide) | exact absurd (by decide) h9)) (fun c2 => ?_)
  refine lv_iinc (v := 0) (lv' := [(4, .int 0), (3, .int (nI (5 * L))), (0, .ref m0), (1, .int (nI L)), (2, .int 1)]) hx hb dX8_burn_34 hl (k := 0) rfl (by decide) (by decide) rfl (fun ls hl => ?_)
  refine lv_goto (tgt := 15) hx hb dX8_burn_37 (by decide) ?_
  refine lv_iload hx hb dX8_burn_15 (lv_at hl 0 rfl) ?_
  refine lv_if_lt (tgt := 40) hx hb dX8_burn_17 (by decide) (fun h9 => (by first | exact absurd h9 (by decide) | exact absurd (by decide) h9)) (fun c3 => ?_)
  refine lv_aload_n hx hb dX8_burn_20 rfl (lv_at hl 2 rfl) ?_
  refine va_get (D := D) (ci := 8) (v := .ref r22) (C := RX8) (T := TX8) (N := 40) hx hb hts iw_k_mburn1_8 hown hK hP 0 rfl rfl 22 (by decide) (hts (.fieldLink RX8 95 "FlightDeskModel" "burns" "[I") (by decide +kernel)) (fun _ h9 => h9) rfl dX8_burn_21 ?_
  refine lv_iload_n hx hb dX8_burn_24 rfl (lv_at hl 1 rfl) ?_
  refine lv_iload hx hb dX8_burn_25 (lv_at hl 0 rfl) ?_
  refine lv_iadd hx hb dX8_burn_27 ?_
  refine lv_topi (fun vv ev => ?_)
  obtain rfl : vv = nI (5 * L + 0) := ev.trans (nI_add (5 * L) 0)
  refine va_iald hx hb hK hP 1 0 rfl rfl (vp_in_nI (by omega) (by decide)) dX8_burn_28 ?_
  refine lv_topi (fun vv ev => ?_)
  obtain rfl : vv = (-100000) := ev.trans (by rw [nI_clamp (by omega)]; exact hu _ (by omega))
  refine lv_ldc hx hb hown (hts (.constant RX8 120 (-100000)) (by decide +kernel)) dX8_burn_29 ?_
  refine lv_icmp_ne (tgt := 40) hx hb dX8_burn_31 (by decide) (fun h9 => (by first | exact absurd h9 (by decide) | exact absurd (by decide) h9)) (fun c4 => ?_)
  refine lv_iinc (v := (-1)) (lv' := [(4, .int (-1)), (3, .int (nI (5 * L))), (0, .ref m0), (1, .int (nI L)), (2, .int 1)]) hx hb dX8_burn_34 hl (k := 0) rfl (by decide) (by decide) rfl (fun ls hl => ?_)
  refine lv_goto (tgt := 15) hx hb dX8_burn_37 (by decide) ?_
  refine lv_iload hx hb dX8_burn_15 (lv_at hl 0 rfl) ?_
  refine lv_if_lt (tgt := 40) hx hb dX8_burn_17 (by decide) (fun c5 => ?_) (fun h9 => (by first | exact absurd h9 (by decide) | exact absurd (by decide) h9))
  refine lv_iload hx hb dX8_burn_40 (lv_at hl 0 rfl) ?_
  refine lv_if_lt (tgt := 55) hx hb dX8_burn_42 (by decide) (fun c6 => ?_) (fun h9 => (by first | exact absurd h9 (by decide) | exact absurd (by decide) h9))
  refine lv_iload_n hx hb dX8_burn_55 rfl (lv_at hl 4 rfl) ?_
  refine lv_istore (lv' := [(4, .int 1), (3, .int (nI (5 * L))), (0, .ref m0), (1, .int (nI L)), (2, .int 1)]) hx hb dX8_burn_56 hl (by decide) rfl (fun ls hl => ?_)
  refine lv_iload hx hb dX8_burn_58 (lv_at hl 0 rfl) ?_
  refine lv_iconst (v := 5) hx hb dX8_burn_60 (by decide) ?_
  refine lv_icmp_ge (tgt := 84) hx hb dX8_burn_61 (by decide) (fun h9 => (by first | exact absurd h9 (by decide) | exact absurd (by decide) h9)) (fun c7 => ?_)
  refine lv_aload_n hx hb dX8_burn_64 rfl (lv_at hl 2 rfl) ?_
  refine va_get (D := D) (ci := 8) (v := .ref r22) (C := RX8) (T := TX8) (N := 40) hx hb hts iw_k_mburn1_8 hown hK hP 0 rfl rfl 22 (by decide) (hts (.fieldLink RX8 95 "FlightDeskModel" "burns" "[I") (by decide +kernel)) (fun _ h9 => h9) rfl dX8_burn_65 ?_
  refine lv_iload_n hx hb dX8_burn_68 rfl (lv_at hl 1 rfl) ?_
  refine lv_iload hx hb dX8_burn_69 (lv_at hl 0 rfl) ?_
  refine lv_iadd hx hb dX8_burn_71 ?_
  refine lv_topi (fun vv ev => ?_)
  obtain rfl : vv = nI (5 * L + 1) := ev.trans (nI_add (5 * L) 1)
  refine va_iald hx hb hK hP 1 0 rfl rfl (vp_in_nI (by omega) (by decide)) dX8_burn_72 ?_
  refine lv_topi (fun vv ev => ?_)
  obtain rfl : vv = (-100000) := ev.trans (by rw [nI_clamp (by omega)]; exact hu _ (by omega))
  refine lv_ldc hx hb hown (hts (.constant RX8 120 (-100000)) (by decide +kernel)) dX8_burn_73 ?_
  refine lv_icmp_ne (tgt := 84) hx hb dX8_burn_75 (by decide) (fun h9 => (by first | exact absurd h9 (by decide) | exact absurd (by decide) h9)) (fun c8 => ?_)
  refine lv_iinc (v := 2) (lv' := [(4, .int 2), (3, .int (nI (5 * L))), (0, .ref m0), (1, .int (nI L)), (2, .int 1)]) hx hb dX8_burn_78 hl (k := 0) rfl (by decide) (by decide) rfl (fun ls hl => ?_)
  refine lv_goto (tgt := 58) hx hb dX8_burn_81 (by decide) ?_
  refine lv_iload hx hb dX8_burn_58 (lv_at hl 0 rfl) ?_
  refine lv_iconst (v := 5) hx hb dX8_burn_60 (by decide) ?_
  refine lv_icmp_ge (tgt := 84) hx hb dX8_burn_61 (by decide) (fun h9 => (by first | exact absurd h9 (by decide) | exact absurd (by decide) h9)) (fun c9 => ?_)
  refine lv_aload_n hx hb dX8_burn_64 rfl (lv_at hl 2 rfl) ?_
  refine va_get (D := D) (ci := 8) (v := .ref r22) (C := RX8) (T := TX8) (N := 40) hx hb hts iw_k_mburn1_8 hown hK hP 0 rfl rfl 22 (by decide) (hts (.fieldLink RX8 95 "FlightDeskModel" "burns" "[I") (by decide +kernel)) (fun _ h9 => h9) rfl dX8_burn_65 ?_
  refine lv_iload_n hx hb dX8_burn_68 rfl (lv_at hl 1 rfl) ?_
  refine lv_iload hx hb dX8_burn_69 (lv_at hl 0 rfl) ?_
  refine lv_iadd hx hb dX8_burn_71 ?_
  refine lv_topi (fun vv ev => ?_)
  obtain rfl : vv = nI (5 * L + 2) := ev.trans (nI_add (5 * L) 2)
  refine va_iald hx hb hK hP 1 0 rfl rfl (vp_in_nI (by omega) (by decide)) dX8_burn_72 ?_
  refine lv_topi (fun vv ev => ?_)
  obtain rfl : vv = (-100000) := ev.trans (by rw [nI_clamp (by omega)]; exact hu _ (by omega))
  refine lv_ldc hx hb hown (hts (.constant RX8 120 (-100000)) (by decide +kernel)) dX8_burn_73 ?_
  refine lv_icmp_ne (tgt := 84) hx hb dX8_burn_75 (by decide) (fun h9 => (by first | exact absurd h9 (by decide) | exact absurd (by decide) h9)) (fun c10 => ?_)
  refine lv_iinc (v := 3) (lv' := [(4, .int 3), (3, .int (nI (5 * L))), (0, .ref m0), (1, .int (nI L)), (2, .int 1)]) hx hb dX8_burn_78 hl (k := 0) rfl (by decide) (by decide) rfl (fun ls hl => ?_)
  refine lv_goto (tgt := 58) hx hb dX8_burn_81 (by decide) ?_
  refine lv_iload hx hb dX8_burn_58 (lv_at hl 0 rfl) ?_
  refine lv_iconst (v := 5) hx hb dX8_burn_60 (by decide) ?_
  refine lv_icmp_ge (tgt := 84) hx hb dX8_burn_61 (by decide) (fun h9 => (by first | exact absurd h9 (by decide) | exact absurd (by decide) h9)) (fun c11 => ?_)
  refine lv_aload_n hx hb dX8_burn_64 rfl (lv_at hl 2 rfl) ?_
  refine va_get (D := D) (ci := 8) (v := .ref r22) (C := RX8) (T := TX8) (N := 40) hx hb hts iw_k_mburn1_8 hown hK hP 0 rfl rfl 22 (by decide) (hts (.fieldLink RX8 95 "FlightDeskModel" "burns" "[I") (by decide +kernel)) (fun _ h9 => h9) rfl dX8_burn_65 ?_
  refine lv_iload_n hx hb dX8_burn_68 rfl (lv_at hl 1 rfl) ?_
  refine lv_iload hx hb dX8_burn_69 (lv_at hl 0 rfl) ?_
  refine lv_iadd hx hb dX8_burn_71 ?_
  refine lv_topi (fun vv ev => ?_)
  obtain rfl : vv = nI (5 * L + 3) := ev.trans (nI_add (5 * L) 3)
  refine va_iald hx hb hK hP 1 0 rfl rfl (vp_in_nI (by omega) (by decide)) dX8_burn_72 ?_
  refine lv_topi (fun vv ev => ?_)
  obtain rfl : vv = (-100000) := ev.trans (by rw [nI_clamp (by omega)]; exact hu _ (by omega))
  refine lv_ldc hx hb hown (hts (.constant RX8 120 (-100000)) (by decide +kernel)) dX8_burn_73 ?_
  refine lv_icmp_ne (tgt := 84) hx hb dX8_burn_75 (by decide) (fun h9 => (by first | exact absurd h9 (by decide) | exact absurd (by decide) h9)) (fun c12 => ?_)
  refine lv_iinc (v := 4) (lv' := [(4, .int 4), (3, .int (nI (5 * L))), (0, .ref m0), (1, .int (nI L)), (2, .int 1)]) hx hb dX8_burn_78 hl (k := 0) rfl (by decide) (by decide) rfl (fun ls hl => ?_)
  refine lv_goto (tgt := 58) hx hb dX8_burn_81 (by decide) ?_
  refine lv_iload hx hb dX8_burn_58 (lv_at hl 0 rfl) ?_
  refine lv_iconst (v := 5) hx hb dX8_burn_60 (by decide) ?_
  refine lv_icmp_ge (tgt := 84) hx hb dX8_burn_61 (by decide) (fun h9 => (by first | exact absurd h9 (by decide) | exact absurd (by decide) h9)) (fun c13 => ?_)
  refine lv_aload_n hx hb dX8_burn_64 rfl (lv_at hl 2 rfl) ?_
  refine va_get (D := D) (ci := 8) (v := .ref r22) (C := RX8) (T := TX8) (N := 40) hx hb hts iw_k_mburn1_8 hown hK hP 0 rfl rfl 22 (by decide) (hts (.fieldLink RX8 95 "FlightDeskModel" "burns" "[I") (by decide +kernel)) (fun _ h9 => h9) rfl dX8_burn_65 ?_
  refine lv_iload_n hx hb dX8_burn_68 rfl (lv_at hl 1 rfl) ?_
  refine lv_iload hx hb dX8_burn_69 (lv_at hl 0 rfl) ?_
  refine lv_iadd hx hb dX8_burn_71 ?_
  refine lv_topi (fun vv ev => ?_)
  obtain rfl : vv = nI (5 * L + 4) := ev.trans (nI_add (5 * L) 4)
  refine va_iald hx hb hK hP 1 0 rfl rfl (vp_in_nI (by omega) (by decide)) dX8_burn_72 ?_
  refine lv_topi (fun vv ev => ?_)
  obtain rfl : vv = (-100000) := ev.trans (by rw [nI_clamp (by omega)]; exact hu _ (by omega))
  refine lv_ldc hx hb hown (hts (.constant RX8 120 (-100000)) (by decide +kernel)) dX8_burn_73 ?_
  refine lv_icmp_ne (tgt := 84) hx hb dX8_burn_75 (by decide) (fun h9 => (by first | exact absurd h9 (by decide) | exact absurd (by decide) h9)) (fun c14 => ?_)
  refine lv_iinc (v := 5) (lv' := [(4, .int 5), (3, .int (nI (5 * L))), (0, .ref m0), (1, .int (nI L)), (2, .int 1)]) hx hb dX8_burn_78 hl (k := 0) rfl (by decide) (by decide) rfl (fun ls hl => ?_)
  refine lv_goto (tgt := 58) hx hb dX8_burn_81 (by decide) ?_
  refine lv_iload hx hb dX8_burn_58 (lv_at hl 0 rfl) ?_
  refine lv_iconst (v := 5) hx hb dX8_burn_60 (by decide) ?_
  refine lv_icmp_ge (tgt := 84) hx hb dX8_burn_61 (by decide) (fun c15 => ?_) (fun h9 => (by first | exact absurd h9 (by decide) | exact absurd (by decide) h9))
  refine lv_iload hx hb dX8_burn_84 (lv_at hl 0 rfl) ?_
  refine lv_iconst (v := 5) hx hb dX8_burn_86 (by decide) ?_
  refine lv_icmp_ge (tgt := 102) hx hb dX8_burn_87 (by decide) (fun c16 => ?_) (fun h9 => (by first | exact absurd h9 (by decide) | exact absurd (by decide) h9))
  refine lv_sipush (v := 1000) hx hb dX8_burn_102 (by decide) ?_
  refine W.widen (k := 0) (n := 0) (by decide) (by decide) ?_
  exact W.iret (v := 1000) hx hb hr (fun t ht hW => ⟨⟨1000, (), rfl, rfl, trivial⟩, hS.F ht⟩) hS.2.2 dX8_burn_105

def wk_k_mburn2 : List Cond := .code yX8_burn cX8_burn 5 (some .int) :: ([.fieldLink RX8 124 "FlightDeskModel" "bank" "I", .fieldLink RX8 95 "FlightDeskModel" "burns" "[I", .constant RX8 120 (-100000)] ++ wsX80)
theorem iw_k_mburn2_8 : ∀ w ∈ wsX80, w ∈ wk_k_mburn2 := fun _ h => List.mem_cons_of_mem _ (List.mem_append_right _ h)
set_option maxHeartbeats 4000000 in
set_option maxRecDepth 100000 in
theorem k_mburn2 (l : Launch) (D : va_G) (cI cB cP : ClassId) (sz : Nat) (m0 : Nat) (r0 : Nat) (r1 : Nat) (r11 : Nat) (r12 : Nat) (r13 : Nat) (r14 : Nat) (r15 : Nat) (r16 : Nat) (r17 : Nat) (r18 : Nat) (r19 : Nat) (r20 : Nat) (r21 : Nat) (r22 : Nat) (r23 : Nat) (r24 : Nat) (r34 : Nat) (r35 : Nat) (r36 : Nat) (r39 : Nat) (L : Nat) (f : Nat → Int32) (hL : L < 6) (hu : ∀ k : Nat, k < 30 → f k = -100000) : Met l yX8_burn wk_k_mburn2 ({ frames := 0, cells := 0, slots := 0, locals := 0 } : Room) (va_Pc [.ref m0, .int (nI L), .int 2] (Pw D cI cB cP sz [(m0, .inr (8, [.ref r0, .ref r1, .int 0, .int 0, .int 0, .int (-1), .int 0, .int 0, .int 0, .int 0, .long 0, .ref r11, .ref r12, .ref r13, .ref r14, .ref r15, .ref r16, .ref r17, .ref r18, .ref r19, .ref r20, .ref r21, .ref r22, .ref r23, .ref r24, .int 0, .int 0, .int 0, .int 0, .int 0, .int 0, .int 0, .int 0, .int 0, .ref r34, .ref r35, .ref r36, .int 0, .int 0, .ref r39])), (r22, .inl (cI, 60, .inl f))])) (va_Qi (fun (r : Int32) (_ : Unit) => r = 1000) (fun _ _ => True) (va_A [(m0, .inr (8, [.ref r0, .ref r1, .int 0, .int 0, .int 0, .int (-1), .int 0, .int 0, .int 0, .int 0, .long 0, .ref r11, .ref r12, .ref r13, .ref r14, .ref r15, .ref r16, .ref r17, .ref r18, .ref r19, .ref r20, .ref r21, .ref r22, .ref r23, .ref r24, .int 0, .int 0, .int 0, .int 0, .int 0, .int 0, .int 0, .int 0, .int 0, .ref r34, .ref r35, .ref r36, .int 0, .int 0, .ref r39])), (r22, .inl (cI, 60, .inl f))] sz)) 0 0 (va_A [(m0, .inr (8, [.ref r0, .ref r1, .int 0, .int 0, .int 0, .int (-1), .int 0, .int 0, .int 0, .int 0, .long 0, .ref r11, .ref r12, .ref r13, .ref r14, .ref r15, .ref r16, .ref r17, .ref r18, .ref r19, .ref r20, .ref r21, .ref r22, .ref r23, .ref r24, .int 0, .int 0, .int 0, .int 0, .int 0, .int 0, .int 0, .int 0, .int 0, .ref r34, .ref r35, .ref r36, .int 0, .int 0, .ref r39])), (r22, .inl (cI, 60, .inl f))] sz) := by
  refine Met.ofW (cc := cX8_burn) (maxL := 5) (ret := (some .int)) (by decide) rfl ?_
  intro p e s m args below meth c s₁ B hml hv
  obtain ⟨rfl, hsz, hP, ⟨hK, hN⟩, hD0⟩ := hv
  have hx := B.exec
  have hb := B.bytes
  have hr := B.returns
  have hts := atoms_spec (ws := wk_k_mburn2) B.pre
  have hown : s.vm.findClass RX8 = some m.cls := findClass_of_methodNamed B.named
  have hlocks := B.notSynchronized
  subst hsz
  have hD := hD0.self (sz := s.heap.size)
  generalize hAe : va_A [(m0, .inr (8, [.ref r0, .ref r1, .int 0, .int 0, .int 0, .int (-1), .int 0, .int 0, .int 0, .int 0, .long 0, .ref r11, .ref r12, .ref r13, .ref r14, .ref r15, .ref r16, .ref r17, .ref r18, .ref r19, .ref r20, .ref r21, .ref r22, .ref r23, .ref r24, .int 0, .int 0, .int 0, .int 0, .int 0, .int 0, .int 0, .int 0, .int 0, .ref r34, .ref r35, .ref r36, .int 0, .int 0, .ref r39])), (r22, .inl (cI, 60, .inl f))] s.heap.size = A at hD ⊢
  have hA : ∀ q : Nat, s.heap.size ≤ q → A q := fun q h => by rw [← hAe]; exact Or.inr h
  have hS : va_S A s.heap s.heap [] := va_S.rf
  have hP : va_P D vwCl [(m0, .inr (8, [.ref r0, .ref r1, .int 0, .int 0, .int 0, .int (-1), .int 0, .int 0, .int 0, .int 0, .long 0, .ref r11, .ref r12, .ref r13, .ref r14, .ref r15, .ref r16, .ref r17, .ref r18, .ref r19, .ref r20, .ref r21, .ref r22, .ref r23, .ref r24, .int 0, .int 0, .int 0, .int 0, .int 0, .int 0, .int 0, .int 0, .int 0, .ref r34, .ref r35, .ref r36, .int 0, .int 0, .ref r39])), (r22, .inl (cI, 60, .inl f))] s.heap := hP
  have hl := lv_entry ([.ref m0, .int (nI L), .int 2]) (n := 5) (Nat.le_of_ble_eq_true rfl)
  rw [lg_entry_eq]
  generalize (lg_sl ([.ref m0, .int (nI L), .int 2]) ++ List.replicate (5 - (lg_sl ([.ref m0, .int (nI L), .int 2])).length) Slot.unset).toArray = ls at hl ⊢
  have hl : lv_has ls 5 [(0, .ref m0), (1, .int (nI L)), (2, .int 2)] := hl
  refine lv_bipush (v := 30) hx hb dX8_burn_0 (by decide) ?_
  refine lv_aload_n hx hb dX8_burn_2 rfl (lv_at hl 0 rfl) ?_
  refine va_get (D := D) (ci := 8) (v := .int 0) (C := RX8) (T := TX8) (N := 40) hx hb hts iw_k_mburn2_8 hown hK hP 0 rfl rfl 25 (by decide) (hts (.fieldLink RX8 124 "FlightDeskModel" "bank" "I") (by decide +kernel)) (fun _ h9 => h9) rfl dX8_burn_3 ?_
  refine lv_imul hx hb dX8_burn_6 ?_
  refine lv_topi (fun vv ev => ?_)
  obtain rfl : vv = 0 := ev.trans (by decide)
  refine lv_iconst (v := 5) hx hb dX8_burn_7 (by decide) ?_
  refine lv_iload_n hx hb dX8_burn_8 rfl (lv_at hl 1 rfl) ?_
  refine lv_imul hx hb dX8_burn_9 ?_
  refine lv_topi (fun vv ev => ?_)
  obtain rfl : vv = nI (5 * L) := ev.trans (pk_mul 5 L)
  refine lv_iadd hx hb dX8_burn_10 ?_
  refine lv_topi (fun vv ev => ?_)
  obtain rfl : vv = nI (5 * L) := ev.trans (by rw [show (0 : Int32) = nI 0 from rfl, nI_add, Nat.zero_add])
  refine lv_istore_n (lv' := [(3, .int (nI (5 * L))), (0, .ref m0), (1, .int (nI L)), (2, .int 2)]) hx hb dX8_burn_11 rfl hl (by decide) rfl (fun ls hl => ?_)
  refine lv_iload_n hx hb dX8_burn_12 rfl (lv_at hl 3 rfl) ?_
  refine lv_istore (lv' := [(4, .int 2), (3, .int (nI (5 * L))), (0, .ref m0), (1, .int (nI L)), (2, .int 2)]) hx hb dX8_burn_13 hl (by decide) rfl (fun ls hl => ?_)
  refine lv_iload hx hb dX8_burn_15 (lv_at hl 0 rfl) ?_
  refine lv_if_lt (tgt := 40) hx hb dX8_burn_17 (by decide) (fun h9 => (by first | exact absurd h9 (by decide) | exact absurd (by decide) h9)) (fun c1 => ?_)
  refine lv_aload_n hx hb dX8_burn_20 rfl (lv_at hl 2 rfl) ?_
  refine va_get (D := D) (ci := 8) (v := .ref r22) (C := RX8) (T := TX8) (N := 40) hx hb hts iw_k_mburn2_8 hown hK hP 0 rfl rfl 22 (by decide) (hts (.fieldLink RX8 95 "FlightDeskModel" "burns" "[I") (by decide +kernel)) (fun _ h9 => h9) rfl dX8_burn_21 ?_
  refine lv_iload_n hx hb dX8_burn_24 rfl (lv_at hl 1 rfl) ?_
  refine lv_iload hx hb dX8_burn_25 (lv_at hl 0 rfl) ?_
  refine lv_iadd hx hb dX8_burn_27 ?_
  refine lv_topi (fun vv ev => ?_)
  obtain rfl : vv = nI (5 * L + 2) := ev.trans (nI_add (5 * L) 2)
  refine va_iald hx hb hK hP 1 0 rfl rfl (vp_in_nI (by omega) (by decide)) dX8_burn_28 ?_
  refine lv_topi (fun vv ev => ?_)
  obtain rfl : vv = (-100000) := ev.trans (by rw [nI_clamp (by omega)]; exact hu _ (by omega))
  refine lv_ldc hx hb hown (hts (.constant RX8 120 (-100000)) (by decide +kernel)) dX8_burn_29 ?_
  refine lv_icmp_ne (tgt := 40) hx hb dX8_burn_31 (by decide) (fun h9 => (by first | exact absurd h9 (by decide) | exact absurd (by decide) h9)) (fun c2 => ?_)
  refine lv_iinc (v := 1) (lv' := [(4, .int 1), (3, .int (nI (5 * L))), (0, .ref m0), (1, .int (nI L)), (2, .int 2)]) hx hb dX8_burn_34 hl (k := 0) rfl (by decide) (by decide) rfl (fun ls hl => ?_)
  refine lv_goto (tgt := 15) hx hb dX8_burn_37 (by decide) ?_
  refine lv_iload hx hb dX8_burn_15 (lv_at hl 0 rfl) ?_
  refine lv_if_lt (tgt := 40) hx hb dX8_burn_17 (by decide) (fun h9 => (by first | exact absurd h9 (by decide) | exact absurd (by decide) h9)) (fun c3 => ?_)
  refine lv_aload_n hx hb dX8_burn_20 rfl (lv_at hl 2 rfl) ?_
  refine va_get (D := D) (ci := 8) (v := .ref r22) (C := RX8) (T := TX8) (N := 40) hx hb hts iw_k_mburn2_8 hown hK hP 0 rfl rfl 22 (by decide) (hts (.fieldLink RX8 95 "FlightDeskModel" "burns" "[I") (by decide +kernel)) (fun _ h9 => h9) rfl dX8_burn_21 ?_
  refine lv_iload_n hx hb dX8_burn_24 rfl (lv_at hl 1 rfl) ?_
  refine lv_iload hx hb dX8_burn_25 (lv_at hl 0 rfl) ?_
  refine lv_iadd hx hb dX8_burn_27 ?_
  refine lv_topi (fun vv ev => ?_)
  obtain rfl : vv = nI (5 * L + 1) := ev.trans (nI_add (5 * L) 1)
  refine va_iald hx hb hK hP 1 0 rfl rfl (vp_in_nI (by omega) (by decide)) dX8_burn_28 ?_
  refine lv_topi (fun vv ev => ?_)
  obtain rfl : vv = (-100000) := ev.trans (by rw [nI_clamp (by omega)]; exact hu _ (by omega))
  refine lv_ldc hx hb hown (hts (.constant RX8 120 (-100000)) (by decide +kernel)) dX8_burn_29 ?_
  refine lv_icmp_ne (tgt := 40) hx hb dX8_burn_31 (by decide) (fun h9 => (by first | exact absurd h9 (by decide) | exact absurd (by decide) h9)) (fun c4 => ?_)
  refine lv_iinc (v := 0) (lv' := [(4, .int 0), (3, .int (nI (5 * L))), (0, .ref m0), (1, .int (nI L)), (2, .int 2)]) hx hb dX8_burn_34 hl (k := 0) rfl (by decide) (by decide) rfl (fun ls hl => ?_)
  refine lv_goto (tgt := 15) hx hb dX8_burn_37 (by decide) ?_
  refine lv_iload hx hb dX8_burn_15 (lv_at hl 0 rfl) ?_
  refine lv_if_lt (tgt := 40) hx hb dX8_burn_17 (by decide) (fun h9 => (by first | exact absurd h9 (by decide) | exact absurd (by decide) h9)) (fun c5 => ?_)
  refine lv_aload_n hx hb dX8_burn_20 rfl (lv_at hl 2 rfl) ?_
  refine va_get (D := D) (ci := 8) (v := .ref r22) (C := RX8) (T := TX8) (N := 40) hx hb hts iw_k_mburn2_8 hown hK hP 0 rfl rfl 22 (by decide) (hts (.fieldLink RX8 95 "FlightDeskModel" "burns" "[I") (by decide +kernel)) (fun _ h9 => h9) rfl dX8_burn_21 ?_
  refine lv_iload_n hx hb dX8_burn_24 rfl (lv_at hl 1 rfl) ?_
  refine lv_iload hx hb dX8_burn_25 (lv_at hl 0 rfl) ?_
  refine lv_iadd hx hb dX8_burn_27 ?_
  refine lv_topi (fun vv ev => ?_)
  obtain rfl : vv = nI (5 * L + 0) := ev.trans (nI_add (5 * L) 0)
  refine va_iald hx hb hK hP 1 0 rfl rfl (vp_in_nI (by omega) (by decide)) dX8_burn_28 ?_
  refine lv_topi (fun vv ev => ?_)
  obtain rfl : vv = (-100000) := ev.trans (by rw [nI_clamp (by omega)]; exact hu _ (by omega))
  refine lv_ldc hx hb hown (hts (.constant RX8 120 (-100000)) (by decide +kernel)) dX8_burn_29 ?_
  refine lv_icmp_ne (tgt := 40) hx hb dX8_burn_31 (by decide) (fun h9 => (by first | exact absurd h9 (by decide) | exact absurd (by decide) h9)) (fun c6 => ?_)
  refine lv_iinc (v := (-1)) (lv' := [(4, .int (-1)), (3, .int (nI (5 * L))), (0, .ref m0), (1, .int (nI L)), (2, .int 2)]) hx hb dX8_burn_34 hl (k := 0) rfl (by decide) (by decide) rfl (fun ls hl => ?_)
  refine lv_goto (tgt := 15) hx hb dX8_burn_37 (by decide) ?_
  refine lv_iload hx hb dX8_burn_15 (lv_at hl 0 rfl) ?_
  refine lv_if_lt (tgt := 40) hx hb dX8_burn_17 (by decide) (fun c7 => ?_) (fun h9 => (by first | exact absurd h9 (by decide) | exact absurd (by decide) h9))
  refine lv_iload hx hb dX8_burn_40 (lv_at hl 0 rfl) ?_
  refine lv_if_lt (tgt := 55) hx hb dX8_burn_42 (by decide) (fun c8 => ?_) (fun h9 => (by first | exact absurd h9 (by decide) | exact absurd (by decide) h9))
  refine lv_iload_n hx hb dX8_burn_55 rfl (lv_at hl 4 rfl) ?_
  refine lv_istore (lv' := [(4, .int 2), (3, .int (nI (5 * L))), (0, .ref m0), (1, .int (nI L)), (2, .int 2)]) hx hb dX8_burn_56 hl (by decide) rfl (fun ls hl => ?_)
  refine lv_iload hx hb dX8_burn_58 (lv_at hl 0 rfl) ?_
  refine lv_iconst (v := 5) hx hb dX8_burn_60 (by decide) ?_
  refine lv_icmp_ge (tgt := 84) hx hb dX8_burn_61 (by decide) (fun h9 => (by first | exact absurd h9 (by decide) | exact absurd (by decide) h9)) (fun c9 => ?_)
  refine lv_aload_n hx hb dX8_burn_64 rfl (lv_at hl 2 rfl) ?_
  refine va_get (D := D) (ci := 8) (v := .ref r22) (C := RX8) (T := TX8) (N := 40) hx hb hts iw_k_mburn2_8 hown hK hP 0 rfl rfl 22 (by decide) (hts (.fieldLink RX8 95 "FlightDeskModel" "burns" "[I") (by decide +kernel)) (fun _ h9 => h9) rfl dX8_burn_65 ?_
  refine lv_iload_n hx hb dX8_burn_68 rfl (lv_at hl 1 rfl) ?_
  refine lv_iload hx hb dX8_burn_69 (lv_at hl 0 rfl) ?_
  refine lv_iadd hx hb dX8_burn_71 ?_
  refine lv_topi (fun vv ev => ?_)
  obtain rfl : vv = nI (5 * L + 2) := ev.trans (nI_add (5 * L) 2)
  refine va_iald hx hb hK hP 1 0 rfl rfl (vp_in_nI (by omega) (by decide)) dX8_burn_72 ?_
  refine lv_topi (fun vv ev => ?_)
  obtain rfl : vv = (-100000) := ev.trans (by rw [nI_clamp (by omega)]; exact hu _ (by omega))
  refine lv_ldc hx hb hown (hts (.constant RX8 120 (-100000)) (by decide +kernel)) dX8_burn_73 ?_
  refine lv_icmp_ne (tgt := 84) hx hb dX8_burn_75 (by decide) (fun h9 => (by first | exact absurd h9 (by decide) | exact absurd (by decide) h9)) (fun c10 => ?_)
  refine lv_iinc (v := 3) (lv' := [(4, .int 3), (3, .int (nI (5 * L))), (0, .ref m0), (1, .int (nI L)), (2, .int 2)]) hx hb dX8_burn_78 hl (k := 0) rfl (by decide) (by decide) rfl (fun ls hl => ?_)
  refine lv_goto (tgt := 58) hx hb dX8_burn_81 (by decide) ?_
  refine lv_iload hx hb dX8_burn_58 (lv_at hl 0 rfl) ?_
  refine lv_iconst (v := 5) hx hb dX8_burn_60 (by decide) ?_
  refine lv_icmp_ge (tgt := 84) hx hb dX8_burn_61 (by decide) (fun h9 => (by first | exact absurd h9 (by decide) | exact absurd (by decide) h9)) (fun c11 => ?_)
  refine lv_aload_n hx hb dX8_burn_64 rfl (lv_at hl 2 rfl) ?_
  refine va_get (D := D) (ci := 8) (v := .ref r22) (C := RX8) (T := TX8) (N := 40) hx hb hts iw_k_mburn2_8 hown hK hP 0 rfl rfl 22 (by decide) (hts (.fieldLink RX8 95 "FlightDeskModel" "burns" "[I") (by decide +kernel)) (fun _ h9 => h9) rfl dX8_burn_65 ?_
  refine lv_iload_n hx hb dX8_burn_68 rfl (lv_at hl 1 rfl) ?_
  refine lv_iload hx hb dX8_burn_69 (lv_at hl 0 rfl) ?_
  refine lv_iadd hx hb dX8_burn_71 ?_
  refine lv_topi (fun vv ev => ?_)
  obtain rfl : vv = nI (5 * L + 3) := ev.trans (nI_add (5 * L) 3)
  refine va_iald hx hb hK hP 1 0 rfl rfl (vp_in_nI (by omega) (by decide)) dX8_burn_72 ?_
  refine lv_topi (fun vv ev => ?_)
  obtain rfl : vv = (-100000) := ev.trans (by rw [nI_clamp (by omega)]; exact hu _ (by omega))
  refine lv_ldc hx hb hown (hts (.constant RX8 120 (-100000)) (by decide +kernel)) dX8_burn_73 ?_
  refine lv_icmp_ne (tgt := 84) hx hb dX8_burn_75 (by decide) (fun h9 => (by first | exact absurd h9 (by decide) | exact absurd (by decide) h9)) (fun c12 => ?_)
  refine lv_iinc (v := 4) (lv' := [(4, .int 4), (3, .int (nI (5 * L))), (0, .ref m0), (1, .int (nI L)), (2, .int 2)]) hx hb dX8_burn_78 hl (k := 0) rfl (by decide) (by decide) rfl (fun ls hl => ?_)
  refine lv_goto (tgt := 58) hx hb dX8_burn_81 (by decide) ?_
  refine lv_iload hx hb dX8_burn_58 (lv_at hl 0 rfl) ?_
  refine lv_iconst (v := 5) hx hb dX8_burn_60 (by decide) ?_
  refine lv_icmp_ge (tgt := 84) hx hb dX8_burn_61 (by decide) (fun h9 => (by first | exact absurd h9 (by decide) | exact absurd (by decide) h9)) (fun c13 => ?_)
  refine lv_aload_n hx hb dX8_burn_64 rfl (lv_at hl 2 rfl) ?_
  refine va_get (D := D) (ci := 8) (v := .ref r22) (C := RX8) (T := TX8) (N := 40) hx hb hts iw_k_mburn2_8 hown hK hP 0 rfl rfl 22 (by decide) (hts (.fieldLink RX8 95 "FlightDeskModel" "burns" "[I") (by decide +kernel)) (fun _ h9 => h9) rfl dX8_burn_65 ?_
  refine lv_iload_n hx hb dX8_burn_68 rfl (lv_at hl 1 rfl) ?_
  refine lv_iload hx hb dX8_burn_69 (lv_at hl 0 rfl) ?_
  refine lv_iadd hx hb dX8_burn_71 ?_
  refine lv_topi (fun vv ev => ?_)
  obtain rfl : vv = nI (5 * L + 4) := ev.trans (nI_add (5 * L) 4)
  refine va_iald hx hb hK hP 1 0 rfl rfl (vp_in_nI (by omega) (by decide)) dX8_burn_72 ?_
  refine lv_topi (fun vv ev => ?_)
  obtain rfl : vv = (-100000) := ev.trans (by rw [nI_clamp (by omega)]; exact hu _ (by omega))
  refine lv_ldc hx hb hown (hts (.constant RX8 120 (-100000)) (by decide +kernel)) dX8_burn_73 ?_
  refine lv_icmp_ne (tgt := 84) hx hb dX8_burn_75 (by decide) (fun h9 => (by first | exact absurd h9 (by decide) | exact absurd (by decide) h9)) (fun c14 => ?_)
  refine lv_iinc (v := 5) (lv' := [(4, .int 5), (3, .int (nI (5 * L))), (0, .ref m0), (1, .int (nI L)), (2, .int 2)]) hx hb dX8_burn_78 hl (k := 0) rfl (by decide) (by decide) rfl (fun ls hl => ?_)
  refine lv_goto (tgt := 58) hx hb dX8_burn_81 (by decide) ?_
  refine lv_iload hx hb dX8_burn_58 (lv_at hl 0 rfl) ?_
  refine lv_iconst (v := 5) hx hb dX8_burn_60 (by decide) ?_
  refine lv_icmp_ge (tgt := 84) hx hb dX8_burn_61 (by decide) (fun c15 => ?_) (fun h9 => (by first | exact absurd h9 (by decide) | exact absurd (by decide) h9))
  refine lv_iload hx hb dX8_burn_84 (lv_at hl 0 rfl) ?_
  refine lv_iconst (v := 5) hx hb dX8_burn_86 (by decide) ?_
  refine lv_icmp_ge (tgt := 102) hx hb dX8_burn_87 (by decide) (fun c16 => ?_) (fun h9 => (by first | exact absurd h9 (by decide) | exact absurd (by decide) h9))
  refine lv_sipush (v := 1000) hx hb dX8_burn_102 (by decide) ?_
  refine W.widen (k := 0) (n := 0) (by decide) (by decide) ?_
  exact W.iret (v := 1000) hx hb hr (fun t ht hW => ⟨⟨1000, (), rfl, rfl, trivial⟩, hS.F ht⟩) hS.2.2 dX8_burn_105

def wk_k_mburn3 : List Cond := .code yX8_burn cX8_burn 5 (some .int) :: ([.fieldLink RX8 124 "FlightDeskModel" "bank" "I", .fieldLink RX8 95 "FlightDeskModel" "burns" "[I", .constant RX8 120 (-100000)] ++ wsX80)
theorem iw_k_mburn3_8 : ∀ w ∈ wsX80, w ∈ wk_k_mburn3 := fun _ h => List.mem_cons_of_mem _ (List.mem_append_right _ h)
set_option maxHeartbeats 4000000 in
set_option maxRecDepth 100000 in
theorem k_mburn3 (l : Launch) (D : va_G) (cI cB cP : ClassId) (sz : Nat) (m0 : Nat) (r0 : Nat) (r1 : Nat) (r11 : Nat) (r12 : Nat) (r13 : Nat) (r14 : Nat) (r15 : Nat) (r16 : Nat) (r17 : Nat) (r18 : Nat) (r19 : Nat) (r20 : Nat) (r21 : Nat) (r22 : Nat) (r23 : Nat) (r24 : Nat) (r34 : Nat) (r35 : Nat) (r36 : Nat) (r39 : Nat) (L : Nat) (f : Nat → Int32) (hL : L < 6) (hu : ∀ k : Nat, k < 30 → f k = -100000) : Met l yX8_burn wk_k_mburn3 ({ frames := 0, cells := 0, slots := 0, locals := 0 } : Room) (va_Pc [.ref m0, .int (nI L), .int 3] (Pw D cI cB cP sz [(m0, .inr (8, [.ref r0, .ref r1, .int 0, .int 0, .int 0, .int (-1), .int 0, .int 0, .int 0, .int 0, .long 0, .ref r11, .ref r12, .ref r13, .ref r14, .ref r15, .ref r16, .ref r17, .ref r18, .ref r19, .ref r20, .ref r21, .ref r22, .ref r23, .ref r24, .int 0, .int 0, .int 0, .int 0, .int 0, .int 0, .int 0, .int 0, .int 0, .ref r34, .ref r35, .ref r36, .int 0, .int 0, .ref r39])), (r22, .inl (cI, 60, .inl f))])) (va_Qi (fun (r : Int32) (_ : Unit) => r = 1000) (fun _ _ => True) (va_A [(m0, .inr (8, [.ref r0, .ref r1, .int 0, .int 0, .int 0, .int (-1), .int 0, .int 0, .int 0, .int 0, .long 0, .ref r11, .ref r12, .ref r13, .ref r14, .ref r15, .ref r16, .ref r17, .ref r18, .ref r19, .ref r20, .ref r21, .ref r22, .ref r23, .ref r24, .int 0, .int 0, .int 0, .int 0, .int 0, .int 0, .int 0, .int 0, .int 0, .ref r34, .ref r35, .ref r36, .int 0, .int 0, .ref r39])), (r22, .inl (cI, 60, .inl f))] sz)) 0 0 (va_A [(m0, .inr (8, [.ref r0, .ref r1, .int 0, .int 0, .int 0, .int (-1), .int 0, .int 0, .int 0, .int 0, .long 0, .ref r11, .ref r12, .ref r13, .ref r14, .ref r15, .ref r16, .ref r17, .ref r18, .ref r19, .ref r20, .ref r21, .ref r22, .ref r23, .ref r24, .int 0, .int 0, .int 0, .int 0, .int 0, .int 0, .int 0, .int 0, .int 0, .ref r34, .ref r35, .ref r36, .int 0, .int 0, .ref r39])), (r22, .inl (cI, 60, .inl f))] sz) := by
  refine Met.ofW (cc := cX8_burn) (maxL := 5) (ret := (some .int)) (by decide) rfl ?_
  intro p e s m args below meth c s₁ B hml hv
  obtain ⟨rfl, hsz, hP, ⟨hK, hN⟩, hD0⟩ := hv
  have hx := B.exec
  have hb := B.bytes
  have hr := B.returns
  have hts := atoms_spec (ws := wk_k_mburn3) B.pre
  have hown : s.vm.findClass RX8 = some m.cls := findClass_of_methodNamed B.named
  have hlocks := B.notSynchronized
  subst hsz
  have hD := hD0.self (sz := s.heap.size)
  generalize hAe : va_A [(m0, .inr (8, [.ref r0, .ref r1, .int 0, .int 0, .int 0, .int (-1), .int 0, .int 0, .int 0, .int 0, .long 0, .ref r11, .ref r12, .ref r13, .ref r14, .ref r15, .ref r16, .ref r17, .ref r18, .ref r19, .ref r20, .ref r21, .ref r22, .ref r23, .ref r24, .int 0, .int 0, .int 0, .int 0, .int 0, .int 0, .int 0, .int 0, .int 0, .ref r34, .ref r35, .ref r36, .int 0, .int 0, .ref r39])), (r22, .inl (cI, 60, .inl f))] s.heap.size = A at hD ⊢
  have hA : ∀ q : Nat, s.heap.size ≤ q → A q := fun q h => by rw [← hAe]; exact Or.inr h
  have hS : va_S A s.heap s.heap [] := va_S.rf
  have hP : va_P D vwCl [(m0, .inr (8, [.ref r0, .ref r1, .int 0, .int 0, .int 0, .int (-1), .int 0, .int 0, .int 0, .int 0, .long 0, .ref r11, .ref r12, .ref r13, .ref r14, .ref r15, .ref r16, .ref r17, .ref r18, .ref r19, .ref r20, .ref r21, .ref r22, .ref r23, .ref r24, .int 0, .int 0, .int 0, .int 0, .int 0, .int 0, .int 0, .int 0, .int 0, .ref r34, .ref r35, .ref r36, .int 0, .int 0, .ref r39])), (r22, .inl (cI, 60, .inl f))] s.heap := hP
  have hl := lv_entry ([.ref m0, .int (nI L), .int 3]) (n := 5) (Nat.le_of_ble_eq_true rfl)
  rw [lg_entry_eq]
  generalize (lg_sl ([.ref m0, .int (nI L), .int 3]) ++ List.replicate (5 - (lg_sl ([.ref m0, .int (nI L), .int 3])).length) Slot.unset).toArray = ls at hl ⊢
  have hl : lv_has ls 5 [(0, .ref m0), (1, .int (nI L)), (2, .int 3)] := hl
  refine lv_bipush (v := 30) hx hb dX8_burn_0 (by decide) ?_
  refine lv_aload_n hx hb dX8_burn_2 rfl (lv_at hl 0 rfl) ?_
  refine va_get (D := D) (ci := 8) (v := .int 0) (C := RX8) (T := TX8) (N := 40) hx hb hts iw_k_mburn3_8 hown hK hP 0 rfl rfl 25 (by decide) (hts (.fieldLink RX8 124 "FlightDeskModel" "bank" "I") (by decide +kernel)) (fun _ h9 => h9) rfl dX8_burn_3 ?_
  refine lv_imul hx hb dX8_burn_6 ?_
  refine lv_topi (fun vv ev => ?_)
  obtain rfl : vv = 0 := ev.trans (by decide)
  refine lv_iconst (v := 5) hx hb dX8_burn_7 (by decide) ?_
  refine lv_iload_n hx hb dX8_burn_8 rfl (lv_at hl 1 rfl) ?_
  refine lv_imul hx hb dX8_burn_9 ?_
  refine lv_topi (fun vv ev => ?_)
  obtain rfl : vv = nI (5 * L) := ev.trans (pk_mul 5 L)
  refine lv_iadd hx hb dX8_burn_10 ?_
  refine lv_topi (fun vv ev => ?_)
  obtain rfl : vv = nI (5 * L) := ev.trans (by rw [show (0 : Int32) = nI 0 from rfl, nI_add, Nat.zero_add])
  refine lv_istore_n (lv' := [(3, .int (nI (5 * L))), (0, .ref m0), (1, .int (nI L)), (2, .int 3)]) hx hb dX8_burn_11 rfl hl (by decide) rfl (fun ls hl => ?_)
  refine lv_iload_n hx hb dX8_burn_12 rfl (lv_at hl 3 rfl) ?_
  refine lv_istore (lv' := [(4, .int 3), (3, .int (nI (5 * L))), (0, .ref m0), (1, .int (nI L)), (2, .int 3)]) hx hb dX8_burn_13 hl (by decide) rfl (fun ls hl => ?_)
  refine lv_iload hx hb dX8_burn_15 (lv_at hl 0 rfl) ?_
  refine lv_if_lt (tgt := 40) hx hb dX8_burn_17 (by decide) (fun h9 => (by first | exact absurd h9 (by decide) | exact absurd (by decide) h9)) (fun c1 => ?_)
  refine lv_aload_n hx hb dX8_burn_20 rfl (lv_at hl 2 rfl) ?_
  refine va_get (D := D) (ci := 8) (v := .ref r22) (C := RX8) (T := TX8) (N := 40) hx hb hts iw_k_mburn3_8 hown hK hP 0 rfl rfl 22 (by decide) (hts (.fieldLink RX8 95 "FlightDeskModel" "burns" "[I") (by decide +kernel)) (fun _ h9 => h9) rfl dX8_burn_21 ?_
  refine lv_iload_n hx hb dX8_burn_24 rfl (lv_at hl 1 rfl) ?_
  refine lv_iload hx hb dX8_burn_25 (lv_at hl 0 rfl) ?_
  refine lv_iadd hx hb dX8_burn_27 ?_
  refine lv_topi (fun vv ev => ?_)
  obtain rfl : vv = nI (5 * L + 3) := ev.trans (nI_add (5 * L) 3)
  refine va_iald hx hb hK hP 1 0 rfl rfl (vp_in_nI (by omega) (by decide)) dX8_burn_28 ?_
  refine lv_topi (fun vv ev => ?_)
  obtain rfl : vv = (-100000) := ev.trans (by rw [nI_clamp (by omega)]; exact hu _ (by omega))
  refine lv_ldc hx hb hown (hts (.constant RX8 120 (-100000)) (by decide +kernel)) dX8_burn_29 ?_
  refine lv_icmp_ne (tgt := 40) hx hb dX8_burn_31 (by decide) (fun h9 => (by first | exact absurd h9 (by decide) | exact absurd (by decide) h9)) (fun c2 => ?_)
  refine lv_iinc (v := 2) (lv' := [(4, .int 2), (3, .int (nI (5 * L))), (0, .ref m0), (1, .int (nI L)), (2, .int 3)]) hx hb dX8_burn_34 hl (k := 0) rfl (by decide) (by decide) rfl (fun ls hl => ?_)
  refine lv_goto (tgt := 15) hx hb dX8_burn_37 (by decide) ?_
  refine lv_iload hx hb dX8_burn_15 (lv_at hl 0 rfl) ?_
  refine lv_if_lt (tgt := 40) hx hb dX8_burn_17 (by decide) (fun h9 => (by first | exact absurd h9 (by decide) | exact absurd (by decide) h9)) (fun c3 => ?_)
  refine lv_aload_n hx hb dX8_burn_20 rfl (lv_at hl 2 rfl) ?_
  refine va_get (D := D) (ci := 8) (v := .ref r22) (C := RX8) (T := TX8) (N := 40) hx hb hts iw_k_mburn3_8 hown hK hP 0 rfl rfl 22 (by decide) (hts (.fieldLink RX8 95 "FlightDeskModel" "burns" "[I") (by decide +kernel)) (fun _ h9 => h9) rfl dX8_burn_21 ?_
  refine lv_iload_n hx hb dX8_burn_24 rfl (lv_at hl 1 rfl) ?_
  refine lv_iload hx hb dX8_burn_25 (lv_at hl 0 rfl) ?_
  refine lv_iadd hx hb dX8_burn_27 ?_
  refine lv_topi (fun vv ev => ?_)
  obtain rfl : vv = nI (5 * L + 2) := ev.trans (nI_add (5 * L) 2)
  refine va_iald hx hb hK hP 1 0 rfl rfl (vp_in_nI (by omega) (by decide)) dX8_burn_28 ?_
  refine lv_topi (fun vv ev => ?_)
  obtain rfl : vv = (-100000) := ev.trans (by rw [nI_clamp (by omega)]; exact hu _ (by omega))
  refine lv_ldc hx hb hown (hts (.constant RX8 120 (-100000)) (by decide +kernel)) dX8_burn_29 ?_
  refine lv_icmp_ne (tgt := 40) hx hb dX8_burn_31 (by decide) (fun h9 => (by first | exact absurd h9 (by decide) | exact absurd (by decide) h9)) (fun c4 => ?_)
  refine lv_iinc (v := 1) (lv' := [(4, .int 1), (3, .int (nI (5 * L))), (0, .ref m0), (1, .int (nI L)), (2, .int 3)]) hx hb dX8_burn_34 hl (k := 0) rfl (by decide) (by decide) rfl (fun ls hl => ?_)
  refine lv_goto (tgt := 15) hx hb dX8_burn_37 (by decide) ?_
  refine lv_iload hx hb dX8_burn_15 (lv_at hl 0 rfl) ?_
  refine lv_if_lt (tgt := 40) hx hb dX8_burn_17 (by decide) (fun h9 => (by first | exact absurd h9 (by decide) | exact absurd (by decide) h9)) (fun c5 => ?_)
  refine lv_aload_n hx hb dX8_burn_20 rfl (lv_at hl 2 rfl) ?_
  refine va_get (D := D) (ci := 8) (v := .ref r22) (C := RX8) (T := TX8) (N := 40) hx hb hts iw_k_mburn3_8 hown hK hP 0 rfl rfl 22 (by decide) (hts (.fieldLink RX8 95 "FlightDeskModel" "burns" "[I") (by decide +kernel)) (fun _ h9 => h9) rfl dX8_burn_21 ?_
  refine lv_iload_n hx hb dX8_burn_24 rfl (lv_at hl 1 rfl) ?_
  refine lv_iload hx hb dX8_burn_25 (lv_at hl 0 rfl) ?_
  refine lv_iadd hx hb dX8_burn_27 ?_
  refine lv_topi (fun vv ev => ?_)
  obtain rfl : vv = nI (5 * L + 1) := ev.trans (nI_add (5 * L) 1)
  refine va_iald hx hb hK hP 1 0 rfl rfl (vp_in_nI (by omega) (by decide)) dX8_burn_28 ?_
  refine lv_topi (fun vv ev => ?_)
  obtain rfl : vv = (-100000) := ev.trans (by rw [nI_clamp (by omega)]; exact hu _ (by omega))
  refine lv_ldc hx hb hown (hts (.constant RX8 120 (-100000)) (by decide +kernel)) dX8_burn_29 ?_
  refine lv_icmp_ne (tgt := 40) hx hb dX8_burn_31 (by decide) (fun h9 => (by first | exact absurd h9 (by decide) | exact absurd (by decide) h9)) (fun c6 => ?_)
  refine lv_iinc (v := 0) (lv' := [(4, .int 0), (3, .int (nI (5 * L))), (0, .ref m0), (1, .int (nI L)), (2, .int 3)]) hx hb dX8_burn_34 hl (k := 0) rfl (by decide) (by decide) rfl (fun ls hl => ?_)
  refine lv_goto (tgt := 15) hx hb dX8_burn_37 (by decide) ?_
  refine lv_iload hx hb dX8_burn_15 (lv_at hl 0 rfl) ?_
  refine lv_if_lt (tgt := 40) hx hb dX8_burn_17 (by decide) (fun h9 => (by first | exact absurd h9 (by decide) | exact absurd (by decide) h9)) (fun c7 => ?_)
  refine lv_aload_n hx hb dX8_burn_20 rfl (lv_at hl 2 rfl) ?_
  refine va_get (D := D) (ci := 8) (v := .ref r22) (C := RX8) (T := TX8) (N := 40) hx hb hts iw_k_mburn3_8 hown hK hP 0 rfl rfl 22 (by decide) (hts (.fieldLink RX8 95 "FlightDeskModel" "burns" "[I") (by decide +kernel)) (fun _ h9 => h9) rfl dX8_burn_21 ?_
  refine lv_iload_n hx hb dX8_burn_24 rfl (lv_at hl 1 rfl) ?_
  refine lv_iload hx hb dX8_burn_25 (lv_at hl 0 rfl) ?_
  refine lv_iadd hx hb dX8_burn_27 ?_
  refine lv_topi (fun vv ev => ?_)
  obtain rfl : vv = nI (5 * L + 0) := ev.trans (nI_add (5 * L) 0)
  refine va_iald hx hb hK hP 1 0 rfl rfl (vp_in_nI (by omega) (by decide)) dX8_burn_28 ?_
  refine lv_topi (fun vv ev => ?_)
  obtain rfl : vv = (-100000) := ev.trans (by rw [nI_clamp (by omega)]; exact hu _ (by omega))
  refine lv_ldc hx hb hown (hts (.constant RX8 120 (-100000)) (by decide +kernel)) dX8_burn_29 ?_
  refine lv_icmp_ne (tgt := 40) hx hb dX8_burn_31 (by decide) (fun h9 => (by first | exact absurd h9 (by decide) | exact absurd (by decide) h9)) (fun c8 => ?_)
  refine lv_iinc (v := (-1)) (lv' := [(4, .int (-1)), (3, .int (nI (5 * L))), (0, .ref m0), (1, .int (nI L)), (2, .int 3)]) hx hb dX8_burn_34 hl (k := 0) rfl (by decide) (by decide) rfl (fun ls hl => ?_)
  refine lv_goto (tgt := 15) hx hb dX8_burn_37 (by decide) ?_
  refine lv_iload hx hb dX8_burn_15 (lv_at hl 0 rfl) ?_
  refine lv_if_lt (tgt := 40) hx hb dX8_burn_17 (by decide) (fun c9 => ?_) (fun h9 => (by first | exact absurd h9 (by decide) | exact absurd (by decide) h9))
  refine lv_iload hx hb dX8_burn_40 (lv_at hl 0 rfl) ?_
  refine lv_if_lt (tgt := 55) hx hb dX8_burn_42 (by decide) (fun c10 => ?_) (fun h9 => (by first | exact absurd h9 (by decide) | exact absurd (by decide) h9))
  refine lv_iload_n hx hb dX8_burn_55 rfl (lv_at hl 4 rfl) ?_
  refine lv_istore (lv' := [(4, .int 3), (3, .int (nI (5 * L))), (0, .ref m0), (1, .int (nI L)), (2, .int 3)]) hx hb dX8_burn_56 hl (by decide) rfl (fun ls hl => ?_)
  refine lv_iload hx hb dX8_burn_58 (lv_at hl 0 rfl) ?_
  refine lv_iconst (v := 5) hx hb dX8_burn_60 (by decide) ?_
  refine lv_icmp_ge (tgt := 84) hx hb dX8_burn_61 (by decide) (fun h9 => (by first | exact absurd h9 (by decide) | exact absurd (by decide) h9)) (fun c11 => ?_)
  refine lv_aload_n hx hb dX8_burn_64 rfl (lv_at hl 2 rfl) ?_
  refine va_get (D := D) (ci := 8) (v := .ref r22) (C := RX8) (T := TX8) (N := 40) hx hb hts iw_k_mburn3_8 hown hK hP 0 rfl rfl 22 (by decide) (hts (.fieldLink RX8 95 "FlightDeskModel" "burns" "[I") (by decide +kernel)) (fun _ h9 => h9) rfl dX8_burn_65 ?_
  refine lv_iload_n hx hb dX8_burn_68 rfl (lv_at hl 1 rfl) ?_
  refine lv_iload hx hb dX8_burn_69 (lv_at hl 0 rfl) ?_
  refine lv_iadd hx hb dX8_burn_71 ?_
  refine lv_topi (fun vv ev => ?_)
  obtain rfl : vv = nI (5 * L + 3) := ev.trans (nI_add (5 * L) 3)
  refine va_iald hx hb hK hP 1 0 rfl rfl (vp_in_nI (by omega) (by decide)) dX8_burn_72 ?_
  refine lv_topi (fun vv ev => ?_)
  obtain rfl : vv = (-100000) := ev.trans (by rw [nI_clamp (by omega)]; exact hu _ (by omega))
  refine lv_ldc hx hb hown (hts (.constant RX8 120 (-100000)) (by decide +kernel)) dX8_burn_73 ?_
  refine lv_icmp_ne (tgt := 84) hx hb dX8_burn_75 (by decide) (fun h9 => (by first | exact absurd h9 (by decide) | exact absurd (by decide) h9)) (fun c12 => ?_)
  refine lv_iinc (v := 4) (lv' := [(4, .int 4), (3, .int (nI (5 * L))), (0, .ref m0), (1, .int (nI L)), (2, .int 3)]) hx hb dX8_burn_78 hl (k := 0) rfl (by decide) (by decide) rfl (fun ls hl => ?_)
  refine lv_goto (tgt := 58) hx hb dX8_burn_81 (by decide) ?_
  refine lv_iload hx hb dX8_burn_58 (lv_at hl 0 rfl) ?_
  refine lv_iconst (v := 5) hx hb dX8_burn_60 (by decide) ?_
  refine lv_icmp_ge (tgt := 84) hx hb dX8_burn_61 (by decide) (fun h9 => (by first | exact absurd h9 (by decide) | exact absurd (by decide) h9)) (fun c13 => ?_)
  refine lv_aload_n hx hb dX8_burn_64 rfl (lv_at hl 2 rfl) ?_
  refine va_get (D := D) (ci := 8) (v := .ref r22) (C := RX8) (T := TX8) (N := 40) hx hb hts iw_k_mburn3_8 hown hK hP 0 rfl rfl 22 (by decide) (hts (.fieldLink RX8 95 "FlightDeskModel" "burns" "[I") (by decide +kernel)) (fun _ h9 => h9) rfl dX8_burn_65 ?_
  refine lv_iload_n hx hb dX8_burn_68 rfl (lv_at hl 1 rfl) ?_
  refine lv_iload hx hb dX8_burn_69 (lv_at hl 0 rfl) ?_
  refine lv_iadd hx hb dX8_burn_71 ?_
  refine lv_topi (fun vv ev => ?_)
  obtain rfl : vv = nI (5 * L + 4) := ev.trans (nI_add (5 * L) 4)
  refine va_iald hx hb hK hP 1 0 rfl rfl (vp_in_nI (by omega) (by decide)) dX8_burn_72 ?_
  refine lv_topi (fun vv ev => ?_)
  obtain rfl : vv = (-100000) := ev.trans (by rw [nI_clamp (by omega)]; exact hu _ (by omega))
  refine lv_ldc hx hb hown (hts (.constant RX8 120 (-100000)) (by decide +kernel)) dX8_burn_73 ?_
  refine lv_icmp_ne (tgt := 84) hx hb dX8_burn_75 (by decide) (fun h9 => (by first | exact absurd h9 (by decide) | exact absurd (by decide) h9)) (fun c14 => ?_)
  refine lv_iinc (v := 5) (lv' := [(4, .int 5), (3, .int (nI (5 * L))), (0, .ref m0), (1, .int (nI L)), (2, .int 3)]) hx hb dX8_burn_78 hl (k := 0) rfl (by decide) (by decide) rfl (fun ls hl => ?_)
  refine lv_goto (tgt := 58) hx hb dX8_burn_81 (by decide) ?_
  refine lv_iload hx hb dX8_burn_58 (lv_at hl 0 rfl) ?_
  refine lv_iconst (v := 5) hx hb dX8_burn_60 (by decide) ?_
  refine lv_icmp_ge (tgt := 84) hx hb dX8_burn_61 (by decide) (fun c15 => ?_) (fun h9 => (by first | exact absurd h9 (by decide) | exact absurd (by decide) h9))
  refine lv_iload hx hb dX8_burn_84 (lv_at hl 0 rfl) ?_
  refine lv_iconst (v := 5) hx hb dX8_burn_86 (by decide) ?_
  refine lv_icmp_ge (tgt := 102) hx hb dX8_burn_87 (by decide) (fun c16 => ?_) (fun h9 => (by first | exact absurd h9 (by decide) | exact absurd (by decide) h9))
  refine lv_sipush (v := 1000) hx hb dX8_burn_102 (by decide) ?_
  refine W.widen (k := 0) (n := 0) (by decide) (by decide) ?_
  exact W.iret (v := 1000) hx hb hr (fun t ht hW => ⟨⟨1000, (), rfl, rfl, trivial⟩, hS.F ht⟩) hS.2.2 dX8_burn_105

def wk_k_mburn4 : List Cond := .code yX8_burn cX8_burn 5 (some .int) :: ([.fieldLink RX8 124 "FlightDeskModel" "bank" "I", .fieldLink RX8 95 "FlightDeskModel" "burns" "[I", .constant RX8 120 (-100000)] ++ wsX80)
theorem iw_k_mburn4_8 : ∀ w ∈ wsX80, w ∈ wk_k_mburn4 := fun _ h => List.mem_cons_of_mem _ (List.mem_append_right _ h)
set_option maxHeartbeats 4000000 in
set_option maxRecDepth 100000 in
theorem k_mburn4 (l : Launch) (D : va_G) (cI cB cP : ClassId) (sz : Nat) (m0 : Nat) (r0 : Nat) (r1 : Nat) (r11 : Nat) (r12 : Nat) (r13 : Nat) (r14 : Nat) (r15 : Nat) (r16 : Nat) (r17 : Nat) (r18 : Nat) (r19 : Nat) (r20 : Nat) (r21 : Nat) (r22 : Nat) (r23 : Nat) (r24 : Nat) (r34 : Nat) (r35 : Nat) (r36 : Nat) (r39 : Nat) (L : Nat) (f : Nat → Int32) (hL : L < 6) (hu : ∀ k : Nat, k < 30 → f k = -100000) : Met l yX8_burn wk_k_mburn4 ({ frames := 0, cells := 0, slots := 0, locals := 0 } : Room) (va_Pc [.ref m0, .int (nI L), .int 4] (Pw D cI cB cP sz [(m0, .inr (8, [.ref r0, .ref r1, .int 0, .int 0, .int 0, .int (-1), .int 0, .int 0, .int 0, .int 0, .long 0, .ref r11, .ref r12, .ref r13, .ref r14, .ref r15, .ref r16, .ref r17, .ref r18, .ref r19, .ref r20, .ref r21, .ref r22, .ref r23, .ref r24, .int 0, .int 0, .int 0, .int 0, .int 0, .int 0, .int 0, .int 0, .int 0, .ref r34, .ref r35, .ref r36, .int 0, .int 0, .ref r39])), (r22, .inl (cI, 60, .inl f))])) (va_Qi (fun (r : Int32) (_ : Unit) => r = 1000) (fun _ _ => True) (va_A [(m0, .inr (8, [.ref r0, .ref r1, .int 0, .int 0, .int 0, .int (-1), .int 0, .int 0, .int 0, .int 0, .long 0, .ref r11, .ref r12, .ref r13, .ref r14, .ref r15, .ref r16, .ref r17, .ref r18, .ref r19, .ref r20, .ref r21, .ref r22, .ref r23, .ref r24, .int 0, .int 0, .int 0, .int 0, .int 0, .int 0, .int 0, .int 0, .int 0, .ref r34, .ref r35, .ref r36, .int 0, .int 0, .ref r39])), (r22, .inl (cI, 60, .inl f))] sz)) 0 0 (va_A [(m0, .inr (8, [.ref r0, .ref r1, .int 0, .int 0, .int 0, .int (-1), .int 0, .int 0, .int 0, .int 0, .long 0, .ref r11, .ref r12, .ref r13, .ref r14, .ref r15, .ref r16, .ref r17, .ref r18, .ref r19, .ref r20, .ref r21, .ref r22, .ref r23, .ref r24, .int 0, .int 0, .int 0, .int 0, .int 0, .int 0, .int 0, .int 0, .int 0, .ref r34, .ref r35, .ref r36, .int 0, .int 0, .ref r39])), (r22, .inl (cI, 60, .inl f))] sz) := by
  refine Met.ofW (cc := cX8_burn) (maxL := 5) (ret := (some .int)) (by decide) rfl ?_
  intro p e s m args below meth c s₁ B hml hv
  obtain ⟨rfl, hsz, hP, ⟨hK, hN⟩, hD0⟩ := hv
  have hx := B.exec
  have hb := B.bytes
  have hr := B.returns
  have hts := atoms_spec (ws := wk_k_mburn4) B.pre
  have hown : s.vm.findClass RX8 = some m.cls := findClass_of_methodNamed B.named
  have hlocks := B.notSynchronized
  subst hsz
  have hD := hD0.self (sz := s.heap.size)
  generalize hAe : va_A [(m0, .inr (8, [.ref r0, .ref r1, .int 0, .int 0, .int 0, .int (-1), .int 0, .int 0, .int 0, .int 0, .long 0, .ref r11, .ref r12, .ref r13, .ref r14, .ref r15, .ref r16, .ref r17, .ref r18, .ref r19, .ref r20, .ref r21, .ref r22, .ref r23, .ref r24, .int 0, .int 0, .int 0, .int 0, .int 0, .int 0, .int 0, .int 0, .int 0, .ref r34, .ref r35, .ref r36, .int 0, .int 0, .ref r39])), (r22, .inl (cI, 60, .inl f))] s.heap.size = A at hD ⊢
  have hA : ∀ q : Nat, s.heap.size ≤ q → A q := fun q h => by rw [← hAe]; exact Or.inr h
  have hS : va_S A s.heap s.heap [] := va_S.rf
  have hP : va_P D vwCl [(m0, .inr (8, [.ref r0, .ref r1, .int 0, .int 0, .int 0, .int (-1), .int 0, .int 0, .int 0, .int 0, .long 0, .ref r11, .ref r12, .ref r13, .ref r14, .ref r15, .ref r16, .ref r17, .ref r18, .ref r19, .ref r20, .ref r21, .ref r22, .ref r23, .ref r24, .int 0, .int 0, .int 0, .int 0, .int 0, .int 0, .int 0, .int 0, .int 0, .ref r34, .ref r35, .ref r36, .int 0, .int 0, .ref r39])), (r22, .inl (cI, 60, .inl f))] s.heap := hP
  have hl := lv_entry ([.ref m0, .int (nI L), .int 4]) (n := 5) (Nat.le_of_ble_eq_true rfl)
  rw [lg_entry_eq]
  generalize (lg_sl ([.ref m0, .int (nI L), .int 4]) ++ List.replicate (5 - (lg_sl ([.ref m0, .int (nI L), .int 4])).length) Slot.unset).toArray = ls at hl ⊢
  have hl : lv_has ls 5 [(0, .ref m0), (1, .int (nI L)), (2, .int 4)] := hl
  refine lv_bipush (v := 30) hx hb dX8_burn_0 (by decide) ?_
  refine lv_aload_n hx hb dX8_burn_2 rfl (lv_at hl 0 rfl) ?_
  refine va_get (D := D) (ci := 8) (v := .int 0) (C := RX8) (T := TX8) (N := 40) hx hb hts iw_k_mburn4_8 hown hK hP 0 rfl rfl 25 (by decide) (hts (.fieldLink RX8 124 "FlightDeskModel" "bank" "I") (by decide +kernel)) (fun _ h9 => h9) rfl dX8_burn_3 ?_
  refine lv_imul hx hb dX8_burn_6 ?_
  refine lv_topi (fun vv ev => ?_)
  obtain rfl : vv = 0 := ev.trans (by decide)
  refine lv_iconst (v := 5) hx hb dX8_burn_7 (by decide) ?_
  refine lv_iload_n hx hb dX8_burn_8 rfl (lv_at hl 1 rfl) ?_
  refine lv_imul hx hb dX8_burn_9 ?_
  refine lv_topi (fun vv ev => ?_)
  obtain rfl : vv = nI (5 * L) := ev.trans (pk_mul 5 L)
  refine lv_iadd hx hb dX8_burn_10 ?_
  refine lv_topi (fun vv ev => ?_)
  obtain rfl : vv = nI (5 * L) := ev.trans (by rw [show (0 : Int32) = nI 0 from rfl, nI_add, Nat.zero_add])
  refine lv_istore_n (lv' := [(3, .int (nI (5 * L))), (0, .ref m0), (1, .int (nI L)), (2, .int 4)]) hx hb dX8_burn_11 rfl hl (by decide) rfl (fun ls hl => ?_)
  refine lv_iload_n hx hb dX8_burn_12 rfl (lv_at hl 3 rfl) ?_
  refine lv_istore (lv' := [(4, .int 4), (3, .int (nI (5 * L))), (0, .ref m0), (1, .int (nI L)), (2, .int 4)]) hx hb dX8_burn_13 hl (by decide) rfl (fun ls hl => ?_)
  refine lv_iload hx hb dX8_burn_15 (lv_at hl 0 rfl) ?_
  refine lv_if_lt (tgt := 40) hx hb dX8_burn_17 (by decide) (fun h9 => (by first | exact absurd h9 (by decide) | exact absurd (by decide) h9)) (fun c1 => ?_)
  refine lv_aload_n hx hb dX8_burn_20 rfl (lv_at hl 2 rfl) ?_
  refine va_get (D := D) (ci := 8) (v := .ref r22) (C := RX8) (T := TX8) (N := 40) hx hb hts iw_k_mburn4_8 hown hK hP 0 rfl rfl 22 (by decide) (hts (.fieldLink RX8 95 "FlightDeskModel" "burns" "[I") (by decide +kernel)) (fun _ h9 => h9) rfl dX8_burn_21 ?_
  refine lv_iload_n hx hb dX8_burn_24 rfl (lv_at hl 1 rfl) ?_
  refine lv_iload hx hb dX8_burn_25 (lv_at hl 0 rfl) ?_
  refine lv_iadd hx hb dX8_burn_27 ?_
  refine lv_topi (fun vv ev => ?_)
  obtain rfl : vv = nI (5 * L + 4) := ev.trans (nI_add (5 * L) 4)
  refine va_iald hx hb hK hP 1 0 rfl rfl (vp_in_nI (by omega) (by decide)) dX8_burn_28 ?_
  refine lv_topi (fun vv ev => ?_)
  obtain rfl : vv = (-100000) := ev.trans (by rw [nI_clamp (by omega)]; exact hu _ (by omega))
  refine lv_ldc hx hb hown (hts (.constant RX8 120 (-100000)) (by decide +kernel)) dX8_burn_29 ?_
  refine lv_icmp_ne (tgt := 40) hx hb dX8_burn_31 (by decide) (fun h9 => (by first | exact absurd h9 (by decide) | exact absurd (by decide) h9)) (fun c2 => ?_)
  refine lv_iinc (v := 3) (lv' := [(4, .int 3), (3, .int (nI (5 * L))), (0, .ref m0), (1, .int (nI L)), (2, .int 4)]) hx hb dX8_burn_34 hl (k := 0) rfl (by decide) (by decide) rfl (fun ls hl => ?_)
  refine lv_goto (tgt := 15) hx hb dX8_burn_37 (by decide) ?_
  refine lv_iload hx hb dX8_burn_15 (lv_at hl 0 rfl) ?_
  refine lv_if_lt (tgt := 40) hx hb dX8_burn_17 (by decide) (fun h9 => (by first | exact absurd h9 (by decide) | exact absurd (by decide) h9)) (fun c3 => ?_)
  refine lv_aload_n hx hb dX8_burn_20 rfl (lv_at hl 2 rfl) ?_
  refine va_get (D := D) (ci := 8) (v := .ref r22) (C := RX8) (T := TX8) (N := 40) hx hb hts iw_k_mburn4_8 hown hK hP 0 rfl rfl 22 (by decide) (hts (.fieldLink RX8 95 "FlightDeskModel" "burns" "[I") (by decide +kernel)) (fun _ h9 => h9) rfl dX8_burn_21 ?_
  refine lv_iload_n hx hb dX8_burn_24 rfl (lv_at hl 1 rfl) ?_
  refine lv_iload hx hb dX8_burn_25 (lv_at hl 0 rfl) ?_
  refine lv_iadd hx hb dX8_burn_27 ?_
  refine lv_topi (fun vv ev => ?_)
  obtain rfl : vv = nI (5 * L + 3) := ev.trans (nI_add (5 * L) 3)
  refine va_iald hx hb hK hP 1 0 rfl rfl (vp_in_nI (by omega) (by decide)) dX8_burn_28 ?_
  refine lv_topi (fun vv ev => ?_)
  obtain rfl : vv = (-100000) := ev.trans (by rw [nI_clamp (by omega)]; exact hu _ (by omega))
  refine lv_ldc hx hb hown (hts (.constant RX8 120 (-100000)) (by decide +kernel)) dX8_burn_29 ?_
  refine lv_icmp_ne (tgt := 40) hx hb dX8_burn_31 (by decide) (fun h9 => (by first | exact absurd h9 (by decide) | exact absurd (by decide) h9)) (fun c4 => ?_)
  refine lv_iinc (v := 2) (lv' := [(4, .int 2), (3, .int (nI (5 * L))), (0, .ref m0), (1, .int (nI L)), (2, .int 4)]) hx hb dX8_burn_34 hl (k := 0) rfl (by decide) (by decide) rfl (fun ls hl => ?_)
  refine lv_goto (tgt := 15) hx hb dX8_burn_37 (by decide) ?_
  refine lv_iload hx hb dX8_burn_15 (lv_at hl 0 rfl) ?_
  refine lv_if_lt (tgt := 40) hx hb dX8_burn_17 (by decide) (fun h9 => (by first | exact absurd h9 (by decide) | exact absurd (by decide) h9)) (fun c5 => ?_)
  refine lv_aload_n hx hb dX8_burn_20 rfl (lv_at hl 2 rfl) ?_
  refine va_get (D := D) (ci := 8) (v := .ref r22) (C := RX8) (T := TX8) (N := 40) hx hb hts iw_k_mburn4_8 hown hK hP 0 rfl rfl 22 (by decide) (hts (.fieldLink RX8 95 "FlightDeskModel" "burns" "[I") (by decide +kernel)) (fun _ h9 => h9) rfl dX8_burn_21 ?_
  refine lv_iload_n hx hb dX8_burn_24 rfl (lv_at hl 1 rfl) ?_
  refine lv_iload hx hb dX8_burn_25 (lv_at hl 0 rfl) ?_
  refine lv_iadd hx hb dX8_burn_27 ?_
  refine lv_topi (fun vv ev => ?_)
  obtain rfl : vv = nI (5 * L + 2) := ev.trans (nI_add (5 * L) 2)
  refine va_iald hx hb hK hP 1 0 rfl rfl (vp_in_nI (by omega) (by decide)) dX8_burn_28 ?_
  refine lv_topi (fun vv ev => ?_)
  obtain rfl : vv = (-100000) := ev.trans (by rw [nI_clamp (by omega)]; exact hu _ (by omega))
  refine lv_ldc hx hb hown (hts (.constant RX8 120 (-100000)) (by decide +kernel)) dX8_burn_29 ?_
  refine lv_icmp_ne (tgt := 40) hx hb dX8_burn_31 (by decide) (fun h9 => (by first | exact absurd h9 (by decide) | exact absurd (by decide) h9)) (fun c6 => ?_)
  refine lv_iinc (v := 1) (lv' := [(4, .int 1), (3, .int (nI (5 * L))), (0, .ref m0), (1, .int (nI L)), (2, .int 4)]) hx hb dX8_burn_34 hl (k := 0) rfl (by decide) (by decide) rfl (fun ls hl => ?_)
  refine lv_goto (tgt := 15) hx hb dX8_burn_37 (by decide) ?_
  refine lv_iload hx hb dX8_burn_15 (lv_at hl 0 rfl) ?_
  refine lv_if_lt (tgt := 40) hx hb dX8_burn_17 (by decide) (fun h9 => (by first | exact absurd h9 (by decide) | exact absurd (by decide) h9)) (fun c7 => ?_)
  refine lv_aload_n hx hb dX8_burn_20 rfl (lv_at hl 2 rfl) ?_
  refine va_get (D := D) (ci := 8) (v := .ref r22) (C := RX8) (T := TX8) (N := 40) hx hb hts iw_k_mburn4_8 hown hK hP 0 rfl rfl 22 (by decide) (hts (.fieldLink RX8 95 "FlightDeskModel" "burns" "[I") (by decide +kernel)) (fun _ h9 => h9) rfl dX8_burn_21 ?_
  refine lv_iload_n hx hb dX8_burn_24 rfl (lv_at hl 1 rfl) ?_
  refine lv_iload hx hb dX8_burn_25 (lv_at hl 0 rfl) ?_
  refine lv_iadd hx hb dX8_burn_27 ?_
  refine lv_topi (fun vv ev => ?_)
  obtain rfl : vv = nI (5 * L + 1) := ev.trans (nI_add (5 * L) 1)
  refine va_iald hx hb hK hP 1 0 rfl rfl (vp_in_nI (by omega) (by decide)) dX8_burn_28 ?_
  refine lv_topi (fun vv ev => ?_)
  obtain rfl : vv = (-100000) := ev.trans (by rw [nI_clamp (by omega)]; exact hu _ (by omega))
  refine lv_ldc hx hb hown (hts (.constant RX8 120 (-100000)) (by decide +kernel)) dX8_burn_29 ?_
  refine lv_icmp_ne (tgt := 40) hx hb dX8_burn_31 (by decide) (fun h9 => (by first | exact absurd h9 (by decide) | exact absurd (by decide) h9)) (fun c8 => ?_)
  refine lv_iinc (v := 0) (lv' := [(4, .int 0), (3, .int (nI (5 * L))), (0, .ref m0), (1, .int (nI L)), (2, .int 4)]) hx hb dX8_burn_34 hl (k := 0) rfl (by decide) (by decide) rfl (fun ls hl => ?_)
  refine lv_goto (tgt := 15) hx hb dX8_burn_37 (by decide) ?_
  refine lv_iload hx hb dX8_burn_15 (lv_at hl 0 rfl) ?_
  refine lv_if_lt (tgt := 40) hx hb dX8_burn_17 (by decide) (fun h9 => (by first | exact absurd h9 (by decide) | exact absurd (by decide) h9)) (fun c9 => ?_)
  refine lv_aload_n hx hb dX8_burn_20 rfl (lv_at hl 2 rfl) ?_
  refine va_get (D := D) (ci := 8) (v := .ref r22) (C := RX8) (T := TX8) (N := 40) hx hb hts iw_k_mburn4_8 hown hK hP 0 rfl rfl 22 (by decide) (hts (.fieldLink RX8 95 "FlightDeskModel" "burns" "[I") (by decide +kernel)) (fun _ h9 => h9) rfl dX8_burn_21 ?_
  refine lv_iload_n hx hb dX8_burn_24 rfl (lv_at hl 1 rfl) ?_
  refine lv_iload hx hb dX8_burn_25 (lv_at hl 0 rfl) ?_
  refine lv_iadd hx hb dX8_burn_27 ?_
  refine lv_topi (fun vv ev => ?_)
  obtain rfl : vv = nI (5 * L + 0) := ev.trans (nI_add (5 * L) 0)
  refine va_iald hx hb hK hP 1 0 rfl rfl (vp_in_nI (by omega) (by decide)) dX8_burn_28 ?_
  refine lv_topi (fun vv ev => ?_)
  obtain rfl : vv = (-100000) := ev.trans (by rw [nI_clamp (by omega)]; exact hu _ (by omega))
  refine lv_ldc hx hb hown (hts (.constant RX8 120 (-100000)) (by decide +kernel)) dX8_burn_29 ?_
  refine lv_icmp_ne (tgt := 40) hx hb dX8_burn_31 (by decide) (fun h9 => (by first | exact absurd h9 (by decide) | exact absurd (by decide) h9)) (fun c10 => ?_)
  refine lv_iinc (v := (-1)) (lv' := [(4, .int (-1)), (3, .int (nI (5 * L))), (0, .ref m0), (1, .int (nI L)), (2, .int 4)]) hx hb dX8_burn_34 hl (k := 0) rfl (by decide) (by decide) rfl (fun ls hl => ?_)
  refine lv_goto (tgt := 15) hx hb dX8_burn_37 (by decide) ?_
  refine lv_iload hx hb dX8_burn_15 (lv_at hl 0 rfl) ?_
  refine lv_if_lt (tgt := 40) hx hb dX8_burn_17 (by decide) (fun c11 => ?_) (fun h9 => (by first | exact absurd h9 (by decide) | exact absurd (by decide) h9))
  refine lv_iload hx hb dX8_burn_40 (lv_at hl 0 rfl) ?_
  refine lv_if_lt (tgt := 55) hx hb dX8_burn_42 (by decide) (fun c12 => ?_) (fun h9 => (by first | exact absurd h9 (by decide) | exact absurd (by decide) h9))
  refine lv_iload_n hx hb dX8_burn_55 rfl (lv_at hl 4 rfl) ?_
  refine lv_istore (lv' := [(4, .int 4), (3, .int (nI (5 * L))), (0, .ref m0), (1, .int (nI L)), (2, .int 4)]) hx hb dX8_burn_56 hl (by decide) rfl (fun ls hl => ?_)
  refine lv_iload hx hb dX8_burn_58 (lv_at hl 0 rfl) ?_
  refine lv_iconst (v := 5) hx hb dX8_burn_60 (by decide) ?_
  refine lv_icmp_ge (tgt := 84) hx hb dX8_burn_61 (by decide) (fun h9 => (by first | exact absurd h9 (by decide) | exact absurd (by decide) h9)) (fun c13 => ?_)
  refine lv_aload_n hx hb dX8_burn_64 rfl (lv_at hl 2 rfl) ?_
  refine va_get (D := D) (ci := 8) (v := .ref r22) (C := RX8) (T := TX8) (N := 40) hx hb hts iw_k_mburn4_8 hown hK hP 0 rfl rfl 22 (by decide) (hts (.fieldLink RX8 95 "FlightDeskModel" "burns" "[I") (by decide +kernel)) (fun _ h9 => h9) rfl dX8_burn_65 ?_
  refine lv_iload_n hx hb dX8_burn_68 rfl (lv_at hl 1 rfl) ?_
  refine lv_iload hx hb dX8_burn_69 (lv_at hl 0 rfl) ?_
  refine lv_iadd hx hb dX8_burn_71 ?_
  refine lv_topi (fun vv ev => ?_)
  obtain rfl : vv = nI (5 * L + 4) := ev.trans (nI_add (5 * L) 4)
  refine va_iald hx hb hK hP 1 0 rfl rfl (vp_in_nI (by omega) (by decide)) dX8_burn_72 ?_
  refine lv_topi (fun vv ev => ?_)
  obtain rfl : vv = (-100000) := ev.trans (by rw [nI_clamp (by omega)]; exact hu _ (by omega))
  refine lv_ldc hx hb hown (hts (.constant RX8 120 (-100000)) (by decide +kernel)) dX8_burn_73 ?_
  refine lv_icmp_ne (tgt := 84) hx hb dX8_burn_75 (by decide) (fun h9 => (by first | exact absurd h9 (by decide) | exact absurd (by decide) h9)) (fun c14 => ?_)
  refine lv_iinc (v := 5) (lv' := [(4, .int 5), (3, .int (nI (5 * L))), (0, .ref m0), (1, .int (nI L)), (2, .int 4)]) hx hb dX8_burn_78 hl (k := 0) rfl (by decide) (by decide) rfl (fun ls hl => ?_)
  refine lv_goto (tgt := 58) hx hb dX8_burn_81 (by decide) ?_
  refine lv_iload hx hb dX8_burn_58 (lv_at hl 0 rfl) ?_
  refine lv_iconst (v := 5) hx hb dX8_burn_60 (by decide) ?_
  refine lv_icmp_ge (tgt := 84) hx hb dX8_burn_61 (by decide) (fun c15 => ?_) (fun h9 => (by first | exact absurd h9 (by decide) | exact absurd (by decide) h9))
  refine lv_iload hx hb dX8_burn_84 (lv_at hl 0 rfl) ?_
  refine lv_iconst (v := 5) hx hb dX8_burn_86 (by decide) ?_
  refine lv_icmp_ge (tgt := 102) hx hb dX8_burn_87 (by decide) (fun c16 => ?_) (fun h9 => (by first | exact absurd h9 (by decide) | exact absurd (by decide) h9))
  refine lv_sipush (v := 1000) hx hb dX8_burn_102 (by decide) ?_
  refine W.widen (k := 0) (n := 0) (by decide) (by decide) ?_
  exact W.iret (v := 1000) hx hb hr (fun t ht hW => ⟨⟨1000, (), rfl, rfl, trivial⟩, hS.F ht⟩) hS.2.2 dX8_burn_105
