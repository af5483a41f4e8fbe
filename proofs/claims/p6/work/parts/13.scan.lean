def wk_k_skipBlanks : List Cond := .code yX4_skipBlanks cX4_skipBlanks 1 (some .int) :: ([.fieldLink RX4 29 "FlightDesk$Scanner" "next" "I", .fieldLink RX4 21 "FlightDesk$Scanner" "tape" "LFlightDesk$Tape;", .fieldLink RX4 54 "FlightDesk$Tape" "length" "I", .methodLink RX4 45 yX5_byteAt, .instanceMethod yX5_byteAt, .selects RX5 yX5_byteAt yX5_byteAt, .initialized RX5, .code yX5_byteAt cX5_byteAt 2 (some .int), .fieldLink RX5 15 "FlightDesk$Tape" "length" "I", .fieldLink RX5 9 "FlightDesk$Tape" "bytes" "[I", .methodLink RX4 56 yX4_isBlank, .static yX4_isBlank, .initialized RX4, .code yX4_isBlank cX4_isBlank 1 (some .boolean)] ++ wsX40 ++ wsX50)
theorem iw_k_skipBlanks_4 : ∀ w ∈ wsX40, w ∈ wk_k_skipBlanks := fun _ h => List.mem_cons_of_mem _ (List.mem_append_left _ (List.mem_append_right _ h))
theorem iw_k_skipBlanks_5 : ∀ w ∈ wsX50, w ∈ wk_k_skipBlanks := fun _ h => List.mem_cons_of_mem _ (List.mem_append_right _ h)
set_option maxRecDepth 20000 in
theorem gw_k_skipBlanks_0 : GoodIn wk_k_skipBlanks (wsV RX4 45 RX5 yX5_byteAt wk_k_byteAt) := goodIn_sub (by decide +kernel) (by decide +kernel)
set_option maxRecDepth 20000 in
theorem gw_k_skipBlanks_1 : GoodIn wk_k_skipBlanks (wsS RX4 56 yX4_isBlank wk_k_isBlank) := goodIn_sub (by decide +kernel) (by decide +kernel)
set_option maxHeartbeats 4000000 in
set_option maxRecDepth 100000 in
theorem k_skipBlanks (l : Launch) (D : va_G) (cI cB cP : ClassId) (sz : Nat) (h0 : Nat) (tp : Nat) (s2 : Nat) (s3 : Nat) (s4 : Nat) (yb : Nat) (ct : Int32) (nx : Int32) (n : Int32) (fy : Nat → Int32) (hn9 : 0 ≤ n.toInt ∧ n.toInt ≤ 1000) (hx9 : 0 ≤ nx.toInt ∧ nx.toInt ≤ 1000) : Met l yX4_skipBlanks wk_k_skipBlanks ({ frames := 1, cells := 0, slots := 0, locals := 21 } : Room) (va_Pc [.ref h0] (Pw D cI cB cP sz [(h0, .inr (4, [.ref tp, .int ct, .ref s2, .ref s3, .ref s4, .int nx])), (tp, .inr (5, [.ref yb, .int n])), (yb, .inl (cI, 1000, .inl fy))])) (va_Qi (fun (r : Int32) (_ : Unit) => True) (fun _ t => ∃ nx9 : Int32, (0 ≤ nx9.toInt ∧ nx9.toInt ≤ 1000) ∧ va_P D vwCl [(h0, .inr (4, [.ref tp, .int ct, .ref s2, .ref s3, .ref s4, .int nx9])), (tp, .inr (5, [.ref yb, .int n])), (yb, .inl (cI, 1000, .inl fy))] t.heap ∧ va_D (va_A [(h0, .inr (4, [.ref tp, .int ct, .ref s2, .ref s3, .ref s4, .int nx])), (tp, .inr (5, [.ref yb, .int n])), (yb, .inl (cI, 1000, .inl fy))] sz) [(h0, .inr (4, [.ref tp, .int ct, .ref s2, .ref s3, .ref s4, .int nx9])), (tp, .inr (5, [.ref yb, .int n])), (yb, .inl (cI, 1000, .inl fy))]) (va_A [(h0, .inr (4, [.ref tp, .int ct, .ref s2, .ref s3, .ref s4, .int nx])), (tp, .inr (5, [.ref yb, .int n])), (yb, .inl (cI, 1000, .inl fy))] sz)) 0 0 (va_A [(h0, .inr (4, [.ref tp, .int ct, .ref s2, .ref s3, .ref s4, .int nx])), (tp, .inr (5, [.ref yb, .int n])), (yb, .inl (cI, 1000, .inl fy))] sz) := by
  refine Met.ofW (cc := cX4_skipBlanks) (maxL := 1) (ret := (some .int)) (by decide) rfl ?_
  intro p e s m args below meth c s₁ B hml hv
  obtain ⟨rfl, hsz, hP, ⟨hK, hN⟩, hD0⟩ := hv
  have hx := B.exec
  have hb := B.bytes
  have hr := B.returns
  have hts := atoms_spec (ws := wk_k_skipBlanks) B.pre
  have hown : s.vm.findClass RX4 = some m.cls := findClass_of_methodNamed B.named
  have hlocks := B.notSynchronized
  subst hsz
  have hD := hD0.self (sz := s.heap.size)
  generalize hAe : va_A [(h0, .inr (4, [.ref tp, .int ct, .ref s2, .ref s3, .ref s4, .int nx])), (tp, .inr (5, [.ref yb, .int n])), (yb, .inl (cI, 1000, .inl fy))] s.heap.size = A at hD ⊢
  have hA : ∀ q : Nat, s.heap.size ≤ q → A q := fun q h => by rw [← hAe]; exact Or.inr h
  have hS : va_S A s.heap s.heap [] := va_S.rf
  have hP : va_P D vwCl [(h0, .inr (4, [.ref tp, .int ct, .ref s2, .ref s3, .ref s4, .int nx])), (tp, .inr (5, [.ref yb, .int n])), (yb, .inl (cI, 1000, .inl fy))] s.heap := hP
  have hl := lv_entry ([.ref h0]) (n := 1) (Nat.le_of_ble_eq_true rfl)
  rw [lg_entry_eq]
  generalize (lg_sl ([.ref h0]) ++ List.replicate (1 - (lg_sl ([.ref h0])).length) Slot.unset).toArray = ls at hl ⊢
  have hl : lv_has ls 1 [(0, .ref h0)] := hl
  have loop2 : ∀ (N3 : Nat) (nx1 : Int32) (H : Heap) (locs : List Loc) (ls : Array Slot), (0 ≤ nx1.toInt ∧ nx1.toInt ≤ 1000) → (1000 - nx1.toInt).toNat < N3 → va_P D vwCl [(h0, .inr (4, [.ref tp, .int ct, .ref s2, .ref s3, .ref s4, .int nx1])), (tp, .inr (5, [.ref yb, .int n])), (yb, .inl (cI, 1000, .inl fy))] H → va_D A [(h0, .inr (4, [.ref tp, .int ct, .ref s2, .ref s3, .ref s4, .int nx1])), (tp, .inr (5, [.ref yb, .int n])), (yb, .inl (cI, 1000, .inl fy))] → va_S A s.heap H locs → lv_has ls 1 [(0, .ref h0)] → W p l e ({ frames := 1, cells := 0, slots := 0, locals := 21 } : Room) s m ([.ref h0] : List Value).toArray below meth c H locs 0 0 (MQ below (va_Qi (fun (r : Int32) (_ : Unit) => True) (fun _ t => ∃ nx9 : Int32, (0 ≤ nx9.toInt ∧ nx9.toInt ≤ 1000) ∧ va_P D vwCl [(h0, .inr (4, [.ref tp, .int ct, .ref s2, .ref s3, .ref s4, .int nx9])), (tp, .inr (5, [.ref yb, .int n])), (yb, .inl (cI, 1000, .inl fy))] t.heap ∧ va_D A [(h0, .inr (4, [.ref tp, .int ct, .ref s2, .ref s3, .ref s4, .int nx9])), (tp, .inr (5, [.ref yb, .int n])), (yb, .inl (cI, 1000, .inl fy))]) A) ([.ref h0] : List Value).toArray s 0 0 A) (F0 m 0 ls []) := by
    intro N3
    induction N3 with
    | zero => intro nx1 H locs ls hi1 hm9 hP hD hS hl; exact absurd hm9 (Nat.not_lt_zero _)
    | succ N3 ih_N3 => 
      intro nx1 H locs ls hi1 hm9 hP hD hS hl
      refine lv_aload_n hx hb dX4_skipBlanks_0 rfl (lv_at hl 0 rfl) ?_
      refine va_get (D := D) (ci := 4) (v := .int nx1) (C := RX4) (T := TX4) (N := 6) hx hb hts iw_k_skipBlanks_4 hown hK hP 0 rfl rfl 5 (by decide) (hts (.fieldLink RX4 29 "FlightDesk$Scanner" "next" "I") (by decide +kernel)) (fun _ h9 => h9) rfl dX4_skipBlanks_1 ?_
      refine lv_aload_n hx hb dX4_skipBlanks_4 rfl (lv_at hl 0 rfl) ?_
      refine va_get (D := D) (ci := 4) (v := .ref tp) (C := RX4) (T := TX4) (N := 6) hx hb hts iw_k_skipBlanks_4 hown hK hP 0 rfl rfl 0 (by decide) (hts (.fieldLink RX4 21 "FlightDesk$Scanner" "tape" "LFlightDesk$Tape;") (by decide +kernel)) (fun _ h9 => h9) rfl dX4_skipBlanks_5 ?_
      refine va_get (D := D) (ci := 5) (v := .int n) (C := RX5) (T := TX5) (N := 2) hx hb hts iw_k_skipBlanks_5 hown hK hP 1 rfl rfl 1 (by decide) (hts (.fieldLink RX4 54 "FlightDesk$Tape" "length" "I") (by decide +kernel)) (fun _ h9 => h9) rfl dX4_skipBlanks_8 ?_
      refine lv_icmp_ge (tgt := 44) hx hb dX4_skipBlanks_11 (by decide) (fun c4 => ?_) (fun c4 => ?_)
      · have tc4 : n.toInt ≤ nx1.toInt := i32_le c4
        refine lv_aload_n hx hb dX4_skipBlanks_44 rfl (lv_at hl 0 rfl) ?_
        refine va_get (D := D) (ci := 4) (v := .int nx1) (C := RX4) (T := TX4) (N := 6) hx hb hts iw_k_skipBlanks_4 hown hK hP 0 rfl rfl 5 (by decide) (hts (.fieldLink RX4 29 "FlightDesk$Scanner" "next" "I") (by decide +kernel)) (fun _ h9 => h9) rfl dX4_skipBlanks_45 ?_
        have hP9 := hP.sub (ws' := [(h0, .inr (4, [.ref tp, .int ct, .ref s2, .ref s3, .ref s4, .int nx1])), (tp, .inr (5, [.ref yb, .int n])), (yb, .inl (cI, 1000, .inl fy))]) [0, 1, 2] rfl
        have hD9 := hD.sub (ws' := [(h0, .inr (4, [.ref tp, .int ct, .ref s2, .ref s3, .ref s4, .int nx1])), (tp, .inr (5, [.ref yb, .int n])), (yb, .inl (cI, 1000, .inl fy))]) [0, 1, 2] (by decide) rfl
        refine W.widen (k := 0) (n := 0) (by decide) (by decide) ?_
        exact W.iret (v := nx1) hx hb hr (fun t ht hW => ⟨⟨nx1, (), rfl, (trivial), nx1, (show 0 ≤ nx1.toInt ∧ nx1.toInt ≤ 1000 by first | assumption | omega | decide), by rw [ht]; exact hP9, hD9⟩, hS.F ht⟩) hS.2.2 dX4_skipBlanks_48
      · have tc4 : ¬ (n.toInt ≤ nx1.toInt) := i32_nle c4
        refine lv_aload_n hx hb dX4_skipBlanks_14 rfl (lv_at hl 0 rfl) ?_
        refine va_get (D := D) (ci := 4) (v := .ref tp) (C := RX4) (T := TX4) (N := 6) hx hb hts iw_k_skipBlanks_4 hown hK hP 0 rfl rfl 0 (by decide) (hts (.fieldLink RX4 21 "FlightDesk$Scanner" "tape" "LFlightDesk$Tape;") (by decide +kernel)) (fun _ h9 => h9) rfl dX4_skipBlanks_15 ?_
        refine lv_aload_n hx hb dX4_skipBlanks_18 rfl (lv_at hl 0 rfl) ?_
        refine va_get (D := D) (ci := 4) (v := .int nx1) (C := RX4) (T := TX4) (N := 6) hx hb hts iw_k_skipBlanks_4 hown hK hP 0 rfl rfl 5 (by decide) (hts (.fieldLink RX4 29 "FlightDesk$Scanner" "next" "I") (by decide +kernel)) (fun _ h9 => h9) rfl dX4_skipBlanks_19 ?_
        have hPc := hP.sub (ws' := [(tp, .inr (5, [.ref yb, .int n])), (yb, .inl (cI, 1000, .inl fy))]) [1, 2] rfl
        have hDc := hD.sub (ws' := [(tp, .inr (5, [.ref yb, .int n])), (yb, .inl (cI, 1000, .inl fy))]) [1, 2] (by decide) rfl
        have hFc := va_free (wc := [(tp, .inr (5, [.ref yb, .int n])), (yb, .inl (cI, 1000, .inl fy))]) hD hS hA [1, 2] rfl
        refine va_calli (va_runV (As := [.int nx1]) (rest := []) ⟨hx, hb, hml, hown, hts⟩ (k_byteAt l D cI cB cP H.size tp yb n nx1 fy (show 0 ≤ n.toInt ∧ n.toInt ≤ 1000 by first | assumption | omega | decide)) (cwV 1 hts gw_k_skipBlanks_0 rfl rfl rfl (by decide +kernel) ⟨Nat.le_of_ble_eq_true rfl, Nat.le_of_ble_eq_true rfl⟩) ⟨ny_blind, va_recv hK hPc (ci := 5) (q0 := 0) rfl rfl, ny_pre hPc hK hN hDc⟩ rfl rfl hl.1 rfl (lv_room (Nat.le_of_ble_eq_true rfl)) dX4_skipBlanks_22 ⟨Nat.le_of_ble_eq_true rfl, Nat.le_of_ble_eq_true rfl⟩) hS (fun q _ h => hFc q h) hFc (fun r5 u t H locs ht hvm hw hB hz1 hk1 hS => ?_)
        obtain ⟨hP1, hD1⟩ := hB
        rw [ht] at hP1
        obtain ⟨hP, hD⟩ := va_join (wr := [(h0, .inr (4, [.ref tp, .int ct, .ref s2, .ref s3, .ref s4, .int nx1]))]) (w1 := [(tp, .inr (5, [.ref yb, .int n])), (yb, .inl (cI, 1000, .inl fy))]) hP hD [1, 2] [0] rfl rfl (by decide) (by decide) hk1 hFc hP1 hD1
        have hP : va_P D vwCl [(h0, .inr (4, [.ref tp, .int ct, .ref s2, .ref s3, .ref s4, .int nx1])), (tp, .inr (5, [.ref yb, .int n])), (yb, .inl (cI, 1000, .inl fy))] H := hP
        have hD : va_D A [(h0, .inr (4, [.ref tp, .int ct, .ref s2, .ref s3, .ref s4, .int nx1])), (tp, .inr (5, [.ref yb, .int n])), (yb, .inl (cI, 1000, .inl fy))] := hD
        have hr5 : ¬ r5.toInt = (-1) → 0 ≤ nx1.toInt ∧ nx1.toInt < n.toInt := hw
        have hPc := hP.sub (ws' := []) [] rfl
        have hDc := hD.sub (ws' := []) [] (by decide) rfl
        have hFc := va_free (wc := []) hD hS hA [] rfl
        refine va_calli (va_runS (As := [.int r5]) (rest := []) ⟨hx, hb, hml, hown, hts⟩ (k_isBlank l D cI cB cP H.size r5) (cwS 1 hts gw_k_skipBlanks_1 rfl rfl rfl (by decide +kernel) ⟨Nat.le_of_ble_eq_true rfl, Nat.le_of_ble_eq_true rfl⟩) ⟨ny_blind, ny_pre hPc hK hN hDc⟩ rfl rfl hl.1 rfl (lv_room (Nat.le_of_ble_eq_true rfl)) dX4_skipBlanks_25 ⟨Nat.le_of_ble_eq_true rfl, Nat.le_of_ble_eq_true rfl⟩) hS (fun q _ h => hFc q h) hFc (fun r6 u t H locs ht hvm hw hB hz1 hk1 hS => ?_)
        obtain ⟨hP, hD⟩ := va_join (wr := [(h0, .inr (4, [.ref tp, .int ct, .ref s2, .ref s3, .ref s4, .int nx1])), (tp, .inr (5, [.ref yb, .int n])), (yb, .inl (cI, 1000, .inl fy))]) (w1 := []) hP hD [] [0, 1, 2] rfl rfl (by decide) (by decide) hk1 hFc ny_P0 ny_D0
        have hP : va_P D vwCl [(h0, .inr (4, [.ref tp, .int ct, .ref s2, .ref s3, .ref s4, .int nx1])), (tp, .inr (5, [.ref yb, .int n])), (yb, .inl (cI, 1000, .inl fy))] H := hP
        have hD : va_D A [(h0, .inr (4, [.ref tp, .int ct, .ref s2, .ref s3, .ref s4, .int nx1])), (tp, .inr (5, [.ref yb, .int n])), (yb, .inl (cI, 1000, .inl fy))] := hD
        have hr6 : 0 ≤ r6.toInt := hw
        refine lv_if_eq (tgt := 44) hx hb dX4_skipBlanks_28 (by decide) (fun c7 => ?_) (fun c7 => ?_)
        · have tc7 : r6.toInt = 0 := i32_eq c7
          refine lv_aload_n hx hb dX4_skipBlanks_44 rfl (lv_at hl 0 rfl) ?_
          refine va_get (D := D) (ci := 4) (v := .int nx1) (C := RX4) (T := TX4) (N := 6) hx hb hts iw_k_skipBlanks_4 hown hK hP 0 rfl rfl 5 (by decide) (hts (.fieldLink RX4 29 "FlightDesk$Scanner" "next" "I") (by decide +kernel)) (fun _ h9 => h9) rfl dX4_skipBlanks_45 ?_
          have hP9 := hP.sub (ws' := [(h0, .inr (4, [.ref tp, .int ct, .ref s2, .ref s3, .ref s4, .int nx1])), (tp, .inr (5, [.ref yb, .int n])), (yb, .inl (cI, 1000, .inl fy))]) [0, 1, 2] rfl
          have hD9 := hD.sub (ws' := [(h0, .inr (4, [.ref tp, .int ct, .ref s2, .ref s3, .ref s4, .int nx1])), (tp, .inr (5, [.ref yb, .int n])), (yb, .inl (cI, 1000, .inl fy))]) [0, 1, 2] (by decide) rfl
          refine W.widen (k := 0) (n := 0) (by decide) (by decide) ?_
          exact W.iret (v := nx1) hx hb hr (fun t ht hW => ⟨⟨nx1, (), rfl, (trivial), nx1, (show 0 ≤ nx1.toInt ∧ nx1.toInt ≤ 1000 by first | assumption | omega | decide), by rw [ht]; exact hP9, hD9⟩, hS.F ht⟩) hS.2.2 dX4_skipBlanks_48
        · have tc7 : ¬ (r6.toInt = 0) := i32_neq c7
          refine lv_aload_n hx hb dX4_skipBlanks_31 rfl (lv_at hl 0 rfl) ?_
          refine lv_dup hx hb dX4_skipBlanks_32 rfl ?_
          refine va_get (D := D) (ci := 4) (v := .int nx1) (C := RX4) (T := TX4) (N := 6) hx hb hts iw_k_skipBlanks_4 hown hK hP 0 rfl rfl 5 (by decide) (hts (.fieldLink RX4 29 "FlightDesk$Scanner" "next" "I") (by decide +kernel)) (fun _ h9 => h9) rfl dX4_skipBlanks_33 ?_
          refine lv_iconst (v := 1) hx hb dX4_skipBlanks_36 (by decide) ?_
          refine lv_iadd hx hb dX4_skipBlanks_37 ?_
          refine lv_topi (fun v8 ev8 => ?_)
          have tv8 : v8.toInt = (nx1.toInt + 1 + 2147483648) % 4294967296 - 2147483648 := i32_add ev8
          refine va_put (D := D) (ci := 4) (v := .int v8) (ty := .int) (C := RX4) (T := TX4) (N := 6) hx hb hts iw_k_skipBlanks_4 tyX4 tyX4_ok nmX4 hown hK hP hD hS 0 rfl rfl 5 (by decide) (hts (.fieldLink RX4 29 "FlightDesk$Scanner" "next" "I") (by decide +kernel)) (fun _ h9 => h9) rfl (by decide +kernel) rfl rfl (Nat.le_of_ble_eq_true rfl) dX4_skipBlanks_38 (fun H locs hP hD hS => ?_)
          have hP : va_P D vwCl [(h0, .inr (4, [.ref tp, .int ct, .ref s2, .ref s3, .ref s4, .int v8])), (tp, .inr (5, [.ref yb, .int n])), (yb, .inl (cI, 1000, .inl fy))] H := hP
          have hD : va_D A [(h0, .inr (4, [.ref tp, .int ct, .ref s2, .ref s3, .ref s4, .int v8])), (tp, .inr (5, [.ref yb, .int n])), (yb, .inl (cI, 1000, .inl fy))] := hD
          refine lv_goto (tgt := 0) hx hb dX4_skipBlanks_41 (by decide) ?_
          exact ih_N3 v8 _ _ _ (show 0 ≤ v8.toInt ∧ v8.toInt ≤ 1000 by first | assumption | omega | decide) (by omega) (hP.sub [0, 1, 2] rfl) (hD.sub [0, 1, 2] (by decide) rfl) hS (lv_sub hl [0] rfl)
  exact loop2 _ nx _ _ _ (show 0 ≤ nx.toInt ∧ nx.toInt ≤ 1000 by first | assumption | omega | decide) (Nat.lt_succ_self _) (hP.sub [0, 1, 2] rfl) (hD.sub [0, 1, 2] (by decide) rfl) hS (lv_sub hl [0] rfl)

def wk_k_scanWord : List Cond := .code yX4_scanWord cX4_scanWord 3 (some .int) :: ([.fieldLink RX4 29 "FlightDesk$Scanner" "next" "I", .fieldLink RX4 21 "FlightDesk$Scanner" "tape" "LFlightDesk$Tape;", .fieldLink RX4 54 "FlightDesk$Tape" "length" "I", .fieldLink RX4 18 "FlightDesk$Scanner" "value" "[I", .methodLink RX4 45 yX5_byteAt, .instanceMethod yX5_byteAt, .selects RX5 yX5_byteAt yX5_byteAt, .initialized RX5, .code yX5_byteAt cX5_byteAt 2 (some .int), .fieldLink RX5 15 "FlightDesk$Tape" "length" "I", .fieldLink RX5 9 "FlightDesk$Tape" "bytes" "[I", .methodLink RX4 60 yX4_isLetter, .static yX4_isLetter, .initialized RX4, .code yX4_isLetter cX4_isLetter 1 (some .boolean)] ++ wsX40 ++ wsX50)
theorem iw_k_scanWord_4 : ∀ w ∈ wsX40, w ∈ wk_k_scanWord := fun _ h => List.mem_cons_of_mem _ (List.mem_append_left _ (List.mem_append_right _ h))
theorem iw_k_scanWord_5 : ∀ w ∈ wsX50, w ∈ wk_k_scanWord := fun _ h => List.mem_cons_of_mem _ (List.mem_append_right _ h)
set_option maxRecDepth 20000 in
theorem gw_k_scanWord_0 : GoodIn wk_k_scanWord (wsV RX4 45 RX5 yX5_byteAt wk_k_byteAt) := goodIn_sub (by decide +kernel) (by decide +kernel)
set_option maxRecDepth 20000 in
theorem gw_k_scanWord_1 : GoodIn wk_k_scanWord (wsS RX4 60 yX4_isLetter wk_k_isLetter) := goodIn_sub (by decide +kernel) (by decide +kernel)
set_option maxHeartbeats 4000000 in
set_option maxRecDepth 100000 in
theorem k_scanWord (l : Launch) (D : va_G) (cI cB cP : ClassId) (sz : Nat) (h0 : Nat) (tp : Nat) (s2 : Nat) (s3 : Nat) (s4 : Nat) (yb : Nat) (ct : Int32) (nx : Int32) (n : Int32) (i : Int32) (fy : Nat → Int32) (fv : Nat → Int32) (hn9 : 0 ≤ n.toInt ∧ n.toInt ≤ 1000) (hx9 : 0 ≤ nx.toInt ∧ nx.toInt ≤ 1000) (hi9 : 0 ≤ i.toInt ∧ i.toInt ≤ 11) : Met l yX4_scanWord wk_k_scanWord ({ frames := 1, cells := 0, slots := 0, locals := 21 } : Room) (va_Pc [.ref h0, .int i] (Pw D cI cB cP sz [(h0, .inr (4, [.ref tp, .int ct, .ref s2, .ref s3, .ref s4, .int nx])), (tp, .inr (5, [.ref yb, .int n])), (yb, .inl (cI, 1000, .inl fy)), (s4, .inl (cI, 12, .inl fv))])) (va_Qi (fun (r : Int32) (_ : Unit) => True) (fun _ t => ∃ nx9 : Int32, ∃ gv : Nat → Int32, (0 ≤ nx9.toInt ∧ nx9.toInt ≤ 1000) ∧ va_P D vwCl [(h0, .inr (4, [.ref tp, .int ct, .ref s2, .ref s3, .ref s4, .int nx9])), (tp, .inr (5, [.ref yb, .int n])), (yb, .inl (cI, 1000, .inl fy)), (s4, .inl (cI, 12, .inl gv))] t.heap ∧ va_D (va_A [(h0, .inr (4, [.ref tp, .int ct, .ref s2, .ref s3, .ref s4, .int nx])), (tp, .inr (5, [.ref yb, .int n])), (yb, .inl (cI, 1000, .inl fy)), (s4, .inl (cI, 12, .inl fv))] sz) [(h0, .inr (4, [.ref tp, .int ct, .ref s2, .ref s3, .ref s4, .int nx9])), (tp, .inr (5, [.ref yb, .int n])), (yb, .inl (cI, 1000, .inl fy)), (s4, .inl (cI, 12, .inl gv))]) (va_A [(h0, .inr (4, [.ref tp, .int ct, .ref s2, .ref s3, .ref s4, .int nx])), (tp, .inr (5, [.ref yb, .int n])), (yb, .inl (cI, 1000, .inl fy)), (s4, .inl (cI, 12, .inl fv))] sz)) 0 0 (va_A [(h0, .inr (4, [.ref tp, .int ct, .ref s2, .ref s3, .ref s4, .int nx])), (tp, .inr (5, [.ref yb, .int n])), (yb, .inl (cI, 1000, .inl fy)), (s4, .inl (cI, 12, .inl fv))] sz) := by
  refine Met.ofW (cc := cX4_scanWord) (maxL := 3) (ret := (some .int)) (by decide) rfl ?_
  intro p e s m args below meth c s₁ B hml hv
  obtain ⟨rfl, hsz, hP, ⟨hK, hN⟩, hD0⟩ := hv
  have hx := B.exec
  have hb := B.bytes
  have hr := B.returns
  have hts := atoms_spec (ws := wk_k_scanWord) B.pre
  have hown : s.vm.findClass RX4 = some m.cls := findClass_of_methodNamed B.named
  have hlocks := B.notSynchronized
  subst hsz
  have hD := hD0.self (sz := s.heap.size)
  generalize hAe : va_A [(h0, .inr (4, [.ref tp, .int ct, .ref s2, .ref s3, .ref s4, .int nx])), (tp, .inr (5, [.ref yb, .int n])), (yb, .inl (cI, 1000, .inl fy)), (s4, .inl (cI, 12, .inl fv))] s.heap.size = A at hD ⊢
  have hA : ∀ q : Nat, s.heap.size ≤ q → A q := fun q h => by rw [← hAe]; exact Or.inr h
  have hS : va_S A s.heap s.heap [] := va_S.rf
  have hP : va_P D vwCl [(h0, .inr (4, [.ref tp, .int ct, .ref s2, .ref s3, .ref s4, .int nx])), (tp, .inr (5, [.ref yb, .int n])), (yb, .inl (cI, 1000, .inl fy)), (s4, .inl (cI, 12, .inl fv))] s.heap := hP
  have hl := lv_entry ([.ref h0, .int i]) (n := 3) (Nat.le_of_ble_eq_true rfl)
  rw [lg_entry_eq]
  generalize (lg_sl ([.ref h0, .int i]) ++ List.replicate (3 - (lg_sl ([.ref h0, .int i])).length) Slot.unset).toArray = ls at hl ⊢
  have hl : lv_has ls 3 [(0, .ref h0), (1, .int i)] := hl
  refine lv_aload_n hx hb dX4_scanWord_0 rfl (lv_at hl 0 rfl) ?_
  refine va_get (D := D) (ci := 4) (v := .int nx) (C := RX4) (T := TX4) (N := 6) hx hb hts iw_k_scanWord_4 hown hK hP 0 rfl rfl 5 (by decide) (hts (.fieldLink RX4 29 "FlightDesk$Scanner" "next" "I") (by decide +kernel)) (fun _ h9 => h9) rfl dX4_scanWord_1 ?_
  refine lv_istore_n (lv' := [(2, .int nx), (0, .ref h0), (1, .int i)]) hx hb dX4_scanWord_4 rfl hl (by decide) rfl (fun ls hl => ?_)
  have loop2 : ∀ (N3 : Nat) (nx1 : Int32) (H : Heap) (locs : List Loc) (ls : Array Slot), (0 ≤ nx1.toInt ∧ nx1.toInt ≤ 1000) → (1000 - nx1.toInt).toNat < N3 → va_P D vwCl [(h0, .inr (4, [.ref tp, .int ct, .ref s2, .ref s3, .ref s4, .int nx1])), (tp, .inr (5, [.ref yb, .int n])), (yb, .inl (cI, 1000, .inl fy)), (s4, .inl (cI, 12, .inl fv))] H → va_D A [(h0, .inr (4, [.ref tp, .int ct, .ref s2, .ref s3, .ref s4, .int nx1])), (tp, .inr (5, [.ref yb, .int n])), (yb, .inl (cI, 1000, .inl fy)), (s4, .inl (cI, 12, .inl fv))] → va_S A s.heap H locs → lv_has ls 3 [(2, .int nx), (0, .ref h0), (1, .int i)] → W p l e ({ frames := 1, cells := 0, slots := 0, locals := 21 } : Room) s m ([.ref h0, .int i] : List Value).toArray below meth c H locs 0 0 (MQ below (va_Qi (fun (r : Int32) (_ : Unit) => True) (fun _ t => ∃ nx9 : Int32, ∃ gv : Nat → Int32, (0 ≤ nx9.toInt ∧ nx9.toInt ≤ 1000) ∧ va_P D vwCl [(h0, .inr (4, [.ref tp, .int ct, .ref s2, .ref s3, .ref s4, .int nx9])), (tp, .inr (5, [.ref yb, .int n])), (yb, .inl (cI, 1000, .inl fy)), (s4, .inl (cI, 12, .inl gv))] t.heap ∧ va_D A [(h0, .inr (4, [.ref tp, .int ct, .ref s2, .ref s3, .ref s4, .int nx9])), (tp, .inr (5, [.ref yb, .int n])), (yb, .inl (cI, 1000, .inl fy)), (s4, .inl (cI, 12, .inl gv))]) A) ([.ref h0, .int i] : List Value).toArray s 0 0 A) (F0 m 5 ls []) := by
    intro N3
    induction N3 with
    | zero => intro nx1 H locs ls hi1 hm9 hP hD hS hl; exact absurd hm9 (Nat.not_lt_zero _)
    | succ N3 ih_N3 => 
      intro nx1 H locs ls hi1 hm9 hP hD hS hl
      refine lv_aload_n hx hb dX4_scanWord_5 rfl (lv_at hl 1 rfl) ?_
      refine va_get (D := D) (ci := 4) (v := .int nx1) (C := RX4) (T := TX4) (N := 6) hx hb hts iw_k_scanWord_4 hown hK hP 0 rfl rfl 5 (by decide) (hts (.fieldLink RX4 29 "FlightDesk$Scanner" "next" "I") (by decide +kernel)) (fun _ h9 => h9) rfl dX4_scanWord_6 ?_
      refine lv_aload_n hx hb dX4_scanWord_9 rfl (lv_at hl 1 rfl) ?_
      refine va_get (D := D) (ci := 4) (v := .ref tp) (C := RX4) (T := TX4) (N := 6) hx hb hts iw_k_scanWord_4 hown hK hP 0 rfl rfl 0 (by decide) (hts (.fieldLink RX4 21 "FlightDesk$Scanner" "tape" "LFlightDesk$Tape;") (by decide +kernel)) (fun _ h9 => h9) rfl dX4_scanWord_10 ?_
      refine va_get (D := D) (ci := 5) (v := .int n) (C := RX5) (T := TX5) (N := 2) hx hb hts iw_k_scanWord_5 hown hK hP 1 rfl rfl 1 (by decide) (hts (.fieldLink RX4 54 "FlightDesk$Tape" "length" "I") (by decide +kernel)) (fun _ h9 => h9) rfl dX4_scanWord_13 ?_
      refine lv_icmp_ge (tgt := 49) hx hb dX4_scanWord_16 (by decide) (fun c4 => ?_) (fun c4 => ?_)
      · have tc4 : n.toInt ≤ nx1.toInt := i32_le c4
        refine lv_aload_n hx hb dX4_scanWord_49 rfl (lv_at hl 1 rfl) ?_
        refine va_get (D := D) (ci := 4) (v := .ref s4) (C := RX4) (T := TX4) (N := 6) hx hb hts iw_k_scanWord_4 hown hK hP 0 rfl rfl 4 (by decide) (hts (.fieldLink RX4 18 "FlightDesk$Scanner" "value" "[I") (by decide +kernel)) (fun _ h9 => h9) rfl dX4_scanWord_50 ?_
        refine lv_iload_n hx hb dX4_scanWord_53 rfl (lv_at hl 2 rfl) ?_
        refine lv_aload_n hx hb dX4_scanWord_54 rfl (lv_at hl 1 rfl) ?_
        refine va_get (D := D) (ci := 4) (v := .int nx1) (C := RX4) (T := TX4) (N := 6) hx hb hts iw_k_scanWord_4 hown hK hP 0 rfl rfl 5 (by decide) (hts (.fieldLink RX4 29 "FlightDesk$Scanner" "next" "I") (by decide +kernel)) (fun _ h9 => h9) rfl dX4_scanWord_55 ?_
        refine lv_iload_n hx hb dX4_scanWord_58 rfl (lv_at hl 0 rfl) ?_
        refine lv_isub hx hb dX4_scanWord_59 ?_
        refine lv_topi (fun v5 ev5 => ?_)
        have tv5 : v5.toInt = (nx1.toInt - nx.toInt + 2147483648) % 4294967296 - 2147483648 := i32_sub ev5
        refine va_iast hx hb hK hP hD hS 3 0 rfl rfl (vp_in_iff.mpr ⟨show 0 ≤ i.toInt by omega, show i.toInt < ((12 : Nat) : Int) by omega⟩) dX4_scanWord_60 (fun H locs hP hD hS => ?_)
        have hP : va_P D vwCl [(h0, .inr (4, [.ref tp, .int ct, .ref s2, .ref s3, .ref s4, .int nx1])), (tp, .inr (5, [.ref yb, .int n])), (yb, .inl (cI, 1000, .inl fy)), (s4, .inl (cI, 12, .inl (upd fv i.toNatClampNeg v5)))] H := hP
        have hD : va_D A [(h0, .inr (4, [.ref tp, .int ct, .ref s2, .ref s3, .ref s4, .int nx1])), (tp, .inr (5, [.ref yb, .int n])), (yb, .inl (cI, 1000, .inl fy)), (s4, .inl (cI, 12, .inl (upd fv i.toNatClampNeg v5)))] := hD
        obtain ⟨f6, ef6⟩ : ∃ z : Nat → Int32, z = (upd fv i.toNatClampNeg v5) := ⟨_, rfl⟩
        rw [← ef6] at hP hD
        refine lv_aload_n hx hb dX4_scanWord_61 rfl (lv_at hl 1 rfl) ?_
        refine va_get (D := D) (ci := 4) (v := .ref s4) (C := RX4) (T := TX4) (N := 6) hx hb hts iw_k_scanWord_4 hown hK hP 0 rfl rfl 4 (by decide) (hts (.fieldLink RX4 18 "FlightDesk$Scanner" "value" "[I") (by decide +kernel)) (fun _ h9 => h9) rfl dX4_scanWord_62 ?_
        refine lv_iload_n hx hb dX4_scanWord_65 rfl (lv_at hl 2 rfl) ?_
        refine va_iald hx hb hK hP 3 0 rfl rfl (vp_in_iff.mpr ⟨show 0 ≤ i.toInt by omega, show i.toInt < ((12 : Nat) : Int) by omega⟩) dX4_scanWord_66 ?_
        refine lv_topi (fun v7 ev7 => ?_)
        refine lv_bipush (v := 8) hx hb dX4_scanWord_67 (by decide) ?_
        refine lv_icmp_gt (tgt := 76) hx hb dX4_scanWord_69 (by decide) (fun c8 => ?_) (fun c8 => ?_)
        · have tc8 : 8 < v7.toInt := i32_lt c8
          refine lv_iconst (v := 4) hx hb dX4_scanWord_76 (by decide) ?_
          have hP9 := hP.sub (ws' := [(h0, .inr (4, [.ref tp, .int ct, .ref s2, .ref s3, .ref s4, .int nx1])), (tp, .inr (5, [.ref yb, .int n])), (yb, .inl (cI, 1000, .inl fy)), (s4, .inl (cI, 12, .inl f6))]) [0, 1, 2, 3] rfl
          have hD9 := hD.sub (ws' := [(h0, .inr (4, [.ref tp, .int ct, .ref s2, .ref s3, .ref s4, .int nx1])), (tp, .inr (5, [.ref yb, .int n])), (yb, .inl (cI, 1000, .inl fy)), (s4, .inl (cI, 12, .inl f6))]) [0, 1, 2, 3] (by decide) rfl
          refine W.widen (k := 0) (n := 0) (by decide) (by decide) ?_
          exact W.iret (v := 4) hx hb hr (fun t ht hW => ⟨⟨4, (), rfl, (trivial), nx1, f6, (show 0 ≤ nx1.toInt ∧ nx1.toInt ≤ 1000 by first | assumption | omega | decide), by rw [ht]; exact hP9, hD9⟩, hS.F ht⟩) hS.2.2 dX4_scanWord_77
        · have tc8 : ¬ (8 < v7.toInt) := i32_nlt c8
          refine lv_iconst (v := 1) hx hb dX4_scanWord_72 (by decide) ?_
          refine lv_goto (tgt := 77) hx hb dX4_scanWord_73 (by decide) ?_
          have hP9 := hP.sub (ws' := [(h0, .inr (4, [.ref tp, .int ct, .ref s2, .ref s3, .ref s4, .int nx1])), (tp, .inr (5, [.ref yb, .int n])), (yb, .inl (cI, 1000, .inl fy)), (s4, .inl (cI, 12, .inl f6))]) [0, 1, 2, 3] rfl
          have hD9 := hD.sub (ws' := [(h0, .inr (4, [.ref tp, .int ct, .ref s2, .ref s3, .ref s4, .int nx1])), (tp, .inr (5, [.ref yb, .int n])), (yb, .inl (cI, 1000, .inl fy)), (s4, .inl (cI, 12, .inl f6))]) [0, 1, 2, 3] (by decide) rfl
          refine W.widen (k := 0) (n := 0) (by decide) (by decide) ?_
          exact W.iret (v := 1) hx hb hr (fun t ht hW => ⟨⟨1, (), rfl, (trivial), nx1, f6, (show 0 ≤ nx1.toInt ∧ nx1.toInt ≤ 1000 by first | assumption | omega | decide), by rw [ht]; exact hP9, hD9⟩, hS.F ht⟩) hS.2.2 dX4_scanWord_77
      · have tc4 : ¬ (n.toInt ≤ nx1.toInt) := i32_nle c4
        refine lv_aload_n hx hb dX4_scanWord_19 rfl (lv_at hl 1 rfl) ?_
        refine va_get (D := D) (ci := 4) (v := .ref tp) (C := RX4) (T := TX4) (N := 6) hx hb hts iw_k_scanWord_4 hown hK hP 0 rfl rfl 0 (by decide) (hts (.fieldLink RX4 21 "FlightDesk$Scanner" "tape" "LFlightDesk$Tape;") (by decide +kernel)) (fun _ h9 => h9) rfl dX4_scanWord_20 ?_
        refine lv_aload_n hx hb dX4_scanWord_23 rfl (lv_at hl 1 rfl) ?_
        refine va_get (D := D) (ci := 4) (v := .int nx1) (C := RX4) (T := TX4) (N := 6) hx hb hts iw_k_scanWord_4 hown hK hP 0 rfl rfl 5 (by decide) (hts (.fieldLink RX4 29 "FlightDesk$Scanner" "next" "I") (by decide +kernel)) (fun _ h9 => h9) rfl dX4_scanWord_24 ?_
        have hPc := hP.sub (ws' := [(tp, .inr (5, [.ref yb, .int n])), (yb, .inl (cI, 1000, .inl fy))]) [1, 2] rfl
        have hDc := hD.sub (ws' := [(tp, .inr (5, [.ref yb, .int n])), (yb, .inl (cI, 1000, .inl fy))]) [1, 2] (by decide) rfl
        have hFc := va_free (wc := [(tp, .inr (5, [.ref yb, .int n])), (yb, .inl (cI, 1000, .inl fy))]) hD hS hA [1, 2] rfl
        refine va_calli (va_runV (As := [.int nx1]) (rest := []) ⟨hx, hb, hml, hown, hts⟩ (k_byteAt l D cI cB cP H.size tp yb n nx1 fy (show 0 ≤ n.toInt ∧ n.toInt ≤ 1000 by first | assumption | omega | decide)) (cwV 1 hts gw_k_scanWord_0 rfl rfl rfl (by decide +kernel) ⟨Nat.le_of_ble_eq_true rfl, Nat.le_of_ble_eq_true rfl⟩) ⟨ny_blind, va_recv hK hPc (ci := 5) (q0 := 0) rfl rfl, ny_pre hPc hK hN hDc⟩ rfl rfl hl.1 rfl (lv_room (Nat.le_of_ble_eq_true rfl)) dX4_scanWord_27 ⟨Nat.le_of_ble_eq_true rfl, Nat.le_of_ble_eq_true rfl⟩) hS (fun q _ h => hFc q h) hFc (fun r9 u t H locs ht hvm hw hB hz1 hk1 hS => ?_)
        obtain ⟨hP1, hD1⟩ := hB
        rw [ht] at hP1
        obtain ⟨hP, hD⟩ := va_join (wr := [(h0, .inr (4, [.ref tp, .int ct, .ref s2, .ref s3, .ref s4, .int nx1])), (s4, .inl (cI, 12, .inl fv))]) (w1 := [(tp, .inr (5, [.ref yb, .int n])), (yb, .inl (cI, 1000, .inl fy))]) hP hD [1, 2] [0, 3] rfl rfl (by decide) (by decide) hk1 hFc hP1 hD1
        have hP : va_P D vwCl [(h0, .inr (4, [.ref tp, .int ct, .ref s2, .ref s3, .ref s4, .int nx1])), (s4, .inl (cI, 12, .inl fv)), (tp, .inr (5, [.ref yb, .int n])), (yb, .inl (cI, 1000, .inl fy))] H := hP
        have hD : va_D A [(h0, .inr (4, [.ref tp, .int ct, .ref s2, .ref s3, .ref s4, .int nx1])), (s4, .inl (cI, 12, .inl fv)), (tp, .inr (5, [.ref yb, .int n])), (yb, .inl (cI, 1000, .inl fy))] := hD
        have hr9 : ¬ r9.toInt = (-1) → 0 ≤ nx1.toInt ∧ nx1.toInt < n.toInt := hw
        have hPc := hP.sub (ws' := []) [] rfl
        have hDc := hD.sub (ws' := []) [] (by decide) rfl
        have hFc := va_free (wc := []) hD hS hA [] rfl
        refine va_calli (va_runS (As := [.int r9]) (rest := []) ⟨hx, hb, hml, hown, hts⟩ (k_isLetter l D cI cB cP H.size r9) (cwS 1 hts gw_k_scanWord_1 rfl rfl rfl (by decide +kernel) ⟨Nat.le_of_ble_eq_true rfl, Nat.le_of_ble_eq_true rfl⟩) ⟨ny_blind, ny_pre hPc hK hN hDc⟩ rfl rfl hl.1 rfl (lv_room (Nat.le_of_ble_eq_true rfl)) dX4_scanWord_30 ⟨Nat.le_of_ble_eq_true rfl, Nat.le_of_ble_eq_true rfl⟩) hS (fun q _ h => hFc q h) hFc (fun r10 u t H locs ht hvm hw hB hz1 hk1 hS => ?_)
        obtain ⟨hP, hD⟩ := va_join (wr := [(h0, .inr (4, [.ref tp, .int ct, .ref s2, .ref s3, .ref s4, .int nx1])), (s4, .inl (cI, 12, .inl fv)), (tp, .inr (5, [.ref yb, .int n])), (yb, .inl (cI, 1000, .inl fy))]) (w1 := []) hP hD [] [0, 1, 2, 3] rfl rfl (by decide) (by decide) hk1 hFc ny_P0 ny_D0
        have hP : va_P D vwCl [(h0, .inr (4, [.ref tp, .int ct, .ref s2, .ref s3, .ref s4, .int nx1])), (s4, .inl (cI, 12, .inl fv)), (tp, .inr (5, [.ref yb, .int n])), (yb, .inl (cI, 1000, .inl fy))] H := hP
        have hD : va_D A [(h0, .inr (4, [.ref tp, .int ct, .ref s2, .ref s3, .ref s4, .int nx1])), (s4, .inl (cI, 12, .inl fv)), (tp, .inr (5, [.ref yb, .int n])), (yb, .inl (cI, 1000, .inl fy))] := hD
        have hr10 : 0 ≤ r10.toInt := hw
        refine lv_if_eq (tgt := 49) hx hb dX4_scanWord_33 (by decide) (fun c11 => ?_) (fun c11 => ?_)
        · have tc11 : r10.toInt = 0 := i32_eq c11
          refine lv_aload_n hx hb dX4_scanWord_49 rfl (lv_at hl 1 rfl) ?_
          refine va_get (D := D) (ci := 4) (v := .ref s4) (C := RX4) (T := TX4) (N := 6) hx hb hts iw_k_scanWord_4 hown hK hP 0 rfl rfl 4 (by decide) (hts (.fieldLink RX4 18 "FlightDesk$Scanner" "value" "[I") (by decide +kernel)) (fun _ h9 => h9) rfl dX4_scanWord_50 ?_
          refine lv_iload_n hx hb dX4_scanWord_53 rfl (lv_at hl 2 rfl) ?_
          refine lv_aload_n hx hb dX4_scanWord_54 rfl (lv_at hl 1 rfl) ?_
          refine va_get (D := D) (ci := 4) (v := .int nx1) (C := RX4) (T := TX4) (N := 6) hx hb hts iw_k_scanWord_4 hown hK hP 0 rfl rfl 5 (by decide) (hts (.fieldLink RX4 29 "FlightDesk$Scanner" "next" "I") (by decide +kernel)) (fun _ h9 => h9) rfl dX4_scanWord_55 ?_
          refine lv_iload_n hx hb dX4_scanWord_58 rfl (lv_at hl 0 rfl) ?_
          refine lv_isub hx hb dX4_scanWord_59 ?_
          refine lv_topi (fun v12 ev12 => ?_)
          have tv12 : v12.toInt = (nx1.toInt - nx.toInt + 2147483648) % 4294967296 - 2147483648 := i32_sub ev12
          refine va_iast hx hb hK hP hD hS 1 0 rfl rfl (vp_in_iff.mpr ⟨show 0 ≤ i.toInt by omega, show i.toInt < ((12 : Nat) : Int) by omega⟩) dX4_scanWord_60 (fun H locs hP hD hS => ?_)
          have hP : va_P D vwCl [(h0, .inr (4, [.ref tp, .int ct, .ref s2, .ref s3, .ref s4, .int nx1])), (s4, .inl (cI, 12, .inl (upd fv i.toNatClampNeg v12))), (tp, .inr (5, [.ref yb, .int n])), (yb, .inl (cI, 1000, .inl fy))] H := hP
          have hD : va_D A [(h0, .inr (4, [.ref tp, .int ct, .ref s2, .ref s3, .ref s4, .int nx1])), (s4, .inl (cI, 12, .inl (upd fv i.toNatClampNeg v12))), (tp, .inr (5, [.ref yb, .int n])), (yb, .inl (cI, 1000, .inl fy))] := hD
          obtain ⟨f13, ef13⟩ : ∃ z : Nat → Int32, z = (upd fv i.toNatClampNeg v12) := ⟨_, rfl⟩
          rw [← ef13] at hP hD
          refine lv_aload_n hx hb dX4_scanWord_61 rfl (lv_at hl 1 rfl) ?_
          refine va_get (D := D) (ci := 4) (v := .ref s4) (C := RX4) (T := TX4) (N := 6) hx hb hts iw_k_scanWord_4 hown hK hP 0 rfl rfl 4 (by decide) (hts (.fieldLink RX4 18 "FlightDesk$Scanner" "value" "[I") (by decide +kernel)) (fun _ h9 => h9) rfl dX4_scanWord_62 ?_
          refine lv_iload_n hx hb dX4_scanWord_65 rfl (lv_at hl 2 rfl) ?_
          refine va_iald hx hb hK hP 1 0 rfl rfl (vp_in_iff.mpr ⟨show 0 ≤ i.toInt by omega, show i.toInt < ((12 : Nat) : Int) by omega⟩) dX4_scanWord_66 ?_
          refine lv_topi (fun v14 ev14 => ?_)
          refine lv_bipush (v := 8) hx hb dX4_scanWord_67 (by decide) ?_
          refine lv_icmp_gt (tgt := 76) hx hb dX4_scanWord_69 (by decide) (fun c15 => ?_) (fun c15 => ?_)
          · have tc15 : 8 < v14.toInt := i32_lt c15
            refine lv_iconst (v := 4) hx hb dX4_scanWord_76 (by decide) ?_
            have hP9 := hP.sub (ws' := [(h0, .inr (4, [.ref tp, .int ct, .ref s2, .ref s3, .ref s4, .int nx1])), (tp, .inr (5, [.ref yb, .int n])), (yb, .inl (cI, 1000, .inl fy)), (s4, .inl (cI, 12, .inl f13))]) [0, 2, 3, 1] rfl
            have hD9 := hD.sub (ws' := [(h0, .inr (4, [.ref tp, .int ct, .ref s2, .ref s3, .ref s4, .int nx1])), (tp, .inr (5, [.ref yb, .int n])), (yb, .inl (cI, 1000, .inl fy)), (s4, .inl (cI, 12, .inl f13))]) [0, 2, 3, 1] (by decide) rfl
            refine W.widen (k := 0) (n := 0) (by decide) (by decide) ?_
            exact W.iret (v := 4) hx hb hr (fun t ht hW => ⟨⟨4, (), rfl, (trivial), nx1, f13, (show 0 ≤ nx1.toInt ∧ nx1.toInt ≤ 1000 by first | assumption | omega | decide), by rw [ht]; exact hP9, hD9⟩, hS.F ht⟩) hS.2.2 dX4_scanWord_77
          · have tc15 : ¬ (8 < v14.toInt) := i32_nlt c15
            refine lv_iconst (v := 1) hx hb dX4_scanWord_72 (by decide) ?_
            refine lv_goto (tgt := 77) hx hb dX4_scanWord_73 (by decide) ?_
            have hP9 := hP.sub (ws' := [(h0, .inr (4, [.ref tp, .int ct, .ref s2, .ref s3, .ref s4, .int nx1])), (tp, .inr (5, [.ref yb, .int n])), (yb, .inl (cI, 1000, .inl fy)), (s4, .inl (cI, 12, .inl f13))]) [0, 2, 3, 1] rfl
            have hD9 := hD.sub (ws' := [(h0, .inr (4, [.ref tp, .int ct, .ref s2, .ref s3, .ref s4, .int nx1])), (tp, .inr (5, [.ref yb, .int n])), (yb, .inl (cI, 1000, .inl fy)), (s4, .inl (cI, 12, .inl f13))]) [0, 2, 3, 1] (by decide) rfl
            refine W.widen (k := 0) (n := 0) (by decide) (by decide) ?_
            exact W.iret (v := 1) hx hb hr (fun t ht hW => ⟨⟨1, (), rfl, (trivial), nx1, f13, (show 0 ≤ nx1.toInt ∧ nx1.toInt ≤ 1000 by first | assumption | omega | decide), by rw [ht]; exact hP9, hD9⟩, hS.F ht⟩) hS.2.2 dX4_scanWord_77
        · have tc11 : ¬ (r10.toInt = 0) := i32_neq c11
          refine lv_aload_n hx hb dX4_scanWord_36 rfl (lv_at hl 1 rfl) ?_
          refine lv_dup hx hb dX4_scanWord_37 rfl ?_
          refine va_get (D := D) (ci := 4) (v := .int nx1) (C := RX4) (T := TX4) (N := 6) hx hb hts iw_k_scanWord_4 hown hK hP 0 rfl rfl 5 (by decide) (hts (.fieldLink RX4 29 "FlightDesk$Scanner" "next" "I") (by decide +kernel)) (fun _ h9 => h9) rfl dX4_scanWord_38 ?_
          refine lv_iconst (v := 1) hx hb dX4_scanWord_41 (by decide) ?_
          refine lv_iadd hx hb dX4_scanWord_42 ?_
          refine lv_topi (fun v16 ev16 => ?_)
          have tv16 : v16.toInt = (nx1.toInt + 1 + 2147483648) % 4294967296 - 2147483648 := i32_add ev16
          refine va_put (D := D) (ci := 4) (v := .int v16) (ty := .int) (C := RX4) (T := TX4) (N := 6) hx hb hts iw_k_scanWord_4 tyX4 tyX4_ok nmX4 hown hK hP hD hS 0 rfl rfl 5 (by decide) (hts (.fieldLink RX4 29 "FlightDesk$Scanner" "next" "I") (by decide +kernel)) (fun _ h9 => h9) rfl (by decide +kernel) rfl rfl (Nat.le_of_ble_eq_true rfl) dX4_scanWord_43 (fun H locs hP hD hS => ?_)
          have hP : va_P D vwCl [(h0, .inr (4, [.ref tp, .int ct, .ref s2, .ref s3, .ref s4, .int v16])), (s4, .inl (cI, 12, .inl fv)), (tp, .inr (5, [.ref yb, .int n])), (yb, .inl (cI, 1000, .inl fy))] H := hP
          have hD : va_D A [(h0, .inr (4, [.ref tp, .int ct, .ref s2, .ref s3, .ref s4, .int v16])), (s4, .inl (cI, 12, .inl fv)), (tp, .inr (5, [.ref yb, .int n])), (yb, .inl (cI, 1000, .inl fy))] := hD
          refine lv_goto (tgt := 5) hx hb dX4_scanWord_46 (by decide) ?_
          exact ih_N3 v16 _ _ _ (show 0 ≤ v16.toInt ∧ v16.toInt ≤ 1000 by first | assumption | omega | decide) (by omega) (hP.sub [0, 2, 3, 1] rfl) (hD.sub [0, 2, 3, 1] (by decide) rfl) hS (lv_sub hl [0, 1, 2] rfl)
  exact loop2 _ nx _ _ _ (show 0 ≤ nx.toInt ∧ nx.toInt ≤ 1000 by first | assumption | omega | decide) (Nat.lt_succ_self _) (hP.sub [0, 1, 2, 3] rfl) (hD.sub [0, 1, 2, 3] (by decide) rfl) hS (lv_sub hl [0, 1, 2] rfl)

def wk_k_scanNumber : List Cond := .code yX4_scanNumber cX4_scanNumber 7 (some .int) :: ([.fieldLink RX4 29 "FlightDesk$Scanner" "next" "I", .fieldLink RX4 21 "FlightDesk$Scanner" "tape" "LFlightDesk$Tape;", .fieldLink RX4 54 "FlightDesk$Tape" "length" "I", .fieldLink RX4 18 "FlightDesk$Scanner" "value" "[I", .methodLink RX4 45 yX5_byteAt, .instanceMethod yX5_byteAt, .selects RX5 yX5_byteAt yX5_byteAt, .initialized RX5, .code yX5_byteAt cX5_byteAt 2 (some .int), .fieldLink RX5 15 "FlightDesk$Tape" "length" "I", .fieldLink RX5 9 "FlightDesk$Tape" "bytes" "[I", .methodLink RX4 60 yX4_isLetter, .static yX4_isLetter, .initialized RX4, .code yX4_isLetter cX4_isLetter 1 (some .boolean), .methodLink RX4 66 yX4_isDigit, .static yX4_isDigit, .code yX4_isDigit cX4_isDigit 1 (some .boolean)] ++ wsX40 ++ wsX50)
theorem iw_k_scanNumber_4 : ∀ w ∈ wsX40, w ∈ wk_k_scanNumber := fun _ h => List.mem_cons_of_mem _ (List.mem_append_left _ (List.mem_append_right _ h))
theorem iw_k_scanNumber_5 : ∀ w ∈ wsX50, w ∈ wk_k_scanNumber := fun _ h => List.mem_cons_of_mem _ (List.mem_append_right _ h)
set_option maxRecDepth 20000 in
theorem gw_k_scanNumber_0 : GoodIn wk_k_scanNumber (wsV RX4 45 RX5 yX5_byteAt wk_k_byteAt) := goodIn_sub (by decide +kernel) (by decide +kernel)
set_option maxRecDepth 20000 in
theorem gw_k_scanNumber_1 : GoodIn wk_k_scanNumber (wsS RX4 60 yX4_isLetter wk_k_isLetter) := goodIn_sub (by decide +kernel) (by decide +kernel)
set_option maxRecDepth 20000 in
theorem gw_k_scanNumber_2 : GoodIn wk_k_scanNumber (wsS RX4 66 yX4_isDigit wk_k_isDigit) := goodIn_sub (by decide +kernel) (by decide +kernel)
set_option maxHeartbeats 4000000 in
set_option maxRecDepth 100000 in
theorem k_scanNumber (l : Launch) (D : va_G) (cI cB cP : ClassId) (sz : Nat) (h0 : Nat) (tp : Nat) (s2 : Nat) (s3 : Nat) (s4 : Nat) (yb : Nat) (ct : Int32) (nx : Int32) (n : Int32) (i : Int32) (z : Int32) (fy : Nat → Int32) (fv : Nat → Int32) (hn9 : 0 ≤ n.toInt ∧ n.toInt ≤ 1000) (hx9 : 0 ≤ nx.toInt ∧ nx.toInt ≤ 1000) (hi9 : 0 ≤ i.toInt ∧ i.toInt ≤ 11) (hl9 : nx.toInt < n.toInt) : Met l yX4_scanNumber wk_k_scanNumber ({ frames := 1, cells := 0, slots := 0, locals := 21 } : Room) (va_Pc [.ref h0, .int i, .int z] (Pw D cI cB cP sz [(h0, .inr (4, [.ref tp, .int ct, .ref s2, .ref s3, .ref s4, .int nx])), (tp, .inr (5, [.ref yb, .int n])), (yb, .inl (cI, 1000, .inl fy)), (s4, .inl (cI, 12, .inl fv))])) (va_Qi (fun (r : Int32) (_ : Unit) => True) (fun _ t => ∃ nx9 : Int32, ∃ gv : Nat → Int32, (0 ≤ nx9.toInt ∧ nx9.toInt ≤ 1000) ∧ va_P D vwCl [(h0, .inr (4, [.ref tp, .int ct, .ref s2, .ref s3, .ref s4, .int nx9])), (tp, .inr (5, [.ref yb, .int n])), (yb, .inl (cI, 1000, .inl fy)), (s4, .inl (cI, 12, .inl gv))] t.heap ∧ va_D (va_A [(h0, .inr (4, [.ref tp, .int ct, .ref s2, .ref s3, .ref s4, .int nx])), (tp, .inr (5, [.ref yb, .int n])), (yb, .inl (cI, 1000, .inl fy)), (s4, .inl (cI, 12, .inl fv))] sz) [(h0, .inr (4, [.ref tp, .int ct, .ref s2, .ref s3, .ref s4, .int nx9])), (tp, .inr (5, [.ref yb, .int n])), (yb, .inl (cI, 1000, .inl fy)), (s4, .inl (cI, 12, .inl gv))]) (va_A [(h0, .inr (4, [.ref tp, .int ct, .ref s2, .ref s3, .ref s4, .int nx])), (tp, .inr (5, [.ref yb, .int n])), (yb, .inl (cI, 1000, .inl fy)), (s4, .inl (cI, 12, .inl fv))] sz)) 0 0 (va_A [(h0, .inr (4, [.ref tp, .int ct, .ref s2, .ref s3, .ref s4, .int nx])), (tp, .inr (5, [.ref yb, .int n])), (yb, .inl (cI, 1000, .inl fy)), (s4, .inl (cI, 12, .inl fv))] sz) := by
  refine Met.ofW (cc := cX4_scanNumber) (maxL := 7) (ret := (some .int)) (by decide) rfl ?_
  intro p e s m args below meth c s₁ B hml hv
  obtain ⟨rfl, hsz, hP, ⟨hK, hN⟩, hD0⟩ := hv
  have hx := B.exec
  have hb := B.bytes
  have hr := B.returns
  have hts := atoms_spec (ws := wk_k_scanNumber) B.pre
  have hown : s.vm.findClass RX4 = some m.cls := findClass_of_methodNamed B.named
  have hlocks := B.notSynchronized
  subst hsz
  have hD := hD0.self (sz := s.heap.size)
  generalize hAe : va_A [(h0, .inr (4, [.ref tp, .int ct, .ref s2, .ref s3, .ref s4, .int nx])), (tp, .inr (5, [.ref yb, .int n])), (yb, .inl (cI, 1000, .inl fy)), (s4, .inl (cI, 12, .inl fv))] s.heap.size = A at hD ⊢
  have hA : ∀ q : Nat, s.heap.size ≤ q → A q := fun q h => by rw [← hAe]; exact Or.inr h
  have hS : va_S A s.heap s.heap [] := va_S.rf
  have hP : va_P D vwCl [(h0, .inr (4, [.ref tp, .int ct, .ref s2, .ref s3, .ref s4, .int nx])), (tp, .inr (5, [.ref yb, .int n])), (yb, .inl (cI, 1000, .inl fy)), (s4, .inl (cI, 12, .inl fv))] s.heap := hP
  have hl := lv_entry ([.ref h0, .int i, .int z]) (n := 7) (Nat.le_of_ble_eq_true rfl)
  rw [lg_entry_eq]
  generalize (lg_sl ([.ref h0, .int i, .int z]) ++ List.replicate (7 - (lg_sl ([.ref h0, .int i, .int z])).length) Slot.unset).toArray = ls at hl ⊢
  have hl : lv_has ls 7 [(0, .ref h0), (1, .int i), (2, .int z)] := hl
  refine lv_iload_n hx hb dX4_scanNumber_0 rfl (lv_at hl 2 rfl) ?_
  refine lv_if_eq (tgt := 14) hx hb dX4_scanNumber_1 (by decide) (fun c1 => ?_) (fun c1 => ?_)
  · have tc1 : z.toInt = 0 := i32_eq c1
    refine lv_aload_n hx hb dX4_scanNumber_14 rfl (lv_at hl 0 rfl) ?_
    refine va_get (D := D) (ci := 4) (v := .int nx) (C := RX4) (T := TX4) (N := 6) hx hb hts iw_k_scanNumber_4 hown hK hP 0 rfl rfl 5 (by decide) (hts (.fieldLink RX4 29 "FlightDesk$Scanner" "next" "I") (by decide +kernel)) (fun _ h9 => h9) rfl dX4_scanNumber_15 ?_
    refine lv_istore_n (lv' := [(3, .int nx), (0, .ref h0), (1, .int i), (2, .int z)]) hx hb dX4_scanNumber_18 rfl hl (by decide) rfl (fun ls hl => ?_)
    refine lv_iconst (v := 0) hx hb dX4_scanNumber_19 (by decide) ?_
    refine lv_istore (lv' := [(4, .int 0), (3, .int nx), (0, .ref h0), (1, .int i), (2, .int z)]) hx hb dX4_scanNumber_20 hl (by decide) rfl (fun ls hl => ?_)
    have loop3 : ∀ (N4 : Nat) (sz1 : Int32) (nx1 : Int32) (H : Heap) (locs : List Loc) (ls : Array Slot), (0 ≤ nx1.toInt ∧ nx1.toInt ≤ 1000) → (1000 - nx1.toInt).toNat < N4 → va_P D vwCl [(h0, .inr (4, [.ref tp, .int ct, .ref s2, .ref s3, .ref s4, .int nx1])), (tp, .inr (5, [.ref yb, .int n])), (yb, .inl (cI, 1000, .inl fy)), (s4, .inl (cI, 12, .inl fv))] H → va_D A [(h0, .inr (4, [.ref tp, .int ct, .ref s2, .ref s3, .ref s4, .int nx1])), (tp, .inr (5, [.ref yb, .int n])), (yb, .inl (cI, 1000, .inl fy)), (s4, .inl (cI, 12, .inl fv))] → va_S A s.heap H locs → lv_has ls 7 [(4, .int sz1), (3, .int nx), (0, .ref h0), (1, .int i), (2, .int z)] → W p l e ({ frames := 1, cells := 0, slots := 0, locals := 21 } : Room) s m ([.ref h0, .int i, .int z] : List Value).toArray below meth c H locs 0 0 (MQ below (va_Qi (fun (r : Int32) (_ : Unit) => True) (fun _ t => ∃ nx9 : Int32, ∃ gv : Nat → Int32, (0 ≤ nx9.toInt ∧ nx9.toInt ≤ 1000) ∧ va_P D vwCl [(h0, .inr (4, [.ref tp, .int ct, .ref s2, .ref s3, .ref s4, .int nx9])), (tp, .inr (5, [.ref yb, .int n])), (yb, .inl (cI, 1000, .inl fy)), (s4, .inl (cI, 12, .inl gv))] t.heap ∧ va_D A [(h0, .inr (4, [.ref tp, .int ct, .ref s2, .ref s3, .ref s4, .int nx9])), (tp, .inr (5, [.ref yb, .int n])), (yb, .inl (cI, 1000, .inl fy)), (s4, .inl (cI, 12, .inl gv))]) A) ([.ref h0, .int i, .int z] : List Value).toArray s 0 0 A) (F0 m 22 ls []) := by
      intro N4
      induction N4 with
      | zero => intro sz1 nx1 H locs ls hi2 hm9 hP hD hS hl; exact absurd hm9 (Nat.not_lt_zero _)
      | succ N4 ih_N4 => 
        intro sz1 nx1 H locs ls hi2 hm9 hP hD hS hl
        refine lv_aload_n hx hb dX4_scanNumber_22 rfl (lv_at hl 2 rfl) ?_
        refine va_get (D := D) (ci := 4) (v := .int nx1) (C := RX4) (T := TX4) (N := 6) hx hb hts iw_k_scanNumber_4 hown hK hP 0 rfl rfl 5 (by decide) (hts (.fieldLink RX4 29 "FlightDesk$Scanner" "next" "I") (by decide +kernel)) (fun _ h9 => h9) rfl dX4_scanNumber_23 ?_
        refine lv_aload_n hx hb dX4_scanNumber_26 rfl (lv_at hl 2 rfl) ?_
        refine va_get (D := D) (ci := 4) (v := .ref tp) (C := RX4) (T := TX4) (N := 6) hx hb hts iw_k_scanNumber_4 hown hK hP 0 rfl rfl 0 (by decide) (hts (.fieldLink RX4 21 "FlightDesk$Scanner" "tape" "LFlightDesk$Tape;") (by decide +kernel)) (fun _ h9 => h9) rfl dX4_scanNumber_27 ?_
        refine va_get (D := D) (ci := 5) (v := .int n) (C := RX5) (T := TX5) (N := 2) hx hb hts iw_k_scanNumber_5 hown hK hP 1 rfl rfl 1 (by decide) (hts (.fieldLink RX4 54 "FlightDesk$Tape" "length" "I") (by decide +kernel)) (fun _ h9 => h9) rfl dX4_scanNumber_30 ?_
        refine lv_icmp_ge (tgt := 98) hx hb dX4_scanNumber_33 (by decide) (fun c5 => ?_) (fun c5 => ?_)
        · have tc5 : n.toInt ≤ nx1.toInt := i32_le c5
          refine lv_aload_n hx hb dX4_scanNumber_98 rfl (lv_at hl 2 rfl) ?_
          refine va_get (D := D) (ci := 4) (v := .ref s4) (C := RX4) (T := TX4) (N := 6) hx hb hts iw_k_scanNumber_4 hown hK hP 0 rfl rfl 4 (by decide) (hts (.fieldLink RX4 18 "FlightDesk$Scanner" "value" "[I") (by decide +kernel)) (fun _ h9 => h9) rfl dX4_scanNumber_99 ?_
          refine lv_iload_n hx hb dX4_scanNumber_102 rfl (lv_at hl 3 rfl) ?_
          refine lv_iload_n hx hb dX4_scanNumber_103 rfl (lv_at hl 4 rfl) ?_
          refine lv_if_eq (tgt := 113) hx hb dX4_scanNumber_104 (by decide) (fun c6 => ?_) (fun c6 => ?_)
          · have tc6 : z.toInt = 0 := i32_eq c6
            refine lv_iload hx hb dX4_scanNumber_113 (lv_at hl 0 rfl) ?_
            refine va_iast hx hb hK hP hD hS 3 0 rfl rfl (vp_in_iff.mpr ⟨show 0 ≤ i.toInt by omega, show i.toInt < ((12 : Nat) : Int) by omega⟩) dX4_scanNumber_115 (fun H locs hP hD hS => ?_)
            have hP : va_P D vwCl [(h0, .inr (4, [.ref tp, .int ct, .ref s2, .ref s3, .ref s4, .int nx1])), (tp, .inr (5, [.ref yb, .int n])), (yb, .inl (cI, 1000, .inl fy)), (s4, .inl (cI, 12, .inl (upd fv i.toNatClampNeg sz1)))] H := hP
            have hD : va_D A [(h0, .inr (4, [.ref tp, .int ct, .ref s2, .ref s3, .ref s4, .int nx1])), (tp, .inr (5, [.ref yb, .int n])), (yb, .inl (cI, 1000, .inl fy)), (s4, .inl (cI, 12, .inl (upd fv i.toNatClampNeg sz1)))] := hD
            obtain ⟨f7, ef7⟩ : ∃ z : Nat → Int32, z = (upd fv i.toNatClampNeg sz1) := ⟨_, rfl⟩
            rw [← ef7] at hP hD
            refine lv_aload_n hx hb dX4_scanNumber_116 rfl (lv_at hl 2 rfl) ?_
            refine va_get (D := D) (ci := 4) (v := .int nx1) (C := RX4) (T := TX4) (N := 6) hx hb hts iw_k_scanNumber_4 hown hK hP 0 rfl rfl 5 (by decide) (hts (.fieldLink RX4 29 "FlightDesk$Scanner" "next" "I") (by decide +kernel)) (fun _ h9 => h9) rfl dX4_scanNumber_117 ?_
            refine lv_iload_n hx hb dX4_scanNumber_120 rfl (lv_at hl 1 rfl) ?_
            refine lv_isub hx hb dX4_scanNumber_121 ?_
            refine lv_topi (fun v8 ev8 => ?_)
            have tv8 : v8.toInt = (nx1.toInt - nx.toInt + 2147483648) % 4294967296 - 2147483648 := i32_sub ev8
            refine lv_istore (lv' := [(5, .int v8), (4, .int sz1), (3, .int nx), (0, .ref h0), (1, .int i), (2, .int z)]) hx hb dX4_scanNumber_122 hl (by decide) rfl (fun ls hl => ?_)
            refine lv_iload hx hb dX4_scanNumber_124 (lv_at hl 0 rfl) ?_
            refine lv_iconst (v := 1) hx hb dX4_scanNumber_126 (by decide) ?_
            refine lv_icmp_lt (tgt := 157) hx hb dX4_scanNumber_127 (by decide) (fun c9 => ?_) (fun c9 => ?_)
            · have tc9 : v8.toInt < 1 := i32_lt c9
              refine lv_iconst (v := 0) hx hb dX4_scanNumber_157 (by decide) ?_
              refine lv_istore (lv' := [(6, .int 0), (5, .int v8), (4, .int sz1), (3, .int nx), (0, .ref h0), (1, .int i), (2, .int z)]) hx hb dX4_scanNumber_158 hl (by decide) rfl (fun ls hl => ?_)
              refine lv_iload hx hb dX4_scanNumber_160 (lv_at hl 0 rfl) ?_
              refine lv_if_eq (tgt := 169) hx hb dX4_scanNumber_162 (by decide) (fun c10 => ?_) (fun h9 => (by first | exact absurd h9 (by decide) | exact absurd (by decide) h9))
              refine lv_iconst (v := 4) hx hb dX4_scanNumber_169 (by decide) ?_
              have hP9 := hP.sub (ws' := [(h0, .inr (4, [.ref tp, .int ct, .ref s2, .ref s3, .ref s4, .int nx1])), (tp, .inr (5, [.ref yb, .int n])), (yb, .inl (cI, 1000, .inl fy)), (s4, .inl (cI, 12, .inl f7))]) [0, 1, 2, 3] rfl
              have hD9 := hD.sub (ws' := [(h0, .inr (4, [.ref tp, .int ct, .ref s2, .ref s3, .ref s4, .int nx1])), (tp, .inr (5, [.ref yb, .int n])), (yb, .inl (cI, 1000, .inl fy)), (s4, .inl (cI, 12, .inl f7))]) [0, 1, 2, 3] (by decide) rfl
              refine W.widen (k := 0) (n := 0) (by decide) (by decide) ?_
              exact W.iret (v := 4) hx hb hr (fun t ht hW => ⟨⟨4, (), rfl, (trivial), nx1, f7, (show 0 ≤ nx1.toInt ∧ nx1.toInt ≤ 1000 by first | assumption | omega | decide), by rw [ht]; exact hP9, hD9⟩, hS.F ht⟩) hS.2.2 dX4_scanNumber_170
            · have tc9 : ¬ (v8.toInt < 1) := i32_nlt c9
              refine lv_iload hx hb dX4_scanNumber_130 (lv_at hl 0 rfl) ?_
              refine lv_iconst (v := 5) hx hb dX4_scanNumber_132 (by decide) ?_
              refine lv_icmp_gt (tgt := 157) hx hb dX4_scanNumber_133 (by decide) (fun c11 => ?_) (fun c11 => ?_)
              · have tc11 : 5 < v8.toInt := i32_lt c11
                refine lv_iconst (v := 0) hx hb dX4_scanNumber_157 (by decide) ?_
                refine lv_istore (lv' := [(6, .int 0), (5, .int v8), (4, .int sz1), (3, .int nx), (0, .ref h0), (1, .int i), (2, .int z)]) hx hb dX4_scanNumber_158 hl (by decide) rfl (fun ls hl => ?_)
                refine lv_iload hx hb dX4_scanNumber_160 (lv_at hl 0 rfl) ?_
                refine lv_if_eq (tgt := 169) hx hb dX4_scanNumber_162 (by decide) (fun c12 => ?_) (fun h9 => (by first | exact absurd h9 (by decide) | exact absurd (by decide) h9))
                refine lv_iconst (v := 4) hx hb dX4_scanNumber_169 (by decide) ?_
                have hP9 := hP.sub (ws' := [(h0, .inr (4, [.ref tp, .int ct, .ref s2, .ref s3, .ref s4, .int nx1])), (tp, .inr (5, [.ref yb, .int n])), (yb, .inl (cI, 1000, .inl fy)), (s4, .inl (cI, 12, .inl f7))]) [0, 1, 2, 3] rfl
                have hD9 := hD.sub (ws' := [(h0, .inr (4, [.ref tp, .int ct, .ref s2, .ref s3, .ref s4, .int nx1])), (tp, .inr (5, [.ref yb, .int n])), (yb, .inl (cI, 1000, .inl fy)), (s4, .inl (cI, 12, .inl f7))]) [0, 1, 2, 3] (by decide) rfl
                refine W.widen (k := 0) (n := 0) (by decide) (by decide) ?_
                exact W.iret (v := 4) hx hb hr (fun t ht hW => ⟨⟨4, (), rfl, (trivial), nx1, f7, (show 0 ≤ nx1.toInt ∧ nx1.toInt ≤ 1000 by first | assumption | omega | decide), by rw [ht]; exact hP9, hD9⟩, hS.F ht⟩) hS.2.2 dX4_scanNumber_170
              · have tc11 : ¬ (5 < v8.toInt) := i32_nlt c11
                refine lv_aload_n hx hb dX4_scanNumber_136 rfl (lv_at hl 3 rfl) ?_
                refine va_get (D := D) (ci := 4) (v := .ref tp) (C := RX4) (T := TX4) (N := 6) hx hb hts iw_k_scanNumber_4 hown hK hP 0 rfl rfl 0 (by decide) (hts (.fieldLink RX4 21 "FlightDesk$Scanner" "tape" "LFlightDesk$Tape;") (by decide +kernel)) (fun _ h9 => h9) rfl dX4_scanNumber_137 ?_
                refine lv_aload_n hx hb dX4_scanNumber_140 rfl (lv_at hl 3 rfl) ?_
                refine va_get (D := D) (ci := 4) (v := .int nx1) (C := RX4) (T := TX4) (N := 6) hx hb hts iw_k_scanNumber_4 hown hK hP 0 rfl rfl 5 (by decide) (hts (.fieldLink RX4 29 "FlightDesk$Scanner" "next" "I") (by decide +kernel)) (fun _ h9 => h9) rfl dX4_scanNumber_141 ?_
                have hPc := hP.sub (ws' := [(tp, .inr (5, [.ref yb, .int n])), (yb, .inl (cI, 1000, .inl fy))]) [1, 2] rfl
                have hDc := hD.sub (ws' := [(tp, .inr (5, [.ref yb, .int n])), (yb, .inl (cI, 1000, .inl fy))]) [1, 2] (by decide) rfl
                have hFc := va_free (wc := [(tp, .inr (5, [.ref yb, .int n])), (yb, .inl (cI, 1000, .inl fy))]) hD hS hA [1, 2] rfl
                refine va_calli (va_runV (As := [.int nx1]) (rest := []) ⟨hx, hb, hml, hown, hts⟩ (k_byteAt l D cI cB cP H.size tp yb n nx1 fy (show 0 ≤ n.toInt ∧ n.toInt ≤ 1000 by first | assumption | omega | decide)) (cwV 1 hts gw_k_scanNumber_0 rfl rfl rfl (by decide +kernel) ⟨Nat.le_of_ble_eq_true rfl, Nat.le_of_ble_eq_true rfl⟩) ⟨ny_blind, va_recv hK hPc (ci := 5) (q0 := 0) rfl rfl, ny_pre hPc hK hN hDc⟩ rfl rfl hl.1 rfl (lv_room (Nat.le_of_ble_eq_true rfl)) dX4_scanNumber_144 ⟨Nat.le_of_ble_eq_true rfl, Nat.le_of_ble_eq_true rfl⟩) hS (fun q _ h => hFc q h) hFc (fun r13 u t H locs ht hvm hw hB hz1 hk1 hS => ?_)
                obtain ⟨hP1, hD1⟩ := hB
                rw [ht] at hP1
                obtain ⟨hP, hD⟩ := va_join (wr := [(h0, .inr (4, [.ref tp, .int ct, .ref s2, .ref s3, .ref s4, .int nx1])), (s4, .inl (cI, 12, .inl f7))]) (w1 := [(tp, .inr (5, [.ref yb, .int n])), (yb, .inl (cI, 1000, .inl fy))]) hP hD [1, 2] [0, 3] rfl rfl (by decide) (by decide) hk1 hFc hP1 hD1
                have hP : va_P D vwCl [(h0, .inr (4, [.ref tp, .int ct, .ref s2, .ref s3, .ref s4, .int nx1])), (s4, .inl (cI, 12, .inl f7)), (tp, .inr (5, [.ref yb, .int n])), (yb, .inl (cI, 1000, .inl fy))] H := hP
                have hD : va_D A [(h0, .inr (4, [.ref tp, .int ct, .ref s2, .ref s3, .ref s4, .int nx1])), (s4, .inl (cI, 12, .inl f7)), (tp, .inr (5, [.ref yb, .int n])), (yb, .inl (cI, 1000, .inl fy))] := hD
                have hr13 : ¬ r13.toInt = (-1) → 0 ≤ nx1.toInt ∧ nx1.toInt < n.toInt := hw
                have hPc := hP.sub (ws' := []) [] rfl
                have hDc := hD.sub (ws' := []) [] (by decide) rfl
                have hFc := va_free (wc := []) hD hS hA [] rfl
                refine va_calli (va_runS (As := [.int r13]) (rest := []) ⟨hx, hb, hml, hown, hts⟩ (k_isLetter l D cI cB cP H.size r13) (cwS 1 hts gw_k_scanNumber_1 rfl rfl rfl (by decide +kernel) ⟨Nat.le_of_ble_eq_true rfl, Nat.le_of_ble_eq_true rfl⟩) ⟨ny_blind, ny_pre hPc hK hN hDc⟩ rfl rfl hl.1 rfl (lv_room (Nat.le_of_ble_eq_true rfl)) dX4_scanNumber_147 ⟨Nat.le_of_ble_eq_true rfl, Nat.le_of_ble_eq_true rfl⟩) hS (fun q _ h => hFc q h) hFc (fun r14 u t H locs ht hvm hw hB hz1 hk1 hS => ?_)
                obtain ⟨hP, hD⟩ := va_join (wr := [(h0, .inr (4, [.ref tp, .int ct, .ref s2, .ref s3, .ref s4, .int nx1])), (s4, .inl (cI, 12, .inl f7)), (tp, .inr (5, [.ref yb, .int n])), (yb, .inl (cI, 1000, .inl fy))]) (w1 := []) hP hD [] [0, 1, 2, 3] rfl rfl (by decide) (by decide) hk1 hFc ny_P0 ny_D0
                have hP : va_P D vwCl [(h0, .inr (4, [.ref tp, .int ct, .ref s2, .ref s3, .ref s4, .int nx1])), (s4, .inl (cI, 12, .inl f7)), (tp, .inr (5, [.ref yb, .int n])), (yb, .inl (cI, 1000, .inl fy))] H := hP
                have hD : va_D A [(h0, .inr (4, [.ref tp, .int ct, .ref s2, .ref s3, .ref s4, .int nx1])), (s4, .inl (cI, 12, .inl f7)), (tp, .inr (5, [.ref yb, .int n])), (yb, .inl (cI, 1000, .inl fy))] := hD
                have hr14 : 0 ≤ r14.toInt := hw
                refine lv_if_ne (tgt := 157) hx hb dX4_scanNumber_150 (by decide) (fun c15 => ?_) (fun c15 => ?_)
                · have tc15 : ¬ (r14.toInt = 0) := i32_neq c15
                  refine lv_iconst (v := 0) hx hb dX4_scanNumber_157 (by decide) ?_
                  refine lv_istore (lv' := [(6, .int 0), (5, .int v8), (4, .int sz1), (3, .int nx), (0, .ref h0), (1, .int i), (2, .int z)]) hx hb dX4_scanNumber_158 hl (by decide) rfl (fun ls hl => ?_)
                  refine lv_iload hx hb dX4_scanNumber_160 (lv_at hl 0 rfl) ?_
                  refine lv_if_eq (tgt := 169) hx hb dX4_scanNumber_162 (by decide) (fun c16 => ?_) (fun h9 => (by first | exact absurd h9 (by decide) | exact absurd (by decide) h9))
                  refine lv_iconst (v := 4) hx hb dX4_scanNumber_169 (by decide) ?_
                  have hP9 := hP.sub (ws' := [(h0, .inr (4, [.ref tp, .int ct, .ref s2, .ref s3, .ref s4, .int nx1])), (tp, .inr (5, [.ref yb, .int n])), (yb, .inl (cI, 1000, .inl fy)), (s4, .inl (cI, 12, .inl f7))]) [0, 2, 3, 1] rfl
                  have hD9 := hD.sub (ws' := [(h0, .inr (4, [.ref tp, .int ct, .ref s2, .ref s3, .ref s4, .int nx1])), (tp, .inr (5, [.ref yb, .int n])), (yb, .inl (cI, 1000, .inl fy)), (s4, .inl (cI, 12, .inl f7))]) [0, 2, 3, 1] (by decide) rfl
                  refine W.widen (k := 0) (n := 0) (by decide) (by decide) ?_
                  exact W.iret (v := 4) hx hb hr (fun t ht hW => ⟨⟨4, (), rfl, (trivial), nx1, f7, (show 0 ≤ nx1.toInt ∧ nx1.toInt ≤ 1000 by first | assumption | omega | decide), by rw [ht]; exact hP9, hD9⟩, hS.F ht⟩) hS.2.2 dX4_scanNumber_170
                · have tc15 : r14.toInt = 0 := i32_eq c15
                  refine lv_iconst (v := 1) hx hb dX4_scanNumber_153 (by decide) ?_
                  refine lv_goto (tgt := 158) hx hb dX4_scanNumber_154 (by decide) ?_
                  refine lv_istore (lv' := [(6, .int 1), (5, .int v8), (4, .int sz1), (3, .int nx), (0, .ref h0), (1, .int i), (2, .int z)]) hx hb dX4_scanNumber_158 hl (by decide) rfl (fun ls hl => ?_)
                  refine lv_iload hx hb dX4_scanNumber_160 (lv_at hl 0 rfl) ?_
                  refine lv_if_eq (tgt := 169) hx hb dX4_scanNumber_162 (by decide) (fun h9 => (by first | exact absurd h9 (by decide) | exact absurd (by decide) h9)) (fun c17 => ?_)
                  refine lv_iconst (v := 2) hx hb dX4_scanNumber_165 (by decide) ?_
                  refine lv_goto (tgt := 170) hx hb dX4_scanNumber_166 (by decide) ?_
                  have hP9 := hP.sub (ws' := [(h0, .inr (4, [.ref tp, .int ct, .ref s2, .ref s3, .ref s4, .int nx1])), (tp, .inr (5, [.ref yb, .int n])), (yb, .inl (cI, 1000, .inl fy)), (s4, .inl (cI, 12, .inl f7))]) [0, 2, 3, 1] rfl
                  have hD9 := hD.sub (ws' := [(h0, .inr (4, [.ref tp, .int ct, .ref s2, .ref s3, .ref s4, .int nx1])), (tp, .inr (5, [.ref yb, .int n])), (yb, .inl (cI, 1000, .inl fy)), (s4, .inl (cI, 12, .inl f7))]) [0, 2, 3, 1] (by decide) rfl
                  refine W.widen (k := 0) (n := 0) (by decide) (by decide) ?_
                  exact W.iret (v := 2) hx hb hr (fun t ht hW => ⟨⟨2, (), rfl, (trivial), nx1, f7, (show 0 ≤ nx1.toInt ∧ nx1.toInt ≤ 1000 by first | assumption | omega | decide), by rw [ht]; exact hP9, hD9⟩, hS.F ht⟩) hS.2.2 dX4_scanNumber_170
          · have tc6 : ¬ (z.toInt = 0) := i32_neq c6
            refine lv_iload hx hb dX4_scanNumber_107 (lv_at hl 0 rfl) ?_
            refine lv_ineg hx hb dX4_scanNumber_109 ?_
            refine lv_topi (fun v18 ev18 => ?_)
            refine lv_goto (tgt := 115) hx hb dX4_scanNumber_110 (by decide) ?_
            refine va_iast hx hb hK hP hD hS 3 0 rfl rfl (vp_in_iff.mpr ⟨show 0 ≤ i.toInt by omega, show i.toInt < ((12 : Nat) : Int) by omega⟩) dX4_scanNumber_115 (fun H locs hP hD hS => ?_)
            have hP : va_P D vwCl [(h0, .inr (4, [.ref tp, .int ct, .ref s2, .ref s3, .ref s4, .int nx1])), (tp, .inr (5, [.ref yb, .int n])), (yb, .inl (cI, 1000, .inl fy)), (s4, .inl (cI, 12, .inl (upd fv i.toNatClampNeg v18)))] H := hP
            have hD : va_D A [(h0, .inr (4, [.ref tp, .int ct, .ref s2, .ref s3, .ref s4, .int nx1])), (tp, .inr (5, [.ref yb, .int n])), (yb, .inl (cI, 1000, .inl fy)), (s4, .inl (cI, 12, .inl (upd fv i.toNatClampNeg v18)))] := hD
            obtain ⟨f19, ef19⟩ : ∃ z : Nat → Int32, z = (upd fv i.toNatClampNeg v18) := ⟨_, rfl⟩
            rw [← ef19] at hP hD
            refine lv_aload_n hx hb dX4_scanNumber_116 rfl (lv_at hl 2 rfl) ?_
            refine va_get (D := D) (ci := 4) (v := .int nx1) (C := RX4) (T := TX4) (N := 6) hx hb hts iw_k_scanNumber_4 hown hK hP 0 rfl rfl 5 (by decide) (hts (.fieldLink RX4 29 "FlightDesk$Scanner" "next" "I") (by decide +kernel)) (fun _ h9 => h9) rfl dX4_scanNumber_117 ?_
            refine lv_iload_n hx hb dX4_scanNumber_120 rfl (lv_at hl 1 rfl) ?_
            refine lv_isub hx hb dX4_scanNumber_121 ?_
            refine lv_topi (fun v20 ev20 => ?_)
            have tv20 : v20.toInt = (nx1.toInt - nx.toInt + 2147483648) % 4294967296 - 2147483648 := i32_sub ev20
            refine lv_istore (lv' := [(5, .int v20), (4, .int sz1), (3, .int nx), (0, .ref h0), (1, .int i), (2, .int z)]) hx hb dX4_scanNumber_122 hl (by decide) rfl (fun ls hl => ?_)
            refine lv_iload hx hb dX4_scanNumber_124 (lv_at hl 0 rfl) ?_
            refine lv_iconst (v := 1) hx hb dX4_scanNumber_126 (by decide) ?_
            refine lv_icmp_lt (tgt := 157) hx hb dX4_scanNumber_127 (by decide) (fun c21 => ?_) (fun c21 => ?_)
            · have tc21 : v20.toInt < 1 := i32_lt c21
              refine lv_iconst (v := 0) hx hb dX4_scanNumber_157 (by decide) ?_
              refine lv_istore (lv' := [(6, .int 0), (5, .int v20), (4, .int sz1), (3, .int nx), (0, .ref h0), (1, .int i), (2, .int z)]) hx hb dX4_scanNumber_158 hl (by decide) rfl (fun ls hl => ?_)
              refine lv_iload hx hb dX4_scanNumber_160 (lv_at hl 0 rfl) ?_
              refine lv_if_eq (tgt := 169) hx hb dX4_scanNumber_162 (by decide) (fun c22 => ?_) (fun h9 => (by first | exact absurd h9 (by decide) | exact absurd (by decide) h9))
              refine lv_iconst (v := 4) hx hb dX4_scanNumber_169 (by decide) ?_
              have hP9 := hP.sub (ws' := [(h0, .inr (4, [.ref tp, .int ct, .ref s2, .ref s3, .ref s4, .int nx1])), (tp, .inr (5, [.ref yb, .int n])), (yb, .inl (cI, 1000, .inl fy)), (s4, .inl (cI, 12, .inl f19))]) [0, 1, 2, 3] rfl
              have hD9 := hD.sub (ws' := [(h0, .inr (4, [.ref tp, .int ct, .ref s2, .ref s3, .ref s4, .int nx1])), (tp, .inr (5, [.ref yb, .int n])), (yb, .inl (cI, 1000, .inl fy)), (s4, .inl (cI, 12, .inl f19))]) [0, 1, 2, 3] (by decide) rfl
              refine W.widen (k := 0) (n := 0) (by decide) (by decide) ?_
              exact W.iret (v := 4) hx hb hr (fun t ht hW => ⟨⟨4, (), rfl, (trivial), nx1, f19, (show 0 ≤ nx1.toInt ∧ nx1.toInt ≤ 1000 by first | assumption | omega | decide), by rw [ht]; exact hP9, hD9⟩, hS.F ht⟩) hS.2.2 dX4_scanNumber_170
            · have tc21 : ¬ (v20.toInt < 1) := i32_nlt c21
              refine lv_iload hx hb dX4_scanNumber_130 (lv_at hl 0 rfl) ?_
              refine lv_iconst (v := 5) hx hb dX4_scanNumber_132 (by decide) ?_
              refine lv_icmp_gt (tgt := 157) hx hb dX4_scanNumber_133 (by decide) (fun c23 => ?_) (fun c23 => ?_)
              · have tc23 : 5 < v20.toInt := i32_lt c23
                refine lv_iconst (v := 0) hx hb dX4_scanNumber_157 (by decide) ?_
                refine lv_istore (lv' := [(6, .int 0), (5, .int v20), (4, .int sz1), (3, .int nx), (0, .ref h0), (1, .int i), (2, .int z)]) hx hb dX4_scanNumber_158 hl (by decide) rfl (fun ls hl => ?_)
                refine lv_iload hx hb dX4_scanNumber_160 (lv_at hl 0 rfl) ?_
                refine lv_if_eq (tgt := 169) hx hb dX4_scanNumber_162 (by decide) (fun c24 => ?_) (fun h9 => (by first | exact absurd h9 (by decide) | exact absurd (by decide) h9))
                refine lv_iconst (v := 4) hx hb dX4_scanNumber_169 (by decide) ?_
                have hP9 := hP.sub (ws' := [(h0, .inr (4, [.ref tp, .int ct, .ref s2, .ref s3, .ref s4, .int nx1])), (tp, .inr (5, [.ref yb, .int n])), (yb, .inl (cI, 1000, .inl fy)), (s4, .inl (cI, 12, .inl f19))]) [0, 1, 2, 3] rfl
                have hD9 := hD.sub (ws' := [(h0, .inr (4, [.ref tp, .int ct, .ref s2, .ref s3, .ref s4, .int nx1])), (tp, .inr (5, [.ref yb, .int n])), (yb, .inl (cI, 1000, .inl fy)), (s4, .inl (cI, 12, .inl f19))]) [0, 1, 2, 3] (by decide) rfl
                refine W.widen (k := 0) (n := 0) (by decide) (by decide) ?_
                exact W.iret (v := 4) hx hb hr (fun t ht hW => ⟨⟨4, (), rfl, (trivial), nx1, f19, (show 0 ≤ nx1.toInt ∧ nx1.toInt ≤ 1000 by first | assumption | omega | decide), by rw [ht]; exact hP9, hD9⟩, hS.F ht⟩) hS.2.2 dX4_scanNumber_170
              · have tc23 : ¬ (5 < v20.toInt) := i32_nlt c23
                refine lv_aload_n hx hb dX4_scanNumber_136 rfl (lv_at hl 3 rfl) ?_
                refine va_get (D := D) (ci := 4) (v := .ref tp) (C := RX4) (T := TX4) (N := 6) hx hb hts iw_k_scanNumber_4 hown hK hP 0 rfl rfl 0 (by decide) (hts (.fieldLink RX4 21 "FlightDesk$Scanner" "tape" "LFlightDesk$Tape;") (by decide +kernel)) (fun _ h9 => h9) rfl dX4_scanNumber_137 ?_
                refine lv_aload_n hx hb dX4_scanNumber_140 rfl (lv_at hl 3 rfl) ?_
                refine va_get (D := D) (ci := 4) (v := .int nx1) (C := RX4) (T := TX4) (N := 6) hx hb hts iw_k_scanNumber_4 hown hK hP 0 rfl rfl 5 (by decide) (hts (.fieldLink RX4 29 "FlightDesk$Scanner" "next" "I") (by decide +kernel)) (fun _ h9 => h9) rfl dX4_scanNumber_141 ?_
                have hPc := hP.sub (ws' := [(tp, .inr (5, [.ref yb, .int n])), (yb, .inl (cI, 1000, .inl fy))]) [1, 2] rfl
                have hDc := hD.sub (ws' := [(tp, .inr (5, [.ref yb, .int n])), (yb, .inl (cI, 1000, .inl fy))]) [1, 2] (by decide) rfl
                have hFc := va_free (wc := [(tp, .inr (5, [.ref yb, .int n])), (yb, .inl (cI, 1000, .inl fy))]) hD hS hA [1, 2] rfl
                refine va_calli (va_runV (As := [.int nx1]) (rest := []) ⟨hx, hb, hml, hown, hts⟩ (k_byteAt l D cI cB cP H.size tp yb n nx1 fy (show 0 ≤ n.toInt ∧ n.toInt ≤ 1000 by first | assumption | omega | decide)) (cwV 1 hts gw_k_scanNumber_0 rfl rfl rfl (by decide +kernel) ⟨Nat.le_of_ble_eq_true rfl, Nat.le_of_ble_eq_true rfl⟩) ⟨ny_blind, va_recv hK hPc (ci := 5) (q0 := 0) rfl rfl, ny_pre hPc hK hN hDc⟩ rfl rfl hl.1 rfl (lv_room (Nat.le_of_ble_eq_true rfl)) dX4_scanNumber_144 ⟨Nat.le_of_ble_eq_true rfl, Nat.le_of_ble_eq_true rfl⟩) hS (fun q _ h => hFc q h) hFc (fun r25 u t H locs ht hvm hw hB hz1 hk1 hS => ?_)
                obtain ⟨hP1, hD1⟩ := hB
                rw [ht] at hP1
                obtain ⟨hP, hD⟩ := va_join (wr := [(h0, .inr (4, [.ref tp, .int ct, .ref s2, .ref s3, .ref s4, .int nx1])), (s4, .inl (cI, 12, .inl f19))]) (w1 := [(tp, .inr (5, [.ref yb, .int n])), (yb, .inl (cI, 1000, .inl fy))]) hP hD [1, 2] [0, 3] rfl rfl (by decide) (by decide) hk1 hFc hP1 hD1
                have hP : va_P D vwCl [(h0, .inr (4, [.ref tp, .int ct, .ref s2, .ref s3, .ref s4, .int nx1])), (s4, .inl (cI, 12, .inl f19)), (tp, .inr (5, [.ref yb, .int n])), (yb, .inl (cI, 1000, .inl fy))] H := hP
                have hD : va_D A [(h0, .inr (4, [.ref tp, .int ct, .ref s2, .ref s3, .ref s4, .int nx1])), (s4, .inl (cI, 12, .inl f19)), (tp, .inr (5, [.ref yb, .int n])), (yb, .inl (cI, 1000, .inl fy))] := hD
                have hr25 : ¬ r25.toInt = (-1) → 0 ≤ nx1.toInt ∧ nx1.toInt < n.toInt := hw
                have hPc := hP.sub (ws' := []) [] rfl
                have hDc := hD.sub (ws' := []) [] (by decide) rfl
                have hFc := va_free (wc := []) hD hS hA [] rfl
                refine va_calli (va_runS (As := [.int r25]) (rest := []) ⟨hx, hb, hml, hown, hts⟩ (k_isLetter l D cI cB cP H.size r25) (cwS 1 hts gw_k_scanNumber_1 rfl rfl rfl (by decide +kernel) ⟨Nat.le_of_ble_eq_true rfl, Nat.le_of_ble_eq_true rfl⟩) ⟨ny_blind, ny_pre hPc hK hN hDc⟩ rfl rfl hl.1 rfl (lv_room (Nat.le_of_ble_eq_true rfl)) dX4_scanNumber_147 ⟨Nat.le_of_ble_eq_true rfl, Nat.le_of_ble_eq_true rfl⟩) hS (fun q _ h => hFc q h) hFc (fun r26 u t H locs ht hvm hw hB hz1 hk1 hS => ?_)
                obtain ⟨hP, hD⟩ := va_join (wr := [(h0, .inr (4, [.ref tp, .int ct, .ref s2, .ref s3, .ref s4, .int nx1])), (s4, .inl (cI, 12, .inl f19)), (tp, .inr (5, [.ref yb, .int n])), (yb, .inl (cI, 1000, .inl fy))]) (w1 := []) hP hD [] [0, 1, 2, 3] rfl rfl (by decide) (by decide) hk1 hFc ny_P0 ny_D0
                have hP : va_P D vwCl [(h0, .inr (4, [.ref tp, .int ct, .ref s2, .ref s3, .ref s4, .int nx1])), (s4, .inl (cI, 12, .inl f19)), (tp, .inr (5, [.ref yb, .int n])), (yb, .inl (cI, 1000, .inl fy))] H := hP
                have hD : va_D A [(h0, .inr (4, [.ref tp, .int ct, .ref s2, .ref s3, .ref s4, .int nx1])), (s4, .inl (cI, 12, .inl f19)), (tp, .inr (5, [.ref yb, .int n])), (yb, .inl (cI, 1000, .inl fy))] := hD
                have hr26 : 0 ≤ r26.toInt := hw
                refine lv_if_ne (tgt := 157) hx hb dX4_scanNumber_150 (by decide) (fun c27 => ?_) (fun c27 => ?_)
                · have tc27 : ¬ (r26.toInt = 0) := i32_neq c27
                  refine lv_iconst (v := 0) hx hb dX4_scanNumber_157 (by decide) ?_
                  refine lv_istore (lv' := [(6, .int 0), (5, .int v20), (4, .int sz1), (3, .int nx), (0, .ref h0), (1, .int i), (2, .int z)]) hx hb dX4_scanNumber_158 hl (by decide) rfl (fun ls hl => ?_)
                  refine lv_iload hx hb dX4_scanNumber_160 (lv_at hl 0 rfl) ?_
                  refine lv_if_eq (tgt := 169) hx hb dX4_scanNumber_162 (by decide) (fun c28 => ?_) (fun h9 => (by first | exact absurd h9 (by decide) | exact absurd (by decide) h9))
                  refine lv_iconst (v := 4) hx hb dX4_scanNumber_169 (by decide) ?_
                  have hP9 := hP.sub (ws' := [(h0, .inr (4, [.ref tp, .int ct, .ref s2, .ref s3, .ref s4, .int nx1])), (tp, .inr (5, [.ref yb, .int n])), (yb, .inl (cI, 1000, .inl fy)), (s4, .inl (cI, 12, .inl f19))]) [0, 2, 3, 1] rfl
                  have hD9 := hD.sub (ws' := [(h0, .inr (4, [.ref tp, .int ct, .ref s2, .ref s3, .ref s4, .int nx1])), (tp, .inr (5, [.ref yb, .int n])), (yb, .inl (cI, 1000, .inl fy)), (s4, .inl (cI, 12, .inl f19))]) [0, 2, 3, 1] (by decide) rfl
                  refine W.widen (k := 0) (n := 0) (by decide) (by decide) ?_
                  exact W.iret (v := 4) hx hb hr (fun t ht hW => ⟨⟨4, (), rfl, (trivial), nx1, f19, (show 0 ≤ nx1.toInt ∧ nx1.toInt ≤ 1000 by first | assumption | omega | decide), by rw [ht]; exact hP9, hD9⟩, hS.F ht⟩) hS.2.2 dX4_scanNumber_170
                · have tc27 : r26.toInt = 0 := i32_eq c27
                  refine lv_iconst (v := 1) hx hb dX4_scanNumber_153 (by decide) ?_
                  refine lv_goto (tgt := 158) hx hb dX4_scanNumber_154 (by decide) ?_
                  refine lv_istore (lv' := [(6, .int 1), (5, .int v20), (4, .int sz1), (3, .int nx), (0, .ref h0), (1, .int i), (2, .int z)]) hx hb dX4_scanNumber_158 hl (by decide) rfl (fun ls hl => ?_)
                  refine lv_iload hx hb dX4_scanNumber_160 (lv_at hl 0 rfl) ?_
                  refine lv_if_eq (tgt := 169) hx hb dX4_scanNumber_162 (by decide) (fun h9 => (by first | exact absurd h9 (by decide) | exact absurd (by decide) h9)) (fun c29 => ?_)
                  refine lv_iconst (v := 2) hx hb dX4_scanNumber_165 (by decide) ?_
                  refine lv_goto (tgt := 170) hx hb dX4_scanNumber_166 (by decide) ?_
                  have hP9 := hP.sub (ws' := [(h0, .inr (4, [.ref tp, .int ct, .ref s2, .ref s3, .ref s4, .int nx1])), (tp, .inr (5, [.ref yb, .int n])), (yb, .inl (cI, 1000, .inl fy)), (s4, .inl (cI, 12, .inl f19))]) [0, 2, 3, 1] rfl
                  have hD9 := hD.sub (ws' := [(h0, .inr (4, [.ref tp, .int ct, .ref s2, .ref s3, .ref s4, .int nx1])), (tp, .inr (5, [.ref yb, .int n])), (yb, .inl (cI, 1000, .inl fy)), (s4, .inl (cI, 12, .inl f19))]) [0, 2, 3, 1] (by decide) rfl
                  refine W.widen (k := 0) (n := 0) (by decide) (by decide) ?_
                  exact W.iret (v := 2) hx hb hr (fun t ht hW => ⟨⟨2, (), rfl, (trivial), nx1, f19, (show 0 ≤ nx1.toInt ∧ nx1.toInt ≤ 1000 by first | assumption | omega | decide), by rw [ht]; exact hP9, hD9⟩, hS.F ht⟩) hS.2.2 dX4_scanNumber_170
        · have tc5 : ¬ (n.toInt ≤ nx1.toInt) := i32_nle c5
          refine lv_aload_n hx hb dX4_scanNumber_36 rfl (lv_at hl 2 rfl) ?_
          refine va_get (D := D) (ci := 4) (v := .ref tp) (C := RX4) (T := TX4) (N := 6) hx hb hts iw_k_scanNumber_4 hown hK hP 0 rfl rfl 0 (by decide) (hts (.fieldLink RX4 21 "FlightDesk$Scanner" "tape" "LFlightDesk$Tape;") (by decide +kernel)) (fun _ h9 => h9) rfl dX4_scanNumber_37 ?_
          refine lv_aload_n hx hb dX4_scanNumber_40 rfl (lv_at hl 2 rfl) ?_
          refine va_get (D := D) (ci := 4) (v := .int nx1) (C := RX4) (T := TX4) (N := 6) hx hb hts iw_k_scanNumber_4 hown hK hP 0 rfl rfl 5 (by decide) (hts (.fieldLink RX4 29 "FlightDesk$Scanner" "next" "I") (by decide +kernel)) (fun _ h9 => h9) rfl dX4_scanNumber_41 ?_
          have hPc := hP.sub (ws' := [(tp, .inr (5, [.ref yb, .int n])), (yb, .inl (cI, 1000, .inl fy))]) [1, 2] rfl
          have hDc := hD.sub (ws' := [(tp, .inr (5, [.ref yb, .int n])), (yb, .inl (cI, 1000, .inl fy))]) [1, 2] (by decide) rfl
          have hFc := va_free (wc := [(tp, .inr (5, [.ref yb, .int n])), (yb, .inl (cI, 1000, .inl fy))]) hD hS hA [1, 2] rfl
          refine va_calli (va_runV (As := [.int nx1]) (rest := []) ⟨hx, hb, hml, hown, hts⟩ (k_byteAt l D cI cB cP H.size tp yb n nx1 fy (show 0 ≤ n.toInt ∧ n.toInt ≤ 1000 by first | assumption | omega | decide)) (cwV 1 hts gw_k_scanNumber_0 rfl rfl rfl (by decide +kernel) ⟨Nat.le_of_ble_eq_true rfl, Nat.le_of_ble_eq_true rfl⟩) ⟨ny_blind, va_recv hK hPc (ci := 5) (q0 := 0) rfl rfl, ny_pre hPc hK hN hDc⟩ rfl rfl hl.1 rfl (lv_room (Nat.le_of_ble_eq_true rfl)) dX4_scanNumber_44 ⟨Nat.le_of_ble_eq_true rfl, Nat.le_of_ble_eq_true rfl⟩) hS (fun q _ h => hFc q h) hFc (fun r30 u t H locs ht hvm hw hB hz1 hk1 hS => ?_)
          obtain ⟨hP1, hD1⟩ := hB
          rw [ht] at hP1
          obtain ⟨hP, hD⟩ := va_join (wr := [(h0, .inr (4, [.ref tp, .int ct, .ref s2, .ref s3, .ref s4, .int nx1])), (s4, .inl (cI, 12, .inl fv))]) (w1 := [(tp, .inr (5, [.ref yb, .int n])), (yb, .inl (cI, 1000, .inl fy))]) hP hD [1, 2] [0, 3] rfl rfl (by decide) (by decide) hk1 hFc hP1 hD1
          have hP : va_P D vwCl [(h0, .inr (4, [.ref tp, .int ct, .ref s2, .ref s3, .ref s4, .int nx1])), (s4, .inl (cI, 12, .inl fv)), (tp, .inr (5, [.ref yb, .int n])), (yb, .inl (cI, 1000, .inl fy))] H := hP
          have hD : va_D A [(h0, .inr (4, [.ref tp, .int ct, .ref s2, .ref s3, .ref s4, .int nx1])), (s4, .inl (cI, 12, .inl fv)), (tp, .inr (5, [.ref yb, .int n])), (yb, .inl (cI, 1000, .inl fy))] := hD
          have hr30 : ¬ r30.toInt = (-1) → 0 ≤ nx1.toInt ∧ nx1.toInt < n.toInt := hw
          have hPc := hP.sub (ws' := []) [] rfl
          have hDc := hD.sub (ws' := []) [] (by decide) rfl
          have hFc := va_free (wc := []) hD hS hA [] rfl
          refine va_calli (va_runS (As := [.int r30]) (rest := []) ⟨hx, hb, hml, hown, hts⟩ (k_isDigit l D cI cB cP H.size r30) (cwS 1 hts gw_k_scanNumber_2 rfl rfl rfl (by decide +kernel) ⟨Nat.le_of_ble_eq_true rfl, Nat.le_of_ble_eq_true rfl⟩) ⟨ny_blind, ny_pre hPc hK hN hDc⟩ rfl rfl hl.1 rfl (lv_room (Nat.le_of_ble_eq_true rfl)) dX4_scanNumber_47 ⟨Nat.le_of_ble_eq_true rfl, Nat.le_of_ble_eq_true rfl⟩) hS (fun q _ h => hFc q h) hFc (fun r31 u t H locs ht hvm hw hB hz1 hk1 hS => ?_)
          obtain ⟨hP, hD⟩ := va_join (wr := [(h0, .inr (4, [.ref tp, .int ct, .ref s2, .ref s3, .ref s4, .int nx1])), (s4, .inl (cI, 12, .inl fv)), (tp, .inr (5, [.ref yb, .int n])), (yb, .inl (cI, 1000, .inl fy))]) (w1 := []) hP hD [] [0, 1, 2, 3] rfl rfl (by decide) (by decide) hk1 hFc ny_P0 ny_D0
          have hP : va_P D vwCl [(h0, .inr (4, [.ref tp, .int ct, .ref s2, .ref s3, .ref s4, .int nx1])), (s4, .inl (cI, 12, .inl fv)), (tp, .inr (5, [.ref yb, .int n])), (yb, .inl (cI, 1000, .inl fy))] H := hP
          have hD : va_D A [(h0, .inr (4, [.ref tp, .int ct, .ref s2, .ref s3, .ref s4, .int nx1])), (s4, .inl (cI, 12, .inl fv)), (tp, .inr (5, [.ref yb, .int n])), (yb, .inl (cI, 1000, .inl fy))] := hD
          have hr31 : 0 ≤ r31.toInt := hw
          refine lv_if_eq (tgt := 98) hx hb dX4_scanNumber_50 (by decide) (fun c32 => ?_) (fun c32 => ?_)
          · have tc32 : r31.toInt = 0 := i32_eq c32
            refine lv_aload_n hx hb dX4_scanNumber_98 rfl (lv_at hl 2 rfl) ?_
            refine va_get (D := D) (ci := 4) (v := .ref s4) (C := RX4) (T := TX4) (N := 6) hx hb hts iw_k_scanNumber_4 hown hK hP 0 rfl rfl 4 (by decide) (hts (.fieldLink RX4 18 "FlightDesk$Scanner" "value" "[I") (by decide +kernel)) (fun _ h9 => h9) rfl dX4_scanNumber_99 ?_
            refine lv_iload_n hx hb dX4_scanNumber_102 rfl (lv_at hl 3 rfl) ?_
            refine lv_iload_n hx hb dX4_scanNumber_103 rfl (lv_at hl 4 rfl) ?_
            refine lv_if_eq (tgt := 113) hx hb dX4_scanNumber_104 (by decide) (fun c33 => ?_) (fun c33 => ?_)
            · have tc33 : z.toInt = 0 := i32_eq c33
              refine lv_iload hx hb dX4_scanNumber_113 (lv_at hl 0 rfl) ?_
              refine va_iast hx hb hK hP hD hS 1 0 rfl rfl (vp_in_iff.mpr ⟨show 0 ≤ i.toInt by omega, show i.toInt < ((12 : Nat) : Int) by omega⟩) dX4_scanNumber_115 (fun H locs hP hD hS => ?_)
              have hP : va_P D vwCl [(h0, .inr (4, [.ref tp, .int ct, .ref s2, .ref s3, .ref s4, .int nx1])), (s4, .inl (cI, 12, .inl (upd fv i.toNatClampNeg sz1))), (tp, .inr (5, [.ref yb, .int n])), (yb, .inl (cI, 1000, .inl fy))] H := hP
              have hD : va_D A [(h0, .inr (4, [.ref tp, .int ct, .ref s2, .ref s3, .ref s4, .int nx1])), (s4, .inl (cI, 12, .inl (upd fv i.toNatClampNeg sz1))), (tp, .inr (5, [.ref yb, .int n])), (yb, .inl (cI, 1000, .inl fy))] := hD
              obtain ⟨f34, ef34⟩ : ∃ z : Nat → Int32, z = (upd fv i.toNatClampNeg sz1) := ⟨_, rfl⟩
              rw [← ef34] at hP hD
              refine lv_aload_n hx hb dX4_scanNumber_116 rfl (lv_at hl 2 rfl) ?_
              refine va_get (D := D) (ci := 4) (v := .int nx1) (C := RX4) (T := TX4) (N := 6) hx hb hts iw_k_scanNumber_4 hown hK hP 0 rfl rfl 5 (by decide) (hts (.fieldLink RX4 29 "FlightDesk$Scanner" "next" "I") (by decide +kernel)) (fun _ h9 => h9) rfl dX4_scanNumber_117 ?_
              refine lv_iload_n hx hb dX4_scanNumber_120 rfl (lv_at hl 1 rfl) ?_
              refine lv_isub hx hb dX4_scanNumber_121 ?_
              refine lv_topi (fun v35 ev35 => ?_)
              have tv35 : v35.toInt = (nx1.toInt - nx.toInt + 2147483648) % 4294967296 - 2147483648 := i32_sub ev35
              refine lv_istore (lv' := [(5, .int v35), (4, .int sz1), (3, .int nx), (0, .ref h0), (1, .int i), (2, .int z)]) hx hb dX4_scanNumber_122 hl (by decide) rfl (fun ls hl => ?_)
              refine lv_iload hx hb dX4_scanNumber_124 (lv_at hl 0 rfl) ?_
              refine lv_iconst (v := 1) hx hb dX4_scanNumber_126 (by decide) ?_
              refine lv_icmp_lt (tgt := 157) hx hb dX4_scanNumber_127 (by decide) (fun c36 => ?_) (fun c36 => ?_)
              · have tc36 : v35.toInt < 1 := i32_lt c36
                refine lv_iconst (v := 0) hx hb dX4_scanNumber_157 (by decide) ?_
                refine lv_istore (lv' := [(6, .int 0), (5, .int v35), (4, .int sz1), (3, .int nx), (0, .ref h0), (1, .int i), (2, .int z)]) hx hb dX4_scanNumber_158 hl (by decide) rfl (fun ls hl => ?_)
                refine lv_iload hx hb dX4_scanNumber_160 (lv_at hl 0 rfl) ?_
                refine lv_if_eq (tgt := 169) hx hb dX4_scanNumber_162 (by decide) (fun c37 => ?_) (fun h9 => (by first | exact absurd h9 (by decide) | exact absurd (by decide) h9))
                refine lv_iconst (v := 4) hx hb dX4_scanNumber_169 (by decide) ?_
                have hP9 := hP.sub (ws' := [(h0, .inr (4, [.ref tp, .int ct, .ref s2, .ref s3, .ref s4, .int nx1])), (tp, .inr (5, [.ref yb, .int n])), (yb, .inl (cI, 1000, .inl fy)), (s4, .inl (cI, 12, .inl f34))]) [0, 2, 3, 1] rfl
                have hD9 := hD.sub (ws' := [(h0, .inr (4, [.ref tp, .int ct, .ref s2, .ref s3, .ref s4, .int nx1])), (tp, .inr (5, [.ref yb, .int n])), (yb, .inl (cI, 1000, .inl fy)), (s4, .inl (cI, 12, .inl f34))]) [0, 2, 3, 1] (by decide) rfl
                refine W.widen (k := 0) (n := 0) (by decide) (by decide) ?_
                exact W.iret (v := 4) hx hb hr (fun t ht hW => ⟨⟨4, (), rfl, (trivial), nx1, f34, (show 0 ≤ nx1.toInt ∧ nx1.toInt ≤ 1000 by first | assumption | omega | decide), by rw [ht]; exact hP9, hD9⟩, hS.F ht⟩) hS.2.2 dX4_scanNumber_170
              · have tc36 : ¬ (v35.toInt < 1) := i32_nlt c36
                refine lv_iload hx hb dX4_scanNumber_130 (lv_at hl 0 rfl) ?_
                refine lv_iconst (v := 5) hx hb dX4_scanNumber_132 (by decide) ?_
                refine lv_icmp_gt (tgt := 157) hx hb dX4_scanNumber_133 (by decide) (fun c38 => ?_) (fun c38 => ?_)
                · have tc38 : 5 < v35.toInt := i32_lt c38
                  refine lv_iconst (v := 0) hx hb dX4_scanNumber_157 (by decide) ?_
                  refine lv_istore (lv' := [(6, .int 0), (5, .int v35), (4, .int sz1), (3, .int nx), (0, .ref h0), (1, .int i), (2, .int z)]) hx hb dX4_scanNumber_158 hl (by decide) rfl (fun ls hl => ?_)
                  refine lv_iload hx hb dX4_scanNumber_160 (lv_at hl 0 rfl) ?_
                  refine lv_if_eq (tgt := 169) hx hb dX4_scanNumber_162 (by decide) (fun c39 => ?_) (fun h9 => (by first | exact absurd h9 (by decide) | exact absurd (by decide) h9))
                  refine lv_iconst (v := 4) hx hb dX4_scanNumber_169 (by decide) ?_
                  have hP9 := hP.sub (ws' := [(h0, .inr (4, [.ref tp, .int ct, .ref s2, .ref s3, .ref s4, .int nx1])), (tp, .inr (5, [.ref yb, .int n])), (yb, .inl (cI, 1000, .inl fy)), (s4, .inl (cI, 12, .inl f34))]) [0, 2, 3, 1] rfl
                  have hD9 := hD.sub (ws' := [(h0, .inr (4, [.ref tp, .int ct, .ref s2, .ref s3, .ref s4, .int nx1])), (tp, .inr (5, [.ref yb, .int n])), (yb, .inl (cI, 1000, .inl fy)), (s4, .inl (cI, 12, .inl f34))]) [0, 2, 3, 1] (by decide) rfl
                  refine W.widen (k := 0) (n := 0) (by decide) (by decide) ?_
                  exact W.iret (v := 4) hx hb hr (fun t ht hW => ⟨⟨4, (), rfl, (trivial), nx1, f34, (show 0 ≤ nx1.toInt ∧ nx1.toInt ≤ 1000 by first | assumption | omega | decide), by rw [ht]; exact hP9, hD9⟩, hS.F ht⟩) hS.2.2 dX4_scanNumber_170
                · have tc38 : ¬ (5 < v35.toInt) := i32_nlt c38
                  refine lv_aload_n hx hb dX4_scanNumber_136 rfl (lv_at hl 3 rfl) ?_
                  refine va_get (D := D) (ci := 4) (v := .ref tp) (C := RX4) (T := TX4) (N := 6) hx hb hts iw_k_scanNumber_4 hown hK hP 0 rfl rfl 0 (by decide) (hts (.fieldLink RX4 21 "FlightDesk$Scanner" "tape" "LFlightDesk$Tape;") (by decide +kernel)) (fun _ h9 => h9) rfl dX4_scanNumber_137 ?_
                  refine lv_aload_n hx hb dX4_scanNumber_140 rfl (lv_at hl 3 rfl) ?_
                  refine va_get (D := D) (ci := 4) (v := .int nx1) (C := RX4) (T := TX4) (N := 6) hx hb hts iw_k_scanNumber_4 hown hK hP 0 rfl rfl 5 (by decide) (hts (.fieldLink RX4 29 "FlightDesk$Scanner" "next" "I") (by decide +kernel)) (fun _ h9 => h9) rfl dX4_scanNumber_141 ?_
                  have hPc := hP.sub (ws' := [(tp, .inr (5, [.ref yb, .int n])), (yb, .inl (cI, 1000, .inl fy))]) [2, 3] rfl
                  have hDc := hD.sub (ws' := [(tp, .inr (5, [.ref yb, .int n])), (yb, .inl (cI, 1000, .inl fy))]) [2, 3] (by decide) rfl
                  have hFc := va_free (wc := [(tp, .inr (5, [.ref yb, .int n])), (yb, .inl (cI, 1000, .inl fy))]) hD hS hA [2, 3] rfl
                  refine va_calli (va_runV (As := [.int nx1]) (rest := []) ⟨hx, hb, hml, hown, hts⟩ (k_byteAt l D cI cB cP H.size tp yb n nx1 fy (show 0 ≤ n.toInt ∧ n.toInt ≤ 1000 by first | assumption | omega | decide)) (cwV 1 hts gw_k_scanNumber_0 rfl rfl rfl (by decide +kernel) ⟨Nat.le_of_ble_eq_true rfl, Nat.le_of_ble_eq_true rfl⟩) ⟨ny_blind, va_recv hK hPc (ci := 5) (q0 := 0) rfl rfl, ny_pre hPc hK hN hDc⟩ rfl rfl hl.1 rfl (lv_room (Nat.le_of_ble_eq_true rfl)) dX4_scanNumber_144 ⟨Nat.le_of_ble_eq_true rfl, Nat.le_of_ble_eq_true rfl⟩) hS (fun q _ h => hFc q h) hFc (fun r40 u t H locs ht hvm hw hB hz1 hk1 hS => ?_)
                  obtain ⟨hP1, hD1⟩ := hB
                  rw [ht] at hP1
                  obtain ⟨hP, hD⟩ := va_join (wr := [(h0, .inr (4, [.ref tp, .int ct, .ref s2, .ref s3, .ref s4, .int nx1])), (s4, .inl (cI, 12, .inl f34))]) (w1 := [(tp, .inr (5, [.ref yb, .int n])), (yb, .inl (cI, 1000, .inl fy))]) hP hD [2, 3] [0, 1] rfl rfl (by decide) (by decide) hk1 hFc hP1 hD1
                  have hP : va_P D vwCl [(h0, .inr (4, [.ref tp, .int ct, .ref s2, .ref s3, .ref s4, .int nx1])), (s4, .inl (cI, 12, .inl f34)), (tp, .inr (5, [.ref yb, .int n])), (yb, .inl (cI, 1000, .inl fy))] H := hP
                  have hD : va_D A [(h0, .inr (4, [.ref tp, .int ct, .ref s2, .ref s3, .ref s4, .int nx1])), (s4, .inl (cI, 12, .inl f34)), (tp, .inr (5, [.ref yb, .int n])), (yb, .inl (cI, 1000, .inl fy))] := hD
                  have hr40 : ¬ r40.toInt = (-1) → 0 ≤ nx1.toInt ∧ nx1.toInt < n.toInt := hw
                  have hPc := hP.sub (ws' := []) [] rfl
                  have hDc := hD.sub (ws' := []) [] (by decide) rfl
                  have hFc := va_free (wc := []) hD hS hA [] rfl
                  refine va_calli (va_runS (As := [.int r40]) (rest := []) ⟨hx, hb, hml, hown, hts⟩ (k_isLetter l D cI cB cP H.size r40) (cwS 1 hts gw_k_scanNumber_1 rfl rfl rfl (by decide +kernel) ⟨Nat.le_of_ble_eq_true rfl, Nat.le_of_ble_eq_true rfl⟩) ⟨ny_blind, ny_pre hPc hK hN hDc⟩ rfl rfl hl.1 rfl (lv_room (Nat.le_of_ble_eq_true rfl)) dX4_scanNumber_147 ⟨Nat.le_of_ble_eq_true rfl, Nat.le_of_ble_eq_true rfl⟩) hS (fun q _ h => hFc q h) hFc (fun r41 u t H locs ht hvm hw hB hz1 hk1 hS => ?_)
                  obtain ⟨hP, hD⟩ := va_join (wr := [(h0, .inr (4, [.ref tp, .int ct, .ref s2, .ref s3, .ref s4, .int nx1])), (s4, .inl (cI, 12, .inl f34)), (tp, .inr (5, [.ref yb, .int n])), (yb, .inl (cI, 1000, .inl fy))]) (w1 := []) hP hD [] [0, 1, 2, 3] rfl rfl (by decide) (by decide) hk1 hFc ny_P0 ny_D0
                  have hP : va_P D vwCl [(h0, .inr (4, [.ref tp, .int ct, .ref s2, .ref s3, .ref s4, .int nx1])), (s4, .inl (cI, 12, .inl f34)), (tp, .inr (5, [.ref yb, .int n])), (yb, .inl (cI, 1000, .inl fy))] H := hP
                  have hD : va_D A [(h0, .inr (4, [.ref tp, .int ct, .ref s2, .ref s3, .ref s4, .int nx1])), (s4, .inl (cI, 12, .inl f34)), (tp, .inr (5, [.ref yb, .int n])), (yb, .inl (cI, 1000, .inl fy))] := hD
                  have hr41 : 0 ≤ r41.toInt := hw
                  refine lv_if_ne (tgt := 157) hx hb dX4_scanNumber_150 (by decide) (fun c42 => ?_) (fun c42 => ?_)
                  · have tc42 : ¬ (r41.toInt = 0) := i32_neq c42
                    refine lv_iconst (v := 0) hx hb dX4_scanNumber_157 (by decide) ?_
                    refine lv_istore (lv' := [(6, .int 0), (5, .int v35), (4, .int sz1), (3, .int nx), (0, .ref h0), (1, .int i), (2, .int z)]) hx hb dX4_scanNumber_158 hl (by decide) rfl (fun ls hl => ?_)
                    refine lv_iload hx hb dX4_scanNumber_160 (lv_at hl 0 rfl) ?_
                    refine lv_if_eq (tgt := 169) hx hb dX4_scanNumber_162 (by decide) (fun c43 => ?_) (fun h9 => (by first | exact absurd h9 (by decide) | exact absurd (by decide) h9))
                    refine lv_iconst (v := 4) hx hb dX4_scanNumber_169 (by decide) ?_
                    have hP9 := hP.sub (ws' := [(h0, .inr (4, [.ref tp, .int ct, .ref s2, .ref s3, .ref s4, .int nx1])), (tp, .inr (5, [.ref yb, .int n])), (yb, .inl (cI, 1000, .inl fy)), (s4, .inl (cI, 12, .inl f34))]) [0, 2, 3, 1] rfl
                    have hD9 := hD.sub (ws' := [(h0, .inr (4, [.ref tp, .int ct, .ref s2, .ref s3, .ref s4, .int nx1])), (tp, .inr (5, [.ref yb, .int n])), (yb, .inl (cI, 1000, .inl fy)), (s4, .inl (cI, 12, .inl f34))]) [0, 2, 3, 1] (by decide) rfl
                    refine W.widen (k := 0) (n := 0) (by decide) (by decide) ?_
                    exact W.iret (v := 4) hx hb hr (fun t ht hW => ⟨⟨4, (), rfl, (trivial), nx1, f34, (show 0 ≤ nx1.toInt ∧ nx1.toInt ≤ 1000 by first | assumption | omega | decide), by rw [ht]; exact hP9, hD9⟩, hS.F ht⟩) hS.2.2 dX4_scanNumber_170
                  · have tc42 : r41.toInt = 0 := i32_eq c42
                    refine lv_iconst (v := 1) hx hb dX4_scanNumber_153 (by decide) ?_
                    refine lv_goto (tgt := 158) hx hb dX4_scanNumber_154 (by decide) ?_
                    refine lv_istore (lv' := [(6, .int 1), (5, .int v35), (4, .int sz1), (3, .int nx), (0, .ref h0), (1, .int i), (2, .int z)]) hx hb dX4_scanNumber_158 hl (by decide) rfl (fun ls hl => ?_)
                    refine lv_iload hx hb dX4_scanNumber_160 (lv_at hl 0 rfl) ?_
                    refine lv_if_eq (tgt := 169) hx hb dX4_scanNumber_162 (by decide) (fun h9 => (by first | exact absurd h9 (by decide) | exact absurd (by decide) h9)) (fun c44 => ?_)
                    refine lv_iconst (v := 2) hx hb dX4_scanNumber_165 (by decide) ?_
                    refine lv_goto (tgt := 170) hx hb dX4_scanNumber_166 (by decide) ?_
                    have hP9 := hP.sub (ws' := [(h0, .inr (4, [.ref tp, .int ct, .ref s2, .ref s3, .ref s4, .int nx1])), (tp, .inr (5, [.ref yb, .int n])), (yb, .inl (cI, 1000, .inl fy)), (s4, .inl (cI, 12, .inl f34))]) [0, 2, 3, 1] rfl
                    have hD9 := hD.sub (ws' := [(h0, .inr (4, [.ref tp, .int ct, .ref s2, .ref s3, .ref s4, .int nx1])), (tp, .inr (5, [.ref yb, .int n])), (yb, .inl (cI, 1000, .inl fy)), (s4, .inl (cI, 12, .inl f34))]) [0, 2, 3, 1] (by decide) rfl
                    refine W.widen (k := 0) (n := 0) (by decide) (by decide) ?_
                    exact W.iret (v := 2) hx hb hr (fun t ht hW => ⟨⟨2, (), rfl, (trivial), nx1, f34, (show 0 ≤ nx1.toInt ∧ nx1.toInt ≤ 1000 by first | assumption | omega | decide), by rw [ht]; exact hP9, hD9⟩, hS.F ht⟩) hS.2.2 dX4_scanNumber_170
            · have tc33 : ¬ (z.toInt = 0) := i32_neq c33
              refine lv_iload hx hb dX4_scanNumber_107 (lv_at hl 0 rfl) ?_
              refine lv_ineg hx hb dX4_scanNumber_109 ?_
              refine lv_topi (fun v45 ev45 => ?_)
              refine lv_goto (tgt := 115) hx hb dX4_scanNumber_110 (by decide) ?_
              refine va_iast hx hb hK hP hD hS 1 0 rfl rfl (vp_in_iff.mpr ⟨show 0 ≤ i.toInt by omega, show i.toInt < ((12 : Nat) : Int) by omega⟩) dX4_scanNumber_115 (fun H locs hP hD hS => ?_)
              have hP : va_P D vwCl [(h0, .inr (4, [.ref tp, .int ct, .ref s2, .ref s3, .ref s4, .int nx1])), (s4, .inl (cI, 12, .inl (upd fv i.toNatClampNeg v45))), (tp, .inr (5, [.ref yb, .int n])), (yb, .inl (cI, 1000, .inl fy))] H := hP
              have hD : va_D A [(h0, .inr (4, [.ref tp, .int ct, .ref s2, .ref s3, .ref s4, .int nx1])), (s4, .inl (cI, 12, .inl (upd fv i.toNatClampNeg v45))), (tp, .inr (5, [.ref yb, .int n])), (yb, .inl (cI, 1000, .inl fy))] := hD
              obtain ⟨f46, ef46⟩ : ∃ z : Nat → Int32, z = (upd fv i.toNatClampNeg v45) := ⟨_, rfl⟩
              rw [← ef46] at hP hD
              refine lv_aload_n hx hb dX4_scanNumber_116 rfl (lv_at hl 2 rfl) ?_
              refine va_get (D := D) (ci := 4) (v := .int nx1) (C := RX4) (T := TX4) (N := 6) hx hb hts iw_k_scanNumber_4 hown hK hP 0 rfl rfl 5 (by decide) (hts (.fieldLink RX4 29 "FlightDesk$Scanner" "next" "I") (by decide +kernel)) (fun _ h9 => h9) rfl dX4_scanNumber_117 ?_
              refine lv_iload_n hx hb dX4_scanNumber_120 rfl (lv_at hl 1 rfl) ?_
              refine lv_isub hx hb dX4_scanNumber_121 ?_
              refine lv_topi (fun v47 ev47 => ?_)
              have tv47 : v47.toInt = (nx1.toInt - nx.toInt + 2147483648) % 4294967296 - 2147483648 := i32_sub ev47
              refine lv_istore (lv' := [(5, .int v47), (4, .int sz1), (3, .int nx), (0, .ref h0), (1, .int i), (2, .int z)]) hx hb dX4_scanNumber_122 hl (by decide) rfl (fun ls hl => ?_)
              refine lv_iload hx hb dX4_scanNumber_124 (lv_at hl 0 rfl) ?_
              refine lv_iconst (v := 1) hx hb dX4_scanNumber_126 (by decide) ?_
              refine lv_icmp_lt (tgt := 157) hx hb dX4_scanNumber_127 (by decide) (fun c48 => ?_) (fun c48 => ?_)
              · have tc48 : v47.toInt < 1 := i32_lt c48
                refine lv_iconst (v := 0) hx hb dX4_scanNumber_157 (by decide) ?_
                refine lv_istore (lv' := [(6, .int 0), (5, .int v47), (4, .int sz1), (3, .int nx), (0, .ref h0), (1, .int i), (2, .int z)]) hx hb dX4_scanNumber_158 hl (by decide) rfl (fun ls hl => ?_)
                refine lv_iload hx hb dX4_scanNumber_160 (lv_at hl 0 rfl) ?_
                refine lv_if_eq (tgt := 169) hx hb dX4_scanNumber_162 (by decide) (fun c49 => ?_) (fun h9 => (by first | exact absurd h9 (by decide) | exact absurd (by decide) h9))
                refine lv_iconst (v := 4) hx hb dX4_scanNumber_169 (by decide) ?_
                have hP9 := hP.sub (ws' := [(h0, .inr (4, [.ref tp, .int ct, .ref s2, .ref s3, .ref s4, .int nx1])), (tp, .inr (5, [.ref yb, .int n])), (yb, .inl (cI, 1000, .inl fy)), (s4, .inl (cI, 12, .inl f46))]) [0, 2, 3, 1] rfl
                have hD9 := hD.sub (ws' := [(h0, .inr (4, [.ref tp, .int ct, .ref s2, .ref s3, .ref s4, .int nx1])), (tp, .inr (5, [.ref yb, .int n])), (yb, .inl (cI, 1000, .inl fy)), (s4, .inl (cI, 12, .inl f46))]) [0, 2, 3, 1] (by decide) rfl
                refine W.widen (k := 0) (n := 0) (by decide) (by decide) ?_
                exact W.iret (v := 4) hx hb hr (fun t ht hW => ⟨⟨4, (), rfl, (trivial), nx1, f46, (show 0 ≤ nx1.toInt ∧ nx1.toInt ≤ 1000 by first | assumption | omega | decide), by rw [ht]; exact hP9, hD9⟩, hS.F ht⟩) hS.2.2 dX4_scanNumber_170
              · have tc48 : ¬ (v47.toInt < 1) := i32_nlt c48
                refine lv_iload hx hb dX4_scanNumber_130 (lv_at hl 0 rfl) ?_
                refine lv_iconst (v := 5) hx hb dX4_scanNumber_132 (by decide) ?_
                refine lv_icmp_gt (tgt := 157) hx hb dX4_scanNumber_133 (by decide) (fun c50 => ?_) (fun c50 => ?_)
                · have tc50 : 5 < v47.toInt := i32_lt c50
                  refine lv_iconst (v := 0) hx hb dX4_scanNumber_157 (by decide) ?_
                  refine lv_istore (lv' := [(6, .int 0), (5, .int v47), (4, .int sz1), (3, .int nx), (0, .ref h0), (1, .int i), (2, .int z)]) hx hb dX4_scanNumber_158 hl (by decide) rfl (fun ls hl => ?_)
                  refine lv_iload hx hb dX4_scanNumber_160 (lv_at hl 0 rfl) ?_
                  refine lv_if_eq (tgt := 169) hx hb dX4_scanNumber_162 (by decide) (fun c51 => ?_) (fun h9 => (by first | exact absurd h9 (by decide) | exact absurd (by decide) h9))
                  refine lv_iconst (v := 4) hx hb dX4_scanNumber_169 (by decide) ?_
                  have hP9 := hP.sub (ws' := [(h0, .inr (4, [.ref tp, .int ct, .ref s2, .ref s3, .ref s4, .int nx1])), (tp, .inr (5, [.ref yb, .int n])), (yb, .inl (cI, 1000, .inl fy)), (s4, .inl (cI, 12, .inl f46))]) [0, 2, 3, 1] rfl
                  have hD9 := hD.sub (ws' := [(h0, .inr (4, [.ref tp, .int ct, .ref s2, .ref s3, .ref s4, .int nx1])), (tp, .inr (5, [.ref yb, .int n])), (yb, .inl (cI, 1000, .inl fy)), (s4, .inl (cI, 12, .inl f46))]) [0, 2, 3, 1] (by decide) rfl
                  refine W.widen (k := 0) (n := 0) (by decide) (by decide) ?_
                  exact W.iret (v := 4) hx hb hr (fun t ht hW => ⟨⟨4, (), rfl, (trivial), nx1, f46, (show 0 ≤ nx1.toInt ∧ nx1.toInt ≤ 1000 by first | assumption | omega | decide), by rw [ht]; exact hP9, hD9⟩, hS.F ht⟩) hS.2.2 dX4_scanNumber_170
                · have tc50 : ¬ (5 < v47.toInt) := i32_nlt c50
                  refine lv_aload_n hx hb dX4_scanNumber_136 rfl (lv_at hl 3 rfl) ?_
                  refine va_get (D := D) (ci := 4) (v := .ref tp) (C := RX4) (T := TX4) (N := 6) hx hb hts iw_k_scanNumber_4 hown hK hP 0 rfl rfl 0 (by decide) (hts (.fieldLink RX4 21 "FlightDesk$Scanner" "tape" "LFlightDesk$Tape;") (by decide +kernel)) (fun _ h9 => h9) rfl dX4_scanNumber_137 ?_
                  refine lv_aload_n hx hb dX4_scanNumber_140 rfl (lv_at hl 3 rfl) ?_
                  refine va_get (D := D) (ci := 4) (v := .int nx1) (C := RX4) (T := TX4) (N := 6) hx hb hts iw_k_scanNumber_4 hown hK hP 0 rfl rfl 5 (by decide) (hts (.fieldLink RX4 29 "FlightDesk$Scanner" "next" "I") (by decide +kernel)) (fun _ h9 => h9) rfl dX4_scanNumber_141 ?_
                  have hPc := hP.sub (ws' := [(tp, .inr (5, [.ref yb, .int n])), (yb, .inl (cI, 1000, .inl fy))]) [2, 3] rfl
                  have hDc := hD.sub (ws' := [(tp, .inr (5, [.ref yb, .int n])), (yb, .inl (cI, 1000, .inl fy))]) [2, 3] (by decide) rfl
                  have hFc := va_free (wc := [(tp, .inr (5, [.ref yb, .int n])), (yb, .inl (cI, 1000, .inl fy))]) hD hS hA [2, 3] rfl
                  refine va_calli (va_runV (As := [.int nx1]) (rest := []) ⟨hx, hb, hml, hown, hts⟩ (k_byteAt l D cI cB cP H.size tp yb n nx1 fy (show 0 ≤ n.toInt ∧ n.toInt ≤ 1000 by first | assumption | omega | decide)) (cwV 1 hts gw_k_scanNumber_0 rfl rfl rfl (by decide +kernel) ⟨Nat.le_of_ble_eq_true rfl, Nat.le_of_ble_eq_true rfl⟩) ⟨ny_blind, va_recv hK hPc (ci := 5) (q0 := 0) rfl rfl, ny_pre hPc hK hN hDc⟩ rfl rfl hl.1 rfl (lv_room (Nat.le_of_ble_eq_true rfl)) dX4_scanNumber_144 ⟨Nat.le_of_ble_eq_true rfl, Nat.le_of_ble_eq_true rfl⟩) hS (fun q _ h => hFc q h) hFc (fun r52 u t H locs ht hvm hw hB hz1 hk1 hS => ?_)
                  obtain ⟨hP1, hD1⟩ := hB
                  rw [ht] at hP1
                  obtain ⟨hP, hD⟩ := va_join (wr := [(h0, .inr (4, [.ref tp, .int ct, .ref s2, .ref s3, .ref s4, .int nx1])), (s4, .inl (cI, 12, .inl f46))]) (w1 := [(tp, .inr (5, [.ref yb, .int n])), (yb, .inl (cI, 1000, .inl fy))]) hP hD [2, 3] [0, 1] rfl rfl (by decide) (by decide) hk1 hFc hP1 hD1
                  have hP : va_P D vwCl [(h0, .inr (4, [.ref tp, .int ct, .ref s2, .ref s3, .ref s4, .int nx1])), (s4, .inl (cI, 12, .inl f46)), (tp, .inr (5, [.ref yb, .int n])), (yb, .inl (cI, 1000, .inl fy))] H := hP
                  have hD : va_D A [(h0, .inr (4, [.ref tp, .int ct, .ref s2, .ref s3, .ref s4, .int nx1])), (s4, .inl (cI, 12, .inl f46)), (tp, .inr (5, [.ref yb, .int n])), (yb, .inl (cI, 1000, .inl fy))] := hD
                  have hr52 : ¬ r52.toInt = (-1) → 0 ≤ nx1.toInt ∧ nx1.toInt < n.toInt := hw
                  have hPc := hP.sub (ws' := []) [] rfl
                  have hDc := hD.sub (ws' := []) [] (by decide) rfl
                  have hFc := va_free (wc := []) hD hS hA [] rfl
                  refine va_calli (va_runS (As := [.int r52]) (rest := []) ⟨hx, hb, hml, hown, hts⟩ (k_isLetter l D cI cB cP H.size r52) (cwS 1 hts gw_k_scanNumber_1 rfl rfl rfl (by decide +kernel) ⟨Nat.le_of_ble_eq_true rfl, Nat.le_of_ble_eq_true rfl⟩) ⟨ny_blind, ny_pre hPc hK hN hDc⟩ rfl rfl hl.1 rfl (lv_room (Nat.le_of_ble_eq_true rfl)) dX4_scanNumber_147 ⟨Nat.le_of_ble_eq_true rfl, Nat.le_of_ble_eq_true rfl⟩) hS (fun q _ h => hFc q h) hFc (fun r53 u t H locs ht hvm hw hB hz1 hk1 hS => ?_)
                  obtain ⟨hP, hD⟩ := va_join (wr := [(h0, .inr (4, [.ref tp, .int ct, .ref s2, .ref s3, .ref s4, .int nx1])), (s4, .inl (cI, 12, .inl f46)), (tp, .inr (5, [.ref yb, .int n])), (yb, .inl (cI, 1000, .inl fy))]) (w1 := []) hP hD [] [0, 1, 2, 3] rfl rfl (by decide) (by decide) hk1 hFc ny_P0 ny_D0
                  have hP : va_P D vwCl [(h0, .inr (4, [.ref tp, .int ct, .ref s2, .ref s3, .ref s4, .int nx1])), (s4, .inl (cI, 12, .inl f46)), (tp, .inr (5, [.ref yb, .int n])), (yb, .inl (cI, 1000, .inl fy))] H := hP
                  have hD : va_D A [(h0, .inr (4, [.ref tp, .int ct, .ref s2, .ref s3, .ref s4, .int nx1])), (s4, .inl (cI, 12, .inl f46)), (tp, .inr (5, [.ref yb, .int n])), (yb, .inl (cI, 1000, .inl fy))] := hD
                  have hr53 : 0 ≤ r53.toInt := hw
                  refine lv_if_ne (tgt := 157) hx hb dX4_scanNumber_150 (by decide) (fun c54 => ?_) (fun c54 => ?_)
                  · have tc54 : ¬ (r53.toInt = 0) := i32_neq c54
                    refine lv_iconst (v := 0) hx hb dX4_scanNumber_157 (by decide) ?_
                    refine lv_istore (lv' := [(6, .int 0), (5, .int v47), (4, .int sz1), (3, .int nx), (0, .ref h0), (1, .int i), (2, .int z)]) hx hb dX4_scanNumber_158 hl (by decide) rfl (fun ls hl => ?_)
                    refine lv_iload hx hb dX4_scanNumber_160 (lv_at hl 0 rfl) ?_
                    refine lv_if_eq (tgt := 169) hx hb dX4_scanNumber_162 (by decide) (fun c55 => ?_) (fun h9 => (by first | exact absurd h9 (by decide) | exact absurd (by decide) h9))
                    refine lv_iconst (v := 4) hx hb dX4_scanNumber_169 (by decide) ?_
                    have hP9 := hP.sub (ws' := [(h0, .inr (4, [.ref tp, .int ct, .ref s2, .ref s3, .ref s4, .int nx1])), (tp, .inr (5, [.ref yb, .int n])), (yb, .inl (cI, 1000, .inl fy)), (s4, .inl (cI, 12, .inl f46))]) [0, 2, 3, 1] rfl
                    have hD9 := hD.sub (ws' := [(h0, .inr (4, [.ref tp, .int ct, .ref s2, .ref s3, .ref s4, .int nx1])), (tp, .inr (5, [.ref yb, .int n])), (yb, .inl (cI, 1000, .inl fy)), (s4, .inl (cI, 12, .inl f46))]) [0, 2, 3, 1] (by decide) rfl
                    refine W.widen (k := 0) (n := 0) (by decide) (by decide) ?_
                    exact W.iret (v := 4) hx hb hr (fun t ht hW => ⟨⟨4, (), rfl, (trivial), nx1, f46, (show 0 ≤ nx1.toInt ∧ nx1.toInt ≤ 1000 by first | assumption | omega | decide), by rw [ht]; exact hP9, hD9⟩, hS.F ht⟩) hS.2.2 dX4_scanNumber_170
                  · have tc54 : r53.toInt = 0 := i32_eq c54
                    refine lv_iconst (v := 1) hx hb dX4_scanNumber_153 (by decide) ?_
                    refine lv_goto (tgt := 158) hx hb dX4_scanNumber_154 (by decide) ?_
                    refine lv_istore (lv' := [(6, .int 1), (5, .int v47), (4, .int sz1), (3, .int nx), (0, .ref h0), (1, .int i), (2, .int z)]) hx hb dX4_scanNumber_158 hl (by decide) rfl (fun ls hl => ?_)
                    refine lv_iload hx hb dX4_scanNumber_160 (lv_at hl 0 rfl) ?_
                    refine lv_if_eq (tgt := 169) hx hb dX4_scanNumber_162 (by decide) (fun h9 => (by first | exact absurd h9 (by decide) | exact absurd (by decide) h9)) (fun c56 => ?_)
                    refine lv_iconst (v := 2) hx hb dX4_scanNumber_165 (by decide) ?_
                    refine lv_goto (tgt := 170) hx hb dX4_scanNumber_166 (by decide) ?_
                    have hP9 := hP.sub (ws' := [(h0, .inr (4, [.ref tp, .int ct, .ref s2, .ref s3, .ref s4, .int nx1])), (tp, .inr (5, [.ref yb, .int n])), (yb, .inl (cI, 1000, .inl fy)), (s4, .inl (cI, 12, .inl f46))]) [0, 2, 3, 1] rfl
                    have hD9 := hD.sub (ws' := [(h0, .inr (4, [.ref tp, .int ct, .ref s2, .ref s3, .ref s4, .int nx1])), (tp, .inr (5, [.ref yb, .int n])), (yb, .inl (cI, 1000, .inl fy)), (s4, .inl (cI, 12, .inl f46))]) [0, 2, 3, 1] (by decide) rfl
                    refine W.widen (k := 0) (n := 0) (by decide) (by decide) ?_
                    exact W.iret (v := 2) hx hb hr (fun t ht hW => ⟨⟨2, (), rfl, (trivial), nx1, f46, (show 0 ≤ nx1.toInt ∧ nx1.toInt ≤ 1000 by first | assumption | omega | decide), by rw [ht]; exact hP9, hD9⟩, hS.F ht⟩) hS.2.2 dX4_scanNumber_170
          · have tc32 : ¬ (r31.toInt = 0) := i32_neq c32
            refine lv_aload_n hx hb dX4_scanNumber_53 rfl (lv_at hl 2 rfl) ?_
            refine va_get (D := D) (ci := 4) (v := .int nx1) (C := RX4) (T := TX4) (N := 6) hx hb hts iw_k_scanNumber_4 hown hK hP 0 rfl rfl 5 (by decide) (hts (.fieldLink RX4 29 "FlightDesk$Scanner" "next" "I") (by decide +kernel)) (fun _ h9 => h9) rfl dX4_scanNumber_54 ?_
            refine lv_iload_n hx hb dX4_scanNumber_57 rfl (lv_at hl 1 rfl) ?_
            refine lv_isub hx hb dX4_scanNumber_58 ?_
            refine lv_topi (fun v57 ev57 => ?_)
            have tv57 : v57.toInt = (nx1.toInt - nx.toInt + 2147483648) % 4294967296 - 2147483648 := i32_sub ev57
            refine lv_iconst (v := 5) hx hb dX4_scanNumber_59 (by decide) ?_
            refine lv_icmp_ge (tgt := 85) hx hb dX4_scanNumber_60 (by decide) (fun c58 => ?_) (fun c58 => ?_)
            · have tc58 : 5 ≤ v57.toInt := i32_le c58
              refine lv_aload_n hx hb dX4_scanNumber_85 rfl (lv_at hl 2 rfl) ?_
              refine lv_dup hx hb dX4_scanNumber_86 rfl ?_
              refine va_get (D := D) (ci := 4) (v := .int nx1) (C := RX4) (T := TX4) (N := 6) hx hb hts iw_k_scanNumber_4 hown hK hP 0 rfl rfl 5 (by decide) (hts (.fieldLink RX4 29 "FlightDesk$Scanner" "next" "I") (by decide +kernel)) (fun _ h9 => h9) rfl dX4_scanNumber_87 ?_
              refine lv_iconst (v := 1) hx hb dX4_scanNumber_90 (by decide) ?_
              refine lv_iadd hx hb dX4_scanNumber_91 ?_
              refine lv_topi (fun v59 ev59 => ?_)
              have tv59 : v59.toInt = (nx1.toInt + 1 + 2147483648) % 4294967296 - 2147483648 := i32_add ev59
              refine va_put (D := D) (ci := 4) (v := .int v59) (ty := .int) (C := RX4) (T := TX4) (N := 6) hx hb hts iw_k_scanNumber_4 tyX4 tyX4_ok nmX4 hown hK hP hD hS 0 rfl rfl 5 (by decide) (hts (.fieldLink RX4 29 "FlightDesk$Scanner" "next" "I") (by decide +kernel)) (fun _ h9 => h9) rfl (by decide +kernel) rfl rfl (Nat.le_of_ble_eq_true rfl) dX4_scanNumber_92 (fun H locs hP hD hS => ?_)
              have hP : va_P D vwCl [(h0, .inr (4, [.ref tp, .int ct, .ref s2, .ref s3, .ref s4, .int v59])), (s4, .inl (cI, 12, .inl fv)), (tp, .inr (5, [.ref yb, .int n])), (yb, .inl (cI, 1000, .inl fy))] H := hP
              have hD : va_D A [(h0, .inr (4, [.ref tp, .int ct, .ref s2, .ref s3, .ref s4, .int v59])), (s4, .inl (cI, 12, .inl fv)), (tp, .inr (5, [.ref yb, .int n])), (yb, .inl (cI, 1000, .inl fy))] := hD
              refine lv_goto (tgt := 22) hx hb dX4_scanNumber_95 (by decide) ?_
              exact ih_N4 sz1 v59 _ _ _ (show 0 ≤ v59.toInt ∧ v59.toInt ≤ 1000 by first | assumption | omega | decide) (by omega) (hP.sub [0, 2, 3, 1] rfl) (hD.sub [0, 2, 3, 1] (by decide) rfl) hS (lv_sub hl [0, 1, 2, 3, 4] rfl)
            · have tc58 : ¬ (5 ≤ v57.toInt) := i32_nle c58
              refine lv_iload hx hb dX4_scanNumber_63 (lv_at hl 0 rfl) ?_
              refine lv_bipush (v := 10) hx hb dX4_scanNumber_65 (by decide) ?_
              refine lv_imul hx hb dX4_scanNumber_67 ?_
              refine lv_topi (fun v60 ev60 => ?_)
              have tv60 : v60.toInt = (sz1.toInt * 10 + 2147483648) % 4294967296 - 2147483648 := i32_mul ev60
              refine lv_aload_n hx hb dX4_scanNumber_68 rfl (lv_at hl 2 rfl) ?_
              refine va_get (D := D) (ci := 4) (v := .ref tp) (C := RX4) (T := TX4) (N := 6) hx hb hts iw_k_scanNumber_4 hown hK hP 0 rfl rfl 0 (by decide) (hts (.fieldLink RX4 21 "FlightDesk$Scanner" "tape" "LFlightDesk$Tape;") (by decide +kernel)) (fun _ h9 => h9) rfl dX4_scanNumber_69 ?_
              refine lv_aload_n hx hb dX4_scanNumber_72 rfl (lv_at hl 2 rfl) ?_
              refine va_get (D := D) (ci := 4) (v := .int nx1) (C := RX4) (T := TX4) (N := 6) hx hb hts iw_k_scanNumber_4 hown hK hP 0 rfl rfl 5 (by decide) (hts (.fieldLink RX4 29 "FlightDesk$Scanner" "next" "I") (by decide +kernel)) (fun _ h9 => h9) rfl dX4_scanNumber_73 ?_
              have hPc := hP.sub (ws' := [(tp, .inr (5, [.ref yb, .int n])), (yb, .inl (cI, 1000, .inl fy))]) [2, 3] rfl
              have hDc := hD.sub (ws' := [(tp, .inr (5, [.ref yb, .int n])), (yb, .inl (cI, 1000, .inl fy))]) [2, 3] (by decide) rfl
              have hFc := va_free (wc := [(tp, .inr (5, [.ref yb, .int n])), (yb, .inl (cI, 1000, .inl fy))]) hD hS hA [2, 3] rfl
              refine va_calli (va_runV (As := [.int nx1]) (rest := [.int v60]) ⟨hx, hb, hml, hown, hts⟩ (k_byteAt l D cI cB cP H.size tp yb n nx1 fy (show 0 ≤ n.toInt ∧ n.toInt ≤ 1000 by first | assumption | omega | decide)) (cwV 1 hts gw_k_scanNumber_0 rfl rfl rfl (by decide +kernel) ⟨Nat.le_of_ble_eq_true rfl, Nat.le_of_ble_eq_true rfl⟩) ⟨ny_blind, va_recv hK hPc (ci := 5) (q0 := 0) rfl rfl, ny_pre hPc hK hN hDc⟩ rfl rfl hl.1 rfl (lv_room (Nat.le_of_ble_eq_true rfl)) dX4_scanNumber_76 ⟨Nat.le_of_ble_eq_true rfl, Nat.le_of_ble_eq_true rfl⟩) hS (fun q _ h => hFc q h) hFc (fun r61 u t H locs ht hvm hw hB hz1 hk1 hS => ?_)
              obtain ⟨hP1, hD1⟩ := hB
              rw [ht] at hP1
              obtain ⟨hP, hD⟩ := va_join (wr := [(h0, .inr (4, [.ref tp, .int ct, .ref s2, .ref s3, .ref s4, .int nx1])), (s4, .inl (cI, 12, .inl fv))]) (w1 := [(tp, .inr (5, [.ref yb, .int n])), (yb, .inl (cI, 1000, .inl fy))]) hP hD [2, 3] [0, 1] rfl rfl (by decide) (by decide) hk1 hFc hP1 hD1
              have hP : va_P D vwCl [(h0, .inr (4, [.ref tp, .int ct, .ref s2, .ref s3, .ref s4, .int nx1])), (s4, .inl (cI, 12, .inl fv)), (tp, .inr (5, [.ref yb, .int n])), (yb, .inl (cI, 1000, .inl fy))] H := hP
              have hD : va_D A [(h0, .inr (4, [.ref tp, .int ct, .ref s2, .ref s3, .ref s4, .int nx1])), (s4, .inl (cI, 12, .inl fv)), (tp, .inr (5, [.ref yb, .int n])), (yb, .inl (cI, 1000, .inl fy))] := hD
              have hr61 : ¬ r61.toInt = (-1) → 0 ≤ nx1.toInt ∧ nx1.toInt < n.toInt := hw
              refine lv_iadd hx hb dX4_scanNumber_79 ?_
              refine lv_topi (fun v62 ev62 => ?_)
              have tv62 : v62.toInt = (v60.toInt + r61.toInt + 2147483648) % 4294967296 - 2147483648 := i32_add ev62
              refine lv_bipush (v := 48) hx hb dX4_scanNumber_80 (by decide) ?_
              refine lv_isub hx hb dX4_scanNumber_82 ?_
              refine lv_topi (fun v63 ev63 => ?_)
              have tv63 : v63.toInt = (v62.toInt - 48 + 2147483648) % 4294967296 - 2147483648 := i32_sub ev63
              refine lv_istore (lv' := [(4, .int v63), (3, .int nx), (0, .ref h0), (1, .int i), (2, .int z)]) hx hb dX4_scanNumber_83 hl (by decide) rfl (fun ls hl => ?_)
              refine lv_aload_n hx hb dX4_scanNumber_85 rfl (lv_at hl 2 rfl) ?_
              refine lv_dup hx hb dX4_scanNumber_86 rfl ?_
              refine va_get (D := D) (ci := 4) (v := .int nx1) (C := RX4) (T := TX4) (N := 6) hx hb hts iw_k_scanNumber_4 hown hK hP 0 rfl rfl 5 (by decide) (hts (.fieldLink RX4 29 "FlightDesk$Scanner" "next" "I") (by decide +kernel)) (fun _ h9 => h9) rfl dX4_scanNumber_87 ?_
              refine lv_iconst (v := 1) hx hb dX4_scanNumber_90 (by decide) ?_
              refine lv_iadd hx hb dX4_scanNumber_91 ?_
              refine lv_topi (fun v64 ev64 => ?_)
              have tv64 : v64.toInt = (nx1.toInt + 1 + 2147483648) % 4294967296 - 2147483648 := i32_add ev64
              refine va_put (D := D) (ci := 4) (v := .int v64) (ty := .int) (C := RX4) (T := TX4) (N := 6) hx hb hts iw_k_scanNumber_4 tyX4 tyX4_ok nmX4 hown hK hP hD hS 0 rfl rfl 5 (by decide) (hts (.fieldLink RX4 29 "FlightDesk$Scanner" "next" "I") (by decide +kernel)) (fun _ h9 => h9) rfl (by decide +kernel) rfl rfl (Nat.le_of_ble_eq_true rfl) dX4_scanNumber_92 (fun H locs hP hD hS => ?_)
              have hP : va_P D vwCl [(h0, .inr (4, [.ref tp, .int ct, .ref s2, .ref s3, .ref s4, .int v64])), (s4, .inl (cI, 12, .inl fv)), (tp, .inr (5, [.ref yb, .int n])), (yb, .inl (cI, 1000, .inl fy))] H := hP
              have hD : va_D A [(h0, .inr (4, [.ref tp, .int ct, .ref s2, .ref s3, .ref s4, .int v64])), (s4, .inl (cI, 12, .inl fv)), (tp, .inr (5, [.ref yb, .int n])), (yb, .inl (cI, 1000, .inl fy))] := hD
              refine lv_goto (tgt := 22) hx hb dX4_scanNumber_95 (by decide) ?_
              exact ih_N4 v63 v64 _ _ _ (show 0 ≤ v64.toInt ∧ v64.toInt ≤ 1000 by first | assumption | omega | decide) (by omega) (hP.sub [0, 2, 3, 1] rfl) (hD.sub [0, 2, 3, 1] (by decide) rfl) hS (lv_sub hl [0, 1, 2, 3, 4] rfl)
    exact loop3 _ 0 nx _ _ _ (show 0 ≤ nx.toInt ∧ nx.toInt ≤ 1000 by first | assumption | omega | decide) (Nat.lt_succ_self _) (hP.sub [0, 1, 2, 3] rfl) (hD.sub [0, 1, 2, 3] (by decide) rfl) hS (lv_sub hl [0, 1, 2, 3, 4] rfl)
  · have tc1 : ¬ (z.toInt = 0) := i32_neq c1
    refine lv_aload_n hx hb dX4_scanNumber_4 rfl (lv_at hl 0 rfl) ?_
    refine lv_dup hx hb dX4_scanNumber_5 rfl ?_
    refine va_get (D := D) (ci := 4) (v := .int nx) (C := RX4) (T := TX4) (N := 6) hx hb hts iw_k_scanNumber_4 hown hK hP 0 rfl rfl 5 (by decide) (hts (.fieldLink RX4 29 "FlightDesk$Scanner" "next" "I") (by decide +kernel)) (fun _ h9 => h9) rfl dX4_scanNumber_6 ?_
    refine lv_iconst (v := 1) hx hb dX4_scanNumber_9 (by decide) ?_
    refine lv_iadd hx hb dX4_scanNumber_10 ?_
    refine lv_topi (fun v65 ev65 => ?_)
    have tv65 : v65.toInt = (nx.toInt + 1 + 2147483648) % 4294967296 - 2147483648 := i32_add ev65
    refine va_put (D := D) (ci := 4) (v := .int v65) (ty := .int) (C := RX4) (T := TX4) (N := 6) hx hb hts iw_k_scanNumber_4 tyX4 tyX4_ok nmX4 hown hK hP hD hS 0 rfl rfl 5 (by decide) (hts (.fieldLink RX4 29 "FlightDesk$Scanner" "next" "I") (by decide +kernel)) (fun _ h9 => h9) rfl (by decide +kernel) rfl rfl (Nat.le_of_ble_eq_true rfl) dX4_scanNumber_11 (fun H locs hP hD hS => ?_)
    have hP : va_P D vwCl [(h0, .inr (4, [.ref tp, .int ct, .ref s2, .ref s3, .ref s4, .int v65])), (tp, .inr (5, [.ref yb, .int n])), (yb, .inl (cI, 1000, .inl fy)), (s4, .inl (cI, 12, .inl fv))] H := hP
    have hD : va_D A [(h0, .inr (4, [.ref tp, .int ct, .ref s2, .ref s3, .ref s4, .int v65])), (tp, .inr (5, [.ref yb, .int n])), (yb, .inl (cI, 1000, .inl fy)), (s4, .inl (cI, 12, .inl fv))] := hD
    refine lv_aload_n hx hb dX4_scanNumber_14 rfl (lv_at hl 0 rfl) ?_
    refine va_get (D := D) (ci := 4) (v := .int v65) (C := RX4) (T := TX4) (N := 6) hx hb hts iw_k_scanNumber_4 hown hK hP 0 rfl rfl 5 (by decide) (hts (.fieldLink RX4 29 "FlightDesk$Scanner" "next" "I") (by decide +kernel)) (fun _ h9 => h9) rfl dX4_scanNumber_15 ?_
    refine lv_istore_n (lv' := [(3, .int v65), (0, .ref h0), (1, .int i), (2, .int z)]) hx hb dX4_scanNumber_18 rfl hl (by decide) rfl (fun ls hl => ?_)
    refine lv_iconst (v := 0) hx hb dX4_scanNumber_19 (by decide) ?_
    refine lv_istore (lv' := [(4, .int 0), (3, .int v65), (0, .ref h0), (1, .int i), (2, .int z)]) hx hb dX4_scanNumber_20 hl (by decide) rfl (fun ls hl => ?_)
    have loop67 : ∀ (N68 : Nat) (sz1 : Int32) (nx1 : Int32) (H : Heap) (locs : List Loc) (ls : Array Slot), (0 ≤ nx1.toInt ∧ nx1.toInt ≤ 1000) → (1000 - nx1.toInt).toNat < N68 → va_P D vwCl [(h0, .inr (4, [.ref tp, .int ct, .ref s2, .ref s3, .ref s4, .int nx1])), (tp, .inr (5, [.ref yb, .int n])), (yb, .inl (cI, 1000, .inl fy)), (s4, .inl (cI, 12, .inl fv))] H → va_D A [(h0, .inr (4, [.ref tp, .int ct, .ref s2, .ref s3, .ref s4, .int nx1])), (tp, .inr (5, [.ref yb, .int n])), (yb, .inl (cI, 1000, .inl fy)), (s4, .inl (cI, 12, .inl fv))] → va_S A s.heap H locs → lv_has ls 7 [(4, .int sz1), (3, .int v65), (0, .ref h0), (1, .int i), (2, .int z)] → W p l e ({ frames := 1, cells := 0, slots := 0, locals := 21 } : Room) s m ([.ref h0, .int i, .int z] : List Value).toArray below meth c H locs 0 0 (MQ below (va_Qi (fun (r : Int32) (_ : Unit) => True) (fun _ t => ∃ nx9 : Int32, ∃ gv : Nat → Int32, (0 ≤ nx9.toInt ∧ nx9.toInt ≤ 1000) ∧ va_P D vwCl [(h0, .inr (4, [.ref tp, .int ct, .ref s2, .ref s3, .ref s4, .int nx9])), (tp, .inr (5, [.ref yb, .int n])), (yb, .inl (cI, 1000, .inl fy)), (s4, .inl (cI, 12, .inl gv))] t.heap ∧ va_D A [(h0, .inr (4, [.ref tp, .int ct, .ref s2, .ref s3, .ref s4, .int nx9])), (tp, .inr (5, [.ref yb, .int n])), (yb, .inl (cI, 1000, .inl fy)), (s4, .inl (cI, 12, .inl gv))]) A) ([.ref h0, .int i, .int z] : List Value).toArray s 0 0 A) (F0 m 22 ls []) := by
      intro N68
      induction N68 with
      | zero => intro sz1 nx1 H locs ls hi66 hm9 hP hD hS hl; exact absurd hm9 (Nat.not_lt_zero _)
      | succ N68 ih_N68 => 
        intro sz1 nx1 H locs ls hi66 hm9 hP hD hS hl
        refine lv_aload_n hx hb dX4_scanNumber_22 rfl (lv_at hl 2 rfl) ?_
        refine va_get (D := D) (ci := 4) (v := .int nx1) (C := RX4) (T := TX4) (N := 6) hx hb hts iw_k_scanNumber_4 hown hK hP 0 rfl rfl 5 (by decide) (hts (.fieldLink RX4 29 "FlightDesk$Scanner" "next" "I") (by decide +kernel)) (fun _ h9 => h9) rfl dX4_scanNumber_23 ?_
        refine lv_aload_n hx hb dX4_scanNumber_26 rfl (lv_at hl 2 rfl) ?_
        refine va_get (D := D) (ci := 4) (v := .ref tp) (C := RX4) (T := TX4) (N := 6) hx hb hts iw_k_scanNumber_4 hown hK hP 0 rfl rfl 0 (by decide) (hts (.fieldLink RX4 21 "FlightDesk$Scanner" "tape" "LFlightDesk$Tape;") (by decide +kernel)) (fun _ h9 => h9) rfl dX4_scanNumber_27 ?_
        refine va_get (D := D) (ci := 5) (v := .int n) (C := RX5) (T := TX5) (N := 2) hx hb hts iw_k_scanNumber_5 hown hK hP 1 rfl rfl 1 (by decide) (hts (.fieldLink RX4 54 "FlightDesk$Tape" "length" "I") (by decide +kernel)) (fun _ h9 => h9) rfl dX4_scanNumber_30 ?_
        refine lv_icmp_ge (tgt := 98) hx hb dX4_scanNumber_33 (by decide) (fun c69 => ?_) (fun c69 => ?_)
        · have tc69 : n.toInt ≤ nx1.toInt := i32_le c69
          refine lv_aload_n hx hb dX4_scanNumber_98 rfl (lv_at hl 2 rfl) ?_
          refine va_get (D := D) (ci := 4) (v := .ref s4) (C := RX4) (T := TX4) (N := 6) hx hb hts iw_k_scanNumber_4 hown hK hP 0 rfl rfl 4 (by decide) (hts (.fieldLink RX4 18 "FlightDesk$Scanner" "value" "[I") (by decide +kernel)) (fun _ h9 => h9) rfl dX4_scanNumber_99 ?_
          refine lv_iload_n hx hb dX4_scanNumber_102 rfl (lv_at hl 3 rfl) ?_
          refine lv_iload_n hx hb dX4_scanNumber_103 rfl (lv_at hl 4 rfl) ?_
          refine lv_if_eq (tgt := 113) hx hb dX4_scanNumber_104 (by decide) (fun c70 => ?_) (fun c70 => ?_)
          · have tc70 : z.toInt = 0 := i32_eq c70
            refine lv_iload hx hb dX4_scanNumber_113 (lv_at hl 0 rfl) ?_
            refine va_iast hx hb hK hP hD hS 3 0 rfl rfl (vp_in_iff.mpr ⟨show 0 ≤ i.toInt by omega, show i.toInt < ((12 : Nat) : Int) by omega⟩) dX4_scanNumber_115 (fun H locs hP hD hS => ?_)
            have hP : va_P D vwCl [(h0, .inr (4, [.ref tp, .int ct, .ref s2, .ref s3, .ref s4, .int nx1])), (tp, .inr (5, [.ref yb, .int n])), (yb, .inl (cI, 1000, .inl fy)), (s4, .inl (cI, 12, .inl (upd fv i.toNatClampNeg sz1)))] H := hP
            have hD : va_D A [(h0, .inr (4, [.ref tp, .int ct, .ref s2, .ref s3, .ref s4, .int nx1])), (tp, .inr (5, [.ref yb, .int n])), (yb, .inl (cI, 1000, .inl fy)), (s4, .inl (cI, 12, .inl (upd fv i.toNatClampNeg sz1)))] := hD
            obtain ⟨f71, ef71⟩ : ∃ z : Nat → Int32, z = (upd fv i.toNatClampNeg sz1) := ⟨_, rfl⟩
            rw [← ef71] at hP hD
            refine lv_aload_n hx hb dX4_scanNumber_116 rfl (lv_at hl 2 rfl) ?_
            refine va_get (D := D) (ci := 4) (v := .int nx1) (C := RX4) (T := TX4) (N := 6) hx hb hts iw_k_scanNumber_4 hown hK hP 0 rfl rfl 5 (by decide) (hts (.fieldLink RX4 29 "FlightDesk$Scanner" "next" "I") (by decide +kernel)) (fun _ h9 => h9) rfl dX4_scanNumber_117 ?_
            refine lv_iload_n hx hb dX4_scanNumber_120 rfl (lv_at hl 1 rfl) ?_
            refine lv_isub hx hb dX4_scanNumber_121 ?_
            refine lv_topi (fun v72 ev72 => ?_)
            have tv72 : v72.toInt = (nx1.toInt - v65.toInt + 2147483648) % 4294967296 - 2147483648 := i32_sub ev72
            refine lv_istore (lv' := [(5, .int v72), (4, .int sz1), (3, .int v65), (0, .ref h0), (1, .int i), (2, .int z)]) hx hb dX4_scanNumber_122 hl (by decide) rfl (fun ls hl => ?_)
            refine lv_iload hx hb dX4_scanNumber_124 (lv_at hl 0 rfl) ?_
            refine lv_iconst (v := 1) hx hb dX4_scanNumber_126 (by decide) ?_
            refine lv_icmp_lt (tgt := 157) hx hb dX4_scanNumber_127 (by decide) (fun c73 => ?_) (fun c73 => ?_)
            · have tc73 : v72.toInt < 1 := i32_lt c73
              refine lv_iconst (v := 0) hx hb dX4_scanNumber_157 (by decide) ?_
              refine lv_istore (lv' := [(6, .int 0), (5, .int v72), (4, .int sz1), (3, .int v65), (0, .ref h0), (1, .int i), (2, .int z)]) hx hb dX4_scanNumber_158 hl (by decide) rfl (fun ls hl => ?_)
              refine lv_iload hx hb dX4_scanNumber_160 (lv_at hl 0 rfl) ?_
              refine lv_if_eq (tgt := 169) hx hb dX4_scanNumber_162 (by decide) (fun c74 => ?_) (fun h9 => (by first | exact absurd h9 (by decide) | exact absurd (by decide) h9))
              refine lv_iconst (v := 4) hx hb dX4_scanNumber_169 (by decide) ?_
              have hP9 := hP.sub (ws' := [(h0, .inr (4, [.ref tp, .int ct, .ref s2, .ref s3, .ref s4, .int nx1])), (tp, .inr (5, [.ref yb, .int n])), (yb, .inl (cI, 1000, .inl fy)), (s4, .inl (cI, 12, .inl f71))]) [0, 1, 2, 3] rfl
              have hD9 := hD.sub (ws' := [(h0, .inr (4, [.ref tp, .int ct, .ref s2, .ref s3, .ref s4, .int nx1])), (tp, .inr (5, [.ref yb, .int n])), (yb, .inl (cI, 1000, .inl fy)), (s4, .inl (cI, 12, .inl f71))]) [0, 1, 2, 3] (by decide) rfl
              refine W.widen (k := 0) (n := 0) (by decide) (by decide) ?_
              exact W.iret (v := 4) hx hb hr (fun t ht hW => ⟨⟨4, (), rfl, (trivial), nx1, f71, (show 0 ≤ nx1.toInt ∧ nx1.toInt ≤ 1000 by first | assumption | omega | decide), by rw [ht]; exact hP9, hD9⟩, hS.F ht⟩) hS.2.2 dX4_scanNumber_170
            · have tc73 : ¬ (v72.toInt < 1) := i32_nlt c73
              refine lv_iload hx hb dX4_scanNumber_130 (lv_at hl 0 rfl) ?_
              refine lv_iconst (v := 5) hx hb dX4_scanNumber_132 (by decide) ?_
              refine lv_icmp_gt (tgt := 157) hx hb dX4_scanNumber_133 (by decide) (fun c75 => ?_) (fun c75 => ?_)
              · have tc75 : 5 < v72.toInt := i32_lt c75
                refine lv_iconst (v := 0) hx hb dX4_scanNumber_157 (by decide) ?_
                refine lv_istore (lv' := [(6, .int 0), (5, .int v72), (4, .int sz1), (3, .int v65), (0, .ref h0), (1, .int i), (2, .int z)]) hx hb dX4_scanNumber_158 hl (by decide) rfl (fun ls hl => ?_)
                refine lv_iload hx hb dX4_scanNumber_160 (lv_at hl 0 rfl) ?_
                refine lv_if_eq (tgt := 169) hx hb dX4_scanNumber_162 (by decide) (fun c76 => ?_) (fun h9 => (by first | exact absurd h9 (by decide) | exact absurd (by decide) h9))
                refine lv_iconst (v := 4) hx hb dX4_scanNumber_169 (by decide) ?_
                have hP9 := hP.sub (ws' := [(h0, .inr (4, [.ref tp, .int ct, .ref s2, .ref s3, .ref s4, .int nx1])), (tp, .inr (5, [.ref yb, .int n])), (yb, .inl (cI, 1000, .inl fy)), (s4, .inl (cI, 12, .inl f71))]) [0, 1, 2, 3] rfl
                have hD9 := hD.sub (ws' := [(h0, .inr (4, [.ref tp, .int ct, .ref s2, .ref s3, .ref s4, .int nx1])), (tp, .inr (5, [.ref yb, .int n])), (yb, .inl (cI, 1000, .inl fy)), (s4, .inl (cI, 12, .inl f71))]) [0, 1, 2, 3] (by decide) rfl
                refine W.widen (k := 0) (n := 0) (by decide) (by decide) ?_
                exact W.iret (v := 4) hx hb hr (fun t ht hW => ⟨⟨4, (), rfl, (trivial), nx1, f71, (show 0 ≤ nx1.toInt ∧ nx1.toInt ≤ 1000 by first | assumption | omega | decide), by rw [ht]; exact hP9, hD9⟩, hS.F ht⟩) hS.2.2 dX4_scanNumber_170
              · have tc75 : ¬ (5 < v72.toInt) := i32_nlt c75
                refine lv_aload_n hx hb dX4_scanNumber_136 rfl (lv_at hl 3 rfl) ?_
                refine va_get (D := D) (ci := 4) (v := .ref tp) (C := RX4) (T := TX4) (N := 6) hx hb hts iw_k_scanNumber_4 hown hK hP 0 rfl rfl 0 (by decide) (hts (.fieldLink RX4 21 "FlightDesk$Scanner" "tape" "LFlightDesk$Tape;") (by decide +kernel)) (fun _ h9 => h9) rfl dX4_scanNumber_137 ?_
                refine lv_aload_n hx hb dX4_scanNumber_140 rfl (lv_at hl 3 rfl) ?_
                refine va_get (D := D) (ci := 4) (v := .int nx1) (C := RX4) (T := TX4) (N := 6) hx hb hts iw_k_scanNumber_4 hown hK hP 0 rfl rfl 5 (by decide) (hts (.fieldLink RX4 29 "FlightDesk$Scanner" "next" "I") (by decide +kernel)) (fun _ h9 => h9) rfl dX4_scanNumber_141 ?_
                have hPc := hP.sub (ws' := [(tp, .inr (5, [.ref yb, .int n])), (yb, .inl (cI, 1000, .inl fy))]) [1, 2] rfl
                have hDc := hD.sub (ws' := [(tp, .inr (5, [.ref yb, .int n])), (yb, .inl (cI, 1000, .inl fy))]) [1, 2] (by decide) rfl
                have hFc := va_free (wc := [(tp, .inr (5, [.ref yb, .int n])), (yb, .inl (cI, 1000, .inl fy))]) hD hS hA [1, 2] rfl
                refine va_calli (va_runV (As := [.int nx1]) (rest := []) ⟨hx, hb, hml, hown, hts⟩ (k_byteAt l D cI cB cP H.size tp yb n nx1 fy (show 0 ≤ n.toInt ∧ n.toInt ≤ 1000 by first | assumption | omega | decide)) (cwV 1 hts gw_k_scanNumber_0 rfl rfl rfl (by decide +kernel) ⟨Nat.le_of_ble_eq_true rfl, Nat.le_of_ble_eq_true rfl⟩) ⟨ny_blind, va_recv hK hPc (ci := 5) (q0 := 0) rfl rfl, ny_pre hPc hK hN hDc⟩ rfl rfl hl.1 rfl (lv_room (Nat.le_of_ble_eq_true rfl)) dX4_scanNumber_144 ⟨Nat.le_of_ble_eq_true rfl, Nat.le_of_ble_eq_true rfl⟩) hS (fun q _ h => hFc q h) hFc (fun r77 u t H locs ht hvm hw hB hz1 hk1 hS => ?_)
                obtain ⟨hP1, hD1⟩ := hB
                rw [ht] at hP1
                obtain ⟨hP, hD⟩ := va_join (wr := [(h0, .inr (4, [.ref tp, .int ct, .ref s2, .ref s3, .ref s4, .int nx1])), (s4, .inl (cI, 12, .inl f71))]) (w1 := [(tp, .inr (5, [.ref yb, .int n])), (yb, .inl (cI, 1000, .inl fy))]) hP hD [1, 2] [0, 3] rfl rfl (by decide) (by decide) hk1 hFc hP1 hD1
                have hP : va_P D vwCl [(h0, .inr (4, [.ref tp, .int ct, .ref s2, .ref s3, .ref s4, .int nx1])), (s4, .inl (cI, 12, .inl f71)), (tp, .inr (5, [.ref yb, .int n])), (yb, .inl (cI, 1000, .inl fy))] H := hP
                have hD : va_D A [(h0, .inr (4, [.ref tp, .int ct, .ref s2, .ref s3, .ref s4, .int nx1])), (s4, .inl (cI, 12, .inl f71)), (tp, .inr (5, [.ref yb, .int n])), (yb, .inl (cI, 1000, .inl fy))] := hD
                have hr77 : ¬ r77.toInt = (-1) → 0 ≤ nx1.toInt ∧ nx1.toInt < n.toInt := hw
                have hPc := hP.sub (ws' := []) [] rfl
                have hDc := hD.sub (ws' := []) [] (by decide) rfl
                have hFc := va_free (wc := []) hD hS hA [] rfl
                refine va_calli (va_runS (As := [.int r77]) (rest := []) ⟨hx, hb, hml, hown, hts⟩ (k_isLetter l D cI cB cP H.size r77) (cwS 1 hts gw_k_scanNumber_1 rfl rfl rfl (by decide +kernel) ⟨Nat.le_of_ble_eq_true rfl, Nat.le_of_ble_eq_true rfl⟩) ⟨ny_blind, ny_pre hPc hK hN hDc⟩ rfl rfl hl.1 rfl (lv_room (Nat.le_of_ble_eq_true rfl)) dX4_scanNumber_147 ⟨Nat.le_of_ble_eq_true rfl, Nat.le_of_ble_eq_true rfl⟩) hS (fun q _ h => hFc q h) hFc (fun r78 u t H locs ht hvm hw hB hz1 hk1 hS => ?_)
                obtain ⟨hP, hD⟩ := va_join (wr := [(h0, .inr (4, [.ref tp, .int ct, .ref s2, .ref s3, .ref s4, .int nx1])), (s4, .inl (cI, 12, .inl f71)), (tp, .inr (5, [.ref yb, .int n])), (yb, .inl (cI, 1000, .inl fy))]) (w1 := []) hP hD [] [0, 1, 2, 3] rfl rfl (by decide) (by decide) hk1 hFc ny_P0 ny_D0
                have hP : va_P D vwCl [(h0, .inr (4, [.ref tp, .int ct, .ref s2, .ref s3, .ref s4, .int nx1])), (s4, .inl (cI, 12, .inl f71)), (tp, .inr (5, [.ref yb, .int n])), (yb, .inl (cI, 1000, .inl fy))] H := hP
                have hD : va_D A [(h0, .inr (4, [.ref tp, .int ct, .ref s2, .ref s3, .ref s4, .int nx1])), (s4, .inl (cI, 12, .inl f71)), (tp, .inr (5, [.ref yb, .int n])), (yb, .inl (cI, 1000, .inl fy))] := hD
                have hr78 : 0 ≤ r78.toInt := hw
                refine lv_if_ne (tgt := 157) hx hb dX4_scanNumber_150 (by decide) (fun c79 => ?_) (fun c79 => ?_)
                · have tc79 : ¬ (r78.toInt = 0) := i32_neq c79
                  refine lv_iconst (v := 0) hx hb dX4_scanNumber_157 (by decide) ?_
                  refine lv_istore (lv' := [(6, .int 0), (5, .int v72), (4, .int sz1), (3, .int v65), (0, .ref h0), (1, .int i), (2, .int z)]) hx hb dX4_scanNumber_158 hl (by decide) rfl (fun ls hl => ?_)
                  refine lv_iload hx hb dX4_scanNumber_160 (lv_at hl 0 rfl) ?_
                  refine lv_if_eq (tgt := 169) hx hb dX4_scanNumber_162 (by decide) (fun c80 => ?_) (fun h9 => (by first | exact absurd h9 (by decide) | exact absurd (by decide) h9))
                  refine lv_iconst (v := 4) hx hb dX4_scanNumber_169 (by decide) ?_
                  have hP9 := hP.sub (ws' := [(h0, .inr (4, [.ref tp, .int ct, .ref s2, .ref s3, .ref s4, .int nx1])), (tp, .inr (5, [.ref yb, .int n])), (yb, .inl (cI, 1000, .inl fy)), (s4, .inl (cI, 12, .inl f71))]) [0, 2, 3, 1] rfl
                  have hD9 := hD.sub (ws' := [(h0, .inr (4, [.ref tp, .int ct, .ref s2, .ref s3, .ref s4, .int nx1])), (tp, .inr (5, [.ref yb, .int n])), (yb, .inl (cI, 1000, .inl fy)), (s4, .inl (cI, 12, .inl f71))]) [0, 2, 3, 1] (by decide) rfl
                  refine W.widen (k := 0) (n := 0) (by decide) (by decide) ?_
                  exact W.iret (v := 4) hx hb hr (fun t ht hW => ⟨⟨4, (), rfl, (trivial), nx1, f71, (show 0 ≤ nx1.toInt ∧ nx1.toInt ≤ 1000 by first | assumption | omega | decide), by rw [ht]; exact hP9, hD9⟩, hS.F ht⟩) hS.2.2 dX4_scanNumber_170
                · have tc79 : r78.toInt = 0 := i32_eq c79
                  refine lv_iconst (v := 1) hx hb dX4_scanNumber_153 (by decide) ?_
                  refine lv_goto (tgt := 158) hx hb dX4_scanNumber_154 (by decide) ?_
                  refine lv_istore (lv' := [(6, .int 1), (5, .int v72), (4, .int sz1), (3, .int v65), (0, .ref h0), (1, .int i), (2, .int z)]) hx hb dX4_scanNumber_158 hl (by decide) rfl (fun ls hl => ?_)
                  refine lv_iload hx hb dX4_scanNumber_160 (lv_at hl 0 rfl) ?_
                  refine lv_if_eq (tgt := 169) hx hb dX4_scanNumber_162 (by decide) (fun h9 => (by first | exact absurd h9 (by decide) | exact absurd (by decide) h9)) (fun c81 => ?_)
                  refine lv_iconst (v := 2) hx hb dX4_scanNumber_165 (by decide) ?_
                  refine lv_goto (tgt := 170) hx hb dX4_scanNumber_166 (by decide) ?_
                  have hP9 := hP.sub (ws' := [(h0, .inr (4, [.ref tp, .int ct, .ref s2, .ref s3, .ref s4, .int nx1])), (tp, .inr (5, [.ref yb, .int n])), (yb, .inl (cI, 1000, .inl fy)), (s4, .inl (cI, 12, .inl f71))]) [0, 2, 3, 1] rfl
                  have hD9 := hD.sub (ws' := [(h0, .inr (4, [.ref tp, .int ct, .ref s2, .ref s3, .ref s4, .int nx1])), (tp, .inr (5, [.ref yb, .int n])), (yb, .inl (cI, 1000, .inl fy)), (s4, .inl (cI, 12, .inl f71))]) [0, 2, 3, 1] (by decide) rfl
                  refine W.widen (k := 0) (n := 0) (by decide) (by decide) ?_
                  exact W.iret (v := 2) hx hb hr (fun t ht hW => ⟨⟨2, (), rfl, (trivial), nx1, f71, (show 0 ≤ nx1.toInt ∧ nx1.toInt ≤ 1000 by first | assumption | omega | decide), by rw [ht]; exact hP9, hD9⟩, hS.F ht⟩) hS.2.2 dX4_scanNumber_170
          · have tc70 : ¬ (z.toInt = 0) := i32_neq c70
            refine lv_iload hx hb dX4_scanNumber_107 (lv_at hl 0 rfl) ?_
            refine lv_ineg hx hb dX4_scanNumber_109 ?_
            refine lv_topi (fun v82 ev82 => ?_)
            refine lv_goto (tgt := 115) hx hb dX4_scanNumber_110 (by decide) ?_
            refine va_iast hx hb hK hP hD hS 3 0 rfl rfl (vp_in_iff.mpr ⟨show 0 ≤ i.toInt by omega, show i.toInt < ((12 : Nat) : Int) by omega⟩) dX4_scanNumber_115 (fun H locs hP hD hS => ?_)
            have hP : va_P D vwCl [(h0, .inr (4, [.ref tp, .int ct, .ref s2, .ref s3, .ref s4, .int nx1])), (tp, .inr (5, [.ref yb, .int n])), (yb, .inl (cI, 1000, .inl fy)), (s4, .inl (cI, 12, .inl (upd fv i.toNatClampNeg v82)))] H := hP
            have hD : va_D A [(h0, .inr (4, [.ref tp, .int ct, .ref s2, .ref s3, .ref s4, .int nx1])), (tp, .inr (5, [.ref yb, .int n])), (yb, .inl (cI, 1000, .inl fy)), (s4, .inl (cI, 12, .inl (upd fv i.toNatClampNeg v82)))] := hD
            obtain ⟨f83, ef83⟩ : ∃ z : Nat → Int32, z = (upd fv i.toNatClampNeg v82) := ⟨_, rfl⟩
            rw [← ef83] at hP hD
            refine lv_aload_n hx hb dX4_scanNumber_116 rfl (lv_at hl 2 rfl) ?_
            refine va_get (D := D) (ci := 4) (v := .int nx1) (C := RX4) (T := TX4) (N := 6) hx hb hts iw_k_scanNumber_4 hown hK hP 0 rfl rfl 5 (by decide) (hts (.fieldLink RX4 29 "FlightDesk$Scanner" "next" "I") (by decide +kernel)) (fun _ h9 => h9) rfl dX4_scanNumber_117 ?_
            refine lv_iload_n hx hb dX4_scanNumber_120 rfl (lv_at hl 1 rfl) ?_
            refine lv_isub hx hb dX4_scanNumber_121 ?_
            refine lv_topi (fun v84 ev84 => ?_)
            have tv84 : v84.toInt = (nx1.toInt - v65.toInt + 2147483648) % 4294967296 - 2147483648 := i32_sub ev84
            refine lv_istore (lv' := [(5, .int v84), (4, .int sz1), (3, .int v65), (0, .ref h0), (1, .int i), (2, .int z)]) hx hb dX4_scanNumber_122 hl (by decide) rfl (fun ls hl => ?_)
            refine lv_iload hx hb dX4_scanNumber_124 (lv_at hl 0 rfl) ?_
            refine lv_iconst (v := 1) hx hb dX4_scanNumber_126 (by decide) ?_
            refine lv_icmp_lt (tgt := 157) hx hb dX4_scanNumber_127 (by decide) (fun c85 => ?_) (fun c85 => ?_)
            · have tc85 : v84.toInt < 1 := i32_lt c85
              refine lv_iconst (v := 0) hx hb dX4_scanNumber_157 (by decide) ?_
              refine lv_istore (lv' := [(6, .int 0), (5, .int v84), (4, .int sz1), (3, .int v65), (0, .ref h0), (1, .int i), (2, .int z)]) hx hb dX4_scanNumber_158 hl (by decide) rfl (fun ls hl => ?_)
              refine lv_iload hx hb dX4_scanNumber_160 (lv_at hl 0 rfl) ?_
              refine lv_if_eq (tgt := 169) hx hb dX4_scanNumber_162 (by decide) (fun c86 => ?_) (fun h9 => (by first | exact absurd h9 (by decide) | exact absurd (by decide) h9))
              refine lv_iconst (v := 4) hx hb dX4_scanNumber_169 (by decide) ?_
              have hP9 := hP.sub (ws' := [(h0, .inr (4, [.ref tp, .int ct, .ref s2, .ref s3, .ref s4, .int nx1])), (tp, .inr (5, [.ref yb, .int n])), (yb, .inl (cI, 1000, .inl fy)), (s4, .inl (cI, 12, .inl f83))]) [0, 1, 2, 3] rfl
              have hD9 := hD.sub (ws' := [(h0, .inr (4, [.ref tp, .int ct, .ref s2, .ref s3, .ref s4, .int nx1])), (tp, .inr (5, [.ref yb, .int n])), (yb, .inl (cI, 1000, .inl fy)), (s4, .inl (cI, 12, .inl f83))]) [0, 1, 2, 3] (by decide) rfl
              refine W.widen (k := 0) (n := 0) (by decide) (by decide) ?_
              exact W.iret (v := 4) hx hb hr (fun t ht hW => ⟨⟨4, (), rfl, (trivial), nx1, f83, (show 0 ≤ nx1.toInt ∧ nx1.toInt ≤ 1000 by first | assumption | omega | decide), by rw [ht]; exact hP9, hD9⟩, hS.F ht⟩) hS.2.2 dX4_scanNumber_170
            · have tc85 : ¬ (v84.toInt < 1) := i32_nlt c85
              refine lv_iload hx hb dX4_scanNumber_130 (lv_at hl 0 rfl) ?_
              refine lv_iconst (v := 5) hx hb dX4_scanNumber_132 (by decide) ?_
              refine lv_icmp_gt (tgt := 157) hx hb dX4_scanNumber_133 (by decide) (fun c87 => ?_) (fun c87 => ?_)
              · have tc87 : 5 < v84.toInt := i32_lt c87
                refine lv_iconst (v := 0) hx hb dX4_scanNumber_157 (by decide) ?_
                refine lv_istore (lv' := [(6, .int 0), (5, .int v84), (4, .int sz1), (3, .int v65), (0, .ref h0), (1, .int i), (2, .int z)]) hx hb dX4_scanNumber_158 hl (by decide) rfl (fun ls hl => ?_)
                refine lv_iload hx hb dX4_scanNumber_160 (lv_at hl 0 rfl) ?_
                refine lv_if_eq (tgt := 169) hx hb dX4_scanNumber_162 (by decide) (fun c88 => ?_) (fun h9 => (by first | exact absurd h9 (by decide) | exact absurd (by decide) h9))
                refine lv_iconst (v := 4) hx hb dX4_scanNumber_169 (by decide) ?_
                have hP9 := hP.sub (ws' := [(h0, .inr (4, [.ref tp, .int ct, .ref s2, .ref s3, .ref s4, .int nx1])), (tp, .inr (5, [.ref yb, .int n])), (yb, .inl (cI, 1000, .inl fy)), (s4, .inl (cI, 12, .inl f83))]) [0, 1, 2, 3] rfl
                have hD9 := hD.sub (ws' := [(h0, .inr (4, [.ref tp, .int ct, .ref s2, .ref s3, .ref s4, .int nx1])), (tp, .inr (5, [.ref yb, .int n])), (yb, .inl (cI, 1000, .inl fy)), (s4, .inl (cI, 12, .inl f83))]) [0, 1, 2, 3] (by decide) rfl
                refine W.widen (k := 0) (n := 0) (by decide) (by decide) ?_
                exact W.iret (v := 4) hx hb hr (fun t ht hW => ⟨⟨4, (), rfl, (trivial), nx1, f83, (show 0 ≤ nx1.toInt ∧ nx1.toInt ≤ 1000 by first | assumption | omega | decide), by rw [ht]; exact hP9, hD9⟩, hS.F ht⟩) hS.2.2 dX4_scanNumber_170
              · have tc87 : ¬ (5 < v84.toInt) := i32_nlt c87
                refine lv_aload_n hx hb dX4_scanNumber_136 rfl (lv_at hl 3 rfl) ?_
                refine va_get (D := D) (ci := 4) (v := .ref tp) (C := RX4) (T := TX4) (N := 6) hx hb hts iw_k_scanNumber_4 hown hK hP 0 rfl rfl 0 (by decide) (hts (.fieldLink RX4 21 "FlightDesk$Scanner" "tape" "LFlightDesk$Tape;") (by decide +kernel)) (fun _ h9 => h9) rfl dX4_scanNumber_137 ?_
                refine lv_aload_n hx hb dX4_scanNumber_140 rfl (lv_at hl 3 rfl) ?_
                refine va_get (D := D) (ci := 4) (v := .int nx1) (C := RX4) (T := TX4) (N := 6) hx hb hts iw_k_scanNumber_4 hown hK hP 0 rfl rfl 5 (by decide) (hts (.fieldLink RX4 29 "FlightDesk$Scanner" "next" "I") (by decide +kernel)) (fun _ h9 => h9) rfl dX4_scanNumber_141 ?_
                have hPc := hP.sub (ws' := [(tp, .inr (5, [.ref yb, .int n])), (yb, .inl (cI, 1000, .inl fy))]) [1, 2] rfl
                have hDc := hD.sub (ws' := [(tp, .inr (5, [.ref yb, .int n])), (yb, .inl (cI, 1000, .inl fy))]) [1, 2] (by decide) rfl
                have hFc := va_free (wc := [(tp, .inr (5, [.ref yb, .int n])), (yb, .inl (cI, 1000, .inl fy))]) hD hS hA [1, 2] rfl
                refine va_calli (va_runV (As := [.int nx1]) (rest := []) ⟨hx, hb, hml, hown, hts⟩ (k_byteAt l D cI cB cP H.size tp yb n nx1 fy (show 0 ≤ n.toInt ∧ n.toInt ≤ 1000 by first | assumption | omega | decide)) (cwV 1 hts gw_k_scanNumber_0 rfl rfl rfl (by decide +kernel) ⟨Nat.le_of_ble_eq_true rfl, Nat.le_of_ble_eq_true rfl⟩) ⟨ny_blind, va_recv hK hPc (ci := 5) (q0 := 0) rfl rfl, ny_pre hPc hK hN hDc⟩ rfl rfl hl.1 rfl (lv_room (Nat.le_of_ble_eq_true rfl)) dX4_scanNumber_144 ⟨Nat.le_of_ble_eq_true rfl, Nat.le_of_ble_eq_true rfl⟩) hS (fun q _ h => hFc q h) hFc (fun r89 u t H locs ht hvm hw hB hz1 hk1 hS => ?_)
                obtain ⟨hP1, hD1⟩ := hB
                rw [ht] at hP1
                obtain ⟨hP, hD⟩ := va_join (wr := [(h0, .inr (4, [.ref tp, .int ct, .ref s2, .ref s3, .ref s4, .int nx1])), (s4, .inl (cI, 12, .inl f83))]) (w1 := [(tp, .inr (5, [.ref yb, .int n])), (yb, .inl (cI, 1000, .inl fy))]) hP hD [1, 2] [0, 3] rfl rfl (by decide) (by decide) hk1 hFc hP1 hD1
                have hP : va_P D vwCl [(h0, .inr (4, [.ref tp, .int ct, .ref s2, .ref s3, .ref s4, .int nx1])), (s4, .inl (cI, 12, .inl f83)), (tp, .inr (5, [.ref yb, .int n])), (yb, .inl (cI, 1000, .inl fy))] H := hP
                have hD : va_D A [(h0, .inr (4, [.ref tp, .int ct, .ref s2, .ref s3, .ref s4, .int nx1])), (s4, .inl (cI, 12, .inl f83)), (tp, .inr (5, [.ref yb, .int n])), (yb, .inl (cI, 1000, .inl fy))] := hD
                have hr89 : ¬ r89.toInt = (-1) → 0 ≤ nx1.toInt ∧ nx1.toInt < n.toInt := hw
                have hPc := hP.sub (ws' := []) [] rfl
                have hDc := hD.sub (ws' := []) [] (by decide) rfl
                have hFc := va_free (wc := []) hD hS hA [] rfl
                refine va_calli (va_runS (As := [.int r89]) (rest := []) ⟨hx, hb, hml, hown, hts⟩ (k_isLetter l D cI cB cP H.size r89) (cwS 1 hts gw_k_scanNumber_1 rfl rfl rfl (by decide +kernel) ⟨Nat.le_of_ble_eq_true rfl, Nat.le_of_ble_eq_true rfl⟩) ⟨ny_blind, ny_pre hPc hK hN hDc⟩ rfl rfl hl.1 rfl (lv_room (Nat.le_of_ble_eq_true rfl)) dX4_scanNumber_147 ⟨Nat.le_of_ble_eq_true rfl, Nat.le_of_ble_eq_true rfl⟩) hS (fun q _ h => hFc q h) hFc (fun r90 u t H locs ht hvm hw hB hz1 hk1 hS => ?_)
                obtain ⟨hP, hD⟩ := va_join (wr := [(h0, .inr (4, [.ref tp, .int ct, .ref s2, .ref s3, .ref s4, .int nx1])), (s4, .inl (cI, 12, .inl f83)), (tp, .inr (5, [.ref yb, .int n])), (yb, .inl (cI, 1000, .inl fy))]) (w1 := []) hP hD [] [0, 1, 2, 3] rfl rfl (by decide) (by decide) hk1 hFc ny_P0 ny_D0
                have hP : va_P D vwCl [(h0, .inr (4, [.ref tp, .int ct, .ref s2, .ref s3, .ref s4, .int nx1])), (s4, .inl (cI, 12, .inl f83)), (tp, .inr (5, [.ref yb, .int n])), (yb, .inl (cI, 1000, .inl fy))] H := hP
                have hD : va_D A [(h0, .inr (4, [.ref tp, .int ct, .ref s2, .ref s3, .ref s4, .int nx1])), (s4, .inl (cI, 12, .inl f83)), (tp, .inr (5, [.ref yb, .int n])), (yb, .inl (cI, 1000, .inl fy))] := hD
                have hr90 : 0 ≤ r90.toInt := hw
                refine lv_if_ne (tgt := 157) hx hb dX4_scanNumber_150 (by decide) (fun c91 => ?_) (fun c91 => ?_)
                · have tc91 : ¬ (r90.toInt = 0) := i32_neq c91
                  refine lv_iconst (v := 0) hx hb dX4_scanNumber_157 (by decide) ?_
                  refine lv_istore (lv' := [(6, .int 0), (5, .int v84), (4, .int sz1), (3, .int v65), (0, .ref h0), (1, .int i), (2, .int z)]) hx hb dX4_scanNumber_158 hl (by decide) rfl (fun ls hl => ?_)
                  refine lv_iload hx hb dX4_scanNumber_160 (lv_at hl 0 rfl) ?_
                  refine lv_if_eq (tgt := 169) hx hb dX4_scanNumber_162 (by decide) (fun c92 => ?_) (fun h9 => (by first | exact absurd h9 (by decide) | exact absurd (by decide) h9))
                  refine lv_iconst (v := 4) hx hb dX4_scanNumber_169 (by decide) ?_
                  have hP9 := hP.sub (ws' := [(h0, .inr (4, [.ref tp, .int ct, .ref s2, .ref s3, .ref s4, .int nx1])), (tp, .inr (5, [.ref yb, .int n])), (yb, .inl (cI, 1000, .inl fy)), (s4, .inl (cI, 12, .inl f83))]) [0, 2, 3, 1] rfl
                  have hD9 := hD.sub (ws' := [(h0, .inr (4, [.ref tp, .int ct, .ref s2, .ref s3, .ref s4, .int nx1])), (tp, .inr (5, [.ref yb, .int n])), (yb, .inl (cI, 1000, .inl fy)), (s4, .inl (cI, 12, .inl f83))]) [0, 2, 3, 1] (by decide) rfl
                  refine W.widen (k := 0) (n := 0) (by decide) (by decide) ?_
                  exact W.iret (v := 4) hx hb hr (fun t ht hW => ⟨⟨4, (), rfl, (trivial), nx1, f83, (show 0 ≤ nx1.toInt ∧ nx1.toInt ≤ 1000 by first | assumption | omega | decide), by rw [ht]; exact hP9, hD9⟩, hS.F ht⟩) hS.2.2 dX4_scanNumber_170
                · have tc91 : r90.toInt = 0 := i32_eq c91
                  refine lv_iconst (v := 1) hx hb dX4_scanNumber_153 (by decide) ?_
                  refine lv_goto (tgt := 158) hx hb dX4_scanNumber_154 (by decide) ?_
                  refine lv_istore (lv' := [(6, .int 1), (5, .int v84), (4, .int sz1), (3, .int v65), (0, .ref h0), (1, .int i), (2, .int z)]) hx hb dX4_scanNumber_158 hl (by decide) rfl (fun ls hl => ?_)
                  refine lv_iload hx hb dX4_scanNumber_160 (lv_at hl 0 rfl) ?_
                  refine lv_if_eq (tgt := 169) hx hb dX4_scanNumber_162 (by decide) (fun h9 => (by first | exact absurd h9 (by decide) | exact absurd (by decide) h9)) (fun c93 => ?_)
                  refine lv_iconst (v := 2) hx hb dX4_scanNumber_165 (by decide) ?_
                  refine lv_goto (tgt := 170) hx hb dX4_scanNumber_166 (by decide) ?_
                  have hP9 := hP.sub (ws' := [(h0, .inr (4, [.ref tp, .int ct, .ref s2, .ref s3, .ref s4, .int nx1])), (tp, .inr (5, [.ref yb, .int n])), (yb, .inl (cI, 1000, .inl fy)), (s4, .inl (cI, 12, .inl f83))]) [0, 2, 3, 1] rfl
                  have hD9 := hD.sub (ws' := [(h0, .inr (4, [.ref tp, .int ct, .ref s2, .ref s3, .ref s4, .int nx1])), (tp, .inr (5, [.ref yb, .int n])), (yb, .inl (cI, 1000, .inl fy)), (s4, .inl (cI, 12, .inl f83))]) [0, 2, 3, 1] (by decide) rfl
                  refine W.widen (k := 0) (n := 0) (by decide) (by decide) ?_
                  exact W.iret (v := 2) hx hb hr (fun t ht hW => ⟨⟨2, (), rfl, (trivial), nx1, f83, (show 0 ≤ nx1.toInt ∧ nx1.toInt ≤ 1000 by first | assumption | omega | decide), by rw [ht]; exact hP9, hD9⟩, hS.F ht⟩) hS.2.2 dX4_scanNumber_170
        · have tc69 : ¬ (n.toInt ≤ nx1.toInt) := i32_nle c69
          refine lv_aload_n hx hb dX4_scanNumber_36 rfl (lv_at hl 2 rfl) ?_
          refine va_get (D := D) (ci := 4) (v := .ref tp) (C := RX4) (T := TX4) (N := 6) hx hb hts iw_k_scanNumber_4 hown hK hP 0 rfl rfl 0 (by decide) (hts (.fieldLink RX4 21 "FlightDesk$Scanner" "tape" "LFlightDesk$Tape;") (by decide +kernel)) (fun _ h9 => h9) rfl dX4_scanNumber_37 ?_
          refine lv_aload_n hx hb dX4_scanNumber_40 rfl (lv_at hl 2 rfl) ?_
          refine va_get (D := D) (ci := 4) (v := .int nx1) (C := RX4) (T := TX4) (N := 6) hx hb hts iw_k_scanNumber_4 hown hK hP 0 rfl rfl 5 (by decide) (hts (.fieldLink RX4 29 "FlightDesk$Scanner" "next" "I") (by decide +kernel)) (fun _ h9 => h9) rfl dX4_scanNumber_41 ?_
          have hPc := hP.sub (ws' := [(tp, .inr (5, [.ref yb, .int n])), (yb, .inl (cI, 1000, .inl fy))]) [1, 2] rfl
          have hDc := hD.sub (ws' := [(tp, .inr (5, [.ref yb, .int n])), (yb, .inl (cI, 1000, .inl fy))]) [1, 2] (by decide) rfl
          have hFc := va_free (wc := [(tp, .inr (5, [.ref yb, .int n])), (yb, .inl (cI, 1000, .inl fy))]) hD hS hA [1, 2] rfl
          refine va_calli (va_runV (As := [.int nx1]) (rest := []) ⟨hx, hb, hml, hown, hts⟩ (k_byteAt l D cI cB cP H.size tp yb n nx1 fy (show 0 ≤ n.toInt ∧ n.toInt ≤ 1000 by first | assumption | omega | decide)) (cwV 1 hts gw_k_scanNumber_0 rfl rfl rfl (by decide +kernel) ⟨Nat.le_of_ble_eq_true rfl, Nat.le_of_ble_eq_true rfl⟩) ⟨ny_blind, va_recv hK hPc (ci := 5) (q0 := 0) rfl rfl, ny_pre hPc hK hN hDc⟩ rfl rfl hl.1 rfl (lv_room (Nat.le_of_ble_eq_true rfl)) dX4_scanNumber_44 ⟨Nat.le_of_ble_eq_true rfl, Nat.le_of_ble_eq_true rfl⟩) hS (fun q _ h => hFc q h) hFc (fun r94 u t H locs ht hvm hw hB hz1 hk1 hS => ?_)
          obtain ⟨hP1, hD1⟩ := hB
          rw [ht] at hP1
          obtain ⟨hP, hD⟩ := va_join (wr := [(h0, .inr (4, [.ref tp, .int ct, .ref s2, .ref s3, .ref s4, .int nx1])), (s4, .inl (cI, 12, .inl fv))]) (w1 := [(tp, .inr (5, [.ref yb, .int n])), (yb, .inl (cI, 1000, .inl fy))]) hP hD [1, 2] [0, 3] rfl rfl (by decide) (by decide) hk1 hFc hP1 hD1
          have hP : va_P D vwCl [(h0, .inr (4, [.ref tp, .int ct, .ref s2, .ref s3, .ref s4, .int nx1])), (s4, .inl (cI, 12, .inl fv)), (tp, .inr (5, [.ref yb, .int n])), (yb, .inl (cI, 1000, .inl fy))] H := hP
          have hD : va_D A [(h0, .inr (4, [.ref tp, .int ct, .ref s2, .ref s3, .ref s4, .int nx1])), (s4, .inl (cI, 12, .inl fv)), (tp, .inr (5, [.ref yb, .int n])), (yb, .inl (cI, 1000, .inl fy))] := hD
          have hr94 : ¬ r94.toInt = (-1) → 0 ≤ nx1.toInt ∧ nx1.toInt < n.toInt := hw
          have hPc := hP.sub (ws' := []) [] rfl
          have hDc := hD.sub (ws' := []) [] (by decide) rfl
          have hFc := va_free (wc := []) hD hS hA [] rfl
          refine va_calli (va_runS (As := [.int r94]) (rest := []) ⟨hx, hb, hml, hown, hts⟩ (k_isDigit l D cI cB cP H.size r94) (cwS 1 hts gw_k_scanNumber_2 rfl rfl rfl (by decide +kernel) ⟨Nat.le_of_ble_eq_true rfl, Nat.le_of_ble_eq_true rfl⟩) ⟨ny_blind, ny_pre hPc hK hN hDc⟩ rfl rfl hl.1 rfl (lv_room (Nat.le_of_ble_eq_true rfl)) dX4_scanNumber_47 ⟨Nat.le_of_ble_eq_true rfl, Nat.le_of_ble_eq_true rfl⟩) hS (fun q _ h => hFc q h) hFc (fun r95 u t H locs ht hvm hw hB hz1 hk1 hS => ?_)
          obtain ⟨hP, hD⟩ := va_join (wr := [(h0, .inr (4, [.ref tp, .int ct, .ref s2, .ref s3, .ref s4, .int nx1])), (s4, .inl (cI, 12, .inl fv)), (tp, .inr (5, [.ref yb, .int n])), (yb, .inl (cI, 1000, .inl fy))]) (w1 := []) hP hD [] [0, 1, 2, 3] rfl rfl (by decide) (by decide) hk1 hFc ny_P0 ny_D0
          have hP : va_P D vwCl [(h0, .inr (4, [.ref tp, .int ct, .ref s2, .ref s3, .ref s4, .int nx1])), (s4, .inl (cI, 12, .inl fv)), (tp, .inr (5, [.ref yb, .int n])), (yb, .inl (cI, 1000, .inl fy))] H := hP
          have hD : va_D A [(h0, .inr (4, [.ref tp, .int ct, .ref s2, .ref s3, .ref s4, .int nx1])), (s4, .inl (cI, 12, .inl fv)), (tp, .inr (5, [.ref yb, .int n])), (yb, .inl (cI, 1000, .inl fy))] := hD
          have hr95 : 0 ≤ r95.toInt := hw
          refine lv_if_eq (tgt := 98) hx hb dX4_scanNumber_50 (by decide) (fun c96 => ?_) (fun c96 => ?_)
          · have tc96 : r95.toInt = 0 := i32_eq c96
            refine lv_aload_n hx hb dX4_scanNumber_98 rfl (lv_at hl 2 rfl) ?_
            refine va_get (D := D) (ci := 4) (v := .ref s4) (C := RX4) (T := TX4) (N := 6) hx hb hts iw_k_scanNumber_4 hown hK hP 0 rfl rfl 4 (by decide) (hts (.fieldLink RX4 18 "FlightDesk$Scanner" "value" "[I") (by decide +kernel)) (fun _ h9 => h9) rfl dX4_scanNumber_99 ?_
            refine lv_iload_n hx hb dX4_scanNumber_102 rfl (lv_at hl 3 rfl) ?_
            refine lv_iload_n hx hb dX4_scanNumber_103 rfl (lv_at hl 4 rfl) ?_
            refine lv_if_eq (tgt := 113) hx hb dX4_scanNumber_104 (by decide) (fun c97 => ?_) (fun c97 => ?_)
            · have tc97 : z.toInt = 0 := i32_eq c97
              refine lv_iload hx hb dX4_scanNumber_113 (lv_at hl 0 rfl) ?_
              refine va_iast hx hb hK hP hD hS 1 0 rfl rfl (vp_in_iff.mpr ⟨show 0 ≤ i.toInt by omega, show i.toInt < ((12 : Nat) : Int) by omega⟩) dX4_scanNumber_115 (fun H locs hP hD hS => ?_)
              have hP : va_P D vwCl [(h0, .inr (4, [.ref tp, .int ct, .ref s2, .ref s3, .ref s4, .int nx1])), (s4, .inl (cI, 12, .inl (upd fv i.toNatClampNeg sz1))), (tp, .inr (5, [.ref yb, .int n])), (yb, .inl (cI, 1000, .inl fy))] H := hP
              have hD : va_D A [(h0, .inr (4, [.ref tp, .int ct, .ref s2, .ref s3, .ref s4, .int nx1])), (s4, .inl (cI, 12, .inl (upd fv i.toNatClampNeg sz1))), (tp, .inr (5, [.ref yb, .int n])), (yb, .inl (cI, 1000, .inl fy))] := hD
              obtain ⟨f98, ef98⟩ : ∃ z : Nat → Int32, z = (upd fv i.toNatClampNeg sz1) := ⟨_, rfl⟩
              rw [← ef98] at hP hD
              refine lv_aload_n hx hb dX4_scanNumber_116 rfl (lv_at hl 2 rfl) ?_
              refine va_get (D := D) (ci := 4) (v := .int nx1) (C := RX4) (T := TX4) (N := 6) hx hb hts iw_k_scanNumber_4 hown hK hP 0 rfl rfl 5 (by decide) (hts (.fieldLink RX4 29 "FlightDesk$Scanner" "next" "I") (by decide +kernel)) (fun _ h9 => h9) rfl dX4_scanNumber_117 ?_
              refine lv_iload_n hx hb dX4_scanNumber_120 rfl (lv_at hl 1 rfl) ?_
              refine lv_isub hx hb dX4_scanNumber_121 ?_
              refine lv_topi (fun v99 ev99 => ?_)
              have tv99 : v99.toInt = (nx1.toInt - v65.toInt + 2147483648) % 4294967296 - 2147483648 := i32_sub ev99
              refine lv_istore (lv' := [(5, .int v99), (4, .int sz1), (3, .int v65), (0, .ref h0), (1, .int i), (2, .int z)]) hx hb dX4_scanNumber_122 hl (by decide) rfl (fun ls hl => ?_)
              refine lv_iload hx hb dX4_scanNumber_124 (lv_at hl 0 rfl) ?_
              refine lv_iconst (v := 1) hx hb dX4_scanNumber_126 (by decide) ?_
              refine lv_icmp_lt (tgt := 157) hx hb dX4_scanNumber_127 (by decide) (fun c100 => ?_) (fun c100 => ?_)
              · have tc100 : v99.toInt < 1 := i32_lt c100
                refine lv_iconst (v := 0) hx hb dX4_scanNumber_157 (by decide) ?_
                refine lv_istore (lv' := [(6, .int 0), (5, .int v99), (4, .int sz1), (3, .int v65), (0, .ref h0), (1, .int i), (2, .int z)]) hx hb dX4_scanNumber_158 hl (by decide) rfl (fun ls hl => ?_)
                refine lv_iload hx hb dX4_scanNumber_160 (lv_at hl 0 rfl) ?_
                refine lv_if_eq (tgt := 169) hx hb dX4_scanNumber_162 (by decide) (fun c101 => ?_) (fun h9 => (by first | exact absurd h9 (by decide) | exact absurd (by decide) h9))
                refine lv_iconst (v := 4) hx hb dX4_scanNumber_169 (by decide) ?_
                have hP9 := hP.sub (ws' := [(h0, .inr (4, [.ref tp, .int ct, .ref s2, .ref s3, .ref s4, .int nx1])), (tp, .inr (5, [.ref yb, .int n])), (yb, .inl (cI, 1000, .inl fy)), (s4, .inl (cI, 12, .inl f98))]) [0, 2, 3, 1] rfl
                have hD9 := hD.sub (ws' := [(h0, .inr (4, [.ref tp, .int ct, .ref s2, .ref s3, .ref s4, .int nx1])), (tp, .inr (5, [.ref yb, .int n])), (yb, .inl (cI, 1000, .inl fy)), (s4, .inl (cI, 12, .inl f98))]) [0, 2, 3, 1] (by decide) rfl
                refine W.widen (k := 0) (n := 0) (by decide) (by decide) ?_
                exact W.iret (v := 4) hx hb hr (fun t ht hW => ⟨⟨4, (), rfl, (trivial), nx1, f98, (show 0 ≤ nx1.toInt ∧ nx1.toInt ≤ 1000 by first | assumption | omega | decide), by rw [ht]; exact hP9, hD9⟩, hS.F ht⟩) hS.2.2 dX4_scanNumber_170
              · have tc100 : ¬ (v99.toInt < 1) := i32_nlt c100
                refine lv_iload hx hb dX4_scanNumber_130 (lv_at hl 0 rfl) ?_
                refine lv_iconst (v := 5) hx hb dX4_scanNumber_132 (by decide) ?_
                refine lv_icmp_gt (tgt := 157) hx hb dX4_scanNumber_133 (by decide) (fun c102 => ?_) (fun c102 => ?_)
                · have tc102 : 5 < v99.toInt := i32_lt c102
                  refine lv_iconst (v := 0) hx hb dX4_scanNumber_157 (by decide) ?_
                  refine lv_istore (lv' := [(6, .int 0), (5, .int v99), (4, .int sz1), (3, .int v65), (0, .ref h0), (1, .int i), (2, .int z)]) hx hb dX4_scanNumber_158 hl (by decide) rfl (fun ls hl => ?_)
                  refine lv_iload hx hb dX4_scanNumber_160 (lv_at hl 0 rfl) ?_
                  refine lv_if_eq (tgt := 169) hx hb dX4_scanNumber_162 (by decide) (fun c103 => ?_) (fun h9 => (by first | exact absurd h9 (by decide) | exact absurd (by decide) h9))
                  refine lv_iconst (v := 4) hx hb dX4_scanNumber_169 (by decide) ?_
                  have hP9 := hP.sub (ws' := [(h0, .inr (4, [.ref tp, .int ct, .ref s2, .ref s3, .ref s4, .int nx1])), (tp, .inr (5, [.ref yb, .int n])), (yb, .inl (cI, 1000, .inl fy)), (s4, .inl (cI, 12, .inl f98))]) [0, 2, 3, 1] rfl
                  have hD9 := hD.sub (ws' := [(h0, .inr (4, [.ref tp, .int ct, .ref s2, .ref s3, .ref s4, .int nx1])), (tp, .inr (5, [.ref yb, .int n])), (yb, .inl (cI, 1000, .inl fy)), (s4, .inl (cI, 12, .inl f98))]) [0, 2, 3, 1] (by decide) rfl
                  refine W.widen (k := 0) (n := 0) (by decide) (by decide) ?_
                  exact W.iret (v := 4) hx hb hr (fun t ht hW => ⟨⟨4, (), rfl, (trivial), nx1, f98, (show 0 ≤ nx1.toInt ∧ nx1.toInt ≤ 1000 by first | assumption | omega | decide), by rw [ht]; exact hP9, hD9⟩, hS.F ht⟩) hS.2.2 dX4_scanNumber_170
                · have tc102 : ¬ (5 < v99.toInt) := i32_nlt c102
                  refine lv_aload_n hx hb dX4_scanNumber_136 rfl (lv_at hl 3 rfl) ?_
                  refine va_get (D := D) (ci := 4) (v := .ref tp) (C := RX4) (T := TX4) (N := 6) hx hb hts iw_k_scanNumber_4 hown hK hP 0 rfl rfl 0 (by decide) (hts (.fieldLink RX4 21 "FlightDesk$Scanner" "tape" "LFlightDesk$Tape;") (by decide +kernel)) (fun _ h9 => h9) rfl dX4_scanNumber_137 ?_
                  refine lv_aload_n hx hb dX4_scanNumber_140 rfl (lv_at hl 3 rfl) ?_
                  refine va_get (D := D) (ci := 4) (v := .int nx1) (C := RX4) (T := TX4) (N := 6) hx hb hts iw_k_scanNumber_4 hown hK hP 0 rfl rfl 5 (by decide) (hts (.fieldLink RX4 29 "FlightDesk$Scanner" "next" "I") (by decide +kernel)) (fun _ h9 => h9) rfl dX4_scanNumber_141 ?_
                  have hPc := hP.sub (ws' := [(tp, .inr (5, [.ref yb, .int n])), (yb, .inl (cI, 1000, .inl fy))]) [2, 3] rfl
                  have hDc := hD.sub (ws' := [(tp, .inr (5, [.ref yb, .int n])), (yb, .inl (cI, 1000, .inl fy))]) [2, 3] (by decide) rfl
                  have hFc := va_free (wc := [(tp, .inr (5, [.ref yb, .int n])), (yb, .inl (cI, 1000, .inl fy))]) hD hS hA [2, 3] rfl
                  refine va_calli (va_runV (As := [.int nx1]) (rest := []) ⟨hx, hb, hml, hown, hts⟩ (k_byteAt l D cI cB cP H.size tp yb n nx1 fy (show 0 ≤ n.toInt ∧ n.toInt ≤ 1000 by first | assumption | omega | decide)) (cwV 1 hts gw_k_scanNumber_0 rfl rfl rfl (by decide +kernel) ⟨Nat.le_of_ble_eq_true rfl, Nat.le_of_ble_eq_true rfl⟩) ⟨ny_blind, va_recv hK hPc (ci := 5) (q0 := 0) rfl rfl, ny_pre hPc hK hN hDc⟩ rfl rfl hl.1 rfl (lv_room (Nat.le_of_ble_eq_true rfl)) dX4_scanNumber_144 ⟨Nat.le_of_ble_eq_true rfl, Nat.le_of_ble_eq_true rfl⟩) hS (fun q _ h => hFc q h) hFc (fun r104 u t H locs ht hvm hw hB hz1 hk1 hS => ?_)
                  obtain ⟨hP1, hD1⟩ := hB
                  rw [ht] at hP1
                  obtain ⟨hP, hD⟩ := va_join (wr := [(h0, .inr (4, [.ref tp, .int ct, .ref s2, .ref s3, .ref s4, .int nx1])), (s4, .inl (cI, 12, .inl f98))]) (w1 := [(tp, .inr (5, [.ref yb, .int n])), (yb, .inl (cI, 1000, .inl fy))]) hP hD [2, 3] [0, 1] rfl rfl (by decide) (by decide) hk1 hFc hP1 hD1
                  have hP : va_P D vwCl [(h0, .inr (4, [.ref tp, .int ct, .ref s2, .ref s3, .ref s4, .int nx1])), (s4, .inl (cI, 12, .inl f98)), (tp, .inr (5, [.ref yb, .int n])), (yb, .inl (cI, 1000, .inl fy))] H := hP
                  have hD : va_D A [(h0, .inr (4, [.ref tp, .int ct, .ref s2, .ref s3, .ref s4, .int nx1])), (s4, .inl (cI, 12, .inl f98)), (tp, .inr (5, [.ref yb, .int n])), (yb, .inl (cI, 1000, .inl fy))] := hD
                  have hr104 : ¬ r104.toInt = (-1) → 0 ≤ nx1.toInt ∧ nx1.toInt < n.toInt := hw
                  have hPc := hP.sub (ws' := []) [] rfl
                  have hDc := hD.sub (ws' := []) [] (by decide) rfl
                  have hFc := va_free (wc := []) hD hS hA [] rfl
                  refine va_calli (va_runS (As := [.int r104]) (rest := []) ⟨hx, hb, hml, hown, hts⟩ (k_isLetter l D cI cB cP H.size r104) (cwS 1 hts gw_k_scanNumber_1 rfl rfl rfl (by decide +kernel) ⟨Nat.le_of_ble_eq_true rfl, Nat.le_of_ble_eq_true rfl⟩) ⟨ny_blind, ny_pre hPc hK hN hDc⟩ rfl rfl hl.1 rfl (lv_room (Nat.le_of_ble_eq_true rfl)) dX4_scanNumber_147 ⟨Nat.le_of_ble_eq_true rfl, Nat.le_of_ble_eq_true rfl⟩) hS (fun q _ h => hFc q h) hFc (fun r105 u t H locs ht hvm hw hB hz1 hk1 hS => ?_)
                  obtain ⟨hP, hD⟩ := va_join (wr := [(h0, .inr (4, [.ref tp, .int ct, .ref s2, .ref s3, .ref s4, .int nx1])), (s4, .inl (cI, 12, .inl f98)), (tp, .inr (5, [.ref yb, .int n])), (yb, .inl (cI, 1000, .inl fy))]) (w1 := []) hP hD [] [0, 1, 2, 3] rfl rfl (by decide) (by decide) hk1 hFc ny_P0 ny_D0
                  have hP : va_P D vwCl [(h0, .inr (4, [.ref tp, .int ct, .ref s2, .ref s3, .ref s4, .int nx1])), (s4, .inl (cI, 12, .inl f98)), (tp, .inr (5, [.ref yb, .int n])), (yb, .inl (cI, 1000, .inl fy))] H := hP
                  have hD : va_D A [(h0, .inr (4, [.ref tp, .int ct, .ref s2, .ref s3, .ref s4, .int nx1])), (s4, .inl (cI, 12, .inl f98)), (tp, .inr (5, [.ref yb, .int n])), (yb, .inl (cI, 1000, .inl fy))] := hD
                  have hr105 : 0 ≤ r105.toInt := hw
                  refine lv_if_ne (tgt := 157) hx hb dX4_scanNumber_150 (by decide) (fun c106 => ?_) (fun c106 => ?_)
                  · have tc106 : ¬ (r105.toInt = 0) := i32_neq c106
                    refine lv_iconst (v := 0) hx hb dX4_scanNumber_157 (by decide) ?_
                    refine lv_istore (lv' := [(6, .int 0), (5, .int v99), (4, .int sz1), (3, .int v65), (0, .ref h0), (1, .int i), (2, .int z)]) hx hb dX4_scanNumber_158 hl (by decide) rfl (fun ls hl => ?_)
                    refine lv_iload hx hb dX4_scanNumber_160 (lv_at hl 0 rfl) ?_
                    refine lv_if_eq (tgt := 169) hx hb dX4_scanNumber_162 (by decide) (fun c107 => ?_) (fun h9 => (by first | exact absurd h9 (by decide) | exact absurd (by decide) h9))
                    refine lv_iconst (v := 4) hx hb dX4_scanNumber_169 (by decide) ?_
                    have hP9 := hP.sub (ws' := [(h0, .inr (4, [.ref tp, .int ct, .ref s2, .ref s3, .ref s4, .int nx1])), (tp, .inr (5, [.ref yb, .int n])), (yb, .inl (cI, 1000, .inl fy)), (s4, .inl (cI, 12, .inl f98))]) [0, 2, 3, 1] rfl
                    have hD9 := hD.sub (ws' := [(h0, .inr (4, [.ref tp, .int ct, .ref s2, .ref s3, .ref s4, .int nx1])), (tp, .inr (5, [.ref yb, .int n])), (yb, .inl (cI, 1000, .inl fy)), (s4, .inl (cI, 12, .inl f98))]) [0, 2, 3, 1] (by decide) rfl
                    refine W.widen (k := 0) (n := 0) (by decide) (by decide) ?_
                    exact W.iret (v := 4) hx hb hr (fun t ht hW => ⟨⟨4, (), rfl, (trivial), nx1, f98, (show 0 ≤ nx1.toInt ∧ nx1.toInt ≤ 1000 by first | assumption | omega | decide), by rw [ht]; exact hP9, hD9⟩, hS.F ht⟩) hS.2.2 dX4_scanNumber_170
                  · have tc106 : r105.toInt = 0 := i32_eq c106
                    refine lv_iconst (v := 1) hx hb dX4_scanNumber_153 (by decide) ?_
                    refine lv_goto (tgt := 158) hx hb dX4_scanNumber_154 (by decide) ?_
                    refine lv_istore (lv' := [(6, .int 1), (5, .int v99), (4, .int sz1), (3, .int v65), (0, .ref h0), (1, .int i), (2, .int z)]) hx hb dX4_scanNumber_158 hl (by decide) rfl (fun ls hl => ?_)
                    refine lv_iload hx hb dX4_scanNumber_160 (lv_at hl 0 rfl) ?_
                    refine lv_if_eq (tgt := 169) hx hb dX4_scanNumber_162 (by decide) (fun h9 => (by first | exact absurd h9 (by decide) | exact absurd (by decide) h9)) (fun c108 => ?_)
                    refine lv_iconst (v := 2) hx hb dX4_scanNumber_165 (by decide) ?_
                    refine lv_goto (tgt := 170) hx hb dX4_scanNumber_166 (by decide) ?_
                    have hP9 := hP.sub (ws' := [(h0, .inr (4, [.ref tp, .int ct, .ref s2, .ref s3, .ref s4, .int nx1])), (tp, .inr (5, [.ref yb, .int n])), (yb, .inl (cI, 1000, .inl fy)), (s4, .inl (cI, 12, .inl f98))]) [0, 2, 3, 1] rfl
                    have hD9 := hD.sub (ws' := [(h0, .inr (4, [.ref tp, .int ct, .ref s2, .ref s3, .ref s4, .int nx1])), (tp, .inr (5, [.ref yb, .int n])), (yb, .inl (cI, 1000, .inl fy)), (s4, .inl (cI, 12, .inl f98))]) [0, 2, 3, 1] (by decide) rfl
                    refine W.widen (k := 0) (n := 0) (by decide) (by decide) ?_
                    exact W.iret (v := 2) hx hb hr (fun t ht hW => ⟨⟨2, (), rfl, (trivial), nx1, f98, (show 0 ≤ nx1.toInt ∧ nx1.toInt ≤ 1000 by first | assumption | omega | decide), by rw [ht]; exact hP9, hD9⟩, hS.F ht⟩) hS.2.2 dX4_scanNumber_170
            · have tc97 : ¬ (z.toInt = 0) := i32_neq c97
              refine lv_iload hx hb dX4_scanNumber_107 (lv_at hl 0 rfl) ?_
              refine lv_ineg hx hb dX4_scanNumber_109 ?_
              refine lv_topi (fun v109 ev109 => ?_)
              refine lv_goto (tgt := 115) hx hb dX4_scanNumber_110 (by decide) ?_
              refine va_iast hx hb hK hP hD hS 1 0 rfl rfl (vp_in_iff.mpr ⟨show 0 ≤ i.toInt by omega, show i.toInt < ((12 : Nat) : Int) by omega⟩) dX4_scanNumber_115 (fun H locs hP hD hS => ?_)
              have hP : va_P D vwCl [(h0, .inr (4, [.ref tp, .int ct, .ref s2, .ref s3, .ref s4, .int nx1])), (s4, .inl (cI, 12, .inl (upd fv i.toNatClampNeg v109))), (tp, .inr (5, [.ref yb, .int n])), (yb, .inl (cI, 1000, .inl fy))] H := hP
              have hD : va_D A [(h0, .inr (4, [.ref tp, .int ct, .ref s2, .ref s3, .ref s4, .int nx1])), (s4, .inl (cI, 12, .inl (upd fv i.toNatClampNeg v109))), (tp, .inr (5, [.ref yb, .int n])), (yb, .inl (cI, 1000, .inl fy))] := hD
              obtain ⟨f110, ef110⟩ : ∃ z : Nat → Int32, z = (upd fv i.toNatClampNeg v109) := ⟨_, rfl⟩
              rw [← ef110] at hP hD
              refine lv_aload_n hx hb dX4_scanNumber_116 rfl (lv_at hl 2 rfl) ?_
              refine va_get (D := D) (ci := 4) (v := .int nx1) (C := RX4) (T := TX4) (N := 6) hx hb hts iw_k_scanNumber_4 hown hK hP 0 rfl rfl 5 (by decide) (hts (.fieldLink RX4 29 "FlightDesk$Scanner" "next" "I") (by decide +kernel)) (fun _ h9 => h9) rfl dX4_scanNumber_117 ?_
              refine lv_iload_n hx hb dX4_scanNumber_120 rfl (lv_at hl 1 rfl) ?_
              refine lv_isub hx hb dX4_scanNumber_121 ?_
              refine lv_topi (fun v111 ev111 => ?_)
              have tv111 : v111.toInt = (nx1.toInt - v65.toInt + 2147483648) % 4294967296 - 2147483648 := i32_sub ev111
              refine lv_istore (lv' := [(5, .int v111), (4, .int sz1), (3, .int v65), (0, .ref h0), (1, .int i), (2, .int z)]) hx hb dX4_scanNumber_122 hl (by decide) rfl (fun ls hl => ?_)
              refine lv_iload hx hb dX4_scanNumber_124 (lv_at hl 0 rfl) ?_
              refine lv_iconst (v := 1) hx hb dX4_scanNumber_126 (by decide) ?_
              refine lv_icmp_lt (tgt := 157) hx hb dX4_scanNumber_127 (by decide) (fun c112 => ?_) (fun c112 => ?_)
              · have tc112 : v111.toInt < 1 := i32_lt c112
                refine lv_iconst (v := 0) hx hb dX4_scanNumber_157 (by decide) ?_
                refine lv_istore (lv' := [(6, .int 0), (5, .int v111), (4, .int sz1), (3, .int v65), (0, .ref h0), (1, .int i), (2, .int z)]) hx hb dX4_scanNumber_158 hl (by decide) rfl (fun ls hl => ?_)
                refine lv_iload hx hb dX4_scanNumber_160 (lv_at hl 0 rfl) ?_
                refine lv_if_eq (tgt := 169) hx hb dX4_scanNumber_162 (by decide) (fun c113 => ?_) (fun h9 => (by first | exact absurd h9 (by decide) | exact absurd (by decide) h9))
                refine lv_iconst (v := 4) hx hb dX4_scanNumber_169 (by decide) ?_
                have hP9 := hP.sub (ws' := [(h0, .inr (4, [.ref tp, .int ct, .ref s2, .ref s3, .ref s4, .int nx1])), (tp, .inr (5, [.ref yb, .int n])), (yb, .inl (cI, 1000, .inl fy)), (s4, .inl (cI, 12, .inl f110))]) [0, 2, 3, 1] rfl
                have hD9 := hD.sub (ws' := [(h0, .inr (4, [.ref tp, .int ct, .ref s2, .ref s3, .ref s4, .int nx1])), (tp, .inr (5, [.ref yb, .int n])), (yb, .inl (cI, 1000, .inl fy)), (s4, .inl (cI, 12, .inl f110))]) [0, 2, 3, 1] (by decide) rfl
                refine W.widen (k := 0) (n := 0) (by decide) (by decide) ?_
                exact W.iret (v := 4) hx hb hr (fun t ht hW => ⟨⟨4, (), rfl, (trivial), nx1, f110, (show 0 ≤ nx1.toInt ∧ nx1.toInt ≤ 1000 by first | assumption | omega | decide), by rw [ht]; exact hP9, hD9⟩, hS.F ht⟩) hS.2.2 dX4_scanNumber_170
              · have tc112 : ¬ (v111.toInt < 1) := i32_nlt c112
                refine lv_iload hx hb dX4_scanNumber_130 (lv_at hl 0 rfl) ?_
                refine lv_iconst (v := 5) hx hb dX4_scanNumber_132 (by decide) ?_
                refine lv_icmp_gt (tgt := 157) hx hb dX4_scanNumber_133 (by decide) (fun c114 => ?_) (fun c114 => ?_)
                · have tc114 : 5 < v111.toInt := i32_lt c114
                  refine lv_iconst (v := 0) hx hb dX4_scanNumber_157 (by decide) ?_
                  refine lv_istore (lv' := [(6, .int 0), (5, .int v111), (4, .int sz1), (3, .int v65), (0, .ref h0), (1, .int i), (2, .int z)]) hx hb dX4_scanNumber_158 hl (by decide) rfl (fun ls hl => ?_)
                  refine lv_iload hx hb dX4_scanNumber_160 (lv_at hl 0 rfl) ?_
                  refine lv_if_eq (tgt := 169) hx hb dX4_scanNumber_162 (by decide) (fun c115 => ?_) (fun h9 => (by first | exact absurd h9 (by decide) | exact absurd (by decide) h9))
                  refine lv_iconst (v := 4) hx hb dX4_scanNumber_169 (by decide) ?_
                  have hP9 := hP.sub (ws' := [(h0, .inr (4, [.ref tp, .int ct, .ref s2, .ref s3, .ref s4, .int nx1])), (tp, .inr (5, [.ref yb, .int n])), (yb, .inl (cI, 1000, .inl fy)), (s4, .inl (cI, 12, .inl f110))]) [0, 2, 3, 1] rfl
                  have hD9 := hD.sub (ws' := [(h0, .inr (4, [.ref tp, .int ct, .ref s2, .ref s3, .ref s4, .int nx1])), (tp, .inr (5, [.ref yb, .int n])), (yb, .inl (cI, 1000, .inl fy)), (s4, .inl (cI, 12, .inl f110))]) [0, 2, 3, 1] (by decide) rfl
                  refine W.widen (k := 0) (n := 0) (by decide) (by decide) ?_
                  exact W.iret (v := 4) hx hb hr (fun t ht hW => ⟨⟨4, (), rfl, (trivial), nx1, f110, (show 0 ≤ nx1.toInt ∧ nx1.toInt ≤ 1000 by first | assumption | omega | decide), by rw [ht]; exact hP9, hD9⟩, hS.F ht⟩) hS.2.2 dX4_scanNumber_170
                · have tc114 : ¬ (5 < v111.toInt) := i32_nlt c114
                  refine lv_aload_n hx hb dX4_scanNumber_136 rfl (lv_at hl 3 rfl) ?_
                  refine va_get (D := D) (ci := 4) (v := .ref tp) (C := RX4) (T := TX4) (N := 6) hx hb hts iw_k_scanNumber_4 hown hK hP 0 rfl rfl 0 (by decide) (hts (.fieldLink RX4 21 "FlightDesk$Scanner" "tape" "LFlightDesk$Tape;") (by decide +kernel)) (fun _ h9 => h9) rfl dX4_scanNumber_137 ?_
                  refine lv_aload_n hx hb dX4_scanNumber_140 rfl (lv_at hl 3 rfl) ?_
                  refine va_get (D := D) (ci := 4) (v := .int nx1) (C := RX4) (T := TX4) (N := 6) hx hb hts iw_k_scanNumber_4 hown hK hP 0 rfl rfl 5 (by decide) (hts (.fieldLink RX4 29 "FlightDesk$Scanner" "next" "I") (by decide +kernel)) (fun _ h9 => h9) rfl dX4_scanNumber_141 ?_
                  have hPc := hP.sub (ws' := [(tp, .inr (5, [.ref yb, .int n])), (yb, .inl (cI, 1000, .inl fy))]) [2, 3] rfl
                  have hDc := hD.sub (ws' := [(tp, .inr (5, [.ref yb, .int n])), (yb, .inl (cI, 1000, .inl fy))]) [2, 3] (by decide) rfl
                  have hFc := va_free (wc := [(tp, .inr (5, [.ref yb, .int n])), (yb, .inl (cI, 1000, .inl fy))]) hD hS hA [2, 3] rfl
                  refine va_calli (va_runV (As := [.int nx1]) (rest := []) ⟨hx, hb, hml, hown, hts⟩ (k_byteAt l D cI cB cP H.size tp yb n nx1 fy (show 0 ≤ n.toInt ∧ n.toInt ≤ 1000 by first | assumption | omega | decide)) (cwV 1 hts gw_k_scanNumber_0 rfl rfl rfl (by decide +kernel) ⟨Nat.le_of_ble_eq_true rfl, Nat.le_of_ble_eq_true rfl⟩) ⟨ny_blind, va_recv hK hPc (ci := 5) (q0 := 0) rfl rfl, ny_pre hPc hK hN hDc⟩ rfl rfl hl.1 rfl (lv_room (Nat.le_of_ble_eq_true rfl)) dX4_scanNumber_144 ⟨Nat.le_of_ble_eq_true rfl, Nat.le_of_ble_eq_true rfl⟩) hS (fun q _ h => hFc q h) hFc (fun r116 u t H locs ht hvm hw hB hz1 hk1 hS => ?_)
                  obtain ⟨hP1, hD1⟩ := hB
                  rw [ht] at hP1
                  obtain ⟨hP, hD⟩ := va_join (wr := [(h0, .inr (4, [.ref tp, .int ct, .ref s2, .ref s3, .ref s4, .int nx1])), (s4, .inl (cI, 12, .inl f110))]) (w1 := [(tp, .inr (5, [.ref yb, .int n])), (yb, .inl (cI, 1000, .inl fy))]) hP hD [2, 3] [0, 1] rfl rfl (by decide) (by decide) hk1 hFc hP1 hD1
                  have hP : va_P D vwCl [(h0, .inr (4, [.ref tp, .int ct, .ref s2, .ref s3, .ref s4, .int nx1])), (s4, .inl (cI, 12, .inl f110)), (tp, .inr (5, [.ref yb, .int n])), (yb, .inl (cI, 1000, .inl fy))] H := hP
                  have hD : va_D A [(h0, .inr (4, [.ref tp, .int ct, .ref s2, .ref s3, .ref s4, .int nx1])), (s4, .inl (cI, 12, .inl f110)), (tp, .inr (5, [.ref yb, .int n])), (yb, .inl (cI, 1000, .inl fy))] := hD
                  have hr116 : ¬ r116.toInt = (-1) → 0 ≤ nx1.toInt ∧ nx1.toInt < n.toInt := hw
                  have hPc := hP.sub (ws' := []) [] rfl
                  have hDc := hD.sub (ws' := []) [] (by decide) rfl
                  have hFc := va_free (wc := []) hD hS hA [] rfl
                  refine va_calli (va_runS (As := [.int r116]) (rest := []) ⟨hx, hb, hml, hown, hts⟩ (k_isLetter l D cI cB cP H.size r116) (cwS 1 hts gw_k_scanNumber_1 rfl rfl rfl (by decide +kernel) ⟨Nat.le_of_ble_eq_true rfl, Nat.le_of_ble_eq_true rfl⟩) ⟨ny_blind, ny_pre hPc hK hN hDc⟩ rfl rfl hl.1 rfl (lv_room (Nat.le_of_ble_eq_true rfl)) dX4_scanNumber_147 ⟨Nat.le_of_ble_eq_true rfl, Nat.le_of_ble_eq_true rfl⟩) hS (fun q _ h => hFc q h) hFc (fun r117 u t H locs ht hvm hw hB hz1 hk1 hS => ?_)
                  obtain ⟨hP, hD⟩ := va_join (wr := [(h0, .inr (4, [.ref tp, .int ct, .ref s2, .ref s3, .ref s4, .int nx1])), (s4, .inl (cI, 12, .inl f110)), (tp, .inr (5, [.ref yb, .int n])), (yb, .inl (cI, 1000, .inl fy))]) (w1 := []) hP hD [] [0, 1, 2, 3] rfl rfl (by decide) (by decide) hk1 hFc ny_P0 ny_D0
                  have hP : va_P D vwCl [(h0, .inr (4, [.ref tp, .int ct, .ref s2, .ref s3, .ref s4, .int nx1])), (s4, .inl (cI, 12, .inl f110)), (tp, .inr (5, [.ref yb, .int n])), (yb, .inl (cI, 1000, .inl fy))] H := hP
                  have hD : va_D A [(h0, .inr (4, [.ref tp, .int ct, .ref s2, .ref s3, .ref s4, .int nx1])), (s4, .inl (cI, 12, .inl f110)), (tp, .inr (5, [.ref yb, .int n])), (yb, .inl (cI, 1000, .inl fy))] := hD
                  have hr117 : 0 ≤ r117.toInt := hw
                  refine lv_if_ne (tgt := 157) hx hb dX4_scanNumber_150 (by decide) (fun c118 => ?_) (fun c118 => ?_)
                  · have tc118 : ¬ (r117.toInt = 0) := i32_neq c118
                    refine lv_iconst (v := 0) hx hb dX4_scanNumber_157 (by decide) ?_
                    refine lv_istore (lv' := [(6, .int 0), (5, .int v111), (4, .int sz1), (3, .int v65), (0, .ref h0), (1, .int i), (2, .int z)]) hx hb dX4_scanNumber_158 hl (by decide) rfl (fun ls hl => ?_)
                    refine lv_iload hx hb dX4_scanNumber_160 (lv_at hl 0 rfl) ?_
                    refine lv_if_eq (tgt := 169) hx hb dX4_scanNumber_162 (by decide) (fun c119 => ?_) (fun h9 => (by first | exact absurd h9 (by decide) | exact absurd (by decide) h9))
                    refine lv_iconst (v := 4) hx hb dX4_scanNumber_169 (by decide) ?_
                    have hP9 := hP.sub (ws' := [(h0, .inr (4, [.ref tp, .int ct, .ref s2, .ref s3, .ref s4, .int nx1])), (tp, .inr (5, [.ref yb, .int n])), (yb, .inl (cI, 1000, .inl fy)), (s4, .inl (cI, 12, .inl f110))]) [0, 2, 3, 1] rfl
                    have hD9 := hD.sub (ws' := [(h0, .inr (4, [.ref tp, .int ct, .ref s2, .ref s3, .ref s4, .int nx1])), (tp, .inr (5, [.ref yb, .int n])), (yb, .inl (cI, 1000, .inl fy)), (s4, .inl (cI, 12, .inl f110))]) [0, 2, 3, 1] (by decide) rfl
                    refine W.widen (k := 0) (n := 0) (by decide) (by decide) ?_
                    exact W.iret (v := 4) hx hb hr (fun t ht hW => ⟨⟨4, (), rfl, (trivial), nx1, f110, (show 0 ≤ nx1.toInt ∧ nx1.toInt ≤ 1000 by first | assumption | omega | decide), by rw [ht]; exact hP9, hD9⟩, hS.F ht⟩) hS.2.2 dX4_scanNumber_170
                  · have tc118 : r117.toInt = 0 := i32_eq c118
                    refine lv_iconst (v := 1) hx hb dX4_scanNumber_153 (by decide) ?_
                    refine lv_goto (tgt := 158) hx hb dX4_scanNumber_154 (by decide) ?_
                    refine lv_istore (lv' := [(6, .int 1), (5, .int v111), (4, .int sz1), (3, .int v65), (0, .ref h0), (1, .int i), (2, .int z)]) hx hb dX4_scanNumber_158 hl (by decide) rfl (fun ls hl => ?_)
                    refine lv_iload hx hb dX4_scanNumber_160 (lv_at hl 0 rfl) ?_
                    refine lv_if_eq (tgt := 169) hx hb dX4_scanNumber_162 (by decide) (fun h9 => (by first | exact absurd h9 (by decide) | exact absurd (by decide) h9)) (fun c120 => ?_)
                    refine lv_iconst (v := 2) hx hb dX4_scanNumber_165 (by decide) ?_
                    refine lv_goto (tgt := 170) hx hb dX4_scanNumber_166 (by decide) ?_
                    have hP9 := hP.sub (ws' := [(h0, .inr (4, [.ref tp, .int ct, .ref s2, .ref s3, .ref s4, .int nx1])), (tp, .inr (5, [.ref yb, .int n])), (yb, .inl (cI, 1000, .inl fy)), (s4, .inl (cI, 12, .inl f110))]) [0, 2, 3, 1] rfl
                    have hD9 := hD.sub (ws' := [(h0, .inr (4, [.ref tp, .int ct, .ref s2, .ref s3, .ref s4, .int nx1])), (tp, .inr (5, [.ref yb, .int n])), (yb, .inl (cI, 1000, .inl fy)), (s4, .inl (cI, 12, .inl f110))]) [0, 2, 3, 1] (by decide) rfl
                    refine W.widen (k := 0) (n := 0) (by decide) (by decide) ?_
                    exact W.iret (v := 2) hx hb hr (fun t ht hW => ⟨⟨2, (), rfl, (trivial), nx1, f110, (show 0 ≤ nx1.toInt ∧ nx1.toInt ≤ 1000 by first | assumption | omega | decide), by rw [ht]; exact hP9, hD9⟩, hS.F ht⟩) hS.2.2 dX4_scanNumber_170
          · have tc96 : ¬ (r95.toInt = 0) := i32_neq c96
            refine lv_aload_n hx hb dX4_scanNumber_53 rfl (lv_at hl 2 rfl) ?_
            refine va_get (D := D) (ci := 4) (v := .int nx1) (C := RX4) (T := TX4) (N := 6) hx hb hts iw_k_scanNumber_4 hown hK hP 0 rfl rfl 5 (by decide) (hts (.fieldLink RX4 29 "FlightDesk$Scanner" "next" "I") (by decide +kernel)) (fun _ h9 => h9) rfl dX4_scanNumber_54 ?_
            refine lv_iload_n hx hb dX4_scanNumber_57 rfl (lv_at hl 1 rfl) ?_
            refine lv_isub hx hb dX4_scanNumber_58 ?_
            refine lv_topi (fun v121 ev121 => ?_)
            have tv121 : v121.toInt = (nx1.toInt - v65.toInt + 2147483648) % 4294967296 - 2147483648 := i32_sub ev121
            refine lv_iconst (v := 5) hx hb dX4_scanNumber_59 (by decide) ?_
            refine lv_icmp_ge (tgt := 85) hx hb dX4_scanNumber_60 (by decide) (fun c122 => ?_) (fun c122 => ?_)
            · have tc122 : 5 ≤ v121.toInt := i32_le c122
              refine lv_aload_n hx hb dX4_scanNumber_85 rfl (lv_at hl 2 rfl) ?_
              refine lv_dup hx hb dX4_scanNumber_86 rfl ?_
              refine va_get (D := D) (ci := 4) (v := .int nx1) (C := RX4) (T := TX4) (N := 6) hx hb hts iw_k_scanNumber_4 hown hK hP 0 rfl rfl 5 (by decide) (hts (.fieldLink RX4 29 "FlightDesk$Scanner" "next" "I") (by decide +kernel)) (fun _ h9 => h9) rfl dX4_scanNumber_87 ?_
              refine lv_iconst (v := 1) hx hb dX4_scanNumber_90 (by decide) ?_
              refine lv_iadd hx hb dX4_scanNumber_91 ?_
              refine lv_topi (fun v123 ev123 => ?_)
              have tv123 : v123.toInt = (nx1.toInt + 1 + 2147483648) % 4294967296 - 2147483648 := i32_add ev123
              refine va_put (D := D) (ci := 4) (v := .int v123) (ty := .int) (C := RX4) (T := TX4) (N := 6) hx hb hts iw_k_scanNumber_4 tyX4 tyX4_ok nmX4 hown hK hP hD hS 0 rfl rfl 5 (by decide) (hts (.fieldLink RX4 29 "FlightDesk$Scanner" "next" "I") (by decide +kernel)) (fun _ h9 => h9) rfl (by decide +kernel) rfl rfl (Nat.le_of_ble_eq_true rfl) dX4_scanNumber_92 (fun H locs hP hD hS => ?_)
              have hP : va_P D vwCl [(h0, .inr (4, [.ref tp, .int ct, .ref s2, .ref s3, .ref s4, .int v123])), (s4, .inl (cI, 12, .inl fv)), (tp, .inr (5, [.ref yb, .int n])), (yb, .inl (cI, 1000, .inl fy))] H := hP
              have hD : va_D A [(h0, .inr (4, [.ref tp, .int ct, .ref s2, .ref s3, .ref s4, .int v123])), (s4, .inl (cI, 12, .inl fv)), (tp, .inr (5, [.ref yb, .int n])), (yb, .inl (cI, 1000, .inl fy))] := hD
              refine lv_goto (tgt := 22) hx hb dX4_scanNumber_95 (by decide) ?_
              exact ih_N68 sz1 v123 _ _ _ (show 0 ≤ v123.toInt ∧ v123.toInt ≤ 1000 by first | assumption | omega | decide) (by omega) (hP.sub [0, 2, 3, 1] rfl) (hD.sub [0, 2, 3, 1] (by decide) rfl) hS (lv_sub hl [0, 1, 2, 3, 4] rfl)
            · have tc122 : ¬ (5 ≤ v121.toInt) := i32_nle c122
              refine lv_iload hx hb dX4_scanNumber_63 (lv_at hl 0 rfl) ?_
              refine lv_bipush (v := 10) hx hb dX4_scanNumber_65 (by decide) ?_
              refine lv_imul hx hb dX4_scanNumber_67 ?_
              refine lv_topi (fun v124 ev124 => ?_)
              have tv124 : v124.toInt = (sz1.toInt * 10 + 2147483648) % 4294967296 - 2147483648 := i32_mul ev124
              refine lv_aload_n hx hb dX4_scanNumber_68 rfl (lv_at hl 2 rfl) ?_
              refine va_get (D := D) (ci := 4) (v := .ref tp) (C := RX4) (T := TX4) (N := 6) hx hb hts iw_k_scanNumber_4 hown hK hP 0 rfl rfl 0 (by decide) (hts (.fieldLink RX4 21 "FlightDesk$Scanner" "tape" "LFlightDesk$Tape;") (by decide +kernel)) (fun _ h9 => h9) rfl dX4_scanNumber_69 ?_
              refine lv_aload_n hx hb dX4_scanNumber_72 rfl (lv_at hl 2 rfl) ?_
              refine va_get (D := D) (ci := 4) (v := .int nx1) (C := RX4) (T := TX4) (N := 6) hx hb hts iw_k_scanNumber_4 hown hK hP 0 rfl rfl 5 (by decide) (hts (.fieldLink RX4 29 "FlightDesk$Scanner" "next" "I") (by decide +kernel)) (fun _ h9 => h9) rfl dX4_scanNumber_73 ?_
              have hPc := hP.sub (ws' := [(tp, .inr (5, [.ref yb, .int n])), (yb, .inl (cI, 1000, .inl fy))]) [2, 3] rfl
              have hDc := hD.sub (ws' := [(tp, .inr (5, [.ref yb, .int n])), (yb, .inl (cI, 1000, .inl fy))]) [2, 3] (by decide) rfl
              have hFc := va_free (wc := [(tp, .inr (5, [.ref yb, .int n])), (yb, .inl (cI, 1000, .inl fy))]) hD hS hA [2, 3] rfl
              refine va_calli (va_runV (As := [.int nx1]) (rest := [.int v124]) ⟨hx, hb, hml, hown, hts⟩ (k_byteAt l D cI cB cP H.size tp yb n nx1 fy (show 0 ≤ n.toInt ∧ n.toInt ≤ 1000 by first | assumption | omega | decide)) (cwV 1 hts gw_k_scanNumber_0 rfl rfl rfl (by decide +kernel) ⟨Nat.le_of_ble_eq_true rfl, Nat.le_of_ble_eq_true rfl⟩) ⟨ny_blind, va_recv hK hPc (ci := 5) (q0 := 0) rfl rfl, ny_pre hPc hK hN hDc⟩ rfl rfl hl.1 rfl (lv_room (Nat.le_of_ble_eq_true rfl)) dX4_scanNumber_76 ⟨Nat.le_of_ble_eq_true rfl, Nat.le_of_ble_eq_true rfl⟩) hS (fun q _ h => hFc q h) hFc (fun r125 u t H locs ht hvm hw hB hz1 hk1 hS => ?_)
              obtain ⟨hP1, hD1⟩ := hB
              rw [ht] at hP1
              obtain ⟨hP, hD⟩ := va_join (wr := [(h0, .inr (4, [.ref tp, .int ct, .ref s2, .ref s3, .ref s4, .int nx1])), (s4, .inl (cI, 12, .inl fv))]) (w1 := [(tp, .inr (5, [.ref yb, .int n])), (yb, .inl (cI, 1000, .inl fy))]) hP hD [2, 3] [0, 1] rfl rfl (by decide) (by decide) hk1 hFc hP1 hD1
              have hP : va_P D vwCl [(h0, .inr (4, [.ref tp, .int ct, .ref s2, .ref s3, .ref s4, .int nx1])), (s4, .inl (cI, 12, .inl fv)), (tp, .inr (5, [.ref yb, .int n])), (yb, .inl (cI, 1000, .inl fy))] H := hP
              have hD : va_D A [(h0, .inr (4, [.ref tp, .int ct, .ref s2, .ref s3, .ref s4, .int nx1])), (s4, .inl (cI, 12, .inl fv)), (tp, .inr (5, [.ref yb, .int n])), (yb, .inl (cI, 1000, .inl fy))] := hD
              have hr125 : ¬ r125.toInt = (-1) → 0 ≤ nx1.toInt ∧ nx1.toInt < n.toInt := hw
              refine lv_iadd hx hb dX4_scanNumber_79 ?_
              refine lv_topi (fun v126 ev126 => ?_)
              have tv126 : v126.toInt = (v124.toInt + r125.toInt + 2147483648) % 4294967296 - 2147483648 := i32_add ev126
              refine lv_bipush (v := 48) hx hb dX4_scanNumber_80 (by decide) ?_
              refine lv_isub hx hb dX4_scanNumber_82 ?_
              refine lv_topi (fun v127 ev127 => ?_)
              have tv127 : v127.toInt = (v126.toInt - 48 + 2147483648) % 4294967296 - 2147483648 := i32_sub ev127
              refine lv_istore (lv' := [(4, .int v127), (3, .int v65), (0, .ref h0), (1, .int i), (2, .int z)]) hx hb dX4_scanNumber_83 hl (by decide) rfl (fun ls hl => ?_)
              refine lv_aload_n hx hb dX4_scanNumber_85 rfl (lv_at hl 2 rfl) ?_
              refine lv_dup hx hb dX4_scanNumber_86 rfl ?_
              refine va_get (D := D) (ci := 4) (v := .int nx1) (C := RX4) (T := TX4) (N := 6) hx hb hts iw_k_scanNumber_4 hown hK hP 0 rfl rfl 5 (by decide) (hts (.fieldLink RX4 29 "FlightDesk$Scanner" "next" "I") (by decide +kernel)) (fun _ h9 => h9) rfl dX4_scanNumber_87 ?_
              refine lv_iconst (v := 1) hx hb dX4_scanNumber_90 (by decide) ?_
              refine lv_iadd hx hb dX4_scanNumber_91 ?_
              refine lv_topi (fun v128 ev128 => ?_)
              have tv128 : v128.toInt = (nx1.toInt + 1 + 2147483648) % 4294967296 - 2147483648 := i32_add ev128
              refine va_put (D := D) (ci := 4) (v := .int v128) (ty := .int) (C := RX4) (T := TX4) (N := 6) hx hb hts iw_k_scanNumber_4 tyX4 tyX4_ok nmX4 hown hK hP hD hS 0 rfl rfl 5 (by decide) (hts (.fieldLink RX4 29 "FlightDesk$Scanner" "next" "I") (by decide +kernel)) (fun _ h9 => h9) rfl (by decide +kernel) rfl rfl (Nat.le_of_ble_eq_true rfl) dX4_scanNumber_92 (fun H locs hP hD hS => ?_)
              have hP : va_P D vwCl [(h0, .inr (4, [.ref tp, .int ct, .ref s2, .ref s3, .ref s4, .int v128])), (s4, .inl (cI, 12, .inl fv)), (tp, .inr (5, [.ref yb, .int n])), (yb, .inl (cI, 1000, .inl fy))] H := hP
              have hD : va_D A [(h0, .inr (4, [.ref tp, .int ct, .ref s2, .ref s3, .ref s4, .int v128])), (s4, .inl (cI, 12, .inl fv)), (tp, .inr (5, [.ref yb, .int n])), (yb, .inl (cI, 1000, .inl fy))] := hD
              refine lv_goto (tgt := 22) hx hb dX4_scanNumber_95 (by decide) ?_
              exact ih_N68 v127 v128 _ _ _ (show 0 ≤ v128.toInt ∧ v128.toInt ≤ 1000 by first | assumption | omega | decide) (by omega) (hP.sub [0, 2, 3, 1] rfl) (hD.sub [0, 2, 3, 1] (by decide) rfl) hS (lv_sub hl [0, 1, 2, 3, 4] rfl)
    exact loop67 _ 0 v65 _ _ _ (show 0 ≤ v65.toInt ∧ v65.toInt ≤ 1000 by first | assumption | omega | decide) (Nat.lt_succ_self _) (hP.sub [0, 1, 2, 3] rfl) (hD.sub [0, 1, 2, 3] (by decide) rfl) hS (lv_sub hl [0, 1, 2, 3, 4] rfl)

def wk_k_scanToken : List Cond := .code yX4_scanToken cX4_scanToken 3 (some .int) :: ([.fieldLink RX4 21 "FlightDesk$Scanner" "tape" "LFlightDesk$Tape;", .fieldLink RX4 29 "FlightDesk$Scanner" "next" "I", .methodLink RX4 45 yX5_byteAt, .instanceMethod yX5_byteAt, .selects RX5 yX5_byteAt yX5_byteAt, .initialized RX5, .code yX5_byteAt cX5_byteAt 2 (some .int), .fieldLink RX5 15 "FlightDesk$Tape" "length" "I", .fieldLink RX5 9 "FlightDesk$Tape" "bytes" "[I", .methodLink RX4 60 yX4_isLetter, .static yX4_isLetter, .initialized RX4, .code yX4_isLetter cX4_isLetter 1 (some .boolean), .methodLink RX4 69 yX4_scanNumber, .instanceMethod yX4_scanNumber, .selects RX4 yX4_scanNumber yX4_scanNumber, .code yX4_scanNumber cX4_scanNumber 7 (some .int), .fieldLink RX4 54 "FlightDesk$Tape" "length" "I", .fieldLink RX4 18 "FlightDesk$Scanner" "value" "[I", .methodLink RX4 66 yX4_isDigit, .static yX4_isDigit, .code yX4_isDigit cX4_isDigit 1 (some .boolean), .methodLink RX4 63 yX4_scanWord, .instanceMethod yX4_scanWord, .selects RX4 yX4_scanWord yX4_scanWord, .code yX4_scanWord cX4_scanWord 3 (some .int)] ++ wsX40 ++ wsX50)
theorem iw_k_scanToken_4 : ∀ w ∈ wsX40, w ∈ wk_k_scanToken := fun _ h => List.mem_cons_of_mem _ (List.mem_append_left _ (List.mem_append_right _ h))
theorem iw_k_scanToken_5 : ∀ w ∈ wsX50, w ∈ wk_k_scanToken := fun _ h => List.mem_cons_of_mem _ (List.mem_append_right _ h)
set_option maxRecDepth 20000 in
theorem gw_k_scanToken_0 : GoodIn wk_k_scanToken (wsV RX4 45 RX5 yX5_byteAt wk_k_byteAt) := goodIn_sub (by decide +kernel) (by decide +kernel)
set_option maxRecDepth 20000 in
theorem gw_k_scanToken_1 : GoodIn wk_k_scanToken (wsS RX4 60 yX4_isLetter wk_k_isLetter) := goodIn_sub (by decide +kernel) (by decide +kernel)
set_option maxRecDepth 20000 in
theorem gw_k_scanToken_2 : GoodIn wk_k_scanToken (wsV RX4 69 RX4 yX4_scanNumber wk_k_scanNumber) := goodIn_sub (by decide +kernel) (by decide +kernel)
set_option maxRecDepth 20000 in
theorem gw_k_scanToken_3 : GoodIn wk_k_scanToken (wsS RX4 66 yX4_isDigit wk_k_isDigit) := goodIn_sub (by decide +kernel) (by decide +kernel)
set_option maxRecDepth 20000 in
theorem gw_k_scanToken_4 : GoodIn wk_k_scanToken (wsV RX4 63 RX4 yX4_scanWord wk_k_scanWord) := goodIn_sub (by decide +kernel) (by decide +kernel)
set_option maxHeartbeats 4000000 in
set_option maxRecDepth 100000 in
theorem k_scanToken (l : Launch) (D : va_G) (cI cB cP : ClassId) (sz : Nat) (h0 : Nat) (tp : Nat) (s2 : Nat) (s3 : Nat) (s4 : Nat) (yb : Nat) (ct : Int32) (nx : Int32) (n : Int32) (i : Int32) (fy : Nat → Int32) (fv : Nat → Int32) (hn9 : 0 ≤ n.toInt ∧ n.toInt ≤ 1000) (hx9 : 0 ≤ nx.toInt ∧ nx.toInt ≤ 1000) (hi9 : 0 ≤ i.toInt ∧ i.toInt ≤ 11) : Met l yX4_scanToken wk_k_scanToken ({ frames := 2, cells := 0, slots := 0, locals := 47 } : Room) (va_Pc [.ref h0, .int i] (Pw D cI cB cP sz [(h0, .inr (4, [.ref tp, .int ct, .ref s2, .ref s3, .ref s4, .int nx])), (tp, .inr (5, [.ref yb, .int n])), (yb, .inl (cI, 1000, .inl fy)), (s4, .inl (cI, 12, .inl fv))])) (va_Qi (fun (r : Int32) (_ : Unit) => True) (fun _ t => ∃ nx9 : Int32, ∃ gv : Nat → Int32, (0 ≤ nx9.toInt ∧ nx9.toInt ≤ 1000) ∧ va_P D vwCl [(h0, .inr (4, [.ref tp, .int ct, .ref s2, .ref s3, .ref s4, .int nx9])), (tp, .inr (5, [.ref yb, .int n])), (yb, .inl (cI, 1000, .inl fy)), (s4, .inl (cI, 12, .inl gv))] t.heap ∧ va_D (va_A [(h0, .inr (4, [.ref tp, .int ct, .ref s2, .ref s3, .ref s4, .int nx])), (tp, .inr (5, [.ref yb, .int n])), (yb, .inl (cI, 1000, .inl fy)), (s4, .inl (cI, 12, .inl fv))] sz) [(h0, .inr (4, [.ref tp, .int ct, .ref s2, .ref s3, .ref s4, .int nx9])), (tp, .inr (5, [.ref yb, .int n])), (yb, .inl (cI, 1000, .inl fy)), (s4, .inl (cI, 12, .inl gv))]) (va_A [(h0, .inr (4, [.ref tp, .int ct, .ref s2, .ref s3, .ref s4, .int nx])), (tp, .inr (5, [.ref yb, .int n])), (yb, .inl (cI, 1000, .inl fy)), (s4, .inl (cI, 12, .inl fv))] sz)) 0 0 (va_A [(h0, .inr (4, [.ref tp, .int ct, .ref s2, .ref s3, .ref s4, .int nx])), (tp, .inr (5, [.ref yb, .int n])), (yb, .inl (cI, 1000, .inl fy)), (s4, .inl (cI, 12, .inl fv))] sz) := by
  refine Met.ofW (cc := cX4_scanToken) (maxL := 3) (ret := (some .int)) (by decide) rfl ?_
  intro p e s m args below meth c s₁ B hml hv
  obtain ⟨rfl, hsz, hP, ⟨hK, hN⟩, hD0⟩ := hv
  have hx := B.exec
  have hb := B.bytes
  have hr := B.returns
  have hts := atoms_spec (ws := wk_k_scanToken) B.pre
  have hown : s.vm.findClass RX4 = some m.cls := findClass_of_methodNamed B.named
  have hlocks := B.notSynchronized
  subst hsz
  have hD := hD0.self (sz := s.heap.size)
  generalize hAe : va_A [(h0, .inr (4, [.ref tp, .int ct, .ref s2, .ref s3, .ref s4, .int nx])), (tp, .inr (5, [.ref yb, .int n])), (yb, .inl (cI, 1000, .inl fy)), (s4, .inl (cI, 12, .inl fv))] s.heap.size = A at hD ⊢
  have hA : ∀ q : Nat, s.heap.size ≤ q → A q := fun q h => by rw [← hAe]; exact Or.inr h
  have hS : va_S A s.heap s.heap [] := va_S.rf
  have hP : va_P D vwCl [(h0, .inr (4, [.ref tp, .int ct, .ref s2, .ref s3, .ref s4, .int nx])), (tp, .inr (5, [.ref yb, .int n])), (yb, .inl (cI, 1000, .inl fy)), (s4, .inl (cI, 12, .inl fv))] s.heap := hP
  have hl := lv_entry ([.ref h0, .int i]) (n := 3) (Nat.le_of_ble_eq_true rfl)
  rw [lg_entry_eq]
  generalize (lg_sl ([.ref h0, .int i]) ++ List.replicate (3 - (lg_sl ([.ref h0, .int i])).length) Slot.unset).toArray = ls at hl ⊢
  have hl : lv_has ls 3 [(0, .ref h0), (1, .int i)] := hl
  refine lv_aload_n hx hb dX4_scanToken_0 rfl (lv_at hl 0 rfl) ?_
  refine va_get (D := D) (ci := 4) (v := .ref tp) (C := RX4) (T := TX4) (N := 6) hx hb hts iw_k_scanToken_4 hown hK hP 0 rfl rfl 0 (by decide) (hts (.fieldLink RX4 21 "FlightDesk$Scanner" "tape" "LFlightDesk$Tape;") (by decide +kernel)) (fun _ h9 => h9) rfl dX4_scanToken_1 ?_
  refine lv_aload_n hx hb dX4_scanToken_4 rfl (lv_at hl 0 rfl) ?_
  refine va_get (D := D) (ci := 4) (v := .int nx) (C := RX4) (T := TX4) (N := 6) hx hb hts iw_k_scanToken_4 hown hK hP 0 rfl rfl 5 (by decide) (hts (.fieldLink RX4 29 "FlightDesk$Scanner" "next" "I") (by decide +kernel)) (fun _ h9 => h9) rfl dX4_scanToken_5 ?_
  have hPc := hP.sub (ws' := [(tp, .inr (5, [.ref yb, .int n])), (yb, .inl (cI, 1000, .inl fy))]) [1, 2] rfl
  have hDc := hD.sub (ws' := [(tp, .inr (5, [.ref yb, .int n])), (yb, .inl (cI, 1000, .inl fy))]) [1, 2] (by decide) rfl
  have hFc := va_free (wc := [(tp, .inr (5, [.ref yb, .int n])), (yb, .inl (cI, 1000, .inl fy))]) hD hS hA [1, 2] rfl
  refine va_calli (va_runV (As := [.int nx]) (rest := []) ⟨hx, hb, hml, hown, hts⟩ (k_byteAt l D cI cB cP s.heap.size tp yb n nx fy (show 0 ≤ n.toInt ∧ n.toInt ≤ 1000 by first | assumption | omega | decide)) (cwV 1 hts gw_k_scanToken_0 rfl rfl rfl (by decide +kernel) ⟨Nat.le_of_ble_eq_true rfl, Nat.le_of_ble_eq_true rfl⟩) ⟨ny_blind, va_recv hK hPc (ci := 5) (q0 := 0) rfl rfl, ny_pre hPc hK hN hDc⟩ rfl rfl hl.1 rfl (lv_room (Nat.le_of_ble_eq_true rfl)) dX4_scanToken_8 ⟨Nat.le_of_ble_eq_true rfl, Nat.le_of_ble_eq_true rfl⟩) hS (fun q _ h => hFc q h) hFc (fun r1 u t H locs ht hvm hw hB hz1 hk1 hS => ?_)
  obtain ⟨hP1, hD1⟩ := hB
  rw [ht] at hP1
  obtain ⟨hP, hD⟩ := va_join (wr := [(h0, .inr (4, [.ref tp, .int ct, .ref s2, .ref s3, .ref s4, .int nx])), (s4, .inl (cI, 12, .inl fv))]) (w1 := [(tp, .inr (5, [.ref yb, .int n])), (yb, .inl (cI, 1000, .inl fy))]) hP hD [1, 2] [0, 3] rfl rfl (by decide) (by decide) hk1 hFc hP1 hD1
  have hP : va_P D vwCl [(h0, .inr (4, [.ref tp, .int ct, .ref s2, .ref s3, .ref s4, .int nx])), (s4, .inl (cI, 12, .inl fv)), (tp, .inr (5, [.ref yb, .int n])), (yb, .inl (cI, 1000, .inl fy))] H := hP
  have hD : va_D A [(h0, .inr (4, [.ref tp, .int ct, .ref s2, .ref s3, .ref s4, .int nx])), (s4, .inl (cI, 12, .inl fv)), (tp, .inr (5, [.ref yb, .int n])), (yb, .inl (cI, 1000, .inl fy))] := hD
  have hr1 : ¬ r1.toInt = (-1) → 0 ≤ nx.toInt ∧ nx.toInt < n.toInt := hw
  refine lv_istore_n (lv' := [(2, .int r1), (0, .ref h0), (1, .int i)]) hx hb dX4_scanToken_11 rfl hl (by decide) rfl (fun ls hl => ?_)
  refine lv_iload_n hx hb dX4_scanToken_12 rfl (lv_at hl 0 rfl) ?_
  refine lv_iconst (v := (-1)) hx hb dX4_scanToken_13 (by decide) ?_
  refine lv_icmp_ne (tgt := 19) hx hb dX4_scanToken_14 (by decide) (fun c2 => ?_) (fun c2 => ?_)
  · have tc2 : ¬ (r1.toInt = (-1)) := i32_neq c2
    refine lv_iload_n hx hb dX4_scanToken_19 rfl (lv_at hl 0 rfl) ?_
    have hPc := hP.sub (ws' := []) [] rfl
    have hDc := hD.sub (ws' := []) [] (by decide) rfl
    have hFc := va_free (wc := []) hD hS hA [] rfl
    refine va_calli (va_runS (As := [.int r1]) (rest := []) ⟨hx, hb, hml, hown, hts⟩ (k_isLetter l D cI cB cP H.size r1) (cwS 1 hts gw_k_scanToken_1 rfl rfl rfl (by decide +kernel) ⟨Nat.le_of_ble_eq_true rfl, Nat.le_of_ble_eq_true rfl⟩) ⟨ny_blind, ny_pre hPc hK hN hDc⟩ rfl rfl hl.1 rfl (lv_room (Nat.le_of_ble_eq_true rfl)) dX4_scanToken_20 ⟨Nat.le_of_ble_eq_true rfl, Nat.le_of_ble_eq_true rfl⟩) hS (fun q _ h => hFc q h) hFc (fun r3 u t H locs ht hvm hw hB hz1 hk1 hS => ?_)
    obtain ⟨hP, hD⟩ := va_join (wr := [(h0, .inr (4, [.ref tp, .int ct, .ref s2, .ref s3, .ref s4, .int nx])), (s4, .inl (cI, 12, .inl fv)), (tp, .inr (5, [.ref yb, .int n])), (yb, .inl (cI, 1000, .inl fy))]) (w1 := []) hP hD [] [0, 1, 2, 3] rfl rfl (by decide) (by decide) hk1 hFc ny_P0 ny_D0
    have hP : va_P D vwCl [(h0, .inr (4, [.ref tp, .int ct, .ref s2, .ref s3, .ref s4, .int nx])), (s4, .inl (cI, 12, .inl fv)), (tp, .inr (5, [.ref yb, .int n])), (yb, .inl (cI, 1000, .inl fy))] H := hP
    have hD : va_D A [(h0, .inr (4, [.ref tp, .int ct, .ref s2, .ref s3, .ref s4, .int nx])), (s4, .inl (cI, 12, .inl fv)), (tp, .inr (5, [.ref yb, .int n])), (yb, .inl (cI, 1000, .inl fy))] := hD
    have hr3 : 0 ≤ r3.toInt := hw
    refine lv_if_eq (tgt := 32) hx hb dX4_scanToken_23 (by decide) (fun c4 => ?_) (fun c4 => ?_)
    · have tc4 : r3.toInt = 0 := i32_eq c4
      refine lv_iload_n hx hb dX4_scanToken_32 rfl (lv_at hl 0 rfl) ?_
      refine lv_bipush (v := 45) hx hb dX4_scanToken_33 (by decide) ?_
      refine lv_icmp_eq (tgt := 45) hx hb dX4_scanToken_35 (by decide) (fun c5 => ?_) (fun c5 => ?_)
      · have tc5 : r1.toInt = 45 := i32_eq c5
        refine lv_aload_n hx hb dX4_scanToken_45 rfl (lv_at hl 1 rfl) ?_
        refine lv_iload_n hx hb dX4_scanToken_46 rfl (lv_at hl 2 rfl) ?_
        refine lv_iload_n hx hb dX4_scanToken_47 rfl (lv_at hl 0 rfl) ?_
        refine lv_bipush (v := 45) hx hb dX4_scanToken_48 (by decide) ?_
        refine lv_icmp_ne (tgt := 57) hx hb dX4_scanToken_50 (by decide) (fun c6 => ?_) (fun c6 => ?_)
        · have tc6 : ¬ (r1.toInt = 45) := i32_neq c6
          refine lv_iconst (v := 0) hx hb dX4_scanToken_57 (by decide) ?_
          have hPc := hP.sub (ws' := [(h0, .inr (4, [.ref tp, .int ct, .ref s2, .ref s3, .ref s4, .int nx])), (tp, .inr (5, [.ref yb, .int n])), (yb, .inl (cI, 1000, .inl fy)), (s4, .inl (cI, 12, .inl fv))]) [0, 2, 3, 1] rfl
          have hDc := hD.sub (ws' := [(h0, .inr (4, [.ref tp, .int ct, .ref s2, .ref s3, .ref s4, .int nx])), (tp, .inr (5, [.ref yb, .int n])), (yb, .inl (cI, 1000, .inl fy)), (s4, .inl (cI, 12, .inl fv))]) [0, 2, 3, 1] (by decide) rfl
          have hFc := va_free (wc := [(h0, .inr (4, [.ref tp, .int ct, .ref s2, .ref s3, .ref s4, .int nx])), (tp, .inr (5, [.ref yb, .int n])), (yb, .inl (cI, 1000, .inl fy)), (s4, .inl (cI, 12, .inl fv))]) hD hS hA [0, 2, 3, 1] rfl
          refine va_calli (va_runV (As := [.int i, .int 0]) (rest := []) ⟨hx, hb, hml, hown, hts⟩ (k_scanNumber l D cI cB cP H.size h0 tp s2 s3 s4 yb ct nx n i 0 fy fv (show 0 ≤ n.toInt ∧ n.toInt ≤ 1000 by first | assumption | omega | decide) (show 0 ≤ nx.toInt ∧ nx.toInt ≤ 1000 by first | assumption | omega | decide) (show 0 ≤ i.toInt ∧ i.toInt ≤ 11 by first | assumption | omega | decide) (show nx.toInt < n.toInt by first | assumption | omega | decide)) (cwV 2 hts gw_k_scanToken_2 rfl rfl rfl (by decide +kernel) ⟨Nat.le_of_ble_eq_true rfl, Nat.le_of_ble_eq_true rfl⟩) ⟨ny_blind, va_recv hK hPc (ci := 4) (q0 := 0) rfl rfl, ny_pre hPc hK hN hDc⟩ rfl rfl hl.1 rfl (lv_room (Nat.le_of_ble_eq_true rfl)) dX4_scanToken_58 ⟨Nat.le_of_ble_eq_true rfl, Nat.le_of_ble_eq_true rfl⟩) hS (fun q _ h => hFc q h) hFc (fun r9 u t H locs ht hvm hw hB hz1 hk1 hS => ?_)
          obtain ⟨nx_7, gv_8, hp10, hP1, hD1⟩ := hB
          rw [ht] at hP1
          have hp10 : 0 ≤ nx_7.toInt ∧ nx_7.toInt ≤ 1000 := hp10
          obtain ⟨hP, hD⟩ := va_join (wr := []) (w1 := [(h0, .inr (4, [.ref tp, .int ct, .ref s2, .ref s3, .ref s4, .int nx_7])), (tp, .inr (5, [.ref yb, .int n])), (yb, .inl (cI, 1000, .inl fy)), (s4, .inl (cI, 12, .inl gv_8))]) hP hD [0, 2, 3, 1] [] rfl rfl (by decide) (by decide) hk1 hFc hP1 hD1
          have hP : va_P D vwCl [(h0, .inr (4, [.ref tp, .int ct, .ref s2, .ref s3, .ref s4, .int nx_7])), (tp, .inr (5, [.ref yb, .int n])), (yb, .inl (cI, 1000, .inl fy)), (s4, .inl (cI, 12, .inl gv_8))] H := hP
          have hD : va_D A [(h0, .inr (4, [.ref tp, .int ct, .ref s2, .ref s3, .ref s4, .int nx_7])), (tp, .inr (5, [.ref yb, .int n])), (yb, .inl (cI, 1000, .inl fy)), (s4, .inl (cI, 12, .inl gv_8))] := hD
          have hr9 : True := hw
          have hP9 := hP.sub (ws' := [(h0, .inr (4, [.ref tp, .int ct, .ref s2, .ref s3, .ref s4, .int nx_7])), (tp, .inr (5, [.ref yb, .int n])), (yb, .inl (cI, 1000, .inl fy)), (s4, .inl (cI, 12, .inl gv_8))]) [0, 1, 2, 3] rfl
          have hD9 := hD.sub (ws' := [(h0, .inr (4, [.ref tp, .int ct, .ref s2, .ref s3, .ref s4, .int nx_7])), (tp, .inr (5, [.ref yb, .int n])), (yb, .inl (cI, 1000, .inl fy)), (s4, .inl (cI, 12, .inl gv_8))]) [0, 1, 2, 3] (by decide) rfl
          refine W.widen (k := 0) (n := 0) (by decide) (by decide) ?_
          exact W.iret (v := r9) hx hb hr (fun t ht hW => ⟨⟨r9, (), rfl, (trivial), nx_7, gv_8, (show 0 ≤ nx_7.toInt ∧ nx_7.toInt ≤ 1000 by first | assumption | omega | decide), by rw [ht]; exact hP9, hD9⟩, hS.F ht⟩) hS.2.2 dX4_scanToken_61
        · have tc6 : r1.toInt = 45 := i32_eq c6
          refine lv_iconst (v := 1) hx hb dX4_scanToken_53 (by decide) ?_
          refine lv_goto (tgt := 58) hx hb dX4_scanToken_54 (by decide) ?_
          have hPc := hP.sub (ws' := [(h0, .inr (4, [.ref tp, .int ct, .ref s2, .ref s3, .ref s4, .int nx])), (tp, .inr (5, [.ref yb, .int n])), (yb, .inl (cI, 1000, .inl fy)), (s4, .inl (cI, 12, .inl fv))]) [0, 2, 3, 1] rfl
          have hDc := hD.sub (ws' := [(h0, .inr (4, [.ref tp, .int ct, .ref s2, .ref s3, .ref s4, .int nx])), (tp, .inr (5, [.ref yb, .int n])), (yb, .inl (cI, 1000, .inl fy)), (s4, .inl (cI, 12, .inl fv))]) [0, 2, 3, 1] (by decide) rfl
          have hFc := va_free (wc := [(h0, .inr (4, [.ref tp, .int ct, .ref s2, .ref s3, .ref s4, .int nx])), (tp, .inr (5, [.ref yb, .int n])), (yb, .inl (cI, 1000, .inl fy)), (s4, .inl (cI, 12, .inl fv))]) hD hS hA [0, 2, 3, 1] rfl
          refine va_calli (va_runV (As := [.int i, .int 1]) (rest := []) ⟨hx, hb, hml, hown, hts⟩ (k_scanNumber l D cI cB cP H.size h0 tp s2 s3 s4 yb ct nx n i 1 fy fv (show 0 ≤ n.toInt ∧ n.toInt ≤ 1000 by first | assumption | omega | decide) (show 0 ≤ nx.toInt ∧ nx.toInt ≤ 1000 by first | assumption | omega | decide) (show 0 ≤ i.toInt ∧ i.toInt ≤ 11 by first | assumption | omega | decide) (show nx.toInt < n.toInt by first | assumption | omega | decide)) (cwV 2 hts gw_k_scanToken_2 rfl rfl rfl (by decide +kernel) ⟨Nat.le_of_ble_eq_true rfl, Nat.le_of_ble_eq_true rfl⟩) ⟨ny_blind, va_recv hK hPc (ci := 4) (q0 := 0) rfl rfl, ny_pre hPc hK hN hDc⟩ rfl rfl hl.1 rfl (lv_room (Nat.le_of_ble_eq_true rfl)) dX4_scanToken_58 ⟨Nat.le_of_ble_eq_true rfl, Nat.le_of_ble_eq_true rfl⟩) hS (fun q _ h => hFc q h) hFc (fun r13 u t H locs ht hvm hw hB hz1 hk1 hS => ?_)
          obtain ⟨nx_11, gv_12, hp14, hP1, hD1⟩ := hB
          rw [ht] at hP1
          have hp14 : 0 ≤ nx_11.toInt ∧ nx_11.toInt ≤ 1000 := hp14
          obtain ⟨hP, hD⟩ := va_join (wr := []) (w1 := [(h0, .inr (4, [.ref tp, .int ct, .ref s2, .ref s3, .ref s4, .int nx_11])), (tp, .inr (5, [.ref yb, .int n])), (yb, .inl (cI, 1000, .inl fy)), (s4, .inl (cI, 12, .inl gv_12))]) hP hD [0, 2, 3, 1] [] rfl rfl (by decide) (by decide) hk1 hFc hP1 hD1
          have hP : va_P D vwCl [(h0, .inr (4, [.ref tp, .int ct, .ref s2, .ref s3, .ref s4, .int nx_11])), (tp, .inr (5, [.ref yb, .int n])), (yb, .inl (cI, 1000, .inl fy)), (s4, .inl (cI, 12, .inl gv_12))] H := hP
          have hD : va_D A [(h0, .inr (4, [.ref tp, .int ct, .ref s2, .ref s3, .ref s4, .int nx_11])), (tp, .inr (5, [.ref yb, .int n])), (yb, .inl (cI, 1000, .inl fy)), (s4, .inl (cI, 12, .inl gv_12))] := hD
          have hr13 : True := hw
          have hP9 := hP.sub (ws' := [(h0, .inr (4, [.ref tp, .int ct, .ref s2, .ref s3, .ref s4, .int nx_11])), (tp, .inr (5, [.ref yb, .int n])), (yb, .inl (cI, 1000, .inl fy)), (s4, .inl (cI, 12, .inl gv_12))]) [0, 1, 2, 3] rfl
          have hD9 := hD.sub (ws' := [(h0, .inr (4, [.ref tp, .int ct, .ref s2, .ref s3, .ref s4, .int nx_11])), (tp, .inr (5, [.ref yb, .int n])), (yb, .inl (cI, 1000, .inl fy)), (s4, .inl (cI, 12, .inl gv_12))]) [0, 1, 2, 3] (by decide) rfl
          refine W.widen (k := 0) (n := 0) (by decide) (by decide) ?_
          exact W.iret (v := r13) hx hb hr (fun t ht hW => ⟨⟨r13, (), rfl, (trivial), nx_11, gv_12, (show 0 ≤ nx_11.toInt ∧ nx_11.toInt ≤ 1000 by first | assumption | omega | decide), by rw [ht]; exact hP9, hD9⟩, hS.F ht⟩) hS.2.2 dX4_scanToken_61
      · have tc5 : ¬ (r1.toInt = 45) := i32_neq c5
        refine lv_iload_n hx hb dX4_scanToken_38 rfl (lv_at hl 0 rfl) ?_
        have hPc := hP.sub (ws' := []) [] rfl
        have hDc := hD.sub (ws' := []) [] (by decide) rfl
        have hFc := va_free (wc := []) hD hS hA [] rfl
        refine va_calli (va_runS (As := [.int r1]) (rest := []) ⟨hx, hb, hml, hown, hts⟩ (k_isDigit l D cI cB cP H.size r1) (cwS 1 hts gw_k_scanToken_3 rfl rfl rfl (by decide +kernel) ⟨Nat.le_of_ble_eq_true rfl, Nat.le_of_ble_eq_true rfl⟩) ⟨ny_blind, ny_pre hPc hK hN hDc⟩ rfl rfl hl.1 rfl (lv_room (Nat.le_of_ble_eq_true rfl)) dX4_scanToken_39 ⟨Nat.le_of_ble_eq_true rfl, Nat.le_of_ble_eq_true rfl⟩) hS (fun q _ h => hFc q h) hFc (fun r15 u t H locs ht hvm hw hB hz1 hk1 hS => ?_)
        obtain ⟨hP, hD⟩ := va_join (wr := [(h0, .inr (4, [.ref tp, .int ct, .ref s2, .ref s3, .ref s4, .int nx])), (s4, .inl (cI, 12, .inl fv)), (tp, .inr (5, [.ref yb, .int n])), (yb, .inl (cI, 1000, .inl fy))]) (w1 := []) hP hD [] [0, 1, 2, 3] rfl rfl (by decide) (by decide) hk1 hFc ny_P0 ny_D0
        have hP : va_P D vwCl [(h0, .inr (4, [.ref tp, .int ct, .ref s2, .ref s3, .ref s4, .int nx])), (s4, .inl (cI, 12, .inl fv)), (tp, .inr (5, [.ref yb, .int n])), (yb, .inl (cI, 1000, .inl fy))] H := hP
        have hD : va_D A [(h0, .inr (4, [.ref tp, .int ct, .ref s2, .ref s3, .ref s4, .int nx])), (s4, .inl (cI, 12, .inl fv)), (tp, .inr (5, [.ref yb, .int n])), (yb, .inl (cI, 1000, .inl fy))] := hD
        have hr15 : 0 ≤ r15.toInt := hw
        refine lv_if_eq (tgt := 62) hx hb dX4_scanToken_42 (by decide) (fun c16 => ?_) (fun c16 => ?_)
        · have tc16 : r15.toInt = 0 := i32_eq c16
          refine lv_aload_n hx hb dX4_scanToken_62 rfl (lv_at hl 1 rfl) ?_
          refine lv_dup hx hb dX4_scanToken_63 rfl ?_
          refine va_get (D := D) (ci := 4) (v := .int nx) (C := RX4) (T := TX4) (N := 6) hx hb hts iw_k_scanToken_4 hown hK hP 0 rfl rfl 5 (by decide) (hts (.fieldLink RX4 29 "FlightDesk$Scanner" "next" "I") (by decide +kernel)) (fun _ h9 => h9) rfl dX4_scanToken_64 ?_
          refine lv_iconst (v := 1) hx hb dX4_scanToken_67 (by decide) ?_
          refine lv_iadd hx hb dX4_scanToken_68 ?_
          refine lv_topi (fun v17 ev17 => ?_)
          have tv17 : v17.toInt = (nx.toInt + 1 + 2147483648) % 4294967296 - 2147483648 := i32_add ev17
          refine va_put (D := D) (ci := 4) (v := .int v17) (ty := .int) (C := RX4) (T := TX4) (N := 6) hx hb hts iw_k_scanToken_4 tyX4 tyX4_ok nmX4 hown hK hP hD hS 0 rfl rfl 5 (by decide) (hts (.fieldLink RX4 29 "FlightDesk$Scanner" "next" "I") (by decide +kernel)) (fun _ h9 => h9) rfl (by decide +kernel) rfl rfl (Nat.le_of_ble_eq_true rfl) dX4_scanToken_69 (fun H locs hP hD hS => ?_)
          have hP : va_P D vwCl [(h0, .inr (4, [.ref tp, .int ct, .ref s2, .ref s3, .ref s4, .int v17])), (s4, .inl (cI, 12, .inl fv)), (tp, .inr (5, [.ref yb, .int n])), (yb, .inl (cI, 1000, .inl fy))] H := hP
          have hD : va_D A [(h0, .inr (4, [.ref tp, .int ct, .ref s2, .ref s3, .ref s4, .int v17])), (s4, .inl (cI, 12, .inl fv)), (tp, .inr (5, [.ref yb, .int n])), (yb, .inl (cI, 1000, .inl fy))] := hD
          refine lv_iload_n hx hb dX4_scanToken_72 rfl (lv_at hl 0 rfl) ?_
          refine lv_bipush (v := 59) hx hb dX4_scanToken_73 (by decide) ?_
          refine lv_icmp_ne (tgt := 82) hx hb dX4_scanToken_75 (by decide) (fun c18 => ?_) (fun c18 => ?_)
          · have tc18 : ¬ (r1.toInt = 59) := i32_neq c18
            refine lv_iconst (v := 4) hx hb dX4_scanToken_82 (by decide) ?_
            have hP9 := hP.sub (ws' := [(h0, .inr (4, [.ref tp, .int ct, .ref s2, .ref s3, .ref s4, .int v17])), (tp, .inr (5, [.ref yb, .int n])), (yb, .inl (cI, 1000, .inl fy)), (s4, .inl (cI, 12, .inl fv))]) [0, 2, 3, 1] rfl
            have hD9 := hD.sub (ws' := [(h0, .inr (4, [.ref tp, .int ct, .ref s2, .ref s3, .ref s4, .int v17])), (tp, .inr (5, [.ref yb, .int n])), (yb, .inl (cI, 1000, .inl fy)), (s4, .inl (cI, 12, .inl fv))]) [0, 2, 3, 1] (by decide) rfl
            refine W.widen (k := 0) (n := 0) (by decide) (by decide) ?_
            exact W.iret (v := 4) hx hb hr (fun t ht hW => ⟨⟨4, (), rfl, (trivial), v17, fv, (show 0 ≤ v17.toInt ∧ v17.toInt ≤ 1000 by first | assumption | omega | decide), by rw [ht]; exact hP9, hD9⟩, hS.F ht⟩) hS.2.2 dX4_scanToken_83
          · have tc18 : r1.toInt = 59 := i32_eq c18
            refine lv_iconst (v := 3) hx hb dX4_scanToken_78 (by decide) ?_
            refine lv_goto (tgt := 83) hx hb dX4_scanToken_79 (by decide) ?_
            have hP9 := hP.sub (ws' := [(h0, .inr (4, [.ref tp, .int ct, .ref s2, .ref s3, .ref s4, .int v17])), (tp, .inr (5, [.ref yb, .int n])), (yb, .inl (cI, 1000, .inl fy)), (s4, .inl (cI, 12, .inl fv))]) [0, 2, 3, 1] rfl
            have hD9 := hD.sub (ws' := [(h0, .inr (4, [.ref tp, .int ct, .ref s2, .ref s3, .ref s4, .int v17])), (tp, .inr (5, [.ref yb, .int n])), (yb, .inl (cI, 1000, .inl fy)), (s4, .inl (cI, 12, .inl fv))]) [0, 2, 3, 1] (by decide) rfl
            refine W.widen (k := 0) (n := 0) (by decide) (by decide) ?_
            exact W.iret (v := 3) hx hb hr (fun t ht hW => ⟨⟨3, (), rfl, (trivial), v17, fv, (show 0 ≤ v17.toInt ∧ v17.toInt ≤ 1000 by first | assumption | omega | decide), by rw [ht]; exact hP9, hD9⟩, hS.F ht⟩) hS.2.2 dX4_scanToken_83
        · have tc16 : ¬ (r15.toInt = 0) := i32_neq c16
          refine lv_aload_n hx hb dX4_scanToken_45 rfl (lv_at hl 1 rfl) ?_
          refine lv_iload_n hx hb dX4_scanToken_46 rfl (lv_at hl 2 rfl) ?_
          refine lv_iload_n hx hb dX4_scanToken_47 rfl (lv_at hl 0 rfl) ?_
          refine lv_bipush (v := 45) hx hb dX4_scanToken_48 (by decide) ?_
          refine lv_icmp_ne (tgt := 57) hx hb dX4_scanToken_50 (by decide) (fun c19 => ?_) (fun c19 => ?_)
          · have tc19 : ¬ (r1.toInt = 45) := i32_neq c19
            refine lv_iconst (v := 0) hx hb dX4_scanToken_57 (by decide) ?_
            have hPc := hP.sub (ws' := [(h0, .inr (4, [.ref tp, .int ct, .ref s2, .ref s3, .ref s4, .int nx])), (tp, .inr (5, [.ref yb, .int n])), (yb, .inl (cI, 1000, .inl fy)), (s4, .inl (cI, 12, .inl fv))]) [0, 2, 3, 1] rfl
            have hDc := hD.sub (ws' := [(h0, .inr (4, [.ref tp, .int ct, .ref s2, .ref s3, .ref s4, .int nx])), (tp, .inr (5, [.ref yb, .int n])), (yb, .inl (cI, 1000, .inl fy)), (s4, .inl (cI, 12, .inl fv))]) [0, 2, 3, 1] (by decide) rfl
            have hFc := va_free (wc := [(h0, .inr (4, [.ref tp, .int ct, .ref s2, .ref s3, .ref s4, .int nx])), (tp, .inr (5, [.ref yb, .int n])), (yb, .inl (cI, 1000, .inl fy)), (s4, .inl (cI, 12, .inl fv))]) hD hS hA [0, 2, 3, 1] rfl
            refine va_calli (va_runV (As := [.int i, .int 0]) (rest := []) ⟨hx, hb, hml, hown, hts⟩ (k_scanNumber l D cI cB cP H.size h0 tp s2 s3 s4 yb ct nx n i 0 fy fv (show 0 ≤ n.toInt ∧ n.toInt ≤ 1000 by first | assumption | omega | decide) (show 0 ≤ nx.toInt ∧ nx.toInt ≤ 1000 by first | assumption | omega | decide) (show 0 ≤ i.toInt ∧ i.toInt ≤ 11 by first | assumption | omega | decide) (show nx.toInt < n.toInt by first | assumption | omega | decide)) (cwV 2 hts gw_k_scanToken_2 rfl rfl rfl (by decide +kernel) ⟨Nat.le_of_ble_eq_true rfl, Nat.le_of_ble_eq_true rfl⟩) ⟨ny_blind, va_recv hK hPc (ci := 4) (q0 := 0) rfl rfl, ny_pre hPc hK hN hDc⟩ rfl rfl hl.1 rfl (lv_room (Nat.le_of_ble_eq_true rfl)) dX4_scanToken_58 ⟨Nat.le_of_ble_eq_true rfl, Nat.le_of_ble_eq_true rfl⟩) hS (fun q _ h => hFc q h) hFc (fun r22 u t H locs ht hvm hw hB hz1 hk1 hS => ?_)
            obtain ⟨nx_20, gv_21, hp23, hP1, hD1⟩ := hB
            rw [ht] at hP1
            have hp23 : 0 ≤ nx_20.toInt ∧ nx_20.toInt ≤ 1000 := hp23
            obtain ⟨hP, hD⟩ := va_join (wr := []) (w1 := [(h0, .inr (4, [.ref tp, .int ct, .ref s2, .ref s3, .ref s4, .int nx_20])), (tp, .inr (5, [.ref yb, .int n])), (yb, .inl (cI, 1000, .inl fy)), (s4, .inl (cI, 12, .inl gv_21))]) hP hD [0, 2, 3, 1] [] rfl rfl (by decide) (by decide) hk1 hFc hP1 hD1
            have hP : va_P D vwCl [(h0, .inr (4, [.ref tp, .int ct, .ref s2, .ref s3, .ref s4, .int nx_20])), (tp, .inr (5, [.ref yb, .int n])), (yb, .inl (cI, 1000, .inl fy)), (s4, .inl (cI, 12, .inl gv_21))] H := hP
            have hD : va_D A [(h0, .inr (4, [.ref tp, .int ct, .ref s2, .ref s3, .ref s4, .int nx_20])), (tp, .inr (5, [.ref yb, .int n])), (yb, .inl (cI, 1000, .inl fy)), (s4, .inl (cI, 12, .inl gv_21))] := hD
            have hr22 : True := hw
            have hP9 := hP.sub (ws' := [(h0, .inr (4, [.ref tp, .int ct, .ref s2, .ref s3, .ref s4, .int nx_20])), (tp, .inr (5, [.ref yb, .int n])), (yb, .inl (cI, 1000, .inl fy)), (s4, .inl (cI, 12, .inl gv_21))]) [0, 1, 2, 3] rfl
            have hD9 := hD.sub (ws' := [(h0, .inr (4, [.ref tp, .int ct, .ref s2, .ref s3, .ref s4, .int nx_20])), (tp, .inr (5, [.ref yb, .int n])), (yb, .inl (cI, 1000, .inl fy)), (s4, .inl (cI, 12, .inl gv_21))]) [0, 1, 2, 3] (by decide) rfl
            refine W.widen (k := 0) (n := 0) (by decide) (by decide) ?_
            exact W.iret (v := r22) hx hb hr (fun t ht hW => ⟨⟨r22, (), rfl, (trivial), nx_20, gv_21, (show 0 ≤ nx_20.toInt ∧ nx_20.toInt ≤ 1000 by first | assumption | omega | decide), by rw [ht]; exact hP9, hD9⟩, hS.F ht⟩) hS.2.2 dX4_scanToken_61
          · have tc19 : r1.toInt = 45 := i32_eq c19
            refine lv_iconst (v := 1) hx hb dX4_scanToken_53 (by decide) ?_
            refine lv_goto (tgt := 58) hx hb dX4_scanToken_54 (by decide) ?_
            have hPc := hP.sub (ws' := [(h0, .inr (4, [.ref tp, .int ct, .ref s2, .ref s3, .ref s4, .int nx])), (tp, .inr (5, [.ref yb, .int n])), (yb, .inl (cI, 1000, .inl fy)), (s4, .inl (cI, 12, .inl fv))]) [0, 2, 3, 1] rfl
            have hDc := hD.sub (ws' := [(h0, .inr (4, [.ref tp, .int ct, .ref s2, .ref s3, .ref s4, .int nx])), (tp, .inr (5, [.ref yb, .int n])), (yb, .inl (cI, 1000, .inl fy)), (s4, .inl (cI, 12, .inl fv))]) [0, 2, 3, 1] (by decide) rfl
            have hFc := va_free (wc := [(h0, .inr (4, [.ref tp, .int ct, .ref s2, .ref s3, .ref s4, .int nx])), (tp, .inr (5, [.ref yb, .int n])), (yb, .inl (cI, 1000, .inl fy)), (s4, .inl (cI, 12, .inl fv))]) hD hS hA [0, 2, 3, 1] rfl
            refine va_calli (va_runV (As := [.int i, .int 1]) (rest := []) ⟨hx, hb, hml, hown, hts⟩ (k_scanNumber l D cI cB cP H.size h0 tp s2 s3 s4 yb ct nx n i 1 fy fv (show 0 ≤ n.toInt ∧ n.toInt ≤ 1000 by first | assumption | omega | decide) (show 0 ≤ nx.toInt ∧ nx.toInt ≤ 1000 by first | assumption | omega | decide) (show 0 ≤ i.toInt ∧ i.toInt ≤ 11 by first | assumption | omega | decide) (show nx.toInt < n.toInt by first | assumption | omega | decide)) (cwV 2 hts gw_k_scanToken_2 rfl rfl rfl (by decide +kernel) ⟨Nat.le_of_ble_eq_true rfl, Nat.le_of_ble_eq_true rfl⟩) ⟨ny_blind, va_recv hK hPc (ci := 4) (q0 := 0) rfl rfl, ny_pre hPc hK hN hDc⟩ rfl rfl hl.1 rfl (lv_room (Nat.le_of_ble_eq_true rfl)) dX4_scanToken_58 ⟨Nat.le_of_ble_eq_true rfl, Nat.le_of_ble_eq_true rfl⟩) hS (fun q _ h => hFc q h) hFc (fun r26 u t H locs ht hvm hw hB hz1 hk1 hS => ?_)
            obtain ⟨nx_24, gv_25, hp27, hP1, hD1⟩ := hB
            rw [ht] at hP1
            have hp27 : 0 ≤ nx_24.toInt ∧ nx_24.toInt ≤ 1000 := hp27
            obtain ⟨hP, hD⟩ := va_join (wr := []) (w1 := [(h0, .inr (4, [.ref tp, .int ct, .ref s2, .ref s3, .ref s4, .int nx_24])), (tp, .inr (5, [.ref yb, .int n])), (yb, .inl (cI, 1000, .inl fy)), (s4, .inl (cI, 12, .inl gv_25))]) hP hD [0, 2, 3, 1] [] rfl rfl (by decide) (by decide) hk1 hFc hP1 hD1
            have hP : va_P D vwCl [(h0, .inr (4, [.ref tp, .int ct, .ref s2, .ref s3, .ref s4, .int nx_24])), (tp, .inr (5, [.ref yb, .int n])), (yb, .inl (cI, 1000, .inl fy)), (s4, .inl (cI, 12, .inl gv_25))] H := hP
            have hD : va_D A [(h0, .inr (4, [.ref tp, .int ct, .ref s2, .ref s3, .ref s4, .int nx_24])), (tp, .inr (5, [.ref yb, .int n])), (yb, .inl (cI, 1000, .inl fy)), (s4, .inl (cI, 12, .inl gv_25))] := hD
            have hr26 : True := hw
            have hP9 := hP.sub (ws' := [(h0, .inr (4, [.ref tp, .int ct, .ref s2, .ref s3, .ref s4, .int nx_24])), (tp, .inr (5, [.ref yb, .int n])), (yb, .inl (cI, 1000, .inl fy)), (s4, .inl (cI, 12, .inl gv_25))]) [0, 1, 2, 3] rfl
            have hD9 := hD.sub (ws' := [(h0, .inr (4, [.ref tp, .int ct, .ref s2, .ref s3, .ref s4, .int nx_24])), (tp, .inr (5, [.ref yb, .int n])), (yb, .inl (cI, 1000, .inl fy)), (s4, .inl (cI, 12, .inl gv_25))]) [0, 1, 2, 3] (by decide) rfl
            refine W.widen (k := 0) (n := 0) (by decide) (by decide) ?_
            exact W.iret (v := r26) hx hb hr (fun t ht hW => ⟨⟨r26, (), rfl, (trivial), nx_24, gv_25, (show 0 ≤ nx_24.toInt ∧ nx_24.toInt ≤ 1000 by first | assumption | omega | decide), by rw [ht]; exact hP9, hD9⟩, hS.F ht⟩) hS.2.2 dX4_scanToken_61
    · have tc4 : ¬ (r3.toInt = 0) := i32_neq c4
      refine lv_aload_n hx hb dX4_scanToken_26 rfl (lv_at hl 1 rfl) ?_
      refine lv_iload_n hx hb dX4_scanToken_27 rfl (lv_at hl 2 rfl) ?_
      have hPc := hP.sub (ws' := [(h0, .inr (4, [.ref tp, .int ct, .ref s2, .ref s3, .ref s4, .int nx])), (tp, .inr (5, [.ref yb, .int n])), (yb, .inl (cI, 1000, .inl fy)), (s4, .inl (cI, 12, .inl fv))]) [0, 2, 3, 1] rfl
      have hDc := hD.sub (ws' := [(h0, .inr (4, [.ref tp, .int ct, .ref s2, .ref s3, .ref s4, .int nx])), (tp, .inr (5, [.ref yb, .int n])), (yb, .inl (cI, 1000, .inl fy)), (s4, .inl (cI, 12, .inl fv))]) [0, 2, 3, 1] (by decide) rfl
      have hFc := va_free (wc := [(h0, .inr (4, [.ref tp, .int ct, .ref s2, .ref s3, .ref s4, .int nx])), (tp, .inr (5, [.ref yb, .int n])), (yb, .inl (cI, 1000, .inl fy)), (s4, .inl (cI, 12, .inl fv))]) hD hS hA [0, 2, 3, 1] rfl
      refine va_calli (va_runV (As := [.int i]) (rest := []) ⟨hx, hb, hml, hown, hts⟩ (k_scanWord l D cI cB cP H.size h0 tp s2 s3 s4 yb ct nx n i fy fv (show 0 ≤ n.toInt ∧ n.toInt ≤ 1000 by first | assumption | omega | decide) (show 0 ≤ nx.toInt ∧ nx.toInt ≤ 1000 by first | assumption | omega | decide) (show 0 ≤ i.toInt ∧ i.toInt ≤ 11 by first | assumption | omega | decide)) (cwV 1 hts gw_k_scanToken_4 rfl rfl rfl (by decide +kernel) ⟨Nat.le_of_ble_eq_true rfl, Nat.le_of_ble_eq_true rfl⟩) ⟨ny_blind, va_recv hK hPc (ci := 4) (q0 := 0) rfl rfl, ny_pre hPc hK hN hDc⟩ rfl rfl hl.1 rfl (lv_room (Nat.le_of_ble_eq_true rfl)) dX4_scanToken_28 ⟨Nat.le_of_ble_eq_true rfl, Nat.le_of_ble_eq_true rfl⟩) hS (fun q _ h => hFc q h) hFc (fun r30 u t H locs ht hvm hw hB hz1 hk1 hS => ?_)
      obtain ⟨nx_28, gv_29, hp31, hP1, hD1⟩ := hB
      rw [ht] at hP1
      have hp31 : 0 ≤ nx_28.toInt ∧ nx_28.toInt ≤ 1000 := hp31
      obtain ⟨hP, hD⟩ := va_join (wr := []) (w1 := [(h0, .inr (4, [.ref tp, .int ct, .ref s2, .ref s3, .ref s4, .int nx_28])), (tp, .inr (5, [.ref yb, .int n])), (yb, .inl (cI, 1000, .inl fy)), (s4, .inl (cI, 12, .inl gv_29))]) hP hD [0, 2, 3, 1] [] rfl rfl (by decide) (by decide) hk1 hFc hP1 hD1
      have hP : va_P D vwCl [(h0, .inr (4, [.ref tp, .int ct, .ref s2, .ref s3, .ref s4, .int nx_28])), (tp, .inr (5, [.ref yb, .int n])), (yb, .inl (cI, 1000, .inl fy)), (s4, .inl (cI, 12, .inl gv_29))] H := hP
      have hD : va_D A [(h0, .inr (4, [.ref tp, .int ct, .ref s2, .ref s3, .ref s4, .int nx_28])), (tp, .inr (5, [.ref yb, .int n])), (yb, .inl (cI, 1000, .inl fy)), (s4, .inl (cI, 12, .inl gv_29))] := hD
      have hr30 : True := hw
      have hP9 := hP.sub (ws' := [(h0, .inr (4, [.ref tp, .int ct, .ref s2, .ref s3, .ref s4, .int nx_28])), (tp, .inr (5, [.ref yb, .int n])), (yb, .inl (cI, 1000, .inl fy)), (s4, .inl (cI, 12, .inl gv_29))]) [0, 1, 2, 3] rfl
      have hD9 := hD.sub (ws' := [(h0, .inr (4, [.ref tp, .int ct, .ref s2, .ref s3, .ref s4, .int nx_28])), (tp, .inr (5, [.ref yb, .int n])), (yb, .inl (cI, 1000, .inl fy)), (s4, .inl (cI, 12, .inl gv_29))]) [0, 1, 2, 3] (by decide) rfl
      refine W.widen (k := 0) (n := 0) (by decide) (by decide) ?_
      exact W.iret (v := r30) hx hb hr (fun t ht hW => ⟨⟨r30, (), rfl, (trivial), nx_28, gv_29, (show 0 ≤ nx_28.toInt ∧ nx_28.toInt ≤ 1000 by first | assumption | omega | decide), by rw [ht]; exact hP9, hD9⟩, hS.F ht⟩) hS.2.2 dX4_scanToken_31
  · have tc2 : r1.toInt = (-1) := i32_eq c2
    refine lv_iconst (v := 0) hx hb dX4_scanToken_17 (by decide) ?_
    have hP9 := hP.sub (ws' := [(h0, .inr (4, [.ref tp, .int ct, .ref s2, .ref s3, .ref s4, .int nx])), (tp, .inr (5, [.ref yb, .int n])), (yb, .inl (cI, 1000, .inl fy)), (s4, .inl (cI, 12, .inl fv))]) [0, 2, 3, 1] rfl
    have hD9 := hD.sub (ws' := [(h0, .inr (4, [.ref tp, .int ct, .ref s2, .ref s3, .ref s4, .int nx])), (tp, .inr (5, [.ref yb, .int n])), (yb, .inl (cI, 1000, .inl fy)), (s4, .inl (cI, 12, .inl fv))]) [0, 2, 3, 1] (by decide) rfl
    refine W.widen (k := 0) (n := 0) (by decide) (by decide) ?_
    exact W.iret (v := 0) hx hb hr (fun t ht hW => ⟨⟨0, (), rfl, (trivial), nx, fv, (show 0 ≤ nx.toInt ∧ nx.toInt ≤ 1000 by first | assumption | omega | decide), by rw [ht]; exact hP9, hD9⟩, hS.F ht⟩) hS.2.2 dX4_scanToken_18

def wk_k_restart : List Cond := .code yX4_restart cX4_restart 1 none :: ([.fieldLink RX4 25 "FlightDesk$Scanner" "count" "I", .fieldLink RX4 29 "FlightDesk$Scanner" "next" "I"] ++ wsX40)
theorem iw_k_restart_4 : ∀ w ∈ wsX40, w ∈ wk_k_restart := fun _ h => List.mem_cons_of_mem _ (List.mem_append_right _ h)
set_option maxHeartbeats 4000000 in
set_option maxRecDepth 100000 in
theorem k_restart (l : Launch) (D : va_G) (cI cB cP : ClassId) (sz : Nat) (h0 : Nat) (tp : Nat) (s2 : Nat) (s3 : Nat) (s4 : Nat) (ct : Int32) (nx : Int32) : Met l yX4_restart wk_k_restart ({ frames := 0, cells := 0, slots := 0, locals := 0 } : Room) (va_Pc [.ref h0] (Pw D cI cB cP sz [(h0, .inr (4, [.ref tp, .int ct, .ref s2, .ref s3, .ref s4, .int nx]))])) (va_Qv (fun (_ : Unit) => True) (fun _ t => va_P D vwCl [(h0, .inr (4, [.ref tp, .int 0, .ref s2, .ref s3, .ref s4, .int 0]))] t.heap ∧ va_D (va_A [(h0, .inr (4, [.ref tp, .int ct, .ref s2, .ref s3, .ref s4, .int nx]))] sz) [(h0, .inr (4, [.ref tp, .int 0, .ref s2, .ref s3, .ref s4, .int 0]))]) (va_A [(h0, .inr (4, [.ref tp, .int ct, .ref s2, .ref s3, .ref s4, .int nx]))] sz)) 0 0 (va_A [(h0, .inr (4, [.ref tp, .int ct, .ref s2, .ref s3, .ref s4, .int nx]))] sz) := by
  refine Met.ofW (cc := cX4_restart) (maxL := 1) (ret := none) (by decide) rfl ?_
  intro p e s m args below meth c s₁ B hml hv
  obtain ⟨rfl, hsz, hP, ⟨hK, hN⟩, hD0⟩ := hv
  have hx := B.exec
  have hb := B.bytes
  have hr := B.returns
  have hts := atoms_spec (ws := wk_k_restart) B.pre
  have hown : s.vm.findClass RX4 = some m.cls := findClass_of_methodNamed B.named
  have hlocks := B.notSynchronized
  subst hsz
  have hD := hD0.self (sz := s.heap.size)
  generalize hAe : va_A [(h0, .inr (4, [.ref tp, .int ct, .ref s2, .ref s3, .ref s4, .int nx]))] s.heap.size = A at hD ⊢
  have hA : ∀ q : Nat, s.heap.size ≤ q → A q := fun q h => by rw [← hAe]; exact Or.inr h
  have hS : va_S A s.heap s.heap [] := va_S.rf
  have hP : va_P D vwCl [(h0, .inr (4, [.ref tp, .int ct, .ref s2, .ref s3, .ref s4, .int nx]))] s.heap := hP
  have hl := lv_entry ([.ref h0]) (n := 1) (Nat.le_of_ble_eq_true rfl)
  rw [lg_entry_eq]
  generalize (lg_sl ([.ref h0]) ++ List.replicate (1 - (lg_sl ([.ref h0])).length) Slot.unset).toArray = ls at hl ⊢
  have hl : lv_has ls 1 [(0, .ref h0)] := hl
  refine lv_aload_n hx hb dX4_restart_0 rfl (lv_at hl 0 rfl) ?_
  refine lv_iconst (v := 0) hx hb dX4_restart_1 (by decide) ?_
  refine va_put (D := D) (ci := 4) (v := .int 0) (ty := .int) (C := RX4) (T := TX4) (N := 6) hx hb hts iw_k_restart_4 tyX4 tyX4_ok nmX4 hown hK hP hD hS 0 rfl rfl 1 (by decide) (hts (.fieldLink RX4 25 "FlightDesk$Scanner" "count" "I") (by decide +kernel)) (fun _ h9 => h9) rfl (by decide +kernel) rfl rfl (Nat.le_of_ble_eq_true rfl) dX4_restart_2 (fun H locs hP hD hS => ?_)
  have hP : va_P D vwCl [(h0, .inr (4, [.ref tp, .int 0, .ref s2, .ref s3, .ref s4, .int nx]))] H := hP
  have hD : va_D A [(h0, .inr (4, [.ref tp, .int 0, .ref s2, .ref s3, .ref s4, .int nx]))] := hD
  refine lv_aload_n hx hb dX4_restart_5 rfl (lv_at hl 0 rfl) ?_
  refine lv_iconst (v := 0) hx hb dX4_restart_6 (by decide) ?_
  refine va_put (D := D) (ci := 4) (v := .int 0) (ty := .int) (C := RX4) (T := TX4) (N := 6) hx hb hts iw_k_restart_4 tyX4 tyX4_ok nmX4 hown hK hP hD hS 0 rfl rfl 5 (by decide) (hts (.fieldLink RX4 29 "FlightDesk$Scanner" "next" "I") (by decide +kernel)) (fun _ h9 => h9) rfl (by decide +kernel) rfl rfl (Nat.le_of_ble_eq_true rfl) dX4_restart_7 (fun H locs hP hD hS => ?_)
  have hP : va_P D vwCl [(h0, .inr (4, [.ref tp, .int 0, .ref s2, .ref s3, .ref s4, .int 0]))] H := hP
  have hD : va_D A [(h0, .inr (4, [.ref tp, .int 0, .ref s2, .ref s3, .ref s4, .int 0]))] := hD
  have hP9 := hP.sub (ws' := [(h0, .inr (4, [.ref tp, .int 0, .ref s2, .ref s3, .ref s4, .int 0]))]) [0] rfl
  have hD9 := hD.sub (ws' := [(h0, .inr (4, [.ref tp, .int 0, .ref s2, .ref s3, .ref s4, .int 0]))]) [0] (by decide) rfl
  refine W.widen (k := 0) (n := 0) (by decide) (by decide) ?_
  exact W.vret hx hb hr (fun t ht hW => ⟨⟨(), rfl, trivial, by rw [ht]; exact hP9, hD9⟩, hS.F ht⟩) hS.2.2 dX4_restart_10

def wk_k_scanLine : List Cond := .code yX4_scanLine cX4_scanLine 2 none :: ([.fieldLink RX4 25 "FlightDesk$Scanner" "count" "I", .fieldLink RX4 15 "FlightDesk$Scanner" "place" "[I", .methodLink RX4 32 yX4_skipBlanks, .instanceMethod yX4_skipBlanks, .selects RX4 yX4_skipBlanks yX4_skipBlanks, .initialized RX4, .code yX4_skipBlanks cX4_skipBlanks 1 (some .int), .fieldLink RX4 29 "FlightDesk$Scanner" "next" "I", .fieldLink RX4 21 "FlightDesk$Scanner" "tape" "LFlightDesk$Tape;", .fieldLink RX4 54 "FlightDesk$Tape" "length" "I", .methodLink RX4 45 yX5_byteAt, .instanceMethod yX5_byteAt, .selects RX5 yX5_byteAt yX5_byteAt, .initialized RX5, .code yX5_byteAt cX5_byteAt 2 (some .int), .fieldLink RX5 15 "FlightDesk$Tape" "length" "I", .fieldLink RX5 9 "FlightDesk$Tape" "bytes" "[I", .methodLink RX4 56 yX4_isBlank, .static yX4_isBlank, .code yX4_isBlank cX4_isBlank 1 (some .boolean), .fieldLink RX4 11 "FlightDesk$Scanner" "kind" "[I", .methodLink RX4 36 yX4_scanToken, .instanceMethod yX4_scanToken, .selects RX4 yX4_scanToken yX4_scanToken, .code yX4_scanToken cX4_scanToken 3 (some .int), .methodLink RX4 60 yX4_isLetter, .static yX4_isLetter, .code yX4_isLetter cX4_isLetter 1 (some .boolean), .methodLink RX4 69 yX4_scanNumber, .instanceMethod yX4_scanNumber, .selects RX4 yX4_scanNumber yX4_scanNumber, .code yX4_scanNumber cX4_scanNumber 7 (some .int), .fieldLink RX4 18 "FlightDesk$Scanner" "value" "[I", .methodLink RX4 66 yX4_isDigit, .static yX4_isDigit, .code yX4_isDigit cX4_isDigit 1 (some .boolean), .methodLink RX4 63 yX4_scanWord, .instanceMethod yX4_scanWord, .selects RX4 yX4_scanWord yX4_scanWord, .code yX4_scanWord cX4_scanWord 3 (some .int)] ++ wsX40 ++ wsX50)
theorem iw_k_scanLine_4 : ∀ w ∈ wsX40, w ∈ wk_k_scanLine := fun _ h => List.mem_cons_of_mem _ (List.mem_append_left _ (List.mem_append_right _ h))
theorem iw_k_scanLine_5 : ∀ w ∈ wsX50, w ∈ wk_k_scanLine := fun _ h => List.mem_cons_of_mem _ (List.mem_append_right _ h)
set_option maxRecDepth 20000 in
theorem gw_k_scanLine_0 : GoodIn wk_k_scanLine (wsV RX4 32 RX4 yX4_skipBlanks wk_k_skipBlanks) := goodIn_sub (by decide +kernel) (by decide +kernel)
set_option maxRecDepth 20000 in
theorem gw_k_scanLine_1 : GoodIn wk_k_scanLine (wsV RX4 36 RX4 yX4_scanToken wk_k_scanToken) := goodIn_sub (by decide +kernel) (by decide +kernel)
set_option maxHeartbeats 4000000 in
set_option maxRecDepth 100000 in
theorem k_scanLine (l : Launch) (D : va_G) (cI cB cP : ClassId) (sz : Nat) (h0 : Nat) (tp : Nat) (s2 : Nat) (s3 : Nat) (s4 : Nat) (yb : Nat) (ct : Int32) (nx : Int32) (n : Int32) (fy : Nat → Int32) (fk : Nat → Int32) (fp : Nat → Int32) (fv : Nat → Int32) (hn9 : 0 ≤ n.toInt ∧ n.toInt ≤ 1000) (hx9 : 0 ≤ nx.toInt ∧ nx.toInt ≤ 1000) : Met l yX4_scanLine wk_k_scanLine ({ frames := 3, cells := 0, slots := 0, locals := 69 } : Room) (va_Pc [.ref h0] (Pw D cI cB cP sz [(h0, .inr (4, [.ref tp, .int ct, .ref s2, .ref s3, .ref s4, .int nx])), (tp, .inr (5, [.ref yb, .int n])), (yb, .inl (cI, 1000, .inl fy)), (s2, .inl (cI, 12, .inl fk)), (s3, .inl (cI, 12, .inl fp)), (s4, .inl (cI, 12, .inl fv))])) (va_Qv (fun (_ : Unit) => True) (fun _ t => ∃ ct9 : Int32, ∃ nx9 : Int32, ∃ gk : Nat → Int32, ∃ gp : Nat → Int32, ∃ gv : Nat → Int32, (0 ≤ ct9.toInt ∧ ct9.toInt ≤ 12) ∧ (0 ≤ nx9.toInt ∧ nx9.toInt ≤ 1000) ∧ va_P D vwCl [(h0, .inr (4, [.ref tp, .int ct9, .ref s2, .ref s3, .ref s4, .int nx9])), (tp, .inr (5, [.ref yb, .int n])), (yb, .inl (cI, 1000, .inl fy)), (s2, .inl (cI, 12, .inl gk)), (s3, .inl (cI, 12, .inl gp)), (s4, .inl (cI, 12, .inl gv))] t.heap ∧ va_D (va_A [(h0, .inr (4, [.ref tp, .int ct, .ref s2, .ref s3, .ref s4, .int nx])), (tp, .inr (5, [.ref yb, .int n])), (yb, .inl (cI, 1000, .inl fy)), (s2, .inl (cI, 12, .inl fk)), (s3, .inl (cI, 12, .inl fp)), (s4, .inl (cI, 12, .inl fv))] sz) [(h0, .inr (4, [.ref tp, .int ct9, .ref s2, .ref s3, .ref s4, .int nx9])), (tp, .inr (5, [.ref yb, .int n])), (yb, .inl (cI, 1000, .inl fy)), (s2, .inl (cI, 12, .inl gk)), (s3, .inl (cI, 12, .inl gp)), (s4, .inl (cI, 12, .inl gv))]) (va_A [(h0, .inr (4, [.ref tp, .int ct, .ref s2, .ref s3, .ref s4, .int nx])), (tp, .inr (5, [.ref yb, .int n])), (yb, .inl (cI, 1000, .inl fy)), (s2, .inl (cI, 12, .inl fk)), (s3, .inl (cI, 12, .inl fp)), (s4, .inl (cI, 12, .inl fv))] sz)) 0 0 (va_A [(h0, .inr (4, [.ref tp, .int ct, .ref s2, .ref s3, .ref s4, .int nx])), (tp, .inr (5, [.ref yb, .int n])), (yb, .inl (cI, 1000, .inl fy)), (s2, .inl (cI, 12, .inl fk)), (s3, .inl (cI, 12, .inl fp)), (s4, .inl (cI, 12, .inl fv))] sz) := by
  refine Met.ofW (cc := cX4_scanLine) (maxL := 2) (ret := none) (by decide) rfl ?_
  intro p e s m args below meth c s₁ B hml hv
  obtain ⟨rfl, hsz, hP, ⟨hK, hN⟩, hD0⟩ := hv
  have hx := B.exec
  have hb := B.bytes
  have hr := B.returns
  have hts := atoms_spec (ws := wk_k_scanLine) B.pre
  have hown : s.vm.findClass RX4 = some m.cls := findClass_of_methodNamed B.named
  have hlocks := B.notSynchronized
  subst hsz
  have hD := hD0.self (sz := s.heap.size)
  generalize hAe : va_A [(h0, .inr (4, [.ref tp, .int ct, .ref s2, .ref s3, .ref s4, .int nx])), (tp, .inr (5, [.ref yb, .int n])), (yb, .inl (cI, 1000, .inl fy)), (s2, .inl (cI, 12, .inl fk)), (s3, .inl (cI, 12, .inl fp)), (s4, .inl (cI, 12, .inl fv))] s.heap.size = A at hD ⊢
  have hA : ∀ q : Nat, s.heap.size ≤ q → A q := fun q h => by rw [← hAe]; exact Or.inr h
  have hS : va_S A s.heap s.heap [] := va_S.rf
  have hP : va_P D vwCl [(h0, .inr (4, [.ref tp, .int ct, .ref s2, .ref s3, .ref s4, .int nx])), (tp, .inr (5, [.ref yb, .int n])), (yb, .inl (cI, 1000, .inl fy)), (s2, .inl (cI, 12, .inl fk)), (s3, .inl (cI, 12, .inl fp)), (s4, .inl (cI, 12, .inl fv))] s.heap := hP
  have hl := lv_entry ([.ref h0]) (n := 2) (Nat.le_of_ble_eq_true rfl)
  rw [lg_entry_eq]
  generalize (lg_sl ([.ref h0]) ++ List.replicate (2 - (lg_sl ([.ref h0])).length) Slot.unset).toArray = ls at hl ⊢
  have hl : lv_has ls 2 [(0, .ref h0)] := hl
  refine lv_aload_n hx hb dX4_scanLine_0 rfl (lv_at hl 0 rfl) ?_
  refine lv_iconst (v := 0) hx hb dX4_scanLine_1 (by decide) ?_
  refine va_put (D := D) (ci := 4) (v := .int 0) (ty := .int) (C := RX4) (T := TX4) (N := 6) hx hb hts iw_k_scanLine_4 tyX4 tyX4_ok nmX4 hown hK hP hD hS 0 rfl rfl 1 (by decide) (hts (.fieldLink RX4 25 "FlightDesk$Scanner" "count" "I") (by decide +kernel)) (fun _ h9 => h9) rfl (by decide +kernel) rfl rfl (Nat.le_of_ble_eq_true rfl) dX4_scanLine_2 (fun H locs hP hD hS => ?_)
  have hP : va_P D vwCl [(h0, .inr (4, [.ref tp, .int 0, .ref s2, .ref s3, .ref s4, .int nx])), (tp, .inr (5, [.ref yb, .int n])), (yb, .inl (cI, 1000, .inl fy)), (s2, .inl (cI, 12, .inl fk)), (s3, .inl (cI, 12, .inl fp)), (s4, .inl (cI, 12, .inl fv))] H := hP
  have hD : va_D A [(h0, .inr (4, [.ref tp, .int 0, .ref s2, .ref s3, .ref s4, .int nx])), (tp, .inr (5, [.ref yb, .int n])), (yb, .inl (cI, 1000, .inl fy)), (s2, .inl (cI, 12, .inl fk)), (s3, .inl (cI, 12, .inl fp)), (s4, .inl (cI, 12, .inl fv))] := hD
  refine lv_iconst (v := 0) hx hb dX4_scanLine_5 (by decide) ?_
  refine lv_istore_n (lv' := [(1, .int 0), (0, .ref h0)]) hx hb dX4_scanLine_6 rfl hl (by decide) rfl (fun ls hl => ?_)
  have loop4 : ∀ (N5 : Nat) (i1 : Int32) (ct1 : Int32) (nx1 : Int32) (fk1 : Nat → Int32) (fp1 : Nat → Int32) (fv1 : Nat → Int32) (H : Heap) (locs : List Loc) (ls : Array Slot), (0 ≤ i1.toInt ∧ i1.toInt ≤ 12) → (0 ≤ ct1.toInt ∧ ct1.toInt ≤ 12) → (0 ≤ nx1.toInt ∧ nx1.toInt ≤ 1000) → (12 - i1.toInt).toNat < N5 → va_P D vwCl [(h0, .inr (4, [.ref tp, .int ct1, .ref s2, .ref s3, .ref s4, .int nx1])), (tp, .inr (5, [.ref yb, .int n])), (yb, .inl (cI, 1000, .inl fy)), (s2, .inl (cI, 12, .inl fk1)), (s3, .inl (cI, 12, .inl fp1)), (s4, .inl (cI, 12, .inl fv1))] H → va_D A [(h0, .inr (4, [.ref tp, .int ct1, .ref s2, .ref s3, .ref s4, .int nx1])), (tp, .inr (5, [.ref yb, .int n])), (yb, .inl (cI, 1000, .inl fy)), (s2, .inl (cI, 12, .inl fk1)), (s3, .inl (cI, 12, .inl fp1)), (s4, .inl (cI, 12, .inl fv1))] → va_S A s.heap H locs → lv_has ls 2 [(1, .int i1), (0, .ref h0)] → W p l e ({ frames := 3, cells := 0, slots := 0, locals := 69 } : Room) s m ([.ref h0] : List Value).toArray below meth c H locs 0 0 (MQ below (va_Qv (fun (_ : Unit) => True) (fun _ t => ∃ ct9 : Int32, ∃ nx9 : Int32, ∃ gk : Nat → Int32, ∃ gp : Nat → Int32, ∃ gv : Nat → Int32, (0 ≤ ct9.toInt ∧ ct9.toInt ≤ 12) ∧ (0 ≤ nx9.toInt ∧ nx9.toInt ≤ 1000) ∧ va_P D vwCl [(h0, .inr (4, [.ref tp, .int ct9, .ref s2, .ref s3, .ref s4, .int nx9])), (tp, .inr (5, [.ref yb, .int n])), (yb, .inl (cI, 1000, .inl fy)), (s2, .inl (cI, 12, .inl gk)), (s3, .inl (cI, 12, .inl gp)), (s4, .inl (cI, 12, .inl gv))] t.heap ∧ va_D A [(h0, .inr (4, [.ref tp, .int ct9, .ref s2, .ref s3, .ref s4, .int nx9])), (tp, .inr (5, [.ref yb, .int n])), (yb, .inl (cI, 1000, .inl fy)), (s2, .inl (cI, 12, .inl gk)), (s3, .inl (cI, 12, .inl gp)), (s4, .inl (cI, 12, .inl gv))]) A) ([.ref h0] : List Value).toArray s 0 0 A) (F0 m 7 ls []) := by
    intro N5
    induction N5 with
    | zero => intro i1 ct1 nx1 fk1 fp1 fv1 H locs ls hi1 hi2 hi3 hm9 hP hD hS hl; exact absurd hm9 (Nat.not_lt_zero _)
    | succ N5 ih_N5 => 
      intro i1 ct1 nx1 fk1 fp1 fv1 H locs ls hi1 hi2 hi3 hm9 hP hD hS hl
      refine lv_iload_n hx hb dX4_scanLine_7 rfl (lv_at hl 0 rfl) ?_
      refine lv_bipush (v := 12) hx hb dX4_scanLine_8 (by decide) ?_
      refine lv_icmp_ge (tgt := 70) hx hb dX4_scanLine_10 (by decide) (fun c6 => ?_) (fun c6 => ?_)
      · have tc6 : 12 ≤ i1.toInt := i32_le c6
        have hP9 := hP.sub (ws' := [(h0, .inr (4, [.ref tp, .int ct1, .ref s2, .ref s3, .ref s4, .int nx1])), (tp, .inr (5, [.ref yb, .int n])), (yb, .inl (cI, 1000, .inl fy)), (s2, .inl (cI, 12, .inl fk1)), (s3, .inl (cI, 12, .inl fp1)), (s4, .inl (cI, 12, .inl fv1))]) [0, 1, 2, 3, 4, 5] rfl
        have hD9 := hD.sub (ws' := [(h0, .inr (4, [.ref tp, .int ct1, .ref s2, .ref s3, .ref s4, .int nx1])), (tp, .inr (5, [.ref yb, .int n])), (yb, .inl (cI, 1000, .inl fy)), (s2, .inl (cI, 12, .inl fk1)), (s3, .inl (cI, 12, .inl fp1)), (s4, .inl (cI, 12, .inl fv1))]) [0, 1, 2, 3, 4, 5] (by decide) rfl
        refine W.widen (k := 0) (n := 0) (by decide) (by decide) ?_
        exact W.vret hx hb hr (fun t ht hW => ⟨⟨(), rfl, trivial, ct1, nx1, fk1, fp1, fv1, (show 0 ≤ ct1.toInt ∧ ct1.toInt ≤ 12 by first | assumption | omega | decide), (show 0 ≤ nx1.toInt ∧ nx1.toInt ≤ 1000 by first | assumption | omega | decide), by rw [ht]; exact hP9, hD9⟩, hS.F ht⟩) hS.2.2 dX4_scanLine_70
      · have tc6 : ¬ (12 ≤ i1.toInt) := i32_nle c6
        refine lv_aload_n hx hb dX4_scanLine_13 rfl (lv_at hl 1 rfl) ?_
        refine va_get (D := D) (ci := 4) (v := .ref s3) (C := RX4) (T := TX4) (N := 6) hx hb hts iw_k_scanLine_4 hown hK hP 0 rfl rfl 3 (by decide) (hts (.fieldLink RX4 15 "FlightDesk$Scanner" "place" "[I") (by decide +kernel)) (fun _ h9 => h9) rfl dX4_scanLine_14 ?_
        refine lv_iload_n hx hb dX4_scanLine_17 rfl (lv_at hl 0 rfl) ?_
        refine lv_aload_n hx hb dX4_scanLine_18 rfl (lv_at hl 1 rfl) ?_
        have hPc := hP.sub (ws' := [(h0, .inr (4, [.ref tp, .int ct1, .ref s2, .ref s3, .ref s4, .int nx1])), (tp, .inr (5, [.ref yb, .int n])), (yb, .inl (cI, 1000, .inl fy))]) [0, 1, 2] rfl
        have hDc := hD.sub (ws' := [(h0, .inr (4, [.ref tp, .int ct1, .ref s2, .ref s3, .ref s4, .int nx1])), (tp, .inr (5, [.ref yb, .int n])), (yb, .inl (cI, 1000, .inl fy))]) [0, 1, 2] (by decide) rfl
        have hFc := va_free (wc := [(h0, .inr (4, [.ref tp, .int ct1, .ref s2, .ref s3, .ref s4, .int nx1])), (tp, .inr (5, [.ref yb, .int n])), (yb, .inl (cI, 1000, .inl fy))]) hD hS hA [0, 1, 2] rfl
        refine va_calli (va_runV (As := []) (rest := [.int i1, .ref s3]) ⟨hx, hb, hml, hown, hts⟩ (k_skipBlanks l D cI cB cP H.size h0 tp s2 s3 s4 yb ct1 nx1 n fy (show 0 ≤ n.toInt ∧ n.toInt ≤ 1000 by first | assumption | omega | decide) (show 0 ≤ nx1.toInt ∧ nx1.toInt ≤ 1000 by first | assumption | omega | decide)) (cwV 0 hts gw_k_scanLine_0 rfl rfl rfl (by decide +kernel) ⟨Nat.le_of_ble_eq_true rfl, Nat.le_of_ble_eq_true rfl⟩) ⟨ny_blind, va_recv hK hPc (ci := 4) (q0 := 0) rfl rfl, ny_pre hPc hK hN hDc⟩ rfl rfl hl.1 rfl (lv_room (Nat.le_of_ble_eq_true rfl)) dX4_scanLine_19 ⟨Nat.le_of_ble_eq_true rfl, Nat.le_of_ble_eq_true rfl⟩) hS (fun q _ h => hFc q h) hFc (fun r8 u t H locs ht hvm hw hB hz1 hk1 hS => ?_)
        obtain ⟨nx_7, hp9, hP1, hD1⟩ := hB
        rw [ht] at hP1
        have hp9 : 0 ≤ nx_7.toInt ∧ nx_7.toInt ≤ 1000 := hp9
        obtain ⟨hP, hD⟩ := va_join (wr := [(s2, .inl (cI, 12, .inl fk1)), (s3, .inl (cI, 12, .inl fp1)), (s4, .inl (cI, 12, .inl fv1))]) (w1 := [(h0, .inr (4, [.ref tp, .int ct1, .ref s2, .ref s3, .ref s4, .int nx_7])), (tp, .inr (5, [.ref yb, .int n])), (yb, .inl (cI, 1000, .inl fy))]) hP hD [0, 1, 2] [3, 4, 5] rfl rfl (by decide) (by decide) hk1 hFc hP1 hD1
        have hP : va_P D vwCl [(s2, .inl (cI, 12, .inl fk1)), (s3, .inl (cI, 12, .inl fp1)), (s4, .inl (cI, 12, .inl fv1)), (h0, .inr (4, [.ref tp, .int ct1, .ref s2, .ref s3, .ref s4, .int nx_7])), (tp, .inr (5, [.ref yb, .int n])), (yb, .inl (cI, 1000, .inl fy))] H := hP
        have hD : va_D A [(s2, .inl (cI, 12, .inl fk1)), (s3, .inl (cI, 12, .inl fp1)), (s4, .inl (cI, 12, .inl fv1)), (h0, .inr (4, [.ref tp, .int ct1, .ref s2, .ref s3, .ref s4, .int nx_7])), (tp, .inr (5, [.ref yb, .int n])), (yb, .inl (cI, 1000, .inl fy))] := hD
        have hr8 : True := hw
        refine va_iast hx hb hK hP hD hS 1 0 rfl rfl (vp_in_iff.mpr ⟨show 0 ≤ i1.toInt by omega, show i1.toInt < ((12 : Nat) : Int) by omega⟩) dX4_scanLine_22 (fun H locs hP hD hS => ?_)
        have hP : va_P D vwCl [(s2, .inl (cI, 12, .inl fk1)), (s3, .inl (cI, 12, .inl (upd fp1 i1.toNatClampNeg r8))), (s4, .inl (cI, 12, .inl fv1)), (h0, .inr (4, [.ref tp, .int ct1, .ref s2, .ref s3, .ref s4, .int nx_7])), (tp, .inr (5, [.ref yb, .int n])), (yb, .inl (cI, 1000, .inl fy))] H := hP
        have hD : va_D A [(s2, .inl (cI, 12, .inl fk1)), (s3, .inl (cI, 12, .inl (upd fp1 i1.toNatClampNeg r8))), (s4, .inl (cI, 12, .inl fv1)), (h0, .inr (4, [.ref tp, .int ct1, .ref s2, .ref s3, .ref s4, .int nx_7])), (tp, .inr (5, [.ref yb, .int n])), (yb, .inl (cI, 1000, .inl fy))] := hD
        obtain ⟨f10, ef10⟩ : ∃ z : Nat → Int32, z = (upd fp1 i1.toNatClampNeg r8) := ⟨_, rfl⟩
        rw [← ef10] at hP hD
        refine lv_aload_n hx hb dX4_scanLine_23 rfl (lv_at hl 1 rfl) ?_
        refine va_get (D := D) (ci := 4) (v := .ref s2) (C := RX4) (T := TX4) (N := 6) hx hb hts iw_k_scanLine_4 hown hK hP 3 rfl rfl 2 (by decide) (hts (.fieldLink RX4 11 "FlightDesk$Scanner" "kind" "[I") (by decide +kernel)) (fun _ h9 => h9) rfl dX4_scanLine_24 ?_
        refine lv_iload_n hx hb dX4_scanLine_27 rfl (lv_at hl 0 rfl) ?_
        refine lv_aload_n hx hb dX4_scanLine_28 rfl (lv_at hl 1 rfl) ?_
        refine lv_iload_n hx hb dX4_scanLine_29 rfl (lv_at hl 0 rfl) ?_
        have hPc := hP.sub (ws' := [(h0, .inr (4, [.ref tp, .int ct1, .ref s2, .ref s3, .ref s4, .int nx_7])), (tp, .inr (5, [.ref yb, .int n])), (yb, .inl (cI, 1000, .inl fy)), (s4, .inl (cI, 12, .inl fv1))]) [3, 4, 5, 2] rfl
        have hDc := hD.sub (ws' := [(h0, .inr (4, [.ref tp, .int ct1, .ref s2, .ref s3, .ref s4, .int nx_7])), (tp, .inr (5, [.ref yb, .int n])), (yb, .inl (cI, 1000, .inl fy)), (s4, .inl (cI, 12, .inl fv1))]) [3, 4, 5, 2] (by decide) rfl
        have hFc := va_free (wc := [(h0, .inr (4, [.ref tp, .int ct1, .ref s2, .ref s3, .ref s4, .int nx_7])), (tp, .inr (5, [.ref yb, .int n])), (yb, .inl (cI, 1000, .inl fy)), (s4, .inl (cI, 12, .inl fv1))]) hD hS hA [3, 4, 5, 2] rfl
        refine va_calli (va_runV (As := [.int i1]) (rest := [.int i1, .ref s2]) ⟨hx, hb, hml, hown, hts⟩ (k_scanToken l D cI cB cP H.size h0 tp s2 s3 s4 yb ct1 nx_7 n i1 fy fv1 (show 0 ≤ n.toInt ∧ n.toInt ≤ 1000 by first | assumption | omega | decide) (show 0 ≤ nx_7.toInt ∧ nx_7.toInt ≤ 1000 by first | assumption | omega | decide) (show 0 ≤ i1.toInt ∧ i1.toInt ≤ 11 by first | assumption | omega | decide)) (cwV 1 hts gw_k_scanLine_1 rfl rfl rfl (by decide +kernel) ⟨Nat.le_of_ble_eq_true rfl, Nat.le_of_ble_eq_true rfl⟩) ⟨ny_blind, va_recv hK hPc (ci := 4) (q0 := 0) rfl rfl, ny_pre hPc hK hN hDc⟩ rfl rfl hl.1 rfl (lv_room (Nat.le_of_ble_eq_true rfl)) dX4_scanLine_30 ⟨Nat.le_of_ble_eq_true rfl, Nat.le_of_ble_eq_true rfl⟩) hS (fun q _ h => hFc q h) hFc (fun r13 u t H locs ht hvm hw hB hz1 hk1 hS => ?_)
        obtain ⟨nx_11, gv_12, hp14, hP1, hD1⟩ := hB
        rw [ht] at hP1
        have hp14 : 0 ≤ nx_11.toInt ∧ nx_11.toInt ≤ 1000 := hp14
        obtain ⟨hP, hD⟩ := va_join (wr := [(s2, .inl (cI, 12, .inl fk1)), (s3, .inl (cI, 12, .inl f10))]) (w1 := [(h0, .inr (4, [.ref tp, .int ct1, .ref s2, .ref s3, .ref s4, .int nx_11])), (tp, .inr (5, [.ref yb, .int n])), (yb, .inl (cI, 1000, .inl fy)), (s4, .inl (cI, 12, .inl gv_12))]) hP hD [3, 4, 5, 2] [0, 1] rfl rfl (by decide) (by decide) hk1 hFc hP1 hD1
        have hP : va_P D vwCl [(s2, .inl (cI, 12, .inl fk1)), (s3, .inl (cI, 12, .inl f10)), (h0, .inr (4, [.ref tp, .int ct1, .ref s2, .ref s3, .ref s4, .int nx_11])), (tp, .inr (5, [.ref yb, .int n])), (yb, .inl (cI, 1000, .inl fy)), (s4, .inl (cI, 12, .inl gv_12))] H := hP
        have hD : va_D A [(s2, .inl (cI, 12, .inl fk1)), (s3, .inl (cI, 12, .inl f10)), (h0, .inr (4, [.ref tp, .int ct1, .ref s2, .ref s3, .ref s4, .int nx_11])), (tp, .inr (5, [.ref yb, .int n])), (yb, .inl (cI, 1000, .inl fy)), (s4, .inl (cI, 12, .inl gv_12))] := hD
        have hr13 : True := hw
        refine va_iast hx hb hK hP hD hS 0 0 rfl rfl (vp_in_iff.mpr ⟨show 0 ≤ i1.toInt by omega, show i1.toInt < ((12 : Nat) : Int) by omega⟩) dX4_scanLine_33 (fun H locs hP hD hS => ?_)
        have hP : va_P D vwCl [(s2, .inl (cI, 12, .inl (upd fk1 i1.toNatClampNeg r13))), (s3, .inl (cI, 12, .inl f10)), (h0, .inr (4, [.ref tp, .int ct1, .ref s2, .ref s3, .ref s4, .int nx_11])), (tp, .inr (5, [.ref yb, .int n])), (yb, .inl (cI, 1000, .inl fy)), (s4, .inl (cI, 12, .inl gv_12))] H := hP
        have hD : va_D A [(s2, .inl (cI, 12, .inl (upd fk1 i1.toNatClampNeg r13))), (s3, .inl (cI, 12, .inl f10)), (h0, .inr (4, [.ref tp, .int ct1, .ref s2, .ref s3, .ref s4, .int nx_11])), (tp, .inr (5, [.ref yb, .int n])), (yb, .inl (cI, 1000, .inl fy)), (s4, .inl (cI, 12, .inl gv_12))] := hD
        obtain ⟨f15, ef15⟩ : ∃ z : Nat → Int32, z = (upd fk1 i1.toNatClampNeg r13) := ⟨_, rfl⟩
        rw [← ef15] at hP hD
        refine lv_aload_n hx hb dX4_scanLine_34 rfl (lv_at hl 1 rfl) ?_
        refine lv_iload_n hx hb dX4_scanLine_35 rfl (lv_at hl 0 rfl) ?_
        refine lv_iconst (v := 1) hx hb dX4_scanLine_36 (by decide) ?_
        refine lv_iadd hx hb dX4_scanLine_37 ?_
        refine lv_topi (fun v16 ev16 => ?_)
        have tv16 : v16.toInt = (i1.toInt + 1 + 2147483648) % 4294967296 - 2147483648 := i32_add ev16
        refine va_put (D := D) (ci := 4) (v := .int v16) (ty := .int) (C := RX4) (T := TX4) (N := 6) hx hb hts iw_k_scanLine_4 tyX4 tyX4_ok nmX4 hown hK hP hD hS 2 rfl rfl 1 (by decide) (hts (.fieldLink RX4 25 "FlightDesk$Scanner" "count" "I") (by decide +kernel)) (fun _ h9 => h9) rfl (by decide +kernel) rfl rfl (Nat.le_of_ble_eq_true rfl) dX4_scanLine_38 (fun H locs hP hD hS => ?_)
        have hP : va_P D vwCl [(s2, .inl (cI, 12, .inl f15)), (s3, .inl (cI, 12, .inl f10)), (h0, .inr (4, [.ref tp, .int v16, .ref s2, .ref s3, .ref s4, .int nx_11])), (tp, .inr (5, [.ref yb, .int n])), (yb, .inl (cI, 1000, .inl fy)), (s4, .inl (cI, 12, .inl gv_12))] H := hP
        have hD : va_D A [(s2, .inl (cI, 12, .inl f15)), (s3, .inl (cI, 12, .inl f10)), (h0, .inr (4, [.ref tp, .int v16, .ref s2, .ref s3, .ref s4, .int nx_11])), (tp, .inr (5, [.ref yb, .int n])), (yb, .inl (cI, 1000, .inl fy)), (s4, .inl (cI, 12, .inl gv_12))] := hD
        refine lv_aload_n hx hb dX4_scanLine_41 rfl (lv_at hl 1 rfl) ?_
        refine va_get (D := D) (ci := 4) (v := .ref s2) (C := RX4) (T := TX4) (N := 6) hx hb hts iw_k_scanLine_4 hown hK hP 2 rfl rfl 2 (by decide) (hts (.fieldLink RX4 11 "FlightDesk$Scanner" "kind" "[I") (by decide +kernel)) (fun _ h9 => h9) rfl dX4_scanLine_42 ?_
        refine lv_iload_n hx hb dX4_scanLine_45 rfl (lv_at hl 0 rfl) ?_
        refine va_iald hx hb hK hP 0 0 rfl rfl (vp_in_iff.mpr ⟨show 0 ≤ i1.toInt by omega, show i1.toInt < ((12 : Nat) : Int) by omega⟩) dX4_scanLine_46 ?_
        refine lv_topi (fun v17 ev17 => ?_)
        refine lv_iconst (v := 1) hx hb dX4_scanLine_47 (by decide) ?_
        refine lv_icmp_eq (tgt := 64) hx hb dX4_scanLine_48 (by decide) (fun c18 => ?_) (fun c18 => ?_)
        · have tc18 : v17.toInt = 1 := i32_eq c18
          obtain ⟨v19, ev19⟩ : ∃ y : Int32, y = i1 + 1 := ⟨_, rfl⟩
          have tv19 : v19.toInt = (i1.toInt + 1 + 2147483648) % 4294967296 - 2147483648 := i32_add ev19
          refine lv_iinc (v := v19) (lv' := [(1, .int v19), (0, .ref h0)]) hx hb dX4_scanLine_64 hl (k := 0) rfl (by rw [ev19]; rfl) (by decide) rfl (fun ls hl => ?_)
          refine lv_goto (tgt := 7) hx hb dX4_scanLine_67 (by decide) ?_
          exact ih_N5 v19 v16 nx_11 f15 f10 gv_12 _ _ _ (show 0 ≤ v19.toInt ∧ v19.toInt ≤ 12 by first | assumption | omega | decide) (show 0 ≤ v16.toInt ∧ v16.toInt ≤ 12 by first | assumption | omega | decide) (show 0 ≤ nx_11.toInt ∧ nx_11.toInt ≤ 1000 by first | assumption | omega | decide) (by omega) (hP.sub [2, 3, 4, 0, 1, 5] rfl) (hD.sub [2, 3, 4, 0, 1, 5] (by decide) rfl) hS (lv_sub hl [0, 1] rfl)
        · have tc18 : ¬ (v17.toInt = 1) := i32_neq c18
          refine lv_aload_n hx hb dX4_scanLine_51 rfl (lv_at hl 1 rfl) ?_
          refine va_get (D := D) (ci := 4) (v := .ref s2) (C := RX4) (T := TX4) (N := 6) hx hb hts iw_k_scanLine_4 hown hK hP 2 rfl rfl 2 (by decide) (hts (.fieldLink RX4 11 "FlightDesk$Scanner" "kind" "[I") (by decide +kernel)) (fun _ h9 => h9) rfl dX4_scanLine_52 ?_
          refine lv_iload_n hx hb dX4_scanLine_55 rfl (lv_at hl 0 rfl) ?_
          refine va_iald hx hb hK hP 0 0 rfl rfl (vp_in_iff.mpr ⟨show 0 ≤ i1.toInt by omega, show i1.toInt < ((12 : Nat) : Int) by omega⟩) dX4_scanLine_56 ?_
          refine lv_topi (fun v20 ev20 => ?_)
          refine lv_iconst (v := 2) hx hb dX4_scanLine_57 (by decide) ?_
          refine lv_icmp_eq (tgt := 64) hx hb dX4_scanLine_58 (by decide) (fun c21 => ?_) (fun c21 => ?_)
          · have tc21 : v20.toInt = 2 := i32_eq c21
            obtain ⟨v22, ev22⟩ : ∃ y : Int32, y = i1 + 1 := ⟨_, rfl⟩
            have tv22 : v22.toInt = (i1.toInt + 1 + 2147483648) % 4294967296 - 2147483648 := i32_add ev22
            refine lv_iinc (v := v22) (lv' := [(1, .int v22), (0, .ref h0)]) hx hb dX4_scanLine_64 hl (k := 0) rfl (by rw [ev22]; rfl) (by decide) rfl (fun ls hl => ?_)
            refine lv_goto (tgt := 7) hx hb dX4_scanLine_67 (by decide) ?_
            exact ih_N5 v22 v16 nx_11 f15 f10 gv_12 _ _ _ (show 0 ≤ v22.toInt ∧ v22.toInt ≤ 12 by first | assumption | omega | decide) (show 0 ≤ v16.toInt ∧ v16.toInt ≤ 12 by first | assumption | omega | decide) (show 0 ≤ nx_11.toInt ∧ nx_11.toInt ≤ 1000 by first | assumption | omega | decide) (by omega) (hP.sub [2, 3, 4, 0, 1, 5] rfl) (hD.sub [2, 3, 4, 0, 1, 5] (by decide) rfl) hS (lv_sub hl [0, 1] rfl)
          · have tc21 : ¬ (v20.toInt = 2) := i32_neq c21
            refine lv_goto (tgt := 70) hx hb dX4_scanLine_61 (by decide) ?_
            have hP9 := hP.sub (ws' := [(h0, .inr (4, [.ref tp, .int v16, .ref s2, .ref s3, .ref s4, .int nx_11])), (tp, .inr (5, [.ref yb, .int n])), (yb, .inl (cI, 1000, .inl fy)), (s2, .inl (cI, 12, .inl f15)), (s3, .inl (cI, 12, .inl f10)), (s4, .inl (cI, 12, .inl gv_12))]) [2, 3, 4, 0, 1, 5] rfl
            have hD9 := hD.sub (ws' := [(h0, .inr (4, [.ref tp, .int v16, .ref s2, .ref s3, .ref s4, .int nx_11])), (tp, .inr (5, [.ref yb, .int n])), (yb, .inl (cI, 1000, .inl fy)), (s2, .inl (cI, 12, .inl f15)), (s3, .inl (cI, 12, .inl f10)), (s4, .inl (cI, 12, .inl gv_12))]) [2, 3, 4, 0, 1, 5] (by decide) rfl
            refine W.widen (k := 0) (n := 0) (by decide) (by decide) ?_
            exact W.vret hx hb hr (fun t ht hW => ⟨⟨(), rfl, trivial, v16, nx_11, f15, f10, gv_12, (show 0 ≤ v16.toInt ∧ v16.toInt ≤ 12 by first | assumption | omega | decide), (show 0 ≤ nx_11.toInt ∧ nx_11.toInt ≤ 1000 by first | assumption | omega | decide), by rw [ht]; exact hP9, hD9⟩, hS.F ht⟩) hS.2.2 dX4_scanLine_70
  exact loop4 _ 0 0 nx fk fp fv _ _ _ (show 0 ≤ 0 ∧ 0 ≤ 12 by first | assumption | omega | decide) (show 0 ≤ 0 ∧ 0 ≤ 12 by first | assumption | omega | decide) (show 0 ≤ nx.toInt ∧ nx.toInt ≤ 1000 by first | assumption | omega | decide) (Nat.lt_succ_self _) (hP.sub [0, 1, 2, 3, 4, 5] rfl) (hD.sub [0, 1, 2, 3, 4, 5] (by decide) rfl) hS (lv_sub hl [0, 1] rfl)
