def wk_k_isWord : List Cond := .code yX4_isWord cX4_isWord 4 (some .boolean) :: ([.fieldLink RX4 25 "FlightDesk$Scanner" "count" "I", .fieldLink RX4 11 "FlightDesk$Scanner" "kind" "[I", .fieldLink RX4 18 "FlightDesk$Scanner" "value" "[I", .methodLink RX4 40 yJ0_length_8abf5, .instanceMethod yJ0_length_8abf5, .selects RJ0 yJ0_length_8abf5 yJ0_length_8abf5, .initialized RJ0, .code yJ0_length_8abf5 cJ0_length_8abf5 1 (some .int), .fieldLink RJ0 9 "java/lang/String" "value" "[B", .methodLink RJ0 335 yJ0_coder_7d493, .instanceMethod yJ0_coder_7d493, .selects RJ0 yJ0_coder_7d493 yJ0_coder_7d493, .code yJ0_coder_7d493 cJ0_coder_7d493 1 (some .byte), .fieldLink RJ0 38 "java/lang/String" "COMPACT_STRINGS" "Z", .fieldLink RJ0 15 "java/lang/String" "coder" "B", .fieldLink RX4 21 "FlightDesk$Scanner" "tape" "LFlightDesk$Tape;", .fieldLink RX4 15 "FlightDesk$Scanner" "place" "[I", .methodLink RX4 45 yX5_byteAt, .instanceMethod yX5_byteAt, .selects RX5 yX5_byteAt yX5_byteAt, .initialized RX5, .code yX5_byteAt cX5_byteAt 2 (some .int), .fieldLink RX5 15 "FlightDesk$Tape" "length" "I", .fieldLink RX5 9 "FlightDesk$Tape" "bytes" "[I", .methodLink RX4 50 yJ0_charAt_5068e, .instanceMethod yJ0_charAt_5068e, .selects RJ0 yJ0_charAt_5068e yJ0_charAt_5068e, .code yJ0_charAt_5068e cJ0_charAt_5068e 2 (some .char), .methodLink RJ0 492 yJ0_isLatin1_aae02, .instanceMethod yJ0_isLatin1_aae02, .selects RJ0 yJ0_isLatin1_aae02 yJ0_isLatin1_aae02, .code yJ0_isLatin1_aae02 cJ0_isLatin1_aae02 1 (some .boolean), .methodLink RJ0 495 yJ1_charAt_3b067, .static yJ1_charAt_3b067, .initialized RJ1, .code yJ1_charAt_3b067 cJ1_charAt_3b067 2 (some .char), .methodLink RJ1 9 yJ0_checkIndex_df160, .static yJ0_checkIndex_df160, .code yJ0_checkIndex_df160 cJ0_checkIndex_df160 2 none, .fieldLink RJ0 1053 "jdk/internal/util/Preconditions" "SIOOBE_FORMATTER" "Ljava/util/function/BiFunction;", .methodLink RJ0 1059 yJ3_checkIndex_8e157, .static yJ3_checkIndex_8e157, .initialized RJ3, .code yJ3_checkIndex_8e157 cJ3_checkIndex_8e157 3 (some .int)] ++ wsX40 ++ wsX50)
theorem iw_k_isWord_4 : ∀ w ∈ wsX40, w ∈ wk_k_isWord := fun _ h => List.mem_cons_of_mem _ (List.mem_append_left _ (List.mem_append_right _ h))
theorem iw_k_isWord_5 : ∀ w ∈ wsX50, w ∈ wk_k_isWord := fun _ h => List.mem_cons_of_mem _ (List.mem_append_right _ h)
set_option maxRecDepth 20000 in
theorem gw_k_isWord_0 : GoodIn wk_k_isWord (wsV RX4 40 RJ0 yJ0_length_8abf5 wk_k_length) := goodIn_sub (by decide +kernel) (by decide +kernel)
set_option maxRecDepth 20000 in
theorem gw_k_isWord_1 : GoodIn wk_k_isWord (wsV RX4 45 RX5 yX5_byteAt wk_k_byteAt) := goodIn_sub (by decide +kernel) (by decide +kernel)
set_option maxRecDepth 20000 in
theorem gw_k_isWord_2 : GoodIn wk_k_isWord (wsV RX4 50 RJ0 yJ0_charAt_5068e wk_k_charAt) := goodIn_sub (by decide +kernel) (by decide +kernel)
set_option maxHeartbeats 4000000 in
set_option maxRecDepth 100000 in
theorem k_isWord (l : Launch) (D : va_G) (cI cB cP : ClassId) (sz : Nat) (adK : Nat → Nat) (adV : Nat → Nat) (j9 : Nat) (h0 : Nat) (tp : Nat) (s2 : Nat) (s3 : Nat) (s4 : Nat) (yb : Nat) (ct : Int32) (nx : Int32) (n : Int32) (i : Int32) (fk : Nat → Int32) (fp : Nat → Int32) (fv : Nat → Int32) (fy : Nat → Int32) (hj9 : j9 < 11) (hn9 : 0 ≤ n.toInt ∧ n.toInt ≤ 1000) (ht9 : 0 ≤ ct.toInt ∧ ct.toInt ≤ 12) : Met l yX4_isWord wk_k_isWord ({ frames := 4, cells := 0, slots := 0, locals := 85 } : Room) (va_Pc [.ref h0, .int i, .ref (adK j9)] (Pws D cI cB cP sz adK adV [(h0, .inr (4, [.ref tp, .int ct, .ref s2, .ref s3, .ref s4, .int nx])), (s2, .inl (cI, 12, .inl fk)), (s3, .inl (cI, 12, .inl fp)), (s4, .inl (cI, 12, .inl fv)), (tp, .inr (5, [.ref yb, .int n])), (yb, .inl (cI, 1000, .inl fy))])) (va_Qi (fun (r : Int32) (_ : Unit) => 0 ≤ r.toInt) (fun _ t => va_P D vwCl [(h0, .inr (4, [.ref tp, .int ct, .ref s2, .ref s3, .ref s4, .int nx])), (s2, .inl (cI, 12, .inl fk)), (s3, .inl (cI, 12, .inl fp)), (s4, .inl (cI, 12, .inl fv)), (tp, .inr (5, [.ref yb, .int n])), (yb, .inl (cI, 1000, .inl fy))] t.heap ∧ va_D (va_A [(h0, .inr (4, [.ref tp, .int ct, .ref s2, .ref s3, .ref s4, .int nx])), (s2, .inl (cI, 12, .inl fk)), (s3, .inl (cI, 12, .inl fp)), (s4, .inl (cI, 12, .inl fv)), (tp, .inr (5, [.ref yb, .int n])), (yb, .inl (cI, 1000, .inl fy))] sz) [(h0, .inr (4, [.ref tp, .int ct, .ref s2, .ref s3, .ref s4, .int nx])), (s2, .inl (cI, 12, .inl fk)), (s3, .inl (cI, 12, .inl fp)), (s4, .inl (cI, 12, .inl fv)), (tp, .inr (5, [.ref yb, .int n])), (yb, .inl (cI, 1000, .inl fy))]) (va_A [(h0, .inr (4, [.ref tp, .int ct, .ref s2, .ref s3, .ref s4, .int nx])), (s2, .inl (cI, 12, .inl fk)), (s3, .inl (cI, 12, .inl fp)), (s4, .inl (cI, 12, .inl fv)), (tp, .inr (5, [.ref yb, .int n])), (yb, .inl (cI, 1000, .inl fy))] sz)) 0 0 (va_A [(h0, .inr (4, [.ref tp, .int ct, .ref s2, .ref s3, .ref s4, .int nx])), (s2, .inl (cI, 12, .inl fk)), (s3, .inl (cI, 12, .inl fp)), (s4, .inl (cI, 12, .inl fv)), (tp, .inr (5, [.ref yb, .int n])), (yb, .inl (cI, 1000, .inl fy))] sz) := by
  refine Met.ofW (cc := cX4_isWord) (maxL := 4) (ret := (some .boolean)) (by decide) rfl ?_
  intro p e s m args below meth c s₁ B hml hv
  obtain ⟨rfl, ⟨hsz, hP, ⟨hK, hN⟩, hD0⟩, hT⟩ := hv
  have hx := B.exec
  have hb := B.bytes
  have hr := B.returns
  have hts := atoms_spec (ws := wk_k_isWord) B.pre
  have hown : s.vm.findClass RX4 = some m.cls := findClass_of_methodNamed B.named
  have hlocks := B.notSynchronized
  subst hsz
  have hD := hD0.self (sz := s.heap.size)
  generalize hAe : va_A [(h0, .inr (4, [.ref tp, .int ct, .ref s2, .ref s3, .ref s4, .int nx])), (s2, .inl (cI, 12, .inl fk)), (s3, .inl (cI, 12, .inl fp)), (s4, .inl (cI, 12, .inl fv)), (tp, .inr (5, [.ref yb, .int n])), (yb, .inl (cI, 1000, .inl fy))] s.heap.size = A at hD hT ⊢
  have hA : ∀ q : Nat, s.heap.size ≤ q → A q := fun q h => by rw [← hAe]; exact Or.inr h
  have hS : va_S A s.heap s.heap [] := va_S.rf
  have hP : va_P D vwCl [(h0, .inr (4, [.ref tp, .int ct, .ref s2, .ref s3, .ref s4, .int nx])), (s2, .inl (cI, 12, .inl fk)), (s3, .inl (cI, 12, .inl fp)), (s4, .inl (cI, 12, .inl fv)), (tp, .inr (5, [.ref yb, .int n])), (yb, .inl (cI, 1000, .inl fy))] s.heap := hP
  have hl := lv_entry ([.ref h0, .int i, .ref (adK j9)]) (n := 4) (Nat.le_of_ble_eq_true rfl)
  rw [lg_entry_eq]
  generalize (lg_sl ([.ref h0, .int i, .ref (adK j9)]) ++ List.replicate (4 - (lg_sl ([.ref h0, .int i, .ref (adK j9)])).length) Slot.unset).toArray = ls at hl ⊢
  have hl : lv_has ls 4 [(0, .ref h0), (1, .int i), (2, .ref (adK j9))] := hl
  refine lv_iload_n hx hb dX4_isWord_0 rfl (lv_at hl 1 rfl) ?_
  refine lv_if_lt (tgt := 35) hx hb dX4_isWord_1 (by decide) (fun c1 => ?_) (fun c1 => ?_)
  · have tc1 : i.toInt < 0 := i32_lt c1
    refine lv_iconst (v := 0) hx hb dX4_isWord_35 (by decide) ?_
    have hP9 := hP.sub (ws' := [(h0, .inr (4, [.ref tp, .int ct, .ref s2, .ref s3, .ref s4, .int nx])), (s2, .inl (cI, 12, .inl fk)), (s3, .inl (cI, 12, .inl fp)), (s4, .inl (cI, 12, .inl fv)), (tp, .inr (5, [.ref yb, .int n])), (yb, .inl (cI, 1000, .inl fy))]) [0, 1, 2, 3, 4, 5] rfl
    have hD9 := hD.sub (ws' := [(h0, .inr (4, [.ref tp, .int ct, .ref s2, .ref s3, .ref s4, .int nx])), (s2, .inl (cI, 12, .inl fk)), (s3, .inl (cI, 12, .inl fp)), (s4, .inl (cI, 12, .inl fv)), (tp, .inr (5, [.ref yb, .int n])), (yb, .inl (cI, 1000, .inl fy))]) [0, 1, 2, 3, 4, 5] (by decide) rfl
    refine W.widen (k := 0) (n := 0) (by decide) (by decide) ?_
    exact W.zret (v := 0) hx hb hr (by decide) (fun t ht hW => ⟨⟨0, (), rfl, (show 0 ≤ 0 by first | assumption | omega | trivial | decide), by rw [ht]; exact hP9, hD9⟩, hS.F ht⟩) hS.2.2 dX4_isWord_36
  · have tc1 : ¬ (i.toInt < 0) := i32_nlt c1
    refine lv_iload_n hx hb dX4_isWord_4 rfl (lv_at hl 1 rfl) ?_
    refine lv_aload_n hx hb dX4_isWord_5 rfl (lv_at hl 0 rfl) ?_
    refine va_get (D := D) (ci := 4) (v := .int ct) (C := RX4) (T := TX4) (N := 6) hx hb hts iw_k_isWord_4 hown hK hP 0 rfl rfl 1 (by decide) (hts (.fieldLink RX4 25 "FlightDesk$Scanner" "count" "I") (by decide +kernel)) (fun _ h9 => h9) rfl dX4_isWord_6 ?_
    refine lv_icmp_ge (tgt := 35) hx hb dX4_isWord_9 (by decide) (fun c2 => ?_) (fun c2 => ?_)
    · have tc2 : ct.toInt ≤ i.toInt := i32_le c2
      refine lv_iconst (v := 0) hx hb dX4_isWord_35 (by decide) ?_
      have hP9 := hP.sub (ws' := [(h0, .inr (4, [.ref tp, .int ct, .ref s2, .ref s3, .ref s4, .int nx])), (s2, .inl (cI, 12, .inl fk)), (s3, .inl (cI, 12, .inl fp)), (s4, .inl (cI, 12, .inl fv)), (tp, .inr (5, [.ref yb, .int n])), (yb, .inl (cI, 1000, .inl fy))]) [0, 1, 2, 3, 4, 5] rfl
      have hD9 := hD.sub (ws' := [(h0, .inr (4, [.ref tp, .int ct, .ref s2, .ref s3, .ref s4, .int nx])), (s2, .inl (cI, 12, .inl fk)), (s3, .inl (cI, 12, .inl fp)), (s4, .inl (cI, 12, .inl fv)), (tp, .inr (5, [.ref yb, .int n])), (yb, .inl (cI, 1000, .inl fy))]) [0, 1, 2, 3, 4, 5] (by decide) rfl
      refine W.widen (k := 0) (n := 0) (by decide) (by decide) ?_
      exact W.zret (v := 0) hx hb hr (by decide) (fun t ht hW => ⟨⟨0, (), rfl, (show 0 ≤ 0 by first | assumption | omega | trivial | decide), by rw [ht]; exact hP9, hD9⟩, hS.F ht⟩) hS.2.2 dX4_isWord_36
    · have tc2 : ¬ (ct.toInt ≤ i.toInt) := i32_nle c2
      refine lv_aload_n hx hb dX4_isWord_12 rfl (lv_at hl 0 rfl) ?_
      refine va_get (D := D) (ci := 4) (v := .ref s2) (C := RX4) (T := TX4) (N := 6) hx hb hts iw_k_isWord_4 hown hK hP 0 rfl rfl 2 (by decide) (hts (.fieldLink RX4 11 "FlightDesk$Scanner" "kind" "[I") (by decide +kernel)) (fun _ h9 => h9) rfl dX4_isWord_13 ?_
      refine lv_iload_n hx hb dX4_isWord_16 rfl (lv_at hl 1 rfl) ?_
      refine va_iald hx hb hK hP 1 0 rfl rfl (vp_in_iff.mpr ⟨show 0 ≤ i.toInt by omega, show i.toInt < ((12 : Nat) : Int) by omega⟩) dX4_isWord_17 ?_
      refine lv_topi (fun v3 ev3 => ?_)
      refine lv_iconst (v := 1) hx hb dX4_isWord_18 (by decide) ?_
      refine lv_icmp_ne (tgt := 35) hx hb dX4_isWord_19 (by decide) (fun c4 => ?_) (fun c4 => ?_)
      · have tc4 : ¬ (v3.toInt = 1) := i32_neq c4
        refine lv_iconst (v := 0) hx hb dX4_isWord_35 (by decide) ?_
        have hP9 := hP.sub (ws' := [(h0, .inr (4, [.ref tp, .int ct, .ref s2, .ref s3, .ref s4, .int nx])), (s2, .inl (cI, 12, .inl fk)), (s3, .inl (cI, 12, .inl fp)), (s4, .inl (cI, 12, .inl fv)), (tp, .inr (5, [.ref yb, .int n])), (yb, .inl (cI, 1000, .inl fy))]) [0, 1, 2, 3, 4, 5] rfl
        have hD9 := hD.sub (ws' := [(h0, .inr (4, [.ref tp, .int ct, .ref s2, .ref s3, .ref s4, .int nx])), (s2, .inl (cI, 12, .inl fk)), (s3, .inl (cI, 12, .inl fp)), (s4, .inl (cI, 12, .inl fv)), (tp, .inr (5, [.ref yb, .int n])), (yb, .inl (cI, 1000, .inl fy))]) [0, 1, 2, 3, 4, 5] (by decide) rfl
        refine W.widen (k := 0) (n := 0) (by decide) (by decide) ?_
        exact W.zret (v := 0) hx hb hr (by decide) (fun t ht hW => ⟨⟨0, (), rfl, (show 0 ≤ 0 by first | assumption | omega | trivial | decide), by rw [ht]; exact hP9, hD9⟩, hS.F ht⟩) hS.2.2 dX4_isWord_36
      · have tc4 : v3.toInt = 1 := i32_eq c4
        refine lv_aload_n hx hb dX4_isWord_22 rfl (lv_at hl 0 rfl) ?_
        refine va_get (D := D) (ci := 4) (v := .ref s4) (C := RX4) (T := TX4) (N := 6) hx hb hts iw_k_isWord_4 hown hK hP 0 rfl rfl 4 (by decide) (hts (.fieldLink RX4 18 "FlightDesk$Scanner" "value" "[I") (by decide +kernel)) (fun _ h9 => h9) rfl dX4_isWord_23 ?_
        refine lv_iload_n hx hb dX4_isWord_26 rfl (lv_at hl 1 rfl) ?_
        refine va_iald hx hb hK hP 3 0 rfl rfl (vp_in_iff.mpr ⟨show 0 ≤ i.toInt by omega, show i.toInt < ((12 : Nat) : Int) by omega⟩) dX4_isWord_27 ?_
        refine lv_topi (fun v5 ev5 => ?_)
        refine lv_aload_n hx hb dX4_isWord_28 rfl (lv_at hl 2 rfl) ?_
        have hPc := hP.sub (ws' := []) [] rfl
        have hDc := hD.sub (ws' := []) [] (by decide) rfl
        have hFc := va_free (wc := []) hD hS hA [] rfl
        refine va_calli (va_runV (As := []) (rest := [.int v5]) ⟨hx, hb, hml, hown, hts⟩ (k_length l D cI cB cP s.heap.size adK adV j9 (show j9 < 11 by first | assumption | omega | decide)) (cwV 0 hts gw_k_isWord_0 rfl rfl rfl (by decide +kernel) ⟨Nat.le_of_ble_eq_true rfl, Nat.le_of_ble_eq_true rfl⟩) ⟨ny_blind9, vk_recv hT.1.1 (i := j9) hj9 hS, ny_pre9 hPc hK hN hDc hT hS hFc⟩ rfl rfl hl.1 rfl (lv_room (Nat.le_of_ble_eq_true rfl)) dX4_isWord_29 ⟨Nat.le_of_ble_eq_true rfl, Nat.le_of_ble_eq_true rfl⟩) hS (fun q _ h => hFc q h) hFc (fun r6 u t H locs ht hvm hw hB hz1 hk1 hS => ?_)
        obtain ⟨hP, hD⟩ := va_join (wr := [(h0, .inr (4, [.ref tp, .int ct, .ref s2, .ref s3, .ref s4, .int nx])), (s2, .inl (cI, 12, .inl fk)), (s3, .inl (cI, 12, .inl fp)), (s4, .inl (cI, 12, .inl fv)), (tp, .inr (5, [.ref yb, .int n])), (yb, .inl (cI, 1000, .inl fy))]) (w1 := []) hP hD [] [0, 1, 2, 3, 4, 5] rfl rfl (by decide) (by decide) hk1 hFc ny_P0 ny_D0
        have hP : va_P D vwCl [(h0, .inr (4, [.ref tp, .int ct, .ref s2, .ref s3, .ref s4, .int nx])), (s2, .inl (cI, 12, .inl fk)), (s3, .inl (cI, 12, .inl fp)), (s4, .inl (cI, 12, .inl fv)), (tp, .inr (5, [.ref yb, .int n])), (yb, .inl (cI, 1000, .inl fy))] H := hP
        have hD : va_D A [(h0, .inr (4, [.ref tp, .int ct, .ref s2, .ref s3, .ref s4, .int nx])), (s2, .inl (cI, 12, .inl fk)), (s3, .inl (cI, 12, .inl fp)), (s4, .inl (cI, 12, .inl fv)), (tp, .inr (5, [.ref yb, .int n])), (yb, .inl (cI, 1000, .inl fy))] := hD
        have hr6 : r6.toInt = ((lenJ j9 : Nat) : Int) := hw
        refine lv_icmp_eq (tgt := 37) hx hb dX4_isWord_32 (by decide) (fun c7 => ?_) (fun c7 => ?_)
        · have tc7 : v5.toInt = r6.toInt := i32_eq c7
          refine lv_iconst (v := 0) hx hb dX4_isWord_37 (by decide) ?_
          refine lv_istore_n (lv' := [(3, .int 0), (0, .ref h0), (1, .int i), (2, .ref (adK j9))]) hx hb dX4_isWord_38 rfl hl (by decide) rfl (fun ls hl => ?_)
          have hJ9 : lenJ j9 < 6 := lenJ_lt hj9
          have loop9 : ∀ (N10 : Nat) (kk1 : Int32) (H : Heap) (locs : List Loc) (ls : Array Slot), (0 ≤ kk1.toInt ∧ kk1.toInt ≤ 6) → (10 - kk1.toInt).toNat < N10 → va_P D vwCl [(h0, .inr (4, [.ref tp, .int ct, .ref s2, .ref s3, .ref s4, .int nx])), (s2, .inl (cI, 12, .inl fk)), (s3, .inl (cI, 12, .inl fp)), (s4, .inl (cI, 12, .inl fv)), (tp, .inr (5, [.ref yb, .int n])), (yb, .inl (cI, 1000, .inl fy))] H → va_D A [(h0, .inr (4, [.ref tp, .int ct, .ref s2, .ref s3, .ref s4, .int nx])), (s2, .inl (cI, 12, .inl fk)), (s3, .inl (cI, 12, .inl fp)), (s4, .inl (cI, 12, .inl fv)), (tp, .inr (5, [.ref yb, .int n])), (yb, .inl (cI, 1000, .inl fy))] → va_S A s.heap H locs → lv_has ls 4 [(3, .int kk1), (0, .ref h0), (1, .int i), (2, .ref (adK j9))] → W p l e ({ frames := 4, cells := 0, slots := 0, locals := 85 } : Room) s m ([.ref h0, .int i, .ref (adK j9)] : List Value).toArray below meth c H locs 0 0 (MQ below (va_Qi (fun (r : Int32) (_ : Unit) => 0 ≤ r.toInt) (fun _ t => va_P D vwCl [(h0, .inr (4, [.ref tp, .int ct, .ref s2, .ref s3, .ref s4, .int nx])), (s2, .inl (cI, 12, .inl fk)), (s3, .inl (cI, 12, .inl fp)), (s4, .inl (cI, 12, .inl fv)), (tp, .inr (5, [.ref yb, .int n])), (yb, .inl (cI, 1000, .inl fy))] t.heap ∧ va_D A [(h0, .inr (4, [.ref tp, .int ct, .ref s2, .ref s3, .ref s4, .int nx])), (s2, .inl (cI, 12, .inl fk)), (s3, .inl (cI, 12, .inl fp)), (s4, .inl (cI, 12, .inl fv)), (tp, .inr (5, [.ref yb, .int n])), (yb, .inl (cI, 1000, .inl fy))]) A) ([.ref h0, .int i, .ref (adK j9)] : List Value).toArray s 0 0 A) (F0 m 39 ls []) := by
            intro N10
            induction N10 with
            | zero => intro kk1 H locs ls hi8 hm9 hP hD hS hl; exact absurd hm9 (Nat.not_lt_zero _)
            | succ N10 ih_N10 => 
              intro kk1 H locs ls hi8 hm9 hP hD hS hl
              refine lv_iload_n hx hb dX4_isWord_39 rfl (lv_at hl 0 rfl) ?_
              refine lv_aload_n hx hb dX4_isWord_40 rfl (lv_at hl 3 rfl) ?_
              have hPc := hP.sub (ws' := []) [] rfl
              have hDc := hD.sub (ws' := []) [] (by decide) rfl
              have hFc := va_free (wc := []) hD hS hA [] rfl
              refine va_calli (va_runV (As := []) (rest := [.int kk1]) ⟨hx, hb, hml, hown, hts⟩ (k_length l D cI cB cP H.size adK adV j9 (show j9 < 11 by first | assumption | omega | decide)) (cwV 0 hts gw_k_isWord_0 rfl rfl rfl (by decide +kernel) ⟨Nat.le_of_ble_eq_true rfl, Nat.le_of_ble_eq_true rfl⟩) ⟨ny_blind9, vk_recv hT.1.1 (i := j9) hj9 hS, ny_pre9 hPc hK hN hDc hT hS hFc⟩ rfl rfl hl.1 rfl (lv_room (Nat.le_of_ble_eq_true rfl)) dX4_isWord_41 ⟨Nat.le_of_ble_eq_true rfl, Nat.le_of_ble_eq_true rfl⟩) hS (fun q _ h => hFc q h) hFc (fun r11 u t H locs ht hvm hw hB hz1 hk1 hS => ?_)
              obtain ⟨hP, hD⟩ := va_join (wr := [(h0, .inr (4, [.ref tp, .int ct, .ref s2, .ref s3, .ref s4, .int nx])), (s2, .inl (cI, 12, .inl fk)), (s3, .inl (cI, 12, .inl fp)), (s4, .inl (cI, 12, .inl fv)), (tp, .inr (5, [.ref yb, .int n])), (yb, .inl (cI, 1000, .inl fy))]) (w1 := []) hP hD [] [0, 1, 2, 3, 4, 5] rfl rfl (by decide) (by decide) hk1 hFc ny_P0 ny_D0
              have hP : va_P D vwCl [(h0, .inr (4, [.ref tp, .int ct, .ref s2, .ref s3, .ref s4, .int nx])), (s2, .inl (cI, 12, .inl fk)), (s3, .inl (cI, 12, .inl fp)), (s4, .inl (cI, 12, .inl fv)), (tp, .inr (5, [.ref yb, .int n])), (yb, .inl (cI, 1000, .inl fy))] H := hP
              have hD : va_D A [(h0, .inr (4, [.ref tp, .int ct, .ref s2, .ref s3, .ref s4, .int nx])), (s2, .inl (cI, 12, .inl fk)), (s3, .inl (cI, 12, .inl fp)), (s4, .inl (cI, 12, .inl fv)), (tp, .inr (5, [.ref yb, .int n])), (yb, .inl (cI, 1000, .inl fy))] := hD
              have hr11 : r11.toInt = ((lenJ j9 : Nat) : Int) := hw
              refine lv_icmp_ge (tgt := 78) hx hb dX4_isWord_44 (by decide) (fun c12 => ?_) (fun c12 => ?_)
              · have tc12 : r11.toInt ≤ kk1.toInt := i32_le c12
                refine lv_iconst (v := 1) hx hb dX4_isWord_78 (by decide) ?_
                have hP9 := hP.sub (ws' := [(h0, .inr (4, [.ref tp, .int ct, .ref s2, .ref s3, .ref s4, .int nx])), (s2, .inl (cI, 12, .inl fk)), (s3, .inl (cI, 12, .inl fp)), (s4, .inl (cI, 12, .inl fv)), (tp, .inr (5, [.ref yb, .int n])), (yb, .inl (cI, 1000, .inl fy))]) [0, 1, 2, 3, 4, 5] rfl
                have hD9 := hD.sub (ws' := [(h0, .inr (4, [.ref tp, .int ct, .ref s2, .ref s3, .ref s4, .int nx])), (s2, .inl (cI, 12, .inl fk)), (s3, .inl (cI, 12, .inl fp)), (s4, .inl (cI, 12, .inl fv)), (tp, .inr (5, [.ref yb, .int n])), (yb, .inl (cI, 1000, .inl fy))]) [0, 1, 2, 3, 4, 5] (by decide) rfl
                refine W.widen (k := 0) (n := 0) (by decide) (by decide) ?_
                exact W.zret (v := 1) hx hb hr (by decide) (fun t ht hW => ⟨⟨1, (), rfl, (show 0 ≤ 1 by first | assumption | omega | trivial | decide), by rw [ht]; exact hP9, hD9⟩, hS.F ht⟩) hS.2.2 dX4_isWord_79
              · have tc12 : ¬ (r11.toInt ≤ kk1.toInt) := i32_nle c12
                refine lv_aload_n hx hb dX4_isWord_47 rfl (lv_at hl 1 rfl) ?_
                refine va_get (D := D) (ci := 4) (v := .ref tp) (C := RX4) (T := TX4) (N := 6) hx hb hts iw_k_isWord_4 hown hK hP 0 rfl rfl 0 (by decide) (hts (.fieldLink RX4 21 "FlightDesk$Scanner" "tape" "LFlightDesk$Tape;") (by decide +kernel)) (fun _ h9 => h9) rfl dX4_isWord_48 ?_
                refine lv_aload_n hx hb dX4_isWord_51 rfl (lv_at hl 1 rfl) ?_
                refine va_get (D := D) (ci := 4) (v := .ref s3) (C := RX4) (T := TX4) (N := 6) hx hb hts iw_k_isWord_4 hown hK hP 0 rfl rfl 3 (by decide) (hts (.fieldLink RX4 15 "FlightDesk$Scanner" "place" "[I") (by decide +kernel)) (fun _ h9 => h9) rfl dX4_isWord_52 ?_
                refine lv_iload_n hx hb dX4_isWord_55 rfl (lv_at hl 2 rfl) ?_
                refine va_iald hx hb hK hP 2 0 rfl rfl (vp_in_iff.mpr ⟨show 0 ≤ i.toInt by omega, show i.toInt < ((12 : Nat) : Int) by omega⟩) dX4_isWord_56 ?_
                refine lv_topi (fun v13 ev13 => ?_)
                refine lv_iload_n hx hb dX4_isWord_57 rfl (lv_at hl 0 rfl) ?_
                refine lv_iadd hx hb dX4_isWord_58 ?_
                refine lv_topi (fun v14 ev14 => ?_)
                have tv14 : v14.toInt = (v13.toInt + kk1.toInt + 2147483648) % 4294967296 - 2147483648 := i32_add ev14
                have hPc := hP.sub (ws' := [(tp, .inr (5, [.ref yb, .int n])), (yb, .inl (cI, 1000, .inl fy))]) [4, 5] rfl
                have hDc := hD.sub (ws' := [(tp, .inr (5, [.ref yb, .int n])), (yb, .inl (cI, 1000, .inl fy))]) [4, 5] (by decide) rfl
                have hFc := va_free (wc := [(tp, .inr (5, [.ref yb, .int n])), (yb, .inl (cI, 1000, .inl fy))]) hD hS hA [4, 5] rfl
                refine va_calli (va_runV (As := [.int v14]) (rest := []) ⟨hx, hb, hml, hown, hts⟩ (k_byteAt l D cI cB cP H.size tp yb n v14 fy (show 0 ≤ n.toInt ∧ n.toInt ≤ 1000 by first | assumption | omega | decide)) (cwV 1 hts gw_k_isWord_1 rfl rfl rfl (by decide +kernel) ⟨Nat.le_of_ble_eq_true rfl, Nat.le_of_ble_eq_true rfl⟩) ⟨ny_blind, va_recv hK hPc (ci := 5) (q0 := 0) rfl rfl, ny_pre hPc hK hN hDc⟩ rfl rfl hl.1 rfl (lv_room (Nat.le_of_ble_eq_true rfl)) dX4_isWord_59 ⟨Nat.le_of_ble_eq_true rfl, Nat.le_of_ble_eq_true rfl⟩) hS (fun q _ h => hFc q h) hFc (fun r15 u t H locs ht hvm hw hB hz1 hk1 hS => ?_)
                obtain ⟨hP1, hD1⟩ := hB
                rw [ht] at hP1
                obtain ⟨hP, hD⟩ := va_join (wr := [(h0, .inr (4, [.ref tp, .int ct, .ref s2, .ref s3, .ref s4, .int nx])), (s2, .inl (cI, 12, .inl fk)), (s3, .inl (cI, 12, .inl fp)), (s4, .inl (cI, 12, .inl fv))]) (w1 := [(tp, .inr (5, [.ref yb, .int n])), (yb, .inl (cI, 1000, .inl fy))]) hP hD [4, 5] [0, 1, 2, 3] rfl rfl (by decide) (by decide) hk1 hFc hP1 hD1
                have hP : va_P D vwCl [(h0, .inr (4, [.ref tp, .int ct, .ref s2, .ref s3, .ref s4, .int nx])), (s2, .inl (cI, 12, .inl fk)), (s3, .inl (cI, 12, .inl fp)), (s4, .inl (cI, 12, .inl fv)), (tp, .inr (5, [.ref yb, .int n])), (yb, .inl (cI, 1000, .inl fy))] H := hP
                have hD : va_D A [(h0, .inr (4, [.ref tp, .int ct, .ref s2, .ref s3, .ref s4, .int nx])), (s2, .inl (cI, 12, .inl fk)), (s3, .inl (cI, 12, .inl fp)), (s4, .inl (cI, 12, .inl fv)), (tp, .inr (5, [.ref yb, .int n])), (yb, .inl (cI, 1000, .inl fy))] := hD
                have hr15 : ¬ r15.toInt = (-1) → 0 ≤ v14.toInt ∧ v14.toInt < n.toInt := hw
                refine lv_aload_n hx hb dX4_isWord_62 rfl (lv_at hl 3 rfl) ?_
                refine lv_iload_n hx hb dX4_isWord_63 rfl (lv_at hl 0 rfl) ?_
                have hPc := hP.sub (ws' := []) [] rfl
                have hDc := hD.sub (ws' := []) [] (by decide) rfl
                have hFc := va_free (wc := []) hD hS hA [] rfl
                refine va_calli (va_runV (As := [.int kk1]) (rest := [.int r15]) ⟨hx, hb, hml, hown, hts⟩ (k_charAt l D cI cB cP H.size adK adV j9 kk1 (show j9 < 11 by first | assumption | omega | decide) (show 0 ≤ kk1.toInt ∧ kk1.toInt < ((lenJ j9 : Nat) : Int) by first | assumption | omega | decide)) (cwV 1 hts gw_k_isWord_2 rfl rfl rfl (by decide +kernel) ⟨Nat.le_of_ble_eq_true rfl, Nat.le_of_ble_eq_true rfl⟩) ⟨ny_blind9, vk_recv hT.1.1 (i := j9) hj9 hS, ny_pre9 hPc hK hN hDc hT hS hFc⟩ rfl rfl hl.1 rfl (lv_room (Nat.le_of_ble_eq_true rfl)) dX4_isWord_64 ⟨Nat.le_of_ble_eq_true rfl, Nat.le_of_ble_eq_true rfl⟩) hS (fun q _ h => hFc q h) hFc (fun r16 u t H locs ht hvm hw hB hz1 hk1 hS => ?_)
                obtain ⟨hP, hD⟩ := va_join (wr := [(h0, .inr (4, [.ref tp, .int ct, .ref s2, .ref s3, .ref s4, .int nx])), (s2, .inl (cI, 12, .inl fk)), (s3, .inl (cI, 12, .inl fp)), (s4, .inl (cI, 12, .inl fv)), (tp, .inr (5, [.ref yb, .int n])), (yb, .inl (cI, 1000, .inl fy))]) (w1 := []) hP hD [] [0, 1, 2, 3, 4, 5] rfl rfl (by decide) (by decide) hk1 hFc ny_P0 ny_D0
                have hP : va_P D vwCl [(h0, .inr (4, [.ref tp, .int ct, .ref s2, .ref s3, .ref s4, .int nx])), (s2, .inl (cI, 12, .inl fk)), (s3, .inl (cI, 12, .inl fp)), (s4, .inl (cI, 12, .inl fv)), (tp, .inr (5, [.ref yb, .int n])), (yb, .inl (cI, 1000, .inl fy))] H := hP
                have hD : va_D A [(h0, .inr (4, [.ref tp, .int ct, .ref s2, .ref s3, .ref s4, .int nx])), (s2, .inl (cI, 12, .inl fk)), (s3, .inl (cI, 12, .inl fp)), (s4, .inl (cI, 12, .inl fv)), (tp, .inr (5, [.ref yb, .int n])), (yb, .inl (cI, 1000, .inl fy))] := hD
                have hr16 : narrow .char (.int r16) = .int r16 := hw
                refine lv_icmp_eq (tgt := 72) hx hb dX4_isWord_67 (by decide) (fun c17 => ?_) (fun c17 => ?_)
                · have tc17 : r15.toInt = r16.toInt := i32_eq c17
                  obtain ⟨v18, ev18⟩ : ∃ y : Int32, y = kk1 + 1 := ⟨_, rfl⟩
                  have tv18 : v18.toInt = (kk1.toInt + 1 + 2147483648) % 4294967296 - 2147483648 := i32_add ev18
                  refine lv_iinc (v := v18) (lv' := [(3, .int v18), (0, .ref h0), (1, .int i), (2, .ref (adK j9))]) hx hb dX4_isWord_72 hl (k := 0) rfl (by rw [ev18]; rfl) (by decide) rfl (fun ls hl => ?_)
                  refine lv_goto (tgt := 39) hx hb dX4_isWord_75 (by decide) ?_
                  exact ih_N10 v18 _ _ _ (show 0 ≤ v18.toInt ∧ v18.toInt ≤ 6 by first | assumption | omega | decide) (by omega) (hP.sub [0, 1, 2, 3, 4, 5] rfl) (hD.sub [0, 1, 2, 3, 4, 5] (by decide) rfl) hS (lv_sub hl [0, 1, 2, 3] rfl)
                · have tc17 : ¬ (r15.toInt = r16.toInt) := i32_neq c17
                  refine lv_iconst (v := 0) hx hb dX4_isWord_70 (by decide) ?_
                  have hP9 := hP.sub (ws' := [(h0, .inr (4, [.ref tp, .int ct, .ref s2, .ref s3, .ref s4, .int nx])), (s2, .inl (cI, 12, .inl fk)), (s3, .inl (cI, 12, .inl fp)), (s4, .inl (cI, 12, .inl fv)), (tp, .inr (5, [.ref yb, .int n])), (yb, .inl (cI, 1000, .inl fy))]) [0, 1, 2, 3, 4, 5] rfl
                  have hD9 := hD.sub (ws' := [(h0, .inr (4, [.ref tp, .int ct, .ref s2, .ref s3, .ref s4, .int nx])), (s2, .inl (cI, 12, .inl fk)), (s3, .inl (cI, 12, .inl fp)), (s4, .inl (cI, 12, .inl fv)), (tp, .inr (5, [.ref yb, .int n])), (yb, .inl (cI, 1000, .inl fy))]) [0, 1, 2, 3, 4, 5] (by decide) rfl
                  refine W.widen (k := 0) (n := 0) (by decide) (by decide) ?_
                  exact W.zret (v := 0) hx hb hr (by decide) (fun t ht hW => ⟨⟨0, (), rfl, (show 0 ≤ 0 by first | assumption | omega | trivial | decide), by rw [ht]; exact hP9, hD9⟩, hS.F ht⟩) hS.2.2 dX4_isWord_71
          exact loop9 _ 0 _ _ _ (show 0 ≤ 0 ∧ 0 ≤ 6 by first | assumption | omega | decide) (Nat.lt_succ_self _) (hP.sub [0, 1, 2, 3, 4, 5] rfl) (hD.sub [0, 1, 2, 3, 4, 5] (by decide) rfl) hS (lv_sub hl [0, 1, 2, 3] rfl)
        · have tc7 : ¬ (v5.toInt = r6.toInt) := i32_neq c7
          refine lv_iconst (v := 0) hx hb dX4_isWord_35 (by decide) ?_
          have hP9 := hP.sub (ws' := [(h0, .inr (4, [.ref tp, .int ct, .ref s2, .ref s3, .ref s4, .int nx])), (s2, .inl (cI, 12, .inl fk)), (s3, .inl (cI, 12, .inl fp)), (s4, .inl (cI, 12, .inl fv)), (tp, .inr (5, [.ref yb, .int n])), (yb, .inl (cI, 1000, .inl fy))]) [0, 1, 2, 3, 4, 5] rfl
          have hD9 := hD.sub (ws' := [(h0, .inr (4, [.ref tp, .int ct, .ref s2, .ref s3, .ref s4, .int nx])), (s2, .inl (cI, 12, .inl fk)), (s3, .inl (cI, 12, .inl fp)), (s4, .inl (cI, 12, .inl fv)), (tp, .inr (5, [.ref yb, .int n])), (yb, .inl (cI, 1000, .inl fy))]) [0, 1, 2, 3, 4, 5] (by decide) rfl
          refine W.widen (k := 0) (n := 0) (by decide) (by decide) ?_
          exact W.zret (v := 0) hx hb hr (by decide) (fun t ht hW => ⟨⟨0, (), rfl, (show 0 ≤ 0 by first | assumption | omega | trivial | decide), by rw [ht]; exact hP9, hD9⟩, hS.F ht⟩) hS.2.2 dX4_isWord_36
