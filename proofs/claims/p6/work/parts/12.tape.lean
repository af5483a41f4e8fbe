def wk_k_hasRoomFor : List Cond := .code yX5_hasRoomFor cX5_hasRoomFor 2 (some .boolean) :: ([.fieldLink RX5 15 "FlightDesk$Tape" "length" "I"] ++ wsX50)
theorem iw_k_hasRoomFor_5 : ∀ w ∈ wsX50, w ∈ wk_k_hasRoomFor := fun _ h => List.mem_cons_of_mem _ (List.mem_append_right _ h)
set_option maxHeartbeats 4000000 in
set_option maxRecDepth 100000 in
theorem k_hasRoomFor (l : Launch) (D : va_G) (cI cB cP : ClassId) (sz : Nat) (h0 : Nat) (yb : Nat) (n : Int32) (k : Int32) (hn9 : 0 ≤ n.toInt ∧ n.toInt ≤ 1000) (hk9 : 0 ≤ k.toInt ∧ k.toInt ≤ 1000) : Met l yX5_hasRoomFor wk_k_hasRoomFor ({ frames := 0, cells := 0, slots := 0, locals := 0 } : Room) (va_Pc [.ref h0, .int k] (Pw D cI cB cP sz [(h0, .inr (5, [.ref yb, .int n]))])) (va_Qi (fun (r : Int32) (_ : Unit) => ny_bool r (n.toInt + k.toInt ≤ 1000)) (fun _ t => va_P D vwCl [(h0, .inr (5, [.ref yb, .int n]))] t.heap ∧ va_D (va_A [(h0, .inr (5, [.ref yb, .int n]))] sz) [(h0, .inr (5, [.ref yb, .int n]))]) (va_A [(h0, .inr (5, [.ref yb, .int n]))] sz)) 0 0 (va_A [(h0, .inr (5, [.ref yb, .int n]))] sz) := by
  refine Met.ofW (cc := cX5_hasRoomFor) (maxL := 2) (ret := (some .boolean)) (by decide) rfl ?_
  intro p e s m args below meth c s₁ B hml hv
  obtain ⟨rfl, hsz, hP, ⟨hK, hN⟩, hD0⟩ := hv
  have hx := B.exec
  have hb := B.bytes
  have hr := B.returns
  have hts := atoms_spec (ws := wk_k_hasRoomFor) B.pre
  have hown : s.vm.findClass RX5 = some m.cls := findClass_of_methodNamed B.named
  have hlocks := B.notSynchronized
  subst hsz
  have hD := hD0.self (sz := s.heap.size)
  generalize hAe : va_A [(h0, .inr (5, [.ref yb, .int n]))] s.heap.size = A at hD ⊢
  have hA : ∀ q : Nat, s.heap.size ≤ q → A q := fun q h => by rw [← hAe]; exact Or.inr h
  have hS : va_S A s.heap s.heap [] := va_S.rf
  have hP : va_P D vwCl [(h0, .inr (5, [.ref yb, .int n]))] s.heap := hP
  have hl := lv_entry ([.ref h0, .int k]) (n := 2) (Nat.le_of_ble_eq_true rfl)
  rw [lg_entry_eq]
  generalize (lg_sl ([.ref h0, .int k]) ++ List.replicate (2 - (lg_sl ([.ref h0, .int k])).length) Slot.unset).toArray = ls at hl ⊢
  have hl : lv_has ls 2 [(0, .ref h0), (1, .int k)] := hl
  refine lv_aload_n hx hb dX5_hasRoomFor_0 rfl (lv_at hl 0 rfl) ?_
  refine va_get (D := D) (ci := 5) (v := .int n) (C := RX5) (T := TX5) (N := 2) hx hb hts iw_k_hasRoomFor_5 hown hK hP 0 rfl rfl 1 (by decide) (hts (.fieldLink RX5 15 "FlightDesk$Tape" "length" "I") (by decide +kernel)) (fun _ h9 => h9) rfl dX5_hasRoomFor_1 ?_
  refine lv_iload_n hx hb dX5_hasRoomFor_4 rfl (lv_at hl 1 rfl) ?_
  refine lv_iadd hx hb dX5_hasRoomFor_5 ?_
  refine lv_topi (fun v1 ev1 => ?_)
  have tv1 : v1.toInt = (n.toInt + k.toInt + 2147483648) % 4294967296 - 2147483648 := i32_add ev1
  refine lv_sipush (v := 1000) hx hb dX5_hasRoomFor_6 (by decide) ?_
  refine lv_icmp_gt (tgt := 16) hx hb dX5_hasRoomFor_9 (by decide) (fun c2 => ?_) (fun c2 => ?_)
  · have tc2 : 1000 < v1.toInt := i32_lt c2
    refine lv_iconst (v := 0) hx hb dX5_hasRoomFor_16 (by decide) ?_
    have hP9 := hP.sub (ws' := [(h0, .inr (5, [.ref yb, .int n]))]) [0] rfl
    have hD9 := hD.sub (ws' := [(h0, .inr (5, [.ref yb, .int n]))]) [0] (by decide) rfl
    refine W.widen (k := 0) (n := 0) (by decide) (by decide) ?_
    exact W.zret (v := 0) hx hb hr (by decide) (fun t ht hW => ⟨⟨0, (), rfl, (Or.inr ⟨rfl, show ¬ (n.toInt + k.toInt ≤ 1000) by omega⟩), by rw [ht]; exact hP9, hD9⟩, hS.F ht⟩) hS.2.2 dX5_hasRoomFor_17
  · have tc2 : ¬ (1000 < v1.toInt) := i32_nlt c2
    refine lv_iconst (v := 1) hx hb dX5_hasRoomFor_12 (by decide) ?_
    refine lv_goto (tgt := 17) hx hb dX5_hasRoomFor_13 (by decide) ?_
    have hP9 := hP.sub (ws' := [(h0, .inr (5, [.ref yb, .int n]))]) [0] rfl
    have hD9 := hD.sub (ws' := [(h0, .inr (5, [.ref yb, .int n]))]) [0] (by decide) rfl
    refine W.widen (k := 0) (n := 0) (by decide) (by decide) ?_
    exact W.zret (v := 1) hx hb hr (by decide) (fun t ht hW => ⟨⟨1, (), rfl, (Or.inl ⟨rfl, show (n.toInt + k.toInt ≤ 1000) by omega⟩), by rw [ht]; exact hP9, hD9⟩, hS.F ht⟩) hS.2.2 dX5_hasRoomFor_17

def wk_k_put : List Cond := .code yX5_put cX5_put 3 none :: ([.methodLink RX5 19 yX5_hasRoomFor, .instanceMethod yX5_hasRoomFor, .selects RX5 yX5_hasRoomFor yX5_hasRoomFor, .initialized RX5, .code yX5_hasRoomFor cX5_hasRoomFor 2 (some .boolean), .fieldLink RX5 15 "FlightDesk$Tape" "length" "I", .fieldLink RX5 9 "FlightDesk$Tape" "bytes" "[I"] ++ wsX50)
theorem iw_k_put_5 : ∀ w ∈ wsX50, w ∈ wk_k_put := fun _ h => List.mem_cons_of_mem _ (List.mem_append_right _ h)
set_option maxRecDepth 20000 in
theorem gw_k_put_0 : GoodIn wk_k_put (wsV RX5 19 RX5 yX5_hasRoomFor wk_k_hasRoomFor) := goodIn_sub (by decide +kernel) (by decide +kernel)
set_option maxHeartbeats 4000000 in
set_option maxRecDepth 100000 in
theorem k_put (l : Launch) (D : va_G) (cI cB cP : ClassId) (sz : Nat) (h0 : Nat) (yb : Nat) (n : Int32) (x : Int32) (f : Nat → Int32) (hn9 : 0 ≤ n.toInt ∧ n.toInt ≤ 1000) : Met l yX5_put wk_k_put ({ frames := 1, cells := 0, slots := 0, locals := 21 } : Room) (va_Pc [.ref h0, .int x] (Pw D cI cB cP sz [(h0, .inr (5, [.ref yb, .int n])), (yb, .inl (cI, 1000, .inl f))])) (va_Qv (fun (_ : Unit) => True) (fun _ t => ∃ n9 : Int32, ∃ g : Nat → Int32, (0 ≤ n9.toInt ∧ n9.toInt ≤ 1000) ∧ va_P D vwCl [(h0, .inr (5, [.ref yb, .int n9])), (yb, .inl (cI, 1000, .inl g))] t.heap ∧ va_D (va_A [(h0, .inr (5, [.ref yb, .int n])), (yb, .inl (cI, 1000, .inl f))] sz) [(h0, .inr (5, [.ref yb, .int n9])), (yb, .inl (cI, 1000, .inl g))]) (va_A [(h0, .inr (5, [.ref yb, .int n])), (yb, .inl (cI, 1000, .inl f))] sz)) 0 0 (va_A [(h0, .inr (5, [.ref yb, .int n])), (yb, .inl (cI, 1000, .inl f))] sz) := by
  refine Met.ofW (cc := cX5_put) (maxL := 3) (ret := none) (by decide) rfl ?_
  intro p e s m args below meth c s₁ B hml hv
  obtain ⟨rfl, hsz, hP, ⟨hK, hN⟩, hD0⟩ := hv
  have hx := B.exec
  have hb := B.bytes
  have hr := B.returns
  have hts := atoms_spec (ws := wk_k_put) B.pre
  have hown : s.vm.findClass RX5 = some m.cls := findClass_of_methodNamed B.named
  have hlocks := B.notSynchronized
  subst hsz
  have hD := hD0.self (sz := s.heap.size)
  generalize hAe : va_A [(h0, .inr (5, [.ref yb, .int n])), (yb, .inl (cI, 1000, .inl f))] s.heap.size = A at hD ⊢
  have hA : ∀ q : Nat, s.heap.size ≤ q → A q := fun q h => by rw [← hAe]; exact Or.inr h
  have hS : va_S A s.heap s.heap [] := va_S.rf
  have hP : va_P D vwCl [(h0, .inr (5, [.ref yb, .int n])), (yb, .inl (cI, 1000, .inl f))] s.heap := hP
  have hl := lv_entry ([.ref h0, .int x]) (n := 3) (Nat.le_of_ble_eq_true rfl)
  rw [lg_entry_eq]
  generalize (lg_sl ([.ref h0, .int x]) ++ List.replicate (3 - (lg_sl ([.ref h0, .int x])).length) Slot.unset).toArray = ls at hl ⊢
  have hl : lv_has ls 3 [(0, .ref h0), (1, .int x)] := hl
  refine lv_aload_n hx hb dX5_put_0 rfl (lv_at hl 0 rfl) ?_
  refine lv_iconst (v := 4) hx hb dX5_put_1 (by decide) ?_
  have hPc := hP.sub (ws' := [(h0, .inr (5, [.ref yb, .int n]))]) [0] rfl
  have hDc := hD.sub (ws' := [(h0, .inr (5, [.ref yb, .int n]))]) [0] (by decide) rfl
  have hFc := va_free (wc := [(h0, .inr (5, [.ref yb, .int n]))]) hD hS hA [0] rfl
  refine va_calli (va_runV (As := [.int 4]) (rest := []) ⟨hx, hb, hml, hown, hts⟩ (k_hasRoomFor l D cI cB cP s.heap.size h0 yb n 4 (show 0 ≤ n.toInt ∧ n.toInt ≤ 1000 by first | assumption | omega | decide) (show 0 ≤ 4 ∧ 4 ≤ 1000 by first | assumption | omega | decide)) (cwV 1 hts gw_k_put_0 rfl rfl rfl (by decide +kernel) ⟨Nat.le_of_ble_eq_true rfl, Nat.le_of_ble_eq_true rfl⟩) ⟨ny_blind, va_recv hK hPc (ci := 5) (q0 := 0) rfl rfl, ny_pre hPc hK hN hDc⟩ rfl rfl hl.1 rfl (lv_room (Nat.le_of_ble_eq_true rfl)) dX5_put_2 ⟨Nat.le_of_ble_eq_true rfl, Nat.le_of_ble_eq_true rfl⟩) hS (fun q _ h => hFc q h) hFc (fun r1 u t H locs ht hvm hw hB hz1 hk1 hS => ?_)
  obtain ⟨hP1, hD1⟩ := hB
  rw [ht] at hP1
  obtain ⟨hP, hD⟩ := va_join (wr := [(yb, .inl (cI, 1000, .inl f))]) (w1 := [(h0, .inr (5, [.ref yb, .int n]))]) hP hD [0] [1] rfl rfl (by decide) (by decide) hk1 hFc hP1 hD1
  have hP : va_P D vwCl [(yb, .inl (cI, 1000, .inl f)), (h0, .inr (5, [.ref yb, .int n]))] H := hP
  have hD : va_D A [(yb, .inl (cI, 1000, .inl f)), (h0, .inr (5, [.ref yb, .int n]))] := hD
  rcases hw with ⟨rfl, h2⟩ | ⟨rfl, h2⟩
  · have h2 : (n.toInt + 4 ≤ 1000) := h2
    refine lv_if_ne (tgt := 9) hx hb dX5_put_5 (by decide) (fun c3 => ?_) (fun h9 => (by first | exact absurd h9 (by decide) | exact absurd (by decide) h9))
    refine lv_bipush (v := 24) hx hb dX5_put_9 (by decide) ?_
    refine lv_istore_n (lv' := [(2, .int 24), (0, .ref h0), (1, .int x)]) hx hb dX5_put_11 rfl hl (by decide) rfl (fun ls hl => ?_)
    refine lv_iload_n hx hb dX5_put_12 rfl (lv_at hl 0 rfl) ?_
    refine lv_if_lt (tgt := 48) hx hb dX5_put_13 (by decide) (fun h9 => (by first | exact absurd h9 (by decide) | exact absurd (by decide) h9)) (fun c4 => ?_)
    refine lv_aload_n hx hb dX5_put_16 rfl (lv_at hl 1 rfl) ?_
    refine va_get (D := D) (ci := 5) (v := .ref yb) (C := RX5) (T := TX5) (N := 2) hx hb hts iw_k_put_5 hown hK hP 1 rfl rfl 0 (by decide) (hts (.fieldLink RX5 9 "FlightDesk$Tape" "bytes" "[I") (by decide +kernel)) (fun _ h9 => h9) rfl dX5_put_17 ?_
    refine lv_aload_n hx hb dX5_put_20 rfl (lv_at hl 1 rfl) ?_
    refine va_get (D := D) (ci := 5) (v := .int n) (C := RX5) (T := TX5) (N := 2) hx hb hts iw_k_put_5 hown hK hP 1 rfl rfl 1 (by decide) (hts (.fieldLink RX5 15 "FlightDesk$Tape" "length" "I") (by decide +kernel)) (fun _ h9 => h9) rfl dX5_put_21 ?_
    refine lv_iload_n hx hb dX5_put_24 rfl (lv_at hl 2 rfl) ?_
    refine lv_iload_n hx hb dX5_put_25 rfl (lv_at hl 0 rfl) ?_
    refine lv_iushr hx hb dX5_put_26 rfl ?_
    refine lv_topi (fun v5 ev5 => ?_)
    refine lv_sipush (v := 255) hx hb dX5_put_27 (by decide) ?_
    refine lv_iand hx hb dX5_put_30 ?_
    refine lv_topi (fun v6 ev6 => ?_)
    refine va_iast hx hb hK hP hD hS 0 0 rfl rfl (vp_in_iff.mpr ⟨show 0 ≤ n.toInt by omega, show n.toInt < ((1000 : Nat) : Int) by omega⟩) dX5_put_31 (fun H locs hP hD hS => ?_)
    have hP : va_P D vwCl [(yb, .inl (cI, 1000, .inl (upd f n.toNatClampNeg v6))), (h0, .inr (5, [.ref yb, .int n]))] H := hP
    have hD : va_D A [(yb, .inl (cI, 1000, .inl (upd f n.toNatClampNeg v6))), (h0, .inr (5, [.ref yb, .int n]))] := hD
    obtain ⟨f7, ef7⟩ : ∃ z : Nat → Int32, z = (upd f n.toNatClampNeg v6) := ⟨_, rfl⟩
    rw [← ef7] at hP hD
    refine lv_aload_n hx hb dX5_put_32 rfl (lv_at hl 1 rfl) ?_
    refine lv_dup hx hb dX5_put_33 rfl ?_
    refine va_get (D := D) (ci := 5) (v := .int n) (C := RX5) (T := TX5) (N := 2) hx hb hts iw_k_put_5 hown hK hP 1 rfl rfl 1 (by decide) (hts (.fieldLink RX5 15 "FlightDesk$Tape" "length" "I") (by decide +kernel)) (fun _ h9 => h9) rfl dX5_put_34 ?_
    refine lv_iconst (v := 1) hx hb dX5_put_37 (by decide) ?_
    refine lv_iadd hx hb dX5_put_38 ?_
    refine lv_topi (fun v8 ev8 => ?_)
    have tv8 : v8.toInt = (n.toInt + 1 + 2147483648) % 4294967296 - 2147483648 := i32_add ev8
    refine va_put (D := D) (ci := 5) (v := .int v8) (ty := .int) (C := RX5) (T := TX5) (N := 2) hx hb hts iw_k_put_5 tyX5 tyX5_ok nmX5 hown hK hP hD hS 1 rfl rfl 1 (by decide) (hts (.fieldLink RX5 15 "FlightDesk$Tape" "length" "I") (by decide +kernel)) (fun _ h9 => h9) rfl (by decide +kernel) rfl rfl (Nat.le_of_ble_eq_true rfl) dX5_put_39 (fun H locs hP hD hS => ?_)
    have hP : va_P D vwCl [(yb, .inl (cI, 1000, .inl f7)), (h0, .inr (5, [.ref yb, .int v8]))] H := hP
    have hD : va_D A [(yb, .inl (cI, 1000, .inl f7)), (h0, .inr (5, [.ref yb, .int v8]))] := hD
    refine lv_iinc (v := 16) (lv' := [(2, .int 16), (0, .ref h0), (1, .int x)]) hx hb dX5_put_42 hl (k := 0) rfl (by decide) (by decide) rfl (fun ls hl => ?_)
    refine lv_goto (tgt := 12) hx hb dX5_put_45 (by decide) ?_
    refine lv_iload_n hx hb dX5_put_12 rfl (lv_at hl 0 rfl) ?_
    refine lv_if_lt (tgt := 48) hx hb dX5_put_13 (by decide) (fun h9 => (by first | exact absurd h9 (by decide) | exact absurd (by decide) h9)) (fun c9 => ?_)
    refine lv_aload_n hx hb dX5_put_16 rfl (lv_at hl 1 rfl) ?_
    refine va_get (D := D) (ci := 5) (v := .ref yb) (C := RX5) (T := TX5) (N := 2) hx hb hts iw_k_put_5 hown hK hP 1 rfl rfl 0 (by decide) (hts (.fieldLink RX5 9 "FlightDesk$Tape" "bytes" "[I") (by decide +kernel)) (fun _ h9 => h9) rfl dX5_put_17 ?_
    refine lv_aload_n hx hb dX5_put_20 rfl (lv_at hl 1 rfl) ?_
    refine va_get (D := D) (ci := 5) (v := .int v8) (C := RX5) (T := TX5) (N := 2) hx hb hts iw_k_put_5 hown hK hP 1 rfl rfl 1 (by decide) (hts (.fieldLink RX5 15 "FlightDesk$Tape" "length" "I") (by decide +kernel)) (fun _ h9 => h9) rfl dX5_put_21 ?_
    refine lv_iload_n hx hb dX5_put_24 rfl (lv_at hl 2 rfl) ?_
    refine lv_iload_n hx hb dX5_put_25 rfl (lv_at hl 0 rfl) ?_
    refine lv_iushr hx hb dX5_put_26 rfl ?_
    refine lv_topi (fun v10 ev10 => ?_)
    refine lv_sipush (v := 255) hx hb dX5_put_27 (by decide) ?_
    refine lv_iand hx hb dX5_put_30 ?_
    refine lv_topi (fun v11 ev11 => ?_)
    refine va_iast hx hb hK hP hD hS 0 0 rfl rfl (vp_in_iff.mpr ⟨show 0 ≤ v8.toInt by omega, show v8.toInt < ((1000 : Nat) : Int) by omega⟩) dX5_put_31 (fun H locs hP hD hS => ?_)
    have hP : va_P D vwCl [(yb, .inl (cI, 1000, .inl (upd f7 v8.toNatClampNeg v11))), (h0, .inr (5, [.ref yb, .int v8]))] H := hP
    have hD : va_D A [(yb, .inl (cI, 1000, .inl (upd f7 v8.toNatClampNeg v11))), (h0, .inr (5, [.ref yb, .int v8]))] := hD
    obtain ⟨f12, ef12⟩ : ∃ z : Nat → Int32, z = (upd f7 v8.toNatClampNeg v11) := ⟨_, rfl⟩
    rw [← ef12] at hP hD
    refine lv_aload_n hx hb dX5_put_32 rfl (lv_at hl 1 rfl) ?_
    refine lv_dup hx hb dX5_put_33 rfl ?_
    refine va_get (D := D) (ci := 5) (v := .int v8) (C := RX5) (T := TX5) (N := 2) hx hb hts iw_k_put_5 hown hK hP 1 rfl rfl 1 (by decide) (hts (.fieldLink RX5 15 "FlightDesk$Tape" "length" "I") (by decide +kernel)) (fun _ h9 => h9) rfl dX5_put_34 ?_
    refine lv_iconst (v := 1) hx hb dX5_put_37 (by decide) ?_
    refine lv_iadd hx hb dX5_put_38 ?_
    refine lv_topi (fun v13 ev13 => ?_)
    have tv13 : v13.toInt = (v8.toInt + 1 + 2147483648) % 4294967296 - 2147483648 := i32_add ev13
    refine va_put (D := D) (ci := 5) (v := .int v13) (ty := .int) (C := RX5) (T := TX5) (N := 2) hx hb hts iw_k_put_5 tyX5 tyX5_ok nmX5 hown hK hP hD hS 1 rfl rfl 1 (by decide) (hts (.fieldLink RX5 15 "FlightDesk$Tape" "length" "I") (by decide +kernel)) (fun _ h9 => h9) rfl (by decide +kernel) rfl rfl (Nat.le_of_ble_eq_true rfl) dX5_put_39 (fun H locs hP hD hS => ?_)
    have hP : va_P D vwCl [(yb, .inl (cI, 1000, .inl f12)), (h0, .inr (5, [.ref yb, .int v13]))] H := hP
    have hD : va_D A [(yb, .inl (cI, 1000, .inl f12)), (h0, .inr (5, [.ref yb, .int v13]))] := hD
    refine lv_iinc (v := 8) (lv' := [(2, .int 8), (0, .ref h0), (1, .int x)]) hx hb dX5_put_42 hl (k := 0) rfl (by decide) (by decide) rfl (fun ls hl => ?_)
    refine lv_goto (tgt := 12) hx hb dX5_put_45 (by decide) ?_
    refine lv_iload_n hx hb dX5_put_12 rfl (lv_at hl 0 rfl) ?_
    refine lv_if_lt (tgt := 48) hx hb dX5_put_13 (by decide) (fun h9 => (by first | exact absurd h9 (by decide) | exact absurd (by decide) h9)) (fun c14 => ?_)
    refine lv_aload_n hx hb dX5_put_16 rfl (lv_at hl 1 rfl) ?_
    refine va_get (D := D) (ci := 5) (v := .ref yb) (C := RX5) (T := TX5) (N := 2) hx hb hts iw_k_put_5 hown hK hP 1 rfl rfl 0 (by decide) (hts (.fieldLink RX5 9 "FlightDesk$Tape" "bytes" "[I") (by decide +kernel)) (fun _ h9 => h9) rfl dX5_put_17 ?_
    refine lv_aload_n hx hb dX5_put_20 rfl (lv_at hl 1 rfl) ?_
    refine va_get (D := D) (ci := 5) (v := .int v13) (C := RX5) (T := TX5) (N := 2) hx hb hts iw_k_put_5 hown hK hP 1 rfl rfl 1 (by decide) (hts (.fieldLink RX5 15 "FlightDesk$Tape" "length" "I") (by decide +kernel)) (fun _ h9 => h9) rfl dX5_put_21 ?_
    refine lv_iload_n hx hb dX5_put_24 rfl (lv_at hl 2 rfl) ?_
    refine lv_iload_n hx hb dX5_put_25 rfl (lv_at hl 0 rfl) ?_
    refine lv_iushr hx hb dX5_put_26 rfl ?_
    refine lv_topi (fun v15 ev15 => ?_)
    refine lv_sipush (v := 255) hx hb dX5_put_27 (by decide) ?_
    refine lv_iand hx hb dX5_put_30 ?_
    refine lv_topi (fun v16 ev16 => ?_)
    refine va_iast hx hb hK hP hD hS 0 0 rfl rfl (vp_in_iff.mpr ⟨show 0 ≤ v13.toInt by omega, show v13.toInt < ((1000 : Nat) : Int) by omega⟩) dX5_put_31 (fun H locs hP hD hS => ?_)
    have hP : va_P D vwCl [(yb, .inl (cI, 1000, .inl (upd f12 v13.toNatClampNeg v16))), (h0, .inr (5, [.ref yb, .int v13]))] H := hP
    have hD : va_D A [(yb, .inl (cI, 1000, .inl (upd f12 v13.toNatClampNeg v16))), (h0, .inr (5, [.ref yb, .int v13]))] := hD
    obtain ⟨f17, ef17⟩ : ∃ z : Nat → Int32, z = (upd f12 v13.toNatClampNeg v16) := ⟨_, rfl⟩
    rw [← ef17] at hP hD
    refine lv_aload_n hx hb dX5_put_32 rfl (lv_at hl 1 rfl) ?_
    refine lv_dup hx hb dX5_put_33 rfl ?_
    refine va_get (D := D) (ci := 5) (v := .int v13) (C := RX5) (T := TX5) (N := 2) hx hb hts iw_k_put_5 hown hK hP 1 rfl rfl 1 (by decide) (hts (.fieldLink RX5 15 "FlightDesk$Tape" "length" "I") (by decide +kernel)) (fun _ h9 => h9) rfl dX5_put_34 ?_
    refine lv_iconst (v := 1) hx hb dX5_put_37 (by decide) ?_
    refine lv_iadd hx hb dX5_put_38 ?_
    refine lv_topi (fun v18 ev18 => ?_)
    have tv18 : v18.toInt = (v13.toInt + 1 + 2147483648) % 4294967296 - 2147483648 := i32_add ev18
    refine va_put (D := D) (ci := 5) (v := .int v18) (ty := .int) (C := RX5) (T := TX5) (N := 2) hx hb hts iw_k_put_5 tyX5 tyX5_ok nmX5 hown hK hP hD hS 1 rfl rfl 1 (by decide) (hts (.fieldLink RX5 15 "FlightDesk$Tape" "length" "I") (by decide +kernel)) (fun _ h9 => h9) rfl (by decide +kernel) rfl rfl (Nat.le_of_ble_eq_true rfl) dX5_put_39 (fun H locs hP hD hS => ?_)
    have hP : va_P D vwCl [(yb, .inl (cI, 1000, .inl f17)), (h0, .inr (5, [.ref yb, .int v18]))] H := hP
    have hD : va_D A [(yb, .inl (cI, 1000, .inl f17)), (h0, .inr (5, [.ref yb, .int v18]))] := hD
    refine lv_iinc (v := 0) (lv' := [(2, .int 0), (0, .ref h0), (1, .int x)]) hx hb dX5_put_42 hl (k := 0) rfl (by decide) (by decide) rfl (fun ls hl => ?_)
    refine lv_goto (tgt := 12) hx hb dX5_put_45 (by decide) ?_
    refine lv_iload_n hx hb dX5_put_12 rfl (lv_at hl 0 rfl) ?_
    refine lv_if_lt (tgt := 48) hx hb dX5_put_13 (by decide) (fun h9 => (by first | exact absurd h9 (by decide) | exact absurd (by decide) h9)) (fun c19 => ?_)
    refine lv_aload_n hx hb dX5_put_16 rfl (lv_at hl 1 rfl) ?_
    refine va_get (D := D) (ci := 5) (v := .ref yb) (C := RX5) (T := TX5) (N := 2) hx hb hts iw_k_put_5 hown hK hP 1 rfl rfl 0 (by decide) (hts (.fieldLink RX5 9 "FlightDesk$Tape" "bytes" "[I") (by decide +kernel)) (fun _ h9 => h9) rfl dX5_put_17 ?_
    refine lv_aload_n hx hb dX5_put_20 rfl (lv_at hl 1 rfl) ?_
    refine va_get (D := D) (ci := 5) (v := .int v18) (C := RX5) (T := TX5) (N := 2) hx hb hts iw_k_put_5 hown hK hP 1 rfl rfl 1 (by decide) (hts (.fieldLink RX5 15 "FlightDesk$Tape" "length" "I") (by decide +kernel)) (fun _ h9 => h9) rfl dX5_put_21 ?_
    refine lv_iload_n hx hb dX5_put_24 rfl (lv_at hl 2 rfl) ?_
    refine lv_iload_n hx hb dX5_put_25 rfl (lv_at hl 0 rfl) ?_
    refine lv_iushr hx hb dX5_put_26 rfl ?_
    refine lv_topi (fun v20 ev20 => ?_)
    refine lv_sipush (v := 255) hx hb dX5_put_27 (by decide) ?_
    refine lv_iand hx hb dX5_put_30 ?_
    refine lv_topi (fun v21 ev21 => ?_)
    refine va_iast hx hb hK hP hD hS 0 0 rfl rfl (vp_in_iff.mpr ⟨show 0 ≤ v18.toInt by omega, show v18.toInt < ((1000 : Nat) : Int) by omega⟩) dX5_put_31 (fun H locs hP hD hS => ?_)
    have hP : va_P D vwCl [(yb, .inl (cI, 1000, .inl (upd f17 v18.toNatClampNeg v21))), (h0, .inr (5, [.ref yb, .int v18]))] H := hP
    have hD : va_D A [(yb, .inl (cI, 1000, .inl (upd f17 v18.toNatClampNeg v21))), (h0, .inr (5, [.ref yb, .int v18]))] := hD
    obtain ⟨f22, ef22⟩ : ∃ z : Nat → Int32, z = (upd f17 v18.toNatClampNeg v21) := ⟨_, rfl⟩
    rw [← ef22] at hP hD
    refine lv_aload_n hx hb dX5_put_32 rfl (lv_at hl 1 rfl) ?_
    refine lv_dup hx hb dX5_put_33 rfl ?_
    refine va_get (D := D) (ci := 5) (v := .int v18) (C := RX5) (T := TX5) (N := 2) hx hb hts iw_k_put_5 hown hK hP 1 rfl rfl 1 (by decide) (hts (.fieldLink RX5 15 "FlightDesk$Tape" "length" "I") (by decide +kernel)) (fun _ h9 => h9) rfl dX5_put_34 ?_
    refine lv_iconst (v := 1) hx hb dX5_put_37 (by decide) ?_
    refine lv_iadd hx hb dX5_put_38 ?_
    refine lv_topi (fun v23 ev23 => ?_)
    have tv23 : v23.toInt = (v18.toInt + 1 + 2147483648) % 4294967296 - 2147483648 := i32_add ev23
    refine va_put (D := D) (ci := 5) (v := .int v23) (ty := .int) (C := RX5) (T := TX5) (N := 2) hx hb hts iw_k_put_5 tyX5 tyX5_ok nmX5 hown hK hP hD hS 1 rfl rfl 1 (by decide) (hts (.fieldLink RX5 15 "FlightDesk$Tape" "length" "I") (by decide +kernel)) (fun _ h9 => h9) rfl (by decide +kernel) rfl rfl (Nat.le_of_ble_eq_true rfl) dX5_put_39 (fun H locs hP hD hS => ?_)
    have hP : va_P D vwCl [(yb, .inl (cI, 1000, .inl f22)), (h0, .inr (5, [.ref yb, .int v23]))] H := hP
    have hD : va_D A [(yb, .inl (cI, 1000, .inl f22)), (h0, .inr (5, [.ref yb, .int v23]))] := hD
    refine lv_iinc (v := (-8)) (lv' := [(2, .int (-8)), (0, .ref h0), (1, .int x)]) hx hb dX5_put_42 hl (k := 0) rfl (by decide) (by decide) rfl (fun ls hl => ?_)
    refine lv_goto (tgt := 12) hx hb dX5_put_45 (by decide) ?_
    refine lv_iload_n hx hb dX5_put_12 rfl (lv_at hl 0 rfl) ?_
    refine lv_if_lt (tgt := 48) hx hb dX5_put_13 (by decide) (fun c24 => ?_) (fun h9 => (by first | exact absurd h9 (by decide) | exact absurd (by decide) h9))
    have hP9 := hP.sub (ws' := [(h0, .inr (5, [.ref yb, .int v23])), (yb, .inl (cI, 1000, .inl f22))]) [1, 0] rfl
    have hD9 := hD.sub (ws' := [(h0, .inr (5, [.ref yb, .int v23])), (yb, .inl (cI, 1000, .inl f22))]) [1, 0] (by decide) rfl
    refine W.widen (k := 0) (n := 0) (by decide) (by decide) ?_
    exact W.vret hx hb hr (fun t ht hW => ⟨⟨(), rfl, trivial, v23, f22, (show 0 ≤ v23.toInt ∧ v23.toInt ≤ 1000 by first | assumption | omega | decide), by rw [ht]; exact hP9, hD9⟩, hS.F ht⟩) hS.2.2 dX5_put_48
  · have h2 : ¬ (n.toInt + 4 ≤ 1000) := h2
    refine lv_if_ne (tgt := 9) hx hb dX5_put_5 (by decide) (fun h9 => (by first | exact absurd h9 (by decide) | exact absurd (by decide) h9)) (fun c25 => ?_)
    have hP9 := hP.sub (ws' := [(h0, .inr (5, [.ref yb, .int n])), (yb, .inl (cI, 1000, .inl f))]) [1, 0] rfl
    have hD9 := hD.sub (ws' := [(h0, .inr (5, [.ref yb, .int n])), (yb, .inl (cI, 1000, .inl f))]) [1, 0] (by decide) rfl
    refine W.widen (k := 0) (n := 0) (by decide) (by decide) ?_
    exact W.vret hx hb hr (fun t ht hW => ⟨⟨(), rfl, trivial, n, f, (show 0 ≤ n.toInt ∧ n.toInt ≤ 1000 by first | assumption | omega | decide), by rw [ht]; exact hP9, hD9⟩, hS.F ht⟩) hS.2.2 dX5_put_8

def wk_k_byteAt : List Cond := .code yX5_byteAt cX5_byteAt 2 (some .int) :: ([.fieldLink RX5 15 "FlightDesk$Tape" "length" "I", .fieldLink RX5 9 "FlightDesk$Tape" "bytes" "[I"] ++ wsX50)
theorem iw_k_byteAt_5 : ∀ w ∈ wsX50, w ∈ wk_k_byteAt := fun _ h => List.mem_cons_of_mem _ (List.mem_append_right _ h)
set_option maxHeartbeats 4000000 in
set_option maxRecDepth 100000 in
theorem k_byteAt (l : Launch) (D : va_G) (cI cB cP : ClassId) (sz : Nat) (h0 : Nat) (yb : Nat) (n : Int32) (x : Int32) (f : Nat → Int32) (hn9 : 0 ≤ n.toInt ∧ n.toInt ≤ 1000) : Met l yX5_byteAt wk_k_byteAt ({ frames := 0, cells := 0, slots := 0, locals := 0 } : Room) (va_Pc [.ref h0, .int x] (Pw D cI cB cP sz [(h0, .inr (5, [.ref yb, .int n])), (yb, .inl (cI, 1000, .inl f))])) (va_Qi (fun (r : Int32) (_ : Unit) => ¬ r.toInt = (-1) → 0 ≤ x.toInt ∧ x.toInt < n.toInt) (fun _ t => va_P D vwCl [(h0, .inr (5, [.ref yb, .int n])), (yb, .inl (cI, 1000, .inl f))] t.heap ∧ va_D (va_A [(h0, .inr (5, [.ref yb, .int n])), (yb, .inl (cI, 1000, .inl f))] sz) [(h0, .inr (5, [.ref yb, .int n])), (yb, .inl (cI, 1000, .inl f))]) (va_A [(h0, .inr (5, [.ref yb, .int n])), (yb, .inl (cI, 1000, .inl f))] sz)) 0 0 (va_A [(h0, .inr (5, [.ref yb, .int n])), (yb, .inl (cI, 1000, .inl f))] sz) := by
  refine Met.ofW (cc := cX5_byteAt) (maxL := 2) (ret := (some .int)) (by decide) rfl ?_
  intro p e s m args below meth c s₁ B hml hv
  obtain ⟨rfl, hsz, hP, ⟨hK, hN⟩, hD0⟩ := hv
  have hx := B.exec
  have hb := B.bytes
  have hr := B.returns
  have hts := atoms_spec (ws := wk_k_byteAt) B.pre
  have hown : s.vm.findClass RX5 = some m.cls := findClass_of_methodNamed B.named
  have hlocks := B.notSynchronized
  subst hsz
  have hD := hD0.self (sz := s.heap.size)
  generalize hAe : va_A [(h0, .inr (5, [.ref yb, .int n])), (yb, .inl (cI, 1000, .inl f))] s.heap.size = A at hD ⊢
  have hA : ∀ q : Nat, s.heap.size ≤ q → A q := fun q h => by rw [← hAe]; exact Or.inr h
  have hS : va_S A s.heap s.heap [] := va_S.rf
  have hP : va_P D vwCl [(h0, .inr (5, [.ref yb, .int n])), (yb, .inl (cI, 1000, .inl f))] s.heap := hP
  have hl := lv_entry ([.ref h0, .int x]) (n := 2) (Nat.le_of_ble_eq_true rfl)
  rw [lg_entry_eq]
  generalize (lg_sl ([.ref h0, .int x]) ++ List.replicate (2 - (lg_sl ([.ref h0, .int x])).length) Slot.unset).toArray = ls at hl ⊢
  have hl : lv_has ls 2 [(0, .ref h0), (1, .int x)] := hl
  refine lv_iload_n hx hb dX5_byteAt_0 rfl (lv_at hl 1 rfl) ?_
  refine lv_if_lt (tgt := 21) hx hb dX5_byteAt_1 (by decide) (fun c1 => ?_) (fun c1 => ?_)
  · have tc1 : x.toInt < 0 := i32_lt c1
    refine lv_iconst (v := (-1)) hx hb dX5_byteAt_21 (by decide) ?_
    have hP9 := hP.sub (ws' := [(h0, .inr (5, [.ref yb, .int n])), (yb, .inl (cI, 1000, .inl f))]) [0, 1] rfl
    have hD9 := hD.sub (ws' := [(h0, .inr (5, [.ref yb, .int n])), (yb, .inl (cI, 1000, .inl f))]) [0, 1] (by decide) rfl
    refine W.widen (k := 0) (n := 0) (by decide) (by decide) ?_
    exact W.iret (v := (-1)) hx hb hr (fun t ht hW => ⟨⟨(-1), (), rfl, (show ¬ (-1) = (-1) → 0 ≤ x.toInt ∧ x.toInt < n.toInt by first | assumption | omega | trivial | decide), by rw [ht]; exact hP9, hD9⟩, hS.F ht⟩) hS.2.2 dX5_byteAt_22
  · have tc1 : ¬ (x.toInt < 0) := i32_nlt c1
    refine lv_iload_n hx hb dX5_byteAt_4 rfl (lv_at hl 1 rfl) ?_
    refine lv_aload_n hx hb dX5_byteAt_5 rfl (lv_at hl 0 rfl) ?_
    refine va_get (D := D) (ci := 5) (v := .int n) (C := RX5) (T := TX5) (N := 2) hx hb hts iw_k_byteAt_5 hown hK hP 0 rfl rfl 1 (by decide) (hts (.fieldLink RX5 15 "FlightDesk$Tape" "length" "I") (by decide +kernel)) (fun _ h9 => h9) rfl dX5_byteAt_6 ?_
    refine lv_icmp_ge (tgt := 21) hx hb dX5_byteAt_9 (by decide) (fun c2 => ?_) (fun c2 => ?_)
    · have tc2 : n.toInt ≤ x.toInt := i32_le c2
      refine lv_iconst (v := (-1)) hx hb dX5_byteAt_21 (by decide) ?_
      have hP9 := hP.sub (ws' := [(h0, .inr (5, [.ref yb, .int n])), (yb, .inl (cI, 1000, .inl f))]) [0, 1] rfl
      have hD9 := hD.sub (ws' := [(h0, .inr (5, [.ref yb, .int n])), (yb, .inl (cI, 1000, .inl f))]) [0, 1] (by decide) rfl
      refine W.widen (k := 0) (n := 0) (by decide) (by decide) ?_
      exact W.iret (v := (-1)) hx hb hr (fun t ht hW => ⟨⟨(-1), (), rfl, (show ¬ (-1) = (-1) → 0 ≤ x.toInt ∧ x.toInt < n.toInt by first | assumption | omega | trivial | decide), by rw [ht]; exact hP9, hD9⟩, hS.F ht⟩) hS.2.2 dX5_byteAt_22
    · have tc2 : ¬ (n.toInt ≤ x.toInt) := i32_nle c2
      refine lv_aload_n hx hb dX5_byteAt_12 rfl (lv_at hl 0 rfl) ?_
      refine va_get (D := D) (ci := 5) (v := .ref yb) (C := RX5) (T := TX5) (N := 2) hx hb hts iw_k_byteAt_5 hown hK hP 0 rfl rfl 0 (by decide) (hts (.fieldLink RX5 9 "FlightDesk$Tape" "bytes" "[I") (by decide +kernel)) (fun _ h9 => h9) rfl dX5_byteAt_13 ?_
      refine lv_iload_n hx hb dX5_byteAt_16 rfl (lv_at hl 1 rfl) ?_
      refine va_iald hx hb hK hP 1 0 rfl rfl (vp_in_iff.mpr ⟨show 0 ≤ x.toInt by omega, show x.toInt < ((1000 : Nat) : Int) by omega⟩) dX5_byteAt_17 ?_
      refine lv_topi (fun v3 ev3 => ?_)
      refine lv_goto (tgt := 22) hx hb dX5_byteAt_18 (by decide) ?_
      have hP9 := hP.sub (ws' := [(h0, .inr (5, [.ref yb, .int n])), (yb, .inl (cI, 1000, .inl f))]) [0, 1] rfl
      have hD9 := hD.sub (ws' := [(h0, .inr (5, [.ref yb, .int n])), (yb, .inl (cI, 1000, .inl f))]) [0, 1] (by decide) rfl
      refine W.widen (k := 0) (n := 0) (by decide) (by decide) ?_
      exact W.iret (v := v3) hx hb hr (fun t ht hW => ⟨⟨v3, (), rfl, (show ¬ v3.toInt = (-1) → 0 ≤ x.toInt ∧ x.toInt < n.toInt by first | assumption | omega | trivial | decide), by rw [ht]; exact hP9, hD9⟩, hS.F ht⟩) hS.2.2 dX5_byteAt_22
