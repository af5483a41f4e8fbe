def wk_k_hasRoomFor : List Cond := .code yX5_hasRoomFor cX5_hasRoomFor 2 (some .boolean) :: ([.fieldLink RX5 15 "FlightDesk$Tape" "length" "I"] ++ wsX50)
theorem iw_k_hasRoomFor_5 : ∀ w ∈ wsX50, w ∈ wk_k_hasRoomFor := fun _ h => List.mem_cons_of_mem _ (List.mem_append_right _ h)
set_option maxHeartbeats 4000000 in
set_option maxRecDepth 100000 in
theorem k_hasRoomFor (l : Launch) (D : va_G) (cI cB cP : ClassId) (sz : Nat) (h0 : Nat) (yb : Nat) (n : Nat) (k : Nat) (hr9 : n + k ≤ 1000) : Met l yX5_hasRoomFor wk_k_hasRoomFor ({ frames := 0, cells := 0, slots := 0, locals := 0 } : Room) (va_Pc [.ref h0, .int (nI k)] (Pw D cI cB cP sz [(h0, .inr (5, [.ref yb, .int (nI n)]))])) (va_Qi (fun (r : Int32) (_ : Unit) => r = 1) (fun _ t => va_P D vwCl [(h0, .inr (5, [.ref yb, .int (nI n)]))] t.heap ∧ va_D (va_A [(h0, .inr (5, [.ref yb, .int (nI n)]))] sz) [(h0, .inr (5, [.ref yb, .int (nI n)]))]) (va_A [(h0, .inr (5, [.ref yb, .int (nI n)]))] sz)) 0 0 (va_A [(h0, .inr (5, [.ref yb, .int (nI n)]))] sz) := by
  refine Met.ofW (cc := cX5_hasRoomFor) (maxL := 2) (ret := (some .boolean)) (by decide) rfl ?_
  intro p e s m args below meth c s₁ B hml hv
  obtain ⟨rfl, hsz, hP, ⟨hK, hN⟩, hD0⟩ := hv
  have hx := B.exec
  have hb := B.bytes
  have hr := B.returns
  have hts := atoms_spec (ws := wk_k_hasRoomFor) B.pre
  have hown : s.vm.findClass RX5 = some m.cls := findClass_of_methodNamed B.named
  have hlocks := B.notSynchronized
  subst hsz
  have hD := hD0.self (sz := s.heap.size)
  generalize hAe : va_A [(h0, .inr (5, [.ref yb, .int (nI n)]))] s.heap.size = A at hD ⊢
  have hA : ∀ q : Nat, s.heap.size ≤ q → A q := fun q h => by rw [← hAe]; exact Or.inr h
  have hS : va_S A s.heap s.heap [] := va_S.rf
  have hP : va_P D vwCl [(h0, .inr (5, [.ref yb, .int (nI n)]))] s.heap := hP
  have hl := lv_entry ([.ref h0, .int (nI k)]) (n := 2) (Nat.le_of_ble_eq_true rfl)
  rw [lg_entry_eq]
  generalize (lg_sl ([.ref h0, .int (nI k)]) ++ List.replicate (2 - (lg_sl ([.ref h0, .int (nI k)])).length) Slot.unset).toArray = ls at hl ⊢
  have hl : lv_has ls 2 [(0, .ref h0), (1, .int (nI k))] := hl
  refine lv_aload_n hx hb dX5_hasRoomFor_0 rfl (lv_at hl 0 rfl) ?_
  refine va_get (D := D) (ci := 5) (v := .int (nI n)) (C := RX5) (T := TX5) (N := 2) hx hb hts iw_k_hasRoomFor_5 hown hK hP 0 rfl rfl 1 (by decide) (hts (.fieldLink RX5 15 "FlightDesk$Tape" "length" "I") (by decide +kernel)) (fun _ h9 => h9) rfl dX5_hasRoomFor_1 ?_
  refine lv_iload_n hx hb dX5_hasRoomFor_4 rfl (lv_at hl 1 rfl) ?_
  refine lv_iadd hx hb dX5_hasRoomFor_5 ?_
  refine lv_topi (fun vv ev => ?_)
  obtain rfl : vv = nI (n + k) := ev.trans (nI_add _ _)
  refine lv_sipush (v := 1000) hx hb dX5_hasRoomFor_6 (by decide) ?_
  refine lv_icmp_gt (tgt := 16) hx hb dX5_hasRoomFor_9 (by decide) (fun h9 => absurd ((nI_ltI (a := 1000) (b := n + k) (by omega) (by omega)).mp h9) (by omega)) (fun c1 => ?_)
  refine lv_iconst (v := 1) hx hb dX5_hasRoomFor_12 (by decide) ?_
  refine lv_goto (tgt := 17) hx hb dX5_hasRoomFor_13 (by decide) ?_
  have hP9 := hP.sub (ws' := [(h0, .inr (5, [.ref yb, .int (nI n)]))]) [0] rfl
  have hD9 := hD.sub (ws' := [(h0, .inr (5, [.ref yb, .int (nI n)]))]) [0] (by decide) rfl
  refine W.widen (k := 0) (n := 0) (by decide) (by decide) ?_
  exact W.zret (v := 1) hx hb hr (by decide) (fun t ht hW => ⟨⟨1, (), rfl, rfl, by rw [ht]; exact hP9, hD9⟩, hS.F ht⟩) hS.2.2 dX5_hasRoomFor_17

def wk_k_put : List Cond := .code yX5_put cX5_put 3 none :: ([.methodLink RX5 19 yX5_hasRoomFor, .instanceMethod yX5_hasRoomFor, .selects RX5 yX5_hasRoomFor yX5_hasRoomFor, .initialized RX5, .code yX5_hasRoomFor cX5_hasRoomFor 2 (some .boolean), .fieldLink RX5 15 "FlightDesk$Tape" "length" "I", .fieldLink RX5 9 "FlightDesk$Tape" "bytes" "[I"] ++ wsX50)
theorem iw_k_put_5 : ∀ w ∈ wsX50, w ∈ wk_k_put := fun _ h => List.mem_cons_of_mem _ (List.mem_append_right _ h)
set_option maxRecDepth 20000 in
theorem gw_k_put_0 : GoodIn wk_k_put (wsV RX5 19 RX5 yX5_hasRoomFor wk_k_hasRoomFor) := goodIn_sub (by decide +kernel) (by decide +kernel)
set_option maxHeartbeats 4000000 in
set_option maxRecDepth 100000 in
theorem k_put (l : Launch) (D : va_G) (cI cB cP : ClassId) (sz : Nat) (h0 : Nat) (yb : Nat) (n : Nat) (x : Int32) (f : Nat → Int32) (hr9 : n + 4 ≤ 1000) : Met l yX5_put wk_k_put ({ frames := 1, cells := 0, slots := 0, locals := 21 } : Room) (va_Pc [.ref h0, .int x] (Pw D cI cB cP sz [(h0, .inr (5, [.ref yb, .int (nI n)])), (yb, .inl (cI, 1000, .inl f))])) (va_Qv (fun (_ : Unit) => True) (fun _ t => ∃ g : Nat → Int32, va_P D vwCl [(h0, .inr (5, [.ref yb, .int (nI (n + 4))])), (yb, .inl (cI, 1000, .inl g))] t.heap ∧ va_D (va_A [(h0, .inr (5, [.ref yb, .int (nI n)])), (yb, .inl (cI, 1000, .inl f))] sz) [(h0, .inr (5, [.ref yb, .int (nI (n + 4))])), (yb, .inl (cI, 1000, .inl g))]) (va_A [(h0, .inr (5, [.ref yb, .int (nI n)])), (yb, .inl (cI, 1000, .inl f))] sz)) 0 0 (va_A [(h0, .inr (5, [.ref yb, .int (nI n)])), (yb, .inl (cI, 1000, .inl f))] sz) := by
  refine Met.ofW (cc := cX5_put) (maxL := 3) (ret := none) (by decide) rfl ?_
  intro p e s m args below meth c s₁ B hml hv
  obtain ⟨rfl, hsz, hP, ⟨hK, hN⟩, hD0⟩ := hv
  have hx := B.exec
  have hb := B.bytes
  have hr := B.returns
  have hts := atoms_spec (ws := wk_k_put) B.pre
  have hown : s.vm.findClass RX5 = some m.cls := findClass_of_methodNamed B.named
  have hlocks := B.notSynchronized
  subst hsz
  have hD := hD0.self (sz := s.heap.size)
  generalize hAe : va_A [(h0, .inr (5, [.ref yb, .int (nI n)])), (yb, .inl (cI, 1000, .inl f))] s.heap.size = A at hD ⊢
  have hA : ∀ q : Nat, s.heap.size ≤ q → A q := fun q h => by rw [← hAe]; exact Or.inr h
  have hS : va_S A s.heap s.heap [] := va_S.rf
  have hP : va_P D vwCl [(h0, .inr (5, [.ref yb, .int (nI n)])), (yb, .inl (cI, 1000, .inl f))] s.heap := hP
  have hl := lv_entry ([.ref h0, .int x]) (n := 3) (Nat.le_of_ble_eq_true rfl)
  rw [lg_entry_eq]
  generalize (lg_sl ([.ref h0, .int x]) ++ List.replicate (3 - (lg_sl ([.ref h0, .int x])).length) Slot.unset).toArray = ls at hl ⊢
  have hl : lv_has ls 3 [(0, .ref h0), (1, .int x)] := hl
  refine lv_aload_n hx hb dX5_put_0 rfl (lv_at hl 0 rfl) ?_
  refine lv_iconst (v := 4) hx hb dX5_put_1 (by decide) ?_
  have hPc := hP.sub (ws' := [(h0, .inr (5, [.ref yb, .int (nI n)]))]) [0] rfl
  have hDc := hD.sub (ws' := [(h0, .inr (5, [.ref yb, .int (nI n)]))]) [0] (by decide) rfl
  have hFc := va_free (wc := [(h0, .inr (5, [.ref yb, .int (nI n)]))]) hD hS hA [0] rfl
  refine va_calli (va_runV (As := [.int 4]) (rest := []) ⟨hx, hb, hml, hown, hts⟩ (k_hasRoomFor l D cI cB cP s.heap.size h0 yb n 4 (hr9)) (cwV 1 hts gw_k_put_0 rfl rfl rfl (by decide +kernel) ⟨Nat.le_of_ble_eq_true rfl, Nat.le_of_ble_eq_true rfl⟩) ⟨ny_blind, va_recv hK hPc (ci := 5) (q0 := 0) rfl rfl, ny_pre hPc hK hN hDc⟩ rfl rfl hl.1 rfl (lv_room (Nat.le_of_ble_eq_true rfl)) dX5_put_2 ⟨Nat.le_of_ble_eq_true rfl, Nat.le_of_ble_eq_true rfl⟩) hS (fun q _ h => hFc q h) hFc (fun r1 u t H locs ht hvm hw hB hz1 hk1 hS => ?_)
  obtain ⟨hP1, hD1⟩ := hB
  rw [ht] at hP1
  obtain ⟨hP, hD⟩ := va_join (wr := [(yb, .inl (cI, 1000, .inl f))]) (w1 := [(h0, .inr (5, [.ref yb, .int (nI n)]))]) hP hD [0] [1] rfl rfl (by decide) (by decide) hk1 hFc hP1 hD1
  have hP : va_P D vwCl [(yb, .inl (cI, 1000, .inl f)), (h0, .inr (5, [.ref yb, .int (nI n)]))] H := hP
  have hD : va_D A [(yb, .inl (cI, 1000, .inl f)), (h0, .inr (5, [.ref yb, .int (nI n)]))] := hD
  subst hw
  refine lv_if_ne (tgt := 9) hx hb dX5_put_5 (by decide) (fun c2 => ?_) (fun h9 => (by first | exact absurd h9 (by decide) | exact absurd (by decide) h9))
  refine lv_bipush (v := 24) hx hb dX5_put_9 (by decide) ?_
  refine lv_istore_n (lv' := [(2, .int 24), (0, .ref h0), (1, .int x)]) hx hb dX5_put_11 rfl hl (by decide) rfl (fun ls hl => ?_)
  refine lv_iload_n hx hb dX5_put_12 rfl (lv_at hl 0 rfl) ?_
  refine lv_if_lt (tgt := 48) hx hb dX5_put_13 (by decide) (fun h9 => (by first | exact absurd h9 (by decide) | exact absurd (by decide) h9)) (fun c3 => ?_)
  refine lv_aload_n hx hb dX5_put_16 rfl (lv_at hl 1 rfl) ?_
  refine va_get (D := D) (ci := 5) (v := .ref yb) (C := RX5) (T := TX5) (N := 2) hx hb hts iw_k_put_5 hown hK hP 1 rfl rfl 0 (by decide) (hts (.fieldLink RX5 9 "FlightDesk$Tape" "bytes" "[I") (by decide +kernel)) (fun _ h9 => h9) rfl dX5_put_17 ?_
  refine lv_aload_n hx hb dX5_put_20 rfl (lv_at hl 1 rfl) ?_
  refine va_get (D := D) (ci := 5) (v := .int (nI n)) (C := RX5) (T := TX5) (N := 2) hx hb hts iw_k_put_5 hown hK hP 1 rfl rfl 1 (by decide) (hts (.fieldLink RX5 15 "FlightDesk$Tape" "length" "I") (by decide +kernel)) (fun _ h9 => h9) rfl dX5_put_21 ?_
  refine lv_iload_n hx hb dX5_put_24 rfl (lv_at hl 2 rfl) ?_
  refine lv_iload_n hx hb dX5_put_25 rfl (lv_at hl 0 rfl) ?_
  refine lv_iushr hx hb dX5_put_26 rfl ?_
  refine lv_topi (fun v4 ev4 => ?_)
  refine lv_sipush (v := 255) hx hb dX5_put_27 (by decide) ?_
  refine lv_iand hx hb dX5_put_30 ?_
  refine lv_topi (fun v5 ev5 => ?_)
  refine va_iast hx hb hK hP hD hS 0 0 rfl rfl (vp_in_nI (by omega) (by decide)) dX5_put_31 (fun H locs hP hD hS => ?_)
  have hP : va_P D vwCl [(yb, .inl (cI, 1000, .inl (upd f (nI n).toNatClampNeg v5))), (h0, .inr (5, [.ref yb, .int (nI n)]))] H := hP
  have hD : va_D A [(yb, .inl (cI, 1000, .inl (upd f (nI n).toNatClampNeg v5))), (h0, .inr (5, [.ref yb, .int (nI n)]))] := hD
  obtain ⟨f6, ef6⟩ : ∃ z : Nat → Int32, z = (upd f (nI n).toNatClampNeg v5) := ⟨_, rfl⟩
  rw [← ef6] at hP hD
  refine lv_aload_n hx hb dX5_put_32 rfl (lv_at hl 1 rfl) ?_
  refine lv_dup hx hb dX5_put_33 rfl ?_
  refine va_get (D := D) (ci := 5) (v := .int (nI n)) (C := RX5) (T := TX5) (N := 2) hx hb hts iw_k_put_5 hown hK hP 1 rfl rfl 1 (by decide) (hts (.fieldLink RX5 15 "FlightDesk$Tape" "length" "I") (by decide +kernel)) (fun _ h9 => h9) rfl dX5_put_34 ?_
  refine lv_iconst (v := 1) hx hb dX5_put_37 (by decide) ?_
  refine lv_iadd hx hb dX5_put_38 ?_
  refine lv_topi (fun vv ev => ?_)
  obtain rfl : vv = nI (n + 1) := ev.trans (show nI (n) + 1 = _ from nI_1 _)
  refine va_put (D := D) (ci := 5) (v := .int (nI (n + 1))) (ty := .int) (C := RX5) (T := TX5) (N := 2) hx hb hts iw_k_put_5 tyX5 tyX5_ok nmX5 hown hK hP hD hS 1 rfl rfl 1 (by decide) (hts (.fieldLink RX5 15 "FlightDesk$Tape" "length" "I") (by decide +kernel)) (fun _ h9 => h9) rfl (by decide +kernel) rfl rfl (Nat.le_of_ble_eq_true rfl) dX5_put_39 (fun H locs hP hD hS => ?_)
  have hP : va_P D vwCl [(yb, .inl (cI, 1000, .inl f6)), (h0, .inr (5, [.ref yb, .int (nI (n + 1))]))] H := hP
  have hD : va_D A [(yb, .inl (cI, 1000, .inl f6)), (h0, .inr (5, [.ref yb, .int (nI (n + 1))]))] := hD
  refine lv_iinc (v := 16) (lv' := [(2, .int 16), (0, .ref h0), (1, .int x)]) hx hb dX5_put_42 hl (k := 0) rfl (by decide) (by decide) rfl (fun ls hl => ?_)
  refine lv_goto (tgt := 12) hx hb dX5_put_45 (by decide) ?_
  refine lv_iload_n hx hb dX5_put_12 rfl (lv_at hl 0 rfl) ?_
  refine lv_if_lt (tgt := 48) hx hb dX5_put_13 (by decide) (fun h9 => (by first | exact absurd h9 (by decide) | exact absurd (by decide) h9)) (fun c7 => ?_)
  refine lv_aload_n hx hb dX5_put_16 rfl (lv_at hl 1 rfl) ?_
  refine va_get (D := D) (ci := 5) (v := .ref yb) (C := RX5) (T := TX5) (N := 2) hx hb hts iw_k_put_5 hown hK hP 1 rfl rfl 0 (by decide) (hts (.fieldLink RX5 9 "FlightDesk$Tape" "bytes" "[I") (by decide +kernel)) (fun _ h9 => h9) rfl dX5_put_17 ?_
  refine lv_aload_n hx hb dX5_put_20 rfl (lv_at hl 1 rfl) ?_
  refine va_get (D := D) (ci := 5) (v := .int (nI (n + 1))) (C := RX5) (T := TX5) (N := 2) hx hb hts iw_k_put_5 hown hK hP 1 rfl rfl 1 (by decide) (hts (.fieldLink RX5 15 "FlightDesk$Tape" "length" "I") (by decide +kernel)) (fun _ h9 => h9) rfl dX5_put_21 ?_
  refine lv_iload_n hx hb dX5_put_24 rfl (lv_at hl 2 rfl) ?_
  refine lv_iload_n hx hb dX5_put_25 rfl (lv_at hl 0 rfl) ?_
  refine lv_iushr hx hb dX5_put_26 rfl ?_
  refine lv_topi (fun v8 ev8 => ?_)
  refine lv_sipush (v := 255) hx hb dX5_put_27 (by decide) ?_
  refine lv_iand hx hb dX5_put_30 ?_
  refine lv_topi (fun v9 ev9 => ?_)
  refine va_iast hx hb hK hP hD hS 0 0 rfl rfl (vp_in_nI (by omega) (by decide)) dX5_put_31 (fun H locs hP hD hS => ?_)
  have hP : va_P D vwCl [(yb, .inl (cI, 1000, .inl (upd f6 (nI (n + 1)).toNatClampNeg v9))), (h0, .inr (5, [.ref yb, .int (nI (n + 1))]))] H := hP
  have hD : va_D A [(yb, .inl (cI, 1000, .inl (upd f6 (nI (n + 1)).toNatClampNeg v9))), (h0, .inr (5, [.ref yb, .int (nI (n + 1))]))] := hD
  obtain ⟨f10, ef10⟩ : ∃ z : Nat → Int32, z = (upd f6 (nI (n + 1)).toNatClampNeg v9) := ⟨_, rfl⟩
  rw [← ef10] at hP hD
  refine lv_aload_n hx hb dX5_put_32 rfl (lv_at hl 1 rfl) ?_
  refine lv_dup hx hb dX5_put_33 rfl ?_
  refine va_get (D := D) (ci := 5) (v := .int (nI (n + 1))) (C := RX5) (T := TX5) (N := 2) hx hb hts iw_k_put_5 hown hK hP 1 rfl rfl 1 (by decide) (hts (.fieldLink RX5 15 "FlightDesk$Tape" "length" "I") (by decide +kernel)) (fun _ h9 => h9) rfl dX5_put_34 ?_
  refine lv_iconst (v := 1) hx hb dX5_put_37 (by decide) ?_
  refine lv_iadd hx hb dX5_put_38 ?_
  refine lv_topi (fun vv ev => ?_)
  obtain rfl : vv = nI (n + 1 + 1) := ev.trans (show nI (n + 1) + 1 = _ from nI_1 _)
  refine va_put (D := D) (ci := 5) (v := .int (nI (n + 1 + 1))) (ty := .int) (C := RX5) (T := TX5) (N := 2) hx hb hts iw_k_put_5 tyX5 tyX5_ok nmX5 hown hK hP hD hS 1 rfl rfl 1 (by decide) (hts (.fieldLink RX5 15 "FlightDesk$Tape" "length" "I") (by decide +kernel)) (fun _ h9 => h9) rfl (by decide +kernel) rfl rfl (Nat.le_of_ble_eq_true rfl) dX5_put_39 (fun H locs hP hD hS => ?_)
  have hP : va_P D vwCl [(yb, .inl (cI, 1000, .inl f10)), (h0, .inr (5, [.ref yb, .int (nI (n + 1 + 1))]))] H := hP
  have hD : va_D A [(yb, .inl (cI, 1000, .inl f10)), (h0, .inr (5, [.ref yb, .int (nI (n + 1 + 1))]))] := hD
  refine lv_iinc (v := 8) (lv' := [(2, .int 8), (0, .ref h0), (1, .int x)]) hx hb dX5_put_42 hl (k := 0) rfl (by decide) (by decide) rfl (fun ls hl => ?_)
  refine lv_goto (tgt := 12) hx hb dX5_put_45 (by decide) ?_
  refine lv_iload_n hx hb dX5_put_12 rfl (lv_at hl 0 rfl) ?_
  refine lv_if_lt (tgt := 48) hx hb dX5_put_13 (by decide) (fun h9 => (by first | exact absurd h9 (by decide) | exact absurd (by decide) h9)) (fun c11 => ?_)
  refine lv_aload_n hx hb dX5_put_16 rfl (lv_at hl 1 rfl) ?_
  refine va_get (D := D) (ci := 5) (v := .ref yb) (C := RX5) (T := TX5) (N := 2) hx hb hts iw_k_put_5 hown hK hP 1 rfl rfl 0 (by decide) (hts (.fieldLink RX5 9 "FlightDesk$Tape" "bytes" "[I") (by decide +kernel)) (fun _ h9 => h9) rfl dX5_put_17 ?_
  refine lv_aload_n hx hb dX5_put_20 rfl (lv_at hl 1 rfl) ?_
  refine va_get (D := D) (ci := 5) (v := .int (nI (n + 1 + 1))) (C := RX5) (T := TX5) (N := 2) hx hb hts iw_k_put_5 hown hK hP 1 rfl rfl 1 (by decide) (hts (.fieldLink RX5 15 "FlightDesk$Tape" "length" "I") (by decide +kernel)) (fun _ h9 => h9) rfl dX5_put_21 ?_
  refine lv_iload_n hx hb dX5_put_24 rfl (lv_at hl 2 rfl) ?_
  refine lv_iload_n hx hb dX5_put_25 rfl (lv_at hl 0 rfl) ?_
  refine lv_iushr hx hb dX5_put_26 rfl ?_
  refine lv_topi (fun v12 ev12 => ?_)
  refine lv_sipush (v := 255) hx hb dX5_put_27 (by decide) ?_
  refine lv_iand hx hb dX5_put_30 ?_
  refine lv_topi (fun v13 ev13 => ?_)
  refine va_iast hx hb hK hP hD hS 0 0 rfl rfl (vp_in_nI (by omega) (by decide)) dX5_put_31 (fun H locs hP hD hS => ?_)
  have hP : va_P D vwCl [(yb, .inl (cI, 1000, .inl (upd f10 (nI (n + 1 + 1)).toNatClampNeg v13))), (h0, .inr (5, [.ref yb, .int (nI (n + 1 + 1))]))] H := hP
  have hD : va_D A [(yb, .inl (cI, 1000, .inl (upd f10 (nI (n + 1 + 1)).toNatClampNeg v13))), (h0, .inr (5, [.ref yb, .int (nI (n + 1 + 1))]))] := hD
  obtain ⟨f14, ef14⟩ : ∃ z : Nat → Int32, z = (upd f10 (nI (n + 1 + 1)).toNatClampNeg v13) := ⟨_, rfl⟩
  rw [← ef14] at hP hD
  refine lv_aload_n hx hb dX5_put_32 rfl (lv_at hl 1 rfl) ?_
  refine lv_dup hx hb dX5_put_33 rfl ?_
  refine va_get (D := D) (ci := 5) (v := .int (nI (n + 1 + 1))) (C := RX5) (T := TX5) (N := 2) hx hb hts iw_k_put_5 hown hK hP 1 rfl rfl 1 (by decide) (hts (.fieldLink RX5 15 "FlightDesk$Tape" "length" "I") (by decide +kernel)) (fun _ h9 => h9) rfl dX5_put_34 ?_
  refine lv_iconst (v := 1) hx hb dX5_put_37 (by decide) ?_
  refine lv_iadd hx hb dX5_put_38 ?_
  refine lv_topi (fun vv ev => ?_)
  obtain rfl : vv = nI (n + 1 + 1 + 1) := ev.trans (show nI (n + 1 + 1) + 1 = _ from nI_1 _)
  refine va_put (D := D) (ci := 5) (v := .int (nI (n + 1 + 1 + 1))) (ty := .int) (C := RX5) (T := TX5) (N := 2) hx hb hts iw_k_put_5 tyX5 tyX5_ok nmX5 hown hK hP hD hS 1 rfl rfl 1 (by decide) (hts (.fieldLink RX5 15 "FlightDesk$Tape" "length" "I") (by decide +kernel)) (fun _ h9 => h9) rfl (by decide +kernel) rfl rfl (Nat.le_of_ble_eq_true rfl) dX5_put_39 (fun H locs hP hD hS => ?_)
  have hP : va_P D vwCl [(yb, .inl (cI, 1000, .inl f14)), (h0, .inr (5, [.ref yb, .int (nI (n + 1 + 1 + 1))]))] H := hP
  have hD : va_D A [(yb, .inl (cI, 1000, .inl f14)), (h0, .inr (5, [.ref yb, .int (nI (n + 1 + 1 + 1))]))] := hD
  refine lv_iinc (v := 0) (lv' := [(2, .int 0), (0, .ref h0), (1, .int x)]) hx hb dX5_put_42 hl (k := 0) rfl (by decide) (by decide) rfl (fun ls hl => ?_)
  refine lv_goto (tgt := 12) hx hb dX5_put_45 (by decide) ?_
  refine lv_iload_n hx hb dX5_put_12 rfl (lv_at hl 0 rfl) ?_
  refine lv_if_lt (tgt := 48) hx hb dX5_put_13 (by decide) (fun h9 => (by first | exact absurd h9 (by decide) | exact absurd (by decide) h9)) (fun c15 => ?_)
  refine lv_aload_n hx hb dX5_put_16 rfl (lv_at hl 1 rfl) ?_
  refine va_get (D := D) (ci := 5) (v := .ref yb) (C := RX5) (T := TX5) (N := 2) hx hb hts iw_k_put_5 hown hK hP 1 rfl rfl 0 (by decide) (hts (.fieldLink RX5 9 "FlightDesk$Tape" "bytes" "[I") (by decide +kernel)) (fun _ h9 => h9) rfl dX5_put_17 ?_
  refine lv_aload_n hx hb dX5_put_20 rfl (lv_at hl 1 rfl) ?_
  refine va_get (D := D) (ci := 5) (v := .int (nI (n + 1 + 1 + 1))) (C := RX5) (T := TX5) (N := 2) hx hb hts iw_k_put_5 hown hK hP 1 rfl rfl 1 (by decide) (hts (.fieldLink RX5 15 "FlightDesk$Tape" "length" "I") (by decide +kernel)) (fun _ h9 => h9) rfl dX5_put_21 ?_
  refine lv_iload_n hx hb dX5_put_24 rfl (lv_at hl 2 rfl) ?_
  refine lv_iload_n hx hb dX5_put_25 rfl (lv_at hl 0 rfl) ?_
  refine lv_iushr hx hb dX5_put_26 rfl ?_
  refine lv_topi (fun v16 ev16 => ?_)
  refine lv_sipush (v := 255) hx hb dX5_put_27 (by decide) ?_
  refine lv_iand hx hb dX5_put_30 ?_
  refine lv_topi (fun v17 ev17 => ?_)
  refine va_iast hx hb hK hP hD hS 0 0 rfl rfl (vp_in_nI (by omega) (by decide)) dX5_put_31 (fun H locs hP hD hS => ?_)
  have hP : va_P D vwCl [(yb, .inl (cI, 1000, .inl (upd f14 (nI (n + 1 + 1 + 1)).toNatClampNeg v17))), (h0, .inr (5, [.ref yb, .int (nI (n + 1 + 1 + 1))]))] H := hP
  have hD : va_D A [(yb, .inl (cI, 1000, .inl (upd f14 (nI (n + 1 + 1 + 1)).toNatClampNeg v17))), (h0, .inr (5, [.ref yb, .int (nI (n + 1 + 1 + 1))]))] := hD
  obtain ⟨f18, ef18⟩ : ∃ z : Nat → Int32, z = (upd f14 (nI (n + 1 + 1 + 1)).toNatClampNeg v17) := ⟨_, rfl⟩
  rw [← ef18] at hP hD
  refine lv_aload_n hx hb dX5_put_32 rfl (lv_at hl 1 rfl) ?_
  refine lv_dup hx hb dX5_put_33 rfl ?_
  refine va_get (D := D) (ci := 5) (v := .int (nI (n + 1 + 1 + 1))) (C := RX5) (T := TX5) (N := 2) hx hb hts iw_k_put_5 hown hK hP 1 rfl rfl 1 (by decide) (hts (.fieldLink RX5 15 "FlightDesk$Tape" "length" "I") (by decide +kernel)) (fun _ h9 => h9) rfl dX5_put_34 ?_
  refine lv_iconst (v := 1) hx hb dX5_put_37 (by decide) ?_
  refine lv_iadd hx hb dX5_put_38 ?_
  refine lv_topi (fun vv ev => ?_)
  obtain rfl : vv = nI (n + 1 + 1 + 1 + 1) := ev.trans (show nI (n + 1 + 1 + 1) + 1 = _ from nI_1 _)
  refine va_put (D := D) (ci := 5) (v := .int (nI (n + 1 + 1 + 1 + 1))) (ty := .int) (C := RX5) (T := TX5) (N := 2) hx hb hts iw_k_put_5 tyX5 tyX5_ok nmX5 hown hK hP hD hS 1 rfl rfl 1 (by decide) (hts (.fieldLink RX5 15 "FlightDesk$Tape" "length" "I") (by decide +kernel)) (fun _ h9 => h9) rfl (by decide +kernel) rfl rfl (Nat.le_of_ble_eq_true rfl) dX5_put_39 (fun H locs hP hD hS => ?_)
  have hP : va_P D vwCl [(yb, .inl (cI, 1000, .inl f18)), (h0, .inr (5, [.ref yb, .int (nI (n + 1 + 1 + 1 + 1))]))] H := hP
  have hD : va_D A [(yb, .inl (cI, 1000, .inl f18)), (h0, .inr (5, [.ref yb, .int (nI (n + 1 + 1 + 1 + 1))]))] := hD
  refine lv_iinc (v := (-8)) (lv' := [(2, .int (-8)), (0, .ref h0), (1, .int x)]) hx hb dX5_put_42 hl (k := 0) rfl (by decide) (by decide) rfl (fun ls hl => ?_)
  refine lv_goto (tgt := 12) hx hb dX5_put_45 (by decide) ?_
  refine lv_iload_n hx hb dX5_put_12 rfl (lv_at hl 0 rfl) ?_
  refine lv_if_lt (tgt := 48) hx hb dX5_put_13 (by decide) (fun c19 => ?_) (fun h9 => (by first | exact absurd h9 (by decide) | exact absurd (by decide) h9))
  have hP9 := hP.sub (ws' := [(h0, .inr (5, [.ref yb, .int (nI (n + 1 + 1 + 1 + 1))])), (yb, .inl (cI, 1000, .inl f18))]) [1, 0] rfl
  have hD9 := hD.sub (ws' := [(h0, .inr (5, [.ref yb, .int (nI (n + 1 + 1 + 1 + 1))])), (yb, .inl (cI, 1000, .inl f18))]) [1, 0] (by decide) rfl
  refine W.widen (k := 0) (n := 0) (by decide) (by decide) ?_
  exact W.vret hx hb hr (fun t ht hW => ⟨⟨(), rfl, trivial, f18, by rw [ht]; exact hP9, hD9⟩, hS.F ht⟩) hS.2.2 dX5_put_48

def wk_k_feed : List Cond := .code yX7_feed cX7_feed 6 (some .int) :: ([.fieldLink RX7 12 "FlightDesk" "tape" "LFlightDesk$Tape;", .methodLink RX7 53 yX5_hasRoomFor, .instanceMethod yX5_hasRoomFor, .selects RX5 yX5_hasRoomFor yX5_hasRoomFor, .initialized RX5, .code yX5_hasRoomFor cX5_hasRoomFor 2 (some .boolean), .fieldLink RX5 15 "FlightDesk$Tape" "length" "I", .methodLink RX7 57 yX5_put, .instanceMethod yX5_put, .selects RX5 yX5_put yX5_put, .code yX5_put cX5_put 3 none, .methodLink RX5 19 yX5_hasRoomFor, .fieldLink RX5 9 "FlightDesk$Tape" "bytes" "[I", .fieldLink RX7 61 "FlightDesk$Tape" "length" "I"] ++ wsX70 ++ wsX50)
theorem iw_k_feed_7 : ∀ w ∈ wsX70, w ∈ wk_k_feed := fun _ h => List.mem_cons_of_mem _ (List.mem_append_left _ (List.mem_append_right _ h))
theorem iw_k_feed_5 : ∀ w ∈ wsX50, w ∈ wk_k_feed := fun _ h => List.mem_cons_of_mem _ (List.mem_append_right _ h)
set_option maxRecDepth 20000 in
theorem gw_k_feed_0 : GoodIn wk_k_feed (wsV RX7 53 RX5 yX5_hasRoomFor wk_k_hasRoomFor) := goodIn_sub (by decide +kernel) (by decide +kernel)
set_option maxRecDepth 20000 in
theorem gw_k_feed_1 : GoodIn wk_k_feed (wsV RX7 57 RX5 yX5_put wk_k_put) := goodIn_sub (by decide +kernel) (by decide +kernel)
set_option maxHeartbeats 4000000 in
set_option maxRecDepth 100000 in
theorem k_feed (l : Launch) (D : va_G) (cI cB cP : ClassId) (sz : Nat) (h0 : Nat) (tp : Nat) (rd : Nat) (bk : Nat) (fl : Nat) (pl : Nat) (yb : Nat) (f : Nat → Int32) (x1 : Int32) (x2 : Int32) (x3 : Int32) (x4 : Int32) (x5 : Int32) : Met l yX7_feed wk_k_feed ({ frames := 2, cells := 0, slots := 0, locals := 43 } : Room) (va_Pc [.ref h0, .int x1, .int x2, .int x3, .int x4, .int x5] (Pw D cI cB cP sz [(h0, .inr (7, [.ref tp, .ref rd, .ref bk, .ref fl, .ref pl])), (tp, .inr (5, [.ref yb, .int 0])), (yb, .inl (cI, 1000, .inl f))])) (va_Qi (fun (r : Int32) (_ : Unit) => r = 20) (fun _ _ => True) (va_A [(h0, .inr (7, [.ref tp, .ref rd, .ref bk, .ref fl, .ref pl])), (tp, .inr (5, [.ref yb, .int 0])), (yb, .inl (cI, 1000, .inl f))] sz)) 0 0 (va_A [(h0, .inr (7, [.ref tp, .ref rd, .ref bk, .ref fl, .ref pl])), (tp, .inr (5, [.ref yb, .int 0])), (yb, .inl (cI, 1000, .inl f))] sz) := by
  refine Met.ofW (cc := cX7_feed) (maxL := 6) (ret := (some .int)) (by decide) rfl ?_
  intro p e s m args below meth c s₁ B hml hv
  obtain ⟨rfl, hsz, hP, ⟨hK, hN⟩, hD0⟩ := hv
  have hx := B.exec
  have hb := B.bytes
  have hr := B.returns
  have hts := atoms_spec (ws := wk_k_feed) B.pre
  have hown : s.vm.findClass RX7 = some m.cls := findClass_of_methodNamed B.named
  have hlocks := B.notSynchronized
  subst hsz
  have hD := hD0.self (sz := s.heap.size)
  generalize hAe : va_A [(h0, .inr (7, [.ref tp, .ref rd, .ref bk, .ref fl, .ref pl])), (tp, .inr (5, [.ref yb, .int 0])), (yb, .inl (cI, 1000, .inl f))] s.heap.size = A at hD ⊢
  have hA : ∀ q : Nat, s.heap.size ≤ q → A q := fun q h => by rw [← hAe]; exact Or.inr h
  have hS : va_S A s.heap s.heap [] := va_S.rf
  have hP : va_P D vwCl [(h0, .inr (7, [.ref tp, .ref rd, .ref bk, .ref fl, .ref pl])), (tp, .inr (5, [.ref yb, .int 0])), (yb, .inl (cI, 1000, .inl f))] s.heap := hP
  have hl := lv_entry ([.ref h0, .int x1, .int x2, .int x3, .int x4, .int x5]) (n := 6) (Nat.le_of_ble_eq_true rfl)
  rw [lg_entry_eq]
  generalize (lg_sl ([.ref h0, .int x1, .int x2, .int x3, .int x4, .int x5]) ++ List.replicate (6 - (lg_sl ([.ref h0, .int x1, .int x2, .int x3, .int x4, .int x5])).length) Slot.unset).toArray = ls at hl ⊢
  have hl : lv_has ls 6 [(0, .ref h0), (1, .int x1), (2, .int x2), (3, .int x3), (4, .int x4), (5, .int x5)] := hl
  refine lv_aload_n hx hb dX7_feed_0 rfl (lv_at hl 0 rfl) ?_
  refine va_get (D := D) (ci := 7) (v := .ref tp) (C := RX7) (T := TX7) (N := 5) hx hb hts iw_k_feed_7 hown hK hP 0 rfl rfl 0 (by decide) (hts (.fieldLink RX7 12 "FlightDesk" "tape" "LFlightDesk$Tape;") (by decide +kernel)) (fun _ h9 => h9) rfl dX7_feed_1 ?_
  refine lv_bipush (v := 20) hx hb dX7_feed_4 (by decide) ?_
  have hPc := hP.sub (ws' := [(tp, .inr (5, [.ref yb, .int 0]))]) [1] rfl
  have hDc := hD.sub (ws' := [(tp, .inr (5, [.ref yb, .int 0]))]) [1] (by decide) rfl
  have hFc := va_free (wc := [(tp, .inr (5, [.ref yb, .int 0]))]) hD hS hA [1] rfl
  refine va_calli (va_runV (As := [.int 20]) (rest := []) ⟨hx, hb, hml, hown, hts⟩ (k_hasRoomFor l D cI cB cP s.heap.size tp yb 0 20 (by decide)) (cwV 1 hts gw_k_feed_0 rfl rfl rfl (by decide +kernel) ⟨Nat.le_of_ble_eq_true rfl, Nat.le_of_ble_eq_true rfl⟩) ⟨ny_blind, va_recv hK hPc (ci := 5) (q0 := 0) rfl rfl, ny_pre hPc hK hN hDc⟩ rfl rfl hl.1 rfl (lv_room (Nat.le_of_ble_eq_true rfl)) dX7_feed_6 ⟨Nat.le_of_ble_eq_true rfl, Nat.le_of_ble_eq_true rfl⟩) hS (fun q _ h => hFc q h) hFc (fun r1 u t H locs ht hvm hw hB hz1 hk1 hS => ?_)
  obtain ⟨hP1, hD1⟩ := hB
  rw [ht] at hP1
  obtain ⟨hP, hD⟩ := va_join (wr := [(h0, .inr (7, [.ref tp, .ref rd, .ref bk, .ref fl, .ref pl])), (yb, .inl (cI, 1000, .inl f))]) (w1 := [(tp, .inr (5, [.ref yb, .int (nI 0)]))]) hP hD [1] [0, 2] rfl rfl (by decide) (by decide) hk1 hFc hP1 hD1
  have hP : va_P D vwCl [(h0, .inr (7, [.ref tp, .ref rd, .ref bk, .ref fl, .ref pl])), (yb, .inl (cI, 1000, .inl f)), (tp, .inr (5, [.ref yb, .int (nI 0)]))] H := hP
  have hD : va_D A [(h0, .inr (7, [.ref tp, .ref rd, .ref bk, .ref fl, .ref pl])), (yb, .inl (cI, 1000, .inl f)), (tp, .inr (5, [.ref yb, .int (nI 0)]))] := hD
  subst hw
  refine lv_if_ne (tgt := 14) hx hb dX7_feed_9 (by decide) (fun c2 => ?_) (fun h9 => (by first | exact absurd h9 (by decide) | exact absurd (by decide) h9))
  refine lv_aload_n hx hb dX7_feed_14 rfl (lv_at hl 0 rfl) ?_
  refine va_get (D := D) (ci := 7) (v := .ref tp) (C := RX7) (T := TX7) (N := 5) hx hb hts iw_k_feed_7 hown hK hP 0 rfl rfl 0 (by decide) (hts (.fieldLink RX7 12 "FlightDesk" "tape" "LFlightDesk$Tape;") (by decide +kernel)) (fun _ h9 => h9) rfl dX7_feed_15 ?_
  refine lv_iload_n hx hb dX7_feed_18 rfl (lv_at hl 1 rfl) ?_
  have hPc := hP.sub (ws' := [(tp, .inr (5, [.ref yb, .int (nI 0)])), (yb, .inl (cI, 1000, .inl f))]) [2, 1] rfl
  have hDc := hD.sub (ws' := [(tp, .inr (5, [.ref yb, .int (nI 0)])), (yb, .inl (cI, 1000, .inl f))]) [2, 1] (by decide) rfl
  have hFc := va_free (wc := [(tp, .inr (5, [.ref yb, .int (nI 0)])), (yb, .inl (cI, 1000, .inl f))]) hD hS hA [2, 1] rfl
  refine va_callv (va_runV (As := [.int x1]) (rest := []) ⟨hx, hb, hml, hown, hts⟩ (k_put l D cI cB cP H.size tp yb 0 x1 f (by decide)) (cwV 1 hts gw_k_feed_1 rfl rfl rfl (by decide +kernel) ⟨Nat.le_of_ble_eq_true rfl, Nat.le_of_ble_eq_true rfl⟩) ⟨ny_blind, va_recv hK hPc (ci := 5) (q0 := 0) rfl rfl, ny_pre hPc hK hN hDc⟩ rfl rfl hl.1 rfl (lv_room (Nat.le_of_ble_eq_true rfl)) dX7_feed_19 ⟨Nat.le_of_ble_eq_true rfl, Nat.le_of_ble_eq_true rfl⟩) hS (fun q _ h => hFc q h) hFc (fun u t H locs ht hvm hw hB hz1 hk1 hS => ?_)
  obtain ⟨g_3, hP1, hD1⟩ := hB
  rw [ht] at hP1
  obtain ⟨hP, hD⟩ := va_join (wr := [(h0, .inr (7, [.ref tp, .ref rd, .ref bk, .ref fl, .ref pl]))]) (w1 := [(tp, .inr (5, [.ref yb, .int (nI (0 + 4))])), (yb, .inl (cI, 1000, .inl g_3))]) hP hD [2, 1] [0] rfl rfl (by decide) (by decide) hk1 hFc hP1 hD1
  have hP : va_P D vwCl [(h0, .inr (7, [.ref tp, .ref rd, .ref bk, .ref fl, .ref pl])), (tp, .inr (5, [.ref yb, .int (nI (0 + 4))])), (yb, .inl (cI, 1000, .inl g_3))] H := hP
  have hD : va_D A [(h0, .inr (7, [.ref tp, .ref rd, .ref bk, .ref fl, .ref pl])), (tp, .inr (5, [.ref yb, .int (nI (0 + 4))])), (yb, .inl (cI, 1000, .inl g_3))] := hD
  refine lv_aload_n hx hb dX7_feed_22 rfl (lv_at hl 0 rfl) ?_
  refine va_get (D := D) (ci := 7) (v := .ref tp) (C := RX7) (T := TX7) (N := 5) hx hb hts iw_k_feed_7 hown hK hP 0 rfl rfl 0 (by decide) (hts (.fieldLink RX7 12 "FlightDesk" "tape" "LFlightDesk$Tape;") (by decide +kernel)) (fun _ h9 => h9) rfl dX7_feed_23 ?_
  refine lv_iload_n hx hb dX7_feed_26 rfl (lv_at hl 2 rfl) ?_
  have hPc := hP.sub (ws' := [(tp, .inr (5, [.ref yb, .int (nI (0 + 4))])), (yb, .inl (cI, 1000, .inl g_3))]) [1, 2] rfl
  have hDc := hD.sub (ws' := [(tp, .inr (5, [.ref yb, .int (nI (0 + 4))])), (yb, .inl (cI, 1000, .inl g_3))]) [1, 2] (by decide) rfl
  have hFc := va_free (wc := [(tp, .inr (5, [.ref yb, .int (nI (0 + 4))])), (yb, .inl (cI, 1000, .inl g_3))]) hD hS hA [1, 2] rfl
  refine va_callv (va_runV (As := [.int x2]) (rest := []) ⟨hx, hb, hml, hown, hts⟩ (k_put l D cI cB cP H.size tp yb (0 + 4) x2 g_3 (by decide)) (cwV 1 hts gw_k_feed_1 rfl rfl rfl (by decide +kernel) ⟨Nat.le_of_ble_eq_true rfl, Nat.le_of_ble_eq_true rfl⟩) ⟨ny_blind, va_recv hK hPc (ci := 5) (q0 := 0) rfl rfl, ny_pre hPc hK hN hDc⟩ rfl rfl hl.1 rfl (lv_room (Nat.le_of_ble_eq_true rfl)) dX7_feed_27 ⟨Nat.le_of_ble_eq_true rfl, Nat.le_of_ble_eq_true rfl⟩) hS (fun q _ h => hFc q h) hFc (fun u t H locs ht hvm hw hB hz1 hk1 hS => ?_)
  obtain ⟨g_5, hP1, hD1⟩ := hB
  rw [ht] at hP1
  obtain ⟨hP, hD⟩ := va_join (wr := [(h0, .inr (7, [.ref tp, .ref rd, .ref bk, .ref fl, .ref pl]))]) (w1 := [(tp, .inr (5, [.ref yb, .int (nI ((0 + 4) + 4))])), (yb, .inl (cI, 1000, .inl g_5))]) hP hD [1, 2] [0] rfl rfl (by decide) (by decide) hk1 hFc hP1 hD1
  have hP : va_P D vwCl [(h0, .inr (7, [.ref tp, .ref rd, .ref bk, .ref fl, .ref pl])), (tp, .inr (5, [.ref yb, .int (nI ((0 + 4) + 4))])), (yb, .inl (cI, 1000, .inl g_5))] H := hP
  have hD : va_D A [(h0, .inr (7, [.ref tp, .ref rd, .ref bk, .ref fl, .ref pl])), (tp, .inr (5, [.ref yb, .int (nI ((0 + 4) + 4))])), (yb, .inl (cI, 1000, .inl g_5))] := hD
  refine lv_aload_n hx hb dX7_feed_30 rfl (lv_at hl 0 rfl) ?_
  refine va_get (D := D) (ci := 7) (v := .ref tp) (C := RX7) (T := TX7) (N := 5) hx hb hts iw_k_feed_7 hown hK hP 0 rfl rfl 0 (by decide) (hts (.fieldLink RX7 12 "FlightDesk" "tape" "LFlightDesk$Tape;") (by decide +kernel)) (fun _ h9 => h9) rfl dX7_feed_31 ?_
  refine lv_iload_n hx hb dX7_feed_34 rfl (lv_at hl 3 rfl) ?_
  have hPc := hP.sub (ws' := [(tp, .inr (5, [.ref yb, .int (nI ((0 + 4) + 4))])), (yb, .inl (cI, 1000, .inl g_5))]) [1, 2] rfl
  have hDc := hD.sub (ws' := [(tp, .inr (5, [.ref yb, .int (nI ((0 + 4) + 4))])), (yb, .inl (cI, 1000, .inl g_5))]) [1, 2] (by decide) rfl
  have hFc := va_free (wc := [(tp, .inr (5, [.ref yb, .int (nI ((0 + 4) + 4))])), (yb, .inl (cI, 1000, .inl g_5))]) hD hS hA [1, 2] rfl
  refine va_callv (va_runV (As := [.int x3]) (rest := []) ⟨hx, hb, hml, hown, hts⟩ (k_put l D cI cB cP H.size tp yb ((0 + 4) + 4) x3 g_5 (by decide)) (cwV 1 hts gw_k_feed_1 rfl rfl rfl (by decide +kernel) ⟨Nat.le_of_ble_eq_true rfl, Nat.le_of_ble_eq_true rfl⟩) ⟨ny_blind, va_recv hK hPc (ci := 5) (q0 := 0) rfl rfl, ny_pre hPc hK hN hDc⟩ rfl rfl hl.1 rfl (lv_room (Nat.le_of_ble_eq_true rfl)) dX7_feed_35 ⟨Nat.le_of_ble_eq_true rfl, Nat.le_of_ble_eq_true rfl⟩) hS (fun q _ h => hFc q h) hFc (fun u t H locs ht hvm hw hB hz1 hk1 hS => ?_)
  obtain ⟨g_7, hP1, hD1⟩ := hB
  rw [ht] at hP1
  obtain ⟨hP, hD⟩ := va_join (wr := [(h0, .inr (7, [.ref tp, .ref rd, .ref bk, .ref fl, .ref pl]))]) (w1 := [(tp, .inr (5, [.ref yb, .int (nI (((0 + 4) + 4) + 4))])), (yb, .inl (cI, 1000, .inl g_7))]) hP hD [1, 2] [0] rfl rfl (by decide) (by decide) hk1 hFc hP1 hD1
  have hP : va_P D vwCl [(h0, .inr (7, [.ref tp, .ref rd, .ref bk, .ref fl, .ref pl])), (tp, .inr (5, [.ref yb, .int (nI (((0 + 4) + 4) + 4))])), (yb, .inl (cI, 1000, .inl g_7))] H := hP
  have hD : va_D A [(h0, .inr (7, [.ref tp, .ref rd, .ref bk, .ref fl, .ref pl])), (tp, .inr (5, [.ref yb, .int (nI (((0 + 4) + 4) + 4))])), (yb, .inl (cI, 1000, .inl g_7))] := hD
  refine lv_aload_n hx hb dX7_feed_38 rfl (lv_at hl 0 rfl) ?_
  refine va_get (D := D) (ci := 7) (v := .ref tp) (C := RX7) (T := TX7) (N := 5) hx hb hts iw_k_feed_7 hown hK hP 0 rfl rfl 0 (by decide) (hts (.fieldLink RX7 12 "FlightDesk" "tape" "LFlightDesk$Tape;") (by decide +kernel)) (fun _ h9 => h9) rfl dX7_feed_39 ?_
  refine lv_iload hx hb dX7_feed_42 (lv_at hl 4 rfl) ?_
  have hPc := hP.sub (ws' := [(tp, .inr (5, [.ref yb, .int (nI (((0 + 4) + 4) + 4))])), (yb, .inl (cI, 1000, .inl g_7))]) [1, 2] rfl
  have hDc := hD.sub (ws' := [(tp, .inr (5, [.ref yb, .int (nI (((0 + 4) + 4) + 4))])), (yb, .inl (cI, 1000, .inl g_7))]) [1, 2] (by decide) rfl
  have hFc := va_free (wc := [(tp, .inr (5, [.ref yb, .int (nI (((0 + 4) + 4) + 4))])), (yb, .inl (cI, 1000, .inl g_7))]) hD hS hA [1, 2] rfl
  refine va_callv (va_runV (As := [.int x4]) (rest := []) ⟨hx, hb, hml, hown, hts⟩ (k_put l D cI cB cP H.size tp yb (((0 + 4) + 4) + 4) x4 g_7 (by decide)) (cwV 1 hts gw_k_feed_1 rfl rfl rfl (by decide +kernel) ⟨Nat.le_of_ble_eq_true rfl, Nat.le_of_ble_eq_true rfl⟩) ⟨ny_blind, va_recv hK hPc (ci := 5) (q0 := 0) rfl rfl, ny_pre hPc hK hN hDc⟩ rfl rfl hl.1 rfl (lv_room (Nat.le_of_ble_eq_true rfl)) dX7_feed_44 ⟨Nat.le_of_ble_eq_true rfl, Nat.le_of_ble_eq_true rfl⟩) hS (fun q _ h => hFc q h) hFc (fun u t H locs ht hvm hw hB hz1 hk1 hS => ?_)
  obtain ⟨g_9, hP1, hD1⟩ := hB
  rw [ht] at hP1
  obtain ⟨hP, hD⟩ := va_join (wr := [(h0, .inr (7, [.ref tp, .ref rd, .ref bk, .ref fl, .ref pl]))]) (w1 := [(tp, .inr (5, [.ref yb, .int (nI ((((0 + 4) + 4) + 4) + 4))])), (yb, .inl (cI, 1000, .inl g_9))]) hP hD [1, 2] [0] rfl rfl (by decide) (by decide) hk1 hFc hP1 hD1
  have hP : va_P D vwCl [(h0, .inr (7, [.ref tp, .ref rd, .ref bk, .ref fl, .ref pl])), (tp, .inr (5, [.ref yb, .int (nI ((((0 + 4) + 4) + 4) + 4))])), (yb, .inl (cI, 1000, .inl g_9))] H := hP
  have hD : va_D A [(h0, .inr (7, [.ref tp, .ref rd, .ref bk, .ref fl, .ref pl])), (tp, .inr (5, [.ref yb, .int (nI ((((0 + 4) + 4) + 4) + 4))])), (yb, .inl (cI, 1000, .inl g_9))] := hD
  refine lv_aload_n hx hb dX7_feed_47 rfl (lv_at hl 0 rfl) ?_
  refine va_get (D := D) (ci := 7) (v := .ref tp) (C := RX7) (T := TX7) (N := 5) hx hb hts iw_k_feed_7 hown hK hP 0 rfl rfl 0 (by decide) (hts (.fieldLink RX7 12 "FlightDesk" "tape" "LFlightDesk$Tape;") (by decide +kernel)) (fun _ h9 => h9) rfl dX7_feed_48 ?_
  refine lv_iload hx hb dX7_feed_51 (lv_at hl 5 rfl) ?_
  have hPc := hP.sub (ws' := [(tp, .inr (5, [.ref yb, .int (nI ((((0 + 4) + 4) + 4) + 4))])), (yb, .inl (cI, 1000, .inl g_9))]) [1, 2] rfl
  have hDc := hD.sub (ws' := [(tp, .inr (5, [.ref yb, .int (nI ((((0 + 4) + 4) + 4) + 4))])), (yb, .inl (cI, 1000, .inl g_9))]) [1, 2] (by decide) rfl
  have hFc := va_free (wc := [(tp, .inr (5, [.ref yb, .int (nI ((((0 + 4) + 4) + 4) + 4))])), (yb, .inl (cI, 1000, .inl g_9))]) hD hS hA [1, 2] rfl
  refine va_callv (va_runV (As := [.int x5]) (rest := []) ⟨hx, hb, hml, hown, hts⟩ (k_put l D cI cB cP H.size tp yb ((((0 + 4) + 4) + 4) + 4) x5 g_9 (by decide)) (cwV 1 hts gw_k_feed_1 rfl rfl rfl (by decide +kernel) ⟨Nat.le_of_ble_eq_true rfl, Nat.le_of_ble_eq_true rfl⟩) ⟨ny_blind, va_recv hK hPc (ci := 5) (q0 := 0) rfl rfl, ny_pre hPc hK hN hDc⟩ rfl rfl hl.1 rfl (lv_room (Nat.le_of_ble_eq_true rfl)) dX7_feed_53 ⟨Nat.le_of_ble_eq_true rfl, Nat.le_of_ble_eq_true rfl⟩) hS (fun q _ h => hFc q h) hFc (fun u t H locs ht hvm hw hB hz1 hk1 hS => ?_)
  obtain ⟨g_11, hP1, hD1⟩ := hB
  rw [ht] at hP1
  obtain ⟨hP, hD⟩ := va_join (wr := [(h0, .inr (7, [.ref tp, .ref rd, .ref bk, .ref fl, .ref pl]))]) (w1 := [(tp, .inr (5, [.ref yb, .int (nI (((((0 + 4) + 4) + 4) + 4) + 4))])), (yb, .inl (cI, 1000, .inl g_11))]) hP hD [1, 2] [0] rfl rfl (by decide) (by decide) hk1 hFc hP1 hD1
  have hP : va_P D vwCl [(h0, .inr (7, [.ref tp, .ref rd, .ref bk, .ref fl, .ref pl])), (tp, .inr (5, [.ref yb, .int (nI (((((0 + 4) + 4) + 4) + 4) + 4))])), (yb, .inl (cI, 1000, .inl g_11))] H := hP
  have hD : va_D A [(h0, .inr (7, [.ref tp, .ref rd, .ref bk, .ref fl, .ref pl])), (tp, .inr (5, [.ref yb, .int (nI (((((0 + 4) + 4) + 4) + 4) + 4))])), (yb, .inl (cI, 1000, .inl g_11))] := hD
  refine lv_aload_n hx hb dX7_feed_56 rfl (lv_at hl 0 rfl) ?_
  refine va_get (D := D) (ci := 7) (v := .ref tp) (C := RX7) (T := TX7) (N := 5) hx hb hts iw_k_feed_7 hown hK hP 0 rfl rfl 0 (by decide) (hts (.fieldLink RX7 12 "FlightDesk" "tape" "LFlightDesk$Tape;") (by decide +kernel)) (fun _ h9 => h9) rfl dX7_feed_57 ?_
  refine va_get (D := D) (ci := 5) (v := .int (nI (((((0 + 4) + 4) + 4) + 4) + 4))) (C := RX5) (T := TX5) (N := 2) hx hb hts iw_k_feed_5 hown hK hP 1 rfl rfl 1 (by decide) (hts (.fieldLink RX7 61 "FlightDesk$Tape" "length" "I") (by decide +kernel)) (fun _ h9 => h9) rfl dX7_feed_60 ?_
  refine W.widen (k := 0) (n := 0) (by decide) (by decide) ?_
  exact W.iret (v := nI (((((0 + 4) + 4) + 4) + 4) + 4)) hx hb hr (fun t ht hW => ⟨⟨nI (((((0 + 4) + 4) + 4) + 4) + 4), (), rfl, rfl, trivial⟩, hS.F ht⟩) hS.2.2 dX7_feed_63

def wk_k_end : List Cond := .code yX7_end cX7_end 2 (some .int) :: ([.fieldLink RX7 12 "FlightDesk" "tape" "LFlightDesk$Tape;", .fieldLink RX7 61 "FlightDesk$Tape" "length" "I"] ++ wsX70 ++ wsX50)
theorem iw_k_end_7 : ∀ w ∈ wsX70, w ∈ wk_k_end := fun _ h => List.mem_cons_of_mem _ (List.mem_append_left _ (List.mem_append_right _ h))
theorem iw_k_end_5 : ∀ w ∈ wsX50, w ∈ wk_k_end := fun _ h => List.mem_cons_of_mem _ (List.mem_append_right _ h)
set_option maxHeartbeats 4000000 in
set_option maxRecDepth 100000 in
theorem k_end (l : Launch) (D : va_G) (cI cB cP : ClassId) (sz : Nat) (h0 : Nat) (tp : Nat) (rd : Nat) (bk : Nat) (fl : Nat) (pl : Nat) (yb : Nat) (n : Int32) : Met l yX7_end wk_k_end ({ frames := 0, cells := 0, slots := 0, locals := 0 } : Room) (va_Pc [.ref h0, .int n] (Pw D cI cB cP sz [(h0, .inr (7, [.ref tp, .ref rd, .ref bk, .ref fl, .ref pl])), (tp, .inr (5, [.ref yb, .int 0]))])) (va_Qi (fun (r : Int32) (_ : Unit) => r = s_end n) (fun _ _ => True) (va_A [(h0, .inr (7, [.ref tp, .ref rd, .ref bk, .ref fl, .ref pl])), (tp, .inr (5, [.ref yb, .int 0]))] sz)) 0 0 (va_A [(h0, .inr (7, [.ref tp, .ref rd, .ref bk, .ref fl, .ref pl])), (tp, .inr (5, [.ref yb, .int 0]))] sz) := by
  refine Met.ofW (cc := cX7_end) (maxL := 2) (ret := (some .int)) (by decide) rfl ?_
  intro p e s m args below meth c s₁ B hml hv
  obtain ⟨rfl, hsz, hP, ⟨hK, hN⟩, hD0⟩ := hv
  have hx := B.exec
  have hb := B.bytes
  have hr := B.returns
  have hts := atoms_spec (ws := wk_k_end) B.pre
  have hown : s.vm.findClass RX7 = some m.cls := findClass_of_methodNamed B.named
  have hlocks := B.notSynchronized
  subst hsz
  have hD := hD0.self (sz := s.heap.size)
  generalize hAe : va_A [(h0, .inr (7, [.ref tp, .ref rd, .ref bk, .ref fl, .ref pl])), (tp, .inr (5, [.ref yb, .int 0]))] s.heap.size = A at hD ⊢
  have hA : ∀ q : Nat, s.heap.size ≤ q → A q := fun q h => by rw [← hAe]; exact Or.inr h
  have hS : va_S A s.heap s.heap [] := va_S.rf
  have hP : va_P D vwCl [(h0, .inr (7, [.ref tp, .ref rd, .ref bk, .ref fl, .ref pl])), (tp, .inr (5, [.ref yb, .int 0]))] s.heap := hP
  have hl := lv_entry ([.ref h0, .int n]) (n := 2) (Nat.le_of_ble_eq_true rfl)
  rw [lg_entry_eq]
  generalize (lg_sl ([.ref h0, .int n]) ++ List.replicate (2 - (lg_sl ([.ref h0, .int n])).length) Slot.unset).toArray = ls at hl ⊢
  have hl : lv_has ls 2 [(0, .ref h0), (1, .int n)] := hl
  refine lv_iload_n hx hb dX7_end_0 rfl (lv_at hl 1 rfl) ?_
  refine lv_if_lt (tgt := 15) hx hb dX7_end_1 (by decide) (fun c1 => ?_) (fun c1 => ?_)
  · refine lv_iconst (v := (-1)) hx hb dX7_end_15 (by decide) ?_
    refine W.widen (k := 0) (n := 0) (by decide) (by decide) ?_
    exact W.iret (v := (-1)) hx hb hr (fun t ht hW => ⟨⟨(-1), (), rfl, (pick_f (by simp only [Int32.lt_iff_toInt_lt, Int32.le_iff_toInt_le, ← Int32.toInt_inj, show (0 : Int32).toInt = 0 from rfl] at c1 ⊢; omega)).symm, trivial⟩, hS.F ht⟩) hS.2.2 dX7_end_16
  · refine lv_iload_n hx hb dX7_end_4 rfl (lv_at hl 1 rfl) ?_
    refine lv_aload_n hx hb dX7_end_5 rfl (lv_at hl 0 rfl) ?_
    refine va_get (D := D) (ci := 7) (v := .ref tp) (C := RX7) (T := TX7) (N := 5) hx hb hts iw_k_end_7 hown hK hP 0 rfl rfl 0 (by decide) (hts (.fieldLink RX7 12 "FlightDesk" "tape" "LFlightDesk$Tape;") (by decide +kernel)) (fun _ h9 => h9) rfl dX7_end_6 ?_
    refine va_get (D := D) (ci := 5) (v := .int 0) (C := RX5) (T := TX5) (N := 2) hx hb hts iw_k_end_5 hown hK hP 1 rfl rfl 1 (by decide) (hts (.fieldLink RX7 61 "FlightDesk$Tape" "length" "I") (by decide +kernel)) (fun _ h9 => h9) rfl dX7_end_9 ?_
    refine lv_icmp_le (tgt := 17) hx hb dX7_end_12 (by decide) (fun c2 => ?_) (fun c2 => ?_)
    · refine lv_aload_n hx hb dX7_end_17 rfl (lv_at hl 0 rfl) ?_
      refine va_get (D := D) (ci := 7) (v := .ref tp) (C := RX7) (T := TX7) (N := 5) hx hb hts iw_k_end_7 hown hK hP 0 rfl rfl 0 (by decide) (hts (.fieldLink RX7 12 "FlightDesk" "tape" "LFlightDesk$Tape;") (by decide +kernel)) (fun _ h9 => h9) rfl dX7_end_18 ?_
      refine lv_iload_n hx hb dX7_end_21 rfl (lv_at hl 1 rfl) ?_
      refine va_put (D := D) (ci := 5) (v := .int n) (ty := .int) (C := RX5) (T := TX5) (N := 2) hx hb hts iw_k_end_5 tyX5 tyX5_ok nmX5 hown hK hP hD hS 1 rfl rfl 1 (by decide) (hts (.fieldLink RX7 61 "FlightDesk$Tape" "length" "I") (by decide +kernel)) (fun _ h9 => h9) rfl (by decide +kernel) rfl rfl (Nat.le_of_ble_eq_true rfl) dX7_end_22 (fun H locs hP hD hS => ?_)
      have hP : va_P D vwCl [(h0, .inr (7, [.ref tp, .ref rd, .ref bk, .ref fl, .ref pl])), (tp, .inr (5, [.ref yb, .int n]))] H := hP
      have hD : va_D A [(h0, .inr (7, [.ref tp, .ref rd, .ref bk, .ref fl, .ref pl])), (tp, .inr (5, [.ref yb, .int n]))] := hD
      refine lv_iload_n hx hb dX7_end_25 rfl (lv_at hl 1 rfl) ?_
      refine W.widen (k := 0) (n := 0) (by decide) (by decide) ?_
      exact W.iret (v := n) hx hb hr (fun t ht hW => ⟨⟨n, (), rfl, (by rw [s_end, pick_t (by simp only [Int32.lt_iff_toInt_lt, Int32.le_iff_toInt_le, ← Int32.toInt_inj, show (0 : Int32).toInt = 0 from rfl] at c1 c2 ⊢; omega)]; simp only [Int32.lt_iff_toInt_lt, Int32.le_iff_toInt_le, ← Int32.toInt_inj, show (0 : Int32).toInt = 0 from rfl] at c1 c2 ⊢; omega), trivial⟩, hS.F ht⟩) hS.2.2 dX7_end_26
    · refine lv_iconst (v := (-1)) hx hb dX7_end_15 (by decide) ?_
      refine W.widen (k := 0) (n := 0) (by decide) (by decide) ?_
      exact W.iret (v := (-1)) hx hb hr (fun t ht hW => ⟨⟨(-1), (), rfl, (pick_f (by simp only [Int32.lt_iff_toInt_lt, Int32.le_iff_toInt_le, ← Int32.toInt_inj, show (0 : Int32).toInt = 0 from rfl] at c1 c2 ⊢; omega)).symm, trivial⟩, hS.F ht⟩) hS.2.2 dX7_end_16
