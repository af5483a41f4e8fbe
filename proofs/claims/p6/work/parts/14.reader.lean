def wk_k_refuse : List Cond := .code yX3_refuse cX3_refuse 2 none :: ([.fieldLink RX3 27 "FlightDesk$Reader" "found" "I", .fieldLink RX3 14 "FlightDesk$Reader" "scanner" "LFlightDesk$Scanner;", .fieldLink RX3 173 "FlightDesk$Scanner" "place" "[I", .fieldLink RX3 43 "FlightDesk$Reader" "current" "I", .fieldLink RX3 31 "FlightDesk$Reader" "foundAt" "I"] ++ wsX30 ++ wsX40)
theorem iw_k_refuse_3 : ∀ w ∈ wsX30, w ∈ wk_k_refuse := fun _ h => List.mem_cons_of_mem _ (List.mem_append_left _ (List.mem_append_right _ h))
theorem iw_k_refuse_4 : ∀ w ∈ wsX40, w ∈ wk_k_refuse := fun _ h => List.mem_cons_of_mem _ (List.mem_append_right _ h)
set_option maxHeartbeats 4000000 in
set_option maxRecDepth 100000 in
theorem k_refuse (l : Launch) (D : va_G) (cI cB cP : ClassId) (sz : Nat) (h0 : Nat) (sc : Nat) (dr : Nat) (fo : Int32) (fa : Int32) (cu : Int32) (tp : Nat) (s2 : Nat) (s3 : Nat) (s4 : Nat) (ct : Int32) (nx : Int32) (k : Int32) (fp : Nat → Int32) (hc9 : 0 ≤ cu.toInt ∧ cu.toInt ≤ 11) (ht9 : 0 ≤ ct.toInt ∧ ct.toInt ≤ 12) : Met l yX3_refuse wk_k_refuse ({ frames := 0, cells := 0, slots := 0, locals := 0 } : Room) (va_Pc [.ref h0, .int k] (Pw D cI cB cP sz [(h0, .inr (3, [.ref sc, .ref dr, .int fo, .int fa, .int cu])), (sc, .inr (4, [.ref tp, .int ct, .ref s2, .ref s3, .ref s4, .int nx])), (s3, .inl (cI, 12, .inl fp))])) (va_Qv (fun (_ : Unit) => True) (fun _ t => ∃ fo9 : Int32, ∃ fa9 : Int32, va_P D vwCl [(h0, .inr (3, [.ref sc, .ref dr, .int fo9, .int fa9, .int cu])), (sc, .inr (4, [.ref tp, .int ct, .ref s2, .ref s3, .ref s4, .int nx])), (s3, .inl (cI, 12, .inl fp))] t.heap ∧ va_D (va_A [(h0, .inr (3, [.ref sc, .ref dr, .int fo, .int fa, .int cu])), (sc, .inr (4, [.ref tp, .int ct, .ref s2, .ref s3, .ref s4, .int nx])), (s3, .inl (cI, 12, .inl fp))] sz) [(h0, .inr (3, [.ref sc, .ref dr, .int fo9, .int fa9, .int cu])), (sc, .inr (4, [.ref tp, .int ct, .ref s2, .ref s3, .ref s4, .int nx])), (s3, .inl (cI, 12, .inl fp))]) (va_A [(h0, .inr (3, [.ref sc, .ref dr, .int fo, .int fa, .int cu])), (sc, .inr (4, [.ref tp, .int ct, .ref s2, .ref s3, .ref s4, .int nx])), (s3, .inl (cI, 12, .inl fp))] sz)) 0 0 (va_A [(h0, .inr (3, [.ref sc, .ref dr, .int fo, .int fa, .int cu])), (sc, .inr (4, [.ref tp, .int ct, .ref s2, .ref s3, .ref s4, .int nx])), (s3, .inl (cI, 12, .inl fp))] sz) := by
  refine Met.ofW (cc := cX3_refuse) (maxL := 2) (ret := none) (by decide) rfl ?_
  intro p e s m args below meth c s₁ B hml hv
  obtain ⟨rfl, hsz, hP, ⟨hK, hN⟩, hD0⟩ := hv
  have hx := B.exec
  have hb := B.bytes
  have hr := B.returns
  have hts := atoms_spec (ws := wk_k_refuse) B.pre
  have hown : s.vm.findClass RX3 = some m.cls := findClass_of_methodNamed B.named
  have hlocks := B.notSynchronized
  subst hsz
  have hD := hD0.self (sz := s.heap.size)
  generalize hAe : va_A [(h0, .inr (3, [.ref sc, .ref dr, .int fo, .int fa, .int cu])), (sc, .inr (4, [.ref tp, .int ct, .ref s2, .ref s3, .ref s4, .int nx])), (s3, .inl (cI, 12, .inl fp))] s.heap.size = A at hD ⊢
  have hA : ∀ q : Nat, s.heap.size ≤ q → A q := fun q h => by rw [← hAe]; exact Or.inr h
  have hS : va_S A s.heap s.heap [] := va_S.rf
  have hP : va_P D vwCl [(h0, .inr (3, [.ref sc, .ref dr, .int fo, .int fa, .int cu])), (sc, .inr (4, [.ref tp, .int ct, .ref s2, .ref s3, .ref s4, .int nx])), (s3, .inl (cI, 12, .inl fp))] s.heap := hP
  have hl := lv_entry ([.ref h0, .int k]) (n := 2) (Nat.le_of_ble_eq_true rfl)
  rw [lg_entry_eq]
  generalize (lg_sl ([.ref h0, .int k]) ++ List.replicate (2 - (lg_sl ([.ref h0, .int k])).length) Slot.unset).toArray = ls at hl ⊢
  have hl : lv_has ls 2 [(0, .ref h0), (1, .int k)] := hl
  refine lv_aload_n hx hb dX3_refuse_0 rfl (lv_at hl 0 rfl) ?_
  refine va_get (D := D) (ci := 3) (v := .int fo) (C := RX3) (T := TX3) (N := 5) hx hb hts iw_k_refuse_3 hown hK hP 0 rfl rfl 2 (by decide) (hts (.fieldLink RX3 27 "FlightDesk$Reader" "found" "I") (by decide +kernel)) (fun _ h9 => h9) rfl dX3_refuse_1 ?_
  refine lv_if_ne (tgt := 28) hx hb dX3_refuse_4 (by decide) (fun c1 => ?_) (fun c1 => ?_)
  · have tc1 : ¬ (fo.toInt = 0) := i32_neq c1
    have hP9 := hP.sub (ws' := [(h0, .inr (3, [.ref sc, .ref dr, .int fo, .int fa, .int cu])), (sc, .inr (4, [.ref tp, .int ct, .ref s2, .ref s3, .ref s4, .int nx])), (s3, .inl (cI, 12, .inl fp))]) [0, 1, 2] rfl
    have hD9 := hD.sub (ws' := [(h0, .inr (3, [.ref sc, .ref dr, .int fo, .int fa, .int cu])), (sc, .inr (4, [.ref tp, .int ct, .ref s2, .ref s3, .ref s4, .int nx])), (s3, .inl (cI, 12, .inl fp))]) [0, 1, 2] (by decide) rfl
    refine W.widen (k := 0) (n := 0) (by decide) (by decide) ?_
    exact W.vret hx hb hr (fun t ht hW => ⟨⟨(), rfl, trivial, fo, fa, by rw [ht]; exact hP9, hD9⟩, hS.F ht⟩) hS.2.2 dX3_refuse_28
  · have tc1 : fo.toInt = 0 := i32_eq c1
    refine lv_aload_n hx hb dX3_refuse_7 rfl (lv_at hl 0 rfl) ?_
    refine lv_iload_n hx hb dX3_refuse_8 rfl (lv_at hl 1 rfl) ?_
    refine va_put (D := D) (ci := 3) (v := .int k) (ty := .int) (C := RX3) (T := TX3) (N := 5) hx hb hts iw_k_refuse_3 tyX3 tyX3_ok nmX3 hown hK hP hD hS 0 rfl rfl 2 (by decide) (hts (.fieldLink RX3 27 "FlightDesk$Reader" "found" "I") (by decide +kernel)) (fun _ h9 => h9) rfl (by decide +kernel) rfl rfl (Nat.le_of_ble_eq_true rfl) dX3_refuse_9 (fun H locs hP hD hS => ?_)
    have hP : va_P D vwCl [(h0, .inr (3, [.ref sc, .ref dr, .int k, .int fa, .int cu])), (sc, .inr (4, [.ref tp, .int ct, .ref s2, .ref s3, .ref s4, .int nx])), (s3, .inl (cI, 12, .inl fp))] H := hP
    have hD : va_D A [(h0, .inr (3, [.ref sc, .ref dr, .int k, .int fa, .int cu])), (sc, .inr (4, [.ref tp, .int ct, .ref s2, .ref s3, .ref s4, .int nx])), (s3, .inl (cI, 12, .inl fp))] := hD
    refine lv_aload_n hx hb dX3_refuse_12 rfl (lv_at hl 0 rfl) ?_
    refine lv_aload_n hx hb dX3_refuse_13 rfl (lv_at hl 0 rfl) ?_
    refine va_get (D := D) (ci := 3) (v := .ref sc) (C := RX3) (T := TX3) (N := 5) hx hb hts iw_k_refuse_3 hown hK hP 0 rfl rfl 0 (by decide) (hts (.fieldLink RX3 14 "FlightDesk$Reader" "scanner" "LFlightDesk$Scanner;") (by decide +kernel)) (fun _ h9 => h9) rfl dX3_refuse_14 ?_
    refine va_get (D := D) (ci := 4) (v := .ref s3) (C := RX4) (T := TX4) (N := 6) hx hb hts iw_k_refuse_4 hown hK hP 1 rfl rfl 3 (by decide) (hts (.fieldLink RX3 173 "FlightDesk$Scanner" "place" "[I") (by decide +kernel)) (fun _ h9 => h9) rfl dX3_refuse_17 ?_
    refine lv_aload_n hx hb dX3_refuse_20 rfl (lv_at hl 0 rfl) ?_
    refine va_get (D := D) (ci := 3) (v := .int cu) (C := RX3) (T := TX3) (N := 5) hx hb hts iw_k_refuse_3 hown hK hP 0 rfl rfl 4 (by decide) (hts (.fieldLink RX3 43 "FlightDesk$Reader" "current" "I") (by decide +kernel)) (fun _ h9 => h9) rfl dX3_refuse_21 ?_
    refine va_iald hx hb hK hP 2 0 rfl rfl (vp_in_iff.mpr ⟨show 0 ≤ cu.toInt by omega, show cu.toInt < ((12 : Nat) : Int) by omega⟩) dX3_refuse_24 ?_
    refine lv_topi (fun v2 ev2 => ?_)
    refine va_put (D := D) (ci := 3) (v := .int v2) (ty := .int) (C := RX3) (T := TX3) (N := 5) hx hb hts iw_k_refuse_3 tyX3 tyX3_ok nmX3 hown hK hP hD hS 0 rfl rfl 3 (by decide) (hts (.fieldLink RX3 31 "FlightDesk$Reader" "foundAt" "I") (by decide +kernel)) (fun _ h9 => h9) rfl (by decide +kernel) rfl rfl (Nat.le_of_ble_eq_true rfl) dX3_refuse_25 (fun H locs hP hD hS => ?_)
    have hP : va_P D vwCl [(h0, .inr (3, [.ref sc, .ref dr, .int k, .int v2, .int cu])), (sc, .inr (4, [.ref tp, .int ct, .ref s2, .ref s3, .ref s4, .int nx])), (s3, .inl (cI, 12, .inl fp))] H := hP
    have hD : va_D A [(h0, .inr (3, [.ref sc, .ref dr, .int k, .int v2, .int cu])), (sc, .inr (4, [.ref tp, .int ct, .ref s2, .ref s3, .ref s4, .int nx])), (s3, .inl (cI, 12, .inl fp))] := hD
    have hP9 := hP.sub (ws' := [(h0, .inr (3, [.ref sc, .ref dr, .int k, .int v2, .int cu])), (sc, .inr (4, [.ref tp, .int ct, .ref s2, .ref s3, .ref s4, .int nx])), (s3, .inl (cI, 12, .inl fp))]) [0, 1, 2] rfl
    have hD9 := hD.sub (ws' := [(h0, .inr (3, [.ref sc, .ref dr, .int k, .int v2, .int cu])), (sc, .inr (4, [.ref tp, .int ct, .ref s2, .ref s3, .ref s4, .int nx])), (s3, .inl (cI, 12, .inl fp))]) [0, 1, 2] (by decide) rfl
    refine W.widen (k := 0) (n := 0) (by decide) (by decide) ?_
    exact W.vret hx hb hr (fun t ht hW => ⟨⟨(), rfl, trivial, k, v2, by rw [ht]; exact hP9, hD9⟩, hS.F ht⟩) hS.2.2 dX3_refuse_28

def wk_k_refuseToken : List Cond := .code yX3_refuseToken cX3_refuseToken 1 none :: ([.fieldLink RX3 14 "FlightDesk$Reader" "scanner" "LFlightDesk$Scanner;", .fieldLink RX3 46 "FlightDesk$Scanner" "kind" "[I", .fieldLink RX3 43 "FlightDesk$Reader" "current" "I", .methodLink RX3 117 yX3_refuse, .instanceMethod yX3_refuse, .selects RX3 yX3_refuse yX3_refuse, .initialized RX3, .code yX3_refuse cX3_refuse 2 none, .fieldLink RX3 27 "FlightDesk$Reader" "found" "I", .fieldLink RX3 173 "FlightDesk$Scanner" "place" "[I", .fieldLink RX3 31 "FlightDesk$Reader" "foundAt" "I"] ++ wsX30 ++ wsX40)
theorem iw_k_refuseToken_3 : ∀ w ∈ wsX30, w ∈ wk_k_refuseToken := fun _ h => List.mem_cons_of_mem _ (List.mem_append_left _ (List.mem_append_right _ h))
theorem iw_k_refuseToken_4 : ∀ w ∈ wsX40, w ∈ wk_k_refuseToken := fun _ h => List.mem_cons_of_mem _ (List.mem_append_right _ h)
set_option maxRecDepth 20000 in
theorem gw_k_refuseToken_0 : GoodIn wk_k_refuseToken (wsV RX3 117 RX3 yX3_refuse wk_k_refuse) := goodIn_sub (by decide +kernel) (by decide +kernel)
set_option maxHeartbeats 4000000 in
set_option maxRecDepth 100000 in
theorem k_refuseToken (l : Launch) (D : va_G) (cI cB cP : ClassId) (sz : Nat) (h0 : Nat) (sc : Nat) (dr : Nat) (fo : Int32) (fa : Int32) (cu : Int32) (tp : Nat) (s2 : Nat) (s3 : Nat) (s4 : Nat) (ct : Int32) (nx : Int32) (fk : Nat → Int32) (fp : Nat → Int32) (hc9 : 0 ≤ cu.toInt ∧ cu.toInt ≤ 11) (ht9 : 0 ≤ ct.toInt ∧ ct.toInt ≤ 12) : Met l yX3_refuseToken wk_k_refuseToken ({ frames := 1, cells := 0, slots := 0, locals := 21 } : Room) (va_Pc [.ref h0] (Pw D cI cB cP sz [(h0, .inr (3, [.ref sc, .ref dr, .int fo, .int fa, .int cu])), (sc, .inr (4, [.ref tp, .int ct, .ref s2, .ref s3, .ref s4, .int nx])), (s2, .inl (cI, 12, .inl fk)), (s3, .inl (cI, 12, .inl fp))])) (va_Qv (fun (_ : Unit) => True) (fun _ t => ∃ fo9 : Int32, ∃ fa9 : Int32, va_P D vwCl [(h0, .inr (3, [.ref sc, .ref dr, .int fo9, .int fa9, .int cu])), (sc, .inr (4, [.ref tp, .int ct, .ref s2, .ref s3, .ref s4, .int nx])), (s2, .inl (cI, 12, .inl fk)), (s3, .inl (cI, 12, .inl fp))] t.heap ∧ va_D (va_A [(h0, .inr (3, [.ref sc, .ref dr, .int fo, .int fa, .int cu])), (sc, .inr (4, [.ref tp, .int ct, .ref s2, .ref s3, .ref s4, .int nx])), (s2, .inl (cI, 12, .inl fk)), (s3, .inl (cI, 12, .inl fp))] sz) [(h0, .inr (3, [.ref sc, .ref dr, .int fo9, .int fa9, .int cu])), (sc, .inr (4, [.ref tp, .int ct, .ref s2, .ref s3, .ref s4, .int nx])), (s2, .inl (cI, 12, .inl fk)), (s3, .inl (cI, 12, .inl fp))]) (va_A [(h0, .inr (3, [.ref sc, .ref dr, .int fo, .int fa, .int cu])), (sc, .inr (4, [.ref tp, .int ct, .ref s2, .ref s3, .ref s4, .int nx])), (s2, .inl (cI, 12, .inl fk)), (s3, .inl (cI, 12, .inl fp))] sz)) 0 0 (va_A [(h0, .inr (3, [.ref sc, .ref dr, .int fo, .int fa, .int cu])), (sc, .inr (4, [.ref tp, .int ct, .ref s2, .ref s3, .ref s4, .int nx])), (s2, .inl (cI, 12, .inl fk)), (s3, .inl (cI, 12, .inl fp))] sz) := by
  refine Met.ofW (cc := cX3_refuseToken) (maxL := 1) (ret := none) (by decide) rfl ?_
  intro p e s m args below meth c s₁ B hml hv
  obtain ⟨rfl, hsz, hP, ⟨hK, hN⟩, hD0⟩ := hv
  have hx := B.exec
  have hb := B.bytes
  have hr := B.returns
  have hts := atoms_spec (ws := wk_k_refuseToken) B.pre
  have hown : s.vm.findClass RX3 = some m.cls := findClass_of_methodNamed B.named
  have hlocks := B.notSynchronized
  subst hsz
  have hD := hD0.self (sz := s.heap.size)
  generalize hAe : va_A [(h0, .inr (3, [.ref sc, .ref dr, .int fo, .int fa, .int cu])), (sc, .inr (4, [.ref tp, .int ct, .ref s2, .ref s3, .ref s4, .int nx])), (s2, .inl (cI, 12, .inl fk)), (s3, .inl (cI, 12, .inl fp))] s.heap.size = A at hD ⊢
  have hA : ∀ q : Nat, s.heap.size ≤ q → A q := fun q h => by rw [← hAe]; exact Or.inr h
  have hS : va_S A s.heap s.heap [] := va_S.rf
  have hP : va_P D vwCl [(h0, .inr (3, [.ref sc, .ref dr, .int fo, .int fa, .int cu])), (sc, .inr (4, [.ref tp, .int ct, .ref s2, .ref s3, .ref s4, .int nx])), (s2, .inl (cI, 12, .inl fk)), (s3, .inl (cI, 12, .inl fp))] s.heap := hP
  have hl := lv_entry ([.ref h0]) (n := 1) (Nat.le_of_ble_eq_true rfl)
  rw [lg_entry_eq]
  generalize (lg_sl ([.ref h0]) ++ List.replicate (1 - (lg_sl ([.ref h0])).length) Slot.unset).toArray = ls at hl ⊢
  have hl : lv_has ls 1 [(0, .ref h0)] := hl
  refine lv_aload_n hx hb dX3_refuseToken_0 rfl (lv_at hl 0 rfl) ?_
  refine lv_aload_n hx hb dX3_refuseToken_1 rfl (lv_at hl 0 rfl) ?_
  refine va_get (D := D) (ci := 3) (v := .ref sc) (C := RX3) (T := TX3) (N := 5) hx hb hts iw_k_refuseToken_3 hown hK hP 0 rfl rfl 0 (by decide) (hts (.fieldLink RX3 14 "FlightDesk$Reader" "scanner" "LFlightDesk$Scanner;") (by decide +kernel)) (fun _ h9 => h9) rfl dX3_refuseToken_2 ?_
  refine va_get (D := D) (ci := 4) (v := .ref s2) (C := RX4) (T := TX4) (N := 6) hx hb hts iw_k_refuseToken_4 hown hK hP 1 rfl rfl 2 (by decide) (hts (.fieldLink RX3 46 "FlightDesk$Scanner" "kind" "[I") (by decide +kernel)) (fun _ h9 => h9) rfl dX3_refuseToken_5 ?_
  refine lv_aload_n hx hb dX3_refuseToken_8 rfl (lv_at hl 0 rfl) ?_
  refine va_get (D := D) (ci := 3) (v := .int cu) (C := RX3) (T := TX3) (N := 5) hx hb hts iw_k_refuseToken_3 hown hK hP 0 rfl rfl 4 (by decide) (hts (.fieldLink RX3 43 "FlightDesk$Reader" "current" "I") (by decide +kernel)) (fun _ h9 => h9) rfl dX3_refuseToken_9 ?_
  refine va_iald hx hb hK hP 2 0 rfl rfl (vp_in_iff.mpr ⟨show 0 ≤ cu.toInt by omega, show cu.toInt < ((12 : Nat) : Int) by omega⟩) dX3_refuseToken_12 ?_
  refine lv_topi (fun v1 ev1 => ?_)
  refine lv_iconst (v := 4) hx hb dX3_refuseToken_13 (by decide) ?_
  refine lv_icmp_ne (tgt := 21) hx hb dX3_refuseToken_14 (by decide) (fun c2 => ?_) (fun c2 => ?_)
  · have tc2 : ¬ (v1.toInt = 4) := i32_neq c2
    refine lv_iconst (v := 2) hx hb dX3_refuseToken_21 (by decide) ?_
    have hPc := hP.sub (ws' := [(h0, .inr (3, [.ref sc, .ref dr, .int fo, .int fa, .int cu])), (sc, .inr (4, [.ref tp, .int ct, .ref s2, .ref s3, .ref s4, .int nx])), (s3, .inl (cI, 12, .inl fp))]) [0, 1, 3] rfl
    have hDc := hD.sub (ws' := [(h0, .inr (3, [.ref sc, .ref dr, .int fo, .int fa, .int cu])), (sc, .inr (4, [.ref tp, .int ct, .ref s2, .ref s3, .ref s4, .int nx])), (s3, .inl (cI, 12, .inl fp))]) [0, 1, 3] (by decide) rfl
    have hFc := va_free (wc := [(h0, .inr (3, [.ref sc, .ref dr, .int fo, .int fa, .int cu])), (sc, .inr (4, [.ref tp, .int ct, .ref s2, .ref s3, .ref s4, .int nx])), (s3, .inl (cI, 12, .inl fp))]) hD hS hA [0, 1, 3] rfl
    refine va_callv (va_runV (As := [.int 2]) (rest := []) ⟨hx, hb, hml, hown, hts⟩ (k_refuse l D cI cB cP s.heap.size h0 sc dr fo fa cu tp s2 s3 s4 ct nx 2 fp (show 0 ≤ cu.toInt ∧ cu.toInt ≤ 11 by first | assumption | omega | decide) (show 0 ≤ ct.toInt ∧ ct.toInt ≤ 12 by first | assumption | omega | decide)) (cwV 1 hts gw_k_refuseToken_0 rfl rfl rfl (by decide +kernel) ⟨Nat.le_of_ble_eq_true rfl, Nat.le_of_ble_eq_true rfl⟩) ⟨ny_blind, va_recv hK hPc (ci := 3) (q0 := 0) rfl rfl, ny_pre hPc hK hN hDc⟩ rfl rfl hl.1 rfl (lv_room (Nat.le_of_ble_eq_true rfl)) dX3_refuseToken_22 ⟨Nat.le_of_ble_eq_true rfl, Nat.le_of_ble_eq_true rfl⟩) hS (fun q _ h => hFc q h) hFc (fun u t H locs ht hvm hw hB hz1 hk1 hS => ?_)
    obtain ⟨fo_3, fa_4, hP1, hD1⟩ := hB
    rw [ht] at hP1
    obtain ⟨hP, hD⟩ := va_join (wr := [(s2, .inl (cI, 12, .inl fk))]) (w1 := [(h0, .inr (3, [.ref sc, .ref dr, .int fo_3, .int fa_4, .int cu])), (sc, .inr (4, [.ref tp, .int ct, .ref s2, .ref s3, .ref s4, .int nx])), (s3, .inl (cI, 12, .inl fp))]) hP hD [0, 1, 3] [2] rfl rfl (by decide) (by decide) hk1 hFc hP1 hD1
    have hP : va_P D vwCl [(s2, .inl (cI, 12, .inl fk)), (h0, .inr (3, [.ref sc, .ref dr, .int fo_3, .int fa_4, .int cu])), (sc, .inr (4, [.ref tp, .int ct, .ref s2, .ref s3, .ref s4, .int nx])), (s3, .inl (cI, 12, .inl fp))] H := hP
    have hD : va_D A [(s2, .inl (cI, 12, .inl fk)), (h0, .inr (3, [.ref sc, .ref dr, .int fo_3, .int fa_4, .int cu])), (sc, .inr (4, [.ref tp, .int ct, .ref s2, .ref s3, .ref s4, .int nx])), (s3, .inl (cI, 12, .inl fp))] := hD
    have hP9 := hP.sub (ws' := [(h0, .inr (3, [.ref sc, .ref dr, .int fo_3, .int fa_4, .int cu])), (sc, .inr (4, [.ref tp, .int ct, .ref s2, .ref s3, .ref s4, .int nx])), (s2, .inl (cI, 12, .inl fk)), (s3, .inl (cI, 12, .inl fp))]) [1, 2, 0, 3] rfl
    have hD9 := hD.sub (ws' := [(h0, .inr (3, [.ref sc, .ref dr, .int fo_3, .int fa_4, .int cu])), (sc, .inr (4, [.ref tp, .int ct, .ref s2, .ref s3, .ref s4, .int nx])), (s2, .inl (cI, 12, .inl fk)), (s3, .inl (cI, 12, .inl fp))]) [1, 2, 0, 3] (by decide) rfl
    refine W.widen (k := 0) (n := 0) (by decide) (by decide) ?_
    exact W.vret hx hb hr (fun t ht hW => ⟨⟨(), rfl, trivial, fo_3, fa_4, by rw [ht]; exact hP9, hD9⟩, hS.F ht⟩) hS.2.2 dX3_refuseToken_25
  · have tc2 : v1.toInt = 4 := i32_eq c2
    refine lv_iconst (v := 1) hx hb dX3_refuseToken_17 (by decide) ?_
    refine lv_goto (tgt := 22) hx hb dX3_refuseToken_18 (by decide) ?_
    have hPc := hP.sub (ws' := [(h0, .inr (3, [.ref sc, .ref dr, .int fo, .int fa, .int cu])), (sc, .inr (4, [.ref tp, .int ct, .ref s2, .ref s3, .ref s4, .int nx])), (s3, .inl (cI, 12, .inl fp))]) [0, 1, 3] rfl
    have hDc := hD.sub (ws' := [(h0, .inr (3, [.ref sc, .ref dr, .int fo, .int fa, .int cu])), (sc, .inr (4, [.ref tp, .int ct, .ref s2, .ref s3, .ref s4, .int nx])), (s3, .inl (cI, 12, .inl fp))]) [0, 1, 3] (by decide) rfl
    have hFc := va_free (wc := [(h0, .inr (3, [.ref sc, .ref dr, .int fo, .int fa, .int cu])), (sc, .inr (4, [.ref tp, .int ct, .ref s2, .ref s3, .ref s4, .int nx])), (s3, .inl (cI, 12, .inl fp))]) hD hS hA [0, 1, 3] rfl
    refine va_callv (va_runV (As := [.int 1]) (rest := []) ⟨hx, hb, hml, hown, hts⟩ (k_refuse l D cI cB cP s.heap.size h0 sc dr fo fa cu tp s2 s3 s4 ct nx 1 fp (show 0 ≤ cu.toInt ∧ cu.toInt ≤ 11 by first | assumption | omega | decide) (show 0 ≤ ct.toInt ∧ ct.toInt ≤ 12 by first | assumption | omega | decide)) (cwV 1 hts gw_k_refuseToken_0 rfl rfl rfl (by decide +kernel) ⟨Nat.le_of_ble_eq_true rfl, Nat.le_of_ble_eq_true rfl⟩) ⟨ny_blind, va_recv hK hPc (ci := 3) (q0 := 0) rfl rfl, ny_pre hPc hK hN hDc⟩ rfl rfl hl.1 rfl (lv_room (Nat.le_of_ble_eq_true rfl)) dX3_refuseToken_22 ⟨Nat.le_of_ble_eq_true rfl, Nat.le_of_ble_eq_true rfl⟩) hS (fun q _ h => hFc q h) hFc (fun u t H locs ht hvm hw hB hz1 hk1 hS => ?_)
    obtain ⟨fo_6, fa_7, hP1, hD1⟩ := hB
    rw [ht] at hP1
    obtain ⟨hP, hD⟩ := va_join (wr := [(s2, .inl (cI, 12, .inl fk))]) (w1 := [(h0, .inr (3, [.ref sc, .ref dr, .int fo_6, .int fa_7, .int cu])), (sc, .inr (4, [.ref tp, .int ct, .ref s2, .ref s3, .ref s4, .int nx])), (s3, .inl (cI, 12, .inl fp))]) hP hD [0, 1, 3] [2] rfl rfl (by decide) (by decide) hk1 hFc hP1 hD1
    have hP : va_P D vwCl [(s2, .inl (cI, 12, .inl fk)), (h0, .inr (3, [.ref sc, .ref dr, .int fo_6, .int fa_7, .int cu])), (sc, .inr (4, [.ref tp, .int ct, .ref s2, .ref s3, .ref s4, .int nx])), (s3, .inl (cI, 12, .inl fp))] H := hP
    have hD : va_D A [(s2, .inl (cI, 12, .inl fk)), (h0, .inr (3, [.ref sc, .ref dr, .int fo_6, .int fa_7, .int cu])), (sc, .inr (4, [.ref tp, .int ct, .ref s2, .ref s3, .ref s4, .int nx])), (s3, .inl (cI, 12, .inl fp))] := hD
    have hP9 := hP.sub (ws' := [(h0, .inr (3, [.ref sc, .ref dr, .int fo_6, .int fa_7, .int cu])), (sc, .inr (4, [.ref tp, .int ct, .ref s2, .ref s3, .ref s4, .int nx])), (s2, .inl (cI, 12, .inl fk)), (s3, .inl (cI, 12, .inl fp))]) [1, 2, 0, 3] rfl
    have hD9 := hD.sub (ws' := [(h0, .inr (3, [.ref sc, .ref dr, .int fo_6, .int fa_7, .int cu])), (sc, .inr (4, [.ref tp, .int ct, .ref s2, .ref s3, .ref s4, .int nx])), (s2, .inl (cI, 12, .inl fk)), (s3, .inl (cI, 12, .inl fp))]) [1, 2, 0, 3] (by decide) rfl
    refine W.widen (k := 0) (n := 0) (by decide) (by decide) ?_
    exact W.vret hx hb hr (fun t ht hW => ⟨⟨(), rfl, trivial, fo_6, fa_7, by rw [ht]; exact hP9, hD9⟩, hS.F ht⟩) hS.2.2 dX3_refuseToken_25

def wk_k_nextToken : List Cond := .code yX3_nextToken cX3_nextToken 1 none :: ([.fieldLink RX3 27 "FlightDesk$Reader" "found" "I", .fieldLink RX3 43 "FlightDesk$Reader" "current" "I", .fieldLink RX3 14 "FlightDesk$Reader" "scanner" "LFlightDesk$Scanner;", .fieldLink RX3 170 "FlightDesk$Scanner" "count" "I"] ++ wsX30 ++ wsX40)
theorem iw_k_nextToken_3 : ∀ w ∈ wsX30, w ∈ wk_k_nextToken := fun _ h => List.mem_cons_of_mem _ (List.mem_append_left _ (List.mem_append_right _ h))
theorem iw_k_nextToken_4 : ∀ w ∈ wsX40, w ∈ wk_k_nextToken := fun _ h => List.mem_cons_of_mem _ (List.mem_append_right _ h)
set_option maxHeartbeats 4000000 in
set_option maxRecDepth 100000 in
theorem k_nextToken (l : Launch) (D : va_G) (cI cB cP : ClassId) (sz : Nat) (h0 : Nat) (sc : Nat) (dr : Nat) (fo : Int32) (fa : Int32) (cu : Int32) (tp : Nat) (s2 : Nat) (s3 : Nat) (s4 : Nat) (ct : Int32) (nx : Int32) (hc9 : 0 ≤ cu.toInt ∧ cu.toInt ≤ 11) (ht9 : 0 ≤ ct.toInt ∧ ct.toInt ≤ 12) : Met l yX3_nextToken wk_k_nextToken ({ frames := 0, cells := 0, slots := 0, locals := 0 } : Room) (va_Pc [.ref h0] (Pw D cI cB cP sz [(h0, .inr (3, [.ref sc, .ref dr, .int fo, .int fa, .int cu])), (sc, .inr (4, [.ref tp, .int ct, .ref s2, .ref s3, .ref s4, .int nx]))])) (va_Qv (fun (_ : Unit) => True) (fun _ t => ∃ cu9 : Int32, (0 ≤ cu9.toInt ∧ cu9.toInt ≤ 11) ∧ va_P D vwCl [(h0, .inr (3, [.ref sc, .ref dr, .int fo, .int fa, .int cu9])), (sc, .inr (4, [.ref tp, .int ct, .ref s2, .ref s3, .ref s4, .int nx]))] t.heap ∧ va_D (va_A [(h0, .inr (3, [.ref sc, .ref dr, .int fo, .int fa, .int cu])), (sc, .inr (4, [.ref tp, .int ct, .ref s2, .ref s3, .ref s4, .int nx]))] sz) [(h0, .inr (3, [.ref sc, .ref dr, .int fo, .int fa, .int cu9])), (sc, .inr (4, [.ref tp, .int ct, .ref s2, .ref s3, .ref s4, .int nx]))]) (va_A [(h0, .inr (3, [.ref sc, .ref dr, .int fo, .int fa, .int cu])), (sc, .inr (4, [.ref tp, .int ct, .ref s2, .ref s3, .ref s4, .int nx]))] sz)) 0 0 (va_A [(h0, .inr (3, [.ref sc, .ref dr, .int fo, .int fa, .int cu])), (sc, .inr (4, [.ref tp, .int ct, .ref s2, .ref s3, .ref s4, .int nx]))] sz) := by
  refine Met.ofW (cc := cX3_nextToken) (maxL := 1) (ret := none) (by decide) rfl ?_
  intro p e s m args below meth c s₁ B hml hv
  obtain ⟨rfl, hsz, hP, ⟨hK, hN⟩, hD0⟩ := hv
  have hx := B.exec
  have hb := B.bytes
  have hr := B.returns
  have hts := atoms_spec (ws := wk_k_nextToken) B.pre
  have hown : s.vm.findClass RX3 = some m.cls := findClass_of_methodNamed B.named
  have hlocks := B.notSynchronized
  subst hsz
  have hD := hD0.self (sz := s.heap.size)
  generalize hAe : va_A [(h0, .inr (3, [.ref sc, .ref dr, .int fo, .int fa, .int cu])), (sc, .inr (4, [.ref tp, .int ct, .ref s2, .ref s3, .ref s4, .int nx]))] s.heap.size = A at hD ⊢
  have hA : ∀ q : Nat, s.heap.size ≤ q → A q := fun q h => by rw [← hAe]; exact Or.inr h
  have hS : va_S A s.heap s.heap [] := va_S.rf
  have hP : va_P D vwCl [(h0, .inr (3, [.ref sc, .ref dr, .int fo, .int fa, .int cu])), (sc, .inr (4, [.ref tp, .int ct, .ref s2, .ref s3, .ref s4, .int nx]))] s.heap := hP
  have hl := lv_entry ([.ref h0]) (n := 1) (Nat.le_of_ble_eq_true rfl)
  rw [lg_entry_eq]
  generalize (lg_sl ([.ref h0]) ++ List.replicate (1 - (lg_sl ([.ref h0])).length) Slot.unset).toArray = ls at hl ⊢
  have hl : lv_has ls 1 [(0, .ref h0)] := hl
  refine lv_aload_n hx hb dX3_nextToken_0 rfl (lv_at hl 0 rfl) ?_
  refine va_get (D := D) (ci := 3) (v := .int fo) (C := RX3) (T := TX3) (N := 5) hx hb hts iw_k_nextToken_3 hown hK hP 0 rfl rfl 2 (by decide) (hts (.fieldLink RX3 27 "FlightDesk$Reader" "found" "I") (by decide +kernel)) (fun _ h9 => h9) rfl dX3_nextToken_1 ?_
  refine lv_if_ne (tgt := 33) hx hb dX3_nextToken_4 (by decide) (fun c1 => ?_) (fun c1 => ?_)
  · have tc1 : ¬ (fo.toInt = 0) := i32_neq c1
    have hP9 := hP.sub (ws' := [(h0, .inr (3, [.ref sc, .ref dr, .int fo, .int fa, .int cu])), (sc, .inr (4, [.ref tp, .int ct, .ref s2, .ref s3, .ref s4, .int nx]))]) [0, 1] rfl
    have hD9 := hD.sub (ws' := [(h0, .inr (3, [.ref sc, .ref dr, .int fo, .int fa, .int cu])), (sc, .inr (4, [.ref tp, .int ct, .ref s2, .ref s3, .ref s4, .int nx]))]) [0, 1] (by decide) rfl
    refine W.widen (k := 0) (n := 0) (by decide) (by decide) ?_
    exact W.vret hx hb hr (fun t ht hW => ⟨⟨(), rfl, trivial, cu, (show 0 ≤ cu.toInt ∧ cu.toInt ≤ 11 by first | assumption | omega | decide), by rw [ht]; exact hP9, hD9⟩, hS.F ht⟩) hS.2.2 dX3_nextToken_33
  · have tc1 : fo.toInt = 0 := i32_eq c1
    refine lv_aload_n hx hb dX3_nextToken_7 rfl (lv_at hl 0 rfl) ?_
    refine va_get (D := D) (ci := 3) (v := .int cu) (C := RX3) (T := TX3) (N := 5) hx hb hts iw_k_nextToken_3 hown hK hP 0 rfl rfl 4 (by decide) (hts (.fieldLink RX3 43 "FlightDesk$Reader" "current" "I") (by decide +kernel)) (fun _ h9 => h9) rfl dX3_nextToken_8 ?_
    refine lv_iconst (v := 1) hx hb dX3_nextToken_11 (by decide) ?_
    refine lv_iadd hx hb dX3_nextToken_12 ?_
    refine lv_topi (fun v2 ev2 => ?_)
    have tv2 : v2.toInt = (cu.toInt + 1 + 2147483648) % 4294967296 - 2147483648 := i32_add ev2
    refine lv_aload_n hx hb dX3_nextToken_13 rfl (lv_at hl 0 rfl) ?_
    refine va_get (D := D) (ci := 3) (v := .ref sc) (C := RX3) (T := TX3) (N := 5) hx hb hts iw_k_nextToken_3 hown hK hP 0 rfl rfl 0 (by decide) (hts (.fieldLink RX3 14 "FlightDesk$Reader" "scanner" "LFlightDesk$Scanner;") (by decide +kernel)) (fun _ h9 => h9) rfl dX3_nextToken_14 ?_
    refine va_get (D := D) (ci := 4) (v := .int ct) (C := RX4) (T := TX4) (N := 6) hx hb hts iw_k_nextToken_4 hown hK hP 1 rfl rfl 1 (by decide) (hts (.fieldLink RX3 170 "FlightDesk$Scanner" "count" "I") (by decide +kernel)) (fun _ h9 => h9) rfl dX3_nextToken_17 ?_
    refine lv_icmp_ge (tgt := 33) hx hb dX3_nextToken_20 (by decide) (fun c3 => ?_) (fun c3 => ?_)
    · have tc3 : ct.toInt ≤ v2.toInt := i32_le c3
      have hP9 := hP.sub (ws' := [(h0, .inr (3, [.ref sc, .ref dr, .int fo, .int fa, .int cu])), (sc, .inr (4, [.ref tp, .int ct, .ref s2, .ref s3, .ref s4, .int nx]))]) [0, 1] rfl
      have hD9 := hD.sub (ws' := [(h0, .inr (3, [.ref sc, .ref dr, .int fo, .int fa, .int cu])), (sc, .inr (4, [.ref tp, .int ct, .ref s2, .ref s3, .ref s4, .int nx]))]) [0, 1] (by decide) rfl
      refine W.widen (k := 0) (n := 0) (by decide) (by decide) ?_
      exact W.vret hx hb hr (fun t ht hW => ⟨⟨(), rfl, trivial, cu, (show 0 ≤ cu.toInt ∧ cu.toInt ≤ 11 by first | assumption | omega | decide), by rw [ht]; exact hP9, hD9⟩, hS.F ht⟩) hS.2.2 dX3_nextToken_33
    · have tc3 : ¬ (ct.toInt ≤ v2.toInt) := i32_nle c3
      refine lv_aload_n hx hb dX3_nextToken_23 rfl (lv_at hl 0 rfl) ?_
      refine lv_dup hx hb dX3_nextToken_24 rfl ?_
      refine va_get (D := D) (ci := 3) (v := .int cu) (C := RX3) (T := TX3) (N := 5) hx hb hts iw_k_nextToken_3 hown hK hP 0 rfl rfl 4 (by decide) (hts (.fieldLink RX3 43 "FlightDesk$Reader" "current" "I") (by decide +kernel)) (fun _ h9 => h9) rfl dX3_nextToken_25 ?_
      refine lv_iconst (v := 1) hx hb dX3_nextToken_28 (by decide) ?_
      refine lv_iadd hx hb dX3_nextToken_29 ?_
      refine lv_topi (fun v4 ev4 => ?_)
      have tv4 : v4.toInt = (cu.toInt + 1 + 2147483648) % 4294967296 - 2147483648 := i32_add ev4
      refine va_put (D := D) (ci := 3) (v := .int v4) (ty := .int) (C := RX3) (T := TX3) (N := 5) hx hb hts iw_k_nextToken_3 tyX3 tyX3_ok nmX3 hown hK hP hD hS 0 rfl rfl 4 (by decide) (hts (.fieldLink RX3 43 "FlightDesk$Reader" "current" "I") (by decide +kernel)) (fun _ h9 => h9) rfl (by decide +kernel) rfl rfl (Nat.le_of_ble_eq_true rfl) dX3_nextToken_30 (fun H locs hP hD hS => ?_)
      have hP : va_P D vwCl [(h0, .inr (3, [.ref sc, .ref dr, .int fo, .int fa, .int v4])), (sc, .inr (4, [.ref tp, .int ct, .ref s2, .ref s3, .ref s4, .int nx]))] H := hP
      have hD : va_D A [(h0, .inr (3, [.ref sc, .ref dr, .int fo, .int fa, .int v4])), (sc, .inr (4, [.ref tp, .int ct, .ref s2, .ref s3, .ref s4, .int nx]))] := hD
      have hP9 := hP.sub (ws' := [(h0, .inr (3, [.ref sc, .ref dr, .int fo, .int fa, .int v4])), (sc, .inr (4, [.ref tp, .int ct, .ref s2, .ref s3, .ref s4, .int nx]))]) [0, 1] rfl
      have hD9 := hD.sub (ws' := [(h0, .inr (3, [.ref sc, .ref dr, .int fo, .int fa, .int v4])), (sc, .inr (4, [.ref tp, .int ct, .ref s2, .ref s3, .ref s4, .int nx]))]) [0, 1] (by decide) rfl
      refine W.widen (k := 0) (n := 0) (by decide) (by decide) ?_
      exact W.vret hx hb hr (fun t ht hW => ⟨⟨(), rfl, trivial, v4, (show 0 ≤ v4.toInt ∧ v4.toInt ≤ 11 by first | assumption | omega | decide), by rw [ht]; exact hP9, hD9⟩, hS.F ht⟩) hS.2.2 dX3_nextToken_33

def wk_k_number : List Cond := .code yX3_number cX3_number 4 (some .int) :: ([.methodLink RX3 132 yX3_nextToken, .instanceMethod yX3_nextToken, .selects RX3 yX3_nextToken yX3_nextToken, .initialized RX3, .code yX3_nextToken cX3_nextToken 1 none, .fieldLink RX3 27 "FlightDesk$Reader" "found" "I", .fieldLink RX3 43 "FlightDesk$Reader" "current" "I", .fieldLink RX3 14 "FlightDesk$Reader" "scanner" "LFlightDesk$Scanner;", .fieldLink RX3 170 "FlightDesk$Scanner" "count" "I", .fieldLink RX3 46 "FlightDesk$Scanner" "kind" "[I", .fieldLink RX3 167 "FlightDesk$Scanner" "value" "[I", .methodLink RX3 117 yX3_refuse, .instanceMethod yX3_refuse, .selects RX3 yX3_refuse yX3_refuse, .code yX3_refuse cX3_refuse 2 none, .fieldLink RX3 173 "FlightDesk$Scanner" "place" "[I", .fieldLink RX3 31 "FlightDesk$Reader" "foundAt" "I", .methodLink RX3 59 yX3_refuseToken, .instanceMethod yX3_refuseToken, .selects RX3 yX3_refuseToken yX3_refuseToken, .code yX3_refuseToken cX3_refuseToken 1 none] ++ wsX30 ++ wsX40)
theorem iw_k_number_3 : ∀ w ∈ wsX30, w ∈ wk_k_number := fun _ h => List.mem_cons_of_mem _ (List.mem_append_left _ (List.mem_append_right _ h))
theorem iw_k_number_4 : ∀ w ∈ wsX40, w ∈ wk_k_number := fun _ h => List.mem_cons_of_mem _ (List.mem_append_right _ h)
set_option maxRecDepth 20000 in
theorem gw_k_number_0 : GoodIn wk_k_number (wsV RX3 132 RX3 yX3_nextToken wk_k_nextToken) := goodIn_sub (by decide +kernel) (by decide +kernel)
set_option maxRecDepth 20000 in
theorem gw_k_number_1 : GoodIn wk_k_number (wsV RX3 117 RX3 yX3_refuse wk_k_refuse) := goodIn_sub (by decide +kernel) (by decide +kernel)
set_option maxRecDepth 20000 in
theorem gw_k_number_2 : GoodIn wk_k_number (wsV RX3 59 RX3 yX3_refuseToken wk_k_refuseToken) := goodIn_sub (by decide +kernel) (by decide +kernel)
set_option maxHeartbeats 4000000 in
set_option maxRecDepth 100000 in
theorem k_number (l : Launch) (D : va_G) (cI cB cP : ClassId) (sz : Nat) (h0 : Nat) (sc : Nat) (dr : Nat) (fo : Int32) (fa : Int32) (cu : Int32) (tp : Nat) (s2 : Nat) (s3 : Nat) (s4 : Nat) (ct : Int32) (nx : Int32) (a : Int32) (b : Int32) (fk : Nat → Int32) (fp : Nat → Int32) (fv : Nat → Int32) (hc9 : 0 ≤ cu.toInt ∧ cu.toInt ≤ 11) (ht9 : 0 ≤ ct.toInt ∧ ct.toInt ≤ 12) : Met l yX3_number wk_k_number ({ frames := 2, cells := 0, slots := 0, locals := 41 } : Room) (va_Pc [.ref h0, .int a, .int b] (Pw D cI cB cP sz [(h0, .inr (3, [.ref sc, .ref dr, .int fo, .int fa, .int cu])), (sc, .inr (4, [.ref tp, .int ct, .ref s2, .ref s3, .ref s4, .int nx])), (s2, .inl (cI, 12, .inl fk)), (s3, .inl (cI, 12, .inl fp)), (s4, .inl (cI, 12, .inl fv))])) (va_Qi (fun (r : Int32) (_ : Unit) => r.toInt = a.toInt ∨ (a.toInt ≤ r.toInt ∧ r.toInt ≤ b.toInt)) (fun _ t => ∃ fo9 : Int32, ∃ fa9 : Int32, ∃ cu9 : Int32, (0 ≤ cu9.toInt ∧ cu9.toInt ≤ 11) ∧ va_P D vwCl [(h0, .inr (3, [.ref sc, .ref dr, .int fo9, .int fa9, .int cu9])), (sc, .inr (4, [.ref tp, .int ct, .ref s2, .ref s3, .ref s4, .int nx])), (s2, .inl (cI, 12, .inl fk)), (s3, .inl (cI, 12, .inl fp)), (s4, .inl (cI, 12, .inl fv))] t.heap ∧ va_D (va_A [(h0, .inr (3, [.ref sc, .ref dr, .int fo, .int fa, .int cu])), (sc, .inr (4, [.ref tp, .int ct, .ref s2, .ref s3, .ref s4, .int nx])), (s2, .inl (cI, 12, .inl fk)), (s3, .inl (cI, 12, .inl fp)), (s4, .inl (cI, 12, .inl fv))] sz) [(h0, .inr (3, [.ref sc, .ref dr, .int fo9, .int fa9, .int cu9])), (sc, .inr (4, [.ref tp, .int ct, .ref s2, .ref s3, .ref s4, .int nx])), (s2, .inl (cI, 12, .inl fk)), (s3, .inl (cI, 12, .inl fp)), (s4, .inl (cI, 12, .inl fv))]) (va_A [(h0, .inr (3, [.ref sc, .ref dr, .int fo, .int fa, .int cu])), (sc, .inr (4, [.ref tp, .int ct, .ref s2, .ref s3, .ref s4, .int nx])), (s2, .inl (cI, 12, .inl fk)), (s3, .inl (cI, 12, .inl fp)), (s4, .inl (cI, 12, .inl fv))] sz)) 0 0 (va_A [(h0, .inr (3, [.ref sc, .ref dr, .int fo, .int fa, .int cu])), (sc, .inr (4, [.ref tp, .int ct, .ref s2, .ref s3, .ref s4, .int nx])), (s2, .inl (cI, 12, .inl fk)), (s3, .inl (cI, 12, .inl fp)), (s4, .inl (cI, 12, .inl fv))] sz) := by
  refine Met.ofW (cc := cX3_number) (maxL := 4) (ret := (some .int)) (by decide) rfl ?_
  intro p e s m args below meth c s₁ B hml hv
  obtain ⟨rfl, hsz, hP, ⟨hK, hN⟩, hD0⟩ := hv
  have hx := B.exec
  have hb := B.bytes
  have hr := B.returns
  have hts := atoms_spec (ws := wk_k_number) B.pre
  have hown : s.vm.findClass RX3 = some m.cls := findClass_of_methodNamed B.named
  have hlocks := B.notSynchronized
  subst hsz
  have hD := hD0.self (sz := s.heap.size)
  generalize hAe : va_A [(h0, .inr (3, [.ref sc, .ref dr, .int fo, .int fa, .int cu])), (sc, .inr (4, [.ref tp, .int ct, .ref s2, .ref s3, .ref s4, .int nx])), (s2, .inl (cI, 12, .inl fk)), (s3, .inl (cI, 12, .inl fp)), (s4, .inl (cI, 12, .inl fv))] s.heap.size = A at hD ⊢
  have hA : ∀ q : Nat, s.heap.size ≤ q → A q := fun q h => by rw [← hAe]; exact Or.inr h
  have hS : va_S A s.heap s.heap [] := va_S.rf
  have hP : va_P D vwCl [(h0, .inr (3, [.ref sc, .ref dr, .int fo, .int fa, .int cu])), (sc, .inr (4, [.ref tp, .int ct, .ref s2, .ref s3, .ref s4, .int nx])), (s2, .inl (cI, 12, .inl fk)), (s3, .inl (cI, 12, .inl fp)), (s4, .inl (cI, 12, .inl fv))] s.heap := hP
  have hl := lv_entry ([.ref h0, .int a, .int b]) (n := 4) (Nat.le_of_ble_eq_true rfl)
  rw [lg_entry_eq]
  generalize (lg_sl ([.ref h0, .int a, .int b]) ++ List.replicate (4 - (lg_sl ([.ref h0, .int a, .int b])).length) Slot.unset).toArray = ls at hl ⊢
  have hl : lv_has ls 4 [(0, .ref h0), (1, .int a), (2, .int b)] := hl
  refine lv_aload_n hx hb dX3_number_0 rfl (lv_at hl 0 rfl) ?_
  have hPc := hP.sub (ws' := [(h0, .inr (3, [.ref sc, .ref dr, .int fo, .int fa, .int cu])), (sc, .inr (4, [.ref tp, .int ct, .ref s2, .ref s3, .ref s4, .int nx]))]) [0, 1] rfl
  have hDc := hD.sub (ws' := [(h0, .inr (3, [.ref sc, .ref dr, .int fo, .int fa, .int cu])), (sc, .inr (4, [.ref tp, .int ct, .ref s2, .ref s3, .ref s4, .int nx]))]) [0, 1] (by decide) rfl
  have hFc := va_free (wc := [(h0, .inr (3, [.ref sc, .ref dr, .int fo, .int fa, .int cu])), (sc, .inr (4, [.ref tp, .int ct, .ref s2, .ref s3, .ref s4, .int nx]))]) hD hS hA [0, 1] rfl
  refine va_callv (va_runV (As := []) (rest := []) ⟨hx, hb, hml, hown, hts⟩ (k_nextToken l D cI cB cP s.heap.size h0 sc dr fo fa cu tp s2 s3 s4 ct nx (show 0 ≤ cu.toInt ∧ cu.toInt ≤ 11 by first | assumption | omega | decide) (show 0 ≤ ct.toInt ∧ ct.toInt ≤ 12 by first | assumption | omega | decide)) (cwV 0 hts gw_k_number_0 rfl rfl rfl (by decide +kernel) ⟨Nat.le_of_ble_eq_true rfl, Nat.le_of_ble_eq_true rfl⟩) ⟨ny_blind, va_recv hK hPc (ci := 3) (q0 := 0) rfl rfl, ny_pre hPc hK hN hDc⟩ rfl rfl hl.1 rfl (lv_room (Nat.le_of_ble_eq_true rfl)) dX3_number_1 ⟨Nat.le_of_ble_eq_true rfl, Nat.le_of_ble_eq_true rfl⟩) hS (fun q _ h => hFc q h) hFc (fun u t H locs ht hvm hw hB hz1 hk1 hS => ?_)
  obtain ⟨cu_1, hp3, hP1, hD1⟩ := hB
  rw [ht] at hP1
  have hp3 : 0 ≤ cu_1.toInt ∧ cu_1.toInt ≤ 11 := hp3
  obtain ⟨hP, hD⟩ := va_join (wr := [(s2, .inl (cI, 12, .inl fk)), (s3, .inl (cI, 12, .inl fp)), (s4, .inl (cI, 12, .inl fv))]) (w1 := [(h0, .inr (3, [.ref sc, .ref dr, .int fo, .int fa, .int cu_1])), (sc, .inr (4, [.ref tp, .int ct, .ref s2, .ref s3, .ref s4, .int nx]))]) hP hD [0, 1] [2, 3, 4] rfl rfl (by decide) (by decide) hk1 hFc hP1 hD1
  have hP : va_P D vwCl [(s2, .inl (cI, 12, .inl fk)), (s3, .inl (cI, 12, .inl fp)), (s4, .inl (cI, 12, .inl fv)), (h0, .inr (3, [.ref sc, .ref dr, .int fo, .int fa, .int cu_1])), (sc, .inr (4, [.ref tp, .int ct, .ref s2, .ref s3, .ref s4, .int nx]))] H := hP
  have hD : va_D A [(s2, .inl (cI, 12, .inl fk)), (s3, .inl (cI, 12, .inl fp)), (s4, .inl (cI, 12, .inl fv)), (h0, .inr (3, [.ref sc, .ref dr, .int fo, .int fa, .int cu_1])), (sc, .inr (4, [.ref tp, .int ct, .ref s2, .ref s3, .ref s4, .int nx]))] := hD
  refine lv_aload_n hx hb dX3_number_4 rfl (lv_at hl 0 rfl) ?_
  refine va_get (D := D) (ci := 3) (v := .int fo) (C := RX3) (T := TX3) (N := 5) hx hb hts iw_k_number_3 hown hK hP 3 rfl rfl 2 (by decide) (hts (.fieldLink RX3 27 "FlightDesk$Reader" "found" "I") (by decide +kernel)) (fun _ h9 => h9) rfl dX3_number_5 ?_
  refine lv_if_eq (tgt := 13) hx hb dX3_number_8 (by decide) (fun c4 => ?_) (fun c4 => ?_)
  · have tc4 : fo.toInt = 0 := i32_eq c4
    refine lv_aload_n hx hb dX3_number_13 rfl (lv_at hl 0 rfl) ?_
    refine va_get (D := D) (ci := 3) (v := .ref sc) (C := RX3) (T := TX3) (N := 5) hx hb hts iw_k_number_3 hown hK hP 3 rfl rfl 0 (by decide) (hts (.fieldLink RX3 14 "FlightDesk$Reader" "scanner" "LFlightDesk$Scanner;") (by decide +kernel)) (fun _ h9 => h9) rfl dX3_number_14 ?_
    refine va_get (D := D) (ci := 4) (v := .ref s2) (C := RX4) (T := TX4) (N := 6) hx hb hts iw_k_number_4 hown hK hP 4 rfl rfl 2 (by decide) (hts (.fieldLink RX3 46 "FlightDesk$Scanner" "kind" "[I") (by decide +kernel)) (fun _ h9 => h9) rfl dX3_number_17 ?_
    refine lv_aload_n hx hb dX3_number_20 rfl (lv_at hl 0 rfl) ?_
    refine va_get (D := D) (ci := 3) (v := .int cu_1) (C := RX3) (T := TX3) (N := 5) hx hb hts iw_k_number_3 hown hK hP 3 rfl rfl 4 (by decide) (hts (.fieldLink RX3 43 "FlightDesk$Reader" "current" "I") (by decide +kernel)) (fun _ h9 => h9) rfl dX3_number_21 ?_
    refine va_iald hx hb hK hP 0 0 rfl rfl (vp_in_iff.mpr ⟨show 0 ≤ cu_1.toInt by omega, show cu_1.toInt < ((12 : Nat) : Int) by omega⟩) dX3_number_24 ?_
    refine lv_topi (fun v5 ev5 => ?_)
    refine lv_iconst (v := 2) hx hb dX3_number_25 (by decide) ?_
    refine lv_icmp_eq (tgt := 35) hx hb dX3_number_26 (by decide) (fun c6 => ?_) (fun c6 => ?_)
    · have tc6 : v5.toInt = 2 := i32_eq c6
      refine lv_aload_n hx hb dX3_number_35 rfl (lv_at hl 0 rfl) ?_
      refine va_get (D := D) (ci := 3) (v := .ref sc) (C := RX3) (T := TX3) (N := 5) hx hb hts iw_k_number_3 hown hK hP 3 rfl rfl 0 (by decide) (hts (.fieldLink RX3 14 "FlightDesk$Reader" "scanner" "LFlightDesk$Scanner;") (by decide +kernel)) (fun _ h9 => h9) rfl dX3_number_36 ?_
      refine va_get (D := D) (ci := 4) (v := .ref s4) (C := RX4) (T := TX4) (N := 6) hx hb hts iw_k_number_4 hown hK hP 4 rfl rfl 4 (by decide) (hts (.fieldLink RX3 167 "FlightDesk$Scanner" "value" "[I") (by decide +kernel)) (fun _ h9 => h9) rfl dX3_number_39 ?_
      refine lv_aload_n hx hb dX3_number_42 rfl (lv_at hl 0 rfl) ?_
      refine va_get (D := D) (ci := 3) (v := .int cu_1) (C := RX3) (T := TX3) (N := 5) hx hb hts iw_k_number_3 hown hK hP 3 rfl rfl 4 (by decide) (hts (.fieldLink RX3 43 "FlightDesk$Reader" "current" "I") (by decide +kernel)) (fun _ h9 => h9) rfl dX3_number_43 ?_
      refine va_iald hx hb hK hP 2 0 rfl rfl (vp_in_iff.mpr ⟨show 0 ≤ cu_1.toInt by omega, show cu_1.toInt < ((12 : Nat) : Int) by omega⟩) dX3_number_46 ?_
      refine lv_topi (fun v7 ev7 => ?_)
      refine lv_istore_n (lv' := [(3, .int v7), (0, .ref h0), (1, .int a), (2, .int b)]) hx hb dX3_number_47 rfl hl (by decide) rfl (fun ls hl => ?_)
      refine lv_iload_n hx hb dX3_number_48 rfl (lv_at hl 0 rfl) ?_
      refine lv_iload_n hx hb dX3_number_49 rfl (lv_at hl 2 rfl) ?_
      refine lv_icmp_lt (tgt := 58) hx hb dX3_number_50 (by decide) (fun c8 => ?_) (fun c8 => ?_)
      · have tc8 : v7.toInt < a.toInt := i32_lt c8
        refine lv_aload_n hx hb dX3_number_58 rfl (lv_at hl 1 rfl) ?_
        refine lv_iconst (v := 3) hx hb dX3_number_59 (by decide) ?_
        have hPc := hP.sub (ws' := [(h0, .inr (3, [.ref sc, .ref dr, .int fo, .int fa, .int cu_1])), (sc, .inr (4, [.ref tp, .int ct, .ref s2, .ref s3, .ref s4, .int nx])), (s3, .inl (cI, 12, .inl fp))]) [3, 4, 1] rfl
        have hDc := hD.sub (ws' := [(h0, .inr (3, [.ref sc, .ref dr, .int fo, .int fa, .int cu_1])), (sc, .inr (4, [.ref tp, .int ct, .ref s2, .ref s3, .ref s4, .int nx])), (s3, .inl (cI, 12, .inl fp))]) [3, 4, 1] (by decide) rfl
        have hFc := va_free (wc := [(h0, .inr (3, [.ref sc, .ref dr, .int fo, .int fa, .int cu_1])), (sc, .inr (4, [.ref tp, .int ct, .ref s2, .ref s3, .ref s4, .int nx])), (s3, .inl (cI, 12, .inl fp))]) hD hS hA [3, 4, 1] rfl
        refine va_callv (va_runV (As := [.int 3]) (rest := []) ⟨hx, hb, hml, hown, hts⟩ (k_refuse l D cI cB cP H.size h0 sc dr fo fa cu_1 tp s2 s3 s4 ct nx 3 fp (show 0 ≤ cu_1.toInt ∧ cu_1.toInt ≤ 11 by first | assumption | omega | decide) (show 0 ≤ ct.toInt ∧ ct.toInt ≤ 12 by first | assumption | omega | decide)) (cwV 1 hts gw_k_number_1 rfl rfl rfl (by decide +kernel) ⟨Nat.le_of_ble_eq_true rfl, Nat.le_of_ble_eq_true rfl⟩) ⟨ny_blind, va_recv hK hPc (ci := 3) (q0 := 0) rfl rfl, ny_pre hPc hK hN hDc⟩ rfl rfl hl.1 rfl (lv_room (Nat.le_of_ble_eq_true rfl)) dX3_number_60 ⟨Nat.le_of_ble_eq_true rfl, Nat.le_of_ble_eq_true rfl⟩) hS (fun q _ h => hFc q h) hFc (fun u t H locs ht hvm hw hB hz1 hk1 hS => ?_)
        obtain ⟨fo_9, fa_10, hP1, hD1⟩ := hB
        rw [ht] at hP1
        obtain ⟨hP, hD⟩ := va_join (wr := [(s2, .inl (cI, 12, .inl fk)), (s4, .inl (cI, 12, .inl fv))]) (w1 := [(h0, .inr (3, [.ref sc, .ref dr, .int fo_9, .int fa_10, .int cu_1])), (sc, .inr (4, [.ref tp, .int ct, .ref s2, .ref s3, .ref s4, .int nx])), (s3, .inl (cI, 12, .inl fp))]) hP hD [3, 4, 1] [0, 2] rfl rfl (by decide) (by decide) hk1 hFc hP1 hD1
        have hP : va_P D vwCl [(s2, .inl (cI, 12, .inl fk)), (s4, .inl (cI, 12, .inl fv)), (h0, .inr (3, [.ref sc, .ref dr, .int fo_9, .int fa_10, .int cu_1])), (sc, .inr (4, [.ref tp, .int ct, .ref s2, .ref s3, .ref s4, .int nx])), (s3, .inl (cI, 12, .inl fp))] H := hP
        have hD : va_D A [(s2, .inl (cI, 12, .inl fk)), (s4, .inl (cI, 12, .inl fv)), (h0, .inr (3, [.ref sc, .ref dr, .int fo_9, .int fa_10, .int cu_1])), (sc, .inr (4, [.ref tp, .int ct, .ref s2, .ref s3, .ref s4, .int nx])), (s3, .inl (cI, 12, .inl fp))] := hD
        refine lv_iload_n hx hb dX3_number_63 rfl (lv_at hl 2 rfl) ?_
        have hP9 := hP.sub (ws' := [(h0, .inr (3, [.ref sc, .ref dr, .int fo_9, .int fa_10, .int cu_1])), (sc, .inr (4, [.ref tp, .int ct, .ref s2, .ref s3, .ref s4, .int nx])), (s2, .inl (cI, 12, .inl fk)), (s3, .inl (cI, 12, .inl fp)), (s4, .inl (cI, 12, .inl fv))]) [2, 3, 0, 4, 1] rfl
        have hD9 := hD.sub (ws' := [(h0, .inr (3, [.ref sc, .ref dr, .int fo_9, .int fa_10, .int cu_1])), (sc, .inr (4, [.ref tp, .int ct, .ref s2, .ref s3, .ref s4, .int nx])), (s2, .inl (cI, 12, .inl fk)), (s3, .inl (cI, 12, .inl fp)), (s4, .inl (cI, 12, .inl fv))]) [2, 3, 0, 4, 1] (by decide) rfl
        refine W.widen (k := 0) (n := 0) (by decide) (by decide) ?_
        exact W.iret (v := a) hx hb hr (fun t ht hW => ⟨⟨a, (), rfl, (show a.toInt = a.toInt ∨ (a.toInt ≤ a.toInt ∧ a.toInt ≤ b.toInt) by first | assumption | omega | trivial | decide), fo_9, fa_10, cu_1, (show 0 ≤ cu_1.toInt ∧ cu_1.toInt ≤ 11 by first | assumption | omega | decide), by rw [ht]; exact hP9, hD9⟩, hS.F ht⟩) hS.2.2 dX3_number_64
      · have tc8 : ¬ (v7.toInt < a.toInt) := i32_nlt c8
        refine lv_iload_n hx hb dX3_number_53 rfl (lv_at hl 0 rfl) ?_
        refine lv_iload_n hx hb dX3_number_54 rfl (lv_at hl 3 rfl) ?_
        refine lv_icmp_le (tgt := 65) hx hb dX3_number_55 (by decide) (fun c12 => ?_) (fun c12 => ?_)
        · have tc12 : v7.toInt ≤ b.toInt := i32_le c12
          refine lv_iload_n hx hb dX3_number_65 rfl (lv_at hl 0 rfl) ?_
          have hP9 := hP.sub (ws' := [(h0, .inr (3, [.ref sc, .ref dr, .int fo, .int fa, .int cu_1])), (sc, .inr (4, [.ref tp, .int ct, .ref s2, .ref s3, .ref s4, .int nx])), (s2, .inl (cI, 12, .inl fk)), (s3, .inl (cI, 12, .inl fp)), (s4, .inl (cI, 12, .inl fv))]) [3, 4, 0, 1, 2] rfl
          have hD9 := hD.sub (ws' := [(h0, .inr (3, [.ref sc, .ref dr, .int fo, .int fa, .int cu_1])), (sc, .inr (4, [.ref tp, .int ct, .ref s2, .ref s3, .ref s4, .int nx])), (s2, .inl (cI, 12, .inl fk)), (s3, .inl (cI, 12, .inl fp)), (s4, .inl (cI, 12, .inl fv))]) [3, 4, 0, 1, 2] (by decide) rfl
          refine W.widen (k := 0) (n := 0) (by decide) (by decide) ?_
          exact W.iret (v := v7) hx hb hr (fun t ht hW => ⟨⟨v7, (), rfl, (show v7.toInt = a.toInt ∨ (a.toInt ≤ v7.toInt ∧ v7.toInt ≤ b.toInt) by first | assumption | omega | trivial | decide), fo, fa, cu_1, (show 0 ≤ cu_1.toInt ∧ cu_1.toInt ≤ 11 by first | assumption | omega | decide), by rw [ht]; exact hP9, hD9⟩, hS.F ht⟩) hS.2.2 dX3_number_66
        · have tc12 : ¬ (v7.toInt ≤ b.toInt) := i32_nle c12
          refine lv_aload_n hx hb dX3_number_58 rfl (lv_at hl 1 rfl) ?_
          refine lv_iconst (v := 3) hx hb dX3_number_59 (by decide) ?_
          have hPc := hP.sub (ws' := [(h0, .inr (3, [.ref sc, .ref dr, .int fo, .int fa, .int cu_1])), (sc, .inr (4, [.ref tp, .int ct, .ref s2, .ref s3, .ref s4, .int nx])), (s3, .inl (cI, 12, .inl fp))]) [3, 4, 1] rfl
          have hDc := hD.sub (ws' := [(h0, .inr (3, [.ref sc, .ref dr, .int fo, .int fa, .int cu_1])), (sc, .inr (4, [.ref tp, .int ct, .ref s2, .ref s3, .ref s4, .int nx])), (s3, .inl (cI, 12, .inl fp))]) [3, 4, 1] (by decide) rfl
          have hFc := va_free (wc := [(h0, .inr (3, [.ref sc, .ref dr, .int fo, .int fa, .int cu_1])), (sc, .inr (4, [.ref tp, .int ct, .ref s2, .ref s3, .ref s4, .int nx])), (s3, .inl (cI, 12, .inl fp))]) hD hS hA [3, 4, 1] rfl
          refine va_callv (va_runV (As := [.int 3]) (rest := []) ⟨hx, hb, hml, hown, hts⟩ (k_refuse l D cI cB cP H.size h0 sc dr fo fa cu_1 tp s2 s3 s4 ct nx 3 fp (show 0 ≤ cu_1.toInt ∧ cu_1.toInt ≤ 11 by first | assumption | omega | decide) (show 0 ≤ ct.toInt ∧ ct.toInt ≤ 12 by first | assumption | omega | decide)) (cwV 1 hts gw_k_number_1 rfl rfl rfl (by decide +kernel) ⟨Nat.le_of_ble_eq_true rfl, Nat.le_of_ble_eq_true rfl⟩) ⟨ny_blind, va_recv hK hPc (ci := 3) (q0 := 0) rfl rfl, ny_pre hPc hK hN hDc⟩ rfl rfl hl.1 rfl (lv_room (Nat.le_of_ble_eq_true rfl)) dX3_number_60 ⟨Nat.le_of_ble_eq_true rfl, Nat.le_of_ble_eq_true rfl⟩) hS (fun q _ h => hFc q h) hFc (fun u t H locs ht hvm hw hB hz1 hk1 hS => ?_)
          obtain ⟨fo_13, fa_14, hP1, hD1⟩ := hB
          rw [ht] at hP1
          obtain ⟨hP, hD⟩ := va_join (wr := [(s2, .inl (cI, 12, .inl fk)), (s4, .inl (cI, 12, .inl fv))]) (w1 := [(h0, .inr (3, [.ref sc, .ref dr, .int fo_13, .int fa_14, .int cu_1])), (sc, .inr (4, [.ref tp, .int ct, .ref s2, .ref s3, .ref s4, .int nx])), (s3, .inl (cI, 12, .inl fp))]) hP hD [3, 4, 1] [0, 2] rfl rfl (by decide) (by decide) hk1 hFc hP1 hD1
          have hP : va_P D vwCl [(s2, .inl (cI, 12, .inl fk)), (s4, .inl (cI, 12, .inl fv)), (h0, .inr (3, [.ref sc, .ref dr, .int fo_13, .int fa_14, .int cu_1])), (sc, .inr (4, [.ref tp, .int ct, .ref s2, .ref s3, .ref s4, .int nx])), (s3, .inl (cI, 12, .inl fp))] H := hP
          have hD : va_D A [(s2, .inl (cI, 12, .inl fk)), (s4, .inl (cI, 12, .inl fv)), (h0, .inr (3, [.ref sc, .ref dr, .int fo_13, .int fa_14, .int cu_1])), (sc, .inr (4, [.ref tp, .int ct, .ref s2, .ref s3, .ref s4, .int nx])), (s3, .inl (cI, 12, .inl fp))] := hD
          refine lv_iload_n hx hb dX3_number_63 rfl (lv_at hl 2 rfl) ?_
          have hP9 := hP.sub (ws' := [(h0, .inr (3, [.ref sc, .ref dr, .int fo_13, .int fa_14, .int cu_1])), (sc, .inr (4, [.ref tp, .int ct, .ref s2, .ref s3, .ref s4, .int nx])), (s2, .inl (cI, 12, .inl fk)), (s3, .inl (cI, 12, .inl fp)), (s4, .inl (cI, 12, .inl fv))]) [2, 3, 0, 4, 1] rfl
          have hD9 := hD.sub (ws' := [(h0, .inr (3, [.ref sc, .ref dr, .int fo_13, .int fa_14, .int cu_1])), (sc, .inr (4, [.ref tp, .int ct, .ref s2, .ref s3, .ref s4, .int nx])), (s2, .inl (cI, 12, .inl fk)), (s3, .inl (cI, 12, .inl fp)), (s4, .inl (cI, 12, .inl fv))]) [2, 3, 0, 4, 1] (by decide) rfl
          refine W.widen (k := 0) (n := 0) (by decide) (by decide) ?_
          exact W.iret (v := a) hx hb hr (fun t ht hW => ⟨⟨a, (), rfl, (show a.toInt = a.toInt ∨ (a.toInt ≤ a.toInt ∧ a.toInt ≤ b.toInt) by first | assumption | omega | trivial | decide), fo_13, fa_14, cu_1, (show 0 ≤ cu_1.toInt ∧ cu_1.toInt ≤ 11 by first | assumption | omega | decide), by rw [ht]; exact hP9, hD9⟩, hS.F ht⟩) hS.2.2 dX3_number_64
    · have tc6 : ¬ (v5.toInt = 2) := i32_neq c6
      refine lv_aload_n hx hb dX3_number_29 rfl (lv_at hl 0 rfl) ?_
      have hPc := hP.sub (ws' := [(h0, .inr (3, [.ref sc, .ref dr, .int fo, .int fa, .int cu_1])), (sc, .inr (4, [.ref tp, .int ct, .ref s2, .ref s3, .ref s4, .int nx])), (s2, .inl (cI, 12, .inl fk)), (s3, .inl (cI, 12, .inl fp))]) [3, 4, 0, 1] rfl
      have hDc := hD.sub (ws' := [(h0, .inr (3, [.ref sc, .ref dr, .int fo, .int fa, .int cu_1])), (sc, .inr (4, [.ref tp, .int ct, .ref s2, .ref s3, .ref s4, .int nx])), (s2, .inl (cI, 12, .inl fk)), (s3, .inl (cI, 12, .inl fp))]) [3, 4, 0, 1] (by decide) rfl
      have hFc := va_free (wc := [(h0, .inr (3, [.ref sc, .ref dr, .int fo, .int fa, .int cu_1])), (sc, .inr (4, [.ref tp, .int ct, .ref s2, .ref s3, .ref s4, .int nx])), (s2, .inl (cI, 12, .inl fk)), (s3, .inl (cI, 12, .inl fp))]) hD hS hA [3, 4, 0, 1] rfl
      refine va_callv (va_runV (As := []) (rest := []) ⟨hx, hb, hml, hown, hts⟩ (k_refuseToken l D cI cB cP H.size h0 sc dr fo fa cu_1 tp s2 s3 s4 ct nx fk fp (show 0 ≤ cu_1.toInt ∧ cu_1.toInt ≤ 11 by first | assumption | omega | decide) (show 0 ≤ ct.toInt ∧ ct.toInt ≤ 12 by first | assumption | omega | decide)) (cwV 0 hts gw_k_number_2 rfl rfl rfl (by decide +kernel) ⟨Nat.le_of_ble_eq_true rfl, Nat.le_of_ble_eq_true rfl⟩) ⟨ny_blind, va_recv hK hPc (ci := 3) (q0 := 0) rfl rfl, ny_pre hPc hK hN hDc⟩ rfl rfl hl.1 rfl (lv_room (Nat.le_of_ble_eq_true rfl)) dX3_number_30 ⟨Nat.le_of_ble_eq_true rfl, Nat.le_of_ble_eq_true rfl⟩) hS (fun q _ h => hFc q h) hFc (fun u t H locs ht hvm hw hB hz1 hk1 hS => ?_)
      obtain ⟨fo_16, fa_17, hP1, hD1⟩ := hB
      rw [ht] at hP1
      obtain ⟨hP, hD⟩ := va_join (wr := [(s4, .inl (cI, 12, .inl fv))]) (w1 := [(h0, .inr (3, [.ref sc, .ref dr, .int fo_16, .int fa_17, .int cu_1])), (sc, .inr (4, [.ref tp, .int ct, .ref s2, .ref s3, .ref s4, .int nx])), (s2, .inl (cI, 12, .inl fk)), (s3, .inl (cI, 12, .inl fp))]) hP hD [3, 4, 0, 1] [2] rfl rfl (by decide) (by decide) hk1 hFc hP1 hD1
      have hP : va_P D vwCl [(s4, .inl (cI, 12, .inl fv)), (h0, .inr (3, [.ref sc, .ref dr, .int fo_16, .int fa_17, .int cu_1])), (sc, .inr (4, [.ref tp, .int ct, .ref s2, .ref s3, .ref s4, .int nx])), (s2, .inl (cI, 12, .inl fk)), (s3, .inl (cI, 12, .inl fp))] H := hP
      have hD : va_D A [(s4, .inl (cI, 12, .inl fv)), (h0, .inr (3, [.ref sc, .ref dr, .int fo_16, .int fa_17, .int cu_1])), (sc, .inr (4, [.ref tp, .int ct, .ref s2, .ref s3, .ref s4, .int nx])), (s2, .inl (cI, 12, .inl fk)), (s3, .inl (cI, 12, .inl fp))] := hD
      refine lv_iload_n hx hb dX3_number_33 rfl (lv_at hl 1 rfl) ?_
      have hP9 := hP.sub (ws' := [(h0, .inr (3, [.ref sc, .ref dr, .int fo_16, .int fa_17, .int cu_1])), (sc, .inr (4, [.ref tp, .int ct, .ref s2, .ref s3, .ref s4, .int nx])), (s2, .inl (cI, 12, .inl fk)), (s3, .inl (cI, 12, .inl fp)), (s4, .inl (cI, 12, .inl fv))]) [1, 2, 3, 4, 0] rfl
      have hD9 := hD.sub (ws' := [(h0, .inr (3, [.ref sc, .ref dr, .int fo_16, .int fa_17, .int cu_1])), (sc, .inr (4, [.ref tp, .int ct, .ref s2, .ref s3, .ref s4, .int nx])), (s2, .inl (cI, 12, .inl fk)), (s3, .inl (cI, 12, .inl fp)), (s4, .inl (cI, 12, .inl fv))]) [1, 2, 3, 4, 0] (by decide) rfl
      refine W.widen (k := 0) (n := 0) (by decide) (by decide) ?_
      exact W.iret (v := a) hx hb hr (fun t ht hW => ⟨⟨a, (), rfl, (show a.toInt = a.toInt ∨ (a.toInt ≤ a.toInt ∧ a.toInt ≤ b.toInt) by first | assumption | omega | trivial | decide), fo_16, fa_17, cu_1, (show 0 ≤ cu_1.toInt ∧ cu_1.toInt ≤ 11 by first | assumption | omega | decide), by rw [ht]; exact hP9, hD9⟩, hS.F ht⟩) hS.2.2 dX3_number_34
  · have tc4 : ¬ (fo.toInt = 0) := i32_neq c4
    refine lv_iload_n hx hb dX3_number_11 rfl (lv_at hl 1 rfl) ?_
    have hP9 := hP.sub (ws' := [(h0, .inr (3, [.ref sc, .ref dr, .int fo, .int fa, .int cu_1])), (sc, .inr (4, [.ref tp, .int ct, .ref s2, .ref s3, .ref s4, .int nx])), (s2, .inl (cI, 12, .inl fk)), (s3, .inl (cI, 12, .inl fp)), (s4, .inl (cI, 12, .inl fv))]) [3, 4, 0, 1, 2] rfl
    have hD9 := hD.sub (ws' := [(h0, .inr (3, [.ref sc, .ref dr, .int fo, .int fa, .int cu_1])), (sc, .inr (4, [.ref tp, .int ct, .ref s2, .ref s3, .ref s4, .int nx])), (s2, .inl (cI, 12, .inl fk)), (s3, .inl (cI, 12, .inl fp)), (s4, .inl (cI, 12, .inl fv))]) [3, 4, 0, 1, 2] (by decide) rfl
    refine W.widen (k := 0) (n := 0) (by decide) (by decide) ?_
    exact W.iret (v := a) hx hb hr (fun t ht hW => ⟨⟨a, (), rfl, (show a.toInt = a.toInt ∨ (a.toInt ≤ a.toInt ∧ a.toInt ≤ b.toInt) by first | assumption | omega | trivial | decide), fo, fa, cu_1, (show 0 ≤ cu_1.toInt ∧ cu_1.toInt ≤ 11 by first | assumption | omega | decide), by rw [ht]; exact hP9, hD9⟩, hS.F ht⟩) hS.2.2 dX3_number_12

def wk_k_wantSign : List Cond := .code yX3_wantSign cX3_wantSign 1 none :: ([.methodLink RX3 132 yX3_nextToken, .instanceMethod yX3_nextToken, .selects RX3 yX3_nextToken yX3_nextToken, .initialized RX3, .code yX3_nextToken cX3_nextToken 1 none, .fieldLink RX3 27 "FlightDesk$Reader" "found" "I", .fieldLink RX3 43 "FlightDesk$Reader" "current" "I", .fieldLink RX3 14 "FlightDesk$Reader" "scanner" "LFlightDesk$Scanner;", .fieldLink RX3 170 "FlightDesk$Scanner" "count" "I", .fieldLink RX3 46 "FlightDesk$Scanner" "kind" "[I", .methodLink RX3 59 yX3_refuseToken, .instanceMethod yX3_refuseToken, .selects RX3 yX3_refuseToken yX3_refuseToken, .code yX3_refuseToken cX3_refuseToken 1 none, .methodLink RX3 117 yX3_refuse, .instanceMethod yX3_refuse, .selects RX3 yX3_refuse yX3_refuse, .code yX3_refuse cX3_refuse 2 none, .fieldLink RX3 173 "FlightDesk$Scanner" "place" "[I", .fieldLink RX3 31 "FlightDesk$Reader" "foundAt" "I"] ++ wsX30 ++ wsX40)
theorem iw_k_wantSign_3 : ∀ w ∈ wsX30, w ∈ wk_k_wantSign := fun _ h => List.mem_cons_of_mem _ (List.mem_append_left _ (List.mem_append_right _ h))
theorem iw_k_wantSign_4 : ∀ w ∈ wsX40, w ∈ wk_k_wantSign := fun _ h => List.mem_cons_of_mem _ (List.mem_append_right _ h)
set_option maxRecDepth 20000 in
theorem gw_k_wantSign_0 : GoodIn wk_k_wantSign (wsV RX3 132 RX3 yX3_nextToken wk_k_nextToken) := goodIn_sub (by decide +kernel) (by decide +kernel)
set_option maxRecDepth 20000 in
theorem gw_k_wantSign_1 : GoodIn wk_k_wantSign (wsV RX3 59 RX3 yX3_refuseToken wk_k_refuseToken) := goodIn_sub (by decide +kernel) (by decide +kernel)
set_option maxHeartbeats 4000000 in
set_option maxRecDepth 100000 in
theorem k_wantSign (l : Launch) (D : va_G) (cI cB cP : ClassId) (sz : Nat) (h0 : Nat) (sc : Nat) (dr : Nat) (fo : Int32) (fa : Int32) (cu : Int32) (tp : Nat) (s2 : Nat) (s3 : Nat) (s4 : Nat) (ct : Int32) (nx : Int32) (fk : Nat → Int32) (fp : Nat → Int32) (hc9 : 0 ≤ cu.toInt ∧ cu.toInt ≤ 11) (ht9 : 0 ≤ ct.toInt ∧ ct.toInt ≤ 12) : Met l yX3_wantSign wk_k_wantSign ({ frames := 2, cells := 0, slots := 0, locals := 41 } : Room) (va_Pc [.ref h0] (Pw D cI cB cP sz [(h0, .inr (3, [.ref sc, .ref dr, .int fo, .int fa, .int cu])), (sc, .inr (4, [.ref tp, .int ct, .ref s2, .ref s3, .ref s4, .int nx])), (s2, .inl (cI, 12, .inl fk)), (s3, .inl (cI, 12, .inl fp))])) (va_Qv (fun (_ : Unit) => True) (fun _ t => ∃ fo9 : Int32, ∃ fa9 : Int32, ∃ cu9 : Int32, (0 ≤ cu9.toInt ∧ cu9.toInt ≤ 11) ∧ va_P D vwCl [(h0, .inr (3, [.ref sc, .ref dr, .int fo9, .int fa9, .int cu9])), (sc, .inr (4, [.ref tp, .int ct, .ref s2, .ref s3, .ref s4, .int nx])), (s2, .inl (cI, 12, .inl fk)), (s3, .inl (cI, 12, .inl fp))] t.heap ∧ va_D (va_A [(h0, .inr (3, [.ref sc, .ref dr, .int fo, .int fa, .int cu])), (sc, .inr (4, [.ref tp, .int ct, .ref s2, .ref s3, .ref s4, .int nx])), (s2, .inl (cI, 12, .inl fk)), (s3, .inl (cI, 12, .inl fp))] sz) [(h0, .inr (3, [.ref sc, .ref dr, .int fo9, .int fa9, .int cu9])), (sc, .inr (4, [.ref tp, .int ct, .ref s2, .ref s3, .ref s4, .int nx])), (s2, .inl (cI, 12, .inl fk)), (s3, .inl (cI, 12, .inl fp))]) (va_A [(h0, .inr (3, [.ref sc, .ref dr, .int fo, .int fa, .int cu])), (sc, .inr (4, [.ref tp, .int ct, .ref s2, .ref s3, .ref s4, .int nx])), (s2, .inl (cI, 12, .inl fk)), (s3, .inl (cI, 12, .inl fp))] sz)) 0 0 (va_A [(h0, .inr (3, [.ref sc, .ref dr, .int fo, .int fa, .int cu])), (sc, .inr (4, [.ref tp, .int ct, .ref s2, .ref s3, .ref s4, .int nx])), (s2, .inl (cI, 12, .inl fk)), (s3, .inl (cI, 12, .inl fp))] sz) := by
  refine Met.ofW (cc := cX3_wantSign) (maxL := 1) (ret := none) (by decide) rfl ?_
  intro p e s m args below meth c s₁ B hml hv
  obtain ⟨rfl, hsz, hP, ⟨hK, hN⟩, hD0⟩ := hv
  have hx := B.exec
  have hb := B.bytes
  have hr := B.returns
  have hts := atoms_spec (ws := wk_k_wantSign) B.pre
  have hown : s.vm.findClass RX3 = some m.cls := findClass_of_methodNamed B.named
  have hlocks := B.notSynchronized
  subst hsz
  have hD := hD0.self (sz := s.heap.size)
  generalize hAe : va_A [(h0, .inr (3, [.ref sc, .ref dr, .int fo, .int fa, .int cu])), (sc, .inr (4, [.ref tp, .int ct, .ref s2, .ref s3, .ref s4, .int nx])), (s2, .inl (cI, 12, .inl fk)), (s3, .inl (cI, 12, .inl fp))] s.heap.size = A at hD ⊢
  have hA : ∀ q : Nat, s.heap.size ≤ q → A q := fun q h => by rw [← hAe]; exact Or.inr h
  have hS : va_S A s.heap s.heap [] := va_S.rf
  have hP : va_P D vwCl [(h0, .inr (3, [.ref sc, .ref dr, .int fo, .int fa, .int cu])), (sc, .inr (4, [.ref tp, .int ct, .ref s2, .ref s3, .ref s4, .int nx])), (s2, .inl (cI, 12, .inl fk)), (s3, .inl (cI, 12, .inl fp))] s.heap := hP
  have hl := lv_entry ([.ref h0]) (n := 1) (Nat.le_of_ble_eq_true rfl)
  rw [lg_entry_eq]
  generalize (lg_sl ([.ref h0]) ++ List.replicate (1 - (lg_sl ([.ref h0])).length) Slot.unset).toArray = ls at hl ⊢
  have hl : lv_has ls 1 [(0, .ref h0)] := hl
  refine lv_aload_n hx hb dX3_wantSign_0 rfl (lv_at hl 0 rfl) ?_
  have hPc := hP.sub (ws' := [(h0, .inr (3, [.ref sc, .ref dr, .int fo, .int fa, .int cu])), (sc, .inr (4, [.ref tp, .int ct, .ref s2, .ref s3, .ref s4, .int nx]))]) [0, 1] rfl
  have hDc := hD.sub (ws' := [(h0, .inr (3, [.ref sc, .ref dr, .int fo, .int fa, .int cu])), (sc, .inr (4, [.ref tp, .int ct, .ref s2, .ref s3, .ref s4, .int nx]))]) [0, 1] (by decide) rfl
  have hFc := va_free (wc := [(h0, .inr (3, [.ref sc, .ref dr, .int fo, .int fa, .int cu])), (sc, .inr (4, [.ref tp, .int ct, .ref s2, .ref s3, .ref s4, .int nx]))]) hD hS hA [0, 1] rfl
  refine va_callv (va_runV (As := []) (rest := []) ⟨hx, hb, hml, hown, hts⟩ (k_nextToken l D cI cB cP s.heap.size h0 sc dr fo fa cu tp s2 s3 s4 ct nx (show 0 ≤ cu.toInt ∧ cu.toInt ≤ 11 by first | assumption | omega | decide) (show 0 ≤ ct.toInt ∧ ct.toInt ≤ 12 by first | assumption | omega | decide)) (cwV 0 hts gw_k_wantSign_0 rfl rfl rfl (by decide +kernel) ⟨Nat.le_of_ble_eq_true rfl, Nat.le_of_ble_eq_true rfl⟩) ⟨ny_blind, va_recv hK hPc (ci := 3) (q0 := 0) rfl rfl, ny_pre hPc hK hN hDc⟩ rfl rfl hl.1 rfl (lv_room (Nat.le_of_ble_eq_true rfl)) dX3_wantSign_1 ⟨Nat.le_of_ble_eq_true rfl, Nat.le_of_ble_eq_true rfl⟩) hS (fun q _ h => hFc q h) hFc (fun u t H locs ht hvm hw hB hz1 hk1 hS => ?_)
  obtain ⟨cu_1, hp3, hP1, hD1⟩ := hB
  rw [ht] at hP1
  have hp3 : 0 ≤ cu_1.toInt ∧ cu_1.toInt ≤ 11 := hp3
  obtain ⟨hP, hD⟩ := va_join (wr := [(s2, .inl (cI, 12, .inl fk)), (s3, .inl (cI, 12, .inl fp))]) (w1 := [(h0, .inr (3, [.ref sc, .ref dr, .int fo, .int fa, .int cu_1])), (sc, .inr (4, [.ref tp, .int ct, .ref s2, .ref s3, .ref s4, .int nx]))]) hP hD [0, 1] [2, 3] rfl rfl (by decide) (by decide) hk1 hFc hP1 hD1
  have hP : va_P D vwCl [(s2, .inl (cI, 12, .inl fk)), (s3, .inl (cI, 12, .inl fp)), (h0, .inr (3, [.ref sc, .ref dr, .int fo, .int fa, .int cu_1])), (sc, .inr (4, [.ref tp, .int ct, .ref s2, .ref s3, .ref s4, .int nx]))] H := hP
  have hD : va_D A [(s2, .inl (cI, 12, .inl fk)), (s3, .inl (cI, 12, .inl fp)), (h0, .inr (3, [.ref sc, .ref dr, .int fo, .int fa, .int cu_1])), (sc, .inr (4, [.ref tp, .int ct, .ref s2, .ref s3, .ref s4, .int nx]))] := hD
  refine lv_aload_n hx hb dX3_wantSign_4 rfl (lv_at hl 0 rfl) ?_
  refine va_get (D := D) (ci := 3) (v := .ref sc) (C := RX3) (T := TX3) (N := 5) hx hb hts iw_k_wantSign_3 hown hK hP 2 rfl rfl 0 (by decide) (hts (.fieldLink RX3 14 "FlightDesk$Reader" "scanner" "LFlightDesk$Scanner;") (by decide +kernel)) (fun _ h9 => h9) rfl dX3_wantSign_5 ?_
  refine va_get (D := D) (ci := 4) (v := .ref s2) (C := RX4) (T := TX4) (N := 6) hx hb hts iw_k_wantSign_4 hown hK hP 3 rfl rfl 2 (by decide) (hts (.fieldLink RX3 46 "FlightDesk$Scanner" "kind" "[I") (by decide +kernel)) (fun _ h9 => h9) rfl dX3_wantSign_8 ?_
  refine lv_aload_n hx hb dX3_wantSign_11 rfl (lv_at hl 0 rfl) ?_
  refine va_get (D := D) (ci := 3) (v := .int cu_1) (C := RX3) (T := TX3) (N := 5) hx hb hts iw_k_wantSign_3 hown hK hP 2 rfl rfl 4 (by decide) (hts (.fieldLink RX3 43 "FlightDesk$Reader" "current" "I") (by decide +kernel)) (fun _ h9 => h9) rfl dX3_wantSign_12 ?_
  refine va_iald hx hb hK hP 0 0 rfl rfl (vp_in_iff.mpr ⟨show 0 ≤ cu_1.toInt by omega, show cu_1.toInt < ((12 : Nat) : Int) by omega⟩) dX3_wantSign_15 ?_
  refine lv_topi (fun v4 ev4 => ?_)
  refine lv_iconst (v := 3) hx hb dX3_wantSign_16 (by decide) ?_
  refine lv_icmp_eq (tgt := 24) hx hb dX3_wantSign_17 (by decide) (fun c5 => ?_) (fun c5 => ?_)
  · have tc5 : v4.toInt = 3 := i32_eq c5
    have hP9 := hP.sub (ws' := [(h0, .inr (3, [.ref sc, .ref dr, .int fo, .int fa, .int cu_1])), (sc, .inr (4, [.ref tp, .int ct, .ref s2, .ref s3, .ref s4, .int nx])), (s2, .inl (cI, 12, .inl fk)), (s3, .inl (cI, 12, .inl fp))]) [2, 3, 0, 1] rfl
    have hD9 := hD.sub (ws' := [(h0, .inr (3, [.ref sc, .ref dr, .int fo, .int fa, .int cu_1])), (sc, .inr (4, [.ref tp, .int ct, .ref s2, .ref s3, .ref s4, .int nx])), (s2, .inl (cI, 12, .inl fk)), (s3, .inl (cI, 12, .inl fp))]) [2, 3, 0, 1] (by decide) rfl
    refine W.widen (k := 0) (n := 0) (by decide) (by decide) ?_
    exact W.vret hx hb hr (fun t ht hW => ⟨⟨(), rfl, trivial, fo, fa, cu_1, (show 0 ≤ cu_1.toInt ∧ cu_1.toInt ≤ 11 by first | assumption | omega | decide), by rw [ht]; exact hP9, hD9⟩, hS.F ht⟩) hS.2.2 dX3_wantSign_24
  · have tc5 : ¬ (v4.toInt = 3) := i32_neq c5
    refine lv_aload_n hx hb dX3_wantSign_20 rfl (lv_at hl 0 rfl) ?_
    have hPc := hP.sub (ws' := [(h0, .inr (3, [.ref sc, .ref dr, .int fo, .int fa, .int cu_1])), (sc, .inr (4, [.ref tp, .int ct, .ref s2, .ref s3, .ref s4, .int nx])), (s2, .inl (cI, 12, .inl fk)), (s3, .inl (cI, 12, .inl fp))]) [2, 3, 0, 1] rfl
    have hDc := hD.sub (ws' := [(h0, .inr (3, [.ref sc, .ref dr, .int fo, .int fa, .int cu_1])), (sc, .inr (4, [.ref tp, .int ct, .ref s2, .ref s3, .ref s4, .int nx])), (s2, .inl (cI, 12, .inl fk)), (s3, .inl (cI, 12, .inl fp))]) [2, 3, 0, 1] (by decide) rfl
    have hFc := va_free (wc := [(h0, .inr (3, [.ref sc, .ref dr, .int fo, .int fa, .int cu_1])), (sc, .inr (4, [.ref tp, .int ct, .ref s2, .ref s3, .ref s4, .int nx])), (s2, .inl (cI, 12, .inl fk)), (s3, .inl (cI, 12, .inl fp))]) hD hS hA [2, 3, 0, 1] rfl
    refine va_callv (va_runV (As := []) (rest := []) ⟨hx, hb, hml, hown, hts⟩ (k_refuseToken l D cI cB cP H.size h0 sc dr fo fa cu_1 tp s2 s3 s4 ct nx fk fp (show 0 ≤ cu_1.toInt ∧ cu_1.toInt ≤ 11 by first | assumption | omega | decide) (show 0 ≤ ct.toInt ∧ ct.toInt ≤ 12 by first | assumption | omega | decide)) (cwV 0 hts gw_k_wantSign_1 rfl rfl rfl (by decide +kernel) ⟨Nat.le_of_ble_eq_true rfl, Nat.le_of_ble_eq_true rfl⟩) ⟨ny_blind, va_recv hK hPc (ci := 3) (q0 := 0) rfl rfl, ny_pre hPc hK hN hDc⟩ rfl rfl hl.1 rfl (lv_room (Nat.le_of_ble_eq_true rfl)) dX3_wantSign_21 ⟨Nat.le_of_ble_eq_true rfl, Nat.le_of_ble_eq_true rfl⟩) hS (fun q _ h => hFc q h) hFc (fun u t H locs ht hvm hw hB hz1 hk1 hS => ?_)
    obtain ⟨fo_6, fa_7, hP1, hD1⟩ := hB
    rw [ht] at hP1
    obtain ⟨hP, hD⟩ := va_join (wr := []) (w1 := [(h0, .inr (3, [.ref sc, .ref dr, .int fo_6, .int fa_7, .int cu_1])), (sc, .inr (4, [.ref tp, .int ct, .ref s2, .ref s3, .ref s4, .int nx])), (s2, .inl (cI, 12, .inl fk)), (s3, .inl (cI, 12, .inl fp))]) hP hD [2, 3, 0, 1] [] rfl rfl (by decide) (by decide) hk1 hFc hP1 hD1
    have hP : va_P D vwCl [(h0, .inr (3, [.ref sc, .ref dr, .int fo_6, .int fa_7, .int cu_1])), (sc, .inr (4, [.ref tp, .int ct, .ref s2, .ref s3, .ref s4, .int nx])), (s2, .inl (cI, 12, .inl fk)), (s3, .inl (cI, 12, .inl fp))] H := hP
    have hD : va_D A [(h0, .inr (3, [.ref sc, .ref dr, .int fo_6, .int fa_7, .int cu_1])), (sc, .inr (4, [.ref tp, .int ct, .ref s2, .ref s3, .ref s4, .int nx])), (s2, .inl (cI, 12, .inl fk)), (s3, .inl (cI, 12, .inl fp))] := hD
    have hP9 := hP.sub (ws' := [(h0, .inr (3, [.ref sc, .ref dr, .int fo_6, .int fa_7, .int cu_1])), (sc, .inr (4, [.ref tp, .int ct, .ref s2, .ref s3, .ref s4, .int nx])), (s2, .inl (cI, 12, .inl fk)), (s3, .inl (cI, 12, .inl fp))]) [0, 1, 2, 3] rfl
    have hD9 := hD.sub (ws' := [(h0, .inr (3, [.ref sc, .ref dr, .int fo_6, .int fa_7, .int cu_1])), (sc, .inr (4, [.ref tp, .int ct, .ref s2, .ref s3, .ref s4, .int nx])), (s2, .inl (cI, 12, .inl fk)), (s3, .inl (cI, 12, .inl fp))]) [0, 1, 2, 3] (by decide) rfl
    refine W.widen (k := 0) (n := 0) (by decide) (by decide) ?_
    exact W.vret hx hb hr (fun t ht hW => ⟨⟨(), rfl, trivial, fo_6, fa_7, cu_1, (show 0 ≤ cu_1.toInt ∧ cu_1.toInt ≤ 11 by first | assumption | omega | decide), by rw [ht]; exact hP9, hD9⟩, hS.F ht⟩) hS.2.2 dX3_wantSign_24
