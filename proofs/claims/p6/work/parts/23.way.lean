def wk_k_stageAhead : List Cond := .code yX6_stageAhead cX6_stageAhead 2 (some .int) :: ([.fieldLink RX6 21 "FlightDesk$Way" "count" "I", .fieldLink RX6 15 "FlightDesk$Way" "level" "[I"] ++ wsX60)
theorem iw_k_stageAhead_6 : ∀ w ∈ wsX60, w ∈ wk_k_stageAhead := fun _ h => List.mem_cons_of_mem _ (List.mem_append_right _ h)
set_option maxHeartbeats 4000000 in
set_option maxRecDepth 100000 in
theorem k_stageAhead (l : Launch) (D : va_G) (cI cB cP : ClassId) (sz : Nat) (h0 : Nat) (ct : Int32) (gr : Int32) (l2 : Nat) (l3 : Nat) (l4 : Nat) (k : Int32) (w3 : Nat → Int32) (hc9 : 0 ≤ ct.toInt ∧ ct.toInt ≤ 16) (hl9 : ∀ k : Nat, k < 16 → 0 ≤ (w3 k).toInt ∧ (w3 k).toInt ≤ 5) : Met l yX6_stageAhead wk_k_stageAhead ({ frames := 0, cells := 0, slots := 0, locals := 0 } : Room) (va_Pc [.ref h0, .int k] (Pw D cI cB cP sz [(h0, .inr (6, [.int ct, .int gr, .ref l2, .ref l3, .ref l4])), (l3, .inl (cI, 16, .inl w3))])) (va_Qi (fun (r : Int32) (_ : Unit) => 0 ≤ r.toInt ∧ r.toInt ≤ 6) (fun _ t => va_P D vwCl [(h0, .inr (6, [.int ct, .int gr, .ref l2, .ref l3, .ref l4])), (l3, .inl (cI, 16, .inl w3))] t.heap ∧ va_D (va_A [(h0, .inr (6, [.int ct, .int gr, .ref l2, .ref l3, .ref l4])), (l3, .inl (cI, 16, .inl w3))] sz) [(h0, .inr (6, [.int ct, .int gr, .ref l2, .ref l3, .ref l4])), (l3, .inl (cI, 16, .inl w3))]) (va_A [(h0, .inr (6, [.int ct, .int gr, .ref l2, .ref l3, .ref l4])), (l3, .inl (cI, 16, .inl w3))] sz)) 0 0 (va_A [(h0, .inr (6, [.int ct, .int gr, .ref l2, .ref l3, .ref l4])), (l3, .inl (cI, 16, .inl w3))] sz) := by
  refine Met.ofW (cc := cX6_stageAhead) (maxL := 2) (ret := (some .int)) (by decide) rfl ?_
  intro p e s m args below meth c s₁ B hml hv
  obtain ⟨rfl, hsz, hP, ⟨hK, hN⟩, hD0⟩ := hv
  have hx := B.exec
  have hb := B.bytes
  have hr := B.returns
  have hts := atoms_spec (ws := wk_k_stageAhead) B.pre
  have hown : s.vm.findClass RX6 = some m.cls := findClass_of_methodNamed B.named
  have hlocks := B.notSynchronized
  subst hsz
  have hD := hD0.self (sz := s.heap.size)
  generalize hAe : va_A [(h0, .inr (6, [.int ct, .int gr, .ref l2, .ref l3, .ref l4])), (l3, .inl (cI, 16, .inl w3))] s.heap.size = A at hD ⊢
  have hA : ∀ q : Nat, s.heap.size ≤ q → A q := fun q h => by rw [← hAe]; exact Or.inr h
  have hS : va_S A s.heap s.heap [] := va_S.rf
  have hP : va_P D vwCl [(h0, .inr (6, [.int ct, .int gr, .ref l2, .ref l3, .ref l4])), (l3, .inl (cI, 16, .inl w3))] s.heap := hP
  have hl := lv_entry ([.ref h0, .int k]) (n := 2) (Nat.le_of_ble_eq_true rfl)
  rw [lg_entry_eq]
  generalize (lg_sl ([.ref h0, .int k]) ++ List.replicate (2 - (lg_sl ([.ref h0, .int k])).length) Slot.unset).toArray = ls at hl ⊢
  have hl : lv_has ls 2 [(0, .ref h0), (1, .int k)] := hl
  refine lv_iload_n hx hb dX6_stageAhead_0 rfl (lv_at hl 1 rfl) ?_
  refine lv_iconst (v := 1) hx hb dX6_stageAhead_1 (by decide) ?_
  refine lv_icmp_lt (tgt := 26) hx hb dX6_stageAhead_2 (by decide) (fun c1 => ?_) (fun c1 => ?_)
  · have tc1 : k.toInt < 1 := i32_lt c1
    refine lv_iconst (v := 0) hx hb dX6_stageAhead_26 (by decide) ?_
    have hP9 := hP.sub (ws' := [(h0, .inr (6, [.int ct, .int gr, .ref l2, .ref l3, .ref l4])), (l3, .inl (cI, 16, .inl w3))]) [0, 1] rfl
    have hD9 := hD.sub (ws' := [(h0, .inr (6, [.int ct, .int gr, .ref l2, .ref l3, .ref l4])), (l3, .inl (cI, 16, .inl w3))]) [0, 1] (by decide) rfl
    refine W.widen (k := 0) (n := 0) (by decide) (by decide) ?_
    exact W.iret (v := 0) hx hb hr (fun t ht hW => ⟨⟨0, (), rfl, (show 0 ≤ 0 ∧ 0 ≤ 6 by first | assumption | omega | trivial | decide), by rw [ht]; exact hP9, hD9⟩, hS.F ht⟩) hS.2.2 dX6_stageAhead_27
  · have tc1 : ¬ (k.toInt < 1) := i32_nlt c1
    refine lv_iload_n hx hb dX6_stageAhead_5 rfl (lv_at hl 1 rfl) ?_
    refine lv_aload_n hx hb dX6_stageAhead_6 rfl (lv_at hl 0 rfl) ?_
    refine va_get (D := D) (ci := 6) (v := .int ct) (C := RX6) (T := TX6) (N := 5) hx hb hts iw_k_stageAhead_6 hown hK hP 0 rfl rfl 0 (by decide) (hts (.fieldLink RX6 21 "FlightDesk$Way" "count" "I") (by decide +kernel)) (fun _ h9 => h9) rfl dX6_stageAhead_7 ?_
    refine lv_icmp_gt (tgt := 26) hx hb dX6_stageAhead_10 (by decide) (fun c2 => ?_) (fun c2 => ?_)
    · have tc2 : ct.toInt < k.toInt := i32_lt c2
      refine lv_iconst (v := 0) hx hb dX6_stageAhead_26 (by decide) ?_
      have hP9 := hP.sub (ws' := [(h0, .inr (6, [.int ct, .int gr, .ref l2, .ref l3, .ref l4])), (l3, .inl (cI, 16, .inl w3))]) [0, 1] rfl
      have hD9 := hD.sub (ws' := [(h0, .inr (6, [.int ct, .int gr, .ref l2, .ref l3, .ref l4])), (l3, .inl (cI, 16, .inl w3))]) [0, 1] (by decide) rfl
      refine W.widen (k := 0) (n := 0) (by decide) (by decide) ?_
      exact W.iret (v := 0) hx hb hr (fun t ht hW => ⟨⟨0, (), rfl, (show 0 ≤ 0 ∧ 0 ≤ 6 by first | assumption | omega | trivial | decide), by rw [ht]; exact hP9, hD9⟩, hS.F ht⟩) hS.2.2 dX6_stageAhead_27
    · have tc2 : ¬ (ct.toInt < k.toInt) := i32_nlt c2
      refine lv_aload_n hx hb dX6_stageAhead_13 rfl (lv_at hl 0 rfl) ?_
      refine va_get (D := D) (ci := 6) (v := .ref l3) (C := RX6) (T := TX6) (N := 5) hx hb hts iw_k_stageAhead_6 hown hK hP 0 rfl rfl 3 (by decide) (hts (.fieldLink RX6 15 "FlightDesk$Way" "level" "[I") (by decide +kernel)) (fun _ h9 => h9) rfl dX6_stageAhead_14 ?_
      refine lv_iload_n hx hb dX6_stageAhead_17 rfl (lv_at hl 1 rfl) ?_
      refine lv_iconst (v := 1) hx hb dX6_stageAhead_18 (by decide) ?_
      refine lv_isub hx hb dX6_stageAhead_19 ?_
      refine lv_topi (fun v3 ev3 => ?_)
      have tv3 : v3.toInt = (k.toInt - 1 + 2147483648) % 4294967296 - 2147483648 := i32_sub ev3
      refine va_iald hx hb hK hP 1 0 rfl rfl (vp_in_iff.mpr ⟨show 0 ≤ v3.toInt by omega, show v3.toInt < ((16 : Nat) : Int) by omega⟩) dX6_stageAhead_20 ?_
      refine lv_topi (fun v4 ev4 => ?_)
      have tv4 : 0 ≤ v4.toInt ∧ v4.toInt ≤ 5 := by rw [ev4]; exact hl9 _ (ck_lt (show 0 ≤ v3.toInt by omega) (show v3.toInt < ((16 : Nat) : Int) by omega))
      refine lv_iconst (v := 1) hx hb dX6_stageAhead_21 (by decide) ?_
      refine lv_iadd hx hb dX6_stageAhead_22 ?_
      refine lv_topi (fun v5 ev5 => ?_)
      have tv5 : v5.toInt = (v4.toInt + 1 + 2147483648) % 4294967296 - 2147483648 := i32_add ev5
      refine lv_goto (tgt := 27) hx hb dX6_stageAhead_23 (by decide) ?_
      have hP9 := hP.sub (ws' := [(h0, .inr (6, [.int ct, .int gr, .ref l2, .ref l3, .ref l4])), (l3, .inl (cI, 16, .inl w3))]) [0, 1] rfl
      have hD9 := hD.sub (ws' := [(h0, .inr (6, [.int ct, .int gr, .ref l2, .ref l3, .ref l4])), (l3, .inl (cI, 16, .inl w3))]) [0, 1] (by decide) rfl
      refine W.widen (k := 0) (n := 0) (by decide) (by decide) ?_
      exact W.iret (v := v5) hx hb hr (fun t ht hW => ⟨⟨v5, (), rfl, (show 0 ≤ v5.toInt ∧ v5.toInt ≤ 6 by first | assumption | omega | trivial | decide), by rw [ht]; exact hP9, hD9⟩, hS.F ht⟩) hS.2.2 dX6_stageAhead_27

def wk_k_add : List Cond := .code yX6_add cX6_add 4 none :: ([.fieldLink RX6 21 "FlightDesk$Way" "count" "I", .fieldLink RX6 9 "FlightDesk$Way" "leg" "[I", .fieldLink RX6 15 "FlightDesk$Way" "level" "[I", .fieldLink RX6 18 "FlightDesk$Way" "left" "[I"] ++ wsX60)
theorem iw_k_add_6 : ∀ w ∈ wsX60, w ∈ wk_k_add := fun _ h => List.mem_cons_of_mem _ (List.mem_append_right _ h)
set_option maxHeartbeats 4000000 in
set_option maxRecDepth 100000 in
theorem k_add (l : Launch) (D : va_G) (cI cB cP : ClassId) (sz : Nat) (h0 : Nat) (ct : Int32) (gr : Int32) (l2 : Nat) (l3 : Nat) (l4 : Nat) (x : Int32) (y : Int32) (z9 : Int32) (w2 : Nat → Int32) (w3 : Nat → Int32) (w4 : Nat → Int32) (hc9 : 0 ≤ ct.toInt ∧ ct.toInt ≤ 16) (hx9 : 0 ≤ x.toInt ∧ x.toInt ≤ 15) (hy9 : 0 ≤ y.toInt ∧ y.toInt ≤ 5) (hz9 : 0 ≤ z9.toInt ∧ z9.toInt ≤ 1000000000) (h29 : ∀ k : Nat, k < 16 → 0 ≤ (w2 k).toInt ∧ (w2 k).toInt ≤ 15) (h39 : ∀ k : Nat, k < 16 → 0 ≤ (w3 k).toInt ∧ (w3 k).toInt ≤ 5) (h49 : ∀ k : Nat, k < 16 → 0 ≤ (w4 k).toInt ∧ (w4 k).toInt ≤ 1000000000) : Met l yX6_add wk_k_add ({ frames := 0, cells := 0, slots := 0, locals := 0 } : Room) (va_Pc [.ref h0, .int x, .int y, .int z9] (Pw D cI cB cP sz [(h0, .inr (6, [.int ct, .int gr, .ref l2, .ref l3, .ref l4])), (l2, .inl (cI, 16, .inl w2)), (l3, .inl (cI, 16, .inl w3)), (l4, .inl (cI, 16, .inl w4))])) (va_Qv (fun (_ : Unit) => True) (fun _ t => ∃ ct9 : Int32, ∃ u2 : Nat → Int32, ∃ u3 : Nat → Int32, ∃ u4 : Nat → Int32, (0 ≤ ct9.toInt ∧ ct9.toInt ≤ 16) ∧ (∀ k : Nat, k < 16 → 0 ≤ (u2 k).toInt ∧ (u2 k).toInt ≤ 15) ∧ (∀ k : Nat, k < 16 → 0 ≤ (u3 k).toInt ∧ (u3 k).toInt ≤ 5) ∧ (∀ k : Nat, k < 16 → 0 ≤ (u4 k).toInt ∧ (u4 k).toInt ≤ 1000000000) ∧ va_P D vwCl [(h0, .inr (6, [.int ct9, .int gr, .ref l2, .ref l3, .ref l4])), (l2, .inl (cI, 16, .inl u2)), (l3, .inl (cI, 16, .inl u3)), (l4, .inl (cI, 16, .inl u4))] t.heap ∧ va_D (va_A [(h0, .inr (6, [.int ct, .int gr, .ref l2, .ref l3, .ref l4])), (l2, .inl (cI, 16, .inl w2)), (l3, .inl (cI, 16, .inl w3)), (l4, .inl (cI, 16, .inl w4))] sz) [(h0, .inr (6, [.int ct9, .int gr, .ref l2, .ref l3, .ref l4])), (l2, .inl (cI, 16, .inl u2)), (l3, .inl (cI, 16, .inl u3)), (l4, .inl (cI, 16, .inl u4))]) (va_A [(h0, .inr (6, [.int ct, .int gr, .ref l2, .ref l3, .ref l4])), (l2, .inl (cI, 16, .inl w2)), (l3, .inl (cI, 16, .inl w3)), (l4, .inl (cI, 16, .inl w4))] sz)) 0 0 (va_A [(h0, .inr (6, [.int ct, .int gr, .ref l2, .ref l3, .ref l4])), (l2, .inl (cI, 16, .inl w2)), (l3, .inl (cI, 16, .inl w3)), (l4, .inl (cI, 16, .inl w4))] sz) := by
  refine Met.ofW (cc := cX6_add) (maxL := 4) (ret := none) (by decide) rfl ?_
  intro p e s m args below meth c s₁ B hml hv
  obtain ⟨rfl, hsz, hP, ⟨hK, hN⟩, hD0⟩ := hv
  have hx := B.exec
  have hb := B.bytes
  have hr := B.returns
  have hts := atoms_spec (ws := wk_k_add) B.pre
  have hown : s.vm.findClass RX6 = some m.cls := findClass_of_methodNamed B.named
  have hlocks := B.notSynchronized
  subst hsz
  have hD := hD0.self (sz := s.heap.size)
  generalize hAe : va_A [(h0, .inr (6, [.int ct, .int gr, .ref l2, .ref l3, .ref l4])), (l2, .inl (cI, 16, .inl w2)), (l3, .inl (cI, 16, .inl w3)), (l4, .inl (cI, 16, .inl w4))] s.heap.size = A at hD ⊢
  have hA : ∀ q : Nat, s.heap.size ≤ q → A q := fun q h => by rw [← hAe]; exact Or.inr h
  have hS : va_S A s.heap s.heap [] := va_S.rf
  have hP : va_P D vwCl [(h0, .inr (6, [.int ct, .int gr, .ref l2, .ref l3, .ref l4])), (l2, .inl (cI, 16, .inl w2)), (l3, .inl (cI, 16, .inl w3)), (l4, .inl (cI, 16, .inl w4))] s.heap := hP
  have hl := lv_entry ([.ref h0, .int x, .int y, .int z9]) (n := 4) (Nat.le_of_ble_eq_true rfl)
  rw [lg_entry_eq]
  generalize (lg_sl ([.ref h0, .int x, .int y, .int z9]) ++ List.replicate (4 - (lg_sl ([.ref h0, .int x, .int y, .int z9])).length) Slot.unset).toArray = ls at hl ⊢
  have hl : lv_has ls 4 [(0, .ref h0), (1, .int x), (2, .int y), (3, .int z9)] := hl
  refine lv_aload_n hx hb dX6_add_0 rfl (lv_at hl 0 rfl) ?_
  refine va_get (D := D) (ci := 6) (v := .int ct) (C := RX6) (T := TX6) (N := 5) hx hb hts iw_k_add_6 hown hK hP 0 rfl rfl 0 (by decide) (hts (.fieldLink RX6 21 "FlightDesk$Way" "count" "I") (by decide +kernel)) (fun _ h9 => h9) rfl dX6_add_1 ?_
  refine lv_bipush (v := 16) hx hb dX6_add_4 (by decide) ?_
  refine lv_icmp_ge (tgt := 49) hx hb dX6_add_6 (by decide) (fun c1 => ?_) (fun c1 => ?_)
  · have tc1 : 16 ≤ ct.toInt := i32_le c1
    have hP9 := hP.sub (ws' := [(h0, .inr (6, [.int ct, .int gr, .ref l2, .ref l3, .ref l4])), (l2, .inl (cI, 16, .inl w2)), (l3, .inl (cI, 16, .inl w3)), (l4, .inl (cI, 16, .inl w4))]) [0, 1, 2, 3] rfl
    have hD9 := hD.sub (ws' := [(h0, .inr (6, [.int ct, .int gr, .ref l2, .ref l3, .ref l4])), (l2, .inl (cI, 16, .inl w2)), (l3, .inl (cI, 16, .inl w3)), (l4, .inl (cI, 16, .inl w4))]) [0, 1, 2, 3] (by decide) rfl
    refine W.widen (k := 0) (n := 0) (by decide) (by decide) ?_
    exact W.vret hx hb hr (fun t ht hW => ⟨⟨(), rfl, trivial, ct, w2, w3, w4, (show 0 ≤ ct.toInt ∧ ct.toInt ≤ 16 by first | assumption | omega | decide), (by assumption), (by assumption), (by assumption), by rw [ht]; exact hP9, hD9⟩, hS.F ht⟩) hS.2.2 dX6_add_49
  · have tc1 : ¬ (16 ≤ ct.toInt) := i32_nle c1
    refine lv_aload_n hx hb dX6_add_9 rfl (lv_at hl 0 rfl) ?_
    refine va_get (D := D) (ci := 6) (v := .ref l2) (C := RX6) (T := TX6) (N := 5) hx hb hts iw_k_add_6 hown hK hP 0 rfl rfl 2 (by decide) (hts (.fieldLink RX6 9 "FlightDesk$Way" "leg" "[I") (by decide +kernel)) (fun _ h9 => h9) rfl dX6_add_10 ?_
    refine lv_aload_n hx hb dX6_add_13 rfl (lv_at hl 0 rfl) ?_
    refine va_get (D := D) (ci := 6) (v := .int ct) (C := RX6) (T := TX6) (N := 5) hx hb hts iw_k_add_6 hown hK hP 0 rfl rfl 0 (by decide) (hts (.fieldLink RX6 21 "FlightDesk$Way" "count" "I") (by decide +kernel)) (fun _ h9 => h9) rfl dX6_add_14 ?_
    refine lv_iload_n hx hb dX6_add_17 rfl (lv_at hl 1 rfl) ?_
    refine va_iast hx hb hK hP hD hS 1 0 rfl rfl (vp_in_iff.mpr ⟨show 0 ≤ ct.toInt by omega, show ct.toInt < ((16 : Nat) : Int) by omega⟩) dX6_add_18 (fun H locs hP hD hS => ?_)
    have hP : va_P D vwCl [(h0, .inr (6, [.int ct, .int gr, .ref l2, .ref l3, .ref l4])), (l2, .inl (cI, 16, .inl (upd w2 ct.toNatClampNeg x))), (l3, .inl (cI, 16, .inl w3)), (l4, .inl (cI, 16, .inl w4))] H := hP
    have hD : va_D A [(h0, .inr (6, [.int ct, .int gr, .ref l2, .ref l3, .ref l4])), (l2, .inl (cI, 16, .inl (upd w2 ct.toNatClampNeg x))), (l3, .inl (cI, 16, .inl w3)), (l4, .inl (cI, 16, .inl w4))] := hD
    obtain ⟨f2, ef2⟩ : ∃ z : Nat → Int32, z = (upd w2 ct.toNatClampNeg x) := ⟨_, rfl⟩
    rw [← ef2] at hP hD
    have hgf2 : ∀ k : Nat, k < 16 → 0 ≤ (f2 k).toInt ∧ (f2 k).toInt ≤ 15 := by rw [ef2]; exact fun k hk => upd_all (P := fun z => 0 ≤ z.toInt ∧ z.toInt ≤ 15) h29 (show 0 ≤ x.toInt ∧ x.toInt ≤ 15 by omega) k hk
    refine lv_aload_n hx hb dX6_add_19 rfl (lv_at hl 0 rfl) ?_
    refine va_get (D := D) (ci := 6) (v := .ref l3) (C := RX6) (T := TX6) (N := 5) hx hb hts iw_k_add_6 hown hK hP 0 rfl rfl 3 (by decide) (hts (.fieldLink RX6 15 "FlightDesk$Way" "level" "[I") (by decide +kernel)) (fun _ h9 => h9) rfl dX6_add_20 ?_
    refine lv_aload_n hx hb dX6_add_23 rfl (lv_at hl 0 rfl) ?_
    refine va_get (D := D) (ci := 6) (v := .int ct) (C := RX6) (T := TX6) (N := 5) hx hb hts iw_k_add_6 hown hK hP 0 rfl rfl 0 (by decide) (hts (.fieldLink RX6 21 "FlightDesk$Way" "count" "I") (by decide +kernel)) (fun _ h9 => h9) rfl dX6_add_24 ?_
    refine lv_iload_n hx hb dX6_add_27 rfl (lv_at hl 2 rfl) ?_
    refine va_iast hx hb hK hP hD hS 2 0 rfl rfl (vp_in_iff.mpr ⟨show 0 ≤ ct.toInt by omega, show ct.toInt < ((16 : Nat) : Int) by omega⟩) dX6_add_28 (fun H locs hP hD hS => ?_)
    have hP : va_P D vwCl [(h0, .inr (6, [.int ct, .int gr, .ref l2, .ref l3, .ref l4])), (l2, .inl (cI, 16, .inl f2)), (l3, .inl (cI, 16, .inl (upd w3 ct.toNatClampNeg y))), (l4, .inl (cI, 16, .inl w4))] H := hP
    have hD : va_D A [(h0, .inr (6, [.int ct, .int gr, .ref l2, .ref l3, .ref l4])), (l2, .inl (cI, 16, .inl f2)), (l3, .inl (cI, 16, .inl (upd w3 ct.toNatClampNeg y))), (l4, .inl (cI, 16, .inl w4))] := hD
    obtain ⟨f3, ef3⟩ : ∃ z : Nat → Int32, z = (upd w3 ct.toNatClampNeg y) := ⟨_, rfl⟩
    rw [← ef3] at hP hD
    have hgf3 : ∀ k : Nat, k < 16 → 0 ≤ (f3 k).toInt ∧ (f3 k).toInt ≤ 5 := by rw [ef3]; exact fun k hk => upd_all (P := fun z => 0 ≤ z.toInt ∧ z.toInt ≤ 5) h39 (show 0 ≤ y.toInt ∧ y.toInt ≤ 5 by omega) k hk
    refine lv_aload_n hx hb dX6_add_29 rfl (lv_at hl 0 rfl) ?_
    refine va_get (D := D) (ci := 6) (v := .ref l4) (C := RX6) (T := TX6) (N := 5) hx hb hts iw_k_add_6 hown hK hP 0 rfl rfl 4 (by decide) (hts (.fieldLink RX6 18 "FlightDesk$Way" "left" "[I") (by decide +kernel)) (fun _ h9 => h9) rfl dX6_add_30 ?_
    refine lv_aload_n hx hb dX6_add_33 rfl (lv_at hl 0 rfl) ?_
    refine va_get (D := D) (ci := 6) (v := .int ct) (C := RX6) (T := TX6) (N := 5) hx hb hts iw_k_add_6 hown hK hP 0 rfl rfl 0 (by decide) (hts (.fieldLink RX6 21 "FlightDesk$Way" "count" "I") (by decide +kernel)) (fun _ h9 => h9) rfl dX6_add_34 ?_
    refine lv_iload_n hx hb dX6_add_37 rfl (lv_at hl 3 rfl) ?_
    refine va_iast hx hb hK hP hD hS 3 0 rfl rfl (vp_in_iff.mpr ⟨show 0 ≤ ct.toInt by omega, show ct.toInt < ((16 : Nat) : Int) by omega⟩) dX6_add_38 (fun H locs hP hD hS => ?_)
    have hP : va_P D vwCl [(h0, .inr (6, [.int ct, .int gr, .ref l2, .ref l3, .ref l4])), (l2, .inl (cI, 16, .inl f2)), (l3, .inl (cI, 16, .inl f3)), (l4, .inl (cI, 16, .inl (upd w4 ct.toNatClampNeg z9)))] H := hP
    have hD : va_D A [(h0, .inr (6, [.int ct, .int gr, .ref l2, .ref l3, .ref l4])), (l2, .inl (cI, 16, .inl f2)), (l3, .inl (cI, 16, .inl f3)), (l4, .inl (cI, 16, .inl (upd w4 ct.toNatClampNeg z9)))] := hD
    obtain ⟨f4, ef4⟩ : ∃ z : Nat → Int32, z = (upd w4 ct.toNatClampNeg z9) := ⟨_, rfl⟩
    rw [← ef4] at hP hD
    have hgf4 : ∀ k : Nat, k < 16 → 0 ≤ (f4 k).toInt ∧ (f4 k).toInt ≤ 1000000000 := by rw [ef4]; exact fun k hk => upd_all (P := fun z => 0 ≤ z.toInt ∧ z.toInt ≤ 1000000000) h49 (show 0 ≤ z9.toInt ∧ z9.toInt ≤ 1000000000 by omega) k hk
    refine lv_aload_n hx hb dX6_add_39 rfl (lv_at hl 0 rfl) ?_
    refine lv_dup hx hb dX6_add_40 rfl ?_
    refine va_get (D := D) (ci := 6) (v := .int ct) (C := RX6) (T := TX6) (N := 5) hx hb hts iw_k_add_6 hown hK hP 0 rfl rfl 0 (by decide) (hts (.fieldLink RX6 21 "FlightDesk$Way" "count" "I") (by decide +kernel)) (fun _ h9 => h9) rfl dX6_add_41 ?_
    refine lv_iconst (v := 1) hx hb dX6_add_44 (by decide) ?_
    refine lv_iadd hx hb dX6_add_45 ?_
    refine lv_topi (fun v5 ev5 => ?_)
    have tv5 : v5.toInt = (ct.toInt + 1 + 2147483648) % 4294967296 - 2147483648 := i32_add ev5
    refine va_put (D := D) (ci := 6) (v := .int v5) (ty := .int) (C := RX6) (T := TX6) (N := 5) hx hb hts iw_k_add_6 tyX6 tyX6_ok nmX6 hown hK hP hD hS 0 rfl rfl 0 (by decide) (hts (.fieldLink RX6 21 "FlightDesk$Way" "count" "I") (by decide +kernel)) (fun _ h9 => h9) rfl (by decide +kernel) rfl rfl (Nat.le_of_ble_eq_true rfl) dX6_add_46 (fun H locs hP hD hS => ?_)
    have hP : va_P D vwCl [(h0, .inr (6, [.int v5, .int gr, .ref l2, .ref l3, .ref l4])), (l2, .inl (cI, 16, .inl f2)), (l3, .inl (cI, 16, .inl f3)), (l4, .inl (cI, 16, .inl f4))] H := hP
    have hD : va_D A [(h0, .inr (6, [.int v5, .int gr, .ref l2, .ref l3, .ref l4])), (l2, .inl (cI, 16, .inl f2)), (l3, .inl (cI, 16, .inl f3)), (l4, .inl (cI, 16, .inl f4))] := hD
    have hP9 := hP.sub (ws' := [(h0, .inr (6, [.int v5, .int gr, .ref l2, .ref l3, .ref l4])), (l2, .inl (cI, 16, .inl f2)), (l3, .inl (cI, 16, .inl f3)), (l4, .inl (cI, 16, .inl f4))]) [0, 1, 2, 3] rfl
    have hD9 := hD.sub (ws' := [(h0, .inr (6, [.int v5, .int gr, .ref l2, .ref l3, .ref l4])), (l2, .inl (cI, 16, .inl f2)), (l3, .inl (cI, 16, .inl f3)), (l4, .inl (cI, 16, .inl f4))]) [0, 1, 2, 3] (by decide) rfl
    refine W.widen (k := 0) (n := 0) (by decide) (by decide) ?_
    exact W.vret hx hb hr (fun t ht hW => ⟨⟨(), rfl, trivial, v5, f2, f3, f4, (show 0 ≤ v5.toInt ∧ v5.toInt ≤ 16 by first | assumption | omega | decide), (by assumption), (by assumption), (by assumption), by rw [ht]; exact hP9, hD9⟩, hS.F ht⟩) hS.2.2 dX6_add_49
