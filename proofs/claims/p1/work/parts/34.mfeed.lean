def wk_k_mfeed : List Cond := .code yX8_feed cX8_feed 8 (some .int) :: ([.fieldLink RX8 121 "FlightDeskModel" "taped" "I", .fieldLink RX8 58 "FlightDeskModel" "tape" "[B"] ++ wsX80)
theorem iw_k_mfeed_8 : ∀ w ∈ wsX80, w ∈ wk_k_mfeed := fun _ h => List.mem_cons_of_mem _ (List.mem_append_right _ h)
set_option maxHeartbeats 4000000 in
set_option maxRecDepth 100000 in
theorem k_mfeed (l : Launch) (D : va_G) (cI cB cP : ClassId) (sz : Nat) (m0 : Nat) (r0 : Nat) (r1 : Nat) (r11 : Nat) (r12 : Nat) (r13 : Nat) (r14 : Nat) (r15 : Nat) (r16 : Nat) (r17 : Nat) (r18 : Nat) (r19 : Nat) (r20 : Nat) (r21 : Nat) (r22 : Nat) (r23 : Nat) (r24 : Nat) (r34 : Nat) (r35 : Nat) (r36 : Nat) (r39 : Nat) (f : Nat → Int32) (x1 : Int32) (x2 : Int32) (x3 : Int32) (x4 : Int32) (x5 : Int32) : Met l yX8_feed wk_k_mfeed ({ frames := 0, cells := 0, slots := 0, locals := 0 } : Room) (va_Pc [.ref m0, .int x1, .int x2, .int x3, .int x4, .int x5] (Pw D cI cB cP sz [(m0, .inr (8, [.ref r0, .ref r1, .int 0, .int 0, .int 0, .int (-1), .int 0, .int 0, .int 0, .int 0, .long 0, .ref r11, .ref r12, .ref r13, .ref r14, .ref r15, .ref r16, .ref r17, .ref r18, .ref r19, .ref r20, .ref r21, .ref r22, .ref r23, .ref r24, .int 0, .int 0, .int 0, .int 0, .int 0, .int 0, .int 0, .int 0, .int 0, .ref r34, .ref r35, .ref r36, .int 0, .int 0, .ref r39])), (r0, .inl (cB, 1020, .inl f))])) (va_Qi (fun (r : Int32) (_ : Unit) => r = 20) (fun _ _ => True) (va_A [(m0, .inr (8, [.ref r0, .ref r1, .int 0, .int 0, .int 0, .int (-1), .int 0, .int 0, .int 0, .int 0, .long 0, .ref r11, .ref r12, .ref r13, .ref r14, .ref r15, .ref r16, .ref r17, .ref r18, .ref r19, .ref r20, .ref r21, .ref r22, .ref r23, .ref r24, .int 0, .int 0, .int 0, .int 0, .int 0, .int 0, .int 0, .int 0, .int 0, .ref r34, .ref r35, .ref r36, .int 0, .int 0, .ref r39])), (r0, .inl (cB, 1020, .inl f))] sz)) 0 0 (va_A [(m0, .inr (8, [.ref r0, .ref r1, .int 0, .int 0, .int 0, .int (-1), .int 0, .int 0, .int 0, .int 0, .long 0, .ref r11, .ref r12, .ref r13, .ref r14, .ref r15, .ref r16, .ref r17, .ref r18, .ref r19, .ref r20, .ref r21, .ref r22, .ref r23, .ref r24, .int 0, .int 0, .int 0, .int 0, .int 0, .int 0, .int 0, .int 0, .int 0, .ref r34, .ref r35, .ref r36, .int 0, .int 0, .ref r39])), (r0, .inl (cB, 1020, .inl f))] sz) := by
  refine Met.ofW (cc := cX8_feed) (maxL := 8) (ret := (some .int)) (by decide) rfl ?_
  intro p e s m args below meth c s₁ B hml hv
  obtain ⟨rfl, hsz, hP, ⟨hK, hN⟩, hD0⟩ := hv
  have hx := B.exec
  have hb := B.bytes
  have hr := B.returns
  have hts := atoms_spec (ws := wk_k_mfeed) B.pre
  have hown : s.vm.findClass RX8 = some m.cls := findClass_of_methodNamed B.named
  have hlocks := B.notSynchronized
  subst hsz
  have hD := hD0.self (sz := s.heap.size)
  generalize hAe : va_A [(m0, .inr (8, [.ref r0, .ref r1, .int 0, .int 0, .int 0, .int (-1), .int 0, .int 0, .int 0, .int 0, .long 0, .ref r11, .ref r12, .ref r13, .ref r14, .ref r15, .ref r16, .ref r17, .ref r18, .ref r19, .ref r20, .ref r21, .ref r22, .ref r23, .ref r24, .int 0, .int 0, .int 0, .int 0, .int 0, .int 0, .int 0, .int 0, .int 0, .ref r34, .ref r35, .ref r36, .int 0, .int 0, .ref r39])), (r0, .inl (cB, 1020, .inl f))] s.heap.size = A at hD ⊢
  have hA : ∀ q : Nat, s.heap.size ≤ q → A q := fun q h => by rw [← hAe]; exact Or.inr h
  have hS : va_S A s.heap s.heap [] := va_S.rf
  have hP : va_P D vwCl [(m0, .inr (8, [.ref r0, .ref r1, .int 0, .int 0, .int 0, .int (-1), .int 0, .int 0, .int 0, .int 0, .long 0, .ref r11, .ref r12, .ref r13, .ref r14, .ref r15, .ref r16, .ref r17, .ref r18, .ref r19, .ref r20, .ref r21, .ref r22, .ref r23, .ref r24, .int 0, .int 0, .int 0, .int 0, .int 0, .int 0, .int 0, .int 0, .int 0, .ref r34, .ref r35, .ref r36, .int 0, .int 0, .ref r39])), (r0, .inl (cB, 1020, .inl f))] s.heap := hP
  have hl := lv_entry ([.ref m0, .int x1, .int x2, .int x3, .int x4, .int x5]) (n := 8) (Nat.le_of_ble_eq_true rfl)
  rw [lg_entry_eq]
  generalize (lg_sl ([.ref m0, .int x1, .int x2, .int x3, .int x4, .int x5]) ++ List.replicate (8 - (lg_sl ([.ref m0, .int x1, .int x2, .int x3, .int x4, .int x5])).length) Slot.unset).toArray = ls at hl ⊢
  have hl : lv_has ls 8 [(0, .ref m0), (1, .int x1), (2, .int x2), (3, .int x3), (4, .int x4), (5, .int x5)] := hl
  refine lv_aload_n hx hb dX8_feed_0 rfl (lv_at hl 0 rfl) ?_
  refine va_get (D := D) (ci := 8) (v := .int 0) (C := RX8) (T := TX8) (N := 40) hx hb hts iw_k_mfeed_8 hown hK hP 0 rfl rfl 2 (by decide) (hts (.fieldLink RX8 121 "FlightDeskModel" "taped" "I") (by decide +kernel)) (fun _ h9 => h9) rfl dX8_feed_1 ?_
  refine lv_bipush (v := 20) hx hb dX8_feed_4 (by decide) ?_
  refine lv_iadd hx hb dX8_feed_6 ?_
  refine lv_topi (fun vv ev => ?_)
  obtain rfl : vv = 20 := ev.trans (by decide)
  refine lv_sipush (v := 1000) hx hb dX8_feed_7 (by decide) ?_
  refine lv_icmp_le (tgt := 15) hx hb dX8_feed_10 (by decide) (fun c1 => ?_) (fun h9 => (by first | exact absurd h9 (by decide) | exact absurd (by decide) h9))
  refine lv_iconst (v := 0) hx hb dX8_feed_15 (by decide) ?_
  refine lv_istore (lv' := [(6, .int 0), (0, .ref m0), (1, .int x1), (2, .int x2), (3, .int x3), (4, .int x4), (5, .int x5)]) hx hb dX8_feed_16 hl (by decide) rfl (fun ls hl => ?_)
  refine lv_iload hx hb dX8_feed_18 (lv_at hl 0 rfl) ?_
  refine lv_bipush (v := 20) hx hb dX8_feed_20 (by decide) ?_
  refine lv_icmp_ge (tgt := 105) hx hb dX8_feed_22 (by decide) (fun h9 => (by first | exact absurd h9 (by decide) | exact absurd (by decide) h9)) (fun c2 => ?_)
  refine lv_iload hx hb dX8_feed_25 (lv_at hl 0 rfl) ?_
  refine lv_iconst (v := 4) hx hb dX8_feed_27 (by decide) ?_
  refine lv_icmp_ge (tgt := 35) hx hb dX8_feed_28 (by decide) (fun h9 => (by first | exact absurd h9 (by decide) | exact absurd (by decide) h9)) (fun c3 => ?_)
  refine lv_iload_n hx hb dX8_feed_31 rfl (lv_at hl 2 rfl) ?_
  refine lv_goto (tgt := 71) hx hb dX8_feed_32 (by decide) ?_
  refine lv_istore (lv' := [(7, .int x1), (6, .int 0), (0, .ref m0), (1, .int x1), (2, .int x2), (3, .int x3), (4, .int x4), (5, .int x5)]) hx hb dX8_feed_71 hl (by decide) rfl (fun ls hl => ?_)
  refine lv_aload_n hx hb dX8_feed_73 rfl (lv_at hl 2 rfl) ?_
  refine va_get (D := D) (ci := 8) (v := .ref r0) (C := RX8) (T := TX8) (N := 40) hx hb hts iw_k_mfeed_8 hown hK hP 0 rfl rfl 0 (by decide) (hts (.fieldLink RX8 58 "FlightDeskModel" "tape" "[B") (by decide +kernel)) (fun _ h9 => h9) rfl dX8_feed_74 ?_
  refine lv_aload_n hx hb dX8_feed_77 rfl (lv_at hl 2 rfl) ?_
  refine va_get (D := D) (ci := 8) (v := .int 0) (C := RX8) (T := TX8) (N := 40) hx hb hts iw_k_mfeed_8 hown hK hP 0 rfl rfl 2 (by decide) (hts (.fieldLink RX8 121 "FlightDeskModel" "taped" "I") (by decide +kernel)) (fun _ h9 => h9) rfl dX8_feed_78 ?_
  refine lv_iload hx hb dX8_feed_81 (lv_at hl 1 rfl) ?_
  refine lv_iadd hx hb dX8_feed_83 ?_
  refine lv_topi (fun vv ev => ?_)
  obtain rfl : vv = 0 := ev.trans (by decide)
  refine lv_iload hx hb dX8_feed_84 (lv_at hl 0 rfl) ?_
  refine lv_bipush (v := 24) hx hb dX8_feed_86 (by decide) ?_
  refine lv_bipush (v := 8) hx hb dX8_feed_88 (by decide) ?_
  refine lv_iload hx hb dX8_feed_90 (lv_at hl 1 rfl) ?_
  refine lv_iconst (v := 3) hx hb dX8_feed_92 (by decide) ?_
  refine lv_iand hx hb dX8_feed_93 ?_
  refine lv_topi (fun vv ev => ?_)
  obtain rfl : vv = 0 := ev.trans (by decide)
  refine lv_imul hx hb dX8_feed_94 ?_
  refine lv_topi (fun vv ev => ?_)
  obtain rfl : vv = 0 := ev.trans (by decide)
  refine lv_isub hx hb dX8_feed_95 ?_
  refine lv_topi (fun vv ev => ?_)
  obtain rfl : vv = 24 := ev.trans (by decide)
  refine lv_ishr hx hb dX8_feed_96 ?_
  refine lv_topi (fun v4 ev4 => ?_)
  refine lv_i2b hx hb dX8_feed_97 rfl ?_
  refine lv_topi (fun v5 ev5 => ?_)
  refine va_bast hx hb hK hP hD hS 1 1 rfl rfl (show ¬ (_ ∨ _) by decide) dX8_feed_98 (fun H locs hP hD hS => ?_)
  have hP : va_P D vwCl [(m0, .inr (8, [.ref r0, .ref r1, .int 0, .int 0, .int 0, .int (-1), .int 0, .int 0, .int 0, .int 0, .long 0, .ref r11, .ref r12, .ref r13, .ref r14, .ref r15, .ref r16, .ref r17, .ref r18, .ref r19, .ref r20, .ref r21, .ref r22, .ref r23, .ref r24, .int 0, .int 0, .int 0, .int 0, .int 0, .int 0, .int 0, .int 0, .int 0, .ref r34, .ref r35, .ref r36, .int 0, .int 0, .ref r39])), (r0, .inl (cB, 1020, .inl (upd f (0 : Int32).toNatClampNeg (vp_nar .byte v5))))] H := hP
  have hD : va_D A [(m0, .inr (8, [.ref r0, .ref r1, .int 0, .int 0, .int 0, .int (-1), .int 0, .int 0, .int 0, .int 0, .long 0, .ref r11, .ref r12, .ref r13, .ref r14, .ref r15, .ref r16, .ref r17, .ref r18, .ref r19, .ref r20, .ref r21, .ref r22, .ref r23, .ref r24, .int 0, .int 0, .int 0, .int 0, .int 0, .int 0, .int 0, .int 0, .int 0, .ref r34, .ref r35, .ref r36, .int 0, .int 0, .ref r39])), (r0, .inl (cB, 1020, .inl (upd f (0 : Int32).toNatClampNeg (vp_nar .byte v5))))] := hD
  obtain ⟨f6, ef6⟩ : ∃ z : Nat → Int32, z = (upd f (0 : Int32).toNatClampNeg (vp_nar .byte v5)) := ⟨_, rfl⟩
  rw [← ef6] at hP hD
  refine lv_iinc (v := 1) (lv' := [(6, .int 1), (7, .int x1), (0, .ref m0), (1, .int x1), (2, .int x2), (3, .int x3), (4, .int x4), (5, .int x5)]) hx hb dX8_feed_99 hl (k := 1) rfl (by decide) (by decide) rfl (fun ls hl => ?_)
  refine lv_goto (tgt := 18) hx hb dX8_feed_102 (by decide) ?_
  refine lv_iload hx hb dX8_feed_18 (lv_at hl 0 rfl) ?_
  refine lv_bipush (v := 20) hx hb dX8_feed_20 (by decide) ?_
  refine lv_icmp_ge (tgt := 105) hx hb dX8_feed_22 (by decide) (fun h9 => (by first | exact absurd h9 (by decide) | exact absurd (by decide) h9)) (fun c7 => ?_)
  refine lv_iload hx hb dX8_feed_25 (lv_at hl 0 rfl) ?_
  refine lv_iconst (v := 4) hx hb dX8_feed_27 (by decide) ?_
  refine lv_icmp_ge (tgt := 35) hx hb dX8_feed_28 (by decide) (fun h9 => (by first | exact absurd h9 (by decide) | exact absurd (by decide) h9)) (fun c8 => ?_)
  refine lv_iload_n hx hb dX8_feed_31 rfl (lv_at hl 3 rfl) ?_
  refine lv_goto (tgt := 71) hx hb dX8_feed_32 (by decide) ?_
  refine lv_istore (lv' := [(7, .int x1), (6, .int 1), (0, .ref m0), (1, .int x1), (2, .int x2), (3, .int x3), (4, .int x4), (5, .int x5)]) hx hb dX8_feed_71 hl (by decide) rfl (fun ls hl => ?_)
  refine lv_aload_n hx hb dX8_feed_73 rfl (lv_at hl 2 rfl) ?_
  refine va_get (D := D) (ci := 8) (v := .ref r0) (C := RX8) (T := TX8) (N := 40) hx hb hts iw_k_mfeed_8 hown hK hP 0 rfl rfl 0 (by decide) (hts (.fieldLink RX8 58 "FlightDeskModel" "tape" "[B") (by decide +kernel)) (fun _ h9 => h9) rfl dX8_feed_74 ?_
  refine lv_aload_n hx hb dX8_feed_77 rfl (lv_at hl 2 rfl) ?_
  refine va_get (D := D) (ci := 8) (v := .int 0) (C := RX8) (T := TX8) (N := 40) hx hb hts iw_k_mfeed_8 hown hK hP 0 rfl rfl 2 (by decide) (hts (.fieldLink RX8 121 "FlightDeskModel" "taped" "I") (by decide +kernel)) (fun _ h9 => h9) rfl dX8_feed_78 ?_
  refine lv_iload hx hb dX8_feed_81 (lv_at hl 1 rfl) ?_
  refine lv_iadd hx hb dX8_feed_83 ?_
  refine lv_topi (fun vv ev => ?_)
  obtain rfl : vv = 1 := ev.trans (by decide)
  refine lv_iload hx hb dX8_feed_84 (lv_at hl 0 rfl) ?_
  refine lv_bipush (v := 24) hx hb dX8_feed_86 (by decide) ?_
  refine lv_bipush (v := 8) hx hb dX8_feed_88 (by decide) ?_
  refine lv_iload hx hb dX8_feed_90 (lv_at hl 1 rfl) ?_
  refine lv_iconst (v := 3) hx hb dX8_feed_92 (by decide) ?_
  refine lv_iand hx hb dX8_feed_93 ?_
  refine lv_topi (fun vv ev => ?_)
  obtain rfl : vv = 1 := ev.trans (by decide)
  refine lv_imul hx hb dX8_feed_94 ?_
  refine lv_topi (fun vv ev => ?_)
  obtain rfl : vv = 8 := ev.trans (by decide)
  refine lv_isub hx hb dX8_feed_95 ?_
  refine lv_topi (fun vv ev => ?_)
  obtain rfl : vv = 16 := ev.trans (by decide)
  refine lv_ishr hx hb dX8_feed_96 ?_
  refine lv_topi (fun v9 ev9 => ?_)
  refine lv_i2b hx hb dX8_feed_97 rfl ?_
  refine lv_topi (fun v10 ev10 => ?_)
  refine va_bast hx hb hK hP hD hS 1 1 rfl rfl (show ¬ (_ ∨ _) by decide) dX8_feed_98 (fun H locs hP hD hS => ?_)
  have hP : va_P D vwCl [(m0, .inr (8, [.ref r0, .ref r1, .int 0, .int 0, .int 0, .int (-1), .int 0, .int 0, .int 0, .int 0, .long 0, .ref r11, .ref r12, .ref r13, .ref r14, .ref r15, .ref r16, .ref r17, .ref r18, .ref r19, .ref r20, .ref r21, .ref r22, .ref r23, .ref r24, .int 0, .int 0, .int 0, .int 0, .int 0, .int 0, .int 0, .int 0, .int 0, .ref r34, .ref r35, .ref r36, .int 0, .int 0, .ref r39])), (r0, .inl (cB, 1020, .inl (upd f6 (1 : Int32).toNatClampNeg (vp_nar .byte v10))))] H := hP
  have hD : va_D A [(m0, .inr (8, [.ref r0, .ref r1, .int 0, .int 0, .int 0, .int (-1), .int 0, .int 0, .int 0, .int 0, .long 0, .ref r11, .ref r12, .ref r13, .ref r14, .ref r15, .ref r16, .ref r17, .ref r18, .ref r19, .ref r20, .ref r21, .ref r22, .ref r23, .ref r24, .int 0, .int 0, .int 0, .int 0, .int 0, .int 0, .int 0, .int 0, .int 0, .ref r34, .ref r35, .ref r36, .int 0, .int 0, .ref r39])), (r0, .inl (cB, 1020, .inl (upd f6 (1 : Int32).toNatClampNeg (vp_nar .byte v10))))] := hD
  obtain ⟨f11, ef11⟩ : ∃ z : Nat → Int32, z = (upd f6 (1 : Int32).toNatClampNeg (vp_nar .byte v10)) := ⟨_, rfl⟩
  rw [← ef11] at hP hD
  refine lv_iinc (v := 2) (lv' := [(6, .int 2), (7, .int x1), (0, .ref m0), (1, .int x1), (2, .int x2), (3, .int x3), (4, .int x4), (5, .int x5)]) hx hb dX8_feed_99 hl (k := 1) rfl (by decide) (by decide) rfl (fun ls hl => ?_)
  refine lv_goto (tgt := 18) hx hb dX8_feed_102 (by decide) ?_
  refine lv_iload hx hb dX8_feed_18 (lv_at hl 0 rfl) ?_
  refine lv_bipush (v := 20) hx hb dX8_feed_20 (by decide) ?_
  refine lv_icmp_ge (tgt := 105) hx hb dX8_feed_22 (by decide) (fun h9 => (by first | exact absurd h9 (by decide) | exact absurd (by decide) h9)) (fun c12 => ?_)
  refine lv_iload hx hb dX8_feed_25 (lv_at hl 0 rfl) ?_
  refine lv_iconst (v := 4) hx hb dX8_feed_27 (by decide) ?_
  refine lv_icmp_ge (tgt := 35) hx hb dX8_feed_28 (by decide) (fun h9 => (by first | exact absurd h9 (by decide) | exact absurd (by decide) h9)) (fun c13 => ?_)
  refine lv_iload_n hx hb dX8_feed_31 rfl (lv_at hl 3 rfl) ?_
  refine lv_goto (tgt := 71) hx hb dX8_feed_32 (by decide) ?_
  refine lv_istore (lv' := [(7, .int x1), (6, .int 2), (0, .ref m0), (1, .int x1), (2, .int x2), (3, .int x3), (4, .int x4), (5, .int x5)]) hx hb dX8_feed_71 hl (by decide) rfl (fun ls hl => ?_)
  refine lv_aload_n hx hb dX8_feed_73 rfl (lv_at hl 2 rfl) ?_
  refine va_get (D := D) (ci := 8) (v := .ref r0) (C := RX8) (T := TX8) (N := 40) hx hb hts iw_k_mfeed_8 hown hK hP 0 rfl rfl 0 (by decide) (hts (.fieldLink RX8 58 "FlightDeskModel" "tape" "[B") (by decide +kernel)) (fun _ h9 => h9) rfl dX8_feed_74 ?_
  refine lv_aload_n hx hb dX8_feed_77 rfl (lv_at hl 2 rfl) ?_
  refine va_get (D := D) (ci := 8) (v := .int 0) (C := RX8) (T := TX8) (N := 40) hx hb hts iw_k_mfeed_8 hown hK hP 0 rfl rfl 2 (by decide) (hts (.fieldLink RX8 121 "FlightDeskModel" "taped" "I") (by decide +kernel)) (fun _ h9 => h9) rfl dX8_feed_78 ?_
  refine lv_iload hx hb dX8_feed_81 (lv_at hl 1 rfl) ?_
  refine lv_iadd hx hb dX8_feed_83 ?_
  refine lv_topi (fun vv ev => ?_)
  obtain rfl : vv = 2 := ev.trans (by decide)
  refine lv_iload hx hb dX8_feed_84 (lv_at hl 0 rfl) ?_
  refine lv_bipush (v := 24) hx hb dX8_feed_86 (by decide) ?_
  refine lv_bipush (v := 8) hx hb dX8_feed_88 (by decide) ?_
  refine lv_iload hx hb dX8_feed_90 (lv_at hl 1 rfl) ?_
  refine lv_iconst (v := 3) hx hb dX8_feed_92 (by decide) ?_
  refine lv_iand hx hb dX8_feed_93 ?_
  refine lv_topi (fun vv ev => ?_)
  obtain rfl : vv = 2 := ev.trans (by decide)
  refine lv_imul hx hb dX8_feed_94 ?_
  refine lv_topi (fun vv ev => ?_)
  obtain rfl : vv = 16 := ev.trans (by decide)
  refine lv_isub hx hb dX8_feed_95 ?_
  refine lv_topi (fun vv ev => ?_)
  obtain rfl : vv = 8 := ev.trans (by decide)
  refine lv_ishr hx hb dX8_feed_96 ?_
  refine lv_topi (fun v14 ev14 => ?_)
  refine lv_i2b hx hb dX8_feed_97 rfl ?_
  refine lv_topi (fun v15 ev15 => ?_)
  refine va_bast hx hb hK hP hD hS 1 1 rfl rfl (show ¬ (_ ∨ _) by decide) dX8_feed_98 (fun H locs hP hD hS => ?_)
  have hP : va_P D vwCl [(m0, .inr (8, [.ref r0, .ref r1, .int 0, .int 0, .int 0, .int (-1), .int 0, .int 0, .int 0, .int 0, .long 0, .ref r11, .ref r12, .ref r13, .ref r14, .ref r15, .ref r16, .ref r17, .ref r18, .ref r19, .ref r20, .ref r21, .ref r22, .ref r23, .ref r24, .int 0, .int 0, .int 0, .int 0, .int 0, .int 0, .int 0, .int 0, .int 0, .ref r34, .ref r35, .ref r36, .int 0, .int 0, .ref r39])), (r0, .inl (cB, 1020, .inl (upd f11 (2 : Int32).toNatClampNeg (vp_nar .byte v15))))] H := hP
  have hD : va_D A [(m0, .inr (8, [.ref r0, .ref r1, .int 0, .int 0, .int 0, .int (-1), .int 0, .int 0, .int 0, .int 0, .long 0, .ref r11, .ref r12, .ref r13, .ref r14, .ref r15, .ref r16, .ref r17, .ref r18, .ref r19, .ref r20, .ref r21, .ref r22, .ref r23, .ref r24, .int 0, .int 0, .int 0, .int 0, .int 0, .int 0, .int 0, .int 0, .int 0, .ref r34, .ref r35, .ref r36, .int 0, .int 0, .ref r39])), (r0, .inl (cB, 1020, .inl (upd f11 (2 : Int32).toNatClampNeg (vp_nar .byte v15))))] := hD
  obtain ⟨f16, ef16⟩ : ∃ z : Nat → Int32, z = (upd f11 (2 : Int32).toNatClampNeg (vp_nar .byte v15)) := ⟨_, rfl⟩
  rw [← ef16] at hP hD
  refine lv_iinc (v := 3) (lv' := [(6, .int 3), (7, .int x1), (0, .ref m0), (1, .int x1), (2, .int x2), (3, .int x3), (4, .int x4), (5, .int x5)]) hx hb dX8_feed_99 hl (k := 1) rfl (by decide) (by decide) rfl (fun ls hl => ?_)
  refine lv_goto (tgt := 18) hx hb dX8_feed_102 (by decide) ?_
  refine lv_iload hx hb dX8_feed_18 (lv_at hl 0 rfl) ?_
  refine lv_bipush (v := 20) hx hb dX8_feed_20 (by decide) ?_
  refine lv_icmp_ge (tgt := 105) hx hb dX8_feed_22 (by decide) (fun h9 => (by first | exact absurd h9 (by decide) | exact absurd (by decide) h9)) (fun c17 => ?_)
  refine lv_iload hx hb dX8_feed_25 (lv_at hl 0 rfl) ?_
  refine lv_iconst (v := 4) hx hb dX8_feed_27 (by decide) ?_
  refine lv_icmp_ge (tgt := 35) hx hb dX8_feed_28 (by decide) (fun h9 => (by first | exact absurd h9 (by decide) | exact absurd (by decide) h9)) (fun c18 => ?_)
  refine lv_iload_n hx hb dX8_feed_31 rfl (lv_at hl 3 rfl) ?_
  refine lv_goto (tgt := 71) hx hb dX8_feed_32 (by decide) ?_
  refine lv_istore (lv' := [(7, .int x1), (6, .int 3), (0, .ref m0), (1, .int x1), (2, .int x2), (3, .int x3), (4, .int x4), (5, .int x5)]) hx hb dX8_feed_71 hl (by decide) rfl (fun ls hl => ?_)
  refine lv_aload_n hx hb dX8_feed_73 rfl (lv_at hl 2 rfl) ?_
  refine va_get (D := D) (ci := 8) (v := .ref r0) (C := RX8) (T := TX8) (N := 40) hx hb hts iw_k_mfeed_8 hown hK hP 0 rfl rfl 0 (by decide) (hts (.fieldLink RX8 58 "FlightDeskModel" "tape" "[B") (by decide +kernel)) (fun _ h9 => h9) rfl dX8_feed_74 ?_
  refine lv_aload_n hx hb dX8_feed_77 rfl (lv_at hl 2 rfl) ?_
  refine va_get (D := D) (ci := 8) (v := .int 0) (C := RX8) (T := TX8) (N := 40) hx hb hts iw_k_mfeed_8 hown hK hP 0 rfl rfl 2 (by decide) (hts (.fieldLink RX8 121 "FlightDeskModel" "taped" "I") (by decide +kernel)) (fun _ h9 => h9) rfl dX8_feed_78 ?_
  refine lv_iload hx hb dX8_feed_81 (lv_at hl 1 rfl) ?_
  refine lv_iadd hx hb dX8_feed_83 ?_
  refine lv_topi (fun vv ev => ?_)
  obtain rfl : vv = 3 := ev.trans (by decide)
  refine lv_iload hx hb dX8_feed_84 (lv_at hl 0 rfl) ?_
  refine lv_bipush (v := 24) hx hb dX8_feed_86 (by decide) ?_
  refine lv_bipush (v := 8) hx hb dX8_feed_88 (by decide) ?_
  refine lv_iload hx hb dX8_feed_90 (lv_at hl 1 rfl) ?_
  refine lv_iconst (v := 3) hx hb dX8_feed_92 (by decide) ?_
  refine lv_iand hx hb dX8_feed_93 ?_
  refine lv_topi (fun vv ev => ?_)
  obtain rfl : vv = 3 := ev.trans (by decide)
  refine lv_imul hx hb dX8_feed_94 ?_
  refine lv_topi (fun vv ev => ?_)
  obtain rfl : vv = 24 := ev.trans (by decide)
  refine lv_isub hx hb dX8_feed_95 ?_
  refine lv_topi (fun vv ev => ?_)
  obtain rfl : vv = 0 := ev.trans (by decide)
  refine lv_ishr hx hb dX8_feed_96 ?_
  refine lv_topi (fun v19 ev19 => ?_)
  refine lv_i2b hx hb dX8_feed_97 rfl ?_
  refine lv_topi (fun v20 ev20 => ?_)
  refine va_bast hx hb hK hP hD hS 1 1 rfl rfl (show ¬ (_ ∨ _) by decide) dX8_feed_98 (fun H locs hP hD hS => ?_)
  have hP : va_P D vwCl [(m0, .inr (8, [.ref r0, .ref r1, .int 0, .int 0, .int 0, .int (-1), .int 0, .int 0, .int 0, .int 0, .long 0, .ref r11, .ref r12, .ref r13, .ref r14, .ref r15, .ref r16, .ref r17, .ref r18, .ref r19, .ref r20, .ref r21, .ref r22, .ref r23, .ref r24, .int 0, .int 0, .int 0, .int 0, .int 0, .int 0, .int 0, .int 0, .int 0, .ref r34, .ref r35, .ref r36, .int 0, .int 0, .ref r39])), (r0, .inl (cB, 1020, .inl (upd f16 (3 : Int32).toNatClampNeg (vp_nar .byte v20))))] H := hP
  have hD : va_D A [(m0, .inr (8, [.ref r0, .ref r1, .int 0, .int 0, .int 0, .int (-1), .int 0, .int 0, .int 0, .int 0, .long 0, .ref r11, .ref r12, .ref r13, .ref r14, .ref r15, .ref r16, .ref r17, .ref r18, .ref r19, .ref r20, .ref r21, .ref r22, .ref r23, .ref r24, .int 0, .int 0, .int 0, .int 0, .int 0, .int 0, .int 0, .int 0, .int 0, .ref r34, .ref r35, .ref r36, .int 0, .int 0, .ref r39])), (r0, .inl (cB, 1020, .inl (upd f16 (3 : Int32).toNatClampNeg (vp_nar .byte v20))))] := hD
  obtain ⟨f21, ef21⟩ : ∃ z : Nat → Int32, z = (upd f16 (3 : Int32).toNatClampNeg (vp_nar .byte v20)) := ⟨_, rfl⟩
  rw [← ef21] at hP hD
  refine lv_iinc (v := 4) (lv' := [(6, .int 4), (7, .int x1), (0, .ref m0), (1, .int x1), (2, .int x2), (3, .int x3), (4, .int x4), (5, .int x5)]) hx hb dX8_feed_99 hl (k := 1) rfl (by decide) (by decide) rfl (fun ls hl => ?_)
  refine lv_goto (tgt := 18) hx hb dX8_feed_102 (by decide) ?_
  refine lv_iload hx hb dX8_feed_18 (lv_at hl 0 rfl) ?_
  refine lv_bipush (v := 20) hx hb dX8_feed_20 (by decide) ?_
  refine lv_icmp_ge (tgt := 105) hx hb dX8_feed_22 (by decide) (fun h9 => (by first | exact absurd h9 (by decide) | exact absurd (by decide) h9)) (fun c22 => ?_)
  refine lv_iload hx hb dX8_feed_25 (lv_at hl 0 rfl) ?_
  refine lv_iconst (v := 4) hx hb dX8_feed_27 (by decide) ?_
  refine lv_icmp_ge (tgt := 35) hx hb dX8_feed_28 (by decide) (fun c23 => ?_) (fun h9 => (by first | exact absurd h9 (by decide) | exact absurd (by decide) h9))
  refine lv_iload hx hb dX8_feed_35 (lv_at hl 0 rfl) ?_
  refine lv_bipush (v := 8) hx hb dX8_feed_37 (by decide) ?_
  refine lv_icmp_ge (tgt := 46) hx hb dX8_feed_39 (by decide) (fun h9 => (by first | exact absurd h9 (by decide) | exact absurd (by decide) h9)) (fun c24 => ?_)
  refine lv_iload_n hx hb dX8_feed_42 rfl (lv_at hl 4 rfl) ?_
  refine lv_goto (tgt := 71) hx hb dX8_feed_43 (by decide) ?_
  refine lv_istore (lv' := [(7, .int x2), (6, .int 4), (0, .ref m0), (1, .int x1), (2, .int x2), (3, .int x3), (4, .int x4), (5, .int x5)]) hx hb dX8_feed_71 hl (by decide) rfl (fun ls hl => ?_)
  refine lv_aload_n hx hb dX8_feed_73 rfl (lv_at hl 2 rfl) ?_
  refine va_get (D := D) (ci := 8) (v := .ref r0) (C := RX8) (T := TX8) (N := 40) hx hb hts iw_k_mfeed_8 hown hK hP 0 rfl rfl 0 (by decide) (hts (.fieldLink RX8 58 "FlightDeskModel" "tape" "[B") (by decide +kernel)) (fun _ h9 => h9) rfl dX8_feed_74 ?_
  refine lv_aload_n hx hb dX8_feed_77 rfl (lv_at hl 2 rfl) ?_
  refine va_get (D := D) (ci := 8) (v := .int 0) (C := RX8) (T := TX8) (N := 40) hx hb hts iw_k_mfeed_8 hown hK hP 0 rfl rfl 2 (by decide) (hts (.fieldLink RX8 121 "FlightDeskModel" "taped" "I") (by decide +kernel)) (fun _ h9 => h9) rfl dX8_feed_78 ?_
  refine lv_iload hx hb dX8_feed_81 (lv_at hl 1 rfl) ?_
  refine lv_iadd hx hb dX8_feed_83 ?_
  refine lv_topi (fun vv ev => ?_)
  obtain rfl : vv = 4 := ev.trans (by decide)
  refine lv_iload hx hb dX8_feed_84 (lv_at hl 0 rfl) ?_
  refine lv_bipush (v := 24) hx hb dX8_feed_86 (by decide) ?_
  refine lv_bipush (v := 8) hx hb dX8_feed_88 (by decide) ?_
  refine lv_iload hx hb dX8_feed_90 (lv_at hl 1 rfl) ?_
  refine lv_iconst (v := 3) hx hb dX8_feed_92 (by decide) ?_
  refine lv_iand hx hb dX8_feed_93 ?_
  refine lv_topi (fun vv ev => ?_)
  obtain rfl : vv = 0 := ev.trans (by decide)
  refine lv_imul hx hb dX8_feed_94 ?_
  refine lv_topi (fun vv ev => ?_)
  obtain rfl : vv = 0 := ev.trans (by decide)
  refine lv_isub hx hb dX8_feed_95 ?_
  refine lv_topi (fun vv ev => ?_)
  obtain rfl : vv = 24 := ev.trans (by decide)
  refine lv_ishr hx hb dX8_feed_96 ?_
  refine lv_topi (fun v25 ev25 => ?_)
  refine lv_i2b hx hb dX8_feed_97 rfl ?_
  refine lv_topi (fun v26 ev26 => ?_)
  refine va_bast hx hb hK hP hD hS 1 1 rfl rfl (show ¬ (_ ∨ _) by decide) dX8_feed_98 (fun H locs hP hD hS => ?_)
  have hP : va_P D vwCl [(m0, .inr (8, [.ref r0, .ref r1, .int 0, .int 0, .int 0, .int (-1), .int 0, .int 0, .int 0, .int 0, .long 0, .ref r11, .ref r12, .ref r13, .ref r14, .ref r15, .ref r16, .ref r17, .ref r18, .ref r19, .ref r20, .ref r21, .ref r22, .ref r23, .ref r24, .int 0, .int 0, .int 0, .int 0, .int 0, .int 0, .int 0, .int 0, .int 0, .ref r34, .ref r35, .ref r36, .int 0, .int 0, .ref r39])), (r0, .inl (cB, 1020, .inl (upd f21 (4 : Int32).toNatClampNeg (vp_nar .byte v26))))] H := hP
  have hD : va_D A [(m0, .inr (8, [.ref r0, .ref r1, .int 0, .int 0, .int 0, .int (-1), .int 0, .int 0, .int 0, .int 0, .long 0, .ref r11, .ref r12, .ref r13, .ref r14, .ref r15, .ref r16, .ref r17, .ref r18, .ref r19, .ref r20, .ref r21, .ref r22, .ref r23, .ref r24, .int 0, .int 0, .int 0, .int 0, .int 0, .int 0, .int 0, .int 0, .int 0, .ref r34, .ref r35, .ref r36, .int 0, .int 0, .ref r39])), (r0, .inl (cB, 1020, .inl (upd f21 (4 : Int32).toNatClampNeg (vp_nar .byte v26))))] := hD
  obtain ⟨f27, ef27⟩ : ∃ z : Nat → Int32, z = (upd f21 (4 : Int32).toNatClampNeg (vp_nar .byte v26)) := ⟨_, rfl⟩
  rw [← ef27] at hP hD
  refine lv_iinc (v := 5) (lv' := [(6, .int 5), (7, .int x2), (0, .ref m0), (1, .int x1), (2, .int x2), (3, .int x3), (4, .int x4), (5, .int x5)]) hx hb dX8_feed_99 hl (k := 1) rfl (by decide) (by decide) rfl (fun ls hl => ?_)
  refine lv_goto (tgt := 18) hx hb dX8_feed_102 (by decide) ?_
  refine lv_iload hx hb dX8_feed_18 (lv_at hl 0 rfl) ?_
  refine lv_bipush (v := 20) hx hb dX8_feed_20 (by decide) ?_
  refine lv_icmp_ge (tgt := 105) hx hb dX8_feed_22 (by decide) (fun h9 => (by first | exact absurd h9 (by decide) | exact absurd (by decide) h9)) (fun c28 => ?_)
  refine lv_iload hx hb dX8_feed_25 (lv_at hl 0 rfl) ?_
  refine lv_iconst (v := 4) hx hb dX8_feed_27 (by decide) ?_
  refine lv_icmp_ge (tgt := 35) hx hb dX8_feed_28 (by decide) (fun c29 => ?_) (fun h9 => (by first | exact absurd h9 (by decide) | exact absurd (by decide) h9))
  refine lv_iload hx hb dX8_feed_35 (lv_at hl 0 rfl) ?_
  refine lv_bipush (v := 8) hx hb dX8_feed_37 (by decide) ?_
  refine lv_icmp_ge (tgt := 46) hx hb dX8_feed_39 (by decide) (fun h9 => (by first | exact absurd h9 (by decide) | exact absurd (by decide) h9)) (fun c30 => ?_)
  refine lv_iload_n hx hb dX8_feed_42 rfl (lv_at hl 4 rfl) ?_
  refine lv_goto (tgt := 71) hx hb dX8_feed_43 (by decide) ?_
  refine lv_istore (lv' := [(7, .int x2), (6, .int 5), (0, .ref m0), (1, .int x1), (2, .int x2), (3, .int x3), (4, .int x4), (5, .int x5)]) hx hb dX8_feed_71 hl (by decide) rfl (fun ls hl => ?_)
  refine lv_aload_n hx hb dX8_feed_73 rfl (lv_at hl 2 rfl) ?_
  refine va_get (D := D) (ci := 8) (v := .ref r0) (C := RX8) (T := TX8) (N := 40) hx hb hts iw_k_mfeed_8 hown hK hP 0 rfl rfl 0 (by decide) (hts (.fieldLink RX8 58 "FlightDeskModel" "tape" "[B") (by decide +kernel)) (fun _ h9 => h9) rfl dX8_feed_74 ?_
  refine lv_aload_n hx hb dX8_feed_77 rfl (lv_at hl 2 rfl) ?_
  refine va_get (D := D) (ci := 8) (v := .int 0) (C := RX8) (T := TX8) (N := 40) hx hb hts iw_k_mfeed_8 hown hK hP 0 rfl rfl 2 (by decide) (hts (.fieldLink RX8 121 "FlightDeskModel" "taped" "I") (by decide +kernel)) (fun _ h9 => h9) rfl dX8_feed_78 ?_
  refine lv_iload hx hb dX8_feed_81 (lv_at hl 1 rfl) ?_
  refine lv_iadd hx hb dX8_feed_83 ?_
  refine lv_topi (fun vv ev => ?_)
  obtain rfl : vv = 5 := ev.trans (by decide)
  refine lv_iload hx hb dX8_feed_84 (lv_at hl 0 rfl) ?_
  refine lv_bipush (v := 24) hx hb dX8_feed_86 (by decide) ?_
  refine lv_bipush (v := 8) hx hb dX8_feed_88 (by decide) ?_
  refine lv_iload hx hb dX8_feed_90 (lv_at hl 1 rfl) ?_
  refine lv_iconst (v := 3) hx hb dX8_feed_92 (by decide) ?_
  refine lv_iand hx hb dX8_feed_93 ?_
  refine lv_topi (fun vv ev => ?_)
  obtain rfl : vv = 1 := ev.trans (by decide)
  refine lv_imul hx hb dX8_feed_94 ?_
  refine lv_topi (fun vv ev => ?_)
  obtain rfl : vv = 8 := ev.trans (by decide)
  refine lv_isub hx hb dX8_feed_95 ?_
  refine lv_topi (fun vv ev => ?_)
  obtain rfl : vv = 16 := ev.trans (by decide)
  refine lv_ishr hx hb dX8_feed_96 ?_
  refine lv_topi (fun v31 ev31 => ?_)
  refine lv_i2b hx hb dX8_feed_97 rfl ?_
  refine lv_topi (fun v32 ev32 => ?_)
  refine va_bast hx hb hK hP hD hS 1 1 rfl rfl (show ¬ (_ ∨ _) by decide) dX8_feed_98 (fun H locs hP hD hS => ?_)
  have hP : va_P D vwCl [(m0, .inr (8, [.ref r0, .ref r1, .int 0, .int 0, .int 0, .int (-1), .int 0, .int 0, .int 0, .int 0, .long 0, .ref r11, .ref r12, .ref r13, .ref r14, .ref r15, .ref r16, .ref r17, .ref r18, .ref r19, .ref r20, .ref r21, .ref r22, .ref r23, .ref r24, .int 0, .int 0, .int 0, .int 0, .int 0, .int 0, .int 0, .int 0, .int 0, .ref r34, .ref r35, .ref r36, .int 0, .int 0, .ref r39])), (r0, .inl (cB, 1020, .inl (upd f27 (5 : Int32).toNatClampNeg (vp_nar .byte v32))))] H := hP
  have hD : va_D A [(m0, .inr (8, [.ref r0, .ref r1, .int 0, .int 0, .int 0, .int (-1), .int 0, .int 0, .int 0, .int 0, .long 0, .ref r11, .ref r12, .ref r13, .ref r14, .ref r15, .ref r16, .ref r17, .ref r18, .ref r19, .ref r20, .ref r21, .ref r22, .ref r23, .ref r24, .int 0, .int 0, .int 0, .int 0, .int 0, .int 0, .int 0, .int 0, .int 0, .ref r34, .ref r35, .ref r36, .int 0, .int 0, .ref r39])), (r0, .inl (cB, 1020, .inl (upd f27 (5 : Int32).toNatClampNeg (vp_nar .byte v32))))] := hD
  obtain ⟨f33, ef33⟩ : ∃ z : Nat → Int32, z = (upd f27 (5 : Int32).toNatClampNeg (vp_nar .byte v32)) := ⟨_, rfl⟩
  rw [← ef33] at hP hD
  refine lv_iinc (v := 6) (lv' := [(6, .int 6), (7, .int x2), (0, .ref m0), (1, .int x1), (2, .int x2), (3, .int x3), (4, .int x4), (5, .int x5)]) hx hb dX8_feed_99 hl (k := 1) rfl (by decide) (by decide) rfl (fun ls hl => ?_)
  refine lv_goto (tgt := 18) hx hb dX8_feed_102 (by decide) ?_
  refine lv_iload hx hb dX8_feed_18 (lv_at hl 0 rfl) ?_
  refine lv_bipush (v := 20) hx hb dX8_feed_20 (by decide) ?_
  refine lv_icmp_ge (tgt := 105) hx hb dX8_feed_22 (by decide) (fun h9 => (by first | exact absurd h9 (by decide) | exact absurd (by decide) h9)) (fun c34 => ?_)
  refine lv_iload hx hb dX8_feed_25 (lv_at hl 0 rfl) ?_
  refine lv_iconst (v := 4) hx hb dX8_feed_27 (by decide) ?_
  refine lv_icmp_ge (tgt := 35) hx hb dX8_feed_28 (by decide) (fun c35 => ?_) (fun h9 => (by first | exact absurd h9 (by decide) | exact absurd (by decide) h9))
  refine lv_iload hx hb dX8_feed_35 (lv_at hl 0 rfl) ?_
  refine lv_bipush (v := 8) hx hb dX8_feed_37 (by decide) ?_
  refine lv_icmp_ge (tgt := 46) hx hb dX8_feed_39 (by decide) (fun h9 => (by first | exact absurd h9 (by decide) | exact absurd (by decide) h9)) (fun c36 => ?_)
  refine lv_iload_n hx hb dX8_feed_42 rfl (lv_at hl 4 rfl) ?_
  refine lv_goto (tgt := 71) hx hb dX8_feed_43 (by decide) ?_
  refine lv_istore (lv' := [(7, .int x2), (6, .int 6), (0, .ref m0), (1, .int x1), (2, .int x2), (3, .int x3), (4, .int x4), (5, .int x5)]) hx hb dX8_feed_71 hl (by decide) rfl (fun ls hl => ?_)
  refine lv_aload_n hx hb dX8_feed_73 rfl (lv_at hl 2 rfl) ?_
  refine va_get (D := D) (ci := 8) (v := .ref r0) (C := RX8) (T := TX8) (N := 40) hx hb hts iw_k_mfeed_8 hown hK hP 0 rfl rfl 0 (by decide) (hts (.fieldLink RX8 58 "FlightDeskModel" "tape" "[B") (by decide +kernel)) (fun _ h9 => h9) rfl dX8_feed_74 ?_
  refine lv_aload_n hx hb dX8_feed_77 rfl (lv_at hl 2 rfl) ?_
  refine va_get (D := D) (ci := 8) (v := .int 0) (C := RX8) (T := TX8) (N := 40) hx hb hts iw_k_mfeed_8 hown hK hP 0 rfl rfl 2 (by decide) (hts (.fieldLink RX8 121 "FlightDeskModel" "taped" "I") (by decide +kernel)) (fun _ h9 => h9) rfl dX8_feed_78 ?_
  refine lv_iload hx hb dX8_feed_81 (lv_at hl 1 rfl) ?_
  refine lv_iadd hx hb dX8_feed_83 ?_
  refine lv_topi (fun vv ev => ?_)
  obtain rfl : vv = 6 := ev.trans (by decide)
  refine lv_iload hx hb dX8_feed_84 (lv_at hl 0 rfl) ?_
  refine lv_bipush (v := 24) hx hb dX8_feed_86 (by decide) ?_
  refine lv_bipush (v := 8) hx hb dX8_feed_88 (by decide) ?_
  refine lv_iload hx hb dX8_feed_90 (lv_at hl 1 rfl) ?_
  refine lv_iconst (v := 3) hx hb dX8_feed_92 (by decide) ?_
  refine lv_iand hx hb dX8_feed_93 ?_
  refine lv_topi (fun vv ev => ?_)
  obtain rfl : vv = 2 := ev.trans (by decide)
  refine lv_imul hx hb dX8_feed_94 ?_
  refine lv_topi (fun vv ev => ?_)
  obtain rfl : vv = 16 := ev.trans (by decide)
  refine lv_isub hx hb dX8_feed_95 ?_
  refine lv_topi (fun vv ev => ?_)
  obtain rfl : vv = 8 := ev.trans (by decide)
  refine lv_ishr hx hb dX8_feed_96 ?_
  refine lv_topi (fun v37 ev37 => ?_)
  refine lv_i2b hx hb dX8_feed_97 rfl ?_
  refine lv_topi (fun v38 ev38 => ?_)
  refine va_bast hx hb hK hP hD hS 1 1 rfl rfl (show ¬ (_ ∨ _) by decide) dX8_feed_98 (fun H locs hP hD hS => ?_)
  have hP : va_P D vwCl [(m0, .inr (8, [.ref r0, .ref r1, .int 0, .int 0, .int 0, .int (-1), .int 0, .int 0, .int 0, .int 0, .long 0, .ref r11, .ref r12, .ref r13, .ref r14, .ref r15, .ref r16, .ref r17, .ref r18, .ref r19, .ref r20, .ref r21, .ref r22, .ref r23, .ref r24, .int 0, .int 0, .int 0, .int 0, .int 0, .int 0, .int 0, .int 0, .int 0, .ref r34, .ref r35, .ref r36, .int 0, .int 0, .ref r39])), (r0, .inl (cB, 1020, .inl (upd f33 (6 : Int32).toNatClampNeg (vp_nar .byte v38))))] H := hP
  have hD : va_D A [(m0, .inr (8, [.ref r0, .ref r1, .int 0, .int 0, .int 0, .int (-1), .int 0, .int 0, .int 0, .int 0, .long 0, .ref r11, .ref r12, .ref r13, .ref r14, .ref r15, .ref r16, .ref r17, .ref r18, .ref r19, .ref r20, .ref r21, .ref r22, .ref r23, .ref r24, .int 0, .int 0, .int 0, .int 0, .int 0, .int 0, .int 0, .int 0, .int 0, .ref r34, .ref r35, .ref r36, .int 0, .int 0, .ref r39])), (r0, .inl (cB, 1020, .inl (upd f33 (6 : Int32).toNatClampNeg (vp_nar .byte v38))))] := hD
  obtain ⟨f39, ef39⟩ : ∃ z : Nat → Int32, z = (upd f33 (6 : Int32).toNatClampNeg (vp_nar .byte v38)) := ⟨_, rfl⟩
  rw [← ef39] at hP hD
  refine lv_iinc (v := 7) (lv' := [(6, .int 7), (7, .int x2), (0, .ref m0), (1, .int x1), (2, .int x2), (3, .int x3), (4, .int x4), (5, .int x5)]) hx hb dX8_feed_99 hl (k := 1) rfl (by decide) (by decide) rfl (fun ls hl => ?_)
  refine lv_goto (tgt := 18) hx hb dX8_feed_102 (by decide) ?_
  refine lv_iload hx hb dX8_feed_18 (lv_at hl 0 rfl) ?_
  refine lv_bipush (v := 20) hx hb dX8_feed_20 (by decide) ?_
  refine lv_icmp_ge (tgt := 105) hx hb dX8_feed_22 (by decide) (fun h9 => (by first | exact absurd h9 (by decide) | exact absurd (by decide) h9)) (fun c40 => ?_)
  refine lv_iload hx hb dX8_feed_25 (lv_at hl 0 rfl) ?_
  refine lv_iconst (v := 4) hx hb dX8_feed_27 (by decide) ?_
  refine lv_icmp_ge (tgt := 35) hx hb dX8_feed_28 (by decide) (fun c41 => ?_) (fun h9 => (by first | exact absurd h9 (by decide) | exact absurd (by decide) h9))
  refine lv_iload hx hb dX8_feed_35 (lv_at hl 0 rfl) ?_
  refine lv_bipush (v := 8) hx hb dX8_feed_37 (by decide) ?_
  refine lv_icmp_ge (tgt := 46) hx hb dX8_feed_39 (by decide) (fun h9 => (by first | exact absurd h9 (by decide) | exact absurd (by decide) h9)) (fun c42 => ?_)
  refine lv_iload_n hx hb dX8_feed_42 rfl (lv_at hl 4 rfl) ?_
  refine lv_goto (tgt := 71) hx hb dX8_feed_43 (by decide) ?_
  refine lv_istore (lv' := [(7, .int x2), (6, .int 7), (0, .ref m0), (1, .int x1), (2, .int x2), (3, .int x3), (4, .int x4), (5, .int x5)]) hx hb dX8_feed_71 hl (by decide) rfl (fun ls hl => ?_)
  refine lv_aload_n hx hb dX8_feed_73 rfl (lv_at hl 2 rfl) ?_
  refine va_get (D := D) (ci := 8) (v := .ref r0) (C := RX8) (T := TX8) (N := 40) hx hb hts iw_k_mfeed_8 hown hK hP 0 rfl rfl 0 (by decide) (hts (.fieldLink RX8 58 "FlightDeskModel" "tape" "[B") (by decide +kernel)) (fun _ h9 => h9) rfl dX8_feed_74 ?_
  refine lv_aload_n hx hb dX8_feed_77 rfl (lv_at hl 2 rfl) ?_
  refine va_get (D := D) (ci := 8) (v := .int 0) (C := RX8) (T := TX8) (N := 40) hx hb hts iw_k_mfeed_8 hown hK hP 0 rfl rfl 2 (by decide) (hts (.fieldLink RX8 121 "FlightDeskModel" "taped" "I") (by decide +kernel)) (fun _ h9 => h9) rfl dX8_feed_78 ?_
  refine lv_iload hx hb dX8_feed_81 (lv_at hl 1 rfl) ?_
  refine lv_iadd hx hb dX8_feed_83 ?_
  refine lv_topi (fun vv ev => ?_)
  obtain rfl : vv = 7 := ev.trans (by decide)
  refine lv_iload hx hb dX8_feed_84 (lv_at hl 0 rfl) ?_
  refine lv_bipush (v := 24) hx hb dX8_feed_86 (by decide) ?_
  refine lv_bipush (v := 8) hx hb dX8_feed_88 (by decide) ?_
  refine lv_iload hx hb dX8_feed_90 (lv_at hl 1 rfl) ?_
  refine lv_iconst (v := 3) hx hb dX8_feed_92 (by decide) ?_
  refine lv_iand hx hb dX8_feed_93 ?_
  refine lv_topi (fun vv ev => ?_)
  obtain rfl : vv = 3 := ev.trans (by decide)
  refine lv_imul hx hb dX8_feed_94 ?_
  refine lv_topi (fun vv ev => ?_)
  obtain rfl : vv = 24 := ev.trans (by decide)
  refine lv_isub hx hb dX8_feed_95 ?_
  refine lv_topi (fun vv ev => ?_)
  obtain rfl : vv = 0 := ev.trans (by decide)
  refine lv_ishr hx hb dX8_feed_96 ?_
  refine lv_topi (fun v43 ev43 => ?_)
  refine lv_i2b hx hb dX8_feed_97 rfl ?_
  refine lv_topi (fun v44 ev44 => ?_)
  refine va_bast hx hb hK hP hD hS 1 1 rfl rfl (show ¬ (_ ∨ _) by decide) dX8_feed_98 (fun H locs hP hD hS => ?_)
  have hP : va_P D vwCl [(m0, .inr (8, [.ref r0, .ref r1, .int 0, .int 0, .int 0, .int (-1), .int 0, .int 0, .int 0, .int 0, .long 0, .ref r11, .ref r12, .ref r13, .ref r14, .ref r15, .ref r16, .ref r17, .ref r18, .ref r19, .ref r20, .ref r21, .ref r22, .ref r23, .ref r24, .int 0, .int 0, .int 0, .int 0, .int 0, .int 0, .int 0, .int 0, .int 0, .ref r34, .ref r35, .ref r36, .int 0, .int 0, .ref r39])), (r0, .inl (cB, 1020, .inl (upd f39 (7 : Int32).toNatClampNeg (vp_nar .byte v44))))] H := hP
  have hD : va_D A [(m0, .inr (8, [.ref r0, .ref r1, .int 0, .int 0, .int 0, .int (-1), .int 0, .int 0, .int 0, .int 0, .long 0, .ref r11, .ref r12, .ref r13, .ref r14, .ref r15, .ref r16, .ref r17, .ref r18, .ref r19, .ref r20, .ref r21, .ref r22, .ref r23, .ref r24, .int 0, .int 0, .int 0, .int 0, .int 0, .int 0, .int 0, .int 0, .int 0, .ref r34, .ref r35, .ref r36, .int 0, .int 0, .ref r39])), (r0, .inl (cB, 1020, .inl (upd f39 (7 : Int32).toNatClampNeg (vp_nar .byte v44))))] := hD
  obtain ⟨f45, ef45⟩ : ∃ z : Nat → Int32, z = (upd f39 (7 : Int32).toNatClampNeg (vp_nar .byte v44)) := ⟨_, rfl⟩
  rw [← ef45] at hP hD
  refine lv_iinc (v := 8) (lv' := [(6, .int 8), (7, .int x2), (0, .ref m0), (1, .int x1), (2, .int x2), (3, .int x3), (4, .int x4), (5, .int x5)]) hx hb dX8_feed_99 hl (k := 1) rfl (by decide) (by decide) rfl (fun ls hl => ?_)
  refine lv_goto (tgt := 18) hx hb dX8_feed_102 (by decide) ?_
  refine lv_iload hx hb dX8_feed_18 (lv_at hl 0 rfl) ?_
  refine lv_bipush (v := 20) hx hb dX8_feed_20 (by decide) ?_
  refine lv_icmp_ge (tgt := 105) hx hb dX8_feed_22 (by decide) (fun h9 => (by first | exact absurd h9 (by decide) | exact absurd (by decide) h9)) (fun c46 => ?_)
  refine lv_iload hx hb dX8_feed_25 (lv_at hl 0 rfl) ?_
  refine lv_iconst (v := 4) hx hb dX8_feed_27 (by decide) ?_
  refine lv_icmp_ge (tgt := 35) hx hb dX8_feed_28 (by decide) (fun c47 => ?_) (fun h9 => (by first | exact absurd h9 (by decide) | exact absurd (by decide) h9))
  refine lv_iload hx hb dX8_feed_35 (lv_at hl 0 rfl) ?_
  refine lv_bipush (v := 8) hx hb dX8_feed_37 (by decide) ?_
  refine lv_icmp_ge (tgt := 46) hx hb dX8_feed_39 (by decide) (fun c48 => ?_) (fun h9 => (by first | exact absurd h9 (by decide) | exact absurd (by decide) h9))
  refine lv_iload hx hb dX8_feed_46 (lv_at hl 0 rfl) ?_
  refine lv_bipush (v := 12) hx hb dX8_feed_48 (by decide) ?_
  refine lv_icmp_ge (tgt := 57) hx hb dX8_feed_50 (by decide) (fun h9 => (by first | exact absurd h9 (by decide) | exact absurd (by decide) h9)) (fun c49 => ?_)
  refine lv_iload_n hx hb dX8_feed_53 rfl (lv_at hl 5 rfl) ?_
  refine lv_goto (tgt := 71) hx hb dX8_feed_54 (by decide) ?_
  refine lv_istore (lv' := [(7, .int x3), (6, .int 8), (0, .ref m0), (1, .int x1), (2, .int x2), (3, .int x3), (4, .int x4), (5, .int x5)]) hx hb dX8_feed_71 hl (by decide) rfl (fun ls hl => ?_)
  refine lv_aload_n hx hb dX8_feed_73 rfl (lv_at hl 2 rfl) ?_
  refine va_get (D := D) (ci := 8) (v := .ref r0) (C := RX8) (T := TX8) (N := 40) hx hb hts iw_k_mfeed_8 hown hK hP 0 rfl rfl 0 (by decide) (hts (.fieldLink RX8 58 "FlightDeskModel" "tape" "[B") (by decide +kernel)) (fun _ h9 => h9) rfl dX8_feed_74 ?_
  refine lv_aload_n hx hb dX8_feed_77 rfl (lv_at hl 2 rfl) ?_
  refine va_get (D := D) (ci := 8) (v := .int 0) (C := RX8) (T := TX8) (N := 40) hx hb hts iw_k_mfeed_8 hown hK hP 0 rfl rfl 2 (by decide) (hts (.fieldLink RX8 121 "FlightDeskModel" "taped" "I") (by decide +kernel)) (fun _ h9 => h9) rfl dX8_feed_78 ?_
  refine lv_iload hx hb dX8_feed_81 (lv_at hl 1 rfl) ?_
  refine lv_iadd hx hb dX8_feed_83 ?_
  refine lv_topi (fun vv ev => ?_)
  obtain rfl : vv = 8 := ev.trans (by decide)
  refine lv_iload hx hb dX8_feed_84 (lv_at hl 0 rfl) ?_
  refine lv_bipush (v := 24) hx hb dX8_feed_86 (by decide) ?_
  refine lv_bipush (v := 8) hx hb dX8_feed_88 (by decide) ?_
  refine lv_iload hx hb dX8_feed_90 (lv_at hl 1 rfl) ?_
  refine lv_iconst (v := 3) hx hb dX8_feed_92 (by decide) ?_
  refine lv_iand hx hb dX8_feed_93 ?_
  refine lv_topi (fun vv ev => ?_)
  obtain rfl : vv = 0 := ev.trans (by decide)
  refine lv_imul hx hb dX8_feed_94 ?_
  refine lv_topi (fun vv ev => ?_)
  obtain rfl : vv = 0 := ev.trans (by decide)
  refine lv_isub hx hb dX8_feed_95 ?_
  refine lv_topi (fun vv ev => ?_)
  obtain rfl : vv = 24 := ev.trans (by decide)
  refine lv_ishr hx hb dX8_feed_96 ?_
  refine lv_topi (fun v50 ev50 => ?_)
  refine lv_i2b hx hb dX8_feed_97 rfl ?_
  refine lv_topi (fun v51 ev51 => ?_)
  refine va_bast hx hb hK hP hD hS 1 1 rfl rfl (show ¬ (_ ∨ _) by decide) dX8_feed_98 (fun H locs hP hD hS => ?_)
  have hP : va_P D vwCl [(m0, .inr (8, [.ref r0, .ref r1, .int 0, .int 0, .int 0, .int (-1), .int 0, .int 0, .int 0, .int 0, .long 0, .ref r11, .ref r12, .ref r13, .ref r14, .ref r15, .ref r16, .ref r17, .ref r18, .ref r19, .ref r20, .ref r21, .ref r22, .ref r23, .ref r24, .int 0, .int 0, .int 0, .int 0, .int 0, .int 0, .int 0, .int 0, .int 0, .ref r34, .ref r35, .ref r36, .int 0, .int 0, .ref r39])), (r0, .inl (cB, 1020, .inl (upd f45 (8 : Int32).toNatClampNeg (vp_nar .byte v51))))] H := hP
  have hD : va_D A [(m0, .inr (8, [.ref r0, .ref r1, .int 0, .int 0, .int 0, .int (-1), .int 0, .int 0, .int 0, .int 0, .long 0, .ref r11, .ref r12, .ref r13, .ref r14, .ref r15, .ref r16, .ref r17, .ref r18, .ref r19, .ref r20, .ref r21, .ref r22, .ref r23, .ref r24, .int 0, .int 0, .int 0, .int 0, .int 0, .int 0, .int 0, .int 0, .int 0, .ref r34, .ref r35, .ref r36, .int 0, .int 0, .ref r39])), (r0, .inl (cB, 1020, .inl (upd f45 (8 : Int32).toNatClampNeg (vp_nar .byte v51))))] := hD
  obtain ⟨f52, ef52⟩ : ∃ z : Nat → Int32, z = (upd f45 (8 : Int32).toNatClampNeg (vp_nar .byte v51)) := ⟨_, rfl⟩
  rw [← ef52] at hP hD
  refine lv_iinc (v := 9) (lv' := [(6, .int 9), (7, .int x3), (0, .ref m0), (1, .int x1), (2, .int x2), (3, .int x3), (4, .int x4), (5, .int x5)]) hx hb dX8_feed_99 hl (k := 1) rfl (by decide) (by decide) rfl (fun ls hl => ?_)
  refine lv_goto (tgt := 18) hx hb dX8_feed_102 (by decide) ?_
  refine lv_iload hx hb dX8_feed_18 (lv_at hl 0 rfl) ?_
  refine lv_bipush (v := 20) hx hb dX8_feed_20 (by decide) ?_
  refine lv_icmp_ge (tgt := 105) hx hb dX8_feed_22 (by decide) (fun h9 => (by first | exact absurd h9 (by decide) | exact absurd (by decide) h9)) (fun c53 => ?_)
  refine lv_iload hx hb dX8_feed_25 (lv_at hl 0 rfl) ?_
  refine lv_iconst (v := 4) hx hb dX8_feed_27 (by decide) ?_
  refine lv_icmp_ge (tgt := 35) hx hb dX8_feed_28 (by decide) (fun c54 => ?_) (fun h9 => (by first | exact absurd h9 (by decide) | exact absurd (by decide) h9))
  refine lv_iload hx hb dX8_feed_35 (lv_at hl 0 rfl) ?_
  refine lv_bipush (v := 8) hx hb dX8_feed_37 (by decide) ?_
  refine lv_icmp_ge (tgt := 46) hx hb dX8_feed_39 (by decide) (fun c55 => ?_) (fun h9 => (by first | exact absurd h9 (by decide) | exact absurd (by decide) h9))
  refine lv_iload hx hb dX8_feed_46 (lv_at hl 0 rfl) ?_
  refine lv_bipush (v := 12) hx hb dX8_feed_48 (by decide) ?_
  refine lv_icmp_ge (tgt := 57) hx hb dX8_feed_50 (by decide) (fun h9 => (by first | exact absurd h9 (by decide) | exact absurd (by decide) h9)) (fun c56 => ?_)
  refine lv_iload_n hx hb dX8_feed_53 rfl (lv_at hl 5 rfl) ?_
  refine lv_goto (tgt := 71) hx hb dX8_feed_54 (by decide) ?_
  refine lv_istore (lv' := [(7, .int x3), (6, .int 9), (0, .ref m0), (1, .int x1), (2, .int x2), (3, .int x3), (4, .int x4), (5, .int x5)]) hx hb dX8_feed_71 hl (by decide) rfl (fun ls hl => ?_)
  refine lv_aload_n hx hb dX8_feed_73 rfl (lv_at hl 2 rfl) ?_
  refine va_get (D := D) (ci := 8) (v := .ref r0) (C := RX8) (T := TX8) (N := 40) hx hb hts iw_k_mfeed_8 hown hK hP 0 rfl rfl 0 (by decide) (hts (.fieldLink RX8 58 "FlightDeskModel" "tape" "[B") (by decide +kernel)) (fun _ h9 => h9) rfl dX8_feed_74 ?_
  refine lv_aload_n hx hb dX8_feed_77 rfl (lv_at hl 2 rfl) ?_
  refine va_get (D := D) (ci := 8) (v := .int 0) (C := RX8) (T := TX8) (N := 40) hx hb hts iw_k_mfeed_8 hown hK hP 0 rfl rfl 2 (by decide) (hts (.fieldLink RX8 121 "FlightDeskModel" "taped" "I") (by decide +kernel)) (fun _ h9 => h9) rfl dX8_feed_78 ?_
  refine lv_iload hx hb dX8_feed_81 (lv_at hl 1 rfl) ?_
  refine lv_iadd hx hb dX8_feed_83 ?_
  refine lv_topi (fun vv ev => ?_)
  obtain rfl : vv = 9 := ev.trans (by decide)
  refine lv_iload hx hb dX8_feed_84 (lv_at hl 0 rfl) ?_
  refine lv_bipush (v := 24) hx hb dX8_feed_86 (by decide) ?_
  refine lv_bipush (v := 8) hx hb dX8_feed_88 (by decide) ?_
  refine lv_iload hx hb dX8_feed_90 (lv_at hl 1 rfl) ?_
  refine lv_iconst (v := 3) hx hb dX8_feed_92 (by decide) ?_
  refine lv_iand hx hb dX8_feed_93 ?_
  refine lv_topi (fun vv ev => ?_)
  obtain rfl : vv = 1 := ev.trans (by decide)
  refine lv_imul hx hb dX8_feed_94 ?_
  refine lv_topi (fun vv ev => ?_)
  obtain rfl : vv = 8 := ev.trans (by decide)
  refine lv_isub hx hb dX8_feed_95 ?_
  refine lv_topi (fun vv ev => ?_)
  obtain rfl : vv = 16 := ev.trans (by decide)
  refine lv_ishr hx hb dX8_feed_96 ?_
  refine lv_topi (fun v57 ev57 => ?_)
  refine lv_i2b hx hb dX8_feed_97 rfl ?_
  refine lv_topi (fun v58 ev58 => ?_)
  refine va_bast hx hb hK hP hD hS 1 1 rfl rfl (show ¬ (_ ∨ _) by decide) dX8_feed_98 (fun H locs hP hD hS => ?_)
  have hP : va_P D vwCl [(m0, .inr (8, [.ref r0, .ref r1, .int 0, .int 0, .int 0, .int (-1), .int 0, .int 0, .int 0, .int 0, .long 0, .ref r11, .ref r12, .ref r13, .ref r14, .ref r15, .ref r16, .ref r17, .ref r18, .ref r19, .ref r20, .ref r21, .ref r22, .ref r23, .ref r24, .int 0, .int 0, .int 0, .int 0, .int 0, .int 0, .int 0, .int 0, .int 0, .ref r34, .ref r35, .ref r36, .int 0, .int 0, .ref r39])), (r0, .inl (cB, 1020, .inl (upd f52 (9 : Int32).toNatClampNeg (vp_nar .byte v58))))] H := hP
  have hD : va_D A [(m0, .inr (8, [.ref r0, .ref r1, .int 0, .int 0, .int 0, .int (-1), .int 0, .int 0, .int 0, .int 0, .long 0, .ref r11, .ref r12, .ref r13, .ref r14, .ref r15, .ref r16, .ref r17, .ref r18, .ref r19, .ref r20, .ref r21, .ref r22, .ref r23, .ref r24, .int 0, .int 0, .int 0, .int 0, .int 0, .int 0, .int 0, .int 0, .int 0, .ref r34, .ref r35, .ref r36, .int 0, .int 0, .ref r39])), (r0, .inl (cB, 1020, .inl (upd f52 (9 : Int32).toNatClampNeg (vp_nar .byte v58))))] := hD
  obtain ⟨f59, ef59⟩ : ∃ z : Nat → Int32, z = (upd f52 (9 : Int32).toNatClampNeg (vp_nar .byte v58)) := ⟨_, rfl⟩
  rw [← ef59] at hP hD
  refine lv_iinc (v := 10) (lv' := [(6, .int 10), (7, .int x3), (0, .ref m0), (1, .int x1), (2, .int x2), (3, .int x3), (4, .int x4), (5, .int x5)]) hx hb dX8_feed_99 hl (k := 1) rfl (by decide) (by decide) rfl (fun ls hl => ?_)
  refine lv_goto (tgt := 18) hx hb dX8_feed_102 (by decide) ?_
  refine lv_iload hx hb dX8_feed_18 (lv_at hl 0 rfl) ?_
  refine lv_bipush (v := 20) hx hb dX8_feed_20 (by decide) ?_
  refine lv_icmp_ge (tgt := 105) hx hb dX8_feed_22 (by decide) (fun h9 => (by first | exact absurd h9 (by decide) | exact absurd (by decide) h9)) (fun c60 => ?_)
  refine lv_iload hx hb dX8_feed_25 (lv_at hl 0 rfl) ?_
  refine lv_iconst (v := 4) hx hb dX8_feed_27 (by decide) ?_
  refine lv_icmp_ge (tgt := 35) hx hb dX8_feed_28 (by decide) (fun c61 => ?_) (fun h9 => (by first | exact absurd h9 (by decide) | exact absurd (by decide) h9))
  refine lv_iload hx hb dX8_feed_35 (lv_at hl 0 rfl) ?_
  refine lv_bipush (v := 8) hx hb dX8_feed_37 (by decide) ?_
  refine lv_icmp_ge (tgt := 46) hx hb dX8_feed_39 (by decide) (fun c62 => ?_) (fun h9 => (by first | exact absurd h9 (by decide) | exact absurd (by decide) h9))
  refine lv_iload hx hb dX8_feed_46 (lv_at hl 0 rfl) ?_
  refine lv_bipush (v := 12) hx hb dX8_feed_48 (by decide) ?_
  refine lv_icmp_ge (tgt := 57) hx hb dX8_feed_50 (by decide) (fun h9 => (by first | exact absurd h9 (by decide) | exact absurd (by decide) h9)) (fun c63 => ?_)
  refine lv_iload_n hx hb dX8_feed_53 rfl (lv_at hl 5 rfl) ?_
  refine lv_goto (tgt := 71) hx hb dX8_feed_54 (by decide) ?_
  refine lv_istore (lv' := [(7, .int x3), (6, .int 10), (0, .ref m0), (1, .int x1), (2, .int x2), (3, .int x3), (4, .int x4), (5, .int x5)]) hx hb dX8_feed_71 hl (by decide) rfl (fun ls hl => ?_)
  refine lv_aload_n hx hb dX8_feed_73 rfl (lv_at hl 2 rfl) ?_
  refine va_get (D := D) (ci := 8) (v := .ref r0) (C := RX8) (T := TX8) (N := 40) hx hb hts iw_k_mfeed_8 hown hK hP 0 rfl rfl 0 (by decide) (hts (.fieldLink RX8 58 "FlightDeskModel" "tape" "[B") (by decide +kernel)) (fun _ h9 => h9) rfl dX8_feed_74 ?_
  refine lv_aload_n hx hb dX8_feed_77 rfl (lv_at hl 2 rfl) ?_
  refine va_get (D := D) (ci := 8) (v := .int 0) (C := RX8) (T := TX8) (N := 40) hx hb hts iw_k_mfeed_8 hown hK hP 0 rfl rfl 2 (by decide) (hts (.fieldLink RX8 121 "FlightDeskModel" "taped" "I") (by decide +kernel)) (fun _ h9 => h9) rfl dX8_feed_78 ?_
  refine lv_iload hx hb dX8_feed_81 (lv_at hl 1 rfl) ?_
  refine lv_iadd hx hb dX8_feed_83 ?_
  refine lv_topi (fun vv ev => ?_)
  obtain rfl : vv = 10 := ev.trans (by decide)
  refine lv_iload hx hb dX8_feed_84 (lv_at hl 0 rfl) ?_
  refine lv_bipush (v := 24) hx hb dX8_feed_86 (by decide) ?_
  refine lv_bipush (v := 8) hx hb dX8_feed_88 (by decide) ?_
  refine lv_iload hx hb dX8_feed_90 (lv_at hl 1 rfl) ?_
  refine lv_iconst (v := 3) hx hb dX8_feed_92 (by decide) ?_
  refine lv_iand hx hb dX8_feed_93 ?_
  refine lv_topi (fun vv ev => ?_)
  obtain rfl : vv = 2 := ev.trans (by decide)
  refine lv_imul hx hb dX8_feed_94 ?_
  refine lv_topi (fun vv ev => ?_)
  obtain rfl : vv = 16 := ev.trans (by decide)
  refine lv_isub hx hb dX8_feed_95 ?_
  refine lv_topi (fun vv ev => ?_)
  obtain rfl : vv = 8 := ev.trans (by decide)
  refine lv_ishr hx hb dX8_feed_96 ?_
  refine lv_topi (fun v64 ev64 => ?_)
  refine lv_i2b hx hb dX8_feed_97 rfl ?_
  refine lv_topi (fun v65 ev65 => ?_)
  refine va_bast hx hb hK hP hD hS 1 1 rfl rfl (show ¬ (_ ∨ _) by decide) dX8_feed_98 (fun H locs hP hD hS => ?_)
  have hP : va_P D vwCl [(m0, .inr (8, [.ref r0, .ref r1, .int 0, .int 0, .int 0, .int (-1), .int 0, .int 0, .int 0, .int 0, .long 0, .ref r11, .ref r12, .ref r13, .ref r14, .ref r15, .ref r16, .ref r17, .ref r18, .ref r19, .ref r20, .ref r21, .ref r22, .ref r23, .ref r24, .int 0, .int 0, .int 0, .int 0, .int 0, .int 0, .int 0, .int 0, .int 0, .ref r34, .ref r35, .ref r36, .int 0, .int 0, .ref r39])), (r0, .inl (cB, 1020, .inl (upd f59 (10 : Int32).toNatClampNeg (vp_nar .byte v65))))] H := hP
  have hD : va_D A [(m0, .inr (8, [.ref r0, .ref r1, .int 0, .int 0, .int 0, .int (-1), .int 0, .int 0, .int 0, .int 0, .long 0, .ref r11, .ref r12, .ref r13, .ref r14, .ref r15, .ref r16, .ref r17, .ref r18, .ref r19, .ref r20, .ref r21, .ref r22, .ref r23, .ref r24, .int 0, .int 0, .int 0, .int 0, .int 0, .int 0, .int 0, .int 0, .int 0, .ref r34, .ref r35, .ref r36, .int 0, .int 0, .ref r39])), (r0, .inl (cB, 1020, .inl (upd f59 (10 : Int32).toNatClampNeg (vp_nar .byte v65))))] := hD
  obtain ⟨f66, ef66⟩ : ∃ z : Nat → Int32, z = (upd f59 (10 : Int32).toNatClampNeg (vp_nar .byte v65)) := ⟨_, rfl⟩
  rw [← ef66] at hP hD
  refine lv_iinc (v := 11) (lv' := [(6, .int 11), (7, .int x3), (0, .ref m0), (1, .int x1), (2, .int x2), (3, .int x3), (4, .int x4), (5, .int x5)]) hx hb dX8_feed_99 hl (k := 1) rfl (by decide) (by decide) rfl (fun ls hl => ?_)
  refine lv_goto (tgt := 18) hx hb dX8_feed_102 (by decide) ?_
  refine lv_iload hx hb dX8_feed_18 (lv_at hl 0 rfl) ?_
  refine lv_bipush (v := 20) hx hb dX8_feed_20 (by decide) ?_
  refine lv_icmp_ge (tgt := 105) hx hb dX8_feed_22 (by decide) (fun h9 => (by first | exact absurd h9 (by decide) | exact absurd (by decide) h9)) (fun c67 => ?_)
  refine lv_iload hx hb dX8_feed_25 (lv_at hl 0 rfl) ?_
  refine lv_iconst (v := 4) hx hb dX8_feed_27 (by decide) ?_
  refine lv_icmp_ge (tgt := 35) hx hb dX8_feed_28 (by decide) (fun c68 => ?_) (fun h9 => (by first | exact absurd h9 (by decide) | exact absurd (by decide) h9))
  refine lv_iload hx hb dX8_feed_35 (lv_at hl 0 rfl) ?_
  refine lv_bipush (v := 8) hx hb dX8_feed_37 (by decide) ?_
  refine lv_icmp_ge (tgt := 46) hx hb dX8_feed_39 (by decide) (fun c69 => ?_) (fun h9 => (by first | exact absurd h9 (by decide) | exact absurd (by decide) h9))
  refine lv_iload hx hb dX8_feed_46 (lv_at hl 0 rfl) ?_
  refine lv_bipush (v := 12) hx hb dX8_feed_48 (by decide) ?_
  refine lv_icmp_ge (tgt := 57) hx hb dX8_feed_50 (by decide) (fun h9 => (by first | exact absurd h9 (by decide) | exact absurd (by decide) h9)) (fun c70 => ?_)
  refine lv_iload_n hx hb dX8_feed_53 rfl (lv_at hl 5 rfl) ?_
  refine lv_goto (tgt := 71) hx hb dX8_feed_54 (by decide) ?_
  refine lv_istore (lv' := [(7, .int x3), (6, .int 11), (0, .ref m0), (1, .int x1), (2, .int x2), (3, .int x3), (4, .int x4), (5, .int x5)]) hx hb dX8_feed_71 hl (by decide) rfl (fun ls hl => ?_)
  refine lv_aload_n hx hb dX8_feed_73 rfl (lv_at hl 2 rfl) ?_
  refine va_get (D := D) (ci := 8) (v := .ref r0) (C := RX8) (T := TX8) (N := 40) hx hb hts iw_k_mfeed_8 hown hK hP 0 rfl rfl 0 (by decide) (hts (.fieldLink RX8 58 "FlightDeskModel" "tape" "[B") (by decide +kernel)) (fun _ h9 => h9) rfl dX8_feed_74 ?_
  refine lv_aload_n hx hb dX8_feed_77 rfl (lv_at hl 2 rfl) ?_
  refine va_get (D := D) (ci := 8) (v := .int 0) (C := RX8) (T := TX8) (N := 40) hx hb hts iw_k_mfeed_8 hown hK hP 0 rfl rfl 2 (by decide) (hts (.fieldLink RX8 121 "FlightDeskModel" "taped" "I") (by decide +kernel)) (fun _ h9 => h9) rfl dX8_feed_78 ?_
  refine lv_iload hx hb dX8_feed_81 (lv_at hl 1 rfl) ?_
  refine lv_iadd hx hb dX8_feed_83 ?_
  refine lv_topi (fun vv ev => ?_)
  obtain rfl : vv = 11 := ev.trans (by decide)
  refine lv_iload hx hb dX8_feed_84 (lv_at hl 0 rfl) ?_
  refine lv_bipush (v := 24) hx hb dX8_feed_86 (by decide) ?_
  refine lv_bipush (v := 8) hx hb dX8_feed_88 (by decide) ?_
  refine lv_iload hx hb dX8_feed_90 (lv_at hl 1 rfl) ?_
  refine lv_iconst (v := 3) hx hb dX8_feed_92 (by decide) ?_
  refine lv_iand hx hb dX8_feed_93 ?_
  refine lv_topi (fun vv ev => ?_)
  obtain rfl : vv = 3 := ev.trans (by decide)
  refine lv_imul hx hb dX8_feed_94 ?_
  refine lv_topi (fun vv ev => ?_)
  obtain rfl : vv = 24 := ev.trans (by decide)
  refine lv_isub hx hb dX8_feed_95 ?_
  refine lv_topi (fun vv ev => ?_)
  obtain rfl : vv = 0 := ev.trans (by decide)
  refine lv_ishr hx hb dX8_feed_96 ?_
  refine lv_topi (fun v71 ev71 => ?_)
  refine lv_i2b hx hb dX8_feed_97 rfl ?_
  refine lv_topi (fun v72 ev72 => ?_)
  refine va_bast hx hb hK hP hD hS 1 1 rfl rfl (show ¬ (_ ∨ _) by decide) dX8_feed_98 (fun H locs hP hD hS => ?_)
  have hP : va_P D vwCl [(m0, .inr (8, [.ref r0, .ref r1, .int 0, .int 0, .int 0, .int (-1), .int 0, .int 0, .int 0, .int 0, .long 0, .ref r11, .ref r12, .ref r13, .ref r14, .ref r15, .ref r16, .ref r17, .ref r18, .ref r19, .ref r20, .ref r21, .ref r22, .ref r23, .ref r24, .int 0, .int 0, .int 0, .int 0, .int 0, .int 0, .int 0, .int 0, .int 0, .ref r34, .ref r35, .ref r36, .int 0, .int 0, .ref r39])), (r0, .inl (cB, 1020, .inl (upd f66 (11 : Int32).toNatClampNeg (vp_nar .byte v72))))] H := hP
  have hD : va_D A [(m0, .inr (8, [.ref r0, .ref r1, .int 0, .int 0, .int 0, .int (-1), .int 0, .int 0, .int 0, .int 0, .long 0, .ref r11, .ref r12, .ref r13, .ref r14, .ref r15, .ref r16, .ref r17, .ref r18, .ref r19, .ref r20, .ref r21, .ref r22, .ref r23, .ref r24, .int 0, .int 0, .int 0, .int 0, .int 0, .int 0, .int 0, .int 0, .int 0, .ref r34, .ref r35, .ref r36, .int 0, .int 0, .ref r39])), (r0, .inl (cB, 1020, .inl (upd f66 (11 : Int32).toNatClampNeg (vp_nar .byte v72))))] := hD
  obtain ⟨f73, ef73⟩ : ∃ z : Nat → Int32, z = (upd f66 (11 : Int32).toNatClampNeg (vp_nar .byte v72)) := ⟨_, rfl⟩
  rw [← ef73] at hP hD
  refine lv_iinc (v := 12) (lv' := [(6, .int 12), (7, .int x3), (0, .ref m0), (1, .int x1), (2, .int x2), (3, .int x3), (4, .int x4), (5, .int x5)]) hx hb dX8_feed_99 hl (k := 1) rfl (by decide) (by decide) rfl (fun ls hl => ?_)
  refine lv_goto (tgt := 18) hx hb dX8_feed_102 (by decide) ?_
  refine lv_iload hx hb dX8_feed_18 (lv_at hl 0 rfl) ?_
  refine lv_bipush (v := 20) hx hb dX8_feed_20 (by decide) ?_
  refine lv_icmp_ge (tgt := 105) hx hb dX8_feed_22 (by decide) (fun h9 => (by first | exact absurd h9 (by decide) | exact absurd (by decide) h9)) (fun c74 => ?_)
  refine lv_iload hx hb dX8_feed_25 (lv_at hl 0 rfl) ?_
  refine lv_iconst (v := 4) hx hb dX8_feed_27 (by decide) ?_
  refine lv_icmp_ge (tgt := 35) hx hb dX8_feed_28 (by decide) (fun c75 => ?_) (fun h9 => (by first | exact absurd h9 (by decide) | exact absurd (by decide) h9))
  refine lv_iload hx hb dX8_feed_35 (lv_at hl 0 rfl) ?_
  refine lv_bipush (v := 8) hx hb dX8_feed_37 (by decide) ?_
  refine lv_icmp_ge (tgt := 46) hx hb dX8_feed_39 (by decide) (fun c76 => ?_) (fun h9 => (by first | exact absurd h9 (by decide) | exact absurd (by decide) h9))
  refine lv_iload hx hb dX8_feed_46 (lv_at hl 0 rfl) ?_
  refine lv_bipush (v := 12) hx hb dX8_feed_48 (by decide) ?_
  refine lv_icmp_ge (tgt := 57) hx hb dX8_feed_50 (by decide) (fun c77 => ?_) (fun h9 => (by first | exact absurd h9 (by decide) | exact absurd (by decide) h9))
  refine lv_iload hx hb dX8_feed_57 (lv_at hl 0 rfl) ?_
  refine lv_bipush (v := 16) hx hb dX8_feed_59 (by decide) ?_
  refine lv_icmp_ge (tgt := 69) hx hb dX8_feed_61 (by decide) (fun h9 => (by first | exact absurd h9 (by decide) | exact absurd (by decide) h9)) (fun c78 => ?_)
  refine lv_iload hx hb dX8_feed_64 (lv_at hl 6 rfl) ?_
  refine lv_goto (tgt := 71) hx hb dX8_feed_66 (by decide) ?_
  refine lv_istore (lv' := [(7, .int x4), (6, .int 12), (0, .ref m0), (1, .int x1), (2, .int x2), (3, .int x3), (4, .int x4), (5, .int x5)]) hx hb dX8_feed_71 hl (by decide) rfl (fun ls hl => ?_)
  refine lv_aload_n hx hb dX8_feed_73 rfl (lv_at hl 2 rfl) ?_
  refine va_get (D := D) (ci := 8) (v := .ref r0) (C := RX8) (T := TX8) (N := 40) hx hb hts iw_k_mfeed_8 hown hK hP 0 rfl rfl 0 (by decide) (hts (.fieldLink RX8 58 "FlightDeskModel" "tape" "[B") (by decide +kernel)) (fun _ h9 => h9) rfl dX8_feed_74 ?_
  refine lv_aload_n hx hb dX8_feed_77 rfl (lv_at hl 2 rfl) ?_
  refine va_get (D := D) (ci := 8) (v := .int 0) (C := RX8) (T := TX8) (N := 40) hx hb hts iw_k_mfeed_8 hown hK hP 0 rfl rfl 2 (by decide) (hts (.fieldLink RX8 121 "FlightDeskModel" "taped" "I") (by decide +kernel)) (fun _ h9 => h9) rfl dX8_feed_78 ?_
  refine lv_iload hx hb dX8_feed_81 (lv_at hl 1 rfl) ?_
  refine lv_iadd hx hb dX8_feed_83 ?_
  refine lv_topi (fun vv ev => ?_)
  obtain rfl : vv = 12 := ev.trans (by decide)
  refine lv_iload hx hb dX8_feed_84 (lv_at hl 0 rfl) ?_
  refine lv_bipush (v := 24) hx hb dX8_feed_86 (by decide) ?_
  refine lv_bipush (v := 8) hx hb dX8_feed_88 (by decide) ?_
  refine lv_iload hx hb dX8_feed_90 (lv_at hl 1 rfl) ?_
  refine lv_iconst (v := 3) hx hb dX8_feed_92 (by decide) ?_
  refine lv_iand hx hb dX8_feed_93 ?_
  refine lv_topi (fun vv ev => ?_)
  obtain rfl : vv = 0 := ev.trans (by decide)
  refine lv_imul hx hb dX8_feed_94 ?_
  refine lv_topi (fun vv ev => ?_)
  obtain rfl : vv = 0 := ev.trans (by decide)
  refine lv_isub hx hb dX8_feed_95 ?_
  refine lv_topi (fun vv ev => ?_)
  obtain rfl : vv = 24 := ev.trans (by decide)
  refine lv_ishr hx hb dX8_feed_96 ?_
  refine lv_topi (fun v79 ev79 => ?_)
  refine lv_i2b hx hb dX8_feed_97 rfl ?_
  refine lv_topi (fun v80 ev80 => ?_)
  refine va_bast hx hb hK hP hD hS 1 1 rfl rfl (show ¬ (_ ∨ _) by decide) dX8_feed_98 (fun H locs hP hD hS => ?_)
  have hP : va_P D vwCl [(m0, .inr (8, [.ref r0, .ref r1, .int 0, .int 0, .int 0, .int (-1), .int 0, .int 0, .int 0, .int 0, .long 0, .ref r11, .ref r12, .ref r13, .ref r14, .ref r15, .ref r16, .ref r17, .ref r18, .ref r19, .ref r20, .ref r21, .ref r22, .ref r23, .ref r24, .int 0, .int 0, .int 0, .int 0, .int 0, .int 0, .int 0, .int 0, .int 0, .ref r34, .ref r35, .ref r36, .int 0, .int 0, .ref r39])), (r0, .inl (cB, 1020, .inl (upd f73 (12 : Int32).toNatClampNeg (vp_nar .byte v80))))] H := hP
  have hD : va_D A [(m0, .inr (8, [.ref r0, .ref r1, .int 0, .int 0, .int 0, .int (-1), .int 0, .int 0, .int 0, .int 0, .long 0, .ref r11, .ref r12, .ref r13, .ref r14, .ref r15, .ref r16, .ref r17, .ref r18, .ref r19, .ref r20, .ref r21, .ref r22, .ref r23, .ref r24, .int 0, .int 0, .int 0, .int 0, .int 0, .int 0, .int 0, .int 0, .int 0, .ref r34, .ref r35, .ref r36, .int 0, .int 0, .ref r39])), (r0, .inl (cB, 1020, .inl (upd f73 (12 : Int32).toNatClampNeg (vp_nar .byte v80))))] := hD
  obtain ⟨f81, ef81⟩ : ∃ z : Nat → Int32, z = (upd f73 (12 : Int32).toNatClampNeg (vp_nar .byte v80)) := ⟨_, rfl⟩
  rw [← ef81] at hP hD
  refine lv_iinc (v := 13) (lv' := [(6, .int 13), (7, .int x4), (0, .ref m0), (1, .int x1), (2, .int x2), (3, .int x3), (4, .int x4), (5, .int x5)]) hx hb dX8_feed_99 hl (k := 1) rfl (by decide) (by decide) rfl (fun ls hl => ?_)
  refine lv_goto (tgt := 18) hx hb dX8_feed_102 (by decide) ?_
  refine lv_iload hx hb dX8_feed_18 (lv_at hl 0 rfl) ?_
  refine lv_bipush (v := 20) hx hb dX8_feed_20 (by decide) ?_
  refine lv_icmp_ge (tgt := 105) hx hb dX8_feed_22 (by decide) (fun h9 => (by first | exact absurd h9 (by decide) | exact absurd (by decide) h9)) (fun c82 => ?_)
  refine lv_iload hx hb dX8_feed_25 (lv_at hl 0 rfl) ?_
  refine lv_iconst (v := 4) hx hb dX8_feed_27 (by decide) ?_
  refine lv_icmp_ge (tgt := 35) hx hb dX8_feed_28 (by decide) (fun c83 => ?_) (fun h9 => (by first | exact absurd h9 (by decide) | exact absurd (by decide) h9))
  refine lv_iload hx hb dX8_feed_35 (lv_at hl 0 rfl) ?_
  refine lv_bipush (v := 8) hx hb dX8_feed_37 (by decide) ?_
  refine lv_icmp_ge (tgt := 46) hx hb dX8_feed_39 (by decide) (fun c84 => ?_) (fun h9 => (by first | exact absurd h9 (by decide) | exact absurd (by decide) h9))
  refine lv_iload hx hb dX8_feed_46 (lv_at hl 0 rfl) ?_
  refine lv_bipush (v := 12) hx hb dX8_feed_48 (by decide) ?_
  refine lv_icmp_ge (tgt := 57) hx hb dX8_feed_50 (by decide) (fun c85 => ?_) (fun h9 => (by first | exact absurd h9 (by decide) | exact absurd (by decide) h9))
  refine lv_iload hx hb dX8_feed_57 (lv_at hl 0 rfl) ?_
  refine lv_bipush (v := 16) hx hb dX8_feed_59 (by decide) ?_
  refine lv_icmp_ge (tgt := 69) hx hb dX8_feed_61 (by decide) (fun h9 => (by first | exact absurd h9 (by decide) | exact absurd (by decide) h9)) (fun c86 => ?_)
  refine lv_iload hx hb dX8_feed_64 (lv_at hl 6 rfl) ?_
  refine lv_goto (tgt := 71) hx hb dX8_feed_66 (by decide) ?_
  refine lv_istore (lv' := [(7, .int x4), (6, .int 13), (0, .ref m0), (1, .int x1), (2, .int x2), (3, .int x3), (4, .int x4), (5, .int x5)]) hx hb dX8_feed_71 hl (by decide) rfl (fun ls hl => ?_)
  refine lv_aload_n hx hb dX8_feed_73 rfl (lv_at hl 2 rfl) ?_
  refine va_get (D := D) (ci := 8) (v := .ref r0) (C := RX8) (T := TX8) (N := 40) hx hb hts iw_k_mfeed_8 hown hK hP 0 rfl rfl 0 (by decide) (hts (.fieldLink RX8 58 "FlightDeskModel" "tape" "[B") (by decide +kernel)) (fun _ h9 => h9) rfl dX8_feed_74 ?_
  refine lv_aload_n hx hb dX8_feed_77 rfl (lv_at hl 2 rfl) ?_
  refine va_get (D := D) (ci := 8) (v := .int 0) (C := RX8) (T := TX8) (N := 40) hx hb hts iw_k_mfeed_8 hown hK hP 0 rfl rfl 2 (by decide) (hts (.fieldLink RX8 121 "FlightDeskModel" "taped" "I") (by decide +kernel)) (fun _ h9 => h9) rfl dX8_feed_78 ?_
  refine lv_iload hx hb dX8_feed_81 (lv_at hl 1 rfl) ?_
  refine lv_iadd hx hb dX8_feed_83 ?_
  refine lv_topi (fun vv ev => ?_)
  obtain rfl : vv = 13 := ev.trans (by decide)
  refine lv_iload hx hb dX8_feed_84 (lv_at hl 0 rfl) ?_
  refine lv_bipush (v := 24) hx hb dX8_feed_86 (by decide) ?_
  refine lv_bipush (v := 8) hx hb dX8_feed_88 (by decide) ?_
  refine lv_iload hx hb dX8_feed_90 (lv_at hl 1 rfl) ?_
  refine lv_iconst (v := 3) hx hb dX8_feed_92 (by decide) ?_
  refine lv_iand hx hb dX8_feed_93 ?_
  refine lv_topi (fun vv ev => ?_)
  obtain rfl : vv = 1 := ev.trans (by decide)
  refine lv_imul hx hb dX8_feed_94 ?_
  refine lv_topi (fun vv ev => ?_)
  obtain rfl : vv = 8 := ev.trans (by decide)
  refine lv_isub hx hb dX8_feed_95 ?_
  refine lv_topi (fun vv ev => ?_)
  obtain rfl : vv = 16 := ev.trans (by decide)
  refine lv_ishr hx hb dX8_feed_96 ?_
  refine lv_topi (fun v87 ev87 => ?_)
  refine lv_i2b hx hb dX8_feed_97 rfl ?_
  refine lv_topi (fun v88 ev88 => ?_)
  refine va_bast hx hb hK hP hD hS 1 1 rfl rfl (show ¬ (_ ∨ _) by decide) dX8_feed_98 (fun H locs hP hD hS => ?_)
  have hP : va_P D vwCl [(m0, .inr (8, [.ref r0, .ref r1, .int 0, .int 0, .int 0, .int (-1), .int 0, .int 0, .int 0, .int 0, .long 0, .ref r11, .ref r12, .ref r13, .ref r14, .ref r15, .ref r16, .ref r17, .ref r18, .ref r19, .ref r20, .ref r21, .ref r22, .ref r23, .ref r24, .int 0, .int 0, .int 0, .int 0, .int 0, .int 0, .int 0, .int 0, .int 0, .ref r34, .ref r35, .ref r36, .int 0, .int 0, .ref r39])), (r0, .inl (cB, 1020, .inl (upd f81 (13 : Int32).toNatClampNeg (vp_nar .byte v88))))] H := hP
  have hD : va_D A [(m0, .inr (8, [.ref r0, .ref r1, .int 0, .int 0, .int 0, .int (-1), .int 0, .int 0, .int 0, .int 0, .long 0, .ref r11, .ref r12, .ref r13, .ref r14, .ref r15, .ref r16, .ref r17, .ref r18, .ref r19, .ref r20, .ref r21, .ref r22, .ref r23, .ref r24, .int 0, .int 0, .int 0, .int 0, .int 0, .int 0, .int 0, .int 0, .int 0, .ref r34, .ref r35, .ref r36, .int 0, .int 0, .ref r39])), (r0, .inl (cB, 1020, .inl (upd f81 (13 : Int32).toNatClampNeg (vp_nar .byte v88))))] := hD
  obtain ⟨f89, ef89⟩ : ∃ z : Nat → Int32, z = (upd f81 (13 : Int32).toNatClampNeg (vp_nar .byte v88)) := ⟨_, rfl⟩
  rw [← ef89] at hP hD
  refine lv_iinc (v := 14) (lv' := [(6, .int 14), (7, .int x4), (0, .ref m0), (1, .int x1), (2, .int x2), (3, .int x3), (4, .int x4), (5, .int x5)]) hx hb dX8_feed_99 hl (k := 1) rfl (by decide) (by decide) rfl (fun ls hl => ?_)
  refine lv_goto (tgt := 18) hx hb dX8_feed_102 (by decide) ?_
  refine lv_iload hx hb dX8_feed_18 (lv_at hl 0 rfl) ?_
  refine lv_bipush (v := 20) hx hb dX8_feed_20 (by decide) ?_
  refine lv_icmp_ge (tgt := 105) hx hb dX8_feed_22 (by decide) (fun h9 => (by first | exact absurd h9 (by decide) | exact absurd (by decide) h9)) (fun c90 => ?_)
  refine lv_iload hx hb dX8_feed_25 (lv_at hl 0 rfl) ?_
  refine lv_iconst (v := 4) hx hb dX8_feed_27 (by decide) ?_
  refine lv_icmp_ge (tgt := 35) hx hb dX8_feed_28 (by decide) (fun c91 => ?_) (fun h9 => (by first | exact absurd h9 (by decide) | exact absurd (by decide) h9))
  refine lv_iload hx hb dX8_feed_35 (lv_at hl 0 rfl) ?_
  refine lv_bipush (v := 8) hx hb dX8_feed_37 (by decide) ?_
  refine lv_icmp_ge (tgt := 46) hx hb dX8_feed_39 (by decide) (fun c92 => ?_) (fun h9 => (by first | exact absurd h9 (by decide) | exact absurd (by decide) h9))
  refine lv_iload hx hb dX8_feed_46 (lv_at hl 0 rfl) ?_
  refine lv_bipush (v := 12) hx hb dX8_feed_48 (by decide) ?_
  refine lv_icmp_ge (tgt := 57) hx hb dX8_feed_50 (by decide) (fun c93 => ?_) (fun h9 => (by first | exact absurd h9 (by decide) | exact absurd (by decide) h9))
  refine lv_iload hx hb dX8_feed_57 (lv_at hl 0 rfl) ?_
  refine lv_bipush (v := 16) hx hb dX8_feed_59 (by decide) ?_
  refine lv_icmp_ge (tgt := 69) hx hb dX8_feed_61 (by decide) (fun h9 => (by first | exact absurd h9 (by decide) | exact absurd (by decide) h9)) (fun c94 => ?_)
  refine lv_iload hx hb dX8_feed_64 (lv_at hl 6 rfl) ?_
  refine lv_goto (tgt := 71) hx hb dX8_feed_66 (by decide) ?_
  refine lv_istore (lv' := [(7, .int x4), (6, .int 14), (0, .ref m0), (1, .int x1), (2, .int x2), (3, .int x3), (4, .int x4), (5, .int x5)]) hx hb dX8_feed_71 hl (by decide) rfl (fun ls hl => ?_)
  refine lv_aload_n hx hb dX8_feed_73 rfl (lv_at hl 2 rfl) ?_
  refine va_get (D := D) (ci := 8) (v := .ref r0) (C := RX8) (T := TX8) (N := 40) hx hb hts iw_k_mfeed_8 hown hK hP 0 rfl rfl 0 (by decide) (hts (.fieldLink RX8 58 "FlightDeskModel" "tape" "[B") (by decide +kernel)) (fun _ h9 => h9) rfl dX8_feed_74 ?_
  refine lv_aload_n hx hb dX8_feed_77 rfl (lv_at hl 2 rfl) ?_
  refine va_get (D := D) (ci := 8) (v := .int 0) (C := RX8) (T := TX8) (N := 40) hx hb hts iw_k_mfeed_8 hown hK hP 0 rfl rfl 2 (by decide) (hts (.fieldLink RX8 121 "FlightDeskModel" "taped" "I") (by decide +kernel)) (fun _ h9 => h9) rfl dX8_feed_78 ?_
  refine lv_iload hx hb dX8_feed_81 (lv_at hl 1 rfl) ?_
  refine lv_iadd hx hb dX8_feed_83 ?_
  refine lv_topi (fun vv ev => ?_)
  obtain rfl : vv = 14 := ev.trans (by decide)
  refine lv_iload hx hb dX8_feed_84 (lv_at hl 0 rfl) ?_
  refine lv_bipush (v := 24) hx hb dX8_feed_86 (by decide) ?_
  refine lv_bipush (v := 8) hx hb dX8_feed_88 (by decide) ?_
  refine lv_iload hx hb dX8_feed_90 (lv_at hl 1 rfl) ?_
  refine lv_iconst (v := 3) hx hb dX8_feed_92 (by decide) ?_
  refine lv_iand hx hb dX8_feed_93 ?_
  refine lv_topi (fun vv ev => ?_)
  obtain rfl : vv = 2 := ev.trans (by decide)
  refine lv_imul hx hb dX8_feed_94 ?_
  refine lv_topi (fun vv ev => ?_)
  obtain rfl : vv = 16 := ev.trans (by decide)
  refine lv_isub hx hb dX8_feed_95 ?_
  refine lv_topi (fun vv ev => ?_)
  obtain rfl : vv = 8 := ev.trans (by decide)
  refine lv_ishr hx hb dX8_feed_96 ?_
  refine lv_topi (fun v95 ev95 => ?_)
  refine lv_i2b hx hb dX8_feed_97 rfl ?_
  refine lv_topi (fun v96 ev96 => ?_)
  refine va_bast hx hb hK hP hD hS 1 1 rfl rfl (show ¬ (_ ∨ _) by decide) dX8_feed_98 (fun H locs hP hD hS => ?_)
  have hP : va_P D vwCl [(m0, .inr (8, [.ref r0, .ref r1, .int 0, .int 0, .int 0, .int (-1), .int 0, .int 0, .int 0, .int 0, .long 0, .ref r11, .ref r12, .ref r13, .ref r14, .ref r15, .ref r16, .ref r17, .ref r18, .ref r19, .ref r20, .ref r21, .ref r22, .ref r23, .ref r24, .int 0, .int 0, .int 0, .int 0, .int 0, .int 0, .int 0, .int 0, .int 0, .ref r34, .ref r35, .ref r36, .int 0, .int 0, .ref r39])), (r0, .inl (cB, 1020, .inl (upd f89 (14 : Int32).toNatClampNeg (vp_nar .byte v96))))] H := hP
  have hD : va_D A [(m0, .inr (8, [.ref r0, .ref r1, .int 0, .int 0, .int 0, .int (-1), .int 0, .int 0, .int 0, .int 0, .long 0, .ref r11, .ref r12, .ref r13, .ref r14, .ref r15, .ref r16, .ref r17, .ref r18, .ref r19, .ref r20, .ref r21, .ref r22, .ref r23, .ref r24, .int 0, .int 0, .int 0, .int 0, .int 0, .int 0, .int 0, .int 0, .int 0, .ref r34, .ref r35, .ref r36, .int 0, .int 0, .ref r39])), (r0, .inl (cB, 1020, .inl (upd f89 (14 : Int32).toNatClampNeg (vp_nar .byte v96))))] := hD
  obtain ⟨f97, ef97⟩ : ∃ z : Nat → Int32, z = (upd f89 (14 : Int32).toNatClampNeg (vp_nar .byte v96)) := ⟨_, rfl⟩
  rw [← ef97] at hP hD
  refine lv_iinc (v := 15) (lv' := [(6, .int 15), (7, .int x4), (0, .ref m0), (1, .int x1), (2, .int x2), (3, .int x3), (4, .int x4), (5, .int x5)]) hx hb dX8_feed_99 hl (k := 1) rfl (by decide) (by decide) rfl (fun ls hl => ?_)
  refine lv_goto (tgt := 18) hx hb dX8_feed_102 (by decide) ?_
  refine lv_iload hx hb dX8_feed_18 (lv_at hl 0 rfl) ?_
  refine lv_bipush (v := 20) hx hb dX8_feed_20 (by decide) ?_
  refine lv_icmp_ge (tgt := 105) hx hb dX8_feed_22 (by decide) (fun h9 => (by first | exact absurd h9 (by decide) | exact absurd (by decide) h9)) (fun c98 => ?_)
  refine lv_iload hx hb dX8_feed_25 (lv_at hl 0 rfl) ?_
  refine lv_iconst (v := 4) hx hb dX8_feed_27 (by decide) ?_
  refine lv_icmp_ge (tgt := 35) hx hb dX8_feed_28 (by decide) (fun c99 => ?_) (fun h9 => (by first | exact absurd h9 (by decide) | exact absurd (by decide) h9))
  refine lv_iload hx hb dX8_feed_35 (lv_at hl 0 rfl) ?_
  refine lv_bipush (v := 8) hx hb dX8_feed_37 (by decide) ?_
  refine lv_icmp_ge (tgt := 46) hx hb dX8_feed_39 (by decide) (fun c100 => ?_) (fun h9 => (by first | exact absurd h9 (by decide) | exact absurd (by decide) h9))
  refine lv_iload hx hb dX8_feed_46 (lv_at hl 0 rfl) ?_
  refine lv_bipush (v := 12) hx hb dX8_feed_48 (by decide) ?_
  refine lv_icmp_ge (tgt := 57) hx hb dX8_feed_50 (by decide) (fun c101 => ?_) (fun h9 => (by first | exact absurd h9 (by decide) | exact absurd (by decide) h9))
  refine lv_iload hx hb dX8_feed_57 (lv_at hl 0 rfl) ?_
  refine lv_bipush (v := 16) hx hb dX8_feed_59 (by decide) ?_
  refine lv_icmp_ge (tgt := 69) hx hb dX8_feed_61 (by decide) (fun h9 => (by first | exact absurd h9 (by decide) | exact absurd (by decide) h9)) (fun c102 => ?_)
  refine lv_iload hx hb dX8_feed_64 (lv_at hl 6 rfl) ?_
  refine lv_goto (tgt := 71) hx hb dX8_feed_66 (by decide) ?_
  refine lv_istore (lv' := [(7, .int x4), (6, .int 15), (0, .ref m0), (1, .int x1), (2, .int x2), (3, .int x3), (4, .int x4), (5, .int x5)]) hx hb dX8_feed_71 hl (by decide) rfl (fun ls hl => ?_)
  refine lv_aload_n hx hb dX8_feed_73 rfl (lv_at hl 2 rfl) ?_
  refine va_get (D := D) (ci := 8) (v := .ref r0) (C := RX8) (T := TX8) (N := 40) hx hb hts iw_k_mfeed_8 hown hK hP 0 rfl rfl 0 (by decide) (hts (.fieldLink RX8 58 "FlightDeskModel" "tape" "[B") (by decide +kernel)) (fun _ h9 => h9) rfl dX8_feed_74 ?_
  refine lv_aload_n hx hb dX8_feed_77 rfl (lv_at hl 2 rfl) ?_
  refine va_get (D := D) (ci := 8) (v := .int 0) (C := RX8) (T := TX8) (N := 40) hx hb hts iw_k_mfeed_8 hown hK hP 0 rfl rfl 2 (by decide) (hts (.fieldLink RX8 121 "FlightDeskModel" "taped" "I") (by decide +kernel)) (fun _ h9 => h9) rfl dX8_feed_78 ?_
  refine lv_iload hx hb dX8_feed_81 (lv_at hl 1 rfl) ?_
  refine lv_iadd hx hb dX8_feed_83 ?_
  refine lv_topi (fun vv ev => ?_)
  obtain rfl : vv = 15 := ev.trans (by decide)
  refine lv_iload hx hb dX8_feed_84 (lv_at hl 0 rfl) ?_
  refine lv_bipush (v := 24) hx hb dX8_feed_86 (by decide) ?_
  refine lv_bipush (v := 8) hx hb dX8_feed_88 (by decide) ?_
  refine lv_iload hx hb dX8_feed_90 (lv_at hl 1 rfl) ?_
  refine lv_iconst (v := 3) hx hb dX8_feed_92 (by decide) ?_
  refine lv_iand hx hb dX8_feed_93 ?_
  refine lv_topi (fun vv ev => ?_)
  obtain rfl : vv = 3 := ev.trans (by decide)
  refine lv_imul hx hb dX8_feed_94 ?_
  refine lv_topi (fun vv ev => ?_)
  obtain rfl : vv = 24 := ev.trans (by decide)
  refine lv_isub hx hb dX8_feed_95 ?_
  refine lv_topi (fun vv ev => ?_)
  obtain rfl : vv = 0 := ev.trans (by decide)
  refine lv_ishr hx hb dX8_feed_96 ?_
  refine lv_topi (fun v103 ev103 => ?_)
  refine lv_i2b hx hb dX8_feed_97 rfl ?_
  refine lv_topi (fun v104 ev104 => ?_)
  refine va_bast hx hb hK hP hD hS 1 1 rfl rfl (show ¬ (_ ∨ _) by decide) dX8_feed_98 (fun H locs hP hD hS => ?_)
  have hP : va_P D vwCl [(m0, .inr (8, [.ref r0, .ref r1, .int 0, .int 0, .int 0, .int (-1), .int 0, .int 0, .int 0, .int 0, .long 0, .ref r11, .ref r12, .ref r13, .ref r14, .ref r15, .ref r16, .ref r17, .ref r18, .ref r19, .ref r20, .ref r21, .ref r22, .ref r23, .ref r24, .int 0, .int 0, .int 0, .int 0, .int 0, .int 0, .int 0, .int 0, .int 0, .ref r34, .ref r35, .ref r36, .int 0, .int 0, .ref r39])), (r0, .inl (cB, 1020, .inl (upd f97 (15 : Int32).toNatClampNeg (vp_nar .byte v104))))] H := hP
  have hD : va_D A [(m0, .inr (8, [.ref r0, .ref r1, .int 0, .int 0, .int 0, .int (-1), .int 0, .int 0, .int 0, .int 0, .long 0, .ref r11, .ref r12, .ref r13, .ref r14, .ref r15, .ref r16, .ref r17, .ref r18, .ref r19, .ref r20, .ref r21, .ref r22, .ref r23, .ref r24, .int 0, .int 0, .int 0, .int 0, .int 0, .int 0, .int 0, .int 0, .int 0, .ref r34, .ref r35, .ref r36, .int 0, .int 0, .ref r39])), (r0, .inl (cB, 1020, .inl (upd f97 (15 : Int32).toNatClampNeg (vp_nar .byte v104))))] := hD
  obtain ⟨f105, ef105⟩ : ∃ z : Nat → Int32, z = (upd f97 (15 : Int32).toNatClampNeg (vp_nar .byte v104)) := ⟨_, rfl⟩
  rw [← ef105] at hP hD
  refine lv_iinc (v := 16) (lv' := [(6, .int 16), (7, .int x4), (0, .ref m0), (1, .int x1), (2, .int x2), (3, .int x3), (4, .int x4), (5, .int x5)]) hx hb dX8_feed_99 hl (k := 1) rfl (by decide) (by decide) rfl (fun ls hl => ?_)
  refine lv_goto (tgt := 18) hx hb dX8_feed_102 (by decide) ?_
  refine lv_iload hx hb dX8_feed_18 (lv_at hl 0 rfl) ?_
  refine lv_bipush (v := 20) hx hb dX8_feed_20 (by decide) ?_
  refine lv_icmp_ge (tgt := 105) hx hb dX8_feed_22 (by decide) (fun h9 => (by first | exact absurd h9 (by decide) | exact absurd (by decide) h9)) (fun c106 => ?_)
  refine lv_iload hx hb dX8_feed_25 (lv_at hl 0 rfl) ?_
  refine lv_iconst (v := 4) hx hb dX8_feed_27 (by decide) ?_
  refine lv_icmp_ge (tgt := 35) hx hb dX8_feed_28 (by decide) (fun c107 => ?_) (fun h9 => (by first | exact absurd h9 (by decide) | exact absurd (by decide) h9))
  refine lv_iload hx hb dX8_feed_35 (lv_at hl 0 rfl) ?_
  refine lv_bipush (v := 8) hx hb dX8_feed_37 (by decide) ?_
  refine lv_icmp_ge (tgt := 46) hx hb dX8_feed_39 (by decide) (fun c108 => ?_) (fun h9 => (by first | exact absurd h9 (by decide) | exact absurd (by decide) h9))
  refine lv_iload hx hb dX8_feed_46 (lv_at hl 0 rfl) ?_
  refine lv_bipush (v := 12) hx hb dX8_feed_48 (by decide) ?_
  refine lv_icmp_ge (tgt := 57) hx hb dX8_feed_50 (by decide) (fun c109 => ?_) (fun h9 => (by first | exact absurd h9 (by decide) | exact absurd (by decide) h9))
  refine lv_iload hx hb dX8_feed_57 (lv_at hl 0 rfl) ?_
  refine lv_bipush (v := 16) hx hb dX8_feed_59 (by decide) ?_
  refine lv_icmp_ge (tgt := 69) hx hb dX8_feed_61 (by decide) (fun c110 => ?_) (fun h9 => (by first | exact absurd h9 (by decide) | exact absurd (by decide) h9))
  refine lv_iload hx hb dX8_feed_69 (lv_at hl 7 rfl) ?_
  refine lv_istore (lv' := [(7, .int x5), (6, .int 16), (0, .ref m0), (1, .int x1), (2, .int x2), (3, .int x3), (4, .int x4), (5, .int x5)]) hx hb dX8_feed_71 hl (by decide) rfl (fun ls hl => ?_)
  refine lv_aload_n hx hb dX8_feed_73 rfl (lv_at hl 2 rfl) ?_
  refine va_get (D := D) (ci := 8) (v := .ref r0) (C := RX8) (T := TX8) (N := 40) hx hb hts iw_k_mfeed_8 hown hK hP 0 rfl rfl 0 (by decide) (hts (.fieldLink RX8 58 "FlightDeskModel" "tape" "[B") (by decide +kernel)) (fun _ h9 => h9) rfl dX8_feed_74 ?_
  refine lv_aload_n hx hb dX8_feed_77 rfl (lv_at hl 2 rfl) ?_
  refine va_get (D := D) (ci := 8) (v := .int 0) (C := RX8) (T := TX8) (N := 40) hx hb hts iw_k_mfeed_8 hown hK hP 0 rfl rfl 2 (by decide) (hts (.fieldLink RX8 121 "FlightDeskModel" "taped" "I") (by decide +kernel)) (fun _ h9 => h9) rfl dX8_feed_78 ?_
  refine lv_iload hx hb dX8_feed_81 (lv_at hl 1 rfl) ?_
  refine lv_iadd hx hb dX8_feed_83 ?_
  refine lv_topi (fun vv ev => ?_)
  obtain rfl : vv = 16 := ev.trans (by decide)
  refine lv_iload hx hb dX8_feed_84 (lv_at hl 0 rfl) ?_
  refine lv_bipush (v := 24) hx hb dX8_feed_86 (by decide) ?_
  refine lv_bipush (v := 8) hx hb dX8_feed_88 (by decide) ?_
  refine lv_iload hx hb dX8_feed_90 (lv_at hl 1 rfl) ?_
  refine lv_iconst (v := 3) hx hb dX8_feed_92 (by decide) ?_
  refine lv_iand hx hb dX8_feed_93 ?_
  refine lv_topi (fun vv ev => ?_)
  obtain rfl : vv = 0 := ev.trans (by decide)
  refine lv_imul hx hb dX8_feed_94 ?_
  refine lv_topi (fun vv ev => ?_)
  obtain rfl : vv = 0 := ev.trans (by decide)
  refine lv_isub hx hb dX8_feed_95 ?_
  refine lv_topi (fun vv ev => ?_)
  obtain rfl : vv = 24 := ev.trans (by decide)
  refine lv_ishr hx hb dX8_feed_96 ?_
  refine lv_topi (fun v111 ev111 => ?_)
  refine lv_i2b hx hb dX8_feed_97 rfl ?_
  refine lv_topi (fun v112 ev112 => ?_)
  refine va_bast hx hb hK hP hD hS 1 1 rfl rfl (show ¬ (_ ∨ _) by decide) dX8_feed_98 (fun H locs hP hD hS => ?_)
  have hP : va_P D vwCl [(m0, .inr (8, [.ref r0, .ref r1, .int 0, .int 0, .int 0, .int (-1), .int 0, .int 0, .int 0, .int 0, .long 0, .ref r11, .ref r12, .ref r13, .ref r14, .ref r15, .ref r16, .ref r17, .ref r18, .ref r19, .ref r20, .ref r21, .ref r22, .ref r23, .ref r24, .int 0, .int 0, .int 0, .int 0, .int 0, .int 0, .int 0, .int 0, .int 0, .ref r34, .ref r35, .ref r36, .int 0, .int 0, .ref r39])), (r0, .inl (cB, 1020, .inl (upd f105 (16 : Int32).toNatClampNeg (vp_nar .byte v112))))] H := hP
  have hD : va_D A [(m0, .inr (8, [.ref r0, .ref r1, .int 0, .int 0, .int 0, .int (-1), .int 0, .int 0, .int 0, .int 0, .long 0, .ref r11, .ref r12, .ref r13, .ref r14, .ref r15, .ref r16, .ref r17, .ref r18, .ref r19, .ref r20, .ref r21, .ref r22, .ref r23, .ref r24, .int 0, .int 0, .int 0, .int 0, .int 0, .int 0, .int 0, .int 0, .int 0, .ref r34, .ref r35, .ref r36, .int 0, .int 0, .ref r39])), (r0, .inl (cB, 1020, .inl (upd f105 (16 : Int32).toNatClampNeg (vp_nar .byte v112))))] := hD
  obtain ⟨f113, ef113⟩ : ∃ z : Nat → Int32, z = (upd f105 (16 : Int32).toNatClampNeg (vp_nar .byte v112)) := ⟨_, rfl⟩
  rw [← ef113] at hP hD
  refine lv_iinc (v := 17) (lv' := [(6, .int 17), (7, .int x5), (0, .ref m0), (1, .int x1), (2, .int x2), (3, .int x3), (4, .int x4), (5, .int x5)]) hx hb dX8_feed_99 hl (k := 1) rfl (by decide) (by decide) rfl (fun ls hl => ?_)
  refine lv_goto (tgt := 18) hx hb dX8_feed_102 (by decide) ?_
  refine lv_iload hx hb dX8_feed_18 (lv_at hl 0 rfl) ?_
  refine lv_bipush (v := 20) hx hb dX8_feed_20 (by decide) ?_
  refine lv_icmp_ge (tgt := 105) hx hb dX8_feed_22 (by decide) (fun h9 => (by first | exact absurd h9 (by decide) | exact absurd (by decide) h9)) (fun c114 => ?_)
  refine lv_iload hx hb dX8_feed_25 (lv_at hl 0 rfl) ?_
  refine lv_iconst (v := 4) hx hb dX8_feed_27 (by decide) ?_
  refine lv_icmp_ge (tgt := 35) hx hb dX8_feed_28 (by decide) (fun c115 => ?_) (fun h9 => (by first | exact absurd h9 (by decide) | exact absurd (by decide) h9))
  refine lv_iload hx hb dX8_feed_35 (lv_at hl 0 rfl) ?_
  refine lv_bipush (v := 8) hx hb dX8_feed_37 (by decide) ?_
  refine lv_icmp_ge (tgt := 46) hx hb dX8_feed_39 (by decide) (fun c116 => ?_) (fun h9 => (by first | exact absurd h9 (by decide) | exact absurd (by decide) h9))
  refine lv_iload hx hb dX8_feed_46 (lv_at hl 0 rfl) ?_
  refine lv_bipush (v := 12) hx hb dX8_feed_48 (by decide) ?_
  refine lv_icmp_ge (tgt := 57) hx hb dX8_feed_50 (by decide) (fun c117 => ?_) (fun h9 => (by first | exact absurd h9 (by decide) | exact absurd (by decide) h9))
  refine lv_iload hx hb dX8_feed_57 (lv_at hl 0 rfl) ?_
  refine lv_bipush (v := 16) hx hb dX8_feed_59 (by decide) ?_
  refine lv_icmp_ge (tgt := 69) hx hb dX8_feed_61 (by decide) (fun c118 => ?_) (fun h9 => (by first | exact absurd h9 (by decide) | exact absurd (by decide) h9))
  refine lv_iload hx hb dX8_feed_69 (lv_at hl 7 rfl) ?_
  refine lv_istore (lv' := [(7, .int x5), (6, .int 17), (0, .ref m0), (1, .int x1), (2, .int x2), (3, .int x3), (4, .int x4), (5, .int x5)]) hx hb dX8_feed_71 hl (by decide) rfl (fun ls hl => ?_)
  refine lv_aload_n hx hb dX8_feed_73 rfl (lv_at hl 2 rfl) ?_
  refine va_get (D := D) (ci := 8) (v := .ref r0) (C := RX8) (T := TX8) (N := 40) hx hb hts iw_k_mfeed_8 hown hK hP 0 rfl rfl 0 (by decide) (hts (.fieldLink RX8 58 "FlightDeskModel" "tape" "[B") (by decide +kernel)) (fun _ h9 => h9) rfl dX8_feed_74 ?_
  refine lv_aload_n hx hb dX8_feed_77 rfl (lv_at hl 2 rfl) ?_
  refine va_get (D := D) (ci := 8) (v := .int 0) (C := RX8) (T := TX8) (N := 40) hx hb hts iw_k_mfeed_8 hown hK hP 0 rfl rfl 2 (by decide) (hts (.fieldLink RX8 121 "FlightDeskModel" "taped" "I") (by decide +kernel)) (fun _ h9 => h9) rfl dX8_feed_78 ?_
  refine lv_iload hx hb dX8_feed_81 (lv_at hl 1 rfl) ?_
  refine lv_iadd hx hb dX8_feed_83 ?_
  refine lv_topi (fun vv ev => ?_)
  obtain rfl : vv = 17 := ev.trans (by decide)
  refine lv_iload hx hb dX8_feed_84 (lv_at hl 0 rfl) ?_
  refine lv_bipush (v := 24) hx hb dX8_feed_86 (by decide) ?_
  refine lv_bipush (v := 8) hx hb dX8_feed_88 (by decide) ?_
  refine lv_iload hx hb dX8_feed_90 (lv_at hl 1 rfl) ?_
  refine lv_iconst (v := 3) hx hb dX8_feed_92 (by decide) ?_
  refine lv_iand hx hb dX8_feed_93 ?_
  refine lv_topi (fun vv ev => ?_)
  obtain rfl : vv = 1 := ev.trans (by decide)
  refine lv_imul hx hb dX8_feed_94 ?_
  refine lv_topi (fun vv ev => ?_)
  obtain rfl : vv = 8 := ev.trans (by decide)
  refine lv_isub hx hb dX8_feed_95 ?_
  refine lv_topi (fun vv ev => ?_)
  obtain rfl : vv = 16 := ev.trans (by decide)
  refine lv_ishr hx hb dX8_feed_96 ?_
  refine lv_topi (fun v119 ev119 => ?_)
  refine lv_i2b hx hb dX8_feed_97 rfl ?_
  refine lv_topi (fun v120 ev120 => ?_)
  refine va_bast hx hb hK hP hD hS 1 1 rfl rfl (show ¬ (_ ∨ _) by decide) dX8_feed_98 (fun H locs hP hD hS => ?_)
  have hP : va_P D vwCl [(m0, .inr (8, [.ref r0, .ref r1, .int 0, .int 0, .int 0, .int (-1), .int 0, .int 0, .int 0, .int 0, .long 0, .ref r11, .ref r12, .ref r13, .ref r14, .ref r15, .ref r16, .ref r17, .ref r18, .ref r19, .ref r20, .ref r21, .ref r22, .ref r23, .ref r24, .int 0, .int 0, .int 0, .int 0, .int 0, .int 0, .int 0, .int 0, .int 0, .ref r34, .ref r35, .ref r36, .int 0, .int 0, .ref r39])), (r0, .inl (cB, 1020, .inl (upd f113 (17 : Int32).toNatClampNeg (vp_nar .byte v120))))] H := hP
  have hD : va_D A [(m0, .inr (8, [.ref r0, .ref r1, .int 0, .int 0, .int 0, .int (-1), .int 0, .int 0, .int 0, .int 0, .long 0, .ref r11, .ref r12, .ref r13, .ref r14, .ref r15, .ref r16, .ref r17, .ref r18, .ref r19, .ref r20, .ref r21, .ref r22, .ref r23, .ref r24, .int 0, .int 0, .int 0, .int 0, .int 0, .int 0, .int 0, .int 0, .int 0, .ref r34, .ref r35, .ref r36, .int 0, .int 0, .ref r39])), (r0, .inl (cB, 1020, .inl (upd f113 (17 : Int32).toNatClampNeg (vp_nar .byte v120))))] := hD
  obtain ⟨f121, ef121⟩ : ∃ z : Nat → Int32, z = (upd f113 (17 : Int32).toNatClampNeg (vp_nar .byte v120)) := ⟨_, rfl⟩
  rw [← ef121] at hP hD
  refine lv_iinc (v := 18) (lv' := [(6, .int 18), (7, .int x5), (0, .ref m0), (1, .int x1), (2, .int x2), (3, .int x3), (4, .int x4), (5, .int x5)]) hx hb dX8_feed_99 hl (k := 1) rfl (by decide) (by decide) rfl (fun ls hl => ?_)
  refine lv_goto (tgt := 18) hx hb dX8_feed_102 (by decide) ?_
  refine lv_iload hx hb dX8_feed_18 (lv_at hl 0 rfl) ?_
  refine lv_bipush (v := 20) hx hb dX8_feed_20 (by decide) ?_
  refine lv_icmp_ge (tgt := 105) hx hb dX8_feed_22 (by decide) (fun h9 => (by first | exact absurd h9 (by decide) | exact absurd (by decide) h9)) (fun c122 => ?_)
  refine lv_iload hx hb dX8_feed_25 (lv_at hl 0 rfl) ?_
  refine lv_iconst (v := 4) hx hb dX8_feed_27 (by decide) ?_
  refine lv_icmp_ge (tgt := 35) hx hb dX8_feed_28 (by decide) (fun c123 => ?_) (fun h9 => (by first | exact absurd h9 (by decide) | exact absurd (by decide) h9))
  refine lv_iload hx hb dX8_feed_35 (lv_at hl 0 rfl) ?_
  refine lv_bipush (v := 8) hx hb dX8_feed_37 (by decide) ?_
  refine lv_icmp_ge (tgt := 46) hx hb dX8_feed_39 (by decide) (fun c124 => ?_) (fun h9 => (by first | exact absurd h9 (by decide) | exact absurd (by decide) h9))
  refine lv_iload hx hb dX8_feed_46 (lv_at hl 0 rfl) ?_
  refine lv_bipush (v := 12) hx hb dX8_feed_48 (by decide) ?_
  refine lv_icmp_ge (tgt := 57) hx hb dX8_feed_50 (by decide) (fun c125 => ?_) (fun h9 => (by first | exact absurd h9 (by decide) | exact absurd (by decide) h9))
  refine lv_iload hx hb dX8_feed_57 (lv_at hl 0 rfl) ?_
  refine lv_bipush (v := 16) hx hb dX8_feed_59 (by decide) ?_
  refine lv_icmp_ge (tgt := 69) hx hb dX8_feed_61 (by decide) (fun c126 => ?_) (fun h9 => (by first | exact absurd h9 (by decide) | exact absurd (by decide) h9))
  refine lv_iload hx hb dX8_feed_69 (lv_at hl 7 rfl) ?_
  refine lv_istore (lv' := [(7, .int x5), (6, .int 18), (0, .ref m0), (1, .int x1), (2, .int x2), (3, .int x3), (4, .int x4), (5, .int x5)]) hx hb dX8_feed_71 hl (by decide) rfl (fun ls hl => ?_)
  refine lv_aload_n hx hb dX8_feed_73 rfl (lv_at hl 2 rfl) ?_
  refine va_get (D := D) (ci := 8) (v := .ref r0) (C := RX8) (T := TX8) (N := 40) hx hb hts iw_k_mfeed_8 hown hK hP 0 rfl rfl 0 (by decide) (hts (.fieldLink RX8 58 "FlightDeskModel" "tape" "[B") (by decide +kernel)) (fun _ h9 => h9) rfl dX8_feed_74 ?_
  refine lv_aload_n hx hb dX8_feed_77 rfl (lv_at hl 2 rfl) ?_
  refine va_get (D := D) (ci := 8) (v := .int 0) (C := RX8) (T := TX8) (N := 40) hx hb hts iw_k_mfeed_8 hown hK hP 0 rfl rfl 2 (by decide) (hts (.fieldLink RX8 121 "FlightDeskModel" "taped" "I") (by decide +kernel)) (fun _ h9 => h9) rfl dX8_feed_78 ?_
  refine lv_iload hx hb dX8_feed_81 (lv_at hl 1 rfl) ?_
  refine lv_iadd hx hb dX8_feed_83 ?_
  refine lv_topi (fun vv ev => ?_)
  obtain rfl : vv = 18 := ev.trans (by decide)
  refine lv_iload hx hb dX8_feed_84 (lv_at hl 0 rfl) ?_
  refine lv_bipush (v := 24) hx hb dX8_feed_86 (by decide) ?_
  refine lv_bipush (v := 8) hx hb dX8_feed_88 (by decide) ?_
  refine lv_iload hx hb dX8_feed_90 (lv_at hl 1 rfl) ?_
  refine lv_iconst (v := 3) hx hb dX8_feed_92 (by decide) ?_
  refine lv_iand hx hb dX8_feed_93 ?_
  refine lv_topi (fun vv ev => ?_)
  obtain rfl : vv = 2 := ev.trans (by decide)
  refine lv_imul hx hb dX8_feed_94 ?_
  refine lv_topi (fun vv ev => ?_)
  obtain rfl : vv = 16 := ev.trans (by decide)
  refine lv_isub hx hb dX8_feed_95 ?_
  refine lv_topi (fun vv ev => ?_)
  obtain rfl : vv = 8 := ev.trans (by decide)
  refine lv_ishr hx hb dX8_feed_96 ?_
  refine lv_topi (fun v127 ev127 => ?_)
  refine lv_i2b hx hb dX8_feed_97 rfl ?_
  refine lv_topi (fun v128 ev128 => ?_)
  refine va_bast hx hb hK hP hD hS 1 1 rfl rfl (show ¬ (_ ∨ _) by decide) dX8_feed_98 (fun H locs hP hD hS => ?_)
  have hP : va_P D vwCl [(m0, .inr (8, [.ref r0, .ref r1, .int 0, .int 0, .int 0, .int (-1), .int 0, .int 0, .int 0, .int 0, .long 0, .ref r11, .ref r12, .ref r13, .ref r14, .ref r15, .ref r16, .ref r17, .ref r18, .ref r19, .ref r20, .ref r21, .ref r22, .ref r23, .ref r24, .int 0, .int 0, .int 0, .int 0, .int 0, .int 0, .int 0, .int 0, .int 0, .ref r34, .ref r35, .ref r36, .int 0, .int 0, .ref r39])), (r0, .inl (cB, 1020, .inl (upd f121 (18 : Int32).toNatClampNeg (vp_nar .byte v128))))] H := hP
  have hD : va_D A [(m0, .inr (8, [.ref r0, .ref r1, .int 0, .int 0, .int 0, .int (-1), .int 0, .int 0, .int 0, .int 0, .long 0, .ref r11, .ref r12, .ref r13, .ref r14, .ref r15, .ref r16, .ref r17, .ref r18, .ref r19, .ref r20, .ref r21, .ref r22, .ref r23, .ref r24, .int 0, .int 0, .int 0, .int 0, .int 0, .int 0, .int 0, .int 0, .int 0, .ref r34, .ref r35, .ref r36, .int 0, .int 0, .ref r39])), (r0, .inl (cB, 1020, .inl (upd f121 (18 : Int32).toNatClampNeg (vp_nar .byte v128))))] := hD
  obtain ⟨f129, ef129⟩ : ∃ z : Nat → Int32, z = (upd f121 (18 : Int32).toNatClampNeg (vp_nar .byte v128)) := ⟨_, rfl⟩
  rw [← ef129] at hP hD
  refine lv_iinc (v := 19) (lv' := [(6, .int 19), (7, .int x5), (0, .ref m0), (1, .int x1), (2, .int x2), (3, .int x3), (4, .int x4), (5, .int x5)]) hx hb dX8_feed_99 hl (k := 1) rfl (by decide) (by decide) rfl (fun ls hl => ?_)
  refine lv_goto (tgt := 18) hx hb dX8_feed_102 (by decide) ?_
  refine lv_iload hx hb dX8_feed_18 (lv_at hl 0 rfl) ?_
  refine lv_bipush (v := 20) hx hb dX8_feed_20 (by decide) ?_
  refine lv_icmp_ge (tgt := 105) hx hb dX8_feed_22 (by decide) (fun h9 => (by first | exact absurd h9 (by decide) | exact absurd (by decide) h9)) (fun c130 => ?_)
  refine lv_iload hx hb dX8_feed_25 (lv_at hl 0 rfl) ?_
  refine lv_iconst (v := 4) hx hb dX8_feed_27 (by decide) ?_
  refine lv_icmp_ge (tgt := 35) hx hb dX8_feed_28 (by decide) (fun c131 => ?_) (fun h9 => (by first | exact absurd h9 (by decide) | exact absurd (by decide) h9))
  refine lv_iload hx hb dX8_feed_35 (lv_at hl 0 rfl) ?_
  refine lv_bipush (v := 8) hx hb dX8_feed_37 (by decide) ?_
  refine lv_icmp_ge (tgt := 46) hx hb dX8_feed_39 (by decide) (fun c132 => ?_) (fun h9 => (by first | exact absurd h9 (by decide) | exact absurd (by decide) h9))
  refine lv_iload hx hb dX8_feed_46 (lv_at hl 0 rfl) ?_
  refine lv_bipush (v := 12) hx hb dX8_feed_48 (by decide) ?_
  refine lv_icmp_ge (tgt := 57) hx hb dX8_feed_50 (by decide) (fun c133 => ?_) (fun h9 => (by first | exact absurd h9 (by decide) | exact absurd (by decide) h9))
  refine lv_iload hx hb dX8_feed_57 (lv_at hl 0 rfl) ?_
  refine lv_bipush (v := 16) hx hb dX8_feed_59 (by decide) ?_
  refine lv_icmp_ge (tgt := 69) hx hb dX8_feed_61 (by decide) (fun c134 => ?_) (fun h9 => (by first | exact absurd h9 (by decide) | exact absurd (by decide) h9))
  refine lv_iload hx hb dX8_feed_69 (lv_at hl 7 rfl) ?_
  refine lv_istore (lv' := [(7, .int x5), (6, .int 19), (0, .ref m0), (1, .int x1), (2, .int x2), (3, .int x3), (4, .int x4), (5, .int x5)]) hx hb dX8_feed_71 hl (by decide) rfl (fun ls hl => ?_)
  refine lv_aload_n hx hb dX8_feed_73 rfl (lv_at hl 2 rfl) ?_
  refine va_get (D := D) (ci := 8) (v := .ref r0) (C := RX8) (T := TX8) (N := 40) hx hb hts iw_k_mfeed_8 hown hK hP 0 rfl rfl 0 (by decide) (hts (.fieldLink RX8 58 "FlightDeskModel" "tape" "[B") (by decide +kernel)) (fun _ h9 => h9) rfl dX8_feed_74 ?_
  refine lv_aload_n hx hb dX8_feed_77 rfl (lv_at hl 2 rfl) ?_
  refine va_get (D := D) (ci := 8) (v := .int 0) (C := RX8) (T := TX8) (N := 40) hx hb hts iw_k_mfeed_8 hown hK hP 0 rfl rfl 2 (by decide) (hts (.fieldLink RX8 121 "FlightDeskModel" "taped" "I") (by decide +kernel)) (fun _ h9 => h9) rfl dX8_feed_78 ?_
  refine lv_iload hx hb dX8_feed_81 (lv_at hl 1 rfl) ?_
  refine lv_iadd hx hb dX8_feed_83 ?_
  refine lv_topi (fun vv ev => ?_)
  obtain rfl : vv = 19 := ev.trans (by decide)
  refine lv_iload hx hb dX8_feed_84 (lv_at hl 0 rfl) ?_
  refine lv_bipush (v := 24) hx hb dX8_feed_86 (by decide) ?_
  refine lv_bipush (v := 8) hx hb dX8_feed_88 (by decide) ?_
  refine lv_iload hx hb dX8_feed_90 (lv_at hl 1 rfl) ?_
  refine lv_iconst (v := 3) hx hb dX8_feed_92 (by decide) ?_
  refine lv_iand hx hb dX8_feed_93 ?_
  refine lv_topi (fun vv ev => ?_)
  obtain rfl : vv = 3 := ev.trans (by decide)
  refine lv_imul hx hb dX8_feed_94 ?_
  refine lv_topi (fun vv ev => ?_)
  obtain rfl : vv = 24 := ev.trans (by decide)
  refine lv_isub hx hb dX8_feed_95 ?_
  refine lv_topi (fun vv ev => ?_)
  obtain rfl : vv = 0 := ev.trans (by decide)
  refine lv_ishr hx hb dX8_feed_96 ?_
  refine lv_topi (fun v135 ev135 => ?_)
  refine lv_i2b hx hb dX8_feed_97 rfl ?_
  refine lv_topi (fun v136 ev136 => ?_)
  refine va_bast hx hb hK hP hD hS 1 1 rfl rfl (show ¬ (_ ∨ _) by decide) dX8_feed_98 (fun H locs hP hD hS => ?_)
  have hP : va_P D vwCl [(m0, .inr (8, [.ref r0, .ref r1, .int 0, .int 0, .int 0, .int (-1), .int 0, .int 0, .int 0, .int 0, .long 0, .ref r11, .ref r12, .ref r13, .ref r14, .ref r15, .ref r16, .ref r17, .ref r18, .ref r19, .ref r20, .ref r21, .ref r22, .ref r23, .ref r24, .int 0, .int 0, .int 0, .int 0, .int 0, .int 0, .int 0, .int 0, .int 0, .ref r34, .ref r35, .ref r36, .int 0, .int 0, .ref r39])), (r0, .inl (cB, 1020, .inl (upd f129 (19 : Int32).toNatClampNeg (vp_nar .byte v136))))] H := hP
  have hD : va_D A [(m0, .inr (8, [.ref r0, .ref r1, .int 0, .int 0, .int 0, .int (-1), .int 0, .int 0, .int 0, .int 0, .long 0, .ref r11, .ref r12, .ref r13, .ref r14, .ref r15, .ref r16, .ref r17, .ref r18, .ref r19, .ref r20, .ref r21, .ref r22, .ref r23, .ref r24, .int 0, .int 0, .int 0, .int 0, .int 0, .int 0, .int 0, .int 0, .int 0, .ref r34, .ref r35, .ref r36, .int 0, .int 0, .ref r39])), (r0, .inl (cB, 1020, .inl (upd f129 (19 : Int32).toNatClampNeg (vp_nar .byte v136))))] := hD
  obtain ⟨f137, ef137⟩ : ∃ z : Nat → Int32, z = (upd f129 (19 : Int32).toNatClampNeg (vp_nar .byte v136)) := ⟨_, rfl⟩
  rw [← ef137] at hP hD
  refine lv_iinc (v := 20) (lv' := [(6, .int 20), (7, .int x5), (0, .ref m0), (1, .int x1), (2, .int x2), (3, .int x3), (4, .int x4), (5, .int x5)]) hx hb dX8_feed_99 hl (k := 1) rfl (by decide) (by decide) rfl (fun ls hl => ?_)
  refine lv_goto (tgt := 18) hx hb dX8_feed_102 (by decide) ?_
  refine lv_iload hx hb dX8_feed_18 (lv_at hl 0 rfl) ?_
  refine lv_bipush (v := 20) hx hb dX8_feed_20 (by decide) ?_
  refine lv_icmp_ge (tgt := 105) hx hb dX8_feed_22 (by decide) (fun c138 => ?_) (fun h9 => (by first | exact absurd h9 (by decide) | exact absurd (by decide) h9))
  refine lv_aload_n hx hb dX8_feed_105 rfl (lv_at hl 2 rfl) ?_
  refine lv_dup hx hb dX8_feed_106 rfl ?_
  refine va_get (D := D) (ci := 8) (v := .int 0) (C := RX8) (T := TX8) (N := 40) hx hb hts iw_k_mfeed_8 hown hK hP 0 rfl rfl 2 (by decide) (hts (.fieldLink RX8 121 "FlightDeskModel" "taped" "I") (by decide +kernel)) (fun _ h9 => h9) rfl dX8_feed_107 ?_
  refine lv_bipush (v := 20) hx hb dX8_feed_110 (by decide) ?_
  refine lv_iadd hx hb dX8_feed_112 ?_
  refine lv_topi (fun vv ev => ?_)
  obtain rfl : vv = 20 := ev.trans (by decide)
  refine va_put (D := D) (ci := 8) (v := .int 20) (ty := .int) (C := RX8) (T := TX8) (N := 40) hx hb hts iw_k_mfeed_8 tyX8 tyX8_ok nmX8 hown hK hP hD hS 0 rfl rfl 2 (by decide) (hts (.fieldLink RX8 121 "FlightDeskModel" "taped" "I") (by decide +kernel)) (fun _ h9 => h9) rfl (by decide +kernel) rfl rfl (Nat.le_of_ble_eq_true rfl) dX8_feed_113 (fun H locs hP hD hS => ?_)
  have hP : va_P D vwCl [(m0, .inr (8, [.ref r0, .ref r1, .int 20, .int 0, .int 0, .int (-1), .int 0, .int 0, .int 0, .int 0, .long 0, .ref r11, .ref r12, .ref r13, .ref r14, .ref r15, .ref r16, .ref r17, .ref r18, .ref r19, .ref r20, .ref r21, .ref r22, .ref r23, .ref r24, .int 0, .int 0, .int 0, .int 0, .int 0, .int 0, .int 0, .int 0, .int 0, .ref r34, .ref r35, .ref r36, .int 0, .int 0, .ref r39])), (r0, .inl (cB, 1020, .inl f137))] H := hP
  have hD : va_D A [(m0, .inr (8, [.ref r0, .ref r1, .int 20, .int 0, .int 0, .int (-1), .int 0, .int 0, .int 0, .int 0, .long 0, .ref r11, .ref r12, .ref r13, .ref r14, .ref r15, .ref r16, .ref r17, .ref r18, .ref r19, .ref r20, .ref r21, .ref r22, .ref r23, .ref r24, .int 0, .int 0, .int 0, .int 0, .int 0, .int 0, .int 0, .int 0, .int 0, .ref r34, .ref r35, .ref r36, .int 0, .int 0, .ref r39])), (r0, .inl (cB, 1020, .inl f137))] := hD
  refine lv_aload_n hx hb dX8_feed_116 rfl (lv_at hl 2 rfl) ?_
  refine va_get (D := D) (ci := 8) (v := .int 20) (C := RX8) (T := TX8) (N := 40) hx hb hts iw_k_mfeed_8 hown hK hP 0 rfl rfl 2 (by decide) (hts (.fieldLink RX8 121 "FlightDeskModel" "taped" "I") (by decide +kernel)) (fun _ h9 => h9) rfl dX8_feed_117 ?_
  refine W.widen (k := 0) (n := 0) (by decide) (by decide) ?_
  exact W.iret (v := 20) hx hb hr (fun t ht hW => ⟨⟨20, (), rfl, rfl, trivial⟩, hS.F ht⟩) hS.2.2 dX8_feed_120
