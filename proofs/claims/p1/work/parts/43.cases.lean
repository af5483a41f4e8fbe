set_option maxHeartbeats 4000000 in
set_option maxRecDepth 100000 in
theorem law_end {p : Program} {e : Env} {s : State} {m : MethodId} {below : List Frame} {meth : Method} {c : Code} (l : Launch) {b : Nat} {xs : Nat → Int32} (C0 : lw_At p s m meth c b 6 xs) {H : Heap} {locs : List Loc} {ls : Array Slot} {ce sl : Nat} (hce : ce ≤ 600000) (hsl : sl ≤ 7302250) (hS : va_S (fun q : Nat => s.heap.size ≤ q) s.heap H locs) (hl : lv_has ls 4 [(3, .int 0), (0, .ref b)]) : W p l e room_1 s m #[Value.ref b] below meth c H locs ce sl (lw_Z below #[Value.ref b] s) (F0 m 791 ls []) := by
  obtain ⟨hx, hb, hr, hml, hown, hts, hX, hbl, hlocks, hgv⟩ := id C0
  have hown : s.vm.findClass RL = some m.cls := hown
  have hA : ∀ q : Nat, s.heap.size ≤ q → (fun q : Nat => s.heap.size ≤ q) q := fun _ h => h
  have hbA : ¬ (fun q : Nat => s.heap.size ≤ q) b := Nat.not_le.mpr hbl
  refine lv_iinc (v := 6) (lv' := [(3, .int 6), (0, .ref b)]) hx hb dL_law_791 hl (k := 0) rfl (by decide) (by decide) rfl (fun ls hl => ?_)
  refine lv_goto (tgt := 18) hx hb dL_law_794 (by decide) ?_
  refine lv_iload_n hx hb dL_law_18 rfl (lv_at hl 0 rfl) ?_
  refine lv_aload_n hx hb dL_law_19 rfl (lv_at hl 1 rfl) ?_
  refine va_slen hx hb hX hbl hbA hS dL_law_20 ?_
  refine lv_topi (fun vv ev => ?_)
  obtain rfl : vv = 6 := ev.trans (by decide)
  refine lv_bipush (v := 6) hx hb dL_law_21 (by decide) ?_
  refine lv_isub hx hb dL_law_23 ?_
  refine lv_topi (fun vv ev => ?_)
  obtain rfl : vv = 0 := ev.trans (by decide)
  refine lv_icmp_gt (tgt := 797) hx hb dL_law_24 (by decide) (fun c1 => ?_) (fun h9 => (by first | exact absurd h9 (by decide) | exact absurd (by decide) h9))
  refine lv_iconst (v := 1) hx hb dL_law_797 (by decide) ?_
  refine va_forget (fun q hq => hS.2.2 q hq) ?_
  refine W.widen (k := 600000) (n := 7302250) hce hsl ?_
  exact lw_ret hx hb hr hlocks dL_law_798

set_option maxHeartbeats 4000000 in
set_option maxRecDepth 100000 in
/-- the call feed, and the end -/
theorem law_0 {p : Program} {e : Env} {s : State} {m : MethodId} {below : List Frame} {meth : Method} {c : Code} (l : Launch) {b : Nat} {xs : Nat → Int32} (C0 : lw_At p s m meth c b 6 xs) (D : va_G) (cI cB cP : ClassId) (x_h0 : Nat) (x_tp : Nat) (x_rd : Nat) (x_bk : Nat) (x_fl : Nat) (x_pl : Nat) (x_yb : Nat) (x_f : Nat → Int32) (y_m0 : Nat) (y_r0 : Nat) (y_r1 : Nat) (y_r11 : Nat) (y_r12 : Nat) (y_r13 : Nat) (y_r14 : Nat) (y_r15 : Nat) (y_r16 : Nat) (y_r17 : Nat) (y_r18 : Nat) (y_r19 : Nat) (y_r20 : Nat) (y_r21 : Nat) (y_r22 : Nat) (y_r23 : Nat) (y_r24 : Nat) (y_r34 : Nat) (y_r35 : Nat) (y_r36 : Nat) (y_r39 : Nat) (y_f : Nat → Int32) {H : Heap} {locs : List Loc} {ls : Array Slot} (hK : va_K D vwCl (TY cI cB cP) s) (hN : nw s) (hP : va_P D vwCl [(x_h0, .inr (7, [.ref x_tp, .ref x_rd, .ref x_bk, .ref x_fl, .ref x_pl])), (x_tp, .inr (5, [.ref x_yb, .int 0])), (x_yb, .inl (cI, 1000, .inl x_f)), (y_m0, .inr (8, [.ref y_r0, .ref y_r1, .int 0, .int 0, .int 0, .int (-1), .int 0, .int 0, .int 0, .int 0, .long 0, .ref y_r11, .ref y_r12, .ref y_r13, .ref y_r14, .ref y_r15, .ref y_r16, .ref y_r17, .ref y_r18, .ref y_r19, .ref y_r20, .ref y_r21, .ref y_r22, .ref y_r23, .ref y_r24, .int 0, .int 0, .int 0, .int 0, .int 0, .int 0, .int 0, .int 0, .int 0, .ref y_r34, .ref y_r35, .ref y_r36, .int 0, .int 0, .ref y_r39])), (y_r0, .inl (cB, 1020, .inl y_f))] H) (hD : va_D (fun q : Nat => s.heap.size ≤ q) [(x_h0, .inr (7, [.ref x_tp, .ref x_rd, .ref x_bk, .ref x_fl, .ref x_pl])), (x_tp, .inr (5, [.ref x_yb, .int 0])), (x_yb, .inl (cI, 1000, .inl x_f)), (y_m0, .inr (8, [.ref y_r0, .ref y_r1, .int 0, .int 0, .int 0, .int (-1), .int 0, .int 0, .int 0, .int 0, .long 0, .ref y_r11, .ref y_r12, .ref y_r13, .ref y_r14, .ref y_r15, .ref y_r16, .ref y_r17, .ref y_r18, .ref y_r19, .ref y_r20, .ref y_r21, .ref y_r22, .ref y_r23, .ref y_r24, .int 0, .int 0, .int 0, .int 0, .int 0, .int 0, .int 0, .int 0, .int 0, .ref y_r34, .ref y_r35, .ref y_r36, .int 0, .int 0, .ref y_r39])), (y_r0, .inl (cB, 1020, .inl y_f))]) (hS : va_S (fun q : Nat => s.heap.size ≤ q) s.heap H locs) (hl : lv_has ls 4 [(3, .int 0), (2, .ref y_m0), (1, .ref x_h0), (0, .ref b)]) : W p l e room_1 s m #[Value.ref b] below meth c H locs 86 7510 (lw_Z below #[Value.ref b] s) (F0 m 124 ls []) := by
  obtain ⟨hx, hb, hr, hml, hown, hts, hX, hbl, hlocks, hgv⟩ := id C0
  have hown : s.vm.findClass RL = some m.cls := hown
  have hA : ∀ q : Nat, s.heap.size ≤ q → (fun q : Nat => s.heap.size ≤ q) q := fun _ h => h
  have hbA : ¬ (fun q : Nat => s.heap.size ≤ q) b := Nat.not_le.mpr hbl
  refine lv_aload_n hx hb dL_law_124 rfl (lv_at hl 2 rfl) ?_
  refine lv_aload_n hx hb dL_law_125 rfl (lv_at hl 3 rfl) ?_
  refine lv_iload_n hx hb dL_law_126 rfl (lv_at hl 0 rfl) ?_
  refine lv_iconst (v := 1) hx hb dL_law_127 (by decide) ?_
  refine lv_iadd hx hb dL_law_128 ?_
  refine lv_topi (fun vv ev => ?_)
  obtain rfl : vv = 1 := ev.trans (by decide)
  refine va_sld hx hb hX hbl hbA hS (show ¬ (_ ∨ _) by decide) dL_law_129 ?_
  refine lv_topi (fun vv ev => ?_)
  obtain rfl : vv = xs 1 := ev
  refine lv_aload_n hx hb dL_law_130 rfl (lv_at hl 3 rfl) ?_
  refine lv_iload_n hx hb dL_law_131 rfl (lv_at hl 0 rfl) ?_
  refine lv_iconst (v := 2) hx hb dL_law_132 (by decide) ?_
  refine lv_iadd hx hb dL_law_133 ?_
  refine lv_topi (fun vv ev => ?_)
  obtain rfl : vv = 2 := ev.trans (by decide)
  refine va_sld hx hb hX hbl hbA hS (show ¬ (_ ∨ _) by decide) dL_law_134 ?_
  refine lv_topi (fun vv ev => ?_)
  obtain rfl : vv = xs 2 := ev
  refine lv_aload_n hx hb dL_law_135 rfl (lv_at hl 3 rfl) ?_
  refine lv_iload_n hx hb dL_law_136 rfl (lv_at hl 0 rfl) ?_
  refine lv_iconst (v := 3) hx hb dL_law_137 (by decide) ?_
  refine lv_iadd hx hb dL_law_138 ?_
  refine lv_topi (fun vv ev => ?_)
  obtain rfl : vv = 3 := ev.trans (by decide)
  refine va_sld hx hb hX hbl hbA hS (show ¬ (_ ∨ _) by decide) dL_law_139 ?_
  refine lv_topi (fun vv ev => ?_)
  obtain rfl : vv = xs 3 := ev
  refine lv_aload_n hx hb dL_law_140 rfl (lv_at hl 3 rfl) ?_
  refine lv_iload_n hx hb dL_law_141 rfl (lv_at hl 0 rfl) ?_
  refine lv_iconst (v := 4) hx hb dL_law_142 (by decide) ?_
  refine lv_iadd hx hb dL_law_143 ?_
  refine lv_topi (fun vv ev => ?_)
  obtain rfl : vv = 4 := ev.trans (by decide)
  refine va_sld hx hb hX hbl hbA hS (show ¬ (_ ∨ _) by decide) dL_law_144 ?_
  refine lv_topi (fun vv ev => ?_)
  obtain rfl : vv = xs 4 := ev
  refine lv_aload_n hx hb dL_law_145 rfl (lv_at hl 3 rfl) ?_
  refine lv_iload_n hx hb dL_law_146 rfl (lv_at hl 0 rfl) ?_
  refine lv_iconst (v := 5) hx hb dL_law_147 (by decide) ?_
  refine lv_iadd hx hb dL_law_148 ?_
  refine lv_topi (fun vv ev => ?_)
  obtain rfl : vv = 5 := ev.trans (by decide)
  refine va_sld hx hb hX hbl hbA hS (show ¬ (_ ∨ _) by decide) dL_law_149 ?_
  refine lv_topi (fun vv ev => ?_)
  obtain rfl : vv = xs 5 := ev
  have hPc := hP.sub (ws' := [(x_h0, .inr (7, [.ref x_tp, .ref x_rd, .ref x_bk, .ref x_fl, .ref x_pl])), (x_tp, .inr (5, [.ref x_yb, .int 0])), (x_yb, .inl (cI, 1000, .inl x_f))]) [0, 1, 2] rfl
  have hDc := hD.sub (ws' := [(x_h0, .inr (7, [.ref x_tp, .ref x_rd, .ref x_bk, .ref x_fl, .ref x_pl])), (x_tp, .inr (5, [.ref x_yb, .int 0])), (x_yb, .inl (cI, 1000, .inl x_f))]) [0, 1, 2] (by decide) rfl
  have hFc := va_free (wc := [(x_h0, .inr (7, [.ref x_tp, .ref x_rd, .ref x_bk, .ref x_fl, .ref x_pl])), (x_tp, .inr (5, [.ref x_yb, .int 0])), (x_yb, .inl (cI, 1000, .inl x_f))]) hD hS hA [0, 1, 2] rfl
  refine va_calli (va_runV (As := [.int (xs 1), .int (xs 2), .int (xs 3), .int (xs 4), .int (xs 5)]) (rest := []) ⟨hx, hb, hml, hown, hts⟩ (k_feed l D cI cB cP H.size x_h0 x_tp x_rd x_bk x_fl x_pl x_yb x_f (xs 1) (xs 2) (xs 3) (xs 4) (xs 5)) (cwV 5 hts gw_law_0 rfl rfl rfl (by decide +kernel) ⟨Nat.le_of_ble_eq_true rfl, Nat.le_of_ble_eq_true rfl⟩) ⟨ny_blind, va_recv hK hPc (ci := 7) (q0 := 0) rfl rfl, ny_pre hPc hK hN hDc⟩ rfl rfl hl.1 rfl (lv_room (Nat.le_of_ble_eq_true rfl)) dL_law_150 ⟨Nat.le_of_ble_eq_true rfl, Nat.le_of_ble_eq_true rfl⟩) hS (fun q _ h => hFc q h) hFc (fun r1 u t H locs ht hvm hw hB hz1 hk1 hS => ?_)
  obtain ⟨hP, hD⟩ := va_join (wr := [(y_m0, .inr (8, [.ref y_r0, .ref y_r1, .int 0, .int 0, .int 0, .int (-1), .int 0, .int 0, .int 0, .int 0, .long 0, .ref y_r11, .ref y_r12, .ref y_r13, .ref y_r14, .ref y_r15, .ref y_r16, .ref y_r17, .ref y_r18, .ref y_r19, .ref y_r20, .ref y_r21, .ref y_r22, .ref y_r23, .ref y_r24, .int 0, .int 0, .int 0, .int 0, .int 0, .int 0, .int 0, .int 0, .int 0, .ref y_r34, .ref y_r35, .ref y_r36, .int 0, .int 0, .ref y_r39])), (y_r0, .inl (cB, 1020, .inl y_f))]) (w1 := []) hP hD [0, 1, 2] [3, 4] rfl rfl (by decide) (by decide) hk1 hFc ny_P0 ny_D0
  have hP : va_P D vwCl [(y_m0, .inr (8, [.ref y_r0, .ref y_r1, .int 0, .int 0, .int 0, .int (-1), .int 0, .int 0, .int 0, .int 0, .long 0, .ref y_r11, .ref y_r12, .ref y_r13, .ref y_r14, .ref y_r15, .ref y_r16, .ref y_r17, .ref y_r18, .ref y_r19, .ref y_r20, .ref y_r21, .ref y_r22, .ref y_r23, .ref y_r24, .int 0, .int 0, .int 0, .int 0, .int 0, .int 0, .int 0, .int 0, .int 0, .ref y_r34, .ref y_r35, .ref y_r36, .int 0, .int 0, .ref y_r39])), (y_r0, .inl (cB, 1020, .inl y_f))] H := hP
  have hD : va_D (fun q : Nat => s.heap.size ≤ q) [(y_m0, .inr (8, [.ref y_r0, .ref y_r1, .int 0, .int 0, .int 0, .int (-1), .int 0, .int 0, .int 0, .int 0, .long 0, .ref y_r11, .ref y_r12, .ref y_r13, .ref y_r14, .ref y_r15, .ref y_r16, .ref y_r17, .ref y_r18, .ref y_r19, .ref y_r20, .ref y_r21, .ref y_r22, .ref y_r23, .ref y_r24, .int 0, .int 0, .int 0, .int 0, .int 0, .int 0, .int 0, .int 0, .int 0, .ref y_r34, .ref y_r35, .ref y_r36, .int 0, .int 0, .ref y_r39])), (y_r0, .inl (cB, 1020, .inl y_f))] := hD
  subst hw
  refine lv_aload_n hx hb dL_law_153 rfl (lv_at hl 1 rfl) ?_
  refine lv_aload_n hx hb dL_law_154 rfl (lv_at hl 3 rfl) ?_
  refine lv_iload_n hx hb dL_law_155 rfl (lv_at hl 0 rfl) ?_
  refine lv_iconst (v := 1) hx hb dL_law_156 (by decide) ?_
  refine lv_iadd hx hb dL_law_157 ?_
  refine lv_topi (fun vv ev => ?_)
  obtain rfl : vv = 1 := ev.trans (by decide)
  refine va_sld hx hb hX hbl hbA hS (show ¬ (_ ∨ _) by decide) dL_law_158 ?_
  refine lv_topi (fun vv ev => ?_)
  obtain rfl : vv = xs 1 := ev
  refine lv_aload_n hx hb dL_law_159 rfl (lv_at hl 3 rfl) ?_
  refine lv_iload_n hx hb dL_law_160 rfl (lv_at hl 0 rfl) ?_
  refine lv_iconst (v := 2) hx hb dL_law_161 (by decide) ?_
  refine lv_iadd hx hb dL_law_162 ?_
  refine lv_topi (fun vv ev => ?_)
  obtain rfl : vv = 2 := ev.trans (by decide)
  refine va_sld hx hb hX hbl hbA hS (show ¬ (_ ∨ _) by decide) dL_law_163 ?_
  refine lv_topi (fun vv ev => ?_)
  obtain rfl : vv = xs 2 := ev
  refine lv_aload_n hx hb dL_law_164 rfl (lv_at hl 3 rfl) ?_
  refine lv_iload_n hx hb dL_law_165 rfl (lv_at hl 0 rfl) ?_
  refine lv_iconst (v := 3) hx hb dL_law_166 (by decide) ?_
  refine lv_iadd hx hb dL_law_167 ?_
  refine lv_topi (fun vv ev => ?_)
  obtain rfl : vv = 3 := ev.trans (by decide)
  refine va_sld hx hb hX hbl hbA hS (show ¬ (_ ∨ _) by decide) dL_law_168 ?_
  refine lv_topi (fun vv ev => ?_)
  obtain rfl : vv = xs 3 := ev
  refine lv_aload_n hx hb dL_law_169 rfl (lv_at hl 3 rfl) ?_
  refine lv_iload_n hx hb dL_law_170 rfl (lv_at hl 0 rfl) ?_
  refine lv_iconst (v := 4) hx hb dL_law_171 (by decide) ?_
  refine lv_iadd hx hb dL_law_172 ?_
  refine lv_topi (fun vv ev => ?_)
  obtain rfl : vv = 4 := ev.trans (by decide)
  refine va_sld hx hb hX hbl hbA hS (show ¬ (_ ∨ _) by decide) dL_law_173 ?_
  refine lv_topi (fun vv ev => ?_)
  obtain rfl : vv = xs 4 := ev
  refine lv_aload_n hx hb dL_law_174 rfl (lv_at hl 3 rfl) ?_
  refine lv_iload_n hx hb dL_law_175 rfl (lv_at hl 0 rfl) ?_
  refine lv_iconst (v := 5) hx hb dL_law_176 (by decide) ?_
  refine lv_iadd hx hb dL_law_177 ?_
  refine lv_topi (fun vv ev => ?_)
  obtain rfl : vv = 5 := ev.trans (by decide)
  refine va_sld hx hb hX hbl hbA hS (show ¬ (_ ∨ _) by decide) dL_law_178 ?_
  refine lv_topi (fun vv ev => ?_)
  obtain rfl : vv = xs 5 := ev
  have hPc := hP.sub (ws' := [(y_m0, .inr (8, [.ref y_r0, .ref y_r1, .int 0, .int 0, .int 0, .int (-1), .int 0, .int 0, .int 0, .int 0, .long 0, .ref y_r11, .ref y_r12, .ref y_r13, .ref y_r14, .ref y_r15, .ref y_r16, .ref y_r17, .ref y_r18, .ref y_r19, .ref y_r20, .ref y_r21, .ref y_r22, .ref y_r23, .ref y_r24, .int 0, .int 0, .int 0, .int 0, .int 0, .int 0, .int 0, .int 0, .int 0, .ref y_r34, .ref y_r35, .ref y_r36, .int 0, .int 0, .ref y_r39])), (y_r0, .inl (cB, 1020, .inl y_f))]) [0, 1] rfl
  have hDc := hD.sub (ws' := [(y_m0, .inr (8, [.ref y_r0, .ref y_r1, .int 0, .int 0, .int 0, .int (-1), .int 0, .int 0, .int 0, .int 0, .long 0, .ref y_r11, .ref y_r12, .ref y_r13, .ref y_r14, .ref y_r15, .ref y_r16, .ref y_r17, .ref y_r18, .ref y_r19, .ref y_r20, .ref y_r21, .ref y_r22, .ref y_r23, .ref y_r24, .int 0, .int 0, .int 0, .int 0, .int 0, .int 0, .int 0, .int 0, .int 0, .ref y_r34, .ref y_r35, .ref y_r36, .int 0, .int 0, .ref y_r39])), (y_r0, .inl (cB, 1020, .inl y_f))]) [0, 1] (by decide) rfl
  have hFc := va_free (wc := [(y_m0, .inr (8, [.ref y_r0, .ref y_r1, .int 0, .int 0, .int 0, .int (-1), .int 0, .int 0, .int 0, .int 0, .long 0, .ref y_r11, .ref y_r12, .ref y_r13, .ref y_r14, .ref y_r15, .ref y_r16, .ref y_r17, .ref y_r18, .ref y_r19, .ref y_r20, .ref y_r21, .ref y_r22, .ref y_r23, .ref y_r24, .int 0, .int 0, .int 0, .int 0, .int 0, .int 0, .int 0, .int 0, .int 0, .ref y_r34, .ref y_r35, .ref y_r36, .int 0, .int 0, .ref y_r39])), (y_r0, .inl (cB, 1020, .inl y_f))]) hD hS hA [0, 1] rfl
  refine va_calli (va_runV (As := [.int (xs 1), .int (xs 2), .int (xs 3), .int (xs 4), .int (xs 5)]) (rest := [.int 20]) ⟨hx, hb, hml, hown, hts⟩ (k_mfeed l D cI cB cP H.size y_m0 y_r0 y_r1 y_r11 y_r12 y_r13 y_r14 y_r15 y_r16 y_r17 y_r18 y_r19 y_r20 y_r21 y_r22 y_r23 y_r24 y_r34 y_r35 y_r36 y_r39 y_f (xs 1) (xs 2) (xs 3) (xs 4) (xs 5)) (cwV 5 hts gw_law_1 rfl rfl rfl (by decide +kernel) ⟨Nat.le_of_ble_eq_true rfl, Nat.le_of_ble_eq_true rfl⟩) ⟨ny_blind, va_recv hK hPc (ci := 8) (q0 := 0) rfl rfl, ny_pre hPc hK hN hDc⟩ rfl rfl hl.1 rfl (lv_room (Nat.le_of_ble_eq_true rfl)) dL_law_179 ⟨Nat.le_of_ble_eq_true rfl, Nat.le_of_ble_eq_true rfl⟩) hS (fun q _ h => hFc q h) hFc (fun r2 u t H locs ht hvm hw hB hz1 hk1 hS => ?_)
  obtain ⟨hP, hD⟩ := va_join (wr := []) (w1 := []) hP hD [0, 1] [] rfl rfl (by decide) (by decide) hk1 hFc ny_P0 ny_D0
  have hP : va_P D vwCl [] H := hP
  have hD : va_D (fun q : Nat => s.heap.size ≤ q) [] := hD
  subst hw
  refine lv_icmp_eq (tgt := 791) hx hb dL_law_182 (by decide) (fun c3 => ?_) (fun h9 => (by first | exact absurd h9 (by decide) | exact absurd (by decide) h9))
  exact law_end l C0 (by decide) (by decide) hS (lv_sub hl [0, 3] rfl)

set_option maxHeartbeats 4000000 in
set_option maxRecDepth 100000 in
/-- the call end, and the end -/
theorem law_1 {p : Program} {e : Env} {s : State} {m : MethodId} {below : List Frame} {meth : Method} {c : Code} (l : Launch) {b : Nat} {xs : Nat → Int32} (C0 : lw_At p s m meth c b 6 xs) (D : va_G) (cI cB cP : ClassId) (x_h0 : Nat) (x_tp : Nat) (x_rd : Nat) (x_bk : Nat) (x_fl : Nat) (x_pl : Nat) (x_yb : Nat) (y_m0 : Nat) (y_r0 : Nat) (y_r1 : Nat) (y_r11 : Nat) (y_r12 : Nat) (y_r13 : Nat) (y_r14 : Nat) (y_r15 : Nat) (y_r16 : Nat) (y_r17 : Nat) (y_r18 : Nat) (y_r19 : Nat) (y_r20 : Nat) (y_r21 : Nat) (y_r22 : Nat) (y_r23 : Nat) (y_r24 : Nat) (y_r34 : Nat) (y_r35 : Nat) (y_r36 : Nat) (y_r39 : Nat) {H : Heap} {locs : List Loc} {ls : Array Slot} (hK : va_K D vwCl (TY cI cB cP) s) (hN : nw s) (hP : va_P D vwCl [(x_h0, .inr (7, [.ref x_tp, .ref x_rd, .ref x_bk, .ref x_fl, .ref x_pl])), (x_tp, .inr (5, [.ref x_yb, .int 0])), (y_m0, .inr (8, [.ref y_r0, .ref y_r1, .int 0, .int 0, .int 0, .int (-1), .int 0, .int 0, .int 0, .int 0, .long 0, .ref y_r11, .ref y_r12, .ref y_r13, .ref y_r14, .ref y_r15, .ref y_r16, .ref y_r17, .ref y_r18, .ref y_r19, .ref y_r20, .ref y_r21, .ref y_r22, .ref y_r23, .ref y_r24, .int 0, .int 0, .int 0, .int 0, .int 0, .int 0, .int 0, .int 0, .int 0, .ref y_r34, .ref y_r35, .ref y_r36, .int 0, .int 0, .ref y_r39]))] H) (hD : va_D (fun q : Nat => s.heap.size ≤ q) [(x_h0, .inr (7, [.ref x_tp, .ref x_rd, .ref x_bk, .ref x_fl, .ref x_pl])), (x_tp, .inr (5, [.ref x_yb, .int 0])), (y_m0, .inr (8, [.ref y_r0, .ref y_r1, .int 0, .int 0, .int 0, .int (-1), .int 0, .int 0, .int 0, .int 0, .long 0, .ref y_r11, .ref y_r12, .ref y_r13, .ref y_r14, .ref y_r15, .ref y_r16, .ref y_r17, .ref y_r18, .ref y_r19, .ref y_r20, .ref y_r21, .ref y_r22, .ref y_r23, .ref y_r24, .int 0, .int 0, .int 0, .int 0, .int 0, .int 0, .int 0, .int 0, .int 0, .ref y_r34, .ref y_r35, .ref y_r36, .int 0, .int 0, .ref y_r39]))]) (hS : va_S (fun q : Nat => s.heap.size ≤ q) s.heap H locs) (hl : lv_has ls 4 [(3, .int 0), (2, .ref y_m0), (1, .ref x_h0), (0, .ref b)]) : W p l e room_1 s m #[Value.ref b] below meth c H locs 86 7510 (lw_Z below #[Value.ref b] s) (F0 m 187 ls []) := by
  obtain ⟨hx, hb, hr, hml, hown, hts, hX, hbl, hlocks, hgv⟩ := id C0
  have hown : s.vm.findClass RL = some m.cls := hown
  have hA : ∀ q : Nat, s.heap.size ≤ q → (fun q : Nat => s.heap.size ≤ q) q := fun _ h => h
  have hbA : ¬ (fun q : Nat => s.heap.size ≤ q) b := Nat.not_le.mpr hbl
  refine lv_aload_n hx hb dL_law_187 rfl (lv_at hl 2 rfl) ?_
  refine lv_aload_n hx hb dL_law_188 rfl (lv_at hl 3 rfl) ?_
  refine lv_iload_n hx hb dL_law_189 rfl (lv_at hl 0 rfl) ?_
  refine lv_iconst (v := 1) hx hb dL_law_190 (by decide) ?_
  refine lv_iadd hx hb dL_law_191 ?_
  refine lv_topi (fun vv ev => ?_)
  obtain rfl : vv = 1 := ev.trans (by decide)
  refine va_sld hx hb hX hbl hbA hS (show ¬ (_ ∨ _) by decide) dL_law_192 ?_
  refine lv_topi (fun vv ev => ?_)
  obtain rfl : vv = xs 1 := ev
  have hPc := hP.sub (ws' := [(x_h0, .inr (7, [.ref x_tp, .ref x_rd, .ref x_bk, .ref x_fl, .ref x_pl])), (x_tp, .inr (5, [.ref x_yb, .int 0]))]) [0, 1] rfl
  have hDc := hD.sub (ws' := [(x_h0, .inr (7, [.ref x_tp, .ref x_rd, .ref x_bk, .ref x_fl, .ref x_pl])), (x_tp, .inr (5, [.ref x_yb, .int 0]))]) [0, 1] (by decide) rfl
  have hFc := va_free (wc := [(x_h0, .inr (7, [.ref x_tp, .ref x_rd, .ref x_bk, .ref x_fl, .ref x_pl])), (x_tp, .inr (5, [.ref x_yb, .int 0]))]) hD hS hA [0, 1] rfl
  refine va_calli (va_runV (As := [.int (xs 1)]) (rest := []) ⟨hx, hb, hml, hown, hts⟩ (k_end l D cI cB cP H.size x_h0 x_tp x_rd x_bk x_fl x_pl x_yb (xs 1)) (cwV 1 hts gw_law_2 rfl rfl rfl (by decide +kernel) ⟨Nat.le_of_ble_eq_true rfl, Nat.le_of_ble_eq_true rfl⟩) ⟨ny_blind, va_recv hK hPc (ci := 7) (q0 := 0) rfl rfl, ny_pre hPc hK hN hDc⟩ rfl rfl hl.1 rfl (lv_room (Nat.le_of_ble_eq_true rfl)) dL_law_193 ⟨Nat.le_of_ble_eq_true rfl, Nat.le_of_ble_eq_true rfl⟩) hS (fun q _ h => hFc q h) hFc (fun r1 u t H locs ht hvm hw hB hz1 hk1 hS => ?_)
  obtain ⟨hP, hD⟩ := va_join (wr := [(y_m0, .inr (8, [.ref y_r0, .ref y_r1, .int 0, .int 0, .int 0, .int (-1), .int 0, .int 0, .int 0, .int 0, .long 0, .ref y_r11, .ref y_r12, .ref y_r13, .ref y_r14, .ref y_r15, .ref y_r16, .ref y_r17, .ref y_r18, .ref y_r19, .ref y_r20, .ref y_r21, .ref y_r22, .ref y_r23, .ref y_r24, .int 0, .int 0, .int 0, .int 0, .int 0, .int 0, .int 0, .int 0, .int 0, .ref y_r34, .ref y_r35, .ref y_r36, .int 0, .int 0, .ref y_r39]))]) (w1 := []) hP hD [0, 1] [2] rfl rfl (by decide) (by decide) hk1 hFc ny_P0 ny_D0
  have hP : va_P D vwCl [(y_m0, .inr (8, [.ref y_r0, .ref y_r1, .int 0, .int 0, .int 0, .int (-1), .int 0, .int 0, .int 0, .int 0, .long 0, .ref y_r11, .ref y_r12, .ref y_r13, .ref y_r14, .ref y_r15, .ref y_r16, .ref y_r17, .ref y_r18, .ref y_r19, .ref y_r20, .ref y_r21, .ref y_r22, .ref y_r23, .ref y_r24, .int 0, .int 0, .int 0, .int 0, .int 0, .int 0, .int 0, .int 0, .int 0, .ref y_r34, .ref y_r35, .ref y_r36, .int 0, .int 0, .ref y_r39]))] H := hP
  have hD : va_D (fun q : Nat => s.heap.size ≤ q) [(y_m0, .inr (8, [.ref y_r0, .ref y_r1, .int 0, .int 0, .int 0, .int (-1), .int 0, .int 0, .int 0, .int 0, .long 0, .ref y_r11, .ref y_r12, .ref y_r13, .ref y_r14, .ref y_r15, .ref y_r16, .ref y_r17, .ref y_r18, .ref y_r19, .ref y_r20, .ref y_r21, .ref y_r22, .ref y_r23, .ref y_r24, .int 0, .int 0, .int 0, .int 0, .int 0, .int 0, .int 0, .int 0, .int 0, .ref y_r34, .ref y_r35, .ref y_r36, .int 0, .int 0, .ref y_r39]))] := hD
  have hr1 := hw
  refine lv_aload_n hx hb dL_law_196 rfl (lv_at hl 1 rfl) ?_
  refine lv_aload_n hx hb dL_law_197 rfl (lv_at hl 3 rfl) ?_
  refine lv_iload_n hx hb dL_law_198 rfl (lv_at hl 0 rfl) ?_
  refine lv_iconst (v := 1) hx hb dL_law_199 (by decide) ?_
  refine lv_iadd hx hb dL_law_200 ?_
  refine lv_topi (fun vv ev => ?_)
  obtain rfl : vv = 1 := ev.trans (by decide)
  refine va_sld hx hb hX hbl hbA hS (show ¬ (_ ∨ _) by decide) dL_law_201 ?_
  refine lv_topi (fun vv ev => ?_)
  obtain rfl : vv = xs 1 := ev
  have hPc := hP.sub (ws' := [(y_m0, .inr (8, [.ref y_r0, .ref y_r1, .int 0, .int 0, .int 0, .int (-1), .int 0, .int 0, .int 0, .int 0, .long 0, .ref y_r11, .ref y_r12, .ref y_r13, .ref y_r14, .ref y_r15, .ref y_r16, .ref y_r17, .ref y_r18, .ref y_r19, .ref y_r20, .ref y_r21, .ref y_r22, .ref y_r23, .ref y_r24, .int 0, .int 0, .int 0, .int 0, .int 0, .int 0, .int 0, .int 0, .int 0, .ref y_r34, .ref y_r35, .ref y_r36, .int 0, .int 0, .ref y_r39]))]) [0] rfl
  have hDc := hD.sub (ws' := [(y_m0, .inr (8, [.ref y_r0, .ref y_r1, .int 0, .int 0, .int 0, .int (-1), .int 0, .int 0, .int 0, .int 0, .long 0, .ref y_r11, .ref y_r12, .ref y_r13, .ref y_r14, .ref y_r15, .ref y_r16, .ref y_r17, .ref y_r18, .ref y_r19, .ref y_r20, .ref y_r21, .ref y_r22, .ref y_r23, .ref y_r24, .int 0, .int 0, .int 0, .int 0, .int 0, .int 0, .int 0, .int 0, .int 0, .ref y_r34, .ref y_r35, .ref y_r36, .int 0, .int 0, .ref y_r39]))]) [0] (by decide) rfl
  have hFc := va_free (wc := [(y_m0, .inr (8, [.ref y_r0, .ref y_r1, .int 0, .int 0, .int 0, .int (-1), .int 0, .int 0, .int 0, .int 0, .long 0, .ref y_r11, .ref y_r12, .ref y_r13, .ref y_r14, .ref y_r15, .ref y_r16, .ref y_r17, .ref y_r18, .ref y_r19, .ref y_r20, .ref y_r21, .ref y_r22, .ref y_r23, .ref y_r24, .int 0, .int 0, .int 0, .int 0, .int 0, .int 0, .int 0, .int 0, .int 0, .ref y_r34, .ref y_r35, .ref y_r36, .int 0, .int 0, .ref y_r39]))]) hD hS hA [0] rfl
  refine va_calli (va_runV (As := [.int (xs 1)]) (rest := [.int r1]) ⟨hx, hb, hml, hown, hts⟩ (k_mend l D cI cB cP H.size y_m0 y_r0 y_r1 y_r11 y_r12 y_r13 y_r14 y_r15 y_r16 y_r17 y_r18 y_r19 y_r20 y_r21 y_r22 y_r23 y_r24 y_r34 y_r35 y_r36 y_r39 (xs 1)) (cwV 1 hts gw_law_3 rfl rfl rfl (by decide +kernel) ⟨Nat.le_of_ble_eq_true rfl, Nat.le_of_ble_eq_true rfl⟩) ⟨ny_blind, va_recv hK hPc (ci := 8) (q0 := 0) rfl rfl, ny_pre hPc hK hN hDc⟩ rfl rfl hl.1 rfl (lv_room (Nat.le_of_ble_eq_true rfl)) dL_law_202 ⟨Nat.le_of_ble_eq_true rfl, Nat.le_of_ble_eq_true rfl⟩) hS (fun q _ h => hFc q h) hFc (fun r2 u t H locs ht hvm hw hB hz1 hk1 hS => ?_)
  obtain ⟨hP, hD⟩ := va_join (wr := []) (w1 := []) hP hD [0] [] rfl rfl (by decide) (by decide) hk1 hFc ny_P0 ny_D0
  have hP : va_P D vwCl [] H := hP
  have hD : va_D (fun q : Nat => s.heap.size ≤ q) [] := hD
  have hr2 := hw
  refine lv_icmp_eq (tgt := 791) hx hb dL_law_205 (by decide) (fun c3 => ?_) (fun h9 => absurd (hr1.trans hr2.symm) h9)
  exact law_end l C0 (by decide) (by decide) hS (lv_sub hl [0, 3] rfl)

set_option maxHeartbeats 4000000 in
set_option maxRecDepth 100000 in
/-- the call book, and the end -/
theorem law_2 {p : Program} {e : Env} {s : State} {m : MethodId} {below : List Frame} {meth : Method} {c : Code} (l : Launch) {b : Nat} {xs : Nat → Int32} (C0 : lw_At p s m meth c b 6 xs) (D : va_G) (cI cB cP : ClassId) (x_h0 : Nat) (x_tp : Nat) (x_rd : Nat) (x_bk : Nat) (x_fl : Nat) (x_pl : Nat) (x_yb : Nat) (x_sc : Nat) (x_dr : Nat) (x_s2 : Nat) (x_s3 : Nat) (x_s4 : Nat) (x_gs2 : Nat → Int32) (x_gs3 : Nat → Int32) (x_gs4 : Nat → Int32) (x_b2 : Nat) (x_b3 : Nat) (x_b4 : Nat) (x_b5 : Nat) (x_b6 : Nat) (x_b7 : Nat) (x_b8 : Nat) (x_b9 : Nat) (x_b10 : Nat) (x_b11 : Nat) (x_b12 : Nat) (x_b13 : Nat) (x_b14 : Nat) (x_d2 : Nat → Int32) (x_d3 : Nat → Int32) (x_d4 : Nat → Int32) (x_d5 : Nat → Int32) (x_d6 : Nat → Int32) (x_d7 : Nat → Int32) (x_d8 : Nat → Int32) (x_d9 : Nat → Int32) (x_d10 : Nat → Int32) (x_d11 : Nat → Int32) (x_d12 : Nat → Int32) (x_d13 : Nat → Int32) (x_d14 : Nat → Int32) (x_a2 : Nat) (x_a3 : Nat) (x_a4 : Nat) (x_a5 : Nat) (x_a6 : Nat) (x_a7 : Nat) (x_a8 : Nat) (x_a9 : Nat) (x_a10 : Nat) (x_a11 : Nat) (x_a12 : Nat) (x_a13 : Nat) (x_a14 : Nat) (x_g2 : Nat → Int32) (x_g3 : Nat → Int32) (x_g4 : Nat → Int32) (x_g5 : Nat → Int32) (x_g6 : Nat → Int32) (x_g7 : Nat → Int32) (x_g8 : Nat → Int32) (x_g9 : Nat → Int32) (x_g10 : Nat → Int32) (x_g11 : Nat → Int32) (x_g12 : Nat → Int32) (x_g13 : Nat → Int32) (x_g14 : Nat → Int32) (x_fp : Nat → Option Nat) (x_p0 : Nat) (x_p1 : Nat) (x_p2 : Nat) (x_x0a : Nat) (x_x0b : Nat) (x_x0c : Nat) (x_x0d : Nat) (x_x0e : Nat) (x_x1a : Nat) (x_x1b : Nat) (x_x1c : Nat) (x_x1d : Nat) (x_x1e : Nat) (x_x2a : Nat) (x_x2b : Nat) (x_x2c : Nat) (x_x2d : Nat) (x_x2e : Nat) (y_m0 : Nat) (y_r0 : Nat) (y_r1 : Nat) (y_r11 : Nat) (y_r12 : Nat) (y_r13 : Nat) (y_r14 : Nat) (y_r15 : Nat) (y_r16 : Nat) (y_r17 : Nat) (y_r18 : Nat) (y_r19 : Nat) (y_r20 : Nat) (y_r21 : Nat) (y_r22 : Nat) (y_r23 : Nat) (y_r24 : Nat) (y_r34 : Nat) (y_r35 : Nat) (y_r36 : Nat) (y_r39 : Nat) (y_g11 : Nat → Int32) (y_g12 : Nat → Int32) (y_g20 : Nat → Int32) (y_g21 : Nat → Int32) (y_g22 : Nat → Int32) (y_g23 : Nat → Int32) (y_g24 : Nat → Int32) (x_hf : x_fp 0 = some x_p0 ∧ x_fp 1 = some x_p1 ∧ x_fp 2 = some x_p2) {H : Heap} {locs : List Loc} {ls : Array Slot} (hK : va_K D vwCl (TY cI cB cP) s) (hN : nw s) (hP : va_P D vwCl [(x_h0, .inr (7, [.ref x_tp, .ref x_rd, .ref x_bk, .ref x_fl, .ref x_pl])), (x_tp, .inr (5, [.ref x_yb, .int 0])), (x_rd, .inr (3, [.ref x_sc, .ref x_dr, .int 0, .int (-1), .int 0])), (x_sc, .inr (4, [.ref x_tp, .int 0, .ref x_s2, .ref x_s3, .ref x_s4, .int 0])), (x_s2, .inl (cI, 12, .inl x_gs2)), (x_s3, .inl (cI, 12, .inl x_gs3)), (x_s4, .inl (cI, 12, .inl x_gs4)), (x_dr, .inr (0, [.int 0, .int 0, .ref x_b2, .ref x_b3, .ref x_b4, .ref x_b5, .ref x_b6, .ref x_b7, .ref x_b8, .ref x_b9, .ref x_b10, .ref x_b11, .ref x_b12, .ref x_b13, .ref x_b14])), (x_b2, .inl (cI, 16, .inl x_d2)), (x_b3, .inl (cI, 16, .inl x_d3)), (x_b4, .inl (cI, 16, .inl x_d4)), (x_b5, .inl (cI, 16, .inl x_d5)), (x_b6, .inl (cI, 16, .inl x_d6)), (x_b7, .inl (cI, 16, .inl x_d7)), (x_b8, .inl (cI, 16, .inl x_d8)), (x_b9, .inl (cI, 6, .inl x_d9)), (x_b10, .inl (cI, 288, .inl x_d10)), (x_b11, .inl (cI, 30, .inl x_d11)), (x_b12, .inl (cI, 6, .inl x_d12)), (x_b13, .inl (cI, 4, .inl x_d13)), (x_b14, .inl (cI, 7, .inl x_d14)), (x_bk, .inr (0, [.int 0, .int 0, .ref x_a2, .ref x_a3, .ref x_a4, .ref x_a5, .ref x_a6, .ref x_a7, .ref x_a8, .ref x_a9, .ref x_a10, .ref x_a11, .ref x_a12, .ref x_a13, .ref x_a14])), (x_a2, .inl (cI, 16, .inl x_g2)), (x_a3, .inl (cI, 16, .inl x_g3)), (x_a4, .inl (cI, 16, .inl x_g4)), (x_a5, .inl (cI, 16, .inl x_g5)), (x_a6, .inl (cI, 16, .inl x_g6)), (x_a7, .inl (cI, 16, .inl x_g7)), (x_a8, .inl (cI, 16, .inl x_g8)), (x_a9, .inl (cI, 6, .inl x_g9)), (x_a10, .inl (cI, 288, .inl x_g10)), (x_a11, .inl (cI, 30, .inl x_g11)), (x_a12, .inl (cI, 6, .inl x_g12)), (x_a13, .inl (cI, 4, .inl x_g13)), (x_a14, .inl (cI, 7, .inl x_g14)), (x_fl, .inr (1, [.ref x_bk, .int 0, .int 0, .int 0, .int 0, .int 0, .int 0])), (x_pl, .inl (cP, 3, .inr (.inr (.inr (.inr x_fp))))), (x_p0, .inr (2, [.ref x_bk, .ref x_fl, .int 0, .ref x_x0a, .int 0, .int 0, .int 0, .int 0, .int 0, .ref x_x0b, .ref x_x0c, .ref x_x0d, .ref x_x0e])), (x_p1, .inr (2, [.ref x_bk, .ref x_fl, .int 1, .ref x_x1a, .int 0, .int 0, .int 0, .int 0, .int 0, .ref x_x1b, .ref x_x1c, .ref x_x1d, .ref x_x1e])), (x_p2, .inr (2, [.ref x_bk, .ref x_fl, .int 2, .ref x_x2a, .int 0, .int 0, .int 0, .int 0, .int 0, .ref x_x2b, .ref x_x2c, .ref x_x2d, .ref x_x2e])), (y_m0, .inr (8, [.ref y_r0, .ref y_r1, .int 0, .int 0, .int 0, .int (-1), .int 0, .int 0, .int 0, .int 0, .long 0, .ref y_r11, .ref y_r12, .ref y_r13, .ref y_r14, .ref y_r15, .ref y_r16, .ref y_r17, .ref y_r18, .ref y_r19, .ref y_r20, .ref y_r21, .ref y_r22, .ref y_r23, .ref y_r24, .int 0, .int 0, .int 0, .int 0, .int 0, .int 0, .int 0, .int 0, .int 0, .ref y_r34, .ref y_r35, .ref y_r36, .int 0, .int 0, .ref y_r39])), (y_r11, .inl (cI, 2, .inl y_g11)), (y_r12, .inl (cI, 2, .inl y_g12)), (y_r20, .inl (cI, 12, .inl y_g20)), (y_r21, .inl (cI, 576, .inl y_g21)), (y_r22, .inl (cI, 60, .inl y_g22)), (y_r23, .inl (cI, 12, .inl y_g23)), (y_r24, .inl (cI, 8, .inl y_g24))] H) (hD : va_D (fun q : Nat => s.heap.size ≤ q) [(x_h0, .inr (7, [.ref x_tp, .ref x_rd, .ref x_bk, .ref x_fl, .ref x_pl])), (x_tp, .inr (5, [.ref x_yb, .int 0])), (x_rd, .inr (3, [.ref x_sc, .ref x_dr, .int 0, .int (-1), .int 0])), (x_sc, .inr (4, [.ref x_tp, .int 0, .ref x_s2, .ref x_s3, .ref x_s4, .int 0])), (x_s2, .inl (cI, 12, .inl x_gs2)), (x_s3, .inl (cI, 12, .inl x_gs3)), (x_s4, .inl (cI, 12, .inl x_gs4)), (x_dr, .inr (0, [.int 0, .int 0, .ref x_b2, .ref x_b3, .ref x_b4, .ref x_b5, .ref x_b6, .ref x_b7, .ref x_b8, .ref x_b9, .ref x_b10, .ref x_b11, .ref x_b12, .ref x_b13, .ref x_b14])), (x_b2, .inl (cI, 16, .inl x_d2)), (x_b3, .inl (cI, 16, .inl x_d3)), (x_b4, .inl (cI, 16, .inl x_d4)), (x_b5, .inl (cI, 16, .inl x_d5)), (x_b6, .inl (cI, 16, .inl x_d6)), (x_b7, .inl (cI, 16, .inl x_d7)), (x_b8, .inl (cI, 16, .inl x_d8)), (x_b9, .inl (cI, 6, .inl x_d9)), (x_b10, .inl (cI, 288, .inl x_d10)), (x_b11, .inl (cI, 30, .inl x_d11)), (x_b12, .inl (cI, 6, .inl x_d12)), (x_b13, .inl (cI, 4, .inl x_d13)), (x_b14, .inl (cI, 7, .inl x_d14)), (x_bk, .inr (0, [.int 0, .int 0, .ref x_a2, .ref x_a3, .ref x_a4, .ref x_a5, .ref x_a6, .ref x_a7, .ref x_a8, .ref x_a9, .ref x_a10, .ref x_a11, .ref x_a12, .ref x_a13, .ref x_a14])), (x_a2, .inl (cI, 16, .inl x_g2)), (x_a3, .inl (cI, 16, .inl x_g3)), (x_a4, .inl (cI, 16, .inl x_g4)), (x_a5, .inl (cI, 16, .inl x_g5)), (x_a6, .inl (cI, 16, .inl x_g6)), (x_a7, .inl (cI, 16, .inl x_g7)), (x_a8, .inl (cI, 16, .inl x_g8)), (x_a9, .inl (cI, 6, .inl x_g9)), (x_a10, .inl (cI, 288, .inl x_g10)), (x_a11, .inl (cI, 30, .inl x_g11)), (x_a12, .inl (cI, 6, .inl x_g12)), (x_a13, .inl (cI, 4, .inl x_g13)), (x_a14, .inl (cI, 7, .inl x_g14)), (x_fl, .inr (1, [.ref x_bk, .int 0, .int 0, .int 0, .int 0, .int 0, .int 0])), (x_pl, .inl (cP, 3, .inr (.inr (.inr (.inr x_fp))))), (x_p0, .inr (2, [.ref x_bk, .ref x_fl, .int 0, .ref x_x0a, .int 0, .int 0, .int 0, .int 0, .int 0, .ref x_x0b, .ref x_x0c, .ref x_x0d, .ref x_x0e])), (x_p1, .inr (2, [.ref x_bk, .ref x_fl, .int 1, .ref x_x1a, .int 0, .int 0, .int 0, .int 0, .int 0, .ref x_x1b, .ref x_x1c, .ref x_x1d, .ref x_x1e])), (x_p2, .inr (2, [.ref x_bk, .ref x_fl, .int 2, .ref x_x2a, .int 0, .int 0, .int 0, .int 0, .int 0, .ref x_x2b, .ref x_x2c, .ref x_x2d, .ref x_x2e])), (y_m0, .inr (8, [.ref y_r0, .ref y_r1, .int 0, .int 0, .int 0, .int (-1), .int 0, .int 0, .int 0, .int 0, .long 0, .ref y_r11, .ref y_r12, .ref y_r13, .ref y_r14, .ref y_r15, .ref y_r16, .ref y_r17, .ref y_r18, .ref y_r19, .ref y_r20, .ref y_r21, .ref y_r22, .ref y_r23, .ref y_r24, .int 0, .int 0, .int 0, .int 0, .int 0, .int 0, .int 0, .int 0, .int 0, .ref y_r34, .ref y_r35, .ref y_r36, .int 0, .int 0, .ref y_r39])), (y_r11, .inl (cI, 2, .inl y_g11)), (y_r12, .inl (cI, 2, .inl y_g12)), (y_r20, .inl (cI, 12, .inl y_g20)), (y_r21, .inl (cI, 576, .inl y_g21)), (y_r22, .inl (cI, 60, .inl y_g22)), (y_r23, .inl (cI, 12, .inl y_g23)), (y_r24, .inl (cI, 8, .inl y_g24))]) (hS : va_S (fun q : Nat => s.heap.size ≤ q) s.heap H locs) (hl : lv_has ls 4 [(3, .int 0), (2, .ref y_m0), (1, .ref x_h0), (0, .ref b)]) : W p l e room_1 s m #[Value.ref b] below meth c H locs 86 7510 (lw_Z below #[Value.ref b] s) (F0 m 210 ls []) := by
  obtain ⟨hx, hb, hr, hml, hown, hts, hX, hbl, hlocks, hgv⟩ := id C0
  have hown : s.vm.findClass RL = some m.cls := hown
  have hA : ∀ q : Nat, s.heap.size ≤ q → (fun q : Nat => s.heap.size ≤ q) q := fun _ h => h
  have hbA : ¬ (fun q : Nat => s.heap.size ≤ q) b := Nat.not_le.mpr hbl
  refine lv_aload_n hx hb dL_law_210 rfl (lv_at hl 2 rfl) ?_
  have hPc := hP.sub (ws' := [(x_h0, .inr (7, [.ref x_tp, .ref x_rd, .ref x_bk, .ref x_fl, .ref x_pl])), (x_tp, .inr (5, [.ref x_yb, .int 0])), (x_rd, .inr (3, [.ref x_sc, .ref x_dr, .int 0, .int (-1), .int 0])), (x_sc, .inr (4, [.ref x_tp, .int 0, .ref x_s2, .ref x_s3, .ref x_s4, .int 0])), (x_s2, .inl (cI, 12, .inl x_gs2)), (x_s3, .inl (cI, 12, .inl x_gs3)), (x_s4, .inl (cI, 12, .inl x_gs4)), (x_dr, .inr (0, [.int 0, .int 0, .ref x_b2, .ref x_b3, .ref x_b4, .ref x_b5, .ref x_b6, .ref x_b7, .ref x_b8, .ref x_b9, .ref x_b10, .ref x_b11, .ref x_b12, .ref x_b13, .ref x_b14])), (x_b2, .inl (cI, 16, .inl x_d2)), (x_b3, .inl (cI, 16, .inl x_d3)), (x_b4, .inl (cI, 16, .inl x_d4)), (x_b5, .inl (cI, 16, .inl x_d5)), (x_b6, .inl (cI, 16, .inl x_d6)), (x_b7, .inl (cI, 16, .inl x_d7)), (x_b8, .inl (cI, 16, .inl x_d8)), (x_b9, .inl (cI, 6, .inl x_d9)), (x_b10, .inl (cI, 288, .inl x_d10)), (x_b11, .inl (cI, 30, .inl x_d11)), (x_b12, .inl (cI, 6, .inl x_d12)), (x_b13, .inl (cI, 4, .inl x_d13)), (x_b14, .inl (cI, 7, .inl x_d14)), (x_bk, .inr (0, [.int 0, .int 0, .ref x_a2, .ref x_a3, .ref x_a4, .ref x_a5, .ref x_a6, .ref x_a7, .ref x_a8, .ref x_a9, .ref x_a10, .ref x_a11, .ref x_a12, .ref x_a13, .ref x_a14])), (x_a2, .inl (cI, 16, .inl x_g2)), (x_a3, .inl (cI, 16, .inl x_g3)), (x_a4, .inl (cI, 16, .inl x_g4)), (x_a5, .inl (cI, 16, .inl x_g5)), (x_a6, .inl (cI, 16, .inl x_g6)), (x_a7, .inl (cI, 16, .inl x_g7)), (x_a8, .inl (cI, 16, .inl x_g8)), (x_a9, .inl (cI, 6, .inl x_g9)), (x_a10, .inl (cI, 288, .inl x_g10)), (x_a11, .inl (cI, 30, .inl x_g11)), (x_a12, .inl (cI, 6, .inl x_g12)), (x_a13, .inl (cI, 4, .inl x_g13)), (x_a14, .inl (cI, 7, .inl x_g14)), (x_fl, .inr (1, [.ref x_bk, .int 0, .int 0, .int 0, .int 0, .int 0, .int 0])), (x_pl, .inl (cP, 3, .inr (.inr (.inr (.inr x_fp))))), (x_p0, .inr (2, [.ref x_bk, .ref x_fl, .int 0, .ref x_x0a, .int 0, .int 0, .int 0, .int 0, .int 0, .ref x_x0b, .ref x_x0c, .ref x_x0d, .ref x_x0e])), (x_p1, .inr (2, [.ref x_bk, .ref x_fl, .int 1, .ref x_x1a, .int 0, .int 0, .int 0, .int 0, .int 0, .ref x_x1b, .ref x_x1c, .ref x_x1d, .ref x_x1e])), (x_p2, .inr (2, [.ref x_bk, .ref x_fl, .int 2, .ref x_x2a, .int 0, .int 0, .int 0, .int 0, .int 0, .ref x_x2b, .ref x_x2c, .ref x_x2d, .ref x_x2e]))]) [0, 1, 2, 3, 4, 5, 6, 7, 8, 9, 10, 11, 12, 13, 14, 15, 16, 17, 18, 19, 20, 21, 22, 23, 24, 25, 26, 27, 28, 29, 30, 31, 32, 33, 34, 35, 36, 37, 38, 39] rfl
  have hDc := hD.sub (ws' := [(x_h0, .inr (7, [.ref x_tp, .ref x_rd, .ref x_bk, .ref x_fl, .ref x_pl])), (x_tp, .inr (5, [.ref x_yb, .int 0])), (x_rd, .inr (3, [.ref x_sc, .ref x_dr, .int 0, .int (-1), .int 0])), (x_sc, .inr (4, [.ref x_tp, .int 0, .ref x_s2, .ref x_s3, .ref x_s4, .int 0])), (x_s2, .inl (cI, 12, .inl x_gs2)), (x_s3, .inl (cI, 12, .inl x_gs3)), (x_s4, .inl (cI, 12, .inl x_gs4)), (x_dr, .inr (0, [.int 0, .int 0, .ref x_b2, .ref x_b3, .ref x_b4, .ref x_b5, .ref x_b6, .ref x_b7, .ref x_b8, .ref x_b9, .ref x_b10, .ref x_b11, .ref x_b12, .ref x_b13, .ref x_b14])), (x_b2, .inl (cI, 16, .inl x_d2)), (x_b3, .inl (cI, 16, .inl x_d3)), (x_b4, .inl (cI, 16, .inl x_d4)), (x_b5, .inl (cI, 16, .inl x_d5)), (x_b6, .inl (cI, 16, .inl x_d6)), (x_b7, .inl (cI, 16, .inl x_d7)), (x_b8, .inl (cI, 16, .inl x_d8)), (x_b9, .inl (cI, 6, .inl x_d9)), (x_b10, .inl (cI, 288, .inl x_d10)), (x_b11, .inl (cI, 30, .inl x_d11)), (x_b12, .inl (cI, 6, .inl x_d12)), (x_b13, .inl (cI, 4, .inl x_d13)), (x_b14, .inl (cI, 7, .inl x_d14)), (x_bk, .inr (0, [.int 0, .int 0, .ref x_a2, .ref x_a3, .ref x_a4, .ref x_a5, .ref x_a6, .ref x_a7, .ref x_a8, .ref x_a9, .ref x_a10, .ref x_a11, .ref x_a12, .ref x_a13, .ref x_a14])), (x_a2, .inl (cI, 16, .inl x_g2)), (x_a3, .inl (cI, 16, .inl x_g3)), (x_a4, .inl (cI, 16, .inl x_g4)), (x_a5, .inl (cI, 16, .inl x_g5)), (x_a6, .inl (cI, 16, .inl x_g6)), (x_a7, .inl (cI, 16, .inl x_g7)), (x_a8, .inl (cI, 16, .inl x_g8)), (x_a9, .inl (cI, 6, .inl x_g9)), (x_a10, .inl (cI, 288, .inl x_g10)), (x_a11, .inl (cI, 30, .inl x_g11)), (x_a12, .inl (cI, 6, .inl x_g12)), (x_a13, .inl (cI, 4, .inl x_g13)), (x_a14, .inl (cI, 7, .inl x_g14)), (x_fl, .inr (1, [.ref x_bk, .int 0, .int 0, .int 0, .int 0, .int 0, .int 0])), (x_pl, .inl (cP, 3, .inr (.inr (.inr (.inr x_fp))))), (x_p0, .inr (2, [.ref x_bk, .ref x_fl, .int 0, .ref x_x0a, .int 0, .int 0, .int 0, .int 0, .int 0, .ref x_x0b, .ref x_x0c, .ref x_x0d, .ref x_x0e])), (x_p1, .inr (2, [.ref x_bk, .ref x_fl, .int 1, .ref x_x1a, .int 0, .int 0, .int 0, .int 0, .int 0, .ref x_x1b, .ref x_x1c, .ref x_x1d, .ref x_x1e])), (x_p2, .inr (2, [.ref x_bk, .ref x_fl, .int 2, .ref x_x2a, .int 0, .int 0, .int 0, .int 0, .int 0, .ref x_x2b, .ref x_x2c, .ref x_x2d, .ref x_x2e]))]) [0, 1, 2, 3, 4, 5, 6, 7, 8, 9, 10, 11, 12, 13, 14, 15, 16, 17, 18, 19, 20, 21, 22, 23, 24, 25, 26, 27, 28, 29, 30, 31, 32, 33, 34, 35, 36, 37, 38, 39] (by decide) rfl
  have hFc := va_free (wc := [(x_h0, .inr (7, [.ref x_tp, .ref x_rd, .ref x_bk, .ref x_fl, .ref x_pl])), (x_tp, .inr (5, [.ref x_yb, .int 0])), (x_rd, .inr (3, [.ref x_sc, .ref x_dr, .int 0, .int (-1), .int 0])), (x_sc, .inr (4, [.ref x_tp, .int 0, .ref x_s2, .ref x_s3, .ref x_s4, .int 0])), (x_s2, .inl (cI, 12, .inl x_gs2)), (x_s3, .inl (cI, 12, .inl x_gs3)), (x_s4, .inl (cI, 12, .inl x_gs4)), (x_dr, .inr (0, [.int 0, .int 0, .ref x_b2, .ref x_b3, .ref x_b4, .ref x_b5, .ref x_b6, .ref x_b7, .ref x_b8, .ref x_b9, .ref x_b10, .ref x_b11, .ref x_b12, .ref x_b13, .ref x_b14])), (x_b2, .inl (cI, 16, .inl x_d2)), (x_b3, .inl (cI, 16, .inl x_d3)), (x_b4, .inl (cI, 16, .inl x_d4)), (x_b5, .inl (cI, 16, .inl x_d5)), (x_b6, .inl (cI, 16, .inl x_d6)), (x_b7, .inl (cI, 16, .inl x_d7)), (x_b8, .inl (cI, 16, .inl x_d8)), (x_b9, .inl (cI, 6, .inl x_d9)), (x_b10, .inl (cI, 288, .inl x_d10)), (x_b11, .inl (cI, 30, .inl x_d11)), (x_b12, .inl (cI, 6, .inl x_d12)), (x_b13, .inl (cI, 4, .inl x_d13)), (x_b14, .inl (cI, 7, .inl x_d14)), (x_bk, .inr (0, [.int 0, .int 0, .ref x_a2, .ref x_a3, .ref x_a4, .ref x_a5, .ref x_a6, .ref x_a7, .ref x_a8, .ref x_a9, .ref x_a10, .ref x_a11, .ref x_a12, .ref x_a13, .ref x_a14])), (x_a2, .inl (cI, 16, .inl x_g2)), (x_a3, .inl (cI, 16, .inl x_g3)), (x_a4, .inl (cI, 16, .inl x_g4)), (x_a5, .inl (cI, 16, .inl x_g5)), (x_a6, .inl (cI, 16, .inl x_g6)), (x_a7, .inl (cI, 16, .inl x_g7)), (x_a8, .inl (cI, 16, .inl x_g8)), (x_a9, .inl (cI, 6, .inl x_g9)), (x_a10, .inl (cI, 288, .inl x_g10)), (x_a11, .inl (cI, 30, .inl x_g11)), (x_a12, .inl (cI, 6, .inl x_g12)), (x_a13, .inl (cI, 4, .inl x_g13)), (x_a14, .inl (cI, 7, .inl x_g14)), (x_fl, .inr (1, [.ref x_bk, .int 0, .int 0, .int 0, .int 0, .int 0, .int 0])), (x_pl, .inl (cP, 3, .inr (.inr (.inr (.inr x_fp))))), (x_p0, .inr (2, [.ref x_bk, .ref x_fl, .int 0, .ref x_x0a, .int 0, .int 0, .int 0, .int 0, .int 0, .ref x_x0b, .ref x_x0c, .ref x_x0d, .ref x_x0e])), (x_p1, .inr (2, [.ref x_bk, .ref x_fl, .int 1, .ref x_x1a, .int 0, .int 0, .int 0, .int 0, .int 0, .ref x_x1b, .ref x_x1c, .ref x_x1d, .ref x_x1e])), (x_p2, .inr (2, [.ref x_bk, .ref x_fl, .int 2, .ref x_x2a, .int 0, .int 0, .int 0, .int 0, .int 0, .ref x_x2b, .ref x_x2c, .ref x_x2d, .ref x_x2e]))]) hD hS hA [0, 1, 2, 3, 4, 5, 6, 7, 8, 9, 10, 11, 12, 13, 14, 15, 16, 17, 18, 19, 20, 21, 22, 23, 24, 25, 26, 27, 28, 29, 30, 31, 32, 33, 34, 35, 36, 37, 38, 39] rfl
  refine va_calli (va_runV (As := []) (rest := []) ⟨hx, hb, hml, hown, hts⟩ (k_book l D cI cB cP H.size x_h0 x_tp x_rd x_bk x_fl x_pl x_yb x_sc x_dr x_s2 x_s3 x_s4 x_gs2 x_gs3 x_gs4 x_b2 x_b3 x_b4 x_b5 x_b6 x_b7 x_b8 x_b9 x_b10 x_b11 x_b12 x_b13 x_b14 x_d2 x_d3 x_d4 x_d5 x_d6 x_d7 x_d8 x_d9 x_d10 x_d11 x_d12 x_d13 x_d14 x_a2 x_a3 x_a4 x_a5 x_a6 x_a7 x_a8 x_a9 x_a10 x_a11 x_a12 x_a13 x_a14 x_g2 x_g3 x_g4 x_g5 x_g6 x_g7 x_g8 x_g9 x_g10 x_g11 x_g12 x_g13 x_g14 x_fp x_p0 x_p1 x_p2 x_x0a x_x0b x_x0c x_x0d x_x0e x_x1a x_x1b x_x1c x_x1d x_x1e x_x2a x_x2b x_x2c x_x2d x_x2e (x_hf)) (cwV 0 hts gw_law_4 rfl rfl rfl (by decide +kernel) ⟨Nat.le_of_ble_eq_true rfl, Nat.le_of_ble_eq_true rfl⟩) ⟨ny_blind, va_recv hK hPc (ci := 7) (q0 := 0) rfl rfl, ny_pre hPc hK hN hDc⟩ rfl rfl hl.1 rfl (lv_room (Nat.le_of_ble_eq_true rfl)) dL_law_211 ⟨Nat.le_of_ble_eq_true rfl, Nat.le_of_ble_eq_true rfl⟩) hS (fun q _ h => hFc q h) hFc (fun r1 u t H locs ht hvm hw hB hz1 hk1 hS => ?_)
  obtain ⟨hP, hD⟩ := va_join (wr := [(y_m0, .inr (8, [.ref y_r0, .ref y_r1, .int 0, .int 0, .int 0, .int (-1), .int 0, .int 0, .int 0, .int 0, .long 0, .ref y_r11, .ref y_r12, .ref y_r13, .ref y_r14, .ref y_r15, .ref y_r16, .ref y_r17, .ref y_r18, .ref y_r19, .ref y_r20, .ref y_r21, .ref y_r22, .ref y_r23, .ref y_r24, .int 0, .int 0, .int 0, .int 0, .int 0, .int 0, .int 0, .int 0, .int 0, .ref y_r34, .ref y_r35, .ref y_r36, .int 0, .int 0, .ref y_r39])), (y_r11, .inl (cI, 2, .inl y_g11)), (y_r12, .inl (cI, 2, .inl y_g12)), (y_r20, .inl (cI, 12, .inl y_g20)), (y_r21, .inl (cI, 576, .inl y_g21)), (y_r22, .inl (cI, 60, .inl y_g22)), (y_r23, .inl (cI, 12, .inl y_g23)), (y_r24, .inl (cI, 8, .inl y_g24))]) (w1 := []) hP hD [0, 1, 2, 3, 4, 5, 6, 7, 8, 9, 10, 11, 12, 13, 14, 15, 16, 17, 18, 19, 20, 21, 22, 23, 24, 25, 26, 27, 28, 29, 30, 31, 32, 33, 34, 35, 36, 37, 38, 39] [40, 41, 42, 43, 44, 45, 46, 47] rfl rfl (by decide) (by decide) hk1 hFc ny_P0 ny_D0
  have hP : va_P D vwCl [(y_m0, .inr (8, [.ref y_r0, .ref y_r1, .int 0, .int 0, .int 0, .int (-1), .int 0, .int 0, .int 0, .int 0, .long 0, .ref y_r11, .ref y_r12, .ref y_r13, .ref y_r14, .ref y_r15, .ref y_r16, .ref y_r17, .ref y_r18, .ref y_r19, .ref y_r20, .ref y_r21, .ref y_r22, .ref y_r23, .ref y_r24, .int 0, .int 0, .int 0, .int 0, .int 0, .int 0, .int 0, .int 0, .int 0, .ref y_r34, .ref y_r35, .ref y_r36, .int 0, .int 0, .ref y_r39])), (y_r11, .inl (cI, 2, .inl y_g11)), (y_r12, .inl (cI, 2, .inl y_g12)), (y_r20, .inl (cI, 12, .inl y_g20)), (y_r21, .inl (cI, 576, .inl y_g21)), (y_r22, .inl (cI, 60, .inl y_g22)), (y_r23, .inl (cI, 12, .inl y_g23)), (y_r24, .inl (cI, 8, .inl y_g24))] H := hP
  have hD : va_D (fun q : Nat => s.heap.size ≤ q) [(y_m0, .inr (8, [.ref y_r0, .ref y_r1, .int 0, .int 0, .int 0, .int (-1), .int 0, .int 0, .int 0, .int 0, .long 0, .ref y_r11, .ref y_r12, .ref y_r13, .ref y_r14, .ref y_r15, .ref y_r16, .ref y_r17, .ref y_r18, .ref y_r19, .ref y_r20, .ref y_r21, .ref y_r22, .ref y_r23, .ref y_r24, .int 0, .int 0, .int 0, .int 0, .int 0, .int 0, .int 0, .int 0, .int 0, .ref y_r34, .ref y_r35, .ref y_r36, .int 0, .int 0, .ref y_r39])), (y_r11, .inl (cI, 2, .inl y_g11)), (y_r12, .inl (cI, 2, .inl y_g12)), (y_r20, .inl (cI, 12, .inl y_g20)), (y_r21, .inl (cI, 576, .inl y_g21)), (y_r22, .inl (cI, 60, .inl y_g22)), (y_r23, .inl (cI, 12, .inl y_g23)), (y_r24, .inl (cI, 8, .inl y_g24))] := hD
  subst hw
  refine lv_aload_n hx hb dL_law_214 rfl (lv_at hl 1 rfl) ?_
  have hPc := hP.sub (ws' := [(y_m0, .inr (8, [.ref y_r0, .ref y_r1, .int 0, .int 0, .int 0, .int (-1), .int 0, .int 0, .int 0, .int 0, .long 0, .ref y_r11, .ref y_r12, .ref y_r13, .ref y_r14, .ref y_r15, .ref y_r16, .ref y_r17, .ref y_r18, .ref y_r19, .ref y_r20, .ref y_r21, .ref y_r22, .ref y_r23, .ref y_r24, .int 0, .int 0, .int 0, .int 0, .int 0, .int 0, .int 0, .int 0, .int 0, .ref y_r34, .ref y_r35, .ref y_r36, .int 0, .int 0, .ref y_r39])), (y_r11, .inl (cI, 2, .inl y_g11)), (y_r12, .inl (cI, 2, .inl y_g12)), (y_r20, .inl (cI, 12, .inl y_g20)), (y_r21, .inl (cI, 576, .inl y_g21)), (y_r22, .inl (cI, 60, .inl y_g22)), (y_r23, .inl (cI, 12, .inl y_g23)), (y_r24, .inl (cI, 8, .inl y_g24))]) [0, 1, 2, 3, 4, 5, 6, 7] rfl
  have hDc := hD.sub (ws' := [(y_m0, .inr (8, [.ref y_r0, .ref y_r1, .int 0, .int 0, .int 0, .int (-1), .int 0, .int 0, .int 0, .int 0, .long 0, .ref y_r11, .ref y_r12, .ref y_r13, .ref y_r14, .ref y_r15, .ref y_r16, .ref y_r17, .ref y_r18, .ref y_r19, .ref y_r20, .ref y_r21, .ref y_r22, .ref y_r23, .ref y_r24, .int 0, .int 0, .int 0, .int 0, .int 0, .int 0, .int 0, .int 0, .int 0, .ref y_r34, .ref y_r35, .ref y_r36, .int 0, .int 0, .ref y_r39])), (y_r11, .inl (cI, 2, .inl y_g11)), (y_r12, .inl (cI, 2, .inl y_g12)), (y_r20, .inl (cI, 12, .inl y_g20)), (y_r21, .inl (cI, 576, .inl y_g21)), (y_r22, .inl (cI, 60, .inl y_g22)), (y_r23, .inl (cI, 12, .inl y_g23)), (y_r24, .inl (cI, 8, .inl y_g24))]) [0, 1, 2, 3, 4, 5, 6, 7] (by decide) rfl
  have hFc := va_free (wc := [(y_m0, .inr (8, [.ref y_r0, .ref y_r1, .int 0, .int 0, .int 0, .int (-1), .int 0, .int 0, .int 0, .int 0, .long 0, .ref y_r11, .ref y_r12, .ref y_r13, .ref y_r14, .ref y_r15, .ref y_r16, .ref y_r17, .ref y_r18, .ref y_r19, .ref y_r20, .ref y_r21, .ref y_r22, .ref y_r23, .ref y_r24, .int 0, .int 0, .int 0, .int 0, .int 0, .int 0, .int 0, .int 0, .int 0, .ref y_r34, .ref y_r35, .ref y_r36, .int 0, .int 0, .ref y_r39])), (y_r11, .inl (cI, 2, .inl y_g11)), (y_r12, .inl (cI, 2, .inl y_g12)), (y_r20, .inl (cI, 12, .inl y_g20)), (y_r21, .inl (cI, 576, .inl y_g21)), (y_r22, .inl (cI, 60, .inl y_g22)), (y_r23, .inl (cI, 12, .inl y_g23)), (y_r24, .inl (cI, 8, .inl y_g24))]) hD hS hA [0, 1, 2, 3, 4, 5, 6, 7] rfl
  refine va_calli (va_runV (As := []) (rest := [.int 0]) ⟨hx, hb, hml, hown, hts⟩ (k_mbook l D cI cB cP H.size y_m0 y_r0 y_r1 y_r11 y_r12 y_r13 y_r14 y_r15 y_r16 y_r17 y_r18 y_r19 y_r20 y_r21 y_r22 y_r23 y_r24 y_r34 y_r35 y_r36 y_r39 y_g11 y_g12 y_g20 y_g21 y_g22 y_g23 y_g24) (cwV 0 hts gw_law_5 rfl rfl rfl (by decide +kernel) ⟨Nat.le_of_ble_eq_true rfl, Nat.le_of_ble_eq_true rfl⟩) ⟨ny_blind, va_recv hK hPc (ci := 8) (q0 := 0) rfl rfl, ny_pre hPc hK hN hDc⟩ rfl rfl hl.1 rfl (lv_room (Nat.le_of_ble_eq_true rfl)) dL_law_215 ⟨Nat.le_of_ble_eq_true rfl, Nat.le_of_ble_eq_true rfl⟩) hS (fun q _ h => hFc q h) hFc (fun r2 u t H locs ht hvm hw hB hz1 hk1 hS => ?_)
  obtain ⟨hP, hD⟩ := va_join (wr := []) (w1 := []) hP hD [0, 1, 2, 3, 4, 5, 6, 7] [] rfl rfl (by decide) (by decide) hk1 hFc ny_P0 ny_D0
  have hP : va_P D vwCl [] H := hP
  have hD : va_D (fun q : Nat => s.heap.size ≤ q) [] := hD
  subst hw
  refine lv_icmp_eq (tgt := 791) hx hb dL_law_218 (by decide) (fun c3 => ?_) (fun h9 => (by first | exact absurd h9 (by decide) | exact absurd (by decide) h9))
  exact law_end l C0 (by decide) (by decide) hS (lv_sub hl [0, 3] rfl)

set_option maxHeartbeats 4000000 in
set_option maxRecDepth 100000 in
/-- the call fault, and the end -/
theorem law_3 {p : Program} {e : Env} {s : State} {m : MethodId} {below : List Frame} {meth : Method} {c : Code} (l : Launch) {b : Nat} {xs : Nat → Int32} (C0 : lw_At p s m meth c b 6 xs) (D : va_G) (cI cB cP : ClassId) (x_h0 : Nat) (x_tp : Nat) (x_rd : Nat) (x_bk : Nat) (x_fl : Nat) (x_pl : Nat) (x_sc : Nat) (x_dr : Nat) (y_m0 : Nat) (y_r0 : Nat) (y_r1 : Nat) (y_r11 : Nat) (y_r12 : Nat) (y_r13 : Nat) (y_r14 : Nat) (y_r15 : Nat) (y_r16 : Nat) (y_r17 : Nat) (y_r18 : Nat) (y_r19 : Nat) (y_r20 : Nat) (y_r21 : Nat) (y_r22 : Nat) (y_r23 : Nat) (y_r24 : Nat) (y_r34 : Nat) (y_r35 : Nat) (y_r36 : Nat) (y_r39 : Nat) {H : Heap} {locs : List Loc} {ls : Array Slot} (hK : va_K D vwCl (TY cI cB cP) s) (hN : nw s) (hP : va_P D vwCl [(x_h0, .inr (7, [.ref x_tp, .ref x_rd, .ref x_bk, .ref x_fl, .ref x_pl])), (x_rd, .inr (3, [.ref x_sc, .ref x_dr, .int 0, .int (-1), .int 0])), (y_m0, .inr (8, [.ref y_r0, .ref y_r1, .int 0, .int 0, .int 0, .int (-1), .int 0, .int 0, .int 0, .int 0, .long 0, .ref y_r11, .ref y_r12, .ref y_r13, .ref y_r14, .ref y_r15, .ref y_r16, .ref y_r17, .ref y_r18, .ref y_r19, .ref y_r20, .ref y_r21, .ref y_r22, .ref y_r23, .ref y_r24, .int 0, .int 0, .int 0, .int 0, .int 0, .int 0, .int 0, .int 0, .int 0, .ref y_r34, .ref y_r35, .ref y_r36, .int 0, .int 0, .ref y_r39]))] H) (hD : va_D (fun q : Nat => s.heap.size ≤ q) [(x_h0, .inr (7, [.ref x_tp, .ref x_rd, .ref x_bk, .ref x_fl, .ref x_pl])), (x_rd, .inr (3, [.ref x_sc, .ref x_dr, .int 0, .int (-1), .int 0])), (y_m0, .inr (8, [.ref y_r0, .ref y_r1, .int 0, .int 0, .int 0, .int (-1), .int 0, .int 0, .int 0, .int 0, .long 0, .ref y_r11, .ref y_r12, .ref y_r13, .ref y_r14, .ref y_r15, .ref y_r16, .ref y_r17, .ref y_r18, .ref y_r19, .ref y_r20, .ref y_r21, .ref y_r22, .ref y_r23, .ref y_r24, .int 0, .int 0, .int 0, .int 0, .int 0, .int 0, .int 0, .int 0, .int 0, .ref y_r34, .ref y_r35, .ref y_r36, .int 0, .int 0, .ref y_r39]))]) (hS : va_S (fun q : Nat => s.heap.size ≤ q) s.heap H locs) (hl : lv_has ls 4 [(3, .int 0), (2, .ref y_m0), (1, .ref x_h0), (0, .ref b)]) : W p l e room_1 s m #[Value.ref b] below meth c H locs 86 7510 (lw_Z below #[Value.ref b] s) (F0 m 223 ls []) := by
  obtain ⟨hx, hb, hr, hml, hown, hts, hX, hbl, hlocks, hgv⟩ := id C0
  have hown : s.vm.findClass RL = some m.cls := hown
  have hA : ∀ q : Nat, s.heap.size ≤ q → (fun q : Nat => s.heap.size ≤ q) q := fun _ h => h
  have hbA : ¬ (fun q : Nat => s.heap.size ≤ q) b := Nat.not_le.mpr hbl
  refine lv_aload_n hx hb dL_law_223 rfl (lv_at hl 2 rfl) ?_
  refine lv_aload_n hx hb dL_law_224 rfl (lv_at hl 3 rfl) ?_
  refine lv_iload_n hx hb dL_law_225 rfl (lv_at hl 0 rfl) ?_
  refine lv_iconst (v := 1) hx hb dL_law_226 (by decide) ?_
  refine lv_iadd hx hb dL_law_227 ?_
  refine lv_topi (fun vv ev => ?_)
  obtain rfl : vv = 1 := ev.trans (by decide)
  refine va_sld hx hb hX hbl hbA hS (show ¬ (_ ∨ _) by decide) dL_law_228 ?_
  refine lv_topi (fun vv ev => ?_)
  obtain rfl : vv = xs 1 := ev
  have hPc := hP.sub (ws' := [(x_h0, .inr (7, [.ref x_tp, .ref x_rd, .ref x_bk, .ref x_fl, .ref x_pl])), (x_rd, .inr (3, [.ref x_sc, .ref x_dr, .int 0, .int (-1), .int 0]))]) [0, 1] rfl
  have hDc := hD.sub (ws' := [(x_h0, .inr (7, [.ref x_tp, .ref x_rd, .ref x_bk, .ref x_fl, .ref x_pl])), (x_rd, .inr (3, [.ref x_sc, .ref x_dr, .int 0, .int (-1), .int 0]))]) [0, 1] (by decide) rfl
  have hFc := va_free (wc := [(x_h0, .inr (7, [.ref x_tp, .ref x_rd, .ref x_bk, .ref x_fl, .ref x_pl])), (x_rd, .inr (3, [.ref x_sc, .ref x_dr, .int 0, .int (-1), .int 0]))]) hD hS hA [0, 1] rfl
  refine va_calli (va_runV (As := [.int (xs 1)]) (rest := []) ⟨hx, hb, hml, hown, hts⟩ (k_fault l D cI cB cP H.size x_h0 x_tp x_rd x_bk x_fl x_pl x_sc x_dr (xs 1)) (cwV 1 hts gw_law_6 rfl rfl rfl (by decide +kernel) ⟨Nat.le_of_ble_eq_true rfl, Nat.le_of_ble_eq_true rfl⟩) ⟨ny_blind, va_recv hK hPc (ci := 7) (q0 := 0) rfl rfl, ny_pre hPc hK hN hDc⟩ rfl rfl hl.1 rfl (lv_room (Nat.le_of_ble_eq_true rfl)) dL_law_229 ⟨Nat.le_of_ble_eq_true rfl, Nat.le_of_ble_eq_true rfl⟩) hS (fun q _ h => hFc q h) hFc (fun r1 u t H locs ht hvm hw hB hz1 hk1 hS => ?_)
  obtain ⟨hP, hD⟩ := va_join (wr := [(y_m0, .inr (8, [.ref y_r0, .ref y_r1, .int 0, .int 0, .int 0, .int (-1), .int 0, .int 0, .int 0, .int 0, .long 0, .ref y_r11, .ref y_r12, .ref y_r13, .ref y_r14, .ref y_r15, .ref y_r16, .ref y_r17, .ref y_r18, .ref y_r19, .ref y_r20, .ref y_r21, .ref y_r22, .ref y_r23, .ref y_r24, .int 0, .int 0, .int 0, .int 0, .int 0, .int 0, .int 0, .int 0, .int 0, .ref y_r34, .ref y_r35, .ref y_r36, .int 0, .int 0, .ref y_r39]))]) (w1 := []) hP hD [0, 1] [2] rfl rfl (by decide) (by decide) hk1 hFc ny_P0 ny_D0
  have hP : va_P D vwCl [(y_m0, .inr (8, [.ref y_r0, .ref y_r1, .int 0, .int 0, .int 0, .int (-1), .int 0, .int 0, .int 0, .int 0, .long 0, .ref y_r11, .ref y_r12, .ref y_r13, .ref y_r14, .ref y_r15, .ref y_r16, .ref y_r17, .ref y_r18, .ref y_r19, .ref y_r20, .ref y_r21, .ref y_r22, .ref y_r23, .ref y_r24, .int 0, .int 0, .int 0, .int 0, .int 0, .int 0, .int 0, .int 0, .int 0, .ref y_r34, .ref y_r35, .ref y_r36, .int 0, .int 0, .ref y_r39]))] H := hP
  have hD : va_D (fun q : Nat => s.heap.size ≤ q) [(y_m0, .inr (8, [.ref y_r0, .ref y_r1, .int 0, .int 0, .int 0, .int (-1), .int 0, .int 0, .int 0, .int 0, .long 0, .ref y_r11, .ref y_r12, .ref y_r13, .ref y_r14, .ref y_r15, .ref y_r16, .ref y_r17, .ref y_r18, .ref y_r19, .ref y_r20, .ref y_r21, .ref y_r22, .ref y_r23, .ref y_r24, .int 0, .int 0, .int 0, .int 0, .int 0, .int 0, .int 0, .int 0, .int 0, .ref y_r34, .ref y_r35, .ref y_r36, .int 0, .int 0, .ref y_r39]))] := hD
  have hr1 := hw
  refine lv_aload_n hx hb dL_law_232 rfl (lv_at hl 1 rfl) ?_
  refine lv_aload_n hx hb dL_law_233 rfl (lv_at hl 3 rfl) ?_
  refine lv_iload_n hx hb dL_law_234 rfl (lv_at hl 0 rfl) ?_
  refine lv_iconst (v := 1) hx hb dL_law_235 (by decide) ?_
  refine lv_iadd hx hb dL_law_236 ?_
  refine lv_topi (fun vv ev => ?_)
  obtain rfl : vv = 1 := ev.trans (by decide)
  refine va_sld hx hb hX hbl hbA hS (show ¬ (_ ∨ _) by decide) dL_law_237 ?_
  refine lv_topi (fun vv ev => ?_)
  obtain rfl : vv = xs 1 := ev
  have hPc := hP.sub (ws' := [(y_m0, .inr (8, [.ref y_r0, .ref y_r1, .int 0, .int 0, .int 0, .int (-1), .int 0, .int 0, .int 0, .int 0, .long 0, .ref y_r11, .ref y_r12, .ref y_r13, .ref y_r14, .ref y_r15, .ref y_r16, .ref y_r17, .ref y_r18, .ref y_r19, .ref y_r20, .ref y_r21, .ref y_r22, .ref y_r23, .ref y_r24, .int 0, .int 0, .int 0, .int 0, .int 0, .int 0, .int 0, .int 0, .int 0, .ref y_r34, .ref y_r35, .ref y_r36, .int 0, .int 0, .ref y_r39]))]) [0] rfl
  have hDc := hD.sub (ws' := [(y_m0, .inr (8, [.ref y_r0, .ref y_r1, .int 0, .int 0, .int 0, .int (-1), .int 0, .int 0, .int 0, .int 0, .long 0, .ref y_r11, .ref y_r12, .ref y_r13, .ref y_r14, .ref y_r15, .ref y_r16, .ref y_r17, .ref y_r18, .ref y_r19, .ref y_r20, .ref y_r21, .ref y_r22, .ref y_r23, .ref y_r24, .int 0, .int 0, .int 0, .int 0, .int 0, .int 0, .int 0, .int 0, .int 0, .ref y_r34, .ref y_r35, .ref y_r36, .int 0, .int 0, .ref y_r39]))]) [0] (by decide) rfl
  have hFc := va_free (wc := [(y_m0, .inr (8, [.ref y_r0, .ref y_r1, .int 0, .int 0, .int 0, .int (-1), .int 0, .int 0, .int 0, .int 0, .long 0, .ref y_r11, .ref y_r12, .ref y_r13, .ref y_r14, .ref y_r15, .ref y_r16, .ref y_r17, .ref y_r18, .ref y_r19, .ref y_r20, .ref y_r21, .ref y_r22, .ref y_r23, .ref y_r24, .int 0, .int 0, .int 0, .int 0, .int 0, .int 0, .int 0, .int 0, .int 0, .ref y_r34, .ref y_r35, .ref y_r36, .int 0, .int 0, .ref y_r39]))]) hD hS hA [0] rfl
  refine va_calli (va_runV (As := [.int (xs 1)]) (rest := [.int r1]) ⟨hx, hb, hml, hown, hts⟩ (k_mfault l D cI cB cP H.size y_m0 y_r0 y_r1 y_r11 y_r12 y_r13 y_r14 y_r15 y_r16 y_r17 y_r18 y_r19 y_r20 y_r21 y_r22 y_r23 y_r24 y_r34 y_r35 y_r36 y_r39 (xs 1)) (cwV 1 hts gw_law_7 rfl rfl rfl (by decide +kernel) ⟨Nat.le_of_ble_eq_true rfl, Nat.le_of_ble_eq_true rfl⟩) ⟨ny_blind, va_recv hK hPc (ci := 8) (q0 := 0) rfl rfl, ny_pre hPc hK hN hDc⟩ rfl rfl hl.1 rfl (lv_room (Nat.le_of_ble_eq_true rfl)) dL_law_238 ⟨Nat.le_of_ble_eq_true rfl, Nat.le_of_ble_eq_true rfl⟩) hS (fun q _ h => hFc q h) hFc (fun r2 u t H locs ht hvm hw hB hz1 hk1 hS => ?_)
  obtain ⟨hP, hD⟩ := va_join (wr := []) (w1 := []) hP hD [0] [] rfl rfl (by decide) (by decide) hk1 hFc ny_P0 ny_D0
  have hP : va_P D vwCl [] H := hP
  have hD : va_D (fun q : Nat => s.heap.size ≤ q) [] := hD
  have hr2 := hw
  refine lv_icmp_eq (tgt := 791) hx hb dL_law_241 (by decide) (fun c3 => ?_) (fun h9 => absurd (hr1.trans hr2.symm) h9)
  exact law_end l C0 (by decide) (by decide) hS (lv_sub hl [0, 3] rfl)

set_option maxHeartbeats 4000000 in
set_option maxRecDepth 100000 in
/-- the call flight, and the end -/
theorem law_4 {p : Program} {e : Env} {s : State} {m : MethodId} {below : List Frame} {meth : Method} {c : Code} (l : Launch) {b : Nat} {xs : Nat → Int32} (C0 : lw_At p s m meth c b 6 xs) (D : va_G) (cI cB cP : ClassId) (x_h0 : Nat) (x_tp : Nat) (x_rd : Nat) (x_bk : Nat) (x_fl : Nat) (x_pl : Nat) (x_a2 : Nat) (x_a3 : Nat) (x_a4 : Nat) (x_a5 : Nat) (x_a6 : Nat) (x_a7 : Nat) (x_a8 : Nat) (x_a9 : Nat) (x_a10 : Nat) (x_a11 : Nat) (x_a12 : Nat) (x_a13 : Nat) (x_a14 : Nat) (x_f : Nat → Int32) (x_fp : Nat → Option Nat) (x_p0 : Nat) (x_p1 : Nat) (x_p2 : Nat) (x_x0a : Nat) (x_x0b : Nat) (x_x0c : Nat) (x_x0d : Nat) (x_x0e : Nat) (x_x1a : Nat) (x_x1b : Nat) (x_x1c : Nat) (x_x1d : Nat) (x_x1e : Nat) (x_x2a : Nat) (x_x2b : Nat) (x_x2c : Nat) (x_x2d : Nat) (x_x2e : Nat) (y_m0 : Nat) (y_r0 : Nat) (y_r1 : Nat) (y_r11 : Nat) (y_r12 : Nat) (y_r13 : Nat) (y_r14 : Nat) (y_r15 : Nat) (y_r16 : Nat) (y_r17 : Nat) (y_r18 : Nat) (y_r19 : Nat) (y_r20 : Nat) (y_r21 : Nat) (y_r22 : Nat) (y_r23 : Nat) (y_r24 : Nat) (y_r34 : Nat) (y_r35 : Nat) (y_r36 : Nat) (y_r39 : Nat) (x_hf : x_fp 0 = some x_p0 ∧ x_fp 1 = some x_p1 ∧ x_fp 2 = some x_p2) {H : Heap} {locs : List Loc} {ls : Array Slot} (hK : va_K D vwCl (TY cI cB cP) s) (hN : nw s) (hP : va_P D vwCl [(x_h0, .inr (7, [.ref x_tp, .ref x_rd, .ref x_bk, .ref x_fl, .ref x_pl])), (x_fl, .inr (1, [.ref x_bk, .int 0, .int 0, .int 0, .int 0, .int 0, .int 0])), (x_bk, .inr (0, [.int 0, .int 0, .ref x_a2, .ref x_a3, .ref x_a4, .ref x_a5, .ref x_a6, .ref x_a7, .ref x_a8, .ref x_a9, .ref x_a10, .ref x_a11, .ref x_a12, .ref x_a13, .ref x_a14])), (x_a13, .inl (cI, 4, .inl x_f)), (x_pl, .inl (cP, 3, .inr (.inr (.inr (.inr x_fp))))), (x_p0, .inr (2, [.ref x_bk, .ref x_fl, .int 0, .ref x_x0a, .int 0, .int 0, .int 0, .int 0, .int 0, .ref x_x0b, .ref x_x0c, .ref x_x0d, .ref x_x0e])), (x_p1, .inr (2, [.ref x_bk, .ref x_fl, .int 1, .ref x_x1a, .int 0, .int 0, .int 0, .int 0, .int 0, .ref x_x1b, .ref x_x1c, .ref x_x1d, .ref x_x1e])), (x_p2, .inr (2, [.ref x_bk, .ref x_fl, .int 2, .ref x_x2a, .int 0, .int 0, .int 0, .int 0, .int 0, .ref x_x2b, .ref x_x2c, .ref x_x2d, .ref x_x2e])), (y_m0, .inr (8, [.ref y_r0, .ref y_r1, .int 0, .int 0, .int 0, .int (-1), .int 0, .int 0, .int 0, .int 0, .long 0, .ref y_r11, .ref y_r12, .ref y_r13, .ref y_r14, .ref y_r15, .ref y_r16, .ref y_r17, .ref y_r18, .ref y_r19, .ref y_r20, .ref y_r21, .ref y_r22, .ref y_r23, .ref y_r24, .int 0, .int 0, .int 0, .int 0, .int 0, .int 0, .int 0, .int 0, .int 0, .ref y_r34, .ref y_r35, .ref y_r36, .int 0, .int 0, .ref y_r39]))] H) (hD : va_D (fun q : Nat => s.heap.size ≤ q) [(x_h0, .inr (7, [.ref x_tp, .ref x_rd, .ref x_bk, .ref x_fl, .ref x_pl])), (x_fl, .inr (1, [.ref x_bk, .int 0, .int 0, .int 0, .int 0, .int 0, .int 0])), (x_bk, .inr (0, [.int 0, .int 0, .ref x_a2, .ref x_a3, .ref x_a4, .ref x_a5, .ref x_a6, .ref x_a7, .ref x_a8, .ref x_a9, .ref x_a10, .ref x_a11, .ref x_a12, .ref x_a13, .ref x_a14])), (x_a13, .inl (cI, 4, .inl x_f)), (x_pl, .inl (cP, 3, .inr (.inr (.inr (.inr x_fp))))), (x_p0, .inr (2, [.ref x_bk, .ref x_fl, .int 0, .ref x_x0a, .int 0, .int 0, .int 0, .int 0, .int 0, .ref x_x0b, .ref x_x0c, .ref x_x0d, .ref x_x0e])), (x_p1, .inr (2, [.ref x_bk, .ref x_fl, .int 1, .ref x_x1a, .int 0, .int 0, .int 0, .int 0, .int 0, .ref x_x1b, .ref x_x1c, .ref x_x1d, .ref x_x1e])), (x_p2, .inr (2, [.ref x_bk, .ref x_fl, .int 2, .ref x_x2a, .int 0, .int 0, .int 0, .int 0, .int 0, .ref x_x2b, .ref x_x2c, .ref x_x2d, .ref x_x2e])), (y_m0, .inr (8, [.ref y_r0, .ref y_r1, .int 0, .int 0, .int 0, .int (-1), .int 0, .int 0, .int 0, .int 0, .long 0, .ref y_r11, .ref y_r12, .ref y_r13, .ref y_r14, .ref y_r15, .ref y_r16, .ref y_r17, .ref y_r18, .ref y_r19, .ref y_r20, .ref y_r21, .ref y_r22, .ref y_r23, .ref y_r24, .int 0, .int 0, .int 0, .int 0, .int 0, .int 0, .int 0, .int 0, .int 0, .ref y_r34, .ref y_r35, .ref y_r36, .int 0, .int 0, .ref y_r39]))]) (hS : va_S (fun q : Nat => s.heap.size ≤ q) s.heap H locs) (hl : lv_has ls 4 [(3, .int 0), (2, .ref y_m0), (1, .ref x_h0), (0, .ref b)]) : W p l e room_1 s m #[Value.ref b] below meth c H locs 86 7510 (lw_Z below #[Value.ref b] s) (F0 m 246 ls []) := by
  obtain ⟨hx, hb, hr, hml, hown, hts, hX, hbl, hlocks, hgv⟩ := id C0
  have hown : s.vm.findClass RL = some m.cls := hown
  have hA : ∀ q : Nat, s.heap.size ≤ q → (fun q : Nat => s.heap.size ≤ q) q := fun _ h => h
  have hbA : ¬ (fun q : Nat => s.heap.size ≤ q) b := Nat.not_le.mpr hbl
  refine lv_aload_n hx hb dL_law_246 rfl (lv_at hl 2 rfl) ?_
  refine lv_aload_n hx hb dL_law_247 rfl (lv_at hl 3 rfl) ?_
  refine lv_iload_n hx hb dL_law_248 rfl (lv_at hl 0 rfl) ?_
  refine lv_iconst (v := 1) hx hb dL_law_249 (by decide) ?_
  refine lv_iadd hx hb dL_law_250 ?_
  refine lv_topi (fun vv ev => ?_)
  obtain rfl : vv = 1 := ev.trans (by decide)
  refine va_sld hx hb hX hbl hbA hS (show ¬ (_ ∨ _) by decide) dL_law_251 ?_
  refine lv_topi (fun vv ev => ?_)
  obtain rfl : vv = xs 1 := ev
  refine lv_aload_n hx hb dL_law_252 rfl (lv_at hl 3 rfl) ?_
  refine lv_iload_n hx hb dL_law_253 rfl (lv_at hl 0 rfl) ?_
  refine lv_iconst (v := 2) hx hb dL_law_254 (by decide) ?_
  refine lv_iadd hx hb dL_law_255 ?_
  refine lv_topi (fun vv ev => ?_)
  obtain rfl : vv = 2 := ev.trans (by decide)
  refine va_sld hx hb hX hbl hbA hS (show ¬ (_ ∨ _) by decide) dL_law_256 ?_
  refine lv_topi (fun vv ev => ?_)
  obtain rfl : vv = xs 2 := ev
  refine lv_aload_n hx hb dL_law_257 rfl (lv_at hl 3 rfl) ?_
  refine lv_iload_n hx hb dL_law_258 rfl (lv_at hl 0 rfl) ?_
  refine lv_iconst (v := 3) hx hb dL_law_259 (by decide) ?_
  refine lv_iadd hx hb dL_law_260 ?_
  refine lv_topi (fun vv ev => ?_)
  obtain rfl : vv = 3 := ev.trans (by decide)
  refine va_sld hx hb hX hbl hbA hS (show ¬ (_ ∨ _) by decide) dL_law_261 ?_
  refine lv_topi (fun vv ev => ?_)
  obtain rfl : vv = xs 3 := ev
  refine lv_aload_n hx hb dL_law_262 rfl (lv_at hl 3 rfl) ?_
  refine lv_iload_n hx hb dL_law_263 rfl (lv_at hl 0 rfl) ?_
  refine lv_iconst (v := 4) hx hb dL_law_264 (by decide) ?_
  refine lv_iadd hx hb dL_law_265 ?_
  refine lv_topi (fun vv ev => ?_)
  obtain rfl : vv = 4 := ev.trans (by decide)
  refine va_sld hx hb hX hbl hbA hS (show ¬ (_ ∨ _) by decide) dL_law_266 ?_
  refine lv_topi (fun vv ev => ?_)
  obtain rfl : vv = xs 4 := ev
  refine lv_aload_n hx hb dL_law_267 rfl (lv_at hl 3 rfl) ?_
  refine lv_iload_n hx hb dL_law_268 rfl (lv_at hl 0 rfl) ?_
  refine lv_iconst (v := 5) hx hb dL_law_269 (by decide) ?_
  refine lv_iadd hx hb dL_law_270 ?_
  refine lv_topi (fun vv ev => ?_)
  obtain rfl : vv = 5 := ev.trans (by decide)
  refine va_sld hx hb hX hbl hbA hS (show ¬ (_ ∨ _) by decide) dL_law_271 ?_
  refine lv_topi (fun vv ev => ?_)
  obtain rfl : vv = xs 5 := ev
  have hPc := hP.sub (ws' := [(x_h0, .inr (7, [.ref x_tp, .ref x_rd, .ref x_bk, .ref x_fl, .ref x_pl])), (x_fl, .inr (1, [.ref x_bk, .int 0, .int 0, .int 0, .int 0, .int 0, .int 0])), (x_bk, .inr (0, [.int 0, .int 0, .ref x_a2, .ref x_a3, .ref x_a4, .ref x_a5, .ref x_a6, .ref x_a7, .ref x_a8, .ref x_a9, .ref x_a10, .ref x_a11, .ref x_a12, .ref x_a13, .ref x_a14])), (x_a13, .inl (cI, 4, .inl x_f)), (x_pl, .inl (cP, 3, .inr (.inr (.inr (.inr x_fp))))), (x_p0, .inr (2, [.ref x_bk, .ref x_fl, .int 0, .ref x_x0a, .int 0, .int 0, .int 0, .int 0, .int 0, .ref x_x0b, .ref x_x0c, .ref x_x0d, .ref x_x0e])), (x_p1, .inr (2, [.ref x_bk, .ref x_fl, .int 1, .ref x_x1a, .int 0, .int 0, .int 0, .int 0, .int 0, .ref x_x1b, .ref x_x1c, .ref x_x1d, .ref x_x1e])), (x_p2, .inr (2, [.ref x_bk, .ref x_fl, .int 2, .ref x_x2a, .int 0, .int 0, .int 0, .int 0, .int 0, .ref x_x2b, .ref x_x2c, .ref x_x2d, .ref x_x2e]))]) [0, 1, 2, 3, 4, 5, 6, 7] rfl
  have hDc := hD.sub (ws' := [(x_h0, .inr (7, [.ref x_tp, .ref x_rd, .ref x_bk, .ref x_fl, .ref x_pl])), (x_fl, .inr (1, [.ref x_bk, .int 0, .int 0, .int 0, .int 0, .int 0, .int 0])), (x_bk, .inr (0, [.int 0, .int 0, .ref x_a2, .ref x_a3, .ref x_a4, .ref x_a5, .ref x_a6, .ref x_a7, .ref x_a8, .ref x_a9, .ref x_a10, .ref x_a11, .ref x_a12, .ref x_a13, .ref x_a14])), (x_a13, .inl (cI, 4, .inl x_f)), (x_pl, .inl (cP, 3, .inr (.inr (.inr (.inr x_fp))))), (x_p0, .inr (2, [.ref x_bk, .ref x_fl, .int 0, .ref x_x0a, .int 0, .int 0, .int 0, .int 0, .int 0, .ref x_x0b, .ref x_x0c, .ref x_x0d, .ref x_x0e])), (x_p1, .inr (2, [.ref x_bk, .ref x_fl, .int 1, .ref x_x1a, .int 0, .int 0, .int 0, .int 0, .int 0, .ref x_x1b, .ref x_x1c, .ref x_x1d, .ref x_x1e])), (x_p2, .inr (2, [.ref x_bk, .ref x_fl, .int 2, .ref x_x2a, .int 0, .int 0, .int 0, .int 0, .int 0, .ref x_x2b, .ref x_x2c, .ref x_x2d, .ref x_x2e]))]) [0, 1, 2, 3, 4, 5, 6, 7] (by decide) rfl
  have hFc := va_free (wc := [(x_h0, .inr (7, [.ref x_tp, .ref x_rd, .ref x_bk, .ref x_fl, .ref x_pl])), (x_fl, .inr (1, [.ref x_bk, .int 0, .int 0, .int 0, .int 0, .int 0, .int 0])), (x_bk, .inr (0, [.int 0, .int 0, .ref x_a2, .ref x_a3, .ref x_a4, .ref x_a5, .ref x_a6, .ref x_a7, .ref x_a8, .ref x_a9, .ref x_a10, .ref x_a11, .ref x_a12, .ref x_a13, .ref x_a14])), (x_a13, .inl (cI, 4, .inl x_f)), (x_pl, .inl (cP, 3, .inr (.inr (.inr (.inr x_fp))))), (x_p0, .inr (2, [.ref x_bk, .ref x_fl, .int 0, .ref x_x0a, .int 0, .int 0, .int 0, .int 0, .int 0, .ref x_x0b, .ref x_x0c, .ref x_x0d, .ref x_x0e])), (x_p1, .inr (2, [.ref x_bk, .ref x_fl, .int 1, .ref x_x1a, .int 0, .int 0, .int 0, .int 0, .int 0, .ref x_x1b, .ref x_x1c, .ref x_x1d, .ref x_x1e])), (x_p2, .inr (2, [.ref x_bk, .ref x_fl, .int 2, .ref x_x2a, .int 0, .int 0, .int 0, .int 0, .int 0, .ref x_x2b, .ref x_x2c, .ref x_x2d, .ref x_x2e]))]) hD hS hA [0, 1, 2, 3, 4, 5, 6, 7] rfl
  refine va_calli (va_runV (As := [.int (xs 1), .int (xs 2), .int (xs 3), .int (xs 4), .int (xs 5)]) (rest := []) ⟨hx, hb, hml, hown, hts⟩ (k_flight l D cI cB cP H.size x_h0 x_tp x_rd x_bk x_fl x_pl x_a2 x_a3 x_a4 x_a5 x_a6 x_a7 x_a8 x_a9 x_a10 x_a11 x_a12 x_a13 x_a14 x_f x_fp x_p0 x_p1 x_p2 x_x0a x_x0b x_x0c x_x0d x_x0e x_x1a x_x1b x_x1c x_x1d x_x1e x_x2a x_x2b x_x2c x_x2d x_x2e (xs 1) (xs 2) (xs 3) (xs 4) (xs 5) (x_hf)) (cwV 5 hts gw_law_8 rfl rfl rfl (by decide +kernel) ⟨Nat.le_of_ble_eq_true rfl, Nat.le_of_ble_eq_true rfl⟩) ⟨ny_blind, va_recv hK hPc (ci := 7) (q0 := 0) rfl rfl, ny_pre hPc hK hN hDc⟩ rfl rfl hl.1 rfl (lv_room (Nat.le_of_ble_eq_true rfl)) dL_law_272 ⟨Nat.le_of_ble_eq_true rfl, Nat.le_of_ble_eq_true rfl⟩) hS (fun q _ h => hFc q h) hFc (fun r1 u t H locs ht hvm hw hB hz1 hk1 hS => ?_)
  obtain ⟨hP, hD⟩ := va_join (wr := [(y_m0, .inr (8, [.ref y_r0, .ref y_r1, .int 0, .int 0, .int 0, .int (-1), .int 0, .int 0, .int 0, .int 0, .long 0, .ref y_r11, .ref y_r12, .ref y_r13, .ref y_r14, .ref y_r15, .ref y_r16, .ref y_r17, .ref y_r18, .ref y_r19, .ref y_r20, .ref y_r21, .ref y_r22, .ref y_r23, .ref y_r24, .int 0, .int 0, .int 0, .int 0, .int 0, .int 0, .int 0, .int 0, .int 0, .ref y_r34, .ref y_r35, .ref y_r36, .int 0, .int 0, .ref y_r39]))]) (w1 := []) hP hD [0, 1, 2, 3, 4, 5, 6, 7] [8] rfl rfl (by decide) (by decide) hk1 hFc ny_P0 ny_D0
  have hP : va_P D vwCl [(y_m0, .inr (8, [.ref y_r0, .ref y_r1, .int 0, .int 0, .int 0, .int (-1), .int 0, .int 0, .int 0, .int 0, .long 0, .ref y_r11, .ref y_r12, .ref y_r13, .ref y_r14, .ref y_r15, .ref y_r16, .ref y_r17, .ref y_r18, .ref y_r19, .ref y_r20, .ref y_r21, .ref y_r22, .ref y_r23, .ref y_r24, .int 0, .int 0, .int 0, .int 0, .int 0, .int 0, .int 0, .int 0, .int 0, .ref y_r34, .ref y_r35, .ref y_r36, .int 0, .int 0, .ref y_r39]))] H := hP
  have hD : va_D (fun q : Nat => s.heap.size ≤ q) [(y_m0, .inr (8, [.ref y_r0, .ref y_r1, .int 0, .int 0, .int 0, .int (-1), .int 0, .int 0, .int 0, .int 0, .long 0, .ref y_r11, .ref y_r12, .ref y_r13, .ref y_r14, .ref y_r15, .ref y_r16, .ref y_r17, .ref y_r18, .ref y_r19, .ref y_r20, .ref y_r21, .ref y_r22, .ref y_r23, .ref y_r24, .int 0, .int 0, .int 0, .int 0, .int 0, .int 0, .int 0, .int 0, .int 0, .ref y_r34, .ref y_r35, .ref y_r36, .int 0, .int 0, .ref y_r39]))] := hD
  have hr1 := hw
  refine lv_aload_n hx hb dL_law_275 rfl (lv_at hl 1 rfl) ?_
  refine lv_aload_n hx hb dL_law_276 rfl (lv_at hl 3 rfl) ?_
  refine lv_iload_n hx hb dL_law_277 rfl (lv_at hl 0 rfl) ?_
  refine lv_iconst (v := 1) hx hb dL_law_278 (by decide) ?_
  refine lv_iadd hx hb dL_law_279 ?_
  refine lv_topi (fun vv ev => ?_)
  obtain rfl : vv = 1 := ev.trans (by decide)
  refine va_sld hx hb hX hbl hbA hS (show ¬ (_ ∨ _) by decide) dL_law_280 ?_
  refine lv_topi (fun vv ev => ?_)
  obtain rfl : vv = xs 1 := ev
  refine lv_aload_n hx hb dL_law_281 rfl (lv_at hl 3 rfl) ?_
  refine lv_iload_n hx hb dL_law_282 rfl (lv_at hl 0 rfl) ?_
  refine lv_iconst (v := 2) hx hb dL_law_283 (by decide) ?_
  refine lv_iadd hx hb dL_law_284 ?_
  refine lv_topi (fun vv ev => ?_)
  obtain rfl : vv = 2 := ev.trans (by decide)
  refine va_sld hx hb hX hbl hbA hS (show ¬ (_ ∨ _) by decide) dL_law_285 ?_
  refine lv_topi (fun vv ev => ?_)
  obtain rfl : vv = xs 2 := ev
  refine lv_aload_n hx hb dL_law_286 rfl (lv_at hl 3 rfl) ?_
  refine lv_iload_n hx hb dL_law_287 rfl (lv_at hl 0 rfl) ?_
  refine lv_iconst (v := 3) hx hb dL_law_288 (by decide) ?_
  refine lv_iadd hx hb dL_law_289 ?_
  refine lv_topi (fun vv ev => ?_)
  obtain rfl : vv = 3 := ev.trans (by decide)
  refine va_sld hx hb hX hbl hbA hS (show ¬ (_ ∨ _) by decide) dL_law_290 ?_
  refine lv_topi (fun vv ev => ?_)
  obtain rfl : vv = xs 3 := ev
  refine lv_aload_n hx hb dL_law_291 rfl (lv_at hl 3 rfl) ?_
  refine lv_iload_n hx hb dL_law_292 rfl (lv_at hl 0 rfl) ?_
  refine lv_iconst (v := 4) hx hb dL_law_293 (by decide) ?_
  refine lv_iadd hx hb dL_law_294 ?_
  refine lv_topi (fun vv ev => ?_)
  obtain rfl : vv = 4 := ev.trans (by decide)
  refine va_sld hx hb hX hbl hbA hS (show ¬ (_ ∨ _) by decide) dL_law_295 ?_
  refine lv_topi (fun vv ev => ?_)
  obtain rfl : vv = xs 4 := ev
  refine lv_aload_n hx hb dL_law_296 rfl (lv_at hl 3 rfl) ?_
  refine lv_iload_n hx hb dL_law_297 rfl (lv_at hl 0 rfl) ?_
  refine lv_iconst (v := 5) hx hb dL_law_298 (by decide) ?_
  refine lv_iadd hx hb dL_law_299 ?_
  refine lv_topi (fun vv ev => ?_)
  obtain rfl : vv = 5 := ev.trans (by decide)
  refine va_sld hx hb hX hbl hbA hS (show ¬ (_ ∨ _) by decide) dL_law_300 ?_
  refine lv_topi (fun vv ev => ?_)
  obtain rfl : vv = xs 5 := ev
  have hPc := hP.sub (ws' := [(y_m0, .inr (8, [.ref y_r0, .ref y_r1, .int 0, .int 0, .int 0, .int (-1), .int 0, .int 0, .int 0, .int 0, .long 0, .ref y_r11, .ref y_r12, .ref y_r13, .ref y_r14, .ref y_r15, .ref y_r16, .ref y_r17, .ref y_r18, .ref y_r19, .ref y_r20, .ref y_r21, .ref y_r22, .ref y_r23, .ref y_r24, .int 0, .int 0, .int 0, .int 0, .int 0, .int 0, .int 0, .int 0, .int 0, .ref y_r34, .ref y_r35, .ref y_r36, .int 0, .int 0, .ref y_r39]))]) [0] rfl
  have hDc := hD.sub (ws' := [(y_m0, .inr (8, [.ref y_r0, .ref y_r1, .int 0, .int 0, .int 0, .int (-1), .int 0, .int 0, .int 0, .int 0, .long 0, .ref y_r11, .ref y_r12, .ref y_r13, .ref y_r14, .ref y_r15, .ref y_r16, .ref y_r17, .ref y_r18, .ref y_r19, .ref y_r20, .ref y_r21, .ref y_r22, .ref y_r23, .ref y_r24, .int 0, .int 0, .int 0, .int 0, .int 0, .int 0, .int 0, .int 0, .int 0, .ref y_r34, .ref y_r35, .ref y_r36, .int 0, .int 0, .ref y_r39]))]) [0] (by decide) rfl
  have hFc := va_free (wc := [(y_m0, .inr (8, [.ref y_r0, .ref y_r1, .int 0, .int 0, .int 0, .int (-1), .int 0, .int 0, .int 0, .int 0, .long 0, .ref y_r11, .ref y_r12, .ref y_r13, .ref y_r14, .ref y_r15, .ref y_r16, .ref y_r17, .ref y_r18, .ref y_r19, .ref y_r20, .ref y_r21, .ref y_r22, .ref y_r23, .ref y_r24, .int 0, .int 0, .int 0, .int 0, .int 0, .int 0, .int 0, .int 0, .int 0, .ref y_r34, .ref y_r35, .ref y_r36, .int 0, .int 0, .ref y_r39]))]) hD hS hA [0] rfl
  refine va_calli (va_runV (As := [.int (xs 1), .int (xs 2), .int (xs 3), .int (xs 4), .int (xs 5)]) (rest := [.int r1]) ⟨hx, hb, hml, hown, hts⟩ (k_mflight l D cI cB cP H.size y_m0 y_r0 y_r1 y_r11 y_r12 y_r13 y_r14 y_r15 y_r16 y_r17 y_r18 y_r19 y_r20 y_r21 y_r22 y_r23 y_r24 y_r34 y_r35 y_r36 y_r39 (xs 1) (xs 2) (xs 3) (xs 4) (xs 5)) (cwV 5 hts gw_law_9 rfl rfl rfl (by decide +kernel) ⟨Nat.le_of_ble_eq_true rfl, Nat.le_of_ble_eq_true rfl⟩) ⟨ny_blind, va_recv hK hPc (ci := 8) (q0 := 0) rfl rfl, ny_pre hPc hK hN hDc⟩ rfl rfl hl.1 rfl (lv_room (Nat.le_of_ble_eq_true rfl)) dL_law_301 ⟨Nat.le_of_ble_eq_true rfl, Nat.le_of_ble_eq_true rfl⟩) hS (fun q _ h => hFc q h) hFc (fun r2 u t H locs ht hvm hw hB hz1 hk1 hS => ?_)
  obtain ⟨hP, hD⟩ := va_join (wr := []) (w1 := []) hP hD [0] [] rfl rfl (by decide) (by decide) hk1 hFc ny_P0 ny_D0
  have hP : va_P D vwCl [] H := hP
  have hD : va_D (fun q : Nat => s.heap.size ≤ q) [] := hD
  have hr2 := hw
  refine lv_icmp_eq (tgt := 791) hx hb dL_law_304 (by decide) (fun c3 => ?_) (fun h9 => absurd (ny_bool_inj hr1 hr2) h9)
  exact law_end l C0 (by decide) (by decide) hS (lv_sub hl [0, 3] rfl)

set_option maxHeartbeats 4000000 in
set_option maxRecDepth 100000 in
/-- the call told, and the end -/
theorem law_5 {p : Program} {e : Env} {s : State} {m : MethodId} {below : List Frame} {meth : Method} {c : Code} (l : Launch) {b : Nat} {xs : Nat → Int32} (C0 : lw_At p s m meth c b 6 xs) (D : va_G) (cI cB cP : ClassId) (x_h0 : Nat) (x_tp : Nat) (x_rd : Nat) (x_bk : Nat) (x_fl : Nat) (x_pl : Nat) (x_a2 : Nat) (x_a3 : Nat) (x_a4 : Nat) (x_a5 : Nat) (x_a6 : Nat) (x_a7 : Nat) (x_a8 : Nat) (x_a9 : Nat) (x_a10 : Nat) (x_a11 : Nat) (x_a12 : Nat) (x_a13 : Nat) (x_a14 : Nat) (x_f9 : Nat → Int32) (x_f11 : Nat → Int32) (x_f12 : Nat → Int32) (x_f13 : Nat → Int32) (y_m0 : Nat) (y_r0 : Nat) (y_r1 : Nat) (y_r11 : Nat) (y_r12 : Nat) (y_r13 : Nat) (y_r14 : Nat) (y_r15 : Nat) (y_r16 : Nat) (y_r17 : Nat) (y_r18 : Nat) (y_r19 : Nat) (y_r20 : Nat) (y_r21 : Nat) (y_r22 : Nat) (y_r23 : Nat) (y_r24 : Nat) (y_r34 : Nat) (y_r35 : Nat) (y_r36 : Nat) (y_r39 : Nat) (y_f12 : Nat → Int32) (y_f20 : Nat → Int32) (y_f22 : Nat → Int32) (y_f23 : Nat → Int32) (y_f24 : Nat → Int32) (x_h9s : ∀ k : Nat, k < 6 → x_f9 k = 400) (x_h9b : ∀ k : Nat, k < 30 → x_f11 k = 1000) (x_h9c : ∀ k : Nat, k < 6 → x_f12 k = 0) (x_h9l : x_f13 0 = 30000 ∧ x_f13 1 = 60000 ∧ x_f13 2 = 60000 ∧ x_f13 3 = 0) (y_h12 : y_f12 0 = 0) (y_u20 : ∀ k : Nat, k < 6 → y_f20 k = -100000) (y_u22 : ∀ k : Nat, k < 30 → y_f22 k = -100000) (y_u23 : ∀ k : Nat, k < 6 → y_f23 k = -100000) (y_u24 : ∀ k : Nat, k < 4 → y_f24 k = -100000) {H : Heap} {locs : List Loc} {ls : Array Slot} (hK : va_K D vwCl (TY cI cB cP) s) (hN : nw s) (hP : va_P D vwCl [(x_h0, .inr (7, [.ref x_tp, .ref x_rd, .ref x_bk, .ref x_fl, .ref x_pl])), (x_bk, .inr (0, [.int 0, .int 0, .ref x_a2, .ref x_a3, .ref x_a4, .ref x_a5, .ref x_a6, .ref x_a7, .ref x_a8, .ref x_a9, .ref x_a10, .ref x_a11, .ref x_a12, .ref x_a13, .ref x_a14])), (x_a9, .inl (cI, 6, .inl x_f9)), (x_a11, .inl (cI, 30, .inl x_f11)), (x_a12, .inl (cI, 6, .inl x_f12)), (x_a13, .inl (cI, 4, .inl x_f13)), (y_m0, .inr (8, [.ref y_r0, .ref y_r1, .int 0, .int 0, .int 0, .int (-1), .int 0, .int 0, .int 0, .int 0, .long 0, .ref y_r11, .ref y_r12, .ref y_r13, .ref y_r14, .ref y_r15, .ref y_r16, .ref y_r17, .ref y_r18, .ref y_r19, .ref y_r20, .ref y_r21, .ref y_r22, .ref y_r23, .ref y_r24, .int 0, .int 0, .int 0, .int 0, .int 0, .int 0, .int 0, .int 0, .int 0, .ref y_r34, .ref y_r35, .ref y_r36, .int 0, .int 0, .ref y_r39])), (y_r12, .inl (cI, 2, .inl y_f12)), (y_r20, .inl (cI, 12, .inl y_f20)), (y_r22, .inl (cI, 60, .inl y_f22)), (y_r23, .inl (cI, 12, .inl y_f23)), (y_r24, .inl (cI, 8, .inl y_f24))] H) (hD : va_D (fun q : Nat => s.heap.size ≤ q) [(x_h0, .inr (7, [.ref x_tp, .ref x_rd, .ref x_bk, .ref x_fl, .ref x_pl])), (x_bk, .inr (0, [.int 0, .int 0, .ref x_a2, .ref x_a3, .ref x_a4, .ref x_a5, .ref x_a6, .ref x_a7, .ref x_a8, .ref x_a9, .ref x_a10, .ref x_a11, .ref x_a12, .ref x_a13, .ref x_a14])), (x_a9, .inl (cI, 6, .inl x_f9)), (x_a11, .inl (cI, 30, .inl x_f11)), (x_a12, .inl (cI, 6, .inl x_f12)), (x_a13, .inl (cI, 4, .inl x_f13)), (y_m0, .inr (8, [.ref y_r0, .ref y_r1, .int 0, .int 0, .int 0, .int (-1), .int 0, .int 0, .int 0, .int 0, .long 0, .ref y_r11, .ref y_r12, .ref y_r13, .ref y_r14, .ref y_r15, .ref y_r16, .ref y_r17, .ref y_r18, .ref y_r19, .ref y_r20, .ref y_r21, .ref y_r22, .ref y_r23, .ref y_r24, .int 0, .int 0, .int 0, .int 0, .int 0, .int 0, .int 0, .int 0, .int 0, .ref y_r34, .ref y_r35, .ref y_r36, .int 0, .int 0, .ref y_r39])), (y_r12, .inl (cI, 2, .inl y_f12)), (y_r20, .inl (cI, 12, .inl y_f20)), (y_r22, .inl (cI, 60, .inl y_f22)), (y_r23, .inl (cI, 12, .inl y_f23)), (y_r24, .inl (cI, 8, .inl y_f24))]) (hS : va_S (fun q : Nat => s.heap.size ≤ q) s.heap H locs) (hl : lv_has ls 4 [(3, .int 0), (2, .ref y_m0), (1, .ref x_h0), (0, .ref b)]) : W p l e room_1 s m #[Value.ref b] below meth c H locs 86 7510 (lw_Z below #[Value.ref b] s) (F0 m 309 ls []) := by
  obtain ⟨hx, hb, hr, hml, hown, hts, hX, hbl, hlocks, hgv⟩ := id C0
  have hown : s.vm.findClass RL = some m.cls := hown
  have hA : ∀ q : Nat, s.heap.size ≤ q → (fun q : Nat => s.heap.size ≤ q) q := fun _ h => h
  have hbA : ¬ (fun q : Nat => s.heap.size ≤ q) b := Nat.not_le.mpr hbl
  refine lv_aload_n hx hb dL_law_309 rfl (lv_at hl 2 rfl) ?_
  refine lv_aload_n hx hb dL_law_310 rfl (lv_at hl 3 rfl) ?_
  refine lv_iload_n hx hb dL_law_311 rfl (lv_at hl 0 rfl) ?_
  refine lv_iconst (v := 1) hx hb dL_law_312 (by decide) ?_
  refine lv_iadd hx hb dL_law_313 ?_
  refine lv_topi (fun vv ev => ?_)
  obtain rfl : vv = 1 := ev.trans (by decide)
  refine va_sld hx hb hX hbl hbA hS (show ¬ (_ ∨ _) by decide) dL_law_314 ?_
  refine lv_topi (fun vv ev => ?_)
  obtain rfl : vv = xs 1 := ev
  refine lv_aload_n hx hb dL_law_315 rfl (lv_at hl 3 rfl) ?_
  refine lv_iload_n hx hb dL_law_316 rfl (lv_at hl 0 rfl) ?_
  refine lv_iconst (v := 2) hx hb dL_law_317 (by decide) ?_
  refine lv_iadd hx hb dL_law_318 ?_
  refine lv_topi (fun vv ev => ?_)
  obtain rfl : vv = 2 := ev.trans (by decide)
  refine va_sld hx hb hX hbl hbA hS (show ¬ (_ ∨ _) by decide) dL_law_319 ?_
  refine lv_topi (fun vv ev => ?_)
  obtain rfl : vv = xs 2 := ev
  refine lv_aload_n hx hb dL_law_320 rfl (lv_at hl 3 rfl) ?_
  refine lv_iload_n hx hb dL_law_321 rfl (lv_at hl 0 rfl) ?_
  refine lv_iconst (v := 3) hx hb dL_law_322 (by decide) ?_
  refine lv_iadd hx hb dL_law_323 ?_
  refine lv_topi (fun vv ev => ?_)
  obtain rfl : vv = 3 := ev.trans (by decide)
  refine va_sld hx hb hX hbl hbA hS (show ¬ (_ ∨ _) by decide) dL_law_324 ?_
  refine lv_topi (fun vv ev => ?_)
  obtain rfl : vv = xs 3 := ev
  refine lv_aload_n hx hb dL_law_325 rfl (lv_at hl 3 rfl) ?_
  refine lv_iload_n hx hb dL_law_326 rfl (lv_at hl 0 rfl) ?_
  refine lv_iconst (v := 4) hx hb dL_law_327 (by decide) ?_
  refine lv_iadd hx hb dL_law_328 ?_
  refine lv_topi (fun vv ev => ?_)
  obtain rfl : vv = 4 := ev.trans (by decide)
  refine va_sld hx hb hX hbl hbA hS (show ¬ (_ ∨ _) by decide) dL_law_329 ?_
  refine lv_topi (fun vv ev => ?_)
  obtain rfl : vv = xs 4 := ev
  have hPc := hP.sub (ws' := [(x_h0, .inr (7, [.ref x_tp, .ref x_rd, .ref x_bk, .ref x_fl, .ref x_pl])), (x_bk, .inr (0, [.int 0, .int 0, .ref x_a2, .ref x_a3, .ref x_a4, .ref x_a5, .ref x_a6, .ref x_a7, .ref x_a8, .ref x_a9, .ref x_a10, .ref x_a11, .ref x_a12, .ref x_a13, .ref x_a14])), (x_a9, .inl (cI, 6, .inl x_f9)), (x_a11, .inl (cI, 30, .inl x_f11)), (x_a12, .inl (cI, 6, .inl x_f12)), (x_a13, .inl (cI, 4, .inl x_f13))]) [0, 1, 2, 3, 4, 5] rfl
  have hDc := hD.sub (ws' := [(x_h0, .inr (7, [.ref x_tp, .ref x_rd, .ref x_bk, .ref x_fl, .ref x_pl])), (x_bk, .inr (0, [.int 0, .int 0, .ref x_a2, .ref x_a3, .ref x_a4, .ref x_a5, .ref x_a6, .ref x_a7, .ref x_a8, .ref x_a9, .ref x_a10, .ref x_a11, .ref x_a12, .ref x_a13, .ref x_a14])), (x_a9, .inl (cI, 6, .inl x_f9)), (x_a11, .inl (cI, 30, .inl x_f11)), (x_a12, .inl (cI, 6, .inl x_f12)), (x_a13, .inl (cI, 4, .inl x_f13))]) [0, 1, 2, 3, 4, 5] (by decide) rfl
  have hFc := va_free (wc := [(x_h0, .inr (7, [.ref x_tp, .ref x_rd, .ref x_bk, .ref x_fl, .ref x_pl])), (x_bk, .inr (0, [.int 0, .int 0, .ref x_a2, .ref x_a3, .ref x_a4, .ref x_a5, .ref x_a6, .ref x_a7, .ref x_a8, .ref x_a9, .ref x_a10, .ref x_a11, .ref x_a12, .ref x_a13, .ref x_a14])), (x_a9, .inl (cI, 6, .inl x_f9)), (x_a11, .inl (cI, 30, .inl x_f11)), (x_a12, .inl (cI, 6, .inl x_f12)), (x_a13, .inl (cI, 4, .inl x_f13))]) hD hS hA [0, 1, 2, 3, 4, 5] rfl
  refine va_calli (va_runV (As := [.int (xs 1), .int (xs 2), .int (xs 3), .int (xs 4)]) (rest := []) ⟨hx, hb, hml, hown, hts⟩ (k_told l D cI cB cP H.size x_h0 x_tp x_rd x_bk x_fl x_pl x_a2 x_a3 x_a4 x_a5 x_a6 x_a7 x_a8 x_a9 x_a10 x_a11 x_a12 x_a13 x_a14 x_f9 x_f11 x_f12 x_f13 (xs 1) (xs 2) (xs 3) (xs 4) (x_h9s) (x_h9b) (x_h9c) (x_h9l)) (cwV 4 hts gw_law_10 rfl rfl rfl (by decide +kernel) ⟨Nat.le_of_ble_eq_true rfl, Nat.le_of_ble_eq_true rfl⟩) ⟨ny_blind, va_recv hK hPc (ci := 7) (q0 := 0) rfl rfl, ny_pre hPc hK hN hDc⟩ rfl rfl hl.1 rfl (lv_room (Nat.le_of_ble_eq_true rfl)) dL_law_330 ⟨Nat.le_of_ble_eq_true rfl, Nat.le_of_ble_eq_true rfl⟩) hS (fun q _ h => hFc q h) hFc (fun r1 u t H locs ht hvm hw hB hz1 hk1 hS => ?_)
  obtain ⟨hP, hD⟩ := va_join (wr := [(y_m0, .inr (8, [.ref y_r0, .ref y_r1, .int 0, .int 0, .int 0, .int (-1), .int 0, .int 0, .int 0, .int 0, .long 0, .ref y_r11, .ref y_r12, .ref y_r13, .ref y_r14, .ref y_r15, .ref y_r16, .ref y_r17, .ref y_r18, .ref y_r19, .ref y_r20, .ref y_r21, .ref y_r22, .ref y_r23, .ref y_r24, .int 0, .int 0, .int 0, .int 0, .int 0, .int 0, .int 0, .int 0, .int 0, .ref y_r34, .ref y_r35, .ref y_r36, .int 0, .int 0, .ref y_r39])), (y_r12, .inl (cI, 2, .inl y_f12)), (y_r20, .inl (cI, 12, .inl y_f20)), (y_r22, .inl (cI, 60, .inl y_f22)), (y_r23, .inl (cI, 12, .inl y_f23)), (y_r24, .inl (cI, 8, .inl y_f24))]) (w1 := []) hP hD [0, 1, 2, 3, 4, 5] [6, 7, 8, 9, 10, 11] rfl rfl (by decide) (by decide) hk1 hFc ny_P0 ny_D0
  have hP : va_P D vwCl [(y_m0, .inr (8, [.ref y_r0, .ref y_r1, .int 0, .int 0, .int 0, .int (-1), .int 0, .int 0, .int 0, .int 0, .long 0, .ref y_r11, .ref y_r12, .ref y_r13, .ref y_r14, .ref y_r15, .ref y_r16, .ref y_r17, .ref y_r18, .ref y_r19, .ref y_r20, .ref y_r21, .ref y_r22, .ref y_r23, .ref y_r24, .int 0, .int 0, .int 0, .int 0, .int 0, .int 0, .int 0, .int 0, .int 0, .ref y_r34, .ref y_r35, .ref y_r36, .int 0, .int 0, .ref y_r39])), (y_r12, .inl (cI, 2, .inl y_f12)), (y_r20, .inl (cI, 12, .inl y_f20)), (y_r22, .inl (cI, 60, .inl y_f22)), (y_r23, .inl (cI, 12, .inl y_f23)), (y_r24, .inl (cI, 8, .inl y_f24))] H := hP
  have hD : va_D (fun q : Nat => s.heap.size ≤ q) [(y_m0, .inr (8, [.ref y_r0, .ref y_r1, .int 0, .int 0, .int 0, .int (-1), .int 0, .int 0, .int 0, .int 0, .long 0, .ref y_r11, .ref y_r12, .ref y_r13, .ref y_r14, .ref y_r15, .ref y_r16, .ref y_r17, .ref y_r18, .ref y_r19, .ref y_r20, .ref y_r21, .ref y_r22, .ref y_r23, .ref y_r24, .int 0, .int 0, .int 0, .int 0, .int 0, .int 0, .int 0, .int 0, .int 0, .ref y_r34, .ref y_r35, .ref y_r36, .int 0, .int 0, .ref y_r39])), (y_r12, .inl (cI, 2, .inl y_f12)), (y_r20, .inl (cI, 12, .inl y_f20)), (y_r22, .inl (cI, 60, .inl y_f22)), (y_r23, .inl (cI, 12, .inl y_f23)), (y_r24, .inl (cI, 8, .inl y_f24))] := hD
  have hr1 := hw
  refine lv_aload_n hx hb dL_law_333 rfl (lv_at hl 1 rfl) ?_
  refine lv_aload_n hx hb dL_law_334 rfl (lv_at hl 3 rfl) ?_
  refine lv_iload_n hx hb dL_law_335 rfl (lv_at hl 0 rfl) ?_
  refine lv_iconst (v := 1) hx hb dL_law_336 (by decide) ?_
  refine lv_iadd hx hb dL_law_337 ?_
  refine lv_topi (fun vv ev => ?_)
  obtain rfl : vv = 1 := ev.trans (by decide)
  refine va_sld hx hb hX hbl hbA hS (show ¬ (_ ∨ _) by decide) dL_law_338 ?_
  refine lv_topi (fun vv ev => ?_)
  obtain rfl : vv = xs 1 := ev
  refine lv_aload_n hx hb dL_law_339 rfl (lv_at hl 3 rfl) ?_
  refine lv_iload_n hx hb dL_law_340 rfl (lv_at hl 0 rfl) ?_
  refine lv_iconst (v := 2) hx hb dL_law_341 (by decide) ?_
  refine lv_iadd hx hb dL_law_342 ?_
  refine lv_topi (fun vv ev => ?_)
  obtain rfl : vv = 2 := ev.trans (by decide)
  refine va_sld hx hb hX hbl hbA hS (show ¬ (_ ∨ _) by decide) dL_law_343 ?_
  refine lv_topi (fun vv ev => ?_)
  obtain rfl : vv = xs 2 := ev
  refine lv_aload_n hx hb dL_law_344 rfl (lv_at hl 3 rfl) ?_
  refine lv_iload_n hx hb dL_law_345 rfl (lv_at hl 0 rfl) ?_
  refine lv_iconst (v := 3) hx hb dL_law_346 (by decide) ?_
  refine lv_iadd hx hb dL_law_347 ?_
  refine lv_topi (fun vv ev => ?_)
  obtain rfl : vv = 3 := ev.trans (by decide)
  refine va_sld hx hb hX hbl hbA hS (show ¬ (_ ∨ _) by decide) dL_law_348 ?_
  refine lv_topi (fun vv ev => ?_)
  obtain rfl : vv = xs 3 := ev
  refine lv_aload_n hx hb dL_law_349 rfl (lv_at hl 3 rfl) ?_
  refine lv_iload_n hx hb dL_law_350 rfl (lv_at hl 0 rfl) ?_
  refine lv_iconst (v := 4) hx hb dL_law_351 (by decide) ?_
  refine lv_iadd hx hb dL_law_352 ?_
  refine lv_topi (fun vv ev => ?_)
  obtain rfl : vv = 4 := ev.trans (by decide)
  refine va_sld hx hb hX hbl hbA hS (show ¬ (_ ∨ _) by decide) dL_law_353 ?_
  refine lv_topi (fun vv ev => ?_)
  obtain rfl : vv = xs 4 := ev
  have hPc := hP.sub (ws' := [(y_m0, .inr (8, [.ref y_r0, .ref y_r1, .int 0, .int 0, .int 0, .int (-1), .int 0, .int 0, .int 0, .int 0, .long 0, .ref y_r11, .ref y_r12, .ref y_r13, .ref y_r14, .ref y_r15, .ref y_r16, .ref y_r17, .ref y_r18, .ref y_r19, .ref y_r20, .ref y_r21, .ref y_r22, .ref y_r23, .ref y_r24, .int 0, .int 0, .int 0, .int 0, .int 0, .int 0, .int 0, .int 0, .int 0, .ref y_r34, .ref y_r35, .ref y_r36, .int 0, .int 0, .ref y_r39])), (y_r12, .inl (cI, 2, .inl y_f12)), (y_r20, .inl (cI, 12, .inl y_f20)), (y_r22, .inl (cI, 60, .inl y_f22)), (y_r23, .inl (cI, 12, .inl y_f23)), (y_r24, .inl (cI, 8, .inl y_f24))]) [0, 1, 2, 3, 4, 5] rfl
  have hDc := hD.sub (ws' := [(y_m0, .inr (8, [.ref y_r0, .ref y_r1, .int 0, .int 0, .int 0, .int (-1), .int 0, .int 0, .int 0, .int 0, .long 0, .ref y_r11, .ref y_r12, .ref y_r13, .ref y_r14, .ref y_r15, .ref y_r16, .ref y_r17, .ref y_r18, .ref y_r19, .ref y_r20, .ref y_r21, .ref y_r22, .ref y_r23, .ref y_r24, .int 0, .int 0, .int 0, .int 0, .int 0, .int 0, .int 0, .int 0, .int 0, .ref y_r34, .ref y_r35, .ref y_r36, .int 0, .int 0, .ref y_r39])), (y_r12, .inl (cI, 2, .inl y_f12)), (y_r20, .inl (cI, 12, .inl y_f20)), (y_r22, .inl (cI, 60, .inl y_f22)), (y_r23, .inl (cI, 12, .inl y_f23)), (y_r24, .inl (cI, 8, .inl y_f24))]) [0, 1, 2, 3, 4, 5] (by decide) rfl
  have hFc := va_free (wc := [(y_m0, .inr (8, [.ref y_r0, .ref y_r1, .int 0, .int 0, .int 0, .int (-1), .int 0, .int 0, .int 0, .int 0, .long 0, .ref y_r11, .ref y_r12, .ref y_r13, .ref y_r14, .ref y_r15, .ref y_r16, .ref y_r17, .ref y_r18, .ref y_r19, .ref y_r20, .ref y_r21, .ref y_r22, .ref y_r23, .ref y_r24, .int 0, .int 0, .int 0, .int 0, .int 0, .int 0, .int 0, .int 0, .int 0, .ref y_r34, .ref y_r35, .ref y_r36, .int 0, .int 0, .ref y_r39])), (y_r12, .inl (cI, 2, .inl y_f12)), (y_r20, .inl (cI, 12, .inl y_f20)), (y_r22, .inl (cI, 60, .inl y_f22)), (y_r23, .inl (cI, 12, .inl y_f23)), (y_r24, .inl (cI, 8, .inl y_f24))]) hD hS hA [0, 1, 2, 3, 4, 5] rfl
  refine va_calli (va_runV (As := [.int (xs 1), .int (xs 2), .int (xs 3), .int (xs 4)]) (rest := [.int r1]) ⟨hx, hb, hml, hown, hts⟩ (k_mtold l D cI cB cP H.size y_m0 y_r0 y_r1 y_r11 y_r12 y_r13 y_r14 y_r15 y_r16 y_r17 y_r18 y_r19 y_r20 y_r21 y_r22 y_r23 y_r24 y_r34 y_r35 y_r36 y_r39 (xs 1) (xs 2) (xs 3) (xs 4) y_f12 y_f20 y_f22 y_f23 y_f24 (y_h12) (y_u20) (y_u22) (y_u23) (y_u24)) (cwV 4 hts gw_law_11 rfl rfl rfl (by decide +kernel) ⟨Nat.le_of_ble_eq_true rfl, Nat.le_of_ble_eq_true rfl⟩) ⟨ny_blind, va_recv hK hPc (ci := 8) (q0 := 0) rfl rfl, ny_pre hPc hK hN hDc⟩ rfl rfl hl.1 rfl (lv_room (Nat.le_of_ble_eq_true rfl)) dL_law_354 ⟨Nat.le_of_ble_eq_true rfl, Nat.le_of_ble_eq_true rfl⟩) hS (fun q _ h => hFc q h) hFc (fun r2 u t H locs ht hvm hw hB hz1 hk1 hS => ?_)
  obtain ⟨hP, hD⟩ := va_join (wr := []) (w1 := []) hP hD [0, 1, 2, 3, 4, 5] [] rfl rfl (by decide) (by decide) hk1 hFc ny_P0 ny_D0
  have hP : va_P D vwCl [] H := hP
  have hD : va_D (fun q : Nat => s.heap.size ≤ q) [] := hD
  have hr2 := hw
  refine lv_icmp_eq (tgt := 791) hx hb dL_law_357 (by decide) (fun c3 => ?_) (fun h9 => absurd (hr1.trans hr2.symm) h9)
  exact law_end l C0 (by decide) (by decide) hS (lv_sub hl [0, 3] rfl)

set_option maxHeartbeats 4000000 in
set_option maxRecDepth 100000 in
/-- the call minutes, and the end -/
theorem law_6 {p : Program} {e : Env} {s : State} {m : MethodId} {below : List Frame} {meth : Method} {c : Code} (l : Launch) {b : Nat} {xs : Nat → Int32} (C0 : lw_At p s m meth c b 6 xs) (D : va_G) (cI cB cP : ClassId) (x_h0 : Nat) (x_tp : Nat) (x_rd : Nat) (x_bk : Nat) (x_fl : Nat) (x_pl : Nat) (y_m0 : Nat) (y_r0 : Nat) (y_r1 : Nat) (y_r11 : Nat) (y_r12 : Nat) (y_r13 : Nat) (y_r14 : Nat) (y_r15 : Nat) (y_r16 : Nat) (y_r17 : Nat) (y_r18 : Nat) (y_r19 : Nat) (y_r20 : Nat) (y_r21 : Nat) (y_r22 : Nat) (y_r23 : Nat) (y_r24 : Nat) (y_r34 : Nat) (y_r35 : Nat) (y_r36 : Nat) (y_r39 : Nat) {H : Heap} {locs : List Loc} {ls : Array Slot} (hK : va_K D vwCl (TY cI cB cP) s) (hN : nw s) (hP : va_P D vwCl [(x_h0, .inr (7, [.ref x_tp, .ref x_rd, .ref x_bk, .ref x_fl, .ref x_pl])), (x_fl, .inr (1, [.ref x_bk, .int 0, .int 0, .int 0, .int 0, .int 0, .int 0])), (y_m0, .inr (8, [.ref y_r0, .ref y_r1, .int 0, .int 0, .int 0, .int (-1), .int 0, .int 0, .int 0, .int 0, .long 0, .ref y_r11, .ref y_r12, .ref y_r13, .ref y_r14, .ref y_r15, .ref y_r16, .ref y_r17, .ref y_r18, .ref y_r19, .ref y_r20, .ref y_r21, .ref y_r22, .ref y_r23, .ref y_r24, .int 0, .int 0, .int 0, .int 0, .int 0, .int 0, .int 0, .int 0, .int 0, .ref y_r34, .ref y_r35, .ref y_r36, .int 0, .int 0, .ref y_r39]))] H) (hD : va_D (fun q : Nat => s.heap.size ≤ q) [(x_h0, .inr (7, [.ref x_tp, .ref x_rd, .ref x_bk, .ref x_fl, .ref x_pl])), (x_fl, .inr (1, [.ref x_bk, .int 0, .int 0, .int 0, .int 0, .int 0, .int 0])), (y_m0, .inr (8, [.ref y_r0, .ref y_r1, .int 0, .int 0, .int 0, .int (-1), .int 0, .int 0, .int 0, .int 0, .long 0, .ref y_r11, .ref y_r12, .ref y_r13, .ref y_r14, .ref y_r15, .ref y_r16, .ref y_r17, .ref y_r18, .ref y_r19, .ref y_r20, .ref y_r21, .ref y_r22, .ref y_r23, .ref y_r24, .int 0, .int 0, .int 0, .int 0, .int 0, .int 0, .int 0, .int 0, .int 0, .ref y_r34, .ref y_r35, .ref y_r36, .int 0, .int 0, .ref y_r39]))]) (hS : va_S (fun q : Nat => s.heap.size ≤ q) s.heap H locs) (hl : lv_has ls 4 [(3, .int 0), (2, .ref y_m0), (1, .ref x_h0), (0, .ref b)]) : W p l e room_1 s m #[Value.ref b] below meth c H locs 86 7510 (lw_Z below #[Value.ref b] s) (F0 m 362 ls []) := by
  obtain ⟨hx, hb, hr, hml, hown, hts, hX, hbl, hlocks, hgv⟩ := id C0
  have hown : s.vm.findClass RL = some m.cls := hown
  have hA : ∀ q : Nat, s.heap.size ≤ q → (fun q : Nat => s.heap.size ≤ q) q := fun _ h => h
  have hbA : ¬ (fun q : Nat => s.heap.size ≤ q) b := Nat.not_le.mpr hbl
  refine lv_aload_n hx hb dL_law_362 rfl (lv_at hl 2 rfl) ?_
  refine lv_aload_n hx hb dL_law_363 rfl (lv_at hl 3 rfl) ?_
  refine lv_iload_n hx hb dL_law_364 rfl (lv_at hl 0 rfl) ?_
  refine lv_iconst (v := 1) hx hb dL_law_365 (by decide) ?_
  refine lv_iadd hx hb dL_law_366 ?_
  refine lv_topi (fun vv ev => ?_)
  obtain rfl : vv = 1 := ev.trans (by decide)
  refine va_sld hx hb hX hbl hbA hS (show ¬ (_ ∨ _) by decide) dL_law_367 ?_
  refine lv_topi (fun vv ev => ?_)
  obtain rfl : vv = xs 1 := ev
  refine lv_aload_n hx hb dL_law_368 rfl (lv_at hl 3 rfl) ?_
  refine lv_iload_n hx hb dL_law_369 rfl (lv_at hl 0 rfl) ?_
  refine lv_iconst (v := 2) hx hb dL_law_370 (by decide) ?_
  refine lv_iadd hx hb dL_law_371 ?_
  refine lv_topi (fun vv ev => ?_)
  obtain rfl : vv = 2 := ev.trans (by decide)
  refine va_sld hx hb hX hbl hbA hS (show ¬ (_ ∨ _) by decide) dL_law_372 ?_
  refine lv_topi (fun vv ev => ?_)
  obtain rfl : vv = xs 2 := ev
  refine lv_aload_n hx hb dL_law_373 rfl (lv_at hl 3 rfl) ?_
  refine lv_iload_n hx hb dL_law_374 rfl (lv_at hl 0 rfl) ?_
  refine lv_iconst (v := 3) hx hb dL_law_375 (by decide) ?_
  refine lv_iadd hx hb dL_law_376 ?_
  refine lv_topi (fun vv ev => ?_)
  obtain rfl : vv = 3 := ev.trans (by decide)
  refine va_sld hx hb hX hbl hbA hS (show ¬ (_ ∨ _) by decide) dL_law_377 ?_
  refine lv_topi (fun vv ev => ?_)
  obtain rfl : vv = xs 3 := ev
  have hPc := hP.sub (ws' := [(x_h0, .inr (7, [.ref x_tp, .ref x_rd, .ref x_bk, .ref x_fl, .ref x_pl])), (x_fl, .inr (1, [.ref x_bk, .int 0, .int 0, .int 0, .int 0, .int 0, .int 0]))]) [0, 1] rfl
  have hDc := hD.sub (ws' := [(x_h0, .inr (7, [.ref x_tp, .ref x_rd, .ref x_bk, .ref x_fl, .ref x_pl])), (x_fl, .inr (1, [.ref x_bk, .int 0, .int 0, .int 0, .int 0, .int 0, .int 0]))]) [0, 1] (by decide) rfl
  have hFc := va_free (wc := [(x_h0, .inr (7, [.ref x_tp, .ref x_rd, .ref x_bk, .ref x_fl, .ref x_pl])), (x_fl, .inr (1, [.ref x_bk, .int 0, .int 0, .int 0, .int 0, .int 0, .int 0]))]) hD hS hA [0, 1] rfl
  refine va_calli (va_runV (As := [.int (xs 1), .int (xs 2), .int (xs 3)]) (rest := []) ⟨hx, hb, hml, hown, hts⟩ (k_minutes l D cI cB cP H.size x_h0 x_tp x_rd x_bk x_fl x_pl (xs 1) (xs 2) (xs 3)) (cwV 3 hts gw_law_12 rfl rfl rfl (by decide +kernel) ⟨Nat.le_of_ble_eq_true rfl, Nat.le_of_ble_eq_true rfl⟩) ⟨ny_blind, va_recv hK hPc (ci := 7) (q0 := 0) rfl rfl, ny_pre hPc hK hN hDc⟩ rfl rfl hl.1 rfl (lv_room (Nat.le_of_ble_eq_true rfl)) dL_law_378 ⟨Nat.le_of_ble_eq_true rfl, Nat.le_of_ble_eq_true rfl⟩) hS (fun q _ h => hFc q h) hFc (fun r1 u t H locs ht hvm hw hB hz1 hk1 hS => ?_)
  obtain ⟨hP, hD⟩ := va_join (wr := [(y_m0, .inr (8, [.ref y_r0, .ref y_r1, .int 0, .int 0, .int 0, .int (-1), .int 0, .int 0, .int 0, .int 0, .long 0, .ref y_r11, .ref y_r12, .ref y_r13, .ref y_r14, .ref y_r15, .ref y_r16, .ref y_r17, .ref y_r18, .ref y_r19, .ref y_r20, .ref y_r21, .ref y_r22, .ref y_r23, .ref y_r24, .int 0, .int 0, .int 0, .int 0, .int 0, .int 0, .int 0, .int 0, .int 0, .ref y_r34, .ref y_r35, .ref y_r36, .int 0, .int 0, .ref y_r39]))]) (w1 := []) hP hD [0, 1] [2] rfl rfl (by decide) (by decide) hk1 hFc ny_P0 ny_D0
  have hP : va_P D vwCl [(y_m0, .inr (8, [.ref y_r0, .ref y_r1, .int 0, .int 0, .int 0, .int (-1), .int 0, .int 0, .int 0, .int 0, .long 0, .ref y_r11, .ref y_r12, .ref y_r13, .ref y_r14, .ref y_r15, .ref y_r16, .ref y_r17, .ref y_r18, .ref y_r19, .ref y_r20, .ref y_r21, .ref y_r22, .ref y_r23, .ref y_r24, .int 0, .int 0, .int 0, .int 0, .int 0, .int 0, .int 0, .int 0, .int 0, .ref y_r34, .ref y_r35, .ref y_r36, .int 0, .int 0, .ref y_r39]))] H := hP
  have hD : va_D (fun q : Nat => s.heap.size ≤ q) [(y_m0, .inr (8, [.ref y_r0, .ref y_r1, .int 0, .int 0, .int 0, .int (-1), .int 0, .int 0, .int 0, .int 0, .long 0, .ref y_r11, .ref y_r12, .ref y_r13, .ref y_r14, .ref y_r15, .ref y_r16, .ref y_r17, .ref y_r18, .ref y_r19, .ref y_r20, .ref y_r21, .ref y_r22, .ref y_r23, .ref y_r24, .int 0, .int 0, .int 0, .int 0, .int 0, .int 0, .int 0, .int 0, .int 0, .ref y_r34, .ref y_r35, .ref y_r36, .int 0, .int 0, .ref y_r39]))] := hD
  subst hw
  refine lv_aload_n hx hb dL_law_381 rfl (lv_at hl 1 rfl) ?_
  refine lv_aload_n hx hb dL_law_382 rfl (lv_at hl 3 rfl) ?_
  refine lv_iload_n hx hb dL_law_383 rfl (lv_at hl 0 rfl) ?_
  refine lv_iconst (v := 1) hx hb dL_law_384 (by decide) ?_
  refine lv_iadd hx hb dL_law_385 ?_
  refine lv_topi (fun vv ev => ?_)
  obtain rfl : vv = 1 := ev.trans (by decide)
  refine va_sld hx hb hX hbl hbA hS (show ¬ (_ ∨ _) by decide) dL_law_386 ?_
  refine lv_topi (fun vv ev => ?_)
  obtain rfl : vv = xs 1 := ev
  refine lv_aload_n hx hb dL_law_387 rfl (lv_at hl 3 rfl) ?_
  refine lv_iload_n hx hb dL_law_388 rfl (lv_at hl 0 rfl) ?_
  refine lv_iconst (v := 2) hx hb dL_law_389 (by decide) ?_
  refine lv_iadd hx hb dL_law_390 ?_
  refine lv_topi (fun vv ev => ?_)
  obtain rfl : vv = 2 := ev.trans (by decide)
  refine va_sld hx hb hX hbl hbA hS (show ¬ (_ ∨ _) by decide) dL_law_391 ?_
  refine lv_topi (fun vv ev => ?_)
  obtain rfl : vv = xs 2 := ev
  refine lv_aload_n hx hb dL_law_392 rfl (lv_at hl 3 rfl) ?_
  refine lv_iload_n hx hb dL_law_393 rfl (lv_at hl 0 rfl) ?_
  refine lv_iconst (v := 3) hx hb dL_law_394 (by decide) ?_
  refine lv_iadd hx hb dL_law_395 ?_
  refine lv_topi (fun vv ev => ?_)
  obtain rfl : vv = 3 := ev.trans (by decide)
  refine va_sld hx hb hX hbl hbA hS (show ¬ (_ ∨ _) by decide) dL_law_396 ?_
  refine lv_topi (fun vv ev => ?_)
  obtain rfl : vv = xs 3 := ev
  have hPc := hP.sub (ws' := [(y_m0, .inr (8, [.ref y_r0, .ref y_r1, .int 0, .int 0, .int 0, .int (-1), .int 0, .int 0, .int 0, .int 0, .long 0, .ref y_r11, .ref y_r12, .ref y_r13, .ref y_r14, .ref y_r15, .ref y_r16, .ref y_r17, .ref y_r18, .ref y_r19, .ref y_r20, .ref y_r21, .ref y_r22, .ref y_r23, .ref y_r24, .int 0, .int 0, .int 0, .int 0, .int 0, .int 0, .int 0, .int 0, .int 0, .ref y_r34, .ref y_r35, .ref y_r36, .int 0, .int 0, .ref y_r39]))]) [0] rfl
  have hDc := hD.sub (ws' := [(y_m0, .inr (8, [.ref y_r0, .ref y_r1, .int 0, .int 0, .int 0, .int (-1), .int 0, .int 0, .int 0, .int 0, .long 0, .ref y_r11, .ref y_r12, .ref y_r13, .ref y_r14, .ref y_r15, .ref y_r16, .ref y_r17, .ref y_r18, .ref y_r19, .ref y_r20, .ref y_r21, .ref y_r22, .ref y_r23, .ref y_r24, .int 0, .int 0, .int 0, .int 0, .int 0, .int 0, .int 0, .int 0, .int 0, .ref y_r34, .ref y_r35, .ref y_r36, .int 0, .int 0, .ref y_r39]))]) [0] (by decide) rfl
  have hFc := va_free (wc := [(y_m0, .inr (8, [.ref y_r0, .ref y_r1, .int 0, .int 0, .int 0, .int (-1), .int 0, .int 0, .int 0, .int 0, .long 0, .ref y_r11, .ref y_r12, .ref y_r13, .ref y_r14, .ref y_r15, .ref y_r16, .ref y_r17, .ref y_r18, .ref y_r19, .ref y_r20, .ref y_r21, .ref y_r22, .ref y_r23, .ref y_r24, .int 0, .int 0, .int 0, .int 0, .int 0, .int 0, .int 0, .int 0, .int 0, .ref y_r34, .ref y_r35, .ref y_r36, .int 0, .int 0, .ref y_r39]))]) hD hS hA [0] rfl
  refine va_calli (va_runV (As := [.int (xs 1), .int (xs 2), .int (xs 3)]) (rest := [.int (-1)]) ⟨hx, hb, hml, hown, hts⟩ (k_mminutes l D cI cB cP H.size y_m0 y_r0 y_r1 y_r11 y_r12 y_r13 y_r14 y_r15 y_r16 y_r17 y_r18 y_r19 y_r20 y_r21 y_r22 y_r23 y_r24 y_r34 y_r35 y_r36 y_r39 (xs 1) (xs 2) (xs 3)) (cwV 3 hts gw_law_13 rfl rfl rfl (by decide +kernel) ⟨Nat.le_of_ble_eq_true rfl, Nat.le_of_ble_eq_true rfl⟩) ⟨ny_blind, va_recv hK hPc (ci := 8) (q0 := 0) rfl rfl, ny_pre hPc hK hN hDc⟩ rfl rfl hl.1 rfl (lv_room (Nat.le_of_ble_eq_true rfl)) dL_law_397 ⟨Nat.le_of_ble_eq_true rfl, Nat.le_of_ble_eq_true rfl⟩) hS (fun q _ h => hFc q h) hFc (fun r2 u t H locs ht hvm hw hB hz1 hk1 hS => ?_)
  obtain ⟨hP, hD⟩ := va_join (wr := []) (w1 := []) hP hD [0] [] rfl rfl (by decide) (by decide) hk1 hFc ny_P0 ny_D0
  have hP : va_P D vwCl [] H := hP
  have hD : va_D (fun q : Nat => s.heap.size ≤ q) [] := hD
  subst hw
  refine lv_icmp_eq (tgt := 791) hx hb dL_law_400 (by decide) (fun c3 => ?_) (fun h9 => (by first | exact absurd h9 (by decide) | exact absurd (by decide) h9))
  exact law_end l C0 (by decide) (by decide) hS (lv_sub hl [0, 3] rfl)

set_option maxHeartbeats 4000000 in
set_option maxRecDepth 100000 in
/-- the call fuel, and the end -/
theorem law_7 {p : Program} {e : Env} {s : State} {m : MethodId} {below : List Frame} {meth : Method} {c : Code} (l : Launch) {b : Nat} {xs : Nat → Int32} (C0 : lw_At p s m meth c b 6 xs) (D : va_G) (cI cB cP : ClassId) (x_h0 : Nat) (x_tp : Nat) (x_rd : Nat) (x_bk : Nat) (x_fl : Nat) (x_pl : Nat) (y_m0 : Nat) (y_r0 : Nat) (y_r1 : Nat) (y_r11 : Nat) (y_r12 : Nat) (y_r13 : Nat) (y_r14 : Nat) (y_r15 : Nat) (y_r16 : Nat) (y_r17 : Nat) (y_r18 : Nat) (y_r19 : Nat) (y_r20 : Nat) (y_r21 : Nat) (y_r22 : Nat) (y_r23 : Nat) (y_r24 : Nat) (y_r34 : Nat) (y_r35 : Nat) (y_r36 : Nat) (y_r39 : Nat) {H : Heap} {locs : List Loc} {ls : Array Slot} (hK : va_K D vwCl (TY cI cB cP) s) (hN : nw s) (hP : va_P D vwCl [(x_h0, .inr (7, [.ref x_tp, .ref x_rd, .ref x_bk, .ref x_fl, .ref x_pl])), (x_fl, .inr (1, [.ref x_bk, .int 0, .int 0, .int 0, .int 0, .int 0, .int 0])), (y_m0, .inr (8, [.ref y_r0, .ref y_r1, .int 0, .int 0, .int 0, .int (-1), .int 0, .int 0, .int 0, .int 0, .long 0, .ref y_r11, .ref y_r12, .ref y_r13, .ref y_r14, .ref y_r15, .ref y_r16, .ref y_r17, .ref y_r18, .ref y_r19, .ref y_r20, .ref y_r21, .ref y_r22, .ref y_r23, .ref y_r24, .int 0, .int 0, .int 0, .int 0, .int 0, .int 0, .int 0, .int 0, .int 0, .ref y_r34, .ref y_r35, .ref y_r36, .int 0, .int 0, .ref y_r39]))] H) (hD : va_D (fun q : Nat => s.heap.size ≤ q) [(x_h0, .inr (7, [.ref x_tp, .ref x_rd, .ref x_bk, .ref x_fl, .ref x_pl])), (x_fl, .inr (1, [.ref x_bk, .int 0, .int 0, .int 0, .int 0, .int 0, .int 0])), (y_m0, .inr (8, [.ref y_r0, .ref y_r1, .int 0, .int 0, .int 0, .int (-1), .int 0, .int 0, .int 0, .int 0, .long 0, .ref y_r11, .ref y_r12, .ref y_r13, .ref y_r14, .ref y_r15, .ref y_r16, .ref y_r17, .ref y_r18, .ref y_r19, .ref y_r20, .ref y_r21, .ref y_r22, .ref y_r23, .ref y_r24, .int 0, .int 0, .int 0, .int 0, .int 0, .int 0, .int 0, .int 0, .int 0, .ref y_r34, .ref y_r35, .ref y_r36, .int 0, .int 0, .ref y_r39]))]) (hS : va_S (fun q : Nat => s.heap.size ≤ q) s.heap H locs) (hl : lv_has ls 4 [(3, .int 0), (2, .ref y_m0), (1, .ref x_h0), (0, .ref b)]) : W p l e room_1 s m #[Value.ref b] below meth c H locs 86 7510 (lw_Z below #[Value.ref b] s) (F0 m 405 ls []) := by
  obtain ⟨hx, hb, hr, hml, hown, hts, hX, hbl, hlocks, hgv⟩ := id C0
  have hown : s.vm.findClass RL = some m.cls := hown
  have hA : ∀ q : Nat, s.heap.size ≤ q → (fun q : Nat => s.heap.size ≤ q) q := fun _ h => h
  have hbA : ¬ (fun q : Nat => s.heap.size ≤ q) b := Nat.not_le.mpr hbl
  refine lv_aload_n hx hb dL_law_405 rfl (lv_at hl 2 rfl) ?_
  refine lv_aload_n hx hb dL_law_406 rfl (lv_at hl 3 rfl) ?_
  refine lv_iload_n hx hb dL_law_407 rfl (lv_at hl 0 rfl) ?_
  refine lv_iconst (v := 1) hx hb dL_law_408 (by decide) ?_
  refine lv_iadd hx hb dL_law_409 ?_
  refine lv_topi (fun vv ev => ?_)
  obtain rfl : vv = 1 := ev.trans (by decide)
  refine va_sld hx hb hX hbl hbA hS (show ¬ (_ ∨ _) by decide) dL_law_410 ?_
  refine lv_topi (fun vv ev => ?_)
  obtain rfl : vv = xs 1 := ev
  refine lv_aload_n hx hb dL_law_411 rfl (lv_at hl 3 rfl) ?_
  refine lv_iload_n hx hb dL_law_412 rfl (lv_at hl 0 rfl) ?_
  refine lv_iconst (v := 2) hx hb dL_law_413 (by decide) ?_
  refine lv_iadd hx hb dL_law_414 ?_
  refine lv_topi (fun vv ev => ?_)
  obtain rfl : vv = 2 := ev.trans (by decide)
  refine va_sld hx hb hX hbl hbA hS (show ¬ (_ ∨ _) by decide) dL_law_415 ?_
  refine lv_topi (fun vv ev => ?_)
  obtain rfl : vv = xs 2 := ev
  refine lv_aload_n hx hb dL_law_416 rfl (lv_at hl 3 rfl) ?_
  refine lv_iload_n hx hb dL_law_417 rfl (lv_at hl 0 rfl) ?_
  refine lv_iconst (v := 3) hx hb dL_law_418 (by decide) ?_
  refine lv_iadd hx hb dL_law_419 ?_
  refine lv_topi (fun vv ev => ?_)
  obtain rfl : vv = 3 := ev.trans (by decide)
  refine va_sld hx hb hX hbl hbA hS (show ¬ (_ ∨ _) by decide) dL_law_420 ?_
  refine lv_topi (fun vv ev => ?_)
  obtain rfl : vv = xs 3 := ev
  refine lv_aload_n hx hb dL_law_421 rfl (lv_at hl 3 rfl) ?_
  refine lv_iload_n hx hb dL_law_422 rfl (lv_at hl 0 rfl) ?_
  refine lv_iconst (v := 4) hx hb dL_law_423 (by decide) ?_
  refine lv_iadd hx hb dL_law_424 ?_
  refine lv_topi (fun vv ev => ?_)
  obtain rfl : vv = 4 := ev.trans (by decide)
  refine va_sld hx hb hX hbl hbA hS (show ¬ (_ ∨ _) by decide) dL_law_425 ?_
  refine lv_topi (fun vv ev => ?_)
  obtain rfl : vv = xs 4 := ev
  have hPc := hP.sub (ws' := [(x_h0, .inr (7, [.ref x_tp, .ref x_rd, .ref x_bk, .ref x_fl, .ref x_pl])), (x_fl, .inr (1, [.ref x_bk, .int 0, .int 0, .int 0, .int 0, .int 0, .int 0]))]) [0, 1] rfl
  have hDc := hD.sub (ws' := [(x_h0, .inr (7, [.ref x_tp, .ref x_rd, .ref x_bk, .ref x_fl, .ref x_pl])), (x_fl, .inr (1, [.ref x_bk, .int 0, .int 0, .int 0, .int 0, .int 0, .int 0]))]) [0, 1] (by decide) rfl
  have hFc := va_free (wc := [(x_h0, .inr (7, [.ref x_tp, .ref x_rd, .ref x_bk, .ref x_fl, .ref x_pl])), (x_fl, .inr (1, [.ref x_bk, .int 0, .int 0, .int 0, .int 0, .int 0, .int 0]))]) hD hS hA [0, 1] rfl
  refine va_calli (va_runV (As := [.int (xs 1), .int (xs 2), .int (xs 3), .int (xs 4)]) (rest := []) ⟨hx, hb, hml, hown, hts⟩ (k_fuel l D cI cB cP H.size x_h0 x_tp x_rd x_bk x_fl x_pl (xs 1) (xs 2) (xs 3) (xs 4)) (cwV 4 hts gw_law_14 rfl rfl rfl (by decide +kernel) ⟨Nat.le_of_ble_eq_true rfl, Nat.le_of_ble_eq_true rfl⟩) ⟨ny_blind, va_recv hK hPc (ci := 7) (q0 := 0) rfl rfl, ny_pre hPc hK hN hDc⟩ rfl rfl hl.1 rfl (lv_room (Nat.le_of_ble_eq_true rfl)) dL_law_426 ⟨Nat.le_of_ble_eq_true rfl, Nat.le_of_ble_eq_true rfl⟩) hS (fun q _ h => hFc q h) hFc (fun r1 u t H locs ht hvm hw hB hz1 hk1 hS => ?_)
  obtain ⟨hP, hD⟩ := va_join (wr := [(y_m0, .inr (8, [.ref y_r0, .ref y_r1, .int 0, .int 0, .int 0, .int (-1), .int 0, .int 0, .int 0, .int 0, .long 0, .ref y_r11, .ref y_r12, .ref y_r13, .ref y_r14, .ref y_r15, .ref y_r16, .ref y_r17, .ref y_r18, .ref y_r19, .ref y_r20, .ref y_r21, .ref y_r22, .ref y_r23, .ref y_r24, .int 0, .int 0, .int 0, .int 0, .int 0, .int 0, .int 0, .int 0, .int 0, .ref y_r34, .ref y_r35, .ref y_r36, .int 0, .int 0, .ref y_r39]))]) (w1 := []) hP hD [0, 1] [2] rfl rfl (by decide) (by decide) hk1 hFc ny_P0 ny_D0
  have hP : va_P D vwCl [(y_m0, .inr (8, [.ref y_r0, .ref y_r1, .int 0, .int 0, .int 0, .int (-1), .int 0, .int 0, .int 0, .int 0, .long 0, .ref y_r11, .ref y_r12, .ref y_r13, .ref y_r14, .ref y_r15, .ref y_r16, .ref y_r17, .ref y_r18, .ref y_r19, .ref y_r20, .ref y_r21, .ref y_r22, .ref y_r23, .ref y_r24, .int 0, .int 0, .int 0, .int 0, .int 0, .int 0, .int 0, .int 0, .int 0, .ref y_r34, .ref y_r35, .ref y_r36, .int 0, .int 0, .ref y_r39]))] H := hP
  have hD : va_D (fun q : Nat => s.heap.size ≤ q) [(y_m0, .inr (8, [.ref y_r0, .ref y_r1, .int 0, .int 0, .int 0, .int (-1), .int 0, .int 0, .int 0, .int 0, .long 0, .ref y_r11, .ref y_r12, .ref y_r13, .ref y_r14, .ref y_r15, .ref y_r16, .ref y_r17, .ref y_r18, .ref y_r19, .ref y_r20, .ref y_r21, .ref y_r22, .ref y_r23, .ref y_r24, .int 0, .int 0, .int 0, .int 0, .int 0, .int 0, .int 0, .int 0, .int 0, .ref y_r34, .ref y_r35, .ref y_r36, .int 0, .int 0, .ref y_r39]))] := hD
  subst hw
  refine lv_aload_n hx hb dL_law_429 rfl (lv_at hl 1 rfl) ?_
  refine lv_aload_n hx hb dL_law_430 rfl (lv_at hl 3 rfl) ?_
  refine lv_iload_n hx hb dL_law_431 rfl (lv_at hl 0 rfl) ?_
  refine lv_iconst (v := 1) hx hb dL_law_432 (by decide) ?_
  refine lv_iadd hx hb dL_law_433 ?_
  refine lv_topi (fun vv ev => ?_)
  obtain rfl : vv = 1 := ev.trans (by decide)
  refine va_sld hx hb hX hbl hbA hS (show ¬ (_ ∨ _) by decide) dL_law_434 ?_
  refine lv_topi (fun vv ev => ?_)
  obtain rfl : vv = xs 1 := ev
  refine lv_aload_n hx hb dL_law_435 rfl (lv_at hl 3 rfl) ?_
  refine lv_iload_n hx hb dL_law_436 rfl (lv_at hl 0 rfl) ?_
  refine lv_iconst (v := 2) hx hb dL_law_437 (by decide) ?_
  refine lv_iadd hx hb dL_law_438 ?_
  refine lv_topi (fun vv ev => ?_)
  obtain rfl : vv = 2 := ev.trans (by decide)
  refine va_sld hx hb hX hbl hbA hS (show ¬ (_ ∨ _) by decide) dL_law_439 ?_
  refine lv_topi (fun vv ev => ?_)
  obtain rfl : vv = xs 2 := ev
  refine lv_aload_n hx hb dL_law_440 rfl (lv_at hl 3 rfl) ?_
  refine lv_iload_n hx hb dL_law_441 rfl (lv_at hl 0 rfl) ?_
  refine lv_iconst (v := 3) hx hb dL_law_442 (by decide) ?_
  refine lv_iadd hx hb dL_law_443 ?_
  refine lv_topi (fun vv ev => ?_)
  obtain rfl : vv = 3 := ev.trans (by decide)
  refine va_sld hx hb hX hbl hbA hS (show ¬ (_ ∨ _) by decide) dL_law_444 ?_
  refine lv_topi (fun vv ev => ?_)
  obtain rfl : vv = xs 3 := ev
  refine lv_aload_n hx hb dL_law_445 rfl (lv_at hl 3 rfl) ?_
  refine lv_iload_n hx hb dL_law_446 rfl (lv_at hl 0 rfl) ?_
  refine lv_iconst (v := 4) hx hb dL_law_447 (by decide) ?_
  refine lv_iadd hx hb dL_law_448 ?_
  refine lv_topi (fun vv ev => ?_)
  obtain rfl : vv = 4 := ev.trans (by decide)
  refine va_sld hx hb hX hbl hbA hS (show ¬ (_ ∨ _) by decide) dL_law_449 ?_
  refine lv_topi (fun vv ev => ?_)
  obtain rfl : vv = xs 4 := ev
  have hPc := hP.sub (ws' := [(y_m0, .inr (8, [.ref y_r0, .ref y_r1, .int 0, .int 0, .int 0, .int (-1), .int 0, .int 0, .int 0, .int 0, .long 0, .ref y_r11, .ref y_r12, .ref y_r13, .ref y_r14, .ref y_r15, .ref y_r16, .ref y_r17, .ref y_r18, .ref y_r19, .ref y_r20, .ref y_r21, .ref y_r22, .ref y_r23, .ref y_r24, .int 0, .int 0, .int 0, .int 0, .int 0, .int 0, .int 0, .int 0, .int 0, .ref y_r34, .ref y_r35, .ref y_r36, .int 0, .int 0, .ref y_r39]))]) [0] rfl
  have hDc := hD.sub (ws' := [(y_m0, .inr (8, [.ref y_r0, .ref y_r1, .int 0, .int 0, .int 0, .int (-1), .int 0, .int 0, .int 0, .int 0, .long 0, .ref y_r11, .ref y_r12, .ref y_r13, .ref y_r14, .ref y_r15, .ref y_r16, .ref y_r17, .ref y_r18, .ref y_r19, .ref y_r20, .ref y_r21, .ref y_r22, .ref y_r23, .ref y_r24, .int 0, .int 0, .int 0, .int 0, .int 0, .int 0, .int 0, .int 0, .int 0, .ref y_r34, .ref y_r35, .ref y_r36, .int 0, .int 0, .ref y_r39]))]) [0] (by decide) rfl
  have hFc := va_free (wc := [(y_m0, .inr (8, [.ref y_r0, .ref y_r1, .int 0, .int 0, .int 0, .int (-1), .int 0, .int 0, .int 0, .int 0, .long 0, .ref y_r11, .ref y_r12, .ref y_r13, .ref y_r14, .ref y_r15, .ref y_r16, .ref y_r17, .ref y_r18, .ref y_r19, .ref y_r20, .ref y_r21, .ref y_r22, .ref y_r23, .ref y_r24, .int 0, .int 0, .int 0, .int 0, .int 0, .int 0, .int 0, .int 0, .int 0, .ref y_r34, .ref y_r35, .ref y_r36, .int 0, .int 0, .ref y_r39]))]) hD hS hA [0] rfl
  refine va_calli (va_runV (As := [.int (xs 1), .int (xs 2), .int (xs 3), .int (xs 4)]) (rest := [.int (-1)]) ⟨hx, hb, hml, hown, hts⟩ (k_mfuel l D cI cB cP H.size y_m0 y_r0 y_r1 y_r11 y_r12 y_r13 y_r14 y_r15 y_r16 y_r17 y_r18 y_r19 y_r20 y_r21 y_r22 y_r23 y_r24 y_r34 y_r35 y_r36 y_r39 (xs 1) (xs 2) (xs 3) (xs 4)) (cwV 4 hts gw_law_15 rfl rfl rfl (by decide +kernel) ⟨Nat.le_of_ble_eq_true rfl, Nat.le_of_ble_eq_true rfl⟩) ⟨ny_blind, va_recv hK hPc (ci := 8) (q0 := 0) rfl rfl, ny_pre hPc hK hN hDc⟩ rfl rfl hl.1 rfl (lv_room (Nat.le_of_ble_eq_true rfl)) dL_law_450 ⟨Nat.le_of_ble_eq_true rfl, Nat.le_of_ble_eq_true rfl⟩) hS (fun q _ h => hFc q h) hFc (fun r2 u t H locs ht hvm hw hB hz1 hk1 hS => ?_)
  obtain ⟨hP, hD⟩ := va_join (wr := []) (w1 := []) hP hD [0] [] rfl rfl (by decide) (by decide) hk1 hFc ny_P0 ny_D0
  have hP : va_P D vwCl [] H := hP
  have hD : va_D (fun q : Nat => s.heap.size ≤ q) [] := hD
  subst hw
  refine lv_icmp_eq (tgt := 791) hx hb dL_law_453 (by decide) (fun c3 => ?_) (fun h9 => (by first | exact absurd h9 (by decide) | exact absurd (by decide) h9))
  exact law_end l C0 (by decide) (by decide) hS (lv_sub hl [0, 3] rfl)

set_option maxHeartbeats 4000000 in
set_option maxRecDepth 100000 in
/-- the call need, and the end -/
theorem law_8 {p : Program} {e : Env} {s : State} {m : MethodId} {below : List Frame} {meth : Method} {c : Code} (l : Launch) {b : Nat} {xs : Nat → Int32} (C0 : lw_At p s m meth c b 6 xs) (D : va_G) (cI cB cP : ClassId) (x_h0 : Nat) (x_tp : Nat) (x_rd : Nat) (x_bk : Nat) (x_fl : Nat) (x_pl : Nat) (y_m0 : Nat) (y_r0 : Nat) (y_r1 : Nat) (y_r11 : Nat) (y_r12 : Nat) (y_r13 : Nat) (y_r14 : Nat) (y_r15 : Nat) (y_r16 : Nat) (y_r17 : Nat) (y_r18 : Nat) (y_r19 : Nat) (y_r20 : Nat) (y_r21 : Nat) (y_r22 : Nat) (y_r23 : Nat) (y_r24 : Nat) (y_r34 : Nat) (y_r35 : Nat) (y_r36 : Nat) (y_r39 : Nat) {H : Heap} {locs : List Loc} {ls : Array Slot} (hK : va_K D vwCl (TY cI cB cP) s) (hN : nw s) (hP : va_P D vwCl [(x_h0, .inr (7, [.ref x_tp, .ref x_rd, .ref x_bk, .ref x_fl, .ref x_pl])), (x_fl, .inr (1, [.ref x_bk, .int 0, .int 0, .int 0, .int 0, .int 0, .int 0])), (y_m0, .inr (8, [.ref y_r0, .ref y_r1, .int 0, .int 0, .int 0, .int (-1), .int 0, .int 0, .int 0, .int 0, .long 0, .ref y_r11, .ref y_r12, .ref y_r13, .ref y_r14, .ref y_r15, .ref y_r16, .ref y_r17, .ref y_r18, .ref y_r19, .ref y_r20, .ref y_r21, .ref y_r22, .ref y_r23, .ref y_r24, .int 0, .int 0, .int 0, .int 0, .int 0, .int 0, .int 0, .int 0, .int 0, .ref y_r34, .ref y_r35, .ref y_r36, .int 0, .int 0, .ref y_r39]))] H) (hD : va_D (fun q : Nat => s.heap.size ≤ q) [(x_h0, .inr (7, [.ref x_tp, .ref x_rd, .ref x_bk, .ref x_fl, .ref x_pl])), (x_fl, .inr (1, [.ref x_bk, .int 0, .int 0, .int 0, .int 0, .int 0, .int 0])), (y_m0, .inr (8, [.ref y_r0, .ref y_r1, .int 0, .int 0, .int 0, .int (-1), .int 0, .int 0, .int 0, .int 0, .long 0, .ref y_r11, .ref y_r12, .ref y_r13, .ref y_r14, .ref y_r15, .ref y_r16, .ref y_r17, .ref y_r18, .ref y_r19, .ref y_r20, .ref y_r21, .ref y_r22, .ref y_r23, .ref y_r24, .int 0, .int 0, .int 0, .int 0, .int 0, .int 0, .int 0, .int 0, .int 0, .ref y_r34, .ref y_r35, .ref y_r36, .int 0, .int 0, .ref y_r39]))]) (hS : va_S (fun q : Nat => s.heap.size ≤ q) s.heap H locs) (hl : lv_has ls 4 [(3, .int 0), (2, .ref y_m0), (1, .ref x_h0), (0, .ref b)]) : W p l e room_1 s m #[Value.ref b] below meth c H locs 86 7510 (lw_Z below #[Value.ref b] s) (F0 m 458 ls []) := by
  obtain ⟨hx, hb, hr, hml, hown, hts, hX, hbl, hlocks, hgv⟩ := id C0
  have hown : s.vm.findClass RL = some m.cls := hown
  have hA : ∀ q : Nat, s.heap.size ≤ q → (fun q : Nat => s.heap.size ≤ q) q := fun _ h => h
  have hbA : ¬ (fun q : Nat => s.heap.size ≤ q) b := Nat.not_le.mpr hbl
  refine lv_aload_n hx hb dL_law_458 rfl (lv_at hl 2 rfl) ?_
  refine lv_aload_n hx hb dL_law_459 rfl (lv_at hl 3 rfl) ?_
  refine lv_iload_n hx hb dL_law_460 rfl (lv_at hl 0 rfl) ?_
  refine lv_iconst (v := 1) hx hb dL_law_461 (by decide) ?_
  refine lv_iadd hx hb dL_law_462 ?_
  refine lv_topi (fun vv ev => ?_)
  obtain rfl : vv = 1 := ev.trans (by decide)
  refine va_sld hx hb hX hbl hbA hS (show ¬ (_ ∨ _) by decide) dL_law_463 ?_
  refine lv_topi (fun vv ev => ?_)
  obtain rfl : vv = xs 1 := ev
  have hPc := hP.sub (ws' := [(x_h0, .inr (7, [.ref x_tp, .ref x_rd, .ref x_bk, .ref x_fl, .ref x_pl])), (x_fl, .inr (1, [.ref x_bk, .int 0, .int 0, .int 0, .int 0, .int 0, .int 0]))]) [0, 1] rfl
  have hDc := hD.sub (ws' := [(x_h0, .inr (7, [.ref x_tp, .ref x_rd, .ref x_bk, .ref x_fl, .ref x_pl])), (x_fl, .inr (1, [.ref x_bk, .int 0, .int 0, .int 0, .int 0, .int 0, .int 0]))]) [0, 1] (by decide) rfl
  have hFc := va_free (wc := [(x_h0, .inr (7, [.ref x_tp, .ref x_rd, .ref x_bk, .ref x_fl, .ref x_pl])), (x_fl, .inr (1, [.ref x_bk, .int 0, .int 0, .int 0, .int 0, .int 0, .int 0]))]) hD hS hA [0, 1] rfl
  refine va_calli (va_runV (As := [.int (xs 1)]) (rest := []) ⟨hx, hb, hml, hown, hts⟩ (k_need l D cI cB cP H.size x_h0 x_tp x_rd x_bk x_fl x_pl (xs 1)) (cwV 1 hts gw_law_16 rfl rfl rfl (by decide +kernel) ⟨Nat.le_of_ble_eq_true rfl, Nat.le_of_ble_eq_true rfl⟩) ⟨ny_blind, va_recv hK hPc (ci := 7) (q0 := 0) rfl rfl, ny_pre hPc hK hN hDc⟩ rfl rfl hl.1 rfl (lv_room (Nat.le_of_ble_eq_true rfl)) dL_law_464 ⟨Nat.le_of_ble_eq_true rfl, Nat.le_of_ble_eq_true rfl⟩) hS (fun q _ h => hFc q h) hFc (fun r1 u t H locs ht hvm hw hB hz1 hk1 hS => ?_)
  obtain ⟨hP, hD⟩ := va_join (wr := [(y_m0, .inr (8, [.ref y_r0, .ref y_r1, .int 0, .int 0, .int 0, .int (-1), .int 0, .int 0, .int 0, .int 0, .long 0, .ref y_r11, .ref y_r12, .ref y_r13, .ref y_r14, .ref y_r15, .ref y_r16, .ref y_r17, .ref y_r18, .ref y_r19, .ref y_r20, .ref y_r21, .ref y_r22, .ref y_r23, .ref y_r24, .int 0, .int 0, .int 0, .int 0, .int 0, .int 0, .int 0, .int 0, .int 0, .ref y_r34, .ref y_r35, .ref y_r36, .int 0, .int 0, .ref y_r39]))]) (w1 := []) hP hD [0, 1] [2] rfl rfl (by decide) (by decide) hk1 hFc ny_P0 ny_D0
  have hP : va_P D vwCl [(y_m0, .inr (8, [.ref y_r0, .ref y_r1, .int 0, .int 0, .int 0, .int (-1), .int 0, .int 0, .int 0, .int 0, .long 0, .ref y_r11, .ref y_r12, .ref y_r13, .ref y_r14, .ref y_r15, .ref y_r16, .ref y_r17, .ref y_r18, .ref y_r19, .ref y_r20, .ref y_r21, .ref y_r22, .ref y_r23, .ref y_r24, .int 0, .int 0, .int 0, .int 0, .int 0, .int 0, .int 0, .int 0, .int 0, .ref y_r34, .ref y_r35, .ref y_r36, .int 0, .int 0, .ref y_r39]))] H := hP
  have hD : va_D (fun q : Nat => s.heap.size ≤ q) [(y_m0, .inr (8, [.ref y_r0, .ref y_r1, .int 0, .int 0, .int 0, .int (-1), .int 0, .int 0, .int 0, .int 0, .long 0, .ref y_r11, .ref y_r12, .ref y_r13, .ref y_r14, .ref y_r15, .ref y_r16, .ref y_r17, .ref y_r18, .ref y_r19, .ref y_r20, .ref y_r21, .ref y_r22, .ref y_r23, .ref y_r24, .int 0, .int 0, .int 0, .int 0, .int 0, .int 0, .int 0, .int 0, .int 0, .ref y_r34, .ref y_r35, .ref y_r36, .int 0, .int 0, .ref y_r39]))] := hD
  subst hw
  refine lv_aload_n hx hb dL_law_467 rfl (lv_at hl 1 rfl) ?_
  refine lv_aload_n hx hb dL_law_468 rfl (lv_at hl 3 rfl) ?_
  refine lv_iload_n hx hb dL_law_469 rfl (lv_at hl 0 rfl) ?_
  refine lv_iconst (v := 1) hx hb dL_law_470 (by decide) ?_
  refine lv_iadd hx hb dL_law_471 ?_
  refine lv_topi (fun vv ev => ?_)
  obtain rfl : vv = 1 := ev.trans (by decide)
  refine va_sld hx hb hX hbl hbA hS (show ¬ (_ ∨ _) by decide) dL_law_472 ?_
  refine lv_topi (fun vv ev => ?_)
  obtain rfl : vv = xs 1 := ev
  have hPc := hP.sub (ws' := [(y_m0, .inr (8, [.ref y_r0, .ref y_r1, .int 0, .int 0, .int 0, .int (-1), .int 0, .int 0, .int 0, .int 0, .long 0, .ref y_r11, .ref y_r12, .ref y_r13, .ref y_r14, .ref y_r15, .ref y_r16, .ref y_r17, .ref y_r18, .ref y_r19, .ref y_r20, .ref y_r21, .ref y_r22, .ref y_r23, .ref y_r24, .int 0, .int 0, .int 0, .int 0, .int 0, .int 0, .int 0, .int 0, .int 0, .ref y_r34, .ref y_r35, .ref y_r36, .int 0, .int 0, .ref y_r39]))]) [0] rfl
  have hDc := hD.sub (ws' := [(y_m0, .inr (8, [.ref y_r0, .ref y_r1, .int 0, .int 0, .int 0, .int (-1), .int 0, .int 0, .int 0, .int 0, .long 0, .ref y_r11, .ref y_r12, .ref y_r13, .ref y_r14, .ref y_r15, .ref y_r16, .ref y_r17, .ref y_r18, .ref y_r19, .ref y_r20, .ref y_r21, .ref y_r22, .ref y_r23, .ref y_r24, .int 0, .int 0, .int 0, .int 0, .int 0, .int 0, .int 0, .int 0, .int 0, .ref y_r34, .ref y_r35, .ref y_r36, .int 0, .int 0, .ref y_r39]))]) [0] (by decide) rfl
  have hFc := va_free (wc := [(y_m0, .inr (8, [.ref y_r0, .ref y_r1, .int 0, .int 0, .int 0, .int (-1), .int 0, .int 0, .int 0, .int 0, .long 0, .ref y_r11, .ref y_r12, .ref y_r13, .ref y_r14, .ref y_r15, .ref y_r16, .ref y_r17, .ref y_r18, .ref y_r19, .ref y_r20, .ref y_r21, .ref y_r22, .ref y_r23, .ref y_r24, .int 0, .int 0, .int 0, .int 0, .int 0, .int 0, .int 0, .int 0, .int 0, .ref y_r34, .ref y_r35, .ref y_r36, .int 0, .int 0, .ref y_r39]))]) hD hS hA [0] rfl
  refine va_calli (va_runV (As := [.int (xs 1)]) (rest := [.int (-1)]) ⟨hx, hb, hml, hown, hts⟩ (k_mneed l D cI cB cP H.size y_m0 y_r0 y_r1 y_r11 y_r12 y_r13 y_r14 y_r15 y_r16 y_r17 y_r18 y_r19 y_r20 y_r21 y_r22 y_r23 y_r24 y_r34 y_r35 y_r36 y_r39 (xs 1)) (cwV 1 hts gw_law_17 rfl rfl rfl (by decide +kernel) ⟨Nat.le_of_ble_eq_true rfl, Nat.le_of_ble_eq_true rfl⟩) ⟨ny_blind, va_recv hK hPc (ci := 8) (q0 := 0) rfl rfl, ny_pre hPc hK hN hDc⟩ rfl rfl hl.1 rfl (lv_room (Nat.le_of_ble_eq_true rfl)) dL_law_473 ⟨Nat.le_of_ble_eq_true rfl, Nat.le_of_ble_eq_true rfl⟩) hS (fun q _ h => hFc q h) hFc (fun r2 u t H locs ht hvm hw hB hz1 hk1 hS => ?_)
  obtain ⟨hP, hD⟩ := va_join (wr := []) (w1 := []) hP hD [0] [] rfl rfl (by decide) (by decide) hk1 hFc ny_P0 ny_D0
  have hP : va_P D vwCl [] H := hP
  have hD : va_D (fun q : Nat => s.heap.size ≤ q) [] := hD
  subst hw
  refine lv_icmp_eq (tgt := 791) hx hb dL_law_476 (by decide) (fun c3 => ?_) (fun h9 => (by first | exact absurd h9 (by decide) | exact absurd (by decide) h9))
  exact law_end l C0 (by decide) (by decide) hS (lv_sub hl [0, 3] rfl)

set_option maxHeartbeats 4000000 in
set_option maxRecDepth 100000 in
/-- the call legs, and the end -/
theorem law_9 {p : Program} {e : Env} {s : State} {m : MethodId} {below : List Frame} {meth : Method} {c : Code} (l : Launch) {b : Nat} {xs : Nat → Int32} (C0 : lw_At p s m meth c b 6 xs) (D : va_G) (cI cB cP : ClassId) (x_h0 : Nat) (x_tp : Nat) (x_rd : Nat) (x_bk : Nat) (x_fl : Nat) (x_pl : Nat) (y_m0 : Nat) (y_r0 : Nat) (y_r1 : Nat) (y_r11 : Nat) (y_r12 : Nat) (y_r13 : Nat) (y_r14 : Nat) (y_r15 : Nat) (y_r16 : Nat) (y_r17 : Nat) (y_r18 : Nat) (y_r19 : Nat) (y_r20 : Nat) (y_r21 : Nat) (y_r22 : Nat) (y_r23 : Nat) (y_r24 : Nat) (y_r34 : Nat) (y_r35 : Nat) (y_r36 : Nat) (y_r39 : Nat) {H : Heap} {locs : List Loc} {ls : Array Slot} (hK : va_K D vwCl (TY cI cB cP) s) (hN : nw s) (hP : va_P D vwCl [(x_h0, .inr (7, [.ref x_tp, .ref x_rd, .ref x_bk, .ref x_fl, .ref x_pl])), (x_fl, .inr (1, [.ref x_bk, .int 0, .int 0, .int 0, .int 0, .int 0, .int 0])), (y_m0, .inr (8, [.ref y_r0, .ref y_r1, .int 0, .int 0, .int 0, .int (-1), .int 0, .int 0, .int 0, .int 0, .long 0, .ref y_r11, .ref y_r12, .ref y_r13, .ref y_r14, .ref y_r15, .ref y_r16, .ref y_r17, .ref y_r18, .ref y_r19, .ref y_r20, .ref y_r21, .ref y_r22, .ref y_r23, .ref y_r24, .int 0, .int 0, .int 0, .int 0, .int 0, .int 0, .int 0, .int 0, .int 0, .ref y_r34, .ref y_r35, .ref y_r36, .int 0, .int 0, .ref y_r39]))] H) (hD : va_D (fun q : Nat => s.heap.size ≤ q) [(x_h0, .inr (7, [.ref x_tp, .ref x_rd, .ref x_bk, .ref x_fl, .ref x_pl])), (x_fl, .inr (1, [.ref x_bk, .int 0, .int 0, .int 0, .int 0, .int 0, .int 0])), (y_m0, .inr (8, [.ref y_r0, .ref y_r1, .int 0, .int 0, .int 0, .int (-1), .int 0, .int 0, .int 0, .int 0, .long 0, .ref y_r11, .ref y_r12, .ref y_r13, .ref y_r14, .ref y_r15, .ref y_r16, .ref y_r17, .ref y_r18, .ref y_r19, .ref y_r20, .ref y_r21, .ref y_r22, .ref y_r23, .ref y_r24, .int 0, .int 0, .int 0, .int 0, .int 0, .int 0, .int 0, .int 0, .int 0, .ref y_r34, .ref y_r35, .ref y_r36, .int 0, .int 0, .ref y_r39]))]) (hS : va_S (fun q : Nat => s.heap.size ≤ q) s.heap H locs) (hl : lv_has ls 4 [(3, .int 0), (2, .ref y_m0), (1, .ref x_h0), (0, .ref b)]) : W p l e room_1 s m #[Value.ref b] below meth c H locs 86 7510 (lw_Z below #[Value.ref b] s) (F0 m 481 ls []) := by
  obtain ⟨hx, hb, hr, hml, hown, hts, hX, hbl, hlocks, hgv⟩ := id C0
  have hown : s.vm.findClass RL = some m.cls := hown
  have hA : ∀ q : Nat, s.heap.size ≤ q → (fun q : Nat => s.heap.size ≤ q) q := fun _ h => h
  have hbA : ¬ (fun q : Nat => s.heap.size ≤ q) b := Nat.not_le.mpr hbl
  refine lv_aload_n hx hb dL_law_481 rfl (lv_at hl 2 rfl) ?_
  refine lv_aload_n hx hb dL_law_482 rfl (lv_at hl 3 rfl) ?_
  refine lv_iload_n hx hb dL_law_483 rfl (lv_at hl 0 rfl) ?_
  refine lv_iconst (v := 1) hx hb dL_law_484 (by decide) ?_
  refine lv_iadd hx hb dL_law_485 ?_
  refine lv_topi (fun vv ev => ?_)
  obtain rfl : vv = 1 := ev.trans (by decide)
  refine va_sld hx hb hX hbl hbA hS (show ¬ (_ ∨ _) by decide) dL_law_486 ?_
  refine lv_topi (fun vv ev => ?_)
  obtain rfl : vv = xs 1 := ev
  have hPc := hP.sub (ws' := [(x_h0, .inr (7, [.ref x_tp, .ref x_rd, .ref x_bk, .ref x_fl, .ref x_pl])), (x_fl, .inr (1, [.ref x_bk, .int 0, .int 0, .int 0, .int 0, .int 0, .int 0]))]) [0, 1] rfl
  have hDc := hD.sub (ws' := [(x_h0, .inr (7, [.ref x_tp, .ref x_rd, .ref x_bk, .ref x_fl, .ref x_pl])), (x_fl, .inr (1, [.ref x_bk, .int 0, .int 0, .int 0, .int 0, .int 0, .int 0]))]) [0, 1] (by decide) rfl
  have hFc := va_free (wc := [(x_h0, .inr (7, [.ref x_tp, .ref x_rd, .ref x_bk, .ref x_fl, .ref x_pl])), (x_fl, .inr (1, [.ref x_bk, .int 0, .int 0, .int 0, .int 0, .int 0, .int 0]))]) hD hS hA [0, 1] rfl
  refine va_calli (va_runV (As := [.int (xs 1)]) (rest := []) ⟨hx, hb, hml, hown, hts⟩ (k_legs l D cI cB cP H.size x_h0 x_tp x_rd x_bk x_fl x_pl (xs 1)) (cwV 1 hts gw_law_18 rfl rfl rfl (by decide +kernel) ⟨Nat.le_of_ble_eq_true rfl, Nat.le_of_ble_eq_true rfl⟩) ⟨ny_blind, va_recv hK hPc (ci := 7) (q0 := 0) rfl rfl, ny_pre hPc hK hN hDc⟩ rfl rfl hl.1 rfl (lv_room (Nat.le_of_ble_eq_true rfl)) dL_law_487 ⟨Nat.le_of_ble_eq_true rfl, Nat.le_of_ble_eq_true rfl⟩) hS (fun q _ h => hFc q h) hFc (fun r1 u t H locs ht hvm hw hB hz1 hk1 hS => ?_)
  obtain ⟨hP, hD⟩ := va_join (wr := [(y_m0, .inr (8, [.ref y_r0, .ref y_r1, .int 0, .int 0, .int 0, .int (-1), .int 0, .int 0, .int 0, .int 0, .long 0, .ref y_r11, .ref y_r12, .ref y_r13, .ref y_r14, .ref y_r15, .ref y_r16, .ref y_r17, .ref y_r18, .ref y_r19, .ref y_r20, .ref y_r21, .ref y_r22, .ref y_r23, .ref y_r24, .int 0, .int 0, .int 0, .int 0, .int 0, .int 0, .int 0, .int 0, .int 0, .ref y_r34, .ref y_r35, .ref y_r36, .int 0, .int 0, .ref y_r39]))]) (w1 := []) hP hD [0, 1] [2] rfl rfl (by decide) (by decide) hk1 hFc ny_P0 ny_D0
  have hP : va_P D vwCl [(y_m0, .inr (8, [.ref y_r0, .ref y_r1, .int 0, .int 0, .int 0, .int (-1), .int 0, .int 0, .int 0, .int 0, .long 0, .ref y_r11, .ref y_r12, .ref y_r13, .ref y_r14, .ref y_r15, .ref y_r16, .ref y_r17, .ref y_r18, .ref y_r19, .ref y_r20, .ref y_r21, .ref y_r22, .ref y_r23, .ref y_r24, .int 0, .int 0, .int 0, .int 0, .int 0, .int 0, .int 0, .int 0, .int 0, .ref y_r34, .ref y_r35, .ref y_r36, .int 0, .int 0, .ref y_r39]))] H := hP
  have hD : va_D (fun q : Nat => s.heap.size ≤ q) [(y_m0, .inr (8, [.ref y_r0, .ref y_r1, .int 0, .int 0, .int 0, .int (-1), .int 0, .int 0, .int 0, .int 0, .long 0, .ref y_r11, .ref y_r12, .ref y_r13, .ref y_r14, .ref y_r15, .ref y_r16, .ref y_r17, .ref y_r18, .ref y_r19, .ref y_r20, .ref y_r21, .ref y_r22, .ref y_r23, .ref y_r24, .int 0, .int 0, .int 0, .int 0, .int 0, .int 0, .int 0, .int 0, .int 0, .ref y_r34, .ref y_r35, .ref y_r36, .int 0, .int 0, .ref y_r39]))] := hD
  subst hw
  refine lv_aload_n hx hb dL_law_490 rfl (lv_at hl 1 rfl) ?_
  refine lv_aload_n hx hb dL_law_491 rfl (lv_at hl 3 rfl) ?_
  refine lv_iload_n hx hb dL_law_492 rfl (lv_at hl 0 rfl) ?_
  refine lv_iconst (v := 1) hx hb dL_law_493 (by decide) ?_
  refine lv_iadd hx hb dL_law_494 ?_
  refine lv_topi (fun vv ev => ?_)
  obtain rfl : vv = 1 := ev.trans (by decide)
  refine va_sld hx hb hX hbl hbA hS (show ¬ (_ ∨ _) by decide) dL_law_495 ?_
  refine lv_topi (fun vv ev => ?_)
  obtain rfl : vv = xs 1 := ev
  have hPc := hP.sub (ws' := [(y_m0, .inr (8, [.ref y_r0, .ref y_r1, .int 0, .int 0, .int 0, .int (-1), .int 0, .int 0, .int 0, .int 0, .long 0, .ref y_r11, .ref y_r12, .ref y_r13, .ref y_r14, .ref y_r15, .ref y_r16, .ref y_r17, .ref y_r18, .ref y_r19, .ref y_r20, .ref y_r21, .ref y_r22, .ref y_r23, .ref y_r24, .int 0, .int 0, .int 0, .int 0, .int 0, .int 0, .int 0, .int 0, .int 0, .ref y_r34, .ref y_r35, .ref y_r36, .int 0, .int 0, .ref y_r39]))]) [0] rfl
  have hDc := hD.sub (ws' := [(y_m0, .inr (8, [.ref y_r0, .ref y_r1, .int 0, .int 0, .int 0, .int (-1), .int 0, .int 0, .int 0, .int 0, .long 0, .ref y_r11, .ref y_r12, .ref y_r13, .ref y_r14, .ref y_r15, .ref y_r16, .ref y_r17, .ref y_r18, .ref y_r19, .ref y_r20, .ref y_r21, .ref y_r22, .ref y_r23, .ref y_r24, .int 0, .int 0, .int 0, .int 0, .int 0, .int 0, .int 0, .int 0, .int 0, .ref y_r34, .ref y_r35, .ref y_r36, .int 0, .int 0, .ref y_r39]))]) [0] (by decide) rfl
  have hFc := va_free (wc := [(y_m0, .inr (8, [.ref y_r0, .ref y_r1, .int 0, .int 0, .int 0, .int (-1), .int 0, .int 0, .int 0, .int 0, .long 0, .ref y_r11, .ref y_r12, .ref y_r13, .ref y_r14, .ref y_r15, .ref y_r16, .ref y_r17, .ref y_r18, .ref y_r19, .ref y_r20, .ref y_r21, .ref y_r22, .ref y_r23, .ref y_r24, .int 0, .int 0, .int 0, .int 0, .int 0, .int 0, .int 0, .int 0, .int 0, .ref y_r34, .ref y_r35, .ref y_r36, .int 0, .int 0, .ref y_r39]))]) hD hS hA [0] rfl
  refine va_calli (va_runV (As := [.int (xs 1)]) (rest := [.int (-1)]) ⟨hx, hb, hml, hown, hts⟩ (k_mlegs l D cI cB cP H.size y_m0 y_r0 y_r1 y_r11 y_r12 y_r13 y_r14 y_r15 y_r16 y_r17 y_r18 y_r19 y_r20 y_r21 y_r22 y_r23 y_r24 y_r34 y_r35 y_r36 y_r39 (xs 1)) (cwV 1 hts gw_law_19 rfl rfl rfl (by decide +kernel) ⟨Nat.le_of_ble_eq_true rfl, Nat.le_of_ble_eq_true rfl⟩) ⟨ny_blind, va_recv hK hPc (ci := 8) (q0 := 0) rfl rfl, ny_pre hPc hK hN hDc⟩ rfl rfl hl.1 rfl (lv_room (Nat.le_of_ble_eq_true rfl)) dL_law_496 ⟨Nat.le_of_ble_eq_true rfl, Nat.le_of_ble_eq_true rfl⟩) hS (fun q _ h => hFc q h) hFc (fun r2 u t H locs ht hvm hw hB hz1 hk1 hS => ?_)
  obtain ⟨hP, hD⟩ := va_join (wr := []) (w1 := []) hP hD [0] [] rfl rfl (by decide) (by decide) hk1 hFc ny_P0 ny_D0
  have hP : va_P D vwCl [] H := hP
  have hD : va_D (fun q : Nat => s.heap.size ≤ q) [] := hD
  subst hw
  refine lv_icmp_eq (tgt := 791) hx hb dL_law_499 (by decide) (fun c3 => ?_) (fun h9 => (by first | exact absurd h9 (by decide) | exact absurd (by decide) h9))
  exact law_end l C0 (by decide) (by decide) hS (lv_sub hl [0, 3] rfl)

set_option maxHeartbeats 4000000 in
set_option maxRecDepth 100000 in
/-- the call leg, and the end -/
theorem law_10 {p : Program} {e : Env} {s : State} {m : MethodId} {below : List Frame} {meth : Method} {c : Code} (l : Launch) {b : Nat} {xs : Nat → Int32} (C0 : lw_At p s m meth c b 6 xs) (D : va_G) (cI cB cP : ClassId) (x_h0 : Nat) (x_tp : Nat) (x_rd : Nat) (x_bk : Nat) (x_fl : Nat) (x_pl : Nat) (y_m0 : Nat) (y_r0 : Nat) (y_r1 : Nat) (y_r11 : Nat) (y_r12 : Nat) (y_r13 : Nat) (y_r14 : Nat) (y_r15 : Nat) (y_r16 : Nat) (y_r17 : Nat) (y_r18 : Nat) (y_r19 : Nat) (y_r20 : Nat) (y_r21 : Nat) (y_r22 : Nat) (y_r23 : Nat) (y_r24 : Nat) (y_r34 : Nat) (y_r35 : Nat) (y_r36 : Nat) (y_r39 : Nat) {H : Heap} {locs : List Loc} {ls : Array Slot} (hK : va_K D vwCl (TY cI cB cP) s) (hN : nw s) (hP : va_P D vwCl [(x_h0, .inr (7, [.ref x_tp, .ref x_rd, .ref x_bk, .ref x_fl, .ref x_pl])), (x_fl, .inr (1, [.ref x_bk, .int 0, .int 0, .int 0, .int 0, .int 0, .int 0])), (y_m0, .inr (8, [.ref y_r0, .ref y_r1, .int 0, .int 0, .int 0, .int (-1), .int 0, .int 0, .int 0, .int 0, .long 0, .ref y_r11, .ref y_r12, .ref y_r13, .ref y_r14, .ref y_r15, .ref y_r16, .ref y_r17, .ref y_r18, .ref y_r19, .ref y_r20, .ref y_r21, .ref y_r22, .ref y_r23, .ref y_r24, .int 0, .int 0, .int 0, .int 0, .int 0, .int 0, .int 0, .int 0, .int 0, .ref y_r34, .ref y_r35, .ref y_r36, .int 0, .int 0, .ref y_r39]))] H) (hD : va_D (fun q : Nat => s.heap.size ≤ q) [(x_h0, .inr (7, [.ref x_tp, .ref x_rd, .ref x_bk, .ref x_fl, .ref x_pl])), (x_fl, .inr (1, [.ref x_bk, .int 0, .int 0, .int 0, .int 0, .int 0, .int 0])), (y_m0, .inr (8, [.ref y_r0, .ref y_r1, .int 0, .int 0, .int 0, .int (-1), .int 0, .int 0, .int 0, .int 0, .long 0, .ref y_r11, .ref y_r12, .ref y_r13, .ref y_r14, .ref y_r15, .ref y_r16, .ref y_r17, .ref y_r18, .ref y_r19, .ref y_r20, .ref y_r21, .ref y_r22, .ref y_r23, .ref y_r24, .int 0, .int 0, .int 0, .int 0, .int 0, .int 0, .int 0, .int 0, .int 0, .ref y_r34, .ref y_r35, .ref y_r36, .int 0, .int 0, .ref y_r39]))]) (hS : va_S (fun q : Nat => s.heap.size ≤ q) s.heap H locs) (hl : lv_has ls 4 [(3, .int 0), (2, .ref y_m0), (1, .ref x_h0), (0, .ref b)]) : W p l e room_1 s m #[Value.ref b] below meth c H locs 86 7510 (lw_Z below #[Value.ref b] s) (F0 m 504 ls []) := by
  obtain ⟨hx, hb, hr, hml, hown, hts, hX, hbl, hlocks, hgv⟩ := id C0
  have hown : s.vm.findClass RL = some m.cls := hown
  have hA : ∀ q : Nat, s.heap.size ≤ q → (fun q : Nat => s.heap.size ≤ q) q := fun _ h => h
  have hbA : ¬ (fun q : Nat => s.heap.size ≤ q) b := Nat.not_le.mpr hbl
  refine lv_aload_n hx hb dL_law_504 rfl (lv_at hl 2 rfl) ?_
  refine lv_aload_n hx hb dL_law_505 rfl (lv_at hl 3 rfl) ?_
  refine lv_iload_n hx hb dL_law_506 rfl (lv_at hl 0 rfl) ?_
  refine lv_iconst (v := 1) hx hb dL_law_507 (by decide) ?_
  refine lv_iadd hx hb dL_law_508 ?_
  refine lv_topi (fun vv ev => ?_)
  obtain rfl : vv = 1 := ev.trans (by decide)
  refine va_sld hx hb hX hbl hbA hS (show ¬ (_ ∨ _) by decide) dL_law_509 ?_
  refine lv_topi (fun vv ev => ?_)
  obtain rfl : vv = xs 1 := ev
  refine lv_aload_n hx hb dL_law_510 rfl (lv_at hl 3 rfl) ?_
  refine lv_iload_n hx hb dL_law_511 rfl (lv_at hl 0 rfl) ?_
  refine lv_iconst (v := 2) hx hb dL_law_512 (by decide) ?_
  refine lv_iadd hx hb dL_law_513 ?_
  refine lv_topi (fun vv ev => ?_)
  obtain rfl : vv = 2 := ev.trans (by decide)
  refine va_sld hx hb hX hbl hbA hS (show ¬ (_ ∨ _) by decide) dL_law_514 ?_
  refine lv_topi (fun vv ev => ?_)
  obtain rfl : vv = xs 2 := ev
  refine lv_aload_n hx hb dL_law_515 rfl (lv_at hl 3 rfl) ?_
  refine lv_iload_n hx hb dL_law_516 rfl (lv_at hl 0 rfl) ?_
  refine lv_iconst (v := 3) hx hb dL_law_517 (by decide) ?_
  refine lv_iadd hx hb dL_law_518 ?_
  refine lv_topi (fun vv ev => ?_)
  obtain rfl : vv = 3 := ev.trans (by decide)
  refine va_sld hx hb hX hbl hbA hS (show ¬ (_ ∨ _) by decide) dL_law_519 ?_
  refine lv_topi (fun vv ev => ?_)
  obtain rfl : vv = xs 3 := ev
  have hPc := hP.sub (ws' := [(x_h0, .inr (7, [.ref x_tp, .ref x_rd, .ref x_bk, .ref x_fl, .ref x_pl])), (x_fl, .inr (1, [.ref x_bk, .int 0, .int 0, .int 0, .int 0, .int 0, .int 0]))]) [0, 1] rfl
  have hDc := hD.sub (ws' := [(x_h0, .inr (7, [.ref x_tp, .ref x_rd, .ref x_bk, .ref x_fl, .ref x_pl])), (x_fl, .inr (1, [.ref x_bk, .int 0, .int 0, .int 0, .int 0, .int 0, .int 0]))]) [0, 1] (by decide) rfl
  have hFc := va_free (wc := [(x_h0, .inr (7, [.ref x_tp, .ref x_rd, .ref x_bk, .ref x_fl, .ref x_pl])), (x_fl, .inr (1, [.ref x_bk, .int 0, .int 0, .int 0, .int 0, .int 0, .int 0]))]) hD hS hA [0, 1] rfl
  refine va_calli (va_runV (As := [.int (xs 1), .int (xs 2), .int (xs 3)]) (rest := []) ⟨hx, hb, hml, hown, hts⟩ (k_leg l D cI cB cP H.size x_h0 x_tp x_rd x_bk x_fl x_pl (xs 1) (xs 2) (xs 3)) (cwV 3 hts gw_law_20 rfl rfl rfl (by decide +kernel) ⟨Nat.le_of_ble_eq_true rfl, Nat.le_of_ble_eq_true rfl⟩) ⟨ny_blind, va_recv hK hPc (ci := 7) (q0 := 0) rfl rfl, ny_pre hPc hK hN hDc⟩ rfl rfl hl.1 rfl (lv_room (Nat.le_of_ble_eq_true rfl)) dL_law_520 ⟨Nat.le_of_ble_eq_true rfl, Nat.le_of_ble_eq_true rfl⟩) hS (fun q _ h => hFc q h) hFc (fun r1 u t H locs ht hvm hw hB hz1 hk1 hS => ?_)
  obtain ⟨hP, hD⟩ := va_join (wr := [(y_m0, .inr (8, [.ref y_r0, .ref y_r1, .int 0, .int 0, .int 0, .int (-1), .int 0, .int 0, .int 0, .int 0, .long 0, .ref y_r11, .ref y_r12, .ref y_r13, .ref y_r14, .ref y_r15, .ref y_r16, .ref y_r17, .ref y_r18, .ref y_r19, .ref y_r20, .ref y_r21, .ref y_r22, .ref y_r23, .ref y_r24, .int 0, .int 0, .int 0, .int 0, .int 0, .int 0, .int 0, .int 0, .int 0, .ref y_r34, .ref y_r35, .ref y_r36, .int 0, .int 0, .ref y_r39]))]) (w1 := []) hP hD [0, 1] [2] rfl rfl (by decide) (by decide) hk1 hFc ny_P0 ny_D0
  have hP : va_P D vwCl [(y_m0, .inr (8, [.ref y_r0, .ref y_r1, .int 0, .int 0, .int 0, .int (-1), .int 0, .int 0, .int 0, .int 0, .long 0, .ref y_r11, .ref y_r12, .ref y_r13, .ref y_r14, .ref y_r15, .ref y_r16, .ref y_r17, .ref y_r18, .ref y_r19, .ref y_r20, .ref y_r21, .ref y_r22, .ref y_r23, .ref y_r24, .int 0, .int 0, .int 0, .int 0, .int 0, .int 0, .int 0, .int 0, .int 0, .ref y_r34, .ref y_r35, .ref y_r36, .int 0, .int 0, .ref y_r39]))] H := hP
  have hD : va_D (fun q : Nat => s.heap.size ≤ q) [(y_m0, .inr (8, [.ref y_r0, .ref y_r1, .int 0, .int 0, .int 0, .int (-1), .int 0, .int 0, .int 0, .int 0, .long 0, .ref y_r11, .ref y_r12, .ref y_r13, .ref y_r14, .ref y_r15, .ref y_r16, .ref y_r17, .ref y_r18, .ref y_r19, .ref y_r20, .ref y_r21, .ref y_r22, .ref y_r23, .ref y_r24, .int 0, .int 0, .int 0, .int 0, .int 0, .int 0, .int 0, .int 0, .int 0, .ref y_r34, .ref y_r35, .ref y_r36, .int 0, .int 0, .ref y_r39]))] := hD
  subst hw
  refine lv_aload_n hx hb dL_law_523 rfl (lv_at hl 1 rfl) ?_
  refine lv_aload_n hx hb dL_law_524 rfl (lv_at hl 3 rfl) ?_
  refine lv_iload_n hx hb dL_law_525 rfl (lv_at hl 0 rfl) ?_
  refine lv_iconst (v := 1) hx hb dL_law_526 (by decide) ?_
  refine lv_iadd hx hb dL_law_527 ?_
  refine lv_topi (fun vv ev => ?_)
  obtain rfl : vv = 1 := ev.trans (by decide)
  refine va_sld hx hb hX hbl hbA hS (show ¬ (_ ∨ _) by decide) dL_law_528 ?_
  refine lv_topi (fun vv ev => ?_)
  obtain rfl : vv = xs 1 := ev
  refine lv_aload_n hx hb dL_law_529 rfl (lv_at hl 3 rfl) ?_
  refine lv_iload_n hx hb dL_law_530 rfl (lv_at hl 0 rfl) ?_
  refine lv_iconst (v := 2) hx hb dL_law_531 (by decide) ?_
  refine lv_iadd hx hb dL_law_532 ?_
  refine lv_topi (fun vv ev => ?_)
  obtain rfl : vv = 2 := ev.trans (by decide)
  refine va_sld hx hb hX hbl hbA hS (show ¬ (_ ∨ _) by decide) dL_law_533 ?_
  refine lv_topi (fun vv ev => ?_)
  obtain rfl : vv = xs 2 := ev
  refine lv_aload_n hx hb dL_law_534 rfl (lv_at hl 3 rfl) ?_
  refine lv_iload_n hx hb dL_law_535 rfl (lv_at hl 0 rfl) ?_
  refine lv_iconst (v := 3) hx hb dL_law_536 (by decide) ?_
  refine lv_iadd hx hb dL_law_537 ?_
  refine lv_topi (fun vv ev => ?_)
  obtain rfl : vv = 3 := ev.trans (by decide)
  refine va_sld hx hb hX hbl hbA hS (show ¬ (_ ∨ _) by decide) dL_law_538 ?_
  refine lv_topi (fun vv ev => ?_)
  obtain rfl : vv = xs 3 := ev
  have hPc := hP.sub (ws' := [(y_m0, .inr (8, [.ref y_r0, .ref y_r1, .int 0, .int 0, .int 0, .int (-1), .int 0, .int 0, .int 0, .int 0, .long 0, .ref y_r11, .ref y_r12, .ref y_r13, .ref y_r14, .ref y_r15, .ref y_r16, .ref y_r17, .ref y_r18, .ref y_r19, .ref y_r20, .ref y_r21, .ref y_r22, .ref y_r23, .ref y_r24, .int 0, .int 0, .int 0, .int 0, .int 0, .int 0, .int 0, .int 0, .int 0, .ref y_r34, .ref y_r35, .ref y_r36, .int 0, .int 0, .ref y_r39]))]) [0] rfl
  have hDc := hD.sub (ws' := [(y_m0, .inr (8, [.ref y_r0, .ref y_r1, .int 0, .int 0, .int 0, .int (-1), .int 0, .int 0, .int 0, .int 0, .long 0, .ref y_r11, .ref y_r12, .ref y_r13, .ref y_r14, .ref y_r15, .ref y_r16, .ref y_r17, .ref y_r18, .ref y_r19, .ref y_r20, .ref y_r21, .ref y_r22, .ref y_r23, .ref y_r24, .int 0, .int 0, .int 0, .int 0, .int 0, .int 0, .int 0, .int 0, .int 0, .ref y_r34, .ref y_r35, .ref y_r36, .int 0, .int 0, .ref y_r39]))]) [0] (by decide) rfl
  have hFc := va_free (wc := [(y_m0, .inr (8, [.ref y_r0, .ref y_r1, .int 0, .int 0, .int 0, .int (-1), .int 0, .int 0, .int 0, .int 0, .long 0, .ref y_r11, .ref y_r12, .ref y_r13, .ref y_r14, .ref y_r15, .ref y_r16, .ref y_r17, .ref y_r18, .ref y_r19, .ref y_r20, .ref y_r21, .ref y_r22, .ref y_r23, .ref y_r24, .int 0, .int 0, .int 0, .int 0, .int 0, .int 0, .int 0, .int 0, .int 0, .ref y_r34, .ref y_r35, .ref y_r36, .int 0, .int 0, .ref y_r39]))]) hD hS hA [0] rfl
  refine va_calli (va_runV (As := [.int (xs 1), .int (xs 2), .int (xs 3)]) (rest := [.int (-1)]) ⟨hx, hb, hml, hown, hts⟩ (k_mleg l D cI cB cP H.size y_m0 y_r0 y_r1 y_r11 y_r12 y_r13 y_r14 y_r15 y_r16 y_r17 y_r18 y_r19 y_r20 y_r21 y_r22 y_r23 y_r24 y_r34 y_r35 y_r36 y_r39 (xs 1) (xs 2) (xs 3)) (cwV 3 hts gw_law_21 rfl rfl rfl (by decide +kernel) ⟨Nat.le_of_ble_eq_true rfl, Nat.le_of_ble_eq_true rfl⟩) ⟨ny_blind, va_recv hK hPc (ci := 8) (q0 := 0) rfl rfl, ny_pre hPc hK hN hDc⟩ rfl rfl hl.1 rfl (lv_room (Nat.le_of_ble_eq_true rfl)) dL_law_539 ⟨Nat.le_of_ble_eq_true rfl, Nat.le_of_ble_eq_true rfl⟩) hS (fun q _ h => hFc q h) hFc (fun r2 u t H locs ht hvm hw hB hz1 hk1 hS => ?_)
  obtain ⟨hP, hD⟩ := va_join (wr := []) (w1 := []) hP hD [0] [] rfl rfl (by decide) (by decide) hk1 hFc ny_P0 ny_D0
  have hP : va_P D vwCl [] H := hP
  have hD : va_D (fun q : Nat => s.heap.size ≤ q) [] := hD
  subst hw
  refine lv_icmp_eq (tgt := 791) hx hb dL_law_542 (by decide) (fun c3 => ?_) (fun h9 => (by first | exact absurd h9 (by decide) | exact absurd (by decide) h9))
  exact law_end l C0 (by decide) (by decide) hS (lv_sub hl [0, 3] rfl)

set_option maxHeartbeats 4000000 in
set_option maxRecDepth 100000 in
/-- the call time, and the end -/
theorem law_11 {p : Program} {e : Env} {s : State} {m : MethodId} {below : List Frame} {meth : Method} {c : Code} (l : Launch) {b : Nat} {xs : Nat → Int32} (C0 : lw_At p s m meth c b 6 xs) (D : va_G) (cI cB cP : ClassId) (x_h0 : Nat) (x_tp : Nat) (x_rd : Nat) (x_bk : Nat) (x_fl : Nat) (x_pl : Nat) (y_m0 : Nat) (y_r0 : Nat) (y_r1 : Nat) (y_r11 : Nat) (y_r12 : Nat) (y_r13 : Nat) (y_r14 : Nat) (y_r15 : Nat) (y_r16 : Nat) (y_r17 : Nat) (y_r18 : Nat) (y_r19 : Nat) (y_r20 : Nat) (y_r21 : Nat) (y_r22 : Nat) (y_r23 : Nat) (y_r24 : Nat) (y_r34 : Nat) (y_r35 : Nat) (y_r36 : Nat) (y_r39 : Nat) {H : Heap} {locs : List Loc} {ls : Array Slot} (hK : va_K D vwCl (TY cI cB cP) s) (hN : nw s) (hP : va_P D vwCl [(x_h0, .inr (7, [.ref x_tp, .ref x_rd, .ref x_bk, .ref x_fl, .ref x_pl])), (x_fl, .inr (1, [.ref x_bk, .int 0, .int 0, .int 0, .int 0, .int 0, .int 0])), (y_m0, .inr (8, [.ref y_r0, .ref y_r1, .int 0, .int 0, .int 0, .int (-1), .int 0, .int 0, .int 0, .int 0, .long 0, .ref y_r11, .ref y_r12, .ref y_r13, .ref y_r14, .ref y_r15, .ref y_r16, .ref y_r17, .ref y_r18, .ref y_r19, .ref y_r20, .ref y_r21, .ref y_r22, .ref y_r23, .ref y_r24, .int 0, .int 0, .int 0, .int 0, .int 0, .int 0, .int 0, .int 0, .int 0, .ref y_r34, .ref y_r35, .ref y_r36, .int 0, .int 0, .ref y_r39]))] H) (hD : va_D (fun q : Nat => s.heap.size ≤ q) [(x_h0, .inr (7, [.ref x_tp, .ref x_rd, .ref x_bk, .ref x_fl, .ref x_pl])), (x_fl, .inr (1, [.ref x_bk, .int 0, .int 0, .int 0, .int 0, .int 0, .int 0])), (y_m0, .inr (8, [.ref y_r0, .ref y_r1, .int 0, .int 0, .int 0, .int (-1), .int 0, .int 0, .int 0, .int 0, .long 0, .ref y_r11, .ref y_r12, .ref y_r13, .ref y_r14, .ref y_r15, .ref y_r16, .ref y_r17, .ref y_r18, .ref y_r19, .ref y_r20, .ref y_r21, .ref y_r22, .ref y_r23, .ref y_r24, .int 0, .int 0, .int 0, .int 0, .int 0, .int 0, .int 0, .int 0, .int 0, .ref y_r34, .ref y_r35, .ref y_r36, .int 0, .int 0, .ref y_r39]))]) (hS : va_S (fun q : Nat => s.heap.size ≤ q) s.heap H locs) (hl : lv_has ls 4 [(3, .int 0), (2, .ref y_m0), (1, .ref x_h0), (0, .ref b)]) : W p l e room_1 s m #[Value.ref b] below meth c H locs 86 7510 (lw_Z below #[Value.ref b] s) (F0 m 547 ls []) := by
  obtain ⟨hx, hb, hr, hml, hown, hts, hX, hbl, hlocks, hgv⟩ := id C0
  have hown : s.vm.findClass RL = some m.cls := hown
  have hA : ∀ q : Nat, s.heap.size ≤ q → (fun q : Nat => s.heap.size ≤ q) q := fun _ h => h
  have hbA : ¬ (fun q : Nat => s.heap.size ≤ q) b := Nat.not_le.mpr hbl
  refine lv_aload_n hx hb dL_law_547 rfl (lv_at hl 2 rfl) ?_
  refine lv_aload_n hx hb dL_law_548 rfl (lv_at hl 3 rfl) ?_
  refine lv_iload_n hx hb dL_law_549 rfl (lv_at hl 0 rfl) ?_
  refine lv_iconst (v := 1) hx hb dL_law_550 (by decide) ?_
  refine lv_iadd hx hb dL_law_551 ?_
  refine lv_topi (fun vv ev => ?_)
  obtain rfl : vv = 1 := ev.trans (by decide)
  refine va_sld hx hb hX hbl hbA hS (show ¬ (_ ∨ _) by decide) dL_law_552 ?_
  refine lv_topi (fun vv ev => ?_)
  obtain rfl : vv = xs 1 := ev
  have hPc := hP.sub (ws' := [(x_h0, .inr (7, [.ref x_tp, .ref x_rd, .ref x_bk, .ref x_fl, .ref x_pl])), (x_fl, .inr (1, [.ref x_bk, .int 0, .int 0, .int 0, .int 0, .int 0, .int 0]))]) [0, 1] rfl
  have hDc := hD.sub (ws' := [(x_h0, .inr (7, [.ref x_tp, .ref x_rd, .ref x_bk, .ref x_fl, .ref x_pl])), (x_fl, .inr (1, [.ref x_bk, .int 0, .int 0, .int 0, .int 0, .int 0, .int 0]))]) [0, 1] (by decide) rfl
  have hFc := va_free (wc := [(x_h0, .inr (7, [.ref x_tp, .ref x_rd, .ref x_bk, .ref x_fl, .ref x_pl])), (x_fl, .inr (1, [.ref x_bk, .int 0, .int 0, .int 0, .int 0, .int 0, .int 0]))]) hD hS hA [0, 1] rfl
  refine va_calli (va_runV (As := [.int (xs 1)]) (rest := []) ⟨hx, hb, hml, hown, hts⟩ (k_time l D cI cB cP H.size x_h0 x_tp x_rd x_bk x_fl x_pl (xs 1)) (cwV 1 hts gw_law_22 rfl rfl rfl (by decide +kernel) ⟨Nat.le_of_ble_eq_true rfl, Nat.le_of_ble_eq_true rfl⟩) ⟨ny_blind, va_recv hK hPc (ci := 7) (q0 := 0) rfl rfl, ny_pre hPc hK hN hDc⟩ rfl rfl hl.1 rfl (lv_room (Nat.le_of_ble_eq_true rfl)) dL_law_553 ⟨Nat.le_of_ble_eq_true rfl, Nat.le_of_ble_eq_true rfl⟩) hS (fun q _ h => hFc q h) hFc (fun r1 u t H locs ht hvm hw hB hz1 hk1 hS => ?_)
  obtain ⟨hP, hD⟩ := va_join (wr := [(y_m0, .inr (8, [.ref y_r0, .ref y_r1, .int 0, .int 0, .int 0, .int (-1), .int 0, .int 0, .int 0, .int 0, .long 0, .ref y_r11, .ref y_r12, .ref y_r13, .ref y_r14, .ref y_r15, .ref y_r16, .ref y_r17, .ref y_r18, .ref y_r19, .ref y_r20, .ref y_r21, .ref y_r22, .ref y_r23, .ref y_r24, .int 0, .int 0, .int 0, .int 0, .int 0, .int 0, .int 0, .int 0, .int 0, .ref y_r34, .ref y_r35, .ref y_r36, .int 0, .int 0, .ref y_r39]))]) (w1 := []) hP hD [0, 1] [2] rfl rfl (by decide) (by decide) hk1 hFc ny_P0 ny_D0
  have hP : va_P D vwCl [(y_m0, .inr (8, [.ref y_r0, .ref y_r1, .int 0, .int 0, .int 0, .int (-1), .int 0, .int 0, .int 0, .int 0, .long 0, .ref y_r11, .ref y_r12, .ref y_r13, .ref y_r14, .ref y_r15, .ref y_r16, .ref y_r17, .ref y_r18, .ref y_r19, .ref y_r20, .ref y_r21, .ref y_r22, .ref y_r23, .ref y_r24, .int 0, .int 0, .int 0, .int 0, .int 0, .int 0, .int 0, .int 0, .int 0, .ref y_r34, .ref y_r35, .ref y_r36, .int 0, .int 0, .ref y_r39]))] H := hP
  have hD : va_D (fun q : Nat => s.heap.size ≤ q) [(y_m0, .inr (8, [.ref y_r0, .ref y_r1, .int 0, .int 0, .int 0, .int (-1), .int 0, .int 0, .int 0, .int 0, .long 0, .ref y_r11, .ref y_r12, .ref y_r13, .ref y_r14, .ref y_r15, .ref y_r16, .ref y_r17, .ref y_r18, .ref y_r19, .ref y_r20, .ref y_r21, .ref y_r22, .ref y_r23, .ref y_r24, .int 0, .int 0, .int 0, .int 0, .int 0, .int 0, .int 0, .int 0, .int 0, .ref y_r34, .ref y_r35, .ref y_r36, .int 0, .int 0, .ref y_r39]))] := hD
  subst hw
  refine lv_aload_n hx hb dL_law_556 rfl (lv_at hl 1 rfl) ?_
  refine lv_aload_n hx hb dL_law_557 rfl (lv_at hl 3 rfl) ?_
  refine lv_iload_n hx hb dL_law_558 rfl (lv_at hl 0 rfl) ?_
  refine lv_iconst (v := 1) hx hb dL_law_559 (by decide) ?_
  refine lv_iadd hx hb dL_law_560 ?_
  refine lv_topi (fun vv ev => ?_)
  obtain rfl : vv = 1 := ev.trans (by decide)
  refine va_sld hx hb hX hbl hbA hS (show ¬ (_ ∨ _) by decide) dL_law_561 ?_
  refine lv_topi (fun vv ev => ?_)
  obtain rfl : vv = xs 1 := ev
  have hPc := hP.sub (ws' := [(y_m0, .inr (8, [.ref y_r0, .ref y_r1, .int 0, .int 0, .int 0, .int (-1), .int 0, .int 0, .int 0, .int 0, .long 0, .ref y_r11, .ref y_r12, .ref y_r13, .ref y_r14, .ref y_r15, .ref y_r16, .ref y_r17, .ref y_r18, .ref y_r19, .ref y_r20, .ref y_r21, .ref y_r22, .ref y_r23, .ref y_r24, .int 0, .int 0, .int 0, .int 0, .int 0, .int 0, .int 0, .int 0, .int 0, .ref y_r34, .ref y_r35, .ref y_r36, .int 0, .int 0, .ref y_r39]))]) [0] rfl
  have hDc := hD.sub (ws' := [(y_m0, .inr (8, [.ref y_r0, .ref y_r1, .int 0, .int 0, .int 0, .int (-1), .int 0, .int 0, .int 0, .int 0, .long 0, .ref y_r11, .ref y_r12, .ref y_r13, .ref y_r14, .ref y_r15, .ref y_r16, .ref y_r17, .ref y_r18, .ref y_r19, .ref y_r20, .ref y_r21, .ref y_r22, .ref y_r23, .ref y_r24, .int 0, .int 0, .int 0, .int 0, .int 0, .int 0, .int 0, .int 0, .int 0, .ref y_r34, .ref y_r35, .ref y_r36, .int 0, .int 0, .ref y_r39]))]) [0] (by decide) rfl
  have hFc := va_free (wc := [(y_m0, .inr (8, [.ref y_r0, .ref y_r1, .int 0, .int 0, .int 0, .int (-1), .int 0, .int 0, .int 0, .int 0, .long 0, .ref y_r11, .ref y_r12, .ref y_r13, .ref y_r14, .ref y_r15, .ref y_r16, .ref y_r17, .ref y_r18, .ref y_r19, .ref y_r20, .ref y_r21, .ref y_r22, .ref y_r23, .ref y_r24, .int 0, .int 0, .int 0, .int 0, .int 0, .int 0, .int 0, .int 0, .int 0, .ref y_r34, .ref y_r35, .ref y_r36, .int 0, .int 0, .ref y_r39]))]) hD hS hA [0] rfl
  refine va_calli (va_runV (As := [.int (xs 1)]) (rest := [.int (-1)]) ⟨hx, hb, hml, hown, hts⟩ (k_mtime l D cI cB cP H.size y_m0 y_r0 y_r1 y_r11 y_r12 y_r13 y_r14 y_r15 y_r16 y_r17 y_r18 y_r19 y_r20 y_r21 y_r22 y_r23 y_r24 y_r34 y_r35 y_r36 y_r39 (xs 1)) (cwV 1 hts gw_law_23 rfl rfl rfl (by decide +kernel) ⟨Nat.le_of_ble_eq_true rfl, Nat.le_of_ble_eq_true rfl⟩) ⟨ny_blind, va_recv hK hPc (ci := 8) (q0 := 0) rfl rfl, ny_pre hPc hK hN hDc⟩ rfl rfl hl.1 rfl (lv_room (Nat.le_of_ble_eq_true rfl)) dL_law_562 ⟨Nat.le_of_ble_eq_true rfl, Nat.le_of_ble_eq_true rfl⟩) hS (fun q _ h => hFc q h) hFc (fun r2 u t H locs ht hvm hw hB hz1 hk1 hS => ?_)
  obtain ⟨hP, hD⟩ := va_join (wr := []) (w1 := []) hP hD [0] [] rfl rfl (by decide) (by decide) hk1 hFc ny_P0 ny_D0
  have hP : va_P D vwCl [] H := hP
  have hD : va_D (fun q : Nat => s.heap.size ≤ q) [] := hD
  subst hw
  refine lv_icmp_eq (tgt := 791) hx hb dL_law_565 (by decide) (fun c3 => ?_) (fun h9 => (by first | exact absurd h9 (by decide) | exact absurd (by decide) h9))
  exact law_end l C0 (by decide) (by decide) hS (lv_sub hl [0, 3] rfl)

set_option maxHeartbeats 4000000 in
set_option maxRecDepth 100000 in
/-- the call legal, and the end -/
theorem law_12 {p : Program} {e : Env} {s : State} {m : MethodId} {below : List Frame} {meth : Method} {c : Code} (l : Launch) {b : Nat} {xs : Nat → Int32} (C0 : lw_At p s m meth c b 6 xs) (D : va_G) (cI cB cP : ClassId) (x_h0 : Nat) (x_tp : Nat) (x_rd : Nat) (x_bk : Nat) (x_fl : Nat) (x_pl : Nat) (y_m0 : Nat) (y_r0 : Nat) (y_r1 : Nat) (y_r11 : Nat) (y_r12 : Nat) (y_r13 : Nat) (y_r14 : Nat) (y_r15 : Nat) (y_r16 : Nat) (y_r17 : Nat) (y_r18 : Nat) (y_r19 : Nat) (y_r20 : Nat) (y_r21 : Nat) (y_r22 : Nat) (y_r23 : Nat) (y_r24 : Nat) (y_r34 : Nat) (y_r35 : Nat) (y_r36 : Nat) (y_r39 : Nat) {H : Heap} {locs : List Loc} {ls : Array Slot} (hK : va_K D vwCl (TY cI cB cP) s) (hN : nw s) (hP : va_P D vwCl [(x_h0, .inr (7, [.ref x_tp, .ref x_rd, .ref x_bk, .ref x_fl, .ref x_pl])), (x_fl, .inr (1, [.ref x_bk, .int 0, .int 0, .int 0, .int 0, .int 0, .int 0])), (y_m0, .inr (8, [.ref y_r0, .ref y_r1, .int 0, .int 0, .int 0, .int (-1), .int 0, .int 0, .int 0, .int 0, .long 0, .ref y_r11, .ref y_r12, .ref y_r13, .ref y_r14, .ref y_r15, .ref y_r16, .ref y_r17, .ref y_r18, .ref y_r19, .ref y_r20, .ref y_r21, .ref y_r22, .ref y_r23, .ref y_r24, .int 0, .int 0, .int 0, .int 0, .int 0, .int 0, .int 0, .int 0, .int 0, .ref y_r34, .ref y_r35, .ref y_r36, .int 0, .int 0, .ref y_r39]))] H) (hD : va_D (fun q : Nat => s.heap.size ≤ q) [(x_h0, .inr (7, [.ref x_tp, .ref x_rd, .ref x_bk, .ref x_fl, .ref x_pl])), (x_fl, .inr (1, [.ref x_bk, .int 0, .int 0, .int 0, .int 0, .int 0, .int 0])), (y_m0, .inr (8, [.ref y_r0, .ref y_r1, .int 0, .int 0, .int 0, .int (-1), .int 0, .int 0, .int 0, .int 0, .long 0, .ref y_r11, .ref y_r12, .ref y_r13, .ref y_r14, .ref y_r15, .ref y_r16, .ref y_r17, .ref y_r18, .ref y_r19, .ref y_r20, .ref y_r21, .ref y_r22, .ref y_r23, .ref y_r24, .int 0, .int 0, .int 0, .int 0, .int 0, .int 0, .int 0, .int 0, .int 0, .ref y_r34, .ref y_r35, .ref y_r36, .int 0, .int 0, .ref y_r39]))]) (hS : va_S (fun q : Nat => s.heap.size ≤ q) s.heap H locs) (hl : lv_has ls 4 [(3, .int 0), (2, .ref y_m0), (1, .ref x_h0), (0, .ref b)]) : W p l e room_1 s m #[Value.ref b] below meth c H locs 86 7510 (lw_Z below #[Value.ref b] s) (F0 m 570 ls []) := by
  obtain ⟨hx, hb, hr, hml, hown, hts, hX, hbl, hlocks, hgv⟩ := id C0
  have hown : s.vm.findClass RL = some m.cls := hown
  have hA : ∀ q : Nat, s.heap.size ≤ q → (fun q : Nat => s.heap.size ≤ q) q := fun _ h => h
  have hbA : ¬ (fun q : Nat => s.heap.size ≤ q) b := Nat.not_le.mpr hbl
  refine lv_aload_n hx hb dL_law_570 rfl (lv_at hl 2 rfl) ?_
  refine lv_aload_n hx hb dL_law_571 rfl (lv_at hl 3 rfl) ?_
  refine lv_iload_n hx hb dL_law_572 rfl (lv_at hl 0 rfl) ?_
  refine lv_iconst (v := 1) hx hb dL_law_573 (by decide) ?_
  refine lv_iadd hx hb dL_law_574 ?_
  refine lv_topi (fun vv ev => ?_)
  obtain rfl : vv = 1 := ev.trans (by decide)
  refine va_sld hx hb hX hbl hbA hS (show ¬ (_ ∨ _) by decide) dL_law_575 ?_
  refine lv_topi (fun vv ev => ?_)
  obtain rfl : vv = xs 1 := ev
  have hPc := hP.sub (ws' := [(x_h0, .inr (7, [.ref x_tp, .ref x_rd, .ref x_bk, .ref x_fl, .ref x_pl])), (x_fl, .inr (1, [.ref x_bk, .int 0, .int 0, .int 0, .int 0, .int 0, .int 0]))]) [0, 1] rfl
  have hDc := hD.sub (ws' := [(x_h0, .inr (7, [.ref x_tp, .ref x_rd, .ref x_bk, .ref x_fl, .ref x_pl])), (x_fl, .inr (1, [.ref x_bk, .int 0, .int 0, .int 0, .int 0, .int 0, .int 0]))]) [0, 1] (by decide) rfl
  have hFc := va_free (wc := [(x_h0, .inr (7, [.ref x_tp, .ref x_rd, .ref x_bk, .ref x_fl, .ref x_pl])), (x_fl, .inr (1, [.ref x_bk, .int 0, .int 0, .int 0, .int 0, .int 0, .int 0]))]) hD hS hA [0, 1] rfl
  refine va_calli (va_runV (As := [.int (xs 1)]) (rest := []) ⟨hx, hb, hml, hown, hts⟩ (k_legal l D cI cB cP H.size x_h0 x_tp x_rd x_bk x_fl x_pl (xs 1)) (cwV 1 hts gw_law_24 rfl rfl rfl (by decide +kernel) ⟨Nat.le_of_ble_eq_true rfl, Nat.le_of_ble_eq_true rfl⟩) ⟨ny_blind, va_recv hK hPc (ci := 7) (q0 := 0) rfl rfl, ny_pre hPc hK hN hDc⟩ rfl rfl hl.1 rfl (lv_room (Nat.le_of_ble_eq_true rfl)) dL_law_576 ⟨Nat.le_of_ble_eq_true rfl, Nat.le_of_ble_eq_true rfl⟩) hS (fun q _ h => hFc q h) hFc (fun r1 u t H locs ht hvm hw hB hz1 hk1 hS => ?_)
  obtain ⟨hP, hD⟩ := va_join (wr := [(y_m0, .inr (8, [.ref y_r0, .ref y_r1, .int 0, .int 0, .int 0, .int (-1), .int 0, .int 0, .int 0, .int 0, .long 0, .ref y_r11, .ref y_r12, .ref y_r13, .ref y_r14, .ref y_r15, .ref y_r16, .ref y_r17, .ref y_r18, .ref y_r19, .ref y_r20, .ref y_r21, .ref y_r22, .ref y_r23, .ref y_r24, .int 0, .int 0, .int 0, .int 0, .int 0, .int 0, .int 0, .int 0, .int 0, .ref y_r34, .ref y_r35, .ref y_r36, .int 0, .int 0, .ref y_r39]))]) (w1 := []) hP hD [0, 1] [2] rfl rfl (by decide) (by decide) hk1 hFc ny_P0 ny_D0
  have hP : va_P D vwCl [(y_m0, .inr (8, [.ref y_r0, .ref y_r1, .int 0, .int 0, .int 0, .int (-1), .int 0, .int 0, .int 0, .int 0, .long 0, .ref y_r11, .ref y_r12, .ref y_r13, .ref y_r14, .ref y_r15, .ref y_r16, .ref y_r17, .ref y_r18, .ref y_r19, .ref y_r20, .ref y_r21, .ref y_r22, .ref y_r23, .ref y_r24, .int 0, .int 0, .int 0, .int 0, .int 0, .int 0, .int 0, .int 0, .int 0, .ref y_r34, .ref y_r35, .ref y_r36, .int 0, .int 0, .ref y_r39]))] H := hP
  have hD : va_D (fun q : Nat => s.heap.size ≤ q) [(y_m0, .inr (8, [.ref y_r0, .ref y_r1, .int 0, .int 0, .int 0, .int (-1), .int 0, .int 0, .int 0, .int 0, .long 0, .ref y_r11, .ref y_r12, .ref y_r13, .ref y_r14, .ref y_r15, .ref y_r16, .ref y_r17, .ref y_r18, .ref y_r19, .ref y_r20, .ref y_r21, .ref y_r22, .ref y_r23, .ref y_r24, .int 0, .int 0, .int 0, .int 0, .int 0, .int 0, .int 0, .int 0, .int 0, .ref y_r34, .ref y_r35, .ref y_r36, .int 0, .int 0, .ref y_r39]))] := hD
  subst hw
  refine lv_aload_n hx hb dL_law_579 rfl (lv_at hl 1 rfl) ?_
  refine lv_aload_n hx hb dL_law_580 rfl (lv_at hl 3 rfl) ?_
  refine lv_iload_n hx hb dL_law_581 rfl (lv_at hl 0 rfl) ?_
  refine lv_iconst (v := 1) hx hb dL_law_582 (by decide) ?_
  refine lv_iadd hx hb dL_law_583 ?_
  refine lv_topi (fun vv ev => ?_)
  obtain rfl : vv = 1 := ev.trans (by decide)
  refine va_sld hx hb hX hbl hbA hS (show ¬ (_ ∨ _) by decide) dL_law_584 ?_
  refine lv_topi (fun vv ev => ?_)
  obtain rfl : vv = xs 1 := ev
  have hPc := hP.sub (ws' := [(y_m0, .inr (8, [.ref y_r0, .ref y_r1, .int 0, .int 0, .int 0, .int (-1), .int 0, .int 0, .int 0, .int 0, .long 0, .ref y_r11, .ref y_r12, .ref y_r13, .ref y_r14, .ref y_r15, .ref y_r16, .ref y_r17, .ref y_r18, .ref y_r19, .ref y_r20, .ref y_r21, .ref y_r22, .ref y_r23, .ref y_r24, .int 0, .int 0, .int 0, .int 0, .int 0, .int 0, .int 0, .int 0, .int 0, .ref y_r34, .ref y_r35, .ref y_r36, .int 0, .int 0, .ref y_r39]))]) [0] rfl
  have hDc := hD.sub (ws' := [(y_m0, .inr (8, [.ref y_r0, .ref y_r1, .int 0, .int 0, .int 0, .int (-1), .int 0, .int 0, .int 0, .int 0, .long 0, .ref y_r11, .ref y_r12, .ref y_r13, .ref y_r14, .ref y_r15, .ref y_r16, .ref y_r17, .ref y_r18, .ref y_r19, .ref y_r20, .ref y_r21, .ref y_r22, .ref y_r23, .ref y_r24, .int 0, .int 0, .int 0, .int 0, .int 0, .int 0, .int 0, .int 0, .int 0, .ref y_r34, .ref y_r35, .ref y_r36, .int 0, .int 0, .ref y_r39]))]) [0] (by decide) rfl
  have hFc := va_free (wc := [(y_m0, .inr (8, [.ref y_r0, .ref y_r1, .int 0, .int 0, .int 0, .int (-1), .int 0, .int 0, .int 0, .int 0, .long 0, .ref y_r11, .ref y_r12, .ref y_r13, .ref y_r14, .ref y_r15, .ref y_r16, .ref y_r17, .ref y_r18, .ref y_r19, .ref y_r20, .ref y_r21, .ref y_r22, .ref y_r23, .ref y_r24, .int 0, .int 0, .int 0, .int 0, .int 0, .int 0, .int 0, .int 0, .int 0, .ref y_r34, .ref y_r35, .ref y_r36, .int 0, .int 0, .ref y_r39]))]) hD hS hA [0] rfl
  refine va_calli (va_runV (As := [.int (xs 1)]) (rest := [.int (-1)]) ⟨hx, hb, hml, hown, hts⟩ (k_mlegal l D cI cB cP H.size y_m0 y_r0 y_r1 y_r11 y_r12 y_r13 y_r14 y_r15 y_r16 y_r17 y_r18 y_r19 y_r20 y_r21 y_r22 y_r23 y_r24 y_r34 y_r35 y_r36 y_r39 (xs 1)) (cwV 1 hts gw_law_25 rfl rfl rfl (by decide +kernel) ⟨Nat.le_of_ble_eq_true rfl, Nat.le_of_ble_eq_true rfl⟩) ⟨ny_blind, va_recv hK hPc (ci := 8) (q0 := 0) rfl rfl, ny_pre hPc hK hN hDc⟩ rfl rfl hl.1 rfl (lv_room (Nat.le_of_ble_eq_true rfl)) dL_law_585 ⟨Nat.le_of_ble_eq_true rfl, Nat.le_of_ble_eq_true rfl⟩) hS (fun q _ h => hFc q h) hFc (fun r2 u t H locs ht hvm hw hB hz1 hk1 hS => ?_)
  obtain ⟨hP, hD⟩ := va_join (wr := []) (w1 := []) hP hD [0] [] rfl rfl (by decide) (by decide) hk1 hFc ny_P0 ny_D0
  have hP : va_P D vwCl [] H := hP
  have hD : va_D (fun q : Nat => s.heap.size ≤ q) [] := hD
  subst hw
  refine lv_icmp_eq (tgt := 791) hx hb dL_law_588 (by decide) (fun c3 => ?_) (fun h9 => (by first | exact absurd h9 (by decide) | exact absurd (by decide) h9))
  exact law_end l C0 (by decide) (by decide) hS (lv_sub hl [0, 3] rfl)

set_option maxHeartbeats 4000000 in
set_option maxRecDepth 100000 in
/-- the call borne, and the end -/
theorem law_13 {p : Program} {e : Env} {s : State} {m : MethodId} {below : List Frame} {meth : Method} {c : Code} (l : Launch) {b : Nat} {xs : Nat → Int32} (C0 : lw_At p s m meth c b 6 xs) (D : va_G) (cI cB cP : ClassId) (x_h0 : Nat) (x_tp : Nat) (x_rd : Nat) (x_bk : Nat) (x_fl : Nat) (x_pl : Nat) (y_m0 : Nat) (y_r0 : Nat) (y_r1 : Nat) (y_r11 : Nat) (y_r12 : Nat) (y_r13 : Nat) (y_r14 : Nat) (y_r15 : Nat) (y_r16 : Nat) (y_r17 : Nat) (y_r18 : Nat) (y_r19 : Nat) (y_r20 : Nat) (y_r21 : Nat) (y_r22 : Nat) (y_r23 : Nat) (y_r24 : Nat) (y_r34 : Nat) (y_r35 : Nat) (y_r36 : Nat) (y_r39 : Nat) {H : Heap} {locs : List Loc} {ls : Array Slot} (hK : va_K D vwCl (TY cI cB cP) s) (hN : nw s) (hP : va_P D vwCl [(x_h0, .inr (7, [.ref x_tp, .ref x_rd, .ref x_bk, .ref x_fl, .ref x_pl])), (x_fl, .inr (1, [.ref x_bk, .int 0, .int 0, .int 0, .int 0, .int 0, .int 0])), (y_m0, .inr (8, [.ref y_r0, .ref y_r1, .int 0, .int 0, .int 0, .int (-1), .int 0, .int 0, .int 0, .int 0, .long 0, .ref y_r11, .ref y_r12, .ref y_r13, .ref y_r14, .ref y_r15, .ref y_r16, .ref y_r17, .ref y_r18, .ref y_r19, .ref y_r20, .ref y_r21, .ref y_r22, .ref y_r23, .ref y_r24, .int 0, .int 0, .int 0, .int 0, .int 0, .int 0, .int 0, .int 0, .int 0, .ref y_r34, .ref y_r35, .ref y_r36, .int 0, .int 0, .ref y_r39]))] H) (hD : va_D (fun q : Nat => s.heap.size ≤ q) [(x_h0, .inr (7, [.ref x_tp, .ref x_rd, .ref x_bk, .ref x_fl, .ref x_pl])), (x_fl, .inr (1, [.ref x_bk, .int 0, .int 0, .int 0, .int 0, .int 0, .int 0])), (y_m0, .inr (8, [.ref y_r0, .ref y_r1, .int 0, .int 0, .int 0, .int (-1), .int 0, .int 0, .int 0, .int 0, .long 0, .ref y_r11, .ref y_r12, .ref y_r13, .ref y_r14, .ref y_r15, .ref y_r16, .ref y_r17, .ref y_r18, .ref y_r19, .ref y_r20, .ref y_r21, .ref y_r22, .ref y_r23, .ref y_r24, .int 0, .int 0, .int 0, .int 0, .int 0, .int 0, .int 0, .int 0, .int 0, .ref y_r34, .ref y_r35, .ref y_r36, .int 0, .int 0, .ref y_r39]))]) (hS : va_S (fun q : Nat => s.heap.size ≤ q) s.heap H locs) (hl : lv_has ls 4 [(3, .int 0), (2, .ref y_m0), (1, .ref x_h0), (0, .ref b)]) : W p l e room_1 s m #[Value.ref b] below meth c H locs 86 7510 (lw_Z below #[Value.ref b] s) (F0 m 593 ls []) := by
  obtain ⟨hx, hb, hr, hml, hown, hts, hX, hbl, hlocks, hgv⟩ := id C0
  have hown : s.vm.findClass RL = some m.cls := hown
  have hA : ∀ q : Nat, s.heap.size ≤ q → (fun q : Nat => s.heap.size ≤ q) q := fun _ h => h
  have hbA : ¬ (fun q : Nat => s.heap.size ≤ q) b := Nat.not_le.mpr hbl
  refine lv_aload_n hx hb dL_law_593 rfl (lv_at hl 2 rfl) ?_
  refine lv_aload_n hx hb dL_law_594 rfl (lv_at hl 3 rfl) ?_
  refine lv_iload_n hx hb dL_law_595 rfl (lv_at hl 0 rfl) ?_
  refine lv_iconst (v := 1) hx hb dL_law_596 (by decide) ?_
  refine lv_iadd hx hb dL_law_597 ?_
  refine lv_topi (fun vv ev => ?_)
  obtain rfl : vv = 1 := ev.trans (by decide)
  refine va_sld hx hb hX hbl hbA hS (show ¬ (_ ∨ _) by decide) dL_law_598 ?_
  refine lv_topi (fun vv ev => ?_)
  obtain rfl : vv = xs 1 := ev
  have hPc := hP.sub (ws' := [(x_h0, .inr (7, [.ref x_tp, .ref x_rd, .ref x_bk, .ref x_fl, .ref x_pl])), (x_fl, .inr (1, [.ref x_bk, .int 0, .int 0, .int 0, .int 0, .int 0, .int 0]))]) [0, 1] rfl
  have hDc := hD.sub (ws' := [(x_h0, .inr (7, [.ref x_tp, .ref x_rd, .ref x_bk, .ref x_fl, .ref x_pl])), (x_fl, .inr (1, [.ref x_bk, .int 0, .int 0, .int 0, .int 0, .int 0, .int 0]))]) [0, 1] (by decide) rfl
  have hFc := va_free (wc := [(x_h0, .inr (7, [.ref x_tp, .ref x_rd, .ref x_bk, .ref x_fl, .ref x_pl])), (x_fl, .inr (1, [.ref x_bk, .int 0, .int 0, .int 0, .int 0, .int 0, .int 0]))]) hD hS hA [0, 1] rfl
  refine va_calli (va_runV (As := [.int (xs 1)]) (rest := []) ⟨hx, hb, hml, hown, hts⟩ (k_borne l D cI cB cP H.size x_h0 x_tp x_rd x_bk x_fl x_pl (xs 1)) (cwV 1 hts gw_law_26 rfl rfl rfl (by decide +kernel) ⟨Nat.le_of_ble_eq_true rfl, Nat.le_of_ble_eq_true rfl⟩) ⟨ny_blind, va_recv hK hPc (ci := 7) (q0 := 0) rfl rfl, ny_pre hPc hK hN hDc⟩ rfl rfl hl.1 rfl (lv_room (Nat.le_of_ble_eq_true rfl)) dL_law_599 ⟨Nat.le_of_ble_eq_true rfl, Nat.le_of_ble_eq_true rfl⟩) hS (fun q _ h => hFc q h) hFc (fun r1 u t H locs ht hvm hw hB hz1 hk1 hS => ?_)
  obtain ⟨hP, hD⟩ := va_join (wr := [(y_m0, .inr (8, [.ref y_r0, .ref y_r1, .int 0, .int 0, .int 0, .int (-1), .int 0, .int 0, .int 0, .int 0, .long 0, .ref y_r11, .ref y_r12, .ref y_r13, .ref y_r14, .ref y_r15, .ref y_r16, .ref y_r17, .ref y_r18, .ref y_r19, .ref y_r20, .ref y_r21, .ref y_r22, .ref y_r23, .ref y_r24, .int 0, .int 0, .int 0, .int 0, .int 0, .int 0, .int 0, .int 0, .int 0, .ref y_r34, .ref y_r35, .ref y_r36, .int 0, .int 0, .ref y_r39]))]) (w1 := []) hP hD [0, 1] [2] rfl rfl (by decide) (by decide) hk1 hFc ny_P0 ny_D0
  have hP : va_P D vwCl [(y_m0, .inr (8, [.ref y_r0, .ref y_r1, .int 0, .int 0, .int 0, .int (-1), .int 0, .int 0, .int 0, .int 0, .long 0, .ref y_r11, .ref y_r12, .ref y_r13, .ref y_r14, .ref y_r15, .ref y_r16, .ref y_r17, .ref y_r18, .ref y_r19, .ref y_r20, .ref y_r21, .ref y_r22, .ref y_r23, .ref y_r24, .int 0, .int 0, .int 0, .int 0, .int 0, .int 0, .int 0, .int 0, .int 0, .ref y_r34, .ref y_r35, .ref y_r36, .int 0, .int 0, .ref y_r39]))] H := hP
  have hD : va_D (fun q : Nat => s.heap.size ≤ q) [(y_m0, .inr (8, [.ref y_r0, .ref y_r1, .int 0, .int 0, .int 0, .int (-1), .int 0, .int 0, .int 0, .int 0, .long 0, .ref y_r11, .ref y_r12, .ref y_r13, .ref y_r14, .ref y_r15, .ref y_r16, .ref y_r17, .ref y_r18, .ref y_r19, .ref y_r20, .ref y_r21, .ref y_r22, .ref y_r23, .ref y_r24, .int 0, .int 0, .int 0, .int 0, .int 0, .int 0, .int 0, .int 0, .int 0, .ref y_r34, .ref y_r35, .ref y_r36, .int 0, .int 0, .ref y_r39]))] := hD
  subst hw
  refine lv_aload_n hx hb dL_law_602 rfl (lv_at hl 1 rfl) ?_
  refine lv_aload_n hx hb dL_law_603 rfl (lv_at hl 3 rfl) ?_
  refine lv_iload_n hx hb dL_law_604 rfl (lv_at hl 0 rfl) ?_
  refine lv_iconst (v := 1) hx hb dL_law_605 (by decide) ?_
  refine lv_iadd hx hb dL_law_606 ?_
  refine lv_topi (fun vv ev => ?_)
  obtain rfl : vv = 1 := ev.trans (by decide)
  refine va_sld hx hb hX hbl hbA hS (show ¬ (_ ∨ _) by decide) dL_law_607 ?_
  refine lv_topi (fun vv ev => ?_)
  obtain rfl : vv = xs 1 := ev
  have hPc := hP.sub (ws' := [(y_m0, .inr (8, [.ref y_r0, .ref y_r1, .int 0, .int 0, .int 0, .int (-1), .int 0, .int 0, .int 0, .int 0, .long 0, .ref y_r11, .ref y_r12, .ref y_r13, .ref y_r14, .ref y_r15, .ref y_r16, .ref y_r17, .ref y_r18, .ref y_r19, .ref y_r20, .ref y_r21, .ref y_r22, .ref y_r23, .ref y_r24, .int 0, .int 0, .int 0, .int 0, .int 0, .int 0, .int 0, .int 0, .int 0, .ref y_r34, .ref y_r35, .ref y_r36, .int 0, .int 0, .ref y_r39]))]) [0] rfl
  have hDc := hD.sub (ws' := [(y_m0, .inr (8, [.ref y_r0, .ref y_r1, .int 0, .int 0, .int 0, .int (-1), .int 0, .int 0, .int 0, .int 0, .long 0, .ref y_r11, .ref y_r12, .ref y_r13, .ref y_r14, .ref y_r15, .ref y_r16, .ref y_r17, .ref y_r18, .ref y_r19, .ref y_r20, .ref y_r21, .ref y_r22, .ref y_r23, .ref y_r24, .int 0, .int 0, .int 0, .int 0, .int 0, .int 0, .int 0, .int 0, .int 0, .ref y_r34, .ref y_r35, .ref y_r36, .int 0, .int 0, .ref y_r39]))]) [0] (by decide) rfl
  have hFc := va_free (wc := [(y_m0, .inr (8, [.ref y_r0, .ref y_r1, .int 0, .int 0, .int 0, .int (-1), .int 0, .int 0, .int 0, .int 0, .long 0, .ref y_r11, .ref y_r12, .ref y_r13, .ref y_r14, .ref y_r15, .ref y_r16, .ref y_r17, .ref y_r18, .ref y_r19, .ref y_r20, .ref y_r21, .ref y_r22, .ref y_r23, .ref y_r24, .int 0, .int 0, .int 0, .int 0, .int 0, .int 0, .int 0, .int 0, .int 0, .ref y_r34, .ref y_r35, .ref y_r36, .int 0, .int 0, .ref y_r39]))]) hD hS hA [0] rfl
  refine va_calli (va_runV (As := [.int (xs 1)]) (rest := [.int (-1)]) ⟨hx, hb, hml, hown, hts⟩ (k_mborne l D cI cB cP H.size y_m0 y_r0 y_r1 y_r11 y_r12 y_r13 y_r14 y_r15 y_r16 y_r17 y_r18 y_r19 y_r20 y_r21 y_r22 y_r23 y_r24 y_r34 y_r35 y_r36 y_r39 (xs 1)) (cwV 1 hts gw_law_27 rfl rfl rfl (by decide +kernel) ⟨Nat.le_of_ble_eq_true rfl, Nat.le_of_ble_eq_true rfl⟩) ⟨ny_blind, va_recv hK hPc (ci := 8) (q0 := 0) rfl rfl, ny_pre hPc hK hN hDc⟩ rfl rfl hl.1 rfl (lv_room (Nat.le_of_ble_eq_true rfl)) dL_law_608 ⟨Nat.le_of_ble_eq_true rfl, Nat.le_of_ble_eq_true rfl⟩) hS (fun q _ h => hFc q h) hFc (fun r2 u t H locs ht hvm hw hB hz1 hk1 hS => ?_)
  obtain ⟨hP, hD⟩ := va_join (wr := []) (w1 := []) hP hD [0] [] rfl rfl (by decide) (by decide) hk1 hFc ny_P0 ny_D0
  have hP : va_P D vwCl [] H := hP
  have hD : va_D (fun q : Nat => s.heap.size ≤ q) [] := hD
  subst hw
  refine lv_icmp_eq (tgt := 791) hx hb dL_law_611 (by decide) (fun c3 => ?_) (fun h9 => (by first | exact absurd h9 (by decide) | exact absurd (by decide) h9))
  exact law_end l C0 (by decide) (by decide) hS (lv_sub hl [0, 3] rfl)

set_option maxHeartbeats 4000000 in
set_option maxRecDepth 100000 in
/-- the call at, and the end -/
theorem law_14 {p : Program} {e : Env} {s : State} {m : MethodId} {below : List Frame} {meth : Method} {c : Code} (l : Launch) {b : Nat} {xs : Nat → Int32} (C0 : lw_At p s m meth c b 6 xs) (D : va_G) (cI cB cP : ClassId) (x_h0 : Nat) (x_tp : Nat) (x_rd : Nat) (x_bk : Nat) (x_fl : Nat) (x_pl : Nat) (y_m0 : Nat) (y_r0 : Nat) (y_r1 : Nat) (y_r11 : Nat) (y_r12 : Nat) (y_r13 : Nat) (y_r14 : Nat) (y_r15 : Nat) (y_r16 : Nat) (y_r17 : Nat) (y_r18 : Nat) (y_r19 : Nat) (y_r20 : Nat) (y_r21 : Nat) (y_r22 : Nat) (y_r23 : Nat) (y_r24 : Nat) (y_r34 : Nat) (y_r35 : Nat) (y_r36 : Nat) (y_r39 : Nat) {H : Heap} {locs : List Loc} {ls : Array Slot} (hK : va_K D vwCl (TY cI cB cP) s) (hN : nw s) (hP : va_P D vwCl [(x_h0, .inr (7, [.ref x_tp, .ref x_rd, .ref x_bk, .ref x_fl, .ref x_pl])), (x_fl, .inr (1, [.ref x_bk, .int 0, .int 0, .int 0, .int 0, .int 0, .int 0])), (y_m0, .inr (8, [.ref y_r0, .ref y_r1, .int 0, .int 0, .int 0, .int (-1), .int 0, .int 0, .int 0, .int 0, .long 0, .ref y_r11, .ref y_r12, .ref y_r13, .ref y_r14, .ref y_r15, .ref y_r16, .ref y_r17, .ref y_r18, .ref y_r19, .ref y_r20, .ref y_r21, .ref y_r22, .ref y_r23, .ref y_r24, .int 0, .int 0, .int 0, .int 0, .int 0, .int 0, .int 0, .int 0, .int 0, .ref y_r34, .ref y_r35, .ref y_r36, .int 0, .int 0, .ref y_r39]))] H) (hD : va_D (fun q : Nat => s.heap.size ≤ q) [(x_h0, .inr (7, [.ref x_tp, .ref x_rd, .ref x_bk, .ref x_fl, .ref x_pl])), (x_fl, .inr (1, [.ref x_bk, .int 0, .int 0, .int 0, .int 0, .int 0, .int 0])), (y_m0, .inr (8, [.ref y_r0, .ref y_r1, .int 0, .int 0, .int 0, .int (-1), .int 0, .int 0, .int 0, .int 0, .long 0, .ref y_r11, .ref y_r12, .ref y_r13, .ref y_r14, .ref y_r15, .ref y_r16, .ref y_r17, .ref y_r18, .ref y_r19, .ref y_r20, .ref y_r21, .ref y_r22, .ref y_r23, .ref y_r24, .int 0, .int 0, .int 0, .int 0, .int 0, .int 0, .int 0, .int 0, .int 0, .ref y_r34, .ref y_r35, .ref y_r36, .int 0, .int 0, .ref y_r39]))]) (hS : va_S (fun q : Nat => s.heap.size ≤ q) s.heap H locs) (hl : lv_has ls 4 [(3, .int 0), (2, .ref y_m0), (1, .ref x_h0), (0, .ref b)]) : W p l e room_1 s m #[Value.ref b] below meth c H locs 86 7510 (lw_Z below #[Value.ref b] s) (F0 m 616 ls []) := by
  obtain ⟨hx, hb, hr, hml, hown, hts, hX, hbl, hlocks, hgv⟩ := id C0
  have hown : s.vm.findClass RL = some m.cls := hown
  have hA : ∀ q : Nat, s.heap.size ≤ q → (fun q : Nat => s.heap.size ≤ q) q := fun _ h => h
  have hbA : ¬ (fun q : Nat => s.heap.size ≤ q) b := Nat.not_le.mpr hbl
  refine lv_aload_n hx hb dL_law_616 rfl (lv_at hl 2 rfl) ?_
  refine lv_aload_n hx hb dL_law_617 rfl (lv_at hl 3 rfl) ?_
  refine lv_iload_n hx hb dL_law_618 rfl (lv_at hl 0 rfl) ?_
  refine lv_iconst (v := 1) hx hb dL_law_619 (by decide) ?_
  refine lv_iadd hx hb dL_law_620 ?_
  refine lv_topi (fun vv ev => ?_)
  obtain rfl : vv = 1 := ev.trans (by decide)
  refine va_sld hx hb hX hbl hbA hS (show ¬ (_ ∨ _) by decide) dL_law_621 ?_
  refine lv_topi (fun vv ev => ?_)
  obtain rfl : vv = xs 1 := ev
  refine lv_aload_n hx hb dL_law_622 rfl (lv_at hl 3 rfl) ?_
  refine lv_iload_n hx hb dL_law_623 rfl (lv_at hl 0 rfl) ?_
  refine lv_iconst (v := 2) hx hb dL_law_624 (by decide) ?_
  refine lv_iadd hx hb dL_law_625 ?_
  refine lv_topi (fun vv ev => ?_)
  obtain rfl : vv = 2 := ev.trans (by decide)
  refine va_sld hx hb hX hbl hbA hS (show ¬ (_ ∨ _) by decide) dL_law_626 ?_
  refine lv_topi (fun vv ev => ?_)
  obtain rfl : vv = xs 2 := ev
  refine lv_aload_n hx hb dL_law_627 rfl (lv_at hl 3 rfl) ?_
  refine lv_iload_n hx hb dL_law_628 rfl (lv_at hl 0 rfl) ?_
  refine lv_iconst (v := 3) hx hb dL_law_629 (by decide) ?_
  refine lv_iadd hx hb dL_law_630 ?_
  refine lv_topi (fun vv ev => ?_)
  obtain rfl : vv = 3 := ev.trans (by decide)
  refine va_sld hx hb hX hbl hbA hS (show ¬ (_ ∨ _) by decide) dL_law_631 ?_
  refine lv_topi (fun vv ev => ?_)
  obtain rfl : vv = xs 3 := ev
  have hPc := hP.sub (ws' := [(x_h0, .inr (7, [.ref x_tp, .ref x_rd, .ref x_bk, .ref x_fl, .ref x_pl])), (x_fl, .inr (1, [.ref x_bk, .int 0, .int 0, .int 0, .int 0, .int 0, .int 0]))]) [0, 1] rfl
  have hDc := hD.sub (ws' := [(x_h0, .inr (7, [.ref x_tp, .ref x_rd, .ref x_bk, .ref x_fl, .ref x_pl])), (x_fl, .inr (1, [.ref x_bk, .int 0, .int 0, .int 0, .int 0, .int 0, .int 0]))]) [0, 1] (by decide) rfl
  have hFc := va_free (wc := [(x_h0, .inr (7, [.ref x_tp, .ref x_rd, .ref x_bk, .ref x_fl, .ref x_pl])), (x_fl, .inr (1, [.ref x_bk, .int 0, .int 0, .int 0, .int 0, .int 0, .int 0]))]) hD hS hA [0, 1] rfl
  refine va_calli (va_runV (As := [.int (xs 1), .int (xs 2), .int (xs 3)]) (rest := []) ⟨hx, hb, hml, hown, hts⟩ (k_at l D cI cB cP H.size x_h0 x_tp x_rd x_bk x_fl x_pl (xs 1) (xs 2) (xs 3)) (cwV 3 hts gw_law_28 rfl rfl rfl (by decide +kernel) ⟨Nat.le_of_ble_eq_true rfl, Nat.le_of_ble_eq_true rfl⟩) ⟨ny_blind, va_recv hK hPc (ci := 7) (q0 := 0) rfl rfl, ny_pre hPc hK hN hDc⟩ rfl rfl hl.1 rfl (lv_room (Nat.le_of_ble_eq_true rfl)) dL_law_632 ⟨Nat.le_of_ble_eq_true rfl, Nat.le_of_ble_eq_true rfl⟩) hS (fun q _ h => hFc q h) hFc (fun r1 u t H locs ht hvm hw hB hz1 hk1 hS => ?_)
  obtain ⟨hP, hD⟩ := va_join (wr := [(y_m0, .inr (8, [.ref y_r0, .ref y_r1, .int 0, .int 0, .int 0, .int (-1), .int 0, .int 0, .int 0, .int 0, .long 0, .ref y_r11, .ref y_r12, .ref y_r13, .ref y_r14, .ref y_r15, .ref y_r16, .ref y_r17, .ref y_r18, .ref y_r19, .ref y_r20, .ref y_r21, .ref y_r22, .ref y_r23, .ref y_r24, .int 0, .int 0, .int 0, .int 0, .int 0, .int 0, .int 0, .int 0, .int 0, .ref y_r34, .ref y_r35, .ref y_r36, .int 0, .int 0, .ref y_r39]))]) (w1 := []) hP hD [0, 1] [2] rfl rfl (by decide) (by decide) hk1 hFc ny_P0 ny_D0
  have hP : va_P D vwCl [(y_m0, .inr (8, [.ref y_r0, .ref y_r1, .int 0, .int 0, .int 0, .int (-1), .int 0, .int 0, .int 0, .int 0, .long 0, .ref y_r11, .ref y_r12, .ref y_r13, .ref y_r14, .ref y_r15, .ref y_r16, .ref y_r17, .ref y_r18, .ref y_r19, .ref y_r20, .ref y_r21, .ref y_r22, .ref y_r23, .ref y_r24, .int 0, .int 0, .int 0, .int 0, .int 0, .int 0, .int 0, .int 0, .int 0, .ref y_r34, .ref y_r35, .ref y_r36, .int 0, .int 0, .ref y_r39]))] H := hP
  have hD : va_D (fun q : Nat => s.heap.size ≤ q) [(y_m0, .inr (8, [.ref y_r0, .ref y_r1, .int 0, .int 0, .int 0, .int (-1), .int 0, .int 0, .int 0, .int 0, .long 0, .ref y_r11, .ref y_r12, .ref y_r13, .ref y_r14, .ref y_r15, .ref y_r16, .ref y_r17, .ref y_r18, .ref y_r19, .ref y_r20, .ref y_r21, .ref y_r22, .ref y_r23, .ref y_r24, .int 0, .int 0, .int 0, .int 0, .int 0, .int 0, .int 0, .int 0, .int 0, .ref y_r34, .ref y_r35, .ref y_r36, .int 0, .int 0, .ref y_r39]))] := hD
  subst hw
  refine lv_aload_n hx hb dL_law_635 rfl (lv_at hl 1 rfl) ?_
  refine lv_aload_n hx hb dL_law_636 rfl (lv_at hl 3 rfl) ?_
  refine lv_iload_n hx hb dL_law_637 rfl (lv_at hl 0 rfl) ?_
  refine lv_iconst (v := 1) hx hb dL_law_638 (by decide) ?_
  refine lv_iadd hx hb dL_law_639 ?_
  refine lv_topi (fun vv ev => ?_)
  obtain rfl : vv = 1 := ev.trans (by decide)
  refine va_sld hx hb hX hbl hbA hS (show ¬ (_ ∨ _) by decide) dL_law_640 ?_
  refine lv_topi (fun vv ev => ?_)
  obtain rfl : vv = xs 1 := ev
  refine lv_aload_n hx hb dL_law_641 rfl (lv_at hl 3 rfl) ?_
  refine lv_iload_n hx hb dL_law_642 rfl (lv_at hl 0 rfl) ?_
  refine lv_iconst (v := 2) hx hb dL_law_643 (by decide) ?_
  refine lv_iadd hx hb dL_law_644 ?_
  refine lv_topi (fun vv ev => ?_)
  obtain rfl : vv = 2 := ev.trans (by decide)
  refine va_sld hx hb hX hbl hbA hS (show ¬ (_ ∨ _) by decide) dL_law_645 ?_
  refine lv_topi (fun vv ev => ?_)
  obtain rfl : vv = xs 2 := ev
  refine lv_aload_n hx hb dL_law_646 rfl (lv_at hl 3 rfl) ?_
  refine lv_iload_n hx hb dL_law_647 rfl (lv_at hl 0 rfl) ?_
  refine lv_iconst (v := 3) hx hb dL_law_648 (by decide) ?_
  refine lv_iadd hx hb dL_law_649 ?_
  refine lv_topi (fun vv ev => ?_)
  obtain rfl : vv = 3 := ev.trans (by decide)
  refine va_sld hx hb hX hbl hbA hS (show ¬ (_ ∨ _) by decide) dL_law_650 ?_
  refine lv_topi (fun vv ev => ?_)
  obtain rfl : vv = xs 3 := ev
  have hPc := hP.sub (ws' := [(y_m0, .inr (8, [.ref y_r0, .ref y_r1, .int 0, .int 0, .int 0, .int (-1), .int 0, .int 0, .int 0, .int 0, .long 0, .ref y_r11, .ref y_r12, .ref y_r13, .ref y_r14, .ref y_r15, .ref y_r16, .ref y_r17, .ref y_r18, .ref y_r19, .ref y_r20, .ref y_r21, .ref y_r22, .ref y_r23, .ref y_r24, .int 0, .int 0, .int 0, .int 0, .int 0, .int 0, .int 0, .int 0, .int 0, .ref y_r34, .ref y_r35, .ref y_r36, .int 0, .int 0, .ref y_r39]))]) [0] rfl
  have hDc := hD.sub (ws' := [(y_m0, .inr (8, [.ref y_r0, .ref y_r1, .int 0, .int 0, .int 0, .int (-1), .int 0, .int 0, .int 0, .int 0, .long 0, .ref y_r11, .ref y_r12, .ref y_r13, .ref y_r14, .ref y_r15, .ref y_r16, .ref y_r17, .ref y_r18, .ref y_r19, .ref y_r20, .ref y_r21, .ref y_r22, .ref y_r23, .ref y_r24, .int 0, .int 0, .int 0, .int 0, .int 0, .int 0, .int 0, .int 0, .int 0, .ref y_r34, .ref y_r35, .ref y_r36, .int 0, .int 0, .ref y_r39]))]) [0] (by decide) rfl
  have hFc := va_free (wc := [(y_m0, .inr (8, [.ref y_r0, .ref y_r1, .int 0, .int 0, .int 0, .int (-1), .int 0, .int 0, .int 0, .int 0, .long 0, .ref y_r11, .ref y_r12, .ref y_r13, .ref y_r14, .ref y_r15, .ref y_r16, .ref y_r17, .ref y_r18, .ref y_r19, .ref y_r20, .ref y_r21, .ref y_r22, .ref y_r23, .ref y_r24, .int 0, .int 0, .int 0, .int 0, .int 0, .int 0, .int 0, .int 0, .int 0, .ref y_r34, .ref y_r35, .ref y_r36, .int 0, .int 0, .ref y_r39]))]) hD hS hA [0] rfl
  refine va_calli (va_runV (As := [.int (xs 1), .int (xs 2), .int (xs 3)]) (rest := [.int (-1)]) ⟨hx, hb, hml, hown, hts⟩ (k_mat l D cI cB cP H.size y_m0 y_r0 y_r1 y_r11 y_r12 y_r13 y_r14 y_r15 y_r16 y_r17 y_r18 y_r19 y_r20 y_r21 y_r22 y_r23 y_r24 y_r34 y_r35 y_r36 y_r39 (xs 1) (xs 2) (xs 3)) (cwV 3 hts gw_law_29 rfl rfl rfl (by decide +kernel) ⟨Nat.le_of_ble_eq_true rfl, Nat.le_of_ble_eq_true rfl⟩) ⟨ny_blind, va_recv hK hPc (ci := 8) (q0 := 0) rfl rfl, ny_pre hPc hK hN hDc⟩ rfl rfl hl.1 rfl (lv_room (Nat.le_of_ble_eq_true rfl)) dL_law_651 ⟨Nat.le_of_ble_eq_true rfl, Nat.le_of_ble_eq_true rfl⟩) hS (fun q _ h => hFc q h) hFc (fun r2 u t H locs ht hvm hw hB hz1 hk1 hS => ?_)
  obtain ⟨hP, hD⟩ := va_join (wr := []) (w1 := []) hP hD [0] [] rfl rfl (by decide) (by decide) hk1 hFc ny_P0 ny_D0
  have hP : va_P D vwCl [] H := hP
  have hD : va_D (fun q : Nat => s.heap.size ≤ q) [] := hD
  subst hw
  refine lv_icmp_eq (tgt := 791) hx hb dL_law_654 (by decide) (fun c3 => ?_) (fun h9 => (by first | exact absurd h9 (by decide) | exact absurd (by decide) h9))
  exact law_end l C0 (by decide) (by decide) hS (lv_sub hl [0, 3] rfl)

set_option maxHeartbeats 4000000 in
set_option maxRecDepth 100000 in
/-- the call home, and the end -/
theorem law_15 {p : Program} {e : Env} {s : State} {m : MethodId} {below : List Frame} {meth : Method} {c : Code} (l : Launch) {b : Nat} {xs : Nat → Int32} (C0 : lw_At p s m meth c b 6 xs) (D : va_G) (cI cB cP : ClassId) (x_h0 : Nat) (x_tp : Nat) (x_rd : Nat) (x_bk : Nat) (x_fl : Nat) (x_pl : Nat) (y_m0 : Nat) (y_r0 : Nat) (y_r1 : Nat) (y_r11 : Nat) (y_r12 : Nat) (y_r13 : Nat) (y_r14 : Nat) (y_r15 : Nat) (y_r16 : Nat) (y_r17 : Nat) (y_r18 : Nat) (y_r19 : Nat) (y_r20 : Nat) (y_r21 : Nat) (y_r22 : Nat) (y_r23 : Nat) (y_r24 : Nat) (y_r34 : Nat) (y_r35 : Nat) (y_r36 : Nat) (y_r39 : Nat) {H : Heap} {locs : List Loc} {ls : Array Slot} (hK : va_K D vwCl (TY cI cB cP) s) (hN : nw s) (hP : va_P D vwCl [(x_h0, .inr (7, [.ref x_tp, .ref x_rd, .ref x_bk, .ref x_fl, .ref x_pl])), (x_fl, .inr (1, [.ref x_bk, .int 0, .int 0, .int 0, .int 0, .int 0, .int 0])), (y_m0, .inr (8, [.ref y_r0, .ref y_r1, .int 0, .int 0, .int 0, .int (-1), .int 0, .int 0, .int 0, .int 0, .long 0, .ref y_r11, .ref y_r12, .ref y_r13, .ref y_r14, .ref y_r15, .ref y_r16, .ref y_r17, .ref y_r18, .ref y_r19, .ref y_r20, .ref y_r21, .ref y_r22, .ref y_r23, .ref y_r24, .int 0, .int 0, .int 0, .int 0, .int 0, .int 0, .int 0, .int 0, .int 0, .ref y_r34, .ref y_r35, .ref y_r36, .int 0, .int 0, .ref y_r39]))] H) (hD : va_D (fun q : Nat => s.heap.size ≤ q) [(x_h0, .inr (7, [.ref x_tp, .ref x_rd, .ref x_bk, .ref x_fl, .ref x_pl])), (x_fl, .inr (1, [.ref x_bk, .int 0, .int 0, .int 0, .int 0, .int 0, .int 0])), (y_m0, .inr (8, [.ref y_r0, .ref y_r1, .int 0, .int 0, .int 0, .int (-1), .int 0, .int 0, .int 0, .int 0, .long 0, .ref y_r11, .ref y_r12, .ref y_r13, .ref y_r14, .ref y_r15, .ref y_r16, .ref y_r17, .ref y_r18, .ref y_r19, .ref y_r20, .ref y_r21, .ref y_r22, .ref y_r23, .ref y_r24, .int 0, .int 0, .int 0, .int 0, .int 0, .int 0, .int 0, .int 0, .int 0, .ref y_r34, .ref y_r35, .ref y_r36, .int 0, .int 0, .ref y_r39]))]) (hS : va_S (fun q : Nat => s.heap.size ≤ q) s.heap H locs) (hl : lv_has ls 4 [(3, .int 0), (2, .ref y_m0), (1, .ref x_h0), (0, .ref b)]) : W p l e room_1 s m #[Value.ref b] below meth c H locs 86 7510 (lw_Z below #[Value.ref b] s) (F0 m 659 ls []) := by
  obtain ⟨hx, hb, hr, hml, hown, hts, hX, hbl, hlocks, hgv⟩ := id C0
  have hown : s.vm.findClass RL = some m.cls := hown
  have hA : ∀ q : Nat, s.heap.size ≤ q → (fun q : Nat => s.heap.size ≤ q) q := fun _ h => h
  have hbA : ¬ (fun q : Nat => s.heap.size ≤ q) b := Nat.not_le.mpr hbl
  refine lv_aload_n hx hb dL_law_659 rfl (lv_at hl 2 rfl) ?_
  refine lv_aload_n hx hb dL_law_660 rfl (lv_at hl 3 rfl) ?_
  refine lv_iload_n hx hb dL_law_661 rfl (lv_at hl 0 rfl) ?_
  refine lv_iconst (v := 1) hx hb dL_law_662 (by decide) ?_
  refine lv_iadd hx hb dL_law_663 ?_
  refine lv_topi (fun vv ev => ?_)
  obtain rfl : vv = 1 := ev.trans (by decide)
  refine va_sld hx hb hX hbl hbA hS (show ¬ (_ ∨ _) by decide) dL_law_664 ?_
  refine lv_topi (fun vv ev => ?_)
  obtain rfl : vv = xs 1 := ev
  refine lv_aload_n hx hb dL_law_665 rfl (lv_at hl 3 rfl) ?_
  refine lv_iload_n hx hb dL_law_666 rfl (lv_at hl 0 rfl) ?_
  refine lv_iconst (v := 2) hx hb dL_law_667 (by decide) ?_
  refine lv_iadd hx hb dL_law_668 ?_
  refine lv_topi (fun vv ev => ?_)
  obtain rfl : vv = 2 := ev.trans (by decide)
  refine va_sld hx hb hX hbl hbA hS (show ¬ (_ ∨ _) by decide) dL_law_669 ?_
  refine lv_topi (fun vv ev => ?_)
  obtain rfl : vv = xs 2 := ev
  have hPc := hP.sub (ws' := [(x_h0, .inr (7, [.ref x_tp, .ref x_rd, .ref x_bk, .ref x_fl, .ref x_pl])), (x_fl, .inr (1, [.ref x_bk, .int 0, .int 0, .int 0, .int 0, .int 0, .int 0]))]) [0, 1] rfl
  have hDc := hD.sub (ws' := [(x_h0, .inr (7, [.ref x_tp, .ref x_rd, .ref x_bk, .ref x_fl, .ref x_pl])), (x_fl, .inr (1, [.ref x_bk, .int 0, .int 0, .int 0, .int 0, .int 0, .int 0]))]) [0, 1] (by decide) rfl
  have hFc := va_free (wc := [(x_h0, .inr (7, [.ref x_tp, .ref x_rd, .ref x_bk, .ref x_fl, .ref x_pl])), (x_fl, .inr (1, [.ref x_bk, .int 0, .int 0, .int 0, .int 0, .int 0, .int 0]))]) hD hS hA [0, 1] rfl
  refine va_calli (va_runV (As := [.int (xs 1), .int (xs 2)]) (rest := []) ⟨hx, hb, hml, hown, hts⟩ (k_home l D cI cB cP H.size x_h0 x_tp x_rd x_bk x_fl x_pl (xs 1) (xs 2)) (cwV 2 hts gw_law_30 rfl rfl rfl (by decide +kernel) ⟨Nat.le_of_ble_eq_true rfl, Nat.le_of_ble_eq_true rfl⟩) ⟨ny_blind, va_recv hK hPc (ci := 7) (q0 := 0) rfl rfl, ny_pre hPc hK hN hDc⟩ rfl rfl hl.1 rfl (lv_room (Nat.le_of_ble_eq_true rfl)) dL_law_670 ⟨Nat.le_of_ble_eq_true rfl, Nat.le_of_ble_eq_true rfl⟩) hS (fun q _ h => hFc q h) hFc (fun r1 u t H locs ht hvm hw hB hz1 hk1 hS => ?_)
  obtain ⟨hP, hD⟩ := va_join (wr := [(y_m0, .inr (8, [.ref y_r0, .ref y_r1, .int 0, .int 0, .int 0, .int (-1), .int 0, .int 0, .int 0, .int 0, .long 0, .ref y_r11, .ref y_r12, .ref y_r13, .ref y_r14, .ref y_r15, .ref y_r16, .ref y_r17, .ref y_r18, .ref y_r19, .ref y_r20, .ref y_r21, .ref y_r22, .ref y_r23, .ref y_r24, .int 0, .int 0, .int 0, .int 0, .int 0, .int 0, .int 0, .int 0, .int 0, .ref y_r34, .ref y_r35, .ref y_r36, .int 0, .int 0, .ref y_r39]))]) (w1 := []) hP hD [0, 1] [2] rfl rfl (by decide) (by decide) hk1 hFc ny_P0 ny_D0
  have hP : va_P D vwCl [(y_m0, .inr (8, [.ref y_r0, .ref y_r1, .int 0, .int 0, .int 0, .int (-1), .int 0, .int 0, .int 0, .int 0, .long 0, .ref y_r11, .ref y_r12, .ref y_r13, .ref y_r14, .ref y_r15, .ref y_r16, .ref y_r17, .ref y_r18, .ref y_r19, .ref y_r20, .ref y_r21, .ref y_r22, .ref y_r23, .ref y_r24, .int 0, .int 0, .int 0, .int 0, .int 0, .int 0, .int 0, .int 0, .int 0, .ref y_r34, .ref y_r35, .ref y_r36, .int 0, .int 0, .ref y_r39]))] H := hP
  have hD : va_D (fun q : Nat => s.heap.size ≤ q) [(y_m0, .inr (8, [.ref y_r0, .ref y_r1, .int 0, .int 0, .int 0, .int (-1), .int 0, .int 0, .int 0, .int 0, .long 0, .ref y_r11, .ref y_r12, .ref y_r13, .ref y_r14, .ref y_r15, .ref y_r16, .ref y_r17, .ref y_r18, .ref y_r19, .ref y_r20, .ref y_r21, .ref y_r22, .ref y_r23, .ref y_r24, .int 0, .int 0, .int 0, .int 0, .int 0, .int 0, .int 0, .int 0, .int 0, .ref y_r34, .ref y_r35, .ref y_r36, .int 0, .int 0, .ref y_r39]))] := hD
  subst hw
  refine lv_aload_n hx hb dL_law_673 rfl (lv_at hl 1 rfl) ?_
  refine lv_aload_n hx hb dL_law_674 rfl (lv_at hl 3 rfl) ?_
  refine lv_iload_n hx hb dL_law_675 rfl (lv_at hl 0 rfl) ?_
  refine lv_iconst (v := 1) hx hb dL_law_676 (by decide) ?_
  refine lv_iadd hx hb dL_law_677 ?_
  refine lv_topi (fun vv ev => ?_)
  obtain rfl : vv = 1 := ev.trans (by decide)
  refine va_sld hx hb hX hbl hbA hS (show ¬ (_ ∨ _) by decide) dL_law_678 ?_
  refine lv_topi (fun vv ev => ?_)
  obtain rfl : vv = xs 1 := ev
  refine lv_aload_n hx hb dL_law_679 rfl (lv_at hl 3 rfl) ?_
  refine lv_iload_n hx hb dL_law_680 rfl (lv_at hl 0 rfl) ?_
  refine lv_iconst (v := 2) hx hb dL_law_681 (by decide) ?_
  refine lv_iadd hx hb dL_law_682 ?_
  refine lv_topi (fun vv ev => ?_)
  obtain rfl : vv = 2 := ev.trans (by decide)
  refine va_sld hx hb hX hbl hbA hS (show ¬ (_ ∨ _) by decide) dL_law_683 ?_
  refine lv_topi (fun vv ev => ?_)
  obtain rfl : vv = xs 2 := ev
  have hPc := hP.sub (ws' := [(y_m0, .inr (8, [.ref y_r0, .ref y_r1, .int 0, .int 0, .int 0, .int (-1), .int 0, .int 0, .int 0, .int 0, .long 0, .ref y_r11, .ref y_r12, .ref y_r13, .ref y_r14, .ref y_r15, .ref y_r16, .ref y_r17, .ref y_r18, .ref y_r19, .ref y_r20, .ref y_r21, .ref y_r22, .ref y_r23, .ref y_r24, .int 0, .int 0, .int 0, .int 0, .int 0, .int 0, .int 0, .int 0, .int 0, .ref y_r34, .ref y_r35, .ref y_r36, .int 0, .int 0, .ref y_r39]))]) [0] rfl
  have hDc := hD.sub (ws' := [(y_m0, .inr (8, [.ref y_r0, .ref y_r1, .int 0, .int 0, .int 0, .int (-1), .int 0, .int 0, .int 0, .int 0, .long 0, .ref y_r11, .ref y_r12, .ref y_r13, .ref y_r14, .ref y_r15, .ref y_r16, .ref y_r17, .ref y_r18, .ref y_r19, .ref y_r20, .ref y_r21, .ref y_r22, .ref y_r23, .ref y_r24, .int 0, .int 0, .int 0, .int 0, .int 0, .int 0, .int 0, .int 0, .int 0, .ref y_r34, .ref y_r35, .ref y_r36, .int 0, .int 0, .ref y_r39]))]) [0] (by decide) rfl
  have hFc := va_free (wc := [(y_m0, .inr (8, [.ref y_r0, .ref y_r1, .int 0, .int 0, .int 0, .int (-1), .int 0, .int 0, .int 0, .int 0, .long 0, .ref y_r11, .ref y_r12, .ref y_r13, .ref y_r14, .ref y_r15, .ref y_r16, .ref y_r17, .ref y_r18, .ref y_r19, .ref y_r20, .ref y_r21, .ref y_r22, .ref y_r23, .ref y_r24, .int 0, .int 0, .int 0, .int 0, .int 0, .int 0, .int 0, .int 0, .int 0, .ref y_r34, .ref y_r35, .ref y_r36, .int 0, .int 0, .ref y_r39]))]) hD hS hA [0] rfl
  refine va_calli (va_runV (As := [.int (xs 1), .int (xs 2)]) (rest := [.int (-1)]) ⟨hx, hb, hml, hown, hts⟩ (k_mhome l D cI cB cP H.size y_m0 y_r0 y_r1 y_r11 y_r12 y_r13 y_r14 y_r15 y_r16 y_r17 y_r18 y_r19 y_r20 y_r21 y_r22 y_r23 y_r24 y_r34 y_r35 y_r36 y_r39 (xs 1) (xs 2)) (cwV 2 hts gw_law_31 rfl rfl rfl (by decide +kernel) ⟨Nat.le_of_ble_eq_true rfl, Nat.le_of_ble_eq_true rfl⟩) ⟨ny_blind, va_recv hK hPc (ci := 8) (q0 := 0) rfl rfl, ny_pre hPc hK hN hDc⟩ rfl rfl hl.1 rfl (lv_room (Nat.le_of_ble_eq_true rfl)) dL_law_684 ⟨Nat.le_of_ble_eq_true rfl, Nat.le_of_ble_eq_true rfl⟩) hS (fun q _ h => hFc q h) hFc (fun r2 u t H locs ht hvm hw hB hz1 hk1 hS => ?_)
  obtain ⟨hP, hD⟩ := va_join (wr := []) (w1 := []) hP hD [0] [] rfl rfl (by decide) (by decide) hk1 hFc ny_P0 ny_D0
  have hP : va_P D vwCl [] H := hP
  have hD : va_D (fun q : Nat => s.heap.size ≤ q) [] := hD
  subst hw
  refine lv_icmp_eq (tgt := 791) hx hb dL_law_687 (by decide) (fun c3 => ?_) (fun h9 => (by first | exact absurd h9 (by decide) | exact absurd (by decide) h9))
  exact law_end l C0 (by decide) (by decide) hS (lv_sub hl [0, 3] rfl)

set_option maxHeartbeats 4000000 in
set_option maxRecDepth 100000 in
/-- the call lastReturn, and the end -/
theorem law_16 {p : Program} {e : Env} {s : State} {m : MethodId} {below : List Frame} {meth : Method} {c : Code} (l : Launch) {b : Nat} {xs : Nat → Int32} (C0 : lw_At p s m meth c b 6 xs) (D : va_G) (cI cB cP : ClassId) (x_h0 : Nat) (x_tp : Nat) (x_rd : Nat) (x_bk : Nat) (x_fl : Nat) (x_pl : Nat) (y_m0 : Nat) (y_r0 : Nat) (y_r1 : Nat) (y_r11 : Nat) (y_r12 : Nat) (y_r13 : Nat) (y_r14 : Nat) (y_r15 : Nat) (y_r16 : Nat) (y_r17 : Nat) (y_r18 : Nat) (y_r19 : Nat) (y_r20 : Nat) (y_r21 : Nat) (y_r22 : Nat) (y_r23 : Nat) (y_r24 : Nat) (y_r34 : Nat) (y_r35 : Nat) (y_r36 : Nat) (y_r39 : Nat) {H : Heap} {locs : List Loc} {ls : Array Slot} (hK : va_K D vwCl (TY cI cB cP) s) (hN : nw s) (hP : va_P D vwCl [(x_h0, .inr (7, [.ref x_tp, .ref x_rd, .ref x_bk, .ref x_fl, .ref x_pl])), (x_fl, .inr (1, [.ref x_bk, .int 0, .int 0, .int 0, .int 0, .int 0, .int 0])), (y_m0, .inr (8, [.ref y_r0, .ref y_r1, .int 0, .int 0, .int 0, .int (-1), .int 0, .int 0, .int 0, .int 0, .long 0, .ref y_r11, .ref y_r12, .ref y_r13, .ref y_r14, .ref y_r15, .ref y_r16, .ref y_r17, .ref y_r18, .ref y_r19, .ref y_r20, .ref y_r21, .ref y_r22, .ref y_r23, .ref y_r24, .int 0, .int 0, .int 0, .int 0, .int 0, .int 0, .int 0, .int 0, .int 0, .ref y_r34, .ref y_r35, .ref y_r36, .int 0, .int 0, .ref y_r39]))] H) (hD : va_D (fun q : Nat => s.heap.size ≤ q) [(x_h0, .inr (7, [.ref x_tp, .ref x_rd, .ref x_bk, .ref x_fl, .ref x_pl])), (x_fl, .inr (1, [.ref x_bk, .int 0, .int 0, .int 0, .int 0, .int 0, .int 0])), (y_m0, .inr (8, [.ref y_r0, .ref y_r1, .int 0, .int 0, .int 0, .int (-1), .int 0, .int 0, .int 0, .int 0, .long 0, .ref y_r11, .ref y_r12, .ref y_r13, .ref y_r14, .ref y_r15, .ref y_r16, .ref y_r17, .ref y_r18, .ref y_r19, .ref y_r20, .ref y_r21, .ref y_r22, .ref y_r23, .ref y_r24, .int 0, .int 0, .int 0, .int 0, .int 0, .int 0, .int 0, .int 0, .int 0, .ref y_r34, .ref y_r35, .ref y_r36, .int 0, .int 0, .ref y_r39]))]) (hS : va_S (fun q : Nat => s.heap.size ≤ q) s.heap H locs) (hl : lv_has ls 4 [(3, .int 0), (2, .ref y_m0), (1, .ref x_h0), (0, .ref b)]) : W p l e room_1 s m #[Value.ref b] below meth c H locs 86 7510 (lw_Z below #[Value.ref b] s) (F0 m 692 ls []) := by
  obtain ⟨hx, hb, hr, hml, hown, hts, hX, hbl, hlocks, hgv⟩ := id C0
  have hown : s.vm.findClass RL = some m.cls := hown
  have hA : ∀ q : Nat, s.heap.size ≤ q → (fun q : Nat => s.heap.size ≤ q) q := fun _ h => h
  have hbA : ¬ (fun q : Nat => s.heap.size ≤ q) b := Nat.not_le.mpr hbl
  refine lv_aload_n hx hb dL_law_692 rfl (lv_at hl 2 rfl) ?_
  refine lv_aload_n hx hb dL_law_693 rfl (lv_at hl 3 rfl) ?_
  refine lv_iload_n hx hb dL_law_694 rfl (lv_at hl 0 rfl) ?_
  refine lv_iconst (v := 1) hx hb dL_law_695 (by decide) ?_
  refine lv_iadd hx hb dL_law_696 ?_
  refine lv_topi (fun vv ev => ?_)
  obtain rfl : vv = 1 := ev.trans (by decide)
  refine va_sld hx hb hX hbl hbA hS (show ¬ (_ ∨ _) by decide) dL_law_697 ?_
  refine lv_topi (fun vv ev => ?_)
  obtain rfl : vv = xs 1 := ev
  refine lv_aload_n hx hb dL_law_698 rfl (lv_at hl 3 rfl) ?_
  refine lv_iload_n hx hb dL_law_699 rfl (lv_at hl 0 rfl) ?_
  refine lv_iconst (v := 2) hx hb dL_law_700 (by decide) ?_
  refine lv_iadd hx hb dL_law_701 ?_
  refine lv_topi (fun vv ev => ?_)
  obtain rfl : vv = 2 := ev.trans (by decide)
  refine va_sld hx hb hX hbl hbA hS (show ¬ (_ ∨ _) by decide) dL_law_702 ?_
  refine lv_topi (fun vv ev => ?_)
  obtain rfl : vv = xs 2 := ev
  have hPc := hP.sub (ws' := [(x_h0, .inr (7, [.ref x_tp, .ref x_rd, .ref x_bk, .ref x_fl, .ref x_pl])), (x_fl, .inr (1, [.ref x_bk, .int 0, .int 0, .int 0, .int 0, .int 0, .int 0]))]) [0, 1] rfl
  have hDc := hD.sub (ws' := [(x_h0, .inr (7, [.ref x_tp, .ref x_rd, .ref x_bk, .ref x_fl, .ref x_pl])), (x_fl, .inr (1, [.ref x_bk, .int 0, .int 0, .int 0, .int 0, .int 0, .int 0]))]) [0, 1] (by decide) rfl
  have hFc := va_free (wc := [(x_h0, .inr (7, [.ref x_tp, .ref x_rd, .ref x_bk, .ref x_fl, .ref x_pl])), (x_fl, .inr (1, [.ref x_bk, .int 0, .int 0, .int 0, .int 0, .int 0, .int 0]))]) hD hS hA [0, 1] rfl
  refine va_calli (va_runV (As := [.int (xs 1), .int (xs 2)]) (rest := []) ⟨hx, hb, hml, hown, hts⟩ (k_lastReturn l D cI cB cP H.size x_h0 x_tp x_rd x_bk x_fl x_pl (xs 1) (xs 2)) (cwV 2 hts gw_law_32 rfl rfl rfl (by decide +kernel) ⟨Nat.le_of_ble_eq_true rfl, Nat.le_of_ble_eq_true rfl⟩) ⟨ny_blind, va_recv hK hPc (ci := 7) (q0 := 0) rfl rfl, ny_pre hPc hK hN hDc⟩ rfl rfl hl.1 rfl (lv_room (Nat.le_of_ble_eq_true rfl)) dL_law_703 ⟨Nat.le_of_ble_eq_true rfl, Nat.le_of_ble_eq_true rfl⟩) hS (fun q _ h => hFc q h) hFc (fun r1 u t H locs ht hvm hw hB hz1 hk1 hS => ?_)
  obtain ⟨hP, hD⟩ := va_join (wr := [(y_m0, .inr (8, [.ref y_r0, .ref y_r1, .int 0, .int 0, .int 0, .int (-1), .int 0, .int 0, .int 0, .int 0, .long 0, .ref y_r11, .ref y_r12, .ref y_r13, .ref y_r14, .ref y_r15, .ref y_r16, .ref y_r17, .ref y_r18, .ref y_r19, .ref y_r20, .ref y_r21, .ref y_r22, .ref y_r23, .ref y_r24, .int 0, .int 0, .int 0, .int 0, .int 0, .int 0, .int 0, .int 0, .int 0, .ref y_r34, .ref y_r35, .ref y_r36, .int 0, .int 0, .ref y_r39]))]) (w1 := []) hP hD [0, 1] [2] rfl rfl (by decide) (by decide) hk1 hFc ny_P0 ny_D0
  have hP : va_P D vwCl [(y_m0, .inr (8, [.ref y_r0, .ref y_r1, .int 0, .int 0, .int 0, .int (-1), .int 0, .int 0, .int 0, .int 0, .long 0, .ref y_r11, .ref y_r12, .ref y_r13, .ref y_r14, .ref y_r15, .ref y_r16, .ref y_r17, .ref y_r18, .ref y_r19, .ref y_r20, .ref y_r21, .ref y_r22, .ref y_r23, .ref y_r24, .int 0, .int 0, .int 0, .int 0, .int 0, .int 0, .int 0, .int 0, .int 0, .ref y_r34, .ref y_r35, .ref y_r36, .int 0, .int 0, .ref y_r39]))] H := hP
  have hD : va_D (fun q : Nat => s.heap.size ≤ q) [(y_m0, .inr (8, [.ref y_r0, .ref y_r1, .int 0, .int 0, .int 0, .int (-1), .int 0, .int 0, .int 0, .int 0, .long 0, .ref y_r11, .ref y_r12, .ref y_r13, .ref y_r14, .ref y_r15, .ref y_r16, .ref y_r17, .ref y_r18, .ref y_r19, .ref y_r20, .ref y_r21, .ref y_r22, .ref y_r23, .ref y_r24, .int 0, .int 0, .int 0, .int 0, .int 0, .int 0, .int 0, .int 0, .int 0, .ref y_r34, .ref y_r35, .ref y_r36, .int 0, .int 0, .ref y_r39]))] := hD
  subst hw
  refine lv_aload_n hx hb dL_law_706 rfl (lv_at hl 1 rfl) ?_
  refine lv_aload_n hx hb dL_law_707 rfl (lv_at hl 3 rfl) ?_
  refine lv_iload_n hx hb dL_law_708 rfl (lv_at hl 0 rfl) ?_
  refine lv_iconst (v := 1) hx hb dL_law_709 (by decide) ?_
  refine lv_iadd hx hb dL_law_710 ?_
  refine lv_topi (fun vv ev => ?_)
  obtain rfl : vv = 1 := ev.trans (by decide)
  refine va_sld hx hb hX hbl hbA hS (show ¬ (_ ∨ _) by decide) dL_law_711 ?_
  refine lv_topi (fun vv ev => ?_)
  obtain rfl : vv = xs 1 := ev
  refine lv_aload_n hx hb dL_law_712 rfl (lv_at hl 3 rfl) ?_
  refine lv_iload_n hx hb dL_law_713 rfl (lv_at hl 0 rfl) ?_
  refine lv_iconst (v := 2) hx hb dL_law_714 (by decide) ?_
  refine lv_iadd hx hb dL_law_715 ?_
  refine lv_topi (fun vv ev => ?_)
  obtain rfl : vv = 2 := ev.trans (by decide)
  refine va_sld hx hb hX hbl hbA hS (show ¬ (_ ∨ _) by decide) dL_law_716 ?_
  refine lv_topi (fun vv ev => ?_)
  obtain rfl : vv = xs 2 := ev
  have hPc := hP.sub (ws' := [(y_m0, .inr (8, [.ref y_r0, .ref y_r1, .int 0, .int 0, .int 0, .int (-1), .int 0, .int 0, .int 0, .int 0, .long 0, .ref y_r11, .ref y_r12, .ref y_r13, .ref y_r14, .ref y_r15, .ref y_r16, .ref y_r17, .ref y_r18, .ref y_r19, .ref y_r20, .ref y_r21, .ref y_r22, .ref y_r23, .ref y_r24, .int 0, .int 0, .int 0, .int 0, .int 0, .int 0, .int 0, .int 0, .int 0, .ref y_r34, .ref y_r35, .ref y_r36, .int 0, .int 0, .ref y_r39]))]) [0] rfl
  have hDc := hD.sub (ws' := [(y_m0, .inr (8, [.ref y_r0, .ref y_r1, .int 0, .int 0, .int 0, .int (-1), .int 0, .int 0, .int 0, .int 0, .long 0, .ref y_r11, .ref y_r12, .ref y_r13, .ref y_r14, .ref y_r15, .ref y_r16, .ref y_r17, .ref y_r18, .ref y_r19, .ref y_r20, .ref y_r21, .ref y_r22, .ref y_r23, .ref y_r24, .int 0, .int 0, .int 0, .int 0, .int 0, .int 0, .int 0, .int 0, .int 0, .ref y_r34, .ref y_r35, .ref y_r36, .int 0, .int 0, .ref y_r39]))]) [0] (by decide) rfl
  have hFc := va_free (wc := [(y_m0, .inr (8, [.ref y_r0, .ref y_r1, .int 0, .int 0, .int 0, .int (-1), .int 0, .int 0, .int 0, .int 0, .long 0, .ref y_r11, .ref y_r12, .ref y_r13, .ref y_r14, .ref y_r15, .ref y_r16, .ref y_r17, .ref y_r18, .ref y_r19, .ref y_r20, .ref y_r21, .ref y_r22, .ref y_r23, .ref y_r24, .int 0, .int 0, .int 0, .int 0, .int 0, .int 0, .int 0, .int 0, .int 0, .ref y_r34, .ref y_r35, .ref y_r36, .int 0, .int 0, .ref y_r39]))]) hD hS hA [0] rfl
  refine va_calli (va_runV (As := [.int (xs 1), .int (xs 2)]) (rest := [.int (-1)]) ⟨hx, hb, hml, hown, hts⟩ (k_mlastReturn l D cI cB cP H.size y_m0 y_r0 y_r1 y_r11 y_r12 y_r13 y_r14 y_r15 y_r16 y_r17 y_r18 y_r19 y_r20 y_r21 y_r22 y_r23 y_r24 y_r34 y_r35 y_r36 y_r39 (xs 1) (xs 2)) (cwV 2 hts gw_law_33 rfl rfl rfl (by decide +kernel) ⟨Nat.le_of_ble_eq_true rfl, Nat.le_of_ble_eq_true rfl⟩) ⟨ny_blind, va_recv hK hPc (ci := 8) (q0 := 0) rfl rfl, ny_pre hPc hK hN hDc⟩ rfl rfl hl.1 rfl (lv_room (Nat.le_of_ble_eq_true rfl)) dL_law_717 ⟨Nat.le_of_ble_eq_true rfl, Nat.le_of_ble_eq_true rfl⟩) hS (fun q _ h => hFc q h) hFc (fun r2 u t H locs ht hvm hw hB hz1 hk1 hS => ?_)
  obtain ⟨hP, hD⟩ := va_join (wr := []) (w1 := []) hP hD [0] [] rfl rfl (by decide) (by decide) hk1 hFc ny_P0 ny_D0
  have hP : va_P D vwCl [] H := hP
  have hD : va_D (fun q : Nat => s.heap.size ≤ q) [] := hD
  subst hw
  refine lv_icmp_eq (tgt := 791) hx hb dL_law_720 (by decide) (fun c3 => ?_) (fun h9 => (by first | exact absurd h9 (by decide) | exact absurd (by decide) h9))
  exact law_end l C0 (by decide) (by decide) hS (lv_sub hl [0, 3] rfl)

set_option maxHeartbeats 4000000 in
set_option maxRecDepth 100000 in
/-- the call carry, and the end -/
theorem law_17 {p : Program} {e : Env} {s : State} {m : MethodId} {below : List Frame} {meth : Method} {c : Code} (l : Launch) {b : Nat} {xs : Nat → Int32} (C0 : lw_At p s m meth c b 6 xs) (D : va_G) (cI cB cP : ClassId) (x_h0 : Nat) (x_tp : Nat) (x_rd : Nat) (x_bk : Nat) (x_fl : Nat) (x_pl : Nat) (y_m0 : Nat) (y_r0 : Nat) (y_r1 : Nat) (y_r11 : Nat) (y_r12 : Nat) (y_r13 : Nat) (y_r14 : Nat) (y_r15 : Nat) (y_r16 : Nat) (y_r17 : Nat) (y_r18 : Nat) (y_r19 : Nat) (y_r20 : Nat) (y_r21 : Nat) (y_r22 : Nat) (y_r23 : Nat) (y_r24 : Nat) (y_r34 : Nat) (y_r35 : Nat) (y_r36 : Nat) (y_r39 : Nat) {H : Heap} {locs : List Loc} {ls : Array Slot} (hK : va_K D vwCl (TY cI cB cP) s) (hN : nw s) (hP : va_P D vwCl [(x_h0, .inr (7, [.ref x_tp, .ref x_rd, .ref x_bk, .ref x_fl, .ref x_pl])), (x_fl, .inr (1, [.ref x_bk, .int 0, .int 0, .int 0, .int 0, .int 0, .int 0])), (y_m0, .inr (8, [.ref y_r0, .ref y_r1, .int 0, .int 0, .int 0, .int (-1), .int 0, .int 0, .int 0, .int 0, .long 0, .ref y_r11, .ref y_r12, .ref y_r13, .ref y_r14, .ref y_r15, .ref y_r16, .ref y_r17, .ref y_r18, .ref y_r19, .ref y_r20, .ref y_r21, .ref y_r22, .ref y_r23, .ref y_r24, .int 0, .int 0, .int 0, .int 0, .int 0, .int 0, .int 0, .int 0, .int 0, .ref y_r34, .ref y_r35, .ref y_r36, .int 0, .int 0, .ref y_r39]))] H) (hD : va_D (fun q : Nat => s.heap.size ≤ q) [(x_h0, .inr (7, [.ref x_tp, .ref x_rd, .ref x_bk, .ref x_fl, .ref x_pl])), (x_fl, .inr (1, [.ref x_bk, .int 0, .int 0, .int 0, .int 0, .int 0, .int 0])), (y_m0, .inr (8, [.ref y_r0, .ref y_r1, .int 0, .int 0, .int 0, .int (-1), .int 0, .int 0, .int 0, .int 0, .long 0, .ref y_r11, .ref y_r12, .ref y_r13, .ref y_r14, .ref y_r15, .ref y_r16, .ref y_r17, .ref y_r18, .ref y_r19, .ref y_r20, .ref y_r21, .ref y_r22, .ref y_r23, .ref y_r24, .int 0, .int 0, .int 0, .int 0, .int 0, .int 0, .int 0, .int 0, .int 0, .ref y_r34, .ref y_r35, .ref y_r36, .int 0, .int 0, .ref y_r39]))]) (hS : va_S (fun q : Nat => s.heap.size ≤ q) s.heap H locs) (hl : lv_has ls 4 [(3, .int 0), (2, .ref y_m0), (1, .ref x_h0), (0, .ref b)]) : W p l e room_1 s m #[Value.ref b] below meth c H locs 86 7510 (lw_Z below #[Value.ref b] s) (F0 m 725 ls []) := by
  obtain ⟨hx, hb, hr, hml, hown, hts, hX, hbl, hlocks, hgv⟩ := id C0
  have hown : s.vm.findClass RL = some m.cls := hown
  have hA : ∀ q : Nat, s.heap.size ≤ q → (fun q : Nat => s.heap.size ≤ q) q := fun _ h => h
  have hbA : ¬ (fun q : Nat => s.heap.size ≤ q) b := Nat.not_le.mpr hbl
  refine lv_aload_n hx hb dL_law_725 rfl (lv_at hl 2 rfl) ?_
  refine lv_aload_n hx hb dL_law_726 rfl (lv_at hl 3 rfl) ?_
  refine lv_iload_n hx hb dL_law_727 rfl (lv_at hl 0 rfl) ?_
  refine lv_iconst (v := 1) hx hb dL_law_728 (by decide) ?_
  refine lv_iadd hx hb dL_law_729 ?_
  refine lv_topi (fun vv ev => ?_)
  obtain rfl : vv = 1 := ev.trans (by decide)
  refine va_sld hx hb hX hbl hbA hS (show ¬ (_ ∨ _) by decide) dL_law_730 ?_
  refine lv_topi (fun vv ev => ?_)
  obtain rfl : vv = xs 1 := ev
  refine lv_aload_n hx hb dL_law_731 rfl (lv_at hl 3 rfl) ?_
  refine lv_iload_n hx hb dL_law_732 rfl (lv_at hl 0 rfl) ?_
  refine lv_iconst (v := 2) hx hb dL_law_733 (by decide) ?_
  refine lv_iadd hx hb dL_law_734 ?_
  refine lv_topi (fun vv ev => ?_)
  obtain rfl : vv = 2 := ev.trans (by decide)
  refine va_sld hx hb hX hbl hbA hS (show ¬ (_ ∨ _) by decide) dL_law_735 ?_
  refine lv_topi (fun vv ev => ?_)
  obtain rfl : vv = xs 2 := ev
  refine lv_aload_n hx hb dL_law_736 rfl (lv_at hl 3 rfl) ?_
  refine lv_iload_n hx hb dL_law_737 rfl (lv_at hl 0 rfl) ?_
  refine lv_iconst (v := 3) hx hb dL_law_738 (by decide) ?_
  refine lv_iadd hx hb dL_law_739 ?_
  refine lv_topi (fun vv ev => ?_)
  obtain rfl : vv = 3 := ev.trans (by decide)
  refine va_sld hx hb hX hbl hbA hS (show ¬ (_ ∨ _) by decide) dL_law_740 ?_
  refine lv_topi (fun vv ev => ?_)
  obtain rfl : vv = xs 3 := ev
  have hPc := hP.sub (ws' := [(x_h0, .inr (7, [.ref x_tp, .ref x_rd, .ref x_bk, .ref x_fl, .ref x_pl])), (x_fl, .inr (1, [.ref x_bk, .int 0, .int 0, .int 0, .int 0, .int 0, .int 0]))]) [0, 1] rfl
  have hDc := hD.sub (ws' := [(x_h0, .inr (7, [.ref x_tp, .ref x_rd, .ref x_bk, .ref x_fl, .ref x_pl])), (x_fl, .inr (1, [.ref x_bk, .int 0, .int 0, .int 0, .int 0, .int 0, .int 0]))]) [0, 1] (by decide) rfl
  have hFc := va_free (wc := [(x_h0, .inr (7, [.ref x_tp, .ref x_rd, .ref x_bk, .ref x_fl, .ref x_pl])), (x_fl, .inr (1, [.ref x_bk, .int 0, .int 0, .int 0, .int 0, .int 0, .int 0]))]) hD hS hA [0, 1] rfl
  refine va_calli (va_runV (As := [.int (xs 1), .int (xs 2), .int (xs 3)]) (rest := []) ⟨hx, hb, hml, hown, hts⟩ (k_carry l D cI cB cP H.size x_h0 x_tp x_rd x_bk x_fl x_pl (xs 1) (xs 2) (xs 3)) (cwV 3 hts gw_law_34 rfl rfl rfl (by decide +kernel) ⟨Nat.le_of_ble_eq_true rfl, Nat.le_of_ble_eq_true rfl⟩) ⟨ny_blind, va_recv hK hPc (ci := 7) (q0 := 0) rfl rfl, ny_pre hPc hK hN hDc⟩ rfl rfl hl.1 rfl (lv_room (Nat.le_of_ble_eq_true rfl)) dL_law_741 ⟨Nat.le_of_ble_eq_true rfl, Nat.le_of_ble_eq_true rfl⟩) hS (fun q _ h => hFc q h) hFc (fun r1 u t H locs ht hvm hw hB hz1 hk1 hS => ?_)
  obtain ⟨hP, hD⟩ := va_join (wr := [(y_m0, .inr (8, [.ref y_r0, .ref y_r1, .int 0, .int 0, .int 0, .int (-1), .int 0, .int 0, .int 0, .int 0, .long 0, .ref y_r11, .ref y_r12, .ref y_r13, .ref y_r14, .ref y_r15, .ref y_r16, .ref y_r17, .ref y_r18, .ref y_r19, .ref y_r20, .ref y_r21, .ref y_r22, .ref y_r23, .ref y_r24, .int 0, .int 0, .int 0, .int 0, .int 0, .int 0, .int 0, .int 0, .int 0, .ref y_r34, .ref y_r35, .ref y_r36, .int 0, .int 0, .ref y_r39]))]) (w1 := []) hP hD [0, 1] [2] rfl rfl (by decide) (by decide) hk1 hFc ny_P0 ny_D0
  have hP : va_P D vwCl [(y_m0, .inr (8, [.ref y_r0, .ref y_r1, .int 0, .int 0, .int 0, .int (-1), .int 0, .int 0, .int 0, .int 0, .long 0, .ref y_r11, .ref y_r12, .ref y_r13, .ref y_r14, .ref y_r15, .ref y_r16, .ref y_r17, .ref y_r18, .ref y_r19, .ref y_r20, .ref y_r21, .ref y_r22, .ref y_r23, .ref y_r24, .int 0, .int 0, .int 0, .int 0, .int 0, .int 0, .int 0, .int 0, .int 0, .ref y_r34, .ref y_r35, .ref y_r36, .int 0, .int 0, .ref y_r39]))] H := hP
  have hD : va_D (fun q : Nat => s.heap.size ≤ q) [(y_m0, .inr (8, [.ref y_r0, .ref y_r1, .int 0, .int 0, .int 0, .int (-1), .int 0, .int 0, .int 0, .int 0, .long 0, .ref y_r11, .ref y_r12, .ref y_r13, .ref y_r14, .ref y_r15, .ref y_r16, .ref y_r17, .ref y_r18, .ref y_r19, .ref y_r20, .ref y_r21, .ref y_r22, .ref y_r23, .ref y_r24, .int 0, .int 0, .int 0, .int 0, .int 0, .int 0, .int 0, .int 0, .int 0, .ref y_r34, .ref y_r35, .ref y_r36, .int 0, .int 0, .ref y_r39]))] := hD
  subst hw
  refine lv_aload_n hx hb dL_law_744 rfl (lv_at hl 1 rfl) ?_
  refine lv_aload_n hx hb dL_law_745 rfl (lv_at hl 3 rfl) ?_
  refine lv_iload_n hx hb dL_law_746 rfl (lv_at hl 0 rfl) ?_
  refine lv_iconst (v := 1) hx hb dL_law_747 (by decide) ?_
  refine lv_iadd hx hb dL_law_748 ?_
  refine lv_topi (fun vv ev => ?_)
  obtain rfl : vv = 1 := ev.trans (by decide)
  refine va_sld hx hb hX hbl hbA hS (show ¬ (_ ∨ _) by decide) dL_law_749 ?_
  refine lv_topi (fun vv ev => ?_)
  obtain rfl : vv = xs 1 := ev
  refine lv_aload_n hx hb dL_law_750 rfl (lv_at hl 3 rfl) ?_
  refine lv_iload_n hx hb dL_law_751 rfl (lv_at hl 0 rfl) ?_
  refine lv_iconst (v := 2) hx hb dL_law_752 (by decide) ?_
  refine lv_iadd hx hb dL_law_753 ?_
  refine lv_topi (fun vv ev => ?_)
  obtain rfl : vv = 2 := ev.trans (by decide)
  refine va_sld hx hb hX hbl hbA hS (show ¬ (_ ∨ _) by decide) dL_law_754 ?_
  refine lv_topi (fun vv ev => ?_)
  obtain rfl : vv = xs 2 := ev
  refine lv_aload_n hx hb dL_law_755 rfl (lv_at hl 3 rfl) ?_
  refine lv_iload_n hx hb dL_law_756 rfl (lv_at hl 0 rfl) ?_
  refine lv_iconst (v := 3) hx hb dL_law_757 (by decide) ?_
  refine lv_iadd hx hb dL_law_758 ?_
  refine lv_topi (fun vv ev => ?_)
  obtain rfl : vv = 3 := ev.trans (by decide)
  refine va_sld hx hb hX hbl hbA hS (show ¬ (_ ∨ _) by decide) dL_law_759 ?_
  refine lv_topi (fun vv ev => ?_)
  obtain rfl : vv = xs 3 := ev
  have hPc := hP.sub (ws' := [(y_m0, .inr (8, [.ref y_r0, .ref y_r1, .int 0, .int 0, .int 0, .int (-1), .int 0, .int 0, .int 0, .int 0, .long 0, .ref y_r11, .ref y_r12, .ref y_r13, .ref y_r14, .ref y_r15, .ref y_r16, .ref y_r17, .ref y_r18, .ref y_r19, .ref y_r20, .ref y_r21, .ref y_r22, .ref y_r23, .ref y_r24, .int 0, .int 0, .int 0, .int 0, .int 0, .int 0, .int 0, .int 0, .int 0, .ref y_r34, .ref y_r35, .ref y_r36, .int 0, .int 0, .ref y_r39]))]) [0] rfl
  have hDc := hD.sub (ws' := [(y_m0, .inr (8, [.ref y_r0, .ref y_r1, .int 0, .int 0, .int 0, .int (-1), .int 0, .int 0, .int 0, .int 0, .long 0, .ref y_r11, .ref y_r12, .ref y_r13, .ref y_r14, .ref y_r15, .ref y_r16, .ref y_r17, .ref y_r18, .ref y_r19, .ref y_r20, .ref y_r21, .ref y_r22, .ref y_r23, .ref y_r24, .int 0, .int 0, .int 0, .int 0, .int 0, .int 0, .int 0, .int 0, .int 0, .ref y_r34, .ref y_r35, .ref y_r36, .int 0, .int 0, .ref y_r39]))]) [0] (by decide) rfl
  have hFc := va_free (wc := [(y_m0, .inr (8, [.ref y_r0, .ref y_r1, .int 0, .int 0, .int 0, .int (-1), .int 0, .int 0, .int 0, .int 0, .long 0, .ref y_r11, .ref y_r12, .ref y_r13, .ref y_r14, .ref y_r15, .ref y_r16, .ref y_r17, .ref y_r18, .ref y_r19, .ref y_r20, .ref y_r21, .ref y_r22, .ref y_r23, .ref y_r24, .int 0, .int 0, .int 0, .int 0, .int 0, .int 0, .int 0, .int 0, .int 0, .ref y_r34, .ref y_r35, .ref y_r36, .int 0, .int 0, .ref y_r39]))]) hD hS hA [0] rfl
  refine va_calli (va_runV (As := [.int (xs 1), .int (xs 2), .int (xs 3)]) (rest := [.int (-1)]) ⟨hx, hb, hml, hown, hts⟩ (k_mcarry l D cI cB cP H.size y_m0 y_r0 y_r1 y_r11 y_r12 y_r13 y_r14 y_r15 y_r16 y_r17 y_r18 y_r19 y_r20 y_r21 y_r22 y_r23 y_r24 y_r34 y_r35 y_r36 y_r39 (xs 1) (xs 2) (xs 3)) (cwV 3 hts gw_law_35 rfl rfl rfl (by decide +kernel) ⟨Nat.le_of_ble_eq_true rfl, Nat.le_of_ble_eq_true rfl⟩) ⟨ny_blind, va_recv hK hPc (ci := 8) (q0 := 0) rfl rfl, ny_pre hPc hK hN hDc⟩ rfl rfl hl.1 rfl (lv_room (Nat.le_of_ble_eq_true rfl)) dL_law_760 ⟨Nat.le_of_ble_eq_true rfl, Nat.le_of_ble_eq_true rfl⟩) hS (fun q _ h => hFc q h) hFc (fun r2 u t H locs ht hvm hw hB hz1 hk1 hS => ?_)
  obtain ⟨hP, hD⟩ := va_join (wr := []) (w1 := []) hP hD [0] [] rfl rfl (by decide) (by decide) hk1 hFc ny_P0 ny_D0
  have hP : va_P D vwCl [] H := hP
  have hD : va_D (fun q : Nat => s.heap.size ≤ q) [] := hD
  subst hw
  refine lv_icmp_eq (tgt := 791) hx hb dL_law_763 (by decide) (fun c3 => ?_) (fun h9 => (by first | exact absurd h9 (by decide) | exact absurd (by decide) h9))
  exact law_end l C0 (by decide) (by decide) hS (lv_sub hl [0, 3] rfl)

set_option maxHeartbeats 4000000 in
set_option maxRecDepth 100000 in
/-- the call about, and the end -/
theorem law_18 {p : Program} {e : Env} {s : State} {m : MethodId} {below : List Frame} {meth : Method} {c : Code} (l : Launch) {b : Nat} {xs : Nat → Int32} (C0 : lw_At p s m meth c b 6 xs) (D : va_G) (cI cB cP : ClassId) (x_h0 : Nat) (x_tp : Nat) (x_rd : Nat) (x_bk : Nat) (x_fl : Nat) (x_pl : Nat) (x_yb : Nat) (x_a2 : Nat) (x_a3 : Nat) (x_a4 : Nat) (x_a5 : Nat) (x_a6 : Nat) (x_a7 : Nat) (x_a8 : Nat) (x_a9 : Nat) (x_a10 : Nat) (x_a11 : Nat) (x_a12 : Nat) (x_a13 : Nat) (x_a14 : Nat) (y_m0 : Nat) (y_r0 : Nat) (y_r1 : Nat) (y_r11 : Nat) (y_r12 : Nat) (y_r13 : Nat) (y_r14 : Nat) (y_r15 : Nat) (y_r16 : Nat) (y_r17 : Nat) (y_r18 : Nat) (y_r19 : Nat) (y_r20 : Nat) (y_r21 : Nat) (y_r22 : Nat) (y_r23 : Nat) (y_r24 : Nat) (y_r34 : Nat) (y_r35 : Nat) (y_r36 : Nat) (y_r39 : Nat) (y_f11 : Nat → Int32) (y_f12 : Nat → Int32) (y_h11 : y_f11 0 = 0) (y_h12 : y_f12 0 = 0) {H : Heap} {locs : List Loc} {ls : Array Slot} (hK : va_K D vwCl (TY cI cB cP) s) (hN : nw s) (hP : va_P D vwCl [(x_h0, .inr (7, [.ref x_tp, .ref x_rd, .ref x_bk, .ref x_fl, .ref x_pl])), (x_tp, .inr (5, [.ref x_yb, .int 0])), (x_bk, .inr (0, [.int 0, .int 0, .ref x_a2, .ref x_a3, .ref x_a4, .ref x_a5, .ref x_a6, .ref x_a7, .ref x_a8, .ref x_a9, .ref x_a10, .ref x_a11, .ref x_a12, .ref x_a13, .ref x_a14])), (x_fl, .inr (1, [.ref x_bk, .int 0, .int 0, .int 0, .int 0, .int 0, .int 0])), (y_m0, .inr (8, [.ref y_r0, .ref y_r1, .int 0, .int 0, .int 0, .int (-1), .int 0, .int 0, .int 0, .int 0, .long 0, .ref y_r11, .ref y_r12, .ref y_r13, .ref y_r14, .ref y_r15, .ref y_r16, .ref y_r17, .ref y_r18, .ref y_r19, .ref y_r20, .ref y_r21, .ref y_r22, .ref y_r23, .ref y_r24, .int 0, .int 0, .int 0, .int 0, .int 0, .int 0, .int 0, .int 0, .int 0, .ref y_r34, .ref y_r35, .ref y_r36, .int 0, .int 0, .ref y_r39])), (y_r11, .inl (cI, 2, .inl y_f11)), (y_r12, .inl (cI, 2, .inl y_f12))] H) (hD : va_D (fun q : Nat => s.heap.size ≤ q) [(x_h0, .inr (7, [.ref x_tp, .ref x_rd, .ref x_bk, .ref x_fl, .ref x_pl])), (x_tp, .inr (5, [.ref x_yb, .int 0])), (x_bk, .inr (0, [.int 0, .int 0, .ref x_a2, .ref x_a3, .ref x_a4, .ref x_a5, .ref x_a6, .ref x_a7, .ref x_a8, .ref x_a9, .ref x_a10, .ref x_a11, .ref x_a12, .ref x_a13, .ref x_a14])), (x_fl, .inr (1, [.ref x_bk, .int 0, .int 0, .int 0, .int 0, .int 0, .int 0])), (y_m0, .inr (8, [.ref y_r0, .ref y_r1, .int 0, .int 0, .int 0, .int (-1), .int 0, .int 0, .int 0, .int 0, .long 0, .ref y_r11, .ref y_r12, .ref y_r13, .ref y_r14, .ref y_r15, .ref y_r16, .ref y_r17, .ref y_r18, .ref y_r19, .ref y_r20, .ref y_r21, .ref y_r22, .ref y_r23, .ref y_r24, .int 0, .int 0, .int 0, .int 0, .int 0, .int 0, .int 0, .int 0, .int 0, .ref y_r34, .ref y_r35, .ref y_r36, .int 0, .int 0, .ref y_r39])), (y_r11, .inl (cI, 2, .inl y_f11)), (y_r12, .inl (cI, 2, .inl y_f12))]) (hS : va_S (fun q : Nat => s.heap.size ≤ q) s.heap H locs) (hl : lv_has ls 4 [(3, .int 0), (2, .ref y_m0), (1, .ref x_h0), (0, .ref b)]) : W p l e room_1 s m #[Value.ref b] below meth c H locs 86 7510 (lw_Z below #[Value.ref b] s) (F0 m 768 ls []) := by
  obtain ⟨hx, hb, hr, hml, hown, hts, hX, hbl, hlocks, hgv⟩ := id C0
  have hown : s.vm.findClass RL = some m.cls := hown
  have hA : ∀ q : Nat, s.heap.size ≤ q → (fun q : Nat => s.heap.size ≤ q) q := fun _ h => h
  have hbA : ¬ (fun q : Nat => s.heap.size ≤ q) b := Nat.not_le.mpr hbl
  refine lv_aload_n hx hb dL_law_768 rfl (lv_at hl 2 rfl) ?_
  refine lv_aload_n hx hb dL_law_769 rfl (lv_at hl 3 rfl) ?_
  refine lv_iload_n hx hb dL_law_770 rfl (lv_at hl 0 rfl) ?_
  refine lv_iconst (v := 1) hx hb dL_law_771 (by decide) ?_
  refine lv_iadd hx hb dL_law_772 ?_
  refine lv_topi (fun vv ev => ?_)
  obtain rfl : vv = 1 := ev.trans (by decide)
  refine va_sld hx hb hX hbl hbA hS (show ¬ (_ ∨ _) by decide) dL_law_773 ?_
  refine lv_topi (fun vv ev => ?_)
  obtain rfl : vv = xs 1 := ev
  have hPc := hP.sub (ws' := [(x_h0, .inr (7, [.ref x_tp, .ref x_rd, .ref x_bk, .ref x_fl, .ref x_pl])), (x_tp, .inr (5, [.ref x_yb, .int 0])), (x_bk, .inr (0, [.int 0, .int 0, .ref x_a2, .ref x_a3, .ref x_a4, .ref x_a5, .ref x_a6, .ref x_a7, .ref x_a8, .ref x_a9, .ref x_a10, .ref x_a11, .ref x_a12, .ref x_a13, .ref x_a14])), (x_fl, .inr (1, [.ref x_bk, .int 0, .int 0, .int 0, .int 0, .int 0, .int 0]))]) [0, 1, 2, 3] rfl
  have hDc := hD.sub (ws' := [(x_h0, .inr (7, [.ref x_tp, .ref x_rd, .ref x_bk, .ref x_fl, .ref x_pl])), (x_tp, .inr (5, [.ref x_yb, .int 0])), (x_bk, .inr (0, [.int 0, .int 0, .ref x_a2, .ref x_a3, .ref x_a4, .ref x_a5, .ref x_a6, .ref x_a7, .ref x_a8, .ref x_a9, .ref x_a10, .ref x_a11, .ref x_a12, .ref x_a13, .ref x_a14])), (x_fl, .inr (1, [.ref x_bk, .int 0, .int 0, .int 0, .int 0, .int 0, .int 0]))]) [0, 1, 2, 3] (by decide) rfl
  have hFc := va_free (wc := [(x_h0, .inr (7, [.ref x_tp, .ref x_rd, .ref x_bk, .ref x_fl, .ref x_pl])), (x_tp, .inr (5, [.ref x_yb, .int 0])), (x_bk, .inr (0, [.int 0, .int 0, .ref x_a2, .ref x_a3, .ref x_a4, .ref x_a5, .ref x_a6, .ref x_a7, .ref x_a8, .ref x_a9, .ref x_a10, .ref x_a11, .ref x_a12, .ref x_a13, .ref x_a14])), (x_fl, .inr (1, [.ref x_bk, .int 0, .int 0, .int 0, .int 0, .int 0, .int 0]))]) hD hS hA [0, 1, 2, 3] rfl
  refine va_calli (va_runV (As := [.int (xs 1)]) (rest := []) ⟨hx, hb, hml, hown, hts⟩ (k_about l D cI cB cP H.size x_h0 x_tp x_rd x_bk x_fl x_pl x_yb x_a2 x_a3 x_a4 x_a5 x_a6 x_a7 x_a8 x_a9 x_a10 x_a11 x_a12 x_a13 x_a14 (xs 1)) (cwV 1 hts gw_law_36 rfl rfl rfl (by decide +kernel) ⟨Nat.le_of_ble_eq_true rfl, Nat.le_of_ble_eq_true rfl⟩) ⟨ny_blind, va_recv hK hPc (ci := 7) (q0 := 0) rfl rfl, ny_pre hPc hK hN hDc⟩ rfl rfl hl.1 rfl (lv_room (Nat.le_of_ble_eq_true rfl)) dL_law_774 ⟨Nat.le_of_ble_eq_true rfl, Nat.le_of_ble_eq_true rfl⟩) hS (fun q _ h => hFc q h) hFc (fun r1 u t H locs ht hvm hw hB hz1 hk1 hS => ?_)
  obtain ⟨hP, hD⟩ := va_join (wr := [(y_m0, .inr (8, [.ref y_r0, .ref y_r1, .int 0, .int 0, .int 0, .int (-1), .int 0, .int 0, .int 0, .int 0, .long 0, .ref y_r11, .ref y_r12, .ref y_r13, .ref y_r14, .ref y_r15, .ref y_r16, .ref y_r17, .ref y_r18, .ref y_r19, .ref y_r20, .ref y_r21, .ref y_r22, .ref y_r23, .ref y_r24, .int 0, .int 0, .int 0, .int 0, .int 0, .int 0, .int 0, .int 0, .int 0, .ref y_r34, .ref y_r35, .ref y_r36, .int 0, .int 0, .ref y_r39])), (y_r11, .inl (cI, 2, .inl y_f11)), (y_r12, .inl (cI, 2, .inl y_f12))]) (w1 := []) hP hD [0, 1, 2, 3] [4, 5, 6] rfl rfl (by decide) (by decide) hk1 hFc ny_P0 ny_D0
  have hP : va_P D vwCl [(y_m0, .inr (8, [.ref y_r0, .ref y_r1, .int 0, .int 0, .int 0, .int (-1), .int 0, .int 0, .int 0, .int 0, .long 0, .ref y_r11, .ref y_r12, .ref y_r13, .ref y_r14, .ref y_r15, .ref y_r16, .ref y_r17, .ref y_r18, .ref y_r19, .ref y_r20, .ref y_r21, .ref y_r22, .ref y_r23, .ref y_r24, .int 0, .int 0, .int 0, .int 0, .int 0, .int 0, .int 0, .int 0, .int 0, .ref y_r34, .ref y_r35, .ref y_r36, .int 0, .int 0, .ref y_r39])), (y_r11, .inl (cI, 2, .inl y_f11)), (y_r12, .inl (cI, 2, .inl y_f12))] H := hP
  have hD : va_D (fun q : Nat => s.heap.size ≤ q) [(y_m0, .inr (8, [.ref y_r0, .ref y_r1, .int 0, .int 0, .int 0, .int (-1), .int 0, .int 0, .int 0, .int 0, .long 0, .ref y_r11, .ref y_r12, .ref y_r13, .ref y_r14, .ref y_r15, .ref y_r16, .ref y_r17, .ref y_r18, .ref y_r19, .ref y_r20, .ref y_r21, .ref y_r22, .ref y_r23, .ref y_r24, .int 0, .int 0, .int 0, .int 0, .int 0, .int 0, .int 0, .int 0, .int 0, .ref y_r34, .ref y_r35, .ref y_r36, .int 0, .int 0, .ref y_r39])), (y_r11, .inl (cI, 2, .inl y_f11)), (y_r12, .inl (cI, 2, .inl y_f12))] := hD
  have hr1 := hw
  refine lv_aload_n hx hb dL_law_777 rfl (lv_at hl 1 rfl) ?_
  refine lv_aload_n hx hb dL_law_778 rfl (lv_at hl 3 rfl) ?_
  refine lv_iload_n hx hb dL_law_779 rfl (lv_at hl 0 rfl) ?_
  refine lv_iconst (v := 1) hx hb dL_law_780 (by decide) ?_
  refine lv_iadd hx hb dL_law_781 ?_
  refine lv_topi (fun vv ev => ?_)
  obtain rfl : vv = 1 := ev.trans (by decide)
  refine va_sld hx hb hX hbl hbA hS (show ¬ (_ ∨ _) by decide) dL_law_782 ?_
  refine lv_topi (fun vv ev => ?_)
  obtain rfl : vv = xs 1 := ev
  have hPc := hP.sub (ws' := [(y_m0, .inr (8, [.ref y_r0, .ref y_r1, .int 0, .int 0, .int 0, .int (-1), .int 0, .int 0, .int 0, .int 0, .long 0, .ref y_r11, .ref y_r12, .ref y_r13, .ref y_r14, .ref y_r15, .ref y_r16, .ref y_r17, .ref y_r18, .ref y_r19, .ref y_r20, .ref y_r21, .ref y_r22, .ref y_r23, .ref y_r24, .int 0, .int 0, .int 0, .int 0, .int 0, .int 0, .int 0, .int 0, .int 0, .ref y_r34, .ref y_r35, .ref y_r36, .int 0, .int 0, .ref y_r39])), (y_r11, .inl (cI, 2, .inl y_f11)), (y_r12, .inl (cI, 2, .inl y_f12))]) [0, 1, 2] rfl
  have hDc := hD.sub (ws' := [(y_m0, .inr (8, [.ref y_r0, .ref y_r1, .int 0, .int 0, .int 0, .int (-1), .int 0, .int 0, .int 0, .int 0, .long 0, .ref y_r11, .ref y_r12, .ref y_r13, .ref y_r14, .ref y_r15, .ref y_r16, .ref y_r17, .ref y_r18, .ref y_r19, .ref y_r20, .ref y_r21, .ref y_r22, .ref y_r23, .ref y_r24, .int 0, .int 0, .int 0, .int 0, .int 0, .int 0, .int 0, .int 0, .int 0, .ref y_r34, .ref y_r35, .ref y_r36, .int 0, .int 0, .ref y_r39])), (y_r11, .inl (cI, 2, .inl y_f11)), (y_r12, .inl (cI, 2, .inl y_f12))]) [0, 1, 2] (by decide) rfl
  have hFc := va_free (wc := [(y_m0, .inr (8, [.ref y_r0, .ref y_r1, .int 0, .int 0, .int 0, .int (-1), .int 0, .int 0, .int 0, .int 0, .long 0, .ref y_r11, .ref y_r12, .ref y_r13, .ref y_r14, .ref y_r15, .ref y_r16, .ref y_r17, .ref y_r18, .ref y_r19, .ref y_r20, .ref y_r21, .ref y_r22, .ref y_r23, .ref y_r24, .int 0, .int 0, .int 0, .int 0, .int 0, .int 0, .int 0, .int 0, .int 0, .ref y_r34, .ref y_r35, .ref y_r36, .int 0, .int 0, .ref y_r39])), (y_r11, .inl (cI, 2, .inl y_f11)), (y_r12, .inl (cI, 2, .inl y_f12))]) hD hS hA [0, 1, 2] rfl
  refine va_calli (va_runV (As := [.int (xs 1)]) (rest := [.int r1]) ⟨hx, hb, hml, hown, hts⟩ (k_mabout l D cI cB cP H.size y_m0 y_r0 y_r1 y_r11 y_r12 y_r13 y_r14 y_r15 y_r16 y_r17 y_r18 y_r19 y_r20 y_r21 y_r22 y_r23 y_r24 y_r34 y_r35 y_r36 y_r39 (xs 1) y_f11 y_f12 (y_h11) (y_h12)) (cwV 1 hts gw_law_37 rfl rfl rfl (by decide +kernel) ⟨Nat.le_of_ble_eq_true rfl, Nat.le_of_ble_eq_true rfl⟩) ⟨ny_blind, va_recv hK hPc (ci := 8) (q0 := 0) rfl rfl, ny_pre hPc hK hN hDc⟩ rfl rfl hl.1 rfl (lv_room (Nat.le_of_ble_eq_true rfl)) dL_law_783 ⟨Nat.le_of_ble_eq_true rfl, Nat.le_of_ble_eq_true rfl⟩) hS (fun q _ h => hFc q h) hFc (fun r2 u t H locs ht hvm hw hB hz1 hk1 hS => ?_)
  obtain ⟨hP, hD⟩ := va_join (wr := []) (w1 := []) hP hD [0, 1, 2] [] rfl rfl (by decide) (by decide) hk1 hFc ny_P0 ny_D0
  have hP : va_P D vwCl [] H := hP
  have hD : va_D (fun q : Nat => s.heap.size ≤ q) [] := hD
  have hr2 := hw
  refine lv_icmp_eq (tgt := 791) hx hb dL_law_786 (by decide) (fun c3 => ?_) (fun h9 => absurd (hr1.trans hr2.symm) h9)
  exact law_end l C0 (by decide) (by decide) hS (lv_sub hl [0, 3] rfl)
