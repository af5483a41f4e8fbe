def wk_k_readLast_speed : List Cond := .code yX3_readLast cX3_readLast 5 (some .int) :: ([.methodLink RX3 75 yX3_number, .instanceMethod yX3_number, .selects RX3 yX3_number yX3_number, .initialized RX3, .code yX3_number cX3_number 4 (some .int), .methodLink RX3 132 yX3_nextToken, .instanceMethod yX3_nextToken, .selects RX3 yX3_nextToken yX3_nextToken, .code yX3_nextToken cX3_nextToken 1 none, .fieldLink RX3 27 "FlightDesk$Reader" "found" "I", .fieldLink RX3 43 "FlightDesk$Reader" "current" "I", .fieldLink RX3 14 "FlightDesk$Reader" "scanner" "LFlightDesk$Scanner;", .fieldLink RX3 170 "FlightDesk$Scanner" "count" "I", .fieldLink RX3 46 "FlightDesk$Scanner" "kind" "[I", .fieldLink RX3 167 "FlightDesk$Scanner" "value" "[I", .methodLink RX3 117 yX3_refuse, .instanceMethod yX3_refuse, .selects RX3 yX3_refuse yX3_refuse, .code yX3_refuse cX3_refuse 2 none, .fieldLink RX3 173 "FlightDesk$Scanner" "place" "[I", .fieldLink RX3 31 "FlightDesk$Reader" "foundAt" "I", .methodLink RX3 59 yX3_refuseToken, .instanceMethod yX3_refuseToken, .selects RX3 yX3_refuseToken yX3_refuseToken, .code yX3_refuseToken cX3_refuseToken 1 none] ++ wsX30 ++ wsX40)
theorem iw_k_readLast_speed_3 : ∀ w ∈ wsX30, w ∈ wk_k_readLast_speed := fun _ h => List.mem_cons_of_mem _ (List.mem_append_left _ (List.mem_append_right _ h))
theorem iw_k_readLast_speed_4 : ∀ w ∈ wsX40, w ∈ wk_k_readLast_speed := fun _ h => List.mem_cons_of_mem _ (List.mem_append_right _ h)
set_option maxRecDepth 20000 in
theorem gw_k_readLast_speed_0 : GoodIn wk_k_readLast_speed (wsV RX3 75 RX3 yX3_number wk_k_number) := goodIn_sub (by decide +kernel) (by decide +kernel)
set_option maxRecDepth 20000 in
theorem gw_k_readLast_speed_1 : GoodIn wk_k_readLast_speed (wsV RX3 117 RX3 yX3_refuse wk_k_refuse) := goodIn_sub (by decide +kernel) (by decide +kernel)
set_option maxHeartbeats 4000000 in
set_option maxRecDepth 100000 in
theorem k_readLast_speed (l : Launch) (D : va_G) (cI cB cP : ClassId) (sz : Nat) (h0 : Nat) (sc : Nat) (dr : Nat) (fo : Int32) (fa : Int32) (cu : Int32) (tp : Nat) (s2 : Nat) (s3 : Nat) (s4 : Nat) (ct : Int32) (nx : Int32) (fk : Nat → Int32) (fp : Nat → Int32) (fv : Nat → Int32) (ar : Nat) (i : Int32) (f : Nat → Int32) (hc9 : 0 ≤ cu.toInt ∧ cu.toInt ≤ 11) (ht9 : 0 ≤ ct.toInt ∧ ct.toInt ≤ 12) (hf9 : ∀ k : Nat, k < 6 → (f k).toInt = (-1000) ∨ (100 ≤ (f k).toInt ∧ (f k).toInt ≤ 999)) : Met l yX3_readLast wk_k_readLast_speed ({ frames := 3, cells := 0, slots := 0, locals := 64 } : Room) (va_Pc [.ref h0, .ref ar, .int i, .int 100, .int 999] (Pw D cI cB cP sz [(h0, .inr (3, [.ref sc, .ref dr, .int fo, .int fa, .int cu])), (sc, .inr (4, [.ref tp, .int ct, .ref s2, .ref s3, .ref s4, .int nx])), (s2, .inl (cI, 12, .inl fk)), (s3, .inl (cI, 12, .inl fp)), (s4, .inl (cI, 12, .inl fv)), (ar, .inl (cI, 6, .inl f))])) (va_Qi (fun (r : Int32) (_ : Unit) => True) (fun _ t => ∃ fo9 : Int32, ∃ fa9 : Int32, ∃ cu9 : Int32, ∃ g : Nat → Int32, (0 ≤ cu9.toInt ∧ cu9.toInt ≤ 11) ∧ (∀ k : Nat, k < 6 → (g k).toInt = (-1000) ∨ (100 ≤ (g k).toInt ∧ (g k).toInt ≤ 999)) ∧ va_P D vwCl [(h0, .inr (3, [.ref sc, .ref dr, .int fo9, .int fa9, .int cu9])), (sc, .inr (4, [.ref tp, .int ct, .ref s2, .ref s3, .ref s4, .int nx])), (s2, .inl (cI, 12, .inl fk)), (s3, .inl (cI, 12, .inl fp)), (s4, .inl (cI, 12, .inl fv)), (ar, .inl (cI, 6, .inl g))] t.heap ∧ va_D (va_A [(h0, .inr (3, [.ref sc, .ref dr, .int fo, .int fa, .int cu])), (sc, .inr (4, [.ref tp, .int ct, .ref s2, .ref s3, .ref s4, .int nx])), (s2, .inl (cI, 12, .inl fk)), (s3, .inl (cI, 12, .inl fp)), (s4, .inl (cI, 12, .inl fv)), (ar, .inl (cI, 6, .inl f))] sz) [(h0, .inr (3, [.ref sc, .ref dr, .int fo9, .int fa9, .int cu9])), (sc, .inr (4, [.ref tp, .int ct, .ref s2, .ref s3, .ref s4, .int nx])), (s2, .inl (cI, 12, .inl fk)), (s3, .inl (cI, 12, .inl fp)), (s4, .inl (cI, 12, .inl fv)), (ar, .inl (cI, 6, .inl g))]) (va_A [(h0, .inr (3, [.ref sc, .ref dr, .int fo, .int fa, .int cu])), (sc, .inr (4, [.ref tp, .int ct, .ref s2, .ref s3, .ref s4, .int nx])), (s2, .inl (cI, 12, .inl fk)), (s3, .inl (cI, 12, .inl fp)), (s4, .inl (cI, 12, .inl fv)), (ar, .inl (cI, 6, .inl f))] sz)) 0 0 (va_A [(h0, .inr (3, [.ref sc, .ref dr, .int fo, .int fa, .int cu])), (sc, .inr (4, [.ref tp, .int ct, .ref s2, .ref s3, .ref s4, .int nx])), (s2, .inl (cI, 12, .inl fk)), (s3, .inl (cI, 12, .inl fp)), (s4, .inl (cI, 12, .inl fv)), (ar, .inl (cI, 6, .inl f))] sz) := by
  refine Met.ofW (cc := cX3_readLast) (maxL := 5) (ret := (some .int)) (by decide) rfl ?_
  intro p e s m args below meth c s₁ B hml hv
  obtain ⟨rfl, hsz, hP, ⟨hK, hN⟩, hD0⟩ := hv
  have hx := B.exec
  have hb := B.bytes
  have hr := B.returns
  have hts := atoms_spec (ws := wk_k_readLast_speed) B.pre
  have hown : s.vm.findClass RX3 = some m.cls := findClass_of_methodNamed B.named
  have hlocks := B.notSynchronized
  subst hsz
  have hD := hD0.self (sz := s.heap.size)
  generalize hAe : va_A [(h0, .inr (3, [.ref sc, .ref dr, .int fo, .int fa, .int cu])), (sc, .inr (4, [.ref tp, .int ct, .ref s2, .ref s3, .ref s4, .int nx])), (s2, .inl (cI, 12, .inl fk)), (s3, .inl (cI, 12, .inl fp)), (s4, .inl (cI, 12, .inl fv)), (ar, .inl (cI, 6, .inl f))] s.heap.size = A at hD ⊢
  have hA : ∀ q : Nat, s.heap.size ≤ q → A q := fun q h => by rw [← hAe]; exact Or.inr h
  have hS : va_S A s.heap s.heap [] := va_S.rf
  have hP : va_P D vwCl [(h0, .inr (3, [.ref sc, .ref dr, .int fo, .int fa, .int cu])), (sc, .inr (4, [.ref tp, .int ct, .ref s2, .ref s3, .ref s4, .int nx])), (s2, .inl (cI, 12, .inl fk)), (s3, .inl (cI, 12, .inl fp)), (s4, .inl (cI, 12, .inl fv)), (ar, .inl (cI, 6, .inl f))] s.heap := hP
  have hl := lv_entry ([.ref h0, .ref ar, .int i, .int 100, .int 999]) (n := 5) (Nat.le_of_ble_eq_true rfl)
  rw [lg_entry_eq]
  generalize (lg_sl ([.ref h0, .ref ar, .int i, .int 100, .int 999]) ++ List.replicate (5 - (lg_sl ([.ref h0, .ref ar, .int i, .int 100, .int 999])).length) Slot.unset).toArray = ls at hl ⊢
  have hl : lv_has ls 5 [(0, .ref h0), (1, .ref ar), (2, .int i), (3, .int 100), (4, .int 999)] := hl
  refine lv_iload_n hx hb dX3_readLast_0 rfl (lv_at hl 2 rfl) ?_
  refine lv_if_lt (tgt := 10) hx hb dX3_readLast_1 (by decide) (fun c1 => ?_) (fun c1 => ?_)
  · have tc1 : i.toInt < 0 := i32_lt c1
    refine lv_iload_n hx hb dX3_readLast_10 rfl (lv_at hl 3 rfl) ?_
    have hP9 := hP.sub (ws' := [(h0, .inr (3, [.ref sc, .ref dr, .int fo, .int fa, .int cu])), (sc, .inr (4, [.ref tp, .int ct, .ref s2, .ref s3, .ref s4, .int nx])), (s2, .inl (cI, 12, .inl fk)), (s3, .inl (cI, 12, .inl fp)), (s4, .inl (cI, 12, .inl fv)), (ar, .inl (cI, 6, .inl f))]) [0, 1, 2, 3, 4, 5] rfl
    have hD9 := hD.sub (ws' := [(h0, .inr (3, [.ref sc, .ref dr, .int fo, .int fa, .int cu])), (sc, .inr (4, [.ref tp, .int ct, .ref s2, .ref s3, .ref s4, .int nx])), (s2, .inl (cI, 12, .inl fk)), (s3, .inl (cI, 12, .inl fp)), (s4, .inl (cI, 12, .inl fv)), (ar, .inl (cI, 6, .inl f))]) [0, 1, 2, 3, 4, 5] (by decide) rfl
    refine W.widen (k := 0) (n := 0) (by decide) (by decide) ?_
    exact W.iret (v := 100) hx hb hr (fun t ht hW => ⟨⟨100, (), rfl, (trivial), fo, fa, cu, f, (show 0 ≤ cu.toInt ∧ cu.toInt ≤ 11 by first | assumption | omega | decide), (by assumption), by rw [ht]; exact hP9, hD9⟩, hS.F ht⟩) hS.2.2 dX3_readLast_11
  · have tc1 : ¬ (i.toInt < 0) := i32_nlt c1
    refine lv_iload_n hx hb dX3_readLast_4 rfl (lv_at hl 2 rfl) ?_
    refine lv_aload_n hx hb dX3_readLast_5 rfl (lv_at hl 1 rfl) ?_
    refine va_alen (v := 6) hx hb hK hP 5 0 rfl rfl rfl dX3_readLast_6 ?_
    refine lv_icmp_lt (tgt := 12) hx hb dX3_readLast_7 (by decide) (fun c2 => ?_) (fun c2 => ?_)
    · have tc2 : i.toInt < 6 := i32_lt c2
      refine lv_aload_n hx hb dX3_readLast_12 rfl (lv_at hl 1 rfl) ?_
      refine lv_iload_n hx hb dX3_readLast_13 rfl (lv_at hl 2 rfl) ?_
      refine va_iald hx hb hK hP 5 0 rfl rfl (vp_in_iff.mpr ⟨show 0 ≤ i.toInt by omega, show i.toInt < ((6 : Nat) : Int) by omega⟩) dX3_readLast_14 ?_
      refine lv_topi (fun v3 ev3 => ?_)
      have tv3 : v3.toInt = (-1000) ∨ (100 ≤ v3.toInt ∧ v3.toInt ≤ 999) := by rw [ev3]; exact hf9 _ (ck_lt (show 0 ≤ i.toInt by omega) (show i.toInt < ((6 : Nat) : Int) by omega))
      refine lv_sipush (v := (-1000)) hx hb dX3_readLast_15 (by decide) ?_
      refine lv_icmp_eq (tgt := 26) hx hb dX3_readLast_18 (by decide) (fun c4 => ?_) (fun c4 => ?_)
      · have tc4 : v3.toInt = (-1000) := i32_eq c4
        refine lv_aload_n hx hb dX3_readLast_26 rfl (lv_at hl 1 rfl) ?_
        refine lv_iload_n hx hb dX3_readLast_27 rfl (lv_at hl 2 rfl) ?_
        refine lv_aload_n hx hb dX3_readLast_28 rfl (lv_at hl 0 rfl) ?_
        refine lv_iload_n hx hb dX3_readLast_29 rfl (lv_at hl 3 rfl) ?_
        refine lv_iload hx hb dX3_readLast_30 (lv_at hl 4 rfl) ?_
        have hPc := hP.sub (ws' := [(h0, .inr (3, [.ref sc, .ref dr, .int fo, .int fa, .int cu])), (sc, .inr (4, [.ref tp, .int ct, .ref s2, .ref s3, .ref s4, .int nx])), (s2, .inl (cI, 12, .inl fk)), (s3, .inl (cI, 12, .inl fp)), (s4, .inl (cI, 12, .inl fv))]) [0, 1, 2, 3, 4] rfl
        have hDc := hD.sub (ws' := [(h0, .inr (3, [.ref sc, .ref dr, .int fo, .int fa, .int cu])), (sc, .inr (4, [.ref tp, .int ct, .ref s2, .ref s3, .ref s4, .int nx])), (s2, .inl (cI, 12, .inl fk)), (s3, .inl (cI, 12, .inl fp)), (s4, .inl (cI, 12, .inl fv))]) [0, 1, 2, 3, 4] (by decide) rfl
        have hFc := va_free (wc := [(h0, .inr (3, [.ref sc, .ref dr, .int fo, .int fa, .int cu])), (sc, .inr (4, [.ref tp, .int ct, .ref s2, .ref s3, .ref s4, .int nx])), (s2, .inl (cI, 12, .inl fk)), (s3, .inl (cI, 12, .inl fp)), (s4, .inl (cI, 12, .inl fv))]) hD hS hA [0, 1, 2, 3, 4] rfl
        refine va_calli (va_runV (As := [.int 100, .int 999]) (rest := [.int i, .ref ar]) ⟨hx, hb, hml, hown, hts⟩ (k_number l D cI cB cP s.heap.size h0 sc dr fo fa cu tp s2 s3 s4 ct nx 100 999 fk fp fv (show 0 ≤ cu.toInt ∧ cu.toInt ≤ 11 by first | assumption | omega | decide) (show 0 ≤ ct.toInt ∧ ct.toInt ≤ 12 by first | assumption | omega | decide)) (cwV 2 hts gw_k_readLast_speed_0 rfl rfl rfl (by decide +kernel) ⟨Nat.le_of_ble_eq_true rfl, Nat.le_of_ble_eq_true rfl⟩) ⟨ny_blind, va_recv hK hPc (ci := 3) (q0 := 0) rfl rfl, ny_pre hPc hK hN hDc⟩ rfl rfl hl.1 rfl (lv_room (Nat.le_of_ble_eq_true rfl)) dX3_readLast_32 ⟨Nat.le_of_ble_eq_true rfl, Nat.le_of_ble_eq_true rfl⟩) hS (fun q _ h => hFc q h) hFc (fun r8 u t H locs ht hvm hw hB hz1 hk1 hS => ?_)
        obtain ⟨fo_5, fa_6, cu_7, hp9, hP1, hD1⟩ := hB
        rw [ht] at hP1
        have hp9 : 0 ≤ cu_7.toInt ∧ cu_7.toInt ≤ 11 := hp9
        obtain ⟨hP, hD⟩ := va_join (wr := [(ar, .inl (cI, 6, .inl f))]) (w1 := [(h0, .inr (3, [.ref sc, .ref dr, .int fo_5, .int fa_6, .int cu_7])), (sc, .inr (4, [.ref tp, .int ct, .ref s2, .ref s3, .ref s4, .int nx])), (s2, .inl (cI, 12, .inl fk)), (s3, .inl (cI, 12, .inl fp)), (s4, .inl (cI, 12, .inl fv))]) hP hD [0, 1, 2, 3, 4] [5] rfl rfl (by decide) (by decide) hk1 hFc hP1 hD1
        have hP : va_P D vwCl [(ar, .inl (cI, 6, .inl f)), (h0, .inr (3, [.ref sc, .ref dr, .int fo_5, .int fa_6, .int cu_7])), (sc, .inr (4, [.ref tp, .int ct, .ref s2, .ref s3, .ref s4, .int nx])), (s2, .inl (cI, 12, .inl fk)), (s3, .inl (cI, 12, .inl fp)), (s4, .inl (cI, 12, .inl fv))] H := hP
        have hD : va_D A [(ar, .inl (cI, 6, .inl f)), (h0, .inr (3, [.ref sc, .ref dr, .int fo_5, .int fa_6, .int cu_7])), (sc, .inr (4, [.ref tp, .int ct, .ref s2, .ref s3, .ref s4, .int nx])), (s2, .inl (cI, 12, .inl fk)), (s3, .inl (cI, 12, .inl fp)), (s4, .inl (cI, 12, .inl fv))] := hD
        have hr8 : r8.toInt = 100 ∨ (100 ≤ r8.toInt ∧ r8.toInt ≤ 999) := hw
        refine va_iast hx hb hK hP hD hS 0 0 rfl rfl (vp_in_iff.mpr ⟨show 0 ≤ i.toInt by omega, show i.toInt < ((6 : Nat) : Int) by omega⟩) dX3_readLast_35 (fun H locs hP hD hS => ?_)
        have hP : va_P D vwCl [(ar, .inl (cI, 6, .inl (upd f i.toNatClampNeg r8))), (h0, .inr (3, [.ref sc, .ref dr, .int fo_5, .int fa_6, .int cu_7])), (sc, .inr (4, [.ref tp, .int ct, .ref s2, .ref s3, .ref s4, .int nx])), (s2, .inl (cI, 12, .inl fk)), (s3, .inl (cI, 12, .inl fp)), (s4, .inl (cI, 12, .inl fv))] H := hP
        have hD : va_D A [(ar, .inl (cI, 6, .inl (upd f i.toNatClampNeg r8))), (h0, .inr (3, [.ref sc, .ref dr, .int fo_5, .int fa_6, .int cu_7])), (sc, .inr (4, [.ref tp, .int ct, .ref s2, .ref s3, .ref s4, .int nx])), (s2, .inl (cI, 12, .inl fk)), (s3, .inl (cI, 12, .inl fp)), (s4, .inl (cI, 12, .inl fv))] := hD
        obtain ⟨f10, ef10⟩ : ∃ z : Nat → Int32, z = (upd f i.toNatClampNeg r8) := ⟨_, rfl⟩
        rw [← ef10] at hP hD
        have hgf10 : ∀ k : Nat, k < 6 → (f10 k).toInt = (-1000) ∨ (100 ≤ (f10 k).toInt ∧ (f10 k).toInt ≤ 999) := by rw [ef10]; exact fun k hk => upd_all (P := fun z => z.toInt = (-1000) ∨ (100 ≤ z.toInt ∧ z.toInt ≤ 999)) hf9 (show r8.toInt = (-1000) ∨ (100 ≤ r8.toInt ∧ r8.toInt ≤ 999) by omega) k hk
        refine lv_aload_n hx hb dX3_readLast_36 rfl (lv_at hl 1 rfl) ?_
        refine lv_iload_n hx hb dX3_readLast_37 rfl (lv_at hl 2 rfl) ?_
        refine va_iald hx hb hK hP 0 0 rfl rfl (vp_in_iff.mpr ⟨show 0 ≤ i.toInt by omega, show i.toInt < ((6 : Nat) : Int) by omega⟩) dX3_readLast_38 ?_
        refine lv_topi (fun v11 ev11 => ?_)
        have tv11 : v11.toInt = (-1000) ∨ (100 ≤ v11.toInt ∧ v11.toInt ≤ 999) := by rw [ev11]; exact hgf10 _ (ck_lt (show 0 ≤ i.toInt by omega) (show i.toInt < ((6 : Nat) : Int) by omega))
        have hP9 := hP.sub (ws' := [(h0, .inr (3, [.ref sc, .ref dr, .int fo_5, .int fa_6, .int cu_7])), (sc, .inr (4, [.ref tp, .int ct, .ref s2, .ref s3, .ref s4, .int nx])), (s2, .inl (cI, 12, .inl fk)), (s3, .inl (cI, 12, .inl fp)), (s4, .inl (cI, 12, .inl fv)), (ar, .inl (cI, 6, .inl f10))]) [1, 2, 3, 4, 5, 0] rfl
        have hD9 := hD.sub (ws' := [(h0, .inr (3, [.ref sc, .ref dr, .int fo_5, .int fa_6, .int cu_7])), (sc, .inr (4, [.ref tp, .int ct, .ref s2, .ref s3, .ref s4, .int nx])), (s2, .inl (cI, 12, .inl fk)), (s3, .inl (cI, 12, .inl fp)), (s4, .inl (cI, 12, .inl fv)), (ar, .inl (cI, 6, .inl f10))]) [1, 2, 3, 4, 5, 0] (by decide) rfl
        refine W.widen (k := 0) (n := 0) (by decide) (by decide) ?_
        exact W.iret (v := v11) hx hb hr (fun t ht hW => ⟨⟨v11, (), rfl, (trivial), fo_5, fa_6, cu_7, f10, (show 0 ≤ cu_7.toInt ∧ cu_7.toInt ≤ 11 by first | assumption | omega | decide), (by assumption), by rw [ht]; exact hP9, hD9⟩, hS.F ht⟩) hS.2.2 dX3_readLast_39
      · have tc4 : ¬ (v3.toInt = (-1000)) := i32_neq c4
        refine lv_aload_n hx hb dX3_readLast_21 rfl (lv_at hl 0 rfl) ?_
        refine lv_iconst (v := 4) hx hb dX3_readLast_22 (by decide) ?_
        have hPc := hP.sub (ws' := [(h0, .inr (3, [.ref sc, .ref dr, .int fo, .int fa, .int cu])), (sc, .inr (4, [.ref tp, .int ct, .ref s2, .ref s3, .ref s4, .int nx])), (s3, .inl (cI, 12, .inl fp))]) [0, 1, 3] rfl
        have hDc := hD.sub (ws' := [(h0, .inr (3, [.ref sc, .ref dr, .int fo, .int fa, .int cu])), (sc, .inr (4, [.ref tp, .int ct, .ref s2, .ref s3, .ref s4, .int nx])), (s3, .inl (cI, 12, .inl fp))]) [0, 1, 3] (by decide) rfl
        have hFc := va_free (wc := [(h0, .inr (3, [.ref sc, .ref dr, .int fo, .int fa, .int cu])), (sc, .inr (4, [.ref tp, .int ct, .ref s2, .ref s3, .ref s4, .int nx])), (s3, .inl (cI, 12, .inl fp))]) hD hS hA [0, 1, 3] rfl
        refine va_callv (va_runV (As := [.int 4]) (rest := []) ⟨hx, hb, hml, hown, hts⟩ (k_refuse l D cI cB cP s.heap.size h0 sc dr fo fa cu tp s2 s3 s4 ct nx 4 fp (show 0 ≤ cu.toInt ∧ cu.toInt ≤ 11 by first | assumption | omega | decide) (show 0 ≤ ct.toInt ∧ ct.toInt ≤ 12 by first | assumption | omega | decide)) (cwV 1 hts gw_k_readLast_speed_1 rfl rfl rfl (by decide +kernel) ⟨Nat.le_of_ble_eq_true rfl, Nat.le_of_ble_eq_true rfl⟩) ⟨ny_blind, va_recv hK hPc (ci := 3) (q0 := 0) rfl rfl, ny_pre hPc hK hN hDc⟩ rfl rfl hl.1 rfl (lv_room (Nat.le_of_ble_eq_true rfl)) dX3_readLast_23 ⟨Nat.le_of_ble_eq_true rfl, Nat.le_of_ble_eq_true rfl⟩) hS (fun q _ h => hFc q h) hFc (fun u t H locs ht hvm hw hB hz1 hk1 hS => ?_)
        obtain ⟨fo_12, fa_13, hP1, hD1⟩ := hB
        rw [ht] at hP1
        obtain ⟨hP, hD⟩ := va_join (wr := [(s2, .inl (cI, 12, .inl fk)), (s4, .inl (cI, 12, .inl fv)), (ar, .inl (cI, 6, .inl f))]) (w1 := [(h0, .inr (3, [.ref sc, .ref dr, .int fo_12, .int fa_13, .int cu])), (sc, .inr (4, [.ref tp, .int ct, .ref s2, .ref s3, .ref s4, .int nx])), (s3, .inl (cI, 12, .inl fp))]) hP hD [0, 1, 3] [2, 4, 5] rfl rfl (by decide) (by decide) hk1 hFc hP1 hD1
        have hP : va_P D vwCl [(s2, .inl (cI, 12, .inl fk)), (s4, .inl (cI, 12, .inl fv)), (ar, .inl (cI, 6, .inl f)), (h0, .inr (3, [.ref sc, .ref dr, .int fo_12, .int fa_13, .int cu])), (sc, .inr (4, [.ref tp, .int ct, .ref s2, .ref s3, .ref s4, .int nx])), (s3, .inl (cI, 12, .inl fp))] H := hP
        have hD : va_D A [(s2, .inl (cI, 12, .inl fk)), (s4, .inl (cI, 12, .inl fv)), (ar, .inl (cI, 6, .inl f)), (h0, .inr (3, [.ref sc, .ref dr, .int fo_12, .int fa_13, .int cu])), (sc, .inr (4, [.ref tp, .int ct, .ref s2, .ref s3, .ref s4, .int nx])), (s3, .inl (cI, 12, .inl fp))] := hD
        refine lv_aload_n hx hb dX3_readLast_26 rfl (lv_at hl 1 rfl) ?_
        refine lv_iload_n hx hb dX3_readLast_27 rfl (lv_at hl 2 rfl) ?_
        refine lv_aload_n hx hb dX3_readLast_28 rfl (lv_at hl 0 rfl) ?_
        refine lv_iload_n hx hb dX3_readLast_29 rfl (lv_at hl 3 rfl) ?_
        refine lv_iload hx hb dX3_readLast_30 (lv_at hl 4 rfl) ?_
        have hPc := hP.sub (ws' := [(h0, .inr (3, [.ref sc, .ref dr, .int fo_12, .int fa_13, .int cu])), (sc, .inr (4, [.ref tp, .int ct, .ref s2, .ref s3, .ref s4, .int nx])), (s2, .inl (cI, 12, .inl fk)), (s3, .inl (cI, 12, .inl fp)), (s4, .inl (cI, 12, .inl fv))]) [3, 4, 0, 5, 1] rfl
        have hDc := hD.sub (ws' := [(h0, .inr (3, [.ref sc, .ref dr, .int fo_12, .int fa_13, .int cu])), (sc, .inr (4, [.ref tp, .int ct, .ref s2, .ref s3, .ref s4, .int nx])), (s2, .inl (cI, 12, .inl fk)), (s3, .inl (cI, 12, .inl fp)), (s4, .inl (cI, 12, .inl fv))]) [3, 4, 0, 5, 1] (by decide) rfl
        have hFc := va_free (wc := [(h0, .inr (3, [.ref sc, .ref dr, .int fo_12, .int fa_13, .int cu])), (sc, .inr (4, [.ref tp, .int ct, .ref s2, .ref s3, .ref s4, .int nx])), (s2, .inl (cI, 12, .inl fk)), (s3, .inl (cI, 12, .inl fp)), (s4, .inl (cI, 12, .inl fv))]) hD hS hA [3, 4, 0, 5, 1] rfl
        refine va_calli (va_runV (As := [.int 100, .int 999]) (rest := [.int i, .ref ar]) ⟨hx, hb, hml, hown, hts⟩ (k_number l D cI cB cP H.size h0 sc dr fo_12 fa_13 cu tp s2 s3 s4 ct nx 100 999 fk fp fv (show 0 ≤ cu.toInt ∧ cu.toInt ≤ 11 by first | assumption | omega | decide) (show 0 ≤ ct.toInt ∧ ct.toInt ≤ 12 by first | assumption | omega | decide)) (cwV 2 hts gw_k_readLast_speed_0 rfl rfl rfl (by decide +kernel) ⟨Nat.le_of_ble_eq_true rfl, Nat.le_of_ble_eq_true rfl⟩) ⟨ny_blind, va_recv hK hPc (ci := 3) (q0 := 0) rfl rfl, ny_pre hPc hK hN hDc⟩ rfl rfl hl.1 rfl (lv_room (Nat.le_of_ble_eq_true rfl)) dX3_readLast_32 ⟨Nat.le_of_ble_eq_true rfl, Nat.le_of_ble_eq_true rfl⟩) hS (fun q _ h => hFc q h) hFc (fun r18 u t H locs ht hvm hw hB hz1 hk1 hS => ?_)
        obtain ⟨fo_15, fa_16, cu_17, hp19, hP1, hD1⟩ := hB
        rw [ht] at hP1
        have hp19 : 0 ≤ cu_17.toInt ∧ cu_17.toInt ≤ 11 := hp19
        obtain ⟨hP, hD⟩ := va_join (wr := [(ar, .inl (cI, 6, .inl f))]) (w1 := [(h0, .inr (3, [.ref sc, .ref dr, .int fo_15, .int fa_16, .int cu_17])), (sc, .inr (4, [.ref tp, .int ct, .ref s2, .ref s3, .ref s4, .int nx])), (s2, .inl (cI, 12, .inl fk)), (s3, .inl (cI, 12, .inl fp)), (s4, .inl (cI, 12, .inl fv))]) hP hD [3, 4, 0, 5, 1] [2] rfl rfl (by decide) (by decide) hk1 hFc hP1 hD1
        have hP : va_P D vwCl [(ar, .inl (cI, 6, .inl f)), (h0, .inr (3, [.ref sc, .ref dr, .int fo_15, .int fa_16, .int cu_17])), (sc, .inr (4, [.ref tp, .int ct, .ref s2, .ref s3, .ref s4, .int nx])), (s2, .inl (cI, 12, .inl fk)), (s3, .inl (cI, 12, .inl fp)), (s4, .inl (cI, 12, .inl fv))] H := hP
        have hD : va_D A [(ar, .inl (cI, 6, .inl f)), (h0, .inr (3, [.ref sc, .ref dr, .int fo_15, .int fa_16, .int cu_17])), (sc, .inr (4, [.ref tp, .int ct, .ref s2, .ref s3, .ref s4, .int nx])), (s2, .inl (cI, 12, .inl fk)), (s3, .inl (cI, 12, .inl fp)), (s4, .inl (cI, 12, .inl fv))] := hD
        have hr18 : r18.toInt = 100 ∨ (100 ≤ r18.toInt ∧ r18.toInt ≤ 999) := hw
        refine va_iast hx hb hK hP hD hS 0 0 rfl rfl (vp_in_iff.mpr ⟨show 0 ≤ i.toInt by omega, show i.toInt < ((6 : Nat) : Int) by omega⟩) dX3_readLast_35 (fun H locs hP hD hS => ?_)
        have hP : va_P D vwCl [(ar, .inl (cI, 6, .inl (upd f i.toNatClampNeg r18))), (h0, .inr (3, [.ref sc, .ref dr, .int fo_15, .int fa_16, .int cu_17])), (sc, .inr (4, [.ref tp, .int ct, .ref s2, .ref s3, .ref s4, .int nx])), (s2, .inl (cI, 12, .inl fk)), (s3, .inl (cI, 12, .inl fp)), (s4, .inl (cI, 12, .inl fv))] H := hP
        have hD : va_D A [(ar, .inl (cI, 6, .inl (upd f i.toNatClampNeg r18))), (h0, .inr (3, [.ref sc, .ref dr, .int fo_15, .int fa_16, .int cu_17])), (sc, .inr (4, [.ref tp, .int ct, .ref s2, .ref s3, .ref s4, .int nx])), (s2, .inl (cI, 12, .inl fk)), (s3, .inl (cI, 12, .inl fp)), (s4, .inl (cI, 12, .inl fv))] := hD
        obtain ⟨f20, ef20⟩ : ∃ z : Nat → Int32, z = (upd f i.toNatClampNeg r18) := ⟨_, rfl⟩
        rw [← ef20] at hP hD
        have hgf20 : ∀ k : Nat, k < 6 → (f20 k).toInt = (-1000) ∨ (100 ≤ (f20 k).toInt ∧ (f20 k).toInt ≤ 999) := by rw [ef20]; exact fun k hk => upd_all (P := fun z => z.toInt = (-1000) ∨ (100 ≤ z.toInt ∧ z.toInt ≤ 999)) hf9 (show r18.toInt = (-1000) ∨ (100 ≤ r18.toInt ∧ r18.toInt ≤ 999) by omega) k hk
        refine lv_aload_n hx hb dX3_readLast_36 rfl (lv_at hl 1 rfl) ?_
        refine lv_iload_n hx hb dX3_readLast_37 rfl (lv_at hl 2 rfl) ?_
        refine va_iald hx hb hK hP 0 0 rfl rfl (vp_in_iff.mpr ⟨show 0 ≤ i.toInt by omega, show i.toInt < ((6 : Nat) : Int) by omega⟩) dX3_readLast_38 ?_
        refine lv_topi (fun v21 ev21 => ?_)
        have tv21 : v21.toInt = (-1000) ∨ (100 ≤ v21.toInt ∧ v21.toInt ≤ 999) := by rw [ev21]; exact hgf20 _ (ck_lt (show 0 ≤ i.toInt by omega) (show i.toInt < ((6 : Nat) : Int) by omega))
        have hP9 := hP.sub (ws' := [(h0, .inr (3, [.ref sc, .ref dr, .int fo_15, .int fa_16, .int cu_17])), (sc, .inr (4, [.ref tp, .int ct, .ref s2, .ref s3, .ref s4, .int nx])), (s2, .inl (cI, 12, .inl fk)), (s3, .inl (cI, 12, .inl fp)), (s4, .inl (cI, 12, .inl fv)), (ar, .inl (cI, 6, .inl f20))]) [1, 2, 3, 4, 5, 0] rfl
        have hD9 := hD.sub (ws' := [(h0, .inr (3, [.ref sc, .ref dr, .int fo_15, .int fa_16, .int cu_17])), (sc, .inr (4, [.ref tp, .int ct, .ref s2, .ref s3, .ref s4, .int nx])), (s2, .inl (cI, 12, .inl fk)), (s3, .inl (cI, 12, .inl fp)), (s4, .inl (cI, 12, .inl fv)), (ar, .inl (cI, 6, .inl f20))]) [1, 2, 3, 4, 5, 0] (by decide) rfl
        refine W.widen (k := 0) (n := 0) (by decide) (by decide) ?_
        exact W.iret (v := v21) hx hb hr (fun t ht hW => ⟨⟨v21, (), rfl, (trivial), fo_15, fa_16, cu_17, f20, (show 0 ≤ cu_17.toInt ∧ cu_17.toInt ≤ 11 by first | assumption | omega | decide), (by assumption), by rw [ht]; exact hP9, hD9⟩, hS.F ht⟩) hS.2.2 dX3_readLast_39
    · have tc2 : ¬ (i.toInt < 6) := i32_nlt c2
      refine lv_iload_n hx hb dX3_readLast_10 rfl (lv_at hl 3 rfl) ?_
      have hP9 := hP.sub (ws' := [(h0, .inr (3, [.ref sc, .ref dr, .int fo, .int fa, .int cu])), (sc, .inr (4, [.ref tp, .int ct, .ref s2, .ref s3, .ref s4, .int nx])), (s2, .inl (cI, 12, .inl fk)), (s3, .inl (cI, 12, .inl fp)), (s4, .inl (cI, 12, .inl fv)), (ar, .inl (cI, 6, .inl f))]) [0, 1, 2, 3, 4, 5] rfl
      have hD9 := hD.sub (ws' := [(h0, .inr (3, [.ref sc, .ref dr, .int fo, .int fa, .int cu])), (sc, .inr (4, [.ref tp, .int ct, .ref s2, .ref s3, .ref s4, .int nx])), (s2, .inl (cI, 12, .inl fk)), (s3, .inl (cI, 12, .inl fp)), (s4, .inl (cI, 12, .inl fv)), (ar, .inl (cI, 6, .inl f))]) [0, 1, 2, 3, 4, 5] (by decide) rfl
      refine W.widen (k := 0) (n := 0) (by decide) (by decide) ?_
      exact W.iret (v := 100) hx hb hr (fun t ht hW => ⟨⟨100, (), rfl, (trivial), fo, fa, cu, f, (show 0 ≤ cu.toInt ∧ cu.toInt ≤ 11 by first | assumption | omega | decide), (by assumption), by rw [ht]; exact hP9, hD9⟩, hS.F ht⟩) hS.2.2 dX3_readLast_11

def wk_k_readLast_climb : List Cond := .code yX3_readLast cX3_readLast 5 (some .int) :: ([.methodLink RX3 75 yX3_number, .instanceMethod yX3_number, .selects RX3 yX3_number yX3_number, .initialized RX3, .code yX3_number cX3_number 4 (some .int), .methodLink RX3 132 yX3_nextToken, .instanceMethod yX3_nextToken, .selects RX3 yX3_nextToken yX3_nextToken, .code yX3_nextToken cX3_nextToken 1 none, .fieldLink RX3 27 "FlightDesk$Reader" "found" "I", .fieldLink RX3 43 "FlightDesk$Reader" "current" "I", .fieldLink RX3 14 "FlightDesk$Reader" "scanner" "LFlightDesk$Scanner;", .fieldLink RX3 170 "FlightDesk$Scanner" "count" "I", .fieldLink RX3 46 "FlightDesk$Scanner" "kind" "[I", .fieldLink RX3 167 "FlightDesk$Scanner" "value" "[I", .methodLink RX3 117 yX3_refuse, .instanceMethod yX3_refuse, .selects RX3 yX3_refuse yX3_refuse, .code yX3_refuse cX3_refuse 2 none, .fieldLink RX3 173 "FlightDesk$Scanner" "place" "[I", .fieldLink RX3 31 "FlightDesk$Reader" "foundAt" "I", .methodLink RX3 59 yX3_refuseToken, .instanceMethod yX3_refuseToken, .selects RX3 yX3_refuseToken yX3_refuseToken, .code yX3_refuseToken cX3_refuseToken 1 none] ++ wsX30 ++ wsX40)
theorem iw_k_readLast_climb_3 : ∀ w ∈ wsX30, w ∈ wk_k_readLast_climb := fun _ h => List.mem_cons_of_mem _ (List.mem_append_left _ (List.mem_append_right _ h))
theorem iw_k_readLast_climb_4 : ∀ w ∈ wsX40, w ∈ wk_k_readLast_climb := fun _ h => List.mem_cons_of_mem _ (List.mem_append_right _ h)
set_option maxRecDepth 20000 in
theorem gw_k_readLast_climb_0 : GoodIn wk_k_readLast_climb (wsV RX3 75 RX3 yX3_number wk_k_number) := goodIn_sub (by decide +kernel) (by decide +kernel)
set_option maxRecDepth 20000 in
theorem gw_k_readLast_climb_1 : GoodIn wk_k_readLast_climb (wsV RX3 117 RX3 yX3_refuse wk_k_refuse) := goodIn_sub (by decide +kernel) (by decide +kernel)
set_option maxHeartbeats 4000000 in
set_option maxRecDepth 100000 in
theorem k_readLast_climb (l : Launch) (D : va_G) (cI cB cP : ClassId) (sz : Nat) (h0 : Nat) (sc : Nat) (dr : Nat) (fo : Int32) (fa : Int32) (cu : Int32) (tp : Nat) (s2 : Nat) (s3 : Nat) (s4 : Nat) (ct : Int32) (nx : Int32) (fk : Nat → Int32) (fp : Nat → Int32) (fv : Nat → Int32) (ar : Nat) (i : Int32) (f : Nat → Int32) (hc9 : 0 ≤ cu.toInt ∧ cu.toInt ≤ 11) (ht9 : 0 ≤ ct.toInt ∧ ct.toInt ≤ 12) (hf9 : ∀ k : Nat, k < 6 → (f k).toInt = (-1000) ∨ (0 ≤ (f k).toInt ∧ (f k).toInt ≤ 999)) : Met l yX3_readLast wk_k_readLast_climb ({ frames := 3, cells := 0, slots := 0, locals := 64 } : Room) (va_Pc [.ref h0, .ref ar, .int i, .int 0, .int 999] (Pw D cI cB cP sz [(h0, .inr (3, [.ref sc, .ref dr, .int fo, .int fa, .int cu])), (sc, .inr (4, [.ref tp, .int ct, .ref s2, .ref s3, .ref s4, .int nx])), (s2, .inl (cI, 12, .inl fk)), (s3, .inl (cI, 12, .inl fp)), (s4, .inl (cI, 12, .inl fv)), (ar, .inl (cI, 6, .inl f))])) (va_Qi (fun (r : Int32) (_ : Unit) => True) (fun _ t => ∃ fo9 : Int32, ∃ fa9 : Int32, ∃ cu9 : Int32, ∃ g : Nat → Int32, (0 ≤ cu9.toInt ∧ cu9.toInt ≤ 11) ∧ (∀ k : Nat, k < 6 → (g k).toInt = (-1000) ∨ (0 ≤ (g k).toInt ∧ (g k).toInt ≤ 999)) ∧ va_P D vwCl [(h0, .inr (3, [.ref sc, .ref dr, .int fo9, .int fa9, .int cu9])), (sc, .inr (4, [.ref tp, .int ct, .ref s2, .ref s3, .ref s4, .int nx])), (s2, .inl (cI, 12, .inl fk)), (s3, .inl (cI, 12, .inl fp)), (s4, .inl (cI, 12, .inl fv)), (ar, .inl (cI, 6, .inl g))] t.heap ∧ va_D (va_A [(h0, .inr (3, [.ref sc, .ref dr, .int fo, .int fa, .int cu])), (sc, .inr (4, [.ref tp, .int ct, .ref s2, .ref s3, .ref s4, .int nx])), (s2, .inl (cI, 12, .inl fk)), (s3, .inl (cI, 12, .inl fp)), (s4, .inl (cI, 12, .inl fv)), (ar, .inl (cI, 6, .inl f))] sz) [(h0, .inr (3, [.ref sc, .ref dr, .int fo9, .int fa9, .int cu9])), (sc, .inr (4, [.ref tp, .int ct, .ref s2, .ref s3, .ref s4, .int nx])), (s2, .inl (cI, 12, .inl fk)), (s3, .inl (cI, 12, .inl fp)), (s4, .inl (cI, 12, .inl fv)), (ar, .inl (cI, 6, .inl g))]) (va_A [(h0, .inr (3, [.ref sc, .ref dr, .int fo, .int fa, .int cu])), (sc, .inr (4, [.ref tp, .int ct, .ref s2, .ref s3, .ref s4, .int nx])), (s2, .inl (cI, 12, .inl fk)), (s3, .inl (cI, 12, .inl fp)), (s4, .inl (cI, 12, .inl fv)), (ar, .inl (cI, 6, .inl f))] sz)) 0 0 (va_A [(h0, .inr (3, [.ref sc, .ref dr, .int fo, .int fa, .int cu])), (sc, .inr (4, [.ref tp, .int ct, .ref s2, .ref s3, .ref s4, .int nx])), (s2, .inl (cI, 12, .inl fk)), (s3, .inl (cI, 12, .inl fp)), (s4, .inl (cI, 12, .inl fv)), (ar, .inl (cI, 6, .inl f))] sz) := by
  refine Met.ofW (cc := cX3_readLast) (maxL := 5) (ret := (some .int)) (by decide) rfl ?_
  intro p e s m args below meth c s₁ B hml hv
  obtain ⟨rfl, hsz, hP, ⟨hK, hN⟩, hD0⟩ := hv
  have hx := B.exec
  have hb := B.bytes
  have hr := B.returns
  have hts := atoms_spec (ws := wk_k_readLast_climb) B.pre
  have hown : s.vm.findClass RX3 = some m.cls := findClass_of_methodNamed B.named
  have hlocks := B.notSynchronized
  subst hsz
  have hD := hD0.self (sz := s.heap.size)
  generalize hAe : va_A [(h0, .inr (3, [.ref sc, .ref dr, .int fo, .int fa, .int cu])), (sc, .inr (4, [.ref tp, .int ct, .ref s2, .ref s3, .ref s4, .int nx])), (s2, .inl (cI, 12, .inl fk)), (s3, .inl (cI, 12, .inl fp)), (s4, .inl (cI, 12, .inl fv)), (ar, .inl (cI, 6, .inl f))] s.heap.size = A at hD ⊢
  have hA : ∀ q : Nat, s.heap.size ≤ q → A q := fun q h => by rw [← hAe]; exact Or.inr h
  have hS : va_S A s.heap s.heap [] := va_S.rf
  have hP : va_P D vwCl [(h0, .inr (3, [.ref sc, .ref dr, .int fo, .int fa, .int cu])), (sc, .inr (4, [.ref tp, .int ct, .ref s2, .ref s3, .ref s4, .int nx])), (s2, .inl (cI, 12, .inl fk)), (s3, .inl (cI, 12, .inl fp)), (s4, .inl (cI, 12, .inl fv)), (ar, .inl (cI, 6, .inl f))] s.heap := hP
  have hl := lv_entry ([.ref h0, .ref ar, .int i, .int 0, .int 999]) (n := 5) (Nat.le_of_ble_eq_true rfl)
  rw [lg_entry_eq]
  generalize (lg_sl ([.ref h0, .ref ar, .int i, .int 0, .int 999]) ++ List.replicate (5 - (lg_sl ([.ref h0, .ref ar, .int i, .int 0, .int 999])).length) Slot.unset).toArray = ls at hl ⊢
  have hl : lv_has ls 5 [(0, .ref h0), (1, .ref ar), (2, .int i), (3, .int 0), (4, .int 999)] := hl
  refine lv_iload_n hx hb dX3_readLast_0 rfl (lv_at hl 2 rfl) ?_
  refine lv_if_lt (tgt := 10) hx hb dX3_readLast_1 (by decide) (fun c1 => ?_) (fun c1 => ?_)
  · have tc1 : i.toInt < 0 := i32_lt c1
    refine lv_iload_n hx hb dX3_readLast_10 rfl (lv_at hl 3 rfl) ?_
    have hP9 := hP.sub (ws' := [(h0, .inr (3, [.ref sc, .ref dr, .int fo, .int fa, .int cu])), (sc, .inr (4, [.ref tp, .int ct, .ref s2, .ref s3, .ref s4, .int nx])), (s2, .inl (cI, 12, .inl fk)), (s3, .inl (cI, 12, .inl fp)), (s4, .inl (cI, 12, .inl fv)), (ar, .inl (cI, 6, .inl f))]) [0, 1, 2, 3, 4, 5] rfl
    have hD9 := hD.sub (ws' := [(h0, .inr (3, [.ref sc, .ref dr, .int fo, .int fa, .int cu])), (sc, .inr (4, [.ref tp, .int ct, .ref s2, .ref s3, .ref s4, .int nx])), (s2, .inl (cI, 12, .inl fk)), (s3, .inl (cI, 12, .inl fp)), (s4, .inl (cI, 12, .inl fv)), (ar, .inl (cI, 6, .inl f))]) [0, 1, 2, 3, 4, 5] (by decide) rfl
    refine W.widen (k := 0) (n := 0) (by decide) (by decide) ?_
    exact W.iret (v := 0) hx hb hr (fun t ht hW => ⟨⟨0, (), rfl, (trivial), fo, fa, cu, f, (show 0 ≤ cu.toInt ∧ cu.toInt ≤ 11 by first | assumption | omega | decide), (by assumption), by rw [ht]; exact hP9, hD9⟩, hS.F ht⟩) hS.2.2 dX3_readLast_11
  · have tc1 : ¬ (i.toInt < 0) := i32_nlt c1
    refine lv_iload_n hx hb dX3_readLast_4 rfl (lv_at hl 2 rfl) ?_
    refine lv_aload_n hx hb dX3_readLast_5 rfl (lv_at hl 1 rfl) ?_
    refine va_alen (v := 6) hx hb hK hP 5 0 rfl rfl rfl dX3_readLast_6 ?_
    refine lv_icmp_lt (tgt := 12) hx hb dX3_readLast_7 (by decide) (fun c2 => ?_) (fun c2 => ?_)
    · have tc2 : i.toInt < 6 := i32_lt c2
      refine lv_aload_n hx hb dX3_readLast_12 rfl (lv_at hl 1 rfl) ?_
      refine lv_iload_n hx hb dX3_readLast_13 rfl (lv_at hl 2 rfl) ?_
      refine va_iald hx hb hK hP 5 0 rfl rfl (vp_in_iff.mpr ⟨show 0 ≤ i.toInt by omega, show i.toInt < ((6 : Nat) : Int) by omega⟩) dX3_readLast_14 ?_
      refine lv_topi (fun v3 ev3 => ?_)
      have tv3 : v3.toInt = (-1000) ∨ (0 ≤ v3.toInt ∧ v3.toInt ≤ 999) := by rw [ev3]; exact hf9 _ (ck_lt (show 0 ≤ i.toInt by omega) (show i.toInt < ((6 : Nat) : Int) by omega))
      refine lv_sipush (v := (-1000)) hx hb dX3_readLast_15 (by decide) ?_
      refine lv_icmp_eq (tgt := 26) hx hb dX3_readLast_18 (by decide) (fun c4 => ?_) (fun c4 => ?_)
      · have tc4 : v3.toInt = (-1000) := i32_eq c4
        refine lv_aload_n hx hb dX3_readLast_26 rfl (lv_at hl 1 rfl) ?_
        refine lv_iload_n hx hb dX3_readLast_27 rfl (lv_at hl 2 rfl) ?_
        refine lv_aload_n hx hb dX3_readLast_28 rfl (lv_at hl 0 rfl) ?_
        refine lv_iload_n hx hb dX3_readLast_29 rfl (lv_at hl 3 rfl) ?_
        refine lv_iload hx hb dX3_readLast_30 (lv_at hl 4 rfl) ?_
        have hPc := hP.sub (ws' := [(h0, .inr (3, [.ref sc, .ref dr, .int fo, .int fa, .int cu])), (sc, .inr (4, [.ref tp, .int ct, .ref s2, .ref s3, .ref s4, .int nx])), (s2, .inl (cI, 12, .inl fk)), (s3, .inl (cI, 12, .inl fp)), (s4, .inl (cI, 12, .inl fv))]) [0, 1, 2, 3, 4] rfl
        have hDc := hD.sub (ws' := [(h0, .inr (3, [.ref sc, .ref dr, .int fo, .int fa, .int cu])), (sc, .inr (4, [.ref tp, .int ct, .ref s2, .ref s3, .ref s4, .int nx])), (s2, .inl (cI, 12, .inl fk)), (s3, .inl (cI, 12, .inl fp)), (s4, .inl (cI, 12, .inl fv))]) [0, 1, 2, 3, 4] (by decide) rfl
        have hFc := va_free (wc := [(h0, .inr (3, [.ref sc, .ref dr, .int fo, .int fa, .int cu])), (sc, .inr (4, [.ref tp, .int ct, .ref s2, .ref s3, .ref s4, .int nx])), (s2, .inl (cI, 12, .inl fk)), (s3, .inl (cI, 12, .inl fp)), (s4, .inl (cI, 12, .inl fv))]) hD hS hA [0, 1, 2, 3, 4] rfl
        refine va_calli (va_runV (As := [.int 0, .int 999]) (rest := [.int i, .ref ar]) ⟨hx, hb, hml, hown, hts⟩ (k_number l D cI cB cP s.heap.size h0 sc dr fo fa cu tp s2 s3 s4 ct nx 0 999 fk fp fv (show 0 ≤ cu.toInt ∧ cu.toInt ≤ 11 by first | assumption | omega | decide) (show 0 ≤ ct.toInt ∧ ct.toInt ≤ 12 by first | assumption | omega | decide)) (cwV 2 hts gw_k_readLast_climb_0 rfl rfl rfl (by decide +kernel) ⟨Nat.le_of_ble_eq_true rfl, Nat.le_of_ble_eq_true rfl⟩) ⟨ny_blind, va_recv hK hPc (ci := 3) (q0 := 0) rfl rfl, ny_pre hPc hK hN hDc⟩ rfl rfl hl.1 rfl (lv_room (Nat.le_of_ble_eq_true rfl)) dX3_readLast_32 ⟨Nat.le_of_ble_eq_true rfl, Nat.le_of_ble_eq_true rfl⟩) hS (fun q _ h => hFc q h) hFc (fun r8 u t H locs ht hvm hw hB hz1 hk1 hS => ?_)
        obtain ⟨fo_5, fa_6, cu_7, hp9, hP1, hD1⟩ := hB
        rw [ht] at hP1
        have hp9 : 0 ≤ cu_7.toInt ∧ cu_7.toInt ≤ 11 := hp9
        obtain ⟨hP, hD⟩ := va_join (wr := [(ar, .inl (cI, 6, .inl f))]) (w1 := [(h0, .inr (3, [.ref sc, .ref dr, .int fo_5, .int fa_6, .int cu_7])), (sc, .inr (4, [.ref tp, .int ct, .ref s2, .ref s3, .ref s4, .int nx])), (s2, .inl (cI, 12, .inl fk)), (s3, .inl (cI, 12, .inl fp)), (s4, .inl (cI, 12, .inl fv))]) hP hD [0, 1, 2, 3, 4] [5] rfl rfl (by decide) (by decide) hk1 hFc hP1 hD1
        have hP : va_P D vwCl [(ar, .inl (cI, 6, .inl f)), (h0, .inr (3, [.ref sc, .ref dr, .int fo_5, .int fa_6, .int cu_7])), (sc, .inr (4, [.ref tp, .int ct, .ref s2, .ref s3, .ref s4, .int nx])), (s2, .inl (cI, 12, .inl fk)), (s3, .inl (cI, 12, .inl fp)), (s4, .inl (cI, 12, .inl fv))] H := hP
        have hD : va_D A [(ar, .inl (cI, 6, .inl f)), (h0, .inr (3, [.ref sc, .ref dr, .int fo_5, .int fa_6, .int cu_7])), (sc, .inr (4, [.ref tp, .int ct, .ref s2, .ref s3, .ref s4, .int nx])), (s2, .inl (cI, 12, .inl fk)), (s3, .inl (cI, 12, .inl fp)), (s4, .inl (cI, 12, .inl fv))] := hD
        have hr8 : r8.toInt = 0 ∨ (0 ≤ r8.toInt ∧ r8.toInt ≤ 999) := hw
        refine va_iast hx hb hK hP hD hS 0 0 rfl rfl (vp_in_iff.mpr ⟨show 0 ≤ i.toInt by omega, show i.toInt < ((6 : Nat) : Int) by omega⟩) dX3_readLast_35 (fun H locs hP hD hS => ?_)
        have hP : va_P D vwCl [(ar, .inl (cI, 6, .inl (upd f i.toNatClampNeg r8))), (h0, .inr (3, [.ref sc, .ref dr, .int fo_5, .int fa_6, .int cu_7])), (sc, .inr (4, [.ref tp, .int ct, .ref s2, .ref s3, .ref s4, .int nx])), (s2, .inl (cI, 12, .inl fk)), (s3, .inl (cI, 12, .inl fp)), (s4, .inl (cI, 12, .inl fv))] H := hP
        have hD : va_D A [(ar, .inl (cI, 6, .inl (upd f i.toNatClampNeg r8))), (h0, .inr (3, [.ref sc, .ref dr, .int fo_5, .int fa_6, .int cu_7])), (sc, .inr (4, [.ref tp, .int ct, .ref s2, .ref s3, .ref s4, .int nx])), (s2, .inl (cI, 12, .inl fk)), (s3, .inl (cI, 12, .inl fp)), (s4, .inl (cI, 12, .inl fv))] := hD
        obtain ⟨f10, ef10⟩ : ∃ z : Nat → Int32, z = (upd f i.toNatClampNeg r8) := ⟨_, rfl⟩
        rw [← ef10] at hP hD
        have hgf10 : ∀ k : Nat, k < 6 → (f10 k).toInt = (-1000) ∨ (0 ≤ (f10 k).toInt ∧ (f10 k).toInt ≤ 999) := by rw [ef10]; exact fun k hk => upd_all (P := fun z => z.toInt = (-1000) ∨ (0 ≤ z.toInt ∧ z.toInt ≤ 999)) hf9 (show r8.toInt = (-1000) ∨ (0 ≤ r8.toInt ∧ r8.toInt ≤ 999) by omega) k hk
        refine lv_aload_n hx hb dX3_readLast_36 rfl (lv_at hl 1 rfl) ?_
        refine lv_iload_n hx hb dX3_readLast_37 rfl (lv_at hl 2 rfl) ?_
        refine va_iald hx hb hK hP 0 0 rfl rfl (vp_in_iff.mpr ⟨show 0 ≤ i.toInt by omega, show i.toInt < ((6 : Nat) : Int) by omega⟩) dX3_readLast_38 ?_
        refine lv_topi (fun v11 ev11 => ?_)
        have tv11 : v11.toInt = (-1000) ∨ (0 ≤ v11.toInt ∧ v11.toInt ≤ 999) := by rw [ev11]; exact hgf10 _ (ck_lt (show 0 ≤ i.toInt by omega) (show i.toInt < ((6 : Nat) : Int) by omega))
        have hP9 := hP.sub (ws' := [(h0, .inr (3, [.ref sc, .ref dr, .int fo_5, .int fa_6, .int cu_7])), (sc, .inr (4, [.ref tp, .int ct, .ref s2, .ref s3, .ref s4, .int nx])), (s2, .inl (cI, 12, .inl fk)), (s3, .inl (cI, 12, .inl fp)), (s4, .inl (cI, 12, .inl fv)), (ar, .inl (cI, 6, .inl f10))]) [1, 2, 3, 4, 5, 0] rfl
        have hD9 := hD.sub (ws' := [(h0, .inr (3, [.ref sc, .ref dr, .int fo_5, .int fa_6, .int cu_7])), (sc, .inr (4, [.ref tp, .int ct, .ref s2, .ref s3, .ref s4, .int nx])), (s2, .inl (cI, 12, .inl fk)), (s3, .inl (cI, 12, .inl fp)), (s4, .inl (cI, 12, .inl fv)), (ar, .inl (cI, 6, .inl f10))]) [1, 2, 3, 4, 5, 0] (by decide) rfl
        refine W.widen (k := 0) (n := 0) (by decide) (by decide) ?_
        exact W.iret (v := v11) hx hb hr (fun t ht hW => ⟨⟨v11, (), rfl, (trivial), fo_5, fa_6, cu_7, f10, (show 0 ≤ cu_7.toInt ∧ cu_7.toInt ≤ 11 by first | assumption | omega | decide), (by assumption), by rw [ht]; exact hP9, hD9⟩, hS.F ht⟩) hS.2.2 dX3_readLast_39
      · have tc4 : ¬ (v3.toInt = (-1000)) := i32_neq c4
        refine lv_aload_n hx hb dX3_readLast_21 rfl (lv_at hl 0 rfl) ?_
        refine lv_iconst (v := 4) hx hb dX3_readLast_22 (by decide) ?_
        have hPc := hP.sub (ws' := [(h0, .inr (3, [.ref sc, .ref dr, .int fo, .int fa, .int cu])), (sc, .inr (4, [.ref tp, .int ct, .ref s2, .ref s3, .ref s4, .int nx])), (s3, .inl (cI, 12, .inl fp))]) [0, 1, 3] rfl
        have hDc := hD.sub (ws' := [(h0, .inr (3, [.ref sc, .ref dr, .int fo, .int fa, .int cu])), (sc, .inr (4, [.ref tp, .int ct, .ref s2, .ref s3, .ref s4, .int nx])), (s3, .inl (cI, 12, .inl fp))]) [0, 1, 3] (by decide) rfl
        have hFc := va_free (wc := [(h0, .inr (3, [.ref sc, .ref dr, .int fo, .int fa, .int cu])), (sc, .inr (4, [.ref tp, .int ct, .ref s2, .ref s3, .ref s4, .int nx])), (s3, .inl (cI, 12, .inl fp))]) hD hS hA [0, 1, 3] rfl
        refine va_callv (va_runV (As := [.int 4]) (rest := []) ⟨hx, hb, hml, hown, hts⟩ (k_refuse l D cI cB cP s.heap.size h0 sc dr fo fa cu tp s2 s3 s4 ct nx 4 fp (show 0 ≤ cu.toInt ∧ cu.toInt ≤ 11 by first | assumption | omega | decide) (show 0 ≤ ct.toInt ∧ ct.toInt ≤ 12 by first | assumption | omega | decide)) (cwV 1 hts gw_k_readLast_climb_1 rfl rfl rfl (by decide +kernel) ⟨Nat.le_of_ble_eq_true rfl, Nat.le_of_ble_eq_true rfl⟩) ⟨ny_blind, va_recv hK hPc (ci := 3) (q0 := 0) rfl rfl, ny_pre hPc hK hN hDc⟩ rfl rfl hl.1 rfl (lv_room (Nat.le_of_ble_eq_true rfl)) dX3_readLast_23 ⟨Nat.le_of_ble_eq_true rfl, Nat.le_of_ble_eq_true rfl⟩) hS (fun q _ h => hFc q h) hFc (fun u t H locs ht hvm hw hB hz1 hk1 hS => ?_)
        obtain ⟨fo_12, fa_13, hP1, hD1⟩ := hB
        rw [ht] at hP1
        obtain ⟨hP, hD⟩ := va_join (wr := [(s2, .inl (cI, 12, .inl fk)), (s4, .inl (cI, 12, .inl fv)), (ar, .inl (cI, 6, .inl f))]) (w1 := [(h0, .inr (3, [.ref sc, .ref dr, .int fo_12, .int fa_13, .int cu])), (sc, .inr (4, [.ref tp, .int ct, .ref s2, .ref s3, .ref s4, .int nx])), (s3, .inl (cI, 12, .inl fp))]) hP hD [0, 1, 3] [2, 4, 5] rfl rfl (by decide) (by decide) hk1 hFc hP1 hD1
        have hP : va_P D vwCl [(s2, .inl (cI, 12, .inl fk)), (s4, .inl (cI, 12, .inl fv)), (ar, .inl (cI, 6, .inl f)), (h0, .inr (3, [.ref sc, .ref dr, .int fo_12, .int fa_13, .int cu])), (sc, .inr (4, [.ref tp, .int ct, .ref s2, .ref s3, .ref s4, .int nx])), (s3, .inl (cI, 12, .inl fp))] H := hP
        have hD : va_D A [(s2, .inl (cI, 12, .inl fk)), (s4, .inl (cI, 12, .inl fv)), (ar, .inl (cI, 6, .inl f)), (h0, .inr (3, [.ref sc, .ref dr, .int fo_12, .int fa_13, .int cu])), (sc, .inr (4, [.ref tp, .int ct, .ref s2, .ref s3, .ref s4, .int nx])), (s3, .inl (cI, 12, .inl fp))] := hD
        refine lv_aload_n hx hb dX3_readLast_26 rfl (lv_at hl 1 rfl) ?_
        refine lv_iload_n hx hb dX3_readLast_27 rfl (lv_at hl 2 rfl) ?_
        refine lv_aload_n hx hb dX3_readLast_28 rfl (lv_at hl 0 rfl) ?_
        refine lv_iload_n hx hb dX3_readLast_29 rfl (lv_at hl 3 rfl) ?_
        refine lv_iload hx hb dX3_readLast_30 (lv_at hl 4 rfl) ?_
        have hPc := hP.sub (ws' := [(h0, .inr (3, [.ref sc, .ref dr, .int fo_12, .int fa_13, .int cu])), (sc, .inr (4, [.ref tp, .int ct, .ref s2, .ref s3, .ref s4, .int nx])), (s2, .inl (cI, 12, .inl fk)), (s3, .inl (cI, 12, .inl fp)), (s4, .inl (cI, 12, .inl fv))]) [3, 4, 0, 5, 1] rfl
        have hDc := hD.sub (ws' := [(h0, .inr (3, [.ref sc, .ref dr, .int fo_12, .int fa_13, .int cu])), (sc, .inr (4, [.ref tp, .int ct, .ref s2, .ref s3, .ref s4, .int nx])), (s2, .inl (cI, 12, .inl fk)), (s3, .inl (cI, 12, .inl fp)), (s4, .inl (cI, 12, .inl fv))]) [3, 4, 0, 5, 1] (by decide) rfl
        have hFc := va_free (wc := [(h0, .inr (3, [.ref sc, .ref dr, .int fo_12, .int fa_13, .int cu])), (sc, .inr (4, [.ref tp, .int ct, .ref s2, .ref s3, .ref s4, .int nx])), (s2, .inl (cI, 12, .inl fk)), (s3, .inl (cI, 12, .inl fp)), (s4, .inl (cI, 12, .inl fv))]) hD hS hA [3, 4, 0, 5, 1] rfl
        refine va_calli (va_runV (As := [.int 0, .int 999]) (rest := [.int i, .ref ar]) ⟨hx, hb, hml, hown, hts⟩ (k_number l D cI cB cP H.size h0 sc dr fo_12 fa_13 cu tp s2 s3 s4 ct nx 0 999 fk fp fv (show 0 ≤ cu.toInt ∧ cu.toInt ≤ 11 by first | assumption | omega | decide) (show 0 ≤ ct.toInt ∧ ct.toInt ≤ 12 by first | assumption | omega | decide)) (cwV 2 hts gw_k_readLast_climb_0 rfl rfl rfl (by decide +kernel) ⟨Nat.le_of_ble_eq_true rfl, Nat.le_of_ble_eq_true rfl⟩) ⟨ny_blind, va_recv hK hPc (ci := 3) (q0 := 0) rfl rfl, ny_pre hPc hK hN hDc⟩ rfl rfl hl.1 rfl (lv_room (Nat.le_of_ble_eq_true rfl)) dX3_readLast_32 ⟨Nat.le_of_ble_eq_true rfl, Nat.le_of_ble_eq_true rfl⟩) hS (fun q _ h => hFc q h) hFc (fun r18 u t H locs ht hvm hw hB hz1 hk1 hS => ?_)
        obtain ⟨fo_15, fa_16, cu_17, hp19, hP1, hD1⟩ := hB
        rw [ht] at hP1
        have hp19 : 0 ≤ cu_17.toInt ∧ cu_17.toInt ≤ 11 := hp19
        obtain ⟨hP, hD⟩ := va_join (wr := [(ar, .inl (cI, 6, .inl f))]) (w1 := [(h0, .inr (3, [.ref sc, .ref dr, .int fo_15, .int fa_16, .int cu_17])), (sc, .inr (4, [.ref tp, .int ct, .ref s2, .ref s3, .ref s4, .int nx])), (s2, .inl (cI, 12, .inl fk)), (s3, .inl (cI, 12, .inl fp)), (s4, .inl (cI, 12, .inl fv))]) hP hD [3, 4, 0, 5, 1] [2] rfl rfl (by decide) (by decide) hk1 hFc hP1 hD1
        have hP : va_P D vwCl [(ar, .inl (cI, 6, .inl f)), (h0, .inr (3, [.ref sc, .ref dr, .int fo_15, .int fa_16, .int cu_17])), (sc, .inr (4, [.ref tp, .int ct, .ref s2, .ref s3, .ref s4, .int nx])), (s2, .inl (cI, 12, .inl fk)), (s3, .inl (cI, 12, .inl fp)), (s4, .inl (cI, 12, .inl fv))] H := hP
        have hD : va_D A [(ar, .inl (cI, 6, .inl f)), (h0, .inr (3, [.ref sc, .ref dr, .int fo_15, .int fa_16, .int cu_17])), (sc, .inr (4, [.ref tp, .int ct, .ref s2, .ref s3, .ref s4, .int nx])), (s2, .inl (cI, 12, .inl fk)), (s3, .inl (cI, 12, .inl fp)), (s4, .inl (cI, 12, .inl fv))] := hD
        have hr18 : r18.toInt = 0 ∨ (0 ≤ r18.toInt ∧ r18.toInt ≤ 999) := hw
        refine va_iast hx hb hK hP hD hS 0 0 rfl rfl (vp_in_iff.mpr ⟨show 0 ≤ i.toInt by omega, show i.toInt < ((6 : Nat) : Int) by omega⟩) dX3_readLast_35 (fun H locs hP hD hS => ?_)
        have hP : va_P D vwCl [(ar, .inl (cI, 6, .inl (upd f i.toNatClampNeg r18))), (h0, .inr (3, [.ref sc, .ref dr, .int fo_15, .int fa_16, .int cu_17])), (sc, .inr (4, [.ref tp, .int ct, .ref s2, .ref s3, .ref s4, .int nx])), (s2, .inl (cI, 12, .inl fk)), (s3, .inl (cI, 12, .inl fp)), (s4, .inl (cI, 12, .inl fv))] H := hP
        have hD : va_D A [(ar, .inl (cI, 6, .inl (upd f i.toNatClampNeg r18))), (h0, .inr (3, [.ref sc, .ref dr, .int fo_15, .int fa_16, .int cu_17])), (sc, .inr (4, [.ref tp, .int ct, .ref s2, .ref s3, .ref s4, .int nx])), (s2, .inl (cI, 12, .inl fk)), (s3, .inl (cI, 12, .inl fp)), (s4, .inl (cI, 12, .inl fv))] := hD
        obtain ⟨f20, ef20⟩ : ∃ z : Nat → Int32, z = (upd f i.toNatClampNeg r18) := ⟨_, rfl⟩
        rw [← ef20] at hP hD
        have hgf20 : ∀ k : Nat, k < 6 → (f20 k).toInt = (-1000) ∨ (0 ≤ (f20 k).toInt ∧ (f20 k).toInt ≤ 999) := by rw [ef20]; exact fun k hk => upd_all (P := fun z => z.toInt = (-1000) ∨ (0 ≤ z.toInt ∧ z.toInt ≤ 999)) hf9 (show r18.toInt = (-1000) ∨ (0 ≤ r18.toInt ∧ r18.toInt ≤ 999) by omega) k hk
        refine lv_aload_n hx hb dX3_readLast_36 rfl (lv_at hl 1 rfl) ?_
        refine lv_iload_n hx hb dX3_readLast_37 rfl (lv_at hl 2 rfl) ?_
        refine va_iald hx hb hK hP 0 0 rfl rfl (vp_in_iff.mpr ⟨show 0 ≤ i.toInt by omega, show i.toInt < ((6 : Nat) : Int) by omega⟩) dX3_readLast_38 ?_
        refine lv_topi (fun v21 ev21 => ?_)
        have tv21 : v21.toInt = (-1000) ∨ (0 ≤ v21.toInt ∧ v21.toInt ≤ 999) := by rw [ev21]; exact hgf20 _ (ck_lt (show 0 ≤ i.toInt by omega) (show i.toInt < ((6 : Nat) : Int) by omega))
        have hP9 := hP.sub (ws' := [(h0, .inr (3, [.ref sc, .ref dr, .int fo_15, .int fa_16, .int cu_17])), (sc, .inr (4, [.ref tp, .int ct, .ref s2, .ref s3, .ref s4, .int nx])), (s2, .inl (cI, 12, .inl fk)), (s3, .inl (cI, 12, .inl fp)), (s4, .inl (cI, 12, .inl fv)), (ar, .inl (cI, 6, .inl f20))]) [1, 2, 3, 4, 5, 0] rfl
        have hD9 := hD.sub (ws' := [(h0, .inr (3, [.ref sc, .ref dr, .int fo_15, .int fa_16, .int cu_17])), (sc, .inr (4, [.ref tp, .int ct, .ref s2, .ref s3, .ref s4, .int nx])), (s2, .inl (cI, 12, .inl fk)), (s3, .inl (cI, 12, .inl fp)), (s4, .inl (cI, 12, .inl fv)), (ar, .inl (cI, 6, .inl f20))]) [1, 2, 3, 4, 5, 0] (by decide) rfl
        refine W.widen (k := 0) (n := 0) (by decide) (by decide) ?_
        exact W.iret (v := v21) hx hb hr (fun t ht hW => ⟨⟨v21, (), rfl, (trivial), fo_15, fa_16, cu_17, f20, (show 0 ≤ cu_17.toInt ∧ cu_17.toInt ≤ 11 by first | assumption | omega | decide), (by assumption), by rw [ht]; exact hP9, hD9⟩, hS.F ht⟩) hS.2.2 dX3_readLast_39
    · have tc2 : ¬ (i.toInt < 6) := i32_nlt c2
      refine lv_iload_n hx hb dX3_readLast_10 rfl (lv_at hl 3 rfl) ?_
      have hP9 := hP.sub (ws' := [(h0, .inr (3, [.ref sc, .ref dr, .int fo, .int fa, .int cu])), (sc, .inr (4, [.ref tp, .int ct, .ref s2, .ref s3, .ref s4, .int nx])), (s2, .inl (cI, 12, .inl fk)), (s3, .inl (cI, 12, .inl fp)), (s4, .inl (cI, 12, .inl fv)), (ar, .inl (cI, 6, .inl f))]) [0, 1, 2, 3, 4, 5] rfl
      have hD9 := hD.sub (ws' := [(h0, .inr (3, [.ref sc, .ref dr, .int fo, .int fa, .int cu])), (sc, .inr (4, [.ref tp, .int ct, .ref s2, .ref s3, .ref s4, .int nx])), (s2, .inl (cI, 12, .inl fk)), (s3, .inl (cI, 12, .inl fp)), (s4, .inl (cI, 12, .inl fv)), (ar, .inl (cI, 6, .inl f))]) [0, 1, 2, 3, 4, 5] (by decide) rfl
      refine W.widen (k := 0) (n := 0) (by decide) (by decide) ?_
      exact W.iret (v := 0) hx hb hr (fun t ht hW => ⟨⟨0, (), rfl, (trivial), fo, fa, cu, f, (show 0 ≤ cu.toInt ∧ cu.toInt ≤ 11 by first | assumption | omega | decide), (by assumption), by rw [ht]; exact hP9, hD9⟩, hS.F ht⟩) hS.2.2 dX3_readLast_11

def wk_k_readLast_limit : List Cond := .code yX3_readLast cX3_readLast 5 (some .int) :: ([.methodLink RX3 75 yX3_number, .instanceMethod yX3_number, .selects RX3 yX3_number yX3_number, .initialized RX3, .code yX3_number cX3_number 4 (some .int), .methodLink RX3 132 yX3_nextToken, .instanceMethod yX3_nextToken, .selects RX3 yX3_nextToken yX3_nextToken, .code yX3_nextToken cX3_nextToken 1 none, .fieldLink RX3 27 "FlightDesk$Reader" "found" "I", .fieldLink RX3 43 "FlightDesk$Reader" "current" "I", .fieldLink RX3 14 "FlightDesk$Reader" "scanner" "LFlightDesk$Scanner;", .fieldLink RX3 170 "FlightDesk$Scanner" "count" "I", .fieldLink RX3 46 "FlightDesk$Scanner" "kind" "[I", .fieldLink RX3 167 "FlightDesk$Scanner" "value" "[I", .methodLink RX3 117 yX3_refuse, .instanceMethod yX3_refuse, .selects RX3 yX3_refuse yX3_refuse, .code yX3_refuse cX3_refuse 2 none, .fieldLink RX3 173 "FlightDesk$Scanner" "place" "[I", .fieldLink RX3 31 "FlightDesk$Reader" "foundAt" "I", .methodLink RX3 59 yX3_refuseToken, .instanceMethod yX3_refuseToken, .selects RX3 yX3_refuseToken yX3_refuseToken, .code yX3_refuseToken cX3_refuseToken 1 none] ++ wsX30 ++ wsX40)
theorem iw_k_readLast_limit_3 : ∀ w ∈ wsX30, w ∈ wk_k_readLast_limit := fun _ h => List.mem_cons_of_mem _ (List.mem_append_left _ (List.mem_append_right _ h))
theorem iw_k_readLast_limit_4 : ∀ w ∈ wsX40, w ∈ wk_k_readLast_limit := fun _ h => List.mem_cons_of_mem _ (List.mem_append_right _ h)
set_option maxRecDepth 20000 in
theorem gw_k_readLast_limit_0 : GoodIn wk_k_readLast_limit (wsV RX3 75 RX3 yX3_number wk_k_number) := goodIn_sub (by decide +kernel) (by decide +kernel)
set_option maxRecDepth 20000 in
theorem gw_k_readLast_limit_1 : GoodIn wk_k_readLast_limit (wsV RX3 117 RX3 yX3_refuse wk_k_refuse) := goodIn_sub (by decide +kernel) (by decide +kernel)
set_option maxHeartbeats 4000000 in
set_option maxRecDepth 100000 in
theorem k_readLast_limit (l : Launch) (D : va_G) (cI cB cP : ClassId) (sz : Nat) (h0 : Nat) (sc : Nat) (dr : Nat) (fo : Int32) (fa : Int32) (cu : Int32) (tp : Nat) (s2 : Nat) (s3 : Nat) (s4 : Nat) (ct : Int32) (nx : Int32) (fk : Nat → Int32) (fp : Nat → Int32) (fv : Nat → Int32) (ar : Nat) (i : Int32) (f : Nat → Int32) (hc9 : 0 ≤ cu.toInt ∧ cu.toInt ≤ 11) (ht9 : 0 ≤ ct.toInt ∧ ct.toInt ≤ 12) (hf9 : ∀ k : Nat, k < 4 → (f k).toInt = (-1000) ∨ (0 ≤ (f k).toInt ∧ (f k).toInt ≤ 60000)) : Met l yX3_readLast wk_k_readLast_limit ({ frames := 3, cells := 0, slots := 0, locals := 64 } : Room) (va_Pc [.ref h0, .ref ar, .int i, .int 0, .int 60000] (Pw D cI cB cP sz [(h0, .inr (3, [.ref sc, .ref dr, .int fo, .int fa, .int cu])), (sc, .inr (4, [.ref tp, .int ct, .ref s2, .ref s3, .ref s4, .int nx])), (s2, .inl (cI, 12, .inl fk)), (s3, .inl (cI, 12, .inl fp)), (s4, .inl (cI, 12, .inl fv)), (ar, .inl (cI, 4, .inl f))])) (va_Qi (fun (r : Int32) (_ : Unit) => True) (fun _ t => ∃ fo9 : Int32, ∃ fa9 : Int32, ∃ cu9 : Int32, ∃ g : Nat → Int32, (0 ≤ cu9.toInt ∧ cu9.toInt ≤ 11) ∧ (∀ k : Nat, k < 4 → (g k).toInt = (-1000) ∨ (0 ≤ (g k).toInt ∧ (g k).toInt ≤ 60000)) ∧ va_P D vwCl [(h0, .inr (3, [.ref sc, .ref dr, .int fo9, .int fa9, .int cu9])), (sc, .inr (4, [.ref tp, .int ct, .ref s2, .ref s3, .ref s4, .int nx])), (s2, .inl (cI, 12, .inl fk)), (s3, .inl (cI, 12, .inl fp)), (s4, .inl (cI, 12, .inl fv)), (ar, .inl (cI, 4, .inl g))] t.heap ∧ va_D (va_A [(h0, .inr (3, [.ref sc, .ref dr, .int fo, .int fa, .int cu])), (sc, .inr (4, [.ref tp, .int ct, .ref s2, .ref s3, .ref s4, .int nx])), (s2, .inl (cI, 12, .inl fk)), (s3, .inl (cI, 12, .inl fp)), (s4, .inl (cI, 12, .inl fv)), (ar, .inl (cI, 4, .inl f))] sz) [(h0, .inr (3, [.ref sc, .ref dr, .int fo9, .int fa9, .int cu9])), (sc, .inr (4, [.ref tp, .int ct, .ref s2, .ref s3, .ref s4, .int nx])), (s2, .inl (cI, 12, .inl fk)), (s3, .inl (cI, 12, .inl fp)), (s4, .inl (cI, 12, .inl fv)), (ar, .inl (cI, 4, .inl g))]) (va_A [(h0, .inr (3, [.ref sc, .ref dr, .int fo, .int fa, .int cu])), (sc, .inr (4, [.ref tp, .int ct, .ref s2, .ref s3, .ref s4, .int nx])), (s2, .inl (cI, 12, .inl fk)), (s3, .inl (cI, 12, .inl fp)), (s4, .inl (cI, 12, .inl fv)), (ar, .inl (cI, 4, .inl f))] sz)) 0 0 (va_A [(h0, .inr (3, [.ref sc, .ref dr, .int fo, .int fa, .int cu])), (sc, .inr (4, [.ref tp, .int ct, .ref s2, .ref s3, .ref s4, .int nx])), (s2, .inl (cI, 12, .inl fk)), (s3, .inl (cI, 12, .inl fp)), (s4, .inl (cI, 12, .inl fv)), (ar, .inl (cI, 4, .inl f))] sz) := by
  refine Met.ofW (cc := cX3_readLast) (maxL := 5) (ret := (some .int)) (by decide) rfl ?_
  intro p e s m args below meth c s₁ B hml hv
  obtain ⟨rfl, hsz, hP, ⟨hK, hN⟩, hD0⟩ := hv
  have hx := B.exec
  have hb := B.bytes
  have hr := B.returns
  have hts := atoms_spec (ws := wk_k_readLast_limit) B.pre
  have hown : s.vm.findClass RX3 = some m.cls := findClass_of_methodNamed B.named
  have hlocks := B.notSynchronized
  subst hsz
  have hD := hD0.self (sz := s.heap.size)
  generalize hAe : va_A [(h0, .inr (3, [.ref sc, .ref dr, .int fo, .int fa, .int cu])), (sc, .inr (4, [.ref tp, .int ct, .ref s2, .ref s3, .ref s4, .int nx])), (s2, .inl (cI, 12, .inl fk)), (s3, .inl (cI, 12, .inl fp)), (s4, .inl (cI, 12, .inl fv)), (ar, .inl (cI, 4, .inl f))] s.heap.size = A at hD ⊢
  have hA : ∀ q : Nat, s.heap.size ≤ q → A q := fun q h => by rw [← hAe]; exact Or.inr h
  have hS : va_S A s.heap s.heap [] := va_S.rf
  have hP : va_P D vwCl [(h0, .inr (3, [.ref sc, .ref dr, .int fo, .int fa, .int cu])), (sc, .inr (4, [.ref tp, .int ct, .ref s2, .ref s3, .ref s4, .int nx])), (s2, .inl (cI, 12, .inl fk)), (s3, .inl (cI, 12, .inl fp)), (s4, .inl (cI, 12, .inl fv)), (ar, .inl (cI, 4, .inl f))] s.heap := hP
  have hl := lv_entry ([.ref h0, .ref ar, .int i, .int 0, .int 60000]) (n := 5) (Nat.le_of_ble_eq_true rfl)
  rw [lg_entry_eq]
  generalize (lg_sl ([.ref h0, .ref ar, .int i, .int 0, .int 60000]) ++ List.replicate (5 - (lg_sl ([.ref h0, .ref ar, .int i, .int 0, .int 60000])).length) Slot.unset).toArray = ls at hl ⊢
  have hl : lv_has ls 5 [(0, .ref h0), (1, .ref ar), (2, .int i), (3, .int 0), (4, .int 60000)] := hl
  refine lv_iload_n hx hb dX3_readLast_0 rfl (lv_at hl 2 rfl) ?_
  refine lv_if_lt (tgt := 10) hx hb dX3_readLast_1 (by decide) (fun c1 => ?_) (fun c1 => ?_)
  · have tc1 : i.toInt < 0 := i32_lt c1
    refine lv_iload_n hx hb dX3_readLast_10 rfl (lv_at hl 3 rfl) ?_
    have hP9 := hP.sub (ws' := [(h0, .inr (3, [.ref sc, .ref dr, .int fo, .int fa, .int cu])), (sc, .inr (4, [.ref tp, .int ct, .ref s2, .ref s3, .ref s4, .int nx])), (s2, .inl (cI, 12, .inl fk)), (s3, .inl (cI, 12, .inl fp)), (s4, .inl (cI, 12, .inl fv)), (ar, .inl (cI, 4, .inl f))]) [0, 1, 2, 3, 4, 5] rfl
    have hD9 := hD.sub (ws' := [(h0, .inr (3, [.ref sc, .ref dr, .int fo, .int fa, .int cu])), (sc, .inr (4, [.ref tp, .int ct, .ref s2, .ref s3, .ref s4, .int nx])), (s2, .inl (cI, 12, .inl fk)), (s3, .inl (cI, 12, .inl fp)), (s4, .inl (cI, 12, .inl fv)), (ar, .inl (cI, 4, .inl f))]) [0, 1, 2, 3, 4, 5] (by decide) rfl
    refine W.widen (k := 0) (n := 0) (by decide) (by decide) ?_
    exact W.iret (v := 0) hx hb hr (fun t ht hW => ⟨⟨0, (), rfl, (trivial), fo, fa, cu, f, (show 0 ≤ cu.toInt ∧ cu.toInt ≤ 11 by first | assumption | omega | decide), (by assumption), by rw [ht]; exact hP9, hD9⟩, hS.F ht⟩) hS.2.2 dX3_readLast_11
  · have tc1 : ¬ (i.toInt < 0) := i32_nlt c1
    refine lv_iload_n hx hb dX3_readLast_4 rfl (lv_at hl 2 rfl) ?_
    refine lv_aload_n hx hb dX3_readLast_5 rfl (lv_at hl 1 rfl) ?_
    refine va_alen (v := 4) hx hb hK hP 5 0 rfl rfl rfl dX3_readLast_6 ?_
    refine lv_icmp_lt (tgt := 12) hx hb dX3_readLast_7 (by decide) (fun c2 => ?_) (fun c2 => ?_)
    · have tc2 : i.toInt < 4 := i32_lt c2
      refine lv_aload_n hx hb dX3_readLast_12 rfl (lv_at hl 1 rfl) ?_
      refine lv_iload_n hx hb dX3_readLast_13 rfl (lv_at hl 2 rfl) ?_
      refine va_iald hx hb hK hP 5 0 rfl rfl (vp_in_iff.mpr ⟨show 0 ≤ i.toInt by omega, show i.toInt < ((4 : Nat) : Int) by omega⟩) dX3_readLast_14 ?_
      refine lv_topi (fun v3 ev3 => ?_)
      have tv3 : v3.toInt = (-1000) ∨ (0 ≤ v3.toInt ∧ v3.toInt ≤ 60000) := by rw [ev3]; exact hf9 _ (ck_lt (show 0 ≤ i.toInt by omega) (show i.toInt < ((4 : Nat) : Int) by omega))
      refine lv_sipush (v := (-1000)) hx hb dX3_readLast_15 (by decide) ?_
      refine lv_icmp_eq (tgt := 26) hx hb dX3_readLast_18 (by decide) (fun c4 => ?_) (fun c4 => ?_)
      · have tc4 : v3.toInt = (-1000) := i32_eq c4
        refine lv_aload_n hx hb dX3_readLast_26 rfl (lv_at hl 1 rfl) ?_
        refine lv_iload_n hx hb dX3_readLast_27 rfl (lv_at hl 2 rfl) ?_
        refine lv_aload_n hx hb dX3_readLast_28 rfl (lv_at hl 0 rfl) ?_
        refine lv_iload_n hx hb dX3_readLast_29 rfl (lv_at hl 3 rfl) ?_
        refine lv_iload hx hb dX3_readLast_30 (lv_at hl 4 rfl) ?_
        have hPc := hP.sub (ws' := [(h0, .inr (3, [.ref sc, .ref dr, .int fo, .int fa, .int cu])), (sc, .inr (4, [.ref tp, .int ct, .ref s2, .ref s3, .ref s4, .int nx])), (s2, .inl (cI, 12, .inl fk)), (s3, .inl (cI, 12, .inl fp)), (s4, .inl (cI, 12, .inl fv))]) [0, 1, 2, 3, 4] rfl
        have hDc := hD.sub (ws' := [(h0, .inr (3, [.ref sc, .ref dr, .int fo, .int fa, .int cu])), (sc, .inr (4, [.ref tp, .int ct, .ref s2, .ref s3, .ref s4, .int nx])), (s2, .inl (cI, 12, .inl fk)), (s3, .inl (cI, 12, .inl fp)), (s4, .inl (cI, 12, .inl fv))]) [0, 1, 2, 3, 4] (by decide) rfl
        have hFc := va_free (wc := [(h0, .inr (3, [.ref sc, .ref dr, .int fo, .int fa, .int cu])), (sc, .inr (4, [.ref tp, .int ct, .ref s2, .ref s3, .ref s4, .int nx])), (s2, .inl (cI, 12, .inl fk)), (s3, .inl (cI, 12, .inl fp)), (s4, .inl (cI, 12, .inl fv))]) hD hS hA [0, 1, 2, 3, 4] rfl
        refine va_calli (va_runV (As := [.int 0, .int 60000]) (rest := [.int i, .ref ar]) ⟨hx, hb, hml, hown, hts⟩ (k_number l D cI cB cP s.heap.size h0 sc dr fo fa cu tp s2 s3 s4 ct nx 0 60000 fk fp fv (show 0 ≤ cu.toInt ∧ cu.toInt ≤ 11 by first | assumption | omega | decide) (show 0 ≤ ct.toInt ∧ ct.toInt ≤ 12 by first | assumption | omega | decide)) (cwV 2 hts gw_k_readLast_limit_0 rfl rfl rfl (by decide +kernel) ⟨Nat.le_of_ble_eq_true rfl, Nat.le_of_ble_eq_true rfl⟩) ⟨ny_blind, va_recv hK hPc (ci := 3) (q0 := 0) rfl rfl, ny_pre hPc hK hN hDc⟩ rfl rfl hl.1 rfl (lv_room (Nat.le_of_ble_eq_true rfl)) dX3_readLast_32 ⟨Nat.le_of_ble_eq_true rfl, Nat.le_of_ble_eq_true rfl⟩) hS (fun q _ h => hFc q h) hFc (fun r8 u t H locs ht hvm hw hB hz1 hk1 hS => ?_)
        obtain ⟨fo_5, fa_6, cu_7, hp9, hP1, hD1⟩ := hB
        rw [ht] at hP1
        have hp9 : 0 ≤ cu_7.toInt ∧ cu_7.toInt ≤ 11 := hp9
        obtain ⟨hP, hD⟩ := va_join (wr := [(ar, .inl (cI, 4, .inl f))]) (w1 := [(h0, .inr (3, [.ref sc, .ref dr, .int fo_5, .int fa_6, .int cu_7])), (sc, .inr (4, [.ref tp, .int ct, .ref s2, .ref s3, .ref s4, .int nx])), (s2, .inl (cI, 12, .inl fk)), (s3, .inl (cI, 12, .inl fp)), (s4, .inl (cI, 12, .inl fv))]) hP hD [0, 1, 2, 3, 4] [5] rfl rfl (by decide) (by decide) hk1 hFc hP1 hD1
        have hP : va_P D vwCl [(ar, .inl (cI, 4, .inl f)), (h0, .inr (3, [.ref sc, .ref dr, .int fo_5, .int fa_6, .int cu_7])), (sc, .inr (4, [.ref tp, .int ct, .ref s2, .ref s3, .ref s4, .int nx])), (s2, .inl (cI, 12, .inl fk)), (s3, .inl (cI, 12, .inl fp)), (s4, .inl (cI, 12, .inl fv))] H := hP
        have hD : va_D A [(ar, .inl (cI, 4, .inl f)), (h0, .inr (3, [.ref sc, .ref dr, .int fo_5, .int fa_6, .int cu_7])), (sc, .inr (4, [.ref tp, .int ct, .ref s2, .ref s3, .ref s4, .int nx])), (s2, .inl (cI, 12, .inl fk)), (s3, .inl (cI, 12, .inl fp)), (s4, .inl (cI, 12, .inl fv))] := hD
        have hr8 : r8.toInt = 0 ∨ (0 ≤ r8.toInt ∧ r8.toInt ≤ 60000) := hw
        refine va_iast hx hb hK hP hD hS 0 0 rfl rfl (vp_in_iff.mpr ⟨show 0 ≤ i.toInt by omega, show i.toInt < ((4 : Nat) : Int) by omega⟩) dX3_readLast_35 (fun H locs hP hD hS => ?_)
        have hP : va_P D vwCl [(ar, .inl (cI, 4, .inl (upd f i.toNatClampNeg r8))), (h0, .inr (3, [.ref sc, .ref dr, .int fo_5, .int fa_6, .int cu_7])), (sc, .inr (4, [.ref tp, .int ct, .ref s2, .ref s3, .ref s4, .int nx])), (s2, .inl (cI, 12, .inl fk)), (s3, .inl (cI, 12, .inl fp)), (s4, .inl (cI, 12, .inl fv))] H := hP
        have hD : va_D A [(ar, .inl (cI, 4, .inl (upd f i.toNatClampNeg r8))), (h0, .inr (3, [.ref sc, .ref dr, .int fo_5, .int fa_6, .int cu_7])), (sc, .inr (4, [.ref tp, .int ct, .ref s2, .ref s3, .ref s4, .int nx])), (s2, .inl (cI, 12, .inl fk)), (s3, .inl (cI, 12, .inl fp)), (s4, .inl (cI, 12, .inl fv))] := hD
        obtain ⟨f10, ef10⟩ : ∃ z : Nat → Int32, z = (upd f i.toNatClampNeg r8) := ⟨_, rfl⟩
        rw [← ef10] at hP hD
        have hgf10 : ∀ k : Nat, k < 4 → (f10 k).toInt = (-1000) ∨ (0 ≤ (f10 k).toInt ∧ (f10 k).toInt ≤ 60000) := by rw [ef10]; exact fun k hk => upd_all (P := fun z => z.toInt = (-1000) ∨ (0 ≤ z.toInt ∧ z.toInt ≤ 60000)) hf9 (show r8.toInt = (-1000) ∨ (0 ≤ r8.toInt ∧ r8.toInt ≤ 60000) by omega) k hk
        refine lv_aload_n hx hb dX3_readLast_36 rfl (lv_at hl 1 rfl) ?_
        refine lv_iload_n hx hb dX3_readLast_37 rfl (lv_at hl 2 rfl) ?_
        refine va_iald hx hb hK hP 0 0 rfl rfl (vp_in_iff.mpr ⟨show 0 ≤ i.toInt by omega, show i.toInt < ((4 : Nat) : Int) by omega⟩) dX3_readLast_38 ?_
        refine lv_topi (fun v11 ev11 => ?_)
        have tv11 : v11.toInt = (-1000) ∨ (0 ≤ v11.toInt ∧ v11.toInt ≤ 60000) := by rw [ev11]; exact hgf10 _ (ck_lt (show 0 ≤ i.toInt by omega) (show i.toInt < ((4 : Nat) : Int) by omega))
        have hP9 := hP.sub (ws' := [(h0, .inr (3, [.ref sc, .ref dr, .int fo_5, .int fa_6, .int cu_7])), (sc, .inr (4, [.ref tp, .int ct, .ref s2, .ref s3, .ref s4, .int nx])), (s2, .inl (cI, 12, .inl fk)), (s3, .inl (cI, 12, .inl fp)), (s4, .inl (cI, 12, .inl fv)), (ar, .inl (cI, 4, .inl f10))]) [1, 2, 3, 4, 5, 0] rfl
        have hD9 := hD.sub (ws' := [(h0, .inr (3, [.ref sc, .ref dr, .int fo_5, .int fa_6, .int cu_7])), (sc, .inr (4, [.ref tp, .int ct, .ref s2, .ref s3, .ref s4, .int nx])), (s2, .inl (cI, 12, .inl fk)), (s3, .inl (cI, 12, .inl fp)), (s4, .inl (cI, 12, .inl fv)), (ar, .inl (cI, 4, .inl f10))]) [1, 2, 3, 4, 5, 0] (by decide) rfl
        refine W.widen (k := 0) (n := 0) (by decide) (by decide) ?_
        exact W.iret (v := v11) hx hb hr (fun t ht hW => ⟨⟨v11, (), rfl, (trivial), fo_5, fa_6, cu_7, f10, (show 0 ≤ cu_7.toInt ∧ cu_7.toInt ≤ 11 by first | assumption | omega | decide), (by assumption), by rw [ht]; exact hP9, hD9⟩, hS.F ht⟩) hS.2.2 dX3_readLast_39
      · have tc4 : ¬ (v3.toInt = (-1000)) := i32_neq c4
        refine lv_aload_n hx hb dX3_readLast_21 rfl (lv_at hl 0 rfl) ?_
        refine lv_iconst (v := 4) hx hb dX3_readLast_22 (by decide) ?_
        have hPc := hP.sub (ws' := [(h0, .inr (3, [.ref sc, .ref dr, .int fo, .int fa, .int cu])), (sc, .inr (4, [.ref tp, .int ct, .ref s2, .ref s3, .ref s4, .int nx])), (s3, .inl (cI, 12, .inl fp))]) [0, 1, 3] rfl
        have hDc := hD.sub (ws' := [(h0, .inr (3, [.ref sc, .ref dr, .int fo, .int fa, .int cu])), (sc, .inr (4, [.ref tp, .int ct, .ref s2, .ref s3, .ref s4, .int nx])), (s3, .inl (cI, 12, .inl fp))]) [0, 1, 3] (by decide) rfl
        have hFc := va_free (wc := [(h0, .inr (3, [.ref sc, .ref dr, .int fo, .int fa, .int cu])), (sc, .inr (4, [.ref tp, .int ct, .ref s2, .ref s3, .ref s4, .int nx])), (s3, .inl (cI, 12, .inl fp))]) hD hS hA [0, 1, 3] rfl
        refine va_callv (va_runV (As := [.int 4]) (rest := []) ⟨hx, hb, hml, hown, hts⟩ (k_refuse l D cI cB cP s.heap.size h0 sc dr fo fa cu tp s2 s3 s4 ct nx 4 fp (show 0 ≤ cu.toInt ∧ cu.toInt ≤ 11 by first | assumption | omega | decide) (show 0 ≤ ct.toInt ∧ ct.toInt ≤ 12 by first | assumption | omega | decide)) (cwV 1 hts gw_k_readLast_limit_1 rfl rfl rfl (by decide +kernel) ⟨Nat.le_of_ble_eq_true rfl, Nat.le_of_ble_eq_true rfl⟩) ⟨ny_blind, va_recv hK hPc (ci := 3) (q0 := 0) rfl rfl, ny_pre hPc hK hN hDc⟩ rfl rfl hl.1 rfl (lv_room (Nat.le_of_ble_eq_true rfl)) dX3_readLast_23 ⟨Nat.le_of_ble_eq_true rfl, Nat.le_of_ble_eq_true rfl⟩) hS (fun q _ h => hFc q h) hFc (fun u t H locs ht hvm hw hB hz1 hk1 hS => ?_)
        obtain ⟨fo_12, fa_13, hP1, hD1⟩ := hB
        rw [ht] at hP1
        obtain ⟨hP, hD⟩ := va_join (wr := [(s2, .inl (cI, 12, .inl fk)), (s4, .inl (cI, 12, .inl fv)), (ar, .inl (cI, 4, .inl f))]) (w1 := [(h0, .inr (3, [.ref sc, .ref dr, .int fo_12, .int fa_13, .int cu])), (sc, .inr (4, [.ref tp, .int ct, .ref s2, .ref s3, .ref s4, .int nx])), (s3, .inl (cI, 12, .inl fp))]) hP hD [0, 1, 3] [2, 4, 5] rfl rfl (by decide) (by decide) hk1 hFc hP1 hD1
        have hP : va_P D vwCl [(s2, .inl (cI, 12, .inl fk)), (s4, .inl (cI, 12, .inl fv)), (ar, .inl (cI, 4, .inl f)), (h0, .inr (3, [.ref sc, .ref dr, .int fo_12, .int fa_13, .int cu])), (sc, .inr (4, [.ref tp, .int ct, .ref s2, .ref s3, .ref s4, .int nx])), (s3, .inl (cI, 12, .inl fp))] H := hP
        have hD : va_D A [(s2, .inl (cI, 12, .inl fk)), (s4, .inl (cI, 12, .inl fv)), (ar, .inl (cI, 4, .inl f)), (h0, .inr (3, [.ref sc, .ref dr, .int fo_12, .int fa_13, .int cu])), (sc, .inr (4, [.ref tp, .int ct, .ref s2, .ref s3, .ref s4, .int nx])), (s3, .inl (cI, 12, .inl fp))] := hD
        refine lv_aload_n hx hb dX3_readLast_26 rfl (lv_at hl 1 rfl) ?_
        refine lv_iload_n hx hb dX3_readLast_27 rfl (lv_at hl 2 rfl) ?_
        refine lv_aload_n hx hb dX3_readLast_28 rfl (lv_at hl 0 rfl) ?_
        refine lv_iload_n hx hb dX3_readLast_29 rfl (lv_at hl 3 rfl) ?_
        refine lv_iload hx hb dX3_readLast_30 (lv_at hl 4 rfl) ?_
        have hPc := hP.sub (ws' := [(h0, .inr (3, [.ref sc, .ref dr, .int fo_12, .int fa_13, .int cu])), (sc, .inr (4, [.ref tp, .int ct, .ref s2, .ref s3, .ref s4, .int nx])), (s2, .inl (cI, 12, .inl fk)), (s3, .inl (cI, 12, .inl fp)), (s4, .inl (cI, 12, .inl fv))]) [3, 4, 0, 5, 1] rfl
        have hDc := hD.sub (ws' := [(h0, .inr (3, [.ref sc, .ref dr, .int fo_12, .int fa_13, .int cu])), (sc, .inr (4, [.ref tp, .int ct, .ref s2, .ref s3, .ref s4, .int nx])), (s2, .inl (cI, 12, .inl fk)), (s3, .inl (cI, 12, .inl fp)), (s4, .inl (cI, 12, .inl fv))]) [3, 4, 0, 5, 1] (by decide) rfl
        have hFc := va_free (wc := [(h0, .inr (3, [.ref sc, .ref dr, .int fo_12, .int fa_13, .int cu])), (sc, .inr (4, [.ref tp, .int ct, .ref s2, .ref s3, .ref s4, .int nx])), (s2, .inl (cI, 12, .inl fk)), (s3, .inl (cI, 12, .inl fp)), (s4, .inl (cI, 12, .inl fv))]) hD hS hA [3, 4, 0, 5, 1] rfl
        refine va_calli (va_runV (As := [.int 0, .int 60000]) (rest := [.int i, .ref ar]) ⟨hx, hb, hml, hown, hts⟩ (k_number l D cI cB cP H.size h0 sc dr fo_12 fa_13 cu tp s2 s3 s4 ct nx 0 60000 fk fp fv (show 0 ≤ cu.toInt ∧ cu.toInt ≤ 11 by first | assumption | omega | decide) (show 0 ≤ ct.toInt ∧ ct.toInt ≤ 12 by first | assumption | omega | decide)) (cwV 2 hts gw_k_readLast_limit_0 rfl rfl rfl (by decide +kernel) ⟨Nat.le_of_ble_eq_true rfl, Nat.le_of_ble_eq_true rfl⟩) ⟨ny_blind, va_recv hK hPc (ci := 3) (q0 := 0) rfl rfl, ny_pre hPc hK hN hDc⟩ rfl rfl hl.1 rfl (lv_room (Nat.le_of_ble_eq_true rfl)) dX3_readLast_32 ⟨Nat.le_of_ble_eq_true rfl, Nat.le_of_ble_eq_true rfl⟩) hS (fun q _ h => hFc q h) hFc (fun r18 u t H locs ht hvm hw hB hz1 hk1 hS => ?_)
        obtain ⟨fo_15, fa_16, cu_17, hp19, hP1, hD1⟩ := hB
        rw [ht] at hP1
        have hp19 : 0 ≤ cu_17.toInt ∧ cu_17.toInt ≤ 11 := hp19
        obtain ⟨hP, hD⟩ := va_join (wr := [(ar, .inl (cI, 4, .inl f))]) (w1 := [(h0, .inr (3, [.ref sc, .ref dr, .int fo_15, .int fa_16, .int cu_17])), (sc, .inr (4, [.ref tp, .int ct, .ref s2, .ref s3, .ref s4, .int nx])), (s2, .inl (cI, 12, .inl fk)), (s3, .inl (cI, 12, .inl fp)), (s4, .inl (cI, 12, .inl fv))]) hP hD [3, 4, 0, 5, 1] [2] rfl rfl (by decide) (by decide) hk1 hFc hP1 hD1
        have hP : va_P D vwCl [(ar, .inl (cI, 4, .inl f)), (h0, .inr (3, [.ref sc, .ref dr, .int fo_15, .int fa_16, .int cu_17])), (sc, .inr (4, [.ref tp, .int ct, .ref s2, .ref s3, .ref s4, .int nx])), (s2, .inl (cI, 12, .inl fk)), (s3, .inl (cI, 12, .inl fp)), (s4, .inl (cI, 12, .inl fv))] H := hP
        have hD : va_D A [(ar, .inl (cI, 4, .inl f)), (h0, .inr (3, [.ref sc, .ref dr, .int fo_15, .int fa_16, .int cu_17])), (sc, .inr (4, [.ref tp, .int ct, .ref s2, .ref s3, .ref s4, .int nx])), (s2, .inl (cI, 12, .inl fk)), (s3, .inl (cI, 12, .inl fp)), (s4, .inl (cI, 12, .inl fv))] := hD
        have hr18 : r18.toInt = 0 ∨ (0 ≤ r18.toInt ∧ r18.toInt ≤ 60000) := hw
        refine va_iast hx hb hK hP hD hS 0 0 rfl rfl (vp_in_iff.mpr ⟨show 0 ≤ i.toInt by omega, show i.toInt < ((4 : Nat) : Int) by omega⟩) dX3_readLast_35 (fun H locs hP hD hS => ?_)
        have hP : va_P D vwCl [(ar, .inl (cI, 4, .inl (upd f i.toNatClampNeg r18))), (h0, .inr (3, [.ref sc, .ref dr, .int fo_15, .int fa_16, .int cu_17])), (sc, .inr (4, [.ref tp, .int ct, .ref s2, .ref s3, .ref s4, .int nx])), (s2, .inl (cI, 12, .inl fk)), (s3, .inl (cI, 12, .inl fp)), (s4, .inl (cI, 12, .inl fv))] H := hP
        have hD : va_D A [(ar, .inl (cI, 4, .inl (upd f i.toNatClampNeg r18))), (h0, .inr (3, [.ref sc, .ref dr, .int fo_15, .int fa_16, .int cu_17])), (sc, .inr (4, [.ref tp, .int ct, .ref s2, .ref s3, .ref s4, .int nx])), (s2, .inl (cI, 12, .inl fk)), (s3, .inl (cI, 12, .inl fp)), (s4, .inl (cI, 12, .inl fv))] := hD
        obtain ⟨f20, ef20⟩ : ∃ z : Nat → Int32, z = (upd f i.toNatClampNeg r18) := ⟨_, rfl⟩
        rw [← ef20] at hP hD
        have hgf20 : ∀ k : Nat, k < 4 → (f20 k).toInt = (-1000) ∨ (0 ≤ (f20 k).toInt ∧ (f20 k).toInt ≤ 60000) := by rw [ef20]; exact fun k hk => upd_all (P := fun z => z.toInt = (-1000) ∨ (0 ≤ z.toInt ∧ z.toInt ≤ 60000)) hf9 (show r18.toInt = (-1000) ∨ (0 ≤ r18.toInt ∧ r18.toInt ≤ 60000) by omega) k hk
        refine lv_aload_n hx hb dX3_readLast_36 rfl (lv_at hl 1 rfl) ?_
        refine lv_iload_n hx hb dX3_readLast_37 rfl (lv_at hl 2 rfl) ?_
        refine va_iald hx hb hK hP 0 0 rfl rfl (vp_in_iff.mpr ⟨show 0 ≤ i.toInt by omega, show i.toInt < ((4 : Nat) : Int) by omega⟩) dX3_readLast_38 ?_
        refine lv_topi (fun v21 ev21 => ?_)
        have tv21 : v21.toInt = (-1000) ∨ (0 ≤ v21.toInt ∧ v21.toInt ≤ 60000) := by rw [ev21]; exact hgf20 _ (ck_lt (show 0 ≤ i.toInt by omega) (show i.toInt < ((4 : Nat) : Int) by omega))
        have hP9 := hP.sub (ws' := [(h0, .inr (3, [.ref sc, .ref dr, .int fo_15, .int fa_16, .int cu_17])), (sc, .inr (4, [.ref tp, .int ct, .ref s2, .ref s3, .ref s4, .int nx])), (s2, .inl (cI, 12, .inl fk)), (s3, .inl (cI, 12, .inl fp)), (s4, .inl (cI, 12, .inl fv)), (ar, .inl (cI, 4, .inl f20))]) [1, 2, 3, 4, 5, 0] rfl
        have hD9 := hD.sub (ws' := [(h0, .inr (3, [.ref sc, .ref dr, .int fo_15, .int fa_16, .int cu_17])), (sc, .inr (4, [.ref tp, .int ct, .ref s2, .ref s3, .ref s4, .int nx])), (s2, .inl (cI, 12, .inl fk)), (s3, .inl (cI, 12, .inl fp)), (s4, .inl (cI, 12, .inl fv)), (ar, .inl (cI, 4, .inl f20))]) [1, 2, 3, 4, 5, 0] (by decide) rfl
        refine W.widen (k := 0) (n := 0) (by decide) (by decide) ?_
        exact W.iret (v := v21) hx hb hr (fun t ht hW => ⟨⟨v21, (), rfl, (trivial), fo_15, fa_16, cu_17, f20, (show 0 ≤ cu_17.toInt ∧ cu_17.toInt ≤ 11 by first | assumption | omega | decide), (by assumption), by rw [ht]; exact hP9, hD9⟩, hS.F ht⟩) hS.2.2 dX3_readLast_39
    · have tc2 : ¬ (i.toInt < 4) := i32_nlt c2
      refine lv_iload_n hx hb dX3_readLast_10 rfl (lv_at hl 3 rfl) ?_
      have hP9 := hP.sub (ws' := [(h0, .inr (3, [.ref sc, .ref dr, .int fo, .int fa, .int cu])), (sc, .inr (4, [.ref tp, .int ct, .ref s2, .ref s3, .ref s4, .int nx])), (s2, .inl (cI, 12, .inl fk)), (s3, .inl (cI, 12, .inl fp)), (s4, .inl (cI, 12, .inl fv)), (ar, .inl (cI, 4, .inl f))]) [0, 1, 2, 3, 4, 5] rfl
      have hD9 := hD.sub (ws' := [(h0, .inr (3, [.ref sc, .ref dr, .int fo, .int fa, .int cu])), (sc, .inr (4, [.ref tp, .int ct, .ref s2, .ref s3, .ref s4, .int nx])), (s2, .inl (cI, 12, .inl fk)), (s3, .inl (cI, 12, .inl fp)), (s4, .inl (cI, 12, .inl fv)), (ar, .inl (cI, 4, .inl f))]) [0, 1, 2, 3, 4, 5] (by decide) rfl
      refine W.widen (k := 0) (n := 0) (by decide) (by decide) ?_
      exact W.iret (v := 0) hx hb hr (fun t ht hW => ⟨⟨0, (), rfl, (trivial), fo, fa, cu, f, (show 0 ≤ cu.toInt ∧ cu.toInt ≤ 11 by first | assumption | omega | decide), (by assumption), by rw [ht]; exact hP9, hD9⟩, hS.F ht⟩) hS.2.2 dX3_readLast_11

def wk_k_readLast_wind : List Cond := .code yX3_readLast cX3_readLast 5 (some .int) :: ([.methodLink RX3 75 yX3_number, .instanceMethod yX3_number, .selects RX3 yX3_number yX3_number, .initialized RX3, .code yX3_number cX3_number 4 (some .int), .methodLink RX3 132 yX3_nextToken, .instanceMethod yX3_nextToken, .selects RX3 yX3_nextToken yX3_nextToken, .code yX3_nextToken cX3_nextToken 1 none, .fieldLink RX3 27 "FlightDesk$Reader" "found" "I", .fieldLink RX3 43 "FlightDesk$Reader" "current" "I", .fieldLink RX3 14 "FlightDesk$Reader" "scanner" "LFlightDesk$Scanner;", .fieldLink RX3 170 "FlightDesk$Scanner" "count" "I", .fieldLink RX3 46 "FlightDesk$Scanner" "kind" "[I", .fieldLink RX3 167 "FlightDesk$Scanner" "value" "[I", .methodLink RX3 117 yX3_refuse, .instanceMethod yX3_refuse, .selects RX3 yX3_refuse yX3_refuse, .code yX3_refuse cX3_refuse 2 none, .fieldLink RX3 173 "FlightDesk$Scanner" "place" "[I", .fieldLink RX3 31 "FlightDesk$Reader" "foundAt" "I", .methodLink RX3 59 yX3_refuseToken, .instanceMethod yX3_refuseToken, .selects RX3 yX3_refuseToken yX3_refuseToken, .code yX3_refuseToken cX3_refuseToken 1 none] ++ wsX30 ++ wsX40)
theorem iw_k_readLast_wind_3 : ∀ w ∈ wsX30, w ∈ wk_k_readLast_wind := fun _ h => List.mem_cons_of_mem _ (List.mem_append_left _ (List.mem_append_right _ h))
theorem iw_k_readLast_wind_4 : ∀ w ∈ wsX40, w ∈ wk_k_readLast_wind := fun _ h => List.mem_cons_of_mem _ (List.mem_append_right _ h)
set_option maxRecDepth 20000 in
theorem gw_k_readLast_wind_0 : GoodIn wk_k_readLast_wind (wsV RX3 75 RX3 yX3_number wk_k_number) := goodIn_sub (by decide +kernel) (by decide +kernel)
set_option maxRecDepth 20000 in
theorem gw_k_readLast_wind_1 : GoodIn wk_k_readLast_wind (wsV RX3 117 RX3 yX3_refuse wk_k_refuse) := goodIn_sub (by decide +kernel) (by decide +kernel)
set_option maxHeartbeats 4000000 in
set_option maxRecDepth 100000 in
theorem k_readLast_wind (l : Launch) (D : va_G) (cI cB cP : ClassId) (sz : Nat) (h0 : Nat) (sc : Nat) (dr : Nat) (fo : Int32) (fa : Int32) (cu : Int32) (tp : Nat) (s2 : Nat) (s3 : Nat) (s4 : Nat) (ct : Int32) (nx : Int32) (fk : Nat → Int32) (fp : Nat → Int32) (fv : Nat → Int32) (ar : Nat) (i : Int32) (f : Nat → Int32) (hc9 : 0 ≤ cu.toInt ∧ cu.toInt ≤ 11) (ht9 : 0 ≤ ct.toInt ∧ ct.toInt ≤ 12) (hf9 : ∀ k : Nat, k < 288 → (f k).toInt = (-1000) ∨ ((-400) ≤ (f k).toInt ∧ (f k).toInt ≤ 400)) : Met l yX3_readLast wk_k_readLast_wind ({ frames := 3, cells := 0, slots := 0, locals := 64 } : Room) (va_Pc [.ref h0, .ref ar, .int i, .int (-400), .int 400] (Pw D cI cB cP sz [(h0, .inr (3, [.ref sc, .ref dr, .int fo, .int fa, .int cu])), (sc, .inr (4, [.ref tp, .int ct, .ref s2, .ref s3, .ref s4, .int nx])), (s2, .inl (cI, 12, .inl fk)), (s3, .inl (cI, 12, .inl fp)), (s4, .inl (cI, 12, .inl fv)), (ar, .inl (cI, 288, .inl f))])) (va_Qi (fun (r : Int32) (_ : Unit) => True) (fun _ t => ∃ fo9 : Int32, ∃ fa9 : Int32, ∃ cu9 : Int32, ∃ g : Nat → Int32, (0 ≤ cu9.toInt ∧ cu9.toInt ≤ 11) ∧ (∀ k : Nat, k < 288 → (g k).toInt = (-1000) ∨ ((-400) ≤ (g k).toInt ∧ (g k).toInt ≤ 400)) ∧ va_P D vwCl [(h0, .inr (3, [.ref sc, .ref dr, .int fo9, .int fa9, .int cu9])), (sc, .inr (4, [.ref tp, .int ct, .ref s2, .ref s3, .ref s4, .int nx])), (s2, .inl (cI, 12, .inl fk)), (s3, .inl (cI, 12, .inl fp)), (s4, .inl (cI, 12, .inl fv)), (ar, .inl (cI, 288, .inl g))] t.heap ∧ va_D (va_A [(h0, .inr (3, [.ref sc, .ref dr, .int fo, .int fa, .int cu])), (sc, .inr (4, [.ref tp, .int ct, .ref s2, .ref s3, .ref s4, .int nx])), (s2, .inl (cI, 12, .inl fk)), (s3, .inl (cI, 12, .inl fp)), (s4, .inl (cI, 12, .inl fv)), (ar, .inl (cI, 288, .inl f))] sz) [(h0, .inr (3, [.ref sc, .ref dr, .int fo9, .int fa9, .int cu9])), (sc, .inr (4, [.ref tp, .int ct, .ref s2, .ref s3, .ref s4, .int nx])), (s2, .inl (cI, 12, .inl fk)), (s3, .inl (cI, 12, .inl fp)), (s4, .inl (cI, 12, .inl fv)), (ar, .inl (cI, 288, .inl g))]) (va_A [(h0, .inr (3, [.ref sc, .ref dr, .int fo, .int fa, .int cu])), (sc, .inr (4, [.ref tp, .int ct, .ref s2, .ref s3, .ref s4, .int nx])), (s2, .inl (cI, 12, .inl fk)), (s3, .inl (cI, 12, .inl fp)), (s4, .inl (cI, 12, .inl fv)), (ar, .inl (cI, 288, .inl f))] sz)) 0 0 (va_A [(h0, .inr (3, [.ref sc, .ref dr, .int fo, .int fa, .int cu])), (sc, .inr (4, [.ref tp, .int ct, .ref s2, .ref s3, .ref s4, .int nx])), (s2, .inl (cI, 12, .inl fk)), (s3, .inl (cI, 12, .inl fp)), (s4, .inl (cI, 12, .inl fv)), (ar, .inl (cI, 288, .inl f))] sz) := by
  refine Met.ofW (cc := cX3_readLast) (maxL := 5) (ret := (some .int)) (by decide) rfl ?_
  intro p e s m args below meth c s₁ B hml hv
  obtain ⟨rfl, hsz, hP, ⟨hK, hN⟩, hD0⟩ := hv
  have hx := B.exec
  have hb := B.bytes
  have hr := B.returns
  have hts := atoms_spec (ws := wk_k_readLast_wind) B.pre
  have hown : s.vm.findClass RX3 = some m.cls := findClass_of_methodNamed B.named
  have hlocks := B.notSynchronized
  subst hsz
  have hD := hD0.self (sz := s.heap.size)
  generalize hAe : va_A [(h0, .inr (3, [.ref sc, .ref dr, .int fo, .int fa, .int cu])), (sc, .inr (4, [.ref tp, .int ct, .ref s2, .ref s3, .ref s4, .int nx])), (s2, .inl (cI, 12, .inl fk)), (s3, .inl (cI, 12, .inl fp)), (s4, .inl (cI, 12, .inl fv)), (ar, .inl (cI, 288, .inl f))] s.heap.size = A at hD ⊢
  have hA : ∀ q : Nat, s.heap.size ≤ q → A q := fun q h => by rw [← hAe]; exact Or.inr h
  have hS : va_S A s.heap s.heap [] := va_S.rf
  have hP : va_P D vwCl [(h0, .inr (3, [.ref sc, .ref dr, .int fo, .int fa, .int cu])), (sc, .inr (4, [.ref tp, .int ct, .ref s2, .ref s3, .ref s4, .int nx])), (s2, .inl (cI, 12, .inl fk)), (s3, .inl (cI, 12, .inl fp)), (s4, .inl (cI, 12, .inl fv)), (ar, .inl (cI, 288, .inl f))] s.heap := hP
  have hl := lv_entry ([.ref h0, .ref ar, .int i, .int (-400), .int 400]) (n := 5) (Nat.le_of_ble_eq_true rfl)
  rw [lg_entry_eq]
  generalize (lg_sl ([.ref h0, .ref ar, .int i, .int (-400), .int 400]) ++ List.replicate (5 - (lg_sl ([.ref h0, .ref ar, .int i, .int (-400), .int 400])).length) Slot.unset).toArray = ls at hl ⊢
  have hl : lv_has ls 5 [(0, .ref h0), (1, .ref ar), (2, .int i), (3, .int (-400)), (4, .int 400)] := hl
  refine lv_iload_n hx hb dX3_readLast_0 rfl (lv_at hl 2 rfl) ?_
  refine lv_if_lt (tgt := 10) hx hb dX3_readLast_1 (by decide) (fun c1 => ?_) (fun c1 => ?_)
  · have tc1 : i.toInt < 0 := i32_lt c1
    refine lv_iload_n hx hb dX3_readLast_10 rfl (lv_at hl 3 rfl) ?_
    have hP9 := hP.sub (ws' := [(h0, .inr (3, [.ref sc, .ref dr, .int fo, .int fa, .int cu])), (sc, .inr (4, [.ref tp, .int ct, .ref s2, .ref s3, .ref s4, .int nx])), (s2, .inl (cI, 12, .inl fk)), (s3, .inl (cI, 12, .inl fp)), (s4, .inl (cI, 12, .inl fv)), (ar, .inl (cI, 288, .inl f))]) [0, 1, 2, 3, 4, 5] rfl
    have hD9 := hD.sub (ws' := [(h0, .inr (3, [.ref sc, .ref dr, .int fo, .int fa, .int cu])), (sc, .inr (4, [.ref tp, .int ct, .ref s2, .ref s3, .ref s4, .int nx])), (s2, .inl (cI, 12, .inl fk)), (s3, .inl (cI, 12, .inl fp)), (s4, .inl (cI, 12, .inl fv)), (ar, .inl (cI, 288, .inl f))]) [0, 1, 2, 3, 4, 5] (by decide) rfl
    refine W.widen (k := 0) (n := 0) (by decide) (by decide) ?_
    exact W.iret (v := (-400)) hx hb hr (fun t ht hW => ⟨⟨(-400), (), rfl, (trivial), fo, fa, cu, f, (show 0 ≤ cu.toInt ∧ cu.toInt ≤ 11 by first | assumption | omega | decide), (by assumption), by rw [ht]; exact hP9, hD9⟩, hS.F ht⟩) hS.2.2 dX3_readLast_11
  · have tc1 : ¬ (i.toInt < 0) := i32_nlt c1
    refine lv_iload_n hx hb dX3_readLast_4 rfl (lv_at hl 2 rfl) ?_
    refine lv_aload_n hx hb dX3_readLast_5 rfl (lv_at hl 1 rfl) ?_
    refine va_alen (v := 288) hx hb hK hP 5 0 rfl rfl rfl dX3_readLast_6 ?_
    refine lv_icmp_lt (tgt := 12) hx hb dX3_readLast_7 (by decide) (fun c2 => ?_) (fun c2 => ?_)
    · have tc2 : i.toInt < 288 := i32_lt c2
      refine lv_aload_n hx hb dX3_readLast_12 rfl (lv_at hl 1 rfl) ?_
      refine lv_iload_n hx hb dX3_readLast_13 rfl (lv_at hl 2 rfl) ?_
      refine va_iald hx hb hK hP 5 0 rfl rfl (vp_in_iff.mpr ⟨show 0 ≤ i.toInt by omega, show i.toInt < ((288 : Nat) : Int) by omega⟩) dX3_readLast_14 ?_
      refine lv_topi (fun v3 ev3 => ?_)
      have tv3 : v3.toInt = (-1000) ∨ ((-400) ≤ v3.toInt ∧ v3.toInt ≤ 400) := by rw [ev3]; exact hf9 _ (ck_lt (show 0 ≤ i.toInt by omega) (show i.toInt < ((288 : Nat) : Int) by omega))
      refine lv_sipush (v := (-1000)) hx hb dX3_readLast_15 (by decide) ?_
      refine lv_icmp_eq (tgt := 26) hx hb dX3_readLast_18 (by decide) (fun c4 => ?_) (fun c4 => ?_)
      · have tc4 : v3.toInt = (-1000) := i32_eq c4
        refine lv_aload_n hx hb dX3_readLast_26 rfl (lv_at hl 1 rfl) ?_
        refine lv_iload_n hx hb dX3_readLast_27 rfl (lv_at hl 2 rfl) ?_
        refine lv_aload_n hx hb dX3_readLast_28 rfl (lv_at hl 0 rfl) ?_
        refine lv_iload_n hx hb dX3_readLast_29 rfl (lv_at hl 3 rfl) ?_
        refine lv_iload hx hb dX3_readLast_30 (lv_at hl 4 rfl) ?_
        have hPc := hP.sub (ws' := [(h0, .inr (3, [.ref sc, .ref dr, .int fo, .int fa, .int cu])), (sc, .inr (4, [.ref tp, .int ct, .ref s2, .ref s3, .ref s4, .int nx])), (s2, .inl (cI, 12, .inl fk)), (s3, .inl (cI, 12, .inl fp)), (s4, .inl (cI, 12, .inl fv))]) [0, 1, 2, 3, 4] rfl
        have hDc := hD.sub (ws' := [(h0, .inr (3, [.ref sc, .ref dr, .int fo, .int fa, .int cu])), (sc, .inr (4, [.ref tp, .int ct, .ref s2, .ref s3, .ref s4, .int nx])), (s2, .inl (cI, 12, .inl fk)), (s3, .inl (cI, 12, .inl fp)), (s4, .inl (cI, 12, .inl fv))]) [0, 1, 2, 3, 4] (by decide) rfl
        have hFc := va_free (wc := [(h0, .inr (3, [.ref sc, .ref dr, .int fo, .int fa, .int cu])), (sc, .inr (4, [.ref tp, .int ct, .ref s2, .ref s3, .ref s4, .int nx])), (s2, .inl (cI, 12, .inl fk)), (s3, .inl (cI, 12, .inl fp)), (s4, .inl (cI, 12, .inl fv))]) hD hS hA [0, 1, 2, 3, 4] rfl
        refine va_calli (va_runV (As := [.int (-400), .int 400]) (rest := [.int i, .ref ar]) ⟨hx, hb, hml, hown, hts⟩ (k_number l D cI cB cP s.heap.size h0 sc dr fo fa cu tp s2 s3 s4 ct nx (-400) 400 fk fp fv (show 0 ≤ cu.toInt ∧ cu.toInt ≤ 11 by first | assumption | omega | decide) (show 0 ≤ ct.toInt ∧ ct.toInt ≤ 12 by first | assumption | omega | decide)) (cwV 2 hts gw_k_readLast_wind_0 rfl rfl rfl (by decide +kernel) ⟨Nat.le_of_ble_eq_true rfl, Nat.le_of_ble_eq_true rfl⟩) ⟨ny_blind, va_recv hK hPc (ci := 3) (q0 := 0) rfl rfl, ny_pre hPc hK hN hDc⟩ rfl rfl hl.1 rfl (lv_room (Nat.le_of_ble_eq_true rfl)) dX3_readLast_32 ⟨Nat.le_of_ble_eq_true rfl, Nat.le_of_ble_eq_true rfl⟩) hS (fun q _ h => hFc q h) hFc (fun r8 u t H locs ht hvm hw hB hz1 hk1 hS => ?_)
        obtain ⟨fo_5, fa_6, cu_7, hp9, hP1, hD1⟩ := hB
        rw [ht] at hP1
        have hp9 : 0 ≤ cu_7.toInt ∧ cu_7.toInt ≤ 11 := hp9
        obtain ⟨hP, hD⟩ := va_join (wr := [(ar, .inl (cI, 288, .inl f))]) (w1 := [(h0, .inr (3, [.ref sc, .ref dr, .int fo_5, .int fa_6, .int cu_7])), (sc, .inr (4, [.ref tp, .int ct, .ref s2, .ref s3, .ref s4, .int nx])), (s2, .inl (cI, 12, .inl fk)), (s3, .inl (cI, 12, .inl fp)), (s4, .inl (cI, 12, .inl fv))]) hP hD [0, 1, 2, 3, 4] [5] rfl rfl (by decide) (by decide) hk1 hFc hP1 hD1
        have hP : va_P D vwCl [(ar, .inl (cI, 288, .inl f)), (h0, .inr (3, [.ref sc, .ref dr, .int fo_5, .int fa_6, .int cu_7])), (sc, .inr (4, [.ref tp, .int ct, .ref s2, .ref s3, .ref s4, .int nx])), (s2, .inl (cI, 12, .inl fk)), (s3, .inl (cI, 12, .inl fp)), (s4, .inl (cI, 12, .inl fv))] H := hP
        have hD : va_D A [(ar, .inl (cI, 288, .inl f)), (h0, .inr (3, [.ref sc, .ref dr, .int fo_5, .int fa_6, .int cu_7])), (sc, .inr (4, [.ref tp, .int ct, .ref s2, .ref s3, .ref s4, .int nx])), (s2, .inl (cI, 12, .inl fk)), (s3, .inl (cI, 12, .inl fp)), (s4, .inl (cI, 12, .inl fv))] := hD
        have hr8 : r8.toInt = (-400) ∨ ((-400) ≤ r8.toInt ∧ r8.toInt ≤ 400) := hw
        refine va_iast hx hb hK hP hD hS 0 0 rfl rfl (vp_in_iff.mpr ⟨show 0 ≤ i.toInt by omega, show i.toInt < ((288 : Nat) : Int) by omega⟩) dX3_readLast_35 (fun H locs hP hD hS => ?_)
        have hP : va_P D vwCl [(ar, .inl (cI, 288, .inl (upd f i.toNatClampNeg r8))), (h0, .inr (3, [.ref sc, .ref dr, .int fo_5, .int fa_6, .int cu_7])), (sc, .inr (4, [.ref tp, .int ct, .ref s2, .ref s3, .ref s4, .int nx])), (s2, .inl (cI, 12, .inl fk)), (s3, .inl (cI, 12, .inl fp)), (s4, .inl (cI, 12, .inl fv))] H := hP
        have hD : va_D A [(ar, .inl (cI, 288, .inl (upd f i.toNatClampNeg r8))), (h0, .inr (3, [.ref sc, .ref dr, .int fo_5, .int fa_6, .int cu_7])), (sc, .inr (4, [.ref tp, .int ct, .ref s2, .ref s3, .ref s4, .int nx])), (s2, .inl (cI, 12, .inl fk)), (s3, .inl (cI, 12, .inl fp)), (s4, .inl (cI, 12, .inl fv))] := hD
        obtain ⟨f10, ef10⟩ : ∃ z : Nat → Int32, z = (upd f i.toNatClampNeg r8) := ⟨_, rfl⟩
        rw [← ef10] at hP hD
        have hgf10 : ∀ k : Nat, k < 288 → (f10 k).toInt = (-1000) ∨ ((-400) ≤ (f10 k).toInt ∧ (f10 k).toInt ≤ 400) := by rw [ef10]; exact fun k hk => upd_all (P := fun z => z.toInt = (-1000) ∨ ((-400) ≤ z.toInt ∧ z.toInt ≤ 400)) hf9 (show r8.toInt = (-1000) ∨ ((-400) ≤ r8.toInt ∧ r8.toInt ≤ 400) by omega) k hk
        refine lv_aload_n hx hb dX3_readLast_36 rfl (lv_at hl 1 rfl) ?_
        refine lv_iload_n hx hb dX3_readLast_37 rfl (lv_at hl 2 rfl) ?_
        refine va_iald hx hb hK hP 0 0 rfl rfl (vp_in_iff.mpr ⟨show 0 ≤ i.toInt by omega, show i.toInt < ((288 : Nat) : Int) by omega⟩) dX3_readLast_38 ?_
        refine lv_topi (fun v11 ev11 => ?_)
        have tv11 : v11.toInt = (-1000) ∨ ((-400) ≤ v11.toInt ∧ v11.toInt ≤ 400) := by rw [ev11]; exact hgf10 _ (ck_lt (show 0 ≤ i.toInt by omega) (show i.toInt < ((288 : Nat) : Int) by omega))
        have hP9 := hP.sub (ws' := [(h0, .inr (3, [.ref sc, .ref dr, .int fo_5, .int fa_6, .int cu_7])), (sc, .inr (4, [.ref tp, .int ct, .ref s2, .ref s3, .ref s4, .int nx])), (s2, .inl (cI, 12, .inl fk)), (s3, .inl (cI, 12, .inl fp)), (s4, .inl (cI, 12, .inl fv)), (ar, .inl (cI, 288, .inl f10))]) [1, 2, 3, 4, 5, 0] rfl
        have hD9 := hD.sub (ws' := [(h0, .inr (3, [.ref sc, .ref dr, .int fo_5, .int fa_6, .int cu_7])), (sc, .inr (4, [.ref tp, .int ct, .ref s2, .ref s3, .ref s4, .int nx])), (s2, .inl (cI, 12, .inl fk)), (s3, .inl (cI, 12, .inl fp)), (s4, .inl (cI, 12, .inl fv)), (ar, .inl (cI, 288, .inl f10))]) [1, 2, 3, 4, 5, 0] (by decide) rfl
        refine W.widen (k := 0) (n := 0) (by decide) (by decide) ?_
        exact W.iret (v := v11) hx hb hr (fun t ht hW => ⟨⟨v11, (), rfl, (trivial), fo_5, fa_6, cu_7, f10, (show 0 ≤ cu_7.toInt ∧ cu_7.toInt ≤ 11 by first | assumption | omega | decide), (by assumption), by rw [ht]; exact hP9, hD9⟩, hS.F ht⟩) hS.2.2 dX3_readLast_39
      · have tc4 : ¬ (v3.toInt = (-1000)) := i32_neq c4
        refine lv_aload_n hx hb dX3_readLast_21 rfl (lv_at hl 0 rfl) ?_
        refine lv_iconst (v := 4) hx hb dX3_readLast_22 (by decide) ?_
        have hPc := hP.sub (ws' := [(h0, .inr (3, [.ref sc, .ref dr, .int fo, .int fa, .int cu])), (sc, .inr (4, [.ref tp, .int ct, .ref s2, .ref s3, .ref s4, .int nx])), (s3, .inl (cI, 12, .inl fp))]) [0, 1, 3] rfl
        have hDc := hD.sub (ws' := [(h0, .inr (3, [.ref sc, .ref dr, .int fo, .int fa, .int cu])), (sc, .inr (4, [.ref tp, .int ct, .ref s2, .ref s3, .ref s4, .int nx])), (s3, .inl (cI, 12, .inl fp))]) [0, 1, 3] (by decide) rfl
        have hFc := va_free (wc := [(h0, .inr (3, [.ref sc, .ref dr, .int fo, .int fa, .int cu])), (sc, .inr (4, [.ref tp, .int ct, .ref s2, .ref s3, .ref s4, .int nx])), (s3, .inl (cI, 12, .inl fp))]) hD hS hA [0, 1, 3] rfl
        refine va_callv (va_runV (As := [.int 4]) (rest := []) ⟨hx, hb, hml, hown, hts⟩ (k_refuse l D cI cB cP s.heap.size h0 sc dr fo fa cu tp s2 s3 s4 ct nx 4 fp (show 0 ≤ cu.toInt ∧ cu.toInt ≤ 11 by first | assumption | omega | decide) (show 0 ≤ ct.toInt ∧ ct.toInt ≤ 12 by first | assumption | omega | decide)) (cwV 1 hts gw_k_readLast_wind_1 rfl rfl rfl (by decide +kernel) ⟨Nat.le_of_ble_eq_true rfl, Nat.le_of_ble_eq_true rfl⟩) ⟨ny_blind, va_recv hK hPc (ci := 3) (q0 := 0) rfl rfl, ny_pre hPc hK hN hDc⟩ rfl rfl hl.1 rfl (lv_room (Nat.le_of_ble_eq_true rfl)) dX3_readLast_23 ⟨Nat.le_of_ble_eq_true rfl, Nat.le_of_ble_eq_true rfl⟩) hS (fun q _ h => hFc q h) hFc (fun u t H locs ht hvm hw hB hz1 hk1 hS => ?_)
        obtain ⟨fo_12, fa_13, hP1, hD1⟩ := hB
        rw [ht] at hP1
        obtain ⟨hP, hD⟩ := va_join (wr := [(s2, .inl (cI, 12, .inl fk)), (s4, .inl (cI, 12, .inl fv)), (ar, .inl (cI, 288, .inl f))]) (w1 := [(h0, .inr (3, [.ref sc, .ref dr, .int fo_12, .int fa_13, .int cu])), (sc, .inr (4, [.ref tp, .int ct, .ref s2, .ref s3, .ref s4, .int nx])), (s3, .inl (cI, 12, .inl fp))]) hP hD [0, 1, 3] [2, 4, 5] rfl rfl (by decide) (by decide) hk1 hFc hP1 hD1
        have hP : va_P D vwCl [(s2, .inl (cI, 12, .inl fk)), (s4, .inl (cI, 12, .inl fv)), (ar, .inl (cI, 288, .inl f)), (h0, .inr (3, [.ref sc, .ref dr, .int fo_12, .int fa_13, .int cu])), (sc, .inr (4, [.ref tp, .int ct, .ref s2, .ref s3, .ref s4, .int nx])), (s3, .inl (cI, 12, .inl fp))] H := hP
        have hD : va_D A [(s2, .inl (cI, 12, .inl fk)), (s4, .inl (cI, 12, .inl fv)), (ar, .inl (cI, 288, .inl f)), (h0, .inr (3, [.ref sc, .ref dr, .int fo_12, .int fa_13, .int cu])), (sc, .inr (4, [.ref tp, .int ct, .ref s2, .ref s3, .ref s4, .int nx])), (s3, .inl (cI, 12, .inl fp))] := hD
        refine lv_aload_n hx hb dX3_readLast_26 rfl (lv_at hl 1 rfl) ?_
        refine lv_iload_n hx hb dX3_readLast_27 rfl (lv_at hl 2 rfl) ?_
        refine lv_aload_n hx hb dX3_readLast_28 rfl (lv_at hl 0 rfl) ?_
        refine lv_iload_n hx hb dX3_readLast_29 rfl (lv_at hl 3 rfl) ?_
        refine lv_iload hx hb dX3_readLast_30 (lv_at hl 4 rfl) ?_
        have hPc := hP.sub (ws' := [(h0, .inr (3, [.ref sc, .ref dr, .int fo_12, .int fa_13, .int cu])), (sc, .inr (4, [.ref tp, .int ct, .ref s2, .ref s3, .ref s4, .int nx])), (s2, .inl (cI, 12, .inl fk)), (s3, .inl (cI, 12, .inl fp)), (s4, .inl (cI, 12, .inl fv))]) [3, 4, 0, 5, 1] rfl
        have hDc := hD.sub (ws' := [(h0, .inr (3, [.ref sc, .ref dr, .int fo_12, .int fa_13, .int cu])), (sc, .inr (4, [.ref tp, .int ct, .ref s2, .ref s3, .ref s4, .int nx])), (s2, .inl (cI, 12, .inl fk)), (s3, .inl (cI, 12, .inl fp)), (s4, .inl (cI, 12, .inl fv))]) [3, 4, 0, 5, 1] (by decide) rfl
        have hFc := va_free (wc := [(h0, .inr (3, [.ref sc, .ref dr, .int fo_12, .int fa_13, .int cu])), (sc, .inr (4, [.ref tp, .int ct, .ref s2, .ref s3, .ref s4, .int nx])), (s2, .inl (cI, 12, .inl fk)), (s3, .inl (cI, 12, .inl fp)), (s4, .inl (cI, 12, .inl fv))]) hD hS hA [3, 4, 0, 5, 1] rfl
        refine va_calli (va_runV (As := [.int (-400), .int 400]) (rest := [.int i, .ref ar]) ⟨hx, hb, hml, hown, hts⟩ (k_number l D cI cB cP H.size h0 sc dr fo_12 fa_13 cu tp s2 s3 s4 ct nx (-400) 400 fk fp fv (show 0 ≤ cu.toInt ∧ cu.toInt ≤ 11 by first | assumption | omega | decide) (show 0 ≤ ct.toInt ∧ ct.toInt ≤ 12 by first | assumption | omega | decide)) (cwV 2 hts gw_k_readLast_wind_0 rfl rfl rfl (by decide +kernel) ⟨Nat.le_of_ble_eq_true rfl, Nat.le_of_ble_eq_true rfl⟩) ⟨ny_blind, va_recv hK hPc (ci := 3) (q0 := 0) rfl rfl, ny_pre hPc hK hN hDc⟩ rfl rfl hl.1 rfl (lv_room (Nat.le_of_ble_eq_true rfl)) dX3_readLast_32 ⟨Nat.le_of_ble_eq_true rfl, Nat.le_of_ble_eq_true rfl⟩) hS (fun q _ h => hFc q h) hFc (fun r18 u t H locs ht hvm hw hB hz1 hk1 hS => ?_)
        obtain ⟨fo_15, fa_16, cu_17, hp19, hP1, hD1⟩ := hB
        rw [ht] at hP1
        have hp19 : 0 ≤ cu_17.toInt ∧ cu_17.toInt ≤ 11 := hp19
        obtain ⟨hP, hD⟩ := va_join (wr := [(ar, .inl (cI, 288, .inl f))]) (w1 := [(h0, .inr (3, [.ref sc, .ref dr, .int fo_15, .int fa_16, .int cu_17])), (sc, .inr (4, [.ref tp, .int ct, .ref s2, .ref s3, .ref s4, .int nx])), (s2, .inl (cI, 12, .inl fk)), (s3, .inl (cI, 12, .inl fp)), (s4, .inl (cI, 12, .inl fv))]) hP hD [3, 4, 0, 5, 1] [2] rfl rfl (by decide) (by decide) hk1 hFc hP1 hD1
        have hP : va_P D vwCl [(ar, .inl (cI, 288, .inl f)), (h0, .inr (3, [.ref sc, .ref dr, .int fo_15, .int fa_16, .int cu_17])), (sc, .inr (4, [.ref tp, .int ct, .ref s2, .ref s3, .ref s4, .int nx])), (s2, .inl (cI, 12, .inl fk)), (s3, .inl (cI, 12, .inl fp)), (s4, .inl (cI, 12, .inl fv))] H := hP
        have hD : va_D A [(ar, .inl (cI, 288, .inl f)), (h0, .inr (3, [.ref sc, .ref dr, .int fo_15, .int fa_16, .int cu_17])), (sc, .inr (4, [.ref tp, .int ct, .ref s2, .ref s3, .ref s4, .int nx])), (s2, .inl (cI, 12, .inl fk)), (s3, .inl (cI, 12, .inl fp)), (s4, .inl (cI, 12, .inl fv))] := hD
        have hr18 : r18.toInt = (-400) ∨ ((-400) ≤ r18.toInt ∧ r18.toInt ≤ 400) := hw
        refine va_iast hx hb hK hP hD hS 0 0 rfl rfl (vp_in_iff.mpr ⟨show 0 ≤ i.toInt by omega, show i.toInt < ((288 : Nat) : Int) by omega⟩) dX3_readLast_35 (fun H locs hP hD hS => ?_)
        have hP : va_P D vwCl [(ar, .inl (cI, 288, .inl (upd f i.toNatClampNeg r18))), (h0, .inr (3, [.ref sc, .ref dr, .int fo_15, .int fa_16, .int cu_17])), (sc, .inr (4, [.ref tp, .int ct, .ref s2, .ref s3, .ref s4, .int nx])), (s2, .inl (cI, 12, .inl fk)), (s3, .inl (cI, 12, .inl fp)), (s4, .inl (cI, 12, .inl fv))] H := hP
        have hD : va_D A [(ar, .inl (cI, 288, .inl (upd f i.toNatClampNeg r18))), (h0, .inr (3, [.ref sc, .ref dr, .int fo_15, .int fa_16, .int cu_17])), (sc, .inr (4, [.ref tp, .int ct, .ref s2, .ref s3, .ref s4, .int nx])), (s2, .inl (cI, 12, .inl fk)), (s3, .inl (cI, 12, .inl fp)), (s4, .inl (cI, 12, .inl fv))] := hD
        obtain ⟨f20, ef20⟩ : ∃ z : Nat → Int32, z = (upd f i.toNatClampNeg r18) := ⟨_, rfl⟩
        rw [← ef20] at hP hD
        have hgf20 : ∀ k : Nat, k < 288 → (f20 k).toInt = (-1000) ∨ ((-400) ≤ (f20 k).toInt ∧ (f20 k).toInt ≤ 400) := by rw [ef20]; exact fun k hk => upd_all (P := fun z => z.toInt = (-1000) ∨ ((-400) ≤ z.toInt ∧ z.toInt ≤ 400)) hf9 (show r18.toInt = (-1000) ∨ ((-400) ≤ r18.toInt ∧ r18.toInt ≤ 400) by omega) k hk
        refine lv_aload_n hx hb dX3_readLast_36 rfl (lv_at hl 1 rfl) ?_
        refine lv_iload_n hx hb dX3_readLast_37 rfl (lv_at hl 2 rfl) ?_
        refine va_iald hx hb hK hP 0 0 rfl rfl (vp_in_iff.mpr ⟨show 0 ≤ i.toInt by omega, show i.toInt < ((288 : Nat) : Int) by omega⟩) dX3_readLast_38 ?_
        refine lv_topi (fun v21 ev21 => ?_)
        have tv21 : v21.toInt = (-1000) ∨ ((-400) ≤ v21.toInt ∧ v21.toInt ≤ 400) := by rw [ev21]; exact hgf20 _ (ck_lt (show 0 ≤ i.toInt by omega) (show i.toInt < ((288 : Nat) : Int) by omega))
        have hP9 := hP.sub (ws' := [(h0, .inr (3, [.ref sc, .ref dr, .int fo_15, .int fa_16, .int cu_17])), (sc, .inr (4, [.ref tp, .int ct, .ref s2, .ref s3, .ref s4, .int nx])), (s2, .inl (cI, 12, .inl fk)), (s3, .inl (cI, 12, .inl fp)), (s4, .inl (cI, 12, .inl fv)), (ar, .inl (cI, 288, .inl f20))]) [1, 2, 3, 4, 5, 0] rfl
        have hD9 := hD.sub (ws' := [(h0, .inr (3, [.ref sc, .ref dr, .int fo_15, .int fa_16, .int cu_17])), (sc, .inr (4, [.ref tp, .int ct, .ref s2, .ref s3, .ref s4, .int nx])), (s2, .inl (cI, 12, .inl fk)), (s3, .inl (cI, 12, .inl fp)), (s4, .inl (cI, 12, .inl fv)), (ar, .inl (cI, 288, .inl f20))]) [1, 2, 3, 4, 5, 0] (by decide) rfl
        refine W.widen (k := 0) (n := 0) (by decide) (by decide) ?_
        exact W.iret (v := v21) hx hb hr (fun t ht hW => ⟨⟨v21, (), rfl, (trivial), fo_15, fa_16, cu_17, f20, (show 0 ≤ cu_17.toInt ∧ cu_17.toInt ≤ 11 by first | assumption | omega | decide), (by assumption), by rw [ht]; exact hP9, hD9⟩, hS.F ht⟩) hS.2.2 dX3_readLast_39
    · have tc2 : ¬ (i.toInt < 288) := i32_nlt c2
      refine lv_iload_n hx hb dX3_readLast_10 rfl (lv_at hl 3 rfl) ?_
      have hP9 := hP.sub (ws' := [(h0, .inr (3, [.ref sc, .ref dr, .int fo, .int fa, .int cu])), (sc, .inr (4, [.ref tp, .int ct, .ref s2, .ref s3, .ref s4, .int nx])), (s2, .inl (cI, 12, .inl fk)), (s3, .inl (cI, 12, .inl fp)), (s4, .inl (cI, 12, .inl fv)), (ar, .inl (cI, 288, .inl f))]) [0, 1, 2, 3, 4, 5] rfl
      have hD9 := hD.sub (ws' := [(h0, .inr (3, [.ref sc, .ref dr, .int fo, .int fa, .int cu])), (sc, .inr (4, [.ref tp, .int ct, .ref s2, .ref s3, .ref s4, .int nx])), (s2, .inl (cI, 12, .inl fk)), (s3, .inl (cI, 12, .inl fp)), (s4, .inl (cI, 12, .inl fv)), (ar, .inl (cI, 288, .inl f))]) [0, 1, 2, 3, 4, 5] (by decide) rfl
      refine W.widen (k := 0) (n := 0) (by decide) (by decide) ?_
      exact W.iret (v := (-400)) hx hb hr (fun t ht hW => ⟨⟨(-400), (), rfl, (trivial), fo, fa, cu, f, (show 0 ≤ cu.toInt ∧ cu.toInt ≤ 11 by first | assumption | omega | decide), (by assumption), by rw [ht]; exact hP9, hD9⟩, hS.F ht⟩) hS.2.2 dX3_readLast_11

def wk_k_readLast_burn : List Cond := .code yX3_readLast cX3_readLast 5 (some .int) :: ([.methodLink RX3 75 yX3_number, .instanceMethod yX3_number, .selects RX3 yX3_number yX3_number, .initialized RX3, .code yX3_number cX3_number 4 (some .int), .methodLink RX3 132 yX3_nextToken, .instanceMethod yX3_nextToken, .selects RX3 yX3_nextToken yX3_nextToken, .code yX3_nextToken cX3_nextToken 1 none, .fieldLink RX3 27 "FlightDesk$Reader" "found" "I", .fieldLink RX3 43 "FlightDesk$Reader" "current" "I", .fieldLink RX3 14 "FlightDesk$Reader" "scanner" "LFlightDesk$Scanner;", .fieldLink RX3 170 "FlightDesk$Scanner" "count" "I", .fieldLink RX3 46 "FlightDesk$Scanner" "kind" "[I", .fieldLink RX3 167 "FlightDesk$Scanner" "value" "[I", .methodLink RX3 117 yX3_refuse, .instanceMethod yX3_refuse, .selects RX3 yX3_refuse yX3_refuse, .code yX3_refuse cX3_refuse 2 none, .fieldLink RX3 173 "FlightDesk$Scanner" "place" "[I", .fieldLink RX3 31 "FlightDesk$Reader" "foundAt" "I", .methodLink RX3 59 yX3_refuseToken, .instanceMethod yX3_refuseToken, .selects RX3 yX3_refuseToken yX3_refuseToken, .code yX3_refuseToken cX3_refuseToken 1 none] ++ wsX30 ++ wsX40)
theorem iw_k_readLast_burn_3 : ∀ w ∈ wsX30, w ∈ wk_k_readLast_burn := fun _ h => List.mem_cons_of_mem _ (List.mem_append_left _ (List.mem_append_right _ h))
theorem iw_k_readLast_burn_4 : ∀ w ∈ wsX40, w ∈ wk_k_readLast_burn := fun _ h => List.mem_cons_of_mem _ (List.mem_append_right _ h)
set_option maxRecDepth 20000 in
theorem gw_k_readLast_burn_0 : GoodIn wk_k_readLast_burn (wsV RX3 75 RX3 yX3_number wk_k_number) := goodIn_sub (by decide +kernel) (by decide +kernel)
set_option maxRecDepth 20000 in
theorem gw_k_readLast_burn_1 : GoodIn wk_k_readLast_burn (wsV RX3 117 RX3 yX3_refuse wk_k_refuse) := goodIn_sub (by decide +kernel) (by decide +kernel)
set_option maxHeartbeats 4000000 in
set_option maxRecDepth 100000 in
theorem k_readLast_burn (l : Launch) (D : va_G) (cI cB cP : ClassId) (sz : Nat) (h0 : Nat) (sc : Nat) (dr : Nat) (fo : Int32) (fa : Int32) (cu : Int32) (tp : Nat) (s2 : Nat) (s3 : Nat) (s4 : Nat) (ct : Int32) (nx : Int32) (fk : Nat → Int32) (fp : Nat → Int32) (fv : Nat → Int32) (ar : Nat) (i : Int32) (f : Nat → Int32) (hc9 : 0 ≤ cu.toInt ∧ cu.toInt ≤ 11) (ht9 : 0 ≤ ct.toInt ∧ ct.toInt ≤ 12) (hf9 : ∀ k : Nat, k < 30 → (f k).toInt = (-1000) ∨ (1 ≤ (f k).toInt ∧ (f k).toInt ≤ 9999)) : Met l yX3_readLast wk_k_readLast_burn ({ frames := 3, cells := 0, slots := 0, locals := 64 } : Room) (va_Pc [.ref h0, .ref ar, .int i, .int 1, .int 9999] (Pw D cI cB cP sz [(h0, .inr (3, [.ref sc, .ref dr, .int fo, .int fa, .int cu])), (sc, .inr (4, [.ref tp, .int ct, .ref s2, .ref s3, .ref s4, .int nx])), (s2, .inl (cI, 12, .inl fk)), (s3, .inl (cI, 12, .inl fp)), (s4, .inl (cI, 12, .inl fv)), (ar, .inl (cI, 30, .inl f))])) (va_Qi (fun (r : Int32) (_ : Unit) => True) (fun _ t => ∃ fo9 : Int32, ∃ fa9 : Int32, ∃ cu9 : Int32, ∃ g : Nat → Int32, (0 ≤ cu9.toInt ∧ cu9.toInt ≤ 11) ∧ (∀ k : Nat, k < 30 → (g k).toInt = (-1000) ∨ (1 ≤ (g k).toInt ∧ (g k).toInt ≤ 9999)) ∧ va_P D vwCl [(h0, .inr (3, [.ref sc, .ref dr, .int fo9, .int fa9, .int cu9])), (sc, .inr (4, [.ref tp, .int ct, .ref s2, .ref s3, .ref s4, .int nx])), (s2, .inl (cI, 12, .inl fk)), (s3, .inl (cI, 12, .inl fp)), (s4, .inl (cI, 12, .inl fv)), (ar, .inl (cI, 30, .inl g))] t.heap ∧ va_D (va_A [(h0, .inr (3, [.ref sc, .ref dr, .int fo, .int fa, .int cu])), (sc, .inr (4, [.ref tp, .int ct, .ref s2, .ref s3, .ref s4, .int nx])), (s2, .inl (cI, 12, .inl fk)), (s3, .inl (cI, 12, .inl fp)), (s4, .inl (cI, 12, .inl fv)), (ar, .inl (cI, 30, .inl f))] sz) [(h0, .inr (3, [.ref sc, .ref dr, .int fo9, .int fa9, .int cu9])), (sc, .inr (4, [.ref tp, .int ct, .ref s2, .ref s3, .ref s4, .int nx])), (s2, .inl (cI, 12, .inl fk)), (s3, .inl (cI, 12, .inl fp)), (s4, .inl (cI, 12, .inl fv)), (ar, .inl (cI, 30, .inl g))]) (va_A [(h0, .inr (3, [.ref sc, .ref dr, .int fo, .int fa, .int cu])), (sc, .inr (4, [.ref tp, .int ct, .ref s2, .ref s3, .ref s4, .int nx])), (s2, .inl (cI, 12, .inl fk)), (s3, .inl (cI, 12, .inl fp)), (s4, .inl (cI, 12, .inl fv)), (ar, .inl (cI, 30, .inl f))] sz)) 0 0 (va_A [(h0, .inr (3, [.ref sc, .ref dr, .int fo, .int fa, .int cu])), (sc, .inr (4, [.ref tp, .int ct, .ref s2, .ref s3, .ref s4, .int nx])), (s2, .inl (cI, 12, .inl fk)), (s3, .inl (cI, 12, .inl fp)), (s4, .inl (cI, 12, .inl fv)), (ar, .inl (cI, 30, .inl f))] sz) := by
  refine Met.ofW (cc := cX3_readLast) (maxL := 5) (ret := (some .int)) (by decide) rfl ?_
  intro p e s m args below meth c s₁ B hml hv
  obtain ⟨rfl, hsz, hP, ⟨hK, hN⟩, hD0⟩ := hv
  have hx := B.exec
  have hb := B.bytes
  have hr := B.returns
  have hts := atoms_spec (ws := wk_k_readLast_burn) B.pre
  have hown : s.vm.findClass RX3 = some m.cls := findClass_of_methodNamed B.named
  have hlocks := B.notSynchronized
  subst hsz
  have hD := hD0.self (sz := s.heap.size)
  generalize hAe : va_A [(h0, .inr (3, [.ref sc, .ref dr, .int fo, .int fa, .int cu])), (sc, .inr (4, [.ref tp, .int ct, .ref s2, .ref s3, .ref s4, .int nx])), (s2, .inl (cI, 12, .inl fk)), (s3, .inl (cI, 12, .inl fp)), (s4, .inl (cI, 12, .inl fv)), (ar, .inl (cI, 30, .inl f))] s.heap.size = A at hD ⊢
  have hA : ∀ q : Nat, s.heap.size ≤ q → A q := fun q h => by rw [← hAe]; exact Or.inr h
  have hS : va_S A s.heap s.heap [] := va_S.rf
  have hP : va_P D vwCl [(h0, .inr (3, [.ref sc, .ref dr, .int fo, .int fa, .int cu])), (sc, .inr (4, [.ref tp, .int ct, .ref s2, .ref s3, .ref s4, .int nx])), (s2, .inl (cI, 12, .inl fk)), (s3, .inl (cI, 12, .inl fp)), (s4, .inl (cI, 12, .inl fv)), (ar, .inl (cI, 30, .inl f))] s.heap := hP
  have hl := lv_entry ([.ref h0, .ref ar, .int i, .int 1, .int 9999]) (n := 5) (Nat.le_of_ble_eq_true rfl)
  rw [lg_entry_eq]
  generalize (lg_sl ([.ref h0, .ref ar, .int i, .int 1, .int 9999]) ++ List.replicate (5 - (lg_sl ([.ref h0, .ref ar, .int i, .int 1, .int 9999])).length) Slot.unset).toArray = ls at hl ⊢
  have hl : lv_has ls 5 [(0, .ref h0), (1, .ref ar), (2, .int i), (3, .int 1), (4, .int 9999)] := hl
  refine lv_iload_n hx hb dX3_readLast_0 rfl (lv_at hl 2 rfl) ?_
  refine lv_if_lt (tgt := 10) hx hb dX3_readLast_1 (by decide) (fun c1 => ?_) (fun c1 => ?_)
  · have tc1 : i.toInt < 0 := i32_lt c1
    refine lv_iload_n hx hb dX3_readLast_10 rfl (lv_at hl 3 rfl) ?_
    have hP9 := hP.sub (ws' := [(h0, .inr (3, [.ref sc, .ref dr, .int fo, .int fa, .int cu])), (sc, .inr (4, [.ref tp, .int ct, .ref s2, .ref s3, .ref s4, .int nx])), (s2, .inl (cI, 12, .inl fk)), (s3, .inl (cI, 12, .inl fp)), (s4, .inl (cI, 12, .inl fv)), (ar, .inl (cI, 30, .inl f))]) [0, 1, 2, 3, 4, 5] rfl
    have hD9 := hD.sub (ws' := [(h0, .inr (3, [.ref sc, .ref dr, .int fo, .int fa, .int cu])), (sc, .inr (4, [.ref tp, .int ct, .ref s2, .ref s3, .ref s4, .int nx])), (s2, .inl (cI, 12, .inl fk)), (s3, .inl (cI, 12, .inl fp)), (s4, .inl (cI, 12, .inl fv)), (ar, .inl (cI, 30, .inl f))]) [0, 1, 2, 3, 4, 5] (by decide) rfl
    refine W.widen (k := 0) (n := 0) (by decide) (by decide) ?_
    exact W.iret (v := 1) hx hb hr (fun t ht hW => ⟨⟨1, (), rfl, (trivial), fo, fa, cu, f, (show 0 ≤ cu.toInt ∧ cu.toInt ≤ 11 by first | assumption | omega | decide), (by assumption), by rw [ht]; exact hP9, hD9⟩, hS.F ht⟩) hS.2.2 dX3_readLast_11
  · have tc1 : ¬ (i.toInt < 0) := i32_nlt c1
    refine lv_iload_n hx hb dX3_readLast_4 rfl (lv_at hl 2 rfl) ?_
    refine lv_aload_n hx hb dX3_readLast_5 rfl (lv_at hl 1 rfl) ?_
    refine va_alen (v := 30) hx hb hK hP 5 0 rfl rfl rfl dX3_readLast_6 ?_
    refine lv_icmp_lt (tgt := 12) hx hb dX3_readLast_7 (by decide) (fun c2 => ?_) (fun c2 => ?_)
    · have tc2 : i.toInt < 30 := i32_lt c2
      refine lv_aload_n hx hb dX3_readLast_12 rfl (lv_at hl 1 rfl) ?_
      refine lv_iload_n hx hb dX3_readLast_13 rfl (lv_at hl 2 rfl) ?_
      refine va_iald hx hb hK hP 5 0 rfl rfl (vp_in_iff.mpr ⟨show 0 ≤ i.toInt by omega, show i.toInt < ((30 : Nat) : Int) by omega⟩) dX3_readLast_14 ?_
      refine lv_topi (fun v3 ev3 => ?_)
      have tv3 : v3.toInt = (-1000) ∨ (1 ≤ v3.toInt ∧ v3.toInt ≤ 9999) := by rw [ev3]; exact hf9 _ (ck_lt (show 0 ≤ i.toInt by omega) (show i.toInt < ((30 : Nat) : Int) by omega))
      refine lv_sipush (v := (-1000)) hx hb dX3_readLast_15 (by decide) ?_
      refine lv_icmp_eq (tgt := 26) hx hb dX3_readLast_18 (by decide) (fun c4 => ?_) (fun c4 => ?_)
      · have tc4 : v3.toInt = (-1000) := i32_eq c4
        refine lv_aload_n hx hb dX3_readLast_26 rfl (lv_at hl 1 rfl) ?_
        refine lv_iload_n hx hb dX3_readLast_27 rfl (lv_at hl 2 rfl) ?_
        refine lv_aload_n hx hb dX3_readLast_28 rfl (lv_at hl 0 rfl) ?_
        refine lv_iload_n hx hb dX3_readLast_29 rfl (lv_at hl 3 rfl) ?_
        refine lv_iload hx hb dX3_readLast_30 (lv_at hl 4 rfl) ?_
        have hPc := hP.sub (ws' := [(h0, .inr (3, [.ref sc, .ref dr, .int fo, .int fa, .int cu])), (sc, .inr (4, [.ref tp, .int ct, .ref s2, .ref s3, .ref s4, .int nx])), (s2, .inl (cI, 12, .inl fk)), (s3, .inl (cI, 12, .inl fp)), (s4, .inl (cI, 12, .inl fv))]) [0, 1, 2, 3, 4] rfl
        have hDc := hD.sub (ws' := [(h0, .inr (3, [.ref sc, .ref dr, .int fo, .int fa, .int cu])), (sc, .inr (4, [.ref tp, .int ct, .ref s2, .ref s3, .ref s4, .int nx])), (s2, .inl (cI, 12, .inl fk)), (s3, .inl (cI, 12, .inl fp)), (s4, .inl (cI, 12, .inl fv))]) [0, 1, 2, 3, 4] (by decide) rfl
        have hFc := va_free (wc := [(h0, .inr (3, [.ref sc, .ref dr, .int fo, .int fa, .int cu])), (sc, .inr (4, [.ref tp, .int ct, .ref s2, .ref s3, .ref s4, .int nx])), (s2, .inl (cI, 12, .inl fk)), (s3, .inl (cI, 12, .inl fp)), (s4, .inl (cI, 12, .inl fv))]) hD hS hA [0, 1, 2, 3, 4] rfl
        refine va_calli (va_runV (As := [.int 1, .int 9999]) (rest := [.int i, .ref ar]) ⟨hx, hb, hml, hown, hts⟩ (k_number l D cI cB cP s.heap.size h0 sc dr fo fa cu tp s2 s3 s4 ct nx 1 9999 fk fp fv (show 0 ≤ cu.toInt ∧ cu.toInt ≤ 11 by first | assumption | omega | decide) (show 0 ≤ ct.toInt ∧ ct.toInt ≤ 12 by first | assumption | omega | decide)) (cwV 2 hts gw_k_readLast_burn_0 rfl rfl rfl (by decide +kernel) ⟨Nat.le_of_ble_eq_true rfl, Nat.le_of_ble_eq_true rfl⟩) ⟨ny_blind, va_recv hK hPc (ci := 3) (q0 := 0) rfl rfl, ny_pre hPc hK hN hDc⟩ rfl rfl hl.1 rfl (lv_room (Nat.le_of_ble_eq_true rfl)) dX3_readLast_32 ⟨Nat.le_of_ble_eq_true rfl, Nat.le_of_ble_eq_true rfl⟩) hS (fun q _ h => hFc q h) hFc (fun r8 u t H locs ht hvm hw hB hz1 hk1 hS => ?_)
        obtain ⟨fo_5, fa_6, cu_7, hp9, hP1, hD1⟩ := hB
        rw [ht] at hP1
        have hp9 : 0 ≤ cu_7.toInt ∧ cu_7.toInt ≤ 11 := hp9
        obtain ⟨hP, hD⟩ := va_join (wr := [(ar, .inl (cI, 30, .inl f))]) (w1 := [(h0, .inr (3, [.ref sc, .ref dr, .int fo_5, .int fa_6, .int cu_7])), (sc, .inr (4, [.ref tp, .int ct, .ref s2, .ref s3, .ref s4, .int nx])), (s2, .inl (cI, 12, .inl fk)), (s3, .inl (cI, 12, .inl fp)), (s4, .inl (cI, 12, .inl fv))]) hP hD [0, 1, 2, 3, 4] [5] rfl rfl (by decide) (by decide) hk1 hFc hP1 hD1
        have hP : va_P D vwCl [(ar, .inl (cI, 30, .inl f)), (h0, .inr (3, [.ref sc, .ref dr, .int fo_5, .int fa_6, .int cu_7])), (sc, .inr (4, [.ref tp, .int ct, .ref s2, .ref s3, .ref s4, .int nx])), (s2, .inl (cI, 12, .inl fk)), (s3, .inl (cI, 12, .inl fp)), (s4, .inl (cI, 12, .inl fv))] H := hP
        have hD : va_D A [(ar, .inl (cI, 30, .inl f)), (h0, .inr (3, [.ref sc, .ref dr, .int fo_5, .int fa_6, .int cu_7])), (sc, .inr (4, [.ref tp, .int ct, .ref s2, .ref s3, .ref s4, .int nx])), (s2, .inl (cI, 12, .inl fk)), (s3, .inl (cI, 12, .inl fp)), (s4, .inl (cI, 12, .inl fv))] := hD
        have hr8 : r8.toInt = 1 ∨ (1 ≤ r8.toInt ∧ r8.toInt ≤ 9999) := hw
        refine va_iast hx hb hK hP hD hS 0 0 rfl rfl (vp_in_iff.mpr ⟨show 0 ≤ i.toInt by omega, show i.toInt < ((30 : Nat) : Int) by omega⟩) dX3_readLast_35 (fun H locs hP hD hS => ?_)
        have hP : va_P D vwCl [(ar, .inl (cI, 30, .inl (upd f i.toNatClampNeg r8))), (h0, .inr (3, [.ref sc, .ref dr, .int fo_5, .int fa_6, .int cu_7])), (sc, .inr (4, [.ref tp, .int ct, .ref s2, .ref s3, .ref s4, .int nx])), (s2, .inl (cI, 12, .inl fk)), (s3, .inl (cI, 12, .inl fp)), (s4, .inl (cI, 12, .inl fv))] H := hP
        have hD : va_D A [(ar, .inl (cI, 30, .inl (upd f i.toNatClampNeg r8))), (h0, .inr (3, [.ref sc, .ref dr, .int fo_5, .int fa_6, .int cu_7])), (sc, .inr (4, [.ref tp, .int ct, .ref s2, .ref s3, .ref s4, .int nx])), (s2, .inl (cI, 12, .inl fk)), (s3, .inl (cI, 12, .inl fp)), (s4, .inl (cI, 12, .inl fv))] := hD
        obtain ⟨f10, ef10⟩ : ∃ z : Nat → Int32, z = (upd f i.toNatClampNeg r8) := ⟨_, rfl⟩
        rw [← ef10] at hP hD
        have hgf10 : ∀ k : Nat, k < 30 → (f10 k).toInt = (-1000) ∨ (1 ≤ (f10 k).toInt ∧ (f10 k).toInt ≤ 9999) := by rw [ef10]; exact fun k hk => upd_all (P := fun z => z.toInt = (-1000) ∨ (1 ≤ z.toInt ∧ z.toInt ≤ 9999)) hf9 (show r8.toInt = (-1000) ∨ (1 ≤ r8.toInt ∧ r8.toInt ≤ 9999) by omega) k hk
        refine lv_aload_n hx hb dX3_readLast_36 rfl (lv_at hl 1 rfl) ?_
        refine lv_iload_n hx hb dX3_readLast_37 rfl (lv_at hl 2 rfl) ?_
        refine va_iald hx hb hK hP 0 0 rfl rfl (vp_in_iff.mpr ⟨show 0 ≤ i.toInt by omega, show i.toInt < ((30 : Nat) : Int) by omega⟩) dX3_readLast_38 ?_
        refine lv_topi (fun v11 ev11 => ?_)
        have tv11 : v11.toInt = (-1000) ∨ (1 ≤ v11.toInt ∧ v11.toInt ≤ 9999) := by rw [ev11]; exact hgf10 _ (ck_lt (show 0 ≤ i.toInt by omega) (show i.toInt < ((30 : Nat) : Int) by omega))
        have hP9 := hP.sub (ws' := [(h0, .inr (3, [.ref sc, .ref dr, .int fo_5, .int fa_6, .int cu_7])), (sc, .inr (4, [.ref tp, .int ct, .ref s2, .ref s3, .ref s4, .int nx])), (s2, .inl (cI, 12, .inl fk)), (s3, .inl (cI, 12, .inl fp)), (s4, .inl (cI, 12, .inl fv)), (ar, .inl (cI, 30, .inl f10))]) [1, 2, 3, 4, 5, 0] rfl
        have hD9 := hD.sub (ws' := [(h0, .inr (3, [.ref sc, .ref dr, .int fo_5, .int fa_6, .int cu_7])), (sc, .inr (4, [.ref tp, .int ct, .ref s2, .ref s3, .ref s4, .int nx])), (s2, .inl (cI, 12, .inl fk)), (s3, .inl (cI, 12, .inl fp)), (s4, .inl (cI, 12, .inl fv)), (ar, .inl (cI, 30, .inl f10))]) [1, 2, 3, 4, 5, 0] (by decide) rfl
        refine W.widen (k := 0) (n := 0) (by decide) (by decide) ?_
        exact W.iret (v := v11) hx hb hr (fun t ht hW => ⟨⟨v11, (), rfl, (trivial), fo_5, fa_6, cu_7, f10, (show 0 ≤ cu_7.toInt ∧ cu_7.toInt ≤ 11 by first | assumption | omega | decide), (by assumption), by rw [ht]; exact hP9, hD9⟩, hS.F ht⟩) hS.2.2 dX3_readLast_39
      · have tc4 : ¬ (v3.toInt = (-1000)) := i32_neq c4
        refine lv_aload_n hx hb dX3_readLast_21 rfl (lv_at hl 0 rfl) ?_
        refine lv_iconst (v := 4) hx hb dX3_readLast_22 (by decide) ?_
        have hPc := hP.sub (ws' := [(h0, .inr (3, [.ref sc, .ref dr, .int fo, .int fa, .int cu])), (sc, .inr (4, [.ref tp, .int ct, .ref s2, .ref s3, .ref s4, .int nx])), (s3, .inl (cI, 12, .inl fp))]) [0, 1, 3] rfl
        have hDc := hD.sub (ws' := [(h0, .inr (3, [.ref sc, .ref dr, .int fo, .int fa, .int cu])), (sc, .inr (4, [.ref tp, .int ct, .ref s2, .ref s3, .ref s4, .int nx])), (s3, .inl (cI, 12, .inl fp))]) [0, 1, 3] (by decide) rfl
        have hFc := va_free (wc := [(h0, .inr (3, [.ref sc, .ref dr, .int fo, .int fa, .int cu])), (sc, .inr (4, [.ref tp, .int ct, .ref s2, .ref s3, .ref s4, .int nx])), (s3, .inl (cI, 12, .inl fp))]) hD hS hA [0, 1, 3] rfl
        refine va_callv (va_runV (As := [.int 4]) (rest := []) ⟨hx, hb, hml, hown, hts⟩ (k_refuse l D cI cB cP s.heap.size h0 sc dr fo fa cu tp s2 s3 s4 ct nx 4 fp (show 0 ≤ cu.toInt ∧ cu.toInt ≤ 11 by first | assumption | omega | decide) (show 0 ≤ ct.toInt ∧ ct.toInt ≤ 12 by first | assumption | omega | decide)) (cwV 1 hts gw_k_readLast_burn_1 rfl rfl rfl (by decide +kernel) ⟨Nat.le_of_ble_eq_true rfl, Nat.le_of_ble_eq_true rfl⟩) ⟨ny_blind, va_recv hK hPc (ci := 3) (q0 := 0) rfl rfl, ny_pre hPc hK hN hDc⟩ rfl rfl hl.1 rfl (lv_room (Nat.le_of_ble_eq_true rfl)) dX3_readLast_23 ⟨Nat.le_of_ble_eq_true rfl, Nat.le_of_ble_eq_true rfl⟩) hS (fun q _ h => hFc q h) hFc (fun u t H locs ht hvm hw hB hz1 hk1 hS => ?_)
        obtain ⟨fo_12, fa_13, hP1, hD1⟩ := hB
        rw [ht] at hP1
        obtain ⟨hP, hD⟩ := va_join (wr := [(s2, .inl (cI, 12, .inl fk)), (s4, .inl (cI, 12, .inl fv)), (ar, .inl (cI, 30, .inl f))]) (w1 := [(h0, .inr (3, [.ref sc, .ref dr, .int fo_12, .int fa_13, .int cu])), (sc, .inr (4, [.ref tp, .int ct, .ref s2, .ref s3, .ref s4, .int nx])), (s3, .inl (cI, 12, .inl fp))]) hP hD [0, 1, 3] [2, 4, 5] rfl rfl (by decide) (by decide) hk1 hFc hP1 hD1
        have hP : va_P D vwCl [(s2, .inl (cI, 12, .inl fk)), (s4, .inl (cI, 12, .inl fv)), (ar, .inl (cI, 30, .inl f)), (h0, .inr (3, [.ref sc, .ref dr, .int fo_12, .int fa_13, .int cu])), (sc, .inr (4, [.ref tp, .int ct, .ref s2, .ref s3, .ref s4, .int nx])), (s3, .inl (cI, 12, .inl fp))] H := hP
        have hD : va_D A [(s2, .inl (cI, 12, .inl fk)), (s4, .inl (cI, 12, .inl fv)), (ar, .inl (cI, 30, .inl f)), (h0, .inr (3, [.ref sc, .ref dr, .int fo_12, .int fa_13, .int cu])), (sc, .inr (4, [.ref tp, .int ct, .ref s2, .ref s3, .ref s4, .int nx])), (s3, .inl (cI, 12, .inl fp))] := hD
        refine lv_aload_n hx hb dX3_readLast_26 rfl (lv_at hl 1 rfl) ?_
        refine lv_iload_n hx hb dX3_readLast_27 rfl (lv_at hl 2 rfl) ?_
        refine lv_aload_n hx hb dX3_readLast_28 rfl (lv_at hl 0 rfl) ?_
        refine lv_iload_n hx hb dX3_readLast_29 rfl (lv_at hl 3 rfl) ?_
        refine lv_iload hx hb dX3_readLast_30 (lv_at hl 4 rfl) ?_
        have hPc := hP.sub (ws' := [(h0, .inr (3, [.ref sc, .ref dr, .int fo_12, .int fa_13, .int cu])), (sc, .inr (4, [.ref tp, .int ct, .ref s2, .ref s3, .ref s4, .int nx])), (s2, .inl (cI, 12, .inl fk)), (s3, .inl (cI, 12, .inl fp)), (s4, .inl (cI, 12, .inl fv))]) [3, 4, 0, 5, 1] rfl
        have hDc := hD.sub (ws' := [(h0, .inr (3, [.ref sc, .ref dr, .int fo_12, .int fa_13, .int cu])), (sc, .inr (4, [.ref tp, .int ct, .ref s2, .ref s3, .ref s4, .int nx])), (s2, .inl (cI, 12, .inl fk)), (s3, .inl (cI, 12, .inl fp)), (s4, .inl (cI, 12, .inl fv))]) [3, 4, 0, 5, 1] (by decide) rfl
        have hFc := va_free (wc := [(h0, .inr (3, [.ref sc, .ref dr, .int fo_12, .int fa_13, .int cu])), (sc, .inr (4, [.ref tp, .int ct, .ref s2, .ref s3, .ref s4, .int nx])), (s2, .inl (cI, 12, .inl fk)), (s3, .inl (cI, 12, .inl fp)), (s4, .inl (cI, 12, .inl fv))]) hD hS hA [3, 4, 0, 5, 1] rfl
        refine va_calli (va_runV (As := [.int 1, .int 9999]) (rest := [.int i, .ref ar]) ⟨hx, hb, hml, hown, hts⟩ (k_number l D cI cB cP H.size h0 sc dr fo_12 fa_13 cu tp s2 s3 s4 ct nx 1 9999 fk fp fv (show 0 ≤ cu.toInt ∧ cu.toInt ≤ 11 by first | assumption | omega | decide) (show 0 ≤ ct.toInt ∧ ct.toInt ≤ 12 by first | assumption | omega | decide)) (cwV 2 hts gw_k_readLast_burn_0 rfl rfl rfl (by decide +kernel) ⟨Nat.le_of_ble_eq_true rfl, Nat.le_of_ble_eq_true rfl⟩) ⟨ny_blind, va_recv hK hPc (ci := 3) (q0 := 0) rfl rfl, ny_pre hPc hK hN hDc⟩ rfl rfl hl.1 rfl (lv_room (Nat.le_of_ble_eq_true rfl)) dX3_readLast_32 ⟨Nat.le_of_ble_eq_true rfl, Nat.le_of_ble_eq_true rfl⟩) hS (fun q _ h => hFc q h) hFc (fun r18 u t H locs ht hvm hw hB hz1 hk1 hS => ?_)
        obtain ⟨fo_15, fa_16, cu_17, hp19, hP1, hD1⟩ := hB
        rw [ht] at hP1
        have hp19 : 0 ≤ cu_17.toInt ∧ cu_17.toInt ≤ 11 := hp19
        obtain ⟨hP, hD⟩ := va_join (wr := [(ar, .inl (cI, 30, .inl f))]) (w1 := [(h0, .inr (3, [.ref sc, .ref dr, .int fo_15, .int fa_16, .int cu_17])), (sc, .inr (4, [.ref tp, .int ct, .ref s2, .ref s3, .ref s4, .int nx])), (s2, .inl (cI, 12, .inl fk)), (s3, .inl (cI, 12, .inl fp)), (s4, .inl (cI, 12, .inl fv))]) hP hD [3, 4, 0, 5, 1] [2] rfl rfl (by decide) (by decide) hk1 hFc hP1 hD1
        have hP : va_P D vwCl [(ar, .inl (cI, 30, .inl f)), (h0, .inr (3, [.ref sc, .ref dr, .int fo_15, .int fa_16, .int cu_17])), (sc, .inr (4, [.ref tp, .int ct, .ref s2, .ref s3, .ref s4, .int nx])), (s2, .inl (cI, 12, .inl fk)), (s3, .inl (cI, 12, .inl fp)), (s4, .inl (cI, 12, .inl fv))] H := hP
        have hD : va_D A [(ar, .inl (cI, 30, .inl f)), (h0, .inr (3, [.ref sc, .ref dr, .int fo_15, .int fa_16, .int cu_17])), (sc, .inr (4, [.ref tp, .int ct, .ref s2, .ref s3, .ref s4, .int nx])), (s2, .inl (cI, 12, .inl fk)), (s3, .inl (cI, 12, .inl fp)), (s4, .inl (cI, 12, .inl fv))] := hD
        have hr18 : r18.toInt = 1 ∨ (1 ≤ r18.toInt ∧ r18.toInt ≤ 9999) := hw
        refine va_iast hx hb hK hP hD hS 0 0 rfl rfl (vp_in_iff.mpr ⟨show 0 ≤ i.toInt by omega, show i.toInt < ((30 : Nat) : Int) by omega⟩) dX3_readLast_35 (fun H locs hP hD hS => ?_)
        have hP : va_P D vwCl [(ar, .inl (cI, 30, .inl (upd f i.toNatClampNeg r18))), (h0, .inr (3, [.ref sc, .ref dr, .int fo_15, .int fa_16, .int cu_17])), (sc, .inr (4, [.ref tp, .int ct, .ref s2, .ref s3, .ref s4, .int nx])), (s2, .inl (cI, 12, .inl fk)), (s3, .inl (cI, 12, .inl fp)), (s4, .inl (cI, 12, .inl fv))] H := hP
        have hD : va_D A [(ar, .inl (cI, 30, .inl (upd f i.toNatClampNeg r18))), (h0, .inr (3, [.ref sc, .ref dr, .int fo_15, .int fa_16, .int cu_17])), (sc, .inr (4, [.ref tp, .int ct, .ref s2, .ref s3, .ref s4, .int nx])), (s2, .inl (cI, 12, .inl fk)), (s3, .inl (cI, 12, .inl fp)), (s4, .inl (cI, 12, .inl fv))] := hD
        obtain ⟨f20, ef20⟩ : ∃ z : Nat → Int32, z = (upd f i.toNatClampNeg r18) := ⟨_, rfl⟩
        rw [← ef20] at hP hD
        have hgf20 : ∀ k : Nat, k < 30 → (f20 k).toInt = (-1000) ∨ (1 ≤ (f20 k).toInt ∧ (f20 k).toInt ≤ 9999) := by rw [ef20]; exact fun k hk => upd_all (P := fun z => z.toInt = (-1000) ∨ (1 ≤ z.toInt ∧ z.toInt ≤ 9999)) hf9 (show r18.toInt = (-1000) ∨ (1 ≤ r18.toInt ∧ r18.toInt ≤ 9999) by omega) k hk
        refine lv_aload_n hx hb dX3_readLast_36 rfl (lv_at hl 1 rfl) ?_
        refine lv_iload_n hx hb dX3_readLast_37 rfl (lv_at hl 2 rfl) ?_
        refine va_iald hx hb hK hP 0 0 rfl rfl (vp_in_iff.mpr ⟨show 0 ≤ i.toInt by omega, show i.toInt < ((30 : Nat) : Int) by omega⟩) dX3_readLast_38 ?_
        refine lv_topi (fun v21 ev21 => ?_)
        have tv21 : v21.toInt = (-1000) ∨ (1 ≤ v21.toInt ∧ v21.toInt ≤ 9999) := by rw [ev21]; exact hgf20 _ (ck_lt (show 0 ≤ i.toInt by omega) (show i.toInt < ((30 : Nat) : Int) by omega))
        have hP9 := hP.sub (ws' := [(h0, .inr (3, [.ref sc, .ref dr, .int fo_15, .int fa_16, .int cu_17])), (sc, .inr (4, [.ref tp, .int ct, .ref s2, .ref s3, .ref s4, .int nx])), (s2, .inl (cI, 12, .inl fk)), (s3, .inl (cI, 12, .inl fp)), (s4, .inl (cI, 12, .inl fv)), (ar, .inl (cI, 30, .inl f20))]) [1, 2, 3, 4, 5, 0] rfl
        have hD9 := hD.sub (ws' := [(h0, .inr (3, [.ref sc, .ref dr, .int fo_15, .int fa_16, .int cu_17])), (sc, .inr (4, [.ref tp, .int ct, .ref s2, .ref s3, .ref s4, .int nx])), (s2, .inl (cI, 12, .inl fk)), (s3, .inl (cI, 12, .inl fp)), (s4, .inl (cI, 12, .inl fv)), (ar, .inl (cI, 30, .inl f20))]) [1, 2, 3, 4, 5, 0] (by decide) rfl
        refine W.widen (k := 0) (n := 0) (by decide) (by decide) ?_
        exact W.iret (v := v21) hx hb hr (fun t ht hW => ⟨⟨v21, (), rfl, (trivial), fo_15, fa_16, cu_17, f20, (show 0 ≤ cu_17.toInt ∧ cu_17.toInt ≤ 11 by first | assumption | omega | decide), (by assumption), by rw [ht]; exact hP9, hD9⟩, hS.F ht⟩) hS.2.2 dX3_readLast_39
    · have tc2 : ¬ (i.toInt < 30) := i32_nlt c2
      refine lv_iload_n hx hb dX3_readLast_10 rfl (lv_at hl 3 rfl) ?_
      have hP9 := hP.sub (ws' := [(h0, .inr (3, [.ref sc, .ref dr, .int fo, .int fa, .int cu])), (sc, .inr (4, [.ref tp, .int ct, .ref s2, .ref s3, .ref s4, .int nx])), (s2, .inl (cI, 12, .inl fk)), (s3, .inl (cI, 12, .inl fp)), (s4, .inl (cI, 12, .inl fv)), (ar, .inl (cI, 30, .inl f))]) [0, 1, 2, 3, 4, 5] rfl
      have hD9 := hD.sub (ws' := [(h0, .inr (3, [.ref sc, .ref dr, .int fo, .int fa, .int cu])), (sc, .inr (4, [.ref tp, .int ct, .ref s2, .ref s3, .ref s4, .int nx])), (s2, .inl (cI, 12, .inl fk)), (s3, .inl (cI, 12, .inl fp)), (s4, .inl (cI, 12, .inl fv)), (ar, .inl (cI, 30, .inl f))]) [0, 1, 2, 3, 4, 5] (by decide) rfl
      refine W.widen (k := 0) (n := 0) (by decide) (by decide) ?_
      exact W.iret (v := 1) hx hb hr (fun t ht hW => ⟨⟨1, (), rfl, (trivial), fo, fa, cu, f, (show 0 ≤ cu.toInt ∧ cu.toInt ≤ 11 by first | assumption | omega | decide), (by assumption), by rw [ht]; exact hP9, hD9⟩, hS.F ht⟩) hS.2.2 dX3_readLast_11
