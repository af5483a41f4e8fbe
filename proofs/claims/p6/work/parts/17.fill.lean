def wk_k_fill : List Cond := .code yJ7_fill_53178 cJ7_fill_53178 4 none :: ([])
set_option maxHeartbeats 4000000 in
set_option maxRecDepth 100000 in
theorem k_fill (l : Launch) (D : va_G) (cI cB cP : ClassId) (sz : Nat) (a0 : Nat) (n : Nat) (f : Nat → Int32) (v : Int32) (hn : n < 2 ^ 31) : Met l yJ7_fill_53178 wk_k_fill ({ frames := 0, cells := 0, slots := 0, locals := 0 } : Room) (va_Pc [.ref a0, .int v] (Pw D cI cB cP sz [(a0, .inl (cI, n, .inl f))])) (va_Qv (fun (_ : Unit) => True) (fun _ t => ∃ g : Nat → Int32, (∀ k : Nat, k < n → g k = v) ∧ va_P D vwCl [(a0, .inl (cI, n, .inl g))] t.heap ∧ va_D (va_A [(a0, .inl (cI, n, .inl f))] sz) [(a0, .inl (cI, n, .inl g))]) (va_A [(a0, .inl (cI, n, .inl f))] sz)) 0 0 (va_A [(a0, .inl (cI, n, .inl f))] sz) := by
  refine Met.ofW (cc := cJ7_fill_53178) (maxL := 4) (ret := none) (by decide) rfl ?_
  intro p e s m args below meth c s₁ B hml hv
  obtain ⟨rfl, hsz, hP, ⟨hK, hN⟩, hD0⟩ := hv
  have hx := B.exec
  have hb := B.bytes
  have hr := B.returns
  have hts := atoms_spec (ws := wk_k_fill) B.pre
  have hown : s.vm.findClass RJ7 = some m.cls := findClass_of_methodNamed B.named
  have hlocks := B.notSynchronized
  subst hsz
  have hD := hD0.self (sz := s.heap.size)
  generalize hAe : va_A [(a0, .inl (cI, n, .inl f))] s.heap.size = A at hD ⊢
  have hA : ∀ q : Nat, s.heap.size ≤ q → A q := fun q h => by rw [← hAe]; exact Or.inr h
  have hS : va_S A s.heap s.heap [] := va_S.rf
  have hP : va_P D vwCl [(a0, .inl (cI, n, .inl f))] s.heap := hP
  have hl := lv_entry ([.ref a0, .int v]) (n := 4) (Nat.le_of_ble_eq_true rfl)
  rw [lg_entry_eq]
  generalize (lg_sl ([.ref a0, .int v]) ++ List.replicate (4 - (lg_sl ([.ref a0, .int v])).length) Slot.unset).toArray = ls at hl ⊢
  have hl : lv_has ls 4 [(0, .ref a0), (1, .int v)] := hl
  refine lv_iconst (v := 0) hx hb dJ7_fill_53178_0 (by decide) ?_
  refine lv_istore_n (lv' := [(2, .int 0), (0, .ref a0), (1, .int v)]) hx hb dJ7_fill_53178_1 rfl hl (by decide) rfl (fun ls hl => ?_)
  refine lv_aload_n hx hb dJ7_fill_53178_2 rfl (lv_at hl 1 rfl) ?_
  refine va_alen (v := nI n) hx hb hK hP 0 0 rfl rfl rfl dJ7_fill_53178_3 ?_
  refine lv_istore_n (lv' := [(3, .int (nI n)), (2, .int 0), (0, .ref a0), (1, .int v)]) hx hb dJ7_fill_53178_4 rfl hl (by decide) rfl (fun ls hl => ?_)
  have loop1 : ∀ (N2 : Nat) (i : Nat) (f : Nat → Int32) (H : Heap) (locs : List Loc) (ls : Array Slot), (i ≤ n) → (∀ k : Nat, k < i → f k = v) → n - i < N2 → va_P D vwCl [(a0, .inl (cI, n, .inl f))] H → va_D A [(a0, .inl (cI, n, .inl f))] → va_S A s.heap H locs → lv_has ls 4 [(2, .int (nI i)), (3, .int (nI n)), (0, .ref a0), (1, .int v)] → W p l e ({ frames := 0, cells := 0, slots := 0, locals := 0 } : Room) s m ([.ref a0, .int v] : List Value).toArray below meth c H locs 0 0 (MQ below (va_Qv (fun (_ : Unit) => True) (fun _ t => ∃ g : Nat → Int32, (∀ k : Nat, k < n → g k = v) ∧ va_P D vwCl [(a0, .inl (cI, n, .inl g))] t.heap ∧ va_D A [(a0, .inl (cI, n, .inl g))]) A) ([.ref a0, .int v] : List Value).toArray s 0 0 A) (F0 m 5 ls []) := by
    intro N2
    induction N2 with
    | zero => intro i f H locs ls hi hv hm9 hP hD hS hl; exact absurd hm9 (Nat.not_lt_zero _)
    | succ N2 ih => 
      intro i f H locs ls hi hv hm9 hP hD hS hl
      refine lv_iload_n hx hb dJ7_fill_53178_5 rfl (lv_at hl 0 rfl) ?_
      refine lv_iload_n hx hb dJ7_fill_53178_6 rfl (lv_at hl 1 rfl) ?_
      refine lv_icmp_ge (tgt := 20) hx hb dJ7_fill_53178_7 (by decide) (fun c3 => ?_) (fun c3 => ?_)
      · have nc3 : n ≤ i := (nI_leI (a := n) (b := i) (by omega) (by omega)).mp c3
        have hP9 := hP.sub (ws' := [(a0, .inl (cI, n, .inl f))]) [0] rfl
        have hD9 := hD.sub (ws' := [(a0, .inl (cI, n, .inl f))]) [0] (by decide) rfl
        refine W.widen (k := 0) (n := 0) (by decide) (by decide) ?_
        exact W.vret hx hb hr (fun t ht hW => ⟨⟨(), rfl, trivial, f, (fun k hk => hv k (by omega)), by rw [ht]; exact hP9, hD9⟩, hS.F ht⟩) hS.2.2 dJ7_fill_53178_20
      · have nc3 : ¬ (n ≤ i) := fun h => c3 ((nI_leI (a := n) (b := i) (by omega) (by omega)).mpr h)
        refine lv_aload_n hx hb dJ7_fill_53178_10 rfl (lv_at hl 2 rfl) ?_
        refine lv_iload_n hx hb dJ7_fill_53178_11 rfl (lv_at hl 0 rfl) ?_
        refine lv_iload_n hx hb dJ7_fill_53178_12 rfl (lv_at hl 3 rfl) ?_
        refine va_iast hx hb hK hP hD hS 0 0 rfl rfl (vp_in_nI (by omega) hn) dJ7_fill_53178_13 (fun H locs hP hD hS => ?_)
        have hP : va_P D vwCl [(a0, .inl (cI, n, .inl (upd f (nI i).toNatClampNeg v)))] H := hP
        have hD : va_D A [(a0, .inl (cI, n, .inl (upd f (nI i).toNatClampNeg v)))] := hD
        obtain ⟨f4, ef4⟩ : ∃ z : Nat → Int32, z = (upd f (nI i).toNatClampNeg v) := ⟨_, rfl⟩
        rw [← ef4] at hP hD
        refine lv_iinc (v := nI (i + 1)) (lv' := [(2, .int (nI (i + 1))), (3, .int (nI n)), (0, .ref a0), (1, .int v)]) hx hb dJ7_fill_53178_14 hl (k := 0) rfl (show nI i + 1 = _ from nI_1 i) (by decide) rfl (fun ls hl => ?_)
        refine lv_goto (tgt := 5) hx hb dJ7_fill_53178_17 (by decide) ?_
        exact ih (i + 1) f4 _ _ _ (by omega) (fun k hk => by rw [ef4, nI_clamp (by omega)]; exact (Decidable.em (k = i)).elim (fun e9 => by subst e9; exact pk_us) (fun e9 => by rw [pk_un e9]; exact hv k (by omega))) (by omega) (hP.sub [0] rfl) (hD.sub [0] (by decide) rfl) hS (lv_sub hl [0, 1, 2, 3] rfl)
  exact loop1 _ 0 f _ _ _ (Nat.zero_le _) (fun k hk => absurd hk (Nat.not_lt_zero _)) (Nat.lt_succ_self _) (hP.sub [0] rfl) (hD.sub [0] (by decide) rfl) hS (lv_sub hl [1, 0, 2, 3] rfl)

def wk_k_clear : List Cond := .code yX0_clear cX0_clear 1 none :: ([.fieldLink RX0 54 "FlightDesk$Book" "legCount" "I", .fieldLink RX0 58 "FlightDesk$Book" "lineCount" "I", .fieldLink RX0 33 "FlightDesk$Book" "speed" "[I", .methodLink RX0 61 yJ7_fill_53178, .static yJ7_fill_53178, .initialized RJ7, .code yJ7_fill_53178 cJ7_fill_53178 4 none, .fieldLink RX0 36 "FlightDesk$Book" "wind" "[I", .fieldLink RX0 39 "FlightDesk$Book" "burn" "[I", .fieldLink RX0 42 "FlightDesk$Book" "climb" "[I", .fieldLink RX0 45 "FlightDesk$Book" "limit" "[I"] ++ wsX00)
theorem iw_k_clear_0 : ∀ w ∈ wsX00, w ∈ wk_k_clear := fun _ h => List.mem_cons_of_mem _ (List.mem_append_right _ h)
set_option maxRecDepth 20000 in
theorem gw_k_clear_0 : GoodIn wk_k_clear (va_wsS RX0 61 yJ7_fill_53178 wk_k_fill) := goodIn_sub (by decide +kernel) (by decide +kernel)
set_option maxHeartbeats 4000000 in
set_option maxRecDepth 100000 in
theorem k_clear (l : Launch) (D : va_G) (cI cB cP : ClassId) (sz : Nat) (h0 : Nat) (lc : Int32) (ln : Int32) (a2 : Nat) (a3 : Nat) (a4 : Nat) (a5 : Nat) (a6 : Nat) (a7 : Nat) (a8 : Nat) (a9 : Nat) (a10 : Nat) (a11 : Nat) (a12 : Nat) (a13 : Nat) (a14 : Nat) (f9 : Nat → Int32) (f10 : Nat → Int32) (f11 : Nat → Int32) (f12 : Nat → Int32) (f13 : Nat → Int32) : Met l yX0_clear wk_k_clear ({ frames := 1, cells := 0, slots := 0, locals := 23 } : Room) (va_Pc [.ref h0] (Pw D cI cB cP sz [(h0, .inr (0, [.int lc, .int ln, .ref a2, .ref a3, .ref a4, .ref a5, .ref a6, .ref a7, .ref a8, .ref a9, .ref a10, .ref a11, .ref a12, .ref a13, .ref a14])), (a9, .inl (cI, 6, .inl f9)), (a10, .inl (cI, 288, .inl f10)), (a11, .inl (cI, 30, .inl f11)), (a12, .inl (cI, 6, .inl f12)), (a13, .inl (cI, 4, .inl f13))])) (va_Qv (fun (_ : Unit) => True) (fun _ t => ∃ g9 : Nat → Int32, ∃ g10 : Nat → Int32, ∃ g11 : Nat → Int32, ∃ g12 : Nat → Int32, ∃ g13 : Nat → Int32, (∀ k : Nat, k < 6 → (g9 k).toInt = (-1000) ∨ (100 ≤ (g9 k).toInt ∧ (g9 k).toInt ≤ 999)) ∧ (∀ k : Nat, k < 288 → (g10 k).toInt = (-1000) ∨ ((-400) ≤ (g10 k).toInt ∧ (g10 k).toInt ≤ 400)) ∧ (∀ k : Nat, k < 30 → (g11 k).toInt = (-1000) ∨ (1 ≤ (g11 k).toInt ∧ (g11 k).toInt ≤ 9999)) ∧ (∀ k : Nat, k < 6 → (g12 k).toInt = (-1000) ∨ (0 ≤ (g12 k).toInt ∧ (g12 k).toInt ≤ 999)) ∧ (∀ k : Nat, k < 4 → (g13 k).toInt = (-1000) ∨ (0 ≤ (g13 k).toInt ∧ (g13 k).toInt ≤ 60000)) ∧ va_P D vwCl [(h0, .inr (0, [.int 0, .int 0, .ref a2, .ref a3, .ref a4, .ref a5, .ref a6, .ref a7, .ref a8, .ref a9, .ref a10, .ref a11, .ref a12, .ref a13, .ref a14])), (a9, .inl (cI, 6, .inl g9)), (a10, .inl (cI, 288, .inl g10)), (a11, .inl (cI, 30, .inl g11)), (a12, .inl (cI, 6, .inl g12)), (a13, .inl (cI, 4, .inl g13))] t.heap ∧ va_D (va_A [(h0, .inr (0, [.int lc, .int ln, .ref a2, .ref a3, .ref a4, .ref a5, .ref a6, .ref a7, .ref a8, .ref a9, .ref a10, .ref a11, .ref a12, .ref a13, .ref a14])), (a9, .inl (cI, 6, .inl f9)), (a10, .inl (cI, 288, .inl f10)), (a11, .inl (cI, 30, .inl f11)), (a12, .inl (cI, 6, .inl f12)), (a13, .inl (cI, 4, .inl f13))] sz) [(h0, .inr (0, [.int 0, .int 0, .ref a2, .ref a3, .ref a4, .ref a5, .ref a6, .ref a7, .ref a8, .ref a9, .ref a10, .ref a11, .ref a12, .ref a13, .ref a14])), (a9, .inl (cI, 6, .inl g9)), (a10, .inl (cI, 288, .inl g10)), (a11, .inl (cI, 30, .inl g11)), (a12, .inl (cI, 6, .inl g12)), (a13, .inl (cI, 4, .inl g13))]) (va_A [(h0, .inr (0, [.int lc, .int ln, .ref a2, .ref a3, .ref a4, .ref a5, .ref a6, .ref a7, .ref a8, .ref a9, .ref a10, .ref a11, .ref a12, .ref a13, .ref a14])), (a9, .inl (cI, 6, .inl f9)), (a10, .inl (cI, 288, .inl f10)), (a11, .inl (cI, 30, .inl f11)), (a12, .inl (cI, 6, .inl f12)), (a13, .inl (cI, 4, .inl f13))] sz)) 0 0 (va_A [(h0, .inr (0, [.int lc, .int ln, .ref a2, .ref a3, .ref a4, .ref a5, .ref a6, .ref a7, .ref a8, .ref a9, .ref a10, .ref a11, .ref a12, .ref a13, .ref a14])), (a9, .inl (cI, 6, .inl f9)), (a10, .inl (cI, 288, .inl f10)), (a11, .inl (cI, 30, .inl f11)), (a12, .inl (cI, 6, .inl f12)), (a13, .inl (cI, 4, .inl f13))] sz) := by
  refine Met.ofW (cc := cX0_clear) (maxL := 1) (ret := none) (by decide) rfl ?_
  intro p e s m args below meth c s₁ B hml hv
  obtain ⟨rfl, hsz, hP, ⟨hK, hN⟩, hD0⟩ := hv
  have hx := B.exec
  have hb := B.bytes
  have hr := B.returns
  have hts := atoms_spec (ws := wk_k_clear) B.pre
  have hown : s.vm.findClass RX0 = some m.cls := findClass_of_methodNamed B.named
  have hlocks := B.notSynchronized
  subst hsz
  have hD := hD0.self (sz := s.heap.size)
  generalize hAe : va_A [(h0, .inr (0, [.int lc, .int ln, .ref a2, .ref a3, .ref a4, .ref a5, .ref a6, .ref a7, .ref a8, .ref a9, .ref a10, .ref a11, .ref a12, .ref a13, .ref a14])), (a9, .inl (cI, 6, .inl f9)), (a10, .inl (cI, 288, .inl f10)), (a11, .inl (cI, 30, .inl f11)), (a12, .inl (cI, 6, .inl f12)), (a13, .inl (cI, 4, .inl f13))] s.heap.size = A at hD ⊢
  have hA : ∀ q : Nat, s.heap.size ≤ q → A q := fun q h => by rw [← hAe]; exact Or.inr h
  have hS : va_S A s.heap s.heap [] := va_S.rf
  have hP : va_P D vwCl [(h0, .inr (0, [.int lc, .int ln, .ref a2, .ref a3, .ref a4, .ref a5, .ref a6, .ref a7, .ref a8, .ref a9, .ref a10, .ref a11, .ref a12, .ref a13, .ref a14])), (a9, .inl (cI, 6, .inl f9)), (a10, .inl (cI, 288, .inl f10)), (a11, .inl (cI, 30, .inl f11)), (a12, .inl (cI, 6, .inl f12)), (a13, .inl (cI, 4, .inl f13))] s.heap := hP
  have hl := lv_entry ([.ref h0]) (n := 1) (Nat.le_of_ble_eq_true rfl)
  rw [lg_entry_eq]
  generalize (lg_sl ([.ref h0]) ++ List.replicate (1 - (lg_sl ([.ref h0])).length) Slot.unset).toArray = ls at hl ⊢
  have hl : lv_has ls 1 [(0, .ref h0)] := hl
  refine lv_aload_n hx hb dX0_clear_0 rfl (lv_at hl 0 rfl) ?_
  refine lv_iconst (v := 0) hx hb dX0_clear_1 (by decide) ?_
  refine va_put (D := D) (ci := 0) (v := .int 0) (ty := .int) (C := RX0) (T := TX0) (N := 15) hx hb hts iw_k_clear_0 tyX0 tyX0_ok nmX0 hown hK hP hD hS 0 rfl rfl 0 (by decide) (hts (.fieldLink RX0 54 "FlightDesk$Book" "legCount" "I") (by decide +kernel)) (fun _ h9 => h9) rfl (by decide +kernel) rfl rfl (Nat.le_of_ble_eq_true rfl) dX0_clear_2 (fun H locs hP hD hS => ?_)
  have hP : va_P D vwCl [(h0, .inr (0, [.int 0, .int ln, .ref a2, .ref a3, .ref a4, .ref a5, .ref a6, .ref a7, .ref a8, .ref a9, .ref a10, .ref a11, .ref a12, .ref a13, .ref a14])), (a9, .inl (cI, 6, .inl f9)), (a10, .inl (cI, 288, .inl f10)), (a11, .inl (cI, 30, .inl f11)), (a12, .inl (cI, 6, .inl f12)), (a13, .inl (cI, 4, .inl f13))] H := hP
  have hD : va_D A [(h0, .inr (0, [.int 0, .int ln, .ref a2, .ref a3, .ref a4, .ref a5, .ref a6, .ref a7, .ref a8, .ref a9, .ref a10, .ref a11, .ref a12, .ref a13, .ref a14])), (a9, .inl (cI, 6, .inl f9)), (a10, .inl (cI, 288, .inl f10)), (a11, .inl (cI, 30, .inl f11)), (a12, .inl (cI, 6, .inl f12)), (a13, .inl (cI, 4, .inl f13))] := hD
  refine lv_aload_n hx hb dX0_clear_5 rfl (lv_at hl 0 rfl) ?_
  refine lv_iconst (v := 0) hx hb dX0_clear_6 (by decide) ?_
  refine va_put (D := D) (ci := 0) (v := .int 0) (ty := .int) (C := RX0) (T := TX0) (N := 15) hx hb hts iw_k_clear_0 tyX0 tyX0_ok nmX0 hown hK hP hD hS 0 rfl rfl 1 (by decide) (hts (.fieldLink RX0 58 "FlightDesk$Book" "lineCount" "I") (by decide +kernel)) (fun _ h9 => h9) rfl (by decide +kernel) rfl rfl (Nat.le_of_ble_eq_true rfl) dX0_clear_7 (fun H locs hP hD hS => ?_)
  have hP : va_P D vwCl [(h0, .inr (0, [.int 0, .int 0, .ref a2, .ref a3, .ref a4, .ref a5, .ref a6, .ref a7, .ref a8, .ref a9, .ref a10, .ref a11, .ref a12, .ref a13, .ref a14])), (a9, .inl (cI, 6, .inl f9)), (a10, .inl (cI, 288, .inl f10)), (a11, .inl (cI, 30, .inl f11)), (a12, .inl (cI, 6, .inl f12)), (a13, .inl (cI, 4, .inl f13))] H := hP
  have hD : va_D A [(h0, .inr (0, [.int 0, .int 0, .ref a2, .ref a3, .ref a4, .ref a5, .ref a6, .ref a7, .ref a8, .ref a9, .ref a10, .ref a11, .ref a12, .ref a13, .ref a14])), (a9, .inl (cI, 6, .inl f9)), (a10, .inl (cI, 288, .inl f10)), (a11, .inl (cI, 30, .inl f11)), (a12, .inl (cI, 6, .inl f12)), (a13, .inl (cI, 4, .inl f13))] := hD
  refine lv_aload_n hx hb dX0_clear_10 rfl (lv_at hl 0 rfl) ?_
  refine va_get (D := D) (ci := 0) (v := .ref a9) (C := RX0) (T := TX0) (N := 15) hx hb hts iw_k_clear_0 hown hK hP 0 rfl rfl 9 (by decide) (hts (.fieldLink RX0 33 "FlightDesk$Book" "speed" "[I") (by decide +kernel)) (fun _ h9 => h9) rfl dX0_clear_11 ?_
  refine lv_sipush (v := (-1000)) hx hb dX0_clear_14 (by decide) ?_
  have hPc := hP.sub (ws' := [(a9, .inl (cI, 6, .inl f9))]) [1] rfl
  have hDc := hD.sub (ws' := [(a9, .inl (cI, 6, .inl f9))]) [1] (by decide) rfl
  have hFc := va_free (wc := [(a9, .inl (cI, 6, .inl f9))]) hD hS hA [1] rfl
  refine va_callv (va_runS (As := [.ref a9, .int (-1000)]) (rest := []) ⟨hx, hb, hml, hown, hts⟩ (k_fill l D cI cB cP H.size a9 6 f9 (-1000) (show 6 < 2 ^ 31 by first | assumption | omega | decide)) (va_cwS 2 hts gw_k_clear_0 rfl rfl rfl (by decide +kernel) ⟨Nat.le_of_ble_eq_true rfl, Nat.le_of_ble_eq_true rfl⟩) ⟨ny_blind, ny_pre hPc hK hN hDc⟩ rfl rfl hl.1 rfl (lv_room (Nat.le_of_ble_eq_true rfl)) dX0_clear_17 ⟨Nat.le_of_ble_eq_true rfl, Nat.le_of_ble_eq_true rfl⟩) hS (fun q _ h => hFc q h) hFc (fun u t H locs ht hvm hw hB hz1 hk1 hS => ?_)
  obtain ⟨g_1, hp3, hP1, hD1⟩ := hB
  rw [ht] at hP1
  have hp3 : ∀ k : Nat, k < 6 → g_1 k = (-1000) := hp3
  obtain ⟨hP, hD⟩ := va_join (wr := [(h0, .inr (0, [.int 0, .int 0, .ref a2, .ref a3, .ref a4, .ref a5, .ref a6, .ref a7, .ref a8, .ref a9, .ref a10, .ref a11, .ref a12, .ref a13, .ref a14])), (a10, .inl (cI, 288, .inl f10)), (a11, .inl (cI, 30, .inl f11)), (a12, .inl (cI, 6, .inl f12)), (a13, .inl (cI, 4, .inl f13))]) (w1 := [(a9, .inl (cI, 6, .inl g_1))]) hP hD [1] [0, 2, 3, 4, 5] rfl rfl (by decide) (by decide) hk1 hFc hP1 hD1
  have hP : va_P D vwCl [(h0, .inr (0, [.int 0, .int 0, .ref a2, .ref a3, .ref a4, .ref a5, .ref a6, .ref a7, .ref a8, .ref a9, .ref a10, .ref a11, .ref a12, .ref a13, .ref a14])), (a10, .inl (cI, 288, .inl f10)), (a11, .inl (cI, 30, .inl f11)), (a12, .inl (cI, 6, .inl f12)), (a13, .inl (cI, 4, .inl f13)), (a9, .inl (cI, 6, .inl g_1))] H := hP
  have hD : va_D A [(h0, .inr (0, [.int 0, .int 0, .ref a2, .ref a3, .ref a4, .ref a5, .ref a6, .ref a7, .ref a8, .ref a9, .ref a10, .ref a11, .ref a12, .ref a13, .ref a14])), (a10, .inl (cI, 288, .inl f10)), (a11, .inl (cI, 30, .inl f11)), (a12, .inl (cI, 6, .inl f12)), (a13, .inl (cI, 4, .inl f13)), (a9, .inl (cI, 6, .inl g_1))] := hD
  refine lv_aload_n hx hb dX0_clear_20 rfl (lv_at hl 0 rfl) ?_
  refine va_get (D := D) (ci := 0) (v := .ref a10) (C := RX0) (T := TX0) (N := 15) hx hb hts iw_k_clear_0 hown hK hP 0 rfl rfl 10 (by decide) (hts (.fieldLink RX0 36 "FlightDesk$Book" "wind" "[I") (by decide +kernel)) (fun _ h9 => h9) rfl dX0_clear_21 ?_
  refine lv_sipush (v := (-1000)) hx hb dX0_clear_24 (by decide) ?_
  have hPc := hP.sub (ws' := [(a10, .inl (cI, 288, .inl f10))]) [1] rfl
  have hDc := hD.sub (ws' := [(a10, .inl (cI, 288, .inl f10))]) [1] (by decide) rfl
  have hFc := va_free (wc := [(a10, .inl (cI, 288, .inl f10))]) hD hS hA [1] rfl
  refine va_callv (va_runS (As := [.ref a10, .int (-1000)]) (rest := []) ⟨hx, hb, hml, hown, hts⟩ (k_fill l D cI cB cP H.size a10 288 f10 (-1000) (show 288 < 2 ^ 31 by first | assumption | omega | decide)) (va_cwS 2 hts gw_k_clear_0 rfl rfl rfl (by decide +kernel) ⟨Nat.le_of_ble_eq_true rfl, Nat.le_of_ble_eq_true rfl⟩) ⟨ny_blind, ny_pre hPc hK hN hDc⟩ rfl rfl hl.1 rfl (lv_room (Nat.le_of_ble_eq_true rfl)) dX0_clear_27 ⟨Nat.le_of_ble_eq_true rfl, Nat.le_of_ble_eq_true rfl⟩) hS (fun q _ h => hFc q h) hFc (fun u t H locs ht hvm hw hB hz1 hk1 hS => ?_)
  obtain ⟨g_4, hp6, hP1, hD1⟩ := hB
  rw [ht] at hP1
  have hp6 : ∀ k : Nat, k < 288 → g_4 k = (-1000) := hp6
  obtain ⟨hP, hD⟩ := va_join (wr := [(h0, .inr (0, [.int 0, .int 0, .ref a2, .ref a3, .ref a4, .ref a5, .ref a6, .ref a7, .ref a8, .ref a9, .ref a10, .ref a11, .ref a12, .ref a13, .ref a14])), (a11, .inl (cI, 30, .inl f11)), (a12, .inl (cI, 6, .inl f12)), (a13, .inl (cI, 4, .inl f13)), (a9, .inl (cI, 6, .inl g_1))]) (w1 := [(a10, .inl (cI, 288, .inl g_4))]) hP hD [1] [0, 2, 3, 4, 5] rfl rfl (by decide) (by decide) hk1 hFc hP1 hD1
  have hP : va_P D vwCl [(h0, .inr (0, [.int 0, .int 0, .ref a2, .ref a3, .ref a4, .ref a5, .ref a6, .ref a7, .ref a8, .ref a9, .ref a10, .ref a11, .ref a12, .ref a13, .ref a14])), (a11, .inl (cI, 30, .inl f11)), (a12, .inl (cI, 6, .inl f12)), (a13, .inl (cI, 4, .inl f13)), (a9, .inl (cI, 6, .inl g_1)), (a10, .inl (cI, 288, .inl g_4))] H := hP
  have hD : va_D A [(h0, .inr (0, [.int 0, .int 0, .ref a2, .ref a3, .ref a4, .ref a5, .ref a6, .ref a7, .ref a8, .ref a9, .ref a10, .ref a11, .ref a12, .ref a13, .ref a14])), (a11, .inl (cI, 30, .inl f11)), (a12, .inl (cI, 6, .inl f12)), (a13, .inl (cI, 4, .inl f13)), (a9, .inl (cI, 6, .inl g_1)), (a10, .inl (cI, 288, .inl g_4))] := hD
  refine lv_aload_n hx hb dX0_clear_30 rfl (lv_at hl 0 rfl) ?_
  refine va_get (D := D) (ci := 0) (v := .ref a11) (C := RX0) (T := TX0) (N := 15) hx hb hts iw_k_clear_0 hown hK hP 0 rfl rfl 11 (by decide) (hts (.fieldLink RX0 39 "FlightDesk$Book" "burn" "[I") (by decide +kernel)) (fun _ h9 => h9) rfl dX0_clear_31 ?_
  refine lv_sipush (v := (-1000)) hx hb dX0_clear_34 (by decide) ?_
  have hPc := hP.sub (ws' := [(a11, .inl (cI, 30, .inl f11))]) [1] rfl
  have hDc := hD.sub (ws' := [(a11, .inl (cI, 30, .inl f11))]) [1] (by decide) rfl
  have hFc := va_free (wc := [(a11, .inl (cI, 30, .inl f11))]) hD hS hA [1] rfl
  refine va_callv (va_runS (As := [.ref a11, .int (-1000)]) (rest := []) ⟨hx, hb, hml, hown, hts⟩ (k_fill l D cI cB cP H.size a11 30 f11 (-1000) (show 30 < 2 ^ 31 by first | assumption | omega | decide)) (va_cwS 2 hts gw_k_clear_0 rfl rfl rfl (by decide +kernel) ⟨Nat.le_of_ble_eq_true rfl, Nat.le_of_ble_eq_true rfl⟩) ⟨ny_blind, ny_pre hPc hK hN hDc⟩ rfl rfl hl.1 rfl (lv_room (Nat.le_of_ble_eq_true rfl)) dX0_clear_37 ⟨Nat.le_of_ble_eq_true rfl, Nat.le_of_ble_eq_true rfl⟩) hS (fun q _ h => hFc q h) hFc (fun u t H locs ht hvm hw hB hz1 hk1 hS => ?_)
  obtain ⟨g_7, hp9, hP1, hD1⟩ := hB
  rw [ht] at hP1
  have hp9 : ∀ k : Nat, k < 30 → g_7 k = (-1000) := hp9
  obtain ⟨hP, hD⟩ := va_join (wr := [(h0, .inr (0, [.int 0, .int 0, .ref a2, .ref a3, .ref a4, .ref a5, .ref a6, .ref a7, .ref a8, .ref a9, .ref a10, .ref a11, .ref a12, .ref a13, .ref a14])), (a12, .inl (cI, 6, .inl f12)), (a13, .inl (cI, 4, .inl f13)), (a9, .inl (cI, 6, .inl g_1)), (a10, .inl (cI, 288, .inl g_4))]) (w1 := [(a11, .inl (cI, 30, .inl g_7))]) hP hD [1] [0, 2, 3, 4, 5] rfl rfl (by decide) (by decide) hk1 hFc hP1 hD1
  have hP : va_P D vwCl [(h0, .inr (0, [.int 0, .int 0, .ref a2, .ref a3, .ref a4, .ref a5, .ref a6, .ref a7, .ref a8, .ref a9, .ref a10, .ref a11, .ref a12, .ref a13, .ref a14])), (a12, .inl (cI, 6, .inl f12)), (a13, .inl (cI, 4, .inl f13)), (a9, .inl (cI, 6, .inl g_1)), (a10, .inl (cI, 288, .inl g_4)), (a11, .inl (cI, 30, .inl g_7))] H := hP
  have hD : va_D A [(h0, .inr (0, [.int 0, .int 0, .ref a2, .ref a3, .ref a4, .ref a5, .ref a6, .ref a7, .ref a8, .ref a9, .ref a10, .ref a11, .ref a12, .ref a13, .ref a14])), (a12, .inl (cI, 6, .inl f12)), (a13, .inl (cI, 4, .inl f13)), (a9, .inl (cI, 6, .inl g_1)), (a10, .inl (cI, 288, .inl g_4)), (a11, .inl (cI, 30, .inl g_7))] := hD
  refine lv_aload_n hx hb dX0_clear_40 rfl (lv_at hl 0 rfl) ?_
  refine va_get (D := D) (ci := 0) (v := .ref a12) (C := RX0) (T := TX0) (N := 15) hx hb hts iw_k_clear_0 hown hK hP 0 rfl rfl 12 (by decide) (hts (.fieldLink RX0 42 "FlightDesk$Book" "climb" "[I") (by decide +kernel)) (fun _ h9 => h9) rfl dX0_clear_41 ?_
  refine lv_sipush (v := (-1000)) hx hb dX0_clear_44 (by decide) ?_
  have hPc := hP.sub (ws' := [(a12, .inl (cI, 6, .inl f12))]) [1] rfl
  have hDc := hD.sub (ws' := [(a12, .inl (cI, 6, .inl f12))]) [1] (by decide) rfl
  have hFc := va_free (wc := [(a12, .inl (cI, 6, .inl f12))]) hD hS hA [1] rfl
  refine va_callv (va_runS (As := [.ref a12, .int (-1000)]) (rest := []) ⟨hx, hb, hml, hown, hts⟩ (k_fill l D cI cB cP H.size a12 6 f12 (-1000) (show 6 < 2 ^ 31 by first | assumption | omega | decide)) (va_cwS 2 hts gw_k_clear_0 rfl rfl rfl (by decide +kernel) ⟨Nat.le_of_ble_eq_true rfl, Nat.le_of_ble_eq_true rfl⟩) ⟨ny_blind, ny_pre hPc hK hN hDc⟩ rfl rfl hl.1 rfl (lv_room (Nat.le_of_ble_eq_true rfl)) dX0_clear_47 ⟨Nat.le_of_ble_eq_true rfl, Nat.le_of_ble_eq_true rfl⟩) hS (fun q _ h => hFc q h) hFc (fun u t H locs ht hvm hw hB hz1 hk1 hS => ?_)
  obtain ⟨g_10, hp12, hP1, hD1⟩ := hB
  rw [ht] at hP1
  have hp12 : ∀ k : Nat, k < 6 → g_10 k = (-1000) := hp12
  obtain ⟨hP, hD⟩ := va_join (wr := [(h0, .inr (0, [.int 0, .int 0, .ref a2, .ref a3, .ref a4, .ref a5, .ref a6, .ref a7, .ref a8, .ref a9, .ref a10, .ref a11, .ref a12, .ref a13, .ref a14])), (a13, .inl (cI, 4, .inl f13)), (a9, .inl (cI, 6, .inl g_1)), (a10, .inl (cI, 288, .inl g_4)), (a11, .inl (cI, 30, .inl g_7))]) (w1 := [(a12, .inl (cI, 6, .inl g_10))]) hP hD [1] [0, 2, 3, 4, 5] rfl rfl (by decide) (by decide) hk1 hFc hP1 hD1
  have hP : va_P D vwCl [(h0, .inr (0, [.int 0, .int 0, .ref a2, .ref a3, .ref a4, .ref a5, .ref a6, .ref a7, .ref a8, .ref a9, .ref a10, .ref a11, .ref a12, .ref a13, .ref a14])), (a13, .inl (cI, 4, .inl f13)), (a9, .inl (cI, 6, .inl g_1)), (a10, .inl (cI, 288, .inl g_4)), (a11, .inl (cI, 30, .inl g_7)), (a12, .inl (cI, 6, .inl g_10))] H := hP
  have hD : va_D A [(h0, .inr (0, [.int 0, .int 0, .ref a2, .ref a3, .ref a4, .ref a5, .ref a6, .ref a7, .ref a8, .ref a9, .ref a10, .ref a11, .ref a12, .ref a13, .ref a14])), (a13, .inl (cI, 4, .inl f13)), (a9, .inl (cI, 6, .inl g_1)), (a10, .inl (cI, 288, .inl g_4)), (a11, .inl (cI, 30, .inl g_7)), (a12, .inl (cI, 6, .inl g_10))] := hD
  refine lv_aload_n hx hb dX0_clear_50 rfl (lv_at hl 0 rfl) ?_
  refine va_get (D := D) (ci := 0) (v := .ref a13) (C := RX0) (T := TX0) (N := 15) hx hb hts iw_k_clear_0 hown hK hP 0 rfl rfl 13 (by decide) (hts (.fieldLink RX0 45 "FlightDesk$Book" "limit" "[I") (by decide +kernel)) (fun _ h9 => h9) rfl dX0_clear_51 ?_
  refine lv_sipush (v := (-1000)) hx hb dX0_clear_54 (by decide) ?_
  have hPc := hP.sub (ws' := [(a13, .inl (cI, 4, .inl f13))]) [1] rfl
  have hDc := hD.sub (ws' := [(a13, .inl (cI, 4, .inl f13))]) [1] (by decide) rfl
  have hFc := va_free (wc := [(a13, .inl (cI, 4, .inl f13))]) hD hS hA [1] rfl
  refine va_callv (va_runS (As := [.ref a13, .int (-1000)]) (rest := []) ⟨hx, hb, hml, hown, hts⟩ (k_fill l D cI cB cP H.size a13 4 f13 (-1000) (show 4 < 2 ^ 31 by first | assumption | omega | decide)) (va_cwS 2 hts gw_k_clear_0 rfl rfl rfl (by decide +kernel) ⟨Nat.le_of_ble_eq_true rfl, Nat.le_of_ble_eq_true rfl⟩) ⟨ny_blind, ny_pre hPc hK hN hDc⟩ rfl rfl hl.1 rfl (lv_room (Nat.le_of_ble_eq_true rfl)) dX0_clear_57 ⟨Nat.le_of_ble_eq_true rfl, Nat.le_of_ble_eq_true rfl⟩) hS (fun q _ h => hFc q h) hFc (fun u t H locs ht hvm hw hB hz1 hk1 hS => ?_)
  obtain ⟨g_13, hp15, hP1, hD1⟩ := hB
  rw [ht] at hP1
  have hp15 : ∀ k : Nat, k < 4 → g_13 k = (-1000) := hp15
  obtain ⟨hP, hD⟩ := va_join (wr := [(h0, .inr (0, [.int 0, .int 0, .ref a2, .ref a3, .ref a4, .ref a5, .ref a6, .ref a7, .ref a8, .ref a9, .ref a10, .ref a11, .ref a12, .ref a13, .ref a14])), (a9, .inl (cI, 6, .inl g_1)), (a10, .inl (cI, 288, .inl g_4)), (a11, .inl (cI, 30, .inl g_7)), (a12, .inl (cI, 6, .inl g_10))]) (w1 := [(a13, .inl (cI, 4, .inl g_13))]) hP hD [1] [0, 2, 3, 4, 5] rfl rfl (by decide) (by decide) hk1 hFc hP1 hD1
  have hP : va_P D vwCl [(h0, .inr (0, [.int 0, .int 0, .ref a2, .ref a3, .ref a4, .ref a5, .ref a6, .ref a7, .ref a8, .ref a9, .ref a10, .ref a11, .ref a12, .ref a13, .ref a14])), (a9, .inl (cI, 6, .inl g_1)), (a10, .inl (cI, 288, .inl g_4)), (a11, .inl (cI, 30, .inl g_7)), (a12, .inl (cI, 6, .inl g_10)), (a13, .inl (cI, 4, .inl g_13))] H := hP
  have hD : va_D A [(h0, .inr (0, [.int 0, .int 0, .ref a2, .ref a3, .ref a4, .ref a5, .ref a6, .ref a7, .ref a8, .ref a9, .ref a10, .ref a11, .ref a12, .ref a13, .ref a14])), (a9, .inl (cI, 6, .inl g_1)), (a10, .inl (cI, 288, .inl g_4)), (a11, .inl (cI, 30, .inl g_7)), (a12, .inl (cI, 6, .inl g_10)), (a13, .inl (cI, 4, .inl g_13))] := hD
  have hP9 := hP.sub (ws' := [(h0, .inr (0, [.int 0, .int 0, .ref a2, .ref a3, .ref a4, .ref a5, .ref a6, .ref a7, .ref a8, .ref a9, .ref a10, .ref a11, .ref a12, .ref a13, .ref a14])), (a9, .inl (cI, 6, .inl g_1)), (a10, .inl (cI, 288, .inl g_4)), (a11, .inl (cI, 30, .inl g_7)), (a12, .inl (cI, 6, .inl g_10)), (a13, .inl (cI, 4, .inl g_13))]) [0, 1, 2, 3, 4, 5] rfl
  have hD9 := hD.sub (ws' := [(h0, .inr (0, [.int 0, .int 0, .ref a2, .ref a3, .ref a4, .ref a5, .ref a6, .ref a7, .ref a8, .ref a9, .ref a10, .ref a11, .ref a12, .ref a13, .ref a14])), (a9, .inl (cI, 6, .inl g_1)), (a10, .inl (cI, 288, .inl g_4)), (a11, .inl (cI, 30, .inl g_7)), (a12, .inl (cI, 6, .inl g_10)), (a13, .inl (cI, 4, .inl g_13))]) [0, 1, 2, 3, 4, 5] (by decide) rfl
  refine W.widen (k := 0) (n := 0) (by decide) (by decide) ?_
  exact W.vret hx hb hr (fun t ht hW => ⟨⟨(), rfl, trivial, g_1, g_4, g_7, g_10, g_13, (fun k hk => Or.inl (by rw [hp3 k hk]; decide)), (fun k hk => Or.inl (by rw [hp6 k hk]; decide)), (fun k hk => Or.inl (by rw [hp9 k hk]; decide)), (fun k hk => Or.inl (by rw [hp12 k hk]; decide)), (fun k hk => Or.inl (by rw [hp15 k hk]; decide)), by rw [ht]; exact hP9, hD9⟩, hS.F ht⟩) hS.2.2 dX0_clear_60

def wk_k_putIfUntold9 : List Cond := .code yX0_putIfUntold cX0_putIfUntold 3 none :: ([])
set_option maxHeartbeats 4000000 in
set_option maxRecDepth 100000 in
theorem k_putIfUntold9 (l : Launch) (D : va_G) (cI cB cP : ClassId) (sz : Nat) (ar : Nat) (i : Int32) (w : Int32) (f : Nat → Int32) (hi9 : 0 ≤ i.toInt ∧ i.toInt ≤ 5) (hw9 : 100 ≤ w.toInt ∧ w.toInt ≤ 999) (hf9 : ∀ k : Nat, k < 6 → (f k).toInt = (-1000) ∨ (100 ≤ (f k).toInt ∧ (f k).toInt ≤ 999)) : Met l yX0_putIfUntold wk_k_putIfUntold9 ({ frames := 0, cells := 0, slots := 0, locals := 0 } : Room) (va_Pc [.ref ar, .int i, .int w] (Pw D cI cB cP sz [(ar, .inl (cI, 6, .inl f))])) (va_Qv (fun (_ : Unit) => True) (fun _ t => ∃ g : Nat → Int32, (∀ k : Nat, k < 6 → (g k).toInt = (-1000) ∨ (100 ≤ (g k).toInt ∧ (g k).toInt ≤ 999)) ∧ (100 ≤ (g i.toNatClampNeg).toInt ∧ (g i.toNatClampNeg).toInt ≤ 999) ∧ (∀ k : Nat, k ≠ i.toNatClampNeg → g k = f k) ∧ va_P D vwCl [(ar, .inl (cI, 6, .inl g))] t.heap ∧ va_D (va_A [(ar, .inl (cI, 6, .inl f))] sz) [(ar, .inl (cI, 6, .inl g))]) (va_A [(ar, .inl (cI, 6, .inl f))] sz)) 0 0 (va_A [(ar, .inl (cI, 6, .inl f))] sz) := by
  refine Met.ofW (cc := cX0_putIfUntold) (maxL := 3) (ret := none) (by decide) rfl ?_
  intro p e s m args below meth c s₁ B hml hv
  obtain ⟨rfl, hsz, hP, ⟨hK, hN⟩, hD0⟩ := hv
  have hx := B.exec
  have hb := B.bytes
  have hr := B.returns
  have hts := atoms_spec (ws := wk_k_putIfUntold9) B.pre
  have hown : s.vm.findClass RX0 = some m.cls := findClass_of_methodNamed B.named
  have hlocks := B.notSynchronized
  subst hsz
  have hD := hD0.self (sz := s.heap.size)
  generalize hAe : va_A [(ar, .inl (cI, 6, .inl f))] s.heap.size = A at hD ⊢
  have hA : ∀ q : Nat, s.heap.size ≤ q → A q := fun q h => by rw [← hAe]; exact Or.inr h
  have hS : va_S A s.heap s.heap [] := va_S.rf
  have hP : va_P D vwCl [(ar, .inl (cI, 6, .inl f))] s.heap := hP
  have hl := lv_entry ([.ref ar, .int i, .int w]) (n := 3) (Nat.le_of_ble_eq_true rfl)
  rw [lg_entry_eq]
  generalize (lg_sl ([.ref ar, .int i, .int w]) ++ List.replicate (3 - (lg_sl ([.ref ar, .int i, .int w])).length) Slot.unset).toArray = ls at hl ⊢
  have hl : lv_has ls 3 [(0, .ref ar), (1, .int i), (2, .int w)] := hl
  refine lv_iload_n hx hb dX0_putIfUntold_0 rfl (lv_at hl 1 rfl) ?_
  refine lv_if_lt (tgt := 23) hx hb dX0_putIfUntold_1 (by decide) (fun h9 => absurd (show i.toInt < 0 from i32_lt h9) (by omega)) (fun c1 => ?_)
  refine lv_iload_n hx hb dX0_putIfUntold_4 rfl (lv_at hl 1 rfl) ?_
  refine lv_aload_n hx hb dX0_putIfUntold_5 rfl (lv_at hl 0 rfl) ?_
  refine va_alen (v := 6) hx hb hK hP 0 0 rfl rfl rfl dX0_putIfUntold_6 ?_
  refine lv_icmp_ge (tgt := 23) hx hb dX0_putIfUntold_7 (by decide) (fun h9 => absurd (show 6 ≤ i.toInt from i32_le h9) (by omega)) (fun c2 => ?_)
  refine lv_aload_n hx hb dX0_putIfUntold_10 rfl (lv_at hl 0 rfl) ?_
  refine lv_iload_n hx hb dX0_putIfUntold_11 rfl (lv_at hl 1 rfl) ?_
  refine va_iald hx hb hK hP 0 0 rfl rfl (vp_in_iff.mpr ⟨show 0 ≤ i.toInt by omega, show i.toInt < ((6 : Nat) : Int) by omega⟩) dX0_putIfUntold_12 ?_
  refine lv_topi (fun v3 ev3 => ?_)
  have tv3 : v3.toInt = (-1000) ∨ (100 ≤ v3.toInt ∧ v3.toInt ≤ 999) := by rw [ev3]; exact hf9 _ (ck_lt (show 0 ≤ i.toInt by omega) (show i.toInt < ((6 : Nat) : Int) by omega))
  refine lv_sipush (v := (-1000)) hx hb dX0_putIfUntold_13 (by decide) ?_
  refine lv_icmp_ne (tgt := 23) hx hb dX0_putIfUntold_16 (by decide) (fun c4 => ?_) (fun c4 => ?_)
  · have tc4 : ¬ (v3.toInt = (-1000)) := i32_neq c4
    have hP9 := hP.sub (ws' := [(ar, .inl (cI, 6, .inl f))]) [0] rfl
    have hD9 := hD.sub (ws' := [(ar, .inl (cI, 6, .inl f))]) [0] (by decide) rfl
    refine W.widen (k := 0) (n := 0) (by decide) (by decide) ?_
    exact W.vret hx hb hr (fun t ht hW => ⟨⟨(), rfl, trivial, f, (hf9), (by rw [← ev3]; omega), (fun k hk => rfl), by rw [ht]; exact hP9, hD9⟩, hS.F ht⟩) hS.2.2 dX0_putIfUntold_23
  · have tc4 : v3.toInt = (-1000) := i32_eq c4
    refine lv_aload_n hx hb dX0_putIfUntold_19 rfl (lv_at hl 0 rfl) ?_
    refine lv_iload_n hx hb dX0_putIfUntold_20 rfl (lv_at hl 1 rfl) ?_
    refine lv_iload_n hx hb dX0_putIfUntold_21 rfl (lv_at hl 2 rfl) ?_
    refine va_iast hx hb hK hP hD hS 0 0 rfl rfl (vp_in_iff.mpr ⟨show 0 ≤ i.toInt by omega, show i.toInt < ((6 : Nat) : Int) by omega⟩) dX0_putIfUntold_22 (fun H locs hP hD hS => ?_)
    have hP : va_P D vwCl [(ar, .inl (cI, 6, .inl (upd f i.toNatClampNeg w)))] H := hP
    have hD : va_D A [(ar, .inl (cI, 6, .inl (upd f i.toNatClampNeg w)))] := hD
    obtain ⟨f5, ef5⟩ : ∃ z : Nat → Int32, z = (upd f i.toNatClampNeg w) := ⟨_, rfl⟩
    rw [← ef5] at hP hD
    have hgf5 : ∀ k : Nat, k < 6 → (f5 k).toInt = (-1000) ∨ (100 ≤ (f5 k).toInt ∧ (f5 k).toInt ≤ 999) := by rw [ef5]; exact fun k hk => upd_all (P := fun z => z.toInt = (-1000) ∨ (100 ≤ z.toInt ∧ z.toInt ≤ 999)) hf9 (show w.toInt = (-1000) ∨ (100 ≤ w.toInt ∧ w.toInt ≤ 999) by omega) k hk
    have hP9 := hP.sub (ws' := [(ar, .inl (cI, 6, .inl f5))]) [0] rfl
    have hD9 := hD.sub (ws' := [(ar, .inl (cI, 6, .inl f5))]) [0] (by decide) rfl
    refine W.widen (k := 0) (n := 0) (by decide) (by decide) ?_
    exact W.vret hx hb hr (fun t ht hW => ⟨⟨(), rfl, trivial, f5, (hgf5), (by rw [ef5, pk_us]; exact hw9), (fun k hk => by rw [ef5]; exact pk_un hk), by rw [ht]; exact hP9, hD9⟩, hS.F ht⟩) hS.2.2 dX0_putIfUntold_23

def wk_k_putIfUntold10 : List Cond := .code yX0_putIfUntold cX0_putIfUntold 3 none :: ([])
set_option maxHeartbeats 4000000 in
set_option maxRecDepth 100000 in
theorem k_putIfUntold10 (l : Launch) (D : va_G) (cI cB cP : ClassId) (sz : Nat) (ar : Nat) (i : Int32) (w : Int32) (f : Nat → Int32) (hi9 : 0 ≤ i.toInt ∧ i.toInt ≤ 287) (hw9 : (-400) ≤ w.toInt ∧ w.toInt ≤ 400) (hf9 : ∀ k : Nat, k < 288 → (f k).toInt = (-1000) ∨ ((-400) ≤ (f k).toInt ∧ (f k).toInt ≤ 400)) : Met l yX0_putIfUntold wk_k_putIfUntold10 ({ frames := 0, cells := 0, slots := 0, locals := 0 } : Room) (va_Pc [.ref ar, .int i, .int w] (Pw D cI cB cP sz [(ar, .inl (cI, 288, .inl f))])) (va_Qv (fun (_ : Unit) => True) (fun _ t => ∃ g : Nat → Int32, (∀ k : Nat, k < 288 → (g k).toInt = (-1000) ∨ ((-400) ≤ (g k).toInt ∧ (g k).toInt ≤ 400)) ∧ ((-400) ≤ (g i.toNatClampNeg).toInt ∧ (g i.toNatClampNeg).toInt ≤ 400) ∧ (∀ k : Nat, k ≠ i.toNatClampNeg → g k = f k) ∧ va_P D vwCl [(ar, .inl (cI, 288, .inl g))] t.heap ∧ va_D (va_A [(ar, .inl (cI, 288, .inl f))] sz) [(ar, .inl (cI, 288, .inl g))]) (va_A [(ar, .inl (cI, 288, .inl f))] sz)) 0 0 (va_A [(ar, .inl (cI, 288, .inl f))] sz) := by
  refine Met.ofW (cc := cX0_putIfUntold) (maxL := 3) (ret := none) (by decide) rfl ?_
  intro p e s m args below meth c s₁ B hml hv
  obtain ⟨rfl, hsz, hP, ⟨hK, hN⟩, hD0⟩ := hv
  have hx := B.exec
  have hb := B.bytes
  have hr := B.returns
  have hts := atoms_spec (ws := wk_k_putIfUntold10) B.pre
  have hown : s.vm.findClass RX0 = some m.cls := findClass_of_methodNamed B.named
  have hlocks := B.notSynchronized
  subst hsz
  have hD := hD0.self (sz := s.heap.size)
  generalize hAe : va_A [(ar, .inl (cI, 288, .inl f))] s.heap.size = A at hD ⊢
  have hA : ∀ q : Nat, s.heap.size ≤ q → A q := fun q h => by rw [← hAe]; exact Or.inr h
  have hS : va_S A s.heap s.heap [] := va_S.rf
  have hP : va_P D vwCl [(ar, .inl (cI, 288, .inl f))] s.heap := hP
  have hl := lv_entry ([.ref ar, .int i, .int w]) (n := 3) (Nat.le_of_ble_eq_true rfl)
  rw [lg_entry_eq]
  generalize (lg_sl ([.ref ar, .int i, .int w]) ++ List.replicate (3 - (lg_sl ([.ref ar, .int i, .int w])).length) Slot.unset).toArray = ls at hl ⊢
  have hl : lv_has ls 3 [(0, .ref ar), (1, .int i), (2, .int w)] := hl
  refine lv_iload_n hx hb dX0_putIfUntold_0 rfl (lv_at hl 1 rfl) ?_
  refine lv_if_lt (tgt := 23) hx hb dX0_putIfUntold_1 (by decide) (fun h9 => absurd (show i.toInt < 0 from i32_lt h9) (by omega)) (fun c1 => ?_)
  refine lv_iload_n hx hb dX0_putIfUntold_4 rfl (lv_at hl 1 rfl) ?_
  refine lv_aload_n hx hb dX0_putIfUntold_5 rfl (lv_at hl 0 rfl) ?_
  refine va_alen (v := 288) hx hb hK hP 0 0 rfl rfl rfl dX0_putIfUntold_6 ?_
  refine lv_icmp_ge (tgt := 23) hx hb dX0_putIfUntold_7 (by decide) (fun h9 => absurd (show 288 ≤ i.toInt from i32_le h9) (by omega)) (fun c2 => ?_)
  refine lv_aload_n hx hb dX0_putIfUntold_10 rfl (lv_at hl 0 rfl) ?_
  refine lv_iload_n hx hb dX0_putIfUntold_11 rfl (lv_at hl 1 rfl) ?_
  refine va_iald hx hb hK hP 0 0 rfl rfl (vp_in_iff.mpr ⟨show 0 ≤ i.toInt by omega, show i.toInt < ((288 : Nat) : Int) by omega⟩) dX0_putIfUntold_12 ?_
  refine lv_topi (fun v3 ev3 => ?_)
  have tv3 : v3.toInt = (-1000) ∨ ((-400) ≤ v3.toInt ∧ v3.toInt ≤ 400) := by rw [ev3]; exact hf9 _ (ck_lt (show 0 ≤ i.toInt by omega) (show i.toInt < ((288 : Nat) : Int) by omega))
  refine lv_sipush (v := (-1000)) hx hb dX0_putIfUntold_13 (by decide) ?_
  refine lv_icmp_ne (tgt := 23) hx hb dX0_putIfUntold_16 (by decide) (fun c4 => ?_) (fun c4 => ?_)
  · have tc4 : ¬ (v3.toInt = (-1000)) := i32_neq c4
    have hP9 := hP.sub (ws' := [(ar, .inl (cI, 288, .inl f))]) [0] rfl
    have hD9 := hD.sub (ws' := [(ar, .inl (cI, 288, .inl f))]) [0] (by decide) rfl
    refine W.widen (k := 0) (n := 0) (by decide) (by decide) ?_
    exact W.vret hx hb hr (fun t ht hW => ⟨⟨(), rfl, trivial, f, (hf9), (by rw [← ev3]; omega), (fun k hk => rfl), by rw [ht]; exact hP9, hD9⟩, hS.F ht⟩) hS.2.2 dX0_putIfUntold_23
  · have tc4 : v3.toInt = (-1000) := i32_eq c4
    refine lv_aload_n hx hb dX0_putIfUntold_19 rfl (lv_at hl 0 rfl) ?_
    refine lv_iload_n hx hb dX0_putIfUntold_20 rfl (lv_at hl 1 rfl) ?_
    refine lv_iload_n hx hb dX0_putIfUntold_21 rfl (lv_at hl 2 rfl) ?_
    refine va_iast hx hb hK hP hD hS 0 0 rfl rfl (vp_in_iff.mpr ⟨show 0 ≤ i.toInt by omega, show i.toInt < ((288 : Nat) : Int) by omega⟩) dX0_putIfUntold_22 (fun H locs hP hD hS => ?_)
    have hP : va_P D vwCl [(ar, .inl (cI, 288, .inl (upd f i.toNatClampNeg w)))] H := hP
    have hD : va_D A [(ar, .inl (cI, 288, .inl (upd f i.toNatClampNeg w)))] := hD
    obtain ⟨f5, ef5⟩ : ∃ z : Nat → Int32, z = (upd f i.toNatClampNeg w) := ⟨_, rfl⟩
    rw [← ef5] at hP hD
    have hgf5 : ∀ k : Nat, k < 288 → (f5 k).toInt = (-1000) ∨ ((-400) ≤ (f5 k).toInt ∧ (f5 k).toInt ≤ 400) := by rw [ef5]; exact fun k hk => upd_all (P := fun z => z.toInt = (-1000) ∨ ((-400) ≤ z.toInt ∧ z.toInt ≤ 400)) hf9 (show w.toInt = (-1000) ∨ ((-400) ≤ w.toInt ∧ w.toInt ≤ 400) by omega) k hk
    have hP9 := hP.sub (ws' := [(ar, .inl (cI, 288, .inl f5))]) [0] rfl
    have hD9 := hD.sub (ws' := [(ar, .inl (cI, 288, .inl f5))]) [0] (by decide) rfl
    refine W.widen (k := 0) (n := 0) (by decide) (by decide) ?_
    exact W.vret hx hb hr (fun t ht hW => ⟨⟨(), rfl, trivial, f5, (hgf5), (by rw [ef5, pk_us]; exact hw9), (fun k hk => by rw [ef5]; exact pk_un hk), by rw [ht]; exact hP9, hD9⟩, hS.F ht⟩) hS.2.2 dX0_putIfUntold_23

def wk_k_putIfUntold11 : List Cond := .code yX0_putIfUntold cX0_putIfUntold 3 none :: ([])
set_option maxHeartbeats 4000000 in
set_option maxRecDepth 100000 in
theorem k_putIfUntold11 (l : Launch) (D : va_G) (cI cB cP : ClassId) (sz : Nat) (ar : Nat) (i : Int32) (w : Int32) (f : Nat → Int32) (hi9 : 0 ≤ i.toInt ∧ i.toInt ≤ 29) (hw9 : 1 ≤ w.toInt ∧ w.toInt ≤ 9999) (hf9 : ∀ k : Nat, k < 30 → (f k).toInt = (-1000) ∨ (1 ≤ (f k).toInt ∧ (f k).toInt ≤ 9999)) : Met l yX0_putIfUntold wk_k_putIfUntold11 ({ frames := 0, cells := 0, slots := 0, locals := 0 } : Room) (va_Pc [.ref ar, .int i, .int w] (Pw D cI cB cP sz [(ar, .inl (cI, 30, .inl f))])) (va_Qv (fun (_ : Unit) => True) (fun _ t => ∃ g : Nat → Int32, (∀ k : Nat, k < 30 → (g k).toInt = (-1000) ∨ (1 ≤ (g k).toInt ∧ (g k).toInt ≤ 9999)) ∧ (1 ≤ (g i.toNatClampNeg).toInt ∧ (g i.toNatClampNeg).toInt ≤ 9999) ∧ (∀ k : Nat, k ≠ i.toNatClampNeg → g k = f k) ∧ va_P D vwCl [(ar, .inl (cI, 30, .inl g))] t.heap ∧ va_D (va_A [(ar, .inl (cI, 30, .inl f))] sz) [(ar, .inl (cI, 30, .inl g))]) (va_A [(ar, .inl (cI, 30, .inl f))] sz)) 0 0 (va_A [(ar, .inl (cI, 30, .inl f))] sz) := by
  refine Met.ofW (cc := cX0_putIfUntold) (maxL := 3) (ret := none) (by decide) rfl ?_
  intro p e s m args below meth c s₁ B hml hv
  obtain ⟨rfl, hsz, hP, ⟨hK, hN⟩, hD0⟩ := hv
  have hx := B.exec
  have hb := B.bytes
  have hr := B.returns
  have hts := atoms_spec (ws := wk_k_putIfUntold11) B.pre
  have hown : s.vm.findClass RX0 = some m.cls := findClass_of_methodNamed B.named
  have hlocks := B.notSynchronized
  subst hsz
  have hD := hD0.self (sz := s.heap.size)
  generalize hAe : va_A [(ar, .inl (cI, 30, .inl f))] s.heap.size = A at hD ⊢
  have hA : ∀ q : Nat, s.heap.size ≤ q → A q := fun q h => by rw [← hAe]; exact Or.inr h
  have hS : va_S A s.heap s.heap [] := va_S.rf
  have hP : va_P D vwCl [(ar, .inl (cI, 30, .inl f))] s.heap := hP
  have hl := lv_entry ([.ref ar, .int i, .int w]) (n := 3) (Nat.le_of_ble_eq_true rfl)
  rw [lg_entry_eq]
  generalize (lg_sl ([.ref ar, .int i, .int w]) ++ List.replicate (3 - (lg_sl ([.ref ar, .int i, .int w])).length) Slot.unset).toArray = ls at hl ⊢
  have hl : lv_has ls 3 [(0, .ref ar), (1, .int i), (2, .int w)] := hl
  refine lv_iload_n hx hb dX0_putIfUntold_0 rfl (lv_at hl 1 rfl) ?_
  refine lv_if_lt (tgt := 23) hx hb dX0_putIfUntold_1 (by decide) (fun h9 => absurd (show i.toInt < 0 from i32_lt h9) (by omega)) (fun c1 => ?_)
  refine lv_iload_n hx hb dX0_putIfUntold_4 rfl (lv_at hl 1 rfl) ?_
  refine lv_aload_n hx hb dX0_putIfUntold_5 rfl (lv_at hl 0 rfl) ?_
  refine va_alen (v := 30) hx hb hK hP 0 0 rfl rfl rfl dX0_putIfUntold_6 ?_
  refine lv_icmp_ge (tgt := 23) hx hb dX0_putIfUntold_7 (by decide) (fun h9 => absurd (show 30 ≤ i.toInt from i32_le h9) (by omega)) (fun c2 => ?_)
  refine lv_aload_n hx hb dX0_putIfUntold_10 rfl (lv_at hl 0 rfl) ?_
  refine lv_iload_n hx hb dX0_putIfUntold_11 rfl (lv_at hl 1 rfl) ?_
  refine va_iald hx hb hK hP 0 0 rfl rfl (vp_in_iff.mpr ⟨show 0 ≤ i.toInt by omega, show i.toInt < ((30 : Nat) : Int) by omega⟩) dX0_putIfUntold_12 ?_
  refine lv_topi (fun v3 ev3 => ?_)
  have tv3 : v3.toInt = (-1000) ∨ (1 ≤ v3.toInt ∧ v3.toInt ≤ 9999) := by rw [ev3]; exact hf9 _ (ck_lt (show 0 ≤ i.toInt by omega) (show i.toInt < ((30 : Nat) : Int) by omega))
  refine lv_sipush (v := (-1000)) hx hb dX0_putIfUntold_13 (by decide) ?_
  refine lv_icmp_ne (tgt := 23) hx hb dX0_putIfUntold_16 (by decide) (fun c4 => ?_) (fun c4 => ?_)
  · have tc4 : ¬ (v3.toInt = (-1000)) := i32_neq c4
    have hP9 := hP.sub (ws' := [(ar, .inl (cI, 30, .inl f))]) [0] rfl
    have hD9 := hD.sub (ws' := [(ar, .inl (cI, 30, .inl f))]) [0] (by decide) rfl
    refine W.widen (k := 0) (n := 0) (by decide) (by decide) ?_
    exact W.vret hx hb hr (fun t ht hW => ⟨⟨(), rfl, trivial, f, (hf9), (by rw [← ev3]; omega), (fun k hk => rfl), by rw [ht]; exact hP9, hD9⟩, hS.F ht⟩) hS.2.2 dX0_putIfUntold_23
  · have tc4 : v3.toInt = (-1000) := i32_eq c4
    refine lv_aload_n hx hb dX0_putIfUntold_19 rfl (lv_at hl 0 rfl) ?_
    refine lv_iload_n hx hb dX0_putIfUntold_20 rfl (lv_at hl 1 rfl) ?_
    refine lv_iload_n hx hb dX0_putIfUntold_21 rfl (lv_at hl 2 rfl) ?_
    refine va_iast hx hb hK hP hD hS 0 0 rfl rfl (vp_in_iff.mpr ⟨show 0 ≤ i.toInt by omega, show i.toInt < ((30 : Nat) : Int) by omega⟩) dX0_putIfUntold_22 (fun H locs hP hD hS => ?_)
    have hP : va_P D vwCl [(ar, .inl (cI, 30, .inl (upd f i.toNatClampNeg w)))] H := hP
    have hD : va_D A [(ar, .inl (cI, 30, .inl (upd f i.toNatClampNeg w)))] := hD
    obtain ⟨f5, ef5⟩ : ∃ z : Nat → Int32, z = (upd f i.toNatClampNeg w) := ⟨_, rfl⟩
    rw [← ef5] at hP hD
    have hgf5 : ∀ k : Nat, k < 30 → (f5 k).toInt = (-1000) ∨ (1 ≤ (f5 k).toInt ∧ (f5 k).toInt ≤ 9999) := by rw [ef5]; exact fun k hk => upd_all (P := fun z => z.toInt = (-1000) ∨ (1 ≤ z.toInt ∧ z.toInt ≤ 9999)) hf9 (show w.toInt = (-1000) ∨ (1 ≤ w.toInt ∧ w.toInt ≤ 9999) by omega) k hk
    have hP9 := hP.sub (ws' := [(ar, .inl (cI, 30, .inl f5))]) [0] rfl
    have hD9 := hD.sub (ws' := [(ar, .inl (cI, 30, .inl f5))]) [0] (by decide) rfl
    refine W.widen (k := 0) (n := 0) (by decide) (by decide) ?_
    exact W.vret hx hb hr (fun t ht hW => ⟨⟨(), rfl, trivial, f5, (hgf5), (by rw [ef5, pk_us]; exact hw9), (fun k hk => by rw [ef5]; exact pk_un hk), by rw [ht]; exact hP9, hD9⟩, hS.F ht⟩) hS.2.2 dX0_putIfUntold_23

def wk_k_putIfUntold12 : List Cond := .code yX0_putIfUntold cX0_putIfUntold 3 none :: ([])
set_option maxHeartbeats 4000000 in
set_option maxRecDepth 100000 in
theorem k_putIfUntold12 (l : Launch) (D : va_G) (cI cB cP : ClassId) (sz : Nat) (ar : Nat) (i : Int32) (w : Int32) (f : Nat → Int32) (hi9 : 0 ≤ i.toInt ∧ i.toInt ≤ 5) (hw9 : 0 ≤ w.toInt ∧ w.toInt ≤ 999) (hf9 : ∀ k : Nat, k < 6 → (f k).toInt = (-1000) ∨ (0 ≤ (f k).toInt ∧ (f k).toInt ≤ 999)) : Met l yX0_putIfUntold wk_k_putIfUntold12 ({ frames := 0, cells := 0, slots := 0, locals := 0 } : Room) (va_Pc [.ref ar, .int i, .int w] (Pw D cI cB cP sz [(ar, .inl (cI, 6, .inl f))])) (va_Qv (fun (_ : Unit) => True) (fun _ t => ∃ g : Nat → Int32, (∀ k : Nat, k < 6 → (g k).toInt = (-1000) ∨ (0 ≤ (g k).toInt ∧ (g k).toInt ≤ 999)) ∧ (0 ≤ (g i.toNatClampNeg).toInt ∧ (g i.toNatClampNeg).toInt ≤ 999) ∧ (∀ k : Nat, k ≠ i.toNatClampNeg → g k = f k) ∧ va_P D vwCl [(ar, .inl (cI, 6, .inl g))] t.heap ∧ va_D (va_A [(ar, .inl (cI, 6, .inl f))] sz) [(ar, .inl (cI, 6, .inl g))]) (va_A [(ar, .inl (cI, 6, .inl f))] sz)) 0 0 (va_A [(ar, .inl (cI, 6, .inl f))] sz) := by
  refine Met.ofW (cc := cX0_putIfUntold) (maxL := 3) (ret := none) (by decide) rfl ?_
  intro p e s m args below meth c s₁ B hml hv
  obtain ⟨rfl, hsz, hP, ⟨hK, hN⟩, hD0⟩ := hv
  have hx := B.exec
  have hb := B.bytes
  have hr := B.returns
  have hts := atoms_spec (ws := wk_k_putIfUntold12) B.pre
  have hown : s.vm.findClass RX0 = some m.cls := findClass_of_methodNamed B.named
  have hlocks := B.notSynchronized
  subst hsz
  have hD := hD0.self (sz := s.heap.size)
  generalize hAe : va_A [(ar, .inl (cI, 6, .inl f))] s.heap.size = A at hD ⊢
  have hA : ∀ q : Nat, s.heap.size ≤ q → A q := fun q h => by rw [← hAe]; exact Or.inr h
  have hS : va_S A s.heap s.heap [] := va_S.rf
  have hP : va_P D vwCl [(ar, .inl (cI, 6, .inl f))] s.heap := hP
  have hl := lv_entry ([.ref ar, .int i, .int w]) (n := 3) (Nat.le_of_ble_eq_true rfl)
  rw [lg_entry_eq]
  generalize (lg_sl ([.ref ar, .int i, .int w]) ++ List.replicate (3 - (lg_sl ([.ref ar, .int i, .int w])).length) Slot.unset).toArray = ls at hl ⊢
  have hl : lv_has ls 3 [(0, .ref ar), (1, .int i), (2, .int w)] := hl
  refine lv_iload_n hx hb dX0_putIfUntold_0 rfl (lv_at hl 1 rfl) ?_
  refine lv_if_lt (tgt := 23) hx hb dX0_putIfUntold_1 (by decide) (fun h9 => absurd (show i.toInt < 0 from i32_lt h9) (by omega)) (fun c1 => ?_)
  refine lv_iload_n hx hb dX0_putIfUntold_4 rfl (lv_at hl 1 rfl) ?_
  refine lv_aload_n hx hb dX0_putIfUntold_5 rfl (lv_at hl 0 rfl) ?_
  refine va_alen (v := 6) hx hb hK hP 0 0 rfl rfl rfl dX0_putIfUntold_6 ?_
  refine lv_icmp_ge (tgt := 23) hx hb dX0_putIfUntold_7 (by decide) (fun h9 => absurd (show 6 ≤ i.toInt from i32_le h9) (by omega)) (fun c2 => ?_)
  refine lv_aload_n hx hb dX0_putIfUntold_10 rfl (lv_at hl 0 rfl) ?_
  refine lv_iload_n hx hb dX0_putIfUntold_11 rfl (lv_at hl 1 rfl) ?_
  refine va_iald hx hb hK hP 0 0 rfl rfl (vp_in_iff.mpr ⟨show 0 ≤ i.toInt by omega, show i.toInt < ((6 : Nat) : Int) by omega⟩) dX0_putIfUntold_12 ?_
  refine lv_topi (fun v3 ev3 => ?_)
  have tv3 : v3.toInt = (-1000) ∨ (0 ≤ v3.toInt ∧ v3.toInt ≤ 999) := by rw [ev3]; exact hf9 _ (ck_lt (show 0 ≤ i.toInt by omega) (show i.toInt < ((6 : Nat) : Int) by omega))
  refine lv_sipush (v := (-1000)) hx hb dX0_putIfUntold_13 (by decide) ?_
  refine lv_icmp_ne (tgt := 23) hx hb dX0_putIfUntold_16 (by decide) (fun c4 => ?_) (fun c4 => ?_)
  · have tc4 : ¬ (v3.toInt = (-1000)) := i32_neq c4
    have hP9 := hP.sub (ws' := [(ar, .inl (cI, 6, .inl f))]) [0] rfl
    have hD9 := hD.sub (ws' := [(ar, .inl (cI, 6, .inl f))]) [0] (by decide) rfl
    refine W.widen (k := 0) (n := 0) (by decide) (by decide) ?_
    exact W.vret hx hb hr (fun t ht hW => ⟨⟨(), rfl, trivial, f, (hf9), (by rw [← ev3]; omega), (fun k hk => rfl), by rw [ht]; exact hP9, hD9⟩, hS.F ht⟩) hS.2.2 dX0_putIfUntold_23
  · have tc4 : v3.toInt = (-1000) := i32_eq c4
    refine lv_aload_n hx hb dX0_putIfUntold_19 rfl (lv_at hl 0 rfl) ?_
    refine lv_iload_n hx hb dX0_putIfUntold_20 rfl (lv_at hl 1 rfl) ?_
    refine lv_iload_n hx hb dX0_putIfUntold_21 rfl (lv_at hl 2 rfl) ?_
    refine va_iast hx hb hK hP hD hS 0 0 rfl rfl (vp_in_iff.mpr ⟨show 0 ≤ i.toInt by omega, show i.toInt < ((6 : Nat) : Int) by omega⟩) dX0_putIfUntold_22 (fun H locs hP hD hS => ?_)
    have hP : va_P D vwCl [(ar, .inl (cI, 6, .inl (upd f i.toNatClampNeg w)))] H := hP
    have hD : va_D A [(ar, .inl (cI, 6, .inl (upd f i.toNatClampNeg w)))] := hD
    obtain ⟨f5, ef5⟩ : ∃ z : Nat → Int32, z = (upd f i.toNatClampNeg w) := ⟨_, rfl⟩
    rw [← ef5] at hP hD
    have hgf5 : ∀ k : Nat, k < 6 → (f5 k).toInt = (-1000) ∨ (0 ≤ (f5 k).toInt ∧ (f5 k).toInt ≤ 999) := by rw [ef5]; exact fun k hk => upd_all (P := fun z => z.toInt = (-1000) ∨ (0 ≤ z.toInt ∧ z.toInt ≤ 999)) hf9 (show w.toInt = (-1000) ∨ (0 ≤ w.toInt ∧ w.toInt ≤ 999) by omega) k hk
    have hP9 := hP.sub (ws' := [(ar, .inl (cI, 6, .inl f5))]) [0] rfl
    have hD9 := hD.sub (ws' := [(ar, .inl (cI, 6, .inl f5))]) [0] (by decide) rfl
    refine W.widen (k := 0) (n := 0) (by decide) (by decide) ?_
    exact W.vret hx hb hr (fun t ht hW => ⟨⟨(), rfl, trivial, f5, (hgf5), (by rw [ef5, pk_us]; exact hw9), (fun k hk => by rw [ef5]; exact pk_un hk), by rw [ht]; exact hP9, hD9⟩, hS.F ht⟩) hS.2.2 dX0_putIfUntold_23

def wk_k_putIfUntold13 : List Cond := .code yX0_putIfUntold cX0_putIfUntold 3 none :: ([])
set_option maxHeartbeats 4000000 in
set_option maxRecDepth 100000 in
theorem k_putIfUntold13 (l : Launch) (D : va_G) (cI cB cP : ClassId) (sz : Nat) (ar : Nat) (i : Int32) (w : Int32) (f : Nat → Int32) (hi9 : 0 ≤ i.toInt ∧ i.toInt ≤ 3) (hw9 : 0 ≤ w.toInt ∧ w.toInt ≤ 60000) (hf9 : ∀ k : Nat, k < 4 → (f k).toInt = (-1000) ∨ (0 ≤ (f k).toInt ∧ (f k).toInt ≤ 60000)) : Met l yX0_putIfUntold wk_k_putIfUntold13 ({ frames := 0, cells := 0, slots := 0, locals := 0 } : Room) (va_Pc [.ref ar, .int i, .int w] (Pw D cI cB cP sz [(ar, .inl (cI, 4, .inl f))])) (va_Qv (fun (_ : Unit) => True) (fun _ t => ∃ g : Nat → Int32, (∀ k : Nat, k < 4 → (g k).toInt = (-1000) ∨ (0 ≤ (g k).toInt ∧ (g k).toInt ≤ 60000)) ∧ (0 ≤ (g i.toNatClampNeg).toInt ∧ (g i.toNatClampNeg).toInt ≤ 60000) ∧ (∀ k : Nat, k ≠ i.toNatClampNeg → g k = f k) ∧ va_P D vwCl [(ar, .inl (cI, 4, .inl g))] t.heap ∧ va_D (va_A [(ar, .inl (cI, 4, .inl f))] sz) [(ar, .inl (cI, 4, .inl g))]) (va_A [(ar, .inl (cI, 4, .inl f))] sz)) 0 0 (va_A [(ar, .inl (cI, 4, .inl f))] sz) := by
  refine Met.ofW (cc := cX0_putIfUntold) (maxL := 3) (ret := none) (by decide) rfl ?_
  intro p e s m args below meth c s₁ B hml hv
  obtain ⟨rfl, hsz, hP, ⟨hK, hN⟩, hD0⟩ := hv
  have hx := B.exec
  have hb := B.bytes
  have hr := B.returns
  have hts := atoms_spec (ws := wk_k_putIfUntold13) B.pre
  have hown : s.vm.findClass RX0 = some m.cls := findClass_of_methodNamed B.named
  have hlocks := B.notSynchronized
  subst hsz
  have hD := hD0.self (sz := s.heap.size)
  generalize hAe : va_A [(ar, .inl (cI, 4, .inl f))] s.heap.size = A at hD ⊢
  have hA : ∀ q : Nat, s.heap.size ≤ q → A q := fun q h => by rw [← hAe]; exact Or.inr h
  have hS : va_S A s.heap s.heap [] := va_S.rf
  have hP : va_P D vwCl [(ar, .inl (cI, 4, .inl f))] s.heap := hP
  have hl := lv_entry ([.ref ar, .int i, .int w]) (n := 3) (Nat.le_of_ble_eq_true rfl)
  rw [lg_entry_eq]
  generalize (lg_sl ([.ref ar, .int i, .int w]) ++ List.replicate (3 - (lg_sl ([.ref ar, .int i, .int w])).length) Slot.unset).toArray = ls at hl ⊢
  have hl : lv_has ls 3 [(0, .ref ar), (1, .int i), (2, .int w)] := hl
  refine lv_iload_n hx hb dX0_putIfUntold_0 rfl (lv_at hl 1 rfl) ?_
  refine lv_if_lt (tgt := 23) hx hb dX0_putIfUntold_1 (by decide) (fun h9 => absurd (show i.toInt < 0 from i32_lt h9) (by omega)) (fun c1 => ?_)
  refine lv_iload_n hx hb dX0_putIfUntold_4 rfl (lv_at hl 1 rfl) ?_
  refine lv_aload_n hx hb dX0_putIfUntold_5 rfl (lv_at hl 0 rfl) ?_
  refine va_alen (v := 4) hx hb hK hP 0 0 rfl rfl rfl dX0_putIfUntold_6 ?_
  refine lv_icmp_ge (tgt := 23) hx hb dX0_putIfUntold_7 (by decide) (fun h9 => absurd (show 4 ≤ i.toInt from i32_le h9) (by omega)) (fun c2 => ?_)
  refine lv_aload_n hx hb dX0_putIfUntold_10 rfl (lv_at hl 0 rfl) ?_
  refine lv_iload_n hx hb dX0_putIfUntold_11 rfl (lv_at hl 1 rfl) ?_
  refine va_iald hx hb hK hP 0 0 rfl rfl (vp_in_iff.mpr ⟨show 0 ≤ i.toInt by omega, show i.toInt < ((4 : Nat) : Int) by omega⟩) dX0_putIfUntold_12 ?_
  refine lv_topi (fun v3 ev3 => ?_)
  have tv3 : v3.toInt = (-1000) ∨ (0 ≤ v3.toInt ∧ v3.toInt ≤ 60000) := by rw [ev3]; exact hf9 _ (ck_lt (show 0 ≤ i.toInt by omega) (show i.toInt < ((4 : Nat) : Int) by omega))
  refine lv_sipush (v := (-1000)) hx hb dX0_putIfUntold_13 (by decide) ?_
  refine lv_icmp_ne (tgt := 23) hx hb dX0_putIfUntold_16 (by decide) (fun c4 => ?_) (fun c4 => ?_)
  · have tc4 : ¬ (v3.toInt = (-1000)) := i32_neq c4
    have hP9 := hP.sub (ws' := [(ar, .inl (cI, 4, .inl f))]) [0] rfl
    have hD9 := hD.sub (ws' := [(ar, .inl (cI, 4, .inl f))]) [0] (by decide) rfl
    refine W.widen (k := 0) (n := 0) (by decide) (by decide) ?_
    exact W.vret hx hb hr (fun t ht hW => ⟨⟨(), rfl, trivial, f, (hf9), (by rw [← ev3]; omega), (fun k hk => rfl), by rw [ht]; exact hP9, hD9⟩, hS.F ht⟩) hS.2.2 dX0_putIfUntold_23
  · have tc4 : v3.toInt = (-1000) := i32_eq c4
    refine lv_aload_n hx hb dX0_putIfUntold_19 rfl (lv_at hl 0 rfl) ?_
    refine lv_iload_n hx hb dX0_putIfUntold_20 rfl (lv_at hl 1 rfl) ?_
    refine lv_iload_n hx hb dX0_putIfUntold_21 rfl (lv_at hl 2 rfl) ?_
    refine va_iast hx hb hK hP hD hS 0 0 rfl rfl (vp_in_iff.mpr ⟨show 0 ≤ i.toInt by omega, show i.toInt < ((4 : Nat) : Int) by omega⟩) dX0_putIfUntold_22 (fun H locs hP hD hS => ?_)
    have hP : va_P D vwCl [(ar, .inl (cI, 4, .inl (upd f i.toNatClampNeg w)))] H := hP
    have hD : va_D A [(ar, .inl (cI, 4, .inl (upd f i.toNatClampNeg w)))] := hD
    obtain ⟨f5, ef5⟩ : ∃ z : Nat → Int32, z = (upd f i.toNatClampNeg w) := ⟨_, rfl⟩
    rw [← ef5] at hP hD
    have hgf5 : ∀ k : Nat, k < 4 → (f5 k).toInt = (-1000) ∨ (0 ≤ (f5 k).toInt ∧ (f5 k).toInt ≤ 60000) := by rw [ef5]; exact fun k hk => upd_all (P := fun z => z.toInt = (-1000) ∨ (0 ≤ z.toInt ∧ z.toInt ≤ 60000)) hf9 (show w.toInt = (-1000) ∨ (0 ≤ w.toInt ∧ w.toInt ≤ 60000) by omega) k hk
    have hP9 := hP.sub (ws' := [(ar, .inl (cI, 4, .inl f5))]) [0] rfl
    have hD9 := hD.sub (ws' := [(ar, .inl (cI, 4, .inl f5))]) [0] (by decide) rfl
    refine W.widen (k := 0) (n := 0) (by decide) (by decide) ?_
    exact W.vret hx hb hr (fun t ht hW => ⟨⟨(), rfl, trivial, f5, (hgf5), (by rw [ef5, pk_us]; exact hw9), (fun k hk => by rw [ef5]; exact pk_un hk), by rw [ht]; exact hP9, hD9⟩, hS.F ht⟩) hS.2.2 dX0_putIfUntold_23
