def wk_k_leadBurnsOn : List Cond := .code yX0_leadBurnsOn cX0_leadBurnsOn 5 none :: ([.fieldLink RX0 39 "FlightDesk$Book" "burn" "[I", .initialized RX7, .static yX7_burnIndex, .code yX7_burnIndex cX7_burnIndex 2 (some .int), .methodLink RX0 67 yX0_putIfUntold, .static yX0_putIfUntold, .initialized RX0, .code yX0_putIfUntold cX0_putIfUntold 3 none] ++ wsX00)
theorem iw_k_leadBurnsOn_0 : ∀ w ∈ wsX00, w ∈ wk_k_leadBurnsOn := fun _ h => List.mem_cons_of_mem _ (List.mem_append_right _ h)
set_option maxRecDepth 20000 in
theorem gw_k_leadBurnsOn_0 : GoodIn wk_k_leadBurnsOn wk_k_burnIndex := goodIn_sub (by decide +kernel) (by decide +kernel)
set_option maxRecDepth 20000 in
theorem gw_k_leadBurnsOn_1 : GoodIn wk_k_leadBurnsOn (wsS RX0 67 yX0_putIfUntold wk_k_putIfUntold11) := goodIn_sub (by decide +kernel) (by decide +kernel)
set_option maxHeartbeats 4000000 in
set_option maxRecDepth 100000 in
theorem k_leadBurnsOn (l : Launch) (D : va_G) (cI cB cP : ClassId) (sz : Nat) (h0 : Nat) (lc : Int32) (ln : Int32) (a2 : Nat) (a3 : Nat) (a4 : Nat) (a5 : Nat) (a6 : Nat) (a7 : Nat) (a8 : Nat) (a9 : Nat) (a10 : Nat) (a11 : Nat) (a12 : Nat) (a13 : Nat) (a14 : Nat) (v : Int32) (f11 : Nat → Int32) (hv9 : 0 ≤ v.toInt ∧ v.toInt ≤ 5) (hf9 : ∀ k : Nat, k < 30 → (f11 k).toInt = (-1000) ∨ (1 ≤ (f11 k).toInt ∧ (f11 k).toInt ≤ 9999)) : Met l yX0_leadBurnsOn wk_k_leadBurnsOn ({ frames := 1, cells := 0, slots := 0, locals := 22 } : Room) (va_Pc [.ref h0, .int v] (Pw D cI cB cP sz [(h0, .inr (0, [.int lc, .int ln, .ref a2, .ref a3, .ref a4, .ref a5, .ref a6, .ref a7, .ref a8, .ref a9, .ref a10, .ref a11, .ref a12, .ref a13, .ref a14])), (a11, .inl (cI, 30, .inl f11))])) (va_Qv (fun (_ : Unit) => True) (fun _ t => ∃ g : Nat → Int32, (∀ k : Nat, k < 30 → (g k).toInt = (-1000) ∨ (1 ≤ (g k).toInt ∧ (g k).toInt ≤ 9999)) ∧ (∀ k : Nat, v.toInt * 5 ≤ (k : Int) ∧ (k : Int) < v.toInt * 5 + 5 → 1 ≤ (g k).toInt ∧ (g k).toInt ≤ 9999) ∧ (∀ k : Nat, (k : Int) < v.toInt * 5 ∨ v.toInt * 5 + 5 ≤ (k : Int) → g k = f11 k) ∧ va_P D vwCl [(h0, .inr (0, [.int lc, .int ln, .ref a2, .ref a3, .ref a4, .ref a5, .ref a6, .ref a7, .ref a8, .ref a9, .ref a10, .ref a11, .ref a12, .ref a13, .ref a14])), (a11, .inl (cI, 30, .inl g))] t.heap ∧ va_D (va_A [(h0, .inr (0, [.int lc, .int ln, .ref a2, .ref a3, .ref a4, .ref a5, .ref a6, .ref a7, .ref a8, .ref a9, .ref a10, .ref a11, .ref a12, .ref a13, .ref a14])), (a11, .inl (cI, 30, .inl f11))] sz) [(h0, .inr (0, [.int lc, .int ln, .ref a2, .ref a3, .ref a4, .ref a5, .ref a6, .ref a7, .ref a8, .ref a9, .ref a10, .ref a11, .ref a12, .ref a13, .ref a14])), (a11, .inl (cI, 30, .inl g))]) (va_A [(h0, .inr (0, [.int lc, .int ln, .ref a2, .ref a3, .ref a4, .ref a5, .ref a6, .ref a7, .ref a8, .ref a9, .ref a10, .ref a11, .ref a12, .ref a13, .ref a14])), (a11, .inl (cI, 30, .inl f11))] sz)) 0 0 (va_A [(h0, .inr (0, [.int lc, .int ln, .ref a2, .ref a3, .ref a4, .ref a5, .ref a6, .ref a7, .ref a8, .ref a9, .ref a10, .ref a11, .ref a12, .ref a13, .ref a14])), (a11, .inl (cI, 30, .inl f11))] sz) := by
  refine Met.ofW (cc := cX0_leadBurnsOn) (maxL := 5) (ret := none) (by decide) rfl ?_
  intro p e s m args below meth c s₁ B hml hv
  obtain ⟨rfl, hsz, hP, ⟨hK, hN⟩, hD0⟩ := hv
  have hx := B.exec
  have hb := B.bytes
  have hr := B.returns
  have hts := atoms_spec (ws := wk_k_leadBurnsOn) B.pre
  have hown : s.vm.findClass RX0 = some m.cls := findClass_of_methodNamed B.named
  have hlocks := B.notSynchronized
  subst hsz
  have hD := hD0.self (sz := s.heap.size)
  generalize hAe : va_A [(h0, .inr (0, [.int lc, .int ln, .ref a2, .ref a3, .ref a4, .ref a5, .ref a6, .ref a7, .ref a8, .ref a9, .ref a10, .ref a11, .ref a12, .ref a13, .ref a14])), (a11, .inl (cI, 30, .inl f11))] s.heap.size = A at hD ⊢
  have hA : ∀ q : Nat, s.heap.size ≤ q → A q := fun q h => by rw [← hAe]; exact Or.inr h
  have hS : va_S A s.heap s.heap [] := va_S.rf
  have hP : va_P D vwCl [(h0, .inr (0, [.int lc, .int ln, .ref a2, .ref a3, .ref a4, .ref a5, .ref a6, .ref a7, .ref a8, .ref a9, .ref a10, .ref a11, .ref a12, .ref a13, .ref a14])), (a11, .inl (cI, 30, .inl f11))] s.heap := hP
  have hl := lv_entry ([.ref h0, .int v]) (n := 5) (Nat.le_of_ble_eq_true rfl)
  rw [lg_entry_eq]
  generalize (lg_sl ([.ref h0, .int v]) ++ List.replicate (5 - (lg_sl ([.ref h0, .int v])).length) Slot.unset).toArray = ls at hl ⊢
  have hl : lv_has ls 5 [(0, .ref h0), (1, .int v)] := hl
  refine lv_sipush (v := 1000) hx hb dX0_leadBurnsOn_0 (by decide) ?_
  refine lv_istore_n (lv' := [(2, .int 1000), (0, .ref h0), (1, .int v)]) hx hb dX0_leadBurnsOn_3 rfl hl (by decide) rfl (fun ls hl => ?_)
  refine lv_iconst (v := 4) hx hb dX0_leadBurnsOn_4 (by decide) ?_
  refine lv_istore_n (lv' := [(3, .int 4), (2, .int 1000), (0, .ref h0), (1, .int v)]) hx hb dX0_leadBurnsOn_5 rfl hl (by decide) rfl (fun ls hl => ?_)
  have loop3 : ∀ (N4 : Nat) (la1 : Int32) (bd1 : Int32) (H : Heap) (locs : List Loc) (ls : Array Slot), (1 ≤ la1.toInt ∧ la1.toInt ≤ 9999) → ((-1) ≤ bd1.toInt ∧ bd1.toInt ≤ 4) → (bd1.toInt + 1).toNat < N4 → va_P D vwCl [(h0, .inr (0, [.int lc, .int ln, .ref a2, .ref a3, .ref a4, .ref a5, .ref a6, .ref a7, .ref a8, .ref a9, .ref a10, .ref a11, .ref a12, .ref a13, .ref a14])), (a11, .inl (cI, 30, .inl f11))] H → va_D A [(h0, .inr (0, [.int lc, .int ln, .ref a2, .ref a3, .ref a4, .ref a5, .ref a6, .ref a7, .ref a8, .ref a9, .ref a10, .ref a11, .ref a12, .ref a13, .ref a14])), (a11, .inl (cI, 30, .inl f11))] → va_S A s.heap H locs → lv_has ls 5 [(3, .int bd1), (2, .int la1), (0, .ref h0), (1, .int v)] → W p l e ({ frames := 1, cells := 0, slots := 0, locals := 22 } : Room) s m ([.ref h0, .int v] : List Value).toArray below meth c H locs 0 0 (MQ below (va_Qv (fun (_ : Unit) => True) (fun _ t => ∃ g : Nat → Int32, (∀ k : Nat, k < 30 → (g k).toInt = (-1000) ∨ (1 ≤ (g k).toInt ∧ (g k).toInt ≤ 9999)) ∧ (∀ k : Nat, v.toInt * 5 ≤ (k : Int) ∧ (k : Int) < v.toInt * 5 + 5 → 1 ≤ (g k).toInt ∧ (g k).toInt ≤ 9999) ∧ (∀ k : Nat, (k : Int) < v.toInt * 5 ∨ v.toInt * 5 + 5 ≤ (k : Int) → g k = f11 k) ∧ va_P D vwCl [(h0, .inr (0, [.int lc, .int ln, .ref a2, .ref a3, .ref a4, .ref a5, .ref a6, .ref a7, .ref a8, .ref a9, .ref a10, .ref a11, .ref a12, .ref a13, .ref a14])), (a11, .inl (cI, 30, .inl g))] t.heap ∧ va_D A [(h0, .inr (0, [.int lc, .int ln, .ref a2, .ref a3, .ref a4, .ref a5, .ref a6, .ref a7, .ref a8, .ref a9, .ref a10, .ref a11, .ref a12, .ref a13, .ref a14])), (a11, .inl (cI, 30, .inl g))]) A) ([.ref h0, .int v] : List Value).toArray s 0 0 A) (F0 m 6 ls []) := by
    intro N4
    induction N4 with
    | zero => intro la1 bd1 H locs ls hi1 hi2 hm9 hP hD hS hl; exact absurd hm9 (Nat.not_lt_zero _)
    | succ N4 ih_N4 => 
      intro la1 bd1 H locs ls hi1 hi2 hm9 hP hD hS hl
      refine lv_iload_n hx hb dX0_leadBurnsOn_6 rfl (lv_at hl 0 rfl) ?_
      refine lv_if_lt (tgt := 43) hx hb dX0_leadBurnsOn_7 (by decide) (fun c5 => ?_) (fun c5 => ?_)
      · have tc5 : bd1.toInt < 0 := i32_lt c5
        refine lv_iconst (v := 0) hx hb dX0_leadBurnsOn_43 (by decide) ?_
        refine lv_istore_n (lv' := [(3, .int 0), (2, .int la1), (0, .ref h0), (1, .int v)]) hx hb dX0_leadBurnsOn_44 rfl hl (by decide) rfl (fun ls hl => ?_)
        have loop9 : ∀ (N10 : Nat) (la2 : Int32) (bd2 : Int32) (fz : Nat → Int32) (H : Heap) (locs : List Loc) (ls : Array Slot), (1 ≤ la2.toInt ∧ la2.toInt ≤ 9999) → (0 ≤ bd2.toInt ∧ bd2.toInt ≤ 5) → (∀ k : Nat, v.toInt * 5 ≤ (k : Int) ∧ (k : Int) < v.toInt * 5 + bd2.toInt → 1 ≤ (fz k).toInt ∧ (fz k).toInt ≤ 9999) → (∀ k : Nat, (k : Int) < v.toInt * 5 ∨ v.toInt * 5 + 5 ≤ (k : Int) → fz k = f11 k) → (∀ k : Nat, k < 30 → (fz k).toInt = (-1000) ∨ (1 ≤ (fz k).toInt ∧ (fz k).toInt ≤ 9999)) → (5 - bd2.toInt).toNat < N10 → va_P D vwCl [(h0, .inr (0, [.int lc, .int ln, .ref a2, .ref a3, .ref a4, .ref a5, .ref a6, .ref a7, .ref a8, .ref a9, .ref a10, .ref a11, .ref a12, .ref a13, .ref a14])), (a11, .inl (cI, 30, .inl fz))] H → va_D A [(h0, .inr (0, [.int lc, .int ln, .ref a2, .ref a3, .ref a4, .ref a5, .ref a6, .ref a7, .ref a8, .ref a9, .ref a10, .ref a11, .ref a12, .ref a13, .ref a14])), (a11, .inl (cI, 30, .inl fz))] → va_S A s.heap H locs → lv_has ls 5 [(3, .int bd2), (2, .int la2), (0, .ref h0), (1, .int v)] → W p l e ({ frames := 1, cells := 0, slots := 0, locals := 22 } : Room) s m ([.ref h0, .int v] : List Value).toArray below meth c H locs 0 0 (MQ below (va_Qv (fun (_ : Unit) => True) (fun _ t => ∃ g : Nat → Int32, (∀ k : Nat, k < 30 → (g k).toInt = (-1000) ∨ (1 ≤ (g k).toInt ∧ (g k).toInt ≤ 9999)) ∧ (∀ k : Nat, v.toInt * 5 ≤ (k : Int) ∧ (k : Int) < v.toInt * 5 + 5 → 1 ≤ (g k).toInt ∧ (g k).toInt ≤ 9999) ∧ (∀ k : Nat, (k : Int) < v.toInt * 5 ∨ v.toInt * 5 + 5 ≤ (k : Int) → g k = f11 k) ∧ va_P D vwCl [(h0, .inr (0, [.int lc, .int ln, .ref a2, .ref a3, .ref a4, .ref a5, .ref a6, .ref a7, .ref a8, .ref a9, .ref a10, .ref a11, .ref a12, .ref a13, .ref a14])), (a11, .inl (cI, 30, .inl g))] t.heap ∧ va_D A [(h0, .inr (0, [.int lc, .int ln, .ref a2, .ref a3, .ref a4, .ref a5, .ref a6, .ref a7, .ref a8, .ref a9, .ref a10, .ref a11, .ref a12, .ref a13, .ref a14])), (a11, .inl (cI, 30, .inl g))]) A) ([.ref h0, .int v] : List Value).toArray s 0 0 A) (F0 m 45 ls []) := by
          intro N10
          induction N10 with
          | zero => intro la2 bd2 fz H locs ls hi6 hi7 hrow hout hi8 hm9 hP hD hS hl; exact absurd hm9 (Nat.not_lt_zero _)
          | succ N10 ih_N10 => 
            intro la2 bd2 fz H locs ls hi6 hi7 hrow hout hi8 hm9 hP hD hS hl
            refine lv_iload_n hx hb dX0_leadBurnsOn_45 rfl (lv_at hl 0 rfl) ?_
            refine lv_iconst (v := 5) hx hb dX0_leadBurnsOn_46 (by decide) ?_
            refine lv_icmp_ge (tgt := 80) hx hb dX0_leadBurnsOn_47 (by decide) (fun c11 => ?_) (fun c11 => ?_)
            · have tc11 : 5 ≤ bd2.toInt := i32_le c11
              have hP9 := hP.sub (ws' := [(h0, .inr (0, [.int lc, .int ln, .ref a2, .ref a3, .ref a4, .ref a5, .ref a6, .ref a7, .ref a8, .ref a9, .ref a10, .ref a11, .ref a12, .ref a13, .ref a14])), (a11, .inl (cI, 30, .inl fz))]) [0, 1] rfl
              have hD9 := hD.sub (ws' := [(h0, .inr (0, [.int lc, .int ln, .ref a2, .ref a3, .ref a4, .ref a5, .ref a6, .ref a7, .ref a8, .ref a9, .ref a10, .ref a11, .ref a12, .ref a13, .ref a14])), (a11, .inl (cI, 30, .inl fz))]) [0, 1] (by decide) rfl
              refine W.widen (k := 0) (n := 0) (by decide) (by decide) ?_
              exact W.vret hx hb hr (fun t ht hW => ⟨⟨(), rfl, trivial, fz, (by assumption), (fun k hk => hrow k (by omega)), (hout), by rw [ht]; exact hP9, hD9⟩, hS.F ht⟩) hS.2.2 dX0_leadBurnsOn_80
            · have tc11 : ¬ (5 ≤ bd2.toInt) := i32_nle c11
              refine lv_aload_n hx hb dX0_leadBurnsOn_50 rfl (lv_at hl 2 rfl) ?_
              refine va_get (D := D) (ci := 0) (v := .ref a11) (C := RX0) (T := TX0) (N := 15) hx hb hts iw_k_leadBurnsOn_0 hown hK hP 0 rfl rfl 11 (by decide) (hts (.fieldLink RX0 39 "FlightDesk$Book" "burn" "[I") (by decide +kernel)) (fun _ h9 => h9) rfl dX0_leadBurnsOn_51 ?_
              refine lv_iload_n hx hb dX0_leadBurnsOn_54 rfl (lv_at hl 3 rfl) ?_
              refine lv_iload_n hx hb dX0_leadBurnsOn_55 rfl (lv_at hl 0 rfl) ?_
              have hPc := hP.sub (ws' := []) [] rfl
              have hDc := hD.sub (ws' := []) [] (by decide) rfl
              have hFc := va_free (wc := []) hD hS hA [] rfl
              refine va_calli (va_runSN (As := [.int v, .int bd2]) (rest := [.ref a11]) ⟨hx, hb, hml, hown, hts⟩ (k_burnIndex l D cI cB cP H.size v bd2 (show 0 ≤ v.toInt ∧ v.toInt ≤ 1000 by first | assumption | omega | decide) (show 0 ≤ bd2.toInt ∧ bd2.toInt ≤ 1000 by first | assumption | omega | decide)) ⟨va_cnB 2 hts gw_k_leadBurnsOn_0 rfl rfl rfl (hN.1) (hts (.initialized RX7) (by decide +kernel)) (by decide +kernel) ⟨Nat.le_of_ble_eq_true rfl, Nat.le_of_ble_eq_true rfl⟩, (hts (.static yX7_burnIndex) (by decide +kernel)), trivial⟩ ⟨ny_blind, ny_pre hPc hK hN hDc⟩ rfl rfl hl.1 rfl (lv_room (Nat.le_of_ble_eq_true rfl)) dX0_leadBurnsOn_56 ⟨Nat.le_of_ble_eq_true rfl, Nat.le_of_ble_eq_true rfl⟩) hS (fun q _ h => hFc q h) hFc (fun r12 u t H locs ht hvm hw hB hz1 hk1 hS => ?_)
              obtain ⟨hP, hD⟩ := va_join (wr := [(h0, .inr (0, [.int lc, .int ln, .ref a2, .ref a3, .ref a4, .ref a5, .ref a6, .ref a7, .ref a8, .ref a9, .ref a10, .ref a11, .ref a12, .ref a13, .ref a14])), (a11, .inl (cI, 30, .inl fz))]) (w1 := []) hP hD [] [0, 1] rfl rfl (by decide) (by decide) hk1 hFc ny_P0 ny_D0
              have hP : va_P D vwCl [(h0, .inr (0, [.int lc, .int ln, .ref a2, .ref a3, .ref a4, .ref a5, .ref a6, .ref a7, .ref a8, .ref a9, .ref a10, .ref a11, .ref a12, .ref a13, .ref a14])), (a11, .inl (cI, 30, .inl fz))] H := hP
              have hD : va_D A [(h0, .inr (0, [.int lc, .int ln, .ref a2, .ref a3, .ref a4, .ref a5, .ref a6, .ref a7, .ref a8, .ref a9, .ref a10, .ref a11, .ref a12, .ref a13, .ref a14])), (a11, .inl (cI, 30, .inl fz))] := hD
              have hr12 : r12.toInt = v.toInt * 5 + bd2.toInt := hw
              refine lv_iload_n hx hb dX0_leadBurnsOn_59 rfl (lv_at hl 1 rfl) ?_
              have hPc := hP.sub (ws' := [(a11, .inl (cI, 30, .inl fz))]) [1] rfl
              have hDc := hD.sub (ws' := [(a11, .inl (cI, 30, .inl fz))]) [1] (by decide) rfl
              have hFc := va_free (wc := [(a11, .inl (cI, 30, .inl fz))]) hD hS hA [1] rfl
              refine va_callv (va_runS (As := [.ref a11, .int r12, .int la2]) (rest := []) ⟨hx, hb, hml, hown, hts⟩ (k_putIfUntold11 l D cI cB cP H.size a11 r12 la2 fz (show 0 ≤ r12.toInt ∧ r12.toInt ≤ 29 by first | assumption | omega | decide) (show 1 ≤ la2.toInt ∧ la2.toInt ≤ 9999 by first | assumption | omega | decide) (by assumption)) (cwS 3 hts gw_k_leadBurnsOn_1 rfl rfl rfl (by decide +kernel) ⟨Nat.le_of_ble_eq_true rfl, Nat.le_of_ble_eq_true rfl⟩) ⟨ny_blind, ny_pre hPc hK hN hDc⟩ rfl rfl hl.1 rfl (lv_room (Nat.le_of_ble_eq_true rfl)) dX0_leadBurnsOn_60 ⟨Nat.le_of_ble_eq_true rfl, Nat.le_of_ble_eq_true rfl⟩) hS (fun q _ h => hFc q h) hFc (fun u t H locs ht hvm hw hB hz1 hk1 hS => ?_)
              obtain ⟨g_13, hp15, hp16, hp17, hP1, hD1⟩ := hB
              rw [ht] at hP1
              have hp15 : ∀ k : Nat, k < 30 → (g_13 k).toInt = (-1000) ∨ (1 ≤ (g_13 k).toInt ∧ (g_13 k).toInt ≤ 9999) := hp15
              have hp16 : 1 ≤ (g_13 r12.toNatClampNeg).toInt ∧ (g_13 r12.toNatClampNeg).toInt ≤ 9999 := hp16
              have hp17 : ∀ k : Nat, k ≠ r12.toNatClampNeg → g_13 k = fz k := hp17
              obtain ⟨hP, hD⟩ := va_join (wr := [(h0, .inr (0, [.int lc, .int ln, .ref a2, .ref a3, .ref a4, .ref a5, .ref a6, .ref a7, .ref a8, .ref a9, .ref a10, .ref a11, .ref a12, .ref a13, .ref a14]))]) (w1 := [(a11, .inl (cI, 30, .inl g_13))]) hP hD [1] [0] rfl rfl (by decide) (by decide) hk1 hFc hP1 hD1
              have hP : va_P D vwCl [(h0, .inr (0, [.int lc, .int ln, .ref a2, .ref a3, .ref a4, .ref a5, .ref a6, .ref a7, .ref a8, .ref a9, .ref a10, .ref a11, .ref a12, .ref a13, .ref a14])), (a11, .inl (cI, 30, .inl g_13))] H := hP
              have hD : va_D A [(h0, .inr (0, [.int lc, .int ln, .ref a2, .ref a3, .ref a4, .ref a5, .ref a6, .ref a7, .ref a8, .ref a9, .ref a10, .ref a11, .ref a12, .ref a13, .ref a14])), (a11, .inl (cI, 30, .inl g_13))] := hD
              refine lv_aload_n hx hb dX0_leadBurnsOn_63 rfl (lv_at hl 2 rfl) ?_
              refine va_get (D := D) (ci := 0) (v := .ref a11) (C := RX0) (T := TX0) (N := 15) hx hb hts iw_k_leadBurnsOn_0 hown hK hP 0 rfl rfl 11 (by decide) (hts (.fieldLink RX0 39 "FlightDesk$Book" "burn" "[I") (by decide +kernel)) (fun _ h9 => h9) rfl dX0_leadBurnsOn_64 ?_
              refine lv_iload_n hx hb dX0_leadBurnsOn_67 rfl (lv_at hl 3 rfl) ?_
              refine lv_iload_n hx hb dX0_leadBurnsOn_68 rfl (lv_at hl 0 rfl) ?_
              have hPc := hP.sub (ws' := []) [] rfl
              have hDc := hD.sub (ws' := []) [] (by decide) rfl
              have hFc := va_free (wc := []) hD hS hA [] rfl
              refine va_calli (va_runSN (As := [.int v, .int bd2]) (rest := [.ref a11]) ⟨hx, hb, hml, hown, hts⟩ (k_burnIndex l D cI cB cP H.size v bd2 (show 0 ≤ v.toInt ∧ v.toInt ≤ 1000 by first | assumption | omega | decide) (show 0 ≤ bd2.toInt ∧ bd2.toInt ≤ 1000 by first | assumption | omega | decide)) ⟨va_cnB 2 hts gw_k_leadBurnsOn_0 rfl rfl rfl (hN.1) (hts (.initialized RX7) (by decide +kernel)) (by decide +kernel) ⟨Nat.le_of_ble_eq_true rfl, Nat.le_of_ble_eq_true rfl⟩, (hts (.static yX7_burnIndex) (by decide +kernel)), trivial⟩ ⟨ny_blind, ny_pre hPc hK hN hDc⟩ rfl rfl hl.1 rfl (lv_room (Nat.le_of_ble_eq_true rfl)) dX0_leadBurnsOn_69 ⟨Nat.le_of_ble_eq_true rfl, Nat.le_of_ble_eq_true rfl⟩) hS (fun q _ h => hFc q h) hFc (fun r18 u t H locs ht hvm hw hB hz1 hk1 hS => ?_)
              obtain ⟨hP, hD⟩ := va_join (wr := [(h0, .inr (0, [.int lc, .int ln, .ref a2, .ref a3, .ref a4, .ref a5, .ref a6, .ref a7, .ref a8, .ref a9, .ref a10, .ref a11, .ref a12, .ref a13, .ref a14])), (a11, .inl (cI, 30, .inl g_13))]) (w1 := []) hP hD [] [0, 1] rfl rfl (by decide) (by decide) hk1 hFc ny_P0 ny_D0
              have hP : va_P D vwCl [(h0, .inr (0, [.int lc, .int ln, .ref a2, .ref a3, .ref a4, .ref a5, .ref a6, .ref a7, .ref a8, .ref a9, .ref a10, .ref a11, .ref a12, .ref a13, .ref a14])), (a11, .inl (cI, 30, .inl g_13))] H := hP
              have hD : va_D A [(h0, .inr (0, [.int lc, .int ln, .ref a2, .ref a3, .ref a4, .ref a5, .ref a6, .ref a7, .ref a8, .ref a9, .ref a10, .ref a11, .ref a12, .ref a13, .ref a14])), (a11, .inl (cI, 30, .inl g_13))] := hD
              have hr18 : r18.toInt = v.toInt * 5 + bd2.toInt := hw
              refine va_iald hx hb hK hP 1 0 rfl rfl (vp_in_iff.mpr ⟨show 0 ≤ r18.toInt by omega, show r18.toInt < ((30 : Nat) : Int) by omega⟩) dX0_leadBurnsOn_72 ?_
              refine lv_topi (fun v19 ev19 => ?_)
              have tv19 : 1 ≤ v19.toInt ∧ v19.toInt ≤ 9999 := by rw [ev19, ck_eq (show r18.toInt = r12.toInt by omega)]; exact hp16
              refine lv_istore_n (lv' := [(2, .int v19), (3, .int bd2), (0, .ref h0), (1, .int v)]) hx hb dX0_leadBurnsOn_73 rfl hl (by decide) rfl (fun ls hl => ?_)
              obtain ⟨v20, ev20⟩ : ∃ y : Int32, y = bd2 + 1 := ⟨_, rfl⟩
              have tv20 : v20.toInt = (bd2.toInt + 1 + 2147483648) % 4294967296 - 2147483648 := i32_add ev20
              refine lv_iinc (v := v20) (lv' := [(3, .int v20), (2, .int v19), (0, .ref h0), (1, .int v)]) hx hb dX0_leadBurnsOn_74 hl (k := 1) rfl (by rw [ev20]; rfl) (by decide) rfl (fun ls hl => ?_)
              refine lv_goto (tgt := 45) hx hb dX0_leadBurnsOn_77 (by decide) ?_
              exact ih_N10 v19 v20 g_13 _ _ _ (show 1 ≤ v19.toInt ∧ v19.toInt ≤ 9999 by first | assumption | omega | decide) (show 0 ≤ v20.toInt ∧ v20.toInt ≤ 5 by first | assumption | omega | decide) (fun k hk => (Decidable.em (k = r12.toNatClampNeg)).elim (fun e9 => by rw [e9]; exact hp16) (fun e9 => by have e8 : ((r12.toNatClampNeg : Nat) : Int) = r12.toInt := ck_nat (by omega); have e7 : ¬ (k : Int) = r12.toInt := (by omega); rw [hp17 k e9]; exact hrow k (by omega))) (fun k hk => by have e8 : ((r12.toNatClampNeg : Nat) : Int) = r12.toInt := ck_nat (by omega); rw [hp17 k (by omega)]; exact hout k hk) (hp15) (by omega) (hP.sub [0, 1] rfl) (hD.sub [0, 1] (by decide) rfl) hS (lv_sub hl [0, 1, 2, 3] rfl)
        exact loop9 _ la1 0 f11 _ _ _ (show 1 ≤ la1.toInt ∧ la1.toInt ≤ 9999 by first | assumption | omega | decide) (show 0 ≤ 0 ∧ 0 ≤ 5 by first | assumption | omega | decide) (fun k hk => by have hk : v.toInt * 5 ≤ (k : Int) ∧ (k : Int) < v.toInt * 5 + 0 := hk; omega) (fun k hk => rfl) (hf9) (Nat.lt_succ_self _) (hP.sub [0, 1] rfl) (hD.sub [0, 1] (by decide) rfl) hS (lv_sub hl [0, 1, 2, 3] rfl)
      · have tc5 : ¬ (bd1.toInt < 0) := i32_nlt c5
        refine lv_aload_n hx hb dX0_leadBurnsOn_10 rfl (lv_at hl 2 rfl) ?_
        refine va_get (D := D) (ci := 0) (v := .ref a11) (C := RX0) (T := TX0) (N := 15) hx hb hts iw_k_leadBurnsOn_0 hown hK hP 0 rfl rfl 11 (by decide) (hts (.fieldLink RX0 39 "FlightDesk$Book" "burn" "[I") (by decide +kernel)) (fun _ h9 => h9) rfl dX0_leadBurnsOn_11 ?_
        refine lv_iload_n hx hb dX0_leadBurnsOn_14 rfl (lv_at hl 3 rfl) ?_
        refine lv_iload_n hx hb dX0_leadBurnsOn_15 rfl (lv_at hl 0 rfl) ?_
        have hPc := hP.sub (ws' := []) [] rfl
        have hDc := hD.sub (ws' := []) [] (by decide) rfl
        have hFc := va_free (wc := []) hD hS hA [] rfl
        refine va_calli (va_runSN (As := [.int v, .int bd1]) (rest := [.ref a11]) ⟨hx, hb, hml, hown, hts⟩ (k_burnIndex l D cI cB cP H.size v bd1 (show 0 ≤ v.toInt ∧ v.toInt ≤ 1000 by first | assumption | omega | decide) (show 0 ≤ bd1.toInt ∧ bd1.toInt ≤ 1000 by first | assumption | omega | decide)) ⟨va_cnB 2 hts gw_k_leadBurnsOn_0 rfl rfl rfl (hN.1) (hts (.initialized RX7) (by decide +kernel)) (by decide +kernel) ⟨Nat.le_of_ble_eq_true rfl, Nat.le_of_ble_eq_true rfl⟩, (hts (.static yX7_burnIndex) (by decide +kernel)), trivial⟩ ⟨ny_blind, ny_pre hPc hK hN hDc⟩ rfl rfl hl.1 rfl (lv_room (Nat.le_of_ble_eq_true rfl)) dX0_leadBurnsOn_16 ⟨Nat.le_of_ble_eq_true rfl, Nat.le_of_ble_eq_true rfl⟩) hS (fun q _ h => hFc q h) hFc (fun r21 u t H locs ht hvm hw hB hz1 hk1 hS => ?_)
        obtain ⟨hP, hD⟩ := va_join (wr := [(h0, .inr (0, [.int lc, .int ln, .ref a2, .ref a3, .ref a4, .ref a5, .ref a6, .ref a7, .ref a8, .ref a9, .ref a10, .ref a11, .ref a12, .ref a13, .ref a14])), (a11, .inl (cI, 30, .inl f11))]) (w1 := []) hP hD [] [0, 1] rfl rfl (by decide) (by decide) hk1 hFc ny_P0 ny_D0
        have hP : va_P D vwCl [(h0, .inr (0, [.int lc, .int ln, .ref a2, .ref a3, .ref a4, .ref a5, .ref a6, .ref a7, .ref a8, .ref a9, .ref a10, .ref a11, .ref a12, .ref a13, .ref a14])), (a11, .inl (cI, 30, .inl f11))] H := hP
        have hD : va_D A [(h0, .inr (0, [.int lc, .int ln, .ref a2, .ref a3, .ref a4, .ref a5, .ref a6, .ref a7, .ref a8, .ref a9, .ref a10, .ref a11, .ref a12, .ref a13, .ref a14])), (a11, .inl (cI, 30, .inl f11))] := hD
        have hr21 : r21.toInt = v.toInt * 5 + bd1.toInt := hw
        refine va_iald hx hb hK hP 1 0 rfl rfl (vp_in_iff.mpr ⟨show 0 ≤ r21.toInt by omega, show r21.toInt < ((30 : Nat) : Int) by omega⟩) dX0_leadBurnsOn_19 ?_
        refine lv_topi (fun v22 ev22 => ?_)
        have tv22 : v22.toInt = (-1000) ∨ (1 ≤ v22.toInt ∧ v22.toInt ≤ 9999) := by rw [ev22]; exact hf9 _ (ck_lt (show 0 ≤ r21.toInt by omega) (show r21.toInt < ((30 : Nat) : Int) by omega))
        refine lv_istore (lv' := [(4, .int v22), (3, .int bd1), (2, .int la1), (0, .ref h0), (1, .int v)]) hx hb dX0_leadBurnsOn_20 hl (by decide) rfl (fun ls hl => ?_)
        refine lv_iload hx hb dX0_leadBurnsOn_22 (lv_at hl 0 rfl) ?_
        refine lv_sipush (v := (-1000)) hx hb dX0_leadBurnsOn_24 (by decide) ?_
        refine lv_icmp_ne (tgt := 34) hx hb dX0_leadBurnsOn_27 (by decide) (fun c23 => ?_) (fun c23 => ?_)
        · have tc23 : ¬ (v22.toInt = (-1000)) := i32_neq c23
          refine lv_iload hx hb dX0_leadBurnsOn_34 (lv_at hl 0 rfl) ?_
          refine lv_istore_n (lv' := [(2, .int v22), (4, .int v22), (3, .int bd1), (0, .ref h0), (1, .int v)]) hx hb dX0_leadBurnsOn_36 rfl hl (by decide) rfl (fun ls hl => ?_)
          obtain ⟨v24, ev24⟩ : ∃ y : Int32, y = bd1 + (-1) := ⟨_, rfl⟩
          have tv24 : v24.toInt = (bd1.toInt + (-1) + 2147483648) % 4294967296 - 2147483648 := i32_add ev24
          refine lv_iinc (v := v24) (lv' := [(3, .int v24), (2, .int v22), (4, .int v22), (0, .ref h0), (1, .int v)]) hx hb dX0_leadBurnsOn_37 hl (k := 2) rfl (by rw [ev24]; rfl) (by decide) rfl (fun ls hl => ?_)
          refine lv_goto (tgt := 6) hx hb dX0_leadBurnsOn_40 (by decide) ?_
          exact ih_N4 v22 v24 _ _ _ (show 1 ≤ v22.toInt ∧ v22.toInt ≤ 9999 by first | assumption | omega | decide) (show (-1) ≤ v24.toInt ∧ v24.toInt ≤ 4 by first | assumption | omega | decide) (by omega) (hP.sub [0, 1] rfl) (hD.sub [0, 1] (by decide) rfl) hS (lv_sub hl [0, 1, 3, 4] rfl)
        · have tc23 : v22.toInt = (-1000) := i32_eq c23
          refine lv_iload_n hx hb dX0_leadBurnsOn_30 rfl (lv_at hl 2 rfl) ?_
          refine lv_goto (tgt := 36) hx hb dX0_leadBurnsOn_31 (by decide) ?_
          refine lv_istore_n (lv' := [(2, .int la1), (4, .int v22), (3, .int bd1), (0, .ref h0), (1, .int v)]) hx hb dX0_leadBurnsOn_36 rfl hl (by decide) rfl (fun ls hl => ?_)
          obtain ⟨v25, ev25⟩ : ∃ y : Int32, y = bd1 + (-1) := ⟨_, rfl⟩
          have tv25 : v25.toInt = (bd1.toInt + (-1) + 2147483648) % 4294967296 - 2147483648 := i32_add ev25
          refine lv_iinc (v := v25) (lv' := [(3, .int v25), (2, .int la1), (4, .int v22), (0, .ref h0), (1, .int v)]) hx hb dX0_leadBurnsOn_37 hl (k := 2) rfl (by rw [ev25]; rfl) (by decide) rfl (fun ls hl => ?_)
          refine lv_goto (tgt := 6) hx hb dX0_leadBurnsOn_40 (by decide) ?_
          exact ih_N4 la1 v25 _ _ _ (show 1 ≤ la1.toInt ∧ la1.toInt ≤ 9999 by first | assumption | omega | decide) (show (-1) ≤ v25.toInt ∧ v25.toInt ≤ 4 by first | assumption | omega | decide) (by omega) (hP.sub [0, 1] rfl) (hD.sub [0, 1] (by decide) rfl) hS (lv_sub hl [0, 1, 3, 4] rfl)
  exact loop3 _ 1000 4 _ _ _ (show 1 ≤ 1000 ∧ 1000 ≤ 9999 by first | assumption | omega | decide) (show (-1) ≤ 4 ∧ 4 ≤ 4 by first | assumption | omega | decide) (Nat.lt_succ_self _) (hP.sub [0, 1] rfl) (hD.sub [0, 1] (by decide) rfl) hS (lv_sub hl [0, 1, 2, 3] rfl)
