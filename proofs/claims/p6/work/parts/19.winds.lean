def wk_k_leadWindsOn : List Cond := .code yX0_leadWindsOn cX0_leadWindsOn 5 none :: ([.fieldLink RX0 54 "FlightDesk$Book" "legCount" "I", .fieldLink RX0 36 "FlightDesk$Book" "wind" "[I", .initialized RX7, .static yX7_windIndex, .code yX7_windIndex cX7_windIndex 3 (some .int), .methodLink RX0 67 yX0_putIfUntold, .static yX0_putIfUntold, .initialized RX0, .code yX0_putIfUntold cX0_putIfUntold 3 none] ++ wsX00)
theorem iw_k_leadWindsOn_0 : ∀ w ∈ wsX00, w ∈ wk_k_leadWindsOn := fun _ h => List.mem_cons_of_mem _ (List.mem_append_right _ h)
set_option maxRecDepth 20000 in
theorem gw_k_leadWindsOn_0 : GoodIn wk_k_leadWindsOn wk_k_windIndex := goodIn_sub (by decide +kernel) (by decide +kernel)
set_option maxRecDepth 20000 in
theorem gw_k_leadWindsOn_1 : GoodIn wk_k_leadWindsOn (wsS RX0 67 yX0_putIfUntold wk_k_putIfUntold10) := goodIn_sub (by decide +kernel) (by decide +kernel)
set_option maxHeartbeats 4000000 in
set_option maxRecDepth 100000 in
theorem k_leadWindsOn (l : Launch) (D : va_G) (cI cB cP : ClassId) (sz : Nat) (h0 : Nat) (lc : Int32) (ln : Int32) (a2 : Nat) (a3 : Nat) (a4 : Nat) (a5 : Nat) (a6 : Nat) (a7 : Nat) (a8 : Nat) (a9 : Nat) (a10 : Nat) (a11 : Nat) (a12 : Nat) (a13 : Nat) (a14 : Nat) (f10 : Nat → Int32) (hlc9 : 0 ≤ lc.toInt ∧ lc.toInt ≤ 16) (hf9 : ∀ k : Nat, k < 288 → (f10 k).toInt = (-1000) ∨ ((-400) ≤ (f10 k).toInt ∧ (f10 k).toInt ≤ 400)) : Met l yX0_leadWindsOn wk_k_leadWindsOn ({ frames := 1, cells := 0, slots := 0, locals := 22 } : Room) (va_Pc [.ref h0] (Pw D cI cB cP sz [(h0, .inr (0, [.int lc, .int ln, .ref a2, .ref a3, .ref a4, .ref a5, .ref a6, .ref a7, .ref a8, .ref a9, .ref a10, .ref a11, .ref a12, .ref a13, .ref a14])), (a10, .inl (cI, 288, .inl f10))])) (va_Qv (fun (_ : Unit) => True) (fun _ t => ∃ g10 : Nat → Int32, (∀ k : Nat, k < 288 → (g10 k).toInt = (-1000) ∨ ((-400) ≤ (g10 k).toInt ∧ (g10 k).toInt ≤ 400)) ∧ va_P D vwCl [(h0, .inr (0, [.int lc, .int ln, .ref a2, .ref a3, .ref a4, .ref a5, .ref a6, .ref a7, .ref a8, .ref a9, .ref a10, .ref a11, .ref a12, .ref a13, .ref a14])), (a10, .inl (cI, 288, .inl g10))] t.heap ∧ va_D (va_A [(h0, .inr (0, [.int lc, .int ln, .ref a2, .ref a3, .ref a4, .ref a5, .ref a6, .ref a7, .ref a8, .ref a9, .ref a10, .ref a11, .ref a12, .ref a13, .ref a14])), (a10, .inl (cI, 288, .inl f10))] sz) [(h0, .inr (0, [.int lc, .int ln, .ref a2, .ref a3, .ref a4, .ref a5, .ref a6, .ref a7, .ref a8, .ref a9, .ref a10, .ref a11, .ref a12, .ref a13, .ref a14])), (a10, .inl (cI, 288, .inl g10))]) (va_A [(h0, .inr (0, [.int lc, .int ln, .ref a2, .ref a3, .ref a4, .ref a5, .ref a6, .ref a7, .ref a8, .ref a9, .ref a10, .ref a11, .ref a12, .ref a13, .ref a14])), (a10, .inl (cI, 288, .inl f10))] sz)) 0 0 (va_A [(h0, .inr (0, [.int lc, .int ln, .ref a2, .ref a3, .ref a4, .ref a5, .ref a6, .ref a7, .ref a8, .ref a9, .ref a10, .ref a11, .ref a12, .ref a13, .ref a14])), (a10, .inl (cI, 288, .inl f10))] sz) := by
  refine Met.ofW (cc := cX0_leadWindsOn) (maxL := 5) (ret := none) (by decide) rfl ?_
  intro p e s m args below meth c s₁ B hml hv
  obtain ⟨rfl, hsz, hP, ⟨hK, hN⟩, hD0⟩ := hv
  have hx := B.exec
  have hb := B.bytes
  have hr := B.returns
  have hts := atoms_spec (ws := wk_k_leadWindsOn) B.pre
  have hown : s.vm.findClass RX0 = some m.cls := findClass_of_methodNamed B.named
  have hlocks := B.notSynchronized
  subst hsz
  have hD := hD0.self (sz := s.heap.size)
  generalize hAe : va_A [(h0, .inr (0, [.int lc, .int ln, .ref a2, .ref a3, .ref a4, .ref a5, .ref a6, .ref a7, .ref a8, .ref a9, .ref a10, .ref a11, .ref a12, .ref a13, .ref a14])), (a10, .inl (cI, 288, .inl f10))] s.heap.size = A at hD ⊢
  have hA : ∀ q : Nat, s.heap.size ≤ q → A q := fun q h => by rw [← hAe]; exact Or.inr h
  have hS : va_S A s.heap s.heap [] := va_S.rf
  have hP : va_P D vwCl [(h0, .inr (0, [.int lc, .int ln, .ref a2, .ref a3, .ref a4, .ref a5, .ref a6, .ref a7, .ref a8, .ref a9, .ref a10, .ref a11, .ref a12, .ref a13, .ref a14])), (a10, .inl (cI, 288, .inl f10))] s.heap := hP
  have hl := lv_entry ([.ref h0]) (n := 5) (Nat.le_of_ble_eq_true rfl)
  rw [lg_entry_eq]
  generalize (lg_sl ([.ref h0]) ++ List.replicate (5 - (lg_sl ([.ref h0])).length) Slot.unset).toArray = ls at hl ⊢
  have hl : lv_has ls 5 [(0, .ref h0)] := hl
  refine lv_iconst (v := 0) hx hb dX0_leadWindsOn_0 (by decide) ?_
  refine lv_istore_n (lv' := [(1, .int 0), (0, .ref h0)]) hx hb dX0_leadWindsOn_1 rfl hl (by decide) rfl (fun ls hl => ?_)
  have loop3 : ∀ (N4 : Nat) (wo1 : Int32) (fz1 : Nat → Int32) (H : Heap) (locs : List Loc) (ls : Array Slot), (0 ≤ wo1.toInt ∧ wo1.toInt ≤ 3) → (∀ k : Nat, k < 288 → (fz1 k).toInt = (-1000) ∨ ((-400) ≤ (fz1 k).toInt ∧ (fz1 k).toInt ≤ 400)) → (3 - wo1.toInt).toNat < N4 → va_P D vwCl [(h0, .inr (0, [.int lc, .int ln, .ref a2, .ref a3, .ref a4, .ref a5, .ref a6, .ref a7, .ref a8, .ref a9, .ref a10, .ref a11, .ref a12, .ref a13, .ref a14])), (a10, .inl (cI, 288, .inl fz1))] H → va_D A [(h0, .inr (0, [.int lc, .int ln, .ref a2, .ref a3, .ref a4, .ref a5, .ref a6, .ref a7, .ref a8, .ref a9, .ref a10, .ref a11, .ref a12, .ref a13, .ref a14])), (a10, .inl (cI, 288, .inl fz1))] → va_S A s.heap H locs → lv_has ls 5 [(1, .int wo1), (0, .ref h0)] → W p l e ({ frames := 1, cells := 0, slots := 0, locals := 22 } : Room) s m ([.ref h0] : List Value).toArray below meth c H locs 0 0 (MQ below (va_Qv (fun (_ : Unit) => True) (fun _ t => ∃ g10 : Nat → Int32, (∀ k : Nat, k < 288 → (g10 k).toInt = (-1000) ∨ ((-400) ≤ (g10 k).toInt ∧ (g10 k).toInt ≤ 400)) ∧ va_P D vwCl [(h0, .inr (0, [.int lc, .int ln, .ref a2, .ref a3, .ref a4, .ref a5, .ref a6, .ref a7, .ref a8, .ref a9, .ref a10, .ref a11, .ref a12, .ref a13, .ref a14])), (a10, .inl (cI, 288, .inl g10))] t.heap ∧ va_D A [(h0, .inr (0, [.int lc, .int ln, .ref a2, .ref a3, .ref a4, .ref a5, .ref a6, .ref a7, .ref a8, .ref a9, .ref a10, .ref a11, .ref a12, .ref a13, .ref a14])), (a10, .inl (cI, 288, .inl g10))]) A) ([.ref h0] : List Value).toArray s 0 0 A) (F0 m 2 ls []) := by
    intro N4
    induction N4 with
    | zero => intro wo1 fz1 H locs ls hi1 hi2 hm9 hP hD hS hl; exact absurd hm9 (Nat.not_lt_zero _)
    | succ N4 ih_N4 => 
      intro wo1 fz1 H locs ls hi1 hi2 hm9 hP hD hS hl
      refine lv_iload_n hx hb dX0_leadWindsOn_2 rfl (lv_at hl 0 rfl) ?_
      refine lv_iconst (v := 3) hx hb dX0_leadWindsOn_3 (by decide) ?_
      refine lv_icmp_ge (tgt := 75) hx hb dX0_leadWindsOn_4 (by decide) (fun c5 => ?_) (fun c5 => ?_)
      · have tc5 : 3 ≤ wo1.toInt := i32_le c5
        have hP9 := hP.sub (ws' := [(h0, .inr (0, [.int lc, .int ln, .ref a2, .ref a3, .ref a4, .ref a5, .ref a6, .ref a7, .ref a8, .ref a9, .ref a10, .ref a11, .ref a12, .ref a13, .ref a14])), (a10, .inl (cI, 288, .inl fz1))]) [0, 1] rfl
        have hD9 := hD.sub (ws' := [(h0, .inr (0, [.int lc, .int ln, .ref a2, .ref a3, .ref a4, .ref a5, .ref a6, .ref a7, .ref a8, .ref a9, .ref a10, .ref a11, .ref a12, .ref a13, .ref a14])), (a10, .inl (cI, 288, .inl fz1))]) [0, 1] (by decide) rfl
        refine W.widen (k := 0) (n := 0) (by decide) (by decide) ?_
        exact W.vret hx hb hr (fun t ht hW => ⟨⟨(), rfl, trivial, fz1, (by assumption), by rw [ht]; exact hP9, hD9⟩, hS.F ht⟩) hS.2.2 dX0_leadWindsOn_75
      · have tc5 : ¬ (3 ≤ wo1.toInt) := i32_nle c5
        refine lv_iconst (v := 0) hx hb dX0_leadWindsOn_7 (by decide) ?_
        refine lv_istore_n (lv' := [(2, .int 0), (1, .int wo1), (0, .ref h0)]) hx hb dX0_leadWindsOn_8 rfl hl (by decide) rfl (fun ls hl => ?_)
        have loop8 : ∀ (N9 : Nat) (le1 : Int32) (fz2 : Nat → Int32) (H : Heap) (locs : List Loc) (ls : Array Slot), (0 ≤ le1.toInt ∧ le1.toInt ≤ 16) → (∀ k : Nat, k < 288 → (fz2 k).toInt = (-1000) ∨ ((-400) ≤ (fz2 k).toInt ∧ (fz2 k).toInt ≤ 400)) → (16 - le1.toInt).toNat < N9 → va_P D vwCl [(h0, .inr (0, [.int lc, .int ln, .ref a2, .ref a3, .ref a4, .ref a5, .ref a6, .ref a7, .ref a8, .ref a9, .ref a10, .ref a11, .ref a12, .ref a13, .ref a14])), (a10, .inl (cI, 288, .inl fz2))] H → va_D A [(h0, .inr (0, [.int lc, .int ln, .ref a2, .ref a3, .ref a4, .ref a5, .ref a6, .ref a7, .ref a8, .ref a9, .ref a10, .ref a11, .ref a12, .ref a13, .ref a14])), (a10, .inl (cI, 288, .inl fz2))] → va_S A s.heap H locs → lv_has ls 5 [(2, .int le1), (1, .int wo1), (0, .ref h0)] → W p l e ({ frames := 1, cells := 0, slots := 0, locals := 22 } : Room) s m ([.ref h0] : List Value).toArray below meth c H locs 0 0 (MQ below (va_Qv (fun (_ : Unit) => True) (fun _ t => ∃ g10 : Nat → Int32, (∀ k : Nat, k < 288 → (g10 k).toInt = (-1000) ∨ ((-400) ≤ (g10 k).toInt ∧ (g10 k).toInt ≤ 400)) ∧ va_P D vwCl [(h0, .inr (0, [.int lc, .int ln, .ref a2, .ref a3, .ref a4, .ref a5, .ref a6, .ref a7, .ref a8, .ref a9, .ref a10, .ref a11, .ref a12, .ref a13, .ref a14])), (a10, .inl (cI, 288, .inl g10))] t.heap ∧ va_D A [(h0, .inr (0, [.int lc, .int ln, .ref a2, .ref a3, .ref a4, .ref a5, .ref a6, .ref a7, .ref a8, .ref a9, .ref a10, .ref a11, .ref a12, .ref a13, .ref a14])), (a10, .inl (cI, 288, .inl g10))]) A) ([.ref h0] : List Value).toArray s 0 0 A) (F0 m 9 ls []) := by
          intro N9
          induction N9 with
          | zero => intro le1 fz2 H locs ls hi6 hi7 hm9 hP hD hS hl; exact absurd hm9 (Nat.not_lt_zero _)
          | succ N9 ih_N9 => 
            intro le1 fz2 H locs ls hi6 hi7 hm9 hP hD hS hl
            refine lv_iload_n hx hb dX0_leadWindsOn_9 rfl (lv_at hl 0 rfl) ?_
            refine lv_aload_n hx hb dX0_leadWindsOn_10 rfl (lv_at hl 2 rfl) ?_
            refine va_get (D := D) (ci := 0) (v := .int lc) (C := RX0) (T := TX0) (N := 15) hx hb hts iw_k_leadWindsOn_0 hown hK hP 0 rfl rfl 0 (by decide) (hts (.fieldLink RX0 54 "FlightDesk$Book" "legCount" "I") (by decide +kernel)) (fun _ h9 => h9) rfl dX0_leadWindsOn_11 ?_
            refine lv_icmp_ge (tgt := 69) hx hb dX0_leadWindsOn_14 (by decide) (fun c10 => ?_) (fun c10 => ?_)
            · have tc10 : lc.toInt ≤ le1.toInt := i32_le c10
              obtain ⟨v11, ev11⟩ : ∃ y : Int32, y = wo1 + 1 := ⟨_, rfl⟩
              have tv11 : v11.toInt = (wo1.toInt + 1 + 2147483648) % 4294967296 - 2147483648 := i32_add ev11
              refine lv_iinc (v := v11) (lv' := [(1, .int v11), (2, .int le1), (0, .ref h0)]) hx hb dX0_leadWindsOn_69 hl (k := 1) rfl (by rw [ev11]; rfl) (by decide) rfl (fun ls hl => ?_)
              refine lv_goto (tgt := 2) hx hb dX0_leadWindsOn_72 (by decide) ?_
              exact ih_N4 v11 fz2 _ _ _ (show 0 ≤ v11.toInt ∧ v11.toInt ≤ 3 by first | assumption | omega | decide) (hi7) (by omega) (hP.sub [0, 1] rfl) (hD.sub [0, 1] (by decide) rfl) hS (lv_sub hl [0, 2] rfl)
            · have tc10 : ¬ (lc.toInt ≤ le1.toInt) := i32_nle c10
              refine lv_iconst (v := 0) hx hb dX0_leadWindsOn_17 (by decide) ?_
              refine lv_istore_n (lv' := [(3, .int 0), (2, .int le1), (1, .int wo1), (0, .ref h0)]) hx hb dX0_leadWindsOn_18 rfl hl (by decide) rfl (fun ls hl => ?_)
              refine lv_iconst (v := 0) hx hb dX0_leadWindsOn_19 (by decide) ?_
              refine lv_istore (lv' := [(4, .int 0), (3, .int 0), (2, .int le1), (1, .int wo1), (0, .ref h0)]) hx hb dX0_leadWindsOn_20 hl (by decide) rfl (fun ls hl => ?_)
              have loop15 : ∀ (N16 : Nat) (lv1 : Int32) (lt1 : Int32) (fz3 : Nat → Int32) (H : Heap) (locs : List Loc) (ls : Array Slot), (0 ≤ lv1.toInt ∧ lv1.toInt ≤ 6) → ((-400) ≤ lt1.toInt ∧ lt1.toInt ≤ 400) → (∀ k : Nat, k < 288 → (fz3 k).toInt = (-1000) ∨ ((-400) ≤ (fz3 k).toInt ∧ (fz3 k).toInt ≤ 400)) → (6 - lv1.toInt).toNat < N16 → va_P D vwCl [(h0, .inr (0, [.int lc, .int ln, .ref a2, .ref a3, .ref a4, .ref a5, .ref a6, .ref a7, .ref a8, .ref a9, .ref a10, .ref a11, .ref a12, .ref a13, .ref a14])), (a10, .inl (cI, 288, .inl fz3))] H → va_D A [(h0, .inr (0, [.int lc, .int ln, .ref a2, .ref a3, .ref a4, .ref a5, .ref a6, .ref a7, .ref a8, .ref a9, .ref a10, .ref a11, .ref a12, .ref a13, .ref a14])), (a10, .inl (cI, 288, .inl fz3))] → va_S A s.heap H locs → lv_has ls 5 [(4, .int lv1), (3, .int lt1), (2, .int le1), (1, .int wo1), (0, .ref h0)] → W p l e ({ frames := 1, cells := 0, slots := 0, locals := 22 } : Room) s m ([.ref h0] : List Value).toArray below meth c H locs 0 0 (MQ below (va_Qv (fun (_ : Unit) => True) (fun _ t => ∃ g10 : Nat → Int32, (∀ k : Nat, k < 288 → (g10 k).toInt = (-1000) ∨ ((-400) ≤ (g10 k).toInt ∧ (g10 k).toInt ≤ 400)) ∧ va_P D vwCl [(h0, .inr (0, [.int lc, .int ln, .ref a2, .ref a3, .ref a4, .ref a5, .ref a6, .ref a7, .ref a8, .ref a9, .ref a10, .ref a11, .ref a12, .ref a13, .ref a14])), (a10, .inl (cI, 288, .inl g10))] t.heap ∧ va_D A [(h0, .inr (0, [.int lc, .int ln, .ref a2, .ref a3, .ref a4, .ref a5, .ref a6, .ref a7, .ref a8, .ref a9, .ref a10, .ref a11, .ref a12, .ref a13, .ref a14])), (a10, .inl (cI, 288, .inl g10))]) A) ([.ref h0] : List Value).toArray s 0 0 A) (F0 m 22 ls []) := by
                intro N16
                induction N16 with
                | zero => intro lv1 lt1 fz3 H locs ls hi12 hi13 hi14 hm9 hP hD hS hl; exact absurd hm9 (Nat.not_lt_zero _)
                | succ N16 ih_N16 => 
                  intro lv1 lt1 fz3 H locs ls hi12 hi13 hi14 hm9 hP hD hS hl
                  refine lv_iload hx hb dX0_leadWindsOn_22 (lv_at hl 0 rfl) ?_
                  refine lv_bipush (v := 6) hx hb dX0_leadWindsOn_24 (by decide) ?_
                  refine lv_icmp_ge (tgt := 63) hx hb dX0_leadWindsOn_26 (by decide) (fun c17 => ?_) (fun c17 => ?_)
                  · have tc17 : 6 ≤ lv1.toInt := i32_le c17
                    obtain ⟨v18, ev18⟩ : ∃ y : Int32, y = le1 + 1 := ⟨_, rfl⟩
                    have tv18 : v18.toInt = (le1.toInt + 1 + 2147483648) % 4294967296 - 2147483648 := i32_add ev18
                    refine lv_iinc (v := v18) (lv' := [(2, .int v18), (4, .int lv1), (3, .int lt1), (1, .int wo1), (0, .ref h0)]) hx hb dX0_leadWindsOn_63 hl (k := 2) rfl (by rw [ev18]; rfl) (by decide) rfl (fun ls hl => ?_)
                    refine lv_goto (tgt := 9) hx hb dX0_leadWindsOn_66 (by decide) ?_
                    exact ih_N9 v18 fz3 _ _ _ (show 0 ≤ v18.toInt ∧ v18.toInt ≤ 16 by first | assumption | omega | decide) (hi14) (by omega) (hP.sub [0, 1] rfl) (hD.sub [0, 1] (by decide) rfl) hS (lv_sub hl [0, 3, 4] rfl)
                  · have tc17 : ¬ (6 ≤ lv1.toInt) := i32_nle c17
                    refine lv_aload_n hx hb dX0_leadWindsOn_29 rfl (lv_at hl 4 rfl) ?_
                    refine va_get (D := D) (ci := 0) (v := .ref a10) (C := RX0) (T := TX0) (N := 15) hx hb hts iw_k_leadWindsOn_0 hown hK hP 0 rfl rfl 10 (by decide) (hts (.fieldLink RX0 36 "FlightDesk$Book" "wind" "[I") (by decide +kernel)) (fun _ h9 => h9) rfl dX0_leadWindsOn_30 ?_
                    refine lv_iload_n hx hb dX0_leadWindsOn_33 rfl (lv_at hl 3 rfl) ?_
                    refine lv_iload hx hb dX0_leadWindsOn_34 (lv_at hl 0 rfl) ?_
                    refine lv_iload_n hx hb dX0_leadWindsOn_36 rfl (lv_at hl 2 rfl) ?_
                    have hPc := hP.sub (ws' := []) [] rfl
                    have hDc := hD.sub (ws' := []) [] (by decide) rfl
                    have hFc := va_free (wc := []) hD hS hA [] rfl
                    refine va_calli (va_runSN (As := [.int wo1, .int lv1, .int le1]) (rest := [.ref a10]) ⟨hx, hb, hml, hown, hts⟩ (k_windIndex l D cI cB cP H.size wo1 lv1 le1 (show 0 ≤ wo1.toInt ∧ wo1.toInt ≤ 1000 by first | assumption | omega | decide) (show 0 ≤ lv1.toInt ∧ lv1.toInt ≤ 1000 by first | assumption | omega | decide) (show 0 ≤ le1.toInt ∧ le1.toInt ≤ 1000 by first | assumption | omega | decide)) ⟨va_cnB 3 hts gw_k_leadWindsOn_0 rfl rfl rfl (hN.2.1) (hts (.initialized RX7) (by decide +kernel)) (by decide +kernel) ⟨Nat.le_of_ble_eq_true rfl, Nat.le_of_ble_eq_true rfl⟩, (hts (.static yX7_windIndex) (by decide +kernel)), trivial⟩ ⟨ny_blind, ny_pre hPc hK hN hDc⟩ rfl rfl hl.1 rfl (lv_room (Nat.le_of_ble_eq_true rfl)) dX0_leadWindsOn_37 ⟨Nat.le_of_ble_eq_true rfl, Nat.le_of_ble_eq_true rfl⟩) hS (fun q _ h => hFc q h) hFc (fun r19 u t H locs ht hvm hw hB hz1 hk1 hS => ?_)
                    obtain ⟨hP, hD⟩ := va_join (wr := [(h0, .inr (0, [.int lc, .int ln, .ref a2, .ref a3, .ref a4, .ref a5, .ref a6, .ref a7, .ref a8, .ref a9, .ref a10, .ref a11, .ref a12, .ref a13, .ref a14])), (a10, .inl (cI, 288, .inl fz3))]) (w1 := []) hP hD [] [0, 1] rfl rfl (by decide) (by decide) hk1 hFc ny_P0 ny_D0
                    have hP : va_P D vwCl [(h0, .inr (0, [.int lc, .int ln, .ref a2, .ref a3, .ref a4, .ref a5, .ref a6, .ref a7, .ref a8, .ref a9, .ref a10, .ref a11, .ref a12, .ref a13, .ref a14])), (a10, .inl (cI, 288, .inl fz3))] H := hP
                    have hD : va_D A [(h0, .inr (0, [.int lc, .int ln, .ref a2, .ref a3, .ref a4, .ref a5, .ref a6, .ref a7, .ref a8, .ref a9, .ref a10, .ref a11, .ref a12, .ref a13, .ref a14])), (a10, .inl (cI, 288, .inl fz3))] := hD
                    have hr19 : r19.toInt = (wo1.toInt * 6 + lv1.toInt) * 16 + le1.toInt := hw
                    refine lv_iload_n hx hb dX0_leadWindsOn_40 rfl (lv_at hl 1 rfl) ?_
                    have hPc := hP.sub (ws' := [(a10, .inl (cI, 288, .inl fz3))]) [1] rfl
                    have hDc := hD.sub (ws' := [(a10, .inl (cI, 288, .inl fz3))]) [1] (by decide) rfl
                    have hFc := va_free (wc := [(a10, .inl (cI, 288, .inl fz3))]) hD hS hA [1] rfl
                    refine va_callv (va_runS (As := [.ref a10, .int r19, .int lt1]) (rest := []) ⟨hx, hb, hml, hown, hts⟩ (k_putIfUntold10 l D cI cB cP H.size a10 r19 lt1 fz3 (show 0 ≤ r19.toInt ∧ r19.toInt ≤ 287 by first | assumption | omega | decide) (show (-400) ≤ lt1.toInt ∧ lt1.toInt ≤ 400 by first | assumption | omega | decide) (by assumption)) (cwS 3 hts gw_k_leadWindsOn_1 rfl rfl rfl (by decide +kernel) ⟨Nat.le_of_ble_eq_true rfl, Nat.le_of_ble_eq_true rfl⟩) ⟨ny_blind, ny_pre hPc hK hN hDc⟩ rfl rfl hl.1 rfl (lv_room (Nat.le_of_ble_eq_true rfl)) dX0_leadWindsOn_41 ⟨Nat.le_of_ble_eq_true rfl, Nat.le_of_ble_eq_true rfl⟩) hS (fun q _ h => hFc q h) hFc (fun u t H locs ht hvm hw hB hz1 hk1 hS => ?_)
                    obtain ⟨g_20, hp22, hp23, hp24, hP1, hD1⟩ := hB
                    rw [ht] at hP1
                    have hp22 : ∀ k : Nat, k < 288 → (g_20 k).toInt = (-1000) ∨ ((-400) ≤ (g_20 k).toInt ∧ (g_20 k).toInt ≤ 400) := hp22
                    have hp23 : (-400) ≤ (g_20 r19.toNatClampNeg).toInt ∧ (g_20 r19.toNatClampNeg).toInt ≤ 400 := hp23
                    have hp24 : ∀ k : Nat, k ≠ r19.toNatClampNeg → g_20 k = fz3 k := hp24
                    obtain ⟨hP, hD⟩ := va_join (wr := [(h0, .inr (0, [.int lc, .int ln, .ref a2, .ref a3, .ref a4, .ref a5, .ref a6, .ref a7, .ref a8, .ref a9, .ref a10, .ref a11, .ref a12, .ref a13, .ref a14]))]) (w1 := [(a10, .inl (cI, 288, .inl g_20))]) hP hD [1] [0] rfl rfl (by decide) (by decide) hk1 hFc hP1 hD1
                    have hP : va_P D vwCl [(h0, .inr (0, [.int lc, .int ln, .ref a2, .ref a3, .ref a4, .ref a5, .ref a6, .ref a7, .ref a8, .ref a9, .ref a10, .ref a11, .ref a12, .ref a13, .ref a14])), (a10, .inl (cI, 288, .inl g_20))] H := hP
                    have hD : va_D A [(h0, .inr (0, [.int lc, .int ln, .ref a2, .ref a3, .ref a4, .ref a5, .ref a6, .ref a7, .ref a8, .ref a9, .ref a10, .ref a11, .ref a12, .ref a13, .ref a14])), (a10, .inl (cI, 288, .inl g_20))] := hD
                    refine lv_aload_n hx hb dX0_leadWindsOn_44 rfl (lv_at hl 4 rfl) ?_
                    refine va_get (D := D) (ci := 0) (v := .ref a10) (C := RX0) (T := TX0) (N := 15) hx hb hts iw_k_leadWindsOn_0 hown hK hP 0 rfl rfl 10 (by decide) (hts (.fieldLink RX0 36 "FlightDesk$Book" "wind" "[I") (by decide +kernel)) (fun _ h9 => h9) rfl dX0_leadWindsOn_45 ?_
                    refine lv_iload_n hx hb dX0_leadWindsOn_48 rfl (lv_at hl 3 rfl) ?_
                    refine lv_iload hx hb dX0_leadWindsOn_49 (lv_at hl 0 rfl) ?_
                    refine lv_iload_n hx hb dX0_leadWindsOn_51 rfl (lv_at hl 2 rfl) ?_
                    have hPc := hP.sub (ws' := []) [] rfl
                    have hDc := hD.sub (ws' := []) [] (by decide) rfl
                    have hFc := va_free (wc := []) hD hS hA [] rfl
                    refine va_calli (va_runSN (As := [.int wo1, .int lv1, .int le1]) (rest := [.ref a10]) ⟨hx, hb, hml, hown, hts⟩ (k_windIndex l D cI cB cP H.size wo1 lv1 le1 (show 0 ≤ wo1.toInt ∧ wo1.toInt ≤ 1000 by first | assumption | omega | decide) (show 0 ≤ lv1.toInt ∧ lv1.toInt ≤ 1000 by first | assumption | omega | decide) (show 0 ≤ le1.toInt ∧ le1.toInt ≤ 1000 by first | assumption | omega | decide)) ⟨va_cnB 3 hts gw_k_leadWindsOn_0 rfl rfl rfl (hN.2.1) (hts (.initialized RX7) (by decide +kernel)) (by decide +kernel) ⟨Nat.le_of_ble_eq_true rfl, Nat.le_of_ble_eq_true rfl⟩, (hts (.static yX7_windIndex) (by decide +kernel)), trivial⟩ ⟨ny_blind, ny_pre hPc hK hN hDc⟩ rfl rfl hl.1 rfl (lv_room (Nat.le_of_ble_eq_true rfl)) dX0_leadWindsOn_52 ⟨Nat.le_of_ble_eq_true rfl, Nat.le_of_ble_eq_true rfl⟩) hS (fun q _ h => hFc q h) hFc (fun r25 u t H locs ht hvm hw hB hz1 hk1 hS => ?_)
                    obtain ⟨hP, hD⟩ := va_join (wr := [(h0, .inr (0, [.int lc, .int ln, .ref a2, .ref a3, .ref a4, .ref a5, .ref a6, .ref a7, .ref a8, .ref a9, .ref a10, .ref a11, .ref a12, .ref a13, .ref a14])), (a10, .inl (cI, 288, .inl g_20))]) (w1 := []) hP hD [] [0, 1] rfl rfl (by decide) (by decide) hk1 hFc ny_P0 ny_D0
                    have hP : va_P D vwCl [(h0, .inr (0, [.int lc, .int ln, .ref a2, .ref a3, .ref a4, .ref a5, .ref a6, .ref a7, .ref a8, .ref a9, .ref a10, .ref a11, .ref a12, .ref a13, .ref a14])), (a10, .inl (cI, 288, .inl g_20))] H := hP
                    have hD : va_D A [(h0, .inr (0, [.int lc, .int ln, .ref a2, .ref a3, .ref a4, .ref a5, .ref a6, .ref a7, .ref a8, .ref a9, .ref a10, .ref a11, .ref a12, .ref a13, .ref a14])), (a10, .inl (cI, 288, .inl g_20))] := hD
                    have hr25 : r25.toInt = (wo1.toInt * 6 + lv1.toInt) * 16 + le1.toInt := hw
                    refine va_iald hx hb hK hP 1 0 rfl rfl (vp_in_iff.mpr ⟨show 0 ≤ r25.toInt by omega, show r25.toInt < ((288 : Nat) : Int) by omega⟩) dX0_leadWindsOn_55 ?_
                    refine lv_topi (fun v26 ev26 => ?_)
                    have tv26 : (-400) ≤ v26.toInt ∧ v26.toInt ≤ 400 := by rw [ev26, ck_eq (show r25.toInt = r19.toInt by omega)]; exact hp23
                    refine lv_istore_n (lv' := [(3, .int v26), (4, .int lv1), (2, .int le1), (1, .int wo1), (0, .ref h0)]) hx hb dX0_leadWindsOn_56 rfl hl (by decide) rfl (fun ls hl => ?_)
                    obtain ⟨v27, ev27⟩ : ∃ y : Int32, y = lv1 + 1 := ⟨_, rfl⟩
                    have tv27 : v27.toInt = (lv1.toInt + 1 + 2147483648) % 4294967296 - 2147483648 := i32_add ev27
                    refine lv_iinc (v := v27) (lv' := [(4, .int v27), (3, .int v26), (2, .int le1), (1, .int wo1), (0, .ref h0)]) hx hb dX0_leadWindsOn_57 hl (k := 1) rfl (by rw [ev27]; rfl) (by decide) rfl (fun ls hl => ?_)
                    refine lv_goto (tgt := 22) hx hb dX0_leadWindsOn_60 (by decide) ?_
                    exact ih_N16 v27 v26 g_20 _ _ _ (show 0 ≤ v27.toInt ∧ v27.toInt ≤ 6 by first | assumption | omega | decide) (show (-400) ≤ v26.toInt ∧ v26.toInt ≤ 400 by first | assumption | omega | decide) (hp22) (by omega) (hP.sub [0, 1] rfl) (hD.sub [0, 1] (by decide) rfl) hS (lv_sub hl [0, 1, 2, 3, 4] rfl)
              exact loop15 _ 0 0 fz2 _ _ _ (show 0 ≤ 0 ∧ 0 ≤ 6 by first | assumption | omega | decide) (show (-400) ≤ 0 ∧ 0 ≤ 400 by first | assumption | omega | decide) (hi7) (Nat.lt_succ_self _) (hP.sub [0, 1] rfl) (hD.sub [0, 1] (by decide) rfl) hS (lv_sub hl [0, 1, 2, 3, 4] rfl)
        exact loop8 _ 0 fz1 _ _ _ (show 0 ≤ 0 ∧ 0 ≤ 16 by first | assumption | omega | decide) (hi2) (Nat.lt_succ_self _) (hP.sub [0, 1] rfl) (hD.sub [0, 1] (by decide) rfl) hS (lv_sub hl [0, 1, 2] rfl)
  exact loop3 _ 0 f10 _ _ _ (show 0 ≤ 0 ∧ 0 ≤ 3 by first | assumption | omega | decide) (hf9) (Nat.lt_succ_self _) (hP.sub [0, 1] rfl) (hD.sub [0, 1] (by decide) rfl) hS (lv_sub hl [0, 1] rfl)
