def wk_k_within : List Cond := .code yX7_within cX7_within 2 (some .boolean) :: ([])
set_option maxHeartbeats 4000000 in
set_option maxRecDepth 100000 in
theorem k_within (l : Launch) (D : va_G) (cI cB cP : ClassId) (sz : Nat) (a : Int32) (b : Int32) : Met l yX7_within wk_k_within ({ frames := 0, cells := 0, slots := 0, locals := 0 } : Room) (va_Pc [.int a, .int b] (Pw D cI cB cP sz [])) (va_Qi (fun (r : Int32) (_ : Unit) => ny_bool r (ny_in a b)) (fun _ _ => True) (va_A [] sz)) 0 0 (va_A [] sz) := by
  refine Met.ofW (cc := cX7_within) (maxL := 2) (ret := (some .boolean)) (by decide) rfl ?_
  intro p e s m args below meth c s₁ B hml hv
  obtain ⟨rfl, hsz, hP, ⟨hK, hN⟩, hD0⟩ := hv
  have hx := B.exec
  have hb := B.bytes
  have hr := B.returns
  have hts := atoms_spec (ws := wk_k_within) B.pre
  have hown : s.vm.findClass RX7 = some m.cls := findClass_of_methodNamed B.named
  have hlocks := B.notSynchronized
  subst hsz
  have hD := hD0.self (sz := s.heap.size)
  generalize hAe : va_A [] s.heap.size = A at hD ⊢
  have hA : ∀ q : Nat, s.heap.size ≤ q → A q := fun q h => by rw [← hAe]; exact Or.inr h
  have hS : va_S A s.heap s.heap [] := va_S.rf
  have hP : va_P D vwCl [] s.heap := hP
  have hl := lv_entry ([.int a, .int b]) (n := 2) (Nat.le_of_ble_eq_true rfl)
  rw [lg_entry_eq]
  generalize (lg_sl ([.int a, .int b]) ++ List.replicate (2 - (lg_sl ([.int a, .int b])).length) Slot.unset).toArray = ls at hl ⊢
  have hl : lv_has ls 2 [(0, .int a), (1, .int b)] := hl
  refine lv_iload_n hx hb dX7_within_0 rfl (lv_at hl 0 rfl) ?_
  refine lv_if_lt (tgt := 13) hx hb dX7_within_1 (by decide) (fun c1 => ?_) (fun c1 => ?_)
  · refine lv_iconst (v := 0) hx hb dX7_within_13 (by decide) ?_
    refine W.widen (k := 0) (n := 0) (by decide) (by decide) ?_
    exact W.zret (v := 0) hx hb hr (by decide) (fun t ht hW => ⟨⟨0, (), rfl, Or.inr ⟨rfl, by simp only [ny_in, Int32.lt_iff_toInt_lt, Int32.le_iff_toInt_le, ← Int32.toInt_inj, show (0 : Int32).toInt = 0 from rfl] at c1 ⊢; omega⟩, trivial⟩, hS.F ht⟩) hS.2.2 dX7_within_14
  · refine lv_iload_n hx hb dX7_within_4 rfl (lv_at hl 0 rfl) ?_
    refine lv_iload_n hx hb dX7_within_5 rfl (lv_at hl 1 rfl) ?_
    refine lv_icmp_ge (tgt := 13) hx hb dX7_within_6 (by decide) (fun c2 => ?_) (fun c2 => ?_)
    · refine lv_iconst (v := 0) hx hb dX7_within_13 (by decide) ?_
      refine W.widen (k := 0) (n := 0) (by decide) (by decide) ?_
      exact W.zret (v := 0) hx hb hr (by decide) (fun t ht hW => ⟨⟨0, (), rfl, Or.inr ⟨rfl, by simp only [ny_in, Int32.lt_iff_toInt_lt, Int32.le_iff_toInt_le, ← Int32.toInt_inj, show (0 : Int32).toInt = 0 from rfl] at c1 c2 ⊢; omega⟩, trivial⟩, hS.F ht⟩) hS.2.2 dX7_within_14
    · refine lv_iconst (v := 1) hx hb dX7_within_9 (by decide) ?_
      refine lv_goto (tgt := 14) hx hb dX7_within_10 (by decide) ?_
      refine W.widen (k := 0) (n := 0) (by decide) (by decide) ?_
      exact W.zret (v := 1) hx hb hr (by decide) (fun t ht hW => ⟨⟨1, (), rfl, Or.inl ⟨rfl, by simp only [ny_in, Int32.lt_iff_toInt_lt, Int32.le_iff_toInt_le, ← Int32.toInt_inj, show (0 : Int32).toInt = 0 from rfl] at c1 c2 ⊢; omega⟩, trivial⟩, hS.F ht⟩) hS.2.2 dX7_within_14

def wk_k_burnIndex : List Cond := .code yX7_burnIndex cX7_burnIndex 2 (some .int) :: ([])
set_option maxHeartbeats 4000000 in
set_option maxRecDepth 100000 in
theorem k_burnIndex (l : Launch) (D : va_G) (cI cB cP : ClassId) (sz : Nat) (a : Nat) (b : Nat) : Met l yX7_burnIndex wk_k_burnIndex ({ frames := 0, cells := 0, slots := 0, locals := 0 } : Room) (va_Pc [.int (nI a), .int (nI b)] (Pw D cI cB cP sz [])) (va_Qi (fun (r : Int32) (_ : Unit) => r = nI (a * 5 + b)) (fun _ _ => True) (va_A [] sz)) 0 0 (va_A [] sz) := by
  refine Met.ofW (cc := cX7_burnIndex) (maxL := 2) (ret := (some .int)) (by decide) rfl ?_
  intro p e s m args below meth c s₁ B hml hv
  obtain ⟨rfl, hsz, hP, ⟨hK, hN⟩, hD0⟩ := hv
  have hx := B.exec
  have hb := B.bytes
  have hr := B.returns
  have hts := atoms_spec (ws := wk_k_burnIndex) B.pre
  have hown : s.vm.findClass RX7 = some m.cls := findClass_of_methodNamed B.named
  have hlocks := B.notSynchronized
  subst hsz
  have hD := hD0.self (sz := s.heap.size)
  generalize hAe : va_A [] s.heap.size = A at hD ⊢
  have hA : ∀ q : Nat, s.heap.size ≤ q → A q := fun q h => by rw [← hAe]; exact Or.inr h
  have hS : va_S A s.heap s.heap [] := va_S.rf
  have hP : va_P D vwCl [] s.heap := hP
  have hl := lv_entry ([.int (nI a), .int (nI b)]) (n := 2) (Nat.le_of_ble_eq_true rfl)
  rw [lg_entry_eq]
  generalize (lg_sl ([.int (nI a), .int (nI b)]) ++ List.replicate (2 - (lg_sl ([.int (nI a), .int (nI b)])).length) Slot.unset).toArray = ls at hl ⊢
  have hl : lv_has ls 2 [(0, .int (nI a)), (1, .int (nI b))] := hl
  refine lv_iload_n hx hb dX7_burnIndex_0 rfl (lv_at hl 0 rfl) ?_
  refine lv_iconst (v := 5) hx hb dX7_burnIndex_1 (by decide) ?_
  refine lv_imul hx hb dX7_burnIndex_2 ?_
  refine lv_topi (fun vv ev => ?_)
  obtain rfl : vv = nI (a * 5) := ev.trans (pk_mul a 5)
  refine lv_iload_n hx hb dX7_burnIndex_3 rfl (lv_at hl 1 rfl) ?_
  refine lv_iadd hx hb dX7_burnIndex_4 ?_
  refine lv_topi (fun vv ev => ?_)
  obtain rfl : vv = nI (a * 5 + b) := ev.trans (nI_add _ _)
  refine W.widen (k := 0) (n := 0) (by decide) (by decide) ?_
  exact W.iret (v := nI (a * 5 + b)) hx hb hr (fun t ht hW => ⟨⟨nI (a * 5 + b), (), rfl, rfl, trivial⟩, hS.F ht⟩) hS.2.2 dX7_burnIndex_5

def wk_k_fill : List Cond := .code yJ7_fill_53178 cJ7_fill_53178 4 none :: ([])
set_option maxHeartbeats 4000000 in
set_option maxRecDepth 100000 in
theorem k_fill (l : Launch) (D : va_G) (cI cB cP : ClassId) (sz : Nat) (a0 : Nat) (n : Nat) (f : Nat → Int32) (v : Int32) (hn : n < 2 ^ 31) : Met l yJ7_fill_53178 wk_k_fill ({ frames := 0, cells := 0, slots := 0, locals := 0 } : Room) (va_Pc [.ref a0, .int v] (Pw D cI cB cP sz [(a0, .inl (cI, n, .inl f))])) (va_Qv (fun (_ : Unit) => True) (fun _ t => ∃ g : Nat → Int32, (∀ k : Nat, k < n → g k = v) ∧ va_P D vwCl [(a0, .inl (cI, n, .inl g))] t.heap ∧ va_D (va_A [(a0, .inl (cI, n, .inl f))] sz) [(a0, .inl (cI, n, .inl g))]) (va_A [(a0, .inl (cI, n, .inl f))] sz)) 0 0 (va_A [(a0, .inl (cI, n, .inl f))] sz) := by
  refine Met.ofW (cc := cJ7_fill_53178) (maxL := 4) (ret := none) (by decide) rfl ?_
  intro p e s m args below meth c s₁ B hml hv
  obtain ⟨rfl, hsz, hP, ⟨hK, hN⟩, hD0⟩ := hv
  have hx := B.exec
  have hb := B.bytes
  have hr := B.returns
  have hts := atoms_spec (ws := wk_k_fill) B.pre
  have hown : s.vm.findClass RJ7 = some m.cls := findClass_of_methodNamed B.named
  have hlocks := B.notSynchronized
  subst hsz
  have hD := hD0.self (sz := s.heap.size)
  generalize hAe : va_A [(a0, .inl (cI, n, .inl f))] s.heap.size = A at hD ⊢
  have hA : ∀ q : Nat, s.heap.size ≤ q → A q := fun q h => by rw [← hAe]; exact Or.inr h
  have hS : va_S A s.heap s.heap [] := va_S.rf
  have hP : va_P D vwCl [(a0, .inl (cI, n, .inl f))] s.heap := hP
  have hl := lv_entry ([.ref a0, .int v]) (n := 4) (Nat.le_of_ble_eq_true rfl)
  rw [lg_entry_eq]
  generalize (lg_sl ([.ref a0, .int v]) ++ List.replicate (4 - (lg_sl ([.ref a0, .int v])).length) Slot.unset).toArray = ls at hl ⊢
  have hl : lv_has ls 4 [(0, .ref a0), (1, .int v)] := hl
  refine lv_iconst (v := 0) hx hb dJ7_fill_53178_0 (by decide) ?_
  refine lv_istore_n (lv' := [(2, .int 0), (0, .ref a0), (1, .int v)]) hx hb dJ7_fill_53178_1 rfl hl (by decide) rfl (fun ls hl => ?_)
  refine lv_aload_n hx hb dJ7_fill_53178_2 rfl (lv_at hl 1 rfl) ?_
  refine va_alen (v := nI n) hx hb hK hP 0 0 rfl rfl rfl dJ7_fill_53178_3 ?_
  refine lv_istore_n (lv' := [(3, .int (nI n)), (2, .int 0), (0, .ref a0), (1, .int v)]) hx hb dJ7_fill_53178_4 rfl hl (by decide) rfl (fun ls hl => ?_)
  have loop1 : ∀ (N2 : Nat) (i : Nat) (f : Nat → Int32) (H : Heap) (locs : List Loc) (ls : Array Slot), (i ≤ n) → (∀ k : Nat, k < i → f k = v) → n - i < N2 → va_P D vwCl [(a0, .inl (cI, n, .inl f))] H → va_D A [(a0, .inl (cI, n, .inl f))] → va_S A s.heap H locs → lv_has ls 4 [(2, .int (nI i)), (3, .int (nI n)), (0, .ref a0), (1, .int v)] → W p l e ({ frames := 0, cells := 0, slots := 0, locals := 0 } : Room) s m ([.ref a0, .int v] : List Value).toArray below meth c H locs 0 0 (MQ below (va_Qv (fun (_ : Unit) => True) (fun _ t => ∃ g : Nat → Int32, (∀ k : Nat, k < n → g k = v) ∧ va_P D vwCl [(a0, .inl (cI, n, .inl g))] t.heap ∧ va_D A [(a0, .inl (cI, n, .inl g))]) A) ([.ref a0, .int v] : List Value).toArray s 0 0 A) (F0 m 5 ls []) := by
    intro N2
    induction N2 with
    | zero => intro i f H locs ls hi hv hm9 hP hD hS hl; exact absurd hm9 (Nat.not_lt_zero _)
    | succ N2 ih => 
      intro i f H locs ls hi hv hm9 hP hD hS hl
      refine lv_iload_n hx hb dJ7_fill_53178_5 rfl (lv_at hl 0 rfl) ?_
      refine lv_iload_n hx hb dJ7_fill_53178_6 rfl (lv_at hl 1 rfl) ?_
      refine lv_icmp_ge (tgt := 20) hx hb dJ7_fill_53178_7 (by decide) (fun c3 => ?_) (fun c3 => ?_)
      · have nc3 : n ≤ i := (nI_leI (a := n) (b := i) (by omega) (by omega)).mp c3
        have hP9 := hP.sub (ws' := [(a0, .inl (cI, n, .inl f))]) [0] rfl
        have hD9 := hD.sub (ws' := [(a0, .inl (cI, n, .inl f))]) [0] (by decide) rfl
        refine W.widen (k := 0) (n := 0) (by decide) (by decide) ?_
        exact W.vret hx hb hr (fun t ht hW => ⟨⟨(), rfl, trivial, f, (fun k hk => hv k (by omega)), by rw [ht]; exact hP9, hD9⟩, hS.F ht⟩) hS.2.2 dJ7_fill_53178_20
      · have nc3 : ¬ (n ≤ i) := fun h => c3 ((nI_leI (a := n) (b := i) (by omega) (by omega)).mpr h)
        refine lv_aload_n hx hb dJ7_fill_53178_10 rfl (lv_at hl 2 rfl) ?_
        refine lv_iload_n hx hb dJ7_fill_53178_11 rfl (lv_at hl 0 rfl) ?_
        refine lv_iload_n hx hb dJ7_fill_53178_12 rfl (lv_at hl 3 rfl) ?_
        refine va_iast hx hb hK hP hD hS 0 0 rfl rfl (vp_in_nI (by omega) hn) dJ7_fill_53178_13 (fun H locs hP hD hS => ?_)
        have hP : va_P D vwCl [(a0, .inl (cI, n, .inl (upd f (nI i).toNatClampNeg v)))] H := hP
        have hD : va_D A [(a0, .inl (cI, n, .inl (upd f (nI i).toNatClampNeg v)))] := hD
        obtain ⟨f4, ef4⟩ : ∃ z : Nat → Int32, z = (upd f (nI i).toNatClampNeg v) := ⟨_, rfl⟩
        rw [← ef4] at hP hD
        refine lv_iinc (v := nI (i + 1)) (lv' := [(2, .int (nI (i + 1))), (3, .int (nI n)), (0, .ref a0), (1, .int v)]) hx hb dJ7_fill_53178_14 hl (k := 0) rfl (show nI i + 1 = _ from nI_1 i) (by decide) rfl (fun ls hl => ?_)
        refine lv_goto (tgt := 5) hx hb dJ7_fill_53178_17 (by decide) ?_
        exact ih (i + 1) f4 _ _ _ (by omega) (fun k hk => by rw [ef4, nI_clamp (by omega)]; exact (Decidable.em (k = i)).elim (fun e9 => by subst e9; exact pk_us) (fun e9 => by rw [pk_un e9]; exact hv k (by omega))) (by omega) (hP.sub [0] rfl) (hD.sub [0] (by decide) rfl) hS (lv_sub hl [0, 1, 2, 3] rfl)
  exact loop1 _ 0 f _ _ _ (Nat.zero_le _) (fun k hk => absurd hk (Nat.not_lt_zero _)) (Nat.lt_succ_self _) (hP.sub [0] rfl) (hD.sub [0] (by decide) rfl) hS (lv_sub hl [1, 0, 2, 3] rfl)

def wk_k_putIfUntold : List Cond := .code yX0_putIfUntold cX0_putIfUntold 3 none :: ([])
set_option maxHeartbeats 4000000 in
set_option maxRecDepth 100000 in
theorem k_putIfUntold (l : Launch) (D : va_G) (cI cB cP : ClassId) (sz : Nat) (a0 : Nat) (i : Nat) (n : Nat) (f : Nat → Int32) (w : Int32) (hn : n < 2 ^ 31) (hi : i < n) (hf : f i = -1000) : Met l yX0_putIfUntold wk_k_putIfUntold ({ frames := 0, cells := 0, slots := 0, locals := 0 } : Room) (va_Pc [.ref a0, .int (nI i), .int w] (Pw D cI cB cP sz [(a0, .inl (cI, n, .inl f))])) (va_Qv (fun (_ : Unit) => True) (fun _ t => ∃ g : Nat → Int32, (g i = w) ∧ (∀ k : Nat, k ≠ i → g k = f k) ∧ va_P D vwCl [(a0, .inl (cI, n, .inl g))] t.heap ∧ va_D (va_A [(a0, .inl (cI, n, .inl f))] sz) [(a0, .inl (cI, n, .inl g))]) (va_A [(a0, .inl (cI, n, .inl f))] sz)) 0 0 (va_A [(a0, .inl (cI, n, .inl f))] sz) := by
  refine Met.ofW (cc := cX0_putIfUntold) (maxL := 3) (ret := none) (by decide) rfl ?_
  intro p e s m args below meth c s₁ B hml hv
  obtain ⟨rfl, hsz, hP, ⟨hK, hN⟩, hD0⟩ := hv
  have hx := B.exec
  have hb := B.bytes
  have hr := B.returns
  have hts := atoms_spec (ws := wk_k_putIfUntold) B.pre
  have hown : s.vm.findClass RX0 = some m.cls := findClass_of_methodNamed B.named
  have hlocks := B.notSynchronized
  subst hsz
  have hD := hD0.self (sz := s.heap.size)
  generalize hAe : va_A [(a0, .inl (cI, n, .inl f))] s.heap.size = A at hD ⊢
  have hA : ∀ q : Nat, s.heap.size ≤ q → A q := fun q h => by rw [← hAe]; exact Or.inr h
  have hS : va_S A s.heap s.heap [] := va_S.rf
  have hP : va_P D vwCl [(a0, .inl (cI, n, .inl f))] s.heap := hP
  have hl := lv_entry ([.ref a0, .int (nI i), .int w]) (n := 3) (Nat.le_of_ble_eq_true rfl)
  rw [lg_entry_eq]
  generalize (lg_sl ([.ref a0, .int (nI i), .int w]) ++ List.replicate (3 - (lg_sl ([.ref a0, .int (nI i), .int w])).length) Slot.unset).toArray = ls at hl ⊢
  have hl : lv_has ls 3 [(0, .ref a0), (1, .int (nI i)), (2, .int w)] := hl
  refine lv_iload_n hx hb dX0_putIfUntold_0 rfl (lv_at hl 1 rfl) ?_
  refine lv_if_lt (tgt := 23) hx hb dX0_putIfUntold_1 (by decide) (fun h9 => absurd h9 (nI_pos (by omega))) (fun c1 => ?_)
  refine lv_iload_n hx hb dX0_putIfUntold_4 rfl (lv_at hl 1 rfl) ?_
  refine lv_aload_n hx hb dX0_putIfUntold_5 rfl (lv_at hl 0 rfl) ?_
  refine va_alen (v := nI n) hx hb hK hP 0 0 rfl rfl rfl dX0_putIfUntold_6 ?_
  refine lv_icmp_ge (tgt := 23) hx hb dX0_putIfUntold_7 (by decide) (fun h9 => absurd h9 (nI_ge hi hn)) (fun c2 => ?_)
  refine lv_aload_n hx hb dX0_putIfUntold_10 rfl (lv_at hl 0 rfl) ?_
  refine lv_iload_n hx hb dX0_putIfUntold_11 rfl (lv_at hl 1 rfl) ?_
  refine va_iald hx hb hK hP 0 0 rfl rfl (vp_in_nI hi hn) dX0_putIfUntold_12 ?_
  refine lv_topi (fun vv ev => ?_)
  obtain rfl : vv = (-1000) := ev.trans (by rw [nI_clamp (by omega)]; exact hf)
  refine lv_sipush (v := (-1000)) hx hb dX0_putIfUntold_13 (by decide) ?_
  refine lv_icmp_ne (tgt := 23) hx hb dX0_putIfUntold_16 (by decide) (fun h9 => (by first | exact absurd h9 (by decide) | exact absurd (by decide) h9)) (fun c3 => ?_)
  refine lv_aload_n hx hb dX0_putIfUntold_19 rfl (lv_at hl 0 rfl) ?_
  refine lv_iload_n hx hb dX0_putIfUntold_20 rfl (lv_at hl 1 rfl) ?_
  refine lv_iload_n hx hb dX0_putIfUntold_21 rfl (lv_at hl 2 rfl) ?_
  refine va_iast hx hb hK hP hD hS 0 0 rfl rfl (vp_in_nI hi hn) dX0_putIfUntold_22 (fun H locs hP hD hS => ?_)
  have hP : va_P D vwCl [(a0, .inl (cI, n, .inl (upd f (nI i).toNatClampNeg w)))] H := hP
  have hD : va_D A [(a0, .inl (cI, n, .inl (upd f (nI i).toNatClampNeg w)))] := hD
  obtain ⟨f4, ef4⟩ : ∃ z : Nat → Int32, z = (upd f (nI i).toNatClampNeg w) := ⟨_, rfl⟩
  rw [← ef4] at hP hD
  have hP9 := hP.sub (ws' := [(a0, .inl (cI, n, .inl f4))]) [0] rfl
  have hD9 := hD.sub (ws' := [(a0, .inl (cI, n, .inl f4))]) [0] (by decide) rfl
  refine W.widen (k := 0) (n := 0) (by decide) (by decide) ?_
  exact W.vret hx hb hr (fun t ht hW => ⟨⟨(), rfl, trivial, f4, (by rw [ef4, nI_clamp (by omega)]; exact pk_us), (fun k hk => by rw [ef4, nI_clamp (by omega)]; exact pk_un hk), by rw [ht]; exact hP9, hD9⟩, hS.F ht⟩) hS.2.2 dX0_putIfUntold_23
