def wk_k_within : List Cond := .code yX7_within cX7_within 2 (some .boolean) :: ([])
set_option maxHeartbeats 4000000 in
set_option maxRecDepth 100000 in
theorem k_within (l : Launch) (D : va_G) (cI cB cP : ClassId) (sz : Nat) (a : Int32) (b : Int32) : Met l yX7_within wk_k_within ({ frames := 0, cells := 0, slots := 0, locals := 0 } : Room) (va_Pc [.int a, .int b] (Pw D cI cB cP sz [])) (va_Qi (fun (r : Int32) (_ : Unit) => ny_bool r (0 ≤ a.toInt ∧ a.toInt < b.toInt)) (fun _ _ => True) (va_A [] sz)) 0 0 (va_A [] sz) := by
  refine Met.ofW (cc := cX7_within) (maxL := 2) (ret := (some .boolean)) (by decide) rfl ?_
  intro p e s m args below meth c s₁ B hml hv
  obtain ⟨rfl, hsz, hP, ⟨hK, hN⟩, hD0⟩ := hv
  have hx := B.exec
  have hb := B.bytes
  have hr := B.returns
  have hts := atoms_spec (ws := wk_k_within) B.pre
  have hown : s.vm.findClass RX7 = some m.cls := findClass_of_methodNamed B.named
  have hlocks := B.notSynchronized
  subst hsz
  have hD := hD0.self (sz := s.heap.size)
  generalize hAe : va_A [] s.heap.size = A at hD ⊢
  have hA : ∀ q : Nat, s.heap.size ≤ q → A q := fun q h => by rw [← hAe]; exact Or.inr h
  have hS : va_S A s.heap s.heap [] := va_S.rf
  have hP : va_P D vwCl [] s.heap := hP
  have hl := lv_entry ([.int a, .int b]) (n := 2) (Nat.le_of_ble_eq_true rfl)
  rw [lg_entry_eq]
  generalize (lg_sl ([.int a, .int b]) ++ List.replicate (2 - (lg_sl ([.int a, .int b])).length) Slot.unset).toArray = ls at hl ⊢
  have hl : lv_has ls 2 [(0, .int a), (1, .int b)] := hl
  refine lv_iload_n hx hb dX7_within_0 rfl (lv_at hl 0 rfl) ?_
  refine lv_if_lt (tgt := 13) hx hb dX7_within_1 (by decide) (fun c1 => ?_) (fun c1 => ?_)
  · have tc1 : a.toInt < 0 := i32_lt c1
    refine lv_iconst (v := 0) hx hb dX7_within_13 (by decide) ?_
    refine W.widen (k := 0) (n := 0) (by decide) (by decide) ?_
    exact W.zret (v := 0) hx hb hr (by decide) (fun t ht hW => ⟨⟨0, (), rfl, (Or.inr ⟨rfl, show ¬ (0 ≤ a.toInt ∧ a.toInt < b.toInt) by omega⟩), trivial⟩, hS.F ht⟩) hS.2.2 dX7_within_14
  · have tc1 : ¬ (a.toInt < 0) := i32_nlt c1
    refine lv_iload_n hx hb dX7_within_4 rfl (lv_at hl 0 rfl) ?_
    refine lv_iload_n hx hb dX7_within_5 rfl (lv_at hl 1 rfl) ?_
    refine lv_icmp_ge (tgt := 13) hx hb dX7_within_6 (by decide) (fun c2 => ?_) (fun c2 => ?_)
    · have tc2 : b.toInt ≤ a.toInt := i32_le c2
      refine lv_iconst (v := 0) hx hb dX7_within_13 (by decide) ?_
      refine W.widen (k := 0) (n := 0) (by decide) (by decide) ?_
      exact W.zret (v := 0) hx hb hr (by decide) (fun t ht hW => ⟨⟨0, (), rfl, (Or.inr ⟨rfl, show ¬ (0 ≤ a.toInt ∧ a.toInt < b.toInt) by omega⟩), trivial⟩, hS.F ht⟩) hS.2.2 dX7_within_14
    · have tc2 : ¬ (b.toInt ≤ a.toInt) := i32_nle c2
      refine lv_iconst (v := 1) hx hb dX7_within_9 (by decide) ?_
      refine lv_goto (tgt := 14) hx hb dX7_within_10 (by decide) ?_
      refine W.widen (k := 0) (n := 0) (by decide) (by decide) ?_
      exact W.zret (v := 1) hx hb hr (by decide) (fun t ht hW => ⟨⟨1, (), rfl, (Or.inl ⟨rfl, show (0 ≤ a.toInt ∧ a.toInt < b.toInt) by omega⟩), trivial⟩, hS.F ht⟩) hS.2.2 dX7_within_14

def wk_k_burnIndex : List Cond := .code yX7_burnIndex cX7_burnIndex 2 (some .int) :: ([])
set_option maxHeartbeats 4000000 in
set_option maxRecDepth 100000 in
theorem k_burnIndex (l : Launch) (D : va_G) (cI cB cP : ClassId) (sz : Nat) (a : Int32) (b : Int32) (ha9 : 0 ≤ a.toInt ∧ a.toInt ≤ 1000) (hb9 : 0 ≤ b.toInt ∧ b.toInt ≤ 1000) : Met l yX7_burnIndex wk_k_burnIndex ({ frames := 0, cells := 0, slots := 0, locals := 0 } : Room) (va_Pc [.int a, .int b] (Pw D cI cB cP sz [])) (va_Qi (fun (r : Int32) (_ : Unit) => r.toInt = a.toInt * 5 + b.toInt) (fun _ _ => True) (va_A [] sz)) 0 0 (va_A [] sz) := by
  refine Met.ofW (cc := cX7_burnIndex) (maxL := 2) (ret := (some .int)) (by decide) rfl ?_
  intro p e s m args below meth c s₁ B hml hv
  obtain ⟨rfl, hsz, hP, ⟨hK, hN⟩, hD0⟩ := hv
  have hx := B.exec
  have hb := B.bytes
  have hr := B.returns
  have hts := atoms_spec (ws := wk_k_burnIndex) B.pre
  have hown : s.vm.findClass RX7 = some m.cls := findClass_of_methodNamed B.named
  have hlocks := B.notSynchronized
  subst hsz
  have hD := hD0.self (sz := s.heap.size)
  generalize hAe : va_A [] s.heap.size = A at hD ⊢
  have hA : ∀ q : Nat, s.heap.size ≤ q → A q := fun q h => by rw [← hAe]; exact Or.inr h
  have hS : va_S A s.heap s.heap [] := va_S.rf
  have hP : va_P D vwCl [] s.heap := hP
  have hl := lv_entry ([.int a, .int b]) (n := 2) (Nat.le_of_ble_eq_true rfl)
  rw [lg_entry_eq]
  generalize (lg_sl ([.int a, .int b]) ++ List.replicate (2 - (lg_sl ([.int a, .int b])).length) Slot.unset).toArray = ls at hl ⊢
  have hl : lv_has ls 2 [(0, .int a), (1, .int b)] := hl
  refine lv_iload_n hx hb dX7_burnIndex_0 rfl (lv_at hl 0 rfl) ?_
  refine lv_iconst (v := 5) hx hb dX7_burnIndex_1 (by decide) ?_
  refine lv_imul hx hb dX7_burnIndex_2 ?_
  refine lv_topi (fun v1 ev1 => ?_)
  have tv1 : v1.toInt = (a.toInt * 5 + 2147483648) % 4294967296 - 2147483648 := i32_mul ev1
  refine lv_iload_n hx hb dX7_burnIndex_3 rfl (lv_at hl 1 rfl) ?_
  refine lv_iadd hx hb dX7_burnIndex_4 ?_
  refine lv_topi (fun v2 ev2 => ?_)
  have tv2 : v2.toInt = (v1.toInt + b.toInt + 2147483648) % 4294967296 - 2147483648 := i32_add ev2
  refine W.widen (k := 0) (n := 0) (by decide) (by decide) ?_
  exact W.iret (v := v2) hx hb hr (fun t ht hW => ⟨⟨v2, (), rfl, (show v2.toInt = a.toInt * 5 + b.toInt by first | assumption | omega | trivial | decide), trivial⟩, hS.F ht⟩) hS.2.2 dX7_burnIndex_5

def wk_k_legIndex : List Cond := .code yX7_legIndex cX7_legIndex 2 (some .int) :: ([])
set_option maxHeartbeats 4000000 in
set_option maxRecDepth 100000 in
theorem k_legIndex (l : Launch) (D : va_G) (cI cB cP : ClassId) (sz : Nat) (a : Int32) (b : Int32) (ha9 : 0 ≤ a.toInt ∧ a.toInt ≤ 1000) (hb9 : 0 ≤ b.toInt ∧ b.toInt ≤ 1000) : Met l yX7_legIndex wk_k_legIndex ({ frames := 0, cells := 0, slots := 0, locals := 0 } : Room) (va_Pc [.int a, .int b] (Pw D cI cB cP sz [])) (va_Qi (fun (r : Int32) (_ : Unit) => r.toInt = a.toInt * 6 + b.toInt) (fun _ _ => True) (va_A [] sz)) 0 0 (va_A [] sz) := by
  refine Met.ofW (cc := cX7_legIndex) (maxL := 2) (ret := (some .int)) (by decide) rfl ?_
  intro p e s m args below meth c s₁ B hml hv
  obtain ⟨rfl, hsz, hP, ⟨hK, hN⟩, hD0⟩ := hv
  have hx := B.exec
  have hb := B.bytes
  have hr := B.returns
  have hts := atoms_spec (ws := wk_k_legIndex) B.pre
  have hown : s.vm.findClass RX7 = some m.cls := findClass_of_methodNamed B.named
  have hlocks := B.notSynchronized
  subst hsz
  have hD := hD0.self (sz := s.heap.size)
  generalize hAe : va_A [] s.heap.size = A at hD ⊢
  have hA : ∀ q : Nat, s.heap.size ≤ q → A q := fun q h => by rw [← hAe]; exact Or.inr h
  have hS : va_S A s.heap s.heap [] := va_S.rf
  have hP : va_P D vwCl [] s.heap := hP
  have hl := lv_entry ([.int a, .int b]) (n := 2) (Nat.le_of_ble_eq_true rfl)
  rw [lg_entry_eq]
  generalize (lg_sl ([.int a, .int b]) ++ List.replicate (2 - (lg_sl ([.int a, .int b])).length) Slot.unset).toArray = ls at hl ⊢
  have hl : lv_has ls 2 [(0, .int a), (1, .int b)] := hl
  refine lv_iload_n hx hb dX7_legIndex_0 rfl (lv_at hl 0 rfl) ?_
  refine lv_bipush (v := 6) hx hb dX7_legIndex_1 (by decide) ?_
  refine lv_imul hx hb dX7_legIndex_3 ?_
  refine lv_topi (fun v1 ev1 => ?_)
  have tv1 : v1.toInt = (a.toInt * 6 + 2147483648) % 4294967296 - 2147483648 := i32_mul ev1
  refine lv_iload_n hx hb dX7_legIndex_4 rfl (lv_at hl 1 rfl) ?_
  refine lv_iadd hx hb dX7_legIndex_5 ?_
  refine lv_topi (fun v2 ev2 => ?_)
  have tv2 : v2.toInt = (v1.toInt + b.toInt + 2147483648) % 4294967296 - 2147483648 := i32_add ev2
  refine W.widen (k := 0) (n := 0) (by decide) (by decide) ?_
  exact W.iret (v := v2) hx hb hr (fun t ht hW => ⟨⟨v2, (), rfl, (show v2.toInt = a.toInt * 6 + b.toInt by first | assumption | omega | trivial | decide), trivial⟩, hS.F ht⟩) hS.2.2 dX7_legIndex_6

def wk_k_stageIndex : List Cond := .code yX7_stageIndex cX7_stageIndex 2 (some .int) :: ([])
set_option maxHeartbeats 4000000 in
set_option maxRecDepth 100000 in
theorem k_stageIndex (l : Launch) (D : va_G) (cI cB cP : ClassId) (sz : Nat) (a : Int32) (b : Int32) (ha9 : 0 ≤ a.toInt ∧ a.toInt ≤ 1000) (hb9 : 0 ≤ b.toInt ∧ b.toInt ≤ 1000) : Met l yX7_stageIndex wk_k_stageIndex ({ frames := 0, cells := 0, slots := 0, locals := 0 } : Room) (va_Pc [.int a, .int b] (Pw D cI cB cP sz [])) (va_Qi (fun (r : Int32) (_ : Unit) => r.toInt = a.toInt * 7 + b.toInt) (fun _ _ => True) (va_A [] sz)) 0 0 (va_A [] sz) := by
  refine Met.ofW (cc := cX7_stageIndex) (maxL := 2) (ret := (some .int)) (by decide) rfl ?_
  intro p e s m args below meth c s₁ B hml hv
  obtain ⟨rfl, hsz, hP, ⟨hK, hN⟩, hD0⟩ := hv
  have hx := B.exec
  have hb := B.bytes
  have hr := B.returns
  have hts := atoms_spec (ws := wk_k_stageIndex) B.pre
  have hown : s.vm.findClass RX7 = some m.cls := findClass_of_methodNamed B.named
  have hlocks := B.notSynchronized
  subst hsz
  have hD := hD0.self (sz := s.heap.size)
  generalize hAe : va_A [] s.heap.size = A at hD ⊢
  have hA : ∀ q : Nat, s.heap.size ≤ q → A q := fun q h => by rw [← hAe]; exact Or.inr h
  have hS : va_S A s.heap s.heap [] := va_S.rf
  have hP : va_P D vwCl [] s.heap := hP
  have hl := lv_entry ([.int a, .int b]) (n := 2) (Nat.le_of_ble_eq_true rfl)
  rw [lg_entry_eq]
  generalize (lg_sl ([.int a, .int b]) ++ List.replicate (2 - (lg_sl ([.int a, .int b])).length) Slot.unset).toArray = ls at hl ⊢
  have hl : lv_has ls 2 [(0, .int a), (1, .int b)] := hl
  refine lv_iload_n hx hb dX7_stageIndex_0 rfl (lv_at hl 0 rfl) ?_
  refine lv_bipush (v := 7) hx hb dX7_stageIndex_1 (by decide) ?_
  refine lv_imul hx hb dX7_stageIndex_3 ?_
  refine lv_topi (fun v1 ev1 => ?_)
  have tv1 : v1.toInt = (a.toInt * 7 + 2147483648) % 4294967296 - 2147483648 := i32_mul ev1
  refine lv_iload_n hx hb dX7_stageIndex_4 rfl (lv_at hl 1 rfl) ?_
  refine lv_iadd hx hb dX7_stageIndex_5 ?_
  refine lv_topi (fun v2 ev2 => ?_)
  have tv2 : v2.toInt = (v1.toInt + b.toInt + 2147483648) % 4294967296 - 2147483648 := i32_add ev2
  refine W.widen (k := 0) (n := 0) (by decide) (by decide) ?_
  exact W.iret (v := v2) hx hb hr (fun t ht hW => ⟨⟨v2, (), rfl, (show v2.toInt = a.toInt * 7 + b.toInt by first | assumption | omega | trivial | decide), trivial⟩, hS.F ht⟩) hS.2.2 dX7_stageIndex_6

def wk_k_windIndex : List Cond := .code yX7_windIndex cX7_windIndex 3 (some .int) :: ([])
set_option maxHeartbeats 4000000 in
set_option maxRecDepth 100000 in
theorem k_windIndex (l : Launch) (D : va_G) (cI cB cP : ClassId) (sz : Nat) (a : Int32) (b : Int32) (d : Int32) (ha9 : 0 ≤ a.toInt ∧ a.toInt ≤ 1000) (hb9 : 0 ≤ b.toInt ∧ b.toInt ≤ 1000) (hd9 : 0 ≤ d.toInt ∧ d.toInt ≤ 1000) : Met l yX7_windIndex wk_k_windIndex ({ frames := 0, cells := 0, slots := 0, locals := 0 } : Room) (va_Pc [.int a, .int b, .int d] (Pw D cI cB cP sz [])) (va_Qi (fun (r : Int32) (_ : Unit) => r.toInt = (a.toInt * 6 + b.toInt) * 16 + d.toInt) (fun _ _ => True) (va_A [] sz)) 0 0 (va_A [] sz) := by
  refine Met.ofW (cc := cX7_windIndex) (maxL := 3) (ret := (some .int)) (by decide) rfl ?_
  intro p e s m args below meth c s₁ B hml hv
  obtain ⟨rfl, hsz, hP, ⟨hK, hN⟩, hD0⟩ := hv
  have hx := B.exec
  have hb := B.bytes
  have hr := B.returns
  have hts := atoms_spec (ws := wk_k_windIndex) B.pre
  have hown : s.vm.findClass RX7 = some m.cls := findClass_of_methodNamed B.named
  have hlocks := B.notSynchronized
  subst hsz
  have hD := hD0.self (sz := s.heap.size)
  generalize hAe : va_A [] s.heap.size = A at hD ⊢
  have hA : ∀ q : Nat, s.heap.size ≤ q → A q := fun q h => by rw [← hAe]; exact Or.inr h
  have hS : va_S A s.heap s.heap [] := va_S.rf
  have hP : va_P D vwCl [] s.heap := hP
  have hl := lv_entry ([.int a, .int b, .int d]) (n := 3) (Nat.le_of_ble_eq_true rfl)
  rw [lg_entry_eq]
  generalize (lg_sl ([.int a, .int b, .int d]) ++ List.replicate (3 - (lg_sl ([.int a, .int b, .int d])).length) Slot.unset).toArray = ls at hl ⊢
  have hl : lv_has ls 3 [(0, .int a), (1, .int b), (2, .int d)] := hl
  refine lv_iload_n hx hb dX7_windIndex_0 rfl (lv_at hl 0 rfl) ?_
  refine lv_bipush (v := 6) hx hb dX7_windIndex_1 (by decide) ?_
  refine lv_imul hx hb dX7_windIndex_3 ?_
  refine lv_topi (fun v1 ev1 => ?_)
  have tv1 : v1.toInt = (a.toInt * 6 + 2147483648) % 4294967296 - 2147483648 := i32_mul ev1
  refine lv_iload_n hx hb dX7_windIndex_4 rfl (lv_at hl 1 rfl) ?_
  refine lv_iadd hx hb dX7_windIndex_5 ?_
  refine lv_topi (fun v2 ev2 => ?_)
  have tv2 : v2.toInt = (v1.toInt + b.toInt + 2147483648) % 4294967296 - 2147483648 := i32_add ev2
  refine lv_bipush (v := 16) hx hb dX7_windIndex_6 (by decide) ?_
  refine lv_imul hx hb dX7_windIndex_8 ?_
  refine lv_topi (fun v3 ev3 => ?_)
  have tv3 : v3.toInt = (v2.toInt * 16 + 2147483648) % 4294967296 - 2147483648 := i32_mul ev3
  refine lv_iload_n hx hb dX7_windIndex_9 rfl (lv_at hl 2 rfl) ?_
  refine lv_iadd hx hb dX7_windIndex_10 ?_
  refine lv_topi (fun v4 ev4 => ?_)
  have tv4 : v4.toInt = (v3.toInt + d.toInt + 2147483648) % 4294967296 - 2147483648 := i32_add ev4
  refine W.widen (k := 0) (n := 0) (by decide) (by decide) ?_
  exact W.iret (v := v4) hx hb hr (fun t ht hW => ⟨⟨v4, (), rfl, (show v4.toInt = (a.toInt * 6 + b.toInt) * 16 + d.toInt by first | assumption | omega | trivial | decide), trivial⟩, hS.F ht⟩) hS.2.2 dX7_windIndex_11

def wk_k_isBlank : List Cond := .code yX4_isBlank cX4_isBlank 1 (some .boolean) :: ([])
set_option maxHeartbeats 4000000 in
set_option maxRecDepth 100000 in
theorem k_isBlank (l : Launch) (D : va_G) (cI cB cP : ClassId) (sz : Nat) (a : Int32) : Met l yX4_isBlank wk_k_isBlank ({ frames := 0, cells := 0, slots := 0, locals := 0 } : Room) (va_Pc [.int a] (Pw D cI cB cP sz [])) (va_Qi (fun (r : Int32) (_ : Unit) => 0 ≤ r.toInt) (fun _ _ => True) (va_A [] sz)) 0 0 (va_A [] sz) := by
  refine Met.ofW (cc := cX4_isBlank) (maxL := 1) (ret := (some .boolean)) (by decide) rfl ?_
  intro p e s m args below meth c s₁ B hml hv
  obtain ⟨rfl, hsz, hP, ⟨hK, hN⟩, hD0⟩ := hv
  have hx := B.exec
  have hb := B.bytes
  have hr := B.returns
  have hts := atoms_spec (ws := wk_k_isBlank) B.pre
  have hown : s.vm.findClass RX4 = some m.cls := findClass_of_methodNamed B.named
  have hlocks := B.notSynchronized
  subst hsz
  have hD := hD0.self (sz := s.heap.size)
  generalize hAe : va_A [] s.heap.size = A at hD ⊢
  have hA : ∀ q : Nat, s.heap.size ≤ q → A q := fun q h => by rw [← hAe]; exact Or.inr h
  have hS : va_S A s.heap s.heap [] := va_S.rf
  have hP : va_P D vwCl [] s.heap := hP
  have hl := lv_entry ([.int a]) (n := 1) (Nat.le_of_ble_eq_true rfl)
  rw [lg_entry_eq]
  generalize (lg_sl ([.int a]) ++ List.replicate (1 - (lg_sl ([.int a])).length) Slot.unset).toArray = ls at hl ⊢
  have hl : lv_has ls 1 [(0, .int a)] := hl
  refine lv_iload_n hx hb dX4_isBlank_0 rfl (lv_at hl 0 rfl) ?_
  refine lv_bipush (v := 32) hx hb dX4_isBlank_1 (by decide) ?_
  refine lv_icmp_eq (tgt := 12) hx hb dX4_isBlank_3 (by decide) (fun c1 => ?_) (fun c1 => ?_)
  · have tc1 : a.toInt = 32 := i32_eq c1
    refine lv_iconst (v := 1) hx hb dX4_isBlank_12 (by decide) ?_
    refine lv_goto (tgt := 17) hx hb dX4_isBlank_13 (by decide) ?_
    refine W.widen (k := 0) (n := 0) (by decide) (by decide) ?_
    exact W.zret (v := 1) hx hb hr (by decide) (fun t ht hW => ⟨⟨1, (), rfl, (show 0 ≤ 1 by first | assumption | omega | trivial | decide), trivial⟩, hS.F ht⟩) hS.2.2 dX4_isBlank_17
  · have tc1 : ¬ (a.toInt = 32) := i32_neq c1
    refine lv_iload_n hx hb dX4_isBlank_6 rfl (lv_at hl 0 rfl) ?_
    refine lv_bipush (v := 10) hx hb dX4_isBlank_7 (by decide) ?_
    refine lv_icmp_ne (tgt := 16) hx hb dX4_isBlank_9 (by decide) (fun c2 => ?_) (fun c2 => ?_)
    · have tc2 : ¬ (a.toInt = 10) := i32_neq c2
      refine lv_iconst (v := 0) hx hb dX4_isBlank_16 (by decide) ?_
      refine W.widen (k := 0) (n := 0) (by decide) (by decide) ?_
      exact W.zret (v := 0) hx hb hr (by decide) (fun t ht hW => ⟨⟨0, (), rfl, (show 0 ≤ 0 by first | assumption | omega | trivial | decide), trivial⟩, hS.F ht⟩) hS.2.2 dX4_isBlank_17
    · have tc2 : a.toInt = 10 := i32_eq c2
      refine lv_iconst (v := 1) hx hb dX4_isBlank_12 (by decide) ?_
      refine lv_goto (tgt := 17) hx hb dX4_isBlank_13 (by decide) ?_
      refine W.widen (k := 0) (n := 0) (by decide) (by decide) ?_
      exact W.zret (v := 1) hx hb hr (by decide) (fun t ht hW => ⟨⟨1, (), rfl, (show 0 ≤ 1 by first | assumption | omega | trivial | decide), trivial⟩, hS.F ht⟩) hS.2.2 dX4_isBlank_17

def wk_k_isLetter : List Cond := .code yX4_isLetter cX4_isLetter 1 (some .boolean) :: ([])
set_option maxHeartbeats 4000000 in
set_option maxRecDepth 100000 in
theorem k_isLetter (l : Launch) (D : va_G) (cI cB cP : ClassId) (sz : Nat) (a : Int32) : Met l yX4_isLetter wk_k_isLetter ({ frames := 0, cells := 0, slots := 0, locals := 0 } : Room) (va_Pc [.int a] (Pw D cI cB cP sz [])) (va_Qi (fun (r : Int32) (_ : Unit) => 0 ≤ r.toInt) (fun _ _ => True) (va_A [] sz)) 0 0 (va_A [] sz) := by
  refine Met.ofW (cc := cX4_isLetter) (maxL := 1) (ret := (some .boolean)) (by decide) rfl ?_
  intro p e s m args below meth c s₁ B hml hv
  obtain ⟨rfl, hsz, hP, ⟨hK, hN⟩, hD0⟩ := hv
  have hx := B.exec
  have hb := B.bytes
  have hr := B.returns
  have hts := atoms_spec (ws := wk_k_isLetter) B.pre
  have hown : s.vm.findClass RX4 = some m.cls := findClass_of_methodNamed B.named
  have hlocks := B.notSynchronized
  subst hsz
  have hD := hD0.self (sz := s.heap.size)
  generalize hAe : va_A [] s.heap.size = A at hD ⊢
  have hA : ∀ q : Nat, s.heap.size ≤ q → A q := fun q h => by rw [← hAe]; exact Or.inr h
  have hS : va_S A s.heap s.heap [] := va_S.rf
  have hP : va_P D vwCl [] s.heap := hP
  have hl := lv_entry ([.int a]) (n := 1) (Nat.le_of_ble_eq_true rfl)
  rw [lg_entry_eq]
  generalize (lg_sl ([.int a]) ++ List.replicate (1 - (lg_sl ([.int a])).length) Slot.unset).toArray = ls at hl ⊢
  have hl : lv_has ls 1 [(0, .int a)] := hl
  refine lv_iload_n hx hb dX4_isLetter_0 rfl (lv_at hl 0 rfl) ?_
  refine lv_bipush (v := 97) hx hb dX4_isLetter_1 (by decide) ?_
  refine lv_icmp_lt (tgt := 16) hx hb dX4_isLetter_3 (by decide) (fun c1 => ?_) (fun c1 => ?_)
  · have tc1 : a.toInt < 97 := i32_lt c1
    refine lv_iconst (v := 0) hx hb dX4_isLetter_16 (by decide) ?_
    refine W.widen (k := 0) (n := 0) (by decide) (by decide) ?_
    exact W.zret (v := 0) hx hb hr (by decide) (fun t ht hW => ⟨⟨0, (), rfl, (show 0 ≤ 0 by first | assumption | omega | trivial | decide), trivial⟩, hS.F ht⟩) hS.2.2 dX4_isLetter_17
  · have tc1 : ¬ (a.toInt < 97) := i32_nlt c1
    refine lv_iload_n hx hb dX4_isLetter_6 rfl (lv_at hl 0 rfl) ?_
    refine lv_bipush (v := 122) hx hb dX4_isLetter_7 (by decide) ?_
    refine lv_icmp_gt (tgt := 16) hx hb dX4_isLetter_9 (by decide) (fun c2 => ?_) (fun c2 => ?_)
    · have tc2 : 122 < a.toInt := i32_lt c2
      refine lv_iconst (v := 0) hx hb dX4_isLetter_16 (by decide) ?_
      refine W.widen (k := 0) (n := 0) (by decide) (by decide) ?_
      exact W.zret (v := 0) hx hb hr (by decide) (fun t ht hW => ⟨⟨0, (), rfl, (show 0 ≤ 0 by first | assumption | omega | trivial | decide), trivial⟩, hS.F ht⟩) hS.2.2 dX4_isLetter_17
    · have tc2 : ¬ (122 < a.toInt) := i32_nlt c2
      refine lv_iconst (v := 1) hx hb dX4_isLetter_12 (by decide) ?_
      refine lv_goto (tgt := 17) hx hb dX4_isLetter_13 (by decide) ?_
      refine W.widen (k := 0) (n := 0) (by decide) (by decide) ?_
      exact W.zret (v := 1) hx hb hr (by decide) (fun t ht hW => ⟨⟨1, (), rfl, (show 0 ≤ 1 by first | assumption | omega | trivial | decide), trivial⟩, hS.F ht⟩) hS.2.2 dX4_isLetter_17

def wk_k_isDigit : List Cond := .code yX4_isDigit cX4_isDigit 1 (some .boolean) :: ([])
set_option maxHeartbeats 4000000 in
set_option maxRecDepth 100000 in
theorem k_isDigit (l : Launch) (D : va_G) (cI cB cP : ClassId) (sz : Nat) (a : Int32) : Met l yX4_isDigit wk_k_isDigit ({ frames := 0, cells := 0, slots := 0, locals := 0 } : Room) (va_Pc [.int a] (Pw D cI cB cP sz [])) (va_Qi (fun (r : Int32) (_ : Unit) => 0 ≤ r.toInt) (fun _ _ => True) (va_A [] sz)) 0 0 (va_A [] sz) := by
  refine Met.ofW (cc := cX4_isDigit) (maxL := 1) (ret := (some .boolean)) (by decide) rfl ?_
  intro p e s m args below meth c s₁ B hml hv
  obtain ⟨rfl, hsz, hP, ⟨hK, hN⟩, hD0⟩ := hv
  have hx := B.exec
  have hb := B.bytes
  have hr := B.returns
  have hts := atoms_spec (ws := wk_k_isDigit) B.pre
  have hown : s.vm.findClass RX4 = some m.cls := findClass_of_methodNamed B.named
  have hlocks := B.notSynchronized
  subst hsz
  have hD := hD0.self (sz := s.heap.size)
  generalize hAe : va_A [] s.heap.size = A at hD ⊢
  have hA : ∀ q : Nat, s.heap.size ≤ q → A q := fun q h => by rw [← hAe]; exact Or.inr h
  have hS : va_S A s.heap s.heap [] := va_S.rf
  have hP : va_P D vwCl [] s.heap := hP
  have hl := lv_entry ([.int a]) (n := 1) (Nat.le_of_ble_eq_true rfl)
  rw [lg_entry_eq]
  generalize (lg_sl ([.int a]) ++ List.replicate (1 - (lg_sl ([.int a])).length) Slot.unset).toArray = ls at hl ⊢
  have hl : lv_has ls 1 [(0, .int a)] := hl
  refine lv_iload_n hx hb dX4_isDigit_0 rfl (lv_at hl 0 rfl) ?_
  refine lv_bipush (v := 48) hx hb dX4_isDigit_1 (by decide) ?_
  refine lv_icmp_lt (tgt := 16) hx hb dX4_isDigit_3 (by decide) (fun c1 => ?_) (fun c1 => ?_)
  · have tc1 : a.toInt < 48 := i32_lt c1
    refine lv_iconst (v := 0) hx hb dX4_isDigit_16 (by decide) ?_
    refine W.widen (k := 0) (n := 0) (by decide) (by decide) ?_
    exact W.zret (v := 0) hx hb hr (by decide) (fun t ht hW => ⟨⟨0, (), rfl, (show 0 ≤ 0 by first | assumption | omega | trivial | decide), trivial⟩, hS.F ht⟩) hS.2.2 dX4_isDigit_17
  · have tc1 : ¬ (a.toInt < 48) := i32_nlt c1
    refine lv_iload_n hx hb dX4_isDigit_6 rfl (lv_at hl 0 rfl) ?_
    refine lv_bipush (v := 57) hx hb dX4_isDigit_7 (by decide) ?_
    refine lv_icmp_gt (tgt := 16) hx hb dX4_isDigit_9 (by decide) (fun c2 => ?_) (fun c2 => ?_)
    · have tc2 : 57 < a.toInt := i32_lt c2
      refine lv_iconst (v := 0) hx hb dX4_isDigit_16 (by decide) ?_
      refine W.widen (k := 0) (n := 0) (by decide) (by decide) ?_
      exact W.zret (v := 0) hx hb hr (by decide) (fun t ht hW => ⟨⟨0, (), rfl, (show 0 ≤ 0 by first | assumption | omega | trivial | decide), trivial⟩, hS.F ht⟩) hS.2.2 dX4_isDigit_17
    · have tc2 : ¬ (57 < a.toInt) := i32_nlt c2
      refine lv_iconst (v := 1) hx hb dX4_isDigit_12 (by decide) ?_
      refine lv_goto (tgt := 17) hx hb dX4_isDigit_13 (by decide) ?_
      refine W.widen (k := 0) (n := 0) (by decide) (by decide) ?_
      exact W.zret (v := 1) hx hb hr (by decide) (fun t ht hW => ⟨⟨1, (), rfl, (show 0 ≤ 1 by first | assumption | omega | trivial | decide), trivial⟩, hS.F ht⟩) hS.2.2 dX4_isDigit_17
