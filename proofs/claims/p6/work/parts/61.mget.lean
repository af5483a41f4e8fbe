def wk_m_isLevel : List Cond := .code yX8_isLevel cX8_isLevel 1 (some .boolean) :: ([])
set_option maxHeartbeats 4000000 in
set_option maxRecDepth 100000 in
theorem m_isLevel (l : Launch) (D : va_G) (cI cB cP : ClassId) (sz : Nat) (a : Int32) : Met l yX8_isLevel wk_m_isLevel ({ frames := 0, cells := 0, slots := 0, locals := 0 } : Room) (va_Pc [.int a] (Pw D cI cB cP sz [])) (va_Qi (fun (r : Int32) (_ : Unit) => ny_bool r (0 ≤ a.toInt ∧ a.toInt < 6)) (fun _ _ => True) (va_A [] sz)) 0 0 (va_A [] sz) := by
  refine Met.ofW (cc := cX8_isLevel) (maxL := 1) (ret := (some .boolean)) (by decide) rfl ?_
  intro p e s m args below meth c s₁ B hml hv
  obtain ⟨rfl, hsz, hP, ⟨hK, hN⟩, hD0⟩ := hv
  have hx := B.exec
  have hb := B.bytes
  have hr := B.returns
  have hts := atoms_spec (ws := wk_m_isLevel) B.pre
  have hown : s.vm.findClass RX8 = some m.cls := findClass_of_methodNamed B.named
  have hlocks := B.notSynchronized
  subst hsz
  have hD := hD0.self (sz := s.heap.size)
  generalize hAe : va_A [] s.heap.size = A at hD ⊢
  have hA : ∀ q : Nat, s.heap.size ≤ q → A q := fun q h => by rw [← hAe]; exact Or.inr h
  have hS : va_S A s.heap s.heap [] := va_S.rf
  have hP : va_P D vwCl [] s.heap := hP
  have hl := lv_entry ([.int a]) (n := 1) (Nat.le_of_ble_eq_true rfl)
  rw [lg_entry_eq]
  generalize (lg_sl ([.int a]) ++ List.replicate (1 - (lg_sl ([.int a])).length) Slot.unset).toArray = ls at hl ⊢
  have hl : lv_has ls 1 [(0, .int a)] := hl
  refine lv_iload_n hx hb dX8_isLevel_0 rfl (lv_at hl 0 rfl) ?_
  refine lv_if_lt (tgt := 14) hx hb dX8_isLevel_1 (by decide) (fun c1 => ?_) (fun c1 => ?_)
  · have tc1 : a.toInt < 0 := i32_lt c1
    refine lv_iconst (v := 0) hx hb dX8_isLevel_14 (by decide) ?_
    refine W.widen (k := 0) (n := 0) (by decide) (by decide) ?_
    exact W.zret (v := 0) hx hb hr (by decide) (fun t ht hW => ⟨⟨0, (), rfl, (Or.inr ⟨rfl, show ¬ (0 ≤ a.toInt ∧ a.toInt < 6) by omega⟩), trivial⟩, hS.F ht⟩) hS.2.2 dX8_isLevel_15
  · have tc1 : ¬ (a.toInt < 0) := i32_nlt c1
    refine lv_iload_n hx hb dX8_isLevel_4 rfl (lv_at hl 0 rfl) ?_
    refine lv_bipush (v := 6) hx hb dX8_isLevel_5 (by decide) ?_
    refine lv_icmp_ge (tgt := 14) hx hb dX8_isLevel_7 (by decide) (fun c2 => ?_) (fun c2 => ?_)
    · have tc2 : 6 ≤ a.toInt := i32_le c2
      refine lv_iconst (v := 0) hx hb dX8_isLevel_14 (by decide) ?_
      refine W.widen (k := 0) (n := 0) (by decide) (by decide) ?_
      exact W.zret (v := 0) hx hb hr (by decide) (fun t ht hW => ⟨⟨0, (), rfl, (Or.inr ⟨rfl, show ¬ (0 ≤ a.toInt ∧ a.toInt < 6) by omega⟩), trivial⟩, hS.F ht⟩) hS.2.2 dX8_isLevel_15
    · have tc2 : ¬ (6 ≤ a.toInt) := i32_nle c2
      refine lv_iconst (v := 1) hx hb dX8_isLevel_10 (by decide) ?_
      refine lv_goto (tgt := 15) hx hb dX8_isLevel_11 (by decide) ?_
      refine W.widen (k := 0) (n := 0) (by decide) (by decide) ?_
      exact W.zret (v := 1) hx hb hr (by decide) (fun t ht hW => ⟨⟨1, (), rfl, (Or.inl ⟨rfl, show (0 ≤ a.toInt ∧ a.toInt < 6) by omega⟩), trivial⟩, hS.F ht⟩) hS.2.2 dX8_isLevel_15

def wk_m_isWorld : List Cond := .code yX8_isWorld cX8_isWorld 1 (some .boolean) :: ([])
set_option maxHeartbeats 4000000 in
set_option maxRecDepth 100000 in
theorem m_isWorld (l : Launch) (D : va_G) (cI cB cP : ClassId) (sz : Nat) (a : Int32) : Met l yX8_isWorld wk_m_isWorld ({ frames := 0, cells := 0, slots := 0, locals := 0 } : Room) (va_Pc [.int a] (Pw D cI cB cP sz [])) (va_Qi (fun (r : Int32) (_ : Unit) => ny_bool r (0 ≤ a.toInt ∧ a.toInt < 3)) (fun _ _ => True) (va_A [] sz)) 0 0 (va_A [] sz) := by
  refine Met.ofW (cc := cX8_isWorld) (maxL := 1) (ret := (some .boolean)) (by decide) rfl ?_
  intro p e s m args below meth c s₁ B hml hv
  obtain ⟨rfl, hsz, hP, ⟨hK, hN⟩, hD0⟩ := hv
  have hx := B.exec
  have hb := B.bytes
  have hr := B.returns
  have hts := atoms_spec (ws := wk_m_isWorld) B.pre
  have hown : s.vm.findClass RX8 = some m.cls := findClass_of_methodNamed B.named
  have hlocks := B.notSynchronized
  subst hsz
  have hD := hD0.self (sz := s.heap.size)
  generalize hAe : va_A [] s.heap.size = A at hD ⊢
  have hA : ∀ q : Nat, s.heap.size ≤ q → A q := fun q h => by rw [← hAe]; exact Or.inr h
  have hS : va_S A s.heap s.heap [] := va_S.rf
  have hP : va_P D vwCl [] s.heap := hP
  have hl := lv_entry ([.int a]) (n := 1) (Nat.le_of_ble_eq_true rfl)
  rw [lg_entry_eq]
  generalize (lg_sl ([.int a]) ++ List.replicate (1 - (lg_sl ([.int a])).length) Slot.unset).toArray = ls at hl ⊢
  have hl : lv_has ls 1 [(0, .int a)] := hl
  refine lv_iload_n hx hb dX8_isWorld_0 rfl (lv_at hl 0 rfl) ?_
  refine lv_if_lt (tgt := 13) hx hb dX8_isWorld_1 (by decide) (fun c1 => ?_) (fun c1 => ?_)
  · have tc1 : a.toInt < 0 := i32_lt c1
    refine lv_iconst (v := 0) hx hb dX8_isWorld_13 (by decide) ?_
    refine W.widen (k := 0) (n := 0) (by decide) (by decide) ?_
    exact W.zret (v := 0) hx hb hr (by decide) (fun t ht hW => ⟨⟨0, (), rfl, (Or.inr ⟨rfl, show ¬ (0 ≤ a.toInt ∧ a.toInt < 3) by omega⟩), trivial⟩, hS.F ht⟩) hS.2.2 dX8_isWorld_14
  · have tc1 : ¬ (a.toInt < 0) := i32_nlt c1
    refine lv_iload_n hx hb dX8_isWorld_4 rfl (lv_at hl 0 rfl) ?_
    refine lv_iconst (v := 3) hx hb dX8_isWorld_5 (by decide) ?_
    refine lv_icmp_ge (tgt := 13) hx hb dX8_isWorld_6 (by decide) (fun c2 => ?_) (fun c2 => ?_)
    · have tc2 : 3 ≤ a.toInt := i32_le c2
      refine lv_iconst (v := 0) hx hb dX8_isWorld_13 (by decide) ?_
      refine W.widen (k := 0) (n := 0) (by decide) (by decide) ?_
      exact W.zret (v := 0) hx hb hr (by decide) (fun t ht hW => ⟨⟨0, (), rfl, (Or.inr ⟨rfl, show ¬ (0 ≤ a.toInt ∧ a.toInt < 3) by omega⟩), trivial⟩, hS.F ht⟩) hS.2.2 dX8_isWorld_14
    · have tc2 : ¬ (3 ≤ a.toInt) := i32_nle c2
      refine lv_iconst (v := 1) hx hb dX8_isWorld_9 (by decide) ?_
      refine lv_goto (tgt := 14) hx hb dX8_isWorld_10 (by decide) ?_
      refine W.widen (k := 0) (n := 0) (by decide) (by decide) ?_
      exact W.zret (v := 1) hx hb hr (by decide) (fun t ht hW => ⟨⟨1, (), rfl, (Or.inl ⟨rfl, show (0 ≤ a.toInt ∧ a.toInt < 3) by omega⟩), trivial⟩, hS.F ht⟩) hS.2.2 dX8_isWorld_14

def wk_m_isPoint : List Cond := .code yX8_isPoint cX8_isPoint 1 (some .boolean) :: ([])
set_option maxHeartbeats 4000000 in
set_option maxRecDepth 100000 in
theorem m_isPoint (l : Launch) (D : va_G) (cI cB cP : ClassId) (sz : Nat) (a : Int32) : Met l yX8_isPoint wk_m_isPoint ({ frames := 0, cells := 0, slots := 0, locals := 0 } : Room) (va_Pc [.int a] (Pw D cI cB cP sz [])) (va_Qi (fun (r : Int32) (_ : Unit) => ny_bool r (0 ≤ a.toInt ∧ a.toInt < 10)) (fun _ _ => True) (va_A [] sz)) 0 0 (va_A [] sz) := by
  refine Met.ofW (cc := cX8_isPoint) (maxL := 1) (ret := (some .boolean)) (by decide) rfl ?_
  intro p e s m args below meth c s₁ B hml hv
  obtain ⟨rfl, hsz, hP, ⟨hK, hN⟩, hD0⟩ := hv
  have hx := B.exec
  have hb := B.bytes
  have hr := B.returns
  have hts := atoms_spec (ws := wk_m_isPoint) B.pre
  have hown : s.vm.findClass RX8 = some m.cls := findClass_of_methodNamed B.named
  have hlocks := B.notSynchronized
  subst hsz
  have hD := hD0.self (sz := s.heap.size)
  generalize hAe : va_A [] s.heap.size = A at hD ⊢
  have hA : ∀ q : Nat, s.heap.size ≤ q → A q := fun q h => by rw [← hAe]; exact Or.inr h
  have hS : va_S A s.heap s.heap [] := va_S.rf
  have hP : va_P D vwCl [] s.heap := hP
  have hl := lv_entry ([.int a]) (n := 1) (Nat.le_of_ble_eq_true rfl)
  rw [lg_entry_eq]
  generalize (lg_sl ([.int a]) ++ List.replicate (1 - (lg_sl ([.int a])).length) Slot.unset).toArray = ls at hl ⊢
  have hl : lv_has ls 1 [(0, .int a)] := hl
  refine lv_iload_n hx hb dX8_isPoint_0 rfl (lv_at hl 0 rfl) ?_
  refine lv_if_lt (tgt := 14) hx hb dX8_isPoint_1 (by decide) (fun c1 => ?_) (fun c1 => ?_)
  · have tc1 : a.toInt < 0 := i32_lt c1
    refine lv_iconst (v := 0) hx hb dX8_isPoint_14 (by decide) ?_
    refine W.widen (k := 0) (n := 0) (by decide) (by decide) ?_
    exact W.zret (v := 0) hx hb hr (by decide) (fun t ht hW => ⟨⟨0, (), rfl, (Or.inr ⟨rfl, show ¬ (0 ≤ a.toInt ∧ a.toInt < 10) by omega⟩), trivial⟩, hS.F ht⟩) hS.2.2 dX8_isPoint_15
  · have tc1 : ¬ (a.toInt < 0) := i32_nlt c1
    refine lv_iload_n hx hb dX8_isPoint_4 rfl (lv_at hl 0 rfl) ?_
    refine lv_bipush (v := 10) hx hb dX8_isPoint_5 (by decide) ?_
    refine lv_icmp_ge (tgt := 14) hx hb dX8_isPoint_7 (by decide) (fun c2 => ?_) (fun c2 => ?_)
    · have tc2 : 10 ≤ a.toInt := i32_le c2
      refine lv_iconst (v := 0) hx hb dX8_isPoint_14 (by decide) ?_
      refine W.widen (k := 0) (n := 0) (by decide) (by decide) ?_
      exact W.zret (v := 0) hx hb hr (by decide) (fun t ht hW => ⟨⟨0, (), rfl, (Or.inr ⟨rfl, show ¬ (0 ≤ a.toInt ∧ a.toInt < 10) by omega⟩), trivial⟩, hS.F ht⟩) hS.2.2 dX8_isPoint_15
    · have tc2 : ¬ (10 ≤ a.toInt) := i32_nle c2
      refine lv_iconst (v := 1) hx hb dX8_isPoint_10 (by decide) ?_
      refine lv_goto (tgt := 15) hx hb dX8_isPoint_11 (by decide) ?_
      refine W.widen (k := 0) (n := 0) (by decide) (by decide) ?_
      exact W.zret (v := 1) hx hb hr (by decide) (fun t ht hW => ⟨⟨1, (), rfl, (Or.inl ⟨rfl, show (0 ≤ a.toInt ∧ a.toInt < 10) by omega⟩), trivial⟩, hS.F ht⟩) hS.2.2 dX8_isPoint_15

def wk_m_isLeg : List Cond := .code yX8_isLeg cX8_isLeg 2 (some .boolean) :: ([.fieldLink RX8 65 "FlightDeskModel" "legMany" "[I", .fieldLink RX8 124 "FlightDeskModel" "bank" "I"] ++ wsX80)
theorem iw_m_isLeg_8 : ∀ w ∈ wsX80, w ∈ wk_m_isLeg := fun _ h => List.mem_cons_of_mem _ (List.mem_append_right _ h)
set_option maxHeartbeats 4000000 in
set_option maxRecDepth 100000 in
theorem m_isLeg (l : Launch) (D : va_G) (cI cB cP : ClassId) (sz : Nat) (m0 : Nat) (r0 : Nat) (r1 : Nat) (r11 : Nat) (r12 : Nat) (r13 : Nat) (r14 : Nat) (r15 : Nat) (r16 : Nat) (r17 : Nat) (r18 : Nat) (r19 : Nat) (r20 : Nat) (r21 : Nat) (r22 : Nat) (r23 : Nat) (r24 : Nat) (r34 : Nat) (r35 : Nat) (r36 : Nat) (r39 : Nat) (mtk : Int32) (mzs : Int32) (mkf : Int32) (mpf : Int32) (mat : Int32) (men : Int32) (mto : Int32) (mnu : Int32) (mnm : Int64) (mba : Int32) (mrb : Int32) (mla : Int32) (mst : Int32) (mgo : Int32) (mdy : Int32) (mpy : Int32) (mrs : Int32) (mhf : Int32) (mwm : Int32) (mwn : Int32) (y : Int32) (f12 : Nat → Int32) (hba8 : 0 ≤ mba.toInt ∧ mba.toInt ≤ 1) (r128 : ∀ k : Nat, k < 2 → 0 ≤ (f12 k).toInt ∧ (f12 k).toInt ≤ 16) : Met l yX8_isLeg wk_m_isLeg ({ frames := 0, cells := 0, slots := 0, locals := 0 } : Room) (va_Pc [.ref m0, .int y] (Pw D cI cB cP sz [(m0, .inr (8, [.ref r0, .ref r1, .int mtk, .int mzs, .int mkf, .int mpf, .int mat, .int men, .int mto, .int mnu, .long mnm, .ref r11, .ref r12, .ref r13, .ref r14, .ref r15, .ref r16, .ref r17, .ref r18, .ref r19, .ref r20, .ref r21, .ref r22, .ref r23, .ref r24, .int mba, .int mrb, .int mla, .int mst, .int mgo, .int mdy, .int mpy, .int mrs, .int mhf, .ref r34, .ref r35, .ref r36, .int mwm, .int mwn, .ref r39])), (r12, .inl (cI, 2, .inl f12))])) (va_Qi (fun (r : Int32) (_ : Unit) => ny_bool r (0 ≤ y.toInt ∧ y.toInt < ga f12 mba.toInt)) (fun _ t => va_P D vwCl [(m0, .inr (8, [.ref r0, .ref r1, .int mtk, .int mzs, .int mkf, .int mpf, .int mat, .int men, .int mto, .int mnu, .long mnm, .ref r11, .ref r12, .ref r13, .ref r14, .ref r15, .ref r16, .ref r17, .ref r18, .ref r19, .ref r20, .ref r21, .ref r22, .ref r23, .ref r24, .int mba, .int mrb, .int mla, .int mst, .int mgo, .int mdy, .int mpy, .int mrs, .int mhf, .ref r34, .ref r35, .ref r36, .int mwm, .int mwn, .ref r39])), (r12, .inl (cI, 2, .inl f12))] t.heap ∧ va_D (va_A [(m0, .inr (8, [.ref r0, .ref r1, .int mtk, .int mzs, .int mkf, .int mpf, .int mat, .int men, .int mto, .int mnu, .long mnm, .ref r11, .ref r12, .ref r13, .ref r14, .ref r15, .ref r16, .ref r17, .ref r18, .ref r19, .ref r20, .ref r21, .ref r22, .ref r23, .ref r24, .int mba, .int mrb, .int mla, .int mst, .int mgo, .int mdy, .int mpy, .int mrs, .int mhf, .ref r34, .ref r35, .ref r36, .int mwm, .int mwn, .ref r39])), (r12, .inl (cI, 2, .inl f12))] sz) [(m0, .inr (8, [.ref r0, .ref r1, .int mtk, .int mzs, .int mkf, .int mpf, .int mat, .int men, .int mto, .int mnu, .long mnm, .ref r11, .ref r12, .ref r13, .ref r14, .ref r15, .ref r16, .ref r17, .ref r18, .ref r19, .ref r20, .ref r21, .ref r22, .ref r23, .ref r24, .int mba, .int mrb, .int mla, .int mst, .int mgo, .int mdy, .int mpy, .int mrs, .int mhf, .ref r34, .ref r35, .ref r36, .int mwm, .int mwn, .ref r39])), (r12, .inl (cI, 2, .inl f12))]) (va_A [(m0, .inr (8, [.ref r0, .ref r1, .int mtk, .int mzs, .int mkf, .int mpf, .int mat, .int men, .int mto, .int mnu, .long mnm, .ref r11, .ref r12, .ref r13, .ref r14, .ref r15, .ref r16, .ref r17, .ref r18, .ref r19, .ref r20, .ref r21, .ref r22, .ref r23, .ref r24, .int mba, .int mrb, .int mla, .int mst, .int mgo, .int mdy, .int mpy, .int mrs, .int mhf, .ref r34, .ref r35, .ref r36, .int mwm, .int mwn, .ref r39])), (r12, .inl (cI, 2, .inl f12))] sz)) 0 0 (va_A [(m0, .inr (8, [.ref r0, .ref r1, .int mtk, .int mzs, .int mkf, .int mpf, .int mat, .int men, .int mto, .int mnu, .long mnm, .ref r11, .ref r12, .ref r13, .ref r14, .ref r15, .ref r16, .ref r17, .ref r18, .ref r19, .ref r20, .ref r21, .ref r22, .ref r23, .ref r24, .int mba, .int mrb, .int mla, .int mst, .int mgo, .int mdy, .int mpy, .int mrs, .int mhf, .ref r34, .ref r35, .ref r36, .int mwm, .int mwn, .ref r39])), (r12, .inl (cI, 2, .inl f12))] sz) := by
  refine Met.ofW (cc := cX8_isLeg) (maxL := 2) (ret := (some .boolean)) (by decide) rfl ?_
  intro p e s m args below meth c s₁ B hml hv
  obtain ⟨rfl, hsz, hP, ⟨hK, hN⟩, hD0⟩ := hv
  have hx := B.exec
  have hb := B.bytes
  have hr := B.returns
  have hts := atoms_spec (ws := wk_m_isLeg) B.pre
  have hown : s.vm.findClass RX8 = some m.cls := findClass_of_methodNamed B.named
  have hlocks := B.notSynchronized
  subst hsz
  have hD := hD0.self (sz := s.heap.size)
  generalize hAe : va_A [(m0, .inr (8, [.ref r0, .ref r1, .int mtk, .int mzs, .int mkf, .int mpf, .int mat, .int men, .int mto, .int mnu, .long mnm, .ref r11, .ref r12, .ref r13, .ref r14, .ref r15, .ref r16, .ref r17, .ref r18, .ref r19, .ref r20, .ref r21, .ref r22, .ref r23, .ref r24, .int mba, .int mrb, .int mla, .int mst, .int mgo, .int mdy, .int mpy, .int mrs, .int mhf, .ref r34, .ref r35, .ref r36, .int mwm, .int mwn, .ref r39])), (r12, .inl (cI, 2, .inl f12))] s.heap.size = A at hD ⊢
  have hA : ∀ q : Nat, s.heap.size ≤ q → A q := fun q h => by rw [← hAe]; exact Or.inr h
  have hS : va_S A s.heap s.heap [] := va_S.rf
  have hP : va_P D vwCl [(m0, .inr (8, [.ref r0, .ref r1, .int mtk, .int mzs, .int mkf, .int mpf, .int mat, .int men, .int mto, .int mnu, .long mnm, .ref r11, .ref r12, .ref r13, .ref r14, .ref r15, .ref r16, .ref r17, .ref r18, .ref r19, .ref r20, .ref r21, .ref r22, .ref r23, .ref r24, .int mba, .int mrb, .int mla, .int mst, .int mgo, .int mdy, .int mpy, .int mrs, .int mhf, .ref r34, .ref r35, .ref r36, .int mwm, .int mwn, .ref r39])), (r12, .inl (cI, 2, .inl f12))] s.heap := hP
  have hl := lv_entry ([.ref m0, .int y]) (n := 2) (Nat.le_of_ble_eq_true rfl)
  rw [lg_entry_eq]
  generalize (lg_sl ([.ref m0, .int y]) ++ List.replicate (2 - (lg_sl ([.ref m0, .int y])).length) Slot.unset).toArray = ls at hl ⊢
  have hl : lv_has ls 2 [(0, .ref m0), (1, .int y)] := hl
  refine lv_iload_n hx hb dX8_isLeg_0 rfl (lv_at hl 1 rfl) ?_
  refine lv_if_lt (tgt := 21) hx hb dX8_isLeg_1 (by decide) (fun c1 => ?_) (fun c1 => ?_)
  · have tc1 : y.toInt < 0 := i32_lt c1
    refine lv_iconst (v := 0) hx hb dX8_isLeg_21 (by decide) ?_
    have hP9 := hP.sub (ws' := [(m0, .inr (8, [.ref r0, .ref r1, .int mtk, .int mzs, .int mkf, .int mpf, .int mat, .int men, .int mto, .int mnu, .long mnm, .ref r11, .ref r12, .ref r13, .ref r14, .ref r15, .ref r16, .ref r17, .ref r18, .ref r19, .ref r20, .ref r21, .ref r22, .ref r23, .ref r24, .int mba, .int mrb, .int mla, .int mst, .int mgo, .int mdy, .int mpy, .int mrs, .int mhf, .ref r34, .ref r35, .ref r36, .int mwm, .int mwn, .ref r39])), (r12, .inl (cI, 2, .inl f12))]) [0, 1] rfl
    have hD9 := hD.sub (ws' := [(m0, .inr (8, [.ref r0, .ref r1, .int mtk, .int mzs, .int mkf, .int mpf, .int mat, .int men, .int mto, .int mnu, .long mnm, .ref r11, .ref r12, .ref r13, .ref r14, .ref r15, .ref r16, .ref r17, .ref r18, .ref r19, .ref r20, .ref r21, .ref r22, .ref r23, .ref r24, .int mba, .int mrb, .int mla, .int mst, .int mgo, .int mdy, .int mpy, .int mrs, .int mhf, .ref r34, .ref r35, .ref r36, .int mwm, .int mwn, .ref r39])), (r12, .inl (cI, 2, .inl f12))]) [0, 1] (by decide) rfl
    refine W.widen (k := 0) (n := 0) (by decide) (by decide) ?_
    exact W.zret (v := 0) hx hb hr (by decide) (fun t ht hW => ⟨⟨0, (), rfl, (Or.inr ⟨rfl, show ¬ (0 ≤ y.toInt ∧ y.toInt < ga f12 mba.toInt) by omega⟩), by rw [ht]; exact hP9, hD9⟩, hS.F ht⟩) hS.2.2 dX8_isLeg_22
  · have tc1 : ¬ (y.toInt < 0) := i32_nlt c1
    refine lv_iload_n hx hb dX8_isLeg_4 rfl (lv_at hl 1 rfl) ?_
    refine lv_aload_n hx hb dX8_isLeg_5 rfl (lv_at hl 0 rfl) ?_
    refine va_get (D := D) (ci := 8) (v := .ref r12) (C := RX8) (T := TX8) (N := 40) hx hb hts iw_m_isLeg_8 hown hK hP 0 rfl rfl 12 (by decide) (hts (.fieldLink RX8 65 "FlightDeskModel" "legMany" "[I") (by decide +kernel)) (fun _ h9 => h9) rfl dX8_isLeg_6 ?_
    refine lv_aload_n hx hb dX8_isLeg_9 rfl (lv_at hl 0 rfl) ?_
    refine va_get (D := D) (ci := 8) (v := .int mba) (C := RX8) (T := TX8) (N := 40) hx hb hts iw_m_isLeg_8 hown hK hP 0 rfl rfl 25 (by decide) (hts (.fieldLink RX8 124 "FlightDeskModel" "bank" "I") (by decide +kernel)) (fun _ h9 => h9) rfl dX8_isLeg_10 ?_
    refine va_iald hx hb hK hP 1 0 rfl rfl (vp_in_iff.mpr ⟨show 0 ≤ mba.toInt by omega, show mba.toInt < ((2 : Nat) : Int) by omega⟩) dX8_isLeg_13 ?_
    refine lv_topi (fun v2 ev2 => ?_)
    have tv2 : 0 ≤ v2.toInt ∧ v2.toInt ≤ 16 := by rw [ev2]; exact r128 _ (ck_lt (show 0 ≤ mba.toInt by omega) (show mba.toInt < ((2 : Nat) : Int) by omega))
    have gv2 : v2.toInt = ga f12 (mba.toInt) := ga_at ev2 (show mba.toInt = mba.toInt by omega)
    refine lv_icmp_ge (tgt := 21) hx hb dX8_isLeg_14 (by decide) (fun c3 => ?_) (fun c3 => ?_)
    · have tc3 : v2.toInt ≤ y.toInt := i32_le c3
      refine lv_iconst (v := 0) hx hb dX8_isLeg_21 (by decide) ?_
      have hP9 := hP.sub (ws' := [(m0, .inr (8, [.ref r0, .ref r1, .int mtk, .int mzs, .int mkf, .int mpf, .int mat, .int men, .int mto, .int mnu, .long mnm, .ref r11, .ref r12, .ref r13, .ref r14, .ref r15, .ref r16, .ref r17, .ref r18, .ref r19, .ref r20, .ref r21, .ref r22, .ref r23, .ref r24, .int mba, .int mrb, .int mla, .int mst, .int mgo, .int mdy, .int mpy, .int mrs, .int mhf, .ref r34, .ref r35, .ref r36, .int mwm, .int mwn, .ref r39])), (r12, .inl (cI, 2, .inl f12))]) [0, 1] rfl
      have hD9 := hD.sub (ws' := [(m0, .inr (8, [.ref r0, .ref r1, .int mtk, .int mzs, .int mkf, .int mpf, .int mat, .int men, .int mto, .int mnu, .long mnm, .ref r11, .ref r12, .ref r13, .ref r14, .ref r15, .ref r16, .ref r17, .ref r18, .ref r19, .ref r20, .ref r21, .ref r22, .ref r23, .ref r24, .int mba, .int mrb, .int mla, .int mst, .int mgo, .int mdy, .int mpy, .int mrs, .int mhf, .ref r34, .ref r35, .ref r36, .int mwm, .int mwn, .ref r39])), (r12, .inl (cI, 2, .inl f12))]) [0, 1] (by decide) rfl
      refine W.widen (k := 0) (n := 0) (by decide) (by decide) ?_
      exact W.zret (v := 0) hx hb hr (by decide) (fun t ht hW => ⟨⟨0, (), rfl, (Or.inr ⟨rfl, show ¬ (0 ≤ y.toInt ∧ y.toInt < ga f12 mba.toInt) by omega⟩), by rw [ht]; exact hP9, hD9⟩, hS.F ht⟩) hS.2.2 dX8_isLeg_22
    · have tc3 : ¬ (v2.toInt ≤ y.toInt) := i32_nle c3
      refine lv_iconst (v := 1) hx hb dX8_isLeg_17 (by decide) ?_
      refine lv_goto (tgt := 22) hx hb dX8_isLeg_18 (by decide) ?_
      have hP9 := hP.sub (ws' := [(m0, .inr (8, [.ref r0, .ref r1, .int mtk, .int mzs, .int mkf, .int mpf, .int mat, .int men, .int mto, .int mnu, .long mnm, .ref r11, .ref r12, .ref r13, .ref r14, .ref r15, .ref r16, .ref r17, .ref r18, .ref r19, .ref r20, .ref r21, .ref r22, .ref r23, .ref r24, .int mba, .int mrb, .int mla, .int mst, .int mgo, .int mdy, .int mpy, .int mrs, .int mhf, .ref r34, .ref r35, .ref r36, .int mwm, .int mwn, .ref r39])), (r12, .inl (cI, 2, .inl f12))]) [0, 1] rfl
      have hD9 := hD.sub (ws' := [(m0, .inr (8, [.ref r0, .ref r1, .int mtk, .int mzs, .int mkf, .int mpf, .int mat, .int men, .int mto, .int mnu, .long mnm, .ref r11, .ref r12, .ref r13, .ref r14, .ref r15, .ref r16, .ref r17, .ref r18, .ref r19, .ref r20, .ref r21, .ref r22, .ref r23, .ref r24, .int mba, .int mrb, .int mla, .int mst, .int mgo, .int mdy, .int mpy, .int mrs, .int mhf, .ref r34, .ref r35, .ref r36, .int mwm, .int mwn, .ref r39])), (r12, .inl (cI, 2, .inl f12))]) [0, 1] (by decide) rfl
      refine W.widen (k := 0) (n := 0) (by decide) (by decide) ?_
      exact W.zret (v := 1) hx hb hr (by decide) (fun t ht hW => ⟨⟨1, (), rfl, (Or.inl ⟨rfl, show (0 ≤ y.toInt ∧ y.toInt < ga f12 mba.toInt) by omega⟩), by rw [ht]; exact hP9, hD9⟩, hS.F ht⟩) hS.2.2 dX8_isLeg_22

def wk_m_speed : List Cond := .code yX8_speed cX8_speed 2 (some .int) :: ([.fieldLink RX8 89 "FlightDeskModel" "speeds" "[I", .fieldLink RX8 124 "FlightDeskModel" "bank" "I", .constant RX8 120 (-100000)] ++ wsX80)
theorem iw_m_speed_8 : ∀ w ∈ wsX80, w ∈ wk_m_speed := fun _ h => List.mem_cons_of_mem _ (List.mem_append_right _ h)
set_option maxHeartbeats 4000000 in
set_option maxRecDepth 100000 in
theorem m_speed (l : Launch) (D : va_G) (cI cB cP : ClassId) (sz : Nat) (m0 : Nat) (r0 : Nat) (r1 : Nat) (r11 : Nat) (r12 : Nat) (r13 : Nat) (r14 : Nat) (r15 : Nat) (r16 : Nat) (r17 : Nat) (r18 : Nat) (r19 : Nat) (r20 : Nat) (r21 : Nat) (r22 : Nat) (r23 : Nat) (r24 : Nat) (r34 : Nat) (r35 : Nat) (r36 : Nat) (r39 : Nat) (mtk : Int32) (mzs : Int32) (mkf : Int32) (mpf : Int32) (mat : Int32) (men : Int32) (mto : Int32) (mnu : Int32) (mnm : Int64) (mba : Int32) (mrb : Int32) (mla : Int32) (mst : Int32) (mgo : Int32) (mdy : Int32) (mpy : Int32) (mrs : Int32) (mhf : Int32) (mwm : Int32) (mwn : Int32) (v : Int32) (f20 : Nat → Int32) (hba8 : 0 ≤ mba.toInt ∧ mba.toInt ≤ 1) (hv8 : 0 ≤ v.toInt ∧ v.toInt ≤ 5) (r208 : ∀ k : Nat, k < 12 → (f20 k).toInt = (-100000) ∨ (0 ≤ (f20 k).toInt ∧ (f20 k).toInt ≤ 999)) : Met l yX8_speed wk_m_speed ({ frames := 0, cells := 0, slots := 0, locals := 0 } : Room) (va_Pc [.ref m0, .int v] (Pw D cI cB cP sz [(m0, .inr (8, [.ref r0, .ref r1, .int mtk, .int mzs, .int mkf, .int mpf, .int mat, .int men, .int mto, .int mnu, .long mnm, .ref r11, .ref r12, .ref r13, .ref r14, .ref r15, .ref r16, .ref r17, .ref r18, .ref r19, .ref r20, .ref r21, .ref r22, .ref r23, .ref r24, .int mba, .int mrb, .int mla, .int mst, .int mgo, .int mdy, .int mpy, .int mrs, .int mhf, .ref r34, .ref r35, .ref r36, .int mwm, .int mwn, .ref r39])), (r20, .inl (cI, 12, .inl f20))])) (va_Qi (fun (r : Int32) (_ : Unit) => (0 ≤ r.toInt ∧ r.toInt ≤ 999) ∧ r.toInt = dft f20 (6 * mba.toInt + v.toInt) 400) (fun _ t => va_P D vwCl [(m0, .inr (8, [.ref r0, .ref r1, .int mtk, .int mzs, .int mkf, .int mpf, .int mat, .int men, .int mto, .int mnu, .long mnm, .ref r11, .ref r12, .ref r13, .ref r14, .ref r15, .ref r16, .ref r17, .ref r18, .ref r19, .ref r20, .ref r21, .ref r22, .ref r23, .ref r24, .int mba, .int mrb, .int mla, .int mst, .int mgo, .int mdy, .int mpy, .int mrs, .int mhf, .ref r34, .ref r35, .ref r36, .int mwm, .int mwn, .ref r39])), (r20, .inl (cI, 12, .inl f20))] t.heap ∧ va_D (va_A [(m0, .inr (8, [.ref r0, .ref r1, .int mtk, .int mzs, .int mkf, .int mpf, .int mat, .int men, .int mto, .int mnu, .long mnm, .ref r11, .ref r12, .ref r13, .ref r14, .ref r15, .ref r16, .ref r17, .ref r18, .ref r19, .ref r20, .ref r21, .ref r22, .ref r23, .ref r24, .int mba, .int mrb, .int mla, .int mst, .int mgo, .int mdy, .int mpy, .int mrs, .int mhf, .ref r34, .ref r35, .ref r36, .int mwm, .int mwn, .ref r39])), (r20, .inl (cI, 12, .inl f20))] sz) [(m0, .inr (8, [.ref r0, .ref r1, .int mtk, .int mzs, .int mkf, .int mpf, .int mat, .int men, .int mto, .int mnu, .long mnm, .ref r11, .ref r12, .ref r13, .ref r14, .ref r15, .ref r16, .ref r17, .ref r18, .ref r19, .ref r20, .ref r21, .ref r22, .ref r23, .ref r24, .int mba, .int mrb, .int mla, .int mst, .int mgo, .int mdy, .int mpy, .int mrs, .int mhf, .ref r34, .ref r35, .ref r36, .int mwm, .int mwn, .ref r39])), (r20, .inl (cI, 12, .inl f20))]) (va_A [(m0, .inr (8, [.ref r0, .ref r1, .int mtk, .int mzs, .int mkf, .int mpf, .int mat, .int men, .int mto, .int mnu, .long mnm, .ref r11, .ref r12, .ref r13, .ref r14, .ref r15, .ref r16, .ref r17, .ref r18, .ref r19, .ref r20, .ref r21, .ref r22, .ref r23, .ref r24, .int mba, .int mrb, .int mla, .int mst, .int mgo, .int mdy, .int mpy, .int mrs, .int mhf, .ref r34, .ref r35, .ref r36, .int mwm, .int mwn, .ref r39])), (r20, .inl (cI, 12, .inl f20))] sz)) 0 0 (va_A [(m0, .inr (8, [.ref r0, .ref r1, .int mtk, .int mzs, .int mkf, .int mpf, .int mat, .int men, .int mto, .int mnu, .long mnm, .ref r11, .ref r12, .ref r13, .ref r14, .ref r15, .ref r16, .ref r17, .ref r18, .ref r19, .ref r20, .ref r21, .ref r22, .ref r23, .ref r24, .int mba, .int mrb, .int mla, .int mst, .int mgo, .int mdy, .int mpy, .int mrs, .int mhf, .ref r34, .ref r35, .ref r36, .int mwm, .int mwn, .ref r39])), (r20, .inl (cI, 12, .inl f20))] sz) := by
  refine Met.ofW (cc := cX8_speed) (maxL := 2) (ret := (some .int)) (by decide) rfl ?_
  intro p e s m args below meth c s₁ B hml hv
  obtain ⟨rfl, hsz, hP, ⟨hK, hN⟩, hD0⟩ := hv
  have hx := B.exec
  have hb := B.bytes
  have hr := B.returns
  have hts := atoms_spec (ws := wk_m_speed) B.pre
  have hown : s.vm.findClass RX8 = some m.cls := findClass_of_methodNamed B.named
  have hlocks := B.notSynchronized
  subst hsz
  have hD := hD0.self (sz := s.heap.size)
  generalize hAe : va_A [(m0, .inr (8, [.ref r0, .ref r1, .int mtk, .int mzs, .int mkf, .int mpf, .int mat, .int men, .int mto, .int mnu, .long mnm, .ref r11, .ref r12, .ref r13, .ref r14, .ref r15, .ref r16, .ref r17, .ref r18, .ref r19, .ref r20, .ref r21, .ref r22, .ref r23, .ref r24, .int mba, .int mrb, .int mla, .int mst, .int mgo, .int mdy, .int mpy, .int mrs, .int mhf, .ref r34, .ref r35, .ref r36, .int mwm, .int mwn, .ref r39])), (r20, .inl (cI, 12, .inl f20))] s.heap.size = A at hD ⊢
  have hA : ∀ q : Nat, s.heap.size ≤ q → A q := fun q h => by rw [← hAe]; exact Or.inr h
  have hS : va_S A s.heap s.heap [] := va_S.rf
  have hP : va_P D vwCl [(m0, .inr (8, [.ref r0, .ref r1, .int mtk, .int mzs, .int mkf, .int mpf, .int mat, .int men, .int mto, .int mnu, .long mnm, .ref r11, .ref r12, .ref r13, .ref r14, .ref r15, .ref r16, .ref r17, .ref r18, .ref r19, .ref r20, .ref r21, .ref r22, .ref r23, .ref r24, .int mba, .int mrb, .int mla, .int mst, .int mgo, .int mdy, .int mpy, .int mrs, .int mhf, .ref r34, .ref r35, .ref r36, .int mwm, .int mwn, .ref r39])), (r20, .inl (cI, 12, .inl f20))] s.heap := hP
  have hl := lv_entry ([.ref m0, .int v]) (n := 2) (Nat.le_of_ble_eq_true rfl)
  rw [lg_entry_eq]
  generalize (lg_sl ([.ref m0, .int v]) ++ List.replicate (2 - (lg_sl ([.ref m0, .int v])).length) Slot.unset).toArray = ls at hl ⊢
  have hl : lv_has ls 2 [(0, .ref m0), (1, .int v)] := hl
  refine lv_aload_n hx hb dX8_speed_0 rfl (lv_at hl 0 rfl) ?_
  refine va_get (D := D) (ci := 8) (v := .ref r20) (C := RX8) (T := TX8) (N := 40) hx hb hts iw_m_speed_8 hown hK hP 0 rfl rfl 20 (by decide) (hts (.fieldLink RX8 89 "FlightDeskModel" "speeds" "[I") (by decide +kernel)) (fun _ h9 => h9) rfl dX8_speed_1 ?_
  refine lv_bipush (v := 6) hx hb dX8_speed_4 (by decide) ?_
  refine lv_aload_n hx hb dX8_speed_6 rfl (lv_at hl 0 rfl) ?_
  refine va_get (D := D) (ci := 8) (v := .int mba) (C := RX8) (T := TX8) (N := 40) hx hb hts iw_m_speed_8 hown hK hP 0 rfl rfl 25 (by decide) (hts (.fieldLink RX8 124 "FlightDeskModel" "bank" "I") (by decide +kernel)) (fun _ h9 => h9) rfl dX8_speed_7 ?_
  refine lv_imul hx hb dX8_speed_10 ?_
  refine lv_topi (fun v1 ev1 => ?_)
  have tv1 : v1.toInt = 6 * mba.toInt := (by have q9 : v1.toInt = (6 * mba.toInt + 2147483648) % 4294967296 - 2147483648 := i32_mul ev1; omega)
  refine lv_iload_n hx hb dX8_speed_11 rfl (lv_at hl 1 rfl) ?_
  refine lv_iadd hx hb dX8_speed_12 ?_
  refine lv_topi (fun v2 ev2 => ?_)
  have tv2 : v2.toInt = v1.toInt + v.toInt := (by have q9 : v2.toInt = (v1.toInt + v.toInt + 2147483648) % 4294967296 - 2147483648 := i32_add ev2; omega)
  refine va_iald hx hb hK hP 1 0 rfl rfl (vp_in_iff.mpr ⟨show 0 ≤ v2.toInt by omega, show v2.toInt < ((12 : Nat) : Int) by omega⟩) dX8_speed_13 ?_
  refine lv_topi (fun v3 ev3 => ?_)
  have tv3 : v3.toInt = (-100000) ∨ (0 ≤ v3.toInt ∧ v3.toInt ≤ 999) := by rw [ev3]; exact r208 _ (ck_lt (show 0 ≤ v2.toInt by omega) (show v2.toInt < ((12 : Nat) : Int) by omega))
  have gv3 : v3.toInt = ga f20 (6 * mba.toInt + v.toInt) := ga_at ev3 (show v2.toInt = 6 * mba.toInt + v.toInt by omega)
  refine lv_ldc hx hb hown (hts (.constant RX8 120 (-100000)) (by decide +kernel)) dX8_speed_14 ?_
  refine lv_icmp_ne (tgt := 25) hx hb dX8_speed_16 (by decide) (fun c4 => ?_) (fun c4 => ?_)
  · have tc4 : ¬ (v3.toInt = (-100000)) := i32_neq c4
    refine lv_aload_n hx hb dX8_speed_25 rfl (lv_at hl 0 rfl) ?_
    refine va_get (D := D) (ci := 8) (v := .ref r20) (C := RX8) (T := TX8) (N := 40) hx hb hts iw_m_speed_8 hown hK hP 0 rfl rfl 20 (by decide) (hts (.fieldLink RX8 89 "FlightDeskModel" "speeds" "[I") (by decide +kernel)) (fun _ h9 => h9) rfl dX8_speed_26 ?_
    refine lv_bipush (v := 6) hx hb dX8_speed_29 (by decide) ?_
    refine lv_aload_n hx hb dX8_speed_31 rfl (lv_at hl 0 rfl) ?_
    refine va_get (D := D) (ci := 8) (v := .int mba) (C := RX8) (T := TX8) (N := 40) hx hb hts iw_m_speed_8 hown hK hP 0 rfl rfl 25 (by decide) (hts (.fieldLink RX8 124 "FlightDeskModel" "bank" "I") (by decide +kernel)) (fun _ h9 => h9) rfl dX8_speed_32 ?_
    refine lv_imul hx hb dX8_speed_35 ?_
    refine lv_topi (fun v5 ev5 => ?_)
    have tv5 : v5.toInt = 6 * mba.toInt := (by have q9 : v5.toInt = (6 * mba.toInt + 2147483648) % 4294967296 - 2147483648 := i32_mul ev5; omega)
    refine lv_iload_n hx hb dX8_speed_36 rfl (lv_at hl 1 rfl) ?_
    refine lv_iadd hx hb dX8_speed_37 ?_
    refine lv_topi (fun v6 ev6 => ?_)
    have tv6 : v6.toInt = v5.toInt + v.toInt := (by have q9 : v6.toInt = (v5.toInt + v.toInt + 2147483648) % 4294967296 - 2147483648 := i32_add ev6; omega)
    refine va_iald hx hb hK hP 1 0 rfl rfl (vp_in_iff.mpr ⟨show 0 ≤ v6.toInt by omega, show v6.toInt < ((12 : Nat) : Int) by omega⟩) dX8_speed_38 ?_
    refine lv_topi (fun v7 ev7 => ?_)
    have tv7 : v7.toInt = (-100000) ∨ (0 ≤ v7.toInt ∧ v7.toInt ≤ 999) := by rw [ev7]; exact r208 _ (ck_lt (show 0 ≤ v6.toInt by omega) (show v6.toInt < ((12 : Nat) : Int) by omega))
    have gv7 : v7.toInt = ga f20 (6 * mba.toInt + v.toInt) := ga_at ev7 (show v6.toInt = 6 * mba.toInt + v.toInt by omega)
    have hP9 := hP.sub (ws' := [(m0, .inr (8, [.ref r0, .ref r1, .int mtk, .int mzs, .int mkf, .int mpf, .int mat, .int men, .int mto, .int mnu, .long mnm, .ref r11, .ref r12, .ref r13, .ref r14, .ref r15, .ref r16, .ref r17, .ref r18, .ref r19, .ref r20, .ref r21, .ref r22, .ref r23, .ref r24, .int mba, .int mrb, .int mla, .int mst, .int mgo, .int mdy, .int mpy, .int mrs, .int mhf, .ref r34, .ref r35, .ref r36, .int mwm, .int mwn, .ref r39])), (r20, .inl (cI, 12, .inl f20))]) [0, 1] rfl
    have hD9 := hD.sub (ws' := [(m0, .inr (8, [.ref r0, .ref r1, .int mtk, .int mzs, .int mkf, .int mpf, .int mat, .int men, .int mto, .int mnu, .long mnm, .ref r11, .ref r12, .ref r13, .ref r14, .ref r15, .ref r16, .ref r17, .ref r18, .ref r19, .ref r20, .ref r21, .ref r22, .ref r23, .ref r24, .int mba, .int mrb, .int mla, .int mst, .int mgo, .int mdy, .int mpy, .int mrs, .int mhf, .ref r34, .ref r35, .ref r36, .int mwm, .int mwn, .ref r39])), (r20, .inl (cI, 12, .inl f20))]) [0, 1] (by decide) rfl
    refine W.widen (k := 0) (n := 0) (by decide) (by decide) ?_
    exact W.iret (v := v7) hx hb hr (fun t ht hW => ⟨⟨v7, (), rfl, (⟨by omega, by rw [dft_at (show ¬ ga f20 (6 * mba.toInt + v.toInt) = (-100000) by omega)]; omega⟩), by rw [ht]; exact hP9, hD9⟩, hS.F ht⟩) hS.2.2 dX8_speed_39
  · have tc4 : v3.toInt = (-100000) := i32_eq c4
    refine lv_sipush (v := 400) hx hb dX8_speed_19 (by decide) ?_
    refine lv_goto (tgt := 39) hx hb dX8_speed_22 (by decide) ?_
    have hP9 := hP.sub (ws' := [(m0, .inr (8, [.ref r0, .ref r1, .int mtk, .int mzs, .int mkf, .int mpf, .int mat, .int men, .int mto, .int mnu, .long mnm, .ref r11, .ref r12, .ref r13, .ref r14, .ref r15, .ref r16, .ref r17, .ref r18, .ref r19, .ref r20, .ref r21, .ref r22, .ref r23, .ref r24, .int mba, .int mrb, .int mla, .int mst, .int mgo, .int mdy, .int mpy, .int mrs, .int mhf, .ref r34, .ref r35, .ref r36, .int mwm, .int mwn, .ref r39])), (r20, .inl (cI, 12, .inl f20))]) [0, 1] rfl
    have hD9 := hD.sub (ws' := [(m0, .inr (8, [.ref r0, .ref r1, .int mtk, .int mzs, .int mkf, .int mpf, .int mat, .int men, .int mto, .int mnu, .long mnm, .ref r11, .ref r12, .ref r13, .ref r14, .ref r15, .ref r16, .ref r17, .ref r18, .ref r19, .ref r20, .ref r21, .ref r22, .ref r23, .ref r24, .int mba, .int mrb, .int mla, .int mst, .int mgo, .int mdy, .int mpy, .int mrs, .int mhf, .ref r34, .ref r35, .ref r36, .int mwm, .int mwn, .ref r39])), (r20, .inl (cI, 12, .inl f20))]) [0, 1] (by decide) rfl
    refine W.widen (k := 0) (n := 0) (by decide) (by decide) ?_
    exact W.iret (v := 400) hx hb hr (fun t ht hW => ⟨⟨400, (), rfl, (⟨by decide, (dft_un (show ga f20 (6 * mba.toInt + v.toInt) = (-100000) by omega)).symm⟩), by rw [ht]; exact hP9, hD9⟩, hS.F ht⟩) hS.2.2 dX8_speed_39

def wk_m_climb : List Cond := .code yX8_climb cX8_climb 2 (some .int) :: ([.fieldLink RX8 98 "FlightDeskModel" "climbs" "[I", .fieldLink RX8 124 "FlightDeskModel" "bank" "I", .constant RX8 120 (-100000)] ++ wsX80)
theorem iw_m_climb_8 : ∀ w ∈ wsX80, w ∈ wk_m_climb := fun _ h => List.mem_cons_of_mem _ (List.mem_append_right _ h)
set_option maxHeartbeats 4000000 in
set_option maxRecDepth 100000 in
theorem m_climb (l : Launch) (D : va_G) (cI cB cP : ClassId) (sz : Nat) (m0 : Nat) (r0 : Nat) (r1 : Nat) (r11 : Nat) (r12 : Nat) (r13 : Nat) (r14 : Nat) (r15 : Nat) (r16 : Nat) (r17 : Nat) (r18 : Nat) (r19 : Nat) (r20 : Nat) (r21 : Nat) (r22 : Nat) (r23 : Nat) (r24 : Nat) (r34 : Nat) (r35 : Nat) (r36 : Nat) (r39 : Nat) (mtk : Int32) (mzs : Int32) (mkf : Int32) (mpf : Int32) (mat : Int32) (men : Int32) (mto : Int32) (mnu : Int32) (mnm : Int64) (mba : Int32) (mrb : Int32) (mla : Int32) (mst : Int32) (mgo : Int32) (mdy : Int32) (mpy : Int32) (mrs : Int32) (mhf : Int32) (mwm : Int32) (mwn : Int32) (v : Int32) (f23 : Nat → Int32) (hba8 : 0 ≤ mba.toInt ∧ mba.toInt ≤ 1) (hv8 : 0 ≤ v.toInt ∧ v.toInt ≤ 5) (r238 : ∀ k : Nat, k < 12 → (f23 k).toInt = (-100000) ∨ (0 ≤ (f23 k).toInt ∧ (f23 k).toInt ≤ 999)) : Met l yX8_climb wk_m_climb ({ frames := 0, cells := 0, slots := 0, locals := 0 } : Room) (va_Pc [.ref m0, .int v] (Pw D cI cB cP sz [(m0, .inr (8, [.ref r0, .ref r1, .int mtk, .int mzs, .int mkf, .int mpf, .int mat, .int men, .int mto, .int mnu, .long mnm, .ref r11, .ref r12, .ref r13, .ref r14, .ref r15, .ref r16, .ref r17, .ref r18, .ref r19, .ref r20, .ref r21, .ref r22, .ref r23, .ref r24, .int mba, .int mrb, .int mla, .int mst, .int mgo, .int mdy, .int mpy, .int mrs, .int mhf, .ref r34, .ref r35, .ref r36, .int mwm, .int mwn, .ref r39])), (r23, .inl (cI, 12, .inl f23))])) (va_Qi (fun (r : Int32) (_ : Unit) => (0 ≤ r.toInt ∧ r.toInt ≤ 999) ∧ r.toInt = dft f23 (6 * mba.toInt + v.toInt) 0) (fun _ t => va_P D vwCl [(m0, .inr (8, [.ref r0, .ref r1, .int mtk, .int mzs, .int mkf, .int mpf, .int mat, .int men, .int mto, .int mnu, .long mnm, .ref r11, .ref r12, .ref r13, .ref r14, .ref r15, .ref r16, .ref r17, .ref r18, .ref r19, .ref r20, .ref r21, .ref r22, .ref r23, .ref r24, .int mba, .int mrb, .int mla, .int mst, .int mgo, .int mdy, .int mpy, .int mrs, .int mhf, .ref r34, .ref r35, .ref r36, .int mwm, .int mwn, .ref r39])), (r23, .inl (cI, 12, .inl f23))] t.heap ∧ va_D (va_A [(m0, .inr (8, [.ref r0, .ref r1, .int mtk, .int mzs, .int mkf, .int mpf, .int mat, .int men, .int mto, .int mnu, .long mnm, .ref r11, .ref r12, .ref r13, .ref r14, .ref r15, .ref r16, .ref r17, .ref r18, .ref r19, .ref r20, .ref r21, .ref r22, .ref r23, .ref r24, .int mba, .int mrb, .int mla, .int mst, .int mgo, .int mdy, .int mpy, .int mrs, .int mhf, .ref r34, .ref r35, .ref r36, .int mwm, .int mwn, .ref r39])), (r23, .inl (cI, 12, .inl f23))] sz) [(m0, .inr (8, [.ref r0, .ref r1, .int mtk, .int mzs, .int mkf, .int mpf, .int mat, .int men, .int mto, .int mnu, .long mnm, .ref r11, .ref r12, .ref r13, .ref r14, .ref r15, .ref r16, .ref r17, .ref r18, .ref r19, .ref r20, .ref r21, .ref r22, .ref r23, .ref r24, .int mba, .int mrb, .int mla, .int mst, .int mgo, .int mdy, .int mpy, .int mrs, .int mhf, .ref r34, .ref r35, .ref r36, .int mwm, .int mwn, .ref r39])), (r23, .inl (cI, 12, .inl f23))]) (va_A [(m0, .inr (8, [.ref r0, .ref r1, .int mtk, .int mzs, .int mkf, .int mpf, .int mat, .int men, .int mto, .int mnu, .long mnm, .ref r11, .ref r12, .ref r13, .ref r14, .ref r15, .ref r16, .ref r17, .ref r18, .ref r19, .ref r20, .ref r21, .ref r22, .ref r23, .ref r24, .int mba, .int mrb, .int mla, .int mst, .int mgo, .int mdy, .int mpy, .int mrs, .int mhf, .ref r34, .ref r35, .ref r36, .int mwm, .int mwn, .ref r39])), (r23, .inl (cI, 12, .inl f23))] sz)) 0 0 (va_A [(m0, .inr (8, [.ref r0, .ref r1, .int mtk, .int mzs, .int mkf, .int mpf, .int mat, .int men, .int mto, .int mnu, .long mnm, .ref r11, .ref r12, .ref r13, .ref r14, .ref r15, .ref r16, .ref r17, .ref r18, .ref r19, .ref r20, .ref r21, .ref r22, .ref r23, .ref r24, .int mba, .int mrb, .int mla, .int mst, .int mgo, .int mdy, .int mpy, .int mrs, .int mhf, .ref r34, .ref r35, .ref r36, .int mwm, .int mwn, .ref r39])), (r23, .inl (cI, 12, .inl f23))] sz) := by
  refine Met.ofW (cc := cX8_climb) (maxL := 2) (ret := (some .int)) (by decide) rfl ?_
  intro p e s m args below meth c s₁ B hml hv
  obtain ⟨rfl, hsz, hP, ⟨hK, hN⟩, hD0⟩ := hv
  have hx := B.exec
  have hb := B.bytes
  have hr := B.returns
  have hts := atoms_spec (ws := wk_m_climb) B.pre
  have hown : s.vm.findClass RX8 = some m.cls := findClass_of_methodNamed B.named
  have hlocks := B.notSynchronized
  subst hsz
  have hD := hD0.self (sz := s.heap.size)
  generalize hAe : va_A [(m0, .inr (8, [.ref r0, .ref r1, .int mtk, .int mzs, .int mkf, .int mpf, .int mat, .int men, .int mto, .int mnu, .long mnm, .ref r11, .ref r12, .ref r13, .ref r14, .ref r15, .ref r16, .ref r17, .ref r18, .ref r19, .ref r20, .ref r21, .ref r22, .ref r23, .ref r24, .int mba, .int mrb, .int mla, .int mst, .int mgo, .int mdy, .int mpy, .int mrs, .int mhf, .ref r34, .ref r35, .ref r36, .int mwm, .int mwn, .ref r39])), (r23, .inl (cI, 12, .inl f23))] s.heap.size = A at hD ⊢
  have hA : ∀ q : Nat, s.heap.size ≤ q → A q := fun q h => by rw [← hAe]; exact Or.inr h
  have hS : va_S A s.heap s.heap [] := va_S.rf
  have hP : va_P D vwCl [(m0, .inr (8, [.ref r0, .ref r1, .int mtk, .int mzs, .int mkf, .int mpf, .int mat, .int men, .int mto, .int mnu, .long mnm, .ref r11, .ref r12, .ref r13, .ref r14, .ref r15, .ref r16, .ref r17, .ref r18, .ref r19, .ref r20, .ref r21, .ref r22, .ref r23, .ref r24, .int mba, .int mrb, .int mla, .int mst, .int mgo, .int mdy, .int mpy, .int mrs, .int mhf, .ref r34, .ref r35, .ref r36, .int mwm, .int mwn, .ref r39])), (r23, .inl (cI, 12, .inl f23))] s.heap := hP
  have hl := lv_entry ([.ref m0, .int v]) (n := 2) (Nat.le_of_ble_eq_true rfl)
  rw [lg_entry_eq]
  generalize (lg_sl ([.ref m0, .int v]) ++ List.replicate (2 - (lg_sl ([.ref m0, .int v])).length) Slot.unset).toArray = ls at hl ⊢
  have hl : lv_has ls 2 [(0, .ref m0), (1, .int v)] := hl
  refine lv_aload_n hx hb dX8_climb_0 rfl (lv_at hl 0 rfl) ?_
  refine va_get (D := D) (ci := 8) (v := .ref r23) (C := RX8) (T := TX8) (N := 40) hx hb hts iw_m_climb_8 hown hK hP 0 rfl rfl 23 (by decide) (hts (.fieldLink RX8 98 "FlightDeskModel" "climbs" "[I") (by decide +kernel)) (fun _ h9 => h9) rfl dX8_climb_1 ?_
  refine lv_bipush (v := 6) hx hb dX8_climb_4 (by decide) ?_
  refine lv_aload_n hx hb dX8_climb_6 rfl (lv_at hl 0 rfl) ?_
  refine va_get (D := D) (ci := 8) (v := .int mba) (C := RX8) (T := TX8) (N := 40) hx hb hts iw_m_climb_8 hown hK hP 0 rfl rfl 25 (by decide) (hts (.fieldLink RX8 124 "FlightDeskModel" "bank" "I") (by decide +kernel)) (fun _ h9 => h9) rfl dX8_climb_7 ?_
  refine lv_imul hx hb dX8_climb_10 ?_
  refine lv_topi (fun v1 ev1 => ?_)
  have tv1 : v1.toInt = 6 * mba.toInt := (by have q9 : v1.toInt = (6 * mba.toInt + 2147483648) % 4294967296 - 2147483648 := i32_mul ev1; omega)
  refine lv_iload_n hx hb dX8_climb_11 rfl (lv_at hl 1 rfl) ?_
  refine lv_iadd hx hb dX8_climb_12 ?_
  refine lv_topi (fun v2 ev2 => ?_)
  have tv2 : v2.toInt = v1.toInt + v.toInt := (by have q9 : v2.toInt = (v1.toInt + v.toInt + 2147483648) % 4294967296 - 2147483648 := i32_add ev2; omega)
  refine va_iald hx hb hK hP 1 0 rfl rfl (vp_in_iff.mpr ⟨show 0 ≤ v2.toInt by omega, show v2.toInt < ((12 : Nat) : Int) by omega⟩) dX8_climb_13 ?_
  refine lv_topi (fun v3 ev3 => ?_)
  have tv3 : v3.toInt = (-100000) ∨ (0 ≤ v3.toInt ∧ v3.toInt ≤ 999) := by rw [ev3]; exact r238 _ (ck_lt (show 0 ≤ v2.toInt by omega) (show v2.toInt < ((12 : Nat) : Int) by omega))
  have gv3 : v3.toInt = ga f23 (6 * mba.toInt + v.toInt) := ga_at ev3 (show v2.toInt = 6 * mba.toInt + v.toInt by omega)
  refine lv_ldc hx hb hown (hts (.constant RX8 120 (-100000)) (by decide +kernel)) dX8_climb_14 ?_
  refine lv_icmp_ne (tgt := 23) hx hb dX8_climb_16 (by decide) (fun c4 => ?_) (fun c4 => ?_)
  · have tc4 : ¬ (v3.toInt = (-100000)) := i32_neq c4
    refine lv_aload_n hx hb dX8_climb_23 rfl (lv_at hl 0 rfl) ?_
    refine va_get (D := D) (ci := 8) (v := .ref r23) (C := RX8) (T := TX8) (N := 40) hx hb hts iw_m_climb_8 hown hK hP 0 rfl rfl 23 (by decide) (hts (.fieldLink RX8 98 "FlightDeskModel" "climbs" "[I") (by decide +kernel)) (fun _ h9 => h9) rfl dX8_climb_24 ?_
    refine lv_bipush (v := 6) hx hb dX8_climb_27 (by decide) ?_
    refine lv_aload_n hx hb dX8_climb_29 rfl (lv_at hl 0 rfl) ?_
    refine va_get (D := D) (ci := 8) (v := .int mba) (C := RX8) (T := TX8) (N := 40) hx hb hts iw_m_climb_8 hown hK hP 0 rfl rfl 25 (by decide) (hts (.fieldLink RX8 124 "FlightDeskModel" "bank" "I") (by decide +kernel)) (fun _ h9 => h9) rfl dX8_climb_30 ?_
    refine lv_imul hx hb dX8_climb_33 ?_
    refine lv_topi (fun v5 ev5 => ?_)
    have tv5 : v5.toInt = 6 * mba.toInt := (by have q9 : v5.toInt = (6 * mba.toInt + 2147483648) % 4294967296 - 2147483648 := i32_mul ev5; omega)
    refine lv_iload_n hx hb dX8_climb_34 rfl (lv_at hl 1 rfl) ?_
    refine lv_iadd hx hb dX8_climb_35 ?_
    refine lv_topi (fun v6 ev6 => ?_)
    have tv6 : v6.toInt = v5.toInt + v.toInt := (by have q9 : v6.toInt = (v5.toInt + v.toInt + 2147483648) % 4294967296 - 2147483648 := i32_add ev6; omega)
    refine va_iald hx hb hK hP 1 0 rfl rfl (vp_in_iff.mpr ⟨show 0 ≤ v6.toInt by omega, show v6.toInt < ((12 : Nat) : Int) by omega⟩) dX8_climb_36 ?_
    refine lv_topi (fun v7 ev7 => ?_)
    have tv7 : v7.toInt = (-100000) ∨ (0 ≤ v7.toInt ∧ v7.toInt ≤ 999) := by rw [ev7]; exact r238 _ (ck_lt (show 0 ≤ v6.toInt by omega) (show v6.toInt < ((12 : Nat) : Int) by omega))
    have gv7 : v7.toInt = ga f23 (6 * mba.toInt + v.toInt) := ga_at ev7 (show v6.toInt = 6 * mba.toInt + v.toInt by omega)
    have hP9 := hP.sub (ws' := [(m0, .inr (8, [.ref r0, .ref r1, .int mtk, .int mzs, .int mkf, .int mpf, .int mat, .int men, .int mto, .int mnu, .long mnm, .ref r11, .ref r12, .ref r13, .ref r14, .ref r15, .ref r16, .ref r17, .ref r18, .ref r19, .ref r20, .ref r21, .ref r22, .ref r23, .ref r24, .int mba, .int mrb, .int mla, .int mst, .int mgo, .int mdy, .int mpy, .int mrs, .int mhf, .ref r34, .ref r35, .ref r36, .int mwm, .int mwn, .ref r39])), (r23, .inl (cI, 12, .inl f23))]) [0, 1] rfl
    have hD9 := hD.sub (ws' := [(m0, .inr (8, [.ref r0, .ref r1, .int mtk, .int mzs, .int mkf, .int mpf, .int mat, .int men, .int mto, .int mnu, .long mnm, .ref r11, .ref r12, .ref r13, .ref r14, .ref r15, .ref r16, .ref r17, .ref r18, .ref r19, .ref r20, .ref r21, .ref r22, .ref r23, .ref r24, .int mba, .int mrb, .int mla, .int mst, .int mgo, .int mdy, .int mpy, .int mrs, .int mhf, .ref r34, .ref r35, .ref r36, .int mwm, .int mwn, .ref r39])), (r23, .inl (cI, 12, .inl f23))]) [0, 1] (by decide) rfl
    refine W.widen (k := 0) (n := 0) (by decide) (by decide) ?_
    exact W.iret (v := v7) hx hb hr (fun t ht hW => ⟨⟨v7, (), rfl, (⟨by omega, by rw [dft_at (show ¬ ga f23 (6 * mba.toInt + v.toInt) = (-100000) by omega)]; omega⟩), by rw [ht]; exact hP9, hD9⟩, hS.F ht⟩) hS.2.2 dX8_climb_37
  · have tc4 : v3.toInt = (-100000) := i32_eq c4
    refine lv_iconst (v := 0) hx hb dX8_climb_19 (by decide) ?_
    refine lv_goto (tgt := 37) hx hb dX8_climb_20 (by decide) ?_
    have hP9 := hP.sub (ws' := [(m0, .inr (8, [.ref r0, .ref r1, .int mtk, .int mzs, .int mkf, .int mpf, .int mat, .int men, .int mto, .int mnu, .long mnm, .ref r11, .ref r12, .ref r13, .ref r14, .ref r15, .ref r16, .ref r17, .ref r18, .ref r19, .ref r20, .ref r21, .ref r22, .ref r23, .ref r24, .int mba, .int mrb, .int mla, .int mst, .int mgo, .int mdy, .int mpy, .int mrs, .int mhf, .ref r34, .ref r35, .ref r36, .int mwm, .int mwn, .ref r39])), (r23, .inl (cI, 12, .inl f23))]) [0, 1] rfl
    have hD9 := hD.sub (ws' := [(m0, .inr (8, [.ref r0, .ref r1, .int mtk, .int mzs, .int mkf, .int mpf, .int mat, .int men, .int mto, .int mnu, .long mnm, .ref r11, .ref r12, .ref r13, .ref r14, .ref r15, .ref r16, .ref r17, .ref r18, .ref r19, .ref r20, .ref r21, .ref r22, .ref r23, .ref r24, .int mba, .int mrb, .int mla, .int mst, .int mgo, .int mdy, .int mpy, .int mrs, .int mhf, .ref r34, .ref r35, .ref r36, .int mwm, .int mwn, .ref r39])), (r23, .inl (cI, 12, .inl f23))]) [0, 1] (by decide) rfl
    refine W.widen (k := 0) (n := 0) (by decide) (by decide) ?_
    exact W.iret (v := 0) hx hb hr (fun t ht hW => ⟨⟨0, (), rfl, (⟨by decide, (dft_un (show ga f23 (6 * mba.toInt + v.toInt) = (-100000) by omega)).symm⟩), by rw [ht]; exact hP9, hD9⟩, hS.F ht⟩) hS.2.2 dX8_climb_37

def wk_m_limit : List Cond := .code yX8_limit cX8_limit 3 (some .int) :: ([.fieldLink RX8 101 "FlightDeskModel" "limits" "[I", .fieldLink RX8 124 "FlightDeskModel" "bank" "I", .constant RX8 120 (-100000), .constant RX8 176 (60000)] ++ wsX80)
theorem iw_m_limit_8 : ∀ w ∈ wsX80, w ∈ wk_m_limit := fun _ h => List.mem_cons_of_mem _ (List.mem_append_right _ h)
set_option maxHeartbeats 4000000 in
set_option maxRecDepth 100000 in
theorem m_limit (l : Launch) (D : va_G) (cI cB cP : ClassId) (sz : Nat) (m0 : Nat) (r0 : Nat) (r1 : Nat) (r11 : Nat) (r12 : Nat) (r13 : Nat) (r14 : Nat) (r15 : Nat) (r16 : Nat) (r17 : Nat) (r18 : Nat) (r19 : Nat) (r20 : Nat) (r21 : Nat) (r22 : Nat) (r23 : Nat) (r24 : Nat) (r34 : Nat) (r35 : Nat) (r36 : Nat) (r39 : Nat) (mtk : Int32) (mzs : Int32) (mkf : Int32) (mpf : Int32) (mat : Int32) (men : Int32) (mto : Int32) (mnu : Int32) (mnm : Int64) (mba : Int32) (mrb : Int32) (mla : Int32) (mst : Int32) (mgo : Int32) (mdy : Int32) (mpy : Int32) (mrs : Int32) (mhf : Int32) (mwm : Int32) (mwn : Int32) (v : Int32) (f24 : Nat → Int32) (hba8 : 0 ≤ mba.toInt ∧ mba.toInt ≤ 1) (hv8 : 0 ≤ v.toInt ∧ v.toInt ≤ 3) (r248 : ∀ k : Nat, k < 8 → (f24 k).toInt = (-100000) ∨ (0 ≤ (f24 k).toInt ∧ (f24 k).toInt ≤ 60000)) : Met l yX8_limit wk_m_limit ({ frames := 0, cells := 0, slots := 0, locals := 0 } : Room) (va_Pc [.ref m0, .int v] (Pw D cI cB cP sz [(m0, .inr (8, [.ref r0, .ref r1, .int mtk, .int mzs, .int mkf, .int mpf, .int mat, .int men, .int mto, .int mnu, .long mnm, .ref r11, .ref r12, .ref r13, .ref r14, .ref r15, .ref r16, .ref r17, .ref r18, .ref r19, .ref r20, .ref r21, .ref r22, .ref r23, .ref r24, .int mba, .int mrb, .int mla, .int mst, .int mgo, .int mdy, .int mpy, .int mrs, .int mhf, .ref r34, .ref r35, .ref r36, .int mwm, .int mwn, .ref r39])), (r24, .inl (cI, 8, .inl f24))])) (va_Qi (fun (r : Int32) (_ : Unit) => 0 ≤ r.toInt ∧ r.toInt ≤ 60000) (fun _ t => va_P D vwCl [(m0, .inr (8, [.ref r0, .ref r1, .int mtk, .int mzs, .int mkf, .int mpf, .int mat, .int men, .int mto, .int mnu, .long mnm, .ref r11, .ref r12, .ref r13, .ref r14, .ref r15, .ref r16, .ref r17, .ref r18, .ref r19, .ref r20, .ref r21, .ref r22, .ref r23, .ref r24, .int mba, .int mrb, .int mla, .int mst, .int mgo, .int mdy, .int mpy, .int mrs, .int mhf, .ref r34, .ref r35, .ref r36, .int mwm, .int mwn, .ref r39])), (r24, .inl (cI, 8, .inl f24))] t.heap ∧ va_D (va_A [(m0, .inr (8, [.ref r0, .ref r1, .int mtk, .int mzs, .int mkf, .int mpf, .int mat, .int men, .int mto, .int mnu, .long mnm, .ref r11, .ref r12, .ref r13, .ref r14, .ref r15, .ref r16, .ref r17, .ref r18, .ref r19, .ref r20, .ref r21, .ref r22, .ref r23, .ref r24, .int mba, .int mrb, .int mla, .int mst, .int mgo, .int mdy, .int mpy, .int mrs, .int mhf, .ref r34, .ref r35, .ref r36, .int mwm, .int mwn, .ref r39])), (r24, .inl (cI, 8, .inl f24))] sz) [(m0, .inr (8, [.ref r0, .ref r1, .int mtk, .int mzs, .int mkf, .int mpf, .int mat, .int men, .int mto, .int mnu, .long mnm, .ref r11, .ref r12, .ref r13, .ref r14, .ref r15, .ref r16, .ref r17, .ref r18, .ref r19, .ref r20, .ref r21, .ref r22, .ref r23, .ref r24, .int mba, .int mrb, .int mla, .int mst, .int mgo, .int mdy, .int mpy, .int mrs, .int mhf, .ref r34, .ref r35, .ref r36, .int mwm, .int mwn, .ref r39])), (r24, .inl (cI, 8, .inl f24))]) (va_A [(m0, .inr (8, [.ref r0, .ref r1, .int mtk, .int mzs, .int mkf, .int mpf, .int mat, .int men, .int mto, .int mnu, .long mnm, .ref r11, .ref r12, .ref r13, .ref r14, .ref r15, .ref r16, .ref r17, .ref r18, .ref r19, .ref r20, .ref r21, .ref r22, .ref r23, .ref r24, .int mba, .int mrb, .int mla, .int mst, .int mgo, .int mdy, .int mpy, .int mrs, .int mhf, .ref r34, .ref r35, .ref r36, .int mwm, .int mwn, .ref r39])), (r24, .inl (cI, 8, .inl f24))] sz)) 0 0 (va_A [(m0, .inr (8, [.ref r0, .ref r1, .int mtk, .int mzs, .int mkf, .int mpf, .int mat, .int men, .int mto, .int mnu, .long mnm, .ref r11, .ref r12, .ref r13, .ref r14, .ref r15, .ref r16, .ref r17, .ref r18, .ref r19, .ref r20, .ref r21, .ref r22, .ref r23, .ref r24, .int mba, .int mrb, .int mla, .int mst, .int mgo, .int mdy, .int mpy, .int mrs, .int mhf, .ref r34, .ref r35, .ref r36, .int mwm, .int mwn, .ref r39])), (r24, .inl (cI, 8, .inl f24))] sz) := by
  refine Met.ofW (cc := cX8_limit) (maxL := 3) (ret := (some .int)) (by decide) rfl ?_
  intro p e s m args below meth c s₁ B hml hv
  obtain ⟨rfl, hsz, hP, ⟨hK, hN⟩, hD0⟩ := hv
  have hx := B.exec
  have hb := B.bytes
  have hr := B.returns
  have hts := atoms_spec (ws := wk_m_limit) B.pre
  have hown : s.vm.findClass RX8 = some m.cls := findClass_of_methodNamed B.named
  have hlocks := B.notSynchronized
  subst hsz
  have hD := hD0.self (sz := s.heap.size)
  generalize hAe : va_A [(m0, .inr (8, [.ref r0, .ref r1, .int mtk, .int mzs, .int mkf, .int mpf, .int mat, .int men, .int mto, .int mnu, .long mnm, .ref r11, .ref r12, .ref r13, .ref r14, .ref r15, .ref r16, .ref r17, .ref r18, .ref r19, .ref r20, .ref r21, .ref r22, .ref r23, .ref r24, .int mba, .int mrb, .int mla, .int mst, .int mgo, .int mdy, .int mpy, .int mrs, .int mhf, .ref r34, .ref r35, .ref r36, .int mwm, .int mwn, .ref r39])), (r24, .inl (cI, 8, .inl f24))] s.heap.size = A at hD ⊢
  have hA : ∀ q : Nat, s.heap.size ≤ q → A q := fun q h => by rw [← hAe]; exact Or.inr h
  have hS : va_S A s.heap s.heap [] := va_S.rf
  have hP : va_P D vwCl [(m0, .inr (8, [.ref r0, .ref r1, .int mtk, .int mzs, .int mkf, .int mpf, .int mat, .int men, .int mto, .int mnu, .long mnm, .ref r11, .ref r12, .ref r13, .ref r14, .ref r15, .ref r16, .ref r17, .ref r18, .ref r19, .ref r20, .ref r21, .ref r22, .ref r23, .ref r24, .int mba, .int mrb, .int mla, .int mst, .int mgo, .int mdy, .int mpy, .int mrs, .int mhf, .ref r34, .ref r35, .ref r36, .int mwm, .int mwn, .ref r39])), (r24, .inl (cI, 8, .inl f24))] s.heap := hP
  have hl := lv_entry ([.ref m0, .int v]) (n := 3) (Nat.le_of_ble_eq_true rfl)
  rw [lg_entry_eq]
  generalize (lg_sl ([.ref m0, .int v]) ++ List.replicate (3 - (lg_sl ([.ref m0, .int v])).length) Slot.unset).toArray = ls at hl ⊢
  have hl : lv_has ls 3 [(0, .ref m0), (1, .int v)] := hl
  refine lv_aload_n hx hb dX8_limit_0 rfl (lv_at hl 0 rfl) ?_
  refine va_get (D := D) (ci := 8) (v := .ref r24) (C := RX8) (T := TX8) (N := 40) hx hb hts iw_m_limit_8 hown hK hP 0 rfl rfl 24 (by decide) (hts (.fieldLink RX8 101 "FlightDeskModel" "limits" "[I") (by decide +kernel)) (fun _ h9 => h9) rfl dX8_limit_1 ?_
  refine lv_iconst (v := 4) hx hb dX8_limit_4 (by decide) ?_
  refine lv_aload_n hx hb dX8_limit_5 rfl (lv_at hl 0 rfl) ?_
  refine va_get (D := D) (ci := 8) (v := .int mba) (C := RX8) (T := TX8) (N := 40) hx hb hts iw_m_limit_8 hown hK hP 0 rfl rfl 25 (by decide) (hts (.fieldLink RX8 124 "FlightDeskModel" "bank" "I") (by decide +kernel)) (fun _ h9 => h9) rfl dX8_limit_6 ?_
  refine lv_imul hx hb dX8_limit_9 ?_
  refine lv_topi (fun v1 ev1 => ?_)
  have tv1 : v1.toInt = 4 * mba.toInt := (by have q9 : v1.toInt = (4 * mba.toInt + 2147483648) % 4294967296 - 2147483648 := i32_mul ev1; omega)
  refine lv_iload_n hx hb dX8_limit_10 rfl (lv_at hl 1 rfl) ?_
  refine lv_iadd hx hb dX8_limit_11 ?_
  refine lv_topi (fun v2 ev2 => ?_)
  have tv2 : v2.toInt = v1.toInt + v.toInt := (by have q9 : v2.toInt = (v1.toInt + v.toInt + 2147483648) % 4294967296 - 2147483648 := i32_add ev2; omega)
  refine va_iald hx hb hK hP 1 0 rfl rfl (vp_in_iff.mpr ⟨show 0 ≤ v2.toInt by omega, show v2.toInt < ((8 : Nat) : Int) by omega⟩) dX8_limit_12 ?_
  refine lv_topi (fun v3 ev3 => ?_)
  have tv3 : v3.toInt = (-100000) ∨ (0 ≤ v3.toInt ∧ v3.toInt ≤ 60000) := by rw [ev3]; exact r248 _ (ck_lt (show 0 ≤ v2.toInt by omega) (show v2.toInt < ((8 : Nat) : Int) by omega))
  refine lv_istore_n (lv' := [(2, .int v3), (0, .ref m0), (1, .int v)]) hx hb dX8_limit_13 rfl hl (by decide) rfl (fun ls hl => ?_)
  refine lv_iload_n hx hb dX8_limit_14 rfl (lv_at hl 0 rfl) ?_
  refine lv_ldc hx hb hown (hts (.constant RX8 120 (-100000)) (by decide +kernel)) dX8_limit_15 ?_
  refine lv_icmp_eq (tgt := 24) hx hb dX8_limit_17 (by decide) (fun c4 => ?_) (fun c4 => ?_)
  · have tc4 : v3.toInt = (-100000) := i32_eq c4
    refine lv_iload_n hx hb dX8_limit_24 rfl (lv_at hl 2 rfl) ?_
    refine lv_if_ne (tgt := 34) hx hb dX8_limit_25 (by decide) (fun c5 => ?_) (fun c5 => ?_)
    · have tc5 : ¬ (v.toInt = 0) := i32_neq c5
      refine lv_iload_n hx hb dX8_limit_34 rfl (lv_at hl 2 rfl) ?_
      refine lv_iconst (v := 3) hx hb dX8_limit_35 (by decide) ?_
      refine lv_icmp_ne (tgt := 43) hx hb dX8_limit_36 (by decide) (fun c6 => ?_) (fun c6 => ?_)
      · have tc6 : ¬ (v.toInt = 3) := i32_neq c6
        refine lv_ldc hx hb hown (hts (.constant RX8 176 (60000)) (by decide +kernel)) dX8_limit_43 ?_
        have hP9 := hP.sub (ws' := [(m0, .inr (8, [.ref r0, .ref r1, .int mtk, .int mzs, .int mkf, .int mpf, .int mat, .int men, .int mto, .int mnu, .long mnm, .ref r11, .ref r12, .ref r13, .ref r14, .ref r15, .ref r16, .ref r17, .ref r18, .ref r19, .ref r20, .ref r21, .ref r22, .ref r23, .ref r24, .int mba, .int mrb, .int mla, .int mst, .int mgo, .int mdy, .int mpy, .int mrs, .int mhf, .ref r34, .ref r35, .ref r36, .int mwm, .int mwn, .ref r39])), (r24, .inl (cI, 8, .inl f24))]) [0, 1] rfl
        have hD9 := hD.sub (ws' := [(m0, .inr (8, [.ref r0, .ref r1, .int mtk, .int mzs, .int mkf, .int mpf, .int mat, .int men, .int mto, .int mnu, .long mnm, .ref r11, .ref r12, .ref r13, .ref r14, .ref r15, .ref r16, .ref r17, .ref r18, .ref r19, .ref r20, .ref r21, .ref r22, .ref r23, .ref r24, .int mba, .int mrb, .int mla, .int mst, .int mgo, .int mdy, .int mpy, .int mrs, .int mhf, .ref r34, .ref r35, .ref r36, .int mwm, .int mwn, .ref r39])), (r24, .inl (cI, 8, .inl f24))]) [0, 1] (by decide) rfl
        refine W.widen (k := 0) (n := 0) (by decide) (by decide) ?_
        exact W.iret (v := 60000) hx hb hr (fun t ht hW => ⟨⟨60000, (), rfl, (show 0 ≤ 60000 ∧ 60000 ≤ 60000 by first | assumption | omega | trivial | decide), by rw [ht]; exact hP9, hD9⟩, hS.F ht⟩) hS.2.2 dX8_limit_45
      · have tc6 : v.toInt = 3 := i32_eq c6
        refine lv_iconst (v := 0) hx hb dX8_limit_39 (by decide) ?_
        refine lv_goto (tgt := 45) hx hb dX8_limit_40 (by decide) ?_
        have hP9 := hP.sub (ws' := [(m0, .inr (8, [.ref r0, .ref r1, .int mtk, .int mzs, .int mkf, .int mpf, .int mat, .int men, .int mto, .int mnu, .long mnm, .ref r11, .ref r12, .ref r13, .ref r14, .ref r15, .ref r16, .ref r17, .ref r18, .ref r19, .ref r20, .ref r21, .ref r22, .ref r23, .ref r24, .int mba, .int mrb, .int mla, .int mst, .int mgo, .int mdy, .int mpy, .int mrs, .int mhf, .ref r34, .ref r35, .ref r36, .int mwm, .int mwn, .ref r39])), (r24, .inl (cI, 8, .inl f24))]) [0, 1] rfl
        have hD9 := hD.sub (ws' := [(m0, .inr (8, [.ref r0, .ref r1, .int mtk, .int mzs, .int mkf, .int mpf, .int mat, .int men, .int mto, .int mnu, .long mnm, .ref r11, .ref r12, .ref r13, .ref r14, .ref r15, .ref r16, .ref r17, .ref r18, .ref r19, .ref r20, .ref r21, .ref r22, .ref r23, .ref r24, .int mba, .int mrb, .int mla, .int mst, .int mgo, .int mdy, .int mpy, .int mrs, .int mhf, .ref r34, .ref r35, .ref r36, .int mwm, .int mwn, .ref r39])), (r24, .inl (cI, 8, .inl f24))]) [0, 1] (by decide) rfl
        refine W.widen (k := 0) (n := 0) (by decide) (by decide) ?_
        exact W.iret (v := 0) hx hb hr (fun t ht hW => ⟨⟨0, (), rfl, (show 0 ≤ 0 ∧ 0 ≤ 60000 by first | assumption | omega | trivial | decide), by rw [ht]; exact hP9, hD9⟩, hS.F ht⟩) hS.2.2 dX8_limit_45
    · have tc5 : v.toInt = 0 := i32_eq c5
      refine lv_sipush (v := 30000) hx hb dX8_limit_28 (by decide) ?_
      refine lv_goto (tgt := 45) hx hb dX8_limit_31 (by decide) ?_
      have hP9 := hP.sub (ws' := [(m0, .inr (8, [.ref r0, .ref r1, .int mtk, .int mzs, .int mkf, .int mpf, .int mat, .int men, .int mto, .int mnu, .long mnm, .ref r11, .ref r12, .ref r13, .ref r14, .ref r15, .ref r16, .ref r17, .ref r18, .ref r19, .ref r20, .ref r21, .ref r22, .ref r23, .ref r24, .int mba, .int mrb, .int mla, .int mst, .int mgo, .int mdy, .int mpy, .int mrs, .int mhf, .ref r34, .ref r35, .ref r36, .int mwm, .int mwn, .ref r39])), (r24, .inl (cI, 8, .inl f24))]) [0, 1] rfl
      have hD9 := hD.sub (ws' := [(m0, .inr (8, [.ref r0, .ref r1, .int mtk, .int mzs, .int mkf, .int mpf, .int mat, .int men, .int mto, .int mnu, .long mnm, .ref r11, .ref r12, .ref r13, .ref r14, .ref r15, .ref r16, .ref r17, .ref r18, .ref r19, .ref r20, .ref r21, .ref r22, .ref r23, .ref r24, .int mba, .int mrb, .int mla, .int mst, .int mgo, .int mdy, .int mpy, .int mrs, .int mhf, .ref r34, .ref r35, .ref r36, .int mwm, .int mwn, .ref r39])), (r24, .inl (cI, 8, .inl f24))]) [0, 1] (by decide) rfl
      refine W.widen (k := 0) (n := 0) (by decide) (by decide) ?_
      exact W.iret (v := 30000) hx hb hr (fun t ht hW => ⟨⟨30000, (), rfl, (show 0 ≤ 30000 ∧ 30000 ≤ 60000 by first | assumption | omega | trivial | decide), by rw [ht]; exact hP9, hD9⟩, hS.F ht⟩) hS.2.2 dX8_limit_45
  · have tc4 : ¬ (v3.toInt = (-100000)) := i32_neq c4
    refine lv_iload_n hx hb dX8_limit_20 rfl (lv_at hl 0 rfl) ?_
    refine lv_goto (tgt := 45) hx hb dX8_limit_21 (by decide) ?_
    have hP9 := hP.sub (ws' := [(m0, .inr (8, [.ref r0, .ref r1, .int mtk, .int mzs, .int mkf, .int mpf, .int mat, .int men, .int mto, .int mnu, .long mnm, .ref r11, .ref r12, .ref r13, .ref r14, .ref r15, .ref r16, .ref r17, .ref r18, .ref r19, .ref r20, .ref r21, .ref r22, .ref r23, .ref r24, .int mba, .int mrb, .int mla, .int mst, .int mgo, .int mdy, .int mpy, .int mrs, .int mhf, .ref r34, .ref r35, .ref r36, .int mwm, .int mwn, .ref r39])), (r24, .inl (cI, 8, .inl f24))]) [0, 1] rfl
    have hD9 := hD.sub (ws' := [(m0, .inr (8, [.ref r0, .ref r1, .int mtk, .int mzs, .int mkf, .int mpf, .int mat, .int men, .int mto, .int mnu, .long mnm, .ref r11, .ref r12, .ref r13, .ref r14, .ref r15, .ref r16, .ref r17, .ref r18, .ref r19, .ref r20, .ref r21, .ref r22, .ref r23, .ref r24, .int mba, .int mrb, .int mla, .int mst, .int mgo, .int mdy, .int mpy, .int mrs, .int mhf, .ref r34, .ref r35, .ref r36, .int mwm, .int mwn, .ref r39])), (r24, .inl (cI, 8, .inl f24))]) [0, 1] (by decide) rfl
    refine W.widen (k := 0) (n := 0) (by decide) (by decide) ?_
    exact W.iret (v := v3) hx hb hr (fun t ht hW => ⟨⟨v3, (), rfl, (show 0 ≤ v3.toInt ∧ v3.toInt ≤ 60000 by first | assumption | omega | trivial | decide), by rw [ht]; exact hP9, hD9⟩, hS.F ht⟩) hS.2.2 dX8_limit_45

def wk_m_limit3 : List Cond := .code yX8_limit cX8_limit 3 (some .int) :: ([.fieldLink RX8 101 "FlightDeskModel" "limits" "[I", .fieldLink RX8 124 "FlightDeskModel" "bank" "I", .constant RX8 120 (-100000)] ++ wsX80)
theorem iw_m_limit3_8 : ∀ w ∈ wsX80, w ∈ wk_m_limit3 := fun _ h => List.mem_cons_of_mem _ (List.mem_append_right _ h)
set_option maxHeartbeats 4000000 in
set_option maxRecDepth 100000 in
theorem m_limit3 (l : Launch) (D : va_G) (cI cB cP : ClassId) (sz : Nat) (m0 : Nat) (r0 : Nat) (r1 : Nat) (r11 : Nat) (r12 : Nat) (r13 : Nat) (r14 : Nat) (r15 : Nat) (r16 : Nat) (r17 : Nat) (r18 : Nat) (r19 : Nat) (r20 : Nat) (r21 : Nat) (r22 : Nat) (r23 : Nat) (r24 : Nat) (r34 : Nat) (r35 : Nat) (r36 : Nat) (r39 : Nat) (mtk : Int32) (mzs : Int32) (mkf : Int32) (mpf : Int32) (mat : Int32) (men : Int32) (mto : Int32) (mnu : Int32) (mnm : Int64) (mba : Int32) (mrb : Int32) (mla : Int32) (mst : Int32) (mgo : Int32) (mdy : Int32) (mpy : Int32) (mrs : Int32) (mhf : Int32) (mwm : Int32) (mwn : Int32) (f24 : Nat → Int32) (hba8 : 0 ≤ mba.toInt ∧ mba.toInt ≤ 1) (r248 : ∀ k : Nat, k < 8 → (f24 k).toInt = (-100000) ∨ (0 ≤ (f24 k).toInt ∧ (f24 k).toInt ≤ 60000)) : Met l yX8_limit wk_m_limit3 ({ frames := 0, cells := 0, slots := 0, locals := 0 } : Room) (va_Pc [.ref m0, .int 3] (Pw D cI cB cP sz [(m0, .inr (8, [.ref r0, .ref r1, .int mtk, .int mzs, .int mkf, .int mpf, .int mat, .int men, .int mto, .int mnu, .long mnm, .ref r11, .ref r12, .ref r13, .ref r14, .ref r15, .ref r16, .ref r17, .ref r18, .ref r19, .ref r20, .ref r21, .ref r22, .ref r23, .ref r24, .int mba, .int mrb, .int mla, .int mst, .int mgo, .int mdy, .int mpy, .int mrs, .int mhf, .ref r34, .ref r35, .ref r36, .int mwm, .int mwn, .ref r39])), (r24, .inl (cI, 8, .inl f24))])) (va_Qi (fun (r : Int32) (_ : Unit) => (0 ≤ r.toInt ∧ r.toInt ≤ 60000) ∧ r.toInt = dft f24 (4 * mba.toInt + 3) 0) (fun _ t => va_P D vwCl [(m0, .inr (8, [.ref r0, .ref r1, .int mtk, .int mzs, .int mkf, .int mpf, .int mat, .int men, .int mto, .int mnu, .long mnm, .ref r11, .ref r12, .ref r13, .ref r14, .ref r15, .ref r16, .ref r17, .ref r18, .ref r19, .ref r20, .ref r21, .ref r22, .ref r23, .ref r24, .int mba, .int mrb, .int mla, .int mst, .int mgo, .int mdy, .int mpy, .int mrs, .int mhf, .ref r34, .ref r35, .ref r36, .int mwm, .int mwn, .ref r39])), (r24, .inl (cI, 8, .inl f24))] t.heap ∧ va_D (va_A [(m0, .inr (8, [.ref r0, .ref r1, .int mtk, .int mzs, .int mkf, .int mpf, .int mat, .int men, .int mto, .int mnu, .long mnm, .ref r11, .ref r12, .ref r13, .ref r14, .ref r15, .ref r16, .ref r17, .ref r18, .ref r19, .ref r20, .ref r21, .ref r22, .ref r23, .ref r24, .int mba, .int mrb, .int mla, .int mst, .int mgo, .int mdy, .int mpy, .int mrs, .int mhf, .ref r34, .ref r35, .ref r36, .int mwm, .int mwn, .ref r39])), (r24, .inl (cI, 8, .inl f24))] sz) [(m0, .inr (8, [.ref r0, .ref r1, .int mtk, .int mzs, .int mkf, .int mpf, .int mat, .int men, .int mto, .int mnu, .long mnm, .ref r11, .ref r12, .ref r13, .ref r14, .ref r15, .ref r16, .ref r17, .ref r18, .ref r19, .ref r20, .ref r21, .ref r22, .ref r23, .ref r24, .int mba, .int mrb, .int mla, .int mst, .int mgo, .int mdy, .int mpy, .int mrs, .int mhf, .ref r34, .ref r35, .ref r36, .int mwm, .int mwn, .ref r39])), (r24, .inl (cI, 8, .inl f24))]) (va_A [(m0, .inr (8, [.ref r0, .ref r1, .int mtk, .int mzs, .int mkf, .int mpf, .int mat, .int men, .int mto, .int mnu, .long mnm, .ref r11, .ref r12, .ref r13, .ref r14, .ref r15, .ref r16, .ref r17, .ref r18, .ref r19, .ref r20, .ref r21, .ref r22, .ref r23, .ref r24, .int mba, .int mrb, .int mla, .int mst, .int mgo, .int mdy, .int mpy, .int mrs, .int mhf, .ref r34, .ref r35, .ref r36, .int mwm, .int mwn, .ref r39])), (r24, .inl (cI, 8, .inl f24))] sz)) 0 0 (va_A [(m0, .inr (8, [.ref r0, .ref r1, .int mtk, .int mzs, .int mkf, .int mpf, .int mat, .int men, .int mto, .int mnu, .long mnm, .ref r11, .ref r12, .ref r13, .ref r14, .ref r15, .ref r16, .ref r17, .ref r18, .ref r19, .ref r20, .ref r21, .ref r22, .ref r23, .ref r24, .int mba, .int mrb, .int mla, .int mst, .int mgo, .int mdy, .int mpy, .int mrs, .int mhf, .ref r34, .ref r35, .ref r36, .int mwm, .int mwn, .ref r39])), (r24, .inl (cI, 8, .inl f24))] sz) := by
  refine Met.ofW (cc := cX8_limit) (maxL := 3) (ret := (some .int)) (by decide) rfl ?_
  intro p e s m args below meth c s₁ B hml hv
  obtain ⟨rfl, hsz, hP, ⟨hK, hN⟩, hD0⟩ := hv
  have hx := B.exec
  have hb := B.bytes
  have hr := B.returns
  have hts := atoms_spec (ws := wk_m_limit3) B.pre
  have hown : s.vm.findClass RX8 = some m.cls := findClass_of_methodNamed B.named
  have hlocks := B.notSynchronized
  subst hsz
  have hD := hD0.self (sz := s.heap.size)
  generalize hAe : va_A [(m0, .inr (8, [.ref r0, .ref r1, .int mtk, .int mzs, .int mkf, .int mpf, .int mat, .int men, .int mto, .int mnu, .long mnm, .ref r11, .ref r12, .ref r13, .ref r14, .ref r15, .ref r16, .ref r17, .ref r18, .ref r19, .ref r20, .ref r21, .ref r22, .ref r23, .ref r24, .int mba, .int mrb, .int mla, .int mst, .int mgo, .int mdy, .int mpy, .int mrs, .int mhf, .ref r34, .ref r35, .ref r36, .int mwm, .int mwn, .ref r39])), (r24, .inl (cI, 8, .inl f24))] s.heap.size = A at hD ⊢
  have hA : ∀ q : Nat, s.heap.size ≤ q → A q := fun q h => by rw [← hAe]; exact Or.inr h
  have hS : va_S A s.heap s.heap [] := va_S.rf
  have hP : va_P D vwCl [(m0, .inr (8, [.ref r0, .ref r1, .int mtk, .int mzs, .int mkf, .int mpf, .int mat, .int men, .int mto, .int mnu, .long mnm, .ref r11, .ref r12, .ref r13, .ref r14, .ref r15, .ref r16, .ref r17, .ref r18, .ref r19, .ref r20, .ref r21, .ref r22, .ref r23, .ref r24, .int mba, .int mrb, .int mla, .int mst, .int mgo, .int mdy, .int mpy, .int mrs, .int mhf, .ref r34, .ref r35, .ref r36, .int mwm, .int mwn, .ref r39])), (r24, .inl (cI, 8, .inl f24))] s.heap := hP
  have hl := lv_entry ([.ref m0, .int 3]) (n := 3) (Nat.le_of_ble_eq_true rfl)
  rw [lg_entry_eq]
  generalize (lg_sl ([.ref m0, .int 3]) ++ List.replicate (3 - (lg_sl ([.ref m0, .int 3])).length) Slot.unset).toArray = ls at hl ⊢
  have hl : lv_has ls 3 [(0, .ref m0), (1, .int 3)] := hl
  refine lv_aload_n hx hb dX8_limit_0 rfl (lv_at hl 0 rfl) ?_
  refine va_get (D := D) (ci := 8) (v := .ref r24) (C := RX8) (T := TX8) (N := 40) hx hb hts iw_m_limit3_8 hown hK hP 0 rfl rfl 24 (by decide) (hts (.fieldLink RX8 101 "FlightDeskModel" "limits" "[I") (by decide +kernel)) (fun _ h9 => h9) rfl dX8_limit_1 ?_
  refine lv_iconst (v := 4) hx hb dX8_limit_4 (by decide) ?_
  refine lv_aload_n hx hb dX8_limit_5 rfl (lv_at hl 0 rfl) ?_
  refine va_get (D := D) (ci := 8) (v := .int mba) (C := RX8) (T := TX8) (N := 40) hx hb hts iw_m_limit3_8 hown hK hP 0 rfl rfl 25 (by decide) (hts (.fieldLink RX8 124 "FlightDeskModel" "bank" "I") (by decide +kernel)) (fun _ h9 => h9) rfl dX8_limit_6 ?_
  refine lv_imul hx hb dX8_limit_9 ?_
  refine lv_topi (fun v1 ev1 => ?_)
  have tv1 : v1.toInt = 4 * mba.toInt := (by have q9 : v1.toInt = (4 * mba.toInt + 2147483648) % 4294967296 - 2147483648 := i32_mul ev1; omega)
  refine lv_iload_n hx hb dX8_limit_10 rfl (lv_at hl 1 rfl) ?_
  refine lv_iadd hx hb dX8_limit_11 ?_
  refine lv_topi (fun v2 ev2 => ?_)
  have tv2 : v2.toInt = v1.toInt + 3 := (by have q9 : v2.toInt = (v1.toInt + 3 + 2147483648) % 4294967296 - 2147483648 := i32_add ev2; omega)
  refine va_iald hx hb hK hP 1 0 rfl rfl (vp_in_iff.mpr ⟨show 0 ≤ v2.toInt by omega, show v2.toInt < ((8 : Nat) : Int) by omega⟩) dX8_limit_12 ?_
  refine lv_topi (fun v3 ev3 => ?_)
  have tv3 : v3.toInt = (-100000) ∨ (0 ≤ v3.toInt ∧ v3.toInt ≤ 60000) := by rw [ev3]; exact r248 _ (ck_lt (show 0 ≤ v2.toInt by omega) (show v2.toInt < ((8 : Nat) : Int) by omega))
  have gv3 : v3.toInt = ga f24 (4 * mba.toInt + 3) := ga_at ev3 (show v2.toInt = 4 * mba.toInt + 3 by omega)
  refine lv_istore_n (lv' := [(2, .int v3), (0, .ref m0), (1, .int 3)]) hx hb dX8_limit_13 rfl hl (by decide) rfl (fun ls hl => ?_)
  refine lv_iload_n hx hb dX8_limit_14 rfl (lv_at hl 0 rfl) ?_
  refine lv_ldc hx hb hown (hts (.constant RX8 120 (-100000)) (by decide +kernel)) dX8_limit_15 ?_
  refine lv_icmp_eq (tgt := 24) hx hb dX8_limit_17 (by decide) (fun c4 => ?_) (fun c4 => ?_)
  · have tc4 : v3.toInt = (-100000) := i32_eq c4
    refine lv_iload_n hx hb dX8_limit_24 rfl (lv_at hl 2 rfl) ?_
    refine lv_if_ne (tgt := 34) hx hb dX8_limit_25 (by decide) (fun c5 => ?_) (fun h9 => (by first | exact absurd h9 (by decide) | exact absurd (by decide) h9))
    refine lv_iload_n hx hb dX8_limit_34 rfl (lv_at hl 2 rfl) ?_
    refine lv_iconst (v := 3) hx hb dX8_limit_35 (by decide) ?_
    refine lv_icmp_ne (tgt := 43) hx hb dX8_limit_36 (by decide) (fun h9 => (by first | exact absurd h9 (by decide) | exact absurd (by decide) h9)) (fun c6 => ?_)
    refine lv_iconst (v := 0) hx hb dX8_limit_39 (by decide) ?_
    refine lv_goto (tgt := 45) hx hb dX8_limit_40 (by decide) ?_
    have hP9 := hP.sub (ws' := [(m0, .inr (8, [.ref r0, .ref r1, .int mtk, .int mzs, .int mkf, .int mpf, .int mat, .int men, .int mto, .int mnu, .long mnm, .ref r11, .ref r12, .ref r13, .ref r14, .ref r15, .ref r16, .ref r17, .ref r18, .ref r19, .ref r20, .ref r21, .ref r22, .ref r23, .ref r24, .int mba, .int mrb, .int mla, .int mst, .int mgo, .int mdy, .int mpy, .int mrs, .int mhf, .ref r34, .ref r35, .ref r36, .int mwm, .int mwn, .ref r39])), (r24, .inl (cI, 8, .inl f24))]) [0, 1] rfl
    have hD9 := hD.sub (ws' := [(m0, .inr (8, [.ref r0, .ref r1, .int mtk, .int mzs, .int mkf, .int mpf, .int mat, .int men, .int mto, .int mnu, .long mnm, .ref r11, .ref r12, .ref r13, .ref r14, .ref r15, .ref r16, .ref r17, .ref r18, .ref r19, .ref r20, .ref r21, .ref r22, .ref r23, .ref r24, .int mba, .int mrb, .int mla, .int mst, .int mgo, .int mdy, .int mpy, .int mrs, .int mhf, .ref r34, .ref r35, .ref r36, .int mwm, .int mwn, .ref r39])), (r24, .inl (cI, 8, .inl f24))]) [0, 1] (by decide) rfl
    refine W.widen (k := 0) (n := 0) (by decide) (by decide) ?_
    exact W.iret (v := 0) hx hb hr (fun t ht hW => ⟨⟨0, (), rfl, (⟨by decide, (dft_un (show ga f24 (4 * mba.toInt + 3) = (-100000) by omega)).symm⟩), by rw [ht]; exact hP9, hD9⟩, hS.F ht⟩) hS.2.2 dX8_limit_45
  · have tc4 : ¬ (v3.toInt = (-100000)) := i32_neq c4
    refine lv_iload_n hx hb dX8_limit_20 rfl (lv_at hl 0 rfl) ?_
    refine lv_goto (tgt := 45) hx hb dX8_limit_21 (by decide) ?_
    have hP9 := hP.sub (ws' := [(m0, .inr (8, [.ref r0, .ref r1, .int mtk, .int mzs, .int mkf, .int mpf, .int mat, .int men, .int mto, .int mnu, .long mnm, .ref r11, .ref r12, .ref r13, .ref r14, .ref r15, .ref r16, .ref r17, .ref r18, .ref r19, .ref r20, .ref r21, .ref r22, .ref r23, .ref r24, .int mba, .int mrb, .int mla, .int mst, .int mgo, .int mdy, .int mpy, .int mrs, .int mhf, .ref r34, .ref r35, .ref r36, .int mwm, .int mwn, .ref r39])), (r24, .inl (cI, 8, .inl f24))]) [0, 1] rfl
    have hD9 := hD.sub (ws' := [(m0, .inr (8, [.ref r0, .ref r1, .int mtk, .int mzs, .int mkf, .int mpf, .int mat, .int men, .int mto, .int mnu, .long mnm, .ref r11, .ref r12, .ref r13, .ref r14, .ref r15, .ref r16, .ref r17, .ref r18, .ref r19, .ref r20, .ref r21, .ref r22, .ref r23, .ref r24, .int mba, .int mrb, .int mla, .int mst, .int mgo, .int mdy, .int mpy, .int mrs, .int mhf, .ref r34, .ref r35, .ref r36, .int mwm, .int mwn, .ref r39])), (r24, .inl (cI, 8, .inl f24))]) [0, 1] (by decide) rfl
    refine W.widen (k := 0) (n := 0) (by decide) (by decide) ?_
    exact W.iret (v := v3) hx hb hr (fun t ht hW => ⟨⟨v3, (), rfl, (⟨by omega, by rw [dft_at (show ¬ ga f24 (4 * mba.toInt + 3) = (-100000) by omega)]; omega⟩), by rw [ht]; exact hP9, hD9⟩, hS.F ht⟩) hS.2.2 dX8_limit_45

def wk_m_wind : List Cond := .code yX8_wind cX8_wind 5 (some .int) :: ([.fieldLink RX8 92 "FlightDeskModel" "winds" "[I", .fieldLink RX8 124 "FlightDeskModel" "bank" "I", .methodLink RX8 201 yX8_windSpot, .static yX8_windSpot, .initialized RX8, .code yX8_windSpot cX8_windSpot 4 (some .int), .constant RX8 120 (-100000)] ++ wsX80)
theorem iw_m_wind_8 : ∀ w ∈ wsX80, w ∈ wk_m_wind := fun _ h => List.mem_cons_of_mem _ (List.mem_append_right _ h)
set_option maxRecDepth 20000 in
theorem gw_m_wind_0 : GoodIn wk_m_wind (wsS RX8 201 yX8_windSpot wk_m_windSpot) := goodIn_sub (by decide +kernel) (by decide +kernel)
set_option maxHeartbeats 4000000 in
set_option maxRecDepth 100000 in
theorem m_wind (l : Launch) (D : va_G) (cI cB cP : ClassId) (sz : Nat) (m0 : Nat) (r0 : Nat) (r1 : Nat) (r11 : Nat) (r12 : Nat) (r13 : Nat) (r14 : Nat) (r15 : Nat) (r16 : Nat) (r17 : Nat) (r18 : Nat) (r19 : Nat) (r20 : Nat) (r21 : Nat) (r22 : Nat) (r23 : Nat) (r24 : Nat) (r34 : Nat) (r35 : Nat) (r36 : Nat) (r39 : Nat) (mtk : Int32) (mzs : Int32) (mkf : Int32) (mpf : Int32) (mat : Int32) (men : Int32) (mto : Int32) (mnu : Int32) (mnm : Int64) (mba : Int32) (mrb : Int32) (mla : Int32) (mst : Int32) (mgo : Int32) (mdy : Int32) (mpy : Int32) (mrs : Int32) (mhf : Int32) (mwm : Int32) (mwn : Int32) (w : Int32) (v : Int32) (g : Int32) (f21 : Nat → Int32) (hba8 : 0 ≤ mba.toInt ∧ mba.toInt ≤ 1) (hw8 : 0 ≤ w.toInt ∧ w.toInt ≤ 2) (hv8 : 0 ≤ v.toInt ∧ v.toInt ≤ 5) (hg8 : 0 ≤ g.toInt ∧ g.toInt ≤ 15) (r218 : ∀ k : Nat, k < 576 → (f21 k).toInt = (-100000) ∨ ((-400) ≤ (f21 k).toInt ∧ (f21 k).toInt ≤ 400)) : Met l yX8_wind wk_m_wind ({ frames := 1, cells := 0, slots := 0, locals := 23 } : Room) (va_Pc [.ref m0, .int w, .int v, .int g] (Pw D cI cB cP sz [(m0, .inr (8, [.ref r0, .ref r1, .int mtk, .int mzs, .int mkf, .int mpf, .int mat, .int men, .int mto, .int mnu, .long mnm, .ref r11, .ref r12, .ref r13, .ref r14, .ref r15, .ref r16, .ref r17, .ref r18, .ref r19, .ref r20, .ref r21, .ref r22, .ref r23, .ref r24, .int mba, .int mrb, .int mla, .int mst, .int mgo, .int mdy, .int mpy, .int mrs, .int mhf, .ref r34, .ref r35, .ref r36, .int mwm, .int mwn, .ref r39])), (r21, .inl (cI, 576, .inl f21))])) (va_Qi (fun (r : Int32) (_ : Unit) => ((-400) ≤ r.toInt ∧ r.toInt ≤ 400) ∧ r.toInt = wnV f21 (288 * mba.toInt + 96 * w.toInt + g.toInt) (v.toInt + 1).toNat) (fun _ t => va_P D vwCl [(m0, .inr (8, [.ref r0, .ref r1, .int mtk, .int mzs, .int mkf, .int mpf, .int mat, .int men, .int mto, .int mnu, .long mnm, .ref r11, .ref r12, .ref r13, .ref r14, .ref r15, .ref r16, .ref r17, .ref r18, .ref r19, .ref r20, .ref r21, .ref r22, .ref r23, .ref r24, .int mba, .int mrb, .int mla, .int mst, .int mgo, .int mdy, .int mpy, .int mrs, .int mhf, .ref r34, .ref r35, .ref r36, .int mwm, .int mwn, .ref r39])), (r21, .inl (cI, 576, .inl f21))] t.heap ∧ va_D (va_A [(m0, .inr (8, [.ref r0, .ref r1, .int mtk, .int mzs, .int mkf, .int mpf, .int mat, .int men, .int mto, .int mnu, .long mnm, .ref r11, .ref r12, .ref r13, .ref r14, .ref r15, .ref r16, .ref r17, .ref r18, .ref r19, .ref r20, .ref r21, .ref r22, .ref r23, .ref r24, .int mba, .int mrb, .int mla, .int mst, .int mgo, .int mdy, .int mpy, .int mrs, .int mhf, .ref r34, .ref r35, .ref r36, .int mwm, .int mwn, .ref r39])), (r21, .inl (cI, 576, .inl f21))] sz) [(m0, .inr (8, [.ref r0, .ref r1, .int mtk, .int mzs, .int mkf, .int mpf, .int mat, .int men, .int mto, .int mnu, .long mnm, .ref r11, .ref r12, .ref r13, .ref r14, .ref r15, .ref r16, .ref r17, .ref r18, .ref r19, .ref r20, .ref r21, .ref r22, .ref r23, .ref r24, .int mba, .int mrb, .int mla, .int mst, .int mgo, .int mdy, .int mpy, .int mrs, .int mhf, .ref r34, .ref r35, .ref r36, .int mwm, .int mwn, .ref r39])), (r21, .inl (cI, 576, .inl f21))]) (va_A [(m0, .inr (8, [.ref r0, .ref r1, .int mtk, .int mzs, .int mkf, .int mpf, .int mat, .int men, .int mto, .int mnu, .long mnm, .ref r11, .ref r12, .ref r13, .ref r14, .ref r15, .ref r16, .ref r17, .ref r18, .ref r19, .ref r20, .ref r21, .ref r22, .ref r23, .ref r24, .int mba, .int mrb, .int mla, .int mst, .int mgo, .int mdy, .int mpy, .int mrs, .int mhf, .ref r34, .ref r35, .ref r36, .int mwm, .int mwn, .ref r39])), (r21, .inl (cI, 576, .inl f21))] sz)) 0 0 (va_A [(m0, .inr (8, [.ref r0, .ref r1, .int mtk, .int mzs, .int mkf, .int mpf, .int mat, .int men, .int mto, .int mnu, .long mnm, .ref r11, .ref r12, .ref r13, .ref r14, .ref r15, .ref r16, .ref r17, .ref r18, .ref r19, .ref r20, .ref r21, .ref r22, .ref r23, .ref r24, .int mba, .int mrb, .int mla, .int mst, .int mgo, .int mdy, .int mpy, .int mrs, .int mhf, .ref r34, .ref r35, .ref r36, .int mwm, .int mwn, .ref r39])), (r21, .inl (cI, 576, .inl f21))] sz) := by
  refine Met.ofW (cc := cX8_wind) (maxL := 5) (ret := (some .int)) (by decide) rfl ?_
  intro p e s m args below meth c s₁ B hml hv
  obtain ⟨rfl, hsz, hP, ⟨hK, hN⟩, hD0⟩ := hv
  have hx := B.exec
  have hb := B.bytes
  have hr := B.returns
  have hts := atoms_spec (ws := wk_m_wind) B.pre
  have hown : s.vm.findClass RX8 = some m.cls := findClass_of_methodNamed B.named
  have hlocks := B.notSynchronized
  subst hsz
  have hD := hD0.self (sz := s.heap.size)
  generalize hAe : va_A [(m0, .inr (8, [.ref r0, .ref r1, .int mtk, .int mzs, .int mkf, .int mpf, .int mat, .int men, .int mto, .int mnu, .long mnm, .ref r11, .ref r12, .ref r13, .ref r14, .ref r15, .ref r16, .ref r17, .ref r18, .ref r19, .ref r20, .ref r21, .ref r22, .ref r23, .ref r24, .int mba, .int mrb, .int mla, .int mst, .int mgo, .int mdy, .int mpy, .int mrs, .int mhf, .ref r34, .ref r35, .ref r36, .int mwm, .int mwn, .ref r39])), (r21, .inl (cI, 576, .inl f21))] s.heap.size = A at hD ⊢
  have hA : ∀ q : Nat, s.heap.size ≤ q → A q := fun q h => by rw [← hAe]; exact Or.inr h
  have hS : va_S A s.heap s.heap [] := va_S.rf
  have hP : va_P D vwCl [(m0, .inr (8, [.ref r0, .ref r1, .int mtk, .int mzs, .int mkf, .int mpf, .int mat, .int men, .int mto, .int mnu, .long mnm, .ref r11, .ref r12, .ref r13, .ref r14, .ref r15, .ref r16, .ref r17, .ref r18, .ref r19, .ref r20, .ref r21, .ref r22, .ref r23, .ref r24, .int mba, .int mrb, .int mla, .int mst, .int mgo, .int mdy, .int mpy, .int mrs, .int mhf, .ref r34, .ref r35, .ref r36, .int mwm, .int mwn, .ref r39])), (r21, .inl (cI, 576, .inl f21))] s.heap := hP
  have hl := lv_entry ([.ref m0, .int w, .int v, .int g]) (n := 5) (Nat.le_of_ble_eq_true rfl)
  rw [lg_entry_eq]
  generalize (lg_sl ([.ref m0, .int w, .int v, .int g]) ++ List.replicate (5 - (lg_sl ([.ref m0, .int w, .int v, .int g])).length) Slot.unset).toArray = ls at hl ⊢
  have hl : lv_has ls 5 [(0, .ref m0), (1, .int w), (2, .int v), (3, .int g)] := hl
  refine lv_iload_n hx hb dX8_wind_0 rfl (lv_at hl 2 rfl) ?_
  refine lv_istore (lv' := [(4, .int v), (0, .ref m0), (1, .int w), (2, .int v), (3, .int g)]) hx hb dX8_wind_1 hl (by decide) rfl (fun ls hl => ?_)
  have loop2 : ∀ (N3 : Nat) (li1 : Int32) (H : Heap) (locs : List Loc) (ls : Array Slot), ((-1) ≤ li1.toInt ∧ li1.toInt ≤ 5) → (wnV f21 (288 * mba.toInt + 96 * w.toInt + g.toInt) (v.toInt + 1).toNat = wnV f21 (288 * mba.toInt + 96 * w.toInt + g.toInt) (li1.toInt + 1).toNat) → (li1.toInt + 1).toNat < N3 → va_P D vwCl [(m0, .inr (8, [.ref r0, .ref r1, .int mtk, .int mzs, .int mkf, .int mpf, .int mat, .int men, .int mto, .int mnu, .long mnm, .ref r11, .ref r12, .ref r13, .ref r14, .ref r15, .ref r16, .ref r17, .ref r18, .ref r19, .ref r20, .ref r21, .ref r22, .ref r23, .ref r24, .int mba, .int mrb, .int mla, .int mst, .int mgo, .int mdy, .int mpy, .int mrs, .int mhf, .ref r34, .ref r35, .ref r36, .int mwm, .int mwn, .ref r39])), (r21, .inl (cI, 576, .inl f21))] H → va_D A [(m0, .inr (8, [.ref r0, .ref r1, .int mtk, .int mzs, .int mkf, .int mpf, .int mat, .int men, .int mto, .int mnu, .long mnm, .ref r11, .ref r12, .ref r13, .ref r14, .ref r15, .ref r16, .ref r17, .ref r18, .ref r19, .ref r20, .ref r21, .ref r22, .ref r23, .ref r24, .int mba, .int mrb, .int mla, .int mst, .int mgo, .int mdy, .int mpy, .int mrs, .int mhf, .ref r34, .ref r35, .ref r36, .int mwm, .int mwn, .ref r39])), (r21, .inl (cI, 576, .inl f21))] → va_S A s.heap H locs → lv_has ls 5 [(4, .int li1), (0, .ref m0), (1, .int w), (2, .int v), (3, .int g)] → W p l e ({ frames := 1, cells := 0, slots := 0, locals := 23 } : Room) s m ([.ref m0, .int w, .int v, .int g] : List Value).toArray below meth c H locs 0 0 (MQ below (va_Qi (fun (r : Int32) (_ : Unit) => ((-400) ≤ r.toInt ∧ r.toInt ≤ 400) ∧ r.toInt = wnV f21 (288 * mba.toInt + 96 * w.toInt + g.toInt) (v.toInt + 1).toNat) (fun _ t => va_P D vwCl [(m0, .inr (8, [.ref r0, .ref r1, .int mtk, .int mzs, .int mkf, .int mpf, .int mat, .int men, .int mto, .int mnu, .long mnm, .ref r11, .ref r12, .ref r13, .ref r14, .ref r15, .ref r16, .ref r17, .ref r18, .ref r19, .ref r20, .ref r21, .ref r22, .ref r23, .ref r24, .int mba, .int mrb, .int mla, .int mst, .int mgo, .int mdy, .int mpy, .int mrs, .int mhf, .ref r34, .ref r35, .ref r36, .int mwm, .int mwn, .ref r39])), (r21, .inl (cI, 576, .inl f21))] t.heap ∧ va_D A [(m0, .inr (8, [.ref r0, .ref r1, .int mtk, .int mzs, .int mkf, .int mpf, .int mat, .int men, .int mto, .int mnu, .long mnm, .ref r11, .ref r12, .ref r13, .ref r14, .ref r15, .ref r16, .ref r17, .ref r18, .ref r19, .ref r20, .ref r21, .ref r22, .ref r23, .ref r24, .int mba, .int mrb, .int mla, .int mst, .int mgo, .int mdy, .int mpy, .int mrs, .int mhf, .ref r34, .ref r35, .ref r36, .int mwm, .int mwn, .ref r39])), (r21, .inl (cI, 576, .inl f21))]) A) ([.ref m0, .int w, .int v, .int g] : List Value).toArray s 0 0 A) (F0 m 3 ls []) := by
    intro N3
    induction N3 with
    | zero => intro li1 H locs ls hi1 hwv hm9 hP hD hS hl; exact absurd hm9 (Nat.not_lt_zero _)
    | succ N3 ih_N3 => 
      intro li1 H locs ls hi1 hwv hm9 hP hD hS hl
      refine lv_iload hx hb dX8_wind_3 (lv_at hl 0 rfl) ?_
      refine lv_if_lt (tgt := 35) hx hb dX8_wind_5 (by decide) (fun c4 => ?_) (fun c4 => ?_)
      · have tc4 : li1.toInt < 0 := i32_lt c4
        refine lv_iload hx hb dX8_wind_35 (lv_at hl 0 rfl) ?_
        refine lv_if_ge (tgt := 44) hx hb dX8_wind_37 (by decide) (fun h9 => absurd (show 0 ≤ li1.toInt from i32_le h9) (by omega)) (fun c5 => ?_)
        refine lv_iconst (v := 0) hx hb dX8_wind_40 (by decide) ?_
        refine lv_goto (tgt := 60) hx hb dX8_wind_41 (by decide) ?_
        have hP9 := hP.sub (ws' := [(m0, .inr (8, [.ref r0, .ref r1, .int mtk, .int mzs, .int mkf, .int mpf, .int mat, .int men, .int mto, .int mnu, .long mnm, .ref r11, .ref r12, .ref r13, .ref r14, .ref r15, .ref r16, .ref r17, .ref r18, .ref r19, .ref r20, .ref r21, .ref r22, .ref r23, .ref r24, .int mba, .int mrb, .int mla, .int mst, .int mgo, .int mdy, .int mpy, .int mrs, .int mhf, .ref r34, .ref r35, .ref r36, .int mwm, .int mwn, .ref r39])), (r21, .inl (cI, 576, .inl f21))]) [0, 1] rfl
        have hD9 := hD.sub (ws' := [(m0, .inr (8, [.ref r0, .ref r1, .int mtk, .int mzs, .int mkf, .int mpf, .int mat, .int men, .int mto, .int mnu, .long mnm, .ref r11, .ref r12, .ref r13, .ref r14, .ref r15, .ref r16, .ref r17, .ref r18, .ref r19, .ref r20, .ref r21, .ref r22, .ref r23, .ref r24, .int mba, .int mrb, .int mla, .int mst, .int mgo, .int mdy, .int mpy, .int mrs, .int mhf, .ref r34, .ref r35, .ref r36, .int mwm, .int mwn, .ref r39])), (r21, .inl (cI, 576, .inl f21))]) [0, 1] (by decide) rfl
        refine W.widen (k := 0) (n := 0) (by decide) (by decide) ?_
        exact W.iret (v := 0) hx hb hr (fun t ht hW => ⟨⟨0, (), rfl, (⟨by decide, by rw [hwv, wnV_0 (by omega)]; rfl⟩), by rw [ht]; exact hP9, hD9⟩, hS.F ht⟩) hS.2.2 dX8_wind_60
      · have tc4 : ¬ (li1.toInt < 0) := i32_nlt c4
        refine lv_aload_n hx hb dX8_wind_8 rfl (lv_at hl 1 rfl) ?_
        refine va_get (D := D) (ci := 8) (v := .ref r21) (C := RX8) (T := TX8) (N := 40) hx hb hts iw_m_wind_8 hown hK hP 0 rfl rfl 21 (by decide) (hts (.fieldLink RX8 92 "FlightDeskModel" "winds" "[I") (by decide +kernel)) (fun _ h9 => h9) rfl dX8_wind_9 ?_
        refine lv_aload_n hx hb dX8_wind_12 rfl (lv_at hl 1 rfl) ?_
        refine va_get (D := D) (ci := 8) (v := .int mba) (C := RX8) (T := TX8) (N := 40) hx hb hts iw_m_wind_8 hown hK hP 0 rfl rfl 25 (by decide) (hts (.fieldLink RX8 124 "FlightDeskModel" "bank" "I") (by decide +kernel)) (fun _ h9 => h9) rfl dX8_wind_13 ?_
        refine lv_iload_n hx hb dX8_wind_16 rfl (lv_at hl 2 rfl) ?_
        refine lv_iload hx hb dX8_wind_17 (lv_at hl 0 rfl) ?_
        refine lv_iload_n hx hb dX8_wind_19 rfl (lv_at hl 4 rfl) ?_
        have hPc := hP.sub (ws' := []) [] rfl
        have hDc := hD.sub (ws' := []) [] (by decide) rfl
        have hFc := va_free (wc := []) hD hS hA [] rfl
        refine va_calli (va_runS (As := [.int mba, .int w, .int li1, .int g]) (rest := [.ref r21]) ⟨hx, hb, hml, hown, hts⟩ (m_windSpot l D cI cB cP H.size mba w li1 g (show 0 ≤ mba.toInt ∧ mba.toInt ≤ 1000 by first | assumption | omega | decide) (show 0 ≤ w.toInt ∧ w.toInt ≤ 1000 by first | assumption | omega | decide) (show 0 ≤ li1.toInt ∧ li1.toInt ≤ 1000 by first | assumption | omega | decide) (show 0 ≤ g.toInt ∧ g.toInt ≤ 1000 by first | assumption | omega | decide)) (cwS 4 hts gw_m_wind_0 rfl rfl rfl (by decide +kernel) ⟨Nat.le_of_ble_eq_true rfl, Nat.le_of_ble_eq_true rfl⟩) ⟨ny_blind, ny_pre hPc hK hN hDc⟩ rfl rfl hl.1 rfl (lv_room (Nat.le_of_ble_eq_true rfl)) dX8_wind_20 ⟨Nat.le_of_ble_eq_true rfl, Nat.le_of_ble_eq_true rfl⟩) hS (fun q _ h => hFc q h) hFc (fun r6 u t H locs ht hvm hw hB hz1 hk1 hS => ?_)
        obtain ⟨hP, hD⟩ := va_join (wr := [(m0, .inr (8, [.ref r0, .ref r1, .int mtk, .int mzs, .int mkf, .int mpf, .int mat, .int men, .int mto, .int mnu, .long mnm, .ref r11, .ref r12, .ref r13, .ref r14, .ref r15, .ref r16, .ref r17, .ref r18, .ref r19, .ref r20, .ref r21, .ref r22, .ref r23, .ref r24, .int mba, .int mrb, .int mla, .int mst, .int mgo, .int mdy, .int mpy, .int mrs, .int mhf, .ref r34, .ref r35, .ref r36, .int mwm, .int mwn, .ref r39])), (r21, .inl (cI, 576, .inl f21))]) (w1 := []) hP hD [] [0, 1] rfl rfl (by decide) (by decide) hk1 hFc ny_P0 ny_D0
        have hP : va_P D vwCl [(m0, .inr (8, [.ref r0, .ref r1, .int mtk, .int mzs, .int mkf, .int mpf, .int mat, .int men, .int mto, .int mnu, .long mnm, .ref r11, .ref r12, .ref r13, .ref r14, .ref r15, .ref r16, .ref r17, .ref r18, .ref r19, .ref r20, .ref r21, .ref r22, .ref r23, .ref r24, .int mba, .int mrb, .int mla, .int mst, .int mgo, .int mdy, .int mpy, .int mrs, .int mhf, .ref r34, .ref r35, .ref r36, .int mwm, .int mwn, .ref r39])), (r21, .inl (cI, 576, .inl f21))] H := hP
        have hD : va_D A [(m0, .inr (8, [.ref r0, .ref r1, .int mtk, .int mzs, .int mkf, .int mpf, .int mat, .int men, .int mto, .int mnu, .long mnm, .ref r11, .ref r12, .ref r13, .ref r14, .ref r15, .ref r16, .ref r17, .ref r18, .ref r19, .ref r20, .ref r21, .ref r22, .ref r23, .ref r24, .int mba, .int mrb, .int mla, .int mst, .int mgo, .int mdy, .int mpy, .int mrs, .int mhf, .ref r34, .ref r35, .ref r36, .int mwm, .int mwn, .ref r39])), (r21, .inl (cI, 576, .inl f21))] := hD
        have hr6 : r6.toInt = 288 * mba.toInt + (w.toInt * 6 + li1.toInt) * 16 + g.toInt := hw
        refine va_iald hx hb hK hP 1 0 rfl rfl (vp_in_iff.mpr ⟨show 0 ≤ r6.toInt by omega, show r6.toInt < ((576 : Nat) : Int) by omega⟩) dX8_wind_23 ?_
        refine lv_topi (fun v7 ev7 => ?_)
        have tv7 : v7.toInt = (-100000) ∨ ((-400) ≤ v7.toInt ∧ v7.toInt ≤ 400) := by rw [ev7]; exact r218 _ (ck_lt (show 0 ≤ r6.toInt by omega) (show r6.toInt < ((576 : Nat) : Int) by omega))
        have gv7 : v7.toInt = ga f21 (288 * mba.toInt + 96 * w.toInt + g.toInt + 16 * li1.toInt) := ga_at ev7 (show r6.toInt = 288 * mba.toInt + 96 * w.toInt + g.toInt + 16 * li1.toInt by omega)
        refine lv_ldc hx hb hown (hts (.constant RX8 120 (-100000)) (by decide +kernel)) dX8_wind_24 ?_
        refine lv_icmp_ne (tgt := 35) hx hb dX8_wind_26 (by decide) (fun c8 => ?_) (fun c8 => ?_)
        · have tc8 : ¬ (v7.toInt = (-100000)) := i32_neq c8
          refine lv_iload hx hb dX8_wind_35 (lv_at hl 0 rfl) ?_
          refine lv_if_ge (tgt := 44) hx hb dX8_wind_37 (by decide) (fun c9 => ?_) (fun h9 => absurd (show ¬ (0 ≤ li1.toInt) from i32_nle h9) (by omega))
          refine lv_aload_n hx hb dX8_wind_44 rfl (lv_at hl 1 rfl) ?_
          refine va_get (D := D) (ci := 8) (v := .ref r21) (C := RX8) (T := TX8) (N := 40) hx hb hts iw_m_wind_8 hown hK hP 0 rfl rfl 21 (by decide) (hts (.fieldLink RX8 92 "FlightDeskModel" "winds" "[I") (by decide +kernel)) (fun _ h9 => h9) rfl dX8_wind_45 ?_
          refine lv_aload_n hx hb dX8_wind_48 rfl (lv_at hl 1 rfl) ?_
          refine va_get (D := D) (ci := 8) (v := .int mba) (C := RX8) (T := TX8) (N := 40) hx hb hts iw_m_wind_8 hown hK hP 0 rfl rfl 25 (by decide) (hts (.fieldLink RX8 124 "FlightDeskModel" "bank" "I") (by decide +kernel)) (fun _ h9 => h9) rfl dX8_wind_49 ?_
          refine lv_iload_n hx hb dX8_wind_52 rfl (lv_at hl 2 rfl) ?_
          refine lv_iload hx hb dX8_wind_53 (lv_at hl 0 rfl) ?_
          refine lv_iload_n hx hb dX8_wind_55 rfl (lv_at hl 4 rfl) ?_
          have hPc := hP.sub (ws' := []) [] rfl
          have hDc := hD.sub (ws' := []) [] (by decide) rfl
          have hFc := va_free (wc := []) hD hS hA [] rfl
          refine va_calli (va_runS (As := [.int mba, .int w, .int li1, .int g]) (rest := [.ref r21]) ⟨hx, hb, hml, hown, hts⟩ (m_windSpot l D cI cB cP H.size mba w li1 g (show 0 ≤ mba.toInt ∧ mba.toInt ≤ 1000 by first | assumption | omega | decide) (show 0 ≤ w.toInt ∧ w.toInt ≤ 1000 by first | assumption | omega | decide) (show 0 ≤ li1.toInt ∧ li1.toInt ≤ 1000 by first | assumption | omega | decide) (show 0 ≤ g.toInt ∧ g.toInt ≤ 1000 by first | assumption | omega | decide)) (cwS 4 hts gw_m_wind_0 rfl rfl rfl (by decide +kernel) ⟨Nat.le_of_ble_eq_true rfl, Nat.le_of_ble_eq_true rfl⟩) ⟨ny_blind, ny_pre hPc hK hN hDc⟩ rfl rfl hl.1 rfl (lv_room (Nat.le_of_ble_eq_true rfl)) dX8_wind_56 ⟨Nat.le_of_ble_eq_true rfl, Nat.le_of_ble_eq_true rfl⟩) hS (fun q _ h => hFc q h) hFc (fun r10 u t H locs ht hvm hw hB hz1 hk1 hS => ?_)
          obtain ⟨hP, hD⟩ := va_join (wr := [(m0, .inr (8, [.ref r0, .ref r1, .int mtk, .int mzs, .int mkf, .int mpf, .int mat, .int men, .int mto, .int mnu, .long mnm, .ref r11, .ref r12, .ref r13, .ref r14, .ref r15, .ref r16, .ref r17, .ref r18, .ref r19, .ref r20, .ref r21, .ref r22, .ref r23, .ref r24, .int mba, .int mrb, .int mla, .int mst, .int mgo, .int mdy, .int mpy, .int mrs, .int mhf, .ref r34, .ref r35, .ref r36, .int mwm, .int mwn, .ref r39])), (r21, .inl (cI, 576, .inl f21))]) (w1 := []) hP hD [] [0, 1] rfl rfl (by decide) (by decide) hk1 hFc ny_P0 ny_D0
          have hP : va_P D vwCl [(m0, .inr (8, [.ref r0, .ref r1, .int mtk, .int mzs, .int mkf, .int mpf, .int mat, .int men, .int mto, .int mnu, .long mnm, .ref r11, .ref r12, .ref r13, .ref r14, .ref r15, .ref r16, .ref r17, .ref r18, .ref r19, .ref r20, .ref r21, .ref r22, .ref r23, .ref r24, .int mba, .int mrb, .int mla, .int mst, .int mgo, .int mdy, .int mpy, .int mrs, .int mhf, .ref r34, .ref r35, .ref r36, .int mwm, .int mwn, .ref r39])), (r21, .inl (cI, 576, .inl f21))] H := hP
          have hD : va_D A [(m0, .inr (8, [.ref r0, .ref r1, .int mtk, .int mzs, .int mkf, .int mpf, .int mat, .int men, .int mto, .int mnu, .long mnm, .ref r11, .ref r12, .ref r13, .ref r14, .ref r15, .ref r16, .ref r17, .ref r18, .ref r19, .ref r20, .ref r21, .ref r22, .ref r23, .ref r24, .int mba, .int mrb, .int mla, .int mst, .int mgo, .int mdy, .int mpy, .int mrs, .int mhf, .ref r34, .ref r35, .ref r36, .int mwm, .int mwn, .ref r39])), (r21, .inl (cI, 576, .inl f21))] := hD
          have hr10 : r10.toInt = 288 * mba.toInt + (w.toInt * 6 + li1.toInt) * 16 + g.toInt := hw
          refine va_iald hx hb hK hP 1 0 rfl rfl (vp_in_iff.mpr ⟨show 0 ≤ r10.toInt by omega, show r10.toInt < ((576 : Nat) : Int) by omega⟩) dX8_wind_59 ?_
          refine lv_topi (fun v11 ev11 => ?_)
          have tv11 : v11.toInt = (-100000) ∨ ((-400) ≤ v11.toInt ∧ v11.toInt ≤ 400) := by rw [ev11]; exact r218 _ (ck_lt (show 0 ≤ r10.toInt by omega) (show r10.toInt < ((576 : Nat) : Int) by omega))
          have gv11 : v11.toInt = ga f21 (288 * mba.toInt + 96 * w.toInt + g.toInt + 16 * li1.toInt) := ga_at ev11 (show r10.toInt = 288 * mba.toInt + 96 * w.toInt + g.toInt + 16 * li1.toInt by omega)
          have hP9 := hP.sub (ws' := [(m0, .inr (8, [.ref r0, .ref r1, .int mtk, .int mzs, .int mkf, .int mpf, .int mat, .int men, .int mto, .int mnu, .long mnm, .ref r11, .ref r12, .ref r13, .ref r14, .ref r15, .ref r16, .ref r17, .ref r18, .ref r19, .ref r20, .ref r21, .ref r22, .ref r23, .ref r24, .int mba, .int mrb, .int mla, .int mst, .int mgo, .int mdy, .int mpy, .int mrs, .int mhf, .ref r34, .ref r35, .ref r36, .int mwm, .int mwn, .ref r39])), (r21, .inl (cI, 576, .inl f21))]) [0, 1] rfl
          have hD9 := hD.sub (ws' := [(m0, .inr (8, [.ref r0, .ref r1, .int mtk, .int mzs, .int mkf, .int mpf, .int mat, .int men, .int mto, .int mnu, .long mnm, .ref r11, .ref r12, .ref r13, .ref r14, .ref r15, .ref r16, .ref r17, .ref r18, .ref r19, .ref r20, .ref r21, .ref r22, .ref r23, .ref r24, .int mba, .int mrb, .int mla, .int mst, .int mgo, .int mdy, .int mpy, .int mrs, .int mhf, .ref r34, .ref r35, .ref r36, .int mwm, .int mwn, .ref r39])), (r21, .inl (cI, 576, .inl f21))]) [0, 1] (by decide) rfl
          refine W.widen (k := 0) (n := 0) (by decide) (by decide) ?_
          exact W.iret (v := v11) hx hb hr (fun t ht hW => ⟨⟨v11, (), rfl, (⟨by omega, by rw [hwv, wnV_at (by omega) (show ¬ ga f21 (288 * mba.toInt + 96 * w.toInt + g.toInt + 16 * li1.toInt) = (-100000) by omega)]; omega⟩), by rw [ht]; exact hP9, hD9⟩, hS.F ht⟩) hS.2.2 dX8_wind_60
        · have tc8 : v7.toInt = (-100000) := i32_eq c8
          obtain ⟨v12, ev12⟩ : ∃ y : Int32, y = li1 + (-1) := ⟨_, rfl⟩
          have tv12 : v12.toInt = li1.toInt + (-1) := (by have q9 : v12.toInt = (li1.toInt + (-1) + 2147483648) % 4294967296 - 2147483648 := i32_add ev12; omega)
          refine lv_iinc (v := v12) (lv' := [(4, .int v12), (0, .ref m0), (1, .int w), (2, .int v), (3, .int g)]) hx hb dX8_wind_29 hl (k := 0) rfl (by rw [ev12]; rfl) (by decide) rfl (fun ls hl => ?_)
          refine lv_goto (tgt := 3) hx hb dX8_wind_32 (by decide) ?_
          exact ih_N3 v12 _ _ _ (show (-1) ≤ v12.toInt ∧ v12.toInt ≤ 5 by first | assumption | omega | decide) (by rw [show v12.toInt + 1 = li1.toInt by omega]; exact hwv.trans (wnV_un (by omega) (by omega))) (by omega) (hP.sub [0, 1] rfl) (hD.sub [0, 1] (by decide) rfl) hS (lv_sub hl [0, 1, 2, 3, 4] rfl)
  exact loop2 _ v _ _ _ (show (-1) ≤ v.toInt ∧ v.toInt ≤ 5 by first | assumption | omega | decide) (rfl) (Nat.lt_succ_self _) (hP.sub [0, 1] rfl) (hD.sub [0, 1] (by decide) rfl) hS (lv_sub hl [0, 1, 2, 3, 4] rfl)

def wk_m_burn : List Cond := .code yX8_burn cX8_burn 5 (some .int) :: ([.fieldLink RX8 124 "FlightDeskModel" "bank" "I", .fieldLink RX8 95 "FlightDeskModel" "burns" "[I", .constant RX8 120 (-100000)] ++ wsX80)
theorem iw_m_burn_8 : ∀ w ∈ wsX80, w ∈ wk_m_burn := fun _ h => List.mem_cons_of_mem _ (List.mem_append_right _ h)
set_option maxHeartbeats 4000000 in
set_option maxRecDepth 100000 in
theorem m_burn (l : Launch) (D : va_G) (cI cB cP : ClassId) (sz : Nat) (m0 : Nat) (r0 : Nat) (r1 : Nat) (r11 : Nat) (r12 : Nat) (r13 : Nat) (r14 : Nat) (r15 : Nat) (r16 : Nat) (r17 : Nat) (r18 : Nat) (r19 : Nat) (r20 : Nat) (r21 : Nat) (r22 : Nat) (r23 : Nat) (r24 : Nat) (r34 : Nat) (r35 : Nat) (r36 : Nat) (r39 : Nat) (mtk : Int32) (mzs : Int32) (mkf : Int32) (mpf : Int32) (mat : Int32) (men : Int32) (mto : Int32) (mnu : Int32) (mnm : Int64) (mba : Int32) (mrb : Int32) (mla : Int32) (mst : Int32) (mgo : Int32) (mdy : Int32) (mpy : Int32) (mrs : Int32) (mhf : Int32) (mwm : Int32) (mwn : Int32) (v : Int32) (d : Int32) (f22 : Nat → Int32) (hba8 : 0 ≤ mba.toInt ∧ mba.toInt ≤ 1) (hv8 : 0 ≤ v.toInt ∧ v.toInt ≤ 5) (hd8 : 0 ≤ d.toInt ∧ d.toInt ≤ 4) (r228 : ∀ k : Nat, k < 60 → (f22 k).toInt = (-100000) ∨ (1 ≤ (f22 k).toInt ∧ (f22 k).toInt ≤ 9999)) : Met l yX8_burn wk_m_burn ({ frames := 0, cells := 0, slots := 0, locals := 0 } : Room) (va_Pc [.ref m0, .int v, .int d] (Pw D cI cB cP sz [(m0, .inr (8, [.ref r0, .ref r1, .int mtk, .int mzs, .int mkf, .int mpf, .int mat, .int men, .int mto, .int mnu, .long mnm, .ref r11, .ref r12, .ref r13, .ref r14, .ref r15, .ref r16, .ref r17, .ref r18, .ref r19, .ref r20, .ref r21, .ref r22, .ref r23, .ref r24, .int mba, .int mrb, .int mla, .int mst, .int mgo, .int mdy, .int mpy, .int mrs, .int mhf, .ref r34, .ref r35, .ref r36, .int mwm, .int mwn, .ref r39])), (r22, .inl (cI, 60, .inl f22))])) (va_Qi (fun (r : Int32) (_ : Unit) => (1 ≤ r.toInt ∧ r.toInt ≤ 9999) ∧ isB f22 (30 * mba.toInt + 5 * v.toInt) d.toInt r.toInt) (fun _ t => va_P D vwCl [(m0, .inr (8, [.ref r0, .ref r1, .int mtk, .int mzs, .int mkf, .int mpf, .int mat, .int men, .int mto, .int mnu, .long mnm, .ref r11, .ref r12, .ref r13, .ref r14, .ref r15, .ref r16, .ref r17, .ref r18, .ref r19, .ref r20, .ref r21, .ref r22, .ref r23, .ref r24, .int mba, .int mrb, .int mla, .int mst, .int mgo, .int mdy, .int mpy, .int mrs, .int mhf, .ref r34, .ref r35, .ref r36, .int mwm, .int mwn, .ref r39])), (r22, .inl (cI, 60, .inl f22))] t.heap ∧ va_D (va_A [(m0, .inr (8, [.ref r0, .ref r1, .int mtk, .int mzs, .int mkf, .int mpf, .int mat, .int men, .int mto, .int mnu, .long mnm, .ref r11, .ref r12, .ref r13, .ref r14, .ref r15, .ref r16, .ref r17, .ref r18, .ref r19, .ref r20, .ref r21, .ref r22, .ref r23, .ref r24, .int mba, .int mrb, .int mla, .int mst, .int mgo, .int mdy, .int mpy, .int mrs, .int mhf, .ref r34, .ref r35, .ref r36, .int mwm, .int mwn, .ref r39])), (r22, .inl (cI, 60, .inl f22))] sz) [(m0, .inr (8, [.ref r0, .ref r1, .int mtk, .int mzs, .int mkf, .int mpf, .int mat, .int men, .int mto, .int mnu, .long mnm, .ref r11, .ref r12, .ref r13, .ref r14, .ref r15, .ref r16, .ref r17, .ref r18, .ref r19, .ref r20, .ref r21, .ref r22, .ref r23, .ref r24, .int mba, .int mrb, .int mla, .int mst, .int mgo, .int mdy, .int mpy, .int mrs, .int mhf, .ref r34, .ref r35, .ref r36, .int mwm, .int mwn, .ref r39])), (r22, .inl (cI, 60, .inl f22))]) (va_A [(m0, .inr (8, [.ref r0, .ref r1, .int mtk, .int mzs, .int mkf, .int mpf, .int mat, .int men, .int mto, .int mnu, .long mnm, .ref r11, .ref r12, .ref r13, .ref r14, .ref r15, .ref r16, .ref r17, .ref r18, .ref r19, .ref r20, .ref r21, .ref r22, .ref r23, .ref r24, .int mba, .int mrb, .int mla, .int mst, .int mgo, .int mdy, .int mpy, .int mrs, .int mhf, .ref r34, .ref r35, .ref r36, .int mwm, .int mwn, .ref r39])), (r22, .inl (cI, 60, .inl f22))] sz)) 0 0 (va_A [(m0, .inr (8, [.ref r0, .ref r1, .int mtk, .int mzs, .int mkf, .int mpf, .int mat, .int men, .int mto, .int mnu, .long mnm, .ref r11, .ref r12, .ref r13, .ref r14, .ref r15, .ref r16, .ref r17, .ref r18, .ref r19, .ref r20, .ref r21, .ref r22, .ref r23, .ref r24, .int mba, .int mrb, .int mla, .int mst, .int mgo, .int mdy, .int mpy, .int mrs, .int mhf, .ref r34, .ref r35, .ref r36, .int mwm, .int mwn, .ref r39])), (r22, .inl (cI, 60, .inl f22))] sz) := by
  refine Met.ofW (cc := cX8_burn) (maxL := 5) (ret := (some .int)) (by decide) rfl ?_
  intro p e s m args below meth c s₁ B hml hv
  obtain ⟨rfl, hsz, hP, ⟨hK, hN⟩, hD0⟩ := hv
  have hx := B.exec
  have hb := B.bytes
  have hr := B.returns
  have hts := atoms_spec (ws := wk_m_burn) B.pre
  have hown : s.vm.findClass RX8 = some m.cls := findClass_of_methodNamed B.named
  have hlocks := B.notSynchronized
  subst hsz
  have hD := hD0.self (sz := s.heap.size)
  generalize hAe : va_A [(m0, .inr (8, [.ref r0, .ref r1, .int mtk, .int mzs, .int mkf, .int mpf, .int mat, .int men, .int mto, .int mnu, .long mnm, .ref r11, .ref r12, .ref r13, .ref r14, .ref r15, .ref r16, .ref r17, .ref r18, .ref r19, .ref r20, .ref r21, .ref r22, .ref r23, .ref r24, .int mba, .int mrb, .int mla, .int mst, .int mgo, .int mdy, .int mpy, .int mrs, .int mhf, .ref r34, .ref r35, .ref r36, .int mwm, .int mwn, .ref r39])), (r22, .inl (cI, 60, .inl f22))] s.heap.size = A at hD ⊢
  have hA : ∀ q : Nat, s.heap.size ≤ q → A q := fun q h => by rw [← hAe]; exact Or.inr h
  have hS : va_S A s.heap s.heap [] := va_S.rf
  have hP : va_P D vwCl [(m0, .inr (8, [.ref r0, .ref r1, .int mtk, .int mzs, .int mkf, .int mpf, .int mat, .int men, .int mto, .int mnu, .long mnm, .ref r11, .ref r12, .ref r13, .ref r14, .ref r15, .ref r16, .ref r17, .ref r18, .ref r19, .ref r20, .ref r21, .ref r22, .ref r23, .ref r24, .int mba, .int mrb, .int mla, .int mst, .int mgo, .int mdy, .int mpy, .int mrs, .int mhf, .ref r34, .ref r35, .ref r36, .int mwm, .int mwn, .ref r39])), (r22, .inl (cI, 60, .inl f22))] s.heap := hP
  have hl := lv_entry ([.ref m0, .int v, .int d]) (n := 5) (Nat.le_of_ble_eq_true rfl)
  rw [lg_entry_eq]
  generalize (lg_sl ([.ref m0, .int v, .int d]) ++ List.replicate (5 - (lg_sl ([.ref m0, .int v, .int d])).length) Slot.unset).toArray = ls at hl ⊢
  have hl : lv_has ls 5 [(0, .ref m0), (1, .int v), (2, .int d)] := hl
  refine lv_bipush (v := 30) hx hb dX8_burn_0 (by decide) ?_
  refine lv_aload_n hx hb dX8_burn_2 rfl (lv_at hl 0 rfl) ?_
  refine va_get (D := D) (ci := 8) (v := .int mba) (C := RX8) (T := TX8) (N := 40) hx hb hts iw_m_burn_8 hown hK hP 0 rfl rfl 25 (by decide) (hts (.fieldLink RX8 124 "FlightDeskModel" "bank" "I") (by decide +kernel)) (fun _ h9 => h9) rfl dX8_burn_3 ?_
  refine lv_imul hx hb dX8_burn_6 ?_
  refine lv_topi (fun v1 ev1 => ?_)
  have tv1 : v1.toInt = 30 * mba.toInt := (by have q9 : v1.toInt = (30 * mba.toInt + 2147483648) % 4294967296 - 2147483648 := i32_mul ev1; omega)
  refine lv_iconst (v := 5) hx hb dX8_burn_7 (by decide) ?_
  refine lv_iload_n hx hb dX8_burn_8 rfl (lv_at hl 1 rfl) ?_
  refine lv_imul hx hb dX8_burn_9 ?_
  refine lv_topi (fun v2 ev2 => ?_)
  have tv2 : v2.toInt = 5 * v.toInt := (by have q9 : v2.toInt = (5 * v.toInt + 2147483648) % 4294967296 - 2147483648 := i32_mul ev2; omega)
  refine lv_iadd hx hb dX8_burn_10 ?_
  refine lv_topi (fun v3 ev3 => ?_)
  have tv3 : v3.toInt = v1.toInt + v2.toInt := (by have q9 : v3.toInt = (v1.toInt + v2.toInt + 2147483648) % 4294967296 - 2147483648 := i32_add ev3; omega)
  refine lv_istore_n (lv' := [(3, .int v3), (0, .ref m0), (1, .int v), (2, .int d)]) hx hb dX8_burn_11 rfl hl (by decide) rfl (fun ls hl => ?_)
  refine lv_iload_n hx hb dX8_burn_12 rfl (lv_at hl 3 rfl) ?_
  refine lv_istore (lv' := [(4, .int d), (3, .int v3), (0, .ref m0), (1, .int v), (2, .int d)]) hx hb dX8_burn_13 hl (by decide) rfl (fun ls hl => ?_)
  have loop5 : ∀ (N6 : Nat) (li1 : Int32) (H : Heap) (locs : List Loc) (ls : Array Slot), ((-1) ≤ li1.toInt ∧ li1.toInt ≤ d.toInt) → (∀ j : Int, li1.toInt < j → j ≤ d.toInt → ga f22 (30 * mba.toInt + 5 * v.toInt + j) = (-100000)) → (li1.toInt + 1).toNat < N6 → va_P D vwCl [(m0, .inr (8, [.ref r0, .ref r1, .int mtk, .int mzs, .int mkf, .int mpf, .int mat, .int men, .int mto, .int mnu, .long mnm, .ref r11, .ref r12, .ref r13, .ref r14, .ref r15, .ref r16, .ref r17, .ref r18, .ref r19, .ref r20, .ref r21, .ref r22, .ref r23, .ref r24, .int mba, .int mrb, .int mla, .int mst, .int mgo, .int mdy, .int mpy, .int mrs, .int mhf, .ref r34, .ref r35, .ref r36, .int mwm, .int mwn, .ref r39])), (r22, .inl (cI, 60, .inl f22))] H → va_D A [(m0, .inr (8, [.ref r0, .ref r1, .int mtk, .int mzs, .int mkf, .int mpf, .int mat, .int men, .int mto, .int mnu, .long mnm, .ref r11, .ref r12, .ref r13, .ref r14, .ref r15, .ref r16, .ref r17, .ref r18, .ref r19, .ref r20, .ref r21, .ref r22, .ref r23, .ref r24, .int mba, .int mrb, .int mla, .int mst, .int mgo, .int mdy, .int mpy, .int mrs, .int mhf, .ref r34, .ref r35, .ref r36, .int mwm, .int mwn, .ref r39])), (r22, .inl (cI, 60, .inl f22))] → va_S A s.heap H locs → lv_has ls 5 [(4, .int li1), (3, .int v3), (0, .ref m0), (1, .int v), (2, .int d)] → W p l e ({ frames := 0, cells := 0, slots := 0, locals := 0 } : Room) s m ([.ref m0, .int v, .int d] : List Value).toArray below meth c H locs 0 0 (MQ below (va_Qi (fun (r : Int32) (_ : Unit) => (1 ≤ r.toInt ∧ r.toInt ≤ 9999) ∧ isB f22 (30 * mba.toInt + 5 * v.toInt) d.toInt r.toInt) (fun _ t => va_P D vwCl [(m0, .inr (8, [.ref r0, .ref r1, .int mtk, .int mzs, .int mkf, .int mpf, .int mat, .int men, .int mto, .int mnu, .long mnm, .ref r11, .ref r12, .ref r13, .ref r14, .ref r15, .ref r16, .ref r17, .ref r18, .ref r19, .ref r20, .ref r21, .ref r22, .ref r23, .ref r24, .int mba, .int mrb, .int mla, .int mst, .int mgo, .int mdy, .int mpy, .int mrs, .int mhf, .ref r34, .ref r35, .ref r36, .int mwm, .int mwn, .ref r39])), (r22, .inl (cI, 60, .inl f22))] t.heap ∧ va_D A [(m0, .inr (8, [.ref r0, .ref r1, .int mtk, .int mzs, .int mkf, .int mpf, .int mat, .int men, .int mto, .int mnu, .long mnm, .ref r11, .ref r12, .ref r13, .ref r14, .ref r15, .ref r16, .ref r17, .ref r18, .ref r19, .ref r20, .ref r21, .ref r22, .ref r23, .ref r24, .int mba, .int mrb, .int mla, .int mst, .int mgo, .int mdy, .int mpy, .int mrs, .int mhf, .ref r34, .ref r35, .ref r36, .int mwm, .int mwn, .ref r39])), (r22, .inl (cI, 60, .inl f22))]) A) ([.ref m0, .int v, .int d] : List Value).toArray s 0 0 A) (F0 m 15 ls []) := by
    intro N6
    induction N6 with
    | zero => intro li1 H locs ls hi4 hdn hm9 hP hD hS hl; exact absurd hm9 (Nat.not_lt_zero _)
    | succ N6 ih_N6 => 
      intro li1 H locs ls hi4 hdn hm9 hP hD hS hl
      refine lv_iload hx hb dX8_burn_15 (lv_at hl 0 rfl) ?_
      refine lv_if_lt (tgt := 40) hx hb dX8_burn_17 (by decide) (fun c7 => ?_) (fun c7 => ?_)
      · have tc7 : li1.toInt < 0 := i32_lt c7
        refine lv_iload hx hb dX8_burn_40 (lv_at hl 0 rfl) ?_
        refine lv_if_lt (tgt := 55) hx hb dX8_burn_42 (by decide) (fun c8 => ?_) (fun h9 => absurd (show ¬ (li1.toInt < 0) from i32_nlt h9) (by omega))
        refine lv_iload_n hx hb dX8_burn_55 rfl (lv_at hl 4 rfl) ?_
        refine lv_istore (lv' := [(4, .int d), (3, .int v3), (0, .ref m0), (1, .int v), (2, .int d)]) hx hb dX8_burn_56 hl (by decide) rfl (fun ls hl => ?_)
        have loop10 : ∀ (N11 : Nat) (lj1 : Int32) (H : Heap) (locs : List Loc) (ls : Array Slot), (d.toInt ≤ lj1.toInt ∧ lj1.toInt ≤ 5) → (∀ j : Int, d.toInt ≤ j → j < lj1.toInt → ga f22 (30 * mba.toInt + 5 * v.toInt + j) = (-100000)) → (5 - lj1.toInt).toNat < N11 → va_P D vwCl [(m0, .inr (8, [.ref r0, .ref r1, .int mtk, .int mzs, .int mkf, .int mpf, .int mat, .int men, .int mto, .int mnu, .long mnm, .ref r11, .ref r12, .ref r13, .ref r14, .ref r15, .ref r16, .ref r17, .ref r18, .ref r19, .ref r20, .ref r21, .ref r22, .ref r23, .ref r24, .int mba, .int mrb, .int mla, .int mst, .int mgo, .int mdy, .int mpy, .int mrs, .int mhf, .ref r34, .ref r35, .ref r36, .int mwm, .int mwn, .ref r39])), (r22, .inl (cI, 60, .inl f22))] H → va_D A [(m0, .inr (8, [.ref r0, .ref r1, .int mtk, .int mzs, .int mkf, .int mpf, .int mat, .int men, .int mto, .int mnu, .long mnm, .ref r11, .ref r12, .ref r13, .ref r14, .ref r15, .ref r16, .ref r17, .ref r18, .ref r19, .ref r20, .ref r21, .ref r22, .ref r23, .ref r24, .int mba, .int mrb, .int mla, .int mst, .int mgo, .int mdy, .int mpy, .int mrs, .int mhf, .ref r34, .ref r35, .ref r36, .int mwm, .int mwn, .ref r39])), (r22, .inl (cI, 60, .inl f22))] → va_S A s.heap H locs → lv_has ls 5 [(4, .int lj1), (3, .int v3), (0, .ref m0), (1, .int v), (2, .int d)] → W p l e ({ frames := 0, cells := 0, slots := 0, locals := 0 } : Room) s m ([.ref m0, .int v, .int d] : List Value).toArray below meth c H locs 0 0 (MQ below (va_Qi (fun (r : Int32) (_ : Unit) => (1 ≤ r.toInt ∧ r.toInt ≤ 9999) ∧ isB f22 (30 * mba.toInt + 5 * v.toInt) d.toInt r.toInt) (fun _ t => va_P D vwCl [(m0, .inr (8, [.ref r0, .ref r1, .int mtk, .int mzs, .int mkf, .int mpf, .int mat, .int men, .int mto, .int mnu, .long mnm, .ref r11, .ref r12, .ref r13, .ref r14, .ref r15, .ref r16, .ref r17, .ref r18, .ref r19, .ref r20, .ref r21, .ref r22, .ref r23, .ref r24, .int mba, .int mrb, .int mla, .int mst, .int mgo, .int mdy, .int mpy, .int mrs, .int mhf, .ref r34, .ref r35, .ref r36, .int mwm, .int mwn, .ref r39])), (r22, .inl (cI, 60, .inl f22))] t.heap ∧ va_D A [(m0, .inr (8, [.ref r0, .ref r1, .int mtk, .int mzs, .int mkf, .int mpf, .int mat, .int men, .int mto, .int mnu, .long mnm, .ref r11, .ref r12, .ref r13, .ref r14, .ref r15, .ref r16, .ref r17, .ref r18, .ref r19, .ref r20, .ref r21, .ref r22, .ref r23, .ref r24, .int mba, .int mrb, .int mla, .int mst, .int mgo, .int mdy, .int mpy, .int mrs, .int mhf, .ref r34, .ref r35, .ref r36, .int mwm, .int mwn, .ref r39])), (r22, .inl (cI, 60, .inl f22))]) A) ([.ref m0, .int v, .int d] : List Value).toArray s 0 0 A) (F0 m 58 ls []) := by
          intro N11
          induction N11 with
          | zero => intro lj1 H locs ls hi9 hup hm9 hP hD hS hl; exact absurd hm9 (Nat.not_lt_zero _)
          | succ N11 ih_N11 => 
            intro lj1 H locs ls hi9 hup hm9 hP hD hS hl
            refine lv_iload hx hb dX8_burn_58 (lv_at hl 0 rfl) ?_
            refine lv_iconst (v := 5) hx hb dX8_burn_60 (by decide) ?_
            refine lv_icmp_ge (tgt := 84) hx hb dX8_burn_61 (by decide) (fun c12 => ?_) (fun c12 => ?_)
            · have tc12 : 5 ≤ lj1.toInt := i32_le c12
              refine lv_iload hx hb dX8_burn_84 (lv_at hl 0 rfl) ?_
              refine lv_iconst (v := 5) hx hb dX8_burn_86 (by decide) ?_
              refine lv_icmp_ge (tgt := 102) hx hb dX8_burn_87 (by decide) (fun c13 => ?_) (fun h9 => absurd (show ¬ (5 ≤ lj1.toInt) from i32_nle h9) (by omega))
              refine lv_sipush (v := 1000) hx hb dX8_burn_102 (by decide) ?_
              have hP9 := hP.sub (ws' := [(m0, .inr (8, [.ref r0, .ref r1, .int mtk, .int mzs, .int mkf, .int mpf, .int mat, .int men, .int mto, .int mnu, .long mnm, .ref r11, .ref r12, .ref r13, .ref r14, .ref r15, .ref r16, .ref r17, .ref r18, .ref r19, .ref r20, .ref r21, .ref r22, .ref r23, .ref r24, .int mba, .int mrb, .int mla, .int mst, .int mgo, .int mdy, .int mpy, .int mrs, .int mhf, .ref r34, .ref r35, .ref r36, .int mwm, .int mwn, .ref r39])), (r22, .inl (cI, 60, .inl f22))]) [0, 1] rfl
              have hD9 := hD.sub (ws' := [(m0, .inr (8, [.ref r0, .ref r1, .int mtk, .int mzs, .int mkf, .int mpf, .int mat, .int men, .int mto, .int mnu, .long mnm, .ref r11, .ref r12, .ref r13, .ref r14, .ref r15, .ref r16, .ref r17, .ref r18, .ref r19, .ref r20, .ref r21, .ref r22, .ref r23, .ref r24, .int mba, .int mrb, .int mla, .int mst, .int mgo, .int mdy, .int mpy, .int mrs, .int mhf, .ref r34, .ref r35, .ref r36, .int mwm, .int mwn, .ref r39])), (r22, .inl (cI, 60, .inl f22))]) [0, 1] (by decide) rfl
              refine W.widen (k := 0) (n := 0) (by decide) (by decide) ?_
              exact W.iret (v := 1000) hx hb hr (fun t ht hW => ⟨⟨1000, (), rfl, (⟨by decide, Or.inr ⟨fun j h1 h2 => (Decidable.em (j ≤ d.toInt)).elim (fun e9 => hdn j (by omega) e9) (fun e9 => hup j (by omega) (by omega)), rfl⟩⟩), by rw [ht]; exact hP9, hD9⟩, hS.F ht⟩) hS.2.2 dX8_burn_105
            · have tc12 : ¬ (5 ≤ lj1.toInt) := i32_nle c12
              refine lv_aload_n hx hb dX8_burn_64 rfl (lv_at hl 2 rfl) ?_
              refine va_get (D := D) (ci := 8) (v := .ref r22) (C := RX8) (T := TX8) (N := 40) hx hb hts iw_m_burn_8 hown hK hP 0 rfl rfl 22 (by decide) (hts (.fieldLink RX8 95 "FlightDeskModel" "burns" "[I") (by decide +kernel)) (fun _ h9 => h9) rfl dX8_burn_65 ?_
              refine lv_iload_n hx hb dX8_burn_68 rfl (lv_at hl 1 rfl) ?_
              refine lv_iload hx hb dX8_burn_69 (lv_at hl 0 rfl) ?_
              refine lv_iadd hx hb dX8_burn_71 ?_
              refine lv_topi (fun v14 ev14 => ?_)
              have tv14 : v14.toInt = v3.toInt + lj1.toInt := (by have q9 : v14.toInt = (v3.toInt + lj1.toInt + 2147483648) % 4294967296 - 2147483648 := i32_add ev14; omega)
              refine va_iald hx hb hK hP 1 0 rfl rfl (vp_in_iff.mpr ⟨show 0 ≤ v14.toInt by omega, show v14.toInt < ((60 : Nat) : Int) by omega⟩) dX8_burn_72 ?_
              refine lv_topi (fun v15 ev15 => ?_)
              have tv15 : v15.toInt = (-100000) ∨ (1 ≤ v15.toInt ∧ v15.toInt ≤ 9999) := by rw [ev15]; exact r228 _ (ck_lt (show 0 ≤ v14.toInt by omega) (show v14.toInt < ((60 : Nat) : Int) by omega))
              have gv15 : v15.toInt = ga f22 (30 * mba.toInt + 5 * v.toInt + lj1.toInt) := ga_at ev15 (show v14.toInt = 30 * mba.toInt + 5 * v.toInt + lj1.toInt by omega)
              refine lv_ldc hx hb hown (hts (.constant RX8 120 (-100000)) (by decide +kernel)) dX8_burn_73 ?_
              refine lv_icmp_ne (tgt := 84) hx hb dX8_burn_75 (by decide) (fun c16 => ?_) (fun c16 => ?_)
              · have tc16 : ¬ (v15.toInt = (-100000)) := i32_neq c16
                refine lv_iload hx hb dX8_burn_84 (lv_at hl 0 rfl) ?_
                refine lv_iconst (v := 5) hx hb dX8_burn_86 (by decide) ?_
                refine lv_icmp_ge (tgt := 102) hx hb dX8_burn_87 (by decide) (fun h9 => absurd (show 5 ≤ lj1.toInt from i32_le h9) (by omega)) (fun c17 => ?_)
                refine lv_aload_n hx hb dX8_burn_90 rfl (lv_at hl 2 rfl) ?_
                refine va_get (D := D) (ci := 8) (v := .ref r22) (C := RX8) (T := TX8) (N := 40) hx hb hts iw_m_burn_8 hown hK hP 0 rfl rfl 22 (by decide) (hts (.fieldLink RX8 95 "FlightDeskModel" "burns" "[I") (by decide +kernel)) (fun _ h9 => h9) rfl dX8_burn_91 ?_
                refine lv_iload_n hx hb dX8_burn_94 rfl (lv_at hl 1 rfl) ?_
                refine lv_iload hx hb dX8_burn_95 (lv_at hl 0 rfl) ?_
                refine lv_iadd hx hb dX8_burn_97 ?_
                refine lv_topi (fun v18 ev18 => ?_)
                have tv18 : v18.toInt = v3.toInt + lj1.toInt := (by have q9 : v18.toInt = (v3.toInt + lj1.toInt + 2147483648) % 4294967296 - 2147483648 := i32_add ev18; omega)
                refine va_iald hx hb hK hP 1 0 rfl rfl (vp_in_iff.mpr ⟨show 0 ≤ v18.toInt by omega, show v18.toInt < ((60 : Nat) : Int) by omega⟩) dX8_burn_98 ?_
                refine lv_topi (fun v19 ev19 => ?_)
                have tv19 : v19.toInt = (-100000) ∨ (1 ≤ v19.toInt ∧ v19.toInt ≤ 9999) := by rw [ev19]; exact r228 _ (ck_lt (show 0 ≤ v18.toInt by omega) (show v18.toInt < ((60 : Nat) : Int) by omega))
                have gv19 : v19.toInt = ga f22 (30 * mba.toInt + 5 * v.toInt + lj1.toInt) := ga_at ev19 (show v18.toInt = 30 * mba.toInt + 5 * v.toInt + lj1.toInt by omega)
                refine lv_goto (tgt := 105) hx hb dX8_burn_99 (by decide) ?_
                have hP9 := hP.sub (ws' := [(m0, .inr (8, [.ref r0, .ref r1, .int mtk, .int mzs, .int mkf, .int mpf, .int mat, .int men, .int mto, .int mnu, .long mnm, .ref r11, .ref r12, .ref r13, .ref r14, .ref r15, .ref r16, .ref r17, .ref r18, .ref r19, .ref r20, .ref r21, .ref r22, .ref r23, .ref r24, .int mba, .int mrb, .int mla, .int mst, .int mgo, .int mdy, .int mpy, .int mrs, .int mhf, .ref r34, .ref r35, .ref r36, .int mwm, .int mwn, .ref r39])), (r22, .inl (cI, 60, .inl f22))]) [0, 1] rfl
                have hD9 := hD.sub (ws' := [(m0, .inr (8, [.ref r0, .ref r1, .int mtk, .int mzs, .int mkf, .int mpf, .int mat, .int men, .int mto, .int mnu, .long mnm, .ref r11, .ref r12, .ref r13, .ref r14, .ref r15, .ref r16, .ref r17, .ref r18, .ref r19, .ref r20, .ref r21, .ref r22, .ref r23, .ref r24, .int mba, .int mrb, .int mla, .int mst, .int mgo, .int mdy, .int mpy, .int mrs, .int mhf, .ref r34, .ref r35, .ref r36, .int mwm, .int mwn, .ref r39])), (r22, .inl (cI, 60, .inl f22))]) [0, 1] (by decide) rfl
                refine W.widen (k := 0) (n := 0) (by decide) (by decide) ?_
                exact W.iret (v := v19) hx hb hr (fun t ht hW => ⟨⟨v19, (), rfl, (⟨by omega, Or.inl ⟨lj1.toInt, by omega, by omega, by omega, by omega, Or.inr ⟨(Decidable.em (d.toInt = lj1.toInt)).elim (fun e9 => absurd (hdn lj1.toInt (by omega) (by omega)) (by omega)) (fun e9 => by omega), fun j h1 h2 => (Decidable.em (j ≤ d.toInt)).elim (fun e9 => hdn j (by omega) e9) (fun e9 => hup j (by omega) (by omega))⟩⟩⟩), by rw [ht]; exact hP9, hD9⟩, hS.F ht⟩) hS.2.2 dX8_burn_105
              · have tc16 : v15.toInt = (-100000) := i32_eq c16
                obtain ⟨v20, ev20⟩ : ∃ y : Int32, y = lj1 + 1 := ⟨_, rfl⟩
                have tv20 : v20.toInt = lj1.toInt + 1 := (by have q9 : v20.toInt = (lj1.toInt + 1 + 2147483648) % 4294967296 - 2147483648 := i32_add ev20; omega)
                refine lv_iinc (v := v20) (lv' := [(4, .int v20), (3, .int v3), (0, .ref m0), (1, .int v), (2, .int d)]) hx hb dX8_burn_78 hl (k := 0) rfl (by rw [ev20]; rfl) (by decide) rfl (fun ls hl => ?_)
                refine lv_goto (tgt := 58) hx hb dX8_burn_81 (by decide) ?_
                exact ih_N11 v20 _ _ _ (show d.toInt ≤ v20.toInt ∧ v20.toInt ≤ 5 by first | assumption | omega | decide) (fun j h1 h2 => (Decidable.em (j = lj1.toInt)).elim (fun e9 => by rw [e9]; omega) (fun e9 => hup j h1 (by omega))) (by omega) (hP.sub [0, 1] rfl) (hD.sub [0, 1] (by decide) rfl) hS (lv_sub hl [0, 1, 2, 3, 4] rfl)
        exact loop10 _ d _ _ _ (show d.toInt ≤ d.toInt ∧ d.toInt ≤ 5 by first | assumption | omega | decide) (fun j h1 h2 => absurd h2 (by omega)) (Nat.lt_succ_self _) (hP.sub [0, 1] rfl) (hD.sub [0, 1] (by decide) rfl) hS (lv_sub hl [0, 1, 2, 3, 4] rfl)
      · have tc7 : ¬ (li1.toInt < 0) := i32_nlt c7
        refine lv_aload_n hx hb dX8_burn_20 rfl (lv_at hl 2 rfl) ?_
        refine va_get (D := D) (ci := 8) (v := .ref r22) (C := RX8) (T := TX8) (N := 40) hx hb hts iw_m_burn_8 hown hK hP 0 rfl rfl 22 (by decide) (hts (.fieldLink RX8 95 "FlightDeskModel" "burns" "[I") (by decide +kernel)) (fun _ h9 => h9) rfl dX8_burn_21 ?_
        refine lv_iload_n hx hb dX8_burn_24 rfl (lv_at hl 1 rfl) ?_
        refine lv_iload hx hb dX8_burn_25 (lv_at hl 0 rfl) ?_
        refine lv_iadd hx hb dX8_burn_27 ?_
        refine lv_topi (fun v21 ev21 => ?_)
        have tv21 : v21.toInt = v3.toInt + li1.toInt := (by have q9 : v21.toInt = (v3.toInt + li1.toInt + 2147483648) % 4294967296 - 2147483648 := i32_add ev21; omega)
        refine va_iald hx hb hK hP 1 0 rfl rfl (vp_in_iff.mpr ⟨show 0 ≤ v21.toInt by omega, show v21.toInt < ((60 : Nat) : Int) by omega⟩) dX8_burn_28 ?_
        refine lv_topi (fun v22 ev22 => ?_)
        have tv22 : v22.toInt = (-100000) ∨ (1 ≤ v22.toInt ∧ v22.toInt ≤ 9999) := by rw [ev22]; exact r228 _ (ck_lt (show 0 ≤ v21.toInt by omega) (show v21.toInt < ((60 : Nat) : Int) by omega))
        have gv22 : v22.toInt = ga f22 (30 * mba.toInt + 5 * v.toInt + li1.toInt) := ga_at ev22 (show v21.toInt = 30 * mba.toInt + 5 * v.toInt + li1.toInt by omega)
        refine lv_ldc hx hb hown (hts (.constant RX8 120 (-100000)) (by decide +kernel)) dX8_burn_29 ?_
        refine lv_icmp_ne (tgt := 40) hx hb dX8_burn_31 (by decide) (fun c23 => ?_) (fun c23 => ?_)
        · have tc23 : ¬ (v22.toInt = (-100000)) := i32_neq c23
          refine lv_iload hx hb dX8_burn_40 (lv_at hl 0 rfl) ?_
          refine lv_if_lt (tgt := 55) hx hb dX8_burn_42 (by decide) (fun h9 => absurd (show li1.toInt < 0 from i32_lt h9) (by omega)) (fun c24 => ?_)
          refine lv_aload_n hx hb dX8_burn_45 rfl (lv_at hl 2 rfl) ?_
          refine va_get (D := D) (ci := 8) (v := .ref r22) (C := RX8) (T := TX8) (N := 40) hx hb hts iw_m_burn_8 hown hK hP 0 rfl rfl 22 (by decide) (hts (.fieldLink RX8 95 "FlightDeskModel" "burns" "[I") (by decide +kernel)) (fun _ h9 => h9) rfl dX8_burn_46 ?_
          refine lv_iload_n hx hb dX8_burn_49 rfl (lv_at hl 1 rfl) ?_
          refine lv_iload hx hb dX8_burn_50 (lv_at hl 0 rfl) ?_
          refine lv_iadd hx hb dX8_burn_52 ?_
          refine lv_topi (fun v25 ev25 => ?_)
          have tv25 : v25.toInt = v3.toInt + li1.toInt := (by have q9 : v25.toInt = (v3.toInt + li1.toInt + 2147483648) % 4294967296 - 2147483648 := i32_add ev25; omega)
          refine va_iald hx hb hK hP 1 0 rfl rfl (vp_in_iff.mpr ⟨show 0 ≤ v25.toInt by omega, show v25.toInt < ((60 : Nat) : Int) by omega⟩) dX8_burn_53 ?_
          refine lv_topi (fun v26 ev26 => ?_)
          have tv26 : v26.toInt = (-100000) ∨ (1 ≤ v26.toInt ∧ v26.toInt ≤ 9999) := by rw [ev26]; exact r228 _ (ck_lt (show 0 ≤ v25.toInt by omega) (show v25.toInt < ((60 : Nat) : Int) by omega))
          have gv26 : v26.toInt = ga f22 (30 * mba.toInt + 5 * v.toInt + li1.toInt) := ga_at ev26 (show v25.toInt = 30 * mba.toInt + 5 * v.toInt + li1.toInt by omega)
          have hP9 := hP.sub (ws' := [(m0, .inr (8, [.ref r0, .ref r1, .int mtk, .int mzs, .int mkf, .int mpf, .int mat, .int men, .int mto, .int mnu, .long mnm, .ref r11, .ref r12, .ref r13, .ref r14, .ref r15, .ref r16, .ref r17, .ref r18, .ref r19, .ref r20, .ref r21, .ref r22, .ref r23, .ref r24, .int mba, .int mrb, .int mla, .int mst, .int mgo, .int mdy, .int mpy, .int mrs, .int mhf, .ref r34, .ref r35, .ref r36, .int mwm, .int mwn, .ref r39])), (r22, .inl (cI, 60, .inl f22))]) [0, 1] rfl
          have hD9 := hD.sub (ws' := [(m0, .inr (8, [.ref r0, .ref r1, .int mtk, .int mzs, .int mkf, .int mpf, .int mat, .int men, .int mto, .int mnu, .long mnm, .ref r11, .ref r12, .ref r13, .ref r14, .ref r15, .ref r16, .ref r17, .ref r18, .ref r19, .ref r20, .ref r21, .ref r22, .ref r23, .ref r24, .int mba, .int mrb, .int mla, .int mst, .int mgo, .int mdy, .int mpy, .int mrs, .int mhf, .ref r34, .ref r35, .ref r36, .int mwm, .int mwn, .ref r39])), (r22, .inl (cI, 60, .inl f22))]) [0, 1] (by decide) rfl
          refine W.widen (k := 0) (n := 0) (by decide) (by decide) ?_
          exact W.iret (v := v26) hx hb hr (fun t ht hW => ⟨⟨v26, (), rfl, (⟨by omega, Or.inl ⟨li1.toInt, by omega, by omega, by omega, by omega, Or.inl ⟨by omega, fun j h1 h2 => hdn j h1 h2⟩⟩⟩), by rw [ht]; exact hP9, hD9⟩, hS.F ht⟩) hS.2.2 dX8_burn_54
        · have tc23 : v22.toInt = (-100000) := i32_eq c23
          obtain ⟨v27, ev27⟩ : ∃ y : Int32, y = li1 + (-1) := ⟨_, rfl⟩
          have tv27 : v27.toInt = li1.toInt + (-1) := (by have q9 : v27.toInt = (li1.toInt + (-1) + 2147483648) % 4294967296 - 2147483648 := i32_add ev27; omega)
          refine lv_iinc (v := v27) (lv' := [(4, .int v27), (3, .int v3), (0, .ref m0), (1, .int v), (2, .int d)]) hx hb dX8_burn_34 hl (k := 0) rfl (by rw [ev27]; rfl) (by decide) rfl (fun ls hl => ?_)
          refine lv_goto (tgt := 15) hx hb dX8_burn_37 (by decide) ?_
          exact ih_N6 v27 _ _ _ (show (-1) ≤ v27.toInt ∧ v27.toInt ≤ d.toInt by first | assumption | omega | decide) (fun j h1 h2 => (Decidable.em (j = li1.toInt)).elim (fun e9 => by rw [e9]; omega) (fun e9 => hdn j (by omega) h2)) (by omega) (hP.sub [0, 1] rfl) (hD.sub [0, 1] (by decide) rfl) hS (lv_sub hl [0, 1, 2, 3, 4] rfl)
  exact loop5 _ d _ _ _ (show (-1) ≤ d.toInt ∧ d.toInt ≤ d.toInt by first | assumption | omega | decide) (fun j h1 h2 => absurd h2 (by omega)) (Nat.lt_succ_self _) (hP.sub [0, 1] rfl) (hD.sub [0, 1] (by decide) rfl) hS (lv_sub hl [0, 1, 2, 3, 4] rfl)
