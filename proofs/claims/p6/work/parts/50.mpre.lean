-- the reference: its arrays as rows of whole numbers
theorem i32_and255 {v x : Int32} (h : v = x &&& 255) : 0 ≤ v.toInt ∧ v.toInt ≤ 255 := by
  obtain ⟨j, h1, h2⟩ := pk_andE x (m := 255) 8 (by decide)
  rw [h, h2, nI_toInt (by omega)]
  omega
def ga (f : Nat → Int32) (z : Int) : Int := (f z.toNat).toInt
theorem ga_ld {f : Nat → Int32} {v i : Int32} (h : v = f i.toNatClampNeg) : v.toInt = ga f i.toInt := by rw [h]; rfl
theorem ga_at {f : Nat → Int32} {v i : Int32} {z : Int} (h : v = f i.toNatClampNeg) (hi : i.toInt = z) : v.toInt = ga f z := by rw [← hi]; exact ga_ld h
theorem ga_us {f : Nat → Int32} {i x : Int32} {z : Int} (h : i.toInt = z) : ga (upd f i.toNatClampNeg x) z = x.toInt := by
  subst h
  show (upd f i.toNatClampNeg x i.toNatClampNeg).toInt = x.toInt
  rw [pk_us]
theorem ga_un {f : Nat → Int32} {i x : Int32} {z : Int} (h0 : 0 ≤ z) (h1 : 0 ≤ i.toInt) (h : ¬ z = i.toInt) : ga (upd f i.toNatClampNeg x) z = ga f z := by
  have e : z.toNat ≠ i.toNatClampNeg := by
    show z.toNat ≠ i.toInt.toNat
    omega
  show (upd f i.toNatClampNeg x z.toNat).toInt = _
  rw [pk_un e]
  rfl
theorem ga_rg {f : Nat → Int32} {P : Int → Prop} {n : Nat} (h : ∀ k : Nat, k < n → P ((f k).toInt)) {z : Int} (h0 : 0 ≤ z) (h1 : z < (n : Int)) : P (ga f z) := h z.toNat (by omega)
def rowOK (f : Nat → Int32) (r : Int) : Prop := ∀ i j : Int, 0 ≤ i → i < j → j < 5 → ¬ ga f (r + i) = (-100000) → ¬ ga f (r + j) = (-100000) → ga f (r + i) ≤ ga f (r + j)
def milOK (f12 f15 : Nat → Int32) (bb : Int) : Prop := ∀ k : Int, 0 ≤ k → k < ga f12 bb → 1 ≤ ga f15 (16 * bb + k)
theorem rowOK_same {f g : Nat → Int32} {r : Int} (h : ∀ i : Int, 0 ≤ i → i < 5 → ga g (r + i) = ga f (r + i)) (q : rowOK f r) : rowOK g r := fun i j h1 h2 h3 h4 h5 => by
  rw [h i h1 (by omega)] at h4 ⊢
  rw [h j (by omega) h3] at h5 ⊢
  exact q i j h1 h2 h3 h4 h5
theorem rowOK_un {f : Nat → Int32} {r : Int} (h : ∀ i : Int, 0 ≤ i → i < 5 → ga f (r + i) = (-100000)) : rowOK f r := fun i j h1 h2 h3 h4 _ => absurd (h i h1 (by omega)) h4
/-- a burn put in its place in a row -/
theorem rowOK_put {f : Nat → Int32} {i x : Int32} {r b lo hi : Int} (h0 : 0 ≤ r) (hi0 : i.toInt = r + b) (hb : 0 ≤ b ∧ b < 5) (hlo : ∀ j : Int, 0 ≤ j → j < b → ¬ ga f (r + j) = (-100000) → ga f (r + j) ≤ lo) (hhi : ∀ j : Int, b < j → j < 5 → ¬ ga f (r + j) = (-100000) → hi ≤ ga f (r + j)) (h1 : lo ≤ x.toInt) (h2 : x.toInt ≤ hi) (q : rowOK f r) : rowOK (upd f i.toNatClampNeg x) r := fun a c ha hac hc n1 n2 => by
  rcases Decidable.em (a = b) with e1 | e1
  · subst e1
    rw [ga_us hi0] at n1 ⊢
    rw [ga_un (by omega) (by omega) (by omega)] at n2 ⊢
    exact Int.le_trans h2 (hhi c hac hc n2)
  · rw [ga_un (by omega) (by omega) (by omega)] at n1 ⊢
    rcases Decidable.em (c = b) with e2 | e2
    · subst e2
      rw [ga_us hi0] at n2 ⊢
      exact Int.le_trans (hlo a ha hac n1) h1
    · rw [ga_un (by omega) (by omega) (by omega)] at n2 ⊢
      exact q a c ha hac hc n1 n2
theorem rowOK_off {f : Nat → Int32} {i x : Int32} {r : Int} (h0 : 0 ≤ r) (h1 : 0 ≤ i.toInt) (h : i.toInt < r ∨ r + 5 ≤ i.toInt) (q : rowOK f r) : rowOK (upd f i.toNatClampNeg x) r := rowOK_same (fun j h2 h3 => ga_un (by omega) h1 (by omega)) q
/-- an implication that is used by hand alone -/
def imp9 (P Q : Prop) : Prop := P → Q

theorem lgc0 {v : Int32} {x y : Int64} (e : v = lg_cmp x y) (h : v.toInt = 0) : x = y := by
  by_cases h1 : y < x
  · have q : lg_cmp x y = 1 := by simp [lg_cmp, h1]
    rw [e, q] at h
    exact absurd h (by decide)
  · by_cases h2 : x = y
    · exact h2
    · have q : lg_cmp x y = -1 := by simp [lg_cmp, h1, h2]
      rw [e, q] at h
      exact absurd h (by decide)
theorem lgc1 {v : Int32} {x y : Int64} (e : v = lg_cmp x y) (h : ¬ v.toInt = 0) : ¬ x = y := fun h2 => by
  subst h2
  have q : lg_cmp x x = 0 := by simp [lg_cmp]
  rw [e, q] at h
  exact h rfl
theorem mil_off {f12 f15 : Nat → Int32} {i x : Int32} {rb bb : Int} (hbb : 0 ≤ bb ∧ bb ≤ 1) (hrb : 0 ≤ rb ∧ rb ≤ 1) (hr : ∀ k : Nat, k < 2 → 0 ≤ (f12 k).toInt ∧ (f12 k).toInt ≤ 16) (hn : ga f12 rb ≤ 15) (hi : i.toInt = 16 * rb + ga f12 rb) (h : milOK f12 f15 bb) : milOK f12 (upd f15 i.toNatClampNeg x) bb := fun k h1 h2 => by
  have q1 : 0 ≤ ga f12 bb ∧ ga f12 bb ≤ 16 := ga_rg (P := fun z => 0 ≤ z ∧ z ≤ 16) hr (by omega) (by omega)
  have q2 : 0 ≤ ga f12 rb ∧ ga f12 rb ≤ 16 := ga_rg (P := fun z => 0 ≤ z ∧ z ≤ 16) hr (by omega) (by omega)
  have q3 : ¬ 16 * bb + k = i.toInt := by
    rcases (show bb = rb ∨ ¬ bb = rb by omega) with e | e
    · subst e
      omega
    · omega
  rw [ga_un (by omega) (by omega) q3]
  exact h k h1 h2
theorem mil_inc {f12 f15 : Nat → Int32} {i x j y : Int32} {rb bb : Int} (hbb : 0 ≤ bb ∧ bb ≤ 1) (hrb : 0 ≤ rb ∧ rb ≤ 1) (hr : ∀ k : Nat, k < 2 → 0 ≤ (f12 k).toInt ∧ (f12 k).toInt ≤ 16) (hn : ga f12 rb ≤ 15) (hi : i.toInt = 16 * rb + ga f12 rb) (hx : 1 ≤ x.toInt) (hj : j.toInt = rb) (hy : y.toInt = ga f12 rb + 1) (h : milOK f12 f15 bb) : milOK (upd f12 j.toNatClampNeg y) (upd f15 i.toNatClampNeg x) bb := fun k h1 h2 => by
  rcases (show (bb = rb ∧ k = ga f12 rb) ∨ ¬ (bb = rb ∧ k = ga f12 rb) by omega) with ⟨e1, e2⟩ | e
  · rw [ga_us (show i.toInt = 16 * bb + k by rw [e1, e2]; exact hi)]
    exact hx
  · refine mil_off hbb hrb hr hn hi h k h1 ?_
    rcases Decidable.em (bb = rb) with e1 | e1
    · subst e1
      rw [ga_us hj] at h2
      omega
    · rw [ga_un (by omega) (by omega) (by omega)] at h2
      exact h2
