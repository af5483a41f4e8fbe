-- what the reference's reckonings mean, in whole numbers
def dft (f : Nat → Int32) (z d : Int) : Int := if ga f z = (-100000) then d else ga f z
theorem dft_un {f : Nat → Int32} {z d : Int} (h : ga f z = (-100000)) : dft f z d = d := if_pos h
theorem dft_at {f : Nat → Int32} {z d : Int} (h : ¬ ga f z = (-100000)) : dft f z d = ga f z := if_neg h
def wnV (f : Nat → Int32) (base : Int) : Nat → Int
  | 0 => 0
  | n + 1 => if ga f (base + 16 * (n : Int)) = (-100000) then wnV f base n else ga f (base + 16 * (n : Int))
theorem wnV_un {f : Nat → Int32} {base l : Int} (h : 0 ≤ l) (e : ga f (base + 16 * l) = (-100000)) : wnV f base (l + 1).toNat = wnV f base l.toNat := by
  have e1 : (l + 1).toNat = l.toNat + 1 := by omega
  have e2 : ((l.toNat : Nat) : Int) = l := by omega
  rw [e1]
  show (if ga f (base + 16 * ((l.toNat : Nat) : Int)) = (-100000) then _ else _) = _
  rw [e2, if_pos e]
theorem wnV_at {f : Nat → Int32} {base l : Int} (h : 0 ≤ l) (e : ¬ ga f (base + 16 * l) = (-100000)) : wnV f base (l + 1).toNat = ga f (base + 16 * l) := by
  have e1 : (l + 1).toNat = l.toNat + 1 := by omega
  have e2 : ((l.toNat : Nat) : Int) = l := by omega
  rw [e1]
  show (if ga f (base + 16 * ((l.toNat : Nat) : Int)) = (-100000) then _ else _) = _
  rw [e2, if_neg e]
theorem wnV_0 {f : Nat → Int32} {base l : Int} (h : l < 0) : wnV f base (l + 1).toNat = 0 := by
  have e1 : (l + 1).toNat = 0 := by omega
  rw [e1]
  rfl
/-- the minutes of a leg on a level in a world, or -1 -/
def tkV (f15 f16 f17 f18 f19 f20 f21 : Nat → Int32) (ba dy wd leg lv : Int) : Int :=
  if dft f20 (6 * ba + lv) 400 + wnV f21 (288 * ba + 96 * wd + leg) (lv + 1).toNat < 50 ∨ lv < ga f16 (16 * ba + leg) ∨ ga f17 (16 * ba + leg) < lv ∨ dy < ga f18 (16 * ba + leg) ∨ ga f19 (16 * ba + leg) < dy then -1
  else (ga f15 (16 * ba + leg) * 60 + (dft f20 (6 * ba + lv) 400 + wnV f21 (288 * ba + 96 * wd + leg) (lv + 1).toNat) - 1) / (dft f20 (6 * ba + lv) 400 + wnV f21 (288 * ba + 96 * wd + leg) (lv + 1).toNat)
theorem tkV_no {f15 f16 f17 f18 f19 f20 f21 : Nat → Int32} {ba dy wd leg lv by_ : Int} (hb : by_ = dft f20 (6 * ba + lv) 400 + wnV f21 (288 * ba + 96 * wd + leg) (lv + 1).toNat) (h : by_ < 50 ∨ lv < ga f16 (16 * ba + leg) ∨ ga f17 (16 * ba + leg) < lv ∨ dy < ga f18 (16 * ba + leg) ∨ ga f19 (16 * ba + leg) < dy) : tkV f15 f16 f17 f18 f19 f20 f21 ba dy wd leg lv = -1 := by
  subst hb
  exact if_pos h
theorem tkV_yes {f15 f16 f17 f18 f19 f20 f21 : Nat → Int32} {ba dy wd leg lv by_ : Int} (hb : by_ = dft f20 (6 * ba + lv) 400 + wnV f21 (288 * ba + 96 * wd + leg) (lv + 1).toNat) (h : ¬ (by_ < 50 ∨ lv < ga f16 (16 * ba + leg) ∨ ga f17 (16 * ba + leg) < lv ∨ dy < ga f18 (16 * ba + leg) ∨ ga f19 (16 * ba + leg) < dy)) : tkV f15 f16 f17 f18 f19 f20 f21 ba dy wd leg lv = (ga f15 (16 * ba + leg) * 60 + by_ - 1) / by_ := by
  subst hb
  exact if_neg h
def isB (f : Nat → Int32) (row band r : Int) : Prop := (∃ p : Int, 0 ≤ p ∧ p < 5 ∧ ¬ ga f (row + p) = (-100000) ∧ r = ga f (row + p) ∧ ((p ≤ band ∧ ∀ j : Int, p < j → j ≤ band → ga f (row + j) = (-100000)) ∨ (band < p ∧ ∀ j : Int, 0 ≤ j → j < p → ga f (row + j) = (-100000)))) ∨ ((∀ j : Int, 0 ≤ j → j < 5 → ga f (row + j) = (-100000)) ∧ r = 1000)
theorem isB_mono {f : Nat → Int32} {row b1 b2 r1 r2 : Int} (hr : rowOK f row) (hb : b1 ≤ b2) (h1 : isB f row b1 r1) (h2 : isB f row b2 r2) : r1 ≤ r2 := by
  rcases h1 with ⟨p, p0, p5, pt, rfl, pc⟩ | ⟨hu, rfl⟩
  · rcases h2 with ⟨q, q0, q5, qt, rfl, qc⟩ | ⟨hu2, _⟩
    · have hpq : p ≤ q := by
        by_cases hlt : q < p
        · exfalso
          rcases pc with ⟨pb, pu⟩ | ⟨pb, pu⟩
          · rcases qc with ⟨qb, qu⟩ | ⟨qb, qu⟩
            · exact pt (qu p hlt (by omega))
            · omega
          · exact qt (pu q q0 hlt)
        · omega
      by_cases e : p = q
      · subst e
        exact Int.le_refl _
      · exact hr p q p0 (by omega) q5 pt qt
    · exact absurd (hu2 p p0 p5) pt
  · rcases h2 with ⟨q, q0, q5, qt, _, _⟩ | ⟨_, rfl⟩
    · exact absurd (hu q q0 q5) qt
    · exact Int.le_refl _
/-- the fuel of a leg of so many minutes on a level, so much left -/
def isBt (f22 f24 : Nat → Int32) (ba py mi lv le r : Int) : Prop := ∃ bd bv : Int, ((bd < 4 ∧ bd = (dft f24 (4 * ba + 3) 0 + py + le) / 1000) ∨ (bd = 4 ∧ 4 ≤ (dft f24 (4 * ba + 3) 0 + py + le) / 1000)) ∧ isB f22 (30 * ba + 5 * lv) bd bv ∧ 1 ≤ bv ∧ r = (mi * bv + 59) / 60
theorem isBt_mono {f22 f24 : Nat → Int32} {ba py mi lv le1 le2 r1 r2 : Int} (hr : rowOK f22 (30 * ba + 5 * lv)) (hm : 0 ≤ mi) (hl : le1 ≤ le2) (h1 : isBt f22 f24 ba py mi lv le1 r1) (h2 : isBt f22 f24 ba py mi lv le2 r2) : r1 ≤ r2 := by
  obtain ⟨d1, v1, a1, b1, c1, e1⟩ := h1
  obtain ⟨d2, v2, a2, b2, c2, e2⟩ := h2
  generalize dft f24 (4 * ba + 3) 0 = w at a1 a2
  have hd : d1 ≤ d2 := by omega
  have hv : v1 ≤ v2 := isB_mono hr hd b1 b2
  have hp : mi * v1 ≤ mi * v2 := Int.mul_le_mul_of_nonneg_left hv hm
  generalize mi * v1 = x at hp e1
  generalize mi * v2 = y at hp e2
  omega
theorem isBt_pos {f22 f24 : Nat → Int32} {ba py mi lv le r : Int} (hm : 1 ≤ mi) (h : isBt f22 f24 ba py mi lv le r) : 1 ≤ r := by
  obtain ⟨d, v, a, b, c, e⟩ := h
  have hp : 1 * 1 ≤ mi * v := Int.mul_le_mul hm c (by omega) (by omega)
  generalize mi * v = x at hp e
  omega
theorem i32_mule {v x y : Int32} {a b : Int} (h : v = x * y) (h1 : 0 ≤ x.toInt) (h2 : x.toInt ≤ a) (h3 : 0 ≤ y.toInt) (h4 : y.toInt ≤ b) (h5 : a * b < 2147483648) : v.toInt = x.toInt * y.toInt ∧ 0 ≤ v.toInt ∧ v.toInt ≤ a * b := by
  have e := i32_mul h
  have p1 : 0 ≤ x.toInt * y.toInt := Int.mul_nonneg h1 h3
  have p2 : x.toInt * y.toInt ≤ a * b := Int.mul_le_mul h2 h4 h3 (Int.le_trans h1 h2)
  generalize x.toInt * y.toInt = z at e p1 p2 ⊢
  generalize a * b = w at h5 p2 ⊢
  omega
-- climbs
def Hc (f : Nat → Int32) (ba : Int) : Nat → Int
  | 0 => 0
  | n + 1 => Hc f ba n + dft f (6 * ba + (n : Int)) 0
def clOK (f : Nat → Int32) (ba : Int) : Prop := ∀ l : Int, 0 ≤ l → l < 6 → 0 ≤ dft f (6 * ba + l) 0 ∧ dft f (6 * ba + l) 0 ≤ 999
theorem clOK_of {f : Nat → Int32} {ba : Int} (hb : 0 ≤ ba ∧ ba ≤ 1) (h : ∀ k : Nat, k < 12 → (f k).toInt = (-100000) ∨ (0 ≤ (f k).toInt ∧ (f k).toInt ≤ 999)) : clOK f ba := fun l h0 h1 => by
  have q := ga_rg (P := fun z => z = (-100000) ∨ (0 ≤ z ∧ z ≤ 999)) h (z := 6 * ba + l) (by omega) (by omega)
  by_cases e : ga f (6 * ba + l) = (-100000)
  · rw [dft_un e]
    omega
  · rw [dft_at e]
    omega
theorem Hc_step {f : Nat → Int32} {ba l : Int} (h : 0 ≤ l) : Hc f ba (l + 1).toNat = Hc f ba l.toNat + dft f (6 * ba + l) 0 := by
  have e1 : (l + 1).toNat = l.toNat + 1 := by omega
  have e2 : ((l.toNat : Nat) : Int) = l := by omega
  rw [e1]
  show Hc f ba l.toNat + dft f (6 * ba + ((l.toNat : Nat) : Int)) 0 = _
  rw [e2]
theorem Hc_inc {f : Nat → Int32} {ba : Int} (hc : clOK f ba) (n : Nat) (hn : n < 6) : Hc f ba n ≤ Hc f ba (n + 1) ∧ Hc f ba (n + 1) ≤ Hc f ba n + 999 := by
  have q := hc (n : Int) (by omega) (by omega)
  have e : Hc f ba (n + 1) = Hc f ba n + dft f (6 * ba + (n : Int)) 0 := rfl
  omega
theorem Hc_mono {f : Nat → Int32} {ba : Int} (hc : clOK f ba) : ∀ (d n : Nat), n + d ≤ 6 → Hc f ba n ≤ Hc f ba (n + d) ∧ Hc f ba (n + d) ≤ Hc f ba n + 999 * (d : Int) := by
  intro d
  induction d with
  | zero => intro n _; exact ⟨Int.le_refl _, by simp⟩
  | succ d ih =>
    intro n h
    have q1 := ih n (by omega)
    have q2 := Hc_inc hc (n + d) (by omega)
    have e : n + (d + 1) = (n + d) + 1 := rfl
    rw [e]
    omega
/-- the height of a level, the ground being -1 -/
def Hl (f : Nat → Int32) (ba x : Int) : Int := Hc f ba (x + 1).toNat
def cTo (f : Nat → Int32) (ba x y : Int) : Int := if x < y then Hl f ba y - Hl f ba x else 0
theorem Hl_mono {f : Nat → Int32} {ba x y : Int} (hc : clOK f ba) (hx : (-1) ≤ x) (hxy : x ≤ y) (hy : y ≤ 5) : Hl f ba x ≤ Hl f ba y ∧ Hl f ba y ≤ Hl f ba x + 5994 := by
  have q := Hc_mono hc (y - x).toNat (x + 1).toNat (by omega)
  have e : (x + 1).toNat + (y - x).toNat = (y + 1).toNat := by omega
  rw [e] at q
  show Hc f ba (x + 1).toNat ≤ Hc f ba (y + 1).toNat ∧ Hc f ba (y + 1).toNat ≤ Hc f ba (x + 1).toNat + 5994
  omega
theorem cTo_sp {f : Nat → Int32} {ba x y : Int} (hc : clOK f ba) (hx : (-1) ≤ x ∧ x ≤ 5) (hy : (-1) ≤ y ∧ y ≤ 5) : 0 ≤ cTo f ba x y ∧ cTo f ba x y ≤ 5994 ∧ Hl f ba y - Hl f ba x ≤ cTo f ba x y ∧ (cTo f ba x y = Hl f ba y - Hl f ba x ∨ cTo f ba x y = 0) := by
  by_cases h : x < y
  · have e : cTo f ba x y = Hl f ba y - Hl f ba x := if_pos h
    have q := Hl_mono hc hx.1 (Int.le_of_lt h) hy.2
    rw [e]
    omega
  · have e : cTo f ba x y = 0 := if_neg h
    have q := Hl_mono (x := y) (y := x) hc hy.1 (by omega) hx.2
    rw [e]
    omega
-- the least fuel from a point and level
def isN (lm : Int) (f13 f23 g : Nat → Int32) (ba pt lv r : Int) : Prop := (0 ≤ r ∧ r ≤ 1000000000) ∧ (∀ k l : Int, 0 ≤ k → k < lm → 0 ≤ l → l < 6 → ga f13 (16 * ba + k) = pt → ¬ ga g (6 * k + l) = 1000000000 → r ≤ cTo f23 ba lv l + ga g (6 * k + l)) ∧ (¬ r = 1000000000 → ∃ k l : Int, 0 ≤ k ∧ k < lm ∧ 0 ≤ l ∧ l < 6 ∧ ga f13 (16 * ba + k) = pt ∧ ¬ ga g (6 * k + l) = 1000000000 ∧ r = cTo f23 ba lv l + ga g (6 * k + l))
theorem isN_le {lm : Int} {f13 f23 g : Nat → Int32} {ba pt lv r1 r2 : Int} (h1 : isN lm f13 f23 g ba pt lv r1) (h2 : isN lm f13 f23 g ba pt lv r2) : r1 ≤ r2 := by
  by_cases e : r2 = 1000000000
  · have := h1.1.2
    omega
  · obtain ⟨k, l, a, b, c, d, p, q, hr⟩ := h2.2.2 e
    rw [hr]
    exact h1.2.1 k l a b c d p q
theorem isN_eq {lm : Int} {f13 f23 g : Nat → Int32} {ba pt lv r1 r2 : Int} (h1 : isN lm f13 f23 g ba pt lv r1) (h2 : isN lm f13 f23 g ba pt lv r2) : r1 = r2 := Int.le_antisymm (isN_le h1 h2) (isN_le h2 h1)
theorem isN_ex {lm : Int} {f13 f23 g : Nat → Int32} {ba pt lv : Int} (hc : clOK f23 ba) (hlv : (-1) ≤ lv ∧ lv ≤ 5) (hg : ∀ z : Int, 0 ≤ z → z < 96 → 0 ≤ ga g z ∧ ga g z ≤ 1000000000) (hlm : lm ≤ 16) : ∃ r : Int, isN lm f13 f23 g ba pt lv r := by
  obtain ⟨n, hn, hl⟩ := pk_least (fun n : Nat => (n : Int) = 1000000000 ∨ ∃ k l : Int, 0 ≤ k ∧ k < lm ∧ 0 ≤ l ∧ l < 6 ∧ ga f13 (16 * ba + k) = pt ∧ ¬ ga g (6 * k + l) = 1000000000 ∧ (n : Int) = cTo f23 ba lv l + ga g (6 * k + l)) ⟨1000000000, Or.inl rfl⟩
  refine ⟨(n : Int), ⟨by omega, ?_⟩, fun k l a b c d p q => ?_, fun h => ?_⟩
  · by_cases h : 1000000000 < n
    · exact absurd (Or.inl rfl) (hl 1000000000 h)
    · omega
  · have q1 := hg (6 * k + l) (by omega) (by omega)
    have q2 := cTo_sp (f := f23) (ba := ba) (x := lv) (y := l) hc hlv (by omega)
    by_cases h : (cTo f23 ba lv l + ga g (6 * k + l)).toNat < n
    · exact absurd (Or.inr ⟨k, l, a, b, c, d, p, q, by omega⟩) (hl _ h)
    · omega
  · rcases hn with hn | hn
    · exact absurd hn h
    · exact hn

theorem fb_holes : ∀ (m n : Nat) (f : Nat → Nat), (∀ i, i < n → f i < m) → (∀ i j, i < j → j < n → f i ≠ f j) → n ≤ m := by
  intro m
  induction m with
  | zero =>
    intro n f h1 _
    rcases Nat.eq_zero_or_pos n with h | h
    · omega
    · exact absurd (h1 0 h) (Nat.not_lt_zero _)
  | succ m ih =>
    intro n f h1 h2
    by_cases hx : ∃ i, i < n ∧ f i = m
    · obtain ⟨a, ha, hfa⟩ := hx
      have hg := ih (n - 1) (fun i => if i < a then f i else f (i + 1)) (by
        intro i hi
        by_cases q : i < a
        · simp only [if_pos q]
          have b1 := h1 i (by omega)
          have b2 := h2 i a q ha
          omega
        · simp only [if_neg q]
          have b1 := h1 (i + 1) (by omega)
          have b2 := h2 a (i + 1) (by omega) (by omega)
          omega) (by
        intro i j hij hj
        by_cases q : i < a
        · by_cases r : j < a
          · simp only [if_pos q, if_pos r]
            exact h2 i j hij (by omega)
          · simp only [if_pos q, if_neg r]
            exact h2 i (j + 1) (by omega) (by omega)
        · have r : ¬ j < a := by omega
          simp only [if_neg q, if_neg r]
          exact h2 (i + 1) (j + 1) (by omega) (by omega))
      omega
    · have hg := ih n f (fun i hi => by
        have b1 := h1 i hi
        have b2 : f i ≠ m := fun e => hx ⟨i, hi, e⟩
        omega) h2
      omega

-- the sum of the needs: it falls with each that is lowered
def sm9 (g : Nat → Int32) : Nat → Nat
  | 0 => 0
  | n + 1 => sm9 g n + (g n).toInt.toNat
theorem sm9_upd {g : Nat → Int32} {i : Nat} {x : Int32} : ∀ n : Nat, sm9 (upd g i x) n + (if i < n then (g i).toInt.toNat else 0) = sm9 g n + (if i < n then x.toInt.toNat else 0)
  | 0 => by simp [sm9]
  | n + 1 => by
    have ih := sm9_upd (g := g) (i := i) (x := x) n
    have e1 : sm9 (upd g i x) (n + 1) = sm9 (upd g i x) n + (upd g i x n).toInt.toNat := rfl
    have e2 : sm9 g (n + 1) = sm9 g n + (g n).toInt.toNat := rfl
    rw [e1, e2]
    by_cases h : n = i
    · subst h
      rw [pk_us, if_pos (Nat.lt_succ_self n), if_pos (Nat.lt_succ_self n)]
      rw [if_neg (Nat.lt_irrefl n), if_neg (Nat.lt_irrefl n)] at ih
      omega
    · rw [pk_un h]
      by_cases h2 : i < n
      · rw [if_pos (by omega), if_pos (by omega)]
        rw [if_pos h2, if_pos h2] at ih
        omega
      · rw [if_neg (by omega), if_neg (by omega)]
        rw [if_neg h2, if_neg h2] at ih
        omega
theorem sm9_lt {g : Nat → Int32} {i x : Int32} {z : Int} (hi : i.toInt = z) (h0 : 0 ≤ z) (h1 : z < 96) (hx : 0 ≤ x.toInt) (h : x.toInt < ga g z) : sm9 (upd g i.toNatClampNeg x) 96 < sm9 g 96 := by
  subst hi
  have q := sm9_upd (g := g) (i := i.toNatClampNeg) (x := x) 96
  have e : i.toNatClampNeg < 96 := by
    show i.toInt.toNat < 96
    omega
  rw [if_pos e, if_pos e] at q
  have h2 : x.toInt < (g i.toNatClampNeg).toInt := h
  omega
-- needs that are reckoned so far
def Wt (lm : Int) (f13 f14 f23 g : Nat → Int32) (ba rs to k l q : Int) : Prop := (ga f14 (16 * ba + k) = to ∧ rs ≤ q) ∨ (¬ ga f14 (16 * ba + k) = to ∧ ∃ k2 l2 : Int, 0 ≤ k2 ∧ k2 < lm ∧ 0 ≤ l2 ∧ l2 < 6 ∧ ga f13 (16 * ba + k2) = ga f14 (16 * ba + k) ∧ ¬ ga g (6 * k2 + l2) = 1000000000 ∧ cTo f23 ba l l2 + ga g (6 * k2 + l2) ≤ q)
def Jok (lm : Int) (f13 f14 f22 f23 f24 g : Nat → Int32) (T : Int → Int → Int) (ba py rs to : Int) : Prop := ∀ k l : Int, 0 ≤ k → k < lm → 0 ≤ l → l < 6 → ¬ ga g (6 * k + l) = 1000000000 → 1 ≤ T k l ∧ ∃ q b : Int, 0 ≤ q ∧ isBt f22 f24 ba py (T k l) l q b ∧ q + b ≤ ga g (6 * k + l) ∧ Wt lm f13 f14 f23 g ba rs to k l q
theorem Jok_put {lm : Int} {f13 f14 f22 f23 f24 g : Nat → Int32} {T : Int → Int → Int} {ba py rs to k l q b : Int} {i x : Int32} (hk : 0 ≤ k ∧ k < lm) (hlm : lm ≤ 16) (hl : 0 ≤ l ∧ l < 6) (hg : ∀ z : Int, 0 ≤ z → z < 96 → 0 ≤ ga g z ∧ ga g z ≤ 1000000000) (hi : i.toInt = 6 * k + l) (hT : 1 ≤ T k l) (hq : 0 ≤ q) (hb : isBt f22 f24 ba py (T k l) l q b) (hx : x.toInt = q + b) (hlt : x.toInt < ga g (6 * k + l)) (hw : Wt lm f13 f14 f23 g ba rs to k l q) (h : Jok lm f13 f14 f22 f23 f24 g T ba py rs to) : Jok lm f13 f14 f22 f23 f24 (upd g i.toNatClampNeg x) T ba py rs to := by
  have key : ∀ z : Int, 0 ≤ z → z < 96 → ga (upd g i.toNatClampNeg x) z ≤ ga g z ∧ (¬ ga g z = 1000000000 → ¬ ga (upd g i.toNatClampNeg x) z = 1000000000) := fun z h0 h1 => by
    have q0 := hg z h0 h1
    by_cases e : z = 6 * k + l
    · rw [e, ga_us hi]
      rw [e] at q0
      omega
    · rw [ga_un h0 (by omega) (by omega)]
      exact ⟨Int.le_refl _, id⟩
  have wit : ∀ k0 l0 q0 : Int, Wt lm f13 f14 f23 g ba rs to k0 l0 q0 → Wt lm f13 f14 f23 (upd g i.toNatClampNeg x) ba rs to k0 l0 q0 := fun k0 l0 q0 w => by
    rcases w with w | ⟨w1, k2, l2, a1, a2, a3, a4, a5, a6, a7⟩
    · exact Or.inl w
    · have q1 := key (6 * k2 + l2) (by omega) (by omega)
      exact Or.inr ⟨w1, k2, l2, a1, a2, a3, a4, a5, q1.2 a6, by omega⟩
  intro k0 l0 b1 b2 b3 b4 b5
  by_cases e : k0 = k ∧ l0 = l
  · obtain ⟨e1, e2⟩ := e
    subst e1
    subst e2
    refine ⟨hT, q, b, hq, hb, ?_, wit _ _ _ hw⟩
    rw [ga_us hi]
    omega
  · have e3 : ga (upd g i.toNatClampNeg x) (6 * k0 + l0) = ga g (6 * k0 + l0) := ga_un (by omega) (by omega) (by omega)
    rw [e3] at b5 ⊢
    obtain ⟨c1, q0, b0, c2, c3, c4, c5⟩ := h k0 l0 b1 b2 b3 b4 b5
    exact ⟨c1, q0, b0, c2, c3, c4, wit _ _ _ c5⟩
theorem Wt_of {lm : Int} {f13 f14 f23 g : Nat → Int32} {ba rs to k l q : Int} (h : (ga f14 (16 * ba + k) = to ∧ q = rs) ∨ (¬ ga f14 (16 * ba + k) = to ∧ isN lm f13 f23 g ba (ga f14 (16 * ba + k)) l q ∧ ¬ q = 1000000000)) : Wt lm f13 f14 f23 g ba rs to k l q := by
  rcases h with ⟨h1, h2⟩ | ⟨h1, h2, h3⟩
  · exact Or.inl ⟨h1, by omega⟩
  · obtain ⟨k2, l2, a1, a2, a3, a4, a5, a6, a7⟩ := h2.2.2 h3
    exact Or.inr ⟨h1, k2, l2, a1, a2, a3, a4, a5, a6, by omega⟩
-- the way that is sought
def pl9 (wv : Nat → Int32) (i : Int) : Int := if i = 0 then -1 else ga wv (i - 1)
def Pth (f22 f23 f24 wl wv : Nat → Int32) (T : Int → Int → Int) (ba py : Int) (nd : Int → Int) (n : Int) : Prop := ∀ i : Int, 0 ≤ i → i < n → 1 ≤ T (ga wl i) (ga wv i) ∧ 0 ≤ nd (i + 1) ∧ ∃ q b : Int, nd (i + 1) ≤ q ∧ isBt f22 f24 ba py (T (ga wl i) (ga wv i)) (ga wv i) q b ∧ cTo f23 ba (pl9 wv i) (ga wv i) + q + b ≤ nd i
def Vis (lm : Int) (f13 f23 g : Nat → Int32) (ba : Int) (nd pt lv : Int → Int) (n cur lev : Int) : Prop := (∀ i : Int, 0 ≤ i → i < n → (0 ≤ pt i ∧ pt i ≤ 9) ∧ ((-1) ≤ lv i ∧ lv i ≤ 5) ∧ isN lm f13 f23 g ba (pt i) (lv i) (nd i) ∧ cur < nd i ∧ cur + Hl f23 ba lev < nd i + Hl f23 ba (lv i)) ∧ ∀ i j : Int, 0 ≤ i → i < j → j < n → ¬ pt i = pt j
theorem Vis_new {lm : Int} {f13 f23 g : Nat → Int32} {ba : Int} {nd pt lv : Int → Int} {n cur lev point : Int} (hc : clOK f23 ba) (hlev : (-1) ≤ lev ∧ lev ≤ 5) (h : isN lm f13 f23 g ba point lev cur) (hv : Vis lm f13 f23 g ba nd pt lv n cur lev) : ∀ i : Int, 0 ≤ i → i < n → ¬ pt i = point := fun i h0 h1 e => by
  obtain ⟨⟨a1, a2⟩, a3, a4, a5, a6⟩ := hv.1 i h0 h1
  have a7 := a4.1
  obtain ⟨k, l, b1, b2, b3, b4, b5, b6, b7⟩ := h.2.2 (by omega)
  have c1 := a4.2.1 k l b1 b2 b3 b4 (b5.trans e.symm) b6
  have c2 := cTo_sp (f := f23) (ba := ba) (x := lv i) (y := l) hc a3 (by omega)
  have c3 := cTo_sp (f := f23) (ba := ba) (x := lev) (y := l) hc hlev (by omega)
  omega
def Sk (lm : Int) (f13 f22 f23 f24 g : Nat → Int32) (T : Int → Int → Int) (ba py to : Int) (wl wv : Nat → Int32) (nd pt lv : Int → Int) (n point level : Int) : Prop := 0 ≤ nd n ∧ (¬ point = to → isN lm f13 f23 g ba point level (nd n) ∧ ¬ nd n = 1000000000 ∧ Vis lm f13 f23 g ba nd pt lv n (nd n) level) ∧ Pth f22 f23 f24 wl wv T ba py nd n ∧ level = pl9 wv n ∧ 0 ≤ n
theorem Sk_lt {lm : Int} {f13 f22 f23 f24 g : Nat → Int32} {T : Int → Int → Int} {ba py to : Int} {wl wv : Nat → Int32} {nd pt lv : Int → Int} {n point level : Int} (hc : clOK f23 ba) (hlev : (-1) ≤ level ∧ level ≤ 5) (hp : 0 ≤ point ∧ point ≤ 9) (hne : ¬ point = to) (h : Sk lm f13 f22 f23 f24 g T ba py to wl wv nd pt lv n point level) : n ≤ 9 := by
  obtain ⟨-, h2, -, -, h5⟩ := h
  obtain ⟨v1, -, v2⟩ := h2 hne
  have hn := Vis_new hc hlev v1 v2
  have q := fb_holes 10 (n.toNat + 1) (fun i => if (i : Int) < n then (pt (i : Int)).toNat else point.toNat) (fun i hi => by
    by_cases e : (i : Int) < n
    · have := (v2.1 (i : Int) (by omega) e).1
      simp only [if_pos e]
      omega
    · simp only [if_neg e]
      omega) (fun i j hij hj => by
    have e1 : (i : Int) < n := by omega
    have a1 := (v2.1 (i : Int) (by omega) e1).1
    by_cases e2 : (j : Int) < n
    · have a2 := (v2.1 (j : Int) (by omega) e2).1
      have a3 := v2.2 (i : Int) (j : Int) (by omega) (by omega) e2
      simp only [if_pos e1, if_pos e2]
      omega
    · have a3 := hn (i : Int) (by omega) e1
      simp only [if_pos e1, if_neg e2]
      omega)
  omega
theorem Sk_0 {lm : Int} {f13 f22 f23 f24 g : Nat → Int32} {T : Int → Int → Int} {ba py to : Int} {wl wv : Nat → Int32} {r point : Int} (h : isN lm f13 f23 g ba point (-1) r) (hr : ¬ r = 1000000000) : Sk lm f13 f22 f23 f24 g T ba py to wl wv (fun _ => r) (fun _ => 0) (fun _ => 0) 0 point (-1) :=
  ⟨h.1.1, fun _ => ⟨h, hr, fun i h0 h1 => absurd h0 (by omega), fun i j h0 h1 h2 => absurd h0 (by omega)⟩, fun i h0 h1 => absurd h0 (by omega), rfl, Int.le_refl _⟩
theorem Sk_step {lm : Int} {f13 f14 f22 f23 f24 g : Nat → Int32} {T : Int → Int → Int} {ba py to rs : Int} {wl wv : Nat → Int32} {nd pt lv : Int → Int} {n point level k l : Int} {i x y : Int32} (hc : clOK f23 ba) (hlev : (-1) ≤ level ∧ level ≤ 5) (hp : 0 ≤ point ∧ point ≤ 9) (hne : ¬ point = to) (hg : ∀ z : Int, 0 ≤ z → z < 96 → 0 ≤ ga g z ∧ ga g z ≤ 1000000000) (hlm : lm ≤ 16) (hrs : 0 ≤ rs) (hJ : Jok lm f13 f14 f22 f23 f24 g T ba py rs to) (h : Sk lm f13 f22 f23 f24 g T ba py to wl wv nd pt lv n point level) (hk : 0 ≤ k ∧ k < lm) (hl : 0 ≤ l ∧ l < 6) (hfr : ga f13 (16 * ba + k) = point) (hnv : ¬ ga g (6 * k + l) = 1000000000) (hcur : cTo f23 ba level l + ga g (6 * k + l) = nd n) (hi : i.toInt = n) (hx : x.toInt = k) (hy : y.toInt = l) :
    ∃ nd' pt' lv' : Int → Int, nd' 0 = nd 0 ∧ Sk lm f13 f22 f23 f24 g T ba py to (upd wl i.toNatClampNeg x) (upd wv i.toNatClampNeg y) nd' pt' lv' (n + 1) (ga f14 (16 * ba + k)) l := by
  obtain ⟨s1, s2, s3, s4, s5⟩ := h
  obtain ⟨v1, v3, v2⟩ := s2 hne
  have hn := Vis_new hc hlev v1 v2
  obtain ⟨t1, q, b, t2, t3, t4, t5⟩ := hJ k l hk.1 hk.2 hl.1 hl.2 hnv
  have t6 := isBt_pos t1 t3
  have c1 := cTo_sp (f := f23) (ba := ba) (x := level) (y := l) hc hlev (by omega)
  -- the need at the next point
  have nx : ∃ r : Int, 0 ≤ r ∧ r ≤ q ∧ (¬ ga f14 (16 * ba + k) = to → isN lm f13 f23 g ba (ga f14 (16 * ba + k)) l r) := by
    rcases t5 with ⟨w1, w2⟩ | ⟨w1, k2, l2, a1, a2, a3, a4, a5, a6, a7⟩
    · exact ⟨rs, hrs, w2, fun e => absurd w1 e⟩
    · obtain ⟨r, hr⟩ := isN_ex (lm := lm) (f13 := f13) (g := g) (pt := ga f14 (16 * ba + k)) (lv := l) hc (by omega) hg hlm
      exact ⟨r, hr.1.1, Int.le_trans (hr.2.1 k2 l2 a1 a2 a3 a4 a5 a6) a7, fun _ => hr⟩
  obtain ⟨r, r1, r2, r3⟩ := nx
  have gk := hg (6 * k + l) (by omega) (by omega)
  have e0 : ∀ j : Int, ¬ j = n + 1 → (fun z : Int => if z = n + 1 then r else nd z) j = nd j := fun j hj => if_neg hj
  have e1 : (fun z : Int => if z = n + 1 then r else nd z) (n + 1) = r := if_pos rfl
  refine ⟨fun z => if z = n + 1 then r else nd z, fun z => if z = n then point else pt z, fun z => if z = n then level else lv z, e0 0 (by omega), ?_, fun hto => ?_, fun j j0 j1 => ?_, ?_, by omega⟩
  · rw [e1]
    exact r1
  · rw [e1]
    refine ⟨r3 hto, by omega, fun j j0 j1 => ?_, fun j j2 j0 j1 j3 => ?_⟩
    · rw [e0 j (by omega)]
      by_cases ej : j = n
      · subst ej
        simp only [if_pos]
        exact ⟨hp, hlev, v1, by omega, by omega⟩
      · simp only [if_neg ej]
        obtain ⟨a1, a2, a3, a4, a5⟩ := v2.1 j j0 (by omega)
        exact ⟨a1, a2, a3, by omega, by omega⟩
    · by_cases ej : j2 = n
      · subst ej
        simp only [if_pos, if_neg (show ¬ j = j2 by omega)]
        exact hn j j0 j1
      · simp only [if_neg ej, if_neg (show ¬ j = n by omega)]
        exact v2.2 j j2 j0 j1 (by omega)
  · rw [e0 j (by omega)]
    by_cases ej : j = n
    · subst ej
      have p1 : pl9 (upd wv i.toNatClampNeg y) j = pl9 wv j := by
        by_cases z0 : j = 0
        · show (if j = 0 then _ else _) = (if j = 0 then _ else _)
          rw [if_pos z0, if_pos z0]
        · show (if j = 0 then _ else ga (upd wv i.toNatClampNeg y) (j - 1)) = (if j = 0 then _ else _)
          rw [if_neg z0, if_neg z0]
          exact ga_un (by omega) (by omega) (by omega)
      rw [ga_us hi, ga_us hi, hx, hy, e1, p1, ← s4]
      exact ⟨t1, r1, q, b, r2, t3, by omega⟩
    · have p1 : pl9 (upd wv i.toNatClampNeg y) j = pl9 wv j := by
        by_cases z0 : j = 0
        · show (if j = 0 then _ else _) = (if j = 0 then _ else _)
          rw [if_pos z0, if_pos z0]
        · show (if j = 0 then _ else ga (upd wv i.toNatClampNeg y) (j - 1)) = (if j = 0 then _ else _)
          rw [if_neg z0, if_neg z0]
          exact ga_un (by omega) (by omega) (by omega)
      rw [ga_un (f := wl) j0 (by omega) (by omega), ga_un (f := wv) j0 (by omega) (by omega), e0 (j + 1) (by omega), p1]
      exact s3 j j0 (by omega)
  · show l = (if n + 1 = 0 then _ else ga (upd wv i.toNatClampNeg y) (n + 1 - 1))
    rw [if_neg (by omega), show n + 1 - 1 = n by omega, ga_us hi, hy]
theorem tkV_pos {f15 f16 f17 f18 f19 f20 f21 : Nat → Int32} {ba dy wd leg lv : Int} (hm : 1 ≤ ga f15 (16 * ba + leg)) (h : 0 ≤ tkV f15 f16 f17 f18 f19 f20 f21 ba dy wd leg lv) : 1 ≤ tkV f15 f16 f17 f18 f19 f20 f21 ba dy wd leg lv := by
  obtain ⟨y, ey⟩ : ∃ y, y = dft f20 (6 * ba + lv) 400 + wnV f21 (288 * ba + 96 * wd + leg) (lv + 1).toNat := ⟨_, rfl⟩
  by_cases c : y < 50 ∨ lv < ga f16 (16 * ba + leg) ∨ ga f17 (16 * ba + leg) < lv ∨ dy < ga f18 (16 * ba + leg) ∨ ga f19 (16 * ba + leg) < dy
  · rw [tkV_no ey c] at h
    omega
  · rw [tkV_yes ey c]
    exact (Int.le_ediv_iff_mul_le (by omega)).mpr (by omega)
