/-! views of the reference's state -/
def nG (y : XS) : Nat := (y.1 561).toNatClampNeg
def rO (y : XS) (g : Nat) (m : Int32) : Int32 := if m < y.2.1 73 g then y.2.1 71 g else y.2.1 72 g
def bitsT (p : Nat → Bool) : Nat → Int32
  | 0 => 0
  | k + 1 => if p k then bitsT p k ||| (1 <<< (nI k &&& 31)) else bitsT p k
def orS (f : Nat → Int32) : Nat → Int32
  | 0 => 0
  | k + 1 => orS f k ||| (f k <<< (nI k &&& 31))
def thI (y : XS) (r m : Int32) : Int32 := bitsT (fun g => rO y g m == r) (nG y)
def mustB (y : XS) : Int32 := orS (y.2.1 75) (nG y)
def hostB (y : XS) : Int32 := orS (y.2.1 76) (nG y)
/-- the guests of the reference: how many -/
def WG (y : XS) : Prop := y.1 561 = nI (nG y) ∧ nG y ≤ 10
theorem ge_t {a b : Nat} {x : Int32} (e : x = nI a) (ha : a < 2 ^ 31) (hb : b < 2 ^ 31) : x ≤ nI b ↔ a ≤ b := by rw [e]; exact nI_leI ha hb
def sumW (y : XS) (a : Nat) : Nat → Int32
  | 0 => 0
  | k + 1 => sumW y a k + y.2.1 78 (a + k)
def mxT (y : XS) (due : Int32) : Nat → Int32
  | 0 => 0
  | k + 1 => if (due >>> (nI k &&& 31)) &&& 1 = 1 ∧ mxT y due k < y.2.1 74 k then y.2.1 74 k else mxT y due k
/-! the coupling of the two sides -/
def okv (w : Nat) (v : Int32) : Prop := ([0, 0, 0, 0, 0, 0, 1, 1] : List Int).getD w 0 ≤ v.toInt ∧ v.toInt ≤ ([4, 4, 99, 9, 1, 1, 11, 9] : List Int).getD w 0
def CPg (x y : XS) : Prop := WG y ∧ x.1 51 = y.1 561 ∧ (∀ w, w < 7 → ∀ i, i < nG y → x.2.1 (8 + w) i = y.2.1 (71 + w) i ∧ okv w (y.2.1 (71 + w) i)) ∧ (∀ i, i < 4 → x.2.1 15 i = y.2.1 78 i ∧ okv 7 (y.2.1 78 i)) ∧ (∀ i, nG y ≤ i → i < 10 → x.2.1 13 i = 0) ∧ (∀ r m : Nat, r < 5 → m < 100 → x.2.1 (17 + r) m = thI y (nI r) (nI m)) ∧ x.1 52 = mustB y ∧ x.1 53 = hostB y
/-- one kept change: what, which, before, behind -/
def okc (y : XS) (i : Nat) : Prop := ∃ w n : Nat, w < 8 ∧ y.2.1 79 i = nI w ∧ y.2.1 80 i = nI n ∧ ((w = 7 ∧ n < 4) ∨ (w < 7 ∧ n < nG y)) ∧ okv w (y.2.1 81 i) ∧ okv w (y.2.1 82 i)
def CPc (x y : XS) : Prop := ∃ d u : Nat, d + u ≤ 40 ∧ y.1 570 = nI d ∧ y.1 571 = nI u ∧ x.1 397 = nI d ∧ x.1 398 = nI (d + u) ∧ ∀ i, i < d + u → x.2.1 51 i = y.2.1 79 i ∧ x.2.1 50 i = y.2.1 80 i ∧ x.2.1 52 i = y.2.1 81 i ∧ x.2.1 53 i = y.2.1 82 i ∧ okc y i
def CPt (x y : XS) : Prop := ∃ n : Nat, n ≤ 120 ∧ x.1 219 = nI n ∧ y.1 577 = nI n ∧ ∀ i, i < n → 0 ≤ (x.2.1 28 i).toInt ∧ (x.2.1 28 i).toInt ≤ 255 ∧ y.2.1 83 i = vp_nar .byte (x.2.1 28 i)
/-- a text in steps: lines of a first part (none: []) and a value; a step: the reference's sign and number -/
abbrev Stp0 : Type := Nat × Int32
abbrev Txt : Type := List (List Stp0 × List Stp0)
def cxS (a : Nat) : Int32 := if a = 1 then 48 else if a = 2 then 97 else if a = 3 then 33 else if a = 4 then 126 else nI a
def stX (s : Stp0) : Int32 × Int32 := (cxS s.1, s.2)
def lineX (l : List Stp0 × List Stp0) : List (Int32 × Int32) := (if l.1 = [] then [] else l.1.map stX ++ [(63, 0)]) ++ l.2.map stX ++ [(59, 0)]
def txX (p : Txt) : List (Int32 × Int32) := p.flatMap lineX
def txM (p : Txt) : List Stp0 := p.flatMap fun l => l.1 ++ l.2
/-- how deep the pile is behind the steps -/
def depS : List Stp0 → Nat → Option Nat
  | [], n => some n
  | s :: t, n => if s.1 = 1 ∨ s.1 = 2 then depS t (n + 1) else if s.1 = 3 ∨ s.1 = 4 then (if n = 0 then none else depS t n) else if n < 2 then none else depS t (n - 1)
def okS (s : Stp0) : Prop := s.1 = 1 ∨ (s.1 = 2 ∧ 0 ≤ s.2.toInt ∧ s.2.toInt < 5) ∨ s.1 = 3 ∨ s.1 = 4 ∨ s.1 ∈ [37, 38, 42, 43, 45, 47, 60, 61, 62, 124]
def okL (l : List Stp0 × List Stp0) : Prop := (l.1 = [] ∨ depS l.1 0 = some 1) ∧ depS l.2 0 = some 1 ∧ ∀ s ∈ l.1 ++ l.2, okS s
def LawX (p : Txt) (x : XS) : Prop := x.1 180 = nI (txX p).length ∧ (txX p).length ≤ 256 ∧ ∀ (i : Nat) (s : Int32 × Int32), (txX p)[i]? = some s → x.2.1 23 i = s.1 ∧ x.2.1 24 i = s.2
def LawM (p : Txt) (y : XS) : Prop := y.2.1 86 0 = nI p.length ∧ p.length ≤ 61 ∧ (txM p).length ≤ 130 ∧ (∀ (i : Nat) (s : Stp0), (txM p)[i]? = some s → y.2.1 84 i = nI s.1 ∧ y.2.1 85 i = s.2) ∧ ∀ (k : Nat) (l : List Stp0 × List Stp0), p[k]? = some l → y.2.1 87 k = nI ((txM (p.take k)).length + l.1.length) ∧ y.2.1 88 k = nI ((txM (p.take k)).length + l.1.length + l.2.length)
def CPl (x y : XS) : Prop := (x.1 180 = 0 ∧ y.1 589 = 0) ∨ (y.1 589 = 1 ∧ ∃ p : Txt, p ≠ [] ∧ (∀ l ∈ p, okL l) ∧ LawX p x ∧ LawM p y)
/-- a set of guests -/
def S10 (v : Int32) : Prop := ∃ k : Nat, k < 1024 ∧ v = nI k
def okd (t : Nat) (f : Nat → Int32) : Prop := 0 ≤ (f 0).toInt ∧ (f 0).toInt ≤ 100 * t ∧ 0 ≤ (f 1).toInt ∧ (f 1).toInt < 5 ∧ S10 (f 2) ∧ ∀ i, 3 ≤ i → i < 6 → 0 ≤ (f i).toInt ∧ (f i).toInt ≤ t
def CPd (t : Nat) (x y : XS) : Prop := x.1 387 = y.2.1 100 0 ∧ x.1 386 = y.2.1 100 1 ∧ x.1 388 = y.2.1 100 2 ∧ x.1 372 = y.2.1 100 3 ∧ x.1 373 = y.2.1 100 4 ∧ x.1 374 = y.2.1 100 5 ∧ okd t (y.2.1 100) ∧ (∀ i, i < 6 → x.2.1 47 i = y.2.1 101 i) ∧ okd t (y.2.1 101) ∧ x.1 371 = y.1 608 ∧ (y.1 608 = 0 ∨ y.1 608 = 1)
def CPb (x y : XS) : Prop := (∃ b : Nat, b ≤ 50 ∧ y.1 609 = nI b ∧ x.1 434 = nI b ∧ ∀ i, i < b → x.2.1 55 i = y.2.1 102 i ∧ 0 ≤ (y.2.1 102 i).toInt ∧ (y.2.1 102 i).toInt < 8) ∧ ∃ r : Nat, r ≤ 100000 ∧ y.1 611 = nI r ∧ x.1 435 = nI r ∧ ∀ i, i < r → i < 24 → x.2.1 56 i = y.2.1 103 i
def CPs1 (x y : XS) (j : Nat) : Prop := (y.2.1 104 j = -1 ∧ x.1 ((58 + 2 * j) * 8 + 1) = 0) ∨ (0 ≤ (y.2.1 104 j).toInt ∧ (y.2.1 104 j).toInt < (y.1 609).toInt ∧ x.1 ((58 + 2 * j) * 8 + 1) = 1 ∧ x.1 ((58 + 2 * j) * 8 + 2) = y.2.1 104 j) ∨
  ∃ s n : Nat, s < 5 ∧ n ≤ 60 ∧ y.2.1 104 j = -2 - nI s ∧ x.1 ((58 + 2 * j) * 8 + 1) = 2 ∧ x.1 ((58 + 2 * j) * 8 + 3) = nI s ∧ y.2.1 105 j = nI n ∧ x.1 ((58 + 2 * j) * 8 + 4) = nI n ∧ ∀ i, i < n → x.2.2 (59 + 2 * j) i = y.2.2 106 (60 * j + i) ∧ (s = 0 → -128 ≤ (y.2.2 106 (60 * j + i)).toInt ∧ (y.2.2 106 (60 * j + i)).toInt ≤ 127)
def CPs (x y : XS) : Prop := ∀ j, j < 6 → CPs1 x y j
/-- the coupling behind t calls -/
def INV (t : Nat) (x y : XS) : Prop := CPg x y ∧ CPc x y ∧ CPt x y ∧ CPl x y ∧ CPd t x y ∧ CPb x y ∧ CPs x y
theorem INV_step {t : Nat} {x y : XS} (h : INV t x y) : INV (t + 1) x y := by
  obtain ⟨h1, h2, h3, h4, h5, h6, h7⟩ := h
  obtain ⟨d1, d2, d3, d4, d5, d6, d7, d8, d9, d10⟩ := h5
  have up : ∀ f : Nat → Int32, okd t f → okd (t + 1) f := fun f q => ⟨q.1, by have := q.2.1; omega, q.2.2.1, q.2.2.2.1, q.2.2.2.2.1, fun i a b => ⟨(q.2.2.2.2.2 i a b).1, by have := (q.2.2.2.2.2 i a b).2; omega⟩⟩
  exact ⟨h1, h2, h3, h4, ⟨d1, d2, d3, d4, d5, d6, up _ d7, d8, up _ d9, d10⟩, h6, h7⟩
