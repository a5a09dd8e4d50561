/-! the soonest row: all rows by which it is done, in their order -/
theorem sumW_b' {x y : XS} (C : CPg x y) : ∀ n a : Nat, a + n ≤ 4 → 0 ≤ (sumW y a n).toInt ∧ (sumW y a n).toInt ≤ 9 * n
  | 0, a, _ => ⟨Int.le_refl _, Int.le_refl _⟩
  | n + 1, a, h => by
    have ih := sumW_b' C n a (by omega)
    have hv : (1 : Int) ≤ (y.2.1 78 (a + n)).toInt ∧ (y.2.1 78 (a + n)).toInt ≤ 9 := (C.2.2.2.1 (a + n) (by omega)).2
    rw [sumW, ti_add (by omega) (by omega)]
    omega
theorem sumW_P {x y : XS} (C : CPg x y) (a : Nat) : ∀ n : Nat, a + n ≤ 4 → (sumW y a n).toInt = (sumW y 0 (a + n)).toInt - (sumW y 0 a).toInt
  | 0, _ => by show (0 : Int32).toInt = (sumW y 0 (a + 0)).toInt - (sumW y 0 a).toInt; rw [Nat.add_zero, show (0 : Int32).toInt = 0 by decide]; omega
  | n + 1, h => by
    have ih := sumW_P C a n (by omega)
    have b1 := sumW_b' C n a (by omega)
    have b2 := sumW_b' C (a + n) 0 (by omega)
    have hv : (1 : Int) ≤ (y.2.1 78 (a + n)).toInt ∧ (y.2.1 78 (a + n)).toInt ≤ 9 := (C.2.2.2.1 (a + n) (by omega)).2
    rw [sumW, ti_add (by omega) (by omega), ← Nat.add_assoc, sumW, Nat.zero_add, ti_add (by omega) (by omega)]
    omega
theorem wayN_tri {x y : XS} (C : CPg x y) {a b : Nat} (ha : a < 5) (hb : b < 5) : (wayN y a 0).toInt ≤ (wayN y a b).toInt + (wayN y b 0).toInt := by
  have ea : ∀ c : Nat, wayN y c 0 = sumW y 0 c := fun c => by unfold wayN; rw [if_neg (by omega), Nat.sub_zero]
  rw [ea, ea]
  unfold wayN
  split
  · rename_i h
    have q := sumW_P C a (b - a) (by omega)
    have q2 := sumW_b' C (b - a) a (by omega)
    rw [show a + (b - a) = b by omega] at q
    omega
  · have q := sumW_P C b (a - b) (by omega)
    rw [show b + (a - b) = a by omega] at q
    omega
abbrev Cd := Int32 × Nat × (Nat → Int32)
def cLs (F : Nat → List Cd) : Nat → Nat → List Cd
  | 0, _ => []
  | n + 1, b => F b ++ cLs F n (b + 1)
theorem cLs_mem {F : Nat → List Cd} {c : Cd} : ∀ {n b : Nat}, c ∈ cLs F n b → ∃ i, b ≤ i ∧ i < b + n ∧ c ∈ F i
  | 0, _, h => absurd h List.not_mem_nil
  | n + 1, b, h => by
    rw [cLs, List.mem_append] at h
    rcases h with h | h
    · exact ⟨b, Nat.le_refl _, by omega, h⟩
    · obtain ⟨i, h1, h2, h3⟩ := cLs_mem h
      exact ⟨i, by omega, by omega, h3⟩
def cL (T : Option Txt) (y : XS) : Nat → Nat → Nat × Int32 × Int32 → (Nat → Int32) → List Cd
  | 0, k, s, row => if mustB y &&& (s.2.2 ^^^ -1) = 0 then [(s.2.1 + wayN y s.1 0, k, row)] else []
  | j + 1, k, s, row => if mustB y &&& (s.2.2 ^^^ -1) = 0 then [(s.2.1 + wayN y s.1 0, k, row)] else cLs (fun b => if 0 < k ∧ b = s.1 then [] else cL T y j (k + 1) (stp T y b s) (upd row k (nI b))) 5 0
/-- a row that is better than the best so far -/
abbrev beats (B c : Cd) : Prop := c.1.toInt < B.1.toInt ∨ (c.1 = B.1 ∧ c.2.1 < B.2.1)
def btr (B c : Cd) : Cd := if beats B c then c else B
theorem btr_skip {B : Cd} : ∀ {L : List Cd}, (∀ c ∈ L, ¬ beats B c) → L.foldl btr B = B
  | [], _ => rfl
  | c :: L, h => by
    rw [List.foldl_cons, btr, if_neg (h c List.mem_cons_self)]
    exact btr_skip fun d hd => h d (List.mem_cons_of_mem _ hd)
theorem cL_ge {T : Option Txt} {x y : XS} (C : CPg x y) : ∀ (j k a : Nat) (m t : Int32) (row : Nat → Int32) (Bd : Nat), a < 5 → 0 ≤ m.toInt ∧ m.toInt ≤ Bd → Bd + 66 * j < 900000 → ∀ c ∈ cL T y j k (a, m, t) row, (m + wayN y a 0).toInt ≤ c.1.toInt ∧ c.1.toInt ≤ Bd + 66 * j + 36 ∧ k ≤ c.2.1 ∧ c.2.1 ≤ k + j := by
  intro j
  induction j with
  | zero =>
    intro k a m t row Bd ha hm hB c hc
    have h1 := wayN_b C ha (by decide : 0 < 5)
    have h2 := ti_add (x := m) (y := wayN y a 0) (by omega) (by omega)
    rw [cL] at hc
    split at hc
    · rw [List.mem_singleton] at hc; subst hc; exact ⟨Int.le_refl _, by show (m + wayN y a 0).toInt ≤ _; omega, Nat.le_refl _, by show k ≤ k + 0; omega⟩
    · exact absurd hc List.not_mem_nil
  | succ j ih =>
    intro k a m t row Bd ha hm hB c hc
    have h1 := wayN_b C ha (by decide : 0 < 5)
    have h2 := ti_add (x := m) (y := wayN y a 0) (by omega) (by omega)
    rw [cL] at hc
    split at hc
    · rw [List.mem_singleton] at hc; subst hc; exact ⟨Int.le_refl _, by show (m + wayN y a 0).toInt ≤ _; omega, Nat.le_refl _, by show k ≤ _; omega⟩
    · obtain ⟨b, -, hb, hc⟩ := cLs_mem hc
      dsimp only at hc
      split at hc
      · exact absurd hc List.not_mem_nil
      · have hb5 : b < 5 := by omega
        obtain ⟨q1, q2, q3, q4⟩ := stp_b (T := T) (t := t) C ha hb5 hm (by omega)
        have g1 := wayN_b C ha hb5
        have g2 := ti_add (x := m) (y := wayN y a b) (by omega) (by omega)
        have g3 := mnF_b (T := T) (y := y) (r := nI b) (m := m + wayN y a b) (v := telF y (nI b) (m + wayN y a b) t)
        have g4 : (stp T y b (a, m, t)).2.1.toInt = (m + wayN y a b).toInt + (mnF T y (nI b) (m + wayN y a b) (telF y (nI b) (m + wayN y a b) t)).toInt := ti_add (x := m + wayN y a b) (y := mnF T y (nI b) (m + wayN y a b) (telF y (nI b) (m + wayN y a b) t)) (by omega) (by omega)
        have g5 := wayN_b C hb5 (by decide : 0 < 5)
        have g6 := ti_add (x := (stp T y b (a, m, t)).2.1) (y := wayN y b 0) (by omega) (by omega)
        have g7 := wayN_tri C ha hb5
        obtain ⟨r1, r2, r3, r4⟩ := ih (k + 1) b (stp T y b (a, m, t)).2.1 (stp T y b (a, m, t)).2.2 (upd row k (nI b)) (Bd + 66) hb5 ⟨q3, by omega⟩ (by omega) c hc
        exact ⟨by omega, by omega, by omega, by omega⟩
/-- nothing further on is better -/
theorem cL_far {T : Option Txt} {x y : XS} (C : CPg x y) {j k a Bd : Nat} {m t : Int32} {row : Nat → Int32} {B : Cd} (ha : a < 5) (hm : 0 ≤ m.toInt ∧ m.toInt ≤ Bd) (hB : Bd + 66 * j < 900000) (h : B.1 < m + wayN y a 0 ∨ (m + wayN y a 0 = B.1 ∧ B.2.1 ≤ k)) : (cL T y j k (a, m, t) row).foldl btr B = B := by
  refine btr_skip fun c hc => ?_
  obtain ⟨r1, r2, r3, r4⟩ := cL_ge C j k a m t row Bd ha hm hB c hc
  unfold beats
  rcases h with h | ⟨h, h2⟩
  · rw [Int32.lt_iff_toInt_lt] at h
    rintro (q | ⟨q, q2⟩)
    · omega
    · rw [q] at r1; omega
  · rw [h] at r1
    rintro (q | ⟨q, q2⟩) <;> omega
