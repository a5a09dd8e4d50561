theorem ti_rng (x : Int32) : -2147483648 ≤ x.toInt ∧ x.toInt < 2147483648 := ⟨Int32.le_toInt x, Int32.toInt_lt x⟩
theorem bmod_in {z : Int} (h1 : -2147483648 ≤ z) (h2 : z < 2147483648) : z.bmod (2 ^ 32) = z := by
  rw [Int.bmod_def]
  split <;> omega
theorem ti_add {x y : Int32} (h1 : -2147483648 ≤ x.toInt + y.toInt) (h2 : x.toInt + y.toInt < 2147483648) : (x + y).toInt = x.toInt + y.toInt := by
  rw [Int32.toInt_add]
  exact bmod_in h1 h2
theorem ti_sub {x y : Int32} (h1 : -2147483648 ≤ x.toInt - y.toInt) (h2 : x.toInt - y.toInt < 2147483648) : (x - y).toInt = x.toInt - y.toInt := by
  rw [Int32.toInt_sub]
  exact bmod_in h1 h2
theorem nI_of_ti {x : Int32} {n : Nat} (h : x.toInt = n) (hn : n < 2 ^ 31) : x = nI n := Int32.toInt_inj.mp (by rw [h, nI_toInt hn])
theorem nI_ex {x : Int32} (h : 0 ≤ x.toInt) : ∃ n : Nat, n < 2 ^ 31 ∧ x = nI n ∧ x.toInt = n ∧ x.toNatClampNeg = n := ⟨x.toInt.toNat, by have := ti_rng x; omega, nI_of_ti (by omega) (by have := ti_rng x; omega), by omega, rfl⟩
theorem upd_s {f : Nat → Int32} {k : Nat} {x : Int32} : upd f k x k = x := if_pos rfl
theorem upd_n {f : Nat → Int32} {k j : Nat} {x : Int32} (h : j ≠ k) : upd f k x j = f j := if_neg h
theorem nb_01 {v : Int32} (h : v = 0 ∨ v = 1) : narrow .boolean (.int v) = .int v := by
  rcases h with rfl | rfl
  · decide +kernel
  · decide +kernel
theorem okd_eq {t : Nat} {f f' : Nat → Int32} (h0 : f' 0 = f 0) (h1 : f' 1 = f 1) (h2 : f' 2 = f 2) (h3 : f' 3 = f 3) (h4 : f' 4 = f 4) (h5 : f' 5 = f 5) (q : okd t f) : okd t f' := by
  refine ⟨by rw [h0]; exact q.1, by rw [h0]; exact q.2.1, by rw [h1]; exact q.2.2.1, by rw [h1]; exact q.2.2.2.1, by rw [h2]; exact q.2.2.2.2.1, fun i a b => ?_⟩
  rcases (show i = 3 ∨ i = 4 ∨ i = 5 by omega) with rfl | rfl | rfl
  · rw [h3]; exact q.2.2.2.2.2 3 a b
  · rw [h4]; exact q.2.2.2.2.2 4 a b
  · rw [h5]; exact q.2.2.2.2.2 5 a b
theorem sI_s {x : XS} {n : Nat} {v : Int32} : (sI x n v).1 n = v := if_pos rfl
theorem sI_n {x : XS} {n m : Nat} {v : Int32} (h : m ≠ n) : (sI x n v).1 m = x.1 m := if_neg h
theorem CPs1.cg {x y x' y' : XS} {j : Nat} (h1 : CPs1 x y j) (a1 : ∀ k, 1 ≤ k → k ≤ 4 → x'.1 ((58 + 2 * j) * 8 + k) = x.1 ((58 + 2 * j) * 8 + k)) (a2 : x'.2.2 (59 + 2 * j) = x.2.2 (59 + 2 * j)) (b1 : (y.1 609).toInt ≤ (y'.1 609).toInt) (b2 : y'.2.1 104 j = y.2.1 104 j) (b3 : y'.2.1 105 j = y.2.1 105 j) (b4 : ∀ i, i < 60 → y'.2.2 106 (60 * j + i) = y.2.2 106 (60 * j + i)) : CPs1 x' y' j := by
  unfold CPs1 at h1 ⊢
  rw [a1 1 (by omega) (by omega), a1 2 (by omega) (by omega), a1 3 (by omega) (by omega), a1 4 (by omega) (by omega), a2, b2, b3]
  rcases h1 with h1 | h1 | ⟨s, n, h2, h3, h4, h5, h6, h7, h8, h9⟩
  · exact Or.inl h1
  · exact Or.inr (Or.inl ⟨h1.1, by have := h1.2.1; omega, h1.2.2⟩)
  · refine Or.inr (Or.inr ⟨s, n, h2, h3, h4, h5, h6, h7, h8, fun i hi => ?_⟩)
    rw [b4 i (by omega)]
    exact h9 i hi
theorem updL_s {f : Nat → Int64} {k : Nat} {x : Int64} : vp_updL f k x k = x := if_pos rfl
theorem updL_n {f : Nat → Int64} {k j : Nat} {x : Int64} (h : j ≠ k) : vp_updL f k x j = f j := if_neg h
theorem bt_rng (b : Int8) : -128 ≤ (b.toInt32.toInt64).toInt ∧ (b.toInt32.toInt64).toInt ≤ 127 := by
  have h1 : b.toInt32.toInt64.toInt = b.toInt := by rw [Int32.toInt_toInt64, Int8.toInt_toInt32]
  rw [h1]
  have h2 := Int8.le_toInt b
  have h3 := Int8.toInt_lt b
  omega
