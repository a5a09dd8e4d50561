theorem ti_rng (x : Int32) : -2147483648 ≤ x.toInt ∧ x.toInt < 2147483648 := ⟨Int32.le_toInt x, Int32.toInt_lt x⟩
theorem bmod_in {z : Int} (h1 : -2147483648 ≤ z) (h2 : z < 2147483648) : z.bmod (2 ^ 32) = z := by
  rw [Int.bmod_def]
  split <;> omega
theorem ti_add {x y : Int32} (h1 : -2147483648 ≤ x.toInt + y.toInt) (h2 : x.toInt + y.toInt < 2147483648) : (x + y).toInt = x.toInt + y.toInt := by
  rw [Int32.toInt_add]
  exact bmod_in h1 h2
theorem ti_sub {x y : Int32} (h1 : -2147483648 ≤ x.toInt - y.toInt) (h2 : x.toInt - y.toInt < 2147483648) : (x - y).toInt = x.toInt - y.toInt := by
  rw [Int32.toInt_sub]
  exact bmod_in h1 h2
theorem nI_of_ti {x : Int32} {n : Nat} (h : x.toInt = n) (hn : n < 2 ^ 31) : x = nI n := Int32.toInt_inj.mp (by rw [h, nI_toInt hn])
theorem nI_ex {x : Int32} (h : 0 ≤ x.toInt) : ∃ n : Nat, n < 2 ^ 31 ∧ x = nI n ∧ x.toInt = n ∧ x.toNatClampNeg = n := ⟨x.toInt.toNat, by have := ti_rng x; omega, nI_of_ti (by omega) (by have := ti_rng x; omega), by omega, rfl⟩
theorem upd_s {f : Nat → Int32} {k : Nat} {x : Int32} : upd f k x k = x := if_pos rfl
theorem upd_n {f : Nat → Int32} {k j : Nat} {x : Int32} (h : j ≠ k) : upd f k x j = f j := if_neg h
theorem nb_01 {v : Int32} (h : v = 0 ∨ v = 1) : narrow .boolean (.int v) = .int v := by
  rcases h with rfl | rfl
  · decide +kernel
  · decide +kernel
theorem okd_eq {t : Nat} {f f' : Nat → Int32} (h0 : f' 0 = f 0) (h1 : f' 1 = f 1) (h2 : f' 2 = f 2) (h3 : f' 3 = f 3) (h4 : f' 4 = f 4) (h5 : f' 5 = f 5) (q : okd t f) : okd t f' := by
  refine ⟨by rw [h0]; exact q.1, by rw [h0]; exact q.2.1, by rw [h1]; exact q.2.2.1, by rw [h1]; exact q.2.2.2.1, by rw [h2]; exact q.2.2.2.2.1, fun i a b => ?_⟩
  rcases (show i = 3 ∨ i = 4 ∨ i = 5 by omega) with rfl | rfl | rfl
  · rw [h3]; exact q.2.2.2.2.2 3 a b
  · rw [h4]; exact q.2.2.2.2.2 4 a b
  · rw [h5]; exact q.2.2.2.2.2 5 a b
