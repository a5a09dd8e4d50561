/-! a set's bits -/
def bt (v : Int32) (i : Nat) : Bool := v.toBitVec.getLsbD i
theorem bt_ext {v w : Int32} (h : ∀ i, i < 32 → bt v i = bt w i) : v = w := Int32.toBitVec_inj.mp (BitVec.eq_of_getLsbD_eq h)
theorem bt_and (v w : Int32) (i : Nat) : bt (v &&& w) i = (bt v i && bt w i) := by unfold bt; rw [Int32.toBitVec_and, BitVec.getLsbD_and]
theorem bt_or (v w : Int32) (i : Nat) : bt (v ||| w) i = (bt v i || bt w i) := by unfold bt; rw [Int32.toBitVec_or, BitVec.getLsbD_or]
theorem bt_com (v : Int32) {i : Nat} (h : i < 32) : bt (v ^^^ -1) i = !bt v i := by
  unfold bt
  rw [Int32.toBitVec_xor, BitVec.getLsbD_xor, show (-1 : Int32).toBitVec = BitVec.allOnes 32 by decide, BitVec.getLsbD_allOnes]
  simp [h]
theorem bt_0 (i : Nat) : bt 0 i = false := by unfold bt; rw [show (0 : Int32).toBitVec = 0#32 from rfl]; exact BitVec.getLsbD_zero
theorem bt_sh {k i : Nat} (hk : k < 10) (hi : i < 32) : bt (1 <<< (nI k &&& 31)) i = decide (i = k) := (by decide +kernel : ∀ k : Nat, k < 10 → ∀ i : Nat, i < 32 → bt (1 <<< (nI k &&& 31)) i = decide (i = k)) k hk i hi
theorem bt_bitsT {p : Nat → Bool} : ∀ (n : Nat) {i : Nat}, n ≤ 10 → i < 32 → bt (bitsT p n) i = (decide (i < n) && p i)
  | 0, i, _, _ => by rw [bitsT, bt_0]; simp
  | n + 1, i, hn, hi => by
    have ih := bt_bitsT (p := p) n (i := i) (by omega) hi
    rw [bitsT]
    by_cases h : p n = true
    · rw [if_pos h, bt_or, ih, bt_sh (by omega) hi]
      by_cases q : i = n
      · subst q; simp [h]
      · rw [show decide (i = n) = false from decide_eq_false q, Bool.or_false]
        congr 1
        exact decide_eq_decide.mpr (by omega)
    · rw [if_neg h, ih]
      by_cases q : i = n
      · subst q; simp [h]
      · congr 1
        exact decide_eq_decide.mpr (by omega)
theorem bt_orS {f : Nat → Int32} : ∀ (n : Nat) {i : Nat}, n ≤ 10 → i < 32 → (∀ k, k < n → f k = 0 ∨ f k = 1) → bt (orS f n) i = (decide (i < n) && decide (f i = 1))
  | 0, i, _, _, _ => by rw [orS, bt_0]; simp
  | n + 1, i, hn, hi, hf => by
    have ih := bt_orS (f := f) n (i := i) (by omega) hi (fun k hk => hf k (by omega))
    rw [orS, bt_or, ih]
    by_cases q : i = n
    · subst q
      rcases hf i (by omega) with h | h
      · rw [h, sh_0 (by omega), bt_0]; simp
      · rw [h, bt_sh (by omega) hi]; simp
    · have e : bt (f n <<< (nI n &&& 31)) i = false := by
        rcases hf n (by omega) with h | h
        · rw [h, sh_0 (by omega), bt_0]
        · rw [h, bt_sh (by omega) hi]; exact decide_eq_false q
      rw [e, Bool.or_false]
      congr 1
      exact decide_eq_decide.mpr (by omega)
theorem bt_at_all : ∀ v : Nat, v < 1024 → ∀ g : Nat, g < 10 → (((nI v >>> (nI g &&& 31)) &&& 1 = 1) ↔ bt (nI v) g = true) := by decide +kernel
theorem bt_at {v : Int32} (h : S10 v) {g : Nat} (hg : g < 10) : ((v >>> (nI g &&& 31)) &&& 1 = 1) ↔ bt v g = true := by
  obtain ⟨k, hk, rfl⟩ := h
  exact bt_at_all k hk g hg
theorem S10_bt {v : Int32} (h : S10 v) {i : Nat} (hi : 10 ≤ i) : bt v i = false := by
  rw [S10_iff] at h
  unfold bt
  rw [BitVec.getLsbD]
  exact Nat.testBit_lt_two_pow (Nat.lt_of_lt_of_le h (Nat.pow_le_pow_right (n := 2) (by decide) hi))
theorem S10_of_bt {v : Int32} (h : ∀ i, 10 ≤ i → i < 32 → bt v i = false) : S10 v := by
  rw [S10_iff]
  refine Nat.lt_pow_two_of_testBit (n := 10) _ fun i hi => ?_
  by_cases q : i < 32
  · exact h i hi q
  · exact BitVec.getLsbD_of_ge v.toBitVec i (by omega)
theorem bt_shl_all : ∀ v : Nat, v < 1024 → ∀ i : Nat, i < 32 → bt (nI v <<< (1 &&& 31)) i = (decide (0 < i) && bt (nI v) (i - 1)) := by decide +kernel
theorem bt_shr_all : ∀ v : Nat, v < 1024 → ∀ i : Nat, i < 32 → bt (nI v >>> (1 &&& 31)) i = bt (nI v) (i + 1) := by decide +kernel
theorem bt_shl {v : Int32} (h : S10 v) {i : Nat} (hi : i < 32) : bt (v <<< (1 &&& 31)) i = (decide (0 < i) && bt v (i - 1)) := by
  obtain ⟨k, hk, rfl⟩ := h
  exact bt_shl_all k hk i hi
theorem bt_shr {v : Int32} (h : S10 v) {i : Nat} (hi : i < 32) : bt (v >>> (1 &&& 31)) i = bt v (i + 1) := by
  obtain ⟨k, hk, rfl⟩ := h
  exact bt_shr_all k hk i hi
/-- two sets are alike by their ten bits -/
theorem S10_ext {v w : Int32} (hv : S10 v) (hw : S10 w) (h : ∀ i, i < 10 → bt v i = bt w i) : v = w := bt_ext fun i hi => by
  by_cases q : i < 10
  · exact h i q
  · rw [S10_bt hv (by omega), S10_bt hw (by omega)]
