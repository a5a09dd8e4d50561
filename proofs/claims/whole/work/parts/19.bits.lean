/-! sets of guests -/
theorem nI_bv (n : Nat) : (nI n).toBitVec = BitVec.ofNat 32 n := rfl
theorem S10_iff {v : Int32} : S10 v ↔ v.toBitVec.toNat < 1024 := by
  constructor
  · rintro ⟨k, hk, rfl⟩
    rw [nI_bv, BitVec.toNat_ofNat]
    exact Nat.lt_of_le_of_lt (Nat.mod_le _ _) hk
  · intro h
    refine ⟨v.toBitVec.toNat, h, Int32.toBitVec_inj.mp ?_⟩
    rw [nI_bv]
    exact BitVec.eq_of_toNat_eq (by rw [BitVec.toNat_ofNat]; exact (Nat.mod_eq_of_lt (by omega)).symm)
theorem S10_and {a b : Int32} (h : S10 a) : S10 (a &&& b) := by
  rw [S10_iff] at h ⊢
  rw [Int32.toBitVec_and, BitVec.toNat_and]
  exact Nat.lt_of_le_of_lt Nat.and_le_left h
theorem S10_andr {a b : Int32} (h : S10 b) : S10 (a &&& b) := by
  rw [S10_iff] at h ⊢
  rw [Int32.toBitVec_and, BitVec.toNat_and]
  exact Nat.lt_of_le_of_lt Nat.and_le_right h
theorem S10_or {a b : Int32} (h : S10 a) (h' : S10 b) : S10 (a ||| b) := by
  rw [S10_iff] at h h' ⊢
  rw [Int32.toBitVec_or, BitVec.toNat_or]
  exact Nat.or_lt_two_pow (n := 10) h h'
theorem S10_0 : S10 0 := ⟨0, by decide, rfl⟩
theorem S10_sh {k : Nat} (hk : k < 10) : S10 (1 <<< (nI k &&& 31)) := by
  have h : ∀ k : Nat, k < 10 → (1 <<< (nI k &&& 31) : Int32) = nI (2 ^ k) := by decide
  exact ⟨2 ^ k, Nat.lt_of_le_of_lt (Nat.pow_le_pow_right (by decide) (show k ≤ 9 by omega)) (by decide), h k hk⟩
theorem sh_0 {k : Nat} (hk : k < 10) : (0 : Int32) <<< (nI k &&& 31) = 0 := (by decide : ∀ k : Nat, k < 10 → (0 : Int32) <<< (nI k &&& 31) = 0) k hk
theorem S10_bitsT {p : Nat → Bool} : ∀ n : Nat, n ≤ 10 → S10 (bitsT p n)
  | 0, _ => S10_0
  | n + 1, h => by
    rw [bitsT]
    split
    · exact S10_or (S10_bitsT n (by omega)) (S10_sh (by omega))
    · exact S10_bitsT n (by omega)
theorem S10_orS {f : Nat → Int32} : ∀ n : Nat, n ≤ 10 → (∀ i, i < n → f i = 0 ∨ f i = 1) → S10 (orS f n)
  | 0, _, _ => S10_0
  | n + 1, h, hf => by
    rw [orS]
    refine S10_or (S10_orS n (by omega) (fun i hi => hf i (by omega))) ?_
    rcases hf n (by omega) with q | q
    · rw [q, sh_0 (by omega)]; exact S10_0
    · rw [q]; exact S10_sh (by omega)
theorem okv_01 {w : Nat} {v : Int32} (hw : w = 4 ∨ w = 5) (h : okv w v) : v = 0 ∨ v = 1 := by
  have h2 : 0 ≤ v.toInt ∧ v.toInt ≤ 1 := by rcases hw with rfl | rfl <;> exact h
  rcases (show v.toInt = 0 ∨ v.toInt = 1 by omega) with q | q
  · exact Or.inl (Int32.toInt_inj.mp q)
  · exact Or.inr (Int32.toInt_inj.mp q)
theorem CPg.must {x y : XS} (h : CPg x y) : S10 (mustB y) := S10_orS _ h.1.2 fun i hi => okv_01 (Or.inl rfl) (h.2.2.1 4 (by omega) i hi).2
theorem CPg.host {x y : XS} (h : CPg x y) : S10 (hostB y) := S10_orS _ h.1.2 fun i hi => okv_01 (Or.inr rfl) (h.2.2.1 5 (by omega) i hi).2
theorem CPg.x52 {x y : XS} (h : CPg x y) : x.1 52 = mustB y := h.2.2.2.2.2.2.1
theorem CPg.x53 {x y : XS} (h : CPg x y) : x.1 53 = hostB y := h.2.2.2.2.2.2.2
theorem S10_thI {y : XS} {r m : Int32} (h : nG y ≤ 10) : S10 (thI y r m) := S10_bitsT _ h
theorem and_m1 (v : Int32) : v &&& (0 ^^^ -1) = v := by
  rw [show (0 ^^^ -1 : Int32) = -1 by decide]
  exact Int32.toBitVec_inj.mp (by rw [Int32.toBitVec_and, show (-1 : Int32).toBitVec = BitVec.allOnes 32 by decide, BitVec.and_allOnes])
def us (x : Int32) (n : Int32) : Int32 := (x.toUInt32 >>> (n.toUInt32 &&& Int32.toUInt32 31)).toInt32
def bc1 (x : Int32) : Int32 := x - (us x 1 &&& 1431655765)
def bc2 (x : Int32) : Int32 := (x &&& 858993459) + (us x 2 &&& 858993459)
def bc3 (x : Int32) : Int32 := (x + us x 4) &&& 252645135
def bc4 (x : Int32) : Int32 := x + us x 8
def bc5 (x : Int32) : Int32 := x + us x 16
def bcJ (x : Int32) : Int32 := bc5 (bc4 (bc3 (bc2 (bc1 x)))) &&& 63
def kN : Nat → Int32 → Int32 → Int32
  | 0, _, c => c
  | j + 1, v, c => if v = 0 then c else kN j (v &&& (v - 1)) (c + 1)
def kZ : Nat → Int32 → Bool
  | 0, v => v == 0
  | j + 1, v => v == 0 || kZ j (v &&& (v - 1))
theorem kern_all : ∀ k : Nat, k < 1024 → kZ 10 (nI k) = true ∧ kN 10 (nI k) 0 = bcJ (nI k) ∧ 0 ≤ (bcJ (nI k)).toInt ∧ (bcJ (nI k)).toInt ≤ 10 := by decide +kernel
theorem kern_S {v : Int32} (h : S10 v) : kZ 10 v = true ∧ kN 10 v 0 = bcJ v ∧ 0 ≤ (bcJ v).toInt ∧ (bcJ v).toInt ≤ 10 := by
  obtain ⟨k, hk, rfl⟩ := h
  exact kern_all k hk
theorem sp_J_bitCount {z : ZS} {post : Option Value → List PE → Prop} {x y : XS}  {v : Int32}  (h : post (some (.int (bcJ v))) (E x y)) : PW (0, 0, 0, z) m_J_bitCount post 0 [some (.int v)] [] (E x y) := by
  refine PW_iload_n c_J_bitCount_0 rfl ?_
  refine PW_iload_n c_J_bitCount_1 rfl ?_
  refine PW_iconst (v := 1) c_J_bitCount_2 (by decide) ?_
  refine PW_iushr c_J_bitCount_3 ?_
  refine PW_ldcw c_J_bitCount_4 kk_J_265 ?_
  refine PW_iand c_J_bitCount_7 ?_
  refine PW_isub c_J_bitCount_8 ?_
  refine PW_istore_n (i := 0) (L2 := [some (.int (v - (((v.toUInt32 >>> ((1 : Int32).toUInt32 &&& Int32.toUInt32 31)).toInt32) &&& 1431655765)))]) c_J_bitCount_9 rfl (Nat.le_of_ble_eq_true rfl) rfl rfl ?_
  refine PW_iload_n c_J_bitCount_10 rfl ?_
  refine PW_ldcw c_J_bitCount_11 kk_J_266 ?_
  refine PW_iand c_J_bitCount_14 ?_
  refine PW_iload_n c_J_bitCount_15 rfl ?_
  refine PW_iconst (v := 2) c_J_bitCount_16 (by decide) ?_
  refine PW_iushr c_J_bitCount_17 ?_
  refine PW_ldcw c_J_bitCount_18 kk_J_266 ?_
  refine PW_iand c_J_bitCount_21 ?_
  refine PW_iadd c_J_bitCount_22 ?_
  refine PW_istore_n (i := 0) (L2 := [some (.int (((v - (((v.toUInt32 >>> ((1 : Int32).toUInt32 &&& Int32.toUInt32 31)).toInt32) &&& 1431655765)) &&& 858993459) + ((((v - (((v.toUInt32 >>> ((1 : Int32).toUInt32 &&& Int32.toUInt32 31)).toInt32) &&& 1431655765)).toUInt32 >>> ((2 : Int32).toUInt32 &&& Int32.toUInt32 31)).toInt32) &&& 858993459)))]) c_J_bitCount_23 rfl (Nat.le_of_ble_eq_true rfl) rfl rfl ?_
  refine PW_iload_n c_J_bitCount_24 rfl ?_
  refine PW_iload_n c_J_bitCount_25 rfl ?_
  refine PW_iconst (v := 4) c_J_bitCount_26 (by decide) ?_
  refine PW_iushr c_J_bitCount_27 ?_
  refine PW_iadd c_J_bitCount_28 ?_
  refine PW_ldcw c_J_bitCount_29 kk_J_267 ?_
  refine PW_iand c_J_bitCount_32 ?_
  refine PW_istore_n (i := 0) (L2 := [some (.int (((((v - (((v.toUInt32 >>> ((1 : Int32).toUInt32 &&& Int32.toUInt32 31)).toInt32) &&& 1431655765)) &&& 858993459) + ((((v - (((v.toUInt32 >>> ((1 : Int32).toUInt32 &&& Int32.toUInt32 31)).toInt32) &&& 1431655765)).toUInt32 >>> ((2 : Int32).toUInt32 &&& Int32.toUInt32 31)).toInt32) &&& 858993459)) + (((((v - (((v.toUInt32 >>> ((1 : Int32).toUInt32 &&& Int32.toUInt32 31)).toInt32) &&& 1431655765)) &&& 858993459) + ((((v - (((v.toUInt32 >>> ((1 : Int32).toUInt32 &&& Int32.toUInt32 31)).toInt32) &&& 1431655765)).toUInt32 >>> ((2 : Int32).toUInt32 &&& Int32.toUInt32 31)).toInt32) &&& 858993459)).toUInt32 >>> ((4 : Int32).toUInt32 &&& Int32.toUInt32 31)).toInt32)) &&& 252645135))]) c_J_bitCount_33 rfl (Nat.le_of_ble_eq_true rfl) rfl rfl ?_
  refine PW_iload_n c_J_bitCount_34 rfl ?_
  refine PW_iload_n c_J_bitCount_35 rfl ?_
  refine PW_bipush (v := 8) c_J_bitCount_36 (by decide) ?_
  refine PW_iushr c_J_bitCount_38 ?_
  refine PW_iadd c_J_bitCount_39 ?_
  refine PW_istore_n (i := 0) (L2 := [some (.int ((((((v - (((v.toUInt32 >>> ((1 : Int32).toUInt32 &&& Int32.toUInt32 31)).toInt32) &&& 1431655765)) &&& 858993459) + ((((v - (((v.toUInt32 >>> ((1 : Int32).toUInt32 &&& Int32.toUInt32 31)).toInt32) &&& 1431655765)).toUInt32 >>> ((2 : Int32).toUInt32 &&& Int32.toUInt32 31)).toInt32) &&& 858993459)) + (((((v - (((v.toUInt32 >>> ((1 : Int32).toUInt32 &&& Int32.toUInt32 31)).toInt32) &&& 1431655765)) &&& 858993459) + ((((v - (((v.toUInt32 >>> ((1 : Int32).toUInt32 &&& Int32.toUInt32 31)).toInt32) &&& 1431655765)).toUInt32 >>> ((2 : Int32).toUInt32 &&& Int32.toUInt32 31)).toInt32) &&& 858993459)).toUInt32 >>> ((4 : Int32).toUInt32 &&& Int32.toUInt32 31)).toInt32)) &&& 252645135) + (((((((v - (((v.toUInt32 >>> ((1 : Int32).toUInt32 &&& Int32.toUInt32 31)).toInt32) &&& 1431655765)) &&& 858993459) + ((((v - (((v.toUInt32 >>> ((1 : Int32).toUInt32 &&& Int32.toUInt32 31)).toInt32) &&& 1431655765)).toUInt32 >>> ((2 : Int32).toUInt32 &&& Int32.toUInt32 31)).toInt32) &&& 858993459)) + (((((v - (((v.toUInt32 >>> ((1 : Int32).toUInt32 &&& Int32.toUInt32 31)).toInt32) &&& 1431655765)) &&& 858993459) + ((((v - (((v.toUInt32 >>> ((1 : Int32).toUInt32 &&& Int32.toUInt32 31)).toInt32) &&& 1431655765)).toUInt32 >>> ((2 : Int32).toUInt32 &&& Int32.toUInt32 31)).toInt32) &&& 858993459)).toUInt32 >>> ((4 : Int32).toUInt32 &&& Int32.toUInt32 31)).toInt32)) &&& 252645135).toUInt32 >>> ((8 : Int32).toUInt32 &&& Int32.toUInt32 31)).toInt32)))]) c_J_bitCount_40 rfl (Nat.le_of_ble_eq_true rfl) rfl rfl ?_
  refine PW_iload_n c_J_bitCount_41 rfl ?_
  refine PW_iload_n c_J_bitCount_42 rfl ?_
  refine PW_bipush (v := 16) c_J_bitCount_43 (by decide) ?_
  refine PW_iushr c_J_bitCount_45 ?_
  refine PW_iadd c_J_bitCount_46 ?_
  refine PW_istore_n (i := 0) (L2 := [some (.int (((((((v - (((v.toUInt32 >>> ((1 : Int32).toUInt32 &&& Int32.toUInt32 31)).toInt32) &&& 1431655765)) &&& 858993459) + ((((v - (((v.toUInt32 >>> ((1 : Int32).toUInt32 &&& Int32.toUInt32 31)).toInt32) &&& 1431655765)).toUInt32 >>> ((2 : Int32).toUInt32 &&& Int32.toUInt32 31)).toInt32) &&& 858993459)) + (((((v - (((v.toUInt32 >>> ((1 : Int32).toUInt32 &&& Int32.toUInt32 31)).toInt32) &&& 1431655765)) &&& 858993459) + ((((v - (((v.toUInt32 >>> ((1 : Int32).toUInt32 &&& Int32.toUInt32 31)).toInt32) &&& 1431655765)).toUInt32 >>> ((2 : Int32).toUInt32 &&& Int32.toUInt32 31)).toInt32) &&& 858993459)).toUInt32 >>> ((4 : Int32).toUInt32 &&& Int32.toUInt32 31)).toInt32)) &&& 252645135) + (((((((v - (((v.toUInt32 >>> ((1 : Int32).toUInt32 &&& Int32.toUInt32 31)).toInt32) &&& 1431655765)) &&& 858993459) + ((((v - (((v.toUInt32 >>> ((1 : Int32).toUInt32 &&& Int32.toUInt32 31)).toInt32) &&& 1431655765)).toUInt32 >>> ((2 : Int32).toUInt32 &&& Int32.toUInt32 31)).toInt32) &&& 858993459)) + (((((v - (((v.toUInt32 >>> ((1 : Int32).toUInt32 &&& Int32.toUInt32 31)).toInt32) &&& 1431655765)) &&& 858993459) + ((((v - (((v.toUInt32 >>> ((1 : Int32).toUInt32 &&& Int32.toUInt32 31)).toInt32) &&& 1431655765)).toUInt32 >>> ((2 : Int32).toUInt32 &&& Int32.toUInt32 31)).toInt32) &&& 858993459)).toUInt32 >>> ((4 : Int32).toUInt32 &&& Int32.toUInt32 31)).toInt32)) &&& 252645135).toUInt32 >>> ((8 : Int32).toUInt32 &&& Int32.toUInt32 31)).toInt32)) + ((((((((v - (((v.toUInt32 >>> ((1 : Int32).toUInt32 &&& Int32.toUInt32 31)).toInt32) &&& 1431655765)) &&& 858993459) + ((((v - (((v.toUInt32 >>> ((1 : Int32).toUInt32 &&& Int32.toUInt32 31)).toInt32) &&& 1431655765)).toUInt32 >>> ((2 : Int32).toUInt32 &&& Int32.toUInt32 31)).toInt32) &&& 858993459)) + (((((v - (((v.toUInt32 >>> ((1 : Int32).toUInt32 &&& Int32.toUInt32 31)).toInt32) &&& 1431655765)) &&& 858993459) + ((((v - (((v.toUInt32 >>> ((1 : Int32).toUInt32 &&& Int32.toUInt32 31)).toInt32) &&& 1431655765)).toUInt32 >>> ((2 : Int32).toUInt32 &&& Int32.toUInt32 31)).toInt32) &&& 858993459)).toUInt32 >>> ((4 : Int32).toUInt32 &&& Int32.toUInt32 31)).toInt32)) &&& 252645135) + (((((((v - (((v.toUInt32 >>> ((1 : Int32).toUInt32 &&& Int32.toUInt32 31)).toInt32) &&& 1431655765)) &&& 858993459) + ((((v - (((v.toUInt32 >>> ((1 : Int32).toUInt32 &&& Int32.toUInt32 31)).toInt32) &&& 1431655765)).toUInt32 >>> ((2 : Int32).toUInt32 &&& Int32.toUInt32 31)).toInt32) &&& 858993459)) + (((((v - (((v.toUInt32 >>> ((1 : Int32).toUInt32 &&& Int32.toUInt32 31)).toInt32) &&& 1431655765)) &&& 858993459) + ((((v - (((v.toUInt32 >>> ((1 : Int32).toUInt32 &&& Int32.toUInt32 31)).toInt32) &&& 1431655765)).toUInt32 >>> ((2 : Int32).toUInt32 &&& Int32.toUInt32 31)).toInt32) &&& 858993459)).toUInt32 >>> ((4 : Int32).toUInt32 &&& Int32.toUInt32 31)).toInt32)) &&& 252645135).toUInt32 >>> ((8 : Int32).toUInt32 &&& Int32.toUInt32 31)).toInt32)).toUInt32 >>> ((16 : Int32).toUInt32 &&& Int32.toUInt32 31)).toInt32)))]) c_J_bitCount_47 rfl (Nat.le_of_ble_eq_true rfl) rfl rfl ?_
  refine PW_iload_n c_J_bitCount_48 rfl ?_
  refine PW_bipush (v := 63) c_J_bitCount_49 (by decide) ?_
  refine PW_iand c_J_bitCount_51 ?_
  refine PW_ireturn (ty := .int) c_J_bitCount_52 rfl rfl ?_
  exact h
theorem lp_M_bitsOf {z : ZS} {post : Option Value → List PE → Prop} {x y : XS} {a : Int32} : ∀ (j : Nat) (v c : Int32), kZ j v = true → post (some (.int (kN j v c))) (E x y) → PW (0, 0, 0, z) m_M_bitsOf post 4 [some (.int a), some (.int c), some (.int v)] [] (E x y) := by
  intro j
  induction j with
  | zero =>
    intro v c hz h
    have hv : v = 0 := by simpa [kZ] using hz
    refine PW_iload_n c_M_bitsOf_4 rfl ?_
    refine PW_if_eq c_M_bitsOf_5 (fun h0 => ?_) (fun h0 => absurd hv h0)
    refine PW_iload_n c_M_bitsOf_20 rfl ?_
    refine PW_ireturn (ty := .int) c_M_bitsOf_21 rfl rfl ?_
    exact h
  | succ j ih =>
    intro v c hz h
    by_cases hv : v = 0
    · rw [kN, if_pos hv] at h
      refine PW_iload_n c_M_bitsOf_4 rfl ?_
      refine PW_if_eq c_M_bitsOf_5 (fun h0 => ?_) (fun h0 => absurd hv h0)
      refine PW_iload_n c_M_bitsOf_20 rfl ?_
      refine PW_ireturn (ty := .int) c_M_bitsOf_21 rfl rfl ?_
      exact h
    · rw [kN, if_neg hv] at h
      have hz : kZ j (v &&& (v - 1)) = true := by simpa [kZ, hv] using hz
      refine PW_iload_n c_M_bitsOf_4 rfl ?_
      refine PW_if_eq c_M_bitsOf_5 (fun h0 => absurd h0 hv) (fun h0 => ?_)
      refine PW_iinc (i := 1) (v := c + 1) (L2 := [some (.int a), some (.int (c + 1)), some (.int v)]) c_M_bitsOf_8 rfl (iinc_v (by decide)) (Nat.le_of_ble_eq_true rfl) rfl rfl ?_
      refine PW_iload_n c_M_bitsOf_11 rfl ?_
      refine PW_iload_n c_M_bitsOf_12 rfl ?_
      refine PW_iconst (v := 1) c_M_bitsOf_13 (by decide) ?_
      refine PW_isub c_M_bitsOf_14 ?_
      refine PW_iand c_M_bitsOf_15 ?_
      refine PW_istore_n (i := 2) (L2 := [some (.int a), some (.int (c + 1)), some (.int (v &&& (v - 1)))]) c_M_bitsOf_16 rfl (Nat.le_of_ble_eq_true rfl) rfl rfl ?_
      refine PW_goto c_M_bitsOf_17 ?_
      exact ih (v &&& (v - 1)) (c + 1) hz h
theorem sp_M_bitsOf {z : ZS} {post : Option Value → List PE → Prop} {x y : XS}  {v : Int32} (hv : S10 v) (h : post (some (.int (bcJ v))) (E x y)) : PW (0, 0, 0, z) m_M_bitsOf post 0 [some (.int v), none, none] [] (E x y) := by
  refine PW_iconst (v := 0) c_M_bitsOf_0 (by decide) ?_
  refine PW_istore_n (i := 1) (L2 := [some (.int v), some (.int 0), none]) c_M_bitsOf_1 rfl (Nat.le_of_ble_eq_true rfl) rfl rfl ?_
  refine PW_iload_n c_M_bitsOf_2 rfl ?_
  refine PW_istore_n (i := 2) (L2 := [some (.int v), some (.int 0), some (.int v)]) c_M_bitsOf_3 rfl (Nat.le_of_ble_eq_true rfl) rfl rfl ?_
  exact lp_M_bitsOf 10 _ _ (kern_S hv).1 (by rw [(kern_S hv).2.1]; exact h)
def chU : Nat → List Int32
  | 0 => [0]
  | 1 => [1, 0]
  | 2 => [2, 0]
  | 3 => [3, 2, 0]
  | 4 => [4, 1, 0]
  | 5 => [5, 3, 2, 0]
  | 6 => [6, 0]
  | 7 => [7, 6, 0]
  | _ => []
theorem sp_kab0 {z : ZS} {post : Option Value → List PE → Prop} {x y : XS} (h : post (some (.int (-1))) (E x y)) : PW (0, 0, 0, z) m_B_kindAbove post 0 [some (.int 0)] [] (E x y) := by
  refine PW_iload_n c_B_kindAbove_0 rfl ?_
  refine PW_if_lt c_B_kindAbove_1 (fun h0 => absurd h0 (by decide)) (fun _ => ?_)
  refine PW_iload_n c_B_kindAbove_4 rfl ?_
  refine PW_gets (j := 2) c_B_kindAbove_5 (by decide) sl_B_26 ?_
  refine PW_rolen (v := 8) c_B_kindAbove_8 (by decide) (by decide) ?_
  refine PW_icmp_ge c_B_kindAbove_9 (fun h1 => absurd h1 (by decide)) (fun _ => ?_)
  refine PW_gets (j := 2) c_B_kindAbove_12 (by decide) sl_B_26 ?_
  refine PW_iload_n c_B_kindAbove_15 rfl ?_
  refine PW_roald (j := 2) (q := 0) c_B_kindAbove_16 (by decide) (vp_in_iff.mpr (by decide)) rfl rfl ?_
  show PW _ _ _ 17 [some (.int 0)] [.int ((roT 2).2.2.getD 0 0)] (E x y)
  refine PW_goto c_B_kindAbove_17 ?_
  refine PW_ireturn (ty := .int) c_B_kindAbove_21 rfl rfl ?_
  exact h
theorem sp_kab1 {z : ZS} {post : Option Value → List PE → Prop} {x y : XS} (h : post (some (.int (0))) (E x y)) : PW (0, 0, 0, z) m_B_kindAbove post 0 [some (.int 1)] [] (E x y) := by
  refine PW_iload_n c_B_kindAbove_0 rfl ?_
  refine PW_if_lt c_B_kindAbove_1 (fun h0 => absurd h0 (by decide)) (fun _ => ?_)
  refine PW_iload_n c_B_kindAbove_4 rfl ?_
  refine PW_gets (j := 2) c_B_kindAbove_5 (by decide) sl_B_26 ?_
  refine PW_rolen (v := 8) c_B_kindAbove_8 (by decide) (by decide) ?_
  refine PW_icmp_ge c_B_kindAbove_9 (fun h1 => absurd h1 (by decide)) (fun _ => ?_)
  refine PW_gets (j := 2) c_B_kindAbove_12 (by decide) sl_B_26 ?_
  refine PW_iload_n c_B_kindAbove_15 rfl ?_
  refine PW_roald (j := 2) (q := 1) c_B_kindAbove_16 (by decide) (vp_in_iff.mpr (by decide)) rfl rfl ?_
  show PW _ _ _ 17 [some (.int 1)] [.int ((roT 2).2.2.getD 1 0)] (E x y)
  refine PW_goto c_B_kindAbove_17 ?_
  refine PW_ireturn (ty := .int) c_B_kindAbove_21 rfl rfl ?_
  exact h
theorem sp_kab2 {z : ZS} {post : Option Value → List PE → Prop} {x y : XS} (h : post (some (.int (0))) (E x y)) : PW (0, 0, 0, z) m_B_kindAbove post 0 [some (.int 2)] [] (E x y) := by
  refine PW_iload_n c_B_kindAbove_0 rfl ?_
  refine PW_if_lt c_B_kindAbove_1 (fun h0 => absurd h0 (by decide)) (fun _ => ?_)
  refine PW_iload_n c_B_kindAbove_4 rfl ?_
  refine PW_gets (j := 2) c_B_kindAbove_5 (by decide) sl_B_26 ?_
  refine PW_rolen (v := 8) c_B_kindAbove_8 (by decide) (by decide) ?_
  refine PW_icmp_ge c_B_kindAbove_9 (fun h1 => absurd h1 (by decide)) (fun _ => ?_)
  refine PW_gets (j := 2) c_B_kindAbove_12 (by decide) sl_B_26 ?_
  refine PW_iload_n c_B_kindAbove_15 rfl ?_
  refine PW_roald (j := 2) (q := 2) c_B_kindAbove_16 (by decide) (vp_in_iff.mpr (by decide)) rfl rfl ?_
  show PW _ _ _ 17 [some (.int 2)] [.int ((roT 2).2.2.getD 2 0)] (E x y)
  refine PW_goto c_B_kindAbove_17 ?_
  refine PW_ireturn (ty := .int) c_B_kindAbove_21 rfl rfl ?_
  exact h
theorem sp_kab3 {z : ZS} {post : Option Value → List PE → Prop} {x y : XS} (h : post (some (.int (2))) (E x y)) : PW (0, 0, 0, z) m_B_kindAbove post 0 [some (.int 3)] [] (E x y) := by
  refine PW_iload_n c_B_kindAbove_0 rfl ?_
  refine PW_if_lt c_B_kindAbove_1 (fun h0 => absurd h0 (by decide)) (fun _ => ?_)
  refine PW_iload_n c_B_kindAbove_4 rfl ?_
  refine PW_gets (j := 2) c_B_kindAbove_5 (by decide) sl_B_26 ?_
  refine PW_rolen (v := 8) c_B_kindAbove_8 (by decide) (by decide) ?_
  refine PW_icmp_ge c_B_kindAbove_9 (fun h1 => absurd h1 (by decide)) (fun _ => ?_)
  refine PW_gets (j := 2) c_B_kindAbove_12 (by decide) sl_B_26 ?_
  refine PW_iload_n c_B_kindAbove_15 rfl ?_
  refine PW_roald (j := 2) (q := 3) c_B_kindAbove_16 (by decide) (vp_in_iff.mpr (by decide)) rfl rfl ?_
  show PW _ _ _ 17 [some (.int 3)] [.int ((roT 2).2.2.getD 3 0)] (E x y)
  refine PW_goto c_B_kindAbove_17 ?_
  refine PW_ireturn (ty := .int) c_B_kindAbove_21 rfl rfl ?_
  exact h
theorem sp_kab4 {z : ZS} {post : Option Value → List PE → Prop} {x y : XS} (h : post (some (.int (1))) (E x y)) : PW (0, 0, 0, z) m_B_kindAbove post 0 [some (.int 4)] [] (E x y) := by
  refine PW_iload_n c_B_kindAbove_0 rfl ?_
  refine PW_if_lt c_B_kindAbove_1 (fun h0 => absurd h0 (by decide)) (fun _ => ?_)
  refine PW_iload_n c_B_kindAbove_4 rfl ?_
  refine PW_gets (j := 2) c_B_kindAbove_5 (by decide) sl_B_26 ?_
  refine PW_rolen (v := 8) c_B_kindAbove_8 (by decide) (by decide) ?_
  refine PW_icmp_ge c_B_kindAbove_9 (fun h1 => absurd h1 (by decide)) (fun _ => ?_)
  refine PW_gets (j := 2) c_B_kindAbove_12 (by decide) sl_B_26 ?_
  refine PW_iload_n c_B_kindAbove_15 rfl ?_
  refine PW_roald (j := 2) (q := 4) c_B_kindAbove_16 (by decide) (vp_in_iff.mpr (by decide)) rfl rfl ?_
  show PW _ _ _ 17 [some (.int 4)] [.int ((roT 2).2.2.getD 4 0)] (E x y)
  refine PW_goto c_B_kindAbove_17 ?_
  refine PW_ireturn (ty := .int) c_B_kindAbove_21 rfl rfl ?_
  exact h
theorem sp_kab5 {z : ZS} {post : Option Value → List PE → Prop} {x y : XS} (h : post (some (.int (3))) (E x y)) : PW (0, 0, 0, z) m_B_kindAbove post 0 [some (.int 5)] [] (E x y) := by
  refine PW_iload_n c_B_kindAbove_0 rfl ?_
  refine PW_if_lt c_B_kindAbove_1 (fun h0 => absurd h0 (by decide)) (fun _ => ?_)
  refine PW_iload_n c_B_kindAbove_4 rfl ?_
  refine PW_gets (j := 2) c_B_kindAbove_5 (by decide) sl_B_26 ?_
  refine PW_rolen (v := 8) c_B_kindAbove_8 (by decide) (by decide) ?_
  refine PW_icmp_ge c_B_kindAbove_9 (fun h1 => absurd h1 (by decide)) (fun _ => ?_)
  refine PW_gets (j := 2) c_B_kindAbove_12 (by decide) sl_B_26 ?_
  refine PW_iload_n c_B_kindAbove_15 rfl ?_
  refine PW_roald (j := 2) (q := 5) c_B_kindAbove_16 (by decide) (vp_in_iff.mpr (by decide)) rfl rfl ?_
  show PW _ _ _ 17 [some (.int 5)] [.int ((roT 2).2.2.getD 5 0)] (E x y)
  refine PW_goto c_B_kindAbove_17 ?_
  refine PW_ireturn (ty := .int) c_B_kindAbove_21 rfl rfl ?_
  exact h
theorem sp_kab6 {z : ZS} {post : Option Value → List PE → Prop} {x y : XS} (h : post (some (.int (0))) (E x y)) : PW (0, 0, 0, z) m_B_kindAbove post 0 [some (.int 6)] [] (E x y) := by
  refine PW_iload_n c_B_kindAbove_0 rfl ?_
  refine PW_if_lt c_B_kindAbove_1 (fun h0 => absurd h0 (by decide)) (fun _ => ?_)
  refine PW_iload_n c_B_kindAbove_4 rfl ?_
  refine PW_gets (j := 2) c_B_kindAbove_5 (by decide) sl_B_26 ?_
  refine PW_rolen (v := 8) c_B_kindAbove_8 (by decide) (by decide) ?_
  refine PW_icmp_ge c_B_kindAbove_9 (fun h1 => absurd h1 (by decide)) (fun _ => ?_)
  refine PW_gets (j := 2) c_B_kindAbove_12 (by decide) sl_B_26 ?_
  refine PW_iload_n c_B_kindAbove_15 rfl ?_
  refine PW_roald (j := 2) (q := 6) c_B_kindAbove_16 (by decide) (vp_in_iff.mpr (by decide)) rfl rfl ?_
  show PW _ _ _ 17 [some (.int 6)] [.int ((roT 2).2.2.getD 6 0)] (E x y)
  refine PW_goto c_B_kindAbove_17 ?_
  refine PW_ireturn (ty := .int) c_B_kindAbove_21 rfl rfl ?_
  exact h
theorem sp_kab7 {z : ZS} {post : Option Value → List PE → Prop} {x y : XS} (h : post (some (.int (6))) (E x y)) : PW (0, 0, 0, z) m_B_kindAbove post 0 [some (.int 7)] [] (E x y) := by
  refine PW_iload_n c_B_kindAbove_0 rfl ?_
  refine PW_if_lt c_B_kindAbove_1 (fun h0 => absurd h0 (by decide)) (fun _ => ?_)
  refine PW_iload_n c_B_kindAbove_4 rfl ?_
  refine PW_gets (j := 2) c_B_kindAbove_5 (by decide) sl_B_26 ?_
  refine PW_rolen (v := 8) c_B_kindAbove_8 (by decide) (by decide) ?_
  refine PW_icmp_ge c_B_kindAbove_9 (fun h1 => absurd h1 (by decide)) (fun _ => ?_)
  refine PW_gets (j := 2) c_B_kindAbove_12 (by decide) sl_B_26 ?_
  refine PW_iload_n c_B_kindAbove_15 rfl ?_
  refine PW_roald (j := 2) (q := 7) c_B_kindAbove_16 (by decide) (vp_in_iff.mpr (by decide)) rfl rfl ?_
  show PW _ _ _ 17 [some (.int 7)] [.int ((roT 2).2.2.getD 7 0)] (E x y)
  refine PW_goto c_B_kindAbove_17 ?_
  refine PW_ireturn (ty := .int) c_B_kindAbove_21 rfl rfl ?_
  exact h
set_option maxHeartbeats 1000000 in
theorem sp_B_isUnder {z : ZS} {post : Option Value → List PE → Prop} {x y : XS} {k v : Int32} {u : Nat} (hk : k = nI u) (hu : u < 8) (h : post (some (.int (b2i (v ∈ chU u)))) (E x y)) : PW (1, 0, 0, z) m_B_isUnder post 0 [some (.int k), some (.int v), none, none] [] (E x y) := by
  subst hk
  rcases (show u = 0 ∨ u = 1 ∨ u = 2 ∨ u = 3 ∨ u = 4 ∨ u = 5 ∨ u = 6 ∨ u = 7 by omega) with hu | hu | hu | hu | hu | hu | hu | hu
  · subst hu
    show PW (1, 0, 0, z) m_B_isUnder post 0 [some (.int 0), some (.int v), none, none] [] (E x y)
    refine PW_iload_n c_B_isUnder_0 rfl ?_
    refine PW_istore_n (i := 2) (L2 := [some (.int 0), some (.int v), some (.int 0), none]) c_B_isUnder_1 rfl (Nat.le_of_ble_eq_true rfl) rfl rfl ?_
    refine PW_iconst (v := 0) c_B_isUnder_2 (by decide) ?_
    refine PW_istore_n (i := 3) (L2 := [some (.int 0), some (.int v), some (.int 0), some (.int 0)]) c_B_isUnder_3 rfl (Nat.le_of_ble_eq_true rfl) rfl rfl ?_
    refine PW_iload_n c_B_isUnder_4 rfl ?_
    refine PW_bipush (v := 8) c_B_isUnder_5 (by decide) ?_
    refine PW_icmp_ge c_B_isUnder_7 (fun h0 => absurd h0 (by decide)) (fun _ => ?_)
    refine PW_iload_n c_B_isUnder_10 rfl ?_
    refine PW_S0 (d2 := 0) (st := []) [.int 0] c_B_isUnder_11 lk_B_isUnder_18 rfl rfl rfl (Nat.le_of_ble_eq_true rfl) (by first | decide | omega) (Nat.le_of_ble_eq_true rfl) ?_
    show PW _ _ _ 0 [some (.int 0)] [] (E x y)
    refine PW_iload_n c_B_isKind_0 rfl ?_
    refine PW_if_lt c_B_isKind_1 (fun h1 => absurd h1 (by decide)) (fun _ => ?_)
    refine PW_iload_n c_B_isKind_4 rfl ?_
    refine PW_bipush (v := 8) c_B_isKind_5 (by decide) ?_
    refine PW_icmp_ge c_B_isKind_7 (fun h2 => absurd h2 (by decide)) (fun _ => ?_)
    refine PW_iconst (v := 1) c_B_isKind_10 (by decide) ?_
    refine PW_goto c_B_isKind_11 ?_
    refine PW_ireturn (ty := .boolean) c_B_isKind_15 rfl (by decide +kernel) ?_
    show PW _ _ _ 14 [some (.int 0), some (.int v), some (.int 0), some (.int 0)] [.int 1] (E x y)
    refine PW_if_eq c_B_isUnder_14 (fun h3 => absurd h3 (by decide)) (fun _ => ?_)
    refine PW_iload_n c_B_isUnder_17 rfl ?_
    refine PW_iload_n c_B_isUnder_18 rfl ?_
    refine PW_icmp_ne c_B_isUnder_19 (fun h4 => ?_) (fun h4 => ?_)
    · refine PW_iload_n c_B_isUnder_24 rfl ?_
      refine PW_S0 (d2 := 0) (st := []) [.int 0] c_B_isUnder_25 lk_B_isUnder_22 rfl rfl rfl (Nat.le_of_ble_eq_true rfl) (by first | decide | omega) (Nat.le_of_ble_eq_true rfl) ?_
      refine sp_kab0 ?_
      show PW _ _ _ 28 [some (.int 0), some (.int v), some (.int 0), some (.int 0)] [.int (-1)] (E x y)
      refine PW_istore_n (i := 2) (L2 := [some (.int 0), some (.int v), some (.int (-1)), some (.int 0)]) c_B_isUnder_28 rfl (Nat.le_of_ble_eq_true rfl) rfl rfl ?_
      refine PW_iinc (i := 3) (v := 1) (L2 := [some (.int 0), some (.int v), some (.int (-1)), some (.int 1)]) c_B_isUnder_29 rfl (by decide) (Nat.le_of_ble_eq_true rfl) rfl rfl ?_
      refine PW_goto c_B_isUnder_32 ?_
      refine PW_iload_n c_B_isUnder_4 rfl ?_
      refine PW_bipush (v := 8) c_B_isUnder_5 (by decide) ?_
      refine PW_icmp_ge c_B_isUnder_7 (fun h5 => absurd h5 (by decide)) (fun _ => ?_)
      refine PW_iload_n c_B_isUnder_10 rfl ?_
      refine PW_S0 (d2 := 0) (st := []) [.int (-1)] c_B_isUnder_11 lk_B_isUnder_18 rfl rfl rfl (Nat.le_of_ble_eq_true rfl) (by first | decide | omega) (Nat.le_of_ble_eq_true rfl) ?_
      show PW _ _ _ 0 [some (.int (-1))] [] (E x y)
      refine PW_iload_n c_B_isKind_0 rfl ?_
      refine PW_if_lt c_B_isKind_1 (fun _ => ?_) (fun h6 => absurd (by decide) h6)
      refine PW_iconst (v := 0) c_B_isKind_14 (by decide) ?_
      refine PW_ireturn (ty := .boolean) c_B_isKind_15 rfl (by decide +kernel) ?_
      show PW _ _ _ 14 [some (.int 0), some (.int v), some (.int (-1)), some (.int 1)] [.int 0] (E x y)
      refine PW_if_eq c_B_isUnder_14 (fun _ => ?_) (fun h7 => absurd (by decide) h7)
      refine PW_iconst (v := 0) c_B_isUnder_35 (by decide) ?_
      refine PW_ireturn (ty := .boolean) c_B_isUnder_36 rfl (by decide +kernel) ?_
      exact pq0 h (by simp only [chU, List.mem_cons, List.not_mem_nil, or_false, ← Int32.toInt_inj, tiA] at *; omega)
    · refine PW_iconst (v := 1) c_B_isUnder_22 (by decide) ?_
      refine PW_ireturn (ty := .boolean) c_B_isUnder_23 rfl (by decide +kernel) ?_
      exact pq1 h (by simp only [chU, List.mem_cons, List.not_mem_nil, or_false, ← Int32.toInt_inj, tiA] at *; omega)
  · subst hu
    show PW (1, 0, 0, z) m_B_isUnder post 0 [some (.int 1), some (.int v), none, none] [] (E x y)
    refine PW_iload_n c_B_isUnder_0 rfl ?_
    refine PW_istore_n (i := 2) (L2 := [some (.int 1), some (.int v), some (.int 1), none]) c_B_isUnder_1 rfl (Nat.le_of_ble_eq_true rfl) rfl rfl ?_
    refine PW_iconst (v := 0) c_B_isUnder_2 (by decide) ?_
    refine PW_istore_n (i := 3) (L2 := [some (.int 1), some (.int v), some (.int 1), some (.int 0)]) c_B_isUnder_3 rfl (Nat.le_of_ble_eq_true rfl) rfl rfl ?_
    refine PW_iload_n c_B_isUnder_4 rfl ?_
    refine PW_bipush (v := 8) c_B_isUnder_5 (by decide) ?_
    refine PW_icmp_ge c_B_isUnder_7 (fun h0 => absurd h0 (by decide)) (fun _ => ?_)
    refine PW_iload_n c_B_isUnder_10 rfl ?_
    refine PW_S0 (d2 := 0) (st := []) [.int 1] c_B_isUnder_11 lk_B_isUnder_18 rfl rfl rfl (Nat.le_of_ble_eq_true rfl) (by first | decide | omega) (Nat.le_of_ble_eq_true rfl) ?_
    show PW _ _ _ 0 [some (.int 1)] [] (E x y)
    refine PW_iload_n c_B_isKind_0 rfl ?_
    refine PW_if_lt c_B_isKind_1 (fun h1 => absurd h1 (by decide)) (fun _ => ?_)
    refine PW_iload_n c_B_isKind_4 rfl ?_
    refine PW_bipush (v := 8) c_B_isKind_5 (by decide) ?_
    refine PW_icmp_ge c_B_isKind_7 (fun h2 => absurd h2 (by decide)) (fun _ => ?_)
    refine PW_iconst (v := 1) c_B_isKind_10 (by decide) ?_
    refine PW_goto c_B_isKind_11 ?_
    refine PW_ireturn (ty := .boolean) c_B_isKind_15 rfl (by decide +kernel) ?_
    show PW _ _ _ 14 [some (.int 1), some (.int v), some (.int 1), some (.int 0)] [.int 1] (E x y)
    refine PW_if_eq c_B_isUnder_14 (fun h3 => absurd h3 (by decide)) (fun _ => ?_)
    refine PW_iload_n c_B_isUnder_17 rfl ?_
    refine PW_iload_n c_B_isUnder_18 rfl ?_
    refine PW_icmp_ne c_B_isUnder_19 (fun h4 => ?_) (fun h4 => ?_)
    · refine PW_iload_n c_B_isUnder_24 rfl ?_
      refine PW_S0 (d2 := 0) (st := []) [.int 1] c_B_isUnder_25 lk_B_isUnder_22 rfl rfl rfl (Nat.le_of_ble_eq_true rfl) (by first | decide | omega) (Nat.le_of_ble_eq_true rfl) ?_
      refine sp_kab1 ?_
      show PW _ _ _ 28 [some (.int 1), some (.int v), some (.int 1), some (.int 0)] [.int 0] (E x y)
      refine PW_istore_n (i := 2) (L2 := [some (.int 1), some (.int v), some (.int 0), some (.int 0)]) c_B_isUnder_28 rfl (Nat.le_of_ble_eq_true rfl) rfl rfl ?_
      refine PW_iinc (i := 3) (v := 1) (L2 := [some (.int 1), some (.int v), some (.int 0), some (.int 1)]) c_B_isUnder_29 rfl (by decide) (Nat.le_of_ble_eq_true rfl) rfl rfl ?_
      refine PW_goto c_B_isUnder_32 ?_
      refine PW_iload_n c_B_isUnder_4 rfl ?_
      refine PW_bipush (v := 8) c_B_isUnder_5 (by decide) ?_
      refine PW_icmp_ge c_B_isUnder_7 (fun h5 => absurd h5 (by decide)) (fun _ => ?_)
      refine PW_iload_n c_B_isUnder_10 rfl ?_
      refine PW_S0 (d2 := 0) (st := []) [.int 0] c_B_isUnder_11 lk_B_isUnder_18 rfl rfl rfl (Nat.le_of_ble_eq_true rfl) (by first | decide | omega) (Nat.le_of_ble_eq_true rfl) ?_
      show PW _ _ _ 0 [some (.int 0)] [] (E x y)
      refine PW_iload_n c_B_isKind_0 rfl ?_
      refine PW_if_lt c_B_isKind_1 (fun h6 => absurd h6 (by decide)) (fun _ => ?_)
      refine PW_iload_n c_B_isKind_4 rfl ?_
      refine PW_bipush (v := 8) c_B_isKind_5 (by decide) ?_
      refine PW_icmp_ge c_B_isKind_7 (fun h7 => absurd h7 (by decide)) (fun _ => ?_)
      refine PW_iconst (v := 1) c_B_isKind_10 (by decide) ?_
      refine PW_goto c_B_isKind_11 ?_
      refine PW_ireturn (ty := .boolean) c_B_isKind_15 rfl (by decide +kernel) ?_
      show PW _ _ _ 14 [some (.int 1), some (.int v), some (.int 0), some (.int 1)] [.int 1] (E x y)
      refine PW_if_eq c_B_isUnder_14 (fun h8 => absurd h8 (by decide)) (fun _ => ?_)
      refine PW_iload_n c_B_isUnder_17 rfl ?_
      refine PW_iload_n c_B_isUnder_18 rfl ?_
      refine PW_icmp_ne c_B_isUnder_19 (fun h9 => ?_) (fun h9 => ?_)
      · refine PW_iload_n c_B_isUnder_24 rfl ?_
        refine PW_S0 (d2 := 0) (st := []) [.int 0] c_B_isUnder_25 lk_B_isUnder_22 rfl rfl rfl (Nat.le_of_ble_eq_true rfl) (by first | decide | omega) (Nat.le_of_ble_eq_true rfl) ?_
        refine sp_kab0 ?_
        show PW _ _ _ 28 [some (.int 1), some (.int v), some (.int 0), some (.int 1)] [.int (-1)] (E x y)
        refine PW_istore_n (i := 2) (L2 := [some (.int 1), some (.int v), some (.int (-1)), some (.int 1)]) c_B_isUnder_28 rfl (Nat.le_of_ble_eq_true rfl) rfl rfl ?_
        refine PW_iinc (i := 3) (v := 2) (L2 := [some (.int 1), some (.int v), some (.int (-1)), some (.int 2)]) c_B_isUnder_29 rfl (by decide) (Nat.le_of_ble_eq_true rfl) rfl rfl ?_
        refine PW_goto c_B_isUnder_32 ?_
        refine PW_iload_n c_B_isUnder_4 rfl ?_
        refine PW_bipush (v := 8) c_B_isUnder_5 (by decide) ?_
        refine PW_icmp_ge c_B_isUnder_7 (fun h10 => absurd h10 (by decide)) (fun _ => ?_)
        refine PW_iload_n c_B_isUnder_10 rfl ?_
        refine PW_S0 (d2 := 0) (st := []) [.int (-1)] c_B_isUnder_11 lk_B_isUnder_18 rfl rfl rfl (Nat.le_of_ble_eq_true rfl) (by first | decide | omega) (Nat.le_of_ble_eq_true rfl) ?_
        show PW _ _ _ 0 [some (.int (-1))] [] (E x y)
        refine PW_iload_n c_B_isKind_0 rfl ?_
        refine PW_if_lt c_B_isKind_1 (fun _ => ?_) (fun h11 => absurd (by decide) h11)
        refine PW_iconst (v := 0) c_B_isKind_14 (by decide) ?_
        refine PW_ireturn (ty := .boolean) c_B_isKind_15 rfl (by decide +kernel) ?_
        show PW _ _ _ 14 [some (.int 1), some (.int v), some (.int (-1)), some (.int 2)] [.int 0] (E x y)
        refine PW_if_eq c_B_isUnder_14 (fun _ => ?_) (fun h12 => absurd (by decide) h12)
        refine PW_iconst (v := 0) c_B_isUnder_35 (by decide) ?_
        refine PW_ireturn (ty := .boolean) c_B_isUnder_36 rfl (by decide +kernel) ?_
        exact pq0 h (by simp only [chU, List.mem_cons, List.not_mem_nil, or_false, ← Int32.toInt_inj, tiA] at *; omega)
      · refine PW_iconst (v := 1) c_B_isUnder_22 (by decide) ?_
        refine PW_ireturn (ty := .boolean) c_B_isUnder_23 rfl (by decide +kernel) ?_
        exact pq1 h (by simp only [chU, List.mem_cons, List.not_mem_nil, or_false, ← Int32.toInt_inj, tiA] at *; omega)
    · refine PW_iconst (v := 1) c_B_isUnder_22 (by decide) ?_
      refine PW_ireturn (ty := .boolean) c_B_isUnder_23 rfl (by decide +kernel) ?_
      exact pq1 h (by simp only [chU, List.mem_cons, List.not_mem_nil, or_false, ← Int32.toInt_inj, tiA] at *; omega)
  · subst hu
    show PW (1, 0, 0, z) m_B_isUnder post 0 [some (.int 2), some (.int v), none, none] [] (E x y)
    refine PW_iload_n c_B_isUnder_0 rfl ?_
    refine PW_istore_n (i := 2) (L2 := [some (.int 2), some (.int v), some (.int 2), none]) c_B_isUnder_1 rfl (Nat.le_of_ble_eq_true rfl) rfl rfl ?_
    refine PW_iconst (v := 0) c_B_isUnder_2 (by decide) ?_
    refine PW_istore_n (i := 3) (L2 := [some (.int 2), some (.int v), some (.int 2), some (.int 0)]) c_B_isUnder_3 rfl (Nat.le_of_ble_eq_true rfl) rfl rfl ?_
    refine PW_iload_n c_B_isUnder_4 rfl ?_
    refine PW_bipush (v := 8) c_B_isUnder_5 (by decide) ?_
    refine PW_icmp_ge c_B_isUnder_7 (fun h0 => absurd h0 (by decide)) (fun _ => ?_)
    refine PW_iload_n c_B_isUnder_10 rfl ?_
    refine PW_S0 (d2 := 0) (st := []) [.int 2] c_B_isUnder_11 lk_B_isUnder_18 rfl rfl rfl (Nat.le_of_ble_eq_true rfl) (by first | decide | omega) (Nat.le_of_ble_eq_true rfl) ?_
    show PW _ _ _ 0 [some (.int 2)] [] (E x y)
    refine PW_iload_n c_B_isKind_0 rfl ?_
    refine PW_if_lt c_B_isKind_1 (fun h1 => absurd h1 (by decide)) (fun _ => ?_)
    refine PW_iload_n c_B_isKind_4 rfl ?_
    refine PW_bipush (v := 8) c_B_isKind_5 (by decide) ?_
    refine PW_icmp_ge c_B_isKind_7 (fun h2 => absurd h2 (by decide)) (fun _ => ?_)
    refine PW_iconst (v := 1) c_B_isKind_10 (by decide) ?_
    refine PW_goto c_B_isKind_11 ?_
    refine PW_ireturn (ty := .boolean) c_B_isKind_15 rfl (by decide +kernel) ?_
    show PW _ _ _ 14 [some (.int 2), some (.int v), some (.int 2), some (.int 0)] [.int 1] (E x y)
    refine PW_if_eq c_B_isUnder_14 (fun h3 => absurd h3 (by decide)) (fun _ => ?_)
    refine PW_iload_n c_B_isUnder_17 rfl ?_
    refine PW_iload_n c_B_isUnder_18 rfl ?_
    refine PW_icmp_ne c_B_isUnder_19 (fun h4 => ?_) (fun h4 => ?_)
    · refine PW_iload_n c_B_isUnder_24 rfl ?_
      refine PW_S0 (d2 := 0) (st := []) [.int 2] c_B_isUnder_25 lk_B_isUnder_22 rfl rfl rfl (Nat.le_of_ble_eq_true rfl) (by first | decide | omega) (Nat.le_of_ble_eq_true rfl) ?_
      refine sp_kab2 ?_
      show PW _ _ _ 28 [some (.int 2), some (.int v), some (.int 2), some (.int 0)] [.int 0] (E x y)
      refine PW_istore_n (i := 2) (L2 := [some (.int 2), some (.int v), some (.int 0), some (.int 0)]) c_B_isUnder_28 rfl (Nat.le_of_ble_eq_true rfl) rfl rfl ?_
      refine PW_iinc (i := 3) (v := 1) (L2 := [some (.int 2), some (.int v), some (.int 0), some (.int 1)]) c_B_isUnder_29 rfl (by decide) (Nat.le_of_ble_eq_true rfl) rfl rfl ?_
      refine PW_goto c_B_isUnder_32 ?_
      refine PW_iload_n c_B_isUnder_4 rfl ?_
      refine PW_bipush (v := 8) c_B_isUnder_5 (by decide) ?_
      refine PW_icmp_ge c_B_isUnder_7 (fun h5 => absurd h5 (by decide)) (fun _ => ?_)
      refine PW_iload_n c_B_isUnder_10 rfl ?_
      refine PW_S0 (d2 := 0) (st := []) [.int 0] c_B_isUnder_11 lk_B_isUnder_18 rfl rfl rfl (Nat.le_of_ble_eq_true rfl) (by first | decide | omega) (Nat.le_of_ble_eq_true rfl) ?_
      show PW _ _ _ 0 [some (.int 0)] [] (E x y)
      refine PW_iload_n c_B_isKind_0 rfl ?_
      refine PW_if_lt c_B_isKind_1 (fun h6 => absurd h6 (by decide)) (fun _ => ?_)
      refine PW_iload_n c_B_isKind_4 rfl ?_
      refine PW_bipush (v := 8) c_B_isKind_5 (by decide) ?_
      refine PW_icmp_ge c_B_isKind_7 (fun h7 => absurd h7 (by decide)) (fun _ => ?_)
      refine PW_iconst (v := 1) c_B_isKind_10 (by decide) ?_
      refine PW_goto c_B_isKind_11 ?_
      refine PW_ireturn (ty := .boolean) c_B_isKind_15 rfl (by decide +kernel) ?_
      show PW _ _ _ 14 [some (.int 2), some (.int v), some (.int 0), some (.int 1)] [.int 1] (E x y)
      refine PW_if_eq c_B_isUnder_14 (fun h8 => absurd h8 (by decide)) (fun _ => ?_)
      refine PW_iload_n c_B_isUnder_17 rfl ?_
      refine PW_iload_n c_B_isUnder_18 rfl ?_
      refine PW_icmp_ne c_B_isUnder_19 (fun h9 => ?_) (fun h9 => ?_)
      · refine PW_iload_n c_B_isUnder_24 rfl ?_
        refine PW_S0 (d2 := 0) (st := []) [.int 0] c_B_isUnder_25 lk_B_isUnder_22 rfl rfl rfl (Nat.le_of_ble_eq_true rfl) (by first | decide | omega) (Nat.le_of_ble_eq_true rfl) ?_
        refine sp_kab0 ?_
        show PW _ _ _ 28 [some (.int 2), some (.int v), some (.int 0), some (.int 1)] [.int (-1)] (E x y)
        refine PW_istore_n (i := 2) (L2 := [some (.int 2), some (.int v), some (.int (-1)), some (.int 1)]) c_B_isUnder_28 rfl (Nat.le_of_ble_eq_true rfl) rfl rfl ?_
        refine PW_iinc (i := 3) (v := 2) (L2 := [some (.int 2), some (.int v), some (.int (-1)), some (.int 2)]) c_B_isUnder_29 rfl (by decide) (Nat.le_of_ble_eq_true rfl) rfl rfl ?_
        refine PW_goto c_B_isUnder_32 ?_
        refine PW_iload_n c_B_isUnder_4 rfl ?_
        refine PW_bipush (v := 8) c_B_isUnder_5 (by decide) ?_
        refine PW_icmp_ge c_B_isUnder_7 (fun h10 => absurd h10 (by decide)) (fun _ => ?_)
        refine PW_iload_n c_B_isUnder_10 rfl ?_
        refine PW_S0 (d2 := 0) (st := []) [.int (-1)] c_B_isUnder_11 lk_B_isUnder_18 rfl rfl rfl (Nat.le_of_ble_eq_true rfl) (by first | decide | omega) (Nat.le_of_ble_eq_true rfl) ?_
        show PW _ _ _ 0 [some (.int (-1))] [] (E x y)
        refine PW_iload_n c_B_isKind_0 rfl ?_
        refine PW_if_lt c_B_isKind_1 (fun _ => ?_) (fun h11 => absurd (by decide) h11)
        refine PW_iconst (v := 0) c_B_isKind_14 (by decide) ?_
        refine PW_ireturn (ty := .boolean) c_B_isKind_15 rfl (by decide +kernel) ?_
        show PW _ _ _ 14 [some (.int 2), some (.int v), some (.int (-1)), some (.int 2)] [.int 0] (E x y)
        refine PW_if_eq c_B_isUnder_14 (fun _ => ?_) (fun h12 => absurd (by decide) h12)
        refine PW_iconst (v := 0) c_B_isUnder_35 (by decide) ?_
        refine PW_ireturn (ty := .boolean) c_B_isUnder_36 rfl (by decide +kernel) ?_
        exact pq0 h (by simp only [chU, List.mem_cons, List.not_mem_nil, or_false, ← Int32.toInt_inj, tiA] at *; omega)
      · refine PW_iconst (v := 1) c_B_isUnder_22 (by decide) ?_
        refine PW_ireturn (ty := .boolean) c_B_isUnder_23 rfl (by decide +kernel) ?_
        exact pq1 h (by simp only [chU, List.mem_cons, List.not_mem_nil, or_false, ← Int32.toInt_inj, tiA] at *; omega)
    · refine PW_iconst (v := 1) c_B_isUnder_22 (by decide) ?_
      refine PW_ireturn (ty := .boolean) c_B_isUnder_23 rfl (by decide +kernel) ?_
      exact pq1 h (by simp only [chU, List.mem_cons, List.not_mem_nil, or_false, ← Int32.toInt_inj, tiA] at *; omega)
  · subst hu
    show PW (1, 0, 0, z) m_B_isUnder post 0 [some (.int 3), some (.int v), none, none] [] (E x y)
    refine PW_iload_n c_B_isUnder_0 rfl ?_
    refine PW_istore_n (i := 2) (L2 := [some (.int 3), some (.int v), some (.int 3), none]) c_B_isUnder_1 rfl (Nat.le_of_ble_eq_true rfl) rfl rfl ?_
    refine PW_iconst (v := 0) c_B_isUnder_2 (by decide) ?_
    refine PW_istore_n (i := 3) (L2 := [some (.int 3), some (.int v), some (.int 3), some (.int 0)]) c_B_isUnder_3 rfl (Nat.le_of_ble_eq_true rfl) rfl rfl ?_
    refine PW_iload_n c_B_isUnder_4 rfl ?_
    refine PW_bipush (v := 8) c_B_isUnder_5 (by decide) ?_
    refine PW_icmp_ge c_B_isUnder_7 (fun h0 => absurd h0 (by decide)) (fun _ => ?_)
    refine PW_iload_n c_B_isUnder_10 rfl ?_
    refine PW_S0 (d2 := 0) (st := []) [.int 3] c_B_isUnder_11 lk_B_isUnder_18 rfl rfl rfl (Nat.le_of_ble_eq_true rfl) (by first | decide | omega) (Nat.le_of_ble_eq_true rfl) ?_
    show PW _ _ _ 0 [some (.int 3)] [] (E x y)
    refine PW_iload_n c_B_isKind_0 rfl ?_
    refine PW_if_lt c_B_isKind_1 (fun h1 => absurd h1 (by decide)) (fun _ => ?_)
    refine PW_iload_n c_B_isKind_4 rfl ?_
    refine PW_bipush (v := 8) c_B_isKind_5 (by decide) ?_
    refine PW_icmp_ge c_B_isKind_7 (fun h2 => absurd h2 (by decide)) (fun _ => ?_)
    refine PW_iconst (v := 1) c_B_isKind_10 (by decide) ?_
    refine PW_goto c_B_isKind_11 ?_
    refine PW_ireturn (ty := .boolean) c_B_isKind_15 rfl (by decide +kernel) ?_
    show PW _ _ _ 14 [some (.int 3), some (.int v), some (.int 3), some (.int 0)] [.int 1] (E x y)
    refine PW_if_eq c_B_isUnder_14 (fun h3 => absurd h3 (by decide)) (fun _ => ?_)
    refine PW_iload_n c_B_isUnder_17 rfl ?_
    refine PW_iload_n c_B_isUnder_18 rfl ?_
    refine PW_icmp_ne c_B_isUnder_19 (fun h4 => ?_) (fun h4 => ?_)
    · refine PW_iload_n c_B_isUnder_24 rfl ?_
      refine PW_S0 (d2 := 0) (st := []) [.int 3] c_B_isUnder_25 lk_B_isUnder_22 rfl rfl rfl (Nat.le_of_ble_eq_true rfl) (by first | decide | omega) (Nat.le_of_ble_eq_true rfl) ?_
      refine sp_kab3 ?_
      show PW _ _ _ 28 [some (.int 3), some (.int v), some (.int 3), some (.int 0)] [.int 2] (E x y)
      refine PW_istore_n (i := 2) (L2 := [some (.int 3), some (.int v), some (.int 2), some (.int 0)]) c_B_isUnder_28 rfl (Nat.le_of_ble_eq_true rfl) rfl rfl ?_
      refine PW_iinc (i := 3) (v := 1) (L2 := [some (.int 3), some (.int v), some (.int 2), some (.int 1)]) c_B_isUnder_29 rfl (by decide) (Nat.le_of_ble_eq_true rfl) rfl rfl ?_
      refine PW_goto c_B_isUnder_32 ?_
      refine PW_iload_n c_B_isUnder_4 rfl ?_
      refine PW_bipush (v := 8) c_B_isUnder_5 (by decide) ?_
      refine PW_icmp_ge c_B_isUnder_7 (fun h5 => absurd h5 (by decide)) (fun _ => ?_)
      refine PW_iload_n c_B_isUnder_10 rfl ?_
      refine PW_S0 (d2 := 0) (st := []) [.int 2] c_B_isUnder_11 lk_B_isUnder_18 rfl rfl rfl (Nat.le_of_ble_eq_true rfl) (by first | decide | omega) (Nat.le_of_ble_eq_true rfl) ?_
      show PW _ _ _ 0 [some (.int 2)] [] (E x y)
      refine PW_iload_n c_B_isKind_0 rfl ?_
      refine PW_if_lt c_B_isKind_1 (fun h6 => absurd h6 (by decide)) (fun _ => ?_)
      refine PW_iload_n c_B_isKind_4 rfl ?_
      refine PW_bipush (v := 8) c_B_isKind_5 (by decide) ?_
      refine PW_icmp_ge c_B_isKind_7 (fun h7 => absurd h7 (by decide)) (fun _ => ?_)
      refine PW_iconst (v := 1) c_B_isKind_10 (by decide) ?_
      refine PW_goto c_B_isKind_11 ?_
      refine PW_ireturn (ty := .boolean) c_B_isKind_15 rfl (by decide +kernel) ?_
      show PW _ _ _ 14 [some (.int 3), some (.int v), some (.int 2), some (.int 1)] [.int 1] (E x y)
      refine PW_if_eq c_B_isUnder_14 (fun h8 => absurd h8 (by decide)) (fun _ => ?_)
      refine PW_iload_n c_B_isUnder_17 rfl ?_
      refine PW_iload_n c_B_isUnder_18 rfl ?_
      refine PW_icmp_ne c_B_isUnder_19 (fun h9 => ?_) (fun h9 => ?_)
      · refine PW_iload_n c_B_isUnder_24 rfl ?_
        refine PW_S0 (d2 := 0) (st := []) [.int 2] c_B_isUnder_25 lk_B_isUnder_22 rfl rfl rfl (Nat.le_of_ble_eq_true rfl) (by first | decide | omega) (Nat.le_of_ble_eq_true rfl) ?_
        refine sp_kab2 ?_
        show PW _ _ _ 28 [some (.int 3), some (.int v), some (.int 2), some (.int 1)] [.int 0] (E x y)
        refine PW_istore_n (i := 2) (L2 := [some (.int 3), some (.int v), some (.int 0), some (.int 1)]) c_B_isUnder_28 rfl (Nat.le_of_ble_eq_true rfl) rfl rfl ?_
        refine PW_iinc (i := 3) (v := 2) (L2 := [some (.int 3), some (.int v), some (.int 0), some (.int 2)]) c_B_isUnder_29 rfl (by decide) (Nat.le_of_ble_eq_true rfl) rfl rfl ?_
        refine PW_goto c_B_isUnder_32 ?_
        refine PW_iload_n c_B_isUnder_4 rfl ?_
        refine PW_bipush (v := 8) c_B_isUnder_5 (by decide) ?_
        refine PW_icmp_ge c_B_isUnder_7 (fun h10 => absurd h10 (by decide)) (fun _ => ?_)
        refine PW_iload_n c_B_isUnder_10 rfl ?_
        refine PW_S0 (d2 := 0) (st := []) [.int 0] c_B_isUnder_11 lk_B_isUnder_18 rfl rfl rfl (Nat.le_of_ble_eq_true rfl) (by first | decide | omega) (Nat.le_of_ble_eq_true rfl) ?_
        show PW _ _ _ 0 [some (.int 0)] [] (E x y)
        refine PW_iload_n c_B_isKind_0 rfl ?_
        refine PW_if_lt c_B_isKind_1 (fun h11 => absurd h11 (by decide)) (fun _ => ?_)
        refine PW_iload_n c_B_isKind_4 rfl ?_
        refine PW_bipush (v := 8) c_B_isKind_5 (by decide) ?_
        refine PW_icmp_ge c_B_isKind_7 (fun h12 => absurd h12 (by decide)) (fun _ => ?_)
        refine PW_iconst (v := 1) c_B_isKind_10 (by decide) ?_
        refine PW_goto c_B_isKind_11 ?_
        refine PW_ireturn (ty := .boolean) c_B_isKind_15 rfl (by decide +kernel) ?_
        show PW _ _ _ 14 [some (.int 3), some (.int v), some (.int 0), some (.int 2)] [.int 1] (E x y)
        refine PW_if_eq c_B_isUnder_14 (fun h13 => absurd h13 (by decide)) (fun _ => ?_)
        refine PW_iload_n c_B_isUnder_17 rfl ?_
        refine PW_iload_n c_B_isUnder_18 rfl ?_
        refine PW_icmp_ne c_B_isUnder_19 (fun h14 => ?_) (fun h14 => ?_)
        · refine PW_iload_n c_B_isUnder_24 rfl ?_
          refine PW_S0 (d2 := 0) (st := []) [.int 0] c_B_isUnder_25 lk_B_isUnder_22 rfl rfl rfl (Nat.le_of_ble_eq_true rfl) (by first | decide | omega) (Nat.le_of_ble_eq_true rfl) ?_
          refine sp_kab0 ?_
          show PW _ _ _ 28 [some (.int 3), some (.int v), some (.int 0), some (.int 2)] [.int (-1)] (E x y)
          refine PW_istore_n (i := 2) (L2 := [some (.int 3), some (.int v), some (.int (-1)), some (.int 2)]) c_B_isUnder_28 rfl (Nat.le_of_ble_eq_true rfl) rfl rfl ?_
          refine PW_iinc (i := 3) (v := 3) (L2 := [some (.int 3), some (.int v), some (.int (-1)), some (.int 3)]) c_B_isUnder_29 rfl (by decide) (Nat.le_of_ble_eq_true rfl) rfl rfl ?_
          refine PW_goto c_B_isUnder_32 ?_
          refine PW_iload_n c_B_isUnder_4 rfl ?_
          refine PW_bipush (v := 8) c_B_isUnder_5 (by decide) ?_
          refine PW_icmp_ge c_B_isUnder_7 (fun h15 => absurd h15 (by decide)) (fun _ => ?_)
          refine PW_iload_n c_B_isUnder_10 rfl ?_
          refine PW_S0 (d2 := 0) (st := []) [.int (-1)] c_B_isUnder_11 lk_B_isUnder_18 rfl rfl rfl (Nat.le_of_ble_eq_true rfl) (by first | decide | omega) (Nat.le_of_ble_eq_true rfl) ?_
          show PW _ _ _ 0 [some (.int (-1))] [] (E x y)
          refine PW_iload_n c_B_isKind_0 rfl ?_
          refine PW_if_lt c_B_isKind_1 (fun _ => ?_) (fun h16 => absurd (by decide) h16)
          refine PW_iconst (v := 0) c_B_isKind_14 (by decide) ?_
          refine PW_ireturn (ty := .boolean) c_B_isKind_15 rfl (by decide +kernel) ?_
          show PW _ _ _ 14 [some (.int 3), some (.int v), some (.int (-1)), some (.int 3)] [.int 0] (E x y)
          refine PW_if_eq c_B_isUnder_14 (fun _ => ?_) (fun h17 => absurd (by decide) h17)
          refine PW_iconst (v := 0) c_B_isUnder_35 (by decide) ?_
          refine PW_ireturn (ty := .boolean) c_B_isUnder_36 rfl (by decide +kernel) ?_
          exact pq0 h (by simp only [chU, List.mem_cons, List.not_mem_nil, or_false, ← Int32.toInt_inj, tiA] at *; omega)
        · refine PW_iconst (v := 1) c_B_isUnder_22 (by decide) ?_
          refine PW_ireturn (ty := .boolean) c_B_isUnder_23 rfl (by decide +kernel) ?_
          exact pq1 h (by simp only [chU, List.mem_cons, List.not_mem_nil, or_false, ← Int32.toInt_inj, tiA] at *; omega)
      · refine PW_iconst (v := 1) c_B_isUnder_22 (by decide) ?_
        refine PW_ireturn (ty := .boolean) c_B_isUnder_23 rfl (by decide +kernel) ?_
        exact pq1 h (by simp only [chU, List.mem_cons, List.not_mem_nil, or_false, ← Int32.toInt_inj, tiA] at *; omega)
    · refine PW_iconst (v := 1) c_B_isUnder_22 (by decide) ?_
      refine PW_ireturn (ty := .boolean) c_B_isUnder_23 rfl (by decide +kernel) ?_
      exact pq1 h (by simp only [chU, List.mem_cons, List.not_mem_nil, or_false, ← Int32.toInt_inj, tiA] at *; omega)
  · subst hu
    show PW (1, 0, 0, z) m_B_isUnder post 0 [some (.int 4), some (.int v), none, none] [] (E x y)
    refine PW_iload_n c_B_isUnder_0 rfl ?_
    refine PW_istore_n (i := 2) (L2 := [some (.int 4), some (.int v), some (.int 4), none]) c_B_isUnder_1 rfl (Nat.le_of_ble_eq_true rfl) rfl rfl ?_
    refine PW_iconst (v := 0) c_B_isUnder_2 (by decide) ?_
    refine PW_istore_n (i := 3) (L2 := [some (.int 4), some (.int v), some (.int 4), some (.int 0)]) c_B_isUnder_3 rfl (Nat.le_of_ble_eq_true rfl) rfl rfl ?_
    refine PW_iload_n c_B_isUnder_4 rfl ?_
    refine PW_bipush (v := 8) c_B_isUnder_5 (by decide) ?_
    refine PW_icmp_ge c_B_isUnder_7 (fun h0 => absurd h0 (by decide)) (fun _ => ?_)
    refine PW_iload_n c_B_isUnder_10 rfl ?_
    refine PW_S0 (d2 := 0) (st := []) [.int 4] c_B_isUnder_11 lk_B_isUnder_18 rfl rfl rfl (Nat.le_of_ble_eq_true rfl) (by first | decide | omega) (Nat.le_of_ble_eq_true rfl) ?_
    show PW _ _ _ 0 [some (.int 4)] [] (E x y)
    refine PW_iload_n c_B_isKind_0 rfl ?_
    refine PW_if_lt c_B_isKind_1 (fun h1 => absurd h1 (by decide)) (fun _ => ?_)
    refine PW_iload_n c_B_isKind_4 rfl ?_
    refine PW_bipush (v := 8) c_B_isKind_5 (by decide) ?_
    refine PW_icmp_ge c_B_isKind_7 (fun h2 => absurd h2 (by decide)) (fun _ => ?_)
    refine PW_iconst (v := 1) c_B_isKind_10 (by decide) ?_
    refine PW_goto c_B_isKind_11 ?_
    refine PW_ireturn (ty := .boolean) c_B_isKind_15 rfl (by decide +kernel) ?_
    show PW _ _ _ 14 [some (.int 4), some (.int v), some (.int 4), some (.int 0)] [.int 1] (E x y)
    refine PW_if_eq c_B_isUnder_14 (fun h3 => absurd h3 (by decide)) (fun _ => ?_)
    refine PW_iload_n c_B_isUnder_17 rfl ?_
    refine PW_iload_n c_B_isUnder_18 rfl ?_
    refine PW_icmp_ne c_B_isUnder_19 (fun h4 => ?_) (fun h4 => ?_)
    · refine PW_iload_n c_B_isUnder_24 rfl ?_
      refine PW_S0 (d2 := 0) (st := []) [.int 4] c_B_isUnder_25 lk_B_isUnder_22 rfl rfl rfl (Nat.le_of_ble_eq_true rfl) (by first | decide | omega) (Nat.le_of_ble_eq_true rfl) ?_
      refine sp_kab4 ?_
      show PW _ _ _ 28 [some (.int 4), some (.int v), some (.int 4), some (.int 0)] [.int 1] (E x y)
      refine PW_istore_n (i := 2) (L2 := [some (.int 4), some (.int v), some (.int 1), some (.int 0)]) c_B_isUnder_28 rfl (Nat.le_of_ble_eq_true rfl) rfl rfl ?_
      refine PW_iinc (i := 3) (v := 1) (L2 := [some (.int 4), some (.int v), some (.int 1), some (.int 1)]) c_B_isUnder_29 rfl (by decide) (Nat.le_of_ble_eq_true rfl) rfl rfl ?_
      refine PW_goto c_B_isUnder_32 ?_
      refine PW_iload_n c_B_isUnder_4 rfl ?_
      refine PW_bipush (v := 8) c_B_isUnder_5 (by decide) ?_
      refine PW_icmp_ge c_B_isUnder_7 (fun h5 => absurd h5 (by decide)) (fun _ => ?_)
      refine PW_iload_n c_B_isUnder_10 rfl ?_
      refine PW_S0 (d2 := 0) (st := []) [.int 1] c_B_isUnder_11 lk_B_isUnder_18 rfl rfl rfl (Nat.le_of_ble_eq_true rfl) (by first | decide | omega) (Nat.le_of_ble_eq_true rfl) ?_
      show PW _ _ _ 0 [some (.int 1)] [] (E x y)
      refine PW_iload_n c_B_isKind_0 rfl ?_
      refine PW_if_lt c_B_isKind_1 (fun h6 => absurd h6 (by decide)) (fun _ => ?_)
      refine PW_iload_n c_B_isKind_4 rfl ?_
      refine PW_bipush (v := 8) c_B_isKind_5 (by decide) ?_
      refine PW_icmp_ge c_B_isKind_7 (fun h7 => absurd h7 (by decide)) (fun _ => ?_)
      refine PW_iconst (v := 1) c_B_isKind_10 (by decide) ?_
      refine PW_goto c_B_isKind_11 ?_
      refine PW_ireturn (ty := .boolean) c_B_isKind_15 rfl (by decide +kernel) ?_
      show PW _ _ _ 14 [some (.int 4), some (.int v), some (.int 1), some (.int 1)] [.int 1] (E x y)
      refine PW_if_eq c_B_isUnder_14 (fun h8 => absurd h8 (by decide)) (fun _ => ?_)
      refine PW_iload_n c_B_isUnder_17 rfl ?_
      refine PW_iload_n c_B_isUnder_18 rfl ?_
      refine PW_icmp_ne c_B_isUnder_19 (fun h9 => ?_) (fun h9 => ?_)
      · refine PW_iload_n c_B_isUnder_24 rfl ?_
        refine PW_S0 (d2 := 0) (st := []) [.int 1] c_B_isUnder_25 lk_B_isUnder_22 rfl rfl rfl (Nat.le_of_ble_eq_true rfl) (by first | decide | omega) (Nat.le_of_ble_eq_true rfl) ?_
        refine sp_kab1 ?_
        show PW _ _ _ 28 [some (.int 4), some (.int v), some (.int 1), some (.int 1)] [.int 0] (E x y)
        refine PW_istore_n (i := 2) (L2 := [some (.int 4), some (.int v), some (.int 0), some (.int 1)]) c_B_isUnder_28 rfl (Nat.le_of_ble_eq_true rfl) rfl rfl ?_
        refine PW_iinc (i := 3) (v := 2) (L2 := [some (.int 4), some (.int v), some (.int 0), some (.int 2)]) c_B_isUnder_29 rfl (by decide) (Nat.le_of_ble_eq_true rfl) rfl rfl ?_
        refine PW_goto c_B_isUnder_32 ?_
        refine PW_iload_n c_B_isUnder_4 rfl ?_
        refine PW_bipush (v := 8) c_B_isUnder_5 (by decide) ?_
        refine PW_icmp_ge c_B_isUnder_7 (fun h10 => absurd h10 (by decide)) (fun _ => ?_)
        refine PW_iload_n c_B_isUnder_10 rfl ?_
        refine PW_S0 (d2 := 0) (st := []) [.int 0] c_B_isUnder_11 lk_B_isUnder_18 rfl rfl rfl (Nat.le_of_ble_eq_true rfl) (by first | decide | omega) (Nat.le_of_ble_eq_true rfl) ?_
        show PW _ _ _ 0 [some (.int 0)] [] (E x y)
        refine PW_iload_n c_B_isKind_0 rfl ?_
        refine PW_if_lt c_B_isKind_1 (fun h11 => absurd h11 (by decide)) (fun _ => ?_)
        refine PW_iload_n c_B_isKind_4 rfl ?_
        refine PW_bipush (v := 8) c_B_isKind_5 (by decide) ?_
        refine PW_icmp_ge c_B_isKind_7 (fun h12 => absurd h12 (by decide)) (fun _ => ?_)
        refine PW_iconst (v := 1) c_B_isKind_10 (by decide) ?_
        refine PW_goto c_B_isKind_11 ?_
        refine PW_ireturn (ty := .boolean) c_B_isKind_15 rfl (by decide +kernel) ?_
        show PW _ _ _ 14 [some (.int 4), some (.int v), some (.int 0), some (.int 2)] [.int 1] (E x y)
        refine PW_if_eq c_B_isUnder_14 (fun h13 => absurd h13 (by decide)) (fun _ => ?_)
        refine PW_iload_n c_B_isUnder_17 rfl ?_
        refine PW_iload_n c_B_isUnder_18 rfl ?_
        refine PW_icmp_ne c_B_isUnder_19 (fun h14 => ?_) (fun h14 => ?_)
        · refine PW_iload_n c_B_isUnder_24 rfl ?_
          refine PW_S0 (d2 := 0) (st := []) [.int 0] c_B_isUnder_25 lk_B_isUnder_22 rfl rfl rfl (Nat.le_of_ble_eq_true rfl) (by first | decide | omega) (Nat.le_of_ble_eq_true rfl) ?_
          refine sp_kab0 ?_
          show PW _ _ _ 28 [some (.int 4), some (.int v), some (.int 0), some (.int 2)] [.int (-1)] (E x y)
          refine PW_istore_n (i := 2) (L2 := [some (.int 4), some (.int v), some (.int (-1)), some (.int 2)]) c_B_isUnder_28 rfl (Nat.le_of_ble_eq_true rfl) rfl rfl ?_
          refine PW_iinc (i := 3) (v := 3) (L2 := [some (.int 4), some (.int v), some (.int (-1)), some (.int 3)]) c_B_isUnder_29 rfl (by decide) (Nat.le_of_ble_eq_true rfl) rfl rfl ?_
          refine PW_goto c_B_isUnder_32 ?_
          refine PW_iload_n c_B_isUnder_4 rfl ?_
          refine PW_bipush (v := 8) c_B_isUnder_5 (by decide) ?_
          refine PW_icmp_ge c_B_isUnder_7 (fun h15 => absurd h15 (by decide)) (fun _ => ?_)
          refine PW_iload_n c_B_isUnder_10 rfl ?_
          refine PW_S0 (d2 := 0) (st := []) [.int (-1)] c_B_isUnder_11 lk_B_isUnder_18 rfl rfl rfl (Nat.le_of_ble_eq_true rfl) (by first | decide | omega) (Nat.le_of_ble_eq_true rfl) ?_
          show PW _ _ _ 0 [some (.int (-1))] [] (E x y)
          refine PW_iload_n c_B_isKind_0 rfl ?_
          refine PW_if_lt c_B_isKind_1 (fun _ => ?_) (fun h16 => absurd (by decide) h16)
          refine PW_iconst (v := 0) c_B_isKind_14 (by decide) ?_
          refine PW_ireturn (ty := .boolean) c_B_isKind_15 rfl (by decide +kernel) ?_
          show PW _ _ _ 14 [some (.int 4), some (.int v), some (.int (-1)), some (.int 3)] [.int 0] (E x y)
          refine PW_if_eq c_B_isUnder_14 (fun _ => ?_) (fun h17 => absurd (by decide) h17)
          refine PW_iconst (v := 0) c_B_isUnder_35 (by decide) ?_
          refine PW_ireturn (ty := .boolean) c_B_isUnder_36 rfl (by decide +kernel) ?_
          exact pq0 h (by simp only [chU, List.mem_cons, List.not_mem_nil, or_false, ← Int32.toInt_inj, tiA] at *; omega)
        · refine PW_iconst (v := 1) c_B_isUnder_22 (by decide) ?_
          refine PW_ireturn (ty := .boolean) c_B_isUnder_23 rfl (by decide +kernel) ?_
          exact pq1 h (by simp only [chU, List.mem_cons, List.not_mem_nil, or_false, ← Int32.toInt_inj, tiA] at *; omega)
      · refine PW_iconst (v := 1) c_B_isUnder_22 (by decide) ?_
        refine PW_ireturn (ty := .boolean) c_B_isUnder_23 rfl (by decide +kernel) ?_
        exact pq1 h (by simp only [chU, List.mem_cons, List.not_mem_nil, or_false, ← Int32.toInt_inj, tiA] at *; omega)
    · refine PW_iconst (v := 1) c_B_isUnder_22 (by decide) ?_
      refine PW_ireturn (ty := .boolean) c_B_isUnder_23 rfl (by decide +kernel) ?_
      exact pq1 h (by simp only [chU, List.mem_cons, List.not_mem_nil, or_false, ← Int32.toInt_inj, tiA] at *; omega)
  · subst hu
    show PW (1, 0, 0, z) m_B_isUnder post 0 [some (.int 5), some (.int v), none, none] [] (E x y)
    refine PW_iload_n c_B_isUnder_0 rfl ?_
    refine PW_istore_n (i := 2) (L2 := [some (.int 5), some (.int v), some (.int 5), none]) c_B_isUnder_1 rfl (Nat.le_of_ble_eq_true rfl) rfl rfl ?_
    refine PW_iconst (v := 0) c_B_isUnder_2 (by decide) ?_
    refine PW_istore_n (i := 3) (L2 := [some (.int 5), some (.int v), some (.int 5), some (.int 0)]) c_B_isUnder_3 rfl (Nat.le_of_ble_eq_true rfl) rfl rfl ?_
    refine PW_iload_n c_B_isUnder_4 rfl ?_
    refine PW_bipush (v := 8) c_B_isUnder_5 (by decide) ?_
    refine PW_icmp_ge c_B_isUnder_7 (fun h0 => absurd h0 (by decide)) (fun _ => ?_)
    refine PW_iload_n c_B_isUnder_10 rfl ?_
    refine PW_S0 (d2 := 0) (st := []) [.int 5] c_B_isUnder_11 lk_B_isUnder_18 rfl rfl rfl (Nat.le_of_ble_eq_true rfl) (by first | decide | omega) (Nat.le_of_ble_eq_true rfl) ?_
    show PW _ _ _ 0 [some (.int 5)] [] (E x y)
    refine PW_iload_n c_B_isKind_0 rfl ?_
    refine PW_if_lt c_B_isKind_1 (fun h1 => absurd h1 (by decide)) (fun _ => ?_)
    refine PW_iload_n c_B_isKind_4 rfl ?_
    refine PW_bipush (v := 8) c_B_isKind_5 (by decide) ?_
    refine PW_icmp_ge c_B_isKind_7 (fun h2 => absurd h2 (by decide)) (fun _ => ?_)
    refine PW_iconst (v := 1) c_B_isKind_10 (by decide) ?_
    refine PW_goto c_B_isKind_11 ?_
    refine PW_ireturn (ty := .boolean) c_B_isKind_15 rfl (by decide +kernel) ?_
    show PW _ _ _ 14 [some (.int 5), some (.int v), some (.int 5), some (.int 0)] [.int 1] (E x y)
    refine PW_if_eq c_B_isUnder_14 (fun h3 => absurd h3 (by decide)) (fun _ => ?_)
    refine PW_iload_n c_B_isUnder_17 rfl ?_
    refine PW_iload_n c_B_isUnder_18 rfl ?_
    refine PW_icmp_ne c_B_isUnder_19 (fun h4 => ?_) (fun h4 => ?_)
    · refine PW_iload_n c_B_isUnder_24 rfl ?_
      refine PW_S0 (d2 := 0) (st := []) [.int 5] c_B_isUnder_25 lk_B_isUnder_22 rfl rfl rfl (Nat.le_of_ble_eq_true rfl) (by first | decide | omega) (Nat.le_of_ble_eq_true rfl) ?_
      refine sp_kab5 ?_
      show PW _ _ _ 28 [some (.int 5), some (.int v), some (.int 5), some (.int 0)] [.int 3] (E x y)
      refine PW_istore_n (i := 2) (L2 := [some (.int 5), some (.int v), some (.int 3), some (.int 0)]) c_B_isUnder_28 rfl (Nat.le_of_ble_eq_true rfl) rfl rfl ?_
      refine PW_iinc (i := 3) (v := 1) (L2 := [some (.int 5), some (.int v), some (.int 3), some (.int 1)]) c_B_isUnder_29 rfl (by decide) (Nat.le_of_ble_eq_true rfl) rfl rfl ?_
      refine PW_goto c_B_isUnder_32 ?_
      refine PW_iload_n c_B_isUnder_4 rfl ?_
      refine PW_bipush (v := 8) c_B_isUnder_5 (by decide) ?_
      refine PW_icmp_ge c_B_isUnder_7 (fun h5 => absurd h5 (by decide)) (fun _ => ?_)
      refine PW_iload_n c_B_isUnder_10 rfl ?_
      refine PW_S0 (d2 := 0) (st := []) [.int 3] c_B_isUnder_11 lk_B_isUnder_18 rfl rfl rfl (Nat.le_of_ble_eq_true rfl) (by first | decide | omega) (Nat.le_of_ble_eq_true rfl) ?_
      show PW _ _ _ 0 [some (.int 3)] [] (E x y)
      refine PW_iload_n c_B_isKind_0 rfl ?_
      refine PW_if_lt c_B_isKind_1 (fun h6 => absurd h6 (by decide)) (fun _ => ?_)
      refine PW_iload_n c_B_isKind_4 rfl ?_
      refine PW_bipush (v := 8) c_B_isKind_5 (by decide) ?_
      refine PW_icmp_ge c_B_isKind_7 (fun h7 => absurd h7 (by decide)) (fun _ => ?_)
      refine PW_iconst (v := 1) c_B_isKind_10 (by decide) ?_
      refine PW_goto c_B_isKind_11 ?_
      refine PW_ireturn (ty := .boolean) c_B_isKind_15 rfl (by decide +kernel) ?_
      show PW _ _ _ 14 [some (.int 5), some (.int v), some (.int 3), some (.int 1)] [.int 1] (E x y)
      refine PW_if_eq c_B_isUnder_14 (fun h8 => absurd h8 (by decide)) (fun _ => ?_)
      refine PW_iload_n c_B_isUnder_17 rfl ?_
      refine PW_iload_n c_B_isUnder_18 rfl ?_
      refine PW_icmp_ne c_B_isUnder_19 (fun h9 => ?_) (fun h9 => ?_)
      · refine PW_iload_n c_B_isUnder_24 rfl ?_
        refine PW_S0 (d2 := 0) (st := []) [.int 3] c_B_isUnder_25 lk_B_isUnder_22 rfl rfl rfl (Nat.le_of_ble_eq_true rfl) (by first | decide | omega) (Nat.le_of_ble_eq_true rfl) ?_
        refine sp_kab3 ?_
        show PW _ _ _ 28 [some (.int 5), some (.int v), some (.int 3), some (.int 1)] [.int 2] (E x y)
        refine PW_istore_n (i := 2) (L2 := [some (.int 5), some (.int v), some (.int 2), some (.int 1)]) c_B_isUnder_28 rfl (Nat.le_of_ble_eq_true rfl) rfl rfl ?_
        refine PW_iinc (i := 3) (v := 2) (L2 := [some (.int 5), some (.int v), some (.int 2), some (.int 2)]) c_B_isUnder_29 rfl (by decide) (Nat.le_of_ble_eq_true rfl) rfl rfl ?_
        refine PW_goto c_B_isUnder_32 ?_
        refine PW_iload_n c_B_isUnder_4 rfl ?_
        refine PW_bipush (v := 8) c_B_isUnder_5 (by decide) ?_
        refine PW_icmp_ge c_B_isUnder_7 (fun h10 => absurd h10 (by decide)) (fun _ => ?_)
        refine PW_iload_n c_B_isUnder_10 rfl ?_
        refine PW_S0 (d2 := 0) (st := []) [.int 2] c_B_isUnder_11 lk_B_isUnder_18 rfl rfl rfl (Nat.le_of_ble_eq_true rfl) (by first | decide | omega) (Nat.le_of_ble_eq_true rfl) ?_
        show PW _ _ _ 0 [some (.int 2)] [] (E x y)
        refine PW_iload_n c_B_isKind_0 rfl ?_
        refine PW_if_lt c_B_isKind_1 (fun h11 => absurd h11 (by decide)) (fun _ => ?_)
        refine PW_iload_n c_B_isKind_4 rfl ?_
        refine PW_bipush (v := 8) c_B_isKind_5 (by decide) ?_
        refine PW_icmp_ge c_B_isKind_7 (fun h12 => absurd h12 (by decide)) (fun _ => ?_)
        refine PW_iconst (v := 1) c_B_isKind_10 (by decide) ?_
        refine PW_goto c_B_isKind_11 ?_
        refine PW_ireturn (ty := .boolean) c_B_isKind_15 rfl (by decide +kernel) ?_
        show PW _ _ _ 14 [some (.int 5), some (.int v), some (.int 2), some (.int 2)] [.int 1] (E x y)
        refine PW_if_eq c_B_isUnder_14 (fun h13 => absurd h13 (by decide)) (fun _ => ?_)
        refine PW_iload_n c_B_isUnder_17 rfl ?_
        refine PW_iload_n c_B_isUnder_18 rfl ?_
        refine PW_icmp_ne c_B_isUnder_19 (fun h14 => ?_) (fun h14 => ?_)
        · refine PW_iload_n c_B_isUnder_24 rfl ?_
          refine PW_S0 (d2 := 0) (st := []) [.int 2] c_B_isUnder_25 lk_B_isUnder_22 rfl rfl rfl (Nat.le_of_ble_eq_true rfl) (by first | decide | omega) (Nat.le_of_ble_eq_true rfl) ?_
          refine sp_kab2 ?_
          show PW _ _ _ 28 [some (.int 5), some (.int v), some (.int 2), some (.int 2)] [.int 0] (E x y)
          refine PW_istore_n (i := 2) (L2 := [some (.int 5), some (.int v), some (.int 0), some (.int 2)]) c_B_isUnder_28 rfl (Nat.le_of_ble_eq_true rfl) rfl rfl ?_
          refine PW_iinc (i := 3) (v := 3) (L2 := [some (.int 5), some (.int v), some (.int 0), some (.int 3)]) c_B_isUnder_29 rfl (by decide) (Nat.le_of_ble_eq_true rfl) rfl rfl ?_
          refine PW_goto c_B_isUnder_32 ?_
          refine PW_iload_n c_B_isUnder_4 rfl ?_
          refine PW_bipush (v := 8) c_B_isUnder_5 (by decide) ?_
          refine PW_icmp_ge c_B_isUnder_7 (fun h15 => absurd h15 (by decide)) (fun _ => ?_)
          refine PW_iload_n c_B_isUnder_10 rfl ?_
          refine PW_S0 (d2 := 0) (st := []) [.int 0] c_B_isUnder_11 lk_B_isUnder_18 rfl rfl rfl (Nat.le_of_ble_eq_true rfl) (by first | decide | omega) (Nat.le_of_ble_eq_true rfl) ?_
          show PW _ _ _ 0 [some (.int 0)] [] (E x y)
          refine PW_iload_n c_B_isKind_0 rfl ?_
          refine PW_if_lt c_B_isKind_1 (fun h16 => absurd h16 (by decide)) (fun _ => ?_)
          refine PW_iload_n c_B_isKind_4 rfl ?_
          refine PW_bipush (v := 8) c_B_isKind_5 (by decide) ?_
          refine PW_icmp_ge c_B_isKind_7 (fun h17 => absurd h17 (by decide)) (fun _ => ?_)
          refine PW_iconst (v := 1) c_B_isKind_10 (by decide) ?_
          refine PW_goto c_B_isKind_11 ?_
          refine PW_ireturn (ty := .boolean) c_B_isKind_15 rfl (by decide +kernel) ?_
          show PW _ _ _ 14 [some (.int 5), some (.int v), some (.int 0), some (.int 3)] [.int 1] (E x y)
          refine PW_if_eq c_B_isUnder_14 (fun h18 => absurd h18 (by decide)) (fun _ => ?_)
          refine PW_iload_n c_B_isUnder_17 rfl ?_
          refine PW_iload_n c_B_isUnder_18 rfl ?_
          refine PW_icmp_ne c_B_isUnder_19 (fun h19 => ?_) (fun h19 => ?_)
          · refine PW_iload_n c_B_isUnder_24 rfl ?_
            refine PW_S0 (d2 := 0) (st := []) [.int 0] c_B_isUnder_25 lk_B_isUnder_22 rfl rfl rfl (Nat.le_of_ble_eq_true rfl) (by first | decide | omega) (Nat.le_of_ble_eq_true rfl) ?_
            refine sp_kab0 ?_
            show PW _ _ _ 28 [some (.int 5), some (.int v), some (.int 0), some (.int 3)] [.int (-1)] (E x y)
            refine PW_istore_n (i := 2) (L2 := [some (.int 5), some (.int v), some (.int (-1)), some (.int 3)]) c_B_isUnder_28 rfl (Nat.le_of_ble_eq_true rfl) rfl rfl ?_
            refine PW_iinc (i := 3) (v := 4) (L2 := [some (.int 5), some (.int v), some (.int (-1)), some (.int 4)]) c_B_isUnder_29 rfl (by decide) (Nat.le_of_ble_eq_true rfl) rfl rfl ?_
            refine PW_goto c_B_isUnder_32 ?_
            refine PW_iload_n c_B_isUnder_4 rfl ?_
            refine PW_bipush (v := 8) c_B_isUnder_5 (by decide) ?_
            refine PW_icmp_ge c_B_isUnder_7 (fun h20 => absurd h20 (by decide)) (fun _ => ?_)
            refine PW_iload_n c_B_isUnder_10 rfl ?_
            refine PW_S0 (d2 := 0) (st := []) [.int (-1)] c_B_isUnder_11 lk_B_isUnder_18 rfl rfl rfl (Nat.le_of_ble_eq_true rfl) (by first | decide | omega) (Nat.le_of_ble_eq_true rfl) ?_
            show PW _ _ _ 0 [some (.int (-1))] [] (E x y)
            refine PW_iload_n c_B_isKind_0 rfl ?_
            refine PW_if_lt c_B_isKind_1 (fun _ => ?_) (fun h21 => absurd (by decide) h21)
            refine PW_iconst (v := 0) c_B_isKind_14 (by decide) ?_
            refine PW_ireturn (ty := .boolean) c_B_isKind_15 rfl (by decide +kernel) ?_
            show PW _ _ _ 14 [some (.int 5), some (.int v), some (.int (-1)), some (.int 4)] [.int 0] (E x y)
            refine PW_if_eq c_B_isUnder_14 (fun _ => ?_) (fun h22 => absurd (by decide) h22)
            refine PW_iconst (v := 0) c_B_isUnder_35 (by decide) ?_
            refine PW_ireturn (ty := .boolean) c_B_isUnder_36 rfl (by decide +kernel) ?_
            exact pq0 h (by simp only [chU, List.mem_cons, List.not_mem_nil, or_false, ← Int32.toInt_inj, tiA] at *; omega)
          · refine PW_iconst (v := 1) c_B_isUnder_22 (by decide) ?_
            refine PW_ireturn (ty := .boolean) c_B_isUnder_23 rfl (by decide +kernel) ?_
            exact pq1 h (by simp only [chU, List.mem_cons, List.not_mem_nil, or_false, ← Int32.toInt_inj, tiA] at *; omega)
        · refine PW_iconst (v := 1) c_B_isUnder_22 (by decide) ?_
          refine PW_ireturn (ty := .boolean) c_B_isUnder_23 rfl (by decide +kernel) ?_
          exact pq1 h (by simp only [chU, List.mem_cons, List.not_mem_nil, or_false, ← Int32.toInt_inj, tiA] at *; omega)
      · refine PW_iconst (v := 1) c_B_isUnder_22 (by decide) ?_
        refine PW_ireturn (ty := .boolean) c_B_isUnder_23 rfl (by decide +kernel) ?_
        exact pq1 h (by simp only [chU, List.mem_cons, List.not_mem_nil, or_false, ← Int32.toInt_inj, tiA] at *; omega)
    · refine PW_iconst (v := 1) c_B_isUnder_22 (by decide) ?_
      refine PW_ireturn (ty := .boolean) c_B_isUnder_23 rfl (by decide +kernel) ?_
      exact pq1 h (by simp only [chU, List.mem_cons, List.not_mem_nil, or_false, ← Int32.toInt_inj, tiA] at *; omega)
  · subst hu
    show PW (1, 0, 0, z) m_B_isUnder post 0 [some (.int 6), some (.int v), none, none] [] (E x y)
    refine PW_iload_n c_B_isUnder_0 rfl ?_
    refine PW_istore_n (i := 2) (L2 := [some (.int 6), some (.int v), some (.int 6), none]) c_B_isUnder_1 rfl (Nat.le_of_ble_eq_true rfl) rfl rfl ?_
    refine PW_iconst (v := 0) c_B_isUnder_2 (by decide) ?_
    refine PW_istore_n (i := 3) (L2 := [some (.int 6), some (.int v), some (.int 6), some (.int 0)]) c_B_isUnder_3 rfl (Nat.le_of_ble_eq_true rfl) rfl rfl ?_
    refine PW_iload_n c_B_isUnder_4 rfl ?_
    refine PW_bipush (v := 8) c_B_isUnder_5 (by decide) ?_
    refine PW_icmp_ge c_B_isUnder_7 (fun h0 => absurd h0 (by decide)) (fun _ => ?_)
    refine PW_iload_n c_B_isUnder_10 rfl ?_
    refine PW_S0 (d2 := 0) (st := []) [.int 6] c_B_isUnder_11 lk_B_isUnder_18 rfl rfl rfl (Nat.le_of_ble_eq_true rfl) (by first | decide | omega) (Nat.le_of_ble_eq_true rfl) ?_
    show PW _ _ _ 0 [some (.int 6)] [] (E x y)
    refine PW_iload_n c_B_isKind_0 rfl ?_
    refine PW_if_lt c_B_isKind_1 (fun h1 => absurd h1 (by decide)) (fun _ => ?_)
    refine PW_iload_n c_B_isKind_4 rfl ?_
    refine PW_bipush (v := 8) c_B_isKind_5 (by decide) ?_
    refine PW_icmp_ge c_B_isKind_7 (fun h2 => absurd h2 (by decide)) (fun _ => ?_)
    refine PW_iconst (v := 1) c_B_isKind_10 (by decide) ?_
    refine PW_goto c_B_isKind_11 ?_
    refine PW_ireturn (ty := .boolean) c_B_isKind_15 rfl (by decide +kernel) ?_
    show PW _ _ _ 14 [some (.int 6), some (.int v), some (.int 6), some (.int 0)] [.int 1] (E x y)
    refine PW_if_eq c_B_isUnder_14 (fun h3 => absurd h3 (by decide)) (fun _ => ?_)
    refine PW_iload_n c_B_isUnder_17 rfl ?_
    refine PW_iload_n c_B_isUnder_18 rfl ?_
    refine PW_icmp_ne c_B_isUnder_19 (fun h4 => ?_) (fun h4 => ?_)
    · refine PW_iload_n c_B_isUnder_24 rfl ?_
      refine PW_S0 (d2 := 0) (st := []) [.int 6] c_B_isUnder_25 lk_B_isUnder_22 rfl rfl rfl (Nat.le_of_ble_eq_true rfl) (by first | decide | omega) (Nat.le_of_ble_eq_true rfl) ?_
      refine sp_kab6 ?_
      show PW _ _ _ 28 [some (.int 6), some (.int v), some (.int 6), some (.int 0)] [.int 0] (E x y)
      refine PW_istore_n (i := 2) (L2 := [some (.int 6), some (.int v), some (.int 0), some (.int 0)]) c_B_isUnder_28 rfl (Nat.le_of_ble_eq_true rfl) rfl rfl ?_
      refine PW_iinc (i := 3) (v := 1) (L2 := [some (.int 6), some (.int v), some (.int 0), some (.int 1)]) c_B_isUnder_29 rfl (by decide) (Nat.le_of_ble_eq_true rfl) rfl rfl ?_
      refine PW_goto c_B_isUnder_32 ?_
      refine PW_iload_n c_B_isUnder_4 rfl ?_
      refine PW_bipush (v := 8) c_B_isUnder_5 (by decide) ?_
      refine PW_icmp_ge c_B_isUnder_7 (fun h5 => absurd h5 (by decide)) (fun _ => ?_)
      refine PW_iload_n c_B_isUnder_10 rfl ?_
      refine PW_S0 (d2 := 0) (st := []) [.int 0] c_B_isUnder_11 lk_B_isUnder_18 rfl rfl rfl (Nat.le_of_ble_eq_true rfl) (by first | decide | omega) (Nat.le_of_ble_eq_true rfl) ?_
      show PW _ _ _ 0 [some (.int 0)] [] (E x y)
      refine PW_iload_n c_B_isKind_0 rfl ?_
      refine PW_if_lt c_B_isKind_1 (fun h6 => absurd h6 (by decide)) (fun _ => ?_)
      refine PW_iload_n c_B_isKind_4 rfl ?_
      refine PW_bipush (v := 8) c_B_isKind_5 (by decide) ?_
      refine PW_icmp_ge c_B_isKind_7 (fun h7 => absurd h7 (by decide)) (fun _ => ?_)
      refine PW_iconst (v := 1) c_B_isKind_10 (by decide) ?_
      refine PW_goto c_B_isKind_11 ?_
      refine PW_ireturn (ty := .boolean) c_B_isKind_15 rfl (by decide +kernel) ?_
      show PW _ _ _ 14 [some (.int 6), some (.int v), some (.int 0), some (.int 1)] [.int 1] (E x y)
      refine PW_if_eq c_B_isUnder_14 (fun h8 => absurd h8 (by decide)) (fun _ => ?_)
      refine PW_iload_n c_B_isUnder_17 rfl ?_
      refine PW_iload_n c_B_isUnder_18 rfl ?_
      refine PW_icmp_ne c_B_isUnder_19 (fun h9 => ?_) (fun h9 => ?_)
      · refine PW_iload_n c_B_isUnder_24 rfl ?_
        refine PW_S0 (d2 := 0) (st := []) [.int 0] c_B_isUnder_25 lk_B_isUnder_22 rfl rfl rfl (Nat.le_of_ble_eq_true rfl) (by first | decide | omega) (Nat.le_of_ble_eq_true rfl) ?_
        refine sp_kab0 ?_
        show PW _ _ _ 28 [some (.int 6), some (.int v), some (.int 0), some (.int 1)] [.int (-1)] (E x y)
        refine PW_istore_n (i := 2) (L2 := [some (.int 6), some (.int v), some (.int (-1)), some (.int 1)]) c_B_isUnder_28 rfl (Nat.le_of_ble_eq_true rfl) rfl rfl ?_
        refine PW_iinc (i := 3) (v := 2) (L2 := [some (.int 6), some (.int v), some (.int (-1)), some (.int 2)]) c_B_isUnder_29 rfl (by decide) (Nat.le_of_ble_eq_true rfl) rfl rfl ?_
        refine PW_goto c_B_isUnder_32 ?_
        refine PW_iload_n c_B_isUnder_4 rfl ?_
        refine PW_bipush (v := 8) c_B_isUnder_5 (by decide) ?_
        refine PW_icmp_ge c_B_isUnder_7 (fun h10 => absurd h10 (by decide)) (fun _ => ?_)
        refine PW_iload_n c_B_isUnder_10 rfl ?_
        refine PW_S0 (d2 := 0) (st := []) [.int (-1)] c_B_isUnder_11 lk_B_isUnder_18 rfl rfl rfl (Nat.le_of_ble_eq_true rfl) (by first | decide | omega) (Nat.le_of_ble_eq_true rfl) ?_
        show PW _ _ _ 0 [some (.int (-1))] [] (E x y)
        refine PW_iload_n c_B_isKind_0 rfl ?_
        refine PW_if_lt c_B_isKind_1 (fun _ => ?_) (fun h11 => absurd (by decide) h11)
        refine PW_iconst (v := 0) c_B_isKind_14 (by decide) ?_
        refine PW_ireturn (ty := .boolean) c_B_isKind_15 rfl (by decide +kernel) ?_
        show PW _ _ _ 14 [some (.int 6), some (.int v), some (.int (-1)), some (.int 2)] [.int 0] (E x y)
        refine PW_if_eq c_B_isUnder_14 (fun _ => ?_) (fun h12 => absurd (by decide) h12)
        refine PW_iconst (v := 0) c_B_isUnder_35 (by decide) ?_
        refine PW_ireturn (ty := .boolean) c_B_isUnder_36 rfl (by decide +kernel) ?_
        exact pq0 h (by simp only [chU, List.mem_cons, List.not_mem_nil, or_false, ← Int32.toInt_inj, tiA] at *; omega)
      · refine PW_iconst (v := 1) c_B_isUnder_22 (by decide) ?_
        refine PW_ireturn (ty := .boolean) c_B_isUnder_23 rfl (by decide +kernel) ?_
        exact pq1 h (by simp only [chU, List.mem_cons, List.not_mem_nil, or_false, ← Int32.toInt_inj, tiA] at *; omega)
    · refine PW_iconst (v := 1) c_B_isUnder_22 (by decide) ?_
      refine PW_ireturn (ty := .boolean) c_B_isUnder_23 rfl (by decide +kernel) ?_
      exact pq1 h (by simp only [chU, List.mem_cons, List.not_mem_nil, or_false, ← Int32.toInt_inj, tiA] at *; omega)
  · subst hu
    show PW (1, 0, 0, z) m_B_isUnder post 0 [some (.int 7), some (.int v), none, none] [] (E x y)
    refine PW_iload_n c_B_isUnder_0 rfl ?_
    refine PW_istore_n (i := 2) (L2 := [some (.int 7), some (.int v), some (.int 7), none]) c_B_isUnder_1 rfl (Nat.le_of_ble_eq_true rfl) rfl rfl ?_
    refine PW_iconst (v := 0) c_B_isUnder_2 (by decide) ?_
    refine PW_istore_n (i := 3) (L2 := [some (.int 7), some (.int v), some (.int 7), some (.int 0)]) c_B_isUnder_3 rfl (Nat.le_of_ble_eq_true rfl) rfl rfl ?_
    refine PW_iload_n c_B_isUnder_4 rfl ?_
    refine PW_bipush (v := 8) c_B_isUnder_5 (by decide) ?_
    refine PW_icmp_ge c_B_isUnder_7 (fun h0 => absurd h0 (by decide)) (fun _ => ?_)
    refine PW_iload_n c_B_isUnder_10 rfl ?_
    refine PW_S0 (d2 := 0) (st := []) [.int 7] c_B_isUnder_11 lk_B_isUnder_18 rfl rfl rfl (Nat.le_of_ble_eq_true rfl) (by first | decide | omega) (Nat.le_of_ble_eq_true rfl) ?_
    show PW _ _ _ 0 [some (.int 7)] [] (E x y)
    refine PW_iload_n c_B_isKind_0 rfl ?_
    refine PW_if_lt c_B_isKind_1 (fun h1 => absurd h1 (by decide)) (fun _ => ?_)
    refine PW_iload_n c_B_isKind_4 rfl ?_
    refine PW_bipush (v := 8) c_B_isKind_5 (by decide) ?_
    refine PW_icmp_ge c_B_isKind_7 (fun h2 => absurd h2 (by decide)) (fun _ => ?_)
    refine PW_iconst (v := 1) c_B_isKind_10 (by decide) ?_
    refine PW_goto c_B_isKind_11 ?_
    refine PW_ireturn (ty := .boolean) c_B_isKind_15 rfl (by decide +kernel) ?_
    show PW _ _ _ 14 [some (.int 7), some (.int v), some (.int 7), some (.int 0)] [.int 1] (E x y)
    refine PW_if_eq c_B_isUnder_14 (fun h3 => absurd h3 (by decide)) (fun _ => ?_)
    refine PW_iload_n c_B_isUnder_17 rfl ?_
    refine PW_iload_n c_B_isUnder_18 rfl ?_
    refine PW_icmp_ne c_B_isUnder_19 (fun h4 => ?_) (fun h4 => ?_)
    · refine PW_iload_n c_B_isUnder_24 rfl ?_
      refine PW_S0 (d2 := 0) (st := []) [.int 7] c_B_isUnder_25 lk_B_isUnder_22 rfl rfl rfl (Nat.le_of_ble_eq_true rfl) (by first | decide | omega) (Nat.le_of_ble_eq_true rfl) ?_
      refine sp_kab7 ?_
      show PW _ _ _ 28 [some (.int 7), some (.int v), some (.int 7), some (.int 0)] [.int 6] (E x y)
      refine PW_istore_n (i := 2) (L2 := [some (.int 7), some (.int v), some (.int 6), some (.int 0)]) c_B_isUnder_28 rfl (Nat.le_of_ble_eq_true rfl) rfl rfl ?_
      refine PW_iinc (i := 3) (v := 1) (L2 := [some (.int 7), some (.int v), some (.int 6), some (.int 1)]) c_B_isUnder_29 rfl (by decide) (Nat.le_of_ble_eq_true rfl) rfl rfl ?_
      refine PW_goto c_B_isUnder_32 ?_
      refine PW_iload_n c_B_isUnder_4 rfl ?_
      refine PW_bipush (v := 8) c_B_isUnder_5 (by decide) ?_
      refine PW_icmp_ge c_B_isUnder_7 (fun h5 => absurd h5 (by decide)) (fun _ => ?_)
      refine PW_iload_n c_B_isUnder_10 rfl ?_
      refine PW_S0 (d2 := 0) (st := []) [.int 6] c_B_isUnder_11 lk_B_isUnder_18 rfl rfl rfl (Nat.le_of_ble_eq_true rfl) (by first | decide | omega) (Nat.le_of_ble_eq_true rfl) ?_
      show PW _ _ _ 0 [some (.int 6)] [] (E x y)
      refine PW_iload_n c_B_isKind_0 rfl ?_
      refine PW_if_lt c_B_isKind_1 (fun h6 => absurd h6 (by decide)) (fun _ => ?_)
      refine PW_iload_n c_B_isKind_4 rfl ?_
      refine PW_bipush (v := 8) c_B_isKind_5 (by decide) ?_
      refine PW_icmp_ge c_B_isKind_7 (fun h7 => absurd h7 (by decide)) (fun _ => ?_)
      refine PW_iconst (v := 1) c_B_isKind_10 (by decide) ?_
      refine PW_goto c_B_isKind_11 ?_
      refine PW_ireturn (ty := .boolean) c_B_isKind_15 rfl (by decide +kernel) ?_
      show PW _ _ _ 14 [some (.int 7), some (.int v), some (.int 6), some (.int 1)] [.int 1] (E x y)
      refine PW_if_eq c_B_isUnder_14 (fun h8 => absurd h8 (by decide)) (fun _ => ?_)
      refine PW_iload_n c_B_isUnder_17 rfl ?_
      refine PW_iload_n c_B_isUnder_18 rfl ?_
      refine PW_icmp_ne c_B_isUnder_19 (fun h9 => ?_) (fun h9 => ?_)
      · refine PW_iload_n c_B_isUnder_24 rfl ?_
        refine PW_S0 (d2 := 0) (st := []) [.int 6] c_B_isUnder_25 lk_B_isUnder_22 rfl rfl rfl (Nat.le_of_ble_eq_true rfl) (by first | decide | omega) (Nat.le_of_ble_eq_true rfl) ?_
        refine sp_kab6 ?_
        show PW _ _ _ 28 [some (.int 7), some (.int v), some (.int 6), some (.int 1)] [.int 0] (E x y)
        refine PW_istore_n (i := 2) (L2 := [some (.int 7), some (.int v), some (.int 0), some (.int 1)]) c_B_isUnder_28 rfl (Nat.le_of_ble_eq_true rfl) rfl rfl ?_
        refine PW_iinc (i := 3) (v := 2) (L2 := [some (.int 7), some (.int v), some (.int 0), some (.int 2)]) c_B_isUnder_29 rfl (by decide) (Nat.le_of_ble_eq_true rfl) rfl rfl ?_
        refine PW_goto c_B_isUnder_32 ?_
        refine PW_iload_n c_B_isUnder_4 rfl ?_
        refine PW_bipush (v := 8) c_B_isUnder_5 (by decide) ?_
        refine PW_icmp_ge c_B_isUnder_7 (fun h10 => absurd h10 (by decide)) (fun _ => ?_)
        refine PW_iload_n c_B_isUnder_10 rfl ?_
        refine PW_S0 (d2 := 0) (st := []) [.int 0] c_B_isUnder_11 lk_B_isUnder_18 rfl rfl rfl (Nat.le_of_ble_eq_true rfl) (by first | decide | omega) (Nat.le_of_ble_eq_true rfl) ?_
        show PW _ _ _ 0 [some (.int 0)] [] (E x y)
        refine PW_iload_n c_B_isKind_0 rfl ?_
        refine PW_if_lt c_B_isKind_1 (fun h11 => absurd h11 (by decide)) (fun _ => ?_)
        refine PW_iload_n c_B_isKind_4 rfl ?_
        refine PW_bipush (v := 8) c_B_isKind_5 (by decide) ?_
        refine PW_icmp_ge c_B_isKind_7 (fun h12 => absurd h12 (by decide)) (fun _ => ?_)
        refine PW_iconst (v := 1) c_B_isKind_10 (by decide) ?_
        refine PW_goto c_B_isKind_11 ?_
        refine PW_ireturn (ty := .boolean) c_B_isKind_15 rfl (by decide +kernel) ?_
        show PW _ _ _ 14 [some (.int 7), some (.int v), some (.int 0), some (.int 2)] [.int 1] (E x y)
        refine PW_if_eq c_B_isUnder_14 (fun h13 => absurd h13 (by decide)) (fun _ => ?_)
        refine PW_iload_n c_B_isUnder_17 rfl ?_
        refine PW_iload_n c_B_isUnder_18 rfl ?_
        refine PW_icmp_ne c_B_isUnder_19 (fun h14 => ?_) (fun h14 => ?_)
        · refine PW_iload_n c_B_isUnder_24 rfl ?_
          refine PW_S0 (d2 := 0) (st := []) [.int 0] c_B_isUnder_25 lk_B_isUnder_22 rfl rfl rfl (Nat.le_of_ble_eq_true rfl) (by first | decide | omega) (Nat.le_of_ble_eq_true rfl) ?_
          refine sp_kab0 ?_
          show PW _ _ _ 28 [some (.int 7), some (.int v), some (.int 0), some (.int 2)] [.int (-1)] (E x y)
          refine PW_istore_n (i := 2) (L2 := [some (.int 7), some (.int v), some (.int (-1)), some (.int 2)]) c_B_isUnder_28 rfl (Nat.le_of_ble_eq_true rfl) rfl rfl ?_
          refine PW_iinc (i := 3) (v := 3) (L2 := [some (.int 7), some (.int v), some (.int (-1)), some (.int 3)]) c_B_isUnder_29 rfl (by decide) (Nat.le_of_ble_eq_true rfl) rfl rfl ?_
          refine PW_goto c_B_isUnder_32 ?_
          refine PW_iload_n c_B_isUnder_4 rfl ?_
          refine PW_bipush (v := 8) c_B_isUnder_5 (by decide) ?_
          refine PW_icmp_ge c_B_isUnder_7 (fun h15 => absurd h15 (by decide)) (fun _ => ?_)
          refine PW_iload_n c_B_isUnder_10 rfl ?_
          refine PW_S0 (d2 := 0) (st := []) [.int (-1)] c_B_isUnder_11 lk_B_isUnder_18 rfl rfl rfl (Nat.le_of_ble_eq_true rfl) (by first | decide | omega) (Nat.le_of_ble_eq_true rfl) ?_
          show PW _ _ _ 0 [some (.int (-1))] [] (E x y)
          refine PW_iload_n c_B_isKind_0 rfl ?_
          refine PW_if_lt c_B_isKind_1 (fun _ => ?_) (fun h16 => absurd (by decide) h16)
          refine PW_iconst (v := 0) c_B_isKind_14 (by decide) ?_
          refine PW_ireturn (ty := .boolean) c_B_isKind_15 rfl (by decide +kernel) ?_
          show PW _ _ _ 14 [some (.int 7), some (.int v), some (.int (-1)), some (.int 3)] [.int 0] (E x y)
          refine PW_if_eq c_B_isUnder_14 (fun _ => ?_) (fun h17 => absurd (by decide) h17)
          refine PW_iconst (v := 0) c_B_isUnder_35 (by decide) ?_
          refine PW_ireturn (ty := .boolean) c_B_isUnder_36 rfl (by decide +kernel) ?_
          exact pq0 h (by simp only [chU, List.mem_cons, List.not_mem_nil, or_false, ← Int32.toInt_inj, tiA] at *; omega)
        · refine PW_iconst (v := 1) c_B_isUnder_22 (by decide) ?_
          refine PW_ireturn (ty := .boolean) c_B_isUnder_23 rfl (by decide +kernel) ?_
          exact pq1 h (by simp only [chU, List.mem_cons, List.not_mem_nil, or_false, ← Int32.toInt_inj, tiA] at *; omega)
      · refine PW_iconst (v := 1) c_B_isUnder_22 (by decide) ?_
        refine PW_ireturn (ty := .boolean) c_B_isUnder_23 rfl (by decide +kernel) ?_
        exact pq1 h (by simp only [chU, List.mem_cons, List.not_mem_nil, or_false, ← Int32.toInt_inj, tiA] at *; omega)
    · refine PW_iconst (v := 1) c_B_isUnder_22 (by decide) ?_
      refine PW_ireturn (ty := .boolean) c_B_isUnder_23 rfl (by decide +kernel) ?_
      exact pq1 h (by simp only [chU, List.mem_cons, List.not_mem_nil, or_false, ← Int32.toInt_inj, tiA] at *; omega)
set_option maxHeartbeats 1000000 in
theorem sp_M_isUnder {z : ZS} {post : Option Value → List PE → Prop} {x y : XS} {k v : Int32} {u : Nat} (hk : k = nI u) (hu : u < 8) (h : post (some (.int (b2i (v ∈ chU u)))) (E x y)) : PW (0, 0, 0, z) m_M_isUnder post 0 [some (.int k), some (.int v)] [] (E x y) := by
  subst hk
  rcases (show u = 0 ∨ u = 1 ∨ u = 2 ∨ u = 3 ∨ u = 4 ∨ u = 5 ∨ u = 6 ∨ u = 7 by omega) with hu | hu | hu | hu | hu | hu | hu | hu
  · subst hu
    show PW (0, 0, 0, z) m_M_isUnder post 0 [some (.int 0), some (.int v)] [] (E x y)
    refine PW_iload_n c_M_isUnder_0 rfl ?_
    refine PW_if_eq c_M_isUnder_1 (fun h0 => ?_) (fun h0 => ?_)
    · refine PW_iconst (v := 1) c_M_isUnder_56 (by decide) ?_
      refine PW_goto c_M_isUnder_57 ?_
      refine PW_ireturn (ty := .boolean) c_M_isUnder_61 rfl (by decide +kernel) ?_
      exact pq1 h (by simp only [chU, List.mem_cons, List.not_mem_nil, or_false, ← Int32.toInt_inj, tiA] at *; omega)
    · refine PW_iload_n c_M_isUnder_4 rfl ?_
      refine PW_iload_n c_M_isUnder_5 rfl ?_
      refine PW_icmp_eq c_M_isUnder_6 (fun h1 => ?_) (fun h1 => ?_)
      · refine PW_iconst (v := 1) c_M_isUnder_56 (by decide) ?_
        refine PW_goto c_M_isUnder_57 ?_
        refine PW_ireturn (ty := .boolean) c_M_isUnder_61 rfl (by decide +kernel) ?_
        exact pq1 h (by simp only [chU, List.mem_cons, List.not_mem_nil, or_false, ← Int32.toInt_inj, tiA] at *; omega)
      · refine PW_iload_n c_M_isUnder_9 rfl ?_
        refine PW_iconst (v := 1) c_M_isUnder_10 (by decide) ?_
        refine PW_icmp_ne c_M_isUnder_11 (fun h2 => ?_) (fun h2 => ?_)
        · refine PW_iload_n c_M_isUnder_19 rfl ?_
          refine PW_iconst (v := 2) c_M_isUnder_20 (by decide) ?_
          refine PW_icmp_ne c_M_isUnder_21 (fun h3 => ?_) (fun h3 => ?_)
          · refine PW_iload_n c_M_isUnder_34 rfl ?_
            refine PW_iconst (v := 3) c_M_isUnder_35 (by decide) ?_
            refine PW_icmp_ne c_M_isUnder_36 (fun h4 => ?_) (fun h4 => ?_)
            · refine PW_iload_n c_M_isUnder_44 rfl ?_
              refine PW_bipush (v := 6) c_M_isUnder_45 (by decide) ?_
              refine PW_icmp_ne c_M_isUnder_47 (fun h5 => ?_) (fun h5 => ?_)
              · refine PW_iconst (v := 0) c_M_isUnder_60 (by decide) ?_
                refine PW_ireturn (ty := .boolean) c_M_isUnder_61 rfl (by decide +kernel) ?_
                exact pq0 h (by simp only [chU, List.mem_cons, List.not_mem_nil, or_false, ← Int32.toInt_inj, tiA] at *; omega)
              · refine PW_iload_n c_M_isUnder_50 rfl ?_
                refine PW_bipush (v := 7) c_M_isUnder_51 (by decide) ?_
                refine PW_icmp_ne c_M_isUnder_53 (fun _ => ?_) (fun h6 => absurd h6 (by decide))
                refine PW_iconst (v := 0) c_M_isUnder_60 (by decide) ?_
                refine PW_ireturn (ty := .boolean) c_M_isUnder_61 rfl (by decide +kernel) ?_
                exact pq0 h (by simp only [chU, List.mem_cons, List.not_mem_nil, or_false, ← Int32.toInt_inj, tiA] at *; omega)
            · refine PW_iload_n c_M_isUnder_39 rfl ?_
              refine PW_iconst (v := 5) c_M_isUnder_40 (by decide) ?_
              refine PW_icmp_eq c_M_isUnder_41 (fun h7 => absurd h7 (by decide)) (fun _ => ?_)
              refine PW_iload_n c_M_isUnder_44 rfl ?_
              refine PW_bipush (v := 6) c_M_isUnder_45 (by decide) ?_
              refine PW_icmp_ne c_M_isUnder_47 (fun h8 => ?_) (fun h8 => ?_)
              · refine PW_iconst (v := 0) c_M_isUnder_60 (by decide) ?_
                refine PW_ireturn (ty := .boolean) c_M_isUnder_61 rfl (by decide +kernel) ?_
                exact pq0 h (by simp only [chU, List.mem_cons, List.not_mem_nil, or_false, ← Int32.toInt_inj, tiA] at *; omega)
              · refine PW_iload_n c_M_isUnder_50 rfl ?_
                refine PW_bipush (v := 7) c_M_isUnder_51 (by decide) ?_
                refine PW_icmp_ne c_M_isUnder_53 (fun _ => ?_) (fun h9 => absurd h9 (by decide))
                refine PW_iconst (v := 0) c_M_isUnder_60 (by decide) ?_
                refine PW_ireturn (ty := .boolean) c_M_isUnder_61 rfl (by decide +kernel) ?_
                exact pq0 h (by simp only [chU, List.mem_cons, List.not_mem_nil, or_false, ← Int32.toInt_inj, tiA] at *; omega)
          · refine PW_iload_n c_M_isUnder_24 rfl ?_
            refine PW_iconst (v := 3) c_M_isUnder_25 (by decide) ?_
            refine PW_icmp_eq c_M_isUnder_26 (fun h10 => absurd h10 (by decide)) (fun _ => ?_)
            refine PW_iload_n c_M_isUnder_29 rfl ?_
            refine PW_iconst (v := 5) c_M_isUnder_30 (by decide) ?_
            refine PW_icmp_eq c_M_isUnder_31 (fun h11 => absurd h11 (by decide)) (fun _ => ?_)
            refine PW_iload_n c_M_isUnder_34 rfl ?_
            refine PW_iconst (v := 3) c_M_isUnder_35 (by decide) ?_
            refine PW_icmp_ne c_M_isUnder_36 (fun h12 => ?_) (fun h12 => ?_)
            · refine PW_iload_n c_M_isUnder_44 rfl ?_
              refine PW_bipush (v := 6) c_M_isUnder_45 (by decide) ?_
              refine PW_icmp_ne c_M_isUnder_47 (fun h13 => ?_) (fun h13 => ?_)
              · refine PW_iconst (v := 0) c_M_isUnder_60 (by decide) ?_
                refine PW_ireturn (ty := .boolean) c_M_isUnder_61 rfl (by decide +kernel) ?_
                exact pq0 h (by simp only [chU, List.mem_cons, List.not_mem_nil, or_false, ← Int32.toInt_inj, tiA] at *; omega)
              · refine PW_iload_n c_M_isUnder_50 rfl ?_
                refine PW_bipush (v := 7) c_M_isUnder_51 (by decide) ?_
                refine PW_icmp_ne c_M_isUnder_53 (fun _ => ?_) (fun h14 => absurd h14 (by decide))
                refine PW_iconst (v := 0) c_M_isUnder_60 (by decide) ?_
                refine PW_ireturn (ty := .boolean) c_M_isUnder_61 rfl (by decide +kernel) ?_
                exact pq0 h (by simp only [chU, List.mem_cons, List.not_mem_nil, or_false, ← Int32.toInt_inj, tiA] at *; omega)
            · refine PW_iload_n c_M_isUnder_39 rfl ?_
              refine PW_iconst (v := 5) c_M_isUnder_40 (by decide) ?_
              refine PW_icmp_eq c_M_isUnder_41 (fun h15 => absurd h15 (by decide)) (fun _ => ?_)
              refine PW_iload_n c_M_isUnder_44 rfl ?_
              refine PW_bipush (v := 6) c_M_isUnder_45 (by decide) ?_
              refine PW_icmp_ne c_M_isUnder_47 (fun h16 => ?_) (fun h16 => ?_)
              · refine PW_iconst (v := 0) c_M_isUnder_60 (by decide) ?_
                refine PW_ireturn (ty := .boolean) c_M_isUnder_61 rfl (by decide +kernel) ?_
                exact pq0 h (by simp only [chU, List.mem_cons, List.not_mem_nil, or_false, ← Int32.toInt_inj, tiA] at *; omega)
              · refine PW_iload_n c_M_isUnder_50 rfl ?_
                refine PW_bipush (v := 7) c_M_isUnder_51 (by decide) ?_
                refine PW_icmp_ne c_M_isUnder_53 (fun _ => ?_) (fun h17 => absurd h17 (by decide))
                refine PW_iconst (v := 0) c_M_isUnder_60 (by decide) ?_
                refine PW_ireturn (ty := .boolean) c_M_isUnder_61 rfl (by decide +kernel) ?_
                exact pq0 h (by simp only [chU, List.mem_cons, List.not_mem_nil, or_false, ← Int32.toInt_inj, tiA] at *; omega)
        · refine PW_iload_n c_M_isUnder_14 rfl ?_
          refine PW_iconst (v := 4) c_M_isUnder_15 (by decide) ?_
          refine PW_icmp_eq c_M_isUnder_16 (fun h18 => absurd h18 (by decide)) (fun _ => ?_)
          refine PW_iload_n c_M_isUnder_19 rfl ?_
          refine PW_iconst (v := 2) c_M_isUnder_20 (by decide) ?_
          refine PW_icmp_ne c_M_isUnder_21 (fun h19 => ?_) (fun h19 => ?_)
          · refine PW_iload_n c_M_isUnder_34 rfl ?_
            refine PW_iconst (v := 3) c_M_isUnder_35 (by decide) ?_
            refine PW_icmp_ne c_M_isUnder_36 (fun h20 => ?_) (fun h20 => ?_)
            · refine PW_iload_n c_M_isUnder_44 rfl ?_
              refine PW_bipush (v := 6) c_M_isUnder_45 (by decide) ?_
              refine PW_icmp_ne c_M_isUnder_47 (fun h21 => ?_) (fun h21 => ?_)
              · refine PW_iconst (v := 0) c_M_isUnder_60 (by decide) ?_
                refine PW_ireturn (ty := .boolean) c_M_isUnder_61 rfl (by decide +kernel) ?_
                exact pq0 h (by simp only [chU, List.mem_cons, List.not_mem_nil, or_false, ← Int32.toInt_inj, tiA] at *; omega)
              · refine PW_iload_n c_M_isUnder_50 rfl ?_
                refine PW_bipush (v := 7) c_M_isUnder_51 (by decide) ?_
                refine PW_icmp_ne c_M_isUnder_53 (fun _ => ?_) (fun h22 => absurd h22 (by decide))
                refine PW_iconst (v := 0) c_M_isUnder_60 (by decide) ?_
                refine PW_ireturn (ty := .boolean) c_M_isUnder_61 rfl (by decide +kernel) ?_
                exact pq0 h (by simp only [chU, List.mem_cons, List.not_mem_nil, or_false, ← Int32.toInt_inj, tiA] at *; omega)
            · refine PW_iload_n c_M_isUnder_39 rfl ?_
              refine PW_iconst (v := 5) c_M_isUnder_40 (by decide) ?_
              refine PW_icmp_eq c_M_isUnder_41 (fun h23 => absurd h23 (by decide)) (fun _ => ?_)
              refine PW_iload_n c_M_isUnder_44 rfl ?_
              refine PW_bipush (v := 6) c_M_isUnder_45 (by decide) ?_
              refine PW_icmp_ne c_M_isUnder_47 (fun h24 => ?_) (fun h24 => ?_)
              · refine PW_iconst (v := 0) c_M_isUnder_60 (by decide) ?_
                refine PW_ireturn (ty := .boolean) c_M_isUnder_61 rfl (by decide +kernel) ?_
                exact pq0 h (by simp only [chU, List.mem_cons, List.not_mem_nil, or_false, ← Int32.toInt_inj, tiA] at *; omega)
              · refine PW_iload_n c_M_isUnder_50 rfl ?_
                refine PW_bipush (v := 7) c_M_isUnder_51 (by decide) ?_
                refine PW_icmp_ne c_M_isUnder_53 (fun _ => ?_) (fun h25 => absurd h25 (by decide))
                refine PW_iconst (v := 0) c_M_isUnder_60 (by decide) ?_
                refine PW_ireturn (ty := .boolean) c_M_isUnder_61 rfl (by decide +kernel) ?_
                exact pq0 h (by simp only [chU, List.mem_cons, List.not_mem_nil, or_false, ← Int32.toInt_inj, tiA] at *; omega)
          · refine PW_iload_n c_M_isUnder_24 rfl ?_
            refine PW_iconst (v := 3) c_M_isUnder_25 (by decide) ?_
            refine PW_icmp_eq c_M_isUnder_26 (fun h26 => absurd h26 (by decide)) (fun _ => ?_)
            refine PW_iload_n c_M_isUnder_29 rfl ?_
            refine PW_iconst (v := 5) c_M_isUnder_30 (by decide) ?_
            refine PW_icmp_eq c_M_isUnder_31 (fun h27 => absurd h27 (by decide)) (fun _ => ?_)
            refine PW_iload_n c_M_isUnder_34 rfl ?_
            refine PW_iconst (v := 3) c_M_isUnder_35 (by decide) ?_
            refine PW_icmp_ne c_M_isUnder_36 (fun h28 => ?_) (fun h28 => ?_)
            · refine PW_iload_n c_M_isUnder_44 rfl ?_
              refine PW_bipush (v := 6) c_M_isUnder_45 (by decide) ?_
              refine PW_icmp_ne c_M_isUnder_47 (fun h29 => ?_) (fun h29 => ?_)
              · refine PW_iconst (v := 0) c_M_isUnder_60 (by decide) ?_
                refine PW_ireturn (ty := .boolean) c_M_isUnder_61 rfl (by decide +kernel) ?_
                exact pq0 h (by simp only [chU, List.mem_cons, List.not_mem_nil, or_false, ← Int32.toInt_inj, tiA] at *; omega)
              · refine PW_iload_n c_M_isUnder_50 rfl ?_
                refine PW_bipush (v := 7) c_M_isUnder_51 (by decide) ?_
                refine PW_icmp_ne c_M_isUnder_53 (fun _ => ?_) (fun h30 => absurd h30 (by decide))
                refine PW_iconst (v := 0) c_M_isUnder_60 (by decide) ?_
                refine PW_ireturn (ty := .boolean) c_M_isUnder_61 rfl (by decide +kernel) ?_
                exact pq0 h (by simp only [chU, List.mem_cons, List.not_mem_nil, or_false, ← Int32.toInt_inj, tiA] at *; omega)
            · refine PW_iload_n c_M_isUnder_39 rfl ?_
              refine PW_iconst (v := 5) c_M_isUnder_40 (by decide) ?_
              refine PW_icmp_eq c_M_isUnder_41 (fun h31 => absurd h31 (by decide)) (fun _ => ?_)
              refine PW_iload_n c_M_isUnder_44 rfl ?_
              refine PW_bipush (v := 6) c_M_isUnder_45 (by decide) ?_
              refine PW_icmp_ne c_M_isUnder_47 (fun h32 => ?_) (fun h32 => ?_)
              · refine PW_iconst (v := 0) c_M_isUnder_60 (by decide) ?_
                refine PW_ireturn (ty := .boolean) c_M_isUnder_61 rfl (by decide +kernel) ?_
                exact pq0 h (by simp only [chU, List.mem_cons, List.not_mem_nil, or_false, ← Int32.toInt_inj, tiA] at *; omega)
              · refine PW_iload_n c_M_isUnder_50 rfl ?_
                refine PW_bipush (v := 7) c_M_isUnder_51 (by decide) ?_
                refine PW_icmp_ne c_M_isUnder_53 (fun _ => ?_) (fun h33 => absurd h33 (by decide))
                refine PW_iconst (v := 0) c_M_isUnder_60 (by decide) ?_
                refine PW_ireturn (ty := .boolean) c_M_isUnder_61 rfl (by decide +kernel) ?_
                exact pq0 h (by simp only [chU, List.mem_cons, List.not_mem_nil, or_false, ← Int32.toInt_inj, tiA] at *; omega)
  · subst hu
    show PW (0, 0, 0, z) m_M_isUnder post 0 [some (.int 1), some (.int v)] [] (E x y)
    refine PW_iload_n c_M_isUnder_0 rfl ?_
    refine PW_if_eq c_M_isUnder_1 (fun h0 => ?_) (fun h0 => ?_)
    · refine PW_iconst (v := 1) c_M_isUnder_56 (by decide) ?_
      refine PW_goto c_M_isUnder_57 ?_
      refine PW_ireturn (ty := .boolean) c_M_isUnder_61 rfl (by decide +kernel) ?_
      exact pq1 h (by simp only [chU, List.mem_cons, List.not_mem_nil, or_false, ← Int32.toInt_inj, tiA] at *; omega)
    · refine PW_iload_n c_M_isUnder_4 rfl ?_
      refine PW_iload_n c_M_isUnder_5 rfl ?_
      refine PW_icmp_eq c_M_isUnder_6 (fun h1 => ?_) (fun h1 => ?_)
      · refine PW_iconst (v := 1) c_M_isUnder_56 (by decide) ?_
        refine PW_goto c_M_isUnder_57 ?_
        refine PW_ireturn (ty := .boolean) c_M_isUnder_61 rfl (by decide +kernel) ?_
        exact pq1 h (by simp only [chU, List.mem_cons, List.not_mem_nil, or_false, ← Int32.toInt_inj, tiA] at *; omega)
      · refine PW_iload_n c_M_isUnder_9 rfl ?_
        refine PW_iconst (v := 1) c_M_isUnder_10 (by decide) ?_
        refine PW_icmp_ne c_M_isUnder_11 (fun h2 => ?_) (fun h2 => ?_)
        · refine PW_iload_n c_M_isUnder_19 rfl ?_
          refine PW_iconst (v := 2) c_M_isUnder_20 (by decide) ?_
          refine PW_icmp_ne c_M_isUnder_21 (fun h3 => ?_) (fun h3 => ?_)
          · refine PW_iload_n c_M_isUnder_34 rfl ?_
            refine PW_iconst (v := 3) c_M_isUnder_35 (by decide) ?_
            refine PW_icmp_ne c_M_isUnder_36 (fun h4 => ?_) (fun h4 => ?_)
            · refine PW_iload_n c_M_isUnder_44 rfl ?_
              refine PW_bipush (v := 6) c_M_isUnder_45 (by decide) ?_
              refine PW_icmp_ne c_M_isUnder_47 (fun h5 => ?_) (fun h5 => ?_)
              · refine PW_iconst (v := 0) c_M_isUnder_60 (by decide) ?_
                refine PW_ireturn (ty := .boolean) c_M_isUnder_61 rfl (by decide +kernel) ?_
                exact pq0 h (by simp only [chU, List.mem_cons, List.not_mem_nil, or_false, ← Int32.toInt_inj, tiA] at *; omega)
              · refine PW_iload_n c_M_isUnder_50 rfl ?_
                refine PW_bipush (v := 7) c_M_isUnder_51 (by decide) ?_
                refine PW_icmp_ne c_M_isUnder_53 (fun _ => ?_) (fun h6 => absurd h6 (by decide))
                refine PW_iconst (v := 0) c_M_isUnder_60 (by decide) ?_
                refine PW_ireturn (ty := .boolean) c_M_isUnder_61 rfl (by decide +kernel) ?_
                exact pq0 h (by simp only [chU, List.mem_cons, List.not_mem_nil, or_false, ← Int32.toInt_inj, tiA] at *; omega)
            · refine PW_iload_n c_M_isUnder_39 rfl ?_
              refine PW_iconst (v := 5) c_M_isUnder_40 (by decide) ?_
              refine PW_icmp_eq c_M_isUnder_41 (fun h7 => absurd h7 (by decide)) (fun _ => ?_)
              refine PW_iload_n c_M_isUnder_44 rfl ?_
              refine PW_bipush (v := 6) c_M_isUnder_45 (by decide) ?_
              refine PW_icmp_ne c_M_isUnder_47 (fun h8 => ?_) (fun h8 => ?_)
              · refine PW_iconst (v := 0) c_M_isUnder_60 (by decide) ?_
                refine PW_ireturn (ty := .boolean) c_M_isUnder_61 rfl (by decide +kernel) ?_
                exact pq0 h (by simp only [chU, List.mem_cons, List.not_mem_nil, or_false, ← Int32.toInt_inj, tiA] at *; omega)
              · refine PW_iload_n c_M_isUnder_50 rfl ?_
                refine PW_bipush (v := 7) c_M_isUnder_51 (by decide) ?_
                refine PW_icmp_ne c_M_isUnder_53 (fun _ => ?_) (fun h9 => absurd h9 (by decide))
                refine PW_iconst (v := 0) c_M_isUnder_60 (by decide) ?_
                refine PW_ireturn (ty := .boolean) c_M_isUnder_61 rfl (by decide +kernel) ?_
                exact pq0 h (by simp only [chU, List.mem_cons, List.not_mem_nil, or_false, ← Int32.toInt_inj, tiA] at *; omega)
          · refine PW_iload_n c_M_isUnder_24 rfl ?_
            refine PW_iconst (v := 3) c_M_isUnder_25 (by decide) ?_
            refine PW_icmp_eq c_M_isUnder_26 (fun h10 => absurd h10 (by decide)) (fun _ => ?_)
            refine PW_iload_n c_M_isUnder_29 rfl ?_
            refine PW_iconst (v := 5) c_M_isUnder_30 (by decide) ?_
            refine PW_icmp_eq c_M_isUnder_31 (fun h11 => absurd h11 (by decide)) (fun _ => ?_)
            refine PW_iload_n c_M_isUnder_34 rfl ?_
            refine PW_iconst (v := 3) c_M_isUnder_35 (by decide) ?_
            refine PW_icmp_ne c_M_isUnder_36 (fun h12 => ?_) (fun h12 => ?_)
            · refine PW_iload_n c_M_isUnder_44 rfl ?_
              refine PW_bipush (v := 6) c_M_isUnder_45 (by decide) ?_
              refine PW_icmp_ne c_M_isUnder_47 (fun h13 => ?_) (fun h13 => ?_)
              · refine PW_iconst (v := 0) c_M_isUnder_60 (by decide) ?_
                refine PW_ireturn (ty := .boolean) c_M_isUnder_61 rfl (by decide +kernel) ?_
                exact pq0 h (by simp only [chU, List.mem_cons, List.not_mem_nil, or_false, ← Int32.toInt_inj, tiA] at *; omega)
              · refine PW_iload_n c_M_isUnder_50 rfl ?_
                refine PW_bipush (v := 7) c_M_isUnder_51 (by decide) ?_
                refine PW_icmp_ne c_M_isUnder_53 (fun _ => ?_) (fun h14 => absurd h14 (by decide))
                refine PW_iconst (v := 0) c_M_isUnder_60 (by decide) ?_
                refine PW_ireturn (ty := .boolean) c_M_isUnder_61 rfl (by decide +kernel) ?_
                exact pq0 h (by simp only [chU, List.mem_cons, List.not_mem_nil, or_false, ← Int32.toInt_inj, tiA] at *; omega)
            · refine PW_iload_n c_M_isUnder_39 rfl ?_
              refine PW_iconst (v := 5) c_M_isUnder_40 (by decide) ?_
              refine PW_icmp_eq c_M_isUnder_41 (fun h15 => absurd h15 (by decide)) (fun _ => ?_)
              refine PW_iload_n c_M_isUnder_44 rfl ?_
              refine PW_bipush (v := 6) c_M_isUnder_45 (by decide) ?_
              refine PW_icmp_ne c_M_isUnder_47 (fun h16 => ?_) (fun h16 => ?_)
              · refine PW_iconst (v := 0) c_M_isUnder_60 (by decide) ?_
                refine PW_ireturn (ty := .boolean) c_M_isUnder_61 rfl (by decide +kernel) ?_
                exact pq0 h (by simp only [chU, List.mem_cons, List.not_mem_nil, or_false, ← Int32.toInt_inj, tiA] at *; omega)
              · refine PW_iload_n c_M_isUnder_50 rfl ?_
                refine PW_bipush (v := 7) c_M_isUnder_51 (by decide) ?_
                refine PW_icmp_ne c_M_isUnder_53 (fun _ => ?_) (fun h17 => absurd h17 (by decide))
                refine PW_iconst (v := 0) c_M_isUnder_60 (by decide) ?_
                refine PW_ireturn (ty := .boolean) c_M_isUnder_61 rfl (by decide +kernel) ?_
                exact pq0 h (by simp only [chU, List.mem_cons, List.not_mem_nil, or_false, ← Int32.toInt_inj, tiA] at *; omega)
        · refine PW_iload_n c_M_isUnder_14 rfl ?_
          refine PW_iconst (v := 4) c_M_isUnder_15 (by decide) ?_
          refine PW_icmp_eq c_M_isUnder_16 (fun h18 => absurd h18 (by decide)) (fun _ => ?_)
          refine PW_iload_n c_M_isUnder_19 rfl ?_
          refine PW_iconst (v := 2) c_M_isUnder_20 (by decide) ?_
          refine PW_icmp_ne c_M_isUnder_21 (fun h19 => ?_) (fun h19 => ?_)
          · refine PW_iload_n c_M_isUnder_34 rfl ?_
            refine PW_iconst (v := 3) c_M_isUnder_35 (by decide) ?_
            refine PW_icmp_ne c_M_isUnder_36 (fun h20 => ?_) (fun h20 => ?_)
            · refine PW_iload_n c_M_isUnder_44 rfl ?_
              refine PW_bipush (v := 6) c_M_isUnder_45 (by decide) ?_
              refine PW_icmp_ne c_M_isUnder_47 (fun h21 => ?_) (fun h21 => ?_)
              · refine PW_iconst (v := 0) c_M_isUnder_60 (by decide) ?_
                refine PW_ireturn (ty := .boolean) c_M_isUnder_61 rfl (by decide +kernel) ?_
                exact pq0 h (by simp only [chU, List.mem_cons, List.not_mem_nil, or_false, ← Int32.toInt_inj, tiA] at *; omega)
              · refine PW_iload_n c_M_isUnder_50 rfl ?_
                refine PW_bipush (v := 7) c_M_isUnder_51 (by decide) ?_
                refine PW_icmp_ne c_M_isUnder_53 (fun _ => ?_) (fun h22 => absurd h22 (by decide))
                refine PW_iconst (v := 0) c_M_isUnder_60 (by decide) ?_
                refine PW_ireturn (ty := .boolean) c_M_isUnder_61 rfl (by decide +kernel) ?_
                exact pq0 h (by simp only [chU, List.mem_cons, List.not_mem_nil, or_false, ← Int32.toInt_inj, tiA] at *; omega)
            · refine PW_iload_n c_M_isUnder_39 rfl ?_
              refine PW_iconst (v := 5) c_M_isUnder_40 (by decide) ?_
              refine PW_icmp_eq c_M_isUnder_41 (fun h23 => absurd h23 (by decide)) (fun _ => ?_)
              refine PW_iload_n c_M_isUnder_44 rfl ?_
              refine PW_bipush (v := 6) c_M_isUnder_45 (by decide) ?_
              refine PW_icmp_ne c_M_isUnder_47 (fun h24 => ?_) (fun h24 => ?_)
              · refine PW_iconst (v := 0) c_M_isUnder_60 (by decide) ?_
                refine PW_ireturn (ty := .boolean) c_M_isUnder_61 rfl (by decide +kernel) ?_
                exact pq0 h (by simp only [chU, List.mem_cons, List.not_mem_nil, or_false, ← Int32.toInt_inj, tiA] at *; omega)
              · refine PW_iload_n c_M_isUnder_50 rfl ?_
                refine PW_bipush (v := 7) c_M_isUnder_51 (by decide) ?_
                refine PW_icmp_ne c_M_isUnder_53 (fun _ => ?_) (fun h25 => absurd h25 (by decide))
                refine PW_iconst (v := 0) c_M_isUnder_60 (by decide) ?_
                refine PW_ireturn (ty := .boolean) c_M_isUnder_61 rfl (by decide +kernel) ?_
                exact pq0 h (by simp only [chU, List.mem_cons, List.not_mem_nil, or_false, ← Int32.toInt_inj, tiA] at *; omega)
          · refine PW_iload_n c_M_isUnder_24 rfl ?_
            refine PW_iconst (v := 3) c_M_isUnder_25 (by decide) ?_
            refine PW_icmp_eq c_M_isUnder_26 (fun h26 => absurd h26 (by decide)) (fun _ => ?_)
            refine PW_iload_n c_M_isUnder_29 rfl ?_
            refine PW_iconst (v := 5) c_M_isUnder_30 (by decide) ?_
            refine PW_icmp_eq c_M_isUnder_31 (fun h27 => absurd h27 (by decide)) (fun _ => ?_)
            refine PW_iload_n c_M_isUnder_34 rfl ?_
            refine PW_iconst (v := 3) c_M_isUnder_35 (by decide) ?_
            refine PW_icmp_ne c_M_isUnder_36 (fun h28 => ?_) (fun h28 => ?_)
            · refine PW_iload_n c_M_isUnder_44 rfl ?_
              refine PW_bipush (v := 6) c_M_isUnder_45 (by decide) ?_
              refine PW_icmp_ne c_M_isUnder_47 (fun h29 => ?_) (fun h29 => ?_)
              · refine PW_iconst (v := 0) c_M_isUnder_60 (by decide) ?_
                refine PW_ireturn (ty := .boolean) c_M_isUnder_61 rfl (by decide +kernel) ?_
                exact pq0 h (by simp only [chU, List.mem_cons, List.not_mem_nil, or_false, ← Int32.toInt_inj, tiA] at *; omega)
              · refine PW_iload_n c_M_isUnder_50 rfl ?_
                refine PW_bipush (v := 7) c_M_isUnder_51 (by decide) ?_
                refine PW_icmp_ne c_M_isUnder_53 (fun _ => ?_) (fun h30 => absurd h30 (by decide))
                refine PW_iconst (v := 0) c_M_isUnder_60 (by decide) ?_
                refine PW_ireturn (ty := .boolean) c_M_isUnder_61 rfl (by decide +kernel) ?_
                exact pq0 h (by simp only [chU, List.mem_cons, List.not_mem_nil, or_false, ← Int32.toInt_inj, tiA] at *; omega)
            · refine PW_iload_n c_M_isUnder_39 rfl ?_
              refine PW_iconst (v := 5) c_M_isUnder_40 (by decide) ?_
              refine PW_icmp_eq c_M_isUnder_41 (fun h31 => absurd h31 (by decide)) (fun _ => ?_)
              refine PW_iload_n c_M_isUnder_44 rfl ?_
              refine PW_bipush (v := 6) c_M_isUnder_45 (by decide) ?_
              refine PW_icmp_ne c_M_isUnder_47 (fun h32 => ?_) (fun h32 => ?_)
              · refine PW_iconst (v := 0) c_M_isUnder_60 (by decide) ?_
                refine PW_ireturn (ty := .boolean) c_M_isUnder_61 rfl (by decide +kernel) ?_
                exact pq0 h (by simp only [chU, List.mem_cons, List.not_mem_nil, or_false, ← Int32.toInt_inj, tiA] at *; omega)
              · refine PW_iload_n c_M_isUnder_50 rfl ?_
                refine PW_bipush (v := 7) c_M_isUnder_51 (by decide) ?_
                refine PW_icmp_ne c_M_isUnder_53 (fun _ => ?_) (fun h33 => absurd h33 (by decide))
                refine PW_iconst (v := 0) c_M_isUnder_60 (by decide) ?_
                refine PW_ireturn (ty := .boolean) c_M_isUnder_61 rfl (by decide +kernel) ?_
                exact pq0 h (by simp only [chU, List.mem_cons, List.not_mem_nil, or_false, ← Int32.toInt_inj, tiA] at *; omega)
  · subst hu
    show PW (0, 0, 0, z) m_M_isUnder post 0 [some (.int 2), some (.int v)] [] (E x y)
    refine PW_iload_n c_M_isUnder_0 rfl ?_
    refine PW_if_eq c_M_isUnder_1 (fun h0 => ?_) (fun h0 => ?_)
    · refine PW_iconst (v := 1) c_M_isUnder_56 (by decide) ?_
      refine PW_goto c_M_isUnder_57 ?_
      refine PW_ireturn (ty := .boolean) c_M_isUnder_61 rfl (by decide +kernel) ?_
      exact pq1 h (by simp only [chU, List.mem_cons, List.not_mem_nil, or_false, ← Int32.toInt_inj, tiA] at *; omega)
    · refine PW_iload_n c_M_isUnder_4 rfl ?_
      refine PW_iload_n c_M_isUnder_5 rfl ?_
      refine PW_icmp_eq c_M_isUnder_6 (fun h1 => ?_) (fun h1 => ?_)
      · refine PW_iconst (v := 1) c_M_isUnder_56 (by decide) ?_
        refine PW_goto c_M_isUnder_57 ?_
        refine PW_ireturn (ty := .boolean) c_M_isUnder_61 rfl (by decide +kernel) ?_
        exact pq1 h (by simp only [chU, List.mem_cons, List.not_mem_nil, or_false, ← Int32.toInt_inj, tiA] at *; omega)
      · refine PW_iload_n c_M_isUnder_9 rfl ?_
        refine PW_iconst (v := 1) c_M_isUnder_10 (by decide) ?_
        refine PW_icmp_ne c_M_isUnder_11 (fun h2 => ?_) (fun h2 => ?_)
        · refine PW_iload_n c_M_isUnder_19 rfl ?_
          refine PW_iconst (v := 2) c_M_isUnder_20 (by decide) ?_
          refine PW_icmp_ne c_M_isUnder_21 (fun h3 => ?_) (fun h3 => ?_)
          · refine PW_iload_n c_M_isUnder_34 rfl ?_
            refine PW_iconst (v := 3) c_M_isUnder_35 (by decide) ?_
            refine PW_icmp_ne c_M_isUnder_36 (fun h4 => ?_) (fun h4 => ?_)
            · refine PW_iload_n c_M_isUnder_44 rfl ?_
              refine PW_bipush (v := 6) c_M_isUnder_45 (by decide) ?_
              refine PW_icmp_ne c_M_isUnder_47 (fun h5 => ?_) (fun h5 => ?_)
              · refine PW_iconst (v := 0) c_M_isUnder_60 (by decide) ?_
                refine PW_ireturn (ty := .boolean) c_M_isUnder_61 rfl (by decide +kernel) ?_
                exact pq0 h (by simp only [chU, List.mem_cons, List.not_mem_nil, or_false, ← Int32.toInt_inj, tiA] at *; omega)
              · refine PW_iload_n c_M_isUnder_50 rfl ?_
                refine PW_bipush (v := 7) c_M_isUnder_51 (by decide) ?_
                refine PW_icmp_ne c_M_isUnder_53 (fun _ => ?_) (fun h6 => absurd h6 (by decide))
                refine PW_iconst (v := 0) c_M_isUnder_60 (by decide) ?_
                refine PW_ireturn (ty := .boolean) c_M_isUnder_61 rfl (by decide +kernel) ?_
                exact pq0 h (by simp only [chU, List.mem_cons, List.not_mem_nil, or_false, ← Int32.toInt_inj, tiA] at *; omega)
            · refine PW_iload_n c_M_isUnder_39 rfl ?_
              refine PW_iconst (v := 5) c_M_isUnder_40 (by decide) ?_
              refine PW_icmp_eq c_M_isUnder_41 (fun h7 => absurd h7 (by decide)) (fun _ => ?_)
              refine PW_iload_n c_M_isUnder_44 rfl ?_
              refine PW_bipush (v := 6) c_M_isUnder_45 (by decide) ?_
              refine PW_icmp_ne c_M_isUnder_47 (fun h8 => ?_) (fun h8 => ?_)
              · refine PW_iconst (v := 0) c_M_isUnder_60 (by decide) ?_
                refine PW_ireturn (ty := .boolean) c_M_isUnder_61 rfl (by decide +kernel) ?_
                exact pq0 h (by simp only [chU, List.mem_cons, List.not_mem_nil, or_false, ← Int32.toInt_inj, tiA] at *; omega)
              · refine PW_iload_n c_M_isUnder_50 rfl ?_
                refine PW_bipush (v := 7) c_M_isUnder_51 (by decide) ?_
                refine PW_icmp_ne c_M_isUnder_53 (fun _ => ?_) (fun h9 => absurd h9 (by decide))
                refine PW_iconst (v := 0) c_M_isUnder_60 (by decide) ?_
                refine PW_ireturn (ty := .boolean) c_M_isUnder_61 rfl (by decide +kernel) ?_
                exact pq0 h (by simp only [chU, List.mem_cons, List.not_mem_nil, or_false, ← Int32.toInt_inj, tiA] at *; omega)
          · refine PW_iload_n c_M_isUnder_24 rfl ?_
            refine PW_iconst (v := 3) c_M_isUnder_25 (by decide) ?_
            refine PW_icmp_eq c_M_isUnder_26 (fun h10 => absurd h10 (by decide)) (fun _ => ?_)
            refine PW_iload_n c_M_isUnder_29 rfl ?_
            refine PW_iconst (v := 5) c_M_isUnder_30 (by decide) ?_
            refine PW_icmp_eq c_M_isUnder_31 (fun h11 => absurd h11 (by decide)) (fun _ => ?_)
            refine PW_iload_n c_M_isUnder_34 rfl ?_
            refine PW_iconst (v := 3) c_M_isUnder_35 (by decide) ?_
            refine PW_icmp_ne c_M_isUnder_36 (fun h12 => ?_) (fun h12 => ?_)
            · refine PW_iload_n c_M_isUnder_44 rfl ?_
              refine PW_bipush (v := 6) c_M_isUnder_45 (by decide) ?_
              refine PW_icmp_ne c_M_isUnder_47 (fun h13 => ?_) (fun h13 => ?_)
              · refine PW_iconst (v := 0) c_M_isUnder_60 (by decide) ?_
                refine PW_ireturn (ty := .boolean) c_M_isUnder_61 rfl (by decide +kernel) ?_
                exact pq0 h (by simp only [chU, List.mem_cons, List.not_mem_nil, or_false, ← Int32.toInt_inj, tiA] at *; omega)
              · refine PW_iload_n c_M_isUnder_50 rfl ?_
                refine PW_bipush (v := 7) c_M_isUnder_51 (by decide) ?_
                refine PW_icmp_ne c_M_isUnder_53 (fun _ => ?_) (fun h14 => absurd h14 (by decide))
                refine PW_iconst (v := 0) c_M_isUnder_60 (by decide) ?_
                refine PW_ireturn (ty := .boolean) c_M_isUnder_61 rfl (by decide +kernel) ?_
                exact pq0 h (by simp only [chU, List.mem_cons, List.not_mem_nil, or_false, ← Int32.toInt_inj, tiA] at *; omega)
            · refine PW_iload_n c_M_isUnder_39 rfl ?_
              refine PW_iconst (v := 5) c_M_isUnder_40 (by decide) ?_
              refine PW_icmp_eq c_M_isUnder_41 (fun h15 => absurd h15 (by decide)) (fun _ => ?_)
              refine PW_iload_n c_M_isUnder_44 rfl ?_
              refine PW_bipush (v := 6) c_M_isUnder_45 (by decide) ?_
              refine PW_icmp_ne c_M_isUnder_47 (fun h16 => ?_) (fun h16 => ?_)
              · refine PW_iconst (v := 0) c_M_isUnder_60 (by decide) ?_
                refine PW_ireturn (ty := .boolean) c_M_isUnder_61 rfl (by decide +kernel) ?_
                exact pq0 h (by simp only [chU, List.mem_cons, List.not_mem_nil, or_false, ← Int32.toInt_inj, tiA] at *; omega)
              · refine PW_iload_n c_M_isUnder_50 rfl ?_
                refine PW_bipush (v := 7) c_M_isUnder_51 (by decide) ?_
                refine PW_icmp_ne c_M_isUnder_53 (fun _ => ?_) (fun h17 => absurd h17 (by decide))
                refine PW_iconst (v := 0) c_M_isUnder_60 (by decide) ?_
                refine PW_ireturn (ty := .boolean) c_M_isUnder_61 rfl (by decide +kernel) ?_
                exact pq0 h (by simp only [chU, List.mem_cons, List.not_mem_nil, or_false, ← Int32.toInt_inj, tiA] at *; omega)
        · refine PW_iload_n c_M_isUnder_14 rfl ?_
          refine PW_iconst (v := 4) c_M_isUnder_15 (by decide) ?_
          refine PW_icmp_eq c_M_isUnder_16 (fun h18 => absurd h18 (by decide)) (fun _ => ?_)
          refine PW_iload_n c_M_isUnder_19 rfl ?_
          refine PW_iconst (v := 2) c_M_isUnder_20 (by decide) ?_
          refine PW_icmp_ne c_M_isUnder_21 (fun h19 => ?_) (fun h19 => ?_)
          · refine PW_iload_n c_M_isUnder_34 rfl ?_
            refine PW_iconst (v := 3) c_M_isUnder_35 (by decide) ?_
            refine PW_icmp_ne c_M_isUnder_36 (fun h20 => ?_) (fun h20 => ?_)
            · refine PW_iload_n c_M_isUnder_44 rfl ?_
              refine PW_bipush (v := 6) c_M_isUnder_45 (by decide) ?_
              refine PW_icmp_ne c_M_isUnder_47 (fun h21 => ?_) (fun h21 => ?_)
              · refine PW_iconst (v := 0) c_M_isUnder_60 (by decide) ?_
                refine PW_ireturn (ty := .boolean) c_M_isUnder_61 rfl (by decide +kernel) ?_
                exact pq0 h (by simp only [chU, List.mem_cons, List.not_mem_nil, or_false, ← Int32.toInt_inj, tiA] at *; omega)
              · refine PW_iload_n c_M_isUnder_50 rfl ?_
                refine PW_bipush (v := 7) c_M_isUnder_51 (by decide) ?_
                refine PW_icmp_ne c_M_isUnder_53 (fun _ => ?_) (fun h22 => absurd h22 (by decide))
                refine PW_iconst (v := 0) c_M_isUnder_60 (by decide) ?_
                refine PW_ireturn (ty := .boolean) c_M_isUnder_61 rfl (by decide +kernel) ?_
                exact pq0 h (by simp only [chU, List.mem_cons, List.not_mem_nil, or_false, ← Int32.toInt_inj, tiA] at *; omega)
            · refine PW_iload_n c_M_isUnder_39 rfl ?_
              refine PW_iconst (v := 5) c_M_isUnder_40 (by decide) ?_
              refine PW_icmp_eq c_M_isUnder_41 (fun h23 => absurd h23 (by decide)) (fun _ => ?_)
              refine PW_iload_n c_M_isUnder_44 rfl ?_
              refine PW_bipush (v := 6) c_M_isUnder_45 (by decide) ?_
              refine PW_icmp_ne c_M_isUnder_47 (fun h24 => ?_) (fun h24 => ?_)
              · refine PW_iconst (v := 0) c_M_isUnder_60 (by decide) ?_
                refine PW_ireturn (ty := .boolean) c_M_isUnder_61 rfl (by decide +kernel) ?_
                exact pq0 h (by simp only [chU, List.mem_cons, List.not_mem_nil, or_false, ← Int32.toInt_inj, tiA] at *; omega)
              · refine PW_iload_n c_M_isUnder_50 rfl ?_
                refine PW_bipush (v := 7) c_M_isUnder_51 (by decide) ?_
                refine PW_icmp_ne c_M_isUnder_53 (fun _ => ?_) (fun h25 => absurd h25 (by decide))
                refine PW_iconst (v := 0) c_M_isUnder_60 (by decide) ?_
                refine PW_ireturn (ty := .boolean) c_M_isUnder_61 rfl (by decide +kernel) ?_
                exact pq0 h (by simp only [chU, List.mem_cons, List.not_mem_nil, or_false, ← Int32.toInt_inj, tiA] at *; omega)
          · refine PW_iload_n c_M_isUnder_24 rfl ?_
            refine PW_iconst (v := 3) c_M_isUnder_25 (by decide) ?_
            refine PW_icmp_eq c_M_isUnder_26 (fun h26 => absurd h26 (by decide)) (fun _ => ?_)
            refine PW_iload_n c_M_isUnder_29 rfl ?_
            refine PW_iconst (v := 5) c_M_isUnder_30 (by decide) ?_
            refine PW_icmp_eq c_M_isUnder_31 (fun h27 => absurd h27 (by decide)) (fun _ => ?_)
            refine PW_iload_n c_M_isUnder_34 rfl ?_
            refine PW_iconst (v := 3) c_M_isUnder_35 (by decide) ?_
            refine PW_icmp_ne c_M_isUnder_36 (fun h28 => ?_) (fun h28 => ?_)
            · refine PW_iload_n c_M_isUnder_44 rfl ?_
              refine PW_bipush (v := 6) c_M_isUnder_45 (by decide) ?_
              refine PW_icmp_ne c_M_isUnder_47 (fun h29 => ?_) (fun h29 => ?_)
              · refine PW_iconst (v := 0) c_M_isUnder_60 (by decide) ?_
                refine PW_ireturn (ty := .boolean) c_M_isUnder_61 rfl (by decide +kernel) ?_
                exact pq0 h (by simp only [chU, List.mem_cons, List.not_mem_nil, or_false, ← Int32.toInt_inj, tiA] at *; omega)
              · refine PW_iload_n c_M_isUnder_50 rfl ?_
                refine PW_bipush (v := 7) c_M_isUnder_51 (by decide) ?_
                refine PW_icmp_ne c_M_isUnder_53 (fun _ => ?_) (fun h30 => absurd h30 (by decide))
                refine PW_iconst (v := 0) c_M_isUnder_60 (by decide) ?_
                refine PW_ireturn (ty := .boolean) c_M_isUnder_61 rfl (by decide +kernel) ?_
                exact pq0 h (by simp only [chU, List.mem_cons, List.not_mem_nil, or_false, ← Int32.toInt_inj, tiA] at *; omega)
            · refine PW_iload_n c_M_isUnder_39 rfl ?_
              refine PW_iconst (v := 5) c_M_isUnder_40 (by decide) ?_
              refine PW_icmp_eq c_M_isUnder_41 (fun h31 => absurd h31 (by decide)) (fun _ => ?_)
              refine PW_iload_n c_M_isUnder_44 rfl ?_
              refine PW_bipush (v := 6) c_M_isUnder_45 (by decide) ?_
              refine PW_icmp_ne c_M_isUnder_47 (fun h32 => ?_) (fun h32 => ?_)
              · refine PW_iconst (v := 0) c_M_isUnder_60 (by decide) ?_
                refine PW_ireturn (ty := .boolean) c_M_isUnder_61 rfl (by decide +kernel) ?_
                exact pq0 h (by simp only [chU, List.mem_cons, List.not_mem_nil, or_false, ← Int32.toInt_inj, tiA] at *; omega)
              · refine PW_iload_n c_M_isUnder_50 rfl ?_
                refine PW_bipush (v := 7) c_M_isUnder_51 (by decide) ?_
                refine PW_icmp_ne c_M_isUnder_53 (fun _ => ?_) (fun h33 => absurd h33 (by decide))
                refine PW_iconst (v := 0) c_M_isUnder_60 (by decide) ?_
                refine PW_ireturn (ty := .boolean) c_M_isUnder_61 rfl (by decide +kernel) ?_
                exact pq0 h (by simp only [chU, List.mem_cons, List.not_mem_nil, or_false, ← Int32.toInt_inj, tiA] at *; omega)
  · subst hu
    show PW (0, 0, 0, z) m_M_isUnder post 0 [some (.int 3), some (.int v)] [] (E x y)
    refine PW_iload_n c_M_isUnder_0 rfl ?_
    refine PW_if_eq c_M_isUnder_1 (fun h0 => ?_) (fun h0 => ?_)
    · refine PW_iconst (v := 1) c_M_isUnder_56 (by decide) ?_
      refine PW_goto c_M_isUnder_57 ?_
      refine PW_ireturn (ty := .boolean) c_M_isUnder_61 rfl (by decide +kernel) ?_
      exact pq1 h (by simp only [chU, List.mem_cons, List.not_mem_nil, or_false, ← Int32.toInt_inj, tiA] at *; omega)
    · refine PW_iload_n c_M_isUnder_4 rfl ?_
      refine PW_iload_n c_M_isUnder_5 rfl ?_
      refine PW_icmp_eq c_M_isUnder_6 (fun h1 => ?_) (fun h1 => ?_)
      · refine PW_iconst (v := 1) c_M_isUnder_56 (by decide) ?_
        refine PW_goto c_M_isUnder_57 ?_
        refine PW_ireturn (ty := .boolean) c_M_isUnder_61 rfl (by decide +kernel) ?_
        exact pq1 h (by simp only [chU, List.mem_cons, List.not_mem_nil, or_false, ← Int32.toInt_inj, tiA] at *; omega)
      · refine PW_iload_n c_M_isUnder_9 rfl ?_
        refine PW_iconst (v := 1) c_M_isUnder_10 (by decide) ?_
        refine PW_icmp_ne c_M_isUnder_11 (fun h2 => ?_) (fun h2 => ?_)
        · refine PW_iload_n c_M_isUnder_19 rfl ?_
          refine PW_iconst (v := 2) c_M_isUnder_20 (by decide) ?_
          refine PW_icmp_ne c_M_isUnder_21 (fun h3 => ?_) (fun h3 => ?_)
          · refine PW_iload_n c_M_isUnder_34 rfl ?_
            refine PW_iconst (v := 3) c_M_isUnder_35 (by decide) ?_
            refine PW_icmp_ne c_M_isUnder_36 (fun h4 => ?_) (fun h4 => ?_)
            · refine PW_iload_n c_M_isUnder_44 rfl ?_
              refine PW_bipush (v := 6) c_M_isUnder_45 (by decide) ?_
              refine PW_icmp_ne c_M_isUnder_47 (fun h5 => ?_) (fun h5 => ?_)
              · refine PW_iconst (v := 0) c_M_isUnder_60 (by decide) ?_
                refine PW_ireturn (ty := .boolean) c_M_isUnder_61 rfl (by decide +kernel) ?_
                exact pq0 h (by simp only [chU, List.mem_cons, List.not_mem_nil, or_false, ← Int32.toInt_inj, tiA] at *; omega)
              · refine PW_iload_n c_M_isUnder_50 rfl ?_
                refine PW_bipush (v := 7) c_M_isUnder_51 (by decide) ?_
                refine PW_icmp_ne c_M_isUnder_53 (fun _ => ?_) (fun h6 => absurd h6 (by decide))
                refine PW_iconst (v := 0) c_M_isUnder_60 (by decide) ?_
                refine PW_ireturn (ty := .boolean) c_M_isUnder_61 rfl (by decide +kernel) ?_
                exact pq0 h (by simp only [chU, List.mem_cons, List.not_mem_nil, or_false, ← Int32.toInt_inj, tiA] at *; omega)
            · refine PW_iload_n c_M_isUnder_39 rfl ?_
              refine PW_iconst (v := 5) c_M_isUnder_40 (by decide) ?_
              refine PW_icmp_eq c_M_isUnder_41 (fun h7 => absurd h7 (by decide)) (fun _ => ?_)
              refine PW_iload_n c_M_isUnder_44 rfl ?_
              refine PW_bipush (v := 6) c_M_isUnder_45 (by decide) ?_
              refine PW_icmp_ne c_M_isUnder_47 (fun h8 => ?_) (fun h8 => ?_)
              · refine PW_iconst (v := 0) c_M_isUnder_60 (by decide) ?_
                refine PW_ireturn (ty := .boolean) c_M_isUnder_61 rfl (by decide +kernel) ?_
                exact pq0 h (by simp only [chU, List.mem_cons, List.not_mem_nil, or_false, ← Int32.toInt_inj, tiA] at *; omega)
              · refine PW_iload_n c_M_isUnder_50 rfl ?_
                refine PW_bipush (v := 7) c_M_isUnder_51 (by decide) ?_
                refine PW_icmp_ne c_M_isUnder_53 (fun _ => ?_) (fun h9 => absurd h9 (by decide))
                refine PW_iconst (v := 0) c_M_isUnder_60 (by decide) ?_
                refine PW_ireturn (ty := .boolean) c_M_isUnder_61 rfl (by decide +kernel) ?_
                exact pq0 h (by simp only [chU, List.mem_cons, List.not_mem_nil, or_false, ← Int32.toInt_inj, tiA] at *; omega)
          · refine PW_iload_n c_M_isUnder_24 rfl ?_
            refine PW_iconst (v := 3) c_M_isUnder_25 (by decide) ?_
            refine PW_icmp_eq c_M_isUnder_26 (fun _ => ?_) (fun h10 => absurd (by decide) h10)
            refine PW_iconst (v := 1) c_M_isUnder_56 (by decide) ?_
            refine PW_goto c_M_isUnder_57 ?_
            refine PW_ireturn (ty := .boolean) c_M_isUnder_61 rfl (by decide +kernel) ?_
            exact pq1 h (by simp only [chU, List.mem_cons, List.not_mem_nil, or_false, ← Int32.toInt_inj, tiA] at *; omega)
        · refine PW_iload_n c_M_isUnder_14 rfl ?_
          refine PW_iconst (v := 4) c_M_isUnder_15 (by decide) ?_
          refine PW_icmp_eq c_M_isUnder_16 (fun h11 => absurd h11 (by decide)) (fun _ => ?_)
          refine PW_iload_n c_M_isUnder_19 rfl ?_
          refine PW_iconst (v := 2) c_M_isUnder_20 (by decide) ?_
          refine PW_icmp_ne c_M_isUnder_21 (fun h12 => ?_) (fun h12 => ?_)
          · refine PW_iload_n c_M_isUnder_34 rfl ?_
            refine PW_iconst (v := 3) c_M_isUnder_35 (by decide) ?_
            refine PW_icmp_ne c_M_isUnder_36 (fun h13 => ?_) (fun h13 => ?_)
            · refine PW_iload_n c_M_isUnder_44 rfl ?_
              refine PW_bipush (v := 6) c_M_isUnder_45 (by decide) ?_
              refine PW_icmp_ne c_M_isUnder_47 (fun h14 => ?_) (fun h14 => ?_)
              · refine PW_iconst (v := 0) c_M_isUnder_60 (by decide) ?_
                refine PW_ireturn (ty := .boolean) c_M_isUnder_61 rfl (by decide +kernel) ?_
                exact pq0 h (by simp only [chU, List.mem_cons, List.not_mem_nil, or_false, ← Int32.toInt_inj, tiA] at *; omega)
              · refine PW_iload_n c_M_isUnder_50 rfl ?_
                refine PW_bipush (v := 7) c_M_isUnder_51 (by decide) ?_
                refine PW_icmp_ne c_M_isUnder_53 (fun _ => ?_) (fun h15 => absurd h15 (by decide))
                refine PW_iconst (v := 0) c_M_isUnder_60 (by decide) ?_
                refine PW_ireturn (ty := .boolean) c_M_isUnder_61 rfl (by decide +kernel) ?_
                exact pq0 h (by simp only [chU, List.mem_cons, List.not_mem_nil, or_false, ← Int32.toInt_inj, tiA] at *; omega)
            · refine PW_iload_n c_M_isUnder_39 rfl ?_
              refine PW_iconst (v := 5) c_M_isUnder_40 (by decide) ?_
              refine PW_icmp_eq c_M_isUnder_41 (fun h16 => absurd h16 (by decide)) (fun _ => ?_)
              refine PW_iload_n c_M_isUnder_44 rfl ?_
              refine PW_bipush (v := 6) c_M_isUnder_45 (by decide) ?_
              refine PW_icmp_ne c_M_isUnder_47 (fun h17 => ?_) (fun h17 => ?_)
              · refine PW_iconst (v := 0) c_M_isUnder_60 (by decide) ?_
                refine PW_ireturn (ty := .boolean) c_M_isUnder_61 rfl (by decide +kernel) ?_
                exact pq0 h (by simp only [chU, List.mem_cons, List.not_mem_nil, or_false, ← Int32.toInt_inj, tiA] at *; omega)
              · refine PW_iload_n c_M_isUnder_50 rfl ?_
                refine PW_bipush (v := 7) c_M_isUnder_51 (by decide) ?_
                refine PW_icmp_ne c_M_isUnder_53 (fun _ => ?_) (fun h18 => absurd h18 (by decide))
                refine PW_iconst (v := 0) c_M_isUnder_60 (by decide) ?_
                refine PW_ireturn (ty := .boolean) c_M_isUnder_61 rfl (by decide +kernel) ?_
                exact pq0 h (by simp only [chU, List.mem_cons, List.not_mem_nil, or_false, ← Int32.toInt_inj, tiA] at *; omega)
          · refine PW_iload_n c_M_isUnder_24 rfl ?_
            refine PW_iconst (v := 3) c_M_isUnder_25 (by decide) ?_
            refine PW_icmp_eq c_M_isUnder_26 (fun _ => ?_) (fun h19 => absurd (by decide) h19)
            refine PW_iconst (v := 1) c_M_isUnder_56 (by decide) ?_
            refine PW_goto c_M_isUnder_57 ?_
            refine PW_ireturn (ty := .boolean) c_M_isUnder_61 rfl (by decide +kernel) ?_
            exact pq1 h (by simp only [chU, List.mem_cons, List.not_mem_nil, or_false, ← Int32.toInt_inj, tiA] at *; omega)
  · subst hu
    show PW (0, 0, 0, z) m_M_isUnder post 0 [some (.int 4), some (.int v)] [] (E x y)
    refine PW_iload_n c_M_isUnder_0 rfl ?_
    refine PW_if_eq c_M_isUnder_1 (fun h0 => ?_) (fun h0 => ?_)
    · refine PW_iconst (v := 1) c_M_isUnder_56 (by decide) ?_
      refine PW_goto c_M_isUnder_57 ?_
      refine PW_ireturn (ty := .boolean) c_M_isUnder_61 rfl (by decide +kernel) ?_
      exact pq1 h (by simp only [chU, List.mem_cons, List.not_mem_nil, or_false, ← Int32.toInt_inj, tiA] at *; omega)
    · refine PW_iload_n c_M_isUnder_4 rfl ?_
      refine PW_iload_n c_M_isUnder_5 rfl ?_
      refine PW_icmp_eq c_M_isUnder_6 (fun h1 => ?_) (fun h1 => ?_)
      · refine PW_iconst (v := 1) c_M_isUnder_56 (by decide) ?_
        refine PW_goto c_M_isUnder_57 ?_
        refine PW_ireturn (ty := .boolean) c_M_isUnder_61 rfl (by decide +kernel) ?_
        exact pq1 h (by simp only [chU, List.mem_cons, List.not_mem_nil, or_false, ← Int32.toInt_inj, tiA] at *; omega)
      · refine PW_iload_n c_M_isUnder_9 rfl ?_
        refine PW_iconst (v := 1) c_M_isUnder_10 (by decide) ?_
        refine PW_icmp_ne c_M_isUnder_11 (fun h2 => ?_) (fun h2 => ?_)
        · refine PW_iload_n c_M_isUnder_19 rfl ?_
          refine PW_iconst (v := 2) c_M_isUnder_20 (by decide) ?_
          refine PW_icmp_ne c_M_isUnder_21 (fun h3 => ?_) (fun h3 => ?_)
          · refine PW_iload_n c_M_isUnder_34 rfl ?_
            refine PW_iconst (v := 3) c_M_isUnder_35 (by decide) ?_
            refine PW_icmp_ne c_M_isUnder_36 (fun h4 => ?_) (fun h4 => ?_)
            · refine PW_iload_n c_M_isUnder_44 rfl ?_
              refine PW_bipush (v := 6) c_M_isUnder_45 (by decide) ?_
              refine PW_icmp_ne c_M_isUnder_47 (fun h5 => ?_) (fun h5 => ?_)
              · refine PW_iconst (v := 0) c_M_isUnder_60 (by decide) ?_
                refine PW_ireturn (ty := .boolean) c_M_isUnder_61 rfl (by decide +kernel) ?_
                exact pq0 h (by simp only [chU, List.mem_cons, List.not_mem_nil, or_false, ← Int32.toInt_inj, tiA] at *; omega)
              · refine PW_iload_n c_M_isUnder_50 rfl ?_
                refine PW_bipush (v := 7) c_M_isUnder_51 (by decide) ?_
                refine PW_icmp_ne c_M_isUnder_53 (fun _ => ?_) (fun h6 => absurd h6 (by decide))
                refine PW_iconst (v := 0) c_M_isUnder_60 (by decide) ?_
                refine PW_ireturn (ty := .boolean) c_M_isUnder_61 rfl (by decide +kernel) ?_
                exact pq0 h (by simp only [chU, List.mem_cons, List.not_mem_nil, or_false, ← Int32.toInt_inj, tiA] at *; omega)
            · refine PW_iload_n c_M_isUnder_39 rfl ?_
              refine PW_iconst (v := 5) c_M_isUnder_40 (by decide) ?_
              refine PW_icmp_eq c_M_isUnder_41 (fun h7 => absurd h7 (by decide)) (fun _ => ?_)
              refine PW_iload_n c_M_isUnder_44 rfl ?_
              refine PW_bipush (v := 6) c_M_isUnder_45 (by decide) ?_
              refine PW_icmp_ne c_M_isUnder_47 (fun h8 => ?_) (fun h8 => ?_)
              · refine PW_iconst (v := 0) c_M_isUnder_60 (by decide) ?_
                refine PW_ireturn (ty := .boolean) c_M_isUnder_61 rfl (by decide +kernel) ?_
                exact pq0 h (by simp only [chU, List.mem_cons, List.not_mem_nil, or_false, ← Int32.toInt_inj, tiA] at *; omega)
              · refine PW_iload_n c_M_isUnder_50 rfl ?_
                refine PW_bipush (v := 7) c_M_isUnder_51 (by decide) ?_
                refine PW_icmp_ne c_M_isUnder_53 (fun _ => ?_) (fun h9 => absurd h9 (by decide))
                refine PW_iconst (v := 0) c_M_isUnder_60 (by decide) ?_
                refine PW_ireturn (ty := .boolean) c_M_isUnder_61 rfl (by decide +kernel) ?_
                exact pq0 h (by simp only [chU, List.mem_cons, List.not_mem_nil, or_false, ← Int32.toInt_inj, tiA] at *; omega)
          · refine PW_iload_n c_M_isUnder_24 rfl ?_
            refine PW_iconst (v := 3) c_M_isUnder_25 (by decide) ?_
            refine PW_icmp_eq c_M_isUnder_26 (fun h10 => absurd h10 (by decide)) (fun _ => ?_)
            refine PW_iload_n c_M_isUnder_29 rfl ?_
            refine PW_iconst (v := 5) c_M_isUnder_30 (by decide) ?_
            refine PW_icmp_eq c_M_isUnder_31 (fun h11 => absurd h11 (by decide)) (fun _ => ?_)
            refine PW_iload_n c_M_isUnder_34 rfl ?_
            refine PW_iconst (v := 3) c_M_isUnder_35 (by decide) ?_
            refine PW_icmp_ne c_M_isUnder_36 (fun h12 => ?_) (fun h12 => ?_)
            · refine PW_iload_n c_M_isUnder_44 rfl ?_
              refine PW_bipush (v := 6) c_M_isUnder_45 (by decide) ?_
              refine PW_icmp_ne c_M_isUnder_47 (fun h13 => ?_) (fun h13 => ?_)
              · refine PW_iconst (v := 0) c_M_isUnder_60 (by decide) ?_
                refine PW_ireturn (ty := .boolean) c_M_isUnder_61 rfl (by decide +kernel) ?_
                exact pq0 h (by simp only [chU, List.mem_cons, List.not_mem_nil, or_false, ← Int32.toInt_inj, tiA] at *; omega)
              · refine PW_iload_n c_M_isUnder_50 rfl ?_
                refine PW_bipush (v := 7) c_M_isUnder_51 (by decide) ?_
                refine PW_icmp_ne c_M_isUnder_53 (fun _ => ?_) (fun h14 => absurd h14 (by decide))
                refine PW_iconst (v := 0) c_M_isUnder_60 (by decide) ?_
                refine PW_ireturn (ty := .boolean) c_M_isUnder_61 rfl (by decide +kernel) ?_
                exact pq0 h (by simp only [chU, List.mem_cons, List.not_mem_nil, or_false, ← Int32.toInt_inj, tiA] at *; omega)
            · refine PW_iload_n c_M_isUnder_39 rfl ?_
              refine PW_iconst (v := 5) c_M_isUnder_40 (by decide) ?_
              refine PW_icmp_eq c_M_isUnder_41 (fun h15 => absurd h15 (by decide)) (fun _ => ?_)
              refine PW_iload_n c_M_isUnder_44 rfl ?_
              refine PW_bipush (v := 6) c_M_isUnder_45 (by decide) ?_
              refine PW_icmp_ne c_M_isUnder_47 (fun h16 => ?_) (fun h16 => ?_)
              · refine PW_iconst (v := 0) c_M_isUnder_60 (by decide) ?_
                refine PW_ireturn (ty := .boolean) c_M_isUnder_61 rfl (by decide +kernel) ?_
                exact pq0 h (by simp only [chU, List.mem_cons, List.not_mem_nil, or_false, ← Int32.toInt_inj, tiA] at *; omega)
              · refine PW_iload_n c_M_isUnder_50 rfl ?_
                refine PW_bipush (v := 7) c_M_isUnder_51 (by decide) ?_
                refine PW_icmp_ne c_M_isUnder_53 (fun _ => ?_) (fun h17 => absurd h17 (by decide))
                refine PW_iconst (v := 0) c_M_isUnder_60 (by decide) ?_
                refine PW_ireturn (ty := .boolean) c_M_isUnder_61 rfl (by decide +kernel) ?_
                exact pq0 h (by simp only [chU, List.mem_cons, List.not_mem_nil, or_false, ← Int32.toInt_inj, tiA] at *; omega)
        · refine PW_iload_n c_M_isUnder_14 rfl ?_
          refine PW_iconst (v := 4) c_M_isUnder_15 (by decide) ?_
          refine PW_icmp_eq c_M_isUnder_16 (fun _ => ?_) (fun h18 => absurd (by decide) h18)
          refine PW_iconst (v := 1) c_M_isUnder_56 (by decide) ?_
          refine PW_goto c_M_isUnder_57 ?_
          refine PW_ireturn (ty := .boolean) c_M_isUnder_61 rfl (by decide +kernel) ?_
          exact pq1 h (by simp only [chU, List.mem_cons, List.not_mem_nil, or_false, ← Int32.toInt_inj, tiA] at *; omega)
  · subst hu
    show PW (0, 0, 0, z) m_M_isUnder post 0 [some (.int 5), some (.int v)] [] (E x y)
    refine PW_iload_n c_M_isUnder_0 rfl ?_
    refine PW_if_eq c_M_isUnder_1 (fun h0 => ?_) (fun h0 => ?_)
    · refine PW_iconst (v := 1) c_M_isUnder_56 (by decide) ?_
      refine PW_goto c_M_isUnder_57 ?_
      refine PW_ireturn (ty := .boolean) c_M_isUnder_61 rfl (by decide +kernel) ?_
      exact pq1 h (by simp only [chU, List.mem_cons, List.not_mem_nil, or_false, ← Int32.toInt_inj, tiA] at *; omega)
    · refine PW_iload_n c_M_isUnder_4 rfl ?_
      refine PW_iload_n c_M_isUnder_5 rfl ?_
      refine PW_icmp_eq c_M_isUnder_6 (fun h1 => ?_) (fun h1 => ?_)
      · refine PW_iconst (v := 1) c_M_isUnder_56 (by decide) ?_
        refine PW_goto c_M_isUnder_57 ?_
        refine PW_ireturn (ty := .boolean) c_M_isUnder_61 rfl (by decide +kernel) ?_
        exact pq1 h (by simp only [chU, List.mem_cons, List.not_mem_nil, or_false, ← Int32.toInt_inj, tiA] at *; omega)
      · refine PW_iload_n c_M_isUnder_9 rfl ?_
        refine PW_iconst (v := 1) c_M_isUnder_10 (by decide) ?_
        refine PW_icmp_ne c_M_isUnder_11 (fun h2 => ?_) (fun h2 => ?_)
        · refine PW_iload_n c_M_isUnder_19 rfl ?_
          refine PW_iconst (v := 2) c_M_isUnder_20 (by decide) ?_
          refine PW_icmp_ne c_M_isUnder_21 (fun h3 => ?_) (fun h3 => ?_)
          · refine PW_iload_n c_M_isUnder_34 rfl ?_
            refine PW_iconst (v := 3) c_M_isUnder_35 (by decide) ?_
            refine PW_icmp_ne c_M_isUnder_36 (fun h4 => ?_) (fun h4 => ?_)
            · refine PW_iload_n c_M_isUnder_44 rfl ?_
              refine PW_bipush (v := 6) c_M_isUnder_45 (by decide) ?_
              refine PW_icmp_ne c_M_isUnder_47 (fun h5 => ?_) (fun h5 => ?_)
              · refine PW_iconst (v := 0) c_M_isUnder_60 (by decide) ?_
                refine PW_ireturn (ty := .boolean) c_M_isUnder_61 rfl (by decide +kernel) ?_
                exact pq0 h (by simp only [chU, List.mem_cons, List.not_mem_nil, or_false, ← Int32.toInt_inj, tiA] at *; omega)
              · refine PW_iload_n c_M_isUnder_50 rfl ?_
                refine PW_bipush (v := 7) c_M_isUnder_51 (by decide) ?_
                refine PW_icmp_ne c_M_isUnder_53 (fun _ => ?_) (fun h6 => absurd h6 (by decide))
                refine PW_iconst (v := 0) c_M_isUnder_60 (by decide) ?_
                refine PW_ireturn (ty := .boolean) c_M_isUnder_61 rfl (by decide +kernel) ?_
                exact pq0 h (by simp only [chU, List.mem_cons, List.not_mem_nil, or_false, ← Int32.toInt_inj, tiA] at *; omega)
            · refine PW_iload_n c_M_isUnder_39 rfl ?_
              refine PW_iconst (v := 5) c_M_isUnder_40 (by decide) ?_
              refine PW_icmp_eq c_M_isUnder_41 (fun _ => ?_) (fun h7 => absurd (by decide) h7)
              refine PW_iconst (v := 1) c_M_isUnder_56 (by decide) ?_
              refine PW_goto c_M_isUnder_57 ?_
              refine PW_ireturn (ty := .boolean) c_M_isUnder_61 rfl (by decide +kernel) ?_
              exact pq1 h (by simp only [chU, List.mem_cons, List.not_mem_nil, or_false, ← Int32.toInt_inj, tiA] at *; omega)
          · refine PW_iload_n c_M_isUnder_24 rfl ?_
            refine PW_iconst (v := 3) c_M_isUnder_25 (by decide) ?_
            refine PW_icmp_eq c_M_isUnder_26 (fun h8 => absurd h8 (by decide)) (fun _ => ?_)
            refine PW_iload_n c_M_isUnder_29 rfl ?_
            refine PW_iconst (v := 5) c_M_isUnder_30 (by decide) ?_
            refine PW_icmp_eq c_M_isUnder_31 (fun _ => ?_) (fun h9 => absurd (by decide) h9)
            refine PW_iconst (v := 1) c_M_isUnder_56 (by decide) ?_
            refine PW_goto c_M_isUnder_57 ?_
            refine PW_ireturn (ty := .boolean) c_M_isUnder_61 rfl (by decide +kernel) ?_
            exact pq1 h (by simp only [chU, List.mem_cons, List.not_mem_nil, or_false, ← Int32.toInt_inj, tiA] at *; omega)
        · refine PW_iload_n c_M_isUnder_14 rfl ?_
          refine PW_iconst (v := 4) c_M_isUnder_15 (by decide) ?_
          refine PW_icmp_eq c_M_isUnder_16 (fun h10 => absurd h10 (by decide)) (fun _ => ?_)
          refine PW_iload_n c_M_isUnder_19 rfl ?_
          refine PW_iconst (v := 2) c_M_isUnder_20 (by decide) ?_
          refine PW_icmp_ne c_M_isUnder_21 (fun h11 => ?_) (fun h11 => ?_)
          · refine PW_iload_n c_M_isUnder_34 rfl ?_
            refine PW_iconst (v := 3) c_M_isUnder_35 (by decide) ?_
            refine PW_icmp_ne c_M_isUnder_36 (fun h12 => ?_) (fun h12 => ?_)
            · refine PW_iload_n c_M_isUnder_44 rfl ?_
              refine PW_bipush (v := 6) c_M_isUnder_45 (by decide) ?_
              refine PW_icmp_ne c_M_isUnder_47 (fun h13 => ?_) (fun h13 => ?_)
              · refine PW_iconst (v := 0) c_M_isUnder_60 (by decide) ?_
                refine PW_ireturn (ty := .boolean) c_M_isUnder_61 rfl (by decide +kernel) ?_
                exact pq0 h (by simp only [chU, List.mem_cons, List.not_mem_nil, or_false, ← Int32.toInt_inj, tiA] at *; omega)
              · refine PW_iload_n c_M_isUnder_50 rfl ?_
                refine PW_bipush (v := 7) c_M_isUnder_51 (by decide) ?_
                refine PW_icmp_ne c_M_isUnder_53 (fun _ => ?_) (fun h14 => absurd h14 (by decide))
                refine PW_iconst (v := 0) c_M_isUnder_60 (by decide) ?_
                refine PW_ireturn (ty := .boolean) c_M_isUnder_61 rfl (by decide +kernel) ?_
                exact pq0 h (by simp only [chU, List.mem_cons, List.not_mem_nil, or_false, ← Int32.toInt_inj, tiA] at *; omega)
            · refine PW_iload_n c_M_isUnder_39 rfl ?_
              refine PW_iconst (v := 5) c_M_isUnder_40 (by decide) ?_
              refine PW_icmp_eq c_M_isUnder_41 (fun _ => ?_) (fun h15 => absurd (by decide) h15)
              refine PW_iconst (v := 1) c_M_isUnder_56 (by decide) ?_
              refine PW_goto c_M_isUnder_57 ?_
              refine PW_ireturn (ty := .boolean) c_M_isUnder_61 rfl (by decide +kernel) ?_
              exact pq1 h (by simp only [chU, List.mem_cons, List.not_mem_nil, or_false, ← Int32.toInt_inj, tiA] at *; omega)
          · refine PW_iload_n c_M_isUnder_24 rfl ?_
            refine PW_iconst (v := 3) c_M_isUnder_25 (by decide) ?_
            refine PW_icmp_eq c_M_isUnder_26 (fun h16 => absurd h16 (by decide)) (fun _ => ?_)
            refine PW_iload_n c_M_isUnder_29 rfl ?_
            refine PW_iconst (v := 5) c_M_isUnder_30 (by decide) ?_
            refine PW_icmp_eq c_M_isUnder_31 (fun _ => ?_) (fun h17 => absurd (by decide) h17)
            refine PW_iconst (v := 1) c_M_isUnder_56 (by decide) ?_
            refine PW_goto c_M_isUnder_57 ?_
            refine PW_ireturn (ty := .boolean) c_M_isUnder_61 rfl (by decide +kernel) ?_
            exact pq1 h (by simp only [chU, List.mem_cons, List.not_mem_nil, or_false, ← Int32.toInt_inj, tiA] at *; omega)
  · subst hu
    show PW (0, 0, 0, z) m_M_isUnder post 0 [some (.int 6), some (.int v)] [] (E x y)
    refine PW_iload_n c_M_isUnder_0 rfl ?_
    refine PW_if_eq c_M_isUnder_1 (fun h0 => ?_) (fun h0 => ?_)
    · refine PW_iconst (v := 1) c_M_isUnder_56 (by decide) ?_
      refine PW_goto c_M_isUnder_57 ?_
      refine PW_ireturn (ty := .boolean) c_M_isUnder_61 rfl (by decide +kernel) ?_
      exact pq1 h (by simp only [chU, List.mem_cons, List.not_mem_nil, or_false, ← Int32.toInt_inj, tiA] at *; omega)
    · refine PW_iload_n c_M_isUnder_4 rfl ?_
      refine PW_iload_n c_M_isUnder_5 rfl ?_
      refine PW_icmp_eq c_M_isUnder_6 (fun h1 => ?_) (fun h1 => ?_)
      · refine PW_iconst (v := 1) c_M_isUnder_56 (by decide) ?_
        refine PW_goto c_M_isUnder_57 ?_
        refine PW_ireturn (ty := .boolean) c_M_isUnder_61 rfl (by decide +kernel) ?_
        exact pq1 h (by simp only [chU, List.mem_cons, List.not_mem_nil, or_false, ← Int32.toInt_inj, tiA] at *; omega)
      · refine PW_iload_n c_M_isUnder_9 rfl ?_
        refine PW_iconst (v := 1) c_M_isUnder_10 (by decide) ?_
        refine PW_icmp_ne c_M_isUnder_11 (fun h2 => ?_) (fun h2 => ?_)
        · refine PW_iload_n c_M_isUnder_19 rfl ?_
          refine PW_iconst (v := 2) c_M_isUnder_20 (by decide) ?_
          refine PW_icmp_ne c_M_isUnder_21 (fun h3 => ?_) (fun h3 => ?_)
          · refine PW_iload_n c_M_isUnder_34 rfl ?_
            refine PW_iconst (v := 3) c_M_isUnder_35 (by decide) ?_
            refine PW_icmp_ne c_M_isUnder_36 (fun h4 => ?_) (fun h4 => ?_)
            · refine PW_iload_n c_M_isUnder_44 rfl ?_
              refine PW_bipush (v := 6) c_M_isUnder_45 (by decide) ?_
              refine PW_icmp_ne c_M_isUnder_47 (fun h5 => ?_) (fun h5 => ?_)
              · refine PW_iconst (v := 0) c_M_isUnder_60 (by decide) ?_
                refine PW_ireturn (ty := .boolean) c_M_isUnder_61 rfl (by decide +kernel) ?_
                exact pq0 h (by simp only [chU, List.mem_cons, List.not_mem_nil, or_false, ← Int32.toInt_inj, tiA] at *; omega)
              · refine PW_iload_n c_M_isUnder_50 rfl ?_
                refine PW_bipush (v := 7) c_M_isUnder_51 (by decide) ?_
                refine PW_icmp_ne c_M_isUnder_53 (fun _ => ?_) (fun h6 => absurd h6 (by decide))
                refine PW_iconst (v := 0) c_M_isUnder_60 (by decide) ?_
                refine PW_ireturn (ty := .boolean) c_M_isUnder_61 rfl (by decide +kernel) ?_
                exact pq0 h (by simp only [chU, List.mem_cons, List.not_mem_nil, or_false, ← Int32.toInt_inj, tiA] at *; omega)
            · refine PW_iload_n c_M_isUnder_39 rfl ?_
              refine PW_iconst (v := 5) c_M_isUnder_40 (by decide) ?_
              refine PW_icmp_eq c_M_isUnder_41 (fun h7 => absurd h7 (by decide)) (fun _ => ?_)
              refine PW_iload_n c_M_isUnder_44 rfl ?_
              refine PW_bipush (v := 6) c_M_isUnder_45 (by decide) ?_
              refine PW_icmp_ne c_M_isUnder_47 (fun h8 => ?_) (fun h8 => ?_)
              · refine PW_iconst (v := 0) c_M_isUnder_60 (by decide) ?_
                refine PW_ireturn (ty := .boolean) c_M_isUnder_61 rfl (by decide +kernel) ?_
                exact pq0 h (by simp only [chU, List.mem_cons, List.not_mem_nil, or_false, ← Int32.toInt_inj, tiA] at *; omega)
              · refine PW_iload_n c_M_isUnder_50 rfl ?_
                refine PW_bipush (v := 7) c_M_isUnder_51 (by decide) ?_
                refine PW_icmp_ne c_M_isUnder_53 (fun _ => ?_) (fun h9 => absurd h9 (by decide))
                refine PW_iconst (v := 0) c_M_isUnder_60 (by decide) ?_
                refine PW_ireturn (ty := .boolean) c_M_isUnder_61 rfl (by decide +kernel) ?_
                exact pq0 h (by simp only [chU, List.mem_cons, List.not_mem_nil, or_false, ← Int32.toInt_inj, tiA] at *; omega)
          · refine PW_iload_n c_M_isUnder_24 rfl ?_
            refine PW_iconst (v := 3) c_M_isUnder_25 (by decide) ?_
            refine PW_icmp_eq c_M_isUnder_26 (fun h10 => absurd h10 (by decide)) (fun _ => ?_)
            refine PW_iload_n c_M_isUnder_29 rfl ?_
            refine PW_iconst (v := 5) c_M_isUnder_30 (by decide) ?_
            refine PW_icmp_eq c_M_isUnder_31 (fun h11 => absurd h11 (by decide)) (fun _ => ?_)
            refine PW_iload_n c_M_isUnder_34 rfl ?_
            refine PW_iconst (v := 3) c_M_isUnder_35 (by decide) ?_
            refine PW_icmp_ne c_M_isUnder_36 (fun h12 => ?_) (fun h12 => ?_)
            · refine PW_iload_n c_M_isUnder_44 rfl ?_
              refine PW_bipush (v := 6) c_M_isUnder_45 (by decide) ?_
              refine PW_icmp_ne c_M_isUnder_47 (fun h13 => ?_) (fun h13 => ?_)
              · refine PW_iconst (v := 0) c_M_isUnder_60 (by decide) ?_
                refine PW_ireturn (ty := .boolean) c_M_isUnder_61 rfl (by decide +kernel) ?_
                exact pq0 h (by simp only [chU, List.mem_cons, List.not_mem_nil, or_false, ← Int32.toInt_inj, tiA] at *; omega)
              · refine PW_iload_n c_M_isUnder_50 rfl ?_
                refine PW_bipush (v := 7) c_M_isUnder_51 (by decide) ?_
                refine PW_icmp_ne c_M_isUnder_53 (fun _ => ?_) (fun h14 => absurd h14 (by decide))
                refine PW_iconst (v := 0) c_M_isUnder_60 (by decide) ?_
                refine PW_ireturn (ty := .boolean) c_M_isUnder_61 rfl (by decide +kernel) ?_
                exact pq0 h (by simp only [chU, List.mem_cons, List.not_mem_nil, or_false, ← Int32.toInt_inj, tiA] at *; omega)
            · refine PW_iload_n c_M_isUnder_39 rfl ?_
              refine PW_iconst (v := 5) c_M_isUnder_40 (by decide) ?_
              refine PW_icmp_eq c_M_isUnder_41 (fun h15 => absurd h15 (by decide)) (fun _ => ?_)
              refine PW_iload_n c_M_isUnder_44 rfl ?_
              refine PW_bipush (v := 6) c_M_isUnder_45 (by decide) ?_
              refine PW_icmp_ne c_M_isUnder_47 (fun h16 => ?_) (fun h16 => ?_)
              · refine PW_iconst (v := 0) c_M_isUnder_60 (by decide) ?_
                refine PW_ireturn (ty := .boolean) c_M_isUnder_61 rfl (by decide +kernel) ?_
                exact pq0 h (by simp only [chU, List.mem_cons, List.not_mem_nil, or_false, ← Int32.toInt_inj, tiA] at *; omega)
              · refine PW_iload_n c_M_isUnder_50 rfl ?_
                refine PW_bipush (v := 7) c_M_isUnder_51 (by decide) ?_
                refine PW_icmp_ne c_M_isUnder_53 (fun _ => ?_) (fun h17 => absurd h17 (by decide))
                refine PW_iconst (v := 0) c_M_isUnder_60 (by decide) ?_
                refine PW_ireturn (ty := .boolean) c_M_isUnder_61 rfl (by decide +kernel) ?_
                exact pq0 h (by simp only [chU, List.mem_cons, List.not_mem_nil, or_false, ← Int32.toInt_inj, tiA] at *; omega)
        · refine PW_iload_n c_M_isUnder_14 rfl ?_
          refine PW_iconst (v := 4) c_M_isUnder_15 (by decide) ?_
          refine PW_icmp_eq c_M_isUnder_16 (fun h18 => absurd h18 (by decide)) (fun _ => ?_)
          refine PW_iload_n c_M_isUnder_19 rfl ?_
          refine PW_iconst (v := 2) c_M_isUnder_20 (by decide) ?_
          refine PW_icmp_ne c_M_isUnder_21 (fun h19 => ?_) (fun h19 => ?_)
          · refine PW_iload_n c_M_isUnder_34 rfl ?_
            refine PW_iconst (v := 3) c_M_isUnder_35 (by decide) ?_
            refine PW_icmp_ne c_M_isUnder_36 (fun h20 => ?_) (fun h20 => ?_)
            · refine PW_iload_n c_M_isUnder_44 rfl ?_
              refine PW_bipush (v := 6) c_M_isUnder_45 (by decide) ?_
              refine PW_icmp_ne c_M_isUnder_47 (fun h21 => ?_) (fun h21 => ?_)
              · refine PW_iconst (v := 0) c_M_isUnder_60 (by decide) ?_
                refine PW_ireturn (ty := .boolean) c_M_isUnder_61 rfl (by decide +kernel) ?_
                exact pq0 h (by simp only [chU, List.mem_cons, List.not_mem_nil, or_false, ← Int32.toInt_inj, tiA] at *; omega)
              · refine PW_iload_n c_M_isUnder_50 rfl ?_
                refine PW_bipush (v := 7) c_M_isUnder_51 (by decide) ?_
                refine PW_icmp_ne c_M_isUnder_53 (fun _ => ?_) (fun h22 => absurd h22 (by decide))
                refine PW_iconst (v := 0) c_M_isUnder_60 (by decide) ?_
                refine PW_ireturn (ty := .boolean) c_M_isUnder_61 rfl (by decide +kernel) ?_
                exact pq0 h (by simp only [chU, List.mem_cons, List.not_mem_nil, or_false, ← Int32.toInt_inj, tiA] at *; omega)
            · refine PW_iload_n c_M_isUnder_39 rfl ?_
              refine PW_iconst (v := 5) c_M_isUnder_40 (by decide) ?_
              refine PW_icmp_eq c_M_isUnder_41 (fun h23 => absurd h23 (by decide)) (fun _ => ?_)
              refine PW_iload_n c_M_isUnder_44 rfl ?_
              refine PW_bipush (v := 6) c_M_isUnder_45 (by decide) ?_
              refine PW_icmp_ne c_M_isUnder_47 (fun h24 => ?_) (fun h24 => ?_)
              · refine PW_iconst (v := 0) c_M_isUnder_60 (by decide) ?_
                refine PW_ireturn (ty := .boolean) c_M_isUnder_61 rfl (by decide +kernel) ?_
                exact pq0 h (by simp only [chU, List.mem_cons, List.not_mem_nil, or_false, ← Int32.toInt_inj, tiA] at *; omega)
              · refine PW_iload_n c_M_isUnder_50 rfl ?_
                refine PW_bipush (v := 7) c_M_isUnder_51 (by decide) ?_
                refine PW_icmp_ne c_M_isUnder_53 (fun _ => ?_) (fun h25 => absurd h25 (by decide))
                refine PW_iconst (v := 0) c_M_isUnder_60 (by decide) ?_
                refine PW_ireturn (ty := .boolean) c_M_isUnder_61 rfl (by decide +kernel) ?_
                exact pq0 h (by simp only [chU, List.mem_cons, List.not_mem_nil, or_false, ← Int32.toInt_inj, tiA] at *; omega)
          · refine PW_iload_n c_M_isUnder_24 rfl ?_
            refine PW_iconst (v := 3) c_M_isUnder_25 (by decide) ?_
            refine PW_icmp_eq c_M_isUnder_26 (fun h26 => absurd h26 (by decide)) (fun _ => ?_)
            refine PW_iload_n c_M_isUnder_29 rfl ?_
            refine PW_iconst (v := 5) c_M_isUnder_30 (by decide) ?_
            refine PW_icmp_eq c_M_isUnder_31 (fun h27 => absurd h27 (by decide)) (fun _ => ?_)
            refine PW_iload_n c_M_isUnder_34 rfl ?_
            refine PW_iconst (v := 3) c_M_isUnder_35 (by decide) ?_
            refine PW_icmp_ne c_M_isUnder_36 (fun h28 => ?_) (fun h28 => ?_)
            · refine PW_iload_n c_M_isUnder_44 rfl ?_
              refine PW_bipush (v := 6) c_M_isUnder_45 (by decide) ?_
              refine PW_icmp_ne c_M_isUnder_47 (fun h29 => ?_) (fun h29 => ?_)
              · refine PW_iconst (v := 0) c_M_isUnder_60 (by decide) ?_
                refine PW_ireturn (ty := .boolean) c_M_isUnder_61 rfl (by decide +kernel) ?_
                exact pq0 h (by simp only [chU, List.mem_cons, List.not_mem_nil, or_false, ← Int32.toInt_inj, tiA] at *; omega)
              · refine PW_iload_n c_M_isUnder_50 rfl ?_
                refine PW_bipush (v := 7) c_M_isUnder_51 (by decide) ?_
                refine PW_icmp_ne c_M_isUnder_53 (fun _ => ?_) (fun h30 => absurd h30 (by decide))
                refine PW_iconst (v := 0) c_M_isUnder_60 (by decide) ?_
                refine PW_ireturn (ty := .boolean) c_M_isUnder_61 rfl (by decide +kernel) ?_
                exact pq0 h (by simp only [chU, List.mem_cons, List.not_mem_nil, or_false, ← Int32.toInt_inj, tiA] at *; omega)
            · refine PW_iload_n c_M_isUnder_39 rfl ?_
              refine PW_iconst (v := 5) c_M_isUnder_40 (by decide) ?_
              refine PW_icmp_eq c_M_isUnder_41 (fun h31 => absurd h31 (by decide)) (fun _ => ?_)
              refine PW_iload_n c_M_isUnder_44 rfl ?_
              refine PW_bipush (v := 6) c_M_isUnder_45 (by decide) ?_
              refine PW_icmp_ne c_M_isUnder_47 (fun h32 => ?_) (fun h32 => ?_)
              · refine PW_iconst (v := 0) c_M_isUnder_60 (by decide) ?_
                refine PW_ireturn (ty := .boolean) c_M_isUnder_61 rfl (by decide +kernel) ?_
                exact pq0 h (by simp only [chU, List.mem_cons, List.not_mem_nil, or_false, ← Int32.toInt_inj, tiA] at *; omega)
              · refine PW_iload_n c_M_isUnder_50 rfl ?_
                refine PW_bipush (v := 7) c_M_isUnder_51 (by decide) ?_
                refine PW_icmp_ne c_M_isUnder_53 (fun _ => ?_) (fun h33 => absurd h33 (by decide))
                refine PW_iconst (v := 0) c_M_isUnder_60 (by decide) ?_
                refine PW_ireturn (ty := .boolean) c_M_isUnder_61 rfl (by decide +kernel) ?_
                exact pq0 h (by simp only [chU, List.mem_cons, List.not_mem_nil, or_false, ← Int32.toInt_inj, tiA] at *; omega)
  · subst hu
    show PW (0, 0, 0, z) m_M_isUnder post 0 [some (.int 7), some (.int v)] [] (E x y)
    refine PW_iload_n c_M_isUnder_0 rfl ?_
    refine PW_if_eq c_M_isUnder_1 (fun h0 => ?_) (fun h0 => ?_)
    · refine PW_iconst (v := 1) c_M_isUnder_56 (by decide) ?_
      refine PW_goto c_M_isUnder_57 ?_
      refine PW_ireturn (ty := .boolean) c_M_isUnder_61 rfl (by decide +kernel) ?_
      exact pq1 h (by simp only [chU, List.mem_cons, List.not_mem_nil, or_false, ← Int32.toInt_inj, tiA] at *; omega)
    · refine PW_iload_n c_M_isUnder_4 rfl ?_
      refine PW_iload_n c_M_isUnder_5 rfl ?_
      refine PW_icmp_eq c_M_isUnder_6 (fun h1 => ?_) (fun h1 => ?_)
      · refine PW_iconst (v := 1) c_M_isUnder_56 (by decide) ?_
        refine PW_goto c_M_isUnder_57 ?_
        refine PW_ireturn (ty := .boolean) c_M_isUnder_61 rfl (by decide +kernel) ?_
        exact pq1 h (by simp only [chU, List.mem_cons, List.not_mem_nil, or_false, ← Int32.toInt_inj, tiA] at *; omega)
      · refine PW_iload_n c_M_isUnder_9 rfl ?_
        refine PW_iconst (v := 1) c_M_isUnder_10 (by decide) ?_
        refine PW_icmp_ne c_M_isUnder_11 (fun h2 => ?_) (fun h2 => ?_)
        · refine PW_iload_n c_M_isUnder_19 rfl ?_
          refine PW_iconst (v := 2) c_M_isUnder_20 (by decide) ?_
          refine PW_icmp_ne c_M_isUnder_21 (fun h3 => ?_) (fun h3 => ?_)
          · refine PW_iload_n c_M_isUnder_34 rfl ?_
            refine PW_iconst (v := 3) c_M_isUnder_35 (by decide) ?_
            refine PW_icmp_ne c_M_isUnder_36 (fun h4 => ?_) (fun h4 => ?_)
            · refine PW_iload_n c_M_isUnder_44 rfl ?_
              refine PW_bipush (v := 6) c_M_isUnder_45 (by decide) ?_
              refine PW_icmp_ne c_M_isUnder_47 (fun h5 => ?_) (fun h5 => ?_)
              · refine PW_iconst (v := 0) c_M_isUnder_60 (by decide) ?_
                refine PW_ireturn (ty := .boolean) c_M_isUnder_61 rfl (by decide +kernel) ?_
                exact pq0 h (by simp only [chU, List.mem_cons, List.not_mem_nil, or_false, ← Int32.toInt_inj, tiA] at *; omega)
              · refine PW_iload_n c_M_isUnder_50 rfl ?_
                refine PW_bipush (v := 7) c_M_isUnder_51 (by decide) ?_
                refine PW_icmp_ne c_M_isUnder_53 (fun h6 => absurd (by decide) h6) (fun _ => ?_)
                refine PW_iconst (v := 1) c_M_isUnder_56 (by decide) ?_
                refine PW_goto c_M_isUnder_57 ?_
                refine PW_ireturn (ty := .boolean) c_M_isUnder_61 rfl (by decide +kernel) ?_
                exact pq1 h (by simp only [chU, List.mem_cons, List.not_mem_nil, or_false, ← Int32.toInt_inj, tiA] at *; omega)
            · refine PW_iload_n c_M_isUnder_39 rfl ?_
              refine PW_iconst (v := 5) c_M_isUnder_40 (by decide) ?_
              refine PW_icmp_eq c_M_isUnder_41 (fun h7 => absurd h7 (by decide)) (fun _ => ?_)
              refine PW_iload_n c_M_isUnder_44 rfl ?_
              refine PW_bipush (v := 6) c_M_isUnder_45 (by decide) ?_
              refine PW_icmp_ne c_M_isUnder_47 (fun h8 => ?_) (fun h8 => ?_)
              · refine PW_iconst (v := 0) c_M_isUnder_60 (by decide) ?_
                refine PW_ireturn (ty := .boolean) c_M_isUnder_61 rfl (by decide +kernel) ?_
                exact pq0 h (by simp only [chU, List.mem_cons, List.not_mem_nil, or_false, ← Int32.toInt_inj, tiA] at *; omega)
              · refine PW_iload_n c_M_isUnder_50 rfl ?_
                refine PW_bipush (v := 7) c_M_isUnder_51 (by decide) ?_
                refine PW_icmp_ne c_M_isUnder_53 (fun h9 => absurd (by decide) h9) (fun _ => ?_)
                refine PW_iconst (v := 1) c_M_isUnder_56 (by decide) ?_
                refine PW_goto c_M_isUnder_57 ?_
                refine PW_ireturn (ty := .boolean) c_M_isUnder_61 rfl (by decide +kernel) ?_
                exact pq1 h (by simp only [chU, List.mem_cons, List.not_mem_nil, or_false, ← Int32.toInt_inj, tiA] at *; omega)
          · refine PW_iload_n c_M_isUnder_24 rfl ?_
            refine PW_iconst (v := 3) c_M_isUnder_25 (by decide) ?_
            refine PW_icmp_eq c_M_isUnder_26 (fun h10 => absurd h10 (by decide)) (fun _ => ?_)
            refine PW_iload_n c_M_isUnder_29 rfl ?_
            refine PW_iconst (v := 5) c_M_isUnder_30 (by decide) ?_
            refine PW_icmp_eq c_M_isUnder_31 (fun h11 => absurd h11 (by decide)) (fun _ => ?_)
            refine PW_iload_n c_M_isUnder_34 rfl ?_
            refine PW_iconst (v := 3) c_M_isUnder_35 (by decide) ?_
            refine PW_icmp_ne c_M_isUnder_36 (fun h12 => ?_) (fun h12 => ?_)
            · refine PW_iload_n c_M_isUnder_44 rfl ?_
              refine PW_bipush (v := 6) c_M_isUnder_45 (by decide) ?_
              refine PW_icmp_ne c_M_isUnder_47 (fun h13 => ?_) (fun h13 => ?_)
              · refine PW_iconst (v := 0) c_M_isUnder_60 (by decide) ?_
                refine PW_ireturn (ty := .boolean) c_M_isUnder_61 rfl (by decide +kernel) ?_
                exact pq0 h (by simp only [chU, List.mem_cons, List.not_mem_nil, or_false, ← Int32.toInt_inj, tiA] at *; omega)
              · refine PW_iload_n c_M_isUnder_50 rfl ?_
                refine PW_bipush (v := 7) c_M_isUnder_51 (by decide) ?_
                refine PW_icmp_ne c_M_isUnder_53 (fun h14 => absurd (by decide) h14) (fun _ => ?_)
                refine PW_iconst (v := 1) c_M_isUnder_56 (by decide) ?_
                refine PW_goto c_M_isUnder_57 ?_
                refine PW_ireturn (ty := .boolean) c_M_isUnder_61 rfl (by decide +kernel) ?_
                exact pq1 h (by simp only [chU, List.mem_cons, List.not_mem_nil, or_false, ← Int32.toInt_inj, tiA] at *; omega)
            · refine PW_iload_n c_M_isUnder_39 rfl ?_
              refine PW_iconst (v := 5) c_M_isUnder_40 (by decide) ?_
              refine PW_icmp_eq c_M_isUnder_41 (fun h15 => absurd h15 (by decide)) (fun _ => ?_)
              refine PW_iload_n c_M_isUnder_44 rfl ?_
              refine PW_bipush (v := 6) c_M_isUnder_45 (by decide) ?_
              refine PW_icmp_ne c_M_isUnder_47 (fun h16 => ?_) (fun h16 => ?_)
              · refine PW_iconst (v := 0) c_M_isUnder_60 (by decide) ?_
                refine PW_ireturn (ty := .boolean) c_M_isUnder_61 rfl (by decide +kernel) ?_
                exact pq0 h (by simp only [chU, List.mem_cons, List.not_mem_nil, or_false, ← Int32.toInt_inj, tiA] at *; omega)
              · refine PW_iload_n c_M_isUnder_50 rfl ?_
                refine PW_bipush (v := 7) c_M_isUnder_51 (by decide) ?_
                refine PW_icmp_ne c_M_isUnder_53 (fun h17 => absurd (by decide) h17) (fun _ => ?_)
                refine PW_iconst (v := 1) c_M_isUnder_56 (by decide) ?_
                refine PW_goto c_M_isUnder_57 ?_
                refine PW_ireturn (ty := .boolean) c_M_isUnder_61 rfl (by decide +kernel) ?_
                exact pq1 h (by simp only [chU, List.mem_cons, List.not_mem_nil, or_false, ← Int32.toInt_inj, tiA] at *; omega)
        · refine PW_iload_n c_M_isUnder_14 rfl ?_
          refine PW_iconst (v := 4) c_M_isUnder_15 (by decide) ?_
          refine PW_icmp_eq c_M_isUnder_16 (fun h18 => absurd h18 (by decide)) (fun _ => ?_)
          refine PW_iload_n c_M_isUnder_19 rfl ?_
          refine PW_iconst (v := 2) c_M_isUnder_20 (by decide) ?_
          refine PW_icmp_ne c_M_isUnder_21 (fun h19 => ?_) (fun h19 => ?_)
          · refine PW_iload_n c_M_isUnder_34 rfl ?_
            refine PW_iconst (v := 3) c_M_isUnder_35 (by decide) ?_
            refine PW_icmp_ne c_M_isUnder_36 (fun h20 => ?_) (fun h20 => ?_)
            · refine PW_iload_n c_M_isUnder_44 rfl ?_
              refine PW_bipush (v := 6) c_M_isUnder_45 (by decide) ?_
              refine PW_icmp_ne c_M_isUnder_47 (fun h21 => ?_) (fun h21 => ?_)
              · refine PW_iconst (v := 0) c_M_isUnder_60 (by decide) ?_
                refine PW_ireturn (ty := .boolean) c_M_isUnder_61 rfl (by decide +kernel) ?_
                exact pq0 h (by simp only [chU, List.mem_cons, List.not_mem_nil, or_false, ← Int32.toInt_inj, tiA] at *; omega)
              · refine PW_iload_n c_M_isUnder_50 rfl ?_
                refine PW_bipush (v := 7) c_M_isUnder_51 (by decide) ?_
                refine PW_icmp_ne c_M_isUnder_53 (fun h22 => absurd (by decide) h22) (fun _ => ?_)
                refine PW_iconst (v := 1) c_M_isUnder_56 (by decide) ?_
                refine PW_goto c_M_isUnder_57 ?_
                refine PW_ireturn (ty := .boolean) c_M_isUnder_61 rfl (by decide +kernel) ?_
                exact pq1 h (by simp only [chU, List.mem_cons, List.not_mem_nil, or_false, ← Int32.toInt_inj, tiA] at *; omega)
            · refine PW_iload_n c_M_isUnder_39 rfl ?_
              refine PW_iconst (v := 5) c_M_isUnder_40 (by decide) ?_
              refine PW_icmp_eq c_M_isUnder_41 (fun h23 => absurd h23 (by decide)) (fun _ => ?_)
              refine PW_iload_n c_M_isUnder_44 rfl ?_
              refine PW_bipush (v := 6) c_M_isUnder_45 (by decide) ?_
              refine PW_icmp_ne c_M_isUnder_47 (fun h24 => ?_) (fun h24 => ?_)
              · refine PW_iconst (v := 0) c_M_isUnder_60 (by decide) ?_
                refine PW_ireturn (ty := .boolean) c_M_isUnder_61 rfl (by decide +kernel) ?_
                exact pq0 h (by simp only [chU, List.mem_cons, List.not_mem_nil, or_false, ← Int32.toInt_inj, tiA] at *; omega)
              · refine PW_iload_n c_M_isUnder_50 rfl ?_
                refine PW_bipush (v := 7) c_M_isUnder_51 (by decide) ?_
                refine PW_icmp_ne c_M_isUnder_53 (fun h25 => absurd (by decide) h25) (fun _ => ?_)
                refine PW_iconst (v := 1) c_M_isUnder_56 (by decide) ?_
                refine PW_goto c_M_isUnder_57 ?_
                refine PW_ireturn (ty := .boolean) c_M_isUnder_61 rfl (by decide +kernel) ?_
                exact pq1 h (by simp only [chU, List.mem_cons, List.not_mem_nil, or_false, ← Int32.toInt_inj, tiA] at *; omega)
          · refine PW_iload_n c_M_isUnder_24 rfl ?_
            refine PW_iconst (v := 3) c_M_isUnder_25 (by decide) ?_
            refine PW_icmp_eq c_M_isUnder_26 (fun h26 => absurd h26 (by decide)) (fun _ => ?_)
            refine PW_iload_n c_M_isUnder_29 rfl ?_
            refine PW_iconst (v := 5) c_M_isUnder_30 (by decide) ?_
            refine PW_icmp_eq c_M_isUnder_31 (fun h27 => absurd h27 (by decide)) (fun _ => ?_)
            refine PW_iload_n c_M_isUnder_34 rfl ?_
            refine PW_iconst (v := 3) c_M_isUnder_35 (by decide) ?_
            refine PW_icmp_ne c_M_isUnder_36 (fun h28 => ?_) (fun h28 => ?_)
            · refine PW_iload_n c_M_isUnder_44 rfl ?_
              refine PW_bipush (v := 6) c_M_isUnder_45 (by decide) ?_
              refine PW_icmp_ne c_M_isUnder_47 (fun h29 => ?_) (fun h29 => ?_)
              · refine PW_iconst (v := 0) c_M_isUnder_60 (by decide) ?_
                refine PW_ireturn (ty := .boolean) c_M_isUnder_61 rfl (by decide +kernel) ?_
                exact pq0 h (by simp only [chU, List.mem_cons, List.not_mem_nil, or_false, ← Int32.toInt_inj, tiA] at *; omega)
              · refine PW_iload_n c_M_isUnder_50 rfl ?_
                refine PW_bipush (v := 7) c_M_isUnder_51 (by decide) ?_
                refine PW_icmp_ne c_M_isUnder_53 (fun h30 => absurd (by decide) h30) (fun _ => ?_)
                refine PW_iconst (v := 1) c_M_isUnder_56 (by decide) ?_
                refine PW_goto c_M_isUnder_57 ?_
                refine PW_ireturn (ty := .boolean) c_M_isUnder_61 rfl (by decide +kernel) ?_
                exact pq1 h (by simp only [chU, List.mem_cons, List.not_mem_nil, or_false, ← Int32.toInt_inj, tiA] at *; omega)
            · refine PW_iload_n c_M_isUnder_39 rfl ?_
              refine PW_iconst (v := 5) c_M_isUnder_40 (by decide) ?_
              refine PW_icmp_eq c_M_isUnder_41 (fun h31 => absurd h31 (by decide)) (fun _ => ?_)
              refine PW_iload_n c_M_isUnder_44 rfl ?_
              refine PW_bipush (v := 6) c_M_isUnder_45 (by decide) ?_
              refine PW_icmp_ne c_M_isUnder_47 (fun h32 => ?_) (fun h32 => ?_)
              · refine PW_iconst (v := 0) c_M_isUnder_60 (by decide) ?_
                refine PW_ireturn (ty := .boolean) c_M_isUnder_61 rfl (by decide +kernel) ?_
                exact pq0 h (by simp only [chU, List.mem_cons, List.not_mem_nil, or_false, ← Int32.toInt_inj, tiA] at *; omega)
              · refine PW_iload_n c_M_isUnder_50 rfl ?_
                refine PW_bipush (v := 7) c_M_isUnder_51 (by decide) ?_
                refine PW_icmp_ne c_M_isUnder_53 (fun h33 => absurd (by decide) h33) (fun _ => ?_)
                refine PW_iconst (v := 1) c_M_isUnder_56 (by decide) ?_
                refine PW_goto c_M_isUnder_57 ?_
                refine PW_ireturn (ty := .boolean) c_M_isUnder_61 rfl (by decide +kernel) ?_
                exact pq1 h (by simp only [chU, List.mem_cons, List.not_mem_nil, or_false, ← Int32.toInt_inj, tiA] at *; omega)
theorem sp_B_isUnder_m1 {z : ZS} {post : Option Value → List PE → Prop} {x y : XS} {v : Int32} (h : post (some (.int 0)) (E x y)) : PW (1, 0, 0, z) m_B_isUnder post 0 [some (.int (-1)), some (.int v), none, none] [] (E x y) := by
  refine PW_iload_n c_B_isUnder_0 rfl ?_
  refine PW_istore_n (i := 2) (L2 := [some (.int (-1)), some (.int v), some (.int (-1)), none]) c_B_isUnder_1 rfl (Nat.le_of_ble_eq_true rfl) rfl rfl ?_
  refine PW_iconst (v := 0) c_B_isUnder_2 (by decide) ?_
  refine PW_istore_n (i := 3) (L2 := [some (.int (-1)), some (.int v), some (.int (-1)), some (.int 0)]) c_B_isUnder_3 rfl (Nat.le_of_ble_eq_true rfl) rfl rfl ?_
  refine PW_iload_n c_B_isUnder_4 rfl ?_
  refine PW_bipush (v := 8) c_B_isUnder_5 (by decide) ?_
  refine PW_icmp_ge c_B_isUnder_7 (fun h0 => absurd h0 (by decide)) (fun _ => ?_)
  refine PW_iload_n c_B_isUnder_10 rfl ?_
  refine PW_S0 (d2 := 0) (st := []) [.int (-1)] c_B_isUnder_11 lk_B_isUnder_18 rfl rfl rfl (Nat.le_of_ble_eq_true rfl) (by first | decide | omega) (Nat.le_of_ble_eq_true rfl) ?_
  show PW _ _ _ 0 [some (.int (-1))] [] (E x y)
  refine PW_iload_n c_B_isKind_0 rfl ?_
  refine PW_if_lt c_B_isKind_1 (fun _ => ?_) (fun h1 => absurd (by decide) h1)
  refine PW_iconst (v := 0) c_B_isKind_14 (by decide) ?_
  refine PW_ireturn (ty := .boolean) c_B_isKind_15 rfl (by decide +kernel) ?_
  show PW _ _ _ 14 [some (.int (-1)), some (.int v), some (.int (-1)), some (.int 0)] [.int 0] (E x y)
  refine PW_if_eq c_B_isUnder_14 (fun _ => ?_) (fun h2 => absurd (by decide) h2)
  refine PW_iconst (v := 0) c_B_isUnder_35 (by decide) ?_
  refine PW_ireturn (ty := .boolean) c_B_isUnder_36 rfl (by decide +kernel) ?_
  exact h
