/-! the class's house -/
theorem CPg.W {x y : XS} (h : CPg x y) : WG y := h.1
theorem CPg.x51 {x y : XS} (h : CPg x y) : x.1 51 = y.1 561 := h.2.1
theorem CPg.row {x y : XS} (h : CPg x y) (w : Nat) (hw : w < 7) {i : Nat} (hi : i < nG y) : x.2.1 (8 + w) i = y.2.1 (71 + w) i := (h.2.2.1 w hw i hi).1
theorem CPg.ok {x y : XS} (h : CPg x y) (w : Nat) (hw : w < 7) {i : Nat} (hi : i < nG y) : okv w (y.2.1 (71 + w) i) := (h.2.2.1 w hw i hi).2
theorem CPg.pres {x y : XS} (h : CPg x y) {r m : Nat} (hr : r < 5) (hm : m < 100) : x.2.1 (17 + r) m = thI y (nI r) (nI m) := h.2.2.2.2.2.1 r m hr hm
theorem bitsT_cong {p q : Nat → Bool} : ∀ {n : Nat}, (∀ k, k < n → p k = q k) → bitsT p n = bitsT q n
  | 0, _ => rfl
  | n + 1, h => by rw [bitsT, bitsT, h n (by omega), bitsT_cong (fun k hk => h k (by omega))]
theorem rO_cap {x y : XS} (h : CPg x y) {g : Nat} (hg : g < nG y) {m m2 : Int32} (h1 : 99 ≤ m.toInt) (h2 : 99 ≤ m2.toInt) : rO y g m = rO y g m2 := by
  have h3 := (h.ok 2 (by omega) hg).2
  have h4 : (y.2.1 73 g).toInt ≤ 99 := h3
  unfold rO
  rw [if_neg (by rw [Int32.lt_iff_toInt_lt]; omega), if_neg (by rw [Int32.lt_iff_toInt_lt]; omega)]
theorem thI_cap {x y : XS} (h : CPg x y) {r m m2 : Int32} (h1 : 99 ≤ m.toInt) (h2 : 99 ≤ m2.toInt) : thI y r m = thI y r m2 := bitsT_cong fun g hg => by rw [rO_cap h hg h1 h2]
theorem g10 {x y : XS} (h : CPg x y) {g : Int32} (hg : 0 ≤ g.toInt ∧ g.toInt < (nG y : Int)) : 0 ≤ g.toInt ∧ g.toInt < ((10 : Nat) : Int) := ⟨hg.1, by have := h.1.2; omega⟩
theorem gnat {y : XS} {g : Int32} (hg : 0 ≤ g.toInt ∧ g.toInt < (nG y : Int)) : g.toNatClampNeg < nG y := by show g.toInt.toNat < _; omega
theorem sp_H_roomOf {z : ZS} {post : Option Value → List PE → Prop} {x y : XS}  {g m : Int32} (C : CPg x y) (hg : 0 ≤ g.toInt ∧ g.toInt < (nG y : Int)) (h : post (some (.int (rO y g.toNatClampNeg m))) (E x y)) : PW (1, 0, 0, z) m_H_roomOf post 0 [some (.ref 6), some (.int g), some (.int m)] [] (E x y) := by
  refine PW_aload_n c_H_roomOf_0 rfl ?_
  refine PW_iload_n c_H_roomOf_1 rfl ?_
  refine PW_V0 (d2 := 0) (st := []) [.int g] c_H_roomOf_2 lk_H_roomOf_37 (po_6 _ _) rfl rfl rfl (Nat.le_of_ble_eq_true rfl) (by first | decide | omega) (Nat.le_of_ble_eq_true rfl) ?_
  refine sp_H_isGuest C.W C.x51 ?_
  show PW _ _ _ 5 [some (.ref 6), some (.int g), some (.int m)] [.int (b2i (0 ≤ g.toInt ∧ g.toInt < (nG y : Int)))] (E x y)
  refine PW_if_ne c_H_roomOf_5 (fun _ => ?_) (fun h0 => absurd hg (b2i_0.mp h0))
  refine PW_aload_n c_H_roomOf_10 rfl ?_
  refine PW_get (v := .ref 7) c_H_roomOf_11 fl_H_13 (gf_6_0 _ _) ?_
  refine PW_iload_n c_H_roomOf_14 rfl ?_
  refine PW_aload_n c_H_roomOf_15 rfl ?_
  refine PW_get (v := .ref 7) c_H_roomOf_16 fl_H_13 (gf_6_0 _ _) ?_
  refine PW_iconst (v := 2) c_H_roomOf_19 (by decide) ?_
  refine PW_aald (j := 2) c_H_roomOf_20 (ar_7 _ _) (t0 := 5) rfl rfl (vp_in_iff.mpr (by decide)) rfl ?_
  rw [if_pos (by decide)]
  show PW _ _ _ 21 [some (.ref 6), some (.int g), some (.int m)] [.ref 10, .int m, .ref 7] (E x y)
  refine PW_iload_n c_H_roomOf_21 rfl ?_
  refine PW_iald (j := g.toNatClampNeg) c_H_roomOf_22 (ar_10 _ _) (vp_in_iff.mpr (g10 C hg)) rfl ?_
  show PW _ _ _ 23 [some (.ref 6), some (.int g), some (.int m)] [.int ((x.2.1 10) g.toNatClampNeg), .int m, .ref 7] (E x y)
  refine PW_icmp_lt c_H_roomOf_23 (fun h1 => ?_) (fun h1 => ?_)
  · refine PW_iconst (v := 0) c_H_roomOf_30 (by decide) ?_
    refine PW_aald (j := 0) c_H_roomOf_31 (ar_7 _ _) (t0 := 5) rfl rfl (vp_in_iff.mpr (by decide)) rfl ?_
    rw [if_pos (by decide)]
    show PW _ _ _ 32 [some (.ref 6), some (.int g), some (.int m)] [.ref 8] (E x y)
    refine PW_iload_n c_H_roomOf_32 rfl ?_
    refine PW_iald (j := g.toNatClampNeg) c_H_roomOf_33 (ar_8 _ _) (vp_in_iff.mpr (g10 C hg)) rfl ?_
    show PW _ _ _ 34 [some (.ref 6), some (.int g), some (.int m)] [.int ((x.2.1 8) g.toNatClampNeg)] (E x y)
    refine PW_ireturn (ty := .int) c_H_roomOf_34 rfl rfl ?_
    exact pqi h (by rw [C.row 0 (by omega) (gnat hg)]; exact if_pos (by rw [← C.row 2 (by omega) (gnat hg)]; exact h1))
  · refine PW_iconst (v := 1) c_H_roomOf_26 (by decide) ?_
    refine PW_goto c_H_roomOf_27 ?_
    refine PW_aald (j := 1) c_H_roomOf_31 (ar_7 _ _) (t0 := 5) rfl rfl (vp_in_iff.mpr (by decide)) rfl ?_
    rw [if_pos (by decide)]
    show PW _ _ _ 32 [some (.ref 6), some (.int g), some (.int m)] [.ref 9] (E x y)
    refine PW_iload_n c_H_roomOf_32 rfl ?_
    refine PW_iald (j := g.toNatClampNeg) c_H_roomOf_33 (ar_9 _ _) (vp_in_iff.mpr (g10 C hg)) rfl ?_
    show PW _ _ _ 34 [some (.ref 6), some (.int g), some (.int m)] [.int ((x.2.1 9) g.toNatClampNeg)] (E x y)
    refine PW_ireturn (ty := .int) c_H_roomOf_34 rfl rfl ?_
    exact pqi h (by rw [C.row 1 (by omega) (gnat hg)]; exact if_neg (by rw [← C.row 2 (by omega) (gnat hg)]; exact h1))
theorem r5 {k : Nat} (hk : k < 5) : (0 : Int32) ≤ nI k ∧ nI k ≤ 4 := ⟨nI_pos' (by omega), by rw [show (4 : Int32) = nI 4 from rfl, nI_leI (by omega) (by omega)]; omega⟩
theorem sp_H_whoIsIn_k {z : ZS} {post : Option Value → List PE → Prop} {x y : XS} {k : Nat} {m : Int32} (C : CPg x y) (hk : k < 5) (hm : 0 ≤ m.toInt) (h : post (some (.int (thI y (nI k) m))) (E x y)) : PW (1, 0, 0, z) m_H_whoIsIn post 0 [some (.ref 6), some (.int (nI k)), some (.int m)] [] (E x y) := by
  refine PW_iload_n c_H_whoIsIn_0 rfl ?_
  refine PW_S0 (d2 := 0) (st := []) [.int (nI k)] c_H_whoIsIn_1 lk_H_whoIsIn_63 rfl rfl rfl (Nat.le_of_ble_eq_true rfl) (by first | decide | omega) (Nat.le_of_ble_eq_true rfl) ?_
  refine sp_H_isRoom  ?_
  show PW _ _ _ 4 [some (.ref 6), some (.int (nI k)), some (.int m)] [.int (b2i (0 ≤ (nI k) ∧ (nI k) ≤ 4))] (E x y)
  refine PW_if_eq c_H_whoIsIn_4 (fun h0 => absurd (r5 hk) (b2i_0.mp h0)) (fun _ => ?_)
  refine PW_iload_n c_H_whoIsIn_7 rfl ?_
  refine PW_if_ge c_H_whoIsIn_8 (fun h1 => ?_) (fun h1 => ?_)
  · refine PW_aload_n c_H_whoIsIn_13 rfl ?_
    refine PW_get (v := .ref 16) c_H_whoIsIn_14 fl_H_20 (gf_6_2 _ _) ?_
    refine PW_iload_n c_H_whoIsIn_17 rfl ?_
    refine PW_aald (j := k) c_H_whoIsIn_18 (ar_16 _ _) (t0 := 5) rfl rfl (vp_in_nI hk (by decide)) (nI_clamp (by omega)) ?_
    rw [if_pos hk]
    show PW _ _ _ 19 [some (.ref 6), some (.int (nI k)), some (.int m)] [.ref (17 + k)] (E x y)
    refine PW_iload_n c_H_whoIsIn_19 rfl ?_
    refine PW_bipush (v := 100) c_H_whoIsIn_20 (by decide) ?_
    refine PW_icmp_ge c_H_whoIsIn_22 (fun h2 => ?_) (fun h2 => ?_)
    · refine PW_bipush (v := 99) c_H_whoIsIn_29 (by decide) ?_
      refine PW_iald (j := 99) c_H_whoIsIn_31 (fr_present _ _ hk) (vp_in_iff.mpr (by decide)) rfl ?_
      show PW _ _ _ 32 [some (.ref 6), some (.int (nI k)), some (.int m)] [.int ((x.2.1 (17 + k)) 99)] (E x y)
      refine PW_ireturn (ty := .int) c_H_whoIsIn_32 rfl rfl ?_
      exact pqi h (by rw [C.pres hk (by omega)]; exact thI_cap C (by simp only [Int32.le_iff_toInt_le, tiA] at h2; omega) (by decide))
    · refine PW_iload_n c_H_whoIsIn_25 rfl ?_
      refine PW_goto c_H_whoIsIn_26 ?_
      refine PW_iald (j := m.toNatClampNeg) c_H_whoIsIn_31 (fr_present _ _ hk) (vp_in_iff.mpr (by simp only [Int32.not_le, Int32.lt_iff_toInt_lt, tiA] at h2; omega)) rfl ?_
      show PW _ _ _ 32 [some (.ref 6), some (.int (nI k)), some (.int m)] [.int ((x.2.1 (17 + k)) m.toNatClampNeg)] (E x y)
      refine PW_ireturn (ty := .int) c_H_whoIsIn_32 rfl rfl ?_
      obtain ⟨q, q1, q2, q3, q4⟩ := nI_ex hm
      exact pqi h (by rw [q4, C.pres hk (by simp only [Int32.not_le, Int32.lt_iff_toInt_lt, tiA] at h2; omega), ← q2])
  · refine PW_iconst (v := 0) c_H_whoIsIn_11 (by decide) ?_
    refine PW_ireturn (ty := .int) c_H_whoIsIn_12 rfl rfl ?_
    exact absurd (show (0 : Int32) ≤ m by rw [Int32.le_iff_toInt_le, tiA.1]; exact hm) h1
theorem sp_H_whoIsIn {z : ZS} {post : Option Value → List PE → Prop} {x y : XS} {r m : Int32} (C : CPg x y) (hr : 0 ≤ r.toInt ∧ r.toInt < 5) (hm : 0 ≤ m.toInt) (h : post (some (.int (thI y r m))) (E x y)) : PW (1, 0, 0, z) m_H_whoIsIn post 0 [some (.ref 6), some (.int r), some (.int m)] [] (E x y) := by
  obtain ⟨q, q1, rfl, q3, q4⟩ := nI_ex hr.1
  exact sp_H_whoIsIn_k C (by omega) hm h
