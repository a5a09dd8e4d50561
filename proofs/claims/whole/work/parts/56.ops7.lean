set_option maxHeartbeats 4000000 in
theorem op_row {t : Nat} {x y : XS} {a1 : Int32} {a2 : Int32} {a3 : Int32} (hI : INV t x y) (ht : t < 512) : ∃ (r : Int32) (x' y' : XS), INV (t + 1) x' y' ∧ (∀ {z : ZS} {post : Option Value → List PE → Prop}, post (some (.int r)) (E x' y) → PW (90, 0, 0, z) m_G_row post 0 [some (.ref 5), some (.int a1), some (.int a2), some (.int a3), none] [] (E x y)) ∧ (∀ {z : ZS} {post : Option Value → List PE → Prop}, post (some (.int r)) (E x' y') → PW (90, 0, 0, z) m_M_row post 0 [some (.ref 70), some (.int a1), some (.int a2), some (.int a3), none] [] (E x' y)) := by
  obtain ⟨hg, hc, ht0, hl, hd, hb, hs⟩ := id hI

  by_cases hc0 : ¬ (0 ≤ a1.toInt ∧ a1.toInt < 6)
  · refine ⟨-1, x, y, ?_, fun {z post} h => ?_, fun {z post} h => ?_⟩
    · exact INV_step hI
    · refine PW.deeper (k := (2, 0, 0, z)) (Nat.le_of_ble_eq_true rfl) (Nat.le_refl _) (Nat.le_refl _) ?_
      refine PW_aload_n c_G_row_0 rfl ?_
      refine PW_iload_n c_G_row_1 rfl ?_
      refine PW_V0 (d2 := 0) (st := []) [.int a1] c_G_row_2 lk_G_row_102 (po_5 _ _) rfl rfl rfl (Nat.le_of_ble_eq_true rfl) (by first | decide | omega) (Nat.le_of_ble_eq_true rfl) ?_
      refine sp_noshelf hc0 ?_
      show PW _ _ _ 5 [some (.ref 5), some (.int a1), some (.int a2), some (.int a3), none] [.null] (E x y)
      refine PW_astoreN (i := 4) (L2 := [some (.ref 5), some (.int a1), some (.int a2), some (.int a3), some (.null)]) c_G_row_5 (Nat.le_of_ble_eq_true rfl) rfl rfl ?_
      refine PW_aloadN c_G_row_7 rfl ?_
      refine PW_ifnullN c_G_row_9 ?_
      refine PW_iconst (v := -1) c_G_row_25 (by decide) ?_
      refine PW_ireturn (ty := .int) c_G_row_26 rfl rfl ?_
      exact h
    · refine PW.deeper (k := (2, 0, 0, z)) (Nat.le_of_ble_eq_true rfl) (Nat.le_refl _) (Nat.le_refl _) ?_
      refine PW_iload_n c_M_row_0 rfl ?_
      refine PW_S0 (d2 := 1) (st := []) [.int a1] c_M_row_1 lk_M_row_143 rfl rfl rfl (Nat.le_of_ble_eq_true rfl) (by first | decide | omega) (Nat.le_of_ble_eq_true rfl) ?_
      refine sp_M_isShelf2  ?_
      show PW _ _ _ 4 [some (.ref 70), some (.int a1), some (.int a2), some (.int a3), none] [.int (b2i (0 ≤ a1.toInt ∧ a1.toInt < 6))] (E x y)
      refine PW_if_eq c_M_row_4 (fun _ => ?_) (fun h0 => absurd (b2i_n0.mp h0) hc0)
      refine PW_iconst (v := -1) c_M_row_22 (by decide) ?_
      refine PW_ireturn (ty := .int) c_M_row_23 rfl rfl ?_
      exact h
  obtain ⟨j, hj, rfl⟩ : ∃ j : Nat, j < 6 ∧ a1 = nI j := by
    obtain ⟨q, q1, q2, q3, q4⟩ := nI_ex (x := a1) (by have := Decidable.not_not.mp hc0; omega)
    exact ⟨q, by have := Decidable.not_not.mp hc0; omega, q2⟩
  have hjs : 0 ≤ (nI j).toInt ∧ (nI j).toInt < 6 := by rw [nI_toInt (by omega)]; omega
  have hsj := hs j hj
  unfold CPs1 at hsj
  by_cases hc1 : ¬ (0 ≤ a2 ∧ a2 ≤ 4)
  · refine ⟨-1, x, y, ?_, fun {z post} h => ?_, fun {z post} h => ?_⟩
    · exact INV_step hI
    · refine PW.deeper (k := (2, 0, 0, z)) (Nat.le_of_ble_eq_true rfl) (Nat.le_refl _) (Nat.le_refl _) ?_
      refine PW_aload_n c_G_row_0 rfl ?_
      refine PW_iload_n c_G_row_1 rfl ?_
      refine PW_V0 (d2 := 0) (st := []) [.int (nI j)] c_G_row_2 lk_G_row_102 (po_5 _ _) rfl rfl rfl (Nat.le_of_ble_eq_true rfl) (by first | decide | omega) (Nat.le_of_ble_eq_true rfl) ?_
      refine sp_shelf hj ?_
      show PW _ _ _ 5 [some (.ref 5), some (.int (nI j)), some (.int a2), some (.int a3), none] [.ref (58 + 2 * j)] (E x y)
      refine PW_astore (i := 4) (L2 := [some (.ref 5), some (.int (nI j)), some (.int a2), some (.int a3), some (.ref (58 + 2 * j))]) c_G_row_5 (Nat.le_of_ble_eq_true rfl) rfl rfl ?_
      refine PW_aload c_G_row_7 rfl ?_
      refine PW_ifnull c_G_row_9 ?_
      refine PW_iload_n c_G_row_12 rfl ?_
      refine PW_S0 (d2 := 0) (st := []) [.int a2] c_G_row_13 lk_G_row_321 rfl rfl rfl (Nat.le_of_ble_eq_true rfl) (by first | decide | omega) (Nat.le_of_ble_eq_true rfl) ?_
      refine sp_F_isSort  ?_
      show PW _ _ _ 16 [some (.ref 5), some (.int (nI j)), some (.int a2), some (.int a3), some (.ref (58 + 2 * j))] [.int (b2i (0 ≤ a2 ∧ a2 ≤ 4))] (E x y)
      refine PW_if_eq c_G_row_16 (fun _ => ?_) (fun h0 => absurd (b2i_n0.mp h0) hc1)
      refine PW_iconst (v := -1) c_G_row_25 (by decide) ?_
      refine PW_ireturn (ty := .int) c_G_row_26 rfl rfl ?_
      exact h
    · refine PW.deeper (k := (2, 0, 0, z)) (Nat.le_of_ble_eq_true rfl) (Nat.le_refl _) (Nat.le_refl _) ?_
      refine PW_iload_n c_M_row_0 rfl ?_
      refine PW_S0 (d2 := 1) (st := []) [.int (nI j)] c_M_row_1 lk_M_row_143 rfl rfl rfl (Nat.le_of_ble_eq_true rfl) (by first | decide | omega) (Nat.le_of_ble_eq_true rfl) ?_
      refine sp_M_isShelf2  ?_
      show PW _ _ _ 4 [some (.ref 70), some (.int (nI j)), some (.int a2), some (.int a3), none] [.int (b2i (0 ≤ (nI j).toInt ∧ (nI j).toInt < 6))] (E x y)
      refine PW_if_eq c_M_row_4 (fun h0 => absurd hjs (b2i_0.mp h0)) (fun _ => ?_)
      refine PW_iload_n c_M_row_7 rfl ?_
      refine PW_iconst (v := 0) c_M_row_8 (by decide) ?_
      refine PW_iconst (v := 4) c_M_row_9 (by decide) ?_
      refine PW_S0 (d2 := 0) (st := []) [.int a2, .int 0, .int 4] c_M_row_10 lk_M_row_131 rfl rfl rfl (Nat.le_of_ble_eq_true rfl) (by first | decide | omega) (Nat.le_of_ble_eq_true rfl) ?_
      refine sp_M_within  ?_
      show PW _ _ _ 13 [some (.ref 70), some (.int (nI j)), some (.int a2), some (.int a3), none] [.int (b2i ((0 : Int32) ≤ a2 ∧ a2 ≤ (4 : Int32)))] (E x y)
      refine PW_if_eq c_M_row_13 (fun _ => ?_) (fun h1 => absurd (b2i_n0.mp h1) hc1)
      refine PW_iconst (v := -1) c_M_row_22 (by decide) ?_
      refine PW_ireturn (ty := .int) c_M_row_23 rfl rfl ?_
      exact h
  by_cases hc2 : 60 < a3
  · refine ⟨-1, x, y, ?_, fun {z post} h => ?_, fun {z post} h => ?_⟩
    · exact INV_step hI
    · refine PW.deeper (k := (2, 0, 0, z)) (Nat.le_of_ble_eq_true rfl) (Nat.le_refl _) (Nat.le_refl _) ?_
      refine PW_aload_n c_G_row_0 rfl ?_
      refine PW_iload_n c_G_row_1 rfl ?_
      refine PW_V0 (d2 := 0) (st := []) [.int (nI j)] c_G_row_2 lk_G_row_102 (po_5 _ _) rfl rfl rfl (Nat.le_of_ble_eq_true rfl) (by first | decide | omega) (Nat.le_of_ble_eq_true rfl) ?_
      refine sp_shelf hj ?_
      show PW _ _ _ 5 [some (.ref 5), some (.int (nI j)), some (.int a2), some (.int a3), none] [.ref (58 + 2 * j)] (E x y)
      refine PW_astore (i := 4) (L2 := [some (.ref 5), some (.int (nI j)), some (.int a2), some (.int a3), some (.ref (58 + 2 * j))]) c_G_row_5 (Nat.le_of_ble_eq_true rfl) rfl rfl ?_
      refine PW_aload c_G_row_7 rfl ?_
      refine PW_ifnull c_G_row_9 ?_
      refine PW_iload_n c_G_row_12 rfl ?_
      refine PW_S0 (d2 := 0) (st := []) [.int a2] c_G_row_13 lk_G_row_321 rfl rfl rfl (Nat.le_of_ble_eq_true rfl) (by first | decide | omega) (Nat.le_of_ble_eq_true rfl) ?_
      refine sp_F_isSort  ?_
      show PW _ _ _ 16 [some (.ref 5), some (.int (nI j)), some (.int a2), some (.int a3), some (.ref (58 + 2 * j))] [.int (b2i (0 ≤ a2 ∧ a2 ≤ 4))] (E x y)
      refine PW_if_eq c_G_row_16 (fun h0 => absurd (Decidable.not_not.mp hc1) (b2i_0.mp h0)) (fun _ => ?_)
      refine PW_iload_n c_G_row_19 rfl ?_
      refine PW_bipush (v := 60) c_G_row_20 (by decide) ?_
      refine PW_icmp_le c_G_row_22 (fun h1 => absurd h1 (Int32.not_le.mpr hc2)) (fun h1 => ?_)
      refine PW_iconst (v := -1) c_G_row_25 (by decide) ?_
      refine PW_ireturn (ty := .int) c_G_row_26 rfl rfl ?_
      exact h
    · refine PW.deeper (k := (2, 0, 0, z)) (Nat.le_of_ble_eq_true rfl) (Nat.le_refl _) (Nat.le_refl _) ?_
      refine PW_iload_n c_M_row_0 rfl ?_
      refine PW_S0 (d2 := 1) (st := []) [.int (nI j)] c_M_row_1 lk_M_row_143 rfl rfl rfl (Nat.le_of_ble_eq_true rfl) (by first | decide | omega) (Nat.le_of_ble_eq_true rfl) ?_
      refine sp_M_isShelf2  ?_
      show PW _ _ _ 4 [some (.ref 70), some (.int (nI j)), some (.int a2), some (.int a3), none] [.int (b2i (0 ≤ (nI j).toInt ∧ (nI j).toInt < 6))] (E x y)
      refine PW_if_eq c_M_row_4 (fun h0 => absurd hjs (b2i_0.mp h0)) (fun _ => ?_)
      refine PW_iload_n c_M_row_7 rfl ?_
      refine PW_iconst (v := 0) c_M_row_8 (by decide) ?_
      refine PW_iconst (v := 4) c_M_row_9 (by decide) ?_
      refine PW_S0 (d2 := 0) (st := []) [.int a2, .int 0, .int 4] c_M_row_10 lk_M_row_131 rfl rfl rfl (Nat.le_of_ble_eq_true rfl) (by first | decide | omega) (Nat.le_of_ble_eq_true rfl) ?_
      refine sp_M_within  ?_
      show PW _ _ _ 13 [some (.ref 70), some (.int (nI j)), some (.int a2), some (.int a3), none] [.int (b2i ((0 : Int32) ≤ a2 ∧ a2 ≤ (4 : Int32)))] (E x y)
      refine PW_if_eq c_M_row_13 (fun h1 => absurd (Decidable.not_not.mp hc1) (b2i_0.mp h1)) (fun _ => ?_)
      refine PW_iload_n c_M_row_16 rfl ?_
      refine PW_bipush (v := 60) c_M_row_17 (by decide) ?_
      refine PW_icmp_le c_M_row_19 (fun h2 => absurd h2 (Int32.not_le.mpr hc2)) (fun h2 => ?_)
      refine PW_iconst (v := -1) c_M_row_22 (by decide) ?_
      refine PW_ireturn (ty := .int) c_M_row_23 rfl rfl ?_
      exact h
  by_cases hc3 : a3 < 0
  · refine ⟨-14, x, y, ?_, fun {z post} h => ?_, fun {z post} h => ?_⟩
    · exact INV_step hI
    · refine PW.deeper (k := (2, 0, 0, z)) (Nat.le_of_ble_eq_true rfl) (Nat.le_refl _) (Nat.le_refl _) ?_
      refine PW_aload_n c_G_row_0 rfl ?_
      refine PW_iload_n c_G_row_1 rfl ?_
      refine PW_V0 (d2 := 0) (st := []) [.int (nI j)] c_G_row_2 lk_G_row_102 (po_5 _ _) rfl rfl rfl (Nat.le_of_ble_eq_true rfl) (by first | decide | omega) (Nat.le_of_ble_eq_true rfl) ?_
      refine sp_shelf hj ?_
      show PW _ _ _ 5 [some (.ref 5), some (.int (nI j)), some (.int a2), some (.int a3), none] [.ref (58 + 2 * j)] (E x y)
      refine PW_astore (i := 4) (L2 := [some (.ref 5), some (.int (nI j)), some (.int a2), some (.int a3), some (.ref (58 + 2 * j))]) c_G_row_5 (Nat.le_of_ble_eq_true rfl) rfl rfl ?_
      refine PW_aload c_G_row_7 rfl ?_
      refine PW_ifnull c_G_row_9 ?_
      refine PW_iload_n c_G_row_12 rfl ?_
      refine PW_S0 (d2 := 0) (st := []) [.int a2] c_G_row_13 lk_G_row_321 rfl rfl rfl (Nat.le_of_ble_eq_true rfl) (by first | decide | omega) (Nat.le_of_ble_eq_true rfl) ?_
      refine sp_F_isSort  ?_
      show PW _ _ _ 16 [some (.ref 5), some (.int (nI j)), some (.int a2), some (.int a3), some (.ref (58 + 2 * j))] [.int (b2i (0 ≤ a2 ∧ a2 ≤ 4))] (E x y)
      refine PW_if_eq c_G_row_16 (fun h0 => absurd (Decidable.not_not.mp hc1) (b2i_0.mp h0)) (fun _ => ?_)
      refine PW_iload_n c_G_row_19 rfl ?_
      refine PW_bipush (v := 60) c_G_row_20 (by decide) ?_
      refine PW_icmp_le c_G_row_22 (fun h1 => ?_) (fun h1 => absurd (Int32.not_lt.mp hc2) h1)
      refine PW_iload_n c_G_row_27 rfl ?_
      refine PW_if_ge c_G_row_28 (fun h2 => absurd h2 (Int32.not_le.mpr hc3)) (fun h2 => ?_)
      refine PW_bipush (v := -14) c_G_row_31 (by decide) ?_
      refine PW_ireturn (ty := .int) c_G_row_33 rfl rfl ?_
      exact h
    · refine PW.deeper (k := (2, 0, 0, z)) (Nat.le_of_ble_eq_true rfl) (Nat.le_refl _) (Nat.le_refl _) ?_
      refine PW_iload_n c_M_row_0 rfl ?_
      refine PW_S0 (d2 := 1) (st := []) [.int (nI j)] c_M_row_1 lk_M_row_143 rfl rfl rfl (Nat.le_of_ble_eq_true rfl) (by first | decide | omega) (Nat.le_of_ble_eq_true rfl) ?_
      refine sp_M_isShelf2  ?_
      show PW _ _ _ 4 [some (.ref 70), some (.int (nI j)), some (.int a2), some (.int a3), none] [.int (b2i (0 ≤ (nI j).toInt ∧ (nI j).toInt < 6))] (E x y)
      refine PW_if_eq c_M_row_4 (fun h0 => absurd hjs (b2i_0.mp h0)) (fun _ => ?_)
      refine PW_iload_n c_M_row_7 rfl ?_
      refine PW_iconst (v := 0) c_M_row_8 (by decide) ?_
      refine PW_iconst (v := 4) c_M_row_9 (by decide) ?_
      refine PW_S0 (d2 := 0) (st := []) [.int a2, .int 0, .int 4] c_M_row_10 lk_M_row_131 rfl rfl rfl (Nat.le_of_ble_eq_true rfl) (by first | decide | omega) (Nat.le_of_ble_eq_true rfl) ?_
      refine sp_M_within  ?_
      show PW _ _ _ 13 [some (.ref 70), some (.int (nI j)), some (.int a2), some (.int a3), none] [.int (b2i ((0 : Int32) ≤ a2 ∧ a2 ≤ (4 : Int32)))] (E x y)
      refine PW_if_eq c_M_row_13 (fun h1 => absurd (Decidable.not_not.mp hc1) (b2i_0.mp h1)) (fun _ => ?_)
      refine PW_iload_n c_M_row_16 rfl ?_
      refine PW_bipush (v := 60) c_M_row_17 (by decide) ?_
      refine PW_icmp_le c_M_row_19 (fun h2 => ?_) (fun h2 => absurd (Int32.not_lt.mp hc2) h2)
      refine PW_iload_n c_M_row_24 rfl ?_
      refine PW_if_ge c_M_row_25 (fun h3 => absurd h3 (Int32.not_le.mpr hc3)) (fun h3 => ?_)
      refine PW_bipush (v := -14) c_M_row_28 (by decide) ?_
      refine PW_ireturn (ty := .int) c_M_row_30 rfl rfl ?_
      exact h
  obtain ⟨n, n1, rfl, n3, n4⟩ := nI_ex (x := a3) (by simp only [Int32.lt_iff_toInt_lt, tiA] at hc3; omega)
  have hn : n ≤ 60 := by have q := hc2; simp only [Int32.lt_iff_toInt_lt, tiA] at q; omega
  obtain ⟨s, s1, rfl, s3, s4⟩ := nI_ex (x := a2) (by have q := Decidable.not_not.mp hc1; simp only [Int32.le_iff_toInt_le, tiA] at q; omega)
  have hs5 : s < 5 := by have q := Decidable.not_not.mp hc1; simp only [Int32.le_iff_toInt_le, tiA] at q; omega
  refine ⟨1, sG (sI (sI (sI x ((58 + 2 * j) * 8 + 1) 2) ((58 + 2 * j) * 8 + 3) (nI s)) ((58 + 2 * j) * 8 + 4) (nI n)) (59 + 2 * j) (zf (x.2.2 (59 + 2 * j)) 0 n), sG (sA (sA y 104 (upd (y.2.1 104) j (-2 - nI s))) 105 (upd (y.2.1 105) j (nI n))) 106 (zf (y.2.2 106) (60 * j) 60), ?_, fun {z post} h => ?_, fun {z post} h => ?_⟩
  · refine ⟨hg.cg (fun n q1 q2 => by first | rfl | (simp only [sI_1, sI_A, sI_G, sA_1, sA_A, sA_G, sG_1, sG_A, sG_G]; repeat rw [if_neg (by omega)])) (fun n q1 q2 => by first | rfl | (simp only [sI_1, sI_A, sI_G, sA_1, sA_A, sA_G, sG_1, sG_A, sG_G]; repeat rw [if_neg (by omega)])) (by first | rfl | (simp only [sI_1, sI_A, sI_G, sA_1, sA_A, sA_G, sG_1, sG_A, sG_G]; repeat rw [if_neg (by omega)])) (fun n q1 q2 => by first | rfl | (simp only [sI_1, sI_A, sI_G, sA_1, sA_A, sA_G, sG_1, sG_A, sG_G]; repeat rw [if_neg (by omega)])), hc.cg (fun n q1 q2 => by first | rfl | (simp only [sI_1, sI_A, sI_G, sA_1, sA_A, sA_G, sG_1, sG_A, sG_G]; repeat rw [if_neg (by omega)])) (fun n q1 q2 => by first | rfl | (simp only [sI_1, sI_A, sI_G, sA_1, sA_A, sA_G, sG_1, sG_A, sG_G]; repeat rw [if_neg (by omega)])) (fun n q1 q2 => by first | rfl | (simp only [sI_1, sI_A, sI_G, sA_1, sA_A, sA_G, sG_1, sG_A, sG_G]; repeat rw [if_neg (by omega)])) (fun n q1 q2 => by first | rfl | (simp only [sI_1, sI_A, sI_G, sA_1, sA_A, sA_G, sG_1, sG_A, sG_G]; repeat rw [if_neg (by omega)])) (Nat.le_of_eq (nG_cg (by first | rfl | (simp only [sI_1, sI_A, sI_G, sA_1, sA_A, sA_G, sG_1, sG_A, sG_G]; repeat rw [if_neg (by omega)]))).symm), ht0.cg (by first | rfl | (simp only [sI_1, sI_A, sI_G, sA_1, sA_A, sA_G, sG_1, sG_A, sG_G]; repeat rw [if_neg (by omega)])) (by first | rfl | (simp only [sI_1, sI_A, sI_G, sA_1, sA_A, sA_G, sG_1, sG_A, sG_G]; repeat rw [if_neg (by omega)])) (by first | rfl | (simp only [sI_1, sI_A, sI_G, sA_1, sA_A, sA_G, sG_1, sG_A, sG_G]; repeat rw [if_neg (by omega)])) (by first | rfl | (simp only [sI_1, sI_A, sI_G, sA_1, sA_A, sA_G, sG_1, sG_A, sG_G]; repeat rw [if_neg (by omega)])), hl.cg (by first | rfl | (simp only [sI_1, sI_A, sI_G, sA_1, sA_A, sA_G, sG_1, sG_A, sG_G]; repeat rw [if_neg (by omega)])) (fun n q1 q2 => by first | rfl | (simp only [sI_1, sI_A, sI_G, sA_1, sA_A, sA_G, sG_1, sG_A, sG_G]; repeat rw [if_neg (by omega)])) (by first | rfl | (simp only [sI_1, sI_A, sI_G, sA_1, sA_A, sA_G, sG_1, sG_A, sG_G]; repeat rw [if_neg (by omega)])) (fun n q1 q2 => by first | rfl | (simp only [sI_1, sI_A, sI_G, sA_1, sA_A, sA_G, sG_1, sG_A, sG_G]; repeat rw [if_neg (by omega)])), hd.cg (Nat.le_succ _) (fun n q1 q2 => by first | rfl | (simp only [sI_1, sI_A, sI_G, sA_1, sA_A, sA_G, sG_1, sG_A, sG_G]; repeat rw [if_neg (by omega)])) (by first | rfl | (simp only [sI_1, sI_A, sI_G, sA_1, sA_A, sA_G, sG_1, sG_A, sG_G]; repeat rw [if_neg (by omega)])) (by first | rfl | (simp only [sI_1, sI_A, sI_G, sA_1, sA_A, sA_G, sG_1, sG_A, sG_G]; repeat rw [if_neg (by omega)])) (fun n q1 q2 => by first | rfl | (simp only [sI_1, sI_A, sI_G, sA_1, sA_A, sA_G, sG_1, sG_A, sG_G]; repeat rw [if_neg (by omega)])), hb.cg (fun n q1 q2 => by first | rfl | (simp only [sI_1, sI_A, sI_G, sA_1, sA_A, sA_G, sG_1, sG_A, sG_G]; repeat rw [if_neg (by omega)])) (fun n q1 q2 => by first | rfl | (simp only [sI_1, sI_A, sI_G, sA_1, sA_A, sA_G, sG_1, sG_A, sG_G]; repeat rw [if_neg (by omega)])) (fun n q1 q2 => by first | rfl | (simp only [sI_1, sI_A, sI_G, sA_1, sA_A, sA_G, sG_1, sG_A, sG_G]; repeat rw [if_neg (by omega)])) (fun n q1 q2 => by first | rfl | (simp only [sI_1, sI_A, sI_G, sA_1, sA_A, sA_G, sG_1, sG_A, sG_G]; repeat rw [if_neg (by omega)])), ?_⟩
    · intro i hi
      by_cases hij : i = j
      · subst hij
        unfold CPs1
        right; right
        refine ⟨s, n, hs5, hn, ?_, ?_, ?_, ?_, ?_, fun k hk => ?_⟩
        · show upd (y.2.1 104) i (-2 - nI s) i = _
          rw [upd_s]
        · rw [sG_1, sI_n (by omega), sI_n (by omega), sI_s]
        · rw [sG_1, sI_n (by omega), sI_s]
        · show upd (y.2.1 105) i (nI n) i = _
          rw [upd_s]
        · rw [sG_1, sI_s]
        · rw [sG_at]
          show zf (x.2.2 (59 + 2 * i)) 0 n k = zf (y.2.2 106) (60 * i) 60 (60 * i + k) ∧ (s = 0 → -128 ≤ (zf (y.2.2 106) (60 * i) 60 (60 * i + k)).toInt ∧ (zf (y.2.2 106) (60 * i) 60 (60 * i + k)).toInt ≤ 127)
          rw [zf_at, zf_at, if_pos (by omega), if_pos (by omega)]
          exact ⟨rfl, fun _ => by decide⟩
      · exact (hs i hi).cg (fun k q1 q2 => by rw [sG_1]; repeat rw [sI_n (by omega)]) (by exact if_neg (by omega)) (by first | exact Int.le_refl _ | (simp only [sI_1, sI_A, sI_G, sA_1, sA_A, sA_G, sG_1, sG_A, sG_G]; repeat rw [if_neg (by omega)])) (by exact upd_n hij) (by exact upd_n hij) (fun k hk => by show zf (y.2.2 106) (60 * j) 60 (60 * i + k) = _; rw [zf_at, if_neg (by omega)])
  · refine PW.deeper (k := (2, 0, 0, z)) (Nat.le_of_ble_eq_true rfl) (Nat.le_refl _) (Nat.le_refl _) ?_
    refine PW_aload_n c_G_row_0 rfl ?_
    refine PW_iload_n c_G_row_1 rfl ?_
    refine PW_V0 (d2 := 0) (st := []) [.int (nI j)] c_G_row_2 lk_G_row_102 (po_5 _ _) rfl rfl rfl (Nat.le_of_ble_eq_true rfl) (by first | decide | omega) (Nat.le_of_ble_eq_true rfl) ?_
    refine sp_shelf hj ?_
    show PW _ _ _ 5 [some (.ref 5), some (.int (nI j)), some (.int (nI s)), some (.int (nI n)), none] [.ref (58 + 2 * j)] (E x y)
    refine PW_astore (i := 4) (L2 := [some (.ref 5), some (.int (nI j)), some (.int (nI s)), some (.int (nI n)), some (.ref (58 + 2 * j))]) c_G_row_5 (Nat.le_of_ble_eq_true rfl) rfl rfl ?_
    refine PW_aload c_G_row_7 rfl ?_
    refine PW_ifnull c_G_row_9 ?_
    refine PW_iload_n c_G_row_12 rfl ?_
    refine PW_S0 (d2 := 0) (st := []) [.int (nI s)] c_G_row_13 lk_G_row_321 rfl rfl rfl (Nat.le_of_ble_eq_true rfl) (by first | decide | omega) (Nat.le_of_ble_eq_true rfl) ?_
    refine sp_F_isSort  ?_
    show PW _ _ _ 16 [some (.ref 5), some (.int (nI j)), some (.int (nI s)), some (.int (nI n)), some (.ref (58 + 2 * j))] [.int (b2i (0 ≤ (nI s) ∧ (nI s) ≤ 4))] (E x y)
    refine PW_if_eq c_G_row_16 (fun h0 => absurd (Decidable.not_not.mp hc1) (b2i_0.mp h0)) (fun _ => ?_)
    refine PW_iload_n c_G_row_19 rfl ?_
    refine PW_bipush (v := 60) c_G_row_20 (by decide) ?_
    refine PW_icmp_le c_G_row_22 (fun h1 => ?_) (fun h1 => absurd (Int32.not_lt.mp hc2) h1)
    refine PW_iload_n c_G_row_27 rfl ?_
    refine PW_if_ge c_G_row_28 (fun h2 => ?_) (fun h2 => absurd (Int32.not_lt.mp hc3) h2)
    refine PW_aload c_G_row_34 rfl ?_
    refine PW_iload_n c_G_row_36 rfl ?_
    refine PW_iload_n c_G_row_37 rfl ?_
    refine PW_V0 (d2 := 1) (st := []) [.int (nI s), .int (nI n)] c_G_row_38 lk_G_row_324 (sh_po _ _ hj) rfl rfl rfl (Nat.le_of_ble_eq_true rfl) (by first | decide | omega) (Nat.le_of_ble_eq_true rfl) ?_
    refine sp_F_holdRow hj hn rfl ?_
    show PW _ _ _ 41 [some (.ref 5), some (.int (nI j)), some (.int (nI s)), some (.int (nI n)), some (.ref (58 + 2 * j))] [] (E (sG (sI (sI (sI x ((58 + 2 * j) * 8 + 1) 2) ((58 + 2 * j) * 8 + 3) (nI s)) ((58 + 2 * j) * 8 + 4) (nI n)) (59 + 2 * j) (zf (x.2.2 (59 + 2 * j)) 0 n)) y)
    refine PW_iconst (v := 1) c_G_row_41 (by decide) ?_
    refine PW_ireturn (ty := .int) c_G_row_42 rfl rfl ?_
    exact h
  · refine PW.deeper (k := (2, 0, 0, z)) (Nat.le_of_ble_eq_true rfl) (Nat.le_refl _) (Nat.le_refl _) ?_
    refine PW_iload_n c_M_row_0 rfl ?_
    refine PW_S0 (d2 := 1) (st := []) [.int (nI j)] c_M_row_1 lk_M_row_143 rfl rfl rfl (Nat.le_of_ble_eq_true rfl) (by first | decide | omega) (Nat.le_of_ble_eq_true rfl) ?_
    refine sp_M_isShelf2  ?_
    show PW _ _ _ 4 [some (.ref 70), some (.int (nI j)), some (.int (nI s)), some (.int (nI n)), none] [.int (b2i (0 ≤ (nI j).toInt ∧ (nI j).toInt < 6))] (E (sG (sI (sI (sI x ((58 + 2 * j) * 8 + 1) 2) ((58 + 2 * j) * 8 + 3) (nI s)) ((58 + 2 * j) * 8 + 4) (nI n)) (59 + 2 * j) (zf (x.2.2 (59 + 2 * j)) 0 n)) y)
    refine PW_if_eq c_M_row_4 (fun h0 => absurd hjs (b2i_0.mp h0)) (fun _ => ?_)
    refine PW_iload_n c_M_row_7 rfl ?_
    refine PW_iconst (v := 0) c_M_row_8 (by decide) ?_
    refine PW_iconst (v := 4) c_M_row_9 (by decide) ?_
    refine PW_S0 (d2 := 0) (st := []) [.int (nI s), .int 0, .int 4] c_M_row_10 lk_M_row_131 rfl rfl rfl (Nat.le_of_ble_eq_true rfl) (by first | decide | omega) (Nat.le_of_ble_eq_true rfl) ?_
    refine sp_M_within  ?_
    show PW _ _ _ 13 [some (.ref 70), some (.int (nI j)), some (.int (nI s)), some (.int (nI n)), none] [.int (b2i ((0 : Int32) ≤ (nI s) ∧ (nI s) ≤ (4 : Int32)))] (E (sG (sI (sI (sI x ((58 + 2 * j) * 8 + 1) 2) ((58 + 2 * j) * 8 + 3) (nI s)) ((58 + 2 * j) * 8 + 4) (nI n)) (59 + 2 * j) (zf (x.2.2 (59 + 2 * j)) 0 n)) y)
    refine PW_if_eq c_M_row_13 (fun h1 => absurd (Decidable.not_not.mp hc1) (b2i_0.mp h1)) (fun _ => ?_)
    refine PW_iload_n c_M_row_16 rfl ?_
    refine PW_bipush (v := 60) c_M_row_17 (by decide) ?_
    refine PW_icmp_le c_M_row_19 (fun h2 => ?_) (fun h2 => absurd (Int32.not_lt.mp hc2) h2)
    refine PW_iload_n c_M_row_24 rfl ?_
    refine PW_if_ge c_M_row_25 (fun h3 => ?_) (fun h3 => absurd (Int32.not_lt.mp hc3) h3)
    refine PW_aload_n c_M_row_31 rfl ?_
    refine PW_get (v := .ref 104) c_M_row_32 fl_M_111 (gf_70_53 _ _) ?_
    refine PW_iload_n c_M_row_35 rfl ?_
    refine PW_bipush (v := -2) c_M_row_36 (by decide) ?_
    refine PW_iload_n c_M_row_38 rfl ?_
    refine PW_isub c_M_row_39 ?_
    refine PW_iast (j := j) (w2 := E (sG (sI (sI (sI x ((58 + 2 * j) * 8 + 1) 2) ((58 + 2 * j) * 8 + 3) (nI s)) ((58 + 2 * j) * 8 + 4) (nI n)) (59 + 2 * j) (zf (x.2.2 (59 + 2 * j)) 0 n)) (sA y 104 (upd (y.2.1 104) j ((-2) - (nI s))))) c_M_row_40 (ar_104 _ _) (vp_in_nI hj (by decide)) (nI_clamp (by omega)) (aw_104 _ _ _) ?_
    refine PW_aload_n c_M_row_41 rfl ?_
    refine PW_get (v := .ref 105) c_M_row_42 fl_M_114 (gf_70_54 _ _) ?_
    refine PW_iload_n c_M_row_45 rfl ?_
    refine PW_iload_n c_M_row_46 rfl ?_
    refine PW_iast (j := j) (w2 := E (sG (sI (sI (sI x ((58 + 2 * j) * 8 + 1) 2) ((58 + 2 * j) * 8 + 3) (nI s)) ((58 + 2 * j) * 8 + 4) (nI n)) (59 + 2 * j) (zf (x.2.2 (59 + 2 * j)) 0 n)) (sA (sA y 104 (upd (y.2.1 104) j ((-2) - (nI s)))) 105 (upd (y.2.1 105) j (nI n)))) c_M_row_47 (ar_105 _ _) (vp_in_nI hj (by decide)) (nI_clamp (by omega)) (aw_105 _ _ _) ?_
    refine PW_bipush (v := 60) c_M_row_48 (by decide) ?_
    refine PW_iload_n c_M_row_50 rfl ?_
    refine PW_imul c_M_row_51 ?_
    refine PW_istore (i := 4) (L2 := [some (.ref 70), some (.int (nI j)), some (.int (nI s)), some (.int (nI n)), some (.int (60 * (nI j)))]) c_M_row_52 (Nat.le_of_ble_eq_true rfl) rfl rfl ?_
    refine PW.eqL (L2 := [some (.ref 70), some (.int (nI j)), some (.int (nI s)), some (.int (nI n)), some (.int (nI (60 * j)))]) ?_ rfl rfl (lp_M_row hj 60 (60 * j) (sA (sA y 104 (upd (y.2.1 104) j ((-2) - (nI s)))) 105 (upd (y.2.1 105) j (nI n))) (by omega) ?_)
    · show ([some (.ref 70), some (.int (nI j)), some (.int (nI s)), some (.int (nI n)), some (.int (60 * (nI j)))] : List (Option Value)) = _
      rw [show (60 : Int32) * nI j = nI (60 * j) by rw [show (60 : Int32) = nI 60 from rfl, pk_mul]]
    · exact h
