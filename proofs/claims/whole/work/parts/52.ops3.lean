set_option maxHeartbeats 4000000 in
theorem op_at {t : Nat} {x y : XS} {a1 : Int32} {a2 : Int32} (hI : INV t x y) (ht : t < 512) : ∃ (r : Int32) (x' y' : XS), INV (t + 1) x' y' ∧ (∀ {z : ZS} {post : Option Value → List PE → Prop}, post (some (.int r)) (E x' y) → PW (90, 0, 0, z) m_G_at post 0 [some (.ref 5), some (.int a1), some (.int a2)] [] (E x y)) ∧ (∀ {z : ZS} {post : Option Value → List PE → Prop}, post (some (.int r)) (E x' y') → PW (90, 0, 0, z) m_M_at post 0 [some (.ref 70), some (.int a1), some (.int a2)] [] (E x' y)) := by
  obtain ⟨hg, hc, ht0, hl, hd, hb, hs⟩ := id hI

  by_cases hc0 : 0 ≤ a1.toInt ∧ a1.toInt < (nG y : Int)
  · by_cases hc1 : 0 ≤ a2.toInt ∧ a2.toInt ≤ 999
    · refine ⟨rO y a1.toNatClampNeg a2, x, y, ?_, fun {z post} h => ?_, fun {z post} h => ?_⟩
      · exact INV_step hI
      · refine PW.deeper (k := (2, 0, 0, z)) (Nat.le_of_ble_eq_true rfl) (Nat.le_refl _) (Nat.le_refl _) ?_
        refine PW_aload_n c_G_at_0 rfl ?_
        refine PW_get (v := .ref 6) c_G_at_1 fl_G_13 (gf_5_0 _ _) ?_
        refine PW_iload_n c_G_at_4 rfl ?_
        refine PW_V0 (d2 := 0) (st := []) [.int a1] c_G_at_5 lk_G_at_139 (po_6 _ _) rfl rfl rfl (Nat.le_of_ble_eq_true rfl) (by first | decide | omega) (Nat.le_of_ble_eq_true rfl) ?_
        refine sp_H_isGuest hg.W hg.x51 ?_
        show PW _ _ _ 8 [some (.ref 5), some (.int a1), some (.int a2)] [.int (b2i (0 ≤ a1.toInt ∧ a1.toInt < (nG y : Int)))] (E x y)
        refine PW_if_eq c_G_at_8 (fun h0 => absurd hc0 (b2i_0.mp h0)) (fun _ => ?_)
        refine PW_iload_n c_G_at_11 rfl ?_
        refine PW_if_lt c_G_at_12 (fun h1 => absurd h1 (by rw [Int32.lt_iff_toInt_lt, tiA.1]; omega)) (fun h1 => ?_)
        refine PW_iload_n c_G_at_15 rfl ?_
        refine PW_sipush (v := 999) c_G_at_16 (by decide) ?_
        refine PW_icmp_le c_G_at_19 (fun h2 => ?_) (fun h2 => absurd (by simp only [Int32.le_iff_toInt_le, tiA]; omega) h2)
        refine PW_aload_n c_G_at_24 rfl ?_
        refine PW_get (v := .ref 6) c_G_at_25 fl_G_13 (gf_5_0 _ _) ?_
        refine PW_iload_n c_G_at_28 rfl ?_
        refine PW_iload_n c_G_at_29 rfl ?_
        refine PW_V0 (d2 := 1) (st := []) [.int a1, .int a2] c_G_at_30 lk_G_at_142 (po_6 _ _) rfl rfl rfl (Nat.le_of_ble_eq_true rfl) (by first | decide | omega) (Nat.le_of_ble_eq_true rfl) ?_
        refine sp_H_roomOf hg hc0 ?_
        show PW _ _ _ 33 [some (.ref 5), some (.int a1), some (.int a2)] [.int (rO y a1.toNatClampNeg a2)] (E x y)
        refine PW_ireturn (ty := .int) c_G_at_33 rfl rfl ?_
        exact h
      · refine PW.deeper (k := (2, 0, 0, z)) (Nat.le_of_ble_eq_true rfl) (Nat.le_refl _) (Nat.le_refl _) ?_
        refine PW_aload_n c_M_at_0 rfl ?_
        refine PW_iload_n c_M_at_1 rfl ?_
        refine PW_V0 (d2 := 1) (st := []) [.int a1] c_M_at_2 lk_M_at_162 (po_70 _ _) rfl rfl rfl (Nat.le_of_ble_eq_true rfl) (by first | decide | omega) (Nat.le_of_ble_eq_true rfl) ?_
        refine sp_M_isGuest2 hg.W ?_
        show PW _ _ _ 5 [some (.ref 70), some (.int a1), some (.int a2)] [.int (b2i (0 ≤ a1.toInt ∧ a1.toInt < (nG y : Int)))] (E x y)
        refine PW_if_eq c_M_at_5 (fun h0 => absurd hc0 (b2i_0.mp h0)) (fun _ => ?_)
        refine PW_iload_n c_M_at_8 rfl ?_
        refine PW_iconst (v := 0) c_M_at_9 (by decide) ?_
        refine PW_sipush (v := 999) c_M_at_10 (by decide) ?_
        refine PW_S0 (d2 := 0) (st := []) [.int a2, .int 0, .int 999] c_M_at_13 lk_M_at_131 rfl rfl rfl (Nat.le_of_ble_eq_true rfl) (by first | decide | omega) (Nat.le_of_ble_eq_true rfl) ?_
        refine sp_M_within  ?_
        show PW _ _ _ 16 [some (.ref 70), some (.int a1), some (.int a2)] [.int (b2i ((0 : Int32) ≤ a2 ∧ a2 ≤ (999 : Int32)))] (E x y)
        refine PW_if_eq c_M_at_16 (fun h1 => absurd (by simp only [Int32.le_iff_toInt_le, tiA]; omega) (b2i_0.mp h1)) (fun _ => ?_)
        refine PW_aload_n c_M_at_19 rfl ?_
        refine PW_iload_n c_M_at_20 rfl ?_
        refine PW_iload_n c_M_at_21 rfl ?_
        refine PW_V0 (d2 := 0) (st := []) [.int a1, .int a2] c_M_at_22 lk_M_at_176 (po_70 _ _) rfl rfl rfl (Nat.le_of_ble_eq_true rfl) (by first | decide | omega) (Nat.le_of_ble_eq_true rfl) ?_
        refine sp_M_roomOf (g10 hg hc0) ?_
        show PW _ _ _ 25 [some (.ref 70), some (.int a1), some (.int a2)] [.int (rO y a1.toNatClampNeg a2)] (E x y)
        refine PW_goto c_M_at_25 ?_
        refine PW_ireturn (ty := .int) c_M_at_29 rfl rfl ?_
        exact h
    refine ⟨-1, x, y, ?_, fun {z post} h => ?_, fun {z post} h => ?_⟩
    · exact INV_step hI
    · refine PW.deeper (k := (2, 0, 0, z)) (Nat.le_of_ble_eq_true rfl) (Nat.le_refl _) (Nat.le_refl _) ?_
      refine PW_aload_n c_G_at_0 rfl ?_
      refine PW_get (v := .ref 6) c_G_at_1 fl_G_13 (gf_5_0 _ _) ?_
      refine PW_iload_n c_G_at_4 rfl ?_
      refine PW_V0 (d2 := 0) (st := []) [.int a1] c_G_at_5 lk_G_at_139 (po_6 _ _) rfl rfl rfl (Nat.le_of_ble_eq_true rfl) (by first | decide | omega) (Nat.le_of_ble_eq_true rfl) ?_
      refine sp_H_isGuest hg.W hg.x51 ?_
      show PW _ _ _ 8 [some (.ref 5), some (.int a1), some (.int a2)] [.int (b2i (0 ≤ a1.toInt ∧ a1.toInt < (nG y : Int)))] (E x y)
      refine PW_if_eq c_G_at_8 (fun h0 => absurd hc0 (b2i_0.mp h0)) (fun _ => ?_)
      refine PW_iload_n c_G_at_11 rfl ?_
      refine PW_if_lt c_G_at_12 (fun h1 => ?_) (fun h1 => ?_)
      · refine PW_iconst (v := -1) c_G_at_22 (by decide) ?_
        refine PW_ireturn (ty := .int) c_G_at_23 rfl rfl ?_
        exact h
      · refine PW_iload_n c_G_at_15 rfl ?_
        refine PW_sipush (v := 999) c_G_at_16 (by decide) ?_
        refine PW_icmp_le c_G_at_19 (fun h2 => ?_) (fun h2 => ?_)
        · refine PW_aload_n c_G_at_24 rfl ?_
          refine PW_get (v := .ref 6) c_G_at_25 fl_G_13 (gf_5_0 _ _) ?_
          refine PW_iload_n c_G_at_28 rfl ?_
          refine PW_iload_n c_G_at_29 rfl ?_
          refine PW_V0 (d2 := 1) (st := []) [.int a1, .int a2] c_G_at_30 lk_G_at_142 (po_6 _ _) rfl rfl rfl (Nat.le_of_ble_eq_true rfl) (by first | decide | omega) (Nat.le_of_ble_eq_true rfl) ?_
          refine sp_H_roomOf hg hc0 ?_
          show PW _ _ _ 33 [some (.ref 5), some (.int a1), some (.int a2)] [.int (rO y a1.toNatClampNeg a2)] (E x y)
          refine PW_ireturn (ty := .int) c_G_at_33 rfl rfl ?_
          exfalso; simp only [Int32.lt_iff_toInt_lt, Int32.le_iff_toInt_le, Int32.not_lt, Int32.not_le, ← Int32.toInt_inj, tiA] at *; omega
        · refine PW_iconst (v := -1) c_G_at_22 (by decide) ?_
          refine PW_ireturn (ty := .int) c_G_at_23 rfl rfl ?_
          exact h
    · refine PW.deeper (k := (2, 0, 0, z)) (Nat.le_of_ble_eq_true rfl) (Nat.le_refl _) (Nat.le_refl _) ?_
      refine PW_aload_n c_M_at_0 rfl ?_
      refine PW_iload_n c_M_at_1 rfl ?_
      refine PW_V0 (d2 := 1) (st := []) [.int a1] c_M_at_2 lk_M_at_162 (po_70 _ _) rfl rfl rfl (Nat.le_of_ble_eq_true rfl) (by first | decide | omega) (Nat.le_of_ble_eq_true rfl) ?_
      refine sp_M_isGuest2 hg.W ?_
      show PW _ _ _ 5 [some (.ref 70), some (.int a1), some (.int a2)] [.int (b2i (0 ≤ a1.toInt ∧ a1.toInt < (nG y : Int)))] (E x y)
      refine PW_if_eq c_M_at_5 (fun h0 => absurd hc0 (b2i_0.mp h0)) (fun _ => ?_)
      refine PW_iload_n c_M_at_8 rfl ?_
      refine PW_iconst (v := 0) c_M_at_9 (by decide) ?_
      refine PW_sipush (v := 999) c_M_at_10 (by decide) ?_
      refine PW_S0 (d2 := 0) (st := []) [.int a2, .int 0, .int 999] c_M_at_13 lk_M_at_131 rfl rfl rfl (Nat.le_of_ble_eq_true rfl) (by first | decide | omega) (Nat.le_of_ble_eq_true rfl) ?_
      refine sp_M_within  ?_
      show PW _ _ _ 16 [some (.ref 70), some (.int a1), some (.int a2)] [.int (b2i ((0 : Int32) ≤ a2 ∧ a2 ≤ (999 : Int32)))] (E x y)
      refine PW_if_eq c_M_at_16 (fun _ => ?_) (fun h1 => absurd (b2i_n0.mp h1) (fun q => hc1 (by simp only [Int32.le_iff_toInt_le, tiA] at q; omega)))
      refine PW_iconst (v := -1) c_M_at_28 (by decide) ?_
      refine PW_ireturn (ty := .int) c_M_at_29 rfl rfl ?_
      exact h
  refine ⟨-1, x, y, ?_, fun {z post} h => ?_, fun {z post} h => ?_⟩
  · exact INV_step hI
  · refine PW.deeper (k := (2, 0, 0, z)) (Nat.le_of_ble_eq_true rfl) (Nat.le_refl _) (Nat.le_refl _) ?_
    refine PW_aload_n c_G_at_0 rfl ?_
    refine PW_get (v := .ref 6) c_G_at_1 fl_G_13 (gf_5_0 _ _) ?_
    refine PW_iload_n c_G_at_4 rfl ?_
    refine PW_V0 (d2 := 0) (st := []) [.int a1] c_G_at_5 lk_G_at_139 (po_6 _ _) rfl rfl rfl (Nat.le_of_ble_eq_true rfl) (by first | decide | omega) (Nat.le_of_ble_eq_true rfl) ?_
    refine sp_H_isGuest hg.W hg.x51 ?_
    show PW _ _ _ 8 [some (.ref 5), some (.int a1), some (.int a2)] [.int (b2i (0 ≤ a1.toInt ∧ a1.toInt < (nG y : Int)))] (E x y)
    refine PW_if_eq c_G_at_8 (fun _ => ?_) (fun h0 => absurd (b2i_n0.mp h0) hc0)
    refine PW_iconst (v := -1) c_G_at_22 (by decide) ?_
    refine PW_ireturn (ty := .int) c_G_at_23 rfl rfl ?_
    exact h
  · refine PW.deeper (k := (2, 0, 0, z)) (Nat.le_of_ble_eq_true rfl) (Nat.le_refl _) (Nat.le_refl _) ?_
    refine PW_aload_n c_M_at_0 rfl ?_
    refine PW_iload_n c_M_at_1 rfl ?_
    refine PW_V0 (d2 := 1) (st := []) [.int a1] c_M_at_2 lk_M_at_162 (po_70 _ _) rfl rfl rfl (Nat.le_of_ble_eq_true rfl) (by first | decide | omega) (Nat.le_of_ble_eq_true rfl) ?_
    refine sp_M_isGuest2 hg.W ?_
    show PW _ _ _ 5 [some (.ref 70), some (.int a1), some (.int a2)] [.int (b2i (0 ≤ a1.toInt ∧ a1.toInt < (nG y : Int)))] (E x y)
    refine PW_if_eq c_M_at_5 (fun _ => ?_) (fun h0 => absurd (b2i_n0.mp h0) hc0)
    refine PW_iconst (v := -1) c_M_at_28 (by decide) ?_
    refine PW_ireturn (ty := .int) c_M_at_29 rfl rfl ?_
    exact h
set_option maxHeartbeats 4000000 in
theorem op_in {t : Nat} {x y : XS} {a1 : Int32} {a2 : Int32} (hI : INV t x y) (ht : t < 512) : ∃ (r : Int32) (x' y' : XS), INV (t + 1) x' y' ∧ (∀ {z : ZS} {post : Option Value → List PE → Prop}, post (some (.int r)) (E x' y) → PW (90, 0, 0, z) m_G_in post 0 [some (.ref 5), some (.int a1), some (.int a2)] [] (E x y)) ∧ (∀ {z : ZS} {post : Option Value → List PE → Prop}, post (some (.int r)) (E x' y') → PW (90, 0, 0, z) m_M_in post 0 [some (.ref 70), some (.int a1), some (.int a2)] [] (E x' y)) := by
  obtain ⟨hg, hc, ht0, hl, hd, hb, hs⟩ := id hI

  by_cases hc0 : 0 ≤ a1 ∧ a1 ≤ 4
  · by_cases hc1 : 0 ≤ a2.toInt ∧ a2.toInt ≤ 999
    · refine ⟨thI y a1 a2, x, y, ?_, fun {z post} h => ?_, fun {z post} h => ?_⟩
      · exact INV_step hI
      · refine PW.deeper (k := (2, 0, 0, z)) (Nat.le_of_ble_eq_true rfl) (Nat.le_refl _) (Nat.le_refl _) ?_
        refine PW_iload_n c_G_in_0 rfl ?_
        refine PW_S0 (d2 := 0) (st := []) [.int a1] c_G_in_1 lk_G_in_121 rfl rfl rfl (Nat.le_of_ble_eq_true rfl) (by first | decide | omega) (Nat.le_of_ble_eq_true rfl) ?_
        refine sp_H_isRoom  ?_
        show PW _ _ _ 4 [some (.ref 5), some (.int a1), some (.int a2)] [.int (b2i (0 ≤ a1 ∧ a1 ≤ 4))] (E x y)
        refine PW_if_eq c_G_in_4 (fun h0 => absurd hc0 (b2i_0.mp h0)) (fun _ => ?_)
        refine PW_iload_n c_G_in_7 rfl ?_
        refine PW_if_lt c_G_in_8 (fun h1 => absurd h1 (by rw [Int32.lt_iff_toInt_lt, tiA.1]; omega)) (fun h1 => ?_)
        refine PW_iload_n c_G_in_11 rfl ?_
        refine PW_sipush (v := 999) c_G_in_12 (by decide) ?_
        refine PW_icmp_le c_G_in_15 (fun h2 => ?_) (fun h2 => absurd (by simp only [Int32.le_iff_toInt_le, tiA]; omega) h2)
        refine PW_aload_n c_G_in_20 rfl ?_
        refine PW_get (v := .ref 6) c_G_in_21 fl_G_13 (gf_5_0 _ _) ?_
        refine PW_iload_n c_G_in_24 rfl ?_
        refine PW_iload_n c_G_in_25 rfl ?_
        refine PW_V0 (d2 := 1) (st := []) [.int a1, .int a2] c_G_in_26 lk_G_in_145 (po_6 _ _) rfl rfl rfl (Nat.le_of_ble_eq_true rfl) (by first | decide | omega) (Nat.le_of_ble_eq_true rfl) ?_
        refine sp_H_whoIsIn hg (by simp only [Int32.le_iff_toInt_le, tiA] at hc0; omega) hc1.1 ?_
        show PW _ _ _ 29 [some (.ref 5), some (.int a1), some (.int a2)] [.int (thI y a1 a2)] (E x y)
        refine PW_ireturn (ty := .int) c_G_in_29 rfl rfl ?_
        exact h
      · refine PW.deeper (k := (2, 0, 0, z)) (Nat.le_of_ble_eq_true rfl) (Nat.le_refl _) (Nat.le_refl _) ?_
        refine PW_iload_n c_M_in_0 rfl ?_
        refine PW_S0 (d2 := 1) (st := []) [.int a1] c_M_in_1 lk_M_in_135 rfl rfl rfl (Nat.le_of_ble_eq_true rfl) (by first | decide | omega) (Nat.le_of_ble_eq_true rfl) ?_
        refine sp_M_isRoom  ?_
        show PW _ _ _ 4 [some (.ref 70), some (.int a1), some (.int a2)] [.int (b2i (0 ≤ a1 ∧ a1 ≤ 4))] (E x y)
        refine PW_if_eq c_M_in_4 (fun h0 => absurd hc0 (b2i_0.mp h0)) (fun _ => ?_)
        refine PW_iload_n c_M_in_7 rfl ?_
        refine PW_iconst (v := 0) c_M_in_8 (by decide) ?_
        refine PW_sipush (v := 999) c_M_in_9 (by decide) ?_
        refine PW_S0 (d2 := 0) (st := []) [.int a2, .int 0, .int 999] c_M_in_12 lk_M_in_131 rfl rfl rfl (Nat.le_of_ble_eq_true rfl) (by first | decide | omega) (Nat.le_of_ble_eq_true rfl) ?_
        refine sp_M_within  ?_
        show PW _ _ _ 15 [some (.ref 70), some (.int a1), some (.int a2)] [.int (b2i ((0 : Int32) ≤ a2 ∧ a2 ≤ (999 : Int32)))] (E x y)
        refine PW_if_eq c_M_in_15 (fun h1 => absurd (by simp only [Int32.le_iff_toInt_le, tiA]; omega) (b2i_0.mp h1)) (fun _ => ?_)
        refine PW_aload_n c_M_in_18 rfl ?_
        refine PW_iload_n c_M_in_19 rfl ?_
        refine PW_iload_n c_M_in_20 rfl ?_
        refine PW_V0 (d2 := 1) (st := []) [.int a1, .int a2] c_M_in_21 lk_M_in_179 (po_70 _ _) rfl rfl rfl (Nat.le_of_ble_eq_true rfl) (by first | decide | omega) (Nat.le_of_ble_eq_true rfl) ?_
        refine sp_M_thereIn hg.W ?_
        show PW _ _ _ 24 [some (.ref 70), some (.int a1), some (.int a2)] [.int (thI y a1 a2)] (E x y)
        refine PW_goto c_M_in_24 ?_
        refine PW_ireturn (ty := .int) c_M_in_28 rfl rfl ?_
        exact h
    refine ⟨-1, x, y, ?_, fun {z post} h => ?_, fun {z post} h => ?_⟩
    · exact INV_step hI
    · refine PW.deeper (k := (2, 0, 0, z)) (Nat.le_of_ble_eq_true rfl) (Nat.le_refl _) (Nat.le_refl _) ?_
      refine PW_iload_n c_G_in_0 rfl ?_
      refine PW_S0 (d2 := 0) (st := []) [.int a1] c_G_in_1 lk_G_in_121 rfl rfl rfl (Nat.le_of_ble_eq_true rfl) (by first | decide | omega) (Nat.le_of_ble_eq_true rfl) ?_
      refine sp_H_isRoom  ?_
      show PW _ _ _ 4 [some (.ref 5), some (.int a1), some (.int a2)] [.int (b2i (0 ≤ a1 ∧ a1 ≤ 4))] (E x y)
      refine PW_if_eq c_G_in_4 (fun h0 => absurd hc0 (b2i_0.mp h0)) (fun _ => ?_)
      refine PW_iload_n c_G_in_7 rfl ?_
      refine PW_if_lt c_G_in_8 (fun h1 => ?_) (fun h1 => ?_)
      · refine PW_iconst (v := -1) c_G_in_18 (by decide) ?_
        refine PW_ireturn (ty := .int) c_G_in_19 rfl rfl ?_
        exact h
      · refine PW_iload_n c_G_in_11 rfl ?_
        refine PW_sipush (v := 999) c_G_in_12 (by decide) ?_
        refine PW_icmp_le c_G_in_15 (fun h2 => ?_) (fun h2 => ?_)
        · refine PW_aload_n c_G_in_20 rfl ?_
          refine PW_get (v := .ref 6) c_G_in_21 fl_G_13 (gf_5_0 _ _) ?_
          refine PW_iload_n c_G_in_24 rfl ?_
          refine PW_iload_n c_G_in_25 rfl ?_
          refine PW_V0 (d2 := 1) (st := []) [.int a1, .int a2] c_G_in_26 lk_G_in_145 (po_6 _ _) rfl rfl rfl (Nat.le_of_ble_eq_true rfl) (by first | decide | omega) (Nat.le_of_ble_eq_true rfl) ?_
          refine sp_H_whoIsIn hg (by simp only [Int32.le_iff_toInt_le, tiA] at hc0; omega) (by simp only [Int32.not_lt, Int32.le_iff_toInt_le, tiA] at *; omega) ?_
          show PW _ _ _ 29 [some (.ref 5), some (.int a1), some (.int a2)] [.int (thI y a1 a2)] (E x y)
          refine PW_ireturn (ty := .int) c_G_in_29 rfl rfl ?_
          exfalso; simp only [Int32.lt_iff_toInt_lt, Int32.le_iff_toInt_le, Int32.not_lt, Int32.not_le, ← Int32.toInt_inj, tiA] at *; omega
        · refine PW_iconst (v := -1) c_G_in_18 (by decide) ?_
          refine PW_ireturn (ty := .int) c_G_in_19 rfl rfl ?_
          exact h
    · refine PW.deeper (k := (2, 0, 0, z)) (Nat.le_of_ble_eq_true rfl) (Nat.le_refl _) (Nat.le_refl _) ?_
      refine PW_iload_n c_M_in_0 rfl ?_
      refine PW_S0 (d2 := 1) (st := []) [.int a1] c_M_in_1 lk_M_in_135 rfl rfl rfl (Nat.le_of_ble_eq_true rfl) (by first | decide | omega) (Nat.le_of_ble_eq_true rfl) ?_
      refine sp_M_isRoom  ?_
      show PW _ _ _ 4 [some (.ref 70), some (.int a1), some (.int a2)] [.int (b2i (0 ≤ a1 ∧ a1 ≤ 4))] (E x y)
      refine PW_if_eq c_M_in_4 (fun h0 => absurd hc0 (b2i_0.mp h0)) (fun _ => ?_)
      refine PW_iload_n c_M_in_7 rfl ?_
      refine PW_iconst (v := 0) c_M_in_8 (by decide) ?_
      refine PW_sipush (v := 999) c_M_in_9 (by decide) ?_
      refine PW_S0 (d2 := 0) (st := []) [.int a2, .int 0, .int 999] c_M_in_12 lk_M_in_131 rfl rfl rfl (Nat.le_of_ble_eq_true rfl) (by first | decide | omega) (Nat.le_of_ble_eq_true rfl) ?_
      refine sp_M_within  ?_
      show PW _ _ _ 15 [some (.ref 70), some (.int a1), some (.int a2)] [.int (b2i ((0 : Int32) ≤ a2 ∧ a2 ≤ (999 : Int32)))] (E x y)
      refine PW_if_eq c_M_in_15 (fun _ => ?_) (fun h1 => absurd (b2i_n0.mp h1) (fun q => hc1 (by simp only [Int32.le_iff_toInt_le, tiA] at q; omega)))
      refine PW_iconst (v := -1) c_M_in_27 (by decide) ?_
      refine PW_ireturn (ty := .int) c_M_in_28 rfl rfl ?_
      exact h
  refine ⟨-1, x, y, ?_, fun {z post} h => ?_, fun {z post} h => ?_⟩
  · exact INV_step hI
  · refine PW.deeper (k := (2, 0, 0, z)) (Nat.le_of_ble_eq_true rfl) (Nat.le_refl _) (Nat.le_refl _) ?_
    refine PW_iload_n c_G_in_0 rfl ?_
    refine PW_S0 (d2 := 0) (st := []) [.int a1] c_G_in_1 lk_G_in_121 rfl rfl rfl (Nat.le_of_ble_eq_true rfl) (by first | decide | omega) (Nat.le_of_ble_eq_true rfl) ?_
    refine sp_H_isRoom  ?_
    show PW _ _ _ 4 [some (.ref 5), some (.int a1), some (.int a2)] [.int (b2i (0 ≤ a1 ∧ a1 ≤ 4))] (E x y)
    refine PW_if_eq c_G_in_4 (fun _ => ?_) (fun h0 => absurd (b2i_n0.mp h0) hc0)
    refine PW_iconst (v := -1) c_G_in_18 (by decide) ?_
    refine PW_ireturn (ty := .int) c_G_in_19 rfl rfl ?_
    exact h
  · refine PW.deeper (k := (2, 0, 0, z)) (Nat.le_of_ble_eq_true rfl) (Nat.le_refl _) (Nat.le_refl _) ?_
    refine PW_iload_n c_M_in_0 rfl ?_
    refine PW_S0 (d2 := 1) (st := []) [.int a1] c_M_in_1 lk_M_in_135 rfl rfl rfl (Nat.le_of_ble_eq_true rfl) (by first | decide | omega) (Nat.le_of_ble_eq_true rfl) ?_
    refine sp_M_isRoom  ?_
    show PW _ _ _ 4 [some (.ref 70), some (.int a1), some (.int a2)] [.int (b2i (0 ≤ a1 ∧ a1 ≤ 4))] (E x y)
    refine PW_if_eq c_M_in_4 (fun _ => ?_) (fun h0 => absurd (b2i_n0.mp h0) hc0)
    refine PW_iconst (v := -1) c_M_in_27 (by decide) ?_
    refine PW_ireturn (ty := .int) c_M_in_28 rfl rfl ?_
    exact h
