set_option maxHeartbeats 4000000 in
theorem op_slip {t : Nat} {x y : XS} {a1 : Int32} {a2 : Int32} (hI : INV t x y) (ht : t < 512) : ∃ (r : Int32) (x' y' : XS), INV (t + 1) x' y' ∧ (∀ {z : ZS} {post : Option Value → List PE → Prop}, post (some (.int r)) (E x' y) → PW (90, 0, 0, z) m_G_slip post 0 [some (.ref 5), some (.int a1), some (.int a2), none, none, none, none] [] (E x y)) ∧ (∀ {z : ZS} {post : Option Value → List PE → Prop}, post (some (.int r)) (E x' y') → PW (90, 0, 0, z) m_M_slip post 0 [some (.ref 70), some (.int a1), some (.int a2), none, none] [] (E x' y)) := by
  obtain ⟨hg, hc, ht0, hl, hd, hb, hs⟩ := id hI

  by_cases hc0 : ¬ (0 ≤ a1 ∧ 0 ≤ a1 / 100 ∧ a1 / 100 ≤ 4)
  · refine ⟨-1, x, y, ?_, fun {z post} h => ?_, fun {z post} h => ?_⟩
    · exact INV_step hI
    · refine PW.deeper (k := (3, 0, 0, z)) (Nat.le_of_ble_eq_true rfl) (Nat.le_refl _) (Nat.le_refl _) ?_
      refine PW_iload_n c_G_slip_0 rfl ?_
      refine PW_S0 (d2 := 1) (st := []) [.int a1] c_G_slip_1 lk_G_slip_163 rfl rfl rfl (Nat.le_of_ble_eq_true rfl) (by first | decide | omega) (Nat.le_of_ble_eq_true rfl) ?_
      refine sp_G_isRoomMinute  ?_
      show PW _ _ _ 4 [some (.ref 5), some (.int a1), some (.int a2), none, none, none, none] [.int (b2i (0 ≤ a1 ∧ 0 ≤ a1 / 100 ∧ a1 / 100 ≤ 4))] (E x y)
      refine PW_if_eq c_G_slip_4 (fun _ => ?_) (fun h0 => absurd (b2i_n0.mp h0) hc0)
      refine PW_iconst (v := -1) c_G_slip_16 (by decide) ?_
      refine PW_ireturn (ty := .int) c_G_slip_17 rfl rfl ?_
      exact h
    · refine PW.deeper (k := (3, 0, 0, z)) (Nat.le_of_ble_eq_true rfl) (Nat.le_refl _) (Nat.le_refl _) ?_
      refine PW_iload_n c_M_slip_0 rfl ?_
      refine PW_S0 (d2 := 2) (st := []) [.int a1] c_M_slip_1 lk_M_slip_283 rfl rfl rfl (Nat.le_of_ble_eq_true rfl) (by first | decide | omega) (Nat.le_of_ble_eq_true rfl) ?_
      refine sp_M_isTime  ?_
      show PW _ _ _ 4 [some (.ref 70), some (.int a1), some (.int a2), none, none] [.int (b2i (0 ≤ a1 ∧ 0 ≤ a1 / 100 ∧ a1 / 100 ≤ 4))] (E x y)
      refine PW_if_eq c_M_slip_4 (fun _ => ?_) (fun h0 => absurd (b2i_n0.mp h0) hc0)
      refine PW_iconst (v := -1) c_M_slip_16 (by decide) ?_
      refine PW_ireturn (ty := .int) c_M_slip_17 rfl rfl ?_
      exact h
  obtain ⟨a, m, ha, hm, -, ea, em⟩ := tm_ex (Decidable.not_not.mp hc0)
  have htm := Decidable.not_not.mp hc0
  by_cases hc1 : a2 < 0
  · refine ⟨-1, x, y, ?_, fun {z post} h => ?_, fun {z post} h => ?_⟩
    · exact INV_step hI
    · refine PW.deeper (k := (3, 0, 0, z)) (Nat.le_of_ble_eq_true rfl) (Nat.le_refl _) (Nat.le_refl _) ?_
      refine PW_iload_n c_G_slip_0 rfl ?_
      refine PW_S0 (d2 := 1) (st := []) [.int a1] c_G_slip_1 lk_G_slip_163 rfl rfl rfl (Nat.le_of_ble_eq_true rfl) (by first | decide | omega) (Nat.le_of_ble_eq_true rfl) ?_
      refine sp_G_isRoomMinute  ?_
      show PW _ _ _ 4 [some (.ref 5), some (.int a1), some (.int a2), none, none, none, none] [.int (b2i (0 ≤ a1 ∧ 0 ≤ a1 / 100 ∧ a1 / 100 ≤ 4))] (E x y)
      refine PW_if_eq c_G_slip_4 (fun h0 => absurd htm (b2i_0.mp h0)) (fun _ => ?_)
      refine PW_iload_n c_G_slip_7 rfl ?_
      refine PW_if_lt c_G_slip_8 (fun h1 => ?_) (fun h1 => absurd hc1 h1)
      refine PW_iconst (v := -1) c_G_slip_16 (by decide) ?_
      refine PW_ireturn (ty := .int) c_G_slip_17 rfl rfl ?_
      exact h
    · refine PW.deeper (k := (3, 0, 0, z)) (Nat.le_of_ble_eq_true rfl) (Nat.le_refl _) (Nat.le_refl _) ?_
      refine PW_iload_n c_M_slip_0 rfl ?_
      refine PW_S0 (d2 := 2) (st := []) [.int a1] c_M_slip_1 lk_M_slip_283 rfl rfl rfl (Nat.le_of_ble_eq_true rfl) (by first | decide | omega) (Nat.le_of_ble_eq_true rfl) ?_
      refine sp_M_isTime  ?_
      show PW _ _ _ 4 [some (.ref 70), some (.int a1), some (.int a2), none, none] [.int (b2i (0 ≤ a1 ∧ 0 ≤ a1 / 100 ∧ a1 / 100 ≤ 4))] (E x y)
      refine PW_if_eq c_M_slip_4 (fun h0 => absurd htm (b2i_0.mp h0)) (fun _ => ?_)
      refine PW_iload_n c_M_slip_7 rfl ?_
      refine PW_iconst (v := 0) c_M_slip_8 (by decide) ?_
      refine PW_iconst (v := 1) c_M_slip_9 (by decide) ?_
      refine PW_S0 (d2 := 0) (st := []) [.int a2, .int 0, .int 1] c_M_slip_10 lk_M_slip_131 rfl rfl rfl (Nat.le_of_ble_eq_true rfl) (by first | decide | omega) (Nat.le_of_ble_eq_true rfl) ?_
      refine sp_M_within  ?_
      show PW _ _ _ 13 [some (.ref 70), some (.int a1), some (.int a2), none, none] [.int (b2i ((0 : Int32) ≤ a2 ∧ a2 ≤ (1 : Int32)))] (E x y)
      refine PW_if_ne c_M_slip_13 (fun h1 => absurd (b2i_n0.mp h1) (fun q => absurd q.1 (Int32.not_le.mpr hc1))) (fun _ => ?_)
      refine PW_iconst (v := -1) c_M_slip_16 (by decide) ?_
      refine PW_ireturn (ty := .int) c_M_slip_17 rfl rfl ?_
      exact h
  by_cases hc2 : 1 < a2
  · refine ⟨-1, x, y, ?_, fun {z post} h => ?_, fun {z post} h => ?_⟩
    · exact INV_step hI
    · refine PW.deeper (k := (3, 0, 0, z)) (Nat.le_of_ble_eq_true rfl) (Nat.le_refl _) (Nat.le_refl _) ?_
      refine PW_iload_n c_G_slip_0 rfl ?_
      refine PW_S0 (d2 := 1) (st := []) [.int a1] c_G_slip_1 lk_G_slip_163 rfl rfl rfl (Nat.le_of_ble_eq_true rfl) (by first | decide | omega) (Nat.le_of_ble_eq_true rfl) ?_
      refine sp_G_isRoomMinute  ?_
      show PW _ _ _ 4 [some (.ref 5), some (.int a1), some (.int a2), none, none, none, none] [.int (b2i (0 ≤ a1 ∧ 0 ≤ a1 / 100 ∧ a1 / 100 ≤ 4))] (E x y)
      refine PW_if_eq c_G_slip_4 (fun h0 => absurd htm (b2i_0.mp h0)) (fun _ => ?_)
      refine PW_iload_n c_G_slip_7 rfl ?_
      refine PW_if_lt c_G_slip_8 (fun h1 => absurd h1 hc1) (fun h1 => ?_)
      refine PW_iload_n c_G_slip_11 rfl ?_
      refine PW_iconst (v := 1) c_G_slip_12 (by decide) ?_
      refine PW_icmp_le c_G_slip_13 (fun h2 => absurd h2 (Int32.not_le.mpr hc2)) (fun h2 => ?_)
      refine PW_iconst (v := -1) c_G_slip_16 (by decide) ?_
      refine PW_ireturn (ty := .int) c_G_slip_17 rfl rfl ?_
      exact h
    · refine PW.deeper (k := (3, 0, 0, z)) (Nat.le_of_ble_eq_true rfl) (Nat.le_refl _) (Nat.le_refl _) ?_
      refine PW_iload_n c_M_slip_0 rfl ?_
      refine PW_S0 (d2 := 2) (st := []) [.int a1] c_M_slip_1 lk_M_slip_283 rfl rfl rfl (Nat.le_of_ble_eq_true rfl) (by first | decide | omega) (Nat.le_of_ble_eq_true rfl) ?_
      refine sp_M_isTime  ?_
      show PW _ _ _ 4 [some (.ref 70), some (.int a1), some (.int a2), none, none] [.int (b2i (0 ≤ a1 ∧ 0 ≤ a1 / 100 ∧ a1 / 100 ≤ 4))] (E x y)
      refine PW_if_eq c_M_slip_4 (fun h0 => absurd htm (b2i_0.mp h0)) (fun _ => ?_)
      refine PW_iload_n c_M_slip_7 rfl ?_
      refine PW_iconst (v := 0) c_M_slip_8 (by decide) ?_
      refine PW_iconst (v := 1) c_M_slip_9 (by decide) ?_
      refine PW_S0 (d2 := 0) (st := []) [.int a2, .int 0, .int 1] c_M_slip_10 lk_M_slip_131 rfl rfl rfl (Nat.le_of_ble_eq_true rfl) (by first | decide | omega) (Nat.le_of_ble_eq_true rfl) ?_
      refine sp_M_within  ?_
      show PW _ _ _ 13 [some (.ref 70), some (.int a1), some (.int a2), none, none] [.int (b2i ((0 : Int32) ≤ a2 ∧ a2 ≤ (1 : Int32)))] (E x y)
      refine PW_if_ne c_M_slip_13 (fun h1 => absurd (b2i_n0.mp h1) (fun q => absurd q.2 (Int32.not_le.mpr hc2))) (fun _ => ?_)
      refine PW_iconst (v := -1) c_M_slip_16 (by decide) ?_
      refine PW_ireturn (ty := .int) c_M_slip_17 rfl rfl ?_
      exact h
  by_cases hc3 : a2 = 0
  · refine ⟨ntcT y a (nI m), x, y, ?_, fun {z post} h => ?_, fun {z post} h => ?_⟩
    · exact INV_step hI
    · refine PW.deeper (k := (3, 0, 0, z)) (Nat.le_of_ble_eq_true rfl) (Nat.le_refl _) (Nat.le_refl _) ?_
      refine PW_iload_n c_G_slip_0 rfl ?_
      refine PW_S0 (d2 := 1) (st := []) [.int a1] c_G_slip_1 lk_G_slip_163 rfl rfl rfl (Nat.le_of_ble_eq_true rfl) (by first | decide | omega) (Nat.le_of_ble_eq_true rfl) ?_
      refine sp_G_isRoomMinute  ?_
      show PW _ _ _ 4 [some (.ref 5), some (.int a1), some (.int a2), none, none, none, none] [.int (b2i (0 ≤ a1 ∧ 0 ≤ a1 / 100 ∧ a1 / 100 ≤ 4))] (E x y)
      refine PW_if_eq c_G_slip_4 (fun h0 => absurd htm (b2i_0.mp h0)) (fun _ => ?_)
      refine PW_iload_n c_G_slip_7 rfl ?_
      refine PW_if_lt c_G_slip_8 (fun h1 => absurd h1 hc1) (fun h1 => ?_)
      refine PW_iload_n c_G_slip_11 rfl ?_
      refine PW_iconst (v := 1) c_G_slip_12 (by decide) ?_
      refine PW_icmp_le c_G_slip_13 (fun h2 => ?_) (fun h2 => absurd (Int32.not_lt.mp hc2) h2)
      refine PW_iload_n c_G_slip_18 rfl ?_
      refine PW_if_ne c_G_slip_19 (fun h3 => absurd h3 (not_not_intro hc3)) (fun h3 => ?_)
      refine PW_aload_n c_G_slip_22 rfl ?_
      refine PW_get (v := .ref 6) c_G_slip_23 fl_G_13 (gf_5_0 _ _) ?_
      refine PW_iload_n c_G_slip_26 rfl ?_
      refine PW_bipush (v := 100) c_G_slip_27 (by decide) ?_
      refine PW_idiv c_G_slip_29 (by decide) ?_
      refine PW_iload_n c_G_slip_30 rfl ?_
      refine PW_bipush (v := 100) c_G_slip_31 (by decide) ?_
      refine PW_irem c_G_slip_33 (by decide) ?_
      refine PW_V0 (d2 := 2) (st := []) [.int (a1 / 100), .int (a1 - a1 / 100 * 100)] c_G_slip_34 lk_G_slip_201 (po_6 _ _) rfl rfl rfl (Nat.le_of_ble_eq_true rfl) (by first | decide | omega) (Nat.le_of_ble_eq_true rfl) ?_
      refine sp_H_whoNotices hg ea ha em hm ?_
      show PW _ _ _ 37 [some (.ref 5), some (.int a1), some (.int a2), none, none, none, none] [.int (ntcT y a (nI m))] (E x y)
      refine PW_ireturn (ty := .int) c_G_slip_37 rfl rfl ?_
      exact h
    · refine PW.deeper (k := (3, 0, 0, z)) (Nat.le_of_ble_eq_true rfl) (Nat.le_refl _) (Nat.le_refl _) ?_
      refine PW_iload_n c_M_slip_0 rfl ?_
      refine PW_S0 (d2 := 2) (st := []) [.int a1] c_M_slip_1 lk_M_slip_283 rfl rfl rfl (Nat.le_of_ble_eq_true rfl) (by first | decide | omega) (Nat.le_of_ble_eq_true rfl) ?_
      refine sp_M_isTime  ?_
      show PW _ _ _ 4 [some (.ref 70), some (.int a1), some (.int a2), none, none] [.int (b2i (0 ≤ a1 ∧ 0 ≤ a1 / 100 ∧ a1 / 100 ≤ 4))] (E x y)
      refine PW_if_eq c_M_slip_4 (fun h0 => absurd htm (b2i_0.mp h0)) (fun _ => ?_)
      refine PW_iload_n c_M_slip_7 rfl ?_
      refine PW_iconst (v := 0) c_M_slip_8 (by decide) ?_
      refine PW_iconst (v := 1) c_M_slip_9 (by decide) ?_
      refine PW_S0 (d2 := 0) (st := []) [.int a2, .int 0, .int 1] c_M_slip_10 lk_M_slip_131 rfl rfl rfl (Nat.le_of_ble_eq_true rfl) (by first | decide | omega) (Nat.le_of_ble_eq_true rfl) ?_
      refine sp_M_within  ?_
      show PW _ _ _ 13 [some (.ref 70), some (.int a1), some (.int a2), none, none] [.int (b2i ((0 : Int32) ≤ a2 ∧ a2 ≤ (1 : Int32)))] (E x y)
      refine PW_if_ne c_M_slip_13 (fun _ => ?_) (fun h1 => absurd ⟨Int32.not_lt.mp hc1, Int32.not_lt.mp hc2⟩ (b2i_0.mp h1))
      refine PW_iload_n c_M_slip_18 rfl ?_
      refine PW_if_ne c_M_slip_19 (fun h2 => absurd h2 (not_not_intro hc3)) (fun h2 => ?_)
      refine PW_aload_n c_M_slip_22 rfl ?_
      refine PW_iload_n c_M_slip_23 rfl ?_
      refine PW_bipush (v := 100) c_M_slip_24 (by decide) ?_
      refine PW_idiv c_M_slip_26 (by decide) ?_
      refine PW_iload_n c_M_slip_27 rfl ?_
      refine PW_bipush (v := 100) c_M_slip_28 (by decide) ?_
      refine PW_irem c_M_slip_30 (by decide) ?_
      refine PW_V0 (d2 := 2) (st := []) [.int (a1 / 100), .int (a1 - a1 / 100 * 100)] c_M_slip_31 lk_M_slip_318 (po_70 _ _) rfl rfl rfl (Nat.le_of_ble_eq_true rfl) (by first | decide | omega) (Nat.le_of_ble_eq_true rfl) ?_
      refine sp_M_notices hg.W ea ha em ?_
      show PW _ _ _ 34 [some (.ref 70), some (.int a1), some (.int a2), none, none] [.int (ntcT y a (nI m))] (E x y)
      refine PW_ireturn (ty := .int) c_M_slip_34 rfl rfl ?_
      exact h
  refine ⟨nI (slB y a (99 - m) (m + 1) m), x, y, ?_, fun {z post} h => ?_, fun {z post} h => ?_⟩
  · exact INV_step hI
  · refine PW.deeper (k := (3, 0, 0, z)) (Nat.le_of_ble_eq_true rfl) (Nat.le_refl _) (Nat.le_refl _) ?_
    refine PW_iload_n c_G_slip_0 rfl ?_
    refine PW_S0 (d2 := 1) (st := []) [.int a1] c_G_slip_1 lk_G_slip_163 rfl rfl rfl (Nat.le_of_ble_eq_true rfl) (by first | decide | omega) (Nat.le_of_ble_eq_true rfl) ?_
    refine sp_G_isRoomMinute  ?_
    show PW _ _ _ 4 [some (.ref 5), some (.int a1), some (.int a2), none, none, none, none] [.int (b2i (0 ≤ a1 ∧ 0 ≤ a1 / 100 ∧ a1 / 100 ≤ 4))] (E x y)
    refine PW_if_eq c_G_slip_4 (fun h0 => absurd htm (b2i_0.mp h0)) (fun _ => ?_)
    refine PW_iload_n c_G_slip_7 rfl ?_
    refine PW_if_lt c_G_slip_8 (fun h1 => absurd h1 hc1) (fun h1 => ?_)
    refine PW_iload_n c_G_slip_11 rfl ?_
    refine PW_iconst (v := 1) c_G_slip_12 (by decide) ?_
    refine PW_icmp_le c_G_slip_13 (fun h2 => ?_) (fun h2 => absurd (Int32.not_lt.mp hc2) h2)
    refine PW_iload_n c_G_slip_18 rfl ?_
    refine PW_if_ne c_G_slip_19 (fun h3 => ?_) (fun h3 => absurd h3 hc3)
    refine PW_bipush (v := 11) c_G_slip_38 (by decide) ?_
    refine PW_istore_n (i := 3) (L2 := [some (.ref 5), some (.int a1), some (.int a2), some (.int 11), none, none, none]) c_G_slip_40 rfl (Nat.le_of_ble_eq_true rfl) rfl rfl ?_
    refine PW_iload_n c_G_slip_41 rfl ?_
    refine PW_bipush (v := 100) c_G_slip_42 (by decide) ?_
    refine PW_irem c_G_slip_44 (by decide) ?_
    refine PW_istore (i := 4) (L2 := [some (.ref 5), some (.int a1), some (.int a2), some (.int 11), some (.int (a1 - a1 / 100 * 100)), none, none]) c_G_slip_45 (Nat.le_of_ble_eq_true rfl) rfl rfl ?_
    refine PW_iload_n c_G_slip_47 rfl ?_
    refine PW_bipush (v := 100) c_G_slip_48 (by decide) ?_
    refine PW_irem c_G_slip_50 (by decide) ?_
    refine PW_istore (i := 5) (L2 := [some (.ref 5), some (.int a1), some (.int a2), some (.int 11), some (.int (a1 - a1 / 100 * 100)), some (.int (a1 - a1 / 100 * 100)), none]) c_G_slip_51 (Nat.le_of_ble_eq_true rfl) rfl rfl ?_
    exact lp_G_slip1 hg ea ha em hm h
  · refine PW.deeper (k := (3, 0, 0, z)) (Nat.le_of_ble_eq_true rfl) (Nat.le_refl _) (Nat.le_refl _) ?_
    refine PW_iload_n c_M_slip_0 rfl ?_
    refine PW_S0 (d2 := 2) (st := []) [.int a1] c_M_slip_1 lk_M_slip_283 rfl rfl rfl (Nat.le_of_ble_eq_true rfl) (by first | decide | omega) (Nat.le_of_ble_eq_true rfl) ?_
    refine sp_M_isTime  ?_
    show PW _ _ _ 4 [some (.ref 70), some (.int a1), some (.int a2), none, none] [.int (b2i (0 ≤ a1 ∧ 0 ≤ a1 / 100 ∧ a1 / 100 ≤ 4))] (E x y)
    refine PW_if_eq c_M_slip_4 (fun h0 => absurd htm (b2i_0.mp h0)) (fun _ => ?_)
    refine PW_iload_n c_M_slip_7 rfl ?_
    refine PW_iconst (v := 0) c_M_slip_8 (by decide) ?_
    refine PW_iconst (v := 1) c_M_slip_9 (by decide) ?_
    refine PW_S0 (d2 := 0) (st := []) [.int a2, .int 0, .int 1] c_M_slip_10 lk_M_slip_131 rfl rfl rfl (Nat.le_of_ble_eq_true rfl) (by first | decide | omega) (Nat.le_of_ble_eq_true rfl) ?_
    refine sp_M_within  ?_
    show PW _ _ _ 13 [some (.ref 70), some (.int a1), some (.int a2), none, none] [.int (b2i ((0 : Int32) ≤ a2 ∧ a2 ≤ (1 : Int32)))] (E x y)
    refine PW_if_ne c_M_slip_13 (fun _ => ?_) (fun h1 => absurd ⟨Int32.not_lt.mp hc1, Int32.not_lt.mp hc2⟩ (b2i_0.mp h1))
    refine PW_iload_n c_M_slip_18 rfl ?_
    refine PW_if_ne c_M_slip_19 (fun h2 => ?_) (fun h2 => absurd h2 hc3)
    refine PW_iload_n c_M_slip_35 rfl ?_
    refine PW_bipush (v := 100) c_M_slip_36 (by decide) ?_
    refine PW_irem c_M_slip_38 (by decide) ?_
    refine PW_istore_n (i := 3) (L2 := [some (.ref 70), some (.int a1), some (.int a2), some (.int (a1 - a1 / 100 * 100)), none]) c_M_slip_39 rfl (Nat.le_of_ble_eq_true rfl) rfl rfl ?_
    refine PW_iload_n c_M_slip_40 rfl ?_
    refine PW_bipush (v := 100) c_M_slip_41 (by decide) ?_
    refine PW_irem c_M_slip_43 (by decide) ?_
    refine PW_iconst (v := 1) c_M_slip_44 (by decide) ?_
    refine PW_iadd c_M_slip_45 ?_
    refine PW_istore (i := 4) (L2 := [some (.ref 70), some (.int a1), some (.int a2), some (.int (a1 - a1 / 100 * 100)), some (.int ((a1 - a1 / 100 * 100) + 1))]) c_M_slip_46 (Nat.le_of_ble_eq_true rfl) rfl rfl ?_
    refine PW.eqL ?_ rfl rfl (lp_M_slip (a2 := a2) hg.W ea ha (99 - m) (m + 1) m (by omega) hm h)
    show ([some (.ref 70), some (.int a1), some (.int a2), some (.int (a1 - a1 / 100 * 100)), some (.int ((a1 - a1 / 100 * 100) + 1))] : List (Option Value)) = _
    rw [em, nI_1]
