set_option maxHeartbeats 4000000 in
theorem op_guest {t : Nat} {x y : XS} {a1 : Int32} {a2 : Int32} (hI : INV t x y) (ht : t < 512) : ∃ (r : Int32) (x' y' : XS), INV (t + 1) x' y' ∧ (∀ {z : ZS} {post : Option Value → List PE → Prop}, post (some (.int r)) (E x' y) → PW (90, 0, 0, z) m_G_guest post 0 [some (.ref 5), some (.int a1), some (.int a2)] [] (E x y)) ∧ (∀ {z : ZS} {post : Option Value → List PE → Prop}, post (some (.int r)) (E x' y') → PW (90, 0, 0, z) m_M_guest post 0 [some (.ref 70), some (.int a1), some (.int a2)] [] (E x' y)) := by
  obtain ⟨hg, hc, ht0, hl, hd, hb, hs⟩ := id hI

  by_cases hc0 : a1 < 0
  · refine ⟨-1, x, y, ?_, fun {z post} h => ?_, fun {z post} h => ?_⟩
    · exact INV_step hI
    · refine PW.deeper (k := (5, 0, 0, z)) (Nat.le_of_ble_eq_true rfl) (Nat.le_refl _) (Nat.le_refl _) ?_
      refine PW_iload_n c_G_guest_0 rfl ?_
      refine PW_S0 (d2 := 1) (st := []) [.int a1] c_G_guest_1 lk_G_guest_90 rfl rfl rfl (Nat.le_of_ble_eq_true rfl) (by first | decide | omega) (Nat.le_of_ble_eq_true rfl) ?_
      show PW _ _ _ 0 [some (.int a1)] [] (E x y)
      refine PW_iload_n c_G_isRoomPair_0 rfl ?_
      refine PW_if_lt c_G_isRoomPair_1 (fun h0 => ?_) (fun h0 => absurd hc0 h0)
      refine PW_iconst (v := 0) c_G_isRoomPair_28 (by decide) ?_
      refine PW_ireturn (ty := .boolean) c_G_isRoomPair_29 rfl (by decide +kernel) ?_
      show PW _ _ _ 4 [some (.ref 5), some (.int a1), some (.int a2)] [.int 0] (E x y)
      refine PW_if_eq c_G_guest_4 (fun _ => ?_) (fun h1 => absurd (by decide) h1)
      refine PW_iconst (v := -1) c_G_guest_15 (by decide) ?_
      refine PW_ireturn (ty := .int) c_G_guest_16 rfl rfl ?_
      exact h
    · refine PW.deeper (k := (2, 0, 0, z)) (Nat.le_of_ble_eq_true rfl) (Nat.le_refl _) (Nat.le_refl _) ?_
      refine PW_iload_n c_M_guest_0 rfl ?_
      refine PW_if_lt c_M_guest_1 (fun h0 => ?_) (fun h0 => absurd hc0 h0)
      refine PW_iconst (v := -1) c_M_guest_34 (by decide) ?_
      refine PW_ireturn (ty := .int) c_M_guest_35 rfl rfl ?_
      exact h
  by_cases hc1 : ¬ (0 ≤ a1 / 10 ∧ a1 / 10 ≤ 4)
  · refine ⟨-1, x, y, ?_, fun {z post} h => ?_, fun {z post} h => ?_⟩
    · exact INV_step hI
    · refine PW.deeper (k := (5, 0, 0, z)) (Nat.le_of_ble_eq_true rfl) (Nat.le_refl _) (Nat.le_refl _) ?_
      refine PW_iload_n c_G_guest_0 rfl ?_
      refine PW_S0 (d2 := 1) (st := []) [.int a1] c_G_guest_1 lk_G_guest_90 rfl rfl rfl (Nat.le_of_ble_eq_true rfl) (by first | decide | omega) (Nat.le_of_ble_eq_true rfl) ?_
      show PW _ _ _ 0 [some (.int a1)] [] (E x y)
      refine PW_iload_n c_G_isRoomPair_0 rfl ?_
      refine PW_if_lt c_G_isRoomPair_1 (fun h0 => absurd h0 hc0) (fun h0 => ?_)
      refine PW_iload_n c_G_isRoomPair_4 rfl ?_
      refine PW_bipush (v := 10) c_G_isRoomPair_5 (by decide) ?_
      refine PW_idiv c_G_isRoomPair_7 (by decide) ?_
      refine PW_S0 (d2 := 0) (st := []) [.int (a1 / 10)] c_G_isRoomPair_8 lk_G_isRoomPair_121 rfl rfl rfl (Nat.le_of_ble_eq_true rfl) (by first | decide | omega) (Nat.le_of_ble_eq_true rfl) ?_
      refine sp_H_isRoom  ?_
      show PW _ _ _ 11 [some (.int a1)] [.int (b2i (0 ≤ (a1 / 10) ∧ (a1 / 10) ≤ 4))] (E x y)
      refine PW_if_eq c_G_isRoomPair_11 (fun _ => ?_) (fun h1 => absurd (b2i_n0.mp h1) hc1)
      refine PW_iconst (v := 0) c_G_isRoomPair_28 (by decide) ?_
      refine PW_ireturn (ty := .boolean) c_G_isRoomPair_29 rfl (by decide +kernel) ?_
      show PW _ _ _ 4 [some (.ref 5), some (.int a1), some (.int a2)] [.int 0] (E x y)
      refine PW_if_eq c_G_guest_4 (fun _ => ?_) (fun h2 => absurd (by decide) h2)
      refine PW_iconst (v := -1) c_G_guest_15 (by decide) ?_
      refine PW_ireturn (ty := .int) c_G_guest_16 rfl rfl ?_
      exact h
    · refine PW.deeper (k := (2, 0, 0, z)) (Nat.le_of_ble_eq_true rfl) (Nat.le_refl _) (Nat.le_refl _) ?_
      refine PW_iload_n c_M_guest_0 rfl ?_
      refine PW_if_lt c_M_guest_1 (fun h0 => absurd h0 hc0) (fun h0 => ?_)
      refine PW_iload_n c_M_guest_4 rfl ?_
      refine PW_bipush (v := 10) c_M_guest_5 (by decide) ?_
      refine PW_idiv c_M_guest_7 (by decide) ?_
      refine PW_S0 (d2 := 1) (st := []) [.int (a1 / 10)] c_M_guest_8 lk_M_guest_135 rfl rfl rfl (Nat.le_of_ble_eq_true rfl) (by first | decide | omega) (Nat.le_of_ble_eq_true rfl) ?_
      refine sp_M_isRoom  ?_
      show PW _ _ _ 11 [some (.ref 70), some (.int a1), some (.int a2)] [.int (b2i (0 ≤ (a1 / 10) ∧ (a1 / 10) ≤ 4))] (E x y)
      refine PW_if_eq c_M_guest_11 (fun _ => ?_) (fun h1 => absurd (b2i_n0.mp h1) hc1)
      refine PW_iconst (v := -1) c_M_guest_34 (by decide) ?_
      refine PW_ireturn (ty := .int) c_M_guest_35 rfl rfl ?_
      exact h
  replace hc1 := Decidable.not_not.mp hc1
  by_cases hc2 : ¬ (0 ≤ a1 - a1 / 10 * 10 ∧ a1 - a1 / 10 * 10 ≤ 4)
  · refine ⟨-1, x, y, ?_, fun {z post} h => ?_, fun {z post} h => ?_⟩
    · exact INV_step hI
    · refine PW.deeper (k := (5, 0, 0, z)) (Nat.le_of_ble_eq_true rfl) (Nat.le_refl _) (Nat.le_refl _) ?_
      refine PW_iload_n c_G_guest_0 rfl ?_
      refine PW_S0 (d2 := 1) (st := []) [.int a1] c_G_guest_1 lk_G_guest_90 rfl rfl rfl (Nat.le_of_ble_eq_true rfl) (by first | decide | omega) (Nat.le_of_ble_eq_true rfl) ?_
      show PW _ _ _ 0 [some (.int a1)] [] (E x y)
      refine PW_iload_n c_G_isRoomPair_0 rfl ?_
      refine PW_if_lt c_G_isRoomPair_1 (fun h0 => absurd h0 hc0) (fun h0 => ?_)
      refine PW_iload_n c_G_isRoomPair_4 rfl ?_
      refine PW_bipush (v := 10) c_G_isRoomPair_5 (by decide) ?_
      refine PW_idiv c_G_isRoomPair_7 (by decide) ?_
      refine PW_S0 (d2 := 0) (st := []) [.int (a1 / 10)] c_G_isRoomPair_8 lk_G_isRoomPair_121 rfl rfl rfl (Nat.le_of_ble_eq_true rfl) (by first | decide | omega) (Nat.le_of_ble_eq_true rfl) ?_
      refine sp_H_isRoom  ?_
      show PW _ _ _ 11 [some (.int a1)] [.int (b2i (0 ≤ (a1 / 10) ∧ (a1 / 10) ≤ 4))] (E x y)
      refine PW_if_eq c_G_isRoomPair_11 (fun h1 => absurd hc1 (b2i_0.mp h1)) (fun _ => ?_)
      refine PW_iload_n c_G_isRoomPair_14 rfl ?_
      refine PW_bipush (v := 10) c_G_isRoomPair_15 (by decide) ?_
      refine PW_irem c_G_isRoomPair_17 (by decide) ?_
      refine PW_S0 (d2 := 0) (st := []) [.int (a1 - a1 / 10 * 10)] c_G_isRoomPair_18 lk_G_isRoomPair_121 rfl rfl rfl (Nat.le_of_ble_eq_true rfl) (by first | decide | omega) (Nat.le_of_ble_eq_true rfl) ?_
      refine sp_H_isRoom  ?_
      show PW _ _ _ 21 [some (.int a1)] [.int (b2i (0 ≤ (a1 - a1 / 10 * 10) ∧ (a1 - a1 / 10 * 10) ≤ 4))] (E x y)
      refine PW_if_eq c_G_isRoomPair_21 (fun _ => ?_) (fun h2 => absurd (b2i_n0.mp h2) hc2)
      refine PW_iconst (v := 0) c_G_isRoomPair_28 (by decide) ?_
      refine PW_ireturn (ty := .boolean) c_G_isRoomPair_29 rfl (by decide +kernel) ?_
      show PW _ _ _ 4 [some (.ref 5), some (.int a1), some (.int a2)] [.int 0] (E x y)
      refine PW_if_eq c_G_guest_4 (fun _ => ?_) (fun h3 => absurd (by decide) h3)
      refine PW_iconst (v := -1) c_G_guest_15 (by decide) ?_
      refine PW_ireturn (ty := .int) c_G_guest_16 rfl rfl ?_
      exact h
    · refine PW.deeper (k := (2, 0, 0, z)) (Nat.le_of_ble_eq_true rfl) (Nat.le_refl _) (Nat.le_refl _) ?_
      refine PW_iload_n c_M_guest_0 rfl ?_
      refine PW_if_lt c_M_guest_1 (fun h0 => absurd h0 hc0) (fun h0 => ?_)
      refine PW_iload_n c_M_guest_4 rfl ?_
      refine PW_bipush (v := 10) c_M_guest_5 (by decide) ?_
      refine PW_idiv c_M_guest_7 (by decide) ?_
      refine PW_S0 (d2 := 1) (st := []) [.int (a1 / 10)] c_M_guest_8 lk_M_guest_135 rfl rfl rfl (Nat.le_of_ble_eq_true rfl) (by first | decide | omega) (Nat.le_of_ble_eq_true rfl) ?_
      refine sp_M_isRoom  ?_
      show PW _ _ _ 11 [some (.ref 70), some (.int a1), some (.int a2)] [.int (b2i (0 ≤ (a1 / 10) ∧ (a1 / 10) ≤ 4))] (E x y)
      refine PW_if_eq c_M_guest_11 (fun h1 => absurd hc1 (b2i_0.mp h1)) (fun _ => ?_)
      refine PW_iload_n c_M_guest_14 rfl ?_
      refine PW_bipush (v := 10) c_M_guest_15 (by decide) ?_
      refine PW_irem c_M_guest_17 (by decide) ?_
      refine PW_S0 (d2 := 1) (st := []) [.int (a1 - a1 / 10 * 10)] c_M_guest_18 lk_M_guest_135 rfl rfl rfl (Nat.le_of_ble_eq_true rfl) (by first | decide | omega) (Nat.le_of_ble_eq_true rfl) ?_
      refine sp_M_isRoom  ?_
      show PW _ _ _ 21 [some (.ref 70), some (.int a1), some (.int a2)] [.int (b2i (0 ≤ (a1 - a1 / 10 * 10) ∧ (a1 - a1 / 10 * 10) ≤ 4))] (E x y)
      refine PW_if_eq c_M_guest_21 (fun _ => ?_) (fun h2 => absurd (b2i_n0.mp h2) hc2)
      refine PW_iconst (v := -1) c_M_guest_34 (by decide) ?_
      refine PW_ireturn (ty := .int) c_M_guest_35 rfl rfl ?_
      exact h
  replace hc2 := Decidable.not_not.mp hc2
  by_cases hc3 : ¬ (0 ≤ a2 ∧ a2 ≤ 99)
  · have hf : ¬ fitP 2 a2 := by show ¬ ((0 : Int) ≤ a2.toInt ∧ a2.toInt ≤ 99); simp only [Int32.le_iff_toInt_le, tiA] at hc3; omega
    refine ⟨-1, x, y, ?_, fun {z post} h => ?_, fun {z post} h => ?_⟩
    · exact INV_step hI
    · refine PW.deeper (k := (5, 0, 0, z)) (Nat.le_of_ble_eq_true rfl) (Nat.le_refl _) (Nat.le_refl _) ?_
      refine PW_iload_n c_G_guest_0 rfl ?_
      refine PW_S0 (d2 := 1) (st := []) [.int a1] c_G_guest_1 lk_G_guest_90 rfl rfl rfl (Nat.le_of_ble_eq_true rfl) (by first | decide | omega) (Nat.le_of_ble_eq_true rfl) ?_
      show PW _ _ _ 0 [some (.int a1)] [] (E x y)
      refine PW_iload_n c_G_isRoomPair_0 rfl ?_
      refine PW_if_lt c_G_isRoomPair_1 (fun h0 => absurd h0 hc0) (fun h0 => ?_)
      refine PW_iload_n c_G_isRoomPair_4 rfl ?_
      refine PW_bipush (v := 10) c_G_isRoomPair_5 (by decide) ?_
      refine PW_idiv c_G_isRoomPair_7 (by decide) ?_
      refine PW_S0 (d2 := 0) (st := []) [.int (a1 / 10)] c_G_isRoomPair_8 lk_G_isRoomPair_121 rfl rfl rfl (Nat.le_of_ble_eq_true rfl) (by first | decide | omega) (Nat.le_of_ble_eq_true rfl) ?_
      refine sp_H_isRoom  ?_
      show PW _ _ _ 11 [some (.int a1)] [.int (b2i (0 ≤ (a1 / 10) ∧ (a1 / 10) ≤ 4))] (E x y)
      refine PW_if_eq c_G_isRoomPair_11 (fun h1 => absurd hc1 (b2i_0.mp h1)) (fun _ => ?_)
      refine PW_iload_n c_G_isRoomPair_14 rfl ?_
      refine PW_bipush (v := 10) c_G_isRoomPair_15 (by decide) ?_
      refine PW_irem c_G_isRoomPair_17 (by decide) ?_
      refine PW_S0 (d2 := 0) (st := []) [.int (a1 - a1 / 10 * 10)] c_G_isRoomPair_18 lk_G_isRoomPair_121 rfl rfl rfl (Nat.le_of_ble_eq_true rfl) (by first | decide | omega) (Nat.le_of_ble_eq_true rfl) ?_
      refine sp_H_isRoom  ?_
      show PW _ _ _ 21 [some (.int a1)] [.int (b2i (0 ≤ (a1 - a1 / 10 * 10) ∧ (a1 - a1 / 10 * 10) ≤ 4))] (E x y)
      refine PW_if_eq c_G_isRoomPair_21 (fun h2 => absurd hc2 (b2i_0.mp h2)) (fun _ => ?_)
      refine PW_iconst (v := 1) c_G_isRoomPair_24 (by decide) ?_
      refine PW_goto c_G_isRoomPair_25 ?_
      refine PW_ireturn (ty := .boolean) c_G_isRoomPair_29 rfl (by decide +kernel) ?_
      show PW _ _ _ 4 [some (.ref 5), some (.int a1), some (.int a2)] [.int 1] (E x y)
      refine PW_if_eq c_G_guest_4 (fun h3 => absurd h3 (by decide)) (fun _ => ?_)
      refine PW_iconst (v := 2) c_G_guest_7 (by decide) ?_
      refine PW_iload_n c_G_guest_8 rfl ?_
      refine PW_S0 (d2 := 0) (st := []) [.int 2, .int a2] c_G_guest_9 lk_G_guest_94 rfl rfl rfl (Nat.le_of_ble_eq_true rfl) (by first | decide | omega) (Nat.le_of_ble_eq_true rfl) ?_
      refine sp_H_fits8 (w := 2) (by decide) rfl ?_
      show PW _ _ _ 12 [some (.ref 5), some (.int a1), some (.int a2)] [.int (b2i (fitP 2 a2))] (E x y)
      refine PW_if_ne c_G_guest_12 (fun h4 => absurd (b2i_n0.mp h4) hf) (fun _ => ?_)
      refine PW_iconst (v := -1) c_G_guest_15 (by decide) ?_
      refine PW_ireturn (ty := .int) c_G_guest_16 rfl rfl ?_
      exact h
    · refine PW.deeper (k := (2, 0, 0, z)) (Nat.le_of_ble_eq_true rfl) (Nat.le_refl _) (Nat.le_refl _) ?_
      refine PW_iload_n c_M_guest_0 rfl ?_
      refine PW_if_lt c_M_guest_1 (fun h0 => absurd h0 hc0) (fun h0 => ?_)
      refine PW_iload_n c_M_guest_4 rfl ?_
      refine PW_bipush (v := 10) c_M_guest_5 (by decide) ?_
      refine PW_idiv c_M_guest_7 (by decide) ?_
      refine PW_S0 (d2 := 1) (st := []) [.int (a1 / 10)] c_M_guest_8 lk_M_guest_135 rfl rfl rfl (Nat.le_of_ble_eq_true rfl) (by first | decide | omega) (Nat.le_of_ble_eq_true rfl) ?_
      refine sp_M_isRoom  ?_
      show PW _ _ _ 11 [some (.ref 70), some (.int a1), some (.int a2)] [.int (b2i (0 ≤ (a1 / 10) ∧ (a1 / 10) ≤ 4))] (E x y)
      refine PW_if_eq c_M_guest_11 (fun h1 => absurd hc1 (b2i_0.mp h1)) (fun _ => ?_)
      refine PW_iload_n c_M_guest_14 rfl ?_
      refine PW_bipush (v := 10) c_M_guest_15 (by decide) ?_
      refine PW_irem c_M_guest_17 (by decide) ?_
      refine PW_S0 (d2 := 1) (st := []) [.int (a1 - a1 / 10 * 10)] c_M_guest_18 lk_M_guest_135 rfl rfl rfl (Nat.le_of_ble_eq_true rfl) (by first | decide | omega) (Nat.le_of_ble_eq_true rfl) ?_
      refine sp_M_isRoom  ?_
      show PW _ _ _ 21 [some (.ref 70), some (.int a1), some (.int a2)] [.int (b2i (0 ≤ (a1 - a1 / 10 * 10) ∧ (a1 - a1 / 10 * 10) ≤ 4))] (E x y)
      refine PW_if_eq c_M_guest_21 (fun h2 => absurd hc2 (b2i_0.mp h2)) (fun _ => ?_)
      refine PW_iload_n c_M_guest_24 rfl ?_
      refine PW_iconst (v := 0) c_M_guest_25 (by decide) ?_
      refine PW_bipush (v := 99) c_M_guest_26 (by decide) ?_
      refine PW_S0 (d2 := 0) (st := []) [.int a2, .int 0, .int 99] c_M_guest_28 lk_M_guest_131 rfl rfl rfl (Nat.le_of_ble_eq_true rfl) (by first | decide | omega) (Nat.le_of_ble_eq_true rfl) ?_
      refine sp_M_within  ?_
      show PW _ _ _ 31 [some (.ref 70), some (.int a1), some (.int a2)] [.int (b2i ((0 : Int32) ≤ a2 ∧ a2 ≤ (99 : Int32)))] (E x y)
      refine PW_if_ne c_M_guest_31 (fun h3 => absurd (b2i_n0.mp h3) hc3) (fun _ => ?_)
      refine PW_iconst (v := -1) c_M_guest_34 (by decide) ?_
      refine PW_ireturn (ty := .int) c_M_guest_35 rfl rfl ?_
      exact h
  replace hc3 := Decidable.not_not.mp hc3
  have hf : fitP 2 a2 := by show ((0 : Int) ≤ a2.toInt ∧ a2.toInt ≤ 99); simp only [Int32.le_iff_toInt_le, tiA] at hc3; omega
  by_cases hn : nG y = 10
  · refine ⟨-3, x, y, ?_, fun {z post} h => ?_, fun {z post} h => ?_⟩
    · exact INV_step hI
    · refine PW.deeper (k := (5, 0, 0, z)) (Nat.le_of_ble_eq_true rfl) (Nat.le_refl _) (Nat.le_refl _) ?_
      refine PW_iload_n c_G_guest_0 rfl ?_
      refine PW_S0 (d2 := 1) (st := []) [.int a1] c_G_guest_1 lk_G_guest_90 rfl rfl rfl (Nat.le_of_ble_eq_true rfl) (by first | decide | omega) (Nat.le_of_ble_eq_true rfl) ?_
      show PW _ _ _ 0 [some (.int a1)] [] (E x y)
      refine PW_iload_n c_G_isRoomPair_0 rfl ?_
      refine PW_if_lt c_G_isRoomPair_1 (fun h0 => absurd h0 hc0) (fun h0 => ?_)
      refine PW_iload_n c_G_isRoomPair_4 rfl ?_
      refine PW_bipush (v := 10) c_G_isRoomPair_5 (by decide) ?_
      refine PW_idiv c_G_isRoomPair_7 (by decide) ?_
      refine PW_S0 (d2 := 0) (st := []) [.int (a1 / 10)] c_G_isRoomPair_8 lk_G_isRoomPair_121 rfl rfl rfl (Nat.le_of_ble_eq_true rfl) (by first | decide | omega) (Nat.le_of_ble_eq_true rfl) ?_
      refine sp_H_isRoom  ?_
      show PW _ _ _ 11 [some (.int a1)] [.int (b2i (0 ≤ (a1 / 10) ∧ (a1 / 10) ≤ 4))] (E x y)
      refine PW_if_eq c_G_isRoomPair_11 (fun h1 => absurd hc1 (b2i_0.mp h1)) (fun _ => ?_)
      refine PW_iload_n c_G_isRoomPair_14 rfl ?_
      refine PW_bipush (v := 10) c_G_isRoomPair_15 (by decide) ?_
      refine PW_irem c_G_isRoomPair_17 (by decide) ?_
      refine PW_S0 (d2 := 0) (st := []) [.int (a1 - a1 / 10 * 10)] c_G_isRoomPair_18 lk_G_isRoomPair_121 rfl rfl rfl (Nat.le_of_ble_eq_true rfl) (by first | decide | omega) (Nat.le_of_ble_eq_true rfl) ?_
      refine sp_H_isRoom  ?_
      show PW _ _ _ 21 [some (.int a1)] [.int (b2i (0 ≤ (a1 - a1 / 10 * 10) ∧ (a1 - a1 / 10 * 10) ≤ 4))] (E x y)
      refine PW_if_eq c_G_isRoomPair_21 (fun h2 => absurd hc2 (b2i_0.mp h2)) (fun _ => ?_)
      refine PW_iconst (v := 1) c_G_isRoomPair_24 (by decide) ?_
      refine PW_goto c_G_isRoomPair_25 ?_
      refine PW_ireturn (ty := .boolean) c_G_isRoomPair_29 rfl (by decide +kernel) ?_
      show PW _ _ _ 4 [some (.ref 5), some (.int a1), some (.int a2)] [.int 1] (E x y)
      refine PW_if_eq c_G_guest_4 (fun h3 => absurd h3 (by decide)) (fun _ => ?_)
      refine PW_iconst (v := 2) c_G_guest_7 (by decide) ?_
      refine PW_iload_n c_G_guest_8 rfl ?_
      refine PW_S0 (d2 := 0) (st := []) [.int 2, .int a2] c_G_guest_9 lk_G_guest_94 rfl rfl rfl (Nat.le_of_ble_eq_true rfl) (by first | decide | omega) (Nat.le_of_ble_eq_true rfl) ?_
      refine sp_H_fits8 (w := 2) (by decide) rfl ?_
      show PW _ _ _ 12 [some (.ref 5), some (.int a1), some (.int a2)] [.int (b2i (fitP 2 a2))] (E x y)
      refine PW_if_ne c_G_guest_12 (fun _ => ?_) (fun h4 => absurd hf (b2i_0.mp h4))
      refine PW_aload_n c_G_guest_17 rfl ?_
      refine PW_get (v := .ref 6) c_G_guest_18 fl_G_13 (gf_5_0 _ _) ?_
      refine PW_iload_n c_G_guest_21 rfl ?_
      refine PW_bipush (v := 10) c_G_guest_22 (by decide) ?_
      refine PW_idiv c_G_guest_24 (by decide) ?_
      refine PW_iload_n c_G_guest_25 rfl ?_
      refine PW_bipush (v := 10) c_G_guest_26 (by decide) ?_
      refine PW_irem c_G_guest_28 (by decide) ?_
      refine PW_iload_n c_G_guest_29 rfl ?_
      refine PW_iconst (v := 2) c_G_guest_30 (by decide) ?_
      refine PW_V0 (d2 := 4) (st := []) [.int (a1 / 10), .int (a1 - a1 / 10 * 10), .int a2, .int 2] c_G_guest_31 lk_G_guest_98 (po_6 _ _) rfl rfl rfl (Nat.le_of_ble_eq_true rfl) (by first | decide | omega) (Nat.le_of_ble_eq_true rfl) ?_
      refine sp_welcome_full (by rw [hg.x51, hg.1.1, hn]) ?_
      show PW _ _ _ 34 [some (.ref 5), some (.int a1), some (.int a2)] [.int (-3)] (E x y)
      refine PW_ireturn (ty := .int) c_G_guest_34 rfl rfl ?_
      exact h
    · refine PW.deeper (k := (2, 0, 0, z)) (Nat.le_of_ble_eq_true rfl) (Nat.le_refl _) (Nat.le_refl _) ?_
      refine PW_iload_n c_M_guest_0 rfl ?_
      refine PW_if_lt c_M_guest_1 (fun h0 => absurd h0 hc0) (fun h0 => ?_)
      refine PW_iload_n c_M_guest_4 rfl ?_
      refine PW_bipush (v := 10) c_M_guest_5 (by decide) ?_
      refine PW_idiv c_M_guest_7 (by decide) ?_
      refine PW_S0 (d2 := 1) (st := []) [.int (a1 / 10)] c_M_guest_8 lk_M_guest_135 rfl rfl rfl (Nat.le_of_ble_eq_true rfl) (by first | decide | omega) (Nat.le_of_ble_eq_true rfl) ?_
      refine sp_M_isRoom  ?_
      show PW _ _ _ 11 [some (.ref 70), some (.int a1), some (.int a2)] [.int (b2i (0 ≤ (a1 / 10) ∧ (a1 / 10) ≤ 4))] (E x y)
      refine PW_if_eq c_M_guest_11 (fun h1 => absurd hc1 (b2i_0.mp h1)) (fun _ => ?_)
      refine PW_iload_n c_M_guest_14 rfl ?_
      refine PW_bipush (v := 10) c_M_guest_15 (by decide) ?_
      refine PW_irem c_M_guest_17 (by decide) ?_
      refine PW_S0 (d2 := 1) (st := []) [.int (a1 - a1 / 10 * 10)] c_M_guest_18 lk_M_guest_135 rfl rfl rfl (Nat.le_of_ble_eq_true rfl) (by first | decide | omega) (Nat.le_of_ble_eq_true rfl) ?_
      refine sp_M_isRoom  ?_
      show PW _ _ _ 21 [some (.ref 70), some (.int a1), some (.int a2)] [.int (b2i (0 ≤ (a1 - a1 / 10 * 10) ∧ (a1 - a1 / 10 * 10) ≤ 4))] (E x y)
      refine PW_if_eq c_M_guest_21 (fun h2 => absurd hc2 (b2i_0.mp h2)) (fun _ => ?_)
      refine PW_iload_n c_M_guest_24 rfl ?_
      refine PW_iconst (v := 0) c_M_guest_25 (by decide) ?_
      refine PW_bipush (v := 99) c_M_guest_26 (by decide) ?_
      refine PW_S0 (d2 := 0) (st := []) [.int a2, .int 0, .int 99] c_M_guest_28 lk_M_guest_131 rfl rfl rfl (Nat.le_of_ble_eq_true rfl) (by first | decide | omega) (Nat.le_of_ble_eq_true rfl) ?_
      refine sp_M_within  ?_
      show PW _ _ _ 31 [some (.ref 70), some (.int a1), some (.int a2)] [.int (b2i ((0 : Int32) ≤ a2 ∧ a2 ≤ (99 : Int32)))] (E x y)
      refine PW_if_ne c_M_guest_31 (fun _ => ?_) (fun h3 => absurd hc3 (b2i_0.mp h3))
      refine PW_aload_n c_M_guest_36 rfl ?_
      refine PW_get (v := .int (y.1 561)) c_M_guest_37 fl_M_128 (gf_70_1 _ _) ?_
      refine PW_bipush (v := 10) c_M_guest_40 (by decide) ?_
      refine PW_icmp_ne c_M_guest_42 (fun h4 => absurd h4 (not_not_intro (by rw [hg.1.1, hn]; rfl))) (fun h4 => ?_)
      refine PW_bipush (v := -3) c_M_guest_45 (by decide) ?_
      refine PW_goto c_M_guest_47 ?_
      refine PW_ireturn (ty := .int) c_M_guest_64 rfl rfl ?_
      exact h
  have hn9 : nG y < 10 := by have := hg.1.2; omega
  refine ⟨nI (nG y), wcX x (nG y) (a1 / 10) (a1 - a1 / 10 * 10) a2 2, agY y (nG y) (a1 / 10) (a1 - a1 / 10 * 10) a2 2, ?_, fun {z post} h => ?_, fun {z post} h => ?_⟩
  · obtain ⟨e1, e2⟩ := CPg_new hg hn9 (by show (0 : Int) ≤ (a1 / 10).toInt ∧ (a1 / 10).toInt ≤ 4; simp only [Int32.le_iff_toInt_le, tiA] at hc1; omega) (by show (0 : Int) ≤ (a1 - a1 / 10 * 10).toInt ∧ (a1 - a1 / 10 * 10).toInt ≤ 4; simp only [Int32.le_iff_toInt_le, tiA] at hc2; omega) hf (by decide : (0 : Int) ≤ (2 : Int32).toInt ∧ (2 : Int32).toInt ≤ 9)
    exact INV_step (INV_fr hI e2 frX_wc frY_ag (by omega))
  · refine PW.deeper (k := (5, 0, 0, z)) (Nat.le_of_ble_eq_true rfl) (Nat.le_refl _) (Nat.le_refl _) ?_
    refine PW_iload_n c_G_guest_0 rfl ?_
    refine PW_S0 (d2 := 1) (st := []) [.int a1] c_G_guest_1 lk_G_guest_90 rfl rfl rfl (Nat.le_of_ble_eq_true rfl) (by first | decide | omega) (Nat.le_of_ble_eq_true rfl) ?_
    show PW _ _ _ 0 [some (.int a1)] [] (E x y)
    refine PW_iload_n c_G_isRoomPair_0 rfl ?_
    refine PW_if_lt c_G_isRoomPair_1 (fun h0 => absurd h0 hc0) (fun h0 => ?_)
    refine PW_iload_n c_G_isRoomPair_4 rfl ?_
    refine PW_bipush (v := 10) c_G_isRoomPair_5 (by decide) ?_
    refine PW_idiv c_G_isRoomPair_7 (by decide) ?_
    refine PW_S0 (d2 := 0) (st := []) [.int (a1 / 10)] c_G_isRoomPair_8 lk_G_isRoomPair_121 rfl rfl rfl (Nat.le_of_ble_eq_true rfl) (by first | decide | omega) (Nat.le_of_ble_eq_true rfl) ?_
    refine sp_H_isRoom  ?_
    show PW _ _ _ 11 [some (.int a1)] [.int (b2i (0 ≤ (a1 / 10) ∧ (a1 / 10) ≤ 4))] (E x y)
    refine PW_if_eq c_G_isRoomPair_11 (fun h1 => absurd hc1 (b2i_0.mp h1)) (fun _ => ?_)
    refine PW_iload_n c_G_isRoomPair_14 rfl ?_
    refine PW_bipush (v := 10) c_G_isRoomPair_15 (by decide) ?_
    refine PW_irem c_G_isRoomPair_17 (by decide) ?_
    refine PW_S0 (d2 := 0) (st := []) [.int (a1 - a1 / 10 * 10)] c_G_isRoomPair_18 lk_G_isRoomPair_121 rfl rfl rfl (Nat.le_of_ble_eq_true rfl) (by first | decide | omega) (Nat.le_of_ble_eq_true rfl) ?_
    refine sp_H_isRoom  ?_
    show PW _ _ _ 21 [some (.int a1)] [.int (b2i (0 ≤ (a1 - a1 / 10 * 10) ∧ (a1 - a1 / 10 * 10) ≤ 4))] (E x y)
    refine PW_if_eq c_G_isRoomPair_21 (fun h2 => absurd hc2 (b2i_0.mp h2)) (fun _ => ?_)
    refine PW_iconst (v := 1) c_G_isRoomPair_24 (by decide) ?_
    refine PW_goto c_G_isRoomPair_25 ?_
    refine PW_ireturn (ty := .boolean) c_G_isRoomPair_29 rfl (by decide +kernel) ?_
    show PW _ _ _ 4 [some (.ref 5), some (.int a1), some (.int a2)] [.int 1] (E x y)
    refine PW_if_eq c_G_guest_4 (fun h3 => absurd h3 (by decide)) (fun _ => ?_)
    refine PW_iconst (v := 2) c_G_guest_7 (by decide) ?_
    refine PW_iload_n c_G_guest_8 rfl ?_
    refine PW_S0 (d2 := 0) (st := []) [.int 2, .int a2] c_G_guest_9 lk_G_guest_94 rfl rfl rfl (Nat.le_of_ble_eq_true rfl) (by first | decide | omega) (Nat.le_of_ble_eq_true rfl) ?_
    refine sp_H_fits8 (w := 2) (by decide) rfl ?_
    show PW _ _ _ 12 [some (.ref 5), some (.int a1), some (.int a2)] [.int (b2i (fitP 2 a2))] (E x y)
    refine PW_if_ne c_G_guest_12 (fun _ => ?_) (fun h4 => absurd hf (b2i_0.mp h4))
    refine PW_aload_n c_G_guest_17 rfl ?_
    refine PW_get (v := .ref 6) c_G_guest_18 fl_G_13 (gf_5_0 _ _) ?_
    refine PW_iload_n c_G_guest_21 rfl ?_
    refine PW_bipush (v := 10) c_G_guest_22 (by decide) ?_
    refine PW_idiv c_G_guest_24 (by decide) ?_
    refine PW_iload_n c_G_guest_25 rfl ?_
    refine PW_bipush (v := 10) c_G_guest_26 (by decide) ?_
    refine PW_irem c_G_guest_28 (by decide) ?_
    refine PW_iload_n c_G_guest_29 rfl ?_
    refine PW_iconst (v := 2) c_G_guest_30 (by decide) ?_
    refine PW_V0 (d2 := 4) (st := []) [.int (a1 / 10), .int (a1 - a1 / 10 * 10), .int a2, .int 2] c_G_guest_31 lk_G_guest_98 (po_6 _ _) rfl rfl rfl (Nat.le_of_ble_eq_true rfl) (by first | decide | omega) (Nat.le_of_ble_eq_true rfl) ?_
    refine sp_welcome (hg.x51.trans hg.1.1) (by omega) ?_
    show PW _ _ _ 34 [some (.ref 5), some (.int a1), some (.int a2)] [.int (nI (nG y))] (E (wcX x (nG y) (a1 / 10) (a1 - a1 / 10 * 10) a2 2) y)
    refine PW_ireturn (ty := .int) c_G_guest_34 rfl rfl ?_
    exact h
  · refine PW.deeper (k := (2, 0, 0, z)) (Nat.le_of_ble_eq_true rfl) (Nat.le_refl _) (Nat.le_refl _) ?_
    refine PW_iload_n c_M_guest_0 rfl ?_
    refine PW_if_lt c_M_guest_1 (fun h0 => absurd h0 hc0) (fun h0 => ?_)
    refine PW_iload_n c_M_guest_4 rfl ?_
    refine PW_bipush (v := 10) c_M_guest_5 (by decide) ?_
    refine PW_idiv c_M_guest_7 (by decide) ?_
    refine PW_S0 (d2 := 1) (st := []) [.int (a1 / 10)] c_M_guest_8 lk_M_guest_135 rfl rfl rfl (Nat.le_of_ble_eq_true rfl) (by first | decide | omega) (Nat.le_of_ble_eq_true rfl) ?_
    refine sp_M_isRoom  ?_
    show PW _ _ _ 11 [some (.ref 70), some (.int a1), some (.int a2)] [.int (b2i (0 ≤ (a1 / 10) ∧ (a1 / 10) ≤ 4))] (E (wcX x (nG y) (a1 / 10) (a1 - a1 / 10 * 10) a2 2) y)
    refine PW_if_eq c_M_guest_11 (fun h1 => absurd hc1 (b2i_0.mp h1)) (fun _ => ?_)
    refine PW_iload_n c_M_guest_14 rfl ?_
    refine PW_bipush (v := 10) c_M_guest_15 (by decide) ?_
    refine PW_irem c_M_guest_17 (by decide) ?_
    refine PW_S0 (d2 := 1) (st := []) [.int (a1 - a1 / 10 * 10)] c_M_guest_18 lk_M_guest_135 rfl rfl rfl (Nat.le_of_ble_eq_true rfl) (by first | decide | omega) (Nat.le_of_ble_eq_true rfl) ?_
    refine sp_M_isRoom  ?_
    show PW _ _ _ 21 [some (.ref 70), some (.int a1), some (.int a2)] [.int (b2i (0 ≤ (a1 - a1 / 10 * 10) ∧ (a1 - a1 / 10 * 10) ≤ 4))] (E (wcX x (nG y) (a1 / 10) (a1 - a1 / 10 * 10) a2 2) y)
    refine PW_if_eq c_M_guest_21 (fun h2 => absurd hc2 (b2i_0.mp h2)) (fun _ => ?_)
    refine PW_iload_n c_M_guest_24 rfl ?_
    refine PW_iconst (v := 0) c_M_guest_25 (by decide) ?_
    refine PW_bipush (v := 99) c_M_guest_26 (by decide) ?_
    refine PW_S0 (d2 := 0) (st := []) [.int a2, .int 0, .int 99] c_M_guest_28 lk_M_guest_131 rfl rfl rfl (Nat.le_of_ble_eq_true rfl) (by first | decide | omega) (Nat.le_of_ble_eq_true rfl) ?_
    refine sp_M_within  ?_
    show PW _ _ _ 31 [some (.ref 70), some (.int a1), some (.int a2)] [.int (b2i ((0 : Int32) ≤ a2 ∧ a2 ≤ (99 : Int32)))] (E (wcX x (nG y) (a1 / 10) (a1 - a1 / 10 * 10) a2 2) y)
    refine PW_if_ne c_M_guest_31 (fun _ => ?_) (fun h3 => absurd hc3 (b2i_0.mp h3))
    refine PW_aload_n c_M_guest_36 rfl ?_
    refine PW_get (v := .int (y.1 561)) c_M_guest_37 fl_M_128 (gf_70_1 _ _) ?_
    refine PW_bipush (v := 10) c_M_guest_40 (by decide) ?_
    refine PW_icmp_ne c_M_guest_42 (fun h4 => ?_) (fun h4 => absurd h4 (by rw [hg.1.1]; exact fun q => hn ((nI_eq (by omega) (by decide)).mp (show nI (nG y) = nI 10 from q))))
    refine PW_aload_n c_M_guest_50 rfl ?_
    refine PW_iload_n c_M_guest_51 rfl ?_
    refine PW_bipush (v := 10) c_M_guest_52 (by decide) ?_
    refine PW_idiv c_M_guest_54 (by decide) ?_
    refine PW_iload_n c_M_guest_55 rfl ?_
    refine PW_bipush (v := 10) c_M_guest_56 (by decide) ?_
    refine PW_irem c_M_guest_58 (by decide) ?_
    refine PW_iload_n c_M_guest_59 rfl ?_
    refine PW_iconst (v := 2) c_M_guest_60 (by decide) ?_
    refine PW_V0 (d2 := 0) (st := []) [.int (a1 / 10), .int (a1 - a1 / 10 * 10), .int a2, .int 2] c_M_guest_61 lk_M_guest_139 (po_70 _ _) rfl rfl rfl (Nat.le_of_ble_eq_true rfl) (by first | decide | omega) (Nat.le_of_ble_eq_true rfl) ?_
    refine sp_M_addGuest hg.1.1 (by omega) ?_
    show PW _ _ _ 64 [some (.ref 70), some (.int a1), some (.int a2)] [.int (nI (nG y))] (E (wcX x (nG y) (a1 / 10) (a1 - a1 / 10 * 10) a2 2) (agY y (nG y) (a1 / 10) (a1 - a1 / 10 * 10) a2 2))
    refine PW_ireturn (ty := .int) c_M_guest_64 rfl rfl ?_
    exact h
