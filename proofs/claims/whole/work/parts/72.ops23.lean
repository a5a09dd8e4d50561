set_option maxHeartbeats 4000000 in
theorem op_soonest {t : Nat} {x y : XS} {a1 : Int32} {a2 : Int32} (hI : INV t x y) (ht : t < 512) : ∃ (r : Int32) (x' y' : XS), INV (t + 1) x' y' ∧ (∀ {z : ZS} {post : Option Value → List PE → Prop}, post (some (.int r)) (E x' y) → PW (90, 0, 0, z) m_G_soonest post 0 [some (.ref 5), some (.int a1), some (.int a2)] [] (E x y)) ∧ (∀ {z : ZS} {post : Option Value → List PE → Prop}, post (some (.int r)) (E x' y') → PW (90, 0, 0, z) m_M_soonest post 0 [some (.ref 70), some (.int a1), some (.int a2), none] [] (E x' y)) := by
  obtain ⟨hg, hc, ht0, hl, hd, hb, hs⟩ := id hI
  obtain ⟨T, hT⟩ := lawIs_of hl

  by_cases hc0 : ¬ (0 ≤ a1 ∧ 0 ≤ a1 / 100 ∧ a1 / 100 ≤ 4)
  · refine ⟨-1, x, y, ?_, fun {z post} h => ?_, fun {z post} h => ?_⟩
    · exact INV_step hI
    · refine PW.deeper (k := (18, 0, 0, z)) (Nat.le_of_ble_eq_true rfl) (Nat.le_refl _) (Nat.le_refl _) ?_
      refine PW_iload_n c_G_soonest_0 rfl ?_
      refine PW_S0 (d2 := 1) (st := []) [.int a1] c_G_soonest_1 lk_G_soonest_163 rfl rfl rfl (Nat.le_of_ble_eq_true rfl) (by first | decide | omega) (Nat.le_of_ble_eq_true rfl) ?_
      refine sp_G_isRoomMinute  ?_
      show PW _ _ _ 4 [some (.ref 5), some (.int a1), some (.int a2)] [.int (b2i (0 ≤ a1 ∧ 0 ≤ a1 / 100 ∧ a1 / 100 ≤ 4))] (E x y)
      refine PW_if_eq c_G_soonest_4 (fun _ => ?_) (fun h0 => absurd (b2i_n0.mp h0) hc0)
      refine PW_iconst (v := -1) c_G_soonest_12 (by decide) ?_
      refine PW_ireturn (ty := .int) c_G_soonest_13 rfl rfl ?_
      exact h
    · refine PW.deeper (k := (13, 0, 0, z)) (Nat.le_of_ble_eq_true rfl) (Nat.le_refl _) (Nat.le_refl _) ?_
      refine PW_iload_n c_M_soonest_0 rfl ?_
      refine PW_S0 (d2 := 2) (st := []) [.int a1] c_M_soonest_1 lk_M_soonest_283 rfl rfl rfl (Nat.le_of_ble_eq_true rfl) (by first | decide | omega) (Nat.le_of_ble_eq_true rfl) ?_
      refine sp_M_isTime  ?_
      show PW _ _ _ 4 [some (.ref 70), some (.int a1), some (.int a2), none] [.int (b2i (0 ≤ a1 ∧ 0 ≤ a1 / 100 ∧ a1 / 100 ≤ 4))] (E x y)
      refine PW_if_eq c_M_soonest_4 (fun _ => ?_) (fun h0 => absurd (b2i_n0.mp h0) hc0)
      refine PW_iconst (v := -1) c_M_soonest_12 (by decide) ?_
      refine PW_ireturn (ty := .int) c_M_soonest_13 rfl rfl ?_
      exact h
  obtain ⟨a, m, ha, hm, -, ea, em⟩ := tm_ex (Decidable.not_not.mp hc0)
  have htm := Decidable.not_not.mp hc0
  by_cases hc1 : a2 < -1
  · refine ⟨-1, x, y, ?_, fun {z post} h => ?_, fun {z post} h => ?_⟩
    · exact INV_step hI
    · refine PW.deeper (k := (18, 0, 0, z)) (Nat.le_of_ble_eq_true rfl) (Nat.le_refl _) (Nat.le_refl _) ?_
      refine PW_iload_n c_G_soonest_0 rfl ?_
      refine PW_S0 (d2 := 1) (st := []) [.int a1] c_G_soonest_1 lk_G_soonest_163 rfl rfl rfl (Nat.le_of_ble_eq_true rfl) (by first | decide | omega) (Nat.le_of_ble_eq_true rfl) ?_
      refine sp_G_isRoomMinute  ?_
      show PW _ _ _ 4 [some (.ref 5), some (.int a1), some (.int a2)] [.int (b2i (0 ≤ a1 ∧ 0 ≤ a1 / 100 ∧ a1 / 100 ≤ 4))] (E x y)
      refine PW_if_eq c_G_soonest_4 (fun h0 => absurd htm (b2i_0.mp h0)) (fun _ => ?_)
      refine PW_iload_n c_G_soonest_7 rfl ?_
      refine PW_iconst (v := -1) c_G_soonest_8 (by decide) ?_
      refine PW_icmp_ge c_G_soonest_9 (fun h1 => absurd h1 (Int32.not_le.mpr hc1)) (fun h1 => ?_)
      refine PW_iconst (v := -1) c_G_soonest_12 (by decide) ?_
      refine PW_ireturn (ty := .int) c_G_soonest_13 rfl rfl ?_
      exact h
    · refine PW.deeper (k := (13, 0, 0, z)) (Nat.le_of_ble_eq_true rfl) (Nat.le_refl _) (Nat.le_refl _) ?_
      refine PW_iload_n c_M_soonest_0 rfl ?_
      refine PW_S0 (d2 := 2) (st := []) [.int a1] c_M_soonest_1 lk_M_soonest_283 rfl rfl rfl (Nat.le_of_ble_eq_true rfl) (by first | decide | omega) (Nat.le_of_ble_eq_true rfl) ?_
      refine sp_M_isTime  ?_
      show PW _ _ _ 4 [some (.ref 70), some (.int a1), some (.int a2), none] [.int (b2i (0 ≤ a1 ∧ 0 ≤ a1 / 100 ∧ a1 / 100 ≤ 4))] (E x y)
      refine PW_if_eq c_M_soonest_4 (fun h0 => absurd htm (b2i_0.mp h0)) (fun _ => ?_)
      refine PW_iload_n c_M_soonest_7 rfl ?_
      refine PW_iconst (v := -1) c_M_soonest_8 (by decide) ?_
      refine PW_icmp_ge c_M_soonest_9 (fun h1 => absurd h1 (Int32.not_le.mpr hc1)) (fun h1 => ?_)
      refine PW_iconst (v := -1) c_M_soonest_12 (by decide) ?_
      refine PW_ireturn (ty := .int) c_M_soonest_13 rfl rfl ?_
      exact h
  have hmb : 0 ≤ (nI m).toInt ∧ (nI m).toInt ≤ 1000 := by rw [nI_toInt (by omega)]; omega
  obtain ⟨XX, hXX, bX, HF⟩ := sp_S_find (T := T) (v := 1000000) hg hT (xS_0 x) ha (m := nI m) hmb
  obtain ⟨YY, hYY, bY, HM⟩ := sp_M_soonestFrom (x := XX) (T := T) hg hT (yS_0 y) ha (m := nI m) hmb
  have hcb := cL_b (T := T) (m := nI m) hg ha hmb
  obtain ⟨e1, e2, e3⟩ := fold_like (cL T y 6 0 (a, nI m, 0) (fun _ => 0)) (1000000, 7, x.2.1 34) (1000000, 7, y.2.1 92) rfl rfl
  have fm := (fold_mem (cL T y 6 0 (a, nI m, 0) (fun _ => 0)) (1000000, 7, y.2.1 92)).1
  have key : (((cL T y 6 0 (a, nI m, 0) (fun _ => 0)).foldl btr (1000000, 7, y.2.1 92)).2.1 = 7 ∧ ((cL T y 6 0 (a, nI m, 0) (fun _ => 0)).foldl btr (1000000, 7, y.2.1 92)).1 = 1000000) ∨ (((cL T y 6 0 (a, nI m, 0) (fun _ => 0)).foldl btr (1000000, 7, y.2.1 92)).2.1 ≤ 6 ∧ ((cL T y 6 0 (a, nI m, 0) (fun _ => 0)).foldl btr (1000000, 7, x.2.1 34)) = ((cL T y 6 0 (a, nI m, 0) (fun _ => 0)).foldl btr (1000000, 7, y.2.1 92)) ∧ 0 ≤ ((cL T y 6 0 (a, nI m, 0) (fun _ => 0)).foldl btr (1000000, 7, y.2.1 92)).1.toInt ∧ ((cL T y 6 0 (a, nI m, 0) (fun _ => 0)).foldl btr (1000000, 7, y.2.1 92)).1.toInt < 900000) := by
    rcases fm with q | ⟨q, q2⟩
    · left; rw [q]; exact ⟨rfl, rfl⟩
    · right
      obtain ⟨z1, z2, z3, z4⟩ := hcb _ q
      refine ⟨z4, ?_, z2, z3⟩
      rcases e3 with e3 | ⟨e3, e4⟩
      · exact e3
      · rw [e4] at z4; exact absurd (show (7 : Nat) ≤ 6 from z4) (by decide)
  generalize (cL T y 6 0 (a, nI m, 0) (fun _ => 0)).foldl btr (1000000, 7, x.2.1 34) = RX at bX HF e1 e2 e3 key
  generalize (cL T y 6 0 (a, nI m, 0) (fun _ => 0)).foldl btr (1000000, 7, y.2.1 92) = RY at bY HM e1 e2 e3 fm key
  rcases key with ⟨k1, k3⟩ | ⟨k1, k2, k3, k4⟩
  · rw [if_pos k3] at HM
    refine ⟨-2, XX, YY, ?_, fun {z post} h => ?_, fun {z post} h => ?_⟩
    · exact INV_step (INV_S hI hXX hYY)
    · refine PW.deeper (k := (18, 0, 0, z)) (Nat.le_of_ble_eq_true rfl) (Nat.le_refl _) (Nat.le_refl _) ?_
      refine PW_iload_n c_G_soonest_0 rfl ?_
      refine PW_S0 (d2 := 1) (st := []) [.int a1] c_G_soonest_1 lk_G_soonest_163 rfl rfl rfl (Nat.le_of_ble_eq_true rfl) (by first | decide | omega) (Nat.le_of_ble_eq_true rfl) ?_
      refine sp_G_isRoomMinute  ?_
      show PW _ _ _ 4 [some (.ref 5), some (.int a1), some (.int a2)] [.int (b2i (0 ≤ a1 ∧ 0 ≤ a1 / 100 ∧ a1 / 100 ≤ 4))] (E x y)
      refine PW_if_eq c_G_soonest_4 (fun h0 => absurd htm (b2i_0.mp h0)) (fun _ => ?_)
      refine PW_iload_n c_G_soonest_7 rfl ?_
      refine PW_iconst (v := -1) c_G_soonest_8 (by decide) ?_
      refine PW_icmp_ge c_G_soonest_9 (fun h1 => ?_) (fun h1 => absurd (Int32.not_lt.mp hc1) h1)
      refine PW_aload_n c_G_soonest_14 rfl ?_
      refine PW_get (v := .ref 32) c_G_soonest_15 fl_G_42 (gf_5_4 _ _) ?_
      refine PW_iload_n c_G_soonest_18 rfl ?_
      refine PW_bipush (v := 100) c_G_soonest_19 (by decide) ?_
      refine PW_idiv c_G_soonest_21 (by decide) ?_
      refine PW_iload_n c_G_soonest_22 rfl ?_
      refine PW_bipush (v := 100) c_G_soonest_23 (by decide) ?_
      refine PW_irem c_G_soonest_25 (by decide) ?_
      refine PW_ldc c_G_soonest_26 kk_G_192 ?_
      refine PW_V0 (d2 := 17) (st := []) [.int (a1 / 100), .int (a1 - a1 / 100 * 100), .int 1000000] c_G_soonest_28 lk_G_soonest_193 (po_32 _ _) rfl rfl rfl (Nat.le_of_ble_eq_true rfl) (by first | decide | omega) (Nat.le_of_ble_eq_true rfl) ?_
      rw [em, ea]
      refine HF ?_
      show PW _ _ _ 31 [some (.ref 5), some (.int a1), some (.int a2)] [.int (b2i (¬ RX.2.1 = 7))] (E XX y)
      refine PW_if_ne c_G_soonest_31 (fun h2 => absurd (b2i_n0.mp h2) (not_not_intro (e2.trans k1))) (fun _ => ?_)
      refine PW_bipush (v := -2) c_G_soonest_34 (by decide) ?_
      refine PW_ireturn (ty := .int) c_G_soonest_36 rfl rfl ?_
      exact h
    · refine PW.deeper (k := (13, 0, 0, z)) (Nat.le_of_ble_eq_true rfl) (Nat.le_refl _) (Nat.le_refl _) ?_
      refine PW_iload_n c_M_soonest_0 rfl ?_
      refine PW_S0 (d2 := 2) (st := []) [.int a1] c_M_soonest_1 lk_M_soonest_283 rfl rfl rfl (Nat.le_of_ble_eq_true rfl) (by first | decide | omega) (Nat.le_of_ble_eq_true rfl) ?_
      refine sp_M_isTime  ?_
      show PW _ _ _ 4 [some (.ref 70), some (.int a1), some (.int a2), none] [.int (b2i (0 ≤ a1 ∧ 0 ≤ a1 / 100 ∧ a1 / 100 ≤ 4))] (E XX y)
      refine PW_if_eq c_M_soonest_4 (fun h0 => absurd htm (b2i_0.mp h0)) (fun _ => ?_)
      refine PW_iload_n c_M_soonest_7 rfl ?_
      refine PW_iconst (v := -1) c_M_soonest_8 (by decide) ?_
      refine PW_icmp_ge c_M_soonest_9 (fun h1 => ?_) (fun h1 => absurd (Int32.not_lt.mp hc1) h1)
      refine PW_aload_n c_M_soonest_14 rfl ?_
      refine PW_iload_n c_M_soonest_15 rfl ?_
      refine PW_bipush (v := 100) c_M_soonest_16 (by decide) ?_
      refine PW_idiv c_M_soonest_18 (by decide) ?_
      refine PW_iload_n c_M_soonest_19 rfl ?_
      refine PW_bipush (v := 100) c_M_soonest_20 (by decide) ?_
      refine PW_irem c_M_soonest_22 (by decide) ?_
      refine PW_V0 (d2 := 12) (st := []) [.int (a1 / 100), .int (a1 - a1 / 100 * 100)] c_M_soonest_23 lk_M_soonest_315 (po_70 _ _) rfl rfl rfl (Nat.le_of_ble_eq_true rfl) (by first | decide | omega) (Nat.le_of_ble_eq_true rfl) ?_
      rw [em, ea]
      refine HM ?_
      show PW _ _ _ 26 [some (.ref 70), some (.int a1), some (.int a2), none] [.int (-2)] (E XX YY)
      refine PW_istore_n (i := 3) (L2 := [some (.ref 70), some (.int a1), some (.int a2), some (.int (-2))]) c_M_soonest_26 rfl (Nat.le_of_ble_eq_true rfl) rfl rfl ?_
      refine PW_iload_n c_M_soonest_27 rfl ?_
      refine PW_if_lt c_M_soonest_28 (fun _ => ?_) (fun h2 => absurd (by decide) h2)
      refine PW_iload_n c_M_soonest_35 rfl ?_
      refine PW_ireturn (ty := .int) c_M_soonest_36 rfl rfl ?_
      exact h
  · rw [if_neg (fun w => by rw [w, t1000] at k4; omega)] at HM
    by_cases hc2 : a2 = -1
    · refine ⟨RY.1, XX, YY, ?_, fun {z post} h => ?_, fun {z post} h => ?_⟩
      · exact INV_step (INV_S hI hXX hYY)
      · refine PW.deeper (k := (18, 0, 0, z)) (Nat.le_of_ble_eq_true rfl) (Nat.le_refl _) (Nat.le_refl _) ?_
        refine PW_iload_n c_G_soonest_0 rfl ?_
        refine PW_S0 (d2 := 1) (st := []) [.int a1] c_G_soonest_1 lk_G_soonest_163 rfl rfl rfl (Nat.le_of_ble_eq_true rfl) (by first | decide | omega) (Nat.le_of_ble_eq_true rfl) ?_
        refine sp_G_isRoomMinute  ?_
        show PW _ _ _ 4 [some (.ref 5), some (.int a1), some (.int a2)] [.int (b2i (0 ≤ a1 ∧ 0 ≤ a1 / 100 ∧ a1 / 100 ≤ 4))] (E x y)
        refine PW_if_eq c_G_soonest_4 (fun h0 => absurd htm (b2i_0.mp h0)) (fun _ => ?_)
        refine PW_iload_n c_G_soonest_7 rfl ?_
        refine PW_iconst (v := -1) c_G_soonest_8 (by decide) ?_
        refine PW_icmp_ge c_G_soonest_9 (fun h1 => ?_) (fun h1 => absurd (Int32.not_lt.mp hc1) h1)
        refine PW_aload_n c_G_soonest_14 rfl ?_
        refine PW_get (v := .ref 32) c_G_soonest_15 fl_G_42 (gf_5_4 _ _) ?_
        refine PW_iload_n c_G_soonest_18 rfl ?_
        refine PW_bipush (v := 100) c_G_soonest_19 (by decide) ?_
        refine PW_idiv c_G_soonest_21 (by decide) ?_
        refine PW_iload_n c_G_soonest_22 rfl ?_
        refine PW_bipush (v := 100) c_G_soonest_23 (by decide) ?_
        refine PW_irem c_G_soonest_25 (by decide) ?_
        refine PW_ldc c_G_soonest_26 kk_G_192 ?_
        refine PW_V0 (d2 := 17) (st := []) [.int (a1 / 100), .int (a1 - a1 / 100 * 100), .int 1000000] c_G_soonest_28 lk_G_soonest_193 (po_32 _ _) rfl rfl rfl (Nat.le_of_ble_eq_true rfl) (by first | decide | omega) (Nat.le_of_ble_eq_true rfl) ?_
        rw [em, ea]
        refine HF ?_
        show PW _ _ _ 31 [some (.ref 5), some (.int a1), some (.int a2)] [.int (b2i (¬ RX.2.1 = 7))] (E XX y)
        refine PW_if_ne c_G_soonest_31 (fun _ => ?_) (fun h2 => absurd (by rw [k2]; omega) (b2i_0.mp h2))
        refine PW_iload_n c_G_soonest_37 rfl ?_
        refine PW_iconst (v := -1) c_G_soonest_38 (by decide) ?_
        refine PW_icmp_ne c_G_soonest_39 (fun h3 => absurd h3 (not_not_intro hc2)) (fun h3 => ?_)
        refine PW_aload_n c_G_soonest_42 rfl ?_
        refine PW_get (v := .ref 32) c_G_soonest_43 fl_G_42 (gf_5_4 _ _) ?_
        refine PW_V0 (d2 := 0) (st := []) [] c_G_soonest_46 lk_G_soonest_197 (po_32 _ _) rfl rfl rfl (Nat.le_of_ble_eq_true rfl) (by first | decide | omega) (Nat.le_of_ble_eq_true rfl) ?_
        show PW _ _ _ 0 [some (.ref 32)] [] (E XX y)
        refine PW_aload_n c_S_home_0 rfl ?_
        refine PW_get (v := .int (XX.1 261)) c_S_home_1 fl_S_30 (gf_32_5 _ _) ?_
        refine PW_ireturn (ty := .int) c_S_home_4 rfl rfl ?_
        show PW _ _ _ 49 [some (.ref 5), some (.int a1), some (.int a2)] [.int (XX.1 261)] (E XX y)
        refine PW_goto c_G_soonest_49 ?_
        refine PW_ireturn (ty := .int) c_G_soonest_60 rfl rfl ?_
        exact pqi h (bX.1.trans e1).symm
      · refine PW.deeper (k := (13, 0, 0, z)) (Nat.le_of_ble_eq_true rfl) (Nat.le_refl _) (Nat.le_refl _) ?_
        refine PW_iload_n c_M_soonest_0 rfl ?_
        refine PW_S0 (d2 := 2) (st := []) [.int a1] c_M_soonest_1 lk_M_soonest_283 rfl rfl rfl (Nat.le_of_ble_eq_true rfl) (by first | decide | omega) (Nat.le_of_ble_eq_true rfl) ?_
        refine sp_M_isTime  ?_
        show PW _ _ _ 4 [some (.ref 70), some (.int a1), some (.int a2), none] [.int (b2i (0 ≤ a1 ∧ 0 ≤ a1 / 100 ∧ a1 / 100 ≤ 4))] (E XX y)
        refine PW_if_eq c_M_soonest_4 (fun h0 => absurd htm (b2i_0.mp h0)) (fun _ => ?_)
        refine PW_iload_n c_M_soonest_7 rfl ?_
        refine PW_iconst (v := -1) c_M_soonest_8 (by decide) ?_
        refine PW_icmp_ge c_M_soonest_9 (fun h1 => ?_) (fun h1 => absurd (Int32.not_lt.mp hc1) h1)
        refine PW_aload_n c_M_soonest_14 rfl ?_
        refine PW_iload_n c_M_soonest_15 rfl ?_
        refine PW_bipush (v := 100) c_M_soonest_16 (by decide) ?_
        refine PW_idiv c_M_soonest_18 (by decide) ?_
        refine PW_iload_n c_M_soonest_19 rfl ?_
        refine PW_bipush (v := 100) c_M_soonest_20 (by decide) ?_
        refine PW_irem c_M_soonest_22 (by decide) ?_
        refine PW_V0 (d2 := 12) (st := []) [.int (a1 / 100), .int (a1 - a1 / 100 * 100)] c_M_soonest_23 lk_M_soonest_315 (po_70 _ _) rfl rfl rfl (Nat.le_of_ble_eq_true rfl) (by first | decide | omega) (Nat.le_of_ble_eq_true rfl) ?_
        rw [em, ea]
        refine HM ?_
        show PW _ _ _ 26 [some (.ref 70), some (.int a1), some (.int a2), none] [.int RY.1] (E XX YY)
        refine PW_istore_n (i := 3) (L2 := [some (.ref 70), some (.int a1), some (.int a2), some (.int RY.1)]) c_M_soonest_26 rfl (Nat.le_of_ble_eq_true rfl) rfl rfl ?_
        refine PW_iload_n c_M_soonest_27 rfl ?_
        refine PW_if_lt c_M_soonest_28 (fun h2 => absurd h2 (fun w => absurd (Int32.lt_iff_toInt_lt.mp w) (by rw [tiA.1]; omega))) (fun h2 => ?_)
        refine PW_iload_n c_M_soonest_31 rfl ?_
        refine PW_if_ge c_M_soonest_32 (fun h3 => absurd h3 (by rw [hc2]; decide)) (fun h3 => ?_)
        refine PW_iload_n c_M_soonest_35 rfl ?_
        refine PW_ireturn (ty := .int) c_M_soonest_36 rfl rfl ?_
        exact h
    obtain ⟨q, q1, rfl, q3, q4⟩ := nI_ex (x := a2) (by have h1 := hc1; rw [Int32.lt_iff_toInt_lt, show (-1 : Int32).toInt = -1 by decide] at h1; have h2 := mt Int32.toInt_inj.mp hc2; rw [show (-1 : Int32).toInt = -1 by decide] at h2; omega)
    by_cases hc3 : q < RY.2.1
    · refine ⟨RY.2.2 q, XX, YY, ?_, fun {z post} h => ?_, fun {z post} h => ?_⟩
      · exact INV_step (INV_S hI hXX hYY)
      · refine PW.deeper (k := (18, 0, 0, z)) (Nat.le_of_ble_eq_true rfl) (Nat.le_refl _) (Nat.le_refl _) ?_
        refine PW_iload_n c_G_soonest_0 rfl ?_
        refine PW_S0 (d2 := 1) (st := []) [.int a1] c_G_soonest_1 lk_G_soonest_163 rfl rfl rfl (Nat.le_of_ble_eq_true rfl) (by first | decide | omega) (Nat.le_of_ble_eq_true rfl) ?_
        refine sp_G_isRoomMinute  ?_
        show PW _ _ _ 4 [some (.ref 5), some (.int a1), some (.int (nI q))] [.int (b2i (0 ≤ a1 ∧ 0 ≤ a1 / 100 ∧ a1 / 100 ≤ 4))] (E x y)
        refine PW_if_eq c_G_soonest_4 (fun h0 => absurd htm (b2i_0.mp h0)) (fun _ => ?_)
        refine PW_iload_n c_G_soonest_7 rfl ?_
        refine PW_iconst (v := -1) c_G_soonest_8 (by decide) ?_
        refine PW_icmp_ge c_G_soonest_9 (fun h1 => ?_) (fun h1 => absurd (Int32.not_lt.mp hc1) h1)
        refine PW_aload_n c_G_soonest_14 rfl ?_
        refine PW_get (v := .ref 32) c_G_soonest_15 fl_G_42 (gf_5_4 _ _) ?_
        refine PW_iload_n c_G_soonest_18 rfl ?_
        refine PW_bipush (v := 100) c_G_soonest_19 (by decide) ?_
        refine PW_idiv c_G_soonest_21 (by decide) ?_
        refine PW_iload_n c_G_soonest_22 rfl ?_
        refine PW_bipush (v := 100) c_G_soonest_23 (by decide) ?_
        refine PW_irem c_G_soonest_25 (by decide) ?_
        refine PW_ldc c_G_soonest_26 kk_G_192 ?_
        refine PW_V0 (d2 := 17) (st := []) [.int (a1 / 100), .int (a1 - a1 / 100 * 100), .int 1000000] c_G_soonest_28 lk_G_soonest_193 (po_32 _ _) rfl rfl rfl (Nat.le_of_ble_eq_true rfl) (by first | decide | omega) (Nat.le_of_ble_eq_true rfl) ?_
        rw [em, ea]
        refine HF ?_
        show PW _ _ _ 31 [some (.ref 5), some (.int a1), some (.int (nI q))] [.int (b2i (¬ RX.2.1 = 7))] (E XX y)
        refine PW_if_ne c_G_soonest_31 (fun _ => ?_) (fun h2 => absurd (by rw [k2]; omega) (b2i_0.mp h2))
        refine PW_iload_n c_G_soonest_37 rfl ?_
        refine PW_iconst (v := -1) c_G_soonest_38 (by decide) ?_
        refine PW_icmp_ne c_G_soonest_39 (fun h3 => ?_) (fun h3 => absurd h3 hc2)
        refine PW_aload_n c_G_soonest_52 rfl ?_
        refine PW_get (v := .ref 32) c_G_soonest_53 fl_G_42 (gf_5_4 _ _) ?_
        refine PW_iload_n c_G_soonest_56 rfl ?_
        refine PW_V0 (d2 := 0) (st := []) [.int (nI q)] c_G_soonest_57 lk_G_soonest_198 (po_32 _ _) rfl rfl rfl (Nat.le_of_ble_eq_true rfl) (by first | decide | omega) (Nat.le_of_ble_eq_true rfl) ?_
        show PW _ _ _ 0 [some (.ref 32), some (.int (nI q))] [] (E XX y)
        refine PW_iload_n c_S_roomOfRow_0 rfl ?_
        refine PW_if_lt c_S_roomOfRow_1 (fun h4 => absurd h4 (nI_pos (by omega))) (fun h4 => ?_)
        refine PW_iload_n c_S_roomOfRow_4 rfl ?_
        refine PW_aload_n c_S_roomOfRow_5 rfl ?_
        refine PW_get (v := .int (XX.1 260)) c_S_roomOfRow_6 fl_S_34 (gf_32_4 _ _) ?_
        rw [bX.2.1]
        show PW _ _ _ 9 [some (.ref 32), some (.int (nI q))] [.int (nI RX.2.1), .int (nI q)] (E XX y)
        refine PW_icmp_ge c_S_roomOfRow_9 (fun h5 => absurd h5 (fun w => absurd ((nI_leI (by rw [k2]; omega) (by omega)).mp w) (by rw [k2]; omega))) (fun h5 => ?_)
        refine PW_iload_n c_S_roomOfRow_12 rfl ?_
        refine PW_bipush (v := 6) c_S_roomOfRow_13 (by decide) ?_
        refine PW_icmp_ge c_S_roomOfRow_15 (fun h6 => absurd h6 (fun w => absurd ((nI_leI (a := 6) (by omega) (by omega)).mp w) (by omega))) (fun h6 => ?_)
        refine PW_aload_n c_S_roomOfRow_18 rfl ?_
        refine PW_get (v := .ref 34) c_S_roomOfRow_19 fl_S_15 (gf_32_3 _ _) ?_
        refine PW_iload_n c_S_roomOfRow_22 rfl ?_
        refine PW_iald (j := q) c_S_roomOfRow_23 (ar_34 _ _) (vp_in_nI (by omega) (by decide)) (nI_clamp (by omega)) ?_
        show PW _ _ _ 24 [some (.ref 32), some (.int (nI q))] [.int ((XX.2.1 34) q)] (E XX y)
        refine PW_goto c_S_roomOfRow_24 ?_
        refine PW_ireturn (ty := .int) c_S_roomOfRow_29 rfl rfl ?_
        show PW _ _ _ 60 [some (.ref 5), some (.int a1), some (.int (nI q))] [.int ((XX.2.1 34) q)] (E XX y)
        refine PW_ireturn (ty := .int) c_G_soonest_60 rfl rfl ?_
        exact pqi h (by rw [bX.2.2.2.1 q (by rw [k2]; exact hc3) (by omega), k2])
      · refine PW.deeper (k := (13, 0, 0, z)) (Nat.le_of_ble_eq_true rfl) (Nat.le_refl _) (Nat.le_refl _) ?_
        refine PW_iload_n c_M_soonest_0 rfl ?_
        refine PW_S0 (d2 := 2) (st := []) [.int a1] c_M_soonest_1 lk_M_soonest_283 rfl rfl rfl (Nat.le_of_ble_eq_true rfl) (by first | decide | omega) (Nat.le_of_ble_eq_true rfl) ?_
        refine sp_M_isTime  ?_
        show PW _ _ _ 4 [some (.ref 70), some (.int a1), some (.int (nI q)), none] [.int (b2i (0 ≤ a1 ∧ 0 ≤ a1 / 100 ∧ a1 / 100 ≤ 4))] (E XX y)
        refine PW_if_eq c_M_soonest_4 (fun h0 => absurd htm (b2i_0.mp h0)) (fun _ => ?_)
        refine PW_iload_n c_M_soonest_7 rfl ?_
        refine PW_iconst (v := -1) c_M_soonest_8 (by decide) ?_
        refine PW_icmp_ge c_M_soonest_9 (fun h1 => ?_) (fun h1 => absurd (Int32.not_lt.mp hc1) h1)
        refine PW_aload_n c_M_soonest_14 rfl ?_
        refine PW_iload_n c_M_soonest_15 rfl ?_
        refine PW_bipush (v := 100) c_M_soonest_16 (by decide) ?_
        refine PW_idiv c_M_soonest_18 (by decide) ?_
        refine PW_iload_n c_M_soonest_19 rfl ?_
        refine PW_bipush (v := 100) c_M_soonest_20 (by decide) ?_
        refine PW_irem c_M_soonest_22 (by decide) ?_
        refine PW_V0 (d2 := 12) (st := []) [.int (a1 / 100), .int (a1 - a1 / 100 * 100)] c_M_soonest_23 lk_M_soonest_315 (po_70 _ _) rfl rfl rfl (Nat.le_of_ble_eq_true rfl) (by first | decide | omega) (Nat.le_of_ble_eq_true rfl) ?_
        rw [em, ea]
        refine HM ?_
        show PW _ _ _ 26 [some (.ref 70), some (.int a1), some (.int (nI q)), none] [.int RY.1] (E XX YY)
        refine PW_istore_n (i := 3) (L2 := [some (.ref 70), some (.int a1), some (.int (nI q)), some (.int RY.1)]) c_M_soonest_26 rfl (Nat.le_of_ble_eq_true rfl) rfl rfl ?_
        refine PW_iload_n c_M_soonest_27 rfl ?_
        refine PW_if_lt c_M_soonest_28 (fun h2 => absurd h2 (fun w => absurd (Int32.lt_iff_toInt_lt.mp w) (by rw [tiA.1]; omega))) (fun h2 => ?_)
        refine PW_iload_n c_M_soonest_31 rfl ?_
        refine PW_if_ge c_M_soonest_32 (fun h3 => ?_) (fun h3 => absurd (nI_pos' (by omega)) h3)
        refine PW_iload_n c_M_soonest_37 rfl ?_
        refine PW_aload_n c_M_soonest_38 rfl ?_
        refine PW_get (v := .int (YY.1 595)) c_M_soonest_39 fl_M_308 (gf_70_35 _ _) ?_
        rw [bY.2.1]
        show PW _ _ _ 42 [some (.ref 70), some (.int a1), some (.int (nI q)), some (.int RY.1)] [.int (nI RY.2.1), .int (nI q)] (E XX YY)
        refine PW_icmp_ge c_M_soonest_42 (fun h4 => absurd h4 (fun w => absurd ((nI_leI (by omega) (by omega)).mp w) (by omega))) (fun h4 => ?_)
        refine PW_aload_n c_M_soonest_45 rfl ?_
        refine PW_get (v := .ref 92) c_M_soonest_46 fl_M_75 (gf_70_34 _ _) ?_
        refine PW_iload_n c_M_soonest_49 rfl ?_
        refine PW_iald (j := q) c_M_soonest_50 (ar_92 _ _) (vp_in_nI (by omega) (by decide)) (nI_clamp (by omega)) ?_
        show PW _ _ _ 51 [some (.ref 70), some (.int a1), some (.int (nI q)), some (.int RY.1)] [.int ((YY.2.1 92) q)] (E XX YY)
        refine PW_goto c_M_soonest_51 ?_
        refine PW_ireturn (ty := .int) c_M_soonest_56 rfl rfl ?_
        exact pqi h (bY.2.2.2 q hc3 (by omega)).symm
    refine ⟨-2, XX, YY, ?_, fun {z post} h => ?_, fun {z post} h => ?_⟩
    · exact INV_step (INV_S hI hXX hYY)
    · refine PW.deeper (k := (18, 0, 0, z)) (Nat.le_of_ble_eq_true rfl) (Nat.le_refl _) (Nat.le_refl _) ?_
      refine PW_iload_n c_G_soonest_0 rfl ?_
      refine PW_S0 (d2 := 1) (st := []) [.int a1] c_G_soonest_1 lk_G_soonest_163 rfl rfl rfl (Nat.le_of_ble_eq_true rfl) (by first | decide | omega) (Nat.le_of_ble_eq_true rfl) ?_
      refine sp_G_isRoomMinute  ?_
      show PW _ _ _ 4 [some (.ref 5), some (.int a1), some (.int (nI q))] [.int (b2i (0 ≤ a1 ∧ 0 ≤ a1 / 100 ∧ a1 / 100 ≤ 4))] (E x y)
      refine PW_if_eq c_G_soonest_4 (fun h0 => absurd htm (b2i_0.mp h0)) (fun _ => ?_)
      refine PW_iload_n c_G_soonest_7 rfl ?_
      refine PW_iconst (v := -1) c_G_soonest_8 (by decide) ?_
      refine PW_icmp_ge c_G_soonest_9 (fun h1 => ?_) (fun h1 => absurd (Int32.not_lt.mp hc1) h1)
      refine PW_aload_n c_G_soonest_14 rfl ?_
      refine PW_get (v := .ref 32) c_G_soonest_15 fl_G_42 (gf_5_4 _ _) ?_
      refine PW_iload_n c_G_soonest_18 rfl ?_
      refine PW_bipush (v := 100) c_G_soonest_19 (by decide) ?_
      refine PW_idiv c_G_soonest_21 (by decide) ?_
      refine PW_iload_n c_G_soonest_22 rfl ?_
      refine PW_bipush (v := 100) c_G_soonest_23 (by decide) ?_
      refine PW_irem c_G_soonest_25 (by decide) ?_
      refine PW_ldc c_G_soonest_26 kk_G_192 ?_
      refine PW_V0 (d2 := 17) (st := []) [.int (a1 / 100), .int (a1 - a1 / 100 * 100), .int 1000000] c_G_soonest_28 lk_G_soonest_193 (po_32 _ _) rfl rfl rfl (Nat.le_of_ble_eq_true rfl) (by first | decide | omega) (Nat.le_of_ble_eq_true rfl) ?_
      rw [em, ea]
      refine HF ?_
      show PW _ _ _ 31 [some (.ref 5), some (.int a1), some (.int (nI q))] [.int (b2i (¬ RX.2.1 = 7))] (E XX y)
      refine PW_if_ne c_G_soonest_31 (fun _ => ?_) (fun h2 => absurd (by rw [k2]; omega) (b2i_0.mp h2))
      refine PW_iload_n c_G_soonest_37 rfl ?_
      refine PW_iconst (v := -1) c_G_soonest_38 (by decide) ?_
      refine PW_icmp_ne c_G_soonest_39 (fun h3 => ?_) (fun h3 => absurd h3 hc2)
      refine PW_aload_n c_G_soonest_52 rfl ?_
      refine PW_get (v := .ref 32) c_G_soonest_53 fl_G_42 (gf_5_4 _ _) ?_
      refine PW_iload_n c_G_soonest_56 rfl ?_
      refine PW_V0 (d2 := 0) (st := []) [.int (nI q)] c_G_soonest_57 lk_G_soonest_198 (po_32 _ _) rfl rfl rfl (Nat.le_of_ble_eq_true rfl) (by first | decide | omega) (Nat.le_of_ble_eq_true rfl) ?_
      show PW _ _ _ 0 [some (.ref 32), some (.int (nI q))] [] (E XX y)
      refine PW_iload_n c_S_roomOfRow_0 rfl ?_
      refine PW_if_lt c_S_roomOfRow_1 (fun h4 => absurd h4 (nI_pos (by omega))) (fun h4 => ?_)
      refine PW_iload_n c_S_roomOfRow_4 rfl ?_
      refine PW_aload_n c_S_roomOfRow_5 rfl ?_
      refine PW_get (v := .int (XX.1 260)) c_S_roomOfRow_6 fl_S_34 (gf_32_4 _ _) ?_
      rw [bX.2.1]
      show PW _ _ _ 9 [some (.ref 32), some (.int (nI q))] [.int (nI RX.2.1), .int (nI q)] (E XX y)
      refine PW_icmp_ge c_S_roomOfRow_9 (fun h5 => ?_) (fun h5 => absurd ((nI_leI (by rw [k2]; omega) (by omega)).mpr (by rw [k2]; omega)) h5)
      refine PW_bipush (v := -2) c_S_roomOfRow_27 (by decide) ?_
      refine PW_ireturn (ty := .int) c_S_roomOfRow_29 rfl rfl ?_
      show PW _ _ _ 60 [some (.ref 5), some (.int a1), some (.int (nI q))] [.int (-2)] (E XX y)
      refine PW_ireturn (ty := .int) c_G_soonest_60 rfl rfl ?_
      exact h
    · refine PW.deeper (k := (13, 0, 0, z)) (Nat.le_of_ble_eq_true rfl) (Nat.le_refl _) (Nat.le_refl _) ?_
      refine PW_iload_n c_M_soonest_0 rfl ?_
      refine PW_S0 (d2 := 2) (st := []) [.int a1] c_M_soonest_1 lk_M_soonest_283 rfl rfl rfl (Nat.le_of_ble_eq_true rfl) (by first | decide | omega) (Nat.le_of_ble_eq_true rfl) ?_
      refine sp_M_isTime  ?_
      show PW _ _ _ 4 [some (.ref 70), some (.int a1), some (.int (nI q)), none] [.int (b2i (0 ≤ a1 ∧ 0 ≤ a1 / 100 ∧ a1 / 100 ≤ 4))] (E XX y)
      refine PW_if_eq c_M_soonest_4 (fun h0 => absurd htm (b2i_0.mp h0)) (fun _ => ?_)
      refine PW_iload_n c_M_soonest_7 rfl ?_
      refine PW_iconst (v := -1) c_M_soonest_8 (by decide) ?_
      refine PW_icmp_ge c_M_soonest_9 (fun h1 => ?_) (fun h1 => absurd (Int32.not_lt.mp hc1) h1)
      refine PW_aload_n c_M_soonest_14 rfl ?_
      refine PW_iload_n c_M_soonest_15 rfl ?_
      refine PW_bipush (v := 100) c_M_soonest_16 (by decide) ?_
      refine PW_idiv c_M_soonest_18 (by decide) ?_
      refine PW_iload_n c_M_soonest_19 rfl ?_
      refine PW_bipush (v := 100) c_M_soonest_20 (by decide) ?_
      refine PW_irem c_M_soonest_22 (by decide) ?_
      refine PW_V0 (d2 := 12) (st := []) [.int (a1 / 100), .int (a1 - a1 / 100 * 100)] c_M_soonest_23 lk_M_soonest_315 (po_70 _ _) rfl rfl rfl (Nat.le_of_ble_eq_true rfl) (by first | decide | omega) (Nat.le_of_ble_eq_true rfl) ?_
      rw [em, ea]
      refine HM ?_
      show PW _ _ _ 26 [some (.ref 70), some (.int a1), some (.int (nI q)), none] [.int RY.1] (E XX YY)
      refine PW_istore_n (i := 3) (L2 := [some (.ref 70), some (.int a1), some (.int (nI q)), some (.int RY.1)]) c_M_soonest_26 rfl (Nat.le_of_ble_eq_true rfl) rfl rfl ?_
      refine PW_iload_n c_M_soonest_27 rfl ?_
      refine PW_if_lt c_M_soonest_28 (fun h2 => absurd h2 (fun w => absurd (Int32.lt_iff_toInt_lt.mp w) (by rw [tiA.1]; omega))) (fun h2 => ?_)
      refine PW_iload_n c_M_soonest_31 rfl ?_
      refine PW_if_ge c_M_soonest_32 (fun h3 => ?_) (fun h3 => absurd (nI_pos' (by omega)) h3)
      refine PW_iload_n c_M_soonest_37 rfl ?_
      refine PW_aload_n c_M_soonest_38 rfl ?_
      refine PW_get (v := .int (YY.1 595)) c_M_soonest_39 fl_M_308 (gf_70_35 _ _) ?_
      rw [bY.2.1]
      show PW _ _ _ 42 [some (.ref 70), some (.int a1), some (.int (nI q)), some (.int RY.1)] [.int (nI RY.2.1), .int (nI q)] (E XX YY)
      refine PW_icmp_ge c_M_soonest_42 (fun h4 => ?_) (fun h4 => absurd ((nI_leI (by omega) (by omega)).mpr (by omega)) h4)
      refine PW_bipush (v := -2) c_M_soonest_54 (by decide) ?_
      refine PW_ireturn (ty := .int) c_M_soonest_56 rfl rfl ?_
      exact h
set_option maxHeartbeats 4000000 in
theorem op_beginBy {t : Nat} {x y : XS} {a1 : Int32} {a2 : Int32} (hI : INV t x y) (ht : t < 512) : ∃ (r : Int32) (x' y' : XS), INV (t + 1) x' y' ∧ (∀ {z : ZS} {post : Option Value → List PE → Prop}, post (some (.int r)) (E x' y) → PW (90, 0, 0, z) m_G_beginBy post 0 [some (.ref 5), some (.int a1), some (.int a2), none] [] (E x y)) ∧ (∀ {z : ZS} {post : Option Value → List PE → Prop}, post (some (.int r)) (E x' y') → PW (90, 0, 0, z) m_M_beginBy post 0 [some (.ref 70), some (.int a1), some (.int a2), none, none] [] (E x' y)) := by
  obtain ⟨hg, hc, ht0, hl, hd, hb, hs⟩ := id hI
  obtain ⟨T, hT⟩ := lawIs_of hl

  by_cases hc0 : ¬ (0 ≤ a1 ∧ a1 ≤ 4)
  · refine ⟨-1, x, y, ?_, fun {z post} h => ?_, fun {z post} h => ?_⟩
    · exact INV_step hI
    · refine PW.deeper (k := (18, 0, 0, z)) (Nat.le_of_ble_eq_true rfl) (Nat.le_refl _) (Nat.le_refl _) ?_
      refine PW_iload_n c_G_beginBy_0 rfl ?_
      refine PW_S0 (d2 := 0) (st := []) [.int a1] c_G_beginBy_1 lk_G_beginBy_121 rfl rfl rfl (Nat.le_of_ble_eq_true rfl) (by first | decide | omega) (Nat.le_of_ble_eq_true rfl) ?_
      refine sp_H_isRoom  ?_
      show PW _ _ _ 4 [some (.ref 5), some (.int a1), some (.int a2), none] [.int (b2i (0 ≤ a1 ∧ a1 ≤ 4))] (E x y)
      refine PW_if_eq c_G_beginBy_4 (fun _ => ?_) (fun h0 => absurd (b2i_n0.mp h0) hc0)
      refine PW_iconst (v := -1) c_G_beginBy_18 (by decide) ?_
      refine PW_ireturn (ty := .int) c_G_beginBy_19 rfl rfl ?_
      exact h
    · refine PW.deeper (k := (13, 0, 0, z)) (Nat.le_of_ble_eq_true rfl) (Nat.le_refl _) (Nat.le_refl _) ?_
      refine PW_iload_n c_M_beginBy_0 rfl ?_
      refine PW_S0 (d2 := 1) (st := []) [.int a1] c_M_beginBy_1 lk_M_beginBy_135 rfl rfl rfl (Nat.le_of_ble_eq_true rfl) (by first | decide | omega) (Nat.le_of_ble_eq_true rfl) ?_
      refine sp_M_isRoom  ?_
      show PW _ _ _ 4 [some (.ref 70), some (.int a1), some (.int a2), none, none] [.int (b2i (0 ≤ a1 ∧ a1 ≤ 4))] (E x y)
      refine PW_if_eq c_M_beginBy_4 (fun _ => ?_) (fun h0 => absurd (b2i_n0.mp h0) hc0)
      refine PW_iconst (v := -1) c_M_beginBy_18 (by decide) ?_
      refine PW_ireturn (ty := .int) c_M_beginBy_19 rfl rfl ?_
      exact h
  obtain ⟨a, a0, rfl, a3, a4⟩ := nI_ex (x := a1) (by have := (Decidable.not_not.mp hc0).1; rw [Int32.le_iff_toInt_le, tiA.1] at this; exact this)
  have ha : a < 5 := by have := (Decidable.not_not.mp hc0).2; rw [Int32.le_iff_toInt_le, a3, show (4 : Int32).toInt = 4 by decide] at this; omega
  replace hc0 := Decidable.not_not.mp hc0
  by_cases hc1 : a2 < 0
  · refine ⟨-1, x, y, ?_, fun {z post} h => ?_, fun {z post} h => ?_⟩
    · exact INV_step hI
    · refine PW.deeper (k := (18, 0, 0, z)) (Nat.le_of_ble_eq_true rfl) (Nat.le_refl _) (Nat.le_refl _) ?_
      refine PW_iload_n c_G_beginBy_0 rfl ?_
      refine PW_S0 (d2 := 0) (st := []) [.int (nI a)] c_G_beginBy_1 lk_G_beginBy_121 rfl rfl rfl (Nat.le_of_ble_eq_true rfl) (by first | decide | omega) (Nat.le_of_ble_eq_true rfl) ?_
      refine sp_H_isRoom  ?_
      show PW _ _ _ 4 [some (.ref 5), some (.int (nI a)), some (.int a2), none] [.int (b2i (0 ≤ (nI a) ∧ (nI a) ≤ 4))] (E x y)
      refine PW_if_eq c_G_beginBy_4 (fun h0 => absurd hc0 (b2i_0.mp h0)) (fun _ => ?_)
      refine PW_iload_n c_G_beginBy_7 rfl ?_
      refine PW_if_lt c_G_beginBy_8 (fun h1 => ?_) (fun h1 => absurd hc1 h1)
      refine PW_iconst (v := -1) c_G_beginBy_18 (by decide) ?_
      refine PW_ireturn (ty := .int) c_G_beginBy_19 rfl rfl ?_
      exact h
    · refine PW.deeper (k := (13, 0, 0, z)) (Nat.le_of_ble_eq_true rfl) (Nat.le_refl _) (Nat.le_refl _) ?_
      refine PW_iload_n c_M_beginBy_0 rfl ?_
      refine PW_S0 (d2 := 1) (st := []) [.int (nI a)] c_M_beginBy_1 lk_M_beginBy_135 rfl rfl rfl (Nat.le_of_ble_eq_true rfl) (by first | decide | omega) (Nat.le_of_ble_eq_true rfl) ?_
      refine sp_M_isRoom  ?_
      show PW _ _ _ 4 [some (.ref 70), some (.int (nI a)), some (.int a2), none, none] [.int (b2i (0 ≤ (nI a) ∧ (nI a) ≤ 4))] (E x y)
      refine PW_if_eq c_M_beginBy_4 (fun h0 => absurd hc0 (b2i_0.mp h0)) (fun _ => ?_)
      refine PW_iload_n c_M_beginBy_7 rfl ?_
      refine PW_iconst (v := 0) c_M_beginBy_8 (by decide) ?_
      refine PW_sipush (v := 999) c_M_beginBy_9 (by decide) ?_
      refine PW_S0 (d2 := 0) (st := []) [.int a2, .int 0, .int 999] c_M_beginBy_12 lk_M_beginBy_131 rfl rfl rfl (Nat.le_of_ble_eq_true rfl) (by first | decide | omega) (Nat.le_of_ble_eq_true rfl) ?_
      refine sp_M_within  ?_
      show PW _ _ _ 15 [some (.ref 70), some (.int (nI a)), some (.int a2), none, none] [.int (b2i ((0 : Int32) ≤ a2 ∧ a2 ≤ (999 : Int32)))] (E x y)
      refine PW_if_ne c_M_beginBy_15 (fun h1 => absurd (b2i_n0.mp h1) (fun q => absurd q.1 (Int32.not_le.mpr hc1))) (fun _ => ?_)
      refine PW_iconst (v := -1) c_M_beginBy_18 (by decide) ?_
      refine PW_ireturn (ty := .int) c_M_beginBy_19 rfl rfl ?_
      exact h
  by_cases hc2 : 999 < a2
  · refine ⟨-1, x, y, ?_, fun {z post} h => ?_, fun {z post} h => ?_⟩
    · exact INV_step hI
    · refine PW.deeper (k := (18, 0, 0, z)) (Nat.le_of_ble_eq_true rfl) (Nat.le_refl _) (Nat.le_refl _) ?_
      refine PW_iload_n c_G_beginBy_0 rfl ?_
      refine PW_S0 (d2 := 0) (st := []) [.int (nI a)] c_G_beginBy_1 lk_G_beginBy_121 rfl rfl rfl (Nat.le_of_ble_eq_true rfl) (by first | decide | omega) (Nat.le_of_ble_eq_true rfl) ?_
      refine sp_H_isRoom  ?_
      show PW _ _ _ 4 [some (.ref 5), some (.int (nI a)), some (.int a2), none] [.int (b2i (0 ≤ (nI a) ∧ (nI a) ≤ 4))] (E x y)
      refine PW_if_eq c_G_beginBy_4 (fun h0 => absurd hc0 (b2i_0.mp h0)) (fun _ => ?_)
      refine PW_iload_n c_G_beginBy_7 rfl ?_
      refine PW_if_lt c_G_beginBy_8 (fun h1 => absurd h1 hc1) (fun h1 => ?_)
      refine PW_iload_n c_G_beginBy_11 rfl ?_
      refine PW_sipush (v := 999) c_G_beginBy_12 (by decide) ?_
      refine PW_icmp_le c_G_beginBy_15 (fun h2 => absurd h2 (Int32.not_le.mpr hc2)) (fun h2 => ?_)
      refine PW_iconst (v := -1) c_G_beginBy_18 (by decide) ?_
      refine PW_ireturn (ty := .int) c_G_beginBy_19 rfl rfl ?_
      exact h
    · refine PW.deeper (k := (13, 0, 0, z)) (Nat.le_of_ble_eq_true rfl) (Nat.le_refl _) (Nat.le_refl _) ?_
      refine PW_iload_n c_M_beginBy_0 rfl ?_
      refine PW_S0 (d2 := 1) (st := []) [.int (nI a)] c_M_beginBy_1 lk_M_beginBy_135 rfl rfl rfl (Nat.le_of_ble_eq_true rfl) (by first | decide | omega) (Nat.le_of_ble_eq_true rfl) ?_
      refine sp_M_isRoom  ?_
      show PW _ _ _ 4 [some (.ref 70), some (.int (nI a)), some (.int a2), none, none] [.int (b2i (0 ≤ (nI a) ∧ (nI a) ≤ 4))] (E x y)
      refine PW_if_eq c_M_beginBy_4 (fun h0 => absurd hc0 (b2i_0.mp h0)) (fun _ => ?_)
      refine PW_iload_n c_M_beginBy_7 rfl ?_
      refine PW_iconst (v := 0) c_M_beginBy_8 (by decide) ?_
      refine PW_sipush (v := 999) c_M_beginBy_9 (by decide) ?_
      refine PW_S0 (d2 := 0) (st := []) [.int a2, .int 0, .int 999] c_M_beginBy_12 lk_M_beginBy_131 rfl rfl rfl (Nat.le_of_ble_eq_true rfl) (by first | decide | omega) (Nat.le_of_ble_eq_true rfl) ?_
      refine sp_M_within  ?_
      show PW _ _ _ 15 [some (.ref 70), some (.int (nI a)), some (.int a2), none, none] [.int (b2i ((0 : Int32) ≤ a2 ∧ a2 ≤ (999 : Int32)))] (E x y)
      refine PW_if_ne c_M_beginBy_15 (fun h1 => absurd (b2i_n0.mp h1) (fun q => absurd q.2 (Int32.not_le.mpr hc2))) (fun _ => ?_)
      refine PW_iconst (v := -1) c_M_beginBy_18 (by decide) ?_
      refine PW_ireturn (ty := .int) c_M_beginBy_19 rfl rfl ?_
      exact h
  obtain ⟨XX, hXX, HG⟩ := lp_G_begin (T := T) (v := a2) hg hT ha 100 x (Nat.le_refl _) (xS_0 x)
  obtain ⟨YY, hYY, HM⟩ := lp_M_begin (x := XX) (T := T) (v := a2) hg hT ha 100 y (Nat.le_refl _) (yS_0 y)
  refine ⟨bgF T y a a2 100, XX, YY, ?_, fun {z post} h => ?_, fun {z post} h => ?_⟩
  · exact INV_step (INV_S hI hXX hYY)
  · refine PW.deeper (k := (18, 0, 0, z)) (Nat.le_of_ble_eq_true rfl) (Nat.le_refl _) (Nat.le_refl _) ?_
    refine PW_iload_n c_G_beginBy_0 rfl ?_
    refine PW_S0 (d2 := 0) (st := []) [.int (nI a)] c_G_beginBy_1 lk_G_beginBy_121 rfl rfl rfl (Nat.le_of_ble_eq_true rfl) (by first | decide | omega) (Nat.le_of_ble_eq_true rfl) ?_
    refine sp_H_isRoom  ?_
    show PW _ _ _ 4 [some (.ref 5), some (.int (nI a)), some (.int a2), none] [.int (b2i (0 ≤ (nI a) ∧ (nI a) ≤ 4))] (E x y)
    refine PW_if_eq c_G_beginBy_4 (fun h0 => absurd hc0 (b2i_0.mp h0)) (fun _ => ?_)
    refine PW_iload_n c_G_beginBy_7 rfl ?_
    refine PW_if_lt c_G_beginBy_8 (fun h1 => absurd h1 hc1) (fun h1 => ?_)
    refine PW_iload_n c_G_beginBy_11 rfl ?_
    refine PW_sipush (v := 999) c_G_beginBy_12 (by decide) ?_
    refine PW_icmp_le c_G_beginBy_15 (fun h2 => ?_) (fun h2 => absurd (Int32.not_lt.mp hc2) h2)
    refine PW_bipush (v := 99) c_G_beginBy_20 (by decide) ?_
    refine PW_istore_n (i := 3) (L2 := [some (.ref 5), some (.int (nI a)), some (.int a2), some (.int 99)]) c_G_beginBy_22 rfl (Nat.le_of_ble_eq_true rfl) rfl rfl ?_
    refine PW.eqL ?_ rfl rfl (HG h)
    rfl
  · refine PW.deeper (k := (13, 0, 0, z)) (Nat.le_of_ble_eq_true rfl) (Nat.le_refl _) (Nat.le_refl _) ?_
    refine PW_iload_n c_M_beginBy_0 rfl ?_
    refine PW_S0 (d2 := 1) (st := []) [.int (nI a)] c_M_beginBy_1 lk_M_beginBy_135 rfl rfl rfl (Nat.le_of_ble_eq_true rfl) (by first | decide | omega) (Nat.le_of_ble_eq_true rfl) ?_
    refine sp_M_isRoom  ?_
    show PW _ _ _ 4 [some (.ref 70), some (.int (nI a)), some (.int a2), none, none] [.int (b2i (0 ≤ (nI a) ∧ (nI a) ≤ 4))] (E XX y)
    refine PW_if_eq c_M_beginBy_4 (fun h0 => absurd hc0 (b2i_0.mp h0)) (fun _ => ?_)
    refine PW_iload_n c_M_beginBy_7 rfl ?_
    refine PW_iconst (v := 0) c_M_beginBy_8 (by decide) ?_
    refine PW_sipush (v := 999) c_M_beginBy_9 (by decide) ?_
    refine PW_S0 (d2 := 0) (st := []) [.int a2, .int 0, .int 999] c_M_beginBy_12 lk_M_beginBy_131 rfl rfl rfl (Nat.le_of_ble_eq_true rfl) (by first | decide | omega) (Nat.le_of_ble_eq_true rfl) ?_
    refine sp_M_within  ?_
    show PW _ _ _ 15 [some (.ref 70), some (.int (nI a)), some (.int a2), none, none] [.int (b2i ((0 : Int32) ≤ a2 ∧ a2 ≤ (999 : Int32)))] (E XX y)
    refine PW_if_ne c_M_beginBy_15 (fun _ => ?_) (fun h1 => absurd ⟨Int32.not_lt.mp hc1, Int32.not_lt.mp hc2⟩ (b2i_0.mp h1))
    refine PW_bipush (v := 99) c_M_beginBy_20 (by decide) ?_
    refine PW_istore_n (i := 3) (L2 := [some (.ref 70), some (.int (nI a)), some (.int a2), some (.int 99), none]) c_M_beginBy_22 rfl (Nat.le_of_ble_eq_true rfl) rfl rfl ?_
    refine PW.eqL ?_ rfl rfl (HM (l4 := none) h)
    rfl
