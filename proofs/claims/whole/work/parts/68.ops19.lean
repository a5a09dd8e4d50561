set_option maxHeartbeats 4000000 in
theorem op_round {t : Nat} {x y : XS} {a1 : Int32} {a2 : Int32} {a3 : Int32} (hI : INV t x y) (ht : t < 512) : ∃ (r : Int32) (x' y' : XS), INV (t + 1) x' y' ∧ (∀ {z : ZS} {post : Option Value → List PE → Prop}, post (some (.int r)) (E x' y) → PW (90, 0, 0, z) m_G_round post 0 [some (.ref 5), some (.int a1), some (.int a2), some (.int a3), none, none, none, none] [] (E x y)) ∧ (∀ {z : ZS} {post : Option Value → List PE → Prop}, post (some (.int r)) (E x' y') → PW (90, 0, 0, z) m_M_round post 0 [some (.ref 70), some (.int a1), some (.int a2), some (.int a3), none] [] (E x' y)) := by
  obtain ⟨hg, hc, ht0, hl, hd, hb, hs⟩ := id hI
  obtain ⟨T, hT⟩ := lawIs_of hl

  by_cases hc0 : ¬ (0 ≤ a1.toInt ∧ a1.toInt < 6)
  · refine ⟨-1, x, y, ?_, fun {z post} h => ?_, fun {z post} h => ?_⟩
    · exact INV_step hI
    · refine PW.deeper (k := (5, 0, 0, z)) (Nat.le_of_ble_eq_true rfl) (Nat.le_refl _) (Nat.le_refl _) ?_
      refine PW_aload_n c_G_round_0 rfl ?_
      refine PW_iload_n c_G_round_1 rfl ?_
      refine PW_V0 (d2 := 0) (st := []) [.int a1] c_G_round_2 lk_G_round_102 (po_5 _ _) rfl rfl rfl (Nat.le_of_ble_eq_true rfl) (by first | decide | omega) (Nat.le_of_ble_eq_true rfl) ?_
      refine sp_noshelf hc0 ?_
      show PW _ _ _ 5 [some (.ref 5), some (.int a1), some (.int a2), some (.int a3), none, none, none, none] [.null] (E x y)
      refine PW_astoreN (i := 4) (L2 := [some (.ref 5), some (.int a1), some (.int a2), some (.int a3), some (.null), none, none, none]) c_G_round_5 (Nat.le_of_ble_eq_true rfl) rfl rfl ?_
      refine PW_aloadN c_G_round_7 rfl ?_
      refine PW_ifnullN c_G_round_9 ?_
      refine PW_iconst (v := -1) c_G_round_28 (by decide) ?_
      refine PW_ireturn (ty := .int) c_G_round_29 rfl rfl ?_
      exact h
    · refine PW.deeper (k := (5, 0, 0, z)) (Nat.le_of_ble_eq_true rfl) (Nat.le_refl _) (Nat.le_refl _) ?_
      refine PW_iload_n c_M_round_0 rfl ?_
      refine PW_S0 (d2 := 1) (st := []) [.int a1] c_M_round_1 lk_M_round_143 rfl rfl rfl (Nat.le_of_ble_eq_true rfl) (by first | decide | omega) (Nat.le_of_ble_eq_true rfl) ?_
      refine sp_M_isShelf2  ?_
      show PW _ _ _ 4 [some (.ref 70), some (.int a1), some (.int a2), some (.int a3), none] [.int (b2i (0 ≤ a1.toInt ∧ a1.toInt < 6))] (E x y)
      refine PW_if_eq c_M_round_4 (fun _ => ?_) (fun h0 => absurd (b2i_n0.mp h0) hc0)
      refine PW_iconst (v := -1) c_M_round_23 (by decide) ?_
      refine PW_ireturn (ty := .int) c_M_round_24 rfl rfl ?_
      exact h
  obtain ⟨j, hj, rfl⟩ : ∃ j : Nat, j < 6 ∧ a1 = nI j := by
    obtain ⟨q, q1, q2, q3, q4⟩ := nI_ex (x := a1) (by have := Decidable.not_not.mp hc0; omega)
    exact ⟨q, by have := Decidable.not_not.mp hc0; omega, q2⟩
  have hjs : 0 ≤ (nI j).toInt ∧ (nI j).toInt < 6 := by rw [nI_toInt (by omega)]; omega
  by_cases hc1 : ¬ (0 ≤ a2 ∧ 0 ≤ a2 / 100 ∧ a2 / 100 ≤ 4)
  · refine ⟨-1, x, y, ?_, fun {z post} h => ?_, fun {z post} h => ?_⟩
    · exact INV_step hI
    · refine PW.deeper (k := (5, 0, 0, z)) (Nat.le_of_ble_eq_true rfl) (Nat.le_refl _) (Nat.le_refl _) ?_
      refine PW_aload_n c_G_round_0 rfl ?_
      refine PW_iload_n c_G_round_1 rfl ?_
      refine PW_V0 (d2 := 0) (st := []) [.int (nI j)] c_G_round_2 lk_G_round_102 (po_5 _ _) rfl rfl rfl (Nat.le_of_ble_eq_true rfl) (by first | decide | omega) (Nat.le_of_ble_eq_true rfl) ?_
      refine sp_shelf hj ?_
      show PW _ _ _ 5 [some (.ref 5), some (.int (nI j)), some (.int a2), some (.int a3), none, none, none, none] [.ref (58 + 2 * j)] (E x y)
      refine PW_astore (i := 4) (L2 := [some (.ref 5), some (.int (nI j)), some (.int a2), some (.int a3), some (.ref (58 + 2 * j)), none, none, none]) c_G_round_5 (Nat.le_of_ble_eq_true rfl) rfl rfl ?_
      refine PW_aload c_G_round_7 rfl ?_
      refine PW_ifnull c_G_round_9 ?_
      refine PW_iload_n c_G_round_12 rfl ?_
      refine PW_S0 (d2 := 1) (st := []) [.int a2] c_G_round_13 lk_G_round_163 rfl rfl rfl (Nat.le_of_ble_eq_true rfl) (by first | decide | omega) (Nat.le_of_ble_eq_true rfl) ?_
      refine sp_G_isRoomMinute  ?_
      show PW _ _ _ 16 [some (.ref 5), some (.int (nI j)), some (.int a2), some (.int a3), some (.ref (58 + 2 * j)), none, none, none] [.int (b2i (0 ≤ a2 ∧ 0 ≤ a2 / 100 ∧ a2 / 100 ≤ 4))] (E x y)
      refine PW_if_eq c_G_round_16 (fun _ => ?_) (fun h0 => absurd (b2i_n0.mp h0) hc1)
      refine PW_iconst (v := -1) c_G_round_28 (by decide) ?_
      refine PW_ireturn (ty := .int) c_G_round_29 rfl rfl ?_
      exact h
    · refine PW.deeper (k := (5, 0, 0, z)) (Nat.le_of_ble_eq_true rfl) (Nat.le_refl _) (Nat.le_refl _) ?_
      refine PW_iload_n c_M_round_0 rfl ?_
      refine PW_S0 (d2 := 1) (st := []) [.int (nI j)] c_M_round_1 lk_M_round_143 rfl rfl rfl (Nat.le_of_ble_eq_true rfl) (by first | decide | omega) (Nat.le_of_ble_eq_true rfl) ?_
      refine sp_M_isShelf2  ?_
      show PW _ _ _ 4 [some (.ref 70), some (.int (nI j)), some (.int a2), some (.int a3), none] [.int (b2i (0 ≤ (nI j).toInt ∧ (nI j).toInt < 6))] (E x y)
      refine PW_if_eq c_M_round_4 (fun h0 => absurd hjs (b2i_0.mp h0)) (fun _ => ?_)
      refine PW_iload_n c_M_round_7 rfl ?_
      refine PW_S0 (d2 := 2) (st := []) [.int a2] c_M_round_8 lk_M_round_283 rfl rfl rfl (Nat.le_of_ble_eq_true rfl) (by first | decide | omega) (Nat.le_of_ble_eq_true rfl) ?_
      refine sp_M_isTime  ?_
      show PW _ _ _ 11 [some (.ref 70), some (.int (nI j)), some (.int a2), some (.int a3), none] [.int (b2i (0 ≤ a2 ∧ 0 ≤ a2 / 100 ∧ a2 / 100 ≤ 4))] (E x y)
      refine PW_if_eq c_M_round_11 (fun _ => ?_) (fun h1 => absurd (b2i_n0.mp h1) hc1)
      refine PW_iconst (v := -1) c_M_round_23 (by decide) ?_
      refine PW_ireturn (ty := .int) c_M_round_24 rfl rfl ?_
      exact h
  replace hc1 := Decidable.not_not.mp hc1
  obtain ⟨a, mm, ha, hmm, -, ea, em⟩ := tm_ex hc1
  by_cases hw0 : a3 = 0
  · subst hw0
    rcases sh_cases (hs j hj) with ⟨p1, p2⟩ | ⟨p1, p2, p3, p4⟩ | ⟨p1, p2, p3, p4, n, hn, p5, p6, hP⟩
    · refine ⟨-11, x, y, ?_, fun {z post} h => ?_, fun {z post} h => ?_⟩
      · exact INV_step hI
      · refine PW.deeper (k := (5, 0, 0, z)) (Nat.le_of_ble_eq_true rfl) (Nat.le_refl _) (Nat.le_refl _) ?_
        refine PW_aload_n c_G_round_0 rfl ?_
        refine PW_iload_n c_G_round_1 rfl ?_
        refine PW_V0 (d2 := 0) (st := []) [.int (nI j)] c_G_round_2 lk_G_round_102 (po_5 _ _) rfl rfl rfl (Nat.le_of_ble_eq_true rfl) (by first | decide | omega) (Nat.le_of_ble_eq_true rfl) ?_
        refine sp_shelf hj ?_
        show PW _ _ _ 5 [some (.ref 5), some (.int (nI j)), some (.int a2), some (.int 0), none, none, none, none] [.ref (58 + 2 * j)] (E x y)
        refine PW_astore (i := 4) (L2 := [some (.ref 5), some (.int (nI j)), some (.int a2), some (.int 0), some (.ref (58 + 2 * j)), none, none, none]) c_G_round_5 (Nat.le_of_ble_eq_true rfl) rfl rfl ?_
        refine PW_aload c_G_round_7 rfl ?_
        refine PW_ifnull c_G_round_9 ?_
        refine PW_iload_n c_G_round_12 rfl ?_
        refine PW_S0 (d2 := 1) (st := []) [.int a2] c_G_round_13 lk_G_round_163 rfl rfl rfl (Nat.le_of_ble_eq_true rfl) (by first | decide | omega) (Nat.le_of_ble_eq_true rfl) ?_
        refine sp_G_isRoomMinute  ?_
        show PW _ _ _ 16 [some (.ref 5), some (.int (nI j)), some (.int a2), some (.int 0), some (.ref (58 + 2 * j)), none, none, none] [.int (b2i (0 ≤ a2 ∧ 0 ≤ a2 / 100 ∧ a2 / 100 ≤ 4))] (E x y)
        refine PW_if_eq c_G_round_16 (fun h0 => absurd hc1 (b2i_0.mp h0)) (fun _ => ?_)
        refine PW_iload_n c_G_round_19 rfl ?_
        refine PW_if_lt c_G_round_20 (fun h1 => absurd h1 (by decide)) (fun _ => ?_)
        refine PW_iload_n c_G_round_23 rfl ?_
        refine PW_iconst (v := 2) c_G_round_24 (by decide) ?_
        refine PW_icmp_le c_G_round_25 (fun _ => ?_) (fun h2 => absurd (by decide) h2)
        refine PW_aload c_G_round_30 rfl ?_
        refine PW_V0 (d2 := 1) (st := []) [] c_G_round_32 lk_G_round_106 (sh_po _ _ hj) rfl rfl rfl (Nat.le_of_ble_eq_true rfl) (by first | decide | omega) (Nat.le_of_ble_eq_true rfl) ?_
        show PW _ _ _ 0 [some (.ref (58 + 2 * j))] [] (E x y)
        refine PW_aload_n c_F_bytesRefusal_0 rfl ?_
        refine PW_V0 (d2 := 0) (st := []) [] c_F_bytesRefusal_1 lk_F_bytesRefusal_37 (sh_po _ _ hj) rfl rfl rfl (Nat.le_of_ble_eq_true rfl) (by first | decide | omega) (Nat.le_of_ble_eq_true rfl) ?_
        refine sp_F_isEmpty hj  ?_
        show PW _ _ _ 4 [some (.ref (58 + 2 * j))] [.int (b2i (x.1 ((58 + 2 * j) * 8 + 1) = 0))] (E x y)
        refine PW_if_eq c_F_bytesRefusal_4 (fun h3 => absurd p2 (b2i_0.mp h3)) (fun _ => ?_)
        refine PW_bipush (v := -11) c_F_bytesRefusal_7 (by decide) ?_
        refine PW_ireturn (ty := .int) c_F_bytesRefusal_9 rfl rfl ?_
        show PW _ _ _ 35 [some (.ref 5), some (.int (nI j)), some (.int a2), some (.int 0), some (.ref (58 + 2 * j)), none, none, none] [.int (-11)] (E x y)
        refine PW_istore (i := 5) (L2 := [some (.ref 5), some (.int (nI j)), some (.int a2), some (.int 0), some (.ref (58 + 2 * j)), some (.int (-11)), none, none]) c_G_round_35 (Nat.le_of_ble_eq_true rfl) rfl rfl ?_
        refine PW_iload c_G_round_37 rfl ?_
        refine PW_if_eq c_G_round_39 (fun h4 => absurd h4 (by decide)) (fun _ => ?_)
        refine PW_iload c_G_round_42 rfl ?_
        refine PW_ireturn (ty := .int) c_G_round_44 rfl rfl ?_
        exact h
      · refine PW.deeper (k := (5, 0, 0, z)) (Nat.le_of_ble_eq_true rfl) (Nat.le_refl _) (Nat.le_refl _) ?_
        refine PW_iload_n c_M_round_0 rfl ?_
        refine PW_S0 (d2 := 1) (st := []) [.int (nI j)] c_M_round_1 lk_M_round_143 rfl rfl rfl (Nat.le_of_ble_eq_true rfl) (by first | decide | omega) (Nat.le_of_ble_eq_true rfl) ?_
        refine sp_M_isShelf2  ?_
        show PW _ _ _ 4 [some (.ref 70), some (.int (nI j)), some (.int a2), some (.int 0), none] [.int (b2i (0 ≤ (nI j).toInt ∧ (nI j).toInt < 6))] (E x y)
        refine PW_if_eq c_M_round_4 (fun h0 => absurd hjs (b2i_0.mp h0)) (fun _ => ?_)
        refine PW_iload_n c_M_round_7 rfl ?_
        refine PW_S0 (d2 := 2) (st := []) [.int a2] c_M_round_8 lk_M_round_283 rfl rfl rfl (Nat.le_of_ble_eq_true rfl) (by first | decide | omega) (Nat.le_of_ble_eq_true rfl) ?_
        refine sp_M_isTime  ?_
        show PW _ _ _ 11 [some (.ref 70), some (.int (nI j)), some (.int a2), some (.int 0), none] [.int (b2i (0 ≤ a2 ∧ 0 ≤ a2 / 100 ∧ a2 / 100 ≤ 4))] (E x y)
        refine PW_if_eq c_M_round_11 (fun h1 => absurd hc1 (b2i_0.mp h1)) (fun _ => ?_)
        refine PW_iload_n c_M_round_14 rfl ?_
        refine PW_iconst (v := 0) c_M_round_15 (by decide) ?_
        refine PW_iconst (v := 2) c_M_round_16 (by decide) ?_
        refine PW_S0 (d2 := 0) (st := []) [.int 0, .int 0, .int 2] c_M_round_17 lk_M_round_131 rfl rfl rfl (Nat.le_of_ble_eq_true rfl) (by first | decide | omega) (Nat.le_of_ble_eq_true rfl) ?_
        refine sp_M_within  ?_
        show PW _ _ _ 20 [some (.ref 70), some (.int (nI j)), some (.int a2), some (.int 0), none] [.int (b2i ((0 : Int32) ≤ (0 : Int32) ∧ (0 : Int32) ≤ (2 : Int32)))] (E x y)
        refine PW_if_ne c_M_round_20 (fun _ => ?_) (fun h2 => absurd (by decide) (b2i_0.mp h2))
        refine PW_aload_n c_M_round_25 rfl ?_
        refine PW_iload_n c_M_round_26 rfl ?_
        refine PW_V0 (d2 := 0) (st := []) [.int (nI j)] c_M_round_27 lk_M_round_286 (po_70 _ _) rfl rfl rfl (Nat.le_of_ble_eq_true rfl) (by first | decide | omega) (Nat.le_of_ble_eq_true rfl) ?_
        show PW _ _ _ 0 [some (.ref 70), some (.int (nI j))] [] (E x y)
        refine PW_aload_n c_M_rowFault_0 rfl ?_
        refine PW_get (v := .ref 104) c_M_rowFault_1 fl_M_111 (gf_70_53 _ _) ?_
        refine PW_iload_n c_M_rowFault_4 rfl ?_
        refine PW_iald (j := j) c_M_rowFault_5 (ar_104 _ _) (vp_in_nI hj (by decide)) (nI_clamp (by omega)) ?_
        show PW _ _ _ 6 [some (.ref 70), some (.int (nI j))] [.int ((y.2.1 104) j)] (E x y)
        refine PW_iconst (v := -1) c_M_rowFault_6 (by decide) ?_
        refine PW_icmp_ne c_M_rowFault_7 (fun h3 => absurd h3 (not_not_intro p1)) (fun h3 => ?_)
        refine PW_bipush (v := -11) c_M_rowFault_10 (by decide) ?_
        refine PW_goto c_M_rowFault_12 ?_
        refine PW_ireturn (ty := .int) c_M_rowFault_32 rfl rfl ?_
        show PW _ _ _ 30 [some (.ref 70), some (.int (nI j)), some (.int a2), some (.int 0), none] [.int (-11)] (E x y)
        refine PW_if_ge c_M_round_30 (fun h4 => absurd h4 (by decide)) (fun _ => ?_)
        refine PW_aload_n c_M_round_33 rfl ?_
        refine PW_iload_n c_M_round_34 rfl ?_
        refine PW_V0 (d2 := 0) (st := []) [.int (nI j)] c_M_round_35 lk_M_round_286 (po_70 _ _) rfl rfl rfl (Nat.le_of_ble_eq_true rfl) (by first | decide | omega) (Nat.le_of_ble_eq_true rfl) ?_
        show PW _ _ _ 0 [some (.ref 70), some (.int (nI j))] [] (E x y)
        refine PW_aload_n c_M_rowFault_0 rfl ?_
        refine PW_get (v := .ref 104) c_M_rowFault_1 fl_M_111 (gf_70_53 _ _) ?_
        refine PW_iload_n c_M_rowFault_4 rfl ?_
        refine PW_iald (j := j) c_M_rowFault_5 (ar_104 _ _) (vp_in_nI hj (by decide)) (nI_clamp (by omega)) ?_
        show PW _ _ _ 6 [some (.ref 70), some (.int (nI j))] [.int ((y.2.1 104) j)] (E x y)
        refine PW_iconst (v := -1) c_M_rowFault_6 (by decide) ?_
        refine PW_icmp_ne c_M_rowFault_7 (fun h5 => absurd h5 (not_not_intro p1)) (fun h5 => ?_)
        refine PW_bipush (v := -11) c_M_rowFault_10 (by decide) ?_
        refine PW_goto c_M_rowFault_12 ?_
        refine PW_ireturn (ty := .int) c_M_rowFault_32 rfl rfl ?_
        show PW _ _ _ 38 [some (.ref 70), some (.int (nI j)), some (.int a2), some (.int 0), none] [.int (-11)] (E x y)
        refine PW_ireturn (ty := .int) c_M_round_38 rfl rfl ?_
        exact h
    · refine ⟨-12, x, y, ?_, fun {z post} h => ?_, fun {z post} h => ?_⟩
      · exact INV_step hI
      · refine PW.deeper (k := (5, 0, 0, z)) (Nat.le_of_ble_eq_true rfl) (Nat.le_refl _) (Nat.le_refl _) ?_
        refine PW_aload_n c_G_round_0 rfl ?_
        refine PW_iload_n c_G_round_1 rfl ?_
        refine PW_V0 (d2 := 0) (st := []) [.int (nI j)] c_G_round_2 lk_G_round_102 (po_5 _ _) rfl rfl rfl (Nat.le_of_ble_eq_true rfl) (by first | decide | omega) (Nat.le_of_ble_eq_true rfl) ?_
        refine sp_shelf hj ?_
        show PW _ _ _ 5 [some (.ref 5), some (.int (nI j)), some (.int a2), some (.int 0), none, none, none, none] [.ref (58 + 2 * j)] (E x y)
        refine PW_astore (i := 4) (L2 := [some (.ref 5), some (.int (nI j)), some (.int a2), some (.int 0), some (.ref (58 + 2 * j)), none, none, none]) c_G_round_5 (Nat.le_of_ble_eq_true rfl) rfl rfl ?_
        refine PW_aload c_G_round_7 rfl ?_
        refine PW_ifnull c_G_round_9 ?_
        refine PW_iload_n c_G_round_12 rfl ?_
        refine PW_S0 (d2 := 1) (st := []) [.int a2] c_G_round_13 lk_G_round_163 rfl rfl rfl (Nat.le_of_ble_eq_true rfl) (by first | decide | omega) (Nat.le_of_ble_eq_true rfl) ?_
        refine sp_G_isRoomMinute  ?_
        show PW _ _ _ 16 [some (.ref 5), some (.int (nI j)), some (.int a2), some (.int 0), some (.ref (58 + 2 * j)), none, none, none] [.int (b2i (0 ≤ a2 ∧ 0 ≤ a2 / 100 ∧ a2 / 100 ≤ 4))] (E x y)
        refine PW_if_eq c_G_round_16 (fun h0 => absurd hc1 (b2i_0.mp h0)) (fun _ => ?_)
        refine PW_iload_n c_G_round_19 rfl ?_
        refine PW_if_lt c_G_round_20 (fun h1 => absurd h1 (by decide)) (fun _ => ?_)
        refine PW_iload_n c_G_round_23 rfl ?_
        refine PW_iconst (v := 2) c_G_round_24 (by decide) ?_
        refine PW_icmp_le c_G_round_25 (fun _ => ?_) (fun h2 => absurd (by decide) h2)
        refine PW_aload c_G_round_30 rfl ?_
        refine PW_V0 (d2 := 1) (st := []) [] c_G_round_32 lk_G_round_106 (sh_po _ _ hj) rfl rfl rfl (Nat.le_of_ble_eq_true rfl) (by first | decide | omega) (Nat.le_of_ble_eq_true rfl) ?_
        show PW _ _ _ 0 [some (.ref (58 + 2 * j))] [] (E x y)
        refine PW_aload_n c_F_bytesRefusal_0 rfl ?_
        refine PW_V0 (d2 := 0) (st := []) [] c_F_bytesRefusal_1 lk_F_bytesRefusal_37 (sh_po _ _ hj) rfl rfl rfl (Nat.le_of_ble_eq_true rfl) (by first | decide | omega) (Nat.le_of_ble_eq_true rfl) ?_
        refine sp_F_isEmpty hj  ?_
        show PW _ _ _ 4 [some (.ref (58 + 2 * j))] [.int (b2i (x.1 ((58 + 2 * j) * 8 + 1) = 0))] (E x y)
        refine PW_if_eq c_F_bytesRefusal_4 (fun _ => ?_) (fun h3 => absurd (b2i_n0.mp h3) p3)
        refine PW_aload_n c_F_bytesRefusal_10 rfl ?_
        refine PW_V0 (d2 := 0) (st := []) [] c_F_bytesRefusal_11 lk_F_bytesRefusal_41 (sh_po _ _ hj) rfl rfl rfl (Nat.le_of_ble_eq_true rfl) (by first | decide | omega) (Nat.le_of_ble_eq_true rfl) ?_
        refine sp_F_holdsBytes hj  ?_
        show PW _ _ _ 14 [some (.ref (58 + 2 * j))] [.int (b2i (x.1 ((58 + 2 * j) * 8 + 1) = 2 ∧ x.1 ((58 + 2 * j) * 8 + 3) = 0))] (E x y)
        refine PW_if_eq c_F_bytesRefusal_14 (fun _ => ?_) (fun h4 => absurd (b2i_n0.mp h4) p4)
        refine PW_bipush (v := -12) c_F_bytesRefusal_21 (by decide) ?_
        refine PW_ireturn (ty := .int) c_F_bytesRefusal_23 rfl rfl ?_
        show PW _ _ _ 35 [some (.ref 5), some (.int (nI j)), some (.int a2), some (.int 0), some (.ref (58 + 2 * j)), none, none, none] [.int (-12)] (E x y)
        refine PW_istore (i := 5) (L2 := [some (.ref 5), some (.int (nI j)), some (.int a2), some (.int 0), some (.ref (58 + 2 * j)), some (.int (-12)), none, none]) c_G_round_35 (Nat.le_of_ble_eq_true rfl) rfl rfl ?_
        refine PW_iload c_G_round_37 rfl ?_
        refine PW_if_eq c_G_round_39 (fun h5 => absurd h5 (by decide)) (fun _ => ?_)
        refine PW_iload c_G_round_42 rfl ?_
        refine PW_ireturn (ty := .int) c_G_round_44 rfl rfl ?_
        exact h
      · refine PW.deeper (k := (5, 0, 0, z)) (Nat.le_of_ble_eq_true rfl) (Nat.le_refl _) (Nat.le_refl _) ?_
        refine PW_iload_n c_M_round_0 rfl ?_
        refine PW_S0 (d2 := 1) (st := []) [.int (nI j)] c_M_round_1 lk_M_round_143 rfl rfl rfl (Nat.le_of_ble_eq_true rfl) (by first | decide | omega) (Nat.le_of_ble_eq_true rfl) ?_
        refine sp_M_isShelf2  ?_
        show PW _ _ _ 4 [some (.ref 70), some (.int (nI j)), some (.int a2), some (.int 0), none] [.int (b2i (0 ≤ (nI j).toInt ∧ (nI j).toInt < 6))] (E x y)
        refine PW_if_eq c_M_round_4 (fun h0 => absurd hjs (b2i_0.mp h0)) (fun _ => ?_)
        refine PW_iload_n c_M_round_7 rfl ?_
        refine PW_S0 (d2 := 2) (st := []) [.int a2] c_M_round_8 lk_M_round_283 rfl rfl rfl (Nat.le_of_ble_eq_true rfl) (by first | decide | omega) (Nat.le_of_ble_eq_true rfl) ?_
        refine sp_M_isTime  ?_
        show PW _ _ _ 11 [some (.ref 70), some (.int (nI j)), some (.int a2), some (.int 0), none] [.int (b2i (0 ≤ a2 ∧ 0 ≤ a2 / 100 ∧ a2 / 100 ≤ 4))] (E x y)
        refine PW_if_eq c_M_round_11 (fun h1 => absurd hc1 (b2i_0.mp h1)) (fun _ => ?_)
        refine PW_iload_n c_M_round_14 rfl ?_
        refine PW_iconst (v := 0) c_M_round_15 (by decide) ?_
        refine PW_iconst (v := 2) c_M_round_16 (by decide) ?_
        refine PW_S0 (d2 := 0) (st := []) [.int 0, .int 0, .int 2] c_M_round_17 lk_M_round_131 rfl rfl rfl (Nat.le_of_ble_eq_true rfl) (by first | decide | omega) (Nat.le_of_ble_eq_true rfl) ?_
        refine sp_M_within  ?_
        show PW _ _ _ 20 [some (.ref 70), some (.int (nI j)), some (.int a2), some (.int 0), none] [.int (b2i ((0 : Int32) ≤ (0 : Int32) ∧ (0 : Int32) ≤ (2 : Int32)))] (E x y)
        refine PW_if_ne c_M_round_20 (fun _ => ?_) (fun h2 => absurd (by decide) (b2i_0.mp h2))
        refine PW_aload_n c_M_round_25 rfl ?_
        refine PW_iload_n c_M_round_26 rfl ?_
        refine PW_V0 (d2 := 0) (st := []) [.int (nI j)] c_M_round_27 lk_M_round_286 (po_70 _ _) rfl rfl rfl (Nat.le_of_ble_eq_true rfl) (by first | decide | omega) (Nat.le_of_ble_eq_true rfl) ?_
        show PW _ _ _ 0 [some (.ref 70), some (.int (nI j))] [] (E x y)
        refine PW_aload_n c_M_rowFault_0 rfl ?_
        refine PW_get (v := .ref 104) c_M_rowFault_1 fl_M_111 (gf_70_53 _ _) ?_
        refine PW_iload_n c_M_rowFault_4 rfl ?_
        refine PW_iald (j := j) c_M_rowFault_5 (ar_104 _ _) (vp_in_nI hj (by decide)) (nI_clamp (by omega)) ?_
        show PW _ _ _ 6 [some (.ref 70), some (.int (nI j))] [.int ((y.2.1 104) j)] (E x y)
        refine PW_iconst (v := -1) c_M_rowFault_6 (by decide) ?_
        refine PW_icmp_ne c_M_rowFault_7 (fun h3 => ?_) (fun h3 => absurd h3 p1)
        refine PW_aload_n c_M_rowFault_15 rfl ?_
        refine PW_get (v := .ref 104) c_M_rowFault_16 fl_M_111 (gf_70_53 _ _) ?_
        refine PW_iload_n c_M_rowFault_19 rfl ?_
        refine PW_iald (j := j) c_M_rowFault_20 (ar_104 _ _) (vp_in_nI hj (by decide)) (nI_clamp (by omega)) ?_
        show PW _ _ _ 21 [some (.ref 70), some (.int (nI j))] [.int ((y.2.1 104) j)] (E x y)
        refine PW_bipush (v := -2) c_M_rowFault_21 (by decide) ?_
        refine PW_icmp_ne c_M_rowFault_23 (fun h4 => ?_) (fun h4 => absurd h4 p2)
        refine PW_bipush (v := -12) c_M_rowFault_30 (by decide) ?_
        refine PW_ireturn (ty := .int) c_M_rowFault_32 rfl rfl ?_
        show PW _ _ _ 30 [some (.ref 70), some (.int (nI j)), some (.int a2), some (.int 0), none] [.int (-12)] (E x y)
        refine PW_if_ge c_M_round_30 (fun h5 => absurd h5 (by decide)) (fun _ => ?_)
        refine PW_aload_n c_M_round_33 rfl ?_
        refine PW_iload_n c_M_round_34 rfl ?_
        refine PW_V0 (d2 := 0) (st := []) [.int (nI j)] c_M_round_35 lk_M_round_286 (po_70 _ _) rfl rfl rfl (Nat.le_of_ble_eq_true rfl) (by first | decide | omega) (Nat.le_of_ble_eq_true rfl) ?_
        show PW _ _ _ 0 [some (.ref 70), some (.int (nI j))] [] (E x y)
        refine PW_aload_n c_M_rowFault_0 rfl ?_
        refine PW_get (v := .ref 104) c_M_rowFault_1 fl_M_111 (gf_70_53 _ _) ?_
        refine PW_iload_n c_M_rowFault_4 rfl ?_
        refine PW_iald (j := j) c_M_rowFault_5 (ar_104 _ _) (vp_in_nI hj (by decide)) (nI_clamp (by omega)) ?_
        show PW _ _ _ 6 [some (.ref 70), some (.int (nI j))] [.int ((y.2.1 104) j)] (E x y)
        refine PW_iconst (v := -1) c_M_rowFault_6 (by decide) ?_
        refine PW_icmp_ne c_M_rowFault_7 (fun h6 => ?_) (fun h6 => absurd h6 p1)
        refine PW_aload_n c_M_rowFault_15 rfl ?_
        refine PW_get (v := .ref 104) c_M_rowFault_16 fl_M_111 (gf_70_53 _ _) ?_
        refine PW_iload_n c_M_rowFault_19 rfl ?_
        refine PW_iald (j := j) c_M_rowFault_20 (ar_104 _ _) (vp_in_nI hj (by decide)) (nI_clamp (by omega)) ?_
        show PW _ _ _ 21 [some (.ref 70), some (.int (nI j))] [.int ((y.2.1 104) j)] (E x y)
        refine PW_bipush (v := -2) c_M_rowFault_21 (by decide) ?_
        refine PW_icmp_ne c_M_rowFault_23 (fun h7 => ?_) (fun h7 => absurd h7 p2)
        refine PW_bipush (v := -12) c_M_rowFault_30 (by decide) ?_
        refine PW_ireturn (ty := .int) c_M_rowFault_32 rfl rfl ?_
        show PW _ _ _ 38 [some (.ref 70), some (.int (nI j)), some (.int a2), some (.int 0), none] [.int (-12)] (E x y)
        refine PW_ireturn (ty := .int) c_M_round_38 rfl rfl ?_
        exact h
    · have hLd := ldF_p (plF y j) n 12 0
      generalize hNd : ldF (plF y j) n 12 0 = N at hLd
      obtain ⟨-, hN12, hLd, hEd⟩ := hLd
      have hR1 : ∀ i, i < n → (x.2.2 (59 + 2 * j) i).toInt32 = plF y j i := fun i hi => (hP i hi).1
      obtain ⟨sb, fb⟩ := lvS_begin (X := x) (o := 31) (a := a) (m := nI mm) (t := 0)
      obtain ⟨XX, hXX, sX, aX, HG⟩ := lp_G_round (T := T) (a1 := nI j) (a2 := a2) (a3 := 0) (N := N) hg hT hj p4 p6 hn hR1 (by omega) (fun i hi => hLd i (Nat.zero_le _) hi) N 0 _ a (nI mm) 0 (Nat.zero_add _) (xS_frV fb (Or.inl rfl)) sb ha (by rw [nI_toInt (by omega)]; omega)
      obtain ⟨YY, hYY, sY, HM⟩ := lp_M_round (T := T) (x := XX) (x0 := x) (a2 := a2) (a3 := 0) (N := N) hg hT hj p5 hn (by omega) (fun i hi => hLd i (Nat.zero_le _) hi) (hEd.imp (fun q => by omega) id) N 0 (sI (sI (sI y 590 (nI a)) 591 (nI mm)) 592 0) a (nI mm) 0 (Nat.zero_add _) (yS_frG (Y' := sI (sI (sI y 590 (nI a)) 591 (nI mm)) 592 0) ⟨fun n h2 h3 h4 => by rw [sI_n h4, sI_n h3, sI_n h2], fun _ _ _ => rfl, rfl⟩) ⟨rfl, rfl, rfl⟩ ha
      have CX := CPg_S hg hXX (yS_0 y)
      have hWY : WG YY := (CPg_S hg (xS_0 x) hYY).1
      obtain ⟨g1, g2, g3, g4, g5, g6, g7⟩ := gE_fun (gE_S hYY)
      generalize hS : rdF T y (plF y j) N 0 (a, nI mm, 0) = S at sX aX HG sY HM
      refine ⟨S.2.1, XX, YY, ?_, fun {z post} h => ?_, fun {z post} h => ?_⟩
      · exact INV_step (INV_S hI hXX hYY)
      · refine PW.deeper (k := (5, 0, 0, z)) (Nat.le_of_ble_eq_true rfl) (Nat.le_refl _) (Nat.le_refl _) ?_
        refine PW_aload_n c_G_round_0 rfl ?_
        refine PW_iload_n c_G_round_1 rfl ?_
        refine PW_V0 (d2 := 0) (st := []) [.int (nI j)] c_G_round_2 lk_G_round_102 (po_5 _ _) rfl rfl rfl (Nat.le_of_ble_eq_true rfl) (by first | decide | omega) (Nat.le_of_ble_eq_true rfl) ?_
        refine sp_shelf hj ?_
        show PW _ _ _ 5 [some (.ref 5), some (.int (nI j)), some (.int a2), some (.int 0), none, none, none, none] [.ref (58 + 2 * j)] (E x y)
        refine PW_astore (i := 4) (L2 := [some (.ref 5), some (.int (nI j)), some (.int a2), some (.int 0), some (.ref (58 + 2 * j)), none, none, none]) c_G_round_5 (Nat.le_of_ble_eq_true rfl) rfl rfl ?_
        refine PW_aload c_G_round_7 rfl ?_
        refine PW_ifnull c_G_round_9 ?_
        refine PW_iload_n c_G_round_12 rfl ?_
        refine PW_S0 (d2 := 1) (st := []) [.int a2] c_G_round_13 lk_G_round_163 rfl rfl rfl (Nat.le_of_ble_eq_true rfl) (by first | decide | omega) (Nat.le_of_ble_eq_true rfl) ?_
        refine sp_G_isRoomMinute  ?_
        show PW _ _ _ 16 [some (.ref 5), some (.int (nI j)), some (.int a2), some (.int 0), some (.ref (58 + 2 * j)), none, none, none] [.int (b2i (0 ≤ a2 ∧ 0 ≤ a2 / 100 ∧ a2 / 100 ≤ 4))] (E x y)
        refine PW_if_eq c_G_round_16 (fun h0 => absurd hc1 (b2i_0.mp h0)) (fun _ => ?_)
        refine PW_iload_n c_G_round_19 rfl ?_
        refine PW_if_lt c_G_round_20 (fun h1 => absurd h1 (by decide)) (fun _ => ?_)
        refine PW_iload_n c_G_round_23 rfl ?_
        refine PW_iconst (v := 2) c_G_round_24 (by decide) ?_
        refine PW_icmp_le c_G_round_25 (fun _ => ?_) (fun h2 => absurd (by decide) h2)
        refine PW_aload c_G_round_30 rfl ?_
        refine PW_V0 (d2 := 1) (st := []) [] c_G_round_32 lk_G_round_106 (sh_po _ _ hj) rfl rfl rfl (Nat.le_of_ble_eq_true rfl) (by first | decide | omega) (Nat.le_of_ble_eq_true rfl) ?_
        show PW _ _ _ 0 [some (.ref (58 + 2 * j))] [] (E x y)
        refine PW_aload_n c_F_bytesRefusal_0 rfl ?_
        refine PW_V0 (d2 := 0) (st := []) [] c_F_bytesRefusal_1 lk_F_bytesRefusal_37 (sh_po _ _ hj) rfl rfl rfl (Nat.le_of_ble_eq_true rfl) (by first | decide | omega) (Nat.le_of_ble_eq_true rfl) ?_
        refine sp_F_isEmpty hj  ?_
        show PW _ _ _ 4 [some (.ref (58 + 2 * j))] [.int (b2i (x.1 ((58 + 2 * j) * 8 + 1) = 0))] (E x y)
        refine PW_if_eq c_F_bytesRefusal_4 (fun _ => ?_) (fun h3 => absurd (b2i_n0.mp h3) p3)
        refine PW_aload_n c_F_bytesRefusal_10 rfl ?_
        refine PW_V0 (d2 := 0) (st := []) [] c_F_bytesRefusal_11 lk_F_bytesRefusal_41 (sh_po _ _ hj) rfl rfl rfl (Nat.le_of_ble_eq_true rfl) (by first | decide | omega) (Nat.le_of_ble_eq_true rfl) ?_
        refine sp_F_holdsBytes hj  ?_
        show PW _ _ _ 14 [some (.ref (58 + 2 * j))] [.int (b2i (x.1 ((58 + 2 * j) * 8 + 1) = 2 ∧ x.1 ((58 + 2 * j) * 8 + 3) = 0))] (E x y)
        refine PW_if_eq c_F_bytesRefusal_14 (fun h4 => absurd p4 (b2i_0.mp h4)) (fun _ => ?_)
        refine PW_iconst (v := 0) c_F_bytesRefusal_17 (by decide) ?_
        refine PW_goto c_F_bytesRefusal_18 ?_
        refine PW_ireturn (ty := .int) c_F_bytesRefusal_23 rfl rfl ?_
        show PW _ _ _ 35 [some (.ref 5), some (.int (nI j)), some (.int a2), some (.int 0), some (.ref (58 + 2 * j)), none, none, none] [.int 0] (E x y)
        refine PW_istore (i := 5) (L2 := [some (.ref 5), some (.int (nI j)), some (.int a2), some (.int 0), some (.ref (58 + 2 * j)), some (.int 0), none, none]) c_G_round_35 (Nat.le_of_ble_eq_true rfl) rfl rfl ?_
        refine PW_iload c_G_round_37 rfl ?_
        refine PW_if_eq c_G_round_39 (fun _ => ?_) (fun h5 => absurd (by decide) h5)
        refine PW_aload_n c_G_round_45 rfl ?_
        refine PW_get (v := .ref 31) c_G_round_46 fl_G_35 (gf_5_3 _ _) ?_
        refine PW_iload_n c_G_round_49 rfl ?_
        refine PW_bipush (v := 100) c_G_round_50 (by decide) ?_
        refine PW_idiv c_G_round_52 (by decide) ?_
        refine PW_iload_n c_G_round_53 rfl ?_
        refine PW_bipush (v := 100) c_G_round_54 (by decide) ?_
        refine PW_irem c_G_round_56 (by decide) ?_
        refine PW_V0 (d2 := 1) (st := []) [.int (a2 / 100), .int (a2 - a2 / 100 * 100)] c_G_round_57 lk_G_round_166 (po_31 _ _) rfl rfl rfl (Nat.le_of_ble_eq_true rfl) (by first | decide | omega) (Nat.le_of_ble_eq_true rfl) ?_
        show PW _ _ _ 0 [some (.ref 31), some (.int (a2 / 100)), some (.int (a2 - a2 / 100 * 100))] [] (E x y)
        refine PW_aload_n c_V_begin_0 rfl ?_
        refine PW_iload_n c_V_begin_1 rfl ?_
        refine PW_iload_n c_V_begin_2 rfl ?_
        refine PW_iconst (v := 0) c_V_begin_3 (by decide) ?_
        refine PW_V0 (d2 := 0) (st := []) [.int (a2 / 100), .int (a2 - a2 / 100 * 100), .int 0] c_V_begin_4 lk_V_begin_19 (po_31 _ _) rfl rfl rfl (Nat.le_of_ble_eq_true rfl) (by first | decide | omega) (Nat.le_of_ble_eq_true rfl) ?_
        show PW _ _ _ 0 [some (.ref 31), some (.int (a2 / 100)), some (.int (a2 - a2 / 100 * 100)), some (.int 0)] [] (E x y)
        refine PW_aload_n c_V_stand_0 rfl ?_
        refine PW_iload_n c_V_stand_1 rfl ?_
        refine PW_put (w2 := E (sI x 250 (a2 / 100)) y) c_V_stand_2 fp_V_stand_23 rfl (pf_31_2 _ _ _) ?_
        refine PW_aload_n c_V_stand_5 rfl ?_
        refine PW_iload_n c_V_stand_6 rfl ?_
        refine PW_put (w2 := E (sI (sI x 250 (a2 / 100)) 251 (a2 - a2 / 100 * 100)) y) c_V_stand_7 fp_V_stand_27 rfl (pf_31_3 _ _ _) ?_
        refine PW_aload_n c_V_stand_10 rfl ?_
        refine PW_iload_n c_V_stand_11 rfl ?_
        refine PW_put (w2 := E (sI (sI (sI x 250 (a2 / 100)) 251 (a2 - a2 / 100 * 100)) 252 0) y) c_V_stand_12 fp_V_stand_30 rfl (pf_31_4 _ _ _) ?_
        refine PW_vreturn c_V_stand_15 rfl ?_
        show PW _ _ _ 7 [some (.ref 31), some (.int (a2 / 100)), some (.int (a2 - a2 / 100 * 100))] [] (E (sI (sI (sI x 250 (a2 / 100)) 251 (a2 - a2 / 100 * 100)) 252 0) y)
        refine PW_vreturn c_V_begin_7 rfl ?_
        show PW _ _ _ 60 [some (.ref 5), some (.int (nI j)), some (.int a2), some (.int 0), some (.ref (58 + 2 * j)), some (.int 0), none, none] [] (E (sI (sI (sI x 250 (a2 / 100)) 251 (a2 - a2 / 100 * 100)) 252 0) y)
        refine PW_aload c_G_round_60 rfl ?_
        refine PW_V0 (d2 := 3) (st := []) [] c_G_round_62 lk_G_round_170 (sh_po _ _ hj) rfl rfl rfl (Nat.le_of_ble_eq_true rfl) (by first | decide | omega) (Nat.le_of_ble_eq_true rfl) ?_
        refine sp_F_lead (gs := plF y j) hj (⟨(by rw [sI_n (by omega), sI_n (by omega), sI_n (by omega)]; exact p4.1), (by rw [sI_n (by omega), sI_n (by omega), sI_n (by omega)]; exact p4.2)⟩) (by rw [sI_n (by omega), sI_n (by omega), sI_n (by omega)]; exact p6) hn (fun i hi => (hP i hi).1) ?_
        rw [hNd]
        show PW _ _ _ 65 [some (.ref 5), some (.int (nI j)), some (.int a2), some (.int 0), some (.ref (58 + 2 * j)), some (.int 0), none, none] [.int (nI N)] (E (sI (sI (sI x 250 (a2 / 100)) 251 (a2 - a2 / 100 * 100)) 252 0) y)
        refine PW_istore (i := 6) (L2 := [some (.ref 5), some (.int (nI j)), some (.int a2), some (.int 0), some (.ref (58 + 2 * j)), some (.int 0), some (.int (nI N)), none]) c_G_round_65 (Nat.le_of_ble_eq_true rfl) rfl rfl ?_
        refine PW_iconst (v := 0) c_G_round_67 (by decide) ?_
        refine PW_istore (i := 7) (L2 := [some (.ref 5), some (.int (nI j)), some (.int a2), some (.int 0), some (.ref (58 + 2 * j)), some (.int 0), some (.int (nI N)), some (.int 0)]) c_G_round_68 (Nat.le_of_ble_eq_true rfl) rfl rfl ?_
        refine PW.eqL ?_ rfl ?_ (HG ?_)
        · rfl
        · rw [em, ea]
        · show PW _ _ _ 106 [some (.ref 5), some (.int (nI j)), some (.int a2), some (.int 0), some (.ref (58 + 2 * j)), some (.int 0), some (.int (nI N)), some (.int (nI N))] [] (E XX y)
          refine PW_iload_n c_G_round_106 rfl ?_
          refine PW_if_ne c_G_round_107 (fun h0 => absurd (by decide) h0) (fun _ => ?_)
          refine PW_aload_n c_G_round_110 rfl ?_
          refine PW_get (v := .ref 31) c_G_round_111 fl_G_35 (gf_5_3 _ _) ?_
          refine PW_V0 (d2 := 0) (st := []) [] c_G_round_114 lk_G_round_180 (po_31 _ _) rfl rfl rfl (Nat.le_of_ble_eq_true rfl) (by first | decide | omega) (Nat.le_of_ble_eq_true rfl) ?_
          show PW _ _ _ 0 [some (.ref 31)] [] (E XX y)
          refine PW_aload_n c_V_minute_0 rfl ?_
          refine PW_get (v := .int (XX.1 251)) c_V_minute_1 fl_V_27 (gf_31_3 _ _) ?_
          refine PW_ireturn (ty := .int) c_V_minute_4 rfl rfl ?_
          show PW _ _ _ 117 [some (.ref 5), some (.int (nI j)), some (.int a2), some (.int 0), some (.ref (58 + 2 * j)), some (.int 0), some (.int (nI N)), some (.int (nI N))] [.int (XX.1 251)] (E XX y)
          refine PW_ireturn (ty := .int) c_G_round_117 rfl rfl ?_
          exact pqi h sX.2.1.symm
      · refine PW.deeper (k := (5, 0, 0, z)) (Nat.le_of_ble_eq_true rfl) (Nat.le_refl _) (Nat.le_refl _) ?_
        refine PW_iload_n c_M_round_0 rfl ?_
        refine PW_S0 (d2 := 1) (st := []) [.int (nI j)] c_M_round_1 lk_M_round_143 rfl rfl rfl (Nat.le_of_ble_eq_true rfl) (by first | decide | omega) (Nat.le_of_ble_eq_true rfl) ?_
        refine sp_M_isShelf2  ?_
        show PW _ _ _ 4 [some (.ref 70), some (.int (nI j)), some (.int a2), some (.int 0), none] [.int (b2i (0 ≤ (nI j).toInt ∧ (nI j).toInt < 6))] (E XX y)
        refine PW_if_eq c_M_round_4 (fun h0 => absurd hjs (b2i_0.mp h0)) (fun _ => ?_)
        refine PW_iload_n c_M_round_7 rfl ?_
        refine PW_S0 (d2 := 2) (st := []) [.int a2] c_M_round_8 lk_M_round_283 rfl rfl rfl (Nat.le_of_ble_eq_true rfl) (by first | decide | omega) (Nat.le_of_ble_eq_true rfl) ?_
        refine sp_M_isTime  ?_
        show PW _ _ _ 11 [some (.ref 70), some (.int (nI j)), some (.int a2), some (.int 0), none] [.int (b2i (0 ≤ a2 ∧ 0 ≤ a2 / 100 ∧ a2 / 100 ≤ 4))] (E XX y)
        refine PW_if_eq c_M_round_11 (fun h1 => absurd hc1 (b2i_0.mp h1)) (fun _ => ?_)
        refine PW_iload_n c_M_round_14 rfl ?_
        refine PW_iconst (v := 0) c_M_round_15 (by decide) ?_
        refine PW_iconst (v := 2) c_M_round_16 (by decide) ?_
        refine PW_S0 (d2 := 0) (st := []) [.int 0, .int 0, .int 2] c_M_round_17 lk_M_round_131 rfl rfl rfl (Nat.le_of_ble_eq_true rfl) (by first | decide | omega) (Nat.le_of_ble_eq_true rfl) ?_
        refine sp_M_within  ?_
        show PW _ _ _ 20 [some (.ref 70), some (.int (nI j)), some (.int a2), some (.int 0), none] [.int (b2i ((0 : Int32) ≤ (0 : Int32) ∧ (0 : Int32) ≤ (2 : Int32)))] (E XX y)
        refine PW_if_ne c_M_round_20 (fun _ => ?_) (fun h2 => absurd (by decide) (b2i_0.mp h2))
        refine PW_aload_n c_M_round_25 rfl ?_
        refine PW_iload_n c_M_round_26 rfl ?_
        refine PW_V0 (d2 := 0) (st := []) [.int (nI j)] c_M_round_27 lk_M_round_286 (po_70 _ _) rfl rfl rfl (Nat.le_of_ble_eq_true rfl) (by first | decide | omega) (Nat.le_of_ble_eq_true rfl) ?_
        show PW _ _ _ 0 [some (.ref 70), some (.int (nI j))] [] (E XX y)
        refine PW_aload_n c_M_rowFault_0 rfl ?_
        refine PW_get (v := .ref 104) c_M_rowFault_1 fl_M_111 (gf_70_53 _ _) ?_
        refine PW_iload_n c_M_rowFault_4 rfl ?_
        refine PW_iald (j := j) c_M_rowFault_5 (ar_104 _ _) (vp_in_nI hj (by decide)) (nI_clamp (by omega)) ?_
        show PW _ _ _ 6 [some (.ref 70), some (.int (nI j))] [.int ((y.2.1 104) j)] (E XX y)
        refine PW_iconst (v := -1) c_M_rowFault_6 (by decide) ?_
        refine PW_icmp_ne c_M_rowFault_7 (fun h3 => ?_) (fun h3 => absurd h3 p1)
        refine PW_aload_n c_M_rowFault_15 rfl ?_
        refine PW_get (v := .ref 104) c_M_rowFault_16 fl_M_111 (gf_70_53 _ _) ?_
        refine PW_iload_n c_M_rowFault_19 rfl ?_
        refine PW_iald (j := j) c_M_rowFault_20 (ar_104 _ _) (vp_in_nI hj (by decide)) (nI_clamp (by omega)) ?_
        show PW _ _ _ 21 [some (.ref 70), some (.int (nI j))] [.int ((y.2.1 104) j)] (E XX y)
        refine PW_bipush (v := -2) c_M_rowFault_21 (by decide) ?_
        refine PW_icmp_ne c_M_rowFault_23 (fun h4 => absurd h4 (not_not_intro p2)) (fun h4 => ?_)
        refine PW_iconst (v := 0) c_M_rowFault_26 (by decide) ?_
        refine PW_goto c_M_rowFault_27 ?_
        refine PW_ireturn (ty := .int) c_M_rowFault_32 rfl rfl ?_
        show PW _ _ _ 30 [some (.ref 70), some (.int (nI j)), some (.int a2), some (.int 0), none] [.int 0] (E XX y)
        refine PW_if_ge c_M_round_30 (fun _ => ?_) (fun h5 => absurd (by decide) h5)
        refine PW_aload_n c_M_round_39 rfl ?_
        refine PW_iload_n c_M_round_40 rfl ?_
        refine PW_bipush (v := 100) c_M_round_41 (by decide) ?_
        refine PW_idiv c_M_round_43 (by decide) ?_
        refine PW_iload_n c_M_round_44 rfl ?_
        refine PW_bipush (v := 100) c_M_round_45 (by decide) ?_
        refine PW_irem c_M_round_47 (by decide) ?_
        refine PW_V0 (d2 := 0) (st := []) [.int (a2 / 100), .int (a2 - a2 / 100 * 100)] c_M_round_48 lk_M_round_289 (po_70 _ _) rfl rfl rfl (Nat.le_of_ble_eq_true rfl) (by first | decide | omega) (Nat.le_of_ble_eq_true rfl) ?_
        show PW _ _ _ 0 [some (.ref 70), some (.int (a2 / 100)), some (.int (a2 - a2 / 100 * 100))] [] (E XX y)
        refine PW_aload_n c_M_begin_0 rfl ?_
        refine PW_iload_n c_M_begin_1 rfl ?_
        refine PW_put (w2 := E XX (sI y 590 (a2 / 100))) c_M_begin_2 fp_M_begin_265 rfl (pf_70_30 _ _ _) ?_
        refine PW_aload_n c_M_begin_5 rfl ?_
        refine PW_iload_n c_M_begin_6 rfl ?_
        refine PW_put (w2 := E XX (sI (sI y 590 (a2 / 100)) 591 (a2 - a2 / 100 * 100))) c_M_begin_7 fp_M_begin_268 rfl (pf_70_31 _ _ _) ?_
        refine PW_aload_n c_M_begin_10 rfl ?_
        refine PW_iconst (v := 0) c_M_begin_11 (by decide) ?_
        refine PW_put (w2 := E XX (sI (sI (sI y 590 (a2 / 100)) 591 (a2 - a2 / 100 * 100)) 592 0)) c_M_begin_12 fp_M_begin_271 rfl (pf_70_32 _ _ _) ?_
        refine PW_vreturn c_M_begin_15 rfl ?_
        show PW _ _ _ 51 [some (.ref 70), some (.int (nI j)), some (.int a2), some (.int 0), none] [] (E XX (sI (sI (sI y 590 (a2 / 100)) 591 (a2 - a2 / 100 * 100)) 592 0))
        refine PW_iconst (v := 0) c_M_round_51 (by decide) ?_
        refine PW_istore (i := 4) (L2 := [some (.ref 70), some (.int (nI j)), some (.int a2), some (.int 0), some (.int 0)]) c_M_round_52 (Nat.le_of_ble_eq_true rfl) rfl rfl ?_
        refine PW.eqL ?_ rfl ?_ (HM ?_)
        · rfl
        · rw [em, ea]
        · show PW _ _ _ 102 [some (.ref 70), some (.int (nI j)), some (.int a2), some (.int 0), some (.int (nI N))] [] (E XX YY)
          refine PW_iload_n c_M_round_102 rfl ?_
          refine PW_if_ne c_M_round_103 (fun h0 => absurd (by decide) h0) (fun _ => ?_)
          refine PW_aload_n c_M_round_106 rfl ?_
          refine PW_get (v := .int (YY.1 591)) c_M_round_107 fl_M_268 (gf_70_31 _ _) ?_
          refine PW_goto c_M_round_110 ?_
          refine PW_ireturn (ty := .int) c_M_round_136 rfl rfl ?_
          exact pqi h sY.2.1.symm
  by_cases hw1 : a3 = 1
  · subst hw1
    rcases sh_cases (hs j hj) with ⟨p1, p2⟩ | ⟨p1, p2, p3, p4⟩ | ⟨p1, p2, p3, p4, n, hn, p5, p6, hP⟩
    · refine ⟨-11, x, y, ?_, fun {z post} h => ?_, fun {z post} h => ?_⟩
      · exact INV_step hI
      · refine PW.deeper (k := (5, 0, 0, z)) (Nat.le_of_ble_eq_true rfl) (Nat.le_refl _) (Nat.le_refl _) ?_
        refine PW_aload_n c_G_round_0 rfl ?_
        refine PW_iload_n c_G_round_1 rfl ?_
        refine PW_V0 (d2 := 0) (st := []) [.int (nI j)] c_G_round_2 lk_G_round_102 (po_5 _ _) rfl rfl rfl (Nat.le_of_ble_eq_true rfl) (by first | decide | omega) (Nat.le_of_ble_eq_true rfl) ?_
        refine sp_shelf hj ?_
        show PW _ _ _ 5 [some (.ref 5), some (.int (nI j)), some (.int a2), some (.int 1), none, none, none, none] [.ref (58 + 2 * j)] (E x y)
        refine PW_astore (i := 4) (L2 := [some (.ref 5), some (.int (nI j)), some (.int a2), some (.int 1), some (.ref (58 + 2 * j)), none, none, none]) c_G_round_5 (Nat.le_of_ble_eq_true rfl) rfl rfl ?_
        refine PW_aload c_G_round_7 rfl ?_
        refine PW_ifnull c_G_round_9 ?_
        refine PW_iload_n c_G_round_12 rfl ?_
        refine PW_S0 (d2 := 1) (st := []) [.int a2] c_G_round_13 lk_G_round_163 rfl rfl rfl (Nat.le_of_ble_eq_true rfl) (by first | decide | omega) (Nat.le_of_ble_eq_true rfl) ?_
        refine sp_G_isRoomMinute  ?_
        show PW _ _ _ 16 [some (.ref 5), some (.int (nI j)), some (.int a2), some (.int 1), some (.ref (58 + 2 * j)), none, none, none] [.int (b2i (0 ≤ a2 ∧ 0 ≤ a2 / 100 ∧ a2 / 100 ≤ 4))] (E x y)
        refine PW_if_eq c_G_round_16 (fun h0 => absurd hc1 (b2i_0.mp h0)) (fun _ => ?_)
        refine PW_iload_n c_G_round_19 rfl ?_
        refine PW_if_lt c_G_round_20 (fun h1 => absurd h1 (by decide)) (fun _ => ?_)
        refine PW_iload_n c_G_round_23 rfl ?_
        refine PW_iconst (v := 2) c_G_round_24 (by decide) ?_
        refine PW_icmp_le c_G_round_25 (fun _ => ?_) (fun h2 => absurd (by decide) h2)
        refine PW_aload c_G_round_30 rfl ?_
        refine PW_V0 (d2 := 1) (st := []) [] c_G_round_32 lk_G_round_106 (sh_po _ _ hj) rfl rfl rfl (Nat.le_of_ble_eq_true rfl) (by first | decide | omega) (Nat.le_of_ble_eq_true rfl) ?_
        show PW _ _ _ 0 [some (.ref (58 + 2 * j))] [] (E x y)
        refine PW_aload_n c_F_bytesRefusal_0 rfl ?_
        refine PW_V0 (d2 := 0) (st := []) [] c_F_bytesRefusal_1 lk_F_bytesRefusal_37 (sh_po _ _ hj) rfl rfl rfl (Nat.le_of_ble_eq_true rfl) (by first | decide | omega) (Nat.le_of_ble_eq_true rfl) ?_
        refine sp_F_isEmpty hj  ?_
        show PW _ _ _ 4 [some (.ref (58 + 2 * j))] [.int (b2i (x.1 ((58 + 2 * j) * 8 + 1) = 0))] (E x y)
        refine PW_if_eq c_F_bytesRefusal_4 (fun h3 => absurd p2 (b2i_0.mp h3)) (fun _ => ?_)
        refine PW_bipush (v := -11) c_F_bytesRefusal_7 (by decide) ?_
        refine PW_ireturn (ty := .int) c_F_bytesRefusal_9 rfl rfl ?_
        show PW _ _ _ 35 [some (.ref 5), some (.int (nI j)), some (.int a2), some (.int 1), some (.ref (58 + 2 * j)), none, none, none] [.int (-11)] (E x y)
        refine PW_istore (i := 5) (L2 := [some (.ref 5), some (.int (nI j)), some (.int a2), some (.int 1), some (.ref (58 + 2 * j)), some (.int (-11)), none, none]) c_G_round_35 (Nat.le_of_ble_eq_true rfl) rfl rfl ?_
        refine PW_iload c_G_round_37 rfl ?_
        refine PW_if_eq c_G_round_39 (fun h4 => absurd h4 (by decide)) (fun _ => ?_)
        refine PW_iload c_G_round_42 rfl ?_
        refine PW_ireturn (ty := .int) c_G_round_44 rfl rfl ?_
        exact h
      · refine PW.deeper (k := (5, 0, 0, z)) (Nat.le_of_ble_eq_true rfl) (Nat.le_refl _) (Nat.le_refl _) ?_
        refine PW_iload_n c_M_round_0 rfl ?_
        refine PW_S0 (d2 := 1) (st := []) [.int (nI j)] c_M_round_1 lk_M_round_143 rfl rfl rfl (Nat.le_of_ble_eq_true rfl) (by first | decide | omega) (Nat.le_of_ble_eq_true rfl) ?_
        refine sp_M_isShelf2  ?_
        show PW _ _ _ 4 [some (.ref 70), some (.int (nI j)), some (.int a2), some (.int 1), none] [.int (b2i (0 ≤ (nI j).toInt ∧ (nI j).toInt < 6))] (E x y)
        refine PW_if_eq c_M_round_4 (fun h0 => absurd hjs (b2i_0.mp h0)) (fun _ => ?_)
        refine PW_iload_n c_M_round_7 rfl ?_
        refine PW_S0 (d2 := 2) (st := []) [.int a2] c_M_round_8 lk_M_round_283 rfl rfl rfl (Nat.le_of_ble_eq_true rfl) (by first | decide | omega) (Nat.le_of_ble_eq_true rfl) ?_
        refine sp_M_isTime  ?_
        show PW _ _ _ 11 [some (.ref 70), some (.int (nI j)), some (.int a2), some (.int 1), none] [.int (b2i (0 ≤ a2 ∧ 0 ≤ a2 / 100 ∧ a2 / 100 ≤ 4))] (E x y)
        refine PW_if_eq c_M_round_11 (fun h1 => absurd hc1 (b2i_0.mp h1)) (fun _ => ?_)
        refine PW_iload_n c_M_round_14 rfl ?_
        refine PW_iconst (v := 0) c_M_round_15 (by decide) ?_
        refine PW_iconst (v := 2) c_M_round_16 (by decide) ?_
        refine PW_S0 (d2 := 0) (st := []) [.int 1, .int 0, .int 2] c_M_round_17 lk_M_round_131 rfl rfl rfl (Nat.le_of_ble_eq_true rfl) (by first | decide | omega) (Nat.le_of_ble_eq_true rfl) ?_
        refine sp_M_within  ?_
        show PW _ _ _ 20 [some (.ref 70), some (.int (nI j)), some (.int a2), some (.int 1), none] [.int (b2i ((0 : Int32) ≤ (1 : Int32) ∧ (1 : Int32) ≤ (2 : Int32)))] (E x y)
        refine PW_if_ne c_M_round_20 (fun _ => ?_) (fun h2 => absurd (by decide) (b2i_0.mp h2))
        refine PW_aload_n c_M_round_25 rfl ?_
        refine PW_iload_n c_M_round_26 rfl ?_
        refine PW_V0 (d2 := 0) (st := []) [.int (nI j)] c_M_round_27 lk_M_round_286 (po_70 _ _) rfl rfl rfl (Nat.le_of_ble_eq_true rfl) (by first | decide | omega) (Nat.le_of_ble_eq_true rfl) ?_
        show PW _ _ _ 0 [some (.ref 70), some (.int (nI j))] [] (E x y)
        refine PW_aload_n c_M_rowFault_0 rfl ?_
        refine PW_get (v := .ref 104) c_M_rowFault_1 fl_M_111 (gf_70_53 _ _) ?_
        refine PW_iload_n c_M_rowFault_4 rfl ?_
        refine PW_iald (j := j) c_M_rowFault_5 (ar_104 _ _) (vp_in_nI hj (by decide)) (nI_clamp (by omega)) ?_
        show PW _ _ _ 6 [some (.ref 70), some (.int (nI j))] [.int ((y.2.1 104) j)] (E x y)
        refine PW_iconst (v := -1) c_M_rowFault_6 (by decide) ?_
        refine PW_icmp_ne c_M_rowFault_7 (fun h3 => absurd h3 (not_not_intro p1)) (fun h3 => ?_)
        refine PW_bipush (v := -11) c_M_rowFault_10 (by decide) ?_
        refine PW_goto c_M_rowFault_12 ?_
        refine PW_ireturn (ty := .int) c_M_rowFault_32 rfl rfl ?_
        show PW _ _ _ 30 [some (.ref 70), some (.int (nI j)), some (.int a2), some (.int 1), none] [.int (-11)] (E x y)
        refine PW_if_ge c_M_round_30 (fun h4 => absurd h4 (by decide)) (fun _ => ?_)
        refine PW_aload_n c_M_round_33 rfl ?_
        refine PW_iload_n c_M_round_34 rfl ?_
        refine PW_V0 (d2 := 0) (st := []) [.int (nI j)] c_M_round_35 lk_M_round_286 (po_70 _ _) rfl rfl rfl (Nat.le_of_ble_eq_true rfl) (by first | decide | omega) (Nat.le_of_ble_eq_true rfl) ?_
        show PW _ _ _ 0 [some (.ref 70), some (.int (nI j))] [] (E x y)
        refine PW_aload_n c_M_rowFault_0 rfl ?_
        refine PW_get (v := .ref 104) c_M_rowFault_1 fl_M_111 (gf_70_53 _ _) ?_
        refine PW_iload_n c_M_rowFault_4 rfl ?_
        refine PW_iald (j := j) c_M_rowFault_5 (ar_104 _ _) (vp_in_nI hj (by decide)) (nI_clamp (by omega)) ?_
        show PW _ _ _ 6 [some (.ref 70), some (.int (nI j))] [.int ((y.2.1 104) j)] (E x y)
        refine PW_iconst (v := -1) c_M_rowFault_6 (by decide) ?_
        refine PW_icmp_ne c_M_rowFault_7 (fun h5 => absurd h5 (not_not_intro p1)) (fun h5 => ?_)
        refine PW_bipush (v := -11) c_M_rowFault_10 (by decide) ?_
        refine PW_goto c_M_rowFault_12 ?_
        refine PW_ireturn (ty := .int) c_M_rowFault_32 rfl rfl ?_
        show PW _ _ _ 38 [some (.ref 70), some (.int (nI j)), some (.int a2), some (.int 1), none] [.int (-11)] (E x y)
        refine PW_ireturn (ty := .int) c_M_round_38 rfl rfl ?_
        exact h
    · refine ⟨-12, x, y, ?_, fun {z post} h => ?_, fun {z post} h => ?_⟩
      · exact INV_step hI
      · refine PW.deeper (k := (5, 0, 0, z)) (Nat.le_of_ble_eq_true rfl) (Nat.le_refl _) (Nat.le_refl _) ?_
        refine PW_aload_n c_G_round_0 rfl ?_
        refine PW_iload_n c_G_round_1 rfl ?_
        refine PW_V0 (d2 := 0) (st := []) [.int (nI j)] c_G_round_2 lk_G_round_102 (po_5 _ _) rfl rfl rfl (Nat.le_of_ble_eq_true rfl) (by first | decide | omega) (Nat.le_of_ble_eq_true rfl) ?_
        refine sp_shelf hj ?_
        show PW _ _ _ 5 [some (.ref 5), some (.int (nI j)), some (.int a2), some (.int 1), none, none, none, none] [.ref (58 + 2 * j)] (E x y)
        refine PW_astore (i := 4) (L2 := [some (.ref 5), some (.int (nI j)), some (.int a2), some (.int 1), some (.ref (58 + 2 * j)), none, none, none]) c_G_round_5 (Nat.le_of_ble_eq_true rfl) rfl rfl ?_
        refine PW_aload c_G_round_7 rfl ?_
        refine PW_ifnull c_G_round_9 ?_
        refine PW_iload_n c_G_round_12 rfl ?_
        refine PW_S0 (d2 := 1) (st := []) [.int a2] c_G_round_13 lk_G_round_163 rfl rfl rfl (Nat.le_of_ble_eq_true rfl) (by first | decide | omega) (Nat.le_of_ble_eq_true rfl) ?_
        refine sp_G_isRoomMinute  ?_
        show PW _ _ _ 16 [some (.ref 5), some (.int (nI j)), some (.int a2), some (.int 1), some (.ref (58 + 2 * j)), none, none, none] [.int (b2i (0 ≤ a2 ∧ 0 ≤ a2 / 100 ∧ a2 / 100 ≤ 4))] (E x y)
        refine PW_if_eq c_G_round_16 (fun h0 => absurd hc1 (b2i_0.mp h0)) (fun _ => ?_)
        refine PW_iload_n c_G_round_19 rfl ?_
        refine PW_if_lt c_G_round_20 (fun h1 => absurd h1 (by decide)) (fun _ => ?_)
        refine PW_iload_n c_G_round_23 rfl ?_
        refine PW_iconst (v := 2) c_G_round_24 (by decide) ?_
        refine PW_icmp_le c_G_round_25 (fun _ => ?_) (fun h2 => absurd (by decide) h2)
        refine PW_aload c_G_round_30 rfl ?_
        refine PW_V0 (d2 := 1) (st := []) [] c_G_round_32 lk_G_round_106 (sh_po _ _ hj) rfl rfl rfl (Nat.le_of_ble_eq_true rfl) (by first | decide | omega) (Nat.le_of_ble_eq_true rfl) ?_
        show PW _ _ _ 0 [some (.ref (58 + 2 * j))] [] (E x y)
        refine PW_aload_n c_F_bytesRefusal_0 rfl ?_
        refine PW_V0 (d2 := 0) (st := []) [] c_F_bytesRefusal_1 lk_F_bytesRefusal_37 (sh_po _ _ hj) rfl rfl rfl (Nat.le_of_ble_eq_true rfl) (by first | decide | omega) (Nat.le_of_ble_eq_true rfl) ?_
        refine sp_F_isEmpty hj  ?_
        show PW _ _ _ 4 [some (.ref (58 + 2 * j))] [.int (b2i (x.1 ((58 + 2 * j) * 8 + 1) = 0))] (E x y)
        refine PW_if_eq c_F_bytesRefusal_4 (fun _ => ?_) (fun h3 => absurd (b2i_n0.mp h3) p3)
        refine PW_aload_n c_F_bytesRefusal_10 rfl ?_
        refine PW_V0 (d2 := 0) (st := []) [] c_F_bytesRefusal_11 lk_F_bytesRefusal_41 (sh_po _ _ hj) rfl rfl rfl (Nat.le_of_ble_eq_true rfl) (by first | decide | omega) (Nat.le_of_ble_eq_true rfl) ?_
        refine sp_F_holdsBytes hj  ?_
        show PW _ _ _ 14 [some (.ref (58 + 2 * j))] [.int (b2i (x.1 ((58 + 2 * j) * 8 + 1) = 2 ∧ x.1 ((58 + 2 * j) * 8 + 3) = 0))] (E x y)
        refine PW_if_eq c_F_bytesRefusal_14 (fun _ => ?_) (fun h4 => absurd (b2i_n0.mp h4) p4)
        refine PW_bipush (v := -12) c_F_bytesRefusal_21 (by decide) ?_
        refine PW_ireturn (ty := .int) c_F_bytesRefusal_23 rfl rfl ?_
        show PW _ _ _ 35 [some (.ref 5), some (.int (nI j)), some (.int a2), some (.int 1), some (.ref (58 + 2 * j)), none, none, none] [.int (-12)] (E x y)
        refine PW_istore (i := 5) (L2 := [some (.ref 5), some (.int (nI j)), some (.int a2), some (.int 1), some (.ref (58 + 2 * j)), some (.int (-12)), none, none]) c_G_round_35 (Nat.le_of_ble_eq_true rfl) rfl rfl ?_
        refine PW_iload c_G_round_37 rfl ?_
        refine PW_if_eq c_G_round_39 (fun h5 => absurd h5 (by decide)) (fun _ => ?_)
        refine PW_iload c_G_round_42 rfl ?_
        refine PW_ireturn (ty := .int) c_G_round_44 rfl rfl ?_
        exact h
      · refine PW.deeper (k := (5, 0, 0, z)) (Nat.le_of_ble_eq_true rfl) (Nat.le_refl _) (Nat.le_refl _) ?_
        refine PW_iload_n c_M_round_0 rfl ?_
        refine PW_S0 (d2 := 1) (st := []) [.int (nI j)] c_M_round_1 lk_M_round_143 rfl rfl rfl (Nat.le_of_ble_eq_true rfl) (by first | decide | omega) (Nat.le_of_ble_eq_true rfl) ?_
        refine sp_M_isShelf2  ?_
        show PW _ _ _ 4 [some (.ref 70), some (.int (nI j)), some (.int a2), some (.int 1), none] [.int (b2i (0 ≤ (nI j).toInt ∧ (nI j).toInt < 6))] (E x y)
        refine PW_if_eq c_M_round_4 (fun h0 => absurd hjs (b2i_0.mp h0)) (fun _ => ?_)
        refine PW_iload_n c_M_round_7 rfl ?_
        refine PW_S0 (d2 := 2) (st := []) [.int a2] c_M_round_8 lk_M_round_283 rfl rfl rfl (Nat.le_of_ble_eq_true rfl) (by first | decide | omega) (Nat.le_of_ble_eq_true rfl) ?_
        refine sp_M_isTime  ?_
        show PW _ _ _ 11 [some (.ref 70), some (.int (nI j)), some (.int a2), some (.int 1), none] [.int (b2i (0 ≤ a2 ∧ 0 ≤ a2 / 100 ∧ a2 / 100 ≤ 4))] (E x y)
        refine PW_if_eq c_M_round_11 (fun h1 => absurd hc1 (b2i_0.mp h1)) (fun _ => ?_)
        refine PW_iload_n c_M_round_14 rfl ?_
        refine PW_iconst (v := 0) c_M_round_15 (by decide) ?_
        refine PW_iconst (v := 2) c_M_round_16 (by decide) ?_
        refine PW_S0 (d2 := 0) (st := []) [.int 1, .int 0, .int 2] c_M_round_17 lk_M_round_131 rfl rfl rfl (Nat.le_of_ble_eq_true rfl) (by first | decide | omega) (Nat.le_of_ble_eq_true rfl) ?_
        refine sp_M_within  ?_
        show PW _ _ _ 20 [some (.ref 70), some (.int (nI j)), some (.int a2), some (.int 1), none] [.int (b2i ((0 : Int32) ≤ (1 : Int32) ∧ (1 : Int32) ≤ (2 : Int32)))] (E x y)
        refine PW_if_ne c_M_round_20 (fun _ => ?_) (fun h2 => absurd (by decide) (b2i_0.mp h2))
        refine PW_aload_n c_M_round_25 rfl ?_
        refine PW_iload_n c_M_round_26 rfl ?_
        refine PW_V0 (d2 := 0) (st := []) [.int (nI j)] c_M_round_27 lk_M_round_286 (po_70 _ _) rfl rfl rfl (Nat.le_of_ble_eq_true rfl) (by first | decide | omega) (Nat.le_of_ble_eq_true rfl) ?_
        show PW _ _ _ 0 [some (.ref 70), some (.int (nI j))] [] (E x y)
        refine PW_aload_n c_M_rowFault_0 rfl ?_
        refine PW_get (v := .ref 104) c_M_rowFault_1 fl_M_111 (gf_70_53 _ _) ?_
        refine PW_iload_n c_M_rowFault_4 rfl ?_
        refine PW_iald (j := j) c_M_rowFault_5 (ar_104 _ _) (vp_in_nI hj (by decide)) (nI_clamp (by omega)) ?_
        show PW _ _ _ 6 [some (.ref 70), some (.int (nI j))] [.int ((y.2.1 104) j)] (E x y)
        refine PW_iconst (v := -1) c_M_rowFault_6 (by decide) ?_
        refine PW_icmp_ne c_M_rowFault_7 (fun h3 => ?_) (fun h3 => absurd h3 p1)
        refine PW_aload_n c_M_rowFault_15 rfl ?_
        refine PW_get (v := .ref 104) c_M_rowFault_16 fl_M_111 (gf_70_53 _ _) ?_
        refine PW_iload_n c_M_rowFault_19 rfl ?_
        refine PW_iald (j := j) c_M_rowFault_20 (ar_104 _ _) (vp_in_nI hj (by decide)) (nI_clamp (by omega)) ?_
        show PW _ _ _ 21 [some (.ref 70), some (.int (nI j))] [.int ((y.2.1 104) j)] (E x y)
        refine PW_bipush (v := -2) c_M_rowFault_21 (by decide) ?_
        refine PW_icmp_ne c_M_rowFault_23 (fun h4 => ?_) (fun h4 => absurd h4 p2)
        refine PW_bipush (v := -12) c_M_rowFault_30 (by decide) ?_
        refine PW_ireturn (ty := .int) c_M_rowFault_32 rfl rfl ?_
        show PW _ _ _ 30 [some (.ref 70), some (.int (nI j)), some (.int a2), some (.int 1), none] [.int (-12)] (E x y)
        refine PW_if_ge c_M_round_30 (fun h5 => absurd h5 (by decide)) (fun _ => ?_)
        refine PW_aload_n c_M_round_33 rfl ?_
        refine PW_iload_n c_M_round_34 rfl ?_
        refine PW_V0 (d2 := 0) (st := []) [.int (nI j)] c_M_round_35 lk_M_round_286 (po_70 _ _) rfl rfl rfl (Nat.le_of_ble_eq_true rfl) (by first | decide | omega) (Nat.le_of_ble_eq_true rfl) ?_
        show PW _ _ _ 0 [some (.ref 70), some (.int (nI j))] [] (E x y)
        refine PW_aload_n c_M_rowFault_0 rfl ?_
        refine PW_get (v := .ref 104) c_M_rowFault_1 fl_M_111 (gf_70_53 _ _) ?_
        refine PW_iload_n c_M_rowFault_4 rfl ?_
        refine PW_iald (j := j) c_M_rowFault_5 (ar_104 _ _) (vp_in_nI hj (by decide)) (nI_clamp (by omega)) ?_
        show PW _ _ _ 6 [some (.ref 70), some (.int (nI j))] [.int ((y.2.1 104) j)] (E x y)
        refine PW_iconst (v := -1) c_M_rowFault_6 (by decide) ?_
        refine PW_icmp_ne c_M_rowFault_7 (fun h6 => ?_) (fun h6 => absurd h6 p1)
        refine PW_aload_n c_M_rowFault_15 rfl ?_
        refine PW_get (v := .ref 104) c_M_rowFault_16 fl_M_111 (gf_70_53 _ _) ?_
        refine PW_iload_n c_M_rowFault_19 rfl ?_
        refine PW_iald (j := j) c_M_rowFault_20 (ar_104 _ _) (vp_in_nI hj (by decide)) (nI_clamp (by omega)) ?_
        show PW _ _ _ 21 [some (.ref 70), some (.int (nI j))] [.int ((y.2.1 104) j)] (E x y)
        refine PW_bipush (v := -2) c_M_rowFault_21 (by decide) ?_
        refine PW_icmp_ne c_M_rowFault_23 (fun h7 => ?_) (fun h7 => absurd h7 p2)
        refine PW_bipush (v := -12) c_M_rowFault_30 (by decide) ?_
        refine PW_ireturn (ty := .int) c_M_rowFault_32 rfl rfl ?_
        show PW _ _ _ 38 [some (.ref 70), some (.int (nI j)), some (.int a2), some (.int 1), none] [.int (-12)] (E x y)
        refine PW_ireturn (ty := .int) c_M_round_38 rfl rfl ?_
        exact h
    · have hLd := ldF_p (plF y j) n 12 0
      generalize hNd : ldF (plF y j) n 12 0 = N at hLd
      obtain ⟨-, hN12, hLd, hEd⟩ := hLd
      have hR1 : ∀ i, i < n → (x.2.2 (59 + 2 * j) i).toInt32 = plF y j i := fun i hi => (hP i hi).1
      obtain ⟨sb, fb⟩ := lvS_begin (X := x) (o := 31) (a := a) (m := nI mm) (t := 0)
      obtain ⟨XX, hXX, sX, aX, HG⟩ := lp_G_round (T := T) (a1 := nI j) (a2 := a2) (a3 := 1) (N := N) hg hT hj p4 p6 hn hR1 (by omega) (fun i hi => hLd i (Nat.zero_le _) hi) N 0 _ a (nI mm) 0 (Nat.zero_add _) (xS_frV fb (Or.inl rfl)) sb ha (by rw [nI_toInt (by omega)]; omega)
      obtain ⟨YY, hYY, sY, HM⟩ := lp_M_round (T := T) (x := XX) (x0 := x) (a2 := a2) (a3 := 1) (N := N) hg hT hj p5 hn (by omega) (fun i hi => hLd i (Nat.zero_le _) hi) (hEd.imp (fun q => by omega) id) N 0 (sI (sI (sI y 590 (nI a)) 591 (nI mm)) 592 0) a (nI mm) 0 (Nat.zero_add _) (yS_frG (Y' := sI (sI (sI y 590 (nI a)) 591 (nI mm)) 592 0) ⟨fun n h2 h3 h4 => by rw [sI_n h4, sI_n h3, sI_n h2], fun _ _ _ => rfl, rfl⟩) ⟨rfl, rfl, rfl⟩ ha
      have CX := CPg_S hg hXX (yS_0 y)
      have hWY : WG YY := (CPg_S hg (xS_0 x) hYY).1
      obtain ⟨g1, g2, g3, g4, g5, g6, g7⟩ := gE_fun (gE_S hYY)
      generalize hS : rdF T y (plF y j) N 0 (a, nI mm, 0) = S at sX aX HG sY HM
      refine ⟨S.2.1 + wayN y S.1 0, XX, YY, ?_, fun {z post} h => ?_, fun {z post} h => ?_⟩
      · exact INV_step (INV_S hI hXX hYY)
      · refine PW.deeper (k := (5, 0, 0, z)) (Nat.le_of_ble_eq_true rfl) (Nat.le_refl _) (Nat.le_refl _) ?_
        refine PW_aload_n c_G_round_0 rfl ?_
        refine PW_iload_n c_G_round_1 rfl ?_
        refine PW_V0 (d2 := 0) (st := []) [.int (nI j)] c_G_round_2 lk_G_round_102 (po_5 _ _) rfl rfl rfl (Nat.le_of_ble_eq_true rfl) (by first | decide | omega) (Nat.le_of_ble_eq_true rfl) ?_
        refine sp_shelf hj ?_
        show PW _ _ _ 5 [some (.ref 5), some (.int (nI j)), some (.int a2), some (.int 1), none, none, none, none] [.ref (58 + 2 * j)] (E x y)
        refine PW_astore (i := 4) (L2 := [some (.ref 5), some (.int (nI j)), some (.int a2), some (.int 1), some (.ref (58 + 2 * j)), none, none, none]) c_G_round_5 (Nat.le_of_ble_eq_true rfl) rfl rfl ?_
        refine PW_aload c_G_round_7 rfl ?_
        refine PW_ifnull c_G_round_9 ?_
        refine PW_iload_n c_G_round_12 rfl ?_
        refine PW_S0 (d2 := 1) (st := []) [.int a2] c_G_round_13 lk_G_round_163 rfl rfl rfl (Nat.le_of_ble_eq_true rfl) (by first | decide | omega) (Nat.le_of_ble_eq_true rfl) ?_
        refine sp_G_isRoomMinute  ?_
        show PW _ _ _ 16 [some (.ref 5), some (.int (nI j)), some (.int a2), some (.int 1), some (.ref (58 + 2 * j)), none, none, none] [.int (b2i (0 ≤ a2 ∧ 0 ≤ a2 / 100 ∧ a2 / 100 ≤ 4))] (E x y)
        refine PW_if_eq c_G_round_16 (fun h0 => absurd hc1 (b2i_0.mp h0)) (fun _ => ?_)
        refine PW_iload_n c_G_round_19 rfl ?_
        refine PW_if_lt c_G_round_20 (fun h1 => absurd h1 (by decide)) (fun _ => ?_)
        refine PW_iload_n c_G_round_23 rfl ?_
        refine PW_iconst (v := 2) c_G_round_24 (by decide) ?_
        refine PW_icmp_le c_G_round_25 (fun _ => ?_) (fun h2 => absurd (by decide) h2)
        refine PW_aload c_G_round_30 rfl ?_
        refine PW_V0 (d2 := 1) (st := []) [] c_G_round_32 lk_G_round_106 (sh_po _ _ hj) rfl rfl rfl (Nat.le_of_ble_eq_true rfl) (by first | decide | omega) (Nat.le_of_ble_eq_true rfl) ?_
        show PW _ _ _ 0 [some (.ref (58 + 2 * j))] [] (E x y)
        refine PW_aload_n c_F_bytesRefusal_0 rfl ?_
        refine PW_V0 (d2 := 0) (st := []) [] c_F_bytesRefusal_1 lk_F_bytesRefusal_37 (sh_po _ _ hj) rfl rfl rfl (Nat.le_of_ble_eq_true rfl) (by first | decide | omega) (Nat.le_of_ble_eq_true rfl) ?_
        refine sp_F_isEmpty hj  ?_
        show PW _ _ _ 4 [some (.ref (58 + 2 * j))] [.int (b2i (x.1 ((58 + 2 * j) * 8 + 1) = 0))] (E x y)
        refine PW_if_eq c_F_bytesRefusal_4 (fun _ => ?_) (fun h3 => absurd (b2i_n0.mp h3) p3)
        refine PW_aload_n c_F_bytesRefusal_10 rfl ?_
        refine PW_V0 (d2 := 0) (st := []) [] c_F_bytesRefusal_11 lk_F_bytesRefusal_41 (sh_po _ _ hj) rfl rfl rfl (Nat.le_of_ble_eq_true rfl) (by first | decide | omega) (Nat.le_of_ble_eq_true rfl) ?_
        refine sp_F_holdsBytes hj  ?_
        show PW _ _ _ 14 [some (.ref (58 + 2 * j))] [.int (b2i (x.1 ((58 + 2 * j) * 8 + 1) = 2 ∧ x.1 ((58 + 2 * j) * 8 + 3) = 0))] (E x y)
        refine PW_if_eq c_F_bytesRefusal_14 (fun h4 => absurd p4 (b2i_0.mp h4)) (fun _ => ?_)
        refine PW_iconst (v := 0) c_F_bytesRefusal_17 (by decide) ?_
        refine PW_goto c_F_bytesRefusal_18 ?_
        refine PW_ireturn (ty := .int) c_F_bytesRefusal_23 rfl rfl ?_
        show PW _ _ _ 35 [some (.ref 5), some (.int (nI j)), some (.int a2), some (.int 1), some (.ref (58 + 2 * j)), none, none, none] [.int 0] (E x y)
        refine PW_istore (i := 5) (L2 := [some (.ref 5), some (.int (nI j)), some (.int a2), some (.int 1), some (.ref (58 + 2 * j)), some (.int 0), none, none]) c_G_round_35 (Nat.le_of_ble_eq_true rfl) rfl rfl ?_
        refine PW_iload c_G_round_37 rfl ?_
        refine PW_if_eq c_G_round_39 (fun _ => ?_) (fun h5 => absurd (by decide) h5)
        refine PW_aload_n c_G_round_45 rfl ?_
        refine PW_get (v := .ref 31) c_G_round_46 fl_G_35 (gf_5_3 _ _) ?_
        refine PW_iload_n c_G_round_49 rfl ?_
        refine PW_bipush (v := 100) c_G_round_50 (by decide) ?_
        refine PW_idiv c_G_round_52 (by decide) ?_
        refine PW_iload_n c_G_round_53 rfl ?_
        refine PW_bipush (v := 100) c_G_round_54 (by decide) ?_
        refine PW_irem c_G_round_56 (by decide) ?_
        refine PW_V0 (d2 := 1) (st := []) [.int (a2 / 100), .int (a2 - a2 / 100 * 100)] c_G_round_57 lk_G_round_166 (po_31 _ _) rfl rfl rfl (Nat.le_of_ble_eq_true rfl) (by first | decide | omega) (Nat.le_of_ble_eq_true rfl) ?_
        show PW _ _ _ 0 [some (.ref 31), some (.int (a2 / 100)), some (.int (a2 - a2 / 100 * 100))] [] (E x y)
        refine PW_aload_n c_V_begin_0 rfl ?_
        refine PW_iload_n c_V_begin_1 rfl ?_
        refine PW_iload_n c_V_begin_2 rfl ?_
        refine PW_iconst (v := 0) c_V_begin_3 (by decide) ?_
        refine PW_V0 (d2 := 0) (st := []) [.int (a2 / 100), .int (a2 - a2 / 100 * 100), .int 0] c_V_begin_4 lk_V_begin_19 (po_31 _ _) rfl rfl rfl (Nat.le_of_ble_eq_true rfl) (by first | decide | omega) (Nat.le_of_ble_eq_true rfl) ?_
        show PW _ _ _ 0 [some (.ref 31), some (.int (a2 / 100)), some (.int (a2 - a2 / 100 * 100)), some (.int 0)] [] (E x y)
        refine PW_aload_n c_V_stand_0 rfl ?_
        refine PW_iload_n c_V_stand_1 rfl ?_
        refine PW_put (w2 := E (sI x 250 (a2 / 100)) y) c_V_stand_2 fp_V_stand_23 rfl (pf_31_2 _ _ _) ?_
        refine PW_aload_n c_V_stand_5 rfl ?_
        refine PW_iload_n c_V_stand_6 rfl ?_
        refine PW_put (w2 := E (sI (sI x 250 (a2 / 100)) 251 (a2 - a2 / 100 * 100)) y) c_V_stand_7 fp_V_stand_27 rfl (pf_31_3 _ _ _) ?_
        refine PW_aload_n c_V_stand_10 rfl ?_
        refine PW_iload_n c_V_stand_11 rfl ?_
        refine PW_put (w2 := E (sI (sI (sI x 250 (a2 / 100)) 251 (a2 - a2 / 100 * 100)) 252 0) y) c_V_stand_12 fp_V_stand_30 rfl (pf_31_4 _ _ _) ?_
        refine PW_vreturn c_V_stand_15 rfl ?_
        show PW _ _ _ 7 [some (.ref 31), some (.int (a2 / 100)), some (.int (a2 - a2 / 100 * 100))] [] (E (sI (sI (sI x 250 (a2 / 100)) 251 (a2 - a2 / 100 * 100)) 252 0) y)
        refine PW_vreturn c_V_begin_7 rfl ?_
        show PW _ _ _ 60 [some (.ref 5), some (.int (nI j)), some (.int a2), some (.int 1), some (.ref (58 + 2 * j)), some (.int 0), none, none] [] (E (sI (sI (sI x 250 (a2 / 100)) 251 (a2 - a2 / 100 * 100)) 252 0) y)
        refine PW_aload c_G_round_60 rfl ?_
        refine PW_V0 (d2 := 3) (st := []) [] c_G_round_62 lk_G_round_170 (sh_po _ _ hj) rfl rfl rfl (Nat.le_of_ble_eq_true rfl) (by first | decide | omega) (Nat.le_of_ble_eq_true rfl) ?_
        refine sp_F_lead (gs := plF y j) hj (⟨(by rw [sI_n (by omega), sI_n (by omega), sI_n (by omega)]; exact p4.1), (by rw [sI_n (by omega), sI_n (by omega), sI_n (by omega)]; exact p4.2)⟩) (by rw [sI_n (by omega), sI_n (by omega), sI_n (by omega)]; exact p6) hn (fun i hi => (hP i hi).1) ?_
        rw [hNd]
        show PW _ _ _ 65 [some (.ref 5), some (.int (nI j)), some (.int a2), some (.int 1), some (.ref (58 + 2 * j)), some (.int 0), none, none] [.int (nI N)] (E (sI (sI (sI x 250 (a2 / 100)) 251 (a2 - a2 / 100 * 100)) 252 0) y)
        refine PW_istore (i := 6) (L2 := [some (.ref 5), some (.int (nI j)), some (.int a2), some (.int 1), some (.ref (58 + 2 * j)), some (.int 0), some (.int (nI N)), none]) c_G_round_65 (Nat.le_of_ble_eq_true rfl) rfl rfl ?_
        refine PW_iconst (v := 0) c_G_round_67 (by decide) ?_
        refine PW_istore (i := 7) (L2 := [some (.ref 5), some (.int (nI j)), some (.int a2), some (.int 1), some (.ref (58 + 2 * j)), some (.int 0), some (.int (nI N)), some (.int 0)]) c_G_round_68 (Nat.le_of_ble_eq_true rfl) rfl rfl ?_
        refine PW.eqL ?_ rfl ?_ (HG ?_)
        · rfl
        · rw [em, ea]
        · show PW _ _ _ 106 [some (.ref 5), some (.int (nI j)), some (.int a2), some (.int 1), some (.ref (58 + 2 * j)), some (.int 0), some (.int (nI N)), some (.int (nI N))] [] (E XX y)
          refine PW_iload_n c_G_round_106 rfl ?_
          refine PW_if_ne c_G_round_107 (fun _ => ?_) (fun h0 => absurd h0 (by decide))
          refine PW_iload_n c_G_round_118 rfl ?_
          refine PW_iconst (v := 1) c_G_round_119 (by decide) ?_
          refine PW_icmp_ne c_G_round_120 (fun h1 => absurd (by decide) h1) (fun _ => ?_)
          refine PW_aload_n c_G_round_123 rfl ?_
          refine PW_get (v := .ref 31) c_G_round_124 fl_G_35 (gf_5_3 _ _) ?_
          refine PW_V0 (d2 := 3) (st := []) [] c_G_round_127 lk_G_round_183 (po_31 _ _) rfl rfl rfl (Nat.le_of_ble_eq_true rfl) (by first | decide | omega) (Nat.le_of_ble_eq_true rfl) ?_
          refine sp_V_home (o := 31) (Or.inl rfl) CX sX aX ?_
          show PW _ _ _ 130 [some (.ref 5), some (.int (nI j)), some (.int a2), some (.int 1), some (.ref (58 + 2 * j)), some (.int 0), some (.int (nI N)), some (.int (nI N))] [.int (S.2.1 + wayN y S.1 0)] (E XX y)
          refine PW_goto c_G_round_130 ?_
          refine PW_ireturn (ty := .int) c_G_round_147 rfl rfl ?_
          exact h
      · refine PW.deeper (k := (5, 0, 0, z)) (Nat.le_of_ble_eq_true rfl) (Nat.le_refl _) (Nat.le_refl _) ?_
        refine PW_iload_n c_M_round_0 rfl ?_
        refine PW_S0 (d2 := 1) (st := []) [.int (nI j)] c_M_round_1 lk_M_round_143 rfl rfl rfl (Nat.le_of_ble_eq_true rfl) (by first | decide | omega) (Nat.le_of_ble_eq_true rfl) ?_
        refine sp_M_isShelf2  ?_
        show PW _ _ _ 4 [some (.ref 70), some (.int (nI j)), some (.int a2), some (.int 1), none] [.int (b2i (0 ≤ (nI j).toInt ∧ (nI j).toInt < 6))] (E XX y)
        refine PW_if_eq c_M_round_4 (fun h0 => absurd hjs (b2i_0.mp h0)) (fun _ => ?_)
        refine PW_iload_n c_M_round_7 rfl ?_
        refine PW_S0 (d2 := 2) (st := []) [.int a2] c_M_round_8 lk_M_round_283 rfl rfl rfl (Nat.le_of_ble_eq_true rfl) (by first | decide | omega) (Nat.le_of_ble_eq_true rfl) ?_
        refine sp_M_isTime  ?_
        show PW _ _ _ 11 [some (.ref 70), some (.int (nI j)), some (.int a2), some (.int 1), none] [.int (b2i (0 ≤ a2 ∧ 0 ≤ a2 / 100 ∧ a2 / 100 ≤ 4))] (E XX y)
        refine PW_if_eq c_M_round_11 (fun h1 => absurd hc1 (b2i_0.mp h1)) (fun _ => ?_)
        refine PW_iload_n c_M_round_14 rfl ?_
        refine PW_iconst (v := 0) c_M_round_15 (by decide) ?_
        refine PW_iconst (v := 2) c_M_round_16 (by decide) ?_
        refine PW_S0 (d2 := 0) (st := []) [.int 1, .int 0, .int 2] c_M_round_17 lk_M_round_131 rfl rfl rfl (Nat.le_of_ble_eq_true rfl) (by first | decide | omega) (Nat.le_of_ble_eq_true rfl) ?_
        refine sp_M_within  ?_
        show PW _ _ _ 20 [some (.ref 70), some (.int (nI j)), some (.int a2), some (.int 1), none] [.int (b2i ((0 : Int32) ≤ (1 : Int32) ∧ (1 : Int32) ≤ (2 : Int32)))] (E XX y)
        refine PW_if_ne c_M_round_20 (fun _ => ?_) (fun h2 => absurd (by decide) (b2i_0.mp h2))
        refine PW_aload_n c_M_round_25 rfl ?_
        refine PW_iload_n c_M_round_26 rfl ?_
        refine PW_V0 (d2 := 0) (st := []) [.int (nI j)] c_M_round_27 lk_M_round_286 (po_70 _ _) rfl rfl rfl (Nat.le_of_ble_eq_true rfl) (by first | decide | omega) (Nat.le_of_ble_eq_true rfl) ?_
        show PW _ _ _ 0 [some (.ref 70), some (.int (nI j))] [] (E XX y)
        refine PW_aload_n c_M_rowFault_0 rfl ?_
        refine PW_get (v := .ref 104) c_M_rowFault_1 fl_M_111 (gf_70_53 _ _) ?_
        refine PW_iload_n c_M_rowFault_4 rfl ?_
        refine PW_iald (j := j) c_M_rowFault_5 (ar_104 _ _) (vp_in_nI hj (by decide)) (nI_clamp (by omega)) ?_
        show PW _ _ _ 6 [some (.ref 70), some (.int (nI j))] [.int ((y.2.1 104) j)] (E XX y)
        refine PW_iconst (v := -1) c_M_rowFault_6 (by decide) ?_
        refine PW_icmp_ne c_M_rowFault_7 (fun h3 => ?_) (fun h3 => absurd h3 p1)
        refine PW_aload_n c_M_rowFault_15 rfl ?_
        refine PW_get (v := .ref 104) c_M_rowFault_16 fl_M_111 (gf_70_53 _ _) ?_
        refine PW_iload_n c_M_rowFault_19 rfl ?_
        refine PW_iald (j := j) c_M_rowFault_20 (ar_104 _ _) (vp_in_nI hj (by decide)) (nI_clamp (by omega)) ?_
        show PW _ _ _ 21 [some (.ref 70), some (.int (nI j))] [.int ((y.2.1 104) j)] (E XX y)
        refine PW_bipush (v := -2) c_M_rowFault_21 (by decide) ?_
        refine PW_icmp_ne c_M_rowFault_23 (fun h4 => absurd h4 (not_not_intro p2)) (fun h4 => ?_)
        refine PW_iconst (v := 0) c_M_rowFault_26 (by decide) ?_
        refine PW_goto c_M_rowFault_27 ?_
        refine PW_ireturn (ty := .int) c_M_rowFault_32 rfl rfl ?_
        show PW _ _ _ 30 [some (.ref 70), some (.int (nI j)), some (.int a2), some (.int 1), none] [.int 0] (E XX y)
        refine PW_if_ge c_M_round_30 (fun _ => ?_) (fun h5 => absurd (by decide) h5)
        refine PW_aload_n c_M_round_39 rfl ?_
        refine PW_iload_n c_M_round_40 rfl ?_
        refine PW_bipush (v := 100) c_M_round_41 (by decide) ?_
        refine PW_idiv c_M_round_43 (by decide) ?_
        refine PW_iload_n c_M_round_44 rfl ?_
        refine PW_bipush (v := 100) c_M_round_45 (by decide) ?_
        refine PW_irem c_M_round_47 (by decide) ?_
        refine PW_V0 (d2 := 0) (st := []) [.int (a2 / 100), .int (a2 - a2 / 100 * 100)] c_M_round_48 lk_M_round_289 (po_70 _ _) rfl rfl rfl (Nat.le_of_ble_eq_true rfl) (by first | decide | omega) (Nat.le_of_ble_eq_true rfl) ?_
        show PW _ _ _ 0 [some (.ref 70), some (.int (a2 / 100)), some (.int (a2 - a2 / 100 * 100))] [] (E XX y)
        refine PW_aload_n c_M_begin_0 rfl ?_
        refine PW_iload_n c_M_begin_1 rfl ?_
        refine PW_put (w2 := E XX (sI y 590 (a2 / 100))) c_M_begin_2 fp_M_begin_265 rfl (pf_70_30 _ _ _) ?_
        refine PW_aload_n c_M_begin_5 rfl ?_
        refine PW_iload_n c_M_begin_6 rfl ?_
        refine PW_put (w2 := E XX (sI (sI y 590 (a2 / 100)) 591 (a2 - a2 / 100 * 100))) c_M_begin_7 fp_M_begin_268 rfl (pf_70_31 _ _ _) ?_
        refine PW_aload_n c_M_begin_10 rfl ?_
        refine PW_iconst (v := 0) c_M_begin_11 (by decide) ?_
        refine PW_put (w2 := E XX (sI (sI (sI y 590 (a2 / 100)) 591 (a2 - a2 / 100 * 100)) 592 0)) c_M_begin_12 fp_M_begin_271 rfl (pf_70_32 _ _ _) ?_
        refine PW_vreturn c_M_begin_15 rfl ?_
        show PW _ _ _ 51 [some (.ref 70), some (.int (nI j)), some (.int a2), some (.int 1), none] [] (E XX (sI (sI (sI y 590 (a2 / 100)) 591 (a2 - a2 / 100 * 100)) 592 0))
        refine PW_iconst (v := 0) c_M_round_51 (by decide) ?_
        refine PW_istore (i := 4) (L2 := [some (.ref 70), some (.int (nI j)), some (.int a2), some (.int 1), some (.int 0)]) c_M_round_52 (Nat.le_of_ble_eq_true rfl) rfl rfl ?_
        refine PW.eqL ?_ rfl ?_ (HM ?_)
        · rfl
        · rw [em, ea]
        · show PW _ _ _ 102 [some (.ref 70), some (.int (nI j)), some (.int a2), some (.int 1), some (.int (nI N))] [] (E XX YY)
          refine PW_iload_n c_M_round_102 rfl ?_
          refine PW_if_ne c_M_round_103 (fun _ => ?_) (fun h0 => absurd h0 (by decide))
          refine PW_iload_n c_M_round_113 rfl ?_
          refine PW_iconst (v := 1) c_M_round_114 (by decide) ?_
          refine PW_icmp_ne c_M_round_115 (fun h1 => absurd (by decide) h1) (fun _ => ?_)
          refine PW_aload_n c_M_round_118 rfl ?_
          refine PW_V0 (d2 := 1) (st := []) [] c_M_round_119 lk_M_round_299 (po_70 _ _) rfl rfl rfl (Nat.le_of_ble_eq_true rfl) (by first | decide | omega) (Nat.le_of_ble_eq_true rfl) ?_
          refine sp_M_home sY aX ?_
          show PW _ _ _ 122 [some (.ref 70), some (.int (nI j)), some (.int a2), some (.int 1), some (.int (nI N))] [.int (S.2.1 + wayN YY S.1 0)] (E XX YY)
          refine PW_goto c_M_round_122 ?_
          refine PW_ireturn (ty := .int) c_M_round_136 rfl rfl ?_
          exact pqi h (by rw [g5])
  by_cases hw2 : a3 = 2
  · subst hw2
    rcases sh_cases (hs j hj) with ⟨p1, p2⟩ | ⟨p1, p2, p3, p4⟩ | ⟨p1, p2, p3, p4, n, hn, p5, p6, hP⟩
    · refine ⟨-11, x, y, ?_, fun {z post} h => ?_, fun {z post} h => ?_⟩
      · exact INV_step hI
      · refine PW.deeper (k := (5, 0, 0, z)) (Nat.le_of_ble_eq_true rfl) (Nat.le_refl _) (Nat.le_refl _) ?_
        refine PW_aload_n c_G_round_0 rfl ?_
        refine PW_iload_n c_G_round_1 rfl ?_
        refine PW_V0 (d2 := 0) (st := []) [.int (nI j)] c_G_round_2 lk_G_round_102 (po_5 _ _) rfl rfl rfl (Nat.le_of_ble_eq_true rfl) (by first | decide | omega) (Nat.le_of_ble_eq_true rfl) ?_
        refine sp_shelf hj ?_
        show PW _ _ _ 5 [some (.ref 5), some (.int (nI j)), some (.int a2), some (.int 2), none, none, none, none] [.ref (58 + 2 * j)] (E x y)
        refine PW_astore (i := 4) (L2 := [some (.ref 5), some (.int (nI j)), some (.int a2), some (.int 2), some (.ref (58 + 2 * j)), none, none, none]) c_G_round_5 (Nat.le_of_ble_eq_true rfl) rfl rfl ?_
        refine PW_aload c_G_round_7 rfl ?_
        refine PW_ifnull c_G_round_9 ?_
        refine PW_iload_n c_G_round_12 rfl ?_
        refine PW_S0 (d2 := 1) (st := []) [.int a2] c_G_round_13 lk_G_round_163 rfl rfl rfl (Nat.le_of_ble_eq_true rfl) (by first | decide | omega) (Nat.le_of_ble_eq_true rfl) ?_
        refine sp_G_isRoomMinute  ?_
        show PW _ _ _ 16 [some (.ref 5), some (.int (nI j)), some (.int a2), some (.int 2), some (.ref (58 + 2 * j)), none, none, none] [.int (b2i (0 ≤ a2 ∧ 0 ≤ a2 / 100 ∧ a2 / 100 ≤ 4))] (E x y)
        refine PW_if_eq c_G_round_16 (fun h0 => absurd hc1 (b2i_0.mp h0)) (fun _ => ?_)
        refine PW_iload_n c_G_round_19 rfl ?_
        refine PW_if_lt c_G_round_20 (fun h1 => absurd h1 (by decide)) (fun _ => ?_)
        refine PW_iload_n c_G_round_23 rfl ?_
        refine PW_iconst (v := 2) c_G_round_24 (by decide) ?_
        refine PW_icmp_le c_G_round_25 (fun _ => ?_) (fun h2 => absurd (by decide) h2)
        refine PW_aload c_G_round_30 rfl ?_
        refine PW_V0 (d2 := 1) (st := []) [] c_G_round_32 lk_G_round_106 (sh_po _ _ hj) rfl rfl rfl (Nat.le_of_ble_eq_true rfl) (by first | decide | omega) (Nat.le_of_ble_eq_true rfl) ?_
        show PW _ _ _ 0 [some (.ref (58 + 2 * j))] [] (E x y)
        refine PW_aload_n c_F_bytesRefusal_0 rfl ?_
        refine PW_V0 (d2 := 0) (st := []) [] c_F_bytesRefusal_1 lk_F_bytesRefusal_37 (sh_po _ _ hj) rfl rfl rfl (Nat.le_of_ble_eq_true rfl) (by first | decide | omega) (Nat.le_of_ble_eq_true rfl) ?_
        refine sp_F_isEmpty hj  ?_
        show PW _ _ _ 4 [some (.ref (58 + 2 * j))] [.int (b2i (x.1 ((58 + 2 * j) * 8 + 1) = 0))] (E x y)
        refine PW_if_eq c_F_bytesRefusal_4 (fun h3 => absurd p2 (b2i_0.mp h3)) (fun _ => ?_)
        refine PW_bipush (v := -11) c_F_bytesRefusal_7 (by decide) ?_
        refine PW_ireturn (ty := .int) c_F_bytesRefusal_9 rfl rfl ?_
        show PW _ _ _ 35 [some (.ref 5), some (.int (nI j)), some (.int a2), some (.int 2), some (.ref (58 + 2 * j)), none, none, none] [.int (-11)] (E x y)
        refine PW_istore (i := 5) (L2 := [some (.ref 5), some (.int (nI j)), some (.int a2), some (.int 2), some (.ref (58 + 2 * j)), some (.int (-11)), none, none]) c_G_round_35 (Nat.le_of_ble_eq_true rfl) rfl rfl ?_
        refine PW_iload c_G_round_37 rfl ?_
        refine PW_if_eq c_G_round_39 (fun h4 => absurd h4 (by decide)) (fun _ => ?_)
        refine PW_iload c_G_round_42 rfl ?_
        refine PW_ireturn (ty := .int) c_G_round_44 rfl rfl ?_
        exact h
      · refine PW.deeper (k := (5, 0, 0, z)) (Nat.le_of_ble_eq_true rfl) (Nat.le_refl _) (Nat.le_refl _) ?_
        refine PW_iload_n c_M_round_0 rfl ?_
        refine PW_S0 (d2 := 1) (st := []) [.int (nI j)] c_M_round_1 lk_M_round_143 rfl rfl rfl (Nat.le_of_ble_eq_true rfl) (by first | decide | omega) (Nat.le_of_ble_eq_true rfl) ?_
        refine sp_M_isShelf2  ?_
        show PW _ _ _ 4 [some (.ref 70), some (.int (nI j)), some (.int a2), some (.int 2), none] [.int (b2i (0 ≤ (nI j).toInt ∧ (nI j).toInt < 6))] (E x y)
        refine PW_if_eq c_M_round_4 (fun h0 => absurd hjs (b2i_0.mp h0)) (fun _ => ?_)
        refine PW_iload_n c_M_round_7 rfl ?_
        refine PW_S0 (d2 := 2) (st := []) [.int a2] c_M_round_8 lk_M_round_283 rfl rfl rfl (Nat.le_of_ble_eq_true rfl) (by first | decide | omega) (Nat.le_of_ble_eq_true rfl) ?_
        refine sp_M_isTime  ?_
        show PW _ _ _ 11 [some (.ref 70), some (.int (nI j)), some (.int a2), some (.int 2), none] [.int (b2i (0 ≤ a2 ∧ 0 ≤ a2 / 100 ∧ a2 / 100 ≤ 4))] (E x y)
        refine PW_if_eq c_M_round_11 (fun h1 => absurd hc1 (b2i_0.mp h1)) (fun _ => ?_)
        refine PW_iload_n c_M_round_14 rfl ?_
        refine PW_iconst (v := 0) c_M_round_15 (by decide) ?_
        refine PW_iconst (v := 2) c_M_round_16 (by decide) ?_
        refine PW_S0 (d2 := 0) (st := []) [.int 2, .int 0, .int 2] c_M_round_17 lk_M_round_131 rfl rfl rfl (Nat.le_of_ble_eq_true rfl) (by first | decide | omega) (Nat.le_of_ble_eq_true rfl) ?_
        refine sp_M_within  ?_
        show PW _ _ _ 20 [some (.ref 70), some (.int (nI j)), some (.int a2), some (.int 2), none] [.int (b2i ((0 : Int32) ≤ (2 : Int32) ∧ (2 : Int32) ≤ (2 : Int32)))] (E x y)
        refine PW_if_ne c_M_round_20 (fun _ => ?_) (fun h2 => absurd (by decide) (b2i_0.mp h2))
        refine PW_aload_n c_M_round_25 rfl ?_
        refine PW_iload_n c_M_round_26 rfl ?_
        refine PW_V0 (d2 := 0) (st := []) [.int (nI j)] c_M_round_27 lk_M_round_286 (po_70 _ _) rfl rfl rfl (Nat.le_of_ble_eq_true rfl) (by first | decide | omega) (Nat.le_of_ble_eq_true rfl) ?_
        show PW _ _ _ 0 [some (.ref 70), some (.int (nI j))] [] (E x y)
        refine PW_aload_n c_M_rowFault_0 rfl ?_
        refine PW_get (v := .ref 104) c_M_rowFault_1 fl_M_111 (gf_70_53 _ _) ?_
        refine PW_iload_n c_M_rowFault_4 rfl ?_
        refine PW_iald (j := j) c_M_rowFault_5 (ar_104 _ _) (vp_in_nI hj (by decide)) (nI_clamp (by omega)) ?_
        show PW _ _ _ 6 [some (.ref 70), some (.int (nI j))] [.int ((y.2.1 104) j)] (E x y)
        refine PW_iconst (v := -1) c_M_rowFault_6 (by decide) ?_
        refine PW_icmp_ne c_M_rowFault_7 (fun h3 => absurd h3 (not_not_intro p1)) (fun h3 => ?_)
        refine PW_bipush (v := -11) c_M_rowFault_10 (by decide) ?_
        refine PW_goto c_M_rowFault_12 ?_
        refine PW_ireturn (ty := .int) c_M_rowFault_32 rfl rfl ?_
        show PW _ _ _ 30 [some (.ref 70), some (.int (nI j)), some (.int a2), some (.int 2), none] [.int (-11)] (E x y)
        refine PW_if_ge c_M_round_30 (fun h4 => absurd h4 (by decide)) (fun _ => ?_)
        refine PW_aload_n c_M_round_33 rfl ?_
        refine PW_iload_n c_M_round_34 rfl ?_
        refine PW_V0 (d2 := 0) (st := []) [.int (nI j)] c_M_round_35 lk_M_round_286 (po_70 _ _) rfl rfl rfl (Nat.le_of_ble_eq_true rfl) (by first | decide | omega) (Nat.le_of_ble_eq_true rfl) ?_
        show PW _ _ _ 0 [some (.ref 70), some (.int (nI j))] [] (E x y)
        refine PW_aload_n c_M_rowFault_0 rfl ?_
        refine PW_get (v := .ref 104) c_M_rowFault_1 fl_M_111 (gf_70_53 _ _) ?_
        refine PW_iload_n c_M_rowFault_4 rfl ?_
        refine PW_iald (j := j) c_M_rowFault_5 (ar_104 _ _) (vp_in_nI hj (by decide)) (nI_clamp (by omega)) ?_
        show PW _ _ _ 6 [some (.ref 70), some (.int (nI j))] [.int ((y.2.1 104) j)] (E x y)
        refine PW_iconst (v := -1) c_M_rowFault_6 (by decide) ?_
        refine PW_icmp_ne c_M_rowFault_7 (fun h5 => absurd h5 (not_not_intro p1)) (fun h5 => ?_)
        refine PW_bipush (v := -11) c_M_rowFault_10 (by decide) ?_
        refine PW_goto c_M_rowFault_12 ?_
        refine PW_ireturn (ty := .int) c_M_rowFault_32 rfl rfl ?_
        show PW _ _ _ 38 [some (.ref 70), some (.int (nI j)), some (.int a2), some (.int 2), none] [.int (-11)] (E x y)
        refine PW_ireturn (ty := .int) c_M_round_38 rfl rfl ?_
        exact h
    · refine ⟨-12, x, y, ?_, fun {z post} h => ?_, fun {z post} h => ?_⟩
      · exact INV_step hI
      · refine PW.deeper (k := (5, 0, 0, z)) (Nat.le_of_ble_eq_true rfl) (Nat.le_refl _) (Nat.le_refl _) ?_
        refine PW_aload_n c_G_round_0 rfl ?_
        refine PW_iload_n c_G_round_1 rfl ?_
        refine PW_V0 (d2 := 0) (st := []) [.int (nI j)] c_G_round_2 lk_G_round_102 (po_5 _ _) rfl rfl rfl (Nat.le_of_ble_eq_true rfl) (by first | decide | omega) (Nat.le_of_ble_eq_true rfl) ?_
        refine sp_shelf hj ?_
        show PW _ _ _ 5 [some (.ref 5), some (.int (nI j)), some (.int a2), some (.int 2), none, none, none, none] [.ref (58 + 2 * j)] (E x y)
        refine PW_astore (i := 4) (L2 := [some (.ref 5), some (.int (nI j)), some (.int a2), some (.int 2), some (.ref (58 + 2 * j)), none, none, none]) c_G_round_5 (Nat.le_of_ble_eq_true rfl) rfl rfl ?_
        refine PW_aload c_G_round_7 rfl ?_
        refine PW_ifnull c_G_round_9 ?_
        refine PW_iload_n c_G_round_12 rfl ?_
        refine PW_S0 (d2 := 1) (st := []) [.int a2] c_G_round_13 lk_G_round_163 rfl rfl rfl (Nat.le_of_ble_eq_true rfl) (by first | decide | omega) (Nat.le_of_ble_eq_true rfl) ?_
        refine sp_G_isRoomMinute  ?_
        show PW _ _ _ 16 [some (.ref 5), some (.int (nI j)), some (.int a2), some (.int 2), some (.ref (58 + 2 * j)), none, none, none] [.int (b2i (0 ≤ a2 ∧ 0 ≤ a2 / 100 ∧ a2 / 100 ≤ 4))] (E x y)
        refine PW_if_eq c_G_round_16 (fun h0 => absurd hc1 (b2i_0.mp h0)) (fun _ => ?_)
        refine PW_iload_n c_G_round_19 rfl ?_
        refine PW_if_lt c_G_round_20 (fun h1 => absurd h1 (by decide)) (fun _ => ?_)
        refine PW_iload_n c_G_round_23 rfl ?_
        refine PW_iconst (v := 2) c_G_round_24 (by decide) ?_
        refine PW_icmp_le c_G_round_25 (fun _ => ?_) (fun h2 => absurd (by decide) h2)
        refine PW_aload c_G_round_30 rfl ?_
        refine PW_V0 (d2 := 1) (st := []) [] c_G_round_32 lk_G_round_106 (sh_po _ _ hj) rfl rfl rfl (Nat.le_of_ble_eq_true rfl) (by first | decide | omega) (Nat.le_of_ble_eq_true rfl) ?_
        show PW _ _ _ 0 [some (.ref (58 + 2 * j))] [] (E x y)
        refine PW_aload_n c_F_bytesRefusal_0 rfl ?_
        refine PW_V0 (d2 := 0) (st := []) [] c_F_bytesRefusal_1 lk_F_bytesRefusal_37 (sh_po _ _ hj) rfl rfl rfl (Nat.le_of_ble_eq_true rfl) (by first | decide | omega) (Nat.le_of_ble_eq_true rfl) ?_
        refine sp_F_isEmpty hj  ?_
        show PW _ _ _ 4 [some (.ref (58 + 2 * j))] [.int (b2i (x.1 ((58 + 2 * j) * 8 + 1) = 0))] (E x y)
        refine PW_if_eq c_F_bytesRefusal_4 (fun _ => ?_) (fun h3 => absurd (b2i_n0.mp h3) p3)
        refine PW_aload_n c_F_bytesRefusal_10 rfl ?_
        refine PW_V0 (d2 := 0) (st := []) [] c_F_bytesRefusal_11 lk_F_bytesRefusal_41 (sh_po _ _ hj) rfl rfl rfl (Nat.le_of_ble_eq_true rfl) (by first | decide | omega) (Nat.le_of_ble_eq_true rfl) ?_
        refine sp_F_holdsBytes hj  ?_
        show PW _ _ _ 14 [some (.ref (58 + 2 * j))] [.int (b2i (x.1 ((58 + 2 * j) * 8 + 1) = 2 ∧ x.1 ((58 + 2 * j) * 8 + 3) = 0))] (E x y)
        refine PW_if_eq c_F_bytesRefusal_14 (fun _ => ?_) (fun h4 => absurd (b2i_n0.mp h4) p4)
        refine PW_bipush (v := -12) c_F_bytesRefusal_21 (by decide) ?_
        refine PW_ireturn (ty := .int) c_F_bytesRefusal_23 rfl rfl ?_
        show PW _ _ _ 35 [some (.ref 5), some (.int (nI j)), some (.int a2), some (.int 2), some (.ref (58 + 2 * j)), none, none, none] [.int (-12)] (E x y)
        refine PW_istore (i := 5) (L2 := [some (.ref 5), some (.int (nI j)), some (.int a2), some (.int 2), some (.ref (58 + 2 * j)), some (.int (-12)), none, none]) c_G_round_35 (Nat.le_of_ble_eq_true rfl) rfl rfl ?_
        refine PW_iload c_G_round_37 rfl ?_
        refine PW_if_eq c_G_round_39 (fun h5 => absurd h5 (by decide)) (fun _ => ?_)
        refine PW_iload c_G_round_42 rfl ?_
        refine PW_ireturn (ty := .int) c_G_round_44 rfl rfl ?_
        exact h
      · refine PW.deeper (k := (5, 0, 0, z)) (Nat.le_of_ble_eq_true rfl) (Nat.le_refl _) (Nat.le_refl _) ?_
        refine PW_iload_n c_M_round_0 rfl ?_
        refine PW_S0 (d2 := 1) (st := []) [.int (nI j)] c_M_round_1 lk_M_round_143 rfl rfl rfl (Nat.le_of_ble_eq_true rfl) (by first | decide | omega) (Nat.le_of_ble_eq_true rfl) ?_
        refine sp_M_isShelf2  ?_
        show PW _ _ _ 4 [some (.ref 70), some (.int (nI j)), some (.int a2), some (.int 2), none] [.int (b2i (0 ≤ (nI j).toInt ∧ (nI j).toInt < 6))] (E x y)
        refine PW_if_eq c_M_round_4 (fun h0 => absurd hjs (b2i_0.mp h0)) (fun _ => ?_)
        refine PW_iload_n c_M_round_7 rfl ?_
        refine PW_S0 (d2 := 2) (st := []) [.int a2] c_M_round_8 lk_M_round_283 rfl rfl rfl (Nat.le_of_ble_eq_true rfl) (by first | decide | omega) (Nat.le_of_ble_eq_true rfl) ?_
        refine sp_M_isTime  ?_
        show PW _ _ _ 11 [some (.ref 70), some (.int (nI j)), some (.int a2), some (.int 2), none] [.int (b2i (0 ≤ a2 ∧ 0 ≤ a2 / 100 ∧ a2 / 100 ≤ 4))] (E x y)
        refine PW_if_eq c_M_round_11 (fun h1 => absurd hc1 (b2i_0.mp h1)) (fun _ => ?_)
        refine PW_iload_n c_M_round_14 rfl ?_
        refine PW_iconst (v := 0) c_M_round_15 (by decide) ?_
        refine PW_iconst (v := 2) c_M_round_16 (by decide) ?_
        refine PW_S0 (d2 := 0) (st := []) [.int 2, .int 0, .int 2] c_M_round_17 lk_M_round_131 rfl rfl rfl (Nat.le_of_ble_eq_true rfl) (by first | decide | omega) (Nat.le_of_ble_eq_true rfl) ?_
        refine sp_M_within  ?_
        show PW _ _ _ 20 [some (.ref 70), some (.int (nI j)), some (.int a2), some (.int 2), none] [.int (b2i ((0 : Int32) ≤ (2 : Int32) ∧ (2 : Int32) ≤ (2 : Int32)))] (E x y)
        refine PW_if_ne c_M_round_20 (fun _ => ?_) (fun h2 => absurd (by decide) (b2i_0.mp h2))
        refine PW_aload_n c_M_round_25 rfl ?_
        refine PW_iload_n c_M_round_26 rfl ?_
        refine PW_V0 (d2 := 0) (st := []) [.int (nI j)] c_M_round_27 lk_M_round_286 (po_70 _ _) rfl rfl rfl (Nat.le_of_ble_eq_true rfl) (by first | decide | omega) (Nat.le_of_ble_eq_true rfl) ?_
        show PW _ _ _ 0 [some (.ref 70), some (.int (nI j))] [] (E x y)
        refine PW_aload_n c_M_rowFault_0 rfl ?_
        refine PW_get (v := .ref 104) c_M_rowFault_1 fl_M_111 (gf_70_53 _ _) ?_
        refine PW_iload_n c_M_rowFault_4 rfl ?_
        refine PW_iald (j := j) c_M_rowFault_5 (ar_104 _ _) (vp_in_nI hj (by decide)) (nI_clamp (by omega)) ?_
        show PW _ _ _ 6 [some (.ref 70), some (.int (nI j))] [.int ((y.2.1 104) j)] (E x y)
        refine PW_iconst (v := -1) c_M_rowFault_6 (by decide) ?_
        refine PW_icmp_ne c_M_rowFault_7 (fun h3 => ?_) (fun h3 => absurd h3 p1)
        refine PW_aload_n c_M_rowFault_15 rfl ?_
        refine PW_get (v := .ref 104) c_M_rowFault_16 fl_M_111 (gf_70_53 _ _) ?_
        refine PW_iload_n c_M_rowFault_19 rfl ?_
        refine PW_iald (j := j) c_M_rowFault_20 (ar_104 _ _) (vp_in_nI hj (by decide)) (nI_clamp (by omega)) ?_
        show PW _ _ _ 21 [some (.ref 70), some (.int (nI j))] [.int ((y.2.1 104) j)] (E x y)
        refine PW_bipush (v := -2) c_M_rowFault_21 (by decide) ?_
        refine PW_icmp_ne c_M_rowFault_23 (fun h4 => ?_) (fun h4 => absurd h4 p2)
        refine PW_bipush (v := -12) c_M_rowFault_30 (by decide) ?_
        refine PW_ireturn (ty := .int) c_M_rowFault_32 rfl rfl ?_
        show PW _ _ _ 30 [some (.ref 70), some (.int (nI j)), some (.int a2), some (.int 2), none] [.int (-12)] (E x y)
        refine PW_if_ge c_M_round_30 (fun h5 => absurd h5 (by decide)) (fun _ => ?_)
        refine PW_aload_n c_M_round_33 rfl ?_
        refine PW_iload_n c_M_round_34 rfl ?_
        refine PW_V0 (d2 := 0) (st := []) [.int (nI j)] c_M_round_35 lk_M_round_286 (po_70 _ _) rfl rfl rfl (Nat.le_of_ble_eq_true rfl) (by first | decide | omega) (Nat.le_of_ble_eq_true rfl) ?_
        show PW _ _ _ 0 [some (.ref 70), some (.int (nI j))] [] (E x y)
        refine PW_aload_n c_M_rowFault_0 rfl ?_
        refine PW_get (v := .ref 104) c_M_rowFault_1 fl_M_111 (gf_70_53 _ _) ?_
        refine PW_iload_n c_M_rowFault_4 rfl ?_
        refine PW_iald (j := j) c_M_rowFault_5 (ar_104 _ _) (vp_in_nI hj (by decide)) (nI_clamp (by omega)) ?_
        show PW _ _ _ 6 [some (.ref 70), some (.int (nI j))] [.int ((y.2.1 104) j)] (E x y)
        refine PW_iconst (v := -1) c_M_rowFault_6 (by decide) ?_
        refine PW_icmp_ne c_M_rowFault_7 (fun h6 => ?_) (fun h6 => absurd h6 p1)
        refine PW_aload_n c_M_rowFault_15 rfl ?_
        refine PW_get (v := .ref 104) c_M_rowFault_16 fl_M_111 (gf_70_53 _ _) ?_
        refine PW_iload_n c_M_rowFault_19 rfl ?_
        refine PW_iald (j := j) c_M_rowFault_20 (ar_104 _ _) (vp_in_nI hj (by decide)) (nI_clamp (by omega)) ?_
        show PW _ _ _ 21 [some (.ref 70), some (.int (nI j))] [.int ((y.2.1 104) j)] (E x y)
        refine PW_bipush (v := -2) c_M_rowFault_21 (by decide) ?_
        refine PW_icmp_ne c_M_rowFault_23 (fun h7 => ?_) (fun h7 => absurd h7 p2)
        refine PW_bipush (v := -12) c_M_rowFault_30 (by decide) ?_
        refine PW_ireturn (ty := .int) c_M_rowFault_32 rfl rfl ?_
        show PW _ _ _ 38 [some (.ref 70), some (.int (nI j)), some (.int a2), some (.int 2), none] [.int (-12)] (E x y)
        refine PW_ireturn (ty := .int) c_M_round_38 rfl rfl ?_
        exact h
    · have hLd := ldF_p (plF y j) n 12 0
      generalize hNd : ldF (plF y j) n 12 0 = N at hLd
      obtain ⟨-, hN12, hLd, hEd⟩ := hLd
      have hR1 : ∀ i, i < n → (x.2.2 (59 + 2 * j) i).toInt32 = plF y j i := fun i hi => (hP i hi).1
      obtain ⟨sb, fb⟩ := lvS_begin (X := x) (o := 31) (a := a) (m := nI mm) (t := 0)
      obtain ⟨XX, hXX, sX, aX, HG⟩ := lp_G_round (T := T) (a1 := nI j) (a2 := a2) (a3 := 2) (N := N) hg hT hj p4 p6 hn hR1 (by omega) (fun i hi => hLd i (Nat.zero_le _) hi) N 0 _ a (nI mm) 0 (Nat.zero_add _) (xS_frV fb (Or.inl rfl)) sb ha (by rw [nI_toInt (by omega)]; omega)
      obtain ⟨YY, hYY, sY, HM⟩ := lp_M_round (T := T) (x := XX) (x0 := x) (a2 := a2) (a3 := 2) (N := N) hg hT hj p5 hn (by omega) (fun i hi => hLd i (Nat.zero_le _) hi) (hEd.imp (fun q => by omega) id) N 0 (sI (sI (sI y 590 (nI a)) 591 (nI mm)) 592 0) a (nI mm) 0 (Nat.zero_add _) (yS_frG (Y' := sI (sI (sI y 590 (nI a)) 591 (nI mm)) 592 0) ⟨fun n h2 h3 h4 => by rw [sI_n h4, sI_n h3, sI_n h2], fun _ _ _ => rfl, rfl⟩) ⟨rfl, rfl, rfl⟩ ha
      have CX := CPg_S hg hXX (yS_0 y)
      have hWY : WG YY := (CPg_S hg (xS_0 x) hYY).1
      obtain ⟨g1, g2, g3, g4, g5, g6, g7⟩ := gE_fun (gE_S hYY)
      generalize hS : rdF T y (plF y j) N 0 (a, nI mm, 0) = S at sX aX HG sY HM
      refine ⟨mustB y &&& (S.2.2 ^^^ -1), XX, YY, ?_, fun {z post} h => ?_, fun {z post} h => ?_⟩
      · exact INV_step (INV_S hI hXX hYY)
      · refine PW.deeper (k := (5, 0, 0, z)) (Nat.le_of_ble_eq_true rfl) (Nat.le_refl _) (Nat.le_refl _) ?_
        refine PW_aload_n c_G_round_0 rfl ?_
        refine PW_iload_n c_G_round_1 rfl ?_
        refine PW_V0 (d2 := 0) (st := []) [.int (nI j)] c_G_round_2 lk_G_round_102 (po_5 _ _) rfl rfl rfl (Nat.le_of_ble_eq_true rfl) (by first | decide | omega) (Nat.le_of_ble_eq_true rfl) ?_
        refine sp_shelf hj ?_
        show PW _ _ _ 5 [some (.ref 5), some (.int (nI j)), some (.int a2), some (.int 2), none, none, none, none] [.ref (58 + 2 * j)] (E x y)
        refine PW_astore (i := 4) (L2 := [some (.ref 5), some (.int (nI j)), some (.int a2), some (.int 2), some (.ref (58 + 2 * j)), none, none, none]) c_G_round_5 (Nat.le_of_ble_eq_true rfl) rfl rfl ?_
        refine PW_aload c_G_round_7 rfl ?_
        refine PW_ifnull c_G_round_9 ?_
        refine PW_iload_n c_G_round_12 rfl ?_
        refine PW_S0 (d2 := 1) (st := []) [.int a2] c_G_round_13 lk_G_round_163 rfl rfl rfl (Nat.le_of_ble_eq_true rfl) (by first | decide | omega) (Nat.le_of_ble_eq_true rfl) ?_
        refine sp_G_isRoomMinute  ?_
        show PW _ _ _ 16 [some (.ref 5), some (.int (nI j)), some (.int a2), some (.int 2), some (.ref (58 + 2 * j)), none, none, none] [.int (b2i (0 ≤ a2 ∧ 0 ≤ a2 / 100 ∧ a2 / 100 ≤ 4))] (E x y)
        refine PW_if_eq c_G_round_16 (fun h0 => absurd hc1 (b2i_0.mp h0)) (fun _ => ?_)
        refine PW_iload_n c_G_round_19 rfl ?_
        refine PW_if_lt c_G_round_20 (fun h1 => absurd h1 (by decide)) (fun _ => ?_)
        refine PW_iload_n c_G_round_23 rfl ?_
        refine PW_iconst (v := 2) c_G_round_24 (by decide) ?_
        refine PW_icmp_le c_G_round_25 (fun _ => ?_) (fun h2 => absurd (by decide) h2)
        refine PW_aload c_G_round_30 rfl ?_
        refine PW_V0 (d2 := 1) (st := []) [] c_G_round_32 lk_G_round_106 (sh_po _ _ hj) rfl rfl rfl (Nat.le_of_ble_eq_true rfl) (by first | decide | omega) (Nat.le_of_ble_eq_true rfl) ?_
        show PW _ _ _ 0 [some (.ref (58 + 2 * j))] [] (E x y)
        refine PW_aload_n c_F_bytesRefusal_0 rfl ?_
        refine PW_V0 (d2 := 0) (st := []) [] c_F_bytesRefusal_1 lk_F_bytesRefusal_37 (sh_po _ _ hj) rfl rfl rfl (Nat.le_of_ble_eq_true rfl) (by first | decide | omega) (Nat.le_of_ble_eq_true rfl) ?_
        refine sp_F_isEmpty hj  ?_
        show PW _ _ _ 4 [some (.ref (58 + 2 * j))] [.int (b2i (x.1 ((58 + 2 * j) * 8 + 1) = 0))] (E x y)
        refine PW_if_eq c_F_bytesRefusal_4 (fun _ => ?_) (fun h3 => absurd (b2i_n0.mp h3) p3)
        refine PW_aload_n c_F_bytesRefusal_10 rfl ?_
        refine PW_V0 (d2 := 0) (st := []) [] c_F_bytesRefusal_11 lk_F_bytesRefusal_41 (sh_po _ _ hj) rfl rfl rfl (Nat.le_of_ble_eq_true rfl) (by first | decide | omega) (Nat.le_of_ble_eq_true rfl) ?_
        refine sp_F_holdsBytes hj  ?_
        show PW _ _ _ 14 [some (.ref (58 + 2 * j))] [.int (b2i (x.1 ((58 + 2 * j) * 8 + 1) = 2 ∧ x.1 ((58 + 2 * j) * 8 + 3) = 0))] (E x y)
        refine PW_if_eq c_F_bytesRefusal_14 (fun h4 => absurd p4 (b2i_0.mp h4)) (fun _ => ?_)
        refine PW_iconst (v := 0) c_F_bytesRefusal_17 (by decide) ?_
        refine PW_goto c_F_bytesRefusal_18 ?_
        refine PW_ireturn (ty := .int) c_F_bytesRefusal_23 rfl rfl ?_
        show PW _ _ _ 35 [some (.ref 5), some (.int (nI j)), some (.int a2), some (.int 2), some (.ref (58 + 2 * j)), none, none, none] [.int 0] (E x y)
        refine PW_istore (i := 5) (L2 := [some (.ref 5), some (.int (nI j)), some (.int a2), some (.int 2), some (.ref (58 + 2 * j)), some (.int 0), none, none]) c_G_round_35 (Nat.le_of_ble_eq_true rfl) rfl rfl ?_
        refine PW_iload c_G_round_37 rfl ?_
        refine PW_if_eq c_G_round_39 (fun _ => ?_) (fun h5 => absurd (by decide) h5)
        refine PW_aload_n c_G_round_45 rfl ?_
        refine PW_get (v := .ref 31) c_G_round_46 fl_G_35 (gf_5_3 _ _) ?_
        refine PW_iload_n c_G_round_49 rfl ?_
        refine PW_bipush (v := 100) c_G_round_50 (by decide) ?_
        refine PW_idiv c_G_round_52 (by decide) ?_
        refine PW_iload_n c_G_round_53 rfl ?_
        refine PW_bipush (v := 100) c_G_round_54 (by decide) ?_
        refine PW_irem c_G_round_56 (by decide) ?_
        refine PW_V0 (d2 := 1) (st := []) [.int (a2 / 100), .int (a2 - a2 / 100 * 100)] c_G_round_57 lk_G_round_166 (po_31 _ _) rfl rfl rfl (Nat.le_of_ble_eq_true rfl) (by first | decide | omega) (Nat.le_of_ble_eq_true rfl) ?_
        show PW _ _ _ 0 [some (.ref 31), some (.int (a2 / 100)), some (.int (a2 - a2 / 100 * 100))] [] (E x y)
        refine PW_aload_n c_V_begin_0 rfl ?_
        refine PW_iload_n c_V_begin_1 rfl ?_
        refine PW_iload_n c_V_begin_2 rfl ?_
        refine PW_iconst (v := 0) c_V_begin_3 (by decide) ?_
        refine PW_V0 (d2 := 0) (st := []) [.int (a2 / 100), .int (a2 - a2 / 100 * 100), .int 0] c_V_begin_4 lk_V_begin_19 (po_31 _ _) rfl rfl rfl (Nat.le_of_ble_eq_true rfl) (by first | decide | omega) (Nat.le_of_ble_eq_true rfl) ?_
        show PW _ _ _ 0 [some (.ref 31), some (.int (a2 / 100)), some (.int (a2 - a2 / 100 * 100)), some (.int 0)] [] (E x y)
        refine PW_aload_n c_V_stand_0 rfl ?_
        refine PW_iload_n c_V_stand_1 rfl ?_
        refine PW_put (w2 := E (sI x 250 (a2 / 100)) y) c_V_stand_2 fp_V_stand_23 rfl (pf_31_2 _ _ _) ?_
        refine PW_aload_n c_V_stand_5 rfl ?_
        refine PW_iload_n c_V_stand_6 rfl ?_
        refine PW_put (w2 := E (sI (sI x 250 (a2 / 100)) 251 (a2 - a2 / 100 * 100)) y) c_V_stand_7 fp_V_stand_27 rfl (pf_31_3 _ _ _) ?_
        refine PW_aload_n c_V_stand_10 rfl ?_
        refine PW_iload_n c_V_stand_11 rfl ?_
        refine PW_put (w2 := E (sI (sI (sI x 250 (a2 / 100)) 251 (a2 - a2 / 100 * 100)) 252 0) y) c_V_stand_12 fp_V_stand_30 rfl (pf_31_4 _ _ _) ?_
        refine PW_vreturn c_V_stand_15 rfl ?_
        show PW _ _ _ 7 [some (.ref 31), some (.int (a2 / 100)), some (.int (a2 - a2 / 100 * 100))] [] (E (sI (sI (sI x 250 (a2 / 100)) 251 (a2 - a2 / 100 * 100)) 252 0) y)
        refine PW_vreturn c_V_begin_7 rfl ?_
        show PW _ _ _ 60 [some (.ref 5), some (.int (nI j)), some (.int a2), some (.int 2), some (.ref (58 + 2 * j)), some (.int 0), none, none] [] (E (sI (sI (sI x 250 (a2 / 100)) 251 (a2 - a2 / 100 * 100)) 252 0) y)
        refine PW_aload c_G_round_60 rfl ?_
        refine PW_V0 (d2 := 3) (st := []) [] c_G_round_62 lk_G_round_170 (sh_po _ _ hj) rfl rfl rfl (Nat.le_of_ble_eq_true rfl) (by first | decide | omega) (Nat.le_of_ble_eq_true rfl) ?_
        refine sp_F_lead (gs := plF y j) hj (⟨(by rw [sI_n (by omega), sI_n (by omega), sI_n (by omega)]; exact p4.1), (by rw [sI_n (by omega), sI_n (by omega), sI_n (by omega)]; exact p4.2)⟩) (by rw [sI_n (by omega), sI_n (by omega), sI_n (by omega)]; exact p6) hn (fun i hi => (hP i hi).1) ?_
        rw [hNd]
        show PW _ _ _ 65 [some (.ref 5), some (.int (nI j)), some (.int a2), some (.int 2), some (.ref (58 + 2 * j)), some (.int 0), none, none] [.int (nI N)] (E (sI (sI (sI x 250 (a2 / 100)) 251 (a2 - a2 / 100 * 100)) 252 0) y)
        refine PW_istore (i := 6) (L2 := [some (.ref 5), some (.int (nI j)), some (.int a2), some (.int 2), some (.ref (58 + 2 * j)), some (.int 0), some (.int (nI N)), none]) c_G_round_65 (Nat.le_of_ble_eq_true rfl) rfl rfl ?_
        refine PW_iconst (v := 0) c_G_round_67 (by decide) ?_
        refine PW_istore (i := 7) (L2 := [some (.ref 5), some (.int (nI j)), some (.int a2), some (.int 2), some (.ref (58 + 2 * j)), some (.int 0), some (.int (nI N)), some (.int 0)]) c_G_round_68 (Nat.le_of_ble_eq_true rfl) rfl rfl ?_
        refine PW.eqL ?_ rfl ?_ (HG ?_)
        · rfl
        · rw [em, ea]
        · show PW _ _ _ 106 [some (.ref 5), some (.int (nI j)), some (.int a2), some (.int 2), some (.ref (58 + 2 * j)), some (.int 0), some (.int (nI N)), some (.int (nI N))] [] (E XX y)
          refine PW_iload_n c_G_round_106 rfl ?_
          refine PW_if_ne c_G_round_107 (fun _ => ?_) (fun h0 => absurd h0 (by decide))
          refine PW_iload_n c_G_round_118 rfl ?_
          refine PW_iconst (v := 1) c_G_round_119 (by decide) ?_
          refine PW_icmp_ne c_G_round_120 (fun _ => ?_) (fun h1 => absurd h1 (by decide))
          refine PW_aload_n c_G_round_133 rfl ?_
          refine PW_get (v := .ref 6) c_G_round_134 fl_G_13 (gf_5_0 _ _) ?_
          refine PW_aload_n c_G_round_137 rfl ?_
          refine PW_get (v := .ref 31) c_G_round_138 fl_G_35 (gf_5_3 _ _) ?_
          refine PW_V0 (d2 := 0) (st := [.ref 6]) [] c_G_round_141 lk_G_round_186 (po_31 _ _) rfl rfl rfl (Nat.le_of_ble_eq_true rfl) (by first | decide | omega) (Nat.le_of_ble_eq_true rfl) ?_
          show PW _ _ _ 0 [some (.ref 31)] [] (E XX y)
          refine PW_aload_n c_V_told_0 rfl ?_
          refine PW_get (v := .int (XX.1 252)) c_V_told_1 fl_V_30 (gf_31_4 _ _) ?_
          refine PW_ireturn (ty := .int) c_V_told_4 rfl rfl ?_
          show PW _ _ _ 144 [some (.ref 5), some (.int (nI j)), some (.int a2), some (.int 2), some (.ref (58 + 2 * j)), some (.int 0), some (.int (nI N)), some (.int (nI N))] [.int (XX.1 252), .ref 6] (E XX y)
          refine PW_V0 (d2 := 0) (st := []) [.int (XX.1 252)] c_G_round_144 lk_G_round_189 (po_6 _ _) rfl rfl rfl (Nat.le_of_ble_eq_true rfl) (by first | decide | omega) (Nat.le_of_ble_eq_true rfl) ?_
          show PW _ _ _ 0 [some (.ref 6), some (.int (XX.1 252))] [] (E XX y)
          refine PW_aload_n c_H_missed_0 rfl ?_
          refine PW_get (v := .int (XX.1 52)) c_H_missed_1 fl_H_45 (gf_6_4 _ _) ?_
          refine PW_iload_n c_H_missed_4 rfl ?_
          refine PW_iconst (v := -1) c_H_missed_5 (by decide) ?_
          refine PW_ixor c_H_missed_6 ?_
          refine PW_iand c_H_missed_7 ?_
          refine PW_ireturn (ty := .int) c_H_missed_8 rfl rfl ?_
          show PW _ _ _ 147 [some (.ref 5), some (.int (nI j)), some (.int a2), some (.int 2), some (.ref (58 + 2 * j)), some (.int 0), some (.int (nI N)), some (.int (nI N))] [.int ((XX.1 52) &&& ((XX.1 252) ^^^ (-1)))] (E XX y)
          refine PW_ireturn (ty := .int) c_G_round_147 rfl rfl ?_
          exact pqi h (by rw [CX.x52, show XX.1 252 = S.2.2 from sX.2.2])
      · refine PW.deeper (k := (5, 0, 0, z)) (Nat.le_of_ble_eq_true rfl) (Nat.le_refl _) (Nat.le_refl _) ?_
        refine PW_iload_n c_M_round_0 rfl ?_
        refine PW_S0 (d2 := 1) (st := []) [.int (nI j)] c_M_round_1 lk_M_round_143 rfl rfl rfl (Nat.le_of_ble_eq_true rfl) (by first | decide | omega) (Nat.le_of_ble_eq_true rfl) ?_
        refine sp_M_isShelf2  ?_
        show PW _ _ _ 4 [some (.ref 70), some (.int (nI j)), some (.int a2), some (.int 2), none] [.int (b2i (0 ≤ (nI j).toInt ∧ (nI j).toInt < 6))] (E XX y)
        refine PW_if_eq c_M_round_4 (fun h0 => absurd hjs (b2i_0.mp h0)) (fun _ => ?_)
        refine PW_iload_n c_M_round_7 rfl ?_
        refine PW_S0 (d2 := 2) (st := []) [.int a2] c_M_round_8 lk_M_round_283 rfl rfl rfl (Nat.le_of_ble_eq_true rfl) (by first | decide | omega) (Nat.le_of_ble_eq_true rfl) ?_
        refine sp_M_isTime  ?_
        show PW _ _ _ 11 [some (.ref 70), some (.int (nI j)), some (.int a2), some (.int 2), none] [.int (b2i (0 ≤ a2 ∧ 0 ≤ a2 / 100 ∧ a2 / 100 ≤ 4))] (E XX y)
        refine PW_if_eq c_M_round_11 (fun h1 => absurd hc1 (b2i_0.mp h1)) (fun _ => ?_)
        refine PW_iload_n c_M_round_14 rfl ?_
        refine PW_iconst (v := 0) c_M_round_15 (by decide) ?_
        refine PW_iconst (v := 2) c_M_round_16 (by decide) ?_
        refine PW_S0 (d2 := 0) (st := []) [.int 2, .int 0, .int 2] c_M_round_17 lk_M_round_131 rfl rfl rfl (Nat.le_of_ble_eq_true rfl) (by first | decide | omega) (Nat.le_of_ble_eq_true rfl) ?_
        refine sp_M_within  ?_
        show PW _ _ _ 20 [some (.ref 70), some (.int (nI j)), some (.int a2), some (.int 2), none] [.int (b2i ((0 : Int32) ≤ (2 : Int32) ∧ (2 : Int32) ≤ (2 : Int32)))] (E XX y)
        refine PW_if_ne c_M_round_20 (fun _ => ?_) (fun h2 => absurd (by decide) (b2i_0.mp h2))
        refine PW_aload_n c_M_round_25 rfl ?_
        refine PW_iload_n c_M_round_26 rfl ?_
        refine PW_V0 (d2 := 0) (st := []) [.int (nI j)] c_M_round_27 lk_M_round_286 (po_70 _ _) rfl rfl rfl (Nat.le_of_ble_eq_true rfl) (by first | decide | omega) (Nat.le_of_ble_eq_true rfl) ?_
        show PW _ _ _ 0 [some (.ref 70), some (.int (nI j))] [] (E XX y)
        refine PW_aload_n c_M_rowFault_0 rfl ?_
        refine PW_get (v := .ref 104) c_M_rowFault_1 fl_M_111 (gf_70_53 _ _) ?_
        refine PW_iload_n c_M_rowFault_4 rfl ?_
        refine PW_iald (j := j) c_M_rowFault_5 (ar_104 _ _) (vp_in_nI hj (by decide)) (nI_clamp (by omega)) ?_
        show PW _ _ _ 6 [some (.ref 70), some (.int (nI j))] [.int ((y.2.1 104) j)] (E XX y)
        refine PW_iconst (v := -1) c_M_rowFault_6 (by decide) ?_
        refine PW_icmp_ne c_M_rowFault_7 (fun h3 => ?_) (fun h3 => absurd h3 p1)
        refine PW_aload_n c_M_rowFault_15 rfl ?_
        refine PW_get (v := .ref 104) c_M_rowFault_16 fl_M_111 (gf_70_53 _ _) ?_
        refine PW_iload_n c_M_rowFault_19 rfl ?_
        refine PW_iald (j := j) c_M_rowFault_20 (ar_104 _ _) (vp_in_nI hj (by decide)) (nI_clamp (by omega)) ?_
        show PW _ _ _ 21 [some (.ref 70), some (.int (nI j))] [.int ((y.2.1 104) j)] (E XX y)
        refine PW_bipush (v := -2) c_M_rowFault_21 (by decide) ?_
        refine PW_icmp_ne c_M_rowFault_23 (fun h4 => absurd h4 (not_not_intro p2)) (fun h4 => ?_)
        refine PW_iconst (v := 0) c_M_rowFault_26 (by decide) ?_
        refine PW_goto c_M_rowFault_27 ?_
        refine PW_ireturn (ty := .int) c_M_rowFault_32 rfl rfl ?_
        show PW _ _ _ 30 [some (.ref 70), some (.int (nI j)), some (.int a2), some (.int 2), none] [.int 0] (E XX y)
        refine PW_if_ge c_M_round_30 (fun _ => ?_) (fun h5 => absurd (by decide) h5)
        refine PW_aload_n c_M_round_39 rfl ?_
        refine PW_iload_n c_M_round_40 rfl ?_
        refine PW_bipush (v := 100) c_M_round_41 (by decide) ?_
        refine PW_idiv c_M_round_43 (by decide) ?_
        refine PW_iload_n c_M_round_44 rfl ?_
        refine PW_bipush (v := 100) c_M_round_45 (by decide) ?_
        refine PW_irem c_M_round_47 (by decide) ?_
        refine PW_V0 (d2 := 0) (st := []) [.int (a2 / 100), .int (a2 - a2 / 100 * 100)] c_M_round_48 lk_M_round_289 (po_70 _ _) rfl rfl rfl (Nat.le_of_ble_eq_true rfl) (by first | decide | omega) (Nat.le_of_ble_eq_true rfl) ?_
        show PW _ _ _ 0 [some (.ref 70), some (.int (a2 / 100)), some (.int (a2 - a2 / 100 * 100))] [] (E XX y)
        refine PW_aload_n c_M_begin_0 rfl ?_
        refine PW_iload_n c_M_begin_1 rfl ?_
        refine PW_put (w2 := E XX (sI y 590 (a2 / 100))) c_M_begin_2 fp_M_begin_265 rfl (pf_70_30 _ _ _) ?_
        refine PW_aload_n c_M_begin_5 rfl ?_
        refine PW_iload_n c_M_begin_6 rfl ?_
        refine PW_put (w2 := E XX (sI (sI y 590 (a2 / 100)) 591 (a2 - a2 / 100 * 100))) c_M_begin_7 fp_M_begin_268 rfl (pf_70_31 _ _ _) ?_
        refine PW_aload_n c_M_begin_10 rfl ?_
        refine PW_iconst (v := 0) c_M_begin_11 (by decide) ?_
        refine PW_put (w2 := E XX (sI (sI (sI y 590 (a2 / 100)) 591 (a2 - a2 / 100 * 100)) 592 0)) c_M_begin_12 fp_M_begin_271 rfl (pf_70_32 _ _ _) ?_
        refine PW_vreturn c_M_begin_15 rfl ?_
        show PW _ _ _ 51 [some (.ref 70), some (.int (nI j)), some (.int a2), some (.int 2), none] [] (E XX (sI (sI (sI y 590 (a2 / 100)) 591 (a2 - a2 / 100 * 100)) 592 0))
        refine PW_iconst (v := 0) c_M_round_51 (by decide) ?_
        refine PW_istore (i := 4) (L2 := [some (.ref 70), some (.int (nI j)), some (.int a2), some (.int 2), some (.int 0)]) c_M_round_52 (Nat.le_of_ble_eq_true rfl) rfl rfl ?_
        refine PW.eqL ?_ rfl ?_ (HM ?_)
        · rfl
        · rw [em, ea]
        · show PW _ _ _ 102 [some (.ref 70), some (.int (nI j)), some (.int a2), some (.int 2), some (.int (nI N))] [] (E XX YY)
          refine PW_iload_n c_M_round_102 rfl ?_
          refine PW_if_ne c_M_round_103 (fun _ => ?_) (fun h0 => absurd h0 (by decide))
          refine PW_iload_n c_M_round_113 rfl ?_
          refine PW_iconst (v := 1) c_M_round_114 (by decide) ?_
          refine PW_icmp_ne c_M_round_115 (fun _ => ?_) (fun h1 => absurd h1 (by decide))
          refine PW_aload_n c_M_round_125 rfl ?_
          refine PW_V0 (d2 := 0) (st := []) [] c_M_round_126 lk_M_round_253 (po_70 _ _) rfl rfl rfl (Nat.le_of_ble_eq_true rfl) (by first | decide | omega) (Nat.le_of_ble_eq_true rfl) ?_
          refine sp_M_allMust hWY ?_
          show PW _ _ _ 129 [some (.ref 70), some (.int (nI j)), some (.int a2), some (.int 2), some (.int (nI N))] [.int (mustB YY)] (E XX YY)
          refine PW_aload_n c_M_round_129 rfl ?_
          refine PW_get (v := .int (YY.1 592)) c_M_round_130 fl_M_271 (gf_70_32 _ _) ?_
          refine PW_iconst (v := -1) c_M_round_133 (by decide) ?_
          refine PW_ixor c_M_round_134 ?_
          refine PW_iand c_M_round_135 ?_
          refine PW_ireturn (ty := .int) c_M_round_136 rfl rfl ?_
          exact pqi h (by rw [g3, show YY.1 592 = S.2.2 from sY.2.2])
  have hk5 : ¬ (0 ≤ a3 ∧ a3 ≤ 2) := fun q => by simp only [Int32.le_iff_toInt_le, ← Int32.toInt_inj, tiA] at q hw0 hw1 hw2; omega
  by_cases hk2 : a3 < 0
  · refine ⟨-1, x, y, ?_, fun {z post} h => ?_, fun {z post} h => ?_⟩
    · exact INV_step hI
    · refine PW.deeper (k := (5, 0, 0, z)) (Nat.le_of_ble_eq_true rfl) (Nat.le_refl _) (Nat.le_refl _) ?_
      refine PW_aload_n c_G_round_0 rfl ?_
      refine PW_iload_n c_G_round_1 rfl ?_
      refine PW_V0 (d2 := 0) (st := []) [.int (nI j)] c_G_round_2 lk_G_round_102 (po_5 _ _) rfl rfl rfl (Nat.le_of_ble_eq_true rfl) (by first | decide | omega) (Nat.le_of_ble_eq_true rfl) ?_
      refine sp_shelf hj ?_
      show PW _ _ _ 5 [some (.ref 5), some (.int (nI j)), some (.int a2), some (.int a3), none, none, none, none] [.ref (58 + 2 * j)] (E x y)
      refine PW_astore (i := 4) (L2 := [some (.ref 5), some (.int (nI j)), some (.int a2), some (.int a3), some (.ref (58 + 2 * j)), none, none, none]) c_G_round_5 (Nat.le_of_ble_eq_true rfl) rfl rfl ?_
      refine PW_aload c_G_round_7 rfl ?_
      refine PW_ifnull c_G_round_9 ?_
      refine PW_iload_n c_G_round_12 rfl ?_
      refine PW_S0 (d2 := 1) (st := []) [.int a2] c_G_round_13 lk_G_round_163 rfl rfl rfl (Nat.le_of_ble_eq_true rfl) (by first | decide | omega) (Nat.le_of_ble_eq_true rfl) ?_
      refine sp_G_isRoomMinute  ?_
      show PW _ _ _ 16 [some (.ref 5), some (.int (nI j)), some (.int a2), some (.int a3), some (.ref (58 + 2 * j)), none, none, none] [.int (b2i (0 ≤ a2 ∧ 0 ≤ a2 / 100 ∧ a2 / 100 ≤ 4))] (E x y)
      refine PW_if_eq c_G_round_16 (fun h0 => absurd hc1 (b2i_0.mp h0)) (fun _ => ?_)
      refine PW_iload_n c_G_round_19 rfl ?_
      refine PW_if_lt c_G_round_20 (fun h1 => ?_) (fun h1 => absurd hk2 h1)
      refine PW_iconst (v := -1) c_G_round_28 (by decide) ?_
      refine PW_ireturn (ty := .int) c_G_round_29 rfl rfl ?_
      exact h
    · refine PW.deeper (k := (5, 0, 0, z)) (Nat.le_of_ble_eq_true rfl) (Nat.le_refl _) (Nat.le_refl _) ?_
      refine PW_iload_n c_M_round_0 rfl ?_
      refine PW_S0 (d2 := 1) (st := []) [.int (nI j)] c_M_round_1 lk_M_round_143 rfl rfl rfl (Nat.le_of_ble_eq_true rfl) (by first | decide | omega) (Nat.le_of_ble_eq_true rfl) ?_
      refine sp_M_isShelf2  ?_
      show PW _ _ _ 4 [some (.ref 70), some (.int (nI j)), some (.int a2), some (.int a3), none] [.int (b2i (0 ≤ (nI j).toInt ∧ (nI j).toInt < 6))] (E x y)
      refine PW_if_eq c_M_round_4 (fun h0 => absurd hjs (b2i_0.mp h0)) (fun _ => ?_)
      refine PW_iload_n c_M_round_7 rfl ?_
      refine PW_S0 (d2 := 2) (st := []) [.int a2] c_M_round_8 lk_M_round_283 rfl rfl rfl (Nat.le_of_ble_eq_true rfl) (by first | decide | omega) (Nat.le_of_ble_eq_true rfl) ?_
      refine sp_M_isTime  ?_
      show PW _ _ _ 11 [some (.ref 70), some (.int (nI j)), some (.int a2), some (.int a3), none] [.int (b2i (0 ≤ a2 ∧ 0 ≤ a2 / 100 ∧ a2 / 100 ≤ 4))] (E x y)
      refine PW_if_eq c_M_round_11 (fun h1 => absurd hc1 (b2i_0.mp h1)) (fun _ => ?_)
      refine PW_iload_n c_M_round_14 rfl ?_
      refine PW_iconst (v := 0) c_M_round_15 (by decide) ?_
      refine PW_iconst (v := 2) c_M_round_16 (by decide) ?_
      refine PW_S0 (d2 := 0) (st := []) [.int a3, .int 0, .int 2] c_M_round_17 lk_M_round_131 rfl rfl rfl (Nat.le_of_ble_eq_true rfl) (by first | decide | omega) (Nat.le_of_ble_eq_true rfl) ?_
      refine sp_M_within  ?_
      show PW _ _ _ 20 [some (.ref 70), some (.int (nI j)), some (.int a2), some (.int a3), none] [.int (b2i ((0 : Int32) ≤ a3 ∧ a3 ≤ (2 : Int32)))] (E x y)
      refine PW_if_ne c_M_round_20 (fun h2 => absurd (b2i_n0.mp h2) hk5) (fun _ => ?_)
      refine PW_iconst (v := -1) c_M_round_23 (by decide) ?_
      refine PW_ireturn (ty := .int) c_M_round_24 rfl rfl ?_
      exact h
  refine ⟨-1, x, y, ?_, fun {z post} h => ?_, fun {z post} h => ?_⟩
  · exact INV_step hI
  · refine PW.deeper (k := (5, 0, 0, z)) (Nat.le_of_ble_eq_true rfl) (Nat.le_refl _) (Nat.le_refl _) ?_
    refine PW_aload_n c_G_round_0 rfl ?_
    refine PW_iload_n c_G_round_1 rfl ?_
    refine PW_V0 (d2 := 0) (st := []) [.int (nI j)] c_G_round_2 lk_G_round_102 (po_5 _ _) rfl rfl rfl (Nat.le_of_ble_eq_true rfl) (by first | decide | omega) (Nat.le_of_ble_eq_true rfl) ?_
    refine sp_shelf hj ?_
    show PW _ _ _ 5 [some (.ref 5), some (.int (nI j)), some (.int a2), some (.int a3), none, none, none, none] [.ref (58 + 2 * j)] (E x y)
    refine PW_astore (i := 4) (L2 := [some (.ref 5), some (.int (nI j)), some (.int a2), some (.int a3), some (.ref (58 + 2 * j)), none, none, none]) c_G_round_5 (Nat.le_of_ble_eq_true rfl) rfl rfl ?_
    refine PW_aload c_G_round_7 rfl ?_
    refine PW_ifnull c_G_round_9 ?_
    refine PW_iload_n c_G_round_12 rfl ?_
    refine PW_S0 (d2 := 1) (st := []) [.int a2] c_G_round_13 lk_G_round_163 rfl rfl rfl (Nat.le_of_ble_eq_true rfl) (by first | decide | omega) (Nat.le_of_ble_eq_true rfl) ?_
    refine sp_G_isRoomMinute  ?_
    show PW _ _ _ 16 [some (.ref 5), some (.int (nI j)), some (.int a2), some (.int a3), some (.ref (58 + 2 * j)), none, none, none] [.int (b2i (0 ≤ a2 ∧ 0 ≤ a2 / 100 ∧ a2 / 100 ≤ 4))] (E x y)
    refine PW_if_eq c_G_round_16 (fun h0 => absurd hc1 (b2i_0.mp h0)) (fun _ => ?_)
    refine PW_iload_n c_G_round_19 rfl ?_
    refine PW_if_lt c_G_round_20 (fun h1 => absurd h1 hk2) (fun h1 => ?_)
    refine PW_iload_n c_G_round_23 rfl ?_
    refine PW_iconst (v := 2) c_G_round_24 (by decide) ?_
    refine PW_icmp_le c_G_round_25 (fun h2 => absurd h2 (fun q => hk5 ⟨Int32.not_lt.mp hk2, q⟩)) (fun h2 => ?_)
    refine PW_iconst (v := -1) c_G_round_28 (by decide) ?_
    refine PW_ireturn (ty := .int) c_G_round_29 rfl rfl ?_
    exact h
  · refine PW.deeper (k := (5, 0, 0, z)) (Nat.le_of_ble_eq_true rfl) (Nat.le_refl _) (Nat.le_refl _) ?_
    refine PW_iload_n c_M_round_0 rfl ?_
    refine PW_S0 (d2 := 1) (st := []) [.int (nI j)] c_M_round_1 lk_M_round_143 rfl rfl rfl (Nat.le_of_ble_eq_true rfl) (by first | decide | omega) (Nat.le_of_ble_eq_true rfl) ?_
    refine sp_M_isShelf2  ?_
    show PW _ _ _ 4 [some (.ref 70), some (.int (nI j)), some (.int a2), some (.int a3), none] [.int (b2i (0 ≤ (nI j).toInt ∧ (nI j).toInt < 6))] (E x y)
    refine PW_if_eq c_M_round_4 (fun h0 => absurd hjs (b2i_0.mp h0)) (fun _ => ?_)
    refine PW_iload_n c_M_round_7 rfl ?_
    refine PW_S0 (d2 := 2) (st := []) [.int a2] c_M_round_8 lk_M_round_283 rfl rfl rfl (Nat.le_of_ble_eq_true rfl) (by first | decide | omega) (Nat.le_of_ble_eq_true rfl) ?_
    refine sp_M_isTime  ?_
    show PW _ _ _ 11 [some (.ref 70), some (.int (nI j)), some (.int a2), some (.int a3), none] [.int (b2i (0 ≤ a2 ∧ 0 ≤ a2 / 100 ∧ a2 / 100 ≤ 4))] (E x y)
    refine PW_if_eq c_M_round_11 (fun h1 => absurd hc1 (b2i_0.mp h1)) (fun _ => ?_)
    refine PW_iload_n c_M_round_14 rfl ?_
    refine PW_iconst (v := 0) c_M_round_15 (by decide) ?_
    refine PW_iconst (v := 2) c_M_round_16 (by decide) ?_
    refine PW_S0 (d2 := 0) (st := []) [.int a3, .int 0, .int 2] c_M_round_17 lk_M_round_131 rfl rfl rfl (Nat.le_of_ble_eq_true rfl) (by first | decide | omega) (Nat.le_of_ble_eq_true rfl) ?_
    refine sp_M_within  ?_
    show PW _ _ _ 20 [some (.ref 70), some (.int (nI j)), some (.int a2), some (.int a3), none] [.int (b2i ((0 : Int32) ≤ a3 ∧ a3 ≤ (2 : Int32)))] (E x y)
    refine PW_if_ne c_M_round_20 (fun h2 => absurd (b2i_n0.mp h2) hk5) (fun _ => ?_)
    refine PW_iconst (v := -1) c_M_round_23 (by decide) ?_
    refine PW_ireturn (ty := .int) c_M_round_24 rfl rfl ?_
    exact h
