set_option maxHeartbeats 4000000 in
theorem op_judge {t : Nat} {x y : XS} {a1 : Int32} {a2 : Int32} (hI : INV t x y) (ht : t < 512) : ∃ (r : Int32) (x' y' : XS), INV (t + 1) x' y' ∧ (∀ {z : ZS} {post : Option Value → List PE → Prop}, post (some (.int r)) (E x' y) → PW (90, 0, 0, z) m_G_judge post 0 [some (.ref 5), some (.int a1), some (.int a2), none, none, none, none] [] (E x y)) ∧ (∀ {z : ZS} {post : Option Value → List PE → Prop}, post (some (.int r)) (E x' y') → PW (90, 0, 0, z) m_M_judge post 0 [some (.ref 70), some (.int a1), some (.int a2), none] [] (E x' y)) := by
  obtain ⟨hg, hc, ht0, hl, hd, hb, hs⟩ := id hI
  obtain ⟨T, hT⟩ := lawIs_of hl

  by_cases hc0 : ¬ (0 ≤ a1.toInt ∧ a1.toInt < 6)
  · refine ⟨-1, x, y, ?_, fun {z post} h => ?_, fun {z post} h => ?_⟩
    · exact INV_step hI
    · refine PW.deeper (k := (6, 0, 0, z)) (Nat.le_of_ble_eq_true rfl) (Nat.le_refl _) (Nat.le_refl _) ?_
      refine PW_aload_n c_G_judge_0 rfl ?_
      refine PW_iload_n c_G_judge_1 rfl ?_
      refine PW_V0 (d2 := 0) (st := []) [.int a1] c_G_judge_2 lk_G_judge_102 (po_5 _ _) rfl rfl rfl (Nat.le_of_ble_eq_true rfl) (by first | decide | omega) (Nat.le_of_ble_eq_true rfl) ?_
      refine sp_noshelf hc0 ?_
      show PW _ _ _ 5 [some (.ref 5), some (.int a1), some (.int a2), none, none, none, none] [.null] (E x y)
      refine PW_astore_nN (i := 3) (L2 := [some (.ref 5), some (.int a1), some (.int a2), some (.null), none, none, none]) c_G_judge_5 rfl (Nat.le_of_ble_eq_true rfl) rfl rfl ?_
      refine PW_aload_nN c_G_judge_6 rfl ?_
      refine PW_ifnullN c_G_judge_7 ?_
      refine PW_iconst (v := -1) c_G_judge_17 (by decide) ?_
      refine PW_ireturn (ty := .int) c_G_judge_18 rfl rfl ?_
      exact h
    · refine PW.deeper (k := (5, 0, 0, z)) (Nat.le_of_ble_eq_true rfl) (Nat.le_refl _) (Nat.le_refl _) ?_
      refine PW_iload_n c_M_judge_0 rfl ?_
      refine PW_S0 (d2 := 1) (st := []) [.int a1] c_M_judge_1 lk_M_judge_143 rfl rfl rfl (Nat.le_of_ble_eq_true rfl) (by first | decide | omega) (Nat.le_of_ble_eq_true rfl) ?_
      refine sp_M_isShelf2  ?_
      show PW _ _ _ 4 [some (.ref 70), some (.int a1), some (.int a2), none] [.int (b2i (0 ≤ a1.toInt ∧ a1.toInt < 6))] (E x y)
      refine PW_if_eq c_M_judge_4 (fun _ => ?_) (fun h0 => absurd (b2i_n0.mp h0) hc0)
      refine PW_iconst (v := -1) c_M_judge_14 (by decide) ?_
      refine PW_ireturn (ty := .int) c_M_judge_15 rfl rfl ?_
      exact h
  obtain ⟨j, hj, rfl⟩ : ∃ j : Nat, j < 6 ∧ a1 = nI j := by
    obtain ⟨q, q1, q2, q3, q4⟩ := nI_ex (x := a1) (by have := Decidable.not_not.mp hc0; omega)
    exact ⟨q, by have := Decidable.not_not.mp hc0; omega, q2⟩
  have hjs : 0 ≤ (nI j).toInt ∧ (nI j).toInt < 6 := by rw [nI_toInt (by omega)]; omega
  by_cases hc1 : ¬ (0 ≤ a2 ∧ 0 ≤ a2 / 100 ∧ a2 / 100 ≤ 4)
  · refine ⟨-1, x, y, ?_, fun {z post} h => ?_, fun {z post} h => ?_⟩
    · exact INV_step hI
    · refine PW.deeper (k := (6, 0, 0, z)) (Nat.le_of_ble_eq_true rfl) (Nat.le_refl _) (Nat.le_refl _) ?_
      refine PW_aload_n c_G_judge_0 rfl ?_
      refine PW_iload_n c_G_judge_1 rfl ?_
      refine PW_V0 (d2 := 0) (st := []) [.int (nI j)] c_G_judge_2 lk_G_judge_102 (po_5 _ _) rfl rfl rfl (Nat.le_of_ble_eq_true rfl) (by first | decide | omega) (Nat.le_of_ble_eq_true rfl) ?_
      refine sp_shelf hj ?_
      show PW _ _ _ 5 [some (.ref 5), some (.int (nI j)), some (.int a2), none, none, none, none] [.ref (58 + 2 * j)] (E x y)
      refine PW_astore_n (i := 3) (L2 := [some (.ref 5), some (.int (nI j)), some (.int a2), some (.ref (58 + 2 * j)), none, none, none]) c_G_judge_5 rfl (Nat.le_of_ble_eq_true rfl) rfl rfl ?_
      refine PW_aload_n c_G_judge_6 rfl ?_
      refine PW_ifnull c_G_judge_7 ?_
      refine PW_iload_n c_G_judge_10 rfl ?_
      refine PW_S0 (d2 := 1) (st := []) [.int a2] c_G_judge_11 lk_G_judge_163 rfl rfl rfl (Nat.le_of_ble_eq_true rfl) (by first | decide | omega) (Nat.le_of_ble_eq_true rfl) ?_
      refine sp_G_isRoomMinute  ?_
      show PW _ _ _ 14 [some (.ref 5), some (.int (nI j)), some (.int a2), some (.ref (58 + 2 * j)), none, none, none] [.int (b2i (0 ≤ a2 ∧ 0 ≤ a2 / 100 ∧ a2 / 100 ≤ 4))] (E x y)
      refine PW_if_ne c_G_judge_14 (fun h0 => absurd (b2i_n0.mp h0) hc1) (fun _ => ?_)
      refine PW_iconst (v := -1) c_G_judge_17 (by decide) ?_
      refine PW_ireturn (ty := .int) c_G_judge_18 rfl rfl ?_
      exact h
    · refine PW.deeper (k := (5, 0, 0, z)) (Nat.le_of_ble_eq_true rfl) (Nat.le_refl _) (Nat.le_refl _) ?_
      refine PW_iload_n c_M_judge_0 rfl ?_
      refine PW_S0 (d2 := 1) (st := []) [.int (nI j)] c_M_judge_1 lk_M_judge_143 rfl rfl rfl (Nat.le_of_ble_eq_true rfl) (by first | decide | omega) (Nat.le_of_ble_eq_true rfl) ?_
      refine sp_M_isShelf2  ?_
      show PW _ _ _ 4 [some (.ref 70), some (.int (nI j)), some (.int a2), none] [.int (b2i (0 ≤ (nI j).toInt ∧ (nI j).toInt < 6))] (E x y)
      refine PW_if_eq c_M_judge_4 (fun h0 => absurd hjs (b2i_0.mp h0)) (fun _ => ?_)
      refine PW_iload_n c_M_judge_7 rfl ?_
      refine PW_S0 (d2 := 2) (st := []) [.int a2] c_M_judge_8 lk_M_judge_283 rfl rfl rfl (Nat.le_of_ble_eq_true rfl) (by first | decide | omega) (Nat.le_of_ble_eq_true rfl) ?_
      refine sp_M_isTime  ?_
      show PW _ _ _ 11 [some (.ref 70), some (.int (nI j)), some (.int a2), none] [.int (b2i (0 ≤ a2 ∧ 0 ≤ a2 / 100 ∧ a2 / 100 ≤ 4))] (E x y)
      refine PW_if_ne c_M_judge_11 (fun h1 => absurd (b2i_n0.mp h1) hc1) (fun _ => ?_)
      refine PW_iconst (v := -1) c_M_judge_14 (by decide) ?_
      refine PW_ireturn (ty := .int) c_M_judge_15 rfl rfl ?_
      exact h
  replace hc1 := Decidable.not_not.mp hc1
  obtain ⟨a, mm, ha, hmm, -, ea, em⟩ := tm_ex hc1
  rcases sh_cases (hs j hj) with ⟨p1, p2⟩ | ⟨p1, p2, p3, p4⟩ | ⟨p1, p2, p3, p4, n, hn, p5, p6, hP⟩
  · refine ⟨-11, x, y, ?_, fun {z post} h => ?_, fun {z post} h => ?_⟩
    · exact INV_step hI
    · refine PW.deeper (k := (6, 0, 0, z)) (Nat.le_of_ble_eq_true rfl) (Nat.le_refl _) (Nat.le_refl _) ?_
      refine PW_aload_n c_G_judge_0 rfl ?_
      refine PW_iload_n c_G_judge_1 rfl ?_
      refine PW_V0 (d2 := 0) (st := []) [.int (nI j)] c_G_judge_2 lk_G_judge_102 (po_5 _ _) rfl rfl rfl (Nat.le_of_ble_eq_true rfl) (by first | decide | omega) (Nat.le_of_ble_eq_true rfl) ?_
      refine sp_shelf hj ?_
      show PW _ _ _ 5 [some (.ref 5), some (.int (nI j)), some (.int a2), none, none, none, none] [.ref (58 + 2 * j)] (E x y)
      refine PW_astore_n (i := 3) (L2 := [some (.ref 5), some (.int (nI j)), some (.int a2), some (.ref (58 + 2 * j)), none, none, none]) c_G_judge_5 rfl (Nat.le_of_ble_eq_true rfl) rfl rfl ?_
      refine PW_aload_n c_G_judge_6 rfl ?_
      refine PW_ifnull c_G_judge_7 ?_
      refine PW_iload_n c_G_judge_10 rfl ?_
      refine PW_S0 (d2 := 1) (st := []) [.int a2] c_G_judge_11 lk_G_judge_163 rfl rfl rfl (Nat.le_of_ble_eq_true rfl) (by first | decide | omega) (Nat.le_of_ble_eq_true rfl) ?_
      refine sp_G_isRoomMinute  ?_
      show PW _ _ _ 14 [some (.ref 5), some (.int (nI j)), some (.int a2), some (.ref (58 + 2 * j)), none, none, none] [.int (b2i (0 ≤ a2 ∧ 0 ≤ a2 / 100 ∧ a2 / 100 ≤ 4))] (E x y)
      refine PW_if_ne c_G_judge_14 (fun _ => ?_) (fun h0 => absurd hc1 (b2i_0.mp h0))
      refine PW_aload_n c_G_judge_19 rfl ?_
      refine PW_V0 (d2 := 1) (st := []) [] c_G_judge_20 lk_G_judge_106 (sh_po _ _ hj) rfl rfl rfl (Nat.le_of_ble_eq_true rfl) (by first | decide | omega) (Nat.le_of_ble_eq_true rfl) ?_
      show PW _ _ _ 0 [some (.ref (58 + 2 * j))] [] (E x y)
      refine PW_aload_n c_F_bytesRefusal_0 rfl ?_
      refine PW_V0 (d2 := 0) (st := []) [] c_F_bytesRefusal_1 lk_F_bytesRefusal_37 (sh_po _ _ hj) rfl rfl rfl (Nat.le_of_ble_eq_true rfl) (by first | decide | omega) (Nat.le_of_ble_eq_true rfl) ?_
      refine sp_F_isEmpty hj  ?_
      show PW _ _ _ 4 [some (.ref (58 + 2 * j))] [.int (b2i (x.1 ((58 + 2 * j) * 8 + 1) = 0))] (E x y)
      refine PW_if_eq c_F_bytesRefusal_4 (fun h1 => absurd p2 (b2i_0.mp h1)) (fun _ => ?_)
      refine PW_bipush (v := -11) c_F_bytesRefusal_7 (by decide) ?_
      refine PW_ireturn (ty := .int) c_F_bytesRefusal_9 rfl rfl ?_
      show PW _ _ _ 23 [some (.ref 5), some (.int (nI j)), some (.int a2), some (.ref (58 + 2 * j)), none, none, none] [.int (-11)] (E x y)
      refine PW_istore (i := 4) (L2 := [some (.ref 5), some (.int (nI j)), some (.int a2), some (.ref (58 + 2 * j)), some (.int (-11)), none, none]) c_G_judge_23 (Nat.le_of_ble_eq_true rfl) rfl rfl ?_
      refine PW_iload c_G_judge_25 rfl ?_
      refine PW_if_eq c_G_judge_27 (fun h2 => absurd h2 (by decide)) (fun _ => ?_)
      refine PW_iload c_G_judge_30 rfl ?_
      refine PW_ireturn (ty := .int) c_G_judge_32 rfl rfl ?_
      exact h
    · refine PW.deeper (k := (5, 0, 0, z)) (Nat.le_of_ble_eq_true rfl) (Nat.le_refl _) (Nat.le_refl _) ?_
      refine PW_iload_n c_M_judge_0 rfl ?_
      refine PW_S0 (d2 := 1) (st := []) [.int (nI j)] c_M_judge_1 lk_M_judge_143 rfl rfl rfl (Nat.le_of_ble_eq_true rfl) (by first | decide | omega) (Nat.le_of_ble_eq_true rfl) ?_
      refine sp_M_isShelf2  ?_
      show PW _ _ _ 4 [some (.ref 70), some (.int (nI j)), some (.int a2), none] [.int (b2i (0 ≤ (nI j).toInt ∧ (nI j).toInt < 6))] (E x y)
      refine PW_if_eq c_M_judge_4 (fun h0 => absurd hjs (b2i_0.mp h0)) (fun _ => ?_)
      refine PW_iload_n c_M_judge_7 rfl ?_
      refine PW_S0 (d2 := 2) (st := []) [.int a2] c_M_judge_8 lk_M_judge_283 rfl rfl rfl (Nat.le_of_ble_eq_true rfl) (by first | decide | omega) (Nat.le_of_ble_eq_true rfl) ?_
      refine sp_M_isTime  ?_
      show PW _ _ _ 11 [some (.ref 70), some (.int (nI j)), some (.int a2), none] [.int (b2i (0 ≤ a2 ∧ 0 ≤ a2 / 100 ∧ a2 / 100 ≤ 4))] (E x y)
      refine PW_if_ne c_M_judge_11 (fun _ => ?_) (fun h1 => absurd hc1 (b2i_0.mp h1))
      refine PW_aload_n c_M_judge_16 rfl ?_
      refine PW_iload_n c_M_judge_17 rfl ?_
      refine PW_V0 (d2 := 0) (st := []) [.int (nI j)] c_M_judge_18 lk_M_judge_286 (po_70 _ _) rfl rfl rfl (Nat.le_of_ble_eq_true rfl) (by first | decide | omega) (Nat.le_of_ble_eq_true rfl) ?_
      show PW _ _ _ 0 [some (.ref 70), some (.int (nI j))] [] (E x y)
      refine PW_aload_n c_M_rowFault_0 rfl ?_
      refine PW_get (v := .ref 104) c_M_rowFault_1 fl_M_111 (gf_70_53 _ _) ?_
      refine PW_iload_n c_M_rowFault_4 rfl ?_
      refine PW_iald (j := j) c_M_rowFault_5 (ar_104 _ _) (vp_in_nI hj (by decide)) (nI_clamp (by omega)) ?_
      show PW _ _ _ 6 [some (.ref 70), some (.int (nI j))] [.int ((y.2.1 104) j)] (E x y)
      refine PW_iconst (v := -1) c_M_rowFault_6 (by decide) ?_
      refine PW_icmp_ne c_M_rowFault_7 (fun h2 => absurd h2 (not_not_intro p1)) (fun h2 => ?_)
      refine PW_bipush (v := -11) c_M_rowFault_10 (by decide) ?_
      refine PW_goto c_M_rowFault_12 ?_
      refine PW_ireturn (ty := .int) c_M_rowFault_32 rfl rfl ?_
      show PW _ _ _ 21 [some (.ref 70), some (.int (nI j)), some (.int a2), none] [.int (-11)] (E x y)
      refine PW_if_ge c_M_judge_21 (fun h3 => absurd h3 (by decide)) (fun _ => ?_)
      refine PW_aload_n c_M_judge_24 rfl ?_
      refine PW_iload_n c_M_judge_25 rfl ?_
      refine PW_V0 (d2 := 0) (st := []) [.int (nI j)] c_M_judge_26 lk_M_judge_286 (po_70 _ _) rfl rfl rfl (Nat.le_of_ble_eq_true rfl) (by first | decide | omega) (Nat.le_of_ble_eq_true rfl) ?_
      show PW _ _ _ 0 [some (.ref 70), some (.int (nI j))] [] (E x y)
      refine PW_aload_n c_M_rowFault_0 rfl ?_
      refine PW_get (v := .ref 104) c_M_rowFault_1 fl_M_111 (gf_70_53 _ _) ?_
      refine PW_iload_n c_M_rowFault_4 rfl ?_
      refine PW_iald (j := j) c_M_rowFault_5 (ar_104 _ _) (vp_in_nI hj (by decide)) (nI_clamp (by omega)) ?_
      show PW _ _ _ 6 [some (.ref 70), some (.int (nI j))] [.int ((y.2.1 104) j)] (E x y)
      refine PW_iconst (v := -1) c_M_rowFault_6 (by decide) ?_
      refine PW_icmp_ne c_M_rowFault_7 (fun h4 => absurd h4 (not_not_intro p1)) (fun h4 => ?_)
      refine PW_bipush (v := -11) c_M_rowFault_10 (by decide) ?_
      refine PW_goto c_M_rowFault_12 ?_
      refine PW_ireturn (ty := .int) c_M_rowFault_32 rfl rfl ?_
      show PW _ _ _ 29 [some (.ref 70), some (.int (nI j)), some (.int a2), none] [.int (-11)] (E x y)
      refine PW_ireturn (ty := .int) c_M_judge_29 rfl rfl ?_
      exact h
  · refine ⟨-12, x, y, ?_, fun {z post} h => ?_, fun {z post} h => ?_⟩
    · exact INV_step hI
    · refine PW.deeper (k := (6, 0, 0, z)) (Nat.le_of_ble_eq_true rfl) (Nat.le_refl _) (Nat.le_refl _) ?_
      refine PW_aload_n c_G_judge_0 rfl ?_
      refine PW_iload_n c_G_judge_1 rfl ?_
      refine PW_V0 (d2 := 0) (st := []) [.int (nI j)] c_G_judge_2 lk_G_judge_102 (po_5 _ _) rfl rfl rfl (Nat.le_of_ble_eq_true rfl) (by first | decide | omega) (Nat.le_of_ble_eq_true rfl) ?_
      refine sp_shelf hj ?_
      show PW _ _ _ 5 [some (.ref 5), some (.int (nI j)), some (.int a2), none, none, none, none] [.ref (58 + 2 * j)] (E x y)
      refine PW_astore_n (i := 3) (L2 := [some (.ref 5), some (.int (nI j)), some (.int a2), some (.ref (58 + 2 * j)), none, none, none]) c_G_judge_5 rfl (Nat.le_of_ble_eq_true rfl) rfl rfl ?_
      refine PW_aload_n c_G_judge_6 rfl ?_
      refine PW_ifnull c_G_judge_7 ?_
      refine PW_iload_n c_G_judge_10 rfl ?_
      refine PW_S0 (d2 := 1) (st := []) [.int a2] c_G_judge_11 lk_G_judge_163 rfl rfl rfl (Nat.le_of_ble_eq_true rfl) (by first | decide | omega) (Nat.le_of_ble_eq_true rfl) ?_
      refine sp_G_isRoomMinute  ?_
      show PW _ _ _ 14 [some (.ref 5), some (.int (nI j)), some (.int a2), some (.ref (58 + 2 * j)), none, none, none] [.int (b2i (0 ≤ a2 ∧ 0 ≤ a2 / 100 ∧ a2 / 100 ≤ 4))] (E x y)
      refine PW_if_ne c_G_judge_14 (fun _ => ?_) (fun h0 => absurd hc1 (b2i_0.mp h0))
      refine PW_aload_n c_G_judge_19 rfl ?_
      refine PW_V0 (d2 := 1) (st := []) [] c_G_judge_20 lk_G_judge_106 (sh_po _ _ hj) rfl rfl rfl (Nat.le_of_ble_eq_true rfl) (by first | decide | omega) (Nat.le_of_ble_eq_true rfl) ?_
      show PW _ _ _ 0 [some (.ref (58 + 2 * j))] [] (E x y)
      refine PW_aload_n c_F_bytesRefusal_0 rfl ?_
      refine PW_V0 (d2 := 0) (st := []) [] c_F_bytesRefusal_1 lk_F_bytesRefusal_37 (sh_po _ _ hj) rfl rfl rfl (Nat.le_of_ble_eq_true rfl) (by first | decide | omega) (Nat.le_of_ble_eq_true rfl) ?_
      refine sp_F_isEmpty hj  ?_
      show PW _ _ _ 4 [some (.ref (58 + 2 * j))] [.int (b2i (x.1 ((58 + 2 * j) * 8 + 1) = 0))] (E x y)
      refine PW_if_eq c_F_bytesRefusal_4 (fun _ => ?_) (fun h1 => absurd (b2i_n0.mp h1) p3)
      refine PW_aload_n c_F_bytesRefusal_10 rfl ?_
      refine PW_V0 (d2 := 0) (st := []) [] c_F_bytesRefusal_11 lk_F_bytesRefusal_41 (sh_po _ _ hj) rfl rfl rfl (Nat.le_of_ble_eq_true rfl) (by first | decide | omega) (Nat.le_of_ble_eq_true rfl) ?_
      refine sp_F_holdsBytes hj  ?_
      show PW _ _ _ 14 [some (.ref (58 + 2 * j))] [.int (b2i (x.1 ((58 + 2 * j) * 8 + 1) = 2 ∧ x.1 ((58 + 2 * j) * 8 + 3) = 0))] (E x y)
      refine PW_if_eq c_F_bytesRefusal_14 (fun _ => ?_) (fun h2 => absurd (b2i_n0.mp h2) p4)
      refine PW_bipush (v := -12) c_F_bytesRefusal_21 (by decide) ?_
      refine PW_ireturn (ty := .int) c_F_bytesRefusal_23 rfl rfl ?_
      show PW _ _ _ 23 [some (.ref 5), some (.int (nI j)), some (.int a2), some (.ref (58 + 2 * j)), none, none, none] [.int (-12)] (E x y)
      refine PW_istore (i := 4) (L2 := [some (.ref 5), some (.int (nI j)), some (.int a2), some (.ref (58 + 2 * j)), some (.int (-12)), none, none]) c_G_judge_23 (Nat.le_of_ble_eq_true rfl) rfl rfl ?_
      refine PW_iload c_G_judge_25 rfl ?_
      refine PW_if_eq c_G_judge_27 (fun h3 => absurd h3 (by decide)) (fun _ => ?_)
      refine PW_iload c_G_judge_30 rfl ?_
      refine PW_ireturn (ty := .int) c_G_judge_32 rfl rfl ?_
      exact h
    · refine PW.deeper (k := (5, 0, 0, z)) (Nat.le_of_ble_eq_true rfl) (Nat.le_refl _) (Nat.le_refl _) ?_
      refine PW_iload_n c_M_judge_0 rfl ?_
      refine PW_S0 (d2 := 1) (st := []) [.int (nI j)] c_M_judge_1 lk_M_judge_143 rfl rfl rfl (Nat.le_of_ble_eq_true rfl) (by first | decide | omega) (Nat.le_of_ble_eq_true rfl) ?_
      refine sp_M_isShelf2  ?_
      show PW _ _ _ 4 [some (.ref 70), some (.int (nI j)), some (.int a2), none] [.int (b2i (0 ≤ (nI j).toInt ∧ (nI j).toInt < 6))] (E x y)
      refine PW_if_eq c_M_judge_4 (fun h0 => absurd hjs (b2i_0.mp h0)) (fun _ => ?_)
      refine PW_iload_n c_M_judge_7 rfl ?_
      refine PW_S0 (d2 := 2) (st := []) [.int a2] c_M_judge_8 lk_M_judge_283 rfl rfl rfl (Nat.le_of_ble_eq_true rfl) (by first | decide | omega) (Nat.le_of_ble_eq_true rfl) ?_
      refine sp_M_isTime  ?_
      show PW _ _ _ 11 [some (.ref 70), some (.int (nI j)), some (.int a2), none] [.int (b2i (0 ≤ a2 ∧ 0 ≤ a2 / 100 ∧ a2 / 100 ≤ 4))] (E x y)
      refine PW_if_ne c_M_judge_11 (fun _ => ?_) (fun h1 => absurd hc1 (b2i_0.mp h1))
      refine PW_aload_n c_M_judge_16 rfl ?_
      refine PW_iload_n c_M_judge_17 rfl ?_
      refine PW_V0 (d2 := 0) (st := []) [.int (nI j)] c_M_judge_18 lk_M_judge_286 (po_70 _ _) rfl rfl rfl (Nat.le_of_ble_eq_true rfl) (by first | decide | omega) (Nat.le_of_ble_eq_true rfl) ?_
      show PW _ _ _ 0 [some (.ref 70), some (.int (nI j))] [] (E x y)
      refine PW_aload_n c_M_rowFault_0 rfl ?_
      refine PW_get (v := .ref 104) c_M_rowFault_1 fl_M_111 (gf_70_53 _ _) ?_
      refine PW_iload_n c_M_rowFault_4 rfl ?_
      refine PW_iald (j := j) c_M_rowFault_5 (ar_104 _ _) (vp_in_nI hj (by decide)) (nI_clamp (by omega)) ?_
      show PW _ _ _ 6 [some (.ref 70), some (.int (nI j))] [.int ((y.2.1 104) j)] (E x y)
      refine PW_iconst (v := -1) c_M_rowFault_6 (by decide) ?_
      refine PW_icmp_ne c_M_rowFault_7 (fun h2 => ?_) (fun h2 => absurd h2 p1)
      refine PW_aload_n c_M_rowFault_15 rfl ?_
      refine PW_get (v := .ref 104) c_M_rowFault_16 fl_M_111 (gf_70_53 _ _) ?_
      refine PW_iload_n c_M_rowFault_19 rfl ?_
      refine PW_iald (j := j) c_M_rowFault_20 (ar_104 _ _) (vp_in_nI hj (by decide)) (nI_clamp (by omega)) ?_
      show PW _ _ _ 21 [some (.ref 70), some (.int (nI j))] [.int ((y.2.1 104) j)] (E x y)
      refine PW_bipush (v := -2) c_M_rowFault_21 (by decide) ?_
      refine PW_icmp_ne c_M_rowFault_23 (fun h3 => ?_) (fun h3 => absurd h3 p2)
      refine PW_bipush (v := -12) c_M_rowFault_30 (by decide) ?_
      refine PW_ireturn (ty := .int) c_M_rowFault_32 rfl rfl ?_
      show PW _ _ _ 21 [some (.ref 70), some (.int (nI j)), some (.int a2), none] [.int (-12)] (E x y)
      refine PW_if_ge c_M_judge_21 (fun h4 => absurd h4 (by decide)) (fun _ => ?_)
      refine PW_aload_n c_M_judge_24 rfl ?_
      refine PW_iload_n c_M_judge_25 rfl ?_
      refine PW_V0 (d2 := 0) (st := []) [.int (nI j)] c_M_judge_26 lk_M_judge_286 (po_70 _ _) rfl rfl rfl (Nat.le_of_ble_eq_true rfl) (by first | decide | omega) (Nat.le_of_ble_eq_true rfl) ?_
      show PW _ _ _ 0 [some (.ref 70), some (.int (nI j))] [] (E x y)
      refine PW_aload_n c_M_rowFault_0 rfl ?_
      refine PW_get (v := .ref 104) c_M_rowFault_1 fl_M_111 (gf_70_53 _ _) ?_
      refine PW_iload_n c_M_rowFault_4 rfl ?_
      refine PW_iald (j := j) c_M_rowFault_5 (ar_104 _ _) (vp_in_nI hj (by decide)) (nI_clamp (by omega)) ?_
      show PW _ _ _ 6 [some (.ref 70), some (.int (nI j))] [.int ((y.2.1 104) j)] (E x y)
      refine PW_iconst (v := -1) c_M_rowFault_6 (by decide) ?_
      refine PW_icmp_ne c_M_rowFault_7 (fun h5 => ?_) (fun h5 => absurd h5 p1)
      refine PW_aload_n c_M_rowFault_15 rfl ?_
      refine PW_get (v := .ref 104) c_M_rowFault_16 fl_M_111 (gf_70_53 _ _) ?_
      refine PW_iload_n c_M_rowFault_19 rfl ?_
      refine PW_iald (j := j) c_M_rowFault_20 (ar_104 _ _) (vp_in_nI hj (by decide)) (nI_clamp (by omega)) ?_
      show PW _ _ _ 21 [some (.ref 70), some (.int (nI j))] [.int ((y.2.1 104) j)] (E x y)
      refine PW_bipush (v := -2) c_M_rowFault_21 (by decide) ?_
      refine PW_icmp_ne c_M_rowFault_23 (fun h6 => ?_) (fun h6 => absurd h6 p2)
      refine PW_bipush (v := -12) c_M_rowFault_30 (by decide) ?_
      refine PW_ireturn (ty := .int) c_M_rowFault_32 rfl rfl ?_
      show PW _ _ _ 29 [some (.ref 70), some (.int (nI j)), some (.int a2), none] [.int (-12)] (E x y)
      refine PW_ireturn (ty := .int) c_M_judge_29 rfl rfl ?_
      exact h
  · have hR1 : ∀ i, i < n → (x.2.2 (59 + 2 * j) i).toInt32 = plF y j i := fun i hi => (hP i hi).1
    obtain ⟨sb, fb⟩ := lvS_begin (X := x) (o := 31) (a := a) (m := nI mm) (t := 0)
    obtain ⟨XX, hXX, HG⟩ := lp_G_judge (T := T) (a1 := nI j) (a2 := a2) (M := (n + 1) / 2) hg hT hj p4 p6 hn hR1 rfl ((n + 1) / 2) 0 _ a (nI mm) 0 (Nat.zero_add _) (xS_frV fb (Or.inl rfl)) sb ha (by rw [nI_toInt (by omega)]; omega)
    obtain ⟨YY, hYY, HM⟩ := lp_M_judge (T := T) (x := XX) (x0 := x) (a2 := a2) (M := (n + 1) / 2) hg hT hj p5 hn rfl ((n + 1) / 2) 0 (sI (sI (sI y 590 (nI a)) 591 (nI mm)) 592 0) a (nI mm) 0 (Nat.zero_add _) (yS_frG (Y' := sI (sI (sI y 590 (nI a)) 591 (nI mm)) 592 0) ⟨fun n h2 h3 h4 => by rw [sI_n h4, sI_n h3, sI_n h2], fun _ _ _ => rfl, rfl⟩) ⟨rfl, rfl, rfl⟩ ha
    refine ⟨jdF T y (plF y j) n ((n + 1) / 2) 0 (a, nI mm, 0), XX, YY, ?_, fun {z post} h => ?_, fun {z post} h => ?_⟩
    · exact INV_step (INV_S hI hXX hYY)
    · refine PW.deeper (k := (6, 0, 0, z)) (Nat.le_of_ble_eq_true rfl) (Nat.le_refl _) (Nat.le_refl _) ?_
      refine PW_aload_n c_G_judge_0 rfl ?_
      refine PW_iload_n c_G_judge_1 rfl ?_
      refine PW_V0 (d2 := 0) (st := []) [.int (nI j)] c_G_judge_2 lk_G_judge_102 (po_5 _ _) rfl rfl rfl (Nat.le_of_ble_eq_true rfl) (by first | decide | omega) (Nat.le_of_ble_eq_true rfl) ?_
      refine sp_shelf hj ?_
      show PW _ _ _ 5 [some (.ref 5), some (.int (nI j)), some (.int a2), none, none, none, none] [.ref (58 + 2 * j)] (E x y)
      refine PW_astore_n (i := 3) (L2 := [some (.ref 5), some (.int (nI j)), some (.int a2), some (.ref (58 + 2 * j)), none, none, none]) c_G_judge_5 rfl (Nat.le_of_ble_eq_true rfl) rfl rfl ?_
      refine PW_aload_n c_G_judge_6 rfl ?_
      refine PW_ifnull c_G_judge_7 ?_
      refine PW_iload_n c_G_judge_10 rfl ?_
      refine PW_S0 (d2 := 1) (st := []) [.int a2] c_G_judge_11 lk_G_judge_163 rfl rfl rfl (Nat.le_of_ble_eq_true rfl) (by first | decide | omega) (Nat.le_of_ble_eq_true rfl) ?_
      refine sp_G_isRoomMinute  ?_
      show PW _ _ _ 14 [some (.ref 5), some (.int (nI j)), some (.int a2), some (.ref (58 + 2 * j)), none, none, none] [.int (b2i (0 ≤ a2 ∧ 0 ≤ a2 / 100 ∧ a2 / 100 ≤ 4))] (E x y)
      refine PW_if_ne c_G_judge_14 (fun _ => ?_) (fun h0 => absurd hc1 (b2i_0.mp h0))
      refine PW_aload_n c_G_judge_19 rfl ?_
      refine PW_V0 (d2 := 1) (st := []) [] c_G_judge_20 lk_G_judge_106 (sh_po _ _ hj) rfl rfl rfl (Nat.le_of_ble_eq_true rfl) (by first | decide | omega) (Nat.le_of_ble_eq_true rfl) ?_
      show PW _ _ _ 0 [some (.ref (58 + 2 * j))] [] (E x y)
      refine PW_aload_n c_F_bytesRefusal_0 rfl ?_
      refine PW_V0 (d2 := 0) (st := []) [] c_F_bytesRefusal_1 lk_F_bytesRefusal_37 (sh_po _ _ hj) rfl rfl rfl (Nat.le_of_ble_eq_true rfl) (by first | decide | omega) (Nat.le_of_ble_eq_true rfl) ?_
      refine sp_F_isEmpty hj  ?_
      show PW _ _ _ 4 [some (.ref (58 + 2 * j))] [.int (b2i (x.1 ((58 + 2 * j) * 8 + 1) = 0))] (E x y)
      refine PW_if_eq c_F_bytesRefusal_4 (fun _ => ?_) (fun h1 => absurd (b2i_n0.mp h1) p3)
      refine PW_aload_n c_F_bytesRefusal_10 rfl ?_
      refine PW_V0 (d2 := 0) (st := []) [] c_F_bytesRefusal_11 lk_F_bytesRefusal_41 (sh_po _ _ hj) rfl rfl rfl (Nat.le_of_ble_eq_true rfl) (by first | decide | omega) (Nat.le_of_ble_eq_true rfl) ?_
      refine sp_F_holdsBytes hj  ?_
      show PW _ _ _ 14 [some (.ref (58 + 2 * j))] [.int (b2i (x.1 ((58 + 2 * j) * 8 + 1) = 2 ∧ x.1 ((58 + 2 * j) * 8 + 3) = 0))] (E x y)
      refine PW_if_eq c_F_bytesRefusal_14 (fun h2 => absurd p4 (b2i_0.mp h2)) (fun _ => ?_)
      refine PW_iconst (v := 0) c_F_bytesRefusal_17 (by decide) ?_
      refine PW_goto c_F_bytesRefusal_18 ?_
      refine PW_ireturn (ty := .int) c_F_bytesRefusal_23 rfl rfl ?_
      show PW _ _ _ 23 [some (.ref 5), some (.int (nI j)), some (.int a2), some (.ref (58 + 2 * j)), none, none, none] [.int 0] (E x y)
      refine PW_istore (i := 4) (L2 := [some (.ref 5), some (.int (nI j)), some (.int a2), some (.ref (58 + 2 * j)), some (.int 0), none, none]) c_G_judge_23 (Nat.le_of_ble_eq_true rfl) rfl rfl ?_
      refine PW_iload c_G_judge_25 rfl ?_
      refine PW_if_eq c_G_judge_27 (fun _ => ?_) (fun h3 => absurd (by decide) h3)
      refine PW_aload_n c_G_judge_33 rfl ?_
      refine PW_get (v := .ref 31) c_G_judge_34 fl_G_35 (gf_5_3 _ _) ?_
      refine PW_iload_n c_G_judge_37 rfl ?_
      refine PW_bipush (v := 100) c_G_judge_38 (by decide) ?_
      refine PW_idiv c_G_judge_40 (by decide) ?_
      refine PW_iload_n c_G_judge_41 rfl ?_
      refine PW_bipush (v := 100) c_G_judge_42 (by decide) ?_
      refine PW_irem c_G_judge_44 (by decide) ?_
      refine PW_V0 (d2 := 1) (st := []) [.int (a2 / 100), .int (a2 - a2 / 100 * 100)] c_G_judge_45 lk_G_judge_166 (po_31 _ _) rfl rfl rfl (Nat.le_of_ble_eq_true rfl) (by first | decide | omega) (Nat.le_of_ble_eq_true rfl) ?_
      show PW _ _ _ 0 [some (.ref 31), some (.int (a2 / 100)), some (.int (a2 - a2 / 100 * 100))] [] (E x y)
      refine PW_aload_n c_V_begin_0 rfl ?_
      refine PW_iload_n c_V_begin_1 rfl ?_
      refine PW_iload_n c_V_begin_2 rfl ?_
      refine PW_iconst (v := 0) c_V_begin_3 (by decide) ?_
      refine PW_V0 (d2 := 0) (st := []) [.int (a2 / 100), .int (a2 - a2 / 100 * 100), .int 0] c_V_begin_4 lk_V_begin_19 (po_31 _ _) rfl rfl rfl (Nat.le_of_ble_eq_true rfl) (by first | decide | omega) (Nat.le_of_ble_eq_true rfl) ?_
      show PW _ _ _ 0 [some (.ref 31), some (.int (a2 / 100)), some (.int (a2 - a2 / 100 * 100)), some (.int 0)] [] (E x y)
      refine PW_aload_n c_V_stand_0 rfl ?_
      refine PW_iload_n c_V_stand_1 rfl ?_
      refine PW_put (w2 := E (sI x 250 (a2 / 100)) y) c_V_stand_2 fp_V_stand_23 rfl (pf_31_2 _ _ _) ?_
      refine PW_aload_n c_V_stand_5 rfl ?_
      refine PW_iload_n c_V_stand_6 rfl ?_
      refine PW_put (w2 := E (sI (sI x 250 (a2 / 100)) 251 (a2 - a2 / 100 * 100)) y) c_V_stand_7 fp_V_stand_27 rfl (pf_31_3 _ _ _) ?_
      refine PW_aload_n c_V_stand_10 rfl ?_
      refine PW_iload_n c_V_stand_11 rfl ?_
      refine PW_put (w2 := E (sI (sI (sI x 250 (a2 / 100)) 251 (a2 - a2 / 100 * 100)) 252 0) y) c_V_stand_12 fp_V_stand_30 rfl (pf_31_4 _ _ _) ?_
      refine PW_vreturn c_V_stand_15 rfl ?_
      show PW _ _ _ 7 [some (.ref 31), some (.int (a2 / 100)), some (.int (a2 - a2 / 100 * 100))] [] (E (sI (sI (sI x 250 (a2 / 100)) 251 (a2 - a2 / 100 * 100)) 252 0) y)
      refine PW_vreturn c_V_begin_7 rfl ?_
      show PW _ _ _ 48 [some (.ref 5), some (.int (nI j)), some (.int a2), some (.ref (58 + 2 * j)), some (.int 0), none, none] [] (E (sI (sI (sI x 250 (a2 / 100)) 251 (a2 - a2 / 100 * 100)) 252 0) y)
      refine PW_aload_n c_G_judge_48 rfl ?_
      refine PW_V0 (d2 := 0) (st := []) [] c_G_judge_49 lk_G_judge_236 (sh_po _ _ hj) rfl rfl rfl (Nat.le_of_ble_eq_true rfl) (by first | decide | omega) (Nat.le_of_ble_eq_true rfl) ?_
      show PW _ _ _ 0 [some (.ref (58 + 2 * j))] [] (E (sI (sI (sI x 250 (a2 / 100)) 251 (a2 - a2 / 100 * 100)) 252 0) y)
      refine PW_aload_n c_F_size_0 rfl ?_
      refine PW_get (v := .int ((sI (sI (sI x 250 (a2 / 100)) 251 (a2 - a2 / 100 * 100)) 252 0).1 ((58 + 2 * j) * 8 + 4))) c_F_size_1 fl_F_25 (sh_g4 _ _ hj) ?_
      refine PW_ireturn (ty := .int) c_F_size_4 rfl rfl ?_
      show PW _ _ _ 52 [some (.ref 5), some (.int (nI j)), some (.int a2), some (.ref (58 + 2 * j)), some (.int 0), none, none] [.int ((sI (sI (sI x 250 (a2 / 100)) 251 (a2 - a2 / 100 * 100)) 252 0).1 ((58 + 2 * j) * 8 + 4))] (E (sI (sI (sI x 250 (a2 / 100)) 251 (a2 - a2 / 100 * 100)) 252 0) y)
      refine PW_iconst (v := 1) c_G_judge_52 (by decide) ?_
      refine PW_iadd c_G_judge_53 ?_
      refine PW_iconst (v := 2) c_G_judge_54 (by decide) ?_
      refine PW_idiv c_G_judge_55 (by decide) ?_
      refine PW_istore (i := 5) (L2 := [some (.ref 5), some (.int (nI j)), some (.int a2), some (.ref (58 + 2 * j)), some (.int 0), some (.int ((((sI (sI (sI x 250 (a2 / 100)) 251 (a2 - a2 / 100 * 100)) 252 0).1 ((58 + 2 * j) * 8 + 4)) + 1) / 2)), none]) c_G_judge_56 (Nat.le_of_ble_eq_true rfl) rfl rfl ?_
      refine PW_iconst (v := 0) c_G_judge_58 (by decide) ?_
      refine PW_istore (i := 6) (L2 := [some (.ref 5), some (.int (nI j)), some (.int a2), some (.ref (58 + 2 * j)), some (.int 0), some (.int ((((sI (sI (sI x 250 (a2 / 100)) 251 (a2 - a2 / 100 * 100)) 252 0).1 ((58 + 2 * j) * 8 + 4)) + 1) / 2)), some (.int 0)]) c_G_judge_59 (Nat.le_of_ble_eq_true rfl) rfl rfl ?_
      refine PW.eqL ?_ rfl ?_ (HG h)
      · show ([some (.ref 5), some (.int (nI j)), some (.int a2), some (.ref (58 + 2 * j)), some (.int 0), some (.int ((((sI (sI (sI x 250 (a2 / 100)) 251 (a2 - a2 / 100 * 100)) 252 0).1 ((58 + 2 * j) * 8 + 4)) + 1) / 2)), some (.int 0)] : List (Option Value)) = _
        rw [show (sI (sI (sI x 250 (a2 / 100)) 251 (a2 - a2 / 100 * 100)) 252 0).1 ((58 + 2 * j) * 8 + 4) = nI n by rw [sI_n (by omega), sI_n (by omega), sI_n (by omega)]; exact p6, half_all n (by omega)] <;> rfl
      · rw [em, ea]
    · refine PW.deeper (k := (5, 0, 0, z)) (Nat.le_of_ble_eq_true rfl) (Nat.le_refl _) (Nat.le_refl _) ?_
      refine PW_iload_n c_M_judge_0 rfl ?_
      refine PW_S0 (d2 := 1) (st := []) [.int (nI j)] c_M_judge_1 lk_M_judge_143 rfl rfl rfl (Nat.le_of_ble_eq_true rfl) (by first | decide | omega) (Nat.le_of_ble_eq_true rfl) ?_
      refine sp_M_isShelf2  ?_
      show PW _ _ _ 4 [some (.ref 70), some (.int (nI j)), some (.int a2), none] [.int (b2i (0 ≤ (nI j).toInt ∧ (nI j).toInt < 6))] (E XX y)
      refine PW_if_eq c_M_judge_4 (fun h0 => absurd hjs (b2i_0.mp h0)) (fun _ => ?_)
      refine PW_iload_n c_M_judge_7 rfl ?_
      refine PW_S0 (d2 := 2) (st := []) [.int a2] c_M_judge_8 lk_M_judge_283 rfl rfl rfl (Nat.le_of_ble_eq_true rfl) (by first | decide | omega) (Nat.le_of_ble_eq_true rfl) ?_
      refine sp_M_isTime  ?_
      show PW _ _ _ 11 [some (.ref 70), some (.int (nI j)), some (.int a2), none] [.int (b2i (0 ≤ a2 ∧ 0 ≤ a2 / 100 ∧ a2 / 100 ≤ 4))] (E XX y)
      refine PW_if_ne c_M_judge_11 (fun _ => ?_) (fun h1 => absurd hc1 (b2i_0.mp h1))
      refine PW_aload_n c_M_judge_16 rfl ?_
      refine PW_iload_n c_M_judge_17 rfl ?_
      refine PW_V0 (d2 := 0) (st := []) [.int (nI j)] c_M_judge_18 lk_M_judge_286 (po_70 _ _) rfl rfl rfl (Nat.le_of_ble_eq_true rfl) (by first | decide | omega) (Nat.le_of_ble_eq_true rfl) ?_
      show PW _ _ _ 0 [some (.ref 70), some (.int (nI j))] [] (E XX y)
      refine PW_aload_n c_M_rowFault_0 rfl ?_
      refine PW_get (v := .ref 104) c_M_rowFault_1 fl_M_111 (gf_70_53 _ _) ?_
      refine PW_iload_n c_M_rowFault_4 rfl ?_
      refine PW_iald (j := j) c_M_rowFault_5 (ar_104 _ _) (vp_in_nI hj (by decide)) (nI_clamp (by omega)) ?_
      show PW _ _ _ 6 [some (.ref 70), some (.int (nI j))] [.int ((y.2.1 104) j)] (E XX y)
      refine PW_iconst (v := -1) c_M_rowFault_6 (by decide) ?_
      refine PW_icmp_ne c_M_rowFault_7 (fun h2 => ?_) (fun h2 => absurd h2 p1)
      refine PW_aload_n c_M_rowFault_15 rfl ?_
      refine PW_get (v := .ref 104) c_M_rowFault_16 fl_M_111 (gf_70_53 _ _) ?_
      refine PW_iload_n c_M_rowFault_19 rfl ?_
      refine PW_iald (j := j) c_M_rowFault_20 (ar_104 _ _) (vp_in_nI hj (by decide)) (nI_clamp (by omega)) ?_
      show PW _ _ _ 21 [some (.ref 70), some (.int (nI j))] [.int ((y.2.1 104) j)] (E XX y)
      refine PW_bipush (v := -2) c_M_rowFault_21 (by decide) ?_
      refine PW_icmp_ne c_M_rowFault_23 (fun h3 => absurd h3 (not_not_intro p2)) (fun h3 => ?_)
      refine PW_iconst (v := 0) c_M_rowFault_26 (by decide) ?_
      refine PW_goto c_M_rowFault_27 ?_
      refine PW_ireturn (ty := .int) c_M_rowFault_32 rfl rfl ?_
      show PW _ _ _ 21 [some (.ref 70), some (.int (nI j)), some (.int a2), none] [.int 0] (E XX y)
      refine PW_if_ge c_M_judge_21 (fun _ => ?_) (fun h4 => absurd (by decide) h4)
      refine PW_aload_n c_M_judge_30 rfl ?_
      refine PW_iload_n c_M_judge_31 rfl ?_
      refine PW_bipush (v := 100) c_M_judge_32 (by decide) ?_
      refine PW_idiv c_M_judge_34 (by decide) ?_
      refine PW_iload_n c_M_judge_35 rfl ?_
      refine PW_bipush (v := 100) c_M_judge_36 (by decide) ?_
      refine PW_irem c_M_judge_38 (by decide) ?_
      refine PW_V0 (d2 := 0) (st := []) [.int (a2 / 100), .int (a2 - a2 / 100 * 100)] c_M_judge_39 lk_M_judge_289 (po_70 _ _) rfl rfl rfl (Nat.le_of_ble_eq_true rfl) (by first | decide | omega) (Nat.le_of_ble_eq_true rfl) ?_
      show PW _ _ _ 0 [some (.ref 70), some (.int (a2 / 100)), some (.int (a2 - a2 / 100 * 100))] [] (E XX y)
      refine PW_aload_n c_M_begin_0 rfl ?_
      refine PW_iload_n c_M_begin_1 rfl ?_
      refine PW_put (w2 := E XX (sI y 590 (a2 / 100))) c_M_begin_2 fp_M_begin_265 rfl (pf_70_30 _ _ _) ?_
      refine PW_aload_n c_M_begin_5 rfl ?_
      refine PW_iload_n c_M_begin_6 rfl ?_
      refine PW_put (w2 := E XX (sI (sI y 590 (a2 / 100)) 591 (a2 - a2 / 100 * 100))) c_M_begin_7 fp_M_begin_268 rfl (pf_70_31 _ _ _) ?_
      refine PW_aload_n c_M_begin_10 rfl ?_
      refine PW_iconst (v := 0) c_M_begin_11 (by decide) ?_
      refine PW_put (w2 := E XX (sI (sI (sI y 590 (a2 / 100)) 591 (a2 - a2 / 100 * 100)) 592 0)) c_M_begin_12 fp_M_begin_271 rfl (pf_70_32 _ _ _) ?_
      refine PW_vreturn c_M_begin_15 rfl ?_
      show PW _ _ _ 42 [some (.ref 70), some (.int (nI j)), some (.int a2), none] [] (E XX (sI (sI (sI y 590 (a2 / 100)) 591 (a2 - a2 / 100 * 100)) 592 0))
      refine PW_iconst (v := 0) c_M_judge_42 (by decide) ?_
      refine PW_istore_n (i := 3) (L2 := [some (.ref 70), some (.int (nI j)), some (.int a2), some (.int 0)]) c_M_judge_43 rfl (Nat.le_of_ble_eq_true rfl) rfl rfl ?_
      refine PW.eqL ?_ rfl ?_ (HM h)
      · rfl
      · rw [em, ea]
