set_option maxHeartbeats 4000000 in
theorem op_coats {t : Nat} {x y : XS} {a1 : Int32} {a2 : Int32} (hI : INV t x y) (ht : t < 512) : ∃ (r : Int32) (x' y' : XS), INV (t + 1) x' y' ∧ (∀ {z : ZS} {post : Option Value → List PE → Prop}, post (some (.int r)) (E x' y) → PW (90, 0, 0, z) m_G_coats post 0 [some (.ref 5), some (.int a1), some (.int a2), none, none, none] [] (E x y)) ∧ (∀ {z : ZS} {post : Option Value → List PE → Prop}, post (some (.int r)) (E x' y') → PW (90, 0, 0, z) m_M_coats post 0 [some (.ref 70), some (.int a1), some (.int a2)] [] (E x' y)) := by
  obtain ⟨hg, hc, ht0, hl, hd, hb, hs⟩ := id hI

  by_cases hc0 : ¬ (0 ≤ a1.toInt ∧ a1.toInt < 6)
  · refine ⟨-1, x, y, ?_, fun {z post} h => ?_, fun {z post} h => ?_⟩
    · exact INV_step hI
    · refine PW.deeper (k := (2, 0, 0, z)) (Nat.le_of_ble_eq_true rfl) (Nat.le_refl _) (Nat.le_refl _) ?_
      refine PW_aload_n c_G_coats_0 rfl ?_
      refine PW_iload_n c_G_coats_1 rfl ?_
      refine PW_V0 (d2 := 0) (st := []) [.int a1] c_G_coats_2 lk_G_coats_102 (po_5 _ _) rfl rfl rfl (Nat.le_of_ble_eq_true rfl) (by first | decide | omega) (Nat.le_of_ble_eq_true rfl) ?_
      refine sp_noshelf hc0 ?_
      show PW _ _ _ 5 [some (.ref 5), some (.int a1), some (.int a2), none, none, none] [.null] (E x y)
      refine PW_astore_nN (i := 3) (L2 := [some (.ref 5), some (.int a1), some (.int a2), some (.null), none, none]) c_G_coats_5 rfl (Nat.le_of_ble_eq_true rfl) rfl rfl ?_
      refine PW_aload_nN c_G_coats_6 rfl ?_
      refine PW_ifnullN c_G_coats_7 ?_
      refine PW_iconst (v := -1) c_G_coats_21 (by decide) ?_
      refine PW_ireturn (ty := .int) c_G_coats_22 rfl rfl ?_
      exact h
    · refine PW.deeper (k := (2, 0, 0, z)) (Nat.le_of_ble_eq_true rfl) (Nat.le_refl _) (Nat.le_refl _) ?_
      refine PW_iload_n c_M_coats_0 rfl ?_
      refine PW_S0 (d2 := 1) (st := []) [.int a1] c_M_coats_1 lk_M_coats_143 rfl rfl rfl (Nat.le_of_ble_eq_true rfl) (by first | decide | omega) (Nat.le_of_ble_eq_true rfl) ?_
      refine sp_M_isShelf2  ?_
      show PW _ _ _ 4 [some (.ref 70), some (.int a1), some (.int a2)] [.int (b2i (0 ≤ a1.toInt ∧ a1.toInt < 6))] (E x y)
      refine PW_if_eq c_M_coats_4 (fun _ => ?_) (fun h0 => absurd (b2i_n0.mp h0) hc0)
      refine PW_iconst (v := -1) c_M_coats_15 (by decide) ?_
      refine PW_ireturn (ty := .int) c_M_coats_16 rfl rfl ?_
      exact h
  obtain ⟨j, hj, rfl⟩ : ∃ j : Nat, j < 6 ∧ a1 = nI j := by
    obtain ⟨q, q1, q2, q3, q4⟩ := nI_ex (x := a1) (by have := Decidable.not_not.mp hc0; omega)
    exact ⟨q, by have := Decidable.not_not.mp hc0; omega, q2⟩
  have hjs : 0 ≤ (nI j).toInt ∧ (nI j).toInt < 6 := by rw [nI_toInt (by omega)]; omega
  have hsj := hs j hj
  unfold CPs1 at hsj
  by_cases hc1 : ¬ (0 ≤ a2.toInt ∧ a2.toInt < (nG y : Int))
  · refine ⟨-1, x, y, ?_, fun {z post} h => ?_, fun {z post} h => ?_⟩
    · exact INV_step hI
    · refine PW.deeper (k := (2, 0, 0, z)) (Nat.le_of_ble_eq_true rfl) (Nat.le_refl _) (Nat.le_refl _) ?_
      refine PW_aload_n c_G_coats_0 rfl ?_
      refine PW_iload_n c_G_coats_1 rfl ?_
      refine PW_V0 (d2 := 0) (st := []) [.int (nI j)] c_G_coats_2 lk_G_coats_102 (po_5 _ _) rfl rfl rfl (Nat.le_of_ble_eq_true rfl) (by first | decide | omega) (Nat.le_of_ble_eq_true rfl) ?_
      refine sp_shelf hj ?_
      show PW _ _ _ 5 [some (.ref 5), some (.int (nI j)), some (.int a2), none, none, none] [.ref (58 + 2 * j)] (E x y)
      refine PW_astore_n (i := 3) (L2 := [some (.ref 5), some (.int (nI j)), some (.int a2), some (.ref (58 + 2 * j)), none, none]) c_G_coats_5 rfl (Nat.le_of_ble_eq_true rfl) rfl rfl ?_
      refine PW_aload_n c_G_coats_6 rfl ?_
      refine PW_ifnull c_G_coats_7 ?_
      refine PW_aload_n c_G_coats_10 rfl ?_
      refine PW_get (v := .ref 6) c_G_coats_11 fl_G_13 (gf_5_0 _ _) ?_
      refine PW_iload_n c_G_coats_14 rfl ?_
      refine PW_V0 (d2 := 0) (st := []) [.int a2] c_G_coats_15 lk_G_coats_139 (po_6 _ _) rfl rfl rfl (Nat.le_of_ble_eq_true rfl) (by first | decide | omega) (Nat.le_of_ble_eq_true rfl) ?_
      refine sp_H_isGuest hg.W hg.x51 ?_
      show PW _ _ _ 18 [some (.ref 5), some (.int (nI j)), some (.int a2), some (.ref (58 + 2 * j)), none, none] [.int (b2i (0 ≤ a2.toInt ∧ a2.toInt < (nG y : Int)))] (E x y)
      refine PW_if_ne c_G_coats_18 (fun h0 => absurd (b2i_n0.mp h0) hc1) (fun _ => ?_)
      refine PW_iconst (v := -1) c_G_coats_21 (by decide) ?_
      refine PW_ireturn (ty := .int) c_G_coats_22 rfl rfl ?_
      exact h
    · refine PW.deeper (k := (2, 0, 0, z)) (Nat.le_of_ble_eq_true rfl) (Nat.le_refl _) (Nat.le_refl _) ?_
      refine PW_iload_n c_M_coats_0 rfl ?_
      refine PW_S0 (d2 := 1) (st := []) [.int (nI j)] c_M_coats_1 lk_M_coats_143 rfl rfl rfl (Nat.le_of_ble_eq_true rfl) (by first | decide | omega) (Nat.le_of_ble_eq_true rfl) ?_
      refine sp_M_isShelf2  ?_
      show PW _ _ _ 4 [some (.ref 70), some (.int (nI j)), some (.int a2)] [.int (b2i (0 ≤ (nI j).toInt ∧ (nI j).toInt < 6))] (E x y)
      refine PW_if_eq c_M_coats_4 (fun h0 => absurd hjs (b2i_0.mp h0)) (fun _ => ?_)
      refine PW_aload_n c_M_coats_7 rfl ?_
      refine PW_iload_n c_M_coats_8 rfl ?_
      refine PW_V0 (d2 := 1) (st := []) [.int a2] c_M_coats_9 lk_M_coats_162 (po_70 _ _) rfl rfl rfl (Nat.le_of_ble_eq_true rfl) (by first | decide | omega) (Nat.le_of_ble_eq_true rfl) ?_
      refine sp_M_isGuest2 hg.W ?_
      show PW _ _ _ 12 [some (.ref 70), some (.int (nI j)), some (.int a2)] [.int (b2i (0 ≤ a2.toInt ∧ a2.toInt < (nG y : Int)))] (E x y)
      refine PW_if_ne c_M_coats_12 (fun h1 => absurd (b2i_n0.mp h1) hc1) (fun _ => ?_)
      refine PW_iconst (v := -1) c_M_coats_15 (by decide) ?_
      refine PW_ireturn (ty := .int) c_M_coats_16 rfl rfl ?_
      exact h
  replace hc1 : 0 ≤ a2.toInt ∧ a2.toInt < (nG y : Int) := Decidable.not_not.mp hc1
  rcases hsj with ⟨e1, e2⟩ | ⟨e1, e2, e3, e4⟩ | ⟨s, n, e1, e2, e3, e4, e5, e6, e7, e8⟩
  · refine ⟨-11, x, y, ?_, fun {z post} h => ?_, fun {z post} h => ?_⟩
    · exact INV_step hI
    · refine PW.deeper (k := (2, 0, 0, z)) (Nat.le_of_ble_eq_true rfl) (Nat.le_refl _) (Nat.le_refl _) ?_
      refine PW_aload_n c_G_coats_0 rfl ?_
      refine PW_iload_n c_G_coats_1 rfl ?_
      refine PW_V0 (d2 := 0) (st := []) [.int (nI j)] c_G_coats_2 lk_G_coats_102 (po_5 _ _) rfl rfl rfl (Nat.le_of_ble_eq_true rfl) (by first | decide | omega) (Nat.le_of_ble_eq_true rfl) ?_
      refine sp_shelf hj ?_
      show PW _ _ _ 5 [some (.ref 5), some (.int (nI j)), some (.int a2), none, none, none] [.ref (58 + 2 * j)] (E x y)
      refine PW_astore_n (i := 3) (L2 := [some (.ref 5), some (.int (nI j)), some (.int a2), some (.ref (58 + 2 * j)), none, none]) c_G_coats_5 rfl (Nat.le_of_ble_eq_true rfl) rfl rfl ?_
      refine PW_aload_n c_G_coats_6 rfl ?_
      refine PW_ifnull c_G_coats_7 ?_
      refine PW_aload_n c_G_coats_10 rfl ?_
      refine PW_get (v := .ref 6) c_G_coats_11 fl_G_13 (gf_5_0 _ _) ?_
      refine PW_iload_n c_G_coats_14 rfl ?_
      refine PW_V0 (d2 := 0) (st := []) [.int a2] c_G_coats_15 lk_G_coats_139 (po_6 _ _) rfl rfl rfl (Nat.le_of_ble_eq_true rfl) (by first | decide | omega) (Nat.le_of_ble_eq_true rfl) ?_
      refine sp_H_isGuest hg.W hg.x51 ?_
      show PW _ _ _ 18 [some (.ref 5), some (.int (nI j)), some (.int a2), some (.ref (58 + 2 * j)), none, none] [.int (b2i (0 ≤ a2.toInt ∧ a2.toInt < (nG y : Int)))] (E x y)
      refine PW_if_ne c_G_coats_18 (fun _ => ?_) (fun h0 => absurd hc1 (b2i_0.mp h0))
      refine PW_aload_n c_G_coats_23 rfl ?_
      refine PW_V0 (d2 := 1) (st := []) [] c_G_coats_24 lk_G_coats_106 (sh_po _ _ hj) rfl rfl rfl (Nat.le_of_ble_eq_true rfl) (by first | decide | omega) (Nat.le_of_ble_eq_true rfl) ?_
      show PW _ _ _ 0 [some (.ref (58 + 2 * j))] [] (E x y)
      refine PW_aload_n c_F_bytesRefusal_0 rfl ?_
      refine PW_V0 (d2 := 0) (st := []) [] c_F_bytesRefusal_1 lk_F_bytesRefusal_37 (sh_po _ _ hj) rfl rfl rfl (Nat.le_of_ble_eq_true rfl) (by first | decide | omega) (Nat.le_of_ble_eq_true rfl) ?_
      refine sp_F_isEmpty hj  ?_
      show PW _ _ _ 4 [some (.ref (58 + 2 * j))] [.int (b2i (x.1 ((58 + 2 * j) * 8 + 1) = 0))] (E x y)
      refine PW_if_eq c_F_bytesRefusal_4 (fun h1 => absurd e2 (b2i_0.mp h1)) (fun _ => ?_)
      refine PW_bipush (v := -11) c_F_bytesRefusal_7 (by decide) ?_
      refine PW_ireturn (ty := .int) c_F_bytesRefusal_9 rfl rfl ?_
      show PW _ _ _ 27 [some (.ref 5), some (.int (nI j)), some (.int a2), some (.ref (58 + 2 * j)), none, none] [.int (-11)] (E x y)
      refine PW_istore (i := 4) (L2 := [some (.ref 5), some (.int (nI j)), some (.int a2), some (.ref (58 + 2 * j)), some (.int (-11)), none]) c_G_coats_27 (Nat.le_of_ble_eq_true rfl) rfl rfl ?_
      refine PW_iload c_G_coats_29 rfl ?_
      refine PW_if_eq c_G_coats_31 (fun h2 => absurd h2 (by decide)) (fun _ => ?_)
      refine PW_iload c_G_coats_34 rfl ?_
      refine PW_ireturn (ty := .int) c_G_coats_36 rfl rfl ?_
      exact h
    · refine PW.deeper (k := (2, 0, 0, z)) (Nat.le_of_ble_eq_true rfl) (Nat.le_refl _) (Nat.le_refl _) ?_
      refine PW_iload_n c_M_coats_0 rfl ?_
      refine PW_S0 (d2 := 1) (st := []) [.int (nI j)] c_M_coats_1 lk_M_coats_143 rfl rfl rfl (Nat.le_of_ble_eq_true rfl) (by first | decide | omega) (Nat.le_of_ble_eq_true rfl) ?_
      refine sp_M_isShelf2  ?_
      show PW _ _ _ 4 [some (.ref 70), some (.int (nI j)), some (.int a2)] [.int (b2i (0 ≤ (nI j).toInt ∧ (nI j).toInt < 6))] (E x y)
      refine PW_if_eq c_M_coats_4 (fun h0 => absurd hjs (b2i_0.mp h0)) (fun _ => ?_)
      refine PW_aload_n c_M_coats_7 rfl ?_
      refine PW_iload_n c_M_coats_8 rfl ?_
      refine PW_V0 (d2 := 1) (st := []) [.int a2] c_M_coats_9 lk_M_coats_162 (po_70 _ _) rfl rfl rfl (Nat.le_of_ble_eq_true rfl) (by first | decide | omega) (Nat.le_of_ble_eq_true rfl) ?_
      refine sp_M_isGuest2 hg.W ?_
      show PW _ _ _ 12 [some (.ref 70), some (.int (nI j)), some (.int a2)] [.int (b2i (0 ≤ a2.toInt ∧ a2.toInt < (nG y : Int)))] (E x y)
      refine PW_if_ne c_M_coats_12 (fun _ => ?_) (fun h1 => absurd hc1 (b2i_0.mp h1))
      refine PW_aload_n c_M_coats_17 rfl ?_
      refine PW_iload_n c_M_coats_18 rfl ?_
      refine PW_V0 (d2 := 0) (st := []) [.int (nI j)] c_M_coats_19 lk_M_coats_286 (po_70 _ _) rfl rfl rfl (Nat.le_of_ble_eq_true rfl) (by first | decide | omega) (Nat.le_of_ble_eq_true rfl) ?_
      show PW _ _ _ 0 [some (.ref 70), some (.int (nI j))] [] (E x y)
      refine PW_aload_n c_M_rowFault_0 rfl ?_
      refine PW_get (v := .ref 104) c_M_rowFault_1 fl_M_111 (gf_70_53 _ _) ?_
      refine PW_iload_n c_M_rowFault_4 rfl ?_
      refine PW_iald (j := j) c_M_rowFault_5 (ar_104 _ _) (vp_in_nI hj (by decide)) (nI_clamp (by omega)) ?_
      show PW _ _ _ 6 [some (.ref 70), some (.int (nI j))] [.int ((y.2.1 104) j)] (E x y)
      refine PW_iconst (v := -1) c_M_rowFault_6 (by decide) ?_
      refine PW_icmp_ne c_M_rowFault_7 (fun h2 => absurd h2 (not_not_intro e1)) (fun h2 => ?_)
      refine PW_bipush (v := -11) c_M_rowFault_10 (by decide) ?_
      refine PW_goto c_M_rowFault_12 ?_
      refine PW_ireturn (ty := .int) c_M_rowFault_32 rfl rfl ?_
      show PW _ _ _ 22 [some (.ref 70), some (.int (nI j)), some (.int a2)] [.int (-11)] (E x y)
      refine PW_if_ge c_M_coats_22 (fun h3 => absurd h3 (by decide)) (fun _ => ?_)
      refine PW_aload_n c_M_coats_25 rfl ?_
      refine PW_iload_n c_M_coats_26 rfl ?_
      refine PW_V0 (d2 := 0) (st := []) [.int (nI j)] c_M_coats_27 lk_M_coats_286 (po_70 _ _) rfl rfl rfl (Nat.le_of_ble_eq_true rfl) (by first | decide | omega) (Nat.le_of_ble_eq_true rfl) ?_
      show PW _ _ _ 0 [some (.ref 70), some (.int (nI j))] [] (E x y)
      refine PW_aload_n c_M_rowFault_0 rfl ?_
      refine PW_get (v := .ref 104) c_M_rowFault_1 fl_M_111 (gf_70_53 _ _) ?_
      refine PW_iload_n c_M_rowFault_4 rfl ?_
      refine PW_iald (j := j) c_M_rowFault_5 (ar_104 _ _) (vp_in_nI hj (by decide)) (nI_clamp (by omega)) ?_
      show PW _ _ _ 6 [some (.ref 70), some (.int (nI j))] [.int ((y.2.1 104) j)] (E x y)
      refine PW_iconst (v := -1) c_M_rowFault_6 (by decide) ?_
      refine PW_icmp_ne c_M_rowFault_7 (fun h4 => absurd h4 (not_not_intro e1)) (fun h4 => ?_)
      refine PW_bipush (v := -11) c_M_rowFault_10 (by decide) ?_
      refine PW_goto c_M_rowFault_12 ?_
      refine PW_ireturn (ty := .int) c_M_rowFault_32 rfl rfl ?_
      show PW _ _ _ 30 [some (.ref 70), some (.int (nI j)), some (.int a2)] [.int (-11)] (E x y)
      refine PW_ireturn (ty := .int) c_M_coats_30 rfl rfl ?_
      exact h
  · refine ⟨-12, x, y, ?_, fun {z post} h => ?_, fun {z post} h => ?_⟩
    · exact INV_step hI
    · refine PW.deeper (k := (2, 0, 0, z)) (Nat.le_of_ble_eq_true rfl) (Nat.le_refl _) (Nat.le_refl _) ?_
      refine PW_aload_n c_G_coats_0 rfl ?_
      refine PW_iload_n c_G_coats_1 rfl ?_
      refine PW_V0 (d2 := 0) (st := []) [.int (nI j)] c_G_coats_2 lk_G_coats_102 (po_5 _ _) rfl rfl rfl (Nat.le_of_ble_eq_true rfl) (by first | decide | omega) (Nat.le_of_ble_eq_true rfl) ?_
      refine sp_shelf hj ?_
      show PW _ _ _ 5 [some (.ref 5), some (.int (nI j)), some (.int a2), none, none, none] [.ref (58 + 2 * j)] (E x y)
      refine PW_astore_n (i := 3) (L2 := [some (.ref 5), some (.int (nI j)), some (.int a2), some (.ref (58 + 2 * j)), none, none]) c_G_coats_5 rfl (Nat.le_of_ble_eq_true rfl) rfl rfl ?_
      refine PW_aload_n c_G_coats_6 rfl ?_
      refine PW_ifnull c_G_coats_7 ?_
      refine PW_aload_n c_G_coats_10 rfl ?_
      refine PW_get (v := .ref 6) c_G_coats_11 fl_G_13 (gf_5_0 _ _) ?_
      refine PW_iload_n c_G_coats_14 rfl ?_
      refine PW_V0 (d2 := 0) (st := []) [.int a2] c_G_coats_15 lk_G_coats_139 (po_6 _ _) rfl rfl rfl (Nat.le_of_ble_eq_true rfl) (by first | decide | omega) (Nat.le_of_ble_eq_true rfl) ?_
      refine sp_H_isGuest hg.W hg.x51 ?_
      show PW _ _ _ 18 [some (.ref 5), some (.int (nI j)), some (.int a2), some (.ref (58 + 2 * j)), none, none] [.int (b2i (0 ≤ a2.toInt ∧ a2.toInt < (nG y : Int)))] (E x y)
      refine PW_if_ne c_G_coats_18 (fun _ => ?_) (fun h0 => absurd hc1 (b2i_0.mp h0))
      refine PW_aload_n c_G_coats_23 rfl ?_
      refine PW_V0 (d2 := 1) (st := []) [] c_G_coats_24 lk_G_coats_106 (sh_po _ _ hj) rfl rfl rfl (Nat.le_of_ble_eq_true rfl) (by first | decide | omega) (Nat.le_of_ble_eq_true rfl) ?_
      show PW _ _ _ 0 [some (.ref (58 + 2 * j))] [] (E x y)
      refine PW_aload_n c_F_bytesRefusal_0 rfl ?_
      refine PW_V0 (d2 := 0) (st := []) [] c_F_bytesRefusal_1 lk_F_bytesRefusal_37 (sh_po _ _ hj) rfl rfl rfl (Nat.le_of_ble_eq_true rfl) (by first | decide | omega) (Nat.le_of_ble_eq_true rfl) ?_
      refine sp_F_isEmpty hj  ?_
      show PW _ _ _ 4 [some (.ref (58 + 2 * j))] [.int (b2i (x.1 ((58 + 2 * j) * 8 + 1) = 0))] (E x y)
      refine PW_if_eq c_F_bytesRefusal_4 (fun _ => ?_) (fun h1 => absurd (b2i_n0.mp h1) (by rw [e3]; decide))
      refine PW_aload_n c_F_bytesRefusal_10 rfl ?_
      refine PW_V0 (d2 := 0) (st := []) [] c_F_bytesRefusal_11 lk_F_bytesRefusal_41 (sh_po _ _ hj) rfl rfl rfl (Nat.le_of_ble_eq_true rfl) (by first | decide | omega) (Nat.le_of_ble_eq_true rfl) ?_
      refine sp_F_holdsBytes hj  ?_
      show PW _ _ _ 14 [some (.ref (58 + 2 * j))] [.int (b2i (x.1 ((58 + 2 * j) * 8 + 1) = 2 ∧ x.1 ((58 + 2 * j) * 8 + 3) = 0))] (E x y)
      refine PW_if_eq c_F_bytesRefusal_14 (fun _ => ?_) (fun h2 => absurd (b2i_n0.mp h2) (fun q => by rw [e3] at q; exact absurd q.1 (by decide)))
      refine PW_bipush (v := -12) c_F_bytesRefusal_21 (by decide) ?_
      refine PW_ireturn (ty := .int) c_F_bytesRefusal_23 rfl rfl ?_
      show PW _ _ _ 27 [some (.ref 5), some (.int (nI j)), some (.int a2), some (.ref (58 + 2 * j)), none, none] [.int (-12)] (E x y)
      refine PW_istore (i := 4) (L2 := [some (.ref 5), some (.int (nI j)), some (.int a2), some (.ref (58 + 2 * j)), some (.int (-12)), none]) c_G_coats_27 (Nat.le_of_ble_eq_true rfl) rfl rfl ?_
      refine PW_iload c_G_coats_29 rfl ?_
      refine PW_if_eq c_G_coats_31 (fun h3 => absurd h3 (by decide)) (fun _ => ?_)
      refine PW_iload c_G_coats_34 rfl ?_
      refine PW_ireturn (ty := .int) c_G_coats_36 rfl rfl ?_
      exact h
    · refine PW.deeper (k := (2, 0, 0, z)) (Nat.le_of_ble_eq_true rfl) (Nat.le_refl _) (Nat.le_refl _) ?_
      refine PW_iload_n c_M_coats_0 rfl ?_
      refine PW_S0 (d2 := 1) (st := []) [.int (nI j)] c_M_coats_1 lk_M_coats_143 rfl rfl rfl (Nat.le_of_ble_eq_true rfl) (by first | decide | omega) (Nat.le_of_ble_eq_true rfl) ?_
      refine sp_M_isShelf2  ?_
      show PW _ _ _ 4 [some (.ref 70), some (.int (nI j)), some (.int a2)] [.int (b2i (0 ≤ (nI j).toInt ∧ (nI j).toInt < 6))] (E x y)
      refine PW_if_eq c_M_coats_4 (fun h0 => absurd hjs (b2i_0.mp h0)) (fun _ => ?_)
      refine PW_aload_n c_M_coats_7 rfl ?_
      refine PW_iload_n c_M_coats_8 rfl ?_
      refine PW_V0 (d2 := 1) (st := []) [.int a2] c_M_coats_9 lk_M_coats_162 (po_70 _ _) rfl rfl rfl (Nat.le_of_ble_eq_true rfl) (by first | decide | omega) (Nat.le_of_ble_eq_true rfl) ?_
      refine sp_M_isGuest2 hg.W ?_
      show PW _ _ _ 12 [some (.ref 70), some (.int (nI j)), some (.int a2)] [.int (b2i (0 ≤ a2.toInt ∧ a2.toInt < (nG y : Int)))] (E x y)
      refine PW_if_ne c_M_coats_12 (fun _ => ?_) (fun h1 => absurd hc1 (b2i_0.mp h1))
      refine PW_aload_n c_M_coats_17 rfl ?_
      refine PW_iload_n c_M_coats_18 rfl ?_
      refine PW_V0 (d2 := 0) (st := []) [.int (nI j)] c_M_coats_19 lk_M_coats_286 (po_70 _ _) rfl rfl rfl (Nat.le_of_ble_eq_true rfl) (by first | decide | omega) (Nat.le_of_ble_eq_true rfl) ?_
      show PW _ _ _ 0 [some (.ref 70), some (.int (nI j))] [] (E x y)
      refine PW_aload_n c_M_rowFault_0 rfl ?_
      refine PW_get (v := .ref 104) c_M_rowFault_1 fl_M_111 (gf_70_53 _ _) ?_
      refine PW_iload_n c_M_rowFault_4 rfl ?_
      refine PW_iald (j := j) c_M_rowFault_5 (ar_104 _ _) (vp_in_nI hj (by decide)) (nI_clamp (by omega)) ?_
      show PW _ _ _ 6 [some (.ref 70), some (.int (nI j))] [.int ((y.2.1 104) j)] (E x y)
      refine PW_iconst (v := -1) c_M_rowFault_6 (by decide) ?_
      refine PW_icmp_ne c_M_rowFault_7 (fun h2 => ?_) (fun h2 => absurd h2 (ho_b e1))
      refine PW_aload_n c_M_rowFault_15 rfl ?_
      refine PW_get (v := .ref 104) c_M_rowFault_16 fl_M_111 (gf_70_53 _ _) ?_
      refine PW_iload_n c_M_rowFault_19 rfl ?_
      refine PW_iald (j := j) c_M_rowFault_20 (ar_104 _ _) (vp_in_nI hj (by decide)) (nI_clamp (by omega)) ?_
      show PW _ _ _ 21 [some (.ref 70), some (.int (nI j))] [.int ((y.2.1 104) j)] (E x y)
      refine PW_bipush (v := -2) c_M_rowFault_21 (by decide) ?_
      refine PW_icmp_ne c_M_rowFault_23 (fun h3 => ?_) (fun h3 => absurd h3 (fun q => by rw [q] at e1; exact absurd e1 (by decide)))
      refine PW_bipush (v := -12) c_M_rowFault_30 (by decide) ?_
      refine PW_ireturn (ty := .int) c_M_rowFault_32 rfl rfl ?_
      show PW _ _ _ 22 [some (.ref 70), some (.int (nI j)), some (.int a2)] [.int (-12)] (E x y)
      refine PW_if_ge c_M_coats_22 (fun h4 => absurd h4 (by decide)) (fun _ => ?_)
      refine PW_aload_n c_M_coats_25 rfl ?_
      refine PW_iload_n c_M_coats_26 rfl ?_
      refine PW_V0 (d2 := 0) (st := []) [.int (nI j)] c_M_coats_27 lk_M_coats_286 (po_70 _ _) rfl rfl rfl (Nat.le_of_ble_eq_true rfl) (by first | decide | omega) (Nat.le_of_ble_eq_true rfl) ?_
      show PW _ _ _ 0 [some (.ref 70), some (.int (nI j))] [] (E x y)
      refine PW_aload_n c_M_rowFault_0 rfl ?_
      refine PW_get (v := .ref 104) c_M_rowFault_1 fl_M_111 (gf_70_53 _ _) ?_
      refine PW_iload_n c_M_rowFault_4 rfl ?_
      refine PW_iald (j := j) c_M_rowFault_5 (ar_104 _ _) (vp_in_nI hj (by decide)) (nI_clamp (by omega)) ?_
      show PW _ _ _ 6 [some (.ref 70), some (.int (nI j))] [.int ((y.2.1 104) j)] (E x y)
      refine PW_iconst (v := -1) c_M_rowFault_6 (by decide) ?_
      refine PW_icmp_ne c_M_rowFault_7 (fun h5 => ?_) (fun h5 => absurd h5 (ho_b e1))
      refine PW_aload_n c_M_rowFault_15 rfl ?_
      refine PW_get (v := .ref 104) c_M_rowFault_16 fl_M_111 (gf_70_53 _ _) ?_
      refine PW_iload_n c_M_rowFault_19 rfl ?_
      refine PW_iald (j := j) c_M_rowFault_20 (ar_104 _ _) (vp_in_nI hj (by decide)) (nI_clamp (by omega)) ?_
      show PW _ _ _ 21 [some (.ref 70), some (.int (nI j))] [.int ((y.2.1 104) j)] (E x y)
      refine PW_bipush (v := -2) c_M_rowFault_21 (by decide) ?_
      refine PW_icmp_ne c_M_rowFault_23 (fun h6 => ?_) (fun h6 => absurd h6 (fun q => by rw [q] at e1; exact absurd e1 (by decide)))
      refine PW_bipush (v := -12) c_M_rowFault_30 (by decide) ?_
      refine PW_ireturn (ty := .int) c_M_rowFault_32 rfl rfl ?_
      show PW _ _ _ 30 [some (.ref 70), some (.int (nI j)), some (.int a2)] [.int (-12)] (E x y)
      refine PW_ireturn (ty := .int) c_M_coats_30 rfl rfl ?_
      exact h
  · by_cases hs0 : ¬ s = 0
    · refine ⟨-12, x, y, ?_, fun {z post} h => ?_, fun {z post} h => ?_⟩
      · exact INV_step hI
      · refine PW.deeper (k := (2, 0, 0, z)) (Nat.le_of_ble_eq_true rfl) (Nat.le_refl _) (Nat.le_refl _) ?_
        refine PW_aload_n c_G_coats_0 rfl ?_
        refine PW_iload_n c_G_coats_1 rfl ?_
        refine PW_V0 (d2 := 0) (st := []) [.int (nI j)] c_G_coats_2 lk_G_coats_102 (po_5 _ _) rfl rfl rfl (Nat.le_of_ble_eq_true rfl) (by first | decide | omega) (Nat.le_of_ble_eq_true rfl) ?_
        refine sp_shelf hj ?_
        show PW _ _ _ 5 [some (.ref 5), some (.int (nI j)), some (.int a2), none, none, none] [.ref (58 + 2 * j)] (E x y)
        refine PW_astore_n (i := 3) (L2 := [some (.ref 5), some (.int (nI j)), some (.int a2), some (.ref (58 + 2 * j)), none, none]) c_G_coats_5 rfl (Nat.le_of_ble_eq_true rfl) rfl rfl ?_
        refine PW_aload_n c_G_coats_6 rfl ?_
        refine PW_ifnull c_G_coats_7 ?_
        refine PW_aload_n c_G_coats_10 rfl ?_
        refine PW_get (v := .ref 6) c_G_coats_11 fl_G_13 (gf_5_0 _ _) ?_
        refine PW_iload_n c_G_coats_14 rfl ?_
        refine PW_V0 (d2 := 0) (st := []) [.int a2] c_G_coats_15 lk_G_coats_139 (po_6 _ _) rfl rfl rfl (Nat.le_of_ble_eq_true rfl) (by first | decide | omega) (Nat.le_of_ble_eq_true rfl) ?_
        refine sp_H_isGuest hg.W hg.x51 ?_
        show PW _ _ _ 18 [some (.ref 5), some (.int (nI j)), some (.int a2), some (.ref (58 + 2 * j)), none, none] [.int (b2i (0 ≤ a2.toInt ∧ a2.toInt < (nG y : Int)))] (E x y)
        refine PW_if_ne c_G_coats_18 (fun _ => ?_) (fun h0 => absurd hc1 (b2i_0.mp h0))
        refine PW_aload_n c_G_coats_23 rfl ?_
        refine PW_V0 (d2 := 1) (st := []) [] c_G_coats_24 lk_G_coats_106 (sh_po _ _ hj) rfl rfl rfl (Nat.le_of_ble_eq_true rfl) (by first | decide | omega) (Nat.le_of_ble_eq_true rfl) ?_
        show PW _ _ _ 0 [some (.ref (58 + 2 * j))] [] (E x y)
        refine PW_aload_n c_F_bytesRefusal_0 rfl ?_
        refine PW_V0 (d2 := 0) (st := []) [] c_F_bytesRefusal_1 lk_F_bytesRefusal_37 (sh_po _ _ hj) rfl rfl rfl (Nat.le_of_ble_eq_true rfl) (by first | decide | omega) (Nat.le_of_ble_eq_true rfl) ?_
        refine sp_F_isEmpty hj  ?_
        show PW _ _ _ 4 [some (.ref (58 + 2 * j))] [.int (b2i (x.1 ((58 + 2 * j) * 8 + 1) = 0))] (E x y)
        refine PW_if_eq c_F_bytesRefusal_4 (fun _ => ?_) (fun h1 => absurd (b2i_n0.mp h1) (by rw [e4]; decide))
        refine PW_aload_n c_F_bytesRefusal_10 rfl ?_
        refine PW_V0 (d2 := 0) (st := []) [] c_F_bytesRefusal_11 lk_F_bytesRefusal_41 (sh_po _ _ hj) rfl rfl rfl (Nat.le_of_ble_eq_true rfl) (by first | decide | omega) (Nat.le_of_ble_eq_true rfl) ?_
        refine sp_F_holdsBytes hj  ?_
        show PW _ _ _ 14 [some (.ref (58 + 2 * j))] [.int (b2i (x.1 ((58 + 2 * j) * 8 + 1) = 2 ∧ x.1 ((58 + 2 * j) * 8 + 3) = 0))] (E x y)
        refine PW_if_eq c_F_bytesRefusal_14 (fun _ => ?_) (fun h2 => absurd (b2i_n0.mp h2) (fun q => hs0 ((nI_eq (by omega) (by omega)).mp (e5.symm.trans q.2))))
        refine PW_bipush (v := -12) c_F_bytesRefusal_21 (by decide) ?_
        refine PW_ireturn (ty := .int) c_F_bytesRefusal_23 rfl rfl ?_
        show PW _ _ _ 27 [some (.ref 5), some (.int (nI j)), some (.int a2), some (.ref (58 + 2 * j)), none, none] [.int (-12)] (E x y)
        refine PW_istore (i := 4) (L2 := [some (.ref 5), some (.int (nI j)), some (.int a2), some (.ref (58 + 2 * j)), some (.int (-12)), none]) c_G_coats_27 (Nat.le_of_ble_eq_true rfl) rfl rfl ?_
        refine PW_iload c_G_coats_29 rfl ?_
        refine PW_if_eq c_G_coats_31 (fun h3 => absurd h3 (by decide)) (fun _ => ?_)
        refine PW_iload c_G_coats_34 rfl ?_
        refine PW_ireturn (ty := .int) c_G_coats_36 rfl rfl ?_
        exact h
      · refine PW.deeper (k := (2, 0, 0, z)) (Nat.le_of_ble_eq_true rfl) (Nat.le_refl _) (Nat.le_refl _) ?_
        refine PW_iload_n c_M_coats_0 rfl ?_
        refine PW_S0 (d2 := 1) (st := []) [.int (nI j)] c_M_coats_1 lk_M_coats_143 rfl rfl rfl (Nat.le_of_ble_eq_true rfl) (by first | decide | omega) (Nat.le_of_ble_eq_true rfl) ?_
        refine sp_M_isShelf2  ?_
        show PW _ _ _ 4 [some (.ref 70), some (.int (nI j)), some (.int a2)] [.int (b2i (0 ≤ (nI j).toInt ∧ (nI j).toInt < 6))] (E x y)
        refine PW_if_eq c_M_coats_4 (fun h0 => absurd hjs (b2i_0.mp h0)) (fun _ => ?_)
        refine PW_aload_n c_M_coats_7 rfl ?_
        refine PW_iload_n c_M_coats_8 rfl ?_
        refine PW_V0 (d2 := 1) (st := []) [.int a2] c_M_coats_9 lk_M_coats_162 (po_70 _ _) rfl rfl rfl (Nat.le_of_ble_eq_true rfl) (by first | decide | omega) (Nat.le_of_ble_eq_true rfl) ?_
        refine sp_M_isGuest2 hg.W ?_
        show PW _ _ _ 12 [some (.ref 70), some (.int (nI j)), some (.int a2)] [.int (b2i (0 ≤ a2.toInt ∧ a2.toInt < (nG y : Int)))] (E x y)
        refine PW_if_ne c_M_coats_12 (fun _ => ?_) (fun h1 => absurd hc1 (b2i_0.mp h1))
        refine PW_aload_n c_M_coats_17 rfl ?_
        refine PW_iload_n c_M_coats_18 rfl ?_
        refine PW_V0 (d2 := 0) (st := []) [.int (nI j)] c_M_coats_19 lk_M_coats_286 (po_70 _ _) rfl rfl rfl (Nat.le_of_ble_eq_true rfl) (by first | decide | omega) (Nat.le_of_ble_eq_true rfl) ?_
        show PW _ _ _ 0 [some (.ref 70), some (.int (nI j))] [] (E x y)
        refine PW_aload_n c_M_rowFault_0 rfl ?_
        refine PW_get (v := .ref 104) c_M_rowFault_1 fl_M_111 (gf_70_53 _ _) ?_
        refine PW_iload_n c_M_rowFault_4 rfl ?_
        refine PW_iald (j := j) c_M_rowFault_5 (ar_104 _ _) (vp_in_nI hj (by decide)) (nI_clamp (by omega)) ?_
        show PW _ _ _ 6 [some (.ref 70), some (.int (nI j))] [.int ((y.2.1 104) j)] (E x y)
        refine PW_iconst (v := -1) c_M_rowFault_6 (by decide) ?_
        refine PW_icmp_ne c_M_rowFault_7 (fun h2 => ?_) (fun h2 => absurd h2 (by rw [e3]; exact ho_n1 e1))
        refine PW_aload_n c_M_rowFault_15 rfl ?_
        refine PW_get (v := .ref 104) c_M_rowFault_16 fl_M_111 (gf_70_53 _ _) ?_
        refine PW_iload_n c_M_rowFault_19 rfl ?_
        refine PW_iald (j := j) c_M_rowFault_20 (ar_104 _ _) (vp_in_nI hj (by decide)) (nI_clamp (by omega)) ?_
        show PW _ _ _ 21 [some (.ref 70), some (.int (nI j))] [.int ((y.2.1 104) j)] (E x y)
        refine PW_bipush (v := -2) c_M_rowFault_21 (by decide) ?_
        refine PW_icmp_ne c_M_rowFault_23 (fun h3 => ?_) (fun h3 => absurd h3 (by rw [e3]; exact so_ne0 e1 hs0))
        refine PW_bipush (v := -12) c_M_rowFault_30 (by decide) ?_
        refine PW_ireturn (ty := .int) c_M_rowFault_32 rfl rfl ?_
        show PW _ _ _ 22 [some (.ref 70), some (.int (nI j)), some (.int a2)] [.int (-12)] (E x y)
        refine PW_if_ge c_M_coats_22 (fun h4 => absurd h4 (by decide)) (fun _ => ?_)
        refine PW_aload_n c_M_coats_25 rfl ?_
        refine PW_iload_n c_M_coats_26 rfl ?_
        refine PW_V0 (d2 := 0) (st := []) [.int (nI j)] c_M_coats_27 lk_M_coats_286 (po_70 _ _) rfl rfl rfl (Nat.le_of_ble_eq_true rfl) (by first | decide | omega) (Nat.le_of_ble_eq_true rfl) ?_
        show PW _ _ _ 0 [some (.ref 70), some (.int (nI j))] [] (E x y)
        refine PW_aload_n c_M_rowFault_0 rfl ?_
        refine PW_get (v := .ref 104) c_M_rowFault_1 fl_M_111 (gf_70_53 _ _) ?_
        refine PW_iload_n c_M_rowFault_4 rfl ?_
        refine PW_iald (j := j) c_M_rowFault_5 (ar_104 _ _) (vp_in_nI hj (by decide)) (nI_clamp (by omega)) ?_
        show PW _ _ _ 6 [some (.ref 70), some (.int (nI j))] [.int ((y.2.1 104) j)] (E x y)
        refine PW_iconst (v := -1) c_M_rowFault_6 (by decide) ?_
        refine PW_icmp_ne c_M_rowFault_7 (fun h5 => ?_) (fun h5 => absurd h5 (by rw [e3]; exact ho_n1 e1))
        refine PW_aload_n c_M_rowFault_15 rfl ?_
        refine PW_get (v := .ref 104) c_M_rowFault_16 fl_M_111 (gf_70_53 _ _) ?_
        refine PW_iload_n c_M_rowFault_19 rfl ?_
        refine PW_iald (j := j) c_M_rowFault_20 (ar_104 _ _) (vp_in_nI hj (by decide)) (nI_clamp (by omega)) ?_
        show PW _ _ _ 21 [some (.ref 70), some (.int (nI j))] [.int ((y.2.1 104) j)] (E x y)
        refine PW_bipush (v := -2) c_M_rowFault_21 (by decide) ?_
        refine PW_icmp_ne c_M_rowFault_23 (fun h6 => ?_) (fun h6 => absurd h6 (by rw [e3]; exact so_ne0 e1 hs0))
        refine PW_bipush (v := -12) c_M_rowFault_30 (by decide) ?_
        refine PW_ireturn (ty := .int) c_M_rowFault_32 rfl rfl ?_
        show PW _ _ _ 30 [some (.ref 70), some (.int (nI j)), some (.int a2)] [.int (-12)] (E x y)
        refine PW_ireturn (ty := .int) c_M_coats_30 rfl rfl ?_
        exact h
    replace hs0 : s = 0 := Decidable.not_not.mp hs0
    have hf : ∀ i, i < n → (x.2.2 (59 + 2 * j) i = a2.toInt64 ↔ plF y j i = a2) := fun i hi => by
      obtain ⟨v1, v2⟩ := e8 i hi
      rw [v1]
      exact l2i_eq (v2 hs0)
    rcases first_or (P := fun i => plF y j i = a2) n with ⟨p, p1, p2, p3⟩ | hm
    · have L1 : lowF (fun _ => true) (x.2.2 (59 + 2 * j)) a2.toInt64 n 0 = nI p := lowF_hit ⟨rfl, (hf p p1).mpr p2⟩ n 0 (fun i _ hi q => p3 i hi ((hf i (by omega)).mp q.2)) (by omega) (by omega)
      have A1 : cntF (fun _ => true) (n - (p + 1)) (p + 1) 0 = nI (n - (p + 1)) := by rw [cntF_all, Int32.zero_add]
      have L2 : lifF ((sA (sI y 604 (nI n)) 99 (wi (plF y j) (y.2.1 99) 0 n)).2.1 99) a2 (nI n) n 0 = nI (n - (p + 1)) := by rw [sA_at, lifF_hit (p := p) (by rw [wi_at, if_pos (by omega)]; exact p2) n 0 (fun i _ hi => by rw [wi_at, if_pos (by omega)]; exact p3 i hi) (by omega) (by omega), sub2 p1 e2]
      refine ⟨nI (n - (p + 1)), x, sA (sI y 604 (nI n)) 99 (wi (plF y j) (y.2.1 99) 0 n), ?_, fun {z post} h => ?_, fun {z post} h => ?_⟩
      · refine ⟨hg.cg (fun n q1 q2 => by first | rfl | (simp only [sI_1, sI_A, sI_G, sA_1, sA_A, sA_G, sG_1, sG_A, sG_G]; repeat rw [if_neg (by omega)])) (fun n q1 q2 => by first | rfl | (simp only [sI_1, sI_A, sI_G, sA_1, sA_A, sA_G, sG_1, sG_A, sG_G]; repeat rw [if_neg (by omega)])) (by first | rfl | (simp only [sI_1, sI_A, sI_G, sA_1, sA_A, sA_G, sG_1, sG_A, sG_G]; repeat rw [if_neg (by omega)])) (fun n q1 q2 => by first | rfl | (simp only [sI_1, sI_A, sI_G, sA_1, sA_A, sA_G, sG_1, sG_A, sG_G]; repeat rw [if_neg (by omega)])), hc.cg (fun n q1 q2 => by first | rfl | (simp only [sI_1, sI_A, sI_G, sA_1, sA_A, sA_G, sG_1, sG_A, sG_G]; repeat rw [if_neg (by omega)])) (fun n q1 q2 => by first | rfl | (simp only [sI_1, sI_A, sI_G, sA_1, sA_A, sA_G, sG_1, sG_A, sG_G]; repeat rw [if_neg (by omega)])) (fun n q1 q2 => by first | rfl | (simp only [sI_1, sI_A, sI_G, sA_1, sA_A, sA_G, sG_1, sG_A, sG_G]; repeat rw [if_neg (by omega)])) (fun n q1 q2 => by first | rfl | (simp only [sI_1, sI_A, sI_G, sA_1, sA_A, sA_G, sG_1, sG_A, sG_G]; repeat rw [if_neg (by omega)])) (Nat.le_of_eq (nG_cg (by first | rfl | (simp only [sI_1, sI_A, sI_G, sA_1, sA_A, sA_G, sG_1, sG_A, sG_G]; repeat rw [if_neg (by omega)]))).symm), ht0.cg (by first | rfl | (simp only [sI_1, sI_A, sI_G, sA_1, sA_A, sA_G, sG_1, sG_A, sG_G]; repeat rw [if_neg (by omega)])) (by first | rfl | (simp only [sI_1, sI_A, sI_G, sA_1, sA_A, sA_G, sG_1, sG_A, sG_G]; repeat rw [if_neg (by omega)])) (by first | rfl | (simp only [sI_1, sI_A, sI_G, sA_1, sA_A, sA_G, sG_1, sG_A, sG_G]; repeat rw [if_neg (by omega)])) (by first | rfl | (simp only [sI_1, sI_A, sI_G, sA_1, sA_A, sA_G, sG_1, sG_A, sG_G]; repeat rw [if_neg (by omega)])), hl.cg (by first | rfl | (simp only [sI_1, sI_A, sI_G, sA_1, sA_A, sA_G, sG_1, sG_A, sG_G]; repeat rw [if_neg (by omega)])) (fun n q1 q2 => by first | rfl | (simp only [sI_1, sI_A, sI_G, sA_1, sA_A, sA_G, sG_1, sG_A, sG_G]; repeat rw [if_neg (by omega)])) (by first | rfl | (simp only [sI_1, sI_A, sI_G, sA_1, sA_A, sA_G, sG_1, sG_A, sG_G]; repeat rw [if_neg (by omega)])) (fun n q1 q2 => by first | rfl | (simp only [sI_1, sI_A, sI_G, sA_1, sA_A, sA_G, sG_1, sG_A, sG_G]; repeat rw [if_neg (by omega)])), hd.cg (Nat.le_succ _) (fun n q1 q2 => by first | rfl | (simp only [sI_1, sI_A, sI_G, sA_1, sA_A, sA_G, sG_1, sG_A, sG_G]; repeat rw [if_neg (by omega)])) (by first | rfl | (simp only [sI_1, sI_A, sI_G, sA_1, sA_A, sA_G, sG_1, sG_A, sG_G]; repeat rw [if_neg (by omega)])) (by first | rfl | (simp only [sI_1, sI_A, sI_G, sA_1, sA_A, sA_G, sG_1, sG_A, sG_G]; repeat rw [if_neg (by omega)])) (fun n q1 q2 => by first | rfl | (simp only [sI_1, sI_A, sI_G, sA_1, sA_A, sA_G, sG_1, sG_A, sG_G]; repeat rw [if_neg (by omega)])), hb.cg (fun n q1 q2 => by first | rfl | (simp only [sI_1, sI_A, sI_G, sA_1, sA_A, sA_G, sG_1, sG_A, sG_G]; repeat rw [if_neg (by omega)])) (fun n q1 q2 => by first | rfl | (simp only [sI_1, sI_A, sI_G, sA_1, sA_A, sA_G, sG_1, sG_A, sG_G]; repeat rw [if_neg (by omega)])) (fun n q1 q2 => by first | rfl | (simp only [sI_1, sI_A, sI_G, sA_1, sA_A, sA_G, sG_1, sG_A, sG_G]; repeat rw [if_neg (by omega)])) (fun n q1 q2 => by first | rfl | (simp only [sI_1, sI_A, sI_G, sA_1, sA_A, sA_G, sG_1, sG_A, sG_G]; repeat rw [if_neg (by omega)])), hs.cg (fun n q1 q2 => by first | rfl | (simp only [sI_1, sI_A, sI_G, sA_1, sA_A, sA_G, sG_1, sG_A, sG_G]; repeat rw [if_neg (by omega)])) (fun n q1 q2 => by first | rfl | (simp only [sI_1, sI_A, sI_G, sA_1, sA_A, sA_G, sG_1, sG_A, sG_G]; repeat rw [if_neg (by omega)])) (by first | exact Int.le_refl _ | (simp only [sI_1, sI_A, sI_G, sA_1, sA_A, sA_G, sG_1, sG_A, sG_G]; repeat rw [if_neg (by omega)])) (fun n q1 q2 => by first | rfl | (simp only [sI_1, sI_A, sI_G, sA_1, sA_A, sA_G, sG_1, sG_A, sG_G]; repeat rw [if_neg (by omega)])) (by first | rfl | (simp only [sI_1, sI_A, sI_G, sA_1, sA_A, sA_G, sG_1, sG_A, sG_G]; repeat rw [if_neg (by omega)]))⟩
      · refine PW.deeper (k := (2, 0, 0, z)) (Nat.le_of_ble_eq_true rfl) (Nat.le_refl _) (Nat.le_refl _) ?_
        refine PW_aload_n c_G_coats_0 rfl ?_
        refine PW_iload_n c_G_coats_1 rfl ?_
        refine PW_V0 (d2 := 0) (st := []) [.int (nI j)] c_G_coats_2 lk_G_coats_102 (po_5 _ _) rfl rfl rfl (Nat.le_of_ble_eq_true rfl) (by first | decide | omega) (Nat.le_of_ble_eq_true rfl) ?_
        refine sp_shelf hj ?_
        show PW _ _ _ 5 [some (.ref 5), some (.int (nI j)), some (.int a2), none, none, none] [.ref (58 + 2 * j)] (E x y)
        refine PW_astore_n (i := 3) (L2 := [some (.ref 5), some (.int (nI j)), some (.int a2), some (.ref (58 + 2 * j)), none, none]) c_G_coats_5 rfl (Nat.le_of_ble_eq_true rfl) rfl rfl ?_
        refine PW_aload_n c_G_coats_6 rfl ?_
        refine PW_ifnull c_G_coats_7 ?_
        refine PW_aload_n c_G_coats_10 rfl ?_
        refine PW_get (v := .ref 6) c_G_coats_11 fl_G_13 (gf_5_0 _ _) ?_
        refine PW_iload_n c_G_coats_14 rfl ?_
        refine PW_V0 (d2 := 0) (st := []) [.int a2] c_G_coats_15 lk_G_coats_139 (po_6 _ _) rfl rfl rfl (Nat.le_of_ble_eq_true rfl) (by first | decide | omega) (Nat.le_of_ble_eq_true rfl) ?_
        refine sp_H_isGuest hg.W hg.x51 ?_
        show PW _ _ _ 18 [some (.ref 5), some (.int (nI j)), some (.int a2), some (.ref (58 + 2 * j)), none, none] [.int (b2i (0 ≤ a2.toInt ∧ a2.toInt < (nG y : Int)))] (E x y)
        refine PW_if_ne c_G_coats_18 (fun _ => ?_) (fun h0 => absurd hc1 (b2i_0.mp h0))
        refine PW_aload_n c_G_coats_23 rfl ?_
        refine PW_V0 (d2 := 1) (st := []) [] c_G_coats_24 lk_G_coats_106 (sh_po _ _ hj) rfl rfl rfl (Nat.le_of_ble_eq_true rfl) (by first | decide | omega) (Nat.le_of_ble_eq_true rfl) ?_
        show PW _ _ _ 0 [some (.ref (58 + 2 * j))] [] (E x y)
        refine PW_aload_n c_F_bytesRefusal_0 rfl ?_
        refine PW_V0 (d2 := 0) (st := []) [] c_F_bytesRefusal_1 lk_F_bytesRefusal_37 (sh_po _ _ hj) rfl rfl rfl (Nat.le_of_ble_eq_true rfl) (by first | decide | omega) (Nat.le_of_ble_eq_true rfl) ?_
        refine sp_F_isEmpty hj  ?_
        show PW _ _ _ 4 [some (.ref (58 + 2 * j))] [.int (b2i (x.1 ((58 + 2 * j) * 8 + 1) = 0))] (E x y)
        refine PW_if_eq c_F_bytesRefusal_4 (fun _ => ?_) (fun h1 => absurd (b2i_n0.mp h1) (by rw [e4]; decide))
        refine PW_aload_n c_F_bytesRefusal_10 rfl ?_
        refine PW_V0 (d2 := 0) (st := []) [] c_F_bytesRefusal_11 lk_F_bytesRefusal_41 (sh_po _ _ hj) rfl rfl rfl (Nat.le_of_ble_eq_true rfl) (by first | decide | omega) (Nat.le_of_ble_eq_true rfl) ?_
        refine sp_F_holdsBytes hj  ?_
        show PW _ _ _ 14 [some (.ref (58 + 2 * j))] [.int (b2i (x.1 ((58 + 2 * j) * 8 + 1) = 2 ∧ x.1 ((58 + 2 * j) * 8 + 3) = 0))] (E x y)
        refine PW_if_eq c_F_bytesRefusal_14 (fun h2 => absurd ⟨e4, by rw [e5, hs0]; rfl⟩ (b2i_0.mp h2)) (fun _ => ?_)
        refine PW_iconst (v := 0) c_F_bytesRefusal_17 (by decide) ?_
        refine PW_goto c_F_bytesRefusal_18 ?_
        refine PW_ireturn (ty := .int) c_F_bytesRefusal_23 rfl rfl ?_
        show PW _ _ _ 27 [some (.ref 5), some (.int (nI j)), some (.int a2), some (.ref (58 + 2 * j)), none, none] [.int 0] (E x y)
        refine PW_istore (i := 4) (L2 := [some (.ref 5), some (.int (nI j)), some (.int a2), some (.ref (58 + 2 * j)), some (.int 0), none]) c_G_coats_27 (Nat.le_of_ble_eq_true rfl) rfl rfl ?_
        refine PW_iload c_G_coats_29 rfl ?_
        refine PW_if_eq c_G_coats_31 (fun _ => ?_) (fun h3 => absurd (by decide) h3)
        refine PW_aload_n c_G_coats_37 rfl ?_
        refine PW_iload_n c_G_coats_38 rfl ?_
        refine PW_lconst (v := 0) c_G_coats_39 (by decide) ?_
        refine PW_V0 (d2 := 0) (st := []) [.int a2, .long 0] c_G_coats_40 lk_G_coats_229 (sh_po _ _ hj) rfl rfl rfl (Nat.le_of_ble_eq_true rfl) (by first | decide | omega) (Nat.le_of_ble_eq_true rfl) ?_
        refine sp_F_lowest hj e2 e7 frO_0 ?_
        rw [L1]
        show PW _ _ _ 43 [some (.ref 5), some (.int (nI j)), some (.int a2), some (.ref (58 + 2 * j)), some (.int 0), none] [.int (nI p)] (E x y)
        refine PW_istore (i := 5) (L2 := [some (.ref 5), some (.int (nI j)), some (.int a2), some (.ref (58 + 2 * j)), some (.int 0), some (.int (nI p))]) c_G_coats_43 (Nat.le_of_ble_eq_true rfl) rfl rfl ?_
        refine PW_iload c_G_coats_45 rfl ?_
        refine PW_if_ge c_G_coats_47 (fun h4 => ?_) (fun h4 => absurd (Int32.not_lt.mp (nI_pos (by omega))) h4)
        refine PW_aload_n c_G_coats_55 rfl ?_
        refine PW_iload c_G_coats_56 rfl ?_
        refine PW_lconst (v := 0) c_G_coats_58 (by decide) ?_
        refine PW_V0 (d2 := 1) (st := []) [.int (nI p), .long 0] c_G_coats_59 lk_G_coats_233 (sh_po _ _ hj) rfl rfl rfl (Nat.le_of_ble_eq_true rfl) (by first | decide | omega) (Nat.le_of_ble_eq_true rfl) ?_
        refine sp_F_above hj e2 e7 frO_0 rfl p1 ?_
        rw [A1]
        show PW _ _ _ 62 [some (.ref 5), some (.int (nI j)), some (.int a2), some (.ref (58 + 2 * j)), some (.int 0), some (.int (nI p))] [.int (nI (n - (p + 1)))] (E x y)
        refine PW_ireturn (ty := .int) c_G_coats_62 rfl rfl ?_
        exact h
      · refine PW.deeper (k := (2, 0, 0, z)) (Nat.le_of_ble_eq_true rfl) (Nat.le_refl _) (Nat.le_refl _) ?_
        refine PW_iload_n c_M_coats_0 rfl ?_
        refine PW_S0 (d2 := 1) (st := []) [.int (nI j)] c_M_coats_1 lk_M_coats_143 rfl rfl rfl (Nat.le_of_ble_eq_true rfl) (by first | decide | omega) (Nat.le_of_ble_eq_true rfl) ?_
        refine sp_M_isShelf2  ?_
        show PW _ _ _ 4 [some (.ref 70), some (.int (nI j)), some (.int a2)] [.int (b2i (0 ≤ (nI j).toInt ∧ (nI j).toInt < 6))] (E x y)
        refine PW_if_eq c_M_coats_4 (fun h0 => absurd hjs (b2i_0.mp h0)) (fun _ => ?_)
        refine PW_aload_n c_M_coats_7 rfl ?_
        refine PW_iload_n c_M_coats_8 rfl ?_
        refine PW_V0 (d2 := 1) (st := []) [.int a2] c_M_coats_9 lk_M_coats_162 (po_70 _ _) rfl rfl rfl (Nat.le_of_ble_eq_true rfl) (by first | decide | omega) (Nat.le_of_ble_eq_true rfl) ?_
        refine sp_M_isGuest2 hg.W ?_
        show PW _ _ _ 12 [some (.ref 70), some (.int (nI j)), some (.int a2)] [.int (b2i (0 ≤ a2.toInt ∧ a2.toInt < (nG y : Int)))] (E x y)
        refine PW_if_ne c_M_coats_12 (fun _ => ?_) (fun h1 => absurd hc1 (b2i_0.mp h1))
        refine PW_aload_n c_M_coats_17 rfl ?_
        refine PW_iload_n c_M_coats_18 rfl ?_
        refine PW_V0 (d2 := 0) (st := []) [.int (nI j)] c_M_coats_19 lk_M_coats_286 (po_70 _ _) rfl rfl rfl (Nat.le_of_ble_eq_true rfl) (by first | decide | omega) (Nat.le_of_ble_eq_true rfl) ?_
        show PW _ _ _ 0 [some (.ref 70), some (.int (nI j))] [] (E x y)
        refine PW_aload_n c_M_rowFault_0 rfl ?_
        refine PW_get (v := .ref 104) c_M_rowFault_1 fl_M_111 (gf_70_53 _ _) ?_
        refine PW_iload_n c_M_rowFault_4 rfl ?_
        refine PW_iald (j := j) c_M_rowFault_5 (ar_104 _ _) (vp_in_nI hj (by decide)) (nI_clamp (by omega)) ?_
        show PW _ _ _ 6 [some (.ref 70), some (.int (nI j))] [.int ((y.2.1 104) j)] (E x y)
        refine PW_iconst (v := -1) c_M_rowFault_6 (by decide) ?_
        refine PW_icmp_ne c_M_rowFault_7 (fun h2 => ?_) (fun h2 => absurd h2 (by rw [e3]; exact ho_n1 e1))
        refine PW_aload_n c_M_rowFault_15 rfl ?_
        refine PW_get (v := .ref 104) c_M_rowFault_16 fl_M_111 (gf_70_53 _ _) ?_
        refine PW_iload_n c_M_rowFault_19 rfl ?_
        refine PW_iald (j := j) c_M_rowFault_20 (ar_104 _ _) (vp_in_nI hj (by decide)) (nI_clamp (by omega)) ?_
        show PW _ _ _ 21 [some (.ref 70), some (.int (nI j))] [.int ((y.2.1 104) j)] (E x y)
        refine PW_bipush (v := -2) c_M_rowFault_21 (by decide) ?_
        refine PW_icmp_ne c_M_rowFault_23 (fun h3 => absurd h3 (not_not_intro (by rw [e3, hs0]; decide))) (fun h3 => ?_)
        refine PW_iconst (v := 0) c_M_rowFault_26 (by decide) ?_
        refine PW_goto c_M_rowFault_27 ?_
        refine PW_ireturn (ty := .int) c_M_rowFault_32 rfl rfl ?_
        show PW _ _ _ 22 [some (.ref 70), some (.int (nI j)), some (.int a2)] [.int 0] (E x y)
        refine PW_if_ge c_M_coats_22 (fun _ => ?_) (fun h4 => absurd (by decide) h4)
        refine PW_aload_n c_M_coats_31 rfl ?_
        refine PW_iload_n c_M_coats_32 rfl ?_
        refine PW_V0 (d2 := 1) (st := []) [.int (nI j)] c_M_coats_33 lk_M_coats_336 (po_70 _ _) rfl rfl rfl (Nat.le_of_ble_eq_true rfl) (by first | decide | omega) (Nat.le_of_ble_eq_true rfl) ?_
        refine sp_M_layPile hj e2 e6 ?_
        show PW _ _ _ 36 [some (.ref 70), some (.int (nI j)), some (.int a2)] [] (E x (sA (sI y 604 (nI n)) 99 (wi (plF y j) (y.2.1 99) 0 n)))
        refine PW_aload_n c_M_coats_36 rfl ?_
        refine PW_iload_n c_M_coats_37 rfl ?_
        refine PW_V0 (d2 := 0) (st := []) [.int a2] c_M_coats_38 lk_M_coats_339 (po_70 _ _) rfl rfl rfl (Nat.le_of_ble_eq_true rfl) (by first | decide | omega) (Nat.le_of_ble_eq_true rfl) ?_
        refine sp_M_lifted e2 (show (sI y 604 (nI n)).1 604 = nI n from sI_s) ?_
        rw [L2]
        show PW _ _ _ 41 [some (.ref 70), some (.int (nI j)), some (.int a2)] [.int (nI (n - (p + 1)))] (E x (sA (sI y 604 (nI n)) 99 (wi (plF y j) (y.2.1 99) 0 n)))
        refine PW_ireturn (ty := .int) c_M_coats_41 rfl rfl ?_
        exact h
    · have L1 : lowF (fun _ => true) (x.2.2 (59 + 2 * j)) a2.toInt64 n 0 = -1 := lowF_miss n 0 (fun i _ hi q => hm i (by omega) ((hf i (by omega)).mp q.2))
      have L2 : lifF ((sA (sI y 604 (nI n)) 99 (wi (plF y j) (y.2.1 99) 0 n)).2.1 99) a2 (nI n) n 0 = -2 := by rw [sA_at, lifF_miss n 0 (fun i _ hi => by rw [wi_at, if_pos (by omega)]; exact hm i (by omega))]
      refine ⟨-2, x, sA (sI y 604 (nI n)) 99 (wi (plF y j) (y.2.1 99) 0 n), ?_, fun {z post} h => ?_, fun {z post} h => ?_⟩
      · refine ⟨hg.cg (fun n q1 q2 => by first | rfl | (simp only [sI_1, sI_A, sI_G, sA_1, sA_A, sA_G, sG_1, sG_A, sG_G]; repeat rw [if_neg (by omega)])) (fun n q1 q2 => by first | rfl | (simp only [sI_1, sI_A, sI_G, sA_1, sA_A, sA_G, sG_1, sG_A, sG_G]; repeat rw [if_neg (by omega)])) (by first | rfl | (simp only [sI_1, sI_A, sI_G, sA_1, sA_A, sA_G, sG_1, sG_A, sG_G]; repeat rw [if_neg (by omega)])) (fun n q1 q2 => by first | rfl | (simp only [sI_1, sI_A, sI_G, sA_1, sA_A, sA_G, sG_1, sG_A, sG_G]; repeat rw [if_neg (by omega)])), hc.cg (fun n q1 q2 => by first | rfl | (simp only [sI_1, sI_A, sI_G, sA_1, sA_A, sA_G, sG_1, sG_A, sG_G]; repeat rw [if_neg (by omega)])) (fun n q1 q2 => by first | rfl | (simp only [sI_1, sI_A, sI_G, sA_1, sA_A, sA_G, sG_1, sG_A, sG_G]; repeat rw [if_neg (by omega)])) (fun n q1 q2 => by first | rfl | (simp only [sI_1, sI_A, sI_G, sA_1, sA_A, sA_G, sG_1, sG_A, sG_G]; repeat rw [if_neg (by omega)])) (fun n q1 q2 => by first | rfl | (simp only [sI_1, sI_A, sI_G, sA_1, sA_A, sA_G, sG_1, sG_A, sG_G]; repeat rw [if_neg (by omega)])) (Nat.le_of_eq (nG_cg (by first | rfl | (simp only [sI_1, sI_A, sI_G, sA_1, sA_A, sA_G, sG_1, sG_A, sG_G]; repeat rw [if_neg (by omega)]))).symm), ht0.cg (by first | rfl | (simp only [sI_1, sI_A, sI_G, sA_1, sA_A, sA_G, sG_1, sG_A, sG_G]; repeat rw [if_neg (by omega)])) (by first | rfl | (simp only [sI_1, sI_A, sI_G, sA_1, sA_A, sA_G, sG_1, sG_A, sG_G]; repeat rw [if_neg (by omega)])) (by first | rfl | (simp only [sI_1, sI_A, sI_G, sA_1, sA_A, sA_G, sG_1, sG_A, sG_G]; repeat rw [if_neg (by omega)])) (by first | rfl | (simp only [sI_1, sI_A, sI_G, sA_1, sA_A, sA_G, sG_1, sG_A, sG_G]; repeat rw [if_neg (by omega)])), hl.cg (by first | rfl | (simp only [sI_1, sI_A, sI_G, sA_1, sA_A, sA_G, sG_1, sG_A, sG_G]; repeat rw [if_neg (by omega)])) (fun n q1 q2 => by first | rfl | (simp only [sI_1, sI_A, sI_G, sA_1, sA_A, sA_G, sG_1, sG_A, sG_G]; repeat rw [if_neg (by omega)])) (by first | rfl | (simp only [sI_1, sI_A, sI_G, sA_1, sA_A, sA_G, sG_1, sG_A, sG_G]; repeat rw [if_neg (by omega)])) (fun n q1 q2 => by first | rfl | (simp only [sI_1, sI_A, sI_G, sA_1, sA_A, sA_G, sG_1, sG_A, sG_G]; repeat rw [if_neg (by omega)])), hd.cg (Nat.le_succ _) (fun n q1 q2 => by first | rfl | (simp only [sI_1, sI_A, sI_G, sA_1, sA_A, sA_G, sG_1, sG_A, sG_G]; repeat rw [if_neg (by omega)])) (by first | rfl | (simp only [sI_1, sI_A, sI_G, sA_1, sA_A, sA_G, sG_1, sG_A, sG_G]; repeat rw [if_neg (by omega)])) (by first | rfl | (simp only [sI_1, sI_A, sI_G, sA_1, sA_A, sA_G, sG_1, sG_A, sG_G]; repeat rw [if_neg (by omega)])) (fun n q1 q2 => by first | rfl | (simp only [sI_1, sI_A, sI_G, sA_1, sA_A, sA_G, sG_1, sG_A, sG_G]; repeat rw [if_neg (by omega)])), hb.cg (fun n q1 q2 => by first | rfl | (simp only [sI_1, sI_A, sI_G, sA_1, sA_A, sA_G, sG_1, sG_A, sG_G]; repeat rw [if_neg (by omega)])) (fun n q1 q2 => by first | rfl | (simp only [sI_1, sI_A, sI_G, sA_1, sA_A, sA_G, sG_1, sG_A, sG_G]; repeat rw [if_neg (by omega)])) (fun n q1 q2 => by first | rfl | (simp only [sI_1, sI_A, sI_G, sA_1, sA_A, sA_G, sG_1, sG_A, sG_G]; repeat rw [if_neg (by omega)])) (fun n q1 q2 => by first | rfl | (simp only [sI_1, sI_A, sI_G, sA_1, sA_A, sA_G, sG_1, sG_A, sG_G]; repeat rw [if_neg (by omega)])), hs.cg (fun n q1 q2 => by first | rfl | (simp only [sI_1, sI_A, sI_G, sA_1, sA_A, sA_G, sG_1, sG_A, sG_G]; repeat rw [if_neg (by omega)])) (fun n q1 q2 => by first | rfl | (simp only [sI_1, sI_A, sI_G, sA_1, sA_A, sA_G, sG_1, sG_A, sG_G]; repeat rw [if_neg (by omega)])) (by first | exact Int.le_refl _ | (simp only [sI_1, sI_A, sI_G, sA_1, sA_A, sA_G, sG_1, sG_A, sG_G]; repeat rw [if_neg (by omega)])) (fun n q1 q2 => by first | rfl | (simp only [sI_1, sI_A, sI_G, sA_1, sA_A, sA_G, sG_1, sG_A, sG_G]; repeat rw [if_neg (by omega)])) (by first | rfl | (simp only [sI_1, sI_A, sI_G, sA_1, sA_A, sA_G, sG_1, sG_A, sG_G]; repeat rw [if_neg (by omega)]))⟩
      · refine PW.deeper (k := (2, 0, 0, z)) (Nat.le_of_ble_eq_true rfl) (Nat.le_refl _) (Nat.le_refl _) ?_
        refine PW_aload_n c_G_coats_0 rfl ?_
        refine PW_iload_n c_G_coats_1 rfl ?_
        refine PW_V0 (d2 := 0) (st := []) [.int (nI j)] c_G_coats_2 lk_G_coats_102 (po_5 _ _) rfl rfl rfl (Nat.le_of_ble_eq_true rfl) (by first | decide | omega) (Nat.le_of_ble_eq_true rfl) ?_
        refine sp_shelf hj ?_
        show PW _ _ _ 5 [some (.ref 5), some (.int (nI j)), some (.int a2), none, none, none] [.ref (58 + 2 * j)] (E x y)
        refine PW_astore_n (i := 3) (L2 := [some (.ref 5), some (.int (nI j)), some (.int a2), some (.ref (58 + 2 * j)), none, none]) c_G_coats_5 rfl (Nat.le_of_ble_eq_true rfl) rfl rfl ?_
        refine PW_aload_n c_G_coats_6 rfl ?_
        refine PW_ifnull c_G_coats_7 ?_
        refine PW_aload_n c_G_coats_10 rfl ?_
        refine PW_get (v := .ref 6) c_G_coats_11 fl_G_13 (gf_5_0 _ _) ?_
        refine PW_iload_n c_G_coats_14 rfl ?_
        refine PW_V0 (d2 := 0) (st := []) [.int a2] c_G_coats_15 lk_G_coats_139 (po_6 _ _) rfl rfl rfl (Nat.le_of_ble_eq_true rfl) (by first | decide | omega) (Nat.le_of_ble_eq_true rfl) ?_
        refine sp_H_isGuest hg.W hg.x51 ?_
        show PW _ _ _ 18 [some (.ref 5), some (.int (nI j)), some (.int a2), some (.ref (58 + 2 * j)), none, none] [.int (b2i (0 ≤ a2.toInt ∧ a2.toInt < (nG y : Int)))] (E x y)
        refine PW_if_ne c_G_coats_18 (fun _ => ?_) (fun h0 => absurd hc1 (b2i_0.mp h0))
        refine PW_aload_n c_G_coats_23 rfl ?_
        refine PW_V0 (d2 := 1) (st := []) [] c_G_coats_24 lk_G_coats_106 (sh_po _ _ hj) rfl rfl rfl (Nat.le_of_ble_eq_true rfl) (by first | decide | omega) (Nat.le_of_ble_eq_true rfl) ?_
        show PW _ _ _ 0 [some (.ref (58 + 2 * j))] [] (E x y)
        refine PW_aload_n c_F_bytesRefusal_0 rfl ?_
        refine PW_V0 (d2 := 0) (st := []) [] c_F_bytesRefusal_1 lk_F_bytesRefusal_37 (sh_po _ _ hj) rfl rfl rfl (Nat.le_of_ble_eq_true rfl) (by first | decide | omega) (Nat.le_of_ble_eq_true rfl) ?_
        refine sp_F_isEmpty hj  ?_
        show PW _ _ _ 4 [some (.ref (58 + 2 * j))] [.int (b2i (x.1 ((58 + 2 * j) * 8 + 1) = 0))] (E x y)
        refine PW_if_eq c_F_bytesRefusal_4 (fun _ => ?_) (fun h1 => absurd (b2i_n0.mp h1) (by rw [e4]; decide))
        refine PW_aload_n c_F_bytesRefusal_10 rfl ?_
        refine PW_V0 (d2 := 0) (st := []) [] c_F_bytesRefusal_11 lk_F_bytesRefusal_41 (sh_po _ _ hj) rfl rfl rfl (Nat.le_of_ble_eq_true rfl) (by first | decide | omega) (Nat.le_of_ble_eq_true rfl) ?_
        refine sp_F_holdsBytes hj  ?_
        show PW _ _ _ 14 [some (.ref (58 + 2 * j))] [.int (b2i (x.1 ((58 + 2 * j) * 8 + 1) = 2 ∧ x.1 ((58 + 2 * j) * 8 + 3) = 0))] (E x y)
        refine PW_if_eq c_F_bytesRefusal_14 (fun h2 => absurd ⟨e4, by rw [e5, hs0]; rfl⟩ (b2i_0.mp h2)) (fun _ => ?_)
        refine PW_iconst (v := 0) c_F_bytesRefusal_17 (by decide) ?_
        refine PW_goto c_F_bytesRefusal_18 ?_
        refine PW_ireturn (ty := .int) c_F_bytesRefusal_23 rfl rfl ?_
        show PW _ _ _ 27 [some (.ref 5), some (.int (nI j)), some (.int a2), some (.ref (58 + 2 * j)), none, none] [.int 0] (E x y)
        refine PW_istore (i := 4) (L2 := [some (.ref 5), some (.int (nI j)), some (.int a2), some (.ref (58 + 2 * j)), some (.int 0), none]) c_G_coats_27 (Nat.le_of_ble_eq_true rfl) rfl rfl ?_
        refine PW_iload c_G_coats_29 rfl ?_
        refine PW_if_eq c_G_coats_31 (fun _ => ?_) (fun h3 => absurd (by decide) h3)
        refine PW_aload_n c_G_coats_37 rfl ?_
        refine PW_iload_n c_G_coats_38 rfl ?_
        refine PW_lconst (v := 0) c_G_coats_39 (by decide) ?_
        refine PW_V0 (d2 := 0) (st := []) [.int a2, .long 0] c_G_coats_40 lk_G_coats_229 (sh_po _ _ hj) rfl rfl rfl (Nat.le_of_ble_eq_true rfl) (by first | decide | omega) (Nat.le_of_ble_eq_true rfl) ?_
        refine sp_F_lowest hj e2 e7 frO_0 ?_
        rw [L1]
        show PW _ _ _ 43 [some (.ref 5), some (.int (nI j)), some (.int a2), some (.ref (58 + 2 * j)), some (.int 0), none] [.int (-1)] (E x y)
        refine PW_istore (i := 5) (L2 := [some (.ref 5), some (.int (nI j)), some (.int a2), some (.ref (58 + 2 * j)), some (.int 0), some (.int (-1))]) c_G_coats_43 (Nat.le_of_ble_eq_true rfl) rfl rfl ?_
        refine PW_iload c_G_coats_45 rfl ?_
        refine PW_if_ge c_G_coats_47 (fun h4 => absurd h4 (by decide)) (fun _ => ?_)
        refine PW_bipush (v := -2) c_G_coats_50 (by decide) ?_
        refine PW_goto c_G_coats_52 ?_
        refine PW_ireturn (ty := .int) c_G_coats_62 rfl rfl ?_
        exact h
      · refine PW.deeper (k := (2, 0, 0, z)) (Nat.le_of_ble_eq_true rfl) (Nat.le_refl _) (Nat.le_refl _) ?_
        refine PW_iload_n c_M_coats_0 rfl ?_
        refine PW_S0 (d2 := 1) (st := []) [.int (nI j)] c_M_coats_1 lk_M_coats_143 rfl rfl rfl (Nat.le_of_ble_eq_true rfl) (by first | decide | omega) (Nat.le_of_ble_eq_true rfl) ?_
        refine sp_M_isShelf2  ?_
        show PW _ _ _ 4 [some (.ref 70), some (.int (nI j)), some (.int a2)] [.int (b2i (0 ≤ (nI j).toInt ∧ (nI j).toInt < 6))] (E x y)
        refine PW_if_eq c_M_coats_4 (fun h0 => absurd hjs (b2i_0.mp h0)) (fun _ => ?_)
        refine PW_aload_n c_M_coats_7 rfl ?_
        refine PW_iload_n c_M_coats_8 rfl ?_
        refine PW_V0 (d2 := 1) (st := []) [.int a2] c_M_coats_9 lk_M_coats_162 (po_70 _ _) rfl rfl rfl (Nat.le_of_ble_eq_true rfl) (by first | decide | omega) (Nat.le_of_ble_eq_true rfl) ?_
        refine sp_M_isGuest2 hg.W ?_
        show PW _ _ _ 12 [some (.ref 70), some (.int (nI j)), some (.int a2)] [.int (b2i (0 ≤ a2.toInt ∧ a2.toInt < (nG y : Int)))] (E x y)
        refine PW_if_ne c_M_coats_12 (fun _ => ?_) (fun h1 => absurd hc1 (b2i_0.mp h1))
        refine PW_aload_n c_M_coats_17 rfl ?_
        refine PW_iload_n c_M_coats_18 rfl ?_
        refine PW_V0 (d2 := 0) (st := []) [.int (nI j)] c_M_coats_19 lk_M_coats_286 (po_70 _ _) rfl rfl rfl (Nat.le_of_ble_eq_true rfl) (by first | decide | omega) (Nat.le_of_ble_eq_true rfl) ?_
        show PW _ _ _ 0 [some (.ref 70), some (.int (nI j))] [] (E x y)
        refine PW_aload_n c_M_rowFault_0 rfl ?_
        refine PW_get (v := .ref 104) c_M_rowFault_1 fl_M_111 (gf_70_53 _ _) ?_
        refine PW_iload_n c_M_rowFault_4 rfl ?_
        refine PW_iald (j := j) c_M_rowFault_5 (ar_104 _ _) (vp_in_nI hj (by decide)) (nI_clamp (by omega)) ?_
        show PW _ _ _ 6 [some (.ref 70), some (.int (nI j))] [.int ((y.2.1 104) j)] (E x y)
        refine PW_iconst (v := -1) c_M_rowFault_6 (by decide) ?_
        refine PW_icmp_ne c_M_rowFault_7 (fun h2 => ?_) (fun h2 => absurd h2 (by rw [e3]; exact ho_n1 e1))
        refine PW_aload_n c_M_rowFault_15 rfl ?_
        refine PW_get (v := .ref 104) c_M_rowFault_16 fl_M_111 (gf_70_53 _ _) ?_
        refine PW_iload_n c_M_rowFault_19 rfl ?_
        refine PW_iald (j := j) c_M_rowFault_20 (ar_104 _ _) (vp_in_nI hj (by decide)) (nI_clamp (by omega)) ?_
        show PW _ _ _ 21 [some (.ref 70), some (.int (nI j))] [.int ((y.2.1 104) j)] (E x y)
        refine PW_bipush (v := -2) c_M_rowFault_21 (by decide) ?_
        refine PW_icmp_ne c_M_rowFault_23 (fun h3 => absurd h3 (not_not_intro (by rw [e3, hs0]; decide))) (fun h3 => ?_)
        refine PW_iconst (v := 0) c_M_rowFault_26 (by decide) ?_
        refine PW_goto c_M_rowFault_27 ?_
        refine PW_ireturn (ty := .int) c_M_rowFault_32 rfl rfl ?_
        show PW _ _ _ 22 [some (.ref 70), some (.int (nI j)), some (.int a2)] [.int 0] (E x y)
        refine PW_if_ge c_M_coats_22 (fun _ => ?_) (fun h4 => absurd (by decide) h4)
        refine PW_aload_n c_M_coats_31 rfl ?_
        refine PW_iload_n c_M_coats_32 rfl ?_
        refine PW_V0 (d2 := 1) (st := []) [.int (nI j)] c_M_coats_33 lk_M_coats_336 (po_70 _ _) rfl rfl rfl (Nat.le_of_ble_eq_true rfl) (by first | decide | omega) (Nat.le_of_ble_eq_true rfl) ?_
        refine sp_M_layPile hj e2 e6 ?_
        show PW _ _ _ 36 [some (.ref 70), some (.int (nI j)), some (.int a2)] [] (E x (sA (sI y 604 (nI n)) 99 (wi (plF y j) (y.2.1 99) 0 n)))
        refine PW_aload_n c_M_coats_36 rfl ?_
        refine PW_iload_n c_M_coats_37 rfl ?_
        refine PW_V0 (d2 := 0) (st := []) [.int a2] c_M_coats_38 lk_M_coats_339 (po_70 _ _) rfl rfl rfl (Nat.le_of_ble_eq_true rfl) (by first | decide | omega) (Nat.le_of_ble_eq_true rfl) ?_
        refine sp_M_lifted e2 (show (sI y 604 (nI n)).1 604 = nI n from sI_s) ?_
        rw [L2]
        show PW _ _ _ 41 [some (.ref 70), some (.int (nI j)), some (.int a2)] [.int (-2)] (E x (sA (sI y 604 (nI n)) 99 (wi (plF y j) (y.2.1 99) 0 n)))
        refine PW_ireturn (ty := .int) c_M_coats_41 rfl rfl ?_
        exact h
