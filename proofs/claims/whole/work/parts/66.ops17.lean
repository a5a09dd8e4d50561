set_option maxHeartbeats 4000000 in
theorem op_guests {t : Nat} {x y : XS} {a1 : Int32} {a2 : Int32} {a3 : Int32} (hI : INV t x y) (ht : t < 512) : ∃ (r : Int32) (x' y' : XS), INV (t + 1) x' y' ∧ (∀ {z : ZS} {post : Option Value → List PE → Prop}, post (some (.int r)) (E x' y) → PW (90, 0, 0, z) m_G_guests post 0 [some (.ref 5), some (.int a1), some (.int a2), some (.int a3), none, none, none, none] [] (E x y)) ∧ (∀ {z : ZS} {post : Option Value → List PE → Prop}, post (some (.int r)) (E x' y') → PW (90, 0, 0, z) m_M_guests post 0 [some (.ref 70), some (.int a1), some (.int a2), some (.int a3), none, none, none, none] [] (E x' y)) := by
  obtain ⟨hg, hc, ht0, hl, hd, hb, hs⟩ := id hI

  by_cases hc0 : ¬ (0 ≤ a1.toInt ∧ a1.toInt < 6)
  · refine ⟨-1, x, y, ?_, fun {z post} h => ?_, fun {z post} h => ?_⟩
    · exact INV_step hI
    · refine PW.deeper (k := (6, 0, 0, z)) (Nat.le_of_ble_eq_true rfl) (Nat.le_refl _) (Nat.le_refl _) ?_
      refine PW_aload_n c_G_guests_0 rfl ?_
      refine PW_iload_n c_G_guests_1 rfl ?_
      refine PW_V0 (d2 := 0) (st := []) [.int a1] c_G_guests_2 lk_G_guests_102 (po_5 _ _) rfl rfl rfl (Nat.le_of_ble_eq_true rfl) (by first | decide | omega) (Nat.le_of_ble_eq_true rfl) ?_
      refine sp_noshelf hc0 ?_
      show PW _ _ _ 5 [some (.ref 5), some (.int a1), some (.int a2), some (.int a3), none, none, none, none] [.null] (E x y)
      refine PW_astoreN (i := 4) (L2 := [some (.ref 5), some (.int a1), some (.int a2), some (.int a3), some (.null), none, none, none]) c_G_guests_5 (Nat.le_of_ble_eq_true rfl) rfl rfl ?_
      refine PW_aloadN c_G_guests_7 rfl ?_
      refine PW_ifnullN c_G_guests_9 ?_
      refine PW_iconst (v := -1) c_G_guests_23 (by decide) ?_
      refine PW_ireturn (ty := .int) c_G_guests_24 rfl rfl ?_
      exact h
    · refine PW.deeper (k := (2, 0, 0, z)) (Nat.le_of_ble_eq_true rfl) (Nat.le_refl _) (Nat.le_refl _) ?_
      refine PW_iload_n c_M_guests_0 rfl ?_
      refine PW_S0 (d2 := 1) (st := []) [.int a1] c_M_guests_1 lk_M_guests_143 rfl rfl rfl (Nat.le_of_ble_eq_true rfl) (by first | decide | omega) (Nat.le_of_ble_eq_true rfl) ?_
      refine sp_M_isShelf2  ?_
      show PW _ _ _ 4 [some (.ref 70), some (.int a1), some (.int a2), some (.int a3), none, none, none, none] [.int (b2i (0 ≤ a1.toInt ∧ a1.toInt < 6))] (E x y)
      refine PW_if_eq c_M_guests_4 (fun _ => ?_) (fun h0 => absurd (b2i_n0.mp h0) hc0)
      refine PW_iconst (v := -1) c_M_guests_17 (by decide) ?_
      refine PW_ireturn (ty := .int) c_M_guests_18 rfl rfl ?_
      exact h
  obtain ⟨j, hj, rfl⟩ : ∃ j : Nat, j < 6 ∧ a1 = nI j := by
    obtain ⟨q, q1, q2, q3, q4⟩ := nI_ex (x := a1) (by have := Decidable.not_not.mp hc0; omega)
    exact ⟨q, by have := Decidable.not_not.mp hc0; omega, q2⟩
  have hjs : 0 ≤ (nI j).toInt ∧ (nI j).toInt < 6 := by rw [nI_toInt (by omega)]; omega
  by_cases hc1 : ¬ (1 ≤ a3 ∧ a3 ≤ 10)
  · refine ⟨-1, x, y, ?_, fun {z post} h => ?_, fun {z post} h => ?_⟩
    · exact INV_step hI
    · refine PW.deeper (k := (6, 0, 0, z)) (Nat.le_of_ble_eq_true rfl) (Nat.le_refl _) (Nat.le_refl _) ?_
      refine PW_aload_n c_G_guests_0 rfl ?_
      refine PW_iload_n c_G_guests_1 rfl ?_
      refine PW_V0 (d2 := 0) (st := []) [.int (nI j)] c_G_guests_2 lk_G_guests_102 (po_5 _ _) rfl rfl rfl (Nat.le_of_ble_eq_true rfl) (by first | decide | omega) (Nat.le_of_ble_eq_true rfl) ?_
      refine sp_shelf hj ?_
      show PW _ _ _ 5 [some (.ref 5), some (.int (nI j)), some (.int a2), some (.int a3), none, none, none, none] [.ref (58 + 2 * j)] (E x y)
      refine PW_astore (i := 4) (L2 := [some (.ref 5), some (.int (nI j)), some (.int a2), some (.int a3), some (.ref (58 + 2 * j)), none, none, none]) c_G_guests_5 (Nat.le_of_ble_eq_true rfl) rfl rfl ?_
      refine PW_aload c_G_guests_7 rfl ?_
      refine PW_ifnull c_G_guests_9 ?_
      refine PW_iload_n c_G_guests_12 rfl ?_
      refine PW_iconst (v := 1) c_G_guests_13 (by decide) ?_
      refine PW_icmp_lt c_G_guests_14 (fun h0 => ?_) (fun h0 => ?_)
      · refine PW_iconst (v := -1) c_G_guests_23 (by decide) ?_
        refine PW_ireturn (ty := .int) c_G_guests_24 rfl rfl ?_
        exact h
      · refine PW_iload_n c_G_guests_17 rfl ?_
        refine PW_bipush (v := 10) c_G_guests_18 (by decide) ?_
        refine PW_icmp_le c_G_guests_20 (fun h1 => ?_) (fun h1 => ?_)
        · exact absurd ⟨Int32.not_lt.mp h0, h1⟩ hc1
        · refine PW_iconst (v := -1) c_G_guests_23 (by decide) ?_
          refine PW_ireturn (ty := .int) c_G_guests_24 rfl rfl ?_
          exact h
    · refine PW.deeper (k := (2, 0, 0, z)) (Nat.le_of_ble_eq_true rfl) (Nat.le_refl _) (Nat.le_refl _) ?_
      refine PW_iload_n c_M_guests_0 rfl ?_
      refine PW_S0 (d2 := 1) (st := []) [.int (nI j)] c_M_guests_1 lk_M_guests_143 rfl rfl rfl (Nat.le_of_ble_eq_true rfl) (by first | decide | omega) (Nat.le_of_ble_eq_true rfl) ?_
      refine sp_M_isShelf2  ?_
      show PW _ _ _ 4 [some (.ref 70), some (.int (nI j)), some (.int a2), some (.int a3), none, none, none, none] [.int (b2i (0 ≤ (nI j).toInt ∧ (nI j).toInt < 6))] (E x y)
      refine PW_if_eq c_M_guests_4 (fun h0 => absurd hjs (b2i_0.mp h0)) (fun _ => ?_)
      refine PW_iload_n c_M_guests_7 rfl ?_
      refine PW_iconst (v := 1) c_M_guests_8 (by decide) ?_
      refine PW_bipush (v := 10) c_M_guests_9 (by decide) ?_
      refine PW_S0 (d2 := 0) (st := []) [.int a3, .int 1, .int 10] c_M_guests_11 lk_M_guests_131 rfl rfl rfl (Nat.le_of_ble_eq_true rfl) (by first | decide | omega) (Nat.le_of_ble_eq_true rfl) ?_
      refine sp_M_within  ?_
      show PW _ _ _ 14 [some (.ref 70), some (.int (nI j)), some (.int a2), some (.int a3), none, none, none, none] [.int (b2i ((1 : Int32) ≤ a3 ∧ a3 ≤ (10 : Int32)))] (E x y)
      refine PW_if_ne c_M_guests_14 (fun h1 => absurd (b2i_n0.mp h1) hc1) (fun _ => ?_)
      refine PW_iconst (v := -1) c_M_guests_17 (by decide) ?_
      refine PW_ireturn (ty := .int) c_M_guests_18 rfl rfl ?_
      exact h
  replace hc1 : 1 ≤ a3 ∧ a3 ≤ 10 := Decidable.not_not.mp hc1
  obtain ⟨N, N1, rfl, N3, N4⟩ := nI_ex (x := a3) (by simp only [Int32.le_iff_toInt_le, tiA] at hc1; omega)
  have hN : 1 ≤ N ∧ N ≤ 10 := by simp only [Int32.le_iff_toInt_le, tiA] at hc1; omega
  rcases sh_cases (hs j hj) with ⟨p1, p2⟩ | ⟨p1, p2, p3, p4⟩ | ⟨p1, p2, p3, p4, n, hn, p5, p6, hP⟩
  · refine ⟨0, x, y, ?_, fun {z post} h => ?_, fun {z post} h => ?_⟩
    · exact INV_step hI
    · refine PW.deeper (k := (6, 0, 0, z)) (Nat.le_of_ble_eq_true rfl) (Nat.le_refl _) (Nat.le_refl _) ?_
      refine PW_aload_n c_G_guests_0 rfl ?_
      refine PW_iload_n c_G_guests_1 rfl ?_
      refine PW_V0 (d2 := 0) (st := []) [.int (nI j)] c_G_guests_2 lk_G_guests_102 (po_5 _ _) rfl rfl rfl (Nat.le_of_ble_eq_true rfl) (by first | decide | omega) (Nat.le_of_ble_eq_true rfl) ?_
      refine sp_shelf hj ?_
      show PW _ _ _ 5 [some (.ref 5), some (.int (nI j)), some (.int a2), some (.int (nI N)), none, none, none, none] [.ref (58 + 2 * j)] (E x y)
      refine PW_astore (i := 4) (L2 := [some (.ref 5), some (.int (nI j)), some (.int a2), some (.int (nI N)), some (.ref (58 + 2 * j)), none, none, none]) c_G_guests_5 (Nat.le_of_ble_eq_true rfl) rfl rfl ?_
      refine PW_aload c_G_guests_7 rfl ?_
      refine PW_ifnull c_G_guests_9 ?_
      refine PW_iload_n c_G_guests_12 rfl ?_
      refine PW_iconst (v := 1) c_G_guests_13 (by decide) ?_
      refine PW_icmp_lt c_G_guests_14 (fun h0 => absurd h0 (Int32.not_lt.mpr hc1.1)) (fun h0 => ?_)
      refine PW_iload_n c_G_guests_17 rfl ?_
      refine PW_bipush (v := 10) c_G_guests_18 (by decide) ?_
      refine PW_icmp_le c_G_guests_20 (fun h1 => ?_) (fun h1 => absurd hc1.2 h1)
      refine PW_aload c_G_guests_25 rfl ?_
      refine PW_V0 (d2 := 1) (st := []) [] c_G_guests_27 lk_G_guests_106 (sh_po _ _ hj) rfl rfl rfl (Nat.le_of_ble_eq_true rfl) (by first | decide | omega) (Nat.le_of_ble_eq_true rfl) ?_
      show PW _ _ _ 0 [some (.ref (58 + 2 * j))] [] (E x y)
      refine PW_aload_n c_F_bytesRefusal_0 rfl ?_
      refine PW_V0 (d2 := 0) (st := []) [] c_F_bytesRefusal_1 lk_F_bytesRefusal_37 (sh_po _ _ hj) rfl rfl rfl (Nat.le_of_ble_eq_true rfl) (by first | decide | omega) (Nat.le_of_ble_eq_true rfl) ?_
      refine sp_F_isEmpty hj  ?_
      show PW _ _ _ 4 [some (.ref (58 + 2 * j))] [.int (b2i (x.1 ((58 + 2 * j) * 8 + 1) = 0))] (E x y)
      refine PW_if_eq c_F_bytesRefusal_4 (fun h2 => absurd p2 (b2i_0.mp h2)) (fun _ => ?_)
      refine PW_bipush (v := -11) c_F_bytesRefusal_7 (by decide) ?_
      refine PW_ireturn (ty := .int) c_F_bytesRefusal_9 rfl rfl ?_
      show PW _ _ _ 30 [some (.ref 5), some (.int (nI j)), some (.int a2), some (.int (nI N)), some (.ref (58 + 2 * j)), none, none, none] [.int (-11)] (E x y)
      refine PW_bipush (v := -12) c_G_guests_30 (by decide) ?_
      refine PW_icmp_ne c_G_guests_32 (fun _ => ?_) (fun h3 => absurd h3 (by decide))
      refine PW_iconst (v := 0) c_G_guests_38 (by decide) ?_
      refine PW_istore (i := 5) (L2 := [some (.ref 5), some (.int (nI j)), some (.int a2), some (.int (nI N)), some (.ref (58 + 2 * j)), some (.int 0), none, none]) c_G_guests_39 (Nat.le_of_ble_eq_true rfl) rfl rfl ?_
      refine PW_iconst (v := 0) c_G_guests_41 (by decide) ?_
      refine PW_istore (i := 6) (L2 := [some (.ref 5), some (.int (nI j)), some (.int a2), some (.int (nI N)), some (.ref (58 + 2 * j)), some (.int 0), some (.int 0), none]) c_G_guests_42 (Nat.le_of_ble_eq_true rfl) rfl rfl ?_
      refine PW_iload c_G_guests_44 rfl ?_
      refine PW_iload_n c_G_guests_46 rfl ?_
      refine PW_icmp_ge c_G_guests_47 (fun h4 => absurd h4 (fun q => absurd ((nI_leI (by omega) (by decide)).mp (show nI N ≤ nI 0 from q)) (by omega))) (fun h4 => ?_)
      refine PW_iload_n c_G_guests_50 rfl ?_
      refine PW_if_lt c_G_guests_51 (fun h5 => ?_) (fun h5 => ?_)
      · refine PW_bipush (v := 60) c_G_guests_60 (by decide) ?_
        refine PW_goto c_G_guests_62 ?_
        refine PW_istore (i := 7) (L2 := [some (.ref 5), some (.int (nI j)), some (.int a2), some (.int (nI N)), some (.ref (58 + 2 * j)), some (.int 0), some (.int 0), some (.int 60)]) c_G_guests_71 (Nat.le_of_ble_eq_true rfl) rfl rfl ?_
        refine PW_aload_n c_G_guests_73 rfl ?_
        refine PW_aload c_G_guests_74 rfl ?_
        refine PW_iload c_G_guests_76 rfl ?_
        refine PW_V0 (d2 := 5) (st := []) [.ref (58 + 2 * j), .int 60] c_G_guests_78 lk_G_guests_110 (po_5 _ _) rfl rfl rfl (Nat.le_of_ble_eq_true rfl) (by first | decide | omega) (Nat.le_of_ble_eq_true rfl) ?_
        refine sp_wfE hj (fun q => by rw [p2] at q; exact absurd q.1 (by decide)) ?_
        show PW _ _ _ 81 [some (.ref 5), some (.int (nI j)), some (.int a2), some (.int (nI N)), some (.ref (58 + 2 * j)), some (.int 0), some (.int 0), some (.int 60)] [.int 0] (E x y)
        refine PW_if_ne c_G_guests_81 (fun h6 => absurd (by decide) h6) (fun _ => ?_)
        refine PW_goto c_G_guests_84 ?_
        refine PW_iload c_G_guests_96 rfl ?_
        refine PW_ireturn (ty := .int) c_G_guests_98 rfl rfl ?_
        exact h
      · refine PW_iload_n c_G_guests_54 rfl ?_
        refine PW_bipush (v := 60) c_G_guests_55 (by decide) ?_
        refine PW_icmp_le c_G_guests_57 (fun h7 => ?_) (fun h7 => ?_)
        · refine PW_iload_n c_G_guests_65 rfl ?_
          refine PW_iconst (v := 3) c_G_guests_66 (by decide) ?_
          refine PW_iload c_G_guests_67 rfl ?_
          refine PW_imul c_G_guests_69 ?_
          refine PW_iadd c_G_guests_70 ?_
          refine PW_istore (i := 7) (L2 := [some (.ref 5), some (.int (nI j)), some (.int a2), some (.int (nI N)), some (.ref (58 + 2 * j)), some (.int 0), some (.int 0), some (.int (a2 + (3 * 0)))]) c_G_guests_71 (Nat.le_of_ble_eq_true rfl) rfl rfl ?_
          refine PW_aload_n c_G_guests_73 rfl ?_
          refine PW_aload c_G_guests_74 rfl ?_
          refine PW_iload c_G_guests_76 rfl ?_
          refine PW_V0 (d2 := 5) (st := []) [.ref (58 + 2 * j), .int (a2 + (3 * 0))] c_G_guests_78 lk_G_guests_110 (po_5 _ _) rfl rfl rfl (Nat.le_of_ble_eq_true rfl) (by first | decide | omega) (Nat.le_of_ble_eq_true rfl) ?_
          refine sp_wfE hj (fun q => by rw [p2] at q; exact absurd q.1 (by decide)) ?_
          show PW _ _ _ 81 [some (.ref 5), some (.int (nI j)), some (.int a2), some (.int (nI N)), some (.ref (58 + 2 * j)), some (.int 0), some (.int 0), some (.int (a2 + (3 * 0)))] [.int 0] (E x y)
          refine PW_if_ne c_G_guests_81 (fun h8 => absurd (by decide) h8) (fun _ => ?_)
          refine PW_goto c_G_guests_84 ?_
          refine PW_iload c_G_guests_96 rfl ?_
          refine PW_ireturn (ty := .int) c_G_guests_98 rfl rfl ?_
          exact h
        · refine PW_bipush (v := 60) c_G_guests_60 (by decide) ?_
          refine PW_goto c_G_guests_62 ?_
          refine PW_istore (i := 7) (L2 := [some (.ref 5), some (.int (nI j)), some (.int a2), some (.int (nI N)), some (.ref (58 + 2 * j)), some (.int 0), some (.int 0), some (.int 60)]) c_G_guests_71 (Nat.le_of_ble_eq_true rfl) rfl rfl ?_
          refine PW_aload_n c_G_guests_73 rfl ?_
          refine PW_aload c_G_guests_74 rfl ?_
          refine PW_iload c_G_guests_76 rfl ?_
          refine PW_V0 (d2 := 5) (st := []) [.ref (58 + 2 * j), .int 60] c_G_guests_78 lk_G_guests_110 (po_5 _ _) rfl rfl rfl (Nat.le_of_ble_eq_true rfl) (by first | decide | omega) (Nat.le_of_ble_eq_true rfl) ?_
          refine sp_wfE hj (fun q => by rw [p2] at q; exact absurd q.1 (by decide)) ?_
          show PW _ _ _ 81 [some (.ref 5), some (.int (nI j)), some (.int a2), some (.int (nI N)), some (.ref (58 + 2 * j)), some (.int 0), some (.int 0), some (.int 60)] [.int 0] (E x y)
          refine PW_if_ne c_G_guests_81 (fun h9 => absurd (by decide) h9) (fun _ => ?_)
          refine PW_goto c_G_guests_84 ?_
          refine PW_iload c_G_guests_96 rfl ?_
          refine PW_ireturn (ty := .int) c_G_guests_98 rfl rfl ?_
          exact h
    · refine PW.deeper (k := (2, 0, 0, z)) (Nat.le_of_ble_eq_true rfl) (Nat.le_refl _) (Nat.le_refl _) ?_
      refine PW_iload_n c_M_guests_0 rfl ?_
      refine PW_S0 (d2 := 1) (st := []) [.int (nI j)] c_M_guests_1 lk_M_guests_143 rfl rfl rfl (Nat.le_of_ble_eq_true rfl) (by first | decide | omega) (Nat.le_of_ble_eq_true rfl) ?_
      refine sp_M_isShelf2  ?_
      show PW _ _ _ 4 [some (.ref 70), some (.int (nI j)), some (.int a2), some (.int (nI N)), none, none, none, none] [.int (b2i (0 ≤ (nI j).toInt ∧ (nI j).toInt < 6))] (E x y)
      refine PW_if_eq c_M_guests_4 (fun h0 => absurd hjs (b2i_0.mp h0)) (fun _ => ?_)
      refine PW_iload_n c_M_guests_7 rfl ?_
      refine PW_iconst (v := 1) c_M_guests_8 (by decide) ?_
      refine PW_bipush (v := 10) c_M_guests_9 (by decide) ?_
      refine PW_S0 (d2 := 0) (st := []) [.int (nI N), .int 1, .int 10] c_M_guests_11 lk_M_guests_131 rfl rfl rfl (Nat.le_of_ble_eq_true rfl) (by first | decide | omega) (Nat.le_of_ble_eq_true rfl) ?_
      refine sp_M_within  ?_
      show PW _ _ _ 14 [some (.ref 70), some (.int (nI j)), some (.int a2), some (.int (nI N)), none, none, none, none] [.int (b2i ((1 : Int32) ≤ (nI N) ∧ (nI N) ≤ (10 : Int32)))] (E x y)
      refine PW_if_ne c_M_guests_14 (fun _ => ?_) (fun h1 => absurd hc1 (b2i_0.mp h1))
      refine PW_aload_n c_M_guests_19 rfl ?_
      refine PW_get (v := .ref 104) c_M_guests_20 fl_M_111 (gf_70_53 _ _) ?_
      refine PW_iload_n c_M_guests_23 rfl ?_
      refine PW_iald (j := j) c_M_guests_24 (ar_104 _ _) (vp_in_nI hj (by decide)) (nI_clamp (by omega)) ?_
      show PW _ _ _ 25 [some (.ref 70), some (.int (nI j)), some (.int a2), some (.int (nI N)), none, none, none, none] [.int ((y.2.1 104) j)] (E x y)
      refine PW_iconst (v := -1) c_M_guests_25 (by decide) ?_
      refine PW_icmp_eq c_M_guests_26 (fun h2 => ?_) (fun h2 => absurd p1 h2)
      refine PW_aload_n c_M_guests_43 rfl ?_
      refine PW_get (v := .ref 104) c_M_guests_44 fl_M_111 (gf_70_53 _ _) ?_
      refine PW_iload_n c_M_guests_47 rfl ?_
      refine PW_iald (j := j) c_M_guests_48 (ar_104 _ _) (vp_in_nI hj (by decide)) (nI_clamp (by omega)) ?_
      show PW _ _ _ 49 [some (.ref 70), some (.int (nI j)), some (.int a2), some (.int (nI N)), none, none, none, none] [.int ((y.2.1 104) j)] (E x y)
      refine PW_iconst (v := -1) c_M_guests_49 (by decide) ?_
      refine PW_icmp_ne c_M_guests_50 (fun h3 => absurd h3 (not_not_intro p1)) (fun h3 => ?_)
      refine PW_iconst (v := 0) c_M_guests_53 (by decide) ?_
      refine PW_ireturn (ty := .int) c_M_guests_54 rfl rfl ?_
      exact h
  · refine ⟨-12, x, y, ?_, fun {z post} h => ?_, fun {z post} h => ?_⟩
    · exact INV_step hI
    · refine PW.deeper (k := (6, 0, 0, z)) (Nat.le_of_ble_eq_true rfl) (Nat.le_refl _) (Nat.le_refl _) ?_
      refine PW_aload_n c_G_guests_0 rfl ?_
      refine PW_iload_n c_G_guests_1 rfl ?_
      refine PW_V0 (d2 := 0) (st := []) [.int (nI j)] c_G_guests_2 lk_G_guests_102 (po_5 _ _) rfl rfl rfl (Nat.le_of_ble_eq_true rfl) (by first | decide | omega) (Nat.le_of_ble_eq_true rfl) ?_
      refine sp_shelf hj ?_
      show PW _ _ _ 5 [some (.ref 5), some (.int (nI j)), some (.int a2), some (.int (nI N)), none, none, none, none] [.ref (58 + 2 * j)] (E x y)
      refine PW_astore (i := 4) (L2 := [some (.ref 5), some (.int (nI j)), some (.int a2), some (.int (nI N)), some (.ref (58 + 2 * j)), none, none, none]) c_G_guests_5 (Nat.le_of_ble_eq_true rfl) rfl rfl ?_
      refine PW_aload c_G_guests_7 rfl ?_
      refine PW_ifnull c_G_guests_9 ?_
      refine PW_iload_n c_G_guests_12 rfl ?_
      refine PW_iconst (v := 1) c_G_guests_13 (by decide) ?_
      refine PW_icmp_lt c_G_guests_14 (fun h0 => absurd h0 (Int32.not_lt.mpr hc1.1)) (fun h0 => ?_)
      refine PW_iload_n c_G_guests_17 rfl ?_
      refine PW_bipush (v := 10) c_G_guests_18 (by decide) ?_
      refine PW_icmp_le c_G_guests_20 (fun h1 => ?_) (fun h1 => absurd hc1.2 h1)
      refine PW_aload c_G_guests_25 rfl ?_
      refine PW_V0 (d2 := 1) (st := []) [] c_G_guests_27 lk_G_guests_106 (sh_po _ _ hj) rfl rfl rfl (Nat.le_of_ble_eq_true rfl) (by first | decide | omega) (Nat.le_of_ble_eq_true rfl) ?_
      show PW _ _ _ 0 [some (.ref (58 + 2 * j))] [] (E x y)
      refine PW_aload_n c_F_bytesRefusal_0 rfl ?_
      refine PW_V0 (d2 := 0) (st := []) [] c_F_bytesRefusal_1 lk_F_bytesRefusal_37 (sh_po _ _ hj) rfl rfl rfl (Nat.le_of_ble_eq_true rfl) (by first | decide | omega) (Nat.le_of_ble_eq_true rfl) ?_
      refine sp_F_isEmpty hj  ?_
      show PW _ _ _ 4 [some (.ref (58 + 2 * j))] [.int (b2i (x.1 ((58 + 2 * j) * 8 + 1) = 0))] (E x y)
      refine PW_if_eq c_F_bytesRefusal_4 (fun _ => ?_) (fun h2 => absurd (b2i_n0.mp h2) p3)
      refine PW_aload_n c_F_bytesRefusal_10 rfl ?_
      refine PW_V0 (d2 := 0) (st := []) [] c_F_bytesRefusal_11 lk_F_bytesRefusal_41 (sh_po _ _ hj) rfl rfl rfl (Nat.le_of_ble_eq_true rfl) (by first | decide | omega) (Nat.le_of_ble_eq_true rfl) ?_
      refine sp_F_holdsBytes hj  ?_
      show PW _ _ _ 14 [some (.ref (58 + 2 * j))] [.int (b2i (x.1 ((58 + 2 * j) * 8 + 1) = 2 ∧ x.1 ((58 + 2 * j) * 8 + 3) = 0))] (E x y)
      refine PW_if_eq c_F_bytesRefusal_14 (fun _ => ?_) (fun h3 => absurd (b2i_n0.mp h3) p4)
      refine PW_bipush (v := -12) c_F_bytesRefusal_21 (by decide) ?_
      refine PW_ireturn (ty := .int) c_F_bytesRefusal_23 rfl rfl ?_
      show PW _ _ _ 30 [some (.ref 5), some (.int (nI j)), some (.int a2), some (.int (nI N)), some (.ref (58 + 2 * j)), none, none, none] [.int (-12)] (E x y)
      refine PW_bipush (v := -12) c_G_guests_30 (by decide) ?_
      refine PW_icmp_ne c_G_guests_32 (fun h4 => absurd (by decide) h4) (fun _ => ?_)
      refine PW_bipush (v := -12) c_G_guests_35 (by decide) ?_
      refine PW_ireturn (ty := .int) c_G_guests_37 rfl rfl ?_
      exact h
    · refine PW.deeper (k := (2, 0, 0, z)) (Nat.le_of_ble_eq_true rfl) (Nat.le_refl _) (Nat.le_refl _) ?_
      refine PW_iload_n c_M_guests_0 rfl ?_
      refine PW_S0 (d2 := 1) (st := []) [.int (nI j)] c_M_guests_1 lk_M_guests_143 rfl rfl rfl (Nat.le_of_ble_eq_true rfl) (by first | decide | omega) (Nat.le_of_ble_eq_true rfl) ?_
      refine sp_M_isShelf2  ?_
      show PW _ _ _ 4 [some (.ref 70), some (.int (nI j)), some (.int a2), some (.int (nI N)), none, none, none, none] [.int (b2i (0 ≤ (nI j).toInt ∧ (nI j).toInt < 6))] (E x y)
      refine PW_if_eq c_M_guests_4 (fun h0 => absurd hjs (b2i_0.mp h0)) (fun _ => ?_)
      refine PW_iload_n c_M_guests_7 rfl ?_
      refine PW_iconst (v := 1) c_M_guests_8 (by decide) ?_
      refine PW_bipush (v := 10) c_M_guests_9 (by decide) ?_
      refine PW_S0 (d2 := 0) (st := []) [.int (nI N), .int 1, .int 10] c_M_guests_11 lk_M_guests_131 rfl rfl rfl (Nat.le_of_ble_eq_true rfl) (by first | decide | omega) (Nat.le_of_ble_eq_true rfl) ?_
      refine sp_M_within  ?_
      show PW _ _ _ 14 [some (.ref 70), some (.int (nI j)), some (.int a2), some (.int (nI N)), none, none, none, none] [.int (b2i ((1 : Int32) ≤ (nI N) ∧ (nI N) ≤ (10 : Int32)))] (E x y)
      refine PW_if_ne c_M_guests_14 (fun _ => ?_) (fun h1 => absurd hc1 (b2i_0.mp h1))
      refine PW_aload_n c_M_guests_19 rfl ?_
      refine PW_get (v := .ref 104) c_M_guests_20 fl_M_111 (gf_70_53 _ _) ?_
      refine PW_iload_n c_M_guests_23 rfl ?_
      refine PW_iald (j := j) c_M_guests_24 (ar_104 _ _) (vp_in_nI hj (by decide)) (nI_clamp (by omega)) ?_
      show PW _ _ _ 25 [some (.ref 70), some (.int (nI j)), some (.int a2), some (.int (nI N)), none, none, none, none] [.int ((y.2.1 104) j)] (E x y)
      refine PW_iconst (v := -1) c_M_guests_25 (by decide) ?_
      refine PW_icmp_eq c_M_guests_26 (fun h2 => absurd h2 p1) (fun h2 => ?_)
      refine PW_aload_n c_M_guests_29 rfl ?_
      refine PW_get (v := .ref 104) c_M_guests_30 fl_M_111 (gf_70_53 _ _) ?_
      refine PW_iload_n c_M_guests_33 rfl ?_
      refine PW_iald (j := j) c_M_guests_34 (ar_104 _ _) (vp_in_nI hj (by decide)) (nI_clamp (by omega)) ?_
      show PW _ _ _ 35 [some (.ref 70), some (.int (nI j)), some (.int a2), some (.int (nI N)), none, none, none, none] [.int ((y.2.1 104) j)] (E x y)
      refine PW_bipush (v := -2) c_M_guests_35 (by decide) ?_
      refine PW_icmp_eq c_M_guests_37 (fun h3 => absurd h3 p2) (fun h3 => ?_)
      refine PW_bipush (v := -12) c_M_guests_40 (by decide) ?_
      refine PW_ireturn (ty := .int) c_M_guests_42 rfl rfl ?_
      exact h
  · obtain ⟨r, X', Y', i1, i2, i3, i4, H1, H2⟩ := gs_all (a1 := nI j) (a2 := a2) (N := N) hj p4 p6 p5 hn (by omega) (fun i hi => (hP i hi).1) N 0 x y (Nat.zero_add _) (fun q => absurd q (by omega)) hg (frX_0 x) (frY_0 y)
    refine ⟨r, X', Y', ?_, fun {z post} h => ?_, fun {z post} h => ?_⟩
    · exact INV_step (INV_fr hI i1 i2 i3 i4)
    · refine PW.deeper (k := (6, 0, 0, z)) (Nat.le_of_ble_eq_true rfl) (Nat.le_refl _) (Nat.le_refl _) ?_
      refine PW_aload_n c_G_guests_0 rfl ?_
      refine PW_iload_n c_G_guests_1 rfl ?_
      refine PW_V0 (d2 := 0) (st := []) [.int (nI j)] c_G_guests_2 lk_G_guests_102 (po_5 _ _) rfl rfl rfl (Nat.le_of_ble_eq_true rfl) (by first | decide | omega) (Nat.le_of_ble_eq_true rfl) ?_
      refine sp_shelf hj ?_
      show PW _ _ _ 5 [some (.ref 5), some (.int (nI j)), some (.int a2), some (.int (nI N)), none, none, none, none] [.ref (58 + 2 * j)] (E x y)
      refine PW_astore (i := 4) (L2 := [some (.ref 5), some (.int (nI j)), some (.int a2), some (.int (nI N)), some (.ref (58 + 2 * j)), none, none, none]) c_G_guests_5 (Nat.le_of_ble_eq_true rfl) rfl rfl ?_
      refine PW_aload c_G_guests_7 rfl ?_
      refine PW_ifnull c_G_guests_9 ?_
      refine PW_iload_n c_G_guests_12 rfl ?_
      refine PW_iconst (v := 1) c_G_guests_13 (by decide) ?_
      refine PW_icmp_lt c_G_guests_14 (fun h0 => absurd h0 (Int32.not_lt.mpr hc1.1)) (fun h0 => ?_)
      refine PW_iload_n c_G_guests_17 rfl ?_
      refine PW_bipush (v := 10) c_G_guests_18 (by decide) ?_
      refine PW_icmp_le c_G_guests_20 (fun h1 => ?_) (fun h1 => absurd hc1.2 h1)
      refine PW_aload c_G_guests_25 rfl ?_
      refine PW_V0 (d2 := 1) (st := []) [] c_G_guests_27 lk_G_guests_106 (sh_po _ _ hj) rfl rfl rfl (Nat.le_of_ble_eq_true rfl) (by first | decide | omega) (Nat.le_of_ble_eq_true rfl) ?_
      show PW _ _ _ 0 [some (.ref (58 + 2 * j))] [] (E x y)
      refine PW_aload_n c_F_bytesRefusal_0 rfl ?_
      refine PW_V0 (d2 := 0) (st := []) [] c_F_bytesRefusal_1 lk_F_bytesRefusal_37 (sh_po _ _ hj) rfl rfl rfl (Nat.le_of_ble_eq_true rfl) (by first | decide | omega) (Nat.le_of_ble_eq_true rfl) ?_
      refine sp_F_isEmpty hj  ?_
      show PW _ _ _ 4 [some (.ref (58 + 2 * j))] [.int (b2i (x.1 ((58 + 2 * j) * 8 + 1) = 0))] (E x y)
      refine PW_if_eq c_F_bytesRefusal_4 (fun _ => ?_) (fun h2 => absurd (b2i_n0.mp h2) p3)
      refine PW_aload_n c_F_bytesRefusal_10 rfl ?_
      refine PW_V0 (d2 := 0) (st := []) [] c_F_bytesRefusal_11 lk_F_bytesRefusal_41 (sh_po _ _ hj) rfl rfl rfl (Nat.le_of_ble_eq_true rfl) (by first | decide | omega) (Nat.le_of_ble_eq_true rfl) ?_
      refine sp_F_holdsBytes hj  ?_
      show PW _ _ _ 14 [some (.ref (58 + 2 * j))] [.int (b2i (x.1 ((58 + 2 * j) * 8 + 1) = 2 ∧ x.1 ((58 + 2 * j) * 8 + 3) = 0))] (E x y)
      refine PW_if_eq c_F_bytesRefusal_14 (fun h3 => absurd p4 (b2i_0.mp h3)) (fun _ => ?_)
      refine PW_iconst (v := 0) c_F_bytesRefusal_17 (by decide) ?_
      refine PW_goto c_F_bytesRefusal_18 ?_
      refine PW_ireturn (ty := .int) c_F_bytesRefusal_23 rfl rfl ?_
      show PW _ _ _ 30 [some (.ref 5), some (.int (nI j)), some (.int a2), some (.int (nI N)), some (.ref (58 + 2 * j)), none, none, none] [.int 0] (E x y)
      refine PW_bipush (v := -12) c_G_guests_30 (by decide) ?_
      refine PW_icmp_ne c_G_guests_32 (fun _ => ?_) (fun h4 => absurd h4 (by decide))
      refine PW_iconst (v := 0) c_G_guests_38 (by decide) ?_
      refine PW_istore (i := 5) (L2 := [some (.ref 5), some (.int (nI j)), some (.int a2), some (.int (nI N)), some (.ref (58 + 2 * j)), some (.int 0), none, none]) c_G_guests_39 (Nat.le_of_ble_eq_true rfl) rfl rfl ?_
      refine PW_iconst (v := 0) c_G_guests_41 (by decide) ?_
      refine PW_istore (i := 6) (L2 := [some (.ref 5), some (.int (nI j)), some (.int a2), some (.int (nI N)), some (.ref (58 + 2 * j)), some (.int 0), some (.int 0), none]) c_G_guests_42 (Nat.le_of_ble_eq_true rfl) rfl rfl ?_
      refine PW.eqL ?_ rfl rfl (H1 (l7 := none) h)
      rfl
    · refine PW.deeper (k := (2, 0, 0, z)) (Nat.le_of_ble_eq_true rfl) (Nat.le_refl _) (Nat.le_refl _) ?_
      refine PW_iload_n c_M_guests_0 rfl ?_
      refine PW_S0 (d2 := 1) (st := []) [.int (nI j)] c_M_guests_1 lk_M_guests_143 rfl rfl rfl (Nat.le_of_ble_eq_true rfl) (by first | decide | omega) (Nat.le_of_ble_eq_true rfl) ?_
      refine sp_M_isShelf2  ?_
      show PW _ _ _ 4 [some (.ref 70), some (.int (nI j)), some (.int a2), some (.int (nI N)), none, none, none, none] [.int (b2i (0 ≤ (nI j).toInt ∧ (nI j).toInt < 6))] (E (X') y)
      refine PW_if_eq c_M_guests_4 (fun h0 => absurd hjs (b2i_0.mp h0)) (fun _ => ?_)
      refine PW_iload_n c_M_guests_7 rfl ?_
      refine PW_iconst (v := 1) c_M_guests_8 (by decide) ?_
      refine PW_bipush (v := 10) c_M_guests_9 (by decide) ?_
      refine PW_S0 (d2 := 0) (st := []) [.int (nI N), .int 1, .int 10] c_M_guests_11 lk_M_guests_131 rfl rfl rfl (Nat.le_of_ble_eq_true rfl) (by first | decide | omega) (Nat.le_of_ble_eq_true rfl) ?_
      refine sp_M_within  ?_
      show PW _ _ _ 14 [some (.ref 70), some (.int (nI j)), some (.int a2), some (.int (nI N)), none, none, none, none] [.int (b2i ((1 : Int32) ≤ (nI N) ∧ (nI N) ≤ (10 : Int32)))] (E (X') y)
      refine PW_if_ne c_M_guests_14 (fun _ => ?_) (fun h1 => absurd hc1 (b2i_0.mp h1))
      refine PW_aload_n c_M_guests_19 rfl ?_
      refine PW_get (v := .ref 104) c_M_guests_20 fl_M_111 (gf_70_53 _ _) ?_
      refine PW_iload_n c_M_guests_23 rfl ?_
      refine PW_iald (j := j) c_M_guests_24 (ar_104 _ _) (vp_in_nI hj (by decide)) (nI_clamp (by omega)) ?_
      show PW _ _ _ 25 [some (.ref 70), some (.int (nI j)), some (.int a2), some (.int (nI N)), none, none, none, none] [.int ((y.2.1 104) j)] (E (X') y)
      refine PW_iconst (v := -1) c_M_guests_25 (by decide) ?_
      refine PW_icmp_eq c_M_guests_26 (fun h2 => absurd h2 p1) (fun h2 => ?_)
      refine PW_aload_n c_M_guests_29 rfl ?_
      refine PW_get (v := .ref 104) c_M_guests_30 fl_M_111 (gf_70_53 _ _) ?_
      refine PW_iload_n c_M_guests_33 rfl ?_
      refine PW_iald (j := j) c_M_guests_34 (ar_104 _ _) (vp_in_nI hj (by decide)) (nI_clamp (by omega)) ?_
      show PW _ _ _ 35 [some (.ref 70), some (.int (nI j)), some (.int a2), some (.int (nI N)), none, none, none, none] [.int ((y.2.1 104) j)] (E (X') y)
      refine PW_bipush (v := -2) c_M_guests_35 (by decide) ?_
      refine PW_icmp_eq c_M_guests_37 (fun h3 => ?_) (fun h3 => absurd p2 h3)
      refine PW_aload_n c_M_guests_43 rfl ?_
      refine PW_get (v := .ref 104) c_M_guests_44 fl_M_111 (gf_70_53 _ _) ?_
      refine PW_iload_n c_M_guests_47 rfl ?_
      refine PW_iald (j := j) c_M_guests_48 (ar_104 _ _) (vp_in_nI hj (by decide)) (nI_clamp (by omega)) ?_
      show PW _ _ _ 49 [some (.ref 70), some (.int (nI j)), some (.int a2), some (.int (nI N)), none, none, none, none] [.int ((y.2.1 104) j)] (E (X') y)
      refine PW_iconst (v := -1) c_M_guests_49 (by decide) ?_
      refine PW_icmp_ne c_M_guests_50 (fun h4 => ?_) (fun h4 => absurd h4 p1)
      refine PW_iconst (v := 0) c_M_guests_55 (by decide) ?_
      refine PW_istore (i := 4) (L2 := [some (.ref 70), some (.int (nI j)), some (.int a2), some (.int (nI N)), some (.int 0), none, none, none]) c_M_guests_56 (Nat.le_of_ble_eq_true rfl) rfl rfl ?_
      refine PW.eqL ?_ rfl rfl (H2 (l5 := none) (l6 := none) (l7 := none) h)
      rfl
