set_option maxHeartbeats 4000000 in
theorem op_order {t : Nat} {x y : XS} {a1 : Int32} (hI : INV t x y) (ht : t < 512) : ∃ (r : Int32) (x' y' : XS), INV (t + 1) x' y' ∧ (∀ {z : ZS} {post : Option Value → List PE → Prop}, post (some (.int r)) (E x' y) → PW (90, 0, 0, z) m_G_order post 0 [some (.ref 5), some (.int a1), none, none, none, none, none, none, none, none, none, none] [] (E x y)) ∧ (∀ {z : ZS} {post : Option Value → List PE → Prop}, post (some (.int r)) (E x' y') → PW (90, 0, 0, z) m_M_order post 0 [some (.ref 70), some (.int a1), none, none, none, none, none] [] (E x' y)) := by
  obtain ⟨hg, hc, ht0, hl, hd, hb, hs⟩ := id hI

  by_cases hc0 : a1 < 0
  · refine ⟨-1, x, y, ?_, fun {z post} h => ?_, fun {z post} h => ?_⟩
    · exact INV_step hI
    · refine PW.deeper (k := (3, 0, 0, z)) (Nat.le_of_ble_eq_true rfl) (Nat.le_refl _) (Nat.le_refl _) ?_
      refine PW_aload_n c_G_order_0 rfl ?_
      refine PW_iload_n c_G_order_1 rfl ?_
      refine PW_V0 (d2 := 1) (st := []) [.int a1] c_G_order_2 lk_G_order_209 (po_5 _ _) rfl rfl rfl (Nat.le_of_ble_eq_true rfl) (by first | decide | omega) (Nat.le_of_ble_eq_true rfl) ?_
      refine sp_G_firstShelf_no (fun q => absurd hc0 q) ?_
      show PW _ _ _ 5 [some (.ref 5), some (.int a1), none, none, none, none, none, none, none, none, none, none] [.null] (E x y)
      refine PW_astore_nN (i := 2) (L2 := [some (.ref 5), some (.int a1), some (.null), none, none, none, none, none, none, none, none, none]) c_G_order_5 rfl (Nat.le_of_ble_eq_true rfl) rfl rfl ?_
      refine PW_aload_n c_G_order_6 rfl ?_
      refine PW_iload_n c_G_order_7 rfl ?_
      refine PW_V0 (d2 := 1) (st := []) [.int a1] c_G_order_8 lk_G_order_212 (po_5 _ _) rfl rfl rfl (Nat.le_of_ble_eq_true rfl) (by first | decide | omega) (Nat.le_of_ble_eq_true rfl) ?_
      refine sp_G_secondShelf_no (fun q => absurd hc0 q) ?_
      show PW _ _ _ 11 [some (.ref 5), some (.int a1), some (.null), none, none, none, none, none, none, none, none, none] [.null] (E x y)
      refine PW_astore_nN (i := 3) (L2 := [some (.ref 5), some (.int a1), some (.null), some (.null), none, none, none, none, none, none, none, none]) c_G_order_11 rfl (Nat.le_of_ble_eq_true rfl) rfl rfl ?_
      refine PW_aload_nN c_G_order_12 rfl ?_
      refine PW_ifnullN c_G_order_13 ?_
      refine PW_iconst (v := -1) c_G_order_20 (by decide) ?_
      refine PW_ireturn (ty := .int) c_G_order_21 rfl rfl ?_
      exact h
    · refine PW.deeper (k := (2, 0, 0, z)) (Nat.le_of_ble_eq_true rfl) (Nat.le_refl _) (Nat.le_refl _) ?_
      refine PW_iload_n c_M_order_0 rfl ?_
      refine PW_if_lt c_M_order_1 (fun h0 => ?_) (fun h0 => absurd hc0 h0)
      refine PW_iconst (v := -1) c_M_order_24 (by decide) ?_
      refine PW_ireturn (ty := .int) c_M_order_25 rfl rfl ?_
      exact h
  have hs0 : 0 ≤ a1.toInt := by simp only [Int32.not_lt, Int32.le_iff_toInt_le, tiA] at hc0; omega
  obtain ⟨eA, eB⟩ := ss_ex hs0
  by_cases hc1 : ¬ (0 ≤ (a1 / 10).toInt ∧ (a1 / 10).toInt < 6)
  · by_cases hc2 : ¬ (0 ≤ (a1 - a1 / 10 * 10).toInt ∧ (a1 - a1 / 10 * 10).toInt < 6)
    · refine ⟨-1, x, y, ?_, fun {z post} h => ?_, fun {z post} h => ?_⟩
      · exact INV_step hI
      · refine PW.deeper (k := (3, 0, 0, z)) (Nat.le_of_ble_eq_true rfl) (Nat.le_refl _) (Nat.le_refl _) ?_
        refine PW_aload_n c_G_order_0 rfl ?_
        refine PW_iload_n c_G_order_1 rfl ?_
        refine PW_V0 (d2 := 1) (st := []) [.int a1] c_G_order_2 lk_G_order_209 (po_5 _ _) rfl rfl rfl (Nat.le_of_ble_eq_true rfl) (by first | decide | omega) (Nat.le_of_ble_eq_true rfl) ?_
        refine sp_G_firstShelf_no (fun _ => hc1) ?_
        show PW _ _ _ 5 [some (.ref 5), some (.int a1), none, none, none, none, none, none, none, none, none, none] [.null] (E x y)
        refine PW_astore_nN (i := 2) (L2 := [some (.ref 5), some (.int a1), some (.null), none, none, none, none, none, none, none, none, none]) c_G_order_5 rfl (Nat.le_of_ble_eq_true rfl) rfl rfl ?_
        refine PW_aload_n c_G_order_6 rfl ?_
        refine PW_iload_n c_G_order_7 rfl ?_
        refine PW_V0 (d2 := 1) (st := []) [.int a1] c_G_order_8 lk_G_order_212 (po_5 _ _) rfl rfl rfl (Nat.le_of_ble_eq_true rfl) (by first | decide | omega) (Nat.le_of_ble_eq_true rfl) ?_
        refine sp_G_secondShelf_no (fun _ => hc2) ?_
        show PW _ _ _ 11 [some (.ref 5), some (.int a1), some (.null), none, none, none, none, none, none, none, none, none] [.null] (E x y)
        refine PW_astore_nN (i := 3) (L2 := [some (.ref 5), some (.int a1), some (.null), some (.null), none, none, none, none, none, none, none, none]) c_G_order_11 rfl (Nat.le_of_ble_eq_true rfl) rfl rfl ?_
        refine PW_aload_nN c_G_order_12 rfl ?_
        refine PW_ifnullN c_G_order_13 ?_
        refine PW_iconst (v := -1) c_G_order_20 (by decide) ?_
        refine PW_ireturn (ty := .int) c_G_order_21 rfl rfl ?_
        exact h
      · refine PW.deeper (k := (2, 0, 0, z)) (Nat.le_of_ble_eq_true rfl) (Nat.le_refl _) (Nat.le_refl _) ?_
        refine PW_iload_n c_M_order_0 rfl ?_
        refine PW_if_lt c_M_order_1 (fun h0 => absurd h0 hc0) (fun h0 => ?_)
        refine PW_iload_n c_M_order_4 rfl ?_
        refine PW_bipush (v := 10) c_M_order_5 (by decide) ?_
        refine PW_idiv c_M_order_7 (by decide) ?_
        refine PW_S0 (d2 := 1) (st := []) [.int (a1 / 10)] c_M_order_8 lk_M_order_143 rfl rfl rfl (Nat.le_of_ble_eq_true rfl) (by first | decide | omega) (Nat.le_of_ble_eq_true rfl) ?_
        refine sp_M_isShelf2  ?_
        show PW _ _ _ 11 [some (.ref 70), some (.int a1), none, none, none, none, none] [.int (b2i (0 ≤ (a1 / 10).toInt ∧ (a1 / 10).toInt < 6))] (E x y)
        refine PW_if_eq c_M_order_11 (fun _ => ?_) (fun h1 => absurd (b2i_n0.mp h1) hc1)
        refine PW_iconst (v := -1) c_M_order_24 (by decide) ?_
        refine PW_ireturn (ty := .int) c_M_order_25 rfl rfl ?_
        exact h
    replace hc2 : 0 ≤ (a1 - a1 / 10 * 10).toInt ∧ (a1 - a1 / 10 * 10).toInt < 6 := Decidable.not_not.mp hc2
    obtain ⟨qj, hqj, e2⟩ : ∃ qj : Nat, qj < 6 ∧ a1 - a1 / 10 * 10 = nI qj := ⟨(a1 - a1 / 10 * 10).toInt.toNat, by omega, ss_nI (by omega) (by omega)⟩
    refine ⟨-1, x, y, ?_, fun {z post} h => ?_, fun {z post} h => ?_⟩
    · exact INV_step hI
    · refine PW.deeper (k := (3, 0, 0, z)) (Nat.le_of_ble_eq_true rfl) (Nat.le_refl _) (Nat.le_refl _) ?_
      refine PW_aload_n c_G_order_0 rfl ?_
      refine PW_iload_n c_G_order_1 rfl ?_
      refine PW_V0 (d2 := 1) (st := []) [.int a1] c_G_order_2 lk_G_order_209 (po_5 _ _) rfl rfl rfl (Nat.le_of_ble_eq_true rfl) (by first | decide | omega) (Nat.le_of_ble_eq_true rfl) ?_
      refine sp_G_firstShelf_no (fun _ => hc1) ?_
      show PW _ _ _ 5 [some (.ref 5), some (.int a1), none, none, none, none, none, none, none, none, none, none] [.null] (E x y)
      refine PW_astore_nN (i := 2) (L2 := [some (.ref 5), some (.int a1), some (.null), none, none, none, none, none, none, none, none, none]) c_G_order_5 rfl (Nat.le_of_ble_eq_true rfl) rfl rfl ?_
      refine PW_aload_n c_G_order_6 rfl ?_
      refine PW_iload_n c_G_order_7 rfl ?_
      refine PW_V0 (d2 := 1) (st := []) [.int a1] c_G_order_8 lk_G_order_212 (po_5 _ _) rfl rfl rfl (Nat.le_of_ble_eq_true rfl) (by first | decide | omega) (Nat.le_of_ble_eq_true rfl) ?_
      refine sp_G_secondShelf hc0 hqj e2 ?_
      show PW _ _ _ 11 [some (.ref 5), some (.int a1), some (.null), none, none, none, none, none, none, none, none, none] [.ref (58 + 2 * qj)] (E x y)
      refine PW_astore_n (i := 3) (L2 := [some (.ref 5), some (.int a1), some (.null), some (.ref (58 + 2 * qj)), none, none, none, none, none, none, none, none]) c_G_order_11 rfl (Nat.le_of_ble_eq_true rfl) rfl rfl ?_
      refine PW_aload_nN c_G_order_12 rfl ?_
      refine PW_ifnullN c_G_order_13 ?_
      refine PW_iconst (v := -1) c_G_order_20 (by decide) ?_
      refine PW_ireturn (ty := .int) c_G_order_21 rfl rfl ?_
      exact h
    · refine PW.deeper (k := (2, 0, 0, z)) (Nat.le_of_ble_eq_true rfl) (Nat.le_refl _) (Nat.le_refl _) ?_
      refine PW_iload_n c_M_order_0 rfl ?_
      refine PW_if_lt c_M_order_1 (fun h0 => absurd h0 hc0) (fun h0 => ?_)
      refine PW_iload_n c_M_order_4 rfl ?_
      refine PW_bipush (v := 10) c_M_order_5 (by decide) ?_
      refine PW_idiv c_M_order_7 (by decide) ?_
      refine PW_S0 (d2 := 1) (st := []) [.int (a1 / 10)] c_M_order_8 lk_M_order_143 rfl rfl rfl (Nat.le_of_ble_eq_true rfl) (by first | decide | omega) (Nat.le_of_ble_eq_true rfl) ?_
      refine sp_M_isShelf2  ?_
      show PW _ _ _ 11 [some (.ref 70), some (.int a1), none, none, none, none, none] [.int (b2i (0 ≤ (a1 / 10).toInt ∧ (a1 / 10).toInt < 6))] (E x y)
      refine PW_if_eq c_M_order_11 (fun _ => ?_) (fun h1 => absurd (b2i_n0.mp h1) hc1)
      refine PW_iconst (v := -1) c_M_order_24 (by decide) ?_
      refine PW_ireturn (ty := .int) c_M_order_25 rfl rfl ?_
      exact h
  replace hc1 : 0 ≤ (a1 / 10).toInt ∧ (a1 / 10).toInt < 6 := Decidable.not_not.mp hc1
  obtain ⟨pj, hpj, e1⟩ : ∃ pj : Nat, pj < 6 ∧ a1 / 10 = nI pj := ⟨(a1 / 10).toInt.toNat, by omega, ss_nI (by omega) (by omega)⟩
  by_cases hc2 : ¬ (0 ≤ (a1 - a1 / 10 * 10).toInt ∧ (a1 - a1 / 10 * 10).toInt < 6)
  · refine ⟨-1, x, y, ?_, fun {z post} h => ?_, fun {z post} h => ?_⟩
    · exact INV_step hI
    · refine PW.deeper (k := (3, 0, 0, z)) (Nat.le_of_ble_eq_true rfl) (Nat.le_refl _) (Nat.le_refl _) ?_
      refine PW_aload_n c_G_order_0 rfl ?_
      refine PW_iload_n c_G_order_1 rfl ?_
      refine PW_V0 (d2 := 1) (st := []) [.int a1] c_G_order_2 lk_G_order_209 (po_5 _ _) rfl rfl rfl (Nat.le_of_ble_eq_true rfl) (by first | decide | omega) (Nat.le_of_ble_eq_true rfl) ?_
      refine sp_G_firstShelf hc0 hpj e1 ?_
      show PW _ _ _ 5 [some (.ref 5), some (.int a1), none, none, none, none, none, none, none, none, none, none] [.ref (58 + 2 * pj)] (E x y)
      refine PW_astore_n (i := 2) (L2 := [some (.ref 5), some (.int a1), some (.ref (58 + 2 * pj)), none, none, none, none, none, none, none, none, none]) c_G_order_5 rfl (Nat.le_of_ble_eq_true rfl) rfl rfl ?_
      refine PW_aload_n c_G_order_6 rfl ?_
      refine PW_iload_n c_G_order_7 rfl ?_
      refine PW_V0 (d2 := 1) (st := []) [.int a1] c_G_order_8 lk_G_order_212 (po_5 _ _) rfl rfl rfl (Nat.le_of_ble_eq_true rfl) (by first | decide | omega) (Nat.le_of_ble_eq_true rfl) ?_
      refine sp_G_secondShelf_no (fun _ => hc2) ?_
      show PW _ _ _ 11 [some (.ref 5), some (.int a1), some (.ref (58 + 2 * pj)), none, none, none, none, none, none, none, none, none] [.null] (E x y)
      refine PW_astore_nN (i := 3) (L2 := [some (.ref 5), some (.int a1), some (.ref (58 + 2 * pj)), some (.null), none, none, none, none, none, none, none, none]) c_G_order_11 rfl (Nat.le_of_ble_eq_true rfl) rfl rfl ?_
      refine PW_aload_n c_G_order_12 rfl ?_
      refine PW_ifnull c_G_order_13 ?_
      refine PW_aload_nN c_G_order_16 rfl ?_
      refine PW_ifnonnullN c_G_order_17 ?_
      refine PW_iconst (v := -1) c_G_order_20 (by decide) ?_
      refine PW_ireturn (ty := .int) c_G_order_21 rfl rfl ?_
      exact h
    · refine PW.deeper (k := (2, 0, 0, z)) (Nat.le_of_ble_eq_true rfl) (Nat.le_refl _) (Nat.le_refl _) ?_
      refine PW_iload_n c_M_order_0 rfl ?_
      refine PW_if_lt c_M_order_1 (fun h0 => absurd h0 hc0) (fun h0 => ?_)
      refine PW_iload_n c_M_order_4 rfl ?_
      refine PW_bipush (v := 10) c_M_order_5 (by decide) ?_
      refine PW_idiv c_M_order_7 (by decide) ?_
      refine PW_S0 (d2 := 1) (st := []) [.int (a1 / 10)] c_M_order_8 lk_M_order_143 rfl rfl rfl (Nat.le_of_ble_eq_true rfl) (by first | decide | omega) (Nat.le_of_ble_eq_true rfl) ?_
      refine sp_M_isShelf2  ?_
      show PW _ _ _ 11 [some (.ref 70), some (.int a1), none, none, none, none, none] [.int (b2i (0 ≤ (a1 / 10).toInt ∧ (a1 / 10).toInt < 6))] (E x y)
      refine PW_if_eq c_M_order_11 (fun h1 => absurd hc1 (b2i_0.mp h1)) (fun _ => ?_)
      refine PW_iload_n c_M_order_14 rfl ?_
      refine PW_bipush (v := 10) c_M_order_15 (by decide) ?_
      refine PW_irem c_M_order_17 (by decide) ?_
      refine PW_S0 (d2 := 1) (st := []) [.int (a1 - a1 / 10 * 10)] c_M_order_18 lk_M_order_143 rfl rfl rfl (Nat.le_of_ble_eq_true rfl) (by first | decide | omega) (Nat.le_of_ble_eq_true rfl) ?_
      refine sp_M_isShelf2  ?_
      show PW _ _ _ 21 [some (.ref 70), some (.int a1), none, none, none, none, none] [.int (b2i (0 ≤ (a1 - a1 / 10 * 10).toInt ∧ (a1 - a1 / 10 * 10).toInt < 6))] (E x y)
      refine PW_if_ne c_M_order_21 (fun h2 => absurd (b2i_n0.mp h2) hc2) (fun _ => ?_)
      refine PW_iconst (v := -1) c_M_order_24 (by decide) ?_
      refine PW_ireturn (ty := .int) c_M_order_25 rfl rfl ?_
      exact h
  replace hc2 : 0 ≤ (a1 - a1 / 10 * 10).toInt ∧ (a1 - a1 / 10 * 10).toInt < 6 := Decidable.not_not.mp hc2
  obtain ⟨qj, hqj, e2⟩ : ∃ qj : Nat, qj < 6 ∧ a1 - a1 / 10 * 10 = nI qj := ⟨(a1 - a1 / 10 * 10).toInt.toNat, by omega, ss_nI (by omega) (by omega)⟩
  rcases sh_cases (hs pj hpj) with ⟨p1, p2⟩ | ⟨p1, p2, p3, p4⟩ | ⟨p1, p2, p3, p4, n, hn, p5, p6, hP⟩
  · refine ⟨-11, x, y, ?_, fun {z post} h => ?_, fun {z post} h => ?_⟩
    · exact INV_step hI
    · refine PW.deeper (k := (3, 0, 0, z)) (Nat.le_of_ble_eq_true rfl) (Nat.le_refl _) (Nat.le_refl _) ?_
      refine PW_aload_n c_G_order_0 rfl ?_
      refine PW_iload_n c_G_order_1 rfl ?_
      refine PW_V0 (d2 := 1) (st := []) [.int a1] c_G_order_2 lk_G_order_209 (po_5 _ _) rfl rfl rfl (Nat.le_of_ble_eq_true rfl) (by first | decide | omega) (Nat.le_of_ble_eq_true rfl) ?_
      refine sp_G_firstShelf hc0 hpj e1 ?_
      show PW _ _ _ 5 [some (.ref 5), some (.int a1), none, none, none, none, none, none, none, none, none, none] [.ref (58 + 2 * pj)] (E x y)
      refine PW_astore_n (i := 2) (L2 := [some (.ref 5), some (.int a1), some (.ref (58 + 2 * pj)), none, none, none, none, none, none, none, none, none]) c_G_order_5 rfl (Nat.le_of_ble_eq_true rfl) rfl rfl ?_
      refine PW_aload_n c_G_order_6 rfl ?_
      refine PW_iload_n c_G_order_7 rfl ?_
      refine PW_V0 (d2 := 1) (st := []) [.int a1] c_G_order_8 lk_G_order_212 (po_5 _ _) rfl rfl rfl (Nat.le_of_ble_eq_true rfl) (by first | decide | omega) (Nat.le_of_ble_eq_true rfl) ?_
      refine sp_G_secondShelf hc0 hqj e2 ?_
      show PW _ _ _ 11 [some (.ref 5), some (.int a1), some (.ref (58 + 2 * pj)), none, none, none, none, none, none, none, none, none] [.ref (58 + 2 * qj)] (E x y)
      refine PW_astore_n (i := 3) (L2 := [some (.ref 5), some (.int a1), some (.ref (58 + 2 * pj)), some (.ref (58 + 2 * qj)), none, none, none, none, none, none, none, none]) c_G_order_11 rfl (Nat.le_of_ble_eq_true rfl) rfl rfl ?_
      refine PW_aload_n c_G_order_12 rfl ?_
      refine PW_ifnull c_G_order_13 ?_
      refine PW_aload_n c_G_order_16 rfl ?_
      refine PW_ifnonnull c_G_order_17 ?_
      refine PW_aload_n c_G_order_22 rfl ?_
      refine PW_aload_n c_G_order_23 rfl ?_
      refine PW_S0 (d2 := 1) (st := []) [.ref (58 + 2 * pj), .ref (58 + 2 * qj)] c_G_order_24 lk_G_order_215 rfl rfl rfl (Nat.le_of_ble_eq_true rfl) (by first | decide | omega) (Nat.le_of_ble_eq_true rfl) ?_
      show PW _ _ _ 0 [some (.ref (58 + 2 * pj)), some (.ref (58 + 2 * qj))] [] (E x y)
      refine PW_aload_n c_G_refusalOfBoth_0 rfl ?_
      refine PW_V0 (d2 := 0) (st := []) [] c_G_refusalOfBoth_1 lk_G_refusalOfBoth_339 (sh_po _ _ hpj) rfl rfl rfl (Nat.le_of_ble_eq_true rfl) (by first | decide | omega) (Nat.le_of_ble_eq_true rfl) ?_
      refine sp_F_isEmpty hpj  ?_
      show PW _ _ _ 4 [some (.ref (58 + 2 * pj)), some (.ref (58 + 2 * qj))] [.int (b2i (x.1 ((58 + 2 * pj) * 8 + 1) = 0))] (E x y)
      refine PW_if_ne c_G_refusalOfBoth_4 (fun _ => ?_) (fun h0 => absurd p2 (b2i_0.mp h0))
      refine PW_bipush (v := -11) c_G_refusalOfBoth_14 (by decide) ?_
      refine PW_ireturn (ty := .int) c_G_refusalOfBoth_16 rfl rfl ?_
      show PW _ _ _ 27 [some (.ref 5), some (.int a1), some (.ref (58 + 2 * pj)), some (.ref (58 + 2 * qj)), none, none, none, none, none, none, none, none] [.int (-11)] (E x y)
      refine PW_istore (i := 4) (L2 := [some (.ref 5), some (.int a1), some (.ref (58 + 2 * pj)), some (.ref (58 + 2 * qj)), some (.int (-11)), none, none, none, none, none, none, none]) c_G_order_27 (Nat.le_of_ble_eq_true rfl) rfl rfl ?_
      refine PW_iload c_G_order_29 rfl ?_
      refine PW_if_eq c_G_order_31 (fun h1 => absurd h1 (by decide)) (fun _ => ?_)
      refine PW_iload c_G_order_34 rfl ?_
      refine PW_ireturn (ty := .int) c_G_order_36 rfl rfl ?_
      exact h
    · refine PW.deeper (k := (2, 0, 0, z)) (Nat.le_of_ble_eq_true rfl) (Nat.le_refl _) (Nat.le_refl _) ?_
      refine PW_iload_n c_M_order_0 rfl ?_
      refine PW_if_lt c_M_order_1 (fun h0 => absurd h0 hc0) (fun h0 => ?_)
      refine PW_iload_n c_M_order_4 rfl ?_
      refine PW_bipush (v := 10) c_M_order_5 (by decide) ?_
      refine PW_idiv c_M_order_7 (by decide) ?_
      refine PW_S0 (d2 := 1) (st := []) [.int (a1 / 10)] c_M_order_8 lk_M_order_143 rfl rfl rfl (Nat.le_of_ble_eq_true rfl) (by first | decide | omega) (Nat.le_of_ble_eq_true rfl) ?_
      refine sp_M_isShelf2  ?_
      show PW _ _ _ 11 [some (.ref 70), some (.int a1), none, none, none, none, none] [.int (b2i (0 ≤ (a1 / 10).toInt ∧ (a1 / 10).toInt < 6))] (E x y)
      refine PW_if_eq c_M_order_11 (fun h1 => absurd hc1 (b2i_0.mp h1)) (fun _ => ?_)
      refine PW_iload_n c_M_order_14 rfl ?_
      refine PW_bipush (v := 10) c_M_order_15 (by decide) ?_
      refine PW_irem c_M_order_17 (by decide) ?_
      refine PW_S0 (d2 := 1) (st := []) [.int (a1 - a1 / 10 * 10)] c_M_order_18 lk_M_order_143 rfl rfl rfl (Nat.le_of_ble_eq_true rfl) (by first | decide | omega) (Nat.le_of_ble_eq_true rfl) ?_
      refine sp_M_isShelf2  ?_
      show PW _ _ _ 21 [some (.ref 70), some (.int a1), none, none, none, none, none] [.int (b2i (0 ≤ (a1 - a1 / 10 * 10).toInt ∧ (a1 - a1 / 10 * 10).toInt < 6))] (E x y)
      refine PW_if_ne c_M_order_21 (fun _ => ?_) (fun h2 => absurd hc2 (b2i_0.mp h2))
      refine PW_aload_n c_M_order_26 rfl ?_
      refine PW_get (v := .ref 104) c_M_order_27 fl_M_111 (gf_70_53 _ _) ?_
      refine PW_iload_n c_M_order_30 rfl ?_
      refine PW_bipush (v := 10) c_M_order_31 (by decide) ?_
      refine PW_idiv c_M_order_33 (by decide) ?_
      refine PW_iald (j := pj) c_M_order_34 (ar_104 _ _) (by rw [e1]; exact vp_in_nI hpj (by decide)) (by rw [e1]; exact nI_clamp (by omega)) ?_
      show PW _ _ _ 35 [some (.ref 70), some (.int a1), none, none, none, none, none] [.int ((y.2.1 104) pj)] (E x y)
      refine PW_iconst (v := -1) c_M_order_35 (by decide) ?_
      refine PW_icmp_eq c_M_order_36 (fun h3 => ?_) (fun h3 => absurd p1 h3)
      refine PW_bipush (v := -11) c_M_order_52 (by decide) ?_
      refine PW_ireturn (ty := .int) c_M_order_54 rfl rfl ?_
      exact h
  · rcases sh_cases (hs qj hqj) with ⟨q1, q2⟩ | ⟨q1, q2, q3, q4⟩ | ⟨q1, q2, q3, q4, m, hm, q5, q6, hQ⟩
    · refine ⟨-11, x, y, ?_, fun {z post} h => ?_, fun {z post} h => ?_⟩
      · exact INV_step hI
      · refine PW.deeper (k := (3, 0, 0, z)) (Nat.le_of_ble_eq_true rfl) (Nat.le_refl _) (Nat.le_refl _) ?_
        refine PW_aload_n c_G_order_0 rfl ?_
        refine PW_iload_n c_G_order_1 rfl ?_
        refine PW_V0 (d2 := 1) (st := []) [.int a1] c_G_order_2 lk_G_order_209 (po_5 _ _) rfl rfl rfl (Nat.le_of_ble_eq_true rfl) (by first | decide | omega) (Nat.le_of_ble_eq_true rfl) ?_
        refine sp_G_firstShelf hc0 hpj e1 ?_
        show PW _ _ _ 5 [some (.ref 5), some (.int a1), none, none, none, none, none, none, none, none, none, none] [.ref (58 + 2 * pj)] (E x y)
        refine PW_astore_n (i := 2) (L2 := [some (.ref 5), some (.int a1), some (.ref (58 + 2 * pj)), none, none, none, none, none, none, none, none, none]) c_G_order_5 rfl (Nat.le_of_ble_eq_true rfl) rfl rfl ?_
        refine PW_aload_n c_G_order_6 rfl ?_
        refine PW_iload_n c_G_order_7 rfl ?_
        refine PW_V0 (d2 := 1) (st := []) [.int a1] c_G_order_8 lk_G_order_212 (po_5 _ _) rfl rfl rfl (Nat.le_of_ble_eq_true rfl) (by first | decide | omega) (Nat.le_of_ble_eq_true rfl) ?_
        refine sp_G_secondShelf hc0 hqj e2 ?_
        show PW _ _ _ 11 [some (.ref 5), some (.int a1), some (.ref (58 + 2 * pj)), none, none, none, none, none, none, none, none, none] [.ref (58 + 2 * qj)] (E x y)
        refine PW_astore_n (i := 3) (L2 := [some (.ref 5), some (.int a1), some (.ref (58 + 2 * pj)), some (.ref (58 + 2 * qj)), none, none, none, none, none, none, none, none]) c_G_order_11 rfl (Nat.le_of_ble_eq_true rfl) rfl rfl ?_
        refine PW_aload_n c_G_order_12 rfl ?_
        refine PW_ifnull c_G_order_13 ?_
        refine PW_aload_n c_G_order_16 rfl ?_
        refine PW_ifnonnull c_G_order_17 ?_
        refine PW_aload_n c_G_order_22 rfl ?_
        refine PW_aload_n c_G_order_23 rfl ?_
        refine PW_S0 (d2 := 1) (st := []) [.ref (58 + 2 * pj), .ref (58 + 2 * qj)] c_G_order_24 lk_G_order_215 rfl rfl rfl (Nat.le_of_ble_eq_true rfl) (by first | decide | omega) (Nat.le_of_ble_eq_true rfl) ?_
        show PW _ _ _ 0 [some (.ref (58 + 2 * pj)), some (.ref (58 + 2 * qj))] [] (E x y)
        refine PW_aload_n c_G_refusalOfBoth_0 rfl ?_
        refine PW_V0 (d2 := 0) (st := []) [] c_G_refusalOfBoth_1 lk_G_refusalOfBoth_339 (sh_po _ _ hpj) rfl rfl rfl (Nat.le_of_ble_eq_true rfl) (by first | decide | omega) (Nat.le_of_ble_eq_true rfl) ?_
        refine sp_F_isEmpty hpj  ?_
        show PW _ _ _ 4 [some (.ref (58 + 2 * pj)), some (.ref (58 + 2 * qj))] [.int (b2i (x.1 ((58 + 2 * pj) * 8 + 1) = 0))] (E x y)
        refine PW_if_ne c_G_refusalOfBoth_4 (fun h0 => absurd (b2i_n0.mp h0) p3) (fun _ => ?_)
        refine PW_aload_n c_G_refusalOfBoth_7 rfl ?_
        refine PW_V0 (d2 := 0) (st := []) [] c_G_refusalOfBoth_8 lk_G_refusalOfBoth_339 (sh_po _ _ hqj) rfl rfl rfl (Nat.le_of_ble_eq_true rfl) (by first | decide | omega) (Nat.le_of_ble_eq_true rfl) ?_
        refine sp_F_isEmpty hqj  ?_
        show PW _ _ _ 11 [some (.ref (58 + 2 * pj)), some (.ref (58 + 2 * qj))] [.int (b2i (x.1 ((58 + 2 * qj) * 8 + 1) = 0))] (E x y)
        refine PW_if_eq c_G_refusalOfBoth_11 (fun h1 => absurd q2 (b2i_0.mp h1)) (fun _ => ?_)
        refine PW_bipush (v := -11) c_G_refusalOfBoth_14 (by decide) ?_
        refine PW_ireturn (ty := .int) c_G_refusalOfBoth_16 rfl rfl ?_
        show PW _ _ _ 27 [some (.ref 5), some (.int a1), some (.ref (58 + 2 * pj)), some (.ref (58 + 2 * qj)), none, none, none, none, none, none, none, none] [.int (-11)] (E x y)
        refine PW_istore (i := 4) (L2 := [some (.ref 5), some (.int a1), some (.ref (58 + 2 * pj)), some (.ref (58 + 2 * qj)), some (.int (-11)), none, none, none, none, none, none, none]) c_G_order_27 (Nat.le_of_ble_eq_true rfl) rfl rfl ?_
        refine PW_iload c_G_order_29 rfl ?_
        refine PW_if_eq c_G_order_31 (fun h2 => absurd h2 (by decide)) (fun _ => ?_)
        refine PW_iload c_G_order_34 rfl ?_
        refine PW_ireturn (ty := .int) c_G_order_36 rfl rfl ?_
        exact h
      · refine PW.deeper (k := (2, 0, 0, z)) (Nat.le_of_ble_eq_true rfl) (Nat.le_refl _) (Nat.le_refl _) ?_
        refine PW_iload_n c_M_order_0 rfl ?_
        refine PW_if_lt c_M_order_1 (fun h0 => absurd h0 hc0) (fun h0 => ?_)
        refine PW_iload_n c_M_order_4 rfl ?_
        refine PW_bipush (v := 10) c_M_order_5 (by decide) ?_
        refine PW_idiv c_M_order_7 (by decide) ?_
        refine PW_S0 (d2 := 1) (st := []) [.int (a1 / 10)] c_M_order_8 lk_M_order_143 rfl rfl rfl (Nat.le_of_ble_eq_true rfl) (by first | decide | omega) (Nat.le_of_ble_eq_true rfl) ?_
        refine sp_M_isShelf2  ?_
        show PW _ _ _ 11 [some (.ref 70), some (.int a1), none, none, none, none, none] [.int (b2i (0 ≤ (a1 / 10).toInt ∧ (a1 / 10).toInt < 6))] (E x y)
        refine PW_if_eq c_M_order_11 (fun h1 => absurd hc1 (b2i_0.mp h1)) (fun _ => ?_)
        refine PW_iload_n c_M_order_14 rfl ?_
        refine PW_bipush (v := 10) c_M_order_15 (by decide) ?_
        refine PW_irem c_M_order_17 (by decide) ?_
        refine PW_S0 (d2 := 1) (st := []) [.int (a1 - a1 / 10 * 10)] c_M_order_18 lk_M_order_143 rfl rfl rfl (Nat.le_of_ble_eq_true rfl) (by first | decide | omega) (Nat.le_of_ble_eq_true rfl) ?_
        refine sp_M_isShelf2  ?_
        show PW _ _ _ 21 [some (.ref 70), some (.int a1), none, none, none, none, none] [.int (b2i (0 ≤ (a1 - a1 / 10 * 10).toInt ∧ (a1 - a1 / 10 * 10).toInt < 6))] (E x y)
        refine PW_if_ne c_M_order_21 (fun _ => ?_) (fun h2 => absurd hc2 (b2i_0.mp h2))
        refine PW_aload_n c_M_order_26 rfl ?_
        refine PW_get (v := .ref 104) c_M_order_27 fl_M_111 (gf_70_53 _ _) ?_
        refine PW_iload_n c_M_order_30 rfl ?_
        refine PW_bipush (v := 10) c_M_order_31 (by decide) ?_
        refine PW_idiv c_M_order_33 (by decide) ?_
        refine PW_iald (j := pj) c_M_order_34 (ar_104 _ _) (by rw [e1]; exact vp_in_nI hpj (by decide)) (by rw [e1]; exact nI_clamp (by omega)) ?_
        show PW _ _ _ 35 [some (.ref 70), some (.int a1), none, none, none, none, none] [.int ((y.2.1 104) pj)] (E x y)
        refine PW_iconst (v := -1) c_M_order_35 (by decide) ?_
        refine PW_icmp_eq c_M_order_36 (fun h3 => absurd h3 p1) (fun h3 => ?_)
        refine PW_aload_n c_M_order_39 rfl ?_
        refine PW_get (v := .ref 104) c_M_order_40 fl_M_111 (gf_70_53 _ _) ?_
        refine PW_iload_n c_M_order_43 rfl ?_
        refine PW_bipush (v := 10) c_M_order_44 (by decide) ?_
        refine PW_irem c_M_order_46 (by decide) ?_
        refine PW_iald (j := qj) c_M_order_47 (ar_104 _ _) (by rw [e2]; exact vp_in_nI hqj (by decide)) (by rw [e2]; exact nI_clamp (by omega)) ?_
        show PW _ _ _ 48 [some (.ref 70), some (.int a1), none, none, none, none, none] [.int ((y.2.1 104) qj)] (E x y)
        refine PW_iconst (v := -1) c_M_order_48 (by decide) ?_
        refine PW_icmp_ne c_M_order_49 (fun h4 => absurd h4 (not_not_intro q1)) (fun h4 => ?_)
        refine PW_bipush (v := -11) c_M_order_52 (by decide) ?_
        refine PW_ireturn (ty := .int) c_M_order_54 rfl rfl ?_
        exact h
    · refine ⟨-12, x, y, ?_, fun {z post} h => ?_, fun {z post} h => ?_⟩
      · exact INV_step hI
      · refine PW.deeper (k := (3, 0, 0, z)) (Nat.le_of_ble_eq_true rfl) (Nat.le_refl _) (Nat.le_refl _) ?_
        refine PW_aload_n c_G_order_0 rfl ?_
        refine PW_iload_n c_G_order_1 rfl ?_
        refine PW_V0 (d2 := 1) (st := []) [.int a1] c_G_order_2 lk_G_order_209 (po_5 _ _) rfl rfl rfl (Nat.le_of_ble_eq_true rfl) (by first | decide | omega) (Nat.le_of_ble_eq_true rfl) ?_
        refine sp_G_firstShelf hc0 hpj e1 ?_
        show PW _ _ _ 5 [some (.ref 5), some (.int a1), none, none, none, none, none, none, none, none, none, none] [.ref (58 + 2 * pj)] (E x y)
        refine PW_astore_n (i := 2) (L2 := [some (.ref 5), some (.int a1), some (.ref (58 + 2 * pj)), none, none, none, none, none, none, none, none, none]) c_G_order_5 rfl (Nat.le_of_ble_eq_true rfl) rfl rfl ?_
        refine PW_aload_n c_G_order_6 rfl ?_
        refine PW_iload_n c_G_order_7 rfl ?_
        refine PW_V0 (d2 := 1) (st := []) [.int a1] c_G_order_8 lk_G_order_212 (po_5 _ _) rfl rfl rfl (Nat.le_of_ble_eq_true rfl) (by first | decide | omega) (Nat.le_of_ble_eq_true rfl) ?_
        refine sp_G_secondShelf hc0 hqj e2 ?_
        show PW _ _ _ 11 [some (.ref 5), some (.int a1), some (.ref (58 + 2 * pj)), none, none, none, none, none, none, none, none, none] [.ref (58 + 2 * qj)] (E x y)
        refine PW_astore_n (i := 3) (L2 := [some (.ref 5), some (.int a1), some (.ref (58 + 2 * pj)), some (.ref (58 + 2 * qj)), none, none, none, none, none, none, none, none]) c_G_order_11 rfl (Nat.le_of_ble_eq_true rfl) rfl rfl ?_
        refine PW_aload_n c_G_order_12 rfl ?_
        refine PW_ifnull c_G_order_13 ?_
        refine PW_aload_n c_G_order_16 rfl ?_
        refine PW_ifnonnull c_G_order_17 ?_
        refine PW_aload_n c_G_order_22 rfl ?_
        refine PW_aload_n c_G_order_23 rfl ?_
        refine PW_S0 (d2 := 1) (st := []) [.ref (58 + 2 * pj), .ref (58 + 2 * qj)] c_G_order_24 lk_G_order_215 rfl rfl rfl (Nat.le_of_ble_eq_true rfl) (by first | decide | omega) (Nat.le_of_ble_eq_true rfl) ?_
        show PW _ _ _ 0 [some (.ref (58 + 2 * pj)), some (.ref (58 + 2 * qj))] [] (E x y)
        refine PW_aload_n c_G_refusalOfBoth_0 rfl ?_
        refine PW_V0 (d2 := 0) (st := []) [] c_G_refusalOfBoth_1 lk_G_refusalOfBoth_339 (sh_po _ _ hpj) rfl rfl rfl (Nat.le_of_ble_eq_true rfl) (by first | decide | omega) (Nat.le_of_ble_eq_true rfl) ?_
        refine sp_F_isEmpty hpj  ?_
        show PW _ _ _ 4 [some (.ref (58 + 2 * pj)), some (.ref (58 + 2 * qj))] [.int (b2i (x.1 ((58 + 2 * pj) * 8 + 1) = 0))] (E x y)
        refine PW_if_ne c_G_refusalOfBoth_4 (fun h0 => absurd (b2i_n0.mp h0) p3) (fun _ => ?_)
        refine PW_aload_n c_G_refusalOfBoth_7 rfl ?_
        refine PW_V0 (d2 := 0) (st := []) [] c_G_refusalOfBoth_8 lk_G_refusalOfBoth_339 (sh_po _ _ hqj) rfl rfl rfl (Nat.le_of_ble_eq_true rfl) (by first | decide | omega) (Nat.le_of_ble_eq_true rfl) ?_
        refine sp_F_isEmpty hqj  ?_
        show PW _ _ _ 11 [some (.ref (58 + 2 * pj)), some (.ref (58 + 2 * qj))] [.int (b2i (x.1 ((58 + 2 * qj) * 8 + 1) = 0))] (E x y)
        refine PW_if_eq c_G_refusalOfBoth_11 (fun _ => ?_) (fun h1 => absurd (b2i_n0.mp h1) q3)
        refine PW_aload_n c_G_refusalOfBoth_17 rfl ?_
        refine PW_V0 (d2 := 0) (st := []) [] c_G_refusalOfBoth_18 lk_G_refusalOfBoth_376 (sh_po _ _ hpj) rfl rfl rfl (Nat.le_of_ble_eq_true rfl) (by first | decide | omega) (Nat.le_of_ble_eq_true rfl) ?_
        refine sp_F_holdsBytes hpj  ?_
        show PW _ _ _ 21 [some (.ref (58 + 2 * pj)), some (.ref (58 + 2 * qj))] [.int (b2i (x.1 ((58 + 2 * pj) * 8 + 1) = 2 ∧ x.1 ((58 + 2 * pj) * 8 + 3) = 0))] (E x y)
        refine PW_if_eq c_G_refusalOfBoth_21 (fun _ => ?_) (fun h2 => absurd (b2i_n0.mp h2) p4)
        refine PW_bipush (v := -12) c_G_refusalOfBoth_35 (by decide) ?_
        refine PW_ireturn (ty := .int) c_G_refusalOfBoth_37 rfl rfl ?_
        show PW _ _ _ 27 [some (.ref 5), some (.int a1), some (.ref (58 + 2 * pj)), some (.ref (58 + 2 * qj)), none, none, none, none, none, none, none, none] [.int (-12)] (E x y)
        refine PW_istore (i := 4) (L2 := [some (.ref 5), some (.int a1), some (.ref (58 + 2 * pj)), some (.ref (58 + 2 * qj)), some (.int (-12)), none, none, none, none, none, none, none]) c_G_order_27 (Nat.le_of_ble_eq_true rfl) rfl rfl ?_
        refine PW_iload c_G_order_29 rfl ?_
        refine PW_if_eq c_G_order_31 (fun h3 => absurd h3 (by decide)) (fun _ => ?_)
        refine PW_iload c_G_order_34 rfl ?_
        refine PW_ireturn (ty := .int) c_G_order_36 rfl rfl ?_
        exact h
      · refine PW.deeper (k := (2, 0, 0, z)) (Nat.le_of_ble_eq_true rfl) (Nat.le_refl _) (Nat.le_refl _) ?_
        refine PW_iload_n c_M_order_0 rfl ?_
        refine PW_if_lt c_M_order_1 (fun h0 => absurd h0 hc0) (fun h0 => ?_)
        refine PW_iload_n c_M_order_4 rfl ?_
        refine PW_bipush (v := 10) c_M_order_5 (by decide) ?_
        refine PW_idiv c_M_order_7 (by decide) ?_
        refine PW_S0 (d2 := 1) (st := []) [.int (a1 / 10)] c_M_order_8 lk_M_order_143 rfl rfl rfl (Nat.le_of_ble_eq_true rfl) (by first | decide | omega) (Nat.le_of_ble_eq_true rfl) ?_
        refine sp_M_isShelf2  ?_
        show PW _ _ _ 11 [some (.ref 70), some (.int a1), none, none, none, none, none] [.int (b2i (0 ≤ (a1 / 10).toInt ∧ (a1 / 10).toInt < 6))] (E x y)
        refine PW_if_eq c_M_order_11 (fun h1 => absurd hc1 (b2i_0.mp h1)) (fun _ => ?_)
        refine PW_iload_n c_M_order_14 rfl ?_
        refine PW_bipush (v := 10) c_M_order_15 (by decide) ?_
        refine PW_irem c_M_order_17 (by decide) ?_
        refine PW_S0 (d2 := 1) (st := []) [.int (a1 - a1 / 10 * 10)] c_M_order_18 lk_M_order_143 rfl rfl rfl (Nat.le_of_ble_eq_true rfl) (by first | decide | omega) (Nat.le_of_ble_eq_true rfl) ?_
        refine sp_M_isShelf2  ?_
        show PW _ _ _ 21 [some (.ref 70), some (.int a1), none, none, none, none, none] [.int (b2i (0 ≤ (a1 - a1 / 10 * 10).toInt ∧ (a1 - a1 / 10 * 10).toInt < 6))] (E x y)
        refine PW_if_ne c_M_order_21 (fun _ => ?_) (fun h2 => absurd hc2 (b2i_0.mp h2))
        refine PW_aload_n c_M_order_26 rfl ?_
        refine PW_get (v := .ref 104) c_M_order_27 fl_M_111 (gf_70_53 _ _) ?_
        refine PW_iload_n c_M_order_30 rfl ?_
        refine PW_bipush (v := 10) c_M_order_31 (by decide) ?_
        refine PW_idiv c_M_order_33 (by decide) ?_
        refine PW_iald (j := pj) c_M_order_34 (ar_104 _ _) (by rw [e1]; exact vp_in_nI hpj (by decide)) (by rw [e1]; exact nI_clamp (by omega)) ?_
        show PW _ _ _ 35 [some (.ref 70), some (.int a1), none, none, none, none, none] [.int ((y.2.1 104) pj)] (E x y)
        refine PW_iconst (v := -1) c_M_order_35 (by decide) ?_
        refine PW_icmp_eq c_M_order_36 (fun h3 => absurd h3 p1) (fun h3 => ?_)
        refine PW_aload_n c_M_order_39 rfl ?_
        refine PW_get (v := .ref 104) c_M_order_40 fl_M_111 (gf_70_53 _ _) ?_
        refine PW_iload_n c_M_order_43 rfl ?_
        refine PW_bipush (v := 10) c_M_order_44 (by decide) ?_
        refine PW_irem c_M_order_46 (by decide) ?_
        refine PW_iald (j := qj) c_M_order_47 (ar_104 _ _) (by rw [e2]; exact vp_in_nI hqj (by decide)) (by rw [e2]; exact nI_clamp (by omega)) ?_
        show PW _ _ _ 48 [some (.ref 70), some (.int a1), none, none, none, none, none] [.int ((y.2.1 104) qj)] (E x y)
        refine PW_iconst (v := -1) c_M_order_48 (by decide) ?_
        refine PW_icmp_ne c_M_order_49 (fun h4 => ?_) (fun h4 => absurd h4 q1)
        refine PW_aload_n c_M_order_55 rfl ?_
        refine PW_iload_n c_M_order_56 rfl ?_
        refine PW_bipush (v := 10) c_M_order_57 (by decide) ?_
        refine PW_idiv c_M_order_59 (by decide) ?_
        refine PW_V0 (d2 := 0) (st := []) [.int (a1 / 10)] c_M_order_60 lk_M_order_286 (po_70 _ _) rfl rfl rfl (Nat.le_of_ble_eq_true rfl) (by first | decide | omega) (Nat.le_of_ble_eq_true rfl) ?_
        show PW _ _ _ 0 [some (.ref 70), some (.int (a1 / 10))] [] (E x y)
        refine PW_aload_n c_M_rowFault_0 rfl ?_
        refine PW_get (v := .ref 104) c_M_rowFault_1 fl_M_111 (gf_70_53 _ _) ?_
        refine PW_iload_n c_M_rowFault_4 rfl ?_
        refine PW_iald (j := pj) c_M_rowFault_5 (ar_104 _ _) (by rw [e1]; exact vp_in_nI hpj (by decide)) (by rw [e1]; exact nI_clamp (by omega)) ?_
        show PW _ _ _ 6 [some (.ref 70), some (.int (a1 / 10))] [.int ((y.2.1 104) pj)] (E x y)
        refine PW_iconst (v := -1) c_M_rowFault_6 (by decide) ?_
        refine PW_icmp_ne c_M_rowFault_7 (fun h5 => ?_) (fun h5 => absurd h5 p1)
        refine PW_aload_n c_M_rowFault_15 rfl ?_
        refine PW_get (v := .ref 104) c_M_rowFault_16 fl_M_111 (gf_70_53 _ _) ?_
        refine PW_iload_n c_M_rowFault_19 rfl ?_
        refine PW_iald (j := pj) c_M_rowFault_20 (ar_104 _ _) (by rw [e1]; exact vp_in_nI hpj (by decide)) (by rw [e1]; exact nI_clamp (by omega)) ?_
        show PW _ _ _ 21 [some (.ref 70), some (.int (a1 / 10))] [.int ((y.2.1 104) pj)] (E x y)
        refine PW_bipush (v := -2) c_M_rowFault_21 (by decide) ?_
        refine PW_icmp_ne c_M_rowFault_23 (fun h6 => ?_) (fun h6 => absurd h6 p2)
        refine PW_bipush (v := -12) c_M_rowFault_30 (by decide) ?_
        refine PW_ireturn (ty := .int) c_M_rowFault_32 rfl rfl ?_
        show PW _ _ _ 63 [some (.ref 70), some (.int a1), none, none, none, none, none] [.int (-12)] (E x y)
        refine PW_if_lt c_M_order_63 (fun _ => ?_) (fun h7 => absurd (by decide) h7)
        refine PW_bipush (v := -12) c_M_order_77 (by decide) ?_
        refine PW_ireturn (ty := .int) c_M_order_79 rfl rfl ?_
        exact h
    · refine ⟨-12, x, y, ?_, fun {z post} h => ?_, fun {z post} h => ?_⟩
      · exact INV_step hI
      · refine PW.deeper (k := (3, 0, 0, z)) (Nat.le_of_ble_eq_true rfl) (Nat.le_refl _) (Nat.le_refl _) ?_
        refine PW_aload_n c_G_order_0 rfl ?_
        refine PW_iload_n c_G_order_1 rfl ?_
        refine PW_V0 (d2 := 1) (st := []) [.int a1] c_G_order_2 lk_G_order_209 (po_5 _ _) rfl rfl rfl (Nat.le_of_ble_eq_true rfl) (by first | decide | omega) (Nat.le_of_ble_eq_true rfl) ?_
        refine sp_G_firstShelf hc0 hpj e1 ?_
        show PW _ _ _ 5 [some (.ref 5), some (.int a1), none, none, none, none, none, none, none, none, none, none] [.ref (58 + 2 * pj)] (E x y)
        refine PW_astore_n (i := 2) (L2 := [some (.ref 5), some (.int a1), some (.ref (58 + 2 * pj)), none, none, none, none, none, none, none, none, none]) c_G_order_5 rfl (Nat.le_of_ble_eq_true rfl) rfl rfl ?_
        refine PW_aload_n c_G_order_6 rfl ?_
        refine PW_iload_n c_G_order_7 rfl ?_
        refine PW_V0 (d2 := 1) (st := []) [.int a1] c_G_order_8 lk_G_order_212 (po_5 _ _) rfl rfl rfl (Nat.le_of_ble_eq_true rfl) (by first | decide | omega) (Nat.le_of_ble_eq_true rfl) ?_
        refine sp_G_secondShelf hc0 hqj e2 ?_
        show PW _ _ _ 11 [some (.ref 5), some (.int a1), some (.ref (58 + 2 * pj)), none, none, none, none, none, none, none, none, none] [.ref (58 + 2 * qj)] (E x y)
        refine PW_astore_n (i := 3) (L2 := [some (.ref 5), some (.int a1), some (.ref (58 + 2 * pj)), some (.ref (58 + 2 * qj)), none, none, none, none, none, none, none, none]) c_G_order_11 rfl (Nat.le_of_ble_eq_true rfl) rfl rfl ?_
        refine PW_aload_n c_G_order_12 rfl ?_
        refine PW_ifnull c_G_order_13 ?_
        refine PW_aload_n c_G_order_16 rfl ?_
        refine PW_ifnonnull c_G_order_17 ?_
        refine PW_aload_n c_G_order_22 rfl ?_
        refine PW_aload_n c_G_order_23 rfl ?_
        refine PW_S0 (d2 := 1) (st := []) [.ref (58 + 2 * pj), .ref (58 + 2 * qj)] c_G_order_24 lk_G_order_215 rfl rfl rfl (Nat.le_of_ble_eq_true rfl) (by first | decide | omega) (Nat.le_of_ble_eq_true rfl) ?_
        show PW _ _ _ 0 [some (.ref (58 + 2 * pj)), some (.ref (58 + 2 * qj))] [] (E x y)
        refine PW_aload_n c_G_refusalOfBoth_0 rfl ?_
        refine PW_V0 (d2 := 0) (st := []) [] c_G_refusalOfBoth_1 lk_G_refusalOfBoth_339 (sh_po _ _ hpj) rfl rfl rfl (Nat.le_of_ble_eq_true rfl) (by first | decide | omega) (Nat.le_of_ble_eq_true rfl) ?_
        refine sp_F_isEmpty hpj  ?_
        show PW _ _ _ 4 [some (.ref (58 + 2 * pj)), some (.ref (58 + 2 * qj))] [.int (b2i (x.1 ((58 + 2 * pj) * 8 + 1) = 0))] (E x y)
        refine PW_if_ne c_G_refusalOfBoth_4 (fun h0 => absurd (b2i_n0.mp h0) p3) (fun _ => ?_)
        refine PW_aload_n c_G_refusalOfBoth_7 rfl ?_
        refine PW_V0 (d2 := 0) (st := []) [] c_G_refusalOfBoth_8 lk_G_refusalOfBoth_339 (sh_po _ _ hqj) rfl rfl rfl (Nat.le_of_ble_eq_true rfl) (by first | decide | omega) (Nat.le_of_ble_eq_true rfl) ?_
        refine sp_F_isEmpty hqj  ?_
        show PW _ _ _ 11 [some (.ref (58 + 2 * pj)), some (.ref (58 + 2 * qj))] [.int (b2i (x.1 ((58 + 2 * qj) * 8 + 1) = 0))] (E x y)
        refine PW_if_eq c_G_refusalOfBoth_11 (fun _ => ?_) (fun h1 => absurd (b2i_n0.mp h1) q3)
        refine PW_aload_n c_G_refusalOfBoth_17 rfl ?_
        refine PW_V0 (d2 := 0) (st := []) [] c_G_refusalOfBoth_18 lk_G_refusalOfBoth_376 (sh_po _ _ hpj) rfl rfl rfl (Nat.le_of_ble_eq_true rfl) (by first | decide | omega) (Nat.le_of_ble_eq_true rfl) ?_
        refine sp_F_holdsBytes hpj  ?_
        show PW _ _ _ 21 [some (.ref (58 + 2 * pj)), some (.ref (58 + 2 * qj))] [.int (b2i (x.1 ((58 + 2 * pj) * 8 + 1) = 2 ∧ x.1 ((58 + 2 * pj) * 8 + 3) = 0))] (E x y)
        refine PW_if_eq c_G_refusalOfBoth_21 (fun _ => ?_) (fun h2 => absurd (b2i_n0.mp h2) p4)
        refine PW_bipush (v := -12) c_G_refusalOfBoth_35 (by decide) ?_
        refine PW_ireturn (ty := .int) c_G_refusalOfBoth_37 rfl rfl ?_
        show PW _ _ _ 27 [some (.ref 5), some (.int a1), some (.ref (58 + 2 * pj)), some (.ref (58 + 2 * qj)), none, none, none, none, none, none, none, none] [.int (-12)] (E x y)
        refine PW_istore (i := 4) (L2 := [some (.ref 5), some (.int a1), some (.ref (58 + 2 * pj)), some (.ref (58 + 2 * qj)), some (.int (-12)), none, none, none, none, none, none, none]) c_G_order_27 (Nat.le_of_ble_eq_true rfl) rfl rfl ?_
        refine PW_iload c_G_order_29 rfl ?_
        refine PW_if_eq c_G_order_31 (fun h3 => absurd h3 (by decide)) (fun _ => ?_)
        refine PW_iload c_G_order_34 rfl ?_
        refine PW_ireturn (ty := .int) c_G_order_36 rfl rfl ?_
        exact h
      · refine PW.deeper (k := (2, 0, 0, z)) (Nat.le_of_ble_eq_true rfl) (Nat.le_refl _) (Nat.le_refl _) ?_
        refine PW_iload_n c_M_order_0 rfl ?_
        refine PW_if_lt c_M_order_1 (fun h0 => absurd h0 hc0) (fun h0 => ?_)
        refine PW_iload_n c_M_order_4 rfl ?_
        refine PW_bipush (v := 10) c_M_order_5 (by decide) ?_
        refine PW_idiv c_M_order_7 (by decide) ?_
        refine PW_S0 (d2 := 1) (st := []) [.int (a1 / 10)] c_M_order_8 lk_M_order_143 rfl rfl rfl (Nat.le_of_ble_eq_true rfl) (by first | decide | omega) (Nat.le_of_ble_eq_true rfl) ?_
        refine sp_M_isShelf2  ?_
        show PW _ _ _ 11 [some (.ref 70), some (.int a1), none, none, none, none, none] [.int (b2i (0 ≤ (a1 / 10).toInt ∧ (a1 / 10).toInt < 6))] (E x y)
        refine PW_if_eq c_M_order_11 (fun h1 => absurd hc1 (b2i_0.mp h1)) (fun _ => ?_)
        refine PW_iload_n c_M_order_14 rfl ?_
        refine PW_bipush (v := 10) c_M_order_15 (by decide) ?_
        refine PW_irem c_M_order_17 (by decide) ?_
        refine PW_S0 (d2 := 1) (st := []) [.int (a1 - a1 / 10 * 10)] c_M_order_18 lk_M_order_143 rfl rfl rfl (Nat.le_of_ble_eq_true rfl) (by first | decide | omega) (Nat.le_of_ble_eq_true rfl) ?_
        refine sp_M_isShelf2  ?_
        show PW _ _ _ 21 [some (.ref 70), some (.int a1), none, none, none, none, none] [.int (b2i (0 ≤ (a1 - a1 / 10 * 10).toInt ∧ (a1 - a1 / 10 * 10).toInt < 6))] (E x y)
        refine PW_if_ne c_M_order_21 (fun _ => ?_) (fun h2 => absurd hc2 (b2i_0.mp h2))
        refine PW_aload_n c_M_order_26 rfl ?_
        refine PW_get (v := .ref 104) c_M_order_27 fl_M_111 (gf_70_53 _ _) ?_
        refine PW_iload_n c_M_order_30 rfl ?_
        refine PW_bipush (v := 10) c_M_order_31 (by decide) ?_
        refine PW_idiv c_M_order_33 (by decide) ?_
        refine PW_iald (j := pj) c_M_order_34 (ar_104 _ _) (by rw [e1]; exact vp_in_nI hpj (by decide)) (by rw [e1]; exact nI_clamp (by omega)) ?_
        show PW _ _ _ 35 [some (.ref 70), some (.int a1), none, none, none, none, none] [.int ((y.2.1 104) pj)] (E x y)
        refine PW_iconst (v := -1) c_M_order_35 (by decide) ?_
        refine PW_icmp_eq c_M_order_36 (fun h3 => absurd h3 p1) (fun h3 => ?_)
        refine PW_aload_n c_M_order_39 rfl ?_
        refine PW_get (v := .ref 104) c_M_order_40 fl_M_111 (gf_70_53 _ _) ?_
        refine PW_iload_n c_M_order_43 rfl ?_
        refine PW_bipush (v := 10) c_M_order_44 (by decide) ?_
        refine PW_irem c_M_order_46 (by decide) ?_
        refine PW_iald (j := qj) c_M_order_47 (ar_104 _ _) (by rw [e2]; exact vp_in_nI hqj (by decide)) (by rw [e2]; exact nI_clamp (by omega)) ?_
        show PW _ _ _ 48 [some (.ref 70), some (.int a1), none, none, none, none, none] [.int ((y.2.1 104) qj)] (E x y)
        refine PW_iconst (v := -1) c_M_order_48 (by decide) ?_
        refine PW_icmp_ne c_M_order_49 (fun h4 => ?_) (fun h4 => absurd h4 q1)
        refine PW_aload_n c_M_order_55 rfl ?_
        refine PW_iload_n c_M_order_56 rfl ?_
        refine PW_bipush (v := 10) c_M_order_57 (by decide) ?_
        refine PW_idiv c_M_order_59 (by decide) ?_
        refine PW_V0 (d2 := 0) (st := []) [.int (a1 / 10)] c_M_order_60 lk_M_order_286 (po_70 _ _) rfl rfl rfl (Nat.le_of_ble_eq_true rfl) (by first | decide | omega) (Nat.le_of_ble_eq_true rfl) ?_
        show PW _ _ _ 0 [some (.ref 70), some (.int (a1 / 10))] [] (E x y)
        refine PW_aload_n c_M_rowFault_0 rfl ?_
        refine PW_get (v := .ref 104) c_M_rowFault_1 fl_M_111 (gf_70_53 _ _) ?_
        refine PW_iload_n c_M_rowFault_4 rfl ?_
        refine PW_iald (j := pj) c_M_rowFault_5 (ar_104 _ _) (by rw [e1]; exact vp_in_nI hpj (by decide)) (by rw [e1]; exact nI_clamp (by omega)) ?_
        show PW _ _ _ 6 [some (.ref 70), some (.int (a1 / 10))] [.int ((y.2.1 104) pj)] (E x y)
        refine PW_iconst (v := -1) c_M_rowFault_6 (by decide) ?_
        refine PW_icmp_ne c_M_rowFault_7 (fun h5 => ?_) (fun h5 => absurd h5 p1)
        refine PW_aload_n c_M_rowFault_15 rfl ?_
        refine PW_get (v := .ref 104) c_M_rowFault_16 fl_M_111 (gf_70_53 _ _) ?_
        refine PW_iload_n c_M_rowFault_19 rfl ?_
        refine PW_iald (j := pj) c_M_rowFault_20 (ar_104 _ _) (by rw [e1]; exact vp_in_nI hpj (by decide)) (by rw [e1]; exact nI_clamp (by omega)) ?_
        show PW _ _ _ 21 [some (.ref 70), some (.int (a1 / 10))] [.int ((y.2.1 104) pj)] (E x y)
        refine PW_bipush (v := -2) c_M_rowFault_21 (by decide) ?_
        refine PW_icmp_ne c_M_rowFault_23 (fun h6 => ?_) (fun h6 => absurd h6 p2)
        refine PW_bipush (v := -12) c_M_rowFault_30 (by decide) ?_
        refine PW_ireturn (ty := .int) c_M_rowFault_32 rfl rfl ?_
        show PW _ _ _ 63 [some (.ref 70), some (.int a1), none, none, none, none, none] [.int (-12)] (E x y)
        refine PW_if_lt c_M_order_63 (fun _ => ?_) (fun h7 => absurd (by decide) h7)
        refine PW_bipush (v := -12) c_M_order_77 (by decide) ?_
        refine PW_ireturn (ty := .int) c_M_order_79 rfl rfl ?_
        exact h
  · rcases sh_cases (hs qj hqj) with ⟨q1, q2⟩ | ⟨q1, q2, q3, q4⟩ | ⟨q1, q2, q3, q4, m, hm, q5, q6, hQ⟩
    · refine ⟨-11, x, y, ?_, fun {z post} h => ?_, fun {z post} h => ?_⟩
      · exact INV_step hI
      · refine PW.deeper (k := (3, 0, 0, z)) (Nat.le_of_ble_eq_true rfl) (Nat.le_refl _) (Nat.le_refl _) ?_
        refine PW_aload_n c_G_order_0 rfl ?_
        refine PW_iload_n c_G_order_1 rfl ?_
        refine PW_V0 (d2 := 1) (st := []) [.int a1] c_G_order_2 lk_G_order_209 (po_5 _ _) rfl rfl rfl (Nat.le_of_ble_eq_true rfl) (by first | decide | omega) (Nat.le_of_ble_eq_true rfl) ?_
        refine sp_G_firstShelf hc0 hpj e1 ?_
        show PW _ _ _ 5 [some (.ref 5), some (.int a1), none, none, none, none, none, none, none, none, none, none] [.ref (58 + 2 * pj)] (E x y)
        refine PW_astore_n (i := 2) (L2 := [some (.ref 5), some (.int a1), some (.ref (58 + 2 * pj)), none, none, none, none, none, none, none, none, none]) c_G_order_5 rfl (Nat.le_of_ble_eq_true rfl) rfl rfl ?_
        refine PW_aload_n c_G_order_6 rfl ?_
        refine PW_iload_n c_G_order_7 rfl ?_
        refine PW_V0 (d2 := 1) (st := []) [.int a1] c_G_order_8 lk_G_order_212 (po_5 _ _) rfl rfl rfl (Nat.le_of_ble_eq_true rfl) (by first | decide | omega) (Nat.le_of_ble_eq_true rfl) ?_
        refine sp_G_secondShelf hc0 hqj e2 ?_
        show PW _ _ _ 11 [some (.ref 5), some (.int a1), some (.ref (58 + 2 * pj)), none, none, none, none, none, none, none, none, none] [.ref (58 + 2 * qj)] (E x y)
        refine PW_astore_n (i := 3) (L2 := [some (.ref 5), some (.int a1), some (.ref (58 + 2 * pj)), some (.ref (58 + 2 * qj)), none, none, none, none, none, none, none, none]) c_G_order_11 rfl (Nat.le_of_ble_eq_true rfl) rfl rfl ?_
        refine PW_aload_n c_G_order_12 rfl ?_
        refine PW_ifnull c_G_order_13 ?_
        refine PW_aload_n c_G_order_16 rfl ?_
        refine PW_ifnonnull c_G_order_17 ?_
        refine PW_aload_n c_G_order_22 rfl ?_
        refine PW_aload_n c_G_order_23 rfl ?_
        refine PW_S0 (d2 := 1) (st := []) [.ref (58 + 2 * pj), .ref (58 + 2 * qj)] c_G_order_24 lk_G_order_215 rfl rfl rfl (Nat.le_of_ble_eq_true rfl) (by first | decide | omega) (Nat.le_of_ble_eq_true rfl) ?_
        show PW _ _ _ 0 [some (.ref (58 + 2 * pj)), some (.ref (58 + 2 * qj))] [] (E x y)
        refine PW_aload_n c_G_refusalOfBoth_0 rfl ?_
        refine PW_V0 (d2 := 0) (st := []) [] c_G_refusalOfBoth_1 lk_G_refusalOfBoth_339 (sh_po _ _ hpj) rfl rfl rfl (Nat.le_of_ble_eq_true rfl) (by first | decide | omega) (Nat.le_of_ble_eq_true rfl) ?_
        refine sp_F_isEmpty hpj  ?_
        show PW _ _ _ 4 [some (.ref (58 + 2 * pj)), some (.ref (58 + 2 * qj))] [.int (b2i (x.1 ((58 + 2 * pj) * 8 + 1) = 0))] (E x y)
        refine PW_if_ne c_G_refusalOfBoth_4 (fun h0 => absurd (b2i_n0.mp h0) p3) (fun _ => ?_)
        refine PW_aload_n c_G_refusalOfBoth_7 rfl ?_
        refine PW_V0 (d2 := 0) (st := []) [] c_G_refusalOfBoth_8 lk_G_refusalOfBoth_339 (sh_po _ _ hqj) rfl rfl rfl (Nat.le_of_ble_eq_true rfl) (by first | decide | omega) (Nat.le_of_ble_eq_true rfl) ?_
        refine sp_F_isEmpty hqj  ?_
        show PW _ _ _ 11 [some (.ref (58 + 2 * pj)), some (.ref (58 + 2 * qj))] [.int (b2i (x.1 ((58 + 2 * qj) * 8 + 1) = 0))] (E x y)
        refine PW_if_eq c_G_refusalOfBoth_11 (fun h1 => absurd q2 (b2i_0.mp h1)) (fun _ => ?_)
        refine PW_bipush (v := -11) c_G_refusalOfBoth_14 (by decide) ?_
        refine PW_ireturn (ty := .int) c_G_refusalOfBoth_16 rfl rfl ?_
        show PW _ _ _ 27 [some (.ref 5), some (.int a1), some (.ref (58 + 2 * pj)), some (.ref (58 + 2 * qj)), none, none, none, none, none, none, none, none] [.int (-11)] (E x y)
        refine PW_istore (i := 4) (L2 := [some (.ref 5), some (.int a1), some (.ref (58 + 2 * pj)), some (.ref (58 + 2 * qj)), some (.int (-11)), none, none, none, none, none, none, none]) c_G_order_27 (Nat.le_of_ble_eq_true rfl) rfl rfl ?_
        refine PW_iload c_G_order_29 rfl ?_
        refine PW_if_eq c_G_order_31 (fun h2 => absurd h2 (by decide)) (fun _ => ?_)
        refine PW_iload c_G_order_34 rfl ?_
        refine PW_ireturn (ty := .int) c_G_order_36 rfl rfl ?_
        exact h
      · refine PW.deeper (k := (2, 0, 0, z)) (Nat.le_of_ble_eq_true rfl) (Nat.le_refl _) (Nat.le_refl _) ?_
        refine PW_iload_n c_M_order_0 rfl ?_
        refine PW_if_lt c_M_order_1 (fun h0 => absurd h0 hc0) (fun h0 => ?_)
        refine PW_iload_n c_M_order_4 rfl ?_
        refine PW_bipush (v := 10) c_M_order_5 (by decide) ?_
        refine PW_idiv c_M_order_7 (by decide) ?_
        refine PW_S0 (d2 := 1) (st := []) [.int (a1 / 10)] c_M_order_8 lk_M_order_143 rfl rfl rfl (Nat.le_of_ble_eq_true rfl) (by first | decide | omega) (Nat.le_of_ble_eq_true rfl) ?_
        refine sp_M_isShelf2  ?_
        show PW _ _ _ 11 [some (.ref 70), some (.int a1), none, none, none, none, none] [.int (b2i (0 ≤ (a1 / 10).toInt ∧ (a1 / 10).toInt < 6))] (E x y)
        refine PW_if_eq c_M_order_11 (fun h1 => absurd hc1 (b2i_0.mp h1)) (fun _ => ?_)
        refine PW_iload_n c_M_order_14 rfl ?_
        refine PW_bipush (v := 10) c_M_order_15 (by decide) ?_
        refine PW_irem c_M_order_17 (by decide) ?_
        refine PW_S0 (d2 := 1) (st := []) [.int (a1 - a1 / 10 * 10)] c_M_order_18 lk_M_order_143 rfl rfl rfl (Nat.le_of_ble_eq_true rfl) (by first | decide | omega) (Nat.le_of_ble_eq_true rfl) ?_
        refine sp_M_isShelf2  ?_
        show PW _ _ _ 21 [some (.ref 70), some (.int a1), none, none, none, none, none] [.int (b2i (0 ≤ (a1 - a1 / 10 * 10).toInt ∧ (a1 - a1 / 10 * 10).toInt < 6))] (E x y)
        refine PW_if_ne c_M_order_21 (fun _ => ?_) (fun h2 => absurd hc2 (b2i_0.mp h2))
        refine PW_aload_n c_M_order_26 rfl ?_
        refine PW_get (v := .ref 104) c_M_order_27 fl_M_111 (gf_70_53 _ _) ?_
        refine PW_iload_n c_M_order_30 rfl ?_
        refine PW_bipush (v := 10) c_M_order_31 (by decide) ?_
        refine PW_idiv c_M_order_33 (by decide) ?_
        refine PW_iald (j := pj) c_M_order_34 (ar_104 _ _) (by rw [e1]; exact vp_in_nI hpj (by decide)) (by rw [e1]; exact nI_clamp (by omega)) ?_
        show PW _ _ _ 35 [some (.ref 70), some (.int a1), none, none, none, none, none] [.int ((y.2.1 104) pj)] (E x y)
        refine PW_iconst (v := -1) c_M_order_35 (by decide) ?_
        refine PW_icmp_eq c_M_order_36 (fun h3 => absurd h3 p1) (fun h3 => ?_)
        refine PW_aload_n c_M_order_39 rfl ?_
        refine PW_get (v := .ref 104) c_M_order_40 fl_M_111 (gf_70_53 _ _) ?_
        refine PW_iload_n c_M_order_43 rfl ?_
        refine PW_bipush (v := 10) c_M_order_44 (by decide) ?_
        refine PW_irem c_M_order_46 (by decide) ?_
        refine PW_iald (j := qj) c_M_order_47 (ar_104 _ _) (by rw [e2]; exact vp_in_nI hqj (by decide)) (by rw [e2]; exact nI_clamp (by omega)) ?_
        show PW _ _ _ 48 [some (.ref 70), some (.int a1), none, none, none, none, none] [.int ((y.2.1 104) qj)] (E x y)
        refine PW_iconst (v := -1) c_M_order_48 (by decide) ?_
        refine PW_icmp_ne c_M_order_49 (fun h4 => absurd h4 (not_not_intro q1)) (fun h4 => ?_)
        refine PW_bipush (v := -11) c_M_order_52 (by decide) ?_
        refine PW_ireturn (ty := .int) c_M_order_54 rfl rfl ?_
        exact h
    · refine ⟨-12, x, y, ?_, fun {z post} h => ?_, fun {z post} h => ?_⟩
      · exact INV_step hI
      · refine PW.deeper (k := (3, 0, 0, z)) (Nat.le_of_ble_eq_true rfl) (Nat.le_refl _) (Nat.le_refl _) ?_
        refine PW_aload_n c_G_order_0 rfl ?_
        refine PW_iload_n c_G_order_1 rfl ?_
        refine PW_V0 (d2 := 1) (st := []) [.int a1] c_G_order_2 lk_G_order_209 (po_5 _ _) rfl rfl rfl (Nat.le_of_ble_eq_true rfl) (by first | decide | omega) (Nat.le_of_ble_eq_true rfl) ?_
        refine sp_G_firstShelf hc0 hpj e1 ?_
        show PW _ _ _ 5 [some (.ref 5), some (.int a1), none, none, none, none, none, none, none, none, none, none] [.ref (58 + 2 * pj)] (E x y)
        refine PW_astore_n (i := 2) (L2 := [some (.ref 5), some (.int a1), some (.ref (58 + 2 * pj)), none, none, none, none, none, none, none, none, none]) c_G_order_5 rfl (Nat.le_of_ble_eq_true rfl) rfl rfl ?_
        refine PW_aload_n c_G_order_6 rfl ?_
        refine PW_iload_n c_G_order_7 rfl ?_
        refine PW_V0 (d2 := 1) (st := []) [.int a1] c_G_order_8 lk_G_order_212 (po_5 _ _) rfl rfl rfl (Nat.le_of_ble_eq_true rfl) (by first | decide | omega) (Nat.le_of_ble_eq_true rfl) ?_
        refine sp_G_secondShelf hc0 hqj e2 ?_
        show PW _ _ _ 11 [some (.ref 5), some (.int a1), some (.ref (58 + 2 * pj)), none, none, none, none, none, none, none, none, none] [.ref (58 + 2 * qj)] (E x y)
        refine PW_astore_n (i := 3) (L2 := [some (.ref 5), some (.int a1), some (.ref (58 + 2 * pj)), some (.ref (58 + 2 * qj)), none, none, none, none, none, none, none, none]) c_G_order_11 rfl (Nat.le_of_ble_eq_true rfl) rfl rfl ?_
        refine PW_aload_n c_G_order_12 rfl ?_
        refine PW_ifnull c_G_order_13 ?_
        refine PW_aload_n c_G_order_16 rfl ?_
        refine PW_ifnonnull c_G_order_17 ?_
        refine PW_aload_n c_G_order_22 rfl ?_
        refine PW_aload_n c_G_order_23 rfl ?_
        refine PW_S0 (d2 := 1) (st := []) [.ref (58 + 2 * pj), .ref (58 + 2 * qj)] c_G_order_24 lk_G_order_215 rfl rfl rfl (Nat.le_of_ble_eq_true rfl) (by first | decide | omega) (Nat.le_of_ble_eq_true rfl) ?_
        show PW _ _ _ 0 [some (.ref (58 + 2 * pj)), some (.ref (58 + 2 * qj))] [] (E x y)
        refine PW_aload_n c_G_refusalOfBoth_0 rfl ?_
        refine PW_V0 (d2 := 0) (st := []) [] c_G_refusalOfBoth_1 lk_G_refusalOfBoth_339 (sh_po _ _ hpj) rfl rfl rfl (Nat.le_of_ble_eq_true rfl) (by first | decide | omega) (Nat.le_of_ble_eq_true rfl) ?_
        refine sp_F_isEmpty hpj  ?_
        show PW _ _ _ 4 [some (.ref (58 + 2 * pj)), some (.ref (58 + 2 * qj))] [.int (b2i (x.1 ((58 + 2 * pj) * 8 + 1) = 0))] (E x y)
        refine PW_if_ne c_G_refusalOfBoth_4 (fun h0 => absurd (b2i_n0.mp h0) p3) (fun _ => ?_)
        refine PW_aload_n c_G_refusalOfBoth_7 rfl ?_
        refine PW_V0 (d2 := 0) (st := []) [] c_G_refusalOfBoth_8 lk_G_refusalOfBoth_339 (sh_po _ _ hqj) rfl rfl rfl (Nat.le_of_ble_eq_true rfl) (by first | decide | omega) (Nat.le_of_ble_eq_true rfl) ?_
        refine sp_F_isEmpty hqj  ?_
        show PW _ _ _ 11 [some (.ref (58 + 2 * pj)), some (.ref (58 + 2 * qj))] [.int (b2i (x.1 ((58 + 2 * qj) * 8 + 1) = 0))] (E x y)
        refine PW_if_eq c_G_refusalOfBoth_11 (fun _ => ?_) (fun h1 => absurd (b2i_n0.mp h1) q3)
        refine PW_aload_n c_G_refusalOfBoth_17 rfl ?_
        refine PW_V0 (d2 := 0) (st := []) [] c_G_refusalOfBoth_18 lk_G_refusalOfBoth_376 (sh_po _ _ hpj) rfl rfl rfl (Nat.le_of_ble_eq_true rfl) (by first | decide | omega) (Nat.le_of_ble_eq_true rfl) ?_
        refine sp_F_holdsBytes hpj  ?_
        show PW _ _ _ 21 [some (.ref (58 + 2 * pj)), some (.ref (58 + 2 * qj))] [.int (b2i (x.1 ((58 + 2 * pj) * 8 + 1) = 2 ∧ x.1 ((58 + 2 * pj) * 8 + 3) = 0))] (E x y)
        refine PW_if_eq c_G_refusalOfBoth_21 (fun h2 => absurd p4 (b2i_0.mp h2)) (fun _ => ?_)
        refine PW_aload_n c_G_refusalOfBoth_24 rfl ?_
        refine PW_V0 (d2 := 0) (st := []) [] c_G_refusalOfBoth_25 lk_G_refusalOfBoth_376 (sh_po _ _ hqj) rfl rfl rfl (Nat.le_of_ble_eq_true rfl) (by first | decide | omega) (Nat.le_of_ble_eq_true rfl) ?_
        refine sp_F_holdsBytes hqj  ?_
        show PW _ _ _ 28 [some (.ref (58 + 2 * pj)), some (.ref (58 + 2 * qj))] [.int (b2i (x.1 ((58 + 2 * qj) * 8 + 1) = 2 ∧ x.1 ((58 + 2 * qj) * 8 + 3) = 0))] (E x y)
        refine PW_if_eq c_G_refusalOfBoth_28 (fun _ => ?_) (fun h3 => absurd (b2i_n0.mp h3) q4)
        refine PW_bipush (v := -12) c_G_refusalOfBoth_35 (by decide) ?_
        refine PW_ireturn (ty := .int) c_G_refusalOfBoth_37 rfl rfl ?_
        show PW _ _ _ 27 [some (.ref 5), some (.int a1), some (.ref (58 + 2 * pj)), some (.ref (58 + 2 * qj)), none, none, none, none, none, none, none, none] [.int (-12)] (E x y)
        refine PW_istore (i := 4) (L2 := [some (.ref 5), some (.int a1), some (.ref (58 + 2 * pj)), some (.ref (58 + 2 * qj)), some (.int (-12)), none, none, none, none, none, none, none]) c_G_order_27 (Nat.le_of_ble_eq_true rfl) rfl rfl ?_
        refine PW_iload c_G_order_29 rfl ?_
        refine PW_if_eq c_G_order_31 (fun h4 => absurd h4 (by decide)) (fun _ => ?_)
        refine PW_iload c_G_order_34 rfl ?_
        refine PW_ireturn (ty := .int) c_G_order_36 rfl rfl ?_
        exact h
      · refine PW.deeper (k := (2, 0, 0, z)) (Nat.le_of_ble_eq_true rfl) (Nat.le_refl _) (Nat.le_refl _) ?_
        refine PW_iload_n c_M_order_0 rfl ?_
        refine PW_if_lt c_M_order_1 (fun h0 => absurd h0 hc0) (fun h0 => ?_)
        refine PW_iload_n c_M_order_4 rfl ?_
        refine PW_bipush (v := 10) c_M_order_5 (by decide) ?_
        refine PW_idiv c_M_order_7 (by decide) ?_
        refine PW_S0 (d2 := 1) (st := []) [.int (a1 / 10)] c_M_order_8 lk_M_order_143 rfl rfl rfl (Nat.le_of_ble_eq_true rfl) (by first | decide | omega) (Nat.le_of_ble_eq_true rfl) ?_
        refine sp_M_isShelf2  ?_
        show PW _ _ _ 11 [some (.ref 70), some (.int a1), none, none, none, none, none] [.int (b2i (0 ≤ (a1 / 10).toInt ∧ (a1 / 10).toInt < 6))] (E x y)
        refine PW_if_eq c_M_order_11 (fun h1 => absurd hc1 (b2i_0.mp h1)) (fun _ => ?_)
        refine PW_iload_n c_M_order_14 rfl ?_
        refine PW_bipush (v := 10) c_M_order_15 (by decide) ?_
        refine PW_irem c_M_order_17 (by decide) ?_
        refine PW_S0 (d2 := 1) (st := []) [.int (a1 - a1 / 10 * 10)] c_M_order_18 lk_M_order_143 rfl rfl rfl (Nat.le_of_ble_eq_true rfl) (by first | decide | omega) (Nat.le_of_ble_eq_true rfl) ?_
        refine sp_M_isShelf2  ?_
        show PW _ _ _ 21 [some (.ref 70), some (.int a1), none, none, none, none, none] [.int (b2i (0 ≤ (a1 - a1 / 10 * 10).toInt ∧ (a1 - a1 / 10 * 10).toInt < 6))] (E x y)
        refine PW_if_ne c_M_order_21 (fun _ => ?_) (fun h2 => absurd hc2 (b2i_0.mp h2))
        refine PW_aload_n c_M_order_26 rfl ?_
        refine PW_get (v := .ref 104) c_M_order_27 fl_M_111 (gf_70_53 _ _) ?_
        refine PW_iload_n c_M_order_30 rfl ?_
        refine PW_bipush (v := 10) c_M_order_31 (by decide) ?_
        refine PW_idiv c_M_order_33 (by decide) ?_
        refine PW_iald (j := pj) c_M_order_34 (ar_104 _ _) (by rw [e1]; exact vp_in_nI hpj (by decide)) (by rw [e1]; exact nI_clamp (by omega)) ?_
        show PW _ _ _ 35 [some (.ref 70), some (.int a1), none, none, none, none, none] [.int ((y.2.1 104) pj)] (E x y)
        refine PW_iconst (v := -1) c_M_order_35 (by decide) ?_
        refine PW_icmp_eq c_M_order_36 (fun h3 => absurd h3 p1) (fun h3 => ?_)
        refine PW_aload_n c_M_order_39 rfl ?_
        refine PW_get (v := .ref 104) c_M_order_40 fl_M_111 (gf_70_53 _ _) ?_
        refine PW_iload_n c_M_order_43 rfl ?_
        refine PW_bipush (v := 10) c_M_order_44 (by decide) ?_
        refine PW_irem c_M_order_46 (by decide) ?_
        refine PW_iald (j := qj) c_M_order_47 (ar_104 _ _) (by rw [e2]; exact vp_in_nI hqj (by decide)) (by rw [e2]; exact nI_clamp (by omega)) ?_
        show PW _ _ _ 48 [some (.ref 70), some (.int a1), none, none, none, none, none] [.int ((y.2.1 104) qj)] (E x y)
        refine PW_iconst (v := -1) c_M_order_48 (by decide) ?_
        refine PW_icmp_ne c_M_order_49 (fun h4 => ?_) (fun h4 => absurd h4 q1)
        refine PW_aload_n c_M_order_55 rfl ?_
        refine PW_iload_n c_M_order_56 rfl ?_
        refine PW_bipush (v := 10) c_M_order_57 (by decide) ?_
        refine PW_idiv c_M_order_59 (by decide) ?_
        refine PW_V0 (d2 := 0) (st := []) [.int (a1 / 10)] c_M_order_60 lk_M_order_286 (po_70 _ _) rfl rfl rfl (Nat.le_of_ble_eq_true rfl) (by first | decide | omega) (Nat.le_of_ble_eq_true rfl) ?_
        show PW _ _ _ 0 [some (.ref 70), some (.int (a1 / 10))] [] (E x y)
        refine PW_aload_n c_M_rowFault_0 rfl ?_
        refine PW_get (v := .ref 104) c_M_rowFault_1 fl_M_111 (gf_70_53 _ _) ?_
        refine PW_iload_n c_M_rowFault_4 rfl ?_
        refine PW_iald (j := pj) c_M_rowFault_5 (ar_104 _ _) (by rw [e1]; exact vp_in_nI hpj (by decide)) (by rw [e1]; exact nI_clamp (by omega)) ?_
        show PW _ _ _ 6 [some (.ref 70), some (.int (a1 / 10))] [.int ((y.2.1 104) pj)] (E x y)
        refine PW_iconst (v := -1) c_M_rowFault_6 (by decide) ?_
        refine PW_icmp_ne c_M_rowFault_7 (fun h5 => ?_) (fun h5 => absurd h5 p1)
        refine PW_aload_n c_M_rowFault_15 rfl ?_
        refine PW_get (v := .ref 104) c_M_rowFault_16 fl_M_111 (gf_70_53 _ _) ?_
        refine PW_iload_n c_M_rowFault_19 rfl ?_
        refine PW_iald (j := pj) c_M_rowFault_20 (ar_104 _ _) (by rw [e1]; exact vp_in_nI hpj (by decide)) (by rw [e1]; exact nI_clamp (by omega)) ?_
        show PW _ _ _ 21 [some (.ref 70), some (.int (a1 / 10))] [.int ((y.2.1 104) pj)] (E x y)
        refine PW_bipush (v := -2) c_M_rowFault_21 (by decide) ?_
        refine PW_icmp_ne c_M_rowFault_23 (fun h6 => absurd h6 (not_not_intro p2)) (fun h6 => ?_)
        refine PW_iconst (v := 0) c_M_rowFault_26 (by decide) ?_
        refine PW_goto c_M_rowFault_27 ?_
        refine PW_ireturn (ty := .int) c_M_rowFault_32 rfl rfl ?_
        show PW _ _ _ 63 [some (.ref 70), some (.int a1), none, none, none, none, none] [.int 0] (E x y)
        refine PW_if_lt c_M_order_63 (fun h7 => absurd h7 (by decide)) (fun _ => ?_)
        refine PW_aload_n c_M_order_66 rfl ?_
        refine PW_iload_n c_M_order_67 rfl ?_
        refine PW_bipush (v := 10) c_M_order_68 (by decide) ?_
        refine PW_irem c_M_order_70 (by decide) ?_
        refine PW_V0 (d2 := 0) (st := []) [.int (a1 - a1 / 10 * 10)] c_M_order_71 lk_M_order_286 (po_70 _ _) rfl rfl rfl (Nat.le_of_ble_eq_true rfl) (by first | decide | omega) (Nat.le_of_ble_eq_true rfl) ?_
        show PW _ _ _ 0 [some (.ref 70), some (.int (a1 - a1 / 10 * 10))] [] (E x y)
        refine PW_aload_n c_M_rowFault_0 rfl ?_
        refine PW_get (v := .ref 104) c_M_rowFault_1 fl_M_111 (gf_70_53 _ _) ?_
        refine PW_iload_n c_M_rowFault_4 rfl ?_
        refine PW_iald (j := qj) c_M_rowFault_5 (ar_104 _ _) (by rw [e2]; exact vp_in_nI hqj (by decide)) (by rw [e2]; exact nI_clamp (by omega)) ?_
        show PW _ _ _ 6 [some (.ref 70), some (.int (a1 - a1 / 10 * 10))] [.int ((y.2.1 104) qj)] (E x y)
        refine PW_iconst (v := -1) c_M_rowFault_6 (by decide) ?_
        refine PW_icmp_ne c_M_rowFault_7 (fun h8 => ?_) (fun h8 => absurd h8 q1)
        refine PW_aload_n c_M_rowFault_15 rfl ?_
        refine PW_get (v := .ref 104) c_M_rowFault_16 fl_M_111 (gf_70_53 _ _) ?_
        refine PW_iload_n c_M_rowFault_19 rfl ?_
        refine PW_iald (j := qj) c_M_rowFault_20 (ar_104 _ _) (by rw [e2]; exact vp_in_nI hqj (by decide)) (by rw [e2]; exact nI_clamp (by omega)) ?_
        show PW _ _ _ 21 [some (.ref 70), some (.int (a1 - a1 / 10 * 10))] [.int ((y.2.1 104) qj)] (E x y)
        refine PW_bipush (v := -2) c_M_rowFault_21 (by decide) ?_
        refine PW_icmp_ne c_M_rowFault_23 (fun h9 => ?_) (fun h9 => absurd h9 q2)
        refine PW_bipush (v := -12) c_M_rowFault_30 (by decide) ?_
        refine PW_ireturn (ty := .int) c_M_rowFault_32 rfl rfl ?_
        show PW _ _ _ 74 [some (.ref 70), some (.int a1), none, none, none, none, none] [.int (-12)] (E x y)
        refine PW_if_ge c_M_order_74 (fun h10 => absurd h10 (by decide)) (fun _ => ?_)
        refine PW_bipush (v := -12) c_M_order_77 (by decide) ?_
        refine PW_ireturn (ty := .int) c_M_order_79 rfl rfl ?_
        exact h
    · obtain ⟨v, h', H⟩ := lp_M_order (a1 := a1) hg hqj hm q5 e2 m 0 (flF (fun _ => true) (plF y pj) n 0) 0 (wi (plF y pj) (y.2.1 99) 0 n) (Nat.zero_add _) (by rw [flF_lenT]; exact hn) hpL_0
      refine ⟨orI y (plF y qj) m 0 (flF (fun _ => true) (plF y pj) n 0) 0, x, sA (sI y 604 v) 99 h', ?_, fun {z post} h => ?_, fun {z post} h => ?_⟩
      · refine ⟨hg.cg (fun n q1 q2 => by first | rfl | (simp only [sI_1, sI_A, sI_G, sA_1, sA_A, sA_G, sG_1, sG_A, sG_G]; repeat rw [if_neg (by omega)])) (fun n q1 q2 => by first | rfl | (simp only [sI_1, sI_A, sI_G, sA_1, sA_A, sA_G, sG_1, sG_A, sG_G]; repeat rw [if_neg (by omega)])) (by first | rfl | (simp only [sI_1, sI_A, sI_G, sA_1, sA_A, sA_G, sG_1, sG_A, sG_G]; repeat rw [if_neg (by omega)])) (fun n q1 q2 => by first | rfl | (simp only [sI_1, sI_A, sI_G, sA_1, sA_A, sA_G, sG_1, sG_A, sG_G]; repeat rw [if_neg (by omega)])), hc.cg (fun n q1 q2 => by first | rfl | (simp only [sI_1, sI_A, sI_G, sA_1, sA_A, sA_G, sG_1, sG_A, sG_G]; repeat rw [if_neg (by omega)])) (fun n q1 q2 => by first | rfl | (simp only [sI_1, sI_A, sI_G, sA_1, sA_A, sA_G, sG_1, sG_A, sG_G]; repeat rw [if_neg (by omega)])) (fun n q1 q2 => by first | rfl | (simp only [sI_1, sI_A, sI_G, sA_1, sA_A, sA_G, sG_1, sG_A, sG_G]; repeat rw [if_neg (by omega)])) (fun n q1 q2 => by first | rfl | (simp only [sI_1, sI_A, sI_G, sA_1, sA_A, sA_G, sG_1, sG_A, sG_G]; repeat rw [if_neg (by omega)])) (Nat.le_of_eq (nG_cg (by first | rfl | (simp only [sI_1, sI_A, sI_G, sA_1, sA_A, sA_G, sG_1, sG_A, sG_G]; repeat rw [if_neg (by omega)]))).symm), ht0.cg (by first | rfl | (simp only [sI_1, sI_A, sI_G, sA_1, sA_A, sA_G, sG_1, sG_A, sG_G]; repeat rw [if_neg (by omega)])) (by first | rfl | (simp only [sI_1, sI_A, sI_G, sA_1, sA_A, sA_G, sG_1, sG_A, sG_G]; repeat rw [if_neg (by omega)])) (by first | rfl | (simp only [sI_1, sI_A, sI_G, sA_1, sA_A, sA_G, sG_1, sG_A, sG_G]; repeat rw [if_neg (by omega)])) (by first | rfl | (simp only [sI_1, sI_A, sI_G, sA_1, sA_A, sA_G, sG_1, sG_A, sG_G]; repeat rw [if_neg (by omega)])), hl.cg (by first | rfl | (simp only [sI_1, sI_A, sI_G, sA_1, sA_A, sA_G, sG_1, sG_A, sG_G]; repeat rw [if_neg (by omega)])) (fun n q1 q2 => by first | rfl | (simp only [sI_1, sI_A, sI_G, sA_1, sA_A, sA_G, sG_1, sG_A, sG_G]; repeat rw [if_neg (by omega)])) (by first | rfl | (simp only [sI_1, sI_A, sI_G, sA_1, sA_A, sA_G, sG_1, sG_A, sG_G]; repeat rw [if_neg (by omega)])) (fun n q1 q2 => by first | rfl | (simp only [sI_1, sI_A, sI_G, sA_1, sA_A, sA_G, sG_1, sG_A, sG_G]; repeat rw [if_neg (by omega)])), hd.cg (Nat.le_succ _) (fun n q1 q2 => by first | rfl | (simp only [sI_1, sI_A, sI_G, sA_1, sA_A, sA_G, sG_1, sG_A, sG_G]; repeat rw [if_neg (by omega)])) (by first | rfl | (simp only [sI_1, sI_A, sI_G, sA_1, sA_A, sA_G, sG_1, sG_A, sG_G]; repeat rw [if_neg (by omega)])) (by first | rfl | (simp only [sI_1, sI_A, sI_G, sA_1, sA_A, sA_G, sG_1, sG_A, sG_G]; repeat rw [if_neg (by omega)])) (fun n q1 q2 => by first | rfl | (simp only [sI_1, sI_A, sI_G, sA_1, sA_A, sA_G, sG_1, sG_A, sG_G]; repeat rw [if_neg (by omega)])), hb.cg (fun n q1 q2 => by first | rfl | (simp only [sI_1, sI_A, sI_G, sA_1, sA_A, sA_G, sG_1, sG_A, sG_G]; repeat rw [if_neg (by omega)])) (fun n q1 q2 => by first | rfl | (simp only [sI_1, sI_A, sI_G, sA_1, sA_A, sA_G, sG_1, sG_A, sG_G]; repeat rw [if_neg (by omega)])) (fun n q1 q2 => by first | rfl | (simp only [sI_1, sI_A, sI_G, sA_1, sA_A, sA_G, sG_1, sG_A, sG_G]; repeat rw [if_neg (by omega)])) (fun n q1 q2 => by first | rfl | (simp only [sI_1, sI_A, sI_G, sA_1, sA_A, sA_G, sG_1, sG_A, sG_G]; repeat rw [if_neg (by omega)])), hs.cg (fun n q1 q2 => by first | rfl | (simp only [sI_1, sI_A, sI_G, sA_1, sA_A, sA_G, sG_1, sG_A, sG_G]; repeat rw [if_neg (by omega)])) (fun n q1 q2 => by first | rfl | (simp only [sI_1, sI_A, sI_G, sA_1, sA_A, sA_G, sG_1, sG_A, sG_G]; repeat rw [if_neg (by omega)])) (by first | exact Int.le_refl _ | (simp only [sI_1, sI_A, sI_G, sA_1, sA_A, sA_G, sG_1, sG_A, sG_G]; repeat rw [if_neg (by omega)])) (fun n q1 q2 => by first | rfl | (simp only [sI_1, sI_A, sI_G, sA_1, sA_A, sA_G, sG_1, sG_A, sG_G]; repeat rw [if_neg (by omega)])) (by first | rfl | (simp only [sI_1, sI_A, sI_G, sA_1, sA_A, sA_G, sG_1, sG_A, sG_G]; repeat rw [if_neg (by omega)]))⟩
      · refine PW.deeper (k := (3, 0, 0, z)) (Nat.le_of_ble_eq_true rfl) (Nat.le_refl _) (Nat.le_refl _) ?_
        refine PW_aload_n c_G_order_0 rfl ?_
        refine PW_iload_n c_G_order_1 rfl ?_
        refine PW_V0 (d2 := 1) (st := []) [.int a1] c_G_order_2 lk_G_order_209 (po_5 _ _) rfl rfl rfl (Nat.le_of_ble_eq_true rfl) (by first | decide | omega) (Nat.le_of_ble_eq_true rfl) ?_
        refine sp_G_firstShelf hc0 hpj e1 ?_
        show PW _ _ _ 5 [some (.ref 5), some (.int a1), none, none, none, none, none, none, none, none, none, none] [.ref (58 + 2 * pj)] (E x y)
        refine PW_astore_n (i := 2) (L2 := [some (.ref 5), some (.int a1), some (.ref (58 + 2 * pj)), none, none, none, none, none, none, none, none, none]) c_G_order_5 rfl (Nat.le_of_ble_eq_true rfl) rfl rfl ?_
        refine PW_aload_n c_G_order_6 rfl ?_
        refine PW_iload_n c_G_order_7 rfl ?_
        refine PW_V0 (d2 := 1) (st := []) [.int a1] c_G_order_8 lk_G_order_212 (po_5 _ _) rfl rfl rfl (Nat.le_of_ble_eq_true rfl) (by first | decide | omega) (Nat.le_of_ble_eq_true rfl) ?_
        refine sp_G_secondShelf hc0 hqj e2 ?_
        show PW _ _ _ 11 [some (.ref 5), some (.int a1), some (.ref (58 + 2 * pj)), none, none, none, none, none, none, none, none, none] [.ref (58 + 2 * qj)] (E x y)
        refine PW_astore_n (i := 3) (L2 := [some (.ref 5), some (.int a1), some (.ref (58 + 2 * pj)), some (.ref (58 + 2 * qj)), none, none, none, none, none, none, none, none]) c_G_order_11 rfl (Nat.le_of_ble_eq_true rfl) rfl rfl ?_
        refine PW_aload_n c_G_order_12 rfl ?_
        refine PW_ifnull c_G_order_13 ?_
        refine PW_aload_n c_G_order_16 rfl ?_
        refine PW_ifnonnull c_G_order_17 ?_
        refine PW_aload_n c_G_order_22 rfl ?_
        refine PW_aload_n c_G_order_23 rfl ?_
        refine PW_S0 (d2 := 1) (st := []) [.ref (58 + 2 * pj), .ref (58 + 2 * qj)] c_G_order_24 lk_G_order_215 rfl rfl rfl (Nat.le_of_ble_eq_true rfl) (by first | decide | omega) (Nat.le_of_ble_eq_true rfl) ?_
        show PW _ _ _ 0 [some (.ref (58 + 2 * pj)), some (.ref (58 + 2 * qj))] [] (E x y)
        refine PW_aload_n c_G_refusalOfBoth_0 rfl ?_
        refine PW_V0 (d2 := 0) (st := []) [] c_G_refusalOfBoth_1 lk_G_refusalOfBoth_339 (sh_po _ _ hpj) rfl rfl rfl (Nat.le_of_ble_eq_true rfl) (by first | decide | omega) (Nat.le_of_ble_eq_true rfl) ?_
        refine sp_F_isEmpty hpj  ?_
        show PW _ _ _ 4 [some (.ref (58 + 2 * pj)), some (.ref (58 + 2 * qj))] [.int (b2i (x.1 ((58 + 2 * pj) * 8 + 1) = 0))] (E x y)
        refine PW_if_ne c_G_refusalOfBoth_4 (fun h0 => absurd (b2i_n0.mp h0) p3) (fun _ => ?_)
        refine PW_aload_n c_G_refusalOfBoth_7 rfl ?_
        refine PW_V0 (d2 := 0) (st := []) [] c_G_refusalOfBoth_8 lk_G_refusalOfBoth_339 (sh_po _ _ hqj) rfl rfl rfl (Nat.le_of_ble_eq_true rfl) (by first | decide | omega) (Nat.le_of_ble_eq_true rfl) ?_
        refine sp_F_isEmpty hqj  ?_
        show PW _ _ _ 11 [some (.ref (58 + 2 * pj)), some (.ref (58 + 2 * qj))] [.int (b2i (x.1 ((58 + 2 * qj) * 8 + 1) = 0))] (E x y)
        refine PW_if_eq c_G_refusalOfBoth_11 (fun _ => ?_) (fun h1 => absurd (b2i_n0.mp h1) q3)
        refine PW_aload_n c_G_refusalOfBoth_17 rfl ?_
        refine PW_V0 (d2 := 0) (st := []) [] c_G_refusalOfBoth_18 lk_G_refusalOfBoth_376 (sh_po _ _ hpj) rfl rfl rfl (Nat.le_of_ble_eq_true rfl) (by first | decide | omega) (Nat.le_of_ble_eq_true rfl) ?_
        refine sp_F_holdsBytes hpj  ?_
        show PW _ _ _ 21 [some (.ref (58 + 2 * pj)), some (.ref (58 + 2 * qj))] [.int (b2i (x.1 ((58 + 2 * pj) * 8 + 1) = 2 ∧ x.1 ((58 + 2 * pj) * 8 + 3) = 0))] (E x y)
        refine PW_if_eq c_G_refusalOfBoth_21 (fun h2 => absurd p4 (b2i_0.mp h2)) (fun _ => ?_)
        refine PW_aload_n c_G_refusalOfBoth_24 rfl ?_
        refine PW_V0 (d2 := 0) (st := []) [] c_G_refusalOfBoth_25 lk_G_refusalOfBoth_376 (sh_po _ _ hqj) rfl rfl rfl (Nat.le_of_ble_eq_true rfl) (by first | decide | omega) (Nat.le_of_ble_eq_true rfl) ?_
        refine sp_F_holdsBytes hqj  ?_
        show PW _ _ _ 28 [some (.ref (58 + 2 * pj)), some (.ref (58 + 2 * qj))] [.int (b2i (x.1 ((58 + 2 * qj) * 8 + 1) = 2 ∧ x.1 ((58 + 2 * qj) * 8 + 3) = 0))] (E x y)
        refine PW_if_eq c_G_refusalOfBoth_28 (fun h3 => absurd q4 (b2i_0.mp h3)) (fun _ => ?_)
        refine PW_iconst (v := 0) c_G_refusalOfBoth_31 (by decide) ?_
        refine PW_goto c_G_refusalOfBoth_32 ?_
        refine PW_ireturn (ty := .int) c_G_refusalOfBoth_37 rfl rfl ?_
        show PW _ _ _ 27 [some (.ref 5), some (.int a1), some (.ref (58 + 2 * pj)), some (.ref (58 + 2 * qj)), none, none, none, none, none, none, none, none] [.int 0] (E x y)
        refine PW_istore (i := 4) (L2 := [some (.ref 5), some (.int a1), some (.ref (58 + 2 * pj)), some (.ref (58 + 2 * qj)), some (.int 0), none, none, none, none, none, none, none]) c_G_order_27 (Nat.le_of_ble_eq_true rfl) rfl rfl ?_
        refine PW_iload c_G_order_29 rfl ?_
        refine PW_if_eq c_G_order_31 (fun _ => ?_) (fun h4 => absurd (by decide) h4)
        refine PW_lconst (v := 0) c_G_order_37 (by decide) ?_
        refine PW_lstore (i := 5) (L2 := [some (.ref 5), some (.int a1), some (.ref (58 + 2 * pj)), some (.ref (58 + 2 * qj)), some (.int 0), some (.long 0), none, none, none, none, none, none]) c_G_order_38 (Nat.le_of_ble_eq_true rfl) rfl rfl ?_
        refine PW_iconst (v := 0) c_G_order_40 (by decide) ?_
        refine PW_istore (i := 7) (L2 := [some (.ref 5), some (.int a1), some (.ref (58 + 2 * pj)), some (.ref (58 + 2 * qj)), some (.int 0), some (.long 0), none, some (.int 0), none, none, none, none]) c_G_order_41 (Nat.le_of_ble_eq_true rfl) rfl rfl ?_
        refine PW_aload_n c_G_order_43 rfl ?_
        refine PW_V0 (d2 := 0) (st := []) [] c_G_order_44 lk_G_order_236 (sh_po _ _ hqj) rfl rfl rfl (Nat.le_of_ble_eq_true rfl) (by first | decide | omega) (Nat.le_of_ble_eq_true rfl) ?_
        show PW _ _ _ 0 [some (.ref (58 + 2 * qj))] [] (E x y)
        refine PW_aload_n c_F_size_0 rfl ?_
        refine PW_get (v := .int (x.1 ((58 + 2 * qj) * 8 + 4))) c_F_size_1 fl_F_25 (sh_g4 _ _ hqj) ?_
        refine PW_ireturn (ty := .int) c_F_size_4 rfl rfl ?_
        show PW _ _ _ 47 [some (.ref 5), some (.int a1), some (.ref (58 + 2 * pj)), some (.ref (58 + 2 * qj)), some (.int 0), some (.long 0), none, some (.int 0), none, none, none, none] [.int (x.1 ((58 + 2 * qj) * 8 + 4))] (E x y)
        refine PW_istore (i := 8) (L2 := [some (.ref 5), some (.int a1), some (.ref (58 + 2 * pj)), some (.ref (58 + 2 * qj)), some (.int 0), some (.long 0), none, some (.int 0), some (.int (x.1 ((58 + 2 * qj) * 8 + 4))), none, none, none]) c_G_order_47 (Nat.le_of_ble_eq_true rfl) rfl rfl ?_
        refine PW_iconst (v := 0) c_G_order_49 (by decide) ?_
        refine PW_istore (i := 9) (L2 := [some (.ref 5), some (.int a1), some (.ref (58 + 2 * pj)), some (.ref (58 + 2 * qj)), some (.int 0), some (.long 0), none, some (.int 0), some (.int (x.1 ((58 + 2 * qj) * 8 + 4))), some (.int 0), none, none]) c_G_order_50 (Nat.le_of_ble_eq_true rfl) rfl rfl ?_
        refine PW.eqL ?_ rfl rfl (lp_G_order (a1 := a1) hg hpj hqj hn hm p6 q6 q4 hP hQ m 0 0 (fun _ => true) 0 (Nat.zero_add _) frO_0 none none h)
        show ([some (.ref 5), some (.int a1), some (.ref (58 + 2 * pj)), some (.ref (58 + 2 * qj)), some (.int 0), some (.long 0), none, some (.int 0), some (.int (x.1 ((58 + 2 * qj) * 8 + 4))), some (.int 0), none, none] : List (Option Value)) = _
        rw [q6] <;> rfl
      · refine PW.deeper (k := (2, 0, 0, z)) (Nat.le_of_ble_eq_true rfl) (Nat.le_refl _) (Nat.le_refl _) ?_
        refine PW_iload_n c_M_order_0 rfl ?_
        refine PW_if_lt c_M_order_1 (fun h0 => absurd h0 hc0) (fun h0 => ?_)
        refine PW_iload_n c_M_order_4 rfl ?_
        refine PW_bipush (v := 10) c_M_order_5 (by decide) ?_
        refine PW_idiv c_M_order_7 (by decide) ?_
        refine PW_S0 (d2 := 1) (st := []) [.int (a1 / 10)] c_M_order_8 lk_M_order_143 rfl rfl rfl (Nat.le_of_ble_eq_true rfl) (by first | decide | omega) (Nat.le_of_ble_eq_true rfl) ?_
        refine sp_M_isShelf2  ?_
        show PW _ _ _ 11 [some (.ref 70), some (.int a1), none, none, none, none, none] [.int (b2i (0 ≤ (a1 / 10).toInt ∧ (a1 / 10).toInt < 6))] (E x y)
        refine PW_if_eq c_M_order_11 (fun h1 => absurd hc1 (b2i_0.mp h1)) (fun _ => ?_)
        refine PW_iload_n c_M_order_14 rfl ?_
        refine PW_bipush (v := 10) c_M_order_15 (by decide) ?_
        refine PW_irem c_M_order_17 (by decide) ?_
        refine PW_S0 (d2 := 1) (st := []) [.int (a1 - a1 / 10 * 10)] c_M_order_18 lk_M_order_143 rfl rfl rfl (Nat.le_of_ble_eq_true rfl) (by first | decide | omega) (Nat.le_of_ble_eq_true rfl) ?_
        refine sp_M_isShelf2  ?_
        show PW _ _ _ 21 [some (.ref 70), some (.int a1), none, none, none, none, none] [.int (b2i (0 ≤ (a1 - a1 / 10 * 10).toInt ∧ (a1 - a1 / 10 * 10).toInt < 6))] (E x y)
        refine PW_if_ne c_M_order_21 (fun _ => ?_) (fun h2 => absurd hc2 (b2i_0.mp h2))
        refine PW_aload_n c_M_order_26 rfl ?_
        refine PW_get (v := .ref 104) c_M_order_27 fl_M_111 (gf_70_53 _ _) ?_
        refine PW_iload_n c_M_order_30 rfl ?_
        refine PW_bipush (v := 10) c_M_order_31 (by decide) ?_
        refine PW_idiv c_M_order_33 (by decide) ?_
        refine PW_iald (j := pj) c_M_order_34 (ar_104 _ _) (by rw [e1]; exact vp_in_nI hpj (by decide)) (by rw [e1]; exact nI_clamp (by omega)) ?_
        show PW _ _ _ 35 [some (.ref 70), some (.int a1), none, none, none, none, none] [.int ((y.2.1 104) pj)] (E x y)
        refine PW_iconst (v := -1) c_M_order_35 (by decide) ?_
        refine PW_icmp_eq c_M_order_36 (fun h3 => absurd h3 p1) (fun h3 => ?_)
        refine PW_aload_n c_M_order_39 rfl ?_
        refine PW_get (v := .ref 104) c_M_order_40 fl_M_111 (gf_70_53 _ _) ?_
        refine PW_iload_n c_M_order_43 rfl ?_
        refine PW_bipush (v := 10) c_M_order_44 (by decide) ?_
        refine PW_irem c_M_order_46 (by decide) ?_
        refine PW_iald (j := qj) c_M_order_47 (ar_104 _ _) (by rw [e2]; exact vp_in_nI hqj (by decide)) (by rw [e2]; exact nI_clamp (by omega)) ?_
        show PW _ _ _ 48 [some (.ref 70), some (.int a1), none, none, none, none, none] [.int ((y.2.1 104) qj)] (E x y)
        refine PW_iconst (v := -1) c_M_order_48 (by decide) ?_
        refine PW_icmp_ne c_M_order_49 (fun h4 => ?_) (fun h4 => absurd h4 q1)
        refine PW_aload_n c_M_order_55 rfl ?_
        refine PW_iload_n c_M_order_56 rfl ?_
        refine PW_bipush (v := 10) c_M_order_57 (by decide) ?_
        refine PW_idiv c_M_order_59 (by decide) ?_
        refine PW_V0 (d2 := 0) (st := []) [.int (a1 / 10)] c_M_order_60 lk_M_order_286 (po_70 _ _) rfl rfl rfl (Nat.le_of_ble_eq_true rfl) (by first | decide | omega) (Nat.le_of_ble_eq_true rfl) ?_
        show PW _ _ _ 0 [some (.ref 70), some (.int (a1 / 10))] [] (E x y)
        refine PW_aload_n c_M_rowFault_0 rfl ?_
        refine PW_get (v := .ref 104) c_M_rowFault_1 fl_M_111 (gf_70_53 _ _) ?_
        refine PW_iload_n c_M_rowFault_4 rfl ?_
        refine PW_iald (j := pj) c_M_rowFault_5 (ar_104 _ _) (by rw [e1]; exact vp_in_nI hpj (by decide)) (by rw [e1]; exact nI_clamp (by omega)) ?_
        show PW _ _ _ 6 [some (.ref 70), some (.int (a1 / 10))] [.int ((y.2.1 104) pj)] (E x y)
        refine PW_iconst (v := -1) c_M_rowFault_6 (by decide) ?_
        refine PW_icmp_ne c_M_rowFault_7 (fun h5 => ?_) (fun h5 => absurd h5 p1)
        refine PW_aload_n c_M_rowFault_15 rfl ?_
        refine PW_get (v := .ref 104) c_M_rowFault_16 fl_M_111 (gf_70_53 _ _) ?_
        refine PW_iload_n c_M_rowFault_19 rfl ?_
        refine PW_iald (j := pj) c_M_rowFault_20 (ar_104 _ _) (by rw [e1]; exact vp_in_nI hpj (by decide)) (by rw [e1]; exact nI_clamp (by omega)) ?_
        show PW _ _ _ 21 [some (.ref 70), some (.int (a1 / 10))] [.int ((y.2.1 104) pj)] (E x y)
        refine PW_bipush (v := -2) c_M_rowFault_21 (by decide) ?_
        refine PW_icmp_ne c_M_rowFault_23 (fun h6 => absurd h6 (not_not_intro p2)) (fun h6 => ?_)
        refine PW_iconst (v := 0) c_M_rowFault_26 (by decide) ?_
        refine PW_goto c_M_rowFault_27 ?_
        refine PW_ireturn (ty := .int) c_M_rowFault_32 rfl rfl ?_
        show PW _ _ _ 63 [some (.ref 70), some (.int a1), none, none, none, none, none] [.int 0] (E x y)
        refine PW_if_lt c_M_order_63 (fun h7 => absurd h7 (by decide)) (fun _ => ?_)
        refine PW_aload_n c_M_order_66 rfl ?_
        refine PW_iload_n c_M_order_67 rfl ?_
        refine PW_bipush (v := 10) c_M_order_68 (by decide) ?_
        refine PW_irem c_M_order_70 (by decide) ?_
        refine PW_V0 (d2 := 0) (st := []) [.int (a1 - a1 / 10 * 10)] c_M_order_71 lk_M_order_286 (po_70 _ _) rfl rfl rfl (Nat.le_of_ble_eq_true rfl) (by first | decide | omega) (Nat.le_of_ble_eq_true rfl) ?_
        show PW _ _ _ 0 [some (.ref 70), some (.int (a1 - a1 / 10 * 10))] [] (E x y)
        refine PW_aload_n c_M_rowFault_0 rfl ?_
        refine PW_get (v := .ref 104) c_M_rowFault_1 fl_M_111 (gf_70_53 _ _) ?_
        refine PW_iload_n c_M_rowFault_4 rfl ?_
        refine PW_iald (j := qj) c_M_rowFault_5 (ar_104 _ _) (by rw [e2]; exact vp_in_nI hqj (by decide)) (by rw [e2]; exact nI_clamp (by omega)) ?_
        show PW _ _ _ 6 [some (.ref 70), some (.int (a1 - a1 / 10 * 10))] [.int ((y.2.1 104) qj)] (E x y)
        refine PW_iconst (v := -1) c_M_rowFault_6 (by decide) ?_
        refine PW_icmp_ne c_M_rowFault_7 (fun h8 => ?_) (fun h8 => absurd h8 q1)
        refine PW_aload_n c_M_rowFault_15 rfl ?_
        refine PW_get (v := .ref 104) c_M_rowFault_16 fl_M_111 (gf_70_53 _ _) ?_
        refine PW_iload_n c_M_rowFault_19 rfl ?_
        refine PW_iald (j := qj) c_M_rowFault_20 (ar_104 _ _) (by rw [e2]; exact vp_in_nI hqj (by decide)) (by rw [e2]; exact nI_clamp (by omega)) ?_
        show PW _ _ _ 21 [some (.ref 70), some (.int (a1 - a1 / 10 * 10))] [.int ((y.2.1 104) qj)] (E x y)
        refine PW_bipush (v := -2) c_M_rowFault_21 (by decide) ?_
        refine PW_icmp_ne c_M_rowFault_23 (fun h9 => absurd h9 (not_not_intro q2)) (fun h9 => ?_)
        refine PW_iconst (v := 0) c_M_rowFault_26 (by decide) ?_
        refine PW_goto c_M_rowFault_27 ?_
        refine PW_ireturn (ty := .int) c_M_rowFault_32 rfl rfl ?_
        show PW _ _ _ 74 [some (.ref 70), some (.int a1), none, none, none, none, none] [.int 0] (E x y)
        refine PW_if_ge c_M_order_74 (fun _ => ?_) (fun h10 => absurd (by decide) h10)
        refine PW_aload_n c_M_order_80 rfl ?_
        refine PW_iload_n c_M_order_81 rfl ?_
        refine PW_bipush (v := 10) c_M_order_82 (by decide) ?_
        refine PW_idiv c_M_order_84 (by decide) ?_
        rw [e1]
        show PW _ _ _ 85 [some (.ref 70), some (.int a1), none, none, none, none, none] [.int (nI pj), .ref 70] (E x y)
        refine PW_V0 (d2 := 1) (st := []) [.int (nI pj)] c_M_order_85 lk_M_order_336 (po_70 _ _) rfl rfl rfl (Nat.le_of_ble_eq_true rfl) (by first | decide | omega) (Nat.le_of_ble_eq_true rfl) ?_
        refine sp_M_layPile hpj hn p5 ?_
        show PW _ _ _ 88 [some (.ref 70), some (.int a1), none, none, none, none, none] [] (E x (sA (sI y 604 (nI n)) 99 (wi (plF y pj) (y.2.1 99) 0 n)))
        refine PW_iconst (v := 0) c_M_order_88 (by decide) ?_
        refine PW_istore_n (i := 2) (L2 := [some (.ref 70), some (.int a1), some (.int 0), none, none, none, none]) c_M_order_89 rfl (Nat.le_of_ble_eq_true rfl) rfl rfl ?_
        refine PW_iconst (v := 0) c_M_order_90 (by decide) ?_
        refine PW_istore_n (i := 3) (L2 := [some (.ref 70), some (.int a1), some (.int 0), some (.int 0), none, none, none]) c_M_order_91 rfl (Nat.le_of_ble_eq_true rfl) rfl rfl ?_
        refine PW.eqL ?_ rfl ?_ (H (l4 := none) (l5 := none) (l6 := none) h)
        · show ([some (.ref 70), some (.int a1), some (.int 0), some (.int 0), none, none, none] : List (Option Value)) = _
          rfl
        · rw [flF_lenT]
