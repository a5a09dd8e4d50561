set_option maxHeartbeats 4000000 in
theorem op_pair {t : Nat} {x y : XS} {a1 : Int32} {a2 : Int32} {a3 : Int32} {a4 : Int32} (hI : INV t x y) (ht : t < 512) : ∃ (r : Int32) (x' y' : XS), INV (t + 1) x' y' ∧ (∀ {z : ZS} {post : Option Value → List PE → Prop}, post (some (.int r)) (E x' y) → PW (90, 0, 0, z) m_G_pair post 0 [some (.ref 5), some (.int a1), some (.int a2), some (.int a3), some (.int a4), none, none, none] [] (E x y)) ∧ (∀ {z : ZS} {post : Option Value → List PE → Prop}, post (some (.int r)) (E x' y') → PW (90, 0, 0, z) m_M_pair post 0 [some (.ref 70), some (.int a1), some (.int a2), some (.int a3), some (.int a4), none, none] [] (E x' y)) := by
  obtain ⟨hg, hc, ht0, hl, hd, hb, hs⟩ := id hI
  obtain ⟨T, hT⟩ := lawIs_of hl

  by_cases hc0 : a1 < 0
  · refine ⟨-1, x, y, ?_, fun {z post} h => ?_, fun {z post} h => ?_⟩
    · exact INV_step hI
    · refine PW.deeper (k := (7, 0, 0, z)) (Nat.le_of_ble_eq_true rfl) (Nat.le_refl _) (Nat.le_refl _) ?_
      refine PW_aload_n c_G_pair_0 rfl ?_
      refine PW_iload_n c_G_pair_1 rfl ?_
      refine PW_V0 (d2 := 1) (st := []) [.int a1] c_G_pair_2 lk_G_pair_209 (po_5 _ _) rfl rfl rfl (Nat.le_of_ble_eq_true rfl) (by first | decide | omega) (Nat.le_of_ble_eq_true rfl) ?_
      refine sp_G_firstShelf_no (fun q => absurd hc0 q) ?_
      show PW _ _ _ 5 [some (.ref 5), some (.int a1), some (.int a2), some (.int a3), some (.int a4), none, none, none] [.null] (E x y)
      refine PW_astoreN (i := 5) (L2 := [some (.ref 5), some (.int a1), some (.int a2), some (.int a3), some (.int a4), some (.null), none, none]) c_G_pair_5 (Nat.le_of_ble_eq_true rfl) rfl rfl ?_
      refine PW_aload_n c_G_pair_7 rfl ?_
      refine PW_iload_n c_G_pair_8 rfl ?_
      refine PW_V0 (d2 := 1) (st := []) [.int a1] c_G_pair_9 lk_G_pair_212 (po_5 _ _) rfl rfl rfl (Nat.le_of_ble_eq_true rfl) (by first | decide | omega) (Nat.le_of_ble_eq_true rfl) ?_
      refine sp_G_secondShelf_no (fun q => absurd hc0 q) ?_
      show PW _ _ _ 12 [some (.ref 5), some (.int a1), some (.int a2), some (.int a3), some (.int a4), some (.null), none, none] [.null] (E x y)
      refine PW_astoreN (i := 6) (L2 := [some (.ref 5), some (.int a1), some (.int a2), some (.int a3), some (.int a4), some (.null), some (.null), none]) c_G_pair_12 (Nat.le_of_ble_eq_true rfl) rfl rfl ?_
      refine PW_aloadN c_G_pair_14 rfl ?_
      refine PW_ifnullN c_G_pair_16 ?_
      refine PW_iconst (v := -1) c_G_pair_31 (by decide) ?_
      refine PW_ireturn (ty := .int) c_G_pair_32 rfl rfl ?_
      exact h
    · refine PW.deeper (k := (5, 0, 0, z)) (Nat.le_of_ble_eq_true rfl) (Nat.le_refl _) (Nat.le_refl _) ?_
      refine PW_iload_n c_M_pair_0 rfl ?_
      refine PW_if_lt c_M_pair_1 (fun h0 => ?_) (fun h0 => absurd hc0 h0)
      refine PW_iconst (v := -1) c_M_pair_68 (by decide) ?_
      refine PW_ireturn (ty := .int) c_M_pair_69 rfl rfl ?_
      exact h
  have hs0 : 0 ≤ a1.toInt := by simp only [Int32.not_lt, Int32.le_iff_toInt_le, tiA] at hc0; omega
  obtain ⟨eA, eB⟩ := ss_ex hs0
  by_cases hc1 : ¬ (0 ≤ (a1 / 10).toInt ∧ (a1 / 10).toInt < 6)
  · by_cases hc2 : ¬ (0 ≤ (a1 - a1 / 10 * 10).toInt ∧ (a1 - a1 / 10 * 10).toInt < 6)
    · refine ⟨-1, x, y, ?_, fun {z post} h => ?_, fun {z post} h => ?_⟩
      · exact INV_step hI
      · refine PW.deeper (k := (7, 0, 0, z)) (Nat.le_of_ble_eq_true rfl) (Nat.le_refl _) (Nat.le_refl _) ?_
        refine PW_aload_n c_G_pair_0 rfl ?_
        refine PW_iload_n c_G_pair_1 rfl ?_
        refine PW_V0 (d2 := 1) (st := []) [.int a1] c_G_pair_2 lk_G_pair_209 (po_5 _ _) rfl rfl rfl (Nat.le_of_ble_eq_true rfl) (by first | decide | omega) (Nat.le_of_ble_eq_true rfl) ?_
        refine sp_G_firstShelf_no (fun _ => hc1) ?_
        show PW _ _ _ 5 [some (.ref 5), some (.int a1), some (.int a2), some (.int a3), some (.int a4), none, none, none] [.null] (E x y)
        refine PW_astoreN (i := 5) (L2 := [some (.ref 5), some (.int a1), some (.int a2), some (.int a3), some (.int a4), some (.null), none, none]) c_G_pair_5 (Nat.le_of_ble_eq_true rfl) rfl rfl ?_
        refine PW_aload_n c_G_pair_7 rfl ?_
        refine PW_iload_n c_G_pair_8 rfl ?_
        refine PW_V0 (d2 := 1) (st := []) [.int a1] c_G_pair_9 lk_G_pair_212 (po_5 _ _) rfl rfl rfl (Nat.le_of_ble_eq_true rfl) (by first | decide | omega) (Nat.le_of_ble_eq_true rfl) ?_
        refine sp_G_secondShelf_no (fun _ => hc2) ?_
        show PW _ _ _ 12 [some (.ref 5), some (.int a1), some (.int a2), some (.int a3), some (.int a4), some (.null), none, none] [.null] (E x y)
        refine PW_astoreN (i := 6) (L2 := [some (.ref 5), some (.int a1), some (.int a2), some (.int a3), some (.int a4), some (.null), some (.null), none]) c_G_pair_12 (Nat.le_of_ble_eq_true rfl) rfl rfl ?_
        refine PW_aloadN c_G_pair_14 rfl ?_
        refine PW_ifnullN c_G_pair_16 ?_
        refine PW_iconst (v := -1) c_G_pair_31 (by decide) ?_
        refine PW_ireturn (ty := .int) c_G_pair_32 rfl rfl ?_
        exact h
      · refine PW.deeper (k := (5, 0, 0, z)) (Nat.le_of_ble_eq_true rfl) (Nat.le_refl _) (Nat.le_refl _) ?_
        refine PW_iload_n c_M_pair_0 rfl ?_
        refine PW_if_lt c_M_pair_1 (fun h0 => absurd h0 hc0) (fun h0 => ?_)
        refine PW_iload_n c_M_pair_4 rfl ?_
        refine PW_bipush (v := 10) c_M_pair_5 (by decide) ?_
        refine PW_idiv c_M_pair_7 (by decide) ?_
        refine PW_S0 (d2 := 1) (st := []) [.int (a1 / 10)] c_M_pair_8 lk_M_pair_143 rfl rfl rfl (Nat.le_of_ble_eq_true rfl) (by first | decide | omega) (Nat.le_of_ble_eq_true rfl) ?_
        refine sp_M_isShelf2  ?_
        show PW _ _ _ 11 [some (.ref 70), some (.int a1), some (.int a2), some (.int a3), some (.int a4), none, none] [.int (b2i (0 ≤ (a1 / 10).toInt ∧ (a1 / 10).toInt < 6))] (E x y)
        refine PW_if_eq c_M_pair_11 (fun _ => ?_) (fun h1 => absurd (b2i_n0.mp h1) hc1)
        refine PW_iconst (v := -1) c_M_pair_68 (by decide) ?_
        refine PW_ireturn (ty := .int) c_M_pair_69 rfl rfl ?_
        exact h
    replace hc2 : 0 ≤ (a1 - a1 / 10 * 10).toInt ∧ (a1 - a1 / 10 * 10).toInt < 6 := Decidable.not_not.mp hc2
    obtain ⟨qj, hqj, e2⟩ : ∃ qj : Nat, qj < 6 ∧ a1 - a1 / 10 * 10 = nI qj := ⟨(a1 - a1 / 10 * 10).toInt.toNat, by omega, ss_nI (by omega) (by omega)⟩
    refine ⟨-1, x, y, ?_, fun {z post} h => ?_, fun {z post} h => ?_⟩
    · exact INV_step hI
    · refine PW.deeper (k := (7, 0, 0, z)) (Nat.le_of_ble_eq_true rfl) (Nat.le_refl _) (Nat.le_refl _) ?_
      refine PW_aload_n c_G_pair_0 rfl ?_
      refine PW_iload_n c_G_pair_1 rfl ?_
      refine PW_V0 (d2 := 1) (st := []) [.int a1] c_G_pair_2 lk_G_pair_209 (po_5 _ _) rfl rfl rfl (Nat.le_of_ble_eq_true rfl) (by first | decide | omega) (Nat.le_of_ble_eq_true rfl) ?_
      refine sp_G_firstShelf_no (fun _ => hc1) ?_
      show PW _ _ _ 5 [some (.ref 5), some (.int a1), some (.int a2), some (.int a3), some (.int a4), none, none, none] [.null] (E x y)
      refine PW_astoreN (i := 5) (L2 := [some (.ref 5), some (.int a1), some (.int a2), some (.int a3), some (.int a4), some (.null), none, none]) c_G_pair_5 (Nat.le_of_ble_eq_true rfl) rfl rfl ?_
      refine PW_aload_n c_G_pair_7 rfl ?_
      refine PW_iload_n c_G_pair_8 rfl ?_
      refine PW_V0 (d2 := 1) (st := []) [.int a1] c_G_pair_9 lk_G_pair_212 (po_5 _ _) rfl rfl rfl (Nat.le_of_ble_eq_true rfl) (by first | decide | omega) (Nat.le_of_ble_eq_true rfl) ?_
      refine sp_G_secondShelf hc0 hqj e2 ?_
      show PW _ _ _ 12 [some (.ref 5), some (.int a1), some (.int a2), some (.int a3), some (.int a4), some (.null), none, none] [.ref (58 + 2 * qj)] (E x y)
      refine PW_astore (i := 6) (L2 := [some (.ref 5), some (.int a1), some (.int a2), some (.int a3), some (.int a4), some (.null), some (.ref (58 + 2 * qj)), none]) c_G_pair_12 (Nat.le_of_ble_eq_true rfl) rfl rfl ?_
      refine PW_aloadN c_G_pair_14 rfl ?_
      refine PW_ifnullN c_G_pair_16 ?_
      refine PW_iconst (v := -1) c_G_pair_31 (by decide) ?_
      refine PW_ireturn (ty := .int) c_G_pair_32 rfl rfl ?_
      exact h
    · refine PW.deeper (k := (5, 0, 0, z)) (Nat.le_of_ble_eq_true rfl) (Nat.le_refl _) (Nat.le_refl _) ?_
      refine PW_iload_n c_M_pair_0 rfl ?_
      refine PW_if_lt c_M_pair_1 (fun h0 => absurd h0 hc0) (fun h0 => ?_)
      refine PW_iload_n c_M_pair_4 rfl ?_
      refine PW_bipush (v := 10) c_M_pair_5 (by decide) ?_
      refine PW_idiv c_M_pair_7 (by decide) ?_
      refine PW_S0 (d2 := 1) (st := []) [.int (a1 / 10)] c_M_pair_8 lk_M_pair_143 rfl rfl rfl (Nat.le_of_ble_eq_true rfl) (by first | decide | omega) (Nat.le_of_ble_eq_true rfl) ?_
      refine sp_M_isShelf2  ?_
      show PW _ _ _ 11 [some (.ref 70), some (.int a1), some (.int a2), some (.int a3), some (.int a4), none, none] [.int (b2i (0 ≤ (a1 / 10).toInt ∧ (a1 / 10).toInt < 6))] (E x y)
      refine PW_if_eq c_M_pair_11 (fun _ => ?_) (fun h1 => absurd (b2i_n0.mp h1) hc1)
      refine PW_iconst (v := -1) c_M_pair_68 (by decide) ?_
      refine PW_ireturn (ty := .int) c_M_pair_69 rfl rfl ?_
      exact h
  replace hc1 : 0 ≤ (a1 / 10).toInt ∧ (a1 / 10).toInt < 6 := Decidable.not_not.mp hc1
  obtain ⟨pj, hpj, e1⟩ : ∃ pj : Nat, pj < 6 ∧ a1 / 10 = nI pj := ⟨(a1 / 10).toInt.toNat, by omega, ss_nI (by omega) (by omega)⟩
  by_cases hc2 : ¬ (0 ≤ (a1 - a1 / 10 * 10).toInt ∧ (a1 - a1 / 10 * 10).toInt < 6)
  · refine ⟨-1, x, y, ?_, fun {z post} h => ?_, fun {z post} h => ?_⟩
    · exact INV_step hI
    · refine PW.deeper (k := (7, 0, 0, z)) (Nat.le_of_ble_eq_true rfl) (Nat.le_refl _) (Nat.le_refl _) ?_
      refine PW_aload_n c_G_pair_0 rfl ?_
      refine PW_iload_n c_G_pair_1 rfl ?_
      refine PW_V0 (d2 := 1) (st := []) [.int a1] c_G_pair_2 lk_G_pair_209 (po_5 _ _) rfl rfl rfl (Nat.le_of_ble_eq_true rfl) (by first | decide | omega) (Nat.le_of_ble_eq_true rfl) ?_
      refine sp_G_firstShelf hc0 hpj e1 ?_
      show PW _ _ _ 5 [some (.ref 5), some (.int a1), some (.int a2), some (.int a3), some (.int a4), none, none, none] [.ref (58 + 2 * pj)] (E x y)
      refine PW_astore (i := 5) (L2 := [some (.ref 5), some (.int a1), some (.int a2), some (.int a3), some (.int a4), some (.ref (58 + 2 * pj)), none, none]) c_G_pair_5 (Nat.le_of_ble_eq_true rfl) rfl rfl ?_
      refine PW_aload_n c_G_pair_7 rfl ?_
      refine PW_iload_n c_G_pair_8 rfl ?_
      refine PW_V0 (d2 := 1) (st := []) [.int a1] c_G_pair_9 lk_G_pair_212 (po_5 _ _) rfl rfl rfl (Nat.le_of_ble_eq_true rfl) (by first | decide | omega) (Nat.le_of_ble_eq_true rfl) ?_
      refine sp_G_secondShelf_no (fun _ => hc2) ?_
      show PW _ _ _ 12 [some (.ref 5), some (.int a1), some (.int a2), some (.int a3), some (.int a4), some (.ref (58 + 2 * pj)), none, none] [.null] (E x y)
      refine PW_astoreN (i := 6) (L2 := [some (.ref 5), some (.int a1), some (.int a2), some (.int a3), some (.int a4), some (.ref (58 + 2 * pj)), some (.null), none]) c_G_pair_12 (Nat.le_of_ble_eq_true rfl) rfl rfl ?_
      refine PW_aload c_G_pair_14 rfl ?_
      refine PW_ifnull c_G_pair_16 ?_
      refine PW_aloadN c_G_pair_19 rfl ?_
      refine PW_ifnullN c_G_pair_21 ?_
      refine PW_iconst (v := -1) c_G_pair_31 (by decide) ?_
      refine PW_ireturn (ty := .int) c_G_pair_32 rfl rfl ?_
      exact h
    · refine PW.deeper (k := (5, 0, 0, z)) (Nat.le_of_ble_eq_true rfl) (Nat.le_refl _) (Nat.le_refl _) ?_
      refine PW_iload_n c_M_pair_0 rfl ?_
      refine PW_if_lt c_M_pair_1 (fun h0 => absurd h0 hc0) (fun h0 => ?_)
      refine PW_iload_n c_M_pair_4 rfl ?_
      refine PW_bipush (v := 10) c_M_pair_5 (by decide) ?_
      refine PW_idiv c_M_pair_7 (by decide) ?_
      refine PW_S0 (d2 := 1) (st := []) [.int (a1 / 10)] c_M_pair_8 lk_M_pair_143 rfl rfl rfl (Nat.le_of_ble_eq_true rfl) (by first | decide | omega) (Nat.le_of_ble_eq_true rfl) ?_
      refine sp_M_isShelf2  ?_
      show PW _ _ _ 11 [some (.ref 70), some (.int a1), some (.int a2), some (.int a3), some (.int a4), none, none] [.int (b2i (0 ≤ (a1 / 10).toInt ∧ (a1 / 10).toInt < 6))] (E x y)
      refine PW_if_eq c_M_pair_11 (fun h1 => absurd hc1 (b2i_0.mp h1)) (fun _ => ?_)
      refine PW_iload_n c_M_pair_14 rfl ?_
      refine PW_bipush (v := 10) c_M_pair_15 (by decide) ?_
      refine PW_irem c_M_pair_17 (by decide) ?_
      refine PW_S0 (d2 := 1) (st := []) [.int (a1 - a1 / 10 * 10)] c_M_pair_18 lk_M_pair_143 rfl rfl rfl (Nat.le_of_ble_eq_true rfl) (by first | decide | omega) (Nat.le_of_ble_eq_true rfl) ?_
      refine sp_M_isShelf2  ?_
      show PW _ _ _ 21 [some (.ref 70), some (.int a1), some (.int a2), some (.int a3), some (.int a4), none, none] [.int (b2i (0 ≤ (a1 - a1 / 10 * 10).toInt ∧ (a1 - a1 / 10 * 10).toInt < 6))] (E x y)
      refine PW_if_eq c_M_pair_21 (fun _ => ?_) (fun h2 => absurd (b2i_n0.mp h2) hc2)
      refine PW_iconst (v := -1) c_M_pair_68 (by decide) ?_
      refine PW_ireturn (ty := .int) c_M_pair_69 rfl rfl ?_
      exact h
  replace hc2 : 0 ≤ (a1 - a1 / 10 * 10).toInt ∧ (a1 - a1 / 10 * 10).toInt < 6 := Decidable.not_not.mp hc2
  obtain ⟨qj, hqj, e2⟩ : ∃ qj : Nat, qj < 6 ∧ a1 - a1 / 10 * 10 = nI qj := ⟨(a1 - a1 / 10 * 10).toInt.toNat, by omega, ss_nI (by omega) (by omega)⟩
  by_cases hr0 : a2 < 0
  · refine ⟨-1, x, y, ?_, fun {z post} h => ?_, fun {z post} h => ?_⟩
    · exact INV_step hI
    · refine PW.deeper (k := (7, 0, 0, z)) (Nat.le_of_ble_eq_true rfl) (Nat.le_refl _) (Nat.le_refl _) ?_
      refine PW_aload_n c_G_pair_0 rfl ?_
      refine PW_iload_n c_G_pair_1 rfl ?_
      refine PW_V0 (d2 := 1) (st := []) [.int a1] c_G_pair_2 lk_G_pair_209 (po_5 _ _) rfl rfl rfl (Nat.le_of_ble_eq_true rfl) (by first | decide | omega) (Nat.le_of_ble_eq_true rfl) ?_
      refine sp_G_firstShelf hc0 hpj e1 ?_
      show PW _ _ _ 5 [some (.ref 5), some (.int a1), some (.int a2), some (.int a3), some (.int a4), none, none, none] [.ref (58 + 2 * pj)] (E x y)
      refine PW_astore (i := 5) (L2 := [some (.ref 5), some (.int a1), some (.int a2), some (.int a3), some (.int a4), some (.ref (58 + 2 * pj)), none, none]) c_G_pair_5 (Nat.le_of_ble_eq_true rfl) rfl rfl ?_
      refine PW_aload_n c_G_pair_7 rfl ?_
      refine PW_iload_n c_G_pair_8 rfl ?_
      refine PW_V0 (d2 := 1) (st := []) [.int a1] c_G_pair_9 lk_G_pair_212 (po_5 _ _) rfl rfl rfl (Nat.le_of_ble_eq_true rfl) (by first | decide | omega) (Nat.le_of_ble_eq_true rfl) ?_
      refine sp_G_secondShelf hc0 hqj e2 ?_
      show PW _ _ _ 12 [some (.ref 5), some (.int a1), some (.int a2), some (.int a3), some (.int a4), some (.ref (58 + 2 * pj)), none, none] [.ref (58 + 2 * qj)] (E x y)
      refine PW_astore (i := 6) (L2 := [some (.ref 5), some (.int a1), some (.int a2), some (.int a3), some (.int a4), some (.ref (58 + 2 * pj)), some (.ref (58 + 2 * qj)), none]) c_G_pair_12 (Nat.le_of_ble_eq_true rfl) rfl rfl ?_
      refine PW_aload c_G_pair_14 rfl ?_
      refine PW_ifnull c_G_pair_16 ?_
      refine PW_aload c_G_pair_19 rfl ?_
      refine PW_ifnull c_G_pair_21 ?_
      refine PW_iload_n c_G_pair_24 rfl ?_
      refine PW_S0 (d2 := 1) (st := []) [.int a2] c_G_pair_25 lk_G_pair_90 rfl rfl rfl (Nat.le_of_ble_eq_true rfl) (by first | decide | omega) (Nat.le_of_ble_eq_true rfl) ?_
      show PW _ _ _ 0 [some (.int a2)] [] (E x y)
      refine PW_iload_n c_G_isRoomPair_0 rfl ?_
      refine PW_if_lt c_G_isRoomPair_1 (fun h0 => ?_) (fun h0 => absurd hr0 h0)
      refine PW_iconst (v := 0) c_G_isRoomPair_28 (by decide) ?_
      refine PW_ireturn (ty := .boolean) c_G_isRoomPair_29 rfl (by decide +kernel) ?_
      show PW _ _ _ 28 [some (.ref 5), some (.int a1), some (.int a2), some (.int a3), some (.int a4), some (.ref (58 + 2 * pj)), some (.ref (58 + 2 * qj)), none] [.int 0] (E x y)
      refine PW_if_ne c_G_pair_28 (fun h1 => absurd (by decide) h1) (fun _ => ?_)
      refine PW_iconst (v := -1) c_G_pair_31 (by decide) ?_
      refine PW_ireturn (ty := .int) c_G_pair_32 rfl rfl ?_
      exact h
    · refine PW.deeper (k := (5, 0, 0, z)) (Nat.le_of_ble_eq_true rfl) (Nat.le_refl _) (Nat.le_refl _) ?_
      refine PW_iload_n c_M_pair_0 rfl ?_
      refine PW_if_lt c_M_pair_1 (fun h0 => absurd h0 hc0) (fun h0 => ?_)
      refine PW_iload_n c_M_pair_4 rfl ?_
      refine PW_bipush (v := 10) c_M_pair_5 (by decide) ?_
      refine PW_idiv c_M_pair_7 (by decide) ?_
      refine PW_S0 (d2 := 1) (st := []) [.int (a1 / 10)] c_M_pair_8 lk_M_pair_143 rfl rfl rfl (Nat.le_of_ble_eq_true rfl) (by first | decide | omega) (Nat.le_of_ble_eq_true rfl) ?_
      refine sp_M_isShelf2  ?_
      show PW _ _ _ 11 [some (.ref 70), some (.int a1), some (.int a2), some (.int a3), some (.int a4), none, none] [.int (b2i (0 ≤ (a1 / 10).toInt ∧ (a1 / 10).toInt < 6))] (E x y)
      refine PW_if_eq c_M_pair_11 (fun h1 => absurd hc1 (b2i_0.mp h1)) (fun _ => ?_)
      refine PW_iload_n c_M_pair_14 rfl ?_
      refine PW_bipush (v := 10) c_M_pair_15 (by decide) ?_
      refine PW_irem c_M_pair_17 (by decide) ?_
      refine PW_S0 (d2 := 1) (st := []) [.int (a1 - a1 / 10 * 10)] c_M_pair_18 lk_M_pair_143 rfl rfl rfl (Nat.le_of_ble_eq_true rfl) (by first | decide | omega) (Nat.le_of_ble_eq_true rfl) ?_
      refine sp_M_isShelf2  ?_
      show PW _ _ _ 21 [some (.ref 70), some (.int a1), some (.int a2), some (.int a3), some (.int a4), none, none] [.int (b2i (0 ≤ (a1 - a1 / 10 * 10).toInt ∧ (a1 - a1 / 10 * 10).toInt < 6))] (E x y)
      refine PW_if_eq c_M_pair_21 (fun h2 => absurd hc2 (b2i_0.mp h2)) (fun _ => ?_)
      refine PW_iload_n c_M_pair_24 rfl ?_
      refine PW_if_lt c_M_pair_25 (fun h3 => ?_) (fun h3 => absurd hr0 h3)
      refine PW_iconst (v := -1) c_M_pair_68 (by decide) ?_
      refine PW_ireturn (ty := .int) c_M_pair_69 rfl rfl ?_
      exact h
  by_cases hr1 : ¬ (0 ≤ a2 / 10 ∧ a2 / 10 ≤ 4)
  · refine ⟨-1, x, y, ?_, fun {z post} h => ?_, fun {z post} h => ?_⟩
    · exact INV_step hI
    · refine PW.deeper (k := (7, 0, 0, z)) (Nat.le_of_ble_eq_true rfl) (Nat.le_refl _) (Nat.le_refl _) ?_
      refine PW_aload_n c_G_pair_0 rfl ?_
      refine PW_iload_n c_G_pair_1 rfl ?_
      refine PW_V0 (d2 := 1) (st := []) [.int a1] c_G_pair_2 lk_G_pair_209 (po_5 _ _) rfl rfl rfl (Nat.le_of_ble_eq_true rfl) (by first | decide | omega) (Nat.le_of_ble_eq_true rfl) ?_
      refine sp_G_firstShelf hc0 hpj e1 ?_
      show PW _ _ _ 5 [some (.ref 5), some (.int a1), some (.int a2), some (.int a3), some (.int a4), none, none, none] [.ref (58 + 2 * pj)] (E x y)
      refine PW_astore (i := 5) (L2 := [some (.ref 5), some (.int a1), some (.int a2), some (.int a3), some (.int a4), some (.ref (58 + 2 * pj)), none, none]) c_G_pair_5 (Nat.le_of_ble_eq_true rfl) rfl rfl ?_
      refine PW_aload_n c_G_pair_7 rfl ?_
      refine PW_iload_n c_G_pair_8 rfl ?_
      refine PW_V0 (d2 := 1) (st := []) [.int a1] c_G_pair_9 lk_G_pair_212 (po_5 _ _) rfl rfl rfl (Nat.le_of_ble_eq_true rfl) (by first | decide | omega) (Nat.le_of_ble_eq_true rfl) ?_
      refine sp_G_secondShelf hc0 hqj e2 ?_
      show PW _ _ _ 12 [some (.ref 5), some (.int a1), some (.int a2), some (.int a3), some (.int a4), some (.ref (58 + 2 * pj)), none, none] [.ref (58 + 2 * qj)] (E x y)
      refine PW_astore (i := 6) (L2 := [some (.ref 5), some (.int a1), some (.int a2), some (.int a3), some (.int a4), some (.ref (58 + 2 * pj)), some (.ref (58 + 2 * qj)), none]) c_G_pair_12 (Nat.le_of_ble_eq_true rfl) rfl rfl ?_
      refine PW_aload c_G_pair_14 rfl ?_
      refine PW_ifnull c_G_pair_16 ?_
      refine PW_aload c_G_pair_19 rfl ?_
      refine PW_ifnull c_G_pair_21 ?_
      refine PW_iload_n c_G_pair_24 rfl ?_
      refine PW_S0 (d2 := 1) (st := []) [.int a2] c_G_pair_25 lk_G_pair_90 rfl rfl rfl (Nat.le_of_ble_eq_true rfl) (by first | decide | omega) (Nat.le_of_ble_eq_true rfl) ?_
      show PW _ _ _ 0 [some (.int a2)] [] (E x y)
      refine PW_iload_n c_G_isRoomPair_0 rfl ?_
      refine PW_if_lt c_G_isRoomPair_1 (fun h0 => absurd h0 hr0) (fun h0 => ?_)
      refine PW_iload_n c_G_isRoomPair_4 rfl ?_
      refine PW_bipush (v := 10) c_G_isRoomPair_5 (by decide) ?_
      refine PW_idiv c_G_isRoomPair_7 (by decide) ?_
      refine PW_S0 (d2 := 0) (st := []) [.int (a2 / 10)] c_G_isRoomPair_8 lk_G_isRoomPair_121 rfl rfl rfl (Nat.le_of_ble_eq_true rfl) (by first | decide | omega) (Nat.le_of_ble_eq_true rfl) ?_
      refine sp_H_isRoom  ?_
      show PW _ _ _ 11 [some (.int a2)] [.int (b2i (0 ≤ (a2 / 10) ∧ (a2 / 10) ≤ 4))] (E x y)
      refine PW_if_eq c_G_isRoomPair_11 (fun _ => ?_) (fun h1 => absurd (b2i_n0.mp h1) hr1)
      refine PW_iconst (v := 0) c_G_isRoomPair_28 (by decide) ?_
      refine PW_ireturn (ty := .boolean) c_G_isRoomPair_29 rfl (by decide +kernel) ?_
      show PW _ _ _ 28 [some (.ref 5), some (.int a1), some (.int a2), some (.int a3), some (.int a4), some (.ref (58 + 2 * pj)), some (.ref (58 + 2 * qj)), none] [.int 0] (E x y)
      refine PW_if_ne c_G_pair_28 (fun h2 => absurd (by decide) h2) (fun _ => ?_)
      refine PW_iconst (v := -1) c_G_pair_31 (by decide) ?_
      refine PW_ireturn (ty := .int) c_G_pair_32 rfl rfl ?_
      exact h
    · refine PW.deeper (k := (5, 0, 0, z)) (Nat.le_of_ble_eq_true rfl) (Nat.le_refl _) (Nat.le_refl _) ?_
      refine PW_iload_n c_M_pair_0 rfl ?_
      refine PW_if_lt c_M_pair_1 (fun h0 => absurd h0 hc0) (fun h0 => ?_)
      refine PW_iload_n c_M_pair_4 rfl ?_
      refine PW_bipush (v := 10) c_M_pair_5 (by decide) ?_
      refine PW_idiv c_M_pair_7 (by decide) ?_
      refine PW_S0 (d2 := 1) (st := []) [.int (a1 / 10)] c_M_pair_8 lk_M_pair_143 rfl rfl rfl (Nat.le_of_ble_eq_true rfl) (by first | decide | omega) (Nat.le_of_ble_eq_true rfl) ?_
      refine sp_M_isShelf2  ?_
      show PW _ _ _ 11 [some (.ref 70), some (.int a1), some (.int a2), some (.int a3), some (.int a4), none, none] [.int (b2i (0 ≤ (a1 / 10).toInt ∧ (a1 / 10).toInt < 6))] (E x y)
      refine PW_if_eq c_M_pair_11 (fun h1 => absurd hc1 (b2i_0.mp h1)) (fun _ => ?_)
      refine PW_iload_n c_M_pair_14 rfl ?_
      refine PW_bipush (v := 10) c_M_pair_15 (by decide) ?_
      refine PW_irem c_M_pair_17 (by decide) ?_
      refine PW_S0 (d2 := 1) (st := []) [.int (a1 - a1 / 10 * 10)] c_M_pair_18 lk_M_pair_143 rfl rfl rfl (Nat.le_of_ble_eq_true rfl) (by first | decide | omega) (Nat.le_of_ble_eq_true rfl) ?_
      refine sp_M_isShelf2  ?_
      show PW _ _ _ 21 [some (.ref 70), some (.int a1), some (.int a2), some (.int a3), some (.int a4), none, none] [.int (b2i (0 ≤ (a1 - a1 / 10 * 10).toInt ∧ (a1 - a1 / 10 * 10).toInt < 6))] (E x y)
      refine PW_if_eq c_M_pair_21 (fun h2 => absurd hc2 (b2i_0.mp h2)) (fun _ => ?_)
      refine PW_iload_n c_M_pair_24 rfl ?_
      refine PW_if_lt c_M_pair_25 (fun h3 => absurd h3 hr0) (fun h3 => ?_)
      refine PW_iload_n c_M_pair_28 rfl ?_
      refine PW_bipush (v := 10) c_M_pair_29 (by decide) ?_
      refine PW_idiv c_M_pair_31 (by decide) ?_
      refine PW_S0 (d2 := 1) (st := []) [.int (a2 / 10)] c_M_pair_32 lk_M_pair_135 rfl rfl rfl (Nat.le_of_ble_eq_true rfl) (by first | decide | omega) (Nat.le_of_ble_eq_true rfl) ?_
      refine sp_M_isRoom  ?_
      show PW _ _ _ 35 [some (.ref 70), some (.int a1), some (.int a2), some (.int a3), some (.int a4), none, none] [.int (b2i (0 ≤ (a2 / 10) ∧ (a2 / 10) ≤ 4))] (E x y)
      refine PW_if_eq c_M_pair_35 (fun _ => ?_) (fun h4 => absurd (b2i_n0.mp h4) hr1)
      refine PW_iconst (v := -1) c_M_pair_68 (by decide) ?_
      refine PW_ireturn (ty := .int) c_M_pair_69 rfl rfl ?_
      exact h
  replace hr1 := Decidable.not_not.mp hr1
  by_cases hr2 : ¬ (0 ≤ a2 - a2 / 10 * 10 ∧ a2 - a2 / 10 * 10 ≤ 4)
  · refine ⟨-1, x, y, ?_, fun {z post} h => ?_, fun {z post} h => ?_⟩
    · exact INV_step hI
    · refine PW.deeper (k := (7, 0, 0, z)) (Nat.le_of_ble_eq_true rfl) (Nat.le_refl _) (Nat.le_refl _) ?_
      refine PW_aload_n c_G_pair_0 rfl ?_
      refine PW_iload_n c_G_pair_1 rfl ?_
      refine PW_V0 (d2 := 1) (st := []) [.int a1] c_G_pair_2 lk_G_pair_209 (po_5 _ _) rfl rfl rfl (Nat.le_of_ble_eq_true rfl) (by first | decide | omega) (Nat.le_of_ble_eq_true rfl) ?_
      refine sp_G_firstShelf hc0 hpj e1 ?_
      show PW _ _ _ 5 [some (.ref 5), some (.int a1), some (.int a2), some (.int a3), some (.int a4), none, none, none] [.ref (58 + 2 * pj)] (E x y)
      refine PW_astore (i := 5) (L2 := [some (.ref 5), some (.int a1), some (.int a2), some (.int a3), some (.int a4), some (.ref (58 + 2 * pj)), none, none]) c_G_pair_5 (Nat.le_of_ble_eq_true rfl) rfl rfl ?_
      refine PW_aload_n c_G_pair_7 rfl ?_
      refine PW_iload_n c_G_pair_8 rfl ?_
      refine PW_V0 (d2 := 1) (st := []) [.int a1] c_G_pair_9 lk_G_pair_212 (po_5 _ _) rfl rfl rfl (Nat.le_of_ble_eq_true rfl) (by first | decide | omega) (Nat.le_of_ble_eq_true rfl) ?_
      refine sp_G_secondShelf hc0 hqj e2 ?_
      show PW _ _ _ 12 [some (.ref 5), some (.int a1), some (.int a2), some (.int a3), some (.int a4), some (.ref (58 + 2 * pj)), none, none] [.ref (58 + 2 * qj)] (E x y)
      refine PW_astore (i := 6) (L2 := [some (.ref 5), some (.int a1), some (.int a2), some (.int a3), some (.int a4), some (.ref (58 + 2 * pj)), some (.ref (58 + 2 * qj)), none]) c_G_pair_12 (Nat.le_of_ble_eq_true rfl) rfl rfl ?_
      refine PW_aload c_G_pair_14 rfl ?_
      refine PW_ifnull c_G_pair_16 ?_
      refine PW_aload c_G_pair_19 rfl ?_
      refine PW_ifnull c_G_pair_21 ?_
      refine PW_iload_n c_G_pair_24 rfl ?_
      refine PW_S0 (d2 := 1) (st := []) [.int a2] c_G_pair_25 lk_G_pair_90 rfl rfl rfl (Nat.le_of_ble_eq_true rfl) (by first | decide | omega) (Nat.le_of_ble_eq_true rfl) ?_
      show PW _ _ _ 0 [some (.int a2)] [] (E x y)
      refine PW_iload_n c_G_isRoomPair_0 rfl ?_
      refine PW_if_lt c_G_isRoomPair_1 (fun h0 => absurd h0 hr0) (fun h0 => ?_)
      refine PW_iload_n c_G_isRoomPair_4 rfl ?_
      refine PW_bipush (v := 10) c_G_isRoomPair_5 (by decide) ?_
      refine PW_idiv c_G_isRoomPair_7 (by decide) ?_
      refine PW_S0 (d2 := 0) (st := []) [.int (a2 / 10)] c_G_isRoomPair_8 lk_G_isRoomPair_121 rfl rfl rfl (Nat.le_of_ble_eq_true rfl) (by first | decide | omega) (Nat.le_of_ble_eq_true rfl) ?_
      refine sp_H_isRoom  ?_
      show PW _ _ _ 11 [some (.int a2)] [.int (b2i (0 ≤ (a2 / 10) ∧ (a2 / 10) ≤ 4))] (E x y)
      refine PW_if_eq c_G_isRoomPair_11 (fun h1 => absurd hr1 (b2i_0.mp h1)) (fun _ => ?_)
      refine PW_iload_n c_G_isRoomPair_14 rfl ?_
      refine PW_bipush (v := 10) c_G_isRoomPair_15 (by decide) ?_
      refine PW_irem c_G_isRoomPair_17 (by decide) ?_
      refine PW_S0 (d2 := 0) (st := []) [.int (a2 - a2 / 10 * 10)] c_G_isRoomPair_18 lk_G_isRoomPair_121 rfl rfl rfl (Nat.le_of_ble_eq_true rfl) (by first | decide | omega) (Nat.le_of_ble_eq_true rfl) ?_
      refine sp_H_isRoom  ?_
      show PW _ _ _ 21 [some (.int a2)] [.int (b2i (0 ≤ (a2 - a2 / 10 * 10) ∧ (a2 - a2 / 10 * 10) ≤ 4))] (E x y)
      refine PW_if_eq c_G_isRoomPair_21 (fun _ => ?_) (fun h2 => absurd (b2i_n0.mp h2) hr2)
      refine PW_iconst (v := 0) c_G_isRoomPair_28 (by decide) ?_
      refine PW_ireturn (ty := .boolean) c_G_isRoomPair_29 rfl (by decide +kernel) ?_
      show PW _ _ _ 28 [some (.ref 5), some (.int a1), some (.int a2), some (.int a3), some (.int a4), some (.ref (58 + 2 * pj)), some (.ref (58 + 2 * qj)), none] [.int 0] (E x y)
      refine PW_if_ne c_G_pair_28 (fun h3 => absurd (by decide) h3) (fun _ => ?_)
      refine PW_iconst (v := -1) c_G_pair_31 (by decide) ?_
      refine PW_ireturn (ty := .int) c_G_pair_32 rfl rfl ?_
      exact h
    · refine PW.deeper (k := (5, 0, 0, z)) (Nat.le_of_ble_eq_true rfl) (Nat.le_refl _) (Nat.le_refl _) ?_
      refine PW_iload_n c_M_pair_0 rfl ?_
      refine PW_if_lt c_M_pair_1 (fun h0 => absurd h0 hc0) (fun h0 => ?_)
      refine PW_iload_n c_M_pair_4 rfl ?_
      refine PW_bipush (v := 10) c_M_pair_5 (by decide) ?_
      refine PW_idiv c_M_pair_7 (by decide) ?_
      refine PW_S0 (d2 := 1) (st := []) [.int (a1 / 10)] c_M_pair_8 lk_M_pair_143 rfl rfl rfl (Nat.le_of_ble_eq_true rfl) (by first | decide | omega) (Nat.le_of_ble_eq_true rfl) ?_
      refine sp_M_isShelf2  ?_
      show PW _ _ _ 11 [some (.ref 70), some (.int a1), some (.int a2), some (.int a3), some (.int a4), none, none] [.int (b2i (0 ≤ (a1 / 10).toInt ∧ (a1 / 10).toInt < 6))] (E x y)
      refine PW_if_eq c_M_pair_11 (fun h1 => absurd hc1 (b2i_0.mp h1)) (fun _ => ?_)
      refine PW_iload_n c_M_pair_14 rfl ?_
      refine PW_bipush (v := 10) c_M_pair_15 (by decide) ?_
      refine PW_irem c_M_pair_17 (by decide) ?_
      refine PW_S0 (d2 := 1) (st := []) [.int (a1 - a1 / 10 * 10)] c_M_pair_18 lk_M_pair_143 rfl rfl rfl (Nat.le_of_ble_eq_true rfl) (by first | decide | omega) (Nat.le_of_ble_eq_true rfl) ?_
      refine sp_M_isShelf2  ?_
      show PW _ _ _ 21 [some (.ref 70), some (.int a1), some (.int a2), some (.int a3), some (.int a4), none, none] [.int (b2i (0 ≤ (a1 - a1 / 10 * 10).toInt ∧ (a1 - a1 / 10 * 10).toInt < 6))] (E x y)
      refine PW_if_eq c_M_pair_21 (fun h2 => absurd hc2 (b2i_0.mp h2)) (fun _ => ?_)
      refine PW_iload_n c_M_pair_24 rfl ?_
      refine PW_if_lt c_M_pair_25 (fun h3 => absurd h3 hr0) (fun h3 => ?_)
      refine PW_iload_n c_M_pair_28 rfl ?_
      refine PW_bipush (v := 10) c_M_pair_29 (by decide) ?_
      refine PW_idiv c_M_pair_31 (by decide) ?_
      refine PW_S0 (d2 := 1) (st := []) [.int (a2 / 10)] c_M_pair_32 lk_M_pair_135 rfl rfl rfl (Nat.le_of_ble_eq_true rfl) (by first | decide | omega) (Nat.le_of_ble_eq_true rfl) ?_
      refine sp_M_isRoom  ?_
      show PW _ _ _ 35 [some (.ref 70), some (.int a1), some (.int a2), some (.int a3), some (.int a4), none, none] [.int (b2i (0 ≤ (a2 / 10) ∧ (a2 / 10) ≤ 4))] (E x y)
      refine PW_if_eq c_M_pair_35 (fun h4 => absurd hr1 (b2i_0.mp h4)) (fun _ => ?_)
      refine PW_iload_n c_M_pair_38 rfl ?_
      refine PW_bipush (v := 10) c_M_pair_39 (by decide) ?_
      refine PW_irem c_M_pair_41 (by decide) ?_
      refine PW_S0 (d2 := 1) (st := []) [.int (a2 - a2 / 10 * 10)] c_M_pair_42 lk_M_pair_135 rfl rfl rfl (Nat.le_of_ble_eq_true rfl) (by first | decide | omega) (Nat.le_of_ble_eq_true rfl) ?_
      refine sp_M_isRoom  ?_
      show PW _ _ _ 45 [some (.ref 70), some (.int a1), some (.int a2), some (.int a3), some (.int a4), none, none] [.int (b2i (0 ≤ (a2 - a2 / 10 * 10) ∧ (a2 - a2 / 10 * 10) ≤ 4))] (E x y)
      refine PW_if_eq c_M_pair_45 (fun _ => ?_) (fun h5 => absurd (b2i_n0.mp h5) hr2)
      refine PW_iconst (v := -1) c_M_pair_68 (by decide) ?_
      refine PW_ireturn (ty := .int) c_M_pair_69 rfl rfl ?_
      exact h
  replace hr2 := Decidable.not_not.mp hr2
  by_cases hmn : ¬ (0 ≤ a3 ∧ a3 ≤ 99)
  · refine ⟨-1, x, y, ?_, fun {z post} h => ?_, fun {z post} h => ?_⟩
    · exact INV_step hI
    · refine PW.deeper (k := (7, 0, 0, z)) (Nat.le_of_ble_eq_true rfl) (Nat.le_refl _) (Nat.le_refl _) ?_
      refine PW_aload_n c_G_pair_0 rfl ?_
      refine PW_iload_n c_G_pair_1 rfl ?_
      refine PW_V0 (d2 := 1) (st := []) [.int a1] c_G_pair_2 lk_G_pair_209 (po_5 _ _) rfl rfl rfl (Nat.le_of_ble_eq_true rfl) (by first | decide | omega) (Nat.le_of_ble_eq_true rfl) ?_
      refine sp_G_firstShelf hc0 hpj e1 ?_
      show PW _ _ _ 5 [some (.ref 5), some (.int a1), some (.int a2), some (.int a3), some (.int a4), none, none, none] [.ref (58 + 2 * pj)] (E x y)
      refine PW_astore (i := 5) (L2 := [some (.ref 5), some (.int a1), some (.int a2), some (.int a3), some (.int a4), some (.ref (58 + 2 * pj)), none, none]) c_G_pair_5 (Nat.le_of_ble_eq_true rfl) rfl rfl ?_
      refine PW_aload_n c_G_pair_7 rfl ?_
      refine PW_iload_n c_G_pair_8 rfl ?_
      refine PW_V0 (d2 := 1) (st := []) [.int a1] c_G_pair_9 lk_G_pair_212 (po_5 _ _) rfl rfl rfl (Nat.le_of_ble_eq_true rfl) (by first | decide | omega) (Nat.le_of_ble_eq_true rfl) ?_
      refine sp_G_secondShelf hc0 hqj e2 ?_
      show PW _ _ _ 12 [some (.ref 5), some (.int a1), some (.int a2), some (.int a3), some (.int a4), some (.ref (58 + 2 * pj)), none, none] [.ref (58 + 2 * qj)] (E x y)
      refine PW_astore (i := 6) (L2 := [some (.ref 5), some (.int a1), some (.int a2), some (.int a3), some (.int a4), some (.ref (58 + 2 * pj)), some (.ref (58 + 2 * qj)), none]) c_G_pair_12 (Nat.le_of_ble_eq_true rfl) rfl rfl ?_
      refine PW_aload c_G_pair_14 rfl ?_
      refine PW_ifnull c_G_pair_16 ?_
      refine PW_aload c_G_pair_19 rfl ?_
      refine PW_ifnull c_G_pair_21 ?_
      refine PW_iload_n c_G_pair_24 rfl ?_
      refine PW_S0 (d2 := 1) (st := []) [.int a2] c_G_pair_25 lk_G_pair_90 rfl rfl rfl (Nat.le_of_ble_eq_true rfl) (by first | decide | omega) (Nat.le_of_ble_eq_true rfl) ?_
      show PW _ _ _ 0 [some (.int a2)] [] (E x y)
      refine PW_iload_n c_G_isRoomPair_0 rfl ?_
      refine PW_if_lt c_G_isRoomPair_1 (fun h0 => absurd h0 hr0) (fun h0 => ?_)
      refine PW_iload_n c_G_isRoomPair_4 rfl ?_
      refine PW_bipush (v := 10) c_G_isRoomPair_5 (by decide) ?_
      refine PW_idiv c_G_isRoomPair_7 (by decide) ?_
      refine PW_S0 (d2 := 0) (st := []) [.int (a2 / 10)] c_G_isRoomPair_8 lk_G_isRoomPair_121 rfl rfl rfl (Nat.le_of_ble_eq_true rfl) (by first | decide | omega) (Nat.le_of_ble_eq_true rfl) ?_
      refine sp_H_isRoom  ?_
      show PW _ _ _ 11 [some (.int a2)] [.int (b2i (0 ≤ (a2 / 10) ∧ (a2 / 10) ≤ 4))] (E x y)
      refine PW_if_eq c_G_isRoomPair_11 (fun h1 => absurd hr1 (b2i_0.mp h1)) (fun _ => ?_)
      refine PW_iload_n c_G_isRoomPair_14 rfl ?_
      refine PW_bipush (v := 10) c_G_isRoomPair_15 (by decide) ?_
      refine PW_irem c_G_isRoomPair_17 (by decide) ?_
      refine PW_S0 (d2 := 0) (st := []) [.int (a2 - a2 / 10 * 10)] c_G_isRoomPair_18 lk_G_isRoomPair_121 rfl rfl rfl (Nat.le_of_ble_eq_true rfl) (by first | decide | omega) (Nat.le_of_ble_eq_true rfl) ?_
      refine sp_H_isRoom  ?_
      show PW _ _ _ 21 [some (.int a2)] [.int (b2i (0 ≤ (a2 - a2 / 10 * 10) ∧ (a2 - a2 / 10 * 10) ≤ 4))] (E x y)
      refine PW_if_eq c_G_isRoomPair_21 (fun h2 => absurd hr2 (b2i_0.mp h2)) (fun _ => ?_)
      refine PW_iconst (v := 1) c_G_isRoomPair_24 (by decide) ?_
      refine PW_goto c_G_isRoomPair_25 ?_
      refine PW_ireturn (ty := .boolean) c_G_isRoomPair_29 rfl (by decide +kernel) ?_
      show PW _ _ _ 28 [some (.ref 5), some (.int a1), some (.int a2), some (.int a3), some (.int a4), some (.ref (58 + 2 * pj)), some (.ref (58 + 2 * qj)), none] [.int 1] (E x y)
      refine PW_if_ne c_G_pair_28 (fun _ => ?_) (fun h3 => absurd h3 (by decide))
      refine PW_iload_n c_G_pair_33 rfl ?_
      refine PW_if_lt c_G_pair_34 (fun h4 => ?_) (fun h4 => ?_)
      · refine PW_iconst (v := -1) c_G_pair_54 (by decide) ?_
        refine PW_ireturn (ty := .int) c_G_pair_55 rfl rfl ?_
        exact h
      · refine PW_iload_n c_G_pair_37 rfl ?_
        refine PW_bipush (v := 99) c_G_pair_38 (by decide) ?_
        refine PW_icmp_gt c_G_pair_40 (fun h5 => ?_) (fun h5 => ?_)
        · refine PW_iconst (v := -1) c_G_pair_54 (by decide) ?_
          refine PW_ireturn (ty := .int) c_G_pair_55 rfl rfl ?_
          exact h
        · exfalso
          simp only [Int32.lt_iff_toInt_lt, Int32.le_iff_toInt_le, Int32.not_lt, Int32.not_le, ← Int32.toInt_inj, tiA] at *; omega
    · refine PW.deeper (k := (5, 0, 0, z)) (Nat.le_of_ble_eq_true rfl) (Nat.le_refl _) (Nat.le_refl _) ?_
      refine PW_iload_n c_M_pair_0 rfl ?_
      refine PW_if_lt c_M_pair_1 (fun h0 => absurd h0 hc0) (fun h0 => ?_)
      refine PW_iload_n c_M_pair_4 rfl ?_
      refine PW_bipush (v := 10) c_M_pair_5 (by decide) ?_
      refine PW_idiv c_M_pair_7 (by decide) ?_
      refine PW_S0 (d2 := 1) (st := []) [.int (a1 / 10)] c_M_pair_8 lk_M_pair_143 rfl rfl rfl (Nat.le_of_ble_eq_true rfl) (by first | decide | omega) (Nat.le_of_ble_eq_true rfl) ?_
      refine sp_M_isShelf2  ?_
      show PW _ _ _ 11 [some (.ref 70), some (.int a1), some (.int a2), some (.int a3), some (.int a4), none, none] [.int (b2i (0 ≤ (a1 / 10).toInt ∧ (a1 / 10).toInt < 6))] (E x y)
      refine PW_if_eq c_M_pair_11 (fun h1 => absurd hc1 (b2i_0.mp h1)) (fun _ => ?_)
      refine PW_iload_n c_M_pair_14 rfl ?_
      refine PW_bipush (v := 10) c_M_pair_15 (by decide) ?_
      refine PW_irem c_M_pair_17 (by decide) ?_
      refine PW_S0 (d2 := 1) (st := []) [.int (a1 - a1 / 10 * 10)] c_M_pair_18 lk_M_pair_143 rfl rfl rfl (Nat.le_of_ble_eq_true rfl) (by first | decide | omega) (Nat.le_of_ble_eq_true rfl) ?_
      refine sp_M_isShelf2  ?_
      show PW _ _ _ 21 [some (.ref 70), some (.int a1), some (.int a2), some (.int a3), some (.int a4), none, none] [.int (b2i (0 ≤ (a1 - a1 / 10 * 10).toInt ∧ (a1 - a1 / 10 * 10).toInt < 6))] (E x y)
      refine PW_if_eq c_M_pair_21 (fun h2 => absurd hc2 (b2i_0.mp h2)) (fun _ => ?_)
      refine PW_iload_n c_M_pair_24 rfl ?_
      refine PW_if_lt c_M_pair_25 (fun h3 => absurd h3 hr0) (fun h3 => ?_)
      refine PW_iload_n c_M_pair_28 rfl ?_
      refine PW_bipush (v := 10) c_M_pair_29 (by decide) ?_
      refine PW_idiv c_M_pair_31 (by decide) ?_
      refine PW_S0 (d2 := 1) (st := []) [.int (a2 / 10)] c_M_pair_32 lk_M_pair_135 rfl rfl rfl (Nat.le_of_ble_eq_true rfl) (by first | decide | omega) (Nat.le_of_ble_eq_true rfl) ?_
      refine sp_M_isRoom  ?_
      show PW _ _ _ 35 [some (.ref 70), some (.int a1), some (.int a2), some (.int a3), some (.int a4), none, none] [.int (b2i (0 ≤ (a2 / 10) ∧ (a2 / 10) ≤ 4))] (E x y)
      refine PW_if_eq c_M_pair_35 (fun h4 => absurd hr1 (b2i_0.mp h4)) (fun _ => ?_)
      refine PW_iload_n c_M_pair_38 rfl ?_
      refine PW_bipush (v := 10) c_M_pair_39 (by decide) ?_
      refine PW_irem c_M_pair_41 (by decide) ?_
      refine PW_S0 (d2 := 1) (st := []) [.int (a2 - a2 / 10 * 10)] c_M_pair_42 lk_M_pair_135 rfl rfl rfl (Nat.le_of_ble_eq_true rfl) (by first | decide | omega) (Nat.le_of_ble_eq_true rfl) ?_
      refine sp_M_isRoom  ?_
      show PW _ _ _ 45 [some (.ref 70), some (.int a1), some (.int a2), some (.int a3), some (.int a4), none, none] [.int (b2i (0 ≤ (a2 - a2 / 10 * 10) ∧ (a2 - a2 / 10 * 10) ≤ 4))] (E x y)
      refine PW_if_eq c_M_pair_45 (fun h5 => absurd hr2 (b2i_0.mp h5)) (fun _ => ?_)
      refine PW_iload_n c_M_pair_48 rfl ?_
      refine PW_iconst (v := 0) c_M_pair_49 (by decide) ?_
      refine PW_bipush (v := 99) c_M_pair_50 (by decide) ?_
      refine PW_S0 (d2 := 0) (st := []) [.int a3, .int 0, .int 99] c_M_pair_52 lk_M_pair_131 rfl rfl rfl (Nat.le_of_ble_eq_true rfl) (by first | decide | omega) (Nat.le_of_ble_eq_true rfl) ?_
      refine sp_M_within  ?_
      show PW _ _ _ 55 [some (.ref 70), some (.int a1), some (.int a2), some (.int a3), some (.int a4), none, none] [.int (b2i ((0 : Int32) ≤ a3 ∧ a3 ≤ (99 : Int32)))] (E x y)
      refine PW_if_eq c_M_pair_55 (fun _ => ?_) (fun h6 => absurd (b2i_n0.mp h6) hmn)
      refine PW_iconst (v := -1) c_M_pair_68 (by decide) ?_
      refine PW_ireturn (ty := .int) c_M_pair_69 rfl rfl ?_
      exact h
  replace hmn := Decidable.not_not.mp hmn
  by_cases hb4 : ¬ (0 ≤ a4 ∧ a4 ≤ 1)
  · refine ⟨-1, x, y, ?_, fun {z post} h => ?_, fun {z post} h => ?_⟩
    · exact INV_step hI
    · refine PW.deeper (k := (7, 0, 0, z)) (Nat.le_of_ble_eq_true rfl) (Nat.le_refl _) (Nat.le_refl _) ?_
      refine PW_aload_n c_G_pair_0 rfl ?_
      refine PW_iload_n c_G_pair_1 rfl ?_
      refine PW_V0 (d2 := 1) (st := []) [.int a1] c_G_pair_2 lk_G_pair_209 (po_5 _ _) rfl rfl rfl (Nat.le_of_ble_eq_true rfl) (by first | decide | omega) (Nat.le_of_ble_eq_true rfl) ?_
      refine sp_G_firstShelf hc0 hpj e1 ?_
      show PW _ _ _ 5 [some (.ref 5), some (.int a1), some (.int a2), some (.int a3), some (.int a4), none, none, none] [.ref (58 + 2 * pj)] (E x y)
      refine PW_astore (i := 5) (L2 := [some (.ref 5), some (.int a1), some (.int a2), some (.int a3), some (.int a4), some (.ref (58 + 2 * pj)), none, none]) c_G_pair_5 (Nat.le_of_ble_eq_true rfl) rfl rfl ?_
      refine PW_aload_n c_G_pair_7 rfl ?_
      refine PW_iload_n c_G_pair_8 rfl ?_
      refine PW_V0 (d2 := 1) (st := []) [.int a1] c_G_pair_9 lk_G_pair_212 (po_5 _ _) rfl rfl rfl (Nat.le_of_ble_eq_true rfl) (by first | decide | omega) (Nat.le_of_ble_eq_true rfl) ?_
      refine sp_G_secondShelf hc0 hqj e2 ?_
      show PW _ _ _ 12 [some (.ref 5), some (.int a1), some (.int a2), some (.int a3), some (.int a4), some (.ref (58 + 2 * pj)), none, none] [.ref (58 + 2 * qj)] (E x y)
      refine PW_astore (i := 6) (L2 := [some (.ref 5), some (.int a1), some (.int a2), some (.int a3), some (.int a4), some (.ref (58 + 2 * pj)), some (.ref (58 + 2 * qj)), none]) c_G_pair_12 (Nat.le_of_ble_eq_true rfl) rfl rfl ?_
      refine PW_aload c_G_pair_14 rfl ?_
      refine PW_ifnull c_G_pair_16 ?_
      refine PW_aload c_G_pair_19 rfl ?_
      refine PW_ifnull c_G_pair_21 ?_
      refine PW_iload_n c_G_pair_24 rfl ?_
      refine PW_S0 (d2 := 1) (st := []) [.int a2] c_G_pair_25 lk_G_pair_90 rfl rfl rfl (Nat.le_of_ble_eq_true rfl) (by first | decide | omega) (Nat.le_of_ble_eq_true rfl) ?_
      show PW _ _ _ 0 [some (.int a2)] [] (E x y)
      refine PW_iload_n c_G_isRoomPair_0 rfl ?_
      refine PW_if_lt c_G_isRoomPair_1 (fun h0 => absurd h0 hr0) (fun h0 => ?_)
      refine PW_iload_n c_G_isRoomPair_4 rfl ?_
      refine PW_bipush (v := 10) c_G_isRoomPair_5 (by decide) ?_
      refine PW_idiv c_G_isRoomPair_7 (by decide) ?_
      refine PW_S0 (d2 := 0) (st := []) [.int (a2 / 10)] c_G_isRoomPair_8 lk_G_isRoomPair_121 rfl rfl rfl (Nat.le_of_ble_eq_true rfl) (by first | decide | omega) (Nat.le_of_ble_eq_true rfl) ?_
      refine sp_H_isRoom  ?_
      show PW _ _ _ 11 [some (.int a2)] [.int (b2i (0 ≤ (a2 / 10) ∧ (a2 / 10) ≤ 4))] (E x y)
      refine PW_if_eq c_G_isRoomPair_11 (fun h1 => absurd hr1 (b2i_0.mp h1)) (fun _ => ?_)
      refine PW_iload_n c_G_isRoomPair_14 rfl ?_
      refine PW_bipush (v := 10) c_G_isRoomPair_15 (by decide) ?_
      refine PW_irem c_G_isRoomPair_17 (by decide) ?_
      refine PW_S0 (d2 := 0) (st := []) [.int (a2 - a2 / 10 * 10)] c_G_isRoomPair_18 lk_G_isRoomPair_121 rfl rfl rfl (Nat.le_of_ble_eq_true rfl) (by first | decide | omega) (Nat.le_of_ble_eq_true rfl) ?_
      refine sp_H_isRoom  ?_
      show PW _ _ _ 21 [some (.int a2)] [.int (b2i (0 ≤ (a2 - a2 / 10 * 10) ∧ (a2 - a2 / 10 * 10) ≤ 4))] (E x y)
      refine PW_if_eq c_G_isRoomPair_21 (fun h2 => absurd hr2 (b2i_0.mp h2)) (fun _ => ?_)
      refine PW_iconst (v := 1) c_G_isRoomPair_24 (by decide) ?_
      refine PW_goto c_G_isRoomPair_25 ?_
      refine PW_ireturn (ty := .boolean) c_G_isRoomPair_29 rfl (by decide +kernel) ?_
      show PW _ _ _ 28 [some (.ref 5), some (.int a1), some (.int a2), some (.int a3), some (.int a4), some (.ref (58 + 2 * pj)), some (.ref (58 + 2 * qj)), none] [.int 1] (E x y)
      refine PW_if_ne c_G_pair_28 (fun _ => ?_) (fun h3 => absurd h3 (by decide))
      refine PW_iload_n c_G_pair_33 rfl ?_
      refine PW_if_lt c_G_pair_34 (fun h4 => absurd h4 (fun q => by have e := hmn.1; rw [Int32.le_iff_toInt_le] at e; rw [Int32.lt_iff_toInt_lt] at q; omega)) (fun h4 => ?_)
      refine PW_iload_n c_G_pair_37 rfl ?_
      refine PW_bipush (v := 99) c_G_pair_38 (by decide) ?_
      refine PW_icmp_gt c_G_pair_40 (fun h5 => absurd h5 (fun q => by have e := hmn.2; rw [Int32.le_iff_toInt_le] at e; rw [Int32.lt_iff_toInt_lt] at q; omega)) (fun h5 => ?_)
      refine PW_iload c_G_pair_43 rfl ?_
      refine PW_if_lt c_G_pair_45 (fun h6 => ?_) (fun h6 => ?_)
      · refine PW_iconst (v := -1) c_G_pair_54 (by decide) ?_
        refine PW_ireturn (ty := .int) c_G_pair_55 rfl rfl ?_
        exact h
      · refine PW_iload c_G_pair_48 rfl ?_
        refine PW_iconst (v := 1) c_G_pair_50 (by decide) ?_
        refine PW_icmp_le c_G_pair_51 (fun h7 => ?_) (fun h7 => ?_)
        · exfalso
          simp only [Int32.lt_iff_toInt_lt, Int32.le_iff_toInt_le, Int32.not_lt, Int32.not_le, ← Int32.toInt_inj, tiA] at *; omega
        · refine PW_iconst (v := -1) c_G_pair_54 (by decide) ?_
          refine PW_ireturn (ty := .int) c_G_pair_55 rfl rfl ?_
          exact h
    · refine PW.deeper (k := (5, 0, 0, z)) (Nat.le_of_ble_eq_true rfl) (Nat.le_refl _) (Nat.le_refl _) ?_
      refine PW_iload_n c_M_pair_0 rfl ?_
      refine PW_if_lt c_M_pair_1 (fun h0 => absurd h0 hc0) (fun h0 => ?_)
      refine PW_iload_n c_M_pair_4 rfl ?_
      refine PW_bipush (v := 10) c_M_pair_5 (by decide) ?_
      refine PW_idiv c_M_pair_7 (by decide) ?_
      refine PW_S0 (d2 := 1) (st := []) [.int (a1 / 10)] c_M_pair_8 lk_M_pair_143 rfl rfl rfl (Nat.le_of_ble_eq_true rfl) (by first | decide | omega) (Nat.le_of_ble_eq_true rfl) ?_
      refine sp_M_isShelf2  ?_
      show PW _ _ _ 11 [some (.ref 70), some (.int a1), some (.int a2), some (.int a3), some (.int a4), none, none] [.int (b2i (0 ≤ (a1 / 10).toInt ∧ (a1 / 10).toInt < 6))] (E x y)
      refine PW_if_eq c_M_pair_11 (fun h1 => absurd hc1 (b2i_0.mp h1)) (fun _ => ?_)
      refine PW_iload_n c_M_pair_14 rfl ?_
      refine PW_bipush (v := 10) c_M_pair_15 (by decide) ?_
      refine PW_irem c_M_pair_17 (by decide) ?_
      refine PW_S0 (d2 := 1) (st := []) [.int (a1 - a1 / 10 * 10)] c_M_pair_18 lk_M_pair_143 rfl rfl rfl (Nat.le_of_ble_eq_true rfl) (by first | decide | omega) (Nat.le_of_ble_eq_true rfl) ?_
      refine sp_M_isShelf2  ?_
      show PW _ _ _ 21 [some (.ref 70), some (.int a1), some (.int a2), some (.int a3), some (.int a4), none, none] [.int (b2i (0 ≤ (a1 - a1 / 10 * 10).toInt ∧ (a1 - a1 / 10 * 10).toInt < 6))] (E x y)
      refine PW_if_eq c_M_pair_21 (fun h2 => absurd hc2 (b2i_0.mp h2)) (fun _ => ?_)
      refine PW_iload_n c_M_pair_24 rfl ?_
      refine PW_if_lt c_M_pair_25 (fun h3 => absurd h3 hr0) (fun h3 => ?_)
      refine PW_iload_n c_M_pair_28 rfl ?_
      refine PW_bipush (v := 10) c_M_pair_29 (by decide) ?_
      refine PW_idiv c_M_pair_31 (by decide) ?_
      refine PW_S0 (d2 := 1) (st := []) [.int (a2 / 10)] c_M_pair_32 lk_M_pair_135 rfl rfl rfl (Nat.le_of_ble_eq_true rfl) (by first | decide | omega) (Nat.le_of_ble_eq_true rfl) ?_
      refine sp_M_isRoom  ?_
      show PW _ _ _ 35 [some (.ref 70), some (.int a1), some (.int a2), some (.int a3), some (.int a4), none, none] [.int (b2i (0 ≤ (a2 / 10) ∧ (a2 / 10) ≤ 4))] (E x y)
      refine PW_if_eq c_M_pair_35 (fun h4 => absurd hr1 (b2i_0.mp h4)) (fun _ => ?_)
      refine PW_iload_n c_M_pair_38 rfl ?_
      refine PW_bipush (v := 10) c_M_pair_39 (by decide) ?_
      refine PW_irem c_M_pair_41 (by decide) ?_
      refine PW_S0 (d2 := 1) (st := []) [.int (a2 - a2 / 10 * 10)] c_M_pair_42 lk_M_pair_135 rfl rfl rfl (Nat.le_of_ble_eq_true rfl) (by first | decide | omega) (Nat.le_of_ble_eq_true rfl) ?_
      refine sp_M_isRoom  ?_
      show PW _ _ _ 45 [some (.ref 70), some (.int a1), some (.int a2), some (.int a3), some (.int a4), none, none] [.int (b2i (0 ≤ (a2 - a2 / 10 * 10) ∧ (a2 - a2 / 10 * 10) ≤ 4))] (E x y)
      refine PW_if_eq c_M_pair_45 (fun h5 => absurd hr2 (b2i_0.mp h5)) (fun _ => ?_)
      refine PW_iload_n c_M_pair_48 rfl ?_
      refine PW_iconst (v := 0) c_M_pair_49 (by decide) ?_
      refine PW_bipush (v := 99) c_M_pair_50 (by decide) ?_
      refine PW_S0 (d2 := 0) (st := []) [.int a3, .int 0, .int 99] c_M_pair_52 lk_M_pair_131 rfl rfl rfl (Nat.le_of_ble_eq_true rfl) (by first | decide | omega) (Nat.le_of_ble_eq_true rfl) ?_
      refine sp_M_within  ?_
      show PW _ _ _ 55 [some (.ref 70), some (.int a1), some (.int a2), some (.int a3), some (.int a4), none, none] [.int (b2i ((0 : Int32) ≤ a3 ∧ a3 ≤ (99 : Int32)))] (E x y)
      refine PW_if_eq c_M_pair_55 (fun h6 => absurd hmn (b2i_0.mp h6)) (fun _ => ?_)
      refine PW_iload c_M_pair_58 rfl ?_
      refine PW_iconst (v := 0) c_M_pair_60 (by decide) ?_
      refine PW_iconst (v := 1) c_M_pair_61 (by decide) ?_
      refine PW_S0 (d2 := 0) (st := []) [.int a4, .int 0, .int 1] c_M_pair_62 lk_M_pair_131 rfl rfl rfl (Nat.le_of_ble_eq_true rfl) (by first | decide | omega) (Nat.le_of_ble_eq_true rfl) ?_
      refine sp_M_within  ?_
      show PW _ _ _ 65 [some (.ref 70), some (.int a1), some (.int a2), some (.int a3), some (.int a4), none, none] [.int (b2i ((0 : Int32) ≤ a4 ∧ a4 ≤ (1 : Int32)))] (E x y)
      refine PW_if_ne c_M_pair_65 (fun h7 => absurd (b2i_n0.mp h7) hb4) (fun _ => ?_)
      refine PW_iconst (v := -1) c_M_pair_68 (by decide) ?_
      refine PW_ireturn (ty := .int) c_M_pair_69 rfl rfl ?_
      exact h
  replace hb4 := Decidable.not_not.mp hb4
  rcases sh_cases (hs pj hpj) with ⟨p1, p2⟩ | ⟨p1, p2, p3, p4⟩ | ⟨p1, p2, p3, p4, n, hn, p5, p6, hP⟩
  · refine ⟨-11, x, y, ?_, fun {z post} h => ?_, fun {z post} h => ?_⟩
    · exact INV_step hI
    · refine PW.deeper (k := (7, 0, 0, z)) (Nat.le_of_ble_eq_true rfl) (Nat.le_refl _) (Nat.le_refl _) ?_
      refine PW_aload_n c_G_pair_0 rfl ?_
      refine PW_iload_n c_G_pair_1 rfl ?_
      refine PW_V0 (d2 := 1) (st := []) [.int a1] c_G_pair_2 lk_G_pair_209 (po_5 _ _) rfl rfl rfl (Nat.le_of_ble_eq_true rfl) (by first | decide | omega) (Nat.le_of_ble_eq_true rfl) ?_
      refine sp_G_firstShelf hc0 hpj e1 ?_
      show PW _ _ _ 5 [some (.ref 5), some (.int a1), some (.int a2), some (.int a3), some (.int a4), none, none, none] [.ref (58 + 2 * pj)] (E x y)
      refine PW_astore (i := 5) (L2 := [some (.ref 5), some (.int a1), some (.int a2), some (.int a3), some (.int a4), some (.ref (58 + 2 * pj)), none, none]) c_G_pair_5 (Nat.le_of_ble_eq_true rfl) rfl rfl ?_
      refine PW_aload_n c_G_pair_7 rfl ?_
      refine PW_iload_n c_G_pair_8 rfl ?_
      refine PW_V0 (d2 := 1) (st := []) [.int a1] c_G_pair_9 lk_G_pair_212 (po_5 _ _) rfl rfl rfl (Nat.le_of_ble_eq_true rfl) (by first | decide | omega) (Nat.le_of_ble_eq_true rfl) ?_
      refine sp_G_secondShelf hc0 hqj e2 ?_
      show PW _ _ _ 12 [some (.ref 5), some (.int a1), some (.int a2), some (.int a3), some (.int a4), some (.ref (58 + 2 * pj)), none, none] [.ref (58 + 2 * qj)] (E x y)
      refine PW_astore (i := 6) (L2 := [some (.ref 5), some (.int a1), some (.int a2), some (.int a3), some (.int a4), some (.ref (58 + 2 * pj)), some (.ref (58 + 2 * qj)), none]) c_G_pair_12 (Nat.le_of_ble_eq_true rfl) rfl rfl ?_
      refine PW_aload c_G_pair_14 rfl ?_
      refine PW_ifnull c_G_pair_16 ?_
      refine PW_aload c_G_pair_19 rfl ?_
      refine PW_ifnull c_G_pair_21 ?_
      refine PW_iload_n c_G_pair_24 rfl ?_
      refine PW_S0 (d2 := 1) (st := []) [.int a2] c_G_pair_25 lk_G_pair_90 rfl rfl rfl (Nat.le_of_ble_eq_true rfl) (by first | decide | omega) (Nat.le_of_ble_eq_true rfl) ?_
      show PW _ _ _ 0 [some (.int a2)] [] (E x y)
      refine PW_iload_n c_G_isRoomPair_0 rfl ?_
      refine PW_if_lt c_G_isRoomPair_1 (fun h0 => absurd h0 hr0) (fun h0 => ?_)
      refine PW_iload_n c_G_isRoomPair_4 rfl ?_
      refine PW_bipush (v := 10) c_G_isRoomPair_5 (by decide) ?_
      refine PW_idiv c_G_isRoomPair_7 (by decide) ?_
      refine PW_S0 (d2 := 0) (st := []) [.int (a2 / 10)] c_G_isRoomPair_8 lk_G_isRoomPair_121 rfl rfl rfl (Nat.le_of_ble_eq_true rfl) (by first | decide | omega) (Nat.le_of_ble_eq_true rfl) ?_
      refine sp_H_isRoom  ?_
      show PW _ _ _ 11 [some (.int a2)] [.int (b2i (0 ≤ (a2 / 10) ∧ (a2 / 10) ≤ 4))] (E x y)
      refine PW_if_eq c_G_isRoomPair_11 (fun h1 => absurd hr1 (b2i_0.mp h1)) (fun _ => ?_)
      refine PW_iload_n c_G_isRoomPair_14 rfl ?_
      refine PW_bipush (v := 10) c_G_isRoomPair_15 (by decide) ?_
      refine PW_irem c_G_isRoomPair_17 (by decide) ?_
      refine PW_S0 (d2 := 0) (st := []) [.int (a2 - a2 / 10 * 10)] c_G_isRoomPair_18 lk_G_isRoomPair_121 rfl rfl rfl (Nat.le_of_ble_eq_true rfl) (by first | decide | omega) (Nat.le_of_ble_eq_true rfl) ?_
      refine sp_H_isRoom  ?_
      show PW _ _ _ 21 [some (.int a2)] [.int (b2i (0 ≤ (a2 - a2 / 10 * 10) ∧ (a2 - a2 / 10 * 10) ≤ 4))] (E x y)
      refine PW_if_eq c_G_isRoomPair_21 (fun h2 => absurd hr2 (b2i_0.mp h2)) (fun _ => ?_)
      refine PW_iconst (v := 1) c_G_isRoomPair_24 (by decide) ?_
      refine PW_goto c_G_isRoomPair_25 ?_
      refine PW_ireturn (ty := .boolean) c_G_isRoomPair_29 rfl (by decide +kernel) ?_
      show PW _ _ _ 28 [some (.ref 5), some (.int a1), some (.int a2), some (.int a3), some (.int a4), some (.ref (58 + 2 * pj)), some (.ref (58 + 2 * qj)), none] [.int 1] (E x y)
      refine PW_if_ne c_G_pair_28 (fun _ => ?_) (fun h3 => absurd h3 (by decide))
      refine PW_iload_n c_G_pair_33 rfl ?_
      refine PW_if_lt c_G_pair_34 (fun h4 => absurd h4 (fun q => by have e := hmn.1; rw [Int32.le_iff_toInt_le] at e; rw [Int32.lt_iff_toInt_lt] at q; omega)) (fun h4 => ?_)
      refine PW_iload_n c_G_pair_37 rfl ?_
      refine PW_bipush (v := 99) c_G_pair_38 (by decide) ?_
      refine PW_icmp_gt c_G_pair_40 (fun h5 => absurd h5 (fun q => by have e := hmn.2; rw [Int32.le_iff_toInt_le] at e; rw [Int32.lt_iff_toInt_lt] at q; omega)) (fun h5 => ?_)
      refine PW_iload c_G_pair_43 rfl ?_
      refine PW_if_lt c_G_pair_45 (fun h6 => absurd h6 (fun q => by have e := hb4.1; rw [Int32.le_iff_toInt_le] at e; rw [Int32.lt_iff_toInt_lt] at q; omega)) (fun h6 => ?_)
      refine PW_iload c_G_pair_48 rfl ?_
      refine PW_iconst (v := 1) c_G_pair_50 (by decide) ?_
      refine PW_icmp_le c_G_pair_51 (fun h7 => ?_) (fun h7 => absurd hb4.2 h7)
      refine PW_aload c_G_pair_56 rfl ?_
      refine PW_aload c_G_pair_58 rfl ?_
      refine PW_S0 (d2 := 1) (st := []) [.ref (58 + 2 * pj), .ref (58 + 2 * qj)] c_G_pair_60 lk_G_pair_215 rfl rfl rfl (Nat.le_of_ble_eq_true rfl) (by first | decide | omega) (Nat.le_of_ble_eq_true rfl) ?_
      show PW _ _ _ 0 [some (.ref (58 + 2 * pj)), some (.ref (58 + 2 * qj))] [] (E x y)
      refine PW_aload_n c_G_refusalOfBoth_0 rfl ?_
      refine PW_V0 (d2 := 0) (st := []) [] c_G_refusalOfBoth_1 lk_G_refusalOfBoth_339 (sh_po _ _ hpj) rfl rfl rfl (Nat.le_of_ble_eq_true rfl) (by first | decide | omega) (Nat.le_of_ble_eq_true rfl) ?_
      refine sp_F_isEmpty hpj  ?_
      show PW _ _ _ 4 [some (.ref (58 + 2 * pj)), some (.ref (58 + 2 * qj))] [.int (b2i (x.1 ((58 + 2 * pj) * 8 + 1) = 0))] (E x y)
      refine PW_if_ne c_G_refusalOfBoth_4 (fun _ => ?_) (fun h8 => absurd p2 (b2i_0.mp h8))
      refine PW_bipush (v := -11) c_G_refusalOfBoth_14 (by decide) ?_
      refine PW_ireturn (ty := .int) c_G_refusalOfBoth_16 rfl rfl ?_
      show PW _ _ _ 63 [some (.ref 5), some (.int a1), some (.int a2), some (.int a3), some (.int a4), some (.ref (58 + 2 * pj)), some (.ref (58 + 2 * qj)), none] [.int (-11)] (E x y)
      refine PW_istore (i := 7) (L2 := [some (.ref 5), some (.int a1), some (.int a2), some (.int a3), some (.int a4), some (.ref (58 + 2 * pj)), some (.ref (58 + 2 * qj)), some (.int (-11))]) c_G_pair_63 (Nat.le_of_ble_eq_true rfl) rfl rfl ?_
      refine PW_iload c_G_pair_65 rfl ?_
      refine PW_if_eq c_G_pair_67 (fun h9 => absurd h9 (by decide)) (fun _ => ?_)
      refine PW_iload c_G_pair_70 rfl ?_
      refine PW_ireturn (ty := .int) c_G_pair_72 rfl rfl ?_
      exact h
    · refine PW.deeper (k := (5, 0, 0, z)) (Nat.le_of_ble_eq_true rfl) (Nat.le_refl _) (Nat.le_refl _) ?_
      refine PW_iload_n c_M_pair_0 rfl ?_
      refine PW_if_lt c_M_pair_1 (fun h0 => absurd h0 hc0) (fun h0 => ?_)
      refine PW_iload_n c_M_pair_4 rfl ?_
      refine PW_bipush (v := 10) c_M_pair_5 (by decide) ?_
      refine PW_idiv c_M_pair_7 (by decide) ?_
      refine PW_S0 (d2 := 1) (st := []) [.int (a1 / 10)] c_M_pair_8 lk_M_pair_143 rfl rfl rfl (Nat.le_of_ble_eq_true rfl) (by first | decide | omega) (Nat.le_of_ble_eq_true rfl) ?_
      refine sp_M_isShelf2  ?_
      show PW _ _ _ 11 [some (.ref 70), some (.int a1), some (.int a2), some (.int a3), some (.int a4), none, none] [.int (b2i (0 ≤ (a1 / 10).toInt ∧ (a1 / 10).toInt < 6))] (E x y)
      refine PW_if_eq c_M_pair_11 (fun h1 => absurd hc1 (b2i_0.mp h1)) (fun _ => ?_)
      refine PW_iload_n c_M_pair_14 rfl ?_
      refine PW_bipush (v := 10) c_M_pair_15 (by decide) ?_
      refine PW_irem c_M_pair_17 (by decide) ?_
      refine PW_S0 (d2 := 1) (st := []) [.int (a1 - a1 / 10 * 10)] c_M_pair_18 lk_M_pair_143 rfl rfl rfl (Nat.le_of_ble_eq_true rfl) (by first | decide | omega) (Nat.le_of_ble_eq_true rfl) ?_
      refine sp_M_isShelf2  ?_
      show PW _ _ _ 21 [some (.ref 70), some (.int a1), some (.int a2), some (.int a3), some (.int a4), none, none] [.int (b2i (0 ≤ (a1 - a1 / 10 * 10).toInt ∧ (a1 - a1 / 10 * 10).toInt < 6))] (E x y)
      refine PW_if_eq c_M_pair_21 (fun h2 => absurd hc2 (b2i_0.mp h2)) (fun _ => ?_)
      refine PW_iload_n c_M_pair_24 rfl ?_
      refine PW_if_lt c_M_pair_25 (fun h3 => absurd h3 hr0) (fun h3 => ?_)
      refine PW_iload_n c_M_pair_28 rfl ?_
      refine PW_bipush (v := 10) c_M_pair_29 (by decide) ?_
      refine PW_idiv c_M_pair_31 (by decide) ?_
      refine PW_S0 (d2 := 1) (st := []) [.int (a2 / 10)] c_M_pair_32 lk_M_pair_135 rfl rfl rfl (Nat.le_of_ble_eq_true rfl) (by first | decide | omega) (Nat.le_of_ble_eq_true rfl) ?_
      refine sp_M_isRoom  ?_
      show PW _ _ _ 35 [some (.ref 70), some (.int a1), some (.int a2), some (.int a3), some (.int a4), none, none] [.int (b2i (0 ≤ (a2 / 10) ∧ (a2 / 10) ≤ 4))] (E x y)
      refine PW_if_eq c_M_pair_35 (fun h4 => absurd hr1 (b2i_0.mp h4)) (fun _ => ?_)
      refine PW_iload_n c_M_pair_38 rfl ?_
      refine PW_bipush (v := 10) c_M_pair_39 (by decide) ?_
      refine PW_irem c_M_pair_41 (by decide) ?_
      refine PW_S0 (d2 := 1) (st := []) [.int (a2 - a2 / 10 * 10)] c_M_pair_42 lk_M_pair_135 rfl rfl rfl (Nat.le_of_ble_eq_true rfl) (by first | decide | omega) (Nat.le_of_ble_eq_true rfl) ?_
      refine sp_M_isRoom  ?_
      show PW _ _ _ 45 [some (.ref 70), some (.int a1), some (.int a2), some (.int a3), some (.int a4), none, none] [.int (b2i (0 ≤ (a2 - a2 / 10 * 10) ∧ (a2 - a2 / 10 * 10) ≤ 4))] (E x y)
      refine PW_if_eq c_M_pair_45 (fun h5 => absurd hr2 (b2i_0.mp h5)) (fun _ => ?_)
      refine PW_iload_n c_M_pair_48 rfl ?_
      refine PW_iconst (v := 0) c_M_pair_49 (by decide) ?_
      refine PW_bipush (v := 99) c_M_pair_50 (by decide) ?_
      refine PW_S0 (d2 := 0) (st := []) [.int a3, .int 0, .int 99] c_M_pair_52 lk_M_pair_131 rfl rfl rfl (Nat.le_of_ble_eq_true rfl) (by first | decide | omega) (Nat.le_of_ble_eq_true rfl) ?_
      refine sp_M_within  ?_
      show PW _ _ _ 55 [some (.ref 70), some (.int a1), some (.int a2), some (.int a3), some (.int a4), none, none] [.int (b2i ((0 : Int32) ≤ a3 ∧ a3 ≤ (99 : Int32)))] (E x y)
      refine PW_if_eq c_M_pair_55 (fun h6 => absurd hmn (b2i_0.mp h6)) (fun _ => ?_)
      refine PW_iload c_M_pair_58 rfl ?_
      refine PW_iconst (v := 0) c_M_pair_60 (by decide) ?_
      refine PW_iconst (v := 1) c_M_pair_61 (by decide) ?_
      refine PW_S0 (d2 := 0) (st := []) [.int a4, .int 0, .int 1] c_M_pair_62 lk_M_pair_131 rfl rfl rfl (Nat.le_of_ble_eq_true rfl) (by first | decide | omega) (Nat.le_of_ble_eq_true rfl) ?_
      refine sp_M_within  ?_
      show PW _ _ _ 65 [some (.ref 70), some (.int a1), some (.int a2), some (.int a3), some (.int a4), none, none] [.int (b2i ((0 : Int32) ≤ a4 ∧ a4 ≤ (1 : Int32)))] (E x y)
      refine PW_if_ne c_M_pair_65 (fun _ => ?_) (fun h7 => absurd hb4 (b2i_0.mp h7))
      refine PW_aload_n c_M_pair_70 rfl ?_
      refine PW_get (v := .ref 104) c_M_pair_71 fl_M_111 (gf_70_53 _ _) ?_
      refine PW_iload_n c_M_pair_74 rfl ?_
      refine PW_bipush (v := 10) c_M_pair_75 (by decide) ?_
      refine PW_idiv c_M_pair_77 (by decide) ?_
      refine PW_iald (j := pj) c_M_pair_78 (ar_104 _ _) (by rw [e1]; exact vp_in_nI hpj (by decide)) (by rw [e1]; exact nI_clamp (by omega)) ?_
      show PW _ _ _ 79 [some (.ref 70), some (.int a1), some (.int a2), some (.int a3), some (.int a4), none, none] [.int ((y.2.1 104) pj)] (E x y)
      refine PW_iconst (v := -1) c_M_pair_79 (by decide) ?_
      refine PW_icmp_eq c_M_pair_80 (fun h8 => ?_) (fun h8 => absurd p1 h8)
      refine PW_bipush (v := -11) c_M_pair_96 (by decide) ?_
      refine PW_ireturn (ty := .int) c_M_pair_98 rfl rfl ?_
      exact h
  · rcases sh_cases (hs qj hqj) with ⟨q1, q2⟩ | ⟨q1, q2, q3, q4⟩ | ⟨q1, q2, q3, q4, m, hm, q5, q6, hQ⟩
    · refine ⟨-11, x, y, ?_, fun {z post} h => ?_, fun {z post} h => ?_⟩
      · exact INV_step hI
      · refine PW.deeper (k := (7, 0, 0, z)) (Nat.le_of_ble_eq_true rfl) (Nat.le_refl _) (Nat.le_refl _) ?_
        refine PW_aload_n c_G_pair_0 rfl ?_
        refine PW_iload_n c_G_pair_1 rfl ?_
        refine PW_V0 (d2 := 1) (st := []) [.int a1] c_G_pair_2 lk_G_pair_209 (po_5 _ _) rfl rfl rfl (Nat.le_of_ble_eq_true rfl) (by first | decide | omega) (Nat.le_of_ble_eq_true rfl) ?_
        refine sp_G_firstShelf hc0 hpj e1 ?_
        show PW _ _ _ 5 [some (.ref 5), some (.int a1), some (.int a2), some (.int a3), some (.int a4), none, none, none] [.ref (58 + 2 * pj)] (E x y)
        refine PW_astore (i := 5) (L2 := [some (.ref 5), some (.int a1), some (.int a2), some (.int a3), some (.int a4), some (.ref (58 + 2 * pj)), none, none]) c_G_pair_5 (Nat.le_of_ble_eq_true rfl) rfl rfl ?_
        refine PW_aload_n c_G_pair_7 rfl ?_
        refine PW_iload_n c_G_pair_8 rfl ?_
        refine PW_V0 (d2 := 1) (st := []) [.int a1] c_G_pair_9 lk_G_pair_212 (po_5 _ _) rfl rfl rfl (Nat.le_of_ble_eq_true rfl) (by first | decide | omega) (Nat.le_of_ble_eq_true rfl) ?_
        refine sp_G_secondShelf hc0 hqj e2 ?_
        show PW _ _ _ 12 [some (.ref 5), some (.int a1), some (.int a2), some (.int a3), some (.int a4), some (.ref (58 + 2 * pj)), none, none] [.ref (58 + 2 * qj)] (E x y)
        refine PW_astore (i := 6) (L2 := [some (.ref 5), some (.int a1), some (.int a2), some (.int a3), some (.int a4), some (.ref (58 + 2 * pj)), some (.ref (58 + 2 * qj)), none]) c_G_pair_12 (Nat.le_of_ble_eq_true rfl) rfl rfl ?_
        refine PW_aload c_G_pair_14 rfl ?_
        refine PW_ifnull c_G_pair_16 ?_
        refine PW_aload c_G_pair_19 rfl ?_
        refine PW_ifnull c_G_pair_21 ?_
        refine PW_iload_n c_G_pair_24 rfl ?_
        refine PW_S0 (d2 := 1) (st := []) [.int a2] c_G_pair_25 lk_G_pair_90 rfl rfl rfl (Nat.le_of_ble_eq_true rfl) (by first | decide | omega) (Nat.le_of_ble_eq_true rfl) ?_
        show PW _ _ _ 0 [some (.int a2)] [] (E x y)
        refine PW_iload_n c_G_isRoomPair_0 rfl ?_
        refine PW_if_lt c_G_isRoomPair_1 (fun h0 => absurd h0 hr0) (fun h0 => ?_)
        refine PW_iload_n c_G_isRoomPair_4 rfl ?_
        refine PW_bipush (v := 10) c_G_isRoomPair_5 (by decide) ?_
        refine PW_idiv c_G_isRoomPair_7 (by decide) ?_
        refine PW_S0 (d2 := 0) (st := []) [.int (a2 / 10)] c_G_isRoomPair_8 lk_G_isRoomPair_121 rfl rfl rfl (Nat.le_of_ble_eq_true rfl) (by first | decide | omega) (Nat.le_of_ble_eq_true rfl) ?_
        refine sp_H_isRoom  ?_
        show PW _ _ _ 11 [some (.int a2)] [.int (b2i (0 ≤ (a2 / 10) ∧ (a2 / 10) ≤ 4))] (E x y)
        refine PW_if_eq c_G_isRoomPair_11 (fun h1 => absurd hr1 (b2i_0.mp h1)) (fun _ => ?_)
        refine PW_iload_n c_G_isRoomPair_14 rfl ?_
        refine PW_bipush (v := 10) c_G_isRoomPair_15 (by decide) ?_
        refine PW_irem c_G_isRoomPair_17 (by decide) ?_
        refine PW_S0 (d2 := 0) (st := []) [.int (a2 - a2 / 10 * 10)] c_G_isRoomPair_18 lk_G_isRoomPair_121 rfl rfl rfl (Nat.le_of_ble_eq_true rfl) (by first | decide | omega) (Nat.le_of_ble_eq_true rfl) ?_
        refine sp_H_isRoom  ?_
        show PW _ _ _ 21 [some (.int a2)] [.int (b2i (0 ≤ (a2 - a2 / 10 * 10) ∧ (a2 - a2 / 10 * 10) ≤ 4))] (E x y)
        refine PW_if_eq c_G_isRoomPair_21 (fun h2 => absurd hr2 (b2i_0.mp h2)) (fun _ => ?_)
        refine PW_iconst (v := 1) c_G_isRoomPair_24 (by decide) ?_
        refine PW_goto c_G_isRoomPair_25 ?_
        refine PW_ireturn (ty := .boolean) c_G_isRoomPair_29 rfl (by decide +kernel) ?_
        show PW _ _ _ 28 [some (.ref 5), some (.int a1), some (.int a2), some (.int a3), some (.int a4), some (.ref (58 + 2 * pj)), some (.ref (58 + 2 * qj)), none] [.int 1] (E x y)
        refine PW_if_ne c_G_pair_28 (fun _ => ?_) (fun h3 => absurd h3 (by decide))
        refine PW_iload_n c_G_pair_33 rfl ?_
        refine PW_if_lt c_G_pair_34 (fun h4 => absurd h4 (fun q => by have e := hmn.1; rw [Int32.le_iff_toInt_le] at e; rw [Int32.lt_iff_toInt_lt] at q; omega)) (fun h4 => ?_)
        refine PW_iload_n c_G_pair_37 rfl ?_
        refine PW_bipush (v := 99) c_G_pair_38 (by decide) ?_
        refine PW_icmp_gt c_G_pair_40 (fun h5 => absurd h5 (fun q => by have e := hmn.2; rw [Int32.le_iff_toInt_le] at e; rw [Int32.lt_iff_toInt_lt] at q; omega)) (fun h5 => ?_)
        refine PW_iload c_G_pair_43 rfl ?_
        refine PW_if_lt c_G_pair_45 (fun h6 => absurd h6 (fun q => by have e := hb4.1; rw [Int32.le_iff_toInt_le] at e; rw [Int32.lt_iff_toInt_lt] at q; omega)) (fun h6 => ?_)
        refine PW_iload c_G_pair_48 rfl ?_
        refine PW_iconst (v := 1) c_G_pair_50 (by decide) ?_
        refine PW_icmp_le c_G_pair_51 (fun h7 => ?_) (fun h7 => absurd hb4.2 h7)
        refine PW_aload c_G_pair_56 rfl ?_
        refine PW_aload c_G_pair_58 rfl ?_
        refine PW_S0 (d2 := 1) (st := []) [.ref (58 + 2 * pj), .ref (58 + 2 * qj)] c_G_pair_60 lk_G_pair_215 rfl rfl rfl (Nat.le_of_ble_eq_true rfl) (by first | decide | omega) (Nat.le_of_ble_eq_true rfl) ?_
        show PW _ _ _ 0 [some (.ref (58 + 2 * pj)), some (.ref (58 + 2 * qj))] [] (E x y)
        refine PW_aload_n c_G_refusalOfBoth_0 rfl ?_
        refine PW_V0 (d2 := 0) (st := []) [] c_G_refusalOfBoth_1 lk_G_refusalOfBoth_339 (sh_po _ _ hpj) rfl rfl rfl (Nat.le_of_ble_eq_true rfl) (by first | decide | omega) (Nat.le_of_ble_eq_true rfl) ?_
        refine sp_F_isEmpty hpj  ?_
        show PW _ _ _ 4 [some (.ref (58 + 2 * pj)), some (.ref (58 + 2 * qj))] [.int (b2i (x.1 ((58 + 2 * pj) * 8 + 1) = 0))] (E x y)
        refine PW_if_ne c_G_refusalOfBoth_4 (fun h8 => absurd (b2i_n0.mp h8) p3) (fun _ => ?_)
        refine PW_aload_n c_G_refusalOfBoth_7 rfl ?_
        refine PW_V0 (d2 := 0) (st := []) [] c_G_refusalOfBoth_8 lk_G_refusalOfBoth_339 (sh_po _ _ hqj) rfl rfl rfl (Nat.le_of_ble_eq_true rfl) (by first | decide | omega) (Nat.le_of_ble_eq_true rfl) ?_
        refine sp_F_isEmpty hqj  ?_
        show PW _ _ _ 11 [some (.ref (58 + 2 * pj)), some (.ref (58 + 2 * qj))] [.int (b2i (x.1 ((58 + 2 * qj) * 8 + 1) = 0))] (E x y)
        refine PW_if_eq c_G_refusalOfBoth_11 (fun h9 => absurd q2 (b2i_0.mp h9)) (fun _ => ?_)
        refine PW_bipush (v := -11) c_G_refusalOfBoth_14 (by decide) ?_
        refine PW_ireturn (ty := .int) c_G_refusalOfBoth_16 rfl rfl ?_
        show PW _ _ _ 63 [some (.ref 5), some (.int a1), some (.int a2), some (.int a3), some (.int a4), some (.ref (58 + 2 * pj)), some (.ref (58 + 2 * qj)), none] [.int (-11)] (E x y)
        refine PW_istore (i := 7) (L2 := [some (.ref 5), some (.int a1), some (.int a2), some (.int a3), some (.int a4), some (.ref (58 + 2 * pj)), some (.ref (58 + 2 * qj)), some (.int (-11))]) c_G_pair_63 (Nat.le_of_ble_eq_true rfl) rfl rfl ?_
        refine PW_iload c_G_pair_65 rfl ?_
        refine PW_if_eq c_G_pair_67 (fun h10 => absurd h10 (by decide)) (fun _ => ?_)
        refine PW_iload c_G_pair_70 rfl ?_
        refine PW_ireturn (ty := .int) c_G_pair_72 rfl rfl ?_
        exact h
      · refine PW.deeper (k := (5, 0, 0, z)) (Nat.le_of_ble_eq_true rfl) (Nat.le_refl _) (Nat.le_refl _) ?_
        refine PW_iload_n c_M_pair_0 rfl ?_
        refine PW_if_lt c_M_pair_1 (fun h0 => absurd h0 hc0) (fun h0 => ?_)
        refine PW_iload_n c_M_pair_4 rfl ?_
        refine PW_bipush (v := 10) c_M_pair_5 (by decide) ?_
        refine PW_idiv c_M_pair_7 (by decide) ?_
        refine PW_S0 (d2 := 1) (st := []) [.int (a1 / 10)] c_M_pair_8 lk_M_pair_143 rfl rfl rfl (Nat.le_of_ble_eq_true rfl) (by first | decide | omega) (Nat.le_of_ble_eq_true rfl) ?_
        refine sp_M_isShelf2  ?_
        show PW _ _ _ 11 [some (.ref 70), some (.int a1), some (.int a2), some (.int a3), some (.int a4), none, none] [.int (b2i (0 ≤ (a1 / 10).toInt ∧ (a1 / 10).toInt < 6))] (E x y)
        refine PW_if_eq c_M_pair_11 (fun h1 => absurd hc1 (b2i_0.mp h1)) (fun _ => ?_)
        refine PW_iload_n c_M_pair_14 rfl ?_
        refine PW_bipush (v := 10) c_M_pair_15 (by decide) ?_
        refine PW_irem c_M_pair_17 (by decide) ?_
        refine PW_S0 (d2 := 1) (st := []) [.int (a1 - a1 / 10 * 10)] c_M_pair_18 lk_M_pair_143 rfl rfl rfl (Nat.le_of_ble_eq_true rfl) (by first | decide | omega) (Nat.le_of_ble_eq_true rfl) ?_
        refine sp_M_isShelf2  ?_
        show PW _ _ _ 21 [some (.ref 70), some (.int a1), some (.int a2), some (.int a3), some (.int a4), none, none] [.int (b2i (0 ≤ (a1 - a1 / 10 * 10).toInt ∧ (a1 - a1 / 10 * 10).toInt < 6))] (E x y)
        refine PW_if_eq c_M_pair_21 (fun h2 => absurd hc2 (b2i_0.mp h2)) (fun _ => ?_)
        refine PW_iload_n c_M_pair_24 rfl ?_
        refine PW_if_lt c_M_pair_25 (fun h3 => absurd h3 hr0) (fun h3 => ?_)
        refine PW_iload_n c_M_pair_28 rfl ?_
        refine PW_bipush (v := 10) c_M_pair_29 (by decide) ?_
        refine PW_idiv c_M_pair_31 (by decide) ?_
        refine PW_S0 (d2 := 1) (st := []) [.int (a2 / 10)] c_M_pair_32 lk_M_pair_135 rfl rfl rfl (Nat.le_of_ble_eq_true rfl) (by first | decide | omega) (Nat.le_of_ble_eq_true rfl) ?_
        refine sp_M_isRoom  ?_
        show PW _ _ _ 35 [some (.ref 70), some (.int a1), some (.int a2), some (.int a3), some (.int a4), none, none] [.int (b2i (0 ≤ (a2 / 10) ∧ (a2 / 10) ≤ 4))] (E x y)
        refine PW_if_eq c_M_pair_35 (fun h4 => absurd hr1 (b2i_0.mp h4)) (fun _ => ?_)
        refine PW_iload_n c_M_pair_38 rfl ?_
        refine PW_bipush (v := 10) c_M_pair_39 (by decide) ?_
        refine PW_irem c_M_pair_41 (by decide) ?_
        refine PW_S0 (d2 := 1) (st := []) [.int (a2 - a2 / 10 * 10)] c_M_pair_42 lk_M_pair_135 rfl rfl rfl (Nat.le_of_ble_eq_true rfl) (by first | decide | omega) (Nat.le_of_ble_eq_true rfl) ?_
        refine sp_M_isRoom  ?_
        show PW _ _ _ 45 [some (.ref 70), some (.int a1), some (.int a2), some (.int a3), some (.int a4), none, none] [.int (b2i (0 ≤ (a2 - a2 / 10 * 10) ∧ (a2 - a2 / 10 * 10) ≤ 4))] (E x y)
        refine PW_if_eq c_M_pair_45 (fun h5 => absurd hr2 (b2i_0.mp h5)) (fun _ => ?_)
        refine PW_iload_n c_M_pair_48 rfl ?_
        refine PW_iconst (v := 0) c_M_pair_49 (by decide) ?_
        refine PW_bipush (v := 99) c_M_pair_50 (by decide) ?_
        refine PW_S0 (d2 := 0) (st := []) [.int a3, .int 0, .int 99] c_M_pair_52 lk_M_pair_131 rfl rfl rfl (Nat.le_of_ble_eq_true rfl) (by first | decide | omega) (Nat.le_of_ble_eq_true rfl) ?_
        refine sp_M_within  ?_
        show PW _ _ _ 55 [some (.ref 70), some (.int a1), some (.int a2), some (.int a3), some (.int a4), none, none] [.int (b2i ((0 : Int32) ≤ a3 ∧ a3 ≤ (99 : Int32)))] (E x y)
        refine PW_if_eq c_M_pair_55 (fun h6 => absurd hmn (b2i_0.mp h6)) (fun _ => ?_)
        refine PW_iload c_M_pair_58 rfl ?_
        refine PW_iconst (v := 0) c_M_pair_60 (by decide) ?_
        refine PW_iconst (v := 1) c_M_pair_61 (by decide) ?_
        refine PW_S0 (d2 := 0) (st := []) [.int a4, .int 0, .int 1] c_M_pair_62 lk_M_pair_131 rfl rfl rfl (Nat.le_of_ble_eq_true rfl) (by first | decide | omega) (Nat.le_of_ble_eq_true rfl) ?_
        refine sp_M_within  ?_
        show PW _ _ _ 65 [some (.ref 70), some (.int a1), some (.int a2), some (.int a3), some (.int a4), none, none] [.int (b2i ((0 : Int32) ≤ a4 ∧ a4 ≤ (1 : Int32)))] (E x y)
        refine PW_if_ne c_M_pair_65 (fun _ => ?_) (fun h7 => absurd hb4 (b2i_0.mp h7))
        refine PW_aload_n c_M_pair_70 rfl ?_
        refine PW_get (v := .ref 104) c_M_pair_71 fl_M_111 (gf_70_53 _ _) ?_
        refine PW_iload_n c_M_pair_74 rfl ?_
        refine PW_bipush (v := 10) c_M_pair_75 (by decide) ?_
        refine PW_idiv c_M_pair_77 (by decide) ?_
        refine PW_iald (j := pj) c_M_pair_78 (ar_104 _ _) (by rw [e1]; exact vp_in_nI hpj (by decide)) (by rw [e1]; exact nI_clamp (by omega)) ?_
        show PW _ _ _ 79 [some (.ref 70), some (.int a1), some (.int a2), some (.int a3), some (.int a4), none, none] [.int ((y.2.1 104) pj)] (E x y)
        refine PW_iconst (v := -1) c_M_pair_79 (by decide) ?_
        refine PW_icmp_eq c_M_pair_80 (fun h8 => absurd h8 p1) (fun h8 => ?_)
        refine PW_aload_n c_M_pair_83 rfl ?_
        refine PW_get (v := .ref 104) c_M_pair_84 fl_M_111 (gf_70_53 _ _) ?_
        refine PW_iload_n c_M_pair_87 rfl ?_
        refine PW_bipush (v := 10) c_M_pair_88 (by decide) ?_
        refine PW_irem c_M_pair_90 (by decide) ?_
        refine PW_iald (j := qj) c_M_pair_91 (ar_104 _ _) (by rw [e2]; exact vp_in_nI hqj (by decide)) (by rw [e2]; exact nI_clamp (by omega)) ?_
        show PW _ _ _ 92 [some (.ref 70), some (.int a1), some (.int a2), some (.int a3), some (.int a4), none, none] [.int ((y.2.1 104) qj)] (E x y)
        refine PW_iconst (v := -1) c_M_pair_92 (by decide) ?_
        refine PW_icmp_ne c_M_pair_93 (fun h9 => absurd h9 (not_not_intro q1)) (fun h9 => ?_)
        refine PW_bipush (v := -11) c_M_pair_96 (by decide) ?_
        refine PW_ireturn (ty := .int) c_M_pair_98 rfl rfl ?_
        exact h
    · refine ⟨-12, x, y, ?_, fun {z post} h => ?_, fun {z post} h => ?_⟩
      · exact INV_step hI
      · refine PW.deeper (k := (7, 0, 0, z)) (Nat.le_of_ble_eq_true rfl) (Nat.le_refl _) (Nat.le_refl _) ?_
        refine PW_aload_n c_G_pair_0 rfl ?_
        refine PW_iload_n c_G_pair_1 rfl ?_
        refine PW_V0 (d2 := 1) (st := []) [.int a1] c_G_pair_2 lk_G_pair_209 (po_5 _ _) rfl rfl rfl (Nat.le_of_ble_eq_true rfl) (by first | decide | omega) (Nat.le_of_ble_eq_true rfl) ?_
        refine sp_G_firstShelf hc0 hpj e1 ?_
        show PW _ _ _ 5 [some (.ref 5), some (.int a1), some (.int a2), some (.int a3), some (.int a4), none, none, none] [.ref (58 + 2 * pj)] (E x y)
        refine PW_astore (i := 5) (L2 := [some (.ref 5), some (.int a1), some (.int a2), some (.int a3), some (.int a4), some (.ref (58 + 2 * pj)), none, none]) c_G_pair_5 (Nat.le_of_ble_eq_true rfl) rfl rfl ?_
        refine PW_aload_n c_G_pair_7 rfl ?_
        refine PW_iload_n c_G_pair_8 rfl ?_
        refine PW_V0 (d2 := 1) (st := []) [.int a1] c_G_pair_9 lk_G_pair_212 (po_5 _ _) rfl rfl rfl (Nat.le_of_ble_eq_true rfl) (by first | decide | omega) (Nat.le_of_ble_eq_true rfl) ?_
        refine sp_G_secondShelf hc0 hqj e2 ?_
        show PW _ _ _ 12 [some (.ref 5), some (.int a1), some (.int a2), some (.int a3), some (.int a4), some (.ref (58 + 2 * pj)), none, none] [.ref (58 + 2 * qj)] (E x y)
        refine PW_astore (i := 6) (L2 := [some (.ref 5), some (.int a1), some (.int a2), some (.int a3), some (.int a4), some (.ref (58 + 2 * pj)), some (.ref (58 + 2 * qj)), none]) c_G_pair_12 (Nat.le_of_ble_eq_true rfl) rfl rfl ?_
        refine PW_aload c_G_pair_14 rfl ?_
        refine PW_ifnull c_G_pair_16 ?_
        refine PW_aload c_G_pair_19 rfl ?_
        refine PW_ifnull c_G_pair_21 ?_
        refine PW_iload_n c_G_pair_24 rfl ?_
        refine PW_S0 (d2 := 1) (st := []) [.int a2] c_G_pair_25 lk_G_pair_90 rfl rfl rfl (Nat.le_of_ble_eq_true rfl) (by first | decide | omega) (Nat.le_of_ble_eq_true rfl) ?_
        show PW _ _ _ 0 [some (.int a2)] [] (E x y)
        refine PW_iload_n c_G_isRoomPair_0 rfl ?_
        refine PW_if_lt c_G_isRoomPair_1 (fun h0 => absurd h0 hr0) (fun h0 => ?_)
        refine PW_iload_n c_G_isRoomPair_4 rfl ?_
        refine PW_bipush (v := 10) c_G_isRoomPair_5 (by decide) ?_
        refine PW_idiv c_G_isRoomPair_7 (by decide) ?_
        refine PW_S0 (d2 := 0) (st := []) [.int (a2 / 10)] c_G_isRoomPair_8 lk_G_isRoomPair_121 rfl rfl rfl (Nat.le_of_ble_eq_true rfl) (by first | decide | omega) (Nat.le_of_ble_eq_true rfl) ?_
        refine sp_H_isRoom  ?_
        show PW _ _ _ 11 [some (.int a2)] [.int (b2i (0 ≤ (a2 / 10) ∧ (a2 / 10) ≤ 4))] (E x y)
        refine PW_if_eq c_G_isRoomPair_11 (fun h1 => absurd hr1 (b2i_0.mp h1)) (fun _ => ?_)
        refine PW_iload_n c_G_isRoomPair_14 rfl ?_
        refine PW_bipush (v := 10) c_G_isRoomPair_15 (by decide) ?_
        refine PW_irem c_G_isRoomPair_17 (by decide) ?_
        refine PW_S0 (d2 := 0) (st := []) [.int (a2 - a2 / 10 * 10)] c_G_isRoomPair_18 lk_G_isRoomPair_121 rfl rfl rfl (Nat.le_of_ble_eq_true rfl) (by first | decide | omega) (Nat.le_of_ble_eq_true rfl) ?_
        refine sp_H_isRoom  ?_
        show PW _ _ _ 21 [some (.int a2)] [.int (b2i (0 ≤ (a2 - a2 / 10 * 10) ∧ (a2 - a2 / 10 * 10) ≤ 4))] (E x y)
        refine PW_if_eq c_G_isRoomPair_21 (fun h2 => absurd hr2 (b2i_0.mp h2)) (fun _ => ?_)
        refine PW_iconst (v := 1) c_G_isRoomPair_24 (by decide) ?_
        refine PW_goto c_G_isRoomPair_25 ?_
        refine PW_ireturn (ty := .boolean) c_G_isRoomPair_29 rfl (by decide +kernel) ?_
        show PW _ _ _ 28 [some (.ref 5), some (.int a1), some (.int a2), some (.int a3), some (.int a4), some (.ref (58 + 2 * pj)), some (.ref (58 + 2 * qj)), none] [.int 1] (E x y)
        refine PW_if_ne c_G_pair_28 (fun _ => ?_) (fun h3 => absurd h3 (by decide))
        refine PW_iload_n c_G_pair_33 rfl ?_
        refine PW_if_lt c_G_pair_34 (fun h4 => absurd h4 (fun q => by have e := hmn.1; rw [Int32.le_iff_toInt_le] at e; rw [Int32.lt_iff_toInt_lt] at q; omega)) (fun h4 => ?_)
        refine PW_iload_n c_G_pair_37 rfl ?_
        refine PW_bipush (v := 99) c_G_pair_38 (by decide) ?_
        refine PW_icmp_gt c_G_pair_40 (fun h5 => absurd h5 (fun q => by have e := hmn.2; rw [Int32.le_iff_toInt_le] at e; rw [Int32.lt_iff_toInt_lt] at q; omega)) (fun h5 => ?_)
        refine PW_iload c_G_pair_43 rfl ?_
        refine PW_if_lt c_G_pair_45 (fun h6 => absurd h6 (fun q => by have e := hb4.1; rw [Int32.le_iff_toInt_le] at e; rw [Int32.lt_iff_toInt_lt] at q; omega)) (fun h6 => ?_)
        refine PW_iload c_G_pair_48 rfl ?_
        refine PW_iconst (v := 1) c_G_pair_50 (by decide) ?_
        refine PW_icmp_le c_G_pair_51 (fun h7 => ?_) (fun h7 => absurd hb4.2 h7)
        refine PW_aload c_G_pair_56 rfl ?_
        refine PW_aload c_G_pair_58 rfl ?_
        refine PW_S0 (d2 := 1) (st := []) [.ref (58 + 2 * pj), .ref (58 + 2 * qj)] c_G_pair_60 lk_G_pair_215 rfl rfl rfl (Nat.le_of_ble_eq_true rfl) (by first | decide | omega) (Nat.le_of_ble_eq_true rfl) ?_
        show PW _ _ _ 0 [some (.ref (58 + 2 * pj)), some (.ref (58 + 2 * qj))] [] (E x y)
        refine PW_aload_n c_G_refusalOfBoth_0 rfl ?_
        refine PW_V0 (d2 := 0) (st := []) [] c_G_refusalOfBoth_1 lk_G_refusalOfBoth_339 (sh_po _ _ hpj) rfl rfl rfl (Nat.le_of_ble_eq_true rfl) (by first | decide | omega) (Nat.le_of_ble_eq_true rfl) ?_
        refine sp_F_isEmpty hpj  ?_
        show PW _ _ _ 4 [some (.ref (58 + 2 * pj)), some (.ref (58 + 2 * qj))] [.int (b2i (x.1 ((58 + 2 * pj) * 8 + 1) = 0))] (E x y)
        refine PW_if_ne c_G_refusalOfBoth_4 (fun h8 => absurd (b2i_n0.mp h8) p3) (fun _ => ?_)
        refine PW_aload_n c_G_refusalOfBoth_7 rfl ?_
        refine PW_V0 (d2 := 0) (st := []) [] c_G_refusalOfBoth_8 lk_G_refusalOfBoth_339 (sh_po _ _ hqj) rfl rfl rfl (Nat.le_of_ble_eq_true rfl) (by first | decide | omega) (Nat.le_of_ble_eq_true rfl) ?_
        refine sp_F_isEmpty hqj  ?_
        show PW _ _ _ 11 [some (.ref (58 + 2 * pj)), some (.ref (58 + 2 * qj))] [.int (b2i (x.1 ((58 + 2 * qj) * 8 + 1) = 0))] (E x y)
        refine PW_if_eq c_G_refusalOfBoth_11 (fun _ => ?_) (fun h9 => absurd (b2i_n0.mp h9) q3)
        refine PW_aload_n c_G_refusalOfBoth_17 rfl ?_
        refine PW_V0 (d2 := 0) (st := []) [] c_G_refusalOfBoth_18 lk_G_refusalOfBoth_376 (sh_po _ _ hpj) rfl rfl rfl (Nat.le_of_ble_eq_true rfl) (by first | decide | omega) (Nat.le_of_ble_eq_true rfl) ?_
        refine sp_F_holdsBytes hpj  ?_
        show PW _ _ _ 21 [some (.ref (58 + 2 * pj)), some (.ref (58 + 2 * qj))] [.int (b2i (x.1 ((58 + 2 * pj) * 8 + 1) = 2 ∧ x.1 ((58 + 2 * pj) * 8 + 3) = 0))] (E x y)
        refine PW_if_eq c_G_refusalOfBoth_21 (fun _ => ?_) (fun h10 => absurd (b2i_n0.mp h10) p4)
        refine PW_bipush (v := -12) c_G_refusalOfBoth_35 (by decide) ?_
        refine PW_ireturn (ty := .int) c_G_refusalOfBoth_37 rfl rfl ?_
        show PW _ _ _ 63 [some (.ref 5), some (.int a1), some (.int a2), some (.int a3), some (.int a4), some (.ref (58 + 2 * pj)), some (.ref (58 + 2 * qj)), none] [.int (-12)] (E x y)
        refine PW_istore (i := 7) (L2 := [some (.ref 5), some (.int a1), some (.int a2), some (.int a3), some (.int a4), some (.ref (58 + 2 * pj)), some (.ref (58 + 2 * qj)), some (.int (-12))]) c_G_pair_63 (Nat.le_of_ble_eq_true rfl) rfl rfl ?_
        refine PW_iload c_G_pair_65 rfl ?_
        refine PW_if_eq c_G_pair_67 (fun h11 => absurd h11 (by decide)) (fun _ => ?_)
        refine PW_iload c_G_pair_70 rfl ?_
        refine PW_ireturn (ty := .int) c_G_pair_72 rfl rfl ?_
        exact h
      · refine PW.deeper (k := (5, 0, 0, z)) (Nat.le_of_ble_eq_true rfl) (Nat.le_refl _) (Nat.le_refl _) ?_
        refine PW_iload_n c_M_pair_0 rfl ?_
        refine PW_if_lt c_M_pair_1 (fun h0 => absurd h0 hc0) (fun h0 => ?_)
        refine PW_iload_n c_M_pair_4 rfl ?_
        refine PW_bipush (v := 10) c_M_pair_5 (by decide) ?_
        refine PW_idiv c_M_pair_7 (by decide) ?_
        refine PW_S0 (d2 := 1) (st := []) [.int (a1 / 10)] c_M_pair_8 lk_M_pair_143 rfl rfl rfl (Nat.le_of_ble_eq_true rfl) (by first | decide | omega) (Nat.le_of_ble_eq_true rfl) ?_
        refine sp_M_isShelf2  ?_
        show PW _ _ _ 11 [some (.ref 70), some (.int a1), some (.int a2), some (.int a3), some (.int a4), none, none] [.int (b2i (0 ≤ (a1 / 10).toInt ∧ (a1 / 10).toInt < 6))] (E x y)
        refine PW_if_eq c_M_pair_11 (fun h1 => absurd hc1 (b2i_0.mp h1)) (fun _ => ?_)
        refine PW_iload_n c_M_pair_14 rfl ?_
        refine PW_bipush (v := 10) c_M_pair_15 (by decide) ?_
        refine PW_irem c_M_pair_17 (by decide) ?_
        refine PW_S0 (d2 := 1) (st := []) [.int (a1 - a1 / 10 * 10)] c_M_pair_18 lk_M_pair_143 rfl rfl rfl (Nat.le_of_ble_eq_true rfl) (by first | decide | omega) (Nat.le_of_ble_eq_true rfl) ?_
        refine sp_M_isShelf2  ?_
        show PW _ _ _ 21 [some (.ref 70), some (.int a1), some (.int a2), some (.int a3), some (.int a4), none, none] [.int (b2i (0 ≤ (a1 - a1 / 10 * 10).toInt ∧ (a1 - a1 / 10 * 10).toInt < 6))] (E x y)
        refine PW_if_eq c_M_pair_21 (fun h2 => absurd hc2 (b2i_0.mp h2)) (fun _ => ?_)
        refine PW_iload_n c_M_pair_24 rfl ?_
        refine PW_if_lt c_M_pair_25 (fun h3 => absurd h3 hr0) (fun h3 => ?_)
        refine PW_iload_n c_M_pair_28 rfl ?_
        refine PW_bipush (v := 10) c_M_pair_29 (by decide) ?_
        refine PW_idiv c_M_pair_31 (by decide) ?_
        refine PW_S0 (d2 := 1) (st := []) [.int (a2 / 10)] c_M_pair_32 lk_M_pair_135 rfl rfl rfl (Nat.le_of_ble_eq_true rfl) (by first | decide | omega) (Nat.le_of_ble_eq_true rfl) ?_
        refine sp_M_isRoom  ?_
        show PW _ _ _ 35 [some (.ref 70), some (.int a1), some (.int a2), some (.int a3), some (.int a4), none, none] [.int (b2i (0 ≤ (a2 / 10) ∧ (a2 / 10) ≤ 4))] (E x y)
        refine PW_if_eq c_M_pair_35 (fun h4 => absurd hr1 (b2i_0.mp h4)) (fun _ => ?_)
        refine PW_iload_n c_M_pair_38 rfl ?_
        refine PW_bipush (v := 10) c_M_pair_39 (by decide) ?_
        refine PW_irem c_M_pair_41 (by decide) ?_
        refine PW_S0 (d2 := 1) (st := []) [.int (a2 - a2 / 10 * 10)] c_M_pair_42 lk_M_pair_135 rfl rfl rfl (Nat.le_of_ble_eq_true rfl) (by first | decide | omega) (Nat.le_of_ble_eq_true rfl) ?_
        refine sp_M_isRoom  ?_
        show PW _ _ _ 45 [some (.ref 70), some (.int a1), some (.int a2), some (.int a3), some (.int a4), none, none] [.int (b2i (0 ≤ (a2 - a2 / 10 * 10) ∧ (a2 - a2 / 10 * 10) ≤ 4))] (E x y)
        refine PW_if_eq c_M_pair_45 (fun h5 => absurd hr2 (b2i_0.mp h5)) (fun _ => ?_)
        refine PW_iload_n c_M_pair_48 rfl ?_
        refine PW_iconst (v := 0) c_M_pair_49 (by decide) ?_
        refine PW_bipush (v := 99) c_M_pair_50 (by decide) ?_
        refine PW_S0 (d2 := 0) (st := []) [.int a3, .int 0, .int 99] c_M_pair_52 lk_M_pair_131 rfl rfl rfl (Nat.le_of_ble_eq_true rfl) (by first | decide | omega) (Nat.le_of_ble_eq_true rfl) ?_
        refine sp_M_within  ?_
        show PW _ _ _ 55 [some (.ref 70), some (.int a1), some (.int a2), some (.int a3), some (.int a4), none, none] [.int (b2i ((0 : Int32) ≤ a3 ∧ a3 ≤ (99 : Int32)))] (E x y)
        refine PW_if_eq c_M_pair_55 (fun h6 => absurd hmn (b2i_0.mp h6)) (fun _ => ?_)
        refine PW_iload c_M_pair_58 rfl ?_
        refine PW_iconst (v := 0) c_M_pair_60 (by decide) ?_
        refine PW_iconst (v := 1) c_M_pair_61 (by decide) ?_
        refine PW_S0 (d2 := 0) (st := []) [.int a4, .int 0, .int 1] c_M_pair_62 lk_M_pair_131 rfl rfl rfl (Nat.le_of_ble_eq_true rfl) (by first | decide | omega) (Nat.le_of_ble_eq_true rfl) ?_
        refine sp_M_within  ?_
        show PW _ _ _ 65 [some (.ref 70), some (.int a1), some (.int a2), some (.int a3), some (.int a4), none, none] [.int (b2i ((0 : Int32) ≤ a4 ∧ a4 ≤ (1 : Int32)))] (E x y)
        refine PW_if_ne c_M_pair_65 (fun _ => ?_) (fun h7 => absurd hb4 (b2i_0.mp h7))
        refine PW_aload_n c_M_pair_70 rfl ?_
        refine PW_get (v := .ref 104) c_M_pair_71 fl_M_111 (gf_70_53 _ _) ?_
        refine PW_iload_n c_M_pair_74 rfl ?_
        refine PW_bipush (v := 10) c_M_pair_75 (by decide) ?_
        refine PW_idiv c_M_pair_77 (by decide) ?_
        refine PW_iald (j := pj) c_M_pair_78 (ar_104 _ _) (by rw [e1]; exact vp_in_nI hpj (by decide)) (by rw [e1]; exact nI_clamp (by omega)) ?_
        show PW _ _ _ 79 [some (.ref 70), some (.int a1), some (.int a2), some (.int a3), some (.int a4), none, none] [.int ((y.2.1 104) pj)] (E x y)
        refine PW_iconst (v := -1) c_M_pair_79 (by decide) ?_
        refine PW_icmp_eq c_M_pair_80 (fun h8 => absurd h8 p1) (fun h8 => ?_)
        refine PW_aload_n c_M_pair_83 rfl ?_
        refine PW_get (v := .ref 104) c_M_pair_84 fl_M_111 (gf_70_53 _ _) ?_
        refine PW_iload_n c_M_pair_87 rfl ?_
        refine PW_bipush (v := 10) c_M_pair_88 (by decide) ?_
        refine PW_irem c_M_pair_90 (by decide) ?_
        refine PW_iald (j := qj) c_M_pair_91 (ar_104 _ _) (by rw [e2]; exact vp_in_nI hqj (by decide)) (by rw [e2]; exact nI_clamp (by omega)) ?_
        show PW _ _ _ 92 [some (.ref 70), some (.int a1), some (.int a2), some (.int a3), some (.int a4), none, none] [.int ((y.2.1 104) qj)] (E x y)
        refine PW_iconst (v := -1) c_M_pair_92 (by decide) ?_
        refine PW_icmp_ne c_M_pair_93 (fun h9 => ?_) (fun h9 => absurd h9 q1)
        refine PW_aload_n c_M_pair_99 rfl ?_
        refine PW_iload_n c_M_pair_100 rfl ?_
        refine PW_bipush (v := 10) c_M_pair_101 (by decide) ?_
        refine PW_idiv c_M_pair_103 (by decide) ?_
        refine PW_V0 (d2 := 0) (st := []) [.int (a1 / 10)] c_M_pair_104 lk_M_pair_286 (po_70 _ _) rfl rfl rfl (Nat.le_of_ble_eq_true rfl) (by first | decide | omega) (Nat.le_of_ble_eq_true rfl) ?_
        show PW _ _ _ 0 [some (.ref 70), some (.int (a1 / 10))] [] (E x y)
        refine PW_aload_n c_M_rowFault_0 rfl ?_
        refine PW_get (v := .ref 104) c_M_rowFault_1 fl_M_111 (gf_70_53 _ _) ?_
        refine PW_iload_n c_M_rowFault_4 rfl ?_
        refine PW_iald (j := pj) c_M_rowFault_5 (ar_104 _ _) (by rw [e1]; exact vp_in_nI hpj (by decide)) (by rw [e1]; exact nI_clamp (by omega)) ?_
        show PW _ _ _ 6 [some (.ref 70), some (.int (a1 / 10))] [.int ((y.2.1 104) pj)] (E x y)
        refine PW_iconst (v := -1) c_M_rowFault_6 (by decide) ?_
        refine PW_icmp_ne c_M_rowFault_7 (fun h10 => ?_) (fun h10 => absurd h10 p1)
        refine PW_aload_n c_M_rowFault_15 rfl ?_
        refine PW_get (v := .ref 104) c_M_rowFault_16 fl_M_111 (gf_70_53 _ _) ?_
        refine PW_iload_n c_M_rowFault_19 rfl ?_
        refine PW_iald (j := pj) c_M_rowFault_20 (ar_104 _ _) (by rw [e1]; exact vp_in_nI hpj (by decide)) (by rw [e1]; exact nI_clamp (by omega)) ?_
        show PW _ _ _ 21 [some (.ref 70), some (.int (a1 / 10))] [.int ((y.2.1 104) pj)] (E x y)
        refine PW_bipush (v := -2) c_M_rowFault_21 (by decide) ?_
        refine PW_icmp_ne c_M_rowFault_23 (fun h11 => ?_) (fun h11 => absurd h11 p2)
        refine PW_bipush (v := -12) c_M_rowFault_30 (by decide) ?_
        refine PW_ireturn (ty := .int) c_M_rowFault_32 rfl rfl ?_
        show PW _ _ _ 107 [some (.ref 70), some (.int a1), some (.int a2), some (.int a3), some (.int a4), none, none] [.int (-12)] (E x y)
        refine PW_if_lt c_M_pair_107 (fun _ => ?_) (fun h12 => absurd (by decide) h12)
        refine PW_bipush (v := -12) c_M_pair_121 (by decide) ?_
        refine PW_ireturn (ty := .int) c_M_pair_123 rfl rfl ?_
        exact h
    · refine ⟨-12, x, y, ?_, fun {z post} h => ?_, fun {z post} h => ?_⟩
      · exact INV_step hI
      · refine PW.deeper (k := (7, 0, 0, z)) (Nat.le_of_ble_eq_true rfl) (Nat.le_refl _) (Nat.le_refl _) ?_
        refine PW_aload_n c_G_pair_0 rfl ?_
        refine PW_iload_n c_G_pair_1 rfl ?_
        refine PW_V0 (d2 := 1) (st := []) [.int a1] c_G_pair_2 lk_G_pair_209 (po_5 _ _) rfl rfl rfl (Nat.le_of_ble_eq_true rfl) (by first | decide | omega) (Nat.le_of_ble_eq_true rfl) ?_
        refine sp_G_firstShelf hc0 hpj e1 ?_
        show PW _ _ _ 5 [some (.ref 5), some (.int a1), some (.int a2), some (.int a3), some (.int a4), none, none, none] [.ref (58 + 2 * pj)] (E x y)
        refine PW_astore (i := 5) (L2 := [some (.ref 5), some (.int a1), some (.int a2), some (.int a3), some (.int a4), some (.ref (58 + 2 * pj)), none, none]) c_G_pair_5 (Nat.le_of_ble_eq_true rfl) rfl rfl ?_
        refine PW_aload_n c_G_pair_7 rfl ?_
        refine PW_iload_n c_G_pair_8 rfl ?_
        refine PW_V0 (d2 := 1) (st := []) [.int a1] c_G_pair_9 lk_G_pair_212 (po_5 _ _) rfl rfl rfl (Nat.le_of_ble_eq_true rfl) (by first | decide | omega) (Nat.le_of_ble_eq_true rfl) ?_
        refine sp_G_secondShelf hc0 hqj e2 ?_
        show PW _ _ _ 12 [some (.ref 5), some (.int a1), some (.int a2), some (.int a3), some (.int a4), some (.ref (58 + 2 * pj)), none, none] [.ref (58 + 2 * qj)] (E x y)
        refine PW_astore (i := 6) (L2 := [some (.ref 5), some (.int a1), some (.int a2), some (.int a3), some (.int a4), some (.ref (58 + 2 * pj)), some (.ref (58 + 2 * qj)), none]) c_G_pair_12 (Nat.le_of_ble_eq_true rfl) rfl rfl ?_
        refine PW_aload c_G_pair_14 rfl ?_
        refine PW_ifnull c_G_pair_16 ?_
        refine PW_aload c_G_pair_19 rfl ?_
        refine PW_ifnull c_G_pair_21 ?_
        refine PW_iload_n c_G_pair_24 rfl ?_
        refine PW_S0 (d2 := 1) (st := []) [.int a2] c_G_pair_25 lk_G_pair_90 rfl rfl rfl (Nat.le_of_ble_eq_true rfl) (by first | decide | omega) (Nat.le_of_ble_eq_true rfl) ?_
        show PW _ _ _ 0 [some (.int a2)] [] (E x y)
        refine PW_iload_n c_G_isRoomPair_0 rfl ?_
        refine PW_if_lt c_G_isRoomPair_1 (fun h0 => absurd h0 hr0) (fun h0 => ?_)
        refine PW_iload_n c_G_isRoomPair_4 rfl ?_
        refine PW_bipush (v := 10) c_G_isRoomPair_5 (by decide) ?_
        refine PW_idiv c_G_isRoomPair_7 (by decide) ?_
        refine PW_S0 (d2 := 0) (st := []) [.int (a2 / 10)] c_G_isRoomPair_8 lk_G_isRoomPair_121 rfl rfl rfl (Nat.le_of_ble_eq_true rfl) (by first | decide | omega) (Nat.le_of_ble_eq_true rfl) ?_
        refine sp_H_isRoom  ?_
        show PW _ _ _ 11 [some (.int a2)] [.int (b2i (0 ≤ (a2 / 10) ∧ (a2 / 10) ≤ 4))] (E x y)
        refine PW_if_eq c_G_isRoomPair_11 (fun h1 => absurd hr1 (b2i_0.mp h1)) (fun _ => ?_)
        refine PW_iload_n c_G_isRoomPair_14 rfl ?_
        refine PW_bipush (v := 10) c_G_isRoomPair_15 (by decide) ?_
        refine PW_irem c_G_isRoomPair_17 (by decide) ?_
        refine PW_S0 (d2 := 0) (st := []) [.int (a2 - a2 / 10 * 10)] c_G_isRoomPair_18 lk_G_isRoomPair_121 rfl rfl rfl (Nat.le_of_ble_eq_true rfl) (by first | decide | omega) (Nat.le_of_ble_eq_true rfl) ?_
        refine sp_H_isRoom  ?_
        show PW _ _ _ 21 [some (.int a2)] [.int (b2i (0 ≤ (a2 - a2 / 10 * 10) ∧ (a2 - a2 / 10 * 10) ≤ 4))] (E x y)
        refine PW_if_eq c_G_isRoomPair_21 (fun h2 => absurd hr2 (b2i_0.mp h2)) (fun _ => ?_)
        refine PW_iconst (v := 1) c_G_isRoomPair_24 (by decide) ?_
        refine PW_goto c_G_isRoomPair_25 ?_
        refine PW_ireturn (ty := .boolean) c_G_isRoomPair_29 rfl (by decide +kernel) ?_
        show PW _ _ _ 28 [some (.ref 5), some (.int a1), some (.int a2), some (.int a3), some (.int a4), some (.ref (58 + 2 * pj)), some (.ref (58 + 2 * qj)), none] [.int 1] (E x y)
        refine PW_if_ne c_G_pair_28 (fun _ => ?_) (fun h3 => absurd h3 (by decide))
        refine PW_iload_n c_G_pair_33 rfl ?_
        refine PW_if_lt c_G_pair_34 (fun h4 => absurd h4 (fun q => by have e := hmn.1; rw [Int32.le_iff_toInt_le] at e; rw [Int32.lt_iff_toInt_lt] at q; omega)) (fun h4 => ?_)
        refine PW_iload_n c_G_pair_37 rfl ?_
        refine PW_bipush (v := 99) c_G_pair_38 (by decide) ?_
        refine PW_icmp_gt c_G_pair_40 (fun h5 => absurd h5 (fun q => by have e := hmn.2; rw [Int32.le_iff_toInt_le] at e; rw [Int32.lt_iff_toInt_lt] at q; omega)) (fun h5 => ?_)
        refine PW_iload c_G_pair_43 rfl ?_
        refine PW_if_lt c_G_pair_45 (fun h6 => absurd h6 (fun q => by have e := hb4.1; rw [Int32.le_iff_toInt_le] at e; rw [Int32.lt_iff_toInt_lt] at q; omega)) (fun h6 => ?_)
        refine PW_iload c_G_pair_48 rfl ?_
        refine PW_iconst (v := 1) c_G_pair_50 (by decide) ?_
        refine PW_icmp_le c_G_pair_51 (fun h7 => ?_) (fun h7 => absurd hb4.2 h7)
        refine PW_aload c_G_pair_56 rfl ?_
        refine PW_aload c_G_pair_58 rfl ?_
        refine PW_S0 (d2 := 1) (st := []) [.ref (58 + 2 * pj), .ref (58 + 2 * qj)] c_G_pair_60 lk_G_pair_215 rfl rfl rfl (Nat.le_of_ble_eq_true rfl) (by first | decide | omega) (Nat.le_of_ble_eq_true rfl) ?_
        show PW _ _ _ 0 [some (.ref (58 + 2 * pj)), some (.ref (58 + 2 * qj))] [] (E x y)
        refine PW_aload_n c_G_refusalOfBoth_0 rfl ?_
        refine PW_V0 (d2 := 0) (st := []) [] c_G_refusalOfBoth_1 lk_G_refusalOfBoth_339 (sh_po _ _ hpj) rfl rfl rfl (Nat.le_of_ble_eq_true rfl) (by first | decide | omega) (Nat.le_of_ble_eq_true rfl) ?_
        refine sp_F_isEmpty hpj  ?_
        show PW _ _ _ 4 [some (.ref (58 + 2 * pj)), some (.ref (58 + 2 * qj))] [.int (b2i (x.1 ((58 + 2 * pj) * 8 + 1) = 0))] (E x y)
        refine PW_if_ne c_G_refusalOfBoth_4 (fun h8 => absurd (b2i_n0.mp h8) p3) (fun _ => ?_)
        refine PW_aload_n c_G_refusalOfBoth_7 rfl ?_
        refine PW_V0 (d2 := 0) (st := []) [] c_G_refusalOfBoth_8 lk_G_refusalOfBoth_339 (sh_po _ _ hqj) rfl rfl rfl (Nat.le_of_ble_eq_true rfl) (by first | decide | omega) (Nat.le_of_ble_eq_true rfl) ?_
        refine sp_F_isEmpty hqj  ?_
        show PW _ _ _ 11 [some (.ref (58 + 2 * pj)), some (.ref (58 + 2 * qj))] [.int (b2i (x.1 ((58 + 2 * qj) * 8 + 1) = 0))] (E x y)
        refine PW_if_eq c_G_refusalOfBoth_11 (fun _ => ?_) (fun h9 => absurd (b2i_n0.mp h9) q3)
        refine PW_aload_n c_G_refusalOfBoth_17 rfl ?_
        refine PW_V0 (d2 := 0) (st := []) [] c_G_refusalOfBoth_18 lk_G_refusalOfBoth_376 (sh_po _ _ hpj) rfl rfl rfl (Nat.le_of_ble_eq_true rfl) (by first | decide | omega) (Nat.le_of_ble_eq_true rfl) ?_
        refine sp_F_holdsBytes hpj  ?_
        show PW _ _ _ 21 [some (.ref (58 + 2 * pj)), some (.ref (58 + 2 * qj))] [.int (b2i (x.1 ((58 + 2 * pj) * 8 + 1) = 2 ∧ x.1 ((58 + 2 * pj) * 8 + 3) = 0))] (E x y)
        refine PW_if_eq c_G_refusalOfBoth_21 (fun _ => ?_) (fun h10 => absurd (b2i_n0.mp h10) p4)
        refine PW_bipush (v := -12) c_G_refusalOfBoth_35 (by decide) ?_
        refine PW_ireturn (ty := .int) c_G_refusalOfBoth_37 rfl rfl ?_
        show PW _ _ _ 63 [some (.ref 5), some (.int a1), some (.int a2), some (.int a3), some (.int a4), some (.ref (58 + 2 * pj)), some (.ref (58 + 2 * qj)), none] [.int (-12)] (E x y)
        refine PW_istore (i := 7) (L2 := [some (.ref 5), some (.int a1), some (.int a2), some (.int a3), some (.int a4), some (.ref (58 + 2 * pj)), some (.ref (58 + 2 * qj)), some (.int (-12))]) c_G_pair_63 (Nat.le_of_ble_eq_true rfl) rfl rfl ?_
        refine PW_iload c_G_pair_65 rfl ?_
        refine PW_if_eq c_G_pair_67 (fun h11 => absurd h11 (by decide)) (fun _ => ?_)
        refine PW_iload c_G_pair_70 rfl ?_
        refine PW_ireturn (ty := .int) c_G_pair_72 rfl rfl ?_
        exact h
      · refine PW.deeper (k := (5, 0, 0, z)) (Nat.le_of_ble_eq_true rfl) (Nat.le_refl _) (Nat.le_refl _) ?_
        refine PW_iload_n c_M_pair_0 rfl ?_
        refine PW_if_lt c_M_pair_1 (fun h0 => absurd h0 hc0) (fun h0 => ?_)
        refine PW_iload_n c_M_pair_4 rfl ?_
        refine PW_bipush (v := 10) c_M_pair_5 (by decide) ?_
        refine PW_idiv c_M_pair_7 (by decide) ?_
        refine PW_S0 (d2 := 1) (st := []) [.int (a1 / 10)] c_M_pair_8 lk_M_pair_143 rfl rfl rfl (Nat.le_of_ble_eq_true rfl) (by first | decide | omega) (Nat.le_of_ble_eq_true rfl) ?_
        refine sp_M_isShelf2  ?_
        show PW _ _ _ 11 [some (.ref 70), some (.int a1), some (.int a2), some (.int a3), some (.int a4), none, none] [.int (b2i (0 ≤ (a1 / 10).toInt ∧ (a1 / 10).toInt < 6))] (E x y)
        refine PW_if_eq c_M_pair_11 (fun h1 => absurd hc1 (b2i_0.mp h1)) (fun _ => ?_)
        refine PW_iload_n c_M_pair_14 rfl ?_
        refine PW_bipush (v := 10) c_M_pair_15 (by decide) ?_
        refine PW_irem c_M_pair_17 (by decide) ?_
        refine PW_S0 (d2 := 1) (st := []) [.int (a1 - a1 / 10 * 10)] c_M_pair_18 lk_M_pair_143 rfl rfl rfl (Nat.le_of_ble_eq_true rfl) (by first | decide | omega) (Nat.le_of_ble_eq_true rfl) ?_
        refine sp_M_isShelf2  ?_
        show PW _ _ _ 21 [some (.ref 70), some (.int a1), some (.int a2), some (.int a3), some (.int a4), none, none] [.int (b2i (0 ≤ (a1 - a1 / 10 * 10).toInt ∧ (a1 - a1 / 10 * 10).toInt < 6))] (E x y)
        refine PW_if_eq c_M_pair_21 (fun h2 => absurd hc2 (b2i_0.mp h2)) (fun _ => ?_)
        refine PW_iload_n c_M_pair_24 rfl ?_
        refine PW_if_lt c_M_pair_25 (fun h3 => absurd h3 hr0) (fun h3 => ?_)
        refine PW_iload_n c_M_pair_28 rfl ?_
        refine PW_bipush (v := 10) c_M_pair_29 (by decide) ?_
        refine PW_idiv c_M_pair_31 (by decide) ?_
        refine PW_S0 (d2 := 1) (st := []) [.int (a2 / 10)] c_M_pair_32 lk_M_pair_135 rfl rfl rfl (Nat.le_of_ble_eq_true rfl) (by first | decide | omega) (Nat.le_of_ble_eq_true rfl) ?_
        refine sp_M_isRoom  ?_
        show PW _ _ _ 35 [some (.ref 70), some (.int a1), some (.int a2), some (.int a3), some (.int a4), none, none] [.int (b2i (0 ≤ (a2 / 10) ∧ (a2 / 10) ≤ 4))] (E x y)
        refine PW_if_eq c_M_pair_35 (fun h4 => absurd hr1 (b2i_0.mp h4)) (fun _ => ?_)
        refine PW_iload_n c_M_pair_38 rfl ?_
        refine PW_bipush (v := 10) c_M_pair_39 (by decide) ?_
        refine PW_irem c_M_pair_41 (by decide) ?_
        refine PW_S0 (d2 := 1) (st := []) [.int (a2 - a2 / 10 * 10)] c_M_pair_42 lk_M_pair_135 rfl rfl rfl (Nat.le_of_ble_eq_true rfl) (by first | decide | omega) (Nat.le_of_ble_eq_true rfl) ?_
        refine sp_M_isRoom  ?_
        show PW _ _ _ 45 [some (.ref 70), some (.int a1), some (.int a2), some (.int a3), some (.int a4), none, none] [.int (b2i (0 ≤ (a2 - a2 / 10 * 10) ∧ (a2 - a2 / 10 * 10) ≤ 4))] (E x y)
        refine PW_if_eq c_M_pair_45 (fun h5 => absurd hr2 (b2i_0.mp h5)) (fun _ => ?_)
        refine PW_iload_n c_M_pair_48 rfl ?_
        refine PW_iconst (v := 0) c_M_pair_49 (by decide) ?_
        refine PW_bipush (v := 99) c_M_pair_50 (by decide) ?_
        refine PW_S0 (d2 := 0) (st := []) [.int a3, .int 0, .int 99] c_M_pair_52 lk_M_pair_131 rfl rfl rfl (Nat.le_of_ble_eq_true rfl) (by first | decide | omega) (Nat.le_of_ble_eq_true rfl) ?_
        refine sp_M_within  ?_
        show PW _ _ _ 55 [some (.ref 70), some (.int a1), some (.int a2), some (.int a3), some (.int a4), none, none] [.int (b2i ((0 : Int32) ≤ a3 ∧ a3 ≤ (99 : Int32)))] (E x y)
        refine PW_if_eq c_M_pair_55 (fun h6 => absurd hmn (b2i_0.mp h6)) (fun _ => ?_)
        refine PW_iload c_M_pair_58 rfl ?_
        refine PW_iconst (v := 0) c_M_pair_60 (by decide) ?_
        refine PW_iconst (v := 1) c_M_pair_61 (by decide) ?_
        refine PW_S0 (d2 := 0) (st := []) [.int a4, .int 0, .int 1] c_M_pair_62 lk_M_pair_131 rfl rfl rfl (Nat.le_of_ble_eq_true rfl) (by first | decide | omega) (Nat.le_of_ble_eq_true rfl) ?_
        refine sp_M_within  ?_
        show PW _ _ _ 65 [some (.ref 70), some (.int a1), some (.int a2), some (.int a3), some (.int a4), none, none] [.int (b2i ((0 : Int32) ≤ a4 ∧ a4 ≤ (1 : Int32)))] (E x y)
        refine PW_if_ne c_M_pair_65 (fun _ => ?_) (fun h7 => absurd hb4 (b2i_0.mp h7))
        refine PW_aload_n c_M_pair_70 rfl ?_
        refine PW_get (v := .ref 104) c_M_pair_71 fl_M_111 (gf_70_53 _ _) ?_
        refine PW_iload_n c_M_pair_74 rfl ?_
        refine PW_bipush (v := 10) c_M_pair_75 (by decide) ?_
        refine PW_idiv c_M_pair_77 (by decide) ?_
        refine PW_iald (j := pj) c_M_pair_78 (ar_104 _ _) (by rw [e1]; exact vp_in_nI hpj (by decide)) (by rw [e1]; exact nI_clamp (by omega)) ?_
        show PW _ _ _ 79 [some (.ref 70), some (.int a1), some (.int a2), some (.int a3), some (.int a4), none, none] [.int ((y.2.1 104) pj)] (E x y)
        refine PW_iconst (v := -1) c_M_pair_79 (by decide) ?_
        refine PW_icmp_eq c_M_pair_80 (fun h8 => absurd h8 p1) (fun h8 => ?_)
        refine PW_aload_n c_M_pair_83 rfl ?_
        refine PW_get (v := .ref 104) c_M_pair_84 fl_M_111 (gf_70_53 _ _) ?_
        refine PW_iload_n c_M_pair_87 rfl ?_
        refine PW_bipush (v := 10) c_M_pair_88 (by decide) ?_
        refine PW_irem c_M_pair_90 (by decide) ?_
        refine PW_iald (j := qj) c_M_pair_91 (ar_104 _ _) (by rw [e2]; exact vp_in_nI hqj (by decide)) (by rw [e2]; exact nI_clamp (by omega)) ?_
        show PW _ _ _ 92 [some (.ref 70), some (.int a1), some (.int a2), some (.int a3), some (.int a4), none, none] [.int ((y.2.1 104) qj)] (E x y)
        refine PW_iconst (v := -1) c_M_pair_92 (by decide) ?_
        refine PW_icmp_ne c_M_pair_93 (fun h9 => ?_) (fun h9 => absurd h9 q1)
        refine PW_aload_n c_M_pair_99 rfl ?_
        refine PW_iload_n c_M_pair_100 rfl ?_
        refine PW_bipush (v := 10) c_M_pair_101 (by decide) ?_
        refine PW_idiv c_M_pair_103 (by decide) ?_
        refine PW_V0 (d2 := 0) (st := []) [.int (a1 / 10)] c_M_pair_104 lk_M_pair_286 (po_70 _ _) rfl rfl rfl (Nat.le_of_ble_eq_true rfl) (by first | decide | omega) (Nat.le_of_ble_eq_true rfl) ?_
        show PW _ _ _ 0 [some (.ref 70), some (.int (a1 / 10))] [] (E x y)
        refine PW_aload_n c_M_rowFault_0 rfl ?_
        refine PW_get (v := .ref 104) c_M_rowFault_1 fl_M_111 (gf_70_53 _ _) ?_
        refine PW_iload_n c_M_rowFault_4 rfl ?_
        refine PW_iald (j := pj) c_M_rowFault_5 (ar_104 _ _) (by rw [e1]; exact vp_in_nI hpj (by decide)) (by rw [e1]; exact nI_clamp (by omega)) ?_
        show PW _ _ _ 6 [some (.ref 70), some (.int (a1 / 10))] [.int ((y.2.1 104) pj)] (E x y)
        refine PW_iconst (v := -1) c_M_rowFault_6 (by decide) ?_
        refine PW_icmp_ne c_M_rowFault_7 (fun h10 => ?_) (fun h10 => absurd h10 p1)
        refine PW_aload_n c_M_rowFault_15 rfl ?_
        refine PW_get (v := .ref 104) c_M_rowFault_16 fl_M_111 (gf_70_53 _ _) ?_
        refine PW_iload_n c_M_rowFault_19 rfl ?_
        refine PW_iald (j := pj) c_M_rowFault_20 (ar_104 _ _) (by rw [e1]; exact vp_in_nI hpj (by decide)) (by rw [e1]; exact nI_clamp (by omega)) ?_
        show PW _ _ _ 21 [some (.ref 70), some (.int (a1 / 10))] [.int ((y.2.1 104) pj)] (E x y)
        refine PW_bipush (v := -2) c_M_rowFault_21 (by decide) ?_
        refine PW_icmp_ne c_M_rowFault_23 (fun h11 => ?_) (fun h11 => absurd h11 p2)
        refine PW_bipush (v := -12) c_M_rowFault_30 (by decide) ?_
        refine PW_ireturn (ty := .int) c_M_rowFault_32 rfl rfl ?_
        show PW _ _ _ 107 [some (.ref 70), some (.int a1), some (.int a2), some (.int a3), some (.int a4), none, none] [.int (-12)] (E x y)
        refine PW_if_lt c_M_pair_107 (fun _ => ?_) (fun h12 => absurd (by decide) h12)
        refine PW_bipush (v := -12) c_M_pair_121 (by decide) ?_
        refine PW_ireturn (ty := .int) c_M_pair_123 rfl rfl ?_
        exact h
  · rcases sh_cases (hs qj hqj) with ⟨q1, q2⟩ | ⟨q1, q2, q3, q4⟩ | ⟨q1, q2, q3, q4, m, hm, q5, q6, hQ⟩
    · refine ⟨-11, x, y, ?_, fun {z post} h => ?_, fun {z post} h => ?_⟩
      · exact INV_step hI
      · refine PW.deeper (k := (7, 0, 0, z)) (Nat.le_of_ble_eq_true rfl) (Nat.le_refl _) (Nat.le_refl _) ?_
        refine PW_aload_n c_G_pair_0 rfl ?_
        refine PW_iload_n c_G_pair_1 rfl ?_
        refine PW_V0 (d2 := 1) (st := []) [.int a1] c_G_pair_2 lk_G_pair_209 (po_5 _ _) rfl rfl rfl (Nat.le_of_ble_eq_true rfl) (by first | decide | omega) (Nat.le_of_ble_eq_true rfl) ?_
        refine sp_G_firstShelf hc0 hpj e1 ?_
        show PW _ _ _ 5 [some (.ref 5), some (.int a1), some (.int a2), some (.int a3), some (.int a4), none, none, none] [.ref (58 + 2 * pj)] (E x y)
        refine PW_astore (i := 5) (L2 := [some (.ref 5), some (.int a1), some (.int a2), some (.int a3), some (.int a4), some (.ref (58 + 2 * pj)), none, none]) c_G_pair_5 (Nat.le_of_ble_eq_true rfl) rfl rfl ?_
        refine PW_aload_n c_G_pair_7 rfl ?_
        refine PW_iload_n c_G_pair_8 rfl ?_
        refine PW_V0 (d2 := 1) (st := []) [.int a1] c_G_pair_9 lk_G_pair_212 (po_5 _ _) rfl rfl rfl (Nat.le_of_ble_eq_true rfl) (by first | decide | omega) (Nat.le_of_ble_eq_true rfl) ?_
        refine sp_G_secondShelf hc0 hqj e2 ?_
        show PW _ _ _ 12 [some (.ref 5), some (.int a1), some (.int a2), some (.int a3), some (.int a4), some (.ref (58 + 2 * pj)), none, none] [.ref (58 + 2 * qj)] (E x y)
        refine PW_astore (i := 6) (L2 := [some (.ref 5), some (.int a1), some (.int a2), some (.int a3), some (.int a4), some (.ref (58 + 2 * pj)), some (.ref (58 + 2 * qj)), none]) c_G_pair_12 (Nat.le_of_ble_eq_true rfl) rfl rfl ?_
        refine PW_aload c_G_pair_14 rfl ?_
        refine PW_ifnull c_G_pair_16 ?_
        refine PW_aload c_G_pair_19 rfl ?_
        refine PW_ifnull c_G_pair_21 ?_
        refine PW_iload_n c_G_pair_24 rfl ?_
        refine PW_S0 (d2 := 1) (st := []) [.int a2] c_G_pair_25 lk_G_pair_90 rfl rfl rfl (Nat.le_of_ble_eq_true rfl) (by first | decide | omega) (Nat.le_of_ble_eq_true rfl) ?_
        show PW _ _ _ 0 [some (.int a2)] [] (E x y)
        refine PW_iload_n c_G_isRoomPair_0 rfl ?_
        refine PW_if_lt c_G_isRoomPair_1 (fun h0 => absurd h0 hr0) (fun h0 => ?_)
        refine PW_iload_n c_G_isRoomPair_4 rfl ?_
        refine PW_bipush (v := 10) c_G_isRoomPair_5 (by decide) ?_
        refine PW_idiv c_G_isRoomPair_7 (by decide) ?_
        refine PW_S0 (d2 := 0) (st := []) [.int (a2 / 10)] c_G_isRoomPair_8 lk_G_isRoomPair_121 rfl rfl rfl (Nat.le_of_ble_eq_true rfl) (by first | decide | omega) (Nat.le_of_ble_eq_true rfl) ?_
        refine sp_H_isRoom  ?_
        show PW _ _ _ 11 [some (.int a2)] [.int (b2i (0 ≤ (a2 / 10) ∧ (a2 / 10) ≤ 4))] (E x y)
        refine PW_if_eq c_G_isRoomPair_11 (fun h1 => absurd hr1 (b2i_0.mp h1)) (fun _ => ?_)
        refine PW_iload_n c_G_isRoomPair_14 rfl ?_
        refine PW_bipush (v := 10) c_G_isRoomPair_15 (by decide) ?_
        refine PW_irem c_G_isRoomPair_17 (by decide) ?_
        refine PW_S0 (d2 := 0) (st := []) [.int (a2 - a2 / 10 * 10)] c_G_isRoomPair_18 lk_G_isRoomPair_121 rfl rfl rfl (Nat.le_of_ble_eq_true rfl) (by first | decide | omega) (Nat.le_of_ble_eq_true rfl) ?_
        refine sp_H_isRoom  ?_
        show PW _ _ _ 21 [some (.int a2)] [.int (b2i (0 ≤ (a2 - a2 / 10 * 10) ∧ (a2 - a2 / 10 * 10) ≤ 4))] (E x y)
        refine PW_if_eq c_G_isRoomPair_21 (fun h2 => absurd hr2 (b2i_0.mp h2)) (fun _ => ?_)
        refine PW_iconst (v := 1) c_G_isRoomPair_24 (by decide) ?_
        refine PW_goto c_G_isRoomPair_25 ?_
        refine PW_ireturn (ty := .boolean) c_G_isRoomPair_29 rfl (by decide +kernel) ?_
        show PW _ _ _ 28 [some (.ref 5), some (.int a1), some (.int a2), some (.int a3), some (.int a4), some (.ref (58 + 2 * pj)), some (.ref (58 + 2 * qj)), none] [.int 1] (E x y)
        refine PW_if_ne c_G_pair_28 (fun _ => ?_) (fun h3 => absurd h3 (by decide))
        refine PW_iload_n c_G_pair_33 rfl ?_
        refine PW_if_lt c_G_pair_34 (fun h4 => absurd h4 (fun q => by have e := hmn.1; rw [Int32.le_iff_toInt_le] at e; rw [Int32.lt_iff_toInt_lt] at q; omega)) (fun h4 => ?_)
        refine PW_iload_n c_G_pair_37 rfl ?_
        refine PW_bipush (v := 99) c_G_pair_38 (by decide) ?_
        refine PW_icmp_gt c_G_pair_40 (fun h5 => absurd h5 (fun q => by have e := hmn.2; rw [Int32.le_iff_toInt_le] at e; rw [Int32.lt_iff_toInt_lt] at q; omega)) (fun h5 => ?_)
        refine PW_iload c_G_pair_43 rfl ?_
        refine PW_if_lt c_G_pair_45 (fun h6 => absurd h6 (fun q => by have e := hb4.1; rw [Int32.le_iff_toInt_le] at e; rw [Int32.lt_iff_toInt_lt] at q; omega)) (fun h6 => ?_)
        refine PW_iload c_G_pair_48 rfl ?_
        refine PW_iconst (v := 1) c_G_pair_50 (by decide) ?_
        refine PW_icmp_le c_G_pair_51 (fun h7 => ?_) (fun h7 => absurd hb4.2 h7)
        refine PW_aload c_G_pair_56 rfl ?_
        refine PW_aload c_G_pair_58 rfl ?_
        refine PW_S0 (d2 := 1) (st := []) [.ref (58 + 2 * pj), .ref (58 + 2 * qj)] c_G_pair_60 lk_G_pair_215 rfl rfl rfl (Nat.le_of_ble_eq_true rfl) (by first | decide | omega) (Nat.le_of_ble_eq_true rfl) ?_
        show PW _ _ _ 0 [some (.ref (58 + 2 * pj)), some (.ref (58 + 2 * qj))] [] (E x y)
        refine PW_aload_n c_G_refusalOfBoth_0 rfl ?_
        refine PW_V0 (d2 := 0) (st := []) [] c_G_refusalOfBoth_1 lk_G_refusalOfBoth_339 (sh_po _ _ hpj) rfl rfl rfl (Nat.le_of_ble_eq_true rfl) (by first | decide | omega) (Nat.le_of_ble_eq_true rfl) ?_
        refine sp_F_isEmpty hpj  ?_
        show PW _ _ _ 4 [some (.ref (58 + 2 * pj)), some (.ref (58 + 2 * qj))] [.int (b2i (x.1 ((58 + 2 * pj) * 8 + 1) = 0))] (E x y)
        refine PW_if_ne c_G_refusalOfBoth_4 (fun h8 => absurd (b2i_n0.mp h8) p3) (fun _ => ?_)
        refine PW_aload_n c_G_refusalOfBoth_7 rfl ?_
        refine PW_V0 (d2 := 0) (st := []) [] c_G_refusalOfBoth_8 lk_G_refusalOfBoth_339 (sh_po _ _ hqj) rfl rfl rfl (Nat.le_of_ble_eq_true rfl) (by first | decide | omega) (Nat.le_of_ble_eq_true rfl) ?_
        refine sp_F_isEmpty hqj  ?_
        show PW _ _ _ 11 [some (.ref (58 + 2 * pj)), some (.ref (58 + 2 * qj))] [.int (b2i (x.1 ((58 + 2 * qj) * 8 + 1) = 0))] (E x y)
        refine PW_if_eq c_G_refusalOfBoth_11 (fun h9 => absurd q2 (b2i_0.mp h9)) (fun _ => ?_)
        refine PW_bipush (v := -11) c_G_refusalOfBoth_14 (by decide) ?_
        refine PW_ireturn (ty := .int) c_G_refusalOfBoth_16 rfl rfl ?_
        show PW _ _ _ 63 [some (.ref 5), some (.int a1), some (.int a2), some (.int a3), some (.int a4), some (.ref (58 + 2 * pj)), some (.ref (58 + 2 * qj)), none] [.int (-11)] (E x y)
        refine PW_istore (i := 7) (L2 := [some (.ref 5), some (.int a1), some (.int a2), some (.int a3), some (.int a4), some (.ref (58 + 2 * pj)), some (.ref (58 + 2 * qj)), some (.int (-11))]) c_G_pair_63 (Nat.le_of_ble_eq_true rfl) rfl rfl ?_
        refine PW_iload c_G_pair_65 rfl ?_
        refine PW_if_eq c_G_pair_67 (fun h10 => absurd h10 (by decide)) (fun _ => ?_)
        refine PW_iload c_G_pair_70 rfl ?_
        refine PW_ireturn (ty := .int) c_G_pair_72 rfl rfl ?_
        exact h
      · refine PW.deeper (k := (5, 0, 0, z)) (Nat.le_of_ble_eq_true rfl) (Nat.le_refl _) (Nat.le_refl _) ?_
        refine PW_iload_n c_M_pair_0 rfl ?_
        refine PW_if_lt c_M_pair_1 (fun h0 => absurd h0 hc0) (fun h0 => ?_)
        refine PW_iload_n c_M_pair_4 rfl ?_
        refine PW_bipush (v := 10) c_M_pair_5 (by decide) ?_
        refine PW_idiv c_M_pair_7 (by decide) ?_
        refine PW_S0 (d2 := 1) (st := []) [.int (a1 / 10)] c_M_pair_8 lk_M_pair_143 rfl rfl rfl (Nat.le_of_ble_eq_true rfl) (by first | decide | omega) (Nat.le_of_ble_eq_true rfl) ?_
        refine sp_M_isShelf2  ?_
        show PW _ _ _ 11 [some (.ref 70), some (.int a1), some (.int a2), some (.int a3), some (.int a4), none, none] [.int (b2i (0 ≤ (a1 / 10).toInt ∧ (a1 / 10).toInt < 6))] (E x y)
        refine PW_if_eq c_M_pair_11 (fun h1 => absurd hc1 (b2i_0.mp h1)) (fun _ => ?_)
        refine PW_iload_n c_M_pair_14 rfl ?_
        refine PW_bipush (v := 10) c_M_pair_15 (by decide) ?_
        refine PW_irem c_M_pair_17 (by decide) ?_
        refine PW_S0 (d2 := 1) (st := []) [.int (a1 - a1 / 10 * 10)] c_M_pair_18 lk_M_pair_143 rfl rfl rfl (Nat.le_of_ble_eq_true rfl) (by first | decide | omega) (Nat.le_of_ble_eq_true rfl) ?_
        refine sp_M_isShelf2  ?_
        show PW _ _ _ 21 [some (.ref 70), some (.int a1), some (.int a2), some (.int a3), some (.int a4), none, none] [.int (b2i (0 ≤ (a1 - a1 / 10 * 10).toInt ∧ (a1 - a1 / 10 * 10).toInt < 6))] (E x y)
        refine PW_if_eq c_M_pair_21 (fun h2 => absurd hc2 (b2i_0.mp h2)) (fun _ => ?_)
        refine PW_iload_n c_M_pair_24 rfl ?_
        refine PW_if_lt c_M_pair_25 (fun h3 => absurd h3 hr0) (fun h3 => ?_)
        refine PW_iload_n c_M_pair_28 rfl ?_
        refine PW_bipush (v := 10) c_M_pair_29 (by decide) ?_
        refine PW_idiv c_M_pair_31 (by decide) ?_
        refine PW_S0 (d2 := 1) (st := []) [.int (a2 / 10)] c_M_pair_32 lk_M_pair_135 rfl rfl rfl (Nat.le_of_ble_eq_true rfl) (by first | decide | omega) (Nat.le_of_ble_eq_true rfl) ?_
        refine sp_M_isRoom  ?_
        show PW _ _ _ 35 [some (.ref 70), some (.int a1), some (.int a2), some (.int a3), some (.int a4), none, none] [.int (b2i (0 ≤ (a2 / 10) ∧ (a2 / 10) ≤ 4))] (E x y)
        refine PW_if_eq c_M_pair_35 (fun h4 => absurd hr1 (b2i_0.mp h4)) (fun _ => ?_)
        refine PW_iload_n c_M_pair_38 rfl ?_
        refine PW_bipush (v := 10) c_M_pair_39 (by decide) ?_
        refine PW_irem c_M_pair_41 (by decide) ?_
        refine PW_S0 (d2 := 1) (st := []) [.int (a2 - a2 / 10 * 10)] c_M_pair_42 lk_M_pair_135 rfl rfl rfl (Nat.le_of_ble_eq_true rfl) (by first | decide | omega) (Nat.le_of_ble_eq_true rfl) ?_
        refine sp_M_isRoom  ?_
        show PW _ _ _ 45 [some (.ref 70), some (.int a1), some (.int a2), some (.int a3), some (.int a4), none, none] [.int (b2i (0 ≤ (a2 - a2 / 10 * 10) ∧ (a2 - a2 / 10 * 10) ≤ 4))] (E x y)
        refine PW_if_eq c_M_pair_45 (fun h5 => absurd hr2 (b2i_0.mp h5)) (fun _ => ?_)
        refine PW_iload_n c_M_pair_48 rfl ?_
        refine PW_iconst (v := 0) c_M_pair_49 (by decide) ?_
        refine PW_bipush (v := 99) c_M_pair_50 (by decide) ?_
        refine PW_S0 (d2 := 0) (st := []) [.int a3, .int 0, .int 99] c_M_pair_52 lk_M_pair_131 rfl rfl rfl (Nat.le_of_ble_eq_true rfl) (by first | decide | omega) (Nat.le_of_ble_eq_true rfl) ?_
        refine sp_M_within  ?_
        show PW _ _ _ 55 [some (.ref 70), some (.int a1), some (.int a2), some (.int a3), some (.int a4), none, none] [.int (b2i ((0 : Int32) ≤ a3 ∧ a3 ≤ (99 : Int32)))] (E x y)
        refine PW_if_eq c_M_pair_55 (fun h6 => absurd hmn (b2i_0.mp h6)) (fun _ => ?_)
        refine PW_iload c_M_pair_58 rfl ?_
        refine PW_iconst (v := 0) c_M_pair_60 (by decide) ?_
        refine PW_iconst (v := 1) c_M_pair_61 (by decide) ?_
        refine PW_S0 (d2 := 0) (st := []) [.int a4, .int 0, .int 1] c_M_pair_62 lk_M_pair_131 rfl rfl rfl (Nat.le_of_ble_eq_true rfl) (by first | decide | omega) (Nat.le_of_ble_eq_true rfl) ?_
        refine sp_M_within  ?_
        show PW _ _ _ 65 [some (.ref 70), some (.int a1), some (.int a2), some (.int a3), some (.int a4), none, none] [.int (b2i ((0 : Int32) ≤ a4 ∧ a4 ≤ (1 : Int32)))] (E x y)
        refine PW_if_ne c_M_pair_65 (fun _ => ?_) (fun h7 => absurd hb4 (b2i_0.mp h7))
        refine PW_aload_n c_M_pair_70 rfl ?_
        refine PW_get (v := .ref 104) c_M_pair_71 fl_M_111 (gf_70_53 _ _) ?_
        refine PW_iload_n c_M_pair_74 rfl ?_
        refine PW_bipush (v := 10) c_M_pair_75 (by decide) ?_
        refine PW_idiv c_M_pair_77 (by decide) ?_
        refine PW_iald (j := pj) c_M_pair_78 (ar_104 _ _) (by rw [e1]; exact vp_in_nI hpj (by decide)) (by rw [e1]; exact nI_clamp (by omega)) ?_
        show PW _ _ _ 79 [some (.ref 70), some (.int a1), some (.int a2), some (.int a3), some (.int a4), none, none] [.int ((y.2.1 104) pj)] (E x y)
        refine PW_iconst (v := -1) c_M_pair_79 (by decide) ?_
        refine PW_icmp_eq c_M_pair_80 (fun h8 => absurd h8 p1) (fun h8 => ?_)
        refine PW_aload_n c_M_pair_83 rfl ?_
        refine PW_get (v := .ref 104) c_M_pair_84 fl_M_111 (gf_70_53 _ _) ?_
        refine PW_iload_n c_M_pair_87 rfl ?_
        refine PW_bipush (v := 10) c_M_pair_88 (by decide) ?_
        refine PW_irem c_M_pair_90 (by decide) ?_
        refine PW_iald (j := qj) c_M_pair_91 (ar_104 _ _) (by rw [e2]; exact vp_in_nI hqj (by decide)) (by rw [e2]; exact nI_clamp (by omega)) ?_
        show PW _ _ _ 92 [some (.ref 70), some (.int a1), some (.int a2), some (.int a3), some (.int a4), none, none] [.int ((y.2.1 104) qj)] (E x y)
        refine PW_iconst (v := -1) c_M_pair_92 (by decide) ?_
        refine PW_icmp_ne c_M_pair_93 (fun h9 => absurd h9 (not_not_intro q1)) (fun h9 => ?_)
        refine PW_bipush (v := -11) c_M_pair_96 (by decide) ?_
        refine PW_ireturn (ty := .int) c_M_pair_98 rfl rfl ?_
        exact h
    · refine ⟨-12, x, y, ?_, fun {z post} h => ?_, fun {z post} h => ?_⟩
      · exact INV_step hI
      · refine PW.deeper (k := (7, 0, 0, z)) (Nat.le_of_ble_eq_true rfl) (Nat.le_refl _) (Nat.le_refl _) ?_
        refine PW_aload_n c_G_pair_0 rfl ?_
        refine PW_iload_n c_G_pair_1 rfl ?_
        refine PW_V0 (d2 := 1) (st := []) [.int a1] c_G_pair_2 lk_G_pair_209 (po_5 _ _) rfl rfl rfl (Nat.le_of_ble_eq_true rfl) (by first | decide | omega) (Nat.le_of_ble_eq_true rfl) ?_
        refine sp_G_firstShelf hc0 hpj e1 ?_
        show PW _ _ _ 5 [some (.ref 5), some (.int a1), some (.int a2), some (.int a3), some (.int a4), none, none, none] [.ref (58 + 2 * pj)] (E x y)
        refine PW_astore (i := 5) (L2 := [some (.ref 5), some (.int a1), some (.int a2), some (.int a3), some (.int a4), some (.ref (58 + 2 * pj)), none, none]) c_G_pair_5 (Nat.le_of_ble_eq_true rfl) rfl rfl ?_
        refine PW_aload_n c_G_pair_7 rfl ?_
        refine PW_iload_n c_G_pair_8 rfl ?_
        refine PW_V0 (d2 := 1) (st := []) [.int a1] c_G_pair_9 lk_G_pair_212 (po_5 _ _) rfl rfl rfl (Nat.le_of_ble_eq_true rfl) (by first | decide | omega) (Nat.le_of_ble_eq_true rfl) ?_
        refine sp_G_secondShelf hc0 hqj e2 ?_
        show PW _ _ _ 12 [some (.ref 5), some (.int a1), some (.int a2), some (.int a3), some (.int a4), some (.ref (58 + 2 * pj)), none, none] [.ref (58 + 2 * qj)] (E x y)
        refine PW_astore (i := 6) (L2 := [some (.ref 5), some (.int a1), some (.int a2), some (.int a3), some (.int a4), some (.ref (58 + 2 * pj)), some (.ref (58 + 2 * qj)), none]) c_G_pair_12 (Nat.le_of_ble_eq_true rfl) rfl rfl ?_
        refine PW_aload c_G_pair_14 rfl ?_
        refine PW_ifnull c_G_pair_16 ?_
        refine PW_aload c_G_pair_19 rfl ?_
        refine PW_ifnull c_G_pair_21 ?_
        refine PW_iload_n c_G_pair_24 rfl ?_
        refine PW_S0 (d2 := 1) (st := []) [.int a2] c_G_pair_25 lk_G_pair_90 rfl rfl rfl (Nat.le_of_ble_eq_true rfl) (by first | decide | omega) (Nat.le_of_ble_eq_true rfl) ?_
        show PW _ _ _ 0 [some (.int a2)] [] (E x y)
        refine PW_iload_n c_G_isRoomPair_0 rfl ?_
        refine PW_if_lt c_G_isRoomPair_1 (fun h0 => absurd h0 hr0) (fun h0 => ?_)
        refine PW_iload_n c_G_isRoomPair_4 rfl ?_
        refine PW_bipush (v := 10) c_G_isRoomPair_5 (by decide) ?_
        refine PW_idiv c_G_isRoomPair_7 (by decide) ?_
        refine PW_S0 (d2 := 0) (st := []) [.int (a2 / 10)] c_G_isRoomPair_8 lk_G_isRoomPair_121 rfl rfl rfl (Nat.le_of_ble_eq_true rfl) (by first | decide | omega) (Nat.le_of_ble_eq_true rfl) ?_
        refine sp_H_isRoom  ?_
        show PW _ _ _ 11 [some (.int a2)] [.int (b2i (0 ≤ (a2 / 10) ∧ (a2 / 10) ≤ 4))] (E x y)
        refine PW_if_eq c_G_isRoomPair_11 (fun h1 => absurd hr1 (b2i_0.mp h1)) (fun _ => ?_)
        refine PW_iload_n c_G_isRoomPair_14 rfl ?_
        refine PW_bipush (v := 10) c_G_isRoomPair_15 (by decide) ?_
        refine PW_irem c_G_isRoomPair_17 (by decide) ?_
        refine PW_S0 (d2 := 0) (st := []) [.int (a2 - a2 / 10 * 10)] c_G_isRoomPair_18 lk_G_isRoomPair_121 rfl rfl rfl (Nat.le_of_ble_eq_true rfl) (by first | decide | omega) (Nat.le_of_ble_eq_true rfl) ?_
        refine sp_H_isRoom  ?_
        show PW _ _ _ 21 [some (.int a2)] [.int (b2i (0 ≤ (a2 - a2 / 10 * 10) ∧ (a2 - a2 / 10 * 10) ≤ 4))] (E x y)
        refine PW_if_eq c_G_isRoomPair_21 (fun h2 => absurd hr2 (b2i_0.mp h2)) (fun _ => ?_)
        refine PW_iconst (v := 1) c_G_isRoomPair_24 (by decide) ?_
        refine PW_goto c_G_isRoomPair_25 ?_
        refine PW_ireturn (ty := .boolean) c_G_isRoomPair_29 rfl (by decide +kernel) ?_
        show PW _ _ _ 28 [some (.ref 5), some (.int a1), some (.int a2), some (.int a3), some (.int a4), some (.ref (58 + 2 * pj)), some (.ref (58 + 2 * qj)), none] [.int 1] (E x y)
        refine PW_if_ne c_G_pair_28 (fun _ => ?_) (fun h3 => absurd h3 (by decide))
        refine PW_iload_n c_G_pair_33 rfl ?_
        refine PW_if_lt c_G_pair_34 (fun h4 => absurd h4 (fun q => by have e := hmn.1; rw [Int32.le_iff_toInt_le] at e; rw [Int32.lt_iff_toInt_lt] at q; omega)) (fun h4 => ?_)
        refine PW_iload_n c_G_pair_37 rfl ?_
        refine PW_bipush (v := 99) c_G_pair_38 (by decide) ?_
        refine PW_icmp_gt c_G_pair_40 (fun h5 => absurd h5 (fun q => by have e := hmn.2; rw [Int32.le_iff_toInt_le] at e; rw [Int32.lt_iff_toInt_lt] at q; omega)) (fun h5 => ?_)
        refine PW_iload c_G_pair_43 rfl ?_
        refine PW_if_lt c_G_pair_45 (fun h6 => absurd h6 (fun q => by have e := hb4.1; rw [Int32.le_iff_toInt_le] at e; rw [Int32.lt_iff_toInt_lt] at q; omega)) (fun h6 => ?_)
        refine PW_iload c_G_pair_48 rfl ?_
        refine PW_iconst (v := 1) c_G_pair_50 (by decide) ?_
        refine PW_icmp_le c_G_pair_51 (fun h7 => ?_) (fun h7 => absurd hb4.2 h7)
        refine PW_aload c_G_pair_56 rfl ?_
        refine PW_aload c_G_pair_58 rfl ?_
        refine PW_S0 (d2 := 1) (st := []) [.ref (58 + 2 * pj), .ref (58 + 2 * qj)] c_G_pair_60 lk_G_pair_215 rfl rfl rfl (Nat.le_of_ble_eq_true rfl) (by first | decide | omega) (Nat.le_of_ble_eq_true rfl) ?_
        show PW _ _ _ 0 [some (.ref (58 + 2 * pj)), some (.ref (58 + 2 * qj))] [] (E x y)
        refine PW_aload_n c_G_refusalOfBoth_0 rfl ?_
        refine PW_V0 (d2 := 0) (st := []) [] c_G_refusalOfBoth_1 lk_G_refusalOfBoth_339 (sh_po _ _ hpj) rfl rfl rfl (Nat.le_of_ble_eq_true rfl) (by first | decide | omega) (Nat.le_of_ble_eq_true rfl) ?_
        refine sp_F_isEmpty hpj  ?_
        show PW _ _ _ 4 [some (.ref (58 + 2 * pj)), some (.ref (58 + 2 * qj))] [.int (b2i (x.1 ((58 + 2 * pj) * 8 + 1) = 0))] (E x y)
        refine PW_if_ne c_G_refusalOfBoth_4 (fun h8 => absurd (b2i_n0.mp h8) p3) (fun _ => ?_)
        refine PW_aload_n c_G_refusalOfBoth_7 rfl ?_
        refine PW_V0 (d2 := 0) (st := []) [] c_G_refusalOfBoth_8 lk_G_refusalOfBoth_339 (sh_po _ _ hqj) rfl rfl rfl (Nat.le_of_ble_eq_true rfl) (by first | decide | omega) (Nat.le_of_ble_eq_true rfl) ?_
        refine sp_F_isEmpty hqj  ?_
        show PW _ _ _ 11 [some (.ref (58 + 2 * pj)), some (.ref (58 + 2 * qj))] [.int (b2i (x.1 ((58 + 2 * qj) * 8 + 1) = 0))] (E x y)
        refine PW_if_eq c_G_refusalOfBoth_11 (fun _ => ?_) (fun h9 => absurd (b2i_n0.mp h9) q3)
        refine PW_aload_n c_G_refusalOfBoth_17 rfl ?_
        refine PW_V0 (d2 := 0) (st := []) [] c_G_refusalOfBoth_18 lk_G_refusalOfBoth_376 (sh_po _ _ hpj) rfl rfl rfl (Nat.le_of_ble_eq_true rfl) (by first | decide | omega) (Nat.le_of_ble_eq_true rfl) ?_
        refine sp_F_holdsBytes hpj  ?_
        show PW _ _ _ 21 [some (.ref (58 + 2 * pj)), some (.ref (58 + 2 * qj))] [.int (b2i (x.1 ((58 + 2 * pj) * 8 + 1) = 2 ∧ x.1 ((58 + 2 * pj) * 8 + 3) = 0))] (E x y)
        refine PW_if_eq c_G_refusalOfBoth_21 (fun h10 => absurd p4 (b2i_0.mp h10)) (fun _ => ?_)
        refine PW_aload_n c_G_refusalOfBoth_24 rfl ?_
        refine PW_V0 (d2 := 0) (st := []) [] c_G_refusalOfBoth_25 lk_G_refusalOfBoth_376 (sh_po _ _ hqj) rfl rfl rfl (Nat.le_of_ble_eq_true rfl) (by first | decide | omega) (Nat.le_of_ble_eq_true rfl) ?_
        refine sp_F_holdsBytes hqj  ?_
        show PW _ _ _ 28 [some (.ref (58 + 2 * pj)), some (.ref (58 + 2 * qj))] [.int (b2i (x.1 ((58 + 2 * qj) * 8 + 1) = 2 ∧ x.1 ((58 + 2 * qj) * 8 + 3) = 0))] (E x y)
        refine PW_if_eq c_G_refusalOfBoth_28 (fun _ => ?_) (fun h11 => absurd (b2i_n0.mp h11) q4)
        refine PW_bipush (v := -12) c_G_refusalOfBoth_35 (by decide) ?_
        refine PW_ireturn (ty := .int) c_G_refusalOfBoth_37 rfl rfl ?_
        show PW _ _ _ 63 [some (.ref 5), some (.int a1), some (.int a2), some (.int a3), some (.int a4), some (.ref (58 + 2 * pj)), some (.ref (58 + 2 * qj)), none] [.int (-12)] (E x y)
        refine PW_istore (i := 7) (L2 := [some (.ref 5), some (.int a1), some (.int a2), some (.int a3), some (.int a4), some (.ref (58 + 2 * pj)), some (.ref (58 + 2 * qj)), some (.int (-12))]) c_G_pair_63 (Nat.le_of_ble_eq_true rfl) rfl rfl ?_
        refine PW_iload c_G_pair_65 rfl ?_
        refine PW_if_eq c_G_pair_67 (fun h12 => absurd h12 (by decide)) (fun _ => ?_)
        refine PW_iload c_G_pair_70 rfl ?_
        refine PW_ireturn (ty := .int) c_G_pair_72 rfl rfl ?_
        exact h
      · refine PW.deeper (k := (5, 0, 0, z)) (Nat.le_of_ble_eq_true rfl) (Nat.le_refl _) (Nat.le_refl _) ?_
        refine PW_iload_n c_M_pair_0 rfl ?_
        refine PW_if_lt c_M_pair_1 (fun h0 => absurd h0 hc0) (fun h0 => ?_)
        refine PW_iload_n c_M_pair_4 rfl ?_
        refine PW_bipush (v := 10) c_M_pair_5 (by decide) ?_
        refine PW_idiv c_M_pair_7 (by decide) ?_
        refine PW_S0 (d2 := 1) (st := []) [.int (a1 / 10)] c_M_pair_8 lk_M_pair_143 rfl rfl rfl (Nat.le_of_ble_eq_true rfl) (by first | decide | omega) (Nat.le_of_ble_eq_true rfl) ?_
        refine sp_M_isShelf2  ?_
        show PW _ _ _ 11 [some (.ref 70), some (.int a1), some (.int a2), some (.int a3), some (.int a4), none, none] [.int (b2i (0 ≤ (a1 / 10).toInt ∧ (a1 / 10).toInt < 6))] (E x y)
        refine PW_if_eq c_M_pair_11 (fun h1 => absurd hc1 (b2i_0.mp h1)) (fun _ => ?_)
        refine PW_iload_n c_M_pair_14 rfl ?_
        refine PW_bipush (v := 10) c_M_pair_15 (by decide) ?_
        refine PW_irem c_M_pair_17 (by decide) ?_
        refine PW_S0 (d2 := 1) (st := []) [.int (a1 - a1 / 10 * 10)] c_M_pair_18 lk_M_pair_143 rfl rfl rfl (Nat.le_of_ble_eq_true rfl) (by first | decide | omega) (Nat.le_of_ble_eq_true rfl) ?_
        refine sp_M_isShelf2  ?_
        show PW _ _ _ 21 [some (.ref 70), some (.int a1), some (.int a2), some (.int a3), some (.int a4), none, none] [.int (b2i (0 ≤ (a1 - a1 / 10 * 10).toInt ∧ (a1 - a1 / 10 * 10).toInt < 6))] (E x y)
        refine PW_if_eq c_M_pair_21 (fun h2 => absurd hc2 (b2i_0.mp h2)) (fun _ => ?_)
        refine PW_iload_n c_M_pair_24 rfl ?_
        refine PW_if_lt c_M_pair_25 (fun h3 => absurd h3 hr0) (fun h3 => ?_)
        refine PW_iload_n c_M_pair_28 rfl ?_
        refine PW_bipush (v := 10) c_M_pair_29 (by decide) ?_
        refine PW_idiv c_M_pair_31 (by decide) ?_
        refine PW_S0 (d2 := 1) (st := []) [.int (a2 / 10)] c_M_pair_32 lk_M_pair_135 rfl rfl rfl (Nat.le_of_ble_eq_true rfl) (by first | decide | omega) (Nat.le_of_ble_eq_true rfl) ?_
        refine sp_M_isRoom  ?_
        show PW _ _ _ 35 [some (.ref 70), some (.int a1), some (.int a2), some (.int a3), some (.int a4), none, none] [.int (b2i (0 ≤ (a2 / 10) ∧ (a2 / 10) ≤ 4))] (E x y)
        refine PW_if_eq c_M_pair_35 (fun h4 => absurd hr1 (b2i_0.mp h4)) (fun _ => ?_)
        refine PW_iload_n c_M_pair_38 rfl ?_
        refine PW_bipush (v := 10) c_M_pair_39 (by decide) ?_
        refine PW_irem c_M_pair_41 (by decide) ?_
        refine PW_S0 (d2 := 1) (st := []) [.int (a2 - a2 / 10 * 10)] c_M_pair_42 lk_M_pair_135 rfl rfl rfl (Nat.le_of_ble_eq_true rfl) (by first | decide | omega) (Nat.le_of_ble_eq_true rfl) ?_
        refine sp_M_isRoom  ?_
        show PW _ _ _ 45 [some (.ref 70), some (.int a1), some (.int a2), some (.int a3), some (.int a4), none, none] [.int (b2i (0 ≤ (a2 - a2 / 10 * 10) ∧ (a2 - a2 / 10 * 10) ≤ 4))] (E x y)
        refine PW_if_eq c_M_pair_45 (fun h5 => absurd hr2 (b2i_0.mp h5)) (fun _ => ?_)
        refine PW_iload_n c_M_pair_48 rfl ?_
        refine PW_iconst (v := 0) c_M_pair_49 (by decide) ?_
        refine PW_bipush (v := 99) c_M_pair_50 (by decide) ?_
        refine PW_S0 (d2 := 0) (st := []) [.int a3, .int 0, .int 99] c_M_pair_52 lk_M_pair_131 rfl rfl rfl (Nat.le_of_ble_eq_true rfl) (by first | decide | omega) (Nat.le_of_ble_eq_true rfl) ?_
        refine sp_M_within  ?_
        show PW _ _ _ 55 [some (.ref 70), some (.int a1), some (.int a2), some (.int a3), some (.int a4), none, none] [.int (b2i ((0 : Int32) ≤ a3 ∧ a3 ≤ (99 : Int32)))] (E x y)
        refine PW_if_eq c_M_pair_55 (fun h6 => absurd hmn (b2i_0.mp h6)) (fun _ => ?_)
        refine PW_iload c_M_pair_58 rfl ?_
        refine PW_iconst (v := 0) c_M_pair_60 (by decide) ?_
        refine PW_iconst (v := 1) c_M_pair_61 (by decide) ?_
        refine PW_S0 (d2 := 0) (st := []) [.int a4, .int 0, .int 1] c_M_pair_62 lk_M_pair_131 rfl rfl rfl (Nat.le_of_ble_eq_true rfl) (by first | decide | omega) (Nat.le_of_ble_eq_true rfl) ?_
        refine sp_M_within  ?_
        show PW _ _ _ 65 [some (.ref 70), some (.int a1), some (.int a2), some (.int a3), some (.int a4), none, none] [.int (b2i ((0 : Int32) ≤ a4 ∧ a4 ≤ (1 : Int32)))] (E x y)
        refine PW_if_ne c_M_pair_65 (fun _ => ?_) (fun h7 => absurd hb4 (b2i_0.mp h7))
        refine PW_aload_n c_M_pair_70 rfl ?_
        refine PW_get (v := .ref 104) c_M_pair_71 fl_M_111 (gf_70_53 _ _) ?_
        refine PW_iload_n c_M_pair_74 rfl ?_
        refine PW_bipush (v := 10) c_M_pair_75 (by decide) ?_
        refine PW_idiv c_M_pair_77 (by decide) ?_
        refine PW_iald (j := pj) c_M_pair_78 (ar_104 _ _) (by rw [e1]; exact vp_in_nI hpj (by decide)) (by rw [e1]; exact nI_clamp (by omega)) ?_
        show PW _ _ _ 79 [some (.ref 70), some (.int a1), some (.int a2), some (.int a3), some (.int a4), none, none] [.int ((y.2.1 104) pj)] (E x y)
        refine PW_iconst (v := -1) c_M_pair_79 (by decide) ?_
        refine PW_icmp_eq c_M_pair_80 (fun h8 => absurd h8 p1) (fun h8 => ?_)
        refine PW_aload_n c_M_pair_83 rfl ?_
        refine PW_get (v := .ref 104) c_M_pair_84 fl_M_111 (gf_70_53 _ _) ?_
        refine PW_iload_n c_M_pair_87 rfl ?_
        refine PW_bipush (v := 10) c_M_pair_88 (by decide) ?_
        refine PW_irem c_M_pair_90 (by decide) ?_
        refine PW_iald (j := qj) c_M_pair_91 (ar_104 _ _) (by rw [e2]; exact vp_in_nI hqj (by decide)) (by rw [e2]; exact nI_clamp (by omega)) ?_
        show PW _ _ _ 92 [some (.ref 70), some (.int a1), some (.int a2), some (.int a3), some (.int a4), none, none] [.int ((y.2.1 104) qj)] (E x y)
        refine PW_iconst (v := -1) c_M_pair_92 (by decide) ?_
        refine PW_icmp_ne c_M_pair_93 (fun h9 => ?_) (fun h9 => absurd h9 q1)
        refine PW_aload_n c_M_pair_99 rfl ?_
        refine PW_iload_n c_M_pair_100 rfl ?_
        refine PW_bipush (v := 10) c_M_pair_101 (by decide) ?_
        refine PW_idiv c_M_pair_103 (by decide) ?_
        refine PW_V0 (d2 := 0) (st := []) [.int (a1 / 10)] c_M_pair_104 lk_M_pair_286 (po_70 _ _) rfl rfl rfl (Nat.le_of_ble_eq_true rfl) (by first | decide | omega) (Nat.le_of_ble_eq_true rfl) ?_
        show PW _ _ _ 0 [some (.ref 70), some (.int (a1 / 10))] [] (E x y)
        refine PW_aload_n c_M_rowFault_0 rfl ?_
        refine PW_get (v := .ref 104) c_M_rowFault_1 fl_M_111 (gf_70_53 _ _) ?_
        refine PW_iload_n c_M_rowFault_4 rfl ?_
        refine PW_iald (j := pj) c_M_rowFault_5 (ar_104 _ _) (by rw [e1]; exact vp_in_nI hpj (by decide)) (by rw [e1]; exact nI_clamp (by omega)) ?_
        show PW _ _ _ 6 [some (.ref 70), some (.int (a1 / 10))] [.int ((y.2.1 104) pj)] (E x y)
        refine PW_iconst (v := -1) c_M_rowFault_6 (by decide) ?_
        refine PW_icmp_ne c_M_rowFault_7 (fun h10 => ?_) (fun h10 => absurd h10 p1)
        refine PW_aload_n c_M_rowFault_15 rfl ?_
        refine PW_get (v := .ref 104) c_M_rowFault_16 fl_M_111 (gf_70_53 _ _) ?_
        refine PW_iload_n c_M_rowFault_19 rfl ?_
        refine PW_iald (j := pj) c_M_rowFault_20 (ar_104 _ _) (by rw [e1]; exact vp_in_nI hpj (by decide)) (by rw [e1]; exact nI_clamp (by omega)) ?_
        show PW _ _ _ 21 [some (.ref 70), some (.int (a1 / 10))] [.int ((y.2.1 104) pj)] (E x y)
        refine PW_bipush (v := -2) c_M_rowFault_21 (by decide) ?_
        refine PW_icmp_ne c_M_rowFault_23 (fun h11 => absurd h11 (not_not_intro p2)) (fun h11 => ?_)
        refine PW_iconst (v := 0) c_M_rowFault_26 (by decide) ?_
        refine PW_goto c_M_rowFault_27 ?_
        refine PW_ireturn (ty := .int) c_M_rowFault_32 rfl rfl ?_
        show PW _ _ _ 107 [some (.ref 70), some (.int a1), some (.int a2), some (.int a3), some (.int a4), none, none] [.int 0] (E x y)
        refine PW_if_lt c_M_pair_107 (fun h12 => absurd h12 (by decide)) (fun _ => ?_)
        refine PW_aload_n c_M_pair_110 rfl ?_
        refine PW_iload_n c_M_pair_111 rfl ?_
        refine PW_bipush (v := 10) c_M_pair_112 (by decide) ?_
        refine PW_irem c_M_pair_114 (by decide) ?_
        refine PW_V0 (d2 := 0) (st := []) [.int (a1 - a1 / 10 * 10)] c_M_pair_115 lk_M_pair_286 (po_70 _ _) rfl rfl rfl (Nat.le_of_ble_eq_true rfl) (by first | decide | omega) (Nat.le_of_ble_eq_true rfl) ?_
        show PW _ _ _ 0 [some (.ref 70), some (.int (a1 - a1 / 10 * 10))] [] (E x y)
        refine PW_aload_n c_M_rowFault_0 rfl ?_
        refine PW_get (v := .ref 104) c_M_rowFault_1 fl_M_111 (gf_70_53 _ _) ?_
        refine PW_iload_n c_M_rowFault_4 rfl ?_
        refine PW_iald (j := qj) c_M_rowFault_5 (ar_104 _ _) (by rw [e2]; exact vp_in_nI hqj (by decide)) (by rw [e2]; exact nI_clamp (by omega)) ?_
        show PW _ _ _ 6 [some (.ref 70), some (.int (a1 - a1 / 10 * 10))] [.int ((y.2.1 104) qj)] (E x y)
        refine PW_iconst (v := -1) c_M_rowFault_6 (by decide) ?_
        refine PW_icmp_ne c_M_rowFault_7 (fun h13 => ?_) (fun h13 => absurd h13 q1)
        refine PW_aload_n c_M_rowFault_15 rfl ?_
        refine PW_get (v := .ref 104) c_M_rowFault_16 fl_M_111 (gf_70_53 _ _) ?_
        refine PW_iload_n c_M_rowFault_19 rfl ?_
        refine PW_iald (j := qj) c_M_rowFault_20 (ar_104 _ _) (by rw [e2]; exact vp_in_nI hqj (by decide)) (by rw [e2]; exact nI_clamp (by omega)) ?_
        show PW _ _ _ 21 [some (.ref 70), some (.int (a1 - a1 / 10 * 10))] [.int ((y.2.1 104) qj)] (E x y)
        refine PW_bipush (v := -2) c_M_rowFault_21 (by decide) ?_
        refine PW_icmp_ne c_M_rowFault_23 (fun h14 => ?_) (fun h14 => absurd h14 q2)
        refine PW_bipush (v := -12) c_M_rowFault_30 (by decide) ?_
        refine PW_ireturn (ty := .int) c_M_rowFault_32 rfl rfl ?_
        show PW _ _ _ 118 [some (.ref 70), some (.int a1), some (.int a2), some (.int a3), some (.int a4), none, none] [.int (-12)] (E x y)
        refine PW_if_ge c_M_pair_118 (fun h15 => absurd h15 (by decide)) (fun _ => ?_)
        refine PW_bipush (v := -12) c_M_pair_121 (by decide) ?_
        refine PW_ireturn (ty := .int) c_M_pair_123 rfl rfl ?_
        exact h
    · have hra := rm_nI hr1
      have hrb := rm_nI hr2
      generalize hRa : (a2 / 10).toNatClampNeg = ra at hra
      generalize hRb : (a2 - a2 / 10 * 10).toNatClampNeg = rb at hrb
      have hm3 : 0 ≤ a3.toInt ∧ a3.toInt ≤ 99 := by have q := hmn; rw [Int32.le_iff_toInt_le, Int32.le_iff_toInt_le, show (0 : Int32).toInt = 0 by decide, show (99 : Int32).toInt = 99 by decide] at q; exact q
      have hLd0 := ldF_p (plF y pj) n 12 0
      have hLd1 := ldF_p (plF y qj) m 12 0
      generalize hNd0 : ldF (plF y pj) n 12 0 = N0 at hLd0
      generalize hNd1 : ldF (plF y qj) m 12 0 = N1 at hLd1
      obtain ⟨-, hN0, hL0, hE0⟩ := hLd0
      obtain ⟨-, hN1, hL1, hE1⟩ := hLd1
      have hR0' : ∀ i, i < n → (x.2.2 (59 + 2 * pj) i).toInt32 = plF y pj i := fun i hi => (hP i hi).1
      have hR1' : ∀ i, i < m → (x.2.2 (59 + 2 * qj) i).toInt32 = plF y qj i := fun i hi => (hQ i hi).1
      have hX0 : xS x (sI (sI (sI (sI (sI (sI (sI (sI x 338 (a2 / 10)) 339 a3) 340 0) 346 (a2 - a2 / 10 * 10)) 347 a3) 348 0) 285 0) 286 0) := ⟨fun k hk => by rw [sI_n (by omega), sI_n (by omega), sI_n (by omega), sI_n (by omega), sI_n (by omega), sI_n (by omega), sI_n (by omega), sI_n (by omega)], fun _ _ => rfl, rfl⟩
      have hY0 : yS y (sA (sA (sA (sA (sA (sA (sA (sA y 93 (upd (y.2.1 93) 0 (a2 / 10))) 94 (upd (y.2.1 94) 0 a3)) 95 (upd (y.2.1 95) 0 0)) 96 (upd (y.2.1 96) 0 0)) 93 (upd (upd (y.2.1 93) 0 (a2 / 10)) 1 (a2 - a2 / 10 * 10))) 94 (upd (upd (y.2.1 94) 0 a3) 1 a3)) 95 (upd (upd (y.2.1 95) 0 0) 1 0)) 96 (upd (upd (y.2.1 96) 0 0) 1 0)) := ⟨fun _ _ => rfl, fun k hk => by rw [sA_A, if_neg (by omega), sA_A, if_neg (by omega), sA_A, if_neg (by omega), sA_A, if_neg (by omega), sA_A, if_neg (by omega), sA_A, if_neg (by omega), sA_A, if_neg (by omega), sA_A, if_neg (by omega)], rfl⟩
      have hI0 : prI x y (sI (sI (sI (sI (sI (sI (sI (sI x 338 (a2 / 10)) 339 a3) 340 0) 346 (a2 - a2 / 10 * 10)) 347 a3) 348 0) 285 0) 286 0) (sA (sA (sA (sA (sA (sA (sA (sA y 93 (upd (y.2.1 93) 0 (a2 / 10))) 94 (upd (y.2.1 94) 0 a3)) 95 (upd (y.2.1 95) 0 0)) 96 (upd (y.2.1 96) 0 0)) 93 (upd (upd (y.2.1 93) 0 (a2 / 10)) 1 (a2 - a2 / 10 * 10))) 94 (upd (upd (y.2.1 94) 0 a3) 1 a3)) 95 (upd (upd (y.2.1 95) 0 0) 1 0)) 96 (upd (upd (y.2.1 96) 0 0) 1 0)) ra a3 0 (fun _ => 0) (fun _ => 0) rb a3 0 (fun _ => 0) (fun _ => 0) := ⟨⟨hX0, hY0⟩, ⟨⟨⟨hra.1, rfl, rfl⟩, rfl, fun i hi => absurd hi (Nat.not_lt_zero i)⟩, ⟨⟨hrb.1, rfl, rfl⟩, rfl, fun i hi => absurd hi (Nat.not_lt_zero i)⟩⟩, ⟨⟨hra.1, rfl, rfl, rfl, fun i hi => absurd hi (Nat.not_lt_zero i)⟩, ⟨hrb.1, rfl, rfl, rfl, fun i hi => absurd hi (Nat.not_lt_zero i)⟩⟩, ⟨hra.2, hrb.2⟩, by omega, by omega, fun i hi => absurd hi (Nat.not_lt_zero i), fun i hi => absurd hi (Nat.not_lt_zero i)⟩
      obtain ⟨XX, YY, A0, M0, K0, E0, W0, A1, M1, K1, E1, W1, hIE, hK0, hK1, HG, HM⟩ := pr_all (T := T) (a1 := a1) (a2 := a2) (a3 := a3) (a4 := a4) (N0 := N0) (N1 := N1) hg hT e1 e2 hpj p4 p6 p5 hn hR0' (by omega) (fun i hi => hL0 i (Nat.zero_le _) hi) (hE0.imp (fun q => by omega) id) hqj q4 q6 q5 hm hR1' (by omega) (fun i hi => hL1 i (Nat.zero_le _) hi) (hE1.imp (fun q => by omega) id) ((N0 - 0) + (N1 - 0)) 0 0 _ _ ra a3 _ _ rb a3 _ _ (Nat.zero_le _) (Nat.zero_le _) rfl hI0
      obtain ⟨⟨hXX, hYY⟩, ⟨⟨sX0, -, -⟩, ⟨sX1, -, -⟩⟩, ⟨hy0, hy1⟩, ⟨hA5, hB5⟩, -, -, hf0, hf1⟩ := id hIE
      have CX := CPg_S hg hXX (yS_0 y)
      have hWY : WG YY := (CPg_S hg (xS_0 x) hYY).1
      obtain ⟨g1, g2, g3, g4, g5, g6, g7⟩ := gE_fun (gE_S hYY)
      by_cases hw0 : a4 = 0
      · refine ⟨if M0 + wayN y A0 0 < M1 + wayN y A1 0 then M1 + wayN y A1 0 else M0 + wayN y A0 0, XX, YY, ?_, fun {z post} h => ?_, fun {z post} h => ?_⟩
        · exact INV_step (INV_S hI hXX hYY)
        · refine PW.deeper (k := (7, 0, 0, z)) (Nat.le_of_ble_eq_true rfl) (Nat.le_refl _) (Nat.le_refl _) ?_
          refine PW_aload_n c_G_pair_0 rfl ?_
          refine PW_iload_n c_G_pair_1 rfl ?_
          refine PW_V0 (d2 := 1) (st := []) [.int a1] c_G_pair_2 lk_G_pair_209 (po_5 _ _) rfl rfl rfl (Nat.le_of_ble_eq_true rfl) (by first | decide | omega) (Nat.le_of_ble_eq_true rfl) ?_
          refine sp_G_firstShelf hc0 hpj e1 ?_
          show PW _ _ _ 5 [some (.ref 5), some (.int a1), some (.int a2), some (.int a3), some (.int a4), none, none, none] [.ref (58 + 2 * pj)] (E x y)
          refine PW_astore (i := 5) (L2 := [some (.ref 5), some (.int a1), some (.int a2), some (.int a3), some (.int a4), some (.ref (58 + 2 * pj)), none, none]) c_G_pair_5 (Nat.le_of_ble_eq_true rfl) rfl rfl ?_
          refine PW_aload_n c_G_pair_7 rfl ?_
          refine PW_iload_n c_G_pair_8 rfl ?_
          refine PW_V0 (d2 := 1) (st := []) [.int a1] c_G_pair_9 lk_G_pair_212 (po_5 _ _) rfl rfl rfl (Nat.le_of_ble_eq_true rfl) (by first | decide | omega) (Nat.le_of_ble_eq_true rfl) ?_
          refine sp_G_secondShelf hc0 hqj e2 ?_
          show PW _ _ _ 12 [some (.ref 5), some (.int a1), some (.int a2), some (.int a3), some (.int a4), some (.ref (58 + 2 * pj)), none, none] [.ref (58 + 2 * qj)] (E x y)
          refine PW_astore (i := 6) (L2 := [some (.ref 5), some (.int a1), some (.int a2), some (.int a3), some (.int a4), some (.ref (58 + 2 * pj)), some (.ref (58 + 2 * qj)), none]) c_G_pair_12 (Nat.le_of_ble_eq_true rfl) rfl rfl ?_
          refine PW_aload c_G_pair_14 rfl ?_
          refine PW_ifnull c_G_pair_16 ?_
          refine PW_aload c_G_pair_19 rfl ?_
          refine PW_ifnull c_G_pair_21 ?_
          refine PW_iload_n c_G_pair_24 rfl ?_
          refine PW_S0 (d2 := 1) (st := []) [.int a2] c_G_pair_25 lk_G_pair_90 rfl rfl rfl (Nat.le_of_ble_eq_true rfl) (by first | decide | omega) (Nat.le_of_ble_eq_true rfl) ?_
          show PW _ _ _ 0 [some (.int a2)] [] (E x y)
          refine PW_iload_n c_G_isRoomPair_0 rfl ?_
          refine PW_if_lt c_G_isRoomPair_1 (fun h0 => absurd h0 hr0) (fun h0 => ?_)
          refine PW_iload_n c_G_isRoomPair_4 rfl ?_
          refine PW_bipush (v := 10) c_G_isRoomPair_5 (by decide) ?_
          refine PW_idiv c_G_isRoomPair_7 (by decide) ?_
          refine PW_S0 (d2 := 0) (st := []) [.int (a2 / 10)] c_G_isRoomPair_8 lk_G_isRoomPair_121 rfl rfl rfl (Nat.le_of_ble_eq_true rfl) (by first | decide | omega) (Nat.le_of_ble_eq_true rfl) ?_
          refine sp_H_isRoom  ?_
          show PW _ _ _ 11 [some (.int a2)] [.int (b2i (0 ≤ (a2 / 10) ∧ (a2 / 10) ≤ 4))] (E x y)
          refine PW_if_eq c_G_isRoomPair_11 (fun h1 => absurd hr1 (b2i_0.mp h1)) (fun _ => ?_)
          refine PW_iload_n c_G_isRoomPair_14 rfl ?_
          refine PW_bipush (v := 10) c_G_isRoomPair_15 (by decide) ?_
          refine PW_irem c_G_isRoomPair_17 (by decide) ?_
          refine PW_S0 (d2 := 0) (st := []) [.int (a2 - a2 / 10 * 10)] c_G_isRoomPair_18 lk_G_isRoomPair_121 rfl rfl rfl (Nat.le_of_ble_eq_true rfl) (by first | decide | omega) (Nat.le_of_ble_eq_true rfl) ?_
          refine sp_H_isRoom  ?_
          show PW _ _ _ 21 [some (.int a2)] [.int (b2i (0 ≤ (a2 - a2 / 10 * 10) ∧ (a2 - a2 / 10 * 10) ≤ 4))] (E x y)
          refine PW_if_eq c_G_isRoomPair_21 (fun h2 => absurd hr2 (b2i_0.mp h2)) (fun _ => ?_)
          refine PW_iconst (v := 1) c_G_isRoomPair_24 (by decide) ?_
          refine PW_goto c_G_isRoomPair_25 ?_
          refine PW_ireturn (ty := .boolean) c_G_isRoomPair_29 rfl (by decide +kernel) ?_
          show PW _ _ _ 28 [some (.ref 5), some (.int a1), some (.int a2), some (.int a3), some (.int a4), some (.ref (58 + 2 * pj)), some (.ref (58 + 2 * qj)), none] [.int 1] (E x y)
          refine PW_if_ne c_G_pair_28 (fun _ => ?_) (fun h3 => absurd h3 (by decide))
          refine PW_iload_n c_G_pair_33 rfl ?_
          refine PW_if_lt c_G_pair_34 (fun h4 => absurd h4 (fun q => by have e := hmn.1; rw [Int32.le_iff_toInt_le] at e; rw [Int32.lt_iff_toInt_lt] at q; omega)) (fun h4 => ?_)
          refine PW_iload_n c_G_pair_37 rfl ?_
          refine PW_bipush (v := 99) c_G_pair_38 (by decide) ?_
          refine PW_icmp_gt c_G_pair_40 (fun h5 => absurd h5 (fun q => by have e := hmn.2; rw [Int32.le_iff_toInt_le] at e; rw [Int32.lt_iff_toInt_lt] at q; omega)) (fun h5 => ?_)
          refine PW_iload c_G_pair_43 rfl ?_
          refine PW_if_lt c_G_pair_45 (fun h6 => absurd h6 (fun q => by have e := hb4.1; rw [Int32.le_iff_toInt_le] at e; rw [Int32.lt_iff_toInt_lt] at q; omega)) (fun h6 => ?_)
          refine PW_iload c_G_pair_48 rfl ?_
          refine PW_iconst (v := 1) c_G_pair_50 (by decide) ?_
          refine PW_icmp_le c_G_pair_51 (fun h7 => ?_) (fun h7 => absurd hb4.2 h7)
          refine PW_aload c_G_pair_56 rfl ?_
          refine PW_aload c_G_pair_58 rfl ?_
          refine PW_S0 (d2 := 1) (st := []) [.ref (58 + 2 * pj), .ref (58 + 2 * qj)] c_G_pair_60 lk_G_pair_215 rfl rfl rfl (Nat.le_of_ble_eq_true rfl) (by first | decide | omega) (Nat.le_of_ble_eq_true rfl) ?_
          show PW _ _ _ 0 [some (.ref (58 + 2 * pj)), some (.ref (58 + 2 * qj))] [] (E x y)
          refine PW_aload_n c_G_refusalOfBoth_0 rfl ?_
          refine PW_V0 (d2 := 0) (st := []) [] c_G_refusalOfBoth_1 lk_G_refusalOfBoth_339 (sh_po _ _ hpj) rfl rfl rfl (Nat.le_of_ble_eq_true rfl) (by first | decide | omega) (Nat.le_of_ble_eq_true rfl) ?_
          refine sp_F_isEmpty hpj  ?_
          show PW _ _ _ 4 [some (.ref (58 + 2 * pj)), some (.ref (58 + 2 * qj))] [.int (b2i (x.1 ((58 + 2 * pj) * 8 + 1) = 0))] (E x y)
          refine PW_if_ne c_G_refusalOfBoth_4 (fun h8 => absurd (b2i_n0.mp h8) p3) (fun _ => ?_)
          refine PW_aload_n c_G_refusalOfBoth_7 rfl ?_
          refine PW_V0 (d2 := 0) (st := []) [] c_G_refusalOfBoth_8 lk_G_refusalOfBoth_339 (sh_po _ _ hqj) rfl rfl rfl (Nat.le_of_ble_eq_true rfl) (by first | decide | omega) (Nat.le_of_ble_eq_true rfl) ?_
          refine sp_F_isEmpty hqj  ?_
          show PW _ _ _ 11 [some (.ref (58 + 2 * pj)), some (.ref (58 + 2 * qj))] [.int (b2i (x.1 ((58 + 2 * qj) * 8 + 1) = 0))] (E x y)
          refine PW_if_eq c_G_refusalOfBoth_11 (fun _ => ?_) (fun h9 => absurd (b2i_n0.mp h9) q3)
          refine PW_aload_n c_G_refusalOfBoth_17 rfl ?_
          refine PW_V0 (d2 := 0) (st := []) [] c_G_refusalOfBoth_18 lk_G_refusalOfBoth_376 (sh_po _ _ hpj) rfl rfl rfl (Nat.le_of_ble_eq_true rfl) (by first | decide | omega) (Nat.le_of_ble_eq_true rfl) ?_
          refine sp_F_holdsBytes hpj  ?_
          show PW _ _ _ 21 [some (.ref (58 + 2 * pj)), some (.ref (58 + 2 * qj))] [.int (b2i (x.1 ((58 + 2 * pj) * 8 + 1) = 2 ∧ x.1 ((58 + 2 * pj) * 8 + 3) = 0))] (E x y)
          refine PW_if_eq c_G_refusalOfBoth_21 (fun h10 => absurd p4 (b2i_0.mp h10)) (fun _ => ?_)
          refine PW_aload_n c_G_refusalOfBoth_24 rfl ?_
          refine PW_V0 (d2 := 0) (st := []) [] c_G_refusalOfBoth_25 lk_G_refusalOfBoth_376 (sh_po _ _ hqj) rfl rfl rfl (Nat.le_of_ble_eq_true rfl) (by first | decide | omega) (Nat.le_of_ble_eq_true rfl) ?_
          refine sp_F_holdsBytes hqj  ?_
          show PW _ _ _ 28 [some (.ref (58 + 2 * pj)), some (.ref (58 + 2 * qj))] [.int (b2i (x.1 ((58 + 2 * qj) * 8 + 1) = 2 ∧ x.1 ((58 + 2 * qj) * 8 + 3) = 0))] (E x y)
          refine PW_if_eq c_G_refusalOfBoth_28 (fun h11 => absurd q4 (b2i_0.mp h11)) (fun _ => ?_)
          refine PW_iconst (v := 0) c_G_refusalOfBoth_31 (by decide) ?_
          refine PW_goto c_G_refusalOfBoth_32 ?_
          refine PW_ireturn (ty := .int) c_G_refusalOfBoth_37 rfl rfl ?_
          show PW _ _ _ 63 [some (.ref 5), some (.int a1), some (.int a2), some (.int a3), some (.int a4), some (.ref (58 + 2 * pj)), some (.ref (58 + 2 * qj)), none] [.int 0] (E x y)
          refine PW_istore (i := 7) (L2 := [some (.ref 5), some (.int a1), some (.int a2), some (.int a3), some (.int a4), some (.ref (58 + 2 * pj)), some (.ref (58 + 2 * qj)), some (.int 0)]) c_G_pair_63 (Nat.le_of_ble_eq_true rfl) rfl rfl ?_
          refine PW_iload c_G_pair_65 rfl ?_
          refine PW_if_eq c_G_pair_67 (fun _ => ?_) (fun h12 => absurd (by decide) h12)
          refine PW_aload_n c_G_pair_73 rfl ?_
          refine PW_get (v := .ref 35) c_G_pair_74 fl_G_49 (gf_5_5 _ _) ?_
          refine PW_iload_n c_G_pair_77 rfl ?_
          refine PW_bipush (v := 10) c_G_pair_78 (by decide) ?_
          refine PW_idiv c_G_pair_80 (by decide) ?_
          refine PW_iload_n c_G_pair_81 rfl ?_
          refine PW_bipush (v := 10) c_G_pair_82 (by decide) ?_
          refine PW_irem c_G_pair_84 (by decide) ?_
          refine PW_iload_n c_G_pair_85 rfl ?_
          refine PW_V0 (d2 := 2) (st := []) [.int (a2 / 10), .int (a2 - a2 / 10 * 10), .int a3] c_G_pair_86 lk_G_pair_219 (po_35 _ _) rfl rfl rfl (Nat.le_of_ble_eq_true rfl) (by first | decide | omega) (Nat.le_of_ble_eq_true rfl) ?_
          show PW _ _ _ 0 [some (.ref 35), some (.int (a2 / 10)), some (.int (a2 - a2 / 10 * 10)), some (.int a3)] [] (E x y)
          refine PW_aload_n c_P_begin_0 rfl ?_
          refine PW_get (v := .ref 42) c_P_begin_1 fl_P_28 (gf_35_1 _ _) ?_
          refine PW_iload_n c_P_begin_4 rfl ?_
          refine PW_iload_n c_P_begin_5 rfl ?_
          refine PW_V0 (d2 := 1) (st := []) [.int (a2 / 10), .int a3] c_P_begin_6 lk_P_begin_35 (po_42 _ _) rfl rfl rfl (Nat.le_of_ble_eq_true rfl) (by first | decide | omega) (Nat.le_of_ble_eq_true rfl) ?_
          show PW _ _ _ 0 [some (.ref 42), some (.int (a2 / 10)), some (.int a3)] [] (E x y)
          refine PW_aload_n c_V_begin_0 rfl ?_
          refine PW_iload_n c_V_begin_1 rfl ?_
          refine PW_iload_n c_V_begin_2 rfl ?_
          refine PW_iconst (v := 0) c_V_begin_3 (by decide) ?_
          refine PW_V0 (d2 := 0) (st := []) [.int (a2 / 10), .int a3, .int 0] c_V_begin_4 lk_V_begin_19 (po_42 _ _) rfl rfl rfl (Nat.le_of_ble_eq_true rfl) (by first | decide | omega) (Nat.le_of_ble_eq_true rfl) ?_
          show PW _ _ _ 0 [some (.ref 42), some (.int (a2 / 10)), some (.int a3), some (.int 0)] [] (E x y)
          refine PW_aload_n c_V_stand_0 rfl ?_
          refine PW_iload_n c_V_stand_1 rfl ?_
          refine PW_put (w2 := E (sI x 338 (a2 / 10)) y) c_V_stand_2 fp_V_stand_23 rfl (pf_42_2 _ _ _) ?_
          refine PW_aload_n c_V_stand_5 rfl ?_
          refine PW_iload_n c_V_stand_6 rfl ?_
          refine PW_put (w2 := E (sI (sI x 338 (a2 / 10)) 339 a3) y) c_V_stand_7 fp_V_stand_27 rfl (pf_42_3 _ _ _) ?_
          refine PW_aload_n c_V_stand_10 rfl ?_
          refine PW_iload_n c_V_stand_11 rfl ?_
          refine PW_put (w2 := E (sI (sI (sI x 338 (a2 / 10)) 339 a3) 340 0) y) c_V_stand_12 fp_V_stand_30 rfl (pf_42_4 _ _ _) ?_
          refine PW_vreturn c_V_stand_15 rfl ?_
          show PW _ _ _ 7 [some (.ref 42), some (.int (a2 / 10)), some (.int a3)] [] (E (sI (sI (sI x 338 (a2 / 10)) 339 a3) 340 0) y)
          refine PW_vreturn c_V_begin_7 rfl ?_
          show PW _ _ _ 9 [some (.ref 35), some (.int (a2 / 10)), some (.int (a2 - a2 / 10 * 10)), some (.int a3)] [] (E (sI (sI (sI x 338 (a2 / 10)) 339 a3) 340 0) y)
          refine PW_aload_n c_P_begin_9 rfl ?_
          refine PW_get (v := .ref 43) c_P_begin_10 fl_P_32 (gf_35_2 _ _) ?_
          refine PW_iload_n c_P_begin_13 rfl ?_
          refine PW_iload_n c_P_begin_14 rfl ?_
          refine PW_V0 (d2 := 1) (st := []) [.int (a2 - a2 / 10 * 10), .int a3] c_P_begin_15 lk_P_begin_35 (po_43 _ _) rfl rfl rfl (Nat.le_of_ble_eq_true rfl) (by first | decide | omega) (Nat.le_of_ble_eq_true rfl) ?_
          show PW _ _ _ 0 [some (.ref 43), some (.int (a2 - a2 / 10 * 10)), some (.int a3)] [] (E (sI (sI (sI x 338 (a2 / 10)) 339 a3) 340 0) y)
          refine PW_aload_n c_V_begin_0 rfl ?_
          refine PW_iload_n c_V_begin_1 rfl ?_
          refine PW_iload_n c_V_begin_2 rfl ?_
          refine PW_iconst (v := 0) c_V_begin_3 (by decide) ?_
          refine PW_V0 (d2 := 0) (st := []) [.int (a2 - a2 / 10 * 10), .int a3, .int 0] c_V_begin_4 lk_V_begin_19 (po_43 _ _) rfl rfl rfl (Nat.le_of_ble_eq_true rfl) (by first | decide | omega) (Nat.le_of_ble_eq_true rfl) ?_
          show PW _ _ _ 0 [some (.ref 43), some (.int (a2 - a2 / 10 * 10)), some (.int a3), some (.int 0)] [] (E (sI (sI (sI x 338 (a2 / 10)) 339 a3) 340 0) y)
          refine PW_aload_n c_V_stand_0 rfl ?_
          refine PW_iload_n c_V_stand_1 rfl ?_
          refine PW_put (w2 := E (sI (sI (sI (sI x 338 (a2 / 10)) 339 a3) 340 0) 346 (a2 - a2 / 10 * 10)) y) c_V_stand_2 fp_V_stand_23 rfl (pf_43_2 _ _ _) ?_
          refine PW_aload_n c_V_stand_5 rfl ?_
          refine PW_iload_n c_V_stand_6 rfl ?_
          refine PW_put (w2 := E (sI (sI (sI (sI (sI x 338 (a2 / 10)) 339 a3) 340 0) 346 (a2 - a2 / 10 * 10)) 347 a3) y) c_V_stand_7 fp_V_stand_27 rfl (pf_43_3 _ _ _) ?_
          refine PW_aload_n c_V_stand_10 rfl ?_
          refine PW_iload_n c_V_stand_11 rfl ?_
          refine PW_put (w2 := E (sI (sI (sI (sI (sI (sI x 338 (a2 / 10)) 339 a3) 340 0) 346 (a2 - a2 / 10 * 10)) 347 a3) 348 0) y) c_V_stand_12 fp_V_stand_30 rfl (pf_43_4 _ _ _) ?_
          refine PW_vreturn c_V_stand_15 rfl ?_
          show PW _ _ _ 7 [some (.ref 43), some (.int (a2 - a2 / 10 * 10)), some (.int a3)] [] (E (sI (sI (sI (sI (sI (sI x 338 (a2 / 10)) 339 a3) 340 0) 346 (a2 - a2 / 10 * 10)) 347 a3) 348 0) y)
          refine PW_vreturn c_V_begin_7 rfl ?_
          show PW _ _ _ 18 [some (.ref 35), some (.int (a2 / 10)), some (.int (a2 - a2 / 10 * 10)), some (.int a3)] [] (E (sI (sI (sI (sI (sI (sI x 338 (a2 / 10)) 339 a3) 340 0) 346 (a2 - a2 / 10 * 10)) 347 a3) 348 0) y)
          refine PW_aload_n c_P_begin_18 rfl ?_
          refine PW_iconst (v := 0) c_P_begin_19 (by decide) ?_
          refine PW_put (w2 := E (sI (sI (sI (sI (sI (sI (sI x 338 (a2 / 10)) 339 a3) 340 0) 346 (a2 - a2 / 10 * 10)) 347 a3) 348 0) 285 0) y) c_P_begin_20 fp_P_begin_39 rfl (pf_35_5 _ _ _) ?_
          refine PW_aload_n c_P_begin_23 rfl ?_
          refine PW_iconst (v := 0) c_P_begin_24 (by decide) ?_
          refine PW_put (w2 := E (sI (sI (sI (sI (sI (sI (sI (sI x 338 (a2 / 10)) 339 a3) 340 0) 346 (a2 - a2 / 10 * 10)) 347 a3) 348 0) 285 0) 286 0) y) c_P_begin_25 fp_P_begin_43 rfl (pf_35_6 _ _ _) ?_
          refine PW_vreturn c_P_begin_28 rfl ?_
          show PW _ _ _ 89 [some (.ref 5), some (.int a1), some (.int a2), some (.int a3), some (.int a4), some (.ref (58 + 2 * pj)), some (.ref (58 + 2 * qj)), some (.int 0)] [] (E (sI (sI (sI (sI (sI (sI (sI (sI x 338 (a2 / 10)) 339 a3) 340 0) 346 (a2 - a2 / 10 * 10)) 347 a3) 348 0) 285 0) 286 0) y)
          refine PW_aload_n c_G_pair_89 rfl ?_
          refine PW_get (v := .ref 35) c_G_pair_90 fl_G_49 (gf_5_5 _ _) ?_
          refine PW_aload c_G_pair_93 rfl ?_
          refine PW_aload c_G_pair_95 rfl ?_
          refine PW_V0 (d2 := 6) (st := []) [.ref (58 + 2 * pj), .ref (58 + 2 * qj)] c_G_pair_97 lk_G_pair_221 (po_35 _ _) rfl rfl rfl (Nat.le_of_ble_eq_true rfl) (by first | decide | omega) (Nat.le_of_ble_eq_true rfl) ?_
          refine sp_go hpj hn hqj hm hNd0 hNd1 hX0 p4 p6 hR0' q4 q6 hR1' ?_ (fun {l6 l7 l8 l9} h' => HG h')
          show PW _ _ _ 100 [some (.ref 5), some (.int a1), some (.int a2), some (.int a3), some (.int a4), some (.ref (58 + 2 * pj)), some (.ref (58 + 2 * qj)), some (.int 0)] [] (E XX y)
          refine PW_iload c_G_pair_100 rfl ?_
          refine PW_if_ne c_G_pair_102 (fun h13 => absurd h13 (not_not_intro hw0)) (fun h13 => ?_)
          refine PW_aload_n c_G_pair_105 rfl ?_
          refine PW_get (v := .ref 35) c_G_pair_106 fl_G_49 (gf_5_5 _ _) ?_
          refine PW_V0 (d2 := 4) (st := []) [] c_G_pair_109 lk_G_pair_225 (po_35 _ _) rfl rfl rfl (Nat.le_of_ble_eq_true rfl) (by first | decide | omega) (Nat.le_of_ble_eq_true rfl) ?_
          show PW _ _ _ 0 [some (.ref 35)] [] (E XX y)
          refine PW_aload_n c_P_home_0 rfl ?_
          refine PW_get (v := .ref 42) c_P_home_1 fl_P_28 (gf_35_1 _ _) ?_
          refine PW_V0 (d2 := 3) (st := []) [] c_P_home_4 lk_P_home_77 (po_42 _ _) rfl rfl rfl (Nat.le_of_ble_eq_true rfl) (by first | decide | omega) (Nat.le_of_ble_eq_true rfl) ?_
          refine sp_V_home (o := 42) (Or.inr (Or.inl rfl)) CX sX0 hA5 ?_
          show PW _ _ _ 7 [some (.ref 35)] [.int (M0 + wayN y A0 0)] (E XX y)
          refine PW_aload_n c_P_home_7 rfl ?_
          refine PW_get (v := .ref 43) c_P_home_8 fl_P_32 (gf_35_2 _ _) ?_
          refine PW_V0 (d2 := 3) (st := [.int (M0 + wayN y A0 0)]) [] c_P_home_11 lk_P_home_77 (po_43 _ _) rfl rfl rfl (Nat.le_of_ble_eq_true rfl) (by first | decide | omega) (Nat.le_of_ble_eq_true rfl) ?_
          refine sp_V_home (o := 43) (Or.inr (Or.inr (Or.inl rfl))) CX sX1 hB5 ?_
          show PW _ _ _ 14 [some (.ref 35)] [.int (M1 + wayN y A1 0), .int (M0 + wayN y A0 0)] (E XX y)
          refine PW_mmax c_P_home_14 mk_P_home_80 (by decide) (by first | decide | exact Nat.le_of_ble_eq_true rfl) ?_
          refine PW_ireturn (ty := .int) c_P_home_17 rfl rfl ?_
          show PW _ _ _ 112 [some (.ref 5), some (.int a1), some (.int a2), some (.int a3), some (.int a4), some (.ref (58 + 2 * pj)), some (.ref (58 + 2 * qj)), some (.int 0)] [.int (if (M0 + wayN y A0 0) < (M1 + wayN y A1 0) then (M1 + wayN y A1 0) else (M0 + wayN y A0 0))] (E XX y)
          refine PW_goto c_G_pair_112 ?_
          refine PW_ireturn (ty := .int) c_G_pair_129 rfl rfl ?_
          exact h
        · refine PW.deeper (k := (5, 0, 0, z)) (Nat.le_of_ble_eq_true rfl) (Nat.le_refl _) (Nat.le_refl _) ?_
          refine PW_iload_n c_M_pair_0 rfl ?_
          refine PW_if_lt c_M_pair_1 (fun h0 => absurd h0 hc0) (fun h0 => ?_)
          refine PW_iload_n c_M_pair_4 rfl ?_
          refine PW_bipush (v := 10) c_M_pair_5 (by decide) ?_
          refine PW_idiv c_M_pair_7 (by decide) ?_
          refine PW_S0 (d2 := 1) (st := []) [.int (a1 / 10)] c_M_pair_8 lk_M_pair_143 rfl rfl rfl (Nat.le_of_ble_eq_true rfl) (by first | decide | omega) (Nat.le_of_ble_eq_true rfl) ?_
          refine sp_M_isShelf2  ?_
          show PW _ _ _ 11 [some (.ref 70), some (.int a1), some (.int a2), some (.int a3), some (.int a4), none, none] [.int (b2i (0 ≤ (a1 / 10).toInt ∧ (a1 / 10).toInt < 6))] (E XX y)
          refine PW_if_eq c_M_pair_11 (fun h1 => absurd hc1 (b2i_0.mp h1)) (fun _ => ?_)
          refine PW_iload_n c_M_pair_14 rfl ?_
          refine PW_bipush (v := 10) c_M_pair_15 (by decide) ?_
          refine PW_irem c_M_pair_17 (by decide) ?_
          refine PW_S0 (d2 := 1) (st := []) [.int (a1 - a1 / 10 * 10)] c_M_pair_18 lk_M_pair_143 rfl rfl rfl (Nat.le_of_ble_eq_true rfl) (by first | decide | omega) (Nat.le_of_ble_eq_true rfl) ?_
          refine sp_M_isShelf2  ?_
          show PW _ _ _ 21 [some (.ref 70), some (.int a1), some (.int a2), some (.int a3), some (.int a4), none, none] [.int (b2i (0 ≤ (a1 - a1 / 10 * 10).toInt ∧ (a1 - a1 / 10 * 10).toInt < 6))] (E XX y)
          refine PW_if_eq c_M_pair_21 (fun h2 => absurd hc2 (b2i_0.mp h2)) (fun _ => ?_)
          refine PW_iload_n c_M_pair_24 rfl ?_
          refine PW_if_lt c_M_pair_25 (fun h3 => absurd h3 hr0) (fun h3 => ?_)
          refine PW_iload_n c_M_pair_28 rfl ?_
          refine PW_bipush (v := 10) c_M_pair_29 (by decide) ?_
          refine PW_idiv c_M_pair_31 (by decide) ?_
          refine PW_S0 (d2 := 1) (st := []) [.int (a2 / 10)] c_M_pair_32 lk_M_pair_135 rfl rfl rfl (Nat.le_of_ble_eq_true rfl) (by first | decide | omega) (Nat.le_of_ble_eq_true rfl) ?_
          refine sp_M_isRoom  ?_
          show PW _ _ _ 35 [some (.ref 70), some (.int a1), some (.int a2), some (.int a3), some (.int a4), none, none] [.int (b2i (0 ≤ (a2 / 10) ∧ (a2 / 10) ≤ 4))] (E XX y)
          refine PW_if_eq c_M_pair_35 (fun h4 => absurd hr1 (b2i_0.mp h4)) (fun _ => ?_)
          refine PW_iload_n c_M_pair_38 rfl ?_
          refine PW_bipush (v := 10) c_M_pair_39 (by decide) ?_
          refine PW_irem c_M_pair_41 (by decide) ?_
          refine PW_S0 (d2 := 1) (st := []) [.int (a2 - a2 / 10 * 10)] c_M_pair_42 lk_M_pair_135 rfl rfl rfl (Nat.le_of_ble_eq_true rfl) (by first | decide | omega) (Nat.le_of_ble_eq_true rfl) ?_
          refine sp_M_isRoom  ?_
          show PW _ _ _ 45 [some (.ref 70), some (.int a1), some (.int a2), some (.int a3), some (.int a4), none, none] [.int (b2i (0 ≤ (a2 - a2 / 10 * 10) ∧ (a2 - a2 / 10 * 10) ≤ 4))] (E XX y)
          refine PW_if_eq c_M_pair_45 (fun h5 => absurd hr2 (b2i_0.mp h5)) (fun _ => ?_)
          refine PW_iload_n c_M_pair_48 rfl ?_
          refine PW_iconst (v := 0) c_M_pair_49 (by decide) ?_
          refine PW_bipush (v := 99) c_M_pair_50 (by decide) ?_
          refine PW_S0 (d2 := 0) (st := []) [.int a3, .int 0, .int 99] c_M_pair_52 lk_M_pair_131 rfl rfl rfl (Nat.le_of_ble_eq_true rfl) (by first | decide | omega) (Nat.le_of_ble_eq_true rfl) ?_
          refine sp_M_within  ?_
          show PW _ _ _ 55 [some (.ref 70), some (.int a1), some (.int a2), some (.int a3), some (.int a4), none, none] [.int (b2i ((0 : Int32) ≤ a3 ∧ a3 ≤ (99 : Int32)))] (E XX y)
          refine PW_if_eq c_M_pair_55 (fun h6 => absurd hmn (b2i_0.mp h6)) (fun _ => ?_)
          refine PW_iload c_M_pair_58 rfl ?_
          refine PW_iconst (v := 0) c_M_pair_60 (by decide) ?_
          refine PW_iconst (v := 1) c_M_pair_61 (by decide) ?_
          refine PW_S0 (d2 := 0) (st := []) [.int a4, .int 0, .int 1] c_M_pair_62 lk_M_pair_131 rfl rfl rfl (Nat.le_of_ble_eq_true rfl) (by first | decide | omega) (Nat.le_of_ble_eq_true rfl) ?_
          refine sp_M_within  ?_
          show PW _ _ _ 65 [some (.ref 70), some (.int a1), some (.int a2), some (.int a3), some (.int a4), none, none] [.int (b2i ((0 : Int32) ≤ a4 ∧ a4 ≤ (1 : Int32)))] (E XX y)
          refine PW_if_ne c_M_pair_65 (fun _ => ?_) (fun h7 => absurd hb4 (b2i_0.mp h7))
          refine PW_aload_n c_M_pair_70 rfl ?_
          refine PW_get (v := .ref 104) c_M_pair_71 fl_M_111 (gf_70_53 _ _) ?_
          refine PW_iload_n c_M_pair_74 rfl ?_
          refine PW_bipush (v := 10) c_M_pair_75 (by decide) ?_
          refine PW_idiv c_M_pair_77 (by decide) ?_
          refine PW_iald (j := pj) c_M_pair_78 (ar_104 _ _) (by rw [e1]; exact vp_in_nI hpj (by decide)) (by rw [e1]; exact nI_clamp (by omega)) ?_
          show PW _ _ _ 79 [some (.ref 70), some (.int a1), some (.int a2), some (.int a3), some (.int a4), none, none] [.int ((y.2.1 104) pj)] (E XX y)
          refine PW_iconst (v := -1) c_M_pair_79 (by decide) ?_
          refine PW_icmp_eq c_M_pair_80 (fun h8 => absurd h8 p1) (fun h8 => ?_)
          refine PW_aload_n c_M_pair_83 rfl ?_
          refine PW_get (v := .ref 104) c_M_pair_84 fl_M_111 (gf_70_53 _ _) ?_
          refine PW_iload_n c_M_pair_87 rfl ?_
          refine PW_bipush (v := 10) c_M_pair_88 (by decide) ?_
          refine PW_irem c_M_pair_90 (by decide) ?_
          refine PW_iald (j := qj) c_M_pair_91 (ar_104 _ _) (by rw [e2]; exact vp_in_nI hqj (by decide)) (by rw [e2]; exact nI_clamp (by omega)) ?_
          show PW _ _ _ 92 [some (.ref 70), some (.int a1), some (.int a2), some (.int a3), some (.int a4), none, none] [.int ((y.2.1 104) qj)] (E XX y)
          refine PW_iconst (v := -1) c_M_pair_92 (by decide) ?_
          refine PW_icmp_ne c_M_pair_93 (fun h9 => ?_) (fun h9 => absurd h9 q1)
          refine PW_aload_n c_M_pair_99 rfl ?_
          refine PW_iload_n c_M_pair_100 rfl ?_
          refine PW_bipush (v := 10) c_M_pair_101 (by decide) ?_
          refine PW_idiv c_M_pair_103 (by decide) ?_
          refine PW_V0 (d2 := 0) (st := []) [.int (a1 / 10)] c_M_pair_104 lk_M_pair_286 (po_70 _ _) rfl rfl rfl (Nat.le_of_ble_eq_true rfl) (by first | decide | omega) (Nat.le_of_ble_eq_true rfl) ?_
          show PW _ _ _ 0 [some (.ref 70), some (.int (a1 / 10))] [] (E XX y)
          refine PW_aload_n c_M_rowFault_0 rfl ?_
          refine PW_get (v := .ref 104) c_M_rowFault_1 fl_M_111 (gf_70_53 _ _) ?_
          refine PW_iload_n c_M_rowFault_4 rfl ?_
          refine PW_iald (j := pj) c_M_rowFault_5 (ar_104 _ _) (by rw [e1]; exact vp_in_nI hpj (by decide)) (by rw [e1]; exact nI_clamp (by omega)) ?_
          show PW _ _ _ 6 [some (.ref 70), some (.int (a1 / 10))] [.int ((y.2.1 104) pj)] (E XX y)
          refine PW_iconst (v := -1) c_M_rowFault_6 (by decide) ?_
          refine PW_icmp_ne c_M_rowFault_7 (fun h10 => ?_) (fun h10 => absurd h10 p1)
          refine PW_aload_n c_M_rowFault_15 rfl ?_
          refine PW_get (v := .ref 104) c_M_rowFault_16 fl_M_111 (gf_70_53 _ _) ?_
          refine PW_iload_n c_M_rowFault_19 rfl ?_
          refine PW_iald (j := pj) c_M_rowFault_20 (ar_104 _ _) (by rw [e1]; exact vp_in_nI hpj (by decide)) (by rw [e1]; exact nI_clamp (by omega)) ?_
          show PW _ _ _ 21 [some (.ref 70), some (.int (a1 / 10))] [.int ((y.2.1 104) pj)] (E XX y)
          refine PW_bipush (v := -2) c_M_rowFault_21 (by decide) ?_
          refine PW_icmp_ne c_M_rowFault_23 (fun h11 => absurd h11 (not_not_intro p2)) (fun h11 => ?_)
          refine PW_iconst (v := 0) c_M_rowFault_26 (by decide) ?_
          refine PW_goto c_M_rowFault_27 ?_
          refine PW_ireturn (ty := .int) c_M_rowFault_32 rfl rfl ?_
          show PW _ _ _ 107 [some (.ref 70), some (.int a1), some (.int a2), some (.int a3), some (.int a4), none, none] [.int 0] (E XX y)
          refine PW_if_lt c_M_pair_107 (fun h12 => absurd h12 (by decide)) (fun _ => ?_)
          refine PW_aload_n c_M_pair_110 rfl ?_
          refine PW_iload_n c_M_pair_111 rfl ?_
          refine PW_bipush (v := 10) c_M_pair_112 (by decide) ?_
          refine PW_irem c_M_pair_114 (by decide) ?_
          refine PW_V0 (d2 := 0) (st := []) [.int (a1 - a1 / 10 * 10)] c_M_pair_115 lk_M_pair_286 (po_70 _ _) rfl rfl rfl (Nat.le_of_ble_eq_true rfl) (by first | decide | omega) (Nat.le_of_ble_eq_true rfl) ?_
          show PW _ _ _ 0 [some (.ref 70), some (.int (a1 - a1 / 10 * 10))] [] (E XX y)
          refine PW_aload_n c_M_rowFault_0 rfl ?_
          refine PW_get (v := .ref 104) c_M_rowFault_1 fl_M_111 (gf_70_53 _ _) ?_
          refine PW_iload_n c_M_rowFault_4 rfl ?_
          refine PW_iald (j := qj) c_M_rowFault_5 (ar_104 _ _) (by rw [e2]; exact vp_in_nI hqj (by decide)) (by rw [e2]; exact nI_clamp (by omega)) ?_
          show PW _ _ _ 6 [some (.ref 70), some (.int (a1 - a1 / 10 * 10))] [.int ((y.2.1 104) qj)] (E XX y)
          refine PW_iconst (v := -1) c_M_rowFault_6 (by decide) ?_
          refine PW_icmp_ne c_M_rowFault_7 (fun h13 => ?_) (fun h13 => absurd h13 q1)
          refine PW_aload_n c_M_rowFault_15 rfl ?_
          refine PW_get (v := .ref 104) c_M_rowFault_16 fl_M_111 (gf_70_53 _ _) ?_
          refine PW_iload_n c_M_rowFault_19 rfl ?_
          refine PW_iald (j := qj) c_M_rowFault_20 (ar_104 _ _) (by rw [e2]; exact vp_in_nI hqj (by decide)) (by rw [e2]; exact nI_clamp (by omega)) ?_
          show PW _ _ _ 21 [some (.ref 70), some (.int (a1 - a1 / 10 * 10))] [.int ((y.2.1 104) qj)] (E XX y)
          refine PW_bipush (v := -2) c_M_rowFault_21 (by decide) ?_
          refine PW_icmp_ne c_M_rowFault_23 (fun h14 => absurd h14 (not_not_intro q2)) (fun h14 => ?_)
          refine PW_iconst (v := 0) c_M_rowFault_26 (by decide) ?_
          refine PW_goto c_M_rowFault_27 ?_
          refine PW_ireturn (ty := .int) c_M_rowFault_32 rfl rfl ?_
          show PW _ _ _ 118 [some (.ref 70), some (.int a1), some (.int a2), some (.int a3), some (.int a4), none, none] [.int 0] (E XX y)
          refine PW_if_ge c_M_pair_118 (fun _ => ?_) (fun h15 => absurd (by decide) h15)
          refine PW_iconst (v := 0) c_M_pair_124 (by decide) ?_
          refine PW_istore (i := 5) (L2 := [some (.ref 70), some (.int a1), some (.int a2), some (.int a3), some (.int a4), some (.int 0), none]) c_M_pair_125 (Nat.le_of_ble_eq_true rfl) rfl rfl ?_
          refine PW_iload c_M_pair_127 rfl ?_
          refine PW_iconst (v := 2) c_M_pair_129 (by decide) ?_
          refine PW_icmp_ge c_M_pair_130 (fun h16 => absurd h16 (by decide)) (fun _ => ?_)
          refine PW_aload_n c_M_pair_133 rfl ?_
          refine PW_get (v := .ref 93) c_M_pair_134 fl_M_78 (gf_70_37 _ _) ?_
          refine PW_iload c_M_pair_137 rfl ?_
          refine PW_iload c_M_pair_139 rfl ?_
          refine PW_if_ne c_M_pair_141 (fun h17 => absurd (by decide) h17) (fun _ => ?_)
          refine PW_iload_n c_M_pair_144 rfl ?_
          refine PW_bipush (v := 10) c_M_pair_145 (by decide) ?_
          refine PW_idiv c_M_pair_147 (by decide) ?_
          refine PW_goto c_M_pair_148 ?_
          refine PW_iast (j := 0) (w2 := E XX (sA y 93 (upd (y.2.1 93) 0 (a2 / 10)))) c_M_pair_155 (ar_93 _ _) (vp_in_iff.mpr (by decide)) rfl (aw_93 _ _ _) ?_
          refine PW_aload_n c_M_pair_156 rfl ?_
          refine PW_get (v := .ref 94) c_M_pair_157 fl_M_81 (gf_70_38 _ _) ?_
          refine PW_iload c_M_pair_160 rfl ?_
          refine PW_iload_n c_M_pair_162 rfl ?_
          refine PW_iast (j := 0) (w2 := E XX (sA (sA y 93 (upd (y.2.1 93) 0 (a2 / 10))) 94 (upd (y.2.1 94) 0 a3))) c_M_pair_163 (ar_94 _ _) (vp_in_iff.mpr (by decide)) rfl (aw_94 _ _ _) ?_
          refine PW_aload_n c_M_pair_164 rfl ?_
          refine PW_get (v := .ref 95) c_M_pair_165 fl_M_84 (gf_70_39 _ _) ?_
          refine PW_iload c_M_pair_168 rfl ?_
          refine PW_iconst (v := 0) c_M_pair_170 (by decide) ?_
          refine PW_iast (j := 0) (w2 := E XX (sA (sA (sA y 93 (upd (y.2.1 93) 0 (a2 / 10))) 94 (upd (y.2.1 94) 0 a3)) 95 (upd (y.2.1 95) 0 0))) c_M_pair_171 (ar_95 _ _) (vp_in_iff.mpr (by decide)) rfl (aw_95 _ _ _) ?_
          refine PW_aload_n c_M_pair_172 rfl ?_
          refine PW_get (v := .ref 96) c_M_pair_173 fl_M_87 (gf_70_40 _ _) ?_
          refine PW_iload c_M_pair_176 rfl ?_
          refine PW_iconst (v := 0) c_M_pair_178 (by decide) ?_
          refine PW_iast (j := 0) (w2 := E XX (sA (sA (sA (sA y 93 (upd (y.2.1 93) 0 (a2 / 10))) 94 (upd (y.2.1 94) 0 a3)) 95 (upd (y.2.1 95) 0 0)) 96 (upd (y.2.1 96) 0 0))) c_M_pair_179 (ar_96 _ _) (vp_in_iff.mpr (by decide)) rfl (aw_96 _ _ _) ?_
          refine PW_iinc (i := 5) (v := 1) (L2 := [some (.ref 70), some (.int a1), some (.int a2), some (.int a3), some (.int a4), some (.int 1), none]) c_M_pair_180 rfl (by decide) (Nat.le_of_ble_eq_true rfl) rfl rfl ?_
          refine PW_goto c_M_pair_183 ?_
          refine PW_iload c_M_pair_127 rfl ?_
          refine PW_iconst (v := 2) c_M_pair_129 (by decide) ?_
          refine PW_icmp_ge c_M_pair_130 (fun h18 => absurd h18 (by decide)) (fun _ => ?_)
          refine PW_aload_n c_M_pair_133 rfl ?_
          refine PW_get (v := .ref 93) c_M_pair_134 fl_M_78 (gf_70_37 _ _) ?_
          refine PW_iload c_M_pair_137 rfl ?_
          refine PW_iload c_M_pair_139 rfl ?_
          refine PW_if_ne c_M_pair_141 (fun _ => ?_) (fun h19 => absurd h19 (by decide))
          refine PW_iload_n c_M_pair_151 rfl ?_
          refine PW_bipush (v := 10) c_M_pair_152 (by decide) ?_
          refine PW_irem c_M_pair_154 (by decide) ?_
          refine PW_iast (j := 1) (w2 := E XX (sA (sA (sA (sA (sA y 93 (upd (y.2.1 93) 0 (a2 / 10))) 94 (upd (y.2.1 94) 0 a3)) 95 (upd (y.2.1 95) 0 0)) 96 (upd (y.2.1 96) 0 0)) 93 (upd (upd (y.2.1 93) 0 (a2 / 10)) 1 (a2 - a2 / 10 * 10)))) c_M_pair_155 (ar_93 _ _) (vp_in_iff.mpr (by decide)) rfl (aw_93 _ _ _) ?_
          refine PW_aload_n c_M_pair_156 rfl ?_
          refine PW_get (v := .ref 94) c_M_pair_157 fl_M_81 (gf_70_38 _ _) ?_
          refine PW_iload c_M_pair_160 rfl ?_
          refine PW_iload_n c_M_pair_162 rfl ?_
          refine PW_iast (j := 1) (w2 := E XX (sA (sA (sA (sA (sA (sA y 93 (upd (y.2.1 93) 0 (a2 / 10))) 94 (upd (y.2.1 94) 0 a3)) 95 (upd (y.2.1 95) 0 0)) 96 (upd (y.2.1 96) 0 0)) 93 (upd (upd (y.2.1 93) 0 (a2 / 10)) 1 (a2 - a2 / 10 * 10))) 94 (upd (upd (y.2.1 94) 0 a3) 1 a3))) c_M_pair_163 (ar_94 _ _) (vp_in_iff.mpr (by decide)) rfl (aw_94 _ _ _) ?_
          refine PW_aload_n c_M_pair_164 rfl ?_
          refine PW_get (v := .ref 95) c_M_pair_165 fl_M_84 (gf_70_39 _ _) ?_
          refine PW_iload c_M_pair_168 rfl ?_
          refine PW_iconst (v := 0) c_M_pair_170 (by decide) ?_
          refine PW_iast (j := 1) (w2 := E XX (sA (sA (sA (sA (sA (sA (sA y 93 (upd (y.2.1 93) 0 (a2 / 10))) 94 (upd (y.2.1 94) 0 a3)) 95 (upd (y.2.1 95) 0 0)) 96 (upd (y.2.1 96) 0 0)) 93 (upd (upd (y.2.1 93) 0 (a2 / 10)) 1 (a2 - a2 / 10 * 10))) 94 (upd (upd (y.2.1 94) 0 a3) 1 a3)) 95 (upd (upd (y.2.1 95) 0 0) 1 0))) c_M_pair_171 (ar_95 _ _) (vp_in_iff.mpr (by decide)) rfl (aw_95 _ _ _) ?_
          refine PW_aload_n c_M_pair_172 rfl ?_
          refine PW_get (v := .ref 96) c_M_pair_173 fl_M_87 (gf_70_40 _ _) ?_
          refine PW_iload c_M_pair_176 rfl ?_
          refine PW_iconst (v := 0) c_M_pair_178 (by decide) ?_
          refine PW_iast (j := 1) (w2 := E XX (sA (sA (sA (sA (sA (sA (sA (sA y 93 (upd (y.2.1 93) 0 (a2 / 10))) 94 (upd (y.2.1 94) 0 a3)) 95 (upd (y.2.1 95) 0 0)) 96 (upd (y.2.1 96) 0 0)) 93 (upd (upd (y.2.1 93) 0 (a2 / 10)) 1 (a2 - a2 / 10 * 10))) 94 (upd (upd (y.2.1 94) 0 a3) 1 a3)) 95 (upd (upd (y.2.1 95) 0 0) 1 0)) 96 (upd (upd (y.2.1 96) 0 0) 1 0))) c_M_pair_179 (ar_96 _ _) (vp_in_iff.mpr (by decide)) rfl (aw_96 _ _ _) ?_
          refine PW_iinc (i := 5) (v := 2) (L2 := [some (.ref 70), some (.int a1), some (.int a2), some (.int a3), some (.int a4), some (.int 2), none]) c_M_pair_180 rfl (by decide) (Nat.le_of_ble_eq_true rfl) rfl rfl ?_
          refine PW_goto c_M_pair_183 ?_
          refine PW_iload c_M_pair_127 rfl ?_
          refine PW_iconst (v := 2) c_M_pair_129 (by decide) ?_
          refine PW_icmp_ge c_M_pair_130 (fun _ => ?_) (fun h20 => absurd (by decide) h20)
          refine PW.eqL ?_ rfl rfl (HM (x9 := XX) (l5 := some (.int 2)) (l6 := none) ?_)
          · rfl
          · show PW _ _ _ 255 [some (.ref 70), some (.int a1), some (.int a2), some (.int a3), some (.int a4), some (.int 2), none] [] (E XX YY)
            refine PW_aload_n c_M_pair_255 rfl ?_
            refine PW_get (v := .ref 94) c_M_pair_256 fl_M_81 (gf_70_38 _ _) ?_
            refine PW_iconst (v := 0) c_M_pair_259 (by decide) ?_
            refine PW_iald (j := 0) c_M_pair_260 (ar_94 _ _) (vp_in_iff.mpr (by decide)) rfl ?_
            show PW _ _ _ 261 [some (.ref 70), some (.int a1), some (.int a2), some (.int a3), some (.int a4), some (.int 2), none] [.int ((YY.2.1 94) 0)] (E XX YY)
            rw [hy0.2.1]
            show PW _ _ _ 261 [some (.ref 70), some (.int a1), some (.int a2), some (.int a3), some (.int a4), some (.int 2), none] [.int M0] (E XX YY)
            refine PW_aload_n c_M_pair_261 rfl ?_
            refine PW_aload_n c_M_pair_262 rfl ?_
            refine PW_get (v := .ref 93) c_M_pair_263 fl_M_78 (gf_70_37 _ _) ?_
            refine PW_iconst (v := 0) c_M_pair_266 (by decide) ?_
            refine PW_iald (j := 0) c_M_pair_267 (ar_93 _ _) (vp_in_iff.mpr (by decide)) rfl ?_
            show PW _ _ _ 268 [some (.ref 70), some (.int a1), some (.int a2), some (.int a3), some (.int a4), some (.int 2), none] [.int ((YY.2.1 93) 0), .ref 70, .int M0] (E XX YY)
            rw [hy0.1]
            show PW _ _ _ 268 [some (.ref 70), some (.int a1), some (.int a2), some (.int a3), some (.int a4), some (.int 2), none] [.int (nI A0), .ref 70, .int M0] (E XX YY)
            refine PW_iconst (v := 0) c_M_pair_268 (by decide) ?_
            refine PW_V0 (d2 := 0) (st := [.int M0]) [.int (nI A0), .int 0] c_M_pair_269 lk_M_pair_274 (po_70 _ _) rfl rfl rfl (Nat.le_of_ble_eq_true rfl) (by first | decide | omega) (Nat.le_of_ble_eq_true rfl) ?_
            refine sp_M_wayOf (b := 0) rfl rfl hA5 (by decide) ?_
            rw [g5]
            show PW _ _ _ 272 [some (.ref 70), some (.int a1), some (.int a2), some (.int a3), some (.int a4), some (.int 2), none] [.int (wayN y A0 0), .int M0] (E XX YY)
            refine PW_iadd c_M_pair_272 ?_
            refine PW_istore (i := 5) (L2 := [some (.ref 70), some (.int a1), some (.int a2), some (.int a3), some (.int a4), some (.int (M0 + (wayN y A0 0))), none]) c_M_pair_273 (Nat.le_of_ble_eq_true rfl) rfl rfl ?_
            refine PW_aload_n c_M_pair_275 rfl ?_
            refine PW_get (v := .ref 94) c_M_pair_276 fl_M_81 (gf_70_38 _ _) ?_
            refine PW_iconst (v := 1) c_M_pair_279 (by decide) ?_
            refine PW_iald (j := 1) c_M_pair_280 (ar_94 _ _) (vp_in_iff.mpr (by decide)) rfl ?_
            show PW _ _ _ 281 [some (.ref 70), some (.int a1), some (.int a2), some (.int a3), some (.int a4), some (.int (M0 + (wayN y A0 0))), none] [.int ((YY.2.1 94) 1)] (E XX YY)
            rw [hy1.2.1]
            show PW _ _ _ 281 [some (.ref 70), some (.int a1), some (.int a2), some (.int a3), some (.int a4), some (.int (M0 + (wayN y A0 0))), none] [.int M1] (E XX YY)
            refine PW_aload_n c_M_pair_281 rfl ?_
            refine PW_aload_n c_M_pair_282 rfl ?_
            refine PW_get (v := .ref 93) c_M_pair_283 fl_M_78 (gf_70_37 _ _) ?_
            refine PW_iconst (v := 1) c_M_pair_286 (by decide) ?_
            refine PW_iald (j := 1) c_M_pair_287 (ar_93 _ _) (vp_in_iff.mpr (by decide)) rfl ?_
            show PW _ _ _ 288 [some (.ref 70), some (.int a1), some (.int a2), some (.int a3), some (.int a4), some (.int (M0 + (wayN y A0 0))), none] [.int ((YY.2.1 93) 1), .ref 70, .int M1] (E XX YY)
            rw [hy1.1]
            show PW _ _ _ 288 [some (.ref 70), some (.int a1), some (.int a2), some (.int a3), some (.int a4), some (.int (M0 + (wayN y A0 0))), none] [.int (nI A1), .ref 70, .int M1] (E XX YY)
            refine PW_iconst (v := 0) c_M_pair_288 (by decide) ?_
            refine PW_V0 (d2 := 0) (st := [.int M1]) [.int (nI A1), .int 0] c_M_pair_289 lk_M_pair_274 (po_70 _ _) rfl rfl rfl (Nat.le_of_ble_eq_true rfl) (by first | decide | omega) (Nat.le_of_ble_eq_true rfl) ?_
            refine sp_M_wayOf (b := 0) rfl rfl hB5 (by decide) ?_
            rw [g5]
            show PW _ _ _ 292 [some (.ref 70), some (.int a1), some (.int a2), some (.int a3), some (.int a4), some (.int (M0 + (wayN y A0 0))), none] [.int (wayN y A1 0), .int M1] (E XX YY)
            refine PW_iadd c_M_pair_292 ?_
            refine PW_istore (i := 6) (L2 := [some (.ref 70), some (.int a1), some (.int a2), some (.int a3), some (.int a4), some (.int (M0 + (wayN y A0 0))), some (.int (M1 + (wayN y A1 0)))]) c_M_pair_293 (Nat.le_of_ble_eq_true rfl) rfl rfl ?_
            refine PW_iload c_M_pair_295 rfl ?_
            refine PW_if_ne c_M_pair_297 (fun h0 => absurd h0 (not_not_intro hw0)) (fun h0 => ?_)
            refine PW_iload c_M_pair_300 rfl ?_
            refine PW_iload c_M_pair_302 rfl ?_
            refine PW_icmp_le c_M_pair_304 (fun h1 => ?_) (fun h1 => ?_)
            · refine PW_iload c_M_pair_312 rfl ?_
              refine PW_ireturn (ty := .int) c_M_pair_314 rfl rfl ?_
              rw [show M1 + wayN y A1 0 = if M0 + wayN y A0 0 < M1 + wayN y A1 0 then M1 + wayN y A1 0 else M0 + wayN y A0 0 from (mx_le h1).symm]
              exact h
            · refine PW_iload c_M_pair_307 rfl ?_
              refine PW_goto c_M_pair_309 ?_
              refine PW_ireturn (ty := .int) c_M_pair_314 rfl rfl ?_
              rw [show M0 + wayN y A0 0 = if M0 + wayN y A0 0 < M1 + wayN y A1 0 then M1 + wayN y A1 0 else M0 + wayN y A0 0 from (if_neg (fun q => h1 (Int32.le_of_lt q))).symm]
              exact h
      have hw1 : a4 = 1 := by simp only [Int32.le_iff_toInt_le, ← Int32.toInt_inj, tiA] at hb4 hw0 ⊢; omega
      refine ⟨mustB y &&& ((orW W0 K0 ||| orW W1 K1) ^^^ -1), XX, YY, ?_, fun {z post} h => ?_, fun {z post} h => ?_⟩
      · exact INV_step (INV_S hI hXX hYY)
      · refine PW.deeper (k := (7, 0, 0, z)) (Nat.le_of_ble_eq_true rfl) (Nat.le_refl _) (Nat.le_refl _) ?_
        refine PW_aload_n c_G_pair_0 rfl ?_
        refine PW_iload_n c_G_pair_1 rfl ?_
        refine PW_V0 (d2 := 1) (st := []) [.int a1] c_G_pair_2 lk_G_pair_209 (po_5 _ _) rfl rfl rfl (Nat.le_of_ble_eq_true rfl) (by first | decide | omega) (Nat.le_of_ble_eq_true rfl) ?_
        refine sp_G_firstShelf hc0 hpj e1 ?_
        show PW _ _ _ 5 [some (.ref 5), some (.int a1), some (.int a2), some (.int a3), some (.int a4), none, none, none] [.ref (58 + 2 * pj)] (E x y)
        refine PW_astore (i := 5) (L2 := [some (.ref 5), some (.int a1), some (.int a2), some (.int a3), some (.int a4), some (.ref (58 + 2 * pj)), none, none]) c_G_pair_5 (Nat.le_of_ble_eq_true rfl) rfl rfl ?_
        refine PW_aload_n c_G_pair_7 rfl ?_
        refine PW_iload_n c_G_pair_8 rfl ?_
        refine PW_V0 (d2 := 1) (st := []) [.int a1] c_G_pair_9 lk_G_pair_212 (po_5 _ _) rfl rfl rfl (Nat.le_of_ble_eq_true rfl) (by first | decide | omega) (Nat.le_of_ble_eq_true rfl) ?_
        refine sp_G_secondShelf hc0 hqj e2 ?_
        show PW _ _ _ 12 [some (.ref 5), some (.int a1), some (.int a2), some (.int a3), some (.int a4), some (.ref (58 + 2 * pj)), none, none] [.ref (58 + 2 * qj)] (E x y)
        refine PW_astore (i := 6) (L2 := [some (.ref 5), some (.int a1), some (.int a2), some (.int a3), some (.int a4), some (.ref (58 + 2 * pj)), some (.ref (58 + 2 * qj)), none]) c_G_pair_12 (Nat.le_of_ble_eq_true rfl) rfl rfl ?_
        refine PW_aload c_G_pair_14 rfl ?_
        refine PW_ifnull c_G_pair_16 ?_
        refine PW_aload c_G_pair_19 rfl ?_
        refine PW_ifnull c_G_pair_21 ?_
        refine PW_iload_n c_G_pair_24 rfl ?_
        refine PW_S0 (d2 := 1) (st := []) [.int a2] c_G_pair_25 lk_G_pair_90 rfl rfl rfl (Nat.le_of_ble_eq_true rfl) (by first | decide | omega) (Nat.le_of_ble_eq_true rfl) ?_
        show PW _ _ _ 0 [some (.int a2)] [] (E x y)
        refine PW_iload_n c_G_isRoomPair_0 rfl ?_
        refine PW_if_lt c_G_isRoomPair_1 (fun h0 => absurd h0 hr0) (fun h0 => ?_)
        refine PW_iload_n c_G_isRoomPair_4 rfl ?_
        refine PW_bipush (v := 10) c_G_isRoomPair_5 (by decide) ?_
        refine PW_idiv c_G_isRoomPair_7 (by decide) ?_
        refine PW_S0 (d2 := 0) (st := []) [.int (a2 / 10)] c_G_isRoomPair_8 lk_G_isRoomPair_121 rfl rfl rfl (Nat.le_of_ble_eq_true rfl) (by first | decide | omega) (Nat.le_of_ble_eq_true rfl) ?_
        refine sp_H_isRoom  ?_
        show PW _ _ _ 11 [some (.int a2)] [.int (b2i (0 ≤ (a2 / 10) ∧ (a2 / 10) ≤ 4))] (E x y)
        refine PW_if_eq c_G_isRoomPair_11 (fun h1 => absurd hr1 (b2i_0.mp h1)) (fun _ => ?_)
        refine PW_iload_n c_G_isRoomPair_14 rfl ?_
        refine PW_bipush (v := 10) c_G_isRoomPair_15 (by decide) ?_
        refine PW_irem c_G_isRoomPair_17 (by decide) ?_
        refine PW_S0 (d2 := 0) (st := []) [.int (a2 - a2 / 10 * 10)] c_G_isRoomPair_18 lk_G_isRoomPair_121 rfl rfl rfl (Nat.le_of_ble_eq_true rfl) (by first | decide | omega) (Nat.le_of_ble_eq_true rfl) ?_
        refine sp_H_isRoom  ?_
        show PW _ _ _ 21 [some (.int a2)] [.int (b2i (0 ≤ (a2 - a2 / 10 * 10) ∧ (a2 - a2 / 10 * 10) ≤ 4))] (E x y)
        refine PW_if_eq c_G_isRoomPair_21 (fun h2 => absurd hr2 (b2i_0.mp h2)) (fun _ => ?_)
        refine PW_iconst (v := 1) c_G_isRoomPair_24 (by decide) ?_
        refine PW_goto c_G_isRoomPair_25 ?_
        refine PW_ireturn (ty := .boolean) c_G_isRoomPair_29 rfl (by decide +kernel) ?_
        show PW _ _ _ 28 [some (.ref 5), some (.int a1), some (.int a2), some (.int a3), some (.int a4), some (.ref (58 + 2 * pj)), some (.ref (58 + 2 * qj)), none] [.int 1] (E x y)
        refine PW_if_ne c_G_pair_28 (fun _ => ?_) (fun h3 => absurd h3 (by decide))
        refine PW_iload_n c_G_pair_33 rfl ?_
        refine PW_if_lt c_G_pair_34 (fun h4 => absurd h4 (fun q => by have e := hmn.1; rw [Int32.le_iff_toInt_le] at e; rw [Int32.lt_iff_toInt_lt] at q; omega)) (fun h4 => ?_)
        refine PW_iload_n c_G_pair_37 rfl ?_
        refine PW_bipush (v := 99) c_G_pair_38 (by decide) ?_
        refine PW_icmp_gt c_G_pair_40 (fun h5 => absurd h5 (fun q => by have e := hmn.2; rw [Int32.le_iff_toInt_le] at e; rw [Int32.lt_iff_toInt_lt] at q; omega)) (fun h5 => ?_)
        refine PW_iload c_G_pair_43 rfl ?_
        refine PW_if_lt c_G_pair_45 (fun h6 => absurd h6 (fun q => by have e := hb4.1; rw [Int32.le_iff_toInt_le] at e; rw [Int32.lt_iff_toInt_lt] at q; omega)) (fun h6 => ?_)
        refine PW_iload c_G_pair_48 rfl ?_
        refine PW_iconst (v := 1) c_G_pair_50 (by decide) ?_
        refine PW_icmp_le c_G_pair_51 (fun h7 => ?_) (fun h7 => absurd hb4.2 h7)
        refine PW_aload c_G_pair_56 rfl ?_
        refine PW_aload c_G_pair_58 rfl ?_
        refine PW_S0 (d2 := 1) (st := []) [.ref (58 + 2 * pj), .ref (58 + 2 * qj)] c_G_pair_60 lk_G_pair_215 rfl rfl rfl (Nat.le_of_ble_eq_true rfl) (by first | decide | omega) (Nat.le_of_ble_eq_true rfl) ?_
        show PW _ _ _ 0 [some (.ref (58 + 2 * pj)), some (.ref (58 + 2 * qj))] [] (E x y)
        refine PW_aload_n c_G_refusalOfBoth_0 rfl ?_
        refine PW_V0 (d2 := 0) (st := []) [] c_G_refusalOfBoth_1 lk_G_refusalOfBoth_339 (sh_po _ _ hpj) rfl rfl rfl (Nat.le_of_ble_eq_true rfl) (by first | decide | omega) (Nat.le_of_ble_eq_true rfl) ?_
        refine sp_F_isEmpty hpj  ?_
        show PW _ _ _ 4 [some (.ref (58 + 2 * pj)), some (.ref (58 + 2 * qj))] [.int (b2i (x.1 ((58 + 2 * pj) * 8 + 1) = 0))] (E x y)
        refine PW_if_ne c_G_refusalOfBoth_4 (fun h8 => absurd (b2i_n0.mp h8) p3) (fun _ => ?_)
        refine PW_aload_n c_G_refusalOfBoth_7 rfl ?_
        refine PW_V0 (d2 := 0) (st := []) [] c_G_refusalOfBoth_8 lk_G_refusalOfBoth_339 (sh_po _ _ hqj) rfl rfl rfl (Nat.le_of_ble_eq_true rfl) (by first | decide | omega) (Nat.le_of_ble_eq_true rfl) ?_
        refine sp_F_isEmpty hqj  ?_
        show PW _ _ _ 11 [some (.ref (58 + 2 * pj)), some (.ref (58 + 2 * qj))] [.int (b2i (x.1 ((58 + 2 * qj) * 8 + 1) = 0))] (E x y)
        refine PW_if_eq c_G_refusalOfBoth_11 (fun _ => ?_) (fun h9 => absurd (b2i_n0.mp h9) q3)
        refine PW_aload_n c_G_refusalOfBoth_17 rfl ?_
        refine PW_V0 (d2 := 0) (st := []) [] c_G_refusalOfBoth_18 lk_G_refusalOfBoth_376 (sh_po _ _ hpj) rfl rfl rfl (Nat.le_of_ble_eq_true rfl) (by first | decide | omega) (Nat.le_of_ble_eq_true rfl) ?_
        refine sp_F_holdsBytes hpj  ?_
        show PW _ _ _ 21 [some (.ref (58 + 2 * pj)), some (.ref (58 + 2 * qj))] [.int (b2i (x.1 ((58 + 2 * pj) * 8 + 1) = 2 ∧ x.1 ((58 + 2 * pj) * 8 + 3) = 0))] (E x y)
        refine PW_if_eq c_G_refusalOfBoth_21 (fun h10 => absurd p4 (b2i_0.mp h10)) (fun _ => ?_)
        refine PW_aload_n c_G_refusalOfBoth_24 rfl ?_
        refine PW_V0 (d2 := 0) (st := []) [] c_G_refusalOfBoth_25 lk_G_refusalOfBoth_376 (sh_po _ _ hqj) rfl rfl rfl (Nat.le_of_ble_eq_true rfl) (by first | decide | omega) (Nat.le_of_ble_eq_true rfl) ?_
        refine sp_F_holdsBytes hqj  ?_
        show PW _ _ _ 28 [some (.ref (58 + 2 * pj)), some (.ref (58 + 2 * qj))] [.int (b2i (x.1 ((58 + 2 * qj) * 8 + 1) = 2 ∧ x.1 ((58 + 2 * qj) * 8 + 3) = 0))] (E x y)
        refine PW_if_eq c_G_refusalOfBoth_28 (fun h11 => absurd q4 (b2i_0.mp h11)) (fun _ => ?_)
        refine PW_iconst (v := 0) c_G_refusalOfBoth_31 (by decide) ?_
        refine PW_goto c_G_refusalOfBoth_32 ?_
        refine PW_ireturn (ty := .int) c_G_refusalOfBoth_37 rfl rfl ?_
        show PW _ _ _ 63 [some (.ref 5), some (.int a1), some (.int a2), some (.int a3), some (.int a4), some (.ref (58 + 2 * pj)), some (.ref (58 + 2 * qj)), none] [.int 0] (E x y)
        refine PW_istore (i := 7) (L2 := [some (.ref 5), some (.int a1), some (.int a2), some (.int a3), some (.int a4), some (.ref (58 + 2 * pj)), some (.ref (58 + 2 * qj)), some (.int 0)]) c_G_pair_63 (Nat.le_of_ble_eq_true rfl) rfl rfl ?_
        refine PW_iload c_G_pair_65 rfl ?_
        refine PW_if_eq c_G_pair_67 (fun _ => ?_) (fun h12 => absurd (by decide) h12)
        refine PW_aload_n c_G_pair_73 rfl ?_
        refine PW_get (v := .ref 35) c_G_pair_74 fl_G_49 (gf_5_5 _ _) ?_
        refine PW_iload_n c_G_pair_77 rfl ?_
        refine PW_bipush (v := 10) c_G_pair_78 (by decide) ?_
        refine PW_idiv c_G_pair_80 (by decide) ?_
        refine PW_iload_n c_G_pair_81 rfl ?_
        refine PW_bipush (v := 10) c_G_pair_82 (by decide) ?_
        refine PW_irem c_G_pair_84 (by decide) ?_
        refine PW_iload_n c_G_pair_85 rfl ?_
        refine PW_V0 (d2 := 2) (st := []) [.int (a2 / 10), .int (a2 - a2 / 10 * 10), .int a3] c_G_pair_86 lk_G_pair_219 (po_35 _ _) rfl rfl rfl (Nat.le_of_ble_eq_true rfl) (by first | decide | omega) (Nat.le_of_ble_eq_true rfl) ?_
        show PW _ _ _ 0 [some (.ref 35), some (.int (a2 / 10)), some (.int (a2 - a2 / 10 * 10)), some (.int a3)] [] (E x y)
        refine PW_aload_n c_P_begin_0 rfl ?_
        refine PW_get (v := .ref 42) c_P_begin_1 fl_P_28 (gf_35_1 _ _) ?_
        refine PW_iload_n c_P_begin_4 rfl ?_
        refine PW_iload_n c_P_begin_5 rfl ?_
        refine PW_V0 (d2 := 1) (st := []) [.int (a2 / 10), .int a3] c_P_begin_6 lk_P_begin_35 (po_42 _ _) rfl rfl rfl (Nat.le_of_ble_eq_true rfl) (by first | decide | omega) (Nat.le_of_ble_eq_true rfl) ?_
        show PW _ _ _ 0 [some (.ref 42), some (.int (a2 / 10)), some (.int a3)] [] (E x y)
        refine PW_aload_n c_V_begin_0 rfl ?_
        refine PW_iload_n c_V_begin_1 rfl ?_
        refine PW_iload_n c_V_begin_2 rfl ?_
        refine PW_iconst (v := 0) c_V_begin_3 (by decide) ?_
        refine PW_V0 (d2 := 0) (st := []) [.int (a2 / 10), .int a3, .int 0] c_V_begin_4 lk_V_begin_19 (po_42 _ _) rfl rfl rfl (Nat.le_of_ble_eq_true rfl) (by first | decide | omega) (Nat.le_of_ble_eq_true rfl) ?_
        show PW _ _ _ 0 [some (.ref 42), some (.int (a2 / 10)), some (.int a3), some (.int 0)] [] (E x y)
        refine PW_aload_n c_V_stand_0 rfl ?_
        refine PW_iload_n c_V_stand_1 rfl ?_
        refine PW_put (w2 := E (sI x 338 (a2 / 10)) y) c_V_stand_2 fp_V_stand_23 rfl (pf_42_2 _ _ _) ?_
        refine PW_aload_n c_V_stand_5 rfl ?_
        refine PW_iload_n c_V_stand_6 rfl ?_
        refine PW_put (w2 := E (sI (sI x 338 (a2 / 10)) 339 a3) y) c_V_stand_7 fp_V_stand_27 rfl (pf_42_3 _ _ _) ?_
        refine PW_aload_n c_V_stand_10 rfl ?_
        refine PW_iload_n c_V_stand_11 rfl ?_
        refine PW_put (w2 := E (sI (sI (sI x 338 (a2 / 10)) 339 a3) 340 0) y) c_V_stand_12 fp_V_stand_30 rfl (pf_42_4 _ _ _) ?_
        refine PW_vreturn c_V_stand_15 rfl ?_
        show PW _ _ _ 7 [some (.ref 42), some (.int (a2 / 10)), some (.int a3)] [] (E (sI (sI (sI x 338 (a2 / 10)) 339 a3) 340 0) y)
        refine PW_vreturn c_V_begin_7 rfl ?_
        show PW _ _ _ 9 [some (.ref 35), some (.int (a2 / 10)), some (.int (a2 - a2 / 10 * 10)), some (.int a3)] [] (E (sI (sI (sI x 338 (a2 / 10)) 339 a3) 340 0) y)
        refine PW_aload_n c_P_begin_9 rfl ?_
        refine PW_get (v := .ref 43) c_P_begin_10 fl_P_32 (gf_35_2 _ _) ?_
        refine PW_iload_n c_P_begin_13 rfl ?_
        refine PW_iload_n c_P_begin_14 rfl ?_
        refine PW_V0 (d2 := 1) (st := []) [.int (a2 - a2 / 10 * 10), .int a3] c_P_begin_15 lk_P_begin_35 (po_43 _ _) rfl rfl rfl (Nat.le_of_ble_eq_true rfl) (by first | decide | omega) (Nat.le_of_ble_eq_true rfl) ?_
        show PW _ _ _ 0 [some (.ref 43), some (.int (a2 - a2 / 10 * 10)), some (.int a3)] [] (E (sI (sI (sI x 338 (a2 / 10)) 339 a3) 340 0) y)
        refine PW_aload_n c_V_begin_0 rfl ?_
        refine PW_iload_n c_V_begin_1 rfl ?_
        refine PW_iload_n c_V_begin_2 rfl ?_
        refine PW_iconst (v := 0) c_V_begin_3 (by decide) ?_
        refine PW_V0 (d2 := 0) (st := []) [.int (a2 - a2 / 10 * 10), .int a3, .int 0] c_V_begin_4 lk_V_begin_19 (po_43 _ _) rfl rfl rfl (Nat.le_of_ble_eq_true rfl) (by first | decide | omega) (Nat.le_of_ble_eq_true rfl) ?_
        show PW _ _ _ 0 [some (.ref 43), some (.int (a2 - a2 / 10 * 10)), some (.int a3), some (.int 0)] [] (E (sI (sI (sI x 338 (a2 / 10)) 339 a3) 340 0) y)
        refine PW_aload_n c_V_stand_0 rfl ?_
        refine PW_iload_n c_V_stand_1 rfl ?_
        refine PW_put (w2 := E (sI (sI (sI (sI x 338 (a2 / 10)) 339 a3) 340 0) 346 (a2 - a2 / 10 * 10)) y) c_V_stand_2 fp_V_stand_23 rfl (pf_43_2 _ _ _) ?_
        refine PW_aload_n c_V_stand_5 rfl ?_
        refine PW_iload_n c_V_stand_6 rfl ?_
        refine PW_put (w2 := E (sI (sI (sI (sI (sI x 338 (a2 / 10)) 339 a3) 340 0) 346 (a2 - a2 / 10 * 10)) 347 a3) y) c_V_stand_7 fp_V_stand_27 rfl (pf_43_3 _ _ _) ?_
        refine PW_aload_n c_V_stand_10 rfl ?_
        refine PW_iload_n c_V_stand_11 rfl ?_
        refine PW_put (w2 := E (sI (sI (sI (sI (sI (sI x 338 (a2 / 10)) 339 a3) 340 0) 346 (a2 - a2 / 10 * 10)) 347 a3) 348 0) y) c_V_stand_12 fp_V_stand_30 rfl (pf_43_4 _ _ _) ?_
        refine PW_vreturn c_V_stand_15 rfl ?_
        show PW _ _ _ 7 [some (.ref 43), some (.int (a2 - a2 / 10 * 10)), some (.int a3)] [] (E (sI (sI (sI (sI (sI (sI x 338 (a2 / 10)) 339 a3) 340 0) 346 (a2 - a2 / 10 * 10)) 347 a3) 348 0) y)
        refine PW_vreturn c_V_begin_7 rfl ?_
        show PW _ _ _ 18 [some (.ref 35), some (.int (a2 / 10)), some (.int (a2 - a2 / 10 * 10)), some (.int a3)] [] (E (sI (sI (sI (sI (sI (sI x 338 (a2 / 10)) 339 a3) 340 0) 346 (a2 - a2 / 10 * 10)) 347 a3) 348 0) y)
        refine PW_aload_n c_P_begin_18 rfl ?_
        refine PW_iconst (v := 0) c_P_begin_19 (by decide) ?_
        refine PW_put (w2 := E (sI (sI (sI (sI (sI (sI (sI x 338 (a2 / 10)) 339 a3) 340 0) 346 (a2 - a2 / 10 * 10)) 347 a3) 348 0) 285 0) y) c_P_begin_20 fp_P_begin_39 rfl (pf_35_5 _ _ _) ?_
        refine PW_aload_n c_P_begin_23 rfl ?_
        refine PW_iconst (v := 0) c_P_begin_24 (by decide) ?_
        refine PW_put (w2 := E (sI (sI (sI (sI (sI (sI (sI (sI x 338 (a2 / 10)) 339 a3) 340 0) 346 (a2 - a2 / 10 * 10)) 347 a3) 348 0) 285 0) 286 0) y) c_P_begin_25 fp_P_begin_43 rfl (pf_35_6 _ _ _) ?_
        refine PW_vreturn c_P_begin_28 rfl ?_
        show PW _ _ _ 89 [some (.ref 5), some (.int a1), some (.int a2), some (.int a3), some (.int a4), some (.ref (58 + 2 * pj)), some (.ref (58 + 2 * qj)), some (.int 0)] [] (E (sI (sI (sI (sI (sI (sI (sI (sI x 338 (a2 / 10)) 339 a3) 340 0) 346 (a2 - a2 / 10 * 10)) 347 a3) 348 0) 285 0) 286 0) y)
        refine PW_aload_n c_G_pair_89 rfl ?_
        refine PW_get (v := .ref 35) c_G_pair_90 fl_G_49 (gf_5_5 _ _) ?_
        refine PW_aload c_G_pair_93 rfl ?_
        refine PW_aload c_G_pair_95 rfl ?_
        refine PW_V0 (d2 := 6) (st := []) [.ref (58 + 2 * pj), .ref (58 + 2 * qj)] c_G_pair_97 lk_G_pair_221 (po_35 _ _) rfl rfl rfl (Nat.le_of_ble_eq_true rfl) (by first | decide | omega) (Nat.le_of_ble_eq_true rfl) ?_
        refine sp_go hpj hn hqj hm hNd0 hNd1 hX0 p4 p6 hR0' q4 q6 hR1' ?_ (fun {l6 l7 l8 l9} h' => HG h')
        show PW _ _ _ 100 [some (.ref 5), some (.int a1), some (.int a2), some (.int a3), some (.int a4), some (.ref (58 + 2 * pj)), some (.ref (58 + 2 * qj)), some (.int 0)] [] (E XX y)
        refine PW_iload c_G_pair_100 rfl ?_
        refine PW_if_ne c_G_pair_102 (fun h13 => ?_) (fun h13 => absurd h13 hw0)
        refine PW_aload_n c_G_pair_115 rfl ?_
        refine PW_get (v := .ref 6) c_G_pair_116 fl_G_13 (gf_5_0 _ _) ?_
        refine PW_aload_n c_G_pair_119 rfl ?_
        refine PW_get (v := .ref 35) c_G_pair_120 fl_G_49 (gf_5_5 _ _) ?_
        refine PW_V0 (d2 := 1) (st := [.ref 6]) [] c_G_pair_123 lk_G_pair_226 (po_35 _ _) rfl rfl rfl (Nat.le_of_ble_eq_true rfl) (by first | decide | omega) (Nat.le_of_ble_eq_true rfl) ?_
        show PW _ _ _ 0 [some (.ref 35)] [] (E XX y)
        refine PW_aload_n c_P_toldByBoth_0 rfl ?_
        refine PW_get (v := .ref 42) c_P_toldByBoth_1 fl_P_28 (gf_35_1 _ _) ?_
        refine PW_V0 (d2 := 0) (st := []) [] c_P_toldByBoth_4 lk_P_toldByBoth_86 (po_42 _ _) rfl rfl rfl (Nat.le_of_ble_eq_true rfl) (by first | decide | omega) (Nat.le_of_ble_eq_true rfl) ?_
        show PW _ _ _ 0 [some (.ref 42)] [] (E XX y)
        refine PW_aload_n c_V_told_0 rfl ?_
        refine PW_get (v := .int (XX.1 340)) c_V_told_1 fl_V_30 (gf_42_4 _ _) ?_
        refine PW_ireturn (ty := .int) c_V_told_4 rfl rfl ?_
        show PW _ _ _ 7 [some (.ref 35)] [.int (XX.1 340)] (E XX y)
        refine PW_aload_n c_P_toldByBoth_7 rfl ?_
        refine PW_get (v := .ref 43) c_P_toldByBoth_8 fl_P_32 (gf_35_2 _ _) ?_
        refine PW_V0 (d2 := 0) (st := [.int (XX.1 340)]) [] c_P_toldByBoth_11 lk_P_toldByBoth_86 (po_43 _ _) rfl rfl rfl (Nat.le_of_ble_eq_true rfl) (by first | decide | omega) (Nat.le_of_ble_eq_true rfl) ?_
        show PW _ _ _ 0 [some (.ref 43)] [] (E XX y)
        refine PW_aload_n c_V_told_0 rfl ?_
        refine PW_get (v := .int (XX.1 348)) c_V_told_1 fl_V_30 (gf_43_4 _ _) ?_
        refine PW_ireturn (ty := .int) c_V_told_4 rfl rfl ?_
        show PW _ _ _ 14 [some (.ref 35)] [.int (XX.1 348), .int (XX.1 340)] (E XX y)
        refine PW_ior c_P_toldByBoth_14 ?_
        refine PW_ireturn (ty := .int) c_P_toldByBoth_15 rfl rfl ?_
        show PW _ _ _ 126 [some (.ref 5), some (.int a1), some (.int a2), some (.int a3), some (.int a4), some (.ref (58 + 2 * pj)), some (.ref (58 + 2 * qj)), some (.int 0)] [.int ((XX.1 340) ||| (XX.1 348)), .ref 6] (E XX y)
        refine PW_V0 (d2 := 0) (st := []) [.int ((XX.1 340) ||| (XX.1 348))] c_G_pair_126 lk_G_pair_189 (po_6 _ _) rfl rfl rfl (Nat.le_of_ble_eq_true rfl) (by first | decide | omega) (Nat.le_of_ble_eq_true rfl) ?_
        show PW _ _ _ 0 [some (.ref 6), some (.int ((XX.1 340) ||| (XX.1 348)))] [] (E XX y)
        refine PW_aload_n c_H_missed_0 rfl ?_
        refine PW_get (v := .int (XX.1 52)) c_H_missed_1 fl_H_45 (gf_6_4 _ _) ?_
        refine PW_iload_n c_H_missed_4 rfl ?_
        refine PW_iconst (v := -1) c_H_missed_5 (by decide) ?_
        refine PW_ixor c_H_missed_6 ?_
        refine PW_iand c_H_missed_7 ?_
        refine PW_ireturn (ty := .int) c_H_missed_8 rfl rfl ?_
        show PW _ _ _ 129 [some (.ref 5), some (.int a1), some (.int a2), some (.int a3), some (.int a4), some (.ref (58 + 2 * pj)), some (.ref (58 + 2 * qj)), some (.int 0)] [.int ((XX.1 52) &&& (((XX.1 340) ||| (XX.1 348)) ^^^ (-1)))] (E XX y)
        refine PW_ireturn (ty := .int) c_G_pair_129 rfl rfl ?_
        rw [show (XX.1 52) &&& (((XX.1 340) ||| (XX.1 348)) ^^^ (-1)) = mustB y &&& ((orW W0 K0 ||| orW W1 K1) ^^^ -1) by rw [CX.x52, show XX.1 340 = orW W0 K0 from sX0.2.2, show XX.1 348 = orW W1 K1 from sX1.2.2]]
        exact h
      · refine PW.deeper (k := (5, 0, 0, z)) (Nat.le_of_ble_eq_true rfl) (Nat.le_refl _) (Nat.le_refl _) ?_
        refine PW_iload_n c_M_pair_0 rfl ?_
        refine PW_if_lt c_M_pair_1 (fun h0 => absurd h0 hc0) (fun h0 => ?_)
        refine PW_iload_n c_M_pair_4 rfl ?_
        refine PW_bipush (v := 10) c_M_pair_5 (by decide) ?_
        refine PW_idiv c_M_pair_7 (by decide) ?_
        refine PW_S0 (d2 := 1) (st := []) [.int (a1 / 10)] c_M_pair_8 lk_M_pair_143 rfl rfl rfl (Nat.le_of_ble_eq_true rfl) (by first | decide | omega) (Nat.le_of_ble_eq_true rfl) ?_
        refine sp_M_isShelf2  ?_
        show PW _ _ _ 11 [some (.ref 70), some (.int a1), some (.int a2), some (.int a3), some (.int a4), none, none] [.int (b2i (0 ≤ (a1 / 10).toInt ∧ (a1 / 10).toInt < 6))] (E XX y)
        refine PW_if_eq c_M_pair_11 (fun h1 => absurd hc1 (b2i_0.mp h1)) (fun _ => ?_)
        refine PW_iload_n c_M_pair_14 rfl ?_
        refine PW_bipush (v := 10) c_M_pair_15 (by decide) ?_
        refine PW_irem c_M_pair_17 (by decide) ?_
        refine PW_S0 (d2 := 1) (st := []) [.int (a1 - a1 / 10 * 10)] c_M_pair_18 lk_M_pair_143 rfl rfl rfl (Nat.le_of_ble_eq_true rfl) (by first | decide | omega) (Nat.le_of_ble_eq_true rfl) ?_
        refine sp_M_isShelf2  ?_
        show PW _ _ _ 21 [some (.ref 70), some (.int a1), some (.int a2), some (.int a3), some (.int a4), none, none] [.int (b2i (0 ≤ (a1 - a1 / 10 * 10).toInt ∧ (a1 - a1 / 10 * 10).toInt < 6))] (E XX y)
        refine PW_if_eq c_M_pair_21 (fun h2 => absurd hc2 (b2i_0.mp h2)) (fun _ => ?_)
        refine PW_iload_n c_M_pair_24 rfl ?_
        refine PW_if_lt c_M_pair_25 (fun h3 => absurd h3 hr0) (fun h3 => ?_)
        refine PW_iload_n c_M_pair_28 rfl ?_
        refine PW_bipush (v := 10) c_M_pair_29 (by decide) ?_
        refine PW_idiv c_M_pair_31 (by decide) ?_
        refine PW_S0 (d2 := 1) (st := []) [.int (a2 / 10)] c_M_pair_32 lk_M_pair_135 rfl rfl rfl (Nat.le_of_ble_eq_true rfl) (by first | decide | omega) (Nat.le_of_ble_eq_true rfl) ?_
        refine sp_M_isRoom  ?_
        show PW _ _ _ 35 [some (.ref 70), some (.int a1), some (.int a2), some (.int a3), some (.int a4), none, none] [.int (b2i (0 ≤ (a2 / 10) ∧ (a2 / 10) ≤ 4))] (E XX y)
        refine PW_if_eq c_M_pair_35 (fun h4 => absurd hr1 (b2i_0.mp h4)) (fun _ => ?_)
        refine PW_iload_n c_M_pair_38 rfl ?_
        refine PW_bipush (v := 10) c_M_pair_39 (by decide) ?_
        refine PW_irem c_M_pair_41 (by decide) ?_
        refine PW_S0 (d2 := 1) (st := []) [.int (a2 - a2 / 10 * 10)] c_M_pair_42 lk_M_pair_135 rfl rfl rfl (Nat.le_of_ble_eq_true rfl) (by first | decide | omega) (Nat.le_of_ble_eq_true rfl) ?_
        refine sp_M_isRoom  ?_
        show PW _ _ _ 45 [some (.ref 70), some (.int a1), some (.int a2), some (.int a3), some (.int a4), none, none] [.int (b2i (0 ≤ (a2 - a2 / 10 * 10) ∧ (a2 - a2 / 10 * 10) ≤ 4))] (E XX y)
        refine PW_if_eq c_M_pair_45 (fun h5 => absurd hr2 (b2i_0.mp h5)) (fun _ => ?_)
        refine PW_iload_n c_M_pair_48 rfl ?_
        refine PW_iconst (v := 0) c_M_pair_49 (by decide) ?_
        refine PW_bipush (v := 99) c_M_pair_50 (by decide) ?_
        refine PW_S0 (d2 := 0) (st := []) [.int a3, .int 0, .int 99] c_M_pair_52 lk_M_pair_131 rfl rfl rfl (Nat.le_of_ble_eq_true rfl) (by first | decide | omega) (Nat.le_of_ble_eq_true rfl) ?_
        refine sp_M_within  ?_
        show PW _ _ _ 55 [some (.ref 70), some (.int a1), some (.int a2), some (.int a3), some (.int a4), none, none] [.int (b2i ((0 : Int32) ≤ a3 ∧ a3 ≤ (99 : Int32)))] (E XX y)
        refine PW_if_eq c_M_pair_55 (fun h6 => absurd hmn (b2i_0.mp h6)) (fun _ => ?_)
        refine PW_iload c_M_pair_58 rfl ?_
        refine PW_iconst (v := 0) c_M_pair_60 (by decide) ?_
        refine PW_iconst (v := 1) c_M_pair_61 (by decide) ?_
        refine PW_S0 (d2 := 0) (st := []) [.int a4, .int 0, .int 1] c_M_pair_62 lk_M_pair_131 rfl rfl rfl (Nat.le_of_ble_eq_true rfl) (by first | decide | omega) (Nat.le_of_ble_eq_true rfl) ?_
        refine sp_M_within  ?_
        show PW _ _ _ 65 [some (.ref 70), some (.int a1), some (.int a2), some (.int a3), some (.int a4), none, none] [.int (b2i ((0 : Int32) ≤ a4 ∧ a4 ≤ (1 : Int32)))] (E XX y)
        refine PW_if_ne c_M_pair_65 (fun _ => ?_) (fun h7 => absurd hb4 (b2i_0.mp h7))
        refine PW_aload_n c_M_pair_70 rfl ?_
        refine PW_get (v := .ref 104) c_M_pair_71 fl_M_111 (gf_70_53 _ _) ?_
        refine PW_iload_n c_M_pair_74 rfl ?_
        refine PW_bipush (v := 10) c_M_pair_75 (by decide) ?_
        refine PW_idiv c_M_pair_77 (by decide) ?_
        refine PW_iald (j := pj) c_M_pair_78 (ar_104 _ _) (by rw [e1]; exact vp_in_nI hpj (by decide)) (by rw [e1]; exact nI_clamp (by omega)) ?_
        show PW _ _ _ 79 [some (.ref 70), some (.int a1), some (.int a2), some (.int a3), some (.int a4), none, none] [.int ((y.2.1 104) pj)] (E XX y)
        refine PW_iconst (v := -1) c_M_pair_79 (by decide) ?_
        refine PW_icmp_eq c_M_pair_80 (fun h8 => absurd h8 p1) (fun h8 => ?_)
        refine PW_aload_n c_M_pair_83 rfl ?_
        refine PW_get (v := .ref 104) c_M_pair_84 fl_M_111 (gf_70_53 _ _) ?_
        refine PW_iload_n c_M_pair_87 rfl ?_
        refine PW_bipush (v := 10) c_M_pair_88 (by decide) ?_
        refine PW_irem c_M_pair_90 (by decide) ?_
        refine PW_iald (j := qj) c_M_pair_91 (ar_104 _ _) (by rw [e2]; exact vp_in_nI hqj (by decide)) (by rw [e2]; exact nI_clamp (by omega)) ?_
        show PW _ _ _ 92 [some (.ref 70), some (.int a1), some (.int a2), some (.int a3), some (.int a4), none, none] [.int ((y.2.1 104) qj)] (E XX y)
        refine PW_iconst (v := -1) c_M_pair_92 (by decide) ?_
        refine PW_icmp_ne c_M_pair_93 (fun h9 => ?_) (fun h9 => absurd h9 q1)
        refine PW_aload_n c_M_pair_99 rfl ?_
        refine PW_iload_n c_M_pair_100 rfl ?_
        refine PW_bipush (v := 10) c_M_pair_101 (by decide) ?_
        refine PW_idiv c_M_pair_103 (by decide) ?_
        refine PW_V0 (d2 := 0) (st := []) [.int (a1 / 10)] c_M_pair_104 lk_M_pair_286 (po_70 _ _) rfl rfl rfl (Nat.le_of_ble_eq_true rfl) (by first | decide | omega) (Nat.le_of_ble_eq_true rfl) ?_
        show PW _ _ _ 0 [some (.ref 70), some (.int (a1 / 10))] [] (E XX y)
        refine PW_aload_n c_M_rowFault_0 rfl ?_
        refine PW_get (v := .ref 104) c_M_rowFault_1 fl_M_111 (gf_70_53 _ _) ?_
        refine PW_iload_n c_M_rowFault_4 rfl ?_
        refine PW_iald (j := pj) c_M_rowFault_5 (ar_104 _ _) (by rw [e1]; exact vp_in_nI hpj (by decide)) (by rw [e1]; exact nI_clamp (by omega)) ?_
        show PW _ _ _ 6 [some (.ref 70), some (.int (a1 / 10))] [.int ((y.2.1 104) pj)] (E XX y)
        refine PW_iconst (v := -1) c_M_rowFault_6 (by decide) ?_
        refine PW_icmp_ne c_M_rowFault_7 (fun h10 => ?_) (fun h10 => absurd h10 p1)
        refine PW_aload_n c_M_rowFault_15 rfl ?_
        refine PW_get (v := .ref 104) c_M_rowFault_16 fl_M_111 (gf_70_53 _ _) ?_
        refine PW_iload_n c_M_rowFault_19 rfl ?_
        refine PW_iald (j := pj) c_M_rowFault_20 (ar_104 _ _) (by rw [e1]; exact vp_in_nI hpj (by decide)) (by rw [e1]; exact nI_clamp (by omega)) ?_
        show PW _ _ _ 21 [some (.ref 70), some (.int (a1 / 10))] [.int ((y.2.1 104) pj)] (E XX y)
        refine PW_bipush (v := -2) c_M_rowFault_21 (by decide) ?_
        refine PW_icmp_ne c_M_rowFault_23 (fun h11 => absurd h11 (not_not_intro p2)) (fun h11 => ?_)
        refine PW_iconst (v := 0) c_M_rowFault_26 (by decide) ?_
        refine PW_goto c_M_rowFault_27 ?_
        refine PW_ireturn (ty := .int) c_M_rowFault_32 rfl rfl ?_
        show PW _ _ _ 107 [some (.ref 70), some (.int a1), some (.int a2), some (.int a3), some (.int a4), none, none] [.int 0] (E XX y)
        refine PW_if_lt c_M_pair_107 (fun h12 => absurd h12 (by decide)) (fun _ => ?_)
        refine PW_aload_n c_M_pair_110 rfl ?_
        refine PW_iload_n c_M_pair_111 rfl ?_
        refine PW_bipush (v := 10) c_M_pair_112 (by decide) ?_
        refine PW_irem c_M_pair_114 (by decide) ?_
        refine PW_V0 (d2 := 0) (st := []) [.int (a1 - a1 / 10 * 10)] c_M_pair_115 lk_M_pair_286 (po_70 _ _) rfl rfl rfl (Nat.le_of_ble_eq_true rfl) (by first | decide | omega) (Nat.le_of_ble_eq_true rfl) ?_
        show PW _ _ _ 0 [some (.ref 70), some (.int (a1 - a1 / 10 * 10))] [] (E XX y)
        refine PW_aload_n c_M_rowFault_0 rfl ?_
        refine PW_get (v := .ref 104) c_M_rowFault_1 fl_M_111 (gf_70_53 _ _) ?_
        refine PW_iload_n c_M_rowFault_4 rfl ?_
        refine PW_iald (j := qj) c_M_rowFault_5 (ar_104 _ _) (by rw [e2]; exact vp_in_nI hqj (by decide)) (by rw [e2]; exact nI_clamp (by omega)) ?_
        show PW _ _ _ 6 [some (.ref 70), some (.int (a1 - a1 / 10 * 10))] [.int ((y.2.1 104) qj)] (E XX y)
        refine PW_iconst (v := -1) c_M_rowFault_6 (by decide) ?_
        refine PW_icmp_ne c_M_rowFault_7 (fun h13 => ?_) (fun h13 => absurd h13 q1)
        refine PW_aload_n c_M_rowFault_15 rfl ?_
        refine PW_get (v := .ref 104) c_M_rowFault_16 fl_M_111 (gf_70_53 _ _) ?_
        refine PW_iload_n c_M_rowFault_19 rfl ?_
        refine PW_iald (j := qj) c_M_rowFault_20 (ar_104 _ _) (by rw [e2]; exact vp_in_nI hqj (by decide)) (by rw [e2]; exact nI_clamp (by omega)) ?_
        show PW _ _ _ 21 [some (.ref 70), some (.int (a1 - a1 / 10 * 10))] [.int ((y.2.1 104) qj)] (E XX y)
        refine PW_bipush (v := -2) c_M_rowFault_21 (by decide) ?_
        refine PW_icmp_ne c_M_rowFault_23 (fun h14 => absurd h14 (not_not_intro q2)) (fun h14 => ?_)
        refine PW_iconst (v := 0) c_M_rowFault_26 (by decide) ?_
        refine PW_goto c_M_rowFault_27 ?_
        refine PW_ireturn (ty := .int) c_M_rowFault_32 rfl rfl ?_
        show PW _ _ _ 118 [some (.ref 70), some (.int a1), some (.int a2), some (.int a3), some (.int a4), none, none] [.int 0] (E XX y)
        refine PW_if_ge c_M_pair_118 (fun _ => ?_) (fun h15 => absurd (by decide) h15)
        refine PW_iconst (v := 0) c_M_pair_124 (by decide) ?_
        refine PW_istore (i := 5) (L2 := [some (.ref 70), some (.int a1), some (.int a2), some (.int a3), some (.int a4), some (.int 0), none]) c_M_pair_125 (Nat.le_of_ble_eq_true rfl) rfl rfl ?_
        refine PW_iload c_M_pair_127 rfl ?_
        refine PW_iconst (v := 2) c_M_pair_129 (by decide) ?_
        refine PW_icmp_ge c_M_pair_130 (fun h16 => absurd h16 (by decide)) (fun _ => ?_)
        refine PW_aload_n c_M_pair_133 rfl ?_
        refine PW_get (v := .ref 93) c_M_pair_134 fl_M_78 (gf_70_37 _ _) ?_
        refine PW_iload c_M_pair_137 rfl ?_
        refine PW_iload c_M_pair_139 rfl ?_
        refine PW_if_ne c_M_pair_141 (fun h17 => absurd (by decide) h17) (fun _ => ?_)
        refine PW_iload_n c_M_pair_144 rfl ?_
        refine PW_bipush (v := 10) c_M_pair_145 (by decide) ?_
        refine PW_idiv c_M_pair_147 (by decide) ?_
        refine PW_goto c_M_pair_148 ?_
        refine PW_iast (j := 0) (w2 := E XX (sA y 93 (upd (y.2.1 93) 0 (a2 / 10)))) c_M_pair_155 (ar_93 _ _) (vp_in_iff.mpr (by decide)) rfl (aw_93 _ _ _) ?_
        refine PW_aload_n c_M_pair_156 rfl ?_
        refine PW_get (v := .ref 94) c_M_pair_157 fl_M_81 (gf_70_38 _ _) ?_
        refine PW_iload c_M_pair_160 rfl ?_
        refine PW_iload_n c_M_pair_162 rfl ?_
        refine PW_iast (j := 0) (w2 := E XX (sA (sA y 93 (upd (y.2.1 93) 0 (a2 / 10))) 94 (upd (y.2.1 94) 0 a3))) c_M_pair_163 (ar_94 _ _) (vp_in_iff.mpr (by decide)) rfl (aw_94 _ _ _) ?_
        refine PW_aload_n c_M_pair_164 rfl ?_
        refine PW_get (v := .ref 95) c_M_pair_165 fl_M_84 (gf_70_39 _ _) ?_
        refine PW_iload c_M_pair_168 rfl ?_
        refine PW_iconst (v := 0) c_M_pair_170 (by decide) ?_
        refine PW_iast (j := 0) (w2 := E XX (sA (sA (sA y 93 (upd (y.2.1 93) 0 (a2 / 10))) 94 (upd (y.2.1 94) 0 a3)) 95 (upd (y.2.1 95) 0 0))) c_M_pair_171 (ar_95 _ _) (vp_in_iff.mpr (by decide)) rfl (aw_95 _ _ _) ?_
        refine PW_aload_n c_M_pair_172 rfl ?_
        refine PW_get (v := .ref 96) c_M_pair_173 fl_M_87 (gf_70_40 _ _) ?_
        refine PW_iload c_M_pair_176 rfl ?_
        refine PW_iconst (v := 0) c_M_pair_178 (by decide) ?_
        refine PW_iast (j := 0) (w2 := E XX (sA (sA (sA (sA y 93 (upd (y.2.1 93) 0 (a2 / 10))) 94 (upd (y.2.1 94) 0 a3)) 95 (upd (y.2.1 95) 0 0)) 96 (upd (y.2.1 96) 0 0))) c_M_pair_179 (ar_96 _ _) (vp_in_iff.mpr (by decide)) rfl (aw_96 _ _ _) ?_
        refine PW_iinc (i := 5) (v := 1) (L2 := [some (.ref 70), some (.int a1), some (.int a2), some (.int a3), some (.int a4), some (.int 1), none]) c_M_pair_180 rfl (by decide) (Nat.le_of_ble_eq_true rfl) rfl rfl ?_
        refine PW_goto c_M_pair_183 ?_
        refine PW_iload c_M_pair_127 rfl ?_
        refine PW_iconst (v := 2) c_M_pair_129 (by decide) ?_
        refine PW_icmp_ge c_M_pair_130 (fun h18 => absurd h18 (by decide)) (fun _ => ?_)
        refine PW_aload_n c_M_pair_133 rfl ?_
        refine PW_get (v := .ref 93) c_M_pair_134 fl_M_78 (gf_70_37 _ _) ?_
        refine PW_iload c_M_pair_137 rfl ?_
        refine PW_iload c_M_pair_139 rfl ?_
        refine PW_if_ne c_M_pair_141 (fun _ => ?_) (fun h19 => absurd h19 (by decide))
        refine PW_iload_n c_M_pair_151 rfl ?_
        refine PW_bipush (v := 10) c_M_pair_152 (by decide) ?_
        refine PW_irem c_M_pair_154 (by decide) ?_
        refine PW_iast (j := 1) (w2 := E XX (sA (sA (sA (sA (sA y 93 (upd (y.2.1 93) 0 (a2 / 10))) 94 (upd (y.2.1 94) 0 a3)) 95 (upd (y.2.1 95) 0 0)) 96 (upd (y.2.1 96) 0 0)) 93 (upd (upd (y.2.1 93) 0 (a2 / 10)) 1 (a2 - a2 / 10 * 10)))) c_M_pair_155 (ar_93 _ _) (vp_in_iff.mpr (by decide)) rfl (aw_93 _ _ _) ?_
        refine PW_aload_n c_M_pair_156 rfl ?_
        refine PW_get (v := .ref 94) c_M_pair_157 fl_M_81 (gf_70_38 _ _) ?_
        refine PW_iload c_M_pair_160 rfl ?_
        refine PW_iload_n c_M_pair_162 rfl ?_
        refine PW_iast (j := 1) (w2 := E XX (sA (sA (sA (sA (sA (sA y 93 (upd (y.2.1 93) 0 (a2 / 10))) 94 (upd (y.2.1 94) 0 a3)) 95 (upd (y.2.1 95) 0 0)) 96 (upd (y.2.1 96) 0 0)) 93 (upd (upd (y.2.1 93) 0 (a2 / 10)) 1 (a2 - a2 / 10 * 10))) 94 (upd (upd (y.2.1 94) 0 a3) 1 a3))) c_M_pair_163 (ar_94 _ _) (vp_in_iff.mpr (by decide)) rfl (aw_94 _ _ _) ?_
        refine PW_aload_n c_M_pair_164 rfl ?_
        refine PW_get (v := .ref 95) c_M_pair_165 fl_M_84 (gf_70_39 _ _) ?_
        refine PW_iload c_M_pair_168 rfl ?_
        refine PW_iconst (v := 0) c_M_pair_170 (by decide) ?_
        refine PW_iast (j := 1) (w2 := E XX (sA (sA (sA (sA (sA (sA (sA y 93 (upd (y.2.1 93) 0 (a2 / 10))) 94 (upd (y.2.1 94) 0 a3)) 95 (upd (y.2.1 95) 0 0)) 96 (upd (y.2.1 96) 0 0)) 93 (upd (upd (y.2.1 93) 0 (a2 / 10)) 1 (a2 - a2 / 10 * 10))) 94 (upd (upd (y.2.1 94) 0 a3) 1 a3)) 95 (upd (upd (y.2.1 95) 0 0) 1 0))) c_M_pair_171 (ar_95 _ _) (vp_in_iff.mpr (by decide)) rfl (aw_95 _ _ _) ?_
        refine PW_aload_n c_M_pair_172 rfl ?_
        refine PW_get (v := .ref 96) c_M_pair_173 fl_M_87 (gf_70_40 _ _) ?_
        refine PW_iload c_M_pair_176 rfl ?_
        refine PW_iconst (v := 0) c_M_pair_178 (by decide) ?_
        refine PW_iast (j := 1) (w2 := E XX (sA (sA (sA (sA (sA (sA (sA (sA y 93 (upd (y.2.1 93) 0 (a2 / 10))) 94 (upd (y.2.1 94) 0 a3)) 95 (upd (y.2.1 95) 0 0)) 96 (upd (y.2.1 96) 0 0)) 93 (upd (upd (y.2.1 93) 0 (a2 / 10)) 1 (a2 - a2 / 10 * 10))) 94 (upd (upd (y.2.1 94) 0 a3) 1 a3)) 95 (upd (upd (y.2.1 95) 0 0) 1 0)) 96 (upd (upd (y.2.1 96) 0 0) 1 0))) c_M_pair_179 (ar_96 _ _) (vp_in_iff.mpr (by decide)) rfl (aw_96 _ _ _) ?_
        refine PW_iinc (i := 5) (v := 2) (L2 := [some (.ref 70), some (.int a1), some (.int a2), some (.int a3), some (.int a4), some (.int 2), none]) c_M_pair_180 rfl (by decide) (Nat.le_of_ble_eq_true rfl) rfl rfl ?_
        refine PW_goto c_M_pair_183 ?_
        refine PW_iload c_M_pair_127 rfl ?_
        refine PW_iconst (v := 2) c_M_pair_129 (by decide) ?_
        refine PW_icmp_ge c_M_pair_130 (fun _ => ?_) (fun h20 => absurd (by decide) h20)
        refine PW.eqL ?_ rfl rfl (HM (x9 := XX) (l5 := some (.int 2)) (l6 := none) ?_)
        · rfl
        · show PW _ _ _ 255 [some (.ref 70), some (.int a1), some (.int a2), some (.int a3), some (.int a4), some (.int 2), none] [] (E XX YY)
          refine PW_aload_n c_M_pair_255 rfl ?_
          refine PW_get (v := .ref 94) c_M_pair_256 fl_M_81 (gf_70_38 _ _) ?_
          refine PW_iconst (v := 0) c_M_pair_259 (by decide) ?_
          refine PW_iald (j := 0) c_M_pair_260 (ar_94 _ _) (vp_in_iff.mpr (by decide)) rfl ?_
          show PW _ _ _ 261 [some (.ref 70), some (.int a1), some (.int a2), some (.int a3), some (.int a4), some (.int 2), none] [.int ((YY.2.1 94) 0)] (E XX YY)
          rw [hy0.2.1]
          show PW _ _ _ 261 [some (.ref 70), some (.int a1), some (.int a2), some (.int a3), some (.int a4), some (.int 2), none] [.int M0] (E XX YY)
          refine PW_aload_n c_M_pair_261 rfl ?_
          refine PW_aload_n c_M_pair_262 rfl ?_
          refine PW_get (v := .ref 93) c_M_pair_263 fl_M_78 (gf_70_37 _ _) ?_
          refine PW_iconst (v := 0) c_M_pair_266 (by decide) ?_
          refine PW_iald (j := 0) c_M_pair_267 (ar_93 _ _) (vp_in_iff.mpr (by decide)) rfl ?_
          show PW _ _ _ 268 [some (.ref 70), some (.int a1), some (.int a2), some (.int a3), some (.int a4), some (.int 2), none] [.int ((YY.2.1 93) 0), .ref 70, .int M0] (E XX YY)
          rw [hy0.1]
          show PW _ _ _ 268 [some (.ref 70), some (.int a1), some (.int a2), some (.int a3), some (.int a4), some (.int 2), none] [.int (nI A0), .ref 70, .int M0] (E XX YY)
          refine PW_iconst (v := 0) c_M_pair_268 (by decide) ?_
          refine PW_V0 (d2 := 0) (st := [.int M0]) [.int (nI A0), .int 0] c_M_pair_269 lk_M_pair_274 (po_70 _ _) rfl rfl rfl (Nat.le_of_ble_eq_true rfl) (by first | decide | omega) (Nat.le_of_ble_eq_true rfl) ?_
          refine sp_M_wayOf (b := 0) rfl rfl hA5 (by decide) ?_
          rw [g5]
          show PW _ _ _ 272 [some (.ref 70), some (.int a1), some (.int a2), some (.int a3), some (.int a4), some (.int 2), none] [.int (wayN y A0 0), .int M0] (E XX YY)
          refine PW_iadd c_M_pair_272 ?_
          refine PW_istore (i := 5) (L2 := [some (.ref 70), some (.int a1), some (.int a2), some (.int a3), some (.int a4), some (.int (M0 + (wayN y A0 0))), none]) c_M_pair_273 (Nat.le_of_ble_eq_true rfl) rfl rfl ?_
          refine PW_aload_n c_M_pair_275 rfl ?_
          refine PW_get (v := .ref 94) c_M_pair_276 fl_M_81 (gf_70_38 _ _) ?_
          refine PW_iconst (v := 1) c_M_pair_279 (by decide) ?_
          refine PW_iald (j := 1) c_M_pair_280 (ar_94 _ _) (vp_in_iff.mpr (by decide)) rfl ?_
          show PW _ _ _ 281 [some (.ref 70), some (.int a1), some (.int a2), some (.int a3), some (.int a4), some (.int (M0 + (wayN y A0 0))), none] [.int ((YY.2.1 94) 1)] (E XX YY)
          rw [hy1.2.1]
          show PW _ _ _ 281 [some (.ref 70), some (.int a1), some (.int a2), some (.int a3), some (.int a4), some (.int (M0 + (wayN y A0 0))), none] [.int M1] (E XX YY)
          refine PW_aload_n c_M_pair_281 rfl ?_
          refine PW_aload_n c_M_pair_282 rfl ?_
          refine PW_get (v := .ref 93) c_M_pair_283 fl_M_78 (gf_70_37 _ _) ?_
          refine PW_iconst (v := 1) c_M_pair_286 (by decide) ?_
          refine PW_iald (j := 1) c_M_pair_287 (ar_93 _ _) (vp_in_iff.mpr (by decide)) rfl ?_
          show PW _ _ _ 288 [some (.ref 70), some (.int a1), some (.int a2), some (.int a3), some (.int a4), some (.int (M0 + (wayN y A0 0))), none] [.int ((YY.2.1 93) 1), .ref 70, .int M1] (E XX YY)
          rw [hy1.1]
          show PW _ _ _ 288 [some (.ref 70), some (.int a1), some (.int a2), some (.int a3), some (.int a4), some (.int (M0 + (wayN y A0 0))), none] [.int (nI A1), .ref 70, .int M1] (E XX YY)
          refine PW_iconst (v := 0) c_M_pair_288 (by decide) ?_
          refine PW_V0 (d2 := 0) (st := [.int M1]) [.int (nI A1), .int 0] c_M_pair_289 lk_M_pair_274 (po_70 _ _) rfl rfl rfl (Nat.le_of_ble_eq_true rfl) (by first | decide | omega) (Nat.le_of_ble_eq_true rfl) ?_
          refine sp_M_wayOf (b := 0) rfl rfl hB5 (by decide) ?_
          rw [g5]
          show PW _ _ _ 292 [some (.ref 70), some (.int a1), some (.int a2), some (.int a3), some (.int a4), some (.int (M0 + (wayN y A0 0))), none] [.int (wayN y A1 0), .int M1] (E XX YY)
          refine PW_iadd c_M_pair_292 ?_
          refine PW_istore (i := 6) (L2 := [some (.ref 70), some (.int a1), some (.int a2), some (.int a3), some (.int a4), some (.int (M0 + (wayN y A0 0))), some (.int (M1 + (wayN y A1 0)))]) c_M_pair_293 (Nat.le_of_ble_eq_true rfl) rfl rfl ?_
          refine PW_iload c_M_pair_295 rfl ?_
          refine PW_if_ne c_M_pair_297 (fun h0 => ?_) (fun h0 => absurd h0 hw0)
          refine PW_aload_n c_M_pair_315 rfl ?_
          refine PW_V0 (d2 := 0) (st := []) [] c_M_pair_316 lk_M_pair_253 (po_70 _ _) rfl rfl rfl (Nat.le_of_ble_eq_true rfl) (by first | decide | omega) (Nat.le_of_ble_eq_true rfl) ?_
          refine sp_M_allMust hWY ?_
          show PW _ _ _ 319 [some (.ref 70), some (.int a1), some (.int a2), some (.int a3), some (.int a4), some (.int (M0 + (wayN y A0 0))), some (.int (M1 + (wayN y A1 0)))] [.int (mustB YY)] (E XX YY)
          refine PW_aload_n c_M_pair_319 rfl ?_
          refine PW_iconst (v := 0) c_M_pair_320 (by decide) ?_
          refine PW_ldcw c_M_pair_321 kk_M_314 ?_
          refine PW_V0 (d2 := 0) (st := [.int (mustB YY)]) [.int 0, .int 1000000] c_M_pair_324 lk_M_pair_327 (po_70 _ _) rfl rfl rfl (Nat.le_of_ble_eq_true rfl) (by first | decide | omega) (Nat.le_of_ble_eq_true rfl) ?_
          refine sp_kt_0 hy0 hy1 (by omega) (by omega) ?_
          show PW _ _ _ 327 [some (.ref 70), some (.int a1), some (.int a2), some (.int a3), some (.int a4), some (.int (M0 + (wayN y A0 0))), some (.int (M1 + (wayN y A1 0)))] [.int (orW W0 K0 ||| orB E1 W1 1000000 K1), .int (mustB YY)] (E XX YY)
          refine PW_aload_n c_M_pair_327 rfl ?_
          refine PW_iconst (v := 1) c_M_pair_328 (by decide) ?_
          refine PW_ldcw c_M_pair_329 kk_M_314 ?_
          refine PW_V0 (d2 := 0) (st := [.int (orW W0 K0 ||| orB E1 W1 1000000 K1), .int (mustB YY)]) [.int 1, .int 1000000] c_M_pair_332 lk_M_pair_327 (po_70 _ _) rfl rfl rfl (Nat.le_of_ble_eq_true rfl) (by first | decide | omega) (Nat.le_of_ble_eq_true rfl) ?_
          refine sp_kt_1 hy1 hy0 (by omega) (by omega) ?_
          show PW _ _ _ 335 [some (.ref 70), some (.int a1), some (.int a2), some (.int a3), some (.int a4), some (.int (M0 + (wayN y A0 0))), some (.int (M1 + (wayN y A1 0)))] [.int (orW W1 K1 ||| orB E0 W0 1000000 K0), .int (orW W0 K0 ||| orB E1 W1 1000000 K1), .int (mustB YY)] (E XX YY)
          refine PW_ior c_M_pair_335 ?_
          refine PW_iconst (v := -1) c_M_pair_336 (by decide) ?_
          refine PW_ixor c_M_pair_337 ?_
          refine PW_iand c_M_pair_338 ?_
          refine PW_ireturn (ty := .int) c_M_pair_339 rfl rfl ?_
          rw [show (mustB YY) &&& (((orW W0 K0 ||| orB E1 W1 1000000 K1) ||| (orW W1 K1 ||| orB E0 W0 1000000 K0)) ^^^ (-1)) = mustB y &&& ((orW W0 K0 ||| orW W1 K1) ^^^ -1) by rw [g3, orB_all hf1, orB_all hf0, or_dup]]
          exact h
