theorem so_ne {s : Nat} {v : Int32} (hs : s < 5) (h : 0 ≤ v.toInt) : ¬ (-2 - nI s = v) := fun q => by
  have := ho_lt hs
  rw [q, Int32.lt_iff_toInt_lt, tiA.1] at this
  omega
theorem so_inj {s u : Nat} (hs : s < 5) (hu : u < 5) (h : ¬ s = u) : ¬ (-2 - nI s = -2 - nI u) :=
  (by decide : ∀ s : Nat, s < 5 → ∀ u : Nat, u < 5 → ¬ s = u → ¬ (-2 - nI s = -2 - nI u)) s hs u hu h
set_option maxHeartbeats 4000000 in
theorem op_shift {t : Nat} {x y : XS} {a1 : Int32} {a2 : Int32} {a3 : Int32} {a4 : Int32} {a5 : Int32} (hI : INV t x y) (ht : t < 512) : ∃ (r : Int32) (x' y' : XS), INV (t + 1) x' y' ∧ (∀ {z : ZS} {post : Option Value → List PE → Prop}, post (some (.int r)) (E x' y) → PW (90, 0, 0, z) m_G_shift post 0 [some (.ref 5), some (.int a1), some (.int a2), some (.int a3), some (.int a4), some (.int a5), none, none] [] (E x y)) ∧ (∀ {z : ZS} {post : Option Value → List PE → Prop}, post (some (.int r)) (E x' y') → PW (90, 0, 0, z) m_M_shift post 0 [some (.ref 70), some (.int a1), some (.int a2), some (.int a3), some (.int a4), some (.int a5), none] [] (E x' y)) := by
  obtain ⟨hg, hc, ht0, hl, hd, hb, hs⟩ := id hI

  by_cases hc0 : ¬ (0 ≤ a1.toInt ∧ a1.toInt < 6)
  · by_cases hd0 : ¬ (0 ≤ a3.toInt ∧ a3.toInt < 6)
    · refine ⟨-1, x, y, ?_, fun {z post} h => ?_, fun {z post} h => ?_⟩
      · exact INV_step hI
      · refine PW.deeper (k := (2, 0, 0, z)) (Nat.le_of_ble_eq_true rfl) (Nat.le_refl _) (Nat.le_refl _) ?_
        refine PW_aload_n c_G_shift_0 rfl ?_
        refine PW_iload_n c_G_shift_1 rfl ?_
        refine PW_V0 (d2 := 0) (st := []) [.int a1] c_G_shift_2 lk_G_shift_102 (po_5 _ _) rfl rfl rfl (Nat.le_of_ble_eq_true rfl) (by first | decide | omega) (Nat.le_of_ble_eq_true rfl) ?_
        refine sp_noshelf hc0 ?_
        show PW _ _ _ 5 [some (.ref 5), some (.int a1), some (.int a2), some (.int a3), some (.int a4), some (.int a5), none, none] [.null] (E x y)
        refine PW_astoreN (i := 6) (L2 := [some (.ref 5), some (.int a1), some (.int a2), some (.int a3), some (.int a4), some (.int a5), some (.null), none]) c_G_shift_5 (Nat.le_of_ble_eq_true rfl) rfl rfl ?_
        refine PW_aload_n c_G_shift_7 rfl ?_
        refine PW_iload_n c_G_shift_8 rfl ?_
        refine PW_V0 (d2 := 0) (st := []) [.int a3] c_G_shift_9 lk_G_shift_102 (po_5 _ _) rfl rfl rfl (Nat.le_of_ble_eq_true rfl) (by first | decide | omega) (Nat.le_of_ble_eq_true rfl) ?_
        refine sp_noshelf hd0 ?_
        show PW _ _ _ 12 [some (.ref 5), some (.int a1), some (.int a2), some (.int a3), some (.int a4), some (.int a5), some (.null), none] [.null] (E x y)
        refine PW_astoreN (i := 7) (L2 := [some (.ref 5), some (.int a1), some (.int a2), some (.int a3), some (.int a4), some (.int a5), some (.null), some (.null)]) c_G_shift_12 (Nat.le_of_ble_eq_true rfl) rfl rfl ?_
        refine PW_aloadN c_G_shift_14 rfl ?_
        refine PW_ifnullN c_G_shift_16 ?_
        refine PW_iconst (v := -1) c_G_shift_24 (by decide) ?_
        refine PW_ireturn (ty := .int) c_G_shift_25 rfl rfl ?_
        exact h
      · refine PW.deeper (k := (2, 0, 0, z)) (Nat.le_of_ble_eq_true rfl) (Nat.le_refl _) (Nat.le_refl _) ?_
        refine PW_iload_n c_M_shift_0 rfl ?_
        refine PW_S0 (d2 := 1) (st := []) [.int a1] c_M_shift_1 lk_M_shift_143 rfl rfl rfl (Nat.le_of_ble_eq_true rfl) (by first | decide | omega) (Nat.le_of_ble_eq_true rfl) ?_
        refine sp_M_isShelf2  ?_
        show PW _ _ _ 4 [some (.ref 70), some (.int a1), some (.int a2), some (.int a3), some (.int a4), some (.int a5), none] [.int (b2i (0 ≤ a1.toInt ∧ a1.toInt < 6))] (E x y)
        refine PW_if_eq c_M_shift_4 (fun _ => ?_) (fun h0 => absurd (b2i_n0.mp h0) hc0)
        refine PW_iconst (v := -1) c_M_shift_14 (by decide) ?_
        refine PW_ireturn (ty := .int) c_M_shift_15 rfl rfl ?_
        exact h
    obtain ⟨o, ho, rfl⟩ : ∃ o : Nat, o < 6 ∧ a3 = nI o := by
      obtain ⟨q, q1, q2, q3, q4⟩ := nI_ex (x := a3) (by have := Decidable.not_not.mp hd0; omega)
      exact ⟨q, by have := Decidable.not_not.mp hd0; omega, q2⟩
    have hos : 0 ≤ (nI o).toInt ∧ (nI o).toInt < 6 := by rw [nI_toInt (by omega)]; omega
    have hso := hs o ho
    unfold CPs1 at hso
    refine ⟨-1, x, y, ?_, fun {z post} h => ?_, fun {z post} h => ?_⟩
    · exact INV_step hI
    · refine PW.deeper (k := (2, 0, 0, z)) (Nat.le_of_ble_eq_true rfl) (Nat.le_refl _) (Nat.le_refl _) ?_
      refine PW_aload_n c_G_shift_0 rfl ?_
      refine PW_iload_n c_G_shift_1 rfl ?_
      refine PW_V0 (d2 := 0) (st := []) [.int a1] c_G_shift_2 lk_G_shift_102 (po_5 _ _) rfl rfl rfl (Nat.le_of_ble_eq_true rfl) (by first | decide | omega) (Nat.le_of_ble_eq_true rfl) ?_
      refine sp_noshelf hc0 ?_
      show PW _ _ _ 5 [some (.ref 5), some (.int a1), some (.int a2), some (.int (nI o)), some (.int a4), some (.int a5), none, none] [.null] (E x y)
      refine PW_astoreN (i := 6) (L2 := [some (.ref 5), some (.int a1), some (.int a2), some (.int (nI o)), some (.int a4), some (.int a5), some (.null), none]) c_G_shift_5 (Nat.le_of_ble_eq_true rfl) rfl rfl ?_
      refine PW_aload_n c_G_shift_7 rfl ?_
      refine PW_iload_n c_G_shift_8 rfl ?_
      refine PW_V0 (d2 := 0) (st := []) [.int (nI o)] c_G_shift_9 lk_G_shift_102 (po_5 _ _) rfl rfl rfl (Nat.le_of_ble_eq_true rfl) (by first | decide | omega) (Nat.le_of_ble_eq_true rfl) ?_
      refine sp_shelf ho ?_
      show PW _ _ _ 12 [some (.ref 5), some (.int a1), some (.int a2), some (.int (nI o)), some (.int a4), some (.int a5), some (.null), none] [.ref (58 + 2 * o)] (E x y)
      refine PW_astore (i := 7) (L2 := [some (.ref 5), some (.int a1), some (.int a2), some (.int (nI o)), some (.int a4), some (.int a5), some (.null), some (.ref (58 + 2 * o))]) c_G_shift_12 (Nat.le_of_ble_eq_true rfl) rfl rfl ?_
      refine PW_aloadN c_G_shift_14 rfl ?_
      refine PW_ifnullN c_G_shift_16 ?_
      refine PW_iconst (v := -1) c_G_shift_24 (by decide) ?_
      refine PW_ireturn (ty := .int) c_G_shift_25 rfl rfl ?_
      exact h
    · refine PW.deeper (k := (2, 0, 0, z)) (Nat.le_of_ble_eq_true rfl) (Nat.le_refl _) (Nat.le_refl _) ?_
      refine PW_iload_n c_M_shift_0 rfl ?_
      refine PW_S0 (d2 := 1) (st := []) [.int a1] c_M_shift_1 lk_M_shift_143 rfl rfl rfl (Nat.le_of_ble_eq_true rfl) (by first | decide | omega) (Nat.le_of_ble_eq_true rfl) ?_
      refine sp_M_isShelf2  ?_
      show PW _ _ _ 4 [some (.ref 70), some (.int a1), some (.int a2), some (.int (nI o)), some (.int a4), some (.int a5), none] [.int (b2i (0 ≤ a1.toInt ∧ a1.toInt < 6))] (E x y)
      refine PW_if_eq c_M_shift_4 (fun _ => ?_) (fun h0 => absurd (b2i_n0.mp h0) hc0)
      refine PW_iconst (v := -1) c_M_shift_14 (by decide) ?_
      refine PW_ireturn (ty := .int) c_M_shift_15 rfl rfl ?_
      exact h
  obtain ⟨j, hj, rfl⟩ : ∃ j : Nat, j < 6 ∧ a1 = nI j := by
    obtain ⟨q, q1, q2, q3, q4⟩ := nI_ex (x := a1) (by have := Decidable.not_not.mp hc0; omega)
    exact ⟨q, by have := Decidable.not_not.mp hc0; omega, q2⟩
  have hjs : 0 ≤ (nI j).toInt ∧ (nI j).toInt < 6 := by rw [nI_toInt (by omega)]; omega
  have hsj := hs j hj
  unfold CPs1 at hsj
  by_cases hd0 : ¬ (0 ≤ a3.toInt ∧ a3.toInt < 6)
  · refine ⟨-1, x, y, ?_, fun {z post} h => ?_, fun {z post} h => ?_⟩
    · exact INV_step hI
    · refine PW.deeper (k := (2, 0, 0, z)) (Nat.le_of_ble_eq_true rfl) (Nat.le_refl _) (Nat.le_refl _) ?_
      refine PW_aload_n c_G_shift_0 rfl ?_
      refine PW_iload_n c_G_shift_1 rfl ?_
      refine PW_V0 (d2 := 0) (st := []) [.int (nI j)] c_G_shift_2 lk_G_shift_102 (po_5 _ _) rfl rfl rfl (Nat.le_of_ble_eq_true rfl) (by first | decide | omega) (Nat.le_of_ble_eq_true rfl) ?_
      refine sp_shelf hj ?_
      show PW _ _ _ 5 [some (.ref 5), some (.int (nI j)), some (.int a2), some (.int a3), some (.int a4), some (.int a5), none, none] [.ref (58 + 2 * j)] (E x y)
      refine PW_astore (i := 6) (L2 := [some (.ref 5), some (.int (nI j)), some (.int a2), some (.int a3), some (.int a4), some (.int a5), some (.ref (58 + 2 * j)), none]) c_G_shift_5 (Nat.le_of_ble_eq_true rfl) rfl rfl ?_
      refine PW_aload_n c_G_shift_7 rfl ?_
      refine PW_iload_n c_G_shift_8 rfl ?_
      refine PW_V0 (d2 := 0) (st := []) [.int a3] c_G_shift_9 lk_G_shift_102 (po_5 _ _) rfl rfl rfl (Nat.le_of_ble_eq_true rfl) (by first | decide | omega) (Nat.le_of_ble_eq_true rfl) ?_
      refine sp_noshelf hd0 ?_
      show PW _ _ _ 12 [some (.ref 5), some (.int (nI j)), some (.int a2), some (.int a3), some (.int a4), some (.int a5), some (.ref (58 + 2 * j)), none] [.null] (E x y)
      refine PW_astoreN (i := 7) (L2 := [some (.ref 5), some (.int (nI j)), some (.int a2), some (.int a3), some (.int a4), some (.int a5), some (.ref (58 + 2 * j)), some (.null)]) c_G_shift_12 (Nat.le_of_ble_eq_true rfl) rfl rfl ?_
      refine PW_aload c_G_shift_14 rfl ?_
      refine PW_ifnull c_G_shift_16 ?_
      refine PW_aloadN c_G_shift_19 rfl ?_
      refine PW_ifnonnullN c_G_shift_21 ?_
      refine PW_iconst (v := -1) c_G_shift_24 (by decide) ?_
      refine PW_ireturn (ty := .int) c_G_shift_25 rfl rfl ?_
      exact h
    · refine PW.deeper (k := (2, 0, 0, z)) (Nat.le_of_ble_eq_true rfl) (Nat.le_refl _) (Nat.le_refl _) ?_
      refine PW_iload_n c_M_shift_0 rfl ?_
      refine PW_S0 (d2 := 1) (st := []) [.int (nI j)] c_M_shift_1 lk_M_shift_143 rfl rfl rfl (Nat.le_of_ble_eq_true rfl) (by first | decide | omega) (Nat.le_of_ble_eq_true rfl) ?_
      refine sp_M_isShelf2  ?_
      show PW _ _ _ 4 [some (.ref 70), some (.int (nI j)), some (.int a2), some (.int a3), some (.int a4), some (.int a5), none] [.int (b2i (0 ≤ (nI j).toInt ∧ (nI j).toInt < 6))] (E x y)
      refine PW_if_eq c_M_shift_4 (fun h0 => absurd hjs (b2i_0.mp h0)) (fun _ => ?_)
      refine PW_iload_n c_M_shift_7 rfl ?_
      refine PW_S0 (d2 := 1) (st := []) [.int a3] c_M_shift_8 lk_M_shift_143 rfl rfl rfl (Nat.le_of_ble_eq_true rfl) (by first | decide | omega) (Nat.le_of_ble_eq_true rfl) ?_
      refine sp_M_isShelf2  ?_
      show PW _ _ _ 11 [some (.ref 70), some (.int (nI j)), some (.int a2), some (.int a3), some (.int a4), some (.int a5), none] [.int (b2i (0 ≤ a3.toInt ∧ a3.toInt < 6))] (E x y)
      refine PW_if_ne c_M_shift_11 (fun h1 => absurd (b2i_n0.mp h1) hd0) (fun _ => ?_)
      refine PW_iconst (v := -1) c_M_shift_14 (by decide) ?_
      refine PW_ireturn (ty := .int) c_M_shift_15 rfl rfl ?_
      exact h
  obtain ⟨o, ho, rfl⟩ : ∃ o : Nat, o < 6 ∧ a3 = nI o := by
    obtain ⟨q, q1, q2, q3, q4⟩ := nI_ex (x := a3) (by have := Decidable.not_not.mp hd0; omega)
    exact ⟨q, by have := Decidable.not_not.mp hd0; omega, q2⟩
  have hos : 0 ≤ (nI o).toInt ∧ (nI o).toInt < 6 := by rw [nI_toInt (by omega)]; omega
  have hso := hs o ho
  unfold CPs1 at hso
  rcases hsj with ⟨e1, e2⟩ | ⟨e1, e2, e3, e4⟩ | ⟨s, n, e1, e2, e3, e4, e5, e6, e7, e8⟩
  · refine ⟨-11, x, y, ?_, fun {z post} h => ?_, fun {z post} h => ?_⟩
    · exact INV_step hI
    · refine PW.deeper (k := (2, 0, 0, z)) (Nat.le_of_ble_eq_true rfl) (Nat.le_refl _) (Nat.le_refl _) ?_
      refine PW_aload_n c_G_shift_0 rfl ?_
      refine PW_iload_n c_G_shift_1 rfl ?_
      refine PW_V0 (d2 := 0) (st := []) [.int (nI j)] c_G_shift_2 lk_G_shift_102 (po_5 _ _) rfl rfl rfl (Nat.le_of_ble_eq_true rfl) (by first | decide | omega) (Nat.le_of_ble_eq_true rfl) ?_
      refine sp_shelf hj ?_
      show PW _ _ _ 5 [some (.ref 5), some (.int (nI j)), some (.int a2), some (.int (nI o)), some (.int a4), some (.int a5), none, none] [.ref (58 + 2 * j)] (E x y)
      refine PW_astore (i := 6) (L2 := [some (.ref 5), some (.int (nI j)), some (.int a2), some (.int (nI o)), some (.int a4), some (.int a5), some (.ref (58 + 2 * j)), none]) c_G_shift_5 (Nat.le_of_ble_eq_true rfl) rfl rfl ?_
      refine PW_aload_n c_G_shift_7 rfl ?_
      refine PW_iload_n c_G_shift_8 rfl ?_
      refine PW_V0 (d2 := 0) (st := []) [.int (nI o)] c_G_shift_9 lk_G_shift_102 (po_5 _ _) rfl rfl rfl (Nat.le_of_ble_eq_true rfl) (by first | decide | omega) (Nat.le_of_ble_eq_true rfl) ?_
      refine sp_shelf ho ?_
      show PW _ _ _ 12 [some (.ref 5), some (.int (nI j)), some (.int a2), some (.int (nI o)), some (.int a4), some (.int a5), some (.ref (58 + 2 * j)), none] [.ref (58 + 2 * o)] (E x y)
      refine PW_astore (i := 7) (L2 := [some (.ref 5), some (.int (nI j)), some (.int a2), some (.int (nI o)), some (.int a4), some (.int a5), some (.ref (58 + 2 * j)), some (.ref (58 + 2 * o))]) c_G_shift_12 (Nat.le_of_ble_eq_true rfl) rfl rfl ?_
      refine PW_aload c_G_shift_14 rfl ?_
      refine PW_ifnull c_G_shift_16 ?_
      refine PW_aload c_G_shift_19 rfl ?_
      refine PW_ifnonnull c_G_shift_21 ?_
      refine PW_aload c_G_shift_26 rfl ?_
      refine PW_V0 (d2 := 0) (st := []) [] c_G_shift_28 lk_G_shift_339 (sh_po _ _ hj) rfl rfl rfl (Nat.le_of_ble_eq_true rfl) (by first | decide | omega) (Nat.le_of_ble_eq_true rfl) ?_
      refine sp_F_isEmpty hj  ?_
      show PW _ _ _ 31 [some (.ref 5), some (.int (nI j)), some (.int a2), some (.int (nI o)), some (.int a4), some (.int a5), some (.ref (58 + 2 * j)), some (.ref (58 + 2 * o))] [.int (b2i (x.1 ((58 + 2 * j) * 8 + 1) = 0))] (E x y)
      refine PW_if_ne c_G_shift_31 (fun _ => ?_) (fun h0 => absurd e2 (b2i_0.mp h0))
      refine PW_bipush (v := -11) c_G_shift_42 (by decide) ?_
      refine PW_ireturn (ty := .int) c_G_shift_44 rfl rfl ?_
      exact h
    · refine PW.deeper (k := (2, 0, 0, z)) (Nat.le_of_ble_eq_true rfl) (Nat.le_refl _) (Nat.le_refl _) ?_
      refine PW_iload_n c_M_shift_0 rfl ?_
      refine PW_S0 (d2 := 1) (st := []) [.int (nI j)] c_M_shift_1 lk_M_shift_143 rfl rfl rfl (Nat.le_of_ble_eq_true rfl) (by first | decide | omega) (Nat.le_of_ble_eq_true rfl) ?_
      refine sp_M_isShelf2  ?_
      show PW _ _ _ 4 [some (.ref 70), some (.int (nI j)), some (.int a2), some (.int (nI o)), some (.int a4), some (.int a5), none] [.int (b2i (0 ≤ (nI j).toInt ∧ (nI j).toInt < 6))] (E x y)
      refine PW_if_eq c_M_shift_4 (fun h0 => absurd hjs (b2i_0.mp h0)) (fun _ => ?_)
      refine PW_iload_n c_M_shift_7 rfl ?_
      refine PW_S0 (d2 := 1) (st := []) [.int (nI o)] c_M_shift_8 lk_M_shift_143 rfl rfl rfl (Nat.le_of_ble_eq_true rfl) (by first | decide | omega) (Nat.le_of_ble_eq_true rfl) ?_
      refine sp_M_isShelf2  ?_
      show PW _ _ _ 11 [some (.ref 70), some (.int (nI j)), some (.int a2), some (.int (nI o)), some (.int a4), some (.int a5), none] [.int (b2i (0 ≤ (nI o).toInt ∧ (nI o).toInt < 6))] (E x y)
      refine PW_if_ne c_M_shift_11 (fun _ => ?_) (fun h1 => absurd hos (b2i_0.mp h1))
      refine PW_aload_n c_M_shift_16 rfl ?_
      refine PW_get (v := .ref 104) c_M_shift_17 fl_M_111 (gf_70_53 _ _) ?_
      refine PW_iload_n c_M_shift_20 rfl ?_
      refine PW_iald (j := j) c_M_shift_21 (ar_104 _ _) (vp_in_nI hj (by decide)) (nI_clamp (by omega)) ?_
      show PW _ _ _ 22 [some (.ref 70), some (.int (nI j)), some (.int a2), some (.int (nI o)), some (.int a4), some (.int a5), none] [.int ((y.2.1 104) j)] (E x y)
      refine PW_iconst (v := -1) c_M_shift_22 (by decide) ?_
      refine PW_icmp_eq c_M_shift_23 (fun h2 => ?_) (fun h2 => absurd e1 h2)
      refine PW_bipush (v := -11) c_M_shift_36 (by decide) ?_
      refine PW_ireturn (ty := .int) c_M_shift_38 rfl rfl ?_
      exact h
  · rcases hso with ⟨f1, f2⟩ | ⟨f1, f2, f3, f4⟩ | ⟨u, w, f1, f2, f3, f4, f5, f6, f7, f8⟩
    · refine ⟨-11, x, y, ?_, fun {z post} h => ?_, fun {z post} h => ?_⟩
      · exact INV_step hI
      · refine PW.deeper (k := (2, 0, 0, z)) (Nat.le_of_ble_eq_true rfl) (Nat.le_refl _) (Nat.le_refl _) ?_
        refine PW_aload_n c_G_shift_0 rfl ?_
        refine PW_iload_n c_G_shift_1 rfl ?_
        refine PW_V0 (d2 := 0) (st := []) [.int (nI j)] c_G_shift_2 lk_G_shift_102 (po_5 _ _) rfl rfl rfl (Nat.le_of_ble_eq_true rfl) (by first | decide | omega) (Nat.le_of_ble_eq_true rfl) ?_
        refine sp_shelf hj ?_
        show PW _ _ _ 5 [some (.ref 5), some (.int (nI j)), some (.int a2), some (.int (nI o)), some (.int a4), some (.int a5), none, none] [.ref (58 + 2 * j)] (E x y)
        refine PW_astore (i := 6) (L2 := [some (.ref 5), some (.int (nI j)), some (.int a2), some (.int (nI o)), some (.int a4), some (.int a5), some (.ref (58 + 2 * j)), none]) c_G_shift_5 (Nat.le_of_ble_eq_true rfl) rfl rfl ?_
        refine PW_aload_n c_G_shift_7 rfl ?_
        refine PW_iload_n c_G_shift_8 rfl ?_
        refine PW_V0 (d2 := 0) (st := []) [.int (nI o)] c_G_shift_9 lk_G_shift_102 (po_5 _ _) rfl rfl rfl (Nat.le_of_ble_eq_true rfl) (by first | decide | omega) (Nat.le_of_ble_eq_true rfl) ?_
        refine sp_shelf ho ?_
        show PW _ _ _ 12 [some (.ref 5), some (.int (nI j)), some (.int a2), some (.int (nI o)), some (.int a4), some (.int a5), some (.ref (58 + 2 * j)), none] [.ref (58 + 2 * o)] (E x y)
        refine PW_astore (i := 7) (L2 := [some (.ref 5), some (.int (nI j)), some (.int a2), some (.int (nI o)), some (.int a4), some (.int a5), some (.ref (58 + 2 * j)), some (.ref (58 + 2 * o))]) c_G_shift_12 (Nat.le_of_ble_eq_true rfl) rfl rfl ?_
        refine PW_aload c_G_shift_14 rfl ?_
        refine PW_ifnull c_G_shift_16 ?_
        refine PW_aload c_G_shift_19 rfl ?_
        refine PW_ifnonnull c_G_shift_21 ?_
        refine PW_aload c_G_shift_26 rfl ?_
        refine PW_V0 (d2 := 0) (st := []) [] c_G_shift_28 lk_G_shift_339 (sh_po _ _ hj) rfl rfl rfl (Nat.le_of_ble_eq_true rfl) (by first | decide | omega) (Nat.le_of_ble_eq_true rfl) ?_
        refine sp_F_isEmpty hj  ?_
        show PW _ _ _ 31 [some (.ref 5), some (.int (nI j)), some (.int a2), some (.int (nI o)), some (.int a4), some (.int a5), some (.ref (58 + 2 * j)), some (.ref (58 + 2 * o))] [.int (b2i (x.1 ((58 + 2 * j) * 8 + 1) = 0))] (E x y)
        refine PW_if_ne c_G_shift_31 (fun h0 => absurd (b2i_n0.mp h0) (by rw [e3]; decide)) (fun _ => ?_)
        refine PW_aload c_G_shift_34 rfl ?_
        refine PW_V0 (d2 := 0) (st := []) [] c_G_shift_36 lk_G_shift_339 (sh_po _ _ ho) rfl rfl rfl (Nat.le_of_ble_eq_true rfl) (by first | decide | omega) (Nat.le_of_ble_eq_true rfl) ?_
        refine sp_F_isEmpty ho  ?_
        show PW _ _ _ 39 [some (.ref 5), some (.int (nI j)), some (.int a2), some (.int (nI o)), some (.int a4), some (.int a5), some (.ref (58 + 2 * j)), some (.ref (58 + 2 * o))] [.int (b2i (x.1 ((58 + 2 * o) * 8 + 1) = 0))] (E x y)
        refine PW_if_eq c_G_shift_39 (fun h1 => absurd f2 (b2i_0.mp h1)) (fun _ => ?_)
        refine PW_bipush (v := -11) c_G_shift_42 (by decide) ?_
        refine PW_ireturn (ty := .int) c_G_shift_44 rfl rfl ?_
        exact h
      · refine PW.deeper (k := (2, 0, 0, z)) (Nat.le_of_ble_eq_true rfl) (Nat.le_refl _) (Nat.le_refl _) ?_
        refine PW_iload_n c_M_shift_0 rfl ?_
        refine PW_S0 (d2 := 1) (st := []) [.int (nI j)] c_M_shift_1 lk_M_shift_143 rfl rfl rfl (Nat.le_of_ble_eq_true rfl) (by first | decide | omega) (Nat.le_of_ble_eq_true rfl) ?_
        refine sp_M_isShelf2  ?_
        show PW _ _ _ 4 [some (.ref 70), some (.int (nI j)), some (.int a2), some (.int (nI o)), some (.int a4), some (.int a5), none] [.int (b2i (0 ≤ (nI j).toInt ∧ (nI j).toInt < 6))] (E x y)
        refine PW_if_eq c_M_shift_4 (fun h0 => absurd hjs (b2i_0.mp h0)) (fun _ => ?_)
        refine PW_iload_n c_M_shift_7 rfl ?_
        refine PW_S0 (d2 := 1) (st := []) [.int (nI o)] c_M_shift_8 lk_M_shift_143 rfl rfl rfl (Nat.le_of_ble_eq_true rfl) (by first | decide | omega) (Nat.le_of_ble_eq_true rfl) ?_
        refine sp_M_isShelf2  ?_
        show PW _ _ _ 11 [some (.ref 70), some (.int (nI j)), some (.int a2), some (.int (nI o)), some (.int a4), some (.int a5), none] [.int (b2i (0 ≤ (nI o).toInt ∧ (nI o).toInt < 6))] (E x y)
        refine PW_if_ne c_M_shift_11 (fun _ => ?_) (fun h1 => absurd hos (b2i_0.mp h1))
        refine PW_aload_n c_M_shift_16 rfl ?_
        refine PW_get (v := .ref 104) c_M_shift_17 fl_M_111 (gf_70_53 _ _) ?_
        refine PW_iload_n c_M_shift_20 rfl ?_
        refine PW_iald (j := j) c_M_shift_21 (ar_104 _ _) (vp_in_nI hj (by decide)) (nI_clamp (by omega)) ?_
        show PW _ _ _ 22 [some (.ref 70), some (.int (nI j)), some (.int a2), some (.int (nI o)), some (.int a4), some (.int a5), none] [.int ((y.2.1 104) j)] (E x y)
        refine PW_iconst (v := -1) c_M_shift_22 (by decide) ?_
        refine PW_icmp_eq c_M_shift_23 (fun h2 => absurd h2 (ho_b e1)) (fun h2 => ?_)
        refine PW_aload_n c_M_shift_26 rfl ?_
        refine PW_get (v := .ref 104) c_M_shift_27 fl_M_111 (gf_70_53 _ _) ?_
        refine PW_iload_n c_M_shift_30 rfl ?_
        refine PW_iald (j := o) c_M_shift_31 (ar_104 _ _) (vp_in_nI ho (by decide)) (nI_clamp (by omega)) ?_
        show PW _ _ _ 32 [some (.ref 70), some (.int (nI j)), some (.int a2), some (.int (nI o)), some (.int a4), some (.int a5), none] [.int ((y.2.1 104) o)] (E x y)
        refine PW_iconst (v := -1) c_M_shift_32 (by decide) ?_
        refine PW_icmp_ne c_M_shift_33 (fun h3 => absurd h3 (not_not_intro f1)) (fun h3 => ?_)
        refine PW_bipush (v := -11) c_M_shift_36 (by decide) ?_
        refine PW_ireturn (ty := .int) c_M_shift_38 rfl rfl ?_
        exact h
    · refine ⟨-12, x, y, ?_, fun {z post} h => ?_, fun {z post} h => ?_⟩
      · exact INV_step hI
      · refine PW.deeper (k := (2, 0, 0, z)) (Nat.le_of_ble_eq_true rfl) (Nat.le_refl _) (Nat.le_refl _) ?_
        refine PW_aload_n c_G_shift_0 rfl ?_
        refine PW_iload_n c_G_shift_1 rfl ?_
        refine PW_V0 (d2 := 0) (st := []) [.int (nI j)] c_G_shift_2 lk_G_shift_102 (po_5 _ _) rfl rfl rfl (Nat.le_of_ble_eq_true rfl) (by first | decide | omega) (Nat.le_of_ble_eq_true rfl) ?_
        refine sp_shelf hj ?_
        show PW _ _ _ 5 [some (.ref 5), some (.int (nI j)), some (.int a2), some (.int (nI o)), some (.int a4), some (.int a5), none, none] [.ref (58 + 2 * j)] (E x y)
        refine PW_astore (i := 6) (L2 := [some (.ref 5), some (.int (nI j)), some (.int a2), some (.int (nI o)), some (.int a4), some (.int a5), some (.ref (58 + 2 * j)), none]) c_G_shift_5 (Nat.le_of_ble_eq_true rfl) rfl rfl ?_
        refine PW_aload_n c_G_shift_7 rfl ?_
        refine PW_iload_n c_G_shift_8 rfl ?_
        refine PW_V0 (d2 := 0) (st := []) [.int (nI o)] c_G_shift_9 lk_G_shift_102 (po_5 _ _) rfl rfl rfl (Nat.le_of_ble_eq_true rfl) (by first | decide | omega) (Nat.le_of_ble_eq_true rfl) ?_
        refine sp_shelf ho ?_
        show PW _ _ _ 12 [some (.ref 5), some (.int (nI j)), some (.int a2), some (.int (nI o)), some (.int a4), some (.int a5), some (.ref (58 + 2 * j)), none] [.ref (58 + 2 * o)] (E x y)
        refine PW_astore (i := 7) (L2 := [some (.ref 5), some (.int (nI j)), some (.int a2), some (.int (nI o)), some (.int a4), some (.int a5), some (.ref (58 + 2 * j)), some (.ref (58 + 2 * o))]) c_G_shift_12 (Nat.le_of_ble_eq_true rfl) rfl rfl ?_
        refine PW_aload c_G_shift_14 rfl ?_
        refine PW_ifnull c_G_shift_16 ?_
        refine PW_aload c_G_shift_19 rfl ?_
        refine PW_ifnonnull c_G_shift_21 ?_
        refine PW_aload c_G_shift_26 rfl ?_
        refine PW_V0 (d2 := 0) (st := []) [] c_G_shift_28 lk_G_shift_339 (sh_po _ _ hj) rfl rfl rfl (Nat.le_of_ble_eq_true rfl) (by first | decide | omega) (Nat.le_of_ble_eq_true rfl) ?_
        refine sp_F_isEmpty hj  ?_
        show PW _ _ _ 31 [some (.ref 5), some (.int (nI j)), some (.int a2), some (.int (nI o)), some (.int a4), some (.int a5), some (.ref (58 + 2 * j)), some (.ref (58 + 2 * o))] [.int (b2i (x.1 ((58 + 2 * j) * 8 + 1) = 0))] (E x y)
        refine PW_if_ne c_G_shift_31 (fun h0 => absurd (b2i_n0.mp h0) (by rw [e3]; decide)) (fun _ => ?_)
        refine PW_aload c_G_shift_34 rfl ?_
        refine PW_V0 (d2 := 0) (st := []) [] c_G_shift_36 lk_G_shift_339 (sh_po _ _ ho) rfl rfl rfl (Nat.le_of_ble_eq_true rfl) (by first | decide | omega) (Nat.le_of_ble_eq_true rfl) ?_
        refine sp_F_isEmpty ho  ?_
        show PW _ _ _ 39 [some (.ref 5), some (.int (nI j)), some (.int a2), some (.int (nI o)), some (.int a4), some (.int a5), some (.ref (58 + 2 * j)), some (.ref (58 + 2 * o))] [.int (b2i (x.1 ((58 + 2 * o) * 8 + 1) = 0))] (E x y)
        refine PW_if_eq c_G_shift_39 (fun _ => ?_) (fun h1 => absurd (b2i_n0.mp h1) (by rw [f3]; decide))
        refine PW_aload c_G_shift_45 rfl ?_
        refine PW_V0 (d2 := 0) (st := []) [] c_G_shift_47 lk_G_shift_342 (sh_po _ _ hj) rfl rfl rfl (Nat.le_of_ble_eq_true rfl) (by first | decide | omega) (Nat.le_of_ble_eq_true rfl) ?_
        refine sp_F_holdsRow hj  ?_
        show PW _ _ _ 50 [some (.ref 5), some (.int (nI j)), some (.int a2), some (.int (nI o)), some (.int a4), some (.int a5), some (.ref (58 + 2 * j)), some (.ref (58 + 2 * o))] [.int (b2i (x.1 ((58 + 2 * j) * 8 + 1) = 2))] (E x y)
        refine PW_if_eq c_G_shift_50 (fun _ => ?_) (fun h2 => absurd (b2i_n0.mp h2) (by rw [e3]; decide))
        refine PW_bipush (v := -12) c_G_shift_74 (by decide) ?_
        refine PW_ireturn (ty := .int) c_G_shift_76 rfl rfl ?_
        exact h
      · refine PW.deeper (k := (2, 0, 0, z)) (Nat.le_of_ble_eq_true rfl) (Nat.le_refl _) (Nat.le_refl _) ?_
        refine PW_iload_n c_M_shift_0 rfl ?_
        refine PW_S0 (d2 := 1) (st := []) [.int (nI j)] c_M_shift_1 lk_M_shift_143 rfl rfl rfl (Nat.le_of_ble_eq_true rfl) (by first | decide | omega) (Nat.le_of_ble_eq_true rfl) ?_
        refine sp_M_isShelf2  ?_
        show PW _ _ _ 4 [some (.ref 70), some (.int (nI j)), some (.int a2), some (.int (nI o)), some (.int a4), some (.int a5), none] [.int (b2i (0 ≤ (nI j).toInt ∧ (nI j).toInt < 6))] (E x y)
        refine PW_if_eq c_M_shift_4 (fun h0 => absurd hjs (b2i_0.mp h0)) (fun _ => ?_)
        refine PW_iload_n c_M_shift_7 rfl ?_
        refine PW_S0 (d2 := 1) (st := []) [.int (nI o)] c_M_shift_8 lk_M_shift_143 rfl rfl rfl (Nat.le_of_ble_eq_true rfl) (by first | decide | omega) (Nat.le_of_ble_eq_true rfl) ?_
        refine sp_M_isShelf2  ?_
        show PW _ _ _ 11 [some (.ref 70), some (.int (nI j)), some (.int a2), some (.int (nI o)), some (.int a4), some (.int a5), none] [.int (b2i (0 ≤ (nI o).toInt ∧ (nI o).toInt < 6))] (E x y)
        refine PW_if_ne c_M_shift_11 (fun _ => ?_) (fun h1 => absurd hos (b2i_0.mp h1))
        refine PW_aload_n c_M_shift_16 rfl ?_
        refine PW_get (v := .ref 104) c_M_shift_17 fl_M_111 (gf_70_53 _ _) ?_
        refine PW_iload_n c_M_shift_20 rfl ?_
        refine PW_iald (j := j) c_M_shift_21 (ar_104 _ _) (vp_in_nI hj (by decide)) (nI_clamp (by omega)) ?_
        show PW _ _ _ 22 [some (.ref 70), some (.int (nI j)), some (.int a2), some (.int (nI o)), some (.int a4), some (.int a5), none] [.int ((y.2.1 104) j)] (E x y)
        refine PW_iconst (v := -1) c_M_shift_22 (by decide) ?_
        refine PW_icmp_eq c_M_shift_23 (fun h2 => absurd h2 (ho_b e1)) (fun h2 => ?_)
        refine PW_aload_n c_M_shift_26 rfl ?_
        refine PW_get (v := .ref 104) c_M_shift_27 fl_M_111 (gf_70_53 _ _) ?_
        refine PW_iload_n c_M_shift_30 rfl ?_
        refine PW_iald (j := o) c_M_shift_31 (ar_104 _ _) (vp_in_nI ho (by decide)) (nI_clamp (by omega)) ?_
        show PW _ _ _ 32 [some (.ref 70), some (.int (nI j)), some (.int a2), some (.int (nI o)), some (.int a4), some (.int a5), none] [.int ((y.2.1 104) o)] (E x y)
        refine PW_iconst (v := -1) c_M_shift_32 (by decide) ?_
        refine PW_icmp_ne c_M_shift_33 (fun h3 => ?_) (fun h3 => absurd h3 (ho_b f1))
        refine PW_aload_n c_M_shift_39 rfl ?_
        refine PW_get (v := .ref 104) c_M_shift_40 fl_M_111 (gf_70_53 _ _) ?_
        refine PW_iload_n c_M_shift_43 rfl ?_
        refine PW_iald (j := j) c_M_shift_44 (ar_104 _ _) (vp_in_nI hj (by decide)) (nI_clamp (by omega)) ?_
        show PW _ _ _ 45 [some (.ref 70), some (.int (nI j)), some (.int a2), some (.int (nI o)), some (.int a4), some (.int a5), none] [.int ((y.2.1 104) j)] (E x y)
        refine PW_if_ge c_M_shift_45 (fun h4 => ?_) (fun h4 => absurd (Int32.not_lt.mp (ho_b0 e1)) h4)
        refine PW_bipush (v := -12) c_M_shift_63 (by decide) ?_
        refine PW_ireturn (ty := .int) c_M_shift_65 rfl rfl ?_
        exact h
    · refine ⟨-12, x, y, ?_, fun {z post} h => ?_, fun {z post} h => ?_⟩
      · exact INV_step hI
      · refine PW.deeper (k := (2, 0, 0, z)) (Nat.le_of_ble_eq_true rfl) (Nat.le_refl _) (Nat.le_refl _) ?_
        refine PW_aload_n c_G_shift_0 rfl ?_
        refine PW_iload_n c_G_shift_1 rfl ?_
        refine PW_V0 (d2 := 0) (st := []) [.int (nI j)] c_G_shift_2 lk_G_shift_102 (po_5 _ _) rfl rfl rfl (Nat.le_of_ble_eq_true rfl) (by first | decide | omega) (Nat.le_of_ble_eq_true rfl) ?_
        refine sp_shelf hj ?_
        show PW _ _ _ 5 [some (.ref 5), some (.int (nI j)), some (.int a2), some (.int (nI o)), some (.int a4), some (.int a5), none, none] [.ref (58 + 2 * j)] (E x y)
        refine PW_astore (i := 6) (L2 := [some (.ref 5), some (.int (nI j)), some (.int a2), some (.int (nI o)), some (.int a4), some (.int a5), some (.ref (58 + 2 * j)), none]) c_G_shift_5 (Nat.le_of_ble_eq_true rfl) rfl rfl ?_
        refine PW_aload_n c_G_shift_7 rfl ?_
        refine PW_iload_n c_G_shift_8 rfl ?_
        refine PW_V0 (d2 := 0) (st := []) [.int (nI o)] c_G_shift_9 lk_G_shift_102 (po_5 _ _) rfl rfl rfl (Nat.le_of_ble_eq_true rfl) (by first | decide | omega) (Nat.le_of_ble_eq_true rfl) ?_
        refine sp_shelf ho ?_
        show PW _ _ _ 12 [some (.ref 5), some (.int (nI j)), some (.int a2), some (.int (nI o)), some (.int a4), some (.int a5), some (.ref (58 + 2 * j)), none] [.ref (58 + 2 * o)] (E x y)
        refine PW_astore (i := 7) (L2 := [some (.ref 5), some (.int (nI j)), some (.int a2), some (.int (nI o)), some (.int a4), some (.int a5), some (.ref (58 + 2 * j)), some (.ref (58 + 2 * o))]) c_G_shift_12 (Nat.le_of_ble_eq_true rfl) rfl rfl ?_
        refine PW_aload c_G_shift_14 rfl ?_
        refine PW_ifnull c_G_shift_16 ?_
        refine PW_aload c_G_shift_19 rfl ?_
        refine PW_ifnonnull c_G_shift_21 ?_
        refine PW_aload c_G_shift_26 rfl ?_
        refine PW_V0 (d2 := 0) (st := []) [] c_G_shift_28 lk_G_shift_339 (sh_po _ _ hj) rfl rfl rfl (Nat.le_of_ble_eq_true rfl) (by first | decide | omega) (Nat.le_of_ble_eq_true rfl) ?_
        refine sp_F_isEmpty hj  ?_
        show PW _ _ _ 31 [some (.ref 5), some (.int (nI j)), some (.int a2), some (.int (nI o)), some (.int a4), some (.int a5), some (.ref (58 + 2 * j)), some (.ref (58 + 2 * o))] [.int (b2i (x.1 ((58 + 2 * j) * 8 + 1) = 0))] (E x y)
        refine PW_if_ne c_G_shift_31 (fun h0 => absurd (b2i_n0.mp h0) (by rw [e3]; decide)) (fun _ => ?_)
        refine PW_aload c_G_shift_34 rfl ?_
        refine PW_V0 (d2 := 0) (st := []) [] c_G_shift_36 lk_G_shift_339 (sh_po _ _ ho) rfl rfl rfl (Nat.le_of_ble_eq_true rfl) (by first | decide | omega) (Nat.le_of_ble_eq_true rfl) ?_
        refine sp_F_isEmpty ho  ?_
        show PW _ _ _ 39 [some (.ref 5), some (.int (nI j)), some (.int a2), some (.int (nI o)), some (.int a4), some (.int a5), some (.ref (58 + 2 * j)), some (.ref (58 + 2 * o))] [.int (b2i (x.1 ((58 + 2 * o) * 8 + 1) = 0))] (E x y)
        refine PW_if_eq c_G_shift_39 (fun _ => ?_) (fun h1 => absurd (b2i_n0.mp h1) (by rw [f4]; decide))
        refine PW_aload c_G_shift_45 rfl ?_
        refine PW_V0 (d2 := 0) (st := []) [] c_G_shift_47 lk_G_shift_342 (sh_po _ _ hj) rfl rfl rfl (Nat.le_of_ble_eq_true rfl) (by first | decide | omega) (Nat.le_of_ble_eq_true rfl) ?_
        refine sp_F_holdsRow hj  ?_
        show PW _ _ _ 50 [some (.ref 5), some (.int (nI j)), some (.int a2), some (.int (nI o)), some (.int a4), some (.int a5), some (.ref (58 + 2 * j)), some (.ref (58 + 2 * o))] [.int (b2i (x.1 ((58 + 2 * j) * 8 + 1) = 2))] (E x y)
        refine PW_if_eq c_G_shift_50 (fun _ => ?_) (fun h2 => absurd (b2i_n0.mp h2) (by rw [e3]; decide))
        refine PW_bipush (v := -12) c_G_shift_74 (by decide) ?_
        refine PW_ireturn (ty := .int) c_G_shift_76 rfl rfl ?_
        exact h
      · refine PW.deeper (k := (2, 0, 0, z)) (Nat.le_of_ble_eq_true rfl) (Nat.le_refl _) (Nat.le_refl _) ?_
        refine PW_iload_n c_M_shift_0 rfl ?_
        refine PW_S0 (d2 := 1) (st := []) [.int (nI j)] c_M_shift_1 lk_M_shift_143 rfl rfl rfl (Nat.le_of_ble_eq_true rfl) (by first | decide | omega) (Nat.le_of_ble_eq_true rfl) ?_
        refine sp_M_isShelf2  ?_
        show PW _ _ _ 4 [some (.ref 70), some (.int (nI j)), some (.int a2), some (.int (nI o)), some (.int a4), some (.int a5), none] [.int (b2i (0 ≤ (nI j).toInt ∧ (nI j).toInt < 6))] (E x y)
        refine PW_if_eq c_M_shift_4 (fun h0 => absurd hjs (b2i_0.mp h0)) (fun _ => ?_)
        refine PW_iload_n c_M_shift_7 rfl ?_
        refine PW_S0 (d2 := 1) (st := []) [.int (nI o)] c_M_shift_8 lk_M_shift_143 rfl rfl rfl (Nat.le_of_ble_eq_true rfl) (by first | decide | omega) (Nat.le_of_ble_eq_true rfl) ?_
        refine sp_M_isShelf2  ?_
        show PW _ _ _ 11 [some (.ref 70), some (.int (nI j)), some (.int a2), some (.int (nI o)), some (.int a4), some (.int a5), none] [.int (b2i (0 ≤ (nI o).toInt ∧ (nI o).toInt < 6))] (E x y)
        refine PW_if_ne c_M_shift_11 (fun _ => ?_) (fun h1 => absurd hos (b2i_0.mp h1))
        refine PW_aload_n c_M_shift_16 rfl ?_
        refine PW_get (v := .ref 104) c_M_shift_17 fl_M_111 (gf_70_53 _ _) ?_
        refine PW_iload_n c_M_shift_20 rfl ?_
        refine PW_iald (j := j) c_M_shift_21 (ar_104 _ _) (vp_in_nI hj (by decide)) (nI_clamp (by omega)) ?_
        show PW _ _ _ 22 [some (.ref 70), some (.int (nI j)), some (.int a2), some (.int (nI o)), some (.int a4), some (.int a5), none] [.int ((y.2.1 104) j)] (E x y)
        refine PW_iconst (v := -1) c_M_shift_22 (by decide) ?_
        refine PW_icmp_eq c_M_shift_23 (fun h2 => absurd h2 (ho_b e1)) (fun h2 => ?_)
        refine PW_aload_n c_M_shift_26 rfl ?_
        refine PW_get (v := .ref 104) c_M_shift_27 fl_M_111 (gf_70_53 _ _) ?_
        refine PW_iload_n c_M_shift_30 rfl ?_
        refine PW_iald (j := o) c_M_shift_31 (ar_104 _ _) (vp_in_nI ho (by decide)) (nI_clamp (by omega)) ?_
        show PW _ _ _ 32 [some (.ref 70), some (.int (nI j)), some (.int a2), some (.int (nI o)), some (.int a4), some (.int a5), none] [.int ((y.2.1 104) o)] (E x y)
        refine PW_iconst (v := -1) c_M_shift_32 (by decide) ?_
        refine PW_icmp_ne c_M_shift_33 (fun h3 => ?_) (fun h3 => absurd h3 (by rw [f3]; exact ho_n1 f1))
        refine PW_aload_n c_M_shift_39 rfl ?_
        refine PW_get (v := .ref 104) c_M_shift_40 fl_M_111 (gf_70_53 _ _) ?_
        refine PW_iload_n c_M_shift_43 rfl ?_
        refine PW_iald (j := j) c_M_shift_44 (ar_104 _ _) (vp_in_nI hj (by decide)) (nI_clamp (by omega)) ?_
        show PW _ _ _ 45 [some (.ref 70), some (.int (nI j)), some (.int a2), some (.int (nI o)), some (.int a4), some (.int a5), none] [.int ((y.2.1 104) j)] (E x y)
        refine PW_if_ge c_M_shift_45 (fun h4 => ?_) (fun h4 => absurd (Int32.not_lt.mp (ho_b0 e1)) h4)
        refine PW_bipush (v := -12) c_M_shift_63 (by decide) ?_
        refine PW_ireturn (ty := .int) c_M_shift_65 rfl rfl ?_
        exact h
  · rcases hso with ⟨f1, f2⟩ | ⟨f1, f2, f3, f4⟩ | ⟨u, w, f1, f2, f3, f4, f5, f6, f7, f8⟩
    · refine ⟨-11, x, y, ?_, fun {z post} h => ?_, fun {z post} h => ?_⟩
      · exact INV_step hI
      · refine PW.deeper (k := (2, 0, 0, z)) (Nat.le_of_ble_eq_true rfl) (Nat.le_refl _) (Nat.le_refl _) ?_
        refine PW_aload_n c_G_shift_0 rfl ?_
        refine PW_iload_n c_G_shift_1 rfl ?_
        refine PW_V0 (d2 := 0) (st := []) [.int (nI j)] c_G_shift_2 lk_G_shift_102 (po_5 _ _) rfl rfl rfl (Nat.le_of_ble_eq_true rfl) (by first | decide | omega) (Nat.le_of_ble_eq_true rfl) ?_
        refine sp_shelf hj ?_
        show PW _ _ _ 5 [some (.ref 5), some (.int (nI j)), some (.int a2), some (.int (nI o)), some (.int a4), some (.int a5), none, none] [.ref (58 + 2 * j)] (E x y)
        refine PW_astore (i := 6) (L2 := [some (.ref 5), some (.int (nI j)), some (.int a2), some (.int (nI o)), some (.int a4), some (.int a5), some (.ref (58 + 2 * j)), none]) c_G_shift_5 (Nat.le_of_ble_eq_true rfl) rfl rfl ?_
        refine PW_aload_n c_G_shift_7 rfl ?_
        refine PW_iload_n c_G_shift_8 rfl ?_
        refine PW_V0 (d2 := 0) (st := []) [.int (nI o)] c_G_shift_9 lk_G_shift_102 (po_5 _ _) rfl rfl rfl (Nat.le_of_ble_eq_true rfl) (by first | decide | omega) (Nat.le_of_ble_eq_true rfl) ?_
        refine sp_shelf ho ?_
        show PW _ _ _ 12 [some (.ref 5), some (.int (nI j)), some (.int a2), some (.int (nI o)), some (.int a4), some (.int a5), some (.ref (58 + 2 * j)), none] [.ref (58 + 2 * o)] (E x y)
        refine PW_astore (i := 7) (L2 := [some (.ref 5), some (.int (nI j)), some (.int a2), some (.int (nI o)), some (.int a4), some (.int a5), some (.ref (58 + 2 * j)), some (.ref (58 + 2 * o))]) c_G_shift_12 (Nat.le_of_ble_eq_true rfl) rfl rfl ?_
        refine PW_aload c_G_shift_14 rfl ?_
        refine PW_ifnull c_G_shift_16 ?_
        refine PW_aload c_G_shift_19 rfl ?_
        refine PW_ifnonnull c_G_shift_21 ?_
        refine PW_aload c_G_shift_26 rfl ?_
        refine PW_V0 (d2 := 0) (st := []) [] c_G_shift_28 lk_G_shift_339 (sh_po _ _ hj) rfl rfl rfl (Nat.le_of_ble_eq_true rfl) (by first | decide | omega) (Nat.le_of_ble_eq_true rfl) ?_
        refine sp_F_isEmpty hj  ?_
        show PW _ _ _ 31 [some (.ref 5), some (.int (nI j)), some (.int a2), some (.int (nI o)), some (.int a4), some (.int a5), some (.ref (58 + 2 * j)), some (.ref (58 + 2 * o))] [.int (b2i (x.1 ((58 + 2 * j) * 8 + 1) = 0))] (E x y)
        refine PW_if_ne c_G_shift_31 (fun h0 => absurd (b2i_n0.mp h0) (by rw [e4]; decide)) (fun _ => ?_)
        refine PW_aload c_G_shift_34 rfl ?_
        refine PW_V0 (d2 := 0) (st := []) [] c_G_shift_36 lk_G_shift_339 (sh_po _ _ ho) rfl rfl rfl (Nat.le_of_ble_eq_true rfl) (by first | decide | omega) (Nat.le_of_ble_eq_true rfl) ?_
        refine sp_F_isEmpty ho  ?_
        show PW _ _ _ 39 [some (.ref 5), some (.int (nI j)), some (.int a2), some (.int (nI o)), some (.int a4), some (.int a5), some (.ref (58 + 2 * j)), some (.ref (58 + 2 * o))] [.int (b2i (x.1 ((58 + 2 * o) * 8 + 1) = 0))] (E x y)
        refine PW_if_eq c_G_shift_39 (fun h1 => absurd f2 (b2i_0.mp h1)) (fun _ => ?_)
        refine PW_bipush (v := -11) c_G_shift_42 (by decide) ?_
        refine PW_ireturn (ty := .int) c_G_shift_44 rfl rfl ?_
        exact h
      · refine PW.deeper (k := (2, 0, 0, z)) (Nat.le_of_ble_eq_true rfl) (Nat.le_refl _) (Nat.le_refl _) ?_
        refine PW_iload_n c_M_shift_0 rfl ?_
        refine PW_S0 (d2 := 1) (st := []) [.int (nI j)] c_M_shift_1 lk_M_shift_143 rfl rfl rfl (Nat.le_of_ble_eq_true rfl) (by first | decide | omega) (Nat.le_of_ble_eq_true rfl) ?_
        refine sp_M_isShelf2  ?_
        show PW _ _ _ 4 [some (.ref 70), some (.int (nI j)), some (.int a2), some (.int (nI o)), some (.int a4), some (.int a5), none] [.int (b2i (0 ≤ (nI j).toInt ∧ (nI j).toInt < 6))] (E x y)
        refine PW_if_eq c_M_shift_4 (fun h0 => absurd hjs (b2i_0.mp h0)) (fun _ => ?_)
        refine PW_iload_n c_M_shift_7 rfl ?_
        refine PW_S0 (d2 := 1) (st := []) [.int (nI o)] c_M_shift_8 lk_M_shift_143 rfl rfl rfl (Nat.le_of_ble_eq_true rfl) (by first | decide | omega) (Nat.le_of_ble_eq_true rfl) ?_
        refine sp_M_isShelf2  ?_
        show PW _ _ _ 11 [some (.ref 70), some (.int (nI j)), some (.int a2), some (.int (nI o)), some (.int a4), some (.int a5), none] [.int (b2i (0 ≤ (nI o).toInt ∧ (nI o).toInt < 6))] (E x y)
        refine PW_if_ne c_M_shift_11 (fun _ => ?_) (fun h1 => absurd hos (b2i_0.mp h1))
        refine PW_aload_n c_M_shift_16 rfl ?_
        refine PW_get (v := .ref 104) c_M_shift_17 fl_M_111 (gf_70_53 _ _) ?_
        refine PW_iload_n c_M_shift_20 rfl ?_
        refine PW_iald (j := j) c_M_shift_21 (ar_104 _ _) (vp_in_nI hj (by decide)) (nI_clamp (by omega)) ?_
        show PW _ _ _ 22 [some (.ref 70), some (.int (nI j)), some (.int a2), some (.int (nI o)), some (.int a4), some (.int a5), none] [.int ((y.2.1 104) j)] (E x y)
        refine PW_iconst (v := -1) c_M_shift_22 (by decide) ?_
        refine PW_icmp_eq c_M_shift_23 (fun h2 => absurd h2 (by rw [e3]; exact ho_n1 e1)) (fun h2 => ?_)
        refine PW_aload_n c_M_shift_26 rfl ?_
        refine PW_get (v := .ref 104) c_M_shift_27 fl_M_111 (gf_70_53 _ _) ?_
        refine PW_iload_n c_M_shift_30 rfl ?_
        refine PW_iald (j := o) c_M_shift_31 (ar_104 _ _) (vp_in_nI ho (by decide)) (nI_clamp (by omega)) ?_
        show PW _ _ _ 32 [some (.ref 70), some (.int (nI j)), some (.int a2), some (.int (nI o)), some (.int a4), some (.int a5), none] [.int ((y.2.1 104) o)] (E x y)
        refine PW_iconst (v := -1) c_M_shift_32 (by decide) ?_
        refine PW_icmp_ne c_M_shift_33 (fun h3 => absurd h3 (not_not_intro f1)) (fun h3 => ?_)
        refine PW_bipush (v := -11) c_M_shift_36 (by decide) ?_
        refine PW_ireturn (ty := .int) c_M_shift_38 rfl rfl ?_
        exact h
    · refine ⟨-12, x, y, ?_, fun {z post} h => ?_, fun {z post} h => ?_⟩
      · exact INV_step hI
      · refine PW.deeper (k := (2, 0, 0, z)) (Nat.le_of_ble_eq_true rfl) (Nat.le_refl _) (Nat.le_refl _) ?_
        refine PW_aload_n c_G_shift_0 rfl ?_
        refine PW_iload_n c_G_shift_1 rfl ?_
        refine PW_V0 (d2 := 0) (st := []) [.int (nI j)] c_G_shift_2 lk_G_shift_102 (po_5 _ _) rfl rfl rfl (Nat.le_of_ble_eq_true rfl) (by first | decide | omega) (Nat.le_of_ble_eq_true rfl) ?_
        refine sp_shelf hj ?_
        show PW _ _ _ 5 [some (.ref 5), some (.int (nI j)), some (.int a2), some (.int (nI o)), some (.int a4), some (.int a5), none, none] [.ref (58 + 2 * j)] (E x y)
        refine PW_astore (i := 6) (L2 := [some (.ref 5), some (.int (nI j)), some (.int a2), some (.int (nI o)), some (.int a4), some (.int a5), some (.ref (58 + 2 * j)), none]) c_G_shift_5 (Nat.le_of_ble_eq_true rfl) rfl rfl ?_
        refine PW_aload_n c_G_shift_7 rfl ?_
        refine PW_iload_n c_G_shift_8 rfl ?_
        refine PW_V0 (d2 := 0) (st := []) [.int (nI o)] c_G_shift_9 lk_G_shift_102 (po_5 _ _) rfl rfl rfl (Nat.le_of_ble_eq_true rfl) (by first | decide | omega) (Nat.le_of_ble_eq_true rfl) ?_
        refine sp_shelf ho ?_
        show PW _ _ _ 12 [some (.ref 5), some (.int (nI j)), some (.int a2), some (.int (nI o)), some (.int a4), some (.int a5), some (.ref (58 + 2 * j)), none] [.ref (58 + 2 * o)] (E x y)
        refine PW_astore (i := 7) (L2 := [some (.ref 5), some (.int (nI j)), some (.int a2), some (.int (nI o)), some (.int a4), some (.int a5), some (.ref (58 + 2 * j)), some (.ref (58 + 2 * o))]) c_G_shift_12 (Nat.le_of_ble_eq_true rfl) rfl rfl ?_
        refine PW_aload c_G_shift_14 rfl ?_
        refine PW_ifnull c_G_shift_16 ?_
        refine PW_aload c_G_shift_19 rfl ?_
        refine PW_ifnonnull c_G_shift_21 ?_
        refine PW_aload c_G_shift_26 rfl ?_
        refine PW_V0 (d2 := 0) (st := []) [] c_G_shift_28 lk_G_shift_339 (sh_po _ _ hj) rfl rfl rfl (Nat.le_of_ble_eq_true rfl) (by first | decide | omega) (Nat.le_of_ble_eq_true rfl) ?_
        refine sp_F_isEmpty hj  ?_
        show PW _ _ _ 31 [some (.ref 5), some (.int (nI j)), some (.int a2), some (.int (nI o)), some (.int a4), some (.int a5), some (.ref (58 + 2 * j)), some (.ref (58 + 2 * o))] [.int (b2i (x.1 ((58 + 2 * j) * 8 + 1) = 0))] (E x y)
        refine PW_if_ne c_G_shift_31 (fun h0 => absurd (b2i_n0.mp h0) (by rw [e4]; decide)) (fun _ => ?_)
        refine PW_aload c_G_shift_34 rfl ?_
        refine PW_V0 (d2 := 0) (st := []) [] c_G_shift_36 lk_G_shift_339 (sh_po _ _ ho) rfl rfl rfl (Nat.le_of_ble_eq_true rfl) (by first | decide | omega) (Nat.le_of_ble_eq_true rfl) ?_
        refine sp_F_isEmpty ho  ?_
        show PW _ _ _ 39 [some (.ref 5), some (.int (nI j)), some (.int a2), some (.int (nI o)), some (.int a4), some (.int a5), some (.ref (58 + 2 * j)), some (.ref (58 + 2 * o))] [.int (b2i (x.1 ((58 + 2 * o) * 8 + 1) = 0))] (E x y)
        refine PW_if_eq c_G_shift_39 (fun _ => ?_) (fun h1 => absurd (b2i_n0.mp h1) (by rw [f3]; decide))
        refine PW_aload c_G_shift_45 rfl ?_
        refine PW_V0 (d2 := 0) (st := []) [] c_G_shift_47 lk_G_shift_342 (sh_po _ _ hj) rfl rfl rfl (Nat.le_of_ble_eq_true rfl) (by first | decide | omega) (Nat.le_of_ble_eq_true rfl) ?_
        refine sp_F_holdsRow hj  ?_
        show PW _ _ _ 50 [some (.ref 5), some (.int (nI j)), some (.int a2), some (.int (nI o)), some (.int a4), some (.int a5), some (.ref (58 + 2 * j)), some (.ref (58 + 2 * o))] [.int (b2i (x.1 ((58 + 2 * j) * 8 + 1) = 2))] (E x y)
        refine PW_if_eq c_G_shift_50 (fun h2 => absurd e4 (b2i_0.mp h2)) (fun _ => ?_)
        refine PW_aload c_G_shift_53 rfl ?_
        refine PW_V0 (d2 := 0) (st := []) [] c_G_shift_55 lk_G_shift_342 (sh_po _ _ ho) rfl rfl rfl (Nat.le_of_ble_eq_true rfl) (by first | decide | omega) (Nat.le_of_ble_eq_true rfl) ?_
        refine sp_F_holdsRow ho  ?_
        show PW _ _ _ 58 [some (.ref 5), some (.int (nI j)), some (.int a2), some (.int (nI o)), some (.int a4), some (.int a5), some (.ref (58 + 2 * j)), some (.ref (58 + 2 * o))] [.int (b2i (x.1 ((58 + 2 * o) * 8 + 1) = 2))] (E x y)
        refine PW_if_eq c_G_shift_58 (fun _ => ?_) (fun h3 => absurd (b2i_n0.mp h3) (by rw [f3]; decide))
        refine PW_bipush (v := -12) c_G_shift_74 (by decide) ?_
        refine PW_ireturn (ty := .int) c_G_shift_76 rfl rfl ?_
        exact h
      · refine PW.deeper (k := (2, 0, 0, z)) (Nat.le_of_ble_eq_true rfl) (Nat.le_refl _) (Nat.le_refl _) ?_
        refine PW_iload_n c_M_shift_0 rfl ?_
        refine PW_S0 (d2 := 1) (st := []) [.int (nI j)] c_M_shift_1 lk_M_shift_143 rfl rfl rfl (Nat.le_of_ble_eq_true rfl) (by first | decide | omega) (Nat.le_of_ble_eq_true rfl) ?_
        refine sp_M_isShelf2  ?_
        show PW _ _ _ 4 [some (.ref 70), some (.int (nI j)), some (.int a2), some (.int (nI o)), some (.int a4), some (.int a5), none] [.int (b2i (0 ≤ (nI j).toInt ∧ (nI j).toInt < 6))] (E x y)
        refine PW_if_eq c_M_shift_4 (fun h0 => absurd hjs (b2i_0.mp h0)) (fun _ => ?_)
        refine PW_iload_n c_M_shift_7 rfl ?_
        refine PW_S0 (d2 := 1) (st := []) [.int (nI o)] c_M_shift_8 lk_M_shift_143 rfl rfl rfl (Nat.le_of_ble_eq_true rfl) (by first | decide | omega) (Nat.le_of_ble_eq_true rfl) ?_
        refine sp_M_isShelf2  ?_
        show PW _ _ _ 11 [some (.ref 70), some (.int (nI j)), some (.int a2), some (.int (nI o)), some (.int a4), some (.int a5), none] [.int (b2i (0 ≤ (nI o).toInt ∧ (nI o).toInt < 6))] (E x y)
        refine PW_if_ne c_M_shift_11 (fun _ => ?_) (fun h1 => absurd hos (b2i_0.mp h1))
        refine PW_aload_n c_M_shift_16 rfl ?_
        refine PW_get (v := .ref 104) c_M_shift_17 fl_M_111 (gf_70_53 _ _) ?_
        refine PW_iload_n c_M_shift_20 rfl ?_
        refine PW_iald (j := j) c_M_shift_21 (ar_104 _ _) (vp_in_nI hj (by decide)) (nI_clamp (by omega)) ?_
        show PW _ _ _ 22 [some (.ref 70), some (.int (nI j)), some (.int a2), some (.int (nI o)), some (.int a4), some (.int a5), none] [.int ((y.2.1 104) j)] (E x y)
        refine PW_iconst (v := -1) c_M_shift_22 (by decide) ?_
        refine PW_icmp_eq c_M_shift_23 (fun h2 => absurd h2 (by rw [e3]; exact ho_n1 e1)) (fun h2 => ?_)
        refine PW_aload_n c_M_shift_26 rfl ?_
        refine PW_get (v := .ref 104) c_M_shift_27 fl_M_111 (gf_70_53 _ _) ?_
        refine PW_iload_n c_M_shift_30 rfl ?_
        refine PW_iald (j := o) c_M_shift_31 (ar_104 _ _) (vp_in_nI ho (by decide)) (nI_clamp (by omega)) ?_
        show PW _ _ _ 32 [some (.ref 70), some (.int (nI j)), some (.int a2), some (.int (nI o)), some (.int a4), some (.int a5), none] [.int ((y.2.1 104) o)] (E x y)
        refine PW_iconst (v := -1) c_M_shift_32 (by decide) ?_
        refine PW_icmp_ne c_M_shift_33 (fun h3 => ?_) (fun h3 => absurd h3 (ho_b f1))
        refine PW_aload_n c_M_shift_39 rfl ?_
        refine PW_get (v := .ref 104) c_M_shift_40 fl_M_111 (gf_70_53 _ _) ?_
        refine PW_iload_n c_M_shift_43 rfl ?_
        refine PW_iald (j := j) c_M_shift_44 (ar_104 _ _) (vp_in_nI hj (by decide)) (nI_clamp (by omega)) ?_
        show PW _ _ _ 45 [some (.ref 70), some (.int (nI j)), some (.int a2), some (.int (nI o)), some (.int a4), some (.int a5), none] [.int ((y.2.1 104) j)] (E x y)
        refine PW_if_ge c_M_shift_45 (fun h4 => absurd h4 (Int32.not_le.mpr (by rw [e3]; exact ho_lt e1))) (fun h4 => ?_)
        refine PW_aload_n c_M_shift_48 rfl ?_
        refine PW_get (v := .ref 104) c_M_shift_49 fl_M_111 (gf_70_53 _ _) ?_
        refine PW_iload_n c_M_shift_52 rfl ?_
        refine PW_iald (j := j) c_M_shift_53 (ar_104 _ _) (vp_in_nI hj (by decide)) (nI_clamp (by omega)) ?_
        show PW _ _ _ 54 [some (.ref 70), some (.int (nI j)), some (.int a2), some (.int (nI o)), some (.int a4), some (.int a5), none] [.int ((y.2.1 104) j)] (E x y)
        refine PW_aload_n c_M_shift_54 rfl ?_
        refine PW_get (v := .ref 104) c_M_shift_55 fl_M_111 (gf_70_53 _ _) ?_
        refine PW_iload_n c_M_shift_58 rfl ?_
        refine PW_iald (j := o) c_M_shift_59 (ar_104 _ _) (vp_in_nI ho (by decide)) (nI_clamp (by omega)) ?_
        show PW _ _ _ 60 [some (.ref 70), some (.int (nI j)), some (.int a2), some (.int (nI o)), some (.int a4), some (.int a5), none] [.int ((y.2.1 104) o), .int ((y.2.1 104) j)] (E x y)
        refine PW_icmp_eq c_M_shift_60 (fun h5 => absurd h5 (by rw [e3]; exact so_ne e1 f1)) (fun h5 => ?_)
        refine PW_bipush (v := -12) c_M_shift_63 (by decide) ?_
        refine PW_ireturn (ty := .int) c_M_shift_65 rfl rfl ?_
        exact h
    · by_cases hsu : ¬ s = u
      · refine ⟨-12, x, y, ?_, fun {z post} h => ?_, fun {z post} h => ?_⟩
        · exact INV_step hI
        · refine PW.deeper (k := (2, 0, 0, z)) (Nat.le_of_ble_eq_true rfl) (Nat.le_refl _) (Nat.le_refl _) ?_
          refine PW_aload_n c_G_shift_0 rfl ?_
          refine PW_iload_n c_G_shift_1 rfl ?_
          refine PW_V0 (d2 := 0) (st := []) [.int (nI j)] c_G_shift_2 lk_G_shift_102 (po_5 _ _) rfl rfl rfl (Nat.le_of_ble_eq_true rfl) (by first | decide | omega) (Nat.le_of_ble_eq_true rfl) ?_
          refine sp_shelf hj ?_
          show PW _ _ _ 5 [some (.ref 5), some (.int (nI j)), some (.int a2), some (.int (nI o)), some (.int a4), some (.int a5), none, none] [.ref (58 + 2 * j)] (E x y)
          refine PW_astore (i := 6) (L2 := [some (.ref 5), some (.int (nI j)), some (.int a2), some (.int (nI o)), some (.int a4), some (.int a5), some (.ref (58 + 2 * j)), none]) c_G_shift_5 (Nat.le_of_ble_eq_true rfl) rfl rfl ?_
          refine PW_aload_n c_G_shift_7 rfl ?_
          refine PW_iload_n c_G_shift_8 rfl ?_
          refine PW_V0 (d2 := 0) (st := []) [.int (nI o)] c_G_shift_9 lk_G_shift_102 (po_5 _ _) rfl rfl rfl (Nat.le_of_ble_eq_true rfl) (by first | decide | omega) (Nat.le_of_ble_eq_true rfl) ?_
          refine sp_shelf ho ?_
          show PW _ _ _ 12 [some (.ref 5), some (.int (nI j)), some (.int a2), some (.int (nI o)), some (.int a4), some (.int a5), some (.ref (58 + 2 * j)), none] [.ref (58 + 2 * o)] (E x y)
          refine PW_astore (i := 7) (L2 := [some (.ref 5), some (.int (nI j)), some (.int a2), some (.int (nI o)), some (.int a4), some (.int a5), some (.ref (58 + 2 * j)), some (.ref (58 + 2 * o))]) c_G_shift_12 (Nat.le_of_ble_eq_true rfl) rfl rfl ?_
          refine PW_aload c_G_shift_14 rfl ?_
          refine PW_ifnull c_G_shift_16 ?_
          refine PW_aload c_G_shift_19 rfl ?_
          refine PW_ifnonnull c_G_shift_21 ?_
          refine PW_aload c_G_shift_26 rfl ?_
          refine PW_V0 (d2 := 0) (st := []) [] c_G_shift_28 lk_G_shift_339 (sh_po _ _ hj) rfl rfl rfl (Nat.le_of_ble_eq_true rfl) (by first | decide | omega) (Nat.le_of_ble_eq_true rfl) ?_
          refine sp_F_isEmpty hj  ?_
          show PW _ _ _ 31 [some (.ref 5), some (.int (nI j)), some (.int a2), some (.int (nI o)), some (.int a4), some (.int a5), some (.ref (58 + 2 * j)), some (.ref (58 + 2 * o))] [.int (b2i (x.1 ((58 + 2 * j) * 8 + 1) = 0))] (E x y)
          refine PW_if_ne c_G_shift_31 (fun h0 => absurd (b2i_n0.mp h0) (by rw [e4]; decide)) (fun _ => ?_)
          refine PW_aload c_G_shift_34 rfl ?_
          refine PW_V0 (d2 := 0) (st := []) [] c_G_shift_36 lk_G_shift_339 (sh_po _ _ ho) rfl rfl rfl (Nat.le_of_ble_eq_true rfl) (by first | decide | omega) (Nat.le_of_ble_eq_true rfl) ?_
          refine sp_F_isEmpty ho  ?_
          show PW _ _ _ 39 [some (.ref 5), some (.int (nI j)), some (.int a2), some (.int (nI o)), some (.int a4), some (.int a5), some (.ref (58 + 2 * j)), some (.ref (58 + 2 * o))] [.int (b2i (x.1 ((58 + 2 * o) * 8 + 1) = 0))] (E x y)
          refine PW_if_eq c_G_shift_39 (fun _ => ?_) (fun h1 => absurd (b2i_n0.mp h1) (by rw [f4]; decide))
          refine PW_aload c_G_shift_45 rfl ?_
          refine PW_V0 (d2 := 0) (st := []) [] c_G_shift_47 lk_G_shift_342 (sh_po _ _ hj) rfl rfl rfl (Nat.le_of_ble_eq_true rfl) (by first | decide | omega) (Nat.le_of_ble_eq_true rfl) ?_
          refine sp_F_holdsRow hj  ?_
          show PW _ _ _ 50 [some (.ref 5), some (.int (nI j)), some (.int a2), some (.int (nI o)), some (.int a4), some (.int a5), some (.ref (58 + 2 * j)), some (.ref (58 + 2 * o))] [.int (b2i (x.1 ((58 + 2 * j) * 8 + 1) = 2))] (E x y)
          refine PW_if_eq c_G_shift_50 (fun h2 => absurd e4 (b2i_0.mp h2)) (fun _ => ?_)
          refine PW_aload c_G_shift_53 rfl ?_
          refine PW_V0 (d2 := 0) (st := []) [] c_G_shift_55 lk_G_shift_342 (sh_po _ _ ho) rfl rfl rfl (Nat.le_of_ble_eq_true rfl) (by first | decide | omega) (Nat.le_of_ble_eq_true rfl) ?_
          refine sp_F_holdsRow ho  ?_
          show PW _ _ _ 58 [some (.ref 5), some (.int (nI j)), some (.int a2), some (.int (nI o)), some (.int a4), some (.int a5), some (.ref (58 + 2 * j)), some (.ref (58 + 2 * o))] [.int (b2i (x.1 ((58 + 2 * o) * 8 + 1) = 2))] (E x y)
          refine PW_if_eq c_G_shift_58 (fun h3 => absurd f4 (b2i_0.mp h3)) (fun _ => ?_)
          refine PW_aload c_G_shift_61 rfl ?_
          refine PW_V0 (d2 := 0) (st := []) [] c_G_shift_63 lk_G_shift_345 (sh_po _ _ hj) rfl rfl rfl (Nat.le_of_ble_eq_true rfl) (by first | decide | omega) (Nat.le_of_ble_eq_true rfl) ?_
          show PW _ _ _ 0 [some (.ref (58 + 2 * j))] [] (E x y)
          refine PW_aload_n c_F_sort_0 rfl ?_
          refine PW_get (v := .int (x.1 ((58 + 2 * j) * 8 + 3))) c_F_sort_1 fl_F_19 (sh_g3 _ _ hj) ?_
          refine PW_ireturn (ty := .int) c_F_sort_4 rfl rfl ?_
          show PW _ _ _ 66 [some (.ref 5), some (.int (nI j)), some (.int a2), some (.int (nI o)), some (.int a4), some (.int a5), some (.ref (58 + 2 * j)), some (.ref (58 + 2 * o))] [.int (x.1 ((58 + 2 * j) * 8 + 3))] (E x y)
          refine PW_aload c_G_shift_66 rfl ?_
          refine PW_V0 (d2 := 0) (st := [.int (x.1 ((58 + 2 * j) * 8 + 3))]) [] c_G_shift_68 lk_G_shift_345 (sh_po _ _ ho) rfl rfl rfl (Nat.le_of_ble_eq_true rfl) (by first | decide | omega) (Nat.le_of_ble_eq_true rfl) ?_
          show PW _ _ _ 0 [some (.ref (58 + 2 * o))] [] (E x y)
          refine PW_aload_n c_F_sort_0 rfl ?_
          refine PW_get (v := .int (x.1 ((58 + 2 * o) * 8 + 3))) c_F_sort_1 fl_F_19 (sh_g3 _ _ ho) ?_
          refine PW_ireturn (ty := .int) c_F_sort_4 rfl rfl ?_
          show PW _ _ _ 71 [some (.ref 5), some (.int (nI j)), some (.int a2), some (.int (nI o)), some (.int a4), some (.int a5), some (.ref (58 + 2 * j)), some (.ref (58 + 2 * o))] [.int (x.1 ((58 + 2 * o) * 8 + 3)), .int (x.1 ((58 + 2 * j) * 8 + 3))] (E x y)
          refine PW_icmp_eq c_G_shift_71 (fun h4 => absurd h4 (by rw [e5, f5]; exact fun q => hsu ((nI_eq (by omega) (by omega)).mp q))) (fun h4 => ?_)
          refine PW_bipush (v := -12) c_G_shift_74 (by decide) ?_
          refine PW_ireturn (ty := .int) c_G_shift_76 rfl rfl ?_
          exact h
        · refine PW.deeper (k := (2, 0, 0, z)) (Nat.le_of_ble_eq_true rfl) (Nat.le_refl _) (Nat.le_refl _) ?_
          refine PW_iload_n c_M_shift_0 rfl ?_
          refine PW_S0 (d2 := 1) (st := []) [.int (nI j)] c_M_shift_1 lk_M_shift_143 rfl rfl rfl (Nat.le_of_ble_eq_true rfl) (by first | decide | omega) (Nat.le_of_ble_eq_true rfl) ?_
          refine sp_M_isShelf2  ?_
          show PW _ _ _ 4 [some (.ref 70), some (.int (nI j)), some (.int a2), some (.int (nI o)), some (.int a4), some (.int a5), none] [.int (b2i (0 ≤ (nI j).toInt ∧ (nI j).toInt < 6))] (E x y)
          refine PW_if_eq c_M_shift_4 (fun h0 => absurd hjs (b2i_0.mp h0)) (fun _ => ?_)
          refine PW_iload_n c_M_shift_7 rfl ?_
          refine PW_S0 (d2 := 1) (st := []) [.int (nI o)] c_M_shift_8 lk_M_shift_143 rfl rfl rfl (Nat.le_of_ble_eq_true rfl) (by first | decide | omega) (Nat.le_of_ble_eq_true rfl) ?_
          refine sp_M_isShelf2  ?_
          show PW _ _ _ 11 [some (.ref 70), some (.int (nI j)), some (.int a2), some (.int (nI o)), some (.int a4), some (.int a5), none] [.int (b2i (0 ≤ (nI o).toInt ∧ (nI o).toInt < 6))] (E x y)
          refine PW_if_ne c_M_shift_11 (fun _ => ?_) (fun h1 => absurd hos (b2i_0.mp h1))
          refine PW_aload_n c_M_shift_16 rfl ?_
          refine PW_get (v := .ref 104) c_M_shift_17 fl_M_111 (gf_70_53 _ _) ?_
          refine PW_iload_n c_M_shift_20 rfl ?_
          refine PW_iald (j := j) c_M_shift_21 (ar_104 _ _) (vp_in_nI hj (by decide)) (nI_clamp (by omega)) ?_
          show PW _ _ _ 22 [some (.ref 70), some (.int (nI j)), some (.int a2), some (.int (nI o)), some (.int a4), some (.int a5), none] [.int ((y.2.1 104) j)] (E x y)
          refine PW_iconst (v := -1) c_M_shift_22 (by decide) ?_
          refine PW_icmp_eq c_M_shift_23 (fun h2 => absurd h2 (by rw [e3]; exact ho_n1 e1)) (fun h2 => ?_)
          refine PW_aload_n c_M_shift_26 rfl ?_
          refine PW_get (v := .ref 104) c_M_shift_27 fl_M_111 (gf_70_53 _ _) ?_
          refine PW_iload_n c_M_shift_30 rfl ?_
          refine PW_iald (j := o) c_M_shift_31 (ar_104 _ _) (vp_in_nI ho (by decide)) (nI_clamp (by omega)) ?_
          show PW _ _ _ 32 [some (.ref 70), some (.int (nI j)), some (.int a2), some (.int (nI o)), some (.int a4), some (.int a5), none] [.int ((y.2.1 104) o)] (E x y)
          refine PW_iconst (v := -1) c_M_shift_32 (by decide) ?_
          refine PW_icmp_ne c_M_shift_33 (fun h3 => ?_) (fun h3 => absurd h3 (by rw [f3]; exact ho_n1 f1))
          refine PW_aload_n c_M_shift_39 rfl ?_
          refine PW_get (v := .ref 104) c_M_shift_40 fl_M_111 (gf_70_53 _ _) ?_
          refine PW_iload_n c_M_shift_43 rfl ?_
          refine PW_iald (j := j) c_M_shift_44 (ar_104 _ _) (vp_in_nI hj (by decide)) (nI_clamp (by omega)) ?_
          show PW _ _ _ 45 [some (.ref 70), some (.int (nI j)), some (.int a2), some (.int (nI o)), some (.int a4), some (.int a5), none] [.int ((y.2.1 104) j)] (E x y)
          refine PW_if_ge c_M_shift_45 (fun h4 => absurd h4 (Int32.not_le.mpr (by rw [e3]; exact ho_lt e1))) (fun h4 => ?_)
          refine PW_aload_n c_M_shift_48 rfl ?_
          refine PW_get (v := .ref 104) c_M_shift_49 fl_M_111 (gf_70_53 _ _) ?_
          refine PW_iload_n c_M_shift_52 rfl ?_
          refine PW_iald (j := j) c_M_shift_53 (ar_104 _ _) (vp_in_nI hj (by decide)) (nI_clamp (by omega)) ?_
          show PW _ _ _ 54 [some (.ref 70), some (.int (nI j)), some (.int a2), some (.int (nI o)), some (.int a4), some (.int a5), none] [.int ((y.2.1 104) j)] (E x y)
          refine PW_aload_n c_M_shift_54 rfl ?_
          refine PW_get (v := .ref 104) c_M_shift_55 fl_M_111 (gf_70_53 _ _) ?_
          refine PW_iload_n c_M_shift_58 rfl ?_
          refine PW_iald (j := o) c_M_shift_59 (ar_104 _ _) (vp_in_nI ho (by decide)) (nI_clamp (by omega)) ?_
          show PW _ _ _ 60 [some (.ref 70), some (.int (nI j)), some (.int a2), some (.int (nI o)), some (.int a4), some (.int a5), none] [.int ((y.2.1 104) o), .int ((y.2.1 104) j)] (E x y)
          refine PW_icmp_eq c_M_shift_60 (fun h5 => absurd h5 (by rw [e3, f3]; exact so_inj e1 f1 hsu)) (fun h5 => ?_)
          refine PW_bipush (v := -12) c_M_shift_63 (by decide) ?_
          refine PW_ireturn (ty := .int) c_M_shift_65 rfl rfl ?_
          exact h
      replace hsu : s = u := Decidable.not_not.mp hsu
      have hsu2 : nI s = nI u := by rw [hsu]
      have zj : (x.1 ((58 + 2 * j) * 8 + 4)).toInt = n := by rw [e7, nI_toInt (by omega)]
      have zo : (x.1 ((58 + 2 * o) * 8 + 4)).toInt = w := by rw [f7, nI_toInt (by omega)]
      have yj : (y.2.1 105 j).toInt = n := by rw [e6, nI_toInt (by omega)]
      have yo : (y.2.1 105 o).toInt = w := by rw [f6, nI_toInt (by omega)]
      have zj0 : 0 ≤ (x.1 ((58 + 2 * j) * 8 + 4)).toInt := by omega
      have zo0 : 0 ≤ (x.1 ((58 + 2 * o) * 8 + 4)).toInt := by omega
      by_cases hpp : ¬ (0 ≤ a5.toInt ∧ 0 ≤ a2.toInt ∧ 0 ≤ a4.toInt ∧ a2.toInt + a5.toInt ≤ (n : Int) ∧ a4.toInt + a5.toInt ≤ (w : Int))
      · refine ⟨-13, x, y, ?_, fun {z post} h => ?_, fun {z post} h => ?_⟩
        · exact INV_step hI
        · refine PW.deeper (k := (2, 0, 0, z)) (Nat.le_of_ble_eq_true rfl) (Nat.le_refl _) (Nat.le_refl _) ?_
          refine PW_aload_n c_G_shift_0 rfl ?_
          refine PW_iload_n c_G_shift_1 rfl ?_
          refine PW_V0 (d2 := 0) (st := []) [.int (nI j)] c_G_shift_2 lk_G_shift_102 (po_5 _ _) rfl rfl rfl (Nat.le_of_ble_eq_true rfl) (by first | decide | omega) (Nat.le_of_ble_eq_true rfl) ?_
          refine sp_shelf hj ?_
          show PW _ _ _ 5 [some (.ref 5), some (.int (nI j)), some (.int a2), some (.int (nI o)), some (.int a4), some (.int a5), none, none] [.ref (58 + 2 * j)] (E x y)
          refine PW_astore (i := 6) (L2 := [some (.ref 5), some (.int (nI j)), some (.int a2), some (.int (nI o)), some (.int a4), some (.int a5), some (.ref (58 + 2 * j)), none]) c_G_shift_5 (Nat.le_of_ble_eq_true rfl) rfl rfl ?_
          refine PW_aload_n c_G_shift_7 rfl ?_
          refine PW_iload_n c_G_shift_8 rfl ?_
          refine PW_V0 (d2 := 0) (st := []) [.int (nI o)] c_G_shift_9 lk_G_shift_102 (po_5 _ _) rfl rfl rfl (Nat.le_of_ble_eq_true rfl) (by first | decide | omega) (Nat.le_of_ble_eq_true rfl) ?_
          refine sp_shelf ho ?_
          show PW _ _ _ 12 [some (.ref 5), some (.int (nI j)), some (.int a2), some (.int (nI o)), some (.int a4), some (.int a5), some (.ref (58 + 2 * j)), none] [.ref (58 + 2 * o)] (E x y)
          refine PW_astore (i := 7) (L2 := [some (.ref 5), some (.int (nI j)), some (.int a2), some (.int (nI o)), some (.int a4), some (.int a5), some (.ref (58 + 2 * j)), some (.ref (58 + 2 * o))]) c_G_shift_12 (Nat.le_of_ble_eq_true rfl) rfl rfl ?_
          refine PW_aload c_G_shift_14 rfl ?_
          refine PW_ifnull c_G_shift_16 ?_
          refine PW_aload c_G_shift_19 rfl ?_
          refine PW_ifnonnull c_G_shift_21 ?_
          refine PW_aload c_G_shift_26 rfl ?_
          refine PW_V0 (d2 := 0) (st := []) [] c_G_shift_28 lk_G_shift_339 (sh_po _ _ hj) rfl rfl rfl (Nat.le_of_ble_eq_true rfl) (by first | decide | omega) (Nat.le_of_ble_eq_true rfl) ?_
          refine sp_F_isEmpty hj  ?_
          show PW _ _ _ 31 [some (.ref 5), some (.int (nI j)), some (.int a2), some (.int (nI o)), some (.int a4), some (.int a5), some (.ref (58 + 2 * j)), some (.ref (58 + 2 * o))] [.int (b2i (x.1 ((58 + 2 * j) * 8 + 1) = 0))] (E x y)
          refine PW_if_ne c_G_shift_31 (fun h0 => absurd (b2i_n0.mp h0) (by rw [e4]; decide)) (fun _ => ?_)
          refine PW_aload c_G_shift_34 rfl ?_
          refine PW_V0 (d2 := 0) (st := []) [] c_G_shift_36 lk_G_shift_339 (sh_po _ _ ho) rfl rfl rfl (Nat.le_of_ble_eq_true rfl) (by first | decide | omega) (Nat.le_of_ble_eq_true rfl) ?_
          refine sp_F_isEmpty ho  ?_
          show PW _ _ _ 39 [some (.ref 5), some (.int (nI j)), some (.int a2), some (.int (nI o)), some (.int a4), some (.int a5), some (.ref (58 + 2 * j)), some (.ref (58 + 2 * o))] [.int (b2i (x.1 ((58 + 2 * o) * 8 + 1) = 0))] (E x y)
          refine PW_if_eq c_G_shift_39 (fun _ => ?_) (fun h1 => absurd (b2i_n0.mp h1) (by rw [f4]; decide))
          refine PW_aload c_G_shift_45 rfl ?_
          refine PW_V0 (d2 := 0) (st := []) [] c_G_shift_47 lk_G_shift_342 (sh_po _ _ hj) rfl rfl rfl (Nat.le_of_ble_eq_true rfl) (by first | decide | omega) (Nat.le_of_ble_eq_true rfl) ?_
          refine sp_F_holdsRow hj  ?_
          show PW _ _ _ 50 [some (.ref 5), some (.int (nI j)), some (.int a2), some (.int (nI o)), some (.int a4), some (.int a5), some (.ref (58 + 2 * j)), some (.ref (58 + 2 * o))] [.int (b2i (x.1 ((58 + 2 * j) * 8 + 1) = 2))] (E x y)
          refine PW_if_eq c_G_shift_50 (fun h2 => absurd e4 (b2i_0.mp h2)) (fun _ => ?_)
          refine PW_aload c_G_shift_53 rfl ?_
          refine PW_V0 (d2 := 0) (st := []) [] c_G_shift_55 lk_G_shift_342 (sh_po _ _ ho) rfl rfl rfl (Nat.le_of_ble_eq_true rfl) (by first | decide | omega) (Nat.le_of_ble_eq_true rfl) ?_
          refine sp_F_holdsRow ho  ?_
          show PW _ _ _ 58 [some (.ref 5), some (.int (nI j)), some (.int a2), some (.int (nI o)), some (.int a4), some (.int a5), some (.ref (58 + 2 * j)), some (.ref (58 + 2 * o))] [.int (b2i (x.1 ((58 + 2 * o) * 8 + 1) = 2))] (E x y)
          refine PW_if_eq c_G_shift_58 (fun h3 => absurd f4 (b2i_0.mp h3)) (fun _ => ?_)
          refine PW_aload c_G_shift_61 rfl ?_
          refine PW_V0 (d2 := 0) (st := []) [] c_G_shift_63 lk_G_shift_345 (sh_po _ _ hj) rfl rfl rfl (Nat.le_of_ble_eq_true rfl) (by first | decide | omega) (Nat.le_of_ble_eq_true rfl) ?_
          show PW _ _ _ 0 [some (.ref (58 + 2 * j))] [] (E x y)
          refine PW_aload_n c_F_sort_0 rfl ?_
          refine PW_get (v := .int (x.1 ((58 + 2 * j) * 8 + 3))) c_F_sort_1 fl_F_19 (sh_g3 _ _ hj) ?_
          refine PW_ireturn (ty := .int) c_F_sort_4 rfl rfl ?_
          show PW _ _ _ 66 [some (.ref 5), some (.int (nI j)), some (.int a2), some (.int (nI o)), some (.int a4), some (.int a5), some (.ref (58 + 2 * j)), some (.ref (58 + 2 * o))] [.int (x.1 ((58 + 2 * j) * 8 + 3))] (E x y)
          refine PW_aload c_G_shift_66 rfl ?_
          refine PW_V0 (d2 := 0) (st := [.int (x.1 ((58 + 2 * j) * 8 + 3))]) [] c_G_shift_68 lk_G_shift_345 (sh_po _ _ ho) rfl rfl rfl (Nat.le_of_ble_eq_true rfl) (by first | decide | omega) (Nat.le_of_ble_eq_true rfl) ?_
          show PW _ _ _ 0 [some (.ref (58 + 2 * o))] [] (E x y)
          refine PW_aload_n c_F_sort_0 rfl ?_
          refine PW_get (v := .int (x.1 ((58 + 2 * o) * 8 + 3))) c_F_sort_1 fl_F_19 (sh_g3 _ _ ho) ?_
          refine PW_ireturn (ty := .int) c_F_sort_4 rfl rfl ?_
          show PW _ _ _ 71 [some (.ref 5), some (.int (nI j)), some (.int a2), some (.int (nI o)), some (.int a4), some (.int a5), some (.ref (58 + 2 * j)), some (.ref (58 + 2 * o))] [.int (x.1 ((58 + 2 * o) * 8 + 3)), .int (x.1 ((58 + 2 * j) * 8 + 3))] (E x y)
          refine PW_icmp_eq c_G_shift_71 (fun h4 => ?_) (fun h4 => absurd (by rw [e5, f5, hsu]) h4)
          refine PW_aload c_G_shift_77 rfl ?_
          refine PW_iload_n c_G_shift_79 rfl ?_
          refine PW_iload c_G_shift_80 rfl ?_
          refine PW_V0 (d2 := 0) (st := []) [.int a2, .int a5] c_G_shift_82 lk_G_shift_348 (sh_po _ _ hj) rfl rfl rfl (Nat.le_of_ble_eq_true rfl) (by first | decide | omega) (Nat.le_of_ble_eq_true rfl) ?_
          refine sp_F_hasPlaces hj zj0 ?_
          show PW _ _ _ 85 [some (.ref 5), some (.int (nI j)), some (.int a2), some (.int (nI o)), some (.int a4), some (.int a5), some (.ref (58 + 2 * j)), some (.ref (58 + 2 * o))] [.int (b2i (0 ≤ a2.toInt ∧ 0 ≤ a5.toInt ∧ a5.toInt ≤ (x.1 ((58 + 2 * j) * 8 + 4)).toInt ∧ a2.toInt ≤ (x.1 ((58 + 2 * j) * 8 + 4)).toInt - a5.toInt))] (E x y)
          refine PW_if_eq c_G_shift_85 (fun h5 => ?_) (fun h5 => ?_)
          · replace h5 := b2i_0.mp h5
            refine PW_bipush (v := -13) c_G_shift_100 (by decide) ?_
            refine PW_ireturn (ty := .int) c_G_shift_102 rfl rfl ?_
            exact h
          · replace h5 := b2i_n0.mp h5
            refine PW_aload c_G_shift_88 rfl ?_
            refine PW_iload c_G_shift_90 rfl ?_
            refine PW_iload c_G_shift_92 rfl ?_
            refine PW_V0 (d2 := 0) (st := []) [.int a4, .int a5] c_G_shift_94 lk_G_shift_348 (sh_po _ _ ho) rfl rfl rfl (Nat.le_of_ble_eq_true rfl) (by first | decide | omega) (Nat.le_of_ble_eq_true rfl) ?_
            refine sp_F_hasPlaces ho zo0 ?_
            show PW _ _ _ 97 [some (.ref 5), some (.int (nI j)), some (.int a2), some (.int (nI o)), some (.int a4), some (.int a5), some (.ref (58 + 2 * j)), some (.ref (58 + 2 * o))] [.int (b2i (0 ≤ a4.toInt ∧ 0 ≤ a5.toInt ∧ a5.toInt ≤ (x.1 ((58 + 2 * o) * 8 + 4)).toInt ∧ a4.toInt ≤ (x.1 ((58 + 2 * o) * 8 + 4)).toInt - a5.toInt))] (E x y)
            refine PW_if_ne c_G_shift_97 (fun h6 => ?_) (fun h6 => ?_)
            · replace h6 := b2i_n0.mp h6
              exfalso
              exact hpp ⟨by omega, by omega, by omega, by omega, by omega⟩
            · replace h6 := b2i_0.mp h6
              refine PW_bipush (v := -13) c_G_shift_100 (by decide) ?_
              refine PW_ireturn (ty := .int) c_G_shift_102 rfl rfl ?_
              exact h
        · refine PW.deeper (k := (2, 0, 0, z)) (Nat.le_of_ble_eq_true rfl) (Nat.le_refl _) (Nat.le_refl _) ?_
          refine PW_iload_n c_M_shift_0 rfl ?_
          refine PW_S0 (d2 := 1) (st := []) [.int (nI j)] c_M_shift_1 lk_M_shift_143 rfl rfl rfl (Nat.le_of_ble_eq_true rfl) (by first | decide | omega) (Nat.le_of_ble_eq_true rfl) ?_
          refine sp_M_isShelf2  ?_
          show PW _ _ _ 4 [some (.ref 70), some (.int (nI j)), some (.int a2), some (.int (nI o)), some (.int a4), some (.int a5), none] [.int (b2i (0 ≤ (nI j).toInt ∧ (nI j).toInt < 6))] (E x y)
          refine PW_if_eq c_M_shift_4 (fun h0 => absurd hjs (b2i_0.mp h0)) (fun _ => ?_)
          refine PW_iload_n c_M_shift_7 rfl ?_
          refine PW_S0 (d2 := 1) (st := []) [.int (nI o)] c_M_shift_8 lk_M_shift_143 rfl rfl rfl (Nat.le_of_ble_eq_true rfl) (by first | decide | omega) (Nat.le_of_ble_eq_true rfl) ?_
          refine sp_M_isShelf2  ?_
          show PW _ _ _ 11 [some (.ref 70), some (.int (nI j)), some (.int a2), some (.int (nI o)), some (.int a4), some (.int a5), none] [.int (b2i (0 ≤ (nI o).toInt ∧ (nI o).toInt < 6))] (E x y)
          refine PW_if_ne c_M_shift_11 (fun _ => ?_) (fun h1 => absurd hos (b2i_0.mp h1))
          refine PW_aload_n c_M_shift_16 rfl ?_
          refine PW_get (v := .ref 104) c_M_shift_17 fl_M_111 (gf_70_53 _ _) ?_
          refine PW_iload_n c_M_shift_20 rfl ?_
          refine PW_iald (j := j) c_M_shift_21 (ar_104 _ _) (vp_in_nI hj (by decide)) (nI_clamp (by omega)) ?_
          show PW _ _ _ 22 [some (.ref 70), some (.int (nI j)), some (.int a2), some (.int (nI o)), some (.int a4), some (.int a5), none] [.int ((y.2.1 104) j)] (E x y)
          refine PW_iconst (v := -1) c_M_shift_22 (by decide) ?_
          refine PW_icmp_eq c_M_shift_23 (fun h2 => absurd h2 (by rw [e3]; exact ho_n1 e1)) (fun h2 => ?_)
          refine PW_aload_n c_M_shift_26 rfl ?_
          refine PW_get (v := .ref 104) c_M_shift_27 fl_M_111 (gf_70_53 _ _) ?_
          refine PW_iload_n c_M_shift_30 rfl ?_
          refine PW_iald (j := o) c_M_shift_31 (ar_104 _ _) (vp_in_nI ho (by decide)) (nI_clamp (by omega)) ?_
          show PW _ _ _ 32 [some (.ref 70), some (.int (nI j)), some (.int a2), some (.int (nI o)), some (.int a4), some (.int a5), none] [.int ((y.2.1 104) o)] (E x y)
          refine PW_iconst (v := -1) c_M_shift_32 (by decide) ?_
          refine PW_icmp_ne c_M_shift_33 (fun h3 => ?_) (fun h3 => absurd h3 (by rw [f3]; exact ho_n1 f1))
          refine PW_aload_n c_M_shift_39 rfl ?_
          refine PW_get (v := .ref 104) c_M_shift_40 fl_M_111 (gf_70_53 _ _) ?_
          refine PW_iload_n c_M_shift_43 rfl ?_
          refine PW_iald (j := j) c_M_shift_44 (ar_104 _ _) (vp_in_nI hj (by decide)) (nI_clamp (by omega)) ?_
          show PW _ _ _ 45 [some (.ref 70), some (.int (nI j)), some (.int a2), some (.int (nI o)), some (.int a4), some (.int a5), none] [.int ((y.2.1 104) j)] (E x y)
          refine PW_if_ge c_M_shift_45 (fun h4 => absurd h4 (Int32.not_le.mpr (by rw [e3]; exact ho_lt e1))) (fun h4 => ?_)
          refine PW_aload_n c_M_shift_48 rfl ?_
          refine PW_get (v := .ref 104) c_M_shift_49 fl_M_111 (gf_70_53 _ _) ?_
          refine PW_iload_n c_M_shift_52 rfl ?_
          refine PW_iald (j := j) c_M_shift_53 (ar_104 _ _) (vp_in_nI hj (by decide)) (nI_clamp (by omega)) ?_
          show PW _ _ _ 54 [some (.ref 70), some (.int (nI j)), some (.int a2), some (.int (nI o)), some (.int a4), some (.int a5), none] [.int ((y.2.1 104) j)] (E x y)
          refine PW_aload_n c_M_shift_54 rfl ?_
          refine PW_get (v := .ref 104) c_M_shift_55 fl_M_111 (gf_70_53 _ _) ?_
          refine PW_iload_n c_M_shift_58 rfl ?_
          refine PW_iald (j := o) c_M_shift_59 (ar_104 _ _) (vp_in_nI ho (by decide)) (nI_clamp (by omega)) ?_
          show PW _ _ _ 60 [some (.ref 70), some (.int (nI j)), some (.int a2), some (.int (nI o)), some (.int a4), some (.int a5), none] [.int ((y.2.1 104) o), .int ((y.2.1 104) j)] (E x y)
          refine PW_icmp_eq c_M_shift_60 (fun h5 => ?_) (fun h5 => absurd (by rw [e3, f3, hsu]) h5)
          refine PW_iload c_M_shift_66 rfl ?_
          refine PW_if_lt c_M_shift_68 (fun h6 => ?_) (fun h6 => ?_)
          · refine PW_bipush (v := -13) c_M_shift_107 (by decide) ?_
            refine PW_ireturn (ty := .int) c_M_shift_109 rfl rfl ?_
            exact h
          · refine PW_iload_n c_M_shift_71 rfl ?_
            refine PW_if_lt c_M_shift_72 (fun h7 => ?_) (fun h7 => ?_)
            · refine PW_bipush (v := -13) c_M_shift_107 (by decide) ?_
              refine PW_ireturn (ty := .int) c_M_shift_109 rfl rfl ?_
              exact h
            · refine PW_iload c_M_shift_75 rfl ?_
              refine PW_if_lt c_M_shift_77 (fun h8 => ?_) (fun h8 => ?_)
              · refine PW_bipush (v := -13) c_M_shift_107 (by decide) ?_
                refine PW_ireturn (ty := .int) c_M_shift_109 rfl rfl ?_
                exact h
              · refine PW_iload_n c_M_shift_80 rfl ?_
                refine PW_aload_n c_M_shift_81 rfl ?_
                refine PW_get (v := .ref 105) c_M_shift_82 fl_M_114 (gf_70_54 _ _) ?_
                refine PW_iload_n c_M_shift_85 rfl ?_
                refine PW_iald (j := j) c_M_shift_86 (ar_105 _ _) (vp_in_nI hj (by decide)) (nI_clamp (by omega)) ?_
                show PW _ _ _ 87 [some (.ref 70), some (.int (nI j)), some (.int a2), some (.int (nI o)), some (.int a4), some (.int a5), none] [.int ((y.2.1 105) j), .int a2] (E x y)
                refine PW_iload c_M_shift_87 rfl ?_
                refine PW_isub c_M_shift_89 ?_
                refine PW_icmp_gt c_M_shift_90 (fun h9 => ?_) (fun h9 => ?_)
                · refine PW_bipush (v := -13) c_M_shift_107 (by decide) ?_
                  refine PW_ireturn (ty := .int) c_M_shift_109 rfl rfl ?_
                  exact h
                · refine PW_iload c_M_shift_93 rfl ?_
                  refine PW_aload_n c_M_shift_95 rfl ?_
                  refine PW_get (v := .ref 105) c_M_shift_96 fl_M_114 (gf_70_54 _ _) ?_
                  refine PW_iload_n c_M_shift_99 rfl ?_
                  refine PW_iald (j := o) c_M_shift_100 (ar_105 _ _) (vp_in_nI ho (by decide)) (nI_clamp (by omega)) ?_
                  show PW _ _ _ 101 [some (.ref 70), some (.int (nI j)), some (.int a2), some (.int (nI o)), some (.int a4), some (.int a5), none] [.int ((y.2.1 105) o), .int a4] (E x y)
                  refine PW_iload c_M_shift_101 rfl ?_
                  refine PW_isub c_M_shift_103 ?_
                  refine PW_icmp_le c_M_shift_104 (fun h10 => ?_) (fun h10 => ?_)
                  · exfalso
                    have r1 := ti_rng a5
                    have r2 := ti_rng a2
                    have r3 := ti_rng a4
                    simp only [Int32.lt_iff_toInt_lt, Int32.le_iff_toInt_le, Int32.not_lt, Int32.not_le, gt_iff_lt, tiA] at *
                    have q1 := ti_sub (x := y.2.1 105 j) (y := a5) (by omega) (by omega)
                    have q2 := ti_sub (x := y.2.1 105 o) (y := a5) (by omega) (by omega)
                    exact hpp ⟨by omega, by omega, by omega, by omega, by omega⟩
                  · refine PW_bipush (v := -13) c_M_shift_107 (by decide) ?_
                    refine PW_ireturn (ty := .int) c_M_shift_109 rfl rfl ?_
                    exact h
      replace hpp := Decidable.not_not.mp hpp
      obtain ⟨p1, p2, p3, p4, p5⟩ := hpp
      obtain ⟨c, c1, rfl, c3, c4⟩ := nI_ex p1
      obtain ⟨i, i1, rfl, i3, i4⟩ := nI_ex p2
      obtain ⟨q, q1, rfl, q3, q4⟩ := nI_ex p3
      have hic : i + c ≤ n := by omega
      have hqc : q + c ≤ w := by omega
      have t1 := ti_sub (x := y.2.1 105 j) (y := nI c) (by omega) (by omega)
      have t2 := ti_sub (x := y.2.1 105 o) (y := nI c) (by omega) (by omega)
      have m1 : ¬ nI i > y.2.1 105 j - nI c := by rw [gt_iff_lt, Int32.lt_iff_toInt_lt, t1]; omega
      have m2 : nI q ≤ y.2.1 105 o - nI c := by rw [Int32.le_iff_toInt_le, t2]; omega
      have g1 : 0 ≤ (nI i).toInt ∧ 0 ≤ (nI c).toInt ∧ (nI c).toInt ≤ (x.1 ((58 + 2 * j) * 8 + 4)).toInt ∧ (nI i).toInt ≤ (x.1 ((58 + 2 * j) * 8 + 4)).toInt - (nI c).toInt := ⟨by omega, by omega, by omega, by omega⟩
      have g2 : 0 ≤ (nI q).toInt ∧ 0 ≤ (nI c).toInt ∧ (nI c).toInt ≤ (x.1 ((58 + 2 * o) * 8 + 4)).toInt ∧ (nI q).toInt ≤ (x.1 ((58 + 2 * o) * 8 + 4)).toInt - (nI c).toInt := ⟨by omega, by omega, by omega, by omega⟩
      refine ⟨nI c, sG x (59 + 2 * o) (va_cpy (x.2.2 (59 + 2 * j)) (x.2.2 (59 + 2 * o)) i q c), sG (sG y 107 (wr (y.2.2 106) (60 * j + i) 0 (y.2.2 107) 0 c)) 106 (wr (wr (y.2.2 106) (60 * j + i) 0 (y.2.2 107) 0 c) 0 (60 * o + q) (y.2.2 106) 0 c), ?_, fun {z post} h => ?_, fun {z post} h => ?_⟩
      · refine ⟨hg.cg (fun n q1 q2 => by first | rfl | (simp only [sI_1, sI_A, sI_G, sA_1, sA_A, sA_G, sG_1, sG_A, sG_G]; repeat rw [if_neg (by omega)])) (fun n q1 q2 => by first | rfl | (simp only [sI_1, sI_A, sI_G, sA_1, sA_A, sA_G, sG_1, sG_A, sG_G]; repeat rw [if_neg (by omega)])) (by first | rfl | (simp only [sI_1, sI_A, sI_G, sA_1, sA_A, sA_G, sG_1, sG_A, sG_G]; repeat rw [if_neg (by omega)])) (fun n q1 q2 => by first | rfl | (simp only [sI_1, sI_A, sI_G, sA_1, sA_A, sA_G, sG_1, sG_A, sG_G]; repeat rw [if_neg (by omega)])), hc.cg (fun n q1 q2 => by first | rfl | (simp only [sI_1, sI_A, sI_G, sA_1, sA_A, sA_G, sG_1, sG_A, sG_G]; repeat rw [if_neg (by omega)])) (fun n q1 q2 => by first | rfl | (simp only [sI_1, sI_A, sI_G, sA_1, sA_A, sA_G, sG_1, sG_A, sG_G]; repeat rw [if_neg (by omega)])) (fun n q1 q2 => by first | rfl | (simp only [sI_1, sI_A, sI_G, sA_1, sA_A, sA_G, sG_1, sG_A, sG_G]; repeat rw [if_neg (by omega)])) (fun n q1 q2 => by first | rfl | (simp only [sI_1, sI_A, sI_G, sA_1, sA_A, sA_G, sG_1, sG_A, sG_G]; repeat rw [if_neg (by omega)])) (Nat.le_of_eq (nG_cg (by first | rfl | (simp only [sI_1, sI_A, sI_G, sA_1, sA_A, sA_G, sG_1, sG_A, sG_G]; repeat rw [if_neg (by omega)]))).symm), ht0.cg (by first | rfl | (simp only [sI_1, sI_A, sI_G, sA_1, sA_A, sA_G, sG_1, sG_A, sG_G]; repeat rw [if_neg (by omega)])) (by first | rfl | (simp only [sI_1, sI_A, sI_G, sA_1, sA_A, sA_G, sG_1, sG_A, sG_G]; repeat rw [if_neg (by omega)])) (by first | rfl | (simp only [sI_1, sI_A, sI_G, sA_1, sA_A, sA_G, sG_1, sG_A, sG_G]; repeat rw [if_neg (by omega)])) (by first | rfl | (simp only [sI_1, sI_A, sI_G, sA_1, sA_A, sA_G, sG_1, sG_A, sG_G]; repeat rw [if_neg (by omega)])), hl.cg (by first | rfl | (simp only [sI_1, sI_A, sI_G, sA_1, sA_A, sA_G, sG_1, sG_A, sG_G]; repeat rw [if_neg (by omega)])) (fun n q1 q2 => by first | rfl | (simp only [sI_1, sI_A, sI_G, sA_1, sA_A, sA_G, sG_1, sG_A, sG_G]; repeat rw [if_neg (by omega)])) (by first | rfl | (simp only [sI_1, sI_A, sI_G, sA_1, sA_A, sA_G, sG_1, sG_A, sG_G]; repeat rw [if_neg (by omega)])) (fun n q1 q2 => by first | rfl | (simp only [sI_1, sI_A, sI_G, sA_1, sA_A, sA_G, sG_1, sG_A, sG_G]; repeat rw [if_neg (by omega)])), hd.cg (Nat.le_succ _) (fun n q1 q2 => by first | rfl | (simp only [sI_1, sI_A, sI_G, sA_1, sA_A, sA_G, sG_1, sG_A, sG_G]; repeat rw [if_neg (by omega)])) (by first | rfl | (simp only [sI_1, sI_A, sI_G, sA_1, sA_A, sA_G, sG_1, sG_A, sG_G]; repeat rw [if_neg (by omega)])) (by first | rfl | (simp only [sI_1, sI_A, sI_G, sA_1, sA_A, sA_G, sG_1, sG_A, sG_G]; repeat rw [if_neg (by omega)])) (fun n q1 q2 => by first | rfl | (simp only [sI_1, sI_A, sI_G, sA_1, sA_A, sA_G, sG_1, sG_A, sG_G]; repeat rw [if_neg (by omega)])), hb.cg (fun n q1 q2 => by first | rfl | (simp only [sI_1, sI_A, sI_G, sA_1, sA_A, sA_G, sG_1, sG_A, sG_G]; repeat rw [if_neg (by omega)])) (fun n q1 q2 => by first | rfl | (simp only [sI_1, sI_A, sI_G, sA_1, sA_A, sA_G, sG_1, sG_A, sG_G]; repeat rw [if_neg (by omega)])) (fun n q1 q2 => by first | rfl | (simp only [sI_1, sI_A, sI_G, sA_1, sA_A, sA_G, sG_1, sG_A, sG_G]; repeat rw [if_neg (by omega)])) (fun n q1 q2 => by first | rfl | (simp only [sI_1, sI_A, sI_G, sA_1, sA_A, sA_G, sG_1, sG_A, sG_G]; repeat rw [if_neg (by omega)])), ?_⟩
        · intro i2 hi
          by_cases hij : i2 = o
          · subst hij
            unfold CPs1
            right; right
            refine ⟨u, w, f1, f2, f3, f4, f5, f6, f7, fun k hk => ?_⟩
            have v1 : (sG (sG y 107 (wr (y.2.2 106) (60 * j + i) 0 (y.2.2 107) 0 c)) 106 (wr (wr (y.2.2 106) (60 * j + i) 0 (y.2.2 107) 0 c) 0 (60 * i2 + q) (y.2.2 106) 0 c)).2.2 106 = wr (wr (y.2.2 106) (60 * j + i) 0 (y.2.2 107) 0 c) 0 (60 * i2 + q) (y.2.2 106) 0 c := sG_at _ _ _
            rw [sG_at, v1, wr_at, wr_at]
            unfold va_cpy
            by_cases hk2 : q ≤ k ∧ k < q + c
            · have q8 := e8 (i + (k - q)) (by omega)
              rw [if_pos hk2, if_pos (by omega), if_pos (by omega), show 60 * j + i + (0 + (60 * i2 + k - (60 * i2 + q)) - 0) = 60 * j + (i + (k - q)) by omega]
              rw [← hsu]
              exact q8
            · rw [if_neg hk2, if_neg (by omega)]
              exact f8 k hk
          · refine (hs i2 hi).cg (fun _ _ _ => rfl) (by exact if_neg (by omega)) (Int.le_refl _) rfl rfl (fun k hk => ?_)
            show wr (wr (y.2.2 106) (60 * j + i) 0 (y.2.2 107) 0 c) 0 (60 * o + q) (y.2.2 106) 0 c (60 * i2 + k) = _
            rw [wr_at, if_neg (by omega)]
      · refine PW.deeper (k := (2, 0, 0, z)) (Nat.le_of_ble_eq_true rfl) (Nat.le_refl _) (Nat.le_refl _) ?_
        refine PW_aload_n c_G_shift_0 rfl ?_
        refine PW_iload_n c_G_shift_1 rfl ?_
        refine PW_V0 (d2 := 0) (st := []) [.int (nI j)] c_G_shift_2 lk_G_shift_102 (po_5 _ _) rfl rfl rfl (Nat.le_of_ble_eq_true rfl) (by first | decide | omega) (Nat.le_of_ble_eq_true rfl) ?_
        refine sp_shelf hj ?_
        show PW _ _ _ 5 [some (.ref 5), some (.int (nI j)), some (.int (nI i)), some (.int (nI o)), some (.int (nI q)), some (.int (nI c)), none, none] [.ref (58 + 2 * j)] (E x y)
        refine PW_astore (i := 6) (L2 := [some (.ref 5), some (.int (nI j)), some (.int (nI i)), some (.int (nI o)), some (.int (nI q)), some (.int (nI c)), some (.ref (58 + 2 * j)), none]) c_G_shift_5 (Nat.le_of_ble_eq_true rfl) rfl rfl ?_
        refine PW_aload_n c_G_shift_7 rfl ?_
        refine PW_iload_n c_G_shift_8 rfl ?_
        refine PW_V0 (d2 := 0) (st := []) [.int (nI o)] c_G_shift_9 lk_G_shift_102 (po_5 _ _) rfl rfl rfl (Nat.le_of_ble_eq_true rfl) (by first | decide | omega) (Nat.le_of_ble_eq_true rfl) ?_
        refine sp_shelf ho ?_
        show PW _ _ _ 12 [some (.ref 5), some (.int (nI j)), some (.int (nI i)), some (.int (nI o)), some (.int (nI q)), some (.int (nI c)), some (.ref (58 + 2 * j)), none] [.ref (58 + 2 * o)] (E x y)
        refine PW_astore (i := 7) (L2 := [some (.ref 5), some (.int (nI j)), some (.int (nI i)), some (.int (nI o)), some (.int (nI q)), some (.int (nI c)), some (.ref (58 + 2 * j)), some (.ref (58 + 2 * o))]) c_G_shift_12 (Nat.le_of_ble_eq_true rfl) rfl rfl ?_
        refine PW_aload c_G_shift_14 rfl ?_
        refine PW_ifnull c_G_shift_16 ?_
        refine PW_aload c_G_shift_19 rfl ?_
        refine PW_ifnonnull c_G_shift_21 ?_
        refine PW_aload c_G_shift_26 rfl ?_
        refine PW_V0 (d2 := 0) (st := []) [] c_G_shift_28 lk_G_shift_339 (sh_po _ _ hj) rfl rfl rfl (Nat.le_of_ble_eq_true rfl) (by first | decide | omega) (Nat.le_of_ble_eq_true rfl) ?_
        refine sp_F_isEmpty hj  ?_
        show PW _ _ _ 31 [some (.ref 5), some (.int (nI j)), some (.int (nI i)), some (.int (nI o)), some (.int (nI q)), some (.int (nI c)), some (.ref (58 + 2 * j)), some (.ref (58 + 2 * o))] [.int (b2i (x.1 ((58 + 2 * j) * 8 + 1) = 0))] (E x y)
        refine PW_if_ne c_G_shift_31 (fun h0 => absurd (b2i_n0.mp h0) (by rw [e4]; decide)) (fun _ => ?_)
        refine PW_aload c_G_shift_34 rfl ?_
        refine PW_V0 (d2 := 0) (st := []) [] c_G_shift_36 lk_G_shift_339 (sh_po _ _ ho) rfl rfl rfl (Nat.le_of_ble_eq_true rfl) (by first | decide | omega) (Nat.le_of_ble_eq_true rfl) ?_
        refine sp_F_isEmpty ho  ?_
        show PW _ _ _ 39 [some (.ref 5), some (.int (nI j)), some (.int (nI i)), some (.int (nI o)), some (.int (nI q)), some (.int (nI c)), some (.ref (58 + 2 * j)), some (.ref (58 + 2 * o))] [.int (b2i (x.1 ((58 + 2 * o) * 8 + 1) = 0))] (E x y)
        refine PW_if_eq c_G_shift_39 (fun _ => ?_) (fun h1 => absurd (b2i_n0.mp h1) (by rw [f4]; decide))
        refine PW_aload c_G_shift_45 rfl ?_
        refine PW_V0 (d2 := 0) (st := []) [] c_G_shift_47 lk_G_shift_342 (sh_po _ _ hj) rfl rfl rfl (Nat.le_of_ble_eq_true rfl) (by first | decide | omega) (Nat.le_of_ble_eq_true rfl) ?_
        refine sp_F_holdsRow hj  ?_
        show PW _ _ _ 50 [some (.ref 5), some (.int (nI j)), some (.int (nI i)), some (.int (nI o)), some (.int (nI q)), some (.int (nI c)), some (.ref (58 + 2 * j)), some (.ref (58 + 2 * o))] [.int (b2i (x.1 ((58 + 2 * j) * 8 + 1) = 2))] (E x y)
        refine PW_if_eq c_G_shift_50 (fun h2 => absurd e4 (b2i_0.mp h2)) (fun _ => ?_)
        refine PW_aload c_G_shift_53 rfl ?_
        refine PW_V0 (d2 := 0) (st := []) [] c_G_shift_55 lk_G_shift_342 (sh_po _ _ ho) rfl rfl rfl (Nat.le_of_ble_eq_true rfl) (by first | decide | omega) (Nat.le_of_ble_eq_true rfl) ?_
        refine sp_F_holdsRow ho  ?_
        show PW _ _ _ 58 [some (.ref 5), some (.int (nI j)), some (.int (nI i)), some (.int (nI o)), some (.int (nI q)), some (.int (nI c)), some (.ref (58 + 2 * j)), some (.ref (58 + 2 * o))] [.int (b2i (x.1 ((58 + 2 * o) * 8 + 1) = 2))] (E x y)
        refine PW_if_eq c_G_shift_58 (fun h3 => absurd f4 (b2i_0.mp h3)) (fun _ => ?_)
        refine PW_aload c_G_shift_61 rfl ?_
        refine PW_V0 (d2 := 0) (st := []) [] c_G_shift_63 lk_G_shift_345 (sh_po _ _ hj) rfl rfl rfl (Nat.le_of_ble_eq_true rfl) (by first | decide | omega) (Nat.le_of_ble_eq_true rfl) ?_
        show PW _ _ _ 0 [some (.ref (58 + 2 * j))] [] (E x y)
        refine PW_aload_n c_F_sort_0 rfl ?_
        refine PW_get (v := .int (x.1 ((58 + 2 * j) * 8 + 3))) c_F_sort_1 fl_F_19 (sh_g3 _ _ hj) ?_
        refine PW_ireturn (ty := .int) c_F_sort_4 rfl rfl ?_
        show PW _ _ _ 66 [some (.ref 5), some (.int (nI j)), some (.int (nI i)), some (.int (nI o)), some (.int (nI q)), some (.int (nI c)), some (.ref (58 + 2 * j)), some (.ref (58 + 2 * o))] [.int (x.1 ((58 + 2 * j) * 8 + 3))] (E x y)
        refine PW_aload c_G_shift_66 rfl ?_
        refine PW_V0 (d2 := 0) (st := [.int (x.1 ((58 + 2 * j) * 8 + 3))]) [] c_G_shift_68 lk_G_shift_345 (sh_po _ _ ho) rfl rfl rfl (Nat.le_of_ble_eq_true rfl) (by first | decide | omega) (Nat.le_of_ble_eq_true rfl) ?_
        show PW _ _ _ 0 [some (.ref (58 + 2 * o))] [] (E x y)
        refine PW_aload_n c_F_sort_0 rfl ?_
        refine PW_get (v := .int (x.1 ((58 + 2 * o) * 8 + 3))) c_F_sort_1 fl_F_19 (sh_g3 _ _ ho) ?_
        refine PW_ireturn (ty := .int) c_F_sort_4 rfl rfl ?_
        show PW _ _ _ 71 [some (.ref 5), some (.int (nI j)), some (.int (nI i)), some (.int (nI o)), some (.int (nI q)), some (.int (nI c)), some (.ref (58 + 2 * j)), some (.ref (58 + 2 * o))] [.int (x.1 ((58 + 2 * o) * 8 + 3)), .int (x.1 ((58 + 2 * j) * 8 + 3))] (E x y)
        refine PW_icmp_eq c_G_shift_71 (fun h4 => ?_) (fun h4 => absurd (by rw [e5, f5, hsu]) h4)
        refine PW_aload c_G_shift_77 rfl ?_
        refine PW_iload_n c_G_shift_79 rfl ?_
        refine PW_iload c_G_shift_80 rfl ?_
        refine PW_V0 (d2 := 0) (st := []) [.int (nI i), .int (nI c)] c_G_shift_82 lk_G_shift_348 (sh_po _ _ hj) rfl rfl rfl (Nat.le_of_ble_eq_true rfl) (by first | decide | omega) (Nat.le_of_ble_eq_true rfl) ?_
        refine sp_F_hasPlaces hj zj0 ?_
        show PW _ _ _ 85 [some (.ref 5), some (.int (nI j)), some (.int (nI i)), some (.int (nI o)), some (.int (nI q)), some (.int (nI c)), some (.ref (58 + 2 * j)), some (.ref (58 + 2 * o))] [.int (b2i (0 ≤ (nI i).toInt ∧ 0 ≤ (nI c).toInt ∧ (nI c).toInt ≤ (x.1 ((58 + 2 * j) * 8 + 4)).toInt ∧ (nI i).toInt ≤ (x.1 ((58 + 2 * j) * 8 + 4)).toInt - (nI c).toInt))] (E x y)
        refine PW_if_eq c_G_shift_85 (fun h5 => absurd g1 (b2i_0.mp h5)) (fun _ => ?_)
        refine PW_aload c_G_shift_88 rfl ?_
        refine PW_iload c_G_shift_90 rfl ?_
        refine PW_iload c_G_shift_92 rfl ?_
        refine PW_V0 (d2 := 0) (st := []) [.int (nI q), .int (nI c)] c_G_shift_94 lk_G_shift_348 (sh_po _ _ ho) rfl rfl rfl (Nat.le_of_ble_eq_true rfl) (by first | decide | omega) (Nat.le_of_ble_eq_true rfl) ?_
        refine sp_F_hasPlaces ho zo0 ?_
        show PW _ _ _ 97 [some (.ref 5), some (.int (nI j)), some (.int (nI i)), some (.int (nI o)), some (.int (nI q)), some (.int (nI c)), some (.ref (58 + 2 * j)), some (.ref (58 + 2 * o))] [.int (b2i (0 ≤ (nI q).toInt ∧ 0 ≤ (nI c).toInt ∧ (nI c).toInt ≤ (x.1 ((58 + 2 * o) * 8 + 4)).toInt ∧ (nI q).toInt ≤ (x.1 ((58 + 2 * o) * 8 + 4)).toInt - (nI c).toInt))] (E x y)
        refine PW_if_ne c_G_shift_97 (fun _ => ?_) (fun h6 => absurd g2 (b2i_0.mp h6))
        refine PW_aload c_G_shift_103 rfl ?_
        refine PW_aload c_G_shift_105 rfl ?_
        refine PW_iload_n c_G_shift_107 rfl ?_
        refine PW_iload c_G_shift_108 rfl ?_
        refine PW_iload c_G_shift_110 rfl ?_
        refine PW_V0 (d2 := 1) (st := []) [.ref (58 + 2 * j), .int (nI i), .int (nI q), .int (nI c)] c_G_shift_112 lk_G_shift_351 (sh_po _ _ ho) rfl rfl rfl (Nat.le_of_ble_eq_true rfl) (by first | decide | omega) (Nat.le_of_ble_eq_true rfl) ?_
        refine sp_F_copyFrom hj ho rfl rfl rfl (by omega) (by omega) zj0 zo0 g1 g2 ?_
        show PW _ _ _ 115 [some (.ref 5), some (.int (nI j)), some (.int (nI i)), some (.int (nI o)), some (.int (nI q)), some (.int (nI c)), some (.ref (58 + 2 * j)), some (.ref (58 + 2 * o))] [] (E (sG x (59 + 2 * o) (va_cpy (x.2.2 (59 + 2 * j)) (x.2.2 (59 + 2 * o)) i q c)) y)
        refine PW_iload c_G_shift_115 rfl ?_
        refine PW_ireturn (ty := .int) c_G_shift_117 rfl rfl ?_
        exact h
      · refine PW.deeper (k := (2, 0, 0, z)) (Nat.le_of_ble_eq_true rfl) (Nat.le_refl _) (Nat.le_refl _) ?_
        refine PW_iload_n c_M_shift_0 rfl ?_
        refine PW_S0 (d2 := 1) (st := []) [.int (nI j)] c_M_shift_1 lk_M_shift_143 rfl rfl rfl (Nat.le_of_ble_eq_true rfl) (by first | decide | omega) (Nat.le_of_ble_eq_true rfl) ?_
        refine sp_M_isShelf2  ?_
        show PW _ _ _ 4 [some (.ref 70), some (.int (nI j)), some (.int (nI i)), some (.int (nI o)), some (.int (nI q)), some (.int (nI c)), none] [.int (b2i (0 ≤ (nI j).toInt ∧ (nI j).toInt < 6))] (E (sG x (59 + 2 * o) (va_cpy (x.2.2 (59 + 2 * j)) (x.2.2 (59 + 2 * o)) i q c)) y)
        refine PW_if_eq c_M_shift_4 (fun h0 => absurd hjs (b2i_0.mp h0)) (fun _ => ?_)
        refine PW_iload_n c_M_shift_7 rfl ?_
        refine PW_S0 (d2 := 1) (st := []) [.int (nI o)] c_M_shift_8 lk_M_shift_143 rfl rfl rfl (Nat.le_of_ble_eq_true rfl) (by first | decide | omega) (Nat.le_of_ble_eq_true rfl) ?_
        refine sp_M_isShelf2  ?_
        show PW _ _ _ 11 [some (.ref 70), some (.int (nI j)), some (.int (nI i)), some (.int (nI o)), some (.int (nI q)), some (.int (nI c)), none] [.int (b2i (0 ≤ (nI o).toInt ∧ (nI o).toInt < 6))] (E (sG x (59 + 2 * o) (va_cpy (x.2.2 (59 + 2 * j)) (x.2.2 (59 + 2 * o)) i q c)) y)
        refine PW_if_ne c_M_shift_11 (fun _ => ?_) (fun h1 => absurd hos (b2i_0.mp h1))
        refine PW_aload_n c_M_shift_16 rfl ?_
        refine PW_get (v := .ref 104) c_M_shift_17 fl_M_111 (gf_70_53 _ _) ?_
        refine PW_iload_n c_M_shift_20 rfl ?_
        refine PW_iald (j := j) c_M_shift_21 (ar_104 _ _) (vp_in_nI hj (by decide)) (nI_clamp (by omega)) ?_
        show PW _ _ _ 22 [some (.ref 70), some (.int (nI j)), some (.int (nI i)), some (.int (nI o)), some (.int (nI q)), some (.int (nI c)), none] [.int ((y.2.1 104) j)] (E (sG x (59 + 2 * o) (va_cpy (x.2.2 (59 + 2 * j)) (x.2.2 (59 + 2 * o)) i q c)) y)
        refine PW_iconst (v := -1) c_M_shift_22 (by decide) ?_
        refine PW_icmp_eq c_M_shift_23 (fun h2 => absurd h2 (by rw [e3]; exact ho_n1 e1)) (fun h2 => ?_)
        refine PW_aload_n c_M_shift_26 rfl ?_
        refine PW_get (v := .ref 104) c_M_shift_27 fl_M_111 (gf_70_53 _ _) ?_
        refine PW_iload_n c_M_shift_30 rfl ?_
        refine PW_iald (j := o) c_M_shift_31 (ar_104 _ _) (vp_in_nI ho (by decide)) (nI_clamp (by omega)) ?_
        show PW _ _ _ 32 [some (.ref 70), some (.int (nI j)), some (.int (nI i)), some (.int (nI o)), some (.int (nI q)), some (.int (nI c)), none] [.int ((y.2.1 104) o)] (E (sG x (59 + 2 * o) (va_cpy (x.2.2 (59 + 2 * j)) (x.2.2 (59 + 2 * o)) i q c)) y)
        refine PW_iconst (v := -1) c_M_shift_32 (by decide) ?_
        refine PW_icmp_ne c_M_shift_33 (fun h3 => ?_) (fun h3 => absurd h3 (by rw [f3]; exact ho_n1 f1))
        refine PW_aload_n c_M_shift_39 rfl ?_
        refine PW_get (v := .ref 104) c_M_shift_40 fl_M_111 (gf_70_53 _ _) ?_
        refine PW_iload_n c_M_shift_43 rfl ?_
        refine PW_iald (j := j) c_M_shift_44 (ar_104 _ _) (vp_in_nI hj (by decide)) (nI_clamp (by omega)) ?_
        show PW _ _ _ 45 [some (.ref 70), some (.int (nI j)), some (.int (nI i)), some (.int (nI o)), some (.int (nI q)), some (.int (nI c)), none] [.int ((y.2.1 104) j)] (E (sG x (59 + 2 * o) (va_cpy (x.2.2 (59 + 2 * j)) (x.2.2 (59 + 2 * o)) i q c)) y)
        refine PW_if_ge c_M_shift_45 (fun h4 => absurd h4 (Int32.not_le.mpr (by rw [e3]; exact ho_lt e1))) (fun h4 => ?_)
        refine PW_aload_n c_M_shift_48 rfl ?_
        refine PW_get (v := .ref 104) c_M_shift_49 fl_M_111 (gf_70_53 _ _) ?_
        refine PW_iload_n c_M_shift_52 rfl ?_
        refine PW_iald (j := j) c_M_shift_53 (ar_104 _ _) (vp_in_nI hj (by decide)) (nI_clamp (by omega)) ?_
        show PW _ _ _ 54 [some (.ref 70), some (.int (nI j)), some (.int (nI i)), some (.int (nI o)), some (.int (nI q)), some (.int (nI c)), none] [.int ((y.2.1 104) j)] (E (sG x (59 + 2 * o) (va_cpy (x.2.2 (59 + 2 * j)) (x.2.2 (59 + 2 * o)) i q c)) y)
        refine PW_aload_n c_M_shift_54 rfl ?_
        refine PW_get (v := .ref 104) c_M_shift_55 fl_M_111 (gf_70_53 _ _) ?_
        refine PW_iload_n c_M_shift_58 rfl ?_
        refine PW_iald (j := o) c_M_shift_59 (ar_104 _ _) (vp_in_nI ho (by decide)) (nI_clamp (by omega)) ?_
        show PW _ _ _ 60 [some (.ref 70), some (.int (nI j)), some (.int (nI i)), some (.int (nI o)), some (.int (nI q)), some (.int (nI c)), none] [.int ((y.2.1 104) o), .int ((y.2.1 104) j)] (E (sG x (59 + 2 * o) (va_cpy (x.2.2 (59 + 2 * j)) (x.2.2 (59 + 2 * o)) i q c)) y)
        refine PW_icmp_eq c_M_shift_60 (fun h5 => ?_) (fun h5 => absurd (by rw [e3, f3, hsu]) h5)
        refine PW_iload c_M_shift_66 rfl ?_
        refine PW_if_lt c_M_shift_68 (fun h6 => absurd h6 (not_neg (by omega))) (fun h6 => ?_)
        refine PW_iload_n c_M_shift_71 rfl ?_
        refine PW_if_lt c_M_shift_72 (fun h7 => absurd h7 (not_neg (by omega))) (fun h7 => ?_)
        refine PW_iload c_M_shift_75 rfl ?_
        refine PW_if_lt c_M_shift_77 (fun h8 => absurd h8 (not_neg (by omega))) (fun h8 => ?_)
        refine PW_iload_n c_M_shift_80 rfl ?_
        refine PW_aload_n c_M_shift_81 rfl ?_
        refine PW_get (v := .ref 105) c_M_shift_82 fl_M_114 (gf_70_54 _ _) ?_
        refine PW_iload_n c_M_shift_85 rfl ?_
        refine PW_iald (j := j) c_M_shift_86 (ar_105 _ _) (vp_in_nI hj (by decide)) (nI_clamp (by omega)) ?_
        show PW _ _ _ 87 [some (.ref 70), some (.int (nI j)), some (.int (nI i)), some (.int (nI o)), some (.int (nI q)), some (.int (nI c)), none] [.int ((y.2.1 105) j), .int (nI i)] (E (sG x (59 + 2 * o) (va_cpy (x.2.2 (59 + 2 * j)) (x.2.2 (59 + 2 * o)) i q c)) y)
        refine PW_iload c_M_shift_87 rfl ?_
        refine PW_isub c_M_shift_89 ?_
        refine PW_icmp_gt c_M_shift_90 (fun h9 => absurd h9 m1) (fun h9 => ?_)
        refine PW_iload c_M_shift_93 rfl ?_
        refine PW_aload_n c_M_shift_95 rfl ?_
        refine PW_get (v := .ref 105) c_M_shift_96 fl_M_114 (gf_70_54 _ _) ?_
        refine PW_iload_n c_M_shift_99 rfl ?_
        refine PW_iald (j := o) c_M_shift_100 (ar_105 _ _) (vp_in_nI ho (by decide)) (nI_clamp (by omega)) ?_
        show PW _ _ _ 101 [some (.ref 70), some (.int (nI j)), some (.int (nI i)), some (.int (nI o)), some (.int (nI q)), some (.int (nI c)), none] [.int ((y.2.1 105) o), .int (nI q)] (E (sG x (59 + 2 * o) (va_cpy (x.2.2 (59 + 2 * j)) (x.2.2 (59 + 2 * o)) i q c)) y)
        refine PW_iload c_M_shift_101 rfl ?_
        refine PW_isub c_M_shift_103 ?_
        refine PW_icmp_le c_M_shift_104 (fun h10 => ?_) (fun h10 => absurd m2 h10)
        refine PW_iconst (v := 0) c_M_shift_110 (by decide) ?_
        refine PW_istore (i := 6) (L2 := [some (.ref 70), some (.int (nI j)), some (.int (nI i)), some (.int (nI o)), some (.int (nI q)), some (.int (nI c)), some (.int 0)]) c_M_shift_111 (Nat.le_of_ble_eq_true rfl) rfl rfl ?_
        refine PW.eqL (L2 := [some (.ref 70), some (.int (nI j)), some (.int (nI i)), some (.int (nI o)), some (.int (nI q)), some (.int (nI c)), some (.int (nI 0))]) ?_ rfl rfl (lp_M_shift1 (sj := j) (oj := o) (i := i) (jj := q) (c := c) hj ho (by omega) (by omega) c 0 y (Nat.zero_add _) ?_)
        · rfl
        · refine PW_iconst (v := 0) c_M_shift_147 (by decide) ?_
          refine PW_istore (i := 6) (L2 := [some (.ref 70), some (.int (nI j)), some (.int (nI i)), some (.int (nI o)), some (.int (nI q)), some (.int (nI c)), some (.int 0)]) c_M_shift_148 (Nat.le_of_ble_eq_true rfl) rfl rfl ?_
          refine PW.eqL (L2 := [some (.ref 70), some (.int (nI j)), some (.int (nI i)), some (.int (nI o)), some (.int (nI q)), some (.int (nI c)), some (.int (nI 0))]) ?_ rfl rfl (lp_M_shift2 (sj := j) (oj := o) (i := i) (jj := q) (c := c) hj ho (by omega) (by omega) c 0 (sG y 107 (wr (y.2.2 106) (60 * j + i) 0 (y.2.2 107) 0 c)) (Nat.zero_add _) ?_)
          · rfl
          · refine PW_iload c_M_shift_185 rfl ?_
            refine PW_ireturn (ty := .int) c_M_shift_187 rfl rfl ?_
            exact h
