set_option maxHeartbeats 4000000 in
theorem op_of {t : Nat} {x y : XS} {a1 : Int32} {a2 : Int32} (hI : INV t x y) (ht : t < 512) : ∃ (r : Int32) (x' y' : XS), INV (t + 1) x' y' ∧ (∀ {z : ZS} {post : Option Value → List PE → Prop}, post (some (.int r)) (E x' y) → PW (90, 0, 0, z) m_G_of post 0 [some (.ref 5), some (.int a1), some (.int a2)] [] (E x y)) ∧ (∀ {z : ZS} {post : Option Value → List PE → Prop}, post (some (.int r)) (E x' y') → PW (90, 0, 0, z) m_M_of post 0 [some (.ref 70), some (.int a1), some (.int a2)] [] (E x' y)) := by
  obtain ⟨hg, hc, ht0, hl, hd, hb, hs⟩ := id hI

  by_cases hw0 : a2 = 0
  · subst hw0
    by_cases hc0 : 0 ≤ a1.toInt ∧ a1.toInt < (nG y : Int)
    · refine ⟨y.2.1 71 a1.toNatClampNeg, x, y, ?_, fun {z post} h => ?_, fun {z post} h => ?_⟩
      · exact INV_step hI
      · refine PW.deeper (k := (3, 0, 0, z)) (Nat.le_of_ble_eq_true rfl) (Nat.le_refl _) (Nat.le_refl _) ?_
        refine PW_aload_n c_G_of_0 rfl ?_
        refine PW_get (v := .ref 6) c_G_of_1 fl_G_13 (gf_5_0 _ _) ?_
        refine PW_iload_n c_G_of_4 rfl ?_
        refine PW_iload_n c_G_of_5 rfl ?_
        refine PW_V0 (d2 := 1) (st := []) [.int a1, .int 0] c_G_of_6 lk_G_of_124 (po_6 _ _) rfl rfl rfl (Nat.le_of_ble_eq_true rfl) (by first | decide | omega) (Nat.le_of_ble_eq_true rfl) ?_
        show PW _ _ _ 0 [some (.ref 6), some (.int a1), some (.int 0)] [] (E x y)
        refine PW_iload_n c_H_hasFact_0 rfl ?_
        refine PW_bipush (v := 7) c_H_hasFact_1 (by decide) ?_
        refine PW_icmp_ne c_H_hasFact_3 (fun _ => ?_) (fun h0 => absurd h0 (by decide))
        refine PW_iload_n c_H_hasFact_25 rfl ?_
        refine PW_if_lt c_H_hasFact_26 (fun h1 => absurd h1 (by decide)) (fun _ => ?_)
        refine PW_iload_n c_H_hasFact_29 rfl ?_
        refine PW_aload_n c_H_hasFact_30 rfl ?_
        refine PW_get (v := .ref 7) c_H_hasFact_31 fl_H_13 (gf_6_0 _ _) ?_
        refine PW_alen (v := 7) c_H_hasFact_34 (ar_7 _ _) (t0 := 5) rfl (by decide) ?_
        refine PW_icmp_ge c_H_hasFact_35 (fun h2 => absurd h2 (by decide)) (fun _ => ?_)
        refine PW_aload_n c_H_hasFact_38 rfl ?_
        refine PW_iload_n c_H_hasFact_39 rfl ?_
        refine PW_V0 (d2 := 0) (st := []) [.int a1] c_H_hasFact_40 lk_H_hasFact_37 (po_6 _ _) rfl rfl rfl (Nat.le_of_ble_eq_true rfl) (by first | decide | omega) (Nat.le_of_ble_eq_true rfl) ?_
        refine sp_H_isGuest hg.W hg.x51 ?_
        show PW _ _ _ 43 [some (.ref 6), some (.int a1), some (.int 0)] [.int (b2i (0 ≤ a1.toInt ∧ a1.toInt < (nG y : Int)))] (E x y)
        refine PW_if_eq c_H_hasFact_43 (fun h3 => absurd hc0 (b2i_0.mp h3)) (fun _ => ?_)
        refine PW_iconst (v := 1) c_H_hasFact_46 (by decide) ?_
        refine PW_goto c_H_hasFact_47 ?_
        refine PW_ireturn (ty := .boolean) c_H_hasFact_51 rfl (by decide +kernel) ?_
        show PW _ _ _ 9 [some (.ref 5), some (.int a1), some (.int 0)] [.int 1] (E x y)
        refine PW_if_eq c_G_of_9 (fun h4 => absurd h4 (by decide)) (fun _ => ?_)
        refine PW_aload_n c_G_of_12 rfl ?_
        refine PW_get (v := .ref 6) c_G_of_13 fl_G_13 (gf_5_0 _ _) ?_
        refine PW_iload_n c_G_of_16 rfl ?_
        refine PW_iload_n c_G_of_17 rfl ?_
        refine PW_V0 (d2 := 2) (st := []) [.int a1, .int 0] c_G_of_18 lk_G_of_127 (po_6 _ _) rfl rfl rfl (Nat.le_of_ble_eq_true rfl) (by first | decide | omega) (Nat.le_of_ble_eq_true rfl) ?_
        show PW _ _ _ 0 [some (.ref 6), some (.int a1), some (.int 0)] [] (E x y)
        refine PW_aload_n c_H_fact_0 rfl ?_
        refine PW_iload_n c_H_fact_1 rfl ?_
        refine PW_iload_n c_H_fact_2 rfl ?_
        refine PW_V0 (d2 := 1) (st := []) [.int a1, .int 0] c_H_fact_3 lk_H_fact_41 (po_6 _ _) rfl rfl rfl (Nat.le_of_ble_eq_true rfl) (by first | decide | omega) (Nat.le_of_ble_eq_true rfl) ?_
        show PW _ _ _ 0 [some (.ref 6), some (.int a1), some (.int 0)] [] (E x y)
        refine PW_iload_n c_H_hasFact_0 rfl ?_
        refine PW_bipush (v := 7) c_H_hasFact_1 (by decide) ?_
        refine PW_icmp_ne c_H_hasFact_3 (fun _ => ?_) (fun h5 => absurd h5 (by decide))
        refine PW_iload_n c_H_hasFact_25 rfl ?_
        refine PW_if_lt c_H_hasFact_26 (fun h6 => absurd h6 (by decide)) (fun _ => ?_)
        refine PW_iload_n c_H_hasFact_29 rfl ?_
        refine PW_aload_n c_H_hasFact_30 rfl ?_
        refine PW_get (v := .ref 7) c_H_hasFact_31 fl_H_13 (gf_6_0 _ _) ?_
        refine PW_alen (v := 7) c_H_hasFact_34 (ar_7 _ _) (t0 := 5) rfl (by decide) ?_
        refine PW_icmp_ge c_H_hasFact_35 (fun h7 => absurd h7 (by decide)) (fun _ => ?_)
        refine PW_aload_n c_H_hasFact_38 rfl ?_
        refine PW_iload_n c_H_hasFact_39 rfl ?_
        refine PW_V0 (d2 := 0) (st := []) [.int a1] c_H_hasFact_40 lk_H_hasFact_37 (po_6 _ _) rfl rfl rfl (Nat.le_of_ble_eq_true rfl) (by first | decide | omega) (Nat.le_of_ble_eq_true rfl) ?_
        refine sp_H_isGuest hg.W hg.x51 ?_
        show PW _ _ _ 43 [some (.ref 6), some (.int a1), some (.int 0)] [.int (b2i (0 ≤ a1.toInt ∧ a1.toInt < (nG y : Int)))] (E x y)
        refine PW_if_eq c_H_hasFact_43 (fun h8 => absurd hc0 (b2i_0.mp h8)) (fun _ => ?_)
        refine PW_iconst (v := 1) c_H_hasFact_46 (by decide) ?_
        refine PW_goto c_H_hasFact_47 ?_
        refine PW_ireturn (ty := .boolean) c_H_hasFact_51 rfl (by decide +kernel) ?_
        show PW _ _ _ 6 [some (.ref 6), some (.int a1), some (.int 0)] [.int 1] (E x y)
        refine PW_if_ne c_H_fact_6 (fun _ => ?_) (fun h9 => absurd h9 (by decide))
        refine PW_iload_n c_H_fact_11 rfl ?_
        refine PW_bipush (v := 7) c_H_fact_12 (by decide) ?_
        refine PW_icmp_ne c_H_fact_14 (fun _ => ?_) (fun h10 => absurd h10 (by decide))
        refine PW_aload_n c_H_fact_26 rfl ?_
        refine PW_get (v := .ref 7) c_H_fact_27 fl_H_13 (gf_6_0 _ _) ?_
        refine PW_iload_n c_H_fact_30 rfl ?_
        refine PW_aald (j := 0) c_H_fact_31 (ar_7 _ _) (t0 := 5) rfl rfl (vp_in_iff.mpr (by decide)) rfl ?_
        rw [if_pos (by decide)]
        show PW _ _ _ 32 [some (.ref 6), some (.int a1), some (.int 0)] [.ref 8] (E x y)
        refine PW_iload_n c_H_fact_32 rfl ?_
        refine PW_iald (j := a1.toNatClampNeg) c_H_fact_33 (ar_8 _ _) (vp_in_iff.mpr (g10 hg hc0)) rfl ?_
        show PW _ _ _ 34 [some (.ref 6), some (.int a1), some (.int 0)] [.int ((x.2.1 8) a1.toNatClampNeg)] (E x y)
        refine PW_ireturn (ty := .int) c_H_fact_34 rfl rfl ?_
        show PW _ _ _ 21 [some (.ref 5), some (.int a1), some (.int 0)] [.int ((x.2.1 8) a1.toNatClampNeg)] (E x y)
        refine PW_goto c_G_of_21 ?_
        refine PW_ireturn (ty := .int) c_G_of_25 rfl rfl ?_
        exact pqi h (hg.row 0 (by omega) (gnat hc0)).symm
      · refine PW.deeper (k := (3, 0, 0, z)) (Nat.le_of_ble_eq_true rfl) (Nat.le_refl _) (Nat.le_refl _) ?_
        refine PW_aload_n c_M_of_0 rfl ?_
        refine PW_iload_n c_M_of_1 rfl ?_
        refine PW_iload_n c_M_of_2 rfl ?_
        refine PW_V0 (d2 := 2) (st := []) [.int a1, .int 0] c_M_of_3 lk_M_of_165 (po_70 _ _) rfl rfl rfl (Nat.le_of_ble_eq_true rfl) (by first | decide | omega) (Nat.le_of_ble_eq_true rfl) ?_
        show PW _ _ _ 0 [some (.ref 70), some (.int a1), some (.int 0)] [] (E x y)
        refine PW_iload_n c_M_isThing_0 rfl ?_
        refine PW_bipush (v := 7) c_M_isThing_1 (by decide) ?_
        refine PW_icmp_ne c_M_isThing_3 (fun _ => ?_) (fun h0 => absurd h0 (by decide))
        refine PW_iload_n c_M_isThing_15 rfl ?_
        refine PW_iconst (v := 0) c_M_isThing_16 (by decide) ?_
        refine PW_bipush (v := 6) c_M_isThing_17 (by decide) ?_
        refine PW_S0 (d2 := 0) (st := []) [.int 0, .int 0, .int 6] c_M_isThing_19 lk_M_isThing_131 rfl rfl rfl (Nat.le_of_ble_eq_true rfl) (by first | decide | omega) (Nat.le_of_ble_eq_true rfl) ?_
        refine sp_M_within  ?_
        show PW _ _ _ 22 [some (.ref 70), some (.int a1), some (.int 0)] [.int (b2i ((0 : Int32) ≤ (0 : Int32) ∧ (0 : Int32) ≤ (6 : Int32)))] (E x y)
        refine PW_if_eq c_M_isThing_22 (fun h1 => absurd (by decide) (b2i_0.mp h1)) (fun _ => ?_)
        refine PW_aload_n c_M_isThing_25 rfl ?_
        refine PW_iload_n c_M_isThing_26 rfl ?_
        refine PW_V0 (d2 := 1) (st := []) [.int a1] c_M_isThing_27 lk_M_isThing_162 (po_70 _ _) rfl rfl rfl (Nat.le_of_ble_eq_true rfl) (by first | decide | omega) (Nat.le_of_ble_eq_true rfl) ?_
        refine sp_M_isGuest2 hg.W ?_
        show PW _ _ _ 30 [some (.ref 70), some (.int a1), some (.int 0)] [.int (b2i (0 ≤ a1.toInt ∧ a1.toInt < (nG y : Int)))] (E x y)
        refine PW_if_eq c_M_isThing_30 (fun h2 => absurd hc0 (b2i_0.mp h2)) (fun _ => ?_)
        refine PW_iconst (v := 1) c_M_isThing_33 (by decide) ?_
        refine PW_goto c_M_isThing_34 ?_
        refine PW_ireturn (ty := .boolean) c_M_isThing_38 rfl (by decide +kernel) ?_
        show PW _ _ _ 6 [some (.ref 70), some (.int a1), some (.int 0)] [.int 1] (E x y)
        refine PW_if_eq c_M_of_6 (fun h3 => absurd h3 (by decide)) (fun _ => ?_)
        refine PW_aload_n c_M_of_9 rfl ?_
        refine PW_iload_n c_M_of_10 rfl ?_
        refine PW_iload_n c_M_of_11 rfl ?_
        refine PW_V0 (d2 := 0) (st := []) [.int 0, .int a1] c_M_of_12 lk_M_of_148 (po_70 _ _) rfl rfl rfl (Nat.le_of_ble_eq_true rfl) (by first | decide | omega) (Nat.le_of_ble_eq_true rfl) ?_
        show PW _ _ _ 0 [some (.ref 70), some (.int 0), some (.int a1)] [] (E x y)
        refine PW_iload_n c_M_valueAt_0 rfl ?_
        refine PW_tableIn (tgt := 44) c_M_valueAt_1 (by decide) (by decide) rfl rfl ?_
        refine PW_aload_n c_M_valueAt_44 rfl ?_
        refine PW_get (v := .ref 71) c_M_valueAt_45 fl_M_7 (gf_70_2 _ _) ?_
        refine PW_iload_n c_M_valueAt_48 rfl ?_
        refine PW_iald (j := a1.toNatClampNeg) c_M_valueAt_49 (ar_71 _ _) (vp_in_iff.mpr (g10 hg hc0)) rfl ?_
        show PW _ _ _ 50 [some (.ref 70), some (.int 0), some (.int a1)] [.int ((y.2.1 71) a1.toNatClampNeg)] (E x y)
        refine PW_ireturn (ty := .int) c_M_valueAt_50 rfl rfl ?_
        show PW _ _ _ 15 [some (.ref 70), some (.int a1), some (.int 0)] [.int ((y.2.1 71) a1.toNatClampNeg)] (E x y)
        refine PW_goto c_M_of_15 ?_
        refine PW_ireturn (ty := .int) c_M_of_19 rfl rfl ?_
        exact h
    refine ⟨-1, x, y, ?_, fun {z post} h => ?_, fun {z post} h => ?_⟩
    · exact INV_step hI
    · refine PW.deeper (k := (3, 0, 0, z)) (Nat.le_of_ble_eq_true rfl) (Nat.le_refl _) (Nat.le_refl _) ?_
      refine PW_aload_n c_G_of_0 rfl ?_
      refine PW_get (v := .ref 6) c_G_of_1 fl_G_13 (gf_5_0 _ _) ?_
      refine PW_iload_n c_G_of_4 rfl ?_
      refine PW_iload_n c_G_of_5 rfl ?_
      refine PW_V0 (d2 := 1) (st := []) [.int a1, .int 0] c_G_of_6 lk_G_of_124 (po_6 _ _) rfl rfl rfl (Nat.le_of_ble_eq_true rfl) (by first | decide | omega) (Nat.le_of_ble_eq_true rfl) ?_
      show PW _ _ _ 0 [some (.ref 6), some (.int a1), some (.int 0)] [] (E x y)
      refine PW_iload_n c_H_hasFact_0 rfl ?_
      refine PW_bipush (v := 7) c_H_hasFact_1 (by decide) ?_
      refine PW_icmp_ne c_H_hasFact_3 (fun _ => ?_) (fun h0 => absurd h0 (by decide))
      refine PW_iload_n c_H_hasFact_25 rfl ?_
      refine PW_if_lt c_H_hasFact_26 (fun h1 => absurd h1 (by decide)) (fun _ => ?_)
      refine PW_iload_n c_H_hasFact_29 rfl ?_
      refine PW_aload_n c_H_hasFact_30 rfl ?_
      refine PW_get (v := .ref 7) c_H_hasFact_31 fl_H_13 (gf_6_0 _ _) ?_
      refine PW_alen (v := 7) c_H_hasFact_34 (ar_7 _ _) (t0 := 5) rfl (by decide) ?_
      refine PW_icmp_ge c_H_hasFact_35 (fun h2 => absurd h2 (by decide)) (fun _ => ?_)
      refine PW_aload_n c_H_hasFact_38 rfl ?_
      refine PW_iload_n c_H_hasFact_39 rfl ?_
      refine PW_V0 (d2 := 0) (st := []) [.int a1] c_H_hasFact_40 lk_H_hasFact_37 (po_6 _ _) rfl rfl rfl (Nat.le_of_ble_eq_true rfl) (by first | decide | omega) (Nat.le_of_ble_eq_true rfl) ?_
      refine sp_H_isGuest hg.W hg.x51 ?_
      show PW _ _ _ 43 [some (.ref 6), some (.int a1), some (.int 0)] [.int (b2i (0 ≤ a1.toInt ∧ a1.toInt < (nG y : Int)))] (E x y)
      refine PW_if_eq c_H_hasFact_43 (fun _ => ?_) (fun h3 => absurd (b2i_n0.mp h3) hc0)
      refine PW_iconst (v := 0) c_H_hasFact_50 (by decide) ?_
      refine PW_ireturn (ty := .boolean) c_H_hasFact_51 rfl (by decide +kernel) ?_
      show PW _ _ _ 9 [some (.ref 5), some (.int a1), some (.int 0)] [.int 0] (E x y)
      refine PW_if_eq c_G_of_9 (fun _ => ?_) (fun h4 => absurd (by decide) h4)
      refine PW_iconst (v := -1) c_G_of_24 (by decide) ?_
      refine PW_ireturn (ty := .int) c_G_of_25 rfl rfl ?_
      exact h
    · refine PW.deeper (k := (3, 0, 0, z)) (Nat.le_of_ble_eq_true rfl) (Nat.le_refl _) (Nat.le_refl _) ?_
      refine PW_aload_n c_M_of_0 rfl ?_
      refine PW_iload_n c_M_of_1 rfl ?_
      refine PW_iload_n c_M_of_2 rfl ?_
      refine PW_V0 (d2 := 2) (st := []) [.int a1, .int 0] c_M_of_3 lk_M_of_165 (po_70 _ _) rfl rfl rfl (Nat.le_of_ble_eq_true rfl) (by first | decide | omega) (Nat.le_of_ble_eq_true rfl) ?_
      show PW _ _ _ 0 [some (.ref 70), some (.int a1), some (.int 0)] [] (E x y)
      refine PW_iload_n c_M_isThing_0 rfl ?_
      refine PW_bipush (v := 7) c_M_isThing_1 (by decide) ?_
      refine PW_icmp_ne c_M_isThing_3 (fun _ => ?_) (fun h0 => absurd h0 (by decide))
      refine PW_iload_n c_M_isThing_15 rfl ?_
      refine PW_iconst (v := 0) c_M_isThing_16 (by decide) ?_
      refine PW_bipush (v := 6) c_M_isThing_17 (by decide) ?_
      refine PW_S0 (d2 := 0) (st := []) [.int 0, .int 0, .int 6] c_M_isThing_19 lk_M_isThing_131 rfl rfl rfl (Nat.le_of_ble_eq_true rfl) (by first | decide | omega) (Nat.le_of_ble_eq_true rfl) ?_
      refine sp_M_within  ?_
      show PW _ _ _ 22 [some (.ref 70), some (.int a1), some (.int 0)] [.int (b2i ((0 : Int32) ≤ (0 : Int32) ∧ (0 : Int32) ≤ (6 : Int32)))] (E x y)
      refine PW_if_eq c_M_isThing_22 (fun h1 => absurd (by decide) (b2i_0.mp h1)) (fun _ => ?_)
      refine PW_aload_n c_M_isThing_25 rfl ?_
      refine PW_iload_n c_M_isThing_26 rfl ?_
      refine PW_V0 (d2 := 1) (st := []) [.int a1] c_M_isThing_27 lk_M_isThing_162 (po_70 _ _) rfl rfl rfl (Nat.le_of_ble_eq_true rfl) (by first | decide | omega) (Nat.le_of_ble_eq_true rfl) ?_
      refine sp_M_isGuest2 hg.W ?_
      show PW _ _ _ 30 [some (.ref 70), some (.int a1), some (.int 0)] [.int (b2i (0 ≤ a1.toInt ∧ a1.toInt < (nG y : Int)))] (E x y)
      refine PW_if_eq c_M_isThing_30 (fun _ => ?_) (fun h2 => absurd (b2i_n0.mp h2) hc0)
      refine PW_iconst (v := 0) c_M_isThing_37 (by decide) ?_
      refine PW_ireturn (ty := .boolean) c_M_isThing_38 rfl (by decide +kernel) ?_
      show PW _ _ _ 6 [some (.ref 70), some (.int a1), some (.int 0)] [.int 0] (E x y)
      refine PW_if_eq c_M_of_6 (fun _ => ?_) (fun h3 => absurd (by decide) h3)
      refine PW_iconst (v := -1) c_M_of_18 (by decide) ?_
      refine PW_ireturn (ty := .int) c_M_of_19 rfl rfl ?_
      exact h
  by_cases hw1 : a2 = 1
  · subst hw1
    by_cases hc0 : 0 ≤ a1.toInt ∧ a1.toInt < (nG y : Int)
    · refine ⟨y.2.1 72 a1.toNatClampNeg, x, y, ?_, fun {z post} h => ?_, fun {z post} h => ?_⟩
      · exact INV_step hI
      · refine PW.deeper (k := (3, 0, 0, z)) (Nat.le_of_ble_eq_true rfl) (Nat.le_refl _) (Nat.le_refl _) ?_
        refine PW_aload_n c_G_of_0 rfl ?_
        refine PW_get (v := .ref 6) c_G_of_1 fl_G_13 (gf_5_0 _ _) ?_
        refine PW_iload_n c_G_of_4 rfl ?_
        refine PW_iload_n c_G_of_5 rfl ?_
        refine PW_V0 (d2 := 1) (st := []) [.int a1, .int 1] c_G_of_6 lk_G_of_124 (po_6 _ _) rfl rfl rfl (Nat.le_of_ble_eq_true rfl) (by first | decide | omega) (Nat.le_of_ble_eq_true rfl) ?_
        show PW _ _ _ 0 [some (.ref 6), some (.int a1), some (.int 1)] [] (E x y)
        refine PW_iload_n c_H_hasFact_0 rfl ?_
        refine PW_bipush (v := 7) c_H_hasFact_1 (by decide) ?_
        refine PW_icmp_ne c_H_hasFact_3 (fun _ => ?_) (fun h0 => absurd h0 (by decide))
        refine PW_iload_n c_H_hasFact_25 rfl ?_
        refine PW_if_lt c_H_hasFact_26 (fun h1 => absurd h1 (by decide)) (fun _ => ?_)
        refine PW_iload_n c_H_hasFact_29 rfl ?_
        refine PW_aload_n c_H_hasFact_30 rfl ?_
        refine PW_get (v := .ref 7) c_H_hasFact_31 fl_H_13 (gf_6_0 _ _) ?_
        refine PW_alen (v := 7) c_H_hasFact_34 (ar_7 _ _) (t0 := 5) rfl (by decide) ?_
        refine PW_icmp_ge c_H_hasFact_35 (fun h2 => absurd h2 (by decide)) (fun _ => ?_)
        refine PW_aload_n c_H_hasFact_38 rfl ?_
        refine PW_iload_n c_H_hasFact_39 rfl ?_
        refine PW_V0 (d2 := 0) (st := []) [.int a1] c_H_hasFact_40 lk_H_hasFact_37 (po_6 _ _) rfl rfl rfl (Nat.le_of_ble_eq_true rfl) (by first | decide | omega) (Nat.le_of_ble_eq_true rfl) ?_
        refine sp_H_isGuest hg.W hg.x51 ?_
        show PW _ _ _ 43 [some (.ref 6), some (.int a1), some (.int 1)] [.int (b2i (0 ≤ a1.toInt ∧ a1.toInt < (nG y : Int)))] (E x y)
        refine PW_if_eq c_H_hasFact_43 (fun h3 => absurd hc0 (b2i_0.mp h3)) (fun _ => ?_)
        refine PW_iconst (v := 1) c_H_hasFact_46 (by decide) ?_
        refine PW_goto c_H_hasFact_47 ?_
        refine PW_ireturn (ty := .boolean) c_H_hasFact_51 rfl (by decide +kernel) ?_
        show PW _ _ _ 9 [some (.ref 5), some (.int a1), some (.int 1)] [.int 1] (E x y)
        refine PW_if_eq c_G_of_9 (fun h4 => absurd h4 (by decide)) (fun _ => ?_)
        refine PW_aload_n c_G_of_12 rfl ?_
        refine PW_get (v := .ref 6) c_G_of_13 fl_G_13 (gf_5_0 _ _) ?_
        refine PW_iload_n c_G_of_16 rfl ?_
        refine PW_iload_n c_G_of_17 rfl ?_
        refine PW_V0 (d2 := 2) (st := []) [.int a1, .int 1] c_G_of_18 lk_G_of_127 (po_6 _ _) rfl rfl rfl (Nat.le_of_ble_eq_true rfl) (by first | decide | omega) (Nat.le_of_ble_eq_true rfl) ?_
        show PW _ _ _ 0 [some (.ref 6), some (.int a1), some (.int 1)] [] (E x y)
        refine PW_aload_n c_H_fact_0 rfl ?_
        refine PW_iload_n c_H_fact_1 rfl ?_
        refine PW_iload_n c_H_fact_2 rfl ?_
        refine PW_V0 (d2 := 1) (st := []) [.int a1, .int 1] c_H_fact_3 lk_H_fact_41 (po_6 _ _) rfl rfl rfl (Nat.le_of_ble_eq_true rfl) (by first | decide | omega) (Nat.le_of_ble_eq_true rfl) ?_
        show PW _ _ _ 0 [some (.ref 6), some (.int a1), some (.int 1)] [] (E x y)
        refine PW_iload_n c_H_hasFact_0 rfl ?_
        refine PW_bipush (v := 7) c_H_hasFact_1 (by decide) ?_
        refine PW_icmp_ne c_H_hasFact_3 (fun _ => ?_) (fun h5 => absurd h5 (by decide))
        refine PW_iload_n c_H_hasFact_25 rfl ?_
        refine PW_if_lt c_H_hasFact_26 (fun h6 => absurd h6 (by decide)) (fun _ => ?_)
        refine PW_iload_n c_H_hasFact_29 rfl ?_
        refine PW_aload_n c_H_hasFact_30 rfl ?_
        refine PW_get (v := .ref 7) c_H_hasFact_31 fl_H_13 (gf_6_0 _ _) ?_
        refine PW_alen (v := 7) c_H_hasFact_34 (ar_7 _ _) (t0 := 5) rfl (by decide) ?_
        refine PW_icmp_ge c_H_hasFact_35 (fun h7 => absurd h7 (by decide)) (fun _ => ?_)
        refine PW_aload_n c_H_hasFact_38 rfl ?_
        refine PW_iload_n c_H_hasFact_39 rfl ?_
        refine PW_V0 (d2 := 0) (st := []) [.int a1] c_H_hasFact_40 lk_H_hasFact_37 (po_6 _ _) rfl rfl rfl (Nat.le_of_ble_eq_true rfl) (by first | decide | omega) (Nat.le_of_ble_eq_true rfl) ?_
        refine sp_H_isGuest hg.W hg.x51 ?_
        show PW _ _ _ 43 [some (.ref 6), some (.int a1), some (.int 1)] [.int (b2i (0 ≤ a1.toInt ∧ a1.toInt < (nG y : Int)))] (E x y)
        refine PW_if_eq c_H_hasFact_43 (fun h8 => absurd hc0 (b2i_0.mp h8)) (fun _ => ?_)
        refine PW_iconst (v := 1) c_H_hasFact_46 (by decide) ?_
        refine PW_goto c_H_hasFact_47 ?_
        refine PW_ireturn (ty := .boolean) c_H_hasFact_51 rfl (by decide +kernel) ?_
        show PW _ _ _ 6 [some (.ref 6), some (.int a1), some (.int 1)] [.int 1] (E x y)
        refine PW_if_ne c_H_fact_6 (fun _ => ?_) (fun h9 => absurd h9 (by decide))
        refine PW_iload_n c_H_fact_11 rfl ?_
        refine PW_bipush (v := 7) c_H_fact_12 (by decide) ?_
        refine PW_icmp_ne c_H_fact_14 (fun _ => ?_) (fun h10 => absurd h10 (by decide))
        refine PW_aload_n c_H_fact_26 rfl ?_
        refine PW_get (v := .ref 7) c_H_fact_27 fl_H_13 (gf_6_0 _ _) ?_
        refine PW_iload_n c_H_fact_30 rfl ?_
        refine PW_aald (j := 1) c_H_fact_31 (ar_7 _ _) (t0 := 5) rfl rfl (vp_in_iff.mpr (by decide)) rfl ?_
        rw [if_pos (by decide)]
        show PW _ _ _ 32 [some (.ref 6), some (.int a1), some (.int 1)] [.ref 9] (E x y)
        refine PW_iload_n c_H_fact_32 rfl ?_
        refine PW_iald (j := a1.toNatClampNeg) c_H_fact_33 (ar_9 _ _) (vp_in_iff.mpr (g10 hg hc0)) rfl ?_
        show PW _ _ _ 34 [some (.ref 6), some (.int a1), some (.int 1)] [.int ((x.2.1 9) a1.toNatClampNeg)] (E x y)
        refine PW_ireturn (ty := .int) c_H_fact_34 rfl rfl ?_
        show PW _ _ _ 21 [some (.ref 5), some (.int a1), some (.int 1)] [.int ((x.2.1 9) a1.toNatClampNeg)] (E x y)
        refine PW_goto c_G_of_21 ?_
        refine PW_ireturn (ty := .int) c_G_of_25 rfl rfl ?_
        exact pqi h (hg.row 1 (by omega) (gnat hc0)).symm
      · refine PW.deeper (k := (3, 0, 0, z)) (Nat.le_of_ble_eq_true rfl) (Nat.le_refl _) (Nat.le_refl _) ?_
        refine PW_aload_n c_M_of_0 rfl ?_
        refine PW_iload_n c_M_of_1 rfl ?_
        refine PW_iload_n c_M_of_2 rfl ?_
        refine PW_V0 (d2 := 2) (st := []) [.int a1, .int 1] c_M_of_3 lk_M_of_165 (po_70 _ _) rfl rfl rfl (Nat.le_of_ble_eq_true rfl) (by first | decide | omega) (Nat.le_of_ble_eq_true rfl) ?_
        show PW _ _ _ 0 [some (.ref 70), some (.int a1), some (.int 1)] [] (E x y)
        refine PW_iload_n c_M_isThing_0 rfl ?_
        refine PW_bipush (v := 7) c_M_isThing_1 (by decide) ?_
        refine PW_icmp_ne c_M_isThing_3 (fun _ => ?_) (fun h0 => absurd h0 (by decide))
        refine PW_iload_n c_M_isThing_15 rfl ?_
        refine PW_iconst (v := 0) c_M_isThing_16 (by decide) ?_
        refine PW_bipush (v := 6) c_M_isThing_17 (by decide) ?_
        refine PW_S0 (d2 := 0) (st := []) [.int 1, .int 0, .int 6] c_M_isThing_19 lk_M_isThing_131 rfl rfl rfl (Nat.le_of_ble_eq_true rfl) (by first | decide | omega) (Nat.le_of_ble_eq_true rfl) ?_
        refine sp_M_within  ?_
        show PW _ _ _ 22 [some (.ref 70), some (.int a1), some (.int 1)] [.int (b2i ((0 : Int32) ≤ (1 : Int32) ∧ (1 : Int32) ≤ (6 : Int32)))] (E x y)
        refine PW_if_eq c_M_isThing_22 (fun h1 => absurd (by decide) (b2i_0.mp h1)) (fun _ => ?_)
        refine PW_aload_n c_M_isThing_25 rfl ?_
        refine PW_iload_n c_M_isThing_26 rfl ?_
        refine PW_V0 (d2 := 1) (st := []) [.int a1] c_M_isThing_27 lk_M_isThing_162 (po_70 _ _) rfl rfl rfl (Nat.le_of_ble_eq_true rfl) (by first | decide | omega) (Nat.le_of_ble_eq_true rfl) ?_
        refine sp_M_isGuest2 hg.W ?_
        show PW _ _ _ 30 [some (.ref 70), some (.int a1), some (.int 1)] [.int (b2i (0 ≤ a1.toInt ∧ a1.toInt < (nG y : Int)))] (E x y)
        refine PW_if_eq c_M_isThing_30 (fun h2 => absurd hc0 (b2i_0.mp h2)) (fun _ => ?_)
        refine PW_iconst (v := 1) c_M_isThing_33 (by decide) ?_
        refine PW_goto c_M_isThing_34 ?_
        refine PW_ireturn (ty := .boolean) c_M_isThing_38 rfl (by decide +kernel) ?_
        show PW _ _ _ 6 [some (.ref 70), some (.int a1), some (.int 1)] [.int 1] (E x y)
        refine PW_if_eq c_M_of_6 (fun h3 => absurd h3 (by decide)) (fun _ => ?_)
        refine PW_aload_n c_M_of_9 rfl ?_
        refine PW_iload_n c_M_of_10 rfl ?_
        refine PW_iload_n c_M_of_11 rfl ?_
        refine PW_V0 (d2 := 0) (st := []) [.int 1, .int a1] c_M_of_12 lk_M_of_148 (po_70 _ _) rfl rfl rfl (Nat.le_of_ble_eq_true rfl) (by first | decide | omega) (Nat.le_of_ble_eq_true rfl) ?_
        show PW _ _ _ 0 [some (.ref 70), some (.int 1), some (.int a1)] [] (E x y)
        refine PW_iload_n c_M_valueAt_0 rfl ?_
        refine PW_tableIn (tgt := 51) c_M_valueAt_1 (by decide) (by decide) rfl rfl ?_
        refine PW_aload_n c_M_valueAt_51 rfl ?_
        refine PW_get (v := .ref 72) c_M_valueAt_52 fl_M_13 (gf_70_3 _ _) ?_
        refine PW_iload_n c_M_valueAt_55 rfl ?_
        refine PW_iald (j := a1.toNatClampNeg) c_M_valueAt_56 (ar_72 _ _) (vp_in_iff.mpr (g10 hg hc0)) rfl ?_
        show PW _ _ _ 57 [some (.ref 70), some (.int 1), some (.int a1)] [.int ((y.2.1 72) a1.toNatClampNeg)] (E x y)
        refine PW_ireturn (ty := .int) c_M_valueAt_57 rfl rfl ?_
        show PW _ _ _ 15 [some (.ref 70), some (.int a1), some (.int 1)] [.int ((y.2.1 72) a1.toNatClampNeg)] (E x y)
        refine PW_goto c_M_of_15 ?_
        refine PW_ireturn (ty := .int) c_M_of_19 rfl rfl ?_
        exact h
    refine ⟨-1, x, y, ?_, fun {z post} h => ?_, fun {z post} h => ?_⟩
    · exact INV_step hI
    · refine PW.deeper (k := (3, 0, 0, z)) (Nat.le_of_ble_eq_true rfl) (Nat.le_refl _) (Nat.le_refl _) ?_
      refine PW_aload_n c_G_of_0 rfl ?_
      refine PW_get (v := .ref 6) c_G_of_1 fl_G_13 (gf_5_0 _ _) ?_
      refine PW_iload_n c_G_of_4 rfl ?_
      refine PW_iload_n c_G_of_5 rfl ?_
      refine PW_V0 (d2 := 1) (st := []) [.int a1, .int 1] c_G_of_6 lk_G_of_124 (po_6 _ _) rfl rfl rfl (Nat.le_of_ble_eq_true rfl) (by first | decide | omega) (Nat.le_of_ble_eq_true rfl) ?_
      show PW _ _ _ 0 [some (.ref 6), some (.int a1), some (.int 1)] [] (E x y)
      refine PW_iload_n c_H_hasFact_0 rfl ?_
      refine PW_bipush (v := 7) c_H_hasFact_1 (by decide) ?_
      refine PW_icmp_ne c_H_hasFact_3 (fun _ => ?_) (fun h0 => absurd h0 (by decide))
      refine PW_iload_n c_H_hasFact_25 rfl ?_
      refine PW_if_lt c_H_hasFact_26 (fun h1 => absurd h1 (by decide)) (fun _ => ?_)
      refine PW_iload_n c_H_hasFact_29 rfl ?_
      refine PW_aload_n c_H_hasFact_30 rfl ?_
      refine PW_get (v := .ref 7) c_H_hasFact_31 fl_H_13 (gf_6_0 _ _) ?_
      refine PW_alen (v := 7) c_H_hasFact_34 (ar_7 _ _) (t0 := 5) rfl (by decide) ?_
      refine PW_icmp_ge c_H_hasFact_35 (fun h2 => absurd h2 (by decide)) (fun _ => ?_)
      refine PW_aload_n c_H_hasFact_38 rfl ?_
      refine PW_iload_n c_H_hasFact_39 rfl ?_
      refine PW_V0 (d2 := 0) (st := []) [.int a1] c_H_hasFact_40 lk_H_hasFact_37 (po_6 _ _) rfl rfl rfl (Nat.le_of_ble_eq_true rfl) (by first | decide | omega) (Nat.le_of_ble_eq_true rfl) ?_
      refine sp_H_isGuest hg.W hg.x51 ?_
      show PW _ _ _ 43 [some (.ref 6), some (.int a1), some (.int 1)] [.int (b2i (0 ≤ a1.toInt ∧ a1.toInt < (nG y : Int)))] (E x y)
      refine PW_if_eq c_H_hasFact_43 (fun _ => ?_) (fun h3 => absurd (b2i_n0.mp h3) hc0)
      refine PW_iconst (v := 0) c_H_hasFact_50 (by decide) ?_
      refine PW_ireturn (ty := .boolean) c_H_hasFact_51 rfl (by decide +kernel) ?_
      show PW _ _ _ 9 [some (.ref 5), some (.int a1), some (.int 1)] [.int 0] (E x y)
      refine PW_if_eq c_G_of_9 (fun _ => ?_) (fun h4 => absurd (by decide) h4)
      refine PW_iconst (v := -1) c_G_of_24 (by decide) ?_
      refine PW_ireturn (ty := .int) c_G_of_25 rfl rfl ?_
      exact h
    · refine PW.deeper (k := (3, 0, 0, z)) (Nat.le_of_ble_eq_true rfl) (Nat.le_refl _) (Nat.le_refl _) ?_
      refine PW_aload_n c_M_of_0 rfl ?_
      refine PW_iload_n c_M_of_1 rfl ?_
      refine PW_iload_n c_M_of_2 rfl ?_
      refine PW_V0 (d2 := 2) (st := []) [.int a1, .int 1] c_M_of_3 lk_M_of_165 (po_70 _ _) rfl rfl rfl (Nat.le_of_ble_eq_true rfl) (by first | decide | omega) (Nat.le_of_ble_eq_true rfl) ?_
      show PW _ _ _ 0 [some (.ref 70), some (.int a1), some (.int 1)] [] (E x y)
      refine PW_iload_n c_M_isThing_0 rfl ?_
      refine PW_bipush (v := 7) c_M_isThing_1 (by decide) ?_
      refine PW_icmp_ne c_M_isThing_3 (fun _ => ?_) (fun h0 => absurd h0 (by decide))
      refine PW_iload_n c_M_isThing_15 rfl ?_
      refine PW_iconst (v := 0) c_M_isThing_16 (by decide) ?_
      refine PW_bipush (v := 6) c_M_isThing_17 (by decide) ?_
      refine PW_S0 (d2 := 0) (st := []) [.int 1, .int 0, .int 6] c_M_isThing_19 lk_M_isThing_131 rfl rfl rfl (Nat.le_of_ble_eq_true rfl) (by first | decide | omega) (Nat.le_of_ble_eq_true rfl) ?_
      refine sp_M_within  ?_
      show PW _ _ _ 22 [some (.ref 70), some (.int a1), some (.int 1)] [.int (b2i ((0 : Int32) ≤ (1 : Int32) ∧ (1 : Int32) ≤ (6 : Int32)))] (E x y)
      refine PW_if_eq c_M_isThing_22 (fun h1 => absurd (by decide) (b2i_0.mp h1)) (fun _ => ?_)
      refine PW_aload_n c_M_isThing_25 rfl ?_
      refine PW_iload_n c_M_isThing_26 rfl ?_
      refine PW_V0 (d2 := 1) (st := []) [.int a1] c_M_isThing_27 lk_M_isThing_162 (po_70 _ _) rfl rfl rfl (Nat.le_of_ble_eq_true rfl) (by first | decide | omega) (Nat.le_of_ble_eq_true rfl) ?_
      refine sp_M_isGuest2 hg.W ?_
      show PW _ _ _ 30 [some (.ref 70), some (.int a1), some (.int 1)] [.int (b2i (0 ≤ a1.toInt ∧ a1.toInt < (nG y : Int)))] (E x y)
      refine PW_if_eq c_M_isThing_30 (fun _ => ?_) (fun h2 => absurd (b2i_n0.mp h2) hc0)
      refine PW_iconst (v := 0) c_M_isThing_37 (by decide) ?_
      refine PW_ireturn (ty := .boolean) c_M_isThing_38 rfl (by decide +kernel) ?_
      show PW _ _ _ 6 [some (.ref 70), some (.int a1), some (.int 1)] [.int 0] (E x y)
      refine PW_if_eq c_M_of_6 (fun _ => ?_) (fun h3 => absurd (by decide) h3)
      refine PW_iconst (v := -1) c_M_of_18 (by decide) ?_
      refine PW_ireturn (ty := .int) c_M_of_19 rfl rfl ?_
      exact h
  by_cases hw2 : a2 = 2
  · subst hw2
    by_cases hc0 : 0 ≤ a1.toInt ∧ a1.toInt < (nG y : Int)
    · refine ⟨y.2.1 73 a1.toNatClampNeg, x, y, ?_, fun {z post} h => ?_, fun {z post} h => ?_⟩
      · exact INV_step hI
      · refine PW.deeper (k := (3, 0, 0, z)) (Nat.le_of_ble_eq_true rfl) (Nat.le_refl _) (Nat.le_refl _) ?_
        refine PW_aload_n c_G_of_0 rfl ?_
        refine PW_get (v := .ref 6) c_G_of_1 fl_G_13 (gf_5_0 _ _) ?_
        refine PW_iload_n c_G_of_4 rfl ?_
        refine PW_iload_n c_G_of_5 rfl ?_
        refine PW_V0 (d2 := 1) (st := []) [.int a1, .int 2] c_G_of_6 lk_G_of_124 (po_6 _ _) rfl rfl rfl (Nat.le_of_ble_eq_true rfl) (by first | decide | omega) (Nat.le_of_ble_eq_true rfl) ?_
        show PW _ _ _ 0 [some (.ref 6), some (.int a1), some (.int 2)] [] (E x y)
        refine PW_iload_n c_H_hasFact_0 rfl ?_
        refine PW_bipush (v := 7) c_H_hasFact_1 (by decide) ?_
        refine PW_icmp_ne c_H_hasFact_3 (fun _ => ?_) (fun h0 => absurd h0 (by decide))
        refine PW_iload_n c_H_hasFact_25 rfl ?_
        refine PW_if_lt c_H_hasFact_26 (fun h1 => absurd h1 (by decide)) (fun _ => ?_)
        refine PW_iload_n c_H_hasFact_29 rfl ?_
        refine PW_aload_n c_H_hasFact_30 rfl ?_
        refine PW_get (v := .ref 7) c_H_hasFact_31 fl_H_13 (gf_6_0 _ _) ?_
        refine PW_alen (v := 7) c_H_hasFact_34 (ar_7 _ _) (t0 := 5) rfl (by decide) ?_
        refine PW_icmp_ge c_H_hasFact_35 (fun h2 => absurd h2 (by decide)) (fun _ => ?_)
        refine PW_aload_n c_H_hasFact_38 rfl ?_
        refine PW_iload_n c_H_hasFact_39 rfl ?_
        refine PW_V0 (d2 := 0) (st := []) [.int a1] c_H_hasFact_40 lk_H_hasFact_37 (po_6 _ _) rfl rfl rfl (Nat.le_of_ble_eq_true rfl) (by first | decide | omega) (Nat.le_of_ble_eq_true rfl) ?_
        refine sp_H_isGuest hg.W hg.x51 ?_
        show PW _ _ _ 43 [some (.ref 6), some (.int a1), some (.int 2)] [.int (b2i (0 ≤ a1.toInt ∧ a1.toInt < (nG y : Int)))] (E x y)
        refine PW_if_eq c_H_hasFact_43 (fun h3 => absurd hc0 (b2i_0.mp h3)) (fun _ => ?_)
        refine PW_iconst (v := 1) c_H_hasFact_46 (by decide) ?_
        refine PW_goto c_H_hasFact_47 ?_
        refine PW_ireturn (ty := .boolean) c_H_hasFact_51 rfl (by decide +kernel) ?_
        show PW _ _ _ 9 [some (.ref 5), some (.int a1), some (.int 2)] [.int 1] (E x y)
        refine PW_if_eq c_G_of_9 (fun h4 => absurd h4 (by decide)) (fun _ => ?_)
        refine PW_aload_n c_G_of_12 rfl ?_
        refine PW_get (v := .ref 6) c_G_of_13 fl_G_13 (gf_5_0 _ _) ?_
        refine PW_iload_n c_G_of_16 rfl ?_
        refine PW_iload_n c_G_of_17 rfl ?_
        refine PW_V0 (d2 := 2) (st := []) [.int a1, .int 2] c_G_of_18 lk_G_of_127 (po_6 _ _) rfl rfl rfl (Nat.le_of_ble_eq_true rfl) (by first | decide | omega) (Nat.le_of_ble_eq_true rfl) ?_
        show PW _ _ _ 0 [some (.ref 6), some (.int a1), some (.int 2)] [] (E x y)
        refine PW_aload_n c_H_fact_0 rfl ?_
        refine PW_iload_n c_H_fact_1 rfl ?_
        refine PW_iload_n c_H_fact_2 rfl ?_
        refine PW_V0 (d2 := 1) (st := []) [.int a1, .int 2] c_H_fact_3 lk_H_fact_41 (po_6 _ _) rfl rfl rfl (Nat.le_of_ble_eq_true rfl) (by first | decide | omega) (Nat.le_of_ble_eq_true rfl) ?_
        show PW _ _ _ 0 [some (.ref 6), some (.int a1), some (.int 2)] [] (E x y)
        refine PW_iload_n c_H_hasFact_0 rfl ?_
        refine PW_bipush (v := 7) c_H_hasFact_1 (by decide) ?_
        refine PW_icmp_ne c_H_hasFact_3 (fun _ => ?_) (fun h5 => absurd h5 (by decide))
        refine PW_iload_n c_H_hasFact_25 rfl ?_
        refine PW_if_lt c_H_hasFact_26 (fun h6 => absurd h6 (by decide)) (fun _ => ?_)
        refine PW_iload_n c_H_hasFact_29 rfl ?_
        refine PW_aload_n c_H_hasFact_30 rfl ?_
        refine PW_get (v := .ref 7) c_H_hasFact_31 fl_H_13 (gf_6_0 _ _) ?_
        refine PW_alen (v := 7) c_H_hasFact_34 (ar_7 _ _) (t0 := 5) rfl (by decide) ?_
        refine PW_icmp_ge c_H_hasFact_35 (fun h7 => absurd h7 (by decide)) (fun _ => ?_)
        refine PW_aload_n c_H_hasFact_38 rfl ?_
        refine PW_iload_n c_H_hasFact_39 rfl ?_
        refine PW_V0 (d2 := 0) (st := []) [.int a1] c_H_hasFact_40 lk_H_hasFact_37 (po_6 _ _) rfl rfl rfl (Nat.le_of_ble_eq_true rfl) (by first | decide | omega) (Nat.le_of_ble_eq_true rfl) ?_
        refine sp_H_isGuest hg.W hg.x51 ?_
        show PW _ _ _ 43 [some (.ref 6), some (.int a1), some (.int 2)] [.int (b2i (0 ≤ a1.toInt ∧ a1.toInt < (nG y : Int)))] (E x y)
        refine PW_if_eq c_H_hasFact_43 (fun h8 => absurd hc0 (b2i_0.mp h8)) (fun _ => ?_)
        refine PW_iconst (v := 1) c_H_hasFact_46 (by decide) ?_
        refine PW_goto c_H_hasFact_47 ?_
        refine PW_ireturn (ty := .boolean) c_H_hasFact_51 rfl (by decide +kernel) ?_
        show PW _ _ _ 6 [some (.ref 6), some (.int a1), some (.int 2)] [.int 1] (E x y)
        refine PW_if_ne c_H_fact_6 (fun _ => ?_) (fun h9 => absurd h9 (by decide))
        refine PW_iload_n c_H_fact_11 rfl ?_
        refine PW_bipush (v := 7) c_H_fact_12 (by decide) ?_
        refine PW_icmp_ne c_H_fact_14 (fun _ => ?_) (fun h10 => absurd h10 (by decide))
        refine PW_aload_n c_H_fact_26 rfl ?_
        refine PW_get (v := .ref 7) c_H_fact_27 fl_H_13 (gf_6_0 _ _) ?_
        refine PW_iload_n c_H_fact_30 rfl ?_
        refine PW_aald (j := 2) c_H_fact_31 (ar_7 _ _) (t0 := 5) rfl rfl (vp_in_iff.mpr (by decide)) rfl ?_
        rw [if_pos (by decide)]
        show PW _ _ _ 32 [some (.ref 6), some (.int a1), some (.int 2)] [.ref 10] (E x y)
        refine PW_iload_n c_H_fact_32 rfl ?_
        refine PW_iald (j := a1.toNatClampNeg) c_H_fact_33 (ar_10 _ _) (vp_in_iff.mpr (g10 hg hc0)) rfl ?_
        show PW _ _ _ 34 [some (.ref 6), some (.int a1), some (.int 2)] [.int ((x.2.1 10) a1.toNatClampNeg)] (E x y)
        refine PW_ireturn (ty := .int) c_H_fact_34 rfl rfl ?_
        show PW _ _ _ 21 [some (.ref 5), some (.int a1), some (.int 2)] [.int ((x.2.1 10) a1.toNatClampNeg)] (E x y)
        refine PW_goto c_G_of_21 ?_
        refine PW_ireturn (ty := .int) c_G_of_25 rfl rfl ?_
        exact pqi h (hg.row 2 (by omega) (gnat hc0)).symm
      · refine PW.deeper (k := (3, 0, 0, z)) (Nat.le_of_ble_eq_true rfl) (Nat.le_refl _) (Nat.le_refl _) ?_
        refine PW_aload_n c_M_of_0 rfl ?_
        refine PW_iload_n c_M_of_1 rfl ?_
        refine PW_iload_n c_M_of_2 rfl ?_
        refine PW_V0 (d2 := 2) (st := []) [.int a1, .int 2] c_M_of_3 lk_M_of_165 (po_70 _ _) rfl rfl rfl (Nat.le_of_ble_eq_true rfl) (by first | decide | omega) (Nat.le_of_ble_eq_true rfl) ?_
        show PW _ _ _ 0 [some (.ref 70), some (.int a1), some (.int 2)] [] (E x y)
        refine PW_iload_n c_M_isThing_0 rfl ?_
        refine PW_bipush (v := 7) c_M_isThing_1 (by decide) ?_
        refine PW_icmp_ne c_M_isThing_3 (fun _ => ?_) (fun h0 => absurd h0 (by decide))
        refine PW_iload_n c_M_isThing_15 rfl ?_
        refine PW_iconst (v := 0) c_M_isThing_16 (by decide) ?_
        refine PW_bipush (v := 6) c_M_isThing_17 (by decide) ?_
        refine PW_S0 (d2 := 0) (st := []) [.int 2, .int 0, .int 6] c_M_isThing_19 lk_M_isThing_131 rfl rfl rfl (Nat.le_of_ble_eq_true rfl) (by first | decide | omega) (Nat.le_of_ble_eq_true rfl) ?_
        refine sp_M_within  ?_
        show PW _ _ _ 22 [some (.ref 70), some (.int a1), some (.int 2)] [.int (b2i ((0 : Int32) ≤ (2 : Int32) ∧ (2 : Int32) ≤ (6 : Int32)))] (E x y)
        refine PW_if_eq c_M_isThing_22 (fun h1 => absurd (by decide) (b2i_0.mp h1)) (fun _ => ?_)
        refine PW_aload_n c_M_isThing_25 rfl ?_
        refine PW_iload_n c_M_isThing_26 rfl ?_
        refine PW_V0 (d2 := 1) (st := []) [.int a1] c_M_isThing_27 lk_M_isThing_162 (po_70 _ _) rfl rfl rfl (Nat.le_of_ble_eq_true rfl) (by first | decide | omega) (Nat.le_of_ble_eq_true rfl) ?_
        refine sp_M_isGuest2 hg.W ?_
        show PW _ _ _ 30 [some (.ref 70), some (.int a1), some (.int 2)] [.int (b2i (0 ≤ a1.toInt ∧ a1.toInt < (nG y : Int)))] (E x y)
        refine PW_if_eq c_M_isThing_30 (fun h2 => absurd hc0 (b2i_0.mp h2)) (fun _ => ?_)
        refine PW_iconst (v := 1) c_M_isThing_33 (by decide) ?_
        refine PW_goto c_M_isThing_34 ?_
        refine PW_ireturn (ty := .boolean) c_M_isThing_38 rfl (by decide +kernel) ?_
        show PW _ _ _ 6 [some (.ref 70), some (.int a1), some (.int 2)] [.int 1] (E x y)
        refine PW_if_eq c_M_of_6 (fun h3 => absurd h3 (by decide)) (fun _ => ?_)
        refine PW_aload_n c_M_of_9 rfl ?_
        refine PW_iload_n c_M_of_10 rfl ?_
        refine PW_iload_n c_M_of_11 rfl ?_
        refine PW_V0 (d2 := 0) (st := []) [.int 2, .int a1] c_M_of_12 lk_M_of_148 (po_70 _ _) rfl rfl rfl (Nat.le_of_ble_eq_true rfl) (by first | decide | omega) (Nat.le_of_ble_eq_true rfl) ?_
        show PW _ _ _ 0 [some (.ref 70), some (.int 2), some (.int a1)] [] (E x y)
        refine PW_iload_n c_M_valueAt_0 rfl ?_
        refine PW_tableIn (tgt := 58) c_M_valueAt_1 (by decide) (by decide) rfl rfl ?_
        refine PW_aload_n c_M_valueAt_58 rfl ?_
        refine PW_get (v := .ref 73) c_M_valueAt_59 fl_M_16 (gf_70_4 _ _) ?_
        refine PW_iload_n c_M_valueAt_62 rfl ?_
        refine PW_iald (j := a1.toNatClampNeg) c_M_valueAt_63 (ar_73 _ _) (vp_in_iff.mpr (g10 hg hc0)) rfl ?_
        show PW _ _ _ 64 [some (.ref 70), some (.int 2), some (.int a1)] [.int ((y.2.1 73) a1.toNatClampNeg)] (E x y)
        refine PW_ireturn (ty := .int) c_M_valueAt_64 rfl rfl ?_
        show PW _ _ _ 15 [some (.ref 70), some (.int a1), some (.int 2)] [.int ((y.2.1 73) a1.toNatClampNeg)] (E x y)
        refine PW_goto c_M_of_15 ?_
        refine PW_ireturn (ty := .int) c_M_of_19 rfl rfl ?_
        exact h
    refine ⟨-1, x, y, ?_, fun {z post} h => ?_, fun {z post} h => ?_⟩
    · exact INV_step hI
    · refine PW.deeper (k := (3, 0, 0, z)) (Nat.le_of_ble_eq_true rfl) (Nat.le_refl _) (Nat.le_refl _) ?_
      refine PW_aload_n c_G_of_0 rfl ?_
      refine PW_get (v := .ref 6) c_G_of_1 fl_G_13 (gf_5_0 _ _) ?_
      refine PW_iload_n c_G_of_4 rfl ?_
      refine PW_iload_n c_G_of_5 rfl ?_
      refine PW_V0 (d2 := 1) (st := []) [.int a1, .int 2] c_G_of_6 lk_G_of_124 (po_6 _ _) rfl rfl rfl (Nat.le_of_ble_eq_true rfl) (by first | decide | omega) (Nat.le_of_ble_eq_true rfl) ?_
      show PW _ _ _ 0 [some (.ref 6), some (.int a1), some (.int 2)] [] (E x y)
      refine PW_iload_n c_H_hasFact_0 rfl ?_
      refine PW_bipush (v := 7) c_H_hasFact_1 (by decide) ?_
      refine PW_icmp_ne c_H_hasFact_3 (fun _ => ?_) (fun h0 => absurd h0 (by decide))
      refine PW_iload_n c_H_hasFact_25 rfl ?_
      refine PW_if_lt c_H_hasFact_26 (fun h1 => absurd h1 (by decide)) (fun _ => ?_)
      refine PW_iload_n c_H_hasFact_29 rfl ?_
      refine PW_aload_n c_H_hasFact_30 rfl ?_
      refine PW_get (v := .ref 7) c_H_hasFact_31 fl_H_13 (gf_6_0 _ _) ?_
      refine PW_alen (v := 7) c_H_hasFact_34 (ar_7 _ _) (t0 := 5) rfl (by decide) ?_
      refine PW_icmp_ge c_H_hasFact_35 (fun h2 => absurd h2 (by decide)) (fun _ => ?_)
      refine PW_aload_n c_H_hasFact_38 rfl ?_
      refine PW_iload_n c_H_hasFact_39 rfl ?_
      refine PW_V0 (d2 := 0) (st := []) [.int a1] c_H_hasFact_40 lk_H_hasFact_37 (po_6 _ _) rfl rfl rfl (Nat.le_of_ble_eq_true rfl) (by first | decide | omega) (Nat.le_of_ble_eq_true rfl) ?_
      refine sp_H_isGuest hg.W hg.x51 ?_
      show PW _ _ _ 43 [some (.ref 6), some (.int a1), some (.int 2)] [.int (b2i (0 ≤ a1.toInt ∧ a1.toInt < (nG y : Int)))] (E x y)
      refine PW_if_eq c_H_hasFact_43 (fun _ => ?_) (fun h3 => absurd (b2i_n0.mp h3) hc0)
      refine PW_iconst (v := 0) c_H_hasFact_50 (by decide) ?_
      refine PW_ireturn (ty := .boolean) c_H_hasFact_51 rfl (by decide +kernel) ?_
      show PW _ _ _ 9 [some (.ref 5), some (.int a1), some (.int 2)] [.int 0] (E x y)
      refine PW_if_eq c_G_of_9 (fun _ => ?_) (fun h4 => absurd (by decide) h4)
      refine PW_iconst (v := -1) c_G_of_24 (by decide) ?_
      refine PW_ireturn (ty := .int) c_G_of_25 rfl rfl ?_
      exact h
    · refine PW.deeper (k := (3, 0, 0, z)) (Nat.le_of_ble_eq_true rfl) (Nat.le_refl _) (Nat.le_refl _) ?_
      refine PW_aload_n c_M_of_0 rfl ?_
      refine PW_iload_n c_M_of_1 rfl ?_
      refine PW_iload_n c_M_of_2 rfl ?_
      refine PW_V0 (d2 := 2) (st := []) [.int a1, .int 2] c_M_of_3 lk_M_of_165 (po_70 _ _) rfl rfl rfl (Nat.le_of_ble_eq_true rfl) (by first | decide | omega) (Nat.le_of_ble_eq_true rfl) ?_
      show PW _ _ _ 0 [some (.ref 70), some (.int a1), some (.int 2)] [] (E x y)
      refine PW_iload_n c_M_isThing_0 rfl ?_
      refine PW_bipush (v := 7) c_M_isThing_1 (by decide) ?_
      refine PW_icmp_ne c_M_isThing_3 (fun _ => ?_) (fun h0 => absurd h0 (by decide))
      refine PW_iload_n c_M_isThing_15 rfl ?_
      refine PW_iconst (v := 0) c_M_isThing_16 (by decide) ?_
      refine PW_bipush (v := 6) c_M_isThing_17 (by decide) ?_
      refine PW_S0 (d2 := 0) (st := []) [.int 2, .int 0, .int 6] c_M_isThing_19 lk_M_isThing_131 rfl rfl rfl (Nat.le_of_ble_eq_true rfl) (by first | decide | omega) (Nat.le_of_ble_eq_true rfl) ?_
      refine sp_M_within  ?_
      show PW _ _ _ 22 [some (.ref 70), some (.int a1), some (.int 2)] [.int (b2i ((0 : Int32) ≤ (2 : Int32) ∧ (2 : Int32) ≤ (6 : Int32)))] (E x y)
      refine PW_if_eq c_M_isThing_22 (fun h1 => absurd (by decide) (b2i_0.mp h1)) (fun _ => ?_)
      refine PW_aload_n c_M_isThing_25 rfl ?_
      refine PW_iload_n c_M_isThing_26 rfl ?_
      refine PW_V0 (d2 := 1) (st := []) [.int a1] c_M_isThing_27 lk_M_isThing_162 (po_70 _ _) rfl rfl rfl (Nat.le_of_ble_eq_true rfl) (by first | decide | omega) (Nat.le_of_ble_eq_true rfl) ?_
      refine sp_M_isGuest2 hg.W ?_
      show PW _ _ _ 30 [some (.ref 70), some (.int a1), some (.int 2)] [.int (b2i (0 ≤ a1.toInt ∧ a1.toInt < (nG y : Int)))] (E x y)
      refine PW_if_eq c_M_isThing_30 (fun _ => ?_) (fun h2 => absurd (b2i_n0.mp h2) hc0)
      refine PW_iconst (v := 0) c_M_isThing_37 (by decide) ?_
      refine PW_ireturn (ty := .boolean) c_M_isThing_38 rfl (by decide +kernel) ?_
      show PW _ _ _ 6 [some (.ref 70), some (.int a1), some (.int 2)] [.int 0] (E x y)
      refine PW_if_eq c_M_of_6 (fun _ => ?_) (fun h3 => absurd (by decide) h3)
      refine PW_iconst (v := -1) c_M_of_18 (by decide) ?_
      refine PW_ireturn (ty := .int) c_M_of_19 rfl rfl ?_
      exact h
  by_cases hw3 : a2 = 3
  · subst hw3
    by_cases hc0 : 0 ≤ a1.toInt ∧ a1.toInt < (nG y : Int)
    · refine ⟨y.2.1 74 a1.toNatClampNeg, x, y, ?_, fun {z post} h => ?_, fun {z post} h => ?_⟩
      · exact INV_step hI
      · refine PW.deeper (k := (3, 0, 0, z)) (Nat.le_of_ble_eq_true rfl) (Nat.le_refl _) (Nat.le_refl _) ?_
        refine PW_aload_n c_G_of_0 rfl ?_
        refine PW_get (v := .ref 6) c_G_of_1 fl_G_13 (gf_5_0 _ _) ?_
        refine PW_iload_n c_G_of_4 rfl ?_
        refine PW_iload_n c_G_of_5 rfl ?_
        refine PW_V0 (d2 := 1) (st := []) [.int a1, .int 3] c_G_of_6 lk_G_of_124 (po_6 _ _) rfl rfl rfl (Nat.le_of_ble_eq_true rfl) (by first | decide | omega) (Nat.le_of_ble_eq_true rfl) ?_
        show PW _ _ _ 0 [some (.ref 6), some (.int a1), some (.int 3)] [] (E x y)
        refine PW_iload_n c_H_hasFact_0 rfl ?_
        refine PW_bipush (v := 7) c_H_hasFact_1 (by decide) ?_
        refine PW_icmp_ne c_H_hasFact_3 (fun _ => ?_) (fun h0 => absurd h0 (by decide))
        refine PW_iload_n c_H_hasFact_25 rfl ?_
        refine PW_if_lt c_H_hasFact_26 (fun h1 => absurd h1 (by decide)) (fun _ => ?_)
        refine PW_iload_n c_H_hasFact_29 rfl ?_
        refine PW_aload_n c_H_hasFact_30 rfl ?_
        refine PW_get (v := .ref 7) c_H_hasFact_31 fl_H_13 (gf_6_0 _ _) ?_
        refine PW_alen (v := 7) c_H_hasFact_34 (ar_7 _ _) (t0 := 5) rfl (by decide) ?_
        refine PW_icmp_ge c_H_hasFact_35 (fun h2 => absurd h2 (by decide)) (fun _ => ?_)
        refine PW_aload_n c_H_hasFact_38 rfl ?_
        refine PW_iload_n c_H_hasFact_39 rfl ?_
        refine PW_V0 (d2 := 0) (st := []) [.int a1] c_H_hasFact_40 lk_H_hasFact_37 (po_6 _ _) rfl rfl rfl (Nat.le_of_ble_eq_true rfl) (by first | decide | omega) (Nat.le_of_ble_eq_true rfl) ?_
        refine sp_H_isGuest hg.W hg.x51 ?_
        show PW _ _ _ 43 [some (.ref 6), some (.int a1), some (.int 3)] [.int (b2i (0 ≤ a1.toInt ∧ a1.toInt < (nG y : Int)))] (E x y)
        refine PW_if_eq c_H_hasFact_43 (fun h3 => absurd hc0 (b2i_0.mp h3)) (fun _ => ?_)
        refine PW_iconst (v := 1) c_H_hasFact_46 (by decide) ?_
        refine PW_goto c_H_hasFact_47 ?_
        refine PW_ireturn (ty := .boolean) c_H_hasFact_51 rfl (by decide +kernel) ?_
        show PW _ _ _ 9 [some (.ref 5), some (.int a1), some (.int 3)] [.int 1] (E x y)
        refine PW_if_eq c_G_of_9 (fun h4 => absurd h4 (by decide)) (fun _ => ?_)
        refine PW_aload_n c_G_of_12 rfl ?_
        refine PW_get (v := .ref 6) c_G_of_13 fl_G_13 (gf_5_0 _ _) ?_
        refine PW_iload_n c_G_of_16 rfl ?_
        refine PW_iload_n c_G_of_17 rfl ?_
        refine PW_V0 (d2 := 2) (st := []) [.int a1, .int 3] c_G_of_18 lk_G_of_127 (po_6 _ _) rfl rfl rfl (Nat.le_of_ble_eq_true rfl) (by first | decide | omega) (Nat.le_of_ble_eq_true rfl) ?_
        show PW _ _ _ 0 [some (.ref 6), some (.int a1), some (.int 3)] [] (E x y)
        refine PW_aload_n c_H_fact_0 rfl ?_
        refine PW_iload_n c_H_fact_1 rfl ?_
        refine PW_iload_n c_H_fact_2 rfl ?_
        refine PW_V0 (d2 := 1) (st := []) [.int a1, .int 3] c_H_fact_3 lk_H_fact_41 (po_6 _ _) rfl rfl rfl (Nat.le_of_ble_eq_true rfl) (by first | decide | omega) (Nat.le_of_ble_eq_true rfl) ?_
        show PW _ _ _ 0 [some (.ref 6), some (.int a1), some (.int 3)] [] (E x y)
        refine PW_iload_n c_H_hasFact_0 rfl ?_
        refine PW_bipush (v := 7) c_H_hasFact_1 (by decide) ?_
        refine PW_icmp_ne c_H_hasFact_3 (fun _ => ?_) (fun h5 => absurd h5 (by decide))
        refine PW_iload_n c_H_hasFact_25 rfl ?_
        refine PW_if_lt c_H_hasFact_26 (fun h6 => absurd h6 (by decide)) (fun _ => ?_)
        refine PW_iload_n c_H_hasFact_29 rfl ?_
        refine PW_aload_n c_H_hasFact_30 rfl ?_
        refine PW_get (v := .ref 7) c_H_hasFact_31 fl_H_13 (gf_6_0 _ _) ?_
        refine PW_alen (v := 7) c_H_hasFact_34 (ar_7 _ _) (t0 := 5) rfl (by decide) ?_
        refine PW_icmp_ge c_H_hasFact_35 (fun h7 => absurd h7 (by decide)) (fun _ => ?_)
        refine PW_aload_n c_H_hasFact_38 rfl ?_
        refine PW_iload_n c_H_hasFact_39 rfl ?_
        refine PW_V0 (d2 := 0) (st := []) [.int a1] c_H_hasFact_40 lk_H_hasFact_37 (po_6 _ _) rfl rfl rfl (Nat.le_of_ble_eq_true rfl) (by first | decide | omega) (Nat.le_of_ble_eq_true rfl) ?_
        refine sp_H_isGuest hg.W hg.x51 ?_
        show PW _ _ _ 43 [some (.ref 6), some (.int a1), some (.int 3)] [.int (b2i (0 ≤ a1.toInt ∧ a1.toInt < (nG y : Int)))] (E x y)
        refine PW_if_eq c_H_hasFact_43 (fun h8 => absurd hc0 (b2i_0.mp h8)) (fun _ => ?_)
        refine PW_iconst (v := 1) c_H_hasFact_46 (by decide) ?_
        refine PW_goto c_H_hasFact_47 ?_
        refine PW_ireturn (ty := .boolean) c_H_hasFact_51 rfl (by decide +kernel) ?_
        show PW _ _ _ 6 [some (.ref 6), some (.int a1), some (.int 3)] [.int 1] (E x y)
        refine PW_if_ne c_H_fact_6 (fun _ => ?_) (fun h9 => absurd h9 (by decide))
        refine PW_iload_n c_H_fact_11 rfl ?_
        refine PW_bipush (v := 7) c_H_fact_12 (by decide) ?_
        refine PW_icmp_ne c_H_fact_14 (fun _ => ?_) (fun h10 => absurd h10 (by decide))
        refine PW_aload_n c_H_fact_26 rfl ?_
        refine PW_get (v := .ref 7) c_H_fact_27 fl_H_13 (gf_6_0 _ _) ?_
        refine PW_iload_n c_H_fact_30 rfl ?_
        refine PW_aald (j := 3) c_H_fact_31 (ar_7 _ _) (t0 := 5) rfl rfl (vp_in_iff.mpr (by decide)) rfl ?_
        rw [if_pos (by decide)]
        show PW _ _ _ 32 [some (.ref 6), some (.int a1), some (.int 3)] [.ref 11] (E x y)
        refine PW_iload_n c_H_fact_32 rfl ?_
        refine PW_iald (j := a1.toNatClampNeg) c_H_fact_33 (ar_11 _ _) (vp_in_iff.mpr (g10 hg hc0)) rfl ?_
        show PW _ _ _ 34 [some (.ref 6), some (.int a1), some (.int 3)] [.int ((x.2.1 11) a1.toNatClampNeg)] (E x y)
        refine PW_ireturn (ty := .int) c_H_fact_34 rfl rfl ?_
        show PW _ _ _ 21 [some (.ref 5), some (.int a1), some (.int 3)] [.int ((x.2.1 11) a1.toNatClampNeg)] (E x y)
        refine PW_goto c_G_of_21 ?_
        refine PW_ireturn (ty := .int) c_G_of_25 rfl rfl ?_
        exact pqi h (hg.row 3 (by omega) (gnat hc0)).symm
      · refine PW.deeper (k := (3, 0, 0, z)) (Nat.le_of_ble_eq_true rfl) (Nat.le_refl _) (Nat.le_refl _) ?_
        refine PW_aload_n c_M_of_0 rfl ?_
        refine PW_iload_n c_M_of_1 rfl ?_
        refine PW_iload_n c_M_of_2 rfl ?_
        refine PW_V0 (d2 := 2) (st := []) [.int a1, .int 3] c_M_of_3 lk_M_of_165 (po_70 _ _) rfl rfl rfl (Nat.le_of_ble_eq_true rfl) (by first | decide | omega) (Nat.le_of_ble_eq_true rfl) ?_
        show PW _ _ _ 0 [some (.ref 70), some (.int a1), some (.int 3)] [] (E x y)
        refine PW_iload_n c_M_isThing_0 rfl ?_
        refine PW_bipush (v := 7) c_M_isThing_1 (by decide) ?_
        refine PW_icmp_ne c_M_isThing_3 (fun _ => ?_) (fun h0 => absurd h0 (by decide))
        refine PW_iload_n c_M_isThing_15 rfl ?_
        refine PW_iconst (v := 0) c_M_isThing_16 (by decide) ?_
        refine PW_bipush (v := 6) c_M_isThing_17 (by decide) ?_
        refine PW_S0 (d2 := 0) (st := []) [.int 3, .int 0, .int 6] c_M_isThing_19 lk_M_isThing_131 rfl rfl rfl (Nat.le_of_ble_eq_true rfl) (by first | decide | omega) (Nat.le_of_ble_eq_true rfl) ?_
        refine sp_M_within  ?_
        show PW _ _ _ 22 [some (.ref 70), some (.int a1), some (.int 3)] [.int (b2i ((0 : Int32) ≤ (3 : Int32) ∧ (3 : Int32) ≤ (6 : Int32)))] (E x y)
        refine PW_if_eq c_M_isThing_22 (fun h1 => absurd (by decide) (b2i_0.mp h1)) (fun _ => ?_)
        refine PW_aload_n c_M_isThing_25 rfl ?_
        refine PW_iload_n c_M_isThing_26 rfl ?_
        refine PW_V0 (d2 := 1) (st := []) [.int a1] c_M_isThing_27 lk_M_isThing_162 (po_70 _ _) rfl rfl rfl (Nat.le_of_ble_eq_true rfl) (by first | decide | omega) (Nat.le_of_ble_eq_true rfl) ?_
        refine sp_M_isGuest2 hg.W ?_
        show PW _ _ _ 30 [some (.ref 70), some (.int a1), some (.int 3)] [.int (b2i (0 ≤ a1.toInt ∧ a1.toInt < (nG y : Int)))] (E x y)
        refine PW_if_eq c_M_isThing_30 (fun h2 => absurd hc0 (b2i_0.mp h2)) (fun _ => ?_)
        refine PW_iconst (v := 1) c_M_isThing_33 (by decide) ?_
        refine PW_goto c_M_isThing_34 ?_
        refine PW_ireturn (ty := .boolean) c_M_isThing_38 rfl (by decide +kernel) ?_
        show PW _ _ _ 6 [some (.ref 70), some (.int a1), some (.int 3)] [.int 1] (E x y)
        refine PW_if_eq c_M_of_6 (fun h3 => absurd h3 (by decide)) (fun _ => ?_)
        refine PW_aload_n c_M_of_9 rfl ?_
        refine PW_iload_n c_M_of_10 rfl ?_
        refine PW_iload_n c_M_of_11 rfl ?_
        refine PW_V0 (d2 := 0) (st := []) [.int 3, .int a1] c_M_of_12 lk_M_of_148 (po_70 _ _) rfl rfl rfl (Nat.le_of_ble_eq_true rfl) (by first | decide | omega) (Nat.le_of_ble_eq_true rfl) ?_
        show PW _ _ _ 0 [some (.ref 70), some (.int 3), some (.int a1)] [] (E x y)
        refine PW_iload_n c_M_valueAt_0 rfl ?_
        refine PW_tableIn (tgt := 65) c_M_valueAt_1 (by decide) (by decide) rfl rfl ?_
        refine PW_aload_n c_M_valueAt_65 rfl ?_
        refine PW_get (v := .ref 74) c_M_valueAt_66 fl_M_19 (gf_70_5 _ _) ?_
        refine PW_iload_n c_M_valueAt_69 rfl ?_
        refine PW_iald (j := a1.toNatClampNeg) c_M_valueAt_70 (ar_74 _ _) (vp_in_iff.mpr (g10 hg hc0)) rfl ?_
        show PW _ _ _ 71 [some (.ref 70), some (.int 3), some (.int a1)] [.int ((y.2.1 74) a1.toNatClampNeg)] (E x y)
        refine PW_ireturn (ty := .int) c_M_valueAt_71 rfl rfl ?_
        show PW _ _ _ 15 [some (.ref 70), some (.int a1), some (.int 3)] [.int ((y.2.1 74) a1.toNatClampNeg)] (E x y)
        refine PW_goto c_M_of_15 ?_
        refine PW_ireturn (ty := .int) c_M_of_19 rfl rfl ?_
        exact h
    refine ⟨-1, x, y, ?_, fun {z post} h => ?_, fun {z post} h => ?_⟩
    · exact INV_step hI
    · refine PW.deeper (k := (3, 0, 0, z)) (Nat.le_of_ble_eq_true rfl) (Nat.le_refl _) (Nat.le_refl _) ?_
      refine PW_aload_n c_G_of_0 rfl ?_
      refine PW_get (v := .ref 6) c_G_of_1 fl_G_13 (gf_5_0 _ _) ?_
      refine PW_iload_n c_G_of_4 rfl ?_
      refine PW_iload_n c_G_of_5 rfl ?_
      refine PW_V0 (d2 := 1) (st := []) [.int a1, .int 3] c_G_of_6 lk_G_of_124 (po_6 _ _) rfl rfl rfl (Nat.le_of_ble_eq_true rfl) (by first | decide | omega) (Nat.le_of_ble_eq_true rfl) ?_
      show PW _ _ _ 0 [some (.ref 6), some (.int a1), some (.int 3)] [] (E x y)
      refine PW_iload_n c_H_hasFact_0 rfl ?_
      refine PW_bipush (v := 7) c_H_hasFact_1 (by decide) ?_
      refine PW_icmp_ne c_H_hasFact_3 (fun _ => ?_) (fun h0 => absurd h0 (by decide))
      refine PW_iload_n c_H_hasFact_25 rfl ?_
      refine PW_if_lt c_H_hasFact_26 (fun h1 => absurd h1 (by decide)) (fun _ => ?_)
      refine PW_iload_n c_H_hasFact_29 rfl ?_
      refine PW_aload_n c_H_hasFact_30 rfl ?_
      refine PW_get (v := .ref 7) c_H_hasFact_31 fl_H_13 (gf_6_0 _ _) ?_
      refine PW_alen (v := 7) c_H_hasFact_34 (ar_7 _ _) (t0 := 5) rfl (by decide) ?_
      refine PW_icmp_ge c_H_hasFact_35 (fun h2 => absurd h2 (by decide)) (fun _ => ?_)
      refine PW_aload_n c_H_hasFact_38 rfl ?_
      refine PW_iload_n c_H_hasFact_39 rfl ?_
      refine PW_V0 (d2 := 0) (st := []) [.int a1] c_H_hasFact_40 lk_H_hasFact_37 (po_6 _ _) rfl rfl rfl (Nat.le_of_ble_eq_true rfl) (by first | decide | omega) (Nat.le_of_ble_eq_true rfl) ?_
      refine sp_H_isGuest hg.W hg.x51 ?_
      show PW _ _ _ 43 [some (.ref 6), some (.int a1), some (.int 3)] [.int (b2i (0 ≤ a1.toInt ∧ a1.toInt < (nG y : Int)))] (E x y)
      refine PW_if_eq c_H_hasFact_43 (fun _ => ?_) (fun h3 => absurd (b2i_n0.mp h3) hc0)
      refine PW_iconst (v := 0) c_H_hasFact_50 (by decide) ?_
      refine PW_ireturn (ty := .boolean) c_H_hasFact_51 rfl (by decide +kernel) ?_
      show PW _ _ _ 9 [some (.ref 5), some (.int a1), some (.int 3)] [.int 0] (E x y)
      refine PW_if_eq c_G_of_9 (fun _ => ?_) (fun h4 => absurd (by decide) h4)
      refine PW_iconst (v := -1) c_G_of_24 (by decide) ?_
      refine PW_ireturn (ty := .int) c_G_of_25 rfl rfl ?_
      exact h
    · refine PW.deeper (k := (3, 0, 0, z)) (Nat.le_of_ble_eq_true rfl) (Nat.le_refl _) (Nat.le_refl _) ?_
      refine PW_aload_n c_M_of_0 rfl ?_
      refine PW_iload_n c_M_of_1 rfl ?_
      refine PW_iload_n c_M_of_2 rfl ?_
      refine PW_V0 (d2 := 2) (st := []) [.int a1, .int 3] c_M_of_3 lk_M_of_165 (po_70 _ _) rfl rfl rfl (Nat.le_of_ble_eq_true rfl) (by first | decide | omega) (Nat.le_of_ble_eq_true rfl) ?_
      show PW _ _ _ 0 [some (.ref 70), some (.int a1), some (.int 3)] [] (E x y)
      refine PW_iload_n c_M_isThing_0 rfl ?_
      refine PW_bipush (v := 7) c_M_isThing_1 (by decide) ?_
      refine PW_icmp_ne c_M_isThing_3 (fun _ => ?_) (fun h0 => absurd h0 (by decide))
      refine PW_iload_n c_M_isThing_15 rfl ?_
      refine PW_iconst (v := 0) c_M_isThing_16 (by decide) ?_
      refine PW_bipush (v := 6) c_M_isThing_17 (by decide) ?_
      refine PW_S0 (d2 := 0) (st := []) [.int 3, .int 0, .int 6] c_M_isThing_19 lk_M_isThing_131 rfl rfl rfl (Nat.le_of_ble_eq_true rfl) (by first | decide | omega) (Nat.le_of_ble_eq_true rfl) ?_
      refine sp_M_within  ?_
      show PW _ _ _ 22 [some (.ref 70), some (.int a1), some (.int 3)] [.int (b2i ((0 : Int32) ≤ (3 : Int32) ∧ (3 : Int32) ≤ (6 : Int32)))] (E x y)
      refine PW_if_eq c_M_isThing_22 (fun h1 => absurd (by decide) (b2i_0.mp h1)) (fun _ => ?_)
      refine PW_aload_n c_M_isThing_25 rfl ?_
      refine PW_iload_n c_M_isThing_26 rfl ?_
      refine PW_V0 (d2 := 1) (st := []) [.int a1] c_M_isThing_27 lk_M_isThing_162 (po_70 _ _) rfl rfl rfl (Nat.le_of_ble_eq_true rfl) (by first | decide | omega) (Nat.le_of_ble_eq_true rfl) ?_
      refine sp_M_isGuest2 hg.W ?_
      show PW _ _ _ 30 [some (.ref 70), some (.int a1), some (.int 3)] [.int (b2i (0 ≤ a1.toInt ∧ a1.toInt < (nG y : Int)))] (E x y)
      refine PW_if_eq c_M_isThing_30 (fun _ => ?_) (fun h2 => absurd (b2i_n0.mp h2) hc0)
      refine PW_iconst (v := 0) c_M_isThing_37 (by decide) ?_
      refine PW_ireturn (ty := .boolean) c_M_isThing_38 rfl (by decide +kernel) ?_
      show PW _ _ _ 6 [some (.ref 70), some (.int a1), some (.int 3)] [.int 0] (E x y)
      refine PW_if_eq c_M_of_6 (fun _ => ?_) (fun h3 => absurd (by decide) h3)
      refine PW_iconst (v := -1) c_M_of_18 (by decide) ?_
      refine PW_ireturn (ty := .int) c_M_of_19 rfl rfl ?_
      exact h
  by_cases hw4 : a2 = 4
  · subst hw4
    by_cases hc0 : 0 ≤ a1.toInt ∧ a1.toInt < (nG y : Int)
    · refine ⟨y.2.1 75 a1.toNatClampNeg, x, y, ?_, fun {z post} h => ?_, fun {z post} h => ?_⟩
      · exact INV_step hI
      · refine PW.deeper (k := (3, 0, 0, z)) (Nat.le_of_ble_eq_true rfl) (Nat.le_refl _) (Nat.le_refl _) ?_
        refine PW_aload_n c_G_of_0 rfl ?_
        refine PW_get (v := .ref 6) c_G_of_1 fl_G_13 (gf_5_0 _ _) ?_
        refine PW_iload_n c_G_of_4 rfl ?_
        refine PW_iload_n c_G_of_5 rfl ?_
        refine PW_V0 (d2 := 1) (st := []) [.int a1, .int 4] c_G_of_6 lk_G_of_124 (po_6 _ _) rfl rfl rfl (Nat.le_of_ble_eq_true rfl) (by first | decide | omega) (Nat.le_of_ble_eq_true rfl) ?_
        show PW _ _ _ 0 [some (.ref 6), some (.int a1), some (.int 4)] [] (E x y)
        refine PW_iload_n c_H_hasFact_0 rfl ?_
        refine PW_bipush (v := 7) c_H_hasFact_1 (by decide) ?_
        refine PW_icmp_ne c_H_hasFact_3 (fun _ => ?_) (fun h0 => absurd h0 (by decide))
        refine PW_iload_n c_H_hasFact_25 rfl ?_
        refine PW_if_lt c_H_hasFact_26 (fun h1 => absurd h1 (by decide)) (fun _ => ?_)
        refine PW_iload_n c_H_hasFact_29 rfl ?_
        refine PW_aload_n c_H_hasFact_30 rfl ?_
        refine PW_get (v := .ref 7) c_H_hasFact_31 fl_H_13 (gf_6_0 _ _) ?_
        refine PW_alen (v := 7) c_H_hasFact_34 (ar_7 _ _) (t0 := 5) rfl (by decide) ?_
        refine PW_icmp_ge c_H_hasFact_35 (fun h2 => absurd h2 (by decide)) (fun _ => ?_)
        refine PW_aload_n c_H_hasFact_38 rfl ?_
        refine PW_iload_n c_H_hasFact_39 rfl ?_
        refine PW_V0 (d2 := 0) (st := []) [.int a1] c_H_hasFact_40 lk_H_hasFact_37 (po_6 _ _) rfl rfl rfl (Nat.le_of_ble_eq_true rfl) (by first | decide | omega) (Nat.le_of_ble_eq_true rfl) ?_
        refine sp_H_isGuest hg.W hg.x51 ?_
        show PW _ _ _ 43 [some (.ref 6), some (.int a1), some (.int 4)] [.int (b2i (0 ≤ a1.toInt ∧ a1.toInt < (nG y : Int)))] (E x y)
        refine PW_if_eq c_H_hasFact_43 (fun h3 => absurd hc0 (b2i_0.mp h3)) (fun _ => ?_)
        refine PW_iconst (v := 1) c_H_hasFact_46 (by decide) ?_
        refine PW_goto c_H_hasFact_47 ?_
        refine PW_ireturn (ty := .boolean) c_H_hasFact_51 rfl (by decide +kernel) ?_
        show PW _ _ _ 9 [some (.ref 5), some (.int a1), some (.int 4)] [.int 1] (E x y)
        refine PW_if_eq c_G_of_9 (fun h4 => absurd h4 (by decide)) (fun _ => ?_)
        refine PW_aload_n c_G_of_12 rfl ?_
        refine PW_get (v := .ref 6) c_G_of_13 fl_G_13 (gf_5_0 _ _) ?_
        refine PW_iload_n c_G_of_16 rfl ?_
        refine PW_iload_n c_G_of_17 rfl ?_
        refine PW_V0 (d2 := 2) (st := []) [.int a1, .int 4] c_G_of_18 lk_G_of_127 (po_6 _ _) rfl rfl rfl (Nat.le_of_ble_eq_true rfl) (by first | decide | omega) (Nat.le_of_ble_eq_true rfl) ?_
        show PW _ _ _ 0 [some (.ref 6), some (.int a1), some (.int 4)] [] (E x y)
        refine PW_aload_n c_H_fact_0 rfl ?_
        refine PW_iload_n c_H_fact_1 rfl ?_
        refine PW_iload_n c_H_fact_2 rfl ?_
        refine PW_V0 (d2 := 1) (st := []) [.int a1, .int 4] c_H_fact_3 lk_H_fact_41 (po_6 _ _) rfl rfl rfl (Nat.le_of_ble_eq_true rfl) (by first | decide | omega) (Nat.le_of_ble_eq_true rfl) ?_
        show PW _ _ _ 0 [some (.ref 6), some (.int a1), some (.int 4)] [] (E x y)
        refine PW_iload_n c_H_hasFact_0 rfl ?_
        refine PW_bipush (v := 7) c_H_hasFact_1 (by decide) ?_
        refine PW_icmp_ne c_H_hasFact_3 (fun _ => ?_) (fun h5 => absurd h5 (by decide))
        refine PW_iload_n c_H_hasFact_25 rfl ?_
        refine PW_if_lt c_H_hasFact_26 (fun h6 => absurd h6 (by decide)) (fun _ => ?_)
        refine PW_iload_n c_H_hasFact_29 rfl ?_
        refine PW_aload_n c_H_hasFact_30 rfl ?_
        refine PW_get (v := .ref 7) c_H_hasFact_31 fl_H_13 (gf_6_0 _ _) ?_
        refine PW_alen (v := 7) c_H_hasFact_34 (ar_7 _ _) (t0 := 5) rfl (by decide) ?_
        refine PW_icmp_ge c_H_hasFact_35 (fun h7 => absurd h7 (by decide)) (fun _ => ?_)
        refine PW_aload_n c_H_hasFact_38 rfl ?_
        refine PW_iload_n c_H_hasFact_39 rfl ?_
        refine PW_V0 (d2 := 0) (st := []) [.int a1] c_H_hasFact_40 lk_H_hasFact_37 (po_6 _ _) rfl rfl rfl (Nat.le_of_ble_eq_true rfl) (by first | decide | omega) (Nat.le_of_ble_eq_true rfl) ?_
        refine sp_H_isGuest hg.W hg.x51 ?_
        show PW _ _ _ 43 [some (.ref 6), some (.int a1), some (.int 4)] [.int (b2i (0 ≤ a1.toInt ∧ a1.toInt < (nG y : Int)))] (E x y)
        refine PW_if_eq c_H_hasFact_43 (fun h8 => absurd hc0 (b2i_0.mp h8)) (fun _ => ?_)
        refine PW_iconst (v := 1) c_H_hasFact_46 (by decide) ?_
        refine PW_goto c_H_hasFact_47 ?_
        refine PW_ireturn (ty := .boolean) c_H_hasFact_51 rfl (by decide +kernel) ?_
        show PW _ _ _ 6 [some (.ref 6), some (.int a1), some (.int 4)] [.int 1] (E x y)
        refine PW_if_ne c_H_fact_6 (fun _ => ?_) (fun h9 => absurd h9 (by decide))
        refine PW_iload_n c_H_fact_11 rfl ?_
        refine PW_bipush (v := 7) c_H_fact_12 (by decide) ?_
        refine PW_icmp_ne c_H_fact_14 (fun _ => ?_) (fun h10 => absurd h10 (by decide))
        refine PW_aload_n c_H_fact_26 rfl ?_
        refine PW_get (v := .ref 7) c_H_fact_27 fl_H_13 (gf_6_0 _ _) ?_
        refine PW_iload_n c_H_fact_30 rfl ?_
        refine PW_aald (j := 4) c_H_fact_31 (ar_7 _ _) (t0 := 5) rfl rfl (vp_in_iff.mpr (by decide)) rfl ?_
        rw [if_pos (by decide)]
        show PW _ _ _ 32 [some (.ref 6), some (.int a1), some (.int 4)] [.ref 12] (E x y)
        refine PW_iload_n c_H_fact_32 rfl ?_
        refine PW_iald (j := a1.toNatClampNeg) c_H_fact_33 (ar_12 _ _) (vp_in_iff.mpr (g10 hg hc0)) rfl ?_
        show PW _ _ _ 34 [some (.ref 6), some (.int a1), some (.int 4)] [.int ((x.2.1 12) a1.toNatClampNeg)] (E x y)
        refine PW_ireturn (ty := .int) c_H_fact_34 rfl rfl ?_
        show PW _ _ _ 21 [some (.ref 5), some (.int a1), some (.int 4)] [.int ((x.2.1 12) a1.toNatClampNeg)] (E x y)
        refine PW_goto c_G_of_21 ?_
        refine PW_ireturn (ty := .int) c_G_of_25 rfl rfl ?_
        exact pqi h (hg.row 4 (by omega) (gnat hc0)).symm
      · refine PW.deeper (k := (3, 0, 0, z)) (Nat.le_of_ble_eq_true rfl) (Nat.le_refl _) (Nat.le_refl _) ?_
        refine PW_aload_n c_M_of_0 rfl ?_
        refine PW_iload_n c_M_of_1 rfl ?_
        refine PW_iload_n c_M_of_2 rfl ?_
        refine PW_V0 (d2 := 2) (st := []) [.int a1, .int 4] c_M_of_3 lk_M_of_165 (po_70 _ _) rfl rfl rfl (Nat.le_of_ble_eq_true rfl) (by first | decide | omega) (Nat.le_of_ble_eq_true rfl) ?_
        show PW _ _ _ 0 [some (.ref 70), some (.int a1), some (.int 4)] [] (E x y)
        refine PW_iload_n c_M_isThing_0 rfl ?_
        refine PW_bipush (v := 7) c_M_isThing_1 (by decide) ?_
        refine PW_icmp_ne c_M_isThing_3 (fun _ => ?_) (fun h0 => absurd h0 (by decide))
        refine PW_iload_n c_M_isThing_15 rfl ?_
        refine PW_iconst (v := 0) c_M_isThing_16 (by decide) ?_
        refine PW_bipush (v := 6) c_M_isThing_17 (by decide) ?_
        refine PW_S0 (d2 := 0) (st := []) [.int 4, .int 0, .int 6] c_M_isThing_19 lk_M_isThing_131 rfl rfl rfl (Nat.le_of_ble_eq_true rfl) (by first | decide | omega) (Nat.le_of_ble_eq_true rfl) ?_
        refine sp_M_within  ?_
        show PW _ _ _ 22 [some (.ref 70), some (.int a1), some (.int 4)] [.int (b2i ((0 : Int32) ≤ (4 : Int32) ∧ (4 : Int32) ≤ (6 : Int32)))] (E x y)
        refine PW_if_eq c_M_isThing_22 (fun h1 => absurd (by decide) (b2i_0.mp h1)) (fun _ => ?_)
        refine PW_aload_n c_M_isThing_25 rfl ?_
        refine PW_iload_n c_M_isThing_26 rfl ?_
        refine PW_V0 (d2 := 1) (st := []) [.int a1] c_M_isThing_27 lk_M_isThing_162 (po_70 _ _) rfl rfl rfl (Nat.le_of_ble_eq_true rfl) (by first | decide | omega) (Nat.le_of_ble_eq_true rfl) ?_
        refine sp_M_isGuest2 hg.W ?_
        show PW _ _ _ 30 [some (.ref 70), some (.int a1), some (.int 4)] [.int (b2i (0 ≤ a1.toInt ∧ a1.toInt < (nG y : Int)))] (E x y)
        refine PW_if_eq c_M_isThing_30 (fun h2 => absurd hc0 (b2i_0.mp h2)) (fun _ => ?_)
        refine PW_iconst (v := 1) c_M_isThing_33 (by decide) ?_
        refine PW_goto c_M_isThing_34 ?_
        refine PW_ireturn (ty := .boolean) c_M_isThing_38 rfl (by decide +kernel) ?_
        show PW _ _ _ 6 [some (.ref 70), some (.int a1), some (.int 4)] [.int 1] (E x y)
        refine PW_if_eq c_M_of_6 (fun h3 => absurd h3 (by decide)) (fun _ => ?_)
        refine PW_aload_n c_M_of_9 rfl ?_
        refine PW_iload_n c_M_of_10 rfl ?_
        refine PW_iload_n c_M_of_11 rfl ?_
        refine PW_V0 (d2 := 0) (st := []) [.int 4, .int a1] c_M_of_12 lk_M_of_148 (po_70 _ _) rfl rfl rfl (Nat.le_of_ble_eq_true rfl) (by first | decide | omega) (Nat.le_of_ble_eq_true rfl) ?_
        show PW _ _ _ 0 [some (.ref 70), some (.int 4), some (.int a1)] [] (E x y)
        refine PW_iload_n c_M_valueAt_0 rfl ?_
        refine PW_tableIn (tgt := 72) c_M_valueAt_1 (by decide) (by decide) rfl rfl ?_
        refine PW_aload_n c_M_valueAt_72 rfl ?_
        refine PW_get (v := .ref 75) c_M_valueAt_73 fl_M_22 (gf_70_6 _ _) ?_
        refine PW_iload_n c_M_valueAt_76 rfl ?_
        refine PW_iald (j := a1.toNatClampNeg) c_M_valueAt_77 (ar_75 _ _) (vp_in_iff.mpr (g10 hg hc0)) rfl ?_
        show PW _ _ _ 78 [some (.ref 70), some (.int 4), some (.int a1)] [.int ((y.2.1 75) a1.toNatClampNeg)] (E x y)
        refine PW_ireturn (ty := .int) c_M_valueAt_78 rfl rfl ?_
        show PW _ _ _ 15 [some (.ref 70), some (.int a1), some (.int 4)] [.int ((y.2.1 75) a1.toNatClampNeg)] (E x y)
        refine PW_goto c_M_of_15 ?_
        refine PW_ireturn (ty := .int) c_M_of_19 rfl rfl ?_
        exact h
    refine ⟨-1, x, y, ?_, fun {z post} h => ?_, fun {z post} h => ?_⟩
    · exact INV_step hI
    · refine PW.deeper (k := (3, 0, 0, z)) (Nat.le_of_ble_eq_true rfl) (Nat.le_refl _) (Nat.le_refl _) ?_
      refine PW_aload_n c_G_of_0 rfl ?_
      refine PW_get (v := .ref 6) c_G_of_1 fl_G_13 (gf_5_0 _ _) ?_
      refine PW_iload_n c_G_of_4 rfl ?_
      refine PW_iload_n c_G_of_5 rfl ?_
      refine PW_V0 (d2 := 1) (st := []) [.int a1, .int 4] c_G_of_6 lk_G_of_124 (po_6 _ _) rfl rfl rfl (Nat.le_of_ble_eq_true rfl) (by first | decide | omega) (Nat.le_of_ble_eq_true rfl) ?_
      show PW _ _ _ 0 [some (.ref 6), some (.int a1), some (.int 4)] [] (E x y)
      refine PW_iload_n c_H_hasFact_0 rfl ?_
      refine PW_bipush (v := 7) c_H_hasFact_1 (by decide) ?_
      refine PW_icmp_ne c_H_hasFact_3 (fun _ => ?_) (fun h0 => absurd h0 (by decide))
      refine PW_iload_n c_H_hasFact_25 rfl ?_
      refine PW_if_lt c_H_hasFact_26 (fun h1 => absurd h1 (by decide)) (fun _ => ?_)
      refine PW_iload_n c_H_hasFact_29 rfl ?_
      refine PW_aload_n c_H_hasFact_30 rfl ?_
      refine PW_get (v := .ref 7) c_H_hasFact_31 fl_H_13 (gf_6_0 _ _) ?_
      refine PW_alen (v := 7) c_H_hasFact_34 (ar_7 _ _) (t0 := 5) rfl (by decide) ?_
      refine PW_icmp_ge c_H_hasFact_35 (fun h2 => absurd h2 (by decide)) (fun _ => ?_)
      refine PW_aload_n c_H_hasFact_38 rfl ?_
      refine PW_iload_n c_H_hasFact_39 rfl ?_
      refine PW_V0 (d2 := 0) (st := []) [.int a1] c_H_hasFact_40 lk_H_hasFact_37 (po_6 _ _) rfl rfl rfl (Nat.le_of_ble_eq_true rfl) (by first | decide | omega) (Nat.le_of_ble_eq_true rfl) ?_
      refine sp_H_isGuest hg.W hg.x51 ?_
      show PW _ _ _ 43 [some (.ref 6), some (.int a1), some (.int 4)] [.int (b2i (0 ≤ a1.toInt ∧ a1.toInt < (nG y : Int)))] (E x y)
      refine PW_if_eq c_H_hasFact_43 (fun _ => ?_) (fun h3 => absurd (b2i_n0.mp h3) hc0)
      refine PW_iconst (v := 0) c_H_hasFact_50 (by decide) ?_
      refine PW_ireturn (ty := .boolean) c_H_hasFact_51 rfl (by decide +kernel) ?_
      show PW _ _ _ 9 [some (.ref 5), some (.int a1), some (.int 4)] [.int 0] (E x y)
      refine PW_if_eq c_G_of_9 (fun _ => ?_) (fun h4 => absurd (by decide) h4)
      refine PW_iconst (v := -1) c_G_of_24 (by decide) ?_
      refine PW_ireturn (ty := .int) c_G_of_25 rfl rfl ?_
      exact h
    · refine PW.deeper (k := (3, 0, 0, z)) (Nat.le_of_ble_eq_true rfl) (Nat.le_refl _) (Nat.le_refl _) ?_
      refine PW_aload_n c_M_of_0 rfl ?_
      refine PW_iload_n c_M_of_1 rfl ?_
      refine PW_iload_n c_M_of_2 rfl ?_
      refine PW_V0 (d2 := 2) (st := []) [.int a1, .int 4] c_M_of_3 lk_M_of_165 (po_70 _ _) rfl rfl rfl (Nat.le_of_ble_eq_true rfl) (by first | decide | omega) (Nat.le_of_ble_eq_true rfl) ?_
      show PW _ _ _ 0 [some (.ref 70), some (.int a1), some (.int 4)] [] (E x y)
      refine PW_iload_n c_M_isThing_0 rfl ?_
      refine PW_bipush (v := 7) c_M_isThing_1 (by decide) ?_
      refine PW_icmp_ne c_M_isThing_3 (fun _ => ?_) (fun h0 => absurd h0 (by decide))
      refine PW_iload_n c_M_isThing_15 rfl ?_
      refine PW_iconst (v := 0) c_M_isThing_16 (by decide) ?_
      refine PW_bipush (v := 6) c_M_isThing_17 (by decide) ?_
      refine PW_S0 (d2 := 0) (st := []) [.int 4, .int 0, .int 6] c_M_isThing_19 lk_M_isThing_131 rfl rfl rfl (Nat.le_of_ble_eq_true rfl) (by first | decide | omega) (Nat.le_of_ble_eq_true rfl) ?_
      refine sp_M_within  ?_
      show PW _ _ _ 22 [some (.ref 70), some (.int a1), some (.int 4)] [.int (b2i ((0 : Int32) ≤ (4 : Int32) ∧ (4 : Int32) ≤ (6 : Int32)))] (E x y)
      refine PW_if_eq c_M_isThing_22 (fun h1 => absurd (by decide) (b2i_0.mp h1)) (fun _ => ?_)
      refine PW_aload_n c_M_isThing_25 rfl ?_
      refine PW_iload_n c_M_isThing_26 rfl ?_
      refine PW_V0 (d2 := 1) (st := []) [.int a1] c_M_isThing_27 lk_M_isThing_162 (po_70 _ _) rfl rfl rfl (Nat.le_of_ble_eq_true rfl) (by first | decide | omega) (Nat.le_of_ble_eq_true rfl) ?_
      refine sp_M_isGuest2 hg.W ?_
      show PW _ _ _ 30 [some (.ref 70), some (.int a1), some (.int 4)] [.int (b2i (0 ≤ a1.toInt ∧ a1.toInt < (nG y : Int)))] (E x y)
      refine PW_if_eq c_M_isThing_30 (fun _ => ?_) (fun h2 => absurd (b2i_n0.mp h2) hc0)
      refine PW_iconst (v := 0) c_M_isThing_37 (by decide) ?_
      refine PW_ireturn (ty := .boolean) c_M_isThing_38 rfl (by decide +kernel) ?_
      show PW _ _ _ 6 [some (.ref 70), some (.int a1), some (.int 4)] [.int 0] (E x y)
      refine PW_if_eq c_M_of_6 (fun _ => ?_) (fun h3 => absurd (by decide) h3)
      refine PW_iconst (v := -1) c_M_of_18 (by decide) ?_
      refine PW_ireturn (ty := .int) c_M_of_19 rfl rfl ?_
      exact h
  by_cases hw5 : a2 = 5
  · subst hw5
    by_cases hc0 : 0 ≤ a1.toInt ∧ a1.toInt < (nG y : Int)
    · refine ⟨y.2.1 76 a1.toNatClampNeg, x, y, ?_, fun {z post} h => ?_, fun {z post} h => ?_⟩
      · exact INV_step hI
      · refine PW.deeper (k := (3, 0, 0, z)) (Nat.le_of_ble_eq_true rfl) (Nat.le_refl _) (Nat.le_refl _) ?_
        refine PW_aload_n c_G_of_0 rfl ?_
        refine PW_get (v := .ref 6) c_G_of_1 fl_G_13 (gf_5_0 _ _) ?_
        refine PW_iload_n c_G_of_4 rfl ?_
        refine PW_iload_n c_G_of_5 rfl ?_
        refine PW_V0 (d2 := 1) (st := []) [.int a1, .int 5] c_G_of_6 lk_G_of_124 (po_6 _ _) rfl rfl rfl (Nat.le_of_ble_eq_true rfl) (by first | decide | omega) (Nat.le_of_ble_eq_true rfl) ?_
        show PW _ _ _ 0 [some (.ref 6), some (.int a1), some (.int 5)] [] (E x y)
        refine PW_iload_n c_H_hasFact_0 rfl ?_
        refine PW_bipush (v := 7) c_H_hasFact_1 (by decide) ?_
        refine PW_icmp_ne c_H_hasFact_3 (fun _ => ?_) (fun h0 => absurd h0 (by decide))
        refine PW_iload_n c_H_hasFact_25 rfl ?_
        refine PW_if_lt c_H_hasFact_26 (fun h1 => absurd h1 (by decide)) (fun _ => ?_)
        refine PW_iload_n c_H_hasFact_29 rfl ?_
        refine PW_aload_n c_H_hasFact_30 rfl ?_
        refine PW_get (v := .ref 7) c_H_hasFact_31 fl_H_13 (gf_6_0 _ _) ?_
        refine PW_alen (v := 7) c_H_hasFact_34 (ar_7 _ _) (t0 := 5) rfl (by decide) ?_
        refine PW_icmp_ge c_H_hasFact_35 (fun h2 => absurd h2 (by decide)) (fun _ => ?_)
        refine PW_aload_n c_H_hasFact_38 rfl ?_
        refine PW_iload_n c_H_hasFact_39 rfl ?_
        refine PW_V0 (d2 := 0) (st := []) [.int a1] c_H_hasFact_40 lk_H_hasFact_37 (po_6 _ _) rfl rfl rfl (Nat.le_of_ble_eq_true rfl) (by first | decide | omega) (Nat.le_of_ble_eq_true rfl) ?_
        refine sp_H_isGuest hg.W hg.x51 ?_
        show PW _ _ _ 43 [some (.ref 6), some (.int a1), some (.int 5)] [.int (b2i (0 ≤ a1.toInt ∧ a1.toInt < (nG y : Int)))] (E x y)
        refine PW_if_eq c_H_hasFact_43 (fun h3 => absurd hc0 (b2i_0.mp h3)) (fun _ => ?_)
        refine PW_iconst (v := 1) c_H_hasFact_46 (by decide) ?_
        refine PW_goto c_H_hasFact_47 ?_
        refine PW_ireturn (ty := .boolean) c_H_hasFact_51 rfl (by decide +kernel) ?_
        show PW _ _ _ 9 [some (.ref 5), some (.int a1), some (.int 5)] [.int 1] (E x y)
        refine PW_if_eq c_G_of_9 (fun h4 => absurd h4 (by decide)) (fun _ => ?_)
        refine PW_aload_n c_G_of_12 rfl ?_
        refine PW_get (v := .ref 6) c_G_of_13 fl_G_13 (gf_5_0 _ _) ?_
        refine PW_iload_n c_G_of_16 rfl ?_
        refine PW_iload_n c_G_of_17 rfl ?_
        refine PW_V0 (d2 := 2) (st := []) [.int a1, .int 5] c_G_of_18 lk_G_of_127 (po_6 _ _) rfl rfl rfl (Nat.le_of_ble_eq_true rfl) (by first | decide | omega) (Nat.le_of_ble_eq_true rfl) ?_
        show PW _ _ _ 0 [some (.ref 6), some (.int a1), some (.int 5)] [] (E x y)
        refine PW_aload_n c_H_fact_0 rfl ?_
        refine PW_iload_n c_H_fact_1 rfl ?_
        refine PW_iload_n c_H_fact_2 rfl ?_
        refine PW_V0 (d2 := 1) (st := []) [.int a1, .int 5] c_H_fact_3 lk_H_fact_41 (po_6 _ _) rfl rfl rfl (Nat.le_of_ble_eq_true rfl) (by first | decide | omega) (Nat.le_of_ble_eq_true rfl) ?_
        show PW _ _ _ 0 [some (.ref 6), some (.int a1), some (.int 5)] [] (E x y)
        refine PW_iload_n c_H_hasFact_0 rfl ?_
        refine PW_bipush (v := 7) c_H_hasFact_1 (by decide) ?_
        refine PW_icmp_ne c_H_hasFact_3 (fun _ => ?_) (fun h5 => absurd h5 (by decide))
        refine PW_iload_n c_H_hasFact_25 rfl ?_
        refine PW_if_lt c_H_hasFact_26 (fun h6 => absurd h6 (by decide)) (fun _ => ?_)
        refine PW_iload_n c_H_hasFact_29 rfl ?_
        refine PW_aload_n c_H_hasFact_30 rfl ?_
        refine PW_get (v := .ref 7) c_H_hasFact_31 fl_H_13 (gf_6_0 _ _) ?_
        refine PW_alen (v := 7) c_H_hasFact_34 (ar_7 _ _) (t0 := 5) rfl (by decide) ?_
        refine PW_icmp_ge c_H_hasFact_35 (fun h7 => absurd h7 (by decide)) (fun _ => ?_)
        refine PW_aload_n c_H_hasFact_38 rfl ?_
        refine PW_iload_n c_H_hasFact_39 rfl ?_
        refine PW_V0 (d2 := 0) (st := []) [.int a1] c_H_hasFact_40 lk_H_hasFact_37 (po_6 _ _) rfl rfl rfl (Nat.le_of_ble_eq_true rfl) (by first | decide | omega) (Nat.le_of_ble_eq_true rfl) ?_
        refine sp_H_isGuest hg.W hg.x51 ?_
        show PW _ _ _ 43 [some (.ref 6), some (.int a1), some (.int 5)] [.int (b2i (0 ≤ a1.toInt ∧ a1.toInt < (nG y : Int)))] (E x y)
        refine PW_if_eq c_H_hasFact_43 (fun h8 => absurd hc0 (b2i_0.mp h8)) (fun _ => ?_)
        refine PW_iconst (v := 1) c_H_hasFact_46 (by decide) ?_
        refine PW_goto c_H_hasFact_47 ?_
        refine PW_ireturn (ty := .boolean) c_H_hasFact_51 rfl (by decide +kernel) ?_
        show PW _ _ _ 6 [some (.ref 6), some (.int a1), some (.int 5)] [.int 1] (E x y)
        refine PW_if_ne c_H_fact_6 (fun _ => ?_) (fun h9 => absurd h9 (by decide))
        refine PW_iload_n c_H_fact_11 rfl ?_
        refine PW_bipush (v := 7) c_H_fact_12 (by decide) ?_
        refine PW_icmp_ne c_H_fact_14 (fun _ => ?_) (fun h10 => absurd h10 (by decide))
        refine PW_aload_n c_H_fact_26 rfl ?_
        refine PW_get (v := .ref 7) c_H_fact_27 fl_H_13 (gf_6_0 _ _) ?_
        refine PW_iload_n c_H_fact_30 rfl ?_
        refine PW_aald (j := 5) c_H_fact_31 (ar_7 _ _) (t0 := 5) rfl rfl (vp_in_iff.mpr (by decide)) rfl ?_
        rw [if_pos (by decide)]
        show PW _ _ _ 32 [some (.ref 6), some (.int a1), some (.int 5)] [.ref 13] (E x y)
        refine PW_iload_n c_H_fact_32 rfl ?_
        refine PW_iald (j := a1.toNatClampNeg) c_H_fact_33 (ar_13 _ _) (vp_in_iff.mpr (g10 hg hc0)) rfl ?_
        show PW _ _ _ 34 [some (.ref 6), some (.int a1), some (.int 5)] [.int ((x.2.1 13) a1.toNatClampNeg)] (E x y)
        refine PW_ireturn (ty := .int) c_H_fact_34 rfl rfl ?_
        show PW _ _ _ 21 [some (.ref 5), some (.int a1), some (.int 5)] [.int ((x.2.1 13) a1.toNatClampNeg)] (E x y)
        refine PW_goto c_G_of_21 ?_
        refine PW_ireturn (ty := .int) c_G_of_25 rfl rfl ?_
        exact pqi h (hg.row 5 (by omega) (gnat hc0)).symm
      · refine PW.deeper (k := (3, 0, 0, z)) (Nat.le_of_ble_eq_true rfl) (Nat.le_refl _) (Nat.le_refl _) ?_
        refine PW_aload_n c_M_of_0 rfl ?_
        refine PW_iload_n c_M_of_1 rfl ?_
        refine PW_iload_n c_M_of_2 rfl ?_
        refine PW_V0 (d2 := 2) (st := []) [.int a1, .int 5] c_M_of_3 lk_M_of_165 (po_70 _ _) rfl rfl rfl (Nat.le_of_ble_eq_true rfl) (by first | decide | omega) (Nat.le_of_ble_eq_true rfl) ?_
        show PW _ _ _ 0 [some (.ref 70), some (.int a1), some (.int 5)] [] (E x y)
        refine PW_iload_n c_M_isThing_0 rfl ?_
        refine PW_bipush (v := 7) c_M_isThing_1 (by decide) ?_
        refine PW_icmp_ne c_M_isThing_3 (fun _ => ?_) (fun h0 => absurd h0 (by decide))
        refine PW_iload_n c_M_isThing_15 rfl ?_
        refine PW_iconst (v := 0) c_M_isThing_16 (by decide) ?_
        refine PW_bipush (v := 6) c_M_isThing_17 (by decide) ?_
        refine PW_S0 (d2 := 0) (st := []) [.int 5, .int 0, .int 6] c_M_isThing_19 lk_M_isThing_131 rfl rfl rfl (Nat.le_of_ble_eq_true rfl) (by first | decide | omega) (Nat.le_of_ble_eq_true rfl) ?_
        refine sp_M_within  ?_
        show PW _ _ _ 22 [some (.ref 70), some (.int a1), some (.int 5)] [.int (b2i ((0 : Int32) ≤ (5 : Int32) ∧ (5 : Int32) ≤ (6 : Int32)))] (E x y)
        refine PW_if_eq c_M_isThing_22 (fun h1 => absurd (by decide) (b2i_0.mp h1)) (fun _ => ?_)
        refine PW_aload_n c_M_isThing_25 rfl ?_
        refine PW_iload_n c_M_isThing_26 rfl ?_
        refine PW_V0 (d2 := 1) (st := []) [.int a1] c_M_isThing_27 lk_M_isThing_162 (po_70 _ _) rfl rfl rfl (Nat.le_of_ble_eq_true rfl) (by first | decide | omega) (Nat.le_of_ble_eq_true rfl) ?_
        refine sp_M_isGuest2 hg.W ?_
        show PW _ _ _ 30 [some (.ref 70), some (.int a1), some (.int 5)] [.int (b2i (0 ≤ a1.toInt ∧ a1.toInt < (nG y : Int)))] (E x y)
        refine PW_if_eq c_M_isThing_30 (fun h2 => absurd hc0 (b2i_0.mp h2)) (fun _ => ?_)
        refine PW_iconst (v := 1) c_M_isThing_33 (by decide) ?_
        refine PW_goto c_M_isThing_34 ?_
        refine PW_ireturn (ty := .boolean) c_M_isThing_38 rfl (by decide +kernel) ?_
        show PW _ _ _ 6 [some (.ref 70), some (.int a1), some (.int 5)] [.int 1] (E x y)
        refine PW_if_eq c_M_of_6 (fun h3 => absurd h3 (by decide)) (fun _ => ?_)
        refine PW_aload_n c_M_of_9 rfl ?_
        refine PW_iload_n c_M_of_10 rfl ?_
        refine PW_iload_n c_M_of_11 rfl ?_
        refine PW_V0 (d2 := 0) (st := []) [.int 5, .int a1] c_M_of_12 lk_M_of_148 (po_70 _ _) rfl rfl rfl (Nat.le_of_ble_eq_true rfl) (by first | decide | omega) (Nat.le_of_ble_eq_true rfl) ?_
        show PW _ _ _ 0 [some (.ref 70), some (.int 5), some (.int a1)] [] (E x y)
        refine PW_iload_n c_M_valueAt_0 rfl ?_
        refine PW_tableIn (tgt := 79) c_M_valueAt_1 (by decide) (by decide) rfl rfl ?_
        refine PW_aload_n c_M_valueAt_79 rfl ?_
        refine PW_get (v := .ref 76) c_M_valueAt_80 fl_M_25 (gf_70_7 _ _) ?_
        refine PW_iload_n c_M_valueAt_83 rfl ?_
        refine PW_iald (j := a1.toNatClampNeg) c_M_valueAt_84 (ar_76 _ _) (vp_in_iff.mpr (g10 hg hc0)) rfl ?_
        show PW _ _ _ 85 [some (.ref 70), some (.int 5), some (.int a1)] [.int ((y.2.1 76) a1.toNatClampNeg)] (E x y)
        refine PW_ireturn (ty := .int) c_M_valueAt_85 rfl rfl ?_
        show PW _ _ _ 15 [some (.ref 70), some (.int a1), some (.int 5)] [.int ((y.2.1 76) a1.toNatClampNeg)] (E x y)
        refine PW_goto c_M_of_15 ?_
        refine PW_ireturn (ty := .int) c_M_of_19 rfl rfl ?_
        exact h
    refine ⟨-1, x, y, ?_, fun {z post} h => ?_, fun {z post} h => ?_⟩
    · exact INV_step hI
    · refine PW.deeper (k := (3, 0, 0, z)) (Nat.le_of_ble_eq_true rfl) (Nat.le_refl _) (Nat.le_refl _) ?_
      refine PW_aload_n c_G_of_0 rfl ?_
      refine PW_get (v := .ref 6) c_G_of_1 fl_G_13 (gf_5_0 _ _) ?_
      refine PW_iload_n c_G_of_4 rfl ?_
      refine PW_iload_n c_G_of_5 rfl ?_
      refine PW_V0 (d2 := 1) (st := []) [.int a1, .int 5] c_G_of_6 lk_G_of_124 (po_6 _ _) rfl rfl rfl (Nat.le_of_ble_eq_true rfl) (by first | decide | omega) (Nat.le_of_ble_eq_true rfl) ?_
      show PW _ _ _ 0 [some (.ref 6), some (.int a1), some (.int 5)] [] (E x y)
      refine PW_iload_n c_H_hasFact_0 rfl ?_
      refine PW_bipush (v := 7) c_H_hasFact_1 (by decide) ?_
      refine PW_icmp_ne c_H_hasFact_3 (fun _ => ?_) (fun h0 => absurd h0 (by decide))
      refine PW_iload_n c_H_hasFact_25 rfl ?_
      refine PW_if_lt c_H_hasFact_26 (fun h1 => absurd h1 (by decide)) (fun _ => ?_)
      refine PW_iload_n c_H_hasFact_29 rfl ?_
      refine PW_aload_n c_H_hasFact_30 rfl ?_
      refine PW_get (v := .ref 7) c_H_hasFact_31 fl_H_13 (gf_6_0 _ _) ?_
      refine PW_alen (v := 7) c_H_hasFact_34 (ar_7 _ _) (t0 := 5) rfl (by decide) ?_
      refine PW_icmp_ge c_H_hasFact_35 (fun h2 => absurd h2 (by decide)) (fun _ => ?_)
      refine PW_aload_n c_H_hasFact_38 rfl ?_
      refine PW_iload_n c_H_hasFact_39 rfl ?_
      refine PW_V0 (d2 := 0) (st := []) [.int a1] c_H_hasFact_40 lk_H_hasFact_37 (po_6 _ _) rfl rfl rfl (Nat.le_of_ble_eq_true rfl) (by first | decide | omega) (Nat.le_of_ble_eq_true rfl) ?_
      refine sp_H_isGuest hg.W hg.x51 ?_
      show PW _ _ _ 43 [some (.ref 6), some (.int a1), some (.int 5)] [.int (b2i (0 ≤ a1.toInt ∧ a1.toInt < (nG y : Int)))] (E x y)
      refine PW_if_eq c_H_hasFact_43 (fun _ => ?_) (fun h3 => absurd (b2i_n0.mp h3) hc0)
      refine PW_iconst (v := 0) c_H_hasFact_50 (by decide) ?_
      refine PW_ireturn (ty := .boolean) c_H_hasFact_51 rfl (by decide +kernel) ?_
      show PW _ _ _ 9 [some (.ref 5), some (.int a1), some (.int 5)] [.int 0] (E x y)
      refine PW_if_eq c_G_of_9 (fun _ => ?_) (fun h4 => absurd (by decide) h4)
      refine PW_iconst (v := -1) c_G_of_24 (by decide) ?_
      refine PW_ireturn (ty := .int) c_G_of_25 rfl rfl ?_
      exact h
    · refine PW.deeper (k := (3, 0, 0, z)) (Nat.le_of_ble_eq_true rfl) (Nat.le_refl _) (Nat.le_refl _) ?_
      refine PW_aload_n c_M_of_0 rfl ?_
      refine PW_iload_n c_M_of_1 rfl ?_
      refine PW_iload_n c_M_of_2 rfl ?_
      refine PW_V0 (d2 := 2) (st := []) [.int a1, .int 5] c_M_of_3 lk_M_of_165 (po_70 _ _) rfl rfl rfl (Nat.le_of_ble_eq_true rfl) (by first | decide | omega) (Nat.le_of_ble_eq_true rfl) ?_
      show PW _ _ _ 0 [some (.ref 70), some (.int a1), some (.int 5)] [] (E x y)
      refine PW_iload_n c_M_isThing_0 rfl ?_
      refine PW_bipush (v := 7) c_M_isThing_1 (by decide) ?_
      refine PW_icmp_ne c_M_isThing_3 (fun _ => ?_) (fun h0 => absurd h0 (by decide))
      refine PW_iload_n c_M_isThing_15 rfl ?_
      refine PW_iconst (v := 0) c_M_isThing_16 (by decide) ?_
      refine PW_bipush (v := 6) c_M_isThing_17 (by decide) ?_
      refine PW_S0 (d2 := 0) (st := []) [.int 5, .int 0, .int 6] c_M_isThing_19 lk_M_isThing_131 rfl rfl rfl (Nat.le_of_ble_eq_true rfl) (by first | decide | omega) (Nat.le_of_ble_eq_true rfl) ?_
      refine sp_M_within  ?_
      show PW _ _ _ 22 [some (.ref 70), some (.int a1), some (.int 5)] [.int (b2i ((0 : Int32) ≤ (5 : Int32) ∧ (5 : Int32) ≤ (6 : Int32)))] (E x y)
      refine PW_if_eq c_M_isThing_22 (fun h1 => absurd (by decide) (b2i_0.mp h1)) (fun _ => ?_)
      refine PW_aload_n c_M_isThing_25 rfl ?_
      refine PW_iload_n c_M_isThing_26 rfl ?_
      refine PW_V0 (d2 := 1) (st := []) [.int a1] c_M_isThing_27 lk_M_isThing_162 (po_70 _ _) rfl rfl rfl (Nat.le_of_ble_eq_true rfl) (by first | decide | omega) (Nat.le_of_ble_eq_true rfl) ?_
      refine sp_M_isGuest2 hg.W ?_
      show PW _ _ _ 30 [some (.ref 70), some (.int a1), some (.int 5)] [.int (b2i (0 ≤ a1.toInt ∧ a1.toInt < (nG y : Int)))] (E x y)
      refine PW_if_eq c_M_isThing_30 (fun _ => ?_) (fun h2 => absurd (b2i_n0.mp h2) hc0)
      refine PW_iconst (v := 0) c_M_isThing_37 (by decide) ?_
      refine PW_ireturn (ty := .boolean) c_M_isThing_38 rfl (by decide +kernel) ?_
      show PW _ _ _ 6 [some (.ref 70), some (.int a1), some (.int 5)] [.int 0] (E x y)
      refine PW_if_eq c_M_of_6 (fun _ => ?_) (fun h3 => absurd (by decide) h3)
      refine PW_iconst (v := -1) c_M_of_18 (by decide) ?_
      refine PW_ireturn (ty := .int) c_M_of_19 rfl rfl ?_
      exact h
  by_cases hw6 : a2 = 6
  · subst hw6
    by_cases hc0 : 0 ≤ a1.toInt ∧ a1.toInt < (nG y : Int)
    · refine ⟨y.2.1 77 a1.toNatClampNeg, x, y, ?_, fun {z post} h => ?_, fun {z post} h => ?_⟩
      · exact INV_step hI
      · refine PW.deeper (k := (3, 0, 0, z)) (Nat.le_of_ble_eq_true rfl) (Nat.le_refl _) (Nat.le_refl _) ?_
        refine PW_aload_n c_G_of_0 rfl ?_
        refine PW_get (v := .ref 6) c_G_of_1 fl_G_13 (gf_5_0 _ _) ?_
        refine PW_iload_n c_G_of_4 rfl ?_
        refine PW_iload_n c_G_of_5 rfl ?_
        refine PW_V0 (d2 := 1) (st := []) [.int a1, .int 6] c_G_of_6 lk_G_of_124 (po_6 _ _) rfl rfl rfl (Nat.le_of_ble_eq_true rfl) (by first | decide | omega) (Nat.le_of_ble_eq_true rfl) ?_
        show PW _ _ _ 0 [some (.ref 6), some (.int a1), some (.int 6)] [] (E x y)
        refine PW_iload_n c_H_hasFact_0 rfl ?_
        refine PW_bipush (v := 7) c_H_hasFact_1 (by decide) ?_
        refine PW_icmp_ne c_H_hasFact_3 (fun _ => ?_) (fun h0 => absurd h0 (by decide))
        refine PW_iload_n c_H_hasFact_25 rfl ?_
        refine PW_if_lt c_H_hasFact_26 (fun h1 => absurd h1 (by decide)) (fun _ => ?_)
        refine PW_iload_n c_H_hasFact_29 rfl ?_
        refine PW_aload_n c_H_hasFact_30 rfl ?_
        refine PW_get (v := .ref 7) c_H_hasFact_31 fl_H_13 (gf_6_0 _ _) ?_
        refine PW_alen (v := 7) c_H_hasFact_34 (ar_7 _ _) (t0 := 5) rfl (by decide) ?_
        refine PW_icmp_ge c_H_hasFact_35 (fun h2 => absurd h2 (by decide)) (fun _ => ?_)
        refine PW_aload_n c_H_hasFact_38 rfl ?_
        refine PW_iload_n c_H_hasFact_39 rfl ?_
        refine PW_V0 (d2 := 0) (st := []) [.int a1] c_H_hasFact_40 lk_H_hasFact_37 (po_6 _ _) rfl rfl rfl (Nat.le_of_ble_eq_true rfl) (by first | decide | omega) (Nat.le_of_ble_eq_true rfl) ?_
        refine sp_H_isGuest hg.W hg.x51 ?_
        show PW _ _ _ 43 [some (.ref 6), some (.int a1), some (.int 6)] [.int (b2i (0 ≤ a1.toInt ∧ a1.toInt < (nG y : Int)))] (E x y)
        refine PW_if_eq c_H_hasFact_43 (fun h3 => absurd hc0 (b2i_0.mp h3)) (fun _ => ?_)
        refine PW_iconst (v := 1) c_H_hasFact_46 (by decide) ?_
        refine PW_goto c_H_hasFact_47 ?_
        refine PW_ireturn (ty := .boolean) c_H_hasFact_51 rfl (by decide +kernel) ?_
        show PW _ _ _ 9 [some (.ref 5), some (.int a1), some (.int 6)] [.int 1] (E x y)
        refine PW_if_eq c_G_of_9 (fun h4 => absurd h4 (by decide)) (fun _ => ?_)
        refine PW_aload_n c_G_of_12 rfl ?_
        refine PW_get (v := .ref 6) c_G_of_13 fl_G_13 (gf_5_0 _ _) ?_
        refine PW_iload_n c_G_of_16 rfl ?_
        refine PW_iload_n c_G_of_17 rfl ?_
        refine PW_V0 (d2 := 2) (st := []) [.int a1, .int 6] c_G_of_18 lk_G_of_127 (po_6 _ _) rfl rfl rfl (Nat.le_of_ble_eq_true rfl) (by first | decide | omega) (Nat.le_of_ble_eq_true rfl) ?_
        show PW _ _ _ 0 [some (.ref 6), some (.int a1), some (.int 6)] [] (E x y)
        refine PW_aload_n c_H_fact_0 rfl ?_
        refine PW_iload_n c_H_fact_1 rfl ?_
        refine PW_iload_n c_H_fact_2 rfl ?_
        refine PW_V0 (d2 := 1) (st := []) [.int a1, .int 6] c_H_fact_3 lk_H_fact_41 (po_6 _ _) rfl rfl rfl (Nat.le_of_ble_eq_true rfl) (by first | decide | omega) (Nat.le_of_ble_eq_true rfl) ?_
        show PW _ _ _ 0 [some (.ref 6), some (.int a1), some (.int 6)] [] (E x y)
        refine PW_iload_n c_H_hasFact_0 rfl ?_
        refine PW_bipush (v := 7) c_H_hasFact_1 (by decide) ?_
        refine PW_icmp_ne c_H_hasFact_3 (fun _ => ?_) (fun h5 => absurd h5 (by decide))
        refine PW_iload_n c_H_hasFact_25 rfl ?_
        refine PW_if_lt c_H_hasFact_26 (fun h6 => absurd h6 (by decide)) (fun _ => ?_)
        refine PW_iload_n c_H_hasFact_29 rfl ?_
        refine PW_aload_n c_H_hasFact_30 rfl ?_
        refine PW_get (v := .ref 7) c_H_hasFact_31 fl_H_13 (gf_6_0 _ _) ?_
        refine PW_alen (v := 7) c_H_hasFact_34 (ar_7 _ _) (t0 := 5) rfl (by decide) ?_
        refine PW_icmp_ge c_H_hasFact_35 (fun h7 => absurd h7 (by decide)) (fun _ => ?_)
        refine PW_aload_n c_H_hasFact_38 rfl ?_
        refine PW_iload_n c_H_hasFact_39 rfl ?_
        refine PW_V0 (d2 := 0) (st := []) [.int a1] c_H_hasFact_40 lk_H_hasFact_37 (po_6 _ _) rfl rfl rfl (Nat.le_of_ble_eq_true rfl) (by first | decide | omega) (Nat.le_of_ble_eq_true rfl) ?_
        refine sp_H_isGuest hg.W hg.x51 ?_
        show PW _ _ _ 43 [some (.ref 6), some (.int a1), some (.int 6)] [.int (b2i (0 ≤ a1.toInt ∧ a1.toInt < (nG y : Int)))] (E x y)
        refine PW_if_eq c_H_hasFact_43 (fun h8 => absurd hc0 (b2i_0.mp h8)) (fun _ => ?_)
        refine PW_iconst (v := 1) c_H_hasFact_46 (by decide) ?_
        refine PW_goto c_H_hasFact_47 ?_
        refine PW_ireturn (ty := .boolean) c_H_hasFact_51 rfl (by decide +kernel) ?_
        show PW _ _ _ 6 [some (.ref 6), some (.int a1), some (.int 6)] [.int 1] (E x y)
        refine PW_if_ne c_H_fact_6 (fun _ => ?_) (fun h9 => absurd h9 (by decide))
        refine PW_iload_n c_H_fact_11 rfl ?_
        refine PW_bipush (v := 7) c_H_fact_12 (by decide) ?_
        refine PW_icmp_ne c_H_fact_14 (fun _ => ?_) (fun h10 => absurd h10 (by decide))
        refine PW_aload_n c_H_fact_26 rfl ?_
        refine PW_get (v := .ref 7) c_H_fact_27 fl_H_13 (gf_6_0 _ _) ?_
        refine PW_iload_n c_H_fact_30 rfl ?_
        refine PW_aald (j := 6) c_H_fact_31 (ar_7 _ _) (t0 := 5) rfl rfl (vp_in_iff.mpr (by decide)) rfl ?_
        rw [if_pos (by decide)]
        show PW _ _ _ 32 [some (.ref 6), some (.int a1), some (.int 6)] [.ref 14] (E x y)
        refine PW_iload_n c_H_fact_32 rfl ?_
        refine PW_iald (j := a1.toNatClampNeg) c_H_fact_33 (ar_14 _ _) (vp_in_iff.mpr (g10 hg hc0)) rfl ?_
        show PW _ _ _ 34 [some (.ref 6), some (.int a1), some (.int 6)] [.int ((x.2.1 14) a1.toNatClampNeg)] (E x y)
        refine PW_ireturn (ty := .int) c_H_fact_34 rfl rfl ?_
        show PW _ _ _ 21 [some (.ref 5), some (.int a1), some (.int 6)] [.int ((x.2.1 14) a1.toNatClampNeg)] (E x y)
        refine PW_goto c_G_of_21 ?_
        refine PW_ireturn (ty := .int) c_G_of_25 rfl rfl ?_
        exact pqi h (hg.row 6 (by omega) (gnat hc0)).symm
      · refine PW.deeper (k := (3, 0, 0, z)) (Nat.le_of_ble_eq_true rfl) (Nat.le_refl _) (Nat.le_refl _) ?_
        refine PW_aload_n c_M_of_0 rfl ?_
        refine PW_iload_n c_M_of_1 rfl ?_
        refine PW_iload_n c_M_of_2 rfl ?_
        refine PW_V0 (d2 := 2) (st := []) [.int a1, .int 6] c_M_of_3 lk_M_of_165 (po_70 _ _) rfl rfl rfl (Nat.le_of_ble_eq_true rfl) (by first | decide | omega) (Nat.le_of_ble_eq_true rfl) ?_
        show PW _ _ _ 0 [some (.ref 70), some (.int a1), some (.int 6)] [] (E x y)
        refine PW_iload_n c_M_isThing_0 rfl ?_
        refine PW_bipush (v := 7) c_M_isThing_1 (by decide) ?_
        refine PW_icmp_ne c_M_isThing_3 (fun _ => ?_) (fun h0 => absurd h0 (by decide))
        refine PW_iload_n c_M_isThing_15 rfl ?_
        refine PW_iconst (v := 0) c_M_isThing_16 (by decide) ?_
        refine PW_bipush (v := 6) c_M_isThing_17 (by decide) ?_
        refine PW_S0 (d2 := 0) (st := []) [.int 6, .int 0, .int 6] c_M_isThing_19 lk_M_isThing_131 rfl rfl rfl (Nat.le_of_ble_eq_true rfl) (by first | decide | omega) (Nat.le_of_ble_eq_true rfl) ?_
        refine sp_M_within  ?_
        show PW _ _ _ 22 [some (.ref 70), some (.int a1), some (.int 6)] [.int (b2i ((0 : Int32) ≤ (6 : Int32) ∧ (6 : Int32) ≤ (6 : Int32)))] (E x y)
        refine PW_if_eq c_M_isThing_22 (fun h1 => absurd (by decide) (b2i_0.mp h1)) (fun _ => ?_)
        refine PW_aload_n c_M_isThing_25 rfl ?_
        refine PW_iload_n c_M_isThing_26 rfl ?_
        refine PW_V0 (d2 := 1) (st := []) [.int a1] c_M_isThing_27 lk_M_isThing_162 (po_70 _ _) rfl rfl rfl (Nat.le_of_ble_eq_true rfl) (by first | decide | omega) (Nat.le_of_ble_eq_true rfl) ?_
        refine sp_M_isGuest2 hg.W ?_
        show PW _ _ _ 30 [some (.ref 70), some (.int a1), some (.int 6)] [.int (b2i (0 ≤ a1.toInt ∧ a1.toInt < (nG y : Int)))] (E x y)
        refine PW_if_eq c_M_isThing_30 (fun h2 => absurd hc0 (b2i_0.mp h2)) (fun _ => ?_)
        refine PW_iconst (v := 1) c_M_isThing_33 (by decide) ?_
        refine PW_goto c_M_isThing_34 ?_
        refine PW_ireturn (ty := .boolean) c_M_isThing_38 rfl (by decide +kernel) ?_
        show PW _ _ _ 6 [some (.ref 70), some (.int a1), some (.int 6)] [.int 1] (E x y)
        refine PW_if_eq c_M_of_6 (fun h3 => absurd h3 (by decide)) (fun _ => ?_)
        refine PW_aload_n c_M_of_9 rfl ?_
        refine PW_iload_n c_M_of_10 rfl ?_
        refine PW_iload_n c_M_of_11 rfl ?_
        refine PW_V0 (d2 := 0) (st := []) [.int 6, .int a1] c_M_of_12 lk_M_of_148 (po_70 _ _) rfl rfl rfl (Nat.le_of_ble_eq_true rfl) (by first | decide | omega) (Nat.le_of_ble_eq_true rfl) ?_
        show PW _ _ _ 0 [some (.ref 70), some (.int 6), some (.int a1)] [] (E x y)
        refine PW_iload_n c_M_valueAt_0 rfl ?_
        refine PW_tableIn (tgt := 86) c_M_valueAt_1 (by decide) (by decide) rfl rfl ?_
        refine PW_aload_n c_M_valueAt_86 rfl ?_
        refine PW_get (v := .ref 77) c_M_valueAt_87 fl_M_28 (gf_70_8 _ _) ?_
        refine PW_iload_n c_M_valueAt_90 rfl ?_
        refine PW_iald (j := a1.toNatClampNeg) c_M_valueAt_91 (ar_77 _ _) (vp_in_iff.mpr (g10 hg hc0)) rfl ?_
        show PW _ _ _ 92 [some (.ref 70), some (.int 6), some (.int a1)] [.int ((y.2.1 77) a1.toNatClampNeg)] (E x y)
        refine PW_ireturn (ty := .int) c_M_valueAt_92 rfl rfl ?_
        show PW _ _ _ 15 [some (.ref 70), some (.int a1), some (.int 6)] [.int ((y.2.1 77) a1.toNatClampNeg)] (E x y)
        refine PW_goto c_M_of_15 ?_
        refine PW_ireturn (ty := .int) c_M_of_19 rfl rfl ?_
        exact h
    refine ⟨-1, x, y, ?_, fun {z post} h => ?_, fun {z post} h => ?_⟩
    · exact INV_step hI
    · refine PW.deeper (k := (3, 0, 0, z)) (Nat.le_of_ble_eq_true rfl) (Nat.le_refl _) (Nat.le_refl _) ?_
      refine PW_aload_n c_G_of_0 rfl ?_
      refine PW_get (v := .ref 6) c_G_of_1 fl_G_13 (gf_5_0 _ _) ?_
      refine PW_iload_n c_G_of_4 rfl ?_
      refine PW_iload_n c_G_of_5 rfl ?_
      refine PW_V0 (d2 := 1) (st := []) [.int a1, .int 6] c_G_of_6 lk_G_of_124 (po_6 _ _) rfl rfl rfl (Nat.le_of_ble_eq_true rfl) (by first | decide | omega) (Nat.le_of_ble_eq_true rfl) ?_
      show PW _ _ _ 0 [some (.ref 6), some (.int a1), some (.int 6)] [] (E x y)
      refine PW_iload_n c_H_hasFact_0 rfl ?_
      refine PW_bipush (v := 7) c_H_hasFact_1 (by decide) ?_
      refine PW_icmp_ne c_H_hasFact_3 (fun _ => ?_) (fun h0 => absurd h0 (by decide))
      refine PW_iload_n c_H_hasFact_25 rfl ?_
      refine PW_if_lt c_H_hasFact_26 (fun h1 => absurd h1 (by decide)) (fun _ => ?_)
      refine PW_iload_n c_H_hasFact_29 rfl ?_
      refine PW_aload_n c_H_hasFact_30 rfl ?_
      refine PW_get (v := .ref 7) c_H_hasFact_31 fl_H_13 (gf_6_0 _ _) ?_
      refine PW_alen (v := 7) c_H_hasFact_34 (ar_7 _ _) (t0 := 5) rfl (by decide) ?_
      refine PW_icmp_ge c_H_hasFact_35 (fun h2 => absurd h2 (by decide)) (fun _ => ?_)
      refine PW_aload_n c_H_hasFact_38 rfl ?_
      refine PW_iload_n c_H_hasFact_39 rfl ?_
      refine PW_V0 (d2 := 0) (st := []) [.int a1] c_H_hasFact_40 lk_H_hasFact_37 (po_6 _ _) rfl rfl rfl (Nat.le_of_ble_eq_true rfl) (by first | decide | omega) (Nat.le_of_ble_eq_true rfl) ?_
      refine sp_H_isGuest hg.W hg.x51 ?_
      show PW _ _ _ 43 [some (.ref 6), some (.int a1), some (.int 6)] [.int (b2i (0 ≤ a1.toInt ∧ a1.toInt < (nG y : Int)))] (E x y)
      refine PW_if_eq c_H_hasFact_43 (fun _ => ?_) (fun h3 => absurd (b2i_n0.mp h3) hc0)
      refine PW_iconst (v := 0) c_H_hasFact_50 (by decide) ?_
      refine PW_ireturn (ty := .boolean) c_H_hasFact_51 rfl (by decide +kernel) ?_
      show PW _ _ _ 9 [some (.ref 5), some (.int a1), some (.int 6)] [.int 0] (E x y)
      refine PW_if_eq c_G_of_9 (fun _ => ?_) (fun h4 => absurd (by decide) h4)
      refine PW_iconst (v := -1) c_G_of_24 (by decide) ?_
      refine PW_ireturn (ty := .int) c_G_of_25 rfl rfl ?_
      exact h
    · refine PW.deeper (k := (3, 0, 0, z)) (Nat.le_of_ble_eq_true rfl) (Nat.le_refl _) (Nat.le_refl _) ?_
      refine PW_aload_n c_M_of_0 rfl ?_
      refine PW_iload_n c_M_of_1 rfl ?_
      refine PW_iload_n c_M_of_2 rfl ?_
      refine PW_V0 (d2 := 2) (st := []) [.int a1, .int 6] c_M_of_3 lk_M_of_165 (po_70 _ _) rfl rfl rfl (Nat.le_of_ble_eq_true rfl) (by first | decide | omega) (Nat.le_of_ble_eq_true rfl) ?_
      show PW _ _ _ 0 [some (.ref 70), some (.int a1), some (.int 6)] [] (E x y)
      refine PW_iload_n c_M_isThing_0 rfl ?_
      refine PW_bipush (v := 7) c_M_isThing_1 (by decide) ?_
      refine PW_icmp_ne c_M_isThing_3 (fun _ => ?_) (fun h0 => absurd h0 (by decide))
      refine PW_iload_n c_M_isThing_15 rfl ?_
      refine PW_iconst (v := 0) c_M_isThing_16 (by decide) ?_
      refine PW_bipush (v := 6) c_M_isThing_17 (by decide) ?_
      refine PW_S0 (d2 := 0) (st := []) [.int 6, .int 0, .int 6] c_M_isThing_19 lk_M_isThing_131 rfl rfl rfl (Nat.le_of_ble_eq_true rfl) (by first | decide | omega) (Nat.le_of_ble_eq_true rfl) ?_
      refine sp_M_within  ?_
      show PW _ _ _ 22 [some (.ref 70), some (.int a1), some (.int 6)] [.int (b2i ((0 : Int32) ≤ (6 : Int32) ∧ (6 : Int32) ≤ (6 : Int32)))] (E x y)
      refine PW_if_eq c_M_isThing_22 (fun h1 => absurd (by decide) (b2i_0.mp h1)) (fun _ => ?_)
      refine PW_aload_n c_M_isThing_25 rfl ?_
      refine PW_iload_n c_M_isThing_26 rfl ?_
      refine PW_V0 (d2 := 1) (st := []) [.int a1] c_M_isThing_27 lk_M_isThing_162 (po_70 _ _) rfl rfl rfl (Nat.le_of_ble_eq_true rfl) (by first | decide | omega) (Nat.le_of_ble_eq_true rfl) ?_
      refine sp_M_isGuest2 hg.W ?_
      show PW _ _ _ 30 [some (.ref 70), some (.int a1), some (.int 6)] [.int (b2i (0 ≤ a1.toInt ∧ a1.toInt < (nG y : Int)))] (E x y)
      refine PW_if_eq c_M_isThing_30 (fun _ => ?_) (fun h2 => absurd (b2i_n0.mp h2) hc0)
      refine PW_iconst (v := 0) c_M_isThing_37 (by decide) ?_
      refine PW_ireturn (ty := .boolean) c_M_isThing_38 rfl (by decide +kernel) ?_
      show PW _ _ _ 6 [some (.ref 70), some (.int a1), some (.int 6)] [.int 0] (E x y)
      refine PW_if_eq c_M_of_6 (fun _ => ?_) (fun h3 => absurd (by decide) h3)
      refine PW_iconst (v := -1) c_M_of_18 (by decide) ?_
      refine PW_ireturn (ty := .int) c_M_of_19 rfl rfl ?_
      exact h
  by_cases hw7 : a2 = 7
  · subst hw7
    by_cases hc0 : 0 ≤ a1 ∧ a1 ≤ 3
    · refine ⟨y.2.1 78 a1.toNatClampNeg, x, y, ?_, fun {z post} h => ?_, fun {z post} h => ?_⟩
      · exact INV_step hI
      · refine PW.deeper (k := (3, 0, 0, z)) (Nat.le_of_ble_eq_true rfl) (Nat.le_refl _) (Nat.le_refl _) ?_
        refine PW_aload_n c_G_of_0 rfl ?_
        refine PW_get (v := .ref 6) c_G_of_1 fl_G_13 (gf_5_0 _ _) ?_
        refine PW_iload_n c_G_of_4 rfl ?_
        refine PW_iload_n c_G_of_5 rfl ?_
        refine PW_V0 (d2 := 1) (st := []) [.int a1, .int 7] c_G_of_6 lk_G_of_124 (po_6 _ _) rfl rfl rfl (Nat.le_of_ble_eq_true rfl) (by first | decide | omega) (Nat.le_of_ble_eq_true rfl) ?_
        show PW _ _ _ 0 [some (.ref 6), some (.int a1), some (.int 7)] [] (E x y)
        refine PW_iload_n c_H_hasFact_0 rfl ?_
        refine PW_bipush (v := 7) c_H_hasFact_1 (by decide) ?_
        refine PW_icmp_ne c_H_hasFact_3 (fun h0 => absurd (by decide) h0) (fun _ => ?_)
        refine PW_iload_n c_H_hasFact_6 rfl ?_
        refine PW_if_lt c_H_hasFact_7 (fun h1 => absurd h1 (Int32.not_lt.mpr hc0.1)) (fun h1 => ?_)
        refine PW_iload_n c_H_hasFact_10 rfl ?_
        refine PW_aload_n c_H_hasFact_11 rfl ?_
        refine PW_get (v := .ref 15) c_H_hasFact_12 fl_H_16 (gf_6_1 _ _) ?_
        refine PW_alen (v := 4) c_H_hasFact_15 (ar_15 _ _) (t0 := 0) rfl (by decide) ?_
        refine PW_icmp_ge c_H_hasFact_16 (fun h2 => absurd h2 (by simp only [Int32.le_iff_toInt_le, tiA] at hc0 ⊢; omega)) (fun h2 => ?_)
        refine PW_iconst (v := 1) c_H_hasFact_19 (by decide) ?_
        refine PW_goto c_H_hasFact_20 ?_
        refine PW_ireturn (ty := .boolean) c_H_hasFact_24 rfl (by decide +kernel) ?_
        show PW _ _ _ 9 [some (.ref 5), some (.int a1), some (.int 7)] [.int 1] (E x y)
        refine PW_if_eq c_G_of_9 (fun h3 => absurd h3 (by decide)) (fun _ => ?_)
        refine PW_aload_n c_G_of_12 rfl ?_
        refine PW_get (v := .ref 6) c_G_of_13 fl_G_13 (gf_5_0 _ _) ?_
        refine PW_iload_n c_G_of_16 rfl ?_
        refine PW_iload_n c_G_of_17 rfl ?_
        refine PW_V0 (d2 := 2) (st := []) [.int a1, .int 7] c_G_of_18 lk_G_of_127 (po_6 _ _) rfl rfl rfl (Nat.le_of_ble_eq_true rfl) (by first | decide | omega) (Nat.le_of_ble_eq_true rfl) ?_
        show PW _ _ _ 0 [some (.ref 6), some (.int a1), some (.int 7)] [] (E x y)
        refine PW_aload_n c_H_fact_0 rfl ?_
        refine PW_iload_n c_H_fact_1 rfl ?_
        refine PW_iload_n c_H_fact_2 rfl ?_
        refine PW_V0 (d2 := 1) (st := []) [.int a1, .int 7] c_H_fact_3 lk_H_fact_41 (po_6 _ _) rfl rfl rfl (Nat.le_of_ble_eq_true rfl) (by first | decide | omega) (Nat.le_of_ble_eq_true rfl) ?_
        show PW _ _ _ 0 [some (.ref 6), some (.int a1), some (.int 7)] [] (E x y)
        refine PW_iload_n c_H_hasFact_0 rfl ?_
        refine PW_bipush (v := 7) c_H_hasFact_1 (by decide) ?_
        refine PW_icmp_ne c_H_hasFact_3 (fun h4 => absurd (by decide) h4) (fun _ => ?_)
        refine PW_iload_n c_H_hasFact_6 rfl ?_
        refine PW_if_lt c_H_hasFact_7 (fun h5 => absurd h5 (Int32.not_lt.mpr hc0.1)) (fun h5 => ?_)
        refine PW_iload_n c_H_hasFact_10 rfl ?_
        refine PW_aload_n c_H_hasFact_11 rfl ?_
        refine PW_get (v := .ref 15) c_H_hasFact_12 fl_H_16 (gf_6_1 _ _) ?_
        refine PW_alen (v := 4) c_H_hasFact_15 (ar_15 _ _) (t0 := 0) rfl (by decide) ?_
        refine PW_icmp_ge c_H_hasFact_16 (fun h6 => absurd h6 (by simp only [Int32.le_iff_toInt_le, tiA] at hc0 ⊢; omega)) (fun h6 => ?_)
        refine PW_iconst (v := 1) c_H_hasFact_19 (by decide) ?_
        refine PW_goto c_H_hasFact_20 ?_
        refine PW_ireturn (ty := .boolean) c_H_hasFact_24 rfl (by decide +kernel) ?_
        show PW _ _ _ 6 [some (.ref 6), some (.int a1), some (.int 7)] [.int 1] (E x y)
        refine PW_if_ne c_H_fact_6 (fun _ => ?_) (fun h7 => absurd h7 (by decide))
        refine PW_iload_n c_H_fact_11 rfl ?_
        refine PW_bipush (v := 7) c_H_fact_12 (by decide) ?_
        refine PW_icmp_ne c_H_fact_14 (fun h8 => absurd (by decide) h8) (fun _ => ?_)
        refine PW_aload_n c_H_fact_17 rfl ?_
        refine PW_get (v := .ref 15) c_H_fact_18 fl_H_16 (gf_6_1 _ _) ?_
        refine PW_iload_n c_H_fact_21 rfl ?_
        refine PW_iald (j := a1.toNatClampNeg) c_H_fact_22 (ar_15 _ _) (vp_in_iff.mpr (by simp only [Int32.le_iff_toInt_le, tiA] at hc0; omega)) rfl ?_
        show PW _ _ _ 23 [some (.ref 6), some (.int a1), some (.int 7)] [.int ((x.2.1 15) a1.toNatClampNeg)] (E x y)
        refine PW_goto c_H_fact_23 ?_
        refine PW_ireturn (ty := .int) c_H_fact_34 rfl rfl ?_
        show PW _ _ _ 21 [some (.ref 5), some (.int a1), some (.int 7)] [.int ((x.2.1 15) a1.toNatClampNeg)] (E x y)
        refine PW_goto c_G_of_21 ?_
        refine PW_ireturn (ty := .int) c_G_of_25 rfl rfl ?_
        exact pqi h (hg.2.2.2.1 _ (by show a1.toInt.toNat < 4; simp only [Int32.le_iff_toInt_le, tiA] at hc0; omega)).1.symm
      · refine PW.deeper (k := (3, 0, 0, z)) (Nat.le_of_ble_eq_true rfl) (Nat.le_refl _) (Nat.le_refl _) ?_
        refine PW_aload_n c_M_of_0 rfl ?_
        refine PW_iload_n c_M_of_1 rfl ?_
        refine PW_iload_n c_M_of_2 rfl ?_
        refine PW_V0 (d2 := 2) (st := []) [.int a1, .int 7] c_M_of_3 lk_M_of_165 (po_70 _ _) rfl rfl rfl (Nat.le_of_ble_eq_true rfl) (by first | decide | omega) (Nat.le_of_ble_eq_true rfl) ?_
        show PW _ _ _ 0 [some (.ref 70), some (.int a1), some (.int 7)] [] (E x y)
        refine PW_iload_n c_M_isThing_0 rfl ?_
        refine PW_bipush (v := 7) c_M_isThing_1 (by decide) ?_
        refine PW_icmp_ne c_M_isThing_3 (fun h0 => absurd (by decide) h0) (fun _ => ?_)
        refine PW_iload_n c_M_isThing_6 rfl ?_
        refine PW_iconst (v := 0) c_M_isThing_7 (by decide) ?_
        refine PW_iconst (v := 3) c_M_isThing_8 (by decide) ?_
        refine PW_S0 (d2 := 0) (st := []) [.int a1, .int 0, .int 3] c_M_isThing_9 lk_M_isThing_131 rfl rfl rfl (Nat.le_of_ble_eq_true rfl) (by first | decide | omega) (Nat.le_of_ble_eq_true rfl) ?_
        refine sp_M_within  ?_
        show PW _ _ _ 12 [some (.ref 70), some (.int a1), some (.int 7)] [.int (b2i ((0 : Int32) ≤ a1 ∧ a1 ≤ (3 : Int32)))] (E x y)
        refine PW_goto c_M_isThing_12 ?_
        refine PW_ireturn (ty := .boolean) c_M_isThing_38 rfl (nb_b2i _) ?_
        show PW _ _ _ 6 [some (.ref 70), some (.int a1), some (.int 7)] [.int (b2i ((0 : Int32) ≤ a1 ∧ a1 ≤ (3 : Int32)))] (E x y)
        refine PW_if_eq c_M_of_6 (fun h1 => absurd hc0 (b2i_0.mp h1)) (fun _ => ?_)
        refine PW_aload_n c_M_of_9 rfl ?_
        refine PW_iload_n c_M_of_10 rfl ?_
        refine PW_iload_n c_M_of_11 rfl ?_
        refine PW_V0 (d2 := 0) (st := []) [.int 7, .int a1] c_M_of_12 lk_M_of_148 (po_70 _ _) rfl rfl rfl (Nat.le_of_ble_eq_true rfl) (by first | decide | omega) (Nat.le_of_ble_eq_true rfl) ?_
        show PW _ _ _ 0 [some (.ref 70), some (.int 7), some (.int a1)] [] (E x y)
        refine PW_iload_n c_M_valueAt_0 rfl ?_
        refine PW_tableOut (tgt := 93) c_M_valueAt_1 (by decide) rfl ?_
        refine PW_aload_n c_M_valueAt_93 rfl ?_
        refine PW_get (v := .ref 78) c_M_valueAt_94 fl_M_31 (gf_70_9 _ _) ?_
        refine PW_iload_n c_M_valueAt_97 rfl ?_
        refine PW_iald (j := a1.toNatClampNeg) c_M_valueAt_98 (ar_78 _ _) (vp_in_iff.mpr (by simp only [Int32.le_iff_toInt_le, tiA] at hc0; omega)) rfl ?_
        show PW _ _ _ 99 [some (.ref 70), some (.int 7), some (.int a1)] [.int ((y.2.1 78) a1.toNatClampNeg)] (E x y)
        refine PW_ireturn (ty := .int) c_M_valueAt_99 rfl rfl ?_
        show PW _ _ _ 15 [some (.ref 70), some (.int a1), some (.int 7)] [.int ((y.2.1 78) a1.toNatClampNeg)] (E x y)
        refine PW_goto c_M_of_15 ?_
        refine PW_ireturn (ty := .int) c_M_of_19 rfl rfl ?_
        exact h
    refine ⟨-1, x, y, ?_, fun {z post} h => ?_, fun {z post} h => ?_⟩
    · exact INV_step hI
    · refine PW.deeper (k := (3, 0, 0, z)) (Nat.le_of_ble_eq_true rfl) (Nat.le_refl _) (Nat.le_refl _) ?_
      refine PW_aload_n c_G_of_0 rfl ?_
      refine PW_get (v := .ref 6) c_G_of_1 fl_G_13 (gf_5_0 _ _) ?_
      refine PW_iload_n c_G_of_4 rfl ?_
      refine PW_iload_n c_G_of_5 rfl ?_
      refine PW_V0 (d2 := 1) (st := []) [.int a1, .int 7] c_G_of_6 lk_G_of_124 (po_6 _ _) rfl rfl rfl (Nat.le_of_ble_eq_true rfl) (by first | decide | omega) (Nat.le_of_ble_eq_true rfl) ?_
      show PW _ _ _ 0 [some (.ref 6), some (.int a1), some (.int 7)] [] (E x y)
      refine PW_iload_n c_H_hasFact_0 rfl ?_
      refine PW_bipush (v := 7) c_H_hasFact_1 (by decide) ?_
      refine PW_icmp_ne c_H_hasFact_3 (fun h0 => absurd (by decide) h0) (fun _ => ?_)
      refine PW_iload_n c_H_hasFact_6 rfl ?_
      refine PW_if_lt c_H_hasFact_7 (fun h1 => ?_) (fun h1 => ?_)
      · refine PW_iconst (v := 0) c_H_hasFact_23 (by decide) ?_
        refine PW_ireturn (ty := .boolean) c_H_hasFact_24 rfl (by decide +kernel) ?_
        show PW _ _ _ 9 [some (.ref 5), some (.int a1), some (.int 7)] [.int 0] (E x y)
        refine PW_if_eq c_G_of_9 (fun _ => ?_) (fun h2 => absurd (by decide) h2)
        refine PW_iconst (v := -1) c_G_of_24 (by decide) ?_
        refine PW_ireturn (ty := .int) c_G_of_25 rfl rfl ?_
        exact h
      · refine PW_iload_n c_H_hasFact_10 rfl ?_
        refine PW_aload_n c_H_hasFact_11 rfl ?_
        refine PW_get (v := .ref 15) c_H_hasFact_12 fl_H_16 (gf_6_1 _ _) ?_
        refine PW_alen (v := 4) c_H_hasFact_15 (ar_15 _ _) (t0 := 0) rfl (by decide) ?_
        refine PW_icmp_ge c_H_hasFact_16 (fun h3 => ?_) (fun h3 => ?_)
        · refine PW_iconst (v := 0) c_H_hasFact_23 (by decide) ?_
          refine PW_ireturn (ty := .boolean) c_H_hasFact_24 rfl (by decide +kernel) ?_
          show PW _ _ _ 9 [some (.ref 5), some (.int a1), some (.int 7)] [.int 0] (E x y)
          refine PW_if_eq c_G_of_9 (fun _ => ?_) (fun h4 => absurd (by decide) h4)
          refine PW_iconst (v := -1) c_G_of_24 (by decide) ?_
          refine PW_ireturn (ty := .int) c_G_of_25 rfl rfl ?_
          exact h
        · refine PW_iconst (v := 1) c_H_hasFact_19 (by decide) ?_
          refine PW_goto c_H_hasFact_20 ?_
          refine PW_ireturn (ty := .boolean) c_H_hasFact_24 rfl (by decide +kernel) ?_
          show PW _ _ _ 9 [some (.ref 5), some (.int a1), some (.int 7)] [.int 1] (E x y)
          refine PW_if_eq c_G_of_9 (fun h5 => absurd h5 (by decide)) (fun _ => ?_)
          refine PW_aload_n c_G_of_12 rfl ?_
          refine PW_get (v := .ref 6) c_G_of_13 fl_G_13 (gf_5_0 _ _) ?_
          refine PW_iload_n c_G_of_16 rfl ?_
          refine PW_iload_n c_G_of_17 rfl ?_
          refine PW_V0 (d2 := 2) (st := []) [.int a1, .int 7] c_G_of_18 lk_G_of_127 (po_6 _ _) rfl rfl rfl (Nat.le_of_ble_eq_true rfl) (by first | decide | omega) (Nat.le_of_ble_eq_true rfl) ?_
          show PW _ _ _ 0 [some (.ref 6), some (.int a1), some (.int 7)] [] (E x y)
          refine PW_aload_n c_H_fact_0 rfl ?_
          refine PW_iload_n c_H_fact_1 rfl ?_
          refine PW_iload_n c_H_fact_2 rfl ?_
          refine PW_V0 (d2 := 1) (st := []) [.int a1, .int 7] c_H_fact_3 lk_H_fact_41 (po_6 _ _) rfl rfl rfl (Nat.le_of_ble_eq_true rfl) (by first | decide | omega) (Nat.le_of_ble_eq_true rfl) ?_
          show PW _ _ _ 0 [some (.ref 6), some (.int a1), some (.int 7)] [] (E x y)
          refine PW_iload_n c_H_hasFact_0 rfl ?_
          refine PW_bipush (v := 7) c_H_hasFact_1 (by decide) ?_
          refine PW_icmp_ne c_H_hasFact_3 (fun h6 => absurd (by decide) h6) (fun _ => ?_)
          refine PW_iload_n c_H_hasFact_6 rfl ?_
          refine PW_if_lt c_H_hasFact_7 (fun h7 => ?_) (fun h7 => ?_)
          · refine PW_iconst (v := 0) c_H_hasFact_23 (by decide) ?_
            refine PW_ireturn (ty := .boolean) c_H_hasFact_24 rfl (by decide +kernel) ?_
            show PW _ _ _ 6 [some (.ref 6), some (.int a1), some (.int 7)] [.int 0] (E x y)
            refine PW_if_ne c_H_fact_6 (fun h8 => absurd (by decide) h8) (fun _ => ?_)
            refine PW_iconst (v := -1) c_H_fact_9 (by decide) ?_
            refine PW_ireturn (ty := .int) c_H_fact_10 rfl rfl ?_
            show PW _ _ _ 21 [some (.ref 5), some (.int a1), some (.int 7)] [.int (-1)] (E x y)
            refine PW_goto c_G_of_21 ?_
            refine PW_ireturn (ty := .int) c_G_of_25 rfl rfl ?_
            exact h
          · refine PW_iload_n c_H_hasFact_10 rfl ?_
            refine PW_aload_n c_H_hasFact_11 rfl ?_
            refine PW_get (v := .ref 15) c_H_hasFact_12 fl_H_16 (gf_6_1 _ _) ?_
            refine PW_alen (v := 4) c_H_hasFact_15 (ar_15 _ _) (t0 := 0) rfl (by decide) ?_
            refine PW_icmp_ge c_H_hasFact_16 (fun h9 => ?_) (fun h9 => ?_)
            · refine PW_iconst (v := 0) c_H_hasFact_23 (by decide) ?_
              refine PW_ireturn (ty := .boolean) c_H_hasFact_24 rfl (by decide +kernel) ?_
              show PW _ _ _ 6 [some (.ref 6), some (.int a1), some (.int 7)] [.int 0] (E x y)
              refine PW_if_ne c_H_fact_6 (fun h10 => absurd (by decide) h10) (fun _ => ?_)
              refine PW_iconst (v := -1) c_H_fact_9 (by decide) ?_
              refine PW_ireturn (ty := .int) c_H_fact_10 rfl rfl ?_
              show PW _ _ _ 21 [some (.ref 5), some (.int a1), some (.int 7)] [.int (-1)] (E x y)
              refine PW_goto c_G_of_21 ?_
              refine PW_ireturn (ty := .int) c_G_of_25 rfl rfl ?_
              exact h
            · refine PW_iconst (v := 1) c_H_hasFact_19 (by decide) ?_
              refine PW_goto c_H_hasFact_20 ?_
              refine PW_ireturn (ty := .boolean) c_H_hasFact_24 rfl (by decide +kernel) ?_
              show PW _ _ _ 6 [some (.ref 6), some (.int a1), some (.int 7)] [.int 1] (E x y)
              refine PW_if_ne c_H_fact_6 (fun _ => ?_) (fun h11 => absurd h11 (by decide))
              refine PW_iload_n c_H_fact_11 rfl ?_
              refine PW_bipush (v := 7) c_H_fact_12 (by decide) ?_
              refine PW_icmp_ne c_H_fact_14 (fun h12 => absurd (by decide) h12) (fun _ => ?_)
              refine PW_aload_n c_H_fact_17 rfl ?_
              refine PW_get (v := .ref 15) c_H_fact_18 fl_H_16 (gf_6_1 _ _) ?_
              exfalso; simp only [Int32.lt_iff_toInt_lt, Int32.le_iff_toInt_le, Int32.not_lt, Int32.not_le, ← Int32.toInt_inj, tiA] at *; omega
    · refine PW.deeper (k := (3, 0, 0, z)) (Nat.le_of_ble_eq_true rfl) (Nat.le_refl _) (Nat.le_refl _) ?_
      refine PW_aload_n c_M_of_0 rfl ?_
      refine PW_iload_n c_M_of_1 rfl ?_
      refine PW_iload_n c_M_of_2 rfl ?_
      refine PW_V0 (d2 := 2) (st := []) [.int a1, .int 7] c_M_of_3 lk_M_of_165 (po_70 _ _) rfl rfl rfl (Nat.le_of_ble_eq_true rfl) (by first | decide | omega) (Nat.le_of_ble_eq_true rfl) ?_
      show PW _ _ _ 0 [some (.ref 70), some (.int a1), some (.int 7)] [] (E x y)
      refine PW_iload_n c_M_isThing_0 rfl ?_
      refine PW_bipush (v := 7) c_M_isThing_1 (by decide) ?_
      refine PW_icmp_ne c_M_isThing_3 (fun h0 => absurd (by decide) h0) (fun _ => ?_)
      refine PW_iload_n c_M_isThing_6 rfl ?_
      refine PW_iconst (v := 0) c_M_isThing_7 (by decide) ?_
      refine PW_iconst (v := 3) c_M_isThing_8 (by decide) ?_
      refine PW_S0 (d2 := 0) (st := []) [.int a1, .int 0, .int 3] c_M_isThing_9 lk_M_isThing_131 rfl rfl rfl (Nat.le_of_ble_eq_true rfl) (by first | decide | omega) (Nat.le_of_ble_eq_true rfl) ?_
      refine sp_M_within  ?_
      show PW _ _ _ 12 [some (.ref 70), some (.int a1), some (.int 7)] [.int (b2i ((0 : Int32) ≤ a1 ∧ a1 ≤ (3 : Int32)))] (E x y)
      refine PW_goto c_M_isThing_12 ?_
      refine PW_ireturn (ty := .boolean) c_M_isThing_38 rfl (nb_b2i _) ?_
      show PW _ _ _ 6 [some (.ref 70), some (.int a1), some (.int 7)] [.int (b2i ((0 : Int32) ≤ a1 ∧ a1 ≤ (3 : Int32)))] (E x y)
      refine PW_if_eq c_M_of_6 (fun _ => ?_) (fun h1 => absurd (b2i_n0.mp h1) hc0)
      refine PW_iconst (v := -1) c_M_of_18 (by decide) ?_
      refine PW_ireturn (ty := .int) c_M_of_19 rfl rfl ?_
      exact h
  refine ⟨-1, x, y, ?_, fun {z post} h => ?_, fun {z post} h => ?_⟩
  · exact INV_step hI
  · refine PW.deeper (k := (3, 0, 0, z)) (Nat.le_of_ble_eq_true rfl) (Nat.le_refl _) (Nat.le_refl _) ?_
    refine PW_aload_n c_G_of_0 rfl ?_
    refine PW_get (v := .ref 6) c_G_of_1 fl_G_13 (gf_5_0 _ _) ?_
    refine PW_iload_n c_G_of_4 rfl ?_
    refine PW_iload_n c_G_of_5 rfl ?_
    refine PW_V0 (d2 := 1) (st := []) [.int a1, .int a2] c_G_of_6 lk_G_of_124 (po_6 _ _) rfl rfl rfl (Nat.le_of_ble_eq_true rfl) (by first | decide | omega) (Nat.le_of_ble_eq_true rfl) ?_
    show PW _ _ _ 0 [some (.ref 6), some (.int a1), some (.int a2)] [] (E x y)
    refine PW_iload_n c_H_hasFact_0 rfl ?_
    refine PW_bipush (v := 7) c_H_hasFact_1 (by decide) ?_
    refine PW_icmp_ne c_H_hasFact_3 (fun h0 => ?_) (fun h0 => absurd h0 hw7)
    refine PW_iload_n c_H_hasFact_25 rfl ?_
    refine PW_if_lt c_H_hasFact_26 (fun h1 => ?_) (fun h1 => ?_)
    · refine PW_iconst (v := 0) c_H_hasFact_50 (by decide) ?_
      refine PW_ireturn (ty := .boolean) c_H_hasFact_51 rfl (by decide +kernel) ?_
      show PW _ _ _ 9 [some (.ref 5), some (.int a1), some (.int a2)] [.int 0] (E x y)
      refine PW_if_eq c_G_of_9 (fun _ => ?_) (fun h2 => absurd (by decide) h2)
      refine PW_iconst (v := -1) c_G_of_24 (by decide) ?_
      refine PW_ireturn (ty := .int) c_G_of_25 rfl rfl ?_
      exact h
    · refine PW_iload_n c_H_hasFact_29 rfl ?_
      refine PW_aload_n c_H_hasFact_30 rfl ?_
      refine PW_get (v := .ref 7) c_H_hasFact_31 fl_H_13 (gf_6_0 _ _) ?_
      refine PW_alen (v := 7) c_H_hasFact_34 (ar_7 _ _) (t0 := 5) rfl (by decide) ?_
      refine PW_icmp_ge c_H_hasFact_35 (fun h3 => ?_) (fun h3 => ?_)
      · refine PW_iconst (v := 0) c_H_hasFact_50 (by decide) ?_
        refine PW_ireturn (ty := .boolean) c_H_hasFact_51 rfl (by decide +kernel) ?_
        show PW _ _ _ 9 [some (.ref 5), some (.int a1), some (.int a2)] [.int 0] (E x y)
        refine PW_if_eq c_G_of_9 (fun _ => ?_) (fun h4 => absurd (by decide) h4)
        refine PW_iconst (v := -1) c_G_of_24 (by decide) ?_
        refine PW_ireturn (ty := .int) c_G_of_25 rfl rfl ?_
        exact h
      · exfalso; simp only [Int32.lt_iff_toInt_lt, Int32.le_iff_toInt_le, Int32.not_lt, Int32.not_le, ← Int32.toInt_inj, tiA] at *; omega
  · refine PW.deeper (k := (3, 0, 0, z)) (Nat.le_of_ble_eq_true rfl) (Nat.le_refl _) (Nat.le_refl _) ?_
    refine PW_aload_n c_M_of_0 rfl ?_
    refine PW_iload_n c_M_of_1 rfl ?_
    refine PW_iload_n c_M_of_2 rfl ?_
    refine PW_V0 (d2 := 2) (st := []) [.int a1, .int a2] c_M_of_3 lk_M_of_165 (po_70 _ _) rfl rfl rfl (Nat.le_of_ble_eq_true rfl) (by first | decide | omega) (Nat.le_of_ble_eq_true rfl) ?_
    show PW _ _ _ 0 [some (.ref 70), some (.int a1), some (.int a2)] [] (E x y)
    refine PW_iload_n c_M_isThing_0 rfl ?_
    refine PW_bipush (v := 7) c_M_isThing_1 (by decide) ?_
    refine PW_icmp_ne c_M_isThing_3 (fun h0 => ?_) (fun h0 => absurd h0 hw7)
    refine PW_iload_n c_M_isThing_15 rfl ?_
    refine PW_iconst (v := 0) c_M_isThing_16 (by decide) ?_
    refine PW_bipush (v := 6) c_M_isThing_17 (by decide) ?_
    refine PW_S0 (d2 := 0) (st := []) [.int a2, .int 0, .int 6] c_M_isThing_19 lk_M_isThing_131 rfl rfl rfl (Nat.le_of_ble_eq_true rfl) (by first | decide | omega) (Nat.le_of_ble_eq_true rfl) ?_
    refine sp_M_within  ?_
    show PW _ _ _ 22 [some (.ref 70), some (.int a1), some (.int a2)] [.int (b2i ((0 : Int32) ≤ a2 ∧ a2 ≤ (6 : Int32)))] (E x y)
    refine PW_if_eq c_M_isThing_22 (fun _ => ?_) (fun h1 => absurd (b2i_n0.mp h1) (by rintro ⟨q1, q2⟩; simp only [Int32.le_iff_toInt_le, ← Int32.toInt_inj, tiA] at *; omega))
    refine PW_iconst (v := 0) c_M_isThing_37 (by decide) ?_
    refine PW_ireturn (ty := .boolean) c_M_isThing_38 rfl (by decide +kernel) ?_
    show PW _ _ _ 6 [some (.ref 70), some (.int a1), some (.int a2)] [.int 0] (E x y)
    refine PW_if_eq c_M_of_6 (fun _ => ?_) (fun h2 => absurd (by decide) h2)
    refine PW_iconst (v := -1) c_M_of_18 (by decide) ?_
    refine PW_ireturn (ty := .int) c_M_of_19 rfl rfl ?_
    exact h
set_option maxHeartbeats 4000000 in
theorem op_feed {t : Nat} {x y : XS} {a1 : Int32} (hI : INV t x y) (ht : t < 512) : ∃ (r : Int32) (x' y' : XS), INV (t + 1) x' y' ∧ (∀ {z : ZS} {post : Option Value → List PE → Prop}, post (some (.int r)) (E x' y) → PW (90, 0, 0, z) m_G_feed post 0 [some (.ref 5), some (.int a1)] [] (E x y)) ∧ (∀ {z : ZS} {post : Option Value → List PE → Prop}, post (some (.int r)) (E x' y') → PW (90, 0, 0, z) m_M_feed post 0 [some (.ref 70), some (.int a1)] [] (E x' y)) := by
  obtain ⟨hg, hc, ht0, hl, hd, hb, hs⟩ := id hI
  obtain ⟨tn, tn1, tn2, tn3, tn4⟩ := id ht0

  by_cases hc0 : ¬ (0 ≤ a1 ∧ a1 ≤ 255)
  · refine ⟨-1, x, y, ?_, fun {z post} h => ?_, fun {z post} h => ?_⟩
    · exact INV_step hI
    · refine PW.deeper (k := (1, 0, 0, z)) (Nat.le_of_ble_eq_true rfl) (Nat.le_refl _) (Nat.le_refl _) ?_
      refine PW_iload_n c_G_feed_0 rfl ?_
      refine PW_if_lt c_G_feed_1 (fun h0 => ?_) (fun h0 => ?_)
      · refine PW_iconst (v := -1) c_G_feed_11 (by decide) ?_
        refine PW_ireturn (ty := .int) c_G_feed_12 rfl rfl ?_
        exact h
      · refine PW_iload_n c_G_feed_4 rfl ?_
        refine PW_sipush (v := 255) c_G_feed_5 (by decide) ?_
        refine PW_icmp_le c_G_feed_8 (fun h1 => ?_) (fun h1 => ?_)
        · exact absurd ⟨Int32.not_lt.mp h0, h1⟩ hc0
        · refine PW_iconst (v := -1) c_G_feed_11 (by decide) ?_
          refine PW_ireturn (ty := .int) c_G_feed_12 rfl rfl ?_
          exact h
    · refine PW.deeper (k := (1, 0, 0, z)) (Nat.le_of_ble_eq_true rfl) (Nat.le_refl _) (Nat.le_refl _) ?_
      refine PW_iload_n c_M_feed_0 rfl ?_
      refine PW_iconst (v := 0) c_M_feed_1 (by decide) ?_
      refine PW_sipush (v := 255) c_M_feed_2 (by decide) ?_
      refine PW_S0 (d2 := 0) (st := []) [.int a1, .int 0, .int 255] c_M_feed_5 lk_M_feed_131 rfl rfl rfl (Nat.le_of_ble_eq_true rfl) (by first | decide | omega) (Nat.le_of_ble_eq_true rfl) ?_
      refine sp_M_within  ?_
      show PW _ _ _ 8 [some (.ref 70), some (.int a1)] [.int (b2i ((0 : Int32) ≤ a1 ∧ a1 ≤ (255 : Int32)))] (E x y)
      refine PW_if_ne c_M_feed_8 (fun h0 => absurd (b2i_n0.mp h0) hc0) (fun _ => ?_)
      refine PW_iconst (v := -1) c_M_feed_11 (by decide) ?_
      refine PW_ireturn (ty := .int) c_M_feed_12 rfl rfl ?_
      exact h
  by_cases hc1 : tn = 120
  · refine ⟨-3, x, y, ?_, fun {z post} h => ?_, fun {z post} h => ?_⟩
    · exact INV_step hI
    · refine PW.deeper (k := (1, 0, 0, z)) (Nat.le_of_ble_eq_true rfl) (Nat.le_refl _) (Nat.le_refl _) ?_
      refine PW_iload_n c_G_feed_0 rfl ?_
      refine PW_if_lt c_G_feed_1 (fun h0 => absurd h0 (Int32.not_lt.mpr (Decidable.not_not.mp hc0).1)) (fun h0 => ?_)
      refine PW_iload_n c_G_feed_4 rfl ?_
      refine PW_sipush (v := 255) c_G_feed_5 (by decide) ?_
      refine PW_icmp_le c_G_feed_8 (fun h1 => ?_) (fun h1 => absurd (Decidable.not_not.mp hc0).2 h1)
      refine PW_aload_n c_G_feed_13 rfl ?_
      refine PW_get (v := .ref 27) c_G_feed_14 fl_G_26 (gf_5_2 _ _) ?_
      refine PW_iload_n c_G_feed_17 rfl ?_
      refine PW_V0 (d2 := 0) (st := []) [.int a1] c_G_feed_18 lk_G_feed_148 (po_27 _ _) rfl rfl rfl (Nat.le_of_ble_eq_true rfl) (by first | decide | omega) (Nat.le_of_ble_eq_true rfl) ?_
      show PW _ _ _ 0 [some (.ref 27), some (.int a1)] [] (E x y)
      refine PW_aload_n c_T_add_0 rfl ?_
      refine PW_get (v := .int (x.1 219)) c_T_add_1 fl_T_21 (gf_27_3 _ _) ?_
      refine PW_if_lt c_T_add_4 (fun h2 => absurd h2 (by rw [tn2, hc1]; decide)) (fun h2 => ?_)
      refine PW_aload_n c_T_add_7 rfl ?_
      refine PW_get (v := .int (x.1 219)) c_T_add_8 fl_T_21 (gf_27_3 _ _) ?_
      refine PW_bipush (v := 120) c_T_add_11 (by decide) ?_
      refine PW_icmp_lt c_T_add_13 (fun h3 => absurd h3 (by rw [tn2, hc1]; decide)) (fun h3 => ?_)
      refine PW_iconst (v := 0) c_T_add_16 (by decide) ?_
      refine PW_ireturn (ty := .boolean) c_T_add_17 rfl (by decide +kernel) ?_
      show PW _ _ _ 21 [some (.ref 5), some (.int a1)] [.int 0] (E x y)
      refine PW_if_eq c_G_feed_21 (fun _ => ?_) (fun h4 => absurd (by decide) h4)
      refine PW_bipush (v := -3) c_G_feed_34 (by decide) ?_
      refine PW_ireturn (ty := .int) c_G_feed_36 rfl rfl ?_
      exact h
    · refine PW.deeper (k := (1, 0, 0, z)) (Nat.le_of_ble_eq_true rfl) (Nat.le_refl _) (Nat.le_refl _) ?_
      refine PW_iload_n c_M_feed_0 rfl ?_
      refine PW_iconst (v := 0) c_M_feed_1 (by decide) ?_
      refine PW_sipush (v := 255) c_M_feed_2 (by decide) ?_
      refine PW_S0 (d2 := 0) (st := []) [.int a1, .int 0, .int 255] c_M_feed_5 lk_M_feed_131 rfl rfl rfl (Nat.le_of_ble_eq_true rfl) (by first | decide | omega) (Nat.le_of_ble_eq_true rfl) ?_
      refine sp_M_within  ?_
      show PW _ _ _ 8 [some (.ref 70), some (.int a1)] [.int (b2i ((0 : Int32) ≤ a1 ∧ a1 ≤ (255 : Int32)))] (E x y)
      refine PW_if_ne c_M_feed_8 (fun _ => ?_) (fun h0 => absurd (Decidable.not_not.mp hc0) (b2i_0.mp h0))
      refine PW_aload_n c_M_feed_13 rfl ?_
      refine PW_get (v := .int (y.1 577)) c_M_feed_14 fl_M_182 (gf_70_17 _ _) ?_
      refine PW_bipush (v := 120) c_M_feed_17 (by decide) ?_
      refine PW_icmp_ne c_M_feed_19 (fun h1 => absurd h1 (not_not_intro (by rw [tn3, hc1]; rfl))) (fun h1 => ?_)
      refine PW_bipush (v := -3) c_M_feed_22 (by decide) ?_
      refine PW_ireturn (ty := .int) c_M_feed_24 rfl rfl ?_
      exact h
  refine ⟨nI (tn + 1), sI (sA x 28 (upd (x.2.1 28) tn a1)) 219 ((x.1 219) + 1), sI (sA y 83 (upd (y.2.1 83) tn (vp_nar .byte a1.toInt8.toInt32))) 577 ((y.1 577) + 1), ?_, fun {z post} h => ?_, fun {z post} h => ?_⟩
  · refine ⟨hg.cg (fun n q1 q2 => by first | rfl | (simp only [sI_1, sI_A, sI_G, sA_1, sA_A, sA_G, sG_1, sG_A, sG_G]; repeat rw [if_neg (by omega)])) (fun n q1 q2 => by first | rfl | (simp only [sI_1, sI_A, sI_G, sA_1, sA_A, sA_G, sG_1, sG_A, sG_G]; repeat rw [if_neg (by omega)])) (by first | rfl | (simp only [sI_1, sI_A, sI_G, sA_1, sA_A, sA_G, sG_1, sG_A, sG_G]; repeat rw [if_neg (by omega)])) (fun n q1 q2 => by first | rfl | (simp only [sI_1, sI_A, sI_G, sA_1, sA_A, sA_G, sG_1, sG_A, sG_G]; repeat rw [if_neg (by omega)])), hc.cg (fun n q1 q2 => by first | rfl | (simp only [sI_1, sI_A, sI_G, sA_1, sA_A, sA_G, sG_1, sG_A, sG_G]; repeat rw [if_neg (by omega)])) (fun n q1 q2 => by first | rfl | (simp only [sI_1, sI_A, sI_G, sA_1, sA_A, sA_G, sG_1, sG_A, sG_G]; repeat rw [if_neg (by omega)])) (fun n q1 q2 => by first | rfl | (simp only [sI_1, sI_A, sI_G, sA_1, sA_A, sA_G, sG_1, sG_A, sG_G]; repeat rw [if_neg (by omega)])) (fun n q1 q2 => by first | rfl | (simp only [sI_1, sI_A, sI_G, sA_1, sA_A, sA_G, sG_1, sG_A, sG_G]; repeat rw [if_neg (by omega)])) (Nat.le_of_eq (nG_cg (by first | rfl | (simp only [sI_1, sI_A, sI_G, sA_1, sA_A, sA_G, sG_1, sG_A, sG_G]; repeat rw [if_neg (by omega)]))).symm), ?_, hl.cg (by first | rfl | (simp only [sI_1, sI_A, sI_G, sA_1, sA_A, sA_G, sG_1, sG_A, sG_G]; repeat rw [if_neg (by omega)])) (fun n q1 q2 => by first | rfl | (simp only [sI_1, sI_A, sI_G, sA_1, sA_A, sA_G, sG_1, sG_A, sG_G]; repeat rw [if_neg (by omega)])) (by first | rfl | (simp only [sI_1, sI_A, sI_G, sA_1, sA_A, sA_G, sG_1, sG_A, sG_G]; repeat rw [if_neg (by omega)])) (fun n q1 q2 => by first | rfl | (simp only [sI_1, sI_A, sI_G, sA_1, sA_A, sA_G, sG_1, sG_A, sG_G]; repeat rw [if_neg (by omega)])), hd.cg (Nat.le_succ _) (fun n q1 q2 => by first | rfl | (simp only [sI_1, sI_A, sI_G, sA_1, sA_A, sA_G, sG_1, sG_A, sG_G]; repeat rw [if_neg (by omega)])) (by first | rfl | (simp only [sI_1, sI_A, sI_G, sA_1, sA_A, sA_G, sG_1, sG_A, sG_G]; repeat rw [if_neg (by omega)])) (by first | rfl | (simp only [sI_1, sI_A, sI_G, sA_1, sA_A, sA_G, sG_1, sG_A, sG_G]; repeat rw [if_neg (by omega)])) (fun n q1 q2 => by first | rfl | (simp only [sI_1, sI_A, sI_G, sA_1, sA_A, sA_G, sG_1, sG_A, sG_G]; repeat rw [if_neg (by omega)])), hb.cg (fun n q1 q2 => by first | rfl | (simp only [sI_1, sI_A, sI_G, sA_1, sA_A, sA_G, sG_1, sG_A, sG_G]; repeat rw [if_neg (by omega)])) (fun n q1 q2 => by first | rfl | (simp only [sI_1, sI_A, sI_G, sA_1, sA_A, sA_G, sG_1, sG_A, sG_G]; repeat rw [if_neg (by omega)])) (fun n q1 q2 => by first | rfl | (simp only [sI_1, sI_A, sI_G, sA_1, sA_A, sA_G, sG_1, sG_A, sG_G]; repeat rw [if_neg (by omega)])) (fun n q1 q2 => by first | rfl | (simp only [sI_1, sI_A, sI_G, sA_1, sA_A, sA_G, sG_1, sG_A, sG_G]; repeat rw [if_neg (by omega)])), hs.cg (fun n q1 q2 => by first | rfl | (simp only [sI_1, sI_A, sI_G, sA_1, sA_A, sA_G, sG_1, sG_A, sG_G]; repeat rw [if_neg (by omega)])) (fun n q1 q2 => by first | rfl | (simp only [sI_1, sI_A, sI_G, sA_1, sA_A, sA_G, sG_1, sG_A, sG_G]; repeat rw [if_neg (by omega)])) (by first | exact Int.le_refl _ | (simp only [sI_1, sI_A, sI_G, sA_1, sA_A, sA_G, sG_1, sG_A, sG_G]; repeat rw [if_neg (by omega)])) (fun n q1 q2 => by first | rfl | (simp only [sI_1, sI_A, sI_G, sA_1, sA_A, sA_G, sG_1, sG_A, sG_G]; repeat rw [if_neg (by omega)])) (by first | rfl | (simp only [sI_1, sI_A, sI_G, sA_1, sA_A, sA_G, sG_1, sG_A, sG_G]; repeat rw [if_neg (by omega)]))⟩
    · have q := Decidable.not_not.mp hc0
      simp only [Int32.le_iff_toInt_le, tiA] at q
      refine ⟨tn + 1, by omega, ?_, ?_, fun i hi => ?_⟩
      · show x.1 219 + 1 = _
        rw [tn2, nI_1]
      · show y.1 577 + 1 = _
        rw [tn3, nI_1]
      · show 0 ≤ (upd (x.2.1 28) tn a1 i).toInt ∧ (upd (x.2.1 28) tn a1 i).toInt ≤ 255 ∧ upd (y.2.1 83) tn (vp_nar .byte a1.toInt8.toInt32) i = vp_nar .byte (upd (x.2.1 28) tn a1 i)
        by_cases hib : i = tn
        · subst hib
          rw [upd_s, upd_s]
          exact ⟨q.1, q.2, by rw [pk_vb, vp_nar_byte]⟩
        · rw [upd_n hib, upd_n hib]
          exact tn4 i (by omega)
  · refine PW.deeper (k := (1, 0, 0, z)) (Nat.le_of_ble_eq_true rfl) (Nat.le_refl _) (Nat.le_refl _) ?_
    refine PW_iload_n c_G_feed_0 rfl ?_
    refine PW_if_lt c_G_feed_1 (fun h0 => absurd h0 (Int32.not_lt.mpr (Decidable.not_not.mp hc0).1)) (fun h0 => ?_)
    refine PW_iload_n c_G_feed_4 rfl ?_
    refine PW_sipush (v := 255) c_G_feed_5 (by decide) ?_
    refine PW_icmp_le c_G_feed_8 (fun h1 => ?_) (fun h1 => absurd (Decidable.not_not.mp hc0).2 h1)
    refine PW_aload_n c_G_feed_13 rfl ?_
    refine PW_get (v := .ref 27) c_G_feed_14 fl_G_26 (gf_5_2 _ _) ?_
    refine PW_iload_n c_G_feed_17 rfl ?_
    refine PW_V0 (d2 := 0) (st := []) [.int a1] c_G_feed_18 lk_G_feed_148 (po_27 _ _) rfl rfl rfl (Nat.le_of_ble_eq_true rfl) (by first | decide | omega) (Nat.le_of_ble_eq_true rfl) ?_
    show PW _ _ _ 0 [some (.ref 27), some (.int a1)] [] (E x y)
    refine PW_aload_n c_T_add_0 rfl ?_
    refine PW_get (v := .int (x.1 219)) c_T_add_1 fl_T_21 (gf_27_3 _ _) ?_
    refine PW_if_lt c_T_add_4 (fun h2 => absurd h2 (by rw [tn2]; exact nI_pos (by omega))) (fun h2 => ?_)
    refine PW_aload_n c_T_add_7 rfl ?_
    refine PW_get (v := .int (x.1 219)) c_T_add_8 fl_T_21 (gf_27_3 _ _) ?_
    refine PW_bipush (v := 120) c_T_add_11 (by decide) ?_
    refine PW_icmp_lt c_T_add_13 (fun h3 => ?_) (fun h3 => absurd (by rw [tn2, show (120 : Int32) = nI 120 from rfl, nI_ltI (by omega) (by omega)]; omega) h3)
    refine PW_aload_n c_T_add_18 rfl ?_
    refine PW_get (v := .ref 28) c_T_add_19 fl_T_9 (gf_27_0 _ _) ?_
    refine PW_aload_n c_T_add_22 rfl ?_
    refine PW_get (v := .int (x.1 219)) c_T_add_23 fl_T_21 (gf_27_3 _ _) ?_
    refine PW_iload_n c_T_add_26 rfl ?_
    refine PW_iast (j := tn) (w2 := E (sA x 28 (upd (x.2.1 28) tn a1)) y) c_T_add_27 (ar_28 _ _) (by rw [tn2]; exact vp_in_nI (by omega) (by decide)) (by rw [tn2]; exact nI_clamp (by omega)) (aw_28 _ _ _) ?_
    refine PW_aload_n c_T_add_28 rfl ?_
    refine PW_dup c_T_add_29 rfl ?_
    refine PW_get (v := .int (x.1 219)) c_T_add_30 fl_T_21 (gf_27_3 _ _) ?_
    refine PW_iconst (v := 1) c_T_add_33 (by decide) ?_
    refine PW_iadd c_T_add_34 ?_
    refine PW_put (w2 := E (sI (sA x 28 (upd (x.2.1 28) tn a1)) 219 ((x.1 219) + 1)) y) c_T_add_35 fp_T_add_21 rfl (pf_27_3 _ _ _) ?_
    refine PW_iconst (v := 1) c_T_add_38 (by decide) ?_
    refine PW_ireturn (ty := .boolean) c_T_add_39 rfl (by decide +kernel) ?_
    show PW _ _ _ 21 [some (.ref 5), some (.int a1)] [.int 1] (E (sI (sA x 28 (upd (x.2.1 28) tn a1)) 219 ((x.1 219) + 1)) y)
    refine PW_if_eq c_G_feed_21 (fun h4 => absurd h4 (by decide)) (fun _ => ?_)
    refine PW_aload_n c_G_feed_24 rfl ?_
    refine PW_get (v := .ref 27) c_G_feed_25 fl_G_26 (gf_5_2 _ _) ?_
    refine PW_V0 (d2 := 0) (st := []) [] c_G_feed_28 lk_G_feed_150 (po_27 _ _) rfl rfl rfl (Nat.le_of_ble_eq_true rfl) (by first | decide | omega) (Nat.le_of_ble_eq_true rfl) ?_
    show PW _ _ _ 0 [some (.ref 27)] [] (E (sI (sA x 28 (upd (x.2.1 28) tn a1)) 219 ((x.1 219) + 1)) y)
    refine PW_aload_n c_T_length_0 rfl ?_
    refine PW_get (v := .int ((x.1 219) + 1)) c_T_length_1 fl_T_21 (gf_27_3 _ _) ?_
    refine PW_ireturn (ty := .int) c_T_length_4 rfl rfl ?_
    show PW _ _ _ 31 [some (.ref 5), some (.int a1)] [.int ((x.1 219) + 1)] (E (sI (sA x 28 (upd (x.2.1 28) tn a1)) 219 ((x.1 219) + 1)) y)
    refine PW_goto c_G_feed_31 ?_
    refine PW_ireturn (ty := .int) c_G_feed_36 rfl rfl ?_
    exact pqi h (by rw [tn2, nI_1])
  · refine PW.deeper (k := (1, 0, 0, z)) (Nat.le_of_ble_eq_true rfl) (Nat.le_refl _) (Nat.le_refl _) ?_
    refine PW_iload_n c_M_feed_0 rfl ?_
    refine PW_iconst (v := 0) c_M_feed_1 (by decide) ?_
    refine PW_sipush (v := 255) c_M_feed_2 (by decide) ?_
    refine PW_S0 (d2 := 0) (st := []) [.int a1, .int 0, .int 255] c_M_feed_5 lk_M_feed_131 rfl rfl rfl (Nat.le_of_ble_eq_true rfl) (by first | decide | omega) (Nat.le_of_ble_eq_true rfl) ?_
    refine sp_M_within  ?_
    show PW _ _ _ 8 [some (.ref 70), some (.int a1)] [.int (b2i ((0 : Int32) ≤ a1 ∧ a1 ≤ (255 : Int32)))] (E (sI (sA x 28 (upd (x.2.1 28) tn a1)) 219 ((x.1 219) + 1)) y)
    refine PW_if_ne c_M_feed_8 (fun _ => ?_) (fun h0 => absurd (Decidable.not_not.mp hc0) (b2i_0.mp h0))
    refine PW_aload_n c_M_feed_13 rfl ?_
    refine PW_get (v := .int (y.1 577)) c_M_feed_14 fl_M_182 (gf_70_17 _ _) ?_
    refine PW_bipush (v := 120) c_M_feed_17 (by decide) ?_
    refine PW_icmp_ne c_M_feed_19 (fun h1 => ?_) (fun h1 => absurd h1 (by rw [tn3, show (120 : Int32) = nI 120 from rfl, nI_eq (by omega) (by omega)]; exact hc1))
    refine PW_aload_n c_M_feed_25 rfl ?_
    refine PW_get (v := .ref 83) c_M_feed_26 fl_M_46 (gf_70_16 _ _) ?_
    refine PW_aload_n c_M_feed_29 rfl ?_
    refine PW_get (v := .int (y.1 577)) c_M_feed_30 fl_M_182 (gf_70_17 _ _) ?_
    refine PW_iload_n c_M_feed_33 rfl ?_
    refine PW_i2b c_M_feed_34 ?_
    refine PW_bast (j := tn) (w2 := E (sI (sA x 28 (upd (x.2.1 28) tn a1)) 219 ((x.1 219) + 1)) (sA y 83 (upd (y.2.1 83) tn (vp_nar .byte a1.toInt8.toInt32)))) c_M_feed_35 (ar_83 _ _) (by rw [tn3]; exact vp_in_nI (by omega) (by decide)) (by rw [tn3]; exact nI_clamp (by omega)) (aw_83 _ _ _) ?_
    refine PW_aload_n c_M_feed_36 rfl ?_
    refine PW_dup c_M_feed_37 rfl ?_
    refine PW_get (v := .int (y.1 577)) c_M_feed_38 fl_M_182 (gf_70_17 _ _) ?_
    refine PW_iconst (v := 1) c_M_feed_41 (by decide) ?_
    refine PW_iadd c_M_feed_42 ?_
    refine PW_put (w2 := E (sI (sA x 28 (upd (x.2.1 28) tn a1)) 219 ((x.1 219) + 1)) (sI (sA y 83 (upd (y.2.1 83) tn (vp_nar .byte a1.toInt8.toInt32))) 577 ((y.1 577) + 1))) c_M_feed_43 fp_M_feed_182 rfl (pf_70_17 _ _ _) ?_
    refine PW_aload_n c_M_feed_46 rfl ?_
    refine PW_get (v := .int ((y.1 577) + 1)) c_M_feed_47 fl_M_182 (gf_70_17 _ _) ?_
    refine PW_ireturn (ty := .int) c_M_feed_50 rfl rfl ?_
    exact pqi h (by rw [tn3, nI_1])
