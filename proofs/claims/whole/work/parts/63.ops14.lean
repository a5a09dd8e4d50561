set_option maxHeartbeats 4000000 in
theorem op_act {t : Nat} {x y : XS} {a1 : Int32} {a2 : Int32} {a3 : Int32} (hI : INV t x y) (ht : t < 512) : ∃ (r : Int32) (x' y' : XS), INV (t + 1) x' y' ∧ (∀ {z : ZS} {post : Option Value → List PE → Prop}, post (some (.int r)) (E x' y) → PW (90, 0, 0, z) m_G_act post 0 [some (.ref 5), some (.int a1), some (.int a2), some (.int a3)] [] (E x y)) ∧ (∀ {z : ZS} {post : Option Value → List PE → Prop}, post (some (.int r)) (E x' y') → PW (90, 0, 0, z) m_M_act post 0 [some (.ref 70), some (.int a1), some (.int a2), some (.int a3)] [] (E x' y)) := by
  obtain ⟨hg, hc, ht0, hl, hd, hb, hs⟩ := id hI
  obtain ⟨hB, hbx, hbk⟩ := WB_of hb

  by_cases hc0 : ¬ (0 ≤ a1.toInt ∧ a1.toInt < (nB y : Int))
  · refine ⟨0, sI x 435 0, sI y 611 0, ?_, fun {z post} h => ?_, fun {z post} h => ?_⟩
    · rw [← tr_nil 56 435 x, ← tr_nil 103 611 y]
      exact INV_step (INV_tr hI _ (by decide))
    · refine PW.deeper (k := (17, 0, 0, z)) (Nat.le_of_ble_eq_true rfl) (Nat.le_refl _) (Nat.le_refl _) ?_
      refine PW_aload_n c_G_act_0 rfl ?_
      refine PW_get (v := .ref 54) c_G_act_1 fl_G_79 (gf_5_9 _ _) ?_
      refine PW_iload_n c_G_act_4 rfl ?_
      refine PW_iload_n c_G_act_5 rfl ?_
      refine PW_iload_n c_G_act_6 rfl ?_
      refine PW_V0 (d2 := 16) (st := []) [.int a1, .int a2, .int a3] c_G_act_7 lk_G_act_305 (po_54 _ _) rfl rfl rfl (Nat.le_of_ble_eq_true rfl) (by first | decide | omega) (Nat.le_of_ble_eq_true rfl) ?_
      show PW _ _ _ 0 [some (.ref 54), some (.int a1), some (.int a2), some (.int a3)] [] (E x y)
      refine PW_aload_n c_B_perform_0 rfl ?_
      refine PW_iconst (v := 0) c_B_perform_1 (by decide) ?_
      refine PW_put (w2 := E (sI x 435 0) y) c_B_perform_2 fp_B_perform_36 rfl (pf_54_3 _ _ _) ?_
      refine PW_aload_n c_B_perform_5 rfl ?_
      refine PW_iload_n c_B_perform_6 rfl ?_
      refine PW_V0 (d2 := 0) (st := []) [.int a1] c_B_perform_7 lk_B_perform_39 (po_54 _ _) rfl rfl rfl (Nat.le_of_ble_eq_true rfl) (by first | decide | omega) (Nat.le_of_ble_eq_true rfl) ?_
      refine sp_B_isBody hB hbx ?_
      show PW _ _ _ 10 [some (.ref 54), some (.int a1), some (.int a2), some (.int a3)] [.int (b2i (0 ≤ a1.toInt ∧ a1.toInt < (nB y : Int)))] (E (sI x 435 0) y)
      refine PW_if_eq c_B_perform_10 (fun _ => ?_) (fun h0 => absurd (b2i_n0.mp h0) hc0)
      refine PW_iconst (v := 0) c_B_perform_22 (by decide) ?_
      refine PW_ireturn (ty := .int) c_B_perform_23 rfl rfl ?_
      show PW _ _ _ 10 [some (.ref 5), some (.int a1), some (.int a2), some (.int a3)] [.int 0] (E (sI x 435 0) y)
      refine PW_ireturn (ty := .int) c_G_act_10 rfl rfl ?_
      exact h
    · refine PW.deeper (k := (9, 0, 0, z)) (Nat.le_of_ble_eq_true rfl) (Nat.le_refl _) (Nat.le_refl _) ?_
      refine PW_aload_n c_M_act_0 rfl ?_
      refine PW_iconst (v := 0) c_M_act_1 (by decide) ?_
      refine PW_put (w2 := E (sI x 435 0) (sI y 611 0)) c_M_act_2 fp_M_act_358 rfl (pf_70_51 _ _ _) ?_
      refine PW_aload_n c_M_act_5 rfl ?_
      refine PW_iload_n c_M_act_6 rfl ?_
      refine PW_V0 (d2 := 1) (st := []) [.int a1] c_M_act_7 lk_M_act_397 (po_70 _ _) rfl rfl rfl (Nat.le_of_ble_eq_true rfl) (by first | decide | omega) (Nat.le_of_ble_eq_true rfl) ?_
      refine sp_M_isBody2 hB ?_
      show PW _ _ _ 10 [some (.ref 70), some (.int a1), some (.int a2), some (.int a3)] [.int (b2i (0 ≤ a1.toInt ∧ a1.toInt < (nB (sI y 611 0) : Int)))] (E (sI x 435 0) (sI y 611 0))
      refine PW_if_eq c_M_act_10 (fun _ => ?_) (fun h0 => absurd (b2i_n0.mp h0) hc0)
      refine PW_iconst (v := 0) c_M_act_22 (by decide) ?_
      refine PW_ireturn (ty := .int) c_M_act_23 rfl rfl ?_
      exact h
  replace hc0 : 0 ≤ a1.toInt ∧ a1.toInt < (nB y : Int) := Decidable.not_not.mp hc0
  by_cases hw0 : a2 = 0
  · subst hw0
    have hbn : (y.1 609).toInt = nB y := by rw [hB.1, nI_toInt (by have := hB.2; omega)]
    obtain ⟨f1, f2, f3⟩ := hbk a1.toNatClampNeg (by show a1.toInt.toNat < nB y; omega)
    obtain ⟨u, u1, u2, u3, u4⟩ := nI_ex f2
    have hu8 : u < 8 := by omega
    have hB50 := hB.2
    have K : kb x a1 (nI u) := ⟨⟨hc0.1, by rw [hbx, hbn]; exact hc0.2⟩, by omega, by rw [f1]; exact u2⟩
    have K2 : km y a1 (nI u) := ⟨⟨hc0.1, by omega⟩, u2⟩
    rcases (show u = 0 ∨ u = 1 ∨ u = 2 ∨ u = 3 ∨ u = 4 ∨ u = 5 ∨ u = 6 ∨ u = 7 by omega) with rfl | rfl | rfl | rfl | rfl | rfl | rfl | rfl
    · refine ⟨a3 + a1, tr 56 435 x (1 :: []), tr 103 611 y (1 :: []), ?_, fun {z post} h => ?_, fun {z post} h => ?_⟩
      · exact INV_step (INV_tr hI _ (by decide))
      · refine PW.deeper (k := (17, 0, 0, z)) (Nat.le_of_ble_eq_true rfl) (Nat.le_refl _) (Nat.le_refl _) ?_
        refine PW_aload_n c_G_act_0 rfl ?_
        refine PW_get (v := .ref 54) c_G_act_1 fl_G_79 (gf_5_9 _ _) ?_
        refine PW_iload_n c_G_act_4 rfl ?_
        refine PW_iload_n c_G_act_5 rfl ?_
        refine PW_iload_n c_G_act_6 rfl ?_
        refine PW_V0 (d2 := 16) (st := []) [.int a1, .int 0, .int a3] c_G_act_7 lk_G_act_305 (po_54 _ _) rfl rfl rfl (Nat.le_of_ble_eq_true rfl) (by first | decide | omega) (Nat.le_of_ble_eq_true rfl) ?_
        show PW _ _ _ 0 [some (.ref 54), some (.int a1), some (.int 0), some (.int a3)] [] (E x y)
        refine PW_aload_n c_B_perform_0 rfl ?_
        refine PW_iconst (v := 0) c_B_perform_1 (by decide) ?_
        refine PW_put (w2 := E (sI x 435 0) y) c_B_perform_2 fp_B_perform_36 rfl (pf_54_3 _ _ _) ?_
        refine PW_aload_n c_B_perform_5 rfl ?_
        refine PW_iload_n c_B_perform_6 rfl ?_
        refine PW_V0 (d2 := 0) (st := []) [.int a1] c_B_perform_7 lk_B_perform_39 (po_54 _ _) rfl rfl rfl (Nat.le_of_ble_eq_true rfl) (by first | decide | omega) (Nat.le_of_ble_eq_true rfl) ?_
        refine sp_B_isBody hB hbx ?_
        show PW _ _ _ 10 [some (.ref 54), some (.int a1), some (.int 0), some (.int a3)] [.int (b2i (0 ≤ a1.toInt ∧ a1.toInt < (nB y : Int)))] (E (sI x 435 0) y)
        refine PW_if_eq c_B_perform_10 (fun h0 => absurd hc0 (b2i_0.mp h0)) (fun _ => ?_)
        refine PW_iload_n c_B_perform_13 rfl ?_
        refine PW_if_lt c_B_perform_14 (fun h1 => absurd h1 (by decide)) (fun _ => ?_)
        refine PW_iload_n c_B_perform_17 rfl ?_
        refine PW_iconst (v := 4) c_B_perform_18 (by decide) ?_
        refine PW_icmp_lt c_B_perform_19 (fun _ => ?_) (fun h2 => absurd (by decide) h2)
        rw [← tr_nil 56 435 x]
        show PW _ _ _ 24 [some (.ref 54), some (.int a1), some (.int 0), some (.int a3)] [] (E (tr 56 435 x []) y)
        refine PW_aload_n c_B_perform_24 rfl ?_
        refine PW_aload_n c_B_perform_25 rfl ?_
        refine PW_iload_n c_B_perform_26 rfl ?_
        refine PW_V0 (d2 := 1) (st := [.ref 54]) [.int a1] c_B_perform_27 lk_B_perform_42 (po_54 _ _) rfl rfl rfl (Nat.le_of_ble_eq_true rfl) (by first | decide | omega) (Nat.le_of_ble_eq_true rfl) ?_
        refine sp_kof (l := []) K ?_
        show PW _ _ _ 30 [some (.ref 54), some (.int a1), some (.int 0), some (.int a3)] [.int 0, .ref 54] (E (tr 56 435 x []) y)
        refine PW_iload_n c_B_perform_30 rfl ?_
        refine PW_iload_n c_B_perform_31 rfl ?_
        refine PW_iload_n c_B_perform_32 rfl ?_
        refine PW_iconst (v := 0) c_B_perform_33 (by decide) ?_
        refine PW_V0 (d2 := 15) (st := []) [.int 0, .int 0, .int a3, .int a1, .int 0] c_B_perform_34 lk_B_perform_45 (po_54 _ _) rfl rfl rfl (Nat.le_of_ble_eq_true rfl) (by first | decide | omega) (Nat.le_of_ble_eq_true rfl) ?_
        refine PW.deeper (k := (5, 0, 0, z)) (Nat.le_of_ble_eq_true rfl) (Nat.le_refl _) (Nat.le_refl _) ?_
        refine sp_call_0_0_0 (l := []) (d := 0) K rfl (by omega) (by decide) ?_
        show PW _ _ _ 37 [some (.ref 54), some (.int a1), some (.int 0), some (.int a3)] [.int (a3 + a1)] (E (tr 56 435 x (1 :: [])) y)
        refine PW_ireturn (ty := .int) c_B_perform_37 rfl rfl ?_
        show PW _ _ _ 10 [some (.ref 5), some (.int a1), some (.int 0), some (.int a3)] [.int (a3 + a1)] (E (tr 56 435 x (1 :: [])) y)
        refine PW_ireturn (ty := .int) c_G_act_10 rfl rfl ?_
        exact h
      · refine PW.deeper (k := (9, 0, 0, z)) (Nat.le_of_ble_eq_true rfl) (Nat.le_refl _) (Nat.le_refl _) ?_
        refine PW_aload_n c_M_act_0 rfl ?_
        refine PW_iconst (v := 0) c_M_act_1 (by decide) ?_
        refine PW_put (w2 := E (tr 56 435 x (1 :: [])) (sI y 611 0)) c_M_act_2 fp_M_act_358 rfl (pf_70_51 _ _ _) ?_
        refine PW_aload_n c_M_act_5 rfl ?_
        refine PW_iload_n c_M_act_6 rfl ?_
        refine PW_V0 (d2 := 1) (st := []) [.int a1] c_M_act_7 lk_M_act_397 (po_70 _ _) rfl rfl rfl (Nat.le_of_ble_eq_true rfl) (by first | decide | omega) (Nat.le_of_ble_eq_true rfl) ?_
        refine sp_M_isBody2 hB ?_
        show PW _ _ _ 10 [some (.ref 70), some (.int a1), some (.int 0), some (.int a3)] [.int (b2i (0 ≤ a1.toInt ∧ a1.toInt < (nB (sI y 611 0) : Int)))] (E (tr 56 435 x (1 :: [])) (sI y 611 0))
        refine PW_if_eq c_M_act_10 (fun h0 => absurd hc0 (b2i_0.mp h0)) (fun _ => ?_)
        refine PW_iload_n c_M_act_13 rfl ?_
        refine PW_iconst (v := 0) c_M_act_14 (by decide) ?_
        refine PW_iconst (v := 3) c_M_act_15 (by decide) ?_
        refine PW_S0 (d2 := 0) (st := []) [.int 0, .int 0, .int 3] c_M_act_16 lk_M_act_131 rfl rfl rfl (Nat.le_of_ble_eq_true rfl) (by first | decide | omega) (Nat.le_of_ble_eq_true rfl) ?_
        refine sp_M_within  ?_
        show PW _ _ _ 19 [some (.ref 70), some (.int a1), some (.int 0), some (.int a3)] [.int (b2i ((0 : Int32) ≤ (0 : Int32) ∧ (0 : Int32) ≤ (3 : Int32)))] (E (tr 56 435 x (1 :: [])) (sI y 611 0))
        refine PW_if_ne c_M_act_19 (fun _ => ?_) (fun h1 => absurd (by decide) (b2i_0.mp h1))
        rw [← tr_nil 103 611 y]
        show PW _ _ _ 24 [some (.ref 70), some (.int a1), some (.int 0), some (.int a3)] [] (E (tr 56 435 x (1 :: [])) (tr 103 611 y []))
        refine PW_iload_n c_M_act_24 rfl ?_
        refine PW_if_ne c_M_act_25 (fun h2 => absurd (by decide) h2) (fun _ => ?_)
        refine PW_aload_n c_M_act_28 rfl ?_
        refine PW_iload_n c_M_act_29 rfl ?_
        refine PW_iload_n c_M_act_30 rfl ?_
        refine PW_V0 (d2 := 3) (st := []) [.int a1, .int a3] c_M_act_31 lk_M_act_373 (po_70 _ _) rfl rfl rfl (Nat.le_of_ble_eq_true rfl) (by first | decide | omega) (Nat.le_of_ble_eq_true rfl) ?_
        refine sp_M_saying_0 (l := []) K2 (by decide) ?_
        show PW _ _ _ 34 [some (.ref 70), some (.int a1), some (.int 0), some (.int a3)] [.int (a3 + a1)] (E (tr 56 435 x (1 :: [])) (tr 103 611 y (1 :: [])))
        refine PW_goto c_M_act_34 ?_
        refine PW_ireturn (ty := .int) c_M_act_71 rfl rfl ?_
        exact h
    · refine ⟨(a3 + a1) + 3, tr 56 435 x (1 :: 20 :: []), tr 103 611 y (1 :: 20 :: []), ?_, fun {z post} h => ?_, fun {z post} h => ?_⟩
      · exact INV_step (INV_tr hI _ (by decide))
      · refine PW.deeper (k := (17, 0, 0, z)) (Nat.le_of_ble_eq_true rfl) (Nat.le_refl _) (Nat.le_refl _) ?_
        refine PW_aload_n c_G_act_0 rfl ?_
        refine PW_get (v := .ref 54) c_G_act_1 fl_G_79 (gf_5_9 _ _) ?_
        refine PW_iload_n c_G_act_4 rfl ?_
        refine PW_iload_n c_G_act_5 rfl ?_
        refine PW_iload_n c_G_act_6 rfl ?_
        refine PW_V0 (d2 := 16) (st := []) [.int a1, .int 0, .int a3] c_G_act_7 lk_G_act_305 (po_54 _ _) rfl rfl rfl (Nat.le_of_ble_eq_true rfl) (by first | decide | omega) (Nat.le_of_ble_eq_true rfl) ?_
        show PW _ _ _ 0 [some (.ref 54), some (.int a1), some (.int 0), some (.int a3)] [] (E x y)
        refine PW_aload_n c_B_perform_0 rfl ?_
        refine PW_iconst (v := 0) c_B_perform_1 (by decide) ?_
        refine PW_put (w2 := E (sI x 435 0) y) c_B_perform_2 fp_B_perform_36 rfl (pf_54_3 _ _ _) ?_
        refine PW_aload_n c_B_perform_5 rfl ?_
        refine PW_iload_n c_B_perform_6 rfl ?_
        refine PW_V0 (d2 := 0) (st := []) [.int a1] c_B_perform_7 lk_B_perform_39 (po_54 _ _) rfl rfl rfl (Nat.le_of_ble_eq_true rfl) (by first | decide | omega) (Nat.le_of_ble_eq_true rfl) ?_
        refine sp_B_isBody hB hbx ?_
        show PW _ _ _ 10 [some (.ref 54), some (.int a1), some (.int 0), some (.int a3)] [.int (b2i (0 ≤ a1.toInt ∧ a1.toInt < (nB y : Int)))] (E (sI x 435 0) y)
        refine PW_if_eq c_B_perform_10 (fun h0 => absurd hc0 (b2i_0.mp h0)) (fun _ => ?_)
        refine PW_iload_n c_B_perform_13 rfl ?_
        refine PW_if_lt c_B_perform_14 (fun h1 => absurd h1 (by decide)) (fun _ => ?_)
        refine PW_iload_n c_B_perform_17 rfl ?_
        refine PW_iconst (v := 4) c_B_perform_18 (by decide) ?_
        refine PW_icmp_lt c_B_perform_19 (fun _ => ?_) (fun h2 => absurd (by decide) h2)
        rw [← tr_nil 56 435 x]
        show PW _ _ _ 24 [some (.ref 54), some (.int a1), some (.int 0), some (.int a3)] [] (E (tr 56 435 x []) y)
        refine PW_aload_n c_B_perform_24 rfl ?_
        refine PW_aload_n c_B_perform_25 rfl ?_
        refine PW_iload_n c_B_perform_26 rfl ?_
        refine PW_V0 (d2 := 1) (st := [.ref 54]) [.int a1] c_B_perform_27 lk_B_perform_42 (po_54 _ _) rfl rfl rfl (Nat.le_of_ble_eq_true rfl) (by first | decide | omega) (Nat.le_of_ble_eq_true rfl) ?_
        refine sp_kof (l := []) K ?_
        show PW _ _ _ 30 [some (.ref 54), some (.int a1), some (.int 0), some (.int a3)] [.int 1, .ref 54] (E (tr 56 435 x []) y)
        refine PW_iload_n c_B_perform_30 rfl ?_
        refine PW_iload_n c_B_perform_31 rfl ?_
        refine PW_iload_n c_B_perform_32 rfl ?_
        refine PW_iconst (v := 0) c_B_perform_33 (by decide) ?_
        refine PW_V0 (d2 := 15) (st := []) [.int 1, .int 0, .int a3, .int a1, .int 0] c_B_perform_34 lk_B_perform_45 (po_54 _ _) rfl rfl rfl (Nat.le_of_ble_eq_true rfl) (by first | decide | omega) (Nat.le_of_ble_eq_true rfl) ?_
        refine PW.deeper (k := (7, 0, 0, z)) (Nat.le_of_ble_eq_true rfl) (Nat.le_refl _) (Nat.le_refl _) ?_
        refine sp_call_1_1_0 (l := []) (d := 0) K rfl (by omega) (by decide) ?_
        show PW _ _ _ 37 [some (.ref 54), some (.int a1), some (.int 0), some (.int a3)] [.int ((a3 + a1) + 3)] (E (tr 56 435 x (1 :: 20 :: [])) y)
        refine PW_ireturn (ty := .int) c_B_perform_37 rfl rfl ?_
        show PW _ _ _ 10 [some (.ref 5), some (.int a1), some (.int 0), some (.int a3)] [.int ((a3 + a1) + 3)] (E (tr 56 435 x (1 :: 20 :: [])) y)
        refine PW_ireturn (ty := .int) c_G_act_10 rfl rfl ?_
        exact h
      · refine PW.deeper (k := (9, 0, 0, z)) (Nat.le_of_ble_eq_true rfl) (Nat.le_refl _) (Nat.le_refl _) ?_
        refine PW_aload_n c_M_act_0 rfl ?_
        refine PW_iconst (v := 0) c_M_act_1 (by decide) ?_
        refine PW_put (w2 := E (tr 56 435 x (1 :: 20 :: [])) (sI y 611 0)) c_M_act_2 fp_M_act_358 rfl (pf_70_51 _ _ _) ?_
        refine PW_aload_n c_M_act_5 rfl ?_
        refine PW_iload_n c_M_act_6 rfl ?_
        refine PW_V0 (d2 := 1) (st := []) [.int a1] c_M_act_7 lk_M_act_397 (po_70 _ _) rfl rfl rfl (Nat.le_of_ble_eq_true rfl) (by first | decide | omega) (Nat.le_of_ble_eq_true rfl) ?_
        refine sp_M_isBody2 hB ?_
        show PW _ _ _ 10 [some (.ref 70), some (.int a1), some (.int 0), some (.int a3)] [.int (b2i (0 ≤ a1.toInt ∧ a1.toInt < (nB (sI y 611 0) : Int)))] (E (tr 56 435 x (1 :: 20 :: [])) (sI y 611 0))
        refine PW_if_eq c_M_act_10 (fun h0 => absurd hc0 (b2i_0.mp h0)) (fun _ => ?_)
        refine PW_iload_n c_M_act_13 rfl ?_
        refine PW_iconst (v := 0) c_M_act_14 (by decide) ?_
        refine PW_iconst (v := 3) c_M_act_15 (by decide) ?_
        refine PW_S0 (d2 := 0) (st := []) [.int 0, .int 0, .int 3] c_M_act_16 lk_M_act_131 rfl rfl rfl (Nat.le_of_ble_eq_true rfl) (by first | decide | omega) (Nat.le_of_ble_eq_true rfl) ?_
        refine sp_M_within  ?_
        show PW _ _ _ 19 [some (.ref 70), some (.int a1), some (.int 0), some (.int a3)] [.int (b2i ((0 : Int32) ≤ (0 : Int32) ∧ (0 : Int32) ≤ (3 : Int32)))] (E (tr 56 435 x (1 :: 20 :: [])) (sI y 611 0))
        refine PW_if_ne c_M_act_19 (fun _ => ?_) (fun h1 => absurd (by decide) (b2i_0.mp h1))
        rw [← tr_nil 103 611 y]
        show PW _ _ _ 24 [some (.ref 70), some (.int a1), some (.int 0), some (.int a3)] [] (E (tr 56 435 x (1 :: 20 :: [])) (tr 103 611 y []))
        refine PW_iload_n c_M_act_24 rfl ?_
        refine PW_if_ne c_M_act_25 (fun h2 => absurd (by decide) h2) (fun _ => ?_)
        refine PW_aload_n c_M_act_28 rfl ?_
        refine PW_iload_n c_M_act_29 rfl ?_
        refine PW_iload_n c_M_act_30 rfl ?_
        refine PW_V0 (d2 := 3) (st := []) [.int a1, .int a3] c_M_act_31 lk_M_act_373 (po_70 _ _) rfl rfl rfl (Nat.le_of_ble_eq_true rfl) (by first | decide | omega) (Nat.le_of_ble_eq_true rfl) ?_
        refine sp_M_saying_1 (l := []) K2 (by decide) ?_
        show PW _ _ _ 34 [some (.ref 70), some (.int a1), some (.int 0), some (.int a3)] [.int ((a3 + a1) + 3)] (E (tr 56 435 x (1 :: 20 :: [])) (tr 103 611 y (1 :: 20 :: [])))
        refine PW_goto c_M_act_34 ?_
        refine PW_ireturn (ty := .int) c_M_act_71 rfl rfl ?_
        exact h
    · refine ⟨a3 + a1, tr 56 435 x (1 :: []), tr 103 611 y (1 :: []), ?_, fun {z post} h => ?_, fun {z post} h => ?_⟩
      · exact INV_step (INV_tr hI _ (by decide))
      · refine PW.deeper (k := (17, 0, 0, z)) (Nat.le_of_ble_eq_true rfl) (Nat.le_refl _) (Nat.le_refl _) ?_
        refine PW_aload_n c_G_act_0 rfl ?_
        refine PW_get (v := .ref 54) c_G_act_1 fl_G_79 (gf_5_9 _ _) ?_
        refine PW_iload_n c_G_act_4 rfl ?_
        refine PW_iload_n c_G_act_5 rfl ?_
        refine PW_iload_n c_G_act_6 rfl ?_
        refine PW_V0 (d2 := 16) (st := []) [.int a1, .int 0, .int a3] c_G_act_7 lk_G_act_305 (po_54 _ _) rfl rfl rfl (Nat.le_of_ble_eq_true rfl) (by first | decide | omega) (Nat.le_of_ble_eq_true rfl) ?_
        show PW _ _ _ 0 [some (.ref 54), some (.int a1), some (.int 0), some (.int a3)] [] (E x y)
        refine PW_aload_n c_B_perform_0 rfl ?_
        refine PW_iconst (v := 0) c_B_perform_1 (by decide) ?_
        refine PW_put (w2 := E (sI x 435 0) y) c_B_perform_2 fp_B_perform_36 rfl (pf_54_3 _ _ _) ?_
        refine PW_aload_n c_B_perform_5 rfl ?_
        refine PW_iload_n c_B_perform_6 rfl ?_
        refine PW_V0 (d2 := 0) (st := []) [.int a1] c_B_perform_7 lk_B_perform_39 (po_54 _ _) rfl rfl rfl (Nat.le_of_ble_eq_true rfl) (by first | decide | omega) (Nat.le_of_ble_eq_true rfl) ?_
        refine sp_B_isBody hB hbx ?_
        show PW _ _ _ 10 [some (.ref 54), some (.int a1), some (.int 0), some (.int a3)] [.int (b2i (0 ≤ a1.toInt ∧ a1.toInt < (nB y : Int)))] (E (sI x 435 0) y)
        refine PW_if_eq c_B_perform_10 (fun h0 => absurd hc0 (b2i_0.mp h0)) (fun _ => ?_)
        refine PW_iload_n c_B_perform_13 rfl ?_
        refine PW_if_lt c_B_perform_14 (fun h1 => absurd h1 (by decide)) (fun _ => ?_)
        refine PW_iload_n c_B_perform_17 rfl ?_
        refine PW_iconst (v := 4) c_B_perform_18 (by decide) ?_
        refine PW_icmp_lt c_B_perform_19 (fun _ => ?_) (fun h2 => absurd (by decide) h2)
        rw [← tr_nil 56 435 x]
        show PW _ _ _ 24 [some (.ref 54), some (.int a1), some (.int 0), some (.int a3)] [] (E (tr 56 435 x []) y)
        refine PW_aload_n c_B_perform_24 rfl ?_
        refine PW_aload_n c_B_perform_25 rfl ?_
        refine PW_iload_n c_B_perform_26 rfl ?_
        refine PW_V0 (d2 := 1) (st := [.ref 54]) [.int a1] c_B_perform_27 lk_B_perform_42 (po_54 _ _) rfl rfl rfl (Nat.le_of_ble_eq_true rfl) (by first | decide | omega) (Nat.le_of_ble_eq_true rfl) ?_
        refine sp_kof (l := []) K ?_
        show PW _ _ _ 30 [some (.ref 54), some (.int a1), some (.int 0), some (.int a3)] [.int 2, .ref 54] (E (tr 56 435 x []) y)
        refine PW_iload_n c_B_perform_30 rfl ?_
        refine PW_iload_n c_B_perform_31 rfl ?_
        refine PW_iload_n c_B_perform_32 rfl ?_
        refine PW_iconst (v := 0) c_B_perform_33 (by decide) ?_
        refine PW_V0 (d2 := 15) (st := []) [.int 2, .int 0, .int a3, .int a1, .int 0] c_B_perform_34 lk_B_perform_45 (po_54 _ _) rfl rfl rfl (Nat.le_of_ble_eq_true rfl) (by first | decide | omega) (Nat.le_of_ble_eq_true rfl) ?_
        refine PW.deeper (k := (5, 0, 0, z)) (Nat.le_of_ble_eq_true rfl) (Nat.le_refl _) (Nat.le_refl _) ?_
        refine sp_call_2_2_0 (l := []) (d := 0) K rfl (by omega) (by decide) ?_
        show PW _ _ _ 37 [some (.ref 54), some (.int a1), some (.int 0), some (.int a3)] [.int (a3 + a1)] (E (tr 56 435 x (1 :: [])) y)
        refine PW_ireturn (ty := .int) c_B_perform_37 rfl rfl ?_
        show PW _ _ _ 10 [some (.ref 5), some (.int a1), some (.int 0), some (.int a3)] [.int (a3 + a1)] (E (tr 56 435 x (1 :: [])) y)
        refine PW_ireturn (ty := .int) c_G_act_10 rfl rfl ?_
        exact h
      · refine PW.deeper (k := (9, 0, 0, z)) (Nat.le_of_ble_eq_true rfl) (Nat.le_refl _) (Nat.le_refl _) ?_
        refine PW_aload_n c_M_act_0 rfl ?_
        refine PW_iconst (v := 0) c_M_act_1 (by decide) ?_
        refine PW_put (w2 := E (tr 56 435 x (1 :: [])) (sI y 611 0)) c_M_act_2 fp_M_act_358 rfl (pf_70_51 _ _ _) ?_
        refine PW_aload_n c_M_act_5 rfl ?_
        refine PW_iload_n c_M_act_6 rfl ?_
        refine PW_V0 (d2 := 1) (st := []) [.int a1] c_M_act_7 lk_M_act_397 (po_70 _ _) rfl rfl rfl (Nat.le_of_ble_eq_true rfl) (by first | decide | omega) (Nat.le_of_ble_eq_true rfl) ?_
        refine sp_M_isBody2 hB ?_
        show PW _ _ _ 10 [some (.ref 70), some (.int a1), some (.int 0), some (.int a3)] [.int (b2i (0 ≤ a1.toInt ∧ a1.toInt < (nB (sI y 611 0) : Int)))] (E (tr 56 435 x (1 :: [])) (sI y 611 0))
        refine PW_if_eq c_M_act_10 (fun h0 => absurd hc0 (b2i_0.mp h0)) (fun _ => ?_)
        refine PW_iload_n c_M_act_13 rfl ?_
        refine PW_iconst (v := 0) c_M_act_14 (by decide) ?_
        refine PW_iconst (v := 3) c_M_act_15 (by decide) ?_
        refine PW_S0 (d2 := 0) (st := []) [.int 0, .int 0, .int 3] c_M_act_16 lk_M_act_131 rfl rfl rfl (Nat.le_of_ble_eq_true rfl) (by first | decide | omega) (Nat.le_of_ble_eq_true rfl) ?_
        refine sp_M_within  ?_
        show PW _ _ _ 19 [some (.ref 70), some (.int a1), some (.int 0), some (.int a3)] [.int (b2i ((0 : Int32) ≤ (0 : Int32) ∧ (0 : Int32) ≤ (3 : Int32)))] (E (tr 56 435 x (1 :: [])) (sI y 611 0))
        refine PW_if_ne c_M_act_19 (fun _ => ?_) (fun h1 => absurd (by decide) (b2i_0.mp h1))
        rw [← tr_nil 103 611 y]
        show PW _ _ _ 24 [some (.ref 70), some (.int a1), some (.int 0), some (.int a3)] [] (E (tr 56 435 x (1 :: [])) (tr 103 611 y []))
        refine PW_iload_n c_M_act_24 rfl ?_
        refine PW_if_ne c_M_act_25 (fun h2 => absurd (by decide) h2) (fun _ => ?_)
        refine PW_aload_n c_M_act_28 rfl ?_
        refine PW_iload_n c_M_act_29 rfl ?_
        refine PW_iload_n c_M_act_30 rfl ?_
        refine PW_V0 (d2 := 3) (st := []) [.int a1, .int a3] c_M_act_31 lk_M_act_373 (po_70 _ _) rfl rfl rfl (Nat.le_of_ble_eq_true rfl) (by first | decide | omega) (Nat.le_of_ble_eq_true rfl) ?_
        refine sp_M_saying_2 (l := []) K2 (by decide) ?_
        show PW _ _ _ 34 [some (.ref 70), some (.int a1), some (.int 0), some (.int a3)] [.int (a3 + a1)] (E (tr 56 435 x (1 :: [])) (tr 103 611 y (1 :: [])))
        refine PW_goto c_M_act_34 ?_
        refine PW_ireturn (ty := .int) c_M_act_71 rfl rfl ?_
        exact h
    · refine ⟨a3 + a1, tr 56 435 x (1 :: []), tr 103 611 y (1 :: []), ?_, fun {z post} h => ?_, fun {z post} h => ?_⟩
      · exact INV_step (INV_tr hI _ (by decide))
      · refine PW.deeper (k := (17, 0, 0, z)) (Nat.le_of_ble_eq_true rfl) (Nat.le_refl _) (Nat.le_refl _) ?_
        refine PW_aload_n c_G_act_0 rfl ?_
        refine PW_get (v := .ref 54) c_G_act_1 fl_G_79 (gf_5_9 _ _) ?_
        refine PW_iload_n c_G_act_4 rfl ?_
        refine PW_iload_n c_G_act_5 rfl ?_
        refine PW_iload_n c_G_act_6 rfl ?_
        refine PW_V0 (d2 := 16) (st := []) [.int a1, .int 0, .int a3] c_G_act_7 lk_G_act_305 (po_54 _ _) rfl rfl rfl (Nat.le_of_ble_eq_true rfl) (by first | decide | omega) (Nat.le_of_ble_eq_true rfl) ?_
        show PW _ _ _ 0 [some (.ref 54), some (.int a1), some (.int 0), some (.int a3)] [] (E x y)
        refine PW_aload_n c_B_perform_0 rfl ?_
        refine PW_iconst (v := 0) c_B_perform_1 (by decide) ?_
        refine PW_put (w2 := E (sI x 435 0) y) c_B_perform_2 fp_B_perform_36 rfl (pf_54_3 _ _ _) ?_
        refine PW_aload_n c_B_perform_5 rfl ?_
        refine PW_iload_n c_B_perform_6 rfl ?_
        refine PW_V0 (d2 := 0) (st := []) [.int a1] c_B_perform_7 lk_B_perform_39 (po_54 _ _) rfl rfl rfl (Nat.le_of_ble_eq_true rfl) (by first | decide | omega) (Nat.le_of_ble_eq_true rfl) ?_
        refine sp_B_isBody hB hbx ?_
        show PW _ _ _ 10 [some (.ref 54), some (.int a1), some (.int 0), some (.int a3)] [.int (b2i (0 ≤ a1.toInt ∧ a1.toInt < (nB y : Int)))] (E (sI x 435 0) y)
        refine PW_if_eq c_B_perform_10 (fun h0 => absurd hc0 (b2i_0.mp h0)) (fun _ => ?_)
        refine PW_iload_n c_B_perform_13 rfl ?_
        refine PW_if_lt c_B_perform_14 (fun h1 => absurd h1 (by decide)) (fun _ => ?_)
        refine PW_iload_n c_B_perform_17 rfl ?_
        refine PW_iconst (v := 4) c_B_perform_18 (by decide) ?_
        refine PW_icmp_lt c_B_perform_19 (fun _ => ?_) (fun h2 => absurd (by decide) h2)
        rw [← tr_nil 56 435 x]
        show PW _ _ _ 24 [some (.ref 54), some (.int a1), some (.int 0), some (.int a3)] [] (E (tr 56 435 x []) y)
        refine PW_aload_n c_B_perform_24 rfl ?_
        refine PW_aload_n c_B_perform_25 rfl ?_
        refine PW_iload_n c_B_perform_26 rfl ?_
        refine PW_V0 (d2 := 1) (st := [.ref 54]) [.int a1] c_B_perform_27 lk_B_perform_42 (po_54 _ _) rfl rfl rfl (Nat.le_of_ble_eq_true rfl) (by first | decide | omega) (Nat.le_of_ble_eq_true rfl) ?_
        refine sp_kof (l := []) K ?_
        show PW _ _ _ 30 [some (.ref 54), some (.int a1), some (.int 0), some (.int a3)] [.int 3, .ref 54] (E (tr 56 435 x []) y)
        refine PW_iload_n c_B_perform_30 rfl ?_
        refine PW_iload_n c_B_perform_31 rfl ?_
        refine PW_iload_n c_B_perform_32 rfl ?_
        refine PW_iconst (v := 0) c_B_perform_33 (by decide) ?_
        refine PW_V0 (d2 := 15) (st := []) [.int 3, .int 0, .int a3, .int a1, .int 0] c_B_perform_34 lk_B_perform_45 (po_54 _ _) rfl rfl rfl (Nat.le_of_ble_eq_true rfl) (by first | decide | omega) (Nat.le_of_ble_eq_true rfl) ?_
        refine PW.deeper (k := (5, 0, 0, z)) (Nat.le_of_ble_eq_true rfl) (Nat.le_refl _) (Nat.le_refl _) ?_
        refine sp_call_3_3_0 (l := []) (d := 0) K rfl (by omega) (by decide) ?_
        show PW _ _ _ 37 [some (.ref 54), some (.int a1), some (.int 0), some (.int a3)] [.int (a3 + a1)] (E (tr 56 435 x (1 :: [])) y)
        refine PW_ireturn (ty := .int) c_B_perform_37 rfl rfl ?_
        show PW _ _ _ 10 [some (.ref 5), some (.int a1), some (.int 0), some (.int a3)] [.int (a3 + a1)] (E (tr 56 435 x (1 :: [])) y)
        refine PW_ireturn (ty := .int) c_G_act_10 rfl rfl ?_
        exact h
      · refine PW.deeper (k := (9, 0, 0, z)) (Nat.le_of_ble_eq_true rfl) (Nat.le_refl _) (Nat.le_refl _) ?_
        refine PW_aload_n c_M_act_0 rfl ?_
        refine PW_iconst (v := 0) c_M_act_1 (by decide) ?_
        refine PW_put (w2 := E (tr 56 435 x (1 :: [])) (sI y 611 0)) c_M_act_2 fp_M_act_358 rfl (pf_70_51 _ _ _) ?_
        refine PW_aload_n c_M_act_5 rfl ?_
        refine PW_iload_n c_M_act_6 rfl ?_
        refine PW_V0 (d2 := 1) (st := []) [.int a1] c_M_act_7 lk_M_act_397 (po_70 _ _) rfl rfl rfl (Nat.le_of_ble_eq_true rfl) (by first | decide | omega) (Nat.le_of_ble_eq_true rfl) ?_
        refine sp_M_isBody2 hB ?_
        show PW _ _ _ 10 [some (.ref 70), some (.int a1), some (.int 0), some (.int a3)] [.int (b2i (0 ≤ a1.toInt ∧ a1.toInt < (nB (sI y 611 0) : Int)))] (E (tr 56 435 x (1 :: [])) (sI y 611 0))
        refine PW_if_eq c_M_act_10 (fun h0 => absurd hc0 (b2i_0.mp h0)) (fun _ => ?_)
        refine PW_iload_n c_M_act_13 rfl ?_
        refine PW_iconst (v := 0) c_M_act_14 (by decide) ?_
        refine PW_iconst (v := 3) c_M_act_15 (by decide) ?_
        refine PW_S0 (d2 := 0) (st := []) [.int 0, .int 0, .int 3] c_M_act_16 lk_M_act_131 rfl rfl rfl (Nat.le_of_ble_eq_true rfl) (by first | decide | omega) (Nat.le_of_ble_eq_true rfl) ?_
        refine sp_M_within  ?_
        show PW _ _ _ 19 [some (.ref 70), some (.int a1), some (.int 0), some (.int a3)] [.int (b2i ((0 : Int32) ≤ (0 : Int32) ∧ (0 : Int32) ≤ (3 : Int32)))] (E (tr 56 435 x (1 :: [])) (sI y 611 0))
        refine PW_if_ne c_M_act_19 (fun _ => ?_) (fun h1 => absurd (by decide) (b2i_0.mp h1))
        rw [← tr_nil 103 611 y]
        show PW _ _ _ 24 [some (.ref 70), some (.int a1), some (.int 0), some (.int a3)] [] (E (tr 56 435 x (1 :: [])) (tr 103 611 y []))
        refine PW_iload_n c_M_act_24 rfl ?_
        refine PW_if_ne c_M_act_25 (fun h2 => absurd (by decide) h2) (fun _ => ?_)
        refine PW_aload_n c_M_act_28 rfl ?_
        refine PW_iload_n c_M_act_29 rfl ?_
        refine PW_iload_n c_M_act_30 rfl ?_
        refine PW_V0 (d2 := 3) (st := []) [.int a1, .int a3] c_M_act_31 lk_M_act_373 (po_70 _ _) rfl rfl rfl (Nat.le_of_ble_eq_true rfl) (by first | decide | omega) (Nat.le_of_ble_eq_true rfl) ?_
        refine sp_M_saying_3 (l := []) K2 (by decide) ?_
        show PW _ _ _ 34 [some (.ref 70), some (.int a1), some (.int 0), some (.int a3)] [.int (a3 + a1)] (E (tr 56 435 x (1 :: [])) (tr 103 611 y (1 :: [])))
        refine PW_goto c_M_act_34 ?_
        refine PW_ireturn (ty := .int) c_M_act_71 rfl rfl ?_
        exact h
    · refine ⟨(a3 + a1) + 3, tr 56 435 x (1 :: 20 :: []), tr 103 611 y (1 :: 20 :: []), ?_, fun {z post} h => ?_, fun {z post} h => ?_⟩
      · exact INV_step (INV_tr hI _ (by decide))
      · refine PW.deeper (k := (17, 0, 0, z)) (Nat.le_of_ble_eq_true rfl) (Nat.le_refl _) (Nat.le_refl _) ?_
        refine PW_aload_n c_G_act_0 rfl ?_
        refine PW_get (v := .ref 54) c_G_act_1 fl_G_79 (gf_5_9 _ _) ?_
        refine PW_iload_n c_G_act_4 rfl ?_
        refine PW_iload_n c_G_act_5 rfl ?_
        refine PW_iload_n c_G_act_6 rfl ?_
        refine PW_V0 (d2 := 16) (st := []) [.int a1, .int 0, .int a3] c_G_act_7 lk_G_act_305 (po_54 _ _) rfl rfl rfl (Nat.le_of_ble_eq_true rfl) (by first | decide | omega) (Nat.le_of_ble_eq_true rfl) ?_
        show PW _ _ _ 0 [some (.ref 54), some (.int a1), some (.int 0), some (.int a3)] [] (E x y)
        refine PW_aload_n c_B_perform_0 rfl ?_
        refine PW_iconst (v := 0) c_B_perform_1 (by decide) ?_
        refine PW_put (w2 := E (sI x 435 0) y) c_B_perform_2 fp_B_perform_36 rfl (pf_54_3 _ _ _) ?_
        refine PW_aload_n c_B_perform_5 rfl ?_
        refine PW_iload_n c_B_perform_6 rfl ?_
        refine PW_V0 (d2 := 0) (st := []) [.int a1] c_B_perform_7 lk_B_perform_39 (po_54 _ _) rfl rfl rfl (Nat.le_of_ble_eq_true rfl) (by first | decide | omega) (Nat.le_of_ble_eq_true rfl) ?_
        refine sp_B_isBody hB hbx ?_
        show PW _ _ _ 10 [some (.ref 54), some (.int a1), some (.int 0), some (.int a3)] [.int (b2i (0 ≤ a1.toInt ∧ a1.toInt < (nB y : Int)))] (E (sI x 435 0) y)
        refine PW_if_eq c_B_perform_10 (fun h0 => absurd hc0 (b2i_0.mp h0)) (fun _ => ?_)
        refine PW_iload_n c_B_perform_13 rfl ?_
        refine PW_if_lt c_B_perform_14 (fun h1 => absurd h1 (by decide)) (fun _ => ?_)
        refine PW_iload_n c_B_perform_17 rfl ?_
        refine PW_iconst (v := 4) c_B_perform_18 (by decide) ?_
        refine PW_icmp_lt c_B_perform_19 (fun _ => ?_) (fun h2 => absurd (by decide) h2)
        rw [← tr_nil 56 435 x]
        show PW _ _ _ 24 [some (.ref 54), some (.int a1), some (.int 0), some (.int a3)] [] (E (tr 56 435 x []) y)
        refine PW_aload_n c_B_perform_24 rfl ?_
        refine PW_aload_n c_B_perform_25 rfl ?_
        refine PW_iload_n c_B_perform_26 rfl ?_
        refine PW_V0 (d2 := 1) (st := [.ref 54]) [.int a1] c_B_perform_27 lk_B_perform_42 (po_54 _ _) rfl rfl rfl (Nat.le_of_ble_eq_true rfl) (by first | decide | omega) (Nat.le_of_ble_eq_true rfl) ?_
        refine sp_kof (l := []) K ?_
        show PW _ _ _ 30 [some (.ref 54), some (.int a1), some (.int 0), some (.int a3)] [.int 4, .ref 54] (E (tr 56 435 x []) y)
        refine PW_iload_n c_B_perform_30 rfl ?_
        refine PW_iload_n c_B_perform_31 rfl ?_
        refine PW_iload_n c_B_perform_32 rfl ?_
        refine PW_iconst (v := 0) c_B_perform_33 (by decide) ?_
        refine PW_V0 (d2 := 15) (st := []) [.int 4, .int 0, .int a3, .int a1, .int 0] c_B_perform_34 lk_B_perform_45 (po_54 _ _) rfl rfl rfl (Nat.le_of_ble_eq_true rfl) (by first | decide | omega) (Nat.le_of_ble_eq_true rfl) ?_
        refine PW.deeper (k := (7, 0, 0, z)) (Nat.le_of_ble_eq_true rfl) (Nat.le_refl _) (Nat.le_refl _) ?_
        refine sp_call_4_4_0 (l := []) (d := 0) K rfl (by omega) (by decide) ?_
        show PW _ _ _ 37 [some (.ref 54), some (.int a1), some (.int 0), some (.int a3)] [.int ((a3 + a1) + 3)] (E (tr 56 435 x (1 :: 20 :: [])) y)
        refine PW_ireturn (ty := .int) c_B_perform_37 rfl rfl ?_
        show PW _ _ _ 10 [some (.ref 5), some (.int a1), some (.int 0), some (.int a3)] [.int ((a3 + a1) + 3)] (E (tr 56 435 x (1 :: 20 :: [])) y)
        refine PW_ireturn (ty := .int) c_G_act_10 rfl rfl ?_
        exact h
      · refine PW.deeper (k := (9, 0, 0, z)) (Nat.le_of_ble_eq_true rfl) (Nat.le_refl _) (Nat.le_refl _) ?_
        refine PW_aload_n c_M_act_0 rfl ?_
        refine PW_iconst (v := 0) c_M_act_1 (by decide) ?_
        refine PW_put (w2 := E (tr 56 435 x (1 :: 20 :: [])) (sI y 611 0)) c_M_act_2 fp_M_act_358 rfl (pf_70_51 _ _ _) ?_
        refine PW_aload_n c_M_act_5 rfl ?_
        refine PW_iload_n c_M_act_6 rfl ?_
        refine PW_V0 (d2 := 1) (st := []) [.int a1] c_M_act_7 lk_M_act_397 (po_70 _ _) rfl rfl rfl (Nat.le_of_ble_eq_true rfl) (by first | decide | omega) (Nat.le_of_ble_eq_true rfl) ?_
        refine sp_M_isBody2 hB ?_
        show PW _ _ _ 10 [some (.ref 70), some (.int a1), some (.int 0), some (.int a3)] [.int (b2i (0 ≤ a1.toInt ∧ a1.toInt < (nB (sI y 611 0) : Int)))] (E (tr 56 435 x (1 :: 20 :: [])) (sI y 611 0))
        refine PW_if_eq c_M_act_10 (fun h0 => absurd hc0 (b2i_0.mp h0)) (fun _ => ?_)
        refine PW_iload_n c_M_act_13 rfl ?_
        refine PW_iconst (v := 0) c_M_act_14 (by decide) ?_
        refine PW_iconst (v := 3) c_M_act_15 (by decide) ?_
        refine PW_S0 (d2 := 0) (st := []) [.int 0, .int 0, .int 3] c_M_act_16 lk_M_act_131 rfl rfl rfl (Nat.le_of_ble_eq_true rfl) (by first | decide | omega) (Nat.le_of_ble_eq_true rfl) ?_
        refine sp_M_within  ?_
        show PW _ _ _ 19 [some (.ref 70), some (.int a1), some (.int 0), some (.int a3)] [.int (b2i ((0 : Int32) ≤ (0 : Int32) ∧ (0 : Int32) ≤ (3 : Int32)))] (E (tr 56 435 x (1 :: 20 :: [])) (sI y 611 0))
        refine PW_if_ne c_M_act_19 (fun _ => ?_) (fun h1 => absurd (by decide) (b2i_0.mp h1))
        rw [← tr_nil 103 611 y]
        show PW _ _ _ 24 [some (.ref 70), some (.int a1), some (.int 0), some (.int a3)] [] (E (tr 56 435 x (1 :: 20 :: [])) (tr 103 611 y []))
        refine PW_iload_n c_M_act_24 rfl ?_
        refine PW_if_ne c_M_act_25 (fun h2 => absurd (by decide) h2) (fun _ => ?_)
        refine PW_aload_n c_M_act_28 rfl ?_
        refine PW_iload_n c_M_act_29 rfl ?_
        refine PW_iload_n c_M_act_30 rfl ?_
        refine PW_V0 (d2 := 3) (st := []) [.int a1, .int a3] c_M_act_31 lk_M_act_373 (po_70 _ _) rfl rfl rfl (Nat.le_of_ble_eq_true rfl) (by first | decide | omega) (Nat.le_of_ble_eq_true rfl) ?_
        refine sp_M_saying_4 (l := []) K2 (by decide) ?_
        show PW _ _ _ 34 [some (.ref 70), some (.int a1), some (.int 0), some (.int a3)] [.int ((a3 + a1) + 3)] (E (tr 56 435 x (1 :: 20 :: [])) (tr 103 611 y (1 :: 20 :: [])))
        refine PW_goto c_M_act_34 ?_
        refine PW_ireturn (ty := .int) c_M_act_71 rfl rfl ?_
        exact h
    · refine ⟨a3 + a1, tr 56 435 x (1 :: []), tr 103 611 y (1 :: []), ?_, fun {z post} h => ?_, fun {z post} h => ?_⟩
      · exact INV_step (INV_tr hI _ (by decide))
      · refine PW.deeper (k := (17, 0, 0, z)) (Nat.le_of_ble_eq_true rfl) (Nat.le_refl _) (Nat.le_refl _) ?_
        refine PW_aload_n c_G_act_0 rfl ?_
        refine PW_get (v := .ref 54) c_G_act_1 fl_G_79 (gf_5_9 _ _) ?_
        refine PW_iload_n c_G_act_4 rfl ?_
        refine PW_iload_n c_G_act_5 rfl ?_
        refine PW_iload_n c_G_act_6 rfl ?_
        refine PW_V0 (d2 := 16) (st := []) [.int a1, .int 0, .int a3] c_G_act_7 lk_G_act_305 (po_54 _ _) rfl rfl rfl (Nat.le_of_ble_eq_true rfl) (by first | decide | omega) (Nat.le_of_ble_eq_true rfl) ?_
        show PW _ _ _ 0 [some (.ref 54), some (.int a1), some (.int 0), some (.int a3)] [] (E x y)
        refine PW_aload_n c_B_perform_0 rfl ?_
        refine PW_iconst (v := 0) c_B_perform_1 (by decide) ?_
        refine PW_put (w2 := E (sI x 435 0) y) c_B_perform_2 fp_B_perform_36 rfl (pf_54_3 _ _ _) ?_
        refine PW_aload_n c_B_perform_5 rfl ?_
        refine PW_iload_n c_B_perform_6 rfl ?_
        refine PW_V0 (d2 := 0) (st := []) [.int a1] c_B_perform_7 lk_B_perform_39 (po_54 _ _) rfl rfl rfl (Nat.le_of_ble_eq_true rfl) (by first | decide | omega) (Nat.le_of_ble_eq_true rfl) ?_
        refine sp_B_isBody hB hbx ?_
        show PW _ _ _ 10 [some (.ref 54), some (.int a1), some (.int 0), some (.int a3)] [.int (b2i (0 ≤ a1.toInt ∧ a1.toInt < (nB y : Int)))] (E (sI x 435 0) y)
        refine PW_if_eq c_B_perform_10 (fun h0 => absurd hc0 (b2i_0.mp h0)) (fun _ => ?_)
        refine PW_iload_n c_B_perform_13 rfl ?_
        refine PW_if_lt c_B_perform_14 (fun h1 => absurd h1 (by decide)) (fun _ => ?_)
        refine PW_iload_n c_B_perform_17 rfl ?_
        refine PW_iconst (v := 4) c_B_perform_18 (by decide) ?_
        refine PW_icmp_lt c_B_perform_19 (fun _ => ?_) (fun h2 => absurd (by decide) h2)
        rw [← tr_nil 56 435 x]
        show PW _ _ _ 24 [some (.ref 54), some (.int a1), some (.int 0), some (.int a3)] [] (E (tr 56 435 x []) y)
        refine PW_aload_n c_B_perform_24 rfl ?_
        refine PW_aload_n c_B_perform_25 rfl ?_
        refine PW_iload_n c_B_perform_26 rfl ?_
        refine PW_V0 (d2 := 1) (st := [.ref 54]) [.int a1] c_B_perform_27 lk_B_perform_42 (po_54 _ _) rfl rfl rfl (Nat.le_of_ble_eq_true rfl) (by first | decide | omega) (Nat.le_of_ble_eq_true rfl) ?_
        refine sp_kof (l := []) K ?_
        show PW _ _ _ 30 [some (.ref 54), some (.int a1), some (.int 0), some (.int a3)] [.int 5, .ref 54] (E (tr 56 435 x []) y)
        refine PW_iload_n c_B_perform_30 rfl ?_
        refine PW_iload_n c_B_perform_31 rfl ?_
        refine PW_iload_n c_B_perform_32 rfl ?_
        refine PW_iconst (v := 0) c_B_perform_33 (by decide) ?_
        refine PW_V0 (d2 := 15) (st := []) [.int 5, .int 0, .int a3, .int a1, .int 0] c_B_perform_34 lk_B_perform_45 (po_54 _ _) rfl rfl rfl (Nat.le_of_ble_eq_true rfl) (by first | decide | omega) (Nat.le_of_ble_eq_true rfl) ?_
        refine PW.deeper (k := (5, 0, 0, z)) (Nat.le_of_ble_eq_true rfl) (Nat.le_refl _) (Nat.le_refl _) ?_
        refine sp_call_5_5_0 (l := []) (d := 0) K rfl (by omega) (by decide) ?_
        show PW _ _ _ 37 [some (.ref 54), some (.int a1), some (.int 0), some (.int a3)] [.int (a3 + a1)] (E (tr 56 435 x (1 :: [])) y)
        refine PW_ireturn (ty := .int) c_B_perform_37 rfl rfl ?_
        show PW _ _ _ 10 [some (.ref 5), some (.int a1), some (.int 0), some (.int a3)] [.int (a3 + a1)] (E (tr 56 435 x (1 :: [])) y)
        refine PW_ireturn (ty := .int) c_G_act_10 rfl rfl ?_
        exact h
      · refine PW.deeper (k := (9, 0, 0, z)) (Nat.le_of_ble_eq_true rfl) (Nat.le_refl _) (Nat.le_refl _) ?_
        refine PW_aload_n c_M_act_0 rfl ?_
        refine PW_iconst (v := 0) c_M_act_1 (by decide) ?_
        refine PW_put (w2 := E (tr 56 435 x (1 :: [])) (sI y 611 0)) c_M_act_2 fp_M_act_358 rfl (pf_70_51 _ _ _) ?_
        refine PW_aload_n c_M_act_5 rfl ?_
        refine PW_iload_n c_M_act_6 rfl ?_
        refine PW_V0 (d2 := 1) (st := []) [.int a1] c_M_act_7 lk_M_act_397 (po_70 _ _) rfl rfl rfl (Nat.le_of_ble_eq_true rfl) (by first | decide | omega) (Nat.le_of_ble_eq_true rfl) ?_
        refine sp_M_isBody2 hB ?_
        show PW _ _ _ 10 [some (.ref 70), some (.int a1), some (.int 0), some (.int a3)] [.int (b2i (0 ≤ a1.toInt ∧ a1.toInt < (nB (sI y 611 0) : Int)))] (E (tr 56 435 x (1 :: [])) (sI y 611 0))
        refine PW_if_eq c_M_act_10 (fun h0 => absurd hc0 (b2i_0.mp h0)) (fun _ => ?_)
        refine PW_iload_n c_M_act_13 rfl ?_
        refine PW_iconst (v := 0) c_M_act_14 (by decide) ?_
        refine PW_iconst (v := 3) c_M_act_15 (by decide) ?_
        refine PW_S0 (d2 := 0) (st := []) [.int 0, .int 0, .int 3] c_M_act_16 lk_M_act_131 rfl rfl rfl (Nat.le_of_ble_eq_true rfl) (by first | decide | omega) (Nat.le_of_ble_eq_true rfl) ?_
        refine sp_M_within  ?_
        show PW _ _ _ 19 [some (.ref 70), some (.int a1), some (.int 0), some (.int a3)] [.int (b2i ((0 : Int32) ≤ (0 : Int32) ∧ (0 : Int32) ≤ (3 : Int32)))] (E (tr 56 435 x (1 :: [])) (sI y 611 0))
        refine PW_if_ne c_M_act_19 (fun _ => ?_) (fun h1 => absurd (by decide) (b2i_0.mp h1))
        rw [← tr_nil 103 611 y]
        show PW _ _ _ 24 [some (.ref 70), some (.int a1), some (.int 0), some (.int a3)] [] (E (tr 56 435 x (1 :: [])) (tr 103 611 y []))
        refine PW_iload_n c_M_act_24 rfl ?_
        refine PW_if_ne c_M_act_25 (fun h2 => absurd (by decide) h2) (fun _ => ?_)
        refine PW_aload_n c_M_act_28 rfl ?_
        refine PW_iload_n c_M_act_29 rfl ?_
        refine PW_iload_n c_M_act_30 rfl ?_
        refine PW_V0 (d2 := 3) (st := []) [.int a1, .int a3] c_M_act_31 lk_M_act_373 (po_70 _ _) rfl rfl rfl (Nat.le_of_ble_eq_true rfl) (by first | decide | omega) (Nat.le_of_ble_eq_true rfl) ?_
        refine sp_M_saying_5 (l := []) K2 (by decide) ?_
        show PW _ _ _ 34 [some (.ref 70), some (.int a1), some (.int 0), some (.int a3)] [.int (a3 + a1)] (E (tr 56 435 x (1 :: [])) (tr 103 611 y (1 :: [])))
        refine PW_goto c_M_act_34 ?_
        refine PW_ireturn (ty := .int) c_M_act_71 rfl rfl ?_
        exact h
    · refine ⟨(a3 + a1) * 2, tr 56 435 x (1 :: 70 :: []), tr 103 611 y (1 :: 70 :: []), ?_, fun {z post} h => ?_, fun {z post} h => ?_⟩
      · exact INV_step (INV_tr hI _ (by decide))
      · refine PW.deeper (k := (17, 0, 0, z)) (Nat.le_of_ble_eq_true rfl) (Nat.le_refl _) (Nat.le_refl _) ?_
        refine PW_aload_n c_G_act_0 rfl ?_
        refine PW_get (v := .ref 54) c_G_act_1 fl_G_79 (gf_5_9 _ _) ?_
        refine PW_iload_n c_G_act_4 rfl ?_
        refine PW_iload_n c_G_act_5 rfl ?_
        refine PW_iload_n c_G_act_6 rfl ?_
        refine PW_V0 (d2 := 16) (st := []) [.int a1, .int 0, .int a3] c_G_act_7 lk_G_act_305 (po_54 _ _) rfl rfl rfl (Nat.le_of_ble_eq_true rfl) (by first | decide | omega) (Nat.le_of_ble_eq_true rfl) ?_
        show PW _ _ _ 0 [some (.ref 54), some (.int a1), some (.int 0), some (.int a3)] [] (E x y)
        refine PW_aload_n c_B_perform_0 rfl ?_
        refine PW_iconst (v := 0) c_B_perform_1 (by decide) ?_
        refine PW_put (w2 := E (sI x 435 0) y) c_B_perform_2 fp_B_perform_36 rfl (pf_54_3 _ _ _) ?_
        refine PW_aload_n c_B_perform_5 rfl ?_
        refine PW_iload_n c_B_perform_6 rfl ?_
        refine PW_V0 (d2 := 0) (st := []) [.int a1] c_B_perform_7 lk_B_perform_39 (po_54 _ _) rfl rfl rfl (Nat.le_of_ble_eq_true rfl) (by first | decide | omega) (Nat.le_of_ble_eq_true rfl) ?_
        refine sp_B_isBody hB hbx ?_
        show PW _ _ _ 10 [some (.ref 54), some (.int a1), some (.int 0), some (.int a3)] [.int (b2i (0 ≤ a1.toInt ∧ a1.toInt < (nB y : Int)))] (E (sI x 435 0) y)
        refine PW_if_eq c_B_perform_10 (fun h0 => absurd hc0 (b2i_0.mp h0)) (fun _ => ?_)
        refine PW_iload_n c_B_perform_13 rfl ?_
        refine PW_if_lt c_B_perform_14 (fun h1 => absurd h1 (by decide)) (fun _ => ?_)
        refine PW_iload_n c_B_perform_17 rfl ?_
        refine PW_iconst (v := 4) c_B_perform_18 (by decide) ?_
        refine PW_icmp_lt c_B_perform_19 (fun _ => ?_) (fun h2 => absurd (by decide) h2)
        rw [← tr_nil 56 435 x]
        show PW _ _ _ 24 [some (.ref 54), some (.int a1), some (.int 0), some (.int a3)] [] (E (tr 56 435 x []) y)
        refine PW_aload_n c_B_perform_24 rfl ?_
        refine PW_aload_n c_B_perform_25 rfl ?_
        refine PW_iload_n c_B_perform_26 rfl ?_
        refine PW_V0 (d2 := 1) (st := [.ref 54]) [.int a1] c_B_perform_27 lk_B_perform_42 (po_54 _ _) rfl rfl rfl (Nat.le_of_ble_eq_true rfl) (by first | decide | omega) (Nat.le_of_ble_eq_true rfl) ?_
        refine sp_kof (l := []) K ?_
        show PW _ _ _ 30 [some (.ref 54), some (.int a1), some (.int 0), some (.int a3)] [.int 6, .ref 54] (E (tr 56 435 x []) y)
        refine PW_iload_n c_B_perform_30 rfl ?_
        refine PW_iload_n c_B_perform_31 rfl ?_
        refine PW_iload_n c_B_perform_32 rfl ?_
        refine PW_iconst (v := 0) c_B_perform_33 (by decide) ?_
        refine PW_V0 (d2 := 15) (st := []) [.int 6, .int 0, .int a3, .int a1, .int 0] c_B_perform_34 lk_B_perform_45 (po_54 _ _) rfl rfl rfl (Nat.le_of_ble_eq_true rfl) (by first | decide | omega) (Nat.le_of_ble_eq_true rfl) ?_
        refine PW.deeper (k := (7, 0, 0, z)) (Nat.le_of_ble_eq_true rfl) (Nat.le_refl _) (Nat.le_refl _) ?_
        refine sp_call_6_6_0 (l := []) (d := 0) K rfl (by omega) (by decide) ?_
        show PW _ _ _ 37 [some (.ref 54), some (.int a1), some (.int 0), some (.int a3)] [.int ((a3 + a1) * 2)] (E (tr 56 435 x (1 :: 70 :: [])) y)
        refine PW_ireturn (ty := .int) c_B_perform_37 rfl rfl ?_
        show PW _ _ _ 10 [some (.ref 5), some (.int a1), some (.int 0), some (.int a3)] [.int ((a3 + a1) * 2)] (E (tr 56 435 x (1 :: 70 :: [])) y)
        refine PW_ireturn (ty := .int) c_G_act_10 rfl rfl ?_
        exact h
      · refine PW.deeper (k := (9, 0, 0, z)) (Nat.le_of_ble_eq_true rfl) (Nat.le_refl _) (Nat.le_refl _) ?_
        refine PW_aload_n c_M_act_0 rfl ?_
        refine PW_iconst (v := 0) c_M_act_1 (by decide) ?_
        refine PW_put (w2 := E (tr 56 435 x (1 :: 70 :: [])) (sI y 611 0)) c_M_act_2 fp_M_act_358 rfl (pf_70_51 _ _ _) ?_
        refine PW_aload_n c_M_act_5 rfl ?_
        refine PW_iload_n c_M_act_6 rfl ?_
        refine PW_V0 (d2 := 1) (st := []) [.int a1] c_M_act_7 lk_M_act_397 (po_70 _ _) rfl rfl rfl (Nat.le_of_ble_eq_true rfl) (by first | decide | omega) (Nat.le_of_ble_eq_true rfl) ?_
        refine sp_M_isBody2 hB ?_
        show PW _ _ _ 10 [some (.ref 70), some (.int a1), some (.int 0), some (.int a3)] [.int (b2i (0 ≤ a1.toInt ∧ a1.toInt < (nB (sI y 611 0) : Int)))] (E (tr 56 435 x (1 :: 70 :: [])) (sI y 611 0))
        refine PW_if_eq c_M_act_10 (fun h0 => absurd hc0 (b2i_0.mp h0)) (fun _ => ?_)
        refine PW_iload_n c_M_act_13 rfl ?_
        refine PW_iconst (v := 0) c_M_act_14 (by decide) ?_
        refine PW_iconst (v := 3) c_M_act_15 (by decide) ?_
        refine PW_S0 (d2 := 0) (st := []) [.int 0, .int 0, .int 3] c_M_act_16 lk_M_act_131 rfl rfl rfl (Nat.le_of_ble_eq_true rfl) (by first | decide | omega) (Nat.le_of_ble_eq_true rfl) ?_
        refine sp_M_within  ?_
        show PW _ _ _ 19 [some (.ref 70), some (.int a1), some (.int 0), some (.int a3)] [.int (b2i ((0 : Int32) ≤ (0 : Int32) ∧ (0 : Int32) ≤ (3 : Int32)))] (E (tr 56 435 x (1 :: 70 :: [])) (sI y 611 0))
        refine PW_if_ne c_M_act_19 (fun _ => ?_) (fun h1 => absurd (by decide) (b2i_0.mp h1))
        rw [← tr_nil 103 611 y]
        show PW _ _ _ 24 [some (.ref 70), some (.int a1), some (.int 0), some (.int a3)] [] (E (tr 56 435 x (1 :: 70 :: [])) (tr 103 611 y []))
        refine PW_iload_n c_M_act_24 rfl ?_
        refine PW_if_ne c_M_act_25 (fun h2 => absurd (by decide) h2) (fun _ => ?_)
        refine PW_aload_n c_M_act_28 rfl ?_
        refine PW_iload_n c_M_act_29 rfl ?_
        refine PW_iload_n c_M_act_30 rfl ?_
        refine PW_V0 (d2 := 3) (st := []) [.int a1, .int a3] c_M_act_31 lk_M_act_373 (po_70 _ _) rfl rfl rfl (Nat.le_of_ble_eq_true rfl) (by first | decide | omega) (Nat.le_of_ble_eq_true rfl) ?_
        refine sp_M_saying_6 (l := []) K2 (by decide) ?_
        show PW _ _ _ 34 [some (.ref 70), some (.int a1), some (.int 0), some (.int a3)] [.int ((a3 + a1) * 2)] (E (tr 56 435 x (1 :: 70 :: [])) (tr 103 611 y (1 :: 70 :: [])))
        refine PW_goto c_M_act_34 ?_
        refine PW_ireturn (ty := .int) c_M_act_71 rfl rfl ?_
        exact h
    · refine ⟨((a3 + a1) * 2) - 1, tr 56 435 x (1 :: 70 :: 81 :: []), tr 103 611 y (1 :: 70 :: 81 :: []), ?_, fun {z post} h => ?_, fun {z post} h => ?_⟩
      · exact INV_step (INV_tr hI _ (by decide))
      · refine PW.deeper (k := (17, 0, 0, z)) (Nat.le_of_ble_eq_true rfl) (Nat.le_refl _) (Nat.le_refl _) ?_
        refine PW_aload_n c_G_act_0 rfl ?_
        refine PW_get (v := .ref 54) c_G_act_1 fl_G_79 (gf_5_9 _ _) ?_
        refine PW_iload_n c_G_act_4 rfl ?_
        refine PW_iload_n c_G_act_5 rfl ?_
        refine PW_iload_n c_G_act_6 rfl ?_
        refine PW_V0 (d2 := 16) (st := []) [.int a1, .int 0, .int a3] c_G_act_7 lk_G_act_305 (po_54 _ _) rfl rfl rfl (Nat.le_of_ble_eq_true rfl) (by first | decide | omega) (Nat.le_of_ble_eq_true rfl) ?_
        show PW _ _ _ 0 [some (.ref 54), some (.int a1), some (.int 0), some (.int a3)] [] (E x y)
        refine PW_aload_n c_B_perform_0 rfl ?_
        refine PW_iconst (v := 0) c_B_perform_1 (by decide) ?_
        refine PW_put (w2 := E (sI x 435 0) y) c_B_perform_2 fp_B_perform_36 rfl (pf_54_3 _ _ _) ?_
        refine PW_aload_n c_B_perform_5 rfl ?_
        refine PW_iload_n c_B_perform_6 rfl ?_
        refine PW_V0 (d2 := 0) (st := []) [.int a1] c_B_perform_7 lk_B_perform_39 (po_54 _ _) rfl rfl rfl (Nat.le_of_ble_eq_true rfl) (by first | decide | omega) (Nat.le_of_ble_eq_true rfl) ?_
        refine sp_B_isBody hB hbx ?_
        show PW _ _ _ 10 [some (.ref 54), some (.int a1), some (.int 0), some (.int a3)] [.int (b2i (0 ≤ a1.toInt ∧ a1.toInt < (nB y : Int)))] (E (sI x 435 0) y)
        refine PW_if_eq c_B_perform_10 (fun h0 => absurd hc0 (b2i_0.mp h0)) (fun _ => ?_)
        refine PW_iload_n c_B_perform_13 rfl ?_
        refine PW_if_lt c_B_perform_14 (fun h1 => absurd h1 (by decide)) (fun _ => ?_)
        refine PW_iload_n c_B_perform_17 rfl ?_
        refine PW_iconst (v := 4) c_B_perform_18 (by decide) ?_
        refine PW_icmp_lt c_B_perform_19 (fun _ => ?_) (fun h2 => absurd (by decide) h2)
        rw [← tr_nil 56 435 x]
        show PW _ _ _ 24 [some (.ref 54), some (.int a1), some (.int 0), some (.int a3)] [] (E (tr 56 435 x []) y)
        refine PW_aload_n c_B_perform_24 rfl ?_
        refine PW_aload_n c_B_perform_25 rfl ?_
        refine PW_iload_n c_B_perform_26 rfl ?_
        refine PW_V0 (d2 := 1) (st := [.ref 54]) [.int a1] c_B_perform_27 lk_B_perform_42 (po_54 _ _) rfl rfl rfl (Nat.le_of_ble_eq_true rfl) (by first | decide | omega) (Nat.le_of_ble_eq_true rfl) ?_
        refine sp_kof (l := []) K ?_
        show PW _ _ _ 30 [some (.ref 54), some (.int a1), some (.int 0), some (.int a3)] [.int 7, .ref 54] (E (tr 56 435 x []) y)
        refine PW_iload_n c_B_perform_30 rfl ?_
        refine PW_iload_n c_B_perform_31 rfl ?_
        refine PW_iload_n c_B_perform_32 rfl ?_
        refine PW_iconst (v := 0) c_B_perform_33 (by decide) ?_
        refine PW_V0 (d2 := 15) (st := []) [.int 7, .int 0, .int a3, .int a1, .int 0] c_B_perform_34 lk_B_perform_45 (po_54 _ _) rfl rfl rfl (Nat.le_of_ble_eq_true rfl) (by first | decide | omega) (Nat.le_of_ble_eq_true rfl) ?_
        refine PW.deeper (k := (9, 0, 0, z)) (Nat.le_of_ble_eq_true rfl) (Nat.le_refl _) (Nat.le_refl _) ?_
        refine sp_call_7_7_0 (l := []) (d := 0) K rfl (by omega) (by decide) ?_
        show PW _ _ _ 37 [some (.ref 54), some (.int a1), some (.int 0), some (.int a3)] [.int (((a3 + a1) * 2) - 1)] (E (tr 56 435 x (1 :: 70 :: 81 :: [])) y)
        refine PW_ireturn (ty := .int) c_B_perform_37 rfl rfl ?_
        show PW _ _ _ 10 [some (.ref 5), some (.int a1), some (.int 0), some (.int a3)] [.int (((a3 + a1) * 2) - 1)] (E (tr 56 435 x (1 :: 70 :: 81 :: [])) y)
        refine PW_ireturn (ty := .int) c_G_act_10 rfl rfl ?_
        exact h
      · refine PW.deeper (k := (9, 0, 0, z)) (Nat.le_of_ble_eq_true rfl) (Nat.le_refl _) (Nat.le_refl _) ?_
        refine PW_aload_n c_M_act_0 rfl ?_
        refine PW_iconst (v := 0) c_M_act_1 (by decide) ?_
        refine PW_put (w2 := E (tr 56 435 x (1 :: 70 :: 81 :: [])) (sI y 611 0)) c_M_act_2 fp_M_act_358 rfl (pf_70_51 _ _ _) ?_
        refine PW_aload_n c_M_act_5 rfl ?_
        refine PW_iload_n c_M_act_6 rfl ?_
        refine PW_V0 (d2 := 1) (st := []) [.int a1] c_M_act_7 lk_M_act_397 (po_70 _ _) rfl rfl rfl (Nat.le_of_ble_eq_true rfl) (by first | decide | omega) (Nat.le_of_ble_eq_true rfl) ?_
        refine sp_M_isBody2 hB ?_
        show PW _ _ _ 10 [some (.ref 70), some (.int a1), some (.int 0), some (.int a3)] [.int (b2i (0 ≤ a1.toInt ∧ a1.toInt < (nB (sI y 611 0) : Int)))] (E (tr 56 435 x (1 :: 70 :: 81 :: [])) (sI y 611 0))
        refine PW_if_eq c_M_act_10 (fun h0 => absurd hc0 (b2i_0.mp h0)) (fun _ => ?_)
        refine PW_iload_n c_M_act_13 rfl ?_
        refine PW_iconst (v := 0) c_M_act_14 (by decide) ?_
        refine PW_iconst (v := 3) c_M_act_15 (by decide) ?_
        refine PW_S0 (d2 := 0) (st := []) [.int 0, .int 0, .int 3] c_M_act_16 lk_M_act_131 rfl rfl rfl (Nat.le_of_ble_eq_true rfl) (by first | decide | omega) (Nat.le_of_ble_eq_true rfl) ?_
        refine sp_M_within  ?_
        show PW _ _ _ 19 [some (.ref 70), some (.int a1), some (.int 0), some (.int a3)] [.int (b2i ((0 : Int32) ≤ (0 : Int32) ∧ (0 : Int32) ≤ (3 : Int32)))] (E (tr 56 435 x (1 :: 70 :: 81 :: [])) (sI y 611 0))
        refine PW_if_ne c_M_act_19 (fun _ => ?_) (fun h1 => absurd (by decide) (b2i_0.mp h1))
        rw [← tr_nil 103 611 y]
        show PW _ _ _ 24 [some (.ref 70), some (.int a1), some (.int 0), some (.int a3)] [] (E (tr 56 435 x (1 :: 70 :: 81 :: [])) (tr 103 611 y []))
        refine PW_iload_n c_M_act_24 rfl ?_
        refine PW_if_ne c_M_act_25 (fun h2 => absurd (by decide) h2) (fun _ => ?_)
        refine PW_aload_n c_M_act_28 rfl ?_
        refine PW_iload_n c_M_act_29 rfl ?_
        refine PW_iload_n c_M_act_30 rfl ?_
        refine PW_V0 (d2 := 3) (st := []) [.int a1, .int a3] c_M_act_31 lk_M_act_373 (po_70 _ _) rfl rfl rfl (Nat.le_of_ble_eq_true rfl) (by first | decide | omega) (Nat.le_of_ble_eq_true rfl) ?_
        refine sp_M_saying_7 (l := []) K2 (by decide) ?_
        show PW _ _ _ 34 [some (.ref 70), some (.int a1), some (.int 0), some (.int a3)] [.int (((a3 + a1) * 2) - 1)] (E (tr 56 435 x (1 :: 70 :: 81 :: [])) (tr 103 611 y (1 :: 70 :: 81 :: [])))
        refine PW_goto c_M_act_34 ?_
        refine PW_ireturn (ty := .int) c_M_act_71 rfl rfl ?_
        exact h
  by_cases hw1 : a2 = 1
  · subst hw1
    have hbn : (y.1 609).toInt = nB y := by rw [hB.1, nI_toInt (by have := hB.2; omega)]
    obtain ⟨f1, f2, f3⟩ := hbk a1.toNatClampNeg (by show a1.toInt.toNat < nB y; omega)
    obtain ⟨u, u1, u2, u3, u4⟩ := nI_ex f2
    have hu8 : u < 8 := by omega
    have hB50 := hB.2
    have K : kb x a1 (nI u) := ⟨⟨hc0.1, by rw [hbx, hbn]; exact hc0.2⟩, by omega, by rw [f1]; exact u2⟩
    have K2 : km y a1 (nI u) := ⟨⟨hc0.1, by omega⟩, u2⟩
    rcases (show u = 0 ∨ u = 1 ∨ u = 2 ∨ u = 3 ∨ u = 4 ∨ u = 5 ∨ u = 6 ∨ u = 7 by omega) with rfl | rfl | rfl | rfl | rfl | rfl | rfl | rfl
    · refine ⟨(a3 + a1) * 2, tr 56 435 x (1 :: 10 :: []), tr 103 611 y (1 :: 10 :: []), ?_, fun {z post} h => ?_, fun {z post} h => ?_⟩
      · exact INV_step (INV_tr hI _ (by decide))
      · refine PW.deeper (k := (17, 0, 0, z)) (Nat.le_of_ble_eq_true rfl) (Nat.le_refl _) (Nat.le_refl _) ?_
        refine PW_aload_n c_G_act_0 rfl ?_
        refine PW_get (v := .ref 54) c_G_act_1 fl_G_79 (gf_5_9 _ _) ?_
        refine PW_iload_n c_G_act_4 rfl ?_
        refine PW_iload_n c_G_act_5 rfl ?_
        refine PW_iload_n c_G_act_6 rfl ?_
        refine PW_V0 (d2 := 16) (st := []) [.int a1, .int 1, .int a3] c_G_act_7 lk_G_act_305 (po_54 _ _) rfl rfl rfl (Nat.le_of_ble_eq_true rfl) (by first | decide | omega) (Nat.le_of_ble_eq_true rfl) ?_
        show PW _ _ _ 0 [some (.ref 54), some (.int a1), some (.int 1), some (.int a3)] [] (E x y)
        refine PW_aload_n c_B_perform_0 rfl ?_
        refine PW_iconst (v := 0) c_B_perform_1 (by decide) ?_
        refine PW_put (w2 := E (sI x 435 0) y) c_B_perform_2 fp_B_perform_36 rfl (pf_54_3 _ _ _) ?_
        refine PW_aload_n c_B_perform_5 rfl ?_
        refine PW_iload_n c_B_perform_6 rfl ?_
        refine PW_V0 (d2 := 0) (st := []) [.int a1] c_B_perform_7 lk_B_perform_39 (po_54 _ _) rfl rfl rfl (Nat.le_of_ble_eq_true rfl) (by first | decide | omega) (Nat.le_of_ble_eq_true rfl) ?_
        refine sp_B_isBody hB hbx ?_
        show PW _ _ _ 10 [some (.ref 54), some (.int a1), some (.int 1), some (.int a3)] [.int (b2i (0 ≤ a1.toInt ∧ a1.toInt < (nB y : Int)))] (E (sI x 435 0) y)
        refine PW_if_eq c_B_perform_10 (fun h0 => absurd hc0 (b2i_0.mp h0)) (fun _ => ?_)
        refine PW_iload_n c_B_perform_13 rfl ?_
        refine PW_if_lt c_B_perform_14 (fun h1 => absurd h1 (by decide)) (fun _ => ?_)
        refine PW_iload_n c_B_perform_17 rfl ?_
        refine PW_iconst (v := 4) c_B_perform_18 (by decide) ?_
        refine PW_icmp_lt c_B_perform_19 (fun _ => ?_) (fun h2 => absurd (by decide) h2)
        rw [← tr_nil 56 435 x]
        show PW _ _ _ 24 [some (.ref 54), some (.int a1), some (.int 1), some (.int a3)] [] (E (tr 56 435 x []) y)
        refine PW_aload_n c_B_perform_24 rfl ?_
        refine PW_aload_n c_B_perform_25 rfl ?_
        refine PW_iload_n c_B_perform_26 rfl ?_
        refine PW_V0 (d2 := 1) (st := [.ref 54]) [.int a1] c_B_perform_27 lk_B_perform_42 (po_54 _ _) rfl rfl rfl (Nat.le_of_ble_eq_true rfl) (by first | decide | omega) (Nat.le_of_ble_eq_true rfl) ?_
        refine sp_kof (l := []) K ?_
        show PW _ _ _ 30 [some (.ref 54), some (.int a1), some (.int 1), some (.int a3)] [.int 0, .ref 54] (E (tr 56 435 x []) y)
        refine PW_iload_n c_B_perform_30 rfl ?_
        refine PW_iload_n c_B_perform_31 rfl ?_
        refine PW_iload_n c_B_perform_32 rfl ?_
        refine PW_iconst (v := 0) c_B_perform_33 (by decide) ?_
        refine PW_V0 (d2 := 15) (st := []) [.int 0, .int 1, .int a3, .int a1, .int 0] c_B_perform_34 lk_B_perform_45 (po_54 _ _) rfl rfl rfl (Nat.le_of_ble_eq_true rfl) (by first | decide | omega) (Nat.le_of_ble_eq_true rfl) ?_
        refine PW.deeper (k := (7, 0, 0, z)) (Nat.le_of_ble_eq_true rfl) (Nat.le_refl _) (Nat.le_refl _) ?_
        refine sp_call_0_0_1 (l := []) (d := 0) K rfl (by omega) (by decide) ?_
        show PW _ _ _ 37 [some (.ref 54), some (.int a1), some (.int 1), some (.int a3)] [.int ((a3 + a1) * 2)] (E (tr 56 435 x (1 :: 10 :: [])) y)
        refine PW_ireturn (ty := .int) c_B_perform_37 rfl rfl ?_
        show PW _ _ _ 10 [some (.ref 5), some (.int a1), some (.int 1), some (.int a3)] [.int ((a3 + a1) * 2)] (E (tr 56 435 x (1 :: 10 :: [])) y)
        refine PW_ireturn (ty := .int) c_G_act_10 rfl rfl ?_
        exact h
      · refine PW.deeper (k := (9, 0, 0, z)) (Nat.le_of_ble_eq_true rfl) (Nat.le_refl _) (Nat.le_refl _) ?_
        refine PW_aload_n c_M_act_0 rfl ?_
        refine PW_iconst (v := 0) c_M_act_1 (by decide) ?_
        refine PW_put (w2 := E (tr 56 435 x (1 :: 10 :: [])) (sI y 611 0)) c_M_act_2 fp_M_act_358 rfl (pf_70_51 _ _ _) ?_
        refine PW_aload_n c_M_act_5 rfl ?_
        refine PW_iload_n c_M_act_6 rfl ?_
        refine PW_V0 (d2 := 1) (st := []) [.int a1] c_M_act_7 lk_M_act_397 (po_70 _ _) rfl rfl rfl (Nat.le_of_ble_eq_true rfl) (by first | decide | omega) (Nat.le_of_ble_eq_true rfl) ?_
        refine sp_M_isBody2 hB ?_
        show PW _ _ _ 10 [some (.ref 70), some (.int a1), some (.int 1), some (.int a3)] [.int (b2i (0 ≤ a1.toInt ∧ a1.toInt < (nB (sI y 611 0) : Int)))] (E (tr 56 435 x (1 :: 10 :: [])) (sI y 611 0))
        refine PW_if_eq c_M_act_10 (fun h0 => absurd hc0 (b2i_0.mp h0)) (fun _ => ?_)
        refine PW_iload_n c_M_act_13 rfl ?_
        refine PW_iconst (v := 0) c_M_act_14 (by decide) ?_
        refine PW_iconst (v := 3) c_M_act_15 (by decide) ?_
        refine PW_S0 (d2 := 0) (st := []) [.int 1, .int 0, .int 3] c_M_act_16 lk_M_act_131 rfl rfl rfl (Nat.le_of_ble_eq_true rfl) (by first | decide | omega) (Nat.le_of_ble_eq_true rfl) ?_
        refine sp_M_within  ?_
        show PW _ _ _ 19 [some (.ref 70), some (.int a1), some (.int 1), some (.int a3)] [.int (b2i ((0 : Int32) ≤ (1 : Int32) ∧ (1 : Int32) ≤ (3 : Int32)))] (E (tr 56 435 x (1 :: 10 :: [])) (sI y 611 0))
        refine PW_if_ne c_M_act_19 (fun _ => ?_) (fun h1 => absurd (by decide) (b2i_0.mp h1))
        rw [← tr_nil 103 611 y]
        show PW _ _ _ 24 [some (.ref 70), some (.int a1), some (.int 1), some (.int a3)] [] (E (tr 56 435 x (1 :: 10 :: [])) (tr 103 611 y []))
        refine PW_iload_n c_M_act_24 rfl ?_
        refine PW_if_ne c_M_act_25 (fun _ => ?_) (fun h2 => absurd h2 (by decide))
        refine PW_iload_n c_M_act_37 rfl ?_
        refine PW_iconst (v := 1) c_M_act_38 (by decide) ?_
        refine PW_icmp_ne c_M_act_39 (fun h3 => absurd (by decide) h3) (fun _ => ?_)
        refine PW_aload_n c_M_act_42 rfl ?_
        refine PW_iload_n c_M_act_43 rfl ?_
        refine PW_iload_n c_M_act_44 rfl ?_
        refine PW_V0 (d2 := 6) (st := []) [.int a1, .int a3] c_M_act_45 lk_M_act_391 (po_70 _ _) rfl rfl rfl (Nat.le_of_ble_eq_true rfl) (by first | decide | omega) (Nat.le_of_ble_eq_true rfl) ?_
        refine sp_M_staying_0 (l := []) K2 (by decide) ?_
        show PW _ _ _ 48 [some (.ref 70), some (.int a1), some (.int 1), some (.int a3)] [.int ((a3 + a1) * 2)] (E (tr 56 435 x (1 :: 10 :: [])) (tr 103 611 y (1 :: 10 :: [])))
        refine PW_goto c_M_act_48 ?_
        refine PW_ireturn (ty := .int) c_M_act_71 rfl rfl ?_
        exact h
    · refine ⟨((a3 + a1) + 3) * 2, tr 56 435 x (1 :: 20 :: 10 :: []), tr 103 611 y (1 :: 20 :: 10 :: []), ?_, fun {z post} h => ?_, fun {z post} h => ?_⟩
      · exact INV_step (INV_tr hI _ (by decide))
      · refine PW.deeper (k := (17, 0, 0, z)) (Nat.le_of_ble_eq_true rfl) (Nat.le_refl _) (Nat.le_refl _) ?_
        refine PW_aload_n c_G_act_0 rfl ?_
        refine PW_get (v := .ref 54) c_G_act_1 fl_G_79 (gf_5_9 _ _) ?_
        refine PW_iload_n c_G_act_4 rfl ?_
        refine PW_iload_n c_G_act_5 rfl ?_
        refine PW_iload_n c_G_act_6 rfl ?_
        refine PW_V0 (d2 := 16) (st := []) [.int a1, .int 1, .int a3] c_G_act_7 lk_G_act_305 (po_54 _ _) rfl rfl rfl (Nat.le_of_ble_eq_true rfl) (by first | decide | omega) (Nat.le_of_ble_eq_true rfl) ?_
        show PW _ _ _ 0 [some (.ref 54), some (.int a1), some (.int 1), some (.int a3)] [] (E x y)
        refine PW_aload_n c_B_perform_0 rfl ?_
        refine PW_iconst (v := 0) c_B_perform_1 (by decide) ?_
        refine PW_put (w2 := E (sI x 435 0) y) c_B_perform_2 fp_B_perform_36 rfl (pf_54_3 _ _ _) ?_
        refine PW_aload_n c_B_perform_5 rfl ?_
        refine PW_iload_n c_B_perform_6 rfl ?_
        refine PW_V0 (d2 := 0) (st := []) [.int a1] c_B_perform_7 lk_B_perform_39 (po_54 _ _) rfl rfl rfl (Nat.le_of_ble_eq_true rfl) (by first | decide | omega) (Nat.le_of_ble_eq_true rfl) ?_
        refine sp_B_isBody hB hbx ?_
        show PW _ _ _ 10 [some (.ref 54), some (.int a1), some (.int 1), some (.int a3)] [.int (b2i (0 ≤ a1.toInt ∧ a1.toInt < (nB y : Int)))] (E (sI x 435 0) y)
        refine PW_if_eq c_B_perform_10 (fun h0 => absurd hc0 (b2i_0.mp h0)) (fun _ => ?_)
        refine PW_iload_n c_B_perform_13 rfl ?_
        refine PW_if_lt c_B_perform_14 (fun h1 => absurd h1 (by decide)) (fun _ => ?_)
        refine PW_iload_n c_B_perform_17 rfl ?_
        refine PW_iconst (v := 4) c_B_perform_18 (by decide) ?_
        refine PW_icmp_lt c_B_perform_19 (fun _ => ?_) (fun h2 => absurd (by decide) h2)
        rw [← tr_nil 56 435 x]
        show PW _ _ _ 24 [some (.ref 54), some (.int a1), some (.int 1), some (.int a3)] [] (E (tr 56 435 x []) y)
        refine PW_aload_n c_B_perform_24 rfl ?_
        refine PW_aload_n c_B_perform_25 rfl ?_
        refine PW_iload_n c_B_perform_26 rfl ?_
        refine PW_V0 (d2 := 1) (st := [.ref 54]) [.int a1] c_B_perform_27 lk_B_perform_42 (po_54 _ _) rfl rfl rfl (Nat.le_of_ble_eq_true rfl) (by first | decide | omega) (Nat.le_of_ble_eq_true rfl) ?_
        refine sp_kof (l := []) K ?_
        show PW _ _ _ 30 [some (.ref 54), some (.int a1), some (.int 1), some (.int a3)] [.int 1, .ref 54] (E (tr 56 435 x []) y)
        refine PW_iload_n c_B_perform_30 rfl ?_
        refine PW_iload_n c_B_perform_31 rfl ?_
        refine PW_iload_n c_B_perform_32 rfl ?_
        refine PW_iconst (v := 0) c_B_perform_33 (by decide) ?_
        refine PW_V0 (d2 := 15) (st := []) [.int 1, .int 1, .int a3, .int a1, .int 0] c_B_perform_34 lk_B_perform_45 (po_54 _ _) rfl rfl rfl (Nat.le_of_ble_eq_true rfl) (by first | decide | omega) (Nat.le_of_ble_eq_true rfl) ?_
        refine PW.deeper (k := (9, 0, 0, z)) (Nat.le_of_ble_eq_true rfl) (Nat.le_refl _) (Nat.le_refl _) ?_
        refine sp_call_1_1_1 (l := []) (d := 0) K rfl (by omega) (by decide) ?_
        show PW _ _ _ 37 [some (.ref 54), some (.int a1), some (.int 1), some (.int a3)] [.int (((a3 + a1) + 3) * 2)] (E (tr 56 435 x (1 :: 20 :: 10 :: [])) y)
        refine PW_ireturn (ty := .int) c_B_perform_37 rfl rfl ?_
        show PW _ _ _ 10 [some (.ref 5), some (.int a1), some (.int 1), some (.int a3)] [.int (((a3 + a1) + 3) * 2)] (E (tr 56 435 x (1 :: 20 :: 10 :: [])) y)
        refine PW_ireturn (ty := .int) c_G_act_10 rfl rfl ?_
        exact h
      · refine PW.deeper (k := (9, 0, 0, z)) (Nat.le_of_ble_eq_true rfl) (Nat.le_refl _) (Nat.le_refl _) ?_
        refine PW_aload_n c_M_act_0 rfl ?_
        refine PW_iconst (v := 0) c_M_act_1 (by decide) ?_
        refine PW_put (w2 := E (tr 56 435 x (1 :: 20 :: 10 :: [])) (sI y 611 0)) c_M_act_2 fp_M_act_358 rfl (pf_70_51 _ _ _) ?_
        refine PW_aload_n c_M_act_5 rfl ?_
        refine PW_iload_n c_M_act_6 rfl ?_
        refine PW_V0 (d2 := 1) (st := []) [.int a1] c_M_act_7 lk_M_act_397 (po_70 _ _) rfl rfl rfl (Nat.le_of_ble_eq_true rfl) (by first | decide | omega) (Nat.le_of_ble_eq_true rfl) ?_
        refine sp_M_isBody2 hB ?_
        show PW _ _ _ 10 [some (.ref 70), some (.int a1), some (.int 1), some (.int a3)] [.int (b2i (0 ≤ a1.toInt ∧ a1.toInt < (nB (sI y 611 0) : Int)))] (E (tr 56 435 x (1 :: 20 :: 10 :: [])) (sI y 611 0))
        refine PW_if_eq c_M_act_10 (fun h0 => absurd hc0 (b2i_0.mp h0)) (fun _ => ?_)
        refine PW_iload_n c_M_act_13 rfl ?_
        refine PW_iconst (v := 0) c_M_act_14 (by decide) ?_
        refine PW_iconst (v := 3) c_M_act_15 (by decide) ?_
        refine PW_S0 (d2 := 0) (st := []) [.int 1, .int 0, .int 3] c_M_act_16 lk_M_act_131 rfl rfl rfl (Nat.le_of_ble_eq_true rfl) (by first | decide | omega) (Nat.le_of_ble_eq_true rfl) ?_
        refine sp_M_within  ?_
        show PW _ _ _ 19 [some (.ref 70), some (.int a1), some (.int 1), some (.int a3)] [.int (b2i ((0 : Int32) ≤ (1 : Int32) ∧ (1 : Int32) ≤ (3 : Int32)))] (E (tr 56 435 x (1 :: 20 :: 10 :: [])) (sI y 611 0))
        refine PW_if_ne c_M_act_19 (fun _ => ?_) (fun h1 => absurd (by decide) (b2i_0.mp h1))
        rw [← tr_nil 103 611 y]
        show PW _ _ _ 24 [some (.ref 70), some (.int a1), some (.int 1), some (.int a3)] [] (E (tr 56 435 x (1 :: 20 :: 10 :: [])) (tr 103 611 y []))
        refine PW_iload_n c_M_act_24 rfl ?_
        refine PW_if_ne c_M_act_25 (fun _ => ?_) (fun h2 => absurd h2 (by decide))
        refine PW_iload_n c_M_act_37 rfl ?_
        refine PW_iconst (v := 1) c_M_act_38 (by decide) ?_
        refine PW_icmp_ne c_M_act_39 (fun h3 => absurd (by decide) h3) (fun _ => ?_)
        refine PW_aload_n c_M_act_42 rfl ?_
        refine PW_iload_n c_M_act_43 rfl ?_
        refine PW_iload_n c_M_act_44 rfl ?_
        refine PW_V0 (d2 := 6) (st := []) [.int a1, .int a3] c_M_act_45 lk_M_act_391 (po_70 _ _) rfl rfl rfl (Nat.le_of_ble_eq_true rfl) (by first | decide | omega) (Nat.le_of_ble_eq_true rfl) ?_
        refine sp_M_staying_1 (l := []) K2 (by decide) ?_
        show PW _ _ _ 48 [some (.ref 70), some (.int a1), some (.int 1), some (.int a3)] [.int (((a3 + a1) + 3) * 2)] (E (tr 56 435 x (1 :: 20 :: 10 :: [])) (tr 103 611 y (1 :: 20 :: 10 :: [])))
        refine PW_goto c_M_act_48 ?_
        refine PW_ireturn (ty := .int) c_M_act_71 rfl rfl ?_
        exact h
    · refine ⟨-((a3 + a1) * 2), tr 56 435 x (1 :: 10 :: 30 :: []), tr 103 611 y (1 :: 10 :: 30 :: []), ?_, fun {z post} h => ?_, fun {z post} h => ?_⟩
      · exact INV_step (INV_tr hI _ (by decide))
      · refine PW.deeper (k := (17, 0, 0, z)) (Nat.le_of_ble_eq_true rfl) (Nat.le_refl _) (Nat.le_refl _) ?_
        refine PW_aload_n c_G_act_0 rfl ?_
        refine PW_get (v := .ref 54) c_G_act_1 fl_G_79 (gf_5_9 _ _) ?_
        refine PW_iload_n c_G_act_4 rfl ?_
        refine PW_iload_n c_G_act_5 rfl ?_
        refine PW_iload_n c_G_act_6 rfl ?_
        refine PW_V0 (d2 := 16) (st := []) [.int a1, .int 1, .int a3] c_G_act_7 lk_G_act_305 (po_54 _ _) rfl rfl rfl (Nat.le_of_ble_eq_true rfl) (by first | decide | omega) (Nat.le_of_ble_eq_true rfl) ?_
        show PW _ _ _ 0 [some (.ref 54), some (.int a1), some (.int 1), some (.int a3)] [] (E x y)
        refine PW_aload_n c_B_perform_0 rfl ?_
        refine PW_iconst (v := 0) c_B_perform_1 (by decide) ?_
        refine PW_put (w2 := E (sI x 435 0) y) c_B_perform_2 fp_B_perform_36 rfl (pf_54_3 _ _ _) ?_
        refine PW_aload_n c_B_perform_5 rfl ?_
        refine PW_iload_n c_B_perform_6 rfl ?_
        refine PW_V0 (d2 := 0) (st := []) [.int a1] c_B_perform_7 lk_B_perform_39 (po_54 _ _) rfl rfl rfl (Nat.le_of_ble_eq_true rfl) (by first | decide | omega) (Nat.le_of_ble_eq_true rfl) ?_
        refine sp_B_isBody hB hbx ?_
        show PW _ _ _ 10 [some (.ref 54), some (.int a1), some (.int 1), some (.int a3)] [.int (b2i (0 ≤ a1.toInt ∧ a1.toInt < (nB y : Int)))] (E (sI x 435 0) y)
        refine PW_if_eq c_B_perform_10 (fun h0 => absurd hc0 (b2i_0.mp h0)) (fun _ => ?_)
        refine PW_iload_n c_B_perform_13 rfl ?_
        refine PW_if_lt c_B_perform_14 (fun h1 => absurd h1 (by decide)) (fun _ => ?_)
        refine PW_iload_n c_B_perform_17 rfl ?_
        refine PW_iconst (v := 4) c_B_perform_18 (by decide) ?_
        refine PW_icmp_lt c_B_perform_19 (fun _ => ?_) (fun h2 => absurd (by decide) h2)
        rw [← tr_nil 56 435 x]
        show PW _ _ _ 24 [some (.ref 54), some (.int a1), some (.int 1), some (.int a3)] [] (E (tr 56 435 x []) y)
        refine PW_aload_n c_B_perform_24 rfl ?_
        refine PW_aload_n c_B_perform_25 rfl ?_
        refine PW_iload_n c_B_perform_26 rfl ?_
        refine PW_V0 (d2 := 1) (st := [.ref 54]) [.int a1] c_B_perform_27 lk_B_perform_42 (po_54 _ _) rfl rfl rfl (Nat.le_of_ble_eq_true rfl) (by first | decide | omega) (Nat.le_of_ble_eq_true rfl) ?_
        refine sp_kof (l := []) K ?_
        show PW _ _ _ 30 [some (.ref 54), some (.int a1), some (.int 1), some (.int a3)] [.int 2, .ref 54] (E (tr 56 435 x []) y)
        refine PW_iload_n c_B_perform_30 rfl ?_
        refine PW_iload_n c_B_perform_31 rfl ?_
        refine PW_iload_n c_B_perform_32 rfl ?_
        refine PW_iconst (v := 0) c_B_perform_33 (by decide) ?_
        refine PW_V0 (d2 := 15) (st := []) [.int 2, .int 1, .int a3, .int a1, .int 0] c_B_perform_34 lk_B_perform_45 (po_54 _ _) rfl rfl rfl (Nat.le_of_ble_eq_true rfl) (by first | decide | omega) (Nat.le_of_ble_eq_true rfl) ?_
        refine PW.deeper (k := (9, 0, 0, z)) (Nat.le_of_ble_eq_true rfl) (Nat.le_refl _) (Nat.le_refl _) ?_
        refine sp_call_2_2_1 (l := []) (d := 0) K rfl (by omega) (by decide) ?_
        show PW _ _ _ 37 [some (.ref 54), some (.int a1), some (.int 1), some (.int a3)] [.int (-((a3 + a1) * 2))] (E (tr 56 435 x (1 :: 10 :: 30 :: [])) y)
        refine PW_ireturn (ty := .int) c_B_perform_37 rfl rfl ?_
        show PW _ _ _ 10 [some (.ref 5), some (.int a1), some (.int 1), some (.int a3)] [.int (-((a3 + a1) * 2))] (E (tr 56 435 x (1 :: 10 :: 30 :: [])) y)
        refine PW_ireturn (ty := .int) c_G_act_10 rfl rfl ?_
        exact h
      · refine PW.deeper (k := (9, 0, 0, z)) (Nat.le_of_ble_eq_true rfl) (Nat.le_refl _) (Nat.le_refl _) ?_
        refine PW_aload_n c_M_act_0 rfl ?_
        refine PW_iconst (v := 0) c_M_act_1 (by decide) ?_
        refine PW_put (w2 := E (tr 56 435 x (1 :: 10 :: 30 :: [])) (sI y 611 0)) c_M_act_2 fp_M_act_358 rfl (pf_70_51 _ _ _) ?_
        refine PW_aload_n c_M_act_5 rfl ?_
        refine PW_iload_n c_M_act_6 rfl ?_
        refine PW_V0 (d2 := 1) (st := []) [.int a1] c_M_act_7 lk_M_act_397 (po_70 _ _) rfl rfl rfl (Nat.le_of_ble_eq_true rfl) (by first | decide | omega) (Nat.le_of_ble_eq_true rfl) ?_
        refine sp_M_isBody2 hB ?_
        show PW _ _ _ 10 [some (.ref 70), some (.int a1), some (.int 1), some (.int a3)] [.int (b2i (0 ≤ a1.toInt ∧ a1.toInt < (nB (sI y 611 0) : Int)))] (E (tr 56 435 x (1 :: 10 :: 30 :: [])) (sI y 611 0))
        refine PW_if_eq c_M_act_10 (fun h0 => absurd hc0 (b2i_0.mp h0)) (fun _ => ?_)
        refine PW_iload_n c_M_act_13 rfl ?_
        refine PW_iconst (v := 0) c_M_act_14 (by decide) ?_
        refine PW_iconst (v := 3) c_M_act_15 (by decide) ?_
        refine PW_S0 (d2 := 0) (st := []) [.int 1, .int 0, .int 3] c_M_act_16 lk_M_act_131 rfl rfl rfl (Nat.le_of_ble_eq_true rfl) (by first | decide | omega) (Nat.le_of_ble_eq_true rfl) ?_
        refine sp_M_within  ?_
        show PW _ _ _ 19 [some (.ref 70), some (.int a1), some (.int 1), some (.int a3)] [.int (b2i ((0 : Int32) ≤ (1 : Int32) ∧ (1 : Int32) ≤ (3 : Int32)))] (E (tr 56 435 x (1 :: 10 :: 30 :: [])) (sI y 611 0))
        refine PW_if_ne c_M_act_19 (fun _ => ?_) (fun h1 => absurd (by decide) (b2i_0.mp h1))
        rw [← tr_nil 103 611 y]
        show PW _ _ _ 24 [some (.ref 70), some (.int a1), some (.int 1), some (.int a3)] [] (E (tr 56 435 x (1 :: 10 :: 30 :: [])) (tr 103 611 y []))
        refine PW_iload_n c_M_act_24 rfl ?_
        refine PW_if_ne c_M_act_25 (fun _ => ?_) (fun h2 => absurd h2 (by decide))
        refine PW_iload_n c_M_act_37 rfl ?_
        refine PW_iconst (v := 1) c_M_act_38 (by decide) ?_
        refine PW_icmp_ne c_M_act_39 (fun h3 => absurd (by decide) h3) (fun _ => ?_)
        refine PW_aload_n c_M_act_42 rfl ?_
        refine PW_iload_n c_M_act_43 rfl ?_
        refine PW_iload_n c_M_act_44 rfl ?_
        refine PW_V0 (d2 := 6) (st := []) [.int a1, .int a3] c_M_act_45 lk_M_act_391 (po_70 _ _) rfl rfl rfl (Nat.le_of_ble_eq_true rfl) (by first | decide | omega) (Nat.le_of_ble_eq_true rfl) ?_
        refine sp_M_staying_2 (l := []) K2 (by decide) ?_
        show PW _ _ _ 48 [some (.ref 70), some (.int a1), some (.int 1), some (.int a3)] [.int (-((a3 + a1) * 2))] (E (tr 56 435 x (1 :: 10 :: 30 :: [])) (tr 103 611 y (1 :: 10 :: 30 :: [])))
        refine PW_goto c_M_act_48 ?_
        refine PW_ireturn (ty := .int) c_M_act_71 rfl rfl ?_
        exact h
    · refine ⟨-(((a3 + 1) + a1) * 2), tr 56 435 x (1 :: 10 :: 30 :: 41 :: []), tr 103 611 y (1 :: 10 :: 30 :: 41 :: []), ?_, fun {z post} h => ?_, fun {z post} h => ?_⟩
      · exact INV_step (INV_tr hI _ (by decide))
      · refine PW.deeper (k := (17, 0, 0, z)) (Nat.le_of_ble_eq_true rfl) (Nat.le_refl _) (Nat.le_refl _) ?_
        refine PW_aload_n c_G_act_0 rfl ?_
        refine PW_get (v := .ref 54) c_G_act_1 fl_G_79 (gf_5_9 _ _) ?_
        refine PW_iload_n c_G_act_4 rfl ?_
        refine PW_iload_n c_G_act_5 rfl ?_
        refine PW_iload_n c_G_act_6 rfl ?_
        refine PW_V0 (d2 := 16) (st := []) [.int a1, .int 1, .int a3] c_G_act_7 lk_G_act_305 (po_54 _ _) rfl rfl rfl (Nat.le_of_ble_eq_true rfl) (by first | decide | omega) (Nat.le_of_ble_eq_true rfl) ?_
        show PW _ _ _ 0 [some (.ref 54), some (.int a1), some (.int 1), some (.int a3)] [] (E x y)
        refine PW_aload_n c_B_perform_0 rfl ?_
        refine PW_iconst (v := 0) c_B_perform_1 (by decide) ?_
        refine PW_put (w2 := E (sI x 435 0) y) c_B_perform_2 fp_B_perform_36 rfl (pf_54_3 _ _ _) ?_
        refine PW_aload_n c_B_perform_5 rfl ?_
        refine PW_iload_n c_B_perform_6 rfl ?_
        refine PW_V0 (d2 := 0) (st := []) [.int a1] c_B_perform_7 lk_B_perform_39 (po_54 _ _) rfl rfl rfl (Nat.le_of_ble_eq_true rfl) (by first | decide | omega) (Nat.le_of_ble_eq_true rfl) ?_
        refine sp_B_isBody hB hbx ?_
        show PW _ _ _ 10 [some (.ref 54), some (.int a1), some (.int 1), some (.int a3)] [.int (b2i (0 ≤ a1.toInt ∧ a1.toInt < (nB y : Int)))] (E (sI x 435 0) y)
        refine PW_if_eq c_B_perform_10 (fun h0 => absurd hc0 (b2i_0.mp h0)) (fun _ => ?_)
        refine PW_iload_n c_B_perform_13 rfl ?_
        refine PW_if_lt c_B_perform_14 (fun h1 => absurd h1 (by decide)) (fun _ => ?_)
        refine PW_iload_n c_B_perform_17 rfl ?_
        refine PW_iconst (v := 4) c_B_perform_18 (by decide) ?_
        refine PW_icmp_lt c_B_perform_19 (fun _ => ?_) (fun h2 => absurd (by decide) h2)
        rw [← tr_nil 56 435 x]
        show PW _ _ _ 24 [some (.ref 54), some (.int a1), some (.int 1), some (.int a3)] [] (E (tr 56 435 x []) y)
        refine PW_aload_n c_B_perform_24 rfl ?_
        refine PW_aload_n c_B_perform_25 rfl ?_
        refine PW_iload_n c_B_perform_26 rfl ?_
        refine PW_V0 (d2 := 1) (st := [.ref 54]) [.int a1] c_B_perform_27 lk_B_perform_42 (po_54 _ _) rfl rfl rfl (Nat.le_of_ble_eq_true rfl) (by first | decide | omega) (Nat.le_of_ble_eq_true rfl) ?_
        refine sp_kof (l := []) K ?_
        show PW _ _ _ 30 [some (.ref 54), some (.int a1), some (.int 1), some (.int a3)] [.int 3, .ref 54] (E (tr 56 435 x []) y)
        refine PW_iload_n c_B_perform_30 rfl ?_
        refine PW_iload_n c_B_perform_31 rfl ?_
        refine PW_iload_n c_B_perform_32 rfl ?_
        refine PW_iconst (v := 0) c_B_perform_33 (by decide) ?_
        refine PW_V0 (d2 := 15) (st := []) [.int 3, .int 1, .int a3, .int a1, .int 0] c_B_perform_34 lk_B_perform_45 (po_54 _ _) rfl rfl rfl (Nat.le_of_ble_eq_true rfl) (by first | decide | omega) (Nat.le_of_ble_eq_true rfl) ?_
        refine PW.deeper (k := (11, 0, 0, z)) (Nat.le_of_ble_eq_true rfl) (Nat.le_refl _) (Nat.le_refl _) ?_
        refine sp_call_3_3_1 (l := []) (d := 0) K rfl (by omega) (by decide) ?_
        show PW _ _ _ 37 [some (.ref 54), some (.int a1), some (.int 1), some (.int a3)] [.int (-(((a3 + 1) + a1) * 2))] (E (tr 56 435 x (1 :: 10 :: 30 :: 41 :: [])) y)
        refine PW_ireturn (ty := .int) c_B_perform_37 rfl rfl ?_
        show PW _ _ _ 10 [some (.ref 5), some (.int a1), some (.int 1), some (.int a3)] [.int (-(((a3 + 1) + a1) * 2))] (E (tr 56 435 x (1 :: 10 :: 30 :: 41 :: [])) y)
        refine PW_ireturn (ty := .int) c_G_act_10 rfl rfl ?_
        exact h
      · refine PW.deeper (k := (9, 0, 0, z)) (Nat.le_of_ble_eq_true rfl) (Nat.le_refl _) (Nat.le_refl _) ?_
        refine PW_aload_n c_M_act_0 rfl ?_
        refine PW_iconst (v := 0) c_M_act_1 (by decide) ?_
        refine PW_put (w2 := E (tr 56 435 x (1 :: 10 :: 30 :: 41 :: [])) (sI y 611 0)) c_M_act_2 fp_M_act_358 rfl (pf_70_51 _ _ _) ?_
        refine PW_aload_n c_M_act_5 rfl ?_
        refine PW_iload_n c_M_act_6 rfl ?_
        refine PW_V0 (d2 := 1) (st := []) [.int a1] c_M_act_7 lk_M_act_397 (po_70 _ _) rfl rfl rfl (Nat.le_of_ble_eq_true rfl) (by first | decide | omega) (Nat.le_of_ble_eq_true rfl) ?_
        refine sp_M_isBody2 hB ?_
        show PW _ _ _ 10 [some (.ref 70), some (.int a1), some (.int 1), some (.int a3)] [.int (b2i (0 ≤ a1.toInt ∧ a1.toInt < (nB (sI y 611 0) : Int)))] (E (tr 56 435 x (1 :: 10 :: 30 :: 41 :: [])) (sI y 611 0))
        refine PW_if_eq c_M_act_10 (fun h0 => absurd hc0 (b2i_0.mp h0)) (fun _ => ?_)
        refine PW_iload_n c_M_act_13 rfl ?_
        refine PW_iconst (v := 0) c_M_act_14 (by decide) ?_
        refine PW_iconst (v := 3) c_M_act_15 (by decide) ?_
        refine PW_S0 (d2 := 0) (st := []) [.int 1, .int 0, .int 3] c_M_act_16 lk_M_act_131 rfl rfl rfl (Nat.le_of_ble_eq_true rfl) (by first | decide | omega) (Nat.le_of_ble_eq_true rfl) ?_
        refine sp_M_within  ?_
        show PW _ _ _ 19 [some (.ref 70), some (.int a1), some (.int 1), some (.int a3)] [.int (b2i ((0 : Int32) ≤ (1 : Int32) ∧ (1 : Int32) ≤ (3 : Int32)))] (E (tr 56 435 x (1 :: 10 :: 30 :: 41 :: [])) (sI y 611 0))
        refine PW_if_ne c_M_act_19 (fun _ => ?_) (fun h1 => absurd (by decide) (b2i_0.mp h1))
        rw [← tr_nil 103 611 y]
        show PW _ _ _ 24 [some (.ref 70), some (.int a1), some (.int 1), some (.int a3)] [] (E (tr 56 435 x (1 :: 10 :: 30 :: 41 :: [])) (tr 103 611 y []))
        refine PW_iload_n c_M_act_24 rfl ?_
        refine PW_if_ne c_M_act_25 (fun _ => ?_) (fun h2 => absurd h2 (by decide))
        refine PW_iload_n c_M_act_37 rfl ?_
        refine PW_iconst (v := 1) c_M_act_38 (by decide) ?_
        refine PW_icmp_ne c_M_act_39 (fun h3 => absurd (by decide) h3) (fun _ => ?_)
        refine PW_aload_n c_M_act_42 rfl ?_
        refine PW_iload_n c_M_act_43 rfl ?_
        refine PW_iload_n c_M_act_44 rfl ?_
        refine PW_V0 (d2 := 6) (st := []) [.int a1, .int a3] c_M_act_45 lk_M_act_391 (po_70 _ _) rfl rfl rfl (Nat.le_of_ble_eq_true rfl) (by first | decide | omega) (Nat.le_of_ble_eq_true rfl) ?_
        refine sp_M_staying_3 (l := []) K2 (by decide) ?_
        show PW _ _ _ 48 [some (.ref 70), some (.int a1), some (.int 1), some (.int a3)] [.int (-(((a3 + 1) + a1) * 2))] (E (tr 56 435 x (1 :: 10 :: 30 :: 41 :: [])) (tr 103 611 y (1 :: 10 :: 30 :: 41 :: [])))
        refine PW_goto c_M_act_48 ?_
        refine PW_ireturn (ty := .int) c_M_act_71 rfl rfl ?_
        exact h
    · refine ⟨((a3 + a1) + 3) * 2, tr 56 435 x (1 :: 20 :: 10 :: []), tr 103 611 y (1 :: 20 :: 10 :: []), ?_, fun {z post} h => ?_, fun {z post} h => ?_⟩
      · exact INV_step (INV_tr hI _ (by decide))
      · refine PW.deeper (k := (17, 0, 0, z)) (Nat.le_of_ble_eq_true rfl) (Nat.le_refl _) (Nat.le_refl _) ?_
        refine PW_aload_n c_G_act_0 rfl ?_
        refine PW_get (v := .ref 54) c_G_act_1 fl_G_79 (gf_5_9 _ _) ?_
        refine PW_iload_n c_G_act_4 rfl ?_
        refine PW_iload_n c_G_act_5 rfl ?_
        refine PW_iload_n c_G_act_6 rfl ?_
        refine PW_V0 (d2 := 16) (st := []) [.int a1, .int 1, .int a3] c_G_act_7 lk_G_act_305 (po_54 _ _) rfl rfl rfl (Nat.le_of_ble_eq_true rfl) (by first | decide | omega) (Nat.le_of_ble_eq_true rfl) ?_
        show PW _ _ _ 0 [some (.ref 54), some (.int a1), some (.int 1), some (.int a3)] [] (E x y)
        refine PW_aload_n c_B_perform_0 rfl ?_
        refine PW_iconst (v := 0) c_B_perform_1 (by decide) ?_
        refine PW_put (w2 := E (sI x 435 0) y) c_B_perform_2 fp_B_perform_36 rfl (pf_54_3 _ _ _) ?_
        refine PW_aload_n c_B_perform_5 rfl ?_
        refine PW_iload_n c_B_perform_6 rfl ?_
        refine PW_V0 (d2 := 0) (st := []) [.int a1] c_B_perform_7 lk_B_perform_39 (po_54 _ _) rfl rfl rfl (Nat.le_of_ble_eq_true rfl) (by first | decide | omega) (Nat.le_of_ble_eq_true rfl) ?_
        refine sp_B_isBody hB hbx ?_
        show PW _ _ _ 10 [some (.ref 54), some (.int a1), some (.int 1), some (.int a3)] [.int (b2i (0 ≤ a1.toInt ∧ a1.toInt < (nB y : Int)))] (E (sI x 435 0) y)
        refine PW_if_eq c_B_perform_10 (fun h0 => absurd hc0 (b2i_0.mp h0)) (fun _ => ?_)
        refine PW_iload_n c_B_perform_13 rfl ?_
        refine PW_if_lt c_B_perform_14 (fun h1 => absurd h1 (by decide)) (fun _ => ?_)
        refine PW_iload_n c_B_perform_17 rfl ?_
        refine PW_iconst (v := 4) c_B_perform_18 (by decide) ?_
        refine PW_icmp_lt c_B_perform_19 (fun _ => ?_) (fun h2 => absurd (by decide) h2)
        rw [← tr_nil 56 435 x]
        show PW _ _ _ 24 [some (.ref 54), some (.int a1), some (.int 1), some (.int a3)] [] (E (tr 56 435 x []) y)
        refine PW_aload_n c_B_perform_24 rfl ?_
        refine PW_aload_n c_B_perform_25 rfl ?_
        refine PW_iload_n c_B_perform_26 rfl ?_
        refine PW_V0 (d2 := 1) (st := [.ref 54]) [.int a1] c_B_perform_27 lk_B_perform_42 (po_54 _ _) rfl rfl rfl (Nat.le_of_ble_eq_true rfl) (by first | decide | omega) (Nat.le_of_ble_eq_true rfl) ?_
        refine sp_kof (l := []) K ?_
        show PW _ _ _ 30 [some (.ref 54), some (.int a1), some (.int 1), some (.int a3)] [.int 4, .ref 54] (E (tr 56 435 x []) y)
        refine PW_iload_n c_B_perform_30 rfl ?_
        refine PW_iload_n c_B_perform_31 rfl ?_
        refine PW_iload_n c_B_perform_32 rfl ?_
        refine PW_iconst (v := 0) c_B_perform_33 (by decide) ?_
        refine PW_V0 (d2 := 15) (st := []) [.int 4, .int 1, .int a3, .int a1, .int 0] c_B_perform_34 lk_B_perform_45 (po_54 _ _) rfl rfl rfl (Nat.le_of_ble_eq_true rfl) (by first | decide | omega) (Nat.le_of_ble_eq_true rfl) ?_
        refine PW.deeper (k := (9, 0, 0, z)) (Nat.le_of_ble_eq_true rfl) (Nat.le_refl _) (Nat.le_refl _) ?_
        refine sp_call_4_4_1 (l := []) (d := 0) K rfl (by omega) (by decide) ?_
        show PW _ _ _ 37 [some (.ref 54), some (.int a1), some (.int 1), some (.int a3)] [.int (((a3 + a1) + 3) * 2)] (E (tr 56 435 x (1 :: 20 :: 10 :: [])) y)
        refine PW_ireturn (ty := .int) c_B_perform_37 rfl rfl ?_
        show PW _ _ _ 10 [some (.ref 5), some (.int a1), some (.int 1), some (.int a3)] [.int (((a3 + a1) + 3) * 2)] (E (tr 56 435 x (1 :: 20 :: 10 :: [])) y)
        refine PW_ireturn (ty := .int) c_G_act_10 rfl rfl ?_
        exact h
      · refine PW.deeper (k := (9, 0, 0, z)) (Nat.le_of_ble_eq_true rfl) (Nat.le_refl _) (Nat.le_refl _) ?_
        refine PW_aload_n c_M_act_0 rfl ?_
        refine PW_iconst (v := 0) c_M_act_1 (by decide) ?_
        refine PW_put (w2 := E (tr 56 435 x (1 :: 20 :: 10 :: [])) (sI y 611 0)) c_M_act_2 fp_M_act_358 rfl (pf_70_51 _ _ _) ?_
        refine PW_aload_n c_M_act_5 rfl ?_
        refine PW_iload_n c_M_act_6 rfl ?_
        refine PW_V0 (d2 := 1) (st := []) [.int a1] c_M_act_7 lk_M_act_397 (po_70 _ _) rfl rfl rfl (Nat.le_of_ble_eq_true rfl) (by first | decide | omega) (Nat.le_of_ble_eq_true rfl) ?_
        refine sp_M_isBody2 hB ?_
        show PW _ _ _ 10 [some (.ref 70), some (.int a1), some (.int 1), some (.int a3)] [.int (b2i (0 ≤ a1.toInt ∧ a1.toInt < (nB (sI y 611 0) : Int)))] (E (tr 56 435 x (1 :: 20 :: 10 :: [])) (sI y 611 0))
        refine PW_if_eq c_M_act_10 (fun h0 => absurd hc0 (b2i_0.mp h0)) (fun _ => ?_)
        refine PW_iload_n c_M_act_13 rfl ?_
        refine PW_iconst (v := 0) c_M_act_14 (by decide) ?_
        refine PW_iconst (v := 3) c_M_act_15 (by decide) ?_
        refine PW_S0 (d2 := 0) (st := []) [.int 1, .int 0, .int 3] c_M_act_16 lk_M_act_131 rfl rfl rfl (Nat.le_of_ble_eq_true rfl) (by first | decide | omega) (Nat.le_of_ble_eq_true rfl) ?_
        refine sp_M_within  ?_
        show PW _ _ _ 19 [some (.ref 70), some (.int a1), some (.int 1), some (.int a3)] [.int (b2i ((0 : Int32) ≤ (1 : Int32) ∧ (1 : Int32) ≤ (3 : Int32)))] (E (tr 56 435 x (1 :: 20 :: 10 :: [])) (sI y 611 0))
        refine PW_if_ne c_M_act_19 (fun _ => ?_) (fun h1 => absurd (by decide) (b2i_0.mp h1))
        rw [← tr_nil 103 611 y]
        show PW _ _ _ 24 [some (.ref 70), some (.int a1), some (.int 1), some (.int a3)] [] (E (tr 56 435 x (1 :: 20 :: 10 :: [])) (tr 103 611 y []))
        refine PW_iload_n c_M_act_24 rfl ?_
        refine PW_if_ne c_M_act_25 (fun _ => ?_) (fun h2 => absurd h2 (by decide))
        refine PW_iload_n c_M_act_37 rfl ?_
        refine PW_iconst (v := 1) c_M_act_38 (by decide) ?_
        refine PW_icmp_ne c_M_act_39 (fun h3 => absurd (by decide) h3) (fun _ => ?_)
        refine PW_aload_n c_M_act_42 rfl ?_
        refine PW_iload_n c_M_act_43 rfl ?_
        refine PW_iload_n c_M_act_44 rfl ?_
        refine PW_V0 (d2 := 6) (st := []) [.int a1, .int a3] c_M_act_45 lk_M_act_391 (po_70 _ _) rfl rfl rfl (Nat.le_of_ble_eq_true rfl) (by first | decide | omega) (Nat.le_of_ble_eq_true rfl) ?_
        refine sp_M_staying_4 (l := []) K2 (by decide) ?_
        show PW _ _ _ 48 [some (.ref 70), some (.int a1), some (.int 1), some (.int a3)] [.int (((a3 + a1) + 3) * 2)] (E (tr 56 435 x (1 :: 20 :: 10 :: [])) (tr 103 611 y (1 :: 20 :: 10 :: [])))
        refine PW_goto c_M_act_48 ?_
        refine PW_ireturn (ty := .int) c_M_act_71 rfl rfl ?_
        exact h
    · refine ⟨-(((a3 + 1) + a1) * 2), tr 56 435 x (1 :: 10 :: 30 :: 41 :: []), tr 103 611 y (1 :: 10 :: 30 :: 41 :: []), ?_, fun {z post} h => ?_, fun {z post} h => ?_⟩
      · exact INV_step (INV_tr hI _ (by decide))
      · refine PW.deeper (k := (17, 0, 0, z)) (Nat.le_of_ble_eq_true rfl) (Nat.le_refl _) (Nat.le_refl _) ?_
        refine PW_aload_n c_G_act_0 rfl ?_
        refine PW_get (v := .ref 54) c_G_act_1 fl_G_79 (gf_5_9 _ _) ?_
        refine PW_iload_n c_G_act_4 rfl ?_
        refine PW_iload_n c_G_act_5 rfl ?_
        refine PW_iload_n c_G_act_6 rfl ?_
        refine PW_V0 (d2 := 16) (st := []) [.int a1, .int 1, .int a3] c_G_act_7 lk_G_act_305 (po_54 _ _) rfl rfl rfl (Nat.le_of_ble_eq_true rfl) (by first | decide | omega) (Nat.le_of_ble_eq_true rfl) ?_
        show PW _ _ _ 0 [some (.ref 54), some (.int a1), some (.int 1), some (.int a3)] [] (E x y)
        refine PW_aload_n c_B_perform_0 rfl ?_
        refine PW_iconst (v := 0) c_B_perform_1 (by decide) ?_
        refine PW_put (w2 := E (sI x 435 0) y) c_B_perform_2 fp_B_perform_36 rfl (pf_54_3 _ _ _) ?_
        refine PW_aload_n c_B_perform_5 rfl ?_
        refine PW_iload_n c_B_perform_6 rfl ?_
        refine PW_V0 (d2 := 0) (st := []) [.int a1] c_B_perform_7 lk_B_perform_39 (po_54 _ _) rfl rfl rfl (Nat.le_of_ble_eq_true rfl) (by first | decide | omega) (Nat.le_of_ble_eq_true rfl) ?_
        refine sp_B_isBody hB hbx ?_
        show PW _ _ _ 10 [some (.ref 54), some (.int a1), some (.int 1), some (.int a3)] [.int (b2i (0 ≤ a1.toInt ∧ a1.toInt < (nB y : Int)))] (E (sI x 435 0) y)
        refine PW_if_eq c_B_perform_10 (fun h0 => absurd hc0 (b2i_0.mp h0)) (fun _ => ?_)
        refine PW_iload_n c_B_perform_13 rfl ?_
        refine PW_if_lt c_B_perform_14 (fun h1 => absurd h1 (by decide)) (fun _ => ?_)
        refine PW_iload_n c_B_perform_17 rfl ?_
        refine PW_iconst (v := 4) c_B_perform_18 (by decide) ?_
        refine PW_icmp_lt c_B_perform_19 (fun _ => ?_) (fun h2 => absurd (by decide) h2)
        rw [← tr_nil 56 435 x]
        show PW _ _ _ 24 [some (.ref 54), some (.int a1), some (.int 1), some (.int a3)] [] (E (tr 56 435 x []) y)
        refine PW_aload_n c_B_perform_24 rfl ?_
        refine PW_aload_n c_B_perform_25 rfl ?_
        refine PW_iload_n c_B_perform_26 rfl ?_
        refine PW_V0 (d2 := 1) (st := [.ref 54]) [.int a1] c_B_perform_27 lk_B_perform_42 (po_54 _ _) rfl rfl rfl (Nat.le_of_ble_eq_true rfl) (by first | decide | omega) (Nat.le_of_ble_eq_true rfl) ?_
        refine sp_kof (l := []) K ?_
        show PW _ _ _ 30 [some (.ref 54), some (.int a1), some (.int 1), some (.int a3)] [.int 5, .ref 54] (E (tr 56 435 x []) y)
        refine PW_iload_n c_B_perform_30 rfl ?_
        refine PW_iload_n c_B_perform_31 rfl ?_
        refine PW_iload_n c_B_perform_32 rfl ?_
        refine PW_iconst (v := 0) c_B_perform_33 (by decide) ?_
        refine PW_V0 (d2 := 15) (st := []) [.int 5, .int 1, .int a3, .int a1, .int 0] c_B_perform_34 lk_B_perform_45 (po_54 _ _) rfl rfl rfl (Nat.le_of_ble_eq_true rfl) (by first | decide | omega) (Nat.le_of_ble_eq_true rfl) ?_
        refine PW.deeper (k := (11, 0, 0, z)) (Nat.le_of_ble_eq_true rfl) (Nat.le_refl _) (Nat.le_refl _) ?_
        refine sp_call_5_5_1 (l := []) (d := 0) K rfl (by omega) (by decide) ?_
        show PW _ _ _ 37 [some (.ref 54), some (.int a1), some (.int 1), some (.int a3)] [.int (-(((a3 + 1) + a1) * 2))] (E (tr 56 435 x (1 :: 10 :: 30 :: 41 :: [])) y)
        refine PW_ireturn (ty := .int) c_B_perform_37 rfl rfl ?_
        show PW _ _ _ 10 [some (.ref 5), some (.int a1), some (.int 1), some (.int a3)] [.int (-(((a3 + 1) + a1) * 2))] (E (tr 56 435 x (1 :: 10 :: 30 :: 41 :: [])) y)
        refine PW_ireturn (ty := .int) c_G_act_10 rfl rfl ?_
        exact h
      · refine PW.deeper (k := (9, 0, 0, z)) (Nat.le_of_ble_eq_true rfl) (Nat.le_refl _) (Nat.le_refl _) ?_
        refine PW_aload_n c_M_act_0 rfl ?_
        refine PW_iconst (v := 0) c_M_act_1 (by decide) ?_
        refine PW_put (w2 := E (tr 56 435 x (1 :: 10 :: 30 :: 41 :: [])) (sI y 611 0)) c_M_act_2 fp_M_act_358 rfl (pf_70_51 _ _ _) ?_
        refine PW_aload_n c_M_act_5 rfl ?_
        refine PW_iload_n c_M_act_6 rfl ?_
        refine PW_V0 (d2 := 1) (st := []) [.int a1] c_M_act_7 lk_M_act_397 (po_70 _ _) rfl rfl rfl (Nat.le_of_ble_eq_true rfl) (by first | decide | omega) (Nat.le_of_ble_eq_true rfl) ?_
        refine sp_M_isBody2 hB ?_
        show PW _ _ _ 10 [some (.ref 70), some (.int a1), some (.int 1), some (.int a3)] [.int (b2i (0 ≤ a1.toInt ∧ a1.toInt < (nB (sI y 611 0) : Int)))] (E (tr 56 435 x (1 :: 10 :: 30 :: 41 :: [])) (sI y 611 0))
        refine PW_if_eq c_M_act_10 (fun h0 => absurd hc0 (b2i_0.mp h0)) (fun _ => ?_)
        refine PW_iload_n c_M_act_13 rfl ?_
        refine PW_iconst (v := 0) c_M_act_14 (by decide) ?_
        refine PW_iconst (v := 3) c_M_act_15 (by decide) ?_
        refine PW_S0 (d2 := 0) (st := []) [.int 1, .int 0, .int 3] c_M_act_16 lk_M_act_131 rfl rfl rfl (Nat.le_of_ble_eq_true rfl) (by first | decide | omega) (Nat.le_of_ble_eq_true rfl) ?_
        refine sp_M_within  ?_
        show PW _ _ _ 19 [some (.ref 70), some (.int a1), some (.int 1), some (.int a3)] [.int (b2i ((0 : Int32) ≤ (1 : Int32) ∧ (1 : Int32) ≤ (3 : Int32)))] (E (tr 56 435 x (1 :: 10 :: 30 :: 41 :: [])) (sI y 611 0))
        refine PW_if_ne c_M_act_19 (fun _ => ?_) (fun h1 => absurd (by decide) (b2i_0.mp h1))
        rw [← tr_nil 103 611 y]
        show PW _ _ _ 24 [some (.ref 70), some (.int a1), some (.int 1), some (.int a3)] [] (E (tr 56 435 x (1 :: 10 :: 30 :: 41 :: [])) (tr 103 611 y []))
        refine PW_iload_n c_M_act_24 rfl ?_
        refine PW_if_ne c_M_act_25 (fun _ => ?_) (fun h2 => absurd h2 (by decide))
        refine PW_iload_n c_M_act_37 rfl ?_
        refine PW_iconst (v := 1) c_M_act_38 (by decide) ?_
        refine PW_icmp_ne c_M_act_39 (fun h3 => absurd (by decide) h3) (fun _ => ?_)
        refine PW_aload_n c_M_act_42 rfl ?_
        refine PW_iload_n c_M_act_43 rfl ?_
        refine PW_iload_n c_M_act_44 rfl ?_
        refine PW_V0 (d2 := 6) (st := []) [.int a1, .int a3] c_M_act_45 lk_M_act_391 (po_70 _ _) rfl rfl rfl (Nat.le_of_ble_eq_true rfl) (by first | decide | omega) (Nat.le_of_ble_eq_true rfl) ?_
        refine sp_M_staying_5 (l := []) K2 (by decide) ?_
        show PW _ _ _ 48 [some (.ref 70), some (.int a1), some (.int 1), some (.int a3)] [.int (-(((a3 + 1) + a1) * 2))] (E (tr 56 435 x (1 :: 10 :: 30 :: 41 :: [])) (tr 103 611 y (1 :: 10 :: 30 :: 41 :: [])))
        refine PW_goto c_M_act_48 ?_
        refine PW_ireturn (ty := .int) c_M_act_71 rfl rfl ?_
        exact h
    · refine ⟨((a3 + a1) * 2) * 2, tr 56 435 x (1 :: 70 :: 10 :: []), tr 103 611 y (1 :: 70 :: 10 :: []), ?_, fun {z post} h => ?_, fun {z post} h => ?_⟩
      · exact INV_step (INV_tr hI _ (by decide))
      · refine PW.deeper (k := (17, 0, 0, z)) (Nat.le_of_ble_eq_true rfl) (Nat.le_refl _) (Nat.le_refl _) ?_
        refine PW_aload_n c_G_act_0 rfl ?_
        refine PW_get (v := .ref 54) c_G_act_1 fl_G_79 (gf_5_9 _ _) ?_
        refine PW_iload_n c_G_act_4 rfl ?_
        refine PW_iload_n c_G_act_5 rfl ?_
        refine PW_iload_n c_G_act_6 rfl ?_
        refine PW_V0 (d2 := 16) (st := []) [.int a1, .int 1, .int a3] c_G_act_7 lk_G_act_305 (po_54 _ _) rfl rfl rfl (Nat.le_of_ble_eq_true rfl) (by first | decide | omega) (Nat.le_of_ble_eq_true rfl) ?_
        show PW _ _ _ 0 [some (.ref 54), some (.int a1), some (.int 1), some (.int a3)] [] (E x y)
        refine PW_aload_n c_B_perform_0 rfl ?_
        refine PW_iconst (v := 0) c_B_perform_1 (by decide) ?_
        refine PW_put (w2 := E (sI x 435 0) y) c_B_perform_2 fp_B_perform_36 rfl (pf_54_3 _ _ _) ?_
        refine PW_aload_n c_B_perform_5 rfl ?_
        refine PW_iload_n c_B_perform_6 rfl ?_
        refine PW_V0 (d2 := 0) (st := []) [.int a1] c_B_perform_7 lk_B_perform_39 (po_54 _ _) rfl rfl rfl (Nat.le_of_ble_eq_true rfl) (by first | decide | omega) (Nat.le_of_ble_eq_true rfl) ?_
        refine sp_B_isBody hB hbx ?_
        show PW _ _ _ 10 [some (.ref 54), some (.int a1), some (.int 1), some (.int a3)] [.int (b2i (0 ≤ a1.toInt ∧ a1.toInt < (nB y : Int)))] (E (sI x 435 0) y)
        refine PW_if_eq c_B_perform_10 (fun h0 => absurd hc0 (b2i_0.mp h0)) (fun _ => ?_)
        refine PW_iload_n c_B_perform_13 rfl ?_
        refine PW_if_lt c_B_perform_14 (fun h1 => absurd h1 (by decide)) (fun _ => ?_)
        refine PW_iload_n c_B_perform_17 rfl ?_
        refine PW_iconst (v := 4) c_B_perform_18 (by decide) ?_
        refine PW_icmp_lt c_B_perform_19 (fun _ => ?_) (fun h2 => absurd (by decide) h2)
        rw [← tr_nil 56 435 x]
        show PW _ _ _ 24 [some (.ref 54), some (.int a1), some (.int 1), some (.int a3)] [] (E (tr 56 435 x []) y)
        refine PW_aload_n c_B_perform_24 rfl ?_
        refine PW_aload_n c_B_perform_25 rfl ?_
        refine PW_iload_n c_B_perform_26 rfl ?_
        refine PW_V0 (d2 := 1) (st := [.ref 54]) [.int a1] c_B_perform_27 lk_B_perform_42 (po_54 _ _) rfl rfl rfl (Nat.le_of_ble_eq_true rfl) (by first | decide | omega) (Nat.le_of_ble_eq_true rfl) ?_
        refine sp_kof (l := []) K ?_
        show PW _ _ _ 30 [some (.ref 54), some (.int a1), some (.int 1), some (.int a3)] [.int 6, .ref 54] (E (tr 56 435 x []) y)
        refine PW_iload_n c_B_perform_30 rfl ?_
        refine PW_iload_n c_B_perform_31 rfl ?_
        refine PW_iload_n c_B_perform_32 rfl ?_
        refine PW_iconst (v := 0) c_B_perform_33 (by decide) ?_
        refine PW_V0 (d2 := 15) (st := []) [.int 6, .int 1, .int a3, .int a1, .int 0] c_B_perform_34 lk_B_perform_45 (po_54 _ _) rfl rfl rfl (Nat.le_of_ble_eq_true rfl) (by first | decide | omega) (Nat.le_of_ble_eq_true rfl) ?_
        refine PW.deeper (k := (9, 0, 0, z)) (Nat.le_of_ble_eq_true rfl) (Nat.le_refl _) (Nat.le_refl _) ?_
        refine sp_call_6_6_1 (l := []) (d := 0) K rfl (by omega) (by decide) ?_
        show PW _ _ _ 37 [some (.ref 54), some (.int a1), some (.int 1), some (.int a3)] [.int (((a3 + a1) * 2) * 2)] (E (tr 56 435 x (1 :: 70 :: 10 :: [])) y)
        refine PW_ireturn (ty := .int) c_B_perform_37 rfl rfl ?_
        show PW _ _ _ 10 [some (.ref 5), some (.int a1), some (.int 1), some (.int a3)] [.int (((a3 + a1) * 2) * 2)] (E (tr 56 435 x (1 :: 70 :: 10 :: [])) y)
        refine PW_ireturn (ty := .int) c_G_act_10 rfl rfl ?_
        exact h
      · refine PW.deeper (k := (9, 0, 0, z)) (Nat.le_of_ble_eq_true rfl) (Nat.le_refl _) (Nat.le_refl _) ?_
        refine PW_aload_n c_M_act_0 rfl ?_
        refine PW_iconst (v := 0) c_M_act_1 (by decide) ?_
        refine PW_put (w2 := E (tr 56 435 x (1 :: 70 :: 10 :: [])) (sI y 611 0)) c_M_act_2 fp_M_act_358 rfl (pf_70_51 _ _ _) ?_
        refine PW_aload_n c_M_act_5 rfl ?_
        refine PW_iload_n c_M_act_6 rfl ?_
        refine PW_V0 (d2 := 1) (st := []) [.int a1] c_M_act_7 lk_M_act_397 (po_70 _ _) rfl rfl rfl (Nat.le_of_ble_eq_true rfl) (by first | decide | omega) (Nat.le_of_ble_eq_true rfl) ?_
        refine sp_M_isBody2 hB ?_
        show PW _ _ _ 10 [some (.ref 70), some (.int a1), some (.int 1), some (.int a3)] [.int (b2i (0 ≤ a1.toInt ∧ a1.toInt < (nB (sI y 611 0) : Int)))] (E (tr 56 435 x (1 :: 70 :: 10 :: [])) (sI y 611 0))
        refine PW_if_eq c_M_act_10 (fun h0 => absurd hc0 (b2i_0.mp h0)) (fun _ => ?_)
        refine PW_iload_n c_M_act_13 rfl ?_
        refine PW_iconst (v := 0) c_M_act_14 (by decide) ?_
        refine PW_iconst (v := 3) c_M_act_15 (by decide) ?_
        refine PW_S0 (d2 := 0) (st := []) [.int 1, .int 0, .int 3] c_M_act_16 lk_M_act_131 rfl rfl rfl (Nat.le_of_ble_eq_true rfl) (by first | decide | omega) (Nat.le_of_ble_eq_true rfl) ?_
        refine sp_M_within  ?_
        show PW _ _ _ 19 [some (.ref 70), some (.int a1), some (.int 1), some (.int a3)] [.int (b2i ((0 : Int32) ≤ (1 : Int32) ∧ (1 : Int32) ≤ (3 : Int32)))] (E (tr 56 435 x (1 :: 70 :: 10 :: [])) (sI y 611 0))
        refine PW_if_ne c_M_act_19 (fun _ => ?_) (fun h1 => absurd (by decide) (b2i_0.mp h1))
        rw [← tr_nil 103 611 y]
        show PW _ _ _ 24 [some (.ref 70), some (.int a1), some (.int 1), some (.int a3)] [] (E (tr 56 435 x (1 :: 70 :: 10 :: [])) (tr 103 611 y []))
        refine PW_iload_n c_M_act_24 rfl ?_
        refine PW_if_ne c_M_act_25 (fun _ => ?_) (fun h2 => absurd h2 (by decide))
        refine PW_iload_n c_M_act_37 rfl ?_
        refine PW_iconst (v := 1) c_M_act_38 (by decide) ?_
        refine PW_icmp_ne c_M_act_39 (fun h3 => absurd (by decide) h3) (fun _ => ?_)
        refine PW_aload_n c_M_act_42 rfl ?_
        refine PW_iload_n c_M_act_43 rfl ?_
        refine PW_iload_n c_M_act_44 rfl ?_
        refine PW_V0 (d2 := 6) (st := []) [.int a1, .int a3] c_M_act_45 lk_M_act_391 (po_70 _ _) rfl rfl rfl (Nat.le_of_ble_eq_true rfl) (by first | decide | omega) (Nat.le_of_ble_eq_true rfl) ?_
        refine sp_M_staying_6 (l := []) K2 (by decide) ?_
        show PW _ _ _ 48 [some (.ref 70), some (.int a1), some (.int 1), some (.int a3)] [.int (((a3 + a1) * 2) * 2)] (E (tr 56 435 x (1 :: 70 :: 10 :: [])) (tr 103 611 y (1 :: 70 :: 10 :: [])))
        refine PW_goto c_M_act_48 ?_
        refine PW_ireturn (ty := .int) c_M_act_71 rfl rfl ?_
        exact h
    · refine ⟨((((a3 + a1) * 2) - 1) * 2) + ((2 : Int32) ^^^ a1), tr 56 435 x (11 :: 1 :: 70 :: 81 :: 10 :: 80 :: []), tr 103 611 y (11 :: 1 :: 70 :: 81 :: 10 :: 80 :: []), ?_, fun {z post} h => ?_, fun {z post} h => ?_⟩
      · exact INV_step (INV_tr hI _ (by decide))
      · refine PW.deeper (k := (17, 0, 0, z)) (Nat.le_of_ble_eq_true rfl) (Nat.le_refl _) (Nat.le_refl _) ?_
        refine PW_aload_n c_G_act_0 rfl ?_
        refine PW_get (v := .ref 54) c_G_act_1 fl_G_79 (gf_5_9 _ _) ?_
        refine PW_iload_n c_G_act_4 rfl ?_
        refine PW_iload_n c_G_act_5 rfl ?_
        refine PW_iload_n c_G_act_6 rfl ?_
        refine PW_V0 (d2 := 16) (st := []) [.int a1, .int 1, .int a3] c_G_act_7 lk_G_act_305 (po_54 _ _) rfl rfl rfl (Nat.le_of_ble_eq_true rfl) (by first | decide | omega) (Nat.le_of_ble_eq_true rfl) ?_
        show PW _ _ _ 0 [some (.ref 54), some (.int a1), some (.int 1), some (.int a3)] [] (E x y)
        refine PW_aload_n c_B_perform_0 rfl ?_
        refine PW_iconst (v := 0) c_B_perform_1 (by decide) ?_
        refine PW_put (w2 := E (sI x 435 0) y) c_B_perform_2 fp_B_perform_36 rfl (pf_54_3 _ _ _) ?_
        refine PW_aload_n c_B_perform_5 rfl ?_
        refine PW_iload_n c_B_perform_6 rfl ?_
        refine PW_V0 (d2 := 0) (st := []) [.int a1] c_B_perform_7 lk_B_perform_39 (po_54 _ _) rfl rfl rfl (Nat.le_of_ble_eq_true rfl) (by first | decide | omega) (Nat.le_of_ble_eq_true rfl) ?_
        refine sp_B_isBody hB hbx ?_
        show PW _ _ _ 10 [some (.ref 54), some (.int a1), some (.int 1), some (.int a3)] [.int (b2i (0 ≤ a1.toInt ∧ a1.toInt < (nB y : Int)))] (E (sI x 435 0) y)
        refine PW_if_eq c_B_perform_10 (fun h0 => absurd hc0 (b2i_0.mp h0)) (fun _ => ?_)
        refine PW_iload_n c_B_perform_13 rfl ?_
        refine PW_if_lt c_B_perform_14 (fun h1 => absurd h1 (by decide)) (fun _ => ?_)
        refine PW_iload_n c_B_perform_17 rfl ?_
        refine PW_iconst (v := 4) c_B_perform_18 (by decide) ?_
        refine PW_icmp_lt c_B_perform_19 (fun _ => ?_) (fun h2 => absurd (by decide) h2)
        rw [← tr_nil 56 435 x]
        show PW _ _ _ 24 [some (.ref 54), some (.int a1), some (.int 1), some (.int a3)] [] (E (tr 56 435 x []) y)
        refine PW_aload_n c_B_perform_24 rfl ?_
        refine PW_aload_n c_B_perform_25 rfl ?_
        refine PW_iload_n c_B_perform_26 rfl ?_
        refine PW_V0 (d2 := 1) (st := [.ref 54]) [.int a1] c_B_perform_27 lk_B_perform_42 (po_54 _ _) rfl rfl rfl (Nat.le_of_ble_eq_true rfl) (by first | decide | omega) (Nat.le_of_ble_eq_true rfl) ?_
        refine sp_kof (l := []) K ?_
        show PW _ _ _ 30 [some (.ref 54), some (.int a1), some (.int 1), some (.int a3)] [.int 7, .ref 54] (E (tr 56 435 x []) y)
        refine PW_iload_n c_B_perform_30 rfl ?_
        refine PW_iload_n c_B_perform_31 rfl ?_
        refine PW_iload_n c_B_perform_32 rfl ?_
        refine PW_iconst (v := 0) c_B_perform_33 (by decide) ?_
        refine PW_V0 (d2 := 15) (st := []) [.int 7, .int 1, .int a3, .int a1, .int 0] c_B_perform_34 lk_B_perform_45 (po_54 _ _) rfl rfl rfl (Nat.le_of_ble_eq_true rfl) (by first | decide | omega) (Nat.le_of_ble_eq_true rfl) ?_
        refine PW.deeper (k := (13, 0, 0, z)) (Nat.le_of_ble_eq_true rfl) (Nat.le_refl _) (Nat.le_refl _) ?_
        refine sp_call_7_7_1 (l := []) (d := 0) K rfl (by omega) (by decide) ?_
        show PW _ _ _ 37 [some (.ref 54), some (.int a1), some (.int 1), some (.int a3)] [.int (((((a3 + a1) * 2) - 1) * 2) + ((2 : Int32) ^^^ a1))] (E (tr 56 435 x (11 :: 1 :: 70 :: 81 :: 10 :: 80 :: [])) y)
        refine PW_ireturn (ty := .int) c_B_perform_37 rfl rfl ?_
        show PW _ _ _ 10 [some (.ref 5), some (.int a1), some (.int 1), some (.int a3)] [.int (((((a3 + a1) * 2) - 1) * 2) + ((2 : Int32) ^^^ a1))] (E (tr 56 435 x (11 :: 1 :: 70 :: 81 :: 10 :: 80 :: [])) y)
        refine PW_ireturn (ty := .int) c_G_act_10 rfl rfl ?_
        exact h
      · refine PW.deeper (k := (9, 0, 0, z)) (Nat.le_of_ble_eq_true rfl) (Nat.le_refl _) (Nat.le_refl _) ?_
        refine PW_aload_n c_M_act_0 rfl ?_
        refine PW_iconst (v := 0) c_M_act_1 (by decide) ?_
        refine PW_put (w2 := E (tr 56 435 x (11 :: 1 :: 70 :: 81 :: 10 :: 80 :: [])) (sI y 611 0)) c_M_act_2 fp_M_act_358 rfl (pf_70_51 _ _ _) ?_
        refine PW_aload_n c_M_act_5 rfl ?_
        refine PW_iload_n c_M_act_6 rfl ?_
        refine PW_V0 (d2 := 1) (st := []) [.int a1] c_M_act_7 lk_M_act_397 (po_70 _ _) rfl rfl rfl (Nat.le_of_ble_eq_true rfl) (by first | decide | omega) (Nat.le_of_ble_eq_true rfl) ?_
        refine sp_M_isBody2 hB ?_
        show PW _ _ _ 10 [some (.ref 70), some (.int a1), some (.int 1), some (.int a3)] [.int (b2i (0 ≤ a1.toInt ∧ a1.toInt < (nB (sI y 611 0) : Int)))] (E (tr 56 435 x (11 :: 1 :: 70 :: 81 :: 10 :: 80 :: [])) (sI y 611 0))
        refine PW_if_eq c_M_act_10 (fun h0 => absurd hc0 (b2i_0.mp h0)) (fun _ => ?_)
        refine PW_iload_n c_M_act_13 rfl ?_
        refine PW_iconst (v := 0) c_M_act_14 (by decide) ?_
        refine PW_iconst (v := 3) c_M_act_15 (by decide) ?_
        refine PW_S0 (d2 := 0) (st := []) [.int 1, .int 0, .int 3] c_M_act_16 lk_M_act_131 rfl rfl rfl (Nat.le_of_ble_eq_true rfl) (by first | decide | omega) (Nat.le_of_ble_eq_true rfl) ?_
        refine sp_M_within  ?_
        show PW _ _ _ 19 [some (.ref 70), some (.int a1), some (.int 1), some (.int a3)] [.int (b2i ((0 : Int32) ≤ (1 : Int32) ∧ (1 : Int32) ≤ (3 : Int32)))] (E (tr 56 435 x (11 :: 1 :: 70 :: 81 :: 10 :: 80 :: [])) (sI y 611 0))
        refine PW_if_ne c_M_act_19 (fun _ => ?_) (fun h1 => absurd (by decide) (b2i_0.mp h1))
        rw [← tr_nil 103 611 y]
        show PW _ _ _ 24 [some (.ref 70), some (.int a1), some (.int 1), some (.int a3)] [] (E (tr 56 435 x (11 :: 1 :: 70 :: 81 :: 10 :: 80 :: [])) (tr 103 611 y []))
        refine PW_iload_n c_M_act_24 rfl ?_
        refine PW_if_ne c_M_act_25 (fun _ => ?_) (fun h2 => absurd h2 (by decide))
        refine PW_iload_n c_M_act_37 rfl ?_
        refine PW_iconst (v := 1) c_M_act_38 (by decide) ?_
        refine PW_icmp_ne c_M_act_39 (fun h3 => absurd (by decide) h3) (fun _ => ?_)
        refine PW_aload_n c_M_act_42 rfl ?_
        refine PW_iload_n c_M_act_43 rfl ?_
        refine PW_iload_n c_M_act_44 rfl ?_
        refine PW_V0 (d2 := 6) (st := []) [.int a1, .int a3] c_M_act_45 lk_M_act_391 (po_70 _ _) rfl rfl rfl (Nat.le_of_ble_eq_true rfl) (by first | decide | omega) (Nat.le_of_ble_eq_true rfl) ?_
        refine sp_M_staying_7 (l := []) K2 (by decide) ?_
        show PW _ _ _ 48 [some (.ref 70), some (.int a1), some (.int 1), some (.int a3)] [.int (((((a3 + a1) * 2) - 1) * 2) + ((2 : Int32) ^^^ a1))] (E (tr 56 435 x (11 :: 1 :: 70 :: 81 :: 10 :: 80 :: [])) (tr 103 611 y (11 :: 1 :: 70 :: 81 :: 10 :: 80 :: [])))
        refine PW_goto c_M_act_48 ?_
        refine PW_ireturn (ty := .int) c_M_act_71 rfl rfl ?_
        exact h
  by_cases hw2 : a2 = 2
  · subst hw2
    have hbn : (y.1 609).toInt = nB y := by rw [hB.1, nI_toInt (by have := hB.2; omega)]
    obtain ⟨f1, f2, f3⟩ := hbk a1.toNatClampNeg (by show a1.toInt.toNat < nB y; omega)
    obtain ⟨u, u1, u2, u3, u4⟩ := nI_ex f2
    have hu8 : u < 8 := by omega
    have hB50 := hB.2
    have K : kb x a1 (nI u) := ⟨⟨hc0.1, by rw [hbx, hbn]; exact hc0.2⟩, by omega, by rw [f1]; exact u2⟩
    have K2 : km y a1 (nI u) := ⟨⟨hc0.1, by omega⟩, u2⟩
    rcases (show u = 0 ∨ u = 1 ∨ u = 2 ∨ u = 3 ∨ u = 4 ∨ u = 5 ∨ u = 6 ∨ u = 7 by omega) with rfl | rfl | rfl | rfl | rfl | rfl | rfl | rfl
    · refine ⟨a3 ^^^ a1, tr 56 435 x (11 :: []), tr 103 611 y (11 :: []), ?_, fun {z post} h => ?_, fun {z post} h => ?_⟩
      · exact INV_step (INV_tr hI _ (by decide))
      · refine PW.deeper (k := (17, 0, 0, z)) (Nat.le_of_ble_eq_true rfl) (Nat.le_refl _) (Nat.le_refl _) ?_
        refine PW_aload_n c_G_act_0 rfl ?_
        refine PW_get (v := .ref 54) c_G_act_1 fl_G_79 (gf_5_9 _ _) ?_
        refine PW_iload_n c_G_act_4 rfl ?_
        refine PW_iload_n c_G_act_5 rfl ?_
        refine PW_iload_n c_G_act_6 rfl ?_
        refine PW_V0 (d2 := 16) (st := []) [.int a1, .int 2, .int a3] c_G_act_7 lk_G_act_305 (po_54 _ _) rfl rfl rfl (Nat.le_of_ble_eq_true rfl) (by first | decide | omega) (Nat.le_of_ble_eq_true rfl) ?_
        show PW _ _ _ 0 [some (.ref 54), some (.int a1), some (.int 2), some (.int a3)] [] (E x y)
        refine PW_aload_n c_B_perform_0 rfl ?_
        refine PW_iconst (v := 0) c_B_perform_1 (by decide) ?_
        refine PW_put (w2 := E (sI x 435 0) y) c_B_perform_2 fp_B_perform_36 rfl (pf_54_3 _ _ _) ?_
        refine PW_aload_n c_B_perform_5 rfl ?_
        refine PW_iload_n c_B_perform_6 rfl ?_
        refine PW_V0 (d2 := 0) (st := []) [.int a1] c_B_perform_7 lk_B_perform_39 (po_54 _ _) rfl rfl rfl (Nat.le_of_ble_eq_true rfl) (by first | decide | omega) (Nat.le_of_ble_eq_true rfl) ?_
        refine sp_B_isBody hB hbx ?_
        show PW _ _ _ 10 [some (.ref 54), some (.int a1), some (.int 2), some (.int a3)] [.int (b2i (0 ≤ a1.toInt ∧ a1.toInt < (nB y : Int)))] (E (sI x 435 0) y)
        refine PW_if_eq c_B_perform_10 (fun h0 => absurd hc0 (b2i_0.mp h0)) (fun _ => ?_)
        refine PW_iload_n c_B_perform_13 rfl ?_
        refine PW_if_lt c_B_perform_14 (fun h1 => absurd h1 (by decide)) (fun _ => ?_)
        refine PW_iload_n c_B_perform_17 rfl ?_
        refine PW_iconst (v := 4) c_B_perform_18 (by decide) ?_
        refine PW_icmp_lt c_B_perform_19 (fun _ => ?_) (fun h2 => absurd (by decide) h2)
        rw [← tr_nil 56 435 x]
        show PW _ _ _ 24 [some (.ref 54), some (.int a1), some (.int 2), some (.int a3)] [] (E (tr 56 435 x []) y)
        refine PW_aload_n c_B_perform_24 rfl ?_
        refine PW_aload_n c_B_perform_25 rfl ?_
        refine PW_iload_n c_B_perform_26 rfl ?_
        refine PW_V0 (d2 := 1) (st := [.ref 54]) [.int a1] c_B_perform_27 lk_B_perform_42 (po_54 _ _) rfl rfl rfl (Nat.le_of_ble_eq_true rfl) (by first | decide | omega) (Nat.le_of_ble_eq_true rfl) ?_
        refine sp_kof (l := []) K ?_
        show PW _ _ _ 30 [some (.ref 54), some (.int a1), some (.int 2), some (.int a3)] [.int 0, .ref 54] (E (tr 56 435 x []) y)
        refine PW_iload_n c_B_perform_30 rfl ?_
        refine PW_iload_n c_B_perform_31 rfl ?_
        refine PW_iload_n c_B_perform_32 rfl ?_
        refine PW_iconst (v := 0) c_B_perform_33 (by decide) ?_
        refine PW_V0 (d2 := 15) (st := []) [.int 0, .int 2, .int a3, .int a1, .int 0] c_B_perform_34 lk_B_perform_45 (po_54 _ _) rfl rfl rfl (Nat.le_of_ble_eq_true rfl) (by first | decide | omega) (Nat.le_of_ble_eq_true rfl) ?_
        refine PW.deeper (k := (5, 0, 0, z)) (Nat.le_of_ble_eq_true rfl) (Nat.le_refl _) (Nat.le_refl _) ?_
        refine sp_call_0_0_2 (l := []) (d := 0) K rfl (by omega) (by decide) ?_
        show PW _ _ _ 37 [some (.ref 54), some (.int a1), some (.int 2), some (.int a3)] [.int (a3 ^^^ a1)] (E (tr 56 435 x (11 :: [])) y)
        refine PW_ireturn (ty := .int) c_B_perform_37 rfl rfl ?_
        show PW _ _ _ 10 [some (.ref 5), some (.int a1), some (.int 2), some (.int a3)] [.int (a3 ^^^ a1)] (E (tr 56 435 x (11 :: [])) y)
        refine PW_ireturn (ty := .int) c_G_act_10 rfl rfl ?_
        exact h
      · refine PW.deeper (k := (9, 0, 0, z)) (Nat.le_of_ble_eq_true rfl) (Nat.le_refl _) (Nat.le_refl _) ?_
        refine PW_aload_n c_M_act_0 rfl ?_
        refine PW_iconst (v := 0) c_M_act_1 (by decide) ?_
        refine PW_put (w2 := E (tr 56 435 x (11 :: [])) (sI y 611 0)) c_M_act_2 fp_M_act_358 rfl (pf_70_51 _ _ _) ?_
        refine PW_aload_n c_M_act_5 rfl ?_
        refine PW_iload_n c_M_act_6 rfl ?_
        refine PW_V0 (d2 := 1) (st := []) [.int a1] c_M_act_7 lk_M_act_397 (po_70 _ _) rfl rfl rfl (Nat.le_of_ble_eq_true rfl) (by first | decide | omega) (Nat.le_of_ble_eq_true rfl) ?_
        refine sp_M_isBody2 hB ?_
        show PW _ _ _ 10 [some (.ref 70), some (.int a1), some (.int 2), some (.int a3)] [.int (b2i (0 ≤ a1.toInt ∧ a1.toInt < (nB (sI y 611 0) : Int)))] (E (tr 56 435 x (11 :: [])) (sI y 611 0))
        refine PW_if_eq c_M_act_10 (fun h0 => absurd hc0 (b2i_0.mp h0)) (fun _ => ?_)
        refine PW_iload_n c_M_act_13 rfl ?_
        refine PW_iconst (v := 0) c_M_act_14 (by decide) ?_
        refine PW_iconst (v := 3) c_M_act_15 (by decide) ?_
        refine PW_S0 (d2 := 0) (st := []) [.int 2, .int 0, .int 3] c_M_act_16 lk_M_act_131 rfl rfl rfl (Nat.le_of_ble_eq_true rfl) (by first | decide | omega) (Nat.le_of_ble_eq_true rfl) ?_
        refine sp_M_within  ?_
        show PW _ _ _ 19 [some (.ref 70), some (.int a1), some (.int 2), some (.int a3)] [.int (b2i ((0 : Int32) ≤ (2 : Int32) ∧ (2 : Int32) ≤ (3 : Int32)))] (E (tr 56 435 x (11 :: [])) (sI y 611 0))
        refine PW_if_ne c_M_act_19 (fun _ => ?_) (fun h1 => absurd (by decide) (b2i_0.mp h1))
        rw [← tr_nil 103 611 y]
        show PW _ _ _ 24 [some (.ref 70), some (.int a1), some (.int 2), some (.int a3)] [] (E (tr 56 435 x (11 :: [])) (tr 103 611 y []))
        refine PW_iload_n c_M_act_24 rfl ?_
        refine PW_if_ne c_M_act_25 (fun _ => ?_) (fun h2 => absurd h2 (by decide))
        refine PW_iload_n c_M_act_37 rfl ?_
        refine PW_iconst (v := 1) c_M_act_38 (by decide) ?_
        refine PW_icmp_ne c_M_act_39 (fun _ => ?_) (fun h3 => absurd h3 (by decide))
        refine PW_iload_n c_M_act_51 rfl ?_
        refine PW_iconst (v := 2) c_M_act_52 (by decide) ?_
        refine PW_icmp_ne c_M_act_53 (fun h4 => absurd (by decide) h4) (fun _ => ?_)
        refine PW_aload_n c_M_act_56 rfl ?_
        refine PW_iload_n c_M_act_57 rfl ?_
        refine PW_iload_n c_M_act_58 rfl ?_
        refine PW_V0 (d2 := 4) (st := []) [.int a1, .int a3] c_M_act_59 lk_M_act_382 (po_70 _ _) rfl rfl rfl (Nat.le_of_ble_eq_true rfl) (by first | decide | omega) (Nat.le_of_ble_eq_true rfl) ?_
        refine sp_M_turning_0 (l := []) K2 (by decide) ?_
        show PW _ _ _ 62 [some (.ref 70), some (.int a1), some (.int 2), some (.int a3)] [.int (a3 ^^^ a1)] (E (tr 56 435 x (11 :: [])) (tr 103 611 y (11 :: [])))
        refine PW_goto c_M_act_62 ?_
        refine PW_ireturn (ty := .int) c_M_act_71 rfl rfl ?_
        exact h
    · refine ⟨a3 ^^^ a1, tr 56 435 x (11 :: []), tr 103 611 y (11 :: []), ?_, fun {z post} h => ?_, fun {z post} h => ?_⟩
      · exact INV_step (INV_tr hI _ (by decide))
      · refine PW.deeper (k := (17, 0, 0, z)) (Nat.le_of_ble_eq_true rfl) (Nat.le_refl _) (Nat.le_refl _) ?_
        refine PW_aload_n c_G_act_0 rfl ?_
        refine PW_get (v := .ref 54) c_G_act_1 fl_G_79 (gf_5_9 _ _) ?_
        refine PW_iload_n c_G_act_4 rfl ?_
        refine PW_iload_n c_G_act_5 rfl ?_
        refine PW_iload_n c_G_act_6 rfl ?_
        refine PW_V0 (d2 := 16) (st := []) [.int a1, .int 2, .int a3] c_G_act_7 lk_G_act_305 (po_54 _ _) rfl rfl rfl (Nat.le_of_ble_eq_true rfl) (by first | decide | omega) (Nat.le_of_ble_eq_true rfl) ?_
        show PW _ _ _ 0 [some (.ref 54), some (.int a1), some (.int 2), some (.int a3)] [] (E x y)
        refine PW_aload_n c_B_perform_0 rfl ?_
        refine PW_iconst (v := 0) c_B_perform_1 (by decide) ?_
        refine PW_put (w2 := E (sI x 435 0) y) c_B_perform_2 fp_B_perform_36 rfl (pf_54_3 _ _ _) ?_
        refine PW_aload_n c_B_perform_5 rfl ?_
        refine PW_iload_n c_B_perform_6 rfl ?_
        refine PW_V0 (d2 := 0) (st := []) [.int a1] c_B_perform_7 lk_B_perform_39 (po_54 _ _) rfl rfl rfl (Nat.le_of_ble_eq_true rfl) (by first | decide | omega) (Nat.le_of_ble_eq_true rfl) ?_
        refine sp_B_isBody hB hbx ?_
        show PW _ _ _ 10 [some (.ref 54), some (.int a1), some (.int 2), some (.int a3)] [.int (b2i (0 ≤ a1.toInt ∧ a1.toInt < (nB y : Int)))] (E (sI x 435 0) y)
        refine PW_if_eq c_B_perform_10 (fun h0 => absurd hc0 (b2i_0.mp h0)) (fun _ => ?_)
        refine PW_iload_n c_B_perform_13 rfl ?_
        refine PW_if_lt c_B_perform_14 (fun h1 => absurd h1 (by decide)) (fun _ => ?_)
        refine PW_iload_n c_B_perform_17 rfl ?_
        refine PW_iconst (v := 4) c_B_perform_18 (by decide) ?_
        refine PW_icmp_lt c_B_perform_19 (fun _ => ?_) (fun h2 => absurd (by decide) h2)
        rw [← tr_nil 56 435 x]
        show PW _ _ _ 24 [some (.ref 54), some (.int a1), some (.int 2), some (.int a3)] [] (E (tr 56 435 x []) y)
        refine PW_aload_n c_B_perform_24 rfl ?_
        refine PW_aload_n c_B_perform_25 rfl ?_
        refine PW_iload_n c_B_perform_26 rfl ?_
        refine PW_V0 (d2 := 1) (st := [.ref 54]) [.int a1] c_B_perform_27 lk_B_perform_42 (po_54 _ _) rfl rfl rfl (Nat.le_of_ble_eq_true rfl) (by first | decide | omega) (Nat.le_of_ble_eq_true rfl) ?_
        refine sp_kof (l := []) K ?_
        show PW _ _ _ 30 [some (.ref 54), some (.int a1), some (.int 2), some (.int a3)] [.int 1, .ref 54] (E (tr 56 435 x []) y)
        refine PW_iload_n c_B_perform_30 rfl ?_
        refine PW_iload_n c_B_perform_31 rfl ?_
        refine PW_iload_n c_B_perform_32 rfl ?_
        refine PW_iconst (v := 0) c_B_perform_33 (by decide) ?_
        refine PW_V0 (d2 := 15) (st := []) [.int 1, .int 2, .int a3, .int a1, .int 0] c_B_perform_34 lk_B_perform_45 (po_54 _ _) rfl rfl rfl (Nat.le_of_ble_eq_true rfl) (by first | decide | omega) (Nat.le_of_ble_eq_true rfl) ?_
        refine PW.deeper (k := (5, 0, 0, z)) (Nat.le_of_ble_eq_true rfl) (Nat.le_refl _) (Nat.le_refl _) ?_
        refine sp_call_1_1_2 (l := []) (d := 0) K rfl (by omega) (by decide) ?_
        show PW _ _ _ 37 [some (.ref 54), some (.int a1), some (.int 2), some (.int a3)] [.int (a3 ^^^ a1)] (E (tr 56 435 x (11 :: [])) y)
        refine PW_ireturn (ty := .int) c_B_perform_37 rfl rfl ?_
        show PW _ _ _ 10 [some (.ref 5), some (.int a1), some (.int 2), some (.int a3)] [.int (a3 ^^^ a1)] (E (tr 56 435 x (11 :: [])) y)
        refine PW_ireturn (ty := .int) c_G_act_10 rfl rfl ?_
        exact h
      · refine PW.deeper (k := (9, 0, 0, z)) (Nat.le_of_ble_eq_true rfl) (Nat.le_refl _) (Nat.le_refl _) ?_
        refine PW_aload_n c_M_act_0 rfl ?_
        refine PW_iconst (v := 0) c_M_act_1 (by decide) ?_
        refine PW_put (w2 := E (tr 56 435 x (11 :: [])) (sI y 611 0)) c_M_act_2 fp_M_act_358 rfl (pf_70_51 _ _ _) ?_
        refine PW_aload_n c_M_act_5 rfl ?_
        refine PW_iload_n c_M_act_6 rfl ?_
        refine PW_V0 (d2 := 1) (st := []) [.int a1] c_M_act_7 lk_M_act_397 (po_70 _ _) rfl rfl rfl (Nat.le_of_ble_eq_true rfl) (by first | decide | omega) (Nat.le_of_ble_eq_true rfl) ?_
        refine sp_M_isBody2 hB ?_
        show PW _ _ _ 10 [some (.ref 70), some (.int a1), some (.int 2), some (.int a3)] [.int (b2i (0 ≤ a1.toInt ∧ a1.toInt < (nB (sI y 611 0) : Int)))] (E (tr 56 435 x (11 :: [])) (sI y 611 0))
        refine PW_if_eq c_M_act_10 (fun h0 => absurd hc0 (b2i_0.mp h0)) (fun _ => ?_)
        refine PW_iload_n c_M_act_13 rfl ?_
        refine PW_iconst (v := 0) c_M_act_14 (by decide) ?_
        refine PW_iconst (v := 3) c_M_act_15 (by decide) ?_
        refine PW_S0 (d2 := 0) (st := []) [.int 2, .int 0, .int 3] c_M_act_16 lk_M_act_131 rfl rfl rfl (Nat.le_of_ble_eq_true rfl) (by first | decide | omega) (Nat.le_of_ble_eq_true rfl) ?_
        refine sp_M_within  ?_
        show PW _ _ _ 19 [some (.ref 70), some (.int a1), some (.int 2), some (.int a3)] [.int (b2i ((0 : Int32) ≤ (2 : Int32) ∧ (2 : Int32) ≤ (3 : Int32)))] (E (tr 56 435 x (11 :: [])) (sI y 611 0))
        refine PW_if_ne c_M_act_19 (fun _ => ?_) (fun h1 => absurd (by decide) (b2i_0.mp h1))
        rw [← tr_nil 103 611 y]
        show PW _ _ _ 24 [some (.ref 70), some (.int a1), some (.int 2), some (.int a3)] [] (E (tr 56 435 x (11 :: [])) (tr 103 611 y []))
        refine PW_iload_n c_M_act_24 rfl ?_
        refine PW_if_ne c_M_act_25 (fun _ => ?_) (fun h2 => absurd h2 (by decide))
        refine PW_iload_n c_M_act_37 rfl ?_
        refine PW_iconst (v := 1) c_M_act_38 (by decide) ?_
        refine PW_icmp_ne c_M_act_39 (fun _ => ?_) (fun h3 => absurd h3 (by decide))
        refine PW_iload_n c_M_act_51 rfl ?_
        refine PW_iconst (v := 2) c_M_act_52 (by decide) ?_
        refine PW_icmp_ne c_M_act_53 (fun h4 => absurd (by decide) h4) (fun _ => ?_)
        refine PW_aload_n c_M_act_56 rfl ?_
        refine PW_iload_n c_M_act_57 rfl ?_
        refine PW_iload_n c_M_act_58 rfl ?_
        refine PW_V0 (d2 := 4) (st := []) [.int a1, .int a3] c_M_act_59 lk_M_act_382 (po_70 _ _) rfl rfl rfl (Nat.le_of_ble_eq_true rfl) (by first | decide | omega) (Nat.le_of_ble_eq_true rfl) ?_
        refine sp_M_turning_1 (l := []) K2 (by decide) ?_
        show PW _ _ _ 62 [some (.ref 70), some (.int a1), some (.int 2), some (.int a3)] [.int (a3 ^^^ a1)] (E (tr 56 435 x (11 :: [])) (tr 103 611 y (11 :: [])))
        refine PW_goto c_M_act_62 ?_
        refine PW_ireturn (ty := .int) c_M_act_71 rfl rfl ?_
        exact h
    · refine ⟨a3 ^^^ a1, tr 56 435 x (11 :: []), tr 103 611 y (11 :: []), ?_, fun {z post} h => ?_, fun {z post} h => ?_⟩
      · exact INV_step (INV_tr hI _ (by decide))
      · refine PW.deeper (k := (17, 0, 0, z)) (Nat.le_of_ble_eq_true rfl) (Nat.le_refl _) (Nat.le_refl _) ?_
        refine PW_aload_n c_G_act_0 rfl ?_
        refine PW_get (v := .ref 54) c_G_act_1 fl_G_79 (gf_5_9 _ _) ?_
        refine PW_iload_n c_G_act_4 rfl ?_
        refine PW_iload_n c_G_act_5 rfl ?_
        refine PW_iload_n c_G_act_6 rfl ?_
        refine PW_V0 (d2 := 16) (st := []) [.int a1, .int 2, .int a3] c_G_act_7 lk_G_act_305 (po_54 _ _) rfl rfl rfl (Nat.le_of_ble_eq_true rfl) (by first | decide | omega) (Nat.le_of_ble_eq_true rfl) ?_
        show PW _ _ _ 0 [some (.ref 54), some (.int a1), some (.int 2), some (.int a3)] [] (E x y)
        refine PW_aload_n c_B_perform_0 rfl ?_
        refine PW_iconst (v := 0) c_B_perform_1 (by decide) ?_
        refine PW_put (w2 := E (sI x 435 0) y) c_B_perform_2 fp_B_perform_36 rfl (pf_54_3 _ _ _) ?_
        refine PW_aload_n c_B_perform_5 rfl ?_
        refine PW_iload_n c_B_perform_6 rfl ?_
        refine PW_V0 (d2 := 0) (st := []) [.int a1] c_B_perform_7 lk_B_perform_39 (po_54 _ _) rfl rfl rfl (Nat.le_of_ble_eq_true rfl) (by first | decide | omega) (Nat.le_of_ble_eq_true rfl) ?_
        refine sp_B_isBody hB hbx ?_
        show PW _ _ _ 10 [some (.ref 54), some (.int a1), some (.int 2), some (.int a3)] [.int (b2i (0 ≤ a1.toInt ∧ a1.toInt < (nB y : Int)))] (E (sI x 435 0) y)
        refine PW_if_eq c_B_perform_10 (fun h0 => absurd hc0 (b2i_0.mp h0)) (fun _ => ?_)
        refine PW_iload_n c_B_perform_13 rfl ?_
        refine PW_if_lt c_B_perform_14 (fun h1 => absurd h1 (by decide)) (fun _ => ?_)
        refine PW_iload_n c_B_perform_17 rfl ?_
        refine PW_iconst (v := 4) c_B_perform_18 (by decide) ?_
        refine PW_icmp_lt c_B_perform_19 (fun _ => ?_) (fun h2 => absurd (by decide) h2)
        rw [← tr_nil 56 435 x]
        show PW _ _ _ 24 [some (.ref 54), some (.int a1), some (.int 2), some (.int a3)] [] (E (tr 56 435 x []) y)
        refine PW_aload_n c_B_perform_24 rfl ?_
        refine PW_aload_n c_B_perform_25 rfl ?_
        refine PW_iload_n c_B_perform_26 rfl ?_
        refine PW_V0 (d2 := 1) (st := [.ref 54]) [.int a1] c_B_perform_27 lk_B_perform_42 (po_54 _ _) rfl rfl rfl (Nat.le_of_ble_eq_true rfl) (by first | decide | omega) (Nat.le_of_ble_eq_true rfl) ?_
        refine sp_kof (l := []) K ?_
        show PW _ _ _ 30 [some (.ref 54), some (.int a1), some (.int 2), some (.int a3)] [.int 2, .ref 54] (E (tr 56 435 x []) y)
        refine PW_iload_n c_B_perform_30 rfl ?_
        refine PW_iload_n c_B_perform_31 rfl ?_
        refine PW_iload_n c_B_perform_32 rfl ?_
        refine PW_iconst (v := 0) c_B_perform_33 (by decide) ?_
        refine PW_V0 (d2 := 15) (st := []) [.int 2, .int 2, .int a3, .int a1, .int 0] c_B_perform_34 lk_B_perform_45 (po_54 _ _) rfl rfl rfl (Nat.le_of_ble_eq_true rfl) (by first | decide | omega) (Nat.le_of_ble_eq_true rfl) ?_
        refine PW.deeper (k := (5, 0, 0, z)) (Nat.le_of_ble_eq_true rfl) (Nat.le_refl _) (Nat.le_refl _) ?_
        refine sp_call_2_2_2 (l := []) (d := 0) K rfl (by omega) (by decide) ?_
        show PW _ _ _ 37 [some (.ref 54), some (.int a1), some (.int 2), some (.int a3)] [.int (a3 ^^^ a1)] (E (tr 56 435 x (11 :: [])) y)
        refine PW_ireturn (ty := .int) c_B_perform_37 rfl rfl ?_
        show PW _ _ _ 10 [some (.ref 5), some (.int a1), some (.int 2), some (.int a3)] [.int (a3 ^^^ a1)] (E (tr 56 435 x (11 :: [])) y)
        refine PW_ireturn (ty := .int) c_G_act_10 rfl rfl ?_
        exact h
      · refine PW.deeper (k := (9, 0, 0, z)) (Nat.le_of_ble_eq_true rfl) (Nat.le_refl _) (Nat.le_refl _) ?_
        refine PW_aload_n c_M_act_0 rfl ?_
        refine PW_iconst (v := 0) c_M_act_1 (by decide) ?_
        refine PW_put (w2 := E (tr 56 435 x (11 :: [])) (sI y 611 0)) c_M_act_2 fp_M_act_358 rfl (pf_70_51 _ _ _) ?_
        refine PW_aload_n c_M_act_5 rfl ?_
        refine PW_iload_n c_M_act_6 rfl ?_
        refine PW_V0 (d2 := 1) (st := []) [.int a1] c_M_act_7 lk_M_act_397 (po_70 _ _) rfl rfl rfl (Nat.le_of_ble_eq_true rfl) (by first | decide | omega) (Nat.le_of_ble_eq_true rfl) ?_
        refine sp_M_isBody2 hB ?_
        show PW _ _ _ 10 [some (.ref 70), some (.int a1), some (.int 2), some (.int a3)] [.int (b2i (0 ≤ a1.toInt ∧ a1.toInt < (nB (sI y 611 0) : Int)))] (E (tr 56 435 x (11 :: [])) (sI y 611 0))
        refine PW_if_eq c_M_act_10 (fun h0 => absurd hc0 (b2i_0.mp h0)) (fun _ => ?_)
        refine PW_iload_n c_M_act_13 rfl ?_
        refine PW_iconst (v := 0) c_M_act_14 (by decide) ?_
        refine PW_iconst (v := 3) c_M_act_15 (by decide) ?_
        refine PW_S0 (d2 := 0) (st := []) [.int 2, .int 0, .int 3] c_M_act_16 lk_M_act_131 rfl rfl rfl (Nat.le_of_ble_eq_true rfl) (by first | decide | omega) (Nat.le_of_ble_eq_true rfl) ?_
        refine sp_M_within  ?_
        show PW _ _ _ 19 [some (.ref 70), some (.int a1), some (.int 2), some (.int a3)] [.int (b2i ((0 : Int32) ≤ (2 : Int32) ∧ (2 : Int32) ≤ (3 : Int32)))] (E (tr 56 435 x (11 :: [])) (sI y 611 0))
        refine PW_if_ne c_M_act_19 (fun _ => ?_) (fun h1 => absurd (by decide) (b2i_0.mp h1))
        rw [← tr_nil 103 611 y]
        show PW _ _ _ 24 [some (.ref 70), some (.int a1), some (.int 2), some (.int a3)] [] (E (tr 56 435 x (11 :: [])) (tr 103 611 y []))
        refine PW_iload_n c_M_act_24 rfl ?_
        refine PW_if_ne c_M_act_25 (fun _ => ?_) (fun h2 => absurd h2 (by decide))
        refine PW_iload_n c_M_act_37 rfl ?_
        refine PW_iconst (v := 1) c_M_act_38 (by decide) ?_
        refine PW_icmp_ne c_M_act_39 (fun _ => ?_) (fun h3 => absurd h3 (by decide))
        refine PW_iload_n c_M_act_51 rfl ?_
        refine PW_iconst (v := 2) c_M_act_52 (by decide) ?_
        refine PW_icmp_ne c_M_act_53 (fun h4 => absurd (by decide) h4) (fun _ => ?_)
        refine PW_aload_n c_M_act_56 rfl ?_
        refine PW_iload_n c_M_act_57 rfl ?_
        refine PW_iload_n c_M_act_58 rfl ?_
        refine PW_V0 (d2 := 4) (st := []) [.int a1, .int a3] c_M_act_59 lk_M_act_382 (po_70 _ _) rfl rfl rfl (Nat.le_of_ble_eq_true rfl) (by first | decide | omega) (Nat.le_of_ble_eq_true rfl) ?_
        refine sp_M_turning_2 (l := []) K2 (by decide) ?_
        show PW _ _ _ 62 [some (.ref 70), some (.int a1), some (.int 2), some (.int a3)] [.int (a3 ^^^ a1)] (E (tr 56 435 x (11 :: [])) (tr 103 611 y (11 :: [])))
        refine PW_goto c_M_act_62 ?_
        refine PW_ireturn (ty := .int) c_M_act_71 rfl rfl ?_
        exact h
    · refine ⟨(a3 ^^^ a1) * 3, tr 56 435 x (11 :: 40 :: []), tr 103 611 y (11 :: 40 :: []), ?_, fun {z post} h => ?_, fun {z post} h => ?_⟩
      · exact INV_step (INV_tr hI _ (by decide))
      · refine PW.deeper (k := (17, 0, 0, z)) (Nat.le_of_ble_eq_true rfl) (Nat.le_refl _) (Nat.le_refl _) ?_
        refine PW_aload_n c_G_act_0 rfl ?_
        refine PW_get (v := .ref 54) c_G_act_1 fl_G_79 (gf_5_9 _ _) ?_
        refine PW_iload_n c_G_act_4 rfl ?_
        refine PW_iload_n c_G_act_5 rfl ?_
        refine PW_iload_n c_G_act_6 rfl ?_
        refine PW_V0 (d2 := 16) (st := []) [.int a1, .int 2, .int a3] c_G_act_7 lk_G_act_305 (po_54 _ _) rfl rfl rfl (Nat.le_of_ble_eq_true rfl) (by first | decide | omega) (Nat.le_of_ble_eq_true rfl) ?_
        show PW _ _ _ 0 [some (.ref 54), some (.int a1), some (.int 2), some (.int a3)] [] (E x y)
        refine PW_aload_n c_B_perform_0 rfl ?_
        refine PW_iconst (v := 0) c_B_perform_1 (by decide) ?_
        refine PW_put (w2 := E (sI x 435 0) y) c_B_perform_2 fp_B_perform_36 rfl (pf_54_3 _ _ _) ?_
        refine PW_aload_n c_B_perform_5 rfl ?_
        refine PW_iload_n c_B_perform_6 rfl ?_
        refine PW_V0 (d2 := 0) (st := []) [.int a1] c_B_perform_7 lk_B_perform_39 (po_54 _ _) rfl rfl rfl (Nat.le_of_ble_eq_true rfl) (by first | decide | omega) (Nat.le_of_ble_eq_true rfl) ?_
        refine sp_B_isBody hB hbx ?_
        show PW _ _ _ 10 [some (.ref 54), some (.int a1), some (.int 2), some (.int a3)] [.int (b2i (0 ≤ a1.toInt ∧ a1.toInt < (nB y : Int)))] (E (sI x 435 0) y)
        refine PW_if_eq c_B_perform_10 (fun h0 => absurd hc0 (b2i_0.mp h0)) (fun _ => ?_)
        refine PW_iload_n c_B_perform_13 rfl ?_
        refine PW_if_lt c_B_perform_14 (fun h1 => absurd h1 (by decide)) (fun _ => ?_)
        refine PW_iload_n c_B_perform_17 rfl ?_
        refine PW_iconst (v := 4) c_B_perform_18 (by decide) ?_
        refine PW_icmp_lt c_B_perform_19 (fun _ => ?_) (fun h2 => absurd (by decide) h2)
        rw [← tr_nil 56 435 x]
        show PW _ _ _ 24 [some (.ref 54), some (.int a1), some (.int 2), some (.int a3)] [] (E (tr 56 435 x []) y)
        refine PW_aload_n c_B_perform_24 rfl ?_
        refine PW_aload_n c_B_perform_25 rfl ?_
        refine PW_iload_n c_B_perform_26 rfl ?_
        refine PW_V0 (d2 := 1) (st := [.ref 54]) [.int a1] c_B_perform_27 lk_B_perform_42 (po_54 _ _) rfl rfl rfl (Nat.le_of_ble_eq_true rfl) (by first | decide | omega) (Nat.le_of_ble_eq_true rfl) ?_
        refine sp_kof (l := []) K ?_
        show PW _ _ _ 30 [some (.ref 54), some (.int a1), some (.int 2), some (.int a3)] [.int 3, .ref 54] (E (tr 56 435 x []) y)
        refine PW_iload_n c_B_perform_30 rfl ?_
        refine PW_iload_n c_B_perform_31 rfl ?_
        refine PW_iload_n c_B_perform_32 rfl ?_
        refine PW_iconst (v := 0) c_B_perform_33 (by decide) ?_
        refine PW_V0 (d2 := 15) (st := []) [.int 3, .int 2, .int a3, .int a1, .int 0] c_B_perform_34 lk_B_perform_45 (po_54 _ _) rfl rfl rfl (Nat.le_of_ble_eq_true rfl) (by first | decide | omega) (Nat.le_of_ble_eq_true rfl) ?_
        refine PW.deeper (k := (7, 0, 0, z)) (Nat.le_of_ble_eq_true rfl) (Nat.le_refl _) (Nat.le_refl _) ?_
        refine sp_call_3_3_2 (l := []) (d := 0) K rfl (by omega) (by decide) ?_
        show PW _ _ _ 37 [some (.ref 54), some (.int a1), some (.int 2), some (.int a3)] [.int ((a3 ^^^ a1) * 3)] (E (tr 56 435 x (11 :: 40 :: [])) y)
        refine PW_ireturn (ty := .int) c_B_perform_37 rfl rfl ?_
        show PW _ _ _ 10 [some (.ref 5), some (.int a1), some (.int 2), some (.int a3)] [.int ((a3 ^^^ a1) * 3)] (E (tr 56 435 x (11 :: 40 :: [])) y)
        refine PW_ireturn (ty := .int) c_G_act_10 rfl rfl ?_
        exact h
      · refine PW.deeper (k := (9, 0, 0, z)) (Nat.le_of_ble_eq_true rfl) (Nat.le_refl _) (Nat.le_refl _) ?_
        refine PW_aload_n c_M_act_0 rfl ?_
        refine PW_iconst (v := 0) c_M_act_1 (by decide) ?_
        refine PW_put (w2 := E (tr 56 435 x (11 :: 40 :: [])) (sI y 611 0)) c_M_act_2 fp_M_act_358 rfl (pf_70_51 _ _ _) ?_
        refine PW_aload_n c_M_act_5 rfl ?_
        refine PW_iload_n c_M_act_6 rfl ?_
        refine PW_V0 (d2 := 1) (st := []) [.int a1] c_M_act_7 lk_M_act_397 (po_70 _ _) rfl rfl rfl (Nat.le_of_ble_eq_true rfl) (by first | decide | omega) (Nat.le_of_ble_eq_true rfl) ?_
        refine sp_M_isBody2 hB ?_
        show PW _ _ _ 10 [some (.ref 70), some (.int a1), some (.int 2), some (.int a3)] [.int (b2i (0 ≤ a1.toInt ∧ a1.toInt < (nB (sI y 611 0) : Int)))] (E (tr 56 435 x (11 :: 40 :: [])) (sI y 611 0))
        refine PW_if_eq c_M_act_10 (fun h0 => absurd hc0 (b2i_0.mp h0)) (fun _ => ?_)
        refine PW_iload_n c_M_act_13 rfl ?_
        refine PW_iconst (v := 0) c_M_act_14 (by decide) ?_
        refine PW_iconst (v := 3) c_M_act_15 (by decide) ?_
        refine PW_S0 (d2 := 0) (st := []) [.int 2, .int 0, .int 3] c_M_act_16 lk_M_act_131 rfl rfl rfl (Nat.le_of_ble_eq_true rfl) (by first | decide | omega) (Nat.le_of_ble_eq_true rfl) ?_
        refine sp_M_within  ?_
        show PW _ _ _ 19 [some (.ref 70), some (.int a1), some (.int 2), some (.int a3)] [.int (b2i ((0 : Int32) ≤ (2 : Int32) ∧ (2 : Int32) ≤ (3 : Int32)))] (E (tr 56 435 x (11 :: 40 :: [])) (sI y 611 0))
        refine PW_if_ne c_M_act_19 (fun _ => ?_) (fun h1 => absurd (by decide) (b2i_0.mp h1))
        rw [← tr_nil 103 611 y]
        show PW _ _ _ 24 [some (.ref 70), some (.int a1), some (.int 2), some (.int a3)] [] (E (tr 56 435 x (11 :: 40 :: [])) (tr 103 611 y []))
        refine PW_iload_n c_M_act_24 rfl ?_
        refine PW_if_ne c_M_act_25 (fun _ => ?_) (fun h2 => absurd h2 (by decide))
        refine PW_iload_n c_M_act_37 rfl ?_
        refine PW_iconst (v := 1) c_M_act_38 (by decide) ?_
        refine PW_icmp_ne c_M_act_39 (fun _ => ?_) (fun h3 => absurd h3 (by decide))
        refine PW_iload_n c_M_act_51 rfl ?_
        refine PW_iconst (v := 2) c_M_act_52 (by decide) ?_
        refine PW_icmp_ne c_M_act_53 (fun h4 => absurd (by decide) h4) (fun _ => ?_)
        refine PW_aload_n c_M_act_56 rfl ?_
        refine PW_iload_n c_M_act_57 rfl ?_
        refine PW_iload_n c_M_act_58 rfl ?_
        refine PW_V0 (d2 := 4) (st := []) [.int a1, .int a3] c_M_act_59 lk_M_act_382 (po_70 _ _) rfl rfl rfl (Nat.le_of_ble_eq_true rfl) (by first | decide | omega) (Nat.le_of_ble_eq_true rfl) ?_
        refine sp_M_turning_3 (l := []) K2 (by decide) ?_
        show PW _ _ _ 62 [some (.ref 70), some (.int a1), some (.int 2), some (.int a3)] [.int ((a3 ^^^ a1) * 3)] (E (tr 56 435 x (11 :: 40 :: [])) (tr 103 611 y (11 :: 40 :: [])))
        refine PW_goto c_M_act_62 ?_
        refine PW_ireturn (ty := .int) c_M_act_71 rfl rfl ?_
        exact h
    · refine ⟨a3 ^^^ a1, tr 56 435 x (11 :: []), tr 103 611 y (11 :: []), ?_, fun {z post} h => ?_, fun {z post} h => ?_⟩
      · exact INV_step (INV_tr hI _ (by decide))
      · refine PW.deeper (k := (17, 0, 0, z)) (Nat.le_of_ble_eq_true rfl) (Nat.le_refl _) (Nat.le_refl _) ?_
        refine PW_aload_n c_G_act_0 rfl ?_
        refine PW_get (v := .ref 54) c_G_act_1 fl_G_79 (gf_5_9 _ _) ?_
        refine PW_iload_n c_G_act_4 rfl ?_
        refine PW_iload_n c_G_act_5 rfl ?_
        refine PW_iload_n c_G_act_6 rfl ?_
        refine PW_V0 (d2 := 16) (st := []) [.int a1, .int 2, .int a3] c_G_act_7 lk_G_act_305 (po_54 _ _) rfl rfl rfl (Nat.le_of_ble_eq_true rfl) (by first | decide | omega) (Nat.le_of_ble_eq_true rfl) ?_
        show PW _ _ _ 0 [some (.ref 54), some (.int a1), some (.int 2), some (.int a3)] [] (E x y)
        refine PW_aload_n c_B_perform_0 rfl ?_
        refine PW_iconst (v := 0) c_B_perform_1 (by decide) ?_
        refine PW_put (w2 := E (sI x 435 0) y) c_B_perform_2 fp_B_perform_36 rfl (pf_54_3 _ _ _) ?_
        refine PW_aload_n c_B_perform_5 rfl ?_
        refine PW_iload_n c_B_perform_6 rfl ?_
        refine PW_V0 (d2 := 0) (st := []) [.int a1] c_B_perform_7 lk_B_perform_39 (po_54 _ _) rfl rfl rfl (Nat.le_of_ble_eq_true rfl) (by first | decide | omega) (Nat.le_of_ble_eq_true rfl) ?_
        refine sp_B_isBody hB hbx ?_
        show PW _ _ _ 10 [some (.ref 54), some (.int a1), some (.int 2), some (.int a3)] [.int (b2i (0 ≤ a1.toInt ∧ a1.toInt < (nB y : Int)))] (E (sI x 435 0) y)
        refine PW_if_eq c_B_perform_10 (fun h0 => absurd hc0 (b2i_0.mp h0)) (fun _ => ?_)
        refine PW_iload_n c_B_perform_13 rfl ?_
        refine PW_if_lt c_B_perform_14 (fun h1 => absurd h1 (by decide)) (fun _ => ?_)
        refine PW_iload_n c_B_perform_17 rfl ?_
        refine PW_iconst (v := 4) c_B_perform_18 (by decide) ?_
        refine PW_icmp_lt c_B_perform_19 (fun _ => ?_) (fun h2 => absurd (by decide) h2)
        rw [← tr_nil 56 435 x]
        show PW _ _ _ 24 [some (.ref 54), some (.int a1), some (.int 2), some (.int a3)] [] (E (tr 56 435 x []) y)
        refine PW_aload_n c_B_perform_24 rfl ?_
        refine PW_aload_n c_B_perform_25 rfl ?_
        refine PW_iload_n c_B_perform_26 rfl ?_
        refine PW_V0 (d2 := 1) (st := [.ref 54]) [.int a1] c_B_perform_27 lk_B_perform_42 (po_54 _ _) rfl rfl rfl (Nat.le_of_ble_eq_true rfl) (by first | decide | omega) (Nat.le_of_ble_eq_true rfl) ?_
        refine sp_kof (l := []) K ?_
        show PW _ _ _ 30 [some (.ref 54), some (.int a1), some (.int 2), some (.int a3)] [.int 4, .ref 54] (E (tr 56 435 x []) y)
        refine PW_iload_n c_B_perform_30 rfl ?_
        refine PW_iload_n c_B_perform_31 rfl ?_
        refine PW_iload_n c_B_perform_32 rfl ?_
        refine PW_iconst (v := 0) c_B_perform_33 (by decide) ?_
        refine PW_V0 (d2 := 15) (st := []) [.int 4, .int 2, .int a3, .int a1, .int 0] c_B_perform_34 lk_B_perform_45 (po_54 _ _) rfl rfl rfl (Nat.le_of_ble_eq_true rfl) (by first | decide | omega) (Nat.le_of_ble_eq_true rfl) ?_
        refine PW.deeper (k := (5, 0, 0, z)) (Nat.le_of_ble_eq_true rfl) (Nat.le_refl _) (Nat.le_refl _) ?_
        refine sp_call_4_4_2 (l := []) (d := 0) K rfl (by omega) (by decide) ?_
        show PW _ _ _ 37 [some (.ref 54), some (.int a1), some (.int 2), some (.int a3)] [.int (a3 ^^^ a1)] (E (tr 56 435 x (11 :: [])) y)
        refine PW_ireturn (ty := .int) c_B_perform_37 rfl rfl ?_
        show PW _ _ _ 10 [some (.ref 5), some (.int a1), some (.int 2), some (.int a3)] [.int (a3 ^^^ a1)] (E (tr 56 435 x (11 :: [])) y)
        refine PW_ireturn (ty := .int) c_G_act_10 rfl rfl ?_
        exact h
      · refine PW.deeper (k := (9, 0, 0, z)) (Nat.le_of_ble_eq_true rfl) (Nat.le_refl _) (Nat.le_refl _) ?_
        refine PW_aload_n c_M_act_0 rfl ?_
        refine PW_iconst (v := 0) c_M_act_1 (by decide) ?_
        refine PW_put (w2 := E (tr 56 435 x (11 :: [])) (sI y 611 0)) c_M_act_2 fp_M_act_358 rfl (pf_70_51 _ _ _) ?_
        refine PW_aload_n c_M_act_5 rfl ?_
        refine PW_iload_n c_M_act_6 rfl ?_
        refine PW_V0 (d2 := 1) (st := []) [.int a1] c_M_act_7 lk_M_act_397 (po_70 _ _) rfl rfl rfl (Nat.le_of_ble_eq_true rfl) (by first | decide | omega) (Nat.le_of_ble_eq_true rfl) ?_
        refine sp_M_isBody2 hB ?_
        show PW _ _ _ 10 [some (.ref 70), some (.int a1), some (.int 2), some (.int a3)] [.int (b2i (0 ≤ a1.toInt ∧ a1.toInt < (nB (sI y 611 0) : Int)))] (E (tr 56 435 x (11 :: [])) (sI y 611 0))
        refine PW_if_eq c_M_act_10 (fun h0 => absurd hc0 (b2i_0.mp h0)) (fun _ => ?_)
        refine PW_iload_n c_M_act_13 rfl ?_
        refine PW_iconst (v := 0) c_M_act_14 (by decide) ?_
        refine PW_iconst (v := 3) c_M_act_15 (by decide) ?_
        refine PW_S0 (d2 := 0) (st := []) [.int 2, .int 0, .int 3] c_M_act_16 lk_M_act_131 rfl rfl rfl (Nat.le_of_ble_eq_true rfl) (by first | decide | omega) (Nat.le_of_ble_eq_true rfl) ?_
        refine sp_M_within  ?_
        show PW _ _ _ 19 [some (.ref 70), some (.int a1), some (.int 2), some (.int a3)] [.int (b2i ((0 : Int32) ≤ (2 : Int32) ∧ (2 : Int32) ≤ (3 : Int32)))] (E (tr 56 435 x (11 :: [])) (sI y 611 0))
        refine PW_if_ne c_M_act_19 (fun _ => ?_) (fun h1 => absurd (by decide) (b2i_0.mp h1))
        rw [← tr_nil 103 611 y]
        show PW _ _ _ 24 [some (.ref 70), some (.int a1), some (.int 2), some (.int a3)] [] (E (tr 56 435 x (11 :: [])) (tr 103 611 y []))
        refine PW_iload_n c_M_act_24 rfl ?_
        refine PW_if_ne c_M_act_25 (fun _ => ?_) (fun h2 => absurd h2 (by decide))
        refine PW_iload_n c_M_act_37 rfl ?_
        refine PW_iconst (v := 1) c_M_act_38 (by decide) ?_
        refine PW_icmp_ne c_M_act_39 (fun _ => ?_) (fun h3 => absurd h3 (by decide))
        refine PW_iload_n c_M_act_51 rfl ?_
        refine PW_iconst (v := 2) c_M_act_52 (by decide) ?_
        refine PW_icmp_ne c_M_act_53 (fun h4 => absurd (by decide) h4) (fun _ => ?_)
        refine PW_aload_n c_M_act_56 rfl ?_
        refine PW_iload_n c_M_act_57 rfl ?_
        refine PW_iload_n c_M_act_58 rfl ?_
        refine PW_V0 (d2 := 4) (st := []) [.int a1, .int a3] c_M_act_59 lk_M_act_382 (po_70 _ _) rfl rfl rfl (Nat.le_of_ble_eq_true rfl) (by first | decide | omega) (Nat.le_of_ble_eq_true rfl) ?_
        refine sp_M_turning_4 (l := []) K2 (by decide) ?_
        show PW _ _ _ 62 [some (.ref 70), some (.int a1), some (.int 2), some (.int a3)] [.int (a3 ^^^ a1)] (E (tr 56 435 x (11 :: [])) (tr 103 611 y (11 :: [])))
        refine PW_goto c_M_act_62 ?_
        refine PW_ireturn (ty := .int) c_M_act_71 rfl rfl ?_
        exact h
    · refine ⟨((a3 ^^^ a1) * 3) - ((2 : Int32) + a1), tr 56 435 x (1 :: 11 :: 40 :: 60 :: []), tr 103 611 y (1 :: 11 :: 40 :: 60 :: []), ?_, fun {z post} h => ?_, fun {z post} h => ?_⟩
      · exact INV_step (INV_tr hI _ (by decide))
      · refine PW.deeper (k := (17, 0, 0, z)) (Nat.le_of_ble_eq_true rfl) (Nat.le_refl _) (Nat.le_refl _) ?_
        refine PW_aload_n c_G_act_0 rfl ?_
        refine PW_get (v := .ref 54) c_G_act_1 fl_G_79 (gf_5_9 _ _) ?_
        refine PW_iload_n c_G_act_4 rfl ?_
        refine PW_iload_n c_G_act_5 rfl ?_
        refine PW_iload_n c_G_act_6 rfl ?_
        refine PW_V0 (d2 := 16) (st := []) [.int a1, .int 2, .int a3] c_G_act_7 lk_G_act_305 (po_54 _ _) rfl rfl rfl (Nat.le_of_ble_eq_true rfl) (by first | decide | omega) (Nat.le_of_ble_eq_true rfl) ?_
        show PW _ _ _ 0 [some (.ref 54), some (.int a1), some (.int 2), some (.int a3)] [] (E x y)
        refine PW_aload_n c_B_perform_0 rfl ?_
        refine PW_iconst (v := 0) c_B_perform_1 (by decide) ?_
        refine PW_put (w2 := E (sI x 435 0) y) c_B_perform_2 fp_B_perform_36 rfl (pf_54_3 _ _ _) ?_
        refine PW_aload_n c_B_perform_5 rfl ?_
        refine PW_iload_n c_B_perform_6 rfl ?_
        refine PW_V0 (d2 := 0) (st := []) [.int a1] c_B_perform_7 lk_B_perform_39 (po_54 _ _) rfl rfl rfl (Nat.le_of_ble_eq_true rfl) (by first | decide | omega) (Nat.le_of_ble_eq_true rfl) ?_
        refine sp_B_isBody hB hbx ?_
        show PW _ _ _ 10 [some (.ref 54), some (.int a1), some (.int 2), some (.int a3)] [.int (b2i (0 ≤ a1.toInt ∧ a1.toInt < (nB y : Int)))] (E (sI x 435 0) y)
        refine PW_if_eq c_B_perform_10 (fun h0 => absurd hc0 (b2i_0.mp h0)) (fun _ => ?_)
        refine PW_iload_n c_B_perform_13 rfl ?_
        refine PW_if_lt c_B_perform_14 (fun h1 => absurd h1 (by decide)) (fun _ => ?_)
        refine PW_iload_n c_B_perform_17 rfl ?_
        refine PW_iconst (v := 4) c_B_perform_18 (by decide) ?_
        refine PW_icmp_lt c_B_perform_19 (fun _ => ?_) (fun h2 => absurd (by decide) h2)
        rw [← tr_nil 56 435 x]
        show PW _ _ _ 24 [some (.ref 54), some (.int a1), some (.int 2), some (.int a3)] [] (E (tr 56 435 x []) y)
        refine PW_aload_n c_B_perform_24 rfl ?_
        refine PW_aload_n c_B_perform_25 rfl ?_
        refine PW_iload_n c_B_perform_26 rfl ?_
        refine PW_V0 (d2 := 1) (st := [.ref 54]) [.int a1] c_B_perform_27 lk_B_perform_42 (po_54 _ _) rfl rfl rfl (Nat.le_of_ble_eq_true rfl) (by first | decide | omega) (Nat.le_of_ble_eq_true rfl) ?_
        refine sp_kof (l := []) K ?_
        show PW _ _ _ 30 [some (.ref 54), some (.int a1), some (.int 2), some (.int a3)] [.int 5, .ref 54] (E (tr 56 435 x []) y)
        refine PW_iload_n c_B_perform_30 rfl ?_
        refine PW_iload_n c_B_perform_31 rfl ?_
        refine PW_iload_n c_B_perform_32 rfl ?_
        refine PW_iconst (v := 0) c_B_perform_33 (by decide) ?_
        refine PW_V0 (d2 := 15) (st := []) [.int 5, .int 2, .int a3, .int a1, .int 0] c_B_perform_34 lk_B_perform_45 (po_54 _ _) rfl rfl rfl (Nat.le_of_ble_eq_true rfl) (by first | decide | omega) (Nat.le_of_ble_eq_true rfl) ?_
        refine PW.deeper (k := (9, 0, 0, z)) (Nat.le_of_ble_eq_true rfl) (Nat.le_refl _) (Nat.le_refl _) ?_
        refine sp_call_5_5_2 (l := []) (d := 0) K rfl (by omega) (by decide) ?_
        show PW _ _ _ 37 [some (.ref 54), some (.int a1), some (.int 2), some (.int a3)] [.int (((a3 ^^^ a1) * 3) - ((2 : Int32) + a1))] (E (tr 56 435 x (1 :: 11 :: 40 :: 60 :: [])) y)
        refine PW_ireturn (ty := .int) c_B_perform_37 rfl rfl ?_
        show PW _ _ _ 10 [some (.ref 5), some (.int a1), some (.int 2), some (.int a3)] [.int (((a3 ^^^ a1) * 3) - ((2 : Int32) + a1))] (E (tr 56 435 x (1 :: 11 :: 40 :: 60 :: [])) y)
        refine PW_ireturn (ty := .int) c_G_act_10 rfl rfl ?_
        exact h
      · refine PW.deeper (k := (9, 0, 0, z)) (Nat.le_of_ble_eq_true rfl) (Nat.le_refl _) (Nat.le_refl _) ?_
        refine PW_aload_n c_M_act_0 rfl ?_
        refine PW_iconst (v := 0) c_M_act_1 (by decide) ?_
        refine PW_put (w2 := E (tr 56 435 x (1 :: 11 :: 40 :: 60 :: [])) (sI y 611 0)) c_M_act_2 fp_M_act_358 rfl (pf_70_51 _ _ _) ?_
        refine PW_aload_n c_M_act_5 rfl ?_
        refine PW_iload_n c_M_act_6 rfl ?_
        refine PW_V0 (d2 := 1) (st := []) [.int a1] c_M_act_7 lk_M_act_397 (po_70 _ _) rfl rfl rfl (Nat.le_of_ble_eq_true rfl) (by first | decide | omega) (Nat.le_of_ble_eq_true rfl) ?_
        refine sp_M_isBody2 hB ?_
        show PW _ _ _ 10 [some (.ref 70), some (.int a1), some (.int 2), some (.int a3)] [.int (b2i (0 ≤ a1.toInt ∧ a1.toInt < (nB (sI y 611 0) : Int)))] (E (tr 56 435 x (1 :: 11 :: 40 :: 60 :: [])) (sI y 611 0))
        refine PW_if_eq c_M_act_10 (fun h0 => absurd hc0 (b2i_0.mp h0)) (fun _ => ?_)
        refine PW_iload_n c_M_act_13 rfl ?_
        refine PW_iconst (v := 0) c_M_act_14 (by decide) ?_
        refine PW_iconst (v := 3) c_M_act_15 (by decide) ?_
        refine PW_S0 (d2 := 0) (st := []) [.int 2, .int 0, .int 3] c_M_act_16 lk_M_act_131 rfl rfl rfl (Nat.le_of_ble_eq_true rfl) (by first | decide | omega) (Nat.le_of_ble_eq_true rfl) ?_
        refine sp_M_within  ?_
        show PW _ _ _ 19 [some (.ref 70), some (.int a1), some (.int 2), some (.int a3)] [.int (b2i ((0 : Int32) ≤ (2 : Int32) ∧ (2 : Int32) ≤ (3 : Int32)))] (E (tr 56 435 x (1 :: 11 :: 40 :: 60 :: [])) (sI y 611 0))
        refine PW_if_ne c_M_act_19 (fun _ => ?_) (fun h1 => absurd (by decide) (b2i_0.mp h1))
        rw [← tr_nil 103 611 y]
        show PW _ _ _ 24 [some (.ref 70), some (.int a1), some (.int 2), some (.int a3)] [] (E (tr 56 435 x (1 :: 11 :: 40 :: 60 :: [])) (tr 103 611 y []))
        refine PW_iload_n c_M_act_24 rfl ?_
        refine PW_if_ne c_M_act_25 (fun _ => ?_) (fun h2 => absurd h2 (by decide))
        refine PW_iload_n c_M_act_37 rfl ?_
        refine PW_iconst (v := 1) c_M_act_38 (by decide) ?_
        refine PW_icmp_ne c_M_act_39 (fun _ => ?_) (fun h3 => absurd h3 (by decide))
        refine PW_iload_n c_M_act_51 rfl ?_
        refine PW_iconst (v := 2) c_M_act_52 (by decide) ?_
        refine PW_icmp_ne c_M_act_53 (fun h4 => absurd (by decide) h4) (fun _ => ?_)
        refine PW_aload_n c_M_act_56 rfl ?_
        refine PW_iload_n c_M_act_57 rfl ?_
        refine PW_iload_n c_M_act_58 rfl ?_
        refine PW_V0 (d2 := 4) (st := []) [.int a1, .int a3] c_M_act_59 lk_M_act_382 (po_70 _ _) rfl rfl rfl (Nat.le_of_ble_eq_true rfl) (by first | decide | omega) (Nat.le_of_ble_eq_true rfl) ?_
        refine sp_M_turning_5 (l := []) K2 (by decide) ?_
        show PW _ _ _ 62 [some (.ref 70), some (.int a1), some (.int 2), some (.int a3)] [.int (((a3 ^^^ a1) * 3) - ((2 : Int32) + a1))] (E (tr 56 435 x (1 :: 11 :: 40 :: 60 :: [])) (tr 103 611 y (1 :: 11 :: 40 :: 60 :: [])))
        refine PW_goto c_M_act_62 ?_
        refine PW_ireturn (ty := .int) c_M_act_71 rfl rfl ?_
        exact h
    · refine ⟨a3 ^^^ a1, tr 56 435 x (11 :: []), tr 103 611 y (11 :: []), ?_, fun {z post} h => ?_, fun {z post} h => ?_⟩
      · exact INV_step (INV_tr hI _ (by decide))
      · refine PW.deeper (k := (17, 0, 0, z)) (Nat.le_of_ble_eq_true rfl) (Nat.le_refl _) (Nat.le_refl _) ?_
        refine PW_aload_n c_G_act_0 rfl ?_
        refine PW_get (v := .ref 54) c_G_act_1 fl_G_79 (gf_5_9 _ _) ?_
        refine PW_iload_n c_G_act_4 rfl ?_
        refine PW_iload_n c_G_act_5 rfl ?_
        refine PW_iload_n c_G_act_6 rfl ?_
        refine PW_V0 (d2 := 16) (st := []) [.int a1, .int 2, .int a3] c_G_act_7 lk_G_act_305 (po_54 _ _) rfl rfl rfl (Nat.le_of_ble_eq_true rfl) (by first | decide | omega) (Nat.le_of_ble_eq_true rfl) ?_
        show PW _ _ _ 0 [some (.ref 54), some (.int a1), some (.int 2), some (.int a3)] [] (E x y)
        refine PW_aload_n c_B_perform_0 rfl ?_
        refine PW_iconst (v := 0) c_B_perform_1 (by decide) ?_
        refine PW_put (w2 := E (sI x 435 0) y) c_B_perform_2 fp_B_perform_36 rfl (pf_54_3 _ _ _) ?_
        refine PW_aload_n c_B_perform_5 rfl ?_
        refine PW_iload_n c_B_perform_6 rfl ?_
        refine PW_V0 (d2 := 0) (st := []) [.int a1] c_B_perform_7 lk_B_perform_39 (po_54 _ _) rfl rfl rfl (Nat.le_of_ble_eq_true rfl) (by first | decide | omega) (Nat.le_of_ble_eq_true rfl) ?_
        refine sp_B_isBody hB hbx ?_
        show PW _ _ _ 10 [some (.ref 54), some (.int a1), some (.int 2), some (.int a3)] [.int (b2i (0 ≤ a1.toInt ∧ a1.toInt < (nB y : Int)))] (E (sI x 435 0) y)
        refine PW_if_eq c_B_perform_10 (fun h0 => absurd hc0 (b2i_0.mp h0)) (fun _ => ?_)
        refine PW_iload_n c_B_perform_13 rfl ?_
        refine PW_if_lt c_B_perform_14 (fun h1 => absurd h1 (by decide)) (fun _ => ?_)
        refine PW_iload_n c_B_perform_17 rfl ?_
        refine PW_iconst (v := 4) c_B_perform_18 (by decide) ?_
        refine PW_icmp_lt c_B_perform_19 (fun _ => ?_) (fun h2 => absurd (by decide) h2)
        rw [← tr_nil 56 435 x]
        show PW _ _ _ 24 [some (.ref 54), some (.int a1), some (.int 2), some (.int a3)] [] (E (tr 56 435 x []) y)
        refine PW_aload_n c_B_perform_24 rfl ?_
        refine PW_aload_n c_B_perform_25 rfl ?_
        refine PW_iload_n c_B_perform_26 rfl ?_
        refine PW_V0 (d2 := 1) (st := [.ref 54]) [.int a1] c_B_perform_27 lk_B_perform_42 (po_54 _ _) rfl rfl rfl (Nat.le_of_ble_eq_true rfl) (by first | decide | omega) (Nat.le_of_ble_eq_true rfl) ?_
        refine sp_kof (l := []) K ?_
        show PW _ _ _ 30 [some (.ref 54), some (.int a1), some (.int 2), some (.int a3)] [.int 6, .ref 54] (E (tr 56 435 x []) y)
        refine PW_iload_n c_B_perform_30 rfl ?_
        refine PW_iload_n c_B_perform_31 rfl ?_
        refine PW_iload_n c_B_perform_32 rfl ?_
        refine PW_iconst (v := 0) c_B_perform_33 (by decide) ?_
        refine PW_V0 (d2 := 15) (st := []) [.int 6, .int 2, .int a3, .int a1, .int 0] c_B_perform_34 lk_B_perform_45 (po_54 _ _) rfl rfl rfl (Nat.le_of_ble_eq_true rfl) (by first | decide | omega) (Nat.le_of_ble_eq_true rfl) ?_
        refine PW.deeper (k := (5, 0, 0, z)) (Nat.le_of_ble_eq_true rfl) (Nat.le_refl _) (Nat.le_refl _) ?_
        refine sp_call_6_6_2 (l := []) (d := 0) K rfl (by omega) (by decide) ?_
        show PW _ _ _ 37 [some (.ref 54), some (.int a1), some (.int 2), some (.int a3)] [.int (a3 ^^^ a1)] (E (tr 56 435 x (11 :: [])) y)
        refine PW_ireturn (ty := .int) c_B_perform_37 rfl rfl ?_
        show PW _ _ _ 10 [some (.ref 5), some (.int a1), some (.int 2), some (.int a3)] [.int (a3 ^^^ a1)] (E (tr 56 435 x (11 :: [])) y)
        refine PW_ireturn (ty := .int) c_G_act_10 rfl rfl ?_
        exact h
      · refine PW.deeper (k := (9, 0, 0, z)) (Nat.le_of_ble_eq_true rfl) (Nat.le_refl _) (Nat.le_refl _) ?_
        refine PW_aload_n c_M_act_0 rfl ?_
        refine PW_iconst (v := 0) c_M_act_1 (by decide) ?_
        refine PW_put (w2 := E (tr 56 435 x (11 :: [])) (sI y 611 0)) c_M_act_2 fp_M_act_358 rfl (pf_70_51 _ _ _) ?_
        refine PW_aload_n c_M_act_5 rfl ?_
        refine PW_iload_n c_M_act_6 rfl ?_
        refine PW_V0 (d2 := 1) (st := []) [.int a1] c_M_act_7 lk_M_act_397 (po_70 _ _) rfl rfl rfl (Nat.le_of_ble_eq_true rfl) (by first | decide | omega) (Nat.le_of_ble_eq_true rfl) ?_
        refine sp_M_isBody2 hB ?_
        show PW _ _ _ 10 [some (.ref 70), some (.int a1), some (.int 2), some (.int a3)] [.int (b2i (0 ≤ a1.toInt ∧ a1.toInt < (nB (sI y 611 0) : Int)))] (E (tr 56 435 x (11 :: [])) (sI y 611 0))
        refine PW_if_eq c_M_act_10 (fun h0 => absurd hc0 (b2i_0.mp h0)) (fun _ => ?_)
        refine PW_iload_n c_M_act_13 rfl ?_
        refine PW_iconst (v := 0) c_M_act_14 (by decide) ?_
        refine PW_iconst (v := 3) c_M_act_15 (by decide) ?_
        refine PW_S0 (d2 := 0) (st := []) [.int 2, .int 0, .int 3] c_M_act_16 lk_M_act_131 rfl rfl rfl (Nat.le_of_ble_eq_true rfl) (by first | decide | omega) (Nat.le_of_ble_eq_true rfl) ?_
        refine sp_M_within  ?_
        show PW _ _ _ 19 [some (.ref 70), some (.int a1), some (.int 2), some (.int a3)] [.int (b2i ((0 : Int32) ≤ (2 : Int32) ∧ (2 : Int32) ≤ (3 : Int32)))] (E (tr 56 435 x (11 :: [])) (sI y 611 0))
        refine PW_if_ne c_M_act_19 (fun _ => ?_) (fun h1 => absurd (by decide) (b2i_0.mp h1))
        rw [← tr_nil 103 611 y]
        show PW _ _ _ 24 [some (.ref 70), some (.int a1), some (.int 2), some (.int a3)] [] (E (tr 56 435 x (11 :: [])) (tr 103 611 y []))
        refine PW_iload_n c_M_act_24 rfl ?_
        refine PW_if_ne c_M_act_25 (fun _ => ?_) (fun h2 => absurd h2 (by decide))
        refine PW_iload_n c_M_act_37 rfl ?_
        refine PW_iconst (v := 1) c_M_act_38 (by decide) ?_
        refine PW_icmp_ne c_M_act_39 (fun _ => ?_) (fun h3 => absurd h3 (by decide))
        refine PW_iload_n c_M_act_51 rfl ?_
        refine PW_iconst (v := 2) c_M_act_52 (by decide) ?_
        refine PW_icmp_ne c_M_act_53 (fun h4 => absurd (by decide) h4) (fun _ => ?_)
        refine PW_aload_n c_M_act_56 rfl ?_
        refine PW_iload_n c_M_act_57 rfl ?_
        refine PW_iload_n c_M_act_58 rfl ?_
        refine PW_V0 (d2 := 4) (st := []) [.int a1, .int a3] c_M_act_59 lk_M_act_382 (po_70 _ _) rfl rfl rfl (Nat.le_of_ble_eq_true rfl) (by first | decide | omega) (Nat.le_of_ble_eq_true rfl) ?_
        refine sp_M_turning_6 (l := []) K2 (by decide) ?_
        show PW _ _ _ 62 [some (.ref 70), some (.int a1), some (.int 2), some (.int a3)] [.int (a3 ^^^ a1)] (E (tr 56 435 x (11 :: [])) (tr 103 611 y (11 :: [])))
        refine PW_goto c_M_act_62 ?_
        refine PW_ireturn (ty := .int) c_M_act_71 rfl rfl ?_
        exact h
    · refine ⟨a3 ^^^ a1, tr 56 435 x (11 :: []), tr 103 611 y (11 :: []), ?_, fun {z post} h => ?_, fun {z post} h => ?_⟩
      · exact INV_step (INV_tr hI _ (by decide))
      · refine PW.deeper (k := (17, 0, 0, z)) (Nat.le_of_ble_eq_true rfl) (Nat.le_refl _) (Nat.le_refl _) ?_
        refine PW_aload_n c_G_act_0 rfl ?_
        refine PW_get (v := .ref 54) c_G_act_1 fl_G_79 (gf_5_9 _ _) ?_
        refine PW_iload_n c_G_act_4 rfl ?_
        refine PW_iload_n c_G_act_5 rfl ?_
        refine PW_iload_n c_G_act_6 rfl ?_
        refine PW_V0 (d2 := 16) (st := []) [.int a1, .int 2, .int a3] c_G_act_7 lk_G_act_305 (po_54 _ _) rfl rfl rfl (Nat.le_of_ble_eq_true rfl) (by first | decide | omega) (Nat.le_of_ble_eq_true rfl) ?_
        show PW _ _ _ 0 [some (.ref 54), some (.int a1), some (.int 2), some (.int a3)] [] (E x y)
        refine PW_aload_n c_B_perform_0 rfl ?_
        refine PW_iconst (v := 0) c_B_perform_1 (by decide) ?_
        refine PW_put (w2 := E (sI x 435 0) y) c_B_perform_2 fp_B_perform_36 rfl (pf_54_3 _ _ _) ?_
        refine PW_aload_n c_B_perform_5 rfl ?_
        refine PW_iload_n c_B_perform_6 rfl ?_
        refine PW_V0 (d2 := 0) (st := []) [.int a1] c_B_perform_7 lk_B_perform_39 (po_54 _ _) rfl rfl rfl (Nat.le_of_ble_eq_true rfl) (by first | decide | omega) (Nat.le_of_ble_eq_true rfl) ?_
        refine sp_B_isBody hB hbx ?_
        show PW _ _ _ 10 [some (.ref 54), some (.int a1), some (.int 2), some (.int a3)] [.int (b2i (0 ≤ a1.toInt ∧ a1.toInt < (nB y : Int)))] (E (sI x 435 0) y)
        refine PW_if_eq c_B_perform_10 (fun h0 => absurd hc0 (b2i_0.mp h0)) (fun _ => ?_)
        refine PW_iload_n c_B_perform_13 rfl ?_
        refine PW_if_lt c_B_perform_14 (fun h1 => absurd h1 (by decide)) (fun _ => ?_)
        refine PW_iload_n c_B_perform_17 rfl ?_
        refine PW_iconst (v := 4) c_B_perform_18 (by decide) ?_
        refine PW_icmp_lt c_B_perform_19 (fun _ => ?_) (fun h2 => absurd (by decide) h2)
        rw [← tr_nil 56 435 x]
        show PW _ _ _ 24 [some (.ref 54), some (.int a1), some (.int 2), some (.int a3)] [] (E (tr 56 435 x []) y)
        refine PW_aload_n c_B_perform_24 rfl ?_
        refine PW_aload_n c_B_perform_25 rfl ?_
        refine PW_iload_n c_B_perform_26 rfl ?_
        refine PW_V0 (d2 := 1) (st := [.ref 54]) [.int a1] c_B_perform_27 lk_B_perform_42 (po_54 _ _) rfl rfl rfl (Nat.le_of_ble_eq_true rfl) (by first | decide | omega) (Nat.le_of_ble_eq_true rfl) ?_
        refine sp_kof (l := []) K ?_
        show PW _ _ _ 30 [some (.ref 54), some (.int a1), some (.int 2), some (.int a3)] [.int 7, .ref 54] (E (tr 56 435 x []) y)
        refine PW_iload_n c_B_perform_30 rfl ?_
        refine PW_iload_n c_B_perform_31 rfl ?_
        refine PW_iload_n c_B_perform_32 rfl ?_
        refine PW_iconst (v := 0) c_B_perform_33 (by decide) ?_
        refine PW_V0 (d2 := 15) (st := []) [.int 7, .int 2, .int a3, .int a1, .int 0] c_B_perform_34 lk_B_perform_45 (po_54 _ _) rfl rfl rfl (Nat.le_of_ble_eq_true rfl) (by first | decide | omega) (Nat.le_of_ble_eq_true rfl) ?_
        refine PW.deeper (k := (5, 0, 0, z)) (Nat.le_of_ble_eq_true rfl) (Nat.le_refl _) (Nat.le_refl _) ?_
        refine sp_call_7_7_2 (l := []) (d := 0) K rfl (by omega) (by decide) ?_
        show PW _ _ _ 37 [some (.ref 54), some (.int a1), some (.int 2), some (.int a3)] [.int (a3 ^^^ a1)] (E (tr 56 435 x (11 :: [])) y)
        refine PW_ireturn (ty := .int) c_B_perform_37 rfl rfl ?_
        show PW _ _ _ 10 [some (.ref 5), some (.int a1), some (.int 2), some (.int a3)] [.int (a3 ^^^ a1)] (E (tr 56 435 x (11 :: [])) y)
        refine PW_ireturn (ty := .int) c_G_act_10 rfl rfl ?_
        exact h
      · refine PW.deeper (k := (9, 0, 0, z)) (Nat.le_of_ble_eq_true rfl) (Nat.le_refl _) (Nat.le_refl _) ?_
        refine PW_aload_n c_M_act_0 rfl ?_
        refine PW_iconst (v := 0) c_M_act_1 (by decide) ?_
        refine PW_put (w2 := E (tr 56 435 x (11 :: [])) (sI y 611 0)) c_M_act_2 fp_M_act_358 rfl (pf_70_51 _ _ _) ?_
        refine PW_aload_n c_M_act_5 rfl ?_
        refine PW_iload_n c_M_act_6 rfl ?_
        refine PW_V0 (d2 := 1) (st := []) [.int a1] c_M_act_7 lk_M_act_397 (po_70 _ _) rfl rfl rfl (Nat.le_of_ble_eq_true rfl) (by first | decide | omega) (Nat.le_of_ble_eq_true rfl) ?_
        refine sp_M_isBody2 hB ?_
        show PW _ _ _ 10 [some (.ref 70), some (.int a1), some (.int 2), some (.int a3)] [.int (b2i (0 ≤ a1.toInt ∧ a1.toInt < (nB (sI y 611 0) : Int)))] (E (tr 56 435 x (11 :: [])) (sI y 611 0))
        refine PW_if_eq c_M_act_10 (fun h0 => absurd hc0 (b2i_0.mp h0)) (fun _ => ?_)
        refine PW_iload_n c_M_act_13 rfl ?_
        refine PW_iconst (v := 0) c_M_act_14 (by decide) ?_
        refine PW_iconst (v := 3) c_M_act_15 (by decide) ?_
        refine PW_S0 (d2 := 0) (st := []) [.int 2, .int 0, .int 3] c_M_act_16 lk_M_act_131 rfl rfl rfl (Nat.le_of_ble_eq_true rfl) (by first | decide | omega) (Nat.le_of_ble_eq_true rfl) ?_
        refine sp_M_within  ?_
        show PW _ _ _ 19 [some (.ref 70), some (.int a1), some (.int 2), some (.int a3)] [.int (b2i ((0 : Int32) ≤ (2 : Int32) ∧ (2 : Int32) ≤ (3 : Int32)))] (E (tr 56 435 x (11 :: [])) (sI y 611 0))
        refine PW_if_ne c_M_act_19 (fun _ => ?_) (fun h1 => absurd (by decide) (b2i_0.mp h1))
        rw [← tr_nil 103 611 y]
        show PW _ _ _ 24 [some (.ref 70), some (.int a1), some (.int 2), some (.int a3)] [] (E (tr 56 435 x (11 :: [])) (tr 103 611 y []))
        refine PW_iload_n c_M_act_24 rfl ?_
        refine PW_if_ne c_M_act_25 (fun _ => ?_) (fun h2 => absurd h2 (by decide))
        refine PW_iload_n c_M_act_37 rfl ?_
        refine PW_iconst (v := 1) c_M_act_38 (by decide) ?_
        refine PW_icmp_ne c_M_act_39 (fun _ => ?_) (fun h3 => absurd h3 (by decide))
        refine PW_iload_n c_M_act_51 rfl ?_
        refine PW_iconst (v := 2) c_M_act_52 (by decide) ?_
        refine PW_icmp_ne c_M_act_53 (fun h4 => absurd (by decide) h4) (fun _ => ?_)
        refine PW_aload_n c_M_act_56 rfl ?_
        refine PW_iload_n c_M_act_57 rfl ?_
        refine PW_iload_n c_M_act_58 rfl ?_
        refine PW_V0 (d2 := 4) (st := []) [.int a1, .int a3] c_M_act_59 lk_M_act_382 (po_70 _ _) rfl rfl rfl (Nat.le_of_ble_eq_true rfl) (by first | decide | omega) (Nat.le_of_ble_eq_true rfl) ?_
        refine sp_M_turning_7 (l := []) K2 (by decide) ?_
        show PW _ _ _ 62 [some (.ref 70), some (.int a1), some (.int 2), some (.int a3)] [.int (a3 ^^^ a1)] (E (tr 56 435 x (11 :: [])) (tr 103 611 y (11 :: [])))
        refine PW_goto c_M_act_62 ?_
        refine PW_ireturn (ty := .int) c_M_act_71 rfl rfl ?_
        exact h
  by_cases hw3 : a2 = 3
  · subst hw3
    have hbn : (y.1 609).toInt = nB y := by rw [hB.1, nI_toInt (by have := hB.2; omega)]
    obtain ⟨f1, f2, f3⟩ := hbk a1.toNatClampNeg (by show a1.toInt.toNat < nB y; omega)
    obtain ⟨u, u1, u2, u3, u4⟩ := nI_ex f2
    have hu8 : u < 8 := by omega
    have hB50 := hB.2
    have K : kb x a1 (nI u) := ⟨⟨hc0.1, by rw [hbx, hbn]; exact hc0.2⟩, by omega, by rw [f1]; exact u2⟩
    have K2 : km y a1 (nI u) := ⟨⟨hc0.1, by omega⟩, u2⟩
    rcases (show u = 0 ∨ u = 1 ∨ u = 2 ∨ u = 3 ∨ u = 4 ∨ u = 5 ∨ u = 6 ∨ u = 7 by omega) with rfl | rfl | rfl | rfl | rfl | rfl | rfl | rfl
    · refine ⟨((a3 + a1) * 2) - ((1 : Int32) ^^^ a1), tr 56 435 x (11 :: 1 :: 10 :: 2 :: []), tr 103 611 y (11 :: 1 :: 10 :: 2 :: []), ?_, fun {z post} h => ?_, fun {z post} h => ?_⟩
      · exact INV_step (INV_tr hI _ (by decide))
      · refine PW.deeper (k := (17, 0, 0, z)) (Nat.le_of_ble_eq_true rfl) (Nat.le_refl _) (Nat.le_refl _) ?_
        refine PW_aload_n c_G_act_0 rfl ?_
        refine PW_get (v := .ref 54) c_G_act_1 fl_G_79 (gf_5_9 _ _) ?_
        refine PW_iload_n c_G_act_4 rfl ?_
        refine PW_iload_n c_G_act_5 rfl ?_
        refine PW_iload_n c_G_act_6 rfl ?_
        refine PW_V0 (d2 := 16) (st := []) [.int a1, .int 3, .int a3] c_G_act_7 lk_G_act_305 (po_54 _ _) rfl rfl rfl (Nat.le_of_ble_eq_true rfl) (by first | decide | omega) (Nat.le_of_ble_eq_true rfl) ?_
        show PW _ _ _ 0 [some (.ref 54), some (.int a1), some (.int 3), some (.int a3)] [] (E x y)
        refine PW_aload_n c_B_perform_0 rfl ?_
        refine PW_iconst (v := 0) c_B_perform_1 (by decide) ?_
        refine PW_put (w2 := E (sI x 435 0) y) c_B_perform_2 fp_B_perform_36 rfl (pf_54_3 _ _ _) ?_
        refine PW_aload_n c_B_perform_5 rfl ?_
        refine PW_iload_n c_B_perform_6 rfl ?_
        refine PW_V0 (d2 := 0) (st := []) [.int a1] c_B_perform_7 lk_B_perform_39 (po_54 _ _) rfl rfl rfl (Nat.le_of_ble_eq_true rfl) (by first | decide | omega) (Nat.le_of_ble_eq_true rfl) ?_
        refine sp_B_isBody hB hbx ?_
        show PW _ _ _ 10 [some (.ref 54), some (.int a1), some (.int 3), some (.int a3)] [.int (b2i (0 ≤ a1.toInt ∧ a1.toInt < (nB y : Int)))] (E (sI x 435 0) y)
        refine PW_if_eq c_B_perform_10 (fun h0 => absurd hc0 (b2i_0.mp h0)) (fun _ => ?_)
        refine PW_iload_n c_B_perform_13 rfl ?_
        refine PW_if_lt c_B_perform_14 (fun h1 => absurd h1 (by decide)) (fun _ => ?_)
        refine PW_iload_n c_B_perform_17 rfl ?_
        refine PW_iconst (v := 4) c_B_perform_18 (by decide) ?_
        refine PW_icmp_lt c_B_perform_19 (fun _ => ?_) (fun h2 => absurd (by decide) h2)
        rw [← tr_nil 56 435 x]
        show PW _ _ _ 24 [some (.ref 54), some (.int a1), some (.int 3), some (.int a3)] [] (E (tr 56 435 x []) y)
        refine PW_aload_n c_B_perform_24 rfl ?_
        refine PW_aload_n c_B_perform_25 rfl ?_
        refine PW_iload_n c_B_perform_26 rfl ?_
        refine PW_V0 (d2 := 1) (st := [.ref 54]) [.int a1] c_B_perform_27 lk_B_perform_42 (po_54 _ _) rfl rfl rfl (Nat.le_of_ble_eq_true rfl) (by first | decide | omega) (Nat.le_of_ble_eq_true rfl) ?_
        refine sp_kof (l := []) K ?_
        show PW _ _ _ 30 [some (.ref 54), some (.int a1), some (.int 3), some (.int a3)] [.int 0, .ref 54] (E (tr 56 435 x []) y)
        refine PW_iload_n c_B_perform_30 rfl ?_
        refine PW_iload_n c_B_perform_31 rfl ?_
        refine PW_iload_n c_B_perform_32 rfl ?_
        refine PW_iconst (v := 0) c_B_perform_33 (by decide) ?_
        refine PW_V0 (d2 := 15) (st := []) [.int 0, .int 3, .int a3, .int a1, .int 0] c_B_perform_34 lk_B_perform_45 (po_54 _ _) rfl rfl rfl (Nat.le_of_ble_eq_true rfl) (by first | decide | omega) (Nat.le_of_ble_eq_true rfl) ?_
        refine PW.deeper (k := (9, 0, 0, z)) (Nat.le_of_ble_eq_true rfl) (Nat.le_refl _) (Nat.le_refl _) ?_
        refine sp_call_0_0_3 (l := []) (d := 0) K rfl (by omega) (by decide) ?_
        show PW _ _ _ 37 [some (.ref 54), some (.int a1), some (.int 3), some (.int a3)] [.int (((a3 + a1) * 2) - ((1 : Int32) ^^^ a1))] (E (tr 56 435 x (11 :: 1 :: 10 :: 2 :: [])) y)
        refine PW_ireturn (ty := .int) c_B_perform_37 rfl rfl ?_
        show PW _ _ _ 10 [some (.ref 5), some (.int a1), some (.int 3), some (.int a3)] [.int (((a3 + a1) * 2) - ((1 : Int32) ^^^ a1))] (E (tr 56 435 x (11 :: 1 :: 10 :: 2 :: [])) y)
        refine PW_ireturn (ty := .int) c_G_act_10 rfl rfl ?_
        exact h
      · refine PW.deeper (k := (9, 0, 0, z)) (Nat.le_of_ble_eq_true rfl) (Nat.le_refl _) (Nat.le_refl _) ?_
        refine PW_aload_n c_M_act_0 rfl ?_
        refine PW_iconst (v := 0) c_M_act_1 (by decide) ?_
        refine PW_put (w2 := E (tr 56 435 x (11 :: 1 :: 10 :: 2 :: [])) (sI y 611 0)) c_M_act_2 fp_M_act_358 rfl (pf_70_51 _ _ _) ?_
        refine PW_aload_n c_M_act_5 rfl ?_
        refine PW_iload_n c_M_act_6 rfl ?_
        refine PW_V0 (d2 := 1) (st := []) [.int a1] c_M_act_7 lk_M_act_397 (po_70 _ _) rfl rfl rfl (Nat.le_of_ble_eq_true rfl) (by first | decide | omega) (Nat.le_of_ble_eq_true rfl) ?_
        refine sp_M_isBody2 hB ?_
        show PW _ _ _ 10 [some (.ref 70), some (.int a1), some (.int 3), some (.int a3)] [.int (b2i (0 ≤ a1.toInt ∧ a1.toInt < (nB (sI y 611 0) : Int)))] (E (tr 56 435 x (11 :: 1 :: 10 :: 2 :: [])) (sI y 611 0))
        refine PW_if_eq c_M_act_10 (fun h0 => absurd hc0 (b2i_0.mp h0)) (fun _ => ?_)
        refine PW_iload_n c_M_act_13 rfl ?_
        refine PW_iconst (v := 0) c_M_act_14 (by decide) ?_
        refine PW_iconst (v := 3) c_M_act_15 (by decide) ?_
        refine PW_S0 (d2 := 0) (st := []) [.int 3, .int 0, .int 3] c_M_act_16 lk_M_act_131 rfl rfl rfl (Nat.le_of_ble_eq_true rfl) (by first | decide | omega) (Nat.le_of_ble_eq_true rfl) ?_
        refine sp_M_within  ?_
        show PW _ _ _ 19 [some (.ref 70), some (.int a1), some (.int 3), some (.int a3)] [.int (b2i ((0 : Int32) ≤ (3 : Int32) ∧ (3 : Int32) ≤ (3 : Int32)))] (E (tr 56 435 x (11 :: 1 :: 10 :: 2 :: [])) (sI y 611 0))
        refine PW_if_ne c_M_act_19 (fun _ => ?_) (fun h1 => absurd (by decide) (b2i_0.mp h1))
        rw [← tr_nil 103 611 y]
        show PW _ _ _ 24 [some (.ref 70), some (.int a1), some (.int 3), some (.int a3)] [] (E (tr 56 435 x (11 :: 1 :: 10 :: 2 :: [])) (tr 103 611 y []))
        refine PW_iload_n c_M_act_24 rfl ?_
        refine PW_if_ne c_M_act_25 (fun _ => ?_) (fun h2 => absurd h2 (by decide))
        refine PW_iload_n c_M_act_37 rfl ?_
        refine PW_iconst (v := 1) c_M_act_38 (by decide) ?_
        refine PW_icmp_ne c_M_act_39 (fun _ => ?_) (fun h3 => absurd h3 (by decide))
        refine PW_iload_n c_M_act_51 rfl ?_
        refine PW_iconst (v := 2) c_M_act_52 (by decide) ?_
        refine PW_icmp_ne c_M_act_53 (fun _ => ?_) (fun h4 => absurd h4 (by decide))
        refine PW_aload_n c_M_act_65 rfl ?_
        refine PW_iload_n c_M_act_66 rfl ?_
        refine PW_iload_n c_M_act_67 rfl ?_
        refine PW_V0 (d2 := 8) (st := []) [.int a1, .int a3] c_M_act_68 lk_M_act_400 (po_70 _ _) rfl rfl rfl (Nat.le_of_ble_eq_true rfl) (by first | decide | omega) (Nat.le_of_ble_eq_true rfl) ?_
        refine sp_M_telling_0 (l := []) K2 (by decide) ?_
        show PW _ _ _ 71 [some (.ref 70), some (.int a1), some (.int 3), some (.int a3)] [.int (((a3 + a1) * 2) - ((1 : Int32) ^^^ a1))] (E (tr 56 435 x (11 :: 1 :: 10 :: 2 :: [])) (tr 103 611 y (11 :: 1 :: 10 :: 2 :: [])))
        refine PW_ireturn (ty := .int) c_M_act_71 rfl rfl ?_
        exact h
    · refine ⟨(((a3 + a1) + 3) * 2) - ((1 : Int32) ^^^ a1), tr 56 435 x (11 :: 1 :: 20 :: 10 :: 2 :: []), tr 103 611 y (11 :: 1 :: 20 :: 10 :: 2 :: []), ?_, fun {z post} h => ?_, fun {z post} h => ?_⟩
      · exact INV_step (INV_tr hI _ (by decide))
      · refine PW.deeper (k := (17, 0, 0, z)) (Nat.le_of_ble_eq_true rfl) (Nat.le_refl _) (Nat.le_refl _) ?_
        refine PW_aload_n c_G_act_0 rfl ?_
        refine PW_get (v := .ref 54) c_G_act_1 fl_G_79 (gf_5_9 _ _) ?_
        refine PW_iload_n c_G_act_4 rfl ?_
        refine PW_iload_n c_G_act_5 rfl ?_
        refine PW_iload_n c_G_act_6 rfl ?_
        refine PW_V0 (d2 := 16) (st := []) [.int a1, .int 3, .int a3] c_G_act_7 lk_G_act_305 (po_54 _ _) rfl rfl rfl (Nat.le_of_ble_eq_true rfl) (by first | decide | omega) (Nat.le_of_ble_eq_true rfl) ?_
        show PW _ _ _ 0 [some (.ref 54), some (.int a1), some (.int 3), some (.int a3)] [] (E x y)
        refine PW_aload_n c_B_perform_0 rfl ?_
        refine PW_iconst (v := 0) c_B_perform_1 (by decide) ?_
        refine PW_put (w2 := E (sI x 435 0) y) c_B_perform_2 fp_B_perform_36 rfl (pf_54_3 _ _ _) ?_
        refine PW_aload_n c_B_perform_5 rfl ?_
        refine PW_iload_n c_B_perform_6 rfl ?_
        refine PW_V0 (d2 := 0) (st := []) [.int a1] c_B_perform_7 lk_B_perform_39 (po_54 _ _) rfl rfl rfl (Nat.le_of_ble_eq_true rfl) (by first | decide | omega) (Nat.le_of_ble_eq_true rfl) ?_
        refine sp_B_isBody hB hbx ?_
        show PW _ _ _ 10 [some (.ref 54), some (.int a1), some (.int 3), some (.int a3)] [.int (b2i (0 ≤ a1.toInt ∧ a1.toInt < (nB y : Int)))] (E (sI x 435 0) y)
        refine PW_if_eq c_B_perform_10 (fun h0 => absurd hc0 (b2i_0.mp h0)) (fun _ => ?_)
        refine PW_iload_n c_B_perform_13 rfl ?_
        refine PW_if_lt c_B_perform_14 (fun h1 => absurd h1 (by decide)) (fun _ => ?_)
        refine PW_iload_n c_B_perform_17 rfl ?_
        refine PW_iconst (v := 4) c_B_perform_18 (by decide) ?_
        refine PW_icmp_lt c_B_perform_19 (fun _ => ?_) (fun h2 => absurd (by decide) h2)
        rw [← tr_nil 56 435 x]
        show PW _ _ _ 24 [some (.ref 54), some (.int a1), some (.int 3), some (.int a3)] [] (E (tr 56 435 x []) y)
        refine PW_aload_n c_B_perform_24 rfl ?_
        refine PW_aload_n c_B_perform_25 rfl ?_
        refine PW_iload_n c_B_perform_26 rfl ?_
        refine PW_V0 (d2 := 1) (st := [.ref 54]) [.int a1] c_B_perform_27 lk_B_perform_42 (po_54 _ _) rfl rfl rfl (Nat.le_of_ble_eq_true rfl) (by first | decide | omega) (Nat.le_of_ble_eq_true rfl) ?_
        refine sp_kof (l := []) K ?_
        show PW _ _ _ 30 [some (.ref 54), some (.int a1), some (.int 3), some (.int a3)] [.int 1, .ref 54] (E (tr 56 435 x []) y)
        refine PW_iload_n c_B_perform_30 rfl ?_
        refine PW_iload_n c_B_perform_31 rfl ?_
        refine PW_iload_n c_B_perform_32 rfl ?_
        refine PW_iconst (v := 0) c_B_perform_33 (by decide) ?_
        refine PW_V0 (d2 := 15) (st := []) [.int 1, .int 3, .int a3, .int a1, .int 0] c_B_perform_34 lk_B_perform_45 (po_54 _ _) rfl rfl rfl (Nat.le_of_ble_eq_true rfl) (by first | decide | omega) (Nat.le_of_ble_eq_true rfl) ?_
        refine PW.deeper (k := (11, 0, 0, z)) (Nat.le_of_ble_eq_true rfl) (Nat.le_refl _) (Nat.le_refl _) ?_
        refine sp_call_1_1_3 (l := []) (d := 0) K rfl (by omega) (by decide) ?_
        show PW _ _ _ 37 [some (.ref 54), some (.int a1), some (.int 3), some (.int a3)] [.int ((((a3 + a1) + 3) * 2) - ((1 : Int32) ^^^ a1))] (E (tr 56 435 x (11 :: 1 :: 20 :: 10 :: 2 :: [])) y)
        refine PW_ireturn (ty := .int) c_B_perform_37 rfl rfl ?_
        show PW _ _ _ 10 [some (.ref 5), some (.int a1), some (.int 3), some (.int a3)] [.int ((((a3 + a1) + 3) * 2) - ((1 : Int32) ^^^ a1))] (E (tr 56 435 x (11 :: 1 :: 20 :: 10 :: 2 :: [])) y)
        refine PW_ireturn (ty := .int) c_G_act_10 rfl rfl ?_
        exact h
      · refine PW.deeper (k := (9, 0, 0, z)) (Nat.le_of_ble_eq_true rfl) (Nat.le_refl _) (Nat.le_refl _) ?_
        refine PW_aload_n c_M_act_0 rfl ?_
        refine PW_iconst (v := 0) c_M_act_1 (by decide) ?_
        refine PW_put (w2 := E (tr 56 435 x (11 :: 1 :: 20 :: 10 :: 2 :: [])) (sI y 611 0)) c_M_act_2 fp_M_act_358 rfl (pf_70_51 _ _ _) ?_
        refine PW_aload_n c_M_act_5 rfl ?_
        refine PW_iload_n c_M_act_6 rfl ?_
        refine PW_V0 (d2 := 1) (st := []) [.int a1] c_M_act_7 lk_M_act_397 (po_70 _ _) rfl rfl rfl (Nat.le_of_ble_eq_true rfl) (by first | decide | omega) (Nat.le_of_ble_eq_true rfl) ?_
        refine sp_M_isBody2 hB ?_
        show PW _ _ _ 10 [some (.ref 70), some (.int a1), some (.int 3), some (.int a3)] [.int (b2i (0 ≤ a1.toInt ∧ a1.toInt < (nB (sI y 611 0) : Int)))] (E (tr 56 435 x (11 :: 1 :: 20 :: 10 :: 2 :: [])) (sI y 611 0))
        refine PW_if_eq c_M_act_10 (fun h0 => absurd hc0 (b2i_0.mp h0)) (fun _ => ?_)
        refine PW_iload_n c_M_act_13 rfl ?_
        refine PW_iconst (v := 0) c_M_act_14 (by decide) ?_
        refine PW_iconst (v := 3) c_M_act_15 (by decide) ?_
        refine PW_S0 (d2 := 0) (st := []) [.int 3, .int 0, .int 3] c_M_act_16 lk_M_act_131 rfl rfl rfl (Nat.le_of_ble_eq_true rfl) (by first | decide | omega) (Nat.le_of_ble_eq_true rfl) ?_
        refine sp_M_within  ?_
        show PW _ _ _ 19 [some (.ref 70), some (.int a1), some (.int 3), some (.int a3)] [.int (b2i ((0 : Int32) ≤ (3 : Int32) ∧ (3 : Int32) ≤ (3 : Int32)))] (E (tr 56 435 x (11 :: 1 :: 20 :: 10 :: 2 :: [])) (sI y 611 0))
        refine PW_if_ne c_M_act_19 (fun _ => ?_) (fun h1 => absurd (by decide) (b2i_0.mp h1))
        rw [← tr_nil 103 611 y]
        show PW _ _ _ 24 [some (.ref 70), some (.int a1), some (.int 3), some (.int a3)] [] (E (tr 56 435 x (11 :: 1 :: 20 :: 10 :: 2 :: [])) (tr 103 611 y []))
        refine PW_iload_n c_M_act_24 rfl ?_
        refine PW_if_ne c_M_act_25 (fun _ => ?_) (fun h2 => absurd h2 (by decide))
        refine PW_iload_n c_M_act_37 rfl ?_
        refine PW_iconst (v := 1) c_M_act_38 (by decide) ?_
        refine PW_icmp_ne c_M_act_39 (fun _ => ?_) (fun h3 => absurd h3 (by decide))
        refine PW_iload_n c_M_act_51 rfl ?_
        refine PW_iconst (v := 2) c_M_act_52 (by decide) ?_
        refine PW_icmp_ne c_M_act_53 (fun _ => ?_) (fun h4 => absurd h4 (by decide))
        refine PW_aload_n c_M_act_65 rfl ?_
        refine PW_iload_n c_M_act_66 rfl ?_
        refine PW_iload_n c_M_act_67 rfl ?_
        refine PW_V0 (d2 := 8) (st := []) [.int a1, .int a3] c_M_act_68 lk_M_act_400 (po_70 _ _) rfl rfl rfl (Nat.le_of_ble_eq_true rfl) (by first | decide | omega) (Nat.le_of_ble_eq_true rfl) ?_
        refine sp_M_telling_1 (l := []) K2 (by decide) ?_
        show PW _ _ _ 71 [some (.ref 70), some (.int a1), some (.int 3), some (.int a3)] [.int ((((a3 + a1) + 3) * 2) - ((1 : Int32) ^^^ a1))] (E (tr 56 435 x (11 :: 1 :: 20 :: 10 :: 2 :: [])) (tr 103 611 y (11 :: 1 :: 20 :: 10 :: 2 :: [])))
        refine PW_ireturn (ty := .int) c_M_act_71 rfl rfl ?_
        exact h
    · refine ⟨(-((a3 + a1) * 2)) - ((1 : Int32) ^^^ a1), tr 56 435 x (11 :: 1 :: 10 :: 30 :: 2 :: []), tr 103 611 y (11 :: 1 :: 10 :: 30 :: 2 :: []), ?_, fun {z post} h => ?_, fun {z post} h => ?_⟩
      · exact INV_step (INV_tr hI _ (by decide))
      · refine PW.deeper (k := (17, 0, 0, z)) (Nat.le_of_ble_eq_true rfl) (Nat.le_refl _) (Nat.le_refl _) ?_
        refine PW_aload_n c_G_act_0 rfl ?_
        refine PW_get (v := .ref 54) c_G_act_1 fl_G_79 (gf_5_9 _ _) ?_
        refine PW_iload_n c_G_act_4 rfl ?_
        refine PW_iload_n c_G_act_5 rfl ?_
        refine PW_iload_n c_G_act_6 rfl ?_
        refine PW_V0 (d2 := 16) (st := []) [.int a1, .int 3, .int a3] c_G_act_7 lk_G_act_305 (po_54 _ _) rfl rfl rfl (Nat.le_of_ble_eq_true rfl) (by first | decide | omega) (Nat.le_of_ble_eq_true rfl) ?_
        show PW _ _ _ 0 [some (.ref 54), some (.int a1), some (.int 3), some (.int a3)] [] (E x y)
        refine PW_aload_n c_B_perform_0 rfl ?_
        refine PW_iconst (v := 0) c_B_perform_1 (by decide) ?_
        refine PW_put (w2 := E (sI x 435 0) y) c_B_perform_2 fp_B_perform_36 rfl (pf_54_3 _ _ _) ?_
        refine PW_aload_n c_B_perform_5 rfl ?_
        refine PW_iload_n c_B_perform_6 rfl ?_
        refine PW_V0 (d2 := 0) (st := []) [.int a1] c_B_perform_7 lk_B_perform_39 (po_54 _ _) rfl rfl rfl (Nat.le_of_ble_eq_true rfl) (by first | decide | omega) (Nat.le_of_ble_eq_true rfl) ?_
        refine sp_B_isBody hB hbx ?_
        show PW _ _ _ 10 [some (.ref 54), some (.int a1), some (.int 3), some (.int a3)] [.int (b2i (0 ≤ a1.toInt ∧ a1.toInt < (nB y : Int)))] (E (sI x 435 0) y)
        refine PW_if_eq c_B_perform_10 (fun h0 => absurd hc0 (b2i_0.mp h0)) (fun _ => ?_)
        refine PW_iload_n c_B_perform_13 rfl ?_
        refine PW_if_lt c_B_perform_14 (fun h1 => absurd h1 (by decide)) (fun _ => ?_)
        refine PW_iload_n c_B_perform_17 rfl ?_
        refine PW_iconst (v := 4) c_B_perform_18 (by decide) ?_
        refine PW_icmp_lt c_B_perform_19 (fun _ => ?_) (fun h2 => absurd (by decide) h2)
        rw [← tr_nil 56 435 x]
        show PW _ _ _ 24 [some (.ref 54), some (.int a1), some (.int 3), some (.int a3)] [] (E (tr 56 435 x []) y)
        refine PW_aload_n c_B_perform_24 rfl ?_
        refine PW_aload_n c_B_perform_25 rfl ?_
        refine PW_iload_n c_B_perform_26 rfl ?_
        refine PW_V0 (d2 := 1) (st := [.ref 54]) [.int a1] c_B_perform_27 lk_B_perform_42 (po_54 _ _) rfl rfl rfl (Nat.le_of_ble_eq_true rfl) (by first | decide | omega) (Nat.le_of_ble_eq_true rfl) ?_
        refine sp_kof (l := []) K ?_
        show PW _ _ _ 30 [some (.ref 54), some (.int a1), some (.int 3), some (.int a3)] [.int 2, .ref 54] (E (tr 56 435 x []) y)
        refine PW_iload_n c_B_perform_30 rfl ?_
        refine PW_iload_n c_B_perform_31 rfl ?_
        refine PW_iload_n c_B_perform_32 rfl ?_
        refine PW_iconst (v := 0) c_B_perform_33 (by decide) ?_
        refine PW_V0 (d2 := 15) (st := []) [.int 2, .int 3, .int a3, .int a1, .int 0] c_B_perform_34 lk_B_perform_45 (po_54 _ _) rfl rfl rfl (Nat.le_of_ble_eq_true rfl) (by first | decide | omega) (Nat.le_of_ble_eq_true rfl) ?_
        refine PW.deeper (k := (11, 0, 0, z)) (Nat.le_of_ble_eq_true rfl) (Nat.le_refl _) (Nat.le_refl _) ?_
        refine sp_call_2_2_3 (l := []) (d := 0) K rfl (by omega) (by decide) ?_
        show PW _ _ _ 37 [some (.ref 54), some (.int a1), some (.int 3), some (.int a3)] [.int ((-((a3 + a1) * 2)) - ((1 : Int32) ^^^ a1))] (E (tr 56 435 x (11 :: 1 :: 10 :: 30 :: 2 :: [])) y)
        refine PW_ireturn (ty := .int) c_B_perform_37 rfl rfl ?_
        show PW _ _ _ 10 [some (.ref 5), some (.int a1), some (.int 3), some (.int a3)] [.int ((-((a3 + a1) * 2)) - ((1 : Int32) ^^^ a1))] (E (tr 56 435 x (11 :: 1 :: 10 :: 30 :: 2 :: [])) y)
        refine PW_ireturn (ty := .int) c_G_act_10 rfl rfl ?_
        exact h
      · refine PW.deeper (k := (9, 0, 0, z)) (Nat.le_of_ble_eq_true rfl) (Nat.le_refl _) (Nat.le_refl _) ?_
        refine PW_aload_n c_M_act_0 rfl ?_
        refine PW_iconst (v := 0) c_M_act_1 (by decide) ?_
        refine PW_put (w2 := E (tr 56 435 x (11 :: 1 :: 10 :: 30 :: 2 :: [])) (sI y 611 0)) c_M_act_2 fp_M_act_358 rfl (pf_70_51 _ _ _) ?_
        refine PW_aload_n c_M_act_5 rfl ?_
        refine PW_iload_n c_M_act_6 rfl ?_
        refine PW_V0 (d2 := 1) (st := []) [.int a1] c_M_act_7 lk_M_act_397 (po_70 _ _) rfl rfl rfl (Nat.le_of_ble_eq_true rfl) (by first | decide | omega) (Nat.le_of_ble_eq_true rfl) ?_
        refine sp_M_isBody2 hB ?_
        show PW _ _ _ 10 [some (.ref 70), some (.int a1), some (.int 3), some (.int a3)] [.int (b2i (0 ≤ a1.toInt ∧ a1.toInt < (nB (sI y 611 0) : Int)))] (E (tr 56 435 x (11 :: 1 :: 10 :: 30 :: 2 :: [])) (sI y 611 0))
        refine PW_if_eq c_M_act_10 (fun h0 => absurd hc0 (b2i_0.mp h0)) (fun _ => ?_)
        refine PW_iload_n c_M_act_13 rfl ?_
        refine PW_iconst (v := 0) c_M_act_14 (by decide) ?_
        refine PW_iconst (v := 3) c_M_act_15 (by decide) ?_
        refine PW_S0 (d2 := 0) (st := []) [.int 3, .int 0, .int 3] c_M_act_16 lk_M_act_131 rfl rfl rfl (Nat.le_of_ble_eq_true rfl) (by first | decide | omega) (Nat.le_of_ble_eq_true rfl) ?_
        refine sp_M_within  ?_
        show PW _ _ _ 19 [some (.ref 70), some (.int a1), some (.int 3), some (.int a3)] [.int (b2i ((0 : Int32) ≤ (3 : Int32) ∧ (3 : Int32) ≤ (3 : Int32)))] (E (tr 56 435 x (11 :: 1 :: 10 :: 30 :: 2 :: [])) (sI y 611 0))
        refine PW_if_ne c_M_act_19 (fun _ => ?_) (fun h1 => absurd (by decide) (b2i_0.mp h1))
        rw [← tr_nil 103 611 y]
        show PW _ _ _ 24 [some (.ref 70), some (.int a1), some (.int 3), some (.int a3)] [] (E (tr 56 435 x (11 :: 1 :: 10 :: 30 :: 2 :: [])) (tr 103 611 y []))
        refine PW_iload_n c_M_act_24 rfl ?_
        refine PW_if_ne c_M_act_25 (fun _ => ?_) (fun h2 => absurd h2 (by decide))
        refine PW_iload_n c_M_act_37 rfl ?_
        refine PW_iconst (v := 1) c_M_act_38 (by decide) ?_
        refine PW_icmp_ne c_M_act_39 (fun _ => ?_) (fun h3 => absurd h3 (by decide))
        refine PW_iload_n c_M_act_51 rfl ?_
        refine PW_iconst (v := 2) c_M_act_52 (by decide) ?_
        refine PW_icmp_ne c_M_act_53 (fun _ => ?_) (fun h4 => absurd h4 (by decide))
        refine PW_aload_n c_M_act_65 rfl ?_
        refine PW_iload_n c_M_act_66 rfl ?_
        refine PW_iload_n c_M_act_67 rfl ?_
        refine PW_V0 (d2 := 8) (st := []) [.int a1, .int a3] c_M_act_68 lk_M_act_400 (po_70 _ _) rfl rfl rfl (Nat.le_of_ble_eq_true rfl) (by first | decide | omega) (Nat.le_of_ble_eq_true rfl) ?_
        refine sp_M_telling_2 (l := []) K2 (by decide) ?_
        show PW _ _ _ 71 [some (.ref 70), some (.int a1), some (.int 3), some (.int a3)] [.int ((-((a3 + a1) * 2)) - ((1 : Int32) ^^^ a1))] (E (tr 56 435 x (11 :: 1 :: 10 :: 30 :: 2 :: [])) (tr 103 611 y (11 :: 1 :: 10 :: 30 :: 2 :: [])))
        refine PW_ireturn (ty := .int) c_M_act_71 rfl rfl ?_
        exact h
    · refine ⟨(-(((a3 + 1) + a1) * 2)) - (((1 : Int32) ^^^ a1) * 3), tr 56 435 x (11 :: 40 :: 1 :: 10 :: 30 :: 41 :: 2 :: []), tr 103 611 y (11 :: 40 :: 1 :: 10 :: 30 :: 41 :: 2 :: []), ?_, fun {z post} h => ?_, fun {z post} h => ?_⟩
      · exact INV_step (INV_tr hI _ (by decide))
      · refine PW.deeper (k := (17, 0, 0, z)) (Nat.le_of_ble_eq_true rfl) (Nat.le_refl _) (Nat.le_refl _) ?_
        refine PW_aload_n c_G_act_0 rfl ?_
        refine PW_get (v := .ref 54) c_G_act_1 fl_G_79 (gf_5_9 _ _) ?_
        refine PW_iload_n c_G_act_4 rfl ?_
        refine PW_iload_n c_G_act_5 rfl ?_
        refine PW_iload_n c_G_act_6 rfl ?_
        refine PW_V0 (d2 := 16) (st := []) [.int a1, .int 3, .int a3] c_G_act_7 lk_G_act_305 (po_54 _ _) rfl rfl rfl (Nat.le_of_ble_eq_true rfl) (by first | decide | omega) (Nat.le_of_ble_eq_true rfl) ?_
        show PW _ _ _ 0 [some (.ref 54), some (.int a1), some (.int 3), some (.int a3)] [] (E x y)
        refine PW_aload_n c_B_perform_0 rfl ?_
        refine PW_iconst (v := 0) c_B_perform_1 (by decide) ?_
        refine PW_put (w2 := E (sI x 435 0) y) c_B_perform_2 fp_B_perform_36 rfl (pf_54_3 _ _ _) ?_
        refine PW_aload_n c_B_perform_5 rfl ?_
        refine PW_iload_n c_B_perform_6 rfl ?_
        refine PW_V0 (d2 := 0) (st := []) [.int a1] c_B_perform_7 lk_B_perform_39 (po_54 _ _) rfl rfl rfl (Nat.le_of_ble_eq_true rfl) (by first | decide | omega) (Nat.le_of_ble_eq_true rfl) ?_
        refine sp_B_isBody hB hbx ?_
        show PW _ _ _ 10 [some (.ref 54), some (.int a1), some (.int 3), some (.int a3)] [.int (b2i (0 ≤ a1.toInt ∧ a1.toInt < (nB y : Int)))] (E (sI x 435 0) y)
        refine PW_if_eq c_B_perform_10 (fun h0 => absurd hc0 (b2i_0.mp h0)) (fun _ => ?_)
        refine PW_iload_n c_B_perform_13 rfl ?_
        refine PW_if_lt c_B_perform_14 (fun h1 => absurd h1 (by decide)) (fun _ => ?_)
        refine PW_iload_n c_B_perform_17 rfl ?_
        refine PW_iconst (v := 4) c_B_perform_18 (by decide) ?_
        refine PW_icmp_lt c_B_perform_19 (fun _ => ?_) (fun h2 => absurd (by decide) h2)
        rw [← tr_nil 56 435 x]
        show PW _ _ _ 24 [some (.ref 54), some (.int a1), some (.int 3), some (.int a3)] [] (E (tr 56 435 x []) y)
        refine PW_aload_n c_B_perform_24 rfl ?_
        refine PW_aload_n c_B_perform_25 rfl ?_
        refine PW_iload_n c_B_perform_26 rfl ?_
        refine PW_V0 (d2 := 1) (st := [.ref 54]) [.int a1] c_B_perform_27 lk_B_perform_42 (po_54 _ _) rfl rfl rfl (Nat.le_of_ble_eq_true rfl) (by first | decide | omega) (Nat.le_of_ble_eq_true rfl) ?_
        refine sp_kof (l := []) K ?_
        show PW _ _ _ 30 [some (.ref 54), some (.int a1), some (.int 3), some (.int a3)] [.int 3, .ref 54] (E (tr 56 435 x []) y)
        refine PW_iload_n c_B_perform_30 rfl ?_
        refine PW_iload_n c_B_perform_31 rfl ?_
        refine PW_iload_n c_B_perform_32 rfl ?_
        refine PW_iconst (v := 0) c_B_perform_33 (by decide) ?_
        refine PW_V0 (d2 := 15) (st := []) [.int 3, .int 3, .int a3, .int a1, .int 0] c_B_perform_34 lk_B_perform_45 (po_54 _ _) rfl rfl rfl (Nat.le_of_ble_eq_true rfl) (by first | decide | omega) (Nat.le_of_ble_eq_true rfl) ?_
        refine PW.deeper (k := (13, 0, 0, z)) (Nat.le_of_ble_eq_true rfl) (Nat.le_refl _) (Nat.le_refl _) ?_
        refine sp_call_3_3_3 (l := []) (d := 0) K rfl (by omega) (by decide) ?_
        show PW _ _ _ 37 [some (.ref 54), some (.int a1), some (.int 3), some (.int a3)] [.int ((-(((a3 + 1) + a1) * 2)) - (((1 : Int32) ^^^ a1) * 3))] (E (tr 56 435 x (11 :: 40 :: 1 :: 10 :: 30 :: 41 :: 2 :: [])) y)
        refine PW_ireturn (ty := .int) c_B_perform_37 rfl rfl ?_
        show PW _ _ _ 10 [some (.ref 5), some (.int a1), some (.int 3), some (.int a3)] [.int ((-(((a3 + 1) + a1) * 2)) - (((1 : Int32) ^^^ a1) * 3))] (E (tr 56 435 x (11 :: 40 :: 1 :: 10 :: 30 :: 41 :: 2 :: [])) y)
        refine PW_ireturn (ty := .int) c_G_act_10 rfl rfl ?_
        exact h
      · refine PW.deeper (k := (9, 0, 0, z)) (Nat.le_of_ble_eq_true rfl) (Nat.le_refl _) (Nat.le_refl _) ?_
        refine PW_aload_n c_M_act_0 rfl ?_
        refine PW_iconst (v := 0) c_M_act_1 (by decide) ?_
        refine PW_put (w2 := E (tr 56 435 x (11 :: 40 :: 1 :: 10 :: 30 :: 41 :: 2 :: [])) (sI y 611 0)) c_M_act_2 fp_M_act_358 rfl (pf_70_51 _ _ _) ?_
        refine PW_aload_n c_M_act_5 rfl ?_
        refine PW_iload_n c_M_act_6 rfl ?_
        refine PW_V0 (d2 := 1) (st := []) [.int a1] c_M_act_7 lk_M_act_397 (po_70 _ _) rfl rfl rfl (Nat.le_of_ble_eq_true rfl) (by first | decide | omega) (Nat.le_of_ble_eq_true rfl) ?_
        refine sp_M_isBody2 hB ?_
        show PW _ _ _ 10 [some (.ref 70), some (.int a1), some (.int 3), some (.int a3)] [.int (b2i (0 ≤ a1.toInt ∧ a1.toInt < (nB (sI y 611 0) : Int)))] (E (tr 56 435 x (11 :: 40 :: 1 :: 10 :: 30 :: 41 :: 2 :: [])) (sI y 611 0))
        refine PW_if_eq c_M_act_10 (fun h0 => absurd hc0 (b2i_0.mp h0)) (fun _ => ?_)
        refine PW_iload_n c_M_act_13 rfl ?_
        refine PW_iconst (v := 0) c_M_act_14 (by decide) ?_
        refine PW_iconst (v := 3) c_M_act_15 (by decide) ?_
        refine PW_S0 (d2 := 0) (st := []) [.int 3, .int 0, .int 3] c_M_act_16 lk_M_act_131 rfl rfl rfl (Nat.le_of_ble_eq_true rfl) (by first | decide | omega) (Nat.le_of_ble_eq_true rfl) ?_
        refine sp_M_within  ?_
        show PW _ _ _ 19 [some (.ref 70), some (.int a1), some (.int 3), some (.int a3)] [.int (b2i ((0 : Int32) ≤ (3 : Int32) ∧ (3 : Int32) ≤ (3 : Int32)))] (E (tr 56 435 x (11 :: 40 :: 1 :: 10 :: 30 :: 41 :: 2 :: [])) (sI y 611 0))
        refine PW_if_ne c_M_act_19 (fun _ => ?_) (fun h1 => absurd (by decide) (b2i_0.mp h1))
        rw [← tr_nil 103 611 y]
        show PW _ _ _ 24 [some (.ref 70), some (.int a1), some (.int 3), some (.int a3)] [] (E (tr 56 435 x (11 :: 40 :: 1 :: 10 :: 30 :: 41 :: 2 :: [])) (tr 103 611 y []))
        refine PW_iload_n c_M_act_24 rfl ?_
        refine PW_if_ne c_M_act_25 (fun _ => ?_) (fun h2 => absurd h2 (by decide))
        refine PW_iload_n c_M_act_37 rfl ?_
        refine PW_iconst (v := 1) c_M_act_38 (by decide) ?_
        refine PW_icmp_ne c_M_act_39 (fun _ => ?_) (fun h3 => absurd h3 (by decide))
        refine PW_iload_n c_M_act_51 rfl ?_
        refine PW_iconst (v := 2) c_M_act_52 (by decide) ?_
        refine PW_icmp_ne c_M_act_53 (fun _ => ?_) (fun h4 => absurd h4 (by decide))
        refine PW_aload_n c_M_act_65 rfl ?_
        refine PW_iload_n c_M_act_66 rfl ?_
        refine PW_iload_n c_M_act_67 rfl ?_
        refine PW_V0 (d2 := 8) (st := []) [.int a1, .int a3] c_M_act_68 lk_M_act_400 (po_70 _ _) rfl rfl rfl (Nat.le_of_ble_eq_true rfl) (by first | decide | omega) (Nat.le_of_ble_eq_true rfl) ?_
        refine sp_M_telling_3 (l := []) K2 (by decide) ?_
        show PW _ _ _ 71 [some (.ref 70), some (.int a1), some (.int 3), some (.int a3)] [.int ((-(((a3 + 1) + a1) * 2)) - (((1 : Int32) ^^^ a1) * 3))] (E (tr 56 435 x (11 :: 40 :: 1 :: 10 :: 30 :: 41 :: 2 :: [])) (tr 103 611 y (11 :: 40 :: 1 :: 10 :: 30 :: 41 :: 2 :: [])))
        refine PW_ireturn (ty := .int) c_M_act_71 rfl rfl ?_
        exact h
    · refine ⟨((((a3 + a1) + 3) * 2) - ((1 : Int32) ^^^ a1)) ^^^ 5, tr 56 435 x (11 :: 1 :: 20 :: 10 :: 2 :: 50 :: []), tr 103 611 y (11 :: 1 :: 20 :: 10 :: 2 :: 50 :: []), ?_, fun {z post} h => ?_, fun {z post} h => ?_⟩
      · exact INV_step (INV_tr hI _ (by decide))
      · refine PW.deeper (k := (17, 0, 0, z)) (Nat.le_of_ble_eq_true rfl) (Nat.le_refl _) (Nat.le_refl _) ?_
        refine PW_aload_n c_G_act_0 rfl ?_
        refine PW_get (v := .ref 54) c_G_act_1 fl_G_79 (gf_5_9 _ _) ?_
        refine PW_iload_n c_G_act_4 rfl ?_
        refine PW_iload_n c_G_act_5 rfl ?_
        refine PW_iload_n c_G_act_6 rfl ?_
        refine PW_V0 (d2 := 16) (st := []) [.int a1, .int 3, .int a3] c_G_act_7 lk_G_act_305 (po_54 _ _) rfl rfl rfl (Nat.le_of_ble_eq_true rfl) (by first | decide | omega) (Nat.le_of_ble_eq_true rfl) ?_
        show PW _ _ _ 0 [some (.ref 54), some (.int a1), some (.int 3), some (.int a3)] [] (E x y)
        refine PW_aload_n c_B_perform_0 rfl ?_
        refine PW_iconst (v := 0) c_B_perform_1 (by decide) ?_
        refine PW_put (w2 := E (sI x 435 0) y) c_B_perform_2 fp_B_perform_36 rfl (pf_54_3 _ _ _) ?_
        refine PW_aload_n c_B_perform_5 rfl ?_
        refine PW_iload_n c_B_perform_6 rfl ?_
        refine PW_V0 (d2 := 0) (st := []) [.int a1] c_B_perform_7 lk_B_perform_39 (po_54 _ _) rfl rfl rfl (Nat.le_of_ble_eq_true rfl) (by first | decide | omega) (Nat.le_of_ble_eq_true rfl) ?_
        refine sp_B_isBody hB hbx ?_
        show PW _ _ _ 10 [some (.ref 54), some (.int a1), some (.int 3), some (.int a3)] [.int (b2i (0 ≤ a1.toInt ∧ a1.toInt < (nB y : Int)))] (E (sI x 435 0) y)
        refine PW_if_eq c_B_perform_10 (fun h0 => absurd hc0 (b2i_0.mp h0)) (fun _ => ?_)
        refine PW_iload_n c_B_perform_13 rfl ?_
        refine PW_if_lt c_B_perform_14 (fun h1 => absurd h1 (by decide)) (fun _ => ?_)
        refine PW_iload_n c_B_perform_17 rfl ?_
        refine PW_iconst (v := 4) c_B_perform_18 (by decide) ?_
        refine PW_icmp_lt c_B_perform_19 (fun _ => ?_) (fun h2 => absurd (by decide) h2)
        rw [← tr_nil 56 435 x]
        show PW _ _ _ 24 [some (.ref 54), some (.int a1), some (.int 3), some (.int a3)] [] (E (tr 56 435 x []) y)
        refine PW_aload_n c_B_perform_24 rfl ?_
        refine PW_aload_n c_B_perform_25 rfl ?_
        refine PW_iload_n c_B_perform_26 rfl ?_
        refine PW_V0 (d2 := 1) (st := [.ref 54]) [.int a1] c_B_perform_27 lk_B_perform_42 (po_54 _ _) rfl rfl rfl (Nat.le_of_ble_eq_true rfl) (by first | decide | omega) (Nat.le_of_ble_eq_true rfl) ?_
        refine sp_kof (l := []) K ?_
        show PW _ _ _ 30 [some (.ref 54), some (.int a1), some (.int 3), some (.int a3)] [.int 4, .ref 54] (E (tr 56 435 x []) y)
        refine PW_iload_n c_B_perform_30 rfl ?_
        refine PW_iload_n c_B_perform_31 rfl ?_
        refine PW_iload_n c_B_perform_32 rfl ?_
        refine PW_iconst (v := 0) c_B_perform_33 (by decide) ?_
        refine PW_V0 (d2 := 15) (st := []) [.int 4, .int 3, .int a3, .int a1, .int 0] c_B_perform_34 lk_B_perform_45 (po_54 _ _) rfl rfl rfl (Nat.le_of_ble_eq_true rfl) (by first | decide | omega) (Nat.le_of_ble_eq_true rfl) ?_
        refine PW.deeper (k := (13, 0, 0, z)) (Nat.le_of_ble_eq_true rfl) (Nat.le_refl _) (Nat.le_refl _) ?_
        refine sp_call_4_4_3 (l := []) (d := 0) K rfl (by omega) (by decide) ?_
        show PW _ _ _ 37 [some (.ref 54), some (.int a1), some (.int 3), some (.int a3)] [.int (((((a3 + a1) + 3) * 2) - ((1 : Int32) ^^^ a1)) ^^^ 5)] (E (tr 56 435 x (11 :: 1 :: 20 :: 10 :: 2 :: 50 :: [])) y)
        refine PW_ireturn (ty := .int) c_B_perform_37 rfl rfl ?_
        show PW _ _ _ 10 [some (.ref 5), some (.int a1), some (.int 3), some (.int a3)] [.int (((((a3 + a1) + 3) * 2) - ((1 : Int32) ^^^ a1)) ^^^ 5)] (E (tr 56 435 x (11 :: 1 :: 20 :: 10 :: 2 :: 50 :: [])) y)
        refine PW_ireturn (ty := .int) c_G_act_10 rfl rfl ?_
        exact h
      · refine PW.deeper (k := (9, 0, 0, z)) (Nat.le_of_ble_eq_true rfl) (Nat.le_refl _) (Nat.le_refl _) ?_
        refine PW_aload_n c_M_act_0 rfl ?_
        refine PW_iconst (v := 0) c_M_act_1 (by decide) ?_
        refine PW_put (w2 := E (tr 56 435 x (11 :: 1 :: 20 :: 10 :: 2 :: 50 :: [])) (sI y 611 0)) c_M_act_2 fp_M_act_358 rfl (pf_70_51 _ _ _) ?_
        refine PW_aload_n c_M_act_5 rfl ?_
        refine PW_iload_n c_M_act_6 rfl ?_
        refine PW_V0 (d2 := 1) (st := []) [.int a1] c_M_act_7 lk_M_act_397 (po_70 _ _) rfl rfl rfl (Nat.le_of_ble_eq_true rfl) (by first | decide | omega) (Nat.le_of_ble_eq_true rfl) ?_
        refine sp_M_isBody2 hB ?_
        show PW _ _ _ 10 [some (.ref 70), some (.int a1), some (.int 3), some (.int a3)] [.int (b2i (0 ≤ a1.toInt ∧ a1.toInt < (nB (sI y 611 0) : Int)))] (E (tr 56 435 x (11 :: 1 :: 20 :: 10 :: 2 :: 50 :: [])) (sI y 611 0))
        refine PW_if_eq c_M_act_10 (fun h0 => absurd hc0 (b2i_0.mp h0)) (fun _ => ?_)
        refine PW_iload_n c_M_act_13 rfl ?_
        refine PW_iconst (v := 0) c_M_act_14 (by decide) ?_
        refine PW_iconst (v := 3) c_M_act_15 (by decide) ?_
        refine PW_S0 (d2 := 0) (st := []) [.int 3, .int 0, .int 3] c_M_act_16 lk_M_act_131 rfl rfl rfl (Nat.le_of_ble_eq_true rfl) (by first | decide | omega) (Nat.le_of_ble_eq_true rfl) ?_
        refine sp_M_within  ?_
        show PW _ _ _ 19 [some (.ref 70), some (.int a1), some (.int 3), some (.int a3)] [.int (b2i ((0 : Int32) ≤ (3 : Int32) ∧ (3 : Int32) ≤ (3 : Int32)))] (E (tr 56 435 x (11 :: 1 :: 20 :: 10 :: 2 :: 50 :: [])) (sI y 611 0))
        refine PW_if_ne c_M_act_19 (fun _ => ?_) (fun h1 => absurd (by decide) (b2i_0.mp h1))
        rw [← tr_nil 103 611 y]
        show PW _ _ _ 24 [some (.ref 70), some (.int a1), some (.int 3), some (.int a3)] [] (E (tr 56 435 x (11 :: 1 :: 20 :: 10 :: 2 :: 50 :: [])) (tr 103 611 y []))
        refine PW_iload_n c_M_act_24 rfl ?_
        refine PW_if_ne c_M_act_25 (fun _ => ?_) (fun h2 => absurd h2 (by decide))
        refine PW_iload_n c_M_act_37 rfl ?_
        refine PW_iconst (v := 1) c_M_act_38 (by decide) ?_
        refine PW_icmp_ne c_M_act_39 (fun _ => ?_) (fun h3 => absurd h3 (by decide))
        refine PW_iload_n c_M_act_51 rfl ?_
        refine PW_iconst (v := 2) c_M_act_52 (by decide) ?_
        refine PW_icmp_ne c_M_act_53 (fun _ => ?_) (fun h4 => absurd h4 (by decide))
        refine PW_aload_n c_M_act_65 rfl ?_
        refine PW_iload_n c_M_act_66 rfl ?_
        refine PW_iload_n c_M_act_67 rfl ?_
        refine PW_V0 (d2 := 8) (st := []) [.int a1, .int a3] c_M_act_68 lk_M_act_400 (po_70 _ _) rfl rfl rfl (Nat.le_of_ble_eq_true rfl) (by first | decide | omega) (Nat.le_of_ble_eq_true rfl) ?_
        refine sp_M_telling_4 (l := []) K2 (by decide) ?_
        show PW _ _ _ 71 [some (.ref 70), some (.int a1), some (.int 3), some (.int a3)] [.int (((((a3 + a1) + 3) * 2) - ((1 : Int32) ^^^ a1)) ^^^ 5)] (E (tr 56 435 x (11 :: 1 :: 20 :: 10 :: 2 :: 50 :: [])) (tr 103 611 y (11 :: 1 :: 20 :: 10 :: 2 :: 50 :: [])))
        refine PW_ireturn (ty := .int) c_M_act_71 rfl rfl ?_
        exact h
    · refine ⟨((-(((a3 + 1) + a1) * 2)) - ((((1 : Int32) ^^^ a1) * 3) - ((2 : Int32) + a1))) + 1, tr 56 435 x (1 :: 11 :: 40 :: 60 :: 1 :: 10 :: 30 :: 41 :: 2 :: 61 :: []), tr 103 611 y (1 :: 11 :: 40 :: 60 :: 1 :: 10 :: 30 :: 41 :: 2 :: 61 :: []), ?_, fun {z post} h => ?_, fun {z post} h => ?_⟩
      · exact INV_step (INV_tr hI _ (by decide))
      · refine PW.deeper (k := (17, 0, 0, z)) (Nat.le_of_ble_eq_true rfl) (Nat.le_refl _) (Nat.le_refl _) ?_
        refine PW_aload_n c_G_act_0 rfl ?_
        refine PW_get (v := .ref 54) c_G_act_1 fl_G_79 (gf_5_9 _ _) ?_
        refine PW_iload_n c_G_act_4 rfl ?_
        refine PW_iload_n c_G_act_5 rfl ?_
        refine PW_iload_n c_G_act_6 rfl ?_
        refine PW_V0 (d2 := 16) (st := []) [.int a1, .int 3, .int a3] c_G_act_7 lk_G_act_305 (po_54 _ _) rfl rfl rfl (Nat.le_of_ble_eq_true rfl) (by first | decide | omega) (Nat.le_of_ble_eq_true rfl) ?_
        show PW _ _ _ 0 [some (.ref 54), some (.int a1), some (.int 3), some (.int a3)] [] (E x y)
        refine PW_aload_n c_B_perform_0 rfl ?_
        refine PW_iconst (v := 0) c_B_perform_1 (by decide) ?_
        refine PW_put (w2 := E (sI x 435 0) y) c_B_perform_2 fp_B_perform_36 rfl (pf_54_3 _ _ _) ?_
        refine PW_aload_n c_B_perform_5 rfl ?_
        refine PW_iload_n c_B_perform_6 rfl ?_
        refine PW_V0 (d2 := 0) (st := []) [.int a1] c_B_perform_7 lk_B_perform_39 (po_54 _ _) rfl rfl rfl (Nat.le_of_ble_eq_true rfl) (by first | decide | omega) (Nat.le_of_ble_eq_true rfl) ?_
        refine sp_B_isBody hB hbx ?_
        show PW _ _ _ 10 [some (.ref 54), some (.int a1), some (.int 3), some (.int a3)] [.int (b2i (0 ≤ a1.toInt ∧ a1.toInt < (nB y : Int)))] (E (sI x 435 0) y)
        refine PW_if_eq c_B_perform_10 (fun h0 => absurd hc0 (b2i_0.mp h0)) (fun _ => ?_)
        refine PW_iload_n c_B_perform_13 rfl ?_
        refine PW_if_lt c_B_perform_14 (fun h1 => absurd h1 (by decide)) (fun _ => ?_)
        refine PW_iload_n c_B_perform_17 rfl ?_
        refine PW_iconst (v := 4) c_B_perform_18 (by decide) ?_
        refine PW_icmp_lt c_B_perform_19 (fun _ => ?_) (fun h2 => absurd (by decide) h2)
        rw [← tr_nil 56 435 x]
        show PW _ _ _ 24 [some (.ref 54), some (.int a1), some (.int 3), some (.int a3)] [] (E (tr 56 435 x []) y)
        refine PW_aload_n c_B_perform_24 rfl ?_
        refine PW_aload_n c_B_perform_25 rfl ?_
        refine PW_iload_n c_B_perform_26 rfl ?_
        refine PW_V0 (d2 := 1) (st := [.ref 54]) [.int a1] c_B_perform_27 lk_B_perform_42 (po_54 _ _) rfl rfl rfl (Nat.le_of_ble_eq_true rfl) (by first | decide | omega) (Nat.le_of_ble_eq_true rfl) ?_
        refine sp_kof (l := []) K ?_
        show PW _ _ _ 30 [some (.ref 54), some (.int a1), some (.int 3), some (.int a3)] [.int 5, .ref 54] (E (tr 56 435 x []) y)
        refine PW_iload_n c_B_perform_30 rfl ?_
        refine PW_iload_n c_B_perform_31 rfl ?_
        refine PW_iload_n c_B_perform_32 rfl ?_
        refine PW_iconst (v := 0) c_B_perform_33 (by decide) ?_
        refine PW_V0 (d2 := 15) (st := []) [.int 5, .int 3, .int a3, .int a1, .int 0] c_B_perform_34 lk_B_perform_45 (po_54 _ _) rfl rfl rfl (Nat.le_of_ble_eq_true rfl) (by first | decide | omega) (Nat.le_of_ble_eq_true rfl) ?_
        refine PW.deeper (k := (15, 0, 0, z)) (Nat.le_of_ble_eq_true rfl) (Nat.le_refl _) (Nat.le_refl _) ?_
        refine sp_call_5_5_3 (l := []) (d := 0) K rfl (by omega) (by decide) ?_
        show PW _ _ _ 37 [some (.ref 54), some (.int a1), some (.int 3), some (.int a3)] [.int (((-(((a3 + 1) + a1) * 2)) - ((((1 : Int32) ^^^ a1) * 3) - ((2 : Int32) + a1))) + 1)] (E (tr 56 435 x (1 :: 11 :: 40 :: 60 :: 1 :: 10 :: 30 :: 41 :: 2 :: 61 :: [])) y)
        refine PW_ireturn (ty := .int) c_B_perform_37 rfl rfl ?_
        show PW _ _ _ 10 [some (.ref 5), some (.int a1), some (.int 3), some (.int a3)] [.int (((-(((a3 + 1) + a1) * 2)) - ((((1 : Int32) ^^^ a1) * 3) - ((2 : Int32) + a1))) + 1)] (E (tr 56 435 x (1 :: 11 :: 40 :: 60 :: 1 :: 10 :: 30 :: 41 :: 2 :: 61 :: [])) y)
        refine PW_ireturn (ty := .int) c_G_act_10 rfl rfl ?_
        exact h
      · refine PW.deeper (k := (9, 0, 0, z)) (Nat.le_of_ble_eq_true rfl) (Nat.le_refl _) (Nat.le_refl _) ?_
        refine PW_aload_n c_M_act_0 rfl ?_
        refine PW_iconst (v := 0) c_M_act_1 (by decide) ?_
        refine PW_put (w2 := E (tr 56 435 x (1 :: 11 :: 40 :: 60 :: 1 :: 10 :: 30 :: 41 :: 2 :: 61 :: [])) (sI y 611 0)) c_M_act_2 fp_M_act_358 rfl (pf_70_51 _ _ _) ?_
        refine PW_aload_n c_M_act_5 rfl ?_
        refine PW_iload_n c_M_act_6 rfl ?_
        refine PW_V0 (d2 := 1) (st := []) [.int a1] c_M_act_7 lk_M_act_397 (po_70 _ _) rfl rfl rfl (Nat.le_of_ble_eq_true rfl) (by first | decide | omega) (Nat.le_of_ble_eq_true rfl) ?_
        refine sp_M_isBody2 hB ?_
        show PW _ _ _ 10 [some (.ref 70), some (.int a1), some (.int 3), some (.int a3)] [.int (b2i (0 ≤ a1.toInt ∧ a1.toInt < (nB (sI y 611 0) : Int)))] (E (tr 56 435 x (1 :: 11 :: 40 :: 60 :: 1 :: 10 :: 30 :: 41 :: 2 :: 61 :: [])) (sI y 611 0))
        refine PW_if_eq c_M_act_10 (fun h0 => absurd hc0 (b2i_0.mp h0)) (fun _ => ?_)
        refine PW_iload_n c_M_act_13 rfl ?_
        refine PW_iconst (v := 0) c_M_act_14 (by decide) ?_
        refine PW_iconst (v := 3) c_M_act_15 (by decide) ?_
        refine PW_S0 (d2 := 0) (st := []) [.int 3, .int 0, .int 3] c_M_act_16 lk_M_act_131 rfl rfl rfl (Nat.le_of_ble_eq_true rfl) (by first | decide | omega) (Nat.le_of_ble_eq_true rfl) ?_
        refine sp_M_within  ?_
        show PW _ _ _ 19 [some (.ref 70), some (.int a1), some (.int 3), some (.int a3)] [.int (b2i ((0 : Int32) ≤ (3 : Int32) ∧ (3 : Int32) ≤ (3 : Int32)))] (E (tr 56 435 x (1 :: 11 :: 40 :: 60 :: 1 :: 10 :: 30 :: 41 :: 2 :: 61 :: [])) (sI y 611 0))
        refine PW_if_ne c_M_act_19 (fun _ => ?_) (fun h1 => absurd (by decide) (b2i_0.mp h1))
        rw [← tr_nil 103 611 y]
        show PW _ _ _ 24 [some (.ref 70), some (.int a1), some (.int 3), some (.int a3)] [] (E (tr 56 435 x (1 :: 11 :: 40 :: 60 :: 1 :: 10 :: 30 :: 41 :: 2 :: 61 :: [])) (tr 103 611 y []))
        refine PW_iload_n c_M_act_24 rfl ?_
        refine PW_if_ne c_M_act_25 (fun _ => ?_) (fun h2 => absurd h2 (by decide))
        refine PW_iload_n c_M_act_37 rfl ?_
        refine PW_iconst (v := 1) c_M_act_38 (by decide) ?_
        refine PW_icmp_ne c_M_act_39 (fun _ => ?_) (fun h3 => absurd h3 (by decide))
        refine PW_iload_n c_M_act_51 rfl ?_
        refine PW_iconst (v := 2) c_M_act_52 (by decide) ?_
        refine PW_icmp_ne c_M_act_53 (fun _ => ?_) (fun h4 => absurd h4 (by decide))
        refine PW_aload_n c_M_act_65 rfl ?_
        refine PW_iload_n c_M_act_66 rfl ?_
        refine PW_iload_n c_M_act_67 rfl ?_
        refine PW_V0 (d2 := 8) (st := []) [.int a1, .int a3] c_M_act_68 lk_M_act_400 (po_70 _ _) rfl rfl rfl (Nat.le_of_ble_eq_true rfl) (by first | decide | omega) (Nat.le_of_ble_eq_true rfl) ?_
        refine sp_M_telling_5 (l := []) K2 (by decide) ?_
        show PW _ _ _ 71 [some (.ref 70), some (.int a1), some (.int 3), some (.int a3)] [.int (((-(((a3 + 1) + a1) * 2)) - ((((1 : Int32) ^^^ a1) * 3) - ((2 : Int32) + a1))) + 1)] (E (tr 56 435 x (1 :: 11 :: 40 :: 60 :: 1 :: 10 :: 30 :: 41 :: 2 :: 61 :: [])) (tr 103 611 y (1 :: 11 :: 40 :: 60 :: 1 :: 10 :: 30 :: 41 :: 2 :: 61 :: [])))
        refine PW_ireturn (ty := .int) c_M_act_71 rfl rfl ?_
        exact h
    · refine ⟨(((a3 + a1) * 2) * 2) - ((1 : Int32) ^^^ a1), tr 56 435 x (11 :: 1 :: 70 :: 10 :: 2 :: []), tr 103 611 y (11 :: 1 :: 70 :: 10 :: 2 :: []), ?_, fun {z post} h => ?_, fun {z post} h => ?_⟩
      · exact INV_step (INV_tr hI _ (by decide))
      · refine PW.deeper (k := (17, 0, 0, z)) (Nat.le_of_ble_eq_true rfl) (Nat.le_refl _) (Nat.le_refl _) ?_
        refine PW_aload_n c_G_act_0 rfl ?_
        refine PW_get (v := .ref 54) c_G_act_1 fl_G_79 (gf_5_9 _ _) ?_
        refine PW_iload_n c_G_act_4 rfl ?_
        refine PW_iload_n c_G_act_5 rfl ?_
        refine PW_iload_n c_G_act_6 rfl ?_
        refine PW_V0 (d2 := 16) (st := []) [.int a1, .int 3, .int a3] c_G_act_7 lk_G_act_305 (po_54 _ _) rfl rfl rfl (Nat.le_of_ble_eq_true rfl) (by first | decide | omega) (Nat.le_of_ble_eq_true rfl) ?_
        show PW _ _ _ 0 [some (.ref 54), some (.int a1), some (.int 3), some (.int a3)] [] (E x y)
        refine PW_aload_n c_B_perform_0 rfl ?_
        refine PW_iconst (v := 0) c_B_perform_1 (by decide) ?_
        refine PW_put (w2 := E (sI x 435 0) y) c_B_perform_2 fp_B_perform_36 rfl (pf_54_3 _ _ _) ?_
        refine PW_aload_n c_B_perform_5 rfl ?_
        refine PW_iload_n c_B_perform_6 rfl ?_
        refine PW_V0 (d2 := 0) (st := []) [.int a1] c_B_perform_7 lk_B_perform_39 (po_54 _ _) rfl rfl rfl (Nat.le_of_ble_eq_true rfl) (by first | decide | omega) (Nat.le_of_ble_eq_true rfl) ?_
        refine sp_B_isBody hB hbx ?_
        show PW _ _ _ 10 [some (.ref 54), some (.int a1), some (.int 3), some (.int a3)] [.int (b2i (0 ≤ a1.toInt ∧ a1.toInt < (nB y : Int)))] (E (sI x 435 0) y)
        refine PW_if_eq c_B_perform_10 (fun h0 => absurd hc0 (b2i_0.mp h0)) (fun _ => ?_)
        refine PW_iload_n c_B_perform_13 rfl ?_
        refine PW_if_lt c_B_perform_14 (fun h1 => absurd h1 (by decide)) (fun _ => ?_)
        refine PW_iload_n c_B_perform_17 rfl ?_
        refine PW_iconst (v := 4) c_B_perform_18 (by decide) ?_
        refine PW_icmp_lt c_B_perform_19 (fun _ => ?_) (fun h2 => absurd (by decide) h2)
        rw [← tr_nil 56 435 x]
        show PW _ _ _ 24 [some (.ref 54), some (.int a1), some (.int 3), some (.int a3)] [] (E (tr 56 435 x []) y)
        refine PW_aload_n c_B_perform_24 rfl ?_
        refine PW_aload_n c_B_perform_25 rfl ?_
        refine PW_iload_n c_B_perform_26 rfl ?_
        refine PW_V0 (d2 := 1) (st := [.ref 54]) [.int a1] c_B_perform_27 lk_B_perform_42 (po_54 _ _) rfl rfl rfl (Nat.le_of_ble_eq_true rfl) (by first | decide | omega) (Nat.le_of_ble_eq_true rfl) ?_
        refine sp_kof (l := []) K ?_
        show PW _ _ _ 30 [some (.ref 54), some (.int a1), some (.int 3), some (.int a3)] [.int 6, .ref 54] (E (tr 56 435 x []) y)
        refine PW_iload_n c_B_perform_30 rfl ?_
        refine PW_iload_n c_B_perform_31 rfl ?_
        refine PW_iload_n c_B_perform_32 rfl ?_
        refine PW_iconst (v := 0) c_B_perform_33 (by decide) ?_
        refine PW_V0 (d2 := 15) (st := []) [.int 6, .int 3, .int a3, .int a1, .int 0] c_B_perform_34 lk_B_perform_45 (po_54 _ _) rfl rfl rfl (Nat.le_of_ble_eq_true rfl) (by first | decide | omega) (Nat.le_of_ble_eq_true rfl) ?_
        refine PW.deeper (k := (11, 0, 0, z)) (Nat.le_of_ble_eq_true rfl) (Nat.le_refl _) (Nat.le_refl _) ?_
        refine sp_call_6_6_3 (l := []) (d := 0) K rfl (by omega) (by decide) ?_
        show PW _ _ _ 37 [some (.ref 54), some (.int a1), some (.int 3), some (.int a3)] [.int ((((a3 + a1) * 2) * 2) - ((1 : Int32) ^^^ a1))] (E (tr 56 435 x (11 :: 1 :: 70 :: 10 :: 2 :: [])) y)
        refine PW_ireturn (ty := .int) c_B_perform_37 rfl rfl ?_
        show PW _ _ _ 10 [some (.ref 5), some (.int a1), some (.int 3), some (.int a3)] [.int ((((a3 + a1) * 2) * 2) - ((1 : Int32) ^^^ a1))] (E (tr 56 435 x (11 :: 1 :: 70 :: 10 :: 2 :: [])) y)
        refine PW_ireturn (ty := .int) c_G_act_10 rfl rfl ?_
        exact h
      · refine PW.deeper (k := (9, 0, 0, z)) (Nat.le_of_ble_eq_true rfl) (Nat.le_refl _) (Nat.le_refl _) ?_
        refine PW_aload_n c_M_act_0 rfl ?_
        refine PW_iconst (v := 0) c_M_act_1 (by decide) ?_
        refine PW_put (w2 := E (tr 56 435 x (11 :: 1 :: 70 :: 10 :: 2 :: [])) (sI y 611 0)) c_M_act_2 fp_M_act_358 rfl (pf_70_51 _ _ _) ?_
        refine PW_aload_n c_M_act_5 rfl ?_
        refine PW_iload_n c_M_act_6 rfl ?_
        refine PW_V0 (d2 := 1) (st := []) [.int a1] c_M_act_7 lk_M_act_397 (po_70 _ _) rfl rfl rfl (Nat.le_of_ble_eq_true rfl) (by first | decide | omega) (Nat.le_of_ble_eq_true rfl) ?_
        refine sp_M_isBody2 hB ?_
        show PW _ _ _ 10 [some (.ref 70), some (.int a1), some (.int 3), some (.int a3)] [.int (b2i (0 ≤ a1.toInt ∧ a1.toInt < (nB (sI y 611 0) : Int)))] (E (tr 56 435 x (11 :: 1 :: 70 :: 10 :: 2 :: [])) (sI y 611 0))
        refine PW_if_eq c_M_act_10 (fun h0 => absurd hc0 (b2i_0.mp h0)) (fun _ => ?_)
        refine PW_iload_n c_M_act_13 rfl ?_
        refine PW_iconst (v := 0) c_M_act_14 (by decide) ?_
        refine PW_iconst (v := 3) c_M_act_15 (by decide) ?_
        refine PW_S0 (d2 := 0) (st := []) [.int 3, .int 0, .int 3] c_M_act_16 lk_M_act_131 rfl rfl rfl (Nat.le_of_ble_eq_true rfl) (by first | decide | omega) (Nat.le_of_ble_eq_true rfl) ?_
        refine sp_M_within  ?_
        show PW _ _ _ 19 [some (.ref 70), some (.int a1), some (.int 3), some (.int a3)] [.int (b2i ((0 : Int32) ≤ (3 : Int32) ∧ (3 : Int32) ≤ (3 : Int32)))] (E (tr 56 435 x (11 :: 1 :: 70 :: 10 :: 2 :: [])) (sI y 611 0))
        refine PW_if_ne c_M_act_19 (fun _ => ?_) (fun h1 => absurd (by decide) (b2i_0.mp h1))
        rw [← tr_nil 103 611 y]
        show PW _ _ _ 24 [some (.ref 70), some (.int a1), some (.int 3), some (.int a3)] [] (E (tr 56 435 x (11 :: 1 :: 70 :: 10 :: 2 :: [])) (tr 103 611 y []))
        refine PW_iload_n c_M_act_24 rfl ?_
        refine PW_if_ne c_M_act_25 (fun _ => ?_) (fun h2 => absurd h2 (by decide))
        refine PW_iload_n c_M_act_37 rfl ?_
        refine PW_iconst (v := 1) c_M_act_38 (by decide) ?_
        refine PW_icmp_ne c_M_act_39 (fun _ => ?_) (fun h3 => absurd h3 (by decide))
        refine PW_iload_n c_M_act_51 rfl ?_
        refine PW_iconst (v := 2) c_M_act_52 (by decide) ?_
        refine PW_icmp_ne c_M_act_53 (fun _ => ?_) (fun h4 => absurd h4 (by decide))
        refine PW_aload_n c_M_act_65 rfl ?_
        refine PW_iload_n c_M_act_66 rfl ?_
        refine PW_iload_n c_M_act_67 rfl ?_
        refine PW_V0 (d2 := 8) (st := []) [.int a1, .int a3] c_M_act_68 lk_M_act_400 (po_70 _ _) rfl rfl rfl (Nat.le_of_ble_eq_true rfl) (by first | decide | omega) (Nat.le_of_ble_eq_true rfl) ?_
        refine sp_M_telling_6 (l := []) K2 (by decide) ?_
        show PW _ _ _ 71 [some (.ref 70), some (.int a1), some (.int 3), some (.int a3)] [.int ((((a3 + a1) * 2) * 2) - ((1 : Int32) ^^^ a1))] (E (tr 56 435 x (11 :: 1 :: 70 :: 10 :: 2 :: [])) (tr 103 611 y (11 :: 1 :: 70 :: 10 :: 2 :: [])))
        refine PW_ireturn (ty := .int) c_M_act_71 rfl rfl ?_
        exact h
    · refine ⟨(((((a3 + a1) * 2) - 1) * 2) + ((2 : Int32) ^^^ a1)) - ((1 : Int32) ^^^ a1), tr 56 435 x (11 :: 11 :: 1 :: 70 :: 81 :: 10 :: 80 :: 2 :: []), tr 103 611 y (11 :: 11 :: 1 :: 70 :: 81 :: 10 :: 80 :: 2 :: []), ?_, fun {z post} h => ?_, fun {z post} h => ?_⟩
      · exact INV_step (INV_tr hI _ (by decide))
      · refine PW.deeper (k := (17, 0, 0, z)) (Nat.le_of_ble_eq_true rfl) (Nat.le_refl _) (Nat.le_refl _) ?_
        refine PW_aload_n c_G_act_0 rfl ?_
        refine PW_get (v := .ref 54) c_G_act_1 fl_G_79 (gf_5_9 _ _) ?_
        refine PW_iload_n c_G_act_4 rfl ?_
        refine PW_iload_n c_G_act_5 rfl ?_
        refine PW_iload_n c_G_act_6 rfl ?_
        refine PW_V0 (d2 := 16) (st := []) [.int a1, .int 3, .int a3] c_G_act_7 lk_G_act_305 (po_54 _ _) rfl rfl rfl (Nat.le_of_ble_eq_true rfl) (by first | decide | omega) (Nat.le_of_ble_eq_true rfl) ?_
        show PW _ _ _ 0 [some (.ref 54), some (.int a1), some (.int 3), some (.int a3)] [] (E x y)
        refine PW_aload_n c_B_perform_0 rfl ?_
        refine PW_iconst (v := 0) c_B_perform_1 (by decide) ?_
        refine PW_put (w2 := E (sI x 435 0) y) c_B_perform_2 fp_B_perform_36 rfl (pf_54_3 _ _ _) ?_
        refine PW_aload_n c_B_perform_5 rfl ?_
        refine PW_iload_n c_B_perform_6 rfl ?_
        refine PW_V0 (d2 := 0) (st := []) [.int a1] c_B_perform_7 lk_B_perform_39 (po_54 _ _) rfl rfl rfl (Nat.le_of_ble_eq_true rfl) (by first | decide | omega) (Nat.le_of_ble_eq_true rfl) ?_
        refine sp_B_isBody hB hbx ?_
        show PW _ _ _ 10 [some (.ref 54), some (.int a1), some (.int 3), some (.int a3)] [.int (b2i (0 ≤ a1.toInt ∧ a1.toInt < (nB y : Int)))] (E (sI x 435 0) y)
        refine PW_if_eq c_B_perform_10 (fun h0 => absurd hc0 (b2i_0.mp h0)) (fun _ => ?_)
        refine PW_iload_n c_B_perform_13 rfl ?_
        refine PW_if_lt c_B_perform_14 (fun h1 => absurd h1 (by decide)) (fun _ => ?_)
        refine PW_iload_n c_B_perform_17 rfl ?_
        refine PW_iconst (v := 4) c_B_perform_18 (by decide) ?_
        refine PW_icmp_lt c_B_perform_19 (fun _ => ?_) (fun h2 => absurd (by decide) h2)
        rw [← tr_nil 56 435 x]
        show PW _ _ _ 24 [some (.ref 54), some (.int a1), some (.int 3), some (.int a3)] [] (E (tr 56 435 x []) y)
        refine PW_aload_n c_B_perform_24 rfl ?_
        refine PW_aload_n c_B_perform_25 rfl ?_
        refine PW_iload_n c_B_perform_26 rfl ?_
        refine PW_V0 (d2 := 1) (st := [.ref 54]) [.int a1] c_B_perform_27 lk_B_perform_42 (po_54 _ _) rfl rfl rfl (Nat.le_of_ble_eq_true rfl) (by first | decide | omega) (Nat.le_of_ble_eq_true rfl) ?_
        refine sp_kof (l := []) K ?_
        show PW _ _ _ 30 [some (.ref 54), some (.int a1), some (.int 3), some (.int a3)] [.int 7, .ref 54] (E (tr 56 435 x []) y)
        refine PW_iload_n c_B_perform_30 rfl ?_
        refine PW_iload_n c_B_perform_31 rfl ?_
        refine PW_iload_n c_B_perform_32 rfl ?_
        refine PW_iconst (v := 0) c_B_perform_33 (by decide) ?_
        refine PW_V0 (d2 := 15) (st := []) [.int 7, .int 3, .int a3, .int a1, .int 0] c_B_perform_34 lk_B_perform_45 (po_54 _ _) rfl rfl rfl (Nat.le_of_ble_eq_true rfl) (by first | decide | omega) (Nat.le_of_ble_eq_true rfl) ?_
        refine PW.deeper (k := (15, 0, 0, z)) (Nat.le_of_ble_eq_true rfl) (Nat.le_refl _) (Nat.le_refl _) ?_
        refine sp_call_7_7_3 (l := []) (d := 0) K rfl (by omega) (by decide) ?_
        show PW _ _ _ 37 [some (.ref 54), some (.int a1), some (.int 3), some (.int a3)] [.int ((((((a3 + a1) * 2) - 1) * 2) + ((2 : Int32) ^^^ a1)) - ((1 : Int32) ^^^ a1))] (E (tr 56 435 x (11 :: 11 :: 1 :: 70 :: 81 :: 10 :: 80 :: 2 :: [])) y)
        refine PW_ireturn (ty := .int) c_B_perform_37 rfl rfl ?_
        show PW _ _ _ 10 [some (.ref 5), some (.int a1), some (.int 3), some (.int a3)] [.int ((((((a3 + a1) * 2) - 1) * 2) + ((2 : Int32) ^^^ a1)) - ((1 : Int32) ^^^ a1))] (E (tr 56 435 x (11 :: 11 :: 1 :: 70 :: 81 :: 10 :: 80 :: 2 :: [])) y)
        refine PW_ireturn (ty := .int) c_G_act_10 rfl rfl ?_
        exact h
      · refine PW.deeper (k := (9, 0, 0, z)) (Nat.le_of_ble_eq_true rfl) (Nat.le_refl _) (Nat.le_refl _) ?_
        refine PW_aload_n c_M_act_0 rfl ?_
        refine PW_iconst (v := 0) c_M_act_1 (by decide) ?_
        refine PW_put (w2 := E (tr 56 435 x (11 :: 11 :: 1 :: 70 :: 81 :: 10 :: 80 :: 2 :: [])) (sI y 611 0)) c_M_act_2 fp_M_act_358 rfl (pf_70_51 _ _ _) ?_
        refine PW_aload_n c_M_act_5 rfl ?_
        refine PW_iload_n c_M_act_6 rfl ?_
        refine PW_V0 (d2 := 1) (st := []) [.int a1] c_M_act_7 lk_M_act_397 (po_70 _ _) rfl rfl rfl (Nat.le_of_ble_eq_true rfl) (by first | decide | omega) (Nat.le_of_ble_eq_true rfl) ?_
        refine sp_M_isBody2 hB ?_
        show PW _ _ _ 10 [some (.ref 70), some (.int a1), some (.int 3), some (.int a3)] [.int (b2i (0 ≤ a1.toInt ∧ a1.toInt < (nB (sI y 611 0) : Int)))] (E (tr 56 435 x (11 :: 11 :: 1 :: 70 :: 81 :: 10 :: 80 :: 2 :: [])) (sI y 611 0))
        refine PW_if_eq c_M_act_10 (fun h0 => absurd hc0 (b2i_0.mp h0)) (fun _ => ?_)
        refine PW_iload_n c_M_act_13 rfl ?_
        refine PW_iconst (v := 0) c_M_act_14 (by decide) ?_
        refine PW_iconst (v := 3) c_M_act_15 (by decide) ?_
        refine PW_S0 (d2 := 0) (st := []) [.int 3, .int 0, .int 3] c_M_act_16 lk_M_act_131 rfl rfl rfl (Nat.le_of_ble_eq_true rfl) (by first | decide | omega) (Nat.le_of_ble_eq_true rfl) ?_
        refine sp_M_within  ?_
        show PW _ _ _ 19 [some (.ref 70), some (.int a1), some (.int 3), some (.int a3)] [.int (b2i ((0 : Int32) ≤ (3 : Int32) ∧ (3 : Int32) ≤ (3 : Int32)))] (E (tr 56 435 x (11 :: 11 :: 1 :: 70 :: 81 :: 10 :: 80 :: 2 :: [])) (sI y 611 0))
        refine PW_if_ne c_M_act_19 (fun _ => ?_) (fun h1 => absurd (by decide) (b2i_0.mp h1))
        rw [← tr_nil 103 611 y]
        show PW _ _ _ 24 [some (.ref 70), some (.int a1), some (.int 3), some (.int a3)] [] (E (tr 56 435 x (11 :: 11 :: 1 :: 70 :: 81 :: 10 :: 80 :: 2 :: [])) (tr 103 611 y []))
        refine PW_iload_n c_M_act_24 rfl ?_
        refine PW_if_ne c_M_act_25 (fun _ => ?_) (fun h2 => absurd h2 (by decide))
        refine PW_iload_n c_M_act_37 rfl ?_
        refine PW_iconst (v := 1) c_M_act_38 (by decide) ?_
        refine PW_icmp_ne c_M_act_39 (fun _ => ?_) (fun h3 => absurd h3 (by decide))
        refine PW_iload_n c_M_act_51 rfl ?_
        refine PW_iconst (v := 2) c_M_act_52 (by decide) ?_
        refine PW_icmp_ne c_M_act_53 (fun _ => ?_) (fun h4 => absurd h4 (by decide))
        refine PW_aload_n c_M_act_65 rfl ?_
        refine PW_iload_n c_M_act_66 rfl ?_
        refine PW_iload_n c_M_act_67 rfl ?_
        refine PW_V0 (d2 := 8) (st := []) [.int a1, .int a3] c_M_act_68 lk_M_act_400 (po_70 _ _) rfl rfl rfl (Nat.le_of_ble_eq_true rfl) (by first | decide | omega) (Nat.le_of_ble_eq_true rfl) ?_
        refine sp_M_telling_7 (l := []) K2 (by decide) ?_
        show PW _ _ _ 71 [some (.ref 70), some (.int a1), some (.int 3), some (.int a3)] [.int ((((((a3 + a1) * 2) - 1) * 2) + ((2 : Int32) ^^^ a1)) - ((1 : Int32) ^^^ a1))] (E (tr 56 435 x (11 :: 11 :: 1 :: 70 :: 81 :: 10 :: 80 :: 2 :: [])) (tr 103 611 y (11 :: 11 :: 1 :: 70 :: 81 :: 10 :: 80 :: 2 :: [])))
        refine PW_ireturn (ty := .int) c_M_act_71 rfl rfl ?_
        exact h
  have hk5 : ¬ (0 ≤ a2 ∧ a2 ≤ 3) := fun q => by simp only [Int32.le_iff_toInt_le, ← Int32.toInt_inj, tiA] at q hw0 hw1 hw2 hw3; omega
  by_cases hk2 : a2 < 0
  · refine ⟨0, sI x 435 0, sI y 611 0, ?_, fun {z post} h => ?_, fun {z post} h => ?_⟩
    · rw [← tr_nil 56 435 x, ← tr_nil 103 611 y]
      exact INV_step (INV_tr hI _ (by decide))
    · refine PW.deeper (k := (17, 0, 0, z)) (Nat.le_of_ble_eq_true rfl) (Nat.le_refl _) (Nat.le_refl _) ?_
      refine PW_aload_n c_G_act_0 rfl ?_
      refine PW_get (v := .ref 54) c_G_act_1 fl_G_79 (gf_5_9 _ _) ?_
      refine PW_iload_n c_G_act_4 rfl ?_
      refine PW_iload_n c_G_act_5 rfl ?_
      refine PW_iload_n c_G_act_6 rfl ?_
      refine PW_V0 (d2 := 16) (st := []) [.int a1, .int a2, .int a3] c_G_act_7 lk_G_act_305 (po_54 _ _) rfl rfl rfl (Nat.le_of_ble_eq_true rfl) (by first | decide | omega) (Nat.le_of_ble_eq_true rfl) ?_
      show PW _ _ _ 0 [some (.ref 54), some (.int a1), some (.int a2), some (.int a3)] [] (E x y)
      refine PW_aload_n c_B_perform_0 rfl ?_
      refine PW_iconst (v := 0) c_B_perform_1 (by decide) ?_
      refine PW_put (w2 := E (sI x 435 0) y) c_B_perform_2 fp_B_perform_36 rfl (pf_54_3 _ _ _) ?_
      refine PW_aload_n c_B_perform_5 rfl ?_
      refine PW_iload_n c_B_perform_6 rfl ?_
      refine PW_V0 (d2 := 0) (st := []) [.int a1] c_B_perform_7 lk_B_perform_39 (po_54 _ _) rfl rfl rfl (Nat.le_of_ble_eq_true rfl) (by first | decide | omega) (Nat.le_of_ble_eq_true rfl) ?_
      refine sp_B_isBody hB hbx ?_
      show PW _ _ _ 10 [some (.ref 54), some (.int a1), some (.int a2), some (.int a3)] [.int (b2i (0 ≤ a1.toInt ∧ a1.toInt < (nB y : Int)))] (E (sI x 435 0) y)
      refine PW_if_eq c_B_perform_10 (fun h0 => absurd hc0 (b2i_0.mp h0)) (fun _ => ?_)
      refine PW_iload_n c_B_perform_13 rfl ?_
      refine PW_if_lt c_B_perform_14 (fun h1 => ?_) (fun h1 => absurd hk2 h1)
      refine PW_iconst (v := 0) c_B_perform_22 (by decide) ?_
      refine PW_ireturn (ty := .int) c_B_perform_23 rfl rfl ?_
      show PW _ _ _ 10 [some (.ref 5), some (.int a1), some (.int a2), some (.int a3)] [.int 0] (E (sI x 435 0) y)
      refine PW_ireturn (ty := .int) c_G_act_10 rfl rfl ?_
      exact h
    · refine PW.deeper (k := (9, 0, 0, z)) (Nat.le_of_ble_eq_true rfl) (Nat.le_refl _) (Nat.le_refl _) ?_
      refine PW_aload_n c_M_act_0 rfl ?_
      refine PW_iconst (v := 0) c_M_act_1 (by decide) ?_
      refine PW_put (w2 := E (sI x 435 0) (sI y 611 0)) c_M_act_2 fp_M_act_358 rfl (pf_70_51 _ _ _) ?_
      refine PW_aload_n c_M_act_5 rfl ?_
      refine PW_iload_n c_M_act_6 rfl ?_
      refine PW_V0 (d2 := 1) (st := []) [.int a1] c_M_act_7 lk_M_act_397 (po_70 _ _) rfl rfl rfl (Nat.le_of_ble_eq_true rfl) (by first | decide | omega) (Nat.le_of_ble_eq_true rfl) ?_
      refine sp_M_isBody2 hB ?_
      show PW _ _ _ 10 [some (.ref 70), some (.int a1), some (.int a2), some (.int a3)] [.int (b2i (0 ≤ a1.toInt ∧ a1.toInt < (nB (sI y 611 0) : Int)))] (E (sI x 435 0) (sI y 611 0))
      refine PW_if_eq c_M_act_10 (fun h0 => absurd hc0 (b2i_0.mp h0)) (fun _ => ?_)
      refine PW_iload_n c_M_act_13 rfl ?_
      refine PW_iconst (v := 0) c_M_act_14 (by decide) ?_
      refine PW_iconst (v := 3) c_M_act_15 (by decide) ?_
      refine PW_S0 (d2 := 0) (st := []) [.int a2, .int 0, .int 3] c_M_act_16 lk_M_act_131 rfl rfl rfl (Nat.le_of_ble_eq_true rfl) (by first | decide | omega) (Nat.le_of_ble_eq_true rfl) ?_
      refine sp_M_within  ?_
      show PW _ _ _ 19 [some (.ref 70), some (.int a1), some (.int a2), some (.int a3)] [.int (b2i ((0 : Int32) ≤ a2 ∧ a2 ≤ (3 : Int32)))] (E (sI x 435 0) (sI y 611 0))
      refine PW_if_ne c_M_act_19 (fun h1 => absurd (b2i_n0.mp h1) hk5) (fun _ => ?_)
      refine PW_iconst (v := 0) c_M_act_22 (by decide) ?_
      refine PW_ireturn (ty := .int) c_M_act_23 rfl rfl ?_
      exact h
  refine ⟨0, sI x 435 0, sI y 611 0, ?_, fun {z post} h => ?_, fun {z post} h => ?_⟩
  · rw [← tr_nil 56 435 x, ← tr_nil 103 611 y]
    exact INV_step (INV_tr hI _ (by decide))
  · refine PW.deeper (k := (17, 0, 0, z)) (Nat.le_of_ble_eq_true rfl) (Nat.le_refl _) (Nat.le_refl _) ?_
    refine PW_aload_n c_G_act_0 rfl ?_
    refine PW_get (v := .ref 54) c_G_act_1 fl_G_79 (gf_5_9 _ _) ?_
    refine PW_iload_n c_G_act_4 rfl ?_
    refine PW_iload_n c_G_act_5 rfl ?_
    refine PW_iload_n c_G_act_6 rfl ?_
    refine PW_V0 (d2 := 16) (st := []) [.int a1, .int a2, .int a3] c_G_act_7 lk_G_act_305 (po_54 _ _) rfl rfl rfl (Nat.le_of_ble_eq_true rfl) (by first | decide | omega) (Nat.le_of_ble_eq_true rfl) ?_
    show PW _ _ _ 0 [some (.ref 54), some (.int a1), some (.int a2), some (.int a3)] [] (E x y)
    refine PW_aload_n c_B_perform_0 rfl ?_
    refine PW_iconst (v := 0) c_B_perform_1 (by decide) ?_
    refine PW_put (w2 := E (sI x 435 0) y) c_B_perform_2 fp_B_perform_36 rfl (pf_54_3 _ _ _) ?_
    refine PW_aload_n c_B_perform_5 rfl ?_
    refine PW_iload_n c_B_perform_6 rfl ?_
    refine PW_V0 (d2 := 0) (st := []) [.int a1] c_B_perform_7 lk_B_perform_39 (po_54 _ _) rfl rfl rfl (Nat.le_of_ble_eq_true rfl) (by first | decide | omega) (Nat.le_of_ble_eq_true rfl) ?_
    refine sp_B_isBody hB hbx ?_
    show PW _ _ _ 10 [some (.ref 54), some (.int a1), some (.int a2), some (.int a3)] [.int (b2i (0 ≤ a1.toInt ∧ a1.toInt < (nB y : Int)))] (E (sI x 435 0) y)
    refine PW_if_eq c_B_perform_10 (fun h0 => absurd hc0 (b2i_0.mp h0)) (fun _ => ?_)
    refine PW_iload_n c_B_perform_13 rfl ?_
    refine PW_if_lt c_B_perform_14 (fun h1 => absurd h1 hk2) (fun h1 => ?_)
    refine PW_iload_n c_B_perform_17 rfl ?_
    refine PW_iconst (v := 4) c_B_perform_18 (by decide) ?_
    refine PW_icmp_lt c_B_perform_19 (fun h2 => absurd h2 (fun q => hk5 ⟨Int32.not_lt.mp hk2, by simp only [Int32.lt_iff_toInt_lt, Int32.le_iff_toInt_le, tiA] at q ⊢; omega⟩)) (fun h2 => ?_)
    refine PW_iconst (v := 0) c_B_perform_22 (by decide) ?_
    refine PW_ireturn (ty := .int) c_B_perform_23 rfl rfl ?_
    show PW _ _ _ 10 [some (.ref 5), some (.int a1), some (.int a2), some (.int a3)] [.int 0] (E (sI x 435 0) y)
    refine PW_ireturn (ty := .int) c_G_act_10 rfl rfl ?_
    exact h
  · refine PW.deeper (k := (9, 0, 0, z)) (Nat.le_of_ble_eq_true rfl) (Nat.le_refl _) (Nat.le_refl _) ?_
    refine PW_aload_n c_M_act_0 rfl ?_
    refine PW_iconst (v := 0) c_M_act_1 (by decide) ?_
    refine PW_put (w2 := E (sI x 435 0) (sI y 611 0)) c_M_act_2 fp_M_act_358 rfl (pf_70_51 _ _ _) ?_
    refine PW_aload_n c_M_act_5 rfl ?_
    refine PW_iload_n c_M_act_6 rfl ?_
    refine PW_V0 (d2 := 1) (st := []) [.int a1] c_M_act_7 lk_M_act_397 (po_70 _ _) rfl rfl rfl (Nat.le_of_ble_eq_true rfl) (by first | decide | omega) (Nat.le_of_ble_eq_true rfl) ?_
    refine sp_M_isBody2 hB ?_
    show PW _ _ _ 10 [some (.ref 70), some (.int a1), some (.int a2), some (.int a3)] [.int (b2i (0 ≤ a1.toInt ∧ a1.toInt < (nB (sI y 611 0) : Int)))] (E (sI x 435 0) (sI y 611 0))
    refine PW_if_eq c_M_act_10 (fun h0 => absurd hc0 (b2i_0.mp h0)) (fun _ => ?_)
    refine PW_iload_n c_M_act_13 rfl ?_
    refine PW_iconst (v := 0) c_M_act_14 (by decide) ?_
    refine PW_iconst (v := 3) c_M_act_15 (by decide) ?_
    refine PW_S0 (d2 := 0) (st := []) [.int a2, .int 0, .int 3] c_M_act_16 lk_M_act_131 rfl rfl rfl (Nat.le_of_ble_eq_true rfl) (by first | decide | omega) (Nat.le_of_ble_eq_true rfl) ?_
    refine sp_M_within  ?_
    show PW _ _ _ 19 [some (.ref 70), some (.int a1), some (.int a2), some (.int a3)] [.int (b2i ((0 : Int32) ≤ a2 ∧ a2 ≤ (3 : Int32)))] (E (sI x 435 0) (sI y 611 0))
    refine PW_if_ne c_M_act_19 (fun h1 => absurd (b2i_n0.mp h1) hk5) (fun _ => ?_)
    refine PW_iconst (v := 0) c_M_act_22 (by decide) ?_
    refine PW_ireturn (ty := .int) c_M_act_23 rfl rfl ?_
    exact h
