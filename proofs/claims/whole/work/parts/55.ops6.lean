set_option maxHeartbeats 4000000 in
theorem op_leave {t : Nat} {x y : XS} (hI : INV t x y) (ht : t < 512) : ∃ (r : Int32) (x' y' : XS), INV (t + 1) x' y' ∧ (∀ {z : ZS} {post : Option Value → List PE → Prop}, post (some (.int r)) (E x' y) → PW (90, 0, 0, z) m_G_leave post 0 [some (.ref 5)] [] (E x y)) ∧ (∀ {z : ZS} {post : Option Value → List PE → Prop}, post (some (.int r)) (E x' y') → PW (90, 0, 0, z) m_M_leave post 0 [some (.ref 70), none] [] (E x' y)) := by
  obtain ⟨hg, hc, ht0, hl, hd, hb, hs⟩ := id hI
  obtain ⟨d1, d2, d3, d4, d5, d6, d7, d8, d9, d10, d11⟩ := id hd

  by_cases hc0 : ¬ (y.2.1 100 1 = 0)
  · refine ⟨-5, x, y, ?_, fun {z post} h => ?_, fun {z post} h => ?_⟩
    · exact INV_step hI
    · refine PW.deeper (k := (3, 0, 0, z)) (Nat.le_of_ble_eq_true rfl) (Nat.le_refl _) (Nat.le_refl _) ?_
      refine PW_aload_n c_G_leave_0 rfl ?_
      refine PW_get (v := .ref 46) c_G_leave_1 fl_G_65 (gf_5_7 _ _) ?_
      refine PW_V0 (d2 := 1) (st := []) [] c_G_leave_4 lk_G_leave_270 (po_46 _ _) rfl rfl rfl (Nat.le_of_ble_eq_true rfl) (by first | decide | omega) (Nat.le_of_ble_eq_true rfl) ?_
      show PW _ _ _ 0 [some (.ref 46)] [] (E x y)
      refine PW_aload_n c_E_inHall_0 rfl ?_
      refine PW_get (v := .ref 48) c_E_inHall_1 fl_E_24 (gf_46_1 _ _) ?_
      refine PW_V0 (d2 := 0) (st := []) [] c_E_inHall_4 lk_E_inHall_47 (po_48 _ _) rfl rfl rfl (Nat.le_of_ble_eq_true rfl) (by first | decide | omega) (Nat.le_of_ble_eq_true rfl) ?_
      show PW _ _ _ 0 [some (.ref 48)] [] (E x y)
      refine PW_aload_n c_V_room_0 rfl ?_
      refine PW_get (v := .int (x.1 386)) c_V_room_1 fl_V_23 (gf_48_2 _ _) ?_
      refine PW_ireturn (ty := .int) c_V_room_4 rfl rfl ?_
      show PW _ _ _ 7 [some (.ref 46)] [.int (x.1 386)] (E x y)
      refine PW_if_ne c_E_inHall_7 (fun h0 => ?_) (fun h0 => absurd h0 (by rw [d2]; exact hc0))
      refine PW_iconst (v := 0) c_E_inHall_14 (by decide) ?_
      refine PW_ireturn (ty := .boolean) c_E_inHall_15 rfl (by decide +kernel) ?_
      show PW _ _ _ 7 [some (.ref 5)] [.int 0] (E x y)
      refine PW_if_eq c_G_leave_7 (fun _ => ?_) (fun h1 => absurd (by decide) h1)
      refine PW_bipush (v := -5) c_G_leave_20 (by decide) ?_
      refine PW_ireturn (ty := .int) c_G_leave_22 rfl rfl ?_
      exact h
    · refine PW.deeper (k := (1, 0, 0, z)) (Nat.le_of_ble_eq_true rfl) (Nat.le_refl _) (Nat.le_refl _) ?_
      refine PW_aload_n c_M_leave_0 rfl ?_
      refine PW_get (v := .ref 100) c_M_leave_1 fl_M_99 (gf_70_46 _ _) ?_
      refine PW_iconst (v := 1) c_M_leave_4 (by decide) ?_
      refine PW_iald (j := 1) c_M_leave_5 (ar_100 _ _) (vp_in_iff.mpr (by decide)) rfl ?_
      show PW _ _ _ 6 [some (.ref 70), none] [.int ((y.2.1 100) 1)] (E x y)
      refine PW_if_eq c_M_leave_6 (fun h0 => absurd h0 hc0) (fun h0 => ?_)
      refine PW_bipush (v := -5) c_M_leave_9 (by decide) ?_
      refine PW_ireturn (ty := .int) c_M_leave_11 rfl rfl ?_
      exact h
  have he : y.2.1 100 1 = 0 := Decidable.not_not.mp hc0
  by_cases hc1 : mustB y &&& (y.2.1 100 2 ^^^ -1) = 0
  · refine ⟨1, sI (sI (sI (sI (sI x 373 ((x.1 373) + 1)) 374 ((x.1 374) + 1)) 386 0) 387 0) 388 0, sA (sA (sA (sA y 100 (upd (y.2.1 100) 0 0)) 100 (upd (upd (y.2.1 100) 0 0) 2 0)) 100 (upd (upd (upd (y.2.1 100) 0 0) 2 0) 4 (((upd (upd (y.2.1 100) 0 0) 2 0) 4) + 1))) 100 (upd (upd (upd (upd (y.2.1 100) 0 0) 2 0) 4 (((upd (upd (y.2.1 100) 0 0) 2 0) 4) + 1)) 5 (((upd (upd (upd (y.2.1 100) 0 0) 2 0) 4 (((upd (upd (y.2.1 100) 0 0) 2 0) 4) + 1)) 5) + 1)), ?_, fun {z post} h => ?_, fun {z post} h => ?_⟩
    · refine ⟨hg.cg (fun n q1 q2 => by first | rfl | (simp only [sI_1, sI_A, sI_G, sA_1, sA_A, sA_G, sG_1, sG_A, sG_G]; repeat rw [if_neg (by omega)])) (fun n q1 q2 => by first | rfl | (simp only [sI_1, sI_A, sI_G, sA_1, sA_A, sA_G, sG_1, sG_A, sG_G]; repeat rw [if_neg (by omega)])) (by first | rfl | (simp only [sI_1, sI_A, sI_G, sA_1, sA_A, sA_G, sG_1, sG_A, sG_G]; repeat rw [if_neg (by omega)])) (fun n q1 q2 => by first | rfl | (simp only [sI_1, sI_A, sI_G, sA_1, sA_A, sA_G, sG_1, sG_A, sG_G]; repeat rw [if_neg (by omega)])), hc.cg (fun n q1 q2 => by first | rfl | (simp only [sI_1, sI_A, sI_G, sA_1, sA_A, sA_G, sG_1, sG_A, sG_G]; repeat rw [if_neg (by omega)])) (fun n q1 q2 => by first | rfl | (simp only [sI_1, sI_A, sI_G, sA_1, sA_A, sA_G, sG_1, sG_A, sG_G]; repeat rw [if_neg (by omega)])) (fun n q1 q2 => by first | rfl | (simp only [sI_1, sI_A, sI_G, sA_1, sA_A, sA_G, sG_1, sG_A, sG_G]; repeat rw [if_neg (by omega)])) (fun n q1 q2 => by first | rfl | (simp only [sI_1, sI_A, sI_G, sA_1, sA_A, sA_G, sG_1, sG_A, sG_G]; repeat rw [if_neg (by omega)])) (Nat.le_of_eq (nG_cg (by first | rfl | (simp only [sI_1, sI_A, sI_G, sA_1, sA_A, sA_G, sG_1, sG_A, sG_G]; repeat rw [if_neg (by omega)]))).symm), ht0.cg (by first | rfl | (simp only [sI_1, sI_A, sI_G, sA_1, sA_A, sA_G, sG_1, sG_A, sG_G]; repeat rw [if_neg (by omega)])) (by first | rfl | (simp only [sI_1, sI_A, sI_G, sA_1, sA_A, sA_G, sG_1, sG_A, sG_G]; repeat rw [if_neg (by omega)])) (by first | rfl | (simp only [sI_1, sI_A, sI_G, sA_1, sA_A, sA_G, sG_1, sG_A, sG_G]; repeat rw [if_neg (by omega)])) (by first | rfl | (simp only [sI_1, sI_A, sI_G, sA_1, sA_A, sA_G, sG_1, sG_A, sG_G]; repeat rw [if_neg (by omega)])), hl.cg (by first | rfl | (simp only [sI_1, sI_A, sI_G, sA_1, sA_A, sA_G, sG_1, sG_A, sG_G]; repeat rw [if_neg (by omega)])) (fun n q1 q2 => by first | rfl | (simp only [sI_1, sI_A, sI_G, sA_1, sA_A, sA_G, sG_1, sG_A, sG_G]; repeat rw [if_neg (by omega)])) (by first | rfl | (simp only [sI_1, sI_A, sI_G, sA_1, sA_A, sA_G, sG_1, sG_A, sG_G]; repeat rw [if_neg (by omega)])) (fun n q1 q2 => by first | rfl | (simp only [sI_1, sI_A, sI_G, sA_1, sA_A, sA_G, sG_1, sG_A, sG_G]; repeat rw [if_neg (by omega)])), ?_, hb.cg (fun n q1 q2 => by first | rfl | (simp only [sI_1, sI_A, sI_G, sA_1, sA_A, sA_G, sG_1, sG_A, sG_G]; repeat rw [if_neg (by omega)])) (fun n q1 q2 => by first | rfl | (simp only [sI_1, sI_A, sI_G, sA_1, sA_A, sA_G, sG_1, sG_A, sG_G]; repeat rw [if_neg (by omega)])) (fun n q1 q2 => by first | rfl | (simp only [sI_1, sI_A, sI_G, sA_1, sA_A, sA_G, sG_1, sG_A, sG_G]; repeat rw [if_neg (by omega)])) (fun n q1 q2 => by first | rfl | (simp only [sI_1, sI_A, sI_G, sA_1, sA_A, sA_G, sG_1, sG_A, sG_G]; repeat rw [if_neg (by omega)])), hs.cg (fun n q1 q2 => by first | rfl | (simp only [sI_1, sI_A, sI_G, sA_1, sA_A, sA_G, sG_1, sG_A, sG_G]; repeat rw [if_neg (by omega)])) (fun n q1 q2 => by first | rfl | (simp only [sI_1, sI_A, sI_G, sA_1, sA_A, sA_G, sG_1, sG_A, sG_G]; repeat rw [if_neg (by omega)])) (by first | exact Int.le_refl _ | (simp only [sI_1, sI_A, sI_G, sA_1, sA_A, sA_G, sG_1, sG_A, sG_G]; repeat rw [if_neg (by omega)])) (fun n q1 q2 => by first | rfl | (simp only [sI_1, sI_A, sI_G, sA_1, sA_A, sA_G, sG_1, sG_A, sG_G]; repeat rw [if_neg (by omega)])) (by first | rfl | (simp only [sI_1, sI_A, sI_G, sA_1, sA_A, sA_G, sG_1, sG_A, sG_G]; repeat rw [if_neg (by omega)]))⟩
      · refine ⟨rfl, ?_, rfl, d4, ?_, ?_, ?_, d8, okd_up (Nat.le_succ _) d9, d10, d11⟩
        · show (0 : Int32) = y.2.1 100 1
          exact he.symm
        · show x.1 373 + 1 = y.2.1 100 4 + 1
          rw [d5]
        · show x.1 374 + 1 = y.2.1 100 5 + 1
          rw [d6]
        · refine ⟨(by decide : 0 ≤ (0 : Int32).toInt), ?_, d7.2.2.1, d7.2.2.2.1, ⟨0, by decide, rfl⟩, fun i q1 q2 => ?_⟩
          · show (0 : Int32).toInt ≤ _
            rw [tiA.1]; omega
          · have q3 := d7.2.2.2.2.2 3 (by omega) (by omega)
            have q4 := d7.2.2.2.2.2 4 (by omega) (by omega)
            have q5 := d7.2.2.2.2.2 5 (by omega) (by omega)
            rcases (show i = 3 ∨ i = 4 ∨ i = 5 by omega) with rfl | rfl | rfl
            · show 0 ≤ (y.2.1 100 3).toInt ∧ (y.2.1 100 3).toInt ≤ _
              omega
            · show 0 ≤ (y.2.1 100 4 + 1).toInt ∧ (y.2.1 100 4 + 1).toInt ≤ _
              rw [ti_add (by simp only [tiA]; omega) (by simp only [tiA]; omega)]; simp only [tiA]; omega
            · show 0 ≤ (y.2.1 100 5 + 1).toInt ∧ (y.2.1 100 5 + 1).toInt ≤ _
              rw [ti_add (by simp only [tiA]; omega) (by simp only [tiA]; omega)]; simp only [tiA]; omega
    · refine PW.deeper (k := (3, 0, 0, z)) (Nat.le_of_ble_eq_true rfl) (Nat.le_refl _) (Nat.le_refl _) ?_
      refine PW_aload_n c_G_leave_0 rfl ?_
      refine PW_get (v := .ref 46) c_G_leave_1 fl_G_65 (gf_5_7 _ _) ?_
      refine PW_V0 (d2 := 1) (st := []) [] c_G_leave_4 lk_G_leave_270 (po_46 _ _) rfl rfl rfl (Nat.le_of_ble_eq_true rfl) (by first | decide | omega) (Nat.le_of_ble_eq_true rfl) ?_
      show PW _ _ _ 0 [some (.ref 46)] [] (E x y)
      refine PW_aload_n c_E_inHall_0 rfl ?_
      refine PW_get (v := .ref 48) c_E_inHall_1 fl_E_24 (gf_46_1 _ _) ?_
      refine PW_V0 (d2 := 0) (st := []) [] c_E_inHall_4 lk_E_inHall_47 (po_48 _ _) rfl rfl rfl (Nat.le_of_ble_eq_true rfl) (by first | decide | omega) (Nat.le_of_ble_eq_true rfl) ?_
      show PW _ _ _ 0 [some (.ref 48)] [] (E x y)
      refine PW_aload_n c_V_room_0 rfl ?_
      refine PW_get (v := .int (x.1 386)) c_V_room_1 fl_V_23 (gf_48_2 _ _) ?_
      refine PW_ireturn (ty := .int) c_V_room_4 rfl rfl ?_
      show PW _ _ _ 7 [some (.ref 46)] [.int (x.1 386)] (E x y)
      refine PW_if_ne c_E_inHall_7 (fun h0 => absurd h0 (not_not_intro (by rw [d2]; exact he))) (fun h0 => ?_)
      refine PW_iconst (v := 1) c_E_inHall_10 (by decide) ?_
      refine PW_goto c_E_inHall_11 ?_
      refine PW_ireturn (ty := .boolean) c_E_inHall_15 rfl (by decide +kernel) ?_
      show PW _ _ _ 7 [some (.ref 5)] [.int 1] (E x y)
      refine PW_if_eq c_G_leave_7 (fun h1 => absurd h1 (by decide)) (fun _ => ?_)
      refine PW_aload_n c_G_leave_10 rfl ?_
      refine PW_get (v := .ref 46) c_G_leave_11 fl_G_65 (gf_5_7 _ _) ?_
      refine PW_V0 (d2 := 2) (st := []) [] c_G_leave_14 lk_G_leave_274 (po_46 _ _) rfl rfl rfl (Nat.le_of_ble_eq_true rfl) (by first | decide | omega) (Nat.le_of_ble_eq_true rfl) ?_
      show PW _ _ _ 0 [some (.ref 46), none] [] (E x y)
      refine PW_aload_n c_E_close_0 rfl ?_
      refine PW_get (v := .ref 6) c_E_close_1 fl_E_15 (gf_46_0 _ _) ?_
      refine PW_aload_n c_E_close_4 rfl ?_
      refine PW_get (v := .ref 48) c_E_close_5 fl_E_24 (gf_46_1 _ _) ?_
      refine PW_V0 (d2 := 0) (st := [.ref 6]) [] c_E_close_8 lk_E_close_50 (po_48 _ _) rfl rfl rfl (Nat.le_of_ble_eq_true rfl) (by first | decide | omega) (Nat.le_of_ble_eq_true rfl) ?_
      show PW _ _ _ 0 [some (.ref 48)] [] (E x y)
      refine PW_aload_n c_V_told_0 rfl ?_
      refine PW_get (v := .int (x.1 388)) c_V_told_1 fl_V_30 (gf_48_4 _ _) ?_
      refine PW_ireturn (ty := .int) c_V_told_4 rfl rfl ?_
      show PW _ _ _ 11 [some (.ref 46), none] [.int (x.1 388), .ref 6] (E x y)
      refine PW_V0 (d2 := 0) (st := []) [.int (x.1 388)] c_E_close_11 lk_E_close_53 (po_6 _ _) rfl rfl rfl (Nat.le_of_ble_eq_true rfl) (by first | decide | omega) (Nat.le_of_ble_eq_true rfl) ?_
      show PW _ _ _ 0 [some (.ref 6), some (.int (x.1 388))] [] (E x y)
      refine PW_aload_n c_H_missed_0 rfl ?_
      refine PW_get (v := .int (x.1 52)) c_H_missed_1 fl_H_45 (gf_6_4 _ _) ?_
      refine PW_iload_n c_H_missed_4 rfl ?_
      refine PW_iconst (v := -1) c_H_missed_5 (by decide) ?_
      refine PW_ixor c_H_missed_6 ?_
      refine PW_iand c_H_missed_7 ?_
      refine PW_ireturn (ty := .int) c_H_missed_8 rfl rfl ?_
      show PW _ _ _ 14 [some (.ref 46), none] [.int ((x.1 52) &&& ((x.1 388) ^^^ (-1)))] (E x y)
      refine PW_if_ne c_E_close_14 (fun h2 => absurd h2 (not_not_intro (by rw [hg.x52, d3]; exact hc1))) (fun h2 => ?_)
      refine PW_iconst (v := 1) c_E_close_17 (by decide) ?_
      refine PW_goto c_E_close_18 ?_
      refine PW_istore_n (i := 1) (L2 := [some (.ref 46), some (.int 1)]) c_E_close_22 rfl (Nat.le_of_ble_eq_true rfl) rfl rfl ?_
      refine PW_aload_n c_E_close_23 rfl ?_
      refine PW_dup c_E_close_24 rfl ?_
      refine PW_get (v := .int (x.1 373)) c_E_close_25 fl_E_58 (gf_46_5 _ _) ?_
      refine PW_iload_n c_E_close_28 rfl ?_
      refine PW_iadd c_E_close_29 ?_
      refine PW_put (w2 := E (sI x 373 ((x.1 373) + 1)) y) c_E_close_30 fp_E_close_58 rfl (pf_46_5 _ _ _) ?_
      refine PW_aload_n c_E_close_33 rfl ?_
      refine PW_dup c_E_close_34 rfl ?_
      refine PW_get (v := .int (x.1 374)) c_E_close_35 fl_E_61 (gf_46_6 _ _) ?_
      refine PW_iconst (v := 1) c_E_close_38 (by decide) ?_
      refine PW_iadd c_E_close_39 ?_
      refine PW_put (w2 := E (sI (sI x 373 ((x.1 373) + 1)) 374 ((x.1 374) + 1)) y) c_E_close_40 fp_E_close_61 rfl (pf_46_6 _ _ _) ?_
      refine PW_aload_n c_E_close_43 rfl ?_
      refine PW_get (v := .ref 48) c_E_close_44 fl_E_24 (gf_46_1 _ _) ?_
      refine PW_iconst (v := 0) c_E_close_47 (by decide) ?_
      refine PW_iconst (v := 0) c_E_close_48 (by decide) ?_
      refine PW_V0 (d2 := 1) (st := []) [.int 0, .int 0] c_E_close_49 lk_E_close_64 (po_48 _ _) rfl rfl rfl (Nat.le_of_ble_eq_true rfl) (by first | decide | omega) (Nat.le_of_ble_eq_true rfl) ?_
      show PW _ _ _ 0 [some (.ref 48), some (.int 0), some (.int 0)] [] (E (sI (sI x 373 ((x.1 373) + 1)) 374 ((x.1 374) + 1)) y)
      refine PW_aload_n c_V_begin_0 rfl ?_
      refine PW_iload_n c_V_begin_1 rfl ?_
      refine PW_iload_n c_V_begin_2 rfl ?_
      refine PW_iconst (v := 0) c_V_begin_3 (by decide) ?_
      refine PW_V0 (d2 := 0) (st := []) [.int 0, .int 0, .int 0] c_V_begin_4 lk_V_begin_19 (po_48 _ _) rfl rfl rfl (Nat.le_of_ble_eq_true rfl) (by first | decide | omega) (Nat.le_of_ble_eq_true rfl) ?_
      show PW _ _ _ 0 [some (.ref 48), some (.int 0), some (.int 0), some (.int 0)] [] (E (sI (sI x 373 ((x.1 373) + 1)) 374 ((x.1 374) + 1)) y)
      refine PW_aload_n c_V_stand_0 rfl ?_
      refine PW_iload_n c_V_stand_1 rfl ?_
      refine PW_put (w2 := E (sI (sI (sI x 373 ((x.1 373) + 1)) 374 ((x.1 374) + 1)) 386 0) y) c_V_stand_2 fp_V_stand_23 rfl (pf_48_2 _ _ _) ?_
      refine PW_aload_n c_V_stand_5 rfl ?_
      refine PW_iload_n c_V_stand_6 rfl ?_
      refine PW_put (w2 := E (sI (sI (sI (sI x 373 ((x.1 373) + 1)) 374 ((x.1 374) + 1)) 386 0) 387 0) y) c_V_stand_7 fp_V_stand_27 rfl (pf_48_3 _ _ _) ?_
      refine PW_aload_n c_V_stand_10 rfl ?_
      refine PW_iload_n c_V_stand_11 rfl ?_
      refine PW_put (w2 := E (sI (sI (sI (sI (sI x 373 ((x.1 373) + 1)) 374 ((x.1 374) + 1)) 386 0) 387 0) 388 0) y) c_V_stand_12 fp_V_stand_30 rfl (pf_48_4 _ _ _) ?_
      refine PW_vreturn c_V_stand_15 rfl ?_
      show PW _ _ _ 7 [some (.ref 48), some (.int 0), some (.int 0)] [] (E (sI (sI (sI (sI (sI x 373 ((x.1 373) + 1)) 374 ((x.1 374) + 1)) 386 0) 387 0) 388 0) y)
      refine PW_vreturn c_V_begin_7 rfl ?_
      show PW _ _ _ 52 [some (.ref 46), some (.int 1)] [] (E (sI (sI (sI (sI (sI x 373 ((x.1 373) + 1)) 374 ((x.1 374) + 1)) 386 0) 387 0) 388 0) y)
      refine PW_iload_n c_E_close_52 rfl ?_
      refine PW_ireturn (ty := .int) c_E_close_53 rfl rfl ?_
      show PW _ _ _ 17 [some (.ref 5)] [.int 1] (E (sI (sI (sI (sI (sI x 373 ((x.1 373) + 1)) 374 ((x.1 374) + 1)) 386 0) 387 0) 388 0) y)
      refine PW_goto c_G_leave_17 ?_
      refine PW_ireturn (ty := .int) c_G_leave_22 rfl rfl ?_
      exact h
    · refine PW.deeper (k := (1, 0, 0, z)) (Nat.le_of_ble_eq_true rfl) (Nat.le_refl _) (Nat.le_refl _) ?_
      refine PW_aload_n c_M_leave_0 rfl ?_
      refine PW_get (v := .ref 100) c_M_leave_1 fl_M_99 (gf_70_46 _ _) ?_
      refine PW_iconst (v := 1) c_M_leave_4 (by decide) ?_
      refine PW_iald (j := 1) c_M_leave_5 (ar_100 _ _) (vp_in_iff.mpr (by decide)) rfl ?_
      show PW _ _ _ 6 [some (.ref 70), none] [.int ((y.2.1 100) 1)] (E (sI (sI (sI (sI (sI x 373 ((x.1 373) + 1)) 374 ((x.1 374) + 1)) 386 0) 387 0) 388 0) y)
      refine PW_if_eq c_M_leave_6 (fun h0 => ?_) (fun h0 => absurd he h0)
      refine PW_aload_n c_M_leave_12 rfl ?_
      refine PW_V0 (d2 := 0) (st := []) [] c_M_leave_13 lk_M_leave_253 (po_70 _ _) rfl rfl rfl (Nat.le_of_ble_eq_true rfl) (by first | decide | omega) (Nat.le_of_ble_eq_true rfl) ?_
      refine sp_M_allMust hg.W ?_
      show PW _ _ _ 16 [some (.ref 70), none] [.int (mustB y)] (E (sI (sI (sI (sI (sI x 373 ((x.1 373) + 1)) 374 ((x.1 374) + 1)) 386 0) 387 0) 388 0) y)
      refine PW_aload_n c_M_leave_16 rfl ?_
      refine PW_get (v := .ref 100) c_M_leave_17 fl_M_99 (gf_70_46 _ _) ?_
      refine PW_iconst (v := 2) c_M_leave_20 (by decide) ?_
      refine PW_iald (j := 2) c_M_leave_21 (ar_100 _ _) (vp_in_iff.mpr (by decide)) rfl ?_
      show PW _ _ _ 22 [some (.ref 70), none] [.int ((y.2.1 100) 2), .int (mustB y)] (E (sI (sI (sI (sI (sI x 373 ((x.1 373) + 1)) 374 ((x.1 374) + 1)) 386 0) 387 0) 388 0) y)
      refine PW_iconst (v := -1) c_M_leave_22 (by decide) ?_
      refine PW_ixor c_M_leave_23 ?_
      refine PW_iand c_M_leave_24 ?_
      refine PW_if_ne c_M_leave_25 (fun h1 => absurd h1 (not_not_intro hc1)) (fun h1 => ?_)
      refine PW_iconst (v := 1) c_M_leave_28 (by decide) ?_
      refine PW_goto c_M_leave_29 ?_
      refine PW_istore_n (i := 1) (L2 := [some (.ref 70), some (.int 1)]) c_M_leave_33 rfl (Nat.le_of_ble_eq_true rfl) rfl rfl ?_
      refine PW_aload_n c_M_leave_34 rfl ?_
      refine PW_get (v := .ref 100) c_M_leave_35 fl_M_99 (gf_70_46 _ _) ?_
      refine PW_iconst (v := 0) c_M_leave_38 (by decide) ?_
      refine PW_iconst (v := 0) c_M_leave_39 (by decide) ?_
      refine PW_iast (j := 0) (w2 := E (sI (sI (sI (sI (sI x 373 ((x.1 373) + 1)) 374 ((x.1 374) + 1)) 386 0) 387 0) 388 0) (sA y 100 (upd (y.2.1 100) 0 0))) c_M_leave_40 (ar_100 _ _) (vp_in_iff.mpr (by decide)) rfl (aw_100 _ _ _) ?_
      refine PW_aload_n c_M_leave_41 rfl ?_
      refine PW_get (v := .ref 100) c_M_leave_42 fl_M_99 (gf_70_46 _ _) ?_
      refine PW_iconst (v := 2) c_M_leave_45 (by decide) ?_
      refine PW_iconst (v := 0) c_M_leave_46 (by decide) ?_
      refine PW_iast (j := 2) (w2 := E (sI (sI (sI (sI (sI x 373 ((x.1 373) + 1)) 374 ((x.1 374) + 1)) 386 0) 387 0) 388 0) (sA (sA y 100 (upd (y.2.1 100) 0 0)) 100 (upd (upd (y.2.1 100) 0 0) 2 0))) c_M_leave_47 (ar_100 _ _) (vp_in_iff.mpr (by decide)) rfl (aw_100 _ _ _) ?_
      refine PW_aload_n c_M_leave_48 rfl ?_
      refine PW_get (v := .ref 100) c_M_leave_49 fl_M_99 (gf_70_46 _ _) ?_
      refine PW_iconst (v := 4) c_M_leave_52 (by decide) ?_
      refine PW_dup2 c_M_leave_53 rfl rfl ?_
      refine PW_iald (j := 4) c_M_leave_54 (ar_100 _ _) (vp_in_iff.mpr (by decide)) rfl ?_
      show PW _ _ _ 55 [some (.ref 70), some (.int 1)] [.int ((upd (upd (y.2.1 100) 0 0) 2 0) 4), .int 4, .ref 100] (E (sI (sI (sI (sI (sI x 373 ((x.1 373) + 1)) 374 ((x.1 374) + 1)) 386 0) 387 0) 388 0) (sA (sA y 100 (upd (y.2.1 100) 0 0)) 100 (upd (upd (y.2.1 100) 0 0) 2 0)))
      refine PW_iload_n c_M_leave_55 rfl ?_
      refine PW_iadd c_M_leave_56 ?_
      refine PW_iast (j := 4) (w2 := E (sI (sI (sI (sI (sI x 373 ((x.1 373) + 1)) 374 ((x.1 374) + 1)) 386 0) 387 0) 388 0) (sA (sA (sA y 100 (upd (y.2.1 100) 0 0)) 100 (upd (upd (y.2.1 100) 0 0) 2 0)) 100 (upd (upd (upd (y.2.1 100) 0 0) 2 0) 4 (((upd (upd (y.2.1 100) 0 0) 2 0) 4) + 1)))) c_M_leave_57 (ar_100 _ _) (vp_in_iff.mpr (by decide)) rfl (aw_100 _ _ _) ?_
      refine PW_aload_n c_M_leave_58 rfl ?_
      refine PW_get (v := .ref 100) c_M_leave_59 fl_M_99 (gf_70_46 _ _) ?_
      refine PW_iconst (v := 5) c_M_leave_62 (by decide) ?_
      refine PW_dup2 c_M_leave_63 rfl rfl ?_
      refine PW_iald (j := 5) c_M_leave_64 (ar_100 _ _) (vp_in_iff.mpr (by decide)) rfl ?_
      show PW _ _ _ 65 [some (.ref 70), some (.int 1)] [.int ((upd (upd (upd (y.2.1 100) 0 0) 2 0) 4 (((upd (upd (y.2.1 100) 0 0) 2 0) 4) + 1)) 5), .int 5, .ref 100] (E (sI (sI (sI (sI (sI x 373 ((x.1 373) + 1)) 374 ((x.1 374) + 1)) 386 0) 387 0) 388 0) (sA (sA (sA y 100 (upd (y.2.1 100) 0 0)) 100 (upd (upd (y.2.1 100) 0 0) 2 0)) 100 (upd (upd (upd (y.2.1 100) 0 0) 2 0) 4 (((upd (upd (y.2.1 100) 0 0) 2 0) 4) + 1))))
      refine PW_iconst (v := 1) c_M_leave_65 (by decide) ?_
      refine PW_iadd c_M_leave_66 ?_
      refine PW_iast (j := 5) (w2 := E (sI (sI (sI (sI (sI x 373 ((x.1 373) + 1)) 374 ((x.1 374) + 1)) 386 0) 387 0) 388 0) (sA (sA (sA (sA y 100 (upd (y.2.1 100) 0 0)) 100 (upd (upd (y.2.1 100) 0 0) 2 0)) 100 (upd (upd (upd (y.2.1 100) 0 0) 2 0) 4 (((upd (upd (y.2.1 100) 0 0) 2 0) 4) + 1))) 100 (upd (upd (upd (upd (y.2.1 100) 0 0) 2 0) 4 (((upd (upd (y.2.1 100) 0 0) 2 0) 4) + 1)) 5 (((upd (upd (upd (y.2.1 100) 0 0) 2 0) 4 (((upd (upd (y.2.1 100) 0 0) 2 0) 4) + 1)) 5) + 1)))) c_M_leave_67 (ar_100 _ _) (vp_in_iff.mpr (by decide)) rfl (aw_100 _ _ _) ?_
      refine PW_iload_n c_M_leave_68 rfl ?_
      refine PW_ireturn (ty := .int) c_M_leave_69 rfl rfl ?_
      exact h
  refine ⟨0, sI (sI (sI (sI (sI x 373 ((x.1 373) + 0)) 374 ((x.1 374) + 1)) 386 0) 387 0) 388 0, sA (sA (sA (sA y 100 (upd (y.2.1 100) 0 0)) 100 (upd (upd (y.2.1 100) 0 0) 2 0)) 100 (upd (upd (upd (y.2.1 100) 0 0) 2 0) 4 (((upd (upd (y.2.1 100) 0 0) 2 0) 4) + 0))) 100 (upd (upd (upd (upd (y.2.1 100) 0 0) 2 0) 4 (((upd (upd (y.2.1 100) 0 0) 2 0) 4) + 0)) 5 (((upd (upd (upd (y.2.1 100) 0 0) 2 0) 4 (((upd (upd (y.2.1 100) 0 0) 2 0) 4) + 0)) 5) + 1)), ?_, fun {z post} h => ?_, fun {z post} h => ?_⟩
  · refine ⟨hg.cg (fun n q1 q2 => by first | rfl | (simp only [sI_1, sI_A, sI_G, sA_1, sA_A, sA_G, sG_1, sG_A, sG_G]; repeat rw [if_neg (by omega)])) (fun n q1 q2 => by first | rfl | (simp only [sI_1, sI_A, sI_G, sA_1, sA_A, sA_G, sG_1, sG_A, sG_G]; repeat rw [if_neg (by omega)])) (by first | rfl | (simp only [sI_1, sI_A, sI_G, sA_1, sA_A, sA_G, sG_1, sG_A, sG_G]; repeat rw [if_neg (by omega)])) (fun n q1 q2 => by first | rfl | (simp only [sI_1, sI_A, sI_G, sA_1, sA_A, sA_G, sG_1, sG_A, sG_G]; repeat rw [if_neg (by omega)])), hc.cg (fun n q1 q2 => by first | rfl | (simp only [sI_1, sI_A, sI_G, sA_1, sA_A, sA_G, sG_1, sG_A, sG_G]; repeat rw [if_neg (by omega)])) (fun n q1 q2 => by first | rfl | (simp only [sI_1, sI_A, sI_G, sA_1, sA_A, sA_G, sG_1, sG_A, sG_G]; repeat rw [if_neg (by omega)])) (fun n q1 q2 => by first | rfl | (simp only [sI_1, sI_A, sI_G, sA_1, sA_A, sA_G, sG_1, sG_A, sG_G]; repeat rw [if_neg (by omega)])) (fun n q1 q2 => by first | rfl | (simp only [sI_1, sI_A, sI_G, sA_1, sA_A, sA_G, sG_1, sG_A, sG_G]; repeat rw [if_neg (by omega)])) (Nat.le_of_eq (nG_cg (by first | rfl | (simp only [sI_1, sI_A, sI_G, sA_1, sA_A, sA_G, sG_1, sG_A, sG_G]; repeat rw [if_neg (by omega)]))).symm), ht0.cg (by first | rfl | (simp only [sI_1, sI_A, sI_G, sA_1, sA_A, sA_G, sG_1, sG_A, sG_G]; repeat rw [if_neg (by omega)])) (by first | rfl | (simp only [sI_1, sI_A, sI_G, sA_1, sA_A, sA_G, sG_1, sG_A, sG_G]; repeat rw [if_neg (by omega)])) (by first | rfl | (simp only [sI_1, sI_A, sI_G, sA_1, sA_A, sA_G, sG_1, sG_A, sG_G]; repeat rw [if_neg (by omega)])) (by first | rfl | (simp only [sI_1, sI_A, sI_G, sA_1, sA_A, sA_G, sG_1, sG_A, sG_G]; repeat rw [if_neg (by omega)])), hl.cg (by first | rfl | (simp only [sI_1, sI_A, sI_G, sA_1, sA_A, sA_G, sG_1, sG_A, sG_G]; repeat rw [if_neg (by omega)])) (fun n q1 q2 => by first | rfl | (simp only [sI_1, sI_A, sI_G, sA_1, sA_A, sA_G, sG_1, sG_A, sG_G]; repeat rw [if_neg (by omega)])) (by first | rfl | (simp only [sI_1, sI_A, sI_G, sA_1, sA_A, sA_G, sG_1, sG_A, sG_G]; repeat rw [if_neg (by omega)])) (fun n q1 q2 => by first | rfl | (simp only [sI_1, sI_A, sI_G, sA_1, sA_A, sA_G, sG_1, sG_A, sG_G]; repeat rw [if_neg (by omega)])), ?_, hb.cg (fun n q1 q2 => by first | rfl | (simp only [sI_1, sI_A, sI_G, sA_1, sA_A, sA_G, sG_1, sG_A, sG_G]; repeat rw [if_neg (by omega)])) (fun n q1 q2 => by first | rfl | (simp only [sI_1, sI_A, sI_G, sA_1, sA_A, sA_G, sG_1, sG_A, sG_G]; repeat rw [if_neg (by omega)])) (fun n q1 q2 => by first | rfl | (simp only [sI_1, sI_A, sI_G, sA_1, sA_A, sA_G, sG_1, sG_A, sG_G]; repeat rw [if_neg (by omega)])) (fun n q1 q2 => by first | rfl | (simp only [sI_1, sI_A, sI_G, sA_1, sA_A, sA_G, sG_1, sG_A, sG_G]; repeat rw [if_neg (by omega)])), hs.cg (fun n q1 q2 => by first | rfl | (simp only [sI_1, sI_A, sI_G, sA_1, sA_A, sA_G, sG_1, sG_A, sG_G]; repeat rw [if_neg (by omega)])) (fun n q1 q2 => by first | rfl | (simp only [sI_1, sI_A, sI_G, sA_1, sA_A, sA_G, sG_1, sG_A, sG_G]; repeat rw [if_neg (by omega)])) (by first | exact Int.le_refl _ | (simp only [sI_1, sI_A, sI_G, sA_1, sA_A, sA_G, sG_1, sG_A, sG_G]; repeat rw [if_neg (by omega)])) (fun n q1 q2 => by first | rfl | (simp only [sI_1, sI_A, sI_G, sA_1, sA_A, sA_G, sG_1, sG_A, sG_G]; repeat rw [if_neg (by omega)])) (by first | rfl | (simp only [sI_1, sI_A, sI_G, sA_1, sA_A, sA_G, sG_1, sG_A, sG_G]; repeat rw [if_neg (by omega)]))⟩
    · refine ⟨rfl, ?_, rfl, d4, ?_, ?_, ?_, d8, okd_up (Nat.le_succ _) d9, d10, d11⟩
      · show (0 : Int32) = y.2.1 100 1
        exact he.symm
      · show x.1 373 + 0 = y.2.1 100 4 + 0
        rw [d5]
      · show x.1 374 + 1 = y.2.1 100 5 + 1
        rw [d6]
      · refine ⟨(by decide : 0 ≤ (0 : Int32).toInt), ?_, d7.2.2.1, d7.2.2.2.1, ⟨0, by decide, rfl⟩, fun i q1 q2 => ?_⟩
        · show (0 : Int32).toInt ≤ _
          rw [tiA.1]; omega
        · have q3 := d7.2.2.2.2.2 3 (by omega) (by omega)
          have q4 := d7.2.2.2.2.2 4 (by omega) (by omega)
          have q5 := d7.2.2.2.2.2 5 (by omega) (by omega)
          rcases (show i = 3 ∨ i = 4 ∨ i = 5 by omega) with rfl | rfl | rfl
          · show 0 ≤ (y.2.1 100 3).toInt ∧ (y.2.1 100 3).toInt ≤ _
            omega
          · show 0 ≤ (y.2.1 100 4 + 0).toInt ∧ (y.2.1 100 4 + 0).toInt ≤ _
            rw [ti_add (by simp only [tiA]; omega) (by simp only [tiA]; omega)]; simp only [tiA]; omega
          · show 0 ≤ (y.2.1 100 5 + 1).toInt ∧ (y.2.1 100 5 + 1).toInt ≤ _
            rw [ti_add (by simp only [tiA]; omega) (by simp only [tiA]; omega)]; simp only [tiA]; omega
  · refine PW.deeper (k := (3, 0, 0, z)) (Nat.le_of_ble_eq_true rfl) (Nat.le_refl _) (Nat.le_refl _) ?_
    refine PW_aload_n c_G_leave_0 rfl ?_
    refine PW_get (v := .ref 46) c_G_leave_1 fl_G_65 (gf_5_7 _ _) ?_
    refine PW_V0 (d2 := 1) (st := []) [] c_G_leave_4 lk_G_leave_270 (po_46 _ _) rfl rfl rfl (Nat.le_of_ble_eq_true rfl) (by first | decide | omega) (Nat.le_of_ble_eq_true rfl) ?_
    show PW _ _ _ 0 [some (.ref 46)] [] (E x y)
    refine PW_aload_n c_E_inHall_0 rfl ?_
    refine PW_get (v := .ref 48) c_E_inHall_1 fl_E_24 (gf_46_1 _ _) ?_
    refine PW_V0 (d2 := 0) (st := []) [] c_E_inHall_4 lk_E_inHall_47 (po_48 _ _) rfl rfl rfl (Nat.le_of_ble_eq_true rfl) (by first | decide | omega) (Nat.le_of_ble_eq_true rfl) ?_
    show PW _ _ _ 0 [some (.ref 48)] [] (E x y)
    refine PW_aload_n c_V_room_0 rfl ?_
    refine PW_get (v := .int (x.1 386)) c_V_room_1 fl_V_23 (gf_48_2 _ _) ?_
    refine PW_ireturn (ty := .int) c_V_room_4 rfl rfl ?_
    show PW _ _ _ 7 [some (.ref 46)] [.int (x.1 386)] (E x y)
    refine PW_if_ne c_E_inHall_7 (fun h0 => absurd h0 (not_not_intro (by rw [d2]; exact he))) (fun h0 => ?_)
    refine PW_iconst (v := 1) c_E_inHall_10 (by decide) ?_
    refine PW_goto c_E_inHall_11 ?_
    refine PW_ireturn (ty := .boolean) c_E_inHall_15 rfl (by decide +kernel) ?_
    show PW _ _ _ 7 [some (.ref 5)] [.int 1] (E x y)
    refine PW_if_eq c_G_leave_7 (fun h1 => absurd h1 (by decide)) (fun _ => ?_)
    refine PW_aload_n c_G_leave_10 rfl ?_
    refine PW_get (v := .ref 46) c_G_leave_11 fl_G_65 (gf_5_7 _ _) ?_
    refine PW_V0 (d2 := 2) (st := []) [] c_G_leave_14 lk_G_leave_274 (po_46 _ _) rfl rfl rfl (Nat.le_of_ble_eq_true rfl) (by first | decide | omega) (Nat.le_of_ble_eq_true rfl) ?_
    show PW _ _ _ 0 [some (.ref 46), none] [] (E x y)
    refine PW_aload_n c_E_close_0 rfl ?_
    refine PW_get (v := .ref 6) c_E_close_1 fl_E_15 (gf_46_0 _ _) ?_
    refine PW_aload_n c_E_close_4 rfl ?_
    refine PW_get (v := .ref 48) c_E_close_5 fl_E_24 (gf_46_1 _ _) ?_
    refine PW_V0 (d2 := 0) (st := [.ref 6]) [] c_E_close_8 lk_E_close_50 (po_48 _ _) rfl rfl rfl (Nat.le_of_ble_eq_true rfl) (by first | decide | omega) (Nat.le_of_ble_eq_true rfl) ?_
    show PW _ _ _ 0 [some (.ref 48)] [] (E x y)
    refine PW_aload_n c_V_told_0 rfl ?_
    refine PW_get (v := .int (x.1 388)) c_V_told_1 fl_V_30 (gf_48_4 _ _) ?_
    refine PW_ireturn (ty := .int) c_V_told_4 rfl rfl ?_
    show PW _ _ _ 11 [some (.ref 46), none] [.int (x.1 388), .ref 6] (E x y)
    refine PW_V0 (d2 := 0) (st := []) [.int (x.1 388)] c_E_close_11 lk_E_close_53 (po_6 _ _) rfl rfl rfl (Nat.le_of_ble_eq_true rfl) (by first | decide | omega) (Nat.le_of_ble_eq_true rfl) ?_
    show PW _ _ _ 0 [some (.ref 6), some (.int (x.1 388))] [] (E x y)
    refine PW_aload_n c_H_missed_0 rfl ?_
    refine PW_get (v := .int (x.1 52)) c_H_missed_1 fl_H_45 (gf_6_4 _ _) ?_
    refine PW_iload_n c_H_missed_4 rfl ?_
    refine PW_iconst (v := -1) c_H_missed_5 (by decide) ?_
    refine PW_ixor c_H_missed_6 ?_
    refine PW_iand c_H_missed_7 ?_
    refine PW_ireturn (ty := .int) c_H_missed_8 rfl rfl ?_
    show PW _ _ _ 14 [some (.ref 46), none] [.int ((x.1 52) &&& ((x.1 388) ^^^ (-1)))] (E x y)
    refine PW_if_ne c_E_close_14 (fun h2 => ?_) (fun h2 => absurd h2 (by rw [hg.x52, d3]; exact hc1))
    refine PW_iconst (v := 0) c_E_close_21 (by decide) ?_
    refine PW_istore_n (i := 1) (L2 := [some (.ref 46), some (.int 0)]) c_E_close_22 rfl (Nat.le_of_ble_eq_true rfl) rfl rfl ?_
    refine PW_aload_n c_E_close_23 rfl ?_
    refine PW_dup c_E_close_24 rfl ?_
    refine PW_get (v := .int (x.1 373)) c_E_close_25 fl_E_58 (gf_46_5 _ _) ?_
    refine PW_iload_n c_E_close_28 rfl ?_
    refine PW_iadd c_E_close_29 ?_
    refine PW_put (w2 := E (sI x 373 ((x.1 373) + 0)) y) c_E_close_30 fp_E_close_58 rfl (pf_46_5 _ _ _) ?_
    refine PW_aload_n c_E_close_33 rfl ?_
    refine PW_dup c_E_close_34 rfl ?_
    refine PW_get (v := .int (x.1 374)) c_E_close_35 fl_E_61 (gf_46_6 _ _) ?_
    refine PW_iconst (v := 1) c_E_close_38 (by decide) ?_
    refine PW_iadd c_E_close_39 ?_
    refine PW_put (w2 := E (sI (sI x 373 ((x.1 373) + 0)) 374 ((x.1 374) + 1)) y) c_E_close_40 fp_E_close_61 rfl (pf_46_6 _ _ _) ?_
    refine PW_aload_n c_E_close_43 rfl ?_
    refine PW_get (v := .ref 48) c_E_close_44 fl_E_24 (gf_46_1 _ _) ?_
    refine PW_iconst (v := 0) c_E_close_47 (by decide) ?_
    refine PW_iconst (v := 0) c_E_close_48 (by decide) ?_
    refine PW_V0 (d2 := 1) (st := []) [.int 0, .int 0] c_E_close_49 lk_E_close_64 (po_48 _ _) rfl rfl rfl (Nat.le_of_ble_eq_true rfl) (by first | decide | omega) (Nat.le_of_ble_eq_true rfl) ?_
    show PW _ _ _ 0 [some (.ref 48), some (.int 0), some (.int 0)] [] (E (sI (sI x 373 ((x.1 373) + 0)) 374 ((x.1 374) + 1)) y)
    refine PW_aload_n c_V_begin_0 rfl ?_
    refine PW_iload_n c_V_begin_1 rfl ?_
    refine PW_iload_n c_V_begin_2 rfl ?_
    refine PW_iconst (v := 0) c_V_begin_3 (by decide) ?_
    refine PW_V0 (d2 := 0) (st := []) [.int 0, .int 0, .int 0] c_V_begin_4 lk_V_begin_19 (po_48 _ _) rfl rfl rfl (Nat.le_of_ble_eq_true rfl) (by first | decide | omega) (Nat.le_of_ble_eq_true rfl) ?_
    show PW _ _ _ 0 [some (.ref 48), some (.int 0), some (.int 0), some (.int 0)] [] (E (sI (sI x 373 ((x.1 373) + 0)) 374 ((x.1 374) + 1)) y)
    refine PW_aload_n c_V_stand_0 rfl ?_
    refine PW_iload_n c_V_stand_1 rfl ?_
    refine PW_put (w2 := E (sI (sI (sI x 373 ((x.1 373) + 0)) 374 ((x.1 374) + 1)) 386 0) y) c_V_stand_2 fp_V_stand_23 rfl (pf_48_2 _ _ _) ?_
    refine PW_aload_n c_V_stand_5 rfl ?_
    refine PW_iload_n c_V_stand_6 rfl ?_
    refine PW_put (w2 := E (sI (sI (sI (sI x 373 ((x.1 373) + 0)) 374 ((x.1 374) + 1)) 386 0) 387 0) y) c_V_stand_7 fp_V_stand_27 rfl (pf_48_3 _ _ _) ?_
    refine PW_aload_n c_V_stand_10 rfl ?_
    refine PW_iload_n c_V_stand_11 rfl ?_
    refine PW_put (w2 := E (sI (sI (sI (sI (sI x 373 ((x.1 373) + 0)) 374 ((x.1 374) + 1)) 386 0) 387 0) 388 0) y) c_V_stand_12 fp_V_stand_30 rfl (pf_48_4 _ _ _) ?_
    refine PW_vreturn c_V_stand_15 rfl ?_
    show PW _ _ _ 7 [some (.ref 48), some (.int 0), some (.int 0)] [] (E (sI (sI (sI (sI (sI x 373 ((x.1 373) + 0)) 374 ((x.1 374) + 1)) 386 0) 387 0) 388 0) y)
    refine PW_vreturn c_V_begin_7 rfl ?_
    show PW _ _ _ 52 [some (.ref 46), some (.int 0)] [] (E (sI (sI (sI (sI (sI x 373 ((x.1 373) + 0)) 374 ((x.1 374) + 1)) 386 0) 387 0) 388 0) y)
    refine PW_iload_n c_E_close_52 rfl ?_
    refine PW_ireturn (ty := .int) c_E_close_53 rfl rfl ?_
    show PW _ _ _ 17 [some (.ref 5)] [.int 0] (E (sI (sI (sI (sI (sI x 373 ((x.1 373) + 0)) 374 ((x.1 374) + 1)) 386 0) 387 0) 388 0) y)
    refine PW_goto c_G_leave_17 ?_
    refine PW_ireturn (ty := .int) c_G_leave_22 rfl rfl ?_
    exact h
  · refine PW.deeper (k := (1, 0, 0, z)) (Nat.le_of_ble_eq_true rfl) (Nat.le_refl _) (Nat.le_refl _) ?_
    refine PW_aload_n c_M_leave_0 rfl ?_
    refine PW_get (v := .ref 100) c_M_leave_1 fl_M_99 (gf_70_46 _ _) ?_
    refine PW_iconst (v := 1) c_M_leave_4 (by decide) ?_
    refine PW_iald (j := 1) c_M_leave_5 (ar_100 _ _) (vp_in_iff.mpr (by decide)) rfl ?_
    show PW _ _ _ 6 [some (.ref 70), none] [.int ((y.2.1 100) 1)] (E (sI (sI (sI (sI (sI x 373 ((x.1 373) + 0)) 374 ((x.1 374) + 1)) 386 0) 387 0) 388 0) y)
    refine PW_if_eq c_M_leave_6 (fun h0 => ?_) (fun h0 => absurd he h0)
    refine PW_aload_n c_M_leave_12 rfl ?_
    refine PW_V0 (d2 := 0) (st := []) [] c_M_leave_13 lk_M_leave_253 (po_70 _ _) rfl rfl rfl (Nat.le_of_ble_eq_true rfl) (by first | decide | omega) (Nat.le_of_ble_eq_true rfl) ?_
    refine sp_M_allMust hg.W ?_
    show PW _ _ _ 16 [some (.ref 70), none] [.int (mustB y)] (E (sI (sI (sI (sI (sI x 373 ((x.1 373) + 0)) 374 ((x.1 374) + 1)) 386 0) 387 0) 388 0) y)
    refine PW_aload_n c_M_leave_16 rfl ?_
    refine PW_get (v := .ref 100) c_M_leave_17 fl_M_99 (gf_70_46 _ _) ?_
    refine PW_iconst (v := 2) c_M_leave_20 (by decide) ?_
    refine PW_iald (j := 2) c_M_leave_21 (ar_100 _ _) (vp_in_iff.mpr (by decide)) rfl ?_
    show PW _ _ _ 22 [some (.ref 70), none] [.int ((y.2.1 100) 2), .int (mustB y)] (E (sI (sI (sI (sI (sI x 373 ((x.1 373) + 0)) 374 ((x.1 374) + 1)) 386 0) 387 0) 388 0) y)
    refine PW_iconst (v := -1) c_M_leave_22 (by decide) ?_
    refine PW_ixor c_M_leave_23 ?_
    refine PW_iand c_M_leave_24 ?_
    refine PW_if_ne c_M_leave_25 (fun h1 => ?_) (fun h1 => absurd h1 hc1)
    refine PW_iconst (v := 0) c_M_leave_32 (by decide) ?_
    refine PW_istore_n (i := 1) (L2 := [some (.ref 70), some (.int 0)]) c_M_leave_33 rfl (Nat.le_of_ble_eq_true rfl) rfl rfl ?_
    refine PW_aload_n c_M_leave_34 rfl ?_
    refine PW_get (v := .ref 100) c_M_leave_35 fl_M_99 (gf_70_46 _ _) ?_
    refine PW_iconst (v := 0) c_M_leave_38 (by decide) ?_
    refine PW_iconst (v := 0) c_M_leave_39 (by decide) ?_
    refine PW_iast (j := 0) (w2 := E (sI (sI (sI (sI (sI x 373 ((x.1 373) + 0)) 374 ((x.1 374) + 1)) 386 0) 387 0) 388 0) (sA y 100 (upd (y.2.1 100) 0 0))) c_M_leave_40 (ar_100 _ _) (vp_in_iff.mpr (by decide)) rfl (aw_100 _ _ _) ?_
    refine PW_aload_n c_M_leave_41 rfl ?_
    refine PW_get (v := .ref 100) c_M_leave_42 fl_M_99 (gf_70_46 _ _) ?_
    refine PW_iconst (v := 2) c_M_leave_45 (by decide) ?_
    refine PW_iconst (v := 0) c_M_leave_46 (by decide) ?_
    refine PW_iast (j := 2) (w2 := E (sI (sI (sI (sI (sI x 373 ((x.1 373) + 0)) 374 ((x.1 374) + 1)) 386 0) 387 0) 388 0) (sA (sA y 100 (upd (y.2.1 100) 0 0)) 100 (upd (upd (y.2.1 100) 0 0) 2 0))) c_M_leave_47 (ar_100 _ _) (vp_in_iff.mpr (by decide)) rfl (aw_100 _ _ _) ?_
    refine PW_aload_n c_M_leave_48 rfl ?_
    refine PW_get (v := .ref 100) c_M_leave_49 fl_M_99 (gf_70_46 _ _) ?_
    refine PW_iconst (v := 4) c_M_leave_52 (by decide) ?_
    refine PW_dup2 c_M_leave_53 rfl rfl ?_
    refine PW_iald (j := 4) c_M_leave_54 (ar_100 _ _) (vp_in_iff.mpr (by decide)) rfl ?_
    show PW _ _ _ 55 [some (.ref 70), some (.int 0)] [.int ((upd (upd (y.2.1 100) 0 0) 2 0) 4), .int 4, .ref 100] (E (sI (sI (sI (sI (sI x 373 ((x.1 373) + 0)) 374 ((x.1 374) + 1)) 386 0) 387 0) 388 0) (sA (sA y 100 (upd (y.2.1 100) 0 0)) 100 (upd (upd (y.2.1 100) 0 0) 2 0)))
    refine PW_iload_n c_M_leave_55 rfl ?_
    refine PW_iadd c_M_leave_56 ?_
    refine PW_iast (j := 4) (w2 := E (sI (sI (sI (sI (sI x 373 ((x.1 373) + 0)) 374 ((x.1 374) + 1)) 386 0) 387 0) 388 0) (sA (sA (sA y 100 (upd (y.2.1 100) 0 0)) 100 (upd (upd (y.2.1 100) 0 0) 2 0)) 100 (upd (upd (upd (y.2.1 100) 0 0) 2 0) 4 (((upd (upd (y.2.1 100) 0 0) 2 0) 4) + 0)))) c_M_leave_57 (ar_100 _ _) (vp_in_iff.mpr (by decide)) rfl (aw_100 _ _ _) ?_
    refine PW_aload_n c_M_leave_58 rfl ?_
    refine PW_get (v := .ref 100) c_M_leave_59 fl_M_99 (gf_70_46 _ _) ?_
    refine PW_iconst (v := 5) c_M_leave_62 (by decide) ?_
    refine PW_dup2 c_M_leave_63 rfl rfl ?_
    refine PW_iald (j := 5) c_M_leave_64 (ar_100 _ _) (vp_in_iff.mpr (by decide)) rfl ?_
    show PW _ _ _ 65 [some (.ref 70), some (.int 0)] [.int ((upd (upd (upd (y.2.1 100) 0 0) 2 0) 4 (((upd (upd (y.2.1 100) 0 0) 2 0) 4) + 0)) 5), .int 5, .ref 100] (E (sI (sI (sI (sI (sI x 373 ((x.1 373) + 0)) 374 ((x.1 374) + 1)) 386 0) 387 0) 388 0) (sA (sA (sA y 100 (upd (y.2.1 100) 0 0)) 100 (upd (upd (y.2.1 100) 0 0) 2 0)) 100 (upd (upd (upd (y.2.1 100) 0 0) 2 0) 4 (((upd (upd (y.2.1 100) 0 0) 2 0) 4) + 0))))
    refine PW_iconst (v := 1) c_M_leave_65 (by decide) ?_
    refine PW_iadd c_M_leave_66 ?_
    refine PW_iast (j := 5) (w2 := E (sI (sI (sI (sI (sI x 373 ((x.1 373) + 0)) 374 ((x.1 374) + 1)) 386 0) 387 0) 388 0) (sA (sA (sA (sA y 100 (upd (y.2.1 100) 0 0)) 100 (upd (upd (y.2.1 100) 0 0) 2 0)) 100 (upd (upd (upd (y.2.1 100) 0 0) 2 0) 4 (((upd (upd (y.2.1 100) 0 0) 2 0) 4) + 0))) 100 (upd (upd (upd (upd (y.2.1 100) 0 0) 2 0) 4 (((upd (upd (y.2.1 100) 0 0) 2 0) 4) + 0)) 5 (((upd (upd (upd (y.2.1 100) 0 0) 2 0) 4 (((upd (upd (y.2.1 100) 0 0) 2 0) 4) + 0)) 5) + 1)))) c_M_leave_67 (ar_100 _ _) (vp_in_iff.mpr (by decide)) rfl (aw_100 _ _ _) ?_
    refine PW_iload_n c_M_leave_68 rfl ?_
    refine PW_ireturn (ty := .int) c_M_leave_69 rfl rfl ?_
    exact h
set_option maxHeartbeats 4000000 in
theorem op_count {t : Nat} {x y : XS} {a1 : Int32} (hI : INV t x y) (ht : t < 512) : ∃ (r : Int32) (x' y' : XS), INV (t + 1) x' y' ∧ (∀ {z : ZS} {post : Option Value → List PE → Prop}, post (some (.int r)) (E x' y) → PW (90, 0, 0, z) m_G_count post 0 [some (.ref 5), some (.int a1)] [] (E x y)) ∧ (∀ {z : ZS} {post : Option Value → List PE → Prop}, post (some (.int r)) (E x' y') → PW (90, 0, 0, z) m_M_count post 0 [some (.ref 70), some (.int a1)] [] (E x' y)) := by
  obtain ⟨hg, hc, ht0, hl, hd, hb, hs⟩ := id hI
  obtain ⟨tn, tn1, tn2, tn3, tn4⟩ := id ht0
  obtain ⟨cd, cu, c1, c2, c3, c4, c5, c6⟩ := id hc
  obtain ⟨⟨nb, hb1, hb2, hb3, hb4⟩, nr, hr1, hr2, hr3, hr4⟩ := id hb

  by_cases hw0 : a1 = 0
  · subst hw0
    refine ⟨y.1 561, x, y, ?_, fun {z post} h => ?_, fun {z post} h => ?_⟩
    · exact INV_step hI
    · refine PW.deeper (k := (1, 0, 0, z)) (Nat.le_of_ble_eq_true rfl) (Nat.le_refl _) (Nat.le_refl _) ?_
      refine PW_iload_n c_G_count_0 rfl ?_
      refine PW_tableIn (tgt := 40) c_G_count_1 (by decide) (by decide) rfl rfl ?_
      refine PW_aload_n c_G_count_40 rfl ?_
      refine PW_get (v := .ref 6) c_G_count_41 fl_G_13 (gf_5_0 _ _) ?_
      refine PW_V0 (d2 := 0) (st := []) [] c_G_count_44 lk_G_count_367 (po_6 _ _) rfl rfl rfl (Nat.le_of_ble_eq_true rfl) (by first | decide | omega) (Nat.le_of_ble_eq_true rfl) ?_
      show PW _ _ _ 0 [some (.ref 6)] [] (E x y)
      refine PW_aload_n c_H_guestCount_0 rfl ?_
      refine PW_get (v := .int (x.1 51)) c_H_guestCount_1 fl_H_29 (gf_6_3 _ _) ?_
      refine PW_ireturn (ty := .int) c_H_guestCount_4 rfl rfl ?_
      show PW _ _ _ 47 [some (.ref 5), some (.int 0)] [.int (x.1 51)] (E x y)
      refine PW_ireturn (ty := .int) c_G_count_47 rfl rfl ?_
      exact pqi h hg.x51.symm
    · refine PW.deeper (k := (1, 0, 0, z)) (Nat.le_of_ble_eq_true rfl) (Nat.le_refl _) (Nat.le_refl _) ?_
      refine PW_iload_n c_M_count_0 rfl ?_
      refine PW_tableIn (tgt := 40) c_M_count_1 (by decide) (by decide) rfl rfl ?_
      refine PW_aload_n c_M_count_40 rfl ?_
      refine PW_get (v := .int (y.1 561)) c_M_count_41 fl_M_128 (gf_70_1 _ _) ?_
      refine PW_ireturn (ty := .int) c_M_count_44 rfl rfl ?_
      exact h
  by_cases hw1 : a1 = 1
  · subst hw1
    refine ⟨bcJ (mustB y), x, y, ?_, fun {z post} h => ?_, fun {z post} h => ?_⟩
    · exact INV_step hI
    · refine PW.deeper (k := (1, 0, 0, z)) (Nat.le_of_ble_eq_true rfl) (Nat.le_refl _) (Nat.le_refl _) ?_
      refine PW_iload_n c_G_count_0 rfl ?_
      refine PW_tableIn (tgt := 48) c_G_count_1 (by decide) (by decide) rfl rfl ?_
      refine PW_aload_n c_G_count_48 rfl ?_
      refine PW_get (v := .ref 6) c_G_count_49 fl_G_13 (gf_5_0 _ _) ?_
      refine PW_iconst (v := 0) c_G_count_52 (by decide) ?_
      refine PW_V0 (d2 := 0) (st := []) [.int 0] c_G_count_53 lk_G_count_189 (po_6 _ _) rfl rfl rfl (Nat.le_of_ble_eq_true rfl) (by first | decide | omega) (Nat.le_of_ble_eq_true rfl) ?_
      show PW _ _ _ 0 [some (.ref 6), some (.int 0)] [] (E x y)
      refine PW_aload_n c_H_missed_0 rfl ?_
      refine PW_get (v := .int (x.1 52)) c_H_missed_1 fl_H_45 (gf_6_4 _ _) ?_
      refine PW_iload_n c_H_missed_4 rfl ?_
      refine PW_iconst (v := -1) c_H_missed_5 (by decide) ?_
      refine PW_ixor c_H_missed_6 ?_
      refine PW_iand c_H_missed_7 ?_
      refine PW_ireturn (ty := .int) c_H_missed_8 rfl rfl ?_
      show PW _ _ _ 56 [some (.ref 5), some (.int 1)] [.int ((x.1 52) &&& (0 ^^^ (-1)))] (E x y)
      refine PW_S0 (d2 := 0) (st := []) [.int ((x.1 52) &&& (0 ^^^ (-1)))] c_G_count_56 lk_G_count_204 rfl rfl rfl (Nat.le_of_ble_eq_true rfl) (by first | decide | omega) (Nat.le_of_ble_eq_true rfl) ?_
      refine sp_J_bitCount  ?_
      show PW _ _ _ 59 [some (.ref 5), some (.int 1)] [.int (bcJ ((x.1 52) &&& (0 ^^^ (-1))))] (E x y)
      refine PW_ireturn (ty := .int) c_G_count_59 rfl rfl ?_
      exact pqi h (by rw [hg.x52, and_m1])
    · refine PW.deeper (k := (1, 0, 0, z)) (Nat.le_of_ble_eq_true rfl) (Nat.le_refl _) (Nat.le_refl _) ?_
      refine PW_iload_n c_M_count_0 rfl ?_
      refine PW_tableIn (tgt := 45) c_M_count_1 (by decide) (by decide) rfl rfl ?_
      refine PW_aload_n c_M_count_45 rfl ?_
      refine PW_V0 (d2 := 0) (st := []) [] c_M_count_46 lk_M_count_253 (po_70 _ _) rfl rfl rfl (Nat.le_of_ble_eq_true rfl) (by first | decide | omega) (Nat.le_of_ble_eq_true rfl) ?_
      refine sp_M_allMust hg.W ?_
      show PW _ _ _ 49 [some (.ref 70), some (.int 1)] [.int (mustB y)] (E x y)
      refine PW_S0 (d2 := 0) (st := []) [.int (mustB y)] c_M_count_49 lk_M_count_259 rfl rfl rfl (Nat.le_of_ble_eq_true rfl) (by first | decide | omega) (Nat.le_of_ble_eq_true rfl) ?_
      refine sp_M_bitsOf hg.must ?_
      show PW _ _ _ 52 [some (.ref 70), some (.int 1)] [.int (bcJ (mustB y))] (E x y)
      refine PW_ireturn (ty := .int) c_M_count_52 rfl rfl ?_
      exact h
  by_cases hw2 : a1 = 2
  · subst hw2
    refine ⟨y.1 577, x, y, ?_, fun {z post} h => ?_, fun {z post} h => ?_⟩
    · exact INV_step hI
    · refine PW.deeper (k := (1, 0, 0, z)) (Nat.le_of_ble_eq_true rfl) (Nat.le_refl _) (Nat.le_refl _) ?_
      refine PW_iload_n c_G_count_0 rfl ?_
      refine PW_tableIn (tgt := 60) c_G_count_1 (by decide) (by decide) rfl rfl ?_
      refine PW_aload_n c_G_count_60 rfl ?_
      refine PW_get (v := .ref 27) c_G_count_61 fl_G_26 (gf_5_2 _ _) ?_
      refine PW_V0 (d2 := 0) (st := []) [] c_G_count_64 lk_G_count_150 (po_27 _ _) rfl rfl rfl (Nat.le_of_ble_eq_true rfl) (by first | decide | omega) (Nat.le_of_ble_eq_true rfl) ?_
      show PW _ _ _ 0 [some (.ref 27)] [] (E x y)
      refine PW_aload_n c_T_length_0 rfl ?_
      refine PW_get (v := .int (x.1 219)) c_T_length_1 fl_T_21 (gf_27_3 _ _) ?_
      refine PW_ireturn (ty := .int) c_T_length_4 rfl rfl ?_
      show PW _ _ _ 67 [some (.ref 5), some (.int 2)] [.int (x.1 219)] (E x y)
      refine PW_ireturn (ty := .int) c_G_count_67 rfl rfl ?_
      exact pqi h (by rw [tn2, tn3])
    · refine PW.deeper (k := (1, 0, 0, z)) (Nat.le_of_ble_eq_true rfl) (Nat.le_refl _) (Nat.le_refl _) ?_
      refine PW_iload_n c_M_count_0 rfl ?_
      refine PW_tableIn (tgt := 53) c_M_count_1 (by decide) (by decide) rfl rfl ?_
      refine PW_aload_n c_M_count_53 rfl ?_
      refine PW_get (v := .int (y.1 577)) c_M_count_54 fl_M_182 (gf_70_17 _ _) ?_
      refine PW_ireturn (ty := .int) c_M_count_57 rfl rfl ?_
      exact h
  by_cases hw3 : a1 = 3
  · subst hw3
    refine ⟨y.1 570, x, y, ?_, fun {z post} h => ?_, fun {z post} h => ?_⟩
    · exact INV_step hI
    · refine PW.deeper (k := (1, 0, 0, z)) (Nat.le_of_ble_eq_true rfl) (Nat.le_refl _) (Nat.le_refl _) ?_
      refine PW_iload_n c_G_count_0 rfl ?_
      refine PW_tableIn (tgt := 68) c_G_count_1 (by decide) (by decide) rfl rfl ?_
      refine PW_aload_n c_G_count_68 rfl ?_
      refine PW_get (v := .ref 49) c_G_count_69 fl_G_72 (gf_5_8 _ _) ?_
      refine PW_V0 (d2 := 0) (st := []) [] c_G_count_72 lk_G_count_291 (po_49 _ _) rfl rfl rfl (Nat.le_of_ble_eq_true rfl) (by first | decide | omega) (Nat.le_of_ble_eq_true rfl) ?_
      show PW _ _ _ 0 [some (.ref 49)] [] (E x y)
      refine PW_aload_n c_C_undoable_0 rfl ?_
      refine PW_get (v := .int (x.1 397)) c_C_undoable_1 fl_C_26 (gf_49_5 _ _) ?_
      refine PW_ireturn (ty := .int) c_C_undoable_4 rfl rfl ?_
      show PW _ _ _ 75 [some (.ref 5), some (.int 3)] [.int (x.1 397)] (E x y)
      refine PW_ireturn (ty := .int) c_G_count_75 rfl rfl ?_
      exact pqi h (by rw [c2, c4])
    · refine PW.deeper (k := (1, 0, 0, z)) (Nat.le_of_ble_eq_true rfl) (Nat.le_refl _) (Nat.le_refl _) ?_
      refine PW_iload_n c_M_count_0 rfl ?_
      refine PW_tableIn (tgt := 58) c_M_count_1 (by decide) (by decide) rfl rfl ?_
      refine PW_aload_n c_M_count_58 rfl ?_
      refine PW_get (v := .int (y.1 570)) c_M_count_59 fl_M_155 (gf_70_10 _ _) ?_
      refine PW_ireturn (ty := .int) c_M_count_62 rfl rfl ?_
      exact h
  by_cases hw4 : a1 = 4
  · subst hw4
    refine ⟨y.1 609, x, y, ?_, fun {z post} h => ?_, fun {z post} h => ?_⟩
    · exact INV_step hI
    · refine PW.deeper (k := (1, 0, 0, z)) (Nat.le_of_ble_eq_true rfl) (Nat.le_refl _) (Nat.le_refl _) ?_
      refine PW_iload_n c_G_count_0 rfl ?_
      refine PW_tableIn (tgt := 76) c_G_count_1 (by decide) (by decide) rfl rfl ?_
      refine PW_aload_n c_G_count_76 rfl ?_
      refine PW_get (v := .ref 54) c_G_count_77 fl_G_79 (gf_5_9 _ _) ?_
      refine PW_V0 (d2 := 0) (st := []) [] c_G_count_80 lk_G_count_370 (po_54 _ _) rfl rfl rfl (Nat.le_of_ble_eq_true rfl) (by first | decide | omega) (Nat.le_of_ble_eq_true rfl) ?_
      show PW _ _ _ 0 [some (.ref 54)] [] (E x y)
      refine PW_aload_n c_B_bodyCount_0 rfl ?_
      refine PW_get (v := .int (x.1 434)) c_B_bodyCount_1 fl_B_32 (gf_54_2 _ _) ?_
      refine PW_ireturn (ty := .int) c_B_bodyCount_4 rfl rfl ?_
      show PW _ _ _ 83 [some (.ref 5), some (.int 4)] [.int (x.1 434)] (E x y)
      refine PW_ireturn (ty := .int) c_G_count_83 rfl rfl ?_
      exact pqi h (by rw [hb2, hb3])
    · refine PW.deeper (k := (1, 0, 0, z)) (Nat.le_of_ble_eq_true rfl) (Nat.le_refl _) (Nat.le_refl _) ?_
      refine PW_iload_n c_M_count_0 rfl ?_
      refine PW_tableIn (tgt := 63) c_M_count_1 (by decide) (by decide) rfl rfl ?_
      refine PW_aload_n c_M_count_63 rfl ?_
      refine PW_get (v := .int (y.1 609)) c_M_count_64 fl_M_355 (gf_70_49 _ _) ?_
      refine PW_ireturn (ty := .int) c_M_count_67 rfl rfl ?_
      exact h
  by_cases hw5 : a1 = 5
  · subst hw5
    refine ⟨y.1 611, x, y, ?_, fun {z post} h => ?_, fun {z post} h => ?_⟩
    · exact INV_step hI
    · refine PW.deeper (k := (1, 0, 0, z)) (Nat.le_of_ble_eq_true rfl) (Nat.le_refl _) (Nat.le_refl _) ?_
      refine PW_iload_n c_G_count_0 rfl ?_
      refine PW_tableIn (tgt := 84) c_G_count_1 (by decide) (by decide) rfl rfl ?_
      refine PW_aload_n c_G_count_84 rfl ?_
      refine PW_get (v := .ref 54) c_G_count_85 fl_G_79 (gf_5_9 _ _) ?_
      refine PW_V0 (d2 := 0) (st := []) [] c_G_count_88 lk_G_count_373 (po_54 _ _) rfl rfl rfl (Nat.le_of_ble_eq_true rfl) (by first | decide | omega) (Nat.le_of_ble_eq_true rfl) ?_
      show PW _ _ _ 0 [some (.ref 54)] [] (E x y)
      refine PW_aload_n c_B_runCount_0 rfl ?_
      refine PW_get (v := .int (x.1 435)) c_B_runCount_1 fl_B_36 (gf_54_3 _ _) ?_
      refine PW_ireturn (ty := .int) c_B_runCount_4 rfl rfl ?_
      show PW _ _ _ 91 [some (.ref 5), some (.int 5)] [.int (x.1 435)] (E x y)
      refine PW_ireturn (ty := .int) c_G_count_91 rfl rfl ?_
      exact pqi h (by rw [hr2, hr3])
    · refine PW.deeper (k := (1, 0, 0, z)) (Nat.le_of_ble_eq_true rfl) (Nat.le_refl _) (Nat.le_refl _) ?_
      refine PW_iload_n c_M_count_0 rfl ?_
      refine PW_tableIn (tgt := 68) c_M_count_1 (by decide) (by decide) rfl rfl ?_
      refine PW_aload_n c_M_count_68 rfl ?_
      refine PW_get (v := .int (y.1 611)) c_M_count_69 fl_M_358 (gf_70_51 _ _) ?_
      refine PW_ireturn (ty := .int) c_M_count_72 rfl rfl ?_
      exact h
  refine ⟨-1, x, y, ?_, fun {z post} h => ?_, fun {z post} h => ?_⟩
  · exact INV_step hI
  · refine PW.deeper (k := (1, 0, 0, z)) (Nat.le_of_ble_eq_true rfl) (Nat.le_refl _) (Nat.le_refl _) ?_
    refine PW_iload_n c_G_count_0 rfl ?_
    by_cases h0 : a1 = 0
    · refine PW_tableIn (tgt := 40) (off := 39) c_G_count_1 (by rw [h0]; decide) (by rw [h0]; decide) (by rw [h0]; rfl) rfl ?_
      refine PW_aload_n c_G_count_40 rfl ?_
      refine PW_get (v := .ref 6) c_G_count_41 fl_G_13 (gf_5_0 _ _) ?_
      refine PW_V0 (d2 := 0) (st := []) [] c_G_count_44 lk_G_count_367 (po_6 _ _) rfl rfl rfl (Nat.le_of_ble_eq_true rfl) (by first | decide | omega) (Nat.le_of_ble_eq_true rfl) ?_
      show PW _ _ _ 0 [some (.ref 6)] [] (E x y)
      refine PW_aload_n c_H_guestCount_0 rfl ?_
      refine PW_get (v := .int (x.1 51)) c_H_guestCount_1 fl_H_29 (gf_6_3 _ _) ?_
      refine PW_ireturn (ty := .int) c_H_guestCount_4 rfl rfl ?_
      show PW _ _ _ 47 [some (.ref 5), some (.int a1)] [.int (x.1 51)] (E x y)
      refine PW_ireturn (ty := .int) c_G_count_47 rfl rfl ?_
      exact absurd h0 hw0
    by_cases h1 : a1 = 1
    · refine PW_tableIn (tgt := 48) (off := 47) c_G_count_1 (by rw [h1]; decide) (by rw [h1]; decide) (by rw [h1]; rfl) rfl ?_
      refine PW_aload_n c_G_count_48 rfl ?_
      refine PW_get (v := .ref 6) c_G_count_49 fl_G_13 (gf_5_0 _ _) ?_
      refine PW_iconst (v := 0) c_G_count_52 (by decide) ?_
      refine PW_V0 (d2 := 0) (st := []) [.int 0] c_G_count_53 lk_G_count_189 (po_6 _ _) rfl rfl rfl (Nat.le_of_ble_eq_true rfl) (by first | decide | omega) (Nat.le_of_ble_eq_true rfl) ?_
      show PW _ _ _ 0 [some (.ref 6), some (.int 0)] [] (E x y)
      refine PW_aload_n c_H_missed_0 rfl ?_
      refine PW_get (v := .int (x.1 52)) c_H_missed_1 fl_H_45 (gf_6_4 _ _) ?_
      refine PW_iload_n c_H_missed_4 rfl ?_
      refine PW_iconst (v := -1) c_H_missed_5 (by decide) ?_
      refine PW_ixor c_H_missed_6 ?_
      refine PW_iand c_H_missed_7 ?_
      refine PW_ireturn (ty := .int) c_H_missed_8 rfl rfl ?_
      show PW _ _ _ 56 [some (.ref 5), some (.int a1)] [.int ((x.1 52) &&& (0 ^^^ (-1)))] (E x y)
      refine PW_S0 (d2 := 0) (st := []) [.int ((x.1 52) &&& (0 ^^^ (-1)))] c_G_count_56 lk_G_count_204 rfl rfl rfl (Nat.le_of_ble_eq_true rfl) (by first | decide | omega) (Nat.le_of_ble_eq_true rfl) ?_
      refine sp_J_bitCount  ?_
      show PW _ _ _ 59 [some (.ref 5), some (.int a1)] [.int (bcJ ((x.1 52) &&& (0 ^^^ (-1))))] (E x y)
      refine PW_ireturn (ty := .int) c_G_count_59 rfl rfl ?_
      exact absurd h1 hw1
    by_cases h2 : a1 = 2
    · refine PW_tableIn (tgt := 60) (off := 59) c_G_count_1 (by rw [h2]; decide) (by rw [h2]; decide) (by rw [h2]; rfl) rfl ?_
      refine PW_aload_n c_G_count_60 rfl ?_
      refine PW_get (v := .ref 27) c_G_count_61 fl_G_26 (gf_5_2 _ _) ?_
      refine PW_V0 (d2 := 0) (st := []) [] c_G_count_64 lk_G_count_150 (po_27 _ _) rfl rfl rfl (Nat.le_of_ble_eq_true rfl) (by first | decide | omega) (Nat.le_of_ble_eq_true rfl) ?_
      show PW _ _ _ 0 [some (.ref 27)] [] (E x y)
      refine PW_aload_n c_T_length_0 rfl ?_
      refine PW_get (v := .int (x.1 219)) c_T_length_1 fl_T_21 (gf_27_3 _ _) ?_
      refine PW_ireturn (ty := .int) c_T_length_4 rfl rfl ?_
      show PW _ _ _ 67 [some (.ref 5), some (.int a1)] [.int (x.1 219)] (E x y)
      refine PW_ireturn (ty := .int) c_G_count_67 rfl rfl ?_
      exact absurd h2 hw2
    by_cases h3 : a1 = 3
    · refine PW_tableIn (tgt := 68) (off := 67) c_G_count_1 (by rw [h3]; decide) (by rw [h3]; decide) (by rw [h3]; rfl) rfl ?_
      refine PW_aload_n c_G_count_68 rfl ?_
      refine PW_get (v := .ref 49) c_G_count_69 fl_G_72 (gf_5_8 _ _) ?_
      refine PW_V0 (d2 := 0) (st := []) [] c_G_count_72 lk_G_count_291 (po_49 _ _) rfl rfl rfl (Nat.le_of_ble_eq_true rfl) (by first | decide | omega) (Nat.le_of_ble_eq_true rfl) ?_
      show PW _ _ _ 0 [some (.ref 49)] [] (E x y)
      refine PW_aload_n c_C_undoable_0 rfl ?_
      refine PW_get (v := .int (x.1 397)) c_C_undoable_1 fl_C_26 (gf_49_5 _ _) ?_
      refine PW_ireturn (ty := .int) c_C_undoable_4 rfl rfl ?_
      show PW _ _ _ 75 [some (.ref 5), some (.int a1)] [.int (x.1 397)] (E x y)
      refine PW_ireturn (ty := .int) c_G_count_75 rfl rfl ?_
      exact absurd h3 hw3
    by_cases h4 : a1 = 4
    · refine PW_tableIn (tgt := 76) (off := 75) c_G_count_1 (by rw [h4]; decide) (by rw [h4]; decide) (by rw [h4]; rfl) rfl ?_
      refine PW_aload_n c_G_count_76 rfl ?_
      refine PW_get (v := .ref 54) c_G_count_77 fl_G_79 (gf_5_9 _ _) ?_
      refine PW_V0 (d2 := 0) (st := []) [] c_G_count_80 lk_G_count_370 (po_54 _ _) rfl rfl rfl (Nat.le_of_ble_eq_true rfl) (by first | decide | omega) (Nat.le_of_ble_eq_true rfl) ?_
      show PW _ _ _ 0 [some (.ref 54)] [] (E x y)
      refine PW_aload_n c_B_bodyCount_0 rfl ?_
      refine PW_get (v := .int (x.1 434)) c_B_bodyCount_1 fl_B_32 (gf_54_2 _ _) ?_
      refine PW_ireturn (ty := .int) c_B_bodyCount_4 rfl rfl ?_
      show PW _ _ _ 83 [some (.ref 5), some (.int a1)] [.int (x.1 434)] (E x y)
      refine PW_ireturn (ty := .int) c_G_count_83 rfl rfl ?_
      exact absurd h4 hw4
    by_cases h5 : a1 = 5
    · refine PW_tableIn (tgt := 84) (off := 83) c_G_count_1 (by rw [h5]; decide) (by rw [h5]; decide) (by rw [h5]; rfl) rfl ?_
      refine PW_aload_n c_G_count_84 rfl ?_
      refine PW_get (v := .ref 54) c_G_count_85 fl_G_79 (gf_5_9 _ _) ?_
      refine PW_V0 (d2 := 0) (st := []) [] c_G_count_88 lk_G_count_373 (po_54 _ _) rfl rfl rfl (Nat.le_of_ble_eq_true rfl) (by first | decide | omega) (Nat.le_of_ble_eq_true rfl) ?_
      show PW _ _ _ 0 [some (.ref 54)] [] (E x y)
      refine PW_aload_n c_B_runCount_0 rfl ?_
      refine PW_get (v := .int (x.1 435)) c_B_runCount_1 fl_B_36 (gf_54_3 _ _) ?_
      refine PW_ireturn (ty := .int) c_B_runCount_4 rfl rfl ?_
      show PW _ _ _ 91 [some (.ref 5), some (.int a1)] [.int (x.1 435)] (E x y)
      refine PW_ireturn (ty := .int) c_G_count_91 rfl rfl ?_
      exact absurd h5 hw5
    refine PW_tableOut (tgt := 92) c_G_count_1 (sw_out (lo := 0) (n := 6) (by decide) (by decide) (by decide) (fun i hi => by match i, hi with | 0, _ => exact h0 | 1, _ => exact h1 | 2, _ => exact h2 | 3, _ => exact h3 | 4, _ => exact h4 | 5, _ => exact h5 | n + 6, hi => exact absurd hi (by omega))) rfl ?_
    refine PW_iconst (v := -1) c_G_count_92 (by decide) ?_
    refine PW_ireturn (ty := .int) c_G_count_93 rfl rfl ?_
    exact h
  · refine PW.deeper (k := (1, 0, 0, z)) (Nat.le_of_ble_eq_true rfl) (Nat.le_refl _) (Nat.le_refl _) ?_
    refine PW_iload_n c_M_count_0 rfl ?_
    by_cases h0 : a1 = 0
    · refine PW_tableIn (tgt := 40) (off := 39) c_M_count_1 (by rw [h0]; decide) (by rw [h0]; decide) (by rw [h0]; rfl) rfl ?_
      refine PW_aload_n c_M_count_40 rfl ?_
      refine PW_get (v := .int (y.1 561)) c_M_count_41 fl_M_128 (gf_70_1 _ _) ?_
      refine PW_ireturn (ty := .int) c_M_count_44 rfl rfl ?_
      exact absurd h0 hw0
    by_cases h1 : a1 = 1
    · refine PW_tableIn (tgt := 45) (off := 44) c_M_count_1 (by rw [h1]; decide) (by rw [h1]; decide) (by rw [h1]; rfl) rfl ?_
      refine PW_aload_n c_M_count_45 rfl ?_
      refine PW_V0 (d2 := 0) (st := []) [] c_M_count_46 lk_M_count_253 (po_70 _ _) rfl rfl rfl (Nat.le_of_ble_eq_true rfl) (by first | decide | omega) (Nat.le_of_ble_eq_true rfl) ?_
      refine sp_M_allMust hg.W ?_
      show PW _ _ _ 49 [some (.ref 70), some (.int a1)] [.int (mustB y)] (E x y)
      refine PW_S0 (d2 := 0) (st := []) [.int (mustB y)] c_M_count_49 lk_M_count_259 rfl rfl rfl (Nat.le_of_ble_eq_true rfl) (by first | decide | omega) (Nat.le_of_ble_eq_true rfl) ?_
      refine sp_M_bitsOf hg.must ?_
      show PW _ _ _ 52 [some (.ref 70), some (.int a1)] [.int (bcJ (mustB y))] (E x y)
      refine PW_ireturn (ty := .int) c_M_count_52 rfl rfl ?_
      exact absurd h1 hw1
    by_cases h2 : a1 = 2
    · refine PW_tableIn (tgt := 53) (off := 52) c_M_count_1 (by rw [h2]; decide) (by rw [h2]; decide) (by rw [h2]; rfl) rfl ?_
      refine PW_aload_n c_M_count_53 rfl ?_
      refine PW_get (v := .int (y.1 577)) c_M_count_54 fl_M_182 (gf_70_17 _ _) ?_
      refine PW_ireturn (ty := .int) c_M_count_57 rfl rfl ?_
      exact absurd h2 hw2
    by_cases h3 : a1 = 3
    · refine PW_tableIn (tgt := 58) (off := 57) c_M_count_1 (by rw [h3]; decide) (by rw [h3]; decide) (by rw [h3]; rfl) rfl ?_
      refine PW_aload_n c_M_count_58 rfl ?_
      refine PW_get (v := .int (y.1 570)) c_M_count_59 fl_M_155 (gf_70_10 _ _) ?_
      refine PW_ireturn (ty := .int) c_M_count_62 rfl rfl ?_
      exact absurd h3 hw3
    by_cases h4 : a1 = 4
    · refine PW_tableIn (tgt := 63) (off := 62) c_M_count_1 (by rw [h4]; decide) (by rw [h4]; decide) (by rw [h4]; rfl) rfl ?_
      refine PW_aload_n c_M_count_63 rfl ?_
      refine PW_get (v := .int (y.1 609)) c_M_count_64 fl_M_355 (gf_70_49 _ _) ?_
      refine PW_ireturn (ty := .int) c_M_count_67 rfl rfl ?_
      exact absurd h4 hw4
    by_cases h5 : a1 = 5
    · refine PW_tableIn (tgt := 68) (off := 67) c_M_count_1 (by rw [h5]; decide) (by rw [h5]; decide) (by rw [h5]; rfl) rfl ?_
      refine PW_aload_n c_M_count_68 rfl ?_
      refine PW_get (v := .int (y.1 611)) c_M_count_69 fl_M_358 (gf_70_51 _ _) ?_
      refine PW_ireturn (ty := .int) c_M_count_72 rfl rfl ?_
      exact absurd h5 hw5
    refine PW_tableOut (tgt := 73) c_M_count_1 (sw_out (lo := 0) (n := 6) (by decide) (by decide) (by decide) (fun i hi => by match i, hi with | 0, _ => exact h0 | 1, _ => exact h1 | 2, _ => exact h2 | 3, _ => exact h3 | 4, _ => exact h4 | 5, _ => exact h5 | n + 6, hi => exact absurd hi (by omega))) rfl ?_
    refine PW_iconst (v := -1) c_M_count_73 (by decide) ?_
    refine PW_ireturn (ty := .int) c_M_count_74 rfl rfl ?_
    exact h
set_option maxHeartbeats 4000000 in
theorem op_taken {t : Nat} {x y : XS} {a1 : Int32} {a2 : Int32} (hI : INV t x y) (ht : t < 512) : ∃ (r : Int32) (x' y' : XS), INV (t + 1) x' y' ∧ (∀ {z : ZS} {post : Option Value → List PE → Prop}, post (some (.int r)) (E x' y) → PW (90, 0, 0, z) m_G_taken post 0 [some (.ref 5), some (.int a1), some (.int a2), none, none] [] (E x y)) ∧ (∀ {z : ZS} {post : Option Value → List PE → Prop}, post (some (.int r)) (E x' y') → PW (90, 0, 0, z) m_M_taken post 0 [some (.ref 70), some (.int a1), some (.int a2)] [] (E x' y)) := by
  obtain ⟨hg, hc, ht0, hl, hd, hb, hs⟩ := id hI
  obtain ⟨hB, hbx, hbk⟩ := WB_of hb

  by_cases hc0 : ¬ (0 ≤ a1.toInt ∧ a1.toInt < 6)
  · refine ⟨-1, x, y, ?_, fun {z post} h => ?_, fun {z post} h => ?_⟩
    · exact INV_step hI
    · refine PW.deeper (k := (2, 0, 0, z)) (Nat.le_of_ble_eq_true rfl) (Nat.le_refl _) (Nat.le_refl _) ?_
      refine PW_aload_n c_G_taken_0 rfl ?_
      refine PW_iload_n c_G_taken_1 rfl ?_
      refine PW_V0 (d2 := 0) (st := []) [.int a1] c_G_taken_2 lk_G_taken_102 (po_5 _ _) rfl rfl rfl (Nat.le_of_ble_eq_true rfl) (by first | decide | omega) (Nat.le_of_ble_eq_true rfl) ?_
      refine sp_noshelf hc0 ?_
      show PW _ _ _ 5 [some (.ref 5), some (.int a1), some (.int a2), none, none] [.null] (E x y)
      refine PW_astore_nN (i := 3) (L2 := [some (.ref 5), some (.int a1), some (.int a2), some (.null), none]) c_G_taken_5 rfl (Nat.le_of_ble_eq_true rfl) rfl rfl ?_
      refine PW_aload_nN c_G_taken_6 rfl ?_
      refine PW_ifnullN c_G_taken_7 ?_
      refine PW_iconst (v := -1) c_G_taken_17 (by decide) ?_
      refine PW_ireturn (ty := .int) c_G_taken_18 rfl rfl ?_
      exact h
    · refine PW.deeper (k := (2, 0, 0, z)) (Nat.le_of_ble_eq_true rfl) (Nat.le_refl _) (Nat.le_refl _) ?_
      refine PW_iload_n c_M_taken_0 rfl ?_
      refine PW_S0 (d2 := 1) (st := []) [.int a1] c_M_taken_1 lk_M_taken_143 rfl rfl rfl (Nat.le_of_ble_eq_true rfl) (by first | decide | omega) (Nat.le_of_ble_eq_true rfl) ?_
      refine sp_M_isShelf2  ?_
      show PW _ _ _ 4 [some (.ref 70), some (.int a1), some (.int a2)] [.int (b2i (0 ≤ a1.toInt ∧ a1.toInt < 6))] (E x y)
      refine PW_if_eq c_M_taken_4 (fun _ => ?_) (fun h0 => absurd (b2i_n0.mp h0) hc0)
      refine PW_iconst (v := -1) c_M_taken_17 (by decide) ?_
      refine PW_ireturn (ty := .int) c_M_taken_18 rfl rfl ?_
      exact h
  obtain ⟨j, hj, rfl⟩ : ∃ j : Nat, j < 6 ∧ a1 = nI j := by
    obtain ⟨q, q1, q2, q3, q4⟩ := nI_ex (x := a1) (by have := Decidable.not_not.mp hc0; omega)
    exact ⟨q, by have := Decidable.not_not.mp hc0; omega, q2⟩
  have hjs : 0 ≤ (nI j).toInt ∧ (nI j).toInt < 6 := by rw [nI_toInt (by omega)]; omega
  have hsj := hs j hj
  unfold CPs1 at hsj
  by_cases hc1 : ¬ (0 ≤ a2 ∧ a2 ≤ 7)
  · refine ⟨-1, x, y, ?_, fun {z post} h => ?_, fun {z post} h => ?_⟩
    · exact INV_step hI
    · refine PW.deeper (k := (2, 0, 0, z)) (Nat.le_of_ble_eq_true rfl) (Nat.le_refl _) (Nat.le_refl _) ?_
      refine PW_aload_n c_G_taken_0 rfl ?_
      refine PW_iload_n c_G_taken_1 rfl ?_
      refine PW_V0 (d2 := 0) (st := []) [.int (nI j)] c_G_taken_2 lk_G_taken_102 (po_5 _ _) rfl rfl rfl (Nat.le_of_ble_eq_true rfl) (by first | decide | omega) (Nat.le_of_ble_eq_true rfl) ?_
      refine sp_shelf hj ?_
      show PW _ _ _ 5 [some (.ref 5), some (.int (nI j)), some (.int a2), none, none] [.ref (58 + 2 * j)] (E x y)
      refine PW_astore_n (i := 3) (L2 := [some (.ref 5), some (.int (nI j)), some (.int a2), some (.ref (58 + 2 * j)), none]) c_G_taken_5 rfl (Nat.le_of_ble_eq_true rfl) rfl rfl ?_
      refine PW_aload_n c_G_taken_6 rfl ?_
      refine PW_ifnull c_G_taken_7 ?_
      refine PW_iload_n c_G_taken_10 rfl ?_
      refine PW_S0 (d2 := 0) (st := []) [.int a2] c_G_taken_11 lk_G_taken_300 rfl rfl rfl (Nat.le_of_ble_eq_true rfl) (by first | decide | omega) (Nat.le_of_ble_eq_true rfl) ?_
      refine sp_B_isKind  ?_
      show PW _ _ _ 14 [some (.ref 5), some (.int (nI j)), some (.int a2), some (.ref (58 + 2 * j)), none] [.int (b2i (0 ≤ a2 ∧ a2 ≤ 7))] (E x y)
      refine PW_if_ne c_G_taken_14 (fun h0 => absurd (b2i_n0.mp h0) hc1) (fun _ => ?_)
      refine PW_iconst (v := -1) c_G_taken_17 (by decide) ?_
      refine PW_ireturn (ty := .int) c_G_taken_18 rfl rfl ?_
      exact h
    · refine PW.deeper (k := (2, 0, 0, z)) (Nat.le_of_ble_eq_true rfl) (Nat.le_refl _) (Nat.le_refl _) ?_
      refine PW_iload_n c_M_taken_0 rfl ?_
      refine PW_S0 (d2 := 1) (st := []) [.int (nI j)] c_M_taken_1 lk_M_taken_143 rfl rfl rfl (Nat.le_of_ble_eq_true rfl) (by first | decide | omega) (Nat.le_of_ble_eq_true rfl) ?_
      refine sp_M_isShelf2  ?_
      show PW _ _ _ 4 [some (.ref 70), some (.int (nI j)), some (.int a2)] [.int (b2i (0 ≤ (nI j).toInt ∧ (nI j).toInt < 6))] (E x y)
      refine PW_if_eq c_M_taken_4 (fun h0 => absurd hjs (b2i_0.mp h0)) (fun _ => ?_)
      refine PW_iload_n c_M_taken_7 rfl ?_
      refine PW_iconst (v := 0) c_M_taken_8 (by decide) ?_
      refine PW_bipush (v := 7) c_M_taken_9 (by decide) ?_
      refine PW_S0 (d2 := 0) (st := []) [.int a2, .int 0, .int 7] c_M_taken_11 lk_M_taken_131 rfl rfl rfl (Nat.le_of_ble_eq_true rfl) (by first | decide | omega) (Nat.le_of_ble_eq_true rfl) ?_
      refine sp_M_within  ?_
      show PW _ _ _ 14 [some (.ref 70), some (.int (nI j)), some (.int a2)] [.int (b2i ((0 : Int32) ≤ a2 ∧ a2 ≤ (7 : Int32)))] (E x y)
      refine PW_if_ne c_M_taken_14 (fun h1 => absurd (b2i_n0.mp h1) hc1) (fun _ => ?_)
      refine PW_iconst (v := -1) c_M_taken_17 (by decide) ?_
      refine PW_ireturn (ty := .int) c_M_taken_18 rfl rfl ?_
      exact h
  replace hc1 : 0 ≤ a2 ∧ a2 ≤ 7 := Decidable.not_not.mp hc1
  rcases hsj with ⟨e1, e2⟩ | ⟨e1, e2, e3, e4⟩ | ⟨s, n, e1, e2, e3, e4, e5, e6, e7, e8⟩
  · refine ⟨-11, x, y, ?_, fun {z post} h => ?_, fun {z post} h => ?_⟩
    · exact INV_step hI
    · refine PW.deeper (k := (2, 0, 0, z)) (Nat.le_of_ble_eq_true rfl) (Nat.le_refl _) (Nat.le_refl _) ?_
      refine PW_aload_n c_G_taken_0 rfl ?_
      refine PW_iload_n c_G_taken_1 rfl ?_
      refine PW_V0 (d2 := 0) (st := []) [.int (nI j)] c_G_taken_2 lk_G_taken_102 (po_5 _ _) rfl rfl rfl (Nat.le_of_ble_eq_true rfl) (by first | decide | omega) (Nat.le_of_ble_eq_true rfl) ?_
      refine sp_shelf hj ?_
      show PW _ _ _ 5 [some (.ref 5), some (.int (nI j)), some (.int a2), none, none] [.ref (58 + 2 * j)] (E x y)
      refine PW_astore_n (i := 3) (L2 := [some (.ref 5), some (.int (nI j)), some (.int a2), some (.ref (58 + 2 * j)), none]) c_G_taken_5 rfl (Nat.le_of_ble_eq_true rfl) rfl rfl ?_
      refine PW_aload_n c_G_taken_6 rfl ?_
      refine PW_ifnull c_G_taken_7 ?_
      refine PW_iload_n c_G_taken_10 rfl ?_
      refine PW_S0 (d2 := 0) (st := []) [.int a2] c_G_taken_11 lk_G_taken_300 rfl rfl rfl (Nat.le_of_ble_eq_true rfl) (by first | decide | omega) (Nat.le_of_ble_eq_true rfl) ?_
      refine sp_B_isKind  ?_
      show PW _ _ _ 14 [some (.ref 5), some (.int (nI j)), some (.int a2), some (.ref (58 + 2 * j)), none] [.int (b2i (0 ≤ a2 ∧ a2 ≤ 7))] (E x y)
      refine PW_if_ne c_G_taken_14 (fun _ => ?_) (fun h0 => absurd hc1 (b2i_0.mp h0))
      refine PW_aload_n c_G_taken_19 rfl ?_
      refine PW_V0 (d2 := 0) (st := []) [] c_G_taken_20 lk_G_taken_339 (sh_po _ _ hj) rfl rfl rfl (Nat.le_of_ble_eq_true rfl) (by first | decide | omega) (Nat.le_of_ble_eq_true rfl) ?_
      refine sp_F_isEmpty hj  ?_
      show PW _ _ _ 23 [some (.ref 5), some (.int (nI j)), some (.int a2), some (.ref (58 + 2 * j)), none] [.int (b2i (x.1 ((58 + 2 * j) * 8 + 1) = 0))] (E x y)
      refine PW_if_eq c_G_taken_23 (fun h1 => absurd e2 (b2i_0.mp h1)) (fun _ => ?_)
      refine PW_bipush (v := -11) c_G_taken_26 (by decide) ?_
      refine PW_ireturn (ty := .int) c_G_taken_28 rfl rfl ?_
      exact h
    · refine PW.deeper (k := (2, 0, 0, z)) (Nat.le_of_ble_eq_true rfl) (Nat.le_refl _) (Nat.le_refl _) ?_
      refine PW_iload_n c_M_taken_0 rfl ?_
      refine PW_S0 (d2 := 1) (st := []) [.int (nI j)] c_M_taken_1 lk_M_taken_143 rfl rfl rfl (Nat.le_of_ble_eq_true rfl) (by first | decide | omega) (Nat.le_of_ble_eq_true rfl) ?_
      refine sp_M_isShelf2  ?_
      show PW _ _ _ 4 [some (.ref 70), some (.int (nI j)), some (.int a2)] [.int (b2i (0 ≤ (nI j).toInt ∧ (nI j).toInt < 6))] (E x y)
      refine PW_if_eq c_M_taken_4 (fun h0 => absurd hjs (b2i_0.mp h0)) (fun _ => ?_)
      refine PW_iload_n c_M_taken_7 rfl ?_
      refine PW_iconst (v := 0) c_M_taken_8 (by decide) ?_
      refine PW_bipush (v := 7) c_M_taken_9 (by decide) ?_
      refine PW_S0 (d2 := 0) (st := []) [.int a2, .int 0, .int 7] c_M_taken_11 lk_M_taken_131 rfl rfl rfl (Nat.le_of_ble_eq_true rfl) (by first | decide | omega) (Nat.le_of_ble_eq_true rfl) ?_
      refine sp_M_within  ?_
      show PW _ _ _ 14 [some (.ref 70), some (.int (nI j)), some (.int a2)] [.int (b2i ((0 : Int32) ≤ a2 ∧ a2 ≤ (7 : Int32)))] (E x y)
      refine PW_if_ne c_M_taken_14 (fun _ => ?_) (fun h1 => absurd hc1 (b2i_0.mp h1))
      refine PW_aload_n c_M_taken_19 rfl ?_
      refine PW_get (v := .ref 104) c_M_taken_20 fl_M_111 (gf_70_53 _ _) ?_
      refine PW_iload_n c_M_taken_23 rfl ?_
      refine PW_iald (j := j) c_M_taken_24 (ar_104 _ _) (vp_in_nI hj (by decide)) (nI_clamp (by omega)) ?_
      show PW _ _ _ 25 [some (.ref 70), some (.int (nI j)), some (.int a2)] [.int ((y.2.1 104) j)] (E x y)
      refine PW_iconst (v := -1) c_M_taken_25 (by decide) ?_
      refine PW_icmp_ne c_M_taken_26 (fun h2 => absurd h2 (not_not_intro e1)) (fun h2 => ?_)
      refine PW_bipush (v := -11) c_M_taken_29 (by decide) ?_
      refine PW_ireturn (ty := .int) c_M_taken_31 rfl rfl ?_
      exact h
  · obtain ⟨q, q1, q2, q3, q4⟩ := nI_ex e1
    have hB10 := hB.2
    have hbn : (y.1 609).toInt = nB y := by rw [hB.1, nI_toInt (by omega)]
    have hqb : q < nB y := by omega
    obtain ⟨f1, f2, f3⟩ := hbk q hqb
    obtain ⟨u, u1, u2, u3, u4⟩ := nI_ex f2
    have hu8 : u < 8 := by omega
    have hbd : 0 ≤ (y.2.1 104 j).toInt ∧ (y.2.1 104 j).toInt < (nB y : Int) := ⟨e1, by omega⟩
    by_cases hu : a2 ∈ chU u
    · refine ⟨y.2.1 102 q, x, y, ?_, fun {z post} h => ?_, fun {z post} h => ?_⟩
      · exact INV_step hI
      · refine PW.deeper (k := (2, 0, 0, z)) (Nat.le_of_ble_eq_true rfl) (Nat.le_refl _) (Nat.le_refl _) ?_
        refine PW_aload_n c_G_taken_0 rfl ?_
        refine PW_iload_n c_G_taken_1 rfl ?_
        refine PW_V0 (d2 := 0) (st := []) [.int (nI j)] c_G_taken_2 lk_G_taken_102 (po_5 _ _) rfl rfl rfl (Nat.le_of_ble_eq_true rfl) (by first | decide | omega) (Nat.le_of_ble_eq_true rfl) ?_
        refine sp_shelf hj ?_
        show PW _ _ _ 5 [some (.ref 5), some (.int (nI j)), some (.int a2), none, none] [.ref (58 + 2 * j)] (E x y)
        refine PW_astore_n (i := 3) (L2 := [some (.ref 5), some (.int (nI j)), some (.int a2), some (.ref (58 + 2 * j)), none]) c_G_taken_5 rfl (Nat.le_of_ble_eq_true rfl) rfl rfl ?_
        refine PW_aload_n c_G_taken_6 rfl ?_
        refine PW_ifnull c_G_taken_7 ?_
        refine PW_iload_n c_G_taken_10 rfl ?_
        refine PW_S0 (d2 := 0) (st := []) [.int a2] c_G_taken_11 lk_G_taken_300 rfl rfl rfl (Nat.le_of_ble_eq_true rfl) (by first | decide | omega) (Nat.le_of_ble_eq_true rfl) ?_
        refine sp_B_isKind  ?_
        show PW _ _ _ 14 [some (.ref 5), some (.int (nI j)), some (.int a2), some (.ref (58 + 2 * j)), none] [.int (b2i (0 ≤ a2 ∧ a2 ≤ 7))] (E x y)
        refine PW_if_ne c_G_taken_14 (fun _ => ?_) (fun h0 => absurd hc1 (b2i_0.mp h0))
        refine PW_aload_n c_G_taken_19 rfl ?_
        refine PW_V0 (d2 := 0) (st := []) [] c_G_taken_20 lk_G_taken_339 (sh_po _ _ hj) rfl rfl rfl (Nat.le_of_ble_eq_true rfl) (by first | decide | omega) (Nat.le_of_ble_eq_true rfl) ?_
        refine sp_F_isEmpty hj  ?_
        show PW _ _ _ 23 [some (.ref 5), some (.int (nI j)), some (.int a2), some (.ref (58 + 2 * j)), none] [.int (b2i (x.1 ((58 + 2 * j) * 8 + 1) = 0))] (E x y)
        refine PW_if_eq c_G_taken_23 (fun _ => ?_) (fun h1 => absurd (b2i_n0.mp h1) (by rw [e3]; decide))
        refine PW_aload_n c_G_taken_29 rfl ?_
        refine PW_V0 (d2 := 0) (st := []) [] c_G_taken_30 lk_G_taken_355 (sh_po _ _ hj) rfl rfl rfl (Nat.le_of_ble_eq_true rfl) (by first | decide | omega) (Nat.le_of_ble_eq_true rfl) ?_
        refine sp_F_holdsBody hj  ?_
        show PW _ _ _ 33 [some (.ref 5), some (.int (nI j)), some (.int a2), some (.ref (58 + 2 * j)), none] [.int (b2i (x.1 ((58 + 2 * j) * 8 + 1) = 1))] (E x y)
        refine PW_if_eq c_G_taken_33 (fun h2 => absurd e3 (b2i_0.mp h2)) (fun _ => ?_)
        refine PW_aload_n c_G_taken_36 rfl ?_
        refine PW_get (v := .ref 54) c_G_taken_37 fl_G_79 (gf_5_9 _ _) ?_
        refine PW_aload_n c_G_taken_40 rfl ?_
        refine PW_V0 (d2 := 0) (st := [.ref 54]) [] c_G_taken_41 lk_G_taken_358 (sh_po _ _ hj) rfl rfl rfl (Nat.le_of_ble_eq_true rfl) (by first | decide | omega) (Nat.le_of_ble_eq_true rfl) ?_
        show PW _ _ _ 0 [some (.ref (58 + 2 * j))] [] (E x y)
        refine PW_aload_n c_F_heldBody_0 rfl ?_
        refine PW_get (v := .int (x.1 ((58 + 2 * j) * 8 + 2))) c_F_heldBody_1 fl_F_22 (sh_g2 _ _ hj) ?_
        refine PW_ireturn (ty := .int) c_F_heldBody_4 rfl rfl ?_
        show PW _ _ _ 44 [some (.ref 5), some (.int (nI j)), some (.int a2), some (.ref (58 + 2 * j)), none] [.int (x.1 ((58 + 2 * j) * 8 + 2)), .ref 54] (E x y)
        refine PW_V0 (d2 := 1) (st := []) [.int (x.1 ((58 + 2 * j) * 8 + 2))] c_G_taken_44 lk_G_taken_361 (po_54 _ _) rfl rfl rfl (Nat.le_of_ble_eq_true rfl) (by first | decide | omega) (Nat.le_of_ble_eq_true rfl) ?_
        show PW _ _ _ 0 [some (.ref 54), some (.int (x.1 ((58 + 2 * j) * 8 + 2)))] [] (E x y)
        refine PW_aload_n c_B_kindOf_0 rfl ?_
        refine PW_iload_n c_B_kindOf_1 rfl ?_
        refine PW_V0 (d2 := 0) (st := []) [.int (x.1 ((58 + 2 * j) * 8 + 2))] c_B_kindOf_2 lk_B_kindOf_39 (po_54 _ _) rfl rfl rfl (Nat.le_of_ble_eq_true rfl) (by first | decide | omega) (Nat.le_of_ble_eq_true rfl) ?_
        refine sp_B_isBody hB hbx ?_
        show PW _ _ _ 5 [some (.ref 54), some (.int (x.1 ((58 + 2 * j) * 8 + 2)))] [.int (b2i (0 ≤ (x.1 ((58 + 2 * j) * 8 + 2)).toInt ∧ (x.1 ((58 + 2 * j) * 8 + 2)).toInt < (nB y : Int)))] (E x y)
        refine PW_if_eq c_B_kindOf_5 (fun h3 => absurd (by rw [e4]; exact hbd) (b2i_0.mp h3)) (fun _ => ?_)
        refine PW_aload_n c_B_kindOf_8 rfl ?_
        refine PW_get (v := .ref 55) c_B_kindOf_9 fl_B_11 (gf_54_0 _ _) ?_
        refine PW_iload_n c_B_kindOf_12 rfl ?_
        refine PW_iald (j := q) c_B_kindOf_13 (ar_55 _ _) (by rw [e4, q2]; exact vp_in_nI (by omega) (by decide)) (by rw [e4, q2]; exact nI_clamp (by omega)) ?_
        show PW _ _ _ 14 [some (.ref 54), some (.int (x.1 ((58 + 2 * j) * 8 + 2)))] [.int ((x.2.1 55) q)] (E x y)
        refine PW_goto c_B_kindOf_14 ?_
        refine PW_ireturn (ty := .int) c_B_kindOf_18 rfl rfl ?_
        show PW _ _ _ 47 [some (.ref 5), some (.int (nI j)), some (.int a2), some (.ref (58 + 2 * j)), none] [.int ((x.2.1 55) q)] (E x y)
        refine PW_goto c_G_taken_47 ?_
        refine PW_istore (i := 4) (L2 := [some (.ref 5), some (.int (nI j)), some (.int a2), some (.ref (58 + 2 * j)), some (.int ((x.2.1 55) q))]) c_G_taken_51 (Nat.le_of_ble_eq_true rfl) rfl rfl ?_
        refine PW_iload c_G_taken_53 rfl ?_
        refine PW_iload_n c_G_taken_55 rfl ?_
        refine PW_S0 (d2 := 1) (st := []) [.int ((x.2.1 55) q), .int a2] c_G_taken_56 lk_G_taken_364 rfl rfl rfl (Nat.le_of_ble_eq_true rfl) (by first | decide | omega) (Nat.le_of_ble_eq_true rfl) ?_
        refine sp_B_isUnder (by rw [f1]; exact u2) hu8 ?_
        show PW _ _ _ 59 [some (.ref 5), some (.int (nI j)), some (.int a2), some (.ref (58 + 2 * j)), some (.int ((x.2.1 55) q))] [.int (b2i (a2 ∈ chU u))] (E x y)
        refine PW_if_eq c_G_taken_59 (fun h4 => absurd hu (b2i_0.mp h4)) (fun _ => ?_)
        refine PW_iload c_G_taken_62 rfl ?_
        refine PW_goto c_G_taken_64 ?_
        refine PW_ireturn (ty := .int) c_G_taken_69 rfl rfl ?_
        exact pqi h f1.symm
      · refine PW.deeper (k := (2, 0, 0, z)) (Nat.le_of_ble_eq_true rfl) (Nat.le_refl _) (Nat.le_refl _) ?_
        refine PW_iload_n c_M_taken_0 rfl ?_
        refine PW_S0 (d2 := 1) (st := []) [.int (nI j)] c_M_taken_1 lk_M_taken_143 rfl rfl rfl (Nat.le_of_ble_eq_true rfl) (by first | decide | omega) (Nat.le_of_ble_eq_true rfl) ?_
        refine sp_M_isShelf2  ?_
        show PW _ _ _ 4 [some (.ref 70), some (.int (nI j)), some (.int a2)] [.int (b2i (0 ≤ (nI j).toInt ∧ (nI j).toInt < 6))] (E x y)
        refine PW_if_eq c_M_taken_4 (fun h0 => absurd hjs (b2i_0.mp h0)) (fun _ => ?_)
        refine PW_iload_n c_M_taken_7 rfl ?_
        refine PW_iconst (v := 0) c_M_taken_8 (by decide) ?_
        refine PW_bipush (v := 7) c_M_taken_9 (by decide) ?_
        refine PW_S0 (d2 := 0) (st := []) [.int a2, .int 0, .int 7] c_M_taken_11 lk_M_taken_131 rfl rfl rfl (Nat.le_of_ble_eq_true rfl) (by first | decide | omega) (Nat.le_of_ble_eq_true rfl) ?_
        refine sp_M_within  ?_
        show PW _ _ _ 14 [some (.ref 70), some (.int (nI j)), some (.int a2)] [.int (b2i ((0 : Int32) ≤ a2 ∧ a2 ≤ (7 : Int32)))] (E x y)
        refine PW_if_ne c_M_taken_14 (fun _ => ?_) (fun h1 => absurd hc1 (b2i_0.mp h1))
        refine PW_aload_n c_M_taken_19 rfl ?_
        refine PW_get (v := .ref 104) c_M_taken_20 fl_M_111 (gf_70_53 _ _) ?_
        refine PW_iload_n c_M_taken_23 rfl ?_
        refine PW_iald (j := j) c_M_taken_24 (ar_104 _ _) (vp_in_nI hj (by decide)) (nI_clamp (by omega)) ?_
        show PW _ _ _ 25 [some (.ref 70), some (.int (nI j)), some (.int a2)] [.int ((y.2.1 104) j)] (E x y)
        refine PW_iconst (v := -1) c_M_taken_25 (by decide) ?_
        refine PW_icmp_ne c_M_taken_26 (fun h2 => ?_) (fun h2 => absurd h2 (ho_b e1))
        refine PW_aload_n c_M_taken_32 rfl ?_
        refine PW_get (v := .ref 104) c_M_taken_33 fl_M_111 (gf_70_53 _ _) ?_
        refine PW_iload_n c_M_taken_36 rfl ?_
        refine PW_iald (j := j) c_M_taken_37 (ar_104 _ _) (vp_in_nI hj (by decide)) (nI_clamp (by omega)) ?_
        show PW _ _ _ 38 [some (.ref 70), some (.int (nI j)), some (.int a2)] [.int ((y.2.1 104) j)] (E x y)
        refine PW_if_lt c_M_taken_38 (fun h3 => absurd h3 (ho_b0 e1)) (fun h3 => ?_)
        refine PW_aload_n c_M_taken_41 rfl ?_
        refine PW_get (v := .ref 102) c_M_taken_42 fl_M_105 (gf_70_50 _ _) ?_
        refine PW_aload_n c_M_taken_45 rfl ?_
        refine PW_get (v := .ref 104) c_M_taken_46 fl_M_111 (gf_70_53 _ _) ?_
        refine PW_iload_n c_M_taken_49 rfl ?_
        refine PW_iald (j := j) c_M_taken_50 (ar_104 _ _) (vp_in_nI hj (by decide)) (nI_clamp (by omega)) ?_
        show PW _ _ _ 51 [some (.ref 70), some (.int (nI j)), some (.int a2)] [.int ((y.2.1 104) j), .ref 102] (E x y)
        refine PW_iald (j := q) c_M_taken_51 (ar_102 _ _) (by rw [q2]; exact vp_in_nI (by omega) (by decide)) (by rw [q2]; exact nI_clamp (by omega)) ?_
        show PW _ _ _ 52 [some (.ref 70), some (.int (nI j)), some (.int a2)] [.int ((y.2.1 102) q)] (E x y)
        refine PW_iload_n c_M_taken_52 rfl ?_
        refine PW_S0 (d2 := 0) (st := []) [.int ((y.2.1 102) q), .int a2] c_M_taken_53 lk_M_taken_367 rfl rfl rfl (Nat.le_of_ble_eq_true rfl) (by first | decide | omega) (Nat.le_of_ble_eq_true rfl) ?_
        refine sp_M_isUnder u2 hu8 ?_
        show PW _ _ _ 56 [some (.ref 70), some (.int (nI j)), some (.int a2)] [.int (b2i (a2 ∈ chU u))] (E x y)
        refine PW_if_eq c_M_taken_56 (fun h4 => absurd hu (b2i_0.mp h4)) (fun _ => ?_)
        refine PW_aload_n c_M_taken_59 rfl ?_
        refine PW_get (v := .ref 102) c_M_taken_60 fl_M_105 (gf_70_50 _ _) ?_
        refine PW_aload_n c_M_taken_63 rfl ?_
        refine PW_get (v := .ref 104) c_M_taken_64 fl_M_111 (gf_70_53 _ _) ?_
        refine PW_iload_n c_M_taken_67 rfl ?_
        refine PW_iald (j := j) c_M_taken_68 (ar_104 _ _) (vp_in_nI hj (by decide)) (nI_clamp (by omega)) ?_
        show PW _ _ _ 69 [some (.ref 70), some (.int (nI j)), some (.int a2)] [.int ((y.2.1 104) j), .ref 102] (E x y)
        refine PW_iald (j := q) c_M_taken_69 (ar_102 _ _) (by rw [q2]; exact vp_in_nI (by omega) (by decide)) (by rw [q2]; exact nI_clamp (by omega)) ?_
        show PW _ _ _ 70 [some (.ref 70), some (.int (nI j)), some (.int a2)] [.int ((y.2.1 102) q)] (E x y)
        refine PW_goto c_M_taken_70 ?_
        refine PW_ireturn (ty := .int) c_M_taken_75 rfl rfl ?_
        exact h
    refine ⟨-12, x, y, ?_, fun {z post} h => ?_, fun {z post} h => ?_⟩
    · exact INV_step hI
    · refine PW.deeper (k := (2, 0, 0, z)) (Nat.le_of_ble_eq_true rfl) (Nat.le_refl _) (Nat.le_refl _) ?_
      refine PW_aload_n c_G_taken_0 rfl ?_
      refine PW_iload_n c_G_taken_1 rfl ?_
      refine PW_V0 (d2 := 0) (st := []) [.int (nI j)] c_G_taken_2 lk_G_taken_102 (po_5 _ _) rfl rfl rfl (Nat.le_of_ble_eq_true rfl) (by first | decide | omega) (Nat.le_of_ble_eq_true rfl) ?_
      refine sp_shelf hj ?_
      show PW _ _ _ 5 [some (.ref 5), some (.int (nI j)), some (.int a2), none, none] [.ref (58 + 2 * j)] (E x y)
      refine PW_astore_n (i := 3) (L2 := [some (.ref 5), some (.int (nI j)), some (.int a2), some (.ref (58 + 2 * j)), none]) c_G_taken_5 rfl (Nat.le_of_ble_eq_true rfl) rfl rfl ?_
      refine PW_aload_n c_G_taken_6 rfl ?_
      refine PW_ifnull c_G_taken_7 ?_
      refine PW_iload_n c_G_taken_10 rfl ?_
      refine PW_S0 (d2 := 0) (st := []) [.int a2] c_G_taken_11 lk_G_taken_300 rfl rfl rfl (Nat.le_of_ble_eq_true rfl) (by first | decide | omega) (Nat.le_of_ble_eq_true rfl) ?_
      refine sp_B_isKind  ?_
      show PW _ _ _ 14 [some (.ref 5), some (.int (nI j)), some (.int a2), some (.ref (58 + 2 * j)), none] [.int (b2i (0 ≤ a2 ∧ a2 ≤ 7))] (E x y)
      refine PW_if_ne c_G_taken_14 (fun _ => ?_) (fun h0 => absurd hc1 (b2i_0.mp h0))
      refine PW_aload_n c_G_taken_19 rfl ?_
      refine PW_V0 (d2 := 0) (st := []) [] c_G_taken_20 lk_G_taken_339 (sh_po _ _ hj) rfl rfl rfl (Nat.le_of_ble_eq_true rfl) (by first | decide | omega) (Nat.le_of_ble_eq_true rfl) ?_
      refine sp_F_isEmpty hj  ?_
      show PW _ _ _ 23 [some (.ref 5), some (.int (nI j)), some (.int a2), some (.ref (58 + 2 * j)), none] [.int (b2i (x.1 ((58 + 2 * j) * 8 + 1) = 0))] (E x y)
      refine PW_if_eq c_G_taken_23 (fun _ => ?_) (fun h1 => absurd (b2i_n0.mp h1) (by rw [e3]; decide))
      refine PW_aload_n c_G_taken_29 rfl ?_
      refine PW_V0 (d2 := 0) (st := []) [] c_G_taken_30 lk_G_taken_355 (sh_po _ _ hj) rfl rfl rfl (Nat.le_of_ble_eq_true rfl) (by first | decide | omega) (Nat.le_of_ble_eq_true rfl) ?_
      refine sp_F_holdsBody hj  ?_
      show PW _ _ _ 33 [some (.ref 5), some (.int (nI j)), some (.int a2), some (.ref (58 + 2 * j)), none] [.int (b2i (x.1 ((58 + 2 * j) * 8 + 1) = 1))] (E x y)
      refine PW_if_eq c_G_taken_33 (fun h2 => absurd e3 (b2i_0.mp h2)) (fun _ => ?_)
      refine PW_aload_n c_G_taken_36 rfl ?_
      refine PW_get (v := .ref 54) c_G_taken_37 fl_G_79 (gf_5_9 _ _) ?_
      refine PW_aload_n c_G_taken_40 rfl ?_
      refine PW_V0 (d2 := 0) (st := [.ref 54]) [] c_G_taken_41 lk_G_taken_358 (sh_po _ _ hj) rfl rfl rfl (Nat.le_of_ble_eq_true rfl) (by first | decide | omega) (Nat.le_of_ble_eq_true rfl) ?_
      show PW _ _ _ 0 [some (.ref (58 + 2 * j))] [] (E x y)
      refine PW_aload_n c_F_heldBody_0 rfl ?_
      refine PW_get (v := .int (x.1 ((58 + 2 * j) * 8 + 2))) c_F_heldBody_1 fl_F_22 (sh_g2 _ _ hj) ?_
      refine PW_ireturn (ty := .int) c_F_heldBody_4 rfl rfl ?_
      show PW _ _ _ 44 [some (.ref 5), some (.int (nI j)), some (.int a2), some (.ref (58 + 2 * j)), none] [.int (x.1 ((58 + 2 * j) * 8 + 2)), .ref 54] (E x y)
      refine PW_V0 (d2 := 1) (st := []) [.int (x.1 ((58 + 2 * j) * 8 + 2))] c_G_taken_44 lk_G_taken_361 (po_54 _ _) rfl rfl rfl (Nat.le_of_ble_eq_true rfl) (by first | decide | omega) (Nat.le_of_ble_eq_true rfl) ?_
      show PW _ _ _ 0 [some (.ref 54), some (.int (x.1 ((58 + 2 * j) * 8 + 2)))] [] (E x y)
      refine PW_aload_n c_B_kindOf_0 rfl ?_
      refine PW_iload_n c_B_kindOf_1 rfl ?_
      refine PW_V0 (d2 := 0) (st := []) [.int (x.1 ((58 + 2 * j) * 8 + 2))] c_B_kindOf_2 lk_B_kindOf_39 (po_54 _ _) rfl rfl rfl (Nat.le_of_ble_eq_true rfl) (by first | decide | omega) (Nat.le_of_ble_eq_true rfl) ?_
      refine sp_B_isBody hB hbx ?_
      show PW _ _ _ 5 [some (.ref 54), some (.int (x.1 ((58 + 2 * j) * 8 + 2)))] [.int (b2i (0 ≤ (x.1 ((58 + 2 * j) * 8 + 2)).toInt ∧ (x.1 ((58 + 2 * j) * 8 + 2)).toInt < (nB y : Int)))] (E x y)
      refine PW_if_eq c_B_kindOf_5 (fun h3 => absurd (by rw [e4]; exact hbd) (b2i_0.mp h3)) (fun _ => ?_)
      refine PW_aload_n c_B_kindOf_8 rfl ?_
      refine PW_get (v := .ref 55) c_B_kindOf_9 fl_B_11 (gf_54_0 _ _) ?_
      refine PW_iload_n c_B_kindOf_12 rfl ?_
      refine PW_iald (j := q) c_B_kindOf_13 (ar_55 _ _) (by rw [e4, q2]; exact vp_in_nI (by omega) (by decide)) (by rw [e4, q2]; exact nI_clamp (by omega)) ?_
      show PW _ _ _ 14 [some (.ref 54), some (.int (x.1 ((58 + 2 * j) * 8 + 2)))] [.int ((x.2.1 55) q)] (E x y)
      refine PW_goto c_B_kindOf_14 ?_
      refine PW_ireturn (ty := .int) c_B_kindOf_18 rfl rfl ?_
      show PW _ _ _ 47 [some (.ref 5), some (.int (nI j)), some (.int a2), some (.ref (58 + 2 * j)), none] [.int ((x.2.1 55) q)] (E x y)
      refine PW_goto c_G_taken_47 ?_
      refine PW_istore (i := 4) (L2 := [some (.ref 5), some (.int (nI j)), some (.int a2), some (.ref (58 + 2 * j)), some (.int ((x.2.1 55) q))]) c_G_taken_51 (Nat.le_of_ble_eq_true rfl) rfl rfl ?_
      refine PW_iload c_G_taken_53 rfl ?_
      refine PW_iload_n c_G_taken_55 rfl ?_
      refine PW_S0 (d2 := 1) (st := []) [.int ((x.2.1 55) q), .int a2] c_G_taken_56 lk_G_taken_364 rfl rfl rfl (Nat.le_of_ble_eq_true rfl) (by first | decide | omega) (Nat.le_of_ble_eq_true rfl) ?_
      refine sp_B_isUnder (by rw [f1]; exact u2) hu8 ?_
      show PW _ _ _ 59 [some (.ref 5), some (.int (nI j)), some (.int a2), some (.ref (58 + 2 * j)), some (.int ((x.2.1 55) q))] [.int (b2i (a2 ∈ chU u))] (E x y)
      refine PW_if_eq c_G_taken_59 (fun _ => ?_) (fun h4 => absurd (b2i_n0.mp h4) hu)
      refine PW_bipush (v := -12) c_G_taken_67 (by decide) ?_
      refine PW_ireturn (ty := .int) c_G_taken_69 rfl rfl ?_
      exact h
    · refine PW.deeper (k := (2, 0, 0, z)) (Nat.le_of_ble_eq_true rfl) (Nat.le_refl _) (Nat.le_refl _) ?_
      refine PW_iload_n c_M_taken_0 rfl ?_
      refine PW_S0 (d2 := 1) (st := []) [.int (nI j)] c_M_taken_1 lk_M_taken_143 rfl rfl rfl (Nat.le_of_ble_eq_true rfl) (by first | decide | omega) (Nat.le_of_ble_eq_true rfl) ?_
      refine sp_M_isShelf2  ?_
      show PW _ _ _ 4 [some (.ref 70), some (.int (nI j)), some (.int a2)] [.int (b2i (0 ≤ (nI j).toInt ∧ (nI j).toInt < 6))] (E x y)
      refine PW_if_eq c_M_taken_4 (fun h0 => absurd hjs (b2i_0.mp h0)) (fun _ => ?_)
      refine PW_iload_n c_M_taken_7 rfl ?_
      refine PW_iconst (v := 0) c_M_taken_8 (by decide) ?_
      refine PW_bipush (v := 7) c_M_taken_9 (by decide) ?_
      refine PW_S0 (d2 := 0) (st := []) [.int a2, .int 0, .int 7] c_M_taken_11 lk_M_taken_131 rfl rfl rfl (Nat.le_of_ble_eq_true rfl) (by first | decide | omega) (Nat.le_of_ble_eq_true rfl) ?_
      refine sp_M_within  ?_
      show PW _ _ _ 14 [some (.ref 70), some (.int (nI j)), some (.int a2)] [.int (b2i ((0 : Int32) ≤ a2 ∧ a2 ≤ (7 : Int32)))] (E x y)
      refine PW_if_ne c_M_taken_14 (fun _ => ?_) (fun h1 => absurd hc1 (b2i_0.mp h1))
      refine PW_aload_n c_M_taken_19 rfl ?_
      refine PW_get (v := .ref 104) c_M_taken_20 fl_M_111 (gf_70_53 _ _) ?_
      refine PW_iload_n c_M_taken_23 rfl ?_
      refine PW_iald (j := j) c_M_taken_24 (ar_104 _ _) (vp_in_nI hj (by decide)) (nI_clamp (by omega)) ?_
      show PW _ _ _ 25 [some (.ref 70), some (.int (nI j)), some (.int a2)] [.int ((y.2.1 104) j)] (E x y)
      refine PW_iconst (v := -1) c_M_taken_25 (by decide) ?_
      refine PW_icmp_ne c_M_taken_26 (fun h2 => ?_) (fun h2 => absurd h2 (ho_b e1))
      refine PW_aload_n c_M_taken_32 rfl ?_
      refine PW_get (v := .ref 104) c_M_taken_33 fl_M_111 (gf_70_53 _ _) ?_
      refine PW_iload_n c_M_taken_36 rfl ?_
      refine PW_iald (j := j) c_M_taken_37 (ar_104 _ _) (vp_in_nI hj (by decide)) (nI_clamp (by omega)) ?_
      show PW _ _ _ 38 [some (.ref 70), some (.int (nI j)), some (.int a2)] [.int ((y.2.1 104) j)] (E x y)
      refine PW_if_lt c_M_taken_38 (fun h3 => absurd h3 (ho_b0 e1)) (fun h3 => ?_)
      refine PW_aload_n c_M_taken_41 rfl ?_
      refine PW_get (v := .ref 102) c_M_taken_42 fl_M_105 (gf_70_50 _ _) ?_
      refine PW_aload_n c_M_taken_45 rfl ?_
      refine PW_get (v := .ref 104) c_M_taken_46 fl_M_111 (gf_70_53 _ _) ?_
      refine PW_iload_n c_M_taken_49 rfl ?_
      refine PW_iald (j := j) c_M_taken_50 (ar_104 _ _) (vp_in_nI hj (by decide)) (nI_clamp (by omega)) ?_
      show PW _ _ _ 51 [some (.ref 70), some (.int (nI j)), some (.int a2)] [.int ((y.2.1 104) j), .ref 102] (E x y)
      refine PW_iald (j := q) c_M_taken_51 (ar_102 _ _) (by rw [q2]; exact vp_in_nI (by omega) (by decide)) (by rw [q2]; exact nI_clamp (by omega)) ?_
      show PW _ _ _ 52 [some (.ref 70), some (.int (nI j)), some (.int a2)] [.int ((y.2.1 102) q)] (E x y)
      refine PW_iload_n c_M_taken_52 rfl ?_
      refine PW_S0 (d2 := 0) (st := []) [.int ((y.2.1 102) q), .int a2] c_M_taken_53 lk_M_taken_367 rfl rfl rfl (Nat.le_of_ble_eq_true rfl) (by first | decide | omega) (Nat.le_of_ble_eq_true rfl) ?_
      refine sp_M_isUnder u2 hu8 ?_
      show PW _ _ _ 56 [some (.ref 70), some (.int (nI j)), some (.int a2)] [.int (b2i (a2 ∈ chU u))] (E x y)
      refine PW_if_eq c_M_taken_56 (fun _ => ?_) (fun h4 => absurd (b2i_n0.mp h4) hu)
      refine PW_bipush (v := -12) c_M_taken_73 (by decide) ?_
      refine PW_ireturn (ty := .int) c_M_taken_75 rfl rfl ?_
      exact h
  · refine ⟨-12, x, y, ?_, fun {z post} h => ?_, fun {z post} h => ?_⟩
    · exact INV_step hI
    · refine PW.deeper (k := (2, 0, 0, z)) (Nat.le_of_ble_eq_true rfl) (Nat.le_refl _) (Nat.le_refl _) ?_
      refine PW_aload_n c_G_taken_0 rfl ?_
      refine PW_iload_n c_G_taken_1 rfl ?_
      refine PW_V0 (d2 := 0) (st := []) [.int (nI j)] c_G_taken_2 lk_G_taken_102 (po_5 _ _) rfl rfl rfl (Nat.le_of_ble_eq_true rfl) (by first | decide | omega) (Nat.le_of_ble_eq_true rfl) ?_
      refine sp_shelf hj ?_
      show PW _ _ _ 5 [some (.ref 5), some (.int (nI j)), some (.int a2), none, none] [.ref (58 + 2 * j)] (E x y)
      refine PW_astore_n (i := 3) (L2 := [some (.ref 5), some (.int (nI j)), some (.int a2), some (.ref (58 + 2 * j)), none]) c_G_taken_5 rfl (Nat.le_of_ble_eq_true rfl) rfl rfl ?_
      refine PW_aload_n c_G_taken_6 rfl ?_
      refine PW_ifnull c_G_taken_7 ?_
      refine PW_iload_n c_G_taken_10 rfl ?_
      refine PW_S0 (d2 := 0) (st := []) [.int a2] c_G_taken_11 lk_G_taken_300 rfl rfl rfl (Nat.le_of_ble_eq_true rfl) (by first | decide | omega) (Nat.le_of_ble_eq_true rfl) ?_
      refine sp_B_isKind  ?_
      show PW _ _ _ 14 [some (.ref 5), some (.int (nI j)), some (.int a2), some (.ref (58 + 2 * j)), none] [.int (b2i (0 ≤ a2 ∧ a2 ≤ 7))] (E x y)
      refine PW_if_ne c_G_taken_14 (fun _ => ?_) (fun h0 => absurd hc1 (b2i_0.mp h0))
      refine PW_aload_n c_G_taken_19 rfl ?_
      refine PW_V0 (d2 := 0) (st := []) [] c_G_taken_20 lk_G_taken_339 (sh_po _ _ hj) rfl rfl rfl (Nat.le_of_ble_eq_true rfl) (by first | decide | omega) (Nat.le_of_ble_eq_true rfl) ?_
      refine sp_F_isEmpty hj  ?_
      show PW _ _ _ 23 [some (.ref 5), some (.int (nI j)), some (.int a2), some (.ref (58 + 2 * j)), none] [.int (b2i (x.1 ((58 + 2 * j) * 8 + 1) = 0))] (E x y)
      refine PW_if_eq c_G_taken_23 (fun _ => ?_) (fun h1 => absurd (b2i_n0.mp h1) (by rw [e4]; decide))
      refine PW_aload_n c_G_taken_29 rfl ?_
      refine PW_V0 (d2 := 0) (st := []) [] c_G_taken_30 lk_G_taken_355 (sh_po _ _ hj) rfl rfl rfl (Nat.le_of_ble_eq_true rfl) (by first | decide | omega) (Nat.le_of_ble_eq_true rfl) ?_
      refine sp_F_holdsBody hj  ?_
      show PW _ _ _ 33 [some (.ref 5), some (.int (nI j)), some (.int a2), some (.ref (58 + 2 * j)), none] [.int (b2i (x.1 ((58 + 2 * j) * 8 + 1) = 1))] (E x y)
      refine PW_if_eq c_G_taken_33 (fun _ => ?_) (fun h2 => absurd (b2i_n0.mp h2) (by rw [e4]; decide))
      refine PW_iconst (v := -1) c_G_taken_50 (by decide) ?_
      refine PW_istore (i := 4) (L2 := [some (.ref 5), some (.int (nI j)), some (.int a2), some (.ref (58 + 2 * j)), some (.int (-1))]) c_G_taken_51 (Nat.le_of_ble_eq_true rfl) rfl rfl ?_
      refine PW_iload c_G_taken_53 rfl ?_
      refine PW_iload_n c_G_taken_55 rfl ?_
      refine PW_S0 (d2 := 1) (st := []) [.int (-1), .int a2] c_G_taken_56 lk_G_taken_364 rfl rfl rfl (Nat.le_of_ble_eq_true rfl) (by first | decide | omega) (Nat.le_of_ble_eq_true rfl) ?_
      refine sp_B_isUnder_m1 ?_
      show PW _ _ _ 59 [some (.ref 5), some (.int (nI j)), some (.int a2), some (.ref (58 + 2 * j)), some (.int (-1))] [.int 0] (E x y)
      refine PW_if_eq c_G_taken_59 (fun _ => ?_) (fun h3 => absurd (by decide) h3)
      refine PW_bipush (v := -12) c_G_taken_67 (by decide) ?_
      refine PW_ireturn (ty := .int) c_G_taken_69 rfl rfl ?_
      exact h
    · refine PW.deeper (k := (2, 0, 0, z)) (Nat.le_of_ble_eq_true rfl) (Nat.le_refl _) (Nat.le_refl _) ?_
      refine PW_iload_n c_M_taken_0 rfl ?_
      refine PW_S0 (d2 := 1) (st := []) [.int (nI j)] c_M_taken_1 lk_M_taken_143 rfl rfl rfl (Nat.le_of_ble_eq_true rfl) (by first | decide | omega) (Nat.le_of_ble_eq_true rfl) ?_
      refine sp_M_isShelf2  ?_
      show PW _ _ _ 4 [some (.ref 70), some (.int (nI j)), some (.int a2)] [.int (b2i (0 ≤ (nI j).toInt ∧ (nI j).toInt < 6))] (E x y)
      refine PW_if_eq c_M_taken_4 (fun h0 => absurd hjs (b2i_0.mp h0)) (fun _ => ?_)
      refine PW_iload_n c_M_taken_7 rfl ?_
      refine PW_iconst (v := 0) c_M_taken_8 (by decide) ?_
      refine PW_bipush (v := 7) c_M_taken_9 (by decide) ?_
      refine PW_S0 (d2 := 0) (st := []) [.int a2, .int 0, .int 7] c_M_taken_11 lk_M_taken_131 rfl rfl rfl (Nat.le_of_ble_eq_true rfl) (by first | decide | omega) (Nat.le_of_ble_eq_true rfl) ?_
      refine sp_M_within  ?_
      show PW _ _ _ 14 [some (.ref 70), some (.int (nI j)), some (.int a2)] [.int (b2i ((0 : Int32) ≤ a2 ∧ a2 ≤ (7 : Int32)))] (E x y)
      refine PW_if_ne c_M_taken_14 (fun _ => ?_) (fun h1 => absurd hc1 (b2i_0.mp h1))
      refine PW_aload_n c_M_taken_19 rfl ?_
      refine PW_get (v := .ref 104) c_M_taken_20 fl_M_111 (gf_70_53 _ _) ?_
      refine PW_iload_n c_M_taken_23 rfl ?_
      refine PW_iald (j := j) c_M_taken_24 (ar_104 _ _) (vp_in_nI hj (by decide)) (nI_clamp (by omega)) ?_
      show PW _ _ _ 25 [some (.ref 70), some (.int (nI j)), some (.int a2)] [.int ((y.2.1 104) j)] (E x y)
      refine PW_iconst (v := -1) c_M_taken_25 (by decide) ?_
      refine PW_icmp_ne c_M_taken_26 (fun h2 => ?_) (fun h2 => absurd h2 (by rw [e3]; exact ho_n1 e1))
      refine PW_aload_n c_M_taken_32 rfl ?_
      refine PW_get (v := .ref 104) c_M_taken_33 fl_M_111 (gf_70_53 _ _) ?_
      refine PW_iload_n c_M_taken_36 rfl ?_
      refine PW_iald (j := j) c_M_taken_37 (ar_104 _ _) (vp_in_nI hj (by decide)) (nI_clamp (by omega)) ?_
      show PW _ _ _ 38 [some (.ref 70), some (.int (nI j)), some (.int a2)] [.int ((y.2.1 104) j)] (E x y)
      refine PW_if_lt c_M_taken_38 (fun h3 => ?_) (fun h3 => absurd (by rw [e3]; exact ho_lt e1) h3)
      refine PW_bipush (v := -12) c_M_taken_73 (by decide) ?_
      refine PW_ireturn (ty := .int) c_M_taken_75 rfl rfl ?_
      exact h
