set_option maxHeartbeats 4000000 in
theorem op_go {t : Nat} {x y : XS} {a1 : Int32} (hI : INV t x y) (ht : t < 512) : ∃ (r : Int32) (x' y' : XS), INV (t + 1) x' y' ∧ (∀ {z : ZS} {post : Option Value → List PE → Prop}, post (some (.int r)) (E x' y) → PW (90, 0, 0, z) m_G_go post 0 [some (.ref 5), some (.int a1)] [] (E x y)) ∧ (∀ {z : ZS} {post : Option Value → List PE → Prop}, post (some (.int r)) (E x' y') → PW (90, 0, 0, z) m_M_go post 0 [some (.ref 70), some (.int a1)] [] (E x' y)) := by
  obtain ⟨hg, hc, ht0, hl, hd, hb, hs⟩ := id hI
  obtain ⟨d1, d2, d3, d4, d5, d6, d7, d8, d9, d10, d11⟩ := id hd

  by_cases hc0 : 0 ≤ a1 ∧ a1 ≤ 4
  · obtain ⟨ra, ra1, ra2, ra3, ra4⟩ := nI_ex d7.2.2.1
    obtain ⟨rb, rb1, rfl, rb3, rb4⟩ := nI_ex (x := a1) (by simp only [Int32.le_iff_toInt_le, tiA] at hc0; omega)
    have hra : ra < 5 := by have := d7.2.2.2.1; omega
    have hrb : rb < 5 := by simp only [Int32.le_iff_toInt_le, tiA] at hc0; omega
    have hwb := wayN_b hg hra hrb
    have hh := ti_add (x := y.2.1 100 0) (y := wayN y ra rb) (by have := d7.1; omega) (by have := d7.2.1; omega)
    refine ⟨y.2.1 100 0 + wayN y ra rb, sI (sI x 387 ((x.1 387) + (wayN y ra rb))) 386 (nI rb), sA (sA y 100 (upd (y.2.1 100) 0 (((y.2.1 100) 0) + (wayN y ra rb)))) 100 (upd (upd (y.2.1 100) 0 (((y.2.1 100) 0) + (wayN y ra rb))) 1 (nI rb)), ?_, fun {z post} h => ?_, fun {z post} h => ?_⟩
    · refine ⟨hg.cg (fun n q1 q2 => by first | rfl | (simp only [sI_1, sI_A, sI_G, sA_1, sA_A, sA_G, sG_1, sG_A, sG_G]; repeat rw [if_neg (by omega)])) (fun n q1 q2 => by first | rfl | (simp only [sI_1, sI_A, sI_G, sA_1, sA_A, sA_G, sG_1, sG_A, sG_G]; repeat rw [if_neg (by omega)])) (by first | rfl | (simp only [sI_1, sI_A, sI_G, sA_1, sA_A, sA_G, sG_1, sG_A, sG_G]; repeat rw [if_neg (by omega)])) (fun n q1 q2 => by first | rfl | (simp only [sI_1, sI_A, sI_G, sA_1, sA_A, sA_G, sG_1, sG_A, sG_G]; repeat rw [if_neg (by omega)])), hc.cg (fun n q1 q2 => by first | rfl | (simp only [sI_1, sI_A, sI_G, sA_1, sA_A, sA_G, sG_1, sG_A, sG_G]; repeat rw [if_neg (by omega)])) (fun n q1 q2 => by first | rfl | (simp only [sI_1, sI_A, sI_G, sA_1, sA_A, sA_G, sG_1, sG_A, sG_G]; repeat rw [if_neg (by omega)])) (fun n q1 q2 => by first | rfl | (simp only [sI_1, sI_A, sI_G, sA_1, sA_A, sA_G, sG_1, sG_A, sG_G]; repeat rw [if_neg (by omega)])) (fun n q1 q2 => by first | rfl | (simp only [sI_1, sI_A, sI_G, sA_1, sA_A, sA_G, sG_1, sG_A, sG_G]; repeat rw [if_neg (by omega)])) (Nat.le_of_eq (nG_cg (by first | rfl | (simp only [sI_1, sI_A, sI_G, sA_1, sA_A, sA_G, sG_1, sG_A, sG_G]; repeat rw [if_neg (by omega)]))).symm), ht0.cg (by first | rfl | (simp only [sI_1, sI_A, sI_G, sA_1, sA_A, sA_G, sG_1, sG_A, sG_G]; repeat rw [if_neg (by omega)])) (by first | rfl | (simp only [sI_1, sI_A, sI_G, sA_1, sA_A, sA_G, sG_1, sG_A, sG_G]; repeat rw [if_neg (by omega)])) (by first | rfl | (simp only [sI_1, sI_A, sI_G, sA_1, sA_A, sA_G, sG_1, sG_A, sG_G]; repeat rw [if_neg (by omega)])) (by first | rfl | (simp only [sI_1, sI_A, sI_G, sA_1, sA_A, sA_G, sG_1, sG_A, sG_G]; repeat rw [if_neg (by omega)])), hl.cg (by first | rfl | (simp only [sI_1, sI_A, sI_G, sA_1, sA_A, sA_G, sG_1, sG_A, sG_G]; repeat rw [if_neg (by omega)])) (fun n q1 q2 => by first | rfl | (simp only [sI_1, sI_A, sI_G, sA_1, sA_A, sA_G, sG_1, sG_A, sG_G]; repeat rw [if_neg (by omega)])) (by first | rfl | (simp only [sI_1, sI_A, sI_G, sA_1, sA_A, sA_G, sG_1, sG_A, sG_G]; repeat rw [if_neg (by omega)])) (fun n q1 q2 => by first | rfl | (simp only [sI_1, sI_A, sI_G, sA_1, sA_A, sA_G, sG_1, sG_A, sG_G]; repeat rw [if_neg (by omega)])), ?_, hb.cg (fun n q1 q2 => by first | rfl | (simp only [sI_1, sI_A, sI_G, sA_1, sA_A, sA_G, sG_1, sG_A, sG_G]; repeat rw [if_neg (by omega)])) (fun n q1 q2 => by first | rfl | (simp only [sI_1, sI_A, sI_G, sA_1, sA_A, sA_G, sG_1, sG_A, sG_G]; repeat rw [if_neg (by omega)])) (fun n q1 q2 => by first | rfl | (simp only [sI_1, sI_A, sI_G, sA_1, sA_A, sA_G, sG_1, sG_A, sG_G]; repeat rw [if_neg (by omega)])) (fun n q1 q2 => by first | rfl | (simp only [sI_1, sI_A, sI_G, sA_1, sA_A, sA_G, sG_1, sG_A, sG_G]; repeat rw [if_neg (by omega)])), hs.cg (fun n q1 q2 => by first | rfl | (simp only [sI_1, sI_A, sI_G, sA_1, sA_A, sA_G, sG_1, sG_A, sG_G]; repeat rw [if_neg (by omega)])) (fun n q1 q2 => by first | rfl | (simp only [sI_1, sI_A, sI_G, sA_1, sA_A, sA_G, sG_1, sG_A, sG_G]; repeat rw [if_neg (by omega)])) (by first | exact Int.le_refl _ | (simp only [sI_1, sI_A, sI_G, sA_1, sA_A, sA_G, sG_1, sG_A, sG_G]; repeat rw [if_neg (by omega)])) (fun n q1 q2 => by first | rfl | (simp only [sI_1, sI_A, sI_G, sA_1, sA_A, sA_G, sG_1, sG_A, sG_G]; repeat rw [if_neg (by omega)])) (by first | rfl | (simp only [sI_1, sI_A, sI_G, sA_1, sA_A, sA_G, sG_1, sG_A, sG_G]; repeat rw [if_neg (by omega)]))⟩
      · refine ⟨?_, rfl, d3, d4, d5, d6, ?_, d8, okd_up (Nat.le_succ _) d9, d10, d11⟩
        · show x.1 387 + wayN y ra rb = y.2.1 100 0 + wayN y ra rb
          rw [d1]
        · refine ⟨?_, ?_, ?_, ?_, d7.2.2.2.2.1, fun i q1 q2 => ?_⟩
          · show 0 ≤ (y.2.1 100 0 + wayN y ra rb).toInt
            rw [hh]; have := d7.1; omega
          · show (y.2.1 100 0 + wayN y ra rb).toInt ≤ _
            rw [hh]; have := d7.2.1; omega
          · show 0 ≤ (nI rb).toInt
            omega
          · show (nI rb).toInt < 5
            omega
          · show 0 ≤ (upd (upd (y.2.1 100) 0 (y.2.1 100 0 + wayN y ra rb)) 1 (nI rb) i).toInt ∧ (upd (upd (y.2.1 100) 0 (y.2.1 100 0 + wayN y ra rb)) 1 (nI rb) i).toInt ≤ _
            rw [upd_n (by omega), upd_n (by omega)]; have := d7.2.2.2.2.2 i q1 q2; omega
    · refine PW.deeper (k := (5, 0, 0, z)) (Nat.le_of_ble_eq_true rfl) (Nat.le_refl _) (Nat.le_refl _) ?_
      refine PW_iload_n c_G_go_0 rfl ?_
      refine PW_S0 (d2 := 0) (st := []) [.int (nI rb)] c_G_go_1 lk_G_go_121 rfl rfl rfl (Nat.le_of_ble_eq_true rfl) (by first | decide | omega) (Nat.le_of_ble_eq_true rfl) ?_
      refine sp_H_isRoom  ?_
      show PW _ _ _ 4 [some (.ref 5), some (.int (nI rb))] [.int (b2i (0 ≤ (nI rb) ∧ (nI rb) ≤ 4))] (E x y)
      refine PW_if_eq c_G_go_4 (fun h0 => absurd hc0 (b2i_0.mp h0)) (fun _ => ?_)
      refine PW_aload_n c_G_go_7 rfl ?_
      refine PW_get (v := .ref 46) c_G_go_8 fl_G_65 (gf_5_7 _ _) ?_
      refine PW_iload_n c_G_go_11 rfl ?_
      refine PW_V0 (d2 := 4) (st := []) [.int (nI rb)] c_G_go_12 lk_G_go_261 (po_46 _ _) rfl rfl rfl (Nat.le_of_ble_eq_true rfl) (by first | decide | omega) (Nat.le_of_ble_eq_true rfl) ?_
      show PW _ _ _ 0 [some (.ref 46), some (.int (nI rb))] [] (E x y)
      refine PW_aload_n c_E_walk_0 rfl ?_
      refine PW_get (v := .ref 48) c_E_walk_1 fl_E_24 (gf_46_1 _ _) ?_
      refine PW_iload_n c_E_walk_4 rfl ?_
      refine PW_V0 (d2 := 3) (st := []) [.int (nI rb)] c_E_walk_5 lk_E_walk_28 (po_48 _ _) rfl rfl rfl (Nat.le_of_ble_eq_true rfl) (by first | decide | omega) (Nat.le_of_ble_eq_true rfl) ?_
      show PW _ _ _ 0 [some (.ref 48), some (.int (nI rb))] [] (E x y)
      refine PW_aload_n c_V_walkTo_0 rfl ?_
      refine PW_aload_n c_V_walkTo_1 rfl ?_
      refine PW_iload_n c_V_walkTo_2 rfl ?_
      refine PW_V0 (d2 := 2) (st := [.ref 48]) [.int (nI rb)] c_V_walkTo_3 lk_V_walkTo_39 (po_48 _ _) rfl rfl rfl (Nat.le_of_ble_eq_true rfl) (by first | decide | omega) (Nat.le_of_ble_eq_true rfl) ?_
      show PW _ _ _ 0 [some (.ref 48), some (.int (nI rb))] [] (E x y)
      refine PW_aload_n c_V_arrival_0 rfl ?_
      refine PW_get (v := .int (x.1 387)) c_V_arrival_1 fl_V_27 (gf_48_3 _ _) ?_
      refine PW_aload_n c_V_arrival_4 rfl ?_
      refine PW_get (v := .ref 6) c_V_arrival_5 fl_V_9 (gf_48_0 _ _) ?_
      refine PW_aload_n c_V_arrival_8 rfl ?_
      refine PW_get (v := .int (x.1 386)) c_V_arrival_9 fl_V_23 (gf_48_2 _ _) ?_
      refine PW_iload_n c_V_arrival_12 rfl ?_
      refine PW_V0 (d2 := 1) (st := [.int (x.1 387)]) [.int (x.1 386), .int (nI rb)] c_V_arrival_13 lk_V_arrival_33 (po_6 _ _) rfl rfl rfl (Nat.le_of_ble_eq_true rfl) (by first | decide | omega) (Nat.le_of_ble_eq_true rfl) ?_
      refine sp_H_wayBetween hg (by rw [d2]; exact ra2) rfl hra hrb ?_
      show PW _ _ _ 16 [some (.ref 48), some (.int (nI rb))] [.int (wayN y ra rb), .int (x.1 387)] (E x y)
      refine PW_iadd c_V_arrival_16 ?_
      refine PW_ireturn (ty := .int) c_V_arrival_17 rfl rfl ?_
      show PW _ _ _ 6 [some (.ref 48), some (.int (nI rb))] [.int ((x.1 387) + (wayN y ra rb)), .ref 48] (E x y)
      refine PW_put (w2 := E (sI x 387 ((x.1 387) + (wayN y ra rb))) y) c_V_walkTo_6 fp_V_walkTo_27 rfl (pf_48_3 _ _ _) ?_
      refine PW_aload_n c_V_walkTo_9 rfl ?_
      refine PW_iload_n c_V_walkTo_10 rfl ?_
      refine PW_put (w2 := E (sI (sI x 387 ((x.1 387) + (wayN y ra rb))) 386 (nI rb)) y) c_V_walkTo_11 fp_V_walkTo_23 rfl (pf_48_2 _ _ _) ?_
      refine PW_vreturn c_V_walkTo_14 rfl ?_
      show PW _ _ _ 8 [some (.ref 46), some (.int (nI rb))] [] (E (sI (sI x 387 ((x.1 387) + (wayN y ra rb))) 386 (nI rb)) y)
      refine PW_aload_n c_E_walk_8 rfl ?_
      refine PW_get (v := .ref 48) c_E_walk_9 fl_E_24 (gf_46_1 _ _) ?_
      refine PW_V0 (d2 := 0) (st := []) [] c_E_walk_12 lk_E_walk_32 (po_48 _ _) rfl rfl rfl (Nat.le_of_ble_eq_true rfl) (by first | decide | omega) (Nat.le_of_ble_eq_true rfl) ?_
      show PW _ _ _ 0 [some (.ref 48)] [] (E (sI (sI x 387 ((x.1 387) + (wayN y ra rb))) 386 (nI rb)) y)
      refine PW_aload_n c_V_minute_0 rfl ?_
      refine PW_get (v := .int ((x.1 387) + (wayN y ra rb))) c_V_minute_1 fl_V_27 (gf_48_3 _ _) ?_
      refine PW_ireturn (ty := .int) c_V_minute_4 rfl rfl ?_
      show PW _ _ _ 15 [some (.ref 46), some (.int (nI rb))] [.int ((x.1 387) + (wayN y ra rb))] (E (sI (sI x 387 ((x.1 387) + (wayN y ra rb))) 386 (nI rb)) y)
      refine PW_ireturn (ty := .int) c_E_walk_15 rfl rfl ?_
      show PW _ _ _ 15 [some (.ref 5), some (.int (nI rb))] [.int ((x.1 387) + (wayN y ra rb))] (E (sI (sI x 387 ((x.1 387) + (wayN y ra rb))) 386 (nI rb)) y)
      refine PW_goto c_G_go_15 ?_
      refine PW_ireturn (ty := .int) c_G_go_19 rfl rfl ?_
      exact pqi h (by rw [d1])
    · refine PW.deeper (k := (2, 0, 0, z)) (Nat.le_of_ble_eq_true rfl) (Nat.le_refl _) (Nat.le_refl _) ?_
      refine PW_iload_n c_M_go_0 rfl ?_
      refine PW_S0 (d2 := 1) (st := []) [.int (nI rb)] c_M_go_1 lk_M_go_135 rfl rfl rfl (Nat.le_of_ble_eq_true rfl) (by first | decide | omega) (Nat.le_of_ble_eq_true rfl) ?_
      refine sp_M_isRoom  ?_
      show PW _ _ _ 4 [some (.ref 70), some (.int (nI rb))] [.int (b2i (0 ≤ (nI rb) ∧ (nI rb) ≤ 4))] (E (sI (sI x 387 ((x.1 387) + (wayN y ra rb))) 386 (nI rb)) y)
      refine PW_if_ne c_M_go_4 (fun _ => ?_) (fun h0 => absurd hc0 (b2i_0.mp h0))
      refine PW_aload_n c_M_go_9 rfl ?_
      refine PW_get (v := .ref 100) c_M_go_10 fl_M_99 (gf_70_46 _ _) ?_
      refine PW_iconst (v := 0) c_M_go_13 (by decide) ?_
      refine PW_dup2 c_M_go_14 rfl rfl ?_
      refine PW_iald (j := 0) c_M_go_15 (ar_100 _ _) (vp_in_iff.mpr (by decide)) rfl ?_
      show PW _ _ _ 16 [some (.ref 70), some (.int (nI rb))] [.int ((y.2.1 100) 0), .int 0, .ref 100] (E (sI (sI x 387 ((x.1 387) + (wayN y ra rb))) 386 (nI rb)) y)
      refine PW_aload_n c_M_go_16 rfl ?_
      refine PW_aload_n c_M_go_17 rfl ?_
      refine PW_get (v := .ref 100) c_M_go_18 fl_M_99 (gf_70_46 _ _) ?_
      refine PW_iconst (v := 1) c_M_go_21 (by decide) ?_
      refine PW_iald (j := 1) c_M_go_22 (ar_100 _ _) (vp_in_iff.mpr (by decide)) rfl ?_
      show PW _ _ _ 23 [some (.ref 70), some (.int (nI rb))] [.int ((y.2.1 100) 1), .ref 70, .int ((y.2.1 100) 0), .int 0, .ref 100] (E (sI (sI x 387 ((x.1 387) + (wayN y ra rb))) 386 (nI rb)) y)
      refine PW_iload_n c_M_go_23 rfl ?_
      refine PW_V0 (d2 := 0) (st := [.int ((y.2.1 100) 0), .int 0, .ref 100]) [.int ((y.2.1 100) 1), .int (nI rb)] c_M_go_24 lk_M_go_274 (po_70 _ _) rfl rfl rfl (Nat.le_of_ble_eq_true rfl) (by first | decide | omega) (Nat.le_of_ble_eq_true rfl) ?_
      refine sp_M_wayOf ra2 rfl hra hrb ?_
      show PW _ _ _ 27 [some (.ref 70), some (.int (nI rb))] [.int (wayN y ra rb), .int ((y.2.1 100) 0), .int 0, .ref 100] (E (sI (sI x 387 ((x.1 387) + (wayN y ra rb))) 386 (nI rb)) y)
      refine PW_iadd c_M_go_27 ?_
      refine PW_iast (j := 0) (w2 := E (sI (sI x 387 ((x.1 387) + (wayN y ra rb))) 386 (nI rb)) (sA y 100 (upd (y.2.1 100) 0 (((y.2.1 100) 0) + (wayN y ra rb))))) c_M_go_28 (ar_100 _ _) (vp_in_iff.mpr (by decide)) rfl (aw_100 _ _ _) ?_
      refine PW_aload_n c_M_go_29 rfl ?_
      refine PW_get (v := .ref 100) c_M_go_30 fl_M_99 (gf_70_46 _ _) ?_
      refine PW_iconst (v := 1) c_M_go_33 (by decide) ?_
      refine PW_iload_n c_M_go_34 rfl ?_
      refine PW_iast (j := 1) (w2 := E (sI (sI x 387 ((x.1 387) + (wayN y ra rb))) 386 (nI rb)) (sA (sA y 100 (upd (y.2.1 100) 0 (((y.2.1 100) 0) + (wayN y ra rb)))) 100 (upd (upd (y.2.1 100) 0 (((y.2.1 100) 0) + (wayN y ra rb))) 1 (nI rb)))) c_M_go_35 (ar_100 _ _) (vp_in_iff.mpr (by decide)) rfl (aw_100 _ _ _) ?_
      refine PW_aload_n c_M_go_36 rfl ?_
      refine PW_get (v := .ref 100) c_M_go_37 fl_M_99 (gf_70_46 _ _) ?_
      refine PW_iconst (v := 0) c_M_go_40 (by decide) ?_
      refine PW_iald (j := 0) c_M_go_41 (ar_100 _ _) (vp_in_iff.mpr (by decide)) rfl ?_
      show PW _ _ _ 42 [some (.ref 70), some (.int (nI rb))] [.int ((upd (upd (y.2.1 100) 0 (((y.2.1 100) 0) + (wayN y ra rb))) 1 (nI rb)) 0)] (E (sI (sI x 387 ((x.1 387) + (wayN y ra rb))) 386 (nI rb)) (sA (sA y 100 (upd (y.2.1 100) 0 (((y.2.1 100) 0) + (wayN y ra rb)))) 100 (upd (upd (y.2.1 100) 0 (((y.2.1 100) 0) + (wayN y ra rb))) 1 (nI rb))))
      refine PW_ireturn (ty := .int) c_M_go_42 rfl rfl ?_
      exact h
  refine ⟨-1, x, y, ?_, fun {z post} h => ?_, fun {z post} h => ?_⟩
  · exact INV_step hI
  · refine PW.deeper (k := (5, 0, 0, z)) (Nat.le_of_ble_eq_true rfl) (Nat.le_refl _) (Nat.le_refl _) ?_
    refine PW_iload_n c_G_go_0 rfl ?_
    refine PW_S0 (d2 := 0) (st := []) [.int a1] c_G_go_1 lk_G_go_121 rfl rfl rfl (Nat.le_of_ble_eq_true rfl) (by first | decide | omega) (Nat.le_of_ble_eq_true rfl) ?_
    refine sp_H_isRoom  ?_
    show PW _ _ _ 4 [some (.ref 5), some (.int a1)] [.int (b2i (0 ≤ a1 ∧ a1 ≤ 4))] (E x y)
    refine PW_if_eq c_G_go_4 (fun _ => ?_) (fun h0 => absurd (b2i_n0.mp h0) hc0)
    refine PW_iconst (v := -1) c_G_go_18 (by decide) ?_
    refine PW_ireturn (ty := .int) c_G_go_19 rfl rfl ?_
    exact h
  · refine PW.deeper (k := (2, 0, 0, z)) (Nat.le_of_ble_eq_true rfl) (Nat.le_refl _) (Nat.le_refl _) ?_
    refine PW_iload_n c_M_go_0 rfl ?_
    refine PW_S0 (d2 := 1) (st := []) [.int a1] c_M_go_1 lk_M_go_135 rfl rfl rfl (Nat.le_of_ble_eq_true rfl) (by first | decide | omega) (Nat.le_of_ble_eq_true rfl) ?_
    refine sp_M_isRoom  ?_
    show PW _ _ _ 4 [some (.ref 70), some (.int a1)] [.int (b2i (0 ≤ a1 ∧ a1 ≤ 4))] (E x y)
    refine PW_if_ne c_M_go_4 (fun h0 => absurd (b2i_n0.mp h0) hc0) (fun _ => ?_)
    refine PW_iconst (v := -1) c_M_go_7 (by decide) ?_
    refine PW_ireturn (ty := .int) c_M_go_8 rfl rfl ?_
    exact h
