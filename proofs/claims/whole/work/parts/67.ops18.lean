set_option maxHeartbeats 4000000 in
theorem op_goodbye {t : Nat} {x y : XS} (hI : INV t x y) (ht : t < 512) : ∃ (r : Int32) (x' y' : XS), INV (t + 1) x' y' ∧ (∀ {z : ZS} {post : Option Value → List PE → Prop}, post (some (.int r)) (E x' y) → PW (90, 0, 0, z) m_G_goodbye post 0 [some (.ref 5)] [] (E x y)) ∧ (∀ {z : ZS} {post : Option Value → List PE → Prop}, post (some (.int r)) (E x' y') → PW (90, 0, 0, z) m_M_goodbye post 0 [some (.ref 70), none] [] (E x' y)) := by
  obtain ⟨hg, hc, ht0, hl, hd, hb, hs⟩ := id hI
  obtain ⟨d1, d2, d3, d4, d5, d6, d7, d8, d9, d10, d11⟩ := id hd
  obtain ⟨T, hT⟩ := lawIs_of hl
  obtain ⟨ra, ra1, ra2, ra3, ra4⟩ := nI_ex d7.2.2.1
  have hra : ra < 5 := by have := d7.2.2.2.1; omega
  obtain ⟨X1, s1, fr1, H1⟩ := sp_V_tell (o := 48) (e := 0) (Or.inr (Or.inr (Or.inr rfl))) hg hT ⟨d2.trans ra2, d1, d3⟩ hra d7.1
  rw [or_0] at s1 H1
  obtain ⟨s11, s12, s13⟩ := s1
  have hmb := mnF_b (T := T) (y := y) (r := nI ra) (m := y.2.1 100 0) (v := telF y (nI ra) (y.2.1 100 0) (y.2.1 100 2))
  have hS := S10_telF (y := y) (r := nI ra) (m := y.2.1 100 0) (told := y.2.1 100 2) hg.1.2
  have hX372 : X1.1 372 = x.1 372 := fr1.1 372 (by decide) (by decide) (by decide) (by decide)

  by_cases hD : telF y (nI ra) (y.2.1 100 0) (y.2.1 100 2) = 0
  · refine ⟨0, sI X1 372 ((X1.1 372) + 0), y, ?_, fun {z post} h => ?_, fun {z post} h => ?_⟩
    · have hm0 : mnF T y (nI ra) (y.2.1 100 0) (telF y (nI ra) (y.2.1 100 0) (y.2.1 100 2)) = 0 := if_pos hD
      rw [hm0] at s12
      rw [hD, or_0] at s13
      refine INV_d hI ⟨?_, ?_, ?_, ?_, ?_, ?_, okd_up (Nat.le_succ _) d7, fun i hi => ?_, okd_up (Nat.le_succ _) d9, ?_, d11⟩ (fun n q => by rw [sI_n (by omega)]; exact fr1.1 n (by omega) (by omega) (by omega) (by omega)) (fun a q => fr1.2.1 a (by omega) (by omega)) fr1.2.2 (fun _ _ => rfl) (fun _ _ => rfl) rfl
      · rw [sI_n (by decide)]; exact s12.trans (Int32.add_zero _)
      · rw [sI_n (by decide), ra2]; exact s11
      · rw [sI_n (by decide)]; exact s13
      · rw [sI_s, hX372, d4]; exact Int32.add_zero _
      · rw [sI_n (by decide), fr1.1 373 (by decide) (by decide) (by decide) (by decide)]; exact d5
      · rw [sI_n (by decide), fr1.1 374 (by decide) (by decide) (by decide) (by decide)]; exact d6
      · rw [sI_A, fr1.2.1 47 (by decide) (by decide)]; exact d8 i hi
      · rw [sI_n (by decide), fr1.1 371 (by decide) (by decide) (by decide) (by decide)]; exact d10
    · refine PW.deeper (k := (6, 0, 0, z)) (Nat.le_of_ble_eq_true rfl) (Nat.le_refl _) (Nat.le_refl _) ?_
      refine PW_aload_n c_G_goodbye_0 rfl ?_
      refine PW_get (v := .ref 46) c_G_goodbye_1 fl_G_65 (gf_5_7 _ _) ?_
      refine PW_V0 (d2 := 5) (st := []) [] c_G_goodbye_4 lk_G_goodbye_264 (po_46 _ _) rfl rfl rfl (Nat.le_of_ble_eq_true rfl) (by first | decide | omega) (Nat.le_of_ble_eq_true rfl) ?_
      show PW _ _ _ 0 [some (.ref 46), none] [] (E x y)
      refine PW_aload_n c_E_tellAll_0 rfl ?_
      refine PW_get (v := .ref 48) c_E_tellAll_1 fl_E_24 (gf_46_1 _ _) ?_
      refine PW_iconst (v := 0) c_E_tellAll_4 (by decide) ?_
      refine PW_V0 (d2 := 4) (st := []) [.int 0] c_E_tellAll_5 lk_E_tellAll_36 (po_48 _ _) rfl rfl rfl (Nat.le_of_ble_eq_true rfl) (by first | decide | omega) (Nat.le_of_ble_eq_true rfl) ?_
      refine H1 ?_
      show PW _ _ _ 8 [some (.ref 46), none] [.int (telF y (nI ra) (y.2.1 100 0) (y.2.1 100 2))] (E X1 y)
      refine PW_istore_n (i := 1) (L2 := [some (.ref 46), some (.int (telF y (nI ra) (y.2.1 100 0) (y.2.1 100 2)))]) c_E_tellAll_8 rfl (Nat.le_of_ble_eq_true rfl) rfl rfl ?_
      refine PW_aload_n c_E_tellAll_9 rfl ?_
      refine PW_dup c_E_tellAll_10 rfl ?_
      refine PW_get (v := .int (X1.1 372)) c_E_tellAll_11 fl_E_40 (gf_46_4 _ _) ?_
      refine PW_iload_n c_E_tellAll_14 rfl ?_
      refine PW_if_ne c_E_tellAll_15 (fun h0 => absurd h0 (not_not_intro hD)) (fun h0 => ?_)
      refine PW_iconst (v := 0) c_E_tellAll_18 (by decide) ?_
      refine PW_goto c_E_tellAll_19 ?_
      refine PW_iadd c_E_tellAll_23 ?_
      refine PW_put (w2 := E (sI X1 372 ((X1.1 372) + 0)) y) c_E_tellAll_24 fp_E_tellAll_40 rfl (pf_46_4 _ _ _) ?_
      refine PW_iload_n c_E_tellAll_27 rfl ?_
      refine PW_ireturn (ty := .int) c_E_tellAll_28 rfl rfl ?_
      show PW _ _ _ 7 [some (.ref 5)] [.int (telF y (nI ra) (y.2.1 100 0) (y.2.1 100 2))] (E (sI X1 372 ((X1.1 372) + 0)) y)
      refine PW_ireturn (ty := .int) c_G_goodbye_7 rfl rfl ?_
      exact pqi h hD.symm
    · refine PW.deeper (k := (4, 0, 0, z)) (Nat.le_of_ble_eq_true rfl) (Nat.le_refl _) (Nat.le_refl _) ?_
      refine PW_aload_n c_M_goodbye_0 rfl ?_
      refine PW_aload_n c_M_goodbye_1 rfl ?_
      refine PW_get (v := .ref 100) c_M_goodbye_2 fl_M_99 (gf_70_46 _ _) ?_
      refine PW_iconst (v := 1) c_M_goodbye_5 (by decide) ?_
      refine PW_iald (j := 1) c_M_goodbye_6 (ar_100 _ _) (vp_in_iff.mpr (by decide)) rfl ?_
      show PW _ _ _ 7 [some (.ref 70), none] [.int ((y.2.1 100) 1), .ref 70] (E (sI X1 372 ((X1.1 372) + 0)) y)
      refine PW_aload_n c_M_goodbye_7 rfl ?_
      refine PW_get (v := .ref 100) c_M_goodbye_8 fl_M_99 (gf_70_46 _ _) ?_
      refine PW_iconst (v := 0) c_M_goodbye_11 (by decide) ?_
      refine PW_iald (j := 0) c_M_goodbye_12 (ar_100 _ _) (vp_in_iff.mpr (by decide)) rfl ?_
      show PW _ _ _ 13 [some (.ref 70), none] [.int ((y.2.1 100) 0), .int ((y.2.1 100) 1), .ref 70] (E (sI X1 372 ((X1.1 372) + 0)) y)
      refine PW_aload_n c_M_goodbye_13 rfl ?_
      refine PW_get (v := .ref 100) c_M_goodbye_14 fl_M_99 (gf_70_46 _ _) ?_
      refine PW_iconst (v := 2) c_M_goodbye_17 (by decide) ?_
      refine PW_iald (j := 2) c_M_goodbye_18 (ar_100 _ _) (vp_in_iff.mpr (by decide)) rfl ?_
      show PW _ _ _ 19 [some (.ref 70), none] [.int ((y.2.1 100) 2), .int ((y.2.1 100) 0), .int ((y.2.1 100) 1), .ref 70] (E (sI X1 372 ((X1.1 372) + 0)) y)
      refine PW_V0 (d2 := 2) (st := []) [.int ((y.2.1 100) 1), .int ((y.2.1 100) 0), .int ((y.2.1 100) 2)] c_M_goodbye_19 lk_M_goodbye_277 (po_70 _ _) rfl rfl rfl (Nat.le_of_ble_eq_true rfl) (by first | decide | omega) (Nat.le_of_ble_eq_true rfl) ?_
      refine sp_M_tells1 hg.1 ?_
      show PW _ _ _ 22 [some (.ref 70), none] [.int (telF y ((y.2.1 100) 1) ((y.2.1 100) 0) ((y.2.1 100) 2))] (E (sI X1 372 ((X1.1 372) + 0)) y)
      refine PW_istore_n (i := 1) (L2 := [some (.ref 70), some (.int (telF y ((y.2.1 100) 1) ((y.2.1 100) 0) ((y.2.1 100) 2)))]) c_M_goodbye_22 rfl (Nat.le_of_ble_eq_true rfl) rfl rfl ?_
      refine PW_iload_n c_M_goodbye_23 rfl ?_
      refine PW_if_ne c_M_goodbye_24 (fun h0 => absurd h0 (not_not_intro (by rw [ra2]; exact hD))) (fun h0 => ?_)
      refine PW_iconst (v := 0) c_M_goodbye_27 (by decide) ?_
      refine PW_ireturn (ty := .int) c_M_goodbye_28 rfl rfl ?_
      exact h
  obtain ⟨Y1, ⟨e1, e2, e3⟩, H2⟩ := sp_M_takes1 (T := T) (x0 := x) (y := y) (r := y.2.1 100 1) (m := y.2.1 100 0) (v := telF y (y.2.1 100 1) (y.2.1 100 0) (y.2.1 100 2)) hg.1 (S10_telF hg.1.2) hT
  have hY : Y1.2.1 100 = y.2.1 100 := e2 100 (by decide) (by decide)
  have hY1 : Y1.2.1 101 = y.2.1 101 := e2 101 (by decide) (by decide)
  refine ⟨telF y (nI ra) (y.2.1 100 0) (y.2.1 100 2), sI X1 372 ((X1.1 372) + 1), sA (sA (sA Y1 100 (upd (Y1.2.1 100) 0 (((y.2.1 100) 0) + (mnF T y (y.2.1 100 1) (y.2.1 100 0) (telF y (y.2.1 100 1) (y.2.1 100 0) (y.2.1 100 2)))))) 100 (upd (upd (Y1.2.1 100) 0 (((y.2.1 100) 0) + (mnF T y (y.2.1 100 1) (y.2.1 100 0) (telF y (y.2.1 100 1) (y.2.1 100 0) (y.2.1 100 2))))) 2 (((upd (Y1.2.1 100) 0 (((y.2.1 100) 0) + (mnF T y (y.2.1 100 1) (y.2.1 100 0) (telF y (y.2.1 100 1) (y.2.1 100 0) (y.2.1 100 2))))) 2) ||| (telF y ((y.2.1 100) 1) ((y.2.1 100) 0) ((y.2.1 100) 2))))) 100 (upd (upd (upd (Y1.2.1 100) 0 (((y.2.1 100) 0) + (mnF T y (y.2.1 100 1) (y.2.1 100 0) (telF y (y.2.1 100 1) (y.2.1 100 0) (y.2.1 100 2))))) 2 (((upd (Y1.2.1 100) 0 (((y.2.1 100) 0) + (mnF T y (y.2.1 100 1) (y.2.1 100 0) (telF y (y.2.1 100 1) (y.2.1 100 0) (y.2.1 100 2))))) 2) ||| (telF y ((y.2.1 100) 1) ((y.2.1 100) 0) ((y.2.1 100) 2)))) 3 (((upd (upd (Y1.2.1 100) 0 (((y.2.1 100) 0) + (mnF T y (y.2.1 100 1) (y.2.1 100 0) (telF y (y.2.1 100 1) (y.2.1 100 0) (y.2.1 100 2))))) 2 (((upd (Y1.2.1 100) 0 (((y.2.1 100) 0) + (mnF T y (y.2.1 100 1) (y.2.1 100 0) (telF y (y.2.1 100 1) (y.2.1 100 0) (y.2.1 100 2))))) 2) ||| (telF y ((y.2.1 100) 1) ((y.2.1 100) 0) ((y.2.1 100) 2)))) 3) + 1)), ?_, fun {z post} h => ?_, fun {z post} h => ?_⟩
  · have hadd := ti_add (x := y.2.1 100 0) (y := mnF T y (nI ra) (y.2.1 100 0) (telF y (nI ra) (y.2.1 100 0) (y.2.1 100 2))) (by have := d7.1; omega) (by have := d7.2.1; omega)
    have r0 : (upd (upd (upd (Y1.2.1 100) 0 (y.2.1 100 0 + mnF T y (y.2.1 100 1) (y.2.1 100 0) (telF y (y.2.1 100 1) (y.2.1 100 0) (y.2.1 100 2)))) 2 ((upd (Y1.2.1 100) 0 (y.2.1 100 0 + mnF T y (y.2.1 100 1) (y.2.1 100 0) (telF y (y.2.1 100 1) (y.2.1 100 0) (y.2.1 100 2)))) 2 ||| telF y (y.2.1 100 1) (y.2.1 100 0) (y.2.1 100 2))) 3 ((upd (upd (Y1.2.1 100) 0 (y.2.1 100 0 + mnF T y (y.2.1 100 1) (y.2.1 100 0) (telF y (y.2.1 100 1) (y.2.1 100 0) (y.2.1 100 2)))) 2 ((upd (Y1.2.1 100) 0 (y.2.1 100 0 + mnF T y (y.2.1 100 1) (y.2.1 100 0) (telF y (y.2.1 100 1) (y.2.1 100 0) (y.2.1 100 2)))) 2 ||| telF y (y.2.1 100 1) (y.2.1 100 0) (y.2.1 100 2))) 3 + 1)) 0 = y.2.1 100 0 + mnF T y (nI ra) (y.2.1 100 0) (telF y (nI ra) (y.2.1 100 0) (y.2.1 100 2)) := by show y.2.1 100 0 + mnF T y (y.2.1 100 1) (y.2.1 100 0) (telF y (y.2.1 100 1) (y.2.1 100 0) (y.2.1 100 2)) = _; rw [ra2]
    have r1 : (upd (upd (upd (Y1.2.1 100) 0 (y.2.1 100 0 + mnF T y (y.2.1 100 1) (y.2.1 100 0) (telF y (y.2.1 100 1) (y.2.1 100 0) (y.2.1 100 2)))) 2 ((upd (Y1.2.1 100) 0 (y.2.1 100 0 + mnF T y (y.2.1 100 1) (y.2.1 100 0) (telF y (y.2.1 100 1) (y.2.1 100 0) (y.2.1 100 2)))) 2 ||| telF y (y.2.1 100 1) (y.2.1 100 0) (y.2.1 100 2))) 3 ((upd (upd (Y1.2.1 100) 0 (y.2.1 100 0 + mnF T y (y.2.1 100 1) (y.2.1 100 0) (telF y (y.2.1 100 1) (y.2.1 100 0) (y.2.1 100 2)))) 2 ((upd (Y1.2.1 100) 0 (y.2.1 100 0 + mnF T y (y.2.1 100 1) (y.2.1 100 0) (telF y (y.2.1 100 1) (y.2.1 100 0) (y.2.1 100 2)))) 2 ||| telF y (y.2.1 100 1) (y.2.1 100 0) (y.2.1 100 2))) 3 + 1)) 1 = nI ra := by show Y1.2.1 100 1 = _; rw [hY, ra2]
    have r2 : (upd (upd (upd (Y1.2.1 100) 0 (y.2.1 100 0 + mnF T y (y.2.1 100 1) (y.2.1 100 0) (telF y (y.2.1 100 1) (y.2.1 100 0) (y.2.1 100 2)))) 2 ((upd (Y1.2.1 100) 0 (y.2.1 100 0 + mnF T y (y.2.1 100 1) (y.2.1 100 0) (telF y (y.2.1 100 1) (y.2.1 100 0) (y.2.1 100 2)))) 2 ||| telF y (y.2.1 100 1) (y.2.1 100 0) (y.2.1 100 2))) 3 ((upd (upd (Y1.2.1 100) 0 (y.2.1 100 0 + mnF T y (y.2.1 100 1) (y.2.1 100 0) (telF y (y.2.1 100 1) (y.2.1 100 0) (y.2.1 100 2)))) 2 ((upd (Y1.2.1 100) 0 (y.2.1 100 0 + mnF T y (y.2.1 100 1) (y.2.1 100 0) (telF y (y.2.1 100 1) (y.2.1 100 0) (y.2.1 100 2)))) 2 ||| telF y (y.2.1 100 1) (y.2.1 100 0) (y.2.1 100 2))) 3 + 1)) 2 = y.2.1 100 2 ||| (telF y (nI ra) (y.2.1 100 0) (y.2.1 100 2)) := by show (Y1.2.1 100 2 ||| telF y (y.2.1 100 1) (y.2.1 100 0) (y.2.1 100 2)) = _; rw [hY, ra2]
    have r3 : (upd (upd (upd (Y1.2.1 100) 0 (y.2.1 100 0 + mnF T y (y.2.1 100 1) (y.2.1 100 0) (telF y (y.2.1 100 1) (y.2.1 100 0) (y.2.1 100 2)))) 2 ((upd (Y1.2.1 100) 0 (y.2.1 100 0 + mnF T y (y.2.1 100 1) (y.2.1 100 0) (telF y (y.2.1 100 1) (y.2.1 100 0) (y.2.1 100 2)))) 2 ||| telF y (y.2.1 100 1) (y.2.1 100 0) (y.2.1 100 2))) 3 ((upd (upd (Y1.2.1 100) 0 (y.2.1 100 0 + mnF T y (y.2.1 100 1) (y.2.1 100 0) (telF y (y.2.1 100 1) (y.2.1 100 0) (y.2.1 100 2)))) 2 ((upd (Y1.2.1 100) 0 (y.2.1 100 0 + mnF T y (y.2.1 100 1) (y.2.1 100 0) (telF y (y.2.1 100 1) (y.2.1 100 0) (y.2.1 100 2)))) 2 ||| telF y (y.2.1 100 1) (y.2.1 100 0) (y.2.1 100 2))) 3 + 1)) 3 = y.2.1 100 3 + 1 := by show Y1.2.1 100 3 + 1 = _; rw [hY]
    have r4 : (upd (upd (upd (Y1.2.1 100) 0 (y.2.1 100 0 + mnF T y (y.2.1 100 1) (y.2.1 100 0) (telF y (y.2.1 100 1) (y.2.1 100 0) (y.2.1 100 2)))) 2 ((upd (Y1.2.1 100) 0 (y.2.1 100 0 + mnF T y (y.2.1 100 1) (y.2.1 100 0) (telF y (y.2.1 100 1) (y.2.1 100 0) (y.2.1 100 2)))) 2 ||| telF y (y.2.1 100 1) (y.2.1 100 0) (y.2.1 100 2))) 3 ((upd (upd (Y1.2.1 100) 0 (y.2.1 100 0 + mnF T y (y.2.1 100 1) (y.2.1 100 0) (telF y (y.2.1 100 1) (y.2.1 100 0) (y.2.1 100 2)))) 2 ((upd (Y1.2.1 100) 0 (y.2.1 100 0 + mnF T y (y.2.1 100 1) (y.2.1 100 0) (telF y (y.2.1 100 1) (y.2.1 100 0) (y.2.1 100 2)))) 2 ||| telF y (y.2.1 100 1) (y.2.1 100 0) (y.2.1 100 2))) 3 + 1)) 4 = y.2.1 100 4 := by show Y1.2.1 100 4 = _; rw [hY]
    have r5 : (upd (upd (upd (Y1.2.1 100) 0 (y.2.1 100 0 + mnF T y (y.2.1 100 1) (y.2.1 100 0) (telF y (y.2.1 100 1) (y.2.1 100 0) (y.2.1 100 2)))) 2 ((upd (Y1.2.1 100) 0 (y.2.1 100 0 + mnF T y (y.2.1 100 1) (y.2.1 100 0) (telF y (y.2.1 100 1) (y.2.1 100 0) (y.2.1 100 2)))) 2 ||| telF y (y.2.1 100 1) (y.2.1 100 0) (y.2.1 100 2))) 3 ((upd (upd (Y1.2.1 100) 0 (y.2.1 100 0 + mnF T y (y.2.1 100 1) (y.2.1 100 0) (telF y (y.2.1 100 1) (y.2.1 100 0) (y.2.1 100 2)))) 2 ((upd (Y1.2.1 100) 0 (y.2.1 100 0 + mnF T y (y.2.1 100 1) (y.2.1 100 0) (telF y (y.2.1 100 1) (y.2.1 100 0) (y.2.1 100 2)))) 2 ||| telF y (y.2.1 100 1) (y.2.1 100 0) (y.2.1 100 2))) 3 + 1)) 5 = y.2.1 100 5 := by show Y1.2.1 100 5 = _; rw [hY]
    have q3 := d7.2.2.2.2.2 3 (by omega) (by omega)
    have q4 := d7.2.2.2.2.2 4 (by omega) (by omega)
    have q5 := d7.2.2.2.2.2 5 (by omega) (by omega)
    rw [sA_sA, sA_sA]
    refine INV_d hI ⟨?_, ?_, ?_, ?_, ?_, ?_, ⟨?_, ?_, ?_, ?_, ?_, fun i h1 h2 => ?_⟩, fun i hi => ?_, ?_, ?_, ?_⟩ (fun n q => by rw [sI_n (by omega)]; exact fr1.1 n (by omega) (by omega) (by omega) (by omega)) (fun a q => fr1.2.1 a (by omega) (by omega)) fr1.2.2 (fun n _ => by rw [sA_1, e1]) (fun a q => by rw [sA_A, if_neg (by omega)]; exact e2 a (by omega) (by omega)) e3
    · rw [sI_n (by decide), sA_at, r0]; exact s12
    · rw [sI_n (by decide), sA_at, r1]; exact s11
    · rw [sI_n (by decide), sA_at, r2]; exact s13
    · rw [sI_s, sA_at, r3, hX372, d4]
    · rw [sI_n (by decide), fr1.1 373 (by decide) (by decide) (by decide) (by decide), sA_at, r4]; exact d5
    · rw [sI_n (by decide), fr1.1 374 (by decide) (by decide) (by decide) (by decide), sA_at, r5]; exact d6
    · rw [sA_at, r0, hadd]; have := d7.1; omega
    · rw [sA_at, r0, hadd]; have := d7.2.1; omega
    · rw [sA_at, r1, nI_toInt (by omega)]; omega
    · rw [sA_at, r1, nI_toInt (by omega)]; omega
    · rw [sA_at, r2]; exact S10_or d7.2.2.2.2.1 hS
    · rw [sA_at]
      rcases (show i = 3 ∨ i = 4 ∨ i = 5 by omega) with rfl | rfl | rfl
      · rw [r3, ti_add (by simp only [tiA]; omega) (by simp only [tiA]; omega)]; simp only [tiA]; omega
      · rw [r4]; omega
      · rw [r5]; omega
    · rw [sI_A, fr1.2.1 47 (by decide) (by decide), sA_A, if_neg (by decide), hY1]; exact d8 i hi
    · rw [sA_A, if_neg (by decide), hY1]; exact okd_up (Nat.le_succ _) d9
    · rw [sI_n (by decide), fr1.1 371 (by decide) (by decide) (by decide) (by decide), sA_1, e1]; exact d10
    · rw [sA_1, e1]; exact d11
  · refine PW.deeper (k := (6, 0, 0, z)) (Nat.le_of_ble_eq_true rfl) (Nat.le_refl _) (Nat.le_refl _) ?_
    refine PW_aload_n c_G_goodbye_0 rfl ?_
    refine PW_get (v := .ref 46) c_G_goodbye_1 fl_G_65 (gf_5_7 _ _) ?_
    refine PW_V0 (d2 := 5) (st := []) [] c_G_goodbye_4 lk_G_goodbye_264 (po_46 _ _) rfl rfl rfl (Nat.le_of_ble_eq_true rfl) (by first | decide | omega) (Nat.le_of_ble_eq_true rfl) ?_
    show PW _ _ _ 0 [some (.ref 46), none] [] (E x y)
    refine PW_aload_n c_E_tellAll_0 rfl ?_
    refine PW_get (v := .ref 48) c_E_tellAll_1 fl_E_24 (gf_46_1 _ _) ?_
    refine PW_iconst (v := 0) c_E_tellAll_4 (by decide) ?_
    refine PW_V0 (d2 := 4) (st := []) [.int 0] c_E_tellAll_5 lk_E_tellAll_36 (po_48 _ _) rfl rfl rfl (Nat.le_of_ble_eq_true rfl) (by first | decide | omega) (Nat.le_of_ble_eq_true rfl) ?_
    refine H1 ?_
    show PW _ _ _ 8 [some (.ref 46), none] [.int (telF y (nI ra) (y.2.1 100 0) (y.2.1 100 2))] (E X1 y)
    refine PW_istore_n (i := 1) (L2 := [some (.ref 46), some (.int (telF y (nI ra) (y.2.1 100 0) (y.2.1 100 2)))]) c_E_tellAll_8 rfl (Nat.le_of_ble_eq_true rfl) rfl rfl ?_
    refine PW_aload_n c_E_tellAll_9 rfl ?_
    refine PW_dup c_E_tellAll_10 rfl ?_
    refine PW_get (v := .int (X1.1 372)) c_E_tellAll_11 fl_E_40 (gf_46_4 _ _) ?_
    refine PW_iload_n c_E_tellAll_14 rfl ?_
    refine PW_if_ne c_E_tellAll_15 (fun h0 => ?_) (fun h0 => absurd h0 hD)
    refine PW_iconst (v := 1) c_E_tellAll_22 (by decide) ?_
    refine PW_iadd c_E_tellAll_23 ?_
    refine PW_put (w2 := E (sI X1 372 ((X1.1 372) + 1)) y) c_E_tellAll_24 fp_E_tellAll_40 rfl (pf_46_4 _ _ _) ?_
    refine PW_iload_n c_E_tellAll_27 rfl ?_
    refine PW_ireturn (ty := .int) c_E_tellAll_28 rfl rfl ?_
    show PW _ _ _ 7 [some (.ref 5)] [.int (telF y (nI ra) (y.2.1 100 0) (y.2.1 100 2))] (E (sI X1 372 ((X1.1 372) + 1)) y)
    refine PW_ireturn (ty := .int) c_G_goodbye_7 rfl rfl ?_
    exact h
  · refine PW.deeper (k := (4, 0, 0, z)) (Nat.le_of_ble_eq_true rfl) (Nat.le_refl _) (Nat.le_refl _) ?_
    refine PW_aload_n c_M_goodbye_0 rfl ?_
    refine PW_aload_n c_M_goodbye_1 rfl ?_
    refine PW_get (v := .ref 100) c_M_goodbye_2 fl_M_99 (gf_70_46 _ _) ?_
    refine PW_iconst (v := 1) c_M_goodbye_5 (by decide) ?_
    refine PW_iald (j := 1) c_M_goodbye_6 (ar_100 _ _) (vp_in_iff.mpr (by decide)) rfl ?_
    show PW _ _ _ 7 [some (.ref 70), none] [.int ((y.2.1 100) 1), .ref 70] (E (sI X1 372 ((X1.1 372) + 1)) y)
    refine PW_aload_n c_M_goodbye_7 rfl ?_
    refine PW_get (v := .ref 100) c_M_goodbye_8 fl_M_99 (gf_70_46 _ _) ?_
    refine PW_iconst (v := 0) c_M_goodbye_11 (by decide) ?_
    refine PW_iald (j := 0) c_M_goodbye_12 (ar_100 _ _) (vp_in_iff.mpr (by decide)) rfl ?_
    show PW _ _ _ 13 [some (.ref 70), none] [.int ((y.2.1 100) 0), .int ((y.2.1 100) 1), .ref 70] (E (sI X1 372 ((X1.1 372) + 1)) y)
    refine PW_aload_n c_M_goodbye_13 rfl ?_
    refine PW_get (v := .ref 100) c_M_goodbye_14 fl_M_99 (gf_70_46 _ _) ?_
    refine PW_iconst (v := 2) c_M_goodbye_17 (by decide) ?_
    refine PW_iald (j := 2) c_M_goodbye_18 (ar_100 _ _) (vp_in_iff.mpr (by decide)) rfl ?_
    show PW _ _ _ 19 [some (.ref 70), none] [.int ((y.2.1 100) 2), .int ((y.2.1 100) 0), .int ((y.2.1 100) 1), .ref 70] (E (sI X1 372 ((X1.1 372) + 1)) y)
    refine PW_V0 (d2 := 2) (st := []) [.int ((y.2.1 100) 1), .int ((y.2.1 100) 0), .int ((y.2.1 100) 2)] c_M_goodbye_19 lk_M_goodbye_277 (po_70 _ _) rfl rfl rfl (Nat.le_of_ble_eq_true rfl) (by first | decide | omega) (Nat.le_of_ble_eq_true rfl) ?_
    refine sp_M_tells1 hg.1 ?_
    show PW _ _ _ 22 [some (.ref 70), none] [.int (telF y ((y.2.1 100) 1) ((y.2.1 100) 0) ((y.2.1 100) 2))] (E (sI X1 372 ((X1.1 372) + 1)) y)
    refine PW_istore_n (i := 1) (L2 := [some (.ref 70), some (.int (telF y ((y.2.1 100) 1) ((y.2.1 100) 0) ((y.2.1 100) 2)))]) c_M_goodbye_22 rfl (Nat.le_of_ble_eq_true rfl) rfl rfl ?_
    refine PW_iload_n c_M_goodbye_23 rfl ?_
    refine PW_if_ne c_M_goodbye_24 (fun h0 => ?_) (fun h0 => absurd h0 (by rw [ra2]; exact hD))
    refine PW_aload_n c_M_goodbye_29 rfl ?_
    refine PW_get (v := .ref 100) c_M_goodbye_30 fl_M_99 (gf_70_46 _ _) ?_
    refine PW_iconst (v := 0) c_M_goodbye_33 (by decide) ?_
    refine PW_dup2 c_M_goodbye_34 rfl rfl ?_
    refine PW_iald (j := 0) c_M_goodbye_35 (ar_100 _ _) (vp_in_iff.mpr (by decide)) rfl ?_
    show PW _ _ _ 36 [some (.ref 70), some (.int (telF y ((y.2.1 100) 1) ((y.2.1 100) 0) ((y.2.1 100) 2)))] [.int ((y.2.1 100) 0), .int 0, .ref 100] (E (sI X1 372 ((X1.1 372) + 1)) y)
    refine PW_aload_n c_M_goodbye_36 rfl ?_
    refine PW_aload_n c_M_goodbye_37 rfl ?_
    refine PW_get (v := .ref 100) c_M_goodbye_38 fl_M_99 (gf_70_46 _ _) ?_
    refine PW_iconst (v := 1) c_M_goodbye_41 (by decide) ?_
    refine PW_iald (j := 1) c_M_goodbye_42 (ar_100 _ _) (vp_in_iff.mpr (by decide)) rfl ?_
    show PW _ _ _ 43 [some (.ref 70), some (.int (telF y ((y.2.1 100) 1) ((y.2.1 100) 0) ((y.2.1 100) 2)))] [.int ((y.2.1 100) 1), .ref 70, .int ((y.2.1 100) 0), .int 0, .ref 100] (E (sI X1 372 ((X1.1 372) + 1)) y)
    refine PW_aload_n c_M_goodbye_43 rfl ?_
    refine PW_get (v := .ref 100) c_M_goodbye_44 fl_M_99 (gf_70_46 _ _) ?_
    refine PW_iconst (v := 0) c_M_goodbye_47 (by decide) ?_
    refine PW_iald (j := 0) c_M_goodbye_48 (ar_100 _ _) (vp_in_iff.mpr (by decide)) rfl ?_
    show PW _ _ _ 49 [some (.ref 70), some (.int (telF y ((y.2.1 100) 1) ((y.2.1 100) 0) ((y.2.1 100) 2)))] [.int ((y.2.1 100) 0), .int ((y.2.1 100) 1), .ref 70, .int ((y.2.1 100) 0), .int 0, .ref 100] (E (sI X1 372 ((X1.1 372) + 1)) y)
    refine PW_iload_n c_M_goodbye_49 rfl ?_
    refine PW_V0 (d2 := 3) (st := [.int ((y.2.1 100) 0), .int 0, .ref 100]) [.int ((y.2.1 100) 1), .int ((y.2.1 100) 0), .int (telF y ((y.2.1 100) 1) ((y.2.1 100) 0) ((y.2.1 100) 2))] c_M_goodbye_50 lk_M_goodbye_280 (po_70 _ _) rfl rfl rfl (Nat.le_of_ble_eq_true rfl) (by first | decide | omega) (Nat.le_of_ble_eq_true rfl) ?_
    refine H2 ?_
    show PW _ _ _ 53 [some (.ref 70), some (.int (telF y ((y.2.1 100) 1) ((y.2.1 100) 0) ((y.2.1 100) 2)))] [.int (mnF T y (y.2.1 100 1) (y.2.1 100 0) (telF y (y.2.1 100 1) (y.2.1 100 0) (y.2.1 100 2))), .int ((y.2.1 100) 0), .int 0, .ref 100] (E (sI X1 372 ((X1.1 372) + 1)) Y1)
    refine PW_iadd c_M_goodbye_53 ?_
    refine PW_iast (j := 0) (w2 := E (sI X1 372 ((X1.1 372) + 1)) (sA Y1 100 (upd (Y1.2.1 100) 0 (((y.2.1 100) 0) + (mnF T y (y.2.1 100 1) (y.2.1 100 0) (telF y (y.2.1 100 1) (y.2.1 100 0) (y.2.1 100 2))))))) c_M_goodbye_54 (ar_100 _ _) (vp_in_iff.mpr (by decide)) rfl (aw_100 _ _ _) ?_
    refine PW_aload_n c_M_goodbye_55 rfl ?_
    refine PW_get (v := .ref 100) c_M_goodbye_56 fl_M_99 (gf_70_46 _ _) ?_
    refine PW_iconst (v := 2) c_M_goodbye_59 (by decide) ?_
    refine PW_dup2 c_M_goodbye_60 rfl rfl ?_
    refine PW_iald (j := 2) c_M_goodbye_61 (ar_100 _ _) (vp_in_iff.mpr (by decide)) rfl ?_
    show PW _ _ _ 62 [some (.ref 70), some (.int (telF y ((y.2.1 100) 1) ((y.2.1 100) 0) ((y.2.1 100) 2)))] [.int ((upd (Y1.2.1 100) 0 (((y.2.1 100) 0) + (mnF T y (y.2.1 100 1) (y.2.1 100 0) (telF y (y.2.1 100 1) (y.2.1 100 0) (y.2.1 100 2))))) 2), .int 2, .ref 100] (E (sI X1 372 ((X1.1 372) + 1)) (sA Y1 100 (upd (Y1.2.1 100) 0 (((y.2.1 100) 0) + (mnF T y (y.2.1 100 1) (y.2.1 100 0) (telF y (y.2.1 100 1) (y.2.1 100 0) (y.2.1 100 2)))))))
    refine PW_iload_n c_M_goodbye_62 rfl ?_
    refine PW_ior c_M_goodbye_63 ?_
    refine PW_iast (j := 2) (w2 := E (sI X1 372 ((X1.1 372) + 1)) (sA (sA Y1 100 (upd (Y1.2.1 100) 0 (((y.2.1 100) 0) + (mnF T y (y.2.1 100 1) (y.2.1 100 0) (telF y (y.2.1 100 1) (y.2.1 100 0) (y.2.1 100 2)))))) 100 (upd (upd (Y1.2.1 100) 0 (((y.2.1 100) 0) + (mnF T y (y.2.1 100 1) (y.2.1 100 0) (telF y (y.2.1 100 1) (y.2.1 100 0) (y.2.1 100 2))))) 2 (((upd (Y1.2.1 100) 0 (((y.2.1 100) 0) + (mnF T y (y.2.1 100 1) (y.2.1 100 0) (telF y (y.2.1 100 1) (y.2.1 100 0) (y.2.1 100 2))))) 2) ||| (telF y ((y.2.1 100) 1) ((y.2.1 100) 0) ((y.2.1 100) 2)))))) c_M_goodbye_64 (ar_100 _ _) (vp_in_iff.mpr (by decide)) rfl (aw_100 _ _ _) ?_
    refine PW_aload_n c_M_goodbye_65 rfl ?_
    refine PW_get (v := .ref 100) c_M_goodbye_66 fl_M_99 (gf_70_46 _ _) ?_
    refine PW_iconst (v := 3) c_M_goodbye_69 (by decide) ?_
    refine PW_dup2 c_M_goodbye_70 rfl rfl ?_
    refine PW_iald (j := 3) c_M_goodbye_71 (ar_100 _ _) (vp_in_iff.mpr (by decide)) rfl ?_
    show PW _ _ _ 72 [some (.ref 70), some (.int (telF y ((y.2.1 100) 1) ((y.2.1 100) 0) ((y.2.1 100) 2)))] [.int ((upd (upd (Y1.2.1 100) 0 (((y.2.1 100) 0) + (mnF T y (y.2.1 100 1) (y.2.1 100 0) (telF y (y.2.1 100 1) (y.2.1 100 0) (y.2.1 100 2))))) 2 (((upd (Y1.2.1 100) 0 (((y.2.1 100) 0) + (mnF T y (y.2.1 100 1) (y.2.1 100 0) (telF y (y.2.1 100 1) (y.2.1 100 0) (y.2.1 100 2))))) 2) ||| (telF y ((y.2.1 100) 1) ((y.2.1 100) 0) ((y.2.1 100) 2)))) 3), .int 3, .ref 100] (E (sI X1 372 ((X1.1 372) + 1)) (sA (sA Y1 100 (upd (Y1.2.1 100) 0 (((y.2.1 100) 0) + (mnF T y (y.2.1 100 1) (y.2.1 100 0) (telF y (y.2.1 100 1) (y.2.1 100 0) (y.2.1 100 2)))))) 100 (upd (upd (Y1.2.1 100) 0 (((y.2.1 100) 0) + (mnF T y (y.2.1 100 1) (y.2.1 100 0) (telF y (y.2.1 100 1) (y.2.1 100 0) (y.2.1 100 2))))) 2 (((upd (Y1.2.1 100) 0 (((y.2.1 100) 0) + (mnF T y (y.2.1 100 1) (y.2.1 100 0) (telF y (y.2.1 100 1) (y.2.1 100 0) (y.2.1 100 2))))) 2) ||| (telF y ((y.2.1 100) 1) ((y.2.1 100) 0) ((y.2.1 100) 2))))))
    refine PW_iconst (v := 1) c_M_goodbye_72 (by decide) ?_
    refine PW_iadd c_M_goodbye_73 ?_
    refine PW_iast (j := 3) (w2 := E (sI X1 372 ((X1.1 372) + 1)) (sA (sA (sA Y1 100 (upd (Y1.2.1 100) 0 (((y.2.1 100) 0) + (mnF T y (y.2.1 100 1) (y.2.1 100 0) (telF y (y.2.1 100 1) (y.2.1 100 0) (y.2.1 100 2)))))) 100 (upd (upd (Y1.2.1 100) 0 (((y.2.1 100) 0) + (mnF T y (y.2.1 100 1) (y.2.1 100 0) (telF y (y.2.1 100 1) (y.2.1 100 0) (y.2.1 100 2))))) 2 (((upd (Y1.2.1 100) 0 (((y.2.1 100) 0) + (mnF T y (y.2.1 100 1) (y.2.1 100 0) (telF y (y.2.1 100 1) (y.2.1 100 0) (y.2.1 100 2))))) 2) ||| (telF y ((y.2.1 100) 1) ((y.2.1 100) 0) ((y.2.1 100) 2))))) 100 (upd (upd (upd (Y1.2.1 100) 0 (((y.2.1 100) 0) + (mnF T y (y.2.1 100 1) (y.2.1 100 0) (telF y (y.2.1 100 1) (y.2.1 100 0) (y.2.1 100 2))))) 2 (((upd (Y1.2.1 100) 0 (((y.2.1 100) 0) + (mnF T y (y.2.1 100 1) (y.2.1 100 0) (telF y (y.2.1 100 1) (y.2.1 100 0) (y.2.1 100 2))))) 2) ||| (telF y ((y.2.1 100) 1) ((y.2.1 100) 0) ((y.2.1 100) 2)))) 3 (((upd (upd (Y1.2.1 100) 0 (((y.2.1 100) 0) + (mnF T y (y.2.1 100 1) (y.2.1 100 0) (telF y (y.2.1 100 1) (y.2.1 100 0) (y.2.1 100 2))))) 2 (((upd (Y1.2.1 100) 0 (((y.2.1 100) 0) + (mnF T y (y.2.1 100 1) (y.2.1 100 0) (telF y (y.2.1 100 1) (y.2.1 100 0) (y.2.1 100 2))))) 2) ||| (telF y ((y.2.1 100) 1) ((y.2.1 100) 0) ((y.2.1 100) 2)))) 3) + 1)))) c_M_goodbye_74 (ar_100 _ _) (vp_in_iff.mpr (by decide)) rfl (aw_100 _ _ _) ?_
    refine PW_iload_n c_M_goodbye_75 rfl ?_
    refine PW_ireturn (ty := .int) c_M_goodbye_76 rfl rfl ?_
    exact pqi h (by rw [ra2])
