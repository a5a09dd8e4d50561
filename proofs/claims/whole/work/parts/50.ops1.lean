set_option maxHeartbeats 4000000 in
theorem op_led {t : Nat} {x y : XS} {a1 : Int32} (hI : INV t x y) (ht : t < 512) : ∃ (r : Int32) (x' y' : XS), INV (t + 1) x' y' ∧ (∀ {z : ZS} {post : Option Value → List PE → Prop}, post (some (.int r)) (E x' y) → PW (90, 0, 0, z) m_G_led post 0 [some (.ref 5), some (.int a1)] [] (E x y)) ∧ (∀ {z : ZS} {post : Option Value → List PE → Prop}, post (some (.int r)) (E x' y') → PW (90, 0, 0, z) m_M_led post 0 [some (.ref 70), some (.int a1)] [] (E x' y)) := by
  obtain ⟨hg, hc, ht0, hl, hd, hb, hs⟩ := id hI
  obtain ⟨d1, d2, d3, d4, d5, d6, d7, d8, d9, d10, d11⟩ := id hd

  by_cases hc0 : 0 ≤ a1 ∧ a1 ≤ 5
  · refine ⟨y.2.1 100 a1.toNatClampNeg, x, y, ?_, fun {z post} h => ?_, fun {z post} h => ?_⟩
    · exact INV_step hI
    · refine PW.deeper (k := (2, 0, 0, z)) (Nat.le_of_ble_eq_true rfl) (Nat.le_refl _) (Nat.le_refl _) ?_
      refine PW_aload_n c_G_led_0 rfl ?_
      refine PW_get (v := .ref 46) c_G_led_1 fl_G_65 (gf_5_7 _ _) ?_
      refine PW_iload_n c_G_led_4 rfl ?_
      refine PW_V0 (d2 := 1) (st := []) [.int a1] c_G_led_5 lk_G_led_277 (po_46 _ _) rfl rfl rfl (Nat.le_of_ble_eq_true rfl) (by first | decide | omega) (Nat.le_of_ble_eq_true rfl) ?_
      show PW _ _ _ 0 [some (.ref 46), some (.int a1)] [] (E x y)
      refine PW_iload_n c_E_told_0 rfl ?_
      by_cases h0 : a1 = 0
      · refine PW_tableIn (tgt := 40) (off := 39) c_E_told_1 (by rw [h0]; decide) (by rw [h0]; decide) (by rw [h0]; rfl) rfl ?_
        refine PW_aload_n c_E_told_40 rfl ?_
        refine PW_get (v := .ref 48) c_E_told_41 fl_E_24 (gf_46_1 _ _) ?_
        refine PW_V0 (d2 := 0) (st := []) [] c_E_told_44 lk_E_told_32 (po_48 _ _) rfl rfl rfl (Nat.le_of_ble_eq_true rfl) (by first | decide | omega) (Nat.le_of_ble_eq_true rfl) ?_
        show PW _ _ _ 0 [some (.ref 48)] [] (E x y)
        refine PW_aload_n c_V_minute_0 rfl ?_
        refine PW_get (v := .int (x.1 387)) c_V_minute_1 fl_V_27 (gf_48_3 _ _) ?_
        refine PW_ireturn (ty := .int) c_V_minute_4 rfl rfl ?_
        show PW _ _ _ 47 [some (.ref 46), some (.int a1)] [.int (x.1 387)] (E x y)
        refine PW_ireturn (ty := .int) c_E_told_47 rfl rfl ?_
        show PW _ _ _ 8 [some (.ref 5), some (.int a1)] [.int (x.1 387)] (E x y)
        refine PW_ireturn (ty := .int) c_G_led_8 rfl rfl ?_
        exact pqi h (by rw [h0]; exact d1.symm)
      by_cases h1 : a1 = 1
      · refine PW_tableIn (tgt := 48) (off := 47) c_E_told_1 (by rw [h1]; decide) (by rw [h1]; decide) (by rw [h1]; rfl) rfl ?_
        refine PW_aload_n c_E_told_48 rfl ?_
        refine PW_get (v := .ref 48) c_E_told_49 fl_E_24 (gf_46_1 _ _) ?_
        refine PW_V0 (d2 := 0) (st := []) [] c_E_told_52 lk_E_told_47 (po_48 _ _) rfl rfl rfl (Nat.le_of_ble_eq_true rfl) (by first | decide | omega) (Nat.le_of_ble_eq_true rfl) ?_
        show PW _ _ _ 0 [some (.ref 48)] [] (E x y)
        refine PW_aload_n c_V_room_0 rfl ?_
        refine PW_get (v := .int (x.1 386)) c_V_room_1 fl_V_23 (gf_48_2 _ _) ?_
        refine PW_ireturn (ty := .int) c_V_room_4 rfl rfl ?_
        show PW _ _ _ 55 [some (.ref 46), some (.int a1)] [.int (x.1 386)] (E x y)
        refine PW_ireturn (ty := .int) c_E_told_55 rfl rfl ?_
        show PW _ _ _ 8 [some (.ref 5), some (.int a1)] [.int (x.1 386)] (E x y)
        refine PW_ireturn (ty := .int) c_G_led_8 rfl rfl ?_
        exact pqi h (by rw [h1]; exact d2.symm)
      by_cases h2 : a1 = 2
      · refine PW_tableIn (tgt := 56) (off := 55) c_E_told_1 (by rw [h2]; decide) (by rw [h2]; decide) (by rw [h2]; rfl) rfl ?_
        refine PW_aload_n c_E_told_56 rfl ?_
        refine PW_get (v := .ref 48) c_E_told_57 fl_E_24 (gf_46_1 _ _) ?_
        refine PW_V0 (d2 := 0) (st := []) [] c_E_told_60 lk_E_told_50 (po_48 _ _) rfl rfl rfl (Nat.le_of_ble_eq_true rfl) (by first | decide | omega) (Nat.le_of_ble_eq_true rfl) ?_
        show PW _ _ _ 0 [some (.ref 48)] [] (E x y)
        refine PW_aload_n c_V_told_0 rfl ?_
        refine PW_get (v := .int (x.1 388)) c_V_told_1 fl_V_30 (gf_48_4 _ _) ?_
        refine PW_ireturn (ty := .int) c_V_told_4 rfl rfl ?_
        show PW _ _ _ 63 [some (.ref 46), some (.int a1)] [.int (x.1 388)] (E x y)
        refine PW_ireturn (ty := .int) c_E_told_63 rfl rfl ?_
        show PW _ _ _ 8 [some (.ref 5), some (.int a1)] [.int (x.1 388)] (E x y)
        refine PW_ireturn (ty := .int) c_G_led_8 rfl rfl ?_
        exact pqi h (by rw [h2]; exact d3.symm)
      by_cases h3 : a1 = 3
      · refine PW_tableIn (tgt := 64) (off := 63) c_E_told_1 (by rw [h3]; decide) (by rw [h3]; decide) (by rw [h3]; rfl) rfl ?_
        refine PW_aload_n c_E_told_64 rfl ?_
        refine PW_get (v := .int (x.1 372)) c_E_told_65 fl_E_40 (gf_46_4 _ _) ?_
        refine PW_ireturn (ty := .int) c_E_told_68 rfl rfl ?_
        show PW _ _ _ 8 [some (.ref 5), some (.int a1)] [.int (x.1 372)] (E x y)
        refine PW_ireturn (ty := .int) c_G_led_8 rfl rfl ?_
        exact pqi h (by rw [h3]; exact d4.symm)
      by_cases h4 : a1 = 4
      · refine PW_tableIn (tgt := 69) (off := 68) c_E_told_1 (by rw [h4]; decide) (by rw [h4]; decide) (by rw [h4]; rfl) rfl ?_
        refine PW_aload_n c_E_told_69 rfl ?_
        refine PW_get (v := .int (x.1 373)) c_E_told_70 fl_E_58 (gf_46_5 _ _) ?_
        refine PW_ireturn (ty := .int) c_E_told_73 rfl rfl ?_
        show PW _ _ _ 8 [some (.ref 5), some (.int a1)] [.int (x.1 373)] (E x y)
        refine PW_ireturn (ty := .int) c_G_led_8 rfl rfl ?_
        exact pqi h (by rw [h4]; exact d5.symm)
      by_cases h5 : a1 = 5
      · refine PW_tableIn (tgt := 74) (off := 73) c_E_told_1 (by rw [h5]; decide) (by rw [h5]; decide) (by rw [h5]; rfl) rfl ?_
        refine PW_aload_n c_E_told_74 rfl ?_
        refine PW_get (v := .int (x.1 374)) c_E_told_75 fl_E_61 (gf_46_6 _ _) ?_
        refine PW_ireturn (ty := .int) c_E_told_78 rfl rfl ?_
        show PW _ _ _ 8 [some (.ref 5), some (.int a1)] [.int (x.1 374)] (E x y)
        refine PW_ireturn (ty := .int) c_G_led_8 rfl rfl ?_
        exact pqi h (by rw [h5]; exact d6.symm)
      refine PW_tableOut (tgt := 79) c_E_told_1 (sw_out (lo := 0) (n := 6) (by decide) (by decide) (by decide) (fun i hi => by match i, hi with | 0, _ => exact h0 | 1, _ => exact h1 | 2, _ => exact h2 | 3, _ => exact h3 | 4, _ => exact h4 | 5, _ => exact h5 | n + 6, hi => exact absurd hi (by omega))) rfl ?_
      refine PW_iconst (v := -1) c_E_told_79 (by decide) ?_
      refine PW_ireturn (ty := .int) c_E_told_80 rfl rfl ?_
      show PW _ _ _ 8 [some (.ref 5), some (.int a1)] [.int (-1)] (E x y)
      refine PW_ireturn (ty := .int) c_G_led_8 rfl rfl ?_
      exfalso
      simp only [Int32.lt_iff_toInt_lt, Int32.le_iff_toInt_le, Int32.not_lt, Int32.not_le, ← Int32.toInt_inj, tiA] at *; omega
    · refine PW.deeper (k := (1, 0, 0, z)) (Nat.le_of_ble_eq_true rfl) (Nat.le_refl _) (Nat.le_refl _) ?_
      refine PW_iload_n c_M_led_0 rfl ?_
      refine PW_iconst (v := 0) c_M_led_1 (by decide) ?_
      refine PW_iconst (v := 5) c_M_led_2 (by decide) ?_
      refine PW_S0 (d2 := 0) (st := []) [.int a1, .int 0, .int 5] c_M_led_3 lk_M_led_131 rfl rfl rfl (Nat.le_of_ble_eq_true rfl) (by first | decide | omega) (Nat.le_of_ble_eq_true rfl) ?_
      refine sp_M_within  ?_
      show PW _ _ _ 6 [some (.ref 70), some (.int a1)] [.int (b2i (0 ≤ a1 ∧ a1 ≤ 5))] (E x y)
      refine PW_if_eq c_M_led_6 (fun h0 => absurd hc0 (b2i_0.mp h0)) (fun _ => ?_)
      refine PW_aload_n c_M_led_9 rfl ?_
      refine PW_get (v := .ref 100) c_M_led_10 fl_M_99 (gf_70_46 _ _) ?_
      refine PW_iload_n c_M_led_13 rfl ?_
      refine PW_iald (j := a1.toNatClampNeg) c_M_led_14 (ar_100 _ _) (vp_in_iff.mpr (by simp only [Int32.le_iff_toInt_le, tiA] at hc0; omega)) rfl ?_
      show PW _ _ _ 15 [some (.ref 70), some (.int a1)] [.int ((y.2.1 100) a1.toNatClampNeg)] (E x y)
      refine PW_goto c_M_led_15 ?_
      refine PW_ireturn (ty := .int) c_M_led_19 rfl rfl ?_
      exact h
  refine ⟨-1, x, y, ?_, fun {z post} h => ?_, fun {z post} h => ?_⟩
  · exact INV_step hI
  · refine PW.deeper (k := (2, 0, 0, z)) (Nat.le_of_ble_eq_true rfl) (Nat.le_refl _) (Nat.le_refl _) ?_
    refine PW_aload_n c_G_led_0 rfl ?_
    refine PW_get (v := .ref 46) c_G_led_1 fl_G_65 (gf_5_7 _ _) ?_
    refine PW_iload_n c_G_led_4 rfl ?_
    refine PW_V0 (d2 := 1) (st := []) [.int a1] c_G_led_5 lk_G_led_277 (po_46 _ _) rfl rfl rfl (Nat.le_of_ble_eq_true rfl) (by first | decide | omega) (Nat.le_of_ble_eq_true rfl) ?_
    show PW _ _ _ 0 [some (.ref 46), some (.int a1)] [] (E x y)
    refine PW_iload_n c_E_told_0 rfl ?_
    by_cases h0 : a1 = 0
    · refine PW_tableIn (tgt := 40) (off := 39) c_E_told_1 (by rw [h0]; decide) (by rw [h0]; decide) (by rw [h0]; rfl) rfl ?_
      refine PW_aload_n c_E_told_40 rfl ?_
      refine PW_get (v := .ref 48) c_E_told_41 fl_E_24 (gf_46_1 _ _) ?_
      refine PW_V0 (d2 := 0) (st := []) [] c_E_told_44 lk_E_told_32 (po_48 _ _) rfl rfl rfl (Nat.le_of_ble_eq_true rfl) (by first | decide | omega) (Nat.le_of_ble_eq_true rfl) ?_
      show PW _ _ _ 0 [some (.ref 48)] [] (E x y)
      refine PW_aload_n c_V_minute_0 rfl ?_
      refine PW_get (v := .int (x.1 387)) c_V_minute_1 fl_V_27 (gf_48_3 _ _) ?_
      refine PW_ireturn (ty := .int) c_V_minute_4 rfl rfl ?_
      show PW _ _ _ 47 [some (.ref 46), some (.int a1)] [.int (x.1 387)] (E x y)
      refine PW_ireturn (ty := .int) c_E_told_47 rfl rfl ?_
      show PW _ _ _ 8 [some (.ref 5), some (.int a1)] [.int (x.1 387)] (E x y)
      refine PW_ireturn (ty := .int) c_G_led_8 rfl rfl ?_
      exfalso
      simp only [Int32.lt_iff_toInt_lt, Int32.le_iff_toInt_le, Int32.not_lt, Int32.not_le, ← Int32.toInt_inj, tiA] at *; omega
    by_cases h1 : a1 = 1
    · refine PW_tableIn (tgt := 48) (off := 47) c_E_told_1 (by rw [h1]; decide) (by rw [h1]; decide) (by rw [h1]; rfl) rfl ?_
      refine PW_aload_n c_E_told_48 rfl ?_
      refine PW_get (v := .ref 48) c_E_told_49 fl_E_24 (gf_46_1 _ _) ?_
      refine PW_V0 (d2 := 0) (st := []) [] c_E_told_52 lk_E_told_47 (po_48 _ _) rfl rfl rfl (Nat.le_of_ble_eq_true rfl) (by first | decide | omega) (Nat.le_of_ble_eq_true rfl) ?_
      show PW _ _ _ 0 [some (.ref 48)] [] (E x y)
      refine PW_aload_n c_V_room_0 rfl ?_
      refine PW_get (v := .int (x.1 386)) c_V_room_1 fl_V_23 (gf_48_2 _ _) ?_
      refine PW_ireturn (ty := .int) c_V_room_4 rfl rfl ?_
      show PW _ _ _ 55 [some (.ref 46), some (.int a1)] [.int (x.1 386)] (E x y)
      refine PW_ireturn (ty := .int) c_E_told_55 rfl rfl ?_
      show PW _ _ _ 8 [some (.ref 5), some (.int a1)] [.int (x.1 386)] (E x y)
      refine PW_ireturn (ty := .int) c_G_led_8 rfl rfl ?_
      exfalso
      simp only [Int32.lt_iff_toInt_lt, Int32.le_iff_toInt_le, Int32.not_lt, Int32.not_le, ← Int32.toInt_inj, tiA] at *; omega
    by_cases h2 : a1 = 2
    · refine PW_tableIn (tgt := 56) (off := 55) c_E_told_1 (by rw [h2]; decide) (by rw [h2]; decide) (by rw [h2]; rfl) rfl ?_
      refine PW_aload_n c_E_told_56 rfl ?_
      refine PW_get (v := .ref 48) c_E_told_57 fl_E_24 (gf_46_1 _ _) ?_
      refine PW_V0 (d2 := 0) (st := []) [] c_E_told_60 lk_E_told_50 (po_48 _ _) rfl rfl rfl (Nat.le_of_ble_eq_true rfl) (by first | decide | omega) (Nat.le_of_ble_eq_true rfl) ?_
      show PW _ _ _ 0 [some (.ref 48)] [] (E x y)
      refine PW_aload_n c_V_told_0 rfl ?_
      refine PW_get (v := .int (x.1 388)) c_V_told_1 fl_V_30 (gf_48_4 _ _) ?_
      refine PW_ireturn (ty := .int) c_V_told_4 rfl rfl ?_
      show PW _ _ _ 63 [some (.ref 46), some (.int a1)] [.int (x.1 388)] (E x y)
      refine PW_ireturn (ty := .int) c_E_told_63 rfl rfl ?_
      show PW _ _ _ 8 [some (.ref 5), some (.int a1)] [.int (x.1 388)] (E x y)
      refine PW_ireturn (ty := .int) c_G_led_8 rfl rfl ?_
      exfalso
      simp only [Int32.lt_iff_toInt_lt, Int32.le_iff_toInt_le, Int32.not_lt, Int32.not_le, ← Int32.toInt_inj, tiA] at *; omega
    by_cases h3 : a1 = 3
    · refine PW_tableIn (tgt := 64) (off := 63) c_E_told_1 (by rw [h3]; decide) (by rw [h3]; decide) (by rw [h3]; rfl) rfl ?_
      refine PW_aload_n c_E_told_64 rfl ?_
      refine PW_get (v := .int (x.1 372)) c_E_told_65 fl_E_40 (gf_46_4 _ _) ?_
      refine PW_ireturn (ty := .int) c_E_told_68 rfl rfl ?_
      show PW _ _ _ 8 [some (.ref 5), some (.int a1)] [.int (x.1 372)] (E x y)
      refine PW_ireturn (ty := .int) c_G_led_8 rfl rfl ?_
      exfalso
      simp only [Int32.lt_iff_toInt_lt, Int32.le_iff_toInt_le, Int32.not_lt, Int32.not_le, ← Int32.toInt_inj, tiA] at *; omega
    by_cases h4 : a1 = 4
    · refine PW_tableIn (tgt := 69) (off := 68) c_E_told_1 (by rw [h4]; decide) (by rw [h4]; decide) (by rw [h4]; rfl) rfl ?_
      refine PW_aload_n c_E_told_69 rfl ?_
      refine PW_get (v := .int (x.1 373)) c_E_told_70 fl_E_58 (gf_46_5 _ _) ?_
      refine PW_ireturn (ty := .int) c_E_told_73 rfl rfl ?_
      show PW _ _ _ 8 [some (.ref 5), some (.int a1)] [.int (x.1 373)] (E x y)
      refine PW_ireturn (ty := .int) c_G_led_8 rfl rfl ?_
      exfalso
      simp only [Int32.lt_iff_toInt_lt, Int32.le_iff_toInt_le, Int32.not_lt, Int32.not_le, ← Int32.toInt_inj, tiA] at *; omega
    by_cases h5 : a1 = 5
    · refine PW_tableIn (tgt := 74) (off := 73) c_E_told_1 (by rw [h5]; decide) (by rw [h5]; decide) (by rw [h5]; rfl) rfl ?_
      refine PW_aload_n c_E_told_74 rfl ?_
      refine PW_get (v := .int (x.1 374)) c_E_told_75 fl_E_61 (gf_46_6 _ _) ?_
      refine PW_ireturn (ty := .int) c_E_told_78 rfl rfl ?_
      show PW _ _ _ 8 [some (.ref 5), some (.int a1)] [.int (x.1 374)] (E x y)
      refine PW_ireturn (ty := .int) c_G_led_8 rfl rfl ?_
      exfalso
      simp only [Int32.lt_iff_toInt_lt, Int32.le_iff_toInt_le, Int32.not_lt, Int32.not_le, ← Int32.toInt_inj, tiA] at *; omega
    refine PW_tableOut (tgt := 79) c_E_told_1 (sw_out (lo := 0) (n := 6) (by decide) (by decide) (by decide) (fun i hi => by match i, hi with | 0, _ => exact h0 | 1, _ => exact h1 | 2, _ => exact h2 | 3, _ => exact h3 | 4, _ => exact h4 | 5, _ => exact h5 | n + 6, hi => exact absurd hi (by omega))) rfl ?_
    refine PW_iconst (v := -1) c_E_told_79 (by decide) ?_
    refine PW_ireturn (ty := .int) c_E_told_80 rfl rfl ?_
    show PW _ _ _ 8 [some (.ref 5), some (.int a1)] [.int (-1)] (E x y)
    refine PW_ireturn (ty := .int) c_G_led_8 rfl rfl ?_
    exact h
  · refine PW.deeper (k := (1, 0, 0, z)) (Nat.le_of_ble_eq_true rfl) (Nat.le_refl _) (Nat.le_refl _) ?_
    refine PW_iload_n c_M_led_0 rfl ?_
    refine PW_iconst (v := 0) c_M_led_1 (by decide) ?_
    refine PW_iconst (v := 5) c_M_led_2 (by decide) ?_
    refine PW_S0 (d2 := 0) (st := []) [.int a1, .int 0, .int 5] c_M_led_3 lk_M_led_131 rfl rfl rfl (Nat.le_of_ble_eq_true rfl) (by first | decide | omega) (Nat.le_of_ble_eq_true rfl) ?_
    refine sp_M_within  ?_
    show PW _ _ _ 6 [some (.ref 70), some (.int a1)] [.int (b2i (0 ≤ a1 ∧ a1 ≤ 5))] (E x y)
    refine PW_if_eq c_M_led_6 (fun _ => ?_) (fun h0 => absurd (b2i_n0.mp h0) hc0)
    refine PW_iconst (v := -1) c_M_led_18 (by decide) ?_
    refine PW_ireturn (ty := .int) c_M_led_19 rfl rfl ?_
    exact h
