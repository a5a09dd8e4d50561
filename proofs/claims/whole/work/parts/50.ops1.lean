set_option maxHeartbeats 4000000 in
theorem op_led {t : Nat} {x y : XS} {a1 : Int32} (hI : INV t x y) (ht : t < 512) : ∃ (r : Int32) (x' y' : XS), INV (t + 1) x' y' ∧ (∀ {z : ZS} {post : Option Value → List PE → Prop}, post (some (.int r)) (E x' y) → PW (90, 0, 0, z) m_G_led post 0 [some (.ref 5), some (.int a1)] [] (E x y)) ∧ (∀ {z : ZS} {post : Option Value → List PE → Prop}, post (some (.int r)) (E x' y') → PW (90, 0, 0, z) m_M_led post 0 [some (.ref 70), some (.int a1)] [] (E x' y)) := by
  obtain ⟨hg, hc, ht0, hl, hd, hb, hs⟩ := id hI
  obtain ⟨d1, d2, d3, d4, d5, d6, d7, d8, d9, d10, d11⟩ := id hd

  by_cases hc0 : 0 ≤ a1 ∧ a1 ≤ 5
  · refine ⟨y.2.1 100 a1.toNatClampNeg, x, y, ?_, fun {z post} h => ?_, fun {z post} h => ?_⟩
    · exact INV_step hI
    · refine PW.deeper (k := (2, 0, 0, z)) (Nat.le_of_ble_eq_true rfl) (Nat.le_refl _) (Nat.le_refl _) ?_
      refine PW_aload_n c_G_led_0 rfl ?_
      refine PW_get (v := .ref 46) c_G_led_1 fl_G_65 (gf_5_7 _ _) ?_
      refine PW_iload_n c_G_led_4 rfl ?_
      refine PW_V0 (d2 := 1) (st := []) [.int a1] c_G_led_5 lk_G_led_277 (po_46 _ _) rfl rfl rfl (Nat.le_of_ble_eq_true rfl) (by first | decide | omega) (Nat.le_of_ble_eq_true rfl) ?_
      show PW _ _ _ 0 [some (.ref 46), some (.int a1)] [] (E x y)
      refine PW_iload_n c_E_told_0 rfl ?_
      by_cases h0 : a1 = 0
      · refine PW_tableIn (tgt := 40) (off := 39) c_E_told_1 (by rw [h0]; decide) (by rw [h0]; decide) (by rw [h0]; rfl) rfl ?_
        refine PW_aload_n c_E_told_40 rfl ?_
        refine PW_get (v := .ref 48) c_E_told_41 fl_E_24 (gf_46_1 _ _) ?_
        refine PW_V0 (d2 := 0) (st := []) [] c_E_told_44 lk_E_told_32 (po_48 _ _) rfl rfl rfl (Nat.le_of_ble_eq_true rfl) (by first | decide | omega) (Nat.le_of_ble_eq_true rfl) ?_
        show PW _ _ _ 0 [some (.ref 48)] [] (E x y)
        refine PW_aload_n c_V_minute_0 rfl ?_
        refine PW_get (v := .int (x.1 387)) c_V_minute_1 fl_V_27 (gf_48_3 _ _) ?_
        refine PW_ireturn (ty := .int) c_V_minute_4 rfl rfl ?_
        show PW _ _ _ 47 [some (.ref 46), some (.int a1)] [.int (x.1 387)] (E x y)
        refine PW_ireturn (ty := .int) c_E_told_47 rfl rfl ?_
        show PW _ _ _ 8 [some (.ref 5), some (.int a1)] [.int (x.1 387)] (E x y)
        refine PW_ireturn (ty := .int) c_G_led_8 rfl rfl ?_
        exact pqi h (by rw [h0]; exact d1.symm)
      by_cases h1 : a1 = 1
      · refine PW_tableIn (tgt := 48) (off := 47) c_E_told_1 (by rw [h1]; decide) (by rw [h1]; decide) (by rw [h1]; rfl) rfl ?_
        refine PW_aload_n c_E_told_48 rfl ?_
        refine PW_get (v := .ref 48) c_E_told_49 fl_E_24 (gf_46_1 _ _) ?_
        refine PW_V0 (d2 := 0) (st := []) [] c_E_told_52 lk_E_told_47 (po_48 _ _) rfl rfl rfl (Nat.le_of_ble_eq_true rfl) (by first | decide | omega) (Nat.le_of_ble_eq_true rfl) ?_
        show PW _ _ _ 0 [some (.ref 48)] [] (E x y)
        refine PW_aload_n c_V_room_0 rfl ?_
        refine PW_get (v := .int (x.1 386)) c_V_room_1 fl_V_23 (gf_48_2 _ _) ?_
        refine PW_ireturn (ty := .int) c_V_room_4 rfl rfl ?_
        show PW _ _ _ 55 [some (.ref 46), some (.int a1)] [.int (x.1 386)] (E x y)
        refine PW_ireturn (ty := .int) c_E_told_55 rfl rfl ?_
        show PW _ _ _ 8 [some (.ref 5), some (.int a1)] [.int (x.1 386)] (E x y)
        refine PW_ireturn (ty := .int) c_G_led_8 rfl rfl ?_
        exact pqi h (by rw [h1]; exact d2.symm)
      by_cases h2 : a1 = 2
      · refine PW_tableIn (tgt := 56) (off := 55) c_E_told_1 (by rw [h2]; decide) (by rw [h2]; decide) (by rw [h2]; rfl) rfl ?_
        refine PW_aload_n c_E_told_56 rfl ?_
        refine PW_get (v := .ref 48) c_E_told_57 fl_E_24 (gf_46_1 _ _) ?_
        refine PW_V0 (d2 := 0) (st := []) [] c_E_told_60 lk_E_told_50 (po_48 _ _) rfl rfl rfl (Nat.le_of_ble_eq_true rfl) (by first | decide | omega) (Nat.le_of_ble_eq_true rfl) ?_
        show PW _ _ _ 0 [some (.ref 48)] [] (E x y)
        refine PW_aload_n c_V_told_0 rfl ?_
        refine PW_get (v := .int (x.1 388)) c_V_told_1 fl_V_30 (gf_48_4 _ _) ?_
        refine PW_ireturn (ty := .int) c_V_told_4 rfl rfl ?_
        show PW _ _ _ 63 [some (.ref 46), some (.int a1)] [.int (x.1 388)] (E x y)
        refine PW_ireturn (ty := .int) c_E_told_63 rfl rfl ?_
        show PW _ _ _ 8 [some (.ref 5), some (.int a1)] [.int (x.1 388)] (E x y)
        refine PW_ireturn (ty := .int) c_G_led_8 rfl rfl ?_
        exact pqi h (by rw [h2]; exact d3.symm)
      by_cases h3 : a1 = 3
      · refine PW_tableIn (tgt := 64) (off := 63) c_E_told_1 (by rw [h3]; decide) (by rw [h3]; decide) (by rw [h3]; rfl) rfl ?_
        refine PW_aload_n c_E_told_64 rfl ?_
        refine PW_get (v := .int (x.1 372)) c_E_told_65 fl_E_40 (gf_46_4 _ _) ?_
        refine PW_ireturn (ty := .int) c_E_told_68 rfl rfl ?_
        show PW _ _ _ 8 [some (.ref 5), some (.int a1)] [.int (x.1 372)] (E x y)
        refine PW_ireturn (ty := .int) c_G_led_8 rfl rfl ?_
        exact pqi h (by rw [h3]; exact d4.symm)
      by_cases h4 : a1 = 4
      · refine PW_tableIn (tgt := 69) (off := 68) c_E_told_1 (by rw [h4]; decide) (by rw [h4]; decide) (by rw [h4]; rfl) rfl ?_
        refine PW_aload_n c_E_told_69 rfl ?_
        refine PW_get (v := .int (x.1 373)) c_E_told_70 fl_E_58 (gf_46_5 _ _) ?_
        refine PW_ireturn (ty := .int) c_E_told_73 rfl rfl ?_
        show PW _ _ _ 8 [some (.ref 5), some (.int a1)] [.int (x.1 373)] (E x y)
        refine PW_ireturn (ty := .int) c_G_led_8 rfl rfl ?_
        exact pqi h (by rw [h4]; exact d5.symm)
      by_cases h5 : a1 = 5
      · refine PW_tableIn (tgt := 74) (off := 73) c_E_told_1 (by rw [h5]; decide) (by rw [h5]; decide) (by rw [h5]; rfl) rfl ?_
        refine PW_aload_n c_E_told_74 rfl ?_
        refine PW_get (v := .int (x.1 374)) c_E_told_75 fl_E_61 (gf_46_6 _ _) ?_
        refine PW_ireturn (ty := .int) c_E_told_78 rfl rfl ?_
        show PW _ _ _ 8 [some (.ref 5), some (.int a1)] [.int (x.1 374)] (E x y)
        refine PW_ireturn (ty := .int) c_G_led_8 rfl rfl ?_
        exact pqi h (by rw [h5]; exact d6.symm)
      refine PW_tableOut (tgt := 79) c_E_told_1 (sw_out (lo := 0) (n := 6) (by decide) (by decide) (by decide) (fun i hi => by match i, hi with | 0, _ => exact h0 | 1, _ => exact h1 | 2, _ => exact h2 | 3, _ => exact h3 | 4, _ => exact h4 | 5, _ => exact h5 | n + 6, hi => exact absurd hi (by omega))) rfl ?_
      refine PW_iconst (v := -1) c_E_told_79 (by decide) ?_
      refine PW_ireturn (ty := .int) c_E_told_80 rfl rfl ?_
      show PW _ _ _ 8 [some (.ref 5), some (.int a1)] [.int (-1)] (E x y)
      refine PW_ireturn (ty := .int) c_G_led_8 rfl rfl ?_
      exfalso
      simp only [Int32.lt_iff_toInt_lt, Int32.le_iff_toInt_le, Int32.not_lt, Int32.not_le, ← Int32.toInt_inj, tiA] at *; omega
    · refine PW.deeper (k := (1, 0, 0, z)) (Nat.le_of_ble_eq_true rfl) (Nat.le_refl _) (Nat.le_refl _) ?_
      refine PW_iload_n c_M_led_0 rfl ?_
      refine PW_iconst (v := 0) c_M_led_1 (by decide) ?_
      refine PW_iconst (v := 5) c_M_led_2 (by decide) ?_
      refine PW_S0 (d2 := 0) (st := []) [.int a1, .int 0, .int 5] c_M_led_3 lk_M_led_131 rfl rfl rfl (Nat.le_of_ble_eq_true rfl) (by first | decide | omega) (Nat.le_of_ble_eq_true rfl) ?_
      refine sp_M_within  ?_
      show PW _ _ _ 6 [some (.ref 70), some (.int a1)] [.int (b2i ((0 : Int32) ≤ a1 ∧ a1 ≤ (5 : Int32)))] (E x y)
      refine PW_if_eq c_M_led_6 (fun h0 => absurd hc0 (b2i_0.mp h0)) (fun _ => ?_)
      refine PW_aload_n c_M_led_9 rfl ?_
      refine PW_get (v := .ref 100) c_M_led_10 fl_M_99 (gf_70_46 _ _) ?_
      refine PW_iload_n c_M_led_13 rfl ?_
      refine PW_iald (j := a1.toNatClampNeg) c_M_led_14 (ar_100 _ _) (vp_in_iff.mpr (by simp only [Int32.le_iff_toInt_le, tiA] at hc0; omega)) rfl ?_
      show PW _ _ _ 15 [some (.ref 70), some (.int a1)] [.int ((y.2.1 100) a1.toNatClampNeg)] (E x y)
      refine PW_goto c_M_led_15 ?_
      refine PW_ireturn (ty := .int) c_M_led_19 rfl rfl ?_
      exact h
  refine ⟨-1, x, y, ?_, fun {z post} h => ?_, fun {z post} h => ?_⟩
  · exact INV_step hI
  · refine PW.deeper (k := (2, 0, 0, z)) (Nat.le_of_ble_eq_true rfl) (Nat.le_refl _) (Nat.le_refl _) ?_
    refine PW_aload_n c_G_led_0 rfl ?_
    refine PW_get (v := .ref 46) c_G_led_1 fl_G_65 (gf_5_7 _ _) ?_
    refine PW_iload_n c_G_led_4 rfl ?_
    refine PW_V0 (d2 := 1) (st := []) [.int a1] c_G_led_5 lk_G_led_277 (po_46 _ _) rfl rfl rfl (Nat.le_of_ble_eq_true rfl) (by first | decide | omega) (Nat.le_of_ble_eq_true rfl) ?_
    show PW _ _ _ 0 [some (.ref 46), some (.int a1)] [] (E x y)
    refine PW_iload_n c_E_told_0 rfl ?_
    by_cases h0 : a1 = 0
    · refine PW_tableIn (tgt := 40) (off := 39) c_E_told_1 (by rw [h0]; decide) (by rw [h0]; decide) (by rw [h0]; rfl) rfl ?_
      refine PW_aload_n c_E_told_40 rfl ?_
      refine PW_get (v := .ref 48) c_E_told_41 fl_E_24 (gf_46_1 _ _) ?_
      refine PW_V0 (d2 := 0) (st := []) [] c_E_told_44 lk_E_told_32 (po_48 _ _) rfl rfl rfl (Nat.le_of_ble_eq_true rfl) (by first | decide | omega) (Nat.le_of_ble_eq_true rfl) ?_
      show PW _ _ _ 0 [some (.ref 48)] [] (E x y)
      refine PW_aload_n c_V_minute_0 rfl ?_
      refine PW_get (v := .int (x.1 387)) c_V_minute_1 fl_V_27 (gf_48_3 _ _) ?_
      refine PW_ireturn (ty := .int) c_V_minute_4 rfl rfl ?_
      show PW _ _ _ 47 [some (.ref 46), some (.int a1)] [.int (x.1 387)] (E x y)
      refine PW_ireturn (ty := .int) c_E_told_47 rfl rfl ?_
      show PW _ _ _ 8 [some (.ref 5), some (.int a1)] [.int (x.1 387)] (E x y)
      refine PW_ireturn (ty := .int) c_G_led_8 rfl rfl ?_
      exfalso
      simp only [Int32.lt_iff_toInt_lt, Int32.le_iff_toInt_le, Int32.not_lt, Int32.not_le, ← Int32.toInt_inj, tiA] at *; omega
    by_cases h1 : a1 = 1
    · refine PW_tableIn (tgt := 48) (off := 47) c_E_told_1 (by rw [h1]; decide) (by rw [h1]; decide) (by rw [h1]; rfl) rfl ?_
      refine PW_aload_n c_E_told_48 rfl ?_
      refine PW_get (v := .ref 48) c_E_told_49 fl_E_24 (gf_46_1 _ _) ?_
      refine PW_V0 (d2 := 0) (st := []) [] c_E_told_52 lk_E_told_47 (po_48 _ _) rfl rfl rfl (Nat.le_of_ble_eq_true rfl) (by first | decide | omega) (Nat.le_of_ble_eq_true rfl) ?_
      show PW _ _ _ 0 [some (.ref 48)] [] (E x y)
      refine PW_aload_n c_V_room_0 rfl ?_
      refine PW_get (v := .int (x.1 386)) c_V_room_1 fl_V_23 (gf_48_2 _ _) ?_
      refine PW_ireturn (ty := .int) c_V_room_4 rfl rfl ?_
      show PW _ _ _ 55 [some (.ref 46), some (.int a1)] [.int (x.1 386)] (E x y)
      refine PW_ireturn (ty := .int) c_E_told_55 rfl rfl ?_
      show PW _ _ _ 8 [some (.ref 5), some (.int a1)] [.int (x.1 386)] (E x y)
      refine PW_ireturn (ty := .int) c_G_led_8 rfl rfl ?_
      exfalso
      simp only [Int32.lt_iff_toInt_lt, Int32.le_iff_toInt_le, Int32.not_lt, Int32.not_le, ← Int32.toInt_inj, tiA] at *; omega
    by_cases h2 : a1 = 2
    · refine PW_tableIn (tgt := 56) (off := 55) c_E_told_1 (by rw [h2]; decide) (by rw [h2]; decide) (by rw [h2]; rfl) rfl ?_
      refine PW_aload_n c_E_told_56 rfl ?_
      refine PW_get (v := .ref 48) c_E_told_57 fl_E_24 (gf_46_1 _ _) ?_
      refine PW_V0 (d2 := 0) (st := []) [] c_E_told_60 lk_E_told_50 (po_48 _ _) rfl rfl rfl (Nat.le_of_ble_eq_true rfl) (by first | decide | omega) (Nat.le_of_ble_eq_true rfl) ?_
      show PW _ _ _ 0 [some (.ref 48)] [] (E x y)
      refine PW_aload_n c_V_told_0 rfl ?_
      refine PW_get (v := .int (x.1 388)) c_V_told_1 fl_V_30 (gf_48_4 _ _) ?_
      refine PW_ireturn (ty := .int) c_V_told_4 rfl rfl ?_
      show PW _ _ _ 63 [some (.ref 46), some (.int a1)] [.int (x.1 388)] (E x y)
      refine PW_ireturn (ty := .int) c_E_told_63 rfl rfl ?_
      show PW _ _ _ 8 [some (.ref 5), some (.int a1)] [.int (x.1 388)] (E x y)
      refine PW_ireturn (ty := .int) c_G_led_8 rfl rfl ?_
      exfalso
      simp only [Int32.lt_iff_toInt_lt, Int32.le_iff_toInt_le, Int32.not_lt, Int32.not_le, ← Int32.toInt_inj, tiA] at *; omega
    by_cases h3 : a1 = 3
    · refine PW_tableIn (tgt := 64) (off := 63) c_E_told_1 (by rw [h3]; decide) (by rw [h3]; decide) (by rw [h3]; rfl) rfl ?_
      refine PW_aload_n c_E_told_64 rfl ?_
      refine PW_get (v := .int (x.1 372)) c_E_told_65 fl_E_40 (gf_46_4 _ _) ?_
      refine PW_ireturn (ty := .int) c_E_told_68 rfl rfl ?_
      show PW _ _ _ 8 [some (.ref 5), some (.int a1)] [.int (x.1 372)] (E x y)
      refine PW_ireturn (ty := .int) c_G_led_8 rfl rfl ?_
      exfalso
      simp only [Int32.lt_iff_toInt_lt, Int32.le_iff_toInt_le, Int32.not_lt, Int32.not_le, ← Int32.toInt_inj, tiA] at *; omega
    by_cases h4 : a1 = 4
    · refine PW_tableIn (tgt := 69) (off := 68) c_E_told_1 (by rw [h4]; decide) (by rw [h4]; decide) (by rw [h4]; rfl) rfl ?_
      refine PW_aload_n c_E_told_69 rfl ?_
      refine PW_get (v := .int (x.1 373)) c_E_told_70 fl_E_58 (gf_46_5 _ _) ?_
      refine PW_ireturn (ty := .int) c_E_told_73 rfl rfl ?_
      show PW _ _ _ 8 [some (.ref 5), some (.int a1)] [.int (x.1 373)] (E x y)
      refine PW_ireturn (ty := .int) c_G_led_8 rfl rfl ?_
      exfalso
      simp only [Int32.lt_iff_toInt_lt, Int32.le_iff_toInt_le, Int32.not_lt, Int32.not_le, ← Int32.toInt_inj, tiA] at *; omega
    by_cases h5 : a1 = 5
    · refine PW_tableIn (tgt := 74) (off := 73) c_E_told_1 (by rw [h5]; decide) (by rw [h5]; decide) (by rw [h5]; rfl) rfl ?_
      refine PW_aload_n c_E_told_74 rfl ?_
      refine PW_get (v := .int (x.1 374)) c_E_told_75 fl_E_61 (gf_46_6 _ _) ?_
      refine PW_ireturn (ty := .int) c_E_told_78 rfl rfl ?_
      show PW _ _ _ 8 [some (.ref 5), some (.int a1)] [.int (x.1 374)] (E x y)
      refine PW_ireturn (ty := .int) c_G_led_8 rfl rfl ?_
      exfalso
      simp only [Int32.lt_iff_toInt_lt, Int32.le_iff_toInt_le, Int32.not_lt, Int32.not_le, ← Int32.toInt_inj, tiA] at *; omega
    refine PW_tableOut (tgt := 79) c_E_told_1 (sw_out (lo := 0) (n := 6) (by decide) (by decide) (by decide) (fun i hi => by match i, hi with | 0, _ => exact h0 | 1, _ => exact h1 | 2, _ => exact h2 | 3, _ => exact h3 | 4, _ => exact h4 | 5, _ => exact h5 | n + 6, hi => exact absurd hi (by omega))) rfl ?_
    refine PW_iconst (v := -1) c_E_told_79 (by decide) ?_
    refine PW_ireturn (ty := .int) c_E_told_80 rfl rfl ?_
    show PW _ _ _ 8 [some (.ref 5), some (.int a1)] [.int (-1)] (E x y)
    refine PW_ireturn (ty := .int) c_G_led_8 rfl rfl ?_
    exact h
  · refine PW.deeper (k := (1, 0, 0, z)) (Nat.le_of_ble_eq_true rfl) (Nat.le_refl _) (Nat.le_refl _) ?_
    refine PW_iload_n c_M_led_0 rfl ?_
    refine PW_iconst (v := 0) c_M_led_1 (by decide) ?_
    refine PW_iconst (v := 5) c_M_led_2 (by decide) ?_
    refine PW_S0 (d2 := 0) (st := []) [.int a1, .int 0, .int 5] c_M_led_3 lk_M_led_131 rfl rfl rfl (Nat.le_of_ble_eq_true rfl) (by first | decide | omega) (Nat.le_of_ble_eq_true rfl) ?_
    refine sp_M_within  ?_
    show PW _ _ _ 6 [some (.ref 70), some (.int a1)] [.int (b2i ((0 : Int32) ≤ a1 ∧ a1 ≤ (5 : Int32)))] (E x y)
    refine PW_if_eq c_M_led_6 (fun _ => ?_) (fun h0 => absurd (b2i_n0.mp h0) hc0)
    refine PW_iconst (v := -1) c_M_led_18 (by decide) ?_
    refine PW_ireturn (ty := .int) c_M_led_19 rfl rfl ?_
    exact h
set_option maxHeartbeats 4000000 in
theorem op_stay {t : Nat} {x y : XS} {a1 : Int32} (hI : INV t x y) (ht : t < 512) : ∃ (r : Int32) (x' y' : XS), INV (t + 1) x' y' ∧ (∀ {z : ZS} {post : Option Value → List PE → Prop}, post (some (.int r)) (E x' y) → PW (90, 0, 0, z) m_G_stay post 0 [some (.ref 5), some (.int a1)] [] (E x y)) ∧ (∀ {z : ZS} {post : Option Value → List PE → Prop}, post (some (.int r)) (E x' y') → PW (90, 0, 0, z) m_M_stay post 0 [some (.ref 70), some (.int a1)] [] (E x' y)) := by
  obtain ⟨hg, hc, ht0, hl, hd, hb, hs⟩ := id hI
  obtain ⟨d1, d2, d3, d4, d5, d6, d7, d8, d9, d10, d11⟩ := id hd

  by_cases hc0 : 1 ≤ a1 ∧ a1 ≤ 99
  · refine ⟨y.2.1 100 0 + a1, sI x 387 ((x.1 387) + a1), sA y 100 (upd (y.2.1 100) 0 (((y.2.1 100) 0) + a1)), ?_, fun {z post} h => ?_, fun {z post} h => ?_⟩
    · refine ⟨hg.cg (fun n q1 q2 => by first | rfl | (simp only [sI_1, sI_A, sI_G, sA_1, sA_A, sA_G, sG_1, sG_A, sG_G]; repeat rw [if_neg (by omega)])) (fun n q1 q2 => by first | rfl | (simp only [sI_1, sI_A, sI_G, sA_1, sA_A, sA_G, sG_1, sG_A, sG_G]; repeat rw [if_neg (by omega)])) (by first | rfl | (simp only [sI_1, sI_A, sI_G, sA_1, sA_A, sA_G, sG_1, sG_A, sG_G]; repeat rw [if_neg (by omega)])) (fun n q1 q2 => by first | rfl | (simp only [sI_1, sI_A, sI_G, sA_1, sA_A, sA_G, sG_1, sG_A, sG_G]; repeat rw [if_neg (by omega)])), hc.cg (fun n q1 q2 => by first | rfl | (simp only [sI_1, sI_A, sI_G, sA_1, sA_A, sA_G, sG_1, sG_A, sG_G]; repeat rw [if_neg (by omega)])) (fun n q1 q2 => by first | rfl | (simp only [sI_1, sI_A, sI_G, sA_1, sA_A, sA_G, sG_1, sG_A, sG_G]; repeat rw [if_neg (by omega)])) (fun n q1 q2 => by first | rfl | (simp only [sI_1, sI_A, sI_G, sA_1, sA_A, sA_G, sG_1, sG_A, sG_G]; repeat rw [if_neg (by omega)])) (fun n q1 q2 => by first | rfl | (simp only [sI_1, sI_A, sI_G, sA_1, sA_A, sA_G, sG_1, sG_A, sG_G]; repeat rw [if_neg (by omega)])) (Nat.le_of_eq (nG_cg (by first | rfl | (simp only [sI_1, sI_A, sI_G, sA_1, sA_A, sA_G, sG_1, sG_A, sG_G]; repeat rw [if_neg (by omega)]))).symm), ht0.cg (by first | rfl | (simp only [sI_1, sI_A, sI_G, sA_1, sA_A, sA_G, sG_1, sG_A, sG_G]; repeat rw [if_neg (by omega)])) (by first | rfl | (simp only [sI_1, sI_A, sI_G, sA_1, sA_A, sA_G, sG_1, sG_A, sG_G]; repeat rw [if_neg (by omega)])) (by first | rfl | (simp only [sI_1, sI_A, sI_G, sA_1, sA_A, sA_G, sG_1, sG_A, sG_G]; repeat rw [if_neg (by omega)])) (by first | rfl | (simp only [sI_1, sI_A, sI_G, sA_1, sA_A, sA_G, sG_1, sG_A, sG_G]; repeat rw [if_neg (by omega)])), hl.cg (by first | rfl | (simp only [sI_1, sI_A, sI_G, sA_1, sA_A, sA_G, sG_1, sG_A, sG_G]; repeat rw [if_neg (by omega)])) (fun n q1 q2 => by first | rfl | (simp only [sI_1, sI_A, sI_G, sA_1, sA_A, sA_G, sG_1, sG_A, sG_G]; repeat rw [if_neg (by omega)])) (by first | rfl | (simp only [sI_1, sI_A, sI_G, sA_1, sA_A, sA_G, sG_1, sG_A, sG_G]; repeat rw [if_neg (by omega)])) (fun n q1 q2 => by first | rfl | (simp only [sI_1, sI_A, sI_G, sA_1, sA_A, sA_G, sG_1, sG_A, sG_G]; repeat rw [if_neg (by omega)])), ?_, hb.cg (fun n q1 q2 => by first | rfl | (simp only [sI_1, sI_A, sI_G, sA_1, sA_A, sA_G, sG_1, sG_A, sG_G]; repeat rw [if_neg (by omega)])) (fun n q1 q2 => by first | rfl | (simp only [sI_1, sI_A, sI_G, sA_1, sA_A, sA_G, sG_1, sG_A, sG_G]; repeat rw [if_neg (by omega)])) (fun n q1 q2 => by first | rfl | (simp only [sI_1, sI_A, sI_G, sA_1, sA_A, sA_G, sG_1, sG_A, sG_G]; repeat rw [if_neg (by omega)])) (fun n q1 q2 => by first | rfl | (simp only [sI_1, sI_A, sI_G, sA_1, sA_A, sA_G, sG_1, sG_A, sG_G]; repeat rw [if_neg (by omega)])), hs.cg (fun n q1 q2 => by first | rfl | (simp only [sI_1, sI_A, sI_G, sA_1, sA_A, sA_G, sG_1, sG_A, sG_G]; repeat rw [if_neg (by omega)])) (fun n q1 q2 => by first | rfl | (simp only [sI_1, sI_A, sI_G, sA_1, sA_A, sA_G, sG_1, sG_A, sG_G]; repeat rw [if_neg (by omega)])) (by first | exact Int.le_refl _ | (simp only [sI_1, sI_A, sI_G, sA_1, sA_A, sA_G, sG_1, sG_A, sG_G]; repeat rw [if_neg (by omega)])) (fun n q1 q2 => by first | rfl | (simp only [sI_1, sI_A, sI_G, sA_1, sA_A, sA_G, sG_1, sG_A, sG_G]; repeat rw [if_neg (by omega)])) (by first | rfl | (simp only [sI_1, sI_A, sI_G, sA_1, sA_A, sA_G, sG_1, sG_A, sG_G]; repeat rw [if_neg (by omega)]))⟩
      · simp only [Int32.le_iff_toInt_le, tiA] at hc0
        have hh := ti_add (x := y.2.1 100 0) (y := a1) (by have := d7.1; omega) (by have := d7.2.1; omega)
        refine ⟨?_, d2, d3, d4, d5, d6, ?_, d8, okd_up (Nat.le_succ _) d9, d10, d11⟩
        · show x.1 387 + a1 = upd (y.2.1 100) 0 (y.2.1 100 0 + a1) 0
          rw [upd_s, d1]
        · refine ⟨?_, ?_, d7.2.2.1, d7.2.2.2.1, d7.2.2.2.2.1, fun i q1 q2 => ?_⟩
          · show 0 ≤ (upd (y.2.1 100) 0 (y.2.1 100 0 + a1) 0).toInt
            rw [upd_s, hh]; have := d7.1; omega
          · show (upd (y.2.1 100) 0 (y.2.1 100 0 + a1) 0).toInt ≤ _
            rw [upd_s, hh]; have := d7.2.1; omega
          · show 0 ≤ (upd (y.2.1 100) 0 (y.2.1 100 0 + a1) i).toInt ∧ (upd (y.2.1 100) 0 (y.2.1 100 0 + a1) i).toInt ≤ _
            rw [upd_n (by omega)]; have := d7.2.2.2.2.2 i q1 q2; omega
    · refine PW.deeper (k := (2, 0, 0, z)) (Nat.le_of_ble_eq_true rfl) (Nat.le_refl _) (Nat.le_refl _) ?_
      refine PW_iload_n c_G_stay_0 rfl ?_
      refine PW_iconst (v := 1) c_G_stay_1 (by decide) ?_
      refine PW_icmp_lt c_G_stay_2 (fun h0 => ?_) (fun h0 => ?_)
      · refine PW_iconst (v := -1) c_G_stay_11 (by decide) ?_
        refine PW_goto c_G_stay_12 ?_
        refine PW_ireturn (ty := .int) c_G_stay_23 rfl rfl ?_
        exfalso
        simp only [Int32.lt_iff_toInt_lt, Int32.le_iff_toInt_le, Int32.not_lt, Int32.not_le, ← Int32.toInt_inj, tiA] at *; omega
      · refine PW_iload_n c_G_stay_5 rfl ?_
        refine PW_bipush (v := 99) c_G_stay_6 (by decide) ?_
        refine PW_icmp_le c_G_stay_8 (fun h1 => ?_) (fun h1 => ?_)
        · refine PW_aload_n c_G_stay_15 rfl ?_
          refine PW_get (v := .ref 46) c_G_stay_16 fl_G_65 (gf_5_7 _ _) ?_
          refine PW_iload_n c_G_stay_19 rfl ?_
          refine PW_V0 (d2 := 1) (st := []) [.int a1] c_G_stay_20 lk_G_stay_267 (po_46 _ _) rfl rfl rfl (Nat.le_of_ble_eq_true rfl) (by first | decide | omega) (Nat.le_of_ble_eq_true rfl) ?_
          show PW _ _ _ 0 [some (.ref 46), some (.int a1)] [] (E x y)
          refine PW_aload_n c_E_linger_0 rfl ?_
          refine PW_get (v := .ref 48) c_E_linger_1 fl_E_24 (gf_46_1 _ _) ?_
          refine PW_iload_n c_E_linger_4 rfl ?_
          refine PW_V0 (d2 := 0) (st := []) [.int a1] c_E_linger_5 lk_E_linger_44 (po_48 _ _) rfl rfl rfl (Nat.le_of_ble_eq_true rfl) (by first | decide | omega) (Nat.le_of_ble_eq_true rfl) ?_
          show PW _ _ _ 0 [some (.ref 48), some (.int a1)] [] (E x y)
          refine PW_aload_n c_V_linger_0 rfl ?_
          refine PW_dup c_V_linger_1 rfl ?_
          refine PW_get (v := .int (x.1 387)) c_V_linger_2 fl_V_27 (gf_48_3 _ _) ?_
          refine PW_iload_n c_V_linger_5 rfl ?_
          refine PW_iadd c_V_linger_6 ?_
          refine PW_put (w2 := E (sI x 387 ((x.1 387) + a1)) y) c_V_linger_7 fp_V_linger_27 rfl (pf_48_3 _ _ _) ?_
          refine PW_vreturn c_V_linger_10 rfl ?_
          show PW _ _ _ 8 [some (.ref 46), some (.int a1)] [] (E (sI x 387 ((x.1 387) + a1)) y)
          refine PW_aload_n c_E_linger_8 rfl ?_
          refine PW_get (v := .ref 48) c_E_linger_9 fl_E_24 (gf_46_1 _ _) ?_
          refine PW_V0 (d2 := 0) (st := []) [] c_E_linger_12 lk_E_linger_32 (po_48 _ _) rfl rfl rfl (Nat.le_of_ble_eq_true rfl) (by first | decide | omega) (Nat.le_of_ble_eq_true rfl) ?_
          show PW _ _ _ 0 [some (.ref 48)] [] (E (sI x 387 ((x.1 387) + a1)) y)
          refine PW_aload_n c_V_minute_0 rfl ?_
          refine PW_get (v := .int ((x.1 387) + a1)) c_V_minute_1 fl_V_27 (gf_48_3 _ _) ?_
          refine PW_ireturn (ty := .int) c_V_minute_4 rfl rfl ?_
          show PW _ _ _ 15 [some (.ref 46), some (.int a1)] [.int ((x.1 387) + a1)] (E (sI x 387 ((x.1 387) + a1)) y)
          refine PW_ireturn (ty := .int) c_E_linger_15 rfl rfl ?_
          show PW _ _ _ 23 [some (.ref 5), some (.int a1)] [.int ((x.1 387) + a1)] (E (sI x 387 ((x.1 387) + a1)) y)
          refine PW_ireturn (ty := .int) c_G_stay_23 rfl rfl ?_
          exact pqi h (by rw [d1])
        · refine PW_iconst (v := -1) c_G_stay_11 (by decide) ?_
          refine PW_goto c_G_stay_12 ?_
          refine PW_ireturn (ty := .int) c_G_stay_23 rfl rfl ?_
          exfalso
          simp only [Int32.lt_iff_toInt_lt, Int32.le_iff_toInt_le, Int32.not_lt, Int32.not_le, ← Int32.toInt_inj, tiA] at *; omega
    · refine PW.deeper (k := (1, 0, 0, z)) (Nat.le_of_ble_eq_true rfl) (Nat.le_refl _) (Nat.le_refl _) ?_
      refine PW_iload_n c_M_stay_0 rfl ?_
      refine PW_iconst (v := 1) c_M_stay_1 (by decide) ?_
      refine PW_bipush (v := 99) c_M_stay_2 (by decide) ?_
      refine PW_S0 (d2 := 0) (st := []) [.int a1, .int 1, .int 99] c_M_stay_4 lk_M_stay_131 rfl rfl rfl (Nat.le_of_ble_eq_true rfl) (by first | decide | omega) (Nat.le_of_ble_eq_true rfl) ?_
      refine sp_M_within  ?_
      show PW _ _ _ 7 [some (.ref 70), some (.int a1)] [.int (b2i ((1 : Int32) ≤ a1 ∧ a1 ≤ (99 : Int32)))] (E (sI x 387 ((x.1 387) + a1)) y)
      refine PW_if_ne c_M_stay_7 (fun _ => ?_) (fun h0 => absurd hc0 (b2i_0.mp h0))
      refine PW_aload_n c_M_stay_12 rfl ?_
      refine PW_get (v := .ref 100) c_M_stay_13 fl_M_99 (gf_70_46 _ _) ?_
      refine PW_iconst (v := 0) c_M_stay_16 (by decide) ?_
      refine PW_dup2 c_M_stay_17 rfl rfl ?_
      refine PW_iald (j := 0) c_M_stay_18 (ar_100 _ _) (vp_in_iff.mpr (by decide)) rfl ?_
      show PW _ _ _ 19 [some (.ref 70), some (.int a1)] [.int ((y.2.1 100) 0), .int 0, .ref 100] (E (sI x 387 ((x.1 387) + a1)) y)
      refine PW_iload_n c_M_stay_19 rfl ?_
      refine PW_iadd c_M_stay_20 ?_
      refine PW_iast (j := 0) (w2 := E (sI x 387 ((x.1 387) + a1)) (sA y 100 (upd (y.2.1 100) 0 (((y.2.1 100) 0) + a1)))) c_M_stay_21 (ar_100 _ _) (vp_in_iff.mpr (by decide)) rfl (aw_100 _ _ _) ?_
      refine PW_aload_n c_M_stay_22 rfl ?_
      refine PW_get (v := .ref 100) c_M_stay_23 fl_M_99 (gf_70_46 _ _) ?_
      refine PW_iconst (v := 0) c_M_stay_26 (by decide) ?_
      refine PW_iald (j := 0) c_M_stay_27 (ar_100 _ _) (vp_in_iff.mpr (by decide)) rfl ?_
      show PW _ _ _ 28 [some (.ref 70), some (.int a1)] [.int ((upd (y.2.1 100) 0 (((y.2.1 100) 0) + a1)) 0)] (E (sI x 387 ((x.1 387) + a1)) (sA y 100 (upd (y.2.1 100) 0 (((y.2.1 100) 0) + a1))))
      refine PW_ireturn (ty := .int) c_M_stay_28 rfl rfl ?_
      exact pqi h (by rw [upd_s])
  refine ⟨-1, x, y, ?_, fun {z post} h => ?_, fun {z post} h => ?_⟩
  · exact INV_step hI
  · refine PW.deeper (k := (2, 0, 0, z)) (Nat.le_of_ble_eq_true rfl) (Nat.le_refl _) (Nat.le_refl _) ?_
    refine PW_iload_n c_G_stay_0 rfl ?_
    refine PW_iconst (v := 1) c_G_stay_1 (by decide) ?_
    refine PW_icmp_lt c_G_stay_2 (fun h0 => ?_) (fun h0 => ?_)
    · refine PW_iconst (v := -1) c_G_stay_11 (by decide) ?_
      refine PW_goto c_G_stay_12 ?_
      refine PW_ireturn (ty := .int) c_G_stay_23 rfl rfl ?_
      exact h
    · refine PW_iload_n c_G_stay_5 rfl ?_
      refine PW_bipush (v := 99) c_G_stay_6 (by decide) ?_
      refine PW_icmp_le c_G_stay_8 (fun h1 => ?_) (fun h1 => ?_)
      · refine PW_aload_n c_G_stay_15 rfl ?_
        refine PW_get (v := .ref 46) c_G_stay_16 fl_G_65 (gf_5_7 _ _) ?_
        refine PW_iload_n c_G_stay_19 rfl ?_
        refine PW_V0 (d2 := 1) (st := []) [.int a1] c_G_stay_20 lk_G_stay_267 (po_46 _ _) rfl rfl rfl (Nat.le_of_ble_eq_true rfl) (by first | decide | omega) (Nat.le_of_ble_eq_true rfl) ?_
        show PW _ _ _ 0 [some (.ref 46), some (.int a1)] [] (E x y)
        refine PW_aload_n c_E_linger_0 rfl ?_
        refine PW_get (v := .ref 48) c_E_linger_1 fl_E_24 (gf_46_1 _ _) ?_
        refine PW_iload_n c_E_linger_4 rfl ?_
        refine PW_V0 (d2 := 0) (st := []) [.int a1] c_E_linger_5 lk_E_linger_44 (po_48 _ _) rfl rfl rfl (Nat.le_of_ble_eq_true rfl) (by first | decide | omega) (Nat.le_of_ble_eq_true rfl) ?_
        show PW _ _ _ 0 [some (.ref 48), some (.int a1)] [] (E x y)
        refine PW_aload_n c_V_linger_0 rfl ?_
        refine PW_dup c_V_linger_1 rfl ?_
        refine PW_get (v := .int (x.1 387)) c_V_linger_2 fl_V_27 (gf_48_3 _ _) ?_
        refine PW_iload_n c_V_linger_5 rfl ?_
        refine PW_iadd c_V_linger_6 ?_
        refine PW_put (w2 := E (sI x 387 ((x.1 387) + a1)) y) c_V_linger_7 fp_V_linger_27 rfl (pf_48_3 _ _ _) ?_
        refine PW_vreturn c_V_linger_10 rfl ?_
        show PW _ _ _ 8 [some (.ref 46), some (.int a1)] [] (E (sI x 387 ((x.1 387) + a1)) y)
        refine PW_aload_n c_E_linger_8 rfl ?_
        refine PW_get (v := .ref 48) c_E_linger_9 fl_E_24 (gf_46_1 _ _) ?_
        refine PW_V0 (d2 := 0) (st := []) [] c_E_linger_12 lk_E_linger_32 (po_48 _ _) rfl rfl rfl (Nat.le_of_ble_eq_true rfl) (by first | decide | omega) (Nat.le_of_ble_eq_true rfl) ?_
        show PW _ _ _ 0 [some (.ref 48)] [] (E (sI x 387 ((x.1 387) + a1)) y)
        refine PW_aload_n c_V_minute_0 rfl ?_
        refine PW_get (v := .int ((x.1 387) + a1)) c_V_minute_1 fl_V_27 (gf_48_3 _ _) ?_
        refine PW_ireturn (ty := .int) c_V_minute_4 rfl rfl ?_
        show PW _ _ _ 15 [some (.ref 46), some (.int a1)] [.int ((x.1 387) + a1)] (E (sI x 387 ((x.1 387) + a1)) y)
        refine PW_ireturn (ty := .int) c_E_linger_15 rfl rfl ?_
        show PW _ _ _ 23 [some (.ref 5), some (.int a1)] [.int ((x.1 387) + a1)] (E (sI x 387 ((x.1 387) + a1)) y)
        refine PW_ireturn (ty := .int) c_G_stay_23 rfl rfl ?_
        exfalso
        simp only [Int32.lt_iff_toInt_lt, Int32.le_iff_toInt_le, Int32.not_lt, Int32.not_le, ← Int32.toInt_inj, tiA] at *; omega
      · refine PW_iconst (v := -1) c_G_stay_11 (by decide) ?_
        refine PW_goto c_G_stay_12 ?_
        refine PW_ireturn (ty := .int) c_G_stay_23 rfl rfl ?_
        exact h
  · refine PW.deeper (k := (1, 0, 0, z)) (Nat.le_of_ble_eq_true rfl) (Nat.le_refl _) (Nat.le_refl _) ?_
    refine PW_iload_n c_M_stay_0 rfl ?_
    refine PW_iconst (v := 1) c_M_stay_1 (by decide) ?_
    refine PW_bipush (v := 99) c_M_stay_2 (by decide) ?_
    refine PW_S0 (d2 := 0) (st := []) [.int a1, .int 1, .int 99] c_M_stay_4 lk_M_stay_131 rfl rfl rfl (Nat.le_of_ble_eq_true rfl) (by first | decide | omega) (Nat.le_of_ble_eq_true rfl) ?_
    refine sp_M_within  ?_
    show PW _ _ _ 7 [some (.ref 70), some (.int a1)] [.int (b2i ((1 : Int32) ≤ a1 ∧ a1 ≤ (99 : Int32)))] (E x y)
    refine PW_if_ne c_M_stay_7 (fun h0 => absurd (b2i_n0.mp h0) hc0) (fun _ => ?_)
    refine PW_iconst (v := -1) c_M_stay_10 (by decide) ?_
    refine PW_ireturn (ty := .int) c_M_stay_11 rfl rfl ?_
    exact h
set_option maxHeartbeats 4000000 in
theorem op_back {t : Nat} {x y : XS} (hI : INV t x y) (ht : t < 512) : ∃ (r : Int32) (x' y' : XS), INV (t + 1) x' y' ∧ (∀ {z : ZS} {post : Option Value → List PE → Prop}, post (some (.int r)) (E x' y) → PW (90, 0, 0, z) m_G_back post 0 [some (.ref 5)] [] (E x y)) ∧ (∀ {z : ZS} {post : Option Value → List PE → Prop}, post (some (.int r)) (E x' y') → PW (90, 0, 0, z) m_M_back post 0 [some (.ref 70), none] [] (E x' y)) := by
  obtain ⟨hg, hc, ht0, hl, hd, hb, hs⟩ := id hI
  obtain ⟨d1, d2, d3, d4, d5, d6, d7, d8, d9, d10, d11⟩ := id hd

  by_cases hc0 : y.1 608 = 0
  · refine ⟨-5, x, y, ?_, fun {z post} h => ?_, fun {z post} h => ?_⟩
    · exact INV_step hI
    · refine PW.deeper (k := (2, 0, 0, z)) (Nat.le_of_ble_eq_true rfl) (Nat.le_refl _) (Nat.le_refl _) ?_
      refine PW_aload_n c_G_back_0 rfl ?_
      refine PW_get (v := .ref 46) c_G_back_1 fl_G_65 (gf_5_7 _ _) ?_
      refine PW_V0 (d2 := 0) (st := []) [] c_G_back_4 lk_G_back_282 (po_46 _ _) rfl rfl rfl (Nat.le_of_ble_eq_true rfl) (by first | decide | omega) (Nat.le_of_ble_eq_true rfl) ?_
      show PW _ _ _ 0 [some (.ref 46)] [] (E x y)
      refine PW_aload_n c_E_hasImage_0 rfl ?_
      refine PW_get (v := .int (x.1 371)) c_E_hasImage_1 fl_E_68 (gf_46_3 _ _) ?_
      refine PW_ireturn (ty := .boolean) c_E_hasImage_4 rfl (nb_01 (by rw [d10]; exact d11)) ?_
      show PW _ _ _ 7 [some (.ref 5)] [.int (x.1 371)] (E x y)
      refine PW_if_eq c_G_back_7 (fun h0 => ?_) (fun h0 => absurd (by rw [d10]; exact hc0) h0)
      refine PW_bipush (v := -5) c_G_back_20 (by decide) ?_
      refine PW_ireturn (ty := .int) c_G_back_22 rfl rfl ?_
      exact h
    · refine PW.deeper (k := (0, 0, 0, z)) (Nat.le_of_ble_eq_true rfl) (Nat.le_refl _) (Nat.le_refl _) ?_
      refine PW_aload_n c_M_back_0 rfl ?_
      refine PW_get (v := .int (y.1 608)) c_M_back_1 fl_M_352 (gf_70_48 _ _) ?_
      refine PW_if_ne c_M_back_4 (fun h0 => absurd h0 (not_not_intro hc0)) (fun h0 => ?_)
      refine PW_bipush (v := -5) c_M_back_7 (by decide) ?_
      refine PW_ireturn (ty := .int) c_M_back_9 rfl rfl ?_
      exact h
  refine ⟨y.2.1 101 0, sI (sI (sI (sI (sI (sI x 386 ((x.2.1 47) 1)) 387 ((x.2.1 47) 0)) 388 ((x.2.1 47) 2)) 372 ((x.2.1 47) 3)) 373 ((x.2.1 47) 4)) 374 ((x.2.1 47) 5), sA (sA (sA (sA (sA (sA y 100 (upd (y.2.1 100) 0 ((y.2.1 101) 0))) 100 (upd (upd (y.2.1 100) 0 ((y.2.1 101) 0)) 1 ((y.2.1 101) 1))) 100 (upd (upd (upd (y.2.1 100) 0 ((y.2.1 101) 0)) 1 ((y.2.1 101) 1)) 2 ((y.2.1 101) 2))) 100 (upd (upd (upd (upd (y.2.1 100) 0 ((y.2.1 101) 0)) 1 ((y.2.1 101) 1)) 2 ((y.2.1 101) 2)) 3 ((y.2.1 101) 3))) 100 (upd (upd (upd (upd (upd (y.2.1 100) 0 ((y.2.1 101) 0)) 1 ((y.2.1 101) 1)) 2 ((y.2.1 101) 2)) 3 ((y.2.1 101) 3)) 4 ((y.2.1 101) 4))) 100 (upd (upd (upd (upd (upd (upd (y.2.1 100) 0 ((y.2.1 101) 0)) 1 ((y.2.1 101) 1)) 2 ((y.2.1 101) 2)) 3 ((y.2.1 101) 3)) 4 ((y.2.1 101) 4)) 5 ((y.2.1 101) 5)), ?_, fun {z post} h => ?_, fun {z post} h => ?_⟩
  · refine ⟨hg.cg (fun n q1 q2 => by first | rfl | (simp only [sI_1, sI_A, sI_G, sA_1, sA_A, sA_G, sG_1, sG_A, sG_G]; repeat rw [if_neg (by omega)])) (fun n q1 q2 => by first | rfl | (simp only [sI_1, sI_A, sI_G, sA_1, sA_A, sA_G, sG_1, sG_A, sG_G]; repeat rw [if_neg (by omega)])) (by first | rfl | (simp only [sI_1, sI_A, sI_G, sA_1, sA_A, sA_G, sG_1, sG_A, sG_G]; repeat rw [if_neg (by omega)])) (fun n q1 q2 => by first | rfl | (simp only [sI_1, sI_A, sI_G, sA_1, sA_A, sA_G, sG_1, sG_A, sG_G]; repeat rw [if_neg (by omega)])), hc.cg (fun n q1 q2 => by first | rfl | (simp only [sI_1, sI_A, sI_G, sA_1, sA_A, sA_G, sG_1, sG_A, sG_G]; repeat rw [if_neg (by omega)])) (fun n q1 q2 => by first | rfl | (simp only [sI_1, sI_A, sI_G, sA_1, sA_A, sA_G, sG_1, sG_A, sG_G]; repeat rw [if_neg (by omega)])) (fun n q1 q2 => by first | rfl | (simp only [sI_1, sI_A, sI_G, sA_1, sA_A, sA_G, sG_1, sG_A, sG_G]; repeat rw [if_neg (by omega)])) (fun n q1 q2 => by first | rfl | (simp only [sI_1, sI_A, sI_G, sA_1, sA_A, sA_G, sG_1, sG_A, sG_G]; repeat rw [if_neg (by omega)])) (Nat.le_of_eq (nG_cg (by first | rfl | (simp only [sI_1, sI_A, sI_G, sA_1, sA_A, sA_G, sG_1, sG_A, sG_G]; repeat rw [if_neg (by omega)]))).symm), ht0.cg (by first | rfl | (simp only [sI_1, sI_A, sI_G, sA_1, sA_A, sA_G, sG_1, sG_A, sG_G]; repeat rw [if_neg (by omega)])) (by first | rfl | (simp only [sI_1, sI_A, sI_G, sA_1, sA_A, sA_G, sG_1, sG_A, sG_G]; repeat rw [if_neg (by omega)])) (by first | rfl | (simp only [sI_1, sI_A, sI_G, sA_1, sA_A, sA_G, sG_1, sG_A, sG_G]; repeat rw [if_neg (by omega)])) (by first | rfl | (simp only [sI_1, sI_A, sI_G, sA_1, sA_A, sA_G, sG_1, sG_A, sG_G]; repeat rw [if_neg (by omega)])), hl.cg (by first | rfl | (simp only [sI_1, sI_A, sI_G, sA_1, sA_A, sA_G, sG_1, sG_A, sG_G]; repeat rw [if_neg (by omega)])) (fun n q1 q2 => by first | rfl | (simp only [sI_1, sI_A, sI_G, sA_1, sA_A, sA_G, sG_1, sG_A, sG_G]; repeat rw [if_neg (by omega)])) (by first | rfl | (simp only [sI_1, sI_A, sI_G, sA_1, sA_A, sA_G, sG_1, sG_A, sG_G]; repeat rw [if_neg (by omega)])) (fun n q1 q2 => by first | rfl | (simp only [sI_1, sI_A, sI_G, sA_1, sA_A, sA_G, sG_1, sG_A, sG_G]; repeat rw [if_neg (by omega)])), ?_, hb.cg (fun n q1 q2 => by first | rfl | (simp only [sI_1, sI_A, sI_G, sA_1, sA_A, sA_G, sG_1, sG_A, sG_G]; repeat rw [if_neg (by omega)])) (fun n q1 q2 => by first | rfl | (simp only [sI_1, sI_A, sI_G, sA_1, sA_A, sA_G, sG_1, sG_A, sG_G]; repeat rw [if_neg (by omega)])) (fun n q1 q2 => by first | rfl | (simp only [sI_1, sI_A, sI_G, sA_1, sA_A, sA_G, sG_1, sG_A, sG_G]; repeat rw [if_neg (by omega)])) (fun n q1 q2 => by first | rfl | (simp only [sI_1, sI_A, sI_G, sA_1, sA_A, sA_G, sG_1, sG_A, sG_G]; repeat rw [if_neg (by omega)])), hs.cg (fun n q1 q2 => by first | rfl | (simp only [sI_1, sI_A, sI_G, sA_1, sA_A, sA_G, sG_1, sG_A, sG_G]; repeat rw [if_neg (by omega)])) (fun n q1 q2 => by first | rfl | (simp only [sI_1, sI_A, sI_G, sA_1, sA_A, sA_G, sG_1, sG_A, sG_G]; repeat rw [if_neg (by omega)])) (by first | exact Int.le_refl _ | (simp only [sI_1, sI_A, sI_G, sA_1, sA_A, sA_G, sG_1, sG_A, sG_G]; repeat rw [if_neg (by omega)])) (fun n q1 q2 => by first | rfl | (simp only [sI_1, sI_A, sI_G, sA_1, sA_A, sA_G, sG_1, sG_A, sG_G]; repeat rw [if_neg (by omega)])) (by first | rfl | (simp only [sI_1, sI_A, sI_G, sA_1, sA_A, sA_G, sG_1, sG_A, sG_G]; repeat rw [if_neg (by omega)]))⟩
    · refine ⟨d8 0 (by omega), d8 1 (by omega), d8 2 (by omega), d8 3 (by omega), d8 4 (by omega), d8 5 (by omega), ?_, d8, okd_up (Nat.le_succ _) d9, d10, d11⟩
      exact okd_eq (f := y.2.1 101) rfl rfl rfl rfl rfl rfl (okd_up (Nat.le_succ _) d9)
  · refine PW.deeper (k := (2, 0, 0, z)) (Nat.le_of_ble_eq_true rfl) (Nat.le_refl _) (Nat.le_refl _) ?_
    refine PW_aload_n c_G_back_0 rfl ?_
    refine PW_get (v := .ref 46) c_G_back_1 fl_G_65 (gf_5_7 _ _) ?_
    refine PW_V0 (d2 := 0) (st := []) [] c_G_back_4 lk_G_back_282 (po_46 _ _) rfl rfl rfl (Nat.le_of_ble_eq_true rfl) (by first | decide | omega) (Nat.le_of_ble_eq_true rfl) ?_
    show PW _ _ _ 0 [some (.ref 46)] [] (E x y)
    refine PW_aload_n c_E_hasImage_0 rfl ?_
    refine PW_get (v := .int (x.1 371)) c_E_hasImage_1 fl_E_68 (gf_46_3 _ _) ?_
    refine PW_ireturn (ty := .boolean) c_E_hasImage_4 rfl (nb_01 (by rw [d10]; exact d11)) ?_
    show PW _ _ _ 7 [some (.ref 5)] [.int (x.1 371)] (E x y)
    refine PW_if_eq c_G_back_7 (fun h0 => absurd h0 (by rw [d10]; exact hc0)) (fun h0 => ?_)
    refine PW_aload_n c_G_back_10 rfl ?_
    refine PW_get (v := .ref 46) c_G_back_11 fl_G_65 (gf_5_7 _ _) ?_
    refine PW_V0 (d2 := 1) (st := []) [] c_G_back_14 lk_G_back_285 (po_46 _ _) rfl rfl rfl (Nat.le_of_ble_eq_true rfl) (by first | decide | omega) (Nat.le_of_ble_eq_true rfl) ?_
    show PW _ _ _ 0 [some (.ref 46)] [] (E x y)
    refine PW_aload_n c_E_layBack_0 rfl ?_
    refine PW_get (v := .ref 48) c_E_layBack_1 fl_E_24 (gf_46_1 _ _) ?_
    refine PW_aload_n c_E_layBack_4 rfl ?_
    refine PW_get (v := .ref 47) c_E_layBack_5 fl_E_11 (gf_46_2 _ _) ?_
    refine PW_iconst (v := 1) c_E_layBack_8 (by decide) ?_
    refine PW_iald (j := 1) c_E_layBack_9 (ar_47 _ _) (vp_in_iff.mpr (by decide)) rfl ?_
    show PW _ _ _ 10 [some (.ref 46)] [.int ((x.2.1 47) 1), .ref 48] (E x y)
    refine PW_aload_n c_E_layBack_10 rfl ?_
    refine PW_get (v := .ref 47) c_E_layBack_11 fl_E_11 (gf_46_2 _ _) ?_
    refine PW_iconst (v := 0) c_E_layBack_14 (by decide) ?_
    refine PW_iald (j := 0) c_E_layBack_15 (ar_47 _ _) (vp_in_iff.mpr (by decide)) rfl ?_
    show PW _ _ _ 16 [some (.ref 46)] [.int ((x.2.1 47) 0), .int ((x.2.1 47) 1), .ref 48] (E x y)
    refine PW_aload_n c_E_layBack_16 rfl ?_
    refine PW_get (v := .ref 47) c_E_layBack_17 fl_E_11 (gf_46_2 _ _) ?_
    refine PW_iconst (v := 2) c_E_layBack_20 (by decide) ?_
    refine PW_iald (j := 2) c_E_layBack_21 (ar_47 _ _) (vp_in_iff.mpr (by decide)) rfl ?_
    show PW _ _ _ 22 [some (.ref 46)] [.int ((x.2.1 47) 2), .int ((x.2.1 47) 0), .int ((x.2.1 47) 1), .ref 48] (E x y)
    refine PW_V0 (d2 := 0) (st := []) [.int ((x.2.1 47) 1), .int ((x.2.1 47) 0), .int ((x.2.1 47) 2)] c_E_layBack_22 lk_E_layBack_74 (po_48 _ _) rfl rfl rfl (Nat.le_of_ble_eq_true rfl) (by first | decide | omega) (Nat.le_of_ble_eq_true rfl) ?_
    show PW _ _ _ 0 [some (.ref 48), some (.int ((x.2.1 47) 1)), some (.int ((x.2.1 47) 0)), some (.int ((x.2.1 47) 2))] [] (E x y)
    refine PW_aload_n c_V_stand_0 rfl ?_
    refine PW_iload_n c_V_stand_1 rfl ?_
    refine PW_put (w2 := E (sI x 386 ((x.2.1 47) 1)) y) c_V_stand_2 fp_V_stand_23 rfl (pf_48_2 _ _ _) ?_
    refine PW_aload_n c_V_stand_5 rfl ?_
    refine PW_iload_n c_V_stand_6 rfl ?_
    refine PW_put (w2 := E (sI (sI x 386 ((x.2.1 47) 1)) 387 ((x.2.1 47) 0)) y) c_V_stand_7 fp_V_stand_27 rfl (pf_48_3 _ _ _) ?_
    refine PW_aload_n c_V_stand_10 rfl ?_
    refine PW_iload_n c_V_stand_11 rfl ?_
    refine PW_put (w2 := E (sI (sI (sI x 386 ((x.2.1 47) 1)) 387 ((x.2.1 47) 0)) 388 ((x.2.1 47) 2)) y) c_V_stand_12 fp_V_stand_30 rfl (pf_48_4 _ _ _) ?_
    refine PW_vreturn c_V_stand_15 rfl ?_
    show PW _ _ _ 25 [some (.ref 46)] [] (E (sI (sI (sI x 386 ((x.2.1 47) 1)) 387 ((x.2.1 47) 0)) 388 ((x.2.1 47) 2)) y)
    refine PW_aload_n c_E_layBack_25 rfl ?_
    refine PW_aload_n c_E_layBack_26 rfl ?_
    refine PW_get (v := .ref 47) c_E_layBack_27 fl_E_11 (gf_46_2 _ _) ?_
    refine PW_iconst (v := 3) c_E_layBack_30 (by decide) ?_
    refine PW_iald (j := 3) c_E_layBack_31 (ar_47 _ _) (vp_in_iff.mpr (by decide)) rfl ?_
    show PW _ _ _ 32 [some (.ref 46)] [.int ((x.2.1 47) 3), .ref 46] (E (sI (sI (sI x 386 ((x.2.1 47) 1)) 387 ((x.2.1 47) 0)) 388 ((x.2.1 47) 2)) y)
    refine PW_put (w2 := E (sI (sI (sI (sI x 386 ((x.2.1 47) 1)) 387 ((x.2.1 47) 0)) 388 ((x.2.1 47) 2)) 372 ((x.2.1 47) 3)) y) c_E_layBack_32 fp_E_layBack_40 rfl (pf_46_4 _ _ _) ?_
    refine PW_aload_n c_E_layBack_35 rfl ?_
    refine PW_aload_n c_E_layBack_36 rfl ?_
    refine PW_get (v := .ref 47) c_E_layBack_37 fl_E_11 (gf_46_2 _ _) ?_
    refine PW_iconst (v := 4) c_E_layBack_40 (by decide) ?_
    refine PW_iald (j := 4) c_E_layBack_41 (ar_47 _ _) (vp_in_iff.mpr (by decide)) rfl ?_
    show PW _ _ _ 42 [some (.ref 46)] [.int ((x.2.1 47) 4), .ref 46] (E (sI (sI (sI (sI x 386 ((x.2.1 47) 1)) 387 ((x.2.1 47) 0)) 388 ((x.2.1 47) 2)) 372 ((x.2.1 47) 3)) y)
    refine PW_put (w2 := E (sI (sI (sI (sI (sI x 386 ((x.2.1 47) 1)) 387 ((x.2.1 47) 0)) 388 ((x.2.1 47) 2)) 372 ((x.2.1 47) 3)) 373 ((x.2.1 47) 4)) y) c_E_layBack_42 fp_E_layBack_58 rfl (pf_46_5 _ _ _) ?_
    refine PW_aload_n c_E_layBack_45 rfl ?_
    refine PW_aload_n c_E_layBack_46 rfl ?_
    refine PW_get (v := .ref 47) c_E_layBack_47 fl_E_11 (gf_46_2 _ _) ?_
    refine PW_iconst (v := 5) c_E_layBack_50 (by decide) ?_
    refine PW_iald (j := 5) c_E_layBack_51 (ar_47 _ _) (vp_in_iff.mpr (by decide)) rfl ?_
    show PW _ _ _ 52 [some (.ref 46)] [.int ((x.2.1 47) 5), .ref 46] (E (sI (sI (sI (sI (sI x 386 ((x.2.1 47) 1)) 387 ((x.2.1 47) 0)) 388 ((x.2.1 47) 2)) 372 ((x.2.1 47) 3)) 373 ((x.2.1 47) 4)) y)
    refine PW_put (w2 := E (sI (sI (sI (sI (sI (sI x 386 ((x.2.1 47) 1)) 387 ((x.2.1 47) 0)) 388 ((x.2.1 47) 2)) 372 ((x.2.1 47) 3)) 373 ((x.2.1 47) 4)) 374 ((x.2.1 47) 5)) y) c_E_layBack_52 fp_E_layBack_61 rfl (pf_46_6 _ _ _) ?_
    refine PW_aload_n c_E_layBack_55 rfl ?_
    refine PW_get (v := .ref 48) c_E_layBack_56 fl_E_24 (gf_46_1 _ _) ?_
    refine PW_V0 (d2 := 0) (st := []) [] c_E_layBack_59 lk_E_layBack_32 (po_48 _ _) rfl rfl rfl (Nat.le_of_ble_eq_true rfl) (by first | decide | omega) (Nat.le_of_ble_eq_true rfl) ?_
    show PW _ _ _ 0 [some (.ref 48)] [] (E (sI (sI (sI (sI (sI (sI x 386 ((x.2.1 47) 1)) 387 ((x.2.1 47) 0)) 388 ((x.2.1 47) 2)) 372 ((x.2.1 47) 3)) 373 ((x.2.1 47) 4)) 374 ((x.2.1 47) 5)) y)
    refine PW_aload_n c_V_minute_0 rfl ?_
    refine PW_get (v := .int ((x.2.1 47) 0)) c_V_minute_1 fl_V_27 (gf_48_3 _ _) ?_
    refine PW_ireturn (ty := .int) c_V_minute_4 rfl rfl ?_
    show PW _ _ _ 62 [some (.ref 46)] [.int ((x.2.1 47) 0)] (E (sI (sI (sI (sI (sI (sI x 386 ((x.2.1 47) 1)) 387 ((x.2.1 47) 0)) 388 ((x.2.1 47) 2)) 372 ((x.2.1 47) 3)) 373 ((x.2.1 47) 4)) 374 ((x.2.1 47) 5)) y)
    refine PW_ireturn (ty := .int) c_E_layBack_62 rfl rfl ?_
    show PW _ _ _ 17 [some (.ref 5)] [.int ((x.2.1 47) 0)] (E (sI (sI (sI (sI (sI (sI x 386 ((x.2.1 47) 1)) 387 ((x.2.1 47) 0)) 388 ((x.2.1 47) 2)) 372 ((x.2.1 47) 3)) 373 ((x.2.1 47) 4)) 374 ((x.2.1 47) 5)) y)
    refine PW_goto c_G_back_17 ?_
    refine PW_ireturn (ty := .int) c_G_back_22 rfl rfl ?_
    exact pqi h (d8 0 (by omega)).symm
  · refine PW.deeper (k := (0, 0, 0, z)) (Nat.le_of_ble_eq_true rfl) (Nat.le_refl _) (Nat.le_refl _) ?_
    refine PW_aload_n c_M_back_0 rfl ?_
    refine PW_get (v := .int (y.1 608)) c_M_back_1 fl_M_352 (gf_70_48 _ _) ?_
    refine PW_if_ne c_M_back_4 (fun h0 => ?_) (fun h0 => absurd h0 hc0)
    refine PW_iconst (v := 0) c_M_back_10 (by decide) ?_
    refine PW_istore_n (i := 1) (L2 := [some (.ref 70), some (.int 0)]) c_M_back_11 rfl (Nat.le_of_ble_eq_true rfl) rfl rfl ?_
    refine PW_iload_n c_M_back_12 rfl ?_
    refine PW_bipush (v := 6) c_M_back_13 (by decide) ?_
    refine PW_icmp_ge c_M_back_15 (fun h1 => absurd h1 (by decide)) (fun _ => ?_)
    refine PW_aload_n c_M_back_18 rfl ?_
    refine PW_get (v := .ref 100) c_M_back_19 fl_M_99 (gf_70_46 _ _) ?_
    refine PW_iload_n c_M_back_22 rfl ?_
    refine PW_aload_n c_M_back_23 rfl ?_
    refine PW_get (v := .ref 101) c_M_back_24 fl_M_102 (gf_70_47 _ _) ?_
    refine PW_iload_n c_M_back_27 rfl ?_
    refine PW_iald (j := 0) c_M_back_28 (ar_101 _ _) (vp_in_iff.mpr (by decide)) rfl ?_
    show PW _ _ _ 29 [some (.ref 70), some (.int 0)] [.int ((y.2.1 101) 0), .int 0, .ref 100] (E (sI (sI (sI (sI (sI (sI x 386 ((x.2.1 47) 1)) 387 ((x.2.1 47) 0)) 388 ((x.2.1 47) 2)) 372 ((x.2.1 47) 3)) 373 ((x.2.1 47) 4)) 374 ((x.2.1 47) 5)) y)
    refine PW_iast (j := 0) (w2 := E (sI (sI (sI (sI (sI (sI x 386 ((x.2.1 47) 1)) 387 ((x.2.1 47) 0)) 388 ((x.2.1 47) 2)) 372 ((x.2.1 47) 3)) 373 ((x.2.1 47) 4)) 374 ((x.2.1 47) 5)) (sA y 100 (upd (y.2.1 100) 0 ((y.2.1 101) 0)))) c_M_back_29 (ar_100 _ _) (vp_in_iff.mpr (by decide)) rfl (aw_100 _ _ _) ?_
    refine PW_iinc (i := 1) (v := 1) (L2 := [some (.ref 70), some (.int 1)]) c_M_back_30 rfl (by decide) (Nat.le_of_ble_eq_true rfl) rfl rfl ?_
    refine PW_goto c_M_back_33 ?_
    refine PW_iload_n c_M_back_12 rfl ?_
    refine PW_bipush (v := 6) c_M_back_13 (by decide) ?_
    refine PW_icmp_ge c_M_back_15 (fun h2 => absurd h2 (by decide)) (fun _ => ?_)
    refine PW_aload_n c_M_back_18 rfl ?_
    refine PW_get (v := .ref 100) c_M_back_19 fl_M_99 (gf_70_46 _ _) ?_
    refine PW_iload_n c_M_back_22 rfl ?_
    refine PW_aload_n c_M_back_23 rfl ?_
    refine PW_get (v := .ref 101) c_M_back_24 fl_M_102 (gf_70_47 _ _) ?_
    refine PW_iload_n c_M_back_27 rfl ?_
    refine PW_iald (j := 1) c_M_back_28 (ar_101 _ _) (vp_in_iff.mpr (by decide)) rfl ?_
    show PW _ _ _ 29 [some (.ref 70), some (.int 1)] [.int ((y.2.1 101) 1), .int 1, .ref 100] (E (sI (sI (sI (sI (sI (sI x 386 ((x.2.1 47) 1)) 387 ((x.2.1 47) 0)) 388 ((x.2.1 47) 2)) 372 ((x.2.1 47) 3)) 373 ((x.2.1 47) 4)) 374 ((x.2.1 47) 5)) (sA y 100 (upd (y.2.1 100) 0 ((y.2.1 101) 0))))
    refine PW_iast (j := 1) (w2 := E (sI (sI (sI (sI (sI (sI x 386 ((x.2.1 47) 1)) 387 ((x.2.1 47) 0)) 388 ((x.2.1 47) 2)) 372 ((x.2.1 47) 3)) 373 ((x.2.1 47) 4)) 374 ((x.2.1 47) 5)) (sA (sA y 100 (upd (y.2.1 100) 0 ((y.2.1 101) 0))) 100 (upd (upd (y.2.1 100) 0 ((y.2.1 101) 0)) 1 ((y.2.1 101) 1)))) c_M_back_29 (ar_100 _ _) (vp_in_iff.mpr (by decide)) rfl (aw_100 _ _ _) ?_
    refine PW_iinc (i := 1) (v := 2) (L2 := [some (.ref 70), some (.int 2)]) c_M_back_30 rfl (by decide) (Nat.le_of_ble_eq_true rfl) rfl rfl ?_
    refine PW_goto c_M_back_33 ?_
    refine PW_iload_n c_M_back_12 rfl ?_
    refine PW_bipush (v := 6) c_M_back_13 (by decide) ?_
    refine PW_icmp_ge c_M_back_15 (fun h3 => absurd h3 (by decide)) (fun _ => ?_)
    refine PW_aload_n c_M_back_18 rfl ?_
    refine PW_get (v := .ref 100) c_M_back_19 fl_M_99 (gf_70_46 _ _) ?_
    refine PW_iload_n c_M_back_22 rfl ?_
    refine PW_aload_n c_M_back_23 rfl ?_
    refine PW_get (v := .ref 101) c_M_back_24 fl_M_102 (gf_70_47 _ _) ?_
    refine PW_iload_n c_M_back_27 rfl ?_
    refine PW_iald (j := 2) c_M_back_28 (ar_101 _ _) (vp_in_iff.mpr (by decide)) rfl ?_
    show PW _ _ _ 29 [some (.ref 70), some (.int 2)] [.int ((y.2.1 101) 2), .int 2, .ref 100] (E (sI (sI (sI (sI (sI (sI x 386 ((x.2.1 47) 1)) 387 ((x.2.1 47) 0)) 388 ((x.2.1 47) 2)) 372 ((x.2.1 47) 3)) 373 ((x.2.1 47) 4)) 374 ((x.2.1 47) 5)) (sA (sA y 100 (upd (y.2.1 100) 0 ((y.2.1 101) 0))) 100 (upd (upd (y.2.1 100) 0 ((y.2.1 101) 0)) 1 ((y.2.1 101) 1))))
    refine PW_iast (j := 2) (w2 := E (sI (sI (sI (sI (sI (sI x 386 ((x.2.1 47) 1)) 387 ((x.2.1 47) 0)) 388 ((x.2.1 47) 2)) 372 ((x.2.1 47) 3)) 373 ((x.2.1 47) 4)) 374 ((x.2.1 47) 5)) (sA (sA (sA y 100 (upd (y.2.1 100) 0 ((y.2.1 101) 0))) 100 (upd (upd (y.2.1 100) 0 ((y.2.1 101) 0)) 1 ((y.2.1 101) 1))) 100 (upd (upd (upd (y.2.1 100) 0 ((y.2.1 101) 0)) 1 ((y.2.1 101) 1)) 2 ((y.2.1 101) 2)))) c_M_back_29 (ar_100 _ _) (vp_in_iff.mpr (by decide)) rfl (aw_100 _ _ _) ?_
    refine PW_iinc (i := 1) (v := 3) (L2 := [some (.ref 70), some (.int 3)]) c_M_back_30 rfl (by decide) (Nat.le_of_ble_eq_true rfl) rfl rfl ?_
    refine PW_goto c_M_back_33 ?_
    refine PW_iload_n c_M_back_12 rfl ?_
    refine PW_bipush (v := 6) c_M_back_13 (by decide) ?_
    refine PW_icmp_ge c_M_back_15 (fun h4 => absurd h4 (by decide)) (fun _ => ?_)
    refine PW_aload_n c_M_back_18 rfl ?_
    refine PW_get (v := .ref 100) c_M_back_19 fl_M_99 (gf_70_46 _ _) ?_
    refine PW_iload_n c_M_back_22 rfl ?_
    refine PW_aload_n c_M_back_23 rfl ?_
    refine PW_get (v := .ref 101) c_M_back_24 fl_M_102 (gf_70_47 _ _) ?_
    refine PW_iload_n c_M_back_27 rfl ?_
    refine PW_iald (j := 3) c_M_back_28 (ar_101 _ _) (vp_in_iff.mpr (by decide)) rfl ?_
    show PW _ _ _ 29 [some (.ref 70), some (.int 3)] [.int ((y.2.1 101) 3), .int 3, .ref 100] (E (sI (sI (sI (sI (sI (sI x 386 ((x.2.1 47) 1)) 387 ((x.2.1 47) 0)) 388 ((x.2.1 47) 2)) 372 ((x.2.1 47) 3)) 373 ((x.2.1 47) 4)) 374 ((x.2.1 47) 5)) (sA (sA (sA y 100 (upd (y.2.1 100) 0 ((y.2.1 101) 0))) 100 (upd (upd (y.2.1 100) 0 ((y.2.1 101) 0)) 1 ((y.2.1 101) 1))) 100 (upd (upd (upd (y.2.1 100) 0 ((y.2.1 101) 0)) 1 ((y.2.1 101) 1)) 2 ((y.2.1 101) 2))))
    refine PW_iast (j := 3) (w2 := E (sI (sI (sI (sI (sI (sI x 386 ((x.2.1 47) 1)) 387 ((x.2.1 47) 0)) 388 ((x.2.1 47) 2)) 372 ((x.2.1 47) 3)) 373 ((x.2.1 47) 4)) 374 ((x.2.1 47) 5)) (sA (sA (sA (sA y 100 (upd (y.2.1 100) 0 ((y.2.1 101) 0))) 100 (upd (upd (y.2.1 100) 0 ((y.2.1 101) 0)) 1 ((y.2.1 101) 1))) 100 (upd (upd (upd (y.2.1 100) 0 ((y.2.1 101) 0)) 1 ((y.2.1 101) 1)) 2 ((y.2.1 101) 2))) 100 (upd (upd (upd (upd (y.2.1 100) 0 ((y.2.1 101) 0)) 1 ((y.2.1 101) 1)) 2 ((y.2.1 101) 2)) 3 ((y.2.1 101) 3)))) c_M_back_29 (ar_100 _ _) (vp_in_iff.mpr (by decide)) rfl (aw_100 _ _ _) ?_
    refine PW_iinc (i := 1) (v := 4) (L2 := [some (.ref 70), some (.int 4)]) c_M_back_30 rfl (by decide) (Nat.le_of_ble_eq_true rfl) rfl rfl ?_
    refine PW_goto c_M_back_33 ?_
    refine PW_iload_n c_M_back_12 rfl ?_
    refine PW_bipush (v := 6) c_M_back_13 (by decide) ?_
    refine PW_icmp_ge c_M_back_15 (fun h5 => absurd h5 (by decide)) (fun _ => ?_)
    refine PW_aload_n c_M_back_18 rfl ?_
    refine PW_get (v := .ref 100) c_M_back_19 fl_M_99 (gf_70_46 _ _) ?_
    refine PW_iload_n c_M_back_22 rfl ?_
    refine PW_aload_n c_M_back_23 rfl ?_
    refine PW_get (v := .ref 101) c_M_back_24 fl_M_102 (gf_70_47 _ _) ?_
    refine PW_iload_n c_M_back_27 rfl ?_
    refine PW_iald (j := 4) c_M_back_28 (ar_101 _ _) (vp_in_iff.mpr (by decide)) rfl ?_
    show PW _ _ _ 29 [some (.ref 70), some (.int 4)] [.int ((y.2.1 101) 4), .int 4, .ref 100] (E (sI (sI (sI (sI (sI (sI x 386 ((x.2.1 47) 1)) 387 ((x.2.1 47) 0)) 388 ((x.2.1 47) 2)) 372 ((x.2.1 47) 3)) 373 ((x.2.1 47) 4)) 374 ((x.2.1 47) 5)) (sA (sA (sA (sA y 100 (upd (y.2.1 100) 0 ((y.2.1 101) 0))) 100 (upd (upd (y.2.1 100) 0 ((y.2.1 101) 0)) 1 ((y.2.1 101) 1))) 100 (upd (upd (upd (y.2.1 100) 0 ((y.2.1 101) 0)) 1 ((y.2.1 101) 1)) 2 ((y.2.1 101) 2))) 100 (upd (upd (upd (upd (y.2.1 100) 0 ((y.2.1 101) 0)) 1 ((y.2.1 101) 1)) 2 ((y.2.1 101) 2)) 3 ((y.2.1 101) 3))))
    refine PW_iast (j := 4) (w2 := E (sI (sI (sI (sI (sI (sI x 386 ((x.2.1 47) 1)) 387 ((x.2.1 47) 0)) 388 ((x.2.1 47) 2)) 372 ((x.2.1 47) 3)) 373 ((x.2.1 47) 4)) 374 ((x.2.1 47) 5)) (sA (sA (sA (sA (sA y 100 (upd (y.2.1 100) 0 ((y.2.1 101) 0))) 100 (upd (upd (y.2.1 100) 0 ((y.2.1 101) 0)) 1 ((y.2.1 101) 1))) 100 (upd (upd (upd (y.2.1 100) 0 ((y.2.1 101) 0)) 1 ((y.2.1 101) 1)) 2 ((y.2.1 101) 2))) 100 (upd (upd (upd (upd (y.2.1 100) 0 ((y.2.1 101) 0)) 1 ((y.2.1 101) 1)) 2 ((y.2.1 101) 2)) 3 ((y.2.1 101) 3))) 100 (upd (upd (upd (upd (upd (y.2.1 100) 0 ((y.2.1 101) 0)) 1 ((y.2.1 101) 1)) 2 ((y.2.1 101) 2)) 3 ((y.2.1 101) 3)) 4 ((y.2.1 101) 4)))) c_M_back_29 (ar_100 _ _) (vp_in_iff.mpr (by decide)) rfl (aw_100 _ _ _) ?_
    refine PW_iinc (i := 1) (v := 5) (L2 := [some (.ref 70), some (.int 5)]) c_M_back_30 rfl (by decide) (Nat.le_of_ble_eq_true rfl) rfl rfl ?_
    refine PW_goto c_M_back_33 ?_
    refine PW_iload_n c_M_back_12 rfl ?_
    refine PW_bipush (v := 6) c_M_back_13 (by decide) ?_
    refine PW_icmp_ge c_M_back_15 (fun h6 => absurd h6 (by decide)) (fun _ => ?_)
    refine PW_aload_n c_M_back_18 rfl ?_
    refine PW_get (v := .ref 100) c_M_back_19 fl_M_99 (gf_70_46 _ _) ?_
    refine PW_iload_n c_M_back_22 rfl ?_
    refine PW_aload_n c_M_back_23 rfl ?_
    refine PW_get (v := .ref 101) c_M_back_24 fl_M_102 (gf_70_47 _ _) ?_
    refine PW_iload_n c_M_back_27 rfl ?_
    refine PW_iald (j := 5) c_M_back_28 (ar_101 _ _) (vp_in_iff.mpr (by decide)) rfl ?_
    show PW _ _ _ 29 [some (.ref 70), some (.int 5)] [.int ((y.2.1 101) 5), .int 5, .ref 100] (E (sI (sI (sI (sI (sI (sI x 386 ((x.2.1 47) 1)) 387 ((x.2.1 47) 0)) 388 ((x.2.1 47) 2)) 372 ((x.2.1 47) 3)) 373 ((x.2.1 47) 4)) 374 ((x.2.1 47) 5)) (sA (sA (sA (sA (sA y 100 (upd (y.2.1 100) 0 ((y.2.1 101) 0))) 100 (upd (upd (y.2.1 100) 0 ((y.2.1 101) 0)) 1 ((y.2.1 101) 1))) 100 (upd (upd (upd (y.2.1 100) 0 ((y.2.1 101) 0)) 1 ((y.2.1 101) 1)) 2 ((y.2.1 101) 2))) 100 (upd (upd (upd (upd (y.2.1 100) 0 ((y.2.1 101) 0)) 1 ((y.2.1 101) 1)) 2 ((y.2.1 101) 2)) 3 ((y.2.1 101) 3))) 100 (upd (upd (upd (upd (upd (y.2.1 100) 0 ((y.2.1 101) 0)) 1 ((y.2.1 101) 1)) 2 ((y.2.1 101) 2)) 3 ((y.2.1 101) 3)) 4 ((y.2.1 101) 4))))
    refine PW_iast (j := 5) (w2 := E (sI (sI (sI (sI (sI (sI x 386 ((x.2.1 47) 1)) 387 ((x.2.1 47) 0)) 388 ((x.2.1 47) 2)) 372 ((x.2.1 47) 3)) 373 ((x.2.1 47) 4)) 374 ((x.2.1 47) 5)) (sA (sA (sA (sA (sA (sA y 100 (upd (y.2.1 100) 0 ((y.2.1 101) 0))) 100 (upd (upd (y.2.1 100) 0 ((y.2.1 101) 0)) 1 ((y.2.1 101) 1))) 100 (upd (upd (upd (y.2.1 100) 0 ((y.2.1 101) 0)) 1 ((y.2.1 101) 1)) 2 ((y.2.1 101) 2))) 100 (upd (upd (upd (upd (y.2.1 100) 0 ((y.2.1 101) 0)) 1 ((y.2.1 101) 1)) 2 ((y.2.1 101) 2)) 3 ((y.2.1 101) 3))) 100 (upd (upd (upd (upd (upd (y.2.1 100) 0 ((y.2.1 101) 0)) 1 ((y.2.1 101) 1)) 2 ((y.2.1 101) 2)) 3 ((y.2.1 101) 3)) 4 ((y.2.1 101) 4))) 100 (upd (upd (upd (upd (upd (upd (y.2.1 100) 0 ((y.2.1 101) 0)) 1 ((y.2.1 101) 1)) 2 ((y.2.1 101) 2)) 3 ((y.2.1 101) 3)) 4 ((y.2.1 101) 4)) 5 ((y.2.1 101) 5)))) c_M_back_29 (ar_100 _ _) (vp_in_iff.mpr (by decide)) rfl (aw_100 _ _ _) ?_
    refine PW_iinc (i := 1) (v := 6) (L2 := [some (.ref 70), some (.int 6)]) c_M_back_30 rfl (by decide) (Nat.le_of_ble_eq_true rfl) rfl rfl ?_
    refine PW_goto c_M_back_33 ?_
    refine PW_iload_n c_M_back_12 rfl ?_
    refine PW_bipush (v := 6) c_M_back_13 (by decide) ?_
    refine PW_icmp_ge c_M_back_15 (fun _ => ?_) (fun h7 => absurd (by decide) h7)
    refine PW_aload_n c_M_back_36 rfl ?_
    refine PW_get (v := .ref 100) c_M_back_37 fl_M_99 (gf_70_46 _ _) ?_
    refine PW_iconst (v := 0) c_M_back_40 (by decide) ?_
    refine PW_iald (j := 0) c_M_back_41 (ar_100 _ _) (vp_in_iff.mpr (by decide)) rfl ?_
    show PW _ _ _ 42 [some (.ref 70), some (.int 6)] [.int ((upd (upd (upd (upd (upd (upd (y.2.1 100) 0 ((y.2.1 101) 0)) 1 ((y.2.1 101) 1)) 2 ((y.2.1 101) 2)) 3 ((y.2.1 101) 3)) 4 ((y.2.1 101) 4)) 5 ((y.2.1 101) 5)) 0)] (E (sI (sI (sI (sI (sI (sI x 386 ((x.2.1 47) 1)) 387 ((x.2.1 47) 0)) 388 ((x.2.1 47) 2)) 372 ((x.2.1 47) 3)) 373 ((x.2.1 47) 4)) 374 ((x.2.1 47) 5)) (sA (sA (sA (sA (sA (sA y 100 (upd (y.2.1 100) 0 ((y.2.1 101) 0))) 100 (upd (upd (y.2.1 100) 0 ((y.2.1 101) 0)) 1 ((y.2.1 101) 1))) 100 (upd (upd (upd (y.2.1 100) 0 ((y.2.1 101) 0)) 1 ((y.2.1 101) 1)) 2 ((y.2.1 101) 2))) 100 (upd (upd (upd (upd (y.2.1 100) 0 ((y.2.1 101) 0)) 1 ((y.2.1 101) 1)) 2 ((y.2.1 101) 2)) 3 ((y.2.1 101) 3))) 100 (upd (upd (upd (upd (upd (y.2.1 100) 0 ((y.2.1 101) 0)) 1 ((y.2.1 101) 1)) 2 ((y.2.1 101) 2)) 3 ((y.2.1 101) 3)) 4 ((y.2.1 101) 4))) 100 (upd (upd (upd (upd (upd (upd (y.2.1 100) 0 ((y.2.1 101) 0)) 1 ((y.2.1 101) 1)) 2 ((y.2.1 101) 2)) 3 ((y.2.1 101) 3)) 4 ((y.2.1 101) 4)) 5 ((y.2.1 101) 5))))
    refine PW_ireturn (ty := .int) c_M_back_42 rfl rfl ?_
    exact h
set_option maxHeartbeats 4000000 in
theorem op_image {t : Nat} {x y : XS} (hI : INV t x y) (ht : t < 512) : ∃ (r : Int32) (x' y' : XS), INV (t + 1) x' y' ∧ (∀ {z : ZS} {post : Option Value → List PE → Prop}, post (some (.int r)) (E x' y) → PW (90, 0, 0, z) m_G_image post 0 [some (.ref 5)] [] (E x y)) ∧ (∀ {z : ZS} {post : Option Value → List PE → Prop}, post (some (.int r)) (E x' y') → PW (90, 0, 0, z) m_M_image post 0 [some (.ref 70), none] [] (E x' y)) := by
  obtain ⟨hg, hc, ht0, hl, hd, hb, hs⟩ := id hI
  obtain ⟨d1, d2, d3, d4, d5, d6, d7, d8, d9, d10, d11⟩ := id hd

  refine ⟨y.2.1 100 0, sI (sA (sA (sA (sA (sA (sA x 47 (upd (x.2.1 47) 0 (x.1 387))) 47 (upd (upd (x.2.1 47) 0 (x.1 387)) 1 (x.1 386))) 47 (upd (upd (upd (x.2.1 47) 0 (x.1 387)) 1 (x.1 386)) 2 (x.1 388))) 47 (upd (upd (upd (upd (x.2.1 47) 0 (x.1 387)) 1 (x.1 386)) 2 (x.1 388)) 3 (x.1 372))) 47 (upd (upd (upd (upd (upd (x.2.1 47) 0 (x.1 387)) 1 (x.1 386)) 2 (x.1 388)) 3 (x.1 372)) 4 (x.1 373))) 47 (upd (upd (upd (upd (upd (upd (x.2.1 47) 0 (x.1 387)) 1 (x.1 386)) 2 (x.1 388)) 3 (x.1 372)) 4 (x.1 373)) 5 (x.1 374))) 371 1, sA (sA (sA (sA (sA (sA (sI y 608 1) 101 (upd (y.2.1 101) 0 ((y.2.1 100) 0))) 101 (upd (upd (y.2.1 101) 0 ((y.2.1 100) 0)) 1 ((y.2.1 100) 1))) 101 (upd (upd (upd (y.2.1 101) 0 ((y.2.1 100) 0)) 1 ((y.2.1 100) 1)) 2 ((y.2.1 100) 2))) 101 (upd (upd (upd (upd (y.2.1 101) 0 ((y.2.1 100) 0)) 1 ((y.2.1 100) 1)) 2 ((y.2.1 100) 2)) 3 ((y.2.1 100) 3))) 101 (upd (upd (upd (upd (upd (y.2.1 101) 0 ((y.2.1 100) 0)) 1 ((y.2.1 100) 1)) 2 ((y.2.1 100) 2)) 3 ((y.2.1 100) 3)) 4 ((y.2.1 100) 4))) 101 (upd (upd (upd (upd (upd (upd (y.2.1 101) 0 ((y.2.1 100) 0)) 1 ((y.2.1 100) 1)) 2 ((y.2.1 100) 2)) 3 ((y.2.1 100) 3)) 4 ((y.2.1 100) 4)) 5 ((y.2.1 100) 5)), ?_, fun {z post} h => ?_, fun {z post} h => ?_⟩
  · refine ⟨hg.cg (fun n q1 q2 => by first | rfl | (simp only [sI_1, sI_A, sI_G, sA_1, sA_A, sA_G, sG_1, sG_A, sG_G]; repeat rw [if_neg (by omega)])) (fun n q1 q2 => by first | rfl | (simp only [sI_1, sI_A, sI_G, sA_1, sA_A, sA_G, sG_1, sG_A, sG_G]; repeat rw [if_neg (by omega)])) (by first | rfl | (simp only [sI_1, sI_A, sI_G, sA_1, sA_A, sA_G, sG_1, sG_A, sG_G]; repeat rw [if_neg (by omega)])) (fun n q1 q2 => by first | rfl | (simp only [sI_1, sI_A, sI_G, sA_1, sA_A, sA_G, sG_1, sG_A, sG_G]; repeat rw [if_neg (by omega)])), hc.cg (fun n q1 q2 => by first | rfl | (simp only [sI_1, sI_A, sI_G, sA_1, sA_A, sA_G, sG_1, sG_A, sG_G]; repeat rw [if_neg (by omega)])) (fun n q1 q2 => by first | rfl | (simp only [sI_1, sI_A, sI_G, sA_1, sA_A, sA_G, sG_1, sG_A, sG_G]; repeat rw [if_neg (by omega)])) (fun n q1 q2 => by first | rfl | (simp only [sI_1, sI_A, sI_G, sA_1, sA_A, sA_G, sG_1, sG_A, sG_G]; repeat rw [if_neg (by omega)])) (fun n q1 q2 => by first | rfl | (simp only [sI_1, sI_A, sI_G, sA_1, sA_A, sA_G, sG_1, sG_A, sG_G]; repeat rw [if_neg (by omega)])) (Nat.le_of_eq (nG_cg (by first | rfl | (simp only [sI_1, sI_A, sI_G, sA_1, sA_A, sA_G, sG_1, sG_A, sG_G]; repeat rw [if_neg (by omega)]))).symm), ht0.cg (by first | rfl | (simp only [sI_1, sI_A, sI_G, sA_1, sA_A, sA_G, sG_1, sG_A, sG_G]; repeat rw [if_neg (by omega)])) (by first | rfl | (simp only [sI_1, sI_A, sI_G, sA_1, sA_A, sA_G, sG_1, sG_A, sG_G]; repeat rw [if_neg (by omega)])) (by first | rfl | (simp only [sI_1, sI_A, sI_G, sA_1, sA_A, sA_G, sG_1, sG_A, sG_G]; repeat rw [if_neg (by omega)])) (by first | rfl | (simp only [sI_1, sI_A, sI_G, sA_1, sA_A, sA_G, sG_1, sG_A, sG_G]; repeat rw [if_neg (by omega)])), hl.cg (by first | rfl | (simp only [sI_1, sI_A, sI_G, sA_1, sA_A, sA_G, sG_1, sG_A, sG_G]; repeat rw [if_neg (by omega)])) (fun n q1 q2 => by first | rfl | (simp only [sI_1, sI_A, sI_G, sA_1, sA_A, sA_G, sG_1, sG_A, sG_G]; repeat rw [if_neg (by omega)])) (by first | rfl | (simp only [sI_1, sI_A, sI_G, sA_1, sA_A, sA_G, sG_1, sG_A, sG_G]; repeat rw [if_neg (by omega)])) (fun n q1 q2 => by first | rfl | (simp only [sI_1, sI_A, sI_G, sA_1, sA_A, sA_G, sG_1, sG_A, sG_G]; repeat rw [if_neg (by omega)])), ?_, hb.cg (fun n q1 q2 => by first | rfl | (simp only [sI_1, sI_A, sI_G, sA_1, sA_A, sA_G, sG_1, sG_A, sG_G]; repeat rw [if_neg (by omega)])) (fun n q1 q2 => by first | rfl | (simp only [sI_1, sI_A, sI_G, sA_1, sA_A, sA_G, sG_1, sG_A, sG_G]; repeat rw [if_neg (by omega)])) (fun n q1 q2 => by first | rfl | (simp only [sI_1, sI_A, sI_G, sA_1, sA_A, sA_G, sG_1, sG_A, sG_G]; repeat rw [if_neg (by omega)])) (fun n q1 q2 => by first | rfl | (simp only [sI_1, sI_A, sI_G, sA_1, sA_A, sA_G, sG_1, sG_A, sG_G]; repeat rw [if_neg (by omega)])), hs.cg (fun n q1 q2 => by first | rfl | (simp only [sI_1, sI_A, sI_G, sA_1, sA_A, sA_G, sG_1, sG_A, sG_G]; repeat rw [if_neg (by omega)])) (fun n q1 q2 => by first | rfl | (simp only [sI_1, sI_A, sI_G, sA_1, sA_A, sA_G, sG_1, sG_A, sG_G]; repeat rw [if_neg (by omega)])) (by first | exact Int.le_refl _ | (simp only [sI_1, sI_A, sI_G, sA_1, sA_A, sA_G, sG_1, sG_A, sG_G]; repeat rw [if_neg (by omega)])) (fun n q1 q2 => by first | rfl | (simp only [sI_1, sI_A, sI_G, sA_1, sA_A, sA_G, sG_1, sG_A, sG_G]; repeat rw [if_neg (by omega)])) (by first | rfl | (simp only [sI_1, sI_A, sI_G, sA_1, sA_A, sA_G, sG_1, sG_A, sG_G]; repeat rw [if_neg (by omega)]))⟩
    · refine ⟨d1, d2, d3, d4, d5, d6, okd_up (Nat.le_succ _) d7, fun i hi => ?_, okd_eq (f := y.2.1 100) rfl rfl rfl rfl rfl rfl (okd_up (Nat.le_succ _) d7), rfl, Or.inr rfl⟩
      match i, hi with
      | 0, _ => exact d1
      | 1, _ => exact d2
      | 2, _ => exact d3
      | 3, _ => exact d4
      | 4, _ => exact d5
      | 5, _ => exact d6
      | n + 6, hi => omega
  · refine PW.deeper (k := (3, 0, 0, z)) (Nat.le_of_ble_eq_true rfl) (Nat.le_refl _) (Nat.le_refl _) ?_
    refine PW_aload_n c_G_image_0 rfl ?_
    refine PW_get (v := .ref 46) c_G_image_1 fl_G_65 (gf_5_7 _ _) ?_
    refine PW_V0 (d2 := 2) (st := []) [] c_G_image_4 lk_G_image_279 (po_46 _ _) rfl rfl rfl (Nat.le_of_ble_eq_true rfl) (by first | decide | omega) (Nat.le_of_ble_eq_true rfl) ?_
    show PW _ _ _ 0 [some (.ref 46), none] [] (E x y)
    refine PW_iconst (v := 0) c_E_keepImage_0 (by decide) ?_
    refine PW_istore_n (i := 1) (L2 := [some (.ref 46), some (.int 0)]) c_E_keepImage_1 rfl (Nat.le_of_ble_eq_true rfl) rfl rfl ?_
    refine PW_iload_n c_E_keepImage_2 rfl ?_
    refine PW_bipush (v := 6) c_E_keepImage_3 (by decide) ?_
    refine PW_icmp_ge c_E_keepImage_5 (fun h0 => absurd h0 (by decide)) (fun _ => ?_)
    refine PW_aload_n c_E_keepImage_8 rfl ?_
    refine PW_get (v := .ref 47) c_E_keepImage_9 fl_E_11 (gf_46_2 _ _) ?_
    refine PW_iload_n c_E_keepImage_12 rfl ?_
    refine PW_aload_n c_E_keepImage_13 rfl ?_
    refine PW_iload_n c_E_keepImage_14 rfl ?_
    refine PW_V0 (d2 := 1) (st := [.int 0, .ref 47]) [.int 0] c_E_keepImage_15 lk_E_keepImage_72 (po_46 _ _) rfl rfl rfl (Nat.le_of_ble_eq_true rfl) (by first | decide | omega) (Nat.le_of_ble_eq_true rfl) ?_
    show PW _ _ _ 0 [some (.ref 46), some (.int 0)] [] (E x y)
    refine PW_iload_n c_E_told_0 rfl ?_
    refine PW_tableIn (tgt := 40) c_E_told_1 (by decide) (by decide) rfl rfl ?_
    refine PW_aload_n c_E_told_40 rfl ?_
    refine PW_get (v := .ref 48) c_E_told_41 fl_E_24 (gf_46_1 _ _) ?_
    refine PW_V0 (d2 := 0) (st := []) [] c_E_told_44 lk_E_told_32 (po_48 _ _) rfl rfl rfl (Nat.le_of_ble_eq_true rfl) (by first | decide | omega) (Nat.le_of_ble_eq_true rfl) ?_
    show PW _ _ _ 0 [some (.ref 48)] [] (E x y)
    refine PW_aload_n c_V_minute_0 rfl ?_
    refine PW_get (v := .int (x.1 387)) c_V_minute_1 fl_V_27 (gf_48_3 _ _) ?_
    refine PW_ireturn (ty := .int) c_V_minute_4 rfl rfl ?_
    show PW _ _ _ 47 [some (.ref 46), some (.int 0)] [.int (x.1 387)] (E x y)
    refine PW_ireturn (ty := .int) c_E_told_47 rfl rfl ?_
    show PW _ _ _ 18 [some (.ref 46), some (.int 0)] [.int (x.1 387), .int 0, .ref 47] (E x y)
    refine PW_iast (j := 0) (w2 := E (sA x 47 (upd (x.2.1 47) 0 (x.1 387))) y) c_E_keepImage_18 (ar_47 _ _) (vp_in_iff.mpr (by decide)) rfl (aw_47 _ _ _) ?_
    refine PW_iinc (i := 1) (v := 1) (L2 := [some (.ref 46), some (.int 1)]) c_E_keepImage_19 rfl (by decide) (Nat.le_of_ble_eq_true rfl) rfl rfl ?_
    refine PW_goto c_E_keepImage_22 ?_
    refine PW_iload_n c_E_keepImage_2 rfl ?_
    refine PW_bipush (v := 6) c_E_keepImage_3 (by decide) ?_
    refine PW_icmp_ge c_E_keepImage_5 (fun h1 => absurd h1 (by decide)) (fun _ => ?_)
    refine PW_aload_n c_E_keepImage_8 rfl ?_
    refine PW_get (v := .ref 47) c_E_keepImage_9 fl_E_11 (gf_46_2 _ _) ?_
    refine PW_iload_n c_E_keepImage_12 rfl ?_
    refine PW_aload_n c_E_keepImage_13 rfl ?_
    refine PW_iload_n c_E_keepImage_14 rfl ?_
    refine PW_V0 (d2 := 1) (st := [.int 1, .ref 47]) [.int 1] c_E_keepImage_15 lk_E_keepImage_72 (po_46 _ _) rfl rfl rfl (Nat.le_of_ble_eq_true rfl) (by first | decide | omega) (Nat.le_of_ble_eq_true rfl) ?_
    show PW _ _ _ 0 [some (.ref 46), some (.int 1)] [] (E (sA x 47 (upd (x.2.1 47) 0 (x.1 387))) y)
    refine PW_iload_n c_E_told_0 rfl ?_
    refine PW_tableIn (tgt := 48) c_E_told_1 (by decide) (by decide) rfl rfl ?_
    refine PW_aload_n c_E_told_48 rfl ?_
    refine PW_get (v := .ref 48) c_E_told_49 fl_E_24 (gf_46_1 _ _) ?_
    refine PW_V0 (d2 := 0) (st := []) [] c_E_told_52 lk_E_told_47 (po_48 _ _) rfl rfl rfl (Nat.le_of_ble_eq_true rfl) (by first | decide | omega) (Nat.le_of_ble_eq_true rfl) ?_
    show PW _ _ _ 0 [some (.ref 48)] [] (E (sA x 47 (upd (x.2.1 47) 0 (x.1 387))) y)
    refine PW_aload_n c_V_room_0 rfl ?_
    refine PW_get (v := .int (x.1 386)) c_V_room_1 fl_V_23 (gf_48_2 _ _) ?_
    refine PW_ireturn (ty := .int) c_V_room_4 rfl rfl ?_
    show PW _ _ _ 55 [some (.ref 46), some (.int 1)] [.int (x.1 386)] (E (sA x 47 (upd (x.2.1 47) 0 (x.1 387))) y)
    refine PW_ireturn (ty := .int) c_E_told_55 rfl rfl ?_
    show PW _ _ _ 18 [some (.ref 46), some (.int 1)] [.int (x.1 386), .int 1, .ref 47] (E (sA x 47 (upd (x.2.1 47) 0 (x.1 387))) y)
    refine PW_iast (j := 1) (w2 := E (sA (sA x 47 (upd (x.2.1 47) 0 (x.1 387))) 47 (upd (upd (x.2.1 47) 0 (x.1 387)) 1 (x.1 386))) y) c_E_keepImage_18 (ar_47 _ _) (vp_in_iff.mpr (by decide)) rfl (aw_47 _ _ _) ?_
    refine PW_iinc (i := 1) (v := 2) (L2 := [some (.ref 46), some (.int 2)]) c_E_keepImage_19 rfl (by decide) (Nat.le_of_ble_eq_true rfl) rfl rfl ?_
    refine PW_goto c_E_keepImage_22 ?_
    refine PW_iload_n c_E_keepImage_2 rfl ?_
    refine PW_bipush (v := 6) c_E_keepImage_3 (by decide) ?_
    refine PW_icmp_ge c_E_keepImage_5 (fun h2 => absurd h2 (by decide)) (fun _ => ?_)
    refine PW_aload_n c_E_keepImage_8 rfl ?_
    refine PW_get (v := .ref 47) c_E_keepImage_9 fl_E_11 (gf_46_2 _ _) ?_
    refine PW_iload_n c_E_keepImage_12 rfl ?_
    refine PW_aload_n c_E_keepImage_13 rfl ?_
    refine PW_iload_n c_E_keepImage_14 rfl ?_
    refine PW_V0 (d2 := 1) (st := [.int 2, .ref 47]) [.int 2] c_E_keepImage_15 lk_E_keepImage_72 (po_46 _ _) rfl rfl rfl (Nat.le_of_ble_eq_true rfl) (by first | decide | omega) (Nat.le_of_ble_eq_true rfl) ?_
    show PW _ _ _ 0 [some (.ref 46), some (.int 2)] [] (E (sA (sA x 47 (upd (x.2.1 47) 0 (x.1 387))) 47 (upd (upd (x.2.1 47) 0 (x.1 387)) 1 (x.1 386))) y)
    refine PW_iload_n c_E_told_0 rfl ?_
    refine PW_tableIn (tgt := 56) c_E_told_1 (by decide) (by decide) rfl rfl ?_
    refine PW_aload_n c_E_told_56 rfl ?_
    refine PW_get (v := .ref 48) c_E_told_57 fl_E_24 (gf_46_1 _ _) ?_
    refine PW_V0 (d2 := 0) (st := []) [] c_E_told_60 lk_E_told_50 (po_48 _ _) rfl rfl rfl (Nat.le_of_ble_eq_true rfl) (by first | decide | omega) (Nat.le_of_ble_eq_true rfl) ?_
    show PW _ _ _ 0 [some (.ref 48)] [] (E (sA (sA x 47 (upd (x.2.1 47) 0 (x.1 387))) 47 (upd (upd (x.2.1 47) 0 (x.1 387)) 1 (x.1 386))) y)
    refine PW_aload_n c_V_told_0 rfl ?_
    refine PW_get (v := .int (x.1 388)) c_V_told_1 fl_V_30 (gf_48_4 _ _) ?_
    refine PW_ireturn (ty := .int) c_V_told_4 rfl rfl ?_
    show PW _ _ _ 63 [some (.ref 46), some (.int 2)] [.int (x.1 388)] (E (sA (sA x 47 (upd (x.2.1 47) 0 (x.1 387))) 47 (upd (upd (x.2.1 47) 0 (x.1 387)) 1 (x.1 386))) y)
    refine PW_ireturn (ty := .int) c_E_told_63 rfl rfl ?_
    show PW _ _ _ 18 [some (.ref 46), some (.int 2)] [.int (x.1 388), .int 2, .ref 47] (E (sA (sA x 47 (upd (x.2.1 47) 0 (x.1 387))) 47 (upd (upd (x.2.1 47) 0 (x.1 387)) 1 (x.1 386))) y)
    refine PW_iast (j := 2) (w2 := E (sA (sA (sA x 47 (upd (x.2.1 47) 0 (x.1 387))) 47 (upd (upd (x.2.1 47) 0 (x.1 387)) 1 (x.1 386))) 47 (upd (upd (upd (x.2.1 47) 0 (x.1 387)) 1 (x.1 386)) 2 (x.1 388))) y) c_E_keepImage_18 (ar_47 _ _) (vp_in_iff.mpr (by decide)) rfl (aw_47 _ _ _) ?_
    refine PW_iinc (i := 1) (v := 3) (L2 := [some (.ref 46), some (.int 3)]) c_E_keepImage_19 rfl (by decide) (Nat.le_of_ble_eq_true rfl) rfl rfl ?_
    refine PW_goto c_E_keepImage_22 ?_
    refine PW_iload_n c_E_keepImage_2 rfl ?_
    refine PW_bipush (v := 6) c_E_keepImage_3 (by decide) ?_
    refine PW_icmp_ge c_E_keepImage_5 (fun h3 => absurd h3 (by decide)) (fun _ => ?_)
    refine PW_aload_n c_E_keepImage_8 rfl ?_
    refine PW_get (v := .ref 47) c_E_keepImage_9 fl_E_11 (gf_46_2 _ _) ?_
    refine PW_iload_n c_E_keepImage_12 rfl ?_
    refine PW_aload_n c_E_keepImage_13 rfl ?_
    refine PW_iload_n c_E_keepImage_14 rfl ?_
    refine PW_V0 (d2 := 1) (st := [.int 3, .ref 47]) [.int 3] c_E_keepImage_15 lk_E_keepImage_72 (po_46 _ _) rfl rfl rfl (Nat.le_of_ble_eq_true rfl) (by first | decide | omega) (Nat.le_of_ble_eq_true rfl) ?_
    show PW _ _ _ 0 [some (.ref 46), some (.int 3)] [] (E (sA (sA (sA x 47 (upd (x.2.1 47) 0 (x.1 387))) 47 (upd (upd (x.2.1 47) 0 (x.1 387)) 1 (x.1 386))) 47 (upd (upd (upd (x.2.1 47) 0 (x.1 387)) 1 (x.1 386)) 2 (x.1 388))) y)
    refine PW_iload_n c_E_told_0 rfl ?_
    refine PW_tableIn (tgt := 64) c_E_told_1 (by decide) (by decide) rfl rfl ?_
    refine PW_aload_n c_E_told_64 rfl ?_
    refine PW_get (v := .int (x.1 372)) c_E_told_65 fl_E_40 (gf_46_4 _ _) ?_
    refine PW_ireturn (ty := .int) c_E_told_68 rfl rfl ?_
    show PW _ _ _ 18 [some (.ref 46), some (.int 3)] [.int (x.1 372), .int 3, .ref 47] (E (sA (sA (sA x 47 (upd (x.2.1 47) 0 (x.1 387))) 47 (upd (upd (x.2.1 47) 0 (x.1 387)) 1 (x.1 386))) 47 (upd (upd (upd (x.2.1 47) 0 (x.1 387)) 1 (x.1 386)) 2 (x.1 388))) y)
    refine PW_iast (j := 3) (w2 := E (sA (sA (sA (sA x 47 (upd (x.2.1 47) 0 (x.1 387))) 47 (upd (upd (x.2.1 47) 0 (x.1 387)) 1 (x.1 386))) 47 (upd (upd (upd (x.2.1 47) 0 (x.1 387)) 1 (x.1 386)) 2 (x.1 388))) 47 (upd (upd (upd (upd (x.2.1 47) 0 (x.1 387)) 1 (x.1 386)) 2 (x.1 388)) 3 (x.1 372))) y) c_E_keepImage_18 (ar_47 _ _) (vp_in_iff.mpr (by decide)) rfl (aw_47 _ _ _) ?_
    refine PW_iinc (i := 1) (v := 4) (L2 := [some (.ref 46), some (.int 4)]) c_E_keepImage_19 rfl (by decide) (Nat.le_of_ble_eq_true rfl) rfl rfl ?_
    refine PW_goto c_E_keepImage_22 ?_
    refine PW_iload_n c_E_keepImage_2 rfl ?_
    refine PW_bipush (v := 6) c_E_keepImage_3 (by decide) ?_
    refine PW_icmp_ge c_E_keepImage_5 (fun h4 => absurd h4 (by decide)) (fun _ => ?_)
    refine PW_aload_n c_E_keepImage_8 rfl ?_
    refine PW_get (v := .ref 47) c_E_keepImage_9 fl_E_11 (gf_46_2 _ _) ?_
    refine PW_iload_n c_E_keepImage_12 rfl ?_
    refine PW_aload_n c_E_keepImage_13 rfl ?_
    refine PW_iload_n c_E_keepImage_14 rfl ?_
    refine PW_V0 (d2 := 1) (st := [.int 4, .ref 47]) [.int 4] c_E_keepImage_15 lk_E_keepImage_72 (po_46 _ _) rfl rfl rfl (Nat.le_of_ble_eq_true rfl) (by first | decide | omega) (Nat.le_of_ble_eq_true rfl) ?_
    show PW _ _ _ 0 [some (.ref 46), some (.int 4)] [] (E (sA (sA (sA (sA x 47 (upd (x.2.1 47) 0 (x.1 387))) 47 (upd (upd (x.2.1 47) 0 (x.1 387)) 1 (x.1 386))) 47 (upd (upd (upd (x.2.1 47) 0 (x.1 387)) 1 (x.1 386)) 2 (x.1 388))) 47 (upd (upd (upd (upd (x.2.1 47) 0 (x.1 387)) 1 (x.1 386)) 2 (x.1 388)) 3 (x.1 372))) y)
    refine PW_iload_n c_E_told_0 rfl ?_
    refine PW_tableIn (tgt := 69) c_E_told_1 (by decide) (by decide) rfl rfl ?_
    refine PW_aload_n c_E_told_69 rfl ?_
    refine PW_get (v := .int (x.1 373)) c_E_told_70 fl_E_58 (gf_46_5 _ _) ?_
    refine PW_ireturn (ty := .int) c_E_told_73 rfl rfl ?_
    show PW _ _ _ 18 [some (.ref 46), some (.int 4)] [.int (x.1 373), .int 4, .ref 47] (E (sA (sA (sA (sA x 47 (upd (x.2.1 47) 0 (x.1 387))) 47 (upd (upd (x.2.1 47) 0 (x.1 387)) 1 (x.1 386))) 47 (upd (upd (upd (x.2.1 47) 0 (x.1 387)) 1 (x.1 386)) 2 (x.1 388))) 47 (upd (upd (upd (upd (x.2.1 47) 0 (x.1 387)) 1 (x.1 386)) 2 (x.1 388)) 3 (x.1 372))) y)
    refine PW_iast (j := 4) (w2 := E (sA (sA (sA (sA (sA x 47 (upd (x.2.1 47) 0 (x.1 387))) 47 (upd (upd (x.2.1 47) 0 (x.1 387)) 1 (x.1 386))) 47 (upd (upd (upd (x.2.1 47) 0 (x.1 387)) 1 (x.1 386)) 2 (x.1 388))) 47 (upd (upd (upd (upd (x.2.1 47) 0 (x.1 387)) 1 (x.1 386)) 2 (x.1 388)) 3 (x.1 372))) 47 (upd (upd (upd (upd (upd (x.2.1 47) 0 (x.1 387)) 1 (x.1 386)) 2 (x.1 388)) 3 (x.1 372)) 4 (x.1 373))) y) c_E_keepImage_18 (ar_47 _ _) (vp_in_iff.mpr (by decide)) rfl (aw_47 _ _ _) ?_
    refine PW_iinc (i := 1) (v := 5) (L2 := [some (.ref 46), some (.int 5)]) c_E_keepImage_19 rfl (by decide) (Nat.le_of_ble_eq_true rfl) rfl rfl ?_
    refine PW_goto c_E_keepImage_22 ?_
    refine PW_iload_n c_E_keepImage_2 rfl ?_
    refine PW_bipush (v := 6) c_E_keepImage_3 (by decide) ?_
    refine PW_icmp_ge c_E_keepImage_5 (fun h5 => absurd h5 (by decide)) (fun _ => ?_)
    refine PW_aload_n c_E_keepImage_8 rfl ?_
    refine PW_get (v := .ref 47) c_E_keepImage_9 fl_E_11 (gf_46_2 _ _) ?_
    refine PW_iload_n c_E_keepImage_12 rfl ?_
    refine PW_aload_n c_E_keepImage_13 rfl ?_
    refine PW_iload_n c_E_keepImage_14 rfl ?_
    refine PW_V0 (d2 := 1) (st := [.int 5, .ref 47]) [.int 5] c_E_keepImage_15 lk_E_keepImage_72 (po_46 _ _) rfl rfl rfl (Nat.le_of_ble_eq_true rfl) (by first | decide | omega) (Nat.le_of_ble_eq_true rfl) ?_
    show PW _ _ _ 0 [some (.ref 46), some (.int 5)] [] (E (sA (sA (sA (sA (sA x 47 (upd (x.2.1 47) 0 (x.1 387))) 47 (upd (upd (x.2.1 47) 0 (x.1 387)) 1 (x.1 386))) 47 (upd (upd (upd (x.2.1 47) 0 (x.1 387)) 1 (x.1 386)) 2 (x.1 388))) 47 (upd (upd (upd (upd (x.2.1 47) 0 (x.1 387)) 1 (x.1 386)) 2 (x.1 388)) 3 (x.1 372))) 47 (upd (upd (upd (upd (upd (x.2.1 47) 0 (x.1 387)) 1 (x.1 386)) 2 (x.1 388)) 3 (x.1 372)) 4 (x.1 373))) y)
    refine PW_iload_n c_E_told_0 rfl ?_
    refine PW_tableIn (tgt := 74) c_E_told_1 (by decide) (by decide) rfl rfl ?_
    refine PW_aload_n c_E_told_74 rfl ?_
    refine PW_get (v := .int (x.1 374)) c_E_told_75 fl_E_61 (gf_46_6 _ _) ?_
    refine PW_ireturn (ty := .int) c_E_told_78 rfl rfl ?_
    show PW _ _ _ 18 [some (.ref 46), some (.int 5)] [.int (x.1 374), .int 5, .ref 47] (E (sA (sA (sA (sA (sA x 47 (upd (x.2.1 47) 0 (x.1 387))) 47 (upd (upd (x.2.1 47) 0 (x.1 387)) 1 (x.1 386))) 47 (upd (upd (upd (x.2.1 47) 0 (x.1 387)) 1 (x.1 386)) 2 (x.1 388))) 47 (upd (upd (upd (upd (x.2.1 47) 0 (x.1 387)) 1 (x.1 386)) 2 (x.1 388)) 3 (x.1 372))) 47 (upd (upd (upd (upd (upd (x.2.1 47) 0 (x.1 387)) 1 (x.1 386)) 2 (x.1 388)) 3 (x.1 372)) 4 (x.1 373))) y)
    refine PW_iast (j := 5) (w2 := E (sA (sA (sA (sA (sA (sA x 47 (upd (x.2.1 47) 0 (x.1 387))) 47 (upd (upd (x.2.1 47) 0 (x.1 387)) 1 (x.1 386))) 47 (upd (upd (upd (x.2.1 47) 0 (x.1 387)) 1 (x.1 386)) 2 (x.1 388))) 47 (upd (upd (upd (upd (x.2.1 47) 0 (x.1 387)) 1 (x.1 386)) 2 (x.1 388)) 3 (x.1 372))) 47 (upd (upd (upd (upd (upd (x.2.1 47) 0 (x.1 387)) 1 (x.1 386)) 2 (x.1 388)) 3 (x.1 372)) 4 (x.1 373))) 47 (upd (upd (upd (upd (upd (upd (x.2.1 47) 0 (x.1 387)) 1 (x.1 386)) 2 (x.1 388)) 3 (x.1 372)) 4 (x.1 373)) 5 (x.1 374))) y) c_E_keepImage_18 (ar_47 _ _) (vp_in_iff.mpr (by decide)) rfl (aw_47 _ _ _) ?_
    refine PW_iinc (i := 1) (v := 6) (L2 := [some (.ref 46), some (.int 6)]) c_E_keepImage_19 rfl (by decide) (Nat.le_of_ble_eq_true rfl) rfl rfl ?_
    refine PW_goto c_E_keepImage_22 ?_
    refine PW_iload_n c_E_keepImage_2 rfl ?_
    refine PW_bipush (v := 6) c_E_keepImage_3 (by decide) ?_
    refine PW_icmp_ge c_E_keepImage_5 (fun _ => ?_) (fun h6 => absurd (by decide) h6)
    refine PW_aload_n c_E_keepImage_25 rfl ?_
    refine PW_iconst (v := 1) c_E_keepImage_26 (by decide) ?_
    refine PW_put (w2 := E (sI (sA (sA (sA (sA (sA (sA x 47 (upd (x.2.1 47) 0 (x.1 387))) 47 (upd (upd (x.2.1 47) 0 (x.1 387)) 1 (x.1 386))) 47 (upd (upd (upd (x.2.1 47) 0 (x.1 387)) 1 (x.1 386)) 2 (x.1 388))) 47 (upd (upd (upd (upd (x.2.1 47) 0 (x.1 387)) 1 (x.1 386)) 2 (x.1 388)) 3 (x.1 372))) 47 (upd (upd (upd (upd (upd (x.2.1 47) 0 (x.1 387)) 1 (x.1 386)) 2 (x.1 388)) 3 (x.1 372)) 4 (x.1 373))) 47 (upd (upd (upd (upd (upd (upd (x.2.1 47) 0 (x.1 387)) 1 (x.1 386)) 2 (x.1 388)) 3 (x.1 372)) 4 (x.1 373)) 5 (x.1 374))) 371 1) y) c_E_keepImage_27 fp_E_keepImage_68 rfl (pf_46_3 _ _ _) ?_
    refine PW_aload_n c_E_keepImage_30 rfl ?_
    refine PW_get (v := .ref 48) c_E_keepImage_31 fl_E_24 (gf_46_1 _ _) ?_
    refine PW_V0 (d2 := 0) (st := []) [] c_E_keepImage_34 lk_E_keepImage_32 (po_48 _ _) rfl rfl rfl (Nat.le_of_ble_eq_true rfl) (by first | decide | omega) (Nat.le_of_ble_eq_true rfl) ?_
    show PW _ _ _ 0 [some (.ref 48)] [] (E (sI (sA (sA (sA (sA (sA (sA x 47 (upd (x.2.1 47) 0 (x.1 387))) 47 (upd (upd (x.2.1 47) 0 (x.1 387)) 1 (x.1 386))) 47 (upd (upd (upd (x.2.1 47) 0 (x.1 387)) 1 (x.1 386)) 2 (x.1 388))) 47 (upd (upd (upd (upd (x.2.1 47) 0 (x.1 387)) 1 (x.1 386)) 2 (x.1 388)) 3 (x.1 372))) 47 (upd (upd (upd (upd (upd (x.2.1 47) 0 (x.1 387)) 1 (x.1 386)) 2 (x.1 388)) 3 (x.1 372)) 4 (x.1 373))) 47 (upd (upd (upd (upd (upd (upd (x.2.1 47) 0 (x.1 387)) 1 (x.1 386)) 2 (x.1 388)) 3 (x.1 372)) 4 (x.1 373)) 5 (x.1 374))) 371 1) y)
    refine PW_aload_n c_V_minute_0 rfl ?_
    refine PW_get (v := .int (x.1 387)) c_V_minute_1 fl_V_27 (gf_48_3 _ _) ?_
    refine PW_ireturn (ty := .int) c_V_minute_4 rfl rfl ?_
    show PW _ _ _ 37 [some (.ref 46), some (.int 6)] [.int (x.1 387)] (E (sI (sA (sA (sA (sA (sA (sA x 47 (upd (x.2.1 47) 0 (x.1 387))) 47 (upd (upd (x.2.1 47) 0 (x.1 387)) 1 (x.1 386))) 47 (upd (upd (upd (x.2.1 47) 0 (x.1 387)) 1 (x.1 386)) 2 (x.1 388))) 47 (upd (upd (upd (upd (x.2.1 47) 0 (x.1 387)) 1 (x.1 386)) 2 (x.1 388)) 3 (x.1 372))) 47 (upd (upd (upd (upd (upd (x.2.1 47) 0 (x.1 387)) 1 (x.1 386)) 2 (x.1 388)) 3 (x.1 372)) 4 (x.1 373))) 47 (upd (upd (upd (upd (upd (upd (x.2.1 47) 0 (x.1 387)) 1 (x.1 386)) 2 (x.1 388)) 3 (x.1 372)) 4 (x.1 373)) 5 (x.1 374))) 371 1) y)
    refine PW_ireturn (ty := .int) c_E_keepImage_37 rfl rfl ?_
    show PW _ _ _ 7 [some (.ref 5)] [.int (x.1 387)] (E (sI (sA (sA (sA (sA (sA (sA x 47 (upd (x.2.1 47) 0 (x.1 387))) 47 (upd (upd (x.2.1 47) 0 (x.1 387)) 1 (x.1 386))) 47 (upd (upd (upd (x.2.1 47) 0 (x.1 387)) 1 (x.1 386)) 2 (x.1 388))) 47 (upd (upd (upd (upd (x.2.1 47) 0 (x.1 387)) 1 (x.1 386)) 2 (x.1 388)) 3 (x.1 372))) 47 (upd (upd (upd (upd (upd (x.2.1 47) 0 (x.1 387)) 1 (x.1 386)) 2 (x.1 388)) 3 (x.1 372)) 4 (x.1 373))) 47 (upd (upd (upd (upd (upd (upd (x.2.1 47) 0 (x.1 387)) 1 (x.1 386)) 2 (x.1 388)) 3 (x.1 372)) 4 (x.1 373)) 5 (x.1 374))) 371 1) y)
    refine PW_ireturn (ty := .int) c_G_image_7 rfl rfl ?_
    exact pqi h d1.symm
  · refine PW.deeper (k := (0, 0, 0, z)) (Nat.le_of_ble_eq_true rfl) (Nat.le_refl _) (Nat.le_refl _) ?_
    refine PW_aload_n c_M_image_0 rfl ?_
    refine PW_iconst (v := 1) c_M_image_1 (by decide) ?_
    refine PW_put (w2 := E (sI (sA (sA (sA (sA (sA (sA x 47 (upd (x.2.1 47) 0 (x.1 387))) 47 (upd (upd (x.2.1 47) 0 (x.1 387)) 1 (x.1 386))) 47 (upd (upd (upd (x.2.1 47) 0 (x.1 387)) 1 (x.1 386)) 2 (x.1 388))) 47 (upd (upd (upd (upd (x.2.1 47) 0 (x.1 387)) 1 (x.1 386)) 2 (x.1 388)) 3 (x.1 372))) 47 (upd (upd (upd (upd (upd (x.2.1 47) 0 (x.1 387)) 1 (x.1 386)) 2 (x.1 388)) 3 (x.1 372)) 4 (x.1 373))) 47 (upd (upd (upd (upd (upd (upd (x.2.1 47) 0 (x.1 387)) 1 (x.1 386)) 2 (x.1 388)) 3 (x.1 372)) 4 (x.1 373)) 5 (x.1 374))) 371 1) (sI y 608 1)) c_M_image_2 fp_M_image_352 rfl (pf_70_48 _ _ _) ?_
    refine PW_iconst (v := 0) c_M_image_5 (by decide) ?_
    refine PW_istore_n (i := 1) (L2 := [some (.ref 70), some (.int 0)]) c_M_image_6 rfl (Nat.le_of_ble_eq_true rfl) rfl rfl ?_
    refine PW_iload_n c_M_image_7 rfl ?_
    refine PW_bipush (v := 6) c_M_image_8 (by decide) ?_
    refine PW_icmp_ge c_M_image_10 (fun h0 => absurd h0 (by decide)) (fun _ => ?_)
    refine PW_aload_n c_M_image_13 rfl ?_
    refine PW_get (v := .ref 101) c_M_image_14 fl_M_102 (gf_70_47 _ _) ?_
    refine PW_iload_n c_M_image_17 rfl ?_
    refine PW_aload_n c_M_image_18 rfl ?_
    refine PW_get (v := .ref 100) c_M_image_19 fl_M_99 (gf_70_46 _ _) ?_
    refine PW_iload_n c_M_image_22 rfl ?_
    refine PW_iald (j := 0) c_M_image_23 (ar_100 _ _) (vp_in_iff.mpr (by decide)) rfl ?_
    show PW _ _ _ 24 [some (.ref 70), some (.int 0)] [.int ((y.2.1 100) 0), .int 0, .ref 101] (E (sI (sA (sA (sA (sA (sA (sA x 47 (upd (x.2.1 47) 0 (x.1 387))) 47 (upd (upd (x.2.1 47) 0 (x.1 387)) 1 (x.1 386))) 47 (upd (upd (upd (x.2.1 47) 0 (x.1 387)) 1 (x.1 386)) 2 (x.1 388))) 47 (upd (upd (upd (upd (x.2.1 47) 0 (x.1 387)) 1 (x.1 386)) 2 (x.1 388)) 3 (x.1 372))) 47 (upd (upd (upd (upd (upd (x.2.1 47) 0 (x.1 387)) 1 (x.1 386)) 2 (x.1 388)) 3 (x.1 372)) 4 (x.1 373))) 47 (upd (upd (upd (upd (upd (upd (x.2.1 47) 0 (x.1 387)) 1 (x.1 386)) 2 (x.1 388)) 3 (x.1 372)) 4 (x.1 373)) 5 (x.1 374))) 371 1) (sI y 608 1))
    refine PW_iast (j := 0) (w2 := E (sI (sA (sA (sA (sA (sA (sA x 47 (upd (x.2.1 47) 0 (x.1 387))) 47 (upd (upd (x.2.1 47) 0 (x.1 387)) 1 (x.1 386))) 47 (upd (upd (upd (x.2.1 47) 0 (x.1 387)) 1 (x.1 386)) 2 (x.1 388))) 47 (upd (upd (upd (upd (x.2.1 47) 0 (x.1 387)) 1 (x.1 386)) 2 (x.1 388)) 3 (x.1 372))) 47 (upd (upd (upd (upd (upd (x.2.1 47) 0 (x.1 387)) 1 (x.1 386)) 2 (x.1 388)) 3 (x.1 372)) 4 (x.1 373))) 47 (upd (upd (upd (upd (upd (upd (x.2.1 47) 0 (x.1 387)) 1 (x.1 386)) 2 (x.1 388)) 3 (x.1 372)) 4 (x.1 373)) 5 (x.1 374))) 371 1) (sA (sI y 608 1) 101 (upd (y.2.1 101) 0 ((y.2.1 100) 0)))) c_M_image_24 (ar_101 _ _) (vp_in_iff.mpr (by decide)) rfl (aw_101 _ _ _) ?_
    refine PW_iinc (i := 1) (v := 1) (L2 := [some (.ref 70), some (.int 1)]) c_M_image_25 rfl (by decide) (Nat.le_of_ble_eq_true rfl) rfl rfl ?_
    refine PW_goto c_M_image_28 ?_
    refine PW_iload_n c_M_image_7 rfl ?_
    refine PW_bipush (v := 6) c_M_image_8 (by decide) ?_
    refine PW_icmp_ge c_M_image_10 (fun h1 => absurd h1 (by decide)) (fun _ => ?_)
    refine PW_aload_n c_M_image_13 rfl ?_
    refine PW_get (v := .ref 101) c_M_image_14 fl_M_102 (gf_70_47 _ _) ?_
    refine PW_iload_n c_M_image_17 rfl ?_
    refine PW_aload_n c_M_image_18 rfl ?_
    refine PW_get (v := .ref 100) c_M_image_19 fl_M_99 (gf_70_46 _ _) ?_
    refine PW_iload_n c_M_image_22 rfl ?_
    refine PW_iald (j := 1) c_M_image_23 (ar_100 _ _) (vp_in_iff.mpr (by decide)) rfl ?_
    show PW _ _ _ 24 [some (.ref 70), some (.int 1)] [.int ((y.2.1 100) 1), .int 1, .ref 101] (E (sI (sA (sA (sA (sA (sA (sA x 47 (upd (x.2.1 47) 0 (x.1 387))) 47 (upd (upd (x.2.1 47) 0 (x.1 387)) 1 (x.1 386))) 47 (upd (upd (upd (x.2.1 47) 0 (x.1 387)) 1 (x.1 386)) 2 (x.1 388))) 47 (upd (upd (upd (upd (x.2.1 47) 0 (x.1 387)) 1 (x.1 386)) 2 (x.1 388)) 3 (x.1 372))) 47 (upd (upd (upd (upd (upd (x.2.1 47) 0 (x.1 387)) 1 (x.1 386)) 2 (x.1 388)) 3 (x.1 372)) 4 (x.1 373))) 47 (upd (upd (upd (upd (upd (upd (x.2.1 47) 0 (x.1 387)) 1 (x.1 386)) 2 (x.1 388)) 3 (x.1 372)) 4 (x.1 373)) 5 (x.1 374))) 371 1) (sA (sI y 608 1) 101 (upd (y.2.1 101) 0 ((y.2.1 100) 0))))
    refine PW_iast (j := 1) (w2 := E (sI (sA (sA (sA (sA (sA (sA x 47 (upd (x.2.1 47) 0 (x.1 387))) 47 (upd (upd (x.2.1 47) 0 (x.1 387)) 1 (x.1 386))) 47 (upd (upd (upd (x.2.1 47) 0 (x.1 387)) 1 (x.1 386)) 2 (x.1 388))) 47 (upd (upd (upd (upd (x.2.1 47) 0 (x.1 387)) 1 (x.1 386)) 2 (x.1 388)) 3 (x.1 372))) 47 (upd (upd (upd (upd (upd (x.2.1 47) 0 (x.1 387)) 1 (x.1 386)) 2 (x.1 388)) 3 (x.1 372)) 4 (x.1 373))) 47 (upd (upd (upd (upd (upd (upd (x.2.1 47) 0 (x.1 387)) 1 (x.1 386)) 2 (x.1 388)) 3 (x.1 372)) 4 (x.1 373)) 5 (x.1 374))) 371 1) (sA (sA (sI y 608 1) 101 (upd (y.2.1 101) 0 ((y.2.1 100) 0))) 101 (upd (upd (y.2.1 101) 0 ((y.2.1 100) 0)) 1 ((y.2.1 100) 1)))) c_M_image_24 (ar_101 _ _) (vp_in_iff.mpr (by decide)) rfl (aw_101 _ _ _) ?_
    refine PW_iinc (i := 1) (v := 2) (L2 := [some (.ref 70), some (.int 2)]) c_M_image_25 rfl (by decide) (Nat.le_of_ble_eq_true rfl) rfl rfl ?_
    refine PW_goto c_M_image_28 ?_
    refine PW_iload_n c_M_image_7 rfl ?_
    refine PW_bipush (v := 6) c_M_image_8 (by decide) ?_
    refine PW_icmp_ge c_M_image_10 (fun h2 => absurd h2 (by decide)) (fun _ => ?_)
    refine PW_aload_n c_M_image_13 rfl ?_
    refine PW_get (v := .ref 101) c_M_image_14 fl_M_102 (gf_70_47 _ _) ?_
    refine PW_iload_n c_M_image_17 rfl ?_
    refine PW_aload_n c_M_image_18 rfl ?_
    refine PW_get (v := .ref 100) c_M_image_19 fl_M_99 (gf_70_46 _ _) ?_
    refine PW_iload_n c_M_image_22 rfl ?_
    refine PW_iald (j := 2) c_M_image_23 (ar_100 _ _) (vp_in_iff.mpr (by decide)) rfl ?_
    show PW _ _ _ 24 [some (.ref 70), some (.int 2)] [.int ((y.2.1 100) 2), .int 2, .ref 101] (E (sI (sA (sA (sA (sA (sA (sA x 47 (upd (x.2.1 47) 0 (x.1 387))) 47 (upd (upd (x.2.1 47) 0 (x.1 387)) 1 (x.1 386))) 47 (upd (upd (upd (x.2.1 47) 0 (x.1 387)) 1 (x.1 386)) 2 (x.1 388))) 47 (upd (upd (upd (upd (x.2.1 47) 0 (x.1 387)) 1 (x.1 386)) 2 (x.1 388)) 3 (x.1 372))) 47 (upd (upd (upd (upd (upd (x.2.1 47) 0 (x.1 387)) 1 (x.1 386)) 2 (x.1 388)) 3 (x.1 372)) 4 (x.1 373))) 47 (upd (upd (upd (upd (upd (upd (x.2.1 47) 0 (x.1 387)) 1 (x.1 386)) 2 (x.1 388)) 3 (x.1 372)) 4 (x.1 373)) 5 (x.1 374))) 371 1) (sA (sA (sI y 608 1) 101 (upd (y.2.1 101) 0 ((y.2.1 100) 0))) 101 (upd (upd (y.2.1 101) 0 ((y.2.1 100) 0)) 1 ((y.2.1 100) 1))))
    refine PW_iast (j := 2) (w2 := E (sI (sA (sA (sA (sA (sA (sA x 47 (upd (x.2.1 47) 0 (x.1 387))) 47 (upd (upd (x.2.1 47) 0 (x.1 387)) 1 (x.1 386))) 47 (upd (upd (upd (x.2.1 47) 0 (x.1 387)) 1 (x.1 386)) 2 (x.1 388))) 47 (upd (upd (upd (upd (x.2.1 47) 0 (x.1 387)) 1 (x.1 386)) 2 (x.1 388)) 3 (x.1 372))) 47 (upd (upd (upd (upd (upd (x.2.1 47) 0 (x.1 387)) 1 (x.1 386)) 2 (x.1 388)) 3 (x.1 372)) 4 (x.1 373))) 47 (upd (upd (upd (upd (upd (upd (x.2.1 47) 0 (x.1 387)) 1 (x.1 386)) 2 (x.1 388)) 3 (x.1 372)) 4 (x.1 373)) 5 (x.1 374))) 371 1) (sA (sA (sA (sI y 608 1) 101 (upd (y.2.1 101) 0 ((y.2.1 100) 0))) 101 (upd (upd (y.2.1 101) 0 ((y.2.1 100) 0)) 1 ((y.2.1 100) 1))) 101 (upd (upd (upd (y.2.1 101) 0 ((y.2.1 100) 0)) 1 ((y.2.1 100) 1)) 2 ((y.2.1 100) 2)))) c_M_image_24 (ar_101 _ _) (vp_in_iff.mpr (by decide)) rfl (aw_101 _ _ _) ?_
    refine PW_iinc (i := 1) (v := 3) (L2 := [some (.ref 70), some (.int 3)]) c_M_image_25 rfl (by decide) (Nat.le_of_ble_eq_true rfl) rfl rfl ?_
    refine PW_goto c_M_image_28 ?_
    refine PW_iload_n c_M_image_7 rfl ?_
    refine PW_bipush (v := 6) c_M_image_8 (by decide) ?_
    refine PW_icmp_ge c_M_image_10 (fun h3 => absurd h3 (by decide)) (fun _ => ?_)
    refine PW_aload_n c_M_image_13 rfl ?_
    refine PW_get (v := .ref 101) c_M_image_14 fl_M_102 (gf_70_47 _ _) ?_
    refine PW_iload_n c_M_image_17 rfl ?_
    refine PW_aload_n c_M_image_18 rfl ?_
    refine PW_get (v := .ref 100) c_M_image_19 fl_M_99 (gf_70_46 _ _) ?_
    refine PW_iload_n c_M_image_22 rfl ?_
    refine PW_iald (j := 3) c_M_image_23 (ar_100 _ _) (vp_in_iff.mpr (by decide)) rfl ?_
    show PW _ _ _ 24 [some (.ref 70), some (.int 3)] [.int ((y.2.1 100) 3), .int 3, .ref 101] (E (sI (sA (sA (sA (sA (sA (sA x 47 (upd (x.2.1 47) 0 (x.1 387))) 47 (upd (upd (x.2.1 47) 0 (x.1 387)) 1 (x.1 386))) 47 (upd (upd (upd (x.2.1 47) 0 (x.1 387)) 1 (x.1 386)) 2 (x.1 388))) 47 (upd (upd (upd (upd (x.2.1 47) 0 (x.1 387)) 1 (x.1 386)) 2 (x.1 388)) 3 (x.1 372))) 47 (upd (upd (upd (upd (upd (x.2.1 47) 0 (x.1 387)) 1 (x.1 386)) 2 (x.1 388)) 3 (x.1 372)) 4 (x.1 373))) 47 (upd (upd (upd (upd (upd (upd (x.2.1 47) 0 (x.1 387)) 1 (x.1 386)) 2 (x.1 388)) 3 (x.1 372)) 4 (x.1 373)) 5 (x.1 374))) 371 1) (sA (sA (sA (sI y 608 1) 101 (upd (y.2.1 101) 0 ((y.2.1 100) 0))) 101 (upd (upd (y.2.1 101) 0 ((y.2.1 100) 0)) 1 ((y.2.1 100) 1))) 101 (upd (upd (upd (y.2.1 101) 0 ((y.2.1 100) 0)) 1 ((y.2.1 100) 1)) 2 ((y.2.1 100) 2))))
    refine PW_iast (j := 3) (w2 := E (sI (sA (sA (sA (sA (sA (sA x 47 (upd (x.2.1 47) 0 (x.1 387))) 47 (upd (upd (x.2.1 47) 0 (x.1 387)) 1 (x.1 386))) 47 (upd (upd (upd (x.2.1 47) 0 (x.1 387)) 1 (x.1 386)) 2 (x.1 388))) 47 (upd (upd (upd (upd (x.2.1 47) 0 (x.1 387)) 1 (x.1 386)) 2 (x.1 388)) 3 (x.1 372))) 47 (upd (upd (upd (upd (upd (x.2.1 47) 0 (x.1 387)) 1 (x.1 386)) 2 (x.1 388)) 3 (x.1 372)) 4 (x.1 373))) 47 (upd (upd (upd (upd (upd (upd (x.2.1 47) 0 (x.1 387)) 1 (x.1 386)) 2 (x.1 388)) 3 (x.1 372)) 4 (x.1 373)) 5 (x.1 374))) 371 1) (sA (sA (sA (sA (sI y 608 1) 101 (upd (y.2.1 101) 0 ((y.2.1 100) 0))) 101 (upd (upd (y.2.1 101) 0 ((y.2.1 100) 0)) 1 ((y.2.1 100) 1))) 101 (upd (upd (upd (y.2.1 101) 0 ((y.2.1 100) 0)) 1 ((y.2.1 100) 1)) 2 ((y.2.1 100) 2))) 101 (upd (upd (upd (upd (y.2.1 101) 0 ((y.2.1 100) 0)) 1 ((y.2.1 100) 1)) 2 ((y.2.1 100) 2)) 3 ((y.2.1 100) 3)))) c_M_image_24 (ar_101 _ _) (vp_in_iff.mpr (by decide)) rfl (aw_101 _ _ _) ?_
    refine PW_iinc (i := 1) (v := 4) (L2 := [some (.ref 70), some (.int 4)]) c_M_image_25 rfl (by decide) (Nat.le_of_ble_eq_true rfl) rfl rfl ?_
    refine PW_goto c_M_image_28 ?_
    refine PW_iload_n c_M_image_7 rfl ?_
    refine PW_bipush (v := 6) c_M_image_8 (by decide) ?_
    refine PW_icmp_ge c_M_image_10 (fun h4 => absurd h4 (by decide)) (fun _ => ?_)
    refine PW_aload_n c_M_image_13 rfl ?_
    refine PW_get (v := .ref 101) c_M_image_14 fl_M_102 (gf_70_47 _ _) ?_
    refine PW_iload_n c_M_image_17 rfl ?_
    refine PW_aload_n c_M_image_18 rfl ?_
    refine PW_get (v := .ref 100) c_M_image_19 fl_M_99 (gf_70_46 _ _) ?_
    refine PW_iload_n c_M_image_22 rfl ?_
    refine PW_iald (j := 4) c_M_image_23 (ar_100 _ _) (vp_in_iff.mpr (by decide)) rfl ?_
    show PW _ _ _ 24 [some (.ref 70), some (.int 4)] [.int ((y.2.1 100) 4), .int 4, .ref 101] (E (sI (sA (sA (sA (sA (sA (sA x 47 (upd (x.2.1 47) 0 (x.1 387))) 47 (upd (upd (x.2.1 47) 0 (x.1 387)) 1 (x.1 386))) 47 (upd (upd (upd (x.2.1 47) 0 (x.1 387)) 1 (x.1 386)) 2 (x.1 388))) 47 (upd (upd (upd (upd (x.2.1 47) 0 (x.1 387)) 1 (x.1 386)) 2 (x.1 388)) 3 (x.1 372))) 47 (upd (upd (upd (upd (upd (x.2.1 47) 0 (x.1 387)) 1 (x.1 386)) 2 (x.1 388)) 3 (x.1 372)) 4 (x.1 373))) 47 (upd (upd (upd (upd (upd (upd (x.2.1 47) 0 (x.1 387)) 1 (x.1 386)) 2 (x.1 388)) 3 (x.1 372)) 4 (x.1 373)) 5 (x.1 374))) 371 1) (sA (sA (sA (sA (sI y 608 1) 101 (upd (y.2.1 101) 0 ((y.2.1 100) 0))) 101 (upd (upd (y.2.1 101) 0 ((y.2.1 100) 0)) 1 ((y.2.1 100) 1))) 101 (upd (upd (upd (y.2.1 101) 0 ((y.2.1 100) 0)) 1 ((y.2.1 100) 1)) 2 ((y.2.1 100) 2))) 101 (upd (upd (upd (upd (y.2.1 101) 0 ((y.2.1 100) 0)) 1 ((y.2.1 100) 1)) 2 ((y.2.1 100) 2)) 3 ((y.2.1 100) 3))))
    refine PW_iast (j := 4) (w2 := E (sI (sA (sA (sA (sA (sA (sA x 47 (upd (x.2.1 47) 0 (x.1 387))) 47 (upd (upd (x.2.1 47) 0 (x.1 387)) 1 (x.1 386))) 47 (upd (upd (upd (x.2.1 47) 0 (x.1 387)) 1 (x.1 386)) 2 (x.1 388))) 47 (upd (upd (upd (upd (x.2.1 47) 0 (x.1 387)) 1 (x.1 386)) 2 (x.1 388)) 3 (x.1 372))) 47 (upd (upd (upd (upd (upd (x.2.1 47) 0 (x.1 387)) 1 (x.1 386)) 2 (x.1 388)) 3 (x.1 372)) 4 (x.1 373))) 47 (upd (upd (upd (upd (upd (upd (x.2.1 47) 0 (x.1 387)) 1 (x.1 386)) 2 (x.1 388)) 3 (x.1 372)) 4 (x.1 373)) 5 (x.1 374))) 371 1) (sA (sA (sA (sA (sA (sI y 608 1) 101 (upd (y.2.1 101) 0 ((y.2.1 100) 0))) 101 (upd (upd (y.2.1 101) 0 ((y.2.1 100) 0)) 1 ((y.2.1 100) 1))) 101 (upd (upd (upd (y.2.1 101) 0 ((y.2.1 100) 0)) 1 ((y.2.1 100) 1)) 2 ((y.2.1 100) 2))) 101 (upd (upd (upd (upd (y.2.1 101) 0 ((y.2.1 100) 0)) 1 ((y.2.1 100) 1)) 2 ((y.2.1 100) 2)) 3 ((y.2.1 100) 3))) 101 (upd (upd (upd (upd (upd (y.2.1 101) 0 ((y.2.1 100) 0)) 1 ((y.2.1 100) 1)) 2 ((y.2.1 100) 2)) 3 ((y.2.1 100) 3)) 4 ((y.2.1 100) 4)))) c_M_image_24 (ar_101 _ _) (vp_in_iff.mpr (by decide)) rfl (aw_101 _ _ _) ?_
    refine PW_iinc (i := 1) (v := 5) (L2 := [some (.ref 70), some (.int 5)]) c_M_image_25 rfl (by decide) (Nat.le_of_ble_eq_true rfl) rfl rfl ?_
    refine PW_goto c_M_image_28 ?_
    refine PW_iload_n c_M_image_7 rfl ?_
    refine PW_bipush (v := 6) c_M_image_8 (by decide) ?_
    refine PW_icmp_ge c_M_image_10 (fun h5 => absurd h5 (by decide)) (fun _ => ?_)
    refine PW_aload_n c_M_image_13 rfl ?_
    refine PW_get (v := .ref 101) c_M_image_14 fl_M_102 (gf_70_47 _ _) ?_
    refine PW_iload_n c_M_image_17 rfl ?_
    refine PW_aload_n c_M_image_18 rfl ?_
    refine PW_get (v := .ref 100) c_M_image_19 fl_M_99 (gf_70_46 _ _) ?_
    refine PW_iload_n c_M_image_22 rfl ?_
    refine PW_iald (j := 5) c_M_image_23 (ar_100 _ _) (vp_in_iff.mpr (by decide)) rfl ?_
    show PW _ _ _ 24 [some (.ref 70), some (.int 5)] [.int ((y.2.1 100) 5), .int 5, .ref 101] (E (sI (sA (sA (sA (sA (sA (sA x 47 (upd (x.2.1 47) 0 (x.1 387))) 47 (upd (upd (x.2.1 47) 0 (x.1 387)) 1 (x.1 386))) 47 (upd (upd (upd (x.2.1 47) 0 (x.1 387)) 1 (x.1 386)) 2 (x.1 388))) 47 (upd (upd (upd (upd (x.2.1 47) 0 (x.1 387)) 1 (x.1 386)) 2 (x.1 388)) 3 (x.1 372))) 47 (upd (upd (upd (upd (upd (x.2.1 47) 0 (x.1 387)) 1 (x.1 386)) 2 (x.1 388)) 3 (x.1 372)) 4 (x.1 373))) 47 (upd (upd (upd (upd (upd (upd (x.2.1 47) 0 (x.1 387)) 1 (x.1 386)) 2 (x.1 388)) 3 (x.1 372)) 4 (x.1 373)) 5 (x.1 374))) 371 1) (sA (sA (sA (sA (sA (sI y 608 1) 101 (upd (y.2.1 101) 0 ((y.2.1 100) 0))) 101 (upd (upd (y.2.1 101) 0 ((y.2.1 100) 0)) 1 ((y.2.1 100) 1))) 101 (upd (upd (upd (y.2.1 101) 0 ((y.2.1 100) 0)) 1 ((y.2.1 100) 1)) 2 ((y.2.1 100) 2))) 101 (upd (upd (upd (upd (y.2.1 101) 0 ((y.2.1 100) 0)) 1 ((y.2.1 100) 1)) 2 ((y.2.1 100) 2)) 3 ((y.2.1 100) 3))) 101 (upd (upd (upd (upd (upd (y.2.1 101) 0 ((y.2.1 100) 0)) 1 ((y.2.1 100) 1)) 2 ((y.2.1 100) 2)) 3 ((y.2.1 100) 3)) 4 ((y.2.1 100) 4))))
    refine PW_iast (j := 5) (w2 := E (sI (sA (sA (sA (sA (sA (sA x 47 (upd (x.2.1 47) 0 (x.1 387))) 47 (upd (upd (x.2.1 47) 0 (x.1 387)) 1 (x.1 386))) 47 (upd (upd (upd (x.2.1 47) 0 (x.1 387)) 1 (x.1 386)) 2 (x.1 388))) 47 (upd (upd (upd (upd (x.2.1 47) 0 (x.1 387)) 1 (x.1 386)) 2 (x.1 388)) 3 (x.1 372))) 47 (upd (upd (upd (upd (upd (x.2.1 47) 0 (x.1 387)) 1 (x.1 386)) 2 (x.1 388)) 3 (x.1 372)) 4 (x.1 373))) 47 (upd (upd (upd (upd (upd (upd (x.2.1 47) 0 (x.1 387)) 1 (x.1 386)) 2 (x.1 388)) 3 (x.1 372)) 4 (x.1 373)) 5 (x.1 374))) 371 1) (sA (sA (sA (sA (sA (sA (sI y 608 1) 101 (upd (y.2.1 101) 0 ((y.2.1 100) 0))) 101 (upd (upd (y.2.1 101) 0 ((y.2.1 100) 0)) 1 ((y.2.1 100) 1))) 101 (upd (upd (upd (y.2.1 101) 0 ((y.2.1 100) 0)) 1 ((y.2.1 100) 1)) 2 ((y.2.1 100) 2))) 101 (upd (upd (upd (upd (y.2.1 101) 0 ((y.2.1 100) 0)) 1 ((y.2.1 100) 1)) 2 ((y.2.1 100) 2)) 3 ((y.2.1 100) 3))) 101 (upd (upd (upd (upd (upd (y.2.1 101) 0 ((y.2.1 100) 0)) 1 ((y.2.1 100) 1)) 2 ((y.2.1 100) 2)) 3 ((y.2.1 100) 3)) 4 ((y.2.1 100) 4))) 101 (upd (upd (upd (upd (upd (upd (y.2.1 101) 0 ((y.2.1 100) 0)) 1 ((y.2.1 100) 1)) 2 ((y.2.1 100) 2)) 3 ((y.2.1 100) 3)) 4 ((y.2.1 100) 4)) 5 ((y.2.1 100) 5)))) c_M_image_24 (ar_101 _ _) (vp_in_iff.mpr (by decide)) rfl (aw_101 _ _ _) ?_
    refine PW_iinc (i := 1) (v := 6) (L2 := [some (.ref 70), some (.int 6)]) c_M_image_25 rfl (by decide) (Nat.le_of_ble_eq_true rfl) rfl rfl ?_
    refine PW_goto c_M_image_28 ?_
    refine PW_iload_n c_M_image_7 rfl ?_
    refine PW_bipush (v := 6) c_M_image_8 (by decide) ?_
    refine PW_icmp_ge c_M_image_10 (fun _ => ?_) (fun h6 => absurd (by decide) h6)
    refine PW_aload_n c_M_image_31 rfl ?_
    refine PW_get (v := .ref 100) c_M_image_32 fl_M_99 (gf_70_46 _ _) ?_
    refine PW_iconst (v := 0) c_M_image_35 (by decide) ?_
    refine PW_iald (j := 0) c_M_image_36 (ar_100 _ _) (vp_in_iff.mpr (by decide)) rfl ?_
    show PW _ _ _ 37 [some (.ref 70), some (.int 6)] [.int ((y.2.1 100) 0)] (E (sI (sA (sA (sA (sA (sA (sA x 47 (upd (x.2.1 47) 0 (x.1 387))) 47 (upd (upd (x.2.1 47) 0 (x.1 387)) 1 (x.1 386))) 47 (upd (upd (upd (x.2.1 47) 0 (x.1 387)) 1 (x.1 386)) 2 (x.1 388))) 47 (upd (upd (upd (upd (x.2.1 47) 0 (x.1 387)) 1 (x.1 386)) 2 (x.1 388)) 3 (x.1 372))) 47 (upd (upd (upd (upd (upd (x.2.1 47) 0 (x.1 387)) 1 (x.1 386)) 2 (x.1 388)) 3 (x.1 372)) 4 (x.1 373))) 47 (upd (upd (upd (upd (upd (upd (x.2.1 47) 0 (x.1 387)) 1 (x.1 386)) 2 (x.1 388)) 3 (x.1 372)) 4 (x.1 373)) 5 (x.1 374))) 371 1) (sA (sA (sA (sA (sA (sA (sI y 608 1) 101 (upd (y.2.1 101) 0 ((y.2.1 100) 0))) 101 (upd (upd (y.2.1 101) 0 ((y.2.1 100) 0)) 1 ((y.2.1 100) 1))) 101 (upd (upd (upd (y.2.1 101) 0 ((y.2.1 100) 0)) 1 ((y.2.1 100) 1)) 2 ((y.2.1 100) 2))) 101 (upd (upd (upd (upd (y.2.1 101) 0 ((y.2.1 100) 0)) 1 ((y.2.1 100) 1)) 2 ((y.2.1 100) 2)) 3 ((y.2.1 100) 3))) 101 (upd (upd (upd (upd (upd (y.2.1 101) 0 ((y.2.1 100) 0)) 1 ((y.2.1 100) 1)) 2 ((y.2.1 100) 2)) 3 ((y.2.1 100) 3)) 4 ((y.2.1 100) 4))) 101 (upd (upd (upd (upd (upd (upd (y.2.1 101) 0 ((y.2.1 100) 0)) 1 ((y.2.1 100) 1)) 2 ((y.2.1 100) 2)) 3 ((y.2.1 100) 3)) 4 ((y.2.1 100) 4)) 5 ((y.2.1 100) 5))))
    refine PW_ireturn (ty := .int) c_M_image_37 rfl rfl ?_
    exact h
set_option maxHeartbeats 4000000 in
theorem op_trace {t : Nat} {x y : XS} {a1 : Int32} (hI : INV t x y) (ht : t < 512) : ∃ (r : Int32) (x' y' : XS), INV (t + 1) x' y' ∧ (∀ {z : ZS} {post : Option Value → List PE → Prop}, post (some (.int r)) (E x' y) → PW (90, 0, 0, z) m_G_trace post 0 [some (.ref 5), some (.int a1)] [] (E x y)) ∧ (∀ {z : ZS} {post : Option Value → List PE → Prop}, post (some (.int r)) (E x' y') → PW (90, 0, 0, z) m_M_trace post 0 [some (.ref 70), some (.int a1)] [] (E x' y)) := by
  obtain ⟨hg, hc, ht0, hl, hd, hb, hs⟩ := id hI
  obtain ⟨⟨nb, hb1, hb2, hb3, hb4⟩, nr, hr1, hr2, hr3, hr4⟩ := id hb

  by_cases hc0 : 0 ≤ a1 ∧ a1 < y.1 611 ∧ a1 < 24
  · refine ⟨y.2.1 103 a1.toNatClampNeg, x, y, ?_, fun {z post} h => ?_, fun {z post} h => ?_⟩
    · exact INV_step hI
    · refine PW.deeper (k := (1, 0, 0, z)) (Nat.le_of_ble_eq_true rfl) (Nat.le_refl _) (Nat.le_refl _) ?_
      refine PW_aload_n c_G_trace_0 rfl ?_
      refine PW_get (v := .ref 54) c_G_trace_1 fl_G_79 (gf_5_9 _ _) ?_
      refine PW_iload_n c_G_trace_4 rfl ?_
      refine PW_V0 (d2 := 0) (st := []) [.int a1] c_G_trace_5 lk_G_trace_309 (po_54 _ _) rfl rfl rfl (Nat.le_of_ble_eq_true rfl) (by first | decide | omega) (Nat.le_of_ble_eq_true rfl) ?_
      show PW _ _ _ 0 [some (.ref 54), some (.int a1)] [] (E x y)
      refine PW_iload_n c_B_ranAt_0 rfl ?_
      refine PW_if_lt c_B_ranAt_1 (fun h0 => absurd h0 (Int32.not_lt.mpr hc0.1)) (fun h0 => ?_)
      refine PW_iload_n c_B_ranAt_4 rfl ?_
      refine PW_aload_n c_B_ranAt_5 rfl ?_
      refine PW_get (v := .int (x.1 435)) c_B_ranAt_6 fl_B_36 (gf_54_3 _ _) ?_
      refine PW_icmp_ge c_B_ranAt_9 (fun h1 => absurd h1 (by rw [hr3, ← hr2]; exact Int32.not_le.mpr hc0.2.1)) (fun h1 => ?_)
      refine PW_iload_n c_B_ranAt_12 rfl ?_
      refine PW_bipush (v := 24) c_B_ranAt_13 (by decide) ?_
      refine PW_icmp_ge c_B_ranAt_15 (fun h2 => absurd h2 (Int32.not_le.mpr hc0.2.2)) (fun h2 => ?_)
      refine PW_aload_n c_B_ranAt_18 rfl ?_
      refine PW_get (v := .ref 56) c_B_ranAt_19 fl_B_15 (gf_54_1 _ _) ?_
      refine PW_iload_n c_B_ranAt_22 rfl ?_
      refine PW_iald (j := a1.toNatClampNeg) c_B_ranAt_23 (ar_56 _ _) (vp_in_iff.mpr (by simp only [Int32.lt_iff_toInt_lt, Int32.le_iff_toInt_le, Int32.not_lt, Int32.not_le, tiA] at *; omega)) rfl ?_
      show PW _ _ _ 24 [some (.ref 54), some (.int a1)] [.int ((x.2.1 56) a1.toNatClampNeg)] (E x y)
      refine PW_goto c_B_ranAt_24 ?_
      refine PW_ireturn (ty := .int) c_B_ranAt_28 rfl rfl ?_
      show PW _ _ _ 8 [some (.ref 5), some (.int a1)] [.int ((x.2.1 56) a1.toNatClampNeg)] (E x y)
      refine PW_ireturn (ty := .int) c_G_trace_8 rfl rfl ?_
      exact pqi h (by
          obtain ⟨q, q1, q2, q3, q4⟩ := nI_ex (x := a1) (by simp only [Int32.le_iff_toInt_le, tiA] at hc0; omega)
          rw [q4]
          have h8 := hc0.2.1
          have h9 := hc0.2.2
          rw [hr2, q2, nI_ltI q1 (by omega)] at h8
          rw [q2, show (24 : Int32) = nI 24 from rfl, nI_ltI q1 (by omega)] at h9
          exact (hr4 q h8 h9).symm)
    · refine PW.deeper (k := (0, 0, 0, z)) (Nat.le_of_ble_eq_true rfl) (Nat.le_refl _) (Nat.le_refl _) ?_
      refine PW_iload_n c_M_trace_0 rfl ?_
      refine PW_if_lt c_M_trace_1 (fun h0 => absurd h0 (Int32.not_lt.mpr hc0.1)) (fun h0 => ?_)
      refine PW_iload_n c_M_trace_4 rfl ?_
      refine PW_aload_n c_M_trace_5 rfl ?_
      refine PW_get (v := .int (y.1 611)) c_M_trace_6 fl_M_358 (gf_70_51 _ _) ?_
      refine PW_icmp_ge c_M_trace_9 (fun h1 => absurd h1 (Int32.not_le.mpr hc0.2.1)) (fun h1 => ?_)
      refine PW_iload_n c_M_trace_12 rfl ?_
      refine PW_bipush (v := 24) c_M_trace_13 (by decide) ?_
      refine PW_icmp_ge c_M_trace_15 (fun h2 => absurd h2 (Int32.not_le.mpr hc0.2.2)) (fun h2 => ?_)
      refine PW_aload_n c_M_trace_18 rfl ?_
      refine PW_get (v := .ref 103) c_M_trace_19 fl_M_108 (gf_70_52 _ _) ?_
      refine PW_iload_n c_M_trace_22 rfl ?_
      refine PW_iald (j := a1.toNatClampNeg) c_M_trace_23 (ar_103 _ _) (vp_in_iff.mpr (by simp only [Int32.lt_iff_toInt_lt, Int32.le_iff_toInt_le, Int32.not_lt, Int32.not_le, tiA] at *; omega)) rfl ?_
      show PW _ _ _ 24 [some (.ref 70), some (.int a1)] [.int ((y.2.1 103) a1.toNatClampNeg)] (E x y)
      refine PW_goto c_M_trace_24 ?_
      refine PW_ireturn (ty := .int) c_M_trace_28 rfl rfl ?_
      exact h
  refine ⟨-1, x, y, ?_, fun {z post} h => ?_, fun {z post} h => ?_⟩
  · exact INV_step hI
  · refine PW.deeper (k := (1, 0, 0, z)) (Nat.le_of_ble_eq_true rfl) (Nat.le_refl _) (Nat.le_refl _) ?_
    refine PW_aload_n c_G_trace_0 rfl ?_
    refine PW_get (v := .ref 54) c_G_trace_1 fl_G_79 (gf_5_9 _ _) ?_
    refine PW_iload_n c_G_trace_4 rfl ?_
    refine PW_V0 (d2 := 0) (st := []) [.int a1] c_G_trace_5 lk_G_trace_309 (po_54 _ _) rfl rfl rfl (Nat.le_of_ble_eq_true rfl) (by first | decide | omega) (Nat.le_of_ble_eq_true rfl) ?_
    show PW _ _ _ 0 [some (.ref 54), some (.int a1)] [] (E x y)
    refine PW_iload_n c_B_ranAt_0 rfl ?_
    refine PW_if_lt c_B_ranAt_1 (fun h0 => ?_) (fun h0 => ?_)
    · refine PW_iconst (v := -1) c_B_ranAt_27 (by decide) ?_
      refine PW_ireturn (ty := .int) c_B_ranAt_28 rfl rfl ?_
      show PW _ _ _ 8 [some (.ref 5), some (.int a1)] [.int (-1)] (E x y)
      refine PW_ireturn (ty := .int) c_G_trace_8 rfl rfl ?_
      exact h
    · refine PW_iload_n c_B_ranAt_4 rfl ?_
      refine PW_aload_n c_B_ranAt_5 rfl ?_
      refine PW_get (v := .int (x.1 435)) c_B_ranAt_6 fl_B_36 (gf_54_3 _ _) ?_
      refine PW_icmp_ge c_B_ranAt_9 (fun h1 => ?_) (fun h1 => ?_)
      · refine PW_iconst (v := -1) c_B_ranAt_27 (by decide) ?_
        refine PW_ireturn (ty := .int) c_B_ranAt_28 rfl rfl ?_
        show PW _ _ _ 8 [some (.ref 5), some (.int a1)] [.int (-1)] (E x y)
        refine PW_ireturn (ty := .int) c_G_trace_8 rfl rfl ?_
        exact h
      · refine PW_iload_n c_B_ranAt_12 rfl ?_
        refine PW_bipush (v := 24) c_B_ranAt_13 (by decide) ?_
        refine PW_icmp_ge c_B_ranAt_15 (fun h2 => ?_) (fun h2 => ?_)
        · refine PW_iconst (v := -1) c_B_ranAt_27 (by decide) ?_
          refine PW_ireturn (ty := .int) c_B_ranAt_28 rfl rfl ?_
          show PW _ _ _ 8 [some (.ref 5), some (.int a1)] [.int (-1)] (E x y)
          refine PW_ireturn (ty := .int) c_G_trace_8 rfl rfl ?_
          exact h
        · refine PW_aload_n c_B_ranAt_18 rfl ?_
          refine PW_get (v := .ref 56) c_B_ranAt_19 fl_B_15 (gf_54_1 _ _) ?_
          refine PW_iload_n c_B_ranAt_22 rfl ?_
          refine PW_iald (j := a1.toNatClampNeg) c_B_ranAt_23 (ar_56 _ _) (vp_in_iff.mpr (by simp only [Int32.lt_iff_toInt_lt, Int32.le_iff_toInt_le, Int32.not_lt, Int32.not_le, tiA] at *; omega)) rfl ?_
          show PW _ _ _ 24 [some (.ref 54), some (.int a1)] [.int ((x.2.1 56) a1.toNatClampNeg)] (E x y)
          refine PW_goto c_B_ranAt_24 ?_
          refine PW_ireturn (ty := .int) c_B_ranAt_28 rfl rfl ?_
          show PW _ _ _ 8 [some (.ref 5), some (.int a1)] [.int ((x.2.1 56) a1.toNatClampNeg)] (E x y)
          refine PW_ireturn (ty := .int) c_G_trace_8 rfl rfl ?_
          exact absurd ⟨Int32.not_lt.mp h0, by rw [hr2, ← hr3]; exact Int32.not_le.mp h1, Int32.not_le.mp h2⟩ hc0
  · refine PW.deeper (k := (0, 0, 0, z)) (Nat.le_of_ble_eq_true rfl) (Nat.le_refl _) (Nat.le_refl _) ?_
    refine PW_iload_n c_M_trace_0 rfl ?_
    refine PW_if_lt c_M_trace_1 (fun h0 => ?_) (fun h0 => ?_)
    · refine PW_iconst (v := -1) c_M_trace_27 (by decide) ?_
      refine PW_ireturn (ty := .int) c_M_trace_28 rfl rfl ?_
      exact h
    · refine PW_iload_n c_M_trace_4 rfl ?_
      refine PW_aload_n c_M_trace_5 rfl ?_
      refine PW_get (v := .int (y.1 611)) c_M_trace_6 fl_M_358 (gf_70_51 _ _) ?_
      refine PW_icmp_ge c_M_trace_9 (fun h1 => ?_) (fun h1 => ?_)
      · refine PW_iconst (v := -1) c_M_trace_27 (by decide) ?_
        refine PW_ireturn (ty := .int) c_M_trace_28 rfl rfl ?_
        exact h
      · refine PW_iload_n c_M_trace_12 rfl ?_
        refine PW_bipush (v := 24) c_M_trace_13 (by decide) ?_
        refine PW_icmp_ge c_M_trace_15 (fun h2 => ?_) (fun h2 => ?_)
        · refine PW_iconst (v := -1) c_M_trace_27 (by decide) ?_
          refine PW_ireturn (ty := .int) c_M_trace_28 rfl rfl ?_
          exact h
        · refine PW_aload_n c_M_trace_18 rfl ?_
          refine PW_get (v := .ref 103) c_M_trace_19 fl_M_108 (gf_70_52 _ _) ?_
          refine PW_iload_n c_M_trace_22 rfl ?_
          refine PW_iald (j := a1.toNatClampNeg) c_M_trace_23 (ar_103 _ _) (vp_in_iff.mpr (by simp only [Int32.lt_iff_toInt_lt, Int32.le_iff_toInt_le, Int32.not_lt, Int32.not_le, tiA] at *; omega)) rfl ?_
          show PW _ _ _ 24 [some (.ref 70), some (.int a1)] [.int ((y.2.1 103) a1.toNatClampNeg)] (E x y)
          refine PW_goto c_M_trace_24 ?_
          refine PW_ireturn (ty := .int) c_M_trace_28 rfl rfl ?_
          exact absurd ⟨Int32.not_lt.mp h0, Int32.not_le.mp h1, Int32.not_le.mp h2⟩ hc0
set_option maxHeartbeats 4000000 in
theorem op_body {t : Nat} {x y : XS} {a1 : Int32} (hI : INV t x y) (ht : t < 512) : ∃ (r : Int32) (x' y' : XS), INV (t + 1) x' y' ∧ (∀ {z : ZS} {post : Option Value → List PE → Prop}, post (some (.int r)) (E x' y) → PW (90, 0, 0, z) m_G_body post 0 [some (.ref 5), some (.int a1)] [] (E x y)) ∧ (∀ {z : ZS} {post : Option Value → List PE → Prop}, post (some (.int r)) (E x' y') → PW (90, 0, 0, z) m_M_body post 0 [some (.ref 70), some (.int a1)] [] (E x' y)) := by
  obtain ⟨hg, hc, ht0, hl, hd, hb, hs⟩ := id hI
  obtain ⟨⟨nb, hb1, hb2, hb3, hb4⟩, nr, hr1, hr2, hr3, hr4⟩ := id hb

  by_cases hc0 : ¬ (0 ≤ a1 ∧ a1 ≤ 7)
  · refine ⟨-1, x, y, ?_, fun {z post} h => ?_, fun {z post} h => ?_⟩
    · exact INV_step hI
    · refine PW.deeper (k := (1, 0, 0, z)) (Nat.le_of_ble_eq_true rfl) (Nat.le_refl _) (Nat.le_refl _) ?_
      refine PW_iload_n c_G_body_0 rfl ?_
      refine PW_S0 (d2 := 0) (st := []) [.int a1] c_G_body_1 lk_G_body_300 rfl rfl rfl (Nat.le_of_ble_eq_true rfl) (by first | decide | omega) (Nat.le_of_ble_eq_true rfl) ?_
      refine sp_B_isKind  ?_
      show PW _ _ _ 4 [some (.ref 5), some (.int a1)] [.int (b2i (0 ≤ a1 ∧ a1 ≤ 7))] (E x y)
      refine PW_if_eq c_G_body_4 (fun _ => ?_) (fun h0 => absurd (b2i_n0.mp h0) hc0)
      refine PW_iconst (v := -1) c_G_body_18 (by decide) ?_
      refine PW_ireturn (ty := .int) c_G_body_19 rfl rfl ?_
      exact h
    · refine PW.deeper (k := (1, 0, 0, z)) (Nat.le_of_ble_eq_true rfl) (Nat.le_refl _) (Nat.le_refl _) ?_
      refine PW_iload_n c_M_body_0 rfl ?_
      refine PW_iconst (v := 0) c_M_body_1 (by decide) ?_
      refine PW_bipush (v := 7) c_M_body_2 (by decide) ?_
      refine PW_S0 (d2 := 0) (st := []) [.int a1, .int 0, .int 7] c_M_body_4 lk_M_body_131 rfl rfl rfl (Nat.le_of_ble_eq_true rfl) (by first | decide | omega) (Nat.le_of_ble_eq_true rfl) ?_
      refine sp_M_within  ?_
      show PW _ _ _ 7 [some (.ref 70), some (.int a1)] [.int (b2i ((0 : Int32) ≤ a1 ∧ a1 ≤ (7 : Int32)))] (E x y)
      refine PW_if_ne c_M_body_7 (fun h0 => absurd (b2i_n0.mp h0) hc0) (fun _ => ?_)
      refine PW_iconst (v := -1) c_M_body_10 (by decide) ?_
      refine PW_ireturn (ty := .int) c_M_body_11 rfl rfl ?_
      exact h
  by_cases hc1 : y.1 609 = 50
  · refine ⟨-3, x, y, ?_, fun {z post} h => ?_, fun {z post} h => ?_⟩
    · exact INV_step hI
    · refine PW.deeper (k := (1, 0, 0, z)) (Nat.le_of_ble_eq_true rfl) (Nat.le_refl _) (Nat.le_refl _) ?_
      refine PW_iload_n c_G_body_0 rfl ?_
      refine PW_S0 (d2 := 0) (st := []) [.int a1] c_G_body_1 lk_G_body_300 rfl rfl rfl (Nat.le_of_ble_eq_true rfl) (by first | decide | omega) (Nat.le_of_ble_eq_true rfl) ?_
      refine sp_B_isKind  ?_
      show PW _ _ _ 4 [some (.ref 5), some (.int a1)] [.int (b2i (0 ≤ a1 ∧ a1 ≤ 7))] (E x y)
      refine PW_if_eq c_G_body_4 (fun h0 => absurd (Decidable.not_not.mp hc0) (b2i_0.mp h0)) (fun _ => ?_)
      refine PW_aload_n c_G_body_7 rfl ?_
      refine PW_get (v := .ref 54) c_G_body_8 fl_G_79 (gf_5_9 _ _) ?_
      refine PW_iload_n c_G_body_11 rfl ?_
      refine PW_V0 (d2 := 0) (st := []) [.int a1] c_G_body_12 lk_G_body_303 (po_54 _ _) rfl rfl rfl (Nat.le_of_ble_eq_true rfl) (by first | decide | omega) (Nat.le_of_ble_eq_true rfl) ?_
      show PW _ _ _ 0 [some (.ref 54), some (.int a1)] [] (E x y)
      refine PW_aload_n c_B_add_0 rfl ?_
      refine PW_get (v := .int (x.1 434)) c_B_add_1 fl_B_32 (gf_54_2 _ _) ?_
      refine PW_if_lt c_B_add_4 (fun h1 => absurd h1 (by rw [hb3, ← hb2, hc1]; decide)) (fun h1 => ?_)
      refine PW_aload_n c_B_add_7 rfl ?_
      refine PW_get (v := .int (x.1 434)) c_B_add_8 fl_B_32 (gf_54_2 _ _) ?_
      refine PW_bipush (v := 50) c_B_add_11 (by decide) ?_
      refine PW_icmp_lt c_B_add_13 (fun h2 => absurd h2 (by rw [hb3, ← hb2, hc1]; decide)) (fun h2 => ?_)
      refine PW_bipush (v := -3) c_B_add_16 (by decide) ?_
      refine PW_ireturn (ty := .int) c_B_add_18 rfl rfl ?_
      show PW _ _ _ 15 [some (.ref 5), some (.int a1)] [.int (-3)] (E x y)
      refine PW_goto c_G_body_15 ?_
      refine PW_ireturn (ty := .int) c_G_body_19 rfl rfl ?_
      exact h
    · refine PW.deeper (k := (1, 0, 0, z)) (Nat.le_of_ble_eq_true rfl) (Nat.le_refl _) (Nat.le_refl _) ?_
      refine PW_iload_n c_M_body_0 rfl ?_
      refine PW_iconst (v := 0) c_M_body_1 (by decide) ?_
      refine PW_bipush (v := 7) c_M_body_2 (by decide) ?_
      refine PW_S0 (d2 := 0) (st := []) [.int a1, .int 0, .int 7] c_M_body_4 lk_M_body_131 rfl rfl rfl (Nat.le_of_ble_eq_true rfl) (by first | decide | omega) (Nat.le_of_ble_eq_true rfl) ?_
      refine sp_M_within  ?_
      show PW _ _ _ 7 [some (.ref 70), some (.int a1)] [.int (b2i ((0 : Int32) ≤ a1 ∧ a1 ≤ (7 : Int32)))] (E x y)
      refine PW_if_ne c_M_body_7 (fun _ => ?_) (fun h0 => absurd (Decidable.not_not.mp hc0) (b2i_0.mp h0))
      refine PW_aload_n c_M_body_12 rfl ?_
      refine PW_get (v := .int (y.1 609)) c_M_body_13 fl_M_355 (gf_70_49 _ _) ?_
      refine PW_bipush (v := 50) c_M_body_16 (by decide) ?_
      refine PW_icmp_ne c_M_body_18 (fun h1 => absurd h1 (not_not_intro hc1)) (fun h1 => ?_)
      refine PW_bipush (v := -3) c_M_body_21 (by decide) ?_
      refine PW_ireturn (ty := .int) c_M_body_23 rfl rfl ?_
      exact h
  have hb50 : nb < 50 := by rcases Nat.lt_or_ge nb 50 with q | q; exact q; exact absurd (by rw [hb2, show nb = 50 by omega]; rfl) hc1
  refine ⟨nI nb, sI (sA x 55 (upd (x.2.1 55) nb a1)) 434 ((x.1 434) + 1), sI (sA y 102 (upd (y.2.1 102) nb a1)) 609 ((y.1 609) + 1), ?_, fun {z post} h => ?_, fun {z post} h => ?_⟩
  · refine ⟨hg.cg (fun n q1 q2 => by first | rfl | (simp only [sI_1, sI_A, sI_G, sA_1, sA_A, sA_G, sG_1, sG_A, sG_G]; repeat rw [if_neg (by omega)])) (fun n q1 q2 => by first | rfl | (simp only [sI_1, sI_A, sI_G, sA_1, sA_A, sA_G, sG_1, sG_A, sG_G]; repeat rw [if_neg (by omega)])) (by first | rfl | (simp only [sI_1, sI_A, sI_G, sA_1, sA_A, sA_G, sG_1, sG_A, sG_G]; repeat rw [if_neg (by omega)])) (fun n q1 q2 => by first | rfl | (simp only [sI_1, sI_A, sI_G, sA_1, sA_A, sA_G, sG_1, sG_A, sG_G]; repeat rw [if_neg (by omega)])), hc.cg (fun n q1 q2 => by first | rfl | (simp only [sI_1, sI_A, sI_G, sA_1, sA_A, sA_G, sG_1, sG_A, sG_G]; repeat rw [if_neg (by omega)])) (fun n q1 q2 => by first | rfl | (simp only [sI_1, sI_A, sI_G, sA_1, sA_A, sA_G, sG_1, sG_A, sG_G]; repeat rw [if_neg (by omega)])) (fun n q1 q2 => by first | rfl | (simp only [sI_1, sI_A, sI_G, sA_1, sA_A, sA_G, sG_1, sG_A, sG_G]; repeat rw [if_neg (by omega)])) (fun n q1 q2 => by first | rfl | (simp only [sI_1, sI_A, sI_G, sA_1, sA_A, sA_G, sG_1, sG_A, sG_G]; repeat rw [if_neg (by omega)])) (Nat.le_of_eq (nG_cg (by first | rfl | (simp only [sI_1, sI_A, sI_G, sA_1, sA_A, sA_G, sG_1, sG_A, sG_G]; repeat rw [if_neg (by omega)]))).symm), ht0.cg (by first | rfl | (simp only [sI_1, sI_A, sI_G, sA_1, sA_A, sA_G, sG_1, sG_A, sG_G]; repeat rw [if_neg (by omega)])) (by first | rfl | (simp only [sI_1, sI_A, sI_G, sA_1, sA_A, sA_G, sG_1, sG_A, sG_G]; repeat rw [if_neg (by omega)])) (by first | rfl | (simp only [sI_1, sI_A, sI_G, sA_1, sA_A, sA_G, sG_1, sG_A, sG_G]; repeat rw [if_neg (by omega)])) (by first | rfl | (simp only [sI_1, sI_A, sI_G, sA_1, sA_A, sA_G, sG_1, sG_A, sG_G]; repeat rw [if_neg (by omega)])), hl.cg (by first | rfl | (simp only [sI_1, sI_A, sI_G, sA_1, sA_A, sA_G, sG_1, sG_A, sG_G]; repeat rw [if_neg (by omega)])) (fun n q1 q2 => by first | rfl | (simp only [sI_1, sI_A, sI_G, sA_1, sA_A, sA_G, sG_1, sG_A, sG_G]; repeat rw [if_neg (by omega)])) (by first | rfl | (simp only [sI_1, sI_A, sI_G, sA_1, sA_A, sA_G, sG_1, sG_A, sG_G]; repeat rw [if_neg (by omega)])) (fun n q1 q2 => by first | rfl | (simp only [sI_1, sI_A, sI_G, sA_1, sA_A, sA_G, sG_1, sG_A, sG_G]; repeat rw [if_neg (by omega)])), hd.cg (Nat.le_succ _) (fun n q1 q2 => by first | rfl | (simp only [sI_1, sI_A, sI_G, sA_1, sA_A, sA_G, sG_1, sG_A, sG_G]; repeat rw [if_neg (by omega)])) (by first | rfl | (simp only [sI_1, sI_A, sI_G, sA_1, sA_A, sA_G, sG_1, sG_A, sG_G]; repeat rw [if_neg (by omega)])) (by first | rfl | (simp only [sI_1, sI_A, sI_G, sA_1, sA_A, sA_G, sG_1, sG_A, sG_G]; repeat rw [if_neg (by omega)])) (fun n q1 q2 => by first | rfl | (simp only [sI_1, sI_A, sI_G, sA_1, sA_A, sA_G, sG_1, sG_A, sG_G]; repeat rw [if_neg (by omega)])), ?_, ?_⟩
    · refine ⟨⟨nb + 1, by omega, ?_, ?_, fun i hi => ?_⟩, nr, hr1, hr2, hr3, hr4⟩
      · show y.1 609 + 1 = _
        rw [hb2, nI_1]
      · show x.1 434 + 1 = _
        rw [hb3, nI_1]
      · show upd (x.2.1 55) nb a1 i = upd (y.2.1 102) nb a1 i ∧ 0 ≤ (upd (y.2.1 102) nb a1 i).toInt ∧ (upd (y.2.1 102) nb a1 i).toInt < 8
        by_cases hib : i = nb
        · subst hib
          rw [upd_s, upd_s]
          have q := Decidable.not_not.mp hc0
          simp only [Int32.le_iff_toInt_le, tiA] at q
          exact ⟨rfl, q.1, by omega⟩
        · rw [upd_n hib, upd_n hib]
          exact hb4 i (by omega)
    · refine hs.cg (fun n q1 q2 => by first | rfl | (simp only [sI_1, sI_A, sI_G, sA_1, sA_A, sA_G, sG_1, sG_A, sG_G]; repeat rw [if_neg (by omega)])) (fun n q1 q2 => by first | rfl | (simp only [sI_1, sI_A, sI_G, sA_1, sA_A, sA_G, sG_1, sG_A, sG_G]; repeat rw [if_neg (by omega)])) ?_ (fun n q1 q2 => by first | rfl | (simp only [sI_1, sI_A, sI_G, sA_1, sA_A, sA_G, sG_1, sG_A, sG_G]; repeat rw [if_neg (by omega)])) (by first | rfl | (simp only [sI_1, sI_A, sI_G, sA_1, sA_A, sA_G, sG_1, sG_A, sG_G]; repeat rw [if_neg (by omega)]))
      show (y.1 609).toInt ≤ (y.1 609 + 1).toInt
      rw [hb2, nI_1, nI_toInt (by omega), nI_toInt (by omega)]; omega
  · refine PW.deeper (k := (1, 0, 0, z)) (Nat.le_of_ble_eq_true rfl) (Nat.le_refl _) (Nat.le_refl _) ?_
    refine PW_iload_n c_G_body_0 rfl ?_
    refine PW_S0 (d2 := 0) (st := []) [.int a1] c_G_body_1 lk_G_body_300 rfl rfl rfl (Nat.le_of_ble_eq_true rfl) (by first | decide | omega) (Nat.le_of_ble_eq_true rfl) ?_
    refine sp_B_isKind  ?_
    show PW _ _ _ 4 [some (.ref 5), some (.int a1)] [.int (b2i (0 ≤ a1 ∧ a1 ≤ 7))] (E x y)
    refine PW_if_eq c_G_body_4 (fun h0 => absurd (Decidable.not_not.mp hc0) (b2i_0.mp h0)) (fun _ => ?_)
    refine PW_aload_n c_G_body_7 rfl ?_
    refine PW_get (v := .ref 54) c_G_body_8 fl_G_79 (gf_5_9 _ _) ?_
    refine PW_iload_n c_G_body_11 rfl ?_
    refine PW_V0 (d2 := 0) (st := []) [.int a1] c_G_body_12 lk_G_body_303 (po_54 _ _) rfl rfl rfl (Nat.le_of_ble_eq_true rfl) (by first | decide | omega) (Nat.le_of_ble_eq_true rfl) ?_
    show PW _ _ _ 0 [some (.ref 54), some (.int a1)] [] (E x y)
    refine PW_aload_n c_B_add_0 rfl ?_
    refine PW_get (v := .int (x.1 434)) c_B_add_1 fl_B_32 (gf_54_2 _ _) ?_
    refine PW_if_lt c_B_add_4 (fun h1 => absurd h1 (by rw [hb3]; exact nI_pos (by omega))) (fun h1 => ?_)
    refine PW_aload_n c_B_add_7 rfl ?_
    refine PW_get (v := .int (x.1 434)) c_B_add_8 fl_B_32 (gf_54_2 _ _) ?_
    refine PW_bipush (v := 50) c_B_add_11 (by decide) ?_
    refine PW_icmp_lt c_B_add_13 (fun h2 => ?_) (fun h2 => absurd (by rw [hb3, show (50 : Int32) = nI 50 from rfl, nI_ltI (by omega) (by omega)]; exact hb50) h2)
    refine PW_aload_n c_B_add_19 rfl ?_
    refine PW_get (v := .ref 55) c_B_add_20 fl_B_11 (gf_54_0 _ _) ?_
    refine PW_aload_n c_B_add_23 rfl ?_
    refine PW_get (v := .int (x.1 434)) c_B_add_24 fl_B_32 (gf_54_2 _ _) ?_
    refine PW_iload_n c_B_add_27 rfl ?_
    refine PW_iast (j := nb) (w2 := E (sA x 55 (upd (x.2.1 55) nb a1)) y) c_B_add_28 (ar_55 _ _) (by rw [hb3]; exact vp_in_nI hb50 (by decide)) (by rw [hb3]; exact nI_clamp (by omega)) (aw_55 _ _ _) ?_
    refine PW_aload_n c_B_add_29 rfl ?_
    refine PW_dup c_B_add_30 rfl ?_
    refine PW_get (v := .int (x.1 434)) c_B_add_31 fl_B_32 (gf_54_2 _ _) ?_
    refine PW_iconst (v := 1) c_B_add_34 (by decide) ?_
    refine PW_iadd c_B_add_35 ?_
    refine PW_put (w2 := E (sI (sA x 55 (upd (x.2.1 55) nb a1)) 434 ((x.1 434) + 1)) y) c_B_add_36 fp_B_add_32 rfl (pf_54_2 _ _ _) ?_
    refine PW_aload_n c_B_add_39 rfl ?_
    refine PW_get (v := .int ((x.1 434) + 1)) c_B_add_40 fl_B_32 (gf_54_2 _ _) ?_
    refine PW_iconst (v := 1) c_B_add_43 (by decide) ?_
    refine PW_isub c_B_add_44 ?_
    refine PW_ireturn (ty := .int) c_B_add_45 rfl rfl ?_
    show PW _ _ _ 15 [some (.ref 5), some (.int a1)] [.int (((x.1 434) + 1) - 1)] (E (sI (sA x 55 (upd (x.2.1 55) nb a1)) 434 ((x.1 434) + 1)) y)
    refine PW_goto c_G_body_15 ?_
    refine PW_ireturn (ty := .int) c_G_body_19 rfl rfl ?_
    exact pqi h (by rw [hb3, nI_1, nI_pred])
  · refine PW.deeper (k := (1, 0, 0, z)) (Nat.le_of_ble_eq_true rfl) (Nat.le_refl _) (Nat.le_refl _) ?_
    refine PW_iload_n c_M_body_0 rfl ?_
    refine PW_iconst (v := 0) c_M_body_1 (by decide) ?_
    refine PW_bipush (v := 7) c_M_body_2 (by decide) ?_
    refine PW_S0 (d2 := 0) (st := []) [.int a1, .int 0, .int 7] c_M_body_4 lk_M_body_131 rfl rfl rfl (Nat.le_of_ble_eq_true rfl) (by first | decide | omega) (Nat.le_of_ble_eq_true rfl) ?_
    refine sp_M_within  ?_
    show PW _ _ _ 7 [some (.ref 70), some (.int a1)] [.int (b2i ((0 : Int32) ≤ a1 ∧ a1 ≤ (7 : Int32)))] (E (sI (sA x 55 (upd (x.2.1 55) nb a1)) 434 ((x.1 434) + 1)) y)
    refine PW_if_ne c_M_body_7 (fun _ => ?_) (fun h0 => absurd (Decidable.not_not.mp hc0) (b2i_0.mp h0))
    refine PW_aload_n c_M_body_12 rfl ?_
    refine PW_get (v := .int (y.1 609)) c_M_body_13 fl_M_355 (gf_70_49 _ _) ?_
    refine PW_bipush (v := 50) c_M_body_16 (by decide) ?_
    refine PW_icmp_ne c_M_body_18 (fun h1 => ?_) (fun h1 => absurd h1 hc1)
    refine PW_aload_n c_M_body_24 rfl ?_
    refine PW_get (v := .ref 102) c_M_body_25 fl_M_105 (gf_70_50 _ _) ?_
    refine PW_aload_n c_M_body_28 rfl ?_
    refine PW_get (v := .int (y.1 609)) c_M_body_29 fl_M_355 (gf_70_49 _ _) ?_
    refine PW_iload_n c_M_body_32 rfl ?_
    refine PW_iast (j := nb) (w2 := E (sI (sA x 55 (upd (x.2.1 55) nb a1)) 434 ((x.1 434) + 1)) (sA y 102 (upd (y.2.1 102) nb a1))) c_M_body_33 (ar_102 _ _) (by rw [hb2]; exact vp_in_nI hb50 (by decide)) (by rw [hb2]; exact nI_clamp (by omega)) (aw_102 _ _ _) ?_
    refine PW_aload_n c_M_body_34 rfl ?_
    refine PW_dup c_M_body_35 rfl ?_
    refine PW_get (v := .int (y.1 609)) c_M_body_36 fl_M_355 (gf_70_49 _ _) ?_
    refine PW_iconst (v := 1) c_M_body_39 (by decide) ?_
    refine PW_iadd c_M_body_40 ?_
    refine PW_put (w2 := E (sI (sA x 55 (upd (x.2.1 55) nb a1)) 434 ((x.1 434) + 1)) (sI (sA y 102 (upd (y.2.1 102) nb a1)) 609 ((y.1 609) + 1))) c_M_body_41 fp_M_body_355 rfl (pf_70_49 _ _ _) ?_
    refine PW_aload_n c_M_body_44 rfl ?_
    refine PW_get (v := .int ((y.1 609) + 1)) c_M_body_45 fl_M_355 (gf_70_49 _ _) ?_
    refine PW_iconst (v := 1) c_M_body_48 (by decide) ?_
    refine PW_isub c_M_body_49 ?_
    refine PW_ireturn (ty := .int) c_M_body_50 rfl rfl ?_
    exact pqi h (by rw [hb2, nI_1, nI_pred])
