set_option maxHeartbeats 4000000 in
theorem op_end {t : Nat} {x y : XS} {a1 : Int32} {a2 : Int32} (hI : INV t x y) (ht : t < 512) : ∃ (r : Int32) (x' y' : XS), INV (t + 1) x' y' ∧ (∀ {z : ZS} {post : Option Value → List PE → Prop}, post (some (.int r)) (E x' y) → PW (90, 0, 0, z) m_G_end post 0 [some (.ref 5), some (.int a1), some (.int a2), none] [] (E x y)) ∧ (∀ {z : ZS} {post : Option Value → List PE → Prop}, post (some (.int r)) (E x' y') → PW (90, 0, 0, z) m_M_end post 0 [some (.ref 70), some (.int a1), some (.int a2), none] [] (E x' y)) := by
  obtain ⟨hg, hc, ht0, hl, hd, hb, hs⟩ := id hI
  obtain ⟨f, hf1, hf2⟩ := sp_Y_readLeaving hg

  by_cases hc0 : ¬ (0 ≤ a1.toInt ∧ a1.toInt < (nG y : Int))
  · refine ⟨-1, x, y, ?_, fun {z post} h => ?_, fun {z post} h => ?_⟩
    · exact INV_step hI
    · refine PW.deeper (k := (5, 0, 0, z)) (Nat.le_of_ble_eq_true rfl) (Nat.le_refl _) (Nat.le_refl _) ?_
      refine PW_aload_n c_G_end_0 rfl ?_
      refine PW_get (v := .ref 6) c_G_end_1 fl_G_13 (gf_5_0 _ _) ?_
      refine PW_iload_n c_G_end_4 rfl ?_
      refine PW_V0 (d2 := 0) (st := []) [.int a1] c_G_end_5 lk_G_end_139 (po_6 _ _) rfl rfl rfl (Nat.le_of_ble_eq_true rfl) (by first | decide | omega) (Nat.le_of_ble_eq_true rfl) ?_
      refine sp_H_isGuest hg.W hg.x51 ?_
      show PW _ _ _ 8 [some (.ref 5), some (.int a1), some (.int a2), none] [.int (b2i (0 ≤ a1.toInt ∧ a1.toInt < (nG y : Int)))] (E x y)
      refine PW_if_eq c_G_end_8 (fun _ => ?_) (fun h0 => absurd (b2i_n0.mp h0) hc0)
      refine PW_iconst (v := -1) c_G_end_20 (by decide) ?_
      refine PW_ireturn (ty := .int) c_G_end_21 rfl rfl ?_
      exact h
    · refine PW.deeper (k := (2, 0, 0, z)) (Nat.le_of_ble_eq_true rfl) (Nat.le_refl _) (Nat.le_refl _) ?_
      refine PW_aload_n c_M_end_0 rfl ?_
      refine PW_iload_n c_M_end_1 rfl ?_
      refine PW_V0 (d2 := 1) (st := []) [.int a1] c_M_end_2 lk_M_end_162 (po_70 _ _) rfl rfl rfl (Nat.le_of_ble_eq_true rfl) (by first | decide | omega) (Nat.le_of_ble_eq_true rfl) ?_
      refine sp_M_isGuest2 hg.W ?_
      show PW _ _ _ 5 [some (.ref 70), some (.int a1), some (.int a2), none] [.int (b2i (0 ≤ a1.toInt ∧ a1.toInt < (nG y : Int)))] (E x y)
      refine PW_if_eq c_M_end_5 (fun _ => ?_) (fun h0 => absurd (b2i_n0.mp h0) hc0)
      refine PW_iconst (v := -1) c_M_end_17 (by decide) ?_
      refine PW_ireturn (ty := .int) c_M_end_18 rfl rfl ?_
      exact h
  replace hc0 : 0 ≤ a1.toInt ∧ a1.toInt < (nG y : Int) := Decidable.not_not.mp hc0
  obtain ⟨g, g1, rfl, g3, g4⟩ := nI_ex hc0.1
  have hgn : g < nG y := by omega
  have hg10 : g < 10 := by have := hg.1.2; omega
  have hkn : S10 (1 <<< (nI g &&& 31)) := S10_sh hg10
  by_cases hk0 : a2 = 0
  · subst hk0
    refine ⟨nI (enW y (1 <<< (nI g &&& 31))), sI (sA x 45 f) 354 (nI (enW y (1 <<< ((nI g) &&& 31)))), sI y 605 (nI (enW y (1 <<< ((nI g) &&& 31)))), ?_, fun {z post} h => ?_, fun {z post} h => ?_⟩
    · exact INV_step (((hI.e45 f).e354 _).e605 _)
    · refine PW.deeper (k := (5, 0, 0, z)) (Nat.le_of_ble_eq_true rfl) (Nat.le_refl _) (Nat.le_refl _) ?_
      refine PW_aload_n c_G_end_0 rfl ?_
      refine PW_get (v := .ref 6) c_G_end_1 fl_G_13 (gf_5_0 _ _) ?_
      refine PW_iload_n c_G_end_4 rfl ?_
      refine PW_V0 (d2 := 0) (st := []) [.int (nI g)] c_G_end_5 lk_G_end_139 (po_6 _ _) rfl rfl rfl (Nat.le_of_ble_eq_true rfl) (by first | decide | omega) (Nat.le_of_ble_eq_true rfl) ?_
      refine sp_H_isGuest hg.W hg.x51 ?_
      show PW _ _ _ 8 [some (.ref 5), some (.int (nI g)), some (.int 0), none] [.int (b2i (0 ≤ (nI g).toInt ∧ (nI g).toInt < (nG y : Int)))] (E x y)
      refine PW_if_eq c_G_end_8 (fun h0 => absurd hc0 (b2i_0.mp h0)) (fun _ => ?_)
      refine PW_iload_n c_G_end_11 rfl ?_
      refine PW_if_lt c_G_end_12 (fun h1 => absurd h1 (by decide)) (fun _ => ?_)
      refine PW_iload_n c_G_end_15 rfl ?_
      refine PW_iconst (v := 1) c_G_end_16 (by decide) ?_
      refine PW_icmp_le c_G_end_17 (fun _ => ?_) (fun h2 => absurd (by decide) h2)
      refine PW_aload_n c_G_end_22 rfl ?_
      refine PW_get (v := .ref 44) c_G_end_23 fl_G_58 (gf_5_6 _ _) ?_
      refine PW_iconst (v := 1) c_G_end_26 (by decide) ?_
      refine PW_iload_n c_G_end_27 rfl ?_
      refine PW_ishl c_G_end_28 ?_
      refine PW_V0 (d2 := 4) (st := []) [.int (1 <<< ((nI g) &&& 31))] c_G_end_29 lk_G_end_239 (po_44 _ _) rfl rfl rfl (Nat.le_of_ble_eq_true rfl) (by first | decide | omega) (Nat.le_of_ble_eq_true rfl) ?_
      show PW _ _ _ 0 [some (.ref 44), some (.int (1 <<< ((nI g) &&& 31)))] [] (E x y)
      refine PW_aload_n c_Y_leftBehind_0 rfl ?_
      refine PW_V0 (d2 := 3) (st := []) [] c_Y_leftBehind_1 lk_Y_leftBehind_25 (po_44 _ _) rfl rfl rfl (Nat.le_of_ble_eq_true rfl) (by first | decide | omega) (Nat.le_of_ble_eq_true rfl) ?_
      refine hf2 ?_
      show PW _ _ _ 4 [some (.ref 44), some (.int (1 <<< ((nI g) &&& 31)))] [] (E (sA x 45 f) y)
      refine PW_aload_n c_Y_leftBehind_4 rfl ?_
      refine PW_iload_n c_Y_leftBehind_5 rfl ?_
      refine PW_V0 (d2 := 1) (st := []) [.int (1 <<< ((nI g) &&& 31))] c_Y_leftBehind_6 lk_Y_leftBehind_28 (po_44 _ _) rfl rfl rfl (Nat.le_of_ble_eq_true rfl) (by first | decide | omega) (Nat.le_of_ble_eq_true rfl) ?_
      refine sp_Y_stay (hg.s45 f) (by rw [sA_at]; exact hf1) hkn ?_
      show PW _ _ _ 9 [some (.ref 44), some (.int (1 <<< ((nI g) &&& 31)))] [.int (AL y &&& (enR y (1 <<< ((nI g) &&& 31)) ^^^ -1))] (E (sI (sA x 45 f) 354 (nI (enW y (1 <<< ((nI g) &&& 31))))) y)
      refine PW_ireturn (ty := .int) c_Y_leftBehind_9 rfl rfl ?_
      show PW _ _ _ 32 [some (.ref 5), some (.int (nI g)), some (.int 0), none] [.int (AL y &&& (enR y (1 <<< ((nI g) &&& 31)) ^^^ -1))] (E (sI (sA x 45 f) 354 (nI (enW y (1 <<< ((nI g) &&& 31))))) y)
      refine PW_istore_n (i := 3) (L2 := [some (.ref 5), some (.int (nI g)), some (.int 0), some (.int (AL y &&& (enR y (1 <<< ((nI g) &&& 31)) ^^^ -1)))]) c_G_end_32 rfl (Nat.le_of_ble_eq_true rfl) rfl rfl ?_
      refine PW_iload_n c_G_end_33 rfl ?_
      refine PW_if_ne c_G_end_34 (fun h3 => absurd (by decide) h3) (fun _ => ?_)
      refine PW_aload_n c_G_end_37 rfl ?_
      refine PW_get (v := .ref 44) c_G_end_38 fl_G_58 (gf_5_6 _ _) ?_
      refine PW_V0 (d2 := 0) (st := []) [] c_G_end_41 lk_G_end_242 (po_44 _ _) rfl rfl rfl (Nat.le_of_ble_eq_true rfl) (by first | decide | omega) (Nat.le_of_ble_eq_true rfl) ?_
      show PW _ _ _ 0 [some (.ref 44)] [] (E (sI (sA x 45 f) 354 (nI (enW y (1 <<< ((nI g) &&& 31))))) y)
      refine PW_aload_n c_Y_waves_0 rfl ?_
      refine PW_get (v := .int (nI (enW y (1 <<< ((nI g) &&& 31))))) c_Y_waves_1 fl_Y_21 (gf_44_2 _ _) ?_
      refine PW_ireturn (ty := .int) c_Y_waves_4 rfl rfl ?_
      show PW _ _ _ 44 [some (.ref 5), some (.int (nI g)), some (.int 0), some (.int (AL y &&& (enR y (1 <<< ((nI g) &&& 31)) ^^^ -1)))] [.int (nI (enW y (1 <<< ((nI g) &&& 31))))] (E (sI (sA x 45 f) 354 (nI (enW y (1 <<< ((nI g) &&& 31))))) y)
      refine PW_goto c_G_end_44 ?_
      refine PW_ireturn (ty := .int) c_G_end_48 rfl rfl ?_
      exact h
    · refine PW.deeper (k := (2, 0, 0, z)) (Nat.le_of_ble_eq_true rfl) (Nat.le_refl _) (Nat.le_refl _) ?_
      refine PW_aload_n c_M_end_0 rfl ?_
      refine PW_iload_n c_M_end_1 rfl ?_
      refine PW_V0 (d2 := 1) (st := []) [.int (nI g)] c_M_end_2 lk_M_end_162 (po_70 _ _) rfl rfl rfl (Nat.le_of_ble_eq_true rfl) (by first | decide | omega) (Nat.le_of_ble_eq_true rfl) ?_
      refine sp_M_isGuest2 hg.W ?_
      show PW _ _ _ 5 [some (.ref 70), some (.int (nI g)), some (.int 0), none] [.int (b2i (0 ≤ (nI g).toInt ∧ (nI g).toInt < (nG y : Int)))] (E (sI (sA x 45 f) 354 (nI (enW y (1 <<< ((nI g) &&& 31))))) y)
      refine PW_if_eq c_M_end_5 (fun h0 => absurd hc0 (b2i_0.mp h0)) (fun _ => ?_)
      refine PW_iload_n c_M_end_8 rfl ?_
      refine PW_iconst (v := 0) c_M_end_9 (by decide) ?_
      refine PW_iconst (v := 1) c_M_end_10 (by decide) ?_
      refine PW_S0 (d2 := 0) (st := []) [.int 0, .int 0, .int 1] c_M_end_11 lk_M_end_131 rfl rfl rfl (Nat.le_of_ble_eq_true rfl) (by first | decide | omega) (Nat.le_of_ble_eq_true rfl) ?_
      refine sp_M_within  ?_
      show PW _ _ _ 14 [some (.ref 70), some (.int (nI g)), some (.int 0), none] [.int (b2i ((0 : Int32) ≤ (0 : Int32) ∧ (0 : Int32) ≤ (1 : Int32)))] (E (sI (sA x 45 f) 354 (nI (enW y (1 <<< ((nI g) &&& 31))))) y)
      refine PW_if_ne c_M_end_14 (fun _ => ?_) (fun h1 => absurd (by decide) (b2i_0.mp h1))
      refine PW_aload_n c_M_end_19 rfl ?_
      refine PW_iconst (v := 1) c_M_end_20 (by decide) ?_
      refine PW_iload_n c_M_end_21 rfl ?_
      refine PW_ishl c_M_end_22 ?_
      refine PW_V0 (d2 := 1) (st := []) [.int (1 <<< ((nI g) &&& 31))] c_M_end_23 lk_M_end_345 (po_70 _ _) rfl rfl rfl (Nat.le_of_ble_eq_true rfl) (by first | decide | omega) (Nat.le_of_ble_eq_true rfl) ?_
      refine sp_M_goEnd2 (y0 := y) rfl rfl hg.W hkn (sbG_sh hg.W hgn) ?_
      show PW _ _ _ 26 [some (.ref 70), some (.int (nI g)), some (.int 0), none] [.int (AL y &&& (enR y (1 <<< ((nI g) &&& 31)) ^^^ -1))] (E (sI (sA x 45 f) 354 (nI (enW y (1 <<< ((nI g) &&& 31))))) (sI y 605 (nI (enW y (1 <<< ((nI g) &&& 31))))))
      refine PW_istore_n (i := 3) (L2 := [some (.ref 70), some (.int (nI g)), some (.int 0), some (.int (AL y &&& (enR y (1 <<< ((nI g) &&& 31)) ^^^ -1)))]) c_M_end_26 rfl (Nat.le_of_ble_eq_true rfl) rfl rfl ?_
      refine PW_iload_n c_M_end_27 rfl ?_
      refine PW_if_ne c_M_end_28 (fun h2 => absurd (by decide) h2) (fun _ => ?_)
      refine PW_aload_n c_M_end_31 rfl ?_
      refine PW_get (v := .int (nI (enW y (1 <<< ((nI g) &&& 31))))) c_M_end_32 fl_M_342 (gf_70_45 _ _) ?_
      refine PW_goto c_M_end_35 ?_
      refine PW_ireturn (ty := .int) c_M_end_39 rfl rfl ?_
      exact h
  by_cases hk1 : a2 = 1
  · subst hk1
    refine ⟨AL y &&& (enR y (1 <<< (nI g &&& 31)) ^^^ -1), sI (sA x 45 f) 354 (nI (enW y (1 <<< ((nI g) &&& 31)))), sI y 605 (nI (enW y (1 <<< ((nI g) &&& 31)))), ?_, fun {z post} h => ?_, fun {z post} h => ?_⟩
    · exact INV_step (((hI.e45 f).e354 _).e605 _)
    · refine PW.deeper (k := (5, 0, 0, z)) (Nat.le_of_ble_eq_true rfl) (Nat.le_refl _) (Nat.le_refl _) ?_
      refine PW_aload_n c_G_end_0 rfl ?_
      refine PW_get (v := .ref 6) c_G_end_1 fl_G_13 (gf_5_0 _ _) ?_
      refine PW_iload_n c_G_end_4 rfl ?_
      refine PW_V0 (d2 := 0) (st := []) [.int (nI g)] c_G_end_5 lk_G_end_139 (po_6 _ _) rfl rfl rfl (Nat.le_of_ble_eq_true rfl) (by first | decide | omega) (Nat.le_of_ble_eq_true rfl) ?_
      refine sp_H_isGuest hg.W hg.x51 ?_
      show PW _ _ _ 8 [some (.ref 5), some (.int (nI g)), some (.int 1), none] [.int (b2i (0 ≤ (nI g).toInt ∧ (nI g).toInt < (nG y : Int)))] (E x y)
      refine PW_if_eq c_G_end_8 (fun h0 => absurd hc0 (b2i_0.mp h0)) (fun _ => ?_)
      refine PW_iload_n c_G_end_11 rfl ?_
      refine PW_if_lt c_G_end_12 (fun h1 => absurd h1 (by decide)) (fun _ => ?_)
      refine PW_iload_n c_G_end_15 rfl ?_
      refine PW_iconst (v := 1) c_G_end_16 (by decide) ?_
      refine PW_icmp_le c_G_end_17 (fun _ => ?_) (fun h2 => absurd (by decide) h2)
      refine PW_aload_n c_G_end_22 rfl ?_
      refine PW_get (v := .ref 44) c_G_end_23 fl_G_58 (gf_5_6 _ _) ?_
      refine PW_iconst (v := 1) c_G_end_26 (by decide) ?_
      refine PW_iload_n c_G_end_27 rfl ?_
      refine PW_ishl c_G_end_28 ?_
      refine PW_V0 (d2 := 4) (st := []) [.int (1 <<< ((nI g) &&& 31))] c_G_end_29 lk_G_end_239 (po_44 _ _) rfl rfl rfl (Nat.le_of_ble_eq_true rfl) (by first | decide | omega) (Nat.le_of_ble_eq_true rfl) ?_
      show PW _ _ _ 0 [some (.ref 44), some (.int (1 <<< ((nI g) &&& 31)))] [] (E x y)
      refine PW_aload_n c_Y_leftBehind_0 rfl ?_
      refine PW_V0 (d2 := 3) (st := []) [] c_Y_leftBehind_1 lk_Y_leftBehind_25 (po_44 _ _) rfl rfl rfl (Nat.le_of_ble_eq_true rfl) (by first | decide | omega) (Nat.le_of_ble_eq_true rfl) ?_
      refine hf2 ?_
      show PW _ _ _ 4 [some (.ref 44), some (.int (1 <<< ((nI g) &&& 31)))] [] (E (sA x 45 f) y)
      refine PW_aload_n c_Y_leftBehind_4 rfl ?_
      refine PW_iload_n c_Y_leftBehind_5 rfl ?_
      refine PW_V0 (d2 := 1) (st := []) [.int (1 <<< ((nI g) &&& 31))] c_Y_leftBehind_6 lk_Y_leftBehind_28 (po_44 _ _) rfl rfl rfl (Nat.le_of_ble_eq_true rfl) (by first | decide | omega) (Nat.le_of_ble_eq_true rfl) ?_
      refine sp_Y_stay (hg.s45 f) (by rw [sA_at]; exact hf1) hkn ?_
      show PW _ _ _ 9 [some (.ref 44), some (.int (1 <<< ((nI g) &&& 31)))] [.int (AL y &&& (enR y (1 <<< ((nI g) &&& 31)) ^^^ -1))] (E (sI (sA x 45 f) 354 (nI (enW y (1 <<< ((nI g) &&& 31))))) y)
      refine PW_ireturn (ty := .int) c_Y_leftBehind_9 rfl rfl ?_
      show PW _ _ _ 32 [some (.ref 5), some (.int (nI g)), some (.int 1), none] [.int (AL y &&& (enR y (1 <<< ((nI g) &&& 31)) ^^^ -1))] (E (sI (sA x 45 f) 354 (nI (enW y (1 <<< ((nI g) &&& 31))))) y)
      refine PW_istore_n (i := 3) (L2 := [some (.ref 5), some (.int (nI g)), some (.int 1), some (.int (AL y &&& (enR y (1 <<< ((nI g) &&& 31)) ^^^ -1)))]) c_G_end_32 rfl (Nat.le_of_ble_eq_true rfl) rfl rfl ?_
      refine PW_iload_n c_G_end_33 rfl ?_
      refine PW_if_ne c_G_end_34 (fun _ => ?_) (fun h3 => absurd h3 (by decide))
      refine PW_iload_n c_G_end_47 rfl ?_
      refine PW_ireturn (ty := .int) c_G_end_48 rfl rfl ?_
      exact h
    · refine PW.deeper (k := (2, 0, 0, z)) (Nat.le_of_ble_eq_true rfl) (Nat.le_refl _) (Nat.le_refl _) ?_
      refine PW_aload_n c_M_end_0 rfl ?_
      refine PW_iload_n c_M_end_1 rfl ?_
      refine PW_V0 (d2 := 1) (st := []) [.int (nI g)] c_M_end_2 lk_M_end_162 (po_70 _ _) rfl rfl rfl (Nat.le_of_ble_eq_true rfl) (by first | decide | omega) (Nat.le_of_ble_eq_true rfl) ?_
      refine sp_M_isGuest2 hg.W ?_
      show PW _ _ _ 5 [some (.ref 70), some (.int (nI g)), some (.int 1), none] [.int (b2i (0 ≤ (nI g).toInt ∧ (nI g).toInt < (nG y : Int)))] (E (sI (sA x 45 f) 354 (nI (enW y (1 <<< ((nI g) &&& 31))))) y)
      refine PW_if_eq c_M_end_5 (fun h0 => absurd hc0 (b2i_0.mp h0)) (fun _ => ?_)
      refine PW_iload_n c_M_end_8 rfl ?_
      refine PW_iconst (v := 0) c_M_end_9 (by decide) ?_
      refine PW_iconst (v := 1) c_M_end_10 (by decide) ?_
      refine PW_S0 (d2 := 0) (st := []) [.int 1, .int 0, .int 1] c_M_end_11 lk_M_end_131 rfl rfl rfl (Nat.le_of_ble_eq_true rfl) (by first | decide | omega) (Nat.le_of_ble_eq_true rfl) ?_
      refine sp_M_within  ?_
      show PW _ _ _ 14 [some (.ref 70), some (.int (nI g)), some (.int 1), none] [.int (b2i ((0 : Int32) ≤ (1 : Int32) ∧ (1 : Int32) ≤ (1 : Int32)))] (E (sI (sA x 45 f) 354 (nI (enW y (1 <<< ((nI g) &&& 31))))) y)
      refine PW_if_ne c_M_end_14 (fun _ => ?_) (fun h1 => absurd (by decide) (b2i_0.mp h1))
      refine PW_aload_n c_M_end_19 rfl ?_
      refine PW_iconst (v := 1) c_M_end_20 (by decide) ?_
      refine PW_iload_n c_M_end_21 rfl ?_
      refine PW_ishl c_M_end_22 ?_
      refine PW_V0 (d2 := 1) (st := []) [.int (1 <<< ((nI g) &&& 31))] c_M_end_23 lk_M_end_345 (po_70 _ _) rfl rfl rfl (Nat.le_of_ble_eq_true rfl) (by first | decide | omega) (Nat.le_of_ble_eq_true rfl) ?_
      refine sp_M_goEnd2 (y0 := y) rfl rfl hg.W hkn (sbG_sh hg.W hgn) ?_
      show PW _ _ _ 26 [some (.ref 70), some (.int (nI g)), some (.int 1), none] [.int (AL y &&& (enR y (1 <<< ((nI g) &&& 31)) ^^^ -1))] (E (sI (sA x 45 f) 354 (nI (enW y (1 <<< ((nI g) &&& 31))))) (sI y 605 (nI (enW y (1 <<< ((nI g) &&& 31))))))
      refine PW_istore_n (i := 3) (L2 := [some (.ref 70), some (.int (nI g)), some (.int 1), some (.int (AL y &&& (enR y (1 <<< ((nI g) &&& 31)) ^^^ -1)))]) c_M_end_26 rfl (Nat.le_of_ble_eq_true rfl) rfl rfl ?_
      refine PW_iload_n c_M_end_27 rfl ?_
      refine PW_if_ne c_M_end_28 (fun _ => ?_) (fun h2 => absurd h2 (by decide))
      refine PW_iload_n c_M_end_38 rfl ?_
      refine PW_ireturn (ty := .int) c_M_end_39 rfl rfl ?_
      exact h
  have hk5 : ¬ (0 ≤ a2 ∧ a2 ≤ 1) := fun q => by simp only [Int32.le_iff_toInt_le, ← Int32.toInt_inj, tiA] at q hk0 hk1; omega
  by_cases hk2 : a2 < 0
  · refine ⟨-1, x, y, ?_, fun {z post} h => ?_, fun {z post} h => ?_⟩
    · exact INV_step hI
    · refine PW.deeper (k := (5, 0, 0, z)) (Nat.le_of_ble_eq_true rfl) (Nat.le_refl _) (Nat.le_refl _) ?_
      refine PW_aload_n c_G_end_0 rfl ?_
      refine PW_get (v := .ref 6) c_G_end_1 fl_G_13 (gf_5_0 _ _) ?_
      refine PW_iload_n c_G_end_4 rfl ?_
      refine PW_V0 (d2 := 0) (st := []) [.int (nI g)] c_G_end_5 lk_G_end_139 (po_6 _ _) rfl rfl rfl (Nat.le_of_ble_eq_true rfl) (by first | decide | omega) (Nat.le_of_ble_eq_true rfl) ?_
      refine sp_H_isGuest hg.W hg.x51 ?_
      show PW _ _ _ 8 [some (.ref 5), some (.int (nI g)), some (.int a2), none] [.int (b2i (0 ≤ (nI g).toInt ∧ (nI g).toInt < (nG y : Int)))] (E x y)
      refine PW_if_eq c_G_end_8 (fun h0 => absurd hc0 (b2i_0.mp h0)) (fun _ => ?_)
      refine PW_iload_n c_G_end_11 rfl ?_
      refine PW_if_lt c_G_end_12 (fun h1 => ?_) (fun h1 => absurd hk2 h1)
      refine PW_iconst (v := -1) c_G_end_20 (by decide) ?_
      refine PW_ireturn (ty := .int) c_G_end_21 rfl rfl ?_
      exact h
    · refine PW.deeper (k := (2, 0, 0, z)) (Nat.le_of_ble_eq_true rfl) (Nat.le_refl _) (Nat.le_refl _) ?_
      refine PW_aload_n c_M_end_0 rfl ?_
      refine PW_iload_n c_M_end_1 rfl ?_
      refine PW_V0 (d2 := 1) (st := []) [.int (nI g)] c_M_end_2 lk_M_end_162 (po_70 _ _) rfl rfl rfl (Nat.le_of_ble_eq_true rfl) (by first | decide | omega) (Nat.le_of_ble_eq_true rfl) ?_
      refine sp_M_isGuest2 hg.W ?_
      show PW _ _ _ 5 [some (.ref 70), some (.int (nI g)), some (.int a2), none] [.int (b2i (0 ≤ (nI g).toInt ∧ (nI g).toInt < (nG y : Int)))] (E x y)
      refine PW_if_eq c_M_end_5 (fun h0 => absurd hc0 (b2i_0.mp h0)) (fun _ => ?_)
      refine PW_iload_n c_M_end_8 rfl ?_
      refine PW_iconst (v := 0) c_M_end_9 (by decide) ?_
      refine PW_iconst (v := 1) c_M_end_10 (by decide) ?_
      refine PW_S0 (d2 := 0) (st := []) [.int a2, .int 0, .int 1] c_M_end_11 lk_M_end_131 rfl rfl rfl (Nat.le_of_ble_eq_true rfl) (by first | decide | omega) (Nat.le_of_ble_eq_true rfl) ?_
      refine sp_M_within  ?_
      show PW _ _ _ 14 [some (.ref 70), some (.int (nI g)), some (.int a2), none] [.int (b2i ((0 : Int32) ≤ a2 ∧ a2 ≤ (1 : Int32)))] (E x y)
      refine PW_if_ne c_M_end_14 (fun h1 => absurd (b2i_n0.mp h1) hk5) (fun _ => ?_)
      refine PW_iconst (v := -1) c_M_end_17 (by decide) ?_
      refine PW_ireturn (ty := .int) c_M_end_18 rfl rfl ?_
      exact h
  refine ⟨-1, x, y, ?_, fun {z post} h => ?_, fun {z post} h => ?_⟩
  · exact INV_step hI
  · refine PW.deeper (k := (5, 0, 0, z)) (Nat.le_of_ble_eq_true rfl) (Nat.le_refl _) (Nat.le_refl _) ?_
    refine PW_aload_n c_G_end_0 rfl ?_
    refine PW_get (v := .ref 6) c_G_end_1 fl_G_13 (gf_5_0 _ _) ?_
    refine PW_iload_n c_G_end_4 rfl ?_
    refine PW_V0 (d2 := 0) (st := []) [.int (nI g)] c_G_end_5 lk_G_end_139 (po_6 _ _) rfl rfl rfl (Nat.le_of_ble_eq_true rfl) (by first | decide | omega) (Nat.le_of_ble_eq_true rfl) ?_
    refine sp_H_isGuest hg.W hg.x51 ?_
    show PW _ _ _ 8 [some (.ref 5), some (.int (nI g)), some (.int a2), none] [.int (b2i (0 ≤ (nI g).toInt ∧ (nI g).toInt < (nG y : Int)))] (E x y)
    refine PW_if_eq c_G_end_8 (fun h0 => absurd hc0 (b2i_0.mp h0)) (fun _ => ?_)
    refine PW_iload_n c_G_end_11 rfl ?_
    refine PW_if_lt c_G_end_12 (fun h1 => absurd h1 hk2) (fun h1 => ?_)
    refine PW_iload_n c_G_end_15 rfl ?_
    refine PW_iconst (v := 1) c_G_end_16 (by decide) ?_
    refine PW_icmp_le c_G_end_17 (fun h2 => absurd h2 (fun q => hk5 ⟨Int32.not_lt.mp hk2, q⟩)) (fun h2 => ?_)
    refine PW_iconst (v := -1) c_G_end_20 (by decide) ?_
    refine PW_ireturn (ty := .int) c_G_end_21 rfl rfl ?_
    exact h
  · refine PW.deeper (k := (2, 0, 0, z)) (Nat.le_of_ble_eq_true rfl) (Nat.le_refl _) (Nat.le_refl _) ?_
    refine PW_aload_n c_M_end_0 rfl ?_
    refine PW_iload_n c_M_end_1 rfl ?_
    refine PW_V0 (d2 := 1) (st := []) [.int (nI g)] c_M_end_2 lk_M_end_162 (po_70 _ _) rfl rfl rfl (Nat.le_of_ble_eq_true rfl) (by first | decide | omega) (Nat.le_of_ble_eq_true rfl) ?_
    refine sp_M_isGuest2 hg.W ?_
    show PW _ _ _ 5 [some (.ref 70), some (.int (nI g)), some (.int a2), none] [.int (b2i (0 ≤ (nI g).toInt ∧ (nI g).toInt < (nG y : Int)))] (E x y)
    refine PW_if_eq c_M_end_5 (fun h0 => absurd hc0 (b2i_0.mp h0)) (fun _ => ?_)
    refine PW_iload_n c_M_end_8 rfl ?_
    refine PW_iconst (v := 0) c_M_end_9 (by decide) ?_
    refine PW_iconst (v := 1) c_M_end_10 (by decide) ?_
    refine PW_S0 (d2 := 0) (st := []) [.int a2, .int 0, .int 1] c_M_end_11 lk_M_end_131 rfl rfl rfl (Nat.le_of_ble_eq_true rfl) (by first | decide | omega) (Nat.le_of_ble_eq_true rfl) ?_
    refine sp_M_within  ?_
    show PW _ _ _ 14 [some (.ref 70), some (.int (nI g)), some (.int a2), none] [.int (b2i ((0 : Int32) ≤ a2 ∧ a2 ≤ (1 : Int32)))] (E x y)
    refine PW_if_ne c_M_end_14 (fun h1 => absurd (b2i_n0.mp h1) hk5) (fun _ => ?_)
    refine PW_iconst (v := -1) c_M_end_17 (by decide) ?_
    refine PW_ireturn (ty := .int) c_M_end_18 rfl rfl ?_
    exact h
set_option maxHeartbeats 4000000 in
theorem op_yawn {t : Nat} {x y : XS} (hI : INV t x y) (ht : t < 512) : ∃ (r : Int32) (x' y' : XS), INV (t + 1) x' y' ∧ (∀ {z : ZS} {post : Option Value → List PE → Prop}, post (some (.int r)) (E x' y) → PW (90, 0, 0, z) m_G_yawn post 0 [some (.ref 5)] [] (E x y)) ∧ (∀ {z : ZS} {post : Option Value → List PE → Prop}, post (some (.int r)) (E x' y') → PW (90, 0, 0, z) m_M_yawn post 0 [some (.ref 70), none, none, none, none] [] (E x' y)) := by
  obtain ⟨hg, hc, ht0, hl, hd, hb, hs⟩ := id hI
  obtain ⟨f, hf1, hf2⟩ := sp_Y_readLeaving hg

  refine ⟨(ywI y (nG y)).1, wvX y 354 (sA x 45 f) (nG y), wvX y 605 y (nG y), ?_, fun {z post} h => ?_, fun {z post} h => ?_⟩
  · exact INV_step (((hI.e45 f).wvx _).wvy _)
  · refine PW.deeper (k := (5, 0, 0, z)) (Nat.le_of_ble_eq_true rfl) (Nat.le_refl _) (Nat.le_refl _) ?_
    refine PW_aload_n c_G_yawn_0 rfl ?_
    refine PW_get (v := .ref 44) c_G_yawn_1 fl_G_58 (gf_5_6 _ _) ?_
    refine PW_V0 (d2 := 4) (st := []) [] c_G_yawn_4 lk_G_yawn_245 (po_44 _ _) rfl rfl rfl (Nat.le_of_ble_eq_true rfl) (by first | decide | omega) (Nat.le_of_ble_eq_true rfl) ?_
    refine sp_Y_best hg hf1 hf2 ?_
    show PW _ _ _ 7 [some (.ref 5)] [.int ((ywI y (nG y)).1)] (E (wvX y 354 (sA x 45 f) (nG y)) y)
    refine PW_ireturn (ty := .int) c_G_yawn_7 rfl rfl ?_
    exact h
  · refine PW.deeper (k := (2, 0, 0, z)) (Nat.le_of_ble_eq_true rfl) (Nat.le_refl _) (Nat.le_refl _) ?_
    refine PW_bipush (v := -2) c_M_yawn_0 (by decide) ?_
    refine PW_istore_n (i := 1) (L2 := [some (.ref 70), some (.int (-2)), none, none, none]) c_M_yawn_2 rfl (Nat.le_of_ble_eq_true rfl) rfl rfl ?_
    refine PW_iconst (v := 0) c_M_yawn_3 (by decide) ?_
    refine PW_istore_n (i := 2) (L2 := [some (.ref 70), some (.int (-2)), some (.int 0), none, none]) c_M_yawn_4 rfl (Nat.le_of_ble_eq_true rfl) rfl rfl ?_
    refine PW_iconst (v := 0) c_M_yawn_5 (by decide) ?_
    refine PW_istore_n (i := 3) (L2 := [some (.ref 70), some (.int (-2)), some (.int 0), some (.int 0), none]) c_M_yawn_6 rfl (Nat.le_of_ble_eq_true rfl) rfl rfl ?_
    exact lp_M_yawn hg.W h (nG y) 0 (Nat.zero_add _) none h
set_option maxHeartbeats 4000000 in
theorem op_clear {t : Nat} {x y : XS} (hI : INV t x y) (ht : t < 512) : ∃ (r : Int32) (x' y' : XS), INV (t + 1) x' y' ∧ (∀ {z : ZS} {post : Option Value → List PE → Prop}, post (some (.int r)) (E x' y) → PW (90, 0, 0, z) m_G_clear post 0 [some (.ref 5)] [] (E x y)) ∧ (∀ {z : ZS} {post : Option Value → List PE → Prop}, post (some (.int r)) (E x' y') → PW (90, 0, 0, z) m_M_clear post 0 [some (.ref 70), none, none] [] (E x' y)) := by
  obtain ⟨hg, hc, ht0, hl, hd, hb, hs⟩ := id hI
  obtain ⟨f, hf1, hf2⟩ := sp_Y_readLeaving hg

  refine ⟨clB y (2 ^ nG y), clX y 354 (sA x 45 f) (2 ^ nG y), clX y 605 y (2 ^ nG y), ?_, fun {z post} h => ?_, fun {z post} h => ?_⟩
  · exact INV_step (((hI.e45 f).clx _).cly _)
  · refine PW.deeper (k := (5, 0, 0, z)) (Nat.le_of_ble_eq_true rfl) (Nat.le_refl _) (Nat.le_refl _) ?_
    refine PW_aload_n c_G_clear_0 rfl ?_
    refine PW_get (v := .ref 44) c_G_clear_1 fl_G_58 (gf_5_6 _ _) ?_
    refine PW_V0 (d2 := 4) (st := []) [] c_G_clear_4 lk_G_clear_248 (po_44 _ _) rfl rfl rfl (Nat.le_of_ble_eq_true rfl) (by first | decide | omega) (Nat.le_of_ble_eq_true rfl) ?_
    refine sp_Y_clear hg hf1 hf2 ?_
    show PW _ _ _ 7 [some (.ref 5)] [.int (clB y (2 ^ nG y))] (E (clX y 354 (sA x 45 f) (2 ^ nG y)) y)
    refine PW_ireturn (ty := .int) c_G_clear_7 rfl rfl ?_
    exact h
  · refine PW.deeper (k := (2, 0, 0, z)) (Nat.le_of_ble_eq_true rfl) (Nat.le_refl _) (Nat.le_refl _) ?_
    refine PW_iconst (v := 1) c_M_clear_0 (by decide) ?_
    refine PW_aload_n c_M_clear_1 rfl ?_
    refine PW_get (v := .int (y.1 561)) c_M_clear_2 fl_M_128 (gf_70_1 _ _) ?_
    refine PW_ishl c_M_clear_5 ?_
    refine PW_iconst (v := 1) c_M_clear_6 (by decide) ?_
    refine PW_isub c_M_clear_7 ?_
    refine PW_istore_n (i := 1) (L2 := [some (.ref 70), some (.int ((1 <<< ((y.1 561) &&& 31)) - 1)), none]) c_M_clear_8 rfl (Nat.le_of_ble_eq_true rfl) rfl rfl ?_
    refine PW_iconst (v := 0) c_M_clear_9 (by decide) ?_
    refine PW_istore_n (i := 2) (L2 := [some (.ref 70), some (.int ((1 <<< ((y.1 561) &&& 31)) - 1)), some (.int 0)]) c_M_clear_10 rfl (Nat.le_of_ble_eq_true rfl) rfl rfl ?_
    exact lp_M_clear hg.W h (2 ^ nG y) 0 (Nat.zero_add _)
