theorem tiA99 : (99 : Int32).toInt = 99 := by decide
set_option maxHeartbeats 1000000
set_option maxHeartbeats 4000000 in
theorem op_knows {t : Nat} {x y : XS} {a1 : Int32} {a2 : Int32} (hI : INV t x y) (ht : t < 512) : ∃ (r : Int32) (x' y' : XS), INV (t + 1) x' y' ∧ (∀ {z : ZS} {post : Option Value → List PE → Prop}, post (some (.int r)) (E x' y) → PW (90, 0, 0, z) m_G_knows post 0 [some (.ref 5), some (.int a1), some (.int a2)] [] (E x y)) ∧ (∀ {z : ZS} {post : Option Value → List PE → Prop}, post (some (.int r)) (E x' y') → PW (90, 0, 0, z) m_M_knows post 0 [some (.ref 70), some (.int a1), some (.int a2), none, none, none] [] (E x' y)) := by
  obtain ⟨hg, hc, ht0, hl, hd, hb, hs⟩ := id hI

  by_cases hc0 : ¬ (0 ≤ a1.toInt ∧ a1.toInt < (nG y : Int))
  · refine ⟨-1, x, y, ?_, fun {z post} h => ?_, fun {z post} h => ?_⟩
    · exact INV_step hI
    · refine PW.deeper (k := (4, 0, 0, z)) (Nat.le_of_ble_eq_true rfl) (Nat.le_refl _) (Nat.le_refl _) ?_
      refine PW_aload_n c_G_knows_0 rfl ?_
      refine PW_get (v := .ref 6) c_G_knows_1 fl_G_13 (gf_5_0 _ _) ?_
      refine PW_iload_n c_G_knows_4 rfl ?_
      refine PW_V0 (d2 := 0) (st := []) [.int a1] c_G_knows_5 lk_G_knows_139 (po_6 _ _) rfl rfl rfl (Nat.le_of_ble_eq_true rfl) (by first | decide | omega) (Nat.le_of_ble_eq_true rfl) ?_
      refine sp_H_isGuest hg.W hg.x51 ?_
      show PW _ _ _ 8 [some (.ref 5), some (.int a1), some (.int a2)] [.int (b2i (0 ≤ a1.toInt ∧ a1.toInt < (nG y : Int)))] (E x y)
      refine PW_if_eq c_G_knows_8 (fun _ => ?_) (fun h0 => absurd (b2i_n0.mp h0) hc0)
      refine PW_iconst (v := -1) c_G_knows_22 (by decide) ?_
      refine PW_ireturn (ty := .int) c_G_knows_23 rfl rfl ?_
      exact h
    · refine PW.deeper (k := (2, 0, 0, z)) (Nat.le_of_ble_eq_true rfl) (Nat.le_refl _) (Nat.le_refl _) ?_
      refine PW_aload_n c_M_knows_0 rfl ?_
      refine PW_iload_n c_M_knows_1 rfl ?_
      refine PW_V0 (d2 := 1) (st := []) [.int a1] c_M_knows_2 lk_M_knows_162 (po_70 _ _) rfl rfl rfl (Nat.le_of_ble_eq_true rfl) (by first | decide | omega) (Nat.le_of_ble_eq_true rfl) ?_
      refine sp_M_isGuest2 hg.W ?_
      show PW _ _ _ 5 [some (.ref 70), some (.int a1), some (.int a2), none, none, none] [.int (b2i (0 ≤ a1.toInt ∧ a1.toInt < (nG y : Int)))] (E x y)
      refine PW_if_eq c_M_knows_5 (fun _ => ?_) (fun h0 => absurd (b2i_n0.mp h0) hc0)
      refine PW_iconst (v := -1) c_M_knows_18 (by decide) ?_
      refine PW_ireturn (ty := .int) c_M_knows_19 rfl rfl ?_
      exact h
  replace hc0 : 0 ≤ a1.toInt ∧ a1.toInt < (nG y : Int) := Decidable.not_not.mp hc0
  obtain ⟨g, g1, rfl, g3, g4⟩ := nI_ex hc0.1
  have hg10 : g < 10 := by have := hg.1.2; omega
  have hkn : S10 (1 <<< (nI g &&& 31)) := S10_sh hg10
  by_cases hk1 : a2 < -1
  · refine ⟨-1, x, y, ?_, fun {z post} h => ?_, fun {z post} h => ?_⟩
    · exact INV_step hI
    · refine PW.deeper (k := (4, 0, 0, z)) (Nat.le_of_ble_eq_true rfl) (Nat.le_refl _) (Nat.le_refl _) ?_
      refine PW_aload_n c_G_knows_0 rfl ?_
      refine PW_get (v := .ref 6) c_G_knows_1 fl_G_13 (gf_5_0 _ _) ?_
      refine PW_iload_n c_G_knows_4 rfl ?_
      refine PW_V0 (d2 := 0) (st := []) [.int (nI g)] c_G_knows_5 lk_G_knows_139 (po_6 _ _) rfl rfl rfl (Nat.le_of_ble_eq_true rfl) (by first | decide | omega) (Nat.le_of_ble_eq_true rfl) ?_
      refine sp_H_isGuest hg.W hg.x51 ?_
      show PW _ _ _ 8 [some (.ref 5), some (.int (nI g)), some (.int a2)] [.int (b2i (0 ≤ (nI g).toInt ∧ (nI g).toInt < (nG y : Int)))] (E x y)
      refine PW_if_eq c_G_knows_8 (fun h0 => absurd hc0 (b2i_0.mp h0)) (fun _ => ?_)
      refine PW_iload_n c_G_knows_11 rfl ?_
      refine PW_iconst (v := -1) c_G_knows_12 (by decide) ?_
      refine PW_icmp_lt c_G_knows_13 (fun h1 => ?_) (fun h1 => absurd hk1 h1)
      refine PW_iconst (v := -1) c_G_knows_22 (by decide) ?_
      refine PW_ireturn (ty := .int) c_G_knows_23 rfl rfl ?_
      exact h
    · refine PW.deeper (k := (2, 0, 0, z)) (Nat.le_of_ble_eq_true rfl) (Nat.le_refl _) (Nat.le_refl _) ?_
      refine PW_aload_n c_M_knows_0 rfl ?_
      refine PW_iload_n c_M_knows_1 rfl ?_
      refine PW_V0 (d2 := 1) (st := []) [.int (nI g)] c_M_knows_2 lk_M_knows_162 (po_70 _ _) rfl rfl rfl (Nat.le_of_ble_eq_true rfl) (by first | decide | omega) (Nat.le_of_ble_eq_true rfl) ?_
      refine sp_M_isGuest2 hg.W ?_
      show PW _ _ _ 5 [some (.ref 70), some (.int (nI g)), some (.int a2), none, none, none] [.int (b2i (0 ≤ (nI g).toInt ∧ (nI g).toInt < (nG y : Int)))] (E x y)
      refine PW_if_eq c_M_knows_5 (fun h0 => absurd hc0 (b2i_0.mp h0)) (fun _ => ?_)
      refine PW_iload_n c_M_knows_8 rfl ?_
      refine PW_iconst (v := -1) c_M_knows_9 (by decide) ?_
      refine PW_bipush (v := 99) c_M_knows_10 (by decide) ?_
      refine PW_S0 (d2 := 0) (st := []) [.int a2, .int (-1), .int 99] c_M_knows_12 lk_M_knows_131 rfl rfl rfl (Nat.le_of_ble_eq_true rfl) (by first | decide | omega) (Nat.le_of_ble_eq_true rfl) ?_
      refine sp_M_within  ?_
      show PW _ _ _ 15 [some (.ref 70), some (.int (nI g)), some (.int a2), none, none, none] [.int (b2i ((-1 : Int32) ≤ a2 ∧ a2 ≤ (99 : Int32)))] (E x y)
      refine PW_if_ne c_M_knows_15 (fun h1 => absurd (b2i_n0.mp h1) (fun q => absurd q.1 (Int32.not_le.mpr hk1))) (fun _ => ?_)
      refine PW_iconst (v := -1) c_M_knows_18 (by decide) ?_
      refine PW_ireturn (ty := .int) c_M_knows_19 rfl rfl ?_
      exact h
  by_cases hk2 : 99 < a2
  · refine ⟨-1, x, y, ?_, fun {z post} h => ?_, fun {z post} h => ?_⟩
    · exact INV_step hI
    · refine PW.deeper (k := (4, 0, 0, z)) (Nat.le_of_ble_eq_true rfl) (Nat.le_refl _) (Nat.le_refl _) ?_
      refine PW_aload_n c_G_knows_0 rfl ?_
      refine PW_get (v := .ref 6) c_G_knows_1 fl_G_13 (gf_5_0 _ _) ?_
      refine PW_iload_n c_G_knows_4 rfl ?_
      refine PW_V0 (d2 := 0) (st := []) [.int (nI g)] c_G_knows_5 lk_G_knows_139 (po_6 _ _) rfl rfl rfl (Nat.le_of_ble_eq_true rfl) (by first | decide | omega) (Nat.le_of_ble_eq_true rfl) ?_
      refine sp_H_isGuest hg.W hg.x51 ?_
      show PW _ _ _ 8 [some (.ref 5), some (.int (nI g)), some (.int a2)] [.int (b2i (0 ≤ (nI g).toInt ∧ (nI g).toInt < (nG y : Int)))] (E x y)
      refine PW_if_eq c_G_knows_8 (fun h0 => absurd hc0 (b2i_0.mp h0)) (fun _ => ?_)
      refine PW_iload_n c_G_knows_11 rfl ?_
      refine PW_iconst (v := -1) c_G_knows_12 (by decide) ?_
      refine PW_icmp_lt c_G_knows_13 (fun h1 => absurd h1 hk1) (fun h1 => ?_)
      refine PW_iload_n c_G_knows_16 rfl ?_
      refine PW_bipush (v := 99) c_G_knows_17 (by decide) ?_
      refine PW_icmp_le c_G_knows_19 (fun h2 => absurd h2 (Int32.not_le.mpr hk2)) (fun h2 => ?_)
      refine PW_iconst (v := -1) c_G_knows_22 (by decide) ?_
      refine PW_ireturn (ty := .int) c_G_knows_23 rfl rfl ?_
      exact h
    · refine PW.deeper (k := (2, 0, 0, z)) (Nat.le_of_ble_eq_true rfl) (Nat.le_refl _) (Nat.le_refl _) ?_
      refine PW_aload_n c_M_knows_0 rfl ?_
      refine PW_iload_n c_M_knows_1 rfl ?_
      refine PW_V0 (d2 := 1) (st := []) [.int (nI g)] c_M_knows_2 lk_M_knows_162 (po_70 _ _) rfl rfl rfl (Nat.le_of_ble_eq_true rfl) (by first | decide | omega) (Nat.le_of_ble_eq_true rfl) ?_
      refine sp_M_isGuest2 hg.W ?_
      show PW _ _ _ 5 [some (.ref 70), some (.int (nI g)), some (.int a2), none, none, none] [.int (b2i (0 ≤ (nI g).toInt ∧ (nI g).toInt < (nG y : Int)))] (E x y)
      refine PW_if_eq c_M_knows_5 (fun h0 => absurd hc0 (b2i_0.mp h0)) (fun _ => ?_)
      refine PW_iload_n c_M_knows_8 rfl ?_
      refine PW_iconst (v := -1) c_M_knows_9 (by decide) ?_
      refine PW_bipush (v := 99) c_M_knows_10 (by decide) ?_
      refine PW_S0 (d2 := 0) (st := []) [.int a2, .int (-1), .int 99] c_M_knows_12 lk_M_knows_131 rfl rfl rfl (Nat.le_of_ble_eq_true rfl) (by first | decide | omega) (Nat.le_of_ble_eq_true rfl) ?_
      refine sp_M_within  ?_
      show PW _ _ _ 15 [some (.ref 70), some (.int (nI g)), some (.int a2), none, none, none] [.int (b2i ((-1 : Int32) ≤ a2 ∧ a2 ≤ (99 : Int32)))] (E x y)
      refine PW_if_ne c_M_knows_15 (fun h1 => absurd (b2i_n0.mp h1) (fun q => absurd q.2 (Int32.not_le.mpr hk2))) (fun _ => ?_)
      refine PW_iconst (v := -1) c_M_knows_18 (by decide) ?_
      refine PW_ireturn (ty := .int) c_M_knows_19 rfl rfl ?_
      exact h
  by_cases hk3 : a2 = -1
  · subst hk3
    refine ⟨kwS y ((1 <<< (y.1 561 &&& 31)) - 1) 110 0 (1 <<< (nI g &&& 31)), x, y, ?_, fun {z post} h => ?_, fun {z post} h => ?_⟩
    · exact INV_step hI
    · refine PW.deeper (k := (4, 0, 0, z)) (Nat.le_of_ble_eq_true rfl) (Nat.le_refl _) (Nat.le_refl _) ?_
      refine PW_aload_n c_G_knows_0 rfl ?_
      refine PW_get (v := .ref 6) c_G_knows_1 fl_G_13 (gf_5_0 _ _) ?_
      refine PW_iload_n c_G_knows_4 rfl ?_
      refine PW_V0 (d2 := 0) (st := []) [.int (nI g)] c_G_knows_5 lk_G_knows_139 (po_6 _ _) rfl rfl rfl (Nat.le_of_ble_eq_true rfl) (by first | decide | omega) (Nat.le_of_ble_eq_true rfl) ?_
      refine sp_H_isGuest hg.W hg.x51 ?_
      show PW _ _ _ 8 [some (.ref 5), some (.int (nI g)), some (.int (-1))] [.int (b2i (0 ≤ (nI g).toInt ∧ (nI g).toInt < (nG y : Int)))] (E x y)
      refine PW_if_eq c_G_knows_8 (fun h0 => absurd hc0 (b2i_0.mp h0)) (fun _ => ?_)
      refine PW_iload_n c_G_knows_11 rfl ?_
      refine PW_iconst (v := -1) c_G_knows_12 (by decide) ?_
      refine PW_icmp_lt c_G_knows_13 (fun h1 => absurd h1 (by decide)) (fun _ => ?_)
      refine PW_iload_n c_G_knows_16 rfl ?_
      refine PW_bipush (v := 99) c_G_knows_17 (by decide) ?_
      refine PW_icmp_le c_G_knows_19 (fun _ => ?_) (fun h2 => absurd (by decide) h2)
      refine PW_iload_n c_G_knows_24 rfl ?_
      refine PW_iconst (v := -1) c_G_knows_25 (by decide) ?_
      refine PW_icmp_ne c_G_knows_26 (fun h3 => absurd (by decide) h3) (fun _ => ?_)
      refine PW_aload_n c_G_knows_29 rfl ?_
      refine PW_get (v := .ref 44) c_G_knows_30 fl_G_58 (gf_5_6 _ _) ?_
      refine PW_iload_n c_G_knows_33 rfl ?_
      refine PW_V0 (d2 := 3) (st := []) [.int (nI g)] c_G_knows_34 lk_G_knows_251 (po_44 _ _) rfl rfl rfl (Nat.le_of_ble_eq_true rfl) (by first | decide | omega) (Nat.le_of_ble_eq_true rfl) ?_
      refine sp_Y_first hg rfl hg10 ?_
      show PW _ _ _ 37 [some (.ref 5), some (.int (nI g)), some (.int (-1))] [.int (kwS y ((1 <<< (y.1 561 &&& 31)) - 1) 110 0 (1 <<< (nI g &&& 31)))] (E x y)
      refine PW_goto c_G_knows_37 ?_
      refine PW_ireturn (ty := .int) c_G_knows_49 rfl rfl ?_
      exact h
    · refine PW.deeper (k := (2, 0, 0, z)) (Nat.le_of_ble_eq_true rfl) (Nat.le_refl _) (Nat.le_refl _) ?_
      refine PW_aload_n c_M_knows_0 rfl ?_
      refine PW_iload_n c_M_knows_1 rfl ?_
      refine PW_V0 (d2 := 1) (st := []) [.int (nI g)] c_M_knows_2 lk_M_knows_162 (po_70 _ _) rfl rfl rfl (Nat.le_of_ble_eq_true rfl) (by first | decide | omega) (Nat.le_of_ble_eq_true rfl) ?_
      refine sp_M_isGuest2 hg.W ?_
      show PW _ _ _ 5 [some (.ref 70), some (.int (nI g)), some (.int (-1)), none, none, none] [.int (b2i (0 ≤ (nI g).toInt ∧ (nI g).toInt < (nG y : Int)))] (E x y)
      refine PW_if_eq c_M_knows_5 (fun h0 => absurd hc0 (b2i_0.mp h0)) (fun _ => ?_)
      refine PW_iload_n c_M_knows_8 rfl ?_
      refine PW_iconst (v := -1) c_M_knows_9 (by decide) ?_
      refine PW_bipush (v := 99) c_M_knows_10 (by decide) ?_
      refine PW_S0 (d2 := 0) (st := []) [.int (-1), .int (-1), .int 99] c_M_knows_12 lk_M_knows_131 rfl rfl rfl (Nat.le_of_ble_eq_true rfl) (by first | decide | omega) (Nat.le_of_ble_eq_true rfl) ?_
      refine sp_M_within  ?_
      show PW _ _ _ 15 [some (.ref 70), some (.int (nI g)), some (.int (-1)), none, none, none] [.int (b2i ((-1 : Int32) ≤ (-1 : Int32) ∧ (-1 : Int32) ≤ (99 : Int32)))] (E x y)
      refine PW_if_ne c_M_knows_15 (fun _ => ?_) (fun h1 => absurd (by decide) (b2i_0.mp h1))
      refine PW_iconst (v := 1) c_M_knows_20 (by decide) ?_
      refine PW_iload_n c_M_knows_21 rfl ?_
      refine PW_ishl c_M_knows_22 ?_
      refine PW_istore_n (i := 3) (L2 := [some (.ref 70), some (.int (nI g)), some (.int (-1)), some (.int (1 <<< ((nI g) &&& 31))), none, none]) c_M_knows_23 rfl (Nat.le_of_ble_eq_true rfl) rfl rfl ?_
      refine PW_iconst (v := 1) c_M_knows_24 (by decide) ?_
      refine PW_aload_n c_M_knows_25 rfl ?_
      refine PW_get (v := .int (y.1 561)) c_M_knows_26 fl_M_128 (gf_70_1 _ _) ?_
      refine PW_ishl c_M_knows_29 ?_
      refine PW_iconst (v := 1) c_M_knows_30 (by decide) ?_
      refine PW_isub c_M_knows_31 ?_
      refine PW_istore (i := 4) (L2 := [some (.ref 70), some (.int (nI g)), some (.int (-1)), some (.int (1 <<< ((nI g) &&& 31))), some (.int ((1 <<< ((y.1 561) &&& 31)) - 1)), none]) c_M_knows_32 (Nat.le_of_ble_eq_true rfl) rfl rfl ?_
      refine PW_iconst (v := 1) c_M_knows_34 (by decide) ?_
      refine PW_istore (i := 5) (L2 := [some (.ref 70), some (.int (nI g)), some (.int (-1)), some (.int (1 <<< ((nI g) &&& 31))), some (.int ((1 <<< ((y.1 561) &&& 31)) - 1)), some (.int 1)]) c_M_knows_35 (Nat.le_of_ble_eq_true rfl) rfl rfl ?_
      refine PW_iload c_M_knows_37 rfl ?_
      refine PW_iload_n c_M_knows_39 rfl ?_
      refine PW_icmp_gt c_M_knows_40 (fun _ => ?_) (fun h2 => absurd (by decide) h2)
      refine PW_iload_n c_M_knows_57 rfl ?_
      refine PW_if_lt c_M_knows_58 (fun _ => ?_) (fun h3 => absurd (by decide) h3)
      refine PW_iconst (v := 0) c_M_knows_63 (by decide) ?_
      refine PW_istore (i := 5) (L2 := [some (.ref 70), some (.int (nI g)), some (.int (-1)), some (.int (1 <<< ((nI g) &&& 31))), some (.int ((1 <<< ((y.1 561) &&& 31)) - 1)), some (.int 0)]) c_M_knows_64 (Nat.le_of_ble_eq_true rfl) rfl rfl ?_
      exact lp2_M_knows hg.W 121 0 _ (by omega) hkn (by rw [kwS_121 hg hkn]; exact h)
  obtain ⟨K, K1, rfl, K3, K4⟩ := nI_ex (x := a2) (by have q := Int32.not_lt.mp hk1; rw [Int32.le_iff_toInt_le] at q; have q2 : ¬ a2.toInt = -1 := fun e => hk3 (Int32.toInt_inj.mp e); simp only [tiA] at q; omega)
  have hK99 : K ≤ 99 := by have q := Int32.not_lt.mp hk2; rw [Int32.le_iff_toInt_le, tiA99] at q; omega
  have hK0 : ¬ nI K < -1 := hk1
  refine ⟨kwI y K 1 (1 <<< (nI g &&& 31)), x, y, ?_, fun {z post} h => ?_, fun {z post} h => ?_⟩
  · exact INV_step hI
  · refine PW.deeper (k := (4, 0, 0, z)) (Nat.le_of_ble_eq_true rfl) (Nat.le_refl _) (Nat.le_refl _) ?_
    refine PW_aload_n c_G_knows_0 rfl ?_
    refine PW_get (v := .ref 6) c_G_knows_1 fl_G_13 (gf_5_0 _ _) ?_
    refine PW_iload_n c_G_knows_4 rfl ?_
    refine PW_V0 (d2 := 0) (st := []) [.int (nI g)] c_G_knows_5 lk_G_knows_139 (po_6 _ _) rfl rfl rfl (Nat.le_of_ble_eq_true rfl) (by first | decide | omega) (Nat.le_of_ble_eq_true rfl) ?_
    refine sp_H_isGuest hg.W hg.x51 ?_
    show PW _ _ _ 8 [some (.ref 5), some (.int (nI g)), some (.int (nI K))] [.int (b2i (0 ≤ (nI g).toInt ∧ (nI g).toInt < (nG y : Int)))] (E x y)
    refine PW_if_eq c_G_knows_8 (fun h0 => absurd hc0 (b2i_0.mp h0)) (fun _ => ?_)
    refine PW_iload_n c_G_knows_11 rfl ?_
    refine PW_iconst (v := -1) c_G_knows_12 (by decide) ?_
    refine PW_icmp_lt c_G_knows_13 (fun h1 => absurd h1 hk1) (fun h1 => ?_)
    refine PW_iload_n c_G_knows_16 rfl ?_
    refine PW_bipush (v := 99) c_G_knows_17 (by decide) ?_
    refine PW_icmp_le c_G_knows_19 (fun h2 => ?_) (fun h2 => absurd (Int32.not_lt.mp hk2) h2)
    refine PW_iload_n c_G_knows_24 rfl ?_
    refine PW_iconst (v := -1) c_G_knows_25 (by decide) ?_
    refine PW_icmp_ne c_G_knows_26 (fun h3 => ?_) (fun h3 => absurd h3 hk3)
    refine PW_aload_n c_G_knows_40 rfl ?_
    refine PW_get (v := .ref 44) c_G_knows_41 fl_G_58 (gf_5_6 _ _) ?_
    refine PW_iload_n c_G_knows_44 rfl ?_
    refine PW_iload_n c_G_knows_45 rfl ?_
    refine PW_V0 (d2 := 3) (st := []) [.int (nI g), .int (nI K)] c_G_knows_46 lk_G_knows_254 (po_44 _ _) rfl rfl rfl (Nat.le_of_ble_eq_true rfl) (by first | decide | omega) (Nat.le_of_ble_eq_true rfl) ?_
    refine sp_Y_whoKnows hg rfl rfl hg10 (by omega) ?_
    show PW _ _ _ 49 [some (.ref 5), some (.int (nI g)), some (.int (nI K))] [.int (kwI y K 1 (1 <<< (nI g &&& 31)))] (E x y)
    refine PW_ireturn (ty := .int) c_G_knows_49 rfl rfl ?_
    exact h
  · refine PW.deeper (k := (2, 0, 0, z)) (Nat.le_of_ble_eq_true rfl) (Nat.le_refl _) (Nat.le_refl _) ?_
    refine PW_aload_n c_M_knows_0 rfl ?_
    refine PW_iload_n c_M_knows_1 rfl ?_
    refine PW_V0 (d2 := 1) (st := []) [.int (nI g)] c_M_knows_2 lk_M_knows_162 (po_70 _ _) rfl rfl rfl (Nat.le_of_ble_eq_true rfl) (by first | decide | omega) (Nat.le_of_ble_eq_true rfl) ?_
    refine sp_M_isGuest2 hg.W ?_
    show PW _ _ _ 5 [some (.ref 70), some (.int (nI g)), some (.int (nI K)), none, none, none] [.int (b2i (0 ≤ (nI g).toInt ∧ (nI g).toInt < (nG y : Int)))] (E x y)
    refine PW_if_eq c_M_knows_5 (fun h0 => absurd hc0 (b2i_0.mp h0)) (fun _ => ?_)
    refine PW_iload_n c_M_knows_8 rfl ?_
    refine PW_iconst (v := -1) c_M_knows_9 (by decide) ?_
    refine PW_bipush (v := 99) c_M_knows_10 (by decide) ?_
    refine PW_S0 (d2 := 0) (st := []) [.int (nI K), .int (-1), .int 99] c_M_knows_12 lk_M_knows_131 rfl rfl rfl (Nat.le_of_ble_eq_true rfl) (by first | decide | omega) (Nat.le_of_ble_eq_true rfl) ?_
    refine sp_M_within  ?_
    show PW _ _ _ 15 [some (.ref 70), some (.int (nI g)), some (.int (nI K)), none, none, none] [.int (b2i ((-1 : Int32) ≤ (nI K) ∧ (nI K) ≤ (99 : Int32)))] (E x y)
    refine PW_if_ne c_M_knows_15 (fun _ => ?_) (fun h1 => absurd ⟨Int32.not_lt.mp hk1, Int32.not_lt.mp hk2⟩ (b2i_0.mp h1))
    refine PW_iconst (v := 1) c_M_knows_20 (by decide) ?_
    refine PW_iload_n c_M_knows_21 rfl ?_
    refine PW_ishl c_M_knows_22 ?_
    refine PW_istore_n (i := 3) (L2 := [some (.ref 70), some (.int (nI g)), some (.int (nI K)), some (.int (1 <<< ((nI g) &&& 31))), none, none]) c_M_knows_23 rfl (Nat.le_of_ble_eq_true rfl) rfl rfl ?_
    refine PW_iconst (v := 1) c_M_knows_24 (by decide) ?_
    refine PW_aload_n c_M_knows_25 rfl ?_
    refine PW_get (v := .int (y.1 561)) c_M_knows_26 fl_M_128 (gf_70_1 _ _) ?_
    refine PW_ishl c_M_knows_29 ?_
    refine PW_iconst (v := 1) c_M_knows_30 (by decide) ?_
    refine PW_isub c_M_knows_31 ?_
    refine PW_istore (i := 4) (L2 := [some (.ref 70), some (.int (nI g)), some (.int (nI K)), some (.int (1 <<< ((nI g) &&& 31))), some (.int ((1 <<< ((y.1 561) &&& 31)) - 1)), none]) c_M_knows_32 (Nat.le_of_ble_eq_true rfl) rfl rfl ?_
    refine PW_iconst (v := 1) c_M_knows_34 (by decide) ?_
    refine PW_istore (i := 5) (L2 := [some (.ref 70), some (.int (nI g)), some (.int (nI K)), some (.int (1 <<< ((nI g) &&& 31))), some (.int ((1 <<< ((y.1 561) &&& 31)) - 1)), some (.int 1)]) c_M_knows_35 (Nat.le_of_ble_eq_true rfl) rfl rfl ?_
    refine PW.eqL ?_ rfl rfl (lp_M_knows (g := nI g) (K := K) (al := (1 <<< (y.1 561 &&& 31)) - 1) hg.W (by omega) K 1 _ (by omega) hkn ?_)
    · rfl
    · refine PW_iload_n c_M_knows_57 rfl ?_
      refine PW_if_lt c_M_knows_58 (fun h0 => absurd h0 (nI_pos (by omega))) (fun h0 => ?_)
      refine PW_iload_n c_M_knows_61 rfl ?_
      refine PW_ireturn (ty := .int) c_M_knows_62 rfl rfl ?_
      exact h
