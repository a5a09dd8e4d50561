set_option maxHeartbeats 4000000 in
theorem op_mend {t : Nat} {x y : XS} {a1 : Int32} {a2 : Int32} {a3 : Int32} (hI : INV t x y) (ht : t < 512) : ∃ (r : Int32) (x' y' : XS), INV (t + 1) x' y' ∧ (∀ {z : ZS} {post : Option Value → List PE → Prop}, post (some (.int r)) (E x' y) → PW (90, 0, 0, z) m_G_mend post 0 [some (.ref 5), some (.int a1), some (.int a2), some (.int a3), none] [] (E x y)) ∧ (∀ {z : ZS} {post : Option Value → List PE → Prop}, post (some (.int r)) (E x' y') → PW (90, 0, 0, z) m_M_mend post 0 [some (.ref 70), some (.int a1), some (.int a2), some (.int a3)] [] (E x' y)) := by
  obtain ⟨hg, hc, ht0, hl, hd, hb, hs⟩ := id hI
  obtain ⟨cd, cu, c1, c2, c3, c4, c5, c6⟩ := id hc
  have hn10 := hg.1.2

  by_cases hw : ¬ (0 ≤ a2.toInt ∧ a2.toInt < 8)
  · refine ⟨-1, x, y, ?_, fun {z post} h => ?_, fun {z post} h => ?_⟩
    · exact INV_step hI
    · refine PW.deeper (k := (4, 0, 0, z)) (Nat.le_of_ble_eq_true rfl) (Nat.le_refl _) (Nat.le_refl _) ?_
      refine PW_aload_n c_G_mend_0 rfl ?_
      refine PW_get (v := .ref 6) c_G_mend_1 fl_G_13 (gf_5_0 _ _) ?_
      refine PW_iload_n c_G_mend_4 rfl ?_
      refine PW_iload_n c_G_mend_5 rfl ?_
      refine PW_V0 (d2 := 1) (st := []) [.int a1, .int a2] c_G_mend_6 lk_G_mend_124 (po_6 _ _) rfl rfl rfl (Nat.le_of_ble_eq_true rfl) (by first | decide | omega) (Nat.le_of_ble_eq_true rfl) ?_
      show PW _ _ _ 0 [some (.ref 6), some (.int a1), some (.int a2)] [] (E x y)
      refine PW_iload_n c_H_hasFact_0 rfl ?_
      refine PW_bipush (v := 7) c_H_hasFact_1 (by decide) ?_
      refine PW_icmp_ne c_H_hasFact_3 (fun h0 => ?_) (fun h0 => absurd h0 (fun q => hw (by rw [q]; decide)))
      refine PW_iload_n c_H_hasFact_25 rfl ?_
      refine PW_if_lt c_H_hasFact_26 (fun h1 => ?_) (fun h1 => ?_)
      · refine PW_iconst (v := 0) c_H_hasFact_50 (by decide) ?_
        refine PW_ireturn (ty := .boolean) c_H_hasFact_51 rfl (by decide +kernel) ?_
        show PW _ _ _ 9 [some (.ref 5), some (.int a1), some (.int a2), some (.int a3), none] [.int 0] (E x y)
        refine PW_if_eq c_G_mend_9 (fun _ => ?_) (fun h2 => absurd (by decide) h2)
        refine PW_iconst (v := -1) c_G_mend_20 (by decide) ?_
        refine PW_ireturn (ty := .int) c_G_mend_21 rfl rfl ?_
        exact h
      · refine PW_iload_n c_H_hasFact_29 rfl ?_
        refine PW_aload_n c_H_hasFact_30 rfl ?_
        refine PW_get (v := .ref 7) c_H_hasFact_31 fl_H_13 (gf_6_0 _ _) ?_
        refine PW_alen (v := 7) c_H_hasFact_34 (ar_7 _ _) (t0 := 5) rfl (by decide) ?_
        refine PW_icmp_ge c_H_hasFact_35 (fun h3 => ?_) (fun h3 => ?_)
        · refine PW_iconst (v := 0) c_H_hasFact_50 (by decide) ?_
          refine PW_ireturn (ty := .boolean) c_H_hasFact_51 rfl (by decide +kernel) ?_
          show PW _ _ _ 9 [some (.ref 5), some (.int a1), some (.int a2), some (.int a3), none] [.int 0] (E x y)
          refine PW_if_eq c_G_mend_9 (fun _ => ?_) (fun h4 => absurd (by decide) h4)
          refine PW_iconst (v := -1) c_G_mend_20 (by decide) ?_
          refine PW_ireturn (ty := .int) c_G_mend_21 rfl rfl ?_
          exact h
        · exfalso; simp only [Int32.lt_iff_toInt_lt, Int32.le_iff_toInt_le, Int32.not_lt, Int32.not_le, ← Int32.toInt_inj, tiA] at *; omega
    · refine PW.deeper (k := (3, 0, 0, z)) (Nat.le_of_ble_eq_true rfl) (Nat.le_refl _) (Nat.le_refl _) ?_
      refine PW_aload_n c_M_mend_0 rfl ?_
      refine PW_iload_n c_M_mend_1 rfl ?_
      refine PW_iload_n c_M_mend_2 rfl ?_
      refine PW_V0 (d2 := 2) (st := []) [.int a1, .int a2] c_M_mend_3 lk_M_mend_165 (po_70 _ _) rfl rfl rfl (Nat.le_of_ble_eq_true rfl) (by first | decide | omega) (Nat.le_of_ble_eq_true rfl) ?_
      show PW _ _ _ 0 [some (.ref 70), some (.int a1), some (.int a2)] [] (E x y)
      refine PW_iload_n c_M_isThing_0 rfl ?_
      refine PW_bipush (v := 7) c_M_isThing_1 (by decide) ?_
      refine PW_icmp_ne c_M_isThing_3 (fun h0 => ?_) (fun h0 => absurd h0 (fun q => hw (by rw [q]; decide)))
      refine PW_iload_n c_M_isThing_15 rfl ?_
      refine PW_iconst (v := 0) c_M_isThing_16 (by decide) ?_
      refine PW_bipush (v := 6) c_M_isThing_17 (by decide) ?_
      refine PW_S0 (d2 := 0) (st := []) [.int a2, .int 0, .int 6] c_M_isThing_19 lk_M_isThing_131 rfl rfl rfl (Nat.le_of_ble_eq_true rfl) (by first | decide | omega) (Nat.le_of_ble_eq_true rfl) ?_
      refine sp_M_within  ?_
      show PW _ _ _ 22 [some (.ref 70), some (.int a1), some (.int a2)] [.int (b2i ((0 : Int32) ≤ a2 ∧ a2 ≤ (6 : Int32)))] (E x y)
      refine PW_if_eq c_M_isThing_22 (fun _ => ?_) (fun h1 => absurd (b2i_n0.mp h1) (fun q => hw (by simp only [Int32.le_iff_toInt_le, tiA] at q; omega)))
      refine PW_iconst (v := 0) c_M_isThing_37 (by decide) ?_
      refine PW_ireturn (ty := .boolean) c_M_isThing_38 rfl (by decide +kernel) ?_
      show PW _ _ _ 6 [some (.ref 70), some (.int a1), some (.int a2), some (.int a3)] [.int 0] (E x y)
      refine PW_if_eq c_M_mend_6 (fun _ => ?_) (fun h2 => absurd (by decide) h2)
      refine PW_iconst (v := -1) c_M_mend_27 (by decide) ?_
      refine PW_ireturn (ty := .int) c_M_mend_28 rfl rfl ?_
      exact h
  replace hw := Decidable.not_not.mp hw
  obtain ⟨w, w1, rfl, w3, w4⟩ := nI_ex hw.1
  have hw8 : w < 8 := by omega
  by_cases hp : ¬ hasP y w a1
  · refine ⟨-1, x, y, ?_, fun {z post} h => ?_, fun {z post} h => ?_⟩
    · exact INV_step hI
    · refine PW.deeper (k := (4, 0, 0, z)) (Nat.le_of_ble_eq_true rfl) (Nat.le_refl _) (Nat.le_refl _) ?_
      refine PW_aload_n c_G_mend_0 rfl ?_
      refine PW_get (v := .ref 6) c_G_mend_1 fl_G_13 (gf_5_0 _ _) ?_
      refine PW_iload_n c_G_mend_4 rfl ?_
      refine PW_iload_n c_G_mend_5 rfl ?_
      refine PW_V0 (d2 := 1) (st := []) [.int a1, .int (nI w)] c_G_mend_6 lk_G_mend_124 (po_6 _ _) rfl rfl rfl (Nat.le_of_ble_eq_true rfl) (by first | decide | omega) (Nat.le_of_ble_eq_true rfl) ?_
      refine sp_H_hasFact8 hw8 rfl hg.W hg.x51 ?_
      show PW _ _ _ 9 [some (.ref 5), some (.int a1), some (.int (nI w)), some (.int a3), none] [.int (b2i (hasP y w a1))] (E x y)
      refine PW_if_eq c_G_mend_9 (fun _ => ?_) (fun h0 => absurd (b2i_n0.mp h0) hp)
      refine PW_iconst (v := -1) c_G_mend_20 (by decide) ?_
      refine PW_ireturn (ty := .int) c_G_mend_21 rfl rfl ?_
      exact h
    · refine PW.deeper (k := (3, 0, 0, z)) (Nat.le_of_ble_eq_true rfl) (Nat.le_refl _) (Nat.le_refl _) ?_
      refine PW_aload_n c_M_mend_0 rfl ?_
      refine PW_iload_n c_M_mend_1 rfl ?_
      refine PW_iload_n c_M_mend_2 rfl ?_
      refine PW_V0 (d2 := 2) (st := []) [.int a1, .int (nI w)] c_M_mend_3 lk_M_mend_165 (po_70 _ _) rfl rfl rfl (Nat.le_of_ble_eq_true rfl) (by first | decide | omega) (Nat.le_of_ble_eq_true rfl) ?_
      refine sp_M_isThing8 hw8 rfl hg.W ?_
      show PW _ _ _ 6 [some (.ref 70), some (.int a1), some (.int (nI w)), some (.int a3)] [.int (b2i (hasP y w a1))] (E x y)
      refine PW_if_eq c_M_mend_6 (fun _ => ?_) (fun h0 => absurd (b2i_n0.mp h0) hp)
      refine PW_iconst (v := -1) c_M_mend_27 (by decide) ?_
      refine PW_ireturn (ty := .int) c_M_mend_28 rfl rfl ?_
      exact h
  replace hp := Decidable.not_not.mp hp
  obtain ⟨g, g1, rfl, g3, g4⟩ := nI_ex (x := a1) (by rcases hp with q | q <;> exact q.2.1)
  have hgw : (w = 7 ∧ g < 4) ∨ (w < 7 ∧ g < nG y) := by rcases hp with q | q <;> omega
  by_cases hf : ¬ fitP w a3
  · refine ⟨-1, x, y, ?_, fun {z post} h => ?_, fun {z post} h => ?_⟩
    · exact INV_step hI
    · refine PW.deeper (k := (4, 0, 0, z)) (Nat.le_of_ble_eq_true rfl) (Nat.le_refl _) (Nat.le_refl _) ?_
      refine PW_aload_n c_G_mend_0 rfl ?_
      refine PW_get (v := .ref 6) c_G_mend_1 fl_G_13 (gf_5_0 _ _) ?_
      refine PW_iload_n c_G_mend_4 rfl ?_
      refine PW_iload_n c_G_mend_5 rfl ?_
      refine PW_V0 (d2 := 1) (st := []) [.int (nI g), .int (nI w)] c_G_mend_6 lk_G_mend_124 (po_6 _ _) rfl rfl rfl (Nat.le_of_ble_eq_true rfl) (by first | decide | omega) (Nat.le_of_ble_eq_true rfl) ?_
      refine sp_H_hasFact8 hw8 rfl hg.W hg.x51 ?_
      show PW _ _ _ 9 [some (.ref 5), some (.int (nI g)), some (.int (nI w)), some (.int a3), none] [.int (b2i (hasP y w (nI g)))] (E x y)
      refine PW_if_eq c_G_mend_9 (fun h0 => absurd hp (b2i_0.mp h0)) (fun _ => ?_)
      refine PW_iload_n c_G_mend_12 rfl ?_
      refine PW_iload_n c_G_mend_13 rfl ?_
      refine PW_S0 (d2 := 0) (st := []) [.int (nI w), .int a3] c_G_mend_14 lk_G_mend_94 rfl rfl rfl (Nat.le_of_ble_eq_true rfl) (by first | decide | omega) (Nat.le_of_ble_eq_true rfl) ?_
      refine sp_H_fits8 hw8 rfl ?_
      show PW _ _ _ 17 [some (.ref 5), some (.int (nI g)), some (.int (nI w)), some (.int a3), none] [.int (b2i (fitP w a3))] (E x y)
      refine PW_if_ne c_G_mend_17 (fun h1 => absurd (b2i_n0.mp h1) hf) (fun _ => ?_)
      refine PW_iconst (v := -1) c_G_mend_20 (by decide) ?_
      refine PW_ireturn (ty := .int) c_G_mend_21 rfl rfl ?_
      exact h
    · refine PW.deeper (k := (3, 0, 0, z)) (Nat.le_of_ble_eq_true rfl) (Nat.le_refl _) (Nat.le_refl _) ?_
      refine PW_aload_n c_M_mend_0 rfl ?_
      refine PW_iload_n c_M_mend_1 rfl ?_
      refine PW_iload_n c_M_mend_2 rfl ?_
      refine PW_V0 (d2 := 2) (st := []) [.int (nI g), .int (nI w)] c_M_mend_3 lk_M_mend_165 (po_70 _ _) rfl rfl rfl (Nat.le_of_ble_eq_true rfl) (by first | decide | omega) (Nat.le_of_ble_eq_true rfl) ?_
      refine sp_M_isThing8 hw8 rfl hg.W ?_
      show PW _ _ _ 6 [some (.ref 70), some (.int (nI g)), some (.int (nI w)), some (.int a3)] [.int (b2i (hasP y w (nI g)))] (E x y)
      refine PW_if_eq c_M_mend_6 (fun h0 => absurd hp (b2i_0.mp h0)) (fun _ => ?_)
      refine PW_iload_n c_M_mend_9 rfl ?_
      refine PW_iload_n c_M_mend_10 rfl ?_
      refine PW_S0 (d2 := 2) (st := []) [.int (nI w), .int a3] c_M_mend_11 lk_M_mend_169 rfl rfl rfl (Nat.le_of_ble_eq_true rfl) (by first | decide | omega) (Nat.le_of_ble_eq_true rfl) ?_
      refine sp_M_mayBe8 hw8 rfl ?_
      show PW _ _ _ 14 [some (.ref 70), some (.int (nI g)), some (.int (nI w)), some (.int a3)] [.int (b2i (fitP w a3))] (E x y)
      refine PW_if_eq c_M_mend_14 (fun _ => ?_) (fun h1 => absurd (b2i_n0.mp h1) hf)
      refine PW_iconst (v := -1) c_M_mend_27 (by decide) ?_
      refine PW_ireturn (ty := .int) c_M_mend_28 rfl rfl ?_
      exact h
  replace hf : fitP w a3 := Decidable.not_not.mp hf
  have hbo : okv w (y.2.1 (71 + w) g) := by
    rcases hgw with q | q
    · rw [q.1]; exact (hg.2.2.2.1 g q.2).2
    · exact hg.ok w q.1 q.2
  by_cases hv : y.2.1 (71 + w) g = a3
  · refine ⟨y.2.1 (71 + w) g, x, y, ?_, fun {z post} h => ?_, fun {z post} h => ?_⟩
    · exact INV_step hI
    · refine PW.deeper (k := (4, 0, 0, z)) (Nat.le_of_ble_eq_true rfl) (Nat.le_refl _) (Nat.le_refl _) ?_
      refine PW_aload_n c_G_mend_0 rfl ?_
      refine PW_get (v := .ref 6) c_G_mend_1 fl_G_13 (gf_5_0 _ _) ?_
      refine PW_iload_n c_G_mend_4 rfl ?_
      refine PW_iload_n c_G_mend_5 rfl ?_
      refine PW_V0 (d2 := 1) (st := []) [.int (nI g), .int (nI w)] c_G_mend_6 lk_G_mend_124 (po_6 _ _) rfl rfl rfl (Nat.le_of_ble_eq_true rfl) (by first | decide | omega) (Nat.le_of_ble_eq_true rfl) ?_
      refine sp_H_hasFact8 hw8 rfl hg.W hg.x51 ?_
      show PW _ _ _ 9 [some (.ref 5), some (.int (nI g)), some (.int (nI w)), some (.int a3), none] [.int (b2i (hasP y w (nI g)))] (E x y)
      refine PW_if_eq c_G_mend_9 (fun h0 => absurd hp (b2i_0.mp h0)) (fun _ => ?_)
      refine PW_iload_n c_G_mend_12 rfl ?_
      refine PW_iload_n c_G_mend_13 rfl ?_
      refine PW_S0 (d2 := 0) (st := []) [.int (nI w), .int a3] c_G_mend_14 lk_G_mend_94 rfl rfl rfl (Nat.le_of_ble_eq_true rfl) (by first | decide | omega) (Nat.le_of_ble_eq_true rfl) ?_
      refine sp_H_fits8 hw8 rfl ?_
      show PW _ _ _ 17 [some (.ref 5), some (.int (nI g)), some (.int (nI w)), some (.int a3), none] [.int (b2i (fitP w a3))] (E x y)
      refine PW_if_ne c_G_mend_17 (fun _ => ?_) (fun h1 => absurd hf (b2i_0.mp h1))
      refine PW_aload_n c_G_mend_22 rfl ?_
      refine PW_get (v := .ref 6) c_G_mend_23 fl_G_13 (gf_5_0 _ _) ?_
      refine PW_iload_n c_G_mend_26 rfl ?_
      refine PW_iload_n c_G_mend_27 rfl ?_
      refine PW_V0 (d2 := 2) (st := []) [.int (nI g), .int (nI w)] c_G_mend_28 lk_G_mend_127 (po_6 _ _) rfl rfl rfl (Nat.le_of_ble_eq_true rfl) (by first | decide | omega) (Nat.le_of_ble_eq_true rfl) ?_
      refine sp_H_fact8 hg hw8 hgw rfl rfl ?_
      show PW _ _ _ 31 [some (.ref 5), some (.int (nI g)), some (.int (nI w)), some (.int a3), none] [.int (y.2.1 (71 + w) g)] (E x y)
      refine PW_istore (i := 4) (L2 := [some (.ref 5), some (.int (nI g)), some (.int (nI w)), some (.int a3), some (.int (y.2.1 (71 + w) g))]) c_G_mend_31 (Nat.le_of_ble_eq_true rfl) rfl rfl ?_
      refine PW_iload c_G_mend_33 rfl ?_
      refine PW_iload_n c_G_mend_35 rfl ?_
      refine PW_icmp_eq c_G_mend_36 (fun h2 => ?_) (fun h2 => absurd hv h2)
      refine PW_iload c_G_mend_61 rfl ?_
      refine PW_ireturn (ty := .int) c_G_mend_63 rfl rfl ?_
      exact h
    · refine PW.deeper (k := (3, 0, 0, z)) (Nat.le_of_ble_eq_true rfl) (Nat.le_refl _) (Nat.le_refl _) ?_
      refine PW_aload_n c_M_mend_0 rfl ?_
      refine PW_iload_n c_M_mend_1 rfl ?_
      refine PW_iload_n c_M_mend_2 rfl ?_
      refine PW_V0 (d2 := 2) (st := []) [.int (nI g), .int (nI w)] c_M_mend_3 lk_M_mend_165 (po_70 _ _) rfl rfl rfl (Nat.le_of_ble_eq_true rfl) (by first | decide | omega) (Nat.le_of_ble_eq_true rfl) ?_
      refine sp_M_isThing8 hw8 rfl hg.W ?_
      show PW _ _ _ 6 [some (.ref 70), some (.int (nI g)), some (.int (nI w)), some (.int a3)] [.int (b2i (hasP y w (nI g)))] (E x y)
      refine PW_if_eq c_M_mend_6 (fun h0 => absurd hp (b2i_0.mp h0)) (fun _ => ?_)
      refine PW_iload_n c_M_mend_9 rfl ?_
      refine PW_iload_n c_M_mend_10 rfl ?_
      refine PW_S0 (d2 := 2) (st := []) [.int (nI w), .int a3] c_M_mend_11 lk_M_mend_169 rfl rfl rfl (Nat.le_of_ble_eq_true rfl) (by first | decide | omega) (Nat.le_of_ble_eq_true rfl) ?_
      refine sp_M_mayBe8 hw8 rfl ?_
      show PW _ _ _ 14 [some (.ref 70), some (.int (nI g)), some (.int (nI w)), some (.int a3)] [.int (b2i (fitP w a3))] (E x y)
      refine PW_if_eq c_M_mend_14 (fun h1 => absurd hf (b2i_0.mp h1)) (fun _ => ?_)
      refine PW_aload_n c_M_mend_17 rfl ?_
      refine PW_iload_n c_M_mend_18 rfl ?_
      refine PW_iload_n c_M_mend_19 rfl ?_
      refine PW_iload_n c_M_mend_20 rfl ?_
      refine PW_V0 (d2 := 1) (st := []) [.int (nI w), .int (nI g), .int a3] c_M_mend_21 lk_M_mend_172 (po_70 _ _) rfl rfl rfl (Nat.le_of_ble_eq_true rfl) (by first | decide | omega) (Nat.le_of_ble_eq_true rfl) ?_
      refine sp_M_ch0 hn10 hw8 hgw rfl rfl hv ?_
      show PW _ _ _ 24 [some (.ref 70), some (.int (nI g)), some (.int (nI w)), some (.int a3)] [.int (y.2.1 (71 + w) g)] (E x y)
      refine PW_goto c_M_mend_24 ?_
      refine PW_ireturn (ty := .int) c_M_mend_28 rfl rfl ?_
      exact h
  by_cases hd40 : cd = 40
  · refine ⟨y.2.1 (71 + w) g, sI (sI (adX 50 (sI (dX 50 (sfX w x g a3) 39) 397 39) 39 (nI g) (nI w) (y.2.1 (71 + w) g) a3) 397 (39 + 1)) 398 (39 + 1), lyY w (sI (adX 79 (sI (dX 79 (sI y 571 0) 39) 570 39) 39 (nI w) (nI g) (y.2.1 (71 + w) g) a3) 570 (39 + 1)) g a3, ?_, fun {z post} h => ?_, fun {z post} h => ?_⟩
    · exact INV_step (INV_mend2 hI hw8 hgw hbo hf (fun i hi => by obtain ⟨k1, k2, k3, k4, k5⟩ := c6 i (by omega); exact ⟨k1, k2, k3, k4, k5⟩))
    · refine PW.deeper (k := (4, 0, 0, z)) (Nat.le_of_ble_eq_true rfl) (Nat.le_refl _) (Nat.le_refl _) ?_
      refine PW_aload_n c_G_mend_0 rfl ?_
      refine PW_get (v := .ref 6) c_G_mend_1 fl_G_13 (gf_5_0 _ _) ?_
      refine PW_iload_n c_G_mend_4 rfl ?_
      refine PW_iload_n c_G_mend_5 rfl ?_
      refine PW_V0 (d2 := 1) (st := []) [.int (nI g), .int (nI w)] c_G_mend_6 lk_G_mend_124 (po_6 _ _) rfl rfl rfl (Nat.le_of_ble_eq_true rfl) (by first | decide | omega) (Nat.le_of_ble_eq_true rfl) ?_
      refine sp_H_hasFact8 hw8 rfl hg.W hg.x51 ?_
      show PW _ _ _ 9 [some (.ref 5), some (.int (nI g)), some (.int (nI w)), some (.int a3), none] [.int (b2i (hasP y w (nI g)))] (E x y)
      refine PW_if_eq c_G_mend_9 (fun h0 => absurd hp (b2i_0.mp h0)) (fun _ => ?_)
      refine PW_iload_n c_G_mend_12 rfl ?_
      refine PW_iload_n c_G_mend_13 rfl ?_
      refine PW_S0 (d2 := 0) (st := []) [.int (nI w), .int a3] c_G_mend_14 lk_G_mend_94 rfl rfl rfl (Nat.le_of_ble_eq_true rfl) (by first | decide | omega) (Nat.le_of_ble_eq_true rfl) ?_
      refine sp_H_fits8 hw8 rfl ?_
      show PW _ _ _ 17 [some (.ref 5), some (.int (nI g)), some (.int (nI w)), some (.int a3), none] [.int (b2i (fitP w a3))] (E x y)
      refine PW_if_ne c_G_mend_17 (fun _ => ?_) (fun h1 => absurd hf (b2i_0.mp h1))
      refine PW_aload_n c_G_mend_22 rfl ?_
      refine PW_get (v := .ref 6) c_G_mend_23 fl_G_13 (gf_5_0 _ _) ?_
      refine PW_iload_n c_G_mend_26 rfl ?_
      refine PW_iload_n c_G_mend_27 rfl ?_
      refine PW_V0 (d2 := 2) (st := []) [.int (nI g), .int (nI w)] c_G_mend_28 lk_G_mend_127 (po_6 _ _) rfl rfl rfl (Nat.le_of_ble_eq_true rfl) (by first | decide | omega) (Nat.le_of_ble_eq_true rfl) ?_
      refine sp_H_fact8 hg hw8 hgw rfl rfl ?_
      show PW _ _ _ 31 [some (.ref 5), some (.int (nI g)), some (.int (nI w)), some (.int a3), none] [.int (y.2.1 (71 + w) g)] (E x y)
      refine PW_istore (i := 4) (L2 := [some (.ref 5), some (.int (nI g)), some (.int (nI w)), some (.int a3), some (.int (y.2.1 (71 + w) g))]) c_G_mend_31 (Nat.le_of_ble_eq_true rfl) rfl rfl ?_
      refine PW_iload c_G_mend_33 rfl ?_
      refine PW_iload_n c_G_mend_35 rfl ?_
      refine PW_icmp_eq c_G_mend_36 (fun h2 => absurd h2 hv) (fun h2 => ?_)
      refine PW_aload_n c_G_mend_39 rfl ?_
      refine PW_get (v := .ref 6) c_G_mend_40 fl_G_13 (gf_5_0 _ _) ?_
      refine PW_iload_n c_G_mend_43 rfl ?_
      refine PW_iload_n c_G_mend_44 rfl ?_
      refine PW_iload_n c_G_mend_45 rfl ?_
      refine PW_V0 (d2 := 3) (st := []) [.int (nI g), .int (nI w), .int a3] c_G_mend_46 lk_G_mend_131 (po_6 _ _) rfl rfl rfl (Nat.le_of_ble_eq_true rfl) (by first | decide | omega) (Nat.le_of_ble_eq_true rfl) ?_
      refine sp_set (n := nG y) (hg.x51.trans hg.1.1) hn10 hw8 hgw rfl rfl ?_
      show PW _ _ _ 49 [some (.ref 5), some (.int (nI g)), some (.int (nI w)), some (.int a3), some (.int (y.2.1 (71 + w) g))] [] (E (sfX w x g a3) y)
      refine PW_aload_n c_G_mend_49 rfl ?_
      refine PW_get (v := .ref 49) c_G_mend_50 fl_G_72 (gf_5_8 _ _) ?_
      refine PW_iload_n c_G_mend_53 rfl ?_
      refine PW_iload_n c_G_mend_54 rfl ?_
      refine PW_iload c_G_mend_55 rfl ?_
      refine PW_iload_n c_G_mend_57 rfl ?_
      refine PW_V0 (d2 := 1) (st := []) [.int (nI g), .int (nI w), .int (y.2.1 (71 + w) g), .int a3] c_G_mend_58 lk_G_mend_135 (po_49 _ _) rfl rfl rfl (Nat.le_of_ble_eq_true rfl) (by first | decide | omega) (Nat.le_of_ble_eq_true rfl) ?_
      refine sp_C_add2 (by rw [sfX_1 (by decide) (by decide), c4, hd40]; rfl) ?_
      show PW _ _ _ 61 [some (.ref 5), some (.int (nI g)), some (.int (nI w)), some (.int a3), some (.int (y.2.1 (71 + w) g))] [] (E (sI (sI (adX 50 (sI (dX 50 (sfX w x g a3) 39) 397 39) 39 (nI g) (nI w) (y.2.1 (71 + w) g) a3) 397 (39 + 1)) 398 (39 + 1)) y)
      refine PW_iload c_G_mend_61 rfl ?_
      refine PW_ireturn (ty := .int) c_G_mend_63 rfl rfl ?_
      exact h
    · refine PW.deeper (k := (3, 0, 0, z)) (Nat.le_of_ble_eq_true rfl) (Nat.le_refl _) (Nat.le_refl _) ?_
      refine PW_aload_n c_M_mend_0 rfl ?_
      refine PW_iload_n c_M_mend_1 rfl ?_
      refine PW_iload_n c_M_mend_2 rfl ?_
      refine PW_V0 (d2 := 2) (st := []) [.int (nI g), .int (nI w)] c_M_mend_3 lk_M_mend_165 (po_70 _ _) rfl rfl rfl (Nat.le_of_ble_eq_true rfl) (by first | decide | omega) (Nat.le_of_ble_eq_true rfl) ?_
      refine sp_M_isThing8 hw8 rfl hg.W ?_
      show PW _ _ _ 6 [some (.ref 70), some (.int (nI g)), some (.int (nI w)), some (.int a3)] [.int (b2i (hasP y w (nI g)))] (E (sI (sI (adX 50 (sI (dX 50 (sfX w x g a3) 39) 397 39) 39 (nI g) (nI w) (y.2.1 (71 + w) g) a3) 397 (39 + 1)) 398 (39 + 1)) y)
      refine PW_if_eq c_M_mend_6 (fun h0 => absurd hp (b2i_0.mp h0)) (fun _ => ?_)
      refine PW_iload_n c_M_mend_9 rfl ?_
      refine PW_iload_n c_M_mend_10 rfl ?_
      refine PW_S0 (d2 := 2) (st := []) [.int (nI w), .int a3] c_M_mend_11 lk_M_mend_169 rfl rfl rfl (Nat.le_of_ble_eq_true rfl) (by first | decide | omega) (Nat.le_of_ble_eq_true rfl) ?_
      refine sp_M_mayBe8 hw8 rfl ?_
      show PW _ _ _ 14 [some (.ref 70), some (.int (nI g)), some (.int (nI w)), some (.int a3)] [.int (b2i (fitP w a3))] (E (sI (sI (adX 50 (sI (dX 50 (sfX w x g a3) 39) 397 39) 39 (nI g) (nI w) (y.2.1 (71 + w) g) a3) 397 (39 + 1)) 398 (39 + 1)) y)
      refine PW_if_eq c_M_mend_14 (fun h1 => absurd hf (b2i_0.mp h1)) (fun _ => ?_)
      refine PW_aload_n c_M_mend_17 rfl ?_
      refine PW_iload_n c_M_mend_18 rfl ?_
      refine PW_iload_n c_M_mend_19 rfl ?_
      refine PW_iload_n c_M_mend_20 rfl ?_
      refine PW_V0 (d2 := 1) (st := []) [.int (nI w), .int (nI g), .int a3] c_M_mend_21 lk_M_mend_172 (po_70 _ _) rfl rfl rfl (Nat.le_of_ble_eq_true rfl) (by first | decide | omega) (Nat.le_of_ble_eq_true rfl) ?_
      refine sp_M_ch2 hn10 hw8 hgw rfl rfl hv (by rw [c2, hd40]; rfl) ?_
      show PW _ _ _ 24 [some (.ref 70), some (.int (nI g)), some (.int (nI w)), some (.int a3)] [.int (y.2.1 (71 + w) g)] (E (sI (sI (adX 50 (sI (dX 50 (sfX w x g a3) 39) 397 39) 39 (nI g) (nI w) (y.2.1 (71 + w) g) a3) 397 (39 + 1)) 398 (39 + 1)) (lyY w (sI (adX 79 (sI (dX 79 (sI y 571 0) 39) 570 39) 39 (nI w) (nI g) (y.2.1 (71 + w) g) a3) 570 (39 + 1)) g a3))
      refine PW_goto c_M_mend_24 ?_
      refine PW_ireturn (ty := .int) c_M_mend_28 rfl rfl ?_
      exact h
  refine ⟨y.2.1 (71 + w) g, sI (sI (adX 50 (sfX w x g a3) cd (nI g) (nI w) (y.2.1 (71 + w) g) a3) 397 (nI (cd + 1))) 398 (nI (cd + 1)), lyY w (sI (adX 79 (sI y 571 0) cd (nI w) (nI g) (y.2.1 (71 + w) g) a3) 570 (nI (cd + 1))) g a3, ?_, fun {z post} h => ?_, fun {z post} h => ?_⟩
  · exact INV_step (INV_mend1 hI hw8 hgw hbo hf (by omega) (fun i hi => by obtain ⟨k1, k2, k3, k4, k5⟩ := c6 i (by omega); exact ⟨k1, k2, k3, k4, k5⟩))
  · refine PW.deeper (k := (4, 0, 0, z)) (Nat.le_of_ble_eq_true rfl) (Nat.le_refl _) (Nat.le_refl _) ?_
    refine PW_aload_n c_G_mend_0 rfl ?_
    refine PW_get (v := .ref 6) c_G_mend_1 fl_G_13 (gf_5_0 _ _) ?_
    refine PW_iload_n c_G_mend_4 rfl ?_
    refine PW_iload_n c_G_mend_5 rfl ?_
    refine PW_V0 (d2 := 1) (st := []) [.int (nI g), .int (nI w)] c_G_mend_6 lk_G_mend_124 (po_6 _ _) rfl rfl rfl (Nat.le_of_ble_eq_true rfl) (by first | decide | omega) (Nat.le_of_ble_eq_true rfl) ?_
    refine sp_H_hasFact8 hw8 rfl hg.W hg.x51 ?_
    show PW _ _ _ 9 [some (.ref 5), some (.int (nI g)), some (.int (nI w)), some (.int a3), none] [.int (b2i (hasP y w (nI g)))] (E x y)
    refine PW_if_eq c_G_mend_9 (fun h0 => absurd hp (b2i_0.mp h0)) (fun _ => ?_)
    refine PW_iload_n c_G_mend_12 rfl ?_
    refine PW_iload_n c_G_mend_13 rfl ?_
    refine PW_S0 (d2 := 0) (st := []) [.int (nI w), .int a3] c_G_mend_14 lk_G_mend_94 rfl rfl rfl (Nat.le_of_ble_eq_true rfl) (by first | decide | omega) (Nat.le_of_ble_eq_true rfl) ?_
    refine sp_H_fits8 hw8 rfl ?_
    show PW _ _ _ 17 [some (.ref 5), some (.int (nI g)), some (.int (nI w)), some (.int a3), none] [.int (b2i (fitP w a3))] (E x y)
    refine PW_if_ne c_G_mend_17 (fun _ => ?_) (fun h1 => absurd hf (b2i_0.mp h1))
    refine PW_aload_n c_G_mend_22 rfl ?_
    refine PW_get (v := .ref 6) c_G_mend_23 fl_G_13 (gf_5_0 _ _) ?_
    refine PW_iload_n c_G_mend_26 rfl ?_
    refine PW_iload_n c_G_mend_27 rfl ?_
    refine PW_V0 (d2 := 2) (st := []) [.int (nI g), .int (nI w)] c_G_mend_28 lk_G_mend_127 (po_6 _ _) rfl rfl rfl (Nat.le_of_ble_eq_true rfl) (by first | decide | omega) (Nat.le_of_ble_eq_true rfl) ?_
    refine sp_H_fact8 hg hw8 hgw rfl rfl ?_
    show PW _ _ _ 31 [some (.ref 5), some (.int (nI g)), some (.int (nI w)), some (.int a3), none] [.int (y.2.1 (71 + w) g)] (E x y)
    refine PW_istore (i := 4) (L2 := [some (.ref 5), some (.int (nI g)), some (.int (nI w)), some (.int a3), some (.int (y.2.1 (71 + w) g))]) c_G_mend_31 (Nat.le_of_ble_eq_true rfl) rfl rfl ?_
    refine PW_iload c_G_mend_33 rfl ?_
    refine PW_iload_n c_G_mend_35 rfl ?_
    refine PW_icmp_eq c_G_mend_36 (fun h2 => absurd h2 hv) (fun h2 => ?_)
    refine PW_aload_n c_G_mend_39 rfl ?_
    refine PW_get (v := .ref 6) c_G_mend_40 fl_G_13 (gf_5_0 _ _) ?_
    refine PW_iload_n c_G_mend_43 rfl ?_
    refine PW_iload_n c_G_mend_44 rfl ?_
    refine PW_iload_n c_G_mend_45 rfl ?_
    refine PW_V0 (d2 := 3) (st := []) [.int (nI g), .int (nI w), .int a3] c_G_mend_46 lk_G_mend_131 (po_6 _ _) rfl rfl rfl (Nat.le_of_ble_eq_true rfl) (by first | decide | omega) (Nat.le_of_ble_eq_true rfl) ?_
    refine sp_set (n := nG y) (hg.x51.trans hg.1.1) hn10 hw8 hgw rfl rfl ?_
    show PW _ _ _ 49 [some (.ref 5), some (.int (nI g)), some (.int (nI w)), some (.int a3), some (.int (y.2.1 (71 + w) g))] [] (E (sfX w x g a3) y)
    refine PW_aload_n c_G_mend_49 rfl ?_
    refine PW_get (v := .ref 49) c_G_mend_50 fl_G_72 (gf_5_8 _ _) ?_
    refine PW_iload_n c_G_mend_53 rfl ?_
    refine PW_iload_n c_G_mend_54 rfl ?_
    refine PW_iload c_G_mend_55 rfl ?_
    refine PW_iload_n c_G_mend_57 rfl ?_
    refine PW_V0 (d2 := 1) (st := []) [.int (nI g), .int (nI w), .int (y.2.1 (71 + w) g), .int a3] c_G_mend_58 lk_G_mend_135 (po_49 _ _) rfl rfl rfl (Nat.le_of_ble_eq_true rfl) (by first | decide | omega) (Nat.le_of_ble_eq_true rfl) ?_
    refine sp_C_add1 (by rw [sfX_1 (by decide) (by decide)]; exact c4) (by omega) ?_
    show PW _ _ _ 61 [some (.ref 5), some (.int (nI g)), some (.int (nI w)), some (.int a3), some (.int (y.2.1 (71 + w) g))] [] (E (sI (sI (adX 50 (sfX w x g a3) cd (nI g) (nI w) (y.2.1 (71 + w) g) a3) 397 (nI (cd + 1))) 398 (nI (cd + 1))) y)
    refine PW_iload c_G_mend_61 rfl ?_
    refine PW_ireturn (ty := .int) c_G_mend_63 rfl rfl ?_
    exact h
  · refine PW.deeper (k := (3, 0, 0, z)) (Nat.le_of_ble_eq_true rfl) (Nat.le_refl _) (Nat.le_refl _) ?_
    refine PW_aload_n c_M_mend_0 rfl ?_
    refine PW_iload_n c_M_mend_1 rfl ?_
    refine PW_iload_n c_M_mend_2 rfl ?_
    refine PW_V0 (d2 := 2) (st := []) [.int (nI g), .int (nI w)] c_M_mend_3 lk_M_mend_165 (po_70 _ _) rfl rfl rfl (Nat.le_of_ble_eq_true rfl) (by first | decide | omega) (Nat.le_of_ble_eq_true rfl) ?_
    refine sp_M_isThing8 hw8 rfl hg.W ?_
    show PW _ _ _ 6 [some (.ref 70), some (.int (nI g)), some (.int (nI w)), some (.int a3)] [.int (b2i (hasP y w (nI g)))] (E (sI (sI (adX 50 (sfX w x g a3) cd (nI g) (nI w) (y.2.1 (71 + w) g) a3) 397 (nI (cd + 1))) 398 (nI (cd + 1))) y)
    refine PW_if_eq c_M_mend_6 (fun h0 => absurd hp (b2i_0.mp h0)) (fun _ => ?_)
    refine PW_iload_n c_M_mend_9 rfl ?_
    refine PW_iload_n c_M_mend_10 rfl ?_
    refine PW_S0 (d2 := 2) (st := []) [.int (nI w), .int a3] c_M_mend_11 lk_M_mend_169 rfl rfl rfl (Nat.le_of_ble_eq_true rfl) (by first | decide | omega) (Nat.le_of_ble_eq_true rfl) ?_
    refine sp_M_mayBe8 hw8 rfl ?_
    show PW _ _ _ 14 [some (.ref 70), some (.int (nI g)), some (.int (nI w)), some (.int a3)] [.int (b2i (fitP w a3))] (E (sI (sI (adX 50 (sfX w x g a3) cd (nI g) (nI w) (y.2.1 (71 + w) g) a3) 397 (nI (cd + 1))) 398 (nI (cd + 1))) y)
    refine PW_if_eq c_M_mend_14 (fun h1 => absurd hf (b2i_0.mp h1)) (fun _ => ?_)
    refine PW_aload_n c_M_mend_17 rfl ?_
    refine PW_iload_n c_M_mend_18 rfl ?_
    refine PW_iload_n c_M_mend_19 rfl ?_
    refine PW_iload_n c_M_mend_20 rfl ?_
    refine PW_V0 (d2 := 1) (st := []) [.int (nI w), .int (nI g), .int a3] c_M_mend_21 lk_M_mend_172 (po_70 _ _) rfl rfl rfl (Nat.le_of_ble_eq_true rfl) (by first | decide | omega) (Nat.le_of_ble_eq_true rfl) ?_
    refine sp_M_ch1 hn10 hw8 hgw rfl rfl hv c2 (by omega) ?_
    show PW _ _ _ 24 [some (.ref 70), some (.int (nI g)), some (.int (nI w)), some (.int a3)] [.int (y.2.1 (71 + w) g)] (E (sI (sI (adX 50 (sfX w x g a3) cd (nI g) (nI w) (y.2.1 (71 + w) g) a3) 397 (nI (cd + 1))) 398 (nI (cd + 1))) (lyY w (sI (adX 79 (sI y 571 0) cd (nI w) (nI g) (y.2.1 (71 + w) g) a3) 570 (nI (cd + 1))) g a3))
    refine PW_goto c_M_mend_24 ?_
    refine PW_ireturn (ty := .int) c_M_mend_28 rfl rfl ?_
    exact h
set_option maxHeartbeats 4000000 in
theorem op_undo {t : Nat} {x y : XS} (hI : INV t x y) (ht : t < 512) : ∃ (r : Int32) (x' y' : XS), INV (t + 1) x' y' ∧ (∀ {z : ZS} {post : Option Value → List PE → Prop}, post (some (.int r)) (E x' y) → PW (90, 0, 0, z) m_G_undo post 0 [some (.ref 5)] [] (E x y)) ∧ (∀ {z : ZS} {post : Option Value → List PE → Prop}, post (some (.int r)) (E x' y') → PW (90, 0, 0, z) m_M_undo post 0 [some (.ref 70)] [] (E x' y)) := by
  obtain ⟨hg, hc, ht0, hl, hd, hb, hs⟩ := id hI
  obtain ⟨cd, cu, c1, c2, c3, c4, c5, c6⟩ := id hc
  have hn10 := hg.1.2

  by_cases hd0 : cd = 0
  · refine ⟨-5, x, y, ?_, fun {z post} h => ?_, fun {z post} h => ?_⟩
    · exact INV_step hI
    · refine PW.deeper (k := (5, 0, 0, z)) (Nat.le_of_ble_eq_true rfl) (Nat.le_refl _) (Nat.le_refl _) ?_
      refine PW_aload_n c_G_undo_0 rfl ?_
      refine PW_get (v := .ref 49) c_G_undo_1 fl_G_72 (gf_5_8 _ _) ?_
      refine PW_V0 (d2 := 4) (st := []) [] c_G_undo_4 lk_G_undo_288 (po_49 _ _) rfl rfl rfl (Nat.le_of_ble_eq_true rfl) (by first | decide | omega) (Nat.le_of_ble_eq_true rfl) ?_
      show PW _ _ _ 0 [some (.ref 49)] [] (E x y)
      refine PW_aload_n c_C_takeBack_0 rfl ?_
      refine PW_get (v := .int (x.1 397)) c_C_takeBack_1 fl_C_26 (gf_49_5 _ _) ?_
      refine PW_iconst (v := 1) c_C_takeBack_4 (by decide) ?_
      refine PW_icmp_lt c_C_takeBack_5 (fun h0 => ?_) (fun h0 => absurd (by rw [c4, hd0]; decide) h0)
      refine PW_iconst (v := 0) c_C_takeBack_17 (by decide) ?_
      refine PW_ireturn (ty := .boolean) c_C_takeBack_18 rfl (by decide +kernel) ?_
      show PW _ _ _ 7 [some (.ref 5)] [.int 0] (E x y)
      refine PW_if_eq c_G_undo_7 (fun _ => ?_) (fun h1 => absurd (by decide) h1)
      refine PW_bipush (v := -5) c_G_undo_20 (by decide) ?_
      refine PW_ireturn (ty := .int) c_G_undo_22 rfl rfl ?_
      exact h
    · refine PW.deeper (k := (1, 0, 0, z)) (Nat.le_of_ble_eq_true rfl) (Nat.le_refl _) (Nat.le_refl _) ?_
      refine PW_aload_n c_M_undo_0 rfl ?_
      refine PW_get (v := .int (y.1 570)) c_M_undo_1 fl_M_155 (gf_70_10 _ _) ?_
      refine PW_if_ne c_M_undo_4 (fun h0 => absurd h0 (not_not_intro (by rw [c2, hd0]; rfl))) (fun h0 => ?_)
      refine PW_bipush (v := -5) c_M_undo_7 (by decide) ?_
      refine PW_ireturn (ty := .int) c_M_undo_9 rfl rfl ?_
      exact h
  obtain ⟨e, rfl⟩ : ∃ e, cd = e + 1 := ⟨cd - 1, by omega⟩
  obtain ⟨k1, k2, k3, k4, w, g, hw8, k6, k7, hgw, k9, k10⟩ := c6 e (by omega)
  refine ⟨nI e, sfX w (sI x 397 (x.1 397 - 1)) g (y.2.1 81 e), lyY w (sI (sI y 570 ((y.1 570) - 1)) 571 ((y.1 571) + 1)) g (y.2.1 81 e), ?_, fun {z post} h => ?_, fun {z post} h => ?_⟩
  · exact INV_step (INV_undo hI hw8 hgw k9 c1 c2 c3 c4 c5 c6)
  · refine PW.deeper (k := (5, 0, 0, z)) (Nat.le_of_ble_eq_true rfl) (Nat.le_refl _) (Nat.le_refl _) ?_
    refine PW_aload_n c_G_undo_0 rfl ?_
    refine PW_get (v := .ref 49) c_G_undo_1 fl_G_72 (gf_5_8 _ _) ?_
    refine PW_V0 (d2 := 4) (st := []) [] c_G_undo_4 lk_G_undo_288 (po_49 _ _) rfl rfl rfl (Nat.le_of_ble_eq_true rfl) (by first | decide | omega) (Nat.le_of_ble_eq_true rfl) ?_
    show PW _ _ _ 0 [some (.ref 49)] [] (E x y)
    refine PW_aload_n c_C_takeBack_0 rfl ?_
    refine PW_get (v := .int (x.1 397)) c_C_takeBack_1 fl_C_26 (gf_49_5 _ _) ?_
    refine PW_iconst (v := 1) c_C_takeBack_4 (by decide) ?_
    refine PW_icmp_lt c_C_takeBack_5 (fun h0 => absurd h0 (by rw [c4]; exact fun q => absurd ((nI_ltI (by omega) (by decide)).mp (show nI (e + 1) < nI 1 from q)) (by omega))) (fun h0 => ?_)
    refine PW_aload_n c_C_takeBack_8 rfl ?_
    refine PW_get (v := .int (x.1 397)) c_C_takeBack_9 fl_C_26 (gf_49_5 _ _) ?_
    refine PW_bipush (v := 40) c_C_takeBack_12 (by decide) ?_
    refine PW_icmp_le c_C_takeBack_14 (fun h1 => ?_) (fun h1 => absurd (by rw [c4]; exact (nI_leI (by omega) (by decide)).mpr (show e + 1 ≤ 40 by omega)) h1)
    refine PW_aload_n c_C_takeBack_19 rfl ?_
    refine PW_dup c_C_takeBack_20 rfl ?_
    refine PW_get (v := .int (x.1 397)) c_C_takeBack_21 fl_C_26 (gf_49_5 _ _) ?_
    refine PW_iconst (v := 1) c_C_takeBack_24 (by decide) ?_
    refine PW_isub c_C_takeBack_25 ?_
    refine PW_put (w2 := E (sI x 397 ((x.1 397) - 1)) y) c_C_takeBack_26 fp_C_takeBack_26 rfl (pf_49_5 _ _ _) ?_
    refine PW_aload_n c_C_takeBack_29 rfl ?_
    refine PW_get (v := .ref 6) c_C_takeBack_30 fl_C_22 (gf_49_0 _ _) ?_
    refine PW_aload_n c_C_takeBack_33 rfl ?_
    refine PW_get (v := .ref 50) c_C_takeBack_34 fl_C_9 (gf_49_1 _ _) ?_
    refine PW_aload_n c_C_takeBack_37 rfl ?_
    refine PW_get (v := .int ((x.1 397) - 1)) c_C_takeBack_38 fl_C_26 (gf_49_5 _ _) ?_
    refine PW_iald (j := e) c_C_takeBack_41 (ar_50 _ _) (by rw [c4, pr1]; exact vp_in_nI (by omega) (by decide)) (by rw [c4, pr1]; exact nI_clamp (by omega)) ?_
    show PW _ _ _ 42 [some (.ref 49)] [.int ((x.2.1 50) e), .ref 6] (E (sI x 397 ((x.1 397) - 1)) y)
    refine PW_aload_n c_C_takeBack_42 rfl ?_
    refine PW_get (v := .ref 51) c_C_takeBack_43 fl_C_13 (gf_49_2 _ _) ?_
    refine PW_aload_n c_C_takeBack_46 rfl ?_
    refine PW_get (v := .int ((x.1 397) - 1)) c_C_takeBack_47 fl_C_26 (gf_49_5 _ _) ?_
    refine PW_iald (j := e) c_C_takeBack_50 (ar_51 _ _) (by rw [c4, pr1]; exact vp_in_nI (by omega) (by decide)) (by rw [c4, pr1]; exact nI_clamp (by omega)) ?_
    show PW _ _ _ 51 [some (.ref 49)] [.int ((x.2.1 51) e), .int ((x.2.1 50) e), .ref 6] (E (sI x 397 ((x.1 397) - 1)) y)
    refine PW_aload_n c_C_takeBack_51 rfl ?_
    refine PW_get (v := .ref 52) c_C_takeBack_52 fl_C_16 (gf_49_3 _ _) ?_
    refine PW_aload_n c_C_takeBack_55 rfl ?_
    refine PW_get (v := .int ((x.1 397) - 1)) c_C_takeBack_56 fl_C_26 (gf_49_5 _ _) ?_
    refine PW_iald (j := e) c_C_takeBack_59 (ar_52 _ _) (by rw [c4, pr1]; exact vp_in_nI (by omega) (by decide)) (by rw [c4, pr1]; exact nI_clamp (by omega)) ?_
    show PW _ _ _ 60 [some (.ref 49)] [.int ((x.2.1 52) e), .int ((x.2.1 51) e), .int ((x.2.1 50) e), .ref 6] (E (sI x 397 ((x.1 397) - 1)) y)
    refine PW_V0 (d2 := 3) (st := []) [.int ((x.2.1 50) e), .int ((x.2.1 51) e), .int ((x.2.1 52) e)] c_C_takeBack_60 lk_C_takeBack_36 (po_6 _ _) rfl rfl rfl (Nat.le_of_ble_eq_true rfl) (by first | decide | omega) (Nat.le_of_ble_eq_true rfl) ?_
    rw [k3]
    refine sp_set (n := nG y) (w := w) (g := g) (by rw [sI_n (by decide)]; exact hg.x51.trans hg.1.1) hn10 hw8 hgw (k2.trans k7) (k1.trans k6) ?_
    show PW _ _ _ 63 [some (.ref 49)] [] (E (sfX w (sI x 397 (x.1 397 - 1)) g (y.2.1 81 e)) y)
    refine PW_iconst (v := 1) c_C_takeBack_63 (by decide) ?_
    refine PW_ireturn (ty := .boolean) c_C_takeBack_64 rfl (by decide +kernel) ?_
    show PW _ _ _ 7 [some (.ref 5)] [.int 1] (E (sfX w (sI x 397 (x.1 397 - 1)) g (y.2.1 81 e)) y)
    refine PW_if_eq c_G_undo_7 (fun h2 => absurd h2 (by decide)) (fun _ => ?_)
    refine PW_aload_n c_G_undo_10 rfl ?_
    refine PW_get (v := .ref 49) c_G_undo_11 fl_G_72 (gf_5_8 _ _) ?_
    refine PW_V0 (d2 := 0) (st := []) [] c_G_undo_14 lk_G_undo_291 (po_49 _ _) rfl rfl rfl (Nat.le_of_ble_eq_true rfl) (by first | decide | omega) (Nat.le_of_ble_eq_true rfl) ?_
    show PW _ _ _ 0 [some (.ref 49)] [] (E (sfX w (sI x 397 (x.1 397 - 1)) g (y.2.1 81 e)) y)
    refine PW_aload_n c_C_undoable_0 rfl ?_
    refine PW_get (v := .int ((sfX w (sI x 397 (x.1 397 - 1)) g (y.2.1 81 e)).1 397)) c_C_undoable_1 fl_C_26 (gf_49_5 _ _) ?_
    refine PW_ireturn (ty := .int) c_C_undoable_4 rfl rfl ?_
    show PW _ _ _ 17 [some (.ref 5)] [.int ((sfX w (sI x 397 (x.1 397 - 1)) g (y.2.1 81 e)).1 397)] (E (sfX w (sI x 397 (x.1 397 - 1)) g (y.2.1 81 e)) y)
    refine PW_goto c_G_undo_17 ?_
    refine PW_ireturn (ty := .int) c_G_undo_22 rfl rfl ?_
    exact pqi h (by rw [sfX_1 (by decide) (by decide), sI_s, c4, pr1])
  · refine PW.deeper (k := (1, 0, 0, z)) (Nat.le_of_ble_eq_true rfl) (Nat.le_refl _) (Nat.le_refl _) ?_
    refine PW_aload_n c_M_undo_0 rfl ?_
    refine PW_get (v := .int (y.1 570)) c_M_undo_1 fl_M_155 (gf_70_10 _ _) ?_
    refine PW_if_ne c_M_undo_4 (fun h0 => ?_) (fun h0 => absurd h0 (by rw [c2]; exact fun q => absurd ((nI_eq (by omega) (by decide)).mp (show nI (e + 1) = nI 0 from q)) (by omega)))
    refine PW_aload_n c_M_undo_10 rfl ?_
    refine PW_dup c_M_undo_11 rfl ?_
    refine PW_get (v := .int (y.1 570)) c_M_undo_12 fl_M_155 (gf_70_10 _ _) ?_
    refine PW_iconst (v := 1) c_M_undo_15 (by decide) ?_
    refine PW_isub c_M_undo_16 ?_
    refine PW_put (w2 := E (sfX w (sI x 397 (x.1 397 - 1)) g (y.2.1 81 e)) (sI y 570 ((y.1 570) - 1))) c_M_undo_17 fp_M_undo_155 rfl (pf_70_10 _ _ _) ?_
    refine PW_aload_n c_M_undo_20 rfl ?_
    refine PW_dup c_M_undo_21 rfl ?_
    refine PW_get (v := .int (y.1 571)) c_M_undo_22 fl_M_152 (gf_70_11 _ _) ?_
    refine PW_iconst (v := 1) c_M_undo_25 (by decide) ?_
    refine PW_iadd c_M_undo_26 ?_
    refine PW_put (w2 := E (sfX w (sI x 397 (x.1 397 - 1)) g (y.2.1 81 e)) (sI (sI y 570 ((y.1 570) - 1)) 571 ((y.1 571) + 1))) c_M_undo_27 fp_M_undo_152 rfl (pf_70_11 _ _ _) ?_
    refine PW_aload_n c_M_undo_30 rfl ?_
    refine PW_aload_n c_M_undo_31 rfl ?_
    refine PW_get (v := .ref 79) c_M_undo_32 fl_M_34 (gf_70_12 _ _) ?_
    refine PW_aload_n c_M_undo_35 rfl ?_
    refine PW_get (v := .int ((y.1 570) - 1)) c_M_undo_36 fl_M_155 (gf_70_10 _ _) ?_
    refine PW_iald (j := e) c_M_undo_39 (ar_79 _ _) (by rw [c2, pr1]; exact vp_in_nI (by omega) (by decide)) (by rw [c2, pr1]; exact nI_clamp (by omega)) ?_
    show PW _ _ _ 40 [some (.ref 70)] [.int ((y.2.1 79) e), .ref 70] (E (sfX w (sI x 397 (x.1 397 - 1)) g (y.2.1 81 e)) (sI (sI y 570 ((y.1 570) - 1)) 571 ((y.1 571) + 1)))
    refine PW_aload_n c_M_undo_40 rfl ?_
    refine PW_get (v := .ref 80) c_M_undo_41 fl_M_37 (gf_70_13 _ _) ?_
    refine PW_aload_n c_M_undo_44 rfl ?_
    refine PW_get (v := .int ((y.1 570) - 1)) c_M_undo_45 fl_M_155 (gf_70_10 _ _) ?_
    refine PW_iald (j := e) c_M_undo_48 (ar_80 _ _) (by rw [c2, pr1]; exact vp_in_nI (by omega) (by decide)) (by rw [c2, pr1]; exact nI_clamp (by omega)) ?_
    show PW _ _ _ 49 [some (.ref 70)] [.int ((y.2.1 80) e), .int ((y.2.1 79) e), .ref 70] (E (sfX w (sI x 397 (x.1 397 - 1)) g (y.2.1 81 e)) (sI (sI y 570 ((y.1 570) - 1)) 571 ((y.1 571) + 1)))
    refine PW_aload_n c_M_undo_49 rfl ?_
    refine PW_get (v := .ref 81) c_M_undo_50 fl_M_40 (gf_70_14 _ _) ?_
    refine PW_aload_n c_M_undo_53 rfl ?_
    refine PW_get (v := .int ((y.1 570) - 1)) c_M_undo_54 fl_M_155 (gf_70_10 _ _) ?_
    refine PW_iald (j := e) c_M_undo_57 (ar_81 _ _) (by rw [c2, pr1]; exact vp_in_nI (by omega) (by decide)) (by rw [c2, pr1]; exact nI_clamp (by omega)) ?_
    show PW _ _ _ 58 [some (.ref 70)] [.int ((y.2.1 81) e), .int ((y.2.1 80) e), .int ((y.2.1 79) e), .ref 70] (E (sfX w (sI x 397 (x.1 397 - 1)) g (y.2.1 81 e)) (sI (sI y 570 ((y.1 570) - 1)) 571 ((y.1 571) + 1)))
    refine PW_V0 (d2 := 0) (st := []) [.int ((y.2.1 79) e), .int ((y.2.1 80) e), .int ((y.2.1 81) e)] c_M_undo_58 lk_M_undo_158 (po_70 _ _) rfl rfl rfl (Nat.le_of_ble_eq_true rfl) (by first | decide | omega) (Nat.le_of_ble_eq_true rfl) ?_
    refine sp_M_lays8 (n := nG y) (w := w) (g := g) hn10 hw8 hgw k7 k6 ?_
    show PW _ _ _ 61 [some (.ref 70)] [] (E (sfX w (sI x 397 (x.1 397 - 1)) g (y.2.1 81 e)) (lyY w (sI (sI y 570 ((y.1 570) - 1)) 571 ((y.1 571) + 1)) g (y.2.1 81 e)))
    refine PW_aload_n c_M_undo_61 rfl ?_
    refine PW_get (v := .int ((lyY w (sI (sI y 570 ((y.1 570) - 1)) 571 ((y.1 571) + 1)) g (y.2.1 81 e)).1 570)) c_M_undo_62 fl_M_155 (gf_70_10 _ _) ?_
    refine PW_ireturn (ty := .int) c_M_undo_65 rfl rfl ?_
    exact pqi h (by rw [lyY_1, sI_n (by decide), sI_s, c2, pr1])
set_option maxHeartbeats 4000000 in
theorem op_redo {t : Nat} {x y : XS} (hI : INV t x y) (ht : t < 512) : ∃ (r : Int32) (x' y' : XS), INV (t + 1) x' y' ∧ (∀ {z : ZS} {post : Option Value → List PE → Prop}, post (some (.int r)) (E x' y) → PW (90, 0, 0, z) m_G_redo post 0 [some (.ref 5)] [] (E x y)) ∧ (∀ {z : ZS} {post : Option Value → List PE → Prop}, post (some (.int r)) (E x' y') → PW (90, 0, 0, z) m_M_redo post 0 [some (.ref 70)] [] (E x' y)) := by
  obtain ⟨hg, hc, ht0, hl, hd, hb, hs⟩ := id hI
  obtain ⟨cd, cu, c1, c2, c3, c4, c5, c6⟩ := id hc
  have hn10 := hg.1.2

  by_cases hu0 : cu = 0
  · refine ⟨-5, x, y, ?_, fun {z post} h => ?_, fun {z post} h => ?_⟩
    · exact INV_step hI
    · refine PW.deeper (k := (5, 0, 0, z)) (Nat.le_of_ble_eq_true rfl) (Nat.le_refl _) (Nat.le_refl _) ?_
      refine PW_aload_n c_G_redo_0 rfl ?_
      refine PW_get (v := .ref 49) c_G_redo_1 fl_G_72 (gf_5_8 _ _) ?_
      refine PW_V0 (d2 := 4) (st := []) [] c_G_redo_4 lk_G_redo_294 (po_49 _ _) rfl rfl rfl (Nat.le_of_ble_eq_true rfl) (by first | decide | omega) (Nat.le_of_ble_eq_true rfl) ?_
      show PW _ _ _ 0 [some (.ref 49)] [] (E x y)
      refine PW_aload_n c_C_doAgain_0 rfl ?_
      refine PW_get (v := .int (x.1 397)) c_C_doAgain_1 fl_C_26 (gf_49_5 _ _) ?_
      refine PW_if_lt c_C_doAgain_4 (fun h0 => absurd h0 (by rw [c4]; exact nI_pos (by omega))) (fun h0 => ?_)
      refine PW_aload_n c_C_doAgain_7 rfl ?_
      refine PW_get (v := .int (x.1 397)) c_C_doAgain_8 fl_C_26 (gf_49_5 _ _) ?_
      refine PW_aload_n c_C_doAgain_11 rfl ?_
      refine PW_get (v := .int (x.1 398)) c_C_doAgain_12 fl_C_30 (gf_49_6 _ _) ?_
      refine PW_icmp_ge c_C_doAgain_15 (fun h1 => ?_) (fun h1 => absurd (by rw [c4, c5, hu0]; exact Int32.le_refl _) h1)
      refine PW_iconst (v := 0) c_C_doAgain_27 (by decide) ?_
      refine PW_ireturn (ty := .boolean) c_C_doAgain_28 rfl (by decide +kernel) ?_
      show PW _ _ _ 7 [some (.ref 5)] [.int 0] (E x y)
      refine PW_if_eq c_G_redo_7 (fun _ => ?_) (fun h2 => absurd (by decide) h2)
      refine PW_bipush (v := -5) c_G_redo_20 (by decide) ?_
      refine PW_ireturn (ty := .int) c_G_redo_22 rfl rfl ?_
      exact h
    · refine PW.deeper (k := (1, 0, 0, z)) (Nat.le_of_ble_eq_true rfl) (Nat.le_refl _) (Nat.le_refl _) ?_
      refine PW_aload_n c_M_redo_0 rfl ?_
      refine PW_get (v := .int (y.1 571)) c_M_redo_1 fl_M_152 (gf_70_11 _ _) ?_
      refine PW_if_ne c_M_redo_4 (fun h0 => absurd h0 (not_not_intro (by rw [c3, hu0]; rfl))) (fun h0 => ?_)
      refine PW_bipush (v := -5) c_M_redo_7 (by decide) ?_
      refine PW_ireturn (ty := .int) c_M_redo_9 rfl rfl ?_
      exact h
  obtain ⟨f, rfl⟩ : ∃ f, cu = f + 1 := ⟨cu - 1, by omega⟩
  obtain ⟨k1, k2, k3, k4, w, g, hw8, k6, k7, hgw, k9, k10⟩ := c6 cd (by omega)
  refine ⟨nI f, sI (sfX w x g (y.2.1 82 cd)) 397 (((sfX w x g (y.2.1 82 cd)).1 397) + 1), sI (sI (lyY w y g (y.2.1 82 cd)) 570 (((lyY w y g (y.2.1 82 cd)).1 570) + 1)) 571 (((lyY w y g (y.2.1 82 cd)).1 571) - 1), ?_, fun {z post} h => ?_, fun {z post} h => ?_⟩
  · exact INV_step (INV_redo hI hw8 hgw k10 c1 c2 c3 c4 c5 c6)
  · refine PW.deeper (k := (5, 0, 0, z)) (Nat.le_of_ble_eq_true rfl) (Nat.le_refl _) (Nat.le_refl _) ?_
    refine PW_aload_n c_G_redo_0 rfl ?_
    refine PW_get (v := .ref 49) c_G_redo_1 fl_G_72 (gf_5_8 _ _) ?_
    refine PW_V0 (d2 := 4) (st := []) [] c_G_redo_4 lk_G_redo_294 (po_49 _ _) rfl rfl rfl (Nat.le_of_ble_eq_true rfl) (by first | decide | omega) (Nat.le_of_ble_eq_true rfl) ?_
    show PW _ _ _ 0 [some (.ref 49)] [] (E x y)
    refine PW_aload_n c_C_doAgain_0 rfl ?_
    refine PW_get (v := .int (x.1 397)) c_C_doAgain_1 fl_C_26 (gf_49_5 _ _) ?_
    refine PW_if_lt c_C_doAgain_4 (fun h0 => absurd h0 (by rw [c4]; exact nI_pos (by omega))) (fun h0 => ?_)
    refine PW_aload_n c_C_doAgain_7 rfl ?_
    refine PW_get (v := .int (x.1 397)) c_C_doAgain_8 fl_C_26 (gf_49_5 _ _) ?_
    refine PW_aload_n c_C_doAgain_11 rfl ?_
    refine PW_get (v := .int (x.1 398)) c_C_doAgain_12 fl_C_30 (gf_49_6 _ _) ?_
    refine PW_icmp_ge c_C_doAgain_15 (fun h1 => absurd h1 (by rw [c4, c5]; exact fun q => absurd ((nI_leI (by omega) (by omega)).mp q) (by omega))) (fun h1 => ?_)
    refine PW_aload_n c_C_doAgain_18 rfl ?_
    refine PW_get (v := .int (x.1 397)) c_C_doAgain_19 fl_C_26 (gf_49_5 _ _) ?_
    refine PW_bipush (v := 40) c_C_doAgain_22 (by decide) ?_
    refine PW_icmp_lt c_C_doAgain_24 (fun h2 => ?_) (fun h2 => absurd (by rw [c4]; exact (nI_ltI (by omega) (by decide)).mpr (show cd < 40 by omega) : x.1 397 < nI 40) h2)
    refine PW_aload_n c_C_doAgain_29 rfl ?_
    refine PW_get (v := .ref 6) c_C_doAgain_30 fl_C_22 (gf_49_0 _ _) ?_
    refine PW_aload_n c_C_doAgain_33 rfl ?_
    refine PW_get (v := .ref 50) c_C_doAgain_34 fl_C_9 (gf_49_1 _ _) ?_
    refine PW_aload_n c_C_doAgain_37 rfl ?_
    refine PW_get (v := .int (x.1 397)) c_C_doAgain_38 fl_C_26 (gf_49_5 _ _) ?_
    refine PW_iald (j := cd) c_C_doAgain_41 (ar_50 _ _) (by rw [c4]; exact vp_in_nI (by omega) (by decide)) (by rw [c4]; exact nI_clamp (by omega)) ?_
    show PW _ _ _ 42 [some (.ref 49)] [.int ((x.2.1 50) cd), .ref 6] (E x y)
    refine PW_aload_n c_C_doAgain_42 rfl ?_
    refine PW_get (v := .ref 51) c_C_doAgain_43 fl_C_13 (gf_49_2 _ _) ?_
    refine PW_aload_n c_C_doAgain_46 rfl ?_
    refine PW_get (v := .int (x.1 397)) c_C_doAgain_47 fl_C_26 (gf_49_5 _ _) ?_
    refine PW_iald (j := cd) c_C_doAgain_50 (ar_51 _ _) (by rw [c4]; exact vp_in_nI (by omega) (by decide)) (by rw [c4]; exact nI_clamp (by omega)) ?_
    show PW _ _ _ 51 [some (.ref 49)] [.int ((x.2.1 51) cd), .int ((x.2.1 50) cd), .ref 6] (E x y)
    refine PW_aload_n c_C_doAgain_51 rfl ?_
    refine PW_get (v := .ref 53) c_C_doAgain_52 fl_C_19 (gf_49_4 _ _) ?_
    refine PW_aload_n c_C_doAgain_55 rfl ?_
    refine PW_get (v := .int (x.1 397)) c_C_doAgain_56 fl_C_26 (gf_49_5 _ _) ?_
    refine PW_iald (j := cd) c_C_doAgain_59 (ar_53 _ _) (by rw [c4]; exact vp_in_nI (by omega) (by decide)) (by rw [c4]; exact nI_clamp (by omega)) ?_
    show PW _ _ _ 60 [some (.ref 49)] [.int ((x.2.1 53) cd), .int ((x.2.1 51) cd), .int ((x.2.1 50) cd), .ref 6] (E x y)
    refine PW_V0 (d2 := 3) (st := []) [.int ((x.2.1 50) cd), .int ((x.2.1 51) cd), .int ((x.2.1 53) cd)] c_C_doAgain_60 lk_C_doAgain_36 (po_6 _ _) rfl rfl rfl (Nat.le_of_ble_eq_true rfl) (by first | decide | omega) (Nat.le_of_ble_eq_true rfl) ?_
    rw [k4]
    refine sp_set (n := nG y) (w := w) (g := g) (hg.x51.trans hg.1.1) hn10 hw8 hgw (k2.trans k7) (k1.trans k6) ?_
    show PW _ _ _ 63 [some (.ref 49)] [] (E (sfX w x g (y.2.1 82 cd)) y)
    refine PW_aload_n c_C_doAgain_63 rfl ?_
    refine PW_dup c_C_doAgain_64 rfl ?_
    refine PW_get (v := .int ((sfX w x g (y.2.1 82 cd)).1 397)) c_C_doAgain_65 fl_C_26 (gf_49_5 _ _) ?_
    refine PW_iconst (v := 1) c_C_doAgain_68 (by decide) ?_
    refine PW_iadd c_C_doAgain_69 ?_
    refine PW_put (w2 := E (sI (sfX w x g (y.2.1 82 cd)) 397 (((sfX w x g (y.2.1 82 cd)).1 397) + 1)) y) c_C_doAgain_70 fp_C_doAgain_26 rfl (pf_49_5 _ _ _) ?_
    refine PW_iconst (v := 1) c_C_doAgain_73 (by decide) ?_
    refine PW_ireturn (ty := .boolean) c_C_doAgain_74 rfl (by decide +kernel) ?_
    show PW _ _ _ 7 [some (.ref 5)] [.int 1] (E (sI (sfX w x g (y.2.1 82 cd)) 397 (((sfX w x g (y.2.1 82 cd)).1 397) + 1)) y)
    refine PW_if_eq c_G_redo_7 (fun h3 => absurd h3 (by decide)) (fun _ => ?_)
    refine PW_aload_n c_G_redo_10 rfl ?_
    refine PW_get (v := .ref 49) c_G_redo_11 fl_G_72 (gf_5_8 _ _) ?_
    refine PW_V0 (d2 := 0) (st := []) [] c_G_redo_14 lk_G_redo_297 (po_49 _ _) rfl rfl rfl (Nat.le_of_ble_eq_true rfl) (by first | decide | omega) (Nat.le_of_ble_eq_true rfl) ?_
    show PW _ _ _ 0 [some (.ref 49)] [] (E (sI (sfX w x g (y.2.1 82 cd)) 397 (((sfX w x g (y.2.1 82 cd)).1 397) + 1)) y)
    refine PW_aload_n c_C_redoable_0 rfl ?_
    refine PW_get (v := .int ((sfX w x g (y.2.1 82 cd)).1 398)) c_C_redoable_1 fl_C_30 (gf_49_6 _ _) ?_
    refine PW_aload_n c_C_redoable_4 rfl ?_
    refine PW_get (v := .int (((sfX w x g (y.2.1 82 cd)).1 397) + 1)) c_C_redoable_5 fl_C_26 (gf_49_5 _ _) ?_
    refine PW_isub c_C_redoable_8 ?_
    refine PW_ireturn (ty := .int) c_C_redoable_9 rfl rfl ?_
    show PW _ _ _ 17 [some (.ref 5)] [.int (((sfX w x g (y.2.1 82 cd)).1 398) - (((sfX w x g (y.2.1 82 cd)).1 397) + 1))] (E (sI (sfX w x g (y.2.1 82 cd)) 397 (((sfX w x g (y.2.1 82 cd)).1 397) + 1)) y)
    refine PW_goto c_G_redo_17 ?_
    refine PW_ireturn (ty := .int) c_G_redo_22 rfl rfl ?_
    exact pqi h (by rw [sfX_1 (by decide) (by decide), sfX_1 (by decide) (by decide), c4, c5, nI_1, sub_nI (by omega), show cd + (f + 1) - (cd + 1) = f by omega])
  · refine PW.deeper (k := (1, 0, 0, z)) (Nat.le_of_ble_eq_true rfl) (Nat.le_refl _) (Nat.le_refl _) ?_
    refine PW_aload_n c_M_redo_0 rfl ?_
    refine PW_get (v := .int (y.1 571)) c_M_redo_1 fl_M_152 (gf_70_11 _ _) ?_
    refine PW_if_ne c_M_redo_4 (fun h0 => ?_) (fun h0 => absurd h0 (by rw [c3]; exact fun q => absurd ((nI_eq (by omega) (by decide)).mp (show nI (f + 1) = nI 0 from q)) (by omega)))
    refine PW_aload_n c_M_redo_10 rfl ?_
    refine PW_aload_n c_M_redo_11 rfl ?_
    refine PW_get (v := .ref 79) c_M_redo_12 fl_M_34 (gf_70_12 _ _) ?_
    refine PW_aload_n c_M_redo_15 rfl ?_
    refine PW_get (v := .int (y.1 570)) c_M_redo_16 fl_M_155 (gf_70_10 _ _) ?_
    refine PW_iald (j := cd) c_M_redo_19 (ar_79 _ _) (by rw [c2]; exact vp_in_nI (by omega) (by decide)) (by rw [c2]; exact nI_clamp (by omega)) ?_
    show PW _ _ _ 20 [some (.ref 70)] [.int ((y.2.1 79) cd), .ref 70] (E (sI (sfX w x g (y.2.1 82 cd)) 397 (((sfX w x g (y.2.1 82 cd)).1 397) + 1)) y)
    refine PW_aload_n c_M_redo_20 rfl ?_
    refine PW_get (v := .ref 80) c_M_redo_21 fl_M_37 (gf_70_13 _ _) ?_
    refine PW_aload_n c_M_redo_24 rfl ?_
    refine PW_get (v := .int (y.1 570)) c_M_redo_25 fl_M_155 (gf_70_10 _ _) ?_
    refine PW_iald (j := cd) c_M_redo_28 (ar_80 _ _) (by rw [c2]; exact vp_in_nI (by omega) (by decide)) (by rw [c2]; exact nI_clamp (by omega)) ?_
    show PW _ _ _ 29 [some (.ref 70)] [.int ((y.2.1 80) cd), .int ((y.2.1 79) cd), .ref 70] (E (sI (sfX w x g (y.2.1 82 cd)) 397 (((sfX w x g (y.2.1 82 cd)).1 397) + 1)) y)
    refine PW_aload_n c_M_redo_29 rfl ?_
    refine PW_get (v := .ref 82) c_M_redo_30 fl_M_43 (gf_70_15 _ _) ?_
    refine PW_aload_n c_M_redo_33 rfl ?_
    refine PW_get (v := .int (y.1 570)) c_M_redo_34 fl_M_155 (gf_70_10 _ _) ?_
    refine PW_iald (j := cd) c_M_redo_37 (ar_82 _ _) (by rw [c2]; exact vp_in_nI (by omega) (by decide)) (by rw [c2]; exact nI_clamp (by omega)) ?_
    show PW _ _ _ 38 [some (.ref 70)] [.int ((y.2.1 82) cd), .int ((y.2.1 80) cd), .int ((y.2.1 79) cd), .ref 70] (E (sI (sfX w x g (y.2.1 82 cd)) 397 (((sfX w x g (y.2.1 82 cd)).1 397) + 1)) y)
    refine PW_V0 (d2 := 0) (st := []) [.int ((y.2.1 79) cd), .int ((y.2.1 80) cd), .int ((y.2.1 82) cd)] c_M_redo_38 lk_M_redo_158 (po_70 _ _) rfl rfl rfl (Nat.le_of_ble_eq_true rfl) (by first | decide | omega) (Nat.le_of_ble_eq_true rfl) ?_
    refine sp_M_lays8 (n := nG y) (w := w) (g := g) hn10 hw8 hgw k7 k6 ?_
    show PW _ _ _ 41 [some (.ref 70)] [] (E (sI (sfX w x g (y.2.1 82 cd)) 397 (((sfX w x g (y.2.1 82 cd)).1 397) + 1)) (lyY w y g (y.2.1 82 cd)))
    refine PW_aload_n c_M_redo_41 rfl ?_
    refine PW_dup c_M_redo_42 rfl ?_
    refine PW_get (v := .int ((lyY w y g (y.2.1 82 cd)).1 570)) c_M_redo_43 fl_M_155 (gf_70_10 _ _) ?_
    refine PW_iconst (v := 1) c_M_redo_46 (by decide) ?_
    refine PW_iadd c_M_redo_47 ?_
    refine PW_put (w2 := E (sI (sfX w x g (y.2.1 82 cd)) 397 (((sfX w x g (y.2.1 82 cd)).1 397) + 1)) (sI (lyY w y g (y.2.1 82 cd)) 570 (((lyY w y g (y.2.1 82 cd)).1 570) + 1))) c_M_redo_48 fp_M_redo_155 rfl (pf_70_10 _ _ _) ?_
    refine PW_aload_n c_M_redo_51 rfl ?_
    refine PW_dup c_M_redo_52 rfl ?_
    refine PW_get (v := .int ((lyY w y g (y.2.1 82 cd)).1 571)) c_M_redo_53 fl_M_152 (gf_70_11 _ _) ?_
    refine PW_iconst (v := 1) c_M_redo_56 (by decide) ?_
    refine PW_isub c_M_redo_57 ?_
    refine PW_put (w2 := E (sI (sfX w x g (y.2.1 82 cd)) 397 (((sfX w x g (y.2.1 82 cd)).1 397) + 1)) (sI (sI (lyY w y g (y.2.1 82 cd)) 570 (((lyY w y g (y.2.1 82 cd)).1 570) + 1)) 571 (((lyY w y g (y.2.1 82 cd)).1 571) - 1))) c_M_redo_58 fp_M_redo_152 rfl (pf_70_11 _ _ _) ?_
    refine PW_aload_n c_M_redo_61 rfl ?_
    refine PW_get (v := .int (((lyY w y g (y.2.1 82 cd)).1 571) - 1)) c_M_redo_62 fl_M_152 (gf_70_11 _ _) ?_
    refine PW_ireturn (ty := .int) c_M_redo_65 rfl rfl ?_
    exact pqi h (by rw [lyY_1, c3, pr1])
