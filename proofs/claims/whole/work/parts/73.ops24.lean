theorem INV_law {t : Nat} {x y x' y' : XS} (hI : INV t x y) (a1 : ∀ m, (m < 180 ∨ 221 < m) → x'.1 m = x.1 m) (a2 : ∀ a, (a < 23 ∨ 30 < a) → x'.2.1 a = x.2.1 a) (a3 : x'.2.2 = x.2.2) (b1 : ∀ m, (m < 577 ∨ 589 < m) → y'.1 m = y.1 m) (b2 : ∀ a, (a < 84 ∨ 88 < a) → y'.2.1 a = y.2.1 a) (b3 : y'.2.2 = y.2.2) (c1 : x'.1 219 = 0) (c2 : y'.1 577 = 0) (hl : CPl x' y') : INV (t + 1) x' y' := by
  obtain ⟨hg, hc, ht0, -, hd, hb, hs⟩ := hI
  refine ⟨hg.cg (fun n q1 q2 => a1 n (by omega)) (fun a q1 q2 => a2 a (by omega)) (b1 561 (by decide)) (fun a q1 q2 => b2 a (by omega)), hc.cg (fun n q1 q2 => a1 n (by omega)) (fun a q1 q2 => a2 a (by omega)) (fun n q1 q2 => b1 n (by omega)) (fun a q1 q2 => b2 a (by omega)) (Nat.le_of_eq (nG_cg (b1 561 (by decide))).symm), ⟨0, by decide, c1, c2, fun i hi => absurd hi (Nat.not_lt_zero i)⟩, hl, hd.cg (Nat.le_succ _) (fun n q1 q2 => a1 n (by omega)) (a2 47 (by decide)) (b1 608 (by decide)) (fun a q1 q2 => b2 a (by omega)), hb.cg (fun n q1 q2 => a1 n (by omega)) (fun a q1 q2 => a2 a (by omega)) (fun n q1 q2 => b1 n (by omega)) (fun a q1 q2 => b2 a (by omega)), hs.cg (fun n q1 q2 => a1 n (by omega)) (fun a q1 q2 => by rw [a3]) (by rw [b1 609 (by decide)]; exact Int.le_refl _) (fun a q1 q2 => b2 a (by omega)) (by rw [b3])⟩
set_option maxHeartbeats 4000000 in
theorem op_law {t : Nat} {x y : XS} (hI : INV t x y) (ht : t < 512) : ∃ (r : Int32) (x' y' : XS), INV (t + 1) x' y' ∧ (∀ {z : ZS} {post : Option Value → List PE → Prop}, post (some (.int r)) (E x' y) → PW (90, 0, 0, z) m_G_law post 0 [some (.ref 5), none] [] (E x y)) ∧ (∀ {z : ZS} {post : Option Value → List PE → Prop}, post (some (.int r)) (E x' y') → PW (90, 0, 0, z) m_M_law post 0 [some (.ref 70), none] [] (E x' y)) := by
  obtain ⟨hg, hc, ht0, hl, hd, hb, hs⟩ := id hI
  obtain ⟨n, hn, hx, hy, hB⟩ := id ht0
  have hTX : tpX x (fun i => (x.2.1 28 i).toNatClampNeg) n := ⟨hx, hn, fun i hi => by
    obtain ⟨q, q1, q2, q3, q4⟩ := nI_ex (hB i hi).1
    show x.2.1 28 i = nI (x.2.1 28 i).toNatClampNeg ∧ (x.2.1 28 i).toNatClampNeg < 256
    rw [q4]
    exact ⟨q2, by have := (hB i hi).2.1; omega⟩⟩
  have hTM : tpM y (fun i => (x.2.1 28 i).toNatClampNeg) n := ⟨hy, hn, fun i hi => by
    have q := hTX.2.2 i hi
    exact ⟨(hB i hi).2.2.trans (congrArg (vp_nar .byte) q.1), q.2⟩⟩
  generalize (fun i => (x.2.1 28 i).toNatClampNeg) = g at hTX hTM
  obtain ⟨X1, ⟨fX, cX⟩, HR⟩ := sp_T_read (y := y) hTX
  obtain ⟨Y2, fY, cY, HM⟩ := sp_M_readText hTM
  have hTF := rdT_p (g := g) hn 121 0 [] (Nat.zero_le _) (fun l hl => absurd hl List.not_mem_nil) (Nat.le_refl _) (Nat.le_refl _)
  have hqn := rdT_n (g := g) (n := n) 121 0 [] (Nat.zero_le _)
  generalize rdT g n 121 0 [] = R at cX HR cY HM hTF hqn
  by_cases r1 : R.1 = true
  · have hv : rdV R = -1 := if_pos r1
    rw [hv] at HR HM
    obtain ⟨s1, w1, l1⟩ := cX r1
    obtain ⟨k1, k2, k3, k4⟩ := hTF r1
    have cM : LawM R.2.2 Y2 := by
      rcases cY with ⟨-, q⟩ | ⟨q, -⟩
      · exact q
      · rw [r1] at q; exact Bool.noConfusion q
    obtain ⟨X2, ⟨d1, d2, d3, d4, d5⟩, HK⟩ := sp_L_take (y := y) s1 (by omega)
    refine ⟨1, sI X2 219 0, sI Y2 589 1, ?_, fun {z post} h => ?_, fun {z post} h => ?_⟩
    · refine INV_law hI (fun m q => ?_) (fun a q => ?_) ?_ (fun m q => ?_) (fun a q => fY.2.1 a q) fY.2.2.1 sI_s ((sI_n (by decide)).trans fY.2.2.2) (Or.inr ⟨sI_s, R.2.2, k1, k2, ⟨(sI_n (by decide)).trans d2, by omega, fun i s hs => ?_⟩, cM⟩)
      · rw [sI_n (by omega), d1 m (by omega)]; exact fX.1 m (by omega) (by omega)
      · show X2.2.1 a = _
        rw [d3 a (by omega) (by omega)]; exact fX.2.1 a (by omega) (by omega)
      · exact d4.trans fX.2.2
      · rw [sI_n (by omega)]; exact fY.1 m (by omega)
      · have hi : i < (txX R.2.2).length := by
          rcases Nat.lt_or_ge i (txX R.2.2).length with z | z
          · exact z
          · rw [List.getElem?_eq_none z] at hs; exact absurd hs (by simp)
        have a := w1 i s hs
        rw [Nat.zero_add] at a
        have b := d5 i hi
        exact ⟨b.1.trans a.1, b.2.trans a.2⟩
    · refine PW.deeper (k := (59, 0, 0, z)) (Nat.le_of_ble_eq_true rfl) (Nat.le_refl _) (Nat.le_refl _) ?_
      refine PW_aload_n c_G_law_0 rfl ?_
      refine PW_get (v := .ref 27) c_G_law_1 fl_G_26 (gf_5_2 _ _) ?_
      refine PW_V0 (d2 := 58) (st := []) [] c_G_law_4 lk_G_law_153 (po_27 _ _) rfl rfl rfl (Nat.le_of_ble_eq_true rfl) (by first | decide | omega) (Nat.le_of_ble_eq_true rfl) ?_
      refine HR ?_
      show PW _ _ _ 7 [some (.ref 5), none] [.int (-1)] (E X1 y)
      refine PW_istore_n (i := 1) (L2 := [some (.ref 5), some (.int (-1))]) c_G_law_7 rfl (Nat.le_of_ble_eq_true rfl) rfl rfl ?_
      refine PW_iload_n c_G_law_8 rfl ?_
      refine PW_if_ge c_G_law_9 (fun h0 => absurd h0 (by decide)) (fun _ => ?_)
      refine PW_aload_n c_G_law_12 rfl ?_
      refine PW_get (v := .ref 22) c_G_law_13 fl_G_19 (gf_5_1 _ _) ?_
      refine PW_aload_n c_G_law_16 rfl ?_
      refine PW_get (v := .ref 27) c_G_law_17 fl_G_26 (gf_5_2 _ _) ?_
      refine PW_V0 (d2 := 1) (st := []) [.ref 27] c_G_law_20 lk_G_law_156 (po_22 _ _) rfl rfl rfl (Nat.le_of_ble_eq_true rfl) (by first | decide | omega) (Nat.le_of_ble_eq_true rfl) ?_
      refine HK ?_
      show PW _ _ _ 23 [some (.ref 5), some (.int (-1))] [] (E X2 y)
      refine PW_aload_n c_G_law_23 rfl ?_
      refine PW_get (v := .ref 27) c_G_law_24 fl_G_26 (gf_5_2 _ _) ?_
      refine PW_V0 (d2 := 0) (st := []) [] c_G_law_27 lk_G_law_160 (po_27 _ _) rfl rfl rfl (Nat.le_of_ble_eq_true rfl) (by first | decide | omega) (Nat.le_of_ble_eq_true rfl) ?_
      show PW _ _ _ 0 [some (.ref 27)] [] (E X2 y)
      refine PW_aload_n c_T_empty_0 rfl ?_
      refine PW_iconst (v := 0) c_T_empty_1 (by decide) ?_
      refine PW_put (w2 := E (sI X2 219 0) y) c_T_empty_2 fp_T_empty_21 rfl (pf_27_3 _ _ _) ?_
      refine PW_vreturn c_T_empty_5 rfl ?_
      show PW _ _ _ 30 [some (.ref 5), some (.int (-1))] [] (E (sI X2 219 0) y)
      refine PW_iload_n c_G_law_30 rfl ?_
      refine PW_if_ge c_G_law_31 (fun h1 => absurd h1 (by decide)) (fun _ => ?_)
      refine PW_iconst (v := 1) c_G_law_34 (by decide) ?_
      refine PW_goto c_G_law_35 ?_
      refine PW_ireturn (ty := .int) c_G_law_42 rfl rfl ?_
      exact h
    · refine PW.deeper (k := (46, 0, 0, z)) (Nat.le_of_ble_eq_true rfl) (Nat.le_refl _) (Nat.le_refl _) ?_
      refine PW_aload_n c_M_law_0 rfl ?_
      refine PW_iconst (v := 0) c_M_law_1 (by decide) ?_
      refine PW_V0 (d2 := 45) (st := []) [.int 0] c_M_law_2 lk_M_law_246 (po_70 _ _) rfl rfl rfl (Nat.le_of_ble_eq_true rfl) (by first | decide | omega) (Nat.le_of_ble_eq_true rfl) ?_
      refine HM ?_
      show PW _ _ _ 5 [some (.ref 70), none] [.int (-1)] (E (sI X2 219 0) Y2)
      refine PW_istore_n (i := 1) (L2 := [some (.ref 70), some (.int (-1))]) c_M_law_5 rfl (Nat.le_of_ble_eq_true rfl) rfl rfl ?_
      refine PW_iload_n c_M_law_6 rfl ?_
      refine PW_if_lt c_M_law_7 (fun _ => ?_) (fun h0 => absurd (by decide) h0)
      refine PW_aload_n c_M_law_15 rfl ?_
      refine PW_iconst (v := 1) c_M_law_16 (by decide) ?_
      refine PW_put (w2 := E (sI X2 219 0) (sI Y2 589 1)) c_M_law_17 fp_M_law_249 rfl (pf_70_29 _ _ _) ?_
      refine PW_iconst (v := 1) c_M_law_20 (by decide) ?_
      refine PW_ireturn (ty := .int) c_M_law_21 rfl rfl ?_
      exact h
  have r0 : R.1 = false := Bool.eq_false_iff.mpr r1
  have hv : rdV R = nI R.2.1 := if_neg r1
  have hq := hqn r0 (by decide) hn
  rw [hv] at HR HM
  have cM : lowM y Y2 := by
    rcases cY with ⟨q, -⟩ | ⟨-, q⟩
    · exact absurd q r1
    · exact q
  refine ⟨-100 - nI R.2.1, sI X1 219 0, Y2, ?_, fun {z post} h => ?_, fun {z post} h => ?_⟩
  · refine INV_law hI (fun m q => ?_) (fun a q => fX.2.1 a (by omega) (by omega)) fX.2.2 (fun m q => fY.1 m (by omega)) (fun a q => fY.2.1 a q) fY.2.2.1 sI_s fY.2.2.2 ?_
    · rw [sI_n (by omega)]; exact fX.1 m (by omega) (by omega)
    · have x180 : (sI X1 219 0).1 180 = x.1 180 := (sI_n (by decide)).trans (fX.1 180 (by decide) (by decide))
      have x23 : X1.2.1 23 = x.2.1 23 := fX.2.1 23 (by decide) (by decide)
      have x24 : X1.2.1 24 = x.2.1 24 := fX.2.1 24 (by decide) (by decide)
      have y589 : Y2.1 589 = y.1 589 := fY.1 589 (by decide)
      rcases hl with ⟨h1, h2⟩ | ⟨h1, p, h2, h3, ⟨h4, h5, h6⟩, h7⟩
      · exact Or.inl ⟨x180.trans h1, y589.trans h2⟩
      · exact Or.inr ⟨y589.trans h1, p, h2, h3, ⟨x180.trans h4, h5, fun i s hs => by show X1.2.1 23 i = _ ∧ X1.2.1 24 i = _; rw [x23, x24]; exact h6 i s hs⟩, LawM_low h7 cM⟩
  · refine PW.deeper (k := (59, 0, 0, z)) (Nat.le_of_ble_eq_true rfl) (Nat.le_refl _) (Nat.le_refl _) ?_
    refine PW_aload_n c_G_law_0 rfl ?_
    refine PW_get (v := .ref 27) c_G_law_1 fl_G_26 (gf_5_2 _ _) ?_
    refine PW_V0 (d2 := 58) (st := []) [] c_G_law_4 lk_G_law_153 (po_27 _ _) rfl rfl rfl (Nat.le_of_ble_eq_true rfl) (by first | decide | omega) (Nat.le_of_ble_eq_true rfl) ?_
    refine HR ?_
    show PW _ _ _ 7 [some (.ref 5), none] [.int (nI R.2.1)] (E X1 y)
    refine PW_istore_n (i := 1) (L2 := [some (.ref 5), some (.int (nI R.2.1))]) c_G_law_7 rfl (Nat.le_of_ble_eq_true rfl) rfl rfl ?_
    refine PW_iload_n c_G_law_8 rfl ?_
    refine PW_if_ge c_G_law_9 (fun h0 => ?_) (fun h0 => absurd (nI_pos' (by omega)) h0)
    refine PW_aload_n c_G_law_23 rfl ?_
    refine PW_get (v := .ref 27) c_G_law_24 fl_G_26 (gf_5_2 _ _) ?_
    refine PW_V0 (d2 := 0) (st := []) [] c_G_law_27 lk_G_law_160 (po_27 _ _) rfl rfl rfl (Nat.le_of_ble_eq_true rfl) (by first | decide | omega) (Nat.le_of_ble_eq_true rfl) ?_
    show PW _ _ _ 0 [some (.ref 27)] [] (E X1 y)
    refine PW_aload_n c_T_empty_0 rfl ?_
    refine PW_iconst (v := 0) c_T_empty_1 (by decide) ?_
    refine PW_put (w2 := E (sI X1 219 0) y) c_T_empty_2 fp_T_empty_21 rfl (pf_27_3 _ _ _) ?_
    refine PW_vreturn c_T_empty_5 rfl ?_
    show PW _ _ _ 30 [some (.ref 5), some (.int (nI R.2.1))] [] (E (sI X1 219 0) y)
    refine PW_iload_n c_G_law_30 rfl ?_
    refine PW_if_ge c_G_law_31 (fun h1 => ?_) (fun h1 => absurd (nI_pos' (by omega)) h1)
    refine PW_bipush (v := -100) c_G_law_38 (by decide) ?_
    refine PW_iload_n c_G_law_40 rfl ?_
    refine PW_isub c_G_law_41 ?_
    refine PW_ireturn (ty := .int) c_G_law_42 rfl rfl ?_
    exact h
  · refine PW.deeper (k := (46, 0, 0, z)) (Nat.le_of_ble_eq_true rfl) (Nat.le_refl _) (Nat.le_refl _) ?_
    refine PW_aload_n c_M_law_0 rfl ?_
    refine PW_iconst (v := 0) c_M_law_1 (by decide) ?_
    refine PW_V0 (d2 := 45) (st := []) [.int 0] c_M_law_2 lk_M_law_246 (po_70 _ _) rfl rfl rfl (Nat.le_of_ble_eq_true rfl) (by first | decide | omega) (Nat.le_of_ble_eq_true rfl) ?_
    refine HM ?_
    show PW _ _ _ 5 [some (.ref 70), none] [.int (nI R.2.1)] (E (sI X1 219 0) Y2)
    refine PW_istore_n (i := 1) (L2 := [some (.ref 70), some (.int (nI R.2.1))]) c_M_law_5 rfl (Nat.le_of_ble_eq_true rfl) rfl rfl ?_
    refine PW_iload_n c_M_law_6 rfl ?_
    refine PW_if_lt c_M_law_7 (fun h0 => absurd h0 (nI_pos (by omega))) (fun h0 => ?_)
    refine PW_bipush (v := -100) c_M_law_10 (by decide) ?_
    refine PW_iload_n c_M_law_12 rfl ?_
    refine PW_isub c_M_law_13 ?_
    refine PW_ireturn (ty := .int) c_M_law_14 rfl rfl ?_
    exact h
