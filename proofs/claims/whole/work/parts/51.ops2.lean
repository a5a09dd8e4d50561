set_option maxHeartbeats 4000000 in
theorem op_keep {t : Nat} {x y : XS} {a1 : Int32} {a2 : Int32} (hI : INV t x y) (ht : t < 512) : ∃ (r : Int32) (x' y' : XS), INV (t + 1) x' y' ∧ (∀ {z : ZS} {post : Option Value → List PE → Prop}, post (some (.int r)) (E x' y) → PW (90, 0, 0, z) m_G_keep post 0 [some (.ref 5), some (.int a1), some (.int a2), none] [] (E x y)) ∧ (∀ {z : ZS} {post : Option Value → List PE → Prop}, post (some (.int r)) (E x' y') → PW (90, 0, 0, z) m_M_keep post 0 [some (.ref 70), some (.int a1), some (.int a2)] [] (E x' y)) := by
  obtain ⟨hg, hc, ht0, hl, hd, hb, hs⟩ := id hI
  obtain ⟨hB, hbx, hbk⟩ := WB_of hb

  by_cases hc0 : ¬ (0 ≤ a1.toInt ∧ a1.toInt < 6)
  · refine ⟨-1, x, y, ?_, fun {z post} h => ?_, fun {z post} h => ?_⟩
    · exact INV_step hI
    · refine PW.deeper (k := (1, 0, 0, z)) (Nat.le_of_ble_eq_true rfl) (Nat.le_refl _) (Nat.le_refl _) ?_
      refine PW_aload_n c_G_keep_0 rfl ?_
      refine PW_iload_n c_G_keep_1 rfl ?_
      refine PW_V0 (d2 := 0) (st := []) [.int a1] c_G_keep_2 lk_G_keep_102 (po_5 _ _) rfl rfl rfl (Nat.le_of_ble_eq_true rfl) (by first | decide | omega) (Nat.le_of_ble_eq_true rfl) ?_
      refine sp_noshelf hc0 ?_
      show PW _ _ _ 5 [some (.ref 5), some (.int a1), some (.int a2), none] [.null] (E x y)
      refine PW_astore_nN (i := 3) (L2 := [some (.ref 5), some (.int a1), some (.int a2), some (.null)]) c_G_keep_5 rfl (Nat.le_of_ble_eq_true rfl) rfl rfl ?_
      refine PW_aload_nN c_G_keep_6 rfl ?_
      refine PW_ifnullN c_G_keep_7 ?_
      refine PW_iconst (v := -1) c_G_keep_26 (by decide) ?_
      refine PW_ireturn (ty := .int) c_G_keep_27 rfl rfl ?_
      exact h
    · refine PW.deeper (k := (2, 0, 0, z)) (Nat.le_of_ble_eq_true rfl) (Nat.le_refl _) (Nat.le_refl _) ?_
      refine PW_iload_n c_M_keep_0 rfl ?_
      refine PW_S0 (d2 := 1) (st := []) [.int a1] c_M_keep_1 lk_M_keep_143 rfl rfl rfl (Nat.le_of_ble_eq_true rfl) (by first | decide | omega) (Nat.le_of_ble_eq_true rfl) ?_
      refine sp_M_isShelf2  ?_
      show PW _ _ _ 4 [some (.ref 70), some (.int a1), some (.int a2)] [.int (b2i (0 ≤ a1.toInt ∧ a1.toInt < 6))] (E x y)
      refine PW_if_eq c_M_keep_4 (fun _ => ?_) (fun h0 => absurd (b2i_n0.mp h0) hc0)
      refine PW_iconst (v := -1) c_M_keep_20 (by decide) ?_
      refine PW_ireturn (ty := .int) c_M_keep_21 rfl rfl ?_
      exact h
  obtain ⟨j, hj, rfl⟩ : ∃ j : Nat, j < 6 ∧ a1 = nI j := by
    obtain ⟨q, q1, q2, q3, q4⟩ := nI_ex (x := a1) (by have := Decidable.not_not.mp hc0; omega)
    exact ⟨q, by have := Decidable.not_not.mp hc0; omega, q2⟩
  have hjs : 0 ≤ (nI j).toInt ∧ (nI j).toInt < 6 := by rw [nI_toInt (by omega)]; omega
  have hsj := hs j hj
  unfold CPs1 at hsj
  by_cases hc1 : a2 = -1
  · refine ⟨1, sI (sI x ((58 + 2 * j) * 8 + 1) 0) ((58 + 2 * j) * 8 + 4) 0, sA y 104 (upd (y.2.1 104) j a2), ?_, fun {z post} h => ?_, fun {z post} h => ?_⟩
    · refine ⟨hg.cg (fun n q1 q2 => by first | rfl | (simp only [sI_1, sI_A, sI_G, sA_1, sA_A, sA_G, sG_1, sG_A, sG_G]; repeat rw [if_neg (by omega)])) (fun n q1 q2 => by first | rfl | (simp only [sI_1, sI_A, sI_G, sA_1, sA_A, sA_G, sG_1, sG_A, sG_G]; repeat rw [if_neg (by omega)])) (by first | rfl | (simp only [sI_1, sI_A, sI_G, sA_1, sA_A, sA_G, sG_1, sG_A, sG_G]; repeat rw [if_neg (by omega)])) (fun n q1 q2 => by first | rfl | (simp only [sI_1, sI_A, sI_G, sA_1, sA_A, sA_G, sG_1, sG_A, sG_G]; repeat rw [if_neg (by omega)])), hc.cg (fun n q1 q2 => by first | rfl | (simp only [sI_1, sI_A, sI_G, sA_1, sA_A, sA_G, sG_1, sG_A, sG_G]; repeat rw [if_neg (by omega)])) (fun n q1 q2 => by first | rfl | (simp only [sI_1, sI_A, sI_G, sA_1, sA_A, sA_G, sG_1, sG_A, sG_G]; repeat rw [if_neg (by omega)])) (fun n q1 q2 => by first | rfl | (simp only [sI_1, sI_A, sI_G, sA_1, sA_A, sA_G, sG_1, sG_A, sG_G]; repeat rw [if_neg (by omega)])) (fun n q1 q2 => by first | rfl | (simp only [sI_1, sI_A, sI_G, sA_1, sA_A, sA_G, sG_1, sG_A, sG_G]; repeat rw [if_neg (by omega)])) (Nat.le_of_eq (nG_cg (by first | rfl | (simp only [sI_1, sI_A, sI_G, sA_1, sA_A, sA_G, sG_1, sG_A, sG_G]; repeat rw [if_neg (by omega)]))).symm), ht0.cg (by first | rfl | (simp only [sI_1, sI_A, sI_G, sA_1, sA_A, sA_G, sG_1, sG_A, sG_G]; repeat rw [if_neg (by omega)])) (by first | rfl | (simp only [sI_1, sI_A, sI_G, sA_1, sA_A, sA_G, sG_1, sG_A, sG_G]; repeat rw [if_neg (by omega)])) (by first | rfl | (simp only [sI_1, sI_A, sI_G, sA_1, sA_A, sA_G, sG_1, sG_A, sG_G]; repeat rw [if_neg (by omega)])) (by first | rfl | (simp only [sI_1, sI_A, sI_G, sA_1, sA_A, sA_G, sG_1, sG_A, sG_G]; repeat rw [if_neg (by omega)])), hl.cg (by first | rfl | (simp only [sI_1, sI_A, sI_G, sA_1, sA_A, sA_G, sG_1, sG_A, sG_G]; repeat rw [if_neg (by omega)])) (fun n q1 q2 => by first | rfl | (simp only [sI_1, sI_A, sI_G, sA_1, sA_A, sA_G, sG_1, sG_A, sG_G]; repeat rw [if_neg (by omega)])) (by first | rfl | (simp only [sI_1, sI_A, sI_G, sA_1, sA_A, sA_G, sG_1, sG_A, sG_G]; repeat rw [if_neg (by omega)])) (fun n q1 q2 => by first | rfl | (simp only [sI_1, sI_A, sI_G, sA_1, sA_A, sA_G, sG_1, sG_A, sG_G]; repeat rw [if_neg (by omega)])), hd.cg (Nat.le_succ _) (fun n q1 q2 => by first | rfl | (simp only [sI_1, sI_A, sI_G, sA_1, sA_A, sA_G, sG_1, sG_A, sG_G]; repeat rw [if_neg (by omega)])) (by first | rfl | (simp only [sI_1, sI_A, sI_G, sA_1, sA_A, sA_G, sG_1, sG_A, sG_G]; repeat rw [if_neg (by omega)])) (by first | rfl | (simp only [sI_1, sI_A, sI_G, sA_1, sA_A, sA_G, sG_1, sG_A, sG_G]; repeat rw [if_neg (by omega)])) (fun n q1 q2 => by first | rfl | (simp only [sI_1, sI_A, sI_G, sA_1, sA_A, sA_G, sG_1, sG_A, sG_G]; repeat rw [if_neg (by omega)])), hb.cg (fun n q1 q2 => by first | rfl | (simp only [sI_1, sI_A, sI_G, sA_1, sA_A, sA_G, sG_1, sG_A, sG_G]; repeat rw [if_neg (by omega)])) (fun n q1 q2 => by first | rfl | (simp only [sI_1, sI_A, sI_G, sA_1, sA_A, sA_G, sG_1, sG_A, sG_G]; repeat rw [if_neg (by omega)])) (fun n q1 q2 => by first | rfl | (simp only [sI_1, sI_A, sI_G, sA_1, sA_A, sA_G, sG_1, sG_A, sG_G]; repeat rw [if_neg (by omega)])) (fun n q1 q2 => by first | rfl | (simp only [sI_1, sI_A, sI_G, sA_1, sA_A, sA_G, sG_1, sG_A, sG_G]; repeat rw [if_neg (by omega)])), ?_⟩
      · intro i hi
        by_cases hij : i = j
        · subst hij
          unfold CPs1
          left
          refine ⟨?_, ?_⟩
          · show upd (y.2.1 104) i a2 i = -1
            rw [upd_s, hc1]
          · rw [sI_n (by omega), sI_s]
        · exact (hs i hi).cg (fun k q1 q2 => by first | rfl | (repeat rw [sI_n (by omega)])) rfl (by first | exact Int.le_refl _ | (simp only [sI_1, sI_A, sI_G, sA_1, sA_A, sA_G, sG_1, sG_A, sG_G]; repeat rw [if_neg (by omega)])) (by first | rfl | exact upd_n hij) (by first | rfl | exact upd_n hij) (fun _ _ => rfl)
    · refine PW.deeper (k := (1, 0, 0, z)) (Nat.le_of_ble_eq_true rfl) (Nat.le_refl _) (Nat.le_refl _) ?_
      refine PW_aload_n c_G_keep_0 rfl ?_
      refine PW_iload_n c_G_keep_1 rfl ?_
      refine PW_V0 (d2 := 0) (st := []) [.int (nI j)] c_G_keep_2 lk_G_keep_102 (po_5 _ _) rfl rfl rfl (Nat.le_of_ble_eq_true rfl) (by first | decide | omega) (Nat.le_of_ble_eq_true rfl) ?_
      refine sp_shelf hj ?_
      show PW _ _ _ 5 [some (.ref 5), some (.int (nI j)), some (.int a2), none] [.ref (58 + 2 * j)] (E x y)
      refine PW_astore_n (i := 3) (L2 := [some (.ref 5), some (.int (nI j)), some (.int a2), some (.ref (58 + 2 * j))]) c_G_keep_5 rfl (Nat.le_of_ble_eq_true rfl) rfl rfl ?_
      refine PW_aload_n c_G_keep_6 rfl ?_
      refine PW_ifnull c_G_keep_7 ?_
      refine PW_iload_n c_G_keep_10 rfl ?_
      refine PW_iconst (v := -1) c_G_keep_11 (by decide) ?_
      refine PW_icmp_eq c_G_keep_12 (fun h0 => ?_) (fun h0 => absurd hc1 h0)
      refine PW_iload_n c_G_keep_28 rfl ?_
      refine PW_iconst (v := -1) c_G_keep_29 (by decide) ?_
      refine PW_icmp_ne c_G_keep_30 (fun h1 => absurd h1 (not_not_intro hc1)) (fun h1 => ?_)
      refine PW_aload_n c_G_keep_33 rfl ?_
      refine PW_V0 (d2 := 0) (st := []) [] c_G_keep_34 lk_G_keep_315 (sh_po _ _ hj) rfl rfl rfl (Nat.le_of_ble_eq_true rfl) (by first | decide | omega) (Nat.le_of_ble_eq_true rfl) ?_
      show PW _ _ _ 0 [some (.ref (58 + 2 * j))] [] (E x y)
      refine PW_aload_n c_F_holdNothing_0 rfl ?_
      refine PW_iconst (v := 0) c_F_holdNothing_1 (by decide) ?_
      refine PW_put (w2 := E (sI x ((58 + 2 * j) * 8 + 1) 0) y) c_F_holdNothing_2 fp_F_holdNothing_15 rfl (sh_p1 _ _ hj _) ?_
      refine PW_aload_n c_F_holdNothing_5 rfl ?_
      refine PW_iconst (v := 0) c_F_holdNothing_6 (by decide) ?_
      refine PW_put (w2 := E (sI (sI x ((58 + 2 * j) * 8 + 1) 0) ((58 + 2 * j) * 8 + 4) 0) y) c_F_holdNothing_7 fp_F_holdNothing_25 rfl (sh_p4 _ _ hj _) ?_
      refine PW_vreturn c_F_holdNothing_10 rfl ?_
      show PW _ _ _ 37 [some (.ref 5), some (.int (nI j)), some (.int a2), some (.ref (58 + 2 * j))] [] (E (sI (sI x ((58 + 2 * j) * 8 + 1) 0) ((58 + 2 * j) * 8 + 4) 0) y)
      refine PW_goto c_G_keep_37 ?_
      refine PW_iconst (v := 1) c_G_keep_45 (by decide) ?_
      refine PW_ireturn (ty := .int) c_G_keep_46 rfl rfl ?_
      exact h
    · refine PW.deeper (k := (2, 0, 0, z)) (Nat.le_of_ble_eq_true rfl) (Nat.le_refl _) (Nat.le_refl _) ?_
      refine PW_iload_n c_M_keep_0 rfl ?_
      refine PW_S0 (d2 := 1) (st := []) [.int (nI j)] c_M_keep_1 lk_M_keep_143 rfl rfl rfl (Nat.le_of_ble_eq_true rfl) (by first | decide | omega) (Nat.le_of_ble_eq_true rfl) ?_
      refine sp_M_isShelf2  ?_
      show PW _ _ _ 4 [some (.ref 70), some (.int (nI j)), some (.int a2)] [.int (b2i (0 ≤ (nI j).toInt ∧ (nI j).toInt < 6))] (E (sI (sI x ((58 + 2 * j) * 8 + 1) 0) ((58 + 2 * j) * 8 + 4) 0) y)
      refine PW_if_eq c_M_keep_4 (fun h0 => absurd hjs (b2i_0.mp h0)) (fun _ => ?_)
      refine PW_iload_n c_M_keep_7 rfl ?_
      refine PW_iconst (v := -1) c_M_keep_8 (by decide) ?_
      refine PW_icmp_eq c_M_keep_9 (fun h1 => ?_) (fun h1 => absurd hc1 h1)
      refine PW_aload_n c_M_keep_22 rfl ?_
      refine PW_get (v := .ref 104) c_M_keep_23 fl_M_111 (gf_70_53 _ _) ?_
      refine PW_iload_n c_M_keep_26 rfl ?_
      refine PW_iload_n c_M_keep_27 rfl ?_
      refine PW_iast (j := j) (w2 := E (sI (sI x ((58 + 2 * j) * 8 + 1) 0) ((58 + 2 * j) * 8 + 4) 0) (sA y 104 (upd (y.2.1 104) j a2))) c_M_keep_28 (ar_104 _ _) (vp_in_nI hj (by decide)) (nI_clamp (by omega)) (aw_104 _ _ _) ?_
      refine PW_iconst (v := 1) c_M_keep_29 (by decide) ?_
      refine PW_ireturn (ty := .int) c_M_keep_30 rfl rfl ?_
      exact h
  by_cases hc2 : 0 ≤ a2.toInt ∧ a2.toInt < (nB y : Int)
  · refine ⟨1, sI (sI (sI x ((58 + 2 * j) * 8 + 1) 1) ((58 + 2 * j) * 8 + 2) a2) ((58 + 2 * j) * 8 + 4) 0, sA y 104 (upd (y.2.1 104) j a2), ?_, fun {z post} h => ?_, fun {z post} h => ?_⟩
    · refine ⟨hg.cg (fun n q1 q2 => by first | rfl | (simp only [sI_1, sI_A, sI_G, sA_1, sA_A, sA_G, sG_1, sG_A, sG_G]; repeat rw [if_neg (by omega)])) (fun n q1 q2 => by first | rfl | (simp only [sI_1, sI_A, sI_G, sA_1, sA_A, sA_G, sG_1, sG_A, sG_G]; repeat rw [if_neg (by omega)])) (by first | rfl | (simp only [sI_1, sI_A, sI_G, sA_1, sA_A, sA_G, sG_1, sG_A, sG_G]; repeat rw [if_neg (by omega)])) (fun n q1 q2 => by first | rfl | (simp only [sI_1, sI_A, sI_G, sA_1, sA_A, sA_G, sG_1, sG_A, sG_G]; repeat rw [if_neg (by omega)])), hc.cg (fun n q1 q2 => by first | rfl | (simp only [sI_1, sI_A, sI_G, sA_1, sA_A, sA_G, sG_1, sG_A, sG_G]; repeat rw [if_neg (by omega)])) (fun n q1 q2 => by first | rfl | (simp only [sI_1, sI_A, sI_G, sA_1, sA_A, sA_G, sG_1, sG_A, sG_G]; repeat rw [if_neg (by omega)])) (fun n q1 q2 => by first | rfl | (simp only [sI_1, sI_A, sI_G, sA_1, sA_A, sA_G, sG_1, sG_A, sG_G]; repeat rw [if_neg (by omega)])) (fun n q1 q2 => by first | rfl | (simp only [sI_1, sI_A, sI_G, sA_1, sA_A, sA_G, sG_1, sG_A, sG_G]; repeat rw [if_neg (by omega)])) (Nat.le_of_eq (nG_cg (by first | rfl | (simp only [sI_1, sI_A, sI_G, sA_1, sA_A, sA_G, sG_1, sG_A, sG_G]; repeat rw [if_neg (by omega)]))).symm), ht0.cg (by first | rfl | (simp only [sI_1, sI_A, sI_G, sA_1, sA_A, sA_G, sG_1, sG_A, sG_G]; repeat rw [if_neg (by omega)])) (by first | rfl | (simp only [sI_1, sI_A, sI_G, sA_1, sA_A, sA_G, sG_1, sG_A, sG_G]; repeat rw [if_neg (by omega)])) (by first | rfl | (simp only [sI_1, sI_A, sI_G, sA_1, sA_A, sA_G, sG_1, sG_A, sG_G]; repeat rw [if_neg (by omega)])) (by first | rfl | (simp only [sI_1, sI_A, sI_G, sA_1, sA_A, sA_G, sG_1, sG_A, sG_G]; repeat rw [if_neg (by omega)])), hl.cg (by first | rfl | (simp only [sI_1, sI_A, sI_G, sA_1, sA_A, sA_G, sG_1, sG_A, sG_G]; repeat rw [if_neg (by omega)])) (fun n q1 q2 => by first | rfl | (simp only [sI_1, sI_A, sI_G, sA_1, sA_A, sA_G, sG_1, sG_A, sG_G]; repeat rw [if_neg (by omega)])) (by first | rfl | (simp only [sI_1, sI_A, sI_G, sA_1, sA_A, sA_G, sG_1, sG_A, sG_G]; repeat rw [if_neg (by omega)])) (fun n q1 q2 => by first | rfl | (simp only [sI_1, sI_A, sI_G, sA_1, sA_A, sA_G, sG_1, sG_A, sG_G]; repeat rw [if_neg (by omega)])), hd.cg (Nat.le_succ _) (fun n q1 q2 => by first | rfl | (simp only [sI_1, sI_A, sI_G, sA_1, sA_A, sA_G, sG_1, sG_A, sG_G]; repeat rw [if_neg (by omega)])) (by first | rfl | (simp only [sI_1, sI_A, sI_G, sA_1, sA_A, sA_G, sG_1, sG_A, sG_G]; repeat rw [if_neg (by omega)])) (by first | rfl | (simp only [sI_1, sI_A, sI_G, sA_1, sA_A, sA_G, sG_1, sG_A, sG_G]; repeat rw [if_neg (by omega)])) (fun n q1 q2 => by first | rfl | (simp only [sI_1, sI_A, sI_G, sA_1, sA_A, sA_G, sG_1, sG_A, sG_G]; repeat rw [if_neg (by omega)])), hb.cg (fun n q1 q2 => by first | rfl | (simp only [sI_1, sI_A, sI_G, sA_1, sA_A, sA_G, sG_1, sG_A, sG_G]; repeat rw [if_neg (by omega)])) (fun n q1 q2 => by first | rfl | (simp only [sI_1, sI_A, sI_G, sA_1, sA_A, sA_G, sG_1, sG_A, sG_G]; repeat rw [if_neg (by omega)])) (fun n q1 q2 => by first | rfl | (simp only [sI_1, sI_A, sI_G, sA_1, sA_A, sA_G, sG_1, sG_A, sG_G]; repeat rw [if_neg (by omega)])) (fun n q1 q2 => by first | rfl | (simp only [sI_1, sI_A, sI_G, sA_1, sA_A, sA_G, sG_1, sG_A, sG_G]; repeat rw [if_neg (by omega)])), ?_⟩
      · intro i hi
        by_cases hij : i = j
        · subst hij
          unfold CPs1
          right; left
          refine ⟨?_, ?_, ?_, ?_⟩
          · show 0 ≤ (upd (y.2.1 104) i a2 i).toInt
            rw [upd_s]; exact hc2.1
          · show (upd (y.2.1 104) i a2 i).toInt < (y.1 609).toInt
            rw [upd_s, hB.1, nI_toInt (by have := hB.2; omega)]; exact hc2.2
          · rw [sI_n (by omega), sI_n (by omega), sI_s]
          · show _ = upd (y.2.1 104) i a2 i
            rw [sI_n (by omega), sI_s, upd_s]
        · exact (hs i hi).cg (fun k q1 q2 => by first | rfl | (repeat rw [sI_n (by omega)])) rfl (by first | exact Int.le_refl _ | (simp only [sI_1, sI_A, sI_G, sA_1, sA_A, sA_G, sG_1, sG_A, sG_G]; repeat rw [if_neg (by omega)])) (by first | rfl | exact upd_n hij) (by first | rfl | exact upd_n hij) (fun _ _ => rfl)
    · refine PW.deeper (k := (1, 0, 0, z)) (Nat.le_of_ble_eq_true rfl) (Nat.le_refl _) (Nat.le_refl _) ?_
      refine PW_aload_n c_G_keep_0 rfl ?_
      refine PW_iload_n c_G_keep_1 rfl ?_
      refine PW_V0 (d2 := 0) (st := []) [.int (nI j)] c_G_keep_2 lk_G_keep_102 (po_5 _ _) rfl rfl rfl (Nat.le_of_ble_eq_true rfl) (by first | decide | omega) (Nat.le_of_ble_eq_true rfl) ?_
      refine sp_shelf hj ?_
      show PW _ _ _ 5 [some (.ref 5), some (.int (nI j)), some (.int a2), none] [.ref (58 + 2 * j)] (E x y)
      refine PW_astore_n (i := 3) (L2 := [some (.ref 5), some (.int (nI j)), some (.int a2), some (.ref (58 + 2 * j))]) c_G_keep_5 rfl (Nat.le_of_ble_eq_true rfl) rfl rfl ?_
      refine PW_aload_n c_G_keep_6 rfl ?_
      refine PW_ifnull c_G_keep_7 ?_
      refine PW_iload_n c_G_keep_10 rfl ?_
      refine PW_iconst (v := -1) c_G_keep_11 (by decide) ?_
      refine PW_icmp_eq c_G_keep_12 (fun h0 => absurd h0 hc1) (fun h0 => ?_)
      refine PW_aload_n c_G_keep_15 rfl ?_
      refine PW_get (v := .ref 54) c_G_keep_16 fl_G_79 (gf_5_9 _ _) ?_
      refine PW_iload_n c_G_keep_19 rfl ?_
      refine PW_V0 (d2 := 0) (st := []) [.int a2] c_G_keep_20 lk_G_keep_312 (po_54 _ _) rfl rfl rfl (Nat.le_of_ble_eq_true rfl) (by first | decide | omega) (Nat.le_of_ble_eq_true rfl) ?_
      refine sp_B_isBody hB hbx ?_
      show PW _ _ _ 23 [some (.ref 5), some (.int (nI j)), some (.int a2), some (.ref (58 + 2 * j))] [.int (b2i (0 ≤ a2.toInt ∧ a2.toInt < (nB y : Int)))] (E x y)
      refine PW_if_ne c_G_keep_23 (fun _ => ?_) (fun h1 => absurd hc2 (b2i_0.mp h1))
      refine PW_iload_n c_G_keep_28 rfl ?_
      refine PW_iconst (v := -1) c_G_keep_29 (by decide) ?_
      refine PW_icmp_ne c_G_keep_30 (fun h2 => ?_) (fun h2 => absurd h2 hc1)
      refine PW_aload_n c_G_keep_40 rfl ?_
      refine PW_iload_n c_G_keep_41 rfl ?_
      refine PW_V0 (d2 := 0) (st := []) [.int a2] c_G_keep_42 lk_G_keep_318 (sh_po _ _ hj) rfl rfl rfl (Nat.le_of_ble_eq_true rfl) (by first | decide | omega) (Nat.le_of_ble_eq_true rfl) ?_
      show PW _ _ _ 0 [some (.ref (58 + 2 * j)), some (.int a2)] [] (E x y)
      refine PW_aload_n c_F_holdBody_0 rfl ?_
      refine PW_iconst (v := 1) c_F_holdBody_1 (by decide) ?_
      refine PW_put (w2 := E (sI x ((58 + 2 * j) * 8 + 1) 1) y) c_F_holdBody_2 fp_F_holdBody_15 rfl (sh_p1 _ _ hj _) ?_
      refine PW_aload_n c_F_holdBody_5 rfl ?_
      refine PW_iload_n c_F_holdBody_6 rfl ?_
      refine PW_put (w2 := E (sI (sI x ((58 + 2 * j) * 8 + 1) 1) ((58 + 2 * j) * 8 + 2) a2) y) c_F_holdBody_7 fp_F_holdBody_22 rfl (sh_p2 _ _ hj _) ?_
      refine PW_aload_n c_F_holdBody_10 rfl ?_
      refine PW_iconst (v := 0) c_F_holdBody_11 (by decide) ?_
      refine PW_put (w2 := E (sI (sI (sI x ((58 + 2 * j) * 8 + 1) 1) ((58 + 2 * j) * 8 + 2) a2) ((58 + 2 * j) * 8 + 4) 0) y) c_F_holdBody_12 fp_F_holdBody_25 rfl (sh_p4 _ _ hj _) ?_
      refine PW_vreturn c_F_holdBody_15 rfl ?_
      show PW _ _ _ 45 [some (.ref 5), some (.int (nI j)), some (.int a2), some (.ref (58 + 2 * j))] [] (E (sI (sI (sI x ((58 + 2 * j) * 8 + 1) 1) ((58 + 2 * j) * 8 + 2) a2) ((58 + 2 * j) * 8 + 4) 0) y)
      refine PW_iconst (v := 1) c_G_keep_45 (by decide) ?_
      refine PW_ireturn (ty := .int) c_G_keep_46 rfl rfl ?_
      exact h
    · refine PW.deeper (k := (2, 0, 0, z)) (Nat.le_of_ble_eq_true rfl) (Nat.le_refl _) (Nat.le_refl _) ?_
      refine PW_iload_n c_M_keep_0 rfl ?_
      refine PW_S0 (d2 := 1) (st := []) [.int (nI j)] c_M_keep_1 lk_M_keep_143 rfl rfl rfl (Nat.le_of_ble_eq_true rfl) (by first | decide | omega) (Nat.le_of_ble_eq_true rfl) ?_
      refine sp_M_isShelf2  ?_
      show PW _ _ _ 4 [some (.ref 70), some (.int (nI j)), some (.int a2)] [.int (b2i (0 ≤ (nI j).toInt ∧ (nI j).toInt < 6))] (E (sI (sI (sI x ((58 + 2 * j) * 8 + 1) 1) ((58 + 2 * j) * 8 + 2) a2) ((58 + 2 * j) * 8 + 4) 0) y)
      refine PW_if_eq c_M_keep_4 (fun h0 => absurd hjs (b2i_0.mp h0)) (fun _ => ?_)
      refine PW_iload_n c_M_keep_7 rfl ?_
      refine PW_iconst (v := -1) c_M_keep_8 (by decide) ?_
      refine PW_icmp_eq c_M_keep_9 (fun h1 => absurd h1 hc1) (fun h1 => ?_)
      refine PW_aload_n c_M_keep_12 rfl ?_
      refine PW_iload_n c_M_keep_13 rfl ?_
      refine PW_V0 (d2 := 1) (st := []) [.int a2] c_M_keep_14 lk_M_keep_397 (po_70 _ _) rfl rfl rfl (Nat.le_of_ble_eq_true rfl) (by first | decide | omega) (Nat.le_of_ble_eq_true rfl) ?_
      refine sp_M_isBody2 hB ?_
      show PW _ _ _ 17 [some (.ref 70), some (.int (nI j)), some (.int a2)] [.int (b2i (0 ≤ a2.toInt ∧ a2.toInt < (nB y : Int)))] (E (sI (sI (sI x ((58 + 2 * j) * 8 + 1) 1) ((58 + 2 * j) * 8 + 2) a2) ((58 + 2 * j) * 8 + 4) 0) y)
      refine PW_if_ne c_M_keep_17 (fun _ => ?_) (fun h2 => absurd hc2 (b2i_0.mp h2))
      refine PW_aload_n c_M_keep_22 rfl ?_
      refine PW_get (v := .ref 104) c_M_keep_23 fl_M_111 (gf_70_53 _ _) ?_
      refine PW_iload_n c_M_keep_26 rfl ?_
      refine PW_iload_n c_M_keep_27 rfl ?_
      refine PW_iast (j := j) (w2 := E (sI (sI (sI x ((58 + 2 * j) * 8 + 1) 1) ((58 + 2 * j) * 8 + 2) a2) ((58 + 2 * j) * 8 + 4) 0) (sA y 104 (upd (y.2.1 104) j a2))) c_M_keep_28 (ar_104 _ _) (vp_in_nI hj (by decide)) (nI_clamp (by omega)) (aw_104 _ _ _) ?_
      refine PW_iconst (v := 1) c_M_keep_29 (by decide) ?_
      refine PW_ireturn (ty := .int) c_M_keep_30 rfl rfl ?_
      exact h
  refine ⟨-1, x, y, ?_, fun {z post} h => ?_, fun {z post} h => ?_⟩
  · exact INV_step hI
  · refine PW.deeper (k := (1, 0, 0, z)) (Nat.le_of_ble_eq_true rfl) (Nat.le_refl _) (Nat.le_refl _) ?_
    refine PW_aload_n c_G_keep_0 rfl ?_
    refine PW_iload_n c_G_keep_1 rfl ?_
    refine PW_V0 (d2 := 0) (st := []) [.int (nI j)] c_G_keep_2 lk_G_keep_102 (po_5 _ _) rfl rfl rfl (Nat.le_of_ble_eq_true rfl) (by first | decide | omega) (Nat.le_of_ble_eq_true rfl) ?_
    refine sp_shelf hj ?_
    show PW _ _ _ 5 [some (.ref 5), some (.int (nI j)), some (.int a2), none] [.ref (58 + 2 * j)] (E x y)
    refine PW_astore_n (i := 3) (L2 := [some (.ref 5), some (.int (nI j)), some (.int a2), some (.ref (58 + 2 * j))]) c_G_keep_5 rfl (Nat.le_of_ble_eq_true rfl) rfl rfl ?_
    refine PW_aload_n c_G_keep_6 rfl ?_
    refine PW_ifnull c_G_keep_7 ?_
    refine PW_iload_n c_G_keep_10 rfl ?_
    refine PW_iconst (v := -1) c_G_keep_11 (by decide) ?_
    refine PW_icmp_eq c_G_keep_12 (fun h0 => absurd h0 hc1) (fun h0 => ?_)
    refine PW_aload_n c_G_keep_15 rfl ?_
    refine PW_get (v := .ref 54) c_G_keep_16 fl_G_79 (gf_5_9 _ _) ?_
    refine PW_iload_n c_G_keep_19 rfl ?_
    refine PW_V0 (d2 := 0) (st := []) [.int a2] c_G_keep_20 lk_G_keep_312 (po_54 _ _) rfl rfl rfl (Nat.le_of_ble_eq_true rfl) (by first | decide | omega) (Nat.le_of_ble_eq_true rfl) ?_
    refine sp_B_isBody hB hbx ?_
    show PW _ _ _ 23 [some (.ref 5), some (.int (nI j)), some (.int a2), some (.ref (58 + 2 * j))] [.int (b2i (0 ≤ a2.toInt ∧ a2.toInt < (nB y : Int)))] (E x y)
    refine PW_if_ne c_G_keep_23 (fun h1 => absurd (b2i_n0.mp h1) hc2) (fun _ => ?_)
    refine PW_iconst (v := -1) c_G_keep_26 (by decide) ?_
    refine PW_ireturn (ty := .int) c_G_keep_27 rfl rfl ?_
    exact h
  · refine PW.deeper (k := (2, 0, 0, z)) (Nat.le_of_ble_eq_true rfl) (Nat.le_refl _) (Nat.le_refl _) ?_
    refine PW_iload_n c_M_keep_0 rfl ?_
    refine PW_S0 (d2 := 1) (st := []) [.int (nI j)] c_M_keep_1 lk_M_keep_143 rfl rfl rfl (Nat.le_of_ble_eq_true rfl) (by first | decide | omega) (Nat.le_of_ble_eq_true rfl) ?_
    refine sp_M_isShelf2  ?_
    show PW _ _ _ 4 [some (.ref 70), some (.int (nI j)), some (.int a2)] [.int (b2i (0 ≤ (nI j).toInt ∧ (nI j).toInt < 6))] (E x y)
    refine PW_if_eq c_M_keep_4 (fun h0 => absurd hjs (b2i_0.mp h0)) (fun _ => ?_)
    refine PW_iload_n c_M_keep_7 rfl ?_
    refine PW_iconst (v := -1) c_M_keep_8 (by decide) ?_
    refine PW_icmp_eq c_M_keep_9 (fun h1 => absurd h1 hc1) (fun h1 => ?_)
    refine PW_aload_n c_M_keep_12 rfl ?_
    refine PW_iload_n c_M_keep_13 rfl ?_
    refine PW_V0 (d2 := 1) (st := []) [.int a2] c_M_keep_14 lk_M_keep_397 (po_70 _ _) rfl rfl rfl (Nat.le_of_ble_eq_true rfl) (by first | decide | omega) (Nat.le_of_ble_eq_true rfl) ?_
    refine sp_M_isBody2 hB ?_
    show PW _ _ _ 17 [some (.ref 70), some (.int (nI j)), some (.int a2)] [.int (b2i (0 ≤ a2.toInt ∧ a2.toInt < (nB y : Int)))] (E x y)
    refine PW_if_ne c_M_keep_17 (fun h2 => absurd (b2i_n0.mp h2) hc2) (fun _ => ?_)
    refine PW_iconst (v := -1) c_M_keep_20 (by decide) ?_
    refine PW_ireturn (ty := .int) c_M_keep_21 rfl rfl ?_
    exact h
