set_option maxHeartbeats 4000000 in
theorem op_keep {t : Nat} {x y : XS} {a1 : Int32} {a2 : Int32} (hI : INV t x y) (ht : t < 512) : ∃ (r : Int32) (x' y' : XS), INV (t + 1) x' y' ∧ (∀ {z : ZS} {post : Option Value → List PE → Prop}, post (some (.int r)) (E x' y) → PW (90, 0, 0, z) m_G_keep post 0 [some (.ref 5), some (.int a1), some (.int a2), none] [] (E x y)) ∧ (∀ {z : ZS} {post : Option Value → List PE → Prop}, post (some (.int r)) (E x' y') → PW (90, 0, 0, z) m_M_keep post 0 [some (.ref 70), some (.int a1), some (.int a2)] [] (E x' y)) := by
  obtain ⟨hg, hc, ht0, hl, hd, hb, hs⟩ := id hI
  obtain ⟨hB, hbx, hbk⟩ := WB_of hb

  by_cases hc0 : ¬ (0 ≤ a1.toInt ∧ a1.toInt < 6)
  · refine ⟨-1, x, y, ?_, fun {z post} h => ?_, fun {z post} h => ?_⟩
    · exact INV_step hI
    · refine PW.deeper (k := (1, 0, 0, z)) (Nat.le_of_ble_eq_true rfl) (Nat.le_refl _) (Nat.le_refl _) ?_
      refine PW_aload_n c_G_keep_0 rfl ?_
      refine PW_iload_n c_G_keep_1 rfl ?_
      refine PW_V0 (d2 := 0) (st := []) [.int a1] c_G_keep_2 lk_G_keep_102 (po_5 _ _) rfl rfl rfl (Nat.le_of_ble_eq_true rfl) (by first | decide | omega) (Nat.le_of_ble_eq_true rfl) ?_
      refine sp_noshelf hc0 ?_
      show PW _ _ _ 5 [some (.ref 5), some (.int a1), some (.int a2), none] [.null] (E x y)
      refine PW_astore_nN (i := 3) (L2 := [some (.ref 5), some (.int a1), some (.int a2), some (.null)]) c_G_keep_5 rfl (Nat.le_of_ble_eq_true rfl) rfl rfl ?_
      refine PW_aload_nN c_G_keep_6 rfl ?_
      refine PW_ifnullN c_G_keep_7 ?_
      refine PW_iconst (v := -1) c_G_keep_26 (by decide) ?_
      refine PW_ireturn (ty := .int) c_G_keep_27 rfl rfl ?_
      exact h
    · refine PW.deeper (k := (2, 0, 0, z)) (Nat.le_of_ble_eq_true rfl) (Nat.le_refl _) (Nat.le_refl _) ?_
      refine PW_iload_n c_M_keep_0 rfl ?_
      refine PW_S0 (d2 := 1) (st := []) [.int a1] c_M_keep_1 lk_M_keep_143 rfl rfl rfl (Nat.le_of_ble_eq_true rfl) (by first | decide | omega) (Nat.le_of_ble_eq_true rfl) ?_
      refine sp_M_isShelf2  ?_
      show PW _ _ _ 4 [some (.ref 70), some (.int a1), some (.int a2)] [.int (b2i (0 ≤ a1.toInt ∧ a1.toInt < 6))] (E x y)
      refine PW_if_eq c_M_keep_4 (fun _ => ?_) (fun h0 => absurd (b2i_n0.mp h0) hc0)
      refine PW_iconst (v := -1) c_M_keep_20 (by decide) ?_
      refine PW_ireturn (ty := .int) c_M_keep_21 rfl rfl ?_
      exact h
  obtain ⟨j, hj, rfl⟩ : ∃ j : Nat, j < 6 ∧ a1 = nI j := by
    obtain ⟨q, q1, q2, q3, q4⟩ := nI_ex (x := a1) (by have := Decidable.not_not.mp hc0; omega)
    exact ⟨q, by have := Decidable.not_not.mp hc0; omega, q2⟩
  have hjs : 0 ≤ (nI j).toInt ∧ (nI j).toInt < 6 := by rw [nI_toInt (by omega)]; omega
  have hsj := hs j hj
  unfold CPs1 at hsj
  by_cases hc1 : a2 = -1
  · refine ⟨1, sI (sI x ((58 + 2 * j) * 8 + 1) 0) ((58 + 2 * j) * 8 + 4) 0, sA y 104 (upd (y.2.1 104) j a2), ?_, fun {z post} h => ?_, fun {z post} h => ?_⟩
    · refine ⟨hg.cg (fun n q1 q2 => by first | rfl | (simp only [sI_1, sI_A, sI_G, sA_1, sA_A, sA_G, sG_1, sG_A, sG_G]; repeat rw [if_neg (by omega)])) (fun n q1 q2 => by first | rfl | (simp only [sI_1, sI_A, sI_G, sA_1, sA_A, sA_G, sG_1, sG_A, sG_G]; repeat rw [if_neg (by omega)])) (by first | rfl | (simp only [sI_1, sI_A, sI_G, sA_1, sA_A, sA_G, sG_1, sG_A, sG_G]; repeat rw [if_neg (by omega)])) (fun n q1 q2 => by first | rfl | (simp only [sI_1, sI_A, sI_G, sA_1, sA_A, sA_G, sG_1, sG_A, sG_G]; repeat rw [if_neg (by omega)])), hc.cg (fun n q1 q2 => by first | rfl | (simp only [sI_1, sI_A, sI_G, sA_1, sA_A, sA_G, sG_1, sG_A, sG_G]; repeat rw [if_neg (by omega)])) (fun n q1 q2 => by first | rfl | (simp only [sI_1, sI_A, sI_G, sA_1, sA_A, sA_G, sG_1, sG_A, sG_G]; repeat rw [if_neg (by omega)])) (fun n q1 q2 => by first | rfl | (simp only [sI_1, sI_A, sI_G, sA_1, sA_A, sA_G, sG_1, sG_A, sG_G]; repeat rw [if_neg (by omega)])) (fun n q1 q2 => by first | rfl | (simp only [sI_1, sI_A, sI_G, sA_1, sA_A, sA_G, sG_1, sG_A, sG_G]; repeat rw [if_neg (by omega)])) (Nat.le_of_eq (nG_cg (by first | rfl | (simp only [sI_1, sI_A, sI_G, sA_1, sA_A, sA_G, sG_1, sG_A, sG_G]; repeat rw [if_neg (by omega)]))).symm), ht0.cg (by first | rfl | (simp only [sI_1, sI_A, sI_G, sA_1, sA_A, sA_G, sG_1, sG_A, sG_G]; repeat rw [if_neg (by omega)])) (by first | rfl | (simp only [sI_1, sI_A, sI_G, sA_1, sA_A, sA_G, sG_1, sG_A, sG_G]; repeat rw [if_neg (by omega)])) (by first | rfl | (simp only [sI_1, sI_A, sI_G, sA_1, sA_A, sA_G, sG_1, sG_A, sG_G]; repeat rw [if_neg (by omega)])) (by first | rfl | (simp only [sI_1, sI_A, sI_G, sA_1, sA_A, sA_G, sG_1, sG_A, sG_G]; repeat rw [if_neg (by omega)])), hl.cg (by first | rfl | (simp only [sI_1, sI_A, sI_G, sA_1, sA_A, sA_G, sG_1, sG_A, sG_G]; repeat rw [if_neg (by omega)])) (fun n q1 q2 => by first | rfl | (simp only [sI_1, sI_A, sI_G, sA_1, sA_A, sA_G, sG_1, sG_A, sG_G]; repeat rw [if_neg (by omega)])) (by first | rfl | (simp only [sI_1, sI_A, sI_G, sA_1, sA_A, sA_G, sG_1, sG_A, sG_G]; repeat rw [if_neg (by omega)])) (fun n q1 q2 => by first | rfl | (simp only [sI_1, sI_A, sI_G, sA_1, sA_A, sA_G, sG_1, sG_A, sG_G]; repeat rw [if_neg (by omega)])), hd.cg (Nat.le_succ _) (fun n q1 q2 => by first | rfl | (simp only [sI_1, sI_A, sI_G, sA_1, sA_A, sA_G, sG_1, sG_A, sG_G]; repeat rw [if_neg (by omega)])) (by first | rfl | (simp only [sI_1, sI_A, sI_G, sA_1, sA_A, sA_G, sG_1, sG_A, sG_G]; repeat rw [if_neg (by omega)])) (by first | rfl | (simp only [sI_1, sI_A, sI_G, sA_1, sA_A, sA_G, sG_1, sG_A, sG_G]; repeat rw [if_neg (by omega)])) (fun n q1 q2 => by first | rfl | (simp only [sI_1, sI_A, sI_G, sA_1, sA_A, sA_G, sG_1, sG_A, sG_G]; repeat rw [if_neg (by omega)])), hb.cg (fun n q1 q2 => by first | rfl | (simp only [sI_1, sI_A, sI_G, sA_1, sA_A, sA_G, sG_1, sG_A, sG_G]; repeat rw [if_neg (by omega)])) (fun n q1 q2 => by first | rfl | (simp only [sI_1, sI_A, sI_G, sA_1, sA_A, sA_G, sG_1, sG_A, sG_G]; repeat rw [if_neg (by omega)])) (fun n q1 q2 => by first | rfl | (simp only [sI_1, sI_A, sI_G, sA_1, sA_A, sA_G, sG_1, sG_A, sG_G]; repeat rw [if_neg (by omega)])) (fun n q1 q2 => by first | rfl | (simp only [sI_1, sI_A, sI_G, sA_1, sA_A, sA_G, sG_1, sG_A, sG_G]; repeat rw [if_neg (by omega)])), ?_⟩
      · intro i hi
        by_cases hij : i = j
        · subst hij
          unfold CPs1
          left
          refine ⟨?_, ?_⟩
          · show upd (y.2.1 104) i a2 i = -1
            rw [upd_s, hc1]
          · rw [sI_n (by omega), sI_s]
        · exact (hs i hi).cg (fun k q1 q2 => by first | rfl | (repeat rw [sI_n (by omega)])) rfl (by first | exact Int.le_refl _ | (simp only [sI_1, sI_A, sI_G, sA_1, sA_A, sA_G, sG_1, sG_A, sG_G]; repeat rw [if_neg (by omega)])) (by first | rfl | exact upd_n hij) (by first | rfl | exact upd_n hij) (fun _ _ => rfl)
    · refine PW.deeper (k := (1, 0, 0, z)) (Nat.le_of_ble_eq_true rfl) (Nat.le_refl _) (Nat.le_refl _) ?_
      refine PW_aload_n c_G_keep_0 rfl ?_
      refine PW_iload_n c_G_keep_1 rfl ?_
      refine PW_V0 (d2 := 0) (st := []) [.int (nI j)] c_G_keep_2 lk_G_keep_102 (po_5 _ _) rfl rfl rfl (Nat.le_of_ble_eq_true rfl) (by first | decide | omega) (Nat.le_of_ble_eq_true rfl) ?_
      refine sp_shelf hj ?_
      show PW _ _ _ 5 [some (.ref 5), some (.int (nI j)), some (.int a2), none] [.ref (58 + 2 * j)] (E x y)
      refine PW_astore_n (i := 3) (L2 := [some (.ref 5), some (.int (nI j)), some (.int a2), some (.ref (58 + 2 * j))]) c_G_keep_5 rfl (Nat.le_of_ble_eq_true rfl) rfl rfl ?_
      refine PW_aload_n c_G_keep_6 rfl ?_
      refine PW_ifnull c_G_keep_7 ?_
      refine PW_iload_n c_G_keep_10 rfl ?_
      refine PW_iconst (v := -1) c_G_keep_11 (by decide) ?_
      refine PW_icmp_eq c_G_keep_12 (fun h0 => ?_) (fun h0 => absurd hc1 h0)
      refine PW_iload_n c_G_keep_28 rfl ?_
      refine PW_iconst (v := -1) c_G_keep_29 (by decide) ?_
      refine PW_icmp_ne c_G_keep_30 (fun h1 => absurd h1 (not_not_intro hc1)) (fun h1 => ?_)
      refine PW_aload_n c_G_keep_33 rfl ?_
      refine PW_V0 (d2 := 0) (st := []) [] c_G_keep_34 lk_G_keep_315 (sh_po _ _ hj) rfl rfl rfl (Nat.le_of_ble_eq_true rfl) (by first | decide | omega) (Nat.le_of_ble_eq_true rfl) ?_
      show PW _ _ _ 0 [some (.ref (58 + 2 * j))] [] (E x y)
      refine PW_aload_n c_F_holdNothing_0 rfl ?_
      refine PW_iconst (v := 0) c_F_holdNothing_1 (by decide) ?_
      refine PW_put (w2 := E (sI x ((58 + 2 * j) * 8 + 1) 0) y) c_F_holdNothing_2 fp_F_holdNothing_15 rfl (sh_p1 _ _ hj _) ?_
      refine PW_aload_n c_F_holdNothing_5 rfl ?_
      refine PW_iconst (v := 0) c_F_holdNothing_6 (by decide) ?_
      refine PW_put (w2 := E (sI (sI x ((58 + 2 * j) * 8 + 1) 0) ((58 + 2 * j) * 8 + 4) 0) y) c_F_holdNothing_7 fp_F_holdNothing_25 rfl (sh_p4 _ _ hj _) ?_
      refine PW_vreturn c_F_holdNothing_10 rfl ?_
      show PW _ _ _ 37 [some (.ref 5), some (.int (nI j)), some (.int a2), some (.ref (58 + 2 * j))] [] (E (sI (sI x ((58 + 2 * j) * 8 + 1) 0) ((58 + 2 * j) * 8 + 4) 0) y)
      refine PW_goto c_G_keep_37 ?_
      refine PW_iconst (v := 1) c_G_keep_45 (by decide) ?_
      refine PW_ireturn (ty := .int) c_G_keep_46 rfl rfl ?_
      exact h
    · refine PW.deeper (k := (2, 0, 0, z)) (Nat.le_of_ble_eq_true rfl) (Nat.le_refl _) (Nat.le_refl _) ?_
      refine PW_iload_n c_M_keep_0 rfl ?_
      refine PW_S0 (d2 := 1) (st := []) [.int (nI j)] c_M_keep_1 lk_M_keep_143 rfl rfl rfl (Nat.le_of_ble_eq_true rfl) (by first | decide | omega) (Nat.le_of_ble_eq_true rfl) ?_
      refine sp_M_isShelf2  ?_
      show PW _ _ _ 4 [some (.ref 70), some (.int (nI j)), some (.int a2)] [.int (b2i (0 ≤ (nI j).toInt ∧ (nI j).toInt < 6))] (E (sI (sI x ((58 + 2 * j) * 8 + 1) 0) ((58 + 2 * j) * 8 + 4) 0) y)
      refine PW_if_eq c_M_keep_4 (fun h0 => absurd hjs (b2i_0.mp h0)) (fun _ => ?_)
      refine PW_iload_n c_M_keep_7 rfl ?_
      refine PW_iconst (v := -1) c_M_keep_8 (by decide) ?_
      refine PW_icmp_eq c_M_keep_9 (fun h1 => ?_) (fun h1 => absurd hc1 h1)
      refine PW_aload_n c_M_keep_22 rfl ?_
      refine PW_get (v := .ref 104) c_M_keep_23 fl_M_111 (gf_70_53 _ _) ?_
      refine PW_iload_n c_M_keep_26 rfl ?_
      refine PW_iload_n c_M_keep_27 rfl ?_
      refine PW_iast (j := j) (w2 := E (sI (sI x ((58 + 2 * j) * 8 + 1) 0) ((58 + 2 * j) * 8 + 4) 0) (sA y 104 (upd (y.2.1 104) j a2))) c_M_keep_28 (ar_104 _ _) (vp_in_nI hj (by decide)) (nI_clamp (by omega)) (aw_104 _ _ _) ?_
      refine PW_iconst (v := 1) c_M_keep_29 (by decide) ?_
      refine PW_ireturn (ty := .int) c_M_keep_30 rfl rfl ?_
      exact h
  by_cases hc2 : 0 ≤ a2.toInt ∧ a2.toInt < (nB y : Int)
  · refine ⟨1, sI (sI (sI x ((58 + 2 * j) * 8 + 1) 1) ((58 + 2 * j) * 8 + 2) a2) ((58 + 2 * j) * 8 + 4) 0, sA y 104 (upd (y.2.1 104) j a2), ?_, fun {z post} h => ?_, fun {z post} h => ?_⟩
    · refine ⟨hg.cg (fun n q1 q2 => by first | rfl | (simp only [sI_1, sI_A, sI_G, sA_1, sA_A, sA_G, sG_1, sG_A, sG_G]; repeat rw [if_neg (by omega)])) (fun n q1 q2 => by first | rfl | (simp only [sI_1, sI_A, sI_G, sA_1, sA_A, sA_G, sG_1, sG_A, sG_G]; repeat rw [if_neg (by omega)])) (by first | rfl | (simp only [sI_1, sI_A, sI_G, sA_1, sA_A, sA_G, sG_1, sG_A, sG_G]; repeat rw [if_neg (by omega)])) (fun n q1 q2 => by first | rfl | (simp only [sI_1, sI_A, sI_G, sA_1, sA_A, sA_G, sG_1, sG_A, sG_G]; repeat rw [if_neg (by omega)])), hc.cg (fun n q1 q2 => by first | rfl | (simp only [sI_1, sI_A, sI_G, sA_1, sA_A, sA_G, sG_1, sG_A, sG_G]; repeat rw [if_neg (by omega)])) (fun n q1 q2 => by first | rfl | (simp only [sI_1, sI_A, sI_G, sA_1, sA_A, sA_G, sG_1, sG_A, sG_G]; repeat rw [if_neg (by omega)])) (fun n q1 q2 => by first | rfl | (simp only [sI_1, sI_A, sI_G, sA_1, sA_A, sA_G, sG_1, sG_A, sG_G]; repeat rw [if_neg (by omega)])) (fun n q1 q2 => by first | rfl | (simp only [sI_1, sI_A, sI_G, sA_1, sA_A, sA_G, sG_1, sG_A, sG_G]; repeat rw [if_neg (by omega)])) (Nat.le_of_eq (nG_cg (by first | rfl | (simp only [sI_1, sI_A, sI_G, sA_1, sA_A, sA_G, sG_1, sG_A, sG_G]; repeat rw [if_neg (by omega)]))).symm), ht0.cg (by first | rfl | (simp only [sI_1, sI_A, sI_G, sA_1, sA_A, sA_G, sG_1, sG_A, sG_G]; repeat rw [if_neg (by omega)])) (by first | rfl | (simp only [sI_1, sI_A, sI_G, sA_1, sA_A, sA_G, sG_1, sG_A, sG_G]; repeat rw [if_neg (by omega)])) (by first | rfl | (simp only [sI_1, sI_A, sI_G, sA_1, sA_A, sA_G, sG_1, sG_A, sG_G]; repeat rw [if_neg (by omega)])) (by first | rfl | (simp only [sI_1, sI_A, sI_G, sA_1, sA_A, sA_G, sG_1, sG_A, sG_G]; repeat rw [if_neg (by omega)])), hl.cg (by first | rfl | (simp only [sI_1, sI_A, sI_G, sA_1, sA_A, sA_G, sG_1, sG_A, sG_G]; repeat rw [if_neg (by omega)])) (fun n q1 q2 => by first | rfl | (simp only [sI_1, sI_A, sI_G, sA_1, sA_A, sA_G, sG_1, sG_A, sG_G]; repeat rw [if_neg (by omega)])) (by first | rfl | (simp only [sI_1, sI_A, sI_G, sA_1, sA_A, sA_G, sG_1, sG_A, sG_G]; repeat rw [if_neg (by omega)])) (fun n q1 q2 => by first | rfl | (simp only [sI_1, sI_A, sI_G, sA_1, sA_A, sA_G, sG_1, sG_A, sG_G]; repeat rw [if_neg (by omega)])), hd.cg (Nat.le_succ _) (fun n q1 q2 => by first | rfl | (simp only [sI_1, sI_A, sI_G, sA_1, sA_A, sA_G, sG_1, sG_A, sG_G]; repeat rw [if_neg (by omega)])) (by first | rfl | (simp only [sI_1, sI_A, sI_G, sA_1, sA_A, sA_G, sG_1, sG_A, sG_G]; repeat rw [if_neg (by omega)])) (by first | rfl | (simp only [sI_1, sI_A, sI_G, sA_1, sA_A, sA_G, sG_1, sG_A, sG_G]; repeat rw [if_neg (by omega)])) (fun n q1 q2 => by first | rfl | (simp only [sI_1, sI_A, sI_G, sA_1, sA_A, sA_G, sG_1, sG_A, sG_G]; repeat rw [if_neg (by omega)])), hb.cg (fun n q1 q2 => by first | rfl | (simp only [sI_1, sI_A, sI_G, sA_1, sA_A, sA_G, sG_1, sG_A, sG_G]; repeat rw [if_neg (by omega)])) (fun n q1 q2 => by first | rfl | (simp only [sI_1, sI_A, sI_G, sA_1, sA_A, sA_G, sG_1, sG_A, sG_G]; repeat rw [if_neg (by omega)])) (fun n q1 q2 => by first | rfl | (simp only [sI_1, sI_A, sI_G, sA_1, sA_A, sA_G, sG_1, sG_A, sG_G]; repeat rw [if_neg (by omega)])) (fun n q1 q2 => by first | rfl | (simp only [sI_1, sI_A, sI_G, sA_1, sA_A, sA_G, sG_1, sG_A, sG_G]; repeat rw [if_neg (by omega)])), ?_⟩
      · intro i hi
        by_cases hij : i = j
        · subst hij
          unfold CPs1
          right; left
          refine ⟨?_, ?_, ?_, ?_⟩
          · show 0 ≤ (upd (y.2.1 104) i a2 i).toInt
            rw [upd_s]; exact hc2.1
          · show (upd (y.2.1 104) i a2 i).toInt < (y.1 609).toInt
            rw [upd_s, hB.1, nI_toInt (by have := hB.2; omega)]; exact hc2.2
          · rw [sI_n (by omega), sI_n (by omega), sI_s]
          · show _ = upd (y.2.1 104) i a2 i
            rw [sI_n (by omega), sI_s, upd_s]
        · exact (hs i hi).cg (fun k q1 q2 => by first | rfl | (repeat rw [sI_n (by omega)])) rfl (by first | exact Int.le_refl _ | (simp only [sI_1, sI_A, sI_G, sA_1, sA_A, sA_G, sG_1, sG_A, sG_G]; repeat rw [if_neg (by omega)])) (by first | rfl | exact upd_n hij) (by first | rfl | exact upd_n hij) (fun _ _ => rfl)
    · refine PW.deeper (k := (1, 0, 0, z)) (Nat.le_of_ble_eq_true rfl) (Nat.le_refl _) (Nat.le_refl _) ?_
      refine PW_aload_n c_G_keep_0 rfl ?_
      refine PW_iload_n c_G_keep_1 rfl ?_
      refine PW_V0 (d2 := 0) (st := []) [.int (nI j)] c_G_keep_2 lk_G_keep_102 (po_5 _ _) rfl rfl rfl (Nat.le_of_ble_eq_true rfl) (by first | decide | omega) (Nat.le_of_ble_eq_true rfl) ?_
      refine sp_shelf hj ?_
      show PW _ _ _ 5 [some (.ref 5), some (.int (nI j)), some (.int a2), none] [.ref (58 + 2 * j)] (E x y)
      refine PW_astore_n (i := 3) (L2 := [some (.ref 5), some (.int (nI j)), some (.int a2), some (.ref (58 + 2 * j))]) c_G_keep_5 rfl (Nat.le_of_ble_eq_true rfl) rfl rfl ?_
      refine PW_aload_n c_G_keep_6 rfl ?_
      refine PW_ifnull c_G_keep_7 ?_
      refine PW_iload_n c_G_keep_10 rfl ?_
      refine PW_iconst (v := -1) c_G_keep_11 (by decide) ?_
      refine PW_icmp_eq c_G_keep_12 (fun h0 => absurd h0 hc1) (fun h0 => ?_)
      refine PW_aload_n c_G_keep_15 rfl ?_
      refine PW_get (v := .ref 54) c_G_keep_16 fl_G_79 (gf_5_9 _ _) ?_
      refine PW_iload_n c_G_keep_19 rfl ?_
      refine PW_V0 (d2 := 0) (st := []) [.int a2] c_G_keep_20 lk_G_keep_312 (po_54 _ _) rfl rfl rfl (Nat.le_of_ble_eq_true rfl) (by first | decide | omega) (Nat.le_of_ble_eq_true rfl) ?_
      refine sp_B_isBody hB hbx ?_
      show PW _ _ _ 23 [some (.ref 5), some (.int (nI j)), some (.int a2), some (.ref (58 + 2 * j))] [.int (b2i (0 ≤ a2.toInt ∧ a2.toInt < (nB y : Int)))] (E x y)
      refine PW_if_ne c_G_keep_23 (fun _ => ?_) (fun h1 => absurd hc2 (b2i_0.mp h1))
      refine PW_iload_n c_G_keep_28 rfl ?_
      refine PW_iconst (v := -1) c_G_keep_29 (by decide) ?_
      refine PW_icmp_ne c_G_keep_30 (fun h2 => ?_) (fun h2 => absurd h2 hc1)
      refine PW_aload_n c_G_keep_40 rfl ?_
      refine PW_iload_n c_G_keep_41 rfl ?_
      refine PW_V0 (d2 := 0) (st := []) [.int a2] c_G_keep_42 lk_G_keep_318 (sh_po _ _ hj) rfl rfl rfl (Nat.le_of_ble_eq_true rfl) (by first | decide | omega) (Nat.le_of_ble_eq_true rfl) ?_
      show PW _ _ _ 0 [some (.ref (58 + 2 * j)), some (.int a2)] [] (E x y)
      refine PW_aload_n c_F_holdBody_0 rfl ?_
      refine PW_iconst (v := 1) c_F_holdBody_1 (by decide) ?_
      refine PW_put (w2 := E (sI x ((58 + 2 * j) * 8 + 1) 1) y) c_F_holdBody_2 fp_F_holdBody_15 rfl (sh_p1 _ _ hj _) ?_
      refine PW_aload_n c_F_holdBody_5 rfl ?_
      refine PW_iload_n c_F_holdBody_6 rfl ?_
      refine PW_put (w2 := E (sI (sI x ((58 + 2 * j) * 8 + 1) 1) ((58 + 2 * j) * 8 + 2) a2) y) c_F_holdBody_7 fp_F_holdBody_22 rfl (sh_p2 _ _ hj _) ?_
      refine PW_aload_n c_F_holdBody_10 rfl ?_
      refine PW_iconst (v := 0) c_F_holdBody_11 (by decide) ?_
      refine PW_put (w2 := E (sI (sI (sI x ((58 + 2 * j) * 8 + 1) 1) ((58 + 2 * j) * 8 + 2) a2) ((58 + 2 * j) * 8 + 4) 0) y) c_F_holdBody_12 fp_F_holdBody_25 rfl (sh_p4 _ _ hj _) ?_
      refine PW_vreturn c_F_holdBody_15 rfl ?_
      show PW _ _ _ 45 [some (.ref 5), some (.int (nI j)), some (.int a2), some (.ref (58 + 2 * j))] [] (E (sI (sI (sI x ((58 + 2 * j) * 8 + 1) 1) ((58 + 2 * j) * 8 + 2) a2) ((58 + 2 * j) * 8 + 4) 0) y)
      refine PW_iconst (v := 1) c_G_keep_45 (by decide) ?_
      refine PW_ireturn (ty := .int) c_G_keep_46 rfl rfl ?_
      exact h
    · refine PW.deeper (k := (2, 0, 0, z)) (Nat.le_of_ble_eq_true rfl) (Nat.le_refl _) (Nat.le_refl _) ?_
      refine PW_iload_n c_M_keep_0 rfl ?_
      refine PW_S0 (d2 := 1) (st := []) [.int (nI j)] c_M_keep_1 lk_M_keep_143 rfl rfl rfl (Nat.le_of_ble_eq_true rfl) (by first | decide | omega) (Nat.le_of_ble_eq_true rfl) ?_
      refine sp_M_isShelf2  ?_
      show PW _ _ _ 4 [some (.ref 70), some (.int (nI j)), some (.int a2)] [.int (b2i (0 ≤ (nI j).toInt ∧ (nI j).toInt < 6))] (E (sI (sI (sI x ((58 + 2 * j) * 8 + 1) 1) ((58 + 2 * j) * 8 + 2) a2) ((58 + 2 * j) * 8 + 4) 0) y)
      refine PW_if_eq c_M_keep_4 (fun h0 => absurd hjs (b2i_0.mp h0)) (fun _ => ?_)
      refine PW_iload_n c_M_keep_7 rfl ?_
      refine PW_iconst (v := -1) c_M_keep_8 (by decide) ?_
      refine PW_icmp_eq c_M_keep_9 (fun h1 => absurd h1 hc1) (fun h1 => ?_)
      refine PW_aload_n c_M_keep_12 rfl ?_
      refine PW_iload_n c_M_keep_13 rfl ?_
      refine PW_V0 (d2 := 1) (st := []) [.int a2] c_M_keep_14 lk_M_keep_397 (po_70 _ _) rfl rfl rfl (Nat.le_of_ble_eq_true rfl) (by first | decide | omega) (Nat.le_of_ble_eq_true rfl) ?_
      refine sp_M_isBody2 hB ?_
      show PW _ _ _ 17 [some (.ref 70), some (.int (nI j)), some (.int a2)] [.int (b2i (0 ≤ a2.toInt ∧ a2.toInt < (nB y : Int)))] (E (sI (sI (sI x ((58 + 2 * j) * 8 + 1) 1) ((58 + 2 * j) * 8 + 2) a2) ((58 + 2 * j) * 8 + 4) 0) y)
      refine PW_if_ne c_M_keep_17 (fun _ => ?_) (fun h2 => absurd hc2 (b2i_0.mp h2))
      refine PW_aload_n c_M_keep_22 rfl ?_
      refine PW_get (v := .ref 104) c_M_keep_23 fl_M_111 (gf_70_53 _ _) ?_
      refine PW_iload_n c_M_keep_26 rfl ?_
      refine PW_iload_n c_M_keep_27 rfl ?_
      refine PW_iast (j := j) (w2 := E (sI (sI (sI x ((58 + 2 * j) * 8 + 1) 1) ((58 + 2 * j) * 8 + 2) a2) ((58 + 2 * j) * 8 + 4) 0) (sA y 104 (upd (y.2.1 104) j a2))) c_M_keep_28 (ar_104 _ _) (vp_in_nI hj (by decide)) (nI_clamp (by omega)) (aw_104 _ _ _) ?_
      refine PW_iconst (v := 1) c_M_keep_29 (by decide) ?_
      refine PW_ireturn (ty := .int) c_M_keep_30 rfl rfl ?_
      exact h
  refine ⟨-1, x, y, ?_, fun {z post} h => ?_, fun {z post} h => ?_⟩
  · exact INV_step hI
  · refine PW.deeper (k := (1, 0, 0, z)) (Nat.le_of_ble_eq_true rfl) (Nat.le_refl _) (Nat.le_refl _) ?_
    refine PW_aload_n c_G_keep_0 rfl ?_
    refine PW_iload_n c_G_keep_1 rfl ?_
    refine PW_V0 (d2 := 0) (st := []) [.int (nI j)] c_G_keep_2 lk_G_keep_102 (po_5 _ _) rfl rfl rfl (Nat.le_of_ble_eq_true rfl) (by first | decide | omega) (Nat.le_of_ble_eq_true rfl) ?_
    refine sp_shelf hj ?_
    show PW _ _ _ 5 [some (.ref 5), some (.int (nI j)), some (.int a2), none] [.ref (58 + 2 * j)] (E x y)
    refine PW_astore_n (i := 3) (L2 := [some (.ref 5), some (.int (nI j)), some (.int a2), some (.ref (58 + 2 * j))]) c_G_keep_5 rfl (Nat.le_of_ble_eq_true rfl) rfl rfl ?_
    refine PW_aload_n c_G_keep_6 rfl ?_
    refine PW_ifnull c_G_keep_7 ?_
    refine PW_iload_n c_G_keep_10 rfl ?_
    refine PW_iconst (v := -1) c_G_keep_11 (by decide) ?_
    refine PW_icmp_eq c_G_keep_12 (fun h0 => absurd h0 hc1) (fun h0 => ?_)
    refine PW_aload_n c_G_keep_15 rfl ?_
    refine PW_get (v := .ref 54) c_G_keep_16 fl_G_79 (gf_5_9 _ _) ?_
    refine PW_iload_n c_G_keep_19 rfl ?_
    refine PW_V0 (d2 := 0) (st := []) [.int a2] c_G_keep_20 lk_G_keep_312 (po_54 _ _) rfl rfl rfl (Nat.le_of_ble_eq_true rfl) (by first | decide | omega) (Nat.le_of_ble_eq_true rfl) ?_
    refine sp_B_isBody hB hbx ?_
    show PW _ _ _ 23 [some (.ref 5), some (.int (nI j)), some (.int a2), some (.ref (58 + 2 * j))] [.int (b2i (0 ≤ a2.toInt ∧ a2.toInt < (nB y : Int)))] (E x y)
    refine PW_if_ne c_G_keep_23 (fun h1 => absurd (b2i_n0.mp h1) hc2) (fun _ => ?_)
    refine PW_iconst (v := -1) c_G_keep_26 (by decide) ?_
    refine PW_ireturn (ty := .int) c_G_keep_27 rfl rfl ?_
    exact h
  · refine PW.deeper (k := (2, 0, 0, z)) (Nat.le_of_ble_eq_true rfl) (Nat.le_refl _) (Nat.le_refl _) ?_
    refine PW_iload_n c_M_keep_0 rfl ?_
    refine PW_S0 (d2 := 1) (st := []) [.int (nI j)] c_M_keep_1 lk_M_keep_143 rfl rfl rfl (Nat.le_of_ble_eq_true rfl) (by first | decide | omega) (Nat.le_of_ble_eq_true rfl) ?_
    refine sp_M_isShelf2  ?_
    show PW _ _ _ 4 [some (.ref 70), some (.int (nI j)), some (.int a2)] [.int (b2i (0 ≤ (nI j).toInt ∧ (nI j).toInt < 6))] (E x y)
    refine PW_if_eq c_M_keep_4 (fun h0 => absurd hjs (b2i_0.mp h0)) (fun _ => ?_)
    refine PW_iload_n c_M_keep_7 rfl ?_
    refine PW_iconst (v := -1) c_M_keep_8 (by decide) ?_
    refine PW_icmp_eq c_M_keep_9 (fun h1 => absurd h1 hc1) (fun h1 => ?_)
    refine PW_aload_n c_M_keep_12 rfl ?_
    refine PW_iload_n c_M_keep_13 rfl ?_
    refine PW_V0 (d2 := 1) (st := []) [.int a2] c_M_keep_14 lk_M_keep_397 (po_70 _ _) rfl rfl rfl (Nat.le_of_ble_eq_true rfl) (by first | decide | omega) (Nat.le_of_ble_eq_true rfl) ?_
    refine sp_M_isBody2 hB ?_
    show PW _ _ _ 17 [some (.ref 70), some (.int (nI j)), some (.int a2)] [.int (b2i (0 ≤ a2.toInt ∧ a2.toInt < (nB y : Int)))] (E x y)
    refine PW_if_ne c_M_keep_17 (fun h2 => absurd (b2i_n0.mp h2) hc2) (fun _ => ?_)
    refine PW_iconst (v := -1) c_M_keep_20 (by decide) ?_
    refine PW_ireturn (ty := .int) c_M_keep_21 rfl rfl ?_
    exact h
theorem ho_n1 {s : Nat} (h : s < 5) : ¬ (-2 - nI s = -1) := by
  rcases (show s = 0 ∨ s = 1 ∨ s = 2 ∨ s = 3 ∨ s = 4 by omega) with rfl | rfl | rfl | rfl | rfl <;> decide
theorem ho_lt {s : Nat} (h : s < 5) : -2 - nI s < 0 := by
  rcases (show s = 0 ∨ s = 1 ∨ s = 2 ∨ s = 3 ∨ s = 4 by omega) with rfl | rfl | rfl | rfl | rfl <;> decide
theorem ho_b {v : Int32} (h : 0 ≤ v.toInt) : ¬ v = -1 := fun e => by rw [e] at h; exact absurd h (by decide)
theorem ho_b0 {v : Int32} (h : 0 ≤ v.toInt) : ¬ v < 0 := by rw [Int32.lt_iff_toInt_lt, tiA.1]; omega
set_option maxHeartbeats 4000000 in
theorem op_element {t : Nat} {x y : XS} {a1 : Int32} {a2 : Int32} (hI : INV t x y) (ht : t < 512) : ∃ (r : Int64) (x' y' : XS), INV (t + 1) x' y' ∧ (∀ {z : ZS} {post : Option Value → List PE → Prop}, post (some (.long r)) (E x' y) → PW (90, 0, 0, z) m_G_element post 0 [some (.ref 5), some (.int a1), some (.int a2), none] [] (E x y)) ∧ (∀ {z : ZS} {post : Option Value → List PE → Prop}, post (some (.long r)) (E x' y') → PW (90, 0, 0, z) m_M_element post 0 [some (.ref 70), some (.int a1), some (.int a2)] [] (E x' y)) := by
  obtain ⟨hg, hc, ht0, hl, hd, hb, hs⟩ := id hI
  obtain ⟨hB, hbx, hbk⟩ := WB_of hb

  by_cases hc0 : ¬ (0 ≤ a1.toInt ∧ a1.toInt < 6)
  · refine ⟨-9223372036854775808, x, y, ?_, fun {z post} h => ?_, fun {z post} h => ?_⟩
    · exact INV_step hI
    · refine PW.deeper (k := (2, 0, 0, z)) (Nat.le_of_ble_eq_true rfl) (Nat.le_refl _) (Nat.le_refl _) ?_
      refine PW_aload_n c_G_element_0 rfl ?_
      refine PW_iload_n c_G_element_1 rfl ?_
      refine PW_V0 (d2 := 0) (st := []) [.int a1] c_G_element_2 lk_G_element_102 (po_5 _ _) rfl rfl rfl (Nat.le_of_ble_eq_true rfl) (by first | decide | omega) (Nat.le_of_ble_eq_true rfl) ?_
      refine sp_noshelf hc0 ?_
      show PW _ _ _ 5 [some (.ref 5), some (.int a1), some (.int a2), none] [.null] (E x y)
      refine PW_astore_nN (i := 3) (L2 := [some (.ref 5), some (.int a1), some (.int a2), some (.null)]) c_G_element_5 rfl (Nat.le_of_ble_eq_true rfl) rfl rfl ?_
      refine PW_aload_nN c_G_element_6 rfl ?_
      refine PW_ifnullN c_G_element_7 ?_
      refine PW_ldc2 c_G_element_18 kk_G_334 ?_
      refine PW_lreturn c_G_element_21 rfl ?_
      exact h
    · refine PW.deeper (k := (3, 0, 0, z)) (Nat.le_of_ble_eq_true rfl) (Nat.le_refl _) (Nat.le_refl _) ?_
      refine PW_aload_n c_M_element_0 rfl ?_
      refine PW_iload_n c_M_element_1 rfl ?_
      refine PW_iload_n c_M_element_2 rfl ?_
      refine PW_V0 (d2 := 2) (st := []) [.int a1, .int a2] c_M_element_3 lk_M_element_403 (po_70 _ _) rfl rfl rfl (Nat.le_of_ble_eq_true rfl) (by first | decide | omega) (Nat.le_of_ble_eq_true rfl) ?_
      show PW _ _ _ 0 [some (.ref 70), some (.int a1), some (.int a2)] [] (E x y)
      refine PW_iload_n c_M_whyNoPlace_0 rfl ?_
      refine PW_S0 (d2 := 1) (st := []) [.int a1] c_M_whyNoPlace_1 lk_M_whyNoPlace_143 rfl rfl rfl (Nat.le_of_ble_eq_true rfl) (by first | decide | omega) (Nat.le_of_ble_eq_true rfl) ?_
      refine sp_M_isShelf2  ?_
      show PW _ _ _ 4 [some (.ref 70), some (.int a1), some (.int a2)] [.int (b2i (0 ≤ a1.toInt ∧ a1.toInt < 6))] (E x y)
      refine PW_if_ne c_M_whyNoPlace_4 (fun h0 => absurd (b2i_n0.mp h0) hc0) (fun _ => ?_)
      refine PW_iconst (v := -1) c_M_whyNoPlace_7 (by decide) ?_
      refine PW_ireturn (ty := .int) c_M_whyNoPlace_8 rfl rfl ?_
      show PW _ _ _ 6 [some (.ref 70), some (.int a1), some (.int a2)] [.int (-1)] (E x y)
      refine PW_if_ge c_M_element_6 (fun h1 => absurd h1 (by decide)) (fun _ => ?_)
      refine PW_ldc2 c_M_element_9 kk_M_408 ?_
      refine PW_goto c_M_element_12 ?_
      refine PW_lreturn c_M_element_26 rfl ?_
      exact h
  obtain ⟨j, hj, rfl⟩ : ∃ j : Nat, j < 6 ∧ a1 = nI j := by
    obtain ⟨q, q1, q2, q3, q4⟩ := nI_ex (x := a1) (by have := Decidable.not_not.mp hc0; omega)
    exact ⟨q, by have := Decidable.not_not.mp hc0; omega, q2⟩
  have hjs : 0 ≤ (nI j).toInt ∧ (nI j).toInt < 6 := by rw [nI_toInt (by omega)]; omega
  have hsj := hs j hj
  unfold CPs1 at hsj
  rcases hsj with ⟨e1, e2⟩ | ⟨e1, e2, e3, e4⟩ | ⟨s, n, e1, e2, e3, e4, e5, e6, e7, e8⟩
  · refine ⟨-9223372036854775808, x, y, ?_, fun {z post} h => ?_, fun {z post} h => ?_⟩
    · exact INV_step hI
    · refine PW.deeper (k := (2, 0, 0, z)) (Nat.le_of_ble_eq_true rfl) (Nat.le_refl _) (Nat.le_refl _) ?_
      refine PW_aload_n c_G_element_0 rfl ?_
      refine PW_iload_n c_G_element_1 rfl ?_
      refine PW_V0 (d2 := 0) (st := []) [.int (nI j)] c_G_element_2 lk_G_element_102 (po_5 _ _) rfl rfl rfl (Nat.le_of_ble_eq_true rfl) (by first | decide | omega) (Nat.le_of_ble_eq_true rfl) ?_
      refine sp_shelf hj ?_
      show PW _ _ _ 5 [some (.ref 5), some (.int (nI j)), some (.int a2), none] [.ref (58 + 2 * j)] (E x y)
      refine PW_astore_n (i := 3) (L2 := [some (.ref 5), some (.int (nI j)), some (.int a2), some (.ref (58 + 2 * j))]) c_G_element_5 rfl (Nat.le_of_ble_eq_true rfl) rfl rfl ?_
      refine PW_aload_n c_G_element_6 rfl ?_
      refine PW_ifnull c_G_element_7 ?_
      refine PW_aload_n c_G_element_10 rfl ?_
      refine PW_iload_n c_G_element_11 rfl ?_
      refine PW_V0 (d2 := 1) (st := []) [.int a2] c_G_element_12 lk_G_element_327 (sh_po _ _ hj) rfl rfl rfl (Nat.le_of_ble_eq_true rfl) (by first | decide | omega) (Nat.le_of_ble_eq_true rfl) ?_
      show PW _ _ _ 0 [some (.ref (58 + 2 * j)), some (.int a2)] [] (E x y)
      refine PW_aload_n c_F_elementRefusal_0 rfl ?_
      refine PW_V0 (d2 := 0) (st := []) [] c_F_elementRefusal_1 lk_F_elementRefusal_37 (sh_po _ _ hj) rfl rfl rfl (Nat.le_of_ble_eq_true rfl) (by first | decide | omega) (Nat.le_of_ble_eq_true rfl) ?_
      refine sp_F_isEmpty hj  ?_
      show PW _ _ _ 4 [some (.ref (58 + 2 * j)), some (.int a2)] [.int (b2i (x.1 ((58 + 2 * j) * 8 + 1) = 0))] (E x y)
      refine PW_if_eq c_F_elementRefusal_4 (fun h0 => absurd e2 (b2i_0.mp h0)) (fun _ => ?_)
      refine PW_bipush (v := -11) c_F_elementRefusal_7 (by decide) ?_
      refine PW_ireturn (ty := .int) c_F_elementRefusal_9 rfl rfl ?_
      show PW _ _ _ 15 [some (.ref 5), some (.int (nI j)), some (.int a2), some (.ref (58 + 2 * j))] [.int (-11)] (E x y)
      refine PW_if_eq c_G_element_15 (fun h1 => absurd h1 (by decide)) (fun _ => ?_)
      refine PW_ldc2 c_G_element_18 kk_G_334 ?_
      refine PW_lreturn c_G_element_21 rfl ?_
      exact h
    · refine PW.deeper (k := (3, 0, 0, z)) (Nat.le_of_ble_eq_true rfl) (Nat.le_refl _) (Nat.le_refl _) ?_
      refine PW_aload_n c_M_element_0 rfl ?_
      refine PW_iload_n c_M_element_1 rfl ?_
      refine PW_iload_n c_M_element_2 rfl ?_
      refine PW_V0 (d2 := 2) (st := []) [.int (nI j), .int a2] c_M_element_3 lk_M_element_403 (po_70 _ _) rfl rfl rfl (Nat.le_of_ble_eq_true rfl) (by first | decide | omega) (Nat.le_of_ble_eq_true rfl) ?_
      show PW _ _ _ 0 [some (.ref 70), some (.int (nI j)), some (.int a2)] [] (E x y)
      refine PW_iload_n c_M_whyNoPlace_0 rfl ?_
      refine PW_S0 (d2 := 1) (st := []) [.int (nI j)] c_M_whyNoPlace_1 lk_M_whyNoPlace_143 rfl rfl rfl (Nat.le_of_ble_eq_true rfl) (by first | decide | omega) (Nat.le_of_ble_eq_true rfl) ?_
      refine sp_M_isShelf2  ?_
      show PW _ _ _ 4 [some (.ref 70), some (.int (nI j)), some (.int a2)] [.int (b2i (0 ≤ (nI j).toInt ∧ (nI j).toInt < 6))] (E x y)
      refine PW_if_ne c_M_whyNoPlace_4 (fun _ => ?_) (fun h0 => absurd hjs (b2i_0.mp h0))
      refine PW_aload_n c_M_whyNoPlace_9 rfl ?_
      refine PW_get (v := .ref 104) c_M_whyNoPlace_10 fl_M_111 (gf_70_53 _ _) ?_
      refine PW_iload_n c_M_whyNoPlace_13 rfl ?_
      refine PW_iald (j := j) c_M_whyNoPlace_14 (ar_104 _ _) (vp_in_nI hj (by decide)) (nI_clamp (by omega)) ?_
      show PW _ _ _ 15 [some (.ref 70), some (.int (nI j)), some (.int a2)] [.int ((y.2.1 104) j)] (E x y)
      refine PW_iconst (v := -1) c_M_whyNoPlace_15 (by decide) ?_
      refine PW_icmp_ne c_M_whyNoPlace_16 (fun h1 => absurd h1 (not_not_intro e1)) (fun h1 => ?_)
      refine PW_bipush (v := -11) c_M_whyNoPlace_19 (by decide) ?_
      refine PW_ireturn (ty := .int) c_M_whyNoPlace_21 rfl rfl ?_
      show PW _ _ _ 6 [some (.ref 70), some (.int (nI j)), some (.int a2)] [.int (-11)] (E x y)
      refine PW_if_ge c_M_element_6 (fun h2 => absurd h2 (by decide)) (fun _ => ?_)
      refine PW_ldc2 c_M_element_9 kk_M_408 ?_
      refine PW_goto c_M_element_12 ?_
      refine PW_lreturn c_M_element_26 rfl ?_
      exact h
  · refine ⟨-9223372036854775808, x, y, ?_, fun {z post} h => ?_, fun {z post} h => ?_⟩
    · exact INV_step hI
    · refine PW.deeper (k := (2, 0, 0, z)) (Nat.le_of_ble_eq_true rfl) (Nat.le_refl _) (Nat.le_refl _) ?_
      refine PW_aload_n c_G_element_0 rfl ?_
      refine PW_iload_n c_G_element_1 rfl ?_
      refine PW_V0 (d2 := 0) (st := []) [.int (nI j)] c_G_element_2 lk_G_element_102 (po_5 _ _) rfl rfl rfl (Nat.le_of_ble_eq_true rfl) (by first | decide | omega) (Nat.le_of_ble_eq_true rfl) ?_
      refine sp_shelf hj ?_
      show PW _ _ _ 5 [some (.ref 5), some (.int (nI j)), some (.int a2), none] [.ref (58 + 2 * j)] (E x y)
      refine PW_astore_n (i := 3) (L2 := [some (.ref 5), some (.int (nI j)), some (.int a2), some (.ref (58 + 2 * j))]) c_G_element_5 rfl (Nat.le_of_ble_eq_true rfl) rfl rfl ?_
      refine PW_aload_n c_G_element_6 rfl ?_
      refine PW_ifnull c_G_element_7 ?_
      refine PW_aload_n c_G_element_10 rfl ?_
      refine PW_iload_n c_G_element_11 rfl ?_
      refine PW_V0 (d2 := 1) (st := []) [.int a2] c_G_element_12 lk_G_element_327 (sh_po _ _ hj) rfl rfl rfl (Nat.le_of_ble_eq_true rfl) (by first | decide | omega) (Nat.le_of_ble_eq_true rfl) ?_
      show PW _ _ _ 0 [some (.ref (58 + 2 * j)), some (.int a2)] [] (E x y)
      refine PW_aload_n c_F_elementRefusal_0 rfl ?_
      refine PW_V0 (d2 := 0) (st := []) [] c_F_elementRefusal_1 lk_F_elementRefusal_37 (sh_po _ _ hj) rfl rfl rfl (Nat.le_of_ble_eq_true rfl) (by first | decide | omega) (Nat.le_of_ble_eq_true rfl) ?_
      refine sp_F_isEmpty hj  ?_
      show PW _ _ _ 4 [some (.ref (58 + 2 * j)), some (.int a2)] [.int (b2i (x.1 ((58 + 2 * j) * 8 + 1) = 0))] (E x y)
      refine PW_if_eq c_F_elementRefusal_4 (fun _ => ?_) (fun h0 => absurd (b2i_n0.mp h0) (by rw [e3]; decide))
      refine PW_aload_n c_F_elementRefusal_10 rfl ?_
      refine PW_V0 (d2 := 0) (st := []) [] c_F_elementRefusal_11 lk_F_elementRefusal_44 (sh_po _ _ hj) rfl rfl rfl (Nat.le_of_ble_eq_true rfl) (by first | decide | omega) (Nat.le_of_ble_eq_true rfl) ?_
      refine sp_F_holdsRow hj  ?_
      show PW _ _ _ 14 [some (.ref (58 + 2 * j)), some (.int a2)] [.int (b2i (x.1 ((58 + 2 * j) * 8 + 1) = 2))] (E x y)
      refine PW_if_ne c_F_elementRefusal_14 (fun h1 => absurd (b2i_n0.mp h1) (by rw [e3]; decide)) (fun _ => ?_)
      refine PW_bipush (v := -12) c_F_elementRefusal_17 (by decide) ?_
      refine PW_ireturn (ty := .int) c_F_elementRefusal_19 rfl rfl ?_
      show PW _ _ _ 15 [some (.ref 5), some (.int (nI j)), some (.int a2), some (.ref (58 + 2 * j))] [.int (-12)] (E x y)
      refine PW_if_eq c_G_element_15 (fun h2 => absurd h2 (by decide)) (fun _ => ?_)
      refine PW_ldc2 c_G_element_18 kk_G_334 ?_
      refine PW_lreturn c_G_element_21 rfl ?_
      exact h
    · refine PW.deeper (k := (3, 0, 0, z)) (Nat.le_of_ble_eq_true rfl) (Nat.le_refl _) (Nat.le_refl _) ?_
      refine PW_aload_n c_M_element_0 rfl ?_
      refine PW_iload_n c_M_element_1 rfl ?_
      refine PW_iload_n c_M_element_2 rfl ?_
      refine PW_V0 (d2 := 2) (st := []) [.int (nI j), .int a2] c_M_element_3 lk_M_element_403 (po_70 _ _) rfl rfl rfl (Nat.le_of_ble_eq_true rfl) (by first | decide | omega) (Nat.le_of_ble_eq_true rfl) ?_
      show PW _ _ _ 0 [some (.ref 70), some (.int (nI j)), some (.int a2)] [] (E x y)
      refine PW_iload_n c_M_whyNoPlace_0 rfl ?_
      refine PW_S0 (d2 := 1) (st := []) [.int (nI j)] c_M_whyNoPlace_1 lk_M_whyNoPlace_143 rfl rfl rfl (Nat.le_of_ble_eq_true rfl) (by first | decide | omega) (Nat.le_of_ble_eq_true rfl) ?_
      refine sp_M_isShelf2  ?_
      show PW _ _ _ 4 [some (.ref 70), some (.int (nI j)), some (.int a2)] [.int (b2i (0 ≤ (nI j).toInt ∧ (nI j).toInt < 6))] (E x y)
      refine PW_if_ne c_M_whyNoPlace_4 (fun _ => ?_) (fun h0 => absurd hjs (b2i_0.mp h0))
      refine PW_aload_n c_M_whyNoPlace_9 rfl ?_
      refine PW_get (v := .ref 104) c_M_whyNoPlace_10 fl_M_111 (gf_70_53 _ _) ?_
      refine PW_iload_n c_M_whyNoPlace_13 rfl ?_
      refine PW_iald (j := j) c_M_whyNoPlace_14 (ar_104 _ _) (vp_in_nI hj (by decide)) (nI_clamp (by omega)) ?_
      show PW _ _ _ 15 [some (.ref 70), some (.int (nI j)), some (.int a2)] [.int ((y.2.1 104) j)] (E x y)
      refine PW_iconst (v := -1) c_M_whyNoPlace_15 (by decide) ?_
      refine PW_icmp_ne c_M_whyNoPlace_16 (fun h1 => ?_) (fun h1 => absurd h1 (ho_b e1))
      refine PW_aload_n c_M_whyNoPlace_22 rfl ?_
      refine PW_get (v := .ref 104) c_M_whyNoPlace_23 fl_M_111 (gf_70_53 _ _) ?_
      refine PW_iload_n c_M_whyNoPlace_26 rfl ?_
      refine PW_iald (j := j) c_M_whyNoPlace_27 (ar_104 _ _) (vp_in_nI hj (by decide)) (nI_clamp (by omega)) ?_
      show PW _ _ _ 28 [some (.ref 70), some (.int (nI j)), some (.int a2)] [.int ((y.2.1 104) j)] (E x y)
      refine PW_if_lt c_M_whyNoPlace_28 (fun h2 => absurd h2 (ho_b0 e1)) (fun h2 => ?_)
      refine PW_bipush (v := -12) c_M_whyNoPlace_31 (by decide) ?_
      refine PW_ireturn (ty := .int) c_M_whyNoPlace_33 rfl rfl ?_
      show PW _ _ _ 6 [some (.ref 70), some (.int (nI j)), some (.int a2)] [.int (-12)] (E x y)
      refine PW_if_ge c_M_element_6 (fun h3 => absurd h3 (by decide)) (fun _ => ?_)
      refine PW_ldc2 c_M_element_9 kk_M_408 ?_
      refine PW_goto c_M_element_12 ?_
      refine PW_lreturn c_M_element_26 rfl ?_
      exact h
  · have hzz : 0 ≤ (x.1 ((58 + 2 * j) * 8 + 4)).toInt := by rw [e7, nI_toInt (by omega)]; omega
    have hz2 : (x.1 ((58 + 2 * j) * 8 + 4)).toInt = n := by rw [e7, nI_toInt (by omega)]
    have hz3 := isB (b := a2) e6 (by omega)
    by_cases hc1 : 0 ≤ a2.toInt ∧ a2.toInt < (n : Int)
    · obtain ⟨q, q1, q2, q3, q4⟩ := nI_ex hc1.1
      have q5 : q < n := by omega
      have hp : 0 ≤ a2.toInt ∧ 0 ≤ (1 : Int32).toInt ∧ (1 : Int32).toInt ≤ (x.1 ((58 + 2 * j) * 8 + 4)).toInt ∧ a2.toInt ≤ (x.1 ((58 + 2 * j) * 8 + 4)).toInt - (1 : Int32).toInt := by rw [hz2, tiA.2.1]; omega
      refine ⟨y.2.2 106 (60 * j + q), x, y, ?_, fun {z post} h => ?_, fun {z post} h => ?_⟩
      · exact INV_step hI
      · refine PW.deeper (k := (2, 0, 0, z)) (Nat.le_of_ble_eq_true rfl) (Nat.le_refl _) (Nat.le_refl _) ?_
        refine PW_aload_n c_G_element_0 rfl ?_
        refine PW_iload_n c_G_element_1 rfl ?_
        refine PW_V0 (d2 := 0) (st := []) [.int (nI j)] c_G_element_2 lk_G_element_102 (po_5 _ _) rfl rfl rfl (Nat.le_of_ble_eq_true rfl) (by first | decide | omega) (Nat.le_of_ble_eq_true rfl) ?_
        refine sp_shelf hj ?_
        show PW _ _ _ 5 [some (.ref 5), some (.int (nI j)), some (.int a2), none] [.ref (58 + 2 * j)] (E x y)
        refine PW_astore_n (i := 3) (L2 := [some (.ref 5), some (.int (nI j)), some (.int a2), some (.ref (58 + 2 * j))]) c_G_element_5 rfl (Nat.le_of_ble_eq_true rfl) rfl rfl ?_
        refine PW_aload_n c_G_element_6 rfl ?_
        refine PW_ifnull c_G_element_7 ?_
        refine PW_aload_n c_G_element_10 rfl ?_
        refine PW_iload_n c_G_element_11 rfl ?_
        refine PW_V0 (d2 := 1) (st := []) [.int a2] c_G_element_12 lk_G_element_327 (sh_po _ _ hj) rfl rfl rfl (Nat.le_of_ble_eq_true rfl) (by first | decide | omega) (Nat.le_of_ble_eq_true rfl) ?_
        show PW _ _ _ 0 [some (.ref (58 + 2 * j)), some (.int a2)] [] (E x y)
        refine PW_aload_n c_F_elementRefusal_0 rfl ?_
        refine PW_V0 (d2 := 0) (st := []) [] c_F_elementRefusal_1 lk_F_elementRefusal_37 (sh_po _ _ hj) rfl rfl rfl (Nat.le_of_ble_eq_true rfl) (by first | decide | omega) (Nat.le_of_ble_eq_true rfl) ?_
        refine sp_F_isEmpty hj  ?_
        show PW _ _ _ 4 [some (.ref (58 + 2 * j)), some (.int a2)] [.int (b2i (x.1 ((58 + 2 * j) * 8 + 1) = 0))] (E x y)
        refine PW_if_eq c_F_elementRefusal_4 (fun _ => ?_) (fun h0 => absurd (b2i_n0.mp h0) (by rw [e4]; decide))
        refine PW_aload_n c_F_elementRefusal_10 rfl ?_
        refine PW_V0 (d2 := 0) (st := []) [] c_F_elementRefusal_11 lk_F_elementRefusal_44 (sh_po _ _ hj) rfl rfl rfl (Nat.le_of_ble_eq_true rfl) (by first | decide | omega) (Nat.le_of_ble_eq_true rfl) ?_
        refine sp_F_holdsRow hj  ?_
        show PW _ _ _ 14 [some (.ref (58 + 2 * j)), some (.int a2)] [.int (b2i (x.1 ((58 + 2 * j) * 8 + 1) = 2))] (E x y)
        refine PW_if_ne c_F_elementRefusal_14 (fun _ => ?_) (fun h1 => absurd e4 (b2i_0.mp h1))
        refine PW_aload_n c_F_elementRefusal_20 rfl ?_
        refine PW_iload_n c_F_elementRefusal_21 rfl ?_
        refine PW_iconst (v := 1) c_F_elementRefusal_22 (by decide) ?_
        refine PW_V0 (d2 := 0) (st := []) [.int a2, .int 1] c_F_elementRefusal_23 lk_F_elementRefusal_47 (sh_po _ _ hj) rfl rfl rfl (Nat.le_of_ble_eq_true rfl) (by first | decide | omega) (Nat.le_of_ble_eq_true rfl) ?_
        refine sp_F_hasPlaces hj (by assumption) ?_
        show PW _ _ _ 26 [some (.ref (58 + 2 * j)), some (.int a2)] [.int (b2i (0 ≤ a2.toInt ∧ 0 ≤ (1 : Int32).toInt ∧ (1 : Int32).toInt ≤ (x.1 ((58 + 2 * j) * 8 + 4)).toInt ∧ a2.toInt ≤ (x.1 ((58 + 2 * j) * 8 + 4)).toInt - (1 : Int32).toInt))] (E x y)
        refine PW_if_eq c_F_elementRefusal_26 (fun h2 => absurd hp (b2i_0.mp h2)) (fun _ => ?_)
        refine PW_iconst (v := 0) c_F_elementRefusal_29 (by decide) ?_
        refine PW_goto c_F_elementRefusal_30 ?_
        refine PW_ireturn (ty := .int) c_F_elementRefusal_35 rfl rfl ?_
        show PW _ _ _ 15 [some (.ref 5), some (.int (nI j)), some (.int a2), some (.ref (58 + 2 * j))] [.int 0] (E x y)
        refine PW_if_eq c_G_element_15 (fun _ => ?_) (fun h3 => absurd (by decide) h3)
        refine PW_aload_n c_G_element_22 rfl ?_
        refine PW_iload_n c_G_element_23 rfl ?_
        refine PW_V0 (d2 := 1) (st := []) [.int a2] c_G_element_24 lk_G_element_336 (sh_po _ _ hj) rfl rfl rfl (Nat.le_of_ble_eq_true rfl) (by first | decide | omega) (Nat.le_of_ble_eq_true rfl) ?_
        show PW _ _ _ 0 [some (.ref (58 + 2 * j)), some (.int a2)] [] (E x y)
        refine PW_aload_n c_F_read_0 rfl ?_
        refine PW_iload_n c_F_read_1 rfl ?_
        refine PW_iconst (v := 1) c_F_read_2 (by decide) ?_
        refine PW_V0 (d2 := 0) (st := []) [.int a2, .int 1] c_F_read_3 lk_F_read_47 (sh_po _ _ hj) rfl rfl rfl (Nat.le_of_ble_eq_true rfl) (by first | decide | omega) (Nat.le_of_ble_eq_true rfl) ?_
        refine sp_F_hasPlaces hj (by assumption) ?_
        show PW _ _ _ 6 [some (.ref (58 + 2 * j)), some (.int a2)] [.int (b2i (0 ≤ a2.toInt ∧ 0 ≤ (1 : Int32).toInt ∧ (1 : Int32).toInt ≤ (x.1 ((58 + 2 * j) * 8 + 4)).toInt ∧ a2.toInt ≤ (x.1 ((58 + 2 * j) * 8 + 4)).toInt - (1 : Int32).toInt))] (E x y)
        refine PW_if_eq c_F_read_6 (fun h4 => absurd hp (b2i_0.mp h4)) (fun _ => ?_)
        refine PW_aload_n c_F_read_9 rfl ?_
        refine PW_get (v := .ref (59 + 2 * j)) c_F_read_10 fl_F_11 (sh_g0 _ _ hj) ?_
        refine PW_iload_n c_F_read_13 rfl ?_
        refine PW_lald (j := q) c_F_read_14 (sh_r _ _ hj) (by rw [q2]; exact vp_in_nI (by omega) (by decide)) (by rw [q2]; exact nI_clamp (by omega)) ?_
        show PW _ _ _ 15 [some (.ref (58 + 2 * j)), some (.int a2)] [.long ((x.2.2 (59 + 2 * j)) q)] (E x y)
        refine PW_goto c_F_read_15 ?_
        refine PW_lreturn c_F_read_19 rfl ?_
        show PW _ _ _ 27 [some (.ref 5), some (.int (nI j)), some (.int a2), some (.ref (58 + 2 * j))] [.long ((x.2.2 (59 + 2 * j)) q)] (E x y)
        refine PW_lreturn c_G_element_27 rfl ?_
        exact (e8 q q5).1 ▸ h
      · refine PW.deeper (k := (3, 0, 0, z)) (Nat.le_of_ble_eq_true rfl) (Nat.le_refl _) (Nat.le_refl _) ?_
        refine PW_aload_n c_M_element_0 rfl ?_
        refine PW_iload_n c_M_element_1 rfl ?_
        refine PW_iload_n c_M_element_2 rfl ?_
        refine PW_V0 (d2 := 2) (st := []) [.int (nI j), .int a2] c_M_element_3 lk_M_element_403 (po_70 _ _) rfl rfl rfl (Nat.le_of_ble_eq_true rfl) (by first | decide | omega) (Nat.le_of_ble_eq_true rfl) ?_
        show PW _ _ _ 0 [some (.ref 70), some (.int (nI j)), some (.int a2)] [] (E x y)
        refine PW_iload_n c_M_whyNoPlace_0 rfl ?_
        refine PW_S0 (d2 := 1) (st := []) [.int (nI j)] c_M_whyNoPlace_1 lk_M_whyNoPlace_143 rfl rfl rfl (Nat.le_of_ble_eq_true rfl) (by first | decide | omega) (Nat.le_of_ble_eq_true rfl) ?_
        refine sp_M_isShelf2  ?_
        show PW _ _ _ 4 [some (.ref 70), some (.int (nI j)), some (.int a2)] [.int (b2i (0 ≤ (nI j).toInt ∧ (nI j).toInt < 6))] (E x y)
        refine PW_if_ne c_M_whyNoPlace_4 (fun _ => ?_) (fun h0 => absurd hjs (b2i_0.mp h0))
        refine PW_aload_n c_M_whyNoPlace_9 rfl ?_
        refine PW_get (v := .ref 104) c_M_whyNoPlace_10 fl_M_111 (gf_70_53 _ _) ?_
        refine PW_iload_n c_M_whyNoPlace_13 rfl ?_
        refine PW_iald (j := j) c_M_whyNoPlace_14 (ar_104 _ _) (vp_in_nI hj (by decide)) (nI_clamp (by omega)) ?_
        show PW _ _ _ 15 [some (.ref 70), some (.int (nI j)), some (.int a2)] [.int ((y.2.1 104) j)] (E x y)
        refine PW_iconst (v := -1) c_M_whyNoPlace_15 (by decide) ?_
        refine PW_icmp_ne c_M_whyNoPlace_16 (fun h1 => ?_) (fun h1 => absurd h1 (by rw [e3]; exact ho_n1 e1))
        refine PW_aload_n c_M_whyNoPlace_22 rfl ?_
        refine PW_get (v := .ref 104) c_M_whyNoPlace_23 fl_M_111 (gf_70_53 _ _) ?_
        refine PW_iload_n c_M_whyNoPlace_26 rfl ?_
        refine PW_iald (j := j) c_M_whyNoPlace_27 (ar_104 _ _) (vp_in_nI hj (by decide)) (nI_clamp (by omega)) ?_
        show PW _ _ _ 28 [some (.ref 70), some (.int (nI j)), some (.int a2)] [.int ((y.2.1 104) j)] (E x y)
        refine PW_if_lt c_M_whyNoPlace_28 (fun h2 => ?_) (fun h2 => absurd (by rw [e3]; exact ho_lt e1) h2)
        refine PW_iload_n c_M_whyNoPlace_34 rfl ?_
        refine PW_iconst (v := 0) c_M_whyNoPlace_35 (by decide) ?_
        refine PW_aload_n c_M_whyNoPlace_36 rfl ?_
        refine PW_get (v := .ref 105) c_M_whyNoPlace_37 fl_M_114 (gf_70_54 _ _) ?_
        refine PW_iload_n c_M_whyNoPlace_40 rfl ?_
        refine PW_iald (j := j) c_M_whyNoPlace_41 (ar_105 _ _) (vp_in_nI hj (by decide)) (nI_clamp (by omega)) ?_
        show PW _ _ _ 42 [some (.ref 70), some (.int (nI j)), some (.int a2)] [.int ((y.2.1 105) j), .int 0, .int a2] (E x y)
        refine PW_iconst (v := 1) c_M_whyNoPlace_42 (by decide) ?_
        refine PW_isub c_M_whyNoPlace_43 ?_
        refine PW_S0 (d2 := 0) (st := []) [.int a2, .int 0, .int (((y.2.1 105) j) - 1)] c_M_whyNoPlace_44 lk_M_whyNoPlace_131 rfl rfl rfl (Nat.le_of_ble_eq_true rfl) (by first | decide | omega) (Nat.le_of_ble_eq_true rfl) ?_
        refine sp_M_within  ?_
        show PW _ _ _ 47 [some (.ref 70), some (.int (nI j)), some (.int a2)] [.int (b2i ((0 : Int32) ≤ a2 ∧ a2 ≤ (((y.2.1 105) j) - 1)))] (E x y)
        refine PW_if_eq c_M_whyNoPlace_47 (fun h3 => absurd (hz3.mpr hc1) (b2i_0.mp h3)) (fun _ => ?_)
        refine PW_iconst (v := 0) c_M_whyNoPlace_50 (by decide) ?_
        refine PW_goto c_M_whyNoPlace_51 ?_
        refine PW_ireturn (ty := .int) c_M_whyNoPlace_56 rfl rfl ?_
        show PW _ _ _ 6 [some (.ref 70), some (.int (nI j)), some (.int a2)] [.int 0] (E x y)
        refine PW_if_ge c_M_element_6 (fun _ => ?_) (fun h4 => absurd (by decide) h4)
        refine PW_aload_n c_M_element_15 rfl ?_
        refine PW_get (v := .ref 106) c_M_element_16 fl_M_117 (gf_70_55 _ _) ?_
        refine PW_bipush (v := 60) c_M_element_19 (by decide) ?_
        refine PW_iload_n c_M_element_21 rfl ?_
        refine PW_imul c_M_element_22 ?_
        refine PW_iload_n c_M_element_23 rfl ?_
        refine PW_iadd c_M_element_24 ?_
        refine PW_lald (j := 60 * j + q) c_M_element_25 (ar_106 _ _) (by rw [show (60 : Int32) = nI 60 from rfl, q2, pk_mul, nI_add]; exact vp_in_nI (by omega) (by decide)) (by rw [show (60 : Int32) = nI 60 from rfl, q2, pk_mul, nI_add]; exact nI_clamp (by omega)) ?_
        show PW _ _ _ 26 [some (.ref 70), some (.int (nI j)), some (.int a2)] [.long ((y.2.2 106) (60 * j + q))] (E x y)
        refine PW_lreturn c_M_element_26 rfl ?_
        exact h
    refine ⟨-9223372036854775808, x, y, ?_, fun {z post} h => ?_, fun {z post} h => ?_⟩
    · exact INV_step hI
    · refine PW.deeper (k := (2, 0, 0, z)) (Nat.le_of_ble_eq_true rfl) (Nat.le_refl _) (Nat.le_refl _) ?_
      refine PW_aload_n c_G_element_0 rfl ?_
      refine PW_iload_n c_G_element_1 rfl ?_
      refine PW_V0 (d2 := 0) (st := []) [.int (nI j)] c_G_element_2 lk_G_element_102 (po_5 _ _) rfl rfl rfl (Nat.le_of_ble_eq_true rfl) (by first | decide | omega) (Nat.le_of_ble_eq_true rfl) ?_
      refine sp_shelf hj ?_
      show PW _ _ _ 5 [some (.ref 5), some (.int (nI j)), some (.int a2), none] [.ref (58 + 2 * j)] (E x y)
      refine PW_astore_n (i := 3) (L2 := [some (.ref 5), some (.int (nI j)), some (.int a2), some (.ref (58 + 2 * j))]) c_G_element_5 rfl (Nat.le_of_ble_eq_true rfl) rfl rfl ?_
      refine PW_aload_n c_G_element_6 rfl ?_
      refine PW_ifnull c_G_element_7 ?_
      refine PW_aload_n c_G_element_10 rfl ?_
      refine PW_iload_n c_G_element_11 rfl ?_
      refine PW_V0 (d2 := 1) (st := []) [.int a2] c_G_element_12 lk_G_element_327 (sh_po _ _ hj) rfl rfl rfl (Nat.le_of_ble_eq_true rfl) (by first | decide | omega) (Nat.le_of_ble_eq_true rfl) ?_
      show PW _ _ _ 0 [some (.ref (58 + 2 * j)), some (.int a2)] [] (E x y)
      refine PW_aload_n c_F_elementRefusal_0 rfl ?_
      refine PW_V0 (d2 := 0) (st := []) [] c_F_elementRefusal_1 lk_F_elementRefusal_37 (sh_po _ _ hj) rfl rfl rfl (Nat.le_of_ble_eq_true rfl) (by first | decide | omega) (Nat.le_of_ble_eq_true rfl) ?_
      refine sp_F_isEmpty hj  ?_
      show PW _ _ _ 4 [some (.ref (58 + 2 * j)), some (.int a2)] [.int (b2i (x.1 ((58 + 2 * j) * 8 + 1) = 0))] (E x y)
      refine PW_if_eq c_F_elementRefusal_4 (fun _ => ?_) (fun h0 => absurd (b2i_n0.mp h0) (by rw [e4]; decide))
      refine PW_aload_n c_F_elementRefusal_10 rfl ?_
      refine PW_V0 (d2 := 0) (st := []) [] c_F_elementRefusal_11 lk_F_elementRefusal_44 (sh_po _ _ hj) rfl rfl rfl (Nat.le_of_ble_eq_true rfl) (by first | decide | omega) (Nat.le_of_ble_eq_true rfl) ?_
      refine sp_F_holdsRow hj  ?_
      show PW _ _ _ 14 [some (.ref (58 + 2 * j)), some (.int a2)] [.int (b2i (x.1 ((58 + 2 * j) * 8 + 1) = 2))] (E x y)
      refine PW_if_ne c_F_elementRefusal_14 (fun _ => ?_) (fun h1 => absurd e4 (b2i_0.mp h1))
      refine PW_aload_n c_F_elementRefusal_20 rfl ?_
      refine PW_iload_n c_F_elementRefusal_21 rfl ?_
      refine PW_iconst (v := 1) c_F_elementRefusal_22 (by decide) ?_
      refine PW_V0 (d2 := 0) (st := []) [.int a2, .int 1] c_F_elementRefusal_23 lk_F_elementRefusal_47 (sh_po _ _ hj) rfl rfl rfl (Nat.le_of_ble_eq_true rfl) (by first | decide | omega) (Nat.le_of_ble_eq_true rfl) ?_
      refine sp_F_hasPlaces hj (by assumption) ?_
      show PW _ _ _ 26 [some (.ref (58 + 2 * j)), some (.int a2)] [.int (b2i (0 ≤ a2.toInt ∧ 0 ≤ (1 : Int32).toInt ∧ (1 : Int32).toInt ≤ (x.1 ((58 + 2 * j) * 8 + 4)).toInt ∧ a2.toInt ≤ (x.1 ((58 + 2 * j) * 8 + 4)).toInt - (1 : Int32).toInt))] (E x y)
      refine PW_if_eq c_F_elementRefusal_26 (fun _ => ?_) (fun h2 => absurd (b2i_n0.mp h2) (fun z => hc1 ⟨z.1, by have := z.2.2.2; rw [hz2, tiA.2.1] at this; omega⟩))
      refine PW_bipush (v := -13) c_F_elementRefusal_33 (by decide) ?_
      refine PW_ireturn (ty := .int) c_F_elementRefusal_35 rfl rfl ?_
      show PW _ _ _ 15 [some (.ref 5), some (.int (nI j)), some (.int a2), some (.ref (58 + 2 * j))] [.int (-13)] (E x y)
      refine PW_if_eq c_G_element_15 (fun h3 => absurd h3 (by decide)) (fun _ => ?_)
      refine PW_ldc2 c_G_element_18 kk_G_334 ?_
      refine PW_lreturn c_G_element_21 rfl ?_
      exact h
    · refine PW.deeper (k := (3, 0, 0, z)) (Nat.le_of_ble_eq_true rfl) (Nat.le_refl _) (Nat.le_refl _) ?_
      refine PW_aload_n c_M_element_0 rfl ?_
      refine PW_iload_n c_M_element_1 rfl ?_
      refine PW_iload_n c_M_element_2 rfl ?_
      refine PW_V0 (d2 := 2) (st := []) [.int (nI j), .int a2] c_M_element_3 lk_M_element_403 (po_70 _ _) rfl rfl rfl (Nat.le_of_ble_eq_true rfl) (by first | decide | omega) (Nat.le_of_ble_eq_true rfl) ?_
      show PW _ _ _ 0 [some (.ref 70), some (.int (nI j)), some (.int a2)] [] (E x y)
      refine PW_iload_n c_M_whyNoPlace_0 rfl ?_
      refine PW_S0 (d2 := 1) (st := []) [.int (nI j)] c_M_whyNoPlace_1 lk_M_whyNoPlace_143 rfl rfl rfl (Nat.le_of_ble_eq_true rfl) (by first | decide | omega) (Nat.le_of_ble_eq_true rfl) ?_
      refine sp_M_isShelf2  ?_
      show PW _ _ _ 4 [some (.ref 70), some (.int (nI j)), some (.int a2)] [.int (b2i (0 ≤ (nI j).toInt ∧ (nI j).toInt < 6))] (E x y)
      refine PW_if_ne c_M_whyNoPlace_4 (fun _ => ?_) (fun h0 => absurd hjs (b2i_0.mp h0))
      refine PW_aload_n c_M_whyNoPlace_9 rfl ?_
      refine PW_get (v := .ref 104) c_M_whyNoPlace_10 fl_M_111 (gf_70_53 _ _) ?_
      refine PW_iload_n c_M_whyNoPlace_13 rfl ?_
      refine PW_iald (j := j) c_M_whyNoPlace_14 (ar_104 _ _) (vp_in_nI hj (by decide)) (nI_clamp (by omega)) ?_
      show PW _ _ _ 15 [some (.ref 70), some (.int (nI j)), some (.int a2)] [.int ((y.2.1 104) j)] (E x y)
      refine PW_iconst (v := -1) c_M_whyNoPlace_15 (by decide) ?_
      refine PW_icmp_ne c_M_whyNoPlace_16 (fun h1 => ?_) (fun h1 => absurd h1 (by rw [e3]; exact ho_n1 e1))
      refine PW_aload_n c_M_whyNoPlace_22 rfl ?_
      refine PW_get (v := .ref 104) c_M_whyNoPlace_23 fl_M_111 (gf_70_53 _ _) ?_
      refine PW_iload_n c_M_whyNoPlace_26 rfl ?_
      refine PW_iald (j := j) c_M_whyNoPlace_27 (ar_104 _ _) (vp_in_nI hj (by decide)) (nI_clamp (by omega)) ?_
      show PW _ _ _ 28 [some (.ref 70), some (.int (nI j)), some (.int a2)] [.int ((y.2.1 104) j)] (E x y)
      refine PW_if_lt c_M_whyNoPlace_28 (fun h2 => ?_) (fun h2 => absurd (by rw [e3]; exact ho_lt e1) h2)
      refine PW_iload_n c_M_whyNoPlace_34 rfl ?_
      refine PW_iconst (v := 0) c_M_whyNoPlace_35 (by decide) ?_
      refine PW_aload_n c_M_whyNoPlace_36 rfl ?_
      refine PW_get (v := .ref 105) c_M_whyNoPlace_37 fl_M_114 (gf_70_54 _ _) ?_
      refine PW_iload_n c_M_whyNoPlace_40 rfl ?_
      refine PW_iald (j := j) c_M_whyNoPlace_41 (ar_105 _ _) (vp_in_nI hj (by decide)) (nI_clamp (by omega)) ?_
      show PW _ _ _ 42 [some (.ref 70), some (.int (nI j)), some (.int a2)] [.int ((y.2.1 105) j), .int 0, .int a2] (E x y)
      refine PW_iconst (v := 1) c_M_whyNoPlace_42 (by decide) ?_
      refine PW_isub c_M_whyNoPlace_43 ?_
      refine PW_S0 (d2 := 0) (st := []) [.int a2, .int 0, .int (((y.2.1 105) j) - 1)] c_M_whyNoPlace_44 lk_M_whyNoPlace_131 rfl rfl rfl (Nat.le_of_ble_eq_true rfl) (by first | decide | omega) (Nat.le_of_ble_eq_true rfl) ?_
      refine sp_M_within  ?_
      show PW _ _ _ 47 [some (.ref 70), some (.int (nI j)), some (.int a2)] [.int (b2i ((0 : Int32) ≤ a2 ∧ a2 ≤ (((y.2.1 105) j) - 1)))] (E x y)
      refine PW_if_eq c_M_whyNoPlace_47 (fun _ => ?_) (fun h3 => absurd (b2i_n0.mp h3) (fun z => hc1 (hz3.mp z)))
      refine PW_bipush (v := -13) c_M_whyNoPlace_54 (by decide) ?_
      refine PW_ireturn (ty := .int) c_M_whyNoPlace_56 rfl rfl ?_
      show PW _ _ _ 6 [some (.ref 70), some (.int (nI j)), some (.int a2)] [.int (-13)] (E x y)
      refine PW_if_ge c_M_element_6 (fun h4 => absurd h4 (by decide)) (fun _ => ?_)
      refine PW_ldc2 c_M_element_9 kk_M_408 ?_
      refine PW_goto c_M_element_12 ?_
      refine PW_lreturn c_M_element_26 rfl ?_
      exact h
set_option maxHeartbeats 4000000 in
theorem op_put {t : Nat} {x y : XS} {a1 : Int32} {a2 : Int32} {a3 : Int64} (hI : INV t x y) (ht : t < 512) : ∃ (r : Int32) (x' y' : XS), INV (t + 1) x' y' ∧ (∀ {z : ZS} {post : Option Value → List PE → Prop}, post (some (.int r)) (E x' y) → PW (90, 0, 0, z) m_G_put post 0 [some (.ref 5), some (.int a1), some (.int a2), some (.long a3), none, none, none] [] (E x y)) ∧ (∀ {z : ZS} {post : Option Value → List PE → Prop}, post (some (.int r)) (E x' y') → PW (90, 0, 0, z) m_M_put post 0 [some (.ref 70), some (.int a1), some (.int a2), some (.long a3), none, none, none] [] (E x' y)) := by
  obtain ⟨hg, hc, ht0, hl, hd, hb, hs⟩ := id hI
  obtain ⟨hB, hbx, hbk⟩ := WB_of hb

  by_cases hc0 : ¬ (0 ≤ a1.toInt ∧ a1.toInt < 6)
  · refine ⟨-1, x, y, ?_, fun {z post} h => ?_, fun {z post} h => ?_⟩
    · exact INV_step hI
    · refine PW.deeper (k := (2, 0, 0, z)) (Nat.le_of_ble_eq_true rfl) (Nat.le_refl _) (Nat.le_refl _) ?_
      refine PW_aload_n c_G_put_0 rfl ?_
      refine PW_iload_n c_G_put_1 rfl ?_
      refine PW_V0 (d2 := 0) (st := []) [.int a1] c_G_put_2 lk_G_put_102 (po_5 _ _) rfl rfl rfl (Nat.le_of_ble_eq_true rfl) (by first | decide | omega) (Nat.le_of_ble_eq_true rfl) ?_
      refine sp_noshelf hc0 ?_
      show PW _ _ _ 5 [some (.ref 5), some (.int a1), some (.int a2), some (.long a3), none, none, none] [.null] (E x y)
      refine PW_astoreN (i := 5) (L2 := [some (.ref 5), some (.int a1), some (.int a2), some (.long a3), none, some (.null), none]) c_G_put_5 (Nat.le_of_ble_eq_true rfl) rfl rfl ?_
      refine PW_aloadN c_G_put_7 rfl ?_
      refine PW_ifnonnullN c_G_put_9 ?_
      refine PW_iconst (v := -1) c_G_put_12 (by decide) ?_
      refine PW_ireturn (ty := .int) c_G_put_13 rfl rfl ?_
      exact h
    · refine PW.deeper (k := (3, 0, 0, z)) (Nat.le_of_ble_eq_true rfl) (Nat.le_refl _) (Nat.le_refl _) ?_
      refine PW_aload_n c_M_put_0 rfl ?_
      refine PW_iload_n c_M_put_1 rfl ?_
      refine PW_iload_n c_M_put_2 rfl ?_
      refine PW_V0 (d2 := 2) (st := []) [.int a1, .int a2] c_M_put_3 lk_M_put_403 (po_70 _ _) rfl rfl rfl (Nat.le_of_ble_eq_true rfl) (by first | decide | omega) (Nat.le_of_ble_eq_true rfl) ?_
      show PW _ _ _ 0 [some (.ref 70), some (.int a1), some (.int a2)] [] (E x y)
      refine PW_iload_n c_M_whyNoPlace_0 rfl ?_
      refine PW_S0 (d2 := 1) (st := []) [.int a1] c_M_whyNoPlace_1 lk_M_whyNoPlace_143 rfl rfl rfl (Nat.le_of_ble_eq_true rfl) (by first | decide | omega) (Nat.le_of_ble_eq_true rfl) ?_
      refine sp_M_isShelf2  ?_
      show PW _ _ _ 4 [some (.ref 70), some (.int a1), some (.int a2)] [.int (b2i (0 ≤ a1.toInt ∧ a1.toInt < 6))] (E x y)
      refine PW_if_ne c_M_whyNoPlace_4 (fun h0 => absurd (b2i_n0.mp h0) hc0) (fun _ => ?_)
      refine PW_iconst (v := -1) c_M_whyNoPlace_7 (by decide) ?_
      refine PW_ireturn (ty := .int) c_M_whyNoPlace_8 rfl rfl ?_
      show PW _ _ _ 6 [some (.ref 70), some (.int a1), some (.int a2), some (.long a3), none, none, none] [.int (-1)] (E x y)
      refine PW_istore (i := 5) (L2 := [some (.ref 70), some (.int a1), some (.int a2), some (.long a3), none, some (.int (-1)), none]) c_M_put_6 (Nat.le_of_ble_eq_true rfl) rfl rfl ?_
      refine PW_iload c_M_put_8 rfl ?_
      refine PW_if_ge c_M_put_10 (fun h1 => absurd h1 (by decide)) (fun _ => ?_)
      refine PW_iload c_M_put_13 rfl ?_
      refine PW_ireturn (ty := .int) c_M_put_15 rfl rfl ?_
      exact h
  obtain ⟨j, hj, rfl⟩ : ∃ j : Nat, j < 6 ∧ a1 = nI j := by
    obtain ⟨q, q1, q2, q3, q4⟩ := nI_ex (x := a1) (by have := Decidable.not_not.mp hc0; omega)
    exact ⟨q, by have := Decidable.not_not.mp hc0; omega, q2⟩
  have hjs : 0 ≤ (nI j).toInt ∧ (nI j).toInt < 6 := by rw [nI_toInt (by omega)]; omega
  have hsj := hs j hj
  unfold CPs1 at hsj
  rcases hsj with ⟨e1, e2⟩ | ⟨e1, e2, e3, e4⟩ | ⟨s, n, e1, e2, e3, e4, e5, e6, e7, e8⟩
  · refine ⟨-11, x, y, ?_, fun {z post} h => ?_, fun {z post} h => ?_⟩
    · exact INV_step hI
    · refine PW.deeper (k := (2, 0, 0, z)) (Nat.le_of_ble_eq_true rfl) (Nat.le_refl _) (Nat.le_refl _) ?_
      refine PW_aload_n c_G_put_0 rfl ?_
      refine PW_iload_n c_G_put_1 rfl ?_
      refine PW_V0 (d2 := 0) (st := []) [.int (nI j)] c_G_put_2 lk_G_put_102 (po_5 _ _) rfl rfl rfl (Nat.le_of_ble_eq_true rfl) (by first | decide | omega) (Nat.le_of_ble_eq_true rfl) ?_
      refine sp_shelf hj ?_
      show PW _ _ _ 5 [some (.ref 5), some (.int (nI j)), some (.int a2), some (.long a3), none, none, none] [.ref (58 + 2 * j)] (E x y)
      refine PW_astore (i := 5) (L2 := [some (.ref 5), some (.int (nI j)), some (.int a2), some (.long a3), none, some (.ref (58 + 2 * j)), none]) c_G_put_5 (Nat.le_of_ble_eq_true rfl) rfl rfl ?_
      refine PW_aload c_G_put_7 rfl ?_
      refine PW_ifnonnull c_G_put_9 ?_
      refine PW_aload c_G_put_14 rfl ?_
      refine PW_iload_n c_G_put_16 rfl ?_
      refine PW_V0 (d2 := 1) (st := []) [.int a2] c_G_put_17 lk_G_put_327 (sh_po _ _ hj) rfl rfl rfl (Nat.le_of_ble_eq_true rfl) (by first | decide | omega) (Nat.le_of_ble_eq_true rfl) ?_
      show PW _ _ _ 0 [some (.ref (58 + 2 * j)), some (.int a2)] [] (E x y)
      refine PW_aload_n c_F_elementRefusal_0 rfl ?_
      refine PW_V0 (d2 := 0) (st := []) [] c_F_elementRefusal_1 lk_F_elementRefusal_37 (sh_po _ _ hj) rfl rfl rfl (Nat.le_of_ble_eq_true rfl) (by first | decide | omega) (Nat.le_of_ble_eq_true rfl) ?_
      refine sp_F_isEmpty hj  ?_
      show PW _ _ _ 4 [some (.ref (58 + 2 * j)), some (.int a2)] [.int (b2i (x.1 ((58 + 2 * j) * 8 + 1) = 0))] (E x y)
      refine PW_if_eq c_F_elementRefusal_4 (fun h0 => absurd e2 (b2i_0.mp h0)) (fun _ => ?_)
      refine PW_bipush (v := -11) c_F_elementRefusal_7 (by decide) ?_
      refine PW_ireturn (ty := .int) c_F_elementRefusal_9 rfl rfl ?_
      show PW _ _ _ 20 [some (.ref 5), some (.int (nI j)), some (.int a2), some (.long a3), none, some (.ref (58 + 2 * j)), none] [.int (-11)] (E x y)
      refine PW_istore (i := 6) (L2 := [some (.ref 5), some (.int (nI j)), some (.int a2), some (.long a3), none, some (.ref (58 + 2 * j)), some (.int (-11))]) c_G_put_20 (Nat.le_of_ble_eq_true rfl) rfl rfl ?_
      refine PW_iload c_G_put_22 rfl ?_
      refine PW_if_eq c_G_put_24 (fun h1 => absurd h1 (by decide)) (fun _ => ?_)
      refine PW_iload c_G_put_27 rfl ?_
      refine PW_ireturn (ty := .int) c_G_put_29 rfl rfl ?_
      exact h
    · refine PW.deeper (k := (3, 0, 0, z)) (Nat.le_of_ble_eq_true rfl) (Nat.le_refl _) (Nat.le_refl _) ?_
      refine PW_aload_n c_M_put_0 rfl ?_
      refine PW_iload_n c_M_put_1 rfl ?_
      refine PW_iload_n c_M_put_2 rfl ?_
      refine PW_V0 (d2 := 2) (st := []) [.int (nI j), .int a2] c_M_put_3 lk_M_put_403 (po_70 _ _) rfl rfl rfl (Nat.le_of_ble_eq_true rfl) (by first | decide | omega) (Nat.le_of_ble_eq_true rfl) ?_
      show PW _ _ _ 0 [some (.ref 70), some (.int (nI j)), some (.int a2)] [] (E x y)
      refine PW_iload_n c_M_whyNoPlace_0 rfl ?_
      refine PW_S0 (d2 := 1) (st := []) [.int (nI j)] c_M_whyNoPlace_1 lk_M_whyNoPlace_143 rfl rfl rfl (Nat.le_of_ble_eq_true rfl) (by first | decide | omega) (Nat.le_of_ble_eq_true rfl) ?_
      refine sp_M_isShelf2  ?_
      show PW _ _ _ 4 [some (.ref 70), some (.int (nI j)), some (.int a2)] [.int (b2i (0 ≤ (nI j).toInt ∧ (nI j).toInt < 6))] (E x y)
      refine PW_if_ne c_M_whyNoPlace_4 (fun _ => ?_) (fun h0 => absurd hjs (b2i_0.mp h0))
      refine PW_aload_n c_M_whyNoPlace_9 rfl ?_
      refine PW_get (v := .ref 104) c_M_whyNoPlace_10 fl_M_111 (gf_70_53 _ _) ?_
      refine PW_iload_n c_M_whyNoPlace_13 rfl ?_
      refine PW_iald (j := j) c_M_whyNoPlace_14 (ar_104 _ _) (vp_in_nI hj (by decide)) (nI_clamp (by omega)) ?_
      show PW _ _ _ 15 [some (.ref 70), some (.int (nI j)), some (.int a2)] [.int ((y.2.1 104) j)] (E x y)
      refine PW_iconst (v := -1) c_M_whyNoPlace_15 (by decide) ?_
      refine PW_icmp_ne c_M_whyNoPlace_16 (fun h1 => absurd h1 (not_not_intro e1)) (fun h1 => ?_)
      refine PW_bipush (v := -11) c_M_whyNoPlace_19 (by decide) ?_
      refine PW_ireturn (ty := .int) c_M_whyNoPlace_21 rfl rfl ?_
      show PW _ _ _ 6 [some (.ref 70), some (.int (nI j)), some (.int a2), some (.long a3), none, none, none] [.int (-11)] (E x y)
      refine PW_istore (i := 5) (L2 := [some (.ref 70), some (.int (nI j)), some (.int a2), some (.long a3), none, some (.int (-11)), none]) c_M_put_6 (Nat.le_of_ble_eq_true rfl) rfl rfl ?_
      refine PW_iload c_M_put_8 rfl ?_
      refine PW_if_ge c_M_put_10 (fun h2 => absurd h2 (by decide)) (fun _ => ?_)
      refine PW_iload c_M_put_13 rfl ?_
      refine PW_ireturn (ty := .int) c_M_put_15 rfl rfl ?_
      exact h
  · refine ⟨-12, x, y, ?_, fun {z post} h => ?_, fun {z post} h => ?_⟩
    · exact INV_step hI
    · refine PW.deeper (k := (2, 0, 0, z)) (Nat.le_of_ble_eq_true rfl) (Nat.le_refl _) (Nat.le_refl _) ?_
      refine PW_aload_n c_G_put_0 rfl ?_
      refine PW_iload_n c_G_put_1 rfl ?_
      refine PW_V0 (d2 := 0) (st := []) [.int (nI j)] c_G_put_2 lk_G_put_102 (po_5 _ _) rfl rfl rfl (Nat.le_of_ble_eq_true rfl) (by first | decide | omega) (Nat.le_of_ble_eq_true rfl) ?_
      refine sp_shelf hj ?_
      show PW _ _ _ 5 [some (.ref 5), some (.int (nI j)), some (.int a2), some (.long a3), none, none, none] [.ref (58 + 2 * j)] (E x y)
      refine PW_astore (i := 5) (L2 := [some (.ref 5), some (.int (nI j)), some (.int a2), some (.long a3), none, some (.ref (58 + 2 * j)), none]) c_G_put_5 (Nat.le_of_ble_eq_true rfl) rfl rfl ?_
      refine PW_aload c_G_put_7 rfl ?_
      refine PW_ifnonnull c_G_put_9 ?_
      refine PW_aload c_G_put_14 rfl ?_
      refine PW_iload_n c_G_put_16 rfl ?_
      refine PW_V0 (d2 := 1) (st := []) [.int a2] c_G_put_17 lk_G_put_327 (sh_po _ _ hj) rfl rfl rfl (Nat.le_of_ble_eq_true rfl) (by first | decide | omega) (Nat.le_of_ble_eq_true rfl) ?_
      show PW _ _ _ 0 [some (.ref (58 + 2 * j)), some (.int a2)] [] (E x y)
      refine PW_aload_n c_F_elementRefusal_0 rfl ?_
      refine PW_V0 (d2 := 0) (st := []) [] c_F_elementRefusal_1 lk_F_elementRefusal_37 (sh_po _ _ hj) rfl rfl rfl (Nat.le_of_ble_eq_true rfl) (by first | decide | omega) (Nat.le_of_ble_eq_true rfl) ?_
      refine sp_F_isEmpty hj  ?_
      show PW _ _ _ 4 [some (.ref (58 + 2 * j)), some (.int a2)] [.int (b2i (x.1 ((58 + 2 * j) * 8 + 1) = 0))] (E x y)
      refine PW_if_eq c_F_elementRefusal_4 (fun _ => ?_) (fun h0 => absurd (b2i_n0.mp h0) (by rw [e3]; decide))
      refine PW_aload_n c_F_elementRefusal_10 rfl ?_
      refine PW_V0 (d2 := 0) (st := []) [] c_F_elementRefusal_11 lk_F_elementRefusal_44 (sh_po _ _ hj) rfl rfl rfl (Nat.le_of_ble_eq_true rfl) (by first | decide | omega) (Nat.le_of_ble_eq_true rfl) ?_
      refine sp_F_holdsRow hj  ?_
      show PW _ _ _ 14 [some (.ref (58 + 2 * j)), some (.int a2)] [.int (b2i (x.1 ((58 + 2 * j) * 8 + 1) = 2))] (E x y)
      refine PW_if_ne c_F_elementRefusal_14 (fun h1 => absurd (b2i_n0.mp h1) (by rw [e3]; decide)) (fun _ => ?_)
      refine PW_bipush (v := -12) c_F_elementRefusal_17 (by decide) ?_
      refine PW_ireturn (ty := .int) c_F_elementRefusal_19 rfl rfl ?_
      show PW _ _ _ 20 [some (.ref 5), some (.int (nI j)), some (.int a2), some (.long a3), none, some (.ref (58 + 2 * j)), none] [.int (-12)] (E x y)
      refine PW_istore (i := 6) (L2 := [some (.ref 5), some (.int (nI j)), some (.int a2), some (.long a3), none, some (.ref (58 + 2 * j)), some (.int (-12))]) c_G_put_20 (Nat.le_of_ble_eq_true rfl) rfl rfl ?_
      refine PW_iload c_G_put_22 rfl ?_
      refine PW_if_eq c_G_put_24 (fun h2 => absurd h2 (by decide)) (fun _ => ?_)
      refine PW_iload c_G_put_27 rfl ?_
      refine PW_ireturn (ty := .int) c_G_put_29 rfl rfl ?_
      exact h
    · refine PW.deeper (k := (3, 0, 0, z)) (Nat.le_of_ble_eq_true rfl) (Nat.le_refl _) (Nat.le_refl _) ?_
      refine PW_aload_n c_M_put_0 rfl ?_
      refine PW_iload_n c_M_put_1 rfl ?_
      refine PW_iload_n c_M_put_2 rfl ?_
      refine PW_V0 (d2 := 2) (st := []) [.int (nI j), .int a2] c_M_put_3 lk_M_put_403 (po_70 _ _) rfl rfl rfl (Nat.le_of_ble_eq_true rfl) (by first | decide | omega) (Nat.le_of_ble_eq_true rfl) ?_
      show PW _ _ _ 0 [some (.ref 70), some (.int (nI j)), some (.int a2)] [] (E x y)
      refine PW_iload_n c_M_whyNoPlace_0 rfl ?_
      refine PW_S0 (d2 := 1) (st := []) [.int (nI j)] c_M_whyNoPlace_1 lk_M_whyNoPlace_143 rfl rfl rfl (Nat.le_of_ble_eq_true rfl) (by first | decide | omega) (Nat.le_of_ble_eq_true rfl) ?_
      refine sp_M_isShelf2  ?_
      show PW _ _ _ 4 [some (.ref 70), some (.int (nI j)), some (.int a2)] [.int (b2i (0 ≤ (nI j).toInt ∧ (nI j).toInt < 6))] (E x y)
      refine PW_if_ne c_M_whyNoPlace_4 (fun _ => ?_) (fun h0 => absurd hjs (b2i_0.mp h0))
      refine PW_aload_n c_M_whyNoPlace_9 rfl ?_
      refine PW_get (v := .ref 104) c_M_whyNoPlace_10 fl_M_111 (gf_70_53 _ _) ?_
      refine PW_iload_n c_M_whyNoPlace_13 rfl ?_
      refine PW_iald (j := j) c_M_whyNoPlace_14 (ar_104 _ _) (vp_in_nI hj (by decide)) (nI_clamp (by omega)) ?_
      show PW _ _ _ 15 [some (.ref 70), some (.int (nI j)), some (.int a2)] [.int ((y.2.1 104) j)] (E x y)
      refine PW_iconst (v := -1) c_M_whyNoPlace_15 (by decide) ?_
      refine PW_icmp_ne c_M_whyNoPlace_16 (fun h1 => ?_) (fun h1 => absurd h1 (ho_b e1))
      refine PW_aload_n c_M_whyNoPlace_22 rfl ?_
      refine PW_get (v := .ref 104) c_M_whyNoPlace_23 fl_M_111 (gf_70_53 _ _) ?_
      refine PW_iload_n c_M_whyNoPlace_26 rfl ?_
      refine PW_iald (j := j) c_M_whyNoPlace_27 (ar_104 _ _) (vp_in_nI hj (by decide)) (nI_clamp (by omega)) ?_
      show PW _ _ _ 28 [some (.ref 70), some (.int (nI j)), some (.int a2)] [.int ((y.2.1 104) j)] (E x y)
      refine PW_if_lt c_M_whyNoPlace_28 (fun h2 => absurd h2 (ho_b0 e1)) (fun h2 => ?_)
      refine PW_bipush (v := -12) c_M_whyNoPlace_31 (by decide) ?_
      refine PW_ireturn (ty := .int) c_M_whyNoPlace_33 rfl rfl ?_
      show PW _ _ _ 6 [some (.ref 70), some (.int (nI j)), some (.int a2), some (.long a3), none, none, none] [.int (-12)] (E x y)
      refine PW_istore (i := 5) (L2 := [some (.ref 70), some (.int (nI j)), some (.int a2), some (.long a3), none, some (.int (-12)), none]) c_M_put_6 (Nat.le_of_ble_eq_true rfl) rfl rfl ?_
      refine PW_iload c_M_put_8 rfl ?_
      refine PW_if_ge c_M_put_10 (fun h3 => absurd h3 (by decide)) (fun _ => ?_)
      refine PW_iload c_M_put_13 rfl ?_
      refine PW_ireturn (ty := .int) c_M_put_15 rfl rfl ?_
      exact h
  · have hzz : 0 ≤ (x.1 ((58 + 2 * j) * 8 + 4)).toInt := by rw [e7, nI_toInt (by omega)]; omega
    have hz2 : (x.1 ((58 + 2 * j) * 8 + 4)).toInt = n := by rw [e7, nI_toInt (by omega)]
    have hz3 := isB (b := a2) e6 (by omega)
    by_cases hc1 : 0 ≤ a2.toInt ∧ a2.toInt < (n : Int)
    · obtain ⟨q, q1, q2, q3, q4⟩ := nI_ex hc1.1
      have q5 : q < n := by omega
      have hp : 0 ≤ a2.toInt ∧ 0 ≤ (1 : Int32).toInt ∧ (1 : Int32).toInt ≤ (x.1 ((58 + 2 * j) * 8 + 4)).toInt ∧ a2.toInt ≤ (x.1 ((58 + 2 * j) * 8 + 4)).toInt - (1 : Int32).toInt := by rw [hz2, tiA.2.1]; omega
      rcases (show s = 0 ∨ s = 1 ∨ s = 2 ∨ s = 3 ∨ s = 4 by omega) with rfl | rfl | rfl | rfl | rfl
      · refine ⟨1, sG x (59 + 2 * j) (vp_updL (x.2.2 (59 + 2 * j)) q a3.toInt32.toInt8.toInt32.toInt64), sG y 106 (vp_updL (y.2.2 106) (60 * j + q) a3.toInt32.toInt8.toInt32.toInt64), ?_, fun {z post} h => ?_, fun {z post} h => ?_⟩
        · refine ⟨hg.cg (fun n q1 q2 => by first | rfl | (simp only [sI_1, sI_A, sI_G, sA_1, sA_A, sA_G, sG_1, sG_A, sG_G]; repeat rw [if_neg (by omega)])) (fun n q1 q2 => by first | rfl | (simp only [sI_1, sI_A, sI_G, sA_1, sA_A, sA_G, sG_1, sG_A, sG_G]; repeat rw [if_neg (by omega)])) (by first | rfl | (simp only [sI_1, sI_A, sI_G, sA_1, sA_A, sA_G, sG_1, sG_A, sG_G]; repeat rw [if_neg (by omega)])) (fun n q1 q2 => by first | rfl | (simp only [sI_1, sI_A, sI_G, sA_1, sA_A, sA_G, sG_1, sG_A, sG_G]; repeat rw [if_neg (by omega)])), hc.cg (fun n q1 q2 => by first | rfl | (simp only [sI_1, sI_A, sI_G, sA_1, sA_A, sA_G, sG_1, sG_A, sG_G]; repeat rw [if_neg (by omega)])) (fun n q1 q2 => by first | rfl | (simp only [sI_1, sI_A, sI_G, sA_1, sA_A, sA_G, sG_1, sG_A, sG_G]; repeat rw [if_neg (by omega)])) (fun n q1 q2 => by first | rfl | (simp only [sI_1, sI_A, sI_G, sA_1, sA_A, sA_G, sG_1, sG_A, sG_G]; repeat rw [if_neg (by omega)])) (fun n q1 q2 => by first | rfl | (simp only [sI_1, sI_A, sI_G, sA_1, sA_A, sA_G, sG_1, sG_A, sG_G]; repeat rw [if_neg (by omega)])) (Nat.le_of_eq (nG_cg (by first | rfl | (simp only [sI_1, sI_A, sI_G, sA_1, sA_A, sA_G, sG_1, sG_A, sG_G]; repeat rw [if_neg (by omega)]))).symm), ht0.cg (by first | rfl | (simp only [sI_1, sI_A, sI_G, sA_1, sA_A, sA_G, sG_1, sG_A, sG_G]; repeat rw [if_neg (by omega)])) (by first | rfl | (simp only [sI_1, sI_A, sI_G, sA_1, sA_A, sA_G, sG_1, sG_A, sG_G]; repeat rw [if_neg (by omega)])) (by first | rfl | (simp only [sI_1, sI_A, sI_G, sA_1, sA_A, sA_G, sG_1, sG_A, sG_G]; repeat rw [if_neg (by omega)])) (by first | rfl | (simp only [sI_1, sI_A, sI_G, sA_1, sA_A, sA_G, sG_1, sG_A, sG_G]; repeat rw [if_neg (by omega)])), hl.cg (by first | rfl | (simp only [sI_1, sI_A, sI_G, sA_1, sA_A, sA_G, sG_1, sG_A, sG_G]; repeat rw [if_neg (by omega)])) (fun n q1 q2 => by first | rfl | (simp only [sI_1, sI_A, sI_G, sA_1, sA_A, sA_G, sG_1, sG_A, sG_G]; repeat rw [if_neg (by omega)])) (by first | rfl | (simp only [sI_1, sI_A, sI_G, sA_1, sA_A, sA_G, sG_1, sG_A, sG_G]; repeat rw [if_neg (by omega)])) (fun n q1 q2 => by first | rfl | (simp only [sI_1, sI_A, sI_G, sA_1, sA_A, sA_G, sG_1, sG_A, sG_G]; repeat rw [if_neg (by omega)])), hd.cg (Nat.le_succ _) (fun n q1 q2 => by first | rfl | (simp only [sI_1, sI_A, sI_G, sA_1, sA_A, sA_G, sG_1, sG_A, sG_G]; repeat rw [if_neg (by omega)])) (by first | rfl | (simp only [sI_1, sI_A, sI_G, sA_1, sA_A, sA_G, sG_1, sG_A, sG_G]; repeat rw [if_neg (by omega)])) (by first | rfl | (simp only [sI_1, sI_A, sI_G, sA_1, sA_A, sA_G, sG_1, sG_A, sG_G]; repeat rw [if_neg (by omega)])) (fun n q1 q2 => by first | rfl | (simp only [sI_1, sI_A, sI_G, sA_1, sA_A, sA_G, sG_1, sG_A, sG_G]; repeat rw [if_neg (by omega)])), hb.cg (fun n q1 q2 => by first | rfl | (simp only [sI_1, sI_A, sI_G, sA_1, sA_A, sA_G, sG_1, sG_A, sG_G]; repeat rw [if_neg (by omega)])) (fun n q1 q2 => by first | rfl | (simp only [sI_1, sI_A, sI_G, sA_1, sA_A, sA_G, sG_1, sG_A, sG_G]; repeat rw [if_neg (by omega)])) (fun n q1 q2 => by first | rfl | (simp only [sI_1, sI_A, sI_G, sA_1, sA_A, sA_G, sG_1, sG_A, sG_G]; repeat rw [if_neg (by omega)])) (fun n q1 q2 => by first | rfl | (simp only [sI_1, sI_A, sI_G, sA_1, sA_A, sA_G, sG_1, sG_A, sG_G]; repeat rw [if_neg (by omega)])), ?_⟩
          · intro i hi
            by_cases hij : i = j
            · subst hij
              have g1 : (sG x (59 + 2 * i) (vp_updL (x.2.2 (59 + 2 * i)) q (a3.toInt32.toInt8.toInt32.toInt64))).2.2 (59 + 2 * i) = vp_updL (x.2.2 (59 + 2 * i)) q (a3.toInt32.toInt8.toInt32.toInt64) := if_pos rfl
              unfold CPs1
              right; right
              refine ⟨0, n, by omega, e2, e3, e4, e5, e6, e7, fun i2 hi2 => ?_⟩
              rw [g1]
              show vp_updL (x.2.2 (59 + 2 * i)) q (a3.toInt32.toInt8.toInt32.toInt64) i2 = vp_updL (y.2.2 106) (60 * i + q) (a3.toInt32.toInt8.toInt32.toInt64) (60 * i + i2) ∧ (0 = 0 → -128 ≤ (vp_updL (y.2.2 106) (60 * i + q) (a3.toInt32.toInt8.toInt32.toInt64) (60 * i + i2)).toInt ∧ (vp_updL (y.2.2 106) (60 * i + q) (a3.toInt32.toInt8.toInt32.toInt64) (60 * i + i2)).toInt ≤ 127)
              by_cases hq : i2 = q
              · subst hq
                rw [updL_s, updL_s]
                exact ⟨rfl, fun _ => bt_rng _⟩
              · rw [updL_n hq, updL_n (by omega)]
                exact e8 i2 hi2
            · exact (hs i hi).cg (fun k q1 q2 => by first | rfl | (repeat rw [sI_n (by omega)])) (by exact if_neg (by omega)) (by first | exact Int.le_refl _ | (simp only [sI_1, sI_A, sI_G, sA_1, sA_A, sA_G, sG_1, sG_A, sG_G]; repeat rw [if_neg (by omega)])) (by first | rfl | exact upd_n hij) (by first | rfl | exact upd_n hij) (fun k hk => by exact updL_n (by omega))
        · refine PW.deeper (k := (2, 0, 0, z)) (Nat.le_of_ble_eq_true rfl) (Nat.le_refl _) (Nat.le_refl _) ?_
          refine PW_aload_n c_G_put_0 rfl ?_
          refine PW_iload_n c_G_put_1 rfl ?_
          refine PW_V0 (d2 := 0) (st := []) [.int (nI j)] c_G_put_2 lk_G_put_102 (po_5 _ _) rfl rfl rfl (Nat.le_of_ble_eq_true rfl) (by first | decide | omega) (Nat.le_of_ble_eq_true rfl) ?_
          refine sp_shelf hj ?_
          show PW _ _ _ 5 [some (.ref 5), some (.int (nI j)), some (.int a2), some (.long a3), none, none, none] [.ref (58 + 2 * j)] (E x y)
          refine PW_astore (i := 5) (L2 := [some (.ref 5), some (.int (nI j)), some (.int a2), some (.long a3), none, some (.ref (58 + 2 * j)), none]) c_G_put_5 (Nat.le_of_ble_eq_true rfl) rfl rfl ?_
          refine PW_aload c_G_put_7 rfl ?_
          refine PW_ifnonnull c_G_put_9 ?_
          refine PW_aload c_G_put_14 rfl ?_
          refine PW_iload_n c_G_put_16 rfl ?_
          refine PW_V0 (d2 := 1) (st := []) [.int a2] c_G_put_17 lk_G_put_327 (sh_po _ _ hj) rfl rfl rfl (Nat.le_of_ble_eq_true rfl) (by first | decide | omega) (Nat.le_of_ble_eq_true rfl) ?_
          show PW _ _ _ 0 [some (.ref (58 + 2 * j)), some (.int a2)] [] (E x y)
          refine PW_aload_n c_F_elementRefusal_0 rfl ?_
          refine PW_V0 (d2 := 0) (st := []) [] c_F_elementRefusal_1 lk_F_elementRefusal_37 (sh_po _ _ hj) rfl rfl rfl (Nat.le_of_ble_eq_true rfl) (by first | decide | omega) (Nat.le_of_ble_eq_true rfl) ?_
          refine sp_F_isEmpty hj  ?_
          show PW _ _ _ 4 [some (.ref (58 + 2 * j)), some (.int a2)] [.int (b2i (x.1 ((58 + 2 * j) * 8 + 1) = 0))] (E x y)
          refine PW_if_eq c_F_elementRefusal_4 (fun _ => ?_) (fun h0 => absurd (b2i_n0.mp h0) (by rw [e4]; decide))
          refine PW_aload_n c_F_elementRefusal_10 rfl ?_
          refine PW_V0 (d2 := 0) (st := []) [] c_F_elementRefusal_11 lk_F_elementRefusal_44 (sh_po _ _ hj) rfl rfl rfl (Nat.le_of_ble_eq_true rfl) (by first | decide | omega) (Nat.le_of_ble_eq_true rfl) ?_
          refine sp_F_holdsRow hj  ?_
          show PW _ _ _ 14 [some (.ref (58 + 2 * j)), some (.int a2)] [.int (b2i (x.1 ((58 + 2 * j) * 8 + 1) = 2))] (E x y)
          refine PW_if_ne c_F_elementRefusal_14 (fun _ => ?_) (fun h1 => absurd e4 (b2i_0.mp h1))
          refine PW_aload_n c_F_elementRefusal_20 rfl ?_
          refine PW_iload_n c_F_elementRefusal_21 rfl ?_
          refine PW_iconst (v := 1) c_F_elementRefusal_22 (by decide) ?_
          refine PW_V0 (d2 := 0) (st := []) [.int a2, .int 1] c_F_elementRefusal_23 lk_F_elementRefusal_47 (sh_po _ _ hj) rfl rfl rfl (Nat.le_of_ble_eq_true rfl) (by first | decide | omega) (Nat.le_of_ble_eq_true rfl) ?_
          refine sp_F_hasPlaces hj (by assumption) ?_
          show PW _ _ _ 26 [some (.ref (58 + 2 * j)), some (.int a2)] [.int (b2i (0 ≤ a2.toInt ∧ 0 ≤ (1 : Int32).toInt ∧ (1 : Int32).toInt ≤ (x.1 ((58 + 2 * j) * 8 + 4)).toInt ∧ a2.toInt ≤ (x.1 ((58 + 2 * j) * 8 + 4)).toInt - (1 : Int32).toInt))] (E x y)
          refine PW_if_eq c_F_elementRefusal_26 (fun h2 => absurd hp (b2i_0.mp h2)) (fun _ => ?_)
          refine PW_iconst (v := 0) c_F_elementRefusal_29 (by decide) ?_
          refine PW_goto c_F_elementRefusal_30 ?_
          refine PW_ireturn (ty := .int) c_F_elementRefusal_35 rfl rfl ?_
          show PW _ _ _ 20 [some (.ref 5), some (.int (nI j)), some (.int a2), some (.long a3), none, some (.ref (58 + 2 * j)), none] [.int 0] (E x y)
          refine PW_istore (i := 6) (L2 := [some (.ref 5), some (.int (nI j)), some (.int a2), some (.long a3), none, some (.ref (58 + 2 * j)), some (.int 0)]) c_G_put_20 (Nat.le_of_ble_eq_true rfl) rfl rfl ?_
          refine PW_iload c_G_put_22 rfl ?_
          refine PW_if_eq c_G_put_24 (fun _ => ?_) (fun h3 => absurd (by decide) h3)
          refine PW_aload c_G_put_30 rfl ?_
          refine PW_iload_n c_G_put_32 rfl ?_
          refine PW_lload_n c_G_put_33 rfl ?_
          refine PW_V0 (d2 := 1) (st := []) [.int a2, .long a3] c_G_put_34 lk_G_put_330 (sh_po _ _ hj) rfl rfl rfl (Nat.le_of_ble_eq_true rfl) (by first | decide | omega) (Nat.le_of_ble_eq_true rfl) ?_
          show PW _ _ _ 0 [some (.ref (58 + 2 * j)), some (.int a2), some (.long a3), none] [] (E x y)
          refine PW_aload_n c_F_write_0 rfl ?_
          refine PW_iload_n c_F_write_1 rfl ?_
          refine PW_iconst (v := 1) c_F_write_2 (by decide) ?_
          refine PW_V0 (d2 := 0) (st := []) [.int a2, .int 1] c_F_write_3 lk_F_write_47 (sh_po _ _ hj) rfl rfl rfl (Nat.le_of_ble_eq_true rfl) (by first | decide | omega) (Nat.le_of_ble_eq_true rfl) ?_
          refine sp_F_hasPlaces hj (by assumption) ?_
          show PW _ _ _ 6 [some (.ref (58 + 2 * j)), some (.int a2), some (.long a3), none] [.int (b2i (0 ≤ a2.toInt ∧ 0 ≤ (1 : Int32).toInt ∧ (1 : Int32).toInt ≤ (x.1 ((58 + 2 * j) * 8 + 4)).toInt ∧ a2.toInt ≤ (x.1 ((58 + 2 * j) * 8 + 4)).toInt - (1 : Int32).toInt))] (E x y)
          refine PW_if_eq c_F_write_6 (fun h4 => absurd hp (b2i_0.mp h4)) (fun _ => ?_)
          refine PW_aload_n c_F_write_9 rfl ?_
          refine PW_get (v := .ref (59 + 2 * j)) c_F_write_10 fl_F_11 (sh_g0 _ _ hj) ?_
          refine PW_iload_n c_F_write_13 rfl ?_
          refine PW_aload_n c_F_write_14 rfl ?_
          refine PW_lload_n c_F_write_15 rfl ?_
          refine PW_V0 (d2 := 0) (st := [.int a2, .ref (59 + 2 * j)]) [.long a3] c_F_write_16 lk_F_write_54 (sh_po _ _ hj) rfl rfl rfl (Nat.le_of_ble_eq_true rfl) (by first | decide | omega) (Nat.le_of_ble_eq_true rfl) ?_
          show PW _ _ _ 0 [some (.ref (58 + 2 * j)), some (.long a3), none] [] (E x y)
          refine PW_aload_n c_F_lowestBits_0 rfl ?_
          refine PW_get (v := .int (x.1 ((58 + 2 * j) * 8 + 3))) c_F_lowestBits_1 fl_F_19 (sh_g3 _ _ hj) ?_
          refine PW_tableIn (tgt := 36) (off := 32) c_F_lowestBits_4 (by rw [e5]; decide) (by rw [e5]; decide) (by rw [e5]; rfl) rfl ?_
          refine PW_lload_n c_F_lowestBits_36 rfl ?_
          refine PW_l2i c_F_lowestBits_37 ?_
          refine PW_i2b c_F_lowestBits_38 ?_
          refine PW_i2l c_F_lowestBits_39 ?_
          refine PW_lreturn c_F_lowestBits_40 rfl ?_
          show PW _ _ _ 19 [some (.ref (58 + 2 * j)), some (.int a2), some (.long a3), none] [.long a3.toInt32.toInt8.toInt32.toInt64, .int a2, .ref (59 + 2 * j)] (E x y)
          refine PW_last (j := q) (w2 := E (sG x (59 + 2 * j) (vp_updL (x.2.2 (59 + 2 * j)) q a3.toInt32.toInt8.toInt32.toInt64)) y) c_F_write_19 (sh_r _ _ hj) (by rw [q2]; exact vp_in_nI (by omega) (by decide)) (by rw [q2]; exact nI_clamp (by omega)) (sh_w _ _ hj _) ?_
          refine PW_vreturn c_F_write_20 rfl ?_
          show PW _ _ _ 37 [some (.ref 5), some (.int (nI j)), some (.int a2), some (.long a3), none, some (.ref (58 + 2 * j)), some (.int 0)] [] (E (sG x (59 + 2 * j) (vp_updL (x.2.2 (59 + 2 * j)) q a3.toInt32.toInt8.toInt32.toInt64)) y)
          refine PW_iconst (v := 1) c_G_put_37 (by decide) ?_
          refine PW_ireturn (ty := .int) c_G_put_38 rfl rfl ?_
          exact h
        · refine PW.deeper (k := (3, 0, 0, z)) (Nat.le_of_ble_eq_true rfl) (Nat.le_refl _) (Nat.le_refl _) ?_
          refine PW_aload_n c_M_put_0 rfl ?_
          refine PW_iload_n c_M_put_1 rfl ?_
          refine PW_iload_n c_M_put_2 rfl ?_
          refine PW_V0 (d2 := 2) (st := []) [.int (nI j), .int a2] c_M_put_3 lk_M_put_403 (po_70 _ _) rfl rfl rfl (Nat.le_of_ble_eq_true rfl) (by first | decide | omega) (Nat.le_of_ble_eq_true rfl) ?_
          show PW _ _ _ 0 [some (.ref 70), some (.int (nI j)), some (.int a2)] [] (E (sG x (59 + 2 * j) (vp_updL (x.2.2 (59 + 2 * j)) q a3.toInt32.toInt8.toInt32.toInt64)) y)
          refine PW_iload_n c_M_whyNoPlace_0 rfl ?_
          refine PW_S0 (d2 := 1) (st := []) [.int (nI j)] c_M_whyNoPlace_1 lk_M_whyNoPlace_143 rfl rfl rfl (Nat.le_of_ble_eq_true rfl) (by first | decide | omega) (Nat.le_of_ble_eq_true rfl) ?_
          refine sp_M_isShelf2  ?_
          show PW _ _ _ 4 [some (.ref 70), some (.int (nI j)), some (.int a2)] [.int (b2i (0 ≤ (nI j).toInt ∧ (nI j).toInt < 6))] (E (sG x (59 + 2 * j) (vp_updL (x.2.2 (59 + 2 * j)) q a3.toInt32.toInt8.toInt32.toInt64)) y)
          refine PW_if_ne c_M_whyNoPlace_4 (fun _ => ?_) (fun h0 => absurd hjs (b2i_0.mp h0))
          refine PW_aload_n c_M_whyNoPlace_9 rfl ?_
          refine PW_get (v := .ref 104) c_M_whyNoPlace_10 fl_M_111 (gf_70_53 _ _) ?_
          refine PW_iload_n c_M_whyNoPlace_13 rfl ?_
          refine PW_iald (j := j) c_M_whyNoPlace_14 (ar_104 _ _) (vp_in_nI hj (by decide)) (nI_clamp (by omega)) ?_
          show PW _ _ _ 15 [some (.ref 70), some (.int (nI j)), some (.int a2)] [.int ((y.2.1 104) j)] (E (sG x (59 + 2 * j) (vp_updL (x.2.2 (59 + 2 * j)) q a3.toInt32.toInt8.toInt32.toInt64)) y)
          refine PW_iconst (v := -1) c_M_whyNoPlace_15 (by decide) ?_
          refine PW_icmp_ne c_M_whyNoPlace_16 (fun h1 => ?_) (fun h1 => absurd h1 (by rw [e3]; exact ho_n1 e1))
          refine PW_aload_n c_M_whyNoPlace_22 rfl ?_
          refine PW_get (v := .ref 104) c_M_whyNoPlace_23 fl_M_111 (gf_70_53 _ _) ?_
          refine PW_iload_n c_M_whyNoPlace_26 rfl ?_
          refine PW_iald (j := j) c_M_whyNoPlace_27 (ar_104 _ _) (vp_in_nI hj (by decide)) (nI_clamp (by omega)) ?_
          show PW _ _ _ 28 [some (.ref 70), some (.int (nI j)), some (.int a2)] [.int ((y.2.1 104) j)] (E (sG x (59 + 2 * j) (vp_updL (x.2.2 (59 + 2 * j)) q a3.toInt32.toInt8.toInt32.toInt64)) y)
          refine PW_if_lt c_M_whyNoPlace_28 (fun h2 => ?_) (fun h2 => absurd (by rw [e3]; exact ho_lt e1) h2)
          refine PW_iload_n c_M_whyNoPlace_34 rfl ?_
          refine PW_iconst (v := 0) c_M_whyNoPlace_35 (by decide) ?_
          refine PW_aload_n c_M_whyNoPlace_36 rfl ?_
          refine PW_get (v := .ref 105) c_M_whyNoPlace_37 fl_M_114 (gf_70_54 _ _) ?_
          refine PW_iload_n c_M_whyNoPlace_40 rfl ?_
          refine PW_iald (j := j) c_M_whyNoPlace_41 (ar_105 _ _) (vp_in_nI hj (by decide)) (nI_clamp (by omega)) ?_
          show PW _ _ _ 42 [some (.ref 70), some (.int (nI j)), some (.int a2)] [.int ((y.2.1 105) j), .int 0, .int a2] (E (sG x (59 + 2 * j) (vp_updL (x.2.2 (59 + 2 * j)) q a3.toInt32.toInt8.toInt32.toInt64)) y)
          refine PW_iconst (v := 1) c_M_whyNoPlace_42 (by decide) ?_
          refine PW_isub c_M_whyNoPlace_43 ?_
          refine PW_S0 (d2 := 0) (st := []) [.int a2, .int 0, .int (((y.2.1 105) j) - 1)] c_M_whyNoPlace_44 lk_M_whyNoPlace_131 rfl rfl rfl (Nat.le_of_ble_eq_true rfl) (by first | decide | omega) (Nat.le_of_ble_eq_true rfl) ?_
          refine sp_M_within  ?_
          show PW _ _ _ 47 [some (.ref 70), some (.int (nI j)), some (.int a2)] [.int (b2i ((0 : Int32) ≤ a2 ∧ a2 ≤ (((y.2.1 105) j) - 1)))] (E (sG x (59 + 2 * j) (vp_updL (x.2.2 (59 + 2 * j)) q a3.toInt32.toInt8.toInt32.toInt64)) y)
          refine PW_if_eq c_M_whyNoPlace_47 (fun h3 => absurd (hz3.mpr hc1) (b2i_0.mp h3)) (fun _ => ?_)
          refine PW_iconst (v := 0) c_M_whyNoPlace_50 (by decide) ?_
          refine PW_goto c_M_whyNoPlace_51 ?_
          refine PW_ireturn (ty := .int) c_M_whyNoPlace_56 rfl rfl ?_
          show PW _ _ _ 6 [some (.ref 70), some (.int (nI j)), some (.int a2), some (.long a3), none, none, none] [.int 0] (E (sG x (59 + 2 * j) (vp_updL (x.2.2 (59 + 2 * j)) q a3.toInt32.toInt8.toInt32.toInt64)) y)
          refine PW_istore (i := 5) (L2 := [some (.ref 70), some (.int (nI j)), some (.int a2), some (.long a3), none, some (.int 0), none]) c_M_put_6 (Nat.le_of_ble_eq_true rfl) rfl rfl ?_
          refine PW_iload c_M_put_8 rfl ?_
          refine PW_if_ge c_M_put_10 (fun _ => ?_) (fun h4 => absurd (by decide) h4)
          refine PW_bipush (v := -2) c_M_put_16 (by decide) ?_
          refine PW_aload_n c_M_put_18 rfl ?_
          refine PW_get (v := .ref 104) c_M_put_19 fl_M_111 (gf_70_53 _ _) ?_
          refine PW_iload_n c_M_put_22 rfl ?_
          refine PW_iald (j := j) c_M_put_23 (ar_104 _ _) (vp_in_nI hj (by decide)) (nI_clamp (by omega)) ?_
          show PW _ _ _ 24 [some (.ref 70), some (.int (nI j)), some (.int a2), some (.long a3), none, some (.int 0), none] [.int ((y.2.1 104) j), .int (-2)] (E (sG x (59 + 2 * j) (vp_updL (x.2.2 (59 + 2 * j)) q a3.toInt32.toInt8.toInt32.toInt64)) y)
          refine PW_isub c_M_put_24 ?_
          refine PW_istore (i := 6) (L2 := [some (.ref 70), some (.int (nI j)), some (.int a2), some (.long a3), none, some (.int 0), some (.int ((-2) - ((y.2.1 104) j)))]) c_M_put_25 (Nat.le_of_ble_eq_true rfl) rfl rfl ?_
          refine PW_aload_n c_M_put_27 rfl ?_
          refine PW_get (v := .ref 106) c_M_put_28 fl_M_117 (gf_70_55 _ _) ?_
          refine PW_bipush (v := 60) c_M_put_31 (by decide) ?_
          refine PW_iload_n c_M_put_33 rfl ?_
          refine PW_imul c_M_put_34 ?_
          refine PW_iload_n c_M_put_35 rfl ?_
          refine PW_iadd c_M_put_36 ?_
          refine PW_iload c_M_put_37 rfl ?_
          refine PW_if_ne c_M_put_39 (fun h5 => absurd h5 (not_not_intro (by rw [e3]; decide))) (fun h5 => ?_)
          refine PW_lload_n c_M_put_42 rfl ?_
          refine PW_l2i c_M_put_43 ?_
          refine PW_i2b c_M_put_44 ?_
          refine PW_i2l c_M_put_45 ?_
          refine PW_goto c_M_put_46 ?_
          refine PW_last (j := 60 * j + q) (w2 := E (sG x (59 + 2 * j) (vp_updL (x.2.2 (59 + 2 * j)) q a3.toInt32.toInt8.toInt32.toInt64)) (sG y 106 (vp_updL (y.2.2 106) (60 * j + q) a3.toInt32.toInt8.toInt32.toInt64))) c_M_put_95 (ar_106 _ _) (by rw [show (60 : Int32) = nI 60 from rfl, q2, pk_mul, nI_add]; exact vp_in_nI (by omega) (by decide)) (by rw [show (60 : Int32) = nI 60 from rfl, q2, pk_mul, nI_add]; exact nI_clamp (by omega)) (aw_106 _ _ _) ?_
          refine PW_iconst (v := 1) c_M_put_96 (by decide) ?_
          refine PW_ireturn (ty := .int) c_M_put_97 rfl rfl ?_
          exact h
      · refine ⟨1, sG x (59 + 2 * j) (vp_updL (x.2.2 (59 + 2 * j)) q a3.toInt32.toInt16.toInt32.toInt64), sG y 106 (vp_updL (y.2.2 106) (60 * j + q) a3.toInt32.toInt16.toInt32.toInt64), ?_, fun {z post} h => ?_, fun {z post} h => ?_⟩
        · refine ⟨hg.cg (fun n q1 q2 => by first | rfl | (simp only [sI_1, sI_A, sI_G, sA_1, sA_A, sA_G, sG_1, sG_A, sG_G]; repeat rw [if_neg (by omega)])) (fun n q1 q2 => by first | rfl | (simp only [sI_1, sI_A, sI_G, sA_1, sA_A, sA_G, sG_1, sG_A, sG_G]; repeat rw [if_neg (by omega)])) (by first | rfl | (simp only [sI_1, sI_A, sI_G, sA_1, sA_A, sA_G, sG_1, sG_A, sG_G]; repeat rw [if_neg (by omega)])) (fun n q1 q2 => by first | rfl | (simp only [sI_1, sI_A, sI_G, sA_1, sA_A, sA_G, sG_1, sG_A, sG_G]; repeat rw [if_neg (by omega)])), hc.cg (fun n q1 q2 => by first | rfl | (simp only [sI_1, sI_A, sI_G, sA_1, sA_A, sA_G, sG_1, sG_A, sG_G]; repeat rw [if_neg (by omega)])) (fun n q1 q2 => by first | rfl | (simp only [sI_1, sI_A, sI_G, sA_1, sA_A, sA_G, sG_1, sG_A, sG_G]; repeat rw [if_neg (by omega)])) (fun n q1 q2 => by first | rfl | (simp only [sI_1, sI_A, sI_G, sA_1, sA_A, sA_G, sG_1, sG_A, sG_G]; repeat rw [if_neg (by omega)])) (fun n q1 q2 => by first | rfl | (simp only [sI_1, sI_A, sI_G, sA_1, sA_A, sA_G, sG_1, sG_A, sG_G]; repeat rw [if_neg (by omega)])) (Nat.le_of_eq (nG_cg (by first | rfl | (simp only [sI_1, sI_A, sI_G, sA_1, sA_A, sA_G, sG_1, sG_A, sG_G]; repeat rw [if_neg (by omega)]))).symm), ht0.cg (by first | rfl | (simp only [sI_1, sI_A, sI_G, sA_1, sA_A, sA_G, sG_1, sG_A, sG_G]; repeat rw [if_neg (by omega)])) (by first | rfl | (simp only [sI_1, sI_A, sI_G, sA_1, sA_A, sA_G, sG_1, sG_A, sG_G]; repeat rw [if_neg (by omega)])) (by first | rfl | (simp only [sI_1, sI_A, sI_G, sA_1, sA_A, sA_G, sG_1, sG_A, sG_G]; repeat rw [if_neg (by omega)])) (by first | rfl | (simp only [sI_1, sI_A, sI_G, sA_1, sA_A, sA_G, sG_1, sG_A, sG_G]; repeat rw [if_neg (by omega)])), hl.cg (by first | rfl | (simp only [sI_1, sI_A, sI_G, sA_1, sA_A, sA_G, sG_1, sG_A, sG_G]; repeat rw [if_neg (by omega)])) (fun n q1 q2 => by first | rfl | (simp only [sI_1, sI_A, sI_G, sA_1, sA_A, sA_G, sG_1, sG_A, sG_G]; repeat rw [if_neg (by omega)])) (by first | rfl | (simp only [sI_1, sI_A, sI_G, sA_1, sA_A, sA_G, sG_1, sG_A, sG_G]; repeat rw [if_neg (by omega)])) (fun n q1 q2 => by first | rfl | (simp only [sI_1, sI_A, sI_G, sA_1, sA_A, sA_G, sG_1, sG_A, sG_G]; repeat rw [if_neg (by omega)])), hd.cg (Nat.le_succ _) (fun n q1 q2 => by first | rfl | (simp only [sI_1, sI_A, sI_G, sA_1, sA_A, sA_G, sG_1, sG_A, sG_G]; repeat rw [if_neg (by omega)])) (by first | rfl | (simp only [sI_1, sI_A, sI_G, sA_1, sA_A, sA_G, sG_1, sG_A, sG_G]; repeat rw [if_neg (by omega)])) (by first | rfl | (simp only [sI_1, sI_A, sI_G, sA_1, sA_A, sA_G, sG_1, sG_A, sG_G]; repeat rw [if_neg (by omega)])) (fun n q1 q2 => by first | rfl | (simp only [sI_1, sI_A, sI_G, sA_1, sA_A, sA_G, sG_1, sG_A, sG_G]; repeat rw [if_neg (by omega)])), hb.cg (fun n q1 q2 => by first | rfl | (simp only [sI_1, sI_A, sI_G, sA_1, sA_A, sA_G, sG_1, sG_A, sG_G]; repeat rw [if_neg (by omega)])) (fun n q1 q2 => by first | rfl | (simp only [sI_1, sI_A, sI_G, sA_1, sA_A, sA_G, sG_1, sG_A, sG_G]; repeat rw [if_neg (by omega)])) (fun n q1 q2 => by first | rfl | (simp only [sI_1, sI_A, sI_G, sA_1, sA_A, sA_G, sG_1, sG_A, sG_G]; repeat rw [if_neg (by omega)])) (fun n q1 q2 => by first | rfl | (simp only [sI_1, sI_A, sI_G, sA_1, sA_A, sA_G, sG_1, sG_A, sG_G]; repeat rw [if_neg (by omega)])), ?_⟩
          · intro i hi
            by_cases hij : i = j
            · subst hij
              have g1 : (sG x (59 + 2 * i) (vp_updL (x.2.2 (59 + 2 * i)) q (a3.toInt32.toInt16.toInt32.toInt64))).2.2 (59 + 2 * i) = vp_updL (x.2.2 (59 + 2 * i)) q (a3.toInt32.toInt16.toInt32.toInt64) := if_pos rfl
              unfold CPs1
              right; right
              refine ⟨1, n, by omega, e2, e3, e4, e5, e6, e7, fun i2 hi2 => ?_⟩
              rw [g1]
              show vp_updL (x.2.2 (59 + 2 * i)) q (a3.toInt32.toInt16.toInt32.toInt64) i2 = vp_updL (y.2.2 106) (60 * i + q) (a3.toInt32.toInt16.toInt32.toInt64) (60 * i + i2) ∧ (1 = 0 → -128 ≤ (vp_updL (y.2.2 106) (60 * i + q) (a3.toInt32.toInt16.toInt32.toInt64) (60 * i + i2)).toInt ∧ (vp_updL (y.2.2 106) (60 * i + q) (a3.toInt32.toInt16.toInt32.toInt64) (60 * i + i2)).toInt ≤ 127)
              by_cases hq : i2 = q
              · subst hq
                rw [updL_s, updL_s]
                exact ⟨rfl, fun q => absurd q (by decide)⟩
              · rw [updL_n hq, updL_n (by omega)]
                exact e8 i2 hi2
            · exact (hs i hi).cg (fun k q1 q2 => by first | rfl | (repeat rw [sI_n (by omega)])) (by exact if_neg (by omega)) (by first | exact Int.le_refl _ | (simp only [sI_1, sI_A, sI_G, sA_1, sA_A, sA_G, sG_1, sG_A, sG_G]; repeat rw [if_neg (by omega)])) (by first | rfl | exact upd_n hij) (by first | rfl | exact upd_n hij) (fun k hk => by exact updL_n (by omega))
        · refine PW.deeper (k := (2, 0, 0, z)) (Nat.le_of_ble_eq_true rfl) (Nat.le_refl _) (Nat.le_refl _) ?_
          refine PW_aload_n c_G_put_0 rfl ?_
          refine PW_iload_n c_G_put_1 rfl ?_
          refine PW_V0 (d2 := 0) (st := []) [.int (nI j)] c_G_put_2 lk_G_put_102 (po_5 _ _) rfl rfl rfl (Nat.le_of_ble_eq_true rfl) (by first | decide | omega) (Nat.le_of_ble_eq_true rfl) ?_
          refine sp_shelf hj ?_
          show PW _ _ _ 5 [some (.ref 5), some (.int (nI j)), some (.int a2), some (.long a3), none, none, none] [.ref (58 + 2 * j)] (E x y)
          refine PW_astore (i := 5) (L2 := [some (.ref 5), some (.int (nI j)), some (.int a2), some (.long a3), none, some (.ref (58 + 2 * j)), none]) c_G_put_5 (Nat.le_of_ble_eq_true rfl) rfl rfl ?_
          refine PW_aload c_G_put_7 rfl ?_
          refine PW_ifnonnull c_G_put_9 ?_
          refine PW_aload c_G_put_14 rfl ?_
          refine PW_iload_n c_G_put_16 rfl ?_
          refine PW_V0 (d2 := 1) (st := []) [.int a2] c_G_put_17 lk_G_put_327 (sh_po _ _ hj) rfl rfl rfl (Nat.le_of_ble_eq_true rfl) (by first | decide | omega) (Nat.le_of_ble_eq_true rfl) ?_
          show PW _ _ _ 0 [some (.ref (58 + 2 * j)), some (.int a2)] [] (E x y)
          refine PW_aload_n c_F_elementRefusal_0 rfl ?_
          refine PW_V0 (d2 := 0) (st := []) [] c_F_elementRefusal_1 lk_F_elementRefusal_37 (sh_po _ _ hj) rfl rfl rfl (Nat.le_of_ble_eq_true rfl) (by first | decide | omega) (Nat.le_of_ble_eq_true rfl) ?_
          refine sp_F_isEmpty hj  ?_
          show PW _ _ _ 4 [some (.ref (58 + 2 * j)), some (.int a2)] [.int (b2i (x.1 ((58 + 2 * j) * 8 + 1) = 0))] (E x y)
          refine PW_if_eq c_F_elementRefusal_4 (fun _ => ?_) (fun h0 => absurd (b2i_n0.mp h0) (by rw [e4]; decide))
          refine PW_aload_n c_F_elementRefusal_10 rfl ?_
          refine PW_V0 (d2 := 0) (st := []) [] c_F_elementRefusal_11 lk_F_elementRefusal_44 (sh_po _ _ hj) rfl rfl rfl (Nat.le_of_ble_eq_true rfl) (by first | decide | omega) (Nat.le_of_ble_eq_true rfl) ?_
          refine sp_F_holdsRow hj  ?_
          show PW _ _ _ 14 [some (.ref (58 + 2 * j)), some (.int a2)] [.int (b2i (x.1 ((58 + 2 * j) * 8 + 1) = 2))] (E x y)
          refine PW_if_ne c_F_elementRefusal_14 (fun _ => ?_) (fun h1 => absurd e4 (b2i_0.mp h1))
          refine PW_aload_n c_F_elementRefusal_20 rfl ?_
          refine PW_iload_n c_F_elementRefusal_21 rfl ?_
          refine PW_iconst (v := 1) c_F_elementRefusal_22 (by decide) ?_
          refine PW_V0 (d2 := 0) (st := []) [.int a2, .int 1] c_F_elementRefusal_23 lk_F_elementRefusal_47 (sh_po _ _ hj) rfl rfl rfl (Nat.le_of_ble_eq_true rfl) (by first | decide | omega) (Nat.le_of_ble_eq_true rfl) ?_
          refine sp_F_hasPlaces hj (by assumption) ?_
          show PW _ _ _ 26 [some (.ref (58 + 2 * j)), some (.int a2)] [.int (b2i (0 ≤ a2.toInt ∧ 0 ≤ (1 : Int32).toInt ∧ (1 : Int32).toInt ≤ (x.1 ((58 + 2 * j) * 8 + 4)).toInt ∧ a2.toInt ≤ (x.1 ((58 + 2 * j) * 8 + 4)).toInt - (1 : Int32).toInt))] (E x y)
          refine PW_if_eq c_F_elementRefusal_26 (fun h2 => absurd hp (b2i_0.mp h2)) (fun _ => ?_)
          refine PW_iconst (v := 0) c_F_elementRefusal_29 (by decide) ?_
          refine PW_goto c_F_elementRefusal_30 ?_
          refine PW_ireturn (ty := .int) c_F_elementRefusal_35 rfl rfl ?_
          show PW _ _ _ 20 [some (.ref 5), some (.int (nI j)), some (.int a2), some (.long a3), none, some (.ref (58 + 2 * j)), none] [.int 0] (E x y)
          refine PW_istore (i := 6) (L2 := [some (.ref 5), some (.int (nI j)), some (.int a2), some (.long a3), none, some (.ref (58 + 2 * j)), some (.int 0)]) c_G_put_20 (Nat.le_of_ble_eq_true rfl) rfl rfl ?_
          refine PW_iload c_G_put_22 rfl ?_
          refine PW_if_eq c_G_put_24 (fun _ => ?_) (fun h3 => absurd (by decide) h3)
          refine PW_aload c_G_put_30 rfl ?_
          refine PW_iload_n c_G_put_32 rfl ?_
          refine PW_lload_n c_G_put_33 rfl ?_
          refine PW_V0 (d2 := 1) (st := []) [.int a2, .long a3] c_G_put_34 lk_G_put_330 (sh_po _ _ hj) rfl rfl rfl (Nat.le_of_ble_eq_true rfl) (by first | decide | omega) (Nat.le_of_ble_eq_true rfl) ?_
          show PW _ _ _ 0 [some (.ref (58 + 2 * j)), some (.int a2), some (.long a3), none] [] (E x y)
          refine PW_aload_n c_F_write_0 rfl ?_
          refine PW_iload_n c_F_write_1 rfl ?_
          refine PW_iconst (v := 1) c_F_write_2 (by decide) ?_
          refine PW_V0 (d2 := 0) (st := []) [.int a2, .int 1] c_F_write_3 lk_F_write_47 (sh_po _ _ hj) rfl rfl rfl (Nat.le_of_ble_eq_true rfl) (by first | decide | omega) (Nat.le_of_ble_eq_true rfl) ?_
          refine sp_F_hasPlaces hj (by assumption) ?_
          show PW _ _ _ 6 [some (.ref (58 + 2 * j)), some (.int a2), some (.long a3), none] [.int (b2i (0 ≤ a2.toInt ∧ 0 ≤ (1 : Int32).toInt ∧ (1 : Int32).toInt ≤ (x.1 ((58 + 2 * j) * 8 + 4)).toInt ∧ a2.toInt ≤ (x.1 ((58 + 2 * j) * 8 + 4)).toInt - (1 : Int32).toInt))] (E x y)
          refine PW_if_eq c_F_write_6 (fun h4 => absurd hp (b2i_0.mp h4)) (fun _ => ?_)
          refine PW_aload_n c_F_write_9 rfl ?_
          refine PW_get (v := .ref (59 + 2 * j)) c_F_write_10 fl_F_11 (sh_g0 _ _ hj) ?_
          refine PW_iload_n c_F_write_13 rfl ?_
          refine PW_aload_n c_F_write_14 rfl ?_
          refine PW_lload_n c_F_write_15 rfl ?_
          refine PW_V0 (d2 := 0) (st := [.int a2, .ref (59 + 2 * j)]) [.long a3] c_F_write_16 lk_F_write_54 (sh_po _ _ hj) rfl rfl rfl (Nat.le_of_ble_eq_true rfl) (by first | decide | omega) (Nat.le_of_ble_eq_true rfl) ?_
          show PW _ _ _ 0 [some (.ref (58 + 2 * j)), some (.long a3), none] [] (E x y)
          refine PW_aload_n c_F_lowestBits_0 rfl ?_
          refine PW_get (v := .int (x.1 ((58 + 2 * j) * 8 + 3))) c_F_lowestBits_1 fl_F_19 (sh_g3 _ _ hj) ?_
          refine PW_tableIn (tgt := 41) (off := 37) c_F_lowestBits_4 (by rw [e5]; decide) (by rw [e5]; decide) (by rw [e5]; rfl) rfl ?_
          refine PW_lload_n c_F_lowestBits_41 rfl ?_
          refine PW_l2i c_F_lowestBits_42 ?_
          refine PW_i2s c_F_lowestBits_43 ?_
          refine PW_i2l c_F_lowestBits_44 ?_
          refine PW_lreturn c_F_lowestBits_45 rfl ?_
          show PW _ _ _ 19 [some (.ref (58 + 2 * j)), some (.int a2), some (.long a3), none] [.long a3.toInt32.toInt16.toInt32.toInt64, .int a2, .ref (59 + 2 * j)] (E x y)
          refine PW_last (j := q) (w2 := E (sG x (59 + 2 * j) (vp_updL (x.2.2 (59 + 2 * j)) q a3.toInt32.toInt16.toInt32.toInt64)) y) c_F_write_19 (sh_r _ _ hj) (by rw [q2]; exact vp_in_nI (by omega) (by decide)) (by rw [q2]; exact nI_clamp (by omega)) (sh_w _ _ hj _) ?_
          refine PW_vreturn c_F_write_20 rfl ?_
          show PW _ _ _ 37 [some (.ref 5), some (.int (nI j)), some (.int a2), some (.long a3), none, some (.ref (58 + 2 * j)), some (.int 0)] [] (E (sG x (59 + 2 * j) (vp_updL (x.2.2 (59 + 2 * j)) q a3.toInt32.toInt16.toInt32.toInt64)) y)
          refine PW_iconst (v := 1) c_G_put_37 (by decide) ?_
          refine PW_ireturn (ty := .int) c_G_put_38 rfl rfl ?_
          exact h
        · refine PW.deeper (k := (3, 0, 0, z)) (Nat.le_of_ble_eq_true rfl) (Nat.le_refl _) (Nat.le_refl _) ?_
          refine PW_aload_n c_M_put_0 rfl ?_
          refine PW_iload_n c_M_put_1 rfl ?_
          refine PW_iload_n c_M_put_2 rfl ?_
          refine PW_V0 (d2 := 2) (st := []) [.int (nI j), .int a2] c_M_put_3 lk_M_put_403 (po_70 _ _) rfl rfl rfl (Nat.le_of_ble_eq_true rfl) (by first | decide | omega) (Nat.le_of_ble_eq_true rfl) ?_
          show PW _ _ _ 0 [some (.ref 70), some (.int (nI j)), some (.int a2)] [] (E (sG x (59 + 2 * j) (vp_updL (x.2.2 (59 + 2 * j)) q a3.toInt32.toInt16.toInt32.toInt64)) y)
          refine PW_iload_n c_M_whyNoPlace_0 rfl ?_
          refine PW_S0 (d2 := 1) (st := []) [.int (nI j)] c_M_whyNoPlace_1 lk_M_whyNoPlace_143 rfl rfl rfl (Nat.le_of_ble_eq_true rfl) (by first | decide | omega) (Nat.le_of_ble_eq_true rfl) ?_
          refine sp_M_isShelf2  ?_
          show PW _ _ _ 4 [some (.ref 70), some (.int (nI j)), some (.int a2)] [.int (b2i (0 ≤ (nI j).toInt ∧ (nI j).toInt < 6))] (E (sG x (59 + 2 * j) (vp_updL (x.2.2 (59 + 2 * j)) q a3.toInt32.toInt16.toInt32.toInt64)) y)
          refine PW_if_ne c_M_whyNoPlace_4 (fun _ => ?_) (fun h0 => absurd hjs (b2i_0.mp h0))
          refine PW_aload_n c_M_whyNoPlace_9 rfl ?_
          refine PW_get (v := .ref 104) c_M_whyNoPlace_10 fl_M_111 (gf_70_53 _ _) ?_
          refine PW_iload_n c_M_whyNoPlace_13 rfl ?_
          refine PW_iald (j := j) c_M_whyNoPlace_14 (ar_104 _ _) (vp_in_nI hj (by decide)) (nI_clamp (by omega)) ?_
          show PW _ _ _ 15 [some (.ref 70), some (.int (nI j)), some (.int a2)] [.int ((y.2.1 104) j)] (E (sG x (59 + 2 * j) (vp_updL (x.2.2 (59 + 2 * j)) q a3.toInt32.toInt16.toInt32.toInt64)) y)
          refine PW_iconst (v := -1) c_M_whyNoPlace_15 (by decide) ?_
          refine PW_icmp_ne c_M_whyNoPlace_16 (fun h1 => ?_) (fun h1 => absurd h1 (by rw [e3]; exact ho_n1 e1))
          refine PW_aload_n c_M_whyNoPlace_22 rfl ?_
          refine PW_get (v := .ref 104) c_M_whyNoPlace_23 fl_M_111 (gf_70_53 _ _) ?_
          refine PW_iload_n c_M_whyNoPlace_26 rfl ?_
          refine PW_iald (j := j) c_M_whyNoPlace_27 (ar_104 _ _) (vp_in_nI hj (by decide)) (nI_clamp (by omega)) ?_
          show PW _ _ _ 28 [some (.ref 70), some (.int (nI j)), some (.int a2)] [.int ((y.2.1 104) j)] (E (sG x (59 + 2 * j) (vp_updL (x.2.2 (59 + 2 * j)) q a3.toInt32.toInt16.toInt32.toInt64)) y)
          refine PW_if_lt c_M_whyNoPlace_28 (fun h2 => ?_) (fun h2 => absurd (by rw [e3]; exact ho_lt e1) h2)
          refine PW_iload_n c_M_whyNoPlace_34 rfl ?_
          refine PW_iconst (v := 0) c_M_whyNoPlace_35 (by decide) ?_
          refine PW_aload_n c_M_whyNoPlace_36 rfl ?_
          refine PW_get (v := .ref 105) c_M_whyNoPlace_37 fl_M_114 (gf_70_54 _ _) ?_
          refine PW_iload_n c_M_whyNoPlace_40 rfl ?_
          refine PW_iald (j := j) c_M_whyNoPlace_41 (ar_105 _ _) (vp_in_nI hj (by decide)) (nI_clamp (by omega)) ?_
          show PW _ _ _ 42 [some (.ref 70), some (.int (nI j)), some (.int a2)] [.int ((y.2.1 105) j), .int 0, .int a2] (E (sG x (59 + 2 * j) (vp_updL (x.2.2 (59 + 2 * j)) q a3.toInt32.toInt16.toInt32.toInt64)) y)
          refine PW_iconst (v := 1) c_M_whyNoPlace_42 (by decide) ?_
          refine PW_isub c_M_whyNoPlace_43 ?_
          refine PW_S0 (d2 := 0) (st := []) [.int a2, .int 0, .int (((y.2.1 105) j) - 1)] c_M_whyNoPlace_44 lk_M_whyNoPlace_131 rfl rfl rfl (Nat.le_of_ble_eq_true rfl) (by first | decide | omega) (Nat.le_of_ble_eq_true rfl) ?_
          refine sp_M_within  ?_
          show PW _ _ _ 47 [some (.ref 70), some (.int (nI j)), some (.int a2)] [.int (b2i ((0 : Int32) ≤ a2 ∧ a2 ≤ (((y.2.1 105) j) - 1)))] (E (sG x (59 + 2 * j) (vp_updL (x.2.2 (59 + 2 * j)) q a3.toInt32.toInt16.toInt32.toInt64)) y)
          refine PW_if_eq c_M_whyNoPlace_47 (fun h3 => absurd (hz3.mpr hc1) (b2i_0.mp h3)) (fun _ => ?_)
          refine PW_iconst (v := 0) c_M_whyNoPlace_50 (by decide) ?_
          refine PW_goto c_M_whyNoPlace_51 ?_
          refine PW_ireturn (ty := .int) c_M_whyNoPlace_56 rfl rfl ?_
          show PW _ _ _ 6 [some (.ref 70), some (.int (nI j)), some (.int a2), some (.long a3), none, none, none] [.int 0] (E (sG x (59 + 2 * j) (vp_updL (x.2.2 (59 + 2 * j)) q a3.toInt32.toInt16.toInt32.toInt64)) y)
          refine PW_istore (i := 5) (L2 := [some (.ref 70), some (.int (nI j)), some (.int a2), some (.long a3), none, some (.int 0), none]) c_M_put_6 (Nat.le_of_ble_eq_true rfl) rfl rfl ?_
          refine PW_iload c_M_put_8 rfl ?_
          refine PW_if_ge c_M_put_10 (fun _ => ?_) (fun h4 => absurd (by decide) h4)
          refine PW_bipush (v := -2) c_M_put_16 (by decide) ?_
          refine PW_aload_n c_M_put_18 rfl ?_
          refine PW_get (v := .ref 104) c_M_put_19 fl_M_111 (gf_70_53 _ _) ?_
          refine PW_iload_n c_M_put_22 rfl ?_
          refine PW_iald (j := j) c_M_put_23 (ar_104 _ _) (vp_in_nI hj (by decide)) (nI_clamp (by omega)) ?_
          show PW _ _ _ 24 [some (.ref 70), some (.int (nI j)), some (.int a2), some (.long a3), none, some (.int 0), none] [.int ((y.2.1 104) j), .int (-2)] (E (sG x (59 + 2 * j) (vp_updL (x.2.2 (59 + 2 * j)) q a3.toInt32.toInt16.toInt32.toInt64)) y)
          refine PW_isub c_M_put_24 ?_
          refine PW_istore (i := 6) (L2 := [some (.ref 70), some (.int (nI j)), some (.int a2), some (.long a3), none, some (.int 0), some (.int ((-2) - ((y.2.1 104) j)))]) c_M_put_25 (Nat.le_of_ble_eq_true rfl) rfl rfl ?_
          refine PW_aload_n c_M_put_27 rfl ?_
          refine PW_get (v := .ref 106) c_M_put_28 fl_M_117 (gf_70_55 _ _) ?_
          refine PW_bipush (v := 60) c_M_put_31 (by decide) ?_
          refine PW_iload_n c_M_put_33 rfl ?_
          refine PW_imul c_M_put_34 ?_
          refine PW_iload_n c_M_put_35 rfl ?_
          refine PW_iadd c_M_put_36 ?_
          refine PW_iload c_M_put_37 rfl ?_
          refine PW_if_ne c_M_put_39 (fun h5 => ?_) (fun h5 => absurd h5 (by rw [e3]; decide))
          refine PW_iload c_M_put_49 rfl ?_
          refine PW_iconst (v := 1) c_M_put_51 (by decide) ?_
          refine PW_icmp_ne c_M_put_52 (fun h6 => absurd h6 (not_not_intro (by rw [e3]; decide))) (fun h6 => ?_)
          refine PW_lload_n c_M_put_55 rfl ?_
          refine PW_l2i c_M_put_56 ?_
          refine PW_i2s c_M_put_57 ?_
          refine PW_i2l c_M_put_58 ?_
          refine PW_goto c_M_put_59 ?_
          refine PW_last (j := 60 * j + q) (w2 := E (sG x (59 + 2 * j) (vp_updL (x.2.2 (59 + 2 * j)) q a3.toInt32.toInt16.toInt32.toInt64)) (sG y 106 (vp_updL (y.2.2 106) (60 * j + q) a3.toInt32.toInt16.toInt32.toInt64))) c_M_put_95 (ar_106 _ _) (by rw [show (60 : Int32) = nI 60 from rfl, q2, pk_mul, nI_add]; exact vp_in_nI (by omega) (by decide)) (by rw [show (60 : Int32) = nI 60 from rfl, q2, pk_mul, nI_add]; exact nI_clamp (by omega)) (aw_106 _ _ _) ?_
          refine PW_iconst (v := 1) c_M_put_96 (by decide) ?_
          refine PW_ireturn (ty := .int) c_M_put_97 rfl rfl ?_
          exact h
      · refine ⟨1, sG x (59 + 2 * j) (vp_updL (x.2.2 (59 + 2 * j)) q a3.toInt32.toInt64), sG y 106 (vp_updL (y.2.2 106) (60 * j + q) a3.toInt32.toInt64), ?_, fun {z post} h => ?_, fun {z post} h => ?_⟩
        · refine ⟨hg.cg (fun n q1 q2 => by first | rfl | (simp only [sI_1, sI_A, sI_G, sA_1, sA_A, sA_G, sG_1, sG_A, sG_G]; repeat rw [if_neg (by omega)])) (fun n q1 q2 => by first | rfl | (simp only [sI_1, sI_A, sI_G, sA_1, sA_A, sA_G, sG_1, sG_A, sG_G]; repeat rw [if_neg (by omega)])) (by first | rfl | (simp only [sI_1, sI_A, sI_G, sA_1, sA_A, sA_G, sG_1, sG_A, sG_G]; repeat rw [if_neg (by omega)])) (fun n q1 q2 => by first | rfl | (simp only [sI_1, sI_A, sI_G, sA_1, sA_A, sA_G, sG_1, sG_A, sG_G]; repeat rw [if_neg (by omega)])), hc.cg (fun n q1 q2 => by first | rfl | (simp only [sI_1, sI_A, sI_G, sA_1, sA_A, sA_G, sG_1, sG_A, sG_G]; repeat rw [if_neg (by omega)])) (fun n q1 q2 => by first | rfl | (simp only [sI_1, sI_A, sI_G, sA_1, sA_A, sA_G, sG_1, sG_A, sG_G]; repeat rw [if_neg (by omega)])) (fun n q1 q2 => by first | rfl | (simp only [sI_1, sI_A, sI_G, sA_1, sA_A, sA_G, sG_1, sG_A, sG_G]; repeat rw [if_neg (by omega)])) (fun n q1 q2 => by first | rfl | (simp only [sI_1, sI_A, sI_G, sA_1, sA_A, sA_G, sG_1, sG_A, sG_G]; repeat rw [if_neg (by omega)])) (Nat.le_of_eq (nG_cg (by first | rfl | (simp only [sI_1, sI_A, sI_G, sA_1, sA_A, sA_G, sG_1, sG_A, sG_G]; repeat rw [if_neg (by omega)]))).symm), ht0.cg (by first | rfl | (simp only [sI_1, sI_A, sI_G, sA_1, sA_A, sA_G, sG_1, sG_A, sG_G]; repeat rw [if_neg (by omega)])) (by first | rfl | (simp only [sI_1, sI_A, sI_G, sA_1, sA_A, sA_G, sG_1, sG_A, sG_G]; repeat rw [if_neg (by omega)])) (by first | rfl | (simp only [sI_1, sI_A, sI_G, sA_1, sA_A, sA_G, sG_1, sG_A, sG_G]; repeat rw [if_neg (by omega)])) (by first | rfl | (simp only [sI_1, sI_A, sI_G, sA_1, sA_A, sA_G, sG_1, sG_A, sG_G]; repeat rw [if_neg (by omega)])), hl.cg (by first | rfl | (simp only [sI_1, sI_A, sI_G, sA_1, sA_A, sA_G, sG_1, sG_A, sG_G]; repeat rw [if_neg (by omega)])) (fun n q1 q2 => by first | rfl | (simp only [sI_1, sI_A, sI_G, sA_1, sA_A, sA_G, sG_1, sG_A, sG_G]; repeat rw [if_neg (by omega)])) (by first | rfl | (simp only [sI_1, sI_A, sI_G, sA_1, sA_A, sA_G, sG_1, sG_A, sG_G]; repeat rw [if_neg (by omega)])) (fun n q1 q2 => by first | rfl | (simp only [sI_1, sI_A, sI_G, sA_1, sA_A, sA_G, sG_1, sG_A, sG_G]; repeat rw [if_neg (by omega)])), hd.cg (Nat.le_succ _) (fun n q1 q2 => by first | rfl | (simp only [sI_1, sI_A, sI_G, sA_1, sA_A, sA_G, sG_1, sG_A, sG_G]; repeat rw [if_neg (by omega)])) (by first | rfl | (simp only [sI_1, sI_A, sI_G, sA_1, sA_A, sA_G, sG_1, sG_A, sG_G]; repeat rw [if_neg (by omega)])) (by first | rfl | (simp only [sI_1, sI_A, sI_G, sA_1, sA_A, sA_G, sG_1, sG_A, sG_G]; repeat rw [if_neg (by omega)])) (fun n q1 q2 => by first | rfl | (simp only [sI_1, sI_A, sI_G, sA_1, sA_A, sA_G, sG_1, sG_A, sG_G]; repeat rw [if_neg (by omega)])), hb.cg (fun n q1 q2 => by first | rfl | (simp only [sI_1, sI_A, sI_G, sA_1, sA_A, sA_G, sG_1, sG_A, sG_G]; repeat rw [if_neg (by omega)])) (fun n q1 q2 => by first | rfl | (simp only [sI_1, sI_A, sI_G, sA_1, sA_A, sA_G, sG_1, sG_A, sG_G]; repeat rw [if_neg (by omega)])) (fun n q1 q2 => by first | rfl | (simp only [sI_1, sI_A, sI_G, sA_1, sA_A, sA_G, sG_1, sG_A, sG_G]; repeat rw [if_neg (by omega)])) (fun n q1 q2 => by first | rfl | (simp only [sI_1, sI_A, sI_G, sA_1, sA_A, sA_G, sG_1, sG_A, sG_G]; repeat rw [if_neg (by omega)])), ?_⟩
          · intro i hi
            by_cases hij : i = j
            · subst hij
              have g1 : (sG x (59 + 2 * i) (vp_updL (x.2.2 (59 + 2 * i)) q (a3.toInt32.toInt64))).2.2 (59 + 2 * i) = vp_updL (x.2.2 (59 + 2 * i)) q (a3.toInt32.toInt64) := if_pos rfl
              unfold CPs1
              right; right
              refine ⟨2, n, by omega, e2, e3, e4, e5, e6, e7, fun i2 hi2 => ?_⟩
              rw [g1]
              show vp_updL (x.2.2 (59 + 2 * i)) q (a3.toInt32.toInt64) i2 = vp_updL (y.2.2 106) (60 * i + q) (a3.toInt32.toInt64) (60 * i + i2) ∧ (2 = 0 → -128 ≤ (vp_updL (y.2.2 106) (60 * i + q) (a3.toInt32.toInt64) (60 * i + i2)).toInt ∧ (vp_updL (y.2.2 106) (60 * i + q) (a3.toInt32.toInt64) (60 * i + i2)).toInt ≤ 127)
              by_cases hq : i2 = q
              · subst hq
                rw [updL_s, updL_s]
                exact ⟨rfl, fun q => absurd q (by decide)⟩
              · rw [updL_n hq, updL_n (by omega)]
                exact e8 i2 hi2
            · exact (hs i hi).cg (fun k q1 q2 => by first | rfl | (repeat rw [sI_n (by omega)])) (by exact if_neg (by omega)) (by first | exact Int.le_refl _ | (simp only [sI_1, sI_A, sI_G, sA_1, sA_A, sA_G, sG_1, sG_A, sG_G]; repeat rw [if_neg (by omega)])) (by first | rfl | exact upd_n hij) (by first | rfl | exact upd_n hij) (fun k hk => by exact updL_n (by omega))
        · refine PW.deeper (k := (2, 0, 0, z)) (Nat.le_of_ble_eq_true rfl) (Nat.le_refl _) (Nat.le_refl _) ?_
          refine PW_aload_n c_G_put_0 rfl ?_
          refine PW_iload_n c_G_put_1 rfl ?_
          refine PW_V0 (d2 := 0) (st := []) [.int (nI j)] c_G_put_2 lk_G_put_102 (po_5 _ _) rfl rfl rfl (Nat.le_of_ble_eq_true rfl) (by first | decide | omega) (Nat.le_of_ble_eq_true rfl) ?_
          refine sp_shelf hj ?_
          show PW _ _ _ 5 [some (.ref 5), some (.int (nI j)), some (.int a2), some (.long a3), none, none, none] [.ref (58 + 2 * j)] (E x y)
          refine PW_astore (i := 5) (L2 := [some (.ref 5), some (.int (nI j)), some (.int a2), some (.long a3), none, some (.ref (58 + 2 * j)), none]) c_G_put_5 (Nat.le_of_ble_eq_true rfl) rfl rfl ?_
          refine PW_aload c_G_put_7 rfl ?_
          refine PW_ifnonnull c_G_put_9 ?_
          refine PW_aload c_G_put_14 rfl ?_
          refine PW_iload_n c_G_put_16 rfl ?_
          refine PW_V0 (d2 := 1) (st := []) [.int a2] c_G_put_17 lk_G_put_327 (sh_po _ _ hj) rfl rfl rfl (Nat.le_of_ble_eq_true rfl) (by first | decide | omega) (Nat.le_of_ble_eq_true rfl) ?_
          show PW _ _ _ 0 [some (.ref (58 + 2 * j)), some (.int a2)] [] (E x y)
          refine PW_aload_n c_F_elementRefusal_0 rfl ?_
          refine PW_V0 (d2 := 0) (st := []) [] c_F_elementRefusal_1 lk_F_elementRefusal_37 (sh_po _ _ hj) rfl rfl rfl (Nat.le_of_ble_eq_true rfl) (by first | decide | omega) (Nat.le_of_ble_eq_true rfl) ?_
          refine sp_F_isEmpty hj  ?_
          show PW _ _ _ 4 [some (.ref (58 + 2 * j)), some (.int a2)] [.int (b2i (x.1 ((58 + 2 * j) * 8 + 1) = 0))] (E x y)
          refine PW_if_eq c_F_elementRefusal_4 (fun _ => ?_) (fun h0 => absurd (b2i_n0.mp h0) (by rw [e4]; decide))
          refine PW_aload_n c_F_elementRefusal_10 rfl ?_
          refine PW_V0 (d2 := 0) (st := []) [] c_F_elementRefusal_11 lk_F_elementRefusal_44 (sh_po _ _ hj) rfl rfl rfl (Nat.le_of_ble_eq_true rfl) (by first | decide | omega) (Nat.le_of_ble_eq_true rfl) ?_
          refine sp_F_holdsRow hj  ?_
          show PW _ _ _ 14 [some (.ref (58 + 2 * j)), some (.int a2)] [.int (b2i (x.1 ((58 + 2 * j) * 8 + 1) = 2))] (E x y)
          refine PW_if_ne c_F_elementRefusal_14 (fun _ => ?_) (fun h1 => absurd e4 (b2i_0.mp h1))
          refine PW_aload_n c_F_elementRefusal_20 rfl ?_
          refine PW_iload_n c_F_elementRefusal_21 rfl ?_
          refine PW_iconst (v := 1) c_F_elementRefusal_22 (by decide) ?_
          refine PW_V0 (d2 := 0) (st := []) [.int a2, .int 1] c_F_elementRefusal_23 lk_F_elementRefusal_47 (sh_po _ _ hj) rfl rfl rfl (Nat.le_of_ble_eq_true rfl) (by first | decide | omega) (Nat.le_of_ble_eq_true rfl) ?_
          refine sp_F_hasPlaces hj (by assumption) ?_
          show PW _ _ _ 26 [some (.ref (58 + 2 * j)), some (.int a2)] [.int (b2i (0 ≤ a2.toInt ∧ 0 ≤ (1 : Int32).toInt ∧ (1 : Int32).toInt ≤ (x.1 ((58 + 2 * j) * 8 + 4)).toInt ∧ a2.toInt ≤ (x.1 ((58 + 2 * j) * 8 + 4)).toInt - (1 : Int32).toInt))] (E x y)
          refine PW_if_eq c_F_elementRefusal_26 (fun h2 => absurd hp (b2i_0.mp h2)) (fun _ => ?_)
          refine PW_iconst (v := 0) c_F_elementRefusal_29 (by decide) ?_
          refine PW_goto c_F_elementRefusal_30 ?_
          refine PW_ireturn (ty := .int) c_F_elementRefusal_35 rfl rfl ?_
          show PW _ _ _ 20 [some (.ref 5), some (.int (nI j)), some (.int a2), some (.long a3), none, some (.ref (58 + 2 * j)), none] [.int 0] (E x y)
          refine PW_istore (i := 6) (L2 := [some (.ref 5), some (.int (nI j)), some (.int a2), some (.long a3), none, some (.ref (58 + 2 * j)), some (.int 0)]) c_G_put_20 (Nat.le_of_ble_eq_true rfl) rfl rfl ?_
          refine PW_iload c_G_put_22 rfl ?_
          refine PW_if_eq c_G_put_24 (fun _ => ?_) (fun h3 => absurd (by decide) h3)
          refine PW_aload c_G_put_30 rfl ?_
          refine PW_iload_n c_G_put_32 rfl ?_
          refine PW_lload_n c_G_put_33 rfl ?_
          refine PW_V0 (d2 := 1) (st := []) [.int a2, .long a3] c_G_put_34 lk_G_put_330 (sh_po _ _ hj) rfl rfl rfl (Nat.le_of_ble_eq_true rfl) (by first | decide | omega) (Nat.le_of_ble_eq_true rfl) ?_
          show PW _ _ _ 0 [some (.ref (58 + 2 * j)), some (.int a2), some (.long a3), none] [] (E x y)
          refine PW_aload_n c_F_write_0 rfl ?_
          refine PW_iload_n c_F_write_1 rfl ?_
          refine PW_iconst (v := 1) c_F_write_2 (by decide) ?_
          refine PW_V0 (d2 := 0) (st := []) [.int a2, .int 1] c_F_write_3 lk_F_write_47 (sh_po _ _ hj) rfl rfl rfl (Nat.le_of_ble_eq_true rfl) (by first | decide | omega) (Nat.le_of_ble_eq_true rfl) ?_
          refine sp_F_hasPlaces hj (by assumption) ?_
          show PW _ _ _ 6 [some (.ref (58 + 2 * j)), some (.int a2), some (.long a3), none] [.int (b2i (0 ≤ a2.toInt ∧ 0 ≤ (1 : Int32).toInt ∧ (1 : Int32).toInt ≤ (x.1 ((58 + 2 * j) * 8 + 4)).toInt ∧ a2.toInt ≤ (x.1 ((58 + 2 * j) * 8 + 4)).toInt - (1 : Int32).toInt))] (E x y)
          refine PW_if_eq c_F_write_6 (fun h4 => absurd hp (b2i_0.mp h4)) (fun _ => ?_)
          refine PW_aload_n c_F_write_9 rfl ?_
          refine PW_get (v := .ref (59 + 2 * j)) c_F_write_10 fl_F_11 (sh_g0 _ _ hj) ?_
          refine PW_iload_n c_F_write_13 rfl ?_
          refine PW_aload_n c_F_write_14 rfl ?_
          refine PW_lload_n c_F_write_15 rfl ?_
          refine PW_V0 (d2 := 0) (st := [.int a2, .ref (59 + 2 * j)]) [.long a3] c_F_write_16 lk_F_write_54 (sh_po _ _ hj) rfl rfl rfl (Nat.le_of_ble_eq_true rfl) (by first | decide | omega) (Nat.le_of_ble_eq_true rfl) ?_
          show PW _ _ _ 0 [some (.ref (58 + 2 * j)), some (.long a3), none] [] (E x y)
          refine PW_aload_n c_F_lowestBits_0 rfl ?_
          refine PW_get (v := .int (x.1 ((58 + 2 * j) * 8 + 3))) c_F_lowestBits_1 fl_F_19 (sh_g3 _ _ hj) ?_
          refine PW_tableIn (tgt := 46) (off := 42) c_F_lowestBits_4 (by rw [e5]; decide) (by rw [e5]; decide) (by rw [e5]; rfl) rfl ?_
          refine PW_lload_n c_F_lowestBits_46 rfl ?_
          refine PW_l2i c_F_lowestBits_47 ?_
          refine PW_i2l c_F_lowestBits_48 ?_
          refine PW_lreturn c_F_lowestBits_49 rfl ?_
          show PW _ _ _ 19 [some (.ref (58 + 2 * j)), some (.int a2), some (.long a3), none] [.long a3.toInt32.toInt64, .int a2, .ref (59 + 2 * j)] (E x y)
          refine PW_last (j := q) (w2 := E (sG x (59 + 2 * j) (vp_updL (x.2.2 (59 + 2 * j)) q a3.toInt32.toInt64)) y) c_F_write_19 (sh_r _ _ hj) (by rw [q2]; exact vp_in_nI (by omega) (by decide)) (by rw [q2]; exact nI_clamp (by omega)) (sh_w _ _ hj _) ?_
          refine PW_vreturn c_F_write_20 rfl ?_
          show PW _ _ _ 37 [some (.ref 5), some (.int (nI j)), some (.int a2), some (.long a3), none, some (.ref (58 + 2 * j)), some (.int 0)] [] (E (sG x (59 + 2 * j) (vp_updL (x.2.2 (59 + 2 * j)) q a3.toInt32.toInt64)) y)
          refine PW_iconst (v := 1) c_G_put_37 (by decide) ?_
          refine PW_ireturn (ty := .int) c_G_put_38 rfl rfl ?_
          exact h
        · refine PW.deeper (k := (3, 0, 0, z)) (Nat.le_of_ble_eq_true rfl) (Nat.le_refl _) (Nat.le_refl _) ?_
          refine PW_aload_n c_M_put_0 rfl ?_
          refine PW_iload_n c_M_put_1 rfl ?_
          refine PW_iload_n c_M_put_2 rfl ?_
          refine PW_V0 (d2 := 2) (st := []) [.int (nI j), .int a2] c_M_put_3 lk_M_put_403 (po_70 _ _) rfl rfl rfl (Nat.le_of_ble_eq_true rfl) (by first | decide | omega) (Nat.le_of_ble_eq_true rfl) ?_
          show PW _ _ _ 0 [some (.ref 70), some (.int (nI j)), some (.int a2)] [] (E (sG x (59 + 2 * j) (vp_updL (x.2.2 (59 + 2 * j)) q a3.toInt32.toInt64)) y)
          refine PW_iload_n c_M_whyNoPlace_0 rfl ?_
          refine PW_S0 (d2 := 1) (st := []) [.int (nI j)] c_M_whyNoPlace_1 lk_M_whyNoPlace_143 rfl rfl rfl (Nat.le_of_ble_eq_true rfl) (by first | decide | omega) (Nat.le_of_ble_eq_true rfl) ?_
          refine sp_M_isShelf2  ?_
          show PW _ _ _ 4 [some (.ref 70), some (.int (nI j)), some (.int a2)] [.int (b2i (0 ≤ (nI j).toInt ∧ (nI j).toInt < 6))] (E (sG x (59 + 2 * j) (vp_updL (x.2.2 (59 + 2 * j)) q a3.toInt32.toInt64)) y)
          refine PW_if_ne c_M_whyNoPlace_4 (fun _ => ?_) (fun h0 => absurd hjs (b2i_0.mp h0))
          refine PW_aload_n c_M_whyNoPlace_9 rfl ?_
          refine PW_get (v := .ref 104) c_M_whyNoPlace_10 fl_M_111 (gf_70_53 _ _) ?_
          refine PW_iload_n c_M_whyNoPlace_13 rfl ?_
          refine PW_iald (j := j) c_M_whyNoPlace_14 (ar_104 _ _) (vp_in_nI hj (by decide)) (nI_clamp (by omega)) ?_
          show PW _ _ _ 15 [some (.ref 70), some (.int (nI j)), some (.int a2)] [.int ((y.2.1 104) j)] (E (sG x (59 + 2 * j) (vp_updL (x.2.2 (59 + 2 * j)) q a3.toInt32.toInt64)) y)
          refine PW_iconst (v := -1) c_M_whyNoPlace_15 (by decide) ?_
          refine PW_icmp_ne c_M_whyNoPlace_16 (fun h1 => ?_) (fun h1 => absurd h1 (by rw [e3]; exact ho_n1 e1))
          refine PW_aload_n c_M_whyNoPlace_22 rfl ?_
          refine PW_get (v := .ref 104) c_M_whyNoPlace_23 fl_M_111 (gf_70_53 _ _) ?_
          refine PW_iload_n c_M_whyNoPlace_26 rfl ?_
          refine PW_iald (j := j) c_M_whyNoPlace_27 (ar_104 _ _) (vp_in_nI hj (by decide)) (nI_clamp (by omega)) ?_
          show PW _ _ _ 28 [some (.ref 70), some (.int (nI j)), some (.int a2)] [.int ((y.2.1 104) j)] (E (sG x (59 + 2 * j) (vp_updL (x.2.2 (59 + 2 * j)) q a3.toInt32.toInt64)) y)
          refine PW_if_lt c_M_whyNoPlace_28 (fun h2 => ?_) (fun h2 => absurd (by rw [e3]; exact ho_lt e1) h2)
          refine PW_iload_n c_M_whyNoPlace_34 rfl ?_
          refine PW_iconst (v := 0) c_M_whyNoPlace_35 (by decide) ?_
          refine PW_aload_n c_M_whyNoPlace_36 rfl ?_
          refine PW_get (v := .ref 105) c_M_whyNoPlace_37 fl_M_114 (gf_70_54 _ _) ?_
          refine PW_iload_n c_M_whyNoPlace_40 rfl ?_
          refine PW_iald (j := j) c_M_whyNoPlace_41 (ar_105 _ _) (vp_in_nI hj (by decide)) (nI_clamp (by omega)) ?_
          show PW _ _ _ 42 [some (.ref 70), some (.int (nI j)), some (.int a2)] [.int ((y.2.1 105) j), .int 0, .int a2] (E (sG x (59 + 2 * j) (vp_updL (x.2.2 (59 + 2 * j)) q a3.toInt32.toInt64)) y)
          refine PW_iconst (v := 1) c_M_whyNoPlace_42 (by decide) ?_
          refine PW_isub c_M_whyNoPlace_43 ?_
          refine PW_S0 (d2 := 0) (st := []) [.int a2, .int 0, .int (((y.2.1 105) j) - 1)] c_M_whyNoPlace_44 lk_M_whyNoPlace_131 rfl rfl rfl (Nat.le_of_ble_eq_true rfl) (by first | decide | omega) (Nat.le_of_ble_eq_true rfl) ?_
          refine sp_M_within  ?_
          show PW _ _ _ 47 [some (.ref 70), some (.int (nI j)), some (.int a2)] [.int (b2i ((0 : Int32) ≤ a2 ∧ a2 ≤ (((y.2.1 105) j) - 1)))] (E (sG x (59 + 2 * j) (vp_updL (x.2.2 (59 + 2 * j)) q a3.toInt32.toInt64)) y)
          refine PW_if_eq c_M_whyNoPlace_47 (fun h3 => absurd (hz3.mpr hc1) (b2i_0.mp h3)) (fun _ => ?_)
          refine PW_iconst (v := 0) c_M_whyNoPlace_50 (by decide) ?_
          refine PW_goto c_M_whyNoPlace_51 ?_
          refine PW_ireturn (ty := .int) c_M_whyNoPlace_56 rfl rfl ?_
          show PW _ _ _ 6 [some (.ref 70), some (.int (nI j)), some (.int a2), some (.long a3), none, none, none] [.int 0] (E (sG x (59 + 2 * j) (vp_updL (x.2.2 (59 + 2 * j)) q a3.toInt32.toInt64)) y)
          refine PW_istore (i := 5) (L2 := [some (.ref 70), some (.int (nI j)), some (.int a2), some (.long a3), none, some (.int 0), none]) c_M_put_6 (Nat.le_of_ble_eq_true rfl) rfl rfl ?_
          refine PW_iload c_M_put_8 rfl ?_
          refine PW_if_ge c_M_put_10 (fun _ => ?_) (fun h4 => absurd (by decide) h4)
          refine PW_bipush (v := -2) c_M_put_16 (by decide) ?_
          refine PW_aload_n c_M_put_18 rfl ?_
          refine PW_get (v := .ref 104) c_M_put_19 fl_M_111 (gf_70_53 _ _) ?_
          refine PW_iload_n c_M_put_22 rfl ?_
          refine PW_iald (j := j) c_M_put_23 (ar_104 _ _) (vp_in_nI hj (by decide)) (nI_clamp (by omega)) ?_
          show PW _ _ _ 24 [some (.ref 70), some (.int (nI j)), some (.int a2), some (.long a3), none, some (.int 0), none] [.int ((y.2.1 104) j), .int (-2)] (E (sG x (59 + 2 * j) (vp_updL (x.2.2 (59 + 2 * j)) q a3.toInt32.toInt64)) y)
          refine PW_isub c_M_put_24 ?_
          refine PW_istore (i := 6) (L2 := [some (.ref 70), some (.int (nI j)), some (.int a2), some (.long a3), none, some (.int 0), some (.int ((-2) - ((y.2.1 104) j)))]) c_M_put_25 (Nat.le_of_ble_eq_true rfl) rfl rfl ?_
          refine PW_aload_n c_M_put_27 rfl ?_
          refine PW_get (v := .ref 106) c_M_put_28 fl_M_117 (gf_70_55 _ _) ?_
          refine PW_bipush (v := 60) c_M_put_31 (by decide) ?_
          refine PW_iload_n c_M_put_33 rfl ?_
          refine PW_imul c_M_put_34 ?_
          refine PW_iload_n c_M_put_35 rfl ?_
          refine PW_iadd c_M_put_36 ?_
          refine PW_iload c_M_put_37 rfl ?_
          refine PW_if_ne c_M_put_39 (fun h5 => ?_) (fun h5 => absurd h5 (by rw [e3]; decide))
          refine PW_iload c_M_put_49 rfl ?_
          refine PW_iconst (v := 1) c_M_put_51 (by decide) ?_
          refine PW_icmp_ne c_M_put_52 (fun h6 => ?_) (fun h6 => absurd h6 (by rw [e3]; decide))
          refine PW_iload c_M_put_62 rfl ?_
          refine PW_iconst (v := 2) c_M_put_64 (by decide) ?_
          refine PW_icmp_ne c_M_put_65 (fun h7 => absurd h7 (not_not_intro (by rw [e3]; decide))) (fun h7 => ?_)
          refine PW_lload_n c_M_put_68 rfl ?_
          refine PW_l2i c_M_put_69 ?_
          refine PW_i2l c_M_put_70 ?_
          refine PW_goto c_M_put_71 ?_
          refine PW_last (j := 60 * j + q) (w2 := E (sG x (59 + 2 * j) (vp_updL (x.2.2 (59 + 2 * j)) q a3.toInt32.toInt64)) (sG y 106 (vp_updL (y.2.2 106) (60 * j + q) a3.toInt32.toInt64))) c_M_put_95 (ar_106 _ _) (by rw [show (60 : Int32) = nI 60 from rfl, q2, pk_mul, nI_add]; exact vp_in_nI (by omega) (by decide)) (by rw [show (60 : Int32) = nI 60 from rfl, q2, pk_mul, nI_add]; exact nI_clamp (by omega)) (aw_106 _ _ _) ?_
          refine PW_iconst (v := 1) c_M_put_96 (by decide) ?_
          refine PW_ireturn (ty := .int) c_M_put_97 rfl rfl ?_
          exact h
      · refine ⟨1, sG x (59 + 2 * j) (vp_updL (x.2.2 (59 + 2 * j)) q a3), sG y 106 (vp_updL (y.2.2 106) (60 * j + q) a3), ?_, fun {z post} h => ?_, fun {z post} h => ?_⟩
        · refine ⟨hg.cg (fun n q1 q2 => by first | rfl | (simp only [sI_1, sI_A, sI_G, sA_1, sA_A, sA_G, sG_1, sG_A, sG_G]; repeat rw [if_neg (by omega)])) (fun n q1 q2 => by first | rfl | (simp only [sI_1, sI_A, sI_G, sA_1, sA_A, sA_G, sG_1, sG_A, sG_G]; repeat rw [if_neg (by omega)])) (by first | rfl | (simp only [sI_1, sI_A, sI_G, sA_1, sA_A, sA_G, sG_1, sG_A, sG_G]; repeat rw [if_neg (by omega)])) (fun n q1 q2 => by first | rfl | (simp only [sI_1, sI_A, sI_G, sA_1, sA_A, sA_G, sG_1, sG_A, sG_G]; repeat rw [if_neg (by omega)])), hc.cg (fun n q1 q2 => by first | rfl | (simp only [sI_1, sI_A, sI_G, sA_1, sA_A, sA_G, sG_1, sG_A, sG_G]; repeat rw [if_neg (by omega)])) (fun n q1 q2 => by first | rfl | (simp only [sI_1, sI_A, sI_G, sA_1, sA_A, sA_G, sG_1, sG_A, sG_G]; repeat rw [if_neg (by omega)])) (fun n q1 q2 => by first | rfl | (simp only [sI_1, sI_A, sI_G, sA_1, sA_A, sA_G, sG_1, sG_A, sG_G]; repeat rw [if_neg (by omega)])) (fun n q1 q2 => by first | rfl | (simp only [sI_1, sI_A, sI_G, sA_1, sA_A, sA_G, sG_1, sG_A, sG_G]; repeat rw [if_neg (by omega)])) (Nat.le_of_eq (nG_cg (by first | rfl | (simp only [sI_1, sI_A, sI_G, sA_1, sA_A, sA_G, sG_1, sG_A, sG_G]; repeat rw [if_neg (by omega)]))).symm), ht0.cg (by first | rfl | (simp only [sI_1, sI_A, sI_G, sA_1, sA_A, sA_G, sG_1, sG_A, sG_G]; repeat rw [if_neg (by omega)])) (by first | rfl | (simp only [sI_1, sI_A, sI_G, sA_1, sA_A, sA_G, sG_1, sG_A, sG_G]; repeat rw [if_neg (by omega)])) (by first | rfl | (simp only [sI_1, sI_A, sI_G, sA_1, sA_A, sA_G, sG_1, sG_A, sG_G]; repeat rw [if_neg (by omega)])) (by first | rfl | (simp only [sI_1, sI_A, sI_G, sA_1, sA_A, sA_G, sG_1, sG_A, sG_G]; repeat rw [if_neg (by omega)])), hl.cg (by first | rfl | (simp only [sI_1, sI_A, sI_G, sA_1, sA_A, sA_G, sG_1, sG_A, sG_G]; repeat rw [if_neg (by omega)])) (fun n q1 q2 => by first | rfl | (simp only [sI_1, sI_A, sI_G, sA_1, sA_A, sA_G, sG_1, sG_A, sG_G]; repeat rw [if_neg (by omega)])) (by first | rfl | (simp only [sI_1, sI_A, sI_G, sA_1, sA_A, sA_G, sG_1, sG_A, sG_G]; repeat rw [if_neg (by omega)])) (fun n q1 q2 => by first | rfl | (simp only [sI_1, sI_A, sI_G, sA_1, sA_A, sA_G, sG_1, sG_A, sG_G]; repeat rw [if_neg (by omega)])), hd.cg (Nat.le_succ _) (fun n q1 q2 => by first | rfl | (simp only [sI_1, sI_A, sI_G, sA_1, sA_A, sA_G, sG_1, sG_A, sG_G]; repeat rw [if_neg (by omega)])) (by first | rfl | (simp only [sI_1, sI_A, sI_G, sA_1, sA_A, sA_G, sG_1, sG_A, sG_G]; repeat rw [if_neg (by omega)])) (by first | rfl | (simp only [sI_1, sI_A, sI_G, sA_1, sA_A, sA_G, sG_1, sG_A, sG_G]; repeat rw [if_neg (by omega)])) (fun n q1 q2 => by first | rfl | (simp only [sI_1, sI_A, sI_G, sA_1, sA_A, sA_G, sG_1, sG_A, sG_G]; repeat rw [if_neg (by omega)])), hb.cg (fun n q1 q2 => by first | rfl | (simp only [sI_1, sI_A, sI_G, sA_1, sA_A, sA_G, sG_1, sG_A, sG_G]; repeat rw [if_neg (by omega)])) (fun n q1 q2 => by first | rfl | (simp only [sI_1, sI_A, sI_G, sA_1, sA_A, sA_G, sG_1, sG_A, sG_G]; repeat rw [if_neg (by omega)])) (fun n q1 q2 => by first | rfl | (simp only [sI_1, sI_A, sI_G, sA_1, sA_A, sA_G, sG_1, sG_A, sG_G]; repeat rw [if_neg (by omega)])) (fun n q1 q2 => by first | rfl | (simp only [sI_1, sI_A, sI_G, sA_1, sA_A, sA_G, sG_1, sG_A, sG_G]; repeat rw [if_neg (by omega)])), ?_⟩
          · intro i hi
            by_cases hij : i = j
            · subst hij
              have g1 : (sG x (59 + 2 * i) (vp_updL (x.2.2 (59 + 2 * i)) q (a3))).2.2 (59 + 2 * i) = vp_updL (x.2.2 (59 + 2 * i)) q (a3) := if_pos rfl
              unfold CPs1
              right; right
              refine ⟨3, n, by omega, e2, e3, e4, e5, e6, e7, fun i2 hi2 => ?_⟩
              rw [g1]
              show vp_updL (x.2.2 (59 + 2 * i)) q (a3) i2 = vp_updL (y.2.2 106) (60 * i + q) (a3) (60 * i + i2) ∧ (3 = 0 → -128 ≤ (vp_updL (y.2.2 106) (60 * i + q) (a3) (60 * i + i2)).toInt ∧ (vp_updL (y.2.2 106) (60 * i + q) (a3) (60 * i + i2)).toInt ≤ 127)
              by_cases hq : i2 = q
              · subst hq
                rw [updL_s, updL_s]
                exact ⟨rfl, fun q => absurd q (by decide)⟩
              · rw [updL_n hq, updL_n (by omega)]
                exact e8 i2 hi2
            · exact (hs i hi).cg (fun k q1 q2 => by first | rfl | (repeat rw [sI_n (by omega)])) (by exact if_neg (by omega)) (by first | exact Int.le_refl _ | (simp only [sI_1, sI_A, sI_G, sA_1, sA_A, sA_G, sG_1, sG_A, sG_G]; repeat rw [if_neg (by omega)])) (by first | rfl | exact upd_n hij) (by first | rfl | exact upd_n hij) (fun k hk => by exact updL_n (by omega))
        · refine PW.deeper (k := (2, 0, 0, z)) (Nat.le_of_ble_eq_true rfl) (Nat.le_refl _) (Nat.le_refl _) ?_
          refine PW_aload_n c_G_put_0 rfl ?_
          refine PW_iload_n c_G_put_1 rfl ?_
          refine PW_V0 (d2 := 0) (st := []) [.int (nI j)] c_G_put_2 lk_G_put_102 (po_5 _ _) rfl rfl rfl (Nat.le_of_ble_eq_true rfl) (by first | decide | omega) (Nat.le_of_ble_eq_true rfl) ?_
          refine sp_shelf hj ?_
          show PW _ _ _ 5 [some (.ref 5), some (.int (nI j)), some (.int a2), some (.long a3), none, none, none] [.ref (58 + 2 * j)] (E x y)
          refine PW_astore (i := 5) (L2 := [some (.ref 5), some (.int (nI j)), some (.int a2), some (.long a3), none, some (.ref (58 + 2 * j)), none]) c_G_put_5 (Nat.le_of_ble_eq_true rfl) rfl rfl ?_
          refine PW_aload c_G_put_7 rfl ?_
          refine PW_ifnonnull c_G_put_9 ?_
          refine PW_aload c_G_put_14 rfl ?_
          refine PW_iload_n c_G_put_16 rfl ?_
          refine PW_V0 (d2 := 1) (st := []) [.int a2] c_G_put_17 lk_G_put_327 (sh_po _ _ hj) rfl rfl rfl (Nat.le_of_ble_eq_true rfl) (by first | decide | omega) (Nat.le_of_ble_eq_true rfl) ?_
          show PW _ _ _ 0 [some (.ref (58 + 2 * j)), some (.int a2)] [] (E x y)
          refine PW_aload_n c_F_elementRefusal_0 rfl ?_
          refine PW_V0 (d2 := 0) (st := []) [] c_F_elementRefusal_1 lk_F_elementRefusal_37 (sh_po _ _ hj) rfl rfl rfl (Nat.le_of_ble_eq_true rfl) (by first | decide | omega) (Nat.le_of_ble_eq_true rfl) ?_
          refine sp_F_isEmpty hj  ?_
          show PW _ _ _ 4 [some (.ref (58 + 2 * j)), some (.int a2)] [.int (b2i (x.1 ((58 + 2 * j) * 8 + 1) = 0))] (E x y)
          refine PW_if_eq c_F_elementRefusal_4 (fun _ => ?_) (fun h0 => absurd (b2i_n0.mp h0) (by rw [e4]; decide))
          refine PW_aload_n c_F_elementRefusal_10 rfl ?_
          refine PW_V0 (d2 := 0) (st := []) [] c_F_elementRefusal_11 lk_F_elementRefusal_44 (sh_po _ _ hj) rfl rfl rfl (Nat.le_of_ble_eq_true rfl) (by first | decide | omega) (Nat.le_of_ble_eq_true rfl) ?_
          refine sp_F_holdsRow hj  ?_
          show PW _ _ _ 14 [some (.ref (58 + 2 * j)), some (.int a2)] [.int (b2i (x.1 ((58 + 2 * j) * 8 + 1) = 2))] (E x y)
          refine PW_if_ne c_F_elementRefusal_14 (fun _ => ?_) (fun h1 => absurd e4 (b2i_0.mp h1))
          refine PW_aload_n c_F_elementRefusal_20 rfl ?_
          refine PW_iload_n c_F_elementRefusal_21 rfl ?_
          refine PW_iconst (v := 1) c_F_elementRefusal_22 (by decide) ?_
          refine PW_V0 (d2 := 0) (st := []) [.int a2, .int 1] c_F_elementRefusal_23 lk_F_elementRefusal_47 (sh_po _ _ hj) rfl rfl rfl (Nat.le_of_ble_eq_true rfl) (by first | decide | omega) (Nat.le_of_ble_eq_true rfl) ?_
          refine sp_F_hasPlaces hj (by assumption) ?_
          show PW _ _ _ 26 [some (.ref (58 + 2 * j)), some (.int a2)] [.int (b2i (0 ≤ a2.toInt ∧ 0 ≤ (1 : Int32).toInt ∧ (1 : Int32).toInt ≤ (x.1 ((58 + 2 * j) * 8 + 4)).toInt ∧ a2.toInt ≤ (x.1 ((58 + 2 * j) * 8 + 4)).toInt - (1 : Int32).toInt))] (E x y)
          refine PW_if_eq c_F_elementRefusal_26 (fun h2 => absurd hp (b2i_0.mp h2)) (fun _ => ?_)
          refine PW_iconst (v := 0) c_F_elementRefusal_29 (by decide) ?_
          refine PW_goto c_F_elementRefusal_30 ?_
          refine PW_ireturn (ty := .int) c_F_elementRefusal_35 rfl rfl ?_
          show PW _ _ _ 20 [some (.ref 5), some (.int (nI j)), some (.int a2), some (.long a3), none, some (.ref (58 + 2 * j)), none] [.int 0] (E x y)
          refine PW_istore (i := 6) (L2 := [some (.ref 5), some (.int (nI j)), some (.int a2), some (.long a3), none, some (.ref (58 + 2 * j)), some (.int 0)]) c_G_put_20 (Nat.le_of_ble_eq_true rfl) rfl rfl ?_
          refine PW_iload c_G_put_22 rfl ?_
          refine PW_if_eq c_G_put_24 (fun _ => ?_) (fun h3 => absurd (by decide) h3)
          refine PW_aload c_G_put_30 rfl ?_
          refine PW_iload_n c_G_put_32 rfl ?_
          refine PW_lload_n c_G_put_33 rfl ?_
          refine PW_V0 (d2 := 1) (st := []) [.int a2, .long a3] c_G_put_34 lk_G_put_330 (sh_po _ _ hj) rfl rfl rfl (Nat.le_of_ble_eq_true rfl) (by first | decide | omega) (Nat.le_of_ble_eq_true rfl) ?_
          show PW _ _ _ 0 [some (.ref (58 + 2 * j)), some (.int a2), some (.long a3), none] [] (E x y)
          refine PW_aload_n c_F_write_0 rfl ?_
          refine PW_iload_n c_F_write_1 rfl ?_
          refine PW_iconst (v := 1) c_F_write_2 (by decide) ?_
          refine PW_V0 (d2 := 0) (st := []) [.int a2, .int 1] c_F_write_3 lk_F_write_47 (sh_po _ _ hj) rfl rfl rfl (Nat.le_of_ble_eq_true rfl) (by first | decide | omega) (Nat.le_of_ble_eq_true rfl) ?_
          refine sp_F_hasPlaces hj (by assumption) ?_
          show PW _ _ _ 6 [some (.ref (58 + 2 * j)), some (.int a2), some (.long a3), none] [.int (b2i (0 ≤ a2.toInt ∧ 0 ≤ (1 : Int32).toInt ∧ (1 : Int32).toInt ≤ (x.1 ((58 + 2 * j) * 8 + 4)).toInt ∧ a2.toInt ≤ (x.1 ((58 + 2 * j) * 8 + 4)).toInt - (1 : Int32).toInt))] (E x y)
          refine PW_if_eq c_F_write_6 (fun h4 => absurd hp (b2i_0.mp h4)) (fun _ => ?_)
          refine PW_aload_n c_F_write_9 rfl ?_
          refine PW_get (v := .ref (59 + 2 * j)) c_F_write_10 fl_F_11 (sh_g0 _ _ hj) ?_
          refine PW_iload_n c_F_write_13 rfl ?_
          refine PW_aload_n c_F_write_14 rfl ?_
          refine PW_lload_n c_F_write_15 rfl ?_
          refine PW_V0 (d2 := 0) (st := [.int a2, .ref (59 + 2 * j)]) [.long a3] c_F_write_16 lk_F_write_54 (sh_po _ _ hj) rfl rfl rfl (Nat.le_of_ble_eq_true rfl) (by first | decide | omega) (Nat.le_of_ble_eq_true rfl) ?_
          show PW _ _ _ 0 [some (.ref (58 + 2 * j)), some (.long a3), none] [] (E x y)
          refine PW_aload_n c_F_lowestBits_0 rfl ?_
          refine PW_get (v := .int (x.1 ((58 + 2 * j) * 8 + 3))) c_F_lowestBits_1 fl_F_19 (sh_g3 _ _ hj) ?_
          refine PW_tableIn (tgt := 50) (off := 46) c_F_lowestBits_4 (by rw [e5]; decide) (by rw [e5]; decide) (by rw [e5]; rfl) rfl ?_
          refine PW_lload_n c_F_lowestBits_50 rfl ?_
          refine PW_lreturn c_F_lowestBits_51 rfl ?_
          show PW _ _ _ 19 [some (.ref (58 + 2 * j)), some (.int a2), some (.long a3), none] [.long a3, .int a2, .ref (59 + 2 * j)] (E x y)
          refine PW_last (j := q) (w2 := E (sG x (59 + 2 * j) (vp_updL (x.2.2 (59 + 2 * j)) q a3)) y) c_F_write_19 (sh_r _ _ hj) (by rw [q2]; exact vp_in_nI (by omega) (by decide)) (by rw [q2]; exact nI_clamp (by omega)) (sh_w _ _ hj _) ?_
          refine PW_vreturn c_F_write_20 rfl ?_
          show PW _ _ _ 37 [some (.ref 5), some (.int (nI j)), some (.int a2), some (.long a3), none, some (.ref (58 + 2 * j)), some (.int 0)] [] (E (sG x (59 + 2 * j) (vp_updL (x.2.2 (59 + 2 * j)) q a3)) y)
          refine PW_iconst (v := 1) c_G_put_37 (by decide) ?_
          refine PW_ireturn (ty := .int) c_G_put_38 rfl rfl ?_
          exact h
        · refine PW.deeper (k := (3, 0, 0, z)) (Nat.le_of_ble_eq_true rfl) (Nat.le_refl _) (Nat.le_refl _) ?_
          refine PW_aload_n c_M_put_0 rfl ?_
          refine PW_iload_n c_M_put_1 rfl ?_
          refine PW_iload_n c_M_put_2 rfl ?_
          refine PW_V0 (d2 := 2) (st := []) [.int (nI j), .int a2] c_M_put_3 lk_M_put_403 (po_70 _ _) rfl rfl rfl (Nat.le_of_ble_eq_true rfl) (by first | decide | omega) (Nat.le_of_ble_eq_true rfl) ?_
          show PW _ _ _ 0 [some (.ref 70), some (.int (nI j)), some (.int a2)] [] (E (sG x (59 + 2 * j) (vp_updL (x.2.2 (59 + 2 * j)) q a3)) y)
          refine PW_iload_n c_M_whyNoPlace_0 rfl ?_
          refine PW_S0 (d2 := 1) (st := []) [.int (nI j)] c_M_whyNoPlace_1 lk_M_whyNoPlace_143 rfl rfl rfl (Nat.le_of_ble_eq_true rfl) (by first | decide | omega) (Nat.le_of_ble_eq_true rfl) ?_
          refine sp_M_isShelf2  ?_
          show PW _ _ _ 4 [some (.ref 70), some (.int (nI j)), some (.int a2)] [.int (b2i (0 ≤ (nI j).toInt ∧ (nI j).toInt < 6))] (E (sG x (59 + 2 * j) (vp_updL (x.2.2 (59 + 2 * j)) q a3)) y)
          refine PW_if_ne c_M_whyNoPlace_4 (fun _ => ?_) (fun h0 => absurd hjs (b2i_0.mp h0))
          refine PW_aload_n c_M_whyNoPlace_9 rfl ?_
          refine PW_get (v := .ref 104) c_M_whyNoPlace_10 fl_M_111 (gf_70_53 _ _) ?_
          refine PW_iload_n c_M_whyNoPlace_13 rfl ?_
          refine PW_iald (j := j) c_M_whyNoPlace_14 (ar_104 _ _) (vp_in_nI hj (by decide)) (nI_clamp (by omega)) ?_
          show PW _ _ _ 15 [some (.ref 70), some (.int (nI j)), some (.int a2)] [.int ((y.2.1 104) j)] (E (sG x (59 + 2 * j) (vp_updL (x.2.2 (59 + 2 * j)) q a3)) y)
          refine PW_iconst (v := -1) c_M_whyNoPlace_15 (by decide) ?_
          refine PW_icmp_ne c_M_whyNoPlace_16 (fun h1 => ?_) (fun h1 => absurd h1 (by rw [e3]; exact ho_n1 e1))
          refine PW_aload_n c_M_whyNoPlace_22 rfl ?_
          refine PW_get (v := .ref 104) c_M_whyNoPlace_23 fl_M_111 (gf_70_53 _ _) ?_
          refine PW_iload_n c_M_whyNoPlace_26 rfl ?_
          refine PW_iald (j := j) c_M_whyNoPlace_27 (ar_104 _ _) (vp_in_nI hj (by decide)) (nI_clamp (by omega)) ?_
          show PW _ _ _ 28 [some (.ref 70), some (.int (nI j)), some (.int a2)] [.int ((y.2.1 104) j)] (E (sG x (59 + 2 * j) (vp_updL (x.2.2 (59 + 2 * j)) q a3)) y)
          refine PW_if_lt c_M_whyNoPlace_28 (fun h2 => ?_) (fun h2 => absurd (by rw [e3]; exact ho_lt e1) h2)
          refine PW_iload_n c_M_whyNoPlace_34 rfl ?_
          refine PW_iconst (v := 0) c_M_whyNoPlace_35 (by decide) ?_
          refine PW_aload_n c_M_whyNoPlace_36 rfl ?_
          refine PW_get (v := .ref 105) c_M_whyNoPlace_37 fl_M_114 (gf_70_54 _ _) ?_
          refine PW_iload_n c_M_whyNoPlace_40 rfl ?_
          refine PW_iald (j := j) c_M_whyNoPlace_41 (ar_105 _ _) (vp_in_nI hj (by decide)) (nI_clamp (by omega)) ?_
          show PW _ _ _ 42 [some (.ref 70), some (.int (nI j)), some (.int a2)] [.int ((y.2.1 105) j), .int 0, .int a2] (E (sG x (59 + 2 * j) (vp_updL (x.2.2 (59 + 2 * j)) q a3)) y)
          refine PW_iconst (v := 1) c_M_whyNoPlace_42 (by decide) ?_
          refine PW_isub c_M_whyNoPlace_43 ?_
          refine PW_S0 (d2 := 0) (st := []) [.int a2, .int 0, .int (((y.2.1 105) j) - 1)] c_M_whyNoPlace_44 lk_M_whyNoPlace_131 rfl rfl rfl (Nat.le_of_ble_eq_true rfl) (by first | decide | omega) (Nat.le_of_ble_eq_true rfl) ?_
          refine sp_M_within  ?_
          show PW _ _ _ 47 [some (.ref 70), some (.int (nI j)), some (.int a2)] [.int (b2i ((0 : Int32) ≤ a2 ∧ a2 ≤ (((y.2.1 105) j) - 1)))] (E (sG x (59 + 2 * j) (vp_updL (x.2.2 (59 + 2 * j)) q a3)) y)
          refine PW_if_eq c_M_whyNoPlace_47 (fun h3 => absurd (hz3.mpr hc1) (b2i_0.mp h3)) (fun _ => ?_)
          refine PW_iconst (v := 0) c_M_whyNoPlace_50 (by decide) ?_
          refine PW_goto c_M_whyNoPlace_51 ?_
          refine PW_ireturn (ty := .int) c_M_whyNoPlace_56 rfl rfl ?_
          show PW _ _ _ 6 [some (.ref 70), some (.int (nI j)), some (.int a2), some (.long a3), none, none, none] [.int 0] (E (sG x (59 + 2 * j) (vp_updL (x.2.2 (59 + 2 * j)) q a3)) y)
          refine PW_istore (i := 5) (L2 := [some (.ref 70), some (.int (nI j)), some (.int a2), some (.long a3), none, some (.int 0), none]) c_M_put_6 (Nat.le_of_ble_eq_true rfl) rfl rfl ?_
          refine PW_iload c_M_put_8 rfl ?_
          refine PW_if_ge c_M_put_10 (fun _ => ?_) (fun h4 => absurd (by decide) h4)
          refine PW_bipush (v := -2) c_M_put_16 (by decide) ?_
          refine PW_aload_n c_M_put_18 rfl ?_
          refine PW_get (v := .ref 104) c_M_put_19 fl_M_111 (gf_70_53 _ _) ?_
          refine PW_iload_n c_M_put_22 rfl ?_
          refine PW_iald (j := j) c_M_put_23 (ar_104 _ _) (vp_in_nI hj (by decide)) (nI_clamp (by omega)) ?_
          show PW _ _ _ 24 [some (.ref 70), some (.int (nI j)), some (.int a2), some (.long a3), none, some (.int 0), none] [.int ((y.2.1 104) j), .int (-2)] (E (sG x (59 + 2 * j) (vp_updL (x.2.2 (59 + 2 * j)) q a3)) y)
          refine PW_isub c_M_put_24 ?_
          refine PW_istore (i := 6) (L2 := [some (.ref 70), some (.int (nI j)), some (.int a2), some (.long a3), none, some (.int 0), some (.int ((-2) - ((y.2.1 104) j)))]) c_M_put_25 (Nat.le_of_ble_eq_true rfl) rfl rfl ?_
          refine PW_aload_n c_M_put_27 rfl ?_
          refine PW_get (v := .ref 106) c_M_put_28 fl_M_117 (gf_70_55 _ _) ?_
          refine PW_bipush (v := 60) c_M_put_31 (by decide) ?_
          refine PW_iload_n c_M_put_33 rfl ?_
          refine PW_imul c_M_put_34 ?_
          refine PW_iload_n c_M_put_35 rfl ?_
          refine PW_iadd c_M_put_36 ?_
          refine PW_iload c_M_put_37 rfl ?_
          refine PW_if_ne c_M_put_39 (fun h5 => ?_) (fun h5 => absurd h5 (by rw [e3]; decide))
          refine PW_iload c_M_put_49 rfl ?_
          refine PW_iconst (v := 1) c_M_put_51 (by decide) ?_
          refine PW_icmp_ne c_M_put_52 (fun h6 => ?_) (fun h6 => absurd h6 (by rw [e3]; decide))
          refine PW_iload c_M_put_62 rfl ?_
          refine PW_iconst (v := 2) c_M_put_64 (by decide) ?_
          refine PW_icmp_ne c_M_put_65 (fun h7 => ?_) (fun h7 => absurd h7 (by rw [e3]; decide))
          refine PW_iload c_M_put_74 rfl ?_
          refine PW_iconst (v := 3) c_M_put_76 (by decide) ?_
          refine PW_icmp_ne c_M_put_77 (fun h8 => absurd h8 (not_not_intro (by rw [e3]; decide))) (fun h8 => ?_)
          refine PW_lload_n c_M_put_80 rfl ?_
          refine PW_goto c_M_put_81 ?_
          refine PW_last (j := 60 * j + q) (w2 := E (sG x (59 + 2 * j) (vp_updL (x.2.2 (59 + 2 * j)) q a3)) (sG y 106 (vp_updL (y.2.2 106) (60 * j + q) a3))) c_M_put_95 (ar_106 _ _) (by rw [show (60 : Int32) = nI 60 from rfl, q2, pk_mul, nI_add]; exact vp_in_nI (by omega) (by decide)) (by rw [show (60 : Int32) = nI 60 from rfl, q2, pk_mul, nI_add]; exact nI_clamp (by omega)) (aw_106 _ _ _) ?_
          refine PW_iconst (v := 1) c_M_put_96 (by decide) ?_
          refine PW_ireturn (ty := .int) c_M_put_97 rfl rfl ?_
          exact h
      · by_cases hl0 : lg_cmp a3 0 = 0
        · refine ⟨1, sG x (59 + 2 * j) (vp_updL (x.2.2 (59 + 2 * j)) q 0), sG y 106 (vp_updL (y.2.2 106) (60 * j + q) 0), ?_, fun {z post} h => ?_, fun {z post} h => ?_⟩
          · refine ⟨hg.cg (fun n q1 q2 => by first | rfl | (simp only [sI_1, sI_A, sI_G, sA_1, sA_A, sA_G, sG_1, sG_A, sG_G]; repeat rw [if_neg (by omega)])) (fun n q1 q2 => by first | rfl | (simp only [sI_1, sI_A, sI_G, sA_1, sA_A, sA_G, sG_1, sG_A, sG_G]; repeat rw [if_neg (by omega)])) (by first | rfl | (simp only [sI_1, sI_A, sI_G, sA_1, sA_A, sA_G, sG_1, sG_A, sG_G]; repeat rw [if_neg (by omega)])) (fun n q1 q2 => by first | rfl | (simp only [sI_1, sI_A, sI_G, sA_1, sA_A, sA_G, sG_1, sG_A, sG_G]; repeat rw [if_neg (by omega)])), hc.cg (fun n q1 q2 => by first | rfl | (simp only [sI_1, sI_A, sI_G, sA_1, sA_A, sA_G, sG_1, sG_A, sG_G]; repeat rw [if_neg (by omega)])) (fun n q1 q2 => by first | rfl | (simp only [sI_1, sI_A, sI_G, sA_1, sA_A, sA_G, sG_1, sG_A, sG_G]; repeat rw [if_neg (by omega)])) (fun n q1 q2 => by first | rfl | (simp only [sI_1, sI_A, sI_G, sA_1, sA_A, sA_G, sG_1, sG_A, sG_G]; repeat rw [if_neg (by omega)])) (fun n q1 q2 => by first | rfl | (simp only [sI_1, sI_A, sI_G, sA_1, sA_A, sA_G, sG_1, sG_A, sG_G]; repeat rw [if_neg (by omega)])) (Nat.le_of_eq (nG_cg (by first | rfl | (simp only [sI_1, sI_A, sI_G, sA_1, sA_A, sA_G, sG_1, sG_A, sG_G]; repeat rw [if_neg (by omega)]))).symm), ht0.cg (by first | rfl | (simp only [sI_1, sI_A, sI_G, sA_1, sA_A, sA_G, sG_1, sG_A, sG_G]; repeat rw [if_neg (by omega)])) (by first | rfl | (simp only [sI_1, sI_A, sI_G, sA_1, sA_A, sA_G, sG_1, sG_A, sG_G]; repeat rw [if_neg (by omega)])) (by first | rfl | (simp only [sI_1, sI_A, sI_G, sA_1, sA_A, sA_G, sG_1, sG_A, sG_G]; repeat rw [if_neg (by omega)])) (by first | rfl | (simp only [sI_1, sI_A, sI_G, sA_1, sA_A, sA_G, sG_1, sG_A, sG_G]; repeat rw [if_neg (by omega)])), hl.cg (by first | rfl | (simp only [sI_1, sI_A, sI_G, sA_1, sA_A, sA_G, sG_1, sG_A, sG_G]; repeat rw [if_neg (by omega)])) (fun n q1 q2 => by first | rfl | (simp only [sI_1, sI_A, sI_G, sA_1, sA_A, sA_G, sG_1, sG_A, sG_G]; repeat rw [if_neg (by omega)])) (by first | rfl | (simp only [sI_1, sI_A, sI_G, sA_1, sA_A, sA_G, sG_1, sG_A, sG_G]; repeat rw [if_neg (by omega)])) (fun n q1 q2 => by first | rfl | (simp only [sI_1, sI_A, sI_G, sA_1, sA_A, sA_G, sG_1, sG_A, sG_G]; repeat rw [if_neg (by omega)])), hd.cg (Nat.le_succ _) (fun n q1 q2 => by first | rfl | (simp only [sI_1, sI_A, sI_G, sA_1, sA_A, sA_G, sG_1, sG_A, sG_G]; repeat rw [if_neg (by omega)])) (by first | rfl | (simp only [sI_1, sI_A, sI_G, sA_1, sA_A, sA_G, sG_1, sG_A, sG_G]; repeat rw [if_neg (by omega)])) (by first | rfl | (simp only [sI_1, sI_A, sI_G, sA_1, sA_A, sA_G, sG_1, sG_A, sG_G]; repeat rw [if_neg (by omega)])) (fun n q1 q2 => by first | rfl | (simp only [sI_1, sI_A, sI_G, sA_1, sA_A, sA_G, sG_1, sG_A, sG_G]; repeat rw [if_neg (by omega)])), hb.cg (fun n q1 q2 => by first | rfl | (simp only [sI_1, sI_A, sI_G, sA_1, sA_A, sA_G, sG_1, sG_A, sG_G]; repeat rw [if_neg (by omega)])) (fun n q1 q2 => by first | rfl | (simp only [sI_1, sI_A, sI_G, sA_1, sA_A, sA_G, sG_1, sG_A, sG_G]; repeat rw [if_neg (by omega)])) (fun n q1 q2 => by first | rfl | (simp only [sI_1, sI_A, sI_G, sA_1, sA_A, sA_G, sG_1, sG_A, sG_G]; repeat rw [if_neg (by omega)])) (fun n q1 q2 => by first | rfl | (simp only [sI_1, sI_A, sI_G, sA_1, sA_A, sA_G, sG_1, sG_A, sG_G]; repeat rw [if_neg (by omega)])), ?_⟩
            · intro i hi
              by_cases hij : i = j
              · subst hij
                have g1 : (sG x (59 + 2 * i) (vp_updL (x.2.2 (59 + 2 * i)) q (0))).2.2 (59 + 2 * i) = vp_updL (x.2.2 (59 + 2 * i)) q (0) := if_pos rfl
                unfold CPs1
                right; right
                refine ⟨4, n, by omega, e2, e3, e4, e5, e6, e7, fun i2 hi2 => ?_⟩
                rw [g1]
                show vp_updL (x.2.2 (59 + 2 * i)) q (0) i2 = vp_updL (y.2.2 106) (60 * i + q) (0) (60 * i + i2) ∧ (4 = 0 → -128 ≤ (vp_updL (y.2.2 106) (60 * i + q) (0) (60 * i + i2)).toInt ∧ (vp_updL (y.2.2 106) (60 * i + q) (0) (60 * i + i2)).toInt ≤ 127)
                by_cases hq : i2 = q
                · subst hq
                  rw [updL_s, updL_s]
                  exact ⟨rfl, fun q => absurd q (by decide)⟩
                · rw [updL_n hq, updL_n (by omega)]
                  exact e8 i2 hi2
              · exact (hs i hi).cg (fun k q1 q2 => by first | rfl | (repeat rw [sI_n (by omega)])) (by exact if_neg (by omega)) (by first | exact Int.le_refl _ | (simp only [sI_1, sI_A, sI_G, sA_1, sA_A, sA_G, sG_1, sG_A, sG_G]; repeat rw [if_neg (by omega)])) (by first | rfl | exact upd_n hij) (by first | rfl | exact upd_n hij) (fun k hk => by exact updL_n (by omega))
          · refine PW.deeper (k := (2, 0, 0, z)) (Nat.le_of_ble_eq_true rfl) (Nat.le_refl _) (Nat.le_refl _) ?_
            refine PW_aload_n c_G_put_0 rfl ?_
            refine PW_iload_n c_G_put_1 rfl ?_
            refine PW_V0 (d2 := 0) (st := []) [.int (nI j)] c_G_put_2 lk_G_put_102 (po_5 _ _) rfl rfl rfl (Nat.le_of_ble_eq_true rfl) (by first | decide | omega) (Nat.le_of_ble_eq_true rfl) ?_
            refine sp_shelf hj ?_
            show PW _ _ _ 5 [some (.ref 5), some (.int (nI j)), some (.int a2), some (.long a3), none, none, none] [.ref (58 + 2 * j)] (E x y)
            refine PW_astore (i := 5) (L2 := [some (.ref 5), some (.int (nI j)), some (.int a2), some (.long a3), none, some (.ref (58 + 2 * j)), none]) c_G_put_5 (Nat.le_of_ble_eq_true rfl) rfl rfl ?_
            refine PW_aload c_G_put_7 rfl ?_
            refine PW_ifnonnull c_G_put_9 ?_
            refine PW_aload c_G_put_14 rfl ?_
            refine PW_iload_n c_G_put_16 rfl ?_
            refine PW_V0 (d2 := 1) (st := []) [.int a2] c_G_put_17 lk_G_put_327 (sh_po _ _ hj) rfl rfl rfl (Nat.le_of_ble_eq_true rfl) (by first | decide | omega) (Nat.le_of_ble_eq_true rfl) ?_
            show PW _ _ _ 0 [some (.ref (58 + 2 * j)), some (.int a2)] [] (E x y)
            refine PW_aload_n c_F_elementRefusal_0 rfl ?_
            refine PW_V0 (d2 := 0) (st := []) [] c_F_elementRefusal_1 lk_F_elementRefusal_37 (sh_po _ _ hj) rfl rfl rfl (Nat.le_of_ble_eq_true rfl) (by first | decide | omega) (Nat.le_of_ble_eq_true rfl) ?_
            refine sp_F_isEmpty hj  ?_
            show PW _ _ _ 4 [some (.ref (58 + 2 * j)), some (.int a2)] [.int (b2i (x.1 ((58 + 2 * j) * 8 + 1) = 0))] (E x y)
            refine PW_if_eq c_F_elementRefusal_4 (fun _ => ?_) (fun h0 => absurd (b2i_n0.mp h0) (by rw [e4]; decide))
            refine PW_aload_n c_F_elementRefusal_10 rfl ?_
            refine PW_V0 (d2 := 0) (st := []) [] c_F_elementRefusal_11 lk_F_elementRefusal_44 (sh_po _ _ hj) rfl rfl rfl (Nat.le_of_ble_eq_true rfl) (by first | decide | omega) (Nat.le_of_ble_eq_true rfl) ?_
            refine sp_F_holdsRow hj  ?_
            show PW _ _ _ 14 [some (.ref (58 + 2 * j)), some (.int a2)] [.int (b2i (x.1 ((58 + 2 * j) * 8 + 1) = 2))] (E x y)
            refine PW_if_ne c_F_elementRefusal_14 (fun _ => ?_) (fun h1 => absurd e4 (b2i_0.mp h1))
            refine PW_aload_n c_F_elementRefusal_20 rfl ?_
            refine PW_iload_n c_F_elementRefusal_21 rfl ?_
            refine PW_iconst (v := 1) c_F_elementRefusal_22 (by decide) ?_
            refine PW_V0 (d2 := 0) (st := []) [.int a2, .int 1] c_F_elementRefusal_23 lk_F_elementRefusal_47 (sh_po _ _ hj) rfl rfl rfl (Nat.le_of_ble_eq_true rfl) (by first | decide | omega) (Nat.le_of_ble_eq_true rfl) ?_
            refine sp_F_hasPlaces hj (by assumption) ?_
            show PW _ _ _ 26 [some (.ref (58 + 2 * j)), some (.int a2)] [.int (b2i (0 ≤ a2.toInt ∧ 0 ≤ (1 : Int32).toInt ∧ (1 : Int32).toInt ≤ (x.1 ((58 + 2 * j) * 8 + 4)).toInt ∧ a2.toInt ≤ (x.1 ((58 + 2 * j) * 8 + 4)).toInt - (1 : Int32).toInt))] (E x y)
            refine PW_if_eq c_F_elementRefusal_26 (fun h2 => absurd hp (b2i_0.mp h2)) (fun _ => ?_)
            refine PW_iconst (v := 0) c_F_elementRefusal_29 (by decide) ?_
            refine PW_goto c_F_elementRefusal_30 ?_
            refine PW_ireturn (ty := .int) c_F_elementRefusal_35 rfl rfl ?_
            show PW _ _ _ 20 [some (.ref 5), some (.int (nI j)), some (.int a2), some (.long a3), none, some (.ref (58 + 2 * j)), none] [.int 0] (E x y)
            refine PW_istore (i := 6) (L2 := [some (.ref 5), some (.int (nI j)), some (.int a2), some (.long a3), none, some (.ref (58 + 2 * j)), some (.int 0)]) c_G_put_20 (Nat.le_of_ble_eq_true rfl) rfl rfl ?_
            refine PW_iload c_G_put_22 rfl ?_
            refine PW_if_eq c_G_put_24 (fun _ => ?_) (fun h3 => absurd (by decide) h3)
            refine PW_aload c_G_put_30 rfl ?_
            refine PW_iload_n c_G_put_32 rfl ?_
            refine PW_lload_n c_G_put_33 rfl ?_
            refine PW_V0 (d2 := 1) (st := []) [.int a2, .long a3] c_G_put_34 lk_G_put_330 (sh_po _ _ hj) rfl rfl rfl (Nat.le_of_ble_eq_true rfl) (by first | decide | omega) (Nat.le_of_ble_eq_true rfl) ?_
            show PW _ _ _ 0 [some (.ref (58 + 2 * j)), some (.int a2), some (.long a3), none] [] (E x y)
            refine PW_aload_n c_F_write_0 rfl ?_
            refine PW_iload_n c_F_write_1 rfl ?_
            refine PW_iconst (v := 1) c_F_write_2 (by decide) ?_
            refine PW_V0 (d2 := 0) (st := []) [.int a2, .int 1] c_F_write_3 lk_F_write_47 (sh_po _ _ hj) rfl rfl rfl (Nat.le_of_ble_eq_true rfl) (by first | decide | omega) (Nat.le_of_ble_eq_true rfl) ?_
            refine sp_F_hasPlaces hj (by assumption) ?_
            show PW _ _ _ 6 [some (.ref (58 + 2 * j)), some (.int a2), some (.long a3), none] [.int (b2i (0 ≤ a2.toInt ∧ 0 ≤ (1 : Int32).toInt ∧ (1 : Int32).toInt ≤ (x.1 ((58 + 2 * j) * 8 + 4)).toInt ∧ a2.toInt ≤ (x.1 ((58 + 2 * j) * 8 + 4)).toInt - (1 : Int32).toInt))] (E x y)
            refine PW_if_eq c_F_write_6 (fun h4 => absurd hp (b2i_0.mp h4)) (fun _ => ?_)
            refine PW_aload_n c_F_write_9 rfl ?_
            refine PW_get (v := .ref (59 + 2 * j)) c_F_write_10 fl_F_11 (sh_g0 _ _ hj) ?_
            refine PW_iload_n c_F_write_13 rfl ?_
            refine PW_aload_n c_F_write_14 rfl ?_
            refine PW_lload_n c_F_write_15 rfl ?_
            refine PW_V0 (d2 := 0) (st := [.int a2, .ref (59 + 2 * j)]) [.long a3] c_F_write_16 lk_F_write_54 (sh_po _ _ hj) rfl rfl rfl (Nat.le_of_ble_eq_true rfl) (by first | decide | omega) (Nat.le_of_ble_eq_true rfl) ?_
            show PW _ _ _ 0 [some (.ref (58 + 2 * j)), some (.long a3), none] [] (E x y)
            refine PW_aload_n c_F_lowestBits_0 rfl ?_
            refine PW_get (v := .int (x.1 ((58 + 2 * j) * 8 + 3))) c_F_lowestBits_1 fl_F_19 (sh_g3 _ _ hj) ?_
            refine PW_tableOut (tgt := 52) c_F_lowestBits_4 (by rw [e5]; decide) rfl ?_
            refine PW_lload_n c_F_lowestBits_52 rfl ?_
            refine PW_lconst (v := 0) c_F_lowestBits_53 (by decide) ?_
            refine PW_lcmp c_F_lowestBits_54 ?_
            refine PW_if_eq c_F_lowestBits_55 (fun h5 => ?_) (fun h5 => absurd hl0 h5)
            refine PW_lconst (v := 0) c_F_lowestBits_62 (by decide) ?_
            refine PW_lreturn c_F_lowestBits_63 rfl ?_
            show PW _ _ _ 19 [some (.ref (58 + 2 * j)), some (.int a2), some (.long a3), none] [.long 0, .int a2, .ref (59 + 2 * j)] (E x y)
            refine PW_last (j := q) (w2 := E (sG x (59 + 2 * j) (vp_updL (x.2.2 (59 + 2 * j)) q 0)) y) c_F_write_19 (sh_r _ _ hj) (by rw [q2]; exact vp_in_nI (by omega) (by decide)) (by rw [q2]; exact nI_clamp (by omega)) (sh_w _ _ hj _) ?_
            refine PW_vreturn c_F_write_20 rfl ?_
            show PW _ _ _ 37 [some (.ref 5), some (.int (nI j)), some (.int a2), some (.long a3), none, some (.ref (58 + 2 * j)), some (.int 0)] [] (E (sG x (59 + 2 * j) (vp_updL (x.2.2 (59 + 2 * j)) q 0)) y)
            refine PW_iconst (v := 1) c_G_put_37 (by decide) ?_
            refine PW_ireturn (ty := .int) c_G_put_38 rfl rfl ?_
            exact h
          · refine PW.deeper (k := (3, 0, 0, z)) (Nat.le_of_ble_eq_true rfl) (Nat.le_refl _) (Nat.le_refl _) ?_
            refine PW_aload_n c_M_put_0 rfl ?_
            refine PW_iload_n c_M_put_1 rfl ?_
            refine PW_iload_n c_M_put_2 rfl ?_
            refine PW_V0 (d2 := 2) (st := []) [.int (nI j), .int a2] c_M_put_3 lk_M_put_403 (po_70 _ _) rfl rfl rfl (Nat.le_of_ble_eq_true rfl) (by first | decide | omega) (Nat.le_of_ble_eq_true rfl) ?_
            show PW _ _ _ 0 [some (.ref 70), some (.int (nI j)), some (.int a2)] [] (E (sG x (59 + 2 * j) (vp_updL (x.2.2 (59 + 2 * j)) q 0)) y)
            refine PW_iload_n c_M_whyNoPlace_0 rfl ?_
            refine PW_S0 (d2 := 1) (st := []) [.int (nI j)] c_M_whyNoPlace_1 lk_M_whyNoPlace_143 rfl rfl rfl (Nat.le_of_ble_eq_true rfl) (by first | decide | omega) (Nat.le_of_ble_eq_true rfl) ?_
            refine sp_M_isShelf2  ?_
            show PW _ _ _ 4 [some (.ref 70), some (.int (nI j)), some (.int a2)] [.int (b2i (0 ≤ (nI j).toInt ∧ (nI j).toInt < 6))] (E (sG x (59 + 2 * j) (vp_updL (x.2.2 (59 + 2 * j)) q 0)) y)
            refine PW_if_ne c_M_whyNoPlace_4 (fun _ => ?_) (fun h0 => absurd hjs (b2i_0.mp h0))
            refine PW_aload_n c_M_whyNoPlace_9 rfl ?_
            refine PW_get (v := .ref 104) c_M_whyNoPlace_10 fl_M_111 (gf_70_53 _ _) ?_
            refine PW_iload_n c_M_whyNoPlace_13 rfl ?_
            refine PW_iald (j := j) c_M_whyNoPlace_14 (ar_104 _ _) (vp_in_nI hj (by decide)) (nI_clamp (by omega)) ?_
            show PW _ _ _ 15 [some (.ref 70), some (.int (nI j)), some (.int a2)] [.int ((y.2.1 104) j)] (E (sG x (59 + 2 * j) (vp_updL (x.2.2 (59 + 2 * j)) q 0)) y)
            refine PW_iconst (v := -1) c_M_whyNoPlace_15 (by decide) ?_
            refine PW_icmp_ne c_M_whyNoPlace_16 (fun h1 => ?_) (fun h1 => absurd h1 (by rw [e3]; exact ho_n1 e1))
            refine PW_aload_n c_M_whyNoPlace_22 rfl ?_
            refine PW_get (v := .ref 104) c_M_whyNoPlace_23 fl_M_111 (gf_70_53 _ _) ?_
            refine PW_iload_n c_M_whyNoPlace_26 rfl ?_
            refine PW_iald (j := j) c_M_whyNoPlace_27 (ar_104 _ _) (vp_in_nI hj (by decide)) (nI_clamp (by omega)) ?_
            show PW _ _ _ 28 [some (.ref 70), some (.int (nI j)), some (.int a2)] [.int ((y.2.1 104) j)] (E (sG x (59 + 2 * j) (vp_updL (x.2.2 (59 + 2 * j)) q 0)) y)
            refine PW_if_lt c_M_whyNoPlace_28 (fun h2 => ?_) (fun h2 => absurd (by rw [e3]; exact ho_lt e1) h2)
            refine PW_iload_n c_M_whyNoPlace_34 rfl ?_
            refine PW_iconst (v := 0) c_M_whyNoPlace_35 (by decide) ?_
            refine PW_aload_n c_M_whyNoPlace_36 rfl ?_
            refine PW_get (v := .ref 105) c_M_whyNoPlace_37 fl_M_114 (gf_70_54 _ _) ?_
            refine PW_iload_n c_M_whyNoPlace_40 rfl ?_
            refine PW_iald (j := j) c_M_whyNoPlace_41 (ar_105 _ _) (vp_in_nI hj (by decide)) (nI_clamp (by omega)) ?_
            show PW _ _ _ 42 [some (.ref 70), some (.int (nI j)), some (.int a2)] [.int ((y.2.1 105) j), .int 0, .int a2] (E (sG x (59 + 2 * j) (vp_updL (x.2.2 (59 + 2 * j)) q 0)) y)
            refine PW_iconst (v := 1) c_M_whyNoPlace_42 (by decide) ?_
            refine PW_isub c_M_whyNoPlace_43 ?_
            refine PW_S0 (d2 := 0) (st := []) [.int a2, .int 0, .int (((y.2.1 105) j) - 1)] c_M_whyNoPlace_44 lk_M_whyNoPlace_131 rfl rfl rfl (Nat.le_of_ble_eq_true rfl) (by first | decide | omega) (Nat.le_of_ble_eq_true rfl) ?_
            refine sp_M_within  ?_
            show PW _ _ _ 47 [some (.ref 70), some (.int (nI j)), some (.int a2)] [.int (b2i ((0 : Int32) ≤ a2 ∧ a2 ≤ (((y.2.1 105) j) - 1)))] (E (sG x (59 + 2 * j) (vp_updL (x.2.2 (59 + 2 * j)) q 0)) y)
            refine PW_if_eq c_M_whyNoPlace_47 (fun h3 => absurd (hz3.mpr hc1) (b2i_0.mp h3)) (fun _ => ?_)
            refine PW_iconst (v := 0) c_M_whyNoPlace_50 (by decide) ?_
            refine PW_goto c_M_whyNoPlace_51 ?_
            refine PW_ireturn (ty := .int) c_M_whyNoPlace_56 rfl rfl ?_
            show PW _ _ _ 6 [some (.ref 70), some (.int (nI j)), some (.int a2), some (.long a3), none, none, none] [.int 0] (E (sG x (59 + 2 * j) (vp_updL (x.2.2 (59 + 2 * j)) q 0)) y)
            refine PW_istore (i := 5) (L2 := [some (.ref 70), some (.int (nI j)), some (.int a2), some (.long a3), none, some (.int 0), none]) c_M_put_6 (Nat.le_of_ble_eq_true rfl) rfl rfl ?_
            refine PW_iload c_M_put_8 rfl ?_
            refine PW_if_ge c_M_put_10 (fun _ => ?_) (fun h4 => absurd (by decide) h4)
            refine PW_bipush (v := -2) c_M_put_16 (by decide) ?_
            refine PW_aload_n c_M_put_18 rfl ?_
            refine PW_get (v := .ref 104) c_M_put_19 fl_M_111 (gf_70_53 _ _) ?_
            refine PW_iload_n c_M_put_22 rfl ?_
            refine PW_iald (j := j) c_M_put_23 (ar_104 _ _) (vp_in_nI hj (by decide)) (nI_clamp (by omega)) ?_
            show PW _ _ _ 24 [some (.ref 70), some (.int (nI j)), some (.int a2), some (.long a3), none, some (.int 0), none] [.int ((y.2.1 104) j), .int (-2)] (E (sG x (59 + 2 * j) (vp_updL (x.2.2 (59 + 2 * j)) q 0)) y)
            refine PW_isub c_M_put_24 ?_
            refine PW_istore (i := 6) (L2 := [some (.ref 70), some (.int (nI j)), some (.int a2), some (.long a3), none, some (.int 0), some (.int ((-2) - ((y.2.1 104) j)))]) c_M_put_25 (Nat.le_of_ble_eq_true rfl) rfl rfl ?_
            refine PW_aload_n c_M_put_27 rfl ?_
            refine PW_get (v := .ref 106) c_M_put_28 fl_M_117 (gf_70_55 _ _) ?_
            refine PW_bipush (v := 60) c_M_put_31 (by decide) ?_
            refine PW_iload_n c_M_put_33 rfl ?_
            refine PW_imul c_M_put_34 ?_
            refine PW_iload_n c_M_put_35 rfl ?_
            refine PW_iadd c_M_put_36 ?_
            refine PW_iload c_M_put_37 rfl ?_
            refine PW_if_ne c_M_put_39 (fun h5 => ?_) (fun h5 => absurd h5 (by rw [e3]; decide))
            refine PW_iload c_M_put_49 rfl ?_
            refine PW_iconst (v := 1) c_M_put_51 (by decide) ?_
            refine PW_icmp_ne c_M_put_52 (fun h6 => ?_) (fun h6 => absurd h6 (by rw [e3]; decide))
            refine PW_iload c_M_put_62 rfl ?_
            refine PW_iconst (v := 2) c_M_put_64 (by decide) ?_
            refine PW_icmp_ne c_M_put_65 (fun h7 => ?_) (fun h7 => absurd h7 (by rw [e3]; decide))
            refine PW_iload c_M_put_74 rfl ?_
            refine PW_iconst (v := 3) c_M_put_76 (by decide) ?_
            refine PW_icmp_ne c_M_put_77 (fun h8 => ?_) (fun h8 => absurd h8 (by rw [e3]; decide))
            refine PW_lload_n c_M_put_84 rfl ?_
            refine PW_lconst (v := 0) c_M_put_85 (by decide) ?_
            refine PW_lcmp c_M_put_86 ?_
            refine PW_if_eq c_M_put_87 (fun h9 => ?_) (fun h9 => absurd hl0 h9)
            refine PW_lconst (v := 0) c_M_put_94 (by decide) ?_
            refine PW_last (j := 60 * j + q) (w2 := E (sG x (59 + 2 * j) (vp_updL (x.2.2 (59 + 2 * j)) q 0)) (sG y 106 (vp_updL (y.2.2 106) (60 * j + q) 0))) c_M_put_95 (ar_106 _ _) (by rw [show (60 : Int32) = nI 60 from rfl, q2, pk_mul, nI_add]; exact vp_in_nI (by omega) (by decide)) (by rw [show (60 : Int32) = nI 60 from rfl, q2, pk_mul, nI_add]; exact nI_clamp (by omega)) (aw_106 _ _ _) ?_
            refine PW_iconst (v := 1) c_M_put_96 (by decide) ?_
            refine PW_ireturn (ty := .int) c_M_put_97 rfl rfl ?_
            exact h
        refine ⟨1, sG x (59 + 2 * j) (vp_updL (x.2.2 (59 + 2 * j)) q 1), sG y 106 (vp_updL (y.2.2 106) (60 * j + q) 1), ?_, fun {z post} h => ?_, fun {z post} h => ?_⟩
        · refine ⟨hg.cg (fun n q1 q2 => by first | rfl | (simp only [sI_1, sI_A, sI_G, sA_1, sA_A, sA_G, sG_1, sG_A, sG_G]; repeat rw [if_neg (by omega)])) (fun n q1 q2 => by first | rfl | (simp only [sI_1, sI_A, sI_G, sA_1, sA_A, sA_G, sG_1, sG_A, sG_G]; repeat rw [if_neg (by omega)])) (by first | rfl | (simp only [sI_1, sI_A, sI_G, sA_1, sA_A, sA_G, sG_1, sG_A, sG_G]; repeat rw [if_neg (by omega)])) (fun n q1 q2 => by first | rfl | (simp only [sI_1, sI_A, sI_G, sA_1, sA_A, sA_G, sG_1, sG_A, sG_G]; repeat rw [if_neg (by omega)])), hc.cg (fun n q1 q2 => by first | rfl | (simp only [sI_1, sI_A, sI_G, sA_1, sA_A, sA_G, sG_1, sG_A, sG_G]; repeat rw [if_neg (by omega)])) (fun n q1 q2 => by first | rfl | (simp only [sI_1, sI_A, sI_G, sA_1, sA_A, sA_G, sG_1, sG_A, sG_G]; repeat rw [if_neg (by omega)])) (fun n q1 q2 => by first | rfl | (simp only [sI_1, sI_A, sI_G, sA_1, sA_A, sA_G, sG_1, sG_A, sG_G]; repeat rw [if_neg (by omega)])) (fun n q1 q2 => by first | rfl | (simp only [sI_1, sI_A, sI_G, sA_1, sA_A, sA_G, sG_1, sG_A, sG_G]; repeat rw [if_neg (by omega)])) (Nat.le_of_eq (nG_cg (by first | rfl | (simp only [sI_1, sI_A, sI_G, sA_1, sA_A, sA_G, sG_1, sG_A, sG_G]; repeat rw [if_neg (by omega)]))).symm), ht0.cg (by first | rfl | (simp only [sI_1, sI_A, sI_G, sA_1, sA_A, sA_G, sG_1, sG_A, sG_G]; repeat rw [if_neg (by omega)])) (by first | rfl | (simp only [sI_1, sI_A, sI_G, sA_1, sA_A, sA_G, sG_1, sG_A, sG_G]; repeat rw [if_neg (by omega)])) (by first | rfl | (simp only [sI_1, sI_A, sI_G, sA_1, sA_A, sA_G, sG_1, sG_A, sG_G]; repeat rw [if_neg (by omega)])) (by first | rfl | (simp only [sI_1, sI_A, sI_G, sA_1, sA_A, sA_G, sG_1, sG_A, sG_G]; repeat rw [if_neg (by omega)])), hl.cg (by first | rfl | (simp only [sI_1, sI_A, sI_G, sA_1, sA_A, sA_G, sG_1, sG_A, sG_G]; repeat rw [if_neg (by omega)])) (fun n q1 q2 => by first | rfl | (simp only [sI_1, sI_A, sI_G, sA_1, sA_A, sA_G, sG_1, sG_A, sG_G]; repeat rw [if_neg (by omega)])) (by first | rfl | (simp only [sI_1, sI_A, sI_G, sA_1, sA_A, sA_G, sG_1, sG_A, sG_G]; repeat rw [if_neg (by omega)])) (fun n q1 q2 => by first | rfl | (simp only [sI_1, sI_A, sI_G, sA_1, sA_A, sA_G, sG_1, sG_A, sG_G]; repeat rw [if_neg (by omega)])), hd.cg (Nat.le_succ _) (fun n q1 q2 => by first | rfl | (simp only [sI_1, sI_A, sI_G, sA_1, sA_A, sA_G, sG_1, sG_A, sG_G]; repeat rw [if_neg (by omega)])) (by first | rfl | (simp only [sI_1, sI_A, sI_G, sA_1, sA_A, sA_G, sG_1, sG_A, sG_G]; repeat rw [if_neg (by omega)])) (by first | rfl | (simp only [sI_1, sI_A, sI_G, sA_1, sA_A, sA_G, sG_1, sG_A, sG_G]; repeat rw [if_neg (by omega)])) (fun n q1 q2 => by first | rfl | (simp only [sI_1, sI_A, sI_G, sA_1, sA_A, sA_G, sG_1, sG_A, sG_G]; repeat rw [if_neg (by omega)])), hb.cg (fun n q1 q2 => by first | rfl | (simp only [sI_1, sI_A, sI_G, sA_1, sA_A, sA_G, sG_1, sG_A, sG_G]; repeat rw [if_neg (by omega)])) (fun n q1 q2 => by first | rfl | (simp only [sI_1, sI_A, sI_G, sA_1, sA_A, sA_G, sG_1, sG_A, sG_G]; repeat rw [if_neg (by omega)])) (fun n q1 q2 => by first | rfl | (simp only [sI_1, sI_A, sI_G, sA_1, sA_A, sA_G, sG_1, sG_A, sG_G]; repeat rw [if_neg (by omega)])) (fun n q1 q2 => by first | rfl | (simp only [sI_1, sI_A, sI_G, sA_1, sA_A, sA_G, sG_1, sG_A, sG_G]; repeat rw [if_neg (by omega)])), ?_⟩
          · intro i hi
            by_cases hij : i = j
            · subst hij
              have g1 : (sG x (59 + 2 * i) (vp_updL (x.2.2 (59 + 2 * i)) q (1))).2.2 (59 + 2 * i) = vp_updL (x.2.2 (59 + 2 * i)) q (1) := if_pos rfl
              unfold CPs1
              right; right
              refine ⟨4, n, by omega, e2, e3, e4, e5, e6, e7, fun i2 hi2 => ?_⟩
              rw [g1]
              show vp_updL (x.2.2 (59 + 2 * i)) q (1) i2 = vp_updL (y.2.2 106) (60 * i + q) (1) (60 * i + i2) ∧ (4 = 0 → -128 ≤ (vp_updL (y.2.2 106) (60 * i + q) (1) (60 * i + i2)).toInt ∧ (vp_updL (y.2.2 106) (60 * i + q) (1) (60 * i + i2)).toInt ≤ 127)
              by_cases hq : i2 = q
              · subst hq
                rw [updL_s, updL_s]
                exact ⟨rfl, fun q => absurd q (by decide)⟩
              · rw [updL_n hq, updL_n (by omega)]
                exact e8 i2 hi2
            · exact (hs i hi).cg (fun k q1 q2 => by first | rfl | (repeat rw [sI_n (by omega)])) (by exact if_neg (by omega)) (by first | exact Int.le_refl _ | (simp only [sI_1, sI_A, sI_G, sA_1, sA_A, sA_G, sG_1, sG_A, sG_G]; repeat rw [if_neg (by omega)])) (by first | rfl | exact upd_n hij) (by first | rfl | exact upd_n hij) (fun k hk => by exact updL_n (by omega))
        · refine PW.deeper (k := (2, 0, 0, z)) (Nat.le_of_ble_eq_true rfl) (Nat.le_refl _) (Nat.le_refl _) ?_
          refine PW_aload_n c_G_put_0 rfl ?_
          refine PW_iload_n c_G_put_1 rfl ?_
          refine PW_V0 (d2 := 0) (st := []) [.int (nI j)] c_G_put_2 lk_G_put_102 (po_5 _ _) rfl rfl rfl (Nat.le_of_ble_eq_true rfl) (by first | decide | omega) (Nat.le_of_ble_eq_true rfl) ?_
          refine sp_shelf hj ?_
          show PW _ _ _ 5 [some (.ref 5), some (.int (nI j)), some (.int a2), some (.long a3), none, none, none] [.ref (58 + 2 * j)] (E x y)
          refine PW_astore (i := 5) (L2 := [some (.ref 5), some (.int (nI j)), some (.int a2), some (.long a3), none, some (.ref (58 + 2 * j)), none]) c_G_put_5 (Nat.le_of_ble_eq_true rfl) rfl rfl ?_
          refine PW_aload c_G_put_7 rfl ?_
          refine PW_ifnonnull c_G_put_9 ?_
          refine PW_aload c_G_put_14 rfl ?_
          refine PW_iload_n c_G_put_16 rfl ?_
          refine PW_V0 (d2 := 1) (st := []) [.int a2] c_G_put_17 lk_G_put_327 (sh_po _ _ hj) rfl rfl rfl (Nat.le_of_ble_eq_true rfl) (by first | decide | omega) (Nat.le_of_ble_eq_true rfl) ?_
          show PW _ _ _ 0 [some (.ref (58 + 2 * j)), some (.int a2)] [] (E x y)
          refine PW_aload_n c_F_elementRefusal_0 rfl ?_
          refine PW_V0 (d2 := 0) (st := []) [] c_F_elementRefusal_1 lk_F_elementRefusal_37 (sh_po _ _ hj) rfl rfl rfl (Nat.le_of_ble_eq_true rfl) (by first | decide | omega) (Nat.le_of_ble_eq_true rfl) ?_
          refine sp_F_isEmpty hj  ?_
          show PW _ _ _ 4 [some (.ref (58 + 2 * j)), some (.int a2)] [.int (b2i (x.1 ((58 + 2 * j) * 8 + 1) = 0))] (E x y)
          refine PW_if_eq c_F_elementRefusal_4 (fun _ => ?_) (fun h0 => absurd (b2i_n0.mp h0) (by rw [e4]; decide))
          refine PW_aload_n c_F_elementRefusal_10 rfl ?_
          refine PW_V0 (d2 := 0) (st := []) [] c_F_elementRefusal_11 lk_F_elementRefusal_44 (sh_po _ _ hj) rfl rfl rfl (Nat.le_of_ble_eq_true rfl) (by first | decide | omega) (Nat.le_of_ble_eq_true rfl) ?_
          refine sp_F_holdsRow hj  ?_
          show PW _ _ _ 14 [some (.ref (58 + 2 * j)), some (.int a2)] [.int (b2i (x.1 ((58 + 2 * j) * 8 + 1) = 2))] (E x y)
          refine PW_if_ne c_F_elementRefusal_14 (fun _ => ?_) (fun h1 => absurd e4 (b2i_0.mp h1))
          refine PW_aload_n c_F_elementRefusal_20 rfl ?_
          refine PW_iload_n c_F_elementRefusal_21 rfl ?_
          refine PW_iconst (v := 1) c_F_elementRefusal_22 (by decide) ?_
          refine PW_V0 (d2 := 0) (st := []) [.int a2, .int 1] c_F_elementRefusal_23 lk_F_elementRefusal_47 (sh_po _ _ hj) rfl rfl rfl (Nat.le_of_ble_eq_true rfl) (by first | decide | omega) (Nat.le_of_ble_eq_true rfl) ?_
          refine sp_F_hasPlaces hj (by assumption) ?_
          show PW _ _ _ 26 [some (.ref (58 + 2 * j)), some (.int a2)] [.int (b2i (0 ≤ a2.toInt ∧ 0 ≤ (1 : Int32).toInt ∧ (1 : Int32).toInt ≤ (x.1 ((58 + 2 * j) * 8 + 4)).toInt ∧ a2.toInt ≤ (x.1 ((58 + 2 * j) * 8 + 4)).toInt - (1 : Int32).toInt))] (E x y)
          refine PW_if_eq c_F_elementRefusal_26 (fun h2 => absurd hp (b2i_0.mp h2)) (fun _ => ?_)
          refine PW_iconst (v := 0) c_F_elementRefusal_29 (by decide) ?_
          refine PW_goto c_F_elementRefusal_30 ?_
          refine PW_ireturn (ty := .int) c_F_elementRefusal_35 rfl rfl ?_
          show PW _ _ _ 20 [some (.ref 5), some (.int (nI j)), some (.int a2), some (.long a3), none, some (.ref (58 + 2 * j)), none] [.int 0] (E x y)
          refine PW_istore (i := 6) (L2 := [some (.ref 5), some (.int (nI j)), some (.int a2), some (.long a3), none, some (.ref (58 + 2 * j)), some (.int 0)]) c_G_put_20 (Nat.le_of_ble_eq_true rfl) rfl rfl ?_
          refine PW_iload c_G_put_22 rfl ?_
          refine PW_if_eq c_G_put_24 (fun _ => ?_) (fun h3 => absurd (by decide) h3)
          refine PW_aload c_G_put_30 rfl ?_
          refine PW_iload_n c_G_put_32 rfl ?_
          refine PW_lload_n c_G_put_33 rfl ?_
          refine PW_V0 (d2 := 1) (st := []) [.int a2, .long a3] c_G_put_34 lk_G_put_330 (sh_po _ _ hj) rfl rfl rfl (Nat.le_of_ble_eq_true rfl) (by first | decide | omega) (Nat.le_of_ble_eq_true rfl) ?_
          show PW _ _ _ 0 [some (.ref (58 + 2 * j)), some (.int a2), some (.long a3), none] [] (E x y)
          refine PW_aload_n c_F_write_0 rfl ?_
          refine PW_iload_n c_F_write_1 rfl ?_
          refine PW_iconst (v := 1) c_F_write_2 (by decide) ?_
          refine PW_V0 (d2 := 0) (st := []) [.int a2, .int 1] c_F_write_3 lk_F_write_47 (sh_po _ _ hj) rfl rfl rfl (Nat.le_of_ble_eq_true rfl) (by first | decide | omega) (Nat.le_of_ble_eq_true rfl) ?_
          refine sp_F_hasPlaces hj (by assumption) ?_
          show PW _ _ _ 6 [some (.ref (58 + 2 * j)), some (.int a2), some (.long a3), none] [.int (b2i (0 ≤ a2.toInt ∧ 0 ≤ (1 : Int32).toInt ∧ (1 : Int32).toInt ≤ (x.1 ((58 + 2 * j) * 8 + 4)).toInt ∧ a2.toInt ≤ (x.1 ((58 + 2 * j) * 8 + 4)).toInt - (1 : Int32).toInt))] (E x y)
          refine PW_if_eq c_F_write_6 (fun h4 => absurd hp (b2i_0.mp h4)) (fun _ => ?_)
          refine PW_aload_n c_F_write_9 rfl ?_
          refine PW_get (v := .ref (59 + 2 * j)) c_F_write_10 fl_F_11 (sh_g0 _ _ hj) ?_
          refine PW_iload_n c_F_write_13 rfl ?_
          refine PW_aload_n c_F_write_14 rfl ?_
          refine PW_lload_n c_F_write_15 rfl ?_
          refine PW_V0 (d2 := 0) (st := [.int a2, .ref (59 + 2 * j)]) [.long a3] c_F_write_16 lk_F_write_54 (sh_po _ _ hj) rfl rfl rfl (Nat.le_of_ble_eq_true rfl) (by first | decide | omega) (Nat.le_of_ble_eq_true rfl) ?_
          show PW _ _ _ 0 [some (.ref (58 + 2 * j)), some (.long a3), none] [] (E x y)
          refine PW_aload_n c_F_lowestBits_0 rfl ?_
          refine PW_get (v := .int (x.1 ((58 + 2 * j) * 8 + 3))) c_F_lowestBits_1 fl_F_19 (sh_g3 _ _ hj) ?_
          refine PW_tableOut (tgt := 52) c_F_lowestBits_4 (by rw [e5]; decide) rfl ?_
          refine PW_lload_n c_F_lowestBits_52 rfl ?_
          refine PW_lconst (v := 0) c_F_lowestBits_53 (by decide) ?_
          refine PW_lcmp c_F_lowestBits_54 ?_
          refine PW_if_eq c_F_lowestBits_55 (fun h5 => absurd h5 hl0) (fun h5 => ?_)
          refine PW_lconst (v := 1) c_F_lowestBits_58 (by decide) ?_
          refine PW_goto c_F_lowestBits_59 ?_
          refine PW_lreturn c_F_lowestBits_63 rfl ?_
          show PW _ _ _ 19 [some (.ref (58 + 2 * j)), some (.int a2), some (.long a3), none] [.long 1, .int a2, .ref (59 + 2 * j)] (E x y)
          refine PW_last (j := q) (w2 := E (sG x (59 + 2 * j) (vp_updL (x.2.2 (59 + 2 * j)) q 1)) y) c_F_write_19 (sh_r _ _ hj) (by rw [q2]; exact vp_in_nI (by omega) (by decide)) (by rw [q2]; exact nI_clamp (by omega)) (sh_w _ _ hj _) ?_
          refine PW_vreturn c_F_write_20 rfl ?_
          show PW _ _ _ 37 [some (.ref 5), some (.int (nI j)), some (.int a2), some (.long a3), none, some (.ref (58 + 2 * j)), some (.int 0)] [] (E (sG x (59 + 2 * j) (vp_updL (x.2.2 (59 + 2 * j)) q 1)) y)
          refine PW_iconst (v := 1) c_G_put_37 (by decide) ?_
          refine PW_ireturn (ty := .int) c_G_put_38 rfl rfl ?_
          exact h
        · refine PW.deeper (k := (3, 0, 0, z)) (Nat.le_of_ble_eq_true rfl) (Nat.le_refl _) (Nat.le_refl _) ?_
          refine PW_aload_n c_M_put_0 rfl ?_
          refine PW_iload_n c_M_put_1 rfl ?_
          refine PW_iload_n c_M_put_2 rfl ?_
          refine PW_V0 (d2 := 2) (st := []) [.int (nI j), .int a2] c_M_put_3 lk_M_put_403 (po_70 _ _) rfl rfl rfl (Nat.le_of_ble_eq_true rfl) (by first | decide | omega) (Nat.le_of_ble_eq_true rfl) ?_
          show PW _ _ _ 0 [some (.ref 70), some (.int (nI j)), some (.int a2)] [] (E (sG x (59 + 2 * j) (vp_updL (x.2.2 (59 + 2 * j)) q 1)) y)
          refine PW_iload_n c_M_whyNoPlace_0 rfl ?_
          refine PW_S0 (d2 := 1) (st := []) [.int (nI j)] c_M_whyNoPlace_1 lk_M_whyNoPlace_143 rfl rfl rfl (Nat.le_of_ble_eq_true rfl) (by first | decide | omega) (Nat.le_of_ble_eq_true rfl) ?_
          refine sp_M_isShelf2  ?_
          show PW _ _ _ 4 [some (.ref 70), some (.int (nI j)), some (.int a2)] [.int (b2i (0 ≤ (nI j).toInt ∧ (nI j).toInt < 6))] (E (sG x (59 + 2 * j) (vp_updL (x.2.2 (59 + 2 * j)) q 1)) y)
          refine PW_if_ne c_M_whyNoPlace_4 (fun _ => ?_) (fun h0 => absurd hjs (b2i_0.mp h0))
          refine PW_aload_n c_M_whyNoPlace_9 rfl ?_
          refine PW_get (v := .ref 104) c_M_whyNoPlace_10 fl_M_111 (gf_70_53 _ _) ?_
          refine PW_iload_n c_M_whyNoPlace_13 rfl ?_
          refine PW_iald (j := j) c_M_whyNoPlace_14 (ar_104 _ _) (vp_in_nI hj (by decide)) (nI_clamp (by omega)) ?_
          show PW _ _ _ 15 [some (.ref 70), some (.int (nI j)), some (.int a2)] [.int ((y.2.1 104) j)] (E (sG x (59 + 2 * j) (vp_updL (x.2.2 (59 + 2 * j)) q 1)) y)
          refine PW_iconst (v := -1) c_M_whyNoPlace_15 (by decide) ?_
          refine PW_icmp_ne c_M_whyNoPlace_16 (fun h1 => ?_) (fun h1 => absurd h1 (by rw [e3]; exact ho_n1 e1))
          refine PW_aload_n c_M_whyNoPlace_22 rfl ?_
          refine PW_get (v := .ref 104) c_M_whyNoPlace_23 fl_M_111 (gf_70_53 _ _) ?_
          refine PW_iload_n c_M_whyNoPlace_26 rfl ?_
          refine PW_iald (j := j) c_M_whyNoPlace_27 (ar_104 _ _) (vp_in_nI hj (by decide)) (nI_clamp (by omega)) ?_
          show PW _ _ _ 28 [some (.ref 70), some (.int (nI j)), some (.int a2)] [.int ((y.2.1 104) j)] (E (sG x (59 + 2 * j) (vp_updL (x.2.2 (59 + 2 * j)) q 1)) y)
          refine PW_if_lt c_M_whyNoPlace_28 (fun h2 => ?_) (fun h2 => absurd (by rw [e3]; exact ho_lt e1) h2)
          refine PW_iload_n c_M_whyNoPlace_34 rfl ?_
          refine PW_iconst (v := 0) c_M_whyNoPlace_35 (by decide) ?_
          refine PW_aload_n c_M_whyNoPlace_36 rfl ?_
          refine PW_get (v := .ref 105) c_M_whyNoPlace_37 fl_M_114 (gf_70_54 _ _) ?_
          refine PW_iload_n c_M_whyNoPlace_40 rfl ?_
          refine PW_iald (j := j) c_M_whyNoPlace_41 (ar_105 _ _) (vp_in_nI hj (by decide)) (nI_clamp (by omega)) ?_
          show PW _ _ _ 42 [some (.ref 70), some (.int (nI j)), some (.int a2)] [.int ((y.2.1 105) j), .int 0, .int a2] (E (sG x (59 + 2 * j) (vp_updL (x.2.2 (59 + 2 * j)) q 1)) y)
          refine PW_iconst (v := 1) c_M_whyNoPlace_42 (by decide) ?_
          refine PW_isub c_M_whyNoPlace_43 ?_
          refine PW_S0 (d2 := 0) (st := []) [.int a2, .int 0, .int (((y.2.1 105) j) - 1)] c_M_whyNoPlace_44 lk_M_whyNoPlace_131 rfl rfl rfl (Nat.le_of_ble_eq_true rfl) (by first | decide | omega) (Nat.le_of_ble_eq_true rfl) ?_
          refine sp_M_within  ?_
          show PW _ _ _ 47 [some (.ref 70), some (.int (nI j)), some (.int a2)] [.int (b2i ((0 : Int32) ≤ a2 ∧ a2 ≤ (((y.2.1 105) j) - 1)))] (E (sG x (59 + 2 * j) (vp_updL (x.2.2 (59 + 2 * j)) q 1)) y)
          refine PW_if_eq c_M_whyNoPlace_47 (fun h3 => absurd (hz3.mpr hc1) (b2i_0.mp h3)) (fun _ => ?_)
          refine PW_iconst (v := 0) c_M_whyNoPlace_50 (by decide) ?_
          refine PW_goto c_M_whyNoPlace_51 ?_
          refine PW_ireturn (ty := .int) c_M_whyNoPlace_56 rfl rfl ?_
          show PW _ _ _ 6 [some (.ref 70), some (.int (nI j)), some (.int a2), some (.long a3), none, none, none] [.int 0] (E (sG x (59 + 2 * j) (vp_updL (x.2.2 (59 + 2 * j)) q 1)) y)
          refine PW_istore (i := 5) (L2 := [some (.ref 70), some (.int (nI j)), some (.int a2), some (.long a3), none, some (.int 0), none]) c_M_put_6 (Nat.le_of_ble_eq_true rfl) rfl rfl ?_
          refine PW_iload c_M_put_8 rfl ?_
          refine PW_if_ge c_M_put_10 (fun _ => ?_) (fun h4 => absurd (by decide) h4)
          refine PW_bipush (v := -2) c_M_put_16 (by decide) ?_
          refine PW_aload_n c_M_put_18 rfl ?_
          refine PW_get (v := .ref 104) c_M_put_19 fl_M_111 (gf_70_53 _ _) ?_
          refine PW_iload_n c_M_put_22 rfl ?_
          refine PW_iald (j := j) c_M_put_23 (ar_104 _ _) (vp_in_nI hj (by decide)) (nI_clamp (by omega)) ?_
          show PW _ _ _ 24 [some (.ref 70), some (.int (nI j)), some (.int a2), some (.long a3), none, some (.int 0), none] [.int ((y.2.1 104) j), .int (-2)] (E (sG x (59 + 2 * j) (vp_updL (x.2.2 (59 + 2 * j)) q 1)) y)
          refine PW_isub c_M_put_24 ?_
          refine PW_istore (i := 6) (L2 := [some (.ref 70), some (.int (nI j)), some (.int a2), some (.long a3), none, some (.int 0), some (.int ((-2) - ((y.2.1 104) j)))]) c_M_put_25 (Nat.le_of_ble_eq_true rfl) rfl rfl ?_
          refine PW_aload_n c_M_put_27 rfl ?_
          refine PW_get (v := .ref 106) c_M_put_28 fl_M_117 (gf_70_55 _ _) ?_
          refine PW_bipush (v := 60) c_M_put_31 (by decide) ?_
          refine PW_iload_n c_M_put_33 rfl ?_
          refine PW_imul c_M_put_34 ?_
          refine PW_iload_n c_M_put_35 rfl ?_
          refine PW_iadd c_M_put_36 ?_
          refine PW_iload c_M_put_37 rfl ?_
          refine PW_if_ne c_M_put_39 (fun h5 => ?_) (fun h5 => absurd h5 (by rw [e3]; decide))
          refine PW_iload c_M_put_49 rfl ?_
          refine PW_iconst (v := 1) c_M_put_51 (by decide) ?_
          refine PW_icmp_ne c_M_put_52 (fun h6 => ?_) (fun h6 => absurd h6 (by rw [e3]; decide))
          refine PW_iload c_M_put_62 rfl ?_
          refine PW_iconst (v := 2) c_M_put_64 (by decide) ?_
          refine PW_icmp_ne c_M_put_65 (fun h7 => ?_) (fun h7 => absurd h7 (by rw [e3]; decide))
          refine PW_iload c_M_put_74 rfl ?_
          refine PW_iconst (v := 3) c_M_put_76 (by decide) ?_
          refine PW_icmp_ne c_M_put_77 (fun h8 => ?_) (fun h8 => absurd h8 (by rw [e3]; decide))
          refine PW_lload_n c_M_put_84 rfl ?_
          refine PW_lconst (v := 0) c_M_put_85 (by decide) ?_
          refine PW_lcmp c_M_put_86 ?_
          refine PW_if_eq c_M_put_87 (fun h9 => absurd h9 hl0) (fun h9 => ?_)
          refine PW_lconst (v := 1) c_M_put_90 (by decide) ?_
          refine PW_goto c_M_put_91 ?_
          refine PW_last (j := 60 * j + q) (w2 := E (sG x (59 + 2 * j) (vp_updL (x.2.2 (59 + 2 * j)) q 1)) (sG y 106 (vp_updL (y.2.2 106) (60 * j + q) 1))) c_M_put_95 (ar_106 _ _) (by rw [show (60 : Int32) = nI 60 from rfl, q2, pk_mul, nI_add]; exact vp_in_nI (by omega) (by decide)) (by rw [show (60 : Int32) = nI 60 from rfl, q2, pk_mul, nI_add]; exact nI_clamp (by omega)) (aw_106 _ _ _) ?_
          refine PW_iconst (v := 1) c_M_put_96 (by decide) ?_
          refine PW_ireturn (ty := .int) c_M_put_97 rfl rfl ?_
          exact h
    refine ⟨-13, x, y, ?_, fun {z post} h => ?_, fun {z post} h => ?_⟩
    · exact INV_step hI
    · refine PW.deeper (k := (2, 0, 0, z)) (Nat.le_of_ble_eq_true rfl) (Nat.le_refl _) (Nat.le_refl _) ?_
      refine PW_aload_n c_G_put_0 rfl ?_
      refine PW_iload_n c_G_put_1 rfl ?_
      refine PW_V0 (d2 := 0) (st := []) [.int (nI j)] c_G_put_2 lk_G_put_102 (po_5 _ _) rfl rfl rfl (Nat.le_of_ble_eq_true rfl) (by first | decide | omega) (Nat.le_of_ble_eq_true rfl) ?_
      refine sp_shelf hj ?_
      show PW _ _ _ 5 [some (.ref 5), some (.int (nI j)), some (.int a2), some (.long a3), none, none, none] [.ref (58 + 2 * j)] (E x y)
      refine PW_astore (i := 5) (L2 := [some (.ref 5), some (.int (nI j)), some (.int a2), some (.long a3), none, some (.ref (58 + 2 * j)), none]) c_G_put_5 (Nat.le_of_ble_eq_true rfl) rfl rfl ?_
      refine PW_aload c_G_put_7 rfl ?_
      refine PW_ifnonnull c_G_put_9 ?_
      refine PW_aload c_G_put_14 rfl ?_
      refine PW_iload_n c_G_put_16 rfl ?_
      refine PW_V0 (d2 := 1) (st := []) [.int a2] c_G_put_17 lk_G_put_327 (sh_po _ _ hj) rfl rfl rfl (Nat.le_of_ble_eq_true rfl) (by first | decide | omega) (Nat.le_of_ble_eq_true rfl) ?_
      show PW _ _ _ 0 [some (.ref (58 + 2 * j)), some (.int a2)] [] (E x y)
      refine PW_aload_n c_F_elementRefusal_0 rfl ?_
      refine PW_V0 (d2 := 0) (st := []) [] c_F_elementRefusal_1 lk_F_elementRefusal_37 (sh_po _ _ hj) rfl rfl rfl (Nat.le_of_ble_eq_true rfl) (by first | decide | omega) (Nat.le_of_ble_eq_true rfl) ?_
      refine sp_F_isEmpty hj  ?_
      show PW _ _ _ 4 [some (.ref (58 + 2 * j)), some (.int a2)] [.int (b2i (x.1 ((58 + 2 * j) * 8 + 1) = 0))] (E x y)
      refine PW_if_eq c_F_elementRefusal_4 (fun _ => ?_) (fun h0 => absurd (b2i_n0.mp h0) (by rw [e4]; decide))
      refine PW_aload_n c_F_elementRefusal_10 rfl ?_
      refine PW_V0 (d2 := 0) (st := []) [] c_F_elementRefusal_11 lk_F_elementRefusal_44 (sh_po _ _ hj) rfl rfl rfl (Nat.le_of_ble_eq_true rfl) (by first | decide | omega) (Nat.le_of_ble_eq_true rfl) ?_
      refine sp_F_holdsRow hj  ?_
      show PW _ _ _ 14 [some (.ref (58 + 2 * j)), some (.int a2)] [.int (b2i (x.1 ((58 + 2 * j) * 8 + 1) = 2))] (E x y)
      refine PW_if_ne c_F_elementRefusal_14 (fun _ => ?_) (fun h1 => absurd e4 (b2i_0.mp h1))
      refine PW_aload_n c_F_elementRefusal_20 rfl ?_
      refine PW_iload_n c_F_elementRefusal_21 rfl ?_
      refine PW_iconst (v := 1) c_F_elementRefusal_22 (by decide) ?_
      refine PW_V0 (d2 := 0) (st := []) [.int a2, .int 1] c_F_elementRefusal_23 lk_F_elementRefusal_47 (sh_po _ _ hj) rfl rfl rfl (Nat.le_of_ble_eq_true rfl) (by first | decide | omega) (Nat.le_of_ble_eq_true rfl) ?_
      refine sp_F_hasPlaces hj (by assumption) ?_
      show PW _ _ _ 26 [some (.ref (58 + 2 * j)), some (.int a2)] [.int (b2i (0 ≤ a2.toInt ∧ 0 ≤ (1 : Int32).toInt ∧ (1 : Int32).toInt ≤ (x.1 ((58 + 2 * j) * 8 + 4)).toInt ∧ a2.toInt ≤ (x.1 ((58 + 2 * j) * 8 + 4)).toInt - (1 : Int32).toInt))] (E x y)
      refine PW_if_eq c_F_elementRefusal_26 (fun _ => ?_) (fun h2 => absurd (b2i_n0.mp h2) (fun z => hc1 ⟨z.1, by have := z.2.2.2; rw [hz2, tiA.2.1] at this; omega⟩))
      refine PW_bipush (v := -13) c_F_elementRefusal_33 (by decide) ?_
      refine PW_ireturn (ty := .int) c_F_elementRefusal_35 rfl rfl ?_
      show PW _ _ _ 20 [some (.ref 5), some (.int (nI j)), some (.int a2), some (.long a3), none, some (.ref (58 + 2 * j)), none] [.int (-13)] (E x y)
      refine PW_istore (i := 6) (L2 := [some (.ref 5), some (.int (nI j)), some (.int a2), some (.long a3), none, some (.ref (58 + 2 * j)), some (.int (-13))]) c_G_put_20 (Nat.le_of_ble_eq_true rfl) rfl rfl ?_
      refine PW_iload c_G_put_22 rfl ?_
      refine PW_if_eq c_G_put_24 (fun h3 => absurd h3 (by decide)) (fun _ => ?_)
      refine PW_iload c_G_put_27 rfl ?_
      refine PW_ireturn (ty := .int) c_G_put_29 rfl rfl ?_
      exact h
    · refine PW.deeper (k := (3, 0, 0, z)) (Nat.le_of_ble_eq_true rfl) (Nat.le_refl _) (Nat.le_refl _) ?_
      refine PW_aload_n c_M_put_0 rfl ?_
      refine PW_iload_n c_M_put_1 rfl ?_
      refine PW_iload_n c_M_put_2 rfl ?_
      refine PW_V0 (d2 := 2) (st := []) [.int (nI j), .int a2] c_M_put_3 lk_M_put_403 (po_70 _ _) rfl rfl rfl (Nat.le_of_ble_eq_true rfl) (by first | decide | omega) (Nat.le_of_ble_eq_true rfl) ?_
      show PW _ _ _ 0 [some (.ref 70), some (.int (nI j)), some (.int a2)] [] (E x y)
      refine PW_iload_n c_M_whyNoPlace_0 rfl ?_
      refine PW_S0 (d2 := 1) (st := []) [.int (nI j)] c_M_whyNoPlace_1 lk_M_whyNoPlace_143 rfl rfl rfl (Nat.le_of_ble_eq_true rfl) (by first | decide | omega) (Nat.le_of_ble_eq_true rfl) ?_
      refine sp_M_isShelf2  ?_
      show PW _ _ _ 4 [some (.ref 70), some (.int (nI j)), some (.int a2)] [.int (b2i (0 ≤ (nI j).toInt ∧ (nI j).toInt < 6))] (E x y)
      refine PW_if_ne c_M_whyNoPlace_4 (fun _ => ?_) (fun h0 => absurd hjs (b2i_0.mp h0))
      refine PW_aload_n c_M_whyNoPlace_9 rfl ?_
      refine PW_get (v := .ref 104) c_M_whyNoPlace_10 fl_M_111 (gf_70_53 _ _) ?_
      refine PW_iload_n c_M_whyNoPlace_13 rfl ?_
      refine PW_iald (j := j) c_M_whyNoPlace_14 (ar_104 _ _) (vp_in_nI hj (by decide)) (nI_clamp (by omega)) ?_
      show PW _ _ _ 15 [some (.ref 70), some (.int (nI j)), some (.int a2)] [.int ((y.2.1 104) j)] (E x y)
      refine PW_iconst (v := -1) c_M_whyNoPlace_15 (by decide) ?_
      refine PW_icmp_ne c_M_whyNoPlace_16 (fun h1 => ?_) (fun h1 => absurd h1 (by rw [e3]; exact ho_n1 e1))
      refine PW_aload_n c_M_whyNoPlace_22 rfl ?_
      refine PW_get (v := .ref 104) c_M_whyNoPlace_23 fl_M_111 (gf_70_53 _ _) ?_
      refine PW_iload_n c_M_whyNoPlace_26 rfl ?_
      refine PW_iald (j := j) c_M_whyNoPlace_27 (ar_104 _ _) (vp_in_nI hj (by decide)) (nI_clamp (by omega)) ?_
      show PW _ _ _ 28 [some (.ref 70), some (.int (nI j)), some (.int a2)] [.int ((y.2.1 104) j)] (E x y)
      refine PW_if_lt c_M_whyNoPlace_28 (fun h2 => ?_) (fun h2 => absurd (by rw [e3]; exact ho_lt e1) h2)
      refine PW_iload_n c_M_whyNoPlace_34 rfl ?_
      refine PW_iconst (v := 0) c_M_whyNoPlace_35 (by decide) ?_
      refine PW_aload_n c_M_whyNoPlace_36 rfl ?_
      refine PW_get (v := .ref 105) c_M_whyNoPlace_37 fl_M_114 (gf_70_54 _ _) ?_
      refine PW_iload_n c_M_whyNoPlace_40 rfl ?_
      refine PW_iald (j := j) c_M_whyNoPlace_41 (ar_105 _ _) (vp_in_nI hj (by decide)) (nI_clamp (by omega)) ?_
      show PW _ _ _ 42 [some (.ref 70), some (.int (nI j)), some (.int a2)] [.int ((y.2.1 105) j), .int 0, .int a2] (E x y)
      refine PW_iconst (v := 1) c_M_whyNoPlace_42 (by decide) ?_
      refine PW_isub c_M_whyNoPlace_43 ?_
      refine PW_S0 (d2 := 0) (st := []) [.int a2, .int 0, .int (((y.2.1 105) j) - 1)] c_M_whyNoPlace_44 lk_M_whyNoPlace_131 rfl rfl rfl (Nat.le_of_ble_eq_true rfl) (by first | decide | omega) (Nat.le_of_ble_eq_true rfl) ?_
      refine sp_M_within  ?_
      show PW _ _ _ 47 [some (.ref 70), some (.int (nI j)), some (.int a2)] [.int (b2i ((0 : Int32) ≤ a2 ∧ a2 ≤ (((y.2.1 105) j) - 1)))] (E x y)
      refine PW_if_eq c_M_whyNoPlace_47 (fun _ => ?_) (fun h3 => absurd (b2i_n0.mp h3) (fun z => hc1 (hz3.mp z)))
      refine PW_bipush (v := -13) c_M_whyNoPlace_54 (by decide) ?_
      refine PW_ireturn (ty := .int) c_M_whyNoPlace_56 rfl rfl ?_
      show PW _ _ _ 6 [some (.ref 70), some (.int (nI j)), some (.int a2), some (.long a3), none, none, none] [.int (-13)] (E x y)
      refine PW_istore (i := 5) (L2 := [some (.ref 70), some (.int (nI j)), some (.int a2), some (.long a3), none, some (.int (-13)), none]) c_M_put_6 (Nat.le_of_ble_eq_true rfl) rfl rfl ?_
      refine PW_iload c_M_put_8 rfl ?_
      refine PW_if_ge c_M_put_10 (fun h4 => absurd h4 (by decide)) (fun _ => ?_)
      refine PW_iload c_M_put_13 rfl ?_
      refine PW_ireturn (ty := .int) c_M_put_15 rfl rfl ?_
      exact h
