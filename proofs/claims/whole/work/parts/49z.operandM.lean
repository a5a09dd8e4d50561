theorem lpF_1 {G : Nat → PRs} {g : Nat → Nat} {n lev p : Nat} {acc : List Stp0} : lpF G g n lev 1 p acc = if lvO (sg g n p) = lev then (if (G (p + 1)).1 = true then (true, (G (p + 1)).2.1, acc ++ (G (p + 1)).2.2 ++ [(sg g n p, 0)]) else (false, (G (p + 1)).2.1, [])) else (true, p, acc) := by
  rw [lpF]
  simp only [lpF]
theorem M_compared_step {g : Nat → Nat} {n fu : Nat} (ih : MOK g n m_M_sum [some (.ref 70), none] fu 3) : MOK g n m_M_compared [some (.ref 70), none] (fu + 1) 2 := by
  intro o p k Y ho hfu hT hp hF hO hS hpn hk
  have hn := hT.2.1
  obtain ⟨Y1, ⟨f1, u1, p1, c1⟩, H1⟩ := ih o p k Y ho (by omega) hT hp hF hO hS hpn hk
  have w1 := pF_p (g := g) fu 3 o p hpn
  have w1n := w1.2.1
  rw [pF_lev (by decide : 2 < 5), show (2 + 1 : Nat) = 3 from rfl]
  rcases c1 with ⟨r1, b1, o1, s1, v1⟩ | ⟨r1, b1, l1, s1, hk1, hl1⟩
  · rw [if_pos r1, if_pos rfl, lpF_1]
    obtain ⟨z1, z2, z3, z3'⟩ := w1.2.2 r1
    by_cases hlv : lvO (sg g n (pF g n fu 3 o p).2.1) = 2
    · have hop := lvO_op (c := sg g n (pF g n fu 3 o p).2.1) (by omega)
      have hc := op_cd hop
      have hqn : (pF g n fu 3 o p).2.1 < n := sg_lt (g := g) (by omega)
      have he := lv_2.mp hlv
      have hlk : lkM (sg g n (pF g n fu 3 o p).2.1) = nI (sg g n (pF g n fu 3 o p).2.1) := lkM_lo (by omega)
      have hT1 := tpM_fr hT f1
      obtain ⟨Y2, ⟨f2, u2, p2, c2⟩, H2⟩ := ih o ((pF g n fu 3 o p).2.1 + 1) (k + (pF g n fu 3 o p).2.2.length) (sI Y1 578 (nI ((pF g n fu 3 o p).2.1 + 1))) ho (by omega) (tpM_fr hT1 (frM_i (by decide))) sI_s ((sI_n (by decide)).trans b1) ((sI_n (by decide)).trans o1) ((sI_n (by decide)).trans s1) hqn (by omega)
      have w2 := pF_p (g := g) fu 3 o ((pF g n fu 3 o p).2.1 + 1) hqn
      have w2n := w2.2.1
      have w2p := w2.1
      have ff := frM_t f1 (frM_t (frM_i (m := 578) (v := nI ((pF g n fu 3 o p).2.1 + 1)) (by decide)) f2)
      rw [if_pos hlv]
      rcases c2 with ⟨r2, b2, o2, s2, v2⟩ | ⟨r2, b2, l2, s2, hk2, hl2⟩
      · obtain ⟨z4, z5, z6, z7⟩ := w2.2.2 r2
        have s2 : Y2.1 581 = nI (k + ((pF g n fu 3 o p).2.2.length + (pF g n fu 3 o ((pF g n fu 3 o p).2.1 + 1)).2.2.length)) := by rw [s2]; congr 1; omega
        have wA : wrA (Y2.2.1 84) (Y2.2.1 85) (130 + k) (((pF g n fu 3 o p).2.2 ++ (pF g n fu 3 o ((pF g n fu 3 o p).2.1 + 1)).2.2).map stM) := by
          rw [List.map_append]
          refine wrA_app (wrA_low v1 u2 (by rw [List.length_map]; omega)) ?_
          rw [List.length_map, show 130 + k + (pF g n fu 3 o p).2.2.length = 130 + (k + (pF g n fu 3 o p).2.2.length) by omega]
          exact v2
        rw [if_pos r2]
        refine ⟨adS Y2 (k + ((pF g n fu 3 o p).2.2.length + (pF g n fu 3 o ((pF g n fu 3 o p).2.1 + 1)).2.2.length)) (nI (sg g n (pF g n fu 3 o p).2.1)) 0, ⟨frM_t ff frM_a, ?_, (adS_1 (by decide)).trans p2, Or.inl ⟨rfl, (adS_1 (by decide)).trans b2, (adS_1 (by decide)).trans o2, ?_, ?_⟩⟩, fun {x z post} h => ?_⟩
        · rw [adS_84, adS_85]
          exact lowA_t (lowA_t u1 u2 (by omega)) (lowA_u (Nat.le_refl (130 + (k + ((pF g n fu 3 o p).2.2.length + (pF g n fu 3 o ((pF g n fu 3 o p).2.1 + 1)).2.2.length))))) (by omega)
        · refine adS_s.trans ?_
          rw [List.length_append, List.length_append, List.length_singleton]
          exact congrArg nI (by omega)
        · rw [adS_84, adS_85, List.map_append, List.map_singleton, stM_op]
          exact wrA_snoc (by rw [List.length_map, List.length_append]; omega) wA
        · skip
          rcases he with e | e | e
          · skip
            refine PW_aload_n c_M_compared_0 rfl ?_
            refine PW_V0 (d2 := fu + 1) (st := []) [] c_M_compared_1 lk_M_compared_228 (po_70 _ _) rfl rfl rfl (Nat.le_of_ble_eq_true rfl) (by first | decide | omega) (Nat.le_of_ble_eq_true rfl) ?_
            refine H1 ?_
            show PW _ _ _ 4 [some (.ref 70), none] [] (E x Y1)
            refine PW_aload_n c_M_compared_4 rfl ?_
            refine PW_V0 (d2 := 0) (st := []) [] c_M_compared_5 lk_M_compared_200 (po_70 _ _) rfl rfl rfl (Nat.le_of_ble_eq_true rfl) (by first | decide | omega) (Nat.le_of_ble_eq_true rfl) ?_
            refine sp_M_look (tpM_fr hT f1) p1 w1n ?_
            show PW _ _ _ 8 [some (.ref 70), none] [.int (lkM (sg g n (pF g n fu 3 o p).2.1))] (E x Y1)
            refine PW_istore_n (i := 1) (L2 := [some (.ref 70), some (.int (lkM (sg g n (pF g n fu 3 o p).2.1)))]) c_M_compared_8 rfl (Nat.le_of_ble_eq_true rfl) rfl rfl ?_
            refine PW_aload_n c_M_compared_9 rfl ?_
            refine PW_get (v := .int (Y1.1 579)) c_M_compared_10 fl_M_188 (gf_70_19 _ _) ?_
            rw [b1]
            show PW _ _ _ 13 [some (.ref 70), some (.int (lkM (sg g n (pF g n fu 3 o p).2.1)))] [.int (-1)] (E x Y1)
            refine PW_if_ge c_M_compared_13 (fun h0 => absurd h0 (by decide)) (fun _ => ?_)
            refine PW_iload_n c_M_compared_16 rfl ?_
            refine PW_bipush (v := 60) c_M_compared_17 (by decide) ?_
            refine PW_icmp_eq c_M_compared_19 (fun h1 => ?_) (fun h1 => absurd ((lkM_k (tpM_sg hT) (by decide) (k := 60)).mpr e) h1)
            refine PW_aload_n c_M_compared_35 rfl ?_
            refine PW_dup c_M_compared_36 rfl ?_
            refine PW_get (v := .int (Y1.1 578)) c_M_compared_37 fl_M_185 (gf_70_18 _ _) ?_
            rw [p1]
            show PW _ _ _ 40 [some (.ref 70), some (.int (lkM (sg g n (pF g n fu 3 o p).2.1)))] [.int (nI (pF g n fu 3 o p).2.1), .ref 70] (E x Y1)
            refine PW_iconst (v := 1) c_M_compared_40 (by decide) ?_
            refine PW_iadd c_M_compared_41 ?_
            refine PW_put (w2 := E x (sI Y1 578 ((nI (pF g n fu 3 o p).2.1) + 1))) c_M_compared_42 fp_M_compared_185 rfl (pf_70_18 _ _ _) ?_
            rw [nI_1 ((pF g n fu 3 o p).2.1)]
            show PW _ _ _ 45 [some (.ref 70), some (.int (lkM (sg g n (pF g n fu 3 o p).2.1)))] [] (E x (sI Y1 578 (nI ((pF g n fu 3 o p).2.1 + 1))))
            refine PW_aload_n c_M_compared_45 rfl ?_
            refine PW_V0 (d2 := fu + 1) (st := []) [] c_M_compared_46 lk_M_compared_228 (po_70 _ _) rfl rfl rfl (Nat.le_of_ble_eq_true rfl) (by first | decide | omega) (Nat.le_of_ble_eq_true rfl) ?_
            refine H2 ?_
            show PW _ _ _ 49 [some (.ref 70), some (.int (lkM (sg g n (pF g n fu 3 o p).2.1)))] [] (E x Y2)
            refine PW_aload_n c_M_compared_49 rfl ?_
            refine PW_iload_n c_M_compared_50 rfl ?_
            refine PW_iconst (v := 0) c_M_compared_51 (by decide) ?_
            refine PW_V0 (d2 := 0) (st := []) [.int (lkM (sg g n (pF g n fu 3 o p).2.1)), .int 0] c_M_compared_52 lk_M_compared_204 (po_70 _ _) rfl rfl rfl (Nat.le_of_ble_eq_true rfl) (by first | decide | omega) (Nat.le_of_ble_eq_true rfl) ?_
            refine sp_M_addStep (a := sg g n (pF g n fu 3 o p).2.1) (k := (k + ((pF g n fu 3 o p).2.2.length + (pF g n fu 3 o ((pF g n fu 3 o p).2.1 + 1)).2.2.length))) hlk (by omega) s2 (by omega) ?_
            show PW _ _ _ 55 [some (.ref 70), some (.int (lkM (sg g n (pF g n fu 3 o p).2.1)))] [] (E x (adS Y2 (k + ((pF g n fu 3 o p).2.2.length + (pF g n fu 3 o ((pF g n fu 3 o p).2.1 + 1)).2.2.length)) (nI (sg g n (pF g n fu 3 o p).2.1)) 0))
            refine PW_vreturn c_M_compared_55 rfl ?_
            exact h
          · have n60 : ¬ sg g n (pF g n fu 3 o p).2.1 = 60 := by omega
            refine PW_aload_n c_M_compared_0 rfl ?_
            refine PW_V0 (d2 := fu + 1) (st := []) [] c_M_compared_1 lk_M_compared_228 (po_70 _ _) rfl rfl rfl (Nat.le_of_ble_eq_true rfl) (by first | decide | omega) (Nat.le_of_ble_eq_true rfl) ?_
            refine H1 ?_
            show PW _ _ _ 4 [some (.ref 70), none] [] (E x Y1)
            refine PW_aload_n c_M_compared_4 rfl ?_
            refine PW_V0 (d2 := 0) (st := []) [] c_M_compared_5 lk_M_compared_200 (po_70 _ _) rfl rfl rfl (Nat.le_of_ble_eq_true rfl) (by first | decide | omega) (Nat.le_of_ble_eq_true rfl) ?_
            refine sp_M_look (tpM_fr hT f1) p1 w1n ?_
            show PW _ _ _ 8 [some (.ref 70), none] [.int (lkM (sg g n (pF g n fu 3 o p).2.1))] (E x Y1)
            refine PW_istore_n (i := 1) (L2 := [some (.ref 70), some (.int (lkM (sg g n (pF g n fu 3 o p).2.1)))]) c_M_compared_8 rfl (Nat.le_of_ble_eq_true rfl) rfl rfl ?_
            refine PW_aload_n c_M_compared_9 rfl ?_
            refine PW_get (v := .int (Y1.1 579)) c_M_compared_10 fl_M_188 (gf_70_19 _ _) ?_
            rw [b1]
            show PW _ _ _ 13 [some (.ref 70), some (.int (lkM (sg g n (pF g n fu 3 o p).2.1)))] [.int (-1)] (E x Y1)
            refine PW_if_ge c_M_compared_13 (fun h0 => absurd h0 (by decide)) (fun _ => ?_)
            refine PW_iload_n c_M_compared_16 rfl ?_
            refine PW_bipush (v := 60) c_M_compared_17 (by decide) ?_
            refine PW_icmp_eq c_M_compared_19 (fun h1 => absurd h1 (fun w => n60 ((lkM_k (tpM_sg hT) (by decide) (k := 60)).mp w))) (fun h1 => ?_)
            refine PW_iload_n c_M_compared_22 rfl ?_
            refine PW_bipush (v := 61) c_M_compared_23 (by decide) ?_
            refine PW_icmp_eq c_M_compared_25 (fun h2 => ?_) (fun h2 => absurd ((lkM_k (tpM_sg hT) (by decide) (k := 61)).mpr e) h2)
            refine PW_aload_n c_M_compared_35 rfl ?_
            refine PW_dup c_M_compared_36 rfl ?_
            refine PW_get (v := .int (Y1.1 578)) c_M_compared_37 fl_M_185 (gf_70_18 _ _) ?_
            rw [p1]
            show PW _ _ _ 40 [some (.ref 70), some (.int (lkM (sg g n (pF g n fu 3 o p).2.1)))] [.int (nI (pF g n fu 3 o p).2.1), .ref 70] (E x Y1)
            refine PW_iconst (v := 1) c_M_compared_40 (by decide) ?_
            refine PW_iadd c_M_compared_41 ?_
            refine PW_put (w2 := E x (sI Y1 578 ((nI (pF g n fu 3 o p).2.1) + 1))) c_M_compared_42 fp_M_compared_185 rfl (pf_70_18 _ _ _) ?_
            rw [nI_1 ((pF g n fu 3 o p).2.1)]
            show PW _ _ _ 45 [some (.ref 70), some (.int (lkM (sg g n (pF g n fu 3 o p).2.1)))] [] (E x (sI Y1 578 (nI ((pF g n fu 3 o p).2.1 + 1))))
            refine PW_aload_n c_M_compared_45 rfl ?_
            refine PW_V0 (d2 := fu + 1) (st := []) [] c_M_compared_46 lk_M_compared_228 (po_70 _ _) rfl rfl rfl (Nat.le_of_ble_eq_true rfl) (by first | decide | omega) (Nat.le_of_ble_eq_true rfl) ?_
            refine H2 ?_
            show PW _ _ _ 49 [some (.ref 70), some (.int (lkM (sg g n (pF g n fu 3 o p).2.1)))] [] (E x Y2)
            refine PW_aload_n c_M_compared_49 rfl ?_
            refine PW_iload_n c_M_compared_50 rfl ?_
            refine PW_iconst (v := 0) c_M_compared_51 (by decide) ?_
            refine PW_V0 (d2 := 0) (st := []) [.int (lkM (sg g n (pF g n fu 3 o p).2.1)), .int 0] c_M_compared_52 lk_M_compared_204 (po_70 _ _) rfl rfl rfl (Nat.le_of_ble_eq_true rfl) (by first | decide | omega) (Nat.le_of_ble_eq_true rfl) ?_
            refine sp_M_addStep (a := sg g n (pF g n fu 3 o p).2.1) (k := (k + ((pF g n fu 3 o p).2.2.length + (pF g n fu 3 o ((pF g n fu 3 o p).2.1 + 1)).2.2.length))) hlk (by omega) s2 (by omega) ?_
            show PW _ _ _ 55 [some (.ref 70), some (.int (lkM (sg g n (pF g n fu 3 o p).2.1)))] [] (E x (adS Y2 (k + ((pF g n fu 3 o p).2.2.length + (pF g n fu 3 o ((pF g n fu 3 o p).2.1 + 1)).2.2.length)) (nI (sg g n (pF g n fu 3 o p).2.1)) 0))
            refine PW_vreturn c_M_compared_55 rfl ?_
            exact h
          · have n60 : ¬ sg g n (pF g n fu 3 o p).2.1 = 60 := by omega
            have n61 : ¬ sg g n (pF g n fu 3 o p).2.1 = 61 := by omega
            refine PW_aload_n c_M_compared_0 rfl ?_
            refine PW_V0 (d2 := fu + 1) (st := []) [] c_M_compared_1 lk_M_compared_228 (po_70 _ _) rfl rfl rfl (Nat.le_of_ble_eq_true rfl) (by first | decide | omega) (Nat.le_of_ble_eq_true rfl) ?_
            refine H1 ?_
            show PW _ _ _ 4 [some (.ref 70), none] [] (E x Y1)
            refine PW_aload_n c_M_compared_4 rfl ?_
            refine PW_V0 (d2 := 0) (st := []) [] c_M_compared_5 lk_M_compared_200 (po_70 _ _) rfl rfl rfl (Nat.le_of_ble_eq_true rfl) (by first | decide | omega) (Nat.le_of_ble_eq_true rfl) ?_
            refine sp_M_look (tpM_fr hT f1) p1 w1n ?_
            show PW _ _ _ 8 [some (.ref 70), none] [.int (lkM (sg g n (pF g n fu 3 o p).2.1))] (E x Y1)
            refine PW_istore_n (i := 1) (L2 := [some (.ref 70), some (.int (lkM (sg g n (pF g n fu 3 o p).2.1)))]) c_M_compared_8 rfl (Nat.le_of_ble_eq_true rfl) rfl rfl ?_
            refine PW_aload_n c_M_compared_9 rfl ?_
            refine PW_get (v := .int (Y1.1 579)) c_M_compared_10 fl_M_188 (gf_70_19 _ _) ?_
            rw [b1]
            show PW _ _ _ 13 [some (.ref 70), some (.int (lkM (sg g n (pF g n fu 3 o p).2.1)))] [.int (-1)] (E x Y1)
            refine PW_if_ge c_M_compared_13 (fun h0 => absurd h0 (by decide)) (fun _ => ?_)
            refine PW_iload_n c_M_compared_16 rfl ?_
            refine PW_bipush (v := 60) c_M_compared_17 (by decide) ?_
            refine PW_icmp_eq c_M_compared_19 (fun h1 => absurd h1 (fun w => n60 ((lkM_k (tpM_sg hT) (by decide) (k := 60)).mp w))) (fun h1 => ?_)
            refine PW_iload_n c_M_compared_22 rfl ?_
            refine PW_bipush (v := 61) c_M_compared_23 (by decide) ?_
            refine PW_icmp_eq c_M_compared_25 (fun h2 => absurd h2 (fun w => n61 ((lkM_k (tpM_sg hT) (by decide) (k := 61)).mp w))) (fun h2 => ?_)
            refine PW_iload_n c_M_compared_28 rfl ?_
            refine PW_bipush (v := 62) c_M_compared_29 (by decide) ?_
            refine PW_icmp_eq c_M_compared_31 (fun h3 => ?_) (fun h3 => absurd ((lkM_k (tpM_sg hT) (by decide) (k := 62)).mpr e) h3)
            refine PW_aload_n c_M_compared_35 rfl ?_
            refine PW_dup c_M_compared_36 rfl ?_
            refine PW_get (v := .int (Y1.1 578)) c_M_compared_37 fl_M_185 (gf_70_18 _ _) ?_
            rw [p1]
            show PW _ _ _ 40 [some (.ref 70), some (.int (lkM (sg g n (pF g n fu 3 o p).2.1)))] [.int (nI (pF g n fu 3 o p).2.1), .ref 70] (E x Y1)
            refine PW_iconst (v := 1) c_M_compared_40 (by decide) ?_
            refine PW_iadd c_M_compared_41 ?_
            refine PW_put (w2 := E x (sI Y1 578 ((nI (pF g n fu 3 o p).2.1) + 1))) c_M_compared_42 fp_M_compared_185 rfl (pf_70_18 _ _ _) ?_
            rw [nI_1 ((pF g n fu 3 o p).2.1)]
            show PW _ _ _ 45 [some (.ref 70), some (.int (lkM (sg g n (pF g n fu 3 o p).2.1)))] [] (E x (sI Y1 578 (nI ((pF g n fu 3 o p).2.1 + 1))))
            refine PW_aload_n c_M_compared_45 rfl ?_
            refine PW_V0 (d2 := fu + 1) (st := []) [] c_M_compared_46 lk_M_compared_228 (po_70 _ _) rfl rfl rfl (Nat.le_of_ble_eq_true rfl) (by first | decide | omega) (Nat.le_of_ble_eq_true rfl) ?_
            refine H2 ?_
            show PW _ _ _ 49 [some (.ref 70), some (.int (lkM (sg g n (pF g n fu 3 o p).2.1)))] [] (E x Y2)
            refine PW_aload_n c_M_compared_49 rfl ?_
            refine PW_iload_n c_M_compared_50 rfl ?_
            refine PW_iconst (v := 0) c_M_compared_51 (by decide) ?_
            refine PW_V0 (d2 := 0) (st := []) [.int (lkM (sg g n (pF g n fu 3 o p).2.1)), .int 0] c_M_compared_52 lk_M_compared_204 (po_70 _ _) rfl rfl rfl (Nat.le_of_ble_eq_true rfl) (by first | decide | omega) (Nat.le_of_ble_eq_true rfl) ?_
            refine sp_M_addStep (a := sg g n (pF g n fu 3 o p).2.1) (k := (k + ((pF g n fu 3 o p).2.2.length + (pF g n fu 3 o ((pF g n fu 3 o p).2.1 + 1)).2.2.length))) hlk (by omega) s2 (by omega) ?_
            show PW _ _ _ 55 [some (.ref 70), some (.int (lkM (sg g n (pF g n fu 3 o p).2.1)))] [] (E x (adS Y2 (k + ((pF g n fu 3 o p).2.2.length + (pF g n fu 3 o ((pF g n fu 3 o p).2.1 + 1)).2.2.length)) (nI (sg g n (pF g n fu 3 o p).2.1)) 0))
            refine PW_vreturn c_M_compared_55 rfl ?_
            exact h
      · refine ⟨adS Y2 l2 (nI (sg g n (pF g n fu 3 o p).2.1)) 0, ⟨frM_t ff frM_a, ?_, ?_, Or.inr ?_⟩, fun {x z post} h => ?_⟩
        · rw [adS_84, adS_85]
          exact lowA_t (lowA_t u1 u2 (by omega)) (lowA_u (Nat.le_refl (130 + l2))) (by omega)
        · by_cases r : (pF g n fu 3 o ((pF g n fu 3 o p).2.1 + 1)).1 = true
          · rw [if_pos r]; exact (adS_1 (by decide)).trans p2
          · rw [if_neg r]; exact (adS_1 (by decide)).trans p2
        · by_cases r : (pF g n fu 3 o ((pF g n fu 3 o p).2.1 + 1)).1 = true
          · rw [if_pos r]; exact ⟨fun _ => r2 r, (adS_1 (by decide)).trans b2, l2 + 1, adS_s, by omega, by show l2 + 1 + p ≤ k + (pF g n fu 3 o ((pF g n fu 3 o p).2.1 + 1)).2.1 + 1; omega⟩
          · rw [if_neg r]; exact ⟨fun w => Bool.noConfusion w, (adS_1 (by decide)).trans b2, l2 + 1, adS_s, by omega, by show l2 + 1 + p ≤ k + (pF g n fu 3 o ((pF g n fu 3 o p).2.1 + 1)).2.1 + 1; omega⟩
        · skip
          rcases he with e | e | e
          · skip
            refine PW_aload_n c_M_compared_0 rfl ?_
            refine PW_V0 (d2 := fu + 1) (st := []) [] c_M_compared_1 lk_M_compared_228 (po_70 _ _) rfl rfl rfl (Nat.le_of_ble_eq_true rfl) (by first | decide | omega) (Nat.le_of_ble_eq_true rfl) ?_
            refine H1 ?_
            show PW _ _ _ 4 [some (.ref 70), none] [] (E x Y1)
            refine PW_aload_n c_M_compared_4 rfl ?_
            refine PW_V0 (d2 := 0) (st := []) [] c_M_compared_5 lk_M_compared_200 (po_70 _ _) rfl rfl rfl (Nat.le_of_ble_eq_true rfl) (by first | decide | omega) (Nat.le_of_ble_eq_true rfl) ?_
            refine sp_M_look (tpM_fr hT f1) p1 w1n ?_
            show PW _ _ _ 8 [some (.ref 70), none] [.int (lkM (sg g n (pF g n fu 3 o p).2.1))] (E x Y1)
            refine PW_istore_n (i := 1) (L2 := [some (.ref 70), some (.int (lkM (sg g n (pF g n fu 3 o p).2.1)))]) c_M_compared_8 rfl (Nat.le_of_ble_eq_true rfl) rfl rfl ?_
            refine PW_aload_n c_M_compared_9 rfl ?_
            refine PW_get (v := .int (Y1.1 579)) c_M_compared_10 fl_M_188 (gf_70_19 _ _) ?_
            rw [b1]
            show PW _ _ _ 13 [some (.ref 70), some (.int (lkM (sg g n (pF g n fu 3 o p).2.1)))] [.int (-1)] (E x Y1)
            refine PW_if_ge c_M_compared_13 (fun h0 => absurd h0 (by decide)) (fun _ => ?_)
            refine PW_iload_n c_M_compared_16 rfl ?_
            refine PW_bipush (v := 60) c_M_compared_17 (by decide) ?_
            refine PW_icmp_eq c_M_compared_19 (fun h1 => ?_) (fun h1 => absurd ((lkM_k (tpM_sg hT) (by decide) (k := 60)).mpr e) h1)
            refine PW_aload_n c_M_compared_35 rfl ?_
            refine PW_dup c_M_compared_36 rfl ?_
            refine PW_get (v := .int (Y1.1 578)) c_M_compared_37 fl_M_185 (gf_70_18 _ _) ?_
            rw [p1]
            show PW _ _ _ 40 [some (.ref 70), some (.int (lkM (sg g n (pF g n fu 3 o p).2.1)))] [.int (nI (pF g n fu 3 o p).2.1), .ref 70] (E x Y1)
            refine PW_iconst (v := 1) c_M_compared_40 (by decide) ?_
            refine PW_iadd c_M_compared_41 ?_
            refine PW_put (w2 := E x (sI Y1 578 ((nI (pF g n fu 3 o p).2.1) + 1))) c_M_compared_42 fp_M_compared_185 rfl (pf_70_18 _ _ _) ?_
            rw [nI_1 ((pF g n fu 3 o p).2.1)]
            show PW _ _ _ 45 [some (.ref 70), some (.int (lkM (sg g n (pF g n fu 3 o p).2.1)))] [] (E x (sI Y1 578 (nI ((pF g n fu 3 o p).2.1 + 1))))
            refine PW_aload_n c_M_compared_45 rfl ?_
            refine PW_V0 (d2 := fu + 1) (st := []) [] c_M_compared_46 lk_M_compared_228 (po_70 _ _) rfl rfl rfl (Nat.le_of_ble_eq_true rfl) (by first | decide | omega) (Nat.le_of_ble_eq_true rfl) ?_
            refine H2 ?_
            show PW _ _ _ 49 [some (.ref 70), some (.int (lkM (sg g n (pF g n fu 3 o p).2.1)))] [] (E x Y2)
            refine PW_aload_n c_M_compared_49 rfl ?_
            refine PW_iload_n c_M_compared_50 rfl ?_
            refine PW_iconst (v := 0) c_M_compared_51 (by decide) ?_
            refine PW_V0 (d2 := 0) (st := []) [.int (lkM (sg g n (pF g n fu 3 o p).2.1)), .int 0] c_M_compared_52 lk_M_compared_204 (po_70 _ _) rfl rfl rfl (Nat.le_of_ble_eq_true rfl) (by first | decide | omega) (Nat.le_of_ble_eq_true rfl) ?_
            refine sp_M_addStep (a := sg g n (pF g n fu 3 o p).2.1) (k := l2) hlk (by omega) s2 (by omega) ?_
            show PW _ _ _ 55 [some (.ref 70), some (.int (lkM (sg g n (pF g n fu 3 o p).2.1)))] [] (E x (adS Y2 l2 (nI (sg g n (pF g n fu 3 o p).2.1)) 0))
            refine PW_vreturn c_M_compared_55 rfl ?_
            exact h
          · have n60 : ¬ sg g n (pF g n fu 3 o p).2.1 = 60 := by omega
            refine PW_aload_n c_M_compared_0 rfl ?_
            refine PW_V0 (d2 := fu + 1) (st := []) [] c_M_compared_1 lk_M_compared_228 (po_70 _ _) rfl rfl rfl (Nat.le_of_ble_eq_true rfl) (by first | decide | omega) (Nat.le_of_ble_eq_true rfl) ?_
            refine H1 ?_
            show PW _ _ _ 4 [some (.ref 70), none] [] (E x Y1)
            refine PW_aload_n c_M_compared_4 rfl ?_
            refine PW_V0 (d2 := 0) (st := []) [] c_M_compared_5 lk_M_compared_200 (po_70 _ _) rfl rfl rfl (Nat.le_of_ble_eq_true rfl) (by first | decide | omega) (Nat.le_of_ble_eq_true rfl) ?_
            refine sp_M_look (tpM_fr hT f1) p1 w1n ?_
            show PW _ _ _ 8 [some (.ref 70), none] [.int (lkM (sg g n (pF g n fu 3 o p).2.1))] (E x Y1)
            refine PW_istore_n (i := 1) (L2 := [some (.ref 70), some (.int (lkM (sg g n (pF g n fu 3 o p).2.1)))]) c_M_compared_8 rfl (Nat.le_of_ble_eq_true rfl) rfl rfl ?_
            refine PW_aload_n c_M_compared_9 rfl ?_
            refine PW_get (v := .int (Y1.1 579)) c_M_compared_10 fl_M_188 (gf_70_19 _ _) ?_
            rw [b1]
            show PW _ _ _ 13 [some (.ref 70), some (.int (lkM (sg g n (pF g n fu 3 o p).2.1)))] [.int (-1)] (E x Y1)
            refine PW_if_ge c_M_compared_13 (fun h0 => absurd h0 (by decide)) (fun _ => ?_)
            refine PW_iload_n c_M_compared_16 rfl ?_
            refine PW_bipush (v := 60) c_M_compared_17 (by decide) ?_
            refine PW_icmp_eq c_M_compared_19 (fun h1 => absurd h1 (fun w => n60 ((lkM_k (tpM_sg hT) (by decide) (k := 60)).mp w))) (fun h1 => ?_)
            refine PW_iload_n c_M_compared_22 rfl ?_
            refine PW_bipush (v := 61) c_M_compared_23 (by decide) ?_
            refine PW_icmp_eq c_M_compared_25 (fun h2 => ?_) (fun h2 => absurd ((lkM_k (tpM_sg hT) (by decide) (k := 61)).mpr e) h2)
            refine PW_aload_n c_M_compared_35 rfl ?_
            refine PW_dup c_M_compared_36 rfl ?_
            refine PW_get (v := .int (Y1.1 578)) c_M_compared_37 fl_M_185 (gf_70_18 _ _) ?_
            rw [p1]
            show PW _ _ _ 40 [some (.ref 70), some (.int (lkM (sg g n (pF g n fu 3 o p).2.1)))] [.int (nI (pF g n fu 3 o p).2.1), .ref 70] (E x Y1)
            refine PW_iconst (v := 1) c_M_compared_40 (by decide) ?_
            refine PW_iadd c_M_compared_41 ?_
            refine PW_put (w2 := E x (sI Y1 578 ((nI (pF g n fu 3 o p).2.1) + 1))) c_M_compared_42 fp_M_compared_185 rfl (pf_70_18 _ _ _) ?_
            rw [nI_1 ((pF g n fu 3 o p).2.1)]
            show PW _ _ _ 45 [some (.ref 70), some (.int (lkM (sg g n (pF g n fu 3 o p).2.1)))] [] (E x (sI Y1 578 (nI ((pF g n fu 3 o p).2.1 + 1))))
            refine PW_aload_n c_M_compared_45 rfl ?_
            refine PW_V0 (d2 := fu + 1) (st := []) [] c_M_compared_46 lk_M_compared_228 (po_70 _ _) rfl rfl rfl (Nat.le_of_ble_eq_true rfl) (by first | decide | omega) (Nat.le_of_ble_eq_true rfl) ?_
            refine H2 ?_
            show PW _ _ _ 49 [some (.ref 70), some (.int (lkM (sg g n (pF g n fu 3 o p).2.1)))] [] (E x Y2)
            refine PW_aload_n c_M_compared_49 rfl ?_
            refine PW_iload_n c_M_compared_50 rfl ?_
            refine PW_iconst (v := 0) c_M_compared_51 (by decide) ?_
            refine PW_V0 (d2 := 0) (st := []) [.int (lkM (sg g n (pF g n fu 3 o p).2.1)), .int 0] c_M_compared_52 lk_M_compared_204 (po_70 _ _) rfl rfl rfl (Nat.le_of_ble_eq_true rfl) (by first | decide | omega) (Nat.le_of_ble_eq_true rfl) ?_
            refine sp_M_addStep (a := sg g n (pF g n fu 3 o p).2.1) (k := l2) hlk (by omega) s2 (by omega) ?_
            show PW _ _ _ 55 [some (.ref 70), some (.int (lkM (sg g n (pF g n fu 3 o p).2.1)))] [] (E x (adS Y2 l2 (nI (sg g n (pF g n fu 3 o p).2.1)) 0))
            refine PW_vreturn c_M_compared_55 rfl ?_
            exact h
          · have n60 : ¬ sg g n (pF g n fu 3 o p).2.1 = 60 := by omega
            have n61 : ¬ sg g n (pF g n fu 3 o p).2.1 = 61 := by omega
            refine PW_aload_n c_M_compared_0 rfl ?_
            refine PW_V0 (d2 := fu + 1) (st := []) [] c_M_compared_1 lk_M_compared_228 (po_70 _ _) rfl rfl rfl (Nat.le_of_ble_eq_true rfl) (by first | decide | omega) (Nat.le_of_ble_eq_true rfl) ?_
            refine H1 ?_
            show PW _ _ _ 4 [some (.ref 70), none] [] (E x Y1)
            refine PW_aload_n c_M_compared_4 rfl ?_
            refine PW_V0 (d2 := 0) (st := []) [] c_M_compared_5 lk_M_compared_200 (po_70 _ _) rfl rfl rfl (Nat.le_of_ble_eq_true rfl) (by first | decide | omega) (Nat.le_of_ble_eq_true rfl) ?_
            refine sp_M_look (tpM_fr hT f1) p1 w1n ?_
            show PW _ _ _ 8 [some (.ref 70), none] [.int (lkM (sg g n (pF g n fu 3 o p).2.1))] (E x Y1)
            refine PW_istore_n (i := 1) (L2 := [some (.ref 70), some (.int (lkM (sg g n (pF g n fu 3 o p).2.1)))]) c_M_compared_8 rfl (Nat.le_of_ble_eq_true rfl) rfl rfl ?_
            refine PW_aload_n c_M_compared_9 rfl ?_
            refine PW_get (v := .int (Y1.1 579)) c_M_compared_10 fl_M_188 (gf_70_19 _ _) ?_
            rw [b1]
            show PW _ _ _ 13 [some (.ref 70), some (.int (lkM (sg g n (pF g n fu 3 o p).2.1)))] [.int (-1)] (E x Y1)
            refine PW_if_ge c_M_compared_13 (fun h0 => absurd h0 (by decide)) (fun _ => ?_)
            refine PW_iload_n c_M_compared_16 rfl ?_
            refine PW_bipush (v := 60) c_M_compared_17 (by decide) ?_
            refine PW_icmp_eq c_M_compared_19 (fun h1 => absurd h1 (fun w => n60 ((lkM_k (tpM_sg hT) (by decide) (k := 60)).mp w))) (fun h1 => ?_)
            refine PW_iload_n c_M_compared_22 rfl ?_
            refine PW_bipush (v := 61) c_M_compared_23 (by decide) ?_
            refine PW_icmp_eq c_M_compared_25 (fun h2 => absurd h2 (fun w => n61 ((lkM_k (tpM_sg hT) (by decide) (k := 61)).mp w))) (fun h2 => ?_)
            refine PW_iload_n c_M_compared_28 rfl ?_
            refine PW_bipush (v := 62) c_M_compared_29 (by decide) ?_
            refine PW_icmp_eq c_M_compared_31 (fun h3 => ?_) (fun h3 => absurd ((lkM_k (tpM_sg hT) (by decide) (k := 62)).mpr e) h3)
            refine PW_aload_n c_M_compared_35 rfl ?_
            refine PW_dup c_M_compared_36 rfl ?_
            refine PW_get (v := .int (Y1.1 578)) c_M_compared_37 fl_M_185 (gf_70_18 _ _) ?_
            rw [p1]
            show PW _ _ _ 40 [some (.ref 70), some (.int (lkM (sg g n (pF g n fu 3 o p).2.1)))] [.int (nI (pF g n fu 3 o p).2.1), .ref 70] (E x Y1)
            refine PW_iconst (v := 1) c_M_compared_40 (by decide) ?_
            refine PW_iadd c_M_compared_41 ?_
            refine PW_put (w2 := E x (sI Y1 578 ((nI (pF g n fu 3 o p).2.1) + 1))) c_M_compared_42 fp_M_compared_185 rfl (pf_70_18 _ _ _) ?_
            rw [nI_1 ((pF g n fu 3 o p).2.1)]
            show PW _ _ _ 45 [some (.ref 70), some (.int (lkM (sg g n (pF g n fu 3 o p).2.1)))] [] (E x (sI Y1 578 (nI ((pF g n fu 3 o p).2.1 + 1))))
            refine PW_aload_n c_M_compared_45 rfl ?_
            refine PW_V0 (d2 := fu + 1) (st := []) [] c_M_compared_46 lk_M_compared_228 (po_70 _ _) rfl rfl rfl (Nat.le_of_ble_eq_true rfl) (by first | decide | omega) (Nat.le_of_ble_eq_true rfl) ?_
            refine H2 ?_
            show PW _ _ _ 49 [some (.ref 70), some (.int (lkM (sg g n (pF g n fu 3 o p).2.1)))] [] (E x Y2)
            refine PW_aload_n c_M_compared_49 rfl ?_
            refine PW_iload_n c_M_compared_50 rfl ?_
            refine PW_iconst (v := 0) c_M_compared_51 (by decide) ?_
            refine PW_V0 (d2 := 0) (st := []) [.int (lkM (sg g n (pF g n fu 3 o p).2.1)), .int 0] c_M_compared_52 lk_M_compared_204 (po_70 _ _) rfl rfl rfl (Nat.le_of_ble_eq_true rfl) (by first | decide | omega) (Nat.le_of_ble_eq_true rfl) ?_
            refine sp_M_addStep (a := sg g n (pF g n fu 3 o p).2.1) (k := l2) hlk (by omega) s2 (by omega) ?_
            show PW _ _ _ 55 [some (.ref 70), some (.int (lkM (sg g n (pF g n fu 3 o p).2.1)))] [] (E x (adS Y2 l2 (nI (sg g n (pF g n fu 3 o p).2.1)) 0))
            refine PW_vreturn c_M_compared_55 rfl ?_
            exact h
    · rw [if_neg hlv]
      have n60 : ¬ sg g n (pF g n fu 3 o p).2.1 = 60 := fun w => hlv (lv_2.mpr (by omega))
      have n61 : ¬ sg g n (pF g n fu 3 o p).2.1 = 61 := fun w => hlv (lv_2.mpr (by omega))
      have n62 : ¬ sg g n (pF g n fu 3 o p).2.1 = 62 := fun w => hlv (lv_2.mpr (by omega))
      refine ⟨Y1, ⟨f1, u1, p1, Or.inl ⟨rfl, b1, o1, s1, v1⟩⟩, fun {x z post} h => ?_⟩
      refine PW_aload_n c_M_compared_0 rfl ?_
      refine PW_V0 (d2 := fu + 1) (st := []) [] c_M_compared_1 lk_M_compared_228 (po_70 _ _) rfl rfl rfl (Nat.le_of_ble_eq_true rfl) (by first | decide | omega) (Nat.le_of_ble_eq_true rfl) ?_
      refine H1 ?_
      show PW _ _ _ 4 [some (.ref 70), none] [] (E x Y1)
      refine PW_aload_n c_M_compared_4 rfl ?_
      refine PW_V0 (d2 := 0) (st := []) [] c_M_compared_5 lk_M_compared_200 (po_70 _ _) rfl rfl rfl (Nat.le_of_ble_eq_true rfl) (by first | decide | omega) (Nat.le_of_ble_eq_true rfl) ?_
      refine sp_M_look (tpM_fr hT f1) p1 w1n ?_
      show PW _ _ _ 8 [some (.ref 70), none] [.int (lkM (sg g n (pF g n fu 3 o p).2.1))] (E x Y1)
      refine PW_istore_n (i := 1) (L2 := [some (.ref 70), some (.int (lkM (sg g n (pF g n fu 3 o p).2.1)))]) c_M_compared_8 rfl (Nat.le_of_ble_eq_true rfl) rfl rfl ?_
      refine PW_aload_n c_M_compared_9 rfl ?_
      refine PW_get (v := .int (Y1.1 579)) c_M_compared_10 fl_M_188 (gf_70_19 _ _) ?_
      rw [b1]
      show PW _ _ _ 13 [some (.ref 70), some (.int (lkM (sg g n (pF g n fu 3 o p).2.1)))] [.int (-1)] (E x Y1)
      refine PW_if_ge c_M_compared_13 (fun h0 => absurd h0 (by decide)) (fun _ => ?_)
      refine PW_iload_n c_M_compared_16 rfl ?_
      refine PW_bipush (v := 60) c_M_compared_17 (by decide) ?_
      refine PW_icmp_eq c_M_compared_19 (fun h1 => absurd h1 (fun w => n60 ((lkM_k (tpM_sg hT) (by decide) (k := 60)).mp w))) (fun h1 => ?_)
      refine PW_iload_n c_M_compared_22 rfl ?_
      refine PW_bipush (v := 61) c_M_compared_23 (by decide) ?_
      refine PW_icmp_eq c_M_compared_25 (fun h2 => absurd h2 (fun w => n61 ((lkM_k (tpM_sg hT) (by decide) (k := 61)).mp w))) (fun h2 => ?_)
      refine PW_iload_n c_M_compared_28 rfl ?_
      refine PW_bipush (v := 62) c_M_compared_29 (by decide) ?_
      refine PW_icmp_eq c_M_compared_31 (fun h3 => absurd h3 (fun w => n62 ((lkM_k (tpM_sg hT) (by decide) (k := 62)).mp w))) (fun h3 => ?_)
      refine PW_vreturn c_M_compared_34 rfl ?_
      exact h
  · refine ⟨Y1, ⟨f1, u1, ?_, Or.inr ?_⟩, fun {x z post} h => ?_⟩
    · by_cases r : (pF g n fu 3 o p).1 = true
      · rw [if_pos r, lpF_stop (lvO_D (by decide) (r1 r))]; exact p1
      · rw [if_neg r]; exact p1
    · by_cases r : (pF g n fu 3 o p).1 = true
      · rw [if_pos r, lpF_stop (lvO_D (by decide) (r1 r))]; exact ⟨fun _ => r1 r, b1, l1, s1, hk1, hl1⟩
      · rw [if_neg r]; exact ⟨fun w => Bool.noConfusion w, b1, l1, s1, hk1, hl1⟩
    · skip
      refine PW_aload_n c_M_compared_0 rfl ?_
      refine PW_V0 (d2 := fu + 1) (st := []) [] c_M_compared_1 lk_M_compared_228 (po_70 _ _) rfl rfl rfl (Nat.le_of_ble_eq_true rfl) (by first | decide | omega) (Nat.le_of_ble_eq_true rfl) ?_
      refine H1 ?_
      show PW _ _ _ 4 [some (.ref 70), none] [] (E x Y1)
      refine PW_aload_n c_M_compared_4 rfl ?_
      refine PW_V0 (d2 := 0) (st := []) [] c_M_compared_5 lk_M_compared_200 (po_70 _ _) rfl rfl rfl (Nat.le_of_ble_eq_true rfl) (by first | decide | omega) (Nat.le_of_ble_eq_true rfl) ?_
      refine sp_M_look (tpM_fr hT f1) p1 w1n ?_
      show PW _ _ _ 8 [some (.ref 70), none] [.int (lkM (sg g n (pF g n fu 3 o p).2.1))] (E x Y1)
      refine PW_istore_n (i := 1) (L2 := [some (.ref 70), some (.int (lkM (sg g n (pF g n fu 3 o p).2.1)))]) c_M_compared_8 rfl (Nat.le_of_ble_eq_true rfl) rfl rfl ?_
      refine PW_aload_n c_M_compared_9 rfl ?_
      refine PW_get (v := .int (Y1.1 579)) c_M_compared_10 fl_M_188 (gf_70_19 _ _) ?_
      rw [b1]
      show PW _ _ _ 13 [some (.ref 70), some (.int (lkM (sg g n (pF g n fu 3 o p).2.1)))] [.int (nI (pF g n fu 3 o p).2.1)] (E x Y1)
      refine PW_if_ge c_M_compared_13 (fun h0 => ?_) (fun h0 => absurd (nI_pos' (by omega)) h0)
      refine PW_vreturn c_M_compared_34 rfl ?_
      exact h
set_option maxHeartbeats 1000000 in
theorem M_operand_step {g : Nat → Nat} {n fu : Nat} (ih0 : MOK g n m_M_either [some (.ref 70)] fu 0) (ih5 : MOK g n m_M_operand [some (.ref 70), none] fu 5) : MOK g n m_M_operand [some (.ref 70), none] (fu + 1) 5 := by
  intro o p k Y ho hfu hT hp hF hO hS hpn hk
  have hn := hT.2.1
  rw [pF_5]
  by_cases h1 : nmO (sg g n p) < 5
  · rw [if_pos h1]
    have hp2 : p < n := sg_lt (g := g) (by have := nmO_lt h1; omega)
    refine ⟨sI (adS Y k (nI 2) (nmI (sg g n p))) 578 (nI (p + 1)), ⟨frM_t frM_a (frM_i (by decide)), ?_, sI_s, Or.inl ⟨rfl, (sI_n (by decide)).trans ((adS_1 (by decide)).trans hF), (sI_n (by decide)).trans ((adS_1 (by decide)).trans hO), (sI_n (by decide)).trans adS_s, ?_⟩⟩, fun {x z post} h => ?_⟩
    · rw [sI_A, adS_84, adS_85]
      exact lowA_u (Nat.le_refl (130 + k))
    · rw [sI_A, adS_84, adS_85, show nmI (sg g n p) = nI (nmO (sg g n p)) from if_pos h1]
      exact wrA_one
    · skip
      refine PW_aload_n c_M_operand_0 rfl ?_
      refine PW_V0 (d2 := 0) (st := []) [] c_M_operand_1 lk_M_operand_200 (po_70 _ _) rfl rfl rfl (Nat.le_of_ble_eq_true rfl) (by first | decide | omega) (Nat.le_of_ble_eq_true rfl) ?_
      refine sp_M_look hT hp hpn ?_
      show PW _ _ _ 4 [some (.ref 70), none] [.int (lkM (sg g n p))] (E x Y)
      refine PW_istore_n (i := 1) (L2 := [some (.ref 70), some (.int (lkM (sg g n p)))]) c_M_operand_4 rfl (Nat.le_of_ble_eq_true rfl) rfl rfl ?_
      refine PW_iload_n c_M_operand_5 rfl ?_
      refine PW_S0 (d2 := 0) (st := []) [.int (lkM (sg g n p))] c_M_operand_6 lk_M_operand_208 rfl rfl rfl (Nat.le_of_ble_eq_true rfl) (by first | decide | omega) (Nat.le_of_ble_eq_true rfl) ?_
      refine sp_M_nameOf (tpM_sg hT) ?_
      show PW _ _ _ 9 [some (.ref 70), some (.int (lkM (sg g n p)))] [.int (nmI (sg g n p))] (E x Y)
      refine PW_if_lt c_M_operand_9 (fun h0 => absurd h0 (fun w => by rw [show nmI (sg g n p) = nI (nmO (sg g n p)) from if_pos h1] at w; exact absurd w (nI_pos (by omega)))) (fun h0 => ?_)
      refine PW_aload_n c_M_operand_12 rfl ?_
      refine PW_iconst (v := 2) c_M_operand_13 (by decide) ?_
      refine PW_iload_n c_M_operand_14 rfl ?_
      refine PW_S0 (d2 := 0) (st := [.int 2, .ref 70]) [.int (lkM (sg g n p))] c_M_operand_15 lk_M_operand_208 rfl rfl rfl (Nat.le_of_ble_eq_true rfl) (by first | decide | omega) (Nat.le_of_ble_eq_true rfl) ?_
      refine sp_M_nameOf (tpM_sg hT) ?_
      show PW _ _ _ 18 [some (.ref 70), some (.int (lkM (sg g n p)))] [.int (nmI (sg g n p)), .int 2, .ref 70] (E x Y)
      refine PW_V0 (d2 := 0) (st := []) [.int 2, .int (nmI (sg g n p))] c_M_operand_18 lk_M_operand_204 (po_70 _ _) rfl rfl rfl (Nat.le_of_ble_eq_true rfl) (by first | decide | omega) (Nat.le_of_ble_eq_true rfl) ?_
      refine sp_M_addStep (a := 2) rfl (by decide) hS (by omega) ?_
      show PW _ _ _ 21 [some (.ref 70), some (.int (lkM (sg g n p)))] [] (E x (adS Y k (nI 2) (nmI (sg g n p))))
      refine PW_aload_n c_M_operand_21 rfl ?_
      refine PW_dup c_M_operand_22 rfl ?_
      refine PW_get (v := .int ((adS Y k (nI 2) (nmI (sg g n p))).1 578)) c_M_operand_23 fl_M_185 (gf_70_18 _ _) ?_
      rw [(adS_1 (by decide)).trans hp]
      show PW _ _ _ 26 [some (.ref 70), some (.int (lkM (sg g n p)))] [.int (nI p), .ref 70] (E x (adS Y k (nI 2) (nmI (sg g n p))))
      refine PW_iconst (v := 1) c_M_operand_26 (by decide) ?_
      refine PW_iadd c_M_operand_27 ?_
      refine PW_put (w2 := E x (sI (adS Y k (nI 2) (nmI (sg g n p))) 578 ((nI p) + 1))) c_M_operand_28 fp_M_operand_185 rfl (pf_70_18 _ _ _) ?_
      refine PW_goto c_M_operand_31 ?_
      refine PW_vreturn c_M_operand_154 rfl ?_
      rw [nI_1 p]
      exact h
  · rw [if_neg h1]
    by_cases hD2 : isD (sg g n p)
    · rw [if_pos hD2]
      have n33 : ¬ sg g n p = 33 := by unfold isD at hD2; omega
      have n45 : ¬ sg g n p = 45 := by unfold isD at hD2; omega
      have n40 : ¬ sg g n p = 40 := by unfold isD at hD2; omega
      have w := rdN_p (g := g) 4 p 0 hpn
      have w2 := rdN_1 hpn hD2
      by_cases hdq : isD (sg g n (rdN g n 4 p 0).1)
      · refine ⟨adS (sI (sI Y 578 (nI (rdN g n 4 p 0).1)) 579 (nI (rdN g n 4 p 0).1)) k (nI 1) (rdN g n 4 p 0).2, ⟨frM_t (frM_t (frM_i (by decide)) (frM_i (by decide))) frM_a, ?_, (adS_1 (by decide)).trans ((sI_n (by decide)).trans sI_s), Or.inr ⟨fun _ => hdq, (adS_1 (by decide)).trans sI_s, k + 1, adS_s, by omega, by show k + 1 + p ≤ k + (rdN g n 4 p 0).1 + 1; omega⟩⟩, fun {x z post} h => ?_⟩
        · rw [adS_84, adS_85]
          exact lowA_u (Nat.le_refl (130 + k))
        · skip
          refine PW_aload_n c_M_operand_0 rfl ?_
          refine PW_V0 (d2 := 0) (st := []) [] c_M_operand_1 lk_M_operand_200 (po_70 _ _) rfl rfl rfl (Nat.le_of_ble_eq_true rfl) (by first | decide | omega) (Nat.le_of_ble_eq_true rfl) ?_
          refine sp_M_look hT hp hpn ?_
          show PW _ _ _ 4 [some (.ref 70), none] [.int (lkM (sg g n p))] (E x Y)
          refine PW_istore_n (i := 1) (L2 := [some (.ref 70), some (.int (lkM (sg g n p)))]) c_M_operand_4 rfl (Nat.le_of_ble_eq_true rfl) rfl rfl ?_
          refine PW_iload_n c_M_operand_5 rfl ?_
          refine PW_S0 (d2 := 0) (st := []) [.int (lkM (sg g n p))] c_M_operand_6 lk_M_operand_208 rfl rfl rfl (Nat.le_of_ble_eq_true rfl) (by first | decide | omega) (Nat.le_of_ble_eq_true rfl) ?_
          refine sp_M_nameOf (tpM_sg hT) ?_
          show PW _ _ _ 9 [some (.ref 70), some (.int (lkM (sg g n p)))] [.int (nmI (sg g n p))] (E x Y)
          refine PW_if_lt c_M_operand_9 (fun h0 => ?_) (fun h0 => absurd (by rw [show nmI (sg g n p) = -1 from if_neg h1]; decide) h0)
          refine PW_iload_n c_M_operand_34 rfl ?_
          refine PW_bipush (v := 33) c_M_operand_35 (by decide) ?_
          refine PW_icmp_eq c_M_operand_37 (fun h1 => absurd h1 (fun w => n33 ((lkM_k (tpM_sg hT) (by decide) (k := 33)).mp w))) (fun h1 => ?_)
          refine PW_iload_n c_M_operand_40 rfl ?_
          refine PW_bipush (v := 45) c_M_operand_41 (by decide) ?_
          refine PW_icmp_ne c_M_operand_43 (fun h2 => ?_) (fun h2 => absurd h2 (fun w => n45 ((lkM_k (tpM_sg hT) (by decide) (k := 45)).mp w)))
          refine PW_iload_n c_M_operand_87 rfl ?_
          refine PW_bipush (v := 40) c_M_operand_88 (by decide) ?_
          refine PW_icmp_ne c_M_operand_90 (fun h3 => ?_) (fun h3 => absurd h3 (fun w => n40 ((lkM_k (tpM_sg hT) (by decide) (k := 40)).mp w)))
          refine PW_aload_n c_M_operand_150 rfl ?_
          refine PW_V0 (d2 := 1) (st := []) [] c_M_operand_151 lk_M_operand_222 (po_70 _ _) rfl rfl rfl (Nat.le_of_ble_eq_true rfl) (by first | decide | omega) (Nat.le_of_ble_eq_true rfl) ?_
          refine sp_M_fig2 hT hp hF hS (by omega) hpn hD2 hdq ?_
          show PW _ _ _ 154 [some (.ref 70), some (.int (lkM (sg g n p)))] [] (E x (adS (sI (sI Y 578 (nI (rdN g n 4 p 0).1)) 579 (nI (rdN g n 4 p 0).1)) k (nI 1) (rdN g n 4 p 0).2))
          refine PW_vreturn c_M_operand_154 rfl ?_
          exact h
      · refine ⟨adS (sI Y 578 (nI (rdN g n 4 p 0).1)) k (nI 1) (rdN g n 4 p 0).2, ⟨frM_t (frM_i (by decide)) frM_a, ?_, (adS_1 (by decide)).trans sI_s, Or.inl ⟨rfl, (adS_1 (by decide)).trans ((sI_n (by decide)).trans hF), (adS_1 (by decide)).trans ((sI_n (by decide)).trans hO), adS_s, ?_⟩⟩, fun {x z post} h => ?_⟩
        · rw [adS_84, adS_85]
          exact lowA_u (Nat.le_refl (130 + k))
        · rw [adS_84, adS_85]
          exact wrA_one
        · skip
          refine PW_aload_n c_M_operand_0 rfl ?_
          refine PW_V0 (d2 := 0) (st := []) [] c_M_operand_1 lk_M_operand_200 (po_70 _ _) rfl rfl rfl (Nat.le_of_ble_eq_true rfl) (by first | decide | omega) (Nat.le_of_ble_eq_true rfl) ?_
          refine sp_M_look hT hp hpn ?_
          show PW _ _ _ 4 [some (.ref 70), none] [.int (lkM (sg g n p))] (E x Y)
          refine PW_istore_n (i := 1) (L2 := [some (.ref 70), some (.int (lkM (sg g n p)))]) c_M_operand_4 rfl (Nat.le_of_ble_eq_true rfl) rfl rfl ?_
          refine PW_iload_n c_M_operand_5 rfl ?_
          refine PW_S0 (d2 := 0) (st := []) [.int (lkM (sg g n p))] c_M_operand_6 lk_M_operand_208 rfl rfl rfl (Nat.le_of_ble_eq_true rfl) (by first | decide | omega) (Nat.le_of_ble_eq_true rfl) ?_
          refine sp_M_nameOf (tpM_sg hT) ?_
          show PW _ _ _ 9 [some (.ref 70), some (.int (lkM (sg g n p)))] [.int (nmI (sg g n p))] (E x Y)
          refine PW_if_lt c_M_operand_9 (fun h0 => ?_) (fun h0 => absurd (by rw [show nmI (sg g n p) = -1 from if_neg h1]; decide) h0)
          refine PW_iload_n c_M_operand_34 rfl ?_
          refine PW_bipush (v := 33) c_M_operand_35 (by decide) ?_
          refine PW_icmp_eq c_M_operand_37 (fun h1 => absurd h1 (fun w => n33 ((lkM_k (tpM_sg hT) (by decide) (k := 33)).mp w))) (fun h1 => ?_)
          refine PW_iload_n c_M_operand_40 rfl ?_
          refine PW_bipush (v := 45) c_M_operand_41 (by decide) ?_
          refine PW_icmp_ne c_M_operand_43 (fun h2 => ?_) (fun h2 => absurd h2 (fun w => n45 ((lkM_k (tpM_sg hT) (by decide) (k := 45)).mp w)))
          refine PW_iload_n c_M_operand_87 rfl ?_
          refine PW_bipush (v := 40) c_M_operand_88 (by decide) ?_
          refine PW_icmp_ne c_M_operand_90 (fun h3 => ?_) (fun h3 => absurd h3 (fun w => n40 ((lkM_k (tpM_sg hT) (by decide) (k := 40)).mp w)))
          refine PW_aload_n c_M_operand_150 rfl ?_
          refine PW_V0 (d2 := 1) (st := []) [] c_M_operand_151 lk_M_operand_222 (po_70 _ _) rfl rfl rfl (Nat.le_of_ble_eq_true rfl) (by first | decide | omega) (Nat.le_of_ble_eq_true rfl) ?_
          refine sp_M_fig1 hT hp hF hS (by omega) hpn hD2 hdq ?_
          show PW _ _ _ 154 [some (.ref 70), some (.int (lkM (sg g n p)))] [] (E x (adS (sI Y 578 (nI (rdN g n 4 p 0).1)) k (nI 1) (rdN g n 4 p 0).2))
          refine PW_vreturn c_M_operand_154 rfl ?_
          exact h
    · rw [if_neg hD2]
      by_cases h3 : sg g n p = 40 ∨ sg g n p = 33 ∨ sg g n p = 45
      · have hp2 : p < n := sg_lt (g := g) (by omega)
        by_cases h6 : o < 6
        · rw [if_neg (not_not_intro ⟨h3, h6⟩)]
          have fP : frM Y (sI (sI Y 580 (nI (o + 1))) 578 (nI (p + 1))) := frM_t (frM_i (by decide)) (frM_i (by decide))
          have hFP : (sI (sI Y 580 (nI (o + 1))) 578 (nI (p + 1))).1 579 = -1 := (sI_n (by decide)).trans ((sI_n (by decide)).trans hF)
          have hOP : (sI (sI Y 580 (nI (o + 1))) 578 (nI (p + 1))).1 580 = nI (o + 1) := (sI_n (by decide)).trans sI_s
          have hSP : (sI (sI Y 580 (nI (o + 1))) 578 (nI (p + 1))).1 581 = nI k := (sI_n (by decide)).trans ((sI_n (by decide)).trans hS)
          rcases h3 with e | e | e
          · have n33 : ¬ sg g n p = 33 := by omega
            have n45 : ¬ sg g n p = 45 := by omega
            rw [if_pos e]
            obtain ⟨Y0, ⟨f0, u0, p0, c0⟩, H0⟩ := ih0 (o + 1) (p + 1) k (sI (sI Y 580 (nI (o + 1))) 578 (nI (p + 1))) (by omega) (by omega) (tpM_fr hT fP) sI_s hFP hOP hSP hp2 (by omega)
            have w0 := pF_p (g := g) fu 0 (o + 1) (p + 1) hp2
            have w0n := w0.2.1
            have w0p := w0.1
            rcases c0 with ⟨r0, b0, o0, s0, v0⟩ | ⟨r0, b0, l0, s0, hk0, hl0⟩
            · obtain ⟨z4, z5, z6, z7⟩ := w0.2.2 r0
              by_cases c41 : sg g n (pF g n fu 0 (o + 1) (p + 1)).2.1 = 41
              · rw [if_pos ⟨r0, c41⟩]
                refine ⟨sI (sI Y0 578 (nI ((pF g n fu 0 (o + 1) (p + 1)).2.1 + 1))) 580 (nI o), ⟨frM_t (frM_t (frM_t fP f0) (frM_i (by decide))) (frM_i (by decide)), u0, (sI_n (by decide)).trans sI_s, Or.inl ⟨rfl, (sI_n (by decide)).trans ((sI_n (by decide)).trans b0), sI_s, (sI_n (by decide)).trans ((sI_n (by decide)).trans s0), v0⟩⟩, fun {x z post} h => ?_⟩
                refine PW_aload_n c_M_operand_0 rfl ?_
                refine PW_V0 (d2 := 0) (st := []) [] c_M_operand_1 lk_M_operand_200 (po_70 _ _) rfl rfl rfl (Nat.le_of_ble_eq_true rfl) (by first | decide | omega) (Nat.le_of_ble_eq_true rfl) ?_
                refine sp_M_look hT hp hpn ?_
                show PW _ _ _ 4 [some (.ref 70), none] [.int (lkM (sg g n p))] (E x Y)
                refine PW_istore_n (i := 1) (L2 := [some (.ref 70), some (.int (lkM (sg g n p)))]) c_M_operand_4 rfl (Nat.le_of_ble_eq_true rfl) rfl rfl ?_
                refine PW_iload_n c_M_operand_5 rfl ?_
                refine PW_S0 (d2 := 0) (st := []) [.int (lkM (sg g n p))] c_M_operand_6 lk_M_operand_208 rfl rfl rfl (Nat.le_of_ble_eq_true rfl) (by first | decide | omega) (Nat.le_of_ble_eq_true rfl) ?_
                refine sp_M_nameOf (tpM_sg hT) ?_
                show PW _ _ _ 9 [some (.ref 70), some (.int (lkM (sg g n p)))] [.int (nmI (sg g n p))] (E x Y)
                refine PW_if_lt c_M_operand_9 (fun h0 => ?_) (fun h0 => absurd (by rw [show nmI (sg g n p) = -1 from if_neg h1]; decide) h0)
                refine PW_iload_n c_M_operand_34 rfl ?_
                refine PW_bipush (v := 33) c_M_operand_35 (by decide) ?_
                refine PW_icmp_eq c_M_operand_37 (fun h1 => absurd h1 (fun w => n33 ((lkM_k (tpM_sg hT) (by decide) (k := 33)).mp w))) (fun h1 => ?_)
                refine PW_iload_n c_M_operand_40 rfl ?_
                refine PW_bipush (v := 45) c_M_operand_41 (by decide) ?_
                refine PW_icmp_ne c_M_operand_43 (fun h2 => ?_) (fun h2 => absurd h2 (fun w => n45 ((lkM_k (tpM_sg hT) (by decide) (k := 45)).mp w)))
                refine PW_iload_n c_M_operand_87 rfl ?_
                refine PW_bipush (v := 40) c_M_operand_88 (by decide) ?_
                refine PW_icmp_ne c_M_operand_90 (fun h3 => absurd h3 (not_not_intro ((lkM_k (tpM_sg hT) (by decide) (k := 40)).mpr e))) (fun h3 => ?_)
                refine PW_aload_n c_M_operand_93 rfl ?_
                refine PW_V0 (d2 := 1) (st := []) [] c_M_operand_94 lk_M_operand_212 (po_70 _ _) rfl rfl rfl (Nat.le_of_ble_eq_true rfl) (by first | decide | omega) (Nat.le_of_ble_eq_true rfl) ?_
                show PW _ _ _ 0 [some (.ref 70)] [] (E x Y)
                refine PW_aload_n c_M_opens_0 rfl ?_
                refine PW_get (v := .int (Y.1 580)) c_M_opens_1 fl_M_194 (gf_70_20 _ _) ?_
                rw [hO]
                show PW _ _ _ 4 [some (.ref 70)] [.int (nI o)] (E x Y)
                refine PW_bipush (v := 6) c_M_opens_4 (by decide) ?_
                refine PW_icmp_ne c_M_opens_6 (fun h4 => ?_) (fun h4 => absurd h4 (fun w => absurd ((nI_eq (by omega) (by decide)).mp (show nI o = nI 6 from w)) (by omega)))
                refine PW_aload_n c_M_opens_15 rfl ?_
                refine PW_dup c_M_opens_16 rfl ?_
                refine PW_get (v := .int (Y.1 580)) c_M_opens_17 fl_M_194 (gf_70_20 _ _) ?_
                rw [hO]
                show PW _ _ _ 20 [some (.ref 70)] [.int (nI o), .ref 70] (E x Y)
                refine PW_iconst (v := 1) c_M_opens_20 (by decide) ?_
                refine PW_iadd c_M_opens_21 ?_
                refine PW_put (w2 := E x (sI Y 580 ((nI o) + 1))) c_M_opens_22 fp_M_opens_194 rfl (pf_70_20 _ _ _) ?_
                rw [nI_1 (o)]
                show PW _ _ _ 25 [some (.ref 70)] [] (E x (sI Y 580 (nI (o + 1))))
                refine PW_aload_n c_M_opens_25 rfl ?_
                refine PW_dup c_M_opens_26 rfl ?_
                refine PW_get (v := .int (Y.1 578)) c_M_opens_27 fl_M_185 (gf_70_18 _ _) ?_
                rw [hp]
                show PW _ _ _ 30 [some (.ref 70)] [.int (nI p), .ref 70] (E x (sI Y 580 (nI (o + 1))))
                refine PW_iconst (v := 1) c_M_opens_30 (by decide) ?_
                refine PW_iadd c_M_opens_31 ?_
                refine PW_put (w2 := E x (sI (sI Y 580 (nI (o + 1))) 578 ((nI p) + 1))) c_M_opens_32 fp_M_opens_185 rfl (pf_70_18 _ _ _) ?_
                rw [nI_1 p]
                show PW _ _ _ 35 [some (.ref 70)] [] (E x (sI (sI Y 580 (nI (o + 1))) 578 (nI (p + 1))))
                refine PW_iconst (v := 1) c_M_opens_35 (by decide) ?_
                refine PW_ireturn (ty := .boolean) c_M_opens_36 rfl (by decide +kernel) ?_
                show PW _ _ _ 97 [some (.ref 70), some (.int (lkM (sg g n p)))] [.int 1] (E x (sI (sI Y 580 (nI (o + 1))) 578 (nI (p + 1))))
                refine PW_if_ne c_M_operand_97 (fun _ => ?_) (fun h5 => absurd h5 (by decide))
                refine PW_aload_n c_M_operand_101 rfl ?_
                refine PW_V0 (d2 := fu + 1) (st := []) [] c_M_operand_102 lk_M_operand_219 (po_70 _ _) rfl rfl rfl (Nat.le_of_ble_eq_true rfl) (by first | decide | omega) (Nat.le_of_ble_eq_true rfl) ?_
                refine H0 ?_
                show PW _ _ _ 105 [some (.ref 70), some (.int (lkM (sg g n p)))] [] (E x Y0)
                refine PW_aload_n c_M_operand_105 rfl ?_
                refine PW_get (v := .int (Y0.1 579)) c_M_operand_106 fl_M_188 (gf_70_19 _ _) ?_
                rw [b0]
                show PW _ _ _ 109 [some (.ref 70), some (.int (lkM (sg g n p)))] [.int (-1)] (E x Y0)
                refine PW_if_lt c_M_operand_109 (fun _ => ?_) (fun h6 => absurd (by decide) h6)
                refine PW_aload_n c_M_operand_113 rfl ?_
                refine PW_V0 (d2 := 0) (st := []) [] c_M_operand_114 lk_M_operand_200 (po_70 _ _) rfl rfl rfl (Nat.le_of_ble_eq_true rfl) (by first | decide | omega) (Nat.le_of_ble_eq_true rfl) ?_
                refine sp_M_look (tpM_fr hT (frM_t fP f0)) p0 w0n ?_
                show PW _ _ _ 117 [some (.ref 70), some (.int (lkM (sg g n p)))] [.int (lkM (sg g n (pF g n fu 0 (o + 1) (p + 1)).2.1))] (E x Y0)
                refine PW_bipush (v := 41) c_M_operand_117 (by decide) ?_
                refine PW_icmp_eq c_M_operand_119 (fun h7 => ?_) (fun h7 => absurd ((lkM_k (tpM_sg hT) (by decide) (k := 41)).mpr c41) h7)
                refine PW_aload_n c_M_operand_127 rfl ?_
                refine PW_dup c_M_operand_128 rfl ?_
                refine PW_get (v := .int (Y0.1 578)) c_M_operand_129 fl_M_185 (gf_70_18 _ _) ?_
                rw [p0]
                show PW _ _ _ 132 [some (.ref 70), some (.int (lkM (sg g n p)))] [.int (nI (pF g n fu 0 (o + 1) (p + 1)).2.1), .ref 70] (E x Y0)
                refine PW_iconst (v := 1) c_M_operand_132 (by decide) ?_
                refine PW_iadd c_M_operand_133 ?_
                refine PW_put (w2 := E x (sI Y0 578 ((nI (pF g n fu 0 (o + 1) (p + 1)).2.1) + 1))) c_M_operand_134 fp_M_operand_185 rfl (pf_70_18 _ _ _) ?_
                rw [nI_1 ((pF g n fu 0 (o + 1) (p + 1)).2.1)]
                show PW _ _ _ 137 [some (.ref 70), some (.int (lkM (sg g n p)))] [] (E x (sI Y0 578 (nI ((pF g n fu 0 (o + 1) (p + 1)).2.1 + 1))))
                refine PW_aload_n c_M_operand_137 rfl ?_
                refine PW_dup c_M_operand_138 rfl ?_
                refine PW_get (v := .int (Y0.1 580)) c_M_operand_139 fl_M_194 (gf_70_20 _ _) ?_
                rw [o0]
                show PW _ _ _ 142 [some (.ref 70), some (.int (lkM (sg g n p)))] [.int (nI (o + 1)), .ref 70] (E x (sI Y0 578 (nI ((pF g n fu 0 (o + 1) (p + 1)).2.1 + 1))))
                refine PW_iconst (v := 1) c_M_operand_142 (by decide) ?_
                refine PW_isub c_M_operand_143 ?_
                refine PW_put (w2 := E x (sI (sI Y0 578 (nI ((pF g n fu 0 (o + 1) (p + 1)).2.1 + 1))) 580 ((nI (o + 1)) - 1))) c_M_operand_144 fp_M_operand_194 rfl (pf_70_20 _ _ _) ?_
                refine PW_goto c_M_operand_147 ?_
                refine PW_vreturn c_M_operand_154 rfl ?_
                rw [nI_pred o]
                exact h
              · rw [if_neg (fun w => c41 w.2)]
                refine ⟨sI Y0 579 (nI (pF g n fu 0 (o + 1) (p + 1)).2.1), ⟨frM_t (frM_t fP f0) (frM_i (by decide)), u0, (sI_n (by decide)).trans p0, Or.inr ⟨fun w => Bool.noConfusion w, sI_s, _, (sI_n (by decide)).trans s0, by omega, by show k + (pF g n fu 0 (o + 1) (p + 1)).2.2.length + p ≤ k + (pF g n fu 0 (o + 1) (p + 1)).2.1 + 1; omega⟩⟩, fun {x z post} h => ?_⟩
                refine PW_aload_n c_M_operand_0 rfl ?_
                refine PW_V0 (d2 := 0) (st := []) [] c_M_operand_1 lk_M_operand_200 (po_70 _ _) rfl rfl rfl (Nat.le_of_ble_eq_true rfl) (by first | decide | omega) (Nat.le_of_ble_eq_true rfl) ?_
                refine sp_M_look hT hp hpn ?_
                show PW _ _ _ 4 [some (.ref 70), none] [.int (lkM (sg g n p))] (E x Y)
                refine PW_istore_n (i := 1) (L2 := [some (.ref 70), some (.int (lkM (sg g n p)))]) c_M_operand_4 rfl (Nat.le_of_ble_eq_true rfl) rfl rfl ?_
                refine PW_iload_n c_M_operand_5 rfl ?_
                refine PW_S0 (d2 := 0) (st := []) [.int (lkM (sg g n p))] c_M_operand_6 lk_M_operand_208 rfl rfl rfl (Nat.le_of_ble_eq_true rfl) (by first | decide | omega) (Nat.le_of_ble_eq_true rfl) ?_
                refine sp_M_nameOf (tpM_sg hT) ?_
                show PW _ _ _ 9 [some (.ref 70), some (.int (lkM (sg g n p)))] [.int (nmI (sg g n p))] (E x Y)
                refine PW_if_lt c_M_operand_9 (fun h0 => ?_) (fun h0 => absurd (by rw [show nmI (sg g n p) = -1 from if_neg h1]; decide) h0)
                refine PW_iload_n c_M_operand_34 rfl ?_
                refine PW_bipush (v := 33) c_M_operand_35 (by decide) ?_
                refine PW_icmp_eq c_M_operand_37 (fun h1 => absurd h1 (fun w => n33 ((lkM_k (tpM_sg hT) (by decide) (k := 33)).mp w))) (fun h1 => ?_)
                refine PW_iload_n c_M_operand_40 rfl ?_
                refine PW_bipush (v := 45) c_M_operand_41 (by decide) ?_
                refine PW_icmp_ne c_M_operand_43 (fun h2 => ?_) (fun h2 => absurd h2 (fun w => n45 ((lkM_k (tpM_sg hT) (by decide) (k := 45)).mp w)))
                refine PW_iload_n c_M_operand_87 rfl ?_
                refine PW_bipush (v := 40) c_M_operand_88 (by decide) ?_
                refine PW_icmp_ne c_M_operand_90 (fun h3 => absurd h3 (not_not_intro ((lkM_k (tpM_sg hT) (by decide) (k := 40)).mpr e))) (fun h3 => ?_)
                refine PW_aload_n c_M_operand_93 rfl ?_
                refine PW_V0 (d2 := 1) (st := []) [] c_M_operand_94 lk_M_operand_212 (po_70 _ _) rfl rfl rfl (Nat.le_of_ble_eq_true rfl) (by first | decide | omega) (Nat.le_of_ble_eq_true rfl) ?_
                show PW _ _ _ 0 [some (.ref 70)] [] (E x Y)
                refine PW_aload_n c_M_opens_0 rfl ?_
                refine PW_get (v := .int (Y.1 580)) c_M_opens_1 fl_M_194 (gf_70_20 _ _) ?_
                rw [hO]
                show PW _ _ _ 4 [some (.ref 70)] [.int (nI o)] (E x Y)
                refine PW_bipush (v := 6) c_M_opens_4 (by decide) ?_
                refine PW_icmp_ne c_M_opens_6 (fun h4 => ?_) (fun h4 => absurd h4 (fun w => absurd ((nI_eq (by omega) (by decide)).mp (show nI o = nI 6 from w)) (by omega)))
                refine PW_aload_n c_M_opens_15 rfl ?_
                refine PW_dup c_M_opens_16 rfl ?_
                refine PW_get (v := .int (Y.1 580)) c_M_opens_17 fl_M_194 (gf_70_20 _ _) ?_
                rw [hO]
                show PW _ _ _ 20 [some (.ref 70)] [.int (nI o), .ref 70] (E x Y)
                refine PW_iconst (v := 1) c_M_opens_20 (by decide) ?_
                refine PW_iadd c_M_opens_21 ?_
                refine PW_put (w2 := E x (sI Y 580 ((nI o) + 1))) c_M_opens_22 fp_M_opens_194 rfl (pf_70_20 _ _ _) ?_
                rw [nI_1 (o)]
                show PW _ _ _ 25 [some (.ref 70)] [] (E x (sI Y 580 (nI (o + 1))))
                refine PW_aload_n c_M_opens_25 rfl ?_
                refine PW_dup c_M_opens_26 rfl ?_
                refine PW_get (v := .int (Y.1 578)) c_M_opens_27 fl_M_185 (gf_70_18 _ _) ?_
                rw [hp]
                show PW _ _ _ 30 [some (.ref 70)] [.int (nI p), .ref 70] (E x (sI Y 580 (nI (o + 1))))
                refine PW_iconst (v := 1) c_M_opens_30 (by decide) ?_
                refine PW_iadd c_M_opens_31 ?_
                refine PW_put (w2 := E x (sI (sI Y 580 (nI (o + 1))) 578 ((nI p) + 1))) c_M_opens_32 fp_M_opens_185 rfl (pf_70_18 _ _ _) ?_
                rw [nI_1 p]
                show PW _ _ _ 35 [some (.ref 70)] [] (E x (sI (sI Y 580 (nI (o + 1))) 578 (nI (p + 1))))
                refine PW_iconst (v := 1) c_M_opens_35 (by decide) ?_
                refine PW_ireturn (ty := .boolean) c_M_opens_36 rfl (by decide +kernel) ?_
                show PW _ _ _ 97 [some (.ref 70), some (.int (lkM (sg g n p)))] [.int 1] (E x (sI (sI Y 580 (nI (o + 1))) 578 (nI (p + 1))))
                refine PW_if_ne c_M_operand_97 (fun _ => ?_) (fun h5 => absurd h5 (by decide))
                refine PW_aload_n c_M_operand_101 rfl ?_
                refine PW_V0 (d2 := fu + 1) (st := []) [] c_M_operand_102 lk_M_operand_219 (po_70 _ _) rfl rfl rfl (Nat.le_of_ble_eq_true rfl) (by first | decide | omega) (Nat.le_of_ble_eq_true rfl) ?_
                refine H0 ?_
                show PW _ _ _ 105 [some (.ref 70), some (.int (lkM (sg g n p)))] [] (E x Y0)
                refine PW_aload_n c_M_operand_105 rfl ?_
                refine PW_get (v := .int (Y0.1 579)) c_M_operand_106 fl_M_188 (gf_70_19 _ _) ?_
                rw [b0]
                show PW _ _ _ 109 [some (.ref 70), some (.int (lkM (sg g n p)))] [.int (-1)] (E x Y0)
                refine PW_if_lt c_M_operand_109 (fun _ => ?_) (fun h6 => absurd (by decide) h6)
                refine PW_aload_n c_M_operand_113 rfl ?_
                refine PW_V0 (d2 := 0) (st := []) [] c_M_operand_114 lk_M_operand_200 (po_70 _ _) rfl rfl rfl (Nat.le_of_ble_eq_true rfl) (by first | decide | omega) (Nat.le_of_ble_eq_true rfl) ?_
                refine sp_M_look (tpM_fr hT (frM_t fP f0)) p0 w0n ?_
                show PW _ _ _ 117 [some (.ref 70), some (.int (lkM (sg g n p)))] [.int (lkM (sg g n (pF g n fu 0 (o + 1) (p + 1)).2.1))] (E x Y0)
                refine PW_bipush (v := 41) c_M_operand_117 (by decide) ?_
                refine PW_icmp_eq c_M_operand_119 (fun h7 => absurd h7 (fun w => c41 ((lkM_k (tpM_sg hT) (by decide) (k := 41)).mp w))) (fun h7 => ?_)
                refine PW_aload_n c_M_operand_122 rfl ?_
                refine PW_V0 (d2 := 0) (st := []) [] c_M_operand_123 lk_M_operand_197 (po_70 _ _) rfl rfl rfl (Nat.le_of_ble_eq_true rfl) (by first | decide | omega) (Nat.le_of_ble_eq_true rfl) ?_
                show PW _ _ _ 0 [some (.ref 70)] [] (E x Y0)
                refine PW_aload_n c_M_faulty_0 rfl ?_
                refine PW_get (v := .int (Y0.1 579)) c_M_faulty_1 fl_M_188 (gf_70_19 _ _) ?_
                rw [b0]
                show PW _ _ _ 4 [some (.ref 70)] [.int (-1)] (E x Y0)
                refine PW_if_ge c_M_faulty_4 (fun h8 => absurd h8 (by decide)) (fun _ => ?_)
                refine PW_aload_n c_M_faulty_7 rfl ?_
                refine PW_aload_n c_M_faulty_8 rfl ?_
                refine PW_get (v := .int (Y0.1 578)) c_M_faulty_9 fl_M_185 (gf_70_18 _ _) ?_
                rw [p0]
                show PW _ _ _ 12 [some (.ref 70)] [.int (nI (pF g n fu 0 (o + 1) (p + 1)).2.1), .ref 70] (E x Y0)
                refine PW_put (w2 := E x (sI Y0 579 (nI (pF g n fu 0 (o + 1) (p + 1)).2.1))) c_M_faulty_12 fp_M_faulty_188 rfl (pf_70_19 _ _ _) ?_
                refine PW_vreturn c_M_faulty_15 rfl ?_
                show PW _ _ _ 126 [some (.ref 70), some (.int (lkM (sg g n p)))] [] (E x (sI Y0 579 (nI (pF g n fu 0 (o + 1) (p + 1)).2.1)))
                refine PW_vreturn c_M_operand_126 rfl ?_
                exact h
            · rw [if_neg (fun w => by have := r0 w.1; unfold isD at this; omega)]
              refine ⟨Y0, ⟨frM_t fP f0, u0, p0, Or.inr ⟨fun w => Bool.noConfusion w, b0, l0, s0, hk0, by show l0 + p ≤ k + (pF g n fu 0 (o + 1) (p + 1)).2.1 + 1; omega⟩⟩, fun {x z post} h => ?_⟩
              refine PW_aload_n c_M_operand_0 rfl ?_
              refine PW_V0 (d2 := 0) (st := []) [] c_M_operand_1 lk_M_operand_200 (po_70 _ _) rfl rfl rfl (Nat.le_of_ble_eq_true rfl) (by first | decide | omega) (Nat.le_of_ble_eq_true rfl) ?_
              refine sp_M_look hT hp hpn ?_
              show PW _ _ _ 4 [some (.ref 70), none] [.int (lkM (sg g n p))] (E x Y)
              refine PW_istore_n (i := 1) (L2 := [some (.ref 70), some (.int (lkM (sg g n p)))]) c_M_operand_4 rfl (Nat.le_of_ble_eq_true rfl) rfl rfl ?_
              refine PW_iload_n c_M_operand_5 rfl ?_
              refine PW_S0 (d2 := 0) (st := []) [.int (lkM (sg g n p))] c_M_operand_6 lk_M_operand_208 rfl rfl rfl (Nat.le_of_ble_eq_true rfl) (by first | decide | omega) (Nat.le_of_ble_eq_true rfl) ?_
              refine sp_M_nameOf (tpM_sg hT) ?_
              show PW _ _ _ 9 [some (.ref 70), some (.int (lkM (sg g n p)))] [.int (nmI (sg g n p))] (E x Y)
              refine PW_if_lt c_M_operand_9 (fun h0 => ?_) (fun h0 => absurd (by rw [show nmI (sg g n p) = -1 from if_neg h1]; decide) h0)
              refine PW_iload_n c_M_operand_34 rfl ?_
              refine PW_bipush (v := 33) c_M_operand_35 (by decide) ?_
              refine PW_icmp_eq c_M_operand_37 (fun h1 => absurd h1 (fun w => n33 ((lkM_k (tpM_sg hT) (by decide) (k := 33)).mp w))) (fun h1 => ?_)
              refine PW_iload_n c_M_operand_40 rfl ?_
              refine PW_bipush (v := 45) c_M_operand_41 (by decide) ?_
              refine PW_icmp_ne c_M_operand_43 (fun h2 => ?_) (fun h2 => absurd h2 (fun w => n45 ((lkM_k (tpM_sg hT) (by decide) (k := 45)).mp w)))
              refine PW_iload_n c_M_operand_87 rfl ?_
              refine PW_bipush (v := 40) c_M_operand_88 (by decide) ?_
              refine PW_icmp_ne c_M_operand_90 (fun h3 => absurd h3 (not_not_intro ((lkM_k (tpM_sg hT) (by decide) (k := 40)).mpr e))) (fun h3 => ?_)
              refine PW_aload_n c_M_operand_93 rfl ?_
              refine PW_V0 (d2 := 1) (st := []) [] c_M_operand_94 lk_M_operand_212 (po_70 _ _) rfl rfl rfl (Nat.le_of_ble_eq_true rfl) (by first | decide | omega) (Nat.le_of_ble_eq_true rfl) ?_
              show PW _ _ _ 0 [some (.ref 70)] [] (E x Y)
              refine PW_aload_n c_M_opens_0 rfl ?_
              refine PW_get (v := .int (Y.1 580)) c_M_opens_1 fl_M_194 (gf_70_20 _ _) ?_
              rw [hO]
              show PW _ _ _ 4 [some (.ref 70)] [.int (nI o)] (E x Y)
              refine PW_bipush (v := 6) c_M_opens_4 (by decide) ?_
              refine PW_icmp_ne c_M_opens_6 (fun h4 => ?_) (fun h4 => absurd h4 (fun w => absurd ((nI_eq (by omega) (by decide)).mp (show nI o = nI 6 from w)) (by omega)))
              refine PW_aload_n c_M_opens_15 rfl ?_
              refine PW_dup c_M_opens_16 rfl ?_
              refine PW_get (v := .int (Y.1 580)) c_M_opens_17 fl_M_194 (gf_70_20 _ _) ?_
              rw [hO]
              show PW _ _ _ 20 [some (.ref 70)] [.int (nI o), .ref 70] (E x Y)
              refine PW_iconst (v := 1) c_M_opens_20 (by decide) ?_
              refine PW_iadd c_M_opens_21 ?_
              refine PW_put (w2 := E x (sI Y 580 ((nI o) + 1))) c_M_opens_22 fp_M_opens_194 rfl (pf_70_20 _ _ _) ?_
              rw [nI_1 (o)]
              show PW _ _ _ 25 [some (.ref 70)] [] (E x (sI Y 580 (nI (o + 1))))
              refine PW_aload_n c_M_opens_25 rfl ?_
              refine PW_dup c_M_opens_26 rfl ?_
              refine PW_get (v := .int (Y.1 578)) c_M_opens_27 fl_M_185 (gf_70_18 _ _) ?_
              rw [hp]
              show PW _ _ _ 30 [some (.ref 70)] [.int (nI p), .ref 70] (E x (sI Y 580 (nI (o + 1))))
              refine PW_iconst (v := 1) c_M_opens_30 (by decide) ?_
              refine PW_iadd c_M_opens_31 ?_
              refine PW_put (w2 := E x (sI (sI Y 580 (nI (o + 1))) 578 ((nI p) + 1))) c_M_opens_32 fp_M_opens_185 rfl (pf_70_18 _ _ _) ?_
              rw [nI_1 p]
              show PW _ _ _ 35 [some (.ref 70)] [] (E x (sI (sI Y 580 (nI (o + 1))) 578 (nI (p + 1))))
              refine PW_iconst (v := 1) c_M_opens_35 (by decide) ?_
              refine PW_ireturn (ty := .boolean) c_M_opens_36 rfl (by decide +kernel) ?_
              show PW _ _ _ 97 [some (.ref 70), some (.int (lkM (sg g n p)))] [.int 1] (E x (sI (sI Y 580 (nI (o + 1))) 578 (nI (p + 1))))
              refine PW_if_ne c_M_operand_97 (fun _ => ?_) (fun h5 => absurd h5 (by decide))
              refine PW_aload_n c_M_operand_101 rfl ?_
              refine PW_V0 (d2 := fu + 1) (st := []) [] c_M_operand_102 lk_M_operand_219 (po_70 _ _) rfl rfl rfl (Nat.le_of_ble_eq_true rfl) (by first | decide | omega) (Nat.le_of_ble_eq_true rfl) ?_
              refine H0 ?_
              show PW _ _ _ 105 [some (.ref 70), some (.int (lkM (sg g n p)))] [] (E x Y0)
              refine PW_aload_n c_M_operand_105 rfl ?_
              refine PW_get (v := .int (Y0.1 579)) c_M_operand_106 fl_M_188 (gf_70_19 _ _) ?_
              rw [b0]
              show PW _ _ _ 109 [some (.ref 70), some (.int (lkM (sg g n p)))] [.int (nI (pF g n fu 0 (o + 1) (p + 1)).2.1)] (E x Y0)
              refine PW_if_lt c_M_operand_109 (fun h6 => absurd h6 (nI_pos (by omega))) (fun h6 => ?_)
              refine PW_vreturn c_M_operand_112 rfl ?_
              exact h
          · have n40 : ¬ sg g n p = 40 := by omega
            rw [if_neg (show ¬ sg g n p = 40 by omega)]
            obtain ⟨Y5, ⟨f5, u5, p5, c5⟩, H5⟩ := ih5 (o + 1) (p + 1) k (sI (sI Y 580 (nI (o + 1))) 578 (nI (p + 1))) (by omega) (by omega) (tpM_fr hT fP) sI_s hFP hOP hSP hp2 (by omega)
            have w5 := pF_p (g := g) fu 5 (o + 1) (p + 1) hp2
            have w5n := w5.2.1
            have w5p := w5.1
            rcases c5 with ⟨r5, b5, o5, s5, v5⟩ | ⟨r5, b5, l5, s5, hk5, hl5⟩
            · obtain ⟨z4, z5, z6, z7⟩ := w5.2.2 r5
              rw [if_pos r5]
              refine ⟨adS (sI Y5 580 (nI o)) (k + (pF g n fu 5 (o + 1) (p + 1)).2.2.length) (nI 3) 0, ⟨frM_t (frM_t (frM_t fP f5) (frM_i (by decide))) frM_a, ?_, (adS_1 (by decide)).trans ((sI_n (by decide)).trans p5), Or.inl ⟨rfl, (adS_1 (by decide)).trans ((sI_n (by decide)).trans b5), (adS_1 (by decide)).trans sI_s, ?_, ?_⟩⟩, fun {x z post} h => ?_⟩
              · rw [adS_84, adS_85]
                exact lowA_t u5 (lowA_u (Nat.le_refl (130 + (k + (pF g n fu 5 (o + 1) (p + 1)).2.2.length)))) (by omega)
              · refine adS_s.trans ?_
                rw [List.length_append, List.length_singleton]
                exact congrArg nI (by omega)
              · rw [adS_84, adS_85, List.map_append, List.map_singleton]
                rw [show stM (if sg g n p = 45 then 4 else 3, 0) = (nI 3, 0) from by rw [e]; rfl]
                exact wrA_snoc (by rw [List.length_map]; omega) v5
              · skip
                refine PW_aload_n c_M_operand_0 rfl ?_
                refine PW_V0 (d2 := 0) (st := []) [] c_M_operand_1 lk_M_operand_200 (po_70 _ _) rfl rfl rfl (Nat.le_of_ble_eq_true rfl) (by first | decide | omega) (Nat.le_of_ble_eq_true rfl) ?_
                refine sp_M_look hT hp hpn ?_
                show PW _ _ _ 4 [some (.ref 70), none] [.int (lkM (sg g n p))] (E x Y)
                refine PW_istore_n (i := 1) (L2 := [some (.ref 70), some (.int (lkM (sg g n p)))]) c_M_operand_4 rfl (Nat.le_of_ble_eq_true rfl) rfl rfl ?_
                refine PW_iload_n c_M_operand_5 rfl ?_
                refine PW_S0 (d2 := 0) (st := []) [.int (lkM (sg g n p))] c_M_operand_6 lk_M_operand_208 rfl rfl rfl (Nat.le_of_ble_eq_true rfl) (by first | decide | omega) (Nat.le_of_ble_eq_true rfl) ?_
                refine sp_M_nameOf (tpM_sg hT) ?_
                show PW _ _ _ 9 [some (.ref 70), some (.int (lkM (sg g n p)))] [.int (nmI (sg g n p))] (E x Y)
                refine PW_if_lt c_M_operand_9 (fun h0 => ?_) (fun h0 => absurd (by rw [show nmI (sg g n p) = -1 from if_neg h1]; decide) h0)
                refine PW_iload_n c_M_operand_34 rfl ?_
                refine PW_bipush (v := 33) c_M_operand_35 (by decide) ?_
                refine PW_icmp_eq c_M_operand_37 (fun h1 => ?_) (fun h1 => absurd ((lkM_k (tpM_sg hT) (by decide) (k := 33)).mpr e) h1)
                refine PW_aload_n c_M_operand_46 rfl ?_
                refine PW_V0 (d2 := 1) (st := []) [] c_M_operand_47 lk_M_operand_212 (po_70 _ _) rfl rfl rfl (Nat.le_of_ble_eq_true rfl) (by first | decide | omega) (Nat.le_of_ble_eq_true rfl) ?_
                show PW _ _ _ 0 [some (.ref 70)] [] (E x Y)
                refine PW_aload_n c_M_opens_0 rfl ?_
                refine PW_get (v := .int (Y.1 580)) c_M_opens_1 fl_M_194 (gf_70_20 _ _) ?_
                rw [hO]
                show PW _ _ _ 4 [some (.ref 70)] [.int (nI o)] (E x Y)
                refine PW_bipush (v := 6) c_M_opens_4 (by decide) ?_
                refine PW_icmp_ne c_M_opens_6 (fun h2 => ?_) (fun h2 => absurd h2 (fun w => absurd ((nI_eq (by omega) (by decide)).mp (show nI o = nI 6 from w)) (by omega)))
                refine PW_aload_n c_M_opens_15 rfl ?_
                refine PW_dup c_M_opens_16 rfl ?_
                refine PW_get (v := .int (Y.1 580)) c_M_opens_17 fl_M_194 (gf_70_20 _ _) ?_
                rw [hO]
                show PW _ _ _ 20 [some (.ref 70)] [.int (nI o), .ref 70] (E x Y)
                refine PW_iconst (v := 1) c_M_opens_20 (by decide) ?_
                refine PW_iadd c_M_opens_21 ?_
                refine PW_put (w2 := E x (sI Y 580 ((nI o) + 1))) c_M_opens_22 fp_M_opens_194 rfl (pf_70_20 _ _ _) ?_
                rw [nI_1 (o)]
                show PW _ _ _ 25 [some (.ref 70)] [] (E x (sI Y 580 (nI (o + 1))))
                refine PW_aload_n c_M_opens_25 rfl ?_
                refine PW_dup c_M_opens_26 rfl ?_
                refine PW_get (v := .int (Y.1 578)) c_M_opens_27 fl_M_185 (gf_70_18 _ _) ?_
                rw [hp]
                show PW _ _ _ 30 [some (.ref 70)] [.int (nI p), .ref 70] (E x (sI Y 580 (nI (o + 1))))
                refine PW_iconst (v := 1) c_M_opens_30 (by decide) ?_
                refine PW_iadd c_M_opens_31 ?_
                refine PW_put (w2 := E x (sI (sI Y 580 (nI (o + 1))) 578 ((nI p) + 1))) c_M_opens_32 fp_M_opens_185 rfl (pf_70_18 _ _ _) ?_
                rw [nI_1 p]
                show PW _ _ _ 35 [some (.ref 70)] [] (E x (sI (sI Y 580 (nI (o + 1))) 578 (nI (p + 1))))
                refine PW_iconst (v := 1) c_M_opens_35 (by decide) ?_
                refine PW_ireturn (ty := .boolean) c_M_opens_36 rfl (by decide +kernel) ?_
                show PW _ _ _ 50 [some (.ref 70), some (.int (lkM (sg g n p)))] [.int 1] (E x (sI (sI Y 580 (nI (o + 1))) 578 (nI (p + 1))))
                refine PW_if_ne c_M_operand_50 (fun _ => ?_) (fun h3 => absurd h3 (by decide))
                refine PW_aload_n c_M_operand_54 rfl ?_
                refine PW_V0 (d2 := fu + 1) (st := []) [] c_M_operand_55 lk_M_operand_216 (po_70 _ _) rfl rfl rfl (Nat.le_of_ble_eq_true rfl) (by first | decide | omega) (Nat.le_of_ble_eq_true rfl) ?_
                refine H5 ?_
                show PW _ _ _ 58 [some (.ref 70), some (.int (lkM (sg g n p)))] [] (E x Y5)
                refine PW_aload_n c_M_operand_58 rfl ?_
                refine PW_dup c_M_operand_59 rfl ?_
                refine PW_get (v := .int (Y5.1 580)) c_M_operand_60 fl_M_194 (gf_70_20 _ _) ?_
                rw [o5]
                show PW _ _ _ 63 [some (.ref 70), some (.int (lkM (sg g n p)))] [.int (nI (o + 1)), .ref 70] (E x Y5)
                refine PW_iconst (v := 1) c_M_operand_63 (by decide) ?_
                refine PW_isub c_M_operand_64 ?_
                refine PW_put (w2 := E x (sI Y5 580 ((nI (o + 1)) - 1))) c_M_operand_65 fp_M_operand_194 rfl (pf_70_20 _ _ _) ?_
                rw [nI_pred o]
                show PW _ _ _ 68 [some (.ref 70), some (.int (lkM (sg g n p)))] [] (E x (sI Y5 580 (nI o)))
                refine PW_aload_n c_M_operand_68 rfl ?_
                refine PW_iload_n c_M_operand_69 rfl ?_
                refine PW_bipush (v := 33) c_M_operand_70 (by decide) ?_
                refine PW_icmp_ne c_M_operand_72 (fun h4 => absurd h4 (not_not_intro ((lkM_k (tpM_sg hT) (by decide) (k := 33)).mpr e))) (fun h4 => ?_)
                refine PW_iconst (v := 3) c_M_operand_75 (by decide) ?_
                refine PW_goto c_M_operand_76 ?_
                refine PW_iconst (v := 0) c_M_operand_80 (by decide) ?_
                refine PW_V0 (d2 := 0) (st := []) [.int 3, .int 0] c_M_operand_81 lk_M_operand_204 (po_70 _ _) rfl rfl rfl (Nat.le_of_ble_eq_true rfl) (by first | decide | omega) (Nat.le_of_ble_eq_true rfl) ?_
                refine sp_M_addStep (Y := sI Y5 580 (nI o)) (a := 3) (k := (k + (pF g n fu 5 (o + 1) (p + 1)).2.2.length)) rfl (by decide) ((sI_n (by decide)).trans s5) (by omega) ?_
                show PW _ _ _ 84 [some (.ref 70), some (.int (lkM (sg g n p)))] [] (E x (adS (sI Y5 580 (nI o)) (k + (pF g n fu 5 (o + 1) (p + 1)).2.2.length) (nI 3) 0))
                refine PW_goto c_M_operand_84 ?_
                refine PW_vreturn c_M_operand_154 rfl ?_
                exact h
            · refine ⟨adS (sI Y5 580 (Y5.1 580 - 1)) l5 (nI 3) 0, ⟨frM_t (frM_t (frM_t fP f5) (frM_i (by decide))) frM_a, ?_, ?_, Or.inr ?_⟩, fun {x z post} h => ?_⟩
              · rw [adS_84, adS_85]
                exact lowA_t u5 (lowA_u (Nat.le_refl (130 + l5))) (by omega)
              · by_cases r : (pF g n fu 5 (o + 1) (p + 1)).1 = true
                · rw [if_pos r]; exact (adS_1 (by decide)).trans ((sI_n (by decide)).trans p5)
                · rw [if_neg r]; exact (adS_1 (by decide)).trans ((sI_n (by decide)).trans p5)
              · by_cases r : (pF g n fu 5 (o + 1) (p + 1)).1 = true
                · rw [if_pos r]; exact ⟨fun _ => r5 r, (adS_1 (by decide)).trans ((sI_n (by decide)).trans b5), l5 + 1, adS_s, by omega, by show l5 + 1 + p ≤ k + (pF g n fu 5 (o + 1) (p + 1)).2.1 + 1; omega⟩
                · rw [if_neg r]; exact ⟨fun w => Bool.noConfusion w, (adS_1 (by decide)).trans ((sI_n (by decide)).trans b5), l5 + 1, adS_s, by omega, by show l5 + 1 + p ≤ k + (pF g n fu 5 (o + 1) (p + 1)).2.1 + 1; omega⟩
              · skip
                refine PW_aload_n c_M_operand_0 rfl ?_
                refine PW_V0 (d2 := 0) (st := []) [] c_M_operand_1 lk_M_operand_200 (po_70 _ _) rfl rfl rfl (Nat.le_of_ble_eq_true rfl) (by first | decide | omega) (Nat.le_of_ble_eq_true rfl) ?_
                refine sp_M_look hT hp hpn ?_
                show PW _ _ _ 4 [some (.ref 70), none] [.int (lkM (sg g n p))] (E x Y)
                refine PW_istore_n (i := 1) (L2 := [some (.ref 70), some (.int (lkM (sg g n p)))]) c_M_operand_4 rfl (Nat.le_of_ble_eq_true rfl) rfl rfl ?_
                refine PW_iload_n c_M_operand_5 rfl ?_
                refine PW_S0 (d2 := 0) (st := []) [.int (lkM (sg g n p))] c_M_operand_6 lk_M_operand_208 rfl rfl rfl (Nat.le_of_ble_eq_true rfl) (by first | decide | omega) (Nat.le_of_ble_eq_true rfl) ?_
                refine sp_M_nameOf (tpM_sg hT) ?_
                show PW _ _ _ 9 [some (.ref 70), some (.int (lkM (sg g n p)))] [.int (nmI (sg g n p))] (E x Y)
                refine PW_if_lt c_M_operand_9 (fun h0 => ?_) (fun h0 => absurd (by rw [show nmI (sg g n p) = -1 from if_neg h1]; decide) h0)
                refine PW_iload_n c_M_operand_34 rfl ?_
                refine PW_bipush (v := 33) c_M_operand_35 (by decide) ?_
                refine PW_icmp_eq c_M_operand_37 (fun h1 => ?_) (fun h1 => absurd ((lkM_k (tpM_sg hT) (by decide) (k := 33)).mpr e) h1)
                refine PW_aload_n c_M_operand_46 rfl ?_
                refine PW_V0 (d2 := 1) (st := []) [] c_M_operand_47 lk_M_operand_212 (po_70 _ _) rfl rfl rfl (Nat.le_of_ble_eq_true rfl) (by first | decide | omega) (Nat.le_of_ble_eq_true rfl) ?_
                show PW _ _ _ 0 [some (.ref 70)] [] (E x Y)
                refine PW_aload_n c_M_opens_0 rfl ?_
                refine PW_get (v := .int (Y.1 580)) c_M_opens_1 fl_M_194 (gf_70_20 _ _) ?_
                rw [hO]
                show PW _ _ _ 4 [some (.ref 70)] [.int (nI o)] (E x Y)
                refine PW_bipush (v := 6) c_M_opens_4 (by decide) ?_
                refine PW_icmp_ne c_M_opens_6 (fun h2 => ?_) (fun h2 => absurd h2 (fun w => absurd ((nI_eq (by omega) (by decide)).mp (show nI o = nI 6 from w)) (by omega)))
                refine PW_aload_n c_M_opens_15 rfl ?_
                refine PW_dup c_M_opens_16 rfl ?_
                refine PW_get (v := .int (Y.1 580)) c_M_opens_17 fl_M_194 (gf_70_20 _ _) ?_
                rw [hO]
                show PW _ _ _ 20 [some (.ref 70)] [.int (nI o), .ref 70] (E x Y)
                refine PW_iconst (v := 1) c_M_opens_20 (by decide) ?_
                refine PW_iadd c_M_opens_21 ?_
                refine PW_put (w2 := E x (sI Y 580 ((nI o) + 1))) c_M_opens_22 fp_M_opens_194 rfl (pf_70_20 _ _ _) ?_
                rw [nI_1 (o)]
                show PW _ _ _ 25 [some (.ref 70)] [] (E x (sI Y 580 (nI (o + 1))))
                refine PW_aload_n c_M_opens_25 rfl ?_
                refine PW_dup c_M_opens_26 rfl ?_
                refine PW_get (v := .int (Y.1 578)) c_M_opens_27 fl_M_185 (gf_70_18 _ _) ?_
                rw [hp]
                show PW _ _ _ 30 [some (.ref 70)] [.int (nI p), .ref 70] (E x (sI Y 580 (nI (o + 1))))
                refine PW_iconst (v := 1) c_M_opens_30 (by decide) ?_
                refine PW_iadd c_M_opens_31 ?_
                refine PW_put (w2 := E x (sI (sI Y 580 (nI (o + 1))) 578 ((nI p) + 1))) c_M_opens_32 fp_M_opens_185 rfl (pf_70_18 _ _ _) ?_
                rw [nI_1 p]
                show PW _ _ _ 35 [some (.ref 70)] [] (E x (sI (sI Y 580 (nI (o + 1))) 578 (nI (p + 1))))
                refine PW_iconst (v := 1) c_M_opens_35 (by decide) ?_
                refine PW_ireturn (ty := .boolean) c_M_opens_36 rfl (by decide +kernel) ?_
                show PW _ _ _ 50 [some (.ref 70), some (.int (lkM (sg g n p)))] [.int 1] (E x (sI (sI Y 580 (nI (o + 1))) 578 (nI (p + 1))))
                refine PW_if_ne c_M_operand_50 (fun _ => ?_) (fun h3 => absurd h3 (by decide))
                refine PW_aload_n c_M_operand_54 rfl ?_
                refine PW_V0 (d2 := fu + 1) (st := []) [] c_M_operand_55 lk_M_operand_216 (po_70 _ _) rfl rfl rfl (Nat.le_of_ble_eq_true rfl) (by first | decide | omega) (Nat.le_of_ble_eq_true rfl) ?_
                refine H5 ?_
                show PW _ _ _ 58 [some (.ref 70), some (.int (lkM (sg g n p)))] [] (E x Y5)
                refine PW_aload_n c_M_operand_58 rfl ?_
                refine PW_dup c_M_operand_59 rfl ?_
                refine PW_get (v := .int (Y5.1 580)) c_M_operand_60 fl_M_194 (gf_70_20 _ _) ?_
                refine PW_iconst (v := 1) c_M_operand_63 (by decide) ?_
                refine PW_isub c_M_operand_64 ?_
                refine PW_put (w2 := E x (sI Y5 580 ((Y5.1 580) - 1))) c_M_operand_65 fp_M_operand_194 rfl (pf_70_20 _ _ _) ?_
                refine PW_aload_n c_M_operand_68 rfl ?_
                refine PW_iload_n c_M_operand_69 rfl ?_
                refine PW_bipush (v := 33) c_M_operand_70 (by decide) ?_
                refine PW_icmp_ne c_M_operand_72 (fun h4 => absurd h4 (not_not_intro ((lkM_k (tpM_sg hT) (by decide) (k := 33)).mpr e))) (fun h4 => ?_)
                refine PW_iconst (v := 3) c_M_operand_75 (by decide) ?_
                refine PW_goto c_M_operand_76 ?_
                refine PW_iconst (v := 0) c_M_operand_80 (by decide) ?_
                refine PW_V0 (d2 := 0) (st := []) [.int 3, .int 0] c_M_operand_81 lk_M_operand_204 (po_70 _ _) rfl rfl rfl (Nat.le_of_ble_eq_true rfl) (by first | decide | omega) (Nat.le_of_ble_eq_true rfl) ?_
                refine sp_M_addStep (Y := sI Y5 580 (Y5.1 580 - 1)) (a := 3) (k := l5) rfl (by decide) ((sI_n (by decide)).trans s5) (by omega) ?_
                show PW _ _ _ 84 [some (.ref 70), some (.int (lkM (sg g n p)))] [] (E x (adS (sI Y5 580 (Y5.1 580 - 1)) l5 (nI 3) 0))
                refine PW_goto c_M_operand_84 ?_
                refine PW_vreturn c_M_operand_154 rfl ?_
                exact h
          · have n33 : ¬ sg g n p = 33 := by omega
            have n40 : ¬ sg g n p = 40 := by omega
            rw [if_neg (show ¬ sg g n p = 40 by omega)]
            obtain ⟨Y5, ⟨f5, u5, p5, c5⟩, H5⟩ := ih5 (o + 1) (p + 1) k (sI (sI Y 580 (nI (o + 1))) 578 (nI (p + 1))) (by omega) (by omega) (tpM_fr hT fP) sI_s hFP hOP hSP hp2 (by omega)
            have w5 := pF_p (g := g) fu 5 (o + 1) (p + 1) hp2
            have w5n := w5.2.1
            have w5p := w5.1
            rcases c5 with ⟨r5, b5, o5, s5, v5⟩ | ⟨r5, b5, l5, s5, hk5, hl5⟩
            · obtain ⟨z4, z5, z6, z7⟩ := w5.2.2 r5
              rw [if_pos r5]
              refine ⟨adS (sI Y5 580 (nI o)) (k + (pF g n fu 5 (o + 1) (p + 1)).2.2.length) (nI 4) 0, ⟨frM_t (frM_t (frM_t fP f5) (frM_i (by decide))) frM_a, ?_, (adS_1 (by decide)).trans ((sI_n (by decide)).trans p5), Or.inl ⟨rfl, (adS_1 (by decide)).trans ((sI_n (by decide)).trans b5), (adS_1 (by decide)).trans sI_s, ?_, ?_⟩⟩, fun {x z post} h => ?_⟩
              · rw [adS_84, adS_85]
                exact lowA_t u5 (lowA_u (Nat.le_refl (130 + (k + (pF g n fu 5 (o + 1) (p + 1)).2.2.length)))) (by omega)
              · refine adS_s.trans ?_
                rw [List.length_append, List.length_singleton]
                exact congrArg nI (by omega)
              · rw [adS_84, adS_85, List.map_append, List.map_singleton]
                rw [show stM (if sg g n p = 45 then 4 else 3, 0) = (nI 4, 0) from by rw [e]; rfl]
                exact wrA_snoc (by rw [List.length_map]; omega) v5
              · skip
                refine PW_aload_n c_M_operand_0 rfl ?_
                refine PW_V0 (d2 := 0) (st := []) [] c_M_operand_1 lk_M_operand_200 (po_70 _ _) rfl rfl rfl (Nat.le_of_ble_eq_true rfl) (by first | decide | omega) (Nat.le_of_ble_eq_true rfl) ?_
                refine sp_M_look hT hp hpn ?_
                show PW _ _ _ 4 [some (.ref 70), none] [.int (lkM (sg g n p))] (E x Y)
                refine PW_istore_n (i := 1) (L2 := [some (.ref 70), some (.int (lkM (sg g n p)))]) c_M_operand_4 rfl (Nat.le_of_ble_eq_true rfl) rfl rfl ?_
                refine PW_iload_n c_M_operand_5 rfl ?_
                refine PW_S0 (d2 := 0) (st := []) [.int (lkM (sg g n p))] c_M_operand_6 lk_M_operand_208 rfl rfl rfl (Nat.le_of_ble_eq_true rfl) (by first | decide | omega) (Nat.le_of_ble_eq_true rfl) ?_
                refine sp_M_nameOf (tpM_sg hT) ?_
                show PW _ _ _ 9 [some (.ref 70), some (.int (lkM (sg g n p)))] [.int (nmI (sg g n p))] (E x Y)
                refine PW_if_lt c_M_operand_9 (fun h0 => ?_) (fun h0 => absurd (by rw [show nmI (sg g n p) = -1 from if_neg h1]; decide) h0)
                refine PW_iload_n c_M_operand_34 rfl ?_
                refine PW_bipush (v := 33) c_M_operand_35 (by decide) ?_
                refine PW_icmp_eq c_M_operand_37 (fun h1 => absurd h1 (fun w => n33 ((lkM_k (tpM_sg hT) (by decide) (k := 33)).mp w))) (fun h1 => ?_)
                refine PW_iload_n c_M_operand_40 rfl ?_
                refine PW_bipush (v := 45) c_M_operand_41 (by decide) ?_
                refine PW_icmp_ne c_M_operand_43 (fun h2 => absurd h2 (not_not_intro ((lkM_k (tpM_sg hT) (by decide) (k := 45)).mpr e))) (fun h2 => ?_)
                refine PW_aload_n c_M_operand_46 rfl ?_
                refine PW_V0 (d2 := 1) (st := []) [] c_M_operand_47 lk_M_operand_212 (po_70 _ _) rfl rfl rfl (Nat.le_of_ble_eq_true rfl) (by first | decide | omega) (Nat.le_of_ble_eq_true rfl) ?_
                show PW _ _ _ 0 [some (.ref 70)] [] (E x Y)
                refine PW_aload_n c_M_opens_0 rfl ?_
                refine PW_get (v := .int (Y.1 580)) c_M_opens_1 fl_M_194 (gf_70_20 _ _) ?_
                rw [hO]
                show PW _ _ _ 4 [some (.ref 70)] [.int (nI o)] (E x Y)
                refine PW_bipush (v := 6) c_M_opens_4 (by decide) ?_
                refine PW_icmp_ne c_M_opens_6 (fun h3 => ?_) (fun h3 => absurd h3 (fun w => absurd ((nI_eq (by omega) (by decide)).mp (show nI o = nI 6 from w)) (by omega)))
                refine PW_aload_n c_M_opens_15 rfl ?_
                refine PW_dup c_M_opens_16 rfl ?_
                refine PW_get (v := .int (Y.1 580)) c_M_opens_17 fl_M_194 (gf_70_20 _ _) ?_
                rw [hO]
                show PW _ _ _ 20 [some (.ref 70)] [.int (nI o), .ref 70] (E x Y)
                refine PW_iconst (v := 1) c_M_opens_20 (by decide) ?_
                refine PW_iadd c_M_opens_21 ?_
                refine PW_put (w2 := E x (sI Y 580 ((nI o) + 1))) c_M_opens_22 fp_M_opens_194 rfl (pf_70_20 _ _ _) ?_
                rw [nI_1 (o)]
                show PW _ _ _ 25 [some (.ref 70)] [] (E x (sI Y 580 (nI (o + 1))))
                refine PW_aload_n c_M_opens_25 rfl ?_
                refine PW_dup c_M_opens_26 rfl ?_
                refine PW_get (v := .int (Y.1 578)) c_M_opens_27 fl_M_185 (gf_70_18 _ _) ?_
                rw [hp]
                show PW _ _ _ 30 [some (.ref 70)] [.int (nI p), .ref 70] (E x (sI Y 580 (nI (o + 1))))
                refine PW_iconst (v := 1) c_M_opens_30 (by decide) ?_
                refine PW_iadd c_M_opens_31 ?_
                refine PW_put (w2 := E x (sI (sI Y 580 (nI (o + 1))) 578 ((nI p) + 1))) c_M_opens_32 fp_M_opens_185 rfl (pf_70_18 _ _ _) ?_
                rw [nI_1 p]
                show PW _ _ _ 35 [some (.ref 70)] [] (E x (sI (sI Y 580 (nI (o + 1))) 578 (nI (p + 1))))
                refine PW_iconst (v := 1) c_M_opens_35 (by decide) ?_
                refine PW_ireturn (ty := .boolean) c_M_opens_36 rfl (by decide +kernel) ?_
                show PW _ _ _ 50 [some (.ref 70), some (.int (lkM (sg g n p)))] [.int 1] (E x (sI (sI Y 580 (nI (o + 1))) 578 (nI (p + 1))))
                refine PW_if_ne c_M_operand_50 (fun _ => ?_) (fun h4 => absurd h4 (by decide))
                refine PW_aload_n c_M_operand_54 rfl ?_
                refine PW_V0 (d2 := fu + 1) (st := []) [] c_M_operand_55 lk_M_operand_216 (po_70 _ _) rfl rfl rfl (Nat.le_of_ble_eq_true rfl) (by first | decide | omega) (Nat.le_of_ble_eq_true rfl) ?_
                refine H5 ?_
                show PW _ _ _ 58 [some (.ref 70), some (.int (lkM (sg g n p)))] [] (E x Y5)
                refine PW_aload_n c_M_operand_58 rfl ?_
                refine PW_dup c_M_operand_59 rfl ?_
                refine PW_get (v := .int (Y5.1 580)) c_M_operand_60 fl_M_194 (gf_70_20 _ _) ?_
                rw [o5]
                show PW _ _ _ 63 [some (.ref 70), some (.int (lkM (sg g n p)))] [.int (nI (o + 1)), .ref 70] (E x Y5)
                refine PW_iconst (v := 1) c_M_operand_63 (by decide) ?_
                refine PW_isub c_M_operand_64 ?_
                refine PW_put (w2 := E x (sI Y5 580 ((nI (o + 1)) - 1))) c_M_operand_65 fp_M_operand_194 rfl (pf_70_20 _ _ _) ?_
                rw [nI_pred o]
                show PW _ _ _ 68 [some (.ref 70), some (.int (lkM (sg g n p)))] [] (E x (sI Y5 580 (nI o)))
                refine PW_aload_n c_M_operand_68 rfl ?_
                refine PW_iload_n c_M_operand_69 rfl ?_
                refine PW_bipush (v := 33) c_M_operand_70 (by decide) ?_
                refine PW_icmp_ne c_M_operand_72 (fun h5 => ?_) (fun h5 => absurd h5 (fun w => n33 ((lkM_k (tpM_sg hT) (by decide) (k := 33)).mp w)))
                refine PW_iconst (v := 4) c_M_operand_79 (by decide) ?_
                refine PW_iconst (v := 0) c_M_operand_80 (by decide) ?_
                refine PW_V0 (d2 := 0) (st := []) [.int 4, .int 0] c_M_operand_81 lk_M_operand_204 (po_70 _ _) rfl rfl rfl (Nat.le_of_ble_eq_true rfl) (by first | decide | omega) (Nat.le_of_ble_eq_true rfl) ?_
                refine sp_M_addStep (Y := sI Y5 580 (nI o)) (a := 4) (k := (k + (pF g n fu 5 (o + 1) (p + 1)).2.2.length)) rfl (by decide) ((sI_n (by decide)).trans s5) (by omega) ?_
                show PW _ _ _ 84 [some (.ref 70), some (.int (lkM (sg g n p)))] [] (E x (adS (sI Y5 580 (nI o)) (k + (pF g n fu 5 (o + 1) (p + 1)).2.2.length) (nI 4) 0))
                refine PW_goto c_M_operand_84 ?_
                refine PW_vreturn c_M_operand_154 rfl ?_
                exact h
            · refine ⟨adS (sI Y5 580 (Y5.1 580 - 1)) l5 (nI 4) 0, ⟨frM_t (frM_t (frM_t fP f5) (frM_i (by decide))) frM_a, ?_, ?_, Or.inr ?_⟩, fun {x z post} h => ?_⟩
              · rw [adS_84, adS_85]
                exact lowA_t u5 (lowA_u (Nat.le_refl (130 + l5))) (by omega)
              · by_cases r : (pF g n fu 5 (o + 1) (p + 1)).1 = true
                · rw [if_pos r]; exact (adS_1 (by decide)).trans ((sI_n (by decide)).trans p5)
                · rw [if_neg r]; exact (adS_1 (by decide)).trans ((sI_n (by decide)).trans p5)
              · by_cases r : (pF g n fu 5 (o + 1) (p + 1)).1 = true
                · rw [if_pos r]; exact ⟨fun _ => r5 r, (adS_1 (by decide)).trans ((sI_n (by decide)).trans b5), l5 + 1, adS_s, by omega, by show l5 + 1 + p ≤ k + (pF g n fu 5 (o + 1) (p + 1)).2.1 + 1; omega⟩
                · rw [if_neg r]; exact ⟨fun w => Bool.noConfusion w, (adS_1 (by decide)).trans ((sI_n (by decide)).trans b5), l5 + 1, adS_s, by omega, by show l5 + 1 + p ≤ k + (pF g n fu 5 (o + 1) (p + 1)).2.1 + 1; omega⟩
              · skip
                refine PW_aload_n c_M_operand_0 rfl ?_
                refine PW_V0 (d2 := 0) (st := []) [] c_M_operand_1 lk_M_operand_200 (po_70 _ _) rfl rfl rfl (Nat.le_of_ble_eq_true rfl) (by first | decide | omega) (Nat.le_of_ble_eq_true rfl) ?_
                refine sp_M_look hT hp hpn ?_
                show PW _ _ _ 4 [some (.ref 70), none] [.int (lkM (sg g n p))] (E x Y)
                refine PW_istore_n (i := 1) (L2 := [some (.ref 70), some (.int (lkM (sg g n p)))]) c_M_operand_4 rfl (Nat.le_of_ble_eq_true rfl) rfl rfl ?_
                refine PW_iload_n c_M_operand_5 rfl ?_
                refine PW_S0 (d2 := 0) (st := []) [.int (lkM (sg g n p))] c_M_operand_6 lk_M_operand_208 rfl rfl rfl (Nat.le_of_ble_eq_true rfl) (by first | decide | omega) (Nat.le_of_ble_eq_true rfl) ?_
                refine sp_M_nameOf (tpM_sg hT) ?_
                show PW _ _ _ 9 [some (.ref 70), some (.int (lkM (sg g n p)))] [.int (nmI (sg g n p))] (E x Y)
                refine PW_if_lt c_M_operand_9 (fun h0 => ?_) (fun h0 => absurd (by rw [show nmI (sg g n p) = -1 from if_neg h1]; decide) h0)
                refine PW_iload_n c_M_operand_34 rfl ?_
                refine PW_bipush (v := 33) c_M_operand_35 (by decide) ?_
                refine PW_icmp_eq c_M_operand_37 (fun h1 => absurd h1 (fun w => n33 ((lkM_k (tpM_sg hT) (by decide) (k := 33)).mp w))) (fun h1 => ?_)
                refine PW_iload_n c_M_operand_40 rfl ?_
                refine PW_bipush (v := 45) c_M_operand_41 (by decide) ?_
                refine PW_icmp_ne c_M_operand_43 (fun h2 => absurd h2 (not_not_intro ((lkM_k (tpM_sg hT) (by decide) (k := 45)).mpr e))) (fun h2 => ?_)
                refine PW_aload_n c_M_operand_46 rfl ?_
                refine PW_V0 (d2 := 1) (st := []) [] c_M_operand_47 lk_M_operand_212 (po_70 _ _) rfl rfl rfl (Nat.le_of_ble_eq_true rfl) (by first | decide | omega) (Nat.le_of_ble_eq_true rfl) ?_
                show PW _ _ _ 0 [some (.ref 70)] [] (E x Y)
                refine PW_aload_n c_M_opens_0 rfl ?_
                refine PW_get (v := .int (Y.1 580)) c_M_opens_1 fl_M_194 (gf_70_20 _ _) ?_
                rw [hO]
                show PW _ _ _ 4 [some (.ref 70)] [.int (nI o)] (E x Y)
                refine PW_bipush (v := 6) c_M_opens_4 (by decide) ?_
                refine PW_icmp_ne c_M_opens_6 (fun h3 => ?_) (fun h3 => absurd h3 (fun w => absurd ((nI_eq (by omega) (by decide)).mp (show nI o = nI 6 from w)) (by omega)))
                refine PW_aload_n c_M_opens_15 rfl ?_
                refine PW_dup c_M_opens_16 rfl ?_
                refine PW_get (v := .int (Y.1 580)) c_M_opens_17 fl_M_194 (gf_70_20 _ _) ?_
                rw [hO]
                show PW _ _ _ 20 [some (.ref 70)] [.int (nI o), .ref 70] (E x Y)
                refine PW_iconst (v := 1) c_M_opens_20 (by decide) ?_
                refine PW_iadd c_M_opens_21 ?_
                refine PW_put (w2 := E x (sI Y 580 ((nI o) + 1))) c_M_opens_22 fp_M_opens_194 rfl (pf_70_20 _ _ _) ?_
                rw [nI_1 (o)]
                show PW _ _ _ 25 [some (.ref 70)] [] (E x (sI Y 580 (nI (o + 1))))
                refine PW_aload_n c_M_opens_25 rfl ?_
                refine PW_dup c_M_opens_26 rfl ?_
                refine PW_get (v := .int (Y.1 578)) c_M_opens_27 fl_M_185 (gf_70_18 _ _) ?_
                rw [hp]
                show PW _ _ _ 30 [some (.ref 70)] [.int (nI p), .ref 70] (E x (sI Y 580 (nI (o + 1))))
                refine PW_iconst (v := 1) c_M_opens_30 (by decide) ?_
                refine PW_iadd c_M_opens_31 ?_
                refine PW_put (w2 := E x (sI (sI Y 580 (nI (o + 1))) 578 ((nI p) + 1))) c_M_opens_32 fp_M_opens_185 rfl (pf_70_18 _ _ _) ?_
                rw [nI_1 p]
                show PW _ _ _ 35 [some (.ref 70)] [] (E x (sI (sI Y 580 (nI (o + 1))) 578 (nI (p + 1))))
                refine PW_iconst (v := 1) c_M_opens_35 (by decide) ?_
                refine PW_ireturn (ty := .boolean) c_M_opens_36 rfl (by decide +kernel) ?_
                show PW _ _ _ 50 [some (.ref 70), some (.int (lkM (sg g n p)))] [.int 1] (E x (sI (sI Y 580 (nI (o + 1))) 578 (nI (p + 1))))
                refine PW_if_ne c_M_operand_50 (fun _ => ?_) (fun h4 => absurd h4 (by decide))
                refine PW_aload_n c_M_operand_54 rfl ?_
                refine PW_V0 (d2 := fu + 1) (st := []) [] c_M_operand_55 lk_M_operand_216 (po_70 _ _) rfl rfl rfl (Nat.le_of_ble_eq_true rfl) (by first | decide | omega) (Nat.le_of_ble_eq_true rfl) ?_
                refine H5 ?_
                show PW _ _ _ 58 [some (.ref 70), some (.int (lkM (sg g n p)))] [] (E x Y5)
                refine PW_aload_n c_M_operand_58 rfl ?_
                refine PW_dup c_M_operand_59 rfl ?_
                refine PW_get (v := .int (Y5.1 580)) c_M_operand_60 fl_M_194 (gf_70_20 _ _) ?_
                refine PW_iconst (v := 1) c_M_operand_63 (by decide) ?_
                refine PW_isub c_M_operand_64 ?_
                refine PW_put (w2 := E x (sI Y5 580 ((Y5.1 580) - 1))) c_M_operand_65 fp_M_operand_194 rfl (pf_70_20 _ _ _) ?_
                refine PW_aload_n c_M_operand_68 rfl ?_
                refine PW_iload_n c_M_operand_69 rfl ?_
                refine PW_bipush (v := 33) c_M_operand_70 (by decide) ?_
                refine PW_icmp_ne c_M_operand_72 (fun h5 => ?_) (fun h5 => absurd h5 (fun w => n33 ((lkM_k (tpM_sg hT) (by decide) (k := 33)).mp w)))
                refine PW_iconst (v := 4) c_M_operand_79 (by decide) ?_
                refine PW_iconst (v := 0) c_M_operand_80 (by decide) ?_
                refine PW_V0 (d2 := 0) (st := []) [.int 4, .int 0] c_M_operand_81 lk_M_operand_204 (po_70 _ _) rfl rfl rfl (Nat.le_of_ble_eq_true rfl) (by first | decide | omega) (Nat.le_of_ble_eq_true rfl) ?_
                refine sp_M_addStep (Y := sI Y5 580 (Y5.1 580 - 1)) (a := 4) (k := l5) rfl (by decide) ((sI_n (by decide)).trans s5) (by omega) ?_
                show PW _ _ _ 84 [some (.ref 70), some (.int (lkM (sg g n p)))] [] (E x (adS (sI Y5 580 (Y5.1 580 - 1)) l5 (nI 4) 0))
                refine PW_goto c_M_operand_84 ?_
                refine PW_vreturn c_M_operand_154 rfl ?_
                exact h
        · rw [if_pos (fun w => h6 w.2)]
          refine ⟨sI Y 579 (nI p), ⟨frM_i (by decide), lowA_0, (sI_n (by decide)).trans hp, Or.inr ⟨fun w => Bool.noConfusion w, sI_s, k, (sI_n (by decide)).trans hS, Nat.le_refl _, by show k + p ≤ k + p + 1; omega⟩⟩, fun {x z post} h => ?_⟩
          rcases h3 with e | e | e
          · have n33 : ¬ sg g n p = 33 := by omega
            have n45 : ¬ sg g n p = 45 := by omega
            refine PW_aload_n c_M_operand_0 rfl ?_
            refine PW_V0 (d2 := 0) (st := []) [] c_M_operand_1 lk_M_operand_200 (po_70 _ _) rfl rfl rfl (Nat.le_of_ble_eq_true rfl) (by first | decide | omega) (Nat.le_of_ble_eq_true rfl) ?_
            refine sp_M_look hT hp hpn ?_
            show PW _ _ _ 4 [some (.ref 70), none] [.int (lkM (sg g n p))] (E x Y)
            refine PW_istore_n (i := 1) (L2 := [some (.ref 70), some (.int (lkM (sg g n p)))]) c_M_operand_4 rfl (Nat.le_of_ble_eq_true rfl) rfl rfl ?_
            refine PW_iload_n c_M_operand_5 rfl ?_
            refine PW_S0 (d2 := 0) (st := []) [.int (lkM (sg g n p))] c_M_operand_6 lk_M_operand_208 rfl rfl rfl (Nat.le_of_ble_eq_true rfl) (by first | decide | omega) (Nat.le_of_ble_eq_true rfl) ?_
            refine sp_M_nameOf (tpM_sg hT) ?_
            show PW _ _ _ 9 [some (.ref 70), some (.int (lkM (sg g n p)))] [.int (nmI (sg g n p))] (E x Y)
            refine PW_if_lt c_M_operand_9 (fun h0 => ?_) (fun h0 => absurd (by rw [show nmI (sg g n p) = -1 from if_neg h1]; decide) h0)
            refine PW_iload_n c_M_operand_34 rfl ?_
            refine PW_bipush (v := 33) c_M_operand_35 (by decide) ?_
            refine PW_icmp_eq c_M_operand_37 (fun h1 => absurd h1 (fun w => n33 ((lkM_k (tpM_sg hT) (by decide) (k := 33)).mp w))) (fun h1 => ?_)
            refine PW_iload_n c_M_operand_40 rfl ?_
            refine PW_bipush (v := 45) c_M_operand_41 (by decide) ?_
            refine PW_icmp_ne c_M_operand_43 (fun h2 => ?_) (fun h2 => absurd h2 (fun w => n45 ((lkM_k (tpM_sg hT) (by decide) (k := 45)).mp w)))
            refine PW_iload_n c_M_operand_87 rfl ?_
            refine PW_bipush (v := 40) c_M_operand_88 (by decide) ?_
            refine PW_icmp_ne c_M_operand_90 (fun h3 => absurd h3 (not_not_intro ((lkM_k (tpM_sg hT) (by decide) (k := 40)).mpr e))) (fun h3 => ?_)
            refine PW_aload_n c_M_operand_93 rfl ?_
            refine PW_V0 (d2 := 1) (st := []) [] c_M_operand_94 lk_M_operand_212 (po_70 _ _) rfl rfl rfl (Nat.le_of_ble_eq_true rfl) (by first | decide | omega) (Nat.le_of_ble_eq_true rfl) ?_
            show PW _ _ _ 0 [some (.ref 70)] [] (E x Y)
            refine PW_aload_n c_M_opens_0 rfl ?_
            refine PW_get (v := .int (Y.1 580)) c_M_opens_1 fl_M_194 (gf_70_20 _ _) ?_
            rw [hO]
            show PW _ _ _ 4 [some (.ref 70)] [.int (nI o)] (E x Y)
            refine PW_bipush (v := 6) c_M_opens_4 (by decide) ?_
            refine PW_icmp_ne c_M_opens_6 (fun h4 => absurd h4 (not_not_intro (show nI o = nI 6 by rw [show o = 6 by omega]))) (fun h4 => ?_)
            refine PW_aload_n c_M_opens_9 rfl ?_
            refine PW_V0 (d2 := 0) (st := []) [] c_M_opens_10 lk_M_opens_197 (po_70 _ _) rfl rfl rfl (Nat.le_of_ble_eq_true rfl) (by first | decide | omega) (Nat.le_of_ble_eq_true rfl) ?_
            show PW _ _ _ 0 [some (.ref 70)] [] (E x Y)
            refine PW_aload_n c_M_faulty_0 rfl ?_
            refine PW_get (v := .int (Y.1 579)) c_M_faulty_1 fl_M_188 (gf_70_19 _ _) ?_
            rw [hF]
            show PW _ _ _ 4 [some (.ref 70)] [.int (-1)] (E x Y)
            refine PW_if_ge c_M_faulty_4 (fun h5 => absurd h5 (by decide)) (fun _ => ?_)
            refine PW_aload_n c_M_faulty_7 rfl ?_
            refine PW_aload_n c_M_faulty_8 rfl ?_
            refine PW_get (v := .int (Y.1 578)) c_M_faulty_9 fl_M_185 (gf_70_18 _ _) ?_
            rw [hp]
            show PW _ _ _ 12 [some (.ref 70)] [.int (nI p), .ref 70] (E x Y)
            refine PW_put (w2 := E x (sI Y 579 (nI p))) c_M_faulty_12 fp_M_faulty_188 rfl (pf_70_19 _ _ _) ?_
            refine PW_vreturn c_M_faulty_15 rfl ?_
            show PW _ _ _ 13 [some (.ref 70)] [] (E x (sI Y 579 (nI p)))
            refine PW_iconst (v := 0) c_M_opens_13 (by decide) ?_
            refine PW_ireturn (ty := .boolean) c_M_opens_14 rfl (by decide +kernel) ?_
            show PW _ _ _ 97 [some (.ref 70), some (.int (lkM (sg g n p)))] [.int 0] (E x (sI Y 579 (nI p)))
            refine PW_if_ne c_M_operand_97 (fun h6 => absurd (by decide) h6) (fun _ => ?_)
            refine PW_vreturn c_M_operand_100 rfl ?_
            exact h
          · skip
            refine PW_aload_n c_M_operand_0 rfl ?_
            refine PW_V0 (d2 := 0) (st := []) [] c_M_operand_1 lk_M_operand_200 (po_70 _ _) rfl rfl rfl (Nat.le_of_ble_eq_true rfl) (by first | decide | omega) (Nat.le_of_ble_eq_true rfl) ?_
            refine sp_M_look hT hp hpn ?_
            show PW _ _ _ 4 [some (.ref 70), none] [.int (lkM (sg g n p))] (E x Y)
            refine PW_istore_n (i := 1) (L2 := [some (.ref 70), some (.int (lkM (sg g n p)))]) c_M_operand_4 rfl (Nat.le_of_ble_eq_true rfl) rfl rfl ?_
            refine PW_iload_n c_M_operand_5 rfl ?_
            refine PW_S0 (d2 := 0) (st := []) [.int (lkM (sg g n p))] c_M_operand_6 lk_M_operand_208 rfl rfl rfl (Nat.le_of_ble_eq_true rfl) (by first | decide | omega) (Nat.le_of_ble_eq_true rfl) ?_
            refine sp_M_nameOf (tpM_sg hT) ?_
            show PW _ _ _ 9 [some (.ref 70), some (.int (lkM (sg g n p)))] [.int (nmI (sg g n p))] (E x Y)
            refine PW_if_lt c_M_operand_9 (fun h0 => ?_) (fun h0 => absurd (by rw [show nmI (sg g n p) = -1 from if_neg h1]; decide) h0)
            refine PW_iload_n c_M_operand_34 rfl ?_
            refine PW_bipush (v := 33) c_M_operand_35 (by decide) ?_
            refine PW_icmp_eq c_M_operand_37 (fun h1 => ?_) (fun h1 => absurd ((lkM_k (tpM_sg hT) (by decide) (k := 33)).mpr e) h1)
            refine PW_aload_n c_M_operand_46 rfl ?_
            refine PW_V0 (d2 := 1) (st := []) [] c_M_operand_47 lk_M_operand_212 (po_70 _ _) rfl rfl rfl (Nat.le_of_ble_eq_true rfl) (by first | decide | omega) (Nat.le_of_ble_eq_true rfl) ?_
            show PW _ _ _ 0 [some (.ref 70)] [] (E x Y)
            refine PW_aload_n c_M_opens_0 rfl ?_
            refine PW_get (v := .int (Y.1 580)) c_M_opens_1 fl_M_194 (gf_70_20 _ _) ?_
            rw [hO]
            show PW _ _ _ 4 [some (.ref 70)] [.int (nI o)] (E x Y)
            refine PW_bipush (v := 6) c_M_opens_4 (by decide) ?_
            refine PW_icmp_ne c_M_opens_6 (fun h2 => absurd h2 (not_not_intro (show nI o = nI 6 by rw [show o = 6 by omega]))) (fun h2 => ?_)
            refine PW_aload_n c_M_opens_9 rfl ?_
            refine PW_V0 (d2 := 0) (st := []) [] c_M_opens_10 lk_M_opens_197 (po_70 _ _) rfl rfl rfl (Nat.le_of_ble_eq_true rfl) (by first | decide | omega) (Nat.le_of_ble_eq_true rfl) ?_
            show PW _ _ _ 0 [some (.ref 70)] [] (E x Y)
            refine PW_aload_n c_M_faulty_0 rfl ?_
            refine PW_get (v := .int (Y.1 579)) c_M_faulty_1 fl_M_188 (gf_70_19 _ _) ?_
            rw [hF]
            show PW _ _ _ 4 [some (.ref 70)] [.int (-1)] (E x Y)
            refine PW_if_ge c_M_faulty_4 (fun h3 => absurd h3 (by decide)) (fun _ => ?_)
            refine PW_aload_n c_M_faulty_7 rfl ?_
            refine PW_aload_n c_M_faulty_8 rfl ?_
            refine PW_get (v := .int (Y.1 578)) c_M_faulty_9 fl_M_185 (gf_70_18 _ _) ?_
            rw [hp]
            show PW _ _ _ 12 [some (.ref 70)] [.int (nI p), .ref 70] (E x Y)
            refine PW_put (w2 := E x (sI Y 579 (nI p))) c_M_faulty_12 fp_M_faulty_188 rfl (pf_70_19 _ _ _) ?_
            refine PW_vreturn c_M_faulty_15 rfl ?_
            show PW _ _ _ 13 [some (.ref 70)] [] (E x (sI Y 579 (nI p)))
            refine PW_iconst (v := 0) c_M_opens_13 (by decide) ?_
            refine PW_ireturn (ty := .boolean) c_M_opens_14 rfl (by decide +kernel) ?_
            show PW _ _ _ 50 [some (.ref 70), some (.int (lkM (sg g n p)))] [.int 0] (E x (sI Y 579 (nI p)))
            refine PW_if_ne c_M_operand_50 (fun h4 => absurd (by decide) h4) (fun _ => ?_)
            refine PW_vreturn c_M_operand_53 rfl ?_
            exact h
          · have n33 : ¬ sg g n p = 33 := by omega
            refine PW_aload_n c_M_operand_0 rfl ?_
            refine PW_V0 (d2 := 0) (st := []) [] c_M_operand_1 lk_M_operand_200 (po_70 _ _) rfl rfl rfl (Nat.le_of_ble_eq_true rfl) (by first | decide | omega) (Nat.le_of_ble_eq_true rfl) ?_
            refine sp_M_look hT hp hpn ?_
            show PW _ _ _ 4 [some (.ref 70), none] [.int (lkM (sg g n p))] (E x Y)
            refine PW_istore_n (i := 1) (L2 := [some (.ref 70), some (.int (lkM (sg g n p)))]) c_M_operand_4 rfl (Nat.le_of_ble_eq_true rfl) rfl rfl ?_
            refine PW_iload_n c_M_operand_5 rfl ?_
            refine PW_S0 (d2 := 0) (st := []) [.int (lkM (sg g n p))] c_M_operand_6 lk_M_operand_208 rfl rfl rfl (Nat.le_of_ble_eq_true rfl) (by first | decide | omega) (Nat.le_of_ble_eq_true rfl) ?_
            refine sp_M_nameOf (tpM_sg hT) ?_
            show PW _ _ _ 9 [some (.ref 70), some (.int (lkM (sg g n p)))] [.int (nmI (sg g n p))] (E x Y)
            refine PW_if_lt c_M_operand_9 (fun h0 => ?_) (fun h0 => absurd (by rw [show nmI (sg g n p) = -1 from if_neg h1]; decide) h0)
            refine PW_iload_n c_M_operand_34 rfl ?_
            refine PW_bipush (v := 33) c_M_operand_35 (by decide) ?_
            refine PW_icmp_eq c_M_operand_37 (fun h1 => absurd h1 (fun w => n33 ((lkM_k (tpM_sg hT) (by decide) (k := 33)).mp w))) (fun h1 => ?_)
            refine PW_iload_n c_M_operand_40 rfl ?_
            refine PW_bipush (v := 45) c_M_operand_41 (by decide) ?_
            refine PW_icmp_ne c_M_operand_43 (fun h2 => absurd h2 (not_not_intro ((lkM_k (tpM_sg hT) (by decide) (k := 45)).mpr e))) (fun h2 => ?_)
            refine PW_aload_n c_M_operand_46 rfl ?_
            refine PW_V0 (d2 := 1) (st := []) [] c_M_operand_47 lk_M_operand_212 (po_70 _ _) rfl rfl rfl (Nat.le_of_ble_eq_true rfl) (by first | decide | omega) (Nat.le_of_ble_eq_true rfl) ?_
            show PW _ _ _ 0 [some (.ref 70)] [] (E x Y)
            refine PW_aload_n c_M_opens_0 rfl ?_
            refine PW_get (v := .int (Y.1 580)) c_M_opens_1 fl_M_194 (gf_70_20 _ _) ?_
            rw [hO]
            show PW _ _ _ 4 [some (.ref 70)] [.int (nI o)] (E x Y)
            refine PW_bipush (v := 6) c_M_opens_4 (by decide) ?_
            refine PW_icmp_ne c_M_opens_6 (fun h3 => absurd h3 (not_not_intro (show nI o = nI 6 by rw [show o = 6 by omega]))) (fun h3 => ?_)
            refine PW_aload_n c_M_opens_9 rfl ?_
            refine PW_V0 (d2 := 0) (st := []) [] c_M_opens_10 lk_M_opens_197 (po_70 _ _) rfl rfl rfl (Nat.le_of_ble_eq_true rfl) (by first | decide | omega) (Nat.le_of_ble_eq_true rfl) ?_
            show PW _ _ _ 0 [some (.ref 70)] [] (E x Y)
            refine PW_aload_n c_M_faulty_0 rfl ?_
            refine PW_get (v := .int (Y.1 579)) c_M_faulty_1 fl_M_188 (gf_70_19 _ _) ?_
            rw [hF]
            show PW _ _ _ 4 [some (.ref 70)] [.int (-1)] (E x Y)
            refine PW_if_ge c_M_faulty_4 (fun h4 => absurd h4 (by decide)) (fun _ => ?_)
            refine PW_aload_n c_M_faulty_7 rfl ?_
            refine PW_aload_n c_M_faulty_8 rfl ?_
            refine PW_get (v := .int (Y.1 578)) c_M_faulty_9 fl_M_185 (gf_70_18 _ _) ?_
            rw [hp]
            show PW _ _ _ 12 [some (.ref 70)] [.int (nI p), .ref 70] (E x Y)
            refine PW_put (w2 := E x (sI Y 579 (nI p))) c_M_faulty_12 fp_M_faulty_188 rfl (pf_70_19 _ _ _) ?_
            refine PW_vreturn c_M_faulty_15 rfl ?_
            show PW _ _ _ 13 [some (.ref 70)] [] (E x (sI Y 579 (nI p)))
            refine PW_iconst (v := 0) c_M_opens_13 (by decide) ?_
            refine PW_ireturn (ty := .boolean) c_M_opens_14 rfl (by decide +kernel) ?_
            show PW _ _ _ 50 [some (.ref 70), some (.int (lkM (sg g n p)))] [.int 0] (E x (sI Y 579 (nI p)))
            refine PW_if_ne c_M_operand_50 (fun h5 => absurd (by decide) h5) (fun _ => ?_)
            refine PW_vreturn c_M_operand_53 rfl ?_
            exact h
      · rw [if_pos (fun w => h3 w.1)]
        have n40 : ¬ sg g n p = 40 := by omega
        have n33 : ¬ sg g n p = 33 := by omega
        have n45 : ¬ sg g n p = 45 := by omega
        have e0 : (rdN g n 4 p 0) = (p, 0) := by rw [rdN, if_neg hD2]
        have e1 : (rdN g n 4 p 0).1 = p := by rw [e0]
        refine ⟨adS (sI (sI Y 578 (nI (rdN g n 4 p 0).1)) 579 (nI (rdN g n 4 p 0).1)) k (nI 1) (rdN g n 4 p 0).2, ⟨frM_t (frM_t (frM_i (by decide)) (frM_i (by decide))) frM_a, ?_, (adS_1 (by decide)).trans ((sI_n (by decide)).trans (sI_s.trans (by rw [e1]))), Or.inr ⟨fun w => Bool.noConfusion w, (adS_1 (by decide)).trans (sI_s.trans (by rw [e1])), k + 1, adS_s, by omega, by show k + 1 + p ≤ k + p + 1; omega⟩⟩, fun {x z post} h => ?_⟩
        · rw [adS_84, adS_85]
          exact lowA_u (Nat.le_refl (130 + k))
        · skip
          refine PW_aload_n c_M_operand_0 rfl ?_
          refine PW_V0 (d2 := 0) (st := []) [] c_M_operand_1 lk_M_operand_200 (po_70 _ _) rfl rfl rfl (Nat.le_of_ble_eq_true rfl) (by first | decide | omega) (Nat.le_of_ble_eq_true rfl) ?_
          refine sp_M_look hT hp hpn ?_
          show PW _ _ _ 4 [some (.ref 70), none] [.int (lkM (sg g n p))] (E x Y)
          refine PW_istore_n (i := 1) (L2 := [some (.ref 70), some (.int (lkM (sg g n p)))]) c_M_operand_4 rfl (Nat.le_of_ble_eq_true rfl) rfl rfl ?_
          refine PW_iload_n c_M_operand_5 rfl ?_
          refine PW_S0 (d2 := 0) (st := []) [.int (lkM (sg g n p))] c_M_operand_6 lk_M_operand_208 rfl rfl rfl (Nat.le_of_ble_eq_true rfl) (by first | decide | omega) (Nat.le_of_ble_eq_true rfl) ?_
          refine sp_M_nameOf (tpM_sg hT) ?_
          show PW _ _ _ 9 [some (.ref 70), some (.int (lkM (sg g n p)))] [.int (nmI (sg g n p))] (E x Y)
          refine PW_if_lt c_M_operand_9 (fun h0 => ?_) (fun h0 => absurd (by rw [show nmI (sg g n p) = -1 from if_neg h1]; decide) h0)
          refine PW_iload_n c_M_operand_34 rfl ?_
          refine PW_bipush (v := 33) c_M_operand_35 (by decide) ?_
          refine PW_icmp_eq c_M_operand_37 (fun h1 => absurd h1 (fun w => n33 ((lkM_k (tpM_sg hT) (by decide) (k := 33)).mp w))) (fun h1 => ?_)
          refine PW_iload_n c_M_operand_40 rfl ?_
          refine PW_bipush (v := 45) c_M_operand_41 (by decide) ?_
          refine PW_icmp_ne c_M_operand_43 (fun h2 => ?_) (fun h2 => absurd h2 (fun w => n45 ((lkM_k (tpM_sg hT) (by decide) (k := 45)).mp w)))
          refine PW_iload_n c_M_operand_87 rfl ?_
          refine PW_bipush (v := 40) c_M_operand_88 (by decide) ?_
          refine PW_icmp_ne c_M_operand_90 (fun h3 => ?_) (fun h3 => absurd h3 (fun w => n40 ((lkM_k (tpM_sg hT) (by decide) (k := 40)).mp w)))
          refine PW_aload_n c_M_operand_150 rfl ?_
          refine PW_V0 (d2 := 1) (st := []) [] c_M_operand_151 lk_M_operand_222 (po_70 _ _) rfl rfl rfl (Nat.le_of_ble_eq_true rfl) (by first | decide | omega) (Nat.le_of_ble_eq_true rfl) ?_
          refine sp_M_fig3 hT hp hF hS (by omega) hpn hD2 ?_
          show PW _ _ _ 154 [some (.ref 70), some (.int (lkM (sg g n p)))] [] (E x (adS (sI (sI Y 578 (nI (rdN g n 4 p 0).1)) 579 (nI (rdN g n 4 p 0).1)) k (nI 1) (rdN g n 4 p 0).2))
          refine PW_vreturn c_M_operand_154 rfl ?_
          exact h
theorem M_all {g : Nat → Nat} {n : Nat} : ∀ fu : Nat, MOK g n m_M_either [some (.ref 70)] fu 0 ∧ MOK g n m_M_both [some (.ref 70)] fu 1 ∧ MOK g n m_M_compared [some (.ref 70), none] fu 2 ∧ MOK g n m_M_sum [some (.ref 70), none] fu 3 ∧ MOK g n m_M_product [some (.ref 70), none] fu 4 ∧ MOK g n m_M_operand [some (.ref 70), none] fu 5 := by
  intro fu
  induction fu with
  | zero => exact ⟨fun o p k Y ho hfu => absurd hfu (by omega), fun o p k Y ho hfu => absurd hfu (by omega), fun o p k Y ho hfu => absurd hfu (by omega), fun o p k Y ho hfu => absurd hfu (by omega), fun o p k Y ho hfu => absurd hfu (by omega), fun o p k Y ho hfu => absurd hfu (by omega)⟩
  | succ fu ih =>
    obtain ⟨i0, i1, i2, i3, i4, i5⟩ := ih
    exact ⟨M_either_step i1, M_both_step i2, M_compared_step i3, M_sum_step i4, M_product_step i5, M_operand_step i0 i5⟩
