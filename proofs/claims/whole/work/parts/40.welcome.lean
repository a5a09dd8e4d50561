/-! a guest comes -/
def wcX (x : XS) (n : Nat) (a b c t : Int32) : XS := sfX 1 (sfX 0 (sfX 6 (sfX 4 (sfX 3 (sfX 2 (sI x 51 (nI (n + 1))) n c) n t) n 1) n 11) n a) n b
def agY (y : XS) (n : Nat) (a b c t : Int32) : XS := sI (sA (sA (sA (sA (sA (sA (sA y 71 (upd (y.2.1 71) n a)) 72 (upd (y.2.1 72) n b)) 73 (upd (y.2.1 73) n c)) 74 (upd (y.2.1 74) n t)) 75 (upd (y.2.1 75) n 1)) 76 (upd (y.2.1 76) n 0)) 77 (upd (y.2.1 77) n 11)) 561 (nI (n + 1))
theorem sp_welcome {z : ZS} {post : Option Value → List PE → Prop} {x y : XS} {a b c t : Int32} {n : Nat} (h51 : x.1 51 = nI n) (hn : n < 10) (h : post (some (.int (nI n))) (E (wcX x n a b c t) y)) : PW (4, 0, 0, z) m_H_welcome post 0 [some (.ref 6), some (.int a), some (.int b), some (.int c), some (.int t), none] [] (E x y) := by
  refine PW_aload_n c_H_welcome_0 rfl ?_
  refine PW_get (v := .int (x.1 51)) c_H_welcome_1 fl_H_29 (gf_6_3 _ _) ?_
  refine PW_bipush (v := 10) c_H_welcome_4 (by decide) ?_
  refine PW_icmp_lt c_H_welcome_6 (fun h0 => ?_) (fun h0 => absurd (by rw [h51]; exact (nI_ltI (by omega) (by decide)).mpr (show n < 10 from hn) : x.1 51 < nI 10) h0)
  refine PW_aload_n c_H_welcome_12 rfl ?_
  refine PW_get (v := .int (x.1 51)) c_H_welcome_13 fl_H_29 (gf_6_3 _ _) ?_
  refine PW_istore (i := 5) (L2 := [some (.ref 6), some (.int a), some (.int b), some (.int c), some (.int t), some (.int (x.1 51))]) c_H_welcome_16 (Nat.le_of_ble_eq_true rfl) rfl rfl ?_
  refine PW_aload_n c_H_welcome_18 rfl ?_
  refine PW_dup c_H_welcome_19 rfl ?_
  refine PW_get (v := .int (x.1 51)) c_H_welcome_20 fl_H_29 (gf_6_3 _ _) ?_
  refine PW_iconst (v := 1) c_H_welcome_23 (by decide) ?_
  refine PW_iadd c_H_welcome_24 ?_
  refine PW_put (w2 := E (sI x 51 ((x.1 51) + 1)) y) c_H_welcome_25 fp_H_welcome_29 rfl (pf_6_3 _ _ _) ?_
  rw [h51, nI_1]
  show PW _ _ _ 28 [some (.ref 6), some (.int a), some (.int b), some (.int c), some (.int t), some (.int (nI n))] [] (E (sI x 51 (nI (n + 1))) y)
  refine PW_aload_n c_H_welcome_28 rfl ?_
  refine PW_iload c_H_welcome_29 rfl ?_
  refine PW_iconst (v := 2) c_H_welcome_31 (by decide) ?_
  refine PW_iload_n c_H_welcome_32 rfl ?_
  refine PW_V0 (d2 := 3) (st := []) [.int (nI n), .int 2, .int c] c_H_welcome_33 lk_H_welcome_33 (po_6 _ _) rfl rfl rfl (Nat.le_of_ble_eq_true rfl) (by first | decide | omega) (Nat.le_of_ble_eq_true rfl) ?_
  refine sp_set_2 (n := n + 1) sI_s (by omega) (by omega) ?_
  show PW _ _ _ 36 [some (.ref 6), some (.int a), some (.int b), some (.int c), some (.int t), some (.int (nI n))] [] (E (sfX 2 (sI x 51 (nI (n + 1))) n c) y)
  refine PW_aload_n c_H_welcome_36 rfl ?_
  refine PW_iload c_H_welcome_37 rfl ?_
  refine PW_iconst (v := 3) c_H_welcome_39 (by decide) ?_
  refine PW_iload c_H_welcome_40 rfl ?_
  refine PW_V0 (d2 := 3) (st := []) [.int (nI n), .int 3, .int t] c_H_welcome_42 lk_H_welcome_33 (po_6 _ _) rfl rfl rfl (Nat.le_of_ble_eq_true rfl) (by first | decide | omega) (Nat.le_of_ble_eq_true rfl) ?_
  refine sp_set_3 (n := n + 1) ((sfX_1 (by decide) (by decide)).trans sI_s) (by omega) (by omega) ?_
  show PW _ _ _ 45 [some (.ref 6), some (.int a), some (.int b), some (.int c), some (.int t), some (.int (nI n))] [] (E (sfX 3 (sfX 2 (sI x 51 (nI (n + 1))) n c) n t) y)
  refine PW_aload_n c_H_welcome_45 rfl ?_
  refine PW_iload c_H_welcome_46 rfl ?_
  refine PW_iconst (v := 4) c_H_welcome_48 (by decide) ?_
  refine PW_iconst (v := 1) c_H_welcome_49 (by decide) ?_
  refine PW_V0 (d2 := 3) (st := []) [.int (nI n), .int 4, .int 1] c_H_welcome_50 lk_H_welcome_33 (po_6 _ _) rfl rfl rfl (Nat.le_of_ble_eq_true rfl) (by first | decide | omega) (Nat.le_of_ble_eq_true rfl) ?_
  refine sp_set_4 (n := n + 1) ((sfX_1 (by decide) (by decide)).trans ((sfX_1 (by decide) (by decide)).trans sI_s)) (by omega) (by omega) ?_
  show PW _ _ _ 53 [some (.ref 6), some (.int a), some (.int b), some (.int c), some (.int t), some (.int (nI n))] [] (E (sfX 4 (sfX 3 (sfX 2 (sI x 51 (nI (n + 1))) n c) n t) n 1) y)
  refine PW_aload_n c_H_welcome_53 rfl ?_
  refine PW_iload c_H_welcome_54 rfl ?_
  refine PW_bipush (v := 6) c_H_welcome_56 (by decide) ?_
  refine PW_bipush (v := 11) c_H_welcome_58 (by decide) ?_
  refine PW_V0 (d2 := 3) (st := []) [.int (nI n), .int 6, .int 11] c_H_welcome_60 lk_H_welcome_33 (po_6 _ _) rfl rfl rfl (Nat.le_of_ble_eq_true rfl) (by first | decide | omega) (Nat.le_of_ble_eq_true rfl) ?_
  refine sp_set_6 (n := n + 1) ((sfX_1 (by decide) (by decide)).trans ((sfX_1 (by decide) (by decide)).trans ((sfX_1 (by decide) (by decide)).trans sI_s))) (by omega) (by omega) ?_
  show PW _ _ _ 63 [some (.ref 6), some (.int a), some (.int b), some (.int c), some (.int t), some (.int (nI n))] [] (E (sfX 6 (sfX 4 (sfX 3 (sfX 2 (sI x 51 (nI (n + 1))) n c) n t) n 1) n 11) y)
  refine PW_aload_n c_H_welcome_63 rfl ?_
  refine PW_iload c_H_welcome_64 rfl ?_
  refine PW_iconst (v := 0) c_H_welcome_66 (by decide) ?_
  refine PW_iload_n c_H_welcome_67 rfl ?_
  refine PW_V0 (d2 := 3) (st := []) [.int (nI n), .int 0, .int a] c_H_welcome_68 lk_H_welcome_33 (po_6 _ _) rfl rfl rfl (Nat.le_of_ble_eq_true rfl) (by first | decide | omega) (Nat.le_of_ble_eq_true rfl) ?_
  refine sp_set_0 (n := n + 1) ((sfX_1 (by decide) (by decide)).trans ((sfX_1 (by decide) (by decide)).trans ((sfX_1 (by decide) (by decide)).trans ((sfX_1 (by decide) (by decide)).trans sI_s)))) (by omega) (by omega) ?_
  show PW _ _ _ 71 [some (.ref 6), some (.int a), some (.int b), some (.int c), some (.int t), some (.int (nI n))] [] (E (sfX 0 (sfX 6 (sfX 4 (sfX 3 (sfX 2 (sI x 51 (nI (n + 1))) n c) n t) n 1) n 11) n a) y)
  refine PW_aload_n c_H_welcome_71 rfl ?_
  refine PW_iload c_H_welcome_72 rfl ?_
  refine PW_iconst (v := 1) c_H_welcome_74 (by decide) ?_
  refine PW_iload_n c_H_welcome_75 rfl ?_
  refine PW_V0 (d2 := 3) (st := []) [.int (nI n), .int 1, .int b] c_H_welcome_76 lk_H_welcome_33 (po_6 _ _) rfl rfl rfl (Nat.le_of_ble_eq_true rfl) (by first | decide | omega) (Nat.le_of_ble_eq_true rfl) ?_
  refine sp_set_1 (n := n + 1) ((sfX_1 (by decide) (by decide)).trans ((sfX_1 (by decide) (by decide)).trans ((sfX_1 (by decide) (by decide)).trans ((sfX_1 (by decide) (by decide)).trans ((sfX_1 (by decide) (by decide)).trans sI_s))))) (by omega) (by omega) ?_
  show PW _ _ _ 79 [some (.ref 6), some (.int a), some (.int b), some (.int c), some (.int t), some (.int (nI n))] [] (E (sfX 1 (sfX 0 (sfX 6 (sfX 4 (sfX 3 (sfX 2 (sI x 51 (nI (n + 1))) n c) n t) n 1) n 11) n a) n b) y)
  refine PW_iload c_H_welcome_79 rfl ?_
  refine PW_ireturn (ty := .int) c_H_welcome_81 rfl rfl ?_
  exact h
theorem sp_welcome_full {z : ZS} {post : Option Value → List PE → Prop} {x y : XS} {a b c t : Int32} (h51 : x.1 51 = nI 10) (h : post (some (.int (-3))) (E x y)) : PW (4, 0, 0, z) m_H_welcome post 0 [some (.ref 6), some (.int a), some (.int b), some (.int c), some (.int t), none] [] (E x y) := by
  refine PW_aload_n c_H_welcome_0 rfl ?_
  refine PW_get (v := .int (x.1 51)) c_H_welcome_1 fl_H_29 (gf_6_3 _ _) ?_
  refine PW_bipush (v := 10) c_H_welcome_4 (by decide) ?_
  refine PW_icmp_lt c_H_welcome_6 (fun h0 => absurd h0 (by rw [h51]; decide)) (fun h0 => ?_)
  refine PW_bipush (v := -3) c_H_welcome_9 (by decide) ?_
  refine PW_ireturn (ty := .int) c_H_welcome_11 rfl rfl ?_
  exact h
theorem sp_M_addGuest {z : ZS} {post : Option Value → List PE → Prop} {x y : XS} {a b c t : Int32} {n : Nat} (h561 : y.1 561 = nI n) (hn : n < 10) (h : post (some (.int (nI n))) (E x (agY y n a b c t))) : PW (0, 0, 0, z) m_M_addGuest post 0 [some (.ref 70), some (.int a), some (.int b), some (.int c), some (.int t)] [] (E x y) := by
  refine PW_aload_n c_M_addGuest_0 rfl ?_
  refine PW_get (v := .ref 71) c_M_addGuest_1 fl_M_7 (gf_70_2 _ _) ?_
  refine PW_aload_n c_M_addGuest_4 rfl ?_
  refine PW_get (v := .int (y.1 561)) c_M_addGuest_5 fl_M_128 (gf_70_1 _ _) ?_
  refine PW_iload_n c_M_addGuest_8 rfl ?_
  refine PW_iast (j := n) (w2 := E x (sA y 71 (upd (y.2.1 71) n a))) c_M_addGuest_9 (ar_71 _ _) (by rw [h561]; exact vp_in_nI (by omega) (by decide)) (by rw [h561]; exact nI_clamp (by omega)) (aw_71 _ _ _) ?_
  refine PW_aload_n c_M_addGuest_10 rfl ?_
  refine PW_get (v := .ref 72) c_M_addGuest_11 fl_M_13 (gf_70_3 _ _) ?_
  refine PW_aload_n c_M_addGuest_14 rfl ?_
  refine PW_get (v := .int (y.1 561)) c_M_addGuest_15 fl_M_128 (gf_70_1 _ _) ?_
  refine PW_iload_n c_M_addGuest_18 rfl ?_
  refine PW_iast (j := n) (w2 := E x (sA (sA y 71 (upd (y.2.1 71) n a)) 72 (upd (y.2.1 72) n b))) c_M_addGuest_19 (ar_72 _ _) (by rw [h561]; exact vp_in_nI (by omega) (by decide)) (by rw [h561]; exact nI_clamp (by omega)) (aw_72 _ _ _) ?_
  refine PW_aload_n c_M_addGuest_20 rfl ?_
  refine PW_get (v := .ref 73) c_M_addGuest_21 fl_M_16 (gf_70_4 _ _) ?_
  refine PW_aload_n c_M_addGuest_24 rfl ?_
  refine PW_get (v := .int (y.1 561)) c_M_addGuest_25 fl_M_128 (gf_70_1 _ _) ?_
  refine PW_iload_n c_M_addGuest_28 rfl ?_
  refine PW_iast (j := n) (w2 := E x (sA (sA (sA y 71 (upd (y.2.1 71) n a)) 72 (upd (y.2.1 72) n b)) 73 (upd (y.2.1 73) n c))) c_M_addGuest_29 (ar_73 _ _) (by rw [h561]; exact vp_in_nI (by omega) (by decide)) (by rw [h561]; exact nI_clamp (by omega)) (aw_73 _ _ _) ?_
  refine PW_aload_n c_M_addGuest_30 rfl ?_
  refine PW_get (v := .ref 74) c_M_addGuest_31 fl_M_19 (gf_70_5 _ _) ?_
  refine PW_aload_n c_M_addGuest_34 rfl ?_
  refine PW_get (v := .int (y.1 561)) c_M_addGuest_35 fl_M_128 (gf_70_1 _ _) ?_
  refine PW_iload c_M_addGuest_38 rfl ?_
  refine PW_iast (j := n) (w2 := E x (sA (sA (sA (sA y 71 (upd (y.2.1 71) n a)) 72 (upd (y.2.1 72) n b)) 73 (upd (y.2.1 73) n c)) 74 (upd (y.2.1 74) n t))) c_M_addGuest_40 (ar_74 _ _) (by rw [h561]; exact vp_in_nI (by omega) (by decide)) (by rw [h561]; exact nI_clamp (by omega)) (aw_74 _ _ _) ?_
  refine PW_aload_n c_M_addGuest_41 rfl ?_
  refine PW_get (v := .ref 75) c_M_addGuest_42 fl_M_22 (gf_70_6 _ _) ?_
  refine PW_aload_n c_M_addGuest_45 rfl ?_
  refine PW_get (v := .int (y.1 561)) c_M_addGuest_46 fl_M_128 (gf_70_1 _ _) ?_
  refine PW_iconst (v := 1) c_M_addGuest_49 (by decide) ?_
  refine PW_iast (j := n) (w2 := E x (sA (sA (sA (sA (sA y 71 (upd (y.2.1 71) n a)) 72 (upd (y.2.1 72) n b)) 73 (upd (y.2.1 73) n c)) 74 (upd (y.2.1 74) n t)) 75 (upd (y.2.1 75) n 1))) c_M_addGuest_50 (ar_75 _ _) (by rw [h561]; exact vp_in_nI (by omega) (by decide)) (by rw [h561]; exact nI_clamp (by omega)) (aw_75 _ _ _) ?_
  refine PW_aload_n c_M_addGuest_51 rfl ?_
  refine PW_get (v := .ref 76) c_M_addGuest_52 fl_M_25 (gf_70_7 _ _) ?_
  refine PW_aload_n c_M_addGuest_55 rfl ?_
  refine PW_get (v := .int (y.1 561)) c_M_addGuest_56 fl_M_128 (gf_70_1 _ _) ?_
  refine PW_iconst (v := 0) c_M_addGuest_59 (by decide) ?_
  refine PW_iast (j := n) (w2 := E x (sA (sA (sA (sA (sA (sA y 71 (upd (y.2.1 71) n a)) 72 (upd (y.2.1 72) n b)) 73 (upd (y.2.1 73) n c)) 74 (upd (y.2.1 74) n t)) 75 (upd (y.2.1 75) n 1)) 76 (upd (y.2.1 76) n 0))) c_M_addGuest_60 (ar_76 _ _) (by rw [h561]; exact vp_in_nI (by omega) (by decide)) (by rw [h561]; exact nI_clamp (by omega)) (aw_76 _ _ _) ?_
  refine PW_aload_n c_M_addGuest_61 rfl ?_
  refine PW_get (v := .ref 77) c_M_addGuest_62 fl_M_28 (gf_70_8 _ _) ?_
  refine PW_aload_n c_M_addGuest_65 rfl ?_
  refine PW_get (v := .int (y.1 561)) c_M_addGuest_66 fl_M_128 (gf_70_1 _ _) ?_
  refine PW_bipush (v := 11) c_M_addGuest_69 (by decide) ?_
  refine PW_iast (j := n) (w2 := E x (sA (sA (sA (sA (sA (sA (sA y 71 (upd (y.2.1 71) n a)) 72 (upd (y.2.1 72) n b)) 73 (upd (y.2.1 73) n c)) 74 (upd (y.2.1 74) n t)) 75 (upd (y.2.1 75) n 1)) 76 (upd (y.2.1 76) n 0)) 77 (upd (y.2.1 77) n 11))) c_M_addGuest_71 (ar_77 _ _) (by rw [h561]; exact vp_in_nI (by omega) (by decide)) (by rw [h561]; exact nI_clamp (by omega)) (aw_77 _ _ _) ?_
  refine PW_aload_n c_M_addGuest_72 rfl ?_
  refine PW_dup c_M_addGuest_73 rfl ?_
  refine PW_get (v := .int (y.1 561)) c_M_addGuest_74 fl_M_128 (gf_70_1 _ _) ?_
  refine PW_iconst (v := 1) c_M_addGuest_77 (by decide) ?_
  refine PW_iadd c_M_addGuest_78 ?_
  refine PW_put (w2 := E x (sI (sA (sA (sA (sA (sA (sA (sA y 71 (upd (y.2.1 71) n a)) 72 (upd (y.2.1 72) n b)) 73 (upd (y.2.1 73) n c)) 74 (upd (y.2.1 74) n t)) 75 (upd (y.2.1 75) n 1)) 76 (upd (y.2.1 76) n 0)) 77 (upd (y.2.1 77) n 11)) 561 ((y.1 561) + 1))) c_M_addGuest_79 fp_M_addGuest_128 rfl (pf_70_1 _ _ _) ?_
  refine PW_aload_n c_M_addGuest_82 rfl ?_
  refine PW_get (v := .int ((y.1 561) + 1)) c_M_addGuest_83 fl_M_128 (gf_70_1 _ _) ?_
  refine PW_iconst (v := 1) c_M_addGuest_86 (by decide) ?_
  refine PW_isub c_M_addGuest_87 ?_
  refine PW_ireturn (ty := .int) c_M_addGuest_88 rfl rfl ?_
  rw [h561, nI_1, pr1]
  exact h
theorem wcX_row {x : XS} {n k i : Nat} {a b c t : Int32} (hk : k < 8) : (wcX x n a b c t).2.1 (8 + k) i = if i = n ∧ ¬ (k = 5 ∨ k = 7) then (if k = 0 then a else if k = 1 then b else if k = 2 then c else if k = 3 then t else if k = 4 then 1 else 11) else x.2.1 (8 + k) i := by
  unfold wcX
  rw [sfX_row (by decide) hk, sfX_row (by decide) hk, sfX_row (by decide) hk, sfX_row (by decide) hk, sfX_row (by decide) hk, sfX_row (by decide) hk, sI_A]
  by_cases q : i = n
  · subst q
    rcases (show k = 0 ∨ k = 1 ∨ k = 2 ∨ k = 3 ∨ k = 4 ∨ k = 5 ∨ k = 6 ∨ k = 7 by omega) with rfl | rfl | rfl | rfl | rfl | rfl | rfl | rfl <;> simp
  · simp [q]
theorem agY_row {y : XS} {n k i : Nat} {a b c t : Int32} (hk : k < 8) : (agY y n a b c t).2.1 (71 + k) i = if i = n ∧ ¬ k = 7 then (if k = 0 then a else if k = 1 then b else if k = 2 then c else if k = 3 then t else if k = 4 then 1 else if k = 5 then 0 else 11) else y.2.1 (71 + k) i := by
  unfold agY
  rw [sI_A, sA_A, sA_A, sA_A, sA_A, sA_A, sA_A, sA_A]
  rcases (show k = 0 ∨ k = 1 ∨ k = 2 ∨ k = 3 ∨ k = 4 ∨ k = 5 ∨ k = 6 ∨ k = 7 by omega) with rfl | rfl | rfl | rfl | rfl | rfl | rfl | rfl <;> (by_cases q : i = n <;> simp [q, upd_s, upd_n])
theorem wcX_1 {x : XS} {n m : Nat} {a b c t : Int32} (h : m ≠ 51) (h2 : m ≠ 52) (h3 : m ≠ 53) : (wcX x n a b c t).1 m = x.1 m := by
  unfold wcX
  rw [sfX_1 h2 h3, sfX_1 h2 h3, sfX_1 h2 h3, sfX_1 h2 h3, sfX_1 h2 h3, sfX_1 h2 h3, sI_n h]
theorem sfX_pre {w g r : Nat} {x : XS} {v : Int32} (hw : 3 ≤ w) (hw8 : w < 8) (hr : r < 5) : (sfX w x g v).2.1 (17 + r) = x.2.1 (17 + r) := by
  unfold sfX
  rw [if_neg (by omega)]
  split
  · exact if_neg (by omega)
  · split
    · exact if_neg (by omega)
    · exact if_neg (by omega)
theorem sfX_pre2 {w g r m : Nat} {x : XS} {v : Int32} (hw : w ≤ 2) (hr : r < 5) (hm : m < 100) : (sfX w x g v).2.1 (17 + r) m = wb (x.2.1 (17 + r) m) g (decide (rX (sfX w x g v) g (nI m) = nI r)) := by
  have hx : sfX w x g v = seK (sA x (8 + w) (upd (x.2.1 (8 + w)) g v)) g 100 0 := if_pos hw
  rw [hx, rX_seK, seK_end hr, if_pos hm]
  exact congrArg (fun f : Nat → Int32 => wb (f m) g _) (if_neg (show ¬ 17 + r = 8 + w by omega))
theorem frX_wc {x : XS} {n : Nat} {a b c t : Int32} : frX x (wcX x n a b c t) := by
  refine ⟨fun m hm => wcX_1 (by omega) (by omega) (by omega), fun k hk => ?_, ?_⟩
  · unfold wcX
    rw [(frX_st (by decide)).2.1 k hk, (frX_st (by decide)).2.1 k hk, (frX_st (by decide)).2.1 k hk, (frX_st (by decide)).2.1 k hk, (frX_st (by decide)).2.1 k hk, (frX_st (by decide)).2.1 k hk]
    rfl
  · unfold wcX
    rw [sfX_G, sfX_G, sfX_G, sfX_G, sfX_G, sfX_G]
    rfl
theorem frY_ag {y : XS} {n : Nat} {a b c t : Int32} : frY y (agY y n a b c t) := by
  refine ⟨fun m hm => ?_, fun k hk => ?_, rfl⟩
  · unfold agY
    rw [sI_n hm]
    rfl
  · unfold agY
    rw [sI_A, sA_A, if_neg (by omega), sA_A, if_neg (by omega), sA_A, if_neg (by omega), sA_A, if_neg (by omega), sA_A, if_neg (by omega), sA_A, if_neg (by omega), sA_A, if_neg (by omega)]
theorem orS_cong {f g : Nat → Int32} : ∀ {n : Nat}, (∀ k, k < n → f k = g k) → orS f n = orS g n
  | 0, _ => rfl
  | n + 1, h => by rw [orS, orS, h n (by omega), orS_cong (fun k hk => h k (by omega))]
theorem CPg_new {x y : XS} {a b c t : Int32} (C : CPg x y) (hn : nG y < 10) (ha : okv 0 a) (hb : okv 1 b) (hc : okv 2 c) (ht : okv 3 t) : nG (agY y (nG y) a b c t) = nG y + 1 ∧ CPg (wcX x (nG y) a b c t) (agY y (nG y) a b c t) := by
  obtain ⟨h1, h2, h3, h4, h5, h6, h7, h8⟩ := id C
  generalize hN : nG y = n at *
  have e561 : (agY y n a b c t).1 561 = nI (n + 1) := sI_s
  have e : nG (agY y n a b c t) = n + 1 := by unfold nG; rw [e561]; exact nI_clamp (by omega)
  refine ⟨e, ⟨by rw [e561, e], by omega⟩, ?_, fun k hk i hi => ?_, fun i hi => ?_, fun i q1 q2 => ?_, fun r m hr hm => ?_, ?_, ?_⟩
  · rw [e561]
    unfold wcX
    rw [sfX_1 (by decide) (by decide), sfX_1 (by decide) (by decide), sfX_1 (by decide) (by decide), sfX_1 (by decide) (by decide), sfX_1 (by decide) (by decide), sfX_1 (by decide) (by decide), sI_s]
  · rw [wcX_row (by omega), agY_row (by omega)]
    by_cases q : i = n
    · subst q
      rcases (show k = 0 ∨ k = 1 ∨ k = 2 ∨ k = 3 ∨ k = 4 ∨ k = 5 ∨ k = 6 by omega) with rfl | rfl | rfl | rfl | rfl | rfl | rfl
      · simp; exact ha
      · simp; exact hb
      · simp; exact hc
      · simp; exact ht
      · simp; exact (by decide : (0 : Int) ≤ (1 : Int32).toInt ∧ (1 : Int32).toInt ≤ 1)
      · simp
        exact ⟨h5 i (Nat.le_refl _) (by omega), (by decide : (0 : Int) ≤ (0 : Int32).toInt ∧ (0 : Int32).toInt ≤ 1)⟩
      · simp; exact (by decide : (1 : Int) ≤ (11 : Int32).toInt ∧ (11 : Int32).toInt ≤ 11)
    · rw [if_neg (fun z => q z.1), if_neg (fun z => q z.1)]
      exact h3 k hk i (by rw [e] at hi; omega)
  · have r1 := wcX_row (x := x) (n := n) (k := 7) (i := i) (a := a) (b := b) (c := c) (t := t) (by decide)
    have r2 := agY_row (y := y) (n := n) (k := 7) (i := i) (a := a) (b := b) (c := c) (t := t) (by decide)
    rw [if_neg (fun z => z.2 (Or.inr rfl))] at r1
    rw [if_neg (fun z => z.2 rfl)] at r2
    rw [show 15 = 8 + 7 from rfl, show 78 = 71 + 7 from rfl, r1, r2]
    exact h4 i hi
  · have r1 := wcX_row (x := x) (n := n) (k := 5) (i := i) (a := a) (b := b) (c := c) (t := t) (by decide)
    rw [if_neg (fun z => z.2 (Or.inl rfl))] at r1
    rw [show 13 = 8 + 5 from rfl, r1]
    exact h5 i (by rw [e] at q1; omega) q2
  · have hrow : ∀ k, k < 3 → (wcX x n a b c t).2.1 (8 + k) n = (agY y n a b c t).2.1 (71 + k) n := fun k hk => by
      rw [wcX_row (by omega), agY_row (by omega)]
      rcases (show k = 0 ∨ k = 1 ∨ k = 2 by omega) with rfl | rfl | rfl <;> simp
    have hp : (wcX x n a b c t).2.1 (17 + r) m = wb (x.2.1 (17 + r) m) n (decide (rX (wcX x n a b c t) n (nI m) = nI r)) := by
      unfold wcX
      rw [sfX_pre2 (by decide) hr hm, sfX_pre2 (by decide) hr hm, wb_wb hn, sfX_pre (by decide) (by decide) hr, sfX_pre (by decide) (by decide) hr, sfX_pre (by decide) (by decide) hr, sfX_pre2 (by decide) hr hm, wb_wb hn]
      rfl
    rw [hp, h6 r m hr hm, rX_rO hrow]
    unfold thI
    rw [e, hN]
    have hold : ∀ i, i < n → rO (agY y n a b c t) i (nI m) = rO y i (nI m) := fun i hi => by
      unfold rO
      rw [show (71 : Nat) = 71 + 0 from rfl, show (72 : Nat) = 71 + 1 from rfl, show (73 : Nat) = 71 + 2 from rfl, agY_row (by decide), agY_row (by decide), agY_row (by decide), if_neg (show ¬ (i = n ∧ ¬ 0 = 7) by omega), if_neg (show ¬ (i = n ∧ ¬ 1 = 7) by omega), if_neg (show ¬ (i = n ∧ ¬ 2 = 7) by omega)]
    rw [bitsT_cong (q := fun g => rO (agY y n a b c t) g (nI m) == nI r) (fun i hi => by rw [hold i hi])]
    refine wb_new hn ?_
    by_cases z : rO (agY y n a b c t) n (nI m) = nI r
    · rw [decide_eq_true z]; exact beq_iff_eq.mpr z
    · rw [decide_eq_false z]; exact beq_eq_false_iff_ne.mpr z
  · have q1 : (wcX x n a b c t).1 52 = wb (x.1 52) n true := by
      unfold wcX sfX
      rfl
    have q2 : (agY y n a b c t).2.1 75 = upd (y.2.1 75) n 1 := rfl
    unfold mustB at h7 ⊢
    rw [q1, q2, e, h7, hN, orS, upd_s]
    unfold wb
    rw [if_pos rfl]
    refine congrArg (fun v => v ||| (1 <<< (nI n &&& 31))) ?_
    exact orS_cong fun k hk => (upd_n (by omega)).symm
  · have q1 : (wcX x n a b c t).1 53 = x.1 53 := by
      unfold wcX sfX
      rfl
    have q2 : (agY y n a b c t).2.1 76 = upd (y.2.1 76) n 0 := rfl
    unfold hostB at h8 ⊢
    rw [q1, q2, e, h8, hN, orS, upd_s, sh_0 hn]
    refine (orS_cong (g := upd (y.2.1 76) n 0) fun k hk => (upd_n (by omega)).symm).trans ?_
    exact bt_ext fun i hi => by rw [bt_or, bt_0, Bool.or_false]
