theorem sp_L_push {z : ZS} {post : Option Value → List PE → Prop} {x y : XS} {v : Int32} {f : Nat → Int32} {n : Nat} (hn : n < 250) (h : post none (E (sI (sA x 26 ((upd f n v))) 181 (nI (n + 1))) y)) : PW (0, 0, 0, z) m_L_push post 0 [some (.ref 22), some (.int v)] [] (E (sI (sA x 26 f) 181 (nI n)) y) := by
  refine PW_aload_n c_L_push_0 rfl ?_
  refine PW_get (v := .int (nI n)) c_L_push_1 fl_L_68 (gf_22_5 _ _) ?_
  refine PW_if_lt c_L_push_4 (fun h0 => absurd h0 (nI_pos (by omega))) (fun h0 => ?_)
  refine PW_aload_n c_L_push_7 rfl ?_
  refine PW_get (v := .int (nI n)) c_L_push_8 fl_L_68 (gf_22_5 _ _) ?_
  refine PW_sipush (v := 256) c_L_push_11 (by decide) ?_
  refine PW_icmp_ge c_L_push_14 (fun h1 => absurd h1 (fun q => absurd ((nI_leI (by decide) (by omega)).mp (show nI 256 ≤ nI n from q)) (by omega))) (fun h1 => ?_)
  refine PW_aload_n c_L_push_17 rfl ?_
  refine PW_get (v := .ref 26) c_L_push_18 fl_L_19 (gf_22_3 _ _) ?_
  refine PW_aload_n c_L_push_21 rfl ?_
  refine PW_get (v := .int (nI n)) c_L_push_22 fl_L_68 (gf_22_5 _ _) ?_
  refine PW_iload_n c_L_push_25 rfl ?_
  refine PW_iast (j := n) (w2 := E (sA (sI (sA x 26 f) 181 (nI n)) 26 (upd f n v)) y) c_L_push_26 (ar_26 _ _) (vp_in_nI (by omega) (by decide)) (nI_clamp (by omega)) (aw_26 _ _ _) ?_
  refine PW_aload_n c_L_push_27 rfl ?_
  refine PW_dup c_L_push_28 rfl ?_
  refine PW_get (v := .int (nI n)) c_L_push_29 fl_L_68 (gf_22_5 _ _) ?_
  refine PW_iconst (v := 1) c_L_push_32 (by decide) ?_
  refine PW_iadd c_L_push_33 ?_
  refine PW_put (w2 := E (sI (sA (sI (sA x 26 f) 181 (nI n)) 26 (upd f n v)) 181 ((nI n) + 1)) y) c_L_push_34 fp_L_push_68 rfl (pf_22_5 _ _ _) ?_
  refine PW_vreturn c_L_push_37 rfl ?_
  rw [sAsI, sA_sA, sI_sI, nI_1]
  exact h
theorem sp_L_pop {z : ZS} {post : Option Value → List PE → Prop} {x y : XS} {f : Nat → Int32} {n : Nat} (hn : n < 250) (h : post (some (.int (f n))) (E (sI (sA x 26 f) 181 (nI n)) y)) : PW (0, 0, 0, z) m_L_pop post 0 [some (.ref 22)] [] (E (sI (sA x 26 f) 181 (nI (n + 1))) y) := by
  refine PW_aload_n c_L_pop_0 rfl ?_
  refine PW_get (v := .int (nI (n + 1))) c_L_pop_1 fl_L_68 (gf_22_5 _ _) ?_
  refine PW_iconst (v := 1) c_L_pop_4 (by decide) ?_
  refine PW_icmp_lt c_L_pop_5 (fun h0 => absurd h0 (fun q => absurd ((nI_ltI (by omega) (by decide)).mp (show nI (n + 1) < nI 1 from q)) (by omega))) (fun h0 => ?_)
  refine PW_aload_n c_L_pop_8 rfl ?_
  refine PW_get (v := .int (nI (n + 1))) c_L_pop_9 fl_L_68 (gf_22_5 _ _) ?_
  refine PW_sipush (v := 256) c_L_pop_12 (by decide) ?_
  refine PW_icmp_le c_L_pop_15 (fun h1 => ?_) (fun h1 => absurd ((nI_leI (by omega) (by decide)).mpr (show n + 1 ≤ 256 by omega)) h1)
  refine PW_aload_n c_L_pop_20 rfl ?_
  refine PW_dup c_L_pop_21 rfl ?_
  refine PW_get (v := .int (nI (n + 1))) c_L_pop_22 fl_L_68 (gf_22_5 _ _) ?_
  refine PW_iconst (v := 1) c_L_pop_25 (by decide) ?_
  refine PW_isub c_L_pop_26 ?_
  refine PW_put (w2 := E (sI (sI (sA x 26 f) 181 (nI (n + 1))) 181 ((nI (n + 1)) - 1)) y) c_L_pop_27 fp_L_pop_68 rfl (pf_22_5 _ _ _) ?_
  refine PW_aload_n c_L_pop_30 rfl ?_
  refine PW_get (v := .ref 26) c_L_pop_31 fl_L_19 (gf_22_3 _ _) ?_
  refine PW_aload_n c_L_pop_34 rfl ?_
  refine PW_get (v := .int ((nI (n + 1)) - 1)) c_L_pop_35 fl_L_68 (gf_22_5 _ _) ?_
  refine PW_iald (j := n) c_L_pop_38 (ar_26 _ _) (by rw [pr1]; exact vp_in_nI (by omega) (by decide)) (by rw [pr1]; exact nI_clamp (by omega)) ?_
  show PW _ _ _ 39 [some (.ref 22)] [.int (f n)] (E (sI (sI (sA x 26 f) 181 (nI (n + 1))) 181 ((nI (n + 1)) - 1)) y)
  refine PW_ireturn (ty := .int) c_L_pop_39 rfl rfl ?_
  rw [sI_sI, pr1]
  exact h
theorem sp_ap_48 {z : ZS} {post : Option Value → List PE → Prop} {x y : XS} {v : Int32} {f : Nat → Int32} {n : Nat} (hn : n < 240) (h : post none (E (sI (sA x 26 ((upd f n v))) 181 (nI (n + 1))) y)) : PW (1, 0, 0, z) m_L_apply post 0 [some (.ref 22), some (.int 48), some (.int v), none, none] [] (E (sI (sA x 26 f) 181 (nI n)) y) := by
  refine PW_iload_n c_L_apply_0 rfl ?_
  refine PW_bipush (v := 48) c_L_apply_1 (by decide) ?_
  refine PW_icmp_ne c_L_apply_3 (fun h0 => absurd (by decide) h0) (fun _ => ?_)
  refine PW_aload_n c_L_apply_6 rfl ?_
  refine PW_iload_n c_L_apply_7 rfl ?_
  refine PW_V0 (d2 := 0) (st := []) [.int v] c_L_apply_8 lk_L_apply_78 (po_22 _ _) rfl rfl rfl (Nat.le_of_ble_eq_true rfl) (by first | decide | omega) (Nat.le_of_ble_eq_true rfl) ?_
  refine sp_L_push (by omega) ?_
  show PW _ _ _ 11 [some (.ref 22), some (.int 48), some (.int v), none, none] [] (E (sI (sA x 26 (upd f n v)) 181 (nI (n + 1))) y)
  refine PW_goto c_L_apply_11 ?_
  refine PW_vreturn c_L_apply_111 rfl ?_
  exact h
theorem sp_ap_97 {z : ZS} {post : Option Value → List PE → Prop} {x y : XS} {v : Int32} {f : Nat → Int32} {n : Nat} (hn : n < 240) (hv : 0 ≤ v.toInt ∧ v.toInt < 5) (h : post none (E (sI (sA x 26 ((upd f n (x.2.1 25 v.toNatClampNeg)))) 181 (nI (n + 1))) y)) : PW (1, 0, 0, z) m_L_apply post 0 [some (.ref 22), some (.int 97), some (.int v), none, none] [] (E (sI (sA x 26 f) 181 (nI n)) y) := by
  refine PW_iload_n c_L_apply_0 rfl ?_
  refine PW_bipush (v := 48) c_L_apply_1 (by decide) ?_
  refine PW_icmp_ne c_L_apply_3 (fun _ => ?_) (fun h0 => absurd h0 (by decide))
  refine PW_iload_n c_L_apply_14 rfl ?_
  refine PW_bipush (v := 97) c_L_apply_15 (by decide) ?_
  refine PW_icmp_ne c_L_apply_17 (fun h1 => absurd (by decide) h1) (fun _ => ?_)
  refine PW_aload_n c_L_apply_20 rfl ?_
  refine PW_iload_n c_L_apply_21 rfl ?_
  refine PW_if_lt c_L_apply_22 (fun h2 => absurd h2 (by rw [Int32.lt_iff_toInt_lt, tiA.1]; omega)) (fun h2 => ?_)
  refine PW_iload_n c_L_apply_25 rfl ?_
  refine PW_iconst (v := 5) c_L_apply_26 (by decide) ?_
  refine PW_icmp_ge c_L_apply_27 (fun h3 => absurd h3 (by rw [Int32.le_iff_toInt_le, show (5 : Int32).toInt = 5 by decide]; omega)) (fun h3 => ?_)
  refine PW_aload_n c_L_apply_30 rfl ?_
  refine PW_get (v := .ref 25) c_L_apply_31 fl_L_16 (gf_22_2 _ _) ?_
  refine PW_iload_n c_L_apply_34 rfl ?_
  refine PW_iald (j := v.toNatClampNeg) c_L_apply_35 (ar_25 _ _) (vp_in_iff.mpr ⟨hv.1, by omega⟩) rfl ?_
  show PW _ _ _ 36 [some (.ref 22), some (.int 97), some (.int v), none, none] [.int ((x.2.1 25) v.toNatClampNeg), .ref 22] (E (sI (sA x 26 f) 181 (nI n)) y)
  refine PW_goto c_L_apply_36 ?_
  refine PW_V0 (d2 := 0) (st := []) [.int ((x.2.1 25) v.toNatClampNeg)] c_L_apply_40 lk_L_apply_78 (po_22 _ _) rfl rfl rfl (Nat.le_of_ble_eq_true rfl) (by first | decide | omega) (Nat.le_of_ble_eq_true rfl) ?_
  refine sp_L_push (by omega) ?_
  show PW _ _ _ 43 [some (.ref 22), some (.int 97), some (.int v), none, none] [] (E (sI (sA x 26 (upd f n ((x.2.1 25) v.toNatClampNeg))) 181 (nI (n + 1))) y)
  refine PW_goto c_L_apply_43 ?_
  refine PW_vreturn c_L_apply_111 rfl ?_
  exact h
theorem sp_ap_33 {z : ZS} {post : Option Value → List PE → Prop} {x y : XS} {v : Int32} {f : Nat → Int32} {n : Nat} (hn : n < 240) (h : post none (E (sI (sA x 26 ((upd f n (if f n = 0 then 1 else 0)))) 181 (nI (n + 1))) y)) : PW (1, 0, 0, z) m_L_apply post 0 [some (.ref 22), some (.int 33), some (.int v), none, none] [] (E (sI (sA x 26 f) 181 (nI (n + 1))) y) := by
  by_cases hv : f n = 0
  · rw [if_pos hv] at h
    refine PW_iload_n c_L_apply_0 rfl ?_
    refine PW_bipush (v := 48) c_L_apply_1 (by decide) ?_
    refine PW_icmp_ne c_L_apply_3 (fun _ => ?_) (fun h0 => absurd h0 (by decide))
    refine PW_iload_n c_L_apply_14 rfl ?_
    refine PW_bipush (v := 97) c_L_apply_15 (by decide) ?_
    refine PW_icmp_ne c_L_apply_17 (fun _ => ?_) (fun h1 => absurd h1 (by decide))
    refine PW_iload_n c_L_apply_46 rfl ?_
    refine PW_bipush (v := 33) c_L_apply_47 (by decide) ?_
    refine PW_icmp_ne c_L_apply_49 (fun h2 => absurd (by decide) h2) (fun _ => ?_)
    refine PW_aload_n c_L_apply_52 rfl ?_
    refine PW_aload_n c_L_apply_53 rfl ?_
    refine PW_V0 (d2 := 0) (st := [.ref 22]) [] c_L_apply_54 lk_L_apply_71 (po_22 _ _) rfl rfl rfl (Nat.le_of_ble_eq_true rfl) (by first | decide | omega) (Nat.le_of_ble_eq_true rfl) ?_
    refine sp_L_pop (n := n) (by omega) ?_
    show PW _ _ _ 57 [some (.ref 22), some (.int 33), some (.int v), none, none] [.int (f n), .ref 22] (E (sI (sA x 26 f) 181 (nI n)) y)
    refine PW_if_ne c_L_apply_57 (fun h3 => absurd h3 (not_not_intro hv)) (fun h3 => ?_)
    refine PW_iconst (v := 1) c_L_apply_60 (by decide) ?_
    refine PW_goto c_L_apply_61 ?_
    refine PW_V0 (d2 := 0) (st := []) [.int 1] c_L_apply_65 lk_L_apply_78 (po_22 _ _) rfl rfl rfl (Nat.le_of_ble_eq_true rfl) (by first | decide | omega) (Nat.le_of_ble_eq_true rfl) ?_
    refine sp_L_push (by omega) ?_
    show PW _ _ _ 68 [some (.ref 22), some (.int 33), some (.int v), none, none] [] (E (sI (sA x 26 (upd f n (1 : Int32))) 181 (nI (n + 1))) y)
    refine PW_goto c_L_apply_68 ?_
    refine PW_vreturn c_L_apply_111 rfl ?_
    exact h
  · rw [if_neg hv] at h
    refine PW_iload_n c_L_apply_0 rfl ?_
    refine PW_bipush (v := 48) c_L_apply_1 (by decide) ?_
    refine PW_icmp_ne c_L_apply_3 (fun _ => ?_) (fun h0 => absurd h0 (by decide))
    refine PW_iload_n c_L_apply_14 rfl ?_
    refine PW_bipush (v := 97) c_L_apply_15 (by decide) ?_
    refine PW_icmp_ne c_L_apply_17 (fun _ => ?_) (fun h1 => absurd h1 (by decide))
    refine PW_iload_n c_L_apply_46 rfl ?_
    refine PW_bipush (v := 33) c_L_apply_47 (by decide) ?_
    refine PW_icmp_ne c_L_apply_49 (fun h2 => absurd (by decide) h2) (fun _ => ?_)
    refine PW_aload_n c_L_apply_52 rfl ?_
    refine PW_aload_n c_L_apply_53 rfl ?_
    refine PW_V0 (d2 := 0) (st := [.ref 22]) [] c_L_apply_54 lk_L_apply_71 (po_22 _ _) rfl rfl rfl (Nat.le_of_ble_eq_true rfl) (by first | decide | omega) (Nat.le_of_ble_eq_true rfl) ?_
    refine sp_L_pop (n := n) (by omega) ?_
    show PW _ _ _ 57 [some (.ref 22), some (.int 33), some (.int v), none, none] [.int (f n), .ref 22] (E (sI (sA x 26 f) 181 (nI n)) y)
    refine PW_if_ne c_L_apply_57 (fun h3 => ?_) (fun h3 => absurd h3 hv)
    refine PW_iconst (v := 0) c_L_apply_64 (by decide) ?_
    refine PW_V0 (d2 := 0) (st := []) [.int 0] c_L_apply_65 lk_L_apply_78 (po_22 _ _) rfl rfl rfl (Nat.le_of_ble_eq_true rfl) (by first | decide | omega) (Nat.le_of_ble_eq_true rfl) ?_
    refine sp_L_push (by omega) ?_
    show PW _ _ _ 68 [some (.ref 22), some (.int 33), some (.int v), none, none] [] (E (sI (sA x 26 (upd f n (0 : Int32))) 181 (nI (n + 1))) y)
    refine PW_goto c_L_apply_68 ?_
    refine PW_vreturn c_L_apply_111 rfl ?_
    exact h
theorem sp_ap_126 {z : ZS} {post : Option Value → List PE → Prop} {x y : XS} {v : Int32} {f : Nat → Int32} {n : Nat} (hn : n < 240) (h : post none (E (sI (sA x 26 ((upd f n (-(f n))))) 181 (nI (n + 1))) y)) : PW (1, 0, 0, z) m_L_apply post 0 [some (.ref 22), some (.int 126), some (.int v), none, none] [] (E (sI (sA x 26 f) 181 (nI (n + 1))) y) := by
  refine PW_iload_n c_L_apply_0 rfl ?_
  refine PW_bipush (v := 48) c_L_apply_1 (by decide) ?_
  refine PW_icmp_ne c_L_apply_3 (fun _ => ?_) (fun h0 => absurd h0 (by decide))
  refine PW_iload_n c_L_apply_14 rfl ?_
  refine PW_bipush (v := 97) c_L_apply_15 (by decide) ?_
  refine PW_icmp_ne c_L_apply_17 (fun _ => ?_) (fun h1 => absurd h1 (by decide))
  refine PW_iload_n c_L_apply_46 rfl ?_
  refine PW_bipush (v := 33) c_L_apply_47 (by decide) ?_
  refine PW_icmp_ne c_L_apply_49 (fun _ => ?_) (fun h2 => absurd h2 (by decide))
  refine PW_iload_n c_L_apply_71 rfl ?_
  refine PW_bipush (v := 126) c_L_apply_72 (by decide) ?_
  refine PW_icmp_ne c_L_apply_74 (fun h3 => absurd (by decide) h3) (fun _ => ?_)
  refine PW_aload_n c_L_apply_77 rfl ?_
  refine PW_aload_n c_L_apply_78 rfl ?_
  refine PW_V0 (d2 := 0) (st := [.ref 22]) [] c_L_apply_79 lk_L_apply_71 (po_22 _ _) rfl rfl rfl (Nat.le_of_ble_eq_true rfl) (by first | decide | omega) (Nat.le_of_ble_eq_true rfl) ?_
  refine sp_L_pop (n := n) (by omega) ?_
  show PW _ _ _ 82 [some (.ref 22), some (.int 126), some (.int v), none, none] [.int (f n), .ref 22] (E (sI (sA x 26 f) 181 (nI n)) y)
  refine PW_ineg c_L_apply_82 ?_
  refine PW_V0 (d2 := 0) (st := []) [.int (-(f n))] c_L_apply_83 lk_L_apply_78 (po_22 _ _) rfl rfl rfl (Nat.le_of_ble_eq_true rfl) (by first | decide | omega) (Nat.le_of_ble_eq_true rfl) ?_
  refine sp_L_push (by omega) ?_
  show PW _ _ _ 86 [some (.ref 22), some (.int 126), some (.int v), none, none] [] (E (sI (sA x 26 (upd f n (-(f n)))) 181 (nI (n + 1))) y)
  refine PW_goto c_L_apply_86 ?_
  refine PW_vreturn c_L_apply_111 rfl ?_
  exact h
theorem sp_ap_37 {z : ZS} {post : Option Value → List PE → Prop} {x y : XS} {v : Int32} {f : Nat → Int32} {n : Nat} (hn : n < 240) (h : post none (E (sI (sA x 26 ((upd f n (twF 37 (f n) (f (n + 1)))))) 181 (nI (n + 1))) y)) : PW (1, 0, 0, z) m_L_apply post 0 [some (.ref 22), some (.int 37), some (.int v), none, none] [] (E (sI (sA x 26 f) 181 (nI (n + 2))) y) := by
  refine PW_iload_n c_L_apply_0 rfl ?_
  refine PW_bipush (v := 48) c_L_apply_1 (by decide) ?_
  refine PW_icmp_ne c_L_apply_3 (fun _ => ?_) (fun h0 => absurd h0 (by decide))
  refine PW_iload_n c_L_apply_14 rfl ?_
  refine PW_bipush (v := 97) c_L_apply_15 (by decide) ?_
  refine PW_icmp_ne c_L_apply_17 (fun _ => ?_) (fun h1 => absurd h1 (by decide))
  refine PW_iload_n c_L_apply_46 rfl ?_
  refine PW_bipush (v := 33) c_L_apply_47 (by decide) ?_
  refine PW_icmp_ne c_L_apply_49 (fun _ => ?_) (fun h2 => absurd h2 (by decide))
  refine PW_iload_n c_L_apply_71 rfl ?_
  refine PW_bipush (v := 126) c_L_apply_72 (by decide) ?_
  refine PW_icmp_ne c_L_apply_74 (fun _ => ?_) (fun h3 => absurd h3 (by decide))
  refine PW_aload_n c_L_apply_89 rfl ?_
  refine PW_V0 (d2 := 0) (st := []) [] c_L_apply_90 lk_L_apply_71 (po_22 _ _) rfl rfl rfl (Nat.le_of_ble_eq_true rfl) (by first | decide | omega) (Nat.le_of_ble_eq_true rfl) ?_
  refine sp_L_pop (n := (n + 1)) (by omega) ?_
  show PW _ _ _ 93 [some (.ref 22), some (.int 37), some (.int v), none, none] [.int (f (n + 1))] (E (sI (sA x 26 f) 181 (nI (n + 1))) y)
  refine PW_istore_n (i := 3) (L2 := [some (.ref 22), some (.int 37), some (.int v), some (.int (f (n + 1))), none]) c_L_apply_93 rfl (Nat.le_of_ble_eq_true rfl) rfl rfl ?_
  refine PW_aload_n c_L_apply_94 rfl ?_
  refine PW_V0 (d2 := 0) (st := []) [] c_L_apply_95 lk_L_apply_71 (po_22 _ _) rfl rfl rfl (Nat.le_of_ble_eq_true rfl) (by first | decide | omega) (Nat.le_of_ble_eq_true rfl) ?_
  refine sp_L_pop (n := n) (by omega) ?_
  show PW _ _ _ 98 [some (.ref 22), some (.int 37), some (.int v), some (.int (f (n + 1))), none] [.int (f n)] (E (sI (sA x 26 f) 181 (nI n)) y)
  refine PW_istore (i := 4) (L2 := [some (.ref 22), some (.int 37), some (.int v), some (.int (f (n + 1))), some (.int (f n))]) c_L_apply_98 (Nat.le_of_ble_eq_true rfl) rfl rfl ?_
  refine PW_aload_n c_L_apply_100 rfl ?_
  refine PW_iload_n c_L_apply_101 rfl ?_
  refine PW_iload c_L_apply_102 rfl ?_
  refine PW_iload_n c_L_apply_104 rfl ?_
  refine PW_S0 (d2 := 0) (st := [.ref 22]) [.int 37, .int (f n), .int (f (n + 1))] c_L_apply_105 lk_L_apply_82 rfl rfl rfl (Nat.le_of_ble_eq_true rfl) (by first | decide | omega) (Nat.le_of_ble_eq_true rfl) ?_
  refine sp_L_join_37 ?_
  show PW _ _ _ 108 [some (.ref 22), some (.int 37), some (.int v), some (.int (f (n + 1))), some (.int (f n))] [.int (twF 37 (f n) (f (n + 1))), .ref 22] (E (sI (sA x 26 f) 181 (nI n)) y)
  refine PW_V0 (d2 := 0) (st := []) [.int (twF 37 (f n) (f (n + 1)))] c_L_apply_108 lk_L_apply_78 (po_22 _ _) rfl rfl rfl (Nat.le_of_ble_eq_true rfl) (by first | decide | omega) (Nat.le_of_ble_eq_true rfl) ?_
  refine sp_L_push (by omega) ?_
  show PW _ _ _ 111 [some (.ref 22), some (.int 37), some (.int v), some (.int (f (n + 1))), some (.int (f n))] [] (E (sI (sA x 26 (upd f n (twF 37 (f n) (f (n + 1))))) 181 (nI (n + 1))) y)
  refine PW_vreturn c_L_apply_111 rfl ?_
  exact h
theorem sp_ap_38 {z : ZS} {post : Option Value → List PE → Prop} {x y : XS} {v : Int32} {f : Nat → Int32} {n : Nat} (hn : n < 240) (h : post none (E (sI (sA x 26 ((upd f n (twF 38 (f n) (f (n + 1)))))) 181 (nI (n + 1))) y)) : PW (1, 0, 0, z) m_L_apply post 0 [some (.ref 22), some (.int 38), some (.int v), none, none] [] (E (sI (sA x 26 f) 181 (nI (n + 2))) y) := by
  refine PW_iload_n c_L_apply_0 rfl ?_
  refine PW_bipush (v := 48) c_L_apply_1 (by decide) ?_
  refine PW_icmp_ne c_L_apply_3 (fun _ => ?_) (fun h0 => absurd h0 (by decide))
  refine PW_iload_n c_L_apply_14 rfl ?_
  refine PW_bipush (v := 97) c_L_apply_15 (by decide) ?_
  refine PW_icmp_ne c_L_apply_17 (fun _ => ?_) (fun h1 => absurd h1 (by decide))
  refine PW_iload_n c_L_apply_46 rfl ?_
  refine PW_bipush (v := 33) c_L_apply_47 (by decide) ?_
  refine PW_icmp_ne c_L_apply_49 (fun _ => ?_) (fun h2 => absurd h2 (by decide))
  refine PW_iload_n c_L_apply_71 rfl ?_
  refine PW_bipush (v := 126) c_L_apply_72 (by decide) ?_
  refine PW_icmp_ne c_L_apply_74 (fun _ => ?_) (fun h3 => absurd h3 (by decide))
  refine PW_aload_n c_L_apply_89 rfl ?_
  refine PW_V0 (d2 := 0) (st := []) [] c_L_apply_90 lk_L_apply_71 (po_22 _ _) rfl rfl rfl (Nat.le_of_ble_eq_true rfl) (by first | decide | omega) (Nat.le_of_ble_eq_true rfl) ?_
  refine sp_L_pop (n := (n + 1)) (by omega) ?_
  show PW _ _ _ 93 [some (.ref 22), some (.int 38), some (.int v), none, none] [.int (f (n + 1))] (E (sI (sA x 26 f) 181 (nI (n + 1))) y)
  refine PW_istore_n (i := 3) (L2 := [some (.ref 22), some (.int 38), some (.int v), some (.int (f (n + 1))), none]) c_L_apply_93 rfl (Nat.le_of_ble_eq_true rfl) rfl rfl ?_
  refine PW_aload_n c_L_apply_94 rfl ?_
  refine PW_V0 (d2 := 0) (st := []) [] c_L_apply_95 lk_L_apply_71 (po_22 _ _) rfl rfl rfl (Nat.le_of_ble_eq_true rfl) (by first | decide | omega) (Nat.le_of_ble_eq_true rfl) ?_
  refine sp_L_pop (n := n) (by omega) ?_
  show PW _ _ _ 98 [some (.ref 22), some (.int 38), some (.int v), some (.int (f (n + 1))), none] [.int (f n)] (E (sI (sA x 26 f) 181 (nI n)) y)
  refine PW_istore (i := 4) (L2 := [some (.ref 22), some (.int 38), some (.int v), some (.int (f (n + 1))), some (.int (f n))]) c_L_apply_98 (Nat.le_of_ble_eq_true rfl) rfl rfl ?_
  refine PW_aload_n c_L_apply_100 rfl ?_
  refine PW_iload_n c_L_apply_101 rfl ?_
  refine PW_iload c_L_apply_102 rfl ?_
  refine PW_iload_n c_L_apply_104 rfl ?_
  refine PW_S0 (d2 := 0) (st := [.ref 22]) [.int 38, .int (f n), .int (f (n + 1))] c_L_apply_105 lk_L_apply_82 rfl rfl rfl (Nat.le_of_ble_eq_true rfl) (by first | decide | omega) (Nat.le_of_ble_eq_true rfl) ?_
  refine sp_L_join_38 ?_
  show PW _ _ _ 108 [some (.ref 22), some (.int 38), some (.int v), some (.int (f (n + 1))), some (.int (f n))] [.int (twF 38 (f n) (f (n + 1))), .ref 22] (E (sI (sA x 26 f) 181 (nI n)) y)
  refine PW_V0 (d2 := 0) (st := []) [.int (twF 38 (f n) (f (n + 1)))] c_L_apply_108 lk_L_apply_78 (po_22 _ _) rfl rfl rfl (Nat.le_of_ble_eq_true rfl) (by first | decide | omega) (Nat.le_of_ble_eq_true rfl) ?_
  refine sp_L_push (by omega) ?_
  show PW _ _ _ 111 [some (.ref 22), some (.int 38), some (.int v), some (.int (f (n + 1))), some (.int (f n))] [] (E (sI (sA x 26 (upd f n (twF 38 (f n) (f (n + 1))))) 181 (nI (n + 1))) y)
  refine PW_vreturn c_L_apply_111 rfl ?_
  exact h
theorem sp_ap_42 {z : ZS} {post : Option Value → List PE → Prop} {x y : XS} {v : Int32} {f : Nat → Int32} {n : Nat} (hn : n < 240) (h : post none (E (sI (sA x 26 ((upd f n (twF 42 (f n) (f (n + 1)))))) 181 (nI (n + 1))) y)) : PW (1, 0, 0, z) m_L_apply post 0 [some (.ref 22), some (.int 42), some (.int v), none, none] [] (E (sI (sA x 26 f) 181 (nI (n + 2))) y) := by
  refine PW_iload_n c_L_apply_0 rfl ?_
  refine PW_bipush (v := 48) c_L_apply_1 (by decide) ?_
  refine PW_icmp_ne c_L_apply_3 (fun _ => ?_) (fun h0 => absurd h0 (by decide))
  refine PW_iload_n c_L_apply_14 rfl ?_
  refine PW_bipush (v := 97) c_L_apply_15 (by decide) ?_
  refine PW_icmp_ne c_L_apply_17 (fun _ => ?_) (fun h1 => absurd h1 (by decide))
  refine PW_iload_n c_L_apply_46 rfl ?_
  refine PW_bipush (v := 33) c_L_apply_47 (by decide) ?_
  refine PW_icmp_ne c_L_apply_49 (fun _ => ?_) (fun h2 => absurd h2 (by decide))
  refine PW_iload_n c_L_apply_71 rfl ?_
  refine PW_bipush (v := 126) c_L_apply_72 (by decide) ?_
  refine PW_icmp_ne c_L_apply_74 (fun _ => ?_) (fun h3 => absurd h3 (by decide))
  refine PW_aload_n c_L_apply_89 rfl ?_
  refine PW_V0 (d2 := 0) (st := []) [] c_L_apply_90 lk_L_apply_71 (po_22 _ _) rfl rfl rfl (Nat.le_of_ble_eq_true rfl) (by first | decide | omega) (Nat.le_of_ble_eq_true rfl) ?_
  refine sp_L_pop (n := (n + 1)) (by omega) ?_
  show PW _ _ _ 93 [some (.ref 22), some (.int 42), some (.int v), none, none] [.int (f (n + 1))] (E (sI (sA x 26 f) 181 (nI (n + 1))) y)
  refine PW_istore_n (i := 3) (L2 := [some (.ref 22), some (.int 42), some (.int v), some (.int (f (n + 1))), none]) c_L_apply_93 rfl (Nat.le_of_ble_eq_true rfl) rfl rfl ?_
  refine PW_aload_n c_L_apply_94 rfl ?_
  refine PW_V0 (d2 := 0) (st := []) [] c_L_apply_95 lk_L_apply_71 (po_22 _ _) rfl rfl rfl (Nat.le_of_ble_eq_true rfl) (by first | decide | omega) (Nat.le_of_ble_eq_true rfl) ?_
  refine sp_L_pop (n := n) (by omega) ?_
  show PW _ _ _ 98 [some (.ref 22), some (.int 42), some (.int v), some (.int (f (n + 1))), none] [.int (f n)] (E (sI (sA x 26 f) 181 (nI n)) y)
  refine PW_istore (i := 4) (L2 := [some (.ref 22), some (.int 42), some (.int v), some (.int (f (n + 1))), some (.int (f n))]) c_L_apply_98 (Nat.le_of_ble_eq_true rfl) rfl rfl ?_
  refine PW_aload_n c_L_apply_100 rfl ?_
  refine PW_iload_n c_L_apply_101 rfl ?_
  refine PW_iload c_L_apply_102 rfl ?_
  refine PW_iload_n c_L_apply_104 rfl ?_
  refine PW_S0 (d2 := 0) (st := [.ref 22]) [.int 42, .int (f n), .int (f (n + 1))] c_L_apply_105 lk_L_apply_82 rfl rfl rfl (Nat.le_of_ble_eq_true rfl) (by first | decide | omega) (Nat.le_of_ble_eq_true rfl) ?_
  refine sp_L_join_42 ?_
  show PW _ _ _ 108 [some (.ref 22), some (.int 42), some (.int v), some (.int (f (n + 1))), some (.int (f n))] [.int (twF 42 (f n) (f (n + 1))), .ref 22] (E (sI (sA x 26 f) 181 (nI n)) y)
  refine PW_V0 (d2 := 0) (st := []) [.int (twF 42 (f n) (f (n + 1)))] c_L_apply_108 lk_L_apply_78 (po_22 _ _) rfl rfl rfl (Nat.le_of_ble_eq_true rfl) (by first | decide | omega) (Nat.le_of_ble_eq_true rfl) ?_
  refine sp_L_push (by omega) ?_
  show PW _ _ _ 111 [some (.ref 22), some (.int 42), some (.int v), some (.int (f (n + 1))), some (.int (f n))] [] (E (sI (sA x 26 (upd f n (twF 42 (f n) (f (n + 1))))) 181 (nI (n + 1))) y)
  refine PW_vreturn c_L_apply_111 rfl ?_
  exact h
theorem sp_ap_43 {z : ZS} {post : Option Value → List PE → Prop} {x y : XS} {v : Int32} {f : Nat → Int32} {n : Nat} (hn : n < 240) (h : post none (E (sI (sA x 26 ((upd f n (twF 43 (f n) (f (n + 1)))))) 181 (nI (n + 1))) y)) : PW (1, 0, 0, z) m_L_apply post 0 [some (.ref 22), some (.int 43), some (.int v), none, none] [] (E (sI (sA x 26 f) 181 (nI (n + 2))) y) := by
  refine PW_iload_n c_L_apply_0 rfl ?_
  refine PW_bipush (v := 48) c_L_apply_1 (by decide) ?_
  refine PW_icmp_ne c_L_apply_3 (fun _ => ?_) (fun h0 => absurd h0 (by decide))
  refine PW_iload_n c_L_apply_14 rfl ?_
  refine PW_bipush (v := 97) c_L_apply_15 (by decide) ?_
  refine PW_icmp_ne c_L_apply_17 (fun _ => ?_) (fun h1 => absurd h1 (by decide))
  refine PW_iload_n c_L_apply_46 rfl ?_
  refine PW_bipush (v := 33) c_L_apply_47 (by decide) ?_
  refine PW_icmp_ne c_L_apply_49 (fun _ => ?_) (fun h2 => absurd h2 (by decide))
  refine PW_iload_n c_L_apply_71 rfl ?_
  refine PW_bipush (v := 126) c_L_apply_72 (by decide) ?_
  refine PW_icmp_ne c_L_apply_74 (fun _ => ?_) (fun h3 => absurd h3 (by decide))
  refine PW_aload_n c_L_apply_89 rfl ?_
  refine PW_V0 (d2 := 0) (st := []) [] c_L_apply_90 lk_L_apply_71 (po_22 _ _) rfl rfl rfl (Nat.le_of_ble_eq_true rfl) (by first | decide | omega) (Nat.le_of_ble_eq_true rfl) ?_
  refine sp_L_pop (n := (n + 1)) (by omega) ?_
  show PW _ _ _ 93 [some (.ref 22), some (.int 43), some (.int v), none, none] [.int (f (n + 1))] (E (sI (sA x 26 f) 181 (nI (n + 1))) y)
  refine PW_istore_n (i := 3) (L2 := [some (.ref 22), some (.int 43), some (.int v), some (.int (f (n + 1))), none]) c_L_apply_93 rfl (Nat.le_of_ble_eq_true rfl) rfl rfl ?_
  refine PW_aload_n c_L_apply_94 rfl ?_
  refine PW_V0 (d2 := 0) (st := []) [] c_L_apply_95 lk_L_apply_71 (po_22 _ _) rfl rfl rfl (Nat.le_of_ble_eq_true rfl) (by first | decide | omega) (Nat.le_of_ble_eq_true rfl) ?_
  refine sp_L_pop (n := n) (by omega) ?_
  show PW _ _ _ 98 [some (.ref 22), some (.int 43), some (.int v), some (.int (f (n + 1))), none] [.int (f n)] (E (sI (sA x 26 f) 181 (nI n)) y)
  refine PW_istore (i := 4) (L2 := [some (.ref 22), some (.int 43), some (.int v), some (.int (f (n + 1))), some (.int (f n))]) c_L_apply_98 (Nat.le_of_ble_eq_true rfl) rfl rfl ?_
  refine PW_aload_n c_L_apply_100 rfl ?_
  refine PW_iload_n c_L_apply_101 rfl ?_
  refine PW_iload c_L_apply_102 rfl ?_
  refine PW_iload_n c_L_apply_104 rfl ?_
  refine PW_S0 (d2 := 0) (st := [.ref 22]) [.int 43, .int (f n), .int (f (n + 1))] c_L_apply_105 lk_L_apply_82 rfl rfl rfl (Nat.le_of_ble_eq_true rfl) (by first | decide | omega) (Nat.le_of_ble_eq_true rfl) ?_
  refine sp_L_join_43 ?_
  show PW _ _ _ 108 [some (.ref 22), some (.int 43), some (.int v), some (.int (f (n + 1))), some (.int (f n))] [.int (twF 43 (f n) (f (n + 1))), .ref 22] (E (sI (sA x 26 f) 181 (nI n)) y)
  refine PW_V0 (d2 := 0) (st := []) [.int (twF 43 (f n) (f (n + 1)))] c_L_apply_108 lk_L_apply_78 (po_22 _ _) rfl rfl rfl (Nat.le_of_ble_eq_true rfl) (by first | decide | omega) (Nat.le_of_ble_eq_true rfl) ?_
  refine sp_L_push (by omega) ?_
  show PW _ _ _ 111 [some (.ref 22), some (.int 43), some (.int v), some (.int (f (n + 1))), some (.int (f n))] [] (E (sI (sA x 26 (upd f n (twF 43 (f n) (f (n + 1))))) 181 (nI (n + 1))) y)
  refine PW_vreturn c_L_apply_111 rfl ?_
  exact h
theorem sp_ap_45 {z : ZS} {post : Option Value → List PE → Prop} {x y : XS} {v : Int32} {f : Nat → Int32} {n : Nat} (hn : n < 240) (h : post none (E (sI (sA x 26 ((upd f n (twF 45 (f n) (f (n + 1)))))) 181 (nI (n + 1))) y)) : PW (1, 0, 0, z) m_L_apply post 0 [some (.ref 22), some (.int 45), some (.int v), none, none] [] (E (sI (sA x 26 f) 181 (nI (n + 2))) y) := by
  refine PW_iload_n c_L_apply_0 rfl ?_
  refine PW_bipush (v := 48) c_L_apply_1 (by decide) ?_
  refine PW_icmp_ne c_L_apply_3 (fun _ => ?_) (fun h0 => absurd h0 (by decide))
  refine PW_iload_n c_L_apply_14 rfl ?_
  refine PW_bipush (v := 97) c_L_apply_15 (by decide) ?_
  refine PW_icmp_ne c_L_apply_17 (fun _ => ?_) (fun h1 => absurd h1 (by decide))
  refine PW_iload_n c_L_apply_46 rfl ?_
  refine PW_bipush (v := 33) c_L_apply_47 (by decide) ?_
  refine PW_icmp_ne c_L_apply_49 (fun _ => ?_) (fun h2 => absurd h2 (by decide))
  refine PW_iload_n c_L_apply_71 rfl ?_
  refine PW_bipush (v := 126) c_L_apply_72 (by decide) ?_
  refine PW_icmp_ne c_L_apply_74 (fun _ => ?_) (fun h3 => absurd h3 (by decide))
  refine PW_aload_n c_L_apply_89 rfl ?_
  refine PW_V0 (d2 := 0) (st := []) [] c_L_apply_90 lk_L_apply_71 (po_22 _ _) rfl rfl rfl (Nat.le_of_ble_eq_true rfl) (by first | decide | omega) (Nat.le_of_ble_eq_true rfl) ?_
  refine sp_L_pop (n := (n + 1)) (by omega) ?_
  show PW _ _ _ 93 [some (.ref 22), some (.int 45), some (.int v), none, none] [.int (f (n + 1))] (E (sI (sA x 26 f) 181 (nI (n + 1))) y)
  refine PW_istore_n (i := 3) (L2 := [some (.ref 22), some (.int 45), some (.int v), some (.int (f (n + 1))), none]) c_L_apply_93 rfl (Nat.le_of_ble_eq_true rfl) rfl rfl ?_
  refine PW_aload_n c_L_apply_94 rfl ?_
  refine PW_V0 (d2 := 0) (st := []) [] c_L_apply_95 lk_L_apply_71 (po_22 _ _) rfl rfl rfl (Nat.le_of_ble_eq_true rfl) (by first | decide | omega) (Nat.le_of_ble_eq_true rfl) ?_
  refine sp_L_pop (n := n) (by omega) ?_
  show PW _ _ _ 98 [some (.ref 22), some (.int 45), some (.int v), some (.int (f (n + 1))), none] [.int (f n)] (E (sI (sA x 26 f) 181 (nI n)) y)
  refine PW_istore (i := 4) (L2 := [some (.ref 22), some (.int 45), some (.int v), some (.int (f (n + 1))), some (.int (f n))]) c_L_apply_98 (Nat.le_of_ble_eq_true rfl) rfl rfl ?_
  refine PW_aload_n c_L_apply_100 rfl ?_
  refine PW_iload_n c_L_apply_101 rfl ?_
  refine PW_iload c_L_apply_102 rfl ?_
  refine PW_iload_n c_L_apply_104 rfl ?_
  refine PW_S0 (d2 := 0) (st := [.ref 22]) [.int 45, .int (f n), .int (f (n + 1))] c_L_apply_105 lk_L_apply_82 rfl rfl rfl (Nat.le_of_ble_eq_true rfl) (by first | decide | omega) (Nat.le_of_ble_eq_true rfl) ?_
  refine sp_L_join_45 ?_
  show PW _ _ _ 108 [some (.ref 22), some (.int 45), some (.int v), some (.int (f (n + 1))), some (.int (f n))] [.int (twF 45 (f n) (f (n + 1))), .ref 22] (E (sI (sA x 26 f) 181 (nI n)) y)
  refine PW_V0 (d2 := 0) (st := []) [.int (twF 45 (f n) (f (n + 1)))] c_L_apply_108 lk_L_apply_78 (po_22 _ _) rfl rfl rfl (Nat.le_of_ble_eq_true rfl) (by first | decide | omega) (Nat.le_of_ble_eq_true rfl) ?_
  refine sp_L_push (by omega) ?_
  show PW _ _ _ 111 [some (.ref 22), some (.int 45), some (.int v), some (.int (f (n + 1))), some (.int (f n))] [] (E (sI (sA x 26 (upd f n (twF 45 (f n) (f (n + 1))))) 181 (nI (n + 1))) y)
  refine PW_vreturn c_L_apply_111 rfl ?_
  exact h
theorem sp_ap_47 {z : ZS} {post : Option Value → List PE → Prop} {x y : XS} {v : Int32} {f : Nat → Int32} {n : Nat} (hn : n < 240) (h : post none (E (sI (sA x 26 ((upd f n (twF 47 (f n) (f (n + 1)))))) 181 (nI (n + 1))) y)) : PW (1, 0, 0, z) m_L_apply post 0 [some (.ref 22), some (.int 47), some (.int v), none, none] [] (E (sI (sA x 26 f) 181 (nI (n + 2))) y) := by
  refine PW_iload_n c_L_apply_0 rfl ?_
  refine PW_bipush (v := 48) c_L_apply_1 (by decide) ?_
  refine PW_icmp_ne c_L_apply_3 (fun _ => ?_) (fun h0 => absurd h0 (by decide))
  refine PW_iload_n c_L_apply_14 rfl ?_
  refine PW_bipush (v := 97) c_L_apply_15 (by decide) ?_
  refine PW_icmp_ne c_L_apply_17 (fun _ => ?_) (fun h1 => absurd h1 (by decide))
  refine PW_iload_n c_L_apply_46 rfl ?_
  refine PW_bipush (v := 33) c_L_apply_47 (by decide) ?_
  refine PW_icmp_ne c_L_apply_49 (fun _ => ?_) (fun h2 => absurd h2 (by decide))
  refine PW_iload_n c_L_apply_71 rfl ?_
  refine PW_bipush (v := 126) c_L_apply_72 (by decide) ?_
  refine PW_icmp_ne c_L_apply_74 (fun _ => ?_) (fun h3 => absurd h3 (by decide))
  refine PW_aload_n c_L_apply_89 rfl ?_
  refine PW_V0 (d2 := 0) (st := []) [] c_L_apply_90 lk_L_apply_71 (po_22 _ _) rfl rfl rfl (Nat.le_of_ble_eq_true rfl) (by first | decide | omega) (Nat.le_of_ble_eq_true rfl) ?_
  refine sp_L_pop (n := (n + 1)) (by omega) ?_
  show PW _ _ _ 93 [some (.ref 22), some (.int 47), some (.int v), none, none] [.int (f (n + 1))] (E (sI (sA x 26 f) 181 (nI (n + 1))) y)
  refine PW_istore_n (i := 3) (L2 := [some (.ref 22), some (.int 47), some (.int v), some (.int (f (n + 1))), none]) c_L_apply_93 rfl (Nat.le_of_ble_eq_true rfl) rfl rfl ?_
  refine PW_aload_n c_L_apply_94 rfl ?_
  refine PW_V0 (d2 := 0) (st := []) [] c_L_apply_95 lk_L_apply_71 (po_22 _ _) rfl rfl rfl (Nat.le_of_ble_eq_true rfl) (by first | decide | omega) (Nat.le_of_ble_eq_true rfl) ?_
  refine sp_L_pop (n := n) (by omega) ?_
  show PW _ _ _ 98 [some (.ref 22), some (.int 47), some (.int v), some (.int (f (n + 1))), none] [.int (f n)] (E (sI (sA x 26 f) 181 (nI n)) y)
  refine PW_istore (i := 4) (L2 := [some (.ref 22), some (.int 47), some (.int v), some (.int (f (n + 1))), some (.int (f n))]) c_L_apply_98 (Nat.le_of_ble_eq_true rfl) rfl rfl ?_
  refine PW_aload_n c_L_apply_100 rfl ?_
  refine PW_iload_n c_L_apply_101 rfl ?_
  refine PW_iload c_L_apply_102 rfl ?_
  refine PW_iload_n c_L_apply_104 rfl ?_
  refine PW_S0 (d2 := 0) (st := [.ref 22]) [.int 47, .int (f n), .int (f (n + 1))] c_L_apply_105 lk_L_apply_82 rfl rfl rfl (Nat.le_of_ble_eq_true rfl) (by first | decide | omega) (Nat.le_of_ble_eq_true rfl) ?_
  refine sp_L_join_47 ?_
  show PW _ _ _ 108 [some (.ref 22), some (.int 47), some (.int v), some (.int (f (n + 1))), some (.int (f n))] [.int (twF 47 (f n) (f (n + 1))), .ref 22] (E (sI (sA x 26 f) 181 (nI n)) y)
  refine PW_V0 (d2 := 0) (st := []) [.int (twF 47 (f n) (f (n + 1)))] c_L_apply_108 lk_L_apply_78 (po_22 _ _) rfl rfl rfl (Nat.le_of_ble_eq_true rfl) (by first | decide | omega) (Nat.le_of_ble_eq_true rfl) ?_
  refine sp_L_push (by omega) ?_
  show PW _ _ _ 111 [some (.ref 22), some (.int 47), some (.int v), some (.int (f (n + 1))), some (.int (f n))] [] (E (sI (sA x 26 (upd f n (twF 47 (f n) (f (n + 1))))) 181 (nI (n + 1))) y)
  refine PW_vreturn c_L_apply_111 rfl ?_
  exact h
theorem sp_ap_60 {z : ZS} {post : Option Value → List PE → Prop} {x y : XS} {v : Int32} {f : Nat → Int32} {n : Nat} (hn : n < 240) (h : post none (E (sI (sA x 26 ((upd f n (twF 60 (f n) (f (n + 1)))))) 181 (nI (n + 1))) y)) : PW (1, 0, 0, z) m_L_apply post 0 [some (.ref 22), some (.int 60), some (.int v), none, none] [] (E (sI (sA x 26 f) 181 (nI (n + 2))) y) := by
  refine PW_iload_n c_L_apply_0 rfl ?_
  refine PW_bipush (v := 48) c_L_apply_1 (by decide) ?_
  refine PW_icmp_ne c_L_apply_3 (fun _ => ?_) (fun h0 => absurd h0 (by decide))
  refine PW_iload_n c_L_apply_14 rfl ?_
  refine PW_bipush (v := 97) c_L_apply_15 (by decide) ?_
  refine PW_icmp_ne c_L_apply_17 (fun _ => ?_) (fun h1 => absurd h1 (by decide))
  refine PW_iload_n c_L_apply_46 rfl ?_
  refine PW_bipush (v := 33) c_L_apply_47 (by decide) ?_
  refine PW_icmp_ne c_L_apply_49 (fun _ => ?_) (fun h2 => absurd h2 (by decide))
  refine PW_iload_n c_L_apply_71 rfl ?_
  refine PW_bipush (v := 126) c_L_apply_72 (by decide) ?_
  refine PW_icmp_ne c_L_apply_74 (fun _ => ?_) (fun h3 => absurd h3 (by decide))
  refine PW_aload_n c_L_apply_89 rfl ?_
  refine PW_V0 (d2 := 0) (st := []) [] c_L_apply_90 lk_L_apply_71 (po_22 _ _) rfl rfl rfl (Nat.le_of_ble_eq_true rfl) (by first | decide | omega) (Nat.le_of_ble_eq_true rfl) ?_
  refine sp_L_pop (n := (n + 1)) (by omega) ?_
  show PW _ _ _ 93 [some (.ref 22), some (.int 60), some (.int v), none, none] [.int (f (n + 1))] (E (sI (sA x 26 f) 181 (nI (n + 1))) y)
  refine PW_istore_n (i := 3) (L2 := [some (.ref 22), some (.int 60), some (.int v), some (.int (f (n + 1))), none]) c_L_apply_93 rfl (Nat.le_of_ble_eq_true rfl) rfl rfl ?_
  refine PW_aload_n c_L_apply_94 rfl ?_
  refine PW_V0 (d2 := 0) (st := []) [] c_L_apply_95 lk_L_apply_71 (po_22 _ _) rfl rfl rfl (Nat.le_of_ble_eq_true rfl) (by first | decide | omega) (Nat.le_of_ble_eq_true rfl) ?_
  refine sp_L_pop (n := n) (by omega) ?_
  show PW _ _ _ 98 [some (.ref 22), some (.int 60), some (.int v), some (.int (f (n + 1))), none] [.int (f n)] (E (sI (sA x 26 f) 181 (nI n)) y)
  refine PW_istore (i := 4) (L2 := [some (.ref 22), some (.int 60), some (.int v), some (.int (f (n + 1))), some (.int (f n))]) c_L_apply_98 (Nat.le_of_ble_eq_true rfl) rfl rfl ?_
  refine PW_aload_n c_L_apply_100 rfl ?_
  refine PW_iload_n c_L_apply_101 rfl ?_
  refine PW_iload c_L_apply_102 rfl ?_
  refine PW_iload_n c_L_apply_104 rfl ?_
  refine PW_S0 (d2 := 0) (st := [.ref 22]) [.int 60, .int (f n), .int (f (n + 1))] c_L_apply_105 lk_L_apply_82 rfl rfl rfl (Nat.le_of_ble_eq_true rfl) (by first | decide | omega) (Nat.le_of_ble_eq_true rfl) ?_
  refine sp_L_join_60 ?_
  show PW _ _ _ 108 [some (.ref 22), some (.int 60), some (.int v), some (.int (f (n + 1))), some (.int (f n))] [.int (twF 60 (f n) (f (n + 1))), .ref 22] (E (sI (sA x 26 f) 181 (nI n)) y)
  refine PW_V0 (d2 := 0) (st := []) [.int (twF 60 (f n) (f (n + 1)))] c_L_apply_108 lk_L_apply_78 (po_22 _ _) rfl rfl rfl (Nat.le_of_ble_eq_true rfl) (by first | decide | omega) (Nat.le_of_ble_eq_true rfl) ?_
  refine sp_L_push (by omega) ?_
  show PW _ _ _ 111 [some (.ref 22), some (.int 60), some (.int v), some (.int (f (n + 1))), some (.int (f n))] [] (E (sI (sA x 26 (upd f n (twF 60 (f n) (f (n + 1))))) 181 (nI (n + 1))) y)
  refine PW_vreturn c_L_apply_111 rfl ?_
  exact h
theorem sp_ap_61 {z : ZS} {post : Option Value → List PE → Prop} {x y : XS} {v : Int32} {f : Nat → Int32} {n : Nat} (hn : n < 240) (h : post none (E (sI (sA x 26 ((upd f n (twF 61 (f n) (f (n + 1)))))) 181 (nI (n + 1))) y)) : PW (1, 0, 0, z) m_L_apply post 0 [some (.ref 22), some (.int 61), some (.int v), none, none] [] (E (sI (sA x 26 f) 181 (nI (n + 2))) y) := by
  refine PW_iload_n c_L_apply_0 rfl ?_
  refine PW_bipush (v := 48) c_L_apply_1 (by decide) ?_
  refine PW_icmp_ne c_L_apply_3 (fun _ => ?_) (fun h0 => absurd h0 (by decide))
  refine PW_iload_n c_L_apply_14 rfl ?_
  refine PW_bipush (v := 97) c_L_apply_15 (by decide) ?_
  refine PW_icmp_ne c_L_apply_17 (fun _ => ?_) (fun h1 => absurd h1 (by decide))
  refine PW_iload_n c_L_apply_46 rfl ?_
  refine PW_bipush (v := 33) c_L_apply_47 (by decide) ?_
  refine PW_icmp_ne c_L_apply_49 (fun _ => ?_) (fun h2 => absurd h2 (by decide))
  refine PW_iload_n c_L_apply_71 rfl ?_
  refine PW_bipush (v := 126) c_L_apply_72 (by decide) ?_
  refine PW_icmp_ne c_L_apply_74 (fun _ => ?_) (fun h3 => absurd h3 (by decide))
  refine PW_aload_n c_L_apply_89 rfl ?_
  refine PW_V0 (d2 := 0) (st := []) [] c_L_apply_90 lk_L_apply_71 (po_22 _ _) rfl rfl rfl (Nat.le_of_ble_eq_true rfl) (by first | decide | omega) (Nat.le_of_ble_eq_true rfl) ?_
  refine sp_L_pop (n := (n + 1)) (by omega) ?_
  show PW _ _ _ 93 [some (.ref 22), some (.int 61), some (.int v), none, none] [.int (f (n + 1))] (E (sI (sA x 26 f) 181 (nI (n + 1))) y)
  refine PW_istore_n (i := 3) (L2 := [some (.ref 22), some (.int 61), some (.int v), some (.int (f (n + 1))), none]) c_L_apply_93 rfl (Nat.le_of_ble_eq_true rfl) rfl rfl ?_
  refine PW_aload_n c_L_apply_94 rfl ?_
  refine PW_V0 (d2 := 0) (st := []) [] c_L_apply_95 lk_L_apply_71 (po_22 _ _) rfl rfl rfl (Nat.le_of_ble_eq_true rfl) (by first | decide | omega) (Nat.le_of_ble_eq_true rfl) ?_
  refine sp_L_pop (n := n) (by omega) ?_
  show PW _ _ _ 98 [some (.ref 22), some (.int 61), some (.int v), some (.int (f (n + 1))), none] [.int (f n)] (E (sI (sA x 26 f) 181 (nI n)) y)
  refine PW_istore (i := 4) (L2 := [some (.ref 22), some (.int 61), some (.int v), some (.int (f (n + 1))), some (.int (f n))]) c_L_apply_98 (Nat.le_of_ble_eq_true rfl) rfl rfl ?_
  refine PW_aload_n c_L_apply_100 rfl ?_
  refine PW_iload_n c_L_apply_101 rfl ?_
  refine PW_iload c_L_apply_102 rfl ?_
  refine PW_iload_n c_L_apply_104 rfl ?_
  refine PW_S0 (d2 := 0) (st := [.ref 22]) [.int 61, .int (f n), .int (f (n + 1))] c_L_apply_105 lk_L_apply_82 rfl rfl rfl (Nat.le_of_ble_eq_true rfl) (by first | decide | omega) (Nat.le_of_ble_eq_true rfl) ?_
  refine sp_L_join_61 ?_
  show PW _ _ _ 108 [some (.ref 22), some (.int 61), some (.int v), some (.int (f (n + 1))), some (.int (f n))] [.int (twF 61 (f n) (f (n + 1))), .ref 22] (E (sI (sA x 26 f) 181 (nI n)) y)
  refine PW_V0 (d2 := 0) (st := []) [.int (twF 61 (f n) (f (n + 1)))] c_L_apply_108 lk_L_apply_78 (po_22 _ _) rfl rfl rfl (Nat.le_of_ble_eq_true rfl) (by first | decide | omega) (Nat.le_of_ble_eq_true rfl) ?_
  refine sp_L_push (by omega) ?_
  show PW _ _ _ 111 [some (.ref 22), some (.int 61), some (.int v), some (.int (f (n + 1))), some (.int (f n))] [] (E (sI (sA x 26 (upd f n (twF 61 (f n) (f (n + 1))))) 181 (nI (n + 1))) y)
  refine PW_vreturn c_L_apply_111 rfl ?_
  exact h
theorem sp_ap_62 {z : ZS} {post : Option Value → List PE → Prop} {x y : XS} {v : Int32} {f : Nat → Int32} {n : Nat} (hn : n < 240) (h : post none (E (sI (sA x 26 ((upd f n (twF 62 (f n) (f (n + 1)))))) 181 (nI (n + 1))) y)) : PW (1, 0, 0, z) m_L_apply post 0 [some (.ref 22), some (.int 62), some (.int v), none, none] [] (E (sI (sA x 26 f) 181 (nI (n + 2))) y) := by
  refine PW_iload_n c_L_apply_0 rfl ?_
  refine PW_bipush (v := 48) c_L_apply_1 (by decide) ?_
  refine PW_icmp_ne c_L_apply_3 (fun _ => ?_) (fun h0 => absurd h0 (by decide))
  refine PW_iload_n c_L_apply_14 rfl ?_
  refine PW_bipush (v := 97) c_L_apply_15 (by decide) ?_
  refine PW_icmp_ne c_L_apply_17 (fun _ => ?_) (fun h1 => absurd h1 (by decide))
  refine PW_iload_n c_L_apply_46 rfl ?_
  refine PW_bipush (v := 33) c_L_apply_47 (by decide) ?_
  refine PW_icmp_ne c_L_apply_49 (fun _ => ?_) (fun h2 => absurd h2 (by decide))
  refine PW_iload_n c_L_apply_71 rfl ?_
  refine PW_bipush (v := 126) c_L_apply_72 (by decide) ?_
  refine PW_icmp_ne c_L_apply_74 (fun _ => ?_) (fun h3 => absurd h3 (by decide))
  refine PW_aload_n c_L_apply_89 rfl ?_
  refine PW_V0 (d2 := 0) (st := []) [] c_L_apply_90 lk_L_apply_71 (po_22 _ _) rfl rfl rfl (Nat.le_of_ble_eq_true rfl) (by first | decide | omega) (Nat.le_of_ble_eq_true rfl) ?_
  refine sp_L_pop (n := (n + 1)) (by omega) ?_
  show PW _ _ _ 93 [some (.ref 22), some (.int 62), some (.int v), none, none] [.int (f (n + 1))] (E (sI (sA x 26 f) 181 (nI (n + 1))) y)
  refine PW_istore_n (i := 3) (L2 := [some (.ref 22), some (.int 62), some (.int v), some (.int (f (n + 1))), none]) c_L_apply_93 rfl (Nat.le_of_ble_eq_true rfl) rfl rfl ?_
  refine PW_aload_n c_L_apply_94 rfl ?_
  refine PW_V0 (d2 := 0) (st := []) [] c_L_apply_95 lk_L_apply_71 (po_22 _ _) rfl rfl rfl (Nat.le_of_ble_eq_true rfl) (by first | decide | omega) (Nat.le_of_ble_eq_true rfl) ?_
  refine sp_L_pop (n := n) (by omega) ?_
  show PW _ _ _ 98 [some (.ref 22), some (.int 62), some (.int v), some (.int (f (n + 1))), none] [.int (f n)] (E (sI (sA x 26 f) 181 (nI n)) y)
  refine PW_istore (i := 4) (L2 := [some (.ref 22), some (.int 62), some (.int v), some (.int (f (n + 1))), some (.int (f n))]) c_L_apply_98 (Nat.le_of_ble_eq_true rfl) rfl rfl ?_
  refine PW_aload_n c_L_apply_100 rfl ?_
  refine PW_iload_n c_L_apply_101 rfl ?_
  refine PW_iload c_L_apply_102 rfl ?_
  refine PW_iload_n c_L_apply_104 rfl ?_
  refine PW_S0 (d2 := 0) (st := [.ref 22]) [.int 62, .int (f n), .int (f (n + 1))] c_L_apply_105 lk_L_apply_82 rfl rfl rfl (Nat.le_of_ble_eq_true rfl) (by first | decide | omega) (Nat.le_of_ble_eq_true rfl) ?_
  refine sp_L_join_62 ?_
  show PW _ _ _ 108 [some (.ref 22), some (.int 62), some (.int v), some (.int (f (n + 1))), some (.int (f n))] [.int (twF 62 (f n) (f (n + 1))), .ref 22] (E (sI (sA x 26 f) 181 (nI n)) y)
  refine PW_V0 (d2 := 0) (st := []) [.int (twF 62 (f n) (f (n + 1)))] c_L_apply_108 lk_L_apply_78 (po_22 _ _) rfl rfl rfl (Nat.le_of_ble_eq_true rfl) (by first | decide | omega) (Nat.le_of_ble_eq_true rfl) ?_
  refine sp_L_push (by omega) ?_
  show PW _ _ _ 111 [some (.ref 22), some (.int 62), some (.int v), some (.int (f (n + 1))), some (.int (f n))] [] (E (sI (sA x 26 (upd f n (twF 62 (f n) (f (n + 1))))) 181 (nI (n + 1))) y)
  refine PW_vreturn c_L_apply_111 rfl ?_
  exact h
theorem sp_ap_124 {z : ZS} {post : Option Value → List PE → Prop} {x y : XS} {v : Int32} {f : Nat → Int32} {n : Nat} (hn : n < 240) (h : post none (E (sI (sA x 26 ((upd f n (twF 124 (f n) (f (n + 1)))))) 181 (nI (n + 1))) y)) : PW (1, 0, 0, z) m_L_apply post 0 [some (.ref 22), some (.int 124), some (.int v), none, none] [] (E (sI (sA x 26 f) 181 (nI (n + 2))) y) := by
  refine PW_iload_n c_L_apply_0 rfl ?_
  refine PW_bipush (v := 48) c_L_apply_1 (by decide) ?_
  refine PW_icmp_ne c_L_apply_3 (fun _ => ?_) (fun h0 => absurd h0 (by decide))
  refine PW_iload_n c_L_apply_14 rfl ?_
  refine PW_bipush (v := 97) c_L_apply_15 (by decide) ?_
  refine PW_icmp_ne c_L_apply_17 (fun _ => ?_) (fun h1 => absurd h1 (by decide))
  refine PW_iload_n c_L_apply_46 rfl ?_
  refine PW_bipush (v := 33) c_L_apply_47 (by decide) ?_
  refine PW_icmp_ne c_L_apply_49 (fun _ => ?_) (fun h2 => absurd h2 (by decide))
  refine PW_iload_n c_L_apply_71 rfl ?_
  refine PW_bipush (v := 126) c_L_apply_72 (by decide) ?_
  refine PW_icmp_ne c_L_apply_74 (fun _ => ?_) (fun h3 => absurd h3 (by decide))
  refine PW_aload_n c_L_apply_89 rfl ?_
  refine PW_V0 (d2 := 0) (st := []) [] c_L_apply_90 lk_L_apply_71 (po_22 _ _) rfl rfl rfl (Nat.le_of_ble_eq_true rfl) (by first | decide | omega) (Nat.le_of_ble_eq_true rfl) ?_
  refine sp_L_pop (n := (n + 1)) (by omega) ?_
  show PW _ _ _ 93 [some (.ref 22), some (.int 124), some (.int v), none, none] [.int (f (n + 1))] (E (sI (sA x 26 f) 181 (nI (n + 1))) y)
  refine PW_istore_n (i := 3) (L2 := [some (.ref 22), some (.int 124), some (.int v), some (.int (f (n + 1))), none]) c_L_apply_93 rfl (Nat.le_of_ble_eq_true rfl) rfl rfl ?_
  refine PW_aload_n c_L_apply_94 rfl ?_
  refine PW_V0 (d2 := 0) (st := []) [] c_L_apply_95 lk_L_apply_71 (po_22 _ _) rfl rfl rfl (Nat.le_of_ble_eq_true rfl) (by first | decide | omega) (Nat.le_of_ble_eq_true rfl) ?_
  refine sp_L_pop (n := n) (by omega) ?_
  show PW _ _ _ 98 [some (.ref 22), some (.int 124), some (.int v), some (.int (f (n + 1))), none] [.int (f n)] (E (sI (sA x 26 f) 181 (nI n)) y)
  refine PW_istore (i := 4) (L2 := [some (.ref 22), some (.int 124), some (.int v), some (.int (f (n + 1))), some (.int (f n))]) c_L_apply_98 (Nat.le_of_ble_eq_true rfl) rfl rfl ?_
  refine PW_aload_n c_L_apply_100 rfl ?_
  refine PW_iload_n c_L_apply_101 rfl ?_
  refine PW_iload c_L_apply_102 rfl ?_
  refine PW_iload_n c_L_apply_104 rfl ?_
  refine PW_S0 (d2 := 0) (st := [.ref 22]) [.int 124, .int (f n), .int (f (n + 1))] c_L_apply_105 lk_L_apply_82 rfl rfl rfl (Nat.le_of_ble_eq_true rfl) (by first | decide | omega) (Nat.le_of_ble_eq_true rfl) ?_
  refine sp_L_join_124 ?_
  show PW _ _ _ 108 [some (.ref 22), some (.int 124), some (.int v), some (.int (f (n + 1))), some (.int (f n))] [.int (twF 124 (f n) (f (n + 1))), .ref 22] (E (sI (sA x 26 f) 181 (nI n)) y)
  refine PW_V0 (d2 := 0) (st := []) [.int (twF 124 (f n) (f (n + 1)))] c_L_apply_108 lk_L_apply_78 (po_22 _ _) rfl rfl rfl (Nat.le_of_ble_eq_true rfl) (by first | decide | omega) (Nat.le_of_ble_eq_true rfl) ?_
  refine sp_L_push (by omega) ?_
  show PW _ _ _ 111 [some (.ref 22), some (.int 124), some (.int v), some (.int (f (n + 1))), some (.int (f n))] [] (E (sI (sA x 26 (upd f n (twF 124 (f n) (f (n + 1))))) 181 (nI (n + 1))) y)
  refine PW_vreturn c_L_apply_111 rfl ?_
  exact h
theorem sp_bin {z : ZS} {post : Option Value → List PE → Prop} {x y : XS} {a : Nat} {v : Int32} {f : Nat → Int32} {n : Nat} (ha : a = 37 ∨ a = 38 ∨ a = 42 ∨ a = 43 ∨ a = 45 ∨ a = 47 ∨ a = 60 ∨ a = 61 ∨ a = 62 ∨ a = 124) (hn : n < 240) (h : post none (E (sI (sA x 26 ((upd f n (twF a (f n) (f (n + 1)))))) 181 (nI (n + 1))) y)) : PW (1, 0, 0, z) m_L_apply post 0 [some (.ref 22), some (.int (cxS a)), some (.int v), none, none] [] (E (sI (sA x 26 f) 181 (nI (n + 2))) y) := by
  rcases ha with rfl | rfl | rfl | rfl | rfl | rfl | rfl | rfl | rfl | rfl
  · exact sp_ap_37 hn h
  · exact sp_ap_38 hn h
  · exact sp_ap_42 hn h
  · exact sp_ap_43 hn h
  · exact sp_ap_45 hn h
  · exact sp_ap_47 hn h
  · exact sp_ap_60 hn h
  · exact sp_ap_61 hn h
  · exact sp_ap_62 hn h
  · exact sp_ap_124 hn h
theorem okS_bin {a : Nat} {v : Int32} (h : (a, v).1 ∈ [37, 38, 42, 43, 45, 47, 60, 61, 62, 124]) : a = 37 ∨ a = 38 ∨ a = 42 ∨ a = 43 ∨ a = 45 ∨ a = 47 ∨ a = 60 ∨ a = 61 ∨ a = 62 ∨ a = 124 := by simpa using h
theorem bin_ne {a : Nat} (h : a = 37 ∨ a = 38 ∨ a = 42 ∨ a = 43 ∨ a = 45 ∨ a = 47 ∨ a = 60 ∨ a = 61 ∨ a = 62 ∨ a = 124) : ¬ a = 1 ∧ ¬ a = 2 ∧ ¬ a = 3 ∧ ¬ a = 4 := by omega
theorem sp_apply {x y : XS} {fc : Nat → Int32} (hfc : ∀ i, i < 5 → x.2.1 25 i = fc i) {a : Nat} {v : Int32} {t : List Stp0} {e : Nat} {L : List Int32} {f : Nat → Int32} (hok : okS (a, v)) (hd : depS ((a, v) :: t) L.length = some e) (hL : L.length ≤ 230) (hs : stk f L) : ∃ f' : Nat → Int32, stk f' (st1 fc (a, v) L) ∧ ∀ {z : ZS} {post : Option Value → List PE → Prop}, post none (E (sI (sA x 26 f') 181 (nI (st1 fc (a, v) L).length)) y) → PW (1, 0, 0, z) m_L_apply post 0 [some (.ref 22), some (.int (cxS a)), some (.int v), none, none] [] (E (sI (sA x 26 f) 181 (nI L.length)) y) := by
  rw [depS] at hd
  rcases hok with h1 | ⟨h1, h2, h3⟩ | h1 | h1 | h1
  · have h1 : a = 1 := h1
    subst h1
    exact ⟨_, stk_push (v := v) hs, fun {z post} h => sp_ap_48 (by omega) h⟩
  · have h1 : a = 2 := h1
    subst h1
    have h2 : 0 ≤ v.toInt := h2
    have h3 : v.toInt < 5 := h3
    refine ⟨upd f L.length (fc v.toNatClampNeg), stk_push hs, fun {z post} h => sp_ap_97 (by omega) ⟨h2, h3⟩ ?_⟩
    rw [hfc v.toNatClampNeg (by show v.toInt.toNat < 5; omega)]
    exact h
  · have h1 : a = 3 := h1
    subst h1
    rw [if_neg (show ¬ (3 = 1 ∨ 3 = 2) by decide), if_pos (Or.inl rfl)] at hd
    cases L with
    | nil => rw [if_pos (show ([] : List Int32).length = 0 from rfl)] at hd; cases hd
    | cons b u =>
      refine ⟨upd f u.length (if f u.length = 0 then 1 else 0), ?_, fun {z post} h => sp_ap_33 (by rw [List.length_cons] at hL; omega) h⟩
      rw [hs.1]
      exact stk_push hs.2
  · have h1 : a = 4 := h1
    subst h1
    rw [if_neg (show ¬ (4 = 1 ∨ 4 = 2) by decide), if_pos (Or.inr rfl)] at hd
    cases L with
    | nil => rw [if_pos (show ([] : List Int32).length = 0 from rfl)] at hd; cases hd
    | cons b u =>
      refine ⟨upd f u.length (-(f u.length)), ?_, fun {z post} h => sp_ap_126 (by rw [List.length_cons] at hL; omega) h⟩
      rw [hs.1]
      exact stk_push hs.2
  · have hb := okS_bin h1
    obtain ⟨n1, n2, n3, n4⟩ := bin_ne hb
    rw [if_neg (fun q => q.elim n1 n2), if_neg (fun q => q.elim n3 n4)] at hd
    cases L with
    | nil => rw [if_pos (show ([] : List Int32).length < 2 by decide)] at hd; cases hd
    | cons b u =>
      cases u with
      | nil => rw [if_pos (show [b].length < 2 from Nat.lt_succ_self 1)] at hd; cases hd
      | cons c w =>
        have e1 : st1 fc (a, v) (b :: c :: w) = twF a c b :: w := by
          unfold st1
          rw [if_neg n1, if_neg n2]
          simp only [if_neg n3, if_neg n4]
        refine ⟨upd f w.length (twF a (f w.length) (f (w.length + 1))), ?_, fun {z post} h => sp_bin hb (by rw [List.length_cons, List.length_cons] at hL; omega) ?_⟩
        · rw [e1, hs.2.1, show f (w.length + 1) = b from hs.1]
          exact stk_push hs.2.2
        · rw [e1] at h
          exact h
