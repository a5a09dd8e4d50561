theorem sp_call_0_0_0 {z : ZS} {post : Option Value → List PE → Prop} {x y : XS} {l : List Int32} {b xx dp : Int32} {d : Nat} (K : kb x b 0) (ed : dp = nI d) (hd : d + 1 ≤ 30) (hl : l.length + 1 ≤ 24) (h : post (some (.int (xx + b))) (E (tr 56 435 x (1 :: l)) y)) : PW (5, 0, 0, z) m_B_call post 0 [some (.ref 54), some (.int 0), some (.int 0), some (.int xx), some (.int b), some (.int dp), none, none] [] (E (tr 56 435 x l) y) := by
  subst ed
  refine PW_iload_n c_B_call_0 rfl ?_
  refine PW_istore (i := 6) (L2 := [some (.ref 54), some (.int 0), some (.int 0), some (.int xx), some (.int b), some (.int (nI d)), some (.int 0), none]) c_B_call_1 (Nat.le_of_ble_eq_true rfl) rfl rfl ?_
  refine PW_iconst (v := 0) c_B_call_3 (by decide) ?_
  refine PW_istore (i := 7) (L2 := [some (.ref 54), some (.int 0), some (.int 0), some (.int xx), some (.int b), some (.int (nI d)), some (.int 0), some (.int 0)]) c_B_call_4 (Nat.le_of_ble_eq_true rfl) rfl rfl ?_
  refine PW_iload c_B_call_6 rfl ?_
  refine PW_bipush (v := 8) c_B_call_8 (by decide) ?_
  refine PW_icmp_ge c_B_call_10 (fun h0 => absurd h0 (by decide)) (fun _ => ?_)
  refine PW_iload c_B_call_13 rfl ?_
  refine PW_S0 (d2 := 0) (st := []) [.int 0] c_B_call_15 lk_B_call_18 rfl rfl rfl (Nat.le_of_ble_eq_true rfl) (by first | decide | omega) (Nat.le_of_ble_eq_true rfl) ?_
  refine sp_B_isKind  ?_
  show PW _ _ _ 18 [some (.ref 54), some (.int 0), some (.int 0), some (.int xx), some (.int b), some (.int (nI d)), some (.int 0), some (.int 0)] [.int (b2i (0 ≤ (0 : Int32) ∧ (0 : Int32) ≤ 7))] (E (tr 56 435 x l) y)
  refine PW_if_eq c_B_call_18 (fun h1 => absurd (by decide) (b2i_0.mp h1)) (fun _ => ?_)
  refine PW_iload c_B_call_21 rfl ?_
  refine PW_iload_n c_B_call_23 rfl ?_
  refine PW_S0 (d2 := 1) (st := []) [.int 0, .int 0] c_B_call_24 lk_B_call_49 rfl rfl rfl (Nat.le_of_ble_eq_true rfl) (by first | decide | omega) (Nat.le_of_ble_eq_true rfl) ?_
  refine sp_own_0_0 ?_
  show PW _ _ _ 27 [some (.ref 54), some (.int 0), some (.int 0), some (.int xx), some (.int b), some (.int (nI d)), some (.int 0), some (.int 0)] [.int 1] (E (tr 56 435 x l) y)
  refine PW_if_ne c_B_call_27 (fun _ => ?_) (fun h2 => absurd h2 (by decide))
  refine PW_iload c_B_call_43 rfl ?_
  refine PW_S0 (d2 := 0) (st := []) [.int 0] c_B_call_45 lk_B_call_18 rfl rfl rfl (Nat.le_of_ble_eq_true rfl) (by first | decide | omega) (Nat.le_of_ble_eq_true rfl) ?_
  refine sp_B_isKind  ?_
  show PW _ _ _ 48 [some (.ref 54), some (.int 0), some (.int 0), some (.int xx), some (.int b), some (.int (nI d)), some (.int 0), some (.int 0)] [.int (b2i (0 ≤ (0 : Int32) ∧ (0 : Int32) ≤ 7))] (E (tr 56 435 x l) y)
  refine PW_if_eq c_B_call_48 (fun h3 => absurd (by decide) (b2i_0.mp h3)) (fun _ => ?_)
  refine PW_iload c_B_call_51 rfl ?_
  refine PW_bipush (v := 30) c_B_call_53 (by decide) ?_
  refine PW_icmp_lt c_B_call_55 (fun h4 => ?_) (fun h4 => absurd ((nI_ltI (by omega) (by decide)).mpr (by omega) : nI d < nI 30) h4)
  refine PW_iload c_B_call_60 rfl ?_
  refine PW_iload_n c_B_call_62 rfl ?_
  refine PW_S0 (d2 := 1) (st := []) [.int 0, .int 0] c_B_call_63 lk_B_call_49 rfl rfl rfl (Nat.le_of_ble_eq_true rfl) (by first | decide | omega) (Nat.le_of_ble_eq_true rfl) ?_
  refine sp_own_0_0 ?_
  show PW _ _ _ 66 [some (.ref 54), some (.int 0), some (.int 0), some (.int xx), some (.int b), some (.int (nI d)), some (.int 0), some (.int 0)] [.int 1] (E (tr 56 435 x l) y)
  refine PW_istore (i := 7) (L2 := [some (.ref 54), some (.int 0), some (.int 0), some (.int xx), some (.int b), some (.int (nI d)), some (.int 0), some (.int 1)]) c_B_call_66 (Nat.le_of_ble_eq_true rfl) rfl rfl ?_
  refine PW_aload_n c_B_call_68 rfl ?_
  refine PW_iload c_B_call_69 rfl ?_
  refine PW_V0 (d2 := 0) (st := []) [.int 1] c_B_call_71 lk_B_call_53 (po_54 _ _) rfl rfl rfl (Nat.le_of_ble_eq_true rfl) (by first | decide | omega) (Nat.le_of_ble_eq_true rfl) ?_
  refine sp_note (by (try simp only [List.length_cons]); omega) ?_
  show PW _ _ _ 74 [some (.ref 54), some (.int 0), some (.int 0), some (.int xx), some (.int b), some (.int (nI d)), some (.int 0), some (.int 1)] [] (E (tr 56 435 x (1 :: l)) y)
  refine PW_iload_n c_B_call_74 rfl ?_
  refine PW_iconst (v := 2) c_B_call_75 (by decide) ?_
  refine PW_icmp_eq c_B_call_76 (fun h5 => absurd h5 (by decide)) (fun _ => ?_)
  refine PW_iload_n c_B_call_79 rfl ?_
  refine PW_iconst (v := 3) c_B_call_80 (by decide) ?_
  refine PW_icmp_ne c_B_call_81 (fun _ => ?_) (fun h6 => absurd h6 (by decide))
  refine PW_aload_n c_B_call_105 rfl ?_
  refine PW_iload c_B_call_106 rfl ?_
  refine PW_iload c_B_call_108 rfl ?_
  refine PW_S0 (d2 := 0) (st := [.int 1, .ref 54]) [.int 0] c_B_call_110 lk_B_call_22 rfl rfl rfl (Nat.le_of_ble_eq_true rfl) (by first | decide | omega) (Nat.le_of_ble_eq_true rfl) ?_
  refine sp_kab0 ?_
  show PW _ _ _ 113 [some (.ref 54), some (.int 0), some (.int 0), some (.int xx), some (.int b), some (.int (nI d)), some (.int 0), some (.int 1)] [.int (-1), .int 1, .ref 54] (E (tr 56 435 x (1 :: l)) y)
  refine PW_iload_n c_B_call_113 rfl ?_
  refine PW_iload c_B_call_114 rfl ?_
  refine PW_iload c_B_call_116 rfl ?_
  refine PW_iconst (v := 1) c_B_call_118 (by decide) ?_
  refine PW_iadd c_B_call_119 ?_
  refine PW_V0 (d2 := 4) (st := []) [.int 1, .int (-1), .int xx, .int b, .int ((nI d) + 1)] c_B_call_120 lk_B_call_60 (po_54 _ _) rfl rfl rfl (Nat.le_of_ble_eq_true rfl) (by first | decide | omega) (Nat.le_of_ble_eq_true rfl) ?_
  show PW _ _ _ 0 [some (.ref 54), some (.int 1), some (.int (-1)), some (.int xx), some (.int b), some (.int ((nI d) + 1)), none] [] (E (tr 56 435 x (1 :: l)) y)
  refine PW_aload_n c_B_runFirst_0 rfl ?_
  refine PW_iload c_B_runFirst_1 rfl ?_
  refine PW_V0 (d2 := 1) (st := []) [.int b] c_B_runFirst_3 lk_B_runFirst_42 (po_54 _ _) rfl rfl rfl (Nat.le_of_ble_eq_true rfl) (by first | decide | omega) (Nat.le_of_ble_eq_true rfl) ?_
  refine sp_kof K ?_
  show PW _ _ _ 6 [some (.ref 54), some (.int 1), some (.int (-1)), some (.int xx), some (.int b), some (.int ((nI d) + 1)), none] [.int 0] (E (tr 56 435 x (1 :: l)) y)
  refine PW_istore (i := 6) (L2 := [some (.ref 54), some (.int 1), some (.int (-1)), some (.int xx), some (.int b), some (.int ((nI d) + 1)), some (.int 0)]) c_B_runFirst_6 (Nat.le_of_ble_eq_true rfl) rfl rfl ?_
  refine PW_iload_n c_B_runFirst_8 rfl ?_
  refine PW_lookup (tgt := 84) c_B_runFirst_9 (by decide) rfl rfl ?_
  refine PW_iload_n c_B_runFirst_84 rfl ?_
  refine PW_iload c_B_runFirst_85 rfl ?_
  refine PW_iadd c_B_runFirst_87 ?_
  refine PW_ireturn (ty := .int) c_B_runFirst_88 rfl rfl ?_
  show PW _ _ _ 123 [some (.ref 54), some (.int 0), some (.int 0), some (.int xx), some (.int b), some (.int (nI d)), some (.int 0), some (.int 1)] [.int (xx + b)] (E (tr 56 435 x (1 :: l)) y)
  refine PW_ireturn (ty := .int) c_B_call_123 rfl rfl ?_
  exact h
theorem sp_call_0_0_1 {z : ZS} {post : Option Value → List PE → Prop} {x y : XS} {l : List Int32} {b xx dp : Int32} {d : Nat} (K : kb x b 0) (ed : dp = nI d) (hd : d + 2 ≤ 30) (hl : l.length + 2 ≤ 24) (h : post (some (.int ((xx + b) * 2))) (E (tr 56 435 x (1 :: 10 :: l)) y)) : PW (7, 0, 0, z) m_B_call post 0 [some (.ref 54), some (.int 0), some (.int 1), some (.int xx), some (.int b), some (.int dp), none, none] [] (E (tr 56 435 x l) y) := by
  subst ed
  refine PW_iload_n c_B_call_0 rfl ?_
  refine PW_istore (i := 6) (L2 := [some (.ref 54), some (.int 0), some (.int 1), some (.int xx), some (.int b), some (.int (nI d)), some (.int 0), none]) c_B_call_1 (Nat.le_of_ble_eq_true rfl) rfl rfl ?_
  refine PW_iconst (v := 0) c_B_call_3 (by decide) ?_
  refine PW_istore (i := 7) (L2 := [some (.ref 54), some (.int 0), some (.int 1), some (.int xx), some (.int b), some (.int (nI d)), some (.int 0), some (.int 0)]) c_B_call_4 (Nat.le_of_ble_eq_true rfl) rfl rfl ?_
  refine PW_iload c_B_call_6 rfl ?_
  refine PW_bipush (v := 8) c_B_call_8 (by decide) ?_
  refine PW_icmp_ge c_B_call_10 (fun h0 => absurd h0 (by decide)) (fun _ => ?_)
  refine PW_iload c_B_call_13 rfl ?_
  refine PW_S0 (d2 := 0) (st := []) [.int 0] c_B_call_15 lk_B_call_18 rfl rfl rfl (Nat.le_of_ble_eq_true rfl) (by first | decide | omega) (Nat.le_of_ble_eq_true rfl) ?_
  refine sp_B_isKind  ?_
  show PW _ _ _ 18 [some (.ref 54), some (.int 0), some (.int 1), some (.int xx), some (.int b), some (.int (nI d)), some (.int 0), some (.int 0)] [.int (b2i (0 ≤ (0 : Int32) ∧ (0 : Int32) ≤ 7))] (E (tr 56 435 x l) y)
  refine PW_if_eq c_B_call_18 (fun h1 => absurd (by decide) (b2i_0.mp h1)) (fun _ => ?_)
  refine PW_iload c_B_call_21 rfl ?_
  refine PW_iload_n c_B_call_23 rfl ?_
  refine PW_S0 (d2 := 1) (st := []) [.int 0, .int 1] c_B_call_24 lk_B_call_49 rfl rfl rfl (Nat.le_of_ble_eq_true rfl) (by first | decide | omega) (Nat.le_of_ble_eq_true rfl) ?_
  refine sp_own_0_1 ?_
  show PW _ _ _ 27 [some (.ref 54), some (.int 0), some (.int 1), some (.int xx), some (.int b), some (.int (nI d)), some (.int 0), some (.int 0)] [.int 10] (E (tr 56 435 x l) y)
  refine PW_if_ne c_B_call_27 (fun _ => ?_) (fun h2 => absurd h2 (by decide))
  refine PW_iload c_B_call_43 rfl ?_
  refine PW_S0 (d2 := 0) (st := []) [.int 0] c_B_call_45 lk_B_call_18 rfl rfl rfl (Nat.le_of_ble_eq_true rfl) (by first | decide | omega) (Nat.le_of_ble_eq_true rfl) ?_
  refine sp_B_isKind  ?_
  show PW _ _ _ 48 [some (.ref 54), some (.int 0), some (.int 1), some (.int xx), some (.int b), some (.int (nI d)), some (.int 0), some (.int 0)] [.int (b2i (0 ≤ (0 : Int32) ∧ (0 : Int32) ≤ 7))] (E (tr 56 435 x l) y)
  refine PW_if_eq c_B_call_48 (fun h3 => absurd (by decide) (b2i_0.mp h3)) (fun _ => ?_)
  refine PW_iload c_B_call_51 rfl ?_
  refine PW_bipush (v := 30) c_B_call_53 (by decide) ?_
  refine PW_icmp_lt c_B_call_55 (fun h4 => ?_) (fun h4 => absurd ((nI_ltI (by omega) (by decide)).mpr (by omega) : nI d < nI 30) h4)
  refine PW_iload c_B_call_60 rfl ?_
  refine PW_iload_n c_B_call_62 rfl ?_
  refine PW_S0 (d2 := 1) (st := []) [.int 0, .int 1] c_B_call_63 lk_B_call_49 rfl rfl rfl (Nat.le_of_ble_eq_true rfl) (by first | decide | omega) (Nat.le_of_ble_eq_true rfl) ?_
  refine sp_own_0_1 ?_
  show PW _ _ _ 66 [some (.ref 54), some (.int 0), some (.int 1), some (.int xx), some (.int b), some (.int (nI d)), some (.int 0), some (.int 0)] [.int 10] (E (tr 56 435 x l) y)
  refine PW_istore (i := 7) (L2 := [some (.ref 54), some (.int 0), some (.int 1), some (.int xx), some (.int b), some (.int (nI d)), some (.int 0), some (.int 10)]) c_B_call_66 (Nat.le_of_ble_eq_true rfl) rfl rfl ?_
  refine PW_aload_n c_B_call_68 rfl ?_
  refine PW_iload c_B_call_69 rfl ?_
  refine PW_V0 (d2 := 0) (st := []) [.int 10] c_B_call_71 lk_B_call_53 (po_54 _ _) rfl rfl rfl (Nat.le_of_ble_eq_true rfl) (by first | decide | omega) (Nat.le_of_ble_eq_true rfl) ?_
  refine sp_note (by (try simp only [List.length_cons]); omega) ?_
  show PW _ _ _ 74 [some (.ref 54), some (.int 0), some (.int 1), some (.int xx), some (.int b), some (.int (nI d)), some (.int 0), some (.int 10)] [] (E (tr 56 435 x (10 :: l)) y)
  refine PW_iload_n c_B_call_74 rfl ?_
  refine PW_iconst (v := 2) c_B_call_75 (by decide) ?_
  refine PW_icmp_eq c_B_call_76 (fun h5 => absurd h5 (by decide)) (fun _ => ?_)
  refine PW_iload_n c_B_call_79 rfl ?_
  refine PW_iconst (v := 3) c_B_call_80 (by decide) ?_
  refine PW_icmp_ne c_B_call_81 (fun _ => ?_) (fun h6 => absurd h6 (by decide))
  refine PW_aload_n c_B_call_105 rfl ?_
  refine PW_iload c_B_call_106 rfl ?_
  refine PW_iload c_B_call_108 rfl ?_
  refine PW_S0 (d2 := 0) (st := [.int 10, .ref 54]) [.int 0] c_B_call_110 lk_B_call_22 rfl rfl rfl (Nat.le_of_ble_eq_true rfl) (by first | decide | omega) (Nat.le_of_ble_eq_true rfl) ?_
  refine sp_kab0 ?_
  show PW _ _ _ 113 [some (.ref 54), some (.int 0), some (.int 1), some (.int xx), some (.int b), some (.int (nI d)), some (.int 0), some (.int 10)] [.int (-1), .int 10, .ref 54] (E (tr 56 435 x (10 :: l)) y)
  refine PW_iload_n c_B_call_113 rfl ?_
  refine PW_iload c_B_call_114 rfl ?_
  refine PW_iload c_B_call_116 rfl ?_
  refine PW_iconst (v := 1) c_B_call_118 (by decide) ?_
  refine PW_iadd c_B_call_119 ?_
  refine PW_V0 (d2 := 6) (st := []) [.int 10, .int (-1), .int xx, .int b, .int ((nI d) + 1)] c_B_call_120 lk_B_call_60 (po_54 _ _) rfl rfl rfl (Nat.le_of_ble_eq_true rfl) (by first | decide | omega) (Nat.le_of_ble_eq_true rfl) ?_
  show PW _ _ _ 0 [some (.ref 54), some (.int 10), some (.int (-1)), some (.int xx), some (.int b), some (.int ((nI d) + 1)), none] [] (E (tr 56 435 x (10 :: l)) y)
  refine PW_aload_n c_B_runFirst_0 rfl ?_
  refine PW_iload c_B_runFirst_1 rfl ?_
  refine PW_V0 (d2 := 1) (st := []) [.int b] c_B_runFirst_3 lk_B_runFirst_42 (po_54 _ _) rfl rfl rfl (Nat.le_of_ble_eq_true rfl) (by first | decide | omega) (Nat.le_of_ble_eq_true rfl) ?_
  refine sp_kof K ?_
  show PW _ _ _ 6 [some (.ref 54), some (.int 10), some (.int (-1)), some (.int xx), some (.int b), some (.int ((nI d) + 1)), none] [.int 0] (E (tr 56 435 x (10 :: l)) y)
  refine PW_istore (i := 6) (L2 := [some (.ref 54), some (.int 10), some (.int (-1)), some (.int xx), some (.int b), some (.int ((nI d) + 1)), some (.int 0)]) c_B_runFirst_6 (Nat.le_of_ble_eq_true rfl) rfl rfl ?_
  refine PW_iload_n c_B_runFirst_8 rfl ?_
  refine PW_lookup (tgt := 89) c_B_runFirst_9 (by decide) rfl rfl ?_
  refine PW_aload_n c_B_runFirst_89 rfl ?_
  refine PW_iload c_B_runFirst_90 rfl ?_
  refine PW_iconst (v := 0) c_B_runFirst_92 (by decide) ?_
  refine PW_iload_n c_B_runFirst_93 rfl ?_
  refine PW_iload c_B_runFirst_94 rfl ?_
  refine PW_iload c_B_runFirst_96 rfl ?_
  refine PW_V0 (d2 := 5) (st := []) [.int 0, .int 0, .int xx, .int b, .int ((nI d) + 1)] c_B_runFirst_98 lk_B_runFirst_45 (po_54 _ _) rfl rfl rfl (Nat.le_of_ble_eq_true rfl) (by first | decide | omega) (Nat.le_of_ble_eq_true rfl) ?_
  refine PW.deeper (k := (5, 0, 0, z)) (Nat.le_of_ble_eq_true rfl) (Nat.le_refl _) (Nat.le_refl _) ?_
  refine sp_call_0_0_0 K (nI_1 d) (by omega) (by (try simp only [List.length_cons]); omega) ?_
  show PW _ _ _ 101 [some (.ref 54), some (.int 10), some (.int (-1)), some (.int xx), some (.int b), some (.int ((nI d) + 1)), some (.int 0)] [.int (xx + b)] (E (tr 56 435 x (1 :: 10 :: l)) y)
  refine PW_iconst (v := 2) c_B_runFirst_101 (by decide) ?_
  refine PW_imul c_B_runFirst_102 ?_
  refine PW_ireturn (ty := .int) c_B_runFirst_103 rfl rfl ?_
  show PW _ _ _ 123 [some (.ref 54), some (.int 0), some (.int 1), some (.int xx), some (.int b), some (.int (nI d)), some (.int 0), some (.int 10)] [.int ((xx + b) * 2)] (E (tr 56 435 x (1 :: 10 :: l)) y)
  refine PW_ireturn (ty := .int) c_B_call_123 rfl rfl ?_
  exact h
theorem sp_call_0_0_2 {z : ZS} {post : Option Value → List PE → Prop} {x y : XS} {l : List Int32} {b xx dp : Int32} {d : Nat} (K : kb x b 0) (ed : dp = nI d) (hd : d + 1 ≤ 30) (hl : l.length + 1 ≤ 24) (h : post (some (.int (xx ^^^ b))) (E (tr 56 435 x (11 :: l)) y)) : PW (5, 0, 0, z) m_B_call post 0 [some (.ref 54), some (.int 0), some (.int 2), some (.int xx), some (.int b), some (.int dp), none, none] [] (E (tr 56 435 x l) y) := by
  subst ed
  refine PW_iload_n c_B_call_0 rfl ?_
  refine PW_istore (i := 6) (L2 := [some (.ref 54), some (.int 0), some (.int 2), some (.int xx), some (.int b), some (.int (nI d)), some (.int 0), none]) c_B_call_1 (Nat.le_of_ble_eq_true rfl) rfl rfl ?_
  refine PW_iconst (v := 0) c_B_call_3 (by decide) ?_
  refine PW_istore (i := 7) (L2 := [some (.ref 54), some (.int 0), some (.int 2), some (.int xx), some (.int b), some (.int (nI d)), some (.int 0), some (.int 0)]) c_B_call_4 (Nat.le_of_ble_eq_true rfl) rfl rfl ?_
  refine PW_iload c_B_call_6 rfl ?_
  refine PW_bipush (v := 8) c_B_call_8 (by decide) ?_
  refine PW_icmp_ge c_B_call_10 (fun h0 => absurd h0 (by decide)) (fun _ => ?_)
  refine PW_iload c_B_call_13 rfl ?_
  refine PW_S0 (d2 := 0) (st := []) [.int 0] c_B_call_15 lk_B_call_18 rfl rfl rfl (Nat.le_of_ble_eq_true rfl) (by first | decide | omega) (Nat.le_of_ble_eq_true rfl) ?_
  refine sp_B_isKind  ?_
  show PW _ _ _ 18 [some (.ref 54), some (.int 0), some (.int 2), some (.int xx), some (.int b), some (.int (nI d)), some (.int 0), some (.int 0)] [.int (b2i (0 ≤ (0 : Int32) ∧ (0 : Int32) ≤ 7))] (E (tr 56 435 x l) y)
  refine PW_if_eq c_B_call_18 (fun h1 => absurd (by decide) (b2i_0.mp h1)) (fun _ => ?_)
  refine PW_iload c_B_call_21 rfl ?_
  refine PW_iload_n c_B_call_23 rfl ?_
  refine PW_S0 (d2 := 1) (st := []) [.int 0, .int 2] c_B_call_24 lk_B_call_49 rfl rfl rfl (Nat.le_of_ble_eq_true rfl) (by first | decide | omega) (Nat.le_of_ble_eq_true rfl) ?_
  refine sp_own_0_2 ?_
  show PW _ _ _ 27 [some (.ref 54), some (.int 0), some (.int 2), some (.int xx), some (.int b), some (.int (nI d)), some (.int 0), some (.int 0)] [.int 11] (E (tr 56 435 x l) y)
  refine PW_if_ne c_B_call_27 (fun _ => ?_) (fun h2 => absurd h2 (by decide))
  refine PW_iload c_B_call_43 rfl ?_
  refine PW_S0 (d2 := 0) (st := []) [.int 0] c_B_call_45 lk_B_call_18 rfl rfl rfl (Nat.le_of_ble_eq_true rfl) (by first | decide | omega) (Nat.le_of_ble_eq_true rfl) ?_
  refine sp_B_isKind  ?_
  show PW _ _ _ 48 [some (.ref 54), some (.int 0), some (.int 2), some (.int xx), some (.int b), some (.int (nI d)), some (.int 0), some (.int 0)] [.int (b2i (0 ≤ (0 : Int32) ∧ (0 : Int32) ≤ 7))] (E (tr 56 435 x l) y)
  refine PW_if_eq c_B_call_48 (fun h3 => absurd (by decide) (b2i_0.mp h3)) (fun _ => ?_)
  refine PW_iload c_B_call_51 rfl ?_
  refine PW_bipush (v := 30) c_B_call_53 (by decide) ?_
  refine PW_icmp_lt c_B_call_55 (fun h4 => ?_) (fun h4 => absurd ((nI_ltI (by omega) (by decide)).mpr (by omega) : nI d < nI 30) h4)
  refine PW_iload c_B_call_60 rfl ?_
  refine PW_iload_n c_B_call_62 rfl ?_
  refine PW_S0 (d2 := 1) (st := []) [.int 0, .int 2] c_B_call_63 lk_B_call_49 rfl rfl rfl (Nat.le_of_ble_eq_true rfl) (by first | decide | omega) (Nat.le_of_ble_eq_true rfl) ?_
  refine sp_own_0_2 ?_
  show PW _ _ _ 66 [some (.ref 54), some (.int 0), some (.int 2), some (.int xx), some (.int b), some (.int (nI d)), some (.int 0), some (.int 0)] [.int 11] (E (tr 56 435 x l) y)
  refine PW_istore (i := 7) (L2 := [some (.ref 54), some (.int 0), some (.int 2), some (.int xx), some (.int b), some (.int (nI d)), some (.int 0), some (.int 11)]) c_B_call_66 (Nat.le_of_ble_eq_true rfl) rfl rfl ?_
  refine PW_aload_n c_B_call_68 rfl ?_
  refine PW_iload c_B_call_69 rfl ?_
  refine PW_V0 (d2 := 0) (st := []) [.int 11] c_B_call_71 lk_B_call_53 (po_54 _ _) rfl rfl rfl (Nat.le_of_ble_eq_true rfl) (by first | decide | omega) (Nat.le_of_ble_eq_true rfl) ?_
  refine sp_note (by (try simp only [List.length_cons]); omega) ?_
  show PW _ _ _ 74 [some (.ref 54), some (.int 0), some (.int 2), some (.int xx), some (.int b), some (.int (nI d)), some (.int 0), some (.int 11)] [] (E (tr 56 435 x (11 :: l)) y)
  refine PW_iload_n c_B_call_74 rfl ?_
  refine PW_iconst (v := 2) c_B_call_75 (by decide) ?_
  refine PW_icmp_eq c_B_call_76 (fun _ => ?_) (fun h5 => absurd (by decide) h5)
  refine PW_aload_n c_B_call_84 rfl ?_
  refine PW_iload c_B_call_85 rfl ?_
  refine PW_iload c_B_call_87 rfl ?_
  refine PW_S0 (d2 := 0) (st := [.int 11, .ref 54]) [.int 0] c_B_call_89 lk_B_call_22 rfl rfl rfl (Nat.le_of_ble_eq_true rfl) (by first | decide | omega) (Nat.le_of_ble_eq_true rfl) ?_
  refine sp_kab0 ?_
  show PW _ _ _ 92 [some (.ref 54), some (.int 0), some (.int 2), some (.int xx), some (.int b), some (.int (nI d)), some (.int 0), some (.int 11)] [.int (-1), .int 11, .ref 54] (E (tr 56 435 x (11 :: l)) y)
  refine PW_iload_n c_B_call_92 rfl ?_
  refine PW_iload c_B_call_93 rfl ?_
  refine PW_iload c_B_call_95 rfl ?_
  refine PW_iconst (v := 1) c_B_call_97 (by decide) ?_
  refine PW_iadd c_B_call_98 ?_
  refine PW_V0 (d2 := 4) (st := []) [.int 11, .int (-1), .int xx, .int b, .int ((nI d) + 1)] c_B_call_99 lk_B_call_57 (po_54 _ _) rfl rfl rfl (Nat.le_of_ble_eq_true rfl) (by first | decide | omega) (Nat.le_of_ble_eq_true rfl) ?_
  show PW _ _ _ 0 [some (.ref 54), some (.int 11), some (.int (-1)), some (.int xx), some (.int b), some (.int ((nI d) + 1)), none] [] (E (tr 56 435 x (11 :: l)) y)
  refine PW_aload_n c_B_runLater_0 rfl ?_
  refine PW_iload c_B_runLater_1 rfl ?_
  refine PW_V0 (d2 := 1) (st := []) [.int b] c_B_runLater_3 lk_B_runLater_42 (po_54 _ _) rfl rfl rfl (Nat.le_of_ble_eq_true rfl) (by first | decide | omega) (Nat.le_of_ble_eq_true rfl) ?_
  refine sp_kof K ?_
  show PW _ _ _ 6 [some (.ref 54), some (.int 11), some (.int (-1)), some (.int xx), some (.int b), some (.int ((nI d) + 1)), none] [.int 0] (E (tr 56 435 x (11 :: l)) y)
  refine PW_istore (i := 6) (L2 := [some (.ref 54), some (.int 11), some (.int (-1)), some (.int xx), some (.int b), some (.int ((nI d) + 1)), some (.int 0)]) c_B_runLater_6 (Nat.le_of_ble_eq_true rfl) rfl rfl ?_
  refine PW_iload_n c_B_runLater_8 rfl ?_
  refine PW_lookup (tgt := 94) c_B_runLater_9 (by decide) rfl rfl ?_
  refine PW_iload_n c_B_runLater_94 rfl ?_
  refine PW_iload c_B_runLater_95 rfl ?_
  refine PW_ixor c_B_runLater_97 ?_
  refine PW_ireturn (ty := .int) c_B_runLater_98 rfl rfl ?_
  show PW _ _ _ 102 [some (.ref 54), some (.int 0), some (.int 2), some (.int xx), some (.int b), some (.int (nI d)), some (.int 0), some (.int 11)] [.int (xx ^^^ b)] (E (tr 56 435 x (11 :: l)) y)
  refine PW_goto c_B_call_102 ?_
  refine PW_ireturn (ty := .int) c_B_call_123 rfl rfl ?_
  exact h
theorem sp_call_0_0_3 {z : ZS} {post : Option Value → List PE → Prop} {x y : XS} {l : List Int32} {b xx dp : Int32} {d : Nat} (K : kb x b 0) (ed : dp = nI d) (hd : d + 3 ≤ 30) (hl : l.length + 4 ≤ 24) (h : post (some (.int (((xx + b) * 2) - ((1 : Int32) ^^^ b)))) (E (tr 56 435 x (11 :: 1 :: 10 :: 2 :: l)) y)) : PW (9, 0, 0, z) m_B_call post 0 [some (.ref 54), some (.int 0), some (.int 3), some (.int xx), some (.int b), some (.int dp), none, none] [] (E (tr 56 435 x l) y) := by
  subst ed
  refine PW_iload_n c_B_call_0 rfl ?_
  refine PW_istore (i := 6) (L2 := [some (.ref 54), some (.int 0), some (.int 3), some (.int xx), some (.int b), some (.int (nI d)), some (.int 0), none]) c_B_call_1 (Nat.le_of_ble_eq_true rfl) rfl rfl ?_
  refine PW_iconst (v := 0) c_B_call_3 (by decide) ?_
  refine PW_istore (i := 7) (L2 := [some (.ref 54), some (.int 0), some (.int 3), some (.int xx), some (.int b), some (.int (nI d)), some (.int 0), some (.int 0)]) c_B_call_4 (Nat.le_of_ble_eq_true rfl) rfl rfl ?_
  refine PW_iload c_B_call_6 rfl ?_
  refine PW_bipush (v := 8) c_B_call_8 (by decide) ?_
  refine PW_icmp_ge c_B_call_10 (fun h0 => absurd h0 (by decide)) (fun _ => ?_)
  refine PW_iload c_B_call_13 rfl ?_
  refine PW_S0 (d2 := 0) (st := []) [.int 0] c_B_call_15 lk_B_call_18 rfl rfl rfl (Nat.le_of_ble_eq_true rfl) (by first | decide | omega) (Nat.le_of_ble_eq_true rfl) ?_
  refine sp_B_isKind  ?_
  show PW _ _ _ 18 [some (.ref 54), some (.int 0), some (.int 3), some (.int xx), some (.int b), some (.int (nI d)), some (.int 0), some (.int 0)] [.int (b2i (0 ≤ (0 : Int32) ∧ (0 : Int32) ≤ 7))] (E (tr 56 435 x l) y)
  refine PW_if_eq c_B_call_18 (fun h1 => absurd (by decide) (b2i_0.mp h1)) (fun _ => ?_)
  refine PW_iload c_B_call_21 rfl ?_
  refine PW_iload_n c_B_call_23 rfl ?_
  refine PW_S0 (d2 := 1) (st := []) [.int 0, .int 3] c_B_call_24 lk_B_call_49 rfl rfl rfl (Nat.le_of_ble_eq_true rfl) (by first | decide | omega) (Nat.le_of_ble_eq_true rfl) ?_
  refine sp_own_0_3 ?_
  show PW _ _ _ 27 [some (.ref 54), some (.int 0), some (.int 3), some (.int xx), some (.int b), some (.int (nI d)), some (.int 0), some (.int 0)] [.int 2] (E (tr 56 435 x l) y)
  refine PW_if_ne c_B_call_27 (fun _ => ?_) (fun h2 => absurd h2 (by decide))
  refine PW_iload c_B_call_43 rfl ?_
  refine PW_S0 (d2 := 0) (st := []) [.int 0] c_B_call_45 lk_B_call_18 rfl rfl rfl (Nat.le_of_ble_eq_true rfl) (by first | decide | omega) (Nat.le_of_ble_eq_true rfl) ?_
  refine sp_B_isKind  ?_
  show PW _ _ _ 48 [some (.ref 54), some (.int 0), some (.int 3), some (.int xx), some (.int b), some (.int (nI d)), some (.int 0), some (.int 0)] [.int (b2i (0 ≤ (0 : Int32) ∧ (0 : Int32) ≤ 7))] (E (tr 56 435 x l) y)
  refine PW_if_eq c_B_call_48 (fun h3 => absurd (by decide) (b2i_0.mp h3)) (fun _ => ?_)
  refine PW_iload c_B_call_51 rfl ?_
  refine PW_bipush (v := 30) c_B_call_53 (by decide) ?_
  refine PW_icmp_lt c_B_call_55 (fun h4 => ?_) (fun h4 => absurd ((nI_ltI (by omega) (by decide)).mpr (by omega) : nI d < nI 30) h4)
  refine PW_iload c_B_call_60 rfl ?_
  refine PW_iload_n c_B_call_62 rfl ?_
  refine PW_S0 (d2 := 1) (st := []) [.int 0, .int 3] c_B_call_63 lk_B_call_49 rfl rfl rfl (Nat.le_of_ble_eq_true rfl) (by first | decide | omega) (Nat.le_of_ble_eq_true rfl) ?_
  refine sp_own_0_3 ?_
  show PW _ _ _ 66 [some (.ref 54), some (.int 0), some (.int 3), some (.int xx), some (.int b), some (.int (nI d)), some (.int 0), some (.int 0)] [.int 2] (E (tr 56 435 x l) y)
  refine PW_istore (i := 7) (L2 := [some (.ref 54), some (.int 0), some (.int 3), some (.int xx), some (.int b), some (.int (nI d)), some (.int 0), some (.int 2)]) c_B_call_66 (Nat.le_of_ble_eq_true rfl) rfl rfl ?_
  refine PW_aload_n c_B_call_68 rfl ?_
  refine PW_iload c_B_call_69 rfl ?_
  refine PW_V0 (d2 := 0) (st := []) [.int 2] c_B_call_71 lk_B_call_53 (po_54 _ _) rfl rfl rfl (Nat.le_of_ble_eq_true rfl) (by first | decide | omega) (Nat.le_of_ble_eq_true rfl) ?_
  refine sp_note (by (try simp only [List.length_cons]); omega) ?_
  show PW _ _ _ 74 [some (.ref 54), some (.int 0), some (.int 3), some (.int xx), some (.int b), some (.int (nI d)), some (.int 0), some (.int 2)] [] (E (tr 56 435 x (2 :: l)) y)
  refine PW_iload_n c_B_call_74 rfl ?_
  refine PW_iconst (v := 2) c_B_call_75 (by decide) ?_
  refine PW_icmp_eq c_B_call_76 (fun h5 => absurd h5 (by decide)) (fun _ => ?_)
  refine PW_iload_n c_B_call_79 rfl ?_
  refine PW_iconst (v := 3) c_B_call_80 (by decide) ?_
  refine PW_icmp_ne c_B_call_81 (fun h6 => absurd (by decide) h6) (fun _ => ?_)
  refine PW_aload_n c_B_call_84 rfl ?_
  refine PW_iload c_B_call_85 rfl ?_
  refine PW_iload c_B_call_87 rfl ?_
  refine PW_S0 (d2 := 0) (st := [.int 2, .ref 54]) [.int 0] c_B_call_89 lk_B_call_22 rfl rfl rfl (Nat.le_of_ble_eq_true rfl) (by first | decide | omega) (Nat.le_of_ble_eq_true rfl) ?_
  refine sp_kab0 ?_
  show PW _ _ _ 92 [some (.ref 54), some (.int 0), some (.int 3), some (.int xx), some (.int b), some (.int (nI d)), some (.int 0), some (.int 2)] [.int (-1), .int 2, .ref 54] (E (tr 56 435 x (2 :: l)) y)
  refine PW_iload_n c_B_call_92 rfl ?_
  refine PW_iload c_B_call_93 rfl ?_
  refine PW_iload c_B_call_95 rfl ?_
  refine PW_iconst (v := 1) c_B_call_97 (by decide) ?_
  refine PW_iadd c_B_call_98 ?_
  refine PW_V0 (d2 := 8) (st := []) [.int 2, .int (-1), .int xx, .int b, .int ((nI d) + 1)] c_B_call_99 lk_B_call_57 (po_54 _ _) rfl rfl rfl (Nat.le_of_ble_eq_true rfl) (by first | decide | omega) (Nat.le_of_ble_eq_true rfl) ?_
  show PW _ _ _ 0 [some (.ref 54), some (.int 2), some (.int (-1)), some (.int xx), some (.int b), some (.int ((nI d) + 1)), none] [] (E (tr 56 435 x (2 :: l)) y)
  refine PW_aload_n c_B_runLater_0 rfl ?_
  refine PW_iload c_B_runLater_1 rfl ?_
  refine PW_V0 (d2 := 1) (st := []) [.int b] c_B_runLater_3 lk_B_runLater_42 (po_54 _ _) rfl rfl rfl (Nat.le_of_ble_eq_true rfl) (by first | decide | omega) (Nat.le_of_ble_eq_true rfl) ?_
  refine sp_kof K ?_
  show PW _ _ _ 6 [some (.ref 54), some (.int 2), some (.int (-1)), some (.int xx), some (.int b), some (.int ((nI d) + 1)), none] [.int 0] (E (tr 56 435 x (2 :: l)) y)
  refine PW_istore (i := 6) (L2 := [some (.ref 54), some (.int 2), some (.int (-1)), some (.int xx), some (.int b), some (.int ((nI d) + 1)), some (.int 0)]) c_B_runLater_6 (Nat.le_of_ble_eq_true rfl) rfl rfl ?_
  refine PW_iload_n c_B_runLater_8 rfl ?_
  refine PW_lookup (tgt := 68) c_B_runLater_9 (by decide) rfl rfl ?_
  refine PW_aload_n c_B_runLater_68 rfl ?_
  refine PW_iload c_B_runLater_69 rfl ?_
  refine PW_iconst (v := 1) c_B_runLater_71 (by decide) ?_
  refine PW_iload_n c_B_runLater_72 rfl ?_
  refine PW_iload c_B_runLater_73 rfl ?_
  refine PW_iload c_B_runLater_75 rfl ?_
  refine PW_V0 (d2 := 7) (st := []) [.int 0, .int 1, .int xx, .int b, .int ((nI d) + 1)] c_B_runLater_77 lk_B_runLater_45 (po_54 _ _) rfl rfl rfl (Nat.le_of_ble_eq_true rfl) (by first | decide | omega) (Nat.le_of_ble_eq_true rfl) ?_
  refine PW.deeper (k := (7, 0, 0, z)) (Nat.le_of_ble_eq_true rfl) (Nat.le_refl _) (Nat.le_refl _) ?_
  refine sp_call_0_0_1 K (nI_1 d) (by omega) (by (try simp only [List.length_cons]); omega) ?_
  show PW _ _ _ 80 [some (.ref 54), some (.int 2), some (.int (-1)), some (.int xx), some (.int b), some (.int ((nI d) + 1)), some (.int 0)] [.int ((xx + b) * 2)] (E (tr 56 435 x (1 :: 10 :: 2 :: l)) y)
  refine PW_aload_n c_B_runLater_80 rfl ?_
  refine PW_iload c_B_runLater_81 rfl ?_
  refine PW_iconst (v := 2) c_B_runLater_83 (by decide) ?_
  refine PW_iconst (v := 1) c_B_runLater_84 (by decide) ?_
  refine PW_iload c_B_runLater_85 rfl ?_
  refine PW_iload c_B_runLater_87 rfl ?_
  refine PW_V0 (d2 := 7) (st := [.int ((xx + b) * 2)]) [.int 0, .int 2, .int 1, .int b, .int ((nI d) + 1)] c_B_runLater_89 lk_B_runLater_45 (po_54 _ _) rfl rfl rfl (Nat.le_of_ble_eq_true rfl) (by first | decide | omega) (Nat.le_of_ble_eq_true rfl) ?_
  refine PW.deeper (k := (5, 0, 0, z)) (Nat.le_of_ble_eq_true rfl) (Nat.le_refl _) (Nat.le_refl _) ?_
  refine sp_call_0_0_2 K (nI_1 d) (by omega) (by (try simp only [List.length_cons]); omega) ?_
  show PW _ _ _ 92 [some (.ref 54), some (.int 2), some (.int (-1)), some (.int xx), some (.int b), some (.int ((nI d) + 1)), some (.int 0)] [.int ((1 : Int32) ^^^ b), .int ((xx + b) * 2)] (E (tr 56 435 x (11 :: 1 :: 10 :: 2 :: l)) y)
  refine PW_isub c_B_runLater_92 ?_
  refine PW_ireturn (ty := .int) c_B_runLater_93 rfl rfl ?_
  show PW _ _ _ 102 [some (.ref 54), some (.int 0), some (.int 3), some (.int xx), some (.int b), some (.int (nI d)), some (.int 0), some (.int 2)] [.int (((xx + b) * 2) - ((1 : Int32) ^^^ b))] (E (tr 56 435 x (11 :: 1 :: 10 :: 2 :: l)) y)
  refine PW_goto c_B_call_102 ?_
  refine PW_ireturn (ty := .int) c_B_call_123 rfl rfl ?_
  exact h
theorem sp_call_1_0_0 {z : ZS} {post : Option Value → List PE → Prop} {x y : XS} {l : List Int32} {b xx dp : Int32} {d : Nat} (K : kb x b 1) (ed : dp = nI d) (hd : d + 1 ≤ 30) (hl : l.length + 1 ≤ 24) (h : post (some (.int (xx + b))) (E (tr 56 435 x (1 :: l)) y)) : PW (5, 0, 0, z) m_B_call post 0 [some (.ref 54), some (.int 0), some (.int 0), some (.int xx), some (.int b), some (.int dp), none, none] [] (E (tr 56 435 x l) y) := by
  subst ed
  refine PW_iload_n c_B_call_0 rfl ?_
  refine PW_istore (i := 6) (L2 := [some (.ref 54), some (.int 0), some (.int 0), some (.int xx), some (.int b), some (.int (nI d)), some (.int 0), none]) c_B_call_1 (Nat.le_of_ble_eq_true rfl) rfl rfl ?_
  refine PW_iconst (v := 0) c_B_call_3 (by decide) ?_
  refine PW_istore (i := 7) (L2 := [some (.ref 54), some (.int 0), some (.int 0), some (.int xx), some (.int b), some (.int (nI d)), some (.int 0), some (.int 0)]) c_B_call_4 (Nat.le_of_ble_eq_true rfl) rfl rfl ?_
  refine PW_iload c_B_call_6 rfl ?_
  refine PW_bipush (v := 8) c_B_call_8 (by decide) ?_
  refine PW_icmp_ge c_B_call_10 (fun h0 => absurd h0 (by decide)) (fun _ => ?_)
  refine PW_iload c_B_call_13 rfl ?_
  refine PW_S0 (d2 := 0) (st := []) [.int 0] c_B_call_15 lk_B_call_18 rfl rfl rfl (Nat.le_of_ble_eq_true rfl) (by first | decide | omega) (Nat.le_of_ble_eq_true rfl) ?_
  refine sp_B_isKind  ?_
  show PW _ _ _ 18 [some (.ref 54), some (.int 0), some (.int 0), some (.int xx), some (.int b), some (.int (nI d)), some (.int 0), some (.int 0)] [.int (b2i (0 ≤ (0 : Int32) ∧ (0 : Int32) ≤ 7))] (E (tr 56 435 x l) y)
  refine PW_if_eq c_B_call_18 (fun h1 => absurd (by decide) (b2i_0.mp h1)) (fun _ => ?_)
  refine PW_iload c_B_call_21 rfl ?_
  refine PW_iload_n c_B_call_23 rfl ?_
  refine PW_S0 (d2 := 1) (st := []) [.int 0, .int 0] c_B_call_24 lk_B_call_49 rfl rfl rfl (Nat.le_of_ble_eq_true rfl) (by first | decide | omega) (Nat.le_of_ble_eq_true rfl) ?_
  refine sp_own_0_0 ?_
  show PW _ _ _ 27 [some (.ref 54), some (.int 0), some (.int 0), some (.int xx), some (.int b), some (.int (nI d)), some (.int 0), some (.int 0)] [.int 1] (E (tr 56 435 x l) y)
  refine PW_if_ne c_B_call_27 (fun _ => ?_) (fun h2 => absurd h2 (by decide))
  refine PW_iload c_B_call_43 rfl ?_
  refine PW_S0 (d2 := 0) (st := []) [.int 0] c_B_call_45 lk_B_call_18 rfl rfl rfl (Nat.le_of_ble_eq_true rfl) (by first | decide | omega) (Nat.le_of_ble_eq_true rfl) ?_
  refine sp_B_isKind  ?_
  show PW _ _ _ 48 [some (.ref 54), some (.int 0), some (.int 0), some (.int xx), some (.int b), some (.int (nI d)), some (.int 0), some (.int 0)] [.int (b2i (0 ≤ (0 : Int32) ∧ (0 : Int32) ≤ 7))] (E (tr 56 435 x l) y)
  refine PW_if_eq c_B_call_48 (fun h3 => absurd (by decide) (b2i_0.mp h3)) (fun _ => ?_)
  refine PW_iload c_B_call_51 rfl ?_
  refine PW_bipush (v := 30) c_B_call_53 (by decide) ?_
  refine PW_icmp_lt c_B_call_55 (fun h4 => ?_) (fun h4 => absurd ((nI_ltI (by omega) (by decide)).mpr (by omega) : nI d < nI 30) h4)
  refine PW_iload c_B_call_60 rfl ?_
  refine PW_iload_n c_B_call_62 rfl ?_
  refine PW_S0 (d2 := 1) (st := []) [.int 0, .int 0] c_B_call_63 lk_B_call_49 rfl rfl rfl (Nat.le_of_ble_eq_true rfl) (by first | decide | omega) (Nat.le_of_ble_eq_true rfl) ?_
  refine sp_own_0_0 ?_
  show PW _ _ _ 66 [some (.ref 54), some (.int 0), some (.int 0), some (.int xx), some (.int b), some (.int (nI d)), some (.int 0), some (.int 0)] [.int 1] (E (tr 56 435 x l) y)
  refine PW_istore (i := 7) (L2 := [some (.ref 54), some (.int 0), some (.int 0), some (.int xx), some (.int b), some (.int (nI d)), some (.int 0), some (.int 1)]) c_B_call_66 (Nat.le_of_ble_eq_true rfl) rfl rfl ?_
  refine PW_aload_n c_B_call_68 rfl ?_
  refine PW_iload c_B_call_69 rfl ?_
  refine PW_V0 (d2 := 0) (st := []) [.int 1] c_B_call_71 lk_B_call_53 (po_54 _ _) rfl rfl rfl (Nat.le_of_ble_eq_true rfl) (by first | decide | omega) (Nat.le_of_ble_eq_true rfl) ?_
  refine sp_note (by (try simp only [List.length_cons]); omega) ?_
  show PW _ _ _ 74 [some (.ref 54), some (.int 0), some (.int 0), some (.int xx), some (.int b), some (.int (nI d)), some (.int 0), some (.int 1)] [] (E (tr 56 435 x (1 :: l)) y)
  refine PW_iload_n c_B_call_74 rfl ?_
  refine PW_iconst (v := 2) c_B_call_75 (by decide) ?_
  refine PW_icmp_eq c_B_call_76 (fun h5 => absurd h5 (by decide)) (fun _ => ?_)
  refine PW_iload_n c_B_call_79 rfl ?_
  refine PW_iconst (v := 3) c_B_call_80 (by decide) ?_
  refine PW_icmp_ne c_B_call_81 (fun _ => ?_) (fun h6 => absurd h6 (by decide))
  refine PW_aload_n c_B_call_105 rfl ?_
  refine PW_iload c_B_call_106 rfl ?_
  refine PW_iload c_B_call_108 rfl ?_
  refine PW_S0 (d2 := 0) (st := [.int 1, .ref 54]) [.int 0] c_B_call_110 lk_B_call_22 rfl rfl rfl (Nat.le_of_ble_eq_true rfl) (by first | decide | omega) (Nat.le_of_ble_eq_true rfl) ?_
  refine sp_kab0 ?_
  show PW _ _ _ 113 [some (.ref 54), some (.int 0), some (.int 0), some (.int xx), some (.int b), some (.int (nI d)), some (.int 0), some (.int 1)] [.int (-1), .int 1, .ref 54] (E (tr 56 435 x (1 :: l)) y)
  refine PW_iload_n c_B_call_113 rfl ?_
  refine PW_iload c_B_call_114 rfl ?_
  refine PW_iload c_B_call_116 rfl ?_
  refine PW_iconst (v := 1) c_B_call_118 (by decide) ?_
  refine PW_iadd c_B_call_119 ?_
  refine PW_V0 (d2 := 4) (st := []) [.int 1, .int (-1), .int xx, .int b, .int ((nI d) + 1)] c_B_call_120 lk_B_call_60 (po_54 _ _) rfl rfl rfl (Nat.le_of_ble_eq_true rfl) (by first | decide | omega) (Nat.le_of_ble_eq_true rfl) ?_
  show PW _ _ _ 0 [some (.ref 54), some (.int 1), some (.int (-1)), some (.int xx), some (.int b), some (.int ((nI d) + 1)), none] [] (E (tr 56 435 x (1 :: l)) y)
  refine PW_aload_n c_B_runFirst_0 rfl ?_
  refine PW_iload c_B_runFirst_1 rfl ?_
  refine PW_V0 (d2 := 1) (st := []) [.int b] c_B_runFirst_3 lk_B_runFirst_42 (po_54 _ _) rfl rfl rfl (Nat.le_of_ble_eq_true rfl) (by first | decide | omega) (Nat.le_of_ble_eq_true rfl) ?_
  refine sp_kof K ?_
  show PW _ _ _ 6 [some (.ref 54), some (.int 1), some (.int (-1)), some (.int xx), some (.int b), some (.int ((nI d) + 1)), none] [.int 1] (E (tr 56 435 x (1 :: l)) y)
  refine PW_istore (i := 6) (L2 := [some (.ref 54), some (.int 1), some (.int (-1)), some (.int xx), some (.int b), some (.int ((nI d) + 1)), some (.int 1)]) c_B_runFirst_6 (Nat.le_of_ble_eq_true rfl) rfl rfl ?_
  refine PW_iload_n c_B_runFirst_8 rfl ?_
  refine PW_lookup (tgt := 84) c_B_runFirst_9 (by decide) rfl rfl ?_
  refine PW_iload_n c_B_runFirst_84 rfl ?_
  refine PW_iload c_B_runFirst_85 rfl ?_
  refine PW_iadd c_B_runFirst_87 ?_
  refine PW_ireturn (ty := .int) c_B_runFirst_88 rfl rfl ?_
  show PW _ _ _ 123 [some (.ref 54), some (.int 0), some (.int 0), some (.int xx), some (.int b), some (.int (nI d)), some (.int 0), some (.int 1)] [.int (xx + b)] (E (tr 56 435 x (1 :: l)) y)
  refine PW_ireturn (ty := .int) c_B_call_123 rfl rfl ?_
  exact h
theorem sp_call_1_1_0 {z : ZS} {post : Option Value → List PE → Prop} {x y : XS} {l : List Int32} {b xx dp : Int32} {d : Nat} (K : kb x b 1) (ed : dp = nI d) (hd : d + 2 ≤ 30) (hl : l.length + 2 ≤ 24) (h : post (some (.int ((xx + b) + 3))) (E (tr 56 435 x (1 :: 20 :: l)) y)) : PW (7, 0, 0, z) m_B_call post 0 [some (.ref 54), some (.int 1), some (.int 0), some (.int xx), some (.int b), some (.int dp), none, none] [] (E (tr 56 435 x l) y) := by
  subst ed
  refine PW_iload_n c_B_call_0 rfl ?_
  refine PW_istore (i := 6) (L2 := [some (.ref 54), some (.int 1), some (.int 0), some (.int xx), some (.int b), some (.int (nI d)), some (.int 1), none]) c_B_call_1 (Nat.le_of_ble_eq_true rfl) rfl rfl ?_
  refine PW_iconst (v := 0) c_B_call_3 (by decide) ?_
  refine PW_istore (i := 7) (L2 := [some (.ref 54), some (.int 1), some (.int 0), some (.int xx), some (.int b), some (.int (nI d)), some (.int 1), some (.int 0)]) c_B_call_4 (Nat.le_of_ble_eq_true rfl) rfl rfl ?_
  refine PW_iload c_B_call_6 rfl ?_
  refine PW_bipush (v := 8) c_B_call_8 (by decide) ?_
  refine PW_icmp_ge c_B_call_10 (fun h0 => absurd h0 (by decide)) (fun _ => ?_)
  refine PW_iload c_B_call_13 rfl ?_
  refine PW_S0 (d2 := 0) (st := []) [.int 1] c_B_call_15 lk_B_call_18 rfl rfl rfl (Nat.le_of_ble_eq_true rfl) (by first | decide | omega) (Nat.le_of_ble_eq_true rfl) ?_
  refine sp_B_isKind  ?_
  show PW _ _ _ 18 [some (.ref 54), some (.int 1), some (.int 0), some (.int xx), some (.int b), some (.int (nI d)), some (.int 1), some (.int 0)] [.int (b2i (0 ≤ (1 : Int32) ∧ (1 : Int32) ≤ 7))] (E (tr 56 435 x l) y)
  refine PW_if_eq c_B_call_18 (fun h1 => absurd (by decide) (b2i_0.mp h1)) (fun _ => ?_)
  refine PW_iload c_B_call_21 rfl ?_
  refine PW_iload_n c_B_call_23 rfl ?_
  refine PW_S0 (d2 := 1) (st := []) [.int 1, .int 0] c_B_call_24 lk_B_call_49 rfl rfl rfl (Nat.le_of_ble_eq_true rfl) (by first | decide | omega) (Nat.le_of_ble_eq_true rfl) ?_
  refine sp_own_1_0 ?_
  show PW _ _ _ 27 [some (.ref 54), some (.int 1), some (.int 0), some (.int xx), some (.int b), some (.int (nI d)), some (.int 1), some (.int 0)] [.int 20] (E (tr 56 435 x l) y)
  refine PW_if_ne c_B_call_27 (fun _ => ?_) (fun h2 => absurd h2 (by decide))
  refine PW_iload c_B_call_43 rfl ?_
  refine PW_S0 (d2 := 0) (st := []) [.int 1] c_B_call_45 lk_B_call_18 rfl rfl rfl (Nat.le_of_ble_eq_true rfl) (by first | decide | omega) (Nat.le_of_ble_eq_true rfl) ?_
  refine sp_B_isKind  ?_
  show PW _ _ _ 48 [some (.ref 54), some (.int 1), some (.int 0), some (.int xx), some (.int b), some (.int (nI d)), some (.int 1), some (.int 0)] [.int (b2i (0 ≤ (1 : Int32) ∧ (1 : Int32) ≤ 7))] (E (tr 56 435 x l) y)
  refine PW_if_eq c_B_call_48 (fun h3 => absurd (by decide) (b2i_0.mp h3)) (fun _ => ?_)
  refine PW_iload c_B_call_51 rfl ?_
  refine PW_bipush (v := 30) c_B_call_53 (by decide) ?_
  refine PW_icmp_lt c_B_call_55 (fun h4 => ?_) (fun h4 => absurd ((nI_ltI (by omega) (by decide)).mpr (by omega) : nI d < nI 30) h4)
  refine PW_iload c_B_call_60 rfl ?_
  refine PW_iload_n c_B_call_62 rfl ?_
  refine PW_S0 (d2 := 1) (st := []) [.int 1, .int 0] c_B_call_63 lk_B_call_49 rfl rfl rfl (Nat.le_of_ble_eq_true rfl) (by first | decide | omega) (Nat.le_of_ble_eq_true rfl) ?_
  refine sp_own_1_0 ?_
  show PW _ _ _ 66 [some (.ref 54), some (.int 1), some (.int 0), some (.int xx), some (.int b), some (.int (nI d)), some (.int 1), some (.int 0)] [.int 20] (E (tr 56 435 x l) y)
  refine PW_istore (i := 7) (L2 := [some (.ref 54), some (.int 1), some (.int 0), some (.int xx), some (.int b), some (.int (nI d)), some (.int 1), some (.int 20)]) c_B_call_66 (Nat.le_of_ble_eq_true rfl) rfl rfl ?_
  refine PW_aload_n c_B_call_68 rfl ?_
  refine PW_iload c_B_call_69 rfl ?_
  refine PW_V0 (d2 := 0) (st := []) [.int 20] c_B_call_71 lk_B_call_53 (po_54 _ _) rfl rfl rfl (Nat.le_of_ble_eq_true rfl) (by first | decide | omega) (Nat.le_of_ble_eq_true rfl) ?_
  refine sp_note (by (try simp only [List.length_cons]); omega) ?_
  show PW _ _ _ 74 [some (.ref 54), some (.int 1), some (.int 0), some (.int xx), some (.int b), some (.int (nI d)), some (.int 1), some (.int 20)] [] (E (tr 56 435 x (20 :: l)) y)
  refine PW_iload_n c_B_call_74 rfl ?_
  refine PW_iconst (v := 2) c_B_call_75 (by decide) ?_
  refine PW_icmp_eq c_B_call_76 (fun h5 => absurd h5 (by decide)) (fun _ => ?_)
  refine PW_iload_n c_B_call_79 rfl ?_
  refine PW_iconst (v := 3) c_B_call_80 (by decide) ?_
  refine PW_icmp_ne c_B_call_81 (fun _ => ?_) (fun h6 => absurd h6 (by decide))
  refine PW_aload_n c_B_call_105 rfl ?_
  refine PW_iload c_B_call_106 rfl ?_
  refine PW_iload c_B_call_108 rfl ?_
  refine PW_S0 (d2 := 0) (st := [.int 20, .ref 54]) [.int 1] c_B_call_110 lk_B_call_22 rfl rfl rfl (Nat.le_of_ble_eq_true rfl) (by first | decide | omega) (Nat.le_of_ble_eq_true rfl) ?_
  refine sp_kab1 ?_
  show PW _ _ _ 113 [some (.ref 54), some (.int 1), some (.int 0), some (.int xx), some (.int b), some (.int (nI d)), some (.int 1), some (.int 20)] [.int 0, .int 20, .ref 54] (E (tr 56 435 x (20 :: l)) y)
  refine PW_iload_n c_B_call_113 rfl ?_
  refine PW_iload c_B_call_114 rfl ?_
  refine PW_iload c_B_call_116 rfl ?_
  refine PW_iconst (v := 1) c_B_call_118 (by decide) ?_
  refine PW_iadd c_B_call_119 ?_
  refine PW_V0 (d2 := 6) (st := []) [.int 20, .int 0, .int xx, .int b, .int ((nI d) + 1)] c_B_call_120 lk_B_call_60 (po_54 _ _) rfl rfl rfl (Nat.le_of_ble_eq_true rfl) (by first | decide | omega) (Nat.le_of_ble_eq_true rfl) ?_
  show PW _ _ _ 0 [some (.ref 54), some (.int 20), some (.int 0), some (.int xx), some (.int b), some (.int ((nI d) + 1)), none] [] (E (tr 56 435 x (20 :: l)) y)
  refine PW_aload_n c_B_runFirst_0 rfl ?_
  refine PW_iload c_B_runFirst_1 rfl ?_
  refine PW_V0 (d2 := 1) (st := []) [.int b] c_B_runFirst_3 lk_B_runFirst_42 (po_54 _ _) rfl rfl rfl (Nat.le_of_ble_eq_true rfl) (by first | decide | omega) (Nat.le_of_ble_eq_true rfl) ?_
  refine sp_kof K ?_
  show PW _ _ _ 6 [some (.ref 54), some (.int 20), some (.int 0), some (.int xx), some (.int b), some (.int ((nI d) + 1)), none] [.int 1] (E (tr 56 435 x (20 :: l)) y)
  refine PW_istore (i := 6) (L2 := [some (.ref 54), some (.int 20), some (.int 0), some (.int xx), some (.int b), some (.int ((nI d) + 1)), some (.int 1)]) c_B_runFirst_6 (Nat.le_of_ble_eq_true rfl) rfl rfl ?_
  refine PW_iload_n c_B_runFirst_8 rfl ?_
  refine PW_lookup (tgt := 104) c_B_runFirst_9 (by decide) rfl rfl ?_
  refine PW_aload_n c_B_runFirst_104 rfl ?_
  refine PW_iload_n c_B_runFirst_105 rfl ?_
  refine PW_iconst (v := 0) c_B_runFirst_106 (by decide) ?_
  refine PW_iload_n c_B_runFirst_107 rfl ?_
  refine PW_iload c_B_runFirst_108 rfl ?_
  refine PW_iload c_B_runFirst_110 rfl ?_
  refine PW_V0 (d2 := 5) (st := []) [.int 0, .int 0, .int xx, .int b, .int ((nI d) + 1)] c_B_runFirst_112 lk_B_runFirst_45 (po_54 _ _) rfl rfl rfl (Nat.le_of_ble_eq_true rfl) (by first | decide | omega) (Nat.le_of_ble_eq_true rfl) ?_
  refine PW.deeper (k := (5, 0, 0, z)) (Nat.le_of_ble_eq_true rfl) (Nat.le_refl _) (Nat.le_refl _) ?_
  refine sp_call_1_0_0 K (nI_1 d) (by omega) (by (try simp only [List.length_cons]); omega) ?_
  show PW _ _ _ 115 [some (.ref 54), some (.int 20), some (.int 0), some (.int xx), some (.int b), some (.int ((nI d) + 1)), some (.int 1)] [.int (xx + b)] (E (tr 56 435 x (1 :: 20 :: l)) y)
  refine PW_iconst (v := 3) c_B_runFirst_115 (by decide) ?_
  refine PW_iadd c_B_runFirst_116 ?_
  refine PW_ireturn (ty := .int) c_B_runFirst_117 rfl rfl ?_
  show PW _ _ _ 123 [some (.ref 54), some (.int 1), some (.int 0), some (.int xx), some (.int b), some (.int (nI d)), some (.int 1), some (.int 20)] [.int ((xx + b) + 3)] (E (tr 56 435 x (1 :: 20 :: l)) y)
  refine PW_ireturn (ty := .int) c_B_call_123 rfl rfl ?_
  exact h
theorem sp_call_1_1_1 {z : ZS} {post : Option Value → List PE → Prop} {x y : XS} {l : List Int32} {b xx dp : Int32} {d : Nat} (K : kb x b 1) (ed : dp = nI d) (hd : d + 3 ≤ 30) (hl : l.length + 3 ≤ 24) (h : post (some (.int (((xx + b) + 3) * 2))) (E (tr 56 435 x (1 :: 20 :: 10 :: l)) y)) : PW (9, 0, 0, z) m_B_call post 0 [some (.ref 54), some (.int 1), some (.int 1), some (.int xx), some (.int b), some (.int dp), none, none] [] (E (tr 56 435 x l) y) := by
  subst ed
  refine PW_iload_n c_B_call_0 rfl ?_
  refine PW_istore (i := 6) (L2 := [some (.ref 54), some (.int 1), some (.int 1), some (.int xx), some (.int b), some (.int (nI d)), some (.int 1), none]) c_B_call_1 (Nat.le_of_ble_eq_true rfl) rfl rfl ?_
  refine PW_iconst (v := 0) c_B_call_3 (by decide) ?_
  refine PW_istore (i := 7) (L2 := [some (.ref 54), some (.int 1), some (.int 1), some (.int xx), some (.int b), some (.int (nI d)), some (.int 1), some (.int 0)]) c_B_call_4 (Nat.le_of_ble_eq_true rfl) rfl rfl ?_
  refine PW_iload c_B_call_6 rfl ?_
  refine PW_bipush (v := 8) c_B_call_8 (by decide) ?_
  refine PW_icmp_ge c_B_call_10 (fun h0 => absurd h0 (by decide)) (fun _ => ?_)
  refine PW_iload c_B_call_13 rfl ?_
  refine PW_S0 (d2 := 0) (st := []) [.int 1] c_B_call_15 lk_B_call_18 rfl rfl rfl (Nat.le_of_ble_eq_true rfl) (by first | decide | omega) (Nat.le_of_ble_eq_true rfl) ?_
  refine sp_B_isKind  ?_
  show PW _ _ _ 18 [some (.ref 54), some (.int 1), some (.int 1), some (.int xx), some (.int b), some (.int (nI d)), some (.int 1), some (.int 0)] [.int (b2i (0 ≤ (1 : Int32) ∧ (1 : Int32) ≤ 7))] (E (tr 56 435 x l) y)
  refine PW_if_eq c_B_call_18 (fun h1 => absurd (by decide) (b2i_0.mp h1)) (fun _ => ?_)
  refine PW_iload c_B_call_21 rfl ?_
  refine PW_iload_n c_B_call_23 rfl ?_
  refine PW_S0 (d2 := 1) (st := []) [.int 1, .int 1] c_B_call_24 lk_B_call_49 rfl rfl rfl (Nat.le_of_ble_eq_true rfl) (by first | decide | omega) (Nat.le_of_ble_eq_true rfl) ?_
  refine sp_own_1_1 ?_
  show PW _ _ _ 27 [some (.ref 54), some (.int 1), some (.int 1), some (.int xx), some (.int b), some (.int (nI d)), some (.int 1), some (.int 0)] [.int 0] (E (tr 56 435 x l) y)
  refine PW_if_ne c_B_call_27 (fun h2 => absurd (by decide) h2) (fun _ => ?_)
  refine PW_iload c_B_call_30 rfl ?_
  refine PW_S0 (d2 := 0) (st := []) [.int 1] c_B_call_32 lk_B_call_22 rfl rfl rfl (Nat.le_of_ble_eq_true rfl) (by first | decide | omega) (Nat.le_of_ble_eq_true rfl) ?_
  refine sp_kab1 ?_
  show PW _ _ _ 35 [some (.ref 54), some (.int 1), some (.int 1), some (.int xx), some (.int b), some (.int (nI d)), some (.int 1), some (.int 0)] [.int 0] (E (tr 56 435 x l) y)
  refine PW_istore (i := 6) (L2 := [some (.ref 54), some (.int 1), some (.int 1), some (.int xx), some (.int b), some (.int (nI d)), some (.int 0), some (.int 0)]) c_B_call_35 (Nat.le_of_ble_eq_true rfl) rfl rfl ?_
  refine PW_iinc (i := 7) (v := 1) (L2 := [some (.ref 54), some (.int 1), some (.int 1), some (.int xx), some (.int b), some (.int (nI d)), some (.int 0), some (.int 1)]) c_B_call_37 rfl (by decide) (Nat.le_of_ble_eq_true rfl) rfl rfl ?_
  refine PW_goto c_B_call_40 ?_
  refine PW_iload c_B_call_6 rfl ?_
  refine PW_bipush (v := 8) c_B_call_8 (by decide) ?_
  refine PW_icmp_ge c_B_call_10 (fun h3 => absurd h3 (by decide)) (fun _ => ?_)
  refine PW_iload c_B_call_13 rfl ?_
  refine PW_S0 (d2 := 0) (st := []) [.int 0] c_B_call_15 lk_B_call_18 rfl rfl rfl (Nat.le_of_ble_eq_true rfl) (by first | decide | omega) (Nat.le_of_ble_eq_true rfl) ?_
  refine sp_B_isKind  ?_
  show PW _ _ _ 18 [some (.ref 54), some (.int 1), some (.int 1), some (.int xx), some (.int b), some (.int (nI d)), some (.int 0), some (.int 1)] [.int (b2i (0 ≤ (0 : Int32) ∧ (0 : Int32) ≤ 7))] (E (tr 56 435 x l) y)
  refine PW_if_eq c_B_call_18 (fun h4 => absurd (by decide) (b2i_0.mp h4)) (fun _ => ?_)
  refine PW_iload c_B_call_21 rfl ?_
  refine PW_iload_n c_B_call_23 rfl ?_
  refine PW_S0 (d2 := 1) (st := []) [.int 0, .int 1] c_B_call_24 lk_B_call_49 rfl rfl rfl (Nat.le_of_ble_eq_true rfl) (by first | decide | omega) (Nat.le_of_ble_eq_true rfl) ?_
  refine sp_own_0_1 ?_
  show PW _ _ _ 27 [some (.ref 54), some (.int 1), some (.int 1), some (.int xx), some (.int b), some (.int (nI d)), some (.int 0), some (.int 1)] [.int 10] (E (tr 56 435 x l) y)
  refine PW_if_ne c_B_call_27 (fun _ => ?_) (fun h5 => absurd h5 (by decide))
  refine PW_iload c_B_call_43 rfl ?_
  refine PW_S0 (d2 := 0) (st := []) [.int 0] c_B_call_45 lk_B_call_18 rfl rfl rfl (Nat.le_of_ble_eq_true rfl) (by first | decide | omega) (Nat.le_of_ble_eq_true rfl) ?_
  refine sp_B_isKind  ?_
  show PW _ _ _ 48 [some (.ref 54), some (.int 1), some (.int 1), some (.int xx), some (.int b), some (.int (nI d)), some (.int 0), some (.int 1)] [.int (b2i (0 ≤ (0 : Int32) ∧ (0 : Int32) ≤ 7))] (E (tr 56 435 x l) y)
  refine PW_if_eq c_B_call_48 (fun h6 => absurd (by decide) (b2i_0.mp h6)) (fun _ => ?_)
  refine PW_iload c_B_call_51 rfl ?_
  refine PW_bipush (v := 30) c_B_call_53 (by decide) ?_
  refine PW_icmp_lt c_B_call_55 (fun h7 => ?_) (fun h7 => absurd ((nI_ltI (by omega) (by decide)).mpr (by omega) : nI d < nI 30) h7)
  refine PW_iload c_B_call_60 rfl ?_
  refine PW_iload_n c_B_call_62 rfl ?_
  refine PW_S0 (d2 := 1) (st := []) [.int 0, .int 1] c_B_call_63 lk_B_call_49 rfl rfl rfl (Nat.le_of_ble_eq_true rfl) (by first | decide | omega) (Nat.le_of_ble_eq_true rfl) ?_
  refine sp_own_0_1 ?_
  show PW _ _ _ 66 [some (.ref 54), some (.int 1), some (.int 1), some (.int xx), some (.int b), some (.int (nI d)), some (.int 0), some (.int 1)] [.int 10] (E (tr 56 435 x l) y)
  refine PW_istore (i := 7) (L2 := [some (.ref 54), some (.int 1), some (.int 1), some (.int xx), some (.int b), some (.int (nI d)), some (.int 0), some (.int 10)]) c_B_call_66 (Nat.le_of_ble_eq_true rfl) rfl rfl ?_
  refine PW_aload_n c_B_call_68 rfl ?_
  refine PW_iload c_B_call_69 rfl ?_
  refine PW_V0 (d2 := 0) (st := []) [.int 10] c_B_call_71 lk_B_call_53 (po_54 _ _) rfl rfl rfl (Nat.le_of_ble_eq_true rfl) (by first | decide | omega) (Nat.le_of_ble_eq_true rfl) ?_
  refine sp_note (by (try simp only [List.length_cons]); omega) ?_
  show PW _ _ _ 74 [some (.ref 54), some (.int 1), some (.int 1), some (.int xx), some (.int b), some (.int (nI d)), some (.int 0), some (.int 10)] [] (E (tr 56 435 x (10 :: l)) y)
  refine PW_iload_n c_B_call_74 rfl ?_
  refine PW_iconst (v := 2) c_B_call_75 (by decide) ?_
  refine PW_icmp_eq c_B_call_76 (fun h8 => absurd h8 (by decide)) (fun _ => ?_)
  refine PW_iload_n c_B_call_79 rfl ?_
  refine PW_iconst (v := 3) c_B_call_80 (by decide) ?_
  refine PW_icmp_ne c_B_call_81 (fun _ => ?_) (fun h9 => absurd h9 (by decide))
  refine PW_aload_n c_B_call_105 rfl ?_
  refine PW_iload c_B_call_106 rfl ?_
  refine PW_iload c_B_call_108 rfl ?_
  refine PW_S0 (d2 := 0) (st := [.int 10, .ref 54]) [.int 0] c_B_call_110 lk_B_call_22 rfl rfl rfl (Nat.le_of_ble_eq_true rfl) (by first | decide | omega) (Nat.le_of_ble_eq_true rfl) ?_
  refine sp_kab0 ?_
  show PW _ _ _ 113 [some (.ref 54), some (.int 1), some (.int 1), some (.int xx), some (.int b), some (.int (nI d)), some (.int 0), some (.int 10)] [.int (-1), .int 10, .ref 54] (E (tr 56 435 x (10 :: l)) y)
  refine PW_iload_n c_B_call_113 rfl ?_
  refine PW_iload c_B_call_114 rfl ?_
  refine PW_iload c_B_call_116 rfl ?_
  refine PW_iconst (v := 1) c_B_call_118 (by decide) ?_
  refine PW_iadd c_B_call_119 ?_
  refine PW_V0 (d2 := 8) (st := []) [.int 10, .int (-1), .int xx, .int b, .int ((nI d) + 1)] c_B_call_120 lk_B_call_60 (po_54 _ _) rfl rfl rfl (Nat.le_of_ble_eq_true rfl) (by first | decide | omega) (Nat.le_of_ble_eq_true rfl) ?_
  show PW _ _ _ 0 [some (.ref 54), some (.int 10), some (.int (-1)), some (.int xx), some (.int b), some (.int ((nI d) + 1)), none] [] (E (tr 56 435 x (10 :: l)) y)
  refine PW_aload_n c_B_runFirst_0 rfl ?_
  refine PW_iload c_B_runFirst_1 rfl ?_
  refine PW_V0 (d2 := 1) (st := []) [.int b] c_B_runFirst_3 lk_B_runFirst_42 (po_54 _ _) rfl rfl rfl (Nat.le_of_ble_eq_true rfl) (by first | decide | omega) (Nat.le_of_ble_eq_true rfl) ?_
  refine sp_kof K ?_
  show PW _ _ _ 6 [some (.ref 54), some (.int 10), some (.int (-1)), some (.int xx), some (.int b), some (.int ((nI d) + 1)), none] [.int 1] (E (tr 56 435 x (10 :: l)) y)
  refine PW_istore (i := 6) (L2 := [some (.ref 54), some (.int 10), some (.int (-1)), some (.int xx), some (.int b), some (.int ((nI d) + 1)), some (.int 1)]) c_B_runFirst_6 (Nat.le_of_ble_eq_true rfl) rfl rfl ?_
  refine PW_iload_n c_B_runFirst_8 rfl ?_
  refine PW_lookup (tgt := 89) c_B_runFirst_9 (by decide) rfl rfl ?_
  refine PW_aload_n c_B_runFirst_89 rfl ?_
  refine PW_iload c_B_runFirst_90 rfl ?_
  refine PW_iconst (v := 0) c_B_runFirst_92 (by decide) ?_
  refine PW_iload_n c_B_runFirst_93 rfl ?_
  refine PW_iload c_B_runFirst_94 rfl ?_
  refine PW_iload c_B_runFirst_96 rfl ?_
  refine PW_V0 (d2 := 7) (st := []) [.int 1, .int 0, .int xx, .int b, .int ((nI d) + 1)] c_B_runFirst_98 lk_B_runFirst_45 (po_54 _ _) rfl rfl rfl (Nat.le_of_ble_eq_true rfl) (by first | decide | omega) (Nat.le_of_ble_eq_true rfl) ?_
  refine PW.deeper (k := (7, 0, 0, z)) (Nat.le_of_ble_eq_true rfl) (Nat.le_refl _) (Nat.le_refl _) ?_
  refine sp_call_1_1_0 K (nI_1 d) (by omega) (by (try simp only [List.length_cons]); omega) ?_
  show PW _ _ _ 101 [some (.ref 54), some (.int 10), some (.int (-1)), some (.int xx), some (.int b), some (.int ((nI d) + 1)), some (.int 1)] [.int ((xx + b) + 3)] (E (tr 56 435 x (1 :: 20 :: 10 :: l)) y)
  refine PW_iconst (v := 2) c_B_runFirst_101 (by decide) ?_
  refine PW_imul c_B_runFirst_102 ?_
  refine PW_ireturn (ty := .int) c_B_runFirst_103 rfl rfl ?_
  show PW _ _ _ 123 [some (.ref 54), some (.int 1), some (.int 1), some (.int xx), some (.int b), some (.int (nI d)), some (.int 0), some (.int 10)] [.int (((xx + b) + 3) * 2)] (E (tr 56 435 x (1 :: 20 :: 10 :: l)) y)
  refine PW_ireturn (ty := .int) c_B_call_123 rfl rfl ?_
  exact h
theorem sp_call_1_1_2 {z : ZS} {post : Option Value → List PE → Prop} {x y : XS} {l : List Int32} {b xx dp : Int32} {d : Nat} (K : kb x b 1) (ed : dp = nI d) (hd : d + 1 ≤ 30) (hl : l.length + 1 ≤ 24) (h : post (some (.int (xx ^^^ b))) (E (tr 56 435 x (11 :: l)) y)) : PW (5, 0, 0, z) m_B_call post 0 [some (.ref 54), some (.int 1), some (.int 2), some (.int xx), some (.int b), some (.int dp), none, none] [] (E (tr 56 435 x l) y) := by
  subst ed
  refine PW_iload_n c_B_call_0 rfl ?_
  refine PW_istore (i := 6) (L2 := [some (.ref 54), some (.int 1), some (.int 2), some (.int xx), some (.int b), some (.int (nI d)), some (.int 1), none]) c_B_call_1 (Nat.le_of_ble_eq_true rfl) rfl rfl ?_
  refine PW_iconst (v := 0) c_B_call_3 (by decide) ?_
  refine PW_istore (i := 7) (L2 := [some (.ref 54), some (.int 1), some (.int 2), some (.int xx), some (.int b), some (.int (nI d)), some (.int 1), some (.int 0)]) c_B_call_4 (Nat.le_of_ble_eq_true rfl) rfl rfl ?_
  refine PW_iload c_B_call_6 rfl ?_
  refine PW_bipush (v := 8) c_B_call_8 (by decide) ?_
  refine PW_icmp_ge c_B_call_10 (fun h0 => absurd h0 (by decide)) (fun _ => ?_)
  refine PW_iload c_B_call_13 rfl ?_
  refine PW_S0 (d2 := 0) (st := []) [.int 1] c_B_call_15 lk_B_call_18 rfl rfl rfl (Nat.le_of_ble_eq_true rfl) (by first | decide | omega) (Nat.le_of_ble_eq_true rfl) ?_
  refine sp_B_isKind  ?_
  show PW _ _ _ 18 [some (.ref 54), some (.int 1), some (.int 2), some (.int xx), some (.int b), some (.int (nI d)), some (.int 1), some (.int 0)] [.int (b2i (0 ≤ (1 : Int32) ∧ (1 : Int32) ≤ 7))] (E (tr 56 435 x l) y)
  refine PW_if_eq c_B_call_18 (fun h1 => absurd (by decide) (b2i_0.mp h1)) (fun _ => ?_)
  refine PW_iload c_B_call_21 rfl ?_
  refine PW_iload_n c_B_call_23 rfl ?_
  refine PW_S0 (d2 := 1) (st := []) [.int 1, .int 2] c_B_call_24 lk_B_call_49 rfl rfl rfl (Nat.le_of_ble_eq_true rfl) (by first | decide | omega) (Nat.le_of_ble_eq_true rfl) ?_
  refine sp_own_1_2 ?_
  show PW _ _ _ 27 [some (.ref 54), some (.int 1), some (.int 2), some (.int xx), some (.int b), some (.int (nI d)), some (.int 1), some (.int 0)] [.int 0] (E (tr 56 435 x l) y)
  refine PW_if_ne c_B_call_27 (fun h2 => absurd (by decide) h2) (fun _ => ?_)
  refine PW_iload c_B_call_30 rfl ?_
  refine PW_S0 (d2 := 0) (st := []) [.int 1] c_B_call_32 lk_B_call_22 rfl rfl rfl (Nat.le_of_ble_eq_true rfl) (by first | decide | omega) (Nat.le_of_ble_eq_true rfl) ?_
  refine sp_kab1 ?_
  show PW _ _ _ 35 [some (.ref 54), some (.int 1), some (.int 2), some (.int xx), some (.int b), some (.int (nI d)), some (.int 1), some (.int 0)] [.int 0] (E (tr 56 435 x l) y)
  refine PW_istore (i := 6) (L2 := [some (.ref 54), some (.int 1), some (.int 2), some (.int xx), some (.int b), some (.int (nI d)), some (.int 0), some (.int 0)]) c_B_call_35 (Nat.le_of_ble_eq_true rfl) rfl rfl ?_
  refine PW_iinc (i := 7) (v := 1) (L2 := [some (.ref 54), some (.int 1), some (.int 2), some (.int xx), some (.int b), some (.int (nI d)), some (.int 0), some (.int 1)]) c_B_call_37 rfl (by decide) (Nat.le_of_ble_eq_true rfl) rfl rfl ?_
  refine PW_goto c_B_call_40 ?_
  refine PW_iload c_B_call_6 rfl ?_
  refine PW_bipush (v := 8) c_B_call_8 (by decide) ?_
  refine PW_icmp_ge c_B_call_10 (fun h3 => absurd h3 (by decide)) (fun _ => ?_)
  refine PW_iload c_B_call_13 rfl ?_
  refine PW_S0 (d2 := 0) (st := []) [.int 0] c_B_call_15 lk_B_call_18 rfl rfl rfl (Nat.le_of_ble_eq_true rfl) (by first | decide | omega) (Nat.le_of_ble_eq_true rfl) ?_
  refine sp_B_isKind  ?_
  show PW _ _ _ 18 [some (.ref 54), some (.int 1), some (.int 2), some (.int xx), some (.int b), some (.int (nI d)), some (.int 0), some (.int 1)] [.int (b2i (0 ≤ (0 : Int32) ∧ (0 : Int32) ≤ 7))] (E (tr 56 435 x l) y)
  refine PW_if_eq c_B_call_18 (fun h4 => absurd (by decide) (b2i_0.mp h4)) (fun _ => ?_)
  refine PW_iload c_B_call_21 rfl ?_
  refine PW_iload_n c_B_call_23 rfl ?_
  refine PW_S0 (d2 := 1) (st := []) [.int 0, .int 2] c_B_call_24 lk_B_call_49 rfl rfl rfl (Nat.le_of_ble_eq_true rfl) (by first | decide | omega) (Nat.le_of_ble_eq_true rfl) ?_
  refine sp_own_0_2 ?_
  show PW _ _ _ 27 [some (.ref 54), some (.int 1), some (.int 2), some (.int xx), some (.int b), some (.int (nI d)), some (.int 0), some (.int 1)] [.int 11] (E (tr 56 435 x l) y)
  refine PW_if_ne c_B_call_27 (fun _ => ?_) (fun h5 => absurd h5 (by decide))
  refine PW_iload c_B_call_43 rfl ?_
  refine PW_S0 (d2 := 0) (st := []) [.int 0] c_B_call_45 lk_B_call_18 rfl rfl rfl (Nat.le_of_ble_eq_true rfl) (by first | decide | omega) (Nat.le_of_ble_eq_true rfl) ?_
  refine sp_B_isKind  ?_
  show PW _ _ _ 48 [some (.ref 54), some (.int 1), some (.int 2), some (.int xx), some (.int b), some (.int (nI d)), some (.int 0), some (.int 1)] [.int (b2i (0 ≤ (0 : Int32) ∧ (0 : Int32) ≤ 7))] (E (tr 56 435 x l) y)
  refine PW_if_eq c_B_call_48 (fun h6 => absurd (by decide) (b2i_0.mp h6)) (fun _ => ?_)
  refine PW_iload c_B_call_51 rfl ?_
  refine PW_bipush (v := 30) c_B_call_53 (by decide) ?_
  refine PW_icmp_lt c_B_call_55 (fun h7 => ?_) (fun h7 => absurd ((nI_ltI (by omega) (by decide)).mpr (by omega) : nI d < nI 30) h7)
  refine PW_iload c_B_call_60 rfl ?_
  refine PW_iload_n c_B_call_62 rfl ?_
  refine PW_S0 (d2 := 1) (st := []) [.int 0, .int 2] c_B_call_63 lk_B_call_49 rfl rfl rfl (Nat.le_of_ble_eq_true rfl) (by first | decide | omega) (Nat.le_of_ble_eq_true rfl) ?_
  refine sp_own_0_2 ?_
  show PW _ _ _ 66 [some (.ref 54), some (.int 1), some (.int 2), some (.int xx), some (.int b), some (.int (nI d)), some (.int 0), some (.int 1)] [.int 11] (E (tr 56 435 x l) y)
  refine PW_istore (i := 7) (L2 := [some (.ref 54), some (.int 1), some (.int 2), some (.int xx), some (.int b), some (.int (nI d)), some (.int 0), some (.int 11)]) c_B_call_66 (Nat.le_of_ble_eq_true rfl) rfl rfl ?_
  refine PW_aload_n c_B_call_68 rfl ?_
  refine PW_iload c_B_call_69 rfl ?_
  refine PW_V0 (d2 := 0) (st := []) [.int 11] c_B_call_71 lk_B_call_53 (po_54 _ _) rfl rfl rfl (Nat.le_of_ble_eq_true rfl) (by first | decide | omega) (Nat.le_of_ble_eq_true rfl) ?_
  refine sp_note (by (try simp only [List.length_cons]); omega) ?_
  show PW _ _ _ 74 [some (.ref 54), some (.int 1), some (.int 2), some (.int xx), some (.int b), some (.int (nI d)), some (.int 0), some (.int 11)] [] (E (tr 56 435 x (11 :: l)) y)
  refine PW_iload_n c_B_call_74 rfl ?_
  refine PW_iconst (v := 2) c_B_call_75 (by decide) ?_
  refine PW_icmp_eq c_B_call_76 (fun _ => ?_) (fun h8 => absurd (by decide) h8)
  refine PW_aload_n c_B_call_84 rfl ?_
  refine PW_iload c_B_call_85 rfl ?_
  refine PW_iload c_B_call_87 rfl ?_
  refine PW_S0 (d2 := 0) (st := [.int 11, .ref 54]) [.int 0] c_B_call_89 lk_B_call_22 rfl rfl rfl (Nat.le_of_ble_eq_true rfl) (by first | decide | omega) (Nat.le_of_ble_eq_true rfl) ?_
  refine sp_kab0 ?_
  show PW _ _ _ 92 [some (.ref 54), some (.int 1), some (.int 2), some (.int xx), some (.int b), some (.int (nI d)), some (.int 0), some (.int 11)] [.int (-1), .int 11, .ref 54] (E (tr 56 435 x (11 :: l)) y)
  refine PW_iload_n c_B_call_92 rfl ?_
  refine PW_iload c_B_call_93 rfl ?_
  refine PW_iload c_B_call_95 rfl ?_
  refine PW_iconst (v := 1) c_B_call_97 (by decide) ?_
  refine PW_iadd c_B_call_98 ?_
  refine PW_V0 (d2 := 4) (st := []) [.int 11, .int (-1), .int xx, .int b, .int ((nI d) + 1)] c_B_call_99 lk_B_call_57 (po_54 _ _) rfl rfl rfl (Nat.le_of_ble_eq_true rfl) (by first | decide | omega) (Nat.le_of_ble_eq_true rfl) ?_
  show PW _ _ _ 0 [some (.ref 54), some (.int 11), some (.int (-1)), some (.int xx), some (.int b), some (.int ((nI d) + 1)), none] [] (E (tr 56 435 x (11 :: l)) y)
  refine PW_aload_n c_B_runLater_0 rfl ?_
  refine PW_iload c_B_runLater_1 rfl ?_
  refine PW_V0 (d2 := 1) (st := []) [.int b] c_B_runLater_3 lk_B_runLater_42 (po_54 _ _) rfl rfl rfl (Nat.le_of_ble_eq_true rfl) (by first | decide | omega) (Nat.le_of_ble_eq_true rfl) ?_
  refine sp_kof K ?_
  show PW _ _ _ 6 [some (.ref 54), some (.int 11), some (.int (-1)), some (.int xx), some (.int b), some (.int ((nI d) + 1)), none] [.int 1] (E (tr 56 435 x (11 :: l)) y)
  refine PW_istore (i := 6) (L2 := [some (.ref 54), some (.int 11), some (.int (-1)), some (.int xx), some (.int b), some (.int ((nI d) + 1)), some (.int 1)]) c_B_runLater_6 (Nat.le_of_ble_eq_true rfl) rfl rfl ?_
  refine PW_iload_n c_B_runLater_8 rfl ?_
  refine PW_lookup (tgt := 94) c_B_runLater_9 (by decide) rfl rfl ?_
  refine PW_iload_n c_B_runLater_94 rfl ?_
  refine PW_iload c_B_runLater_95 rfl ?_
  refine PW_ixor c_B_runLater_97 ?_
  refine PW_ireturn (ty := .int) c_B_runLater_98 rfl rfl ?_
  show PW _ _ _ 102 [some (.ref 54), some (.int 1), some (.int 2), some (.int xx), some (.int b), some (.int (nI d)), some (.int 0), some (.int 11)] [.int (xx ^^^ b)] (E (tr 56 435 x (11 :: l)) y)
  refine PW_goto c_B_call_102 ?_
  refine PW_ireturn (ty := .int) c_B_call_123 rfl rfl ?_
  exact h
theorem sp_call_1_1_3 {z : ZS} {post : Option Value → List PE → Prop} {x y : XS} {l : List Int32} {b xx dp : Int32} {d : Nat} (K : kb x b 1) (ed : dp = nI d) (hd : d + 4 ≤ 30) (hl : l.length + 5 ≤ 24) (h : post (some (.int ((((xx + b) + 3) * 2) - ((1 : Int32) ^^^ b)))) (E (tr 56 435 x (11 :: 1 :: 20 :: 10 :: 2 :: l)) y)) : PW (11, 0, 0, z) m_B_call post 0 [some (.ref 54), some (.int 1), some (.int 3), some (.int xx), some (.int b), some (.int dp), none, none] [] (E (tr 56 435 x l) y) := by
  subst ed
  refine PW_iload_n c_B_call_0 rfl ?_
  refine PW_istore (i := 6) (L2 := [some (.ref 54), some (.int 1), some (.int 3), some (.int xx), some (.int b), some (.int (nI d)), some (.int 1), none]) c_B_call_1 (Nat.le_of_ble_eq_true rfl) rfl rfl ?_
  refine PW_iconst (v := 0) c_B_call_3 (by decide) ?_
  refine PW_istore (i := 7) (L2 := [some (.ref 54), some (.int 1), some (.int 3), some (.int xx), some (.int b), some (.int (nI d)), some (.int 1), some (.int 0)]) c_B_call_4 (Nat.le_of_ble_eq_true rfl) rfl rfl ?_
  refine PW_iload c_B_call_6 rfl ?_
  refine PW_bipush (v := 8) c_B_call_8 (by decide) ?_
  refine PW_icmp_ge c_B_call_10 (fun h0 => absurd h0 (by decide)) (fun _ => ?_)
  refine PW_iload c_B_call_13 rfl ?_
  refine PW_S0 (d2 := 0) (st := []) [.int 1] c_B_call_15 lk_B_call_18 rfl rfl rfl (Nat.le_of_ble_eq_true rfl) (by first | decide | omega) (Nat.le_of_ble_eq_true rfl) ?_
  refine sp_B_isKind  ?_
  show PW _ _ _ 18 [some (.ref 54), some (.int 1), some (.int 3), some (.int xx), some (.int b), some (.int (nI d)), some (.int 1), some (.int 0)] [.int (b2i (0 ≤ (1 : Int32) ∧ (1 : Int32) ≤ 7))] (E (tr 56 435 x l) y)
  refine PW_if_eq c_B_call_18 (fun h1 => absurd (by decide) (b2i_0.mp h1)) (fun _ => ?_)
  refine PW_iload c_B_call_21 rfl ?_
  refine PW_iload_n c_B_call_23 rfl ?_
  refine PW_S0 (d2 := 1) (st := []) [.int 1, .int 3] c_B_call_24 lk_B_call_49 rfl rfl rfl (Nat.le_of_ble_eq_true rfl) (by first | decide | omega) (Nat.le_of_ble_eq_true rfl) ?_
  refine sp_own_1_3 ?_
  show PW _ _ _ 27 [some (.ref 54), some (.int 1), some (.int 3), some (.int xx), some (.int b), some (.int (nI d)), some (.int 1), some (.int 0)] [.int 0] (E (tr 56 435 x l) y)
  refine PW_if_ne c_B_call_27 (fun h2 => absurd (by decide) h2) (fun _ => ?_)
  refine PW_iload c_B_call_30 rfl ?_
  refine PW_S0 (d2 := 0) (st := []) [.int 1] c_B_call_32 lk_B_call_22 rfl rfl rfl (Nat.le_of_ble_eq_true rfl) (by first | decide | omega) (Nat.le_of_ble_eq_true rfl) ?_
  refine sp_kab1 ?_
  show PW _ _ _ 35 [some (.ref 54), some (.int 1), some (.int 3), some (.int xx), some (.int b), some (.int (nI d)), some (.int 1), some (.int 0)] [.int 0] (E (tr 56 435 x l) y)
  refine PW_istore (i := 6) (L2 := [some (.ref 54), some (.int 1), some (.int 3), some (.int xx), some (.int b), some (.int (nI d)), some (.int 0), some (.int 0)]) c_B_call_35 (Nat.le_of_ble_eq_true rfl) rfl rfl ?_
  refine PW_iinc (i := 7) (v := 1) (L2 := [some (.ref 54), some (.int 1), some (.int 3), some (.int xx), some (.int b), some (.int (nI d)), some (.int 0), some (.int 1)]) c_B_call_37 rfl (by decide) (Nat.le_of_ble_eq_true rfl) rfl rfl ?_
  refine PW_goto c_B_call_40 ?_
  refine PW_iload c_B_call_6 rfl ?_
  refine PW_bipush (v := 8) c_B_call_8 (by decide) ?_
  refine PW_icmp_ge c_B_call_10 (fun h3 => absurd h3 (by decide)) (fun _ => ?_)
  refine PW_iload c_B_call_13 rfl ?_
  refine PW_S0 (d2 := 0) (st := []) [.int 0] c_B_call_15 lk_B_call_18 rfl rfl rfl (Nat.le_of_ble_eq_true rfl) (by first | decide | omega) (Nat.le_of_ble_eq_true rfl) ?_
  refine sp_B_isKind  ?_
  show PW _ _ _ 18 [some (.ref 54), some (.int 1), some (.int 3), some (.int xx), some (.int b), some (.int (nI d)), some (.int 0), some (.int 1)] [.int (b2i (0 ≤ (0 : Int32) ∧ (0 : Int32) ≤ 7))] (E (tr 56 435 x l) y)
  refine PW_if_eq c_B_call_18 (fun h4 => absurd (by decide) (b2i_0.mp h4)) (fun _ => ?_)
  refine PW_iload c_B_call_21 rfl ?_
  refine PW_iload_n c_B_call_23 rfl ?_
  refine PW_S0 (d2 := 1) (st := []) [.int 0, .int 3] c_B_call_24 lk_B_call_49 rfl rfl rfl (Nat.le_of_ble_eq_true rfl) (by first | decide | omega) (Nat.le_of_ble_eq_true rfl) ?_
  refine sp_own_0_3 ?_
  show PW _ _ _ 27 [some (.ref 54), some (.int 1), some (.int 3), some (.int xx), some (.int b), some (.int (nI d)), some (.int 0), some (.int 1)] [.int 2] (E (tr 56 435 x l) y)
  refine PW_if_ne c_B_call_27 (fun _ => ?_) (fun h5 => absurd h5 (by decide))
  refine PW_iload c_B_call_43 rfl ?_
  refine PW_S0 (d2 := 0) (st := []) [.int 0] c_B_call_45 lk_B_call_18 rfl rfl rfl (Nat.le_of_ble_eq_true rfl) (by first | decide | omega) (Nat.le_of_ble_eq_true rfl) ?_
  refine sp_B_isKind  ?_
  show PW _ _ _ 48 [some (.ref 54), some (.int 1), some (.int 3), some (.int xx), some (.int b), some (.int (nI d)), some (.int 0), some (.int 1)] [.int (b2i (0 ≤ (0 : Int32) ∧ (0 : Int32) ≤ 7))] (E (tr 56 435 x l) y)
  refine PW_if_eq c_B_call_48 (fun h6 => absurd (by decide) (b2i_0.mp h6)) (fun _ => ?_)
  refine PW_iload c_B_call_51 rfl ?_
  refine PW_bipush (v := 30) c_B_call_53 (by decide) ?_
  refine PW_icmp_lt c_B_call_55 (fun h7 => ?_) (fun h7 => absurd ((nI_ltI (by omega) (by decide)).mpr (by omega) : nI d < nI 30) h7)
  refine PW_iload c_B_call_60 rfl ?_
  refine PW_iload_n c_B_call_62 rfl ?_
  refine PW_S0 (d2 := 1) (st := []) [.int 0, .int 3] c_B_call_63 lk_B_call_49 rfl rfl rfl (Nat.le_of_ble_eq_true rfl) (by first | decide | omega) (Nat.le_of_ble_eq_true rfl) ?_
  refine sp_own_0_3 ?_
  show PW _ _ _ 66 [some (.ref 54), some (.int 1), some (.int 3), some (.int xx), some (.int b), some (.int (nI d)), some (.int 0), some (.int 1)] [.int 2] (E (tr 56 435 x l) y)
  refine PW_istore (i := 7) (L2 := [some (.ref 54), some (.int 1), some (.int 3), some (.int xx), some (.int b), some (.int (nI d)), some (.int 0), some (.int 2)]) c_B_call_66 (Nat.le_of_ble_eq_true rfl) rfl rfl ?_
  refine PW_aload_n c_B_call_68 rfl ?_
  refine PW_iload c_B_call_69 rfl ?_
  refine PW_V0 (d2 := 0) (st := []) [.int 2] c_B_call_71 lk_B_call_53 (po_54 _ _) rfl rfl rfl (Nat.le_of_ble_eq_true rfl) (by first | decide | omega) (Nat.le_of_ble_eq_true rfl) ?_
  refine sp_note (by (try simp only [List.length_cons]); omega) ?_
  show PW _ _ _ 74 [some (.ref 54), some (.int 1), some (.int 3), some (.int xx), some (.int b), some (.int (nI d)), some (.int 0), some (.int 2)] [] (E (tr 56 435 x (2 :: l)) y)
  refine PW_iload_n c_B_call_74 rfl ?_
  refine PW_iconst (v := 2) c_B_call_75 (by decide) ?_
  refine PW_icmp_eq c_B_call_76 (fun h8 => absurd h8 (by decide)) (fun _ => ?_)
  refine PW_iload_n c_B_call_79 rfl ?_
  refine PW_iconst (v := 3) c_B_call_80 (by decide) ?_
  refine PW_icmp_ne c_B_call_81 (fun h9 => absurd (by decide) h9) (fun _ => ?_)
  refine PW_aload_n c_B_call_84 rfl ?_
  refine PW_iload c_B_call_85 rfl ?_
  refine PW_iload c_B_call_87 rfl ?_
  refine PW_S0 (d2 := 0) (st := [.int 2, .ref 54]) [.int 0] c_B_call_89 lk_B_call_22 rfl rfl rfl (Nat.le_of_ble_eq_true rfl) (by first | decide | omega) (Nat.le_of_ble_eq_true rfl) ?_
  refine sp_kab0 ?_
  show PW _ _ _ 92 [some (.ref 54), some (.int 1), some (.int 3), some (.int xx), some (.int b), some (.int (nI d)), some (.int 0), some (.int 2)] [.int (-1), .int 2, .ref 54] (E (tr 56 435 x (2 :: l)) y)
  refine PW_iload_n c_B_call_92 rfl ?_
  refine PW_iload c_B_call_93 rfl ?_
  refine PW_iload c_B_call_95 rfl ?_
  refine PW_iconst (v := 1) c_B_call_97 (by decide) ?_
  refine PW_iadd c_B_call_98 ?_
  refine PW_V0 (d2 := 10) (st := []) [.int 2, .int (-1), .int xx, .int b, .int ((nI d) + 1)] c_B_call_99 lk_B_call_57 (po_54 _ _) rfl rfl rfl (Nat.le_of_ble_eq_true rfl) (by first | decide | omega) (Nat.le_of_ble_eq_true rfl) ?_
  show PW _ _ _ 0 [some (.ref 54), some (.int 2), some (.int (-1)), some (.int xx), some (.int b), some (.int ((nI d) + 1)), none] [] (E (tr 56 435 x (2 :: l)) y)
  refine PW_aload_n c_B_runLater_0 rfl ?_
  refine PW_iload c_B_runLater_1 rfl ?_
  refine PW_V0 (d2 := 1) (st := []) [.int b] c_B_runLater_3 lk_B_runLater_42 (po_54 _ _) rfl rfl rfl (Nat.le_of_ble_eq_true rfl) (by first | decide | omega) (Nat.le_of_ble_eq_true rfl) ?_
  refine sp_kof K ?_
  show PW _ _ _ 6 [some (.ref 54), some (.int 2), some (.int (-1)), some (.int xx), some (.int b), some (.int ((nI d) + 1)), none] [.int 1] (E (tr 56 435 x (2 :: l)) y)
  refine PW_istore (i := 6) (L2 := [some (.ref 54), some (.int 2), some (.int (-1)), some (.int xx), some (.int b), some (.int ((nI d) + 1)), some (.int 1)]) c_B_runLater_6 (Nat.le_of_ble_eq_true rfl) rfl rfl ?_
  refine PW_iload_n c_B_runLater_8 rfl ?_
  refine PW_lookup (tgt := 68) c_B_runLater_9 (by decide) rfl rfl ?_
  refine PW_aload_n c_B_runLater_68 rfl ?_
  refine PW_iload c_B_runLater_69 rfl ?_
  refine PW_iconst (v := 1) c_B_runLater_71 (by decide) ?_
  refine PW_iload_n c_B_runLater_72 rfl ?_
  refine PW_iload c_B_runLater_73 rfl ?_
  refine PW_iload c_B_runLater_75 rfl ?_
  refine PW_V0 (d2 := 9) (st := []) [.int 1, .int 1, .int xx, .int b, .int ((nI d) + 1)] c_B_runLater_77 lk_B_runLater_45 (po_54 _ _) rfl rfl rfl (Nat.le_of_ble_eq_true rfl) (by first | decide | omega) (Nat.le_of_ble_eq_true rfl) ?_
  refine PW.deeper (k := (9, 0, 0, z)) (Nat.le_of_ble_eq_true rfl) (Nat.le_refl _) (Nat.le_refl _) ?_
  refine sp_call_1_1_1 K (nI_1 d) (by omega) (by (try simp only [List.length_cons]); omega) ?_
  show PW _ _ _ 80 [some (.ref 54), some (.int 2), some (.int (-1)), some (.int xx), some (.int b), some (.int ((nI d) + 1)), some (.int 1)] [.int (((xx + b) + 3) * 2)] (E (tr 56 435 x (1 :: 20 :: 10 :: 2 :: l)) y)
  refine PW_aload_n c_B_runLater_80 rfl ?_
  refine PW_iload c_B_runLater_81 rfl ?_
  refine PW_iconst (v := 2) c_B_runLater_83 (by decide) ?_
  refine PW_iconst (v := 1) c_B_runLater_84 (by decide) ?_
  refine PW_iload c_B_runLater_85 rfl ?_
  refine PW_iload c_B_runLater_87 rfl ?_
  refine PW_V0 (d2 := 9) (st := [.int (((xx + b) + 3) * 2)]) [.int 1, .int 2, .int 1, .int b, .int ((nI d) + 1)] c_B_runLater_89 lk_B_runLater_45 (po_54 _ _) rfl rfl rfl (Nat.le_of_ble_eq_true rfl) (by first | decide | omega) (Nat.le_of_ble_eq_true rfl) ?_
  refine PW.deeper (k := (5, 0, 0, z)) (Nat.le_of_ble_eq_true rfl) (Nat.le_refl _) (Nat.le_refl _) ?_
  refine sp_call_1_1_2 K (nI_1 d) (by omega) (by (try simp only [List.length_cons]); omega) ?_
  show PW _ _ _ 92 [some (.ref 54), some (.int 2), some (.int (-1)), some (.int xx), some (.int b), some (.int ((nI d) + 1)), some (.int 1)] [.int ((1 : Int32) ^^^ b), .int (((xx + b) + 3) * 2)] (E (tr 56 435 x (11 :: 1 :: 20 :: 10 :: 2 :: l)) y)
  refine PW_isub c_B_runLater_92 ?_
  refine PW_ireturn (ty := .int) c_B_runLater_93 rfl rfl ?_
  show PW _ _ _ 102 [some (.ref 54), some (.int 1), some (.int 3), some (.int xx), some (.int b), some (.int (nI d)), some (.int 0), some (.int 2)] [.int ((((xx + b) + 3) * 2) - ((1 : Int32) ^^^ b))] (E (tr 56 435 x (11 :: 1 :: 20 :: 10 :: 2 :: l)) y)
  refine PW_goto c_B_call_102 ?_
  refine PW_ireturn (ty := .int) c_B_call_123 rfl rfl ?_
  exact h
theorem sp_call_2_2_0 {z : ZS} {post : Option Value → List PE → Prop} {x y : XS} {l : List Int32} {b xx dp : Int32} {d : Nat} (K : kb x b 2) (ed : dp = nI d) (hd : d + 1 ≤ 30) (hl : l.length + 1 ≤ 24) (h : post (some (.int (xx + b))) (E (tr 56 435 x (1 :: l)) y)) : PW (5, 0, 0, z) m_B_call post 0 [some (.ref 54), some (.int 2), some (.int 0), some (.int xx), some (.int b), some (.int dp), none, none] [] (E (tr 56 435 x l) y) := by
  subst ed
  refine PW_iload_n c_B_call_0 rfl ?_
  refine PW_istore (i := 6) (L2 := [some (.ref 54), some (.int 2), some (.int 0), some (.int xx), some (.int b), some (.int (nI d)), some (.int 2), none]) c_B_call_1 (Nat.le_of_ble_eq_true rfl) rfl rfl ?_
  refine PW_iconst (v := 0) c_B_call_3 (by decide) ?_
  refine PW_istore (i := 7) (L2 := [some (.ref 54), some (.int 2), some (.int 0), some (.int xx), some (.int b), some (.int (nI d)), some (.int 2), some (.int 0)]) c_B_call_4 (Nat.le_of_ble_eq_true rfl) rfl rfl ?_
  refine PW_iload c_B_call_6 rfl ?_
  refine PW_bipush (v := 8) c_B_call_8 (by decide) ?_
  refine PW_icmp_ge c_B_call_10 (fun h0 => absurd h0 (by decide)) (fun _ => ?_)
  refine PW_iload c_B_call_13 rfl ?_
  refine PW_S0 (d2 := 0) (st := []) [.int 2] c_B_call_15 lk_B_call_18 rfl rfl rfl (Nat.le_of_ble_eq_true rfl) (by first | decide | omega) (Nat.le_of_ble_eq_true rfl) ?_
  refine sp_B_isKind  ?_
  show PW _ _ _ 18 [some (.ref 54), some (.int 2), some (.int 0), some (.int xx), some (.int b), some (.int (nI d)), some (.int 2), some (.int 0)] [.int (b2i (0 ≤ (2 : Int32) ∧ (2 : Int32) ≤ 7))] (E (tr 56 435 x l) y)
  refine PW_if_eq c_B_call_18 (fun h1 => absurd (by decide) (b2i_0.mp h1)) (fun _ => ?_)
  refine PW_iload c_B_call_21 rfl ?_
  refine PW_iload_n c_B_call_23 rfl ?_
  refine PW_S0 (d2 := 1) (st := []) [.int 2, .int 0] c_B_call_24 lk_B_call_49 rfl rfl rfl (Nat.le_of_ble_eq_true rfl) (by first | decide | omega) (Nat.le_of_ble_eq_true rfl) ?_
  refine sp_own_2_0 ?_
  show PW _ _ _ 27 [some (.ref 54), some (.int 2), some (.int 0), some (.int xx), some (.int b), some (.int (nI d)), some (.int 2), some (.int 0)] [.int 0] (E (tr 56 435 x l) y)
  refine PW_if_ne c_B_call_27 (fun h2 => absurd (by decide) h2) (fun _ => ?_)
  refine PW_iload c_B_call_30 rfl ?_
  refine PW_S0 (d2 := 0) (st := []) [.int 2] c_B_call_32 lk_B_call_22 rfl rfl rfl (Nat.le_of_ble_eq_true rfl) (by first | decide | omega) (Nat.le_of_ble_eq_true rfl) ?_
  refine sp_kab2 ?_
  show PW _ _ _ 35 [some (.ref 54), some (.int 2), some (.int 0), some (.int xx), some (.int b), some (.int (nI d)), some (.int 2), some (.int 0)] [.int 0] (E (tr 56 435 x l) y)
  refine PW_istore (i := 6) (L2 := [some (.ref 54), some (.int 2), some (.int 0), some (.int xx), some (.int b), some (.int (nI d)), some (.int 0), some (.int 0)]) c_B_call_35 (Nat.le_of_ble_eq_true rfl) rfl rfl ?_
  refine PW_iinc (i := 7) (v := 1) (L2 := [some (.ref 54), some (.int 2), some (.int 0), some (.int xx), some (.int b), some (.int (nI d)), some (.int 0), some (.int 1)]) c_B_call_37 rfl (by decide) (Nat.le_of_ble_eq_true rfl) rfl rfl ?_
  refine PW_goto c_B_call_40 ?_
  refine PW_iload c_B_call_6 rfl ?_
  refine PW_bipush (v := 8) c_B_call_8 (by decide) ?_
  refine PW_icmp_ge c_B_call_10 (fun h3 => absurd h3 (by decide)) (fun _ => ?_)
  refine PW_iload c_B_call_13 rfl ?_
  refine PW_S0 (d2 := 0) (st := []) [.int 0] c_B_call_15 lk_B_call_18 rfl rfl rfl (Nat.le_of_ble_eq_true rfl) (by first | decide | omega) (Nat.le_of_ble_eq_true rfl) ?_
  refine sp_B_isKind  ?_
  show PW _ _ _ 18 [some (.ref 54), some (.int 2), some (.int 0), some (.int xx), some (.int b), some (.int (nI d)), some (.int 0), some (.int 1)] [.int (b2i (0 ≤ (0 : Int32) ∧ (0 : Int32) ≤ 7))] (E (tr 56 435 x l) y)
  refine PW_if_eq c_B_call_18 (fun h4 => absurd (by decide) (b2i_0.mp h4)) (fun _ => ?_)
  refine PW_iload c_B_call_21 rfl ?_
  refine PW_iload_n c_B_call_23 rfl ?_
  refine PW_S0 (d2 := 1) (st := []) [.int 0, .int 0] c_B_call_24 lk_B_call_49 rfl rfl rfl (Nat.le_of_ble_eq_true rfl) (by first | decide | omega) (Nat.le_of_ble_eq_true rfl) ?_
  refine sp_own_0_0 ?_
  show PW _ _ _ 27 [some (.ref 54), some (.int 2), some (.int 0), some (.int xx), some (.int b), some (.int (nI d)), some (.int 0), some (.int 1)] [.int 1] (E (tr 56 435 x l) y)
  refine PW_if_ne c_B_call_27 (fun _ => ?_) (fun h5 => absurd h5 (by decide))
  refine PW_iload c_B_call_43 rfl ?_
  refine PW_S0 (d2 := 0) (st := []) [.int 0] c_B_call_45 lk_B_call_18 rfl rfl rfl (Nat.le_of_ble_eq_true rfl) (by first | decide | omega) (Nat.le_of_ble_eq_true rfl) ?_
  refine sp_B_isKind  ?_
  show PW _ _ _ 48 [some (.ref 54), some (.int 2), some (.int 0), some (.int xx), some (.int b), some (.int (nI d)), some (.int 0), some (.int 1)] [.int (b2i (0 ≤ (0 : Int32) ∧ (0 : Int32) ≤ 7))] (E (tr 56 435 x l) y)
  refine PW_if_eq c_B_call_48 (fun h6 => absurd (by decide) (b2i_0.mp h6)) (fun _ => ?_)
  refine PW_iload c_B_call_51 rfl ?_
  refine PW_bipush (v := 30) c_B_call_53 (by decide) ?_
  refine PW_icmp_lt c_B_call_55 (fun h7 => ?_) (fun h7 => absurd ((nI_ltI (by omega) (by decide)).mpr (by omega) : nI d < nI 30) h7)
  refine PW_iload c_B_call_60 rfl ?_
  refine PW_iload_n c_B_call_62 rfl ?_
  refine PW_S0 (d2 := 1) (st := []) [.int 0, .int 0] c_B_call_63 lk_B_call_49 rfl rfl rfl (Nat.le_of_ble_eq_true rfl) (by first | decide | omega) (Nat.le_of_ble_eq_true rfl) ?_
  refine sp_own_0_0 ?_
  show PW _ _ _ 66 [some (.ref 54), some (.int 2), some (.int 0), some (.int xx), some (.int b), some (.int (nI d)), some (.int 0), some (.int 1)] [.int 1] (E (tr 56 435 x l) y)
  refine PW_istore (i := 7) (L2 := [some (.ref 54), some (.int 2), some (.int 0), some (.int xx), some (.int b), some (.int (nI d)), some (.int 0), some (.int 1)]) c_B_call_66 (Nat.le_of_ble_eq_true rfl) rfl rfl ?_
  refine PW_aload_n c_B_call_68 rfl ?_
  refine PW_iload c_B_call_69 rfl ?_
  refine PW_V0 (d2 := 0) (st := []) [.int 1] c_B_call_71 lk_B_call_53 (po_54 _ _) rfl rfl rfl (Nat.le_of_ble_eq_true rfl) (by first | decide | omega) (Nat.le_of_ble_eq_true rfl) ?_
  refine sp_note (by (try simp only [List.length_cons]); omega) ?_
  show PW _ _ _ 74 [some (.ref 54), some (.int 2), some (.int 0), some (.int xx), some (.int b), some (.int (nI d)), some (.int 0), some (.int 1)] [] (E (tr 56 435 x (1 :: l)) y)
  refine PW_iload_n c_B_call_74 rfl ?_
  refine PW_iconst (v := 2) c_B_call_75 (by decide) ?_
  refine PW_icmp_eq c_B_call_76 (fun h8 => absurd h8 (by decide)) (fun _ => ?_)
  refine PW_iload_n c_B_call_79 rfl ?_
  refine PW_iconst (v := 3) c_B_call_80 (by decide) ?_
  refine PW_icmp_ne c_B_call_81 (fun _ => ?_) (fun h9 => absurd h9 (by decide))
  refine PW_aload_n c_B_call_105 rfl ?_
  refine PW_iload c_B_call_106 rfl ?_
  refine PW_iload c_B_call_108 rfl ?_
  refine PW_S0 (d2 := 0) (st := [.int 1, .ref 54]) [.int 0] c_B_call_110 lk_B_call_22 rfl rfl rfl (Nat.le_of_ble_eq_true rfl) (by first | decide | omega) (Nat.le_of_ble_eq_true rfl) ?_
  refine sp_kab0 ?_
  show PW _ _ _ 113 [some (.ref 54), some (.int 2), some (.int 0), some (.int xx), some (.int b), some (.int (nI d)), some (.int 0), some (.int 1)] [.int (-1), .int 1, .ref 54] (E (tr 56 435 x (1 :: l)) y)
  refine PW_iload_n c_B_call_113 rfl ?_
  refine PW_iload c_B_call_114 rfl ?_
  refine PW_iload c_B_call_116 rfl ?_
  refine PW_iconst (v := 1) c_B_call_118 (by decide) ?_
  refine PW_iadd c_B_call_119 ?_
  refine PW_V0 (d2 := 4) (st := []) [.int 1, .int (-1), .int xx, .int b, .int ((nI d) + 1)] c_B_call_120 lk_B_call_60 (po_54 _ _) rfl rfl rfl (Nat.le_of_ble_eq_true rfl) (by first | decide | omega) (Nat.le_of_ble_eq_true rfl) ?_
  show PW _ _ _ 0 [some (.ref 54), some (.int 1), some (.int (-1)), some (.int xx), some (.int b), some (.int ((nI d) + 1)), none] [] (E (tr 56 435 x (1 :: l)) y)
  refine PW_aload_n c_B_runFirst_0 rfl ?_
  refine PW_iload c_B_runFirst_1 rfl ?_
  refine PW_V0 (d2 := 1) (st := []) [.int b] c_B_runFirst_3 lk_B_runFirst_42 (po_54 _ _) rfl rfl rfl (Nat.le_of_ble_eq_true rfl) (by first | decide | omega) (Nat.le_of_ble_eq_true rfl) ?_
  refine sp_kof K ?_
  show PW _ _ _ 6 [some (.ref 54), some (.int 1), some (.int (-1)), some (.int xx), some (.int b), some (.int ((nI d) + 1)), none] [.int 2] (E (tr 56 435 x (1 :: l)) y)
  refine PW_istore (i := 6) (L2 := [some (.ref 54), some (.int 1), some (.int (-1)), some (.int xx), some (.int b), some (.int ((nI d) + 1)), some (.int 2)]) c_B_runFirst_6 (Nat.le_of_ble_eq_true rfl) rfl rfl ?_
  refine PW_iload_n c_B_runFirst_8 rfl ?_
  refine PW_lookup (tgt := 84) c_B_runFirst_9 (by decide) rfl rfl ?_
  refine PW_iload_n c_B_runFirst_84 rfl ?_
  refine PW_iload c_B_runFirst_85 rfl ?_
  refine PW_iadd c_B_runFirst_87 ?_
  refine PW_ireturn (ty := .int) c_B_runFirst_88 rfl rfl ?_
  show PW _ _ _ 123 [some (.ref 54), some (.int 2), some (.int 0), some (.int xx), some (.int b), some (.int (nI d)), some (.int 0), some (.int 1)] [.int (xx + b)] (E (tr 56 435 x (1 :: l)) y)
  refine PW_ireturn (ty := .int) c_B_call_123 rfl rfl ?_
  exact h
theorem sp_call_2_0_1 {z : ZS} {post : Option Value → List PE → Prop} {x y : XS} {l : List Int32} {b xx dp : Int32} {d : Nat} (K : kb x b 2) (ed : dp = nI d) (hd : d + 2 ≤ 30) (hl : l.length + 2 ≤ 24) (h : post (some (.int ((xx + b) * 2))) (E (tr 56 435 x (1 :: 10 :: l)) y)) : PW (7, 0, 0, z) m_B_call post 0 [some (.ref 54), some (.int 0), some (.int 1), some (.int xx), some (.int b), some (.int dp), none, none] [] (E (tr 56 435 x l) y) := by
  subst ed
  refine PW_iload_n c_B_call_0 rfl ?_
  refine PW_istore (i := 6) (L2 := [some (.ref 54), some (.int 0), some (.int 1), some (.int xx), some (.int b), some (.int (nI d)), some (.int 0), none]) c_B_call_1 (Nat.le_of_ble_eq_true rfl) rfl rfl ?_
  refine PW_iconst (v := 0) c_B_call_3 (by decide) ?_
  refine PW_istore (i := 7) (L2 := [some (.ref 54), some (.int 0), some (.int 1), some (.int xx), some (.int b), some (.int (nI d)), some (.int 0), some (.int 0)]) c_B_call_4 (Nat.le_of_ble_eq_true rfl) rfl rfl ?_
  refine PW_iload c_B_call_6 rfl ?_
  refine PW_bipush (v := 8) c_B_call_8 (by decide) ?_
  refine PW_icmp_ge c_B_call_10 (fun h0 => absurd h0 (by decide)) (fun _ => ?_)
  refine PW_iload c_B_call_13 rfl ?_
  refine PW_S0 (d2 := 0) (st := []) [.int 0] c_B_call_15 lk_B_call_18 rfl rfl rfl (Nat.le_of_ble_eq_true rfl) (by first | decide | omega) (Nat.le_of_ble_eq_true rfl) ?_
  refine sp_B_isKind  ?_
  show PW _ _ _ 18 [some (.ref 54), some (.int 0), some (.int 1), some (.int xx), some (.int b), some (.int (nI d)), some (.int 0), some (.int 0)] [.int (b2i (0 ≤ (0 : Int32) ∧ (0 : Int32) ≤ 7))] (E (tr 56 435 x l) y)
  refine PW_if_eq c_B_call_18 (fun h1 => absurd (by decide) (b2i_0.mp h1)) (fun _ => ?_)
  refine PW_iload c_B_call_21 rfl ?_
  refine PW_iload_n c_B_call_23 rfl ?_
  refine PW_S0 (d2 := 1) (st := []) [.int 0, .int 1] c_B_call_24 lk_B_call_49 rfl rfl rfl (Nat.le_of_ble_eq_true rfl) (by first | decide | omega) (Nat.le_of_ble_eq_true rfl) ?_
  refine sp_own_0_1 ?_
  show PW _ _ _ 27 [some (.ref 54), some (.int 0), some (.int 1), some (.int xx), some (.int b), some (.int (nI d)), some (.int 0), some (.int 0)] [.int 10] (E (tr 56 435 x l) y)
  refine PW_if_ne c_B_call_27 (fun _ => ?_) (fun h2 => absurd h2 (by decide))
  refine PW_iload c_B_call_43 rfl ?_
  refine PW_S0 (d2 := 0) (st := []) [.int 0] c_B_call_45 lk_B_call_18 rfl rfl rfl (Nat.le_of_ble_eq_true rfl) (by first | decide | omega) (Nat.le_of_ble_eq_true rfl) ?_
  refine sp_B_isKind  ?_
  show PW _ _ _ 48 [some (.ref 54), some (.int 0), some (.int 1), some (.int xx), some (.int b), some (.int (nI d)), some (.int 0), some (.int 0)] [.int (b2i (0 ≤ (0 : Int32) ∧ (0 : Int32) ≤ 7))] (E (tr 56 435 x l) y)
  refine PW_if_eq c_B_call_48 (fun h3 => absurd (by decide) (b2i_0.mp h3)) (fun _ => ?_)
  refine PW_iload c_B_call_51 rfl ?_
  refine PW_bipush (v := 30) c_B_call_53 (by decide) ?_
  refine PW_icmp_lt c_B_call_55 (fun h4 => ?_) (fun h4 => absurd ((nI_ltI (by omega) (by decide)).mpr (by omega) : nI d < nI 30) h4)
  refine PW_iload c_B_call_60 rfl ?_
  refine PW_iload_n c_B_call_62 rfl ?_
  refine PW_S0 (d2 := 1) (st := []) [.int 0, .int 1] c_B_call_63 lk_B_call_49 rfl rfl rfl (Nat.le_of_ble_eq_true rfl) (by first | decide | omega) (Nat.le_of_ble_eq_true rfl) ?_
  refine sp_own_0_1 ?_
  show PW _ _ _ 66 [some (.ref 54), some (.int 0), some (.int 1), some (.int xx), some (.int b), some (.int (nI d)), some (.int 0), some (.int 0)] [.int 10] (E (tr 56 435 x l) y)
  refine PW_istore (i := 7) (L2 := [some (.ref 54), some (.int 0), some (.int 1), some (.int xx), some (.int b), some (.int (nI d)), some (.int 0), some (.int 10)]) c_B_call_66 (Nat.le_of_ble_eq_true rfl) rfl rfl ?_
  refine PW_aload_n c_B_call_68 rfl ?_
  refine PW_iload c_B_call_69 rfl ?_
  refine PW_V0 (d2 := 0) (st := []) [.int 10] c_B_call_71 lk_B_call_53 (po_54 _ _) rfl rfl rfl (Nat.le_of_ble_eq_true rfl) (by first | decide | omega) (Nat.le_of_ble_eq_true rfl) ?_
  refine sp_note (by (try simp only [List.length_cons]); omega) ?_
  show PW _ _ _ 74 [some (.ref 54), some (.int 0), some (.int 1), some (.int xx), some (.int b), some (.int (nI d)), some (.int 0), some (.int 10)] [] (E (tr 56 435 x (10 :: l)) y)
  refine PW_iload_n c_B_call_74 rfl ?_
  refine PW_iconst (v := 2) c_B_call_75 (by decide) ?_
  refine PW_icmp_eq c_B_call_76 (fun h5 => absurd h5 (by decide)) (fun _ => ?_)
  refine PW_iload_n c_B_call_79 rfl ?_
  refine PW_iconst (v := 3) c_B_call_80 (by decide) ?_
  refine PW_icmp_ne c_B_call_81 (fun _ => ?_) (fun h6 => absurd h6 (by decide))
  refine PW_aload_n c_B_call_105 rfl ?_
  refine PW_iload c_B_call_106 rfl ?_
  refine PW_iload c_B_call_108 rfl ?_
  refine PW_S0 (d2 := 0) (st := [.int 10, .ref 54]) [.int 0] c_B_call_110 lk_B_call_22 rfl rfl rfl (Nat.le_of_ble_eq_true rfl) (by first | decide | omega) (Nat.le_of_ble_eq_true rfl) ?_
  refine sp_kab0 ?_
  show PW _ _ _ 113 [some (.ref 54), some (.int 0), some (.int 1), some (.int xx), some (.int b), some (.int (nI d)), some (.int 0), some (.int 10)] [.int (-1), .int 10, .ref 54] (E (tr 56 435 x (10 :: l)) y)
  refine PW_iload_n c_B_call_113 rfl ?_
  refine PW_iload c_B_call_114 rfl ?_
  refine PW_iload c_B_call_116 rfl ?_
  refine PW_iconst (v := 1) c_B_call_118 (by decide) ?_
  refine PW_iadd c_B_call_119 ?_
  refine PW_V0 (d2 := 6) (st := []) [.int 10, .int (-1), .int xx, .int b, .int ((nI d) + 1)] c_B_call_120 lk_B_call_60 (po_54 _ _) rfl rfl rfl (Nat.le_of_ble_eq_true rfl) (by first | decide | omega) (Nat.le_of_ble_eq_true rfl) ?_
  show PW _ _ _ 0 [some (.ref 54), some (.int 10), some (.int (-1)), some (.int xx), some (.int b), some (.int ((nI d) + 1)), none] [] (E (tr 56 435 x (10 :: l)) y)
  refine PW_aload_n c_B_runFirst_0 rfl ?_
  refine PW_iload c_B_runFirst_1 rfl ?_
  refine PW_V0 (d2 := 1) (st := []) [.int b] c_B_runFirst_3 lk_B_runFirst_42 (po_54 _ _) rfl rfl rfl (Nat.le_of_ble_eq_true rfl) (by first | decide | omega) (Nat.le_of_ble_eq_true rfl) ?_
  refine sp_kof K ?_
  show PW _ _ _ 6 [some (.ref 54), some (.int 10), some (.int (-1)), some (.int xx), some (.int b), some (.int ((nI d) + 1)), none] [.int 2] (E (tr 56 435 x (10 :: l)) y)
  refine PW_istore (i := 6) (L2 := [some (.ref 54), some (.int 10), some (.int (-1)), some (.int xx), some (.int b), some (.int ((nI d) + 1)), some (.int 2)]) c_B_runFirst_6 (Nat.le_of_ble_eq_true rfl) rfl rfl ?_
  refine PW_iload_n c_B_runFirst_8 rfl ?_
  refine PW_lookup (tgt := 89) c_B_runFirst_9 (by decide) rfl rfl ?_
  refine PW_aload_n c_B_runFirst_89 rfl ?_
  refine PW_iload c_B_runFirst_90 rfl ?_
  refine PW_iconst (v := 0) c_B_runFirst_92 (by decide) ?_
  refine PW_iload_n c_B_runFirst_93 rfl ?_
  refine PW_iload c_B_runFirst_94 rfl ?_
  refine PW_iload c_B_runFirst_96 rfl ?_
  refine PW_V0 (d2 := 5) (st := []) [.int 2, .int 0, .int xx, .int b, .int ((nI d) + 1)] c_B_runFirst_98 lk_B_runFirst_45 (po_54 _ _) rfl rfl rfl (Nat.le_of_ble_eq_true rfl) (by first | decide | omega) (Nat.le_of_ble_eq_true rfl) ?_
  refine PW.deeper (k := (5, 0, 0, z)) (Nat.le_of_ble_eq_true rfl) (Nat.le_refl _) (Nat.le_refl _) ?_
  refine sp_call_2_2_0 K (nI_1 d) (by omega) (by (try simp only [List.length_cons]); omega) ?_
  show PW _ _ _ 101 [some (.ref 54), some (.int 10), some (.int (-1)), some (.int xx), some (.int b), some (.int ((nI d) + 1)), some (.int 2)] [.int (xx + b)] (E (tr 56 435 x (1 :: 10 :: l)) y)
  refine PW_iconst (v := 2) c_B_runFirst_101 (by decide) ?_
  refine PW_imul c_B_runFirst_102 ?_
  refine PW_ireturn (ty := .int) c_B_runFirst_103 rfl rfl ?_
  show PW _ _ _ 123 [some (.ref 54), some (.int 0), some (.int 1), some (.int xx), some (.int b), some (.int (nI d)), some (.int 0), some (.int 10)] [.int ((xx + b) * 2)] (E (tr 56 435 x (1 :: 10 :: l)) y)
  refine PW_ireturn (ty := .int) c_B_call_123 rfl rfl ?_
  exact h
theorem sp_call_2_2_1 {z : ZS} {post : Option Value → List PE → Prop} {x y : XS} {l : List Int32} {b xx dp : Int32} {d : Nat} (K : kb x b 2) (ed : dp = nI d) (hd : d + 3 ≤ 30) (hl : l.length + 3 ≤ 24) (h : post (some (.int (-((xx + b) * 2)))) (E (tr 56 435 x (1 :: 10 :: 30 :: l)) y)) : PW (9, 0, 0, z) m_B_call post 0 [some (.ref 54), some (.int 2), some (.int 1), some (.int xx), some (.int b), some (.int dp), none, none] [] (E (tr 56 435 x l) y) := by
  subst ed
  refine PW_iload_n c_B_call_0 rfl ?_
  refine PW_istore (i := 6) (L2 := [some (.ref 54), some (.int 2), some (.int 1), some (.int xx), some (.int b), some (.int (nI d)), some (.int 2), none]) c_B_call_1 (Nat.le_of_ble_eq_true rfl) rfl rfl ?_
  refine PW_iconst (v := 0) c_B_call_3 (by decide) ?_
  refine PW_istore (i := 7) (L2 := [some (.ref 54), some (.int 2), some (.int 1), some (.int xx), some (.int b), some (.int (nI d)), some (.int 2), some (.int 0)]) c_B_call_4 (Nat.le_of_ble_eq_true rfl) rfl rfl ?_
  refine PW_iload c_B_call_6 rfl ?_
  refine PW_bipush (v := 8) c_B_call_8 (by decide) ?_
  refine PW_icmp_ge c_B_call_10 (fun h0 => absurd h0 (by decide)) (fun _ => ?_)
  refine PW_iload c_B_call_13 rfl ?_
  refine PW_S0 (d2 := 0) (st := []) [.int 2] c_B_call_15 lk_B_call_18 rfl rfl rfl (Nat.le_of_ble_eq_true rfl) (by first | decide | omega) (Nat.le_of_ble_eq_true rfl) ?_
  refine sp_B_isKind  ?_
  show PW _ _ _ 18 [some (.ref 54), some (.int 2), some (.int 1), some (.int xx), some (.int b), some (.int (nI d)), some (.int 2), some (.int 0)] [.int (b2i (0 ≤ (2 : Int32) ∧ (2 : Int32) ≤ 7))] (E (tr 56 435 x l) y)
  refine PW_if_eq c_B_call_18 (fun h1 => absurd (by decide) (b2i_0.mp h1)) (fun _ => ?_)
  refine PW_iload c_B_call_21 rfl ?_
  refine PW_iload_n c_B_call_23 rfl ?_
  refine PW_S0 (d2 := 1) (st := []) [.int 2, .int 1] c_B_call_24 lk_B_call_49 rfl rfl rfl (Nat.le_of_ble_eq_true rfl) (by first | decide | omega) (Nat.le_of_ble_eq_true rfl) ?_
  refine sp_own_2_1 ?_
  show PW _ _ _ 27 [some (.ref 54), some (.int 2), some (.int 1), some (.int xx), some (.int b), some (.int (nI d)), some (.int 2), some (.int 0)] [.int 30] (E (tr 56 435 x l) y)
  refine PW_if_ne c_B_call_27 (fun _ => ?_) (fun h2 => absurd h2 (by decide))
  refine PW_iload c_B_call_43 rfl ?_
  refine PW_S0 (d2 := 0) (st := []) [.int 2] c_B_call_45 lk_B_call_18 rfl rfl rfl (Nat.le_of_ble_eq_true rfl) (by first | decide | omega) (Nat.le_of_ble_eq_true rfl) ?_
  refine sp_B_isKind  ?_
  show PW _ _ _ 48 [some (.ref 54), some (.int 2), some (.int 1), some (.int xx), some (.int b), some (.int (nI d)), some (.int 2), some (.int 0)] [.int (b2i (0 ≤ (2 : Int32) ∧ (2 : Int32) ≤ 7))] (E (tr 56 435 x l) y)
  refine PW_if_eq c_B_call_48 (fun h3 => absurd (by decide) (b2i_0.mp h3)) (fun _ => ?_)
  refine PW_iload c_B_call_51 rfl ?_
  refine PW_bipush (v := 30) c_B_call_53 (by decide) ?_
  refine PW_icmp_lt c_B_call_55 (fun h4 => ?_) (fun h4 => absurd ((nI_ltI (by omega) (by decide)).mpr (by omega) : nI d < nI 30) h4)
  refine PW_iload c_B_call_60 rfl ?_
  refine PW_iload_n c_B_call_62 rfl ?_
  refine PW_S0 (d2 := 1) (st := []) [.int 2, .int 1] c_B_call_63 lk_B_call_49 rfl rfl rfl (Nat.le_of_ble_eq_true rfl) (by first | decide | omega) (Nat.le_of_ble_eq_true rfl) ?_
  refine sp_own_2_1 ?_
  show PW _ _ _ 66 [some (.ref 54), some (.int 2), some (.int 1), some (.int xx), some (.int b), some (.int (nI d)), some (.int 2), some (.int 0)] [.int 30] (E (tr 56 435 x l) y)
  refine PW_istore (i := 7) (L2 := [some (.ref 54), some (.int 2), some (.int 1), some (.int xx), some (.int b), some (.int (nI d)), some (.int 2), some (.int 30)]) c_B_call_66 (Nat.le_of_ble_eq_true rfl) rfl rfl ?_
  refine PW_aload_n c_B_call_68 rfl ?_
  refine PW_iload c_B_call_69 rfl ?_
  refine PW_V0 (d2 := 0) (st := []) [.int 30] c_B_call_71 lk_B_call_53 (po_54 _ _) rfl rfl rfl (Nat.le_of_ble_eq_true rfl) (by first | decide | omega) (Nat.le_of_ble_eq_true rfl) ?_
  refine sp_note (by (try simp only [List.length_cons]); omega) ?_
  show PW _ _ _ 74 [some (.ref 54), some (.int 2), some (.int 1), some (.int xx), some (.int b), some (.int (nI d)), some (.int 2), some (.int 30)] [] (E (tr 56 435 x (30 :: l)) y)
  refine PW_iload_n c_B_call_74 rfl ?_
  refine PW_iconst (v := 2) c_B_call_75 (by decide) ?_
  refine PW_icmp_eq c_B_call_76 (fun h5 => absurd h5 (by decide)) (fun _ => ?_)
  refine PW_iload_n c_B_call_79 rfl ?_
  refine PW_iconst (v := 3) c_B_call_80 (by decide) ?_
  refine PW_icmp_ne c_B_call_81 (fun _ => ?_) (fun h6 => absurd h6 (by decide))
  refine PW_aload_n c_B_call_105 rfl ?_
  refine PW_iload c_B_call_106 rfl ?_
  refine PW_iload c_B_call_108 rfl ?_
  refine PW_S0 (d2 := 0) (st := [.int 30, .ref 54]) [.int 2] c_B_call_110 lk_B_call_22 rfl rfl rfl (Nat.le_of_ble_eq_true rfl) (by first | decide | omega) (Nat.le_of_ble_eq_true rfl) ?_
  refine sp_kab2 ?_
  show PW _ _ _ 113 [some (.ref 54), some (.int 2), some (.int 1), some (.int xx), some (.int b), some (.int (nI d)), some (.int 2), some (.int 30)] [.int 0, .int 30, .ref 54] (E (tr 56 435 x (30 :: l)) y)
  refine PW_iload_n c_B_call_113 rfl ?_
  refine PW_iload c_B_call_114 rfl ?_
  refine PW_iload c_B_call_116 rfl ?_
  refine PW_iconst (v := 1) c_B_call_118 (by decide) ?_
  refine PW_iadd c_B_call_119 ?_
  refine PW_V0 (d2 := 8) (st := []) [.int 30, .int 0, .int xx, .int b, .int ((nI d) + 1)] c_B_call_120 lk_B_call_60 (po_54 _ _) rfl rfl rfl (Nat.le_of_ble_eq_true rfl) (by first | decide | omega) (Nat.le_of_ble_eq_true rfl) ?_
  show PW _ _ _ 0 [some (.ref 54), some (.int 30), some (.int 0), some (.int xx), some (.int b), some (.int ((nI d) + 1)), none] [] (E (tr 56 435 x (30 :: l)) y)
  refine PW_aload_n c_B_runFirst_0 rfl ?_
  refine PW_iload c_B_runFirst_1 rfl ?_
  refine PW_V0 (d2 := 1) (st := []) [.int b] c_B_runFirst_3 lk_B_runFirst_42 (po_54 _ _) rfl rfl rfl (Nat.le_of_ble_eq_true rfl) (by first | decide | omega) (Nat.le_of_ble_eq_true rfl) ?_
  refine sp_kof K ?_
  show PW _ _ _ 6 [some (.ref 54), some (.int 30), some (.int 0), some (.int xx), some (.int b), some (.int ((nI d) + 1)), none] [.int 2] (E (tr 56 435 x (30 :: l)) y)
  refine PW_istore (i := 6) (L2 := [some (.ref 54), some (.int 30), some (.int 0), some (.int xx), some (.int b), some (.int ((nI d) + 1)), some (.int 2)]) c_B_runFirst_6 (Nat.le_of_ble_eq_true rfl) rfl rfl ?_
  refine PW_iload_n c_B_runFirst_8 rfl ?_
  refine PW_lookup (tgt := 118) c_B_runFirst_9 (by decide) rfl rfl ?_
  refine PW_aload_n c_B_runFirst_118 rfl ?_
  refine PW_iload_n c_B_runFirst_119 rfl ?_
  refine PW_iconst (v := 1) c_B_runFirst_120 (by decide) ?_
  refine PW_iload_n c_B_runFirst_121 rfl ?_
  refine PW_iload c_B_runFirst_122 rfl ?_
  refine PW_iload c_B_runFirst_124 rfl ?_
  refine PW_V0 (d2 := 7) (st := []) [.int 0, .int 1, .int xx, .int b, .int ((nI d) + 1)] c_B_runFirst_126 lk_B_runFirst_45 (po_54 _ _) rfl rfl rfl (Nat.le_of_ble_eq_true rfl) (by first | decide | omega) (Nat.le_of_ble_eq_true rfl) ?_
  refine PW.deeper (k := (7, 0, 0, z)) (Nat.le_of_ble_eq_true rfl) (Nat.le_refl _) (Nat.le_refl _) ?_
  refine sp_call_2_0_1 K (nI_1 d) (by omega) (by (try simp only [List.length_cons]); omega) ?_
  show PW _ _ _ 129 [some (.ref 54), some (.int 30), some (.int 0), some (.int xx), some (.int b), some (.int ((nI d) + 1)), some (.int 2)] [.int ((xx + b) * 2)] (E (tr 56 435 x (1 :: 10 :: 30 :: l)) y)
  refine PW_ineg c_B_runFirst_129 ?_
  refine PW_ireturn (ty := .int) c_B_runFirst_130 rfl rfl ?_
  show PW _ _ _ 123 [some (.ref 54), some (.int 2), some (.int 1), some (.int xx), some (.int b), some (.int (nI d)), some (.int 2), some (.int 30)] [.int (-((xx + b) * 2))] (E (tr 56 435 x (1 :: 10 :: 30 :: l)) y)
  refine PW_ireturn (ty := .int) c_B_call_123 rfl rfl ?_
  exact h
theorem sp_call_2_2_2 {z : ZS} {post : Option Value → List PE → Prop} {x y : XS} {l : List Int32} {b xx dp : Int32} {d : Nat} (K : kb x b 2) (ed : dp = nI d) (hd : d + 1 ≤ 30) (hl : l.length + 1 ≤ 24) (h : post (some (.int (xx ^^^ b))) (E (tr 56 435 x (11 :: l)) y)) : PW (5, 0, 0, z) m_B_call post 0 [some (.ref 54), some (.int 2), some (.int 2), some (.int xx), some (.int b), some (.int dp), none, none] [] (E (tr 56 435 x l) y) := by
  subst ed
  refine PW_iload_n c_B_call_0 rfl ?_
  refine PW_istore (i := 6) (L2 := [some (.ref 54), some (.int 2), some (.int 2), some (.int xx), some (.int b), some (.int (nI d)), some (.int 2), none]) c_B_call_1 (Nat.le_of_ble_eq_true rfl) rfl rfl ?_
  refine PW_iconst (v := 0) c_B_call_3 (by decide) ?_
  refine PW_istore (i := 7) (L2 := [some (.ref 54), some (.int 2), some (.int 2), some (.int xx), some (.int b), some (.int (nI d)), some (.int 2), some (.int 0)]) c_B_call_4 (Nat.le_of_ble_eq_true rfl) rfl rfl ?_
  refine PW_iload c_B_call_6 rfl ?_
  refine PW_bipush (v := 8) c_B_call_8 (by decide) ?_
  refine PW_icmp_ge c_B_call_10 (fun h0 => absurd h0 (by decide)) (fun _ => ?_)
  refine PW_iload c_B_call_13 rfl ?_
  refine PW_S0 (d2 := 0) (st := []) [.int 2] c_B_call_15 lk_B_call_18 rfl rfl rfl (Nat.le_of_ble_eq_true rfl) (by first | decide | omega) (Nat.le_of_ble_eq_true rfl) ?_
  refine sp_B_isKind  ?_
  show PW _ _ _ 18 [some (.ref 54), some (.int 2), some (.int 2), some (.int xx), some (.int b), some (.int (nI d)), some (.int 2), some (.int 0)] [.int (b2i (0 ≤ (2 : Int32) ∧ (2 : Int32) ≤ 7))] (E (tr 56 435 x l) y)
  refine PW_if_eq c_B_call_18 (fun h1 => absurd (by decide) (b2i_0.mp h1)) (fun _ => ?_)
  refine PW_iload c_B_call_21 rfl ?_
  refine PW_iload_n c_B_call_23 rfl ?_
  refine PW_S0 (d2 := 1) (st := []) [.int 2, .int 2] c_B_call_24 lk_B_call_49 rfl rfl rfl (Nat.le_of_ble_eq_true rfl) (by first | decide | omega) (Nat.le_of_ble_eq_true rfl) ?_
  refine sp_own_2_2 ?_
  show PW _ _ _ 27 [some (.ref 54), some (.int 2), some (.int 2), some (.int xx), some (.int b), some (.int (nI d)), some (.int 2), some (.int 0)] [.int 0] (E (tr 56 435 x l) y)
  refine PW_if_ne c_B_call_27 (fun h2 => absurd (by decide) h2) (fun _ => ?_)
  refine PW_iload c_B_call_30 rfl ?_
  refine PW_S0 (d2 := 0) (st := []) [.int 2] c_B_call_32 lk_B_call_22 rfl rfl rfl (Nat.le_of_ble_eq_true rfl) (by first | decide | omega) (Nat.le_of_ble_eq_true rfl) ?_
  refine sp_kab2 ?_
  show PW _ _ _ 35 [some (.ref 54), some (.int 2), some (.int 2), some (.int xx), some (.int b), some (.int (nI d)), some (.int 2), some (.int 0)] [.int 0] (E (tr 56 435 x l) y)
  refine PW_istore (i := 6) (L2 := [some (.ref 54), some (.int 2), some (.int 2), some (.int xx), some (.int b), some (.int (nI d)), some (.int 0), some (.int 0)]) c_B_call_35 (Nat.le_of_ble_eq_true rfl) rfl rfl ?_
  refine PW_iinc (i := 7) (v := 1) (L2 := [some (.ref 54), some (.int 2), some (.int 2), some (.int xx), some (.int b), some (.int (nI d)), some (.int 0), some (.int 1)]) c_B_call_37 rfl (by decide) (Nat.le_of_ble_eq_true rfl) rfl rfl ?_
  refine PW_goto c_B_call_40 ?_
  refine PW_iload c_B_call_6 rfl ?_
  refine PW_bipush (v := 8) c_B_call_8 (by decide) ?_
  refine PW_icmp_ge c_B_call_10 (fun h3 => absurd h3 (by decide)) (fun _ => ?_)
  refine PW_iload c_B_call_13 rfl ?_
  refine PW_S0 (d2 := 0) (st := []) [.int 0] c_B_call_15 lk_B_call_18 rfl rfl rfl (Nat.le_of_ble_eq_true rfl) (by first | decide | omega) (Nat.le_of_ble_eq_true rfl) ?_
  refine sp_B_isKind  ?_
  show PW _ _ _ 18 [some (.ref 54), some (.int 2), some (.int 2), some (.int xx), some (.int b), some (.int (nI d)), some (.int 0), some (.int 1)] [.int (b2i (0 ≤ (0 : Int32) ∧ (0 : Int32) ≤ 7))] (E (tr 56 435 x l) y)
  refine PW_if_eq c_B_call_18 (fun h4 => absurd (by decide) (b2i_0.mp h4)) (fun _ => ?_)
  refine PW_iload c_B_call_21 rfl ?_
  refine PW_iload_n c_B_call_23 rfl ?_
  refine PW_S0 (d2 := 1) (st := []) [.int 0, .int 2] c_B_call_24 lk_B_call_49 rfl rfl rfl (Nat.le_of_ble_eq_true rfl) (by first | decide | omega) (Nat.le_of_ble_eq_true rfl) ?_
  refine sp_own_0_2 ?_
  show PW _ _ _ 27 [some (.ref 54), some (.int 2), some (.int 2), some (.int xx), some (.int b), some (.int (nI d)), some (.int 0), some (.int 1)] [.int 11] (E (tr 56 435 x l) y)
  refine PW_if_ne c_B_call_27 (fun _ => ?_) (fun h5 => absurd h5 (by decide))
  refine PW_iload c_B_call_43 rfl ?_
  refine PW_S0 (d2 := 0) (st := []) [.int 0] c_B_call_45 lk_B_call_18 rfl rfl rfl (Nat.le_of_ble_eq_true rfl) (by first | decide | omega) (Nat.le_of_ble_eq_true rfl) ?_
  refine sp_B_isKind  ?_
  show PW _ _ _ 48 [some (.ref 54), some (.int 2), some (.int 2), some (.int xx), some (.int b), some (.int (nI d)), some (.int 0), some (.int 1)] [.int (b2i (0 ≤ (0 : Int32) ∧ (0 : Int32) ≤ 7))] (E (tr 56 435 x l) y)
  refine PW_if_eq c_B_call_48 (fun h6 => absurd (by decide) (b2i_0.mp h6)) (fun _ => ?_)
  refine PW_iload c_B_call_51 rfl ?_
  refine PW_bipush (v := 30) c_B_call_53 (by decide) ?_
  refine PW_icmp_lt c_B_call_55 (fun h7 => ?_) (fun h7 => absurd ((nI_ltI (by omega) (by decide)).mpr (by omega) : nI d < nI 30) h7)
  refine PW_iload c_B_call_60 rfl ?_
  refine PW_iload_n c_B_call_62 rfl ?_
  refine PW_S0 (d2 := 1) (st := []) [.int 0, .int 2] c_B_call_63 lk_B_call_49 rfl rfl rfl (Nat.le_of_ble_eq_true rfl) (by first | decide | omega) (Nat.le_of_ble_eq_true rfl) ?_
  refine sp_own_0_2 ?_
  show PW _ _ _ 66 [some (.ref 54), some (.int 2), some (.int 2), some (.int xx), some (.int b), some (.int (nI d)), some (.int 0), some (.int 1)] [.int 11] (E (tr 56 435 x l) y)
  refine PW_istore (i := 7) (L2 := [some (.ref 54), some (.int 2), some (.int 2), some (.int xx), some (.int b), some (.int (nI d)), some (.int 0), some (.int 11)]) c_B_call_66 (Nat.le_of_ble_eq_true rfl) rfl rfl ?_
  refine PW_aload_n c_B_call_68 rfl ?_
  refine PW_iload c_B_call_69 rfl ?_
  refine PW_V0 (d2 := 0) (st := []) [.int 11] c_B_call_71 lk_B_call_53 (po_54 _ _) rfl rfl rfl (Nat.le_of_ble_eq_true rfl) (by first | decide | omega) (Nat.le_of_ble_eq_true rfl) ?_
  refine sp_note (by (try simp only [List.length_cons]); omega) ?_
  show PW _ _ _ 74 [some (.ref 54), some (.int 2), some (.int 2), some (.int xx), some (.int b), some (.int (nI d)), some (.int 0), some (.int 11)] [] (E (tr 56 435 x (11 :: l)) y)
  refine PW_iload_n c_B_call_74 rfl ?_
  refine PW_iconst (v := 2) c_B_call_75 (by decide) ?_
  refine PW_icmp_eq c_B_call_76 (fun _ => ?_) (fun h8 => absurd (by decide) h8)
  refine PW_aload_n c_B_call_84 rfl ?_
  refine PW_iload c_B_call_85 rfl ?_
  refine PW_iload c_B_call_87 rfl ?_
  refine PW_S0 (d2 := 0) (st := [.int 11, .ref 54]) [.int 0] c_B_call_89 lk_B_call_22 rfl rfl rfl (Nat.le_of_ble_eq_true rfl) (by first | decide | omega) (Nat.le_of_ble_eq_true rfl) ?_
  refine sp_kab0 ?_
  show PW _ _ _ 92 [some (.ref 54), some (.int 2), some (.int 2), some (.int xx), some (.int b), some (.int (nI d)), some (.int 0), some (.int 11)] [.int (-1), .int 11, .ref 54] (E (tr 56 435 x (11 :: l)) y)
  refine PW_iload_n c_B_call_92 rfl ?_
  refine PW_iload c_B_call_93 rfl ?_
  refine PW_iload c_B_call_95 rfl ?_
  refine PW_iconst (v := 1) c_B_call_97 (by decide) ?_
  refine PW_iadd c_B_call_98 ?_
  refine PW_V0 (d2 := 4) (st := []) [.int 11, .int (-1), .int xx, .int b, .int ((nI d) + 1)] c_B_call_99 lk_B_call_57 (po_54 _ _) rfl rfl rfl (Nat.le_of_ble_eq_true rfl) (by first | decide | omega) (Nat.le_of_ble_eq_true rfl) ?_
  show PW _ _ _ 0 [some (.ref 54), some (.int 11), some (.int (-1)), some (.int xx), some (.int b), some (.int ((nI d) + 1)), none] [] (E (tr 56 435 x (11 :: l)) y)
  refine PW_aload_n c_B_runLater_0 rfl ?_
  refine PW_iload c_B_runLater_1 rfl ?_
  refine PW_V0 (d2 := 1) (st := []) [.int b] c_B_runLater_3 lk_B_runLater_42 (po_54 _ _) rfl rfl rfl (Nat.le_of_ble_eq_true rfl) (by first | decide | omega) (Nat.le_of_ble_eq_true rfl) ?_
  refine sp_kof K ?_
  show PW _ _ _ 6 [some (.ref 54), some (.int 11), some (.int (-1)), some (.int xx), some (.int b), some (.int ((nI d) + 1)), none] [.int 2] (E (tr 56 435 x (11 :: l)) y)
  refine PW_istore (i := 6) (L2 := [some (.ref 54), some (.int 11), some (.int (-1)), some (.int xx), some (.int b), some (.int ((nI d) + 1)), some (.int 2)]) c_B_runLater_6 (Nat.le_of_ble_eq_true rfl) rfl rfl ?_
  refine PW_iload_n c_B_runLater_8 rfl ?_
  refine PW_lookup (tgt := 94) c_B_runLater_9 (by decide) rfl rfl ?_
  refine PW_iload_n c_B_runLater_94 rfl ?_
  refine PW_iload c_B_runLater_95 rfl ?_
  refine PW_ixor c_B_runLater_97 ?_
  refine PW_ireturn (ty := .int) c_B_runLater_98 rfl rfl ?_
  show PW _ _ _ 102 [some (.ref 54), some (.int 2), some (.int 2), some (.int xx), some (.int b), some (.int (nI d)), some (.int 0), some (.int 11)] [.int (xx ^^^ b)] (E (tr 56 435 x (11 :: l)) y)
  refine PW_goto c_B_call_102 ?_
  refine PW_ireturn (ty := .int) c_B_call_123 rfl rfl ?_
  exact h
theorem sp_call_2_2_3 {z : ZS} {post : Option Value → List PE → Prop} {x y : XS} {l : List Int32} {b xx dp : Int32} {d : Nat} (K : kb x b 2) (ed : dp = nI d) (hd : d + 4 ≤ 30) (hl : l.length + 5 ≤ 24) (h : post (some (.int ((-((xx + b) * 2)) - ((1 : Int32) ^^^ b)))) (E (tr 56 435 x (11 :: 1 :: 10 :: 30 :: 2 :: l)) y)) : PW (11, 0, 0, z) m_B_call post 0 [some (.ref 54), some (.int 2), some (.int 3), some (.int xx), some (.int b), some (.int dp), none, none] [] (E (tr 56 435 x l) y) := by
  subst ed
  refine PW_iload_n c_B_call_0 rfl ?_
  refine PW_istore (i := 6) (L2 := [some (.ref 54), some (.int 2), some (.int 3), some (.int xx), some (.int b), some (.int (nI d)), some (.int 2), none]) c_B_call_1 (Nat.le_of_ble_eq_true rfl) rfl rfl ?_
  refine PW_iconst (v := 0) c_B_call_3 (by decide) ?_
  refine PW_istore (i := 7) (L2 := [some (.ref 54), some (.int 2), some (.int 3), some (.int xx), some (.int b), some (.int (nI d)), some (.int 2), some (.int 0)]) c_B_call_4 (Nat.le_of_ble_eq_true rfl) rfl rfl ?_
  refine PW_iload c_B_call_6 rfl ?_
  refine PW_bipush (v := 8) c_B_call_8 (by decide) ?_
  refine PW_icmp_ge c_B_call_10 (fun h0 => absurd h0 (by decide)) (fun _ => ?_)
  refine PW_iload c_B_call_13 rfl ?_
  refine PW_S0 (d2 := 0) (st := []) [.int 2] c_B_call_15 lk_B_call_18 rfl rfl rfl (Nat.le_of_ble_eq_true rfl) (by first | decide | omega) (Nat.le_of_ble_eq_true rfl) ?_
  refine sp_B_isKind  ?_
  show PW _ _ _ 18 [some (.ref 54), some (.int 2), some (.int 3), some (.int xx), some (.int b), some (.int (nI d)), some (.int 2), some (.int 0)] [.int (b2i (0 ≤ (2 : Int32) ∧ (2 : Int32) ≤ 7))] (E (tr 56 435 x l) y)
  refine PW_if_eq c_B_call_18 (fun h1 => absurd (by decide) (b2i_0.mp h1)) (fun _ => ?_)
  refine PW_iload c_B_call_21 rfl ?_
  refine PW_iload_n c_B_call_23 rfl ?_
  refine PW_S0 (d2 := 1) (st := []) [.int 2, .int 3] c_B_call_24 lk_B_call_49 rfl rfl rfl (Nat.le_of_ble_eq_true rfl) (by first | decide | omega) (Nat.le_of_ble_eq_true rfl) ?_
  refine sp_own_2_3 ?_
  show PW _ _ _ 27 [some (.ref 54), some (.int 2), some (.int 3), some (.int xx), some (.int b), some (.int (nI d)), some (.int 2), some (.int 0)] [.int 0] (E (tr 56 435 x l) y)
  refine PW_if_ne c_B_call_27 (fun h2 => absurd (by decide) h2) (fun _ => ?_)
  refine PW_iload c_B_call_30 rfl ?_
  refine PW_S0 (d2 := 0) (st := []) [.int 2] c_B_call_32 lk_B_call_22 rfl rfl rfl (Nat.le_of_ble_eq_true rfl) (by first | decide | omega) (Nat.le_of_ble_eq_true rfl) ?_
  refine sp_kab2 ?_
  show PW _ _ _ 35 [some (.ref 54), some (.int 2), some (.int 3), some (.int xx), some (.int b), some (.int (nI d)), some (.int 2), some (.int 0)] [.int 0] (E (tr 56 435 x l) y)
  refine PW_istore (i := 6) (L2 := [some (.ref 54), some (.int 2), some (.int 3), some (.int xx), some (.int b), some (.int (nI d)), some (.int 0), some (.int 0)]) c_B_call_35 (Nat.le_of_ble_eq_true rfl) rfl rfl ?_
  refine PW_iinc (i := 7) (v := 1) (L2 := [some (.ref 54), some (.int 2), some (.int 3), some (.int xx), some (.int b), some (.int (nI d)), some (.int 0), some (.int 1)]) c_B_call_37 rfl (by decide) (Nat.le_of_ble_eq_true rfl) rfl rfl ?_
  refine PW_goto c_B_call_40 ?_
  refine PW_iload c_B_call_6 rfl ?_
  refine PW_bipush (v := 8) c_B_call_8 (by decide) ?_
  refine PW_icmp_ge c_B_call_10 (fun h3 => absurd h3 (by decide)) (fun _ => ?_)
  refine PW_iload c_B_call_13 rfl ?_
  refine PW_S0 (d2 := 0) (st := []) [.int 0] c_B_call_15 lk_B_call_18 rfl rfl rfl (Nat.le_of_ble_eq_true rfl) (by first | decide | omega) (Nat.le_of_ble_eq_true rfl) ?_
  refine sp_B_isKind  ?_
  show PW _ _ _ 18 [some (.ref 54), some (.int 2), some (.int 3), some (.int xx), some (.int b), some (.int (nI d)), some (.int 0), some (.int 1)] [.int (b2i (0 ≤ (0 : Int32) ∧ (0 : Int32) ≤ 7))] (E (tr 56 435 x l) y)
  refine PW_if_eq c_B_call_18 (fun h4 => absurd (by decide) (b2i_0.mp h4)) (fun _ => ?_)
  refine PW_iload c_B_call_21 rfl ?_
  refine PW_iload_n c_B_call_23 rfl ?_
  refine PW_S0 (d2 := 1) (st := []) [.int 0, .int 3] c_B_call_24 lk_B_call_49 rfl rfl rfl (Nat.le_of_ble_eq_true rfl) (by first | decide | omega) (Nat.le_of_ble_eq_true rfl) ?_
  refine sp_own_0_3 ?_
  show PW _ _ _ 27 [some (.ref 54), some (.int 2), some (.int 3), some (.int xx), some (.int b), some (.int (nI d)), some (.int 0), some (.int 1)] [.int 2] (E (tr 56 435 x l) y)
  refine PW_if_ne c_B_call_27 (fun _ => ?_) (fun h5 => absurd h5 (by decide))
  refine PW_iload c_B_call_43 rfl ?_
  refine PW_S0 (d2 := 0) (st := []) [.int 0] c_B_call_45 lk_B_call_18 rfl rfl rfl (Nat.le_of_ble_eq_true rfl) (by first | decide | omega) (Nat.le_of_ble_eq_true rfl) ?_
  refine sp_B_isKind  ?_
  show PW _ _ _ 48 [some (.ref 54), some (.int 2), some (.int 3), some (.int xx), some (.int b), some (.int (nI d)), some (.int 0), some (.int 1)] [.int (b2i (0 ≤ (0 : Int32) ∧ (0 : Int32) ≤ 7))] (E (tr 56 435 x l) y)
  refine PW_if_eq c_B_call_48 (fun h6 => absurd (by decide) (b2i_0.mp h6)) (fun _ => ?_)
  refine PW_iload c_B_call_51 rfl ?_
  refine PW_bipush (v := 30) c_B_call_53 (by decide) ?_
  refine PW_icmp_lt c_B_call_55 (fun h7 => ?_) (fun h7 => absurd ((nI_ltI (by omega) (by decide)).mpr (by omega) : nI d < nI 30) h7)
  refine PW_iload c_B_call_60 rfl ?_
  refine PW_iload_n c_B_call_62 rfl ?_
  refine PW_S0 (d2 := 1) (st := []) [.int 0, .int 3] c_B_call_63 lk_B_call_49 rfl rfl rfl (Nat.le_of_ble_eq_true rfl) (by first | decide | omega) (Nat.le_of_ble_eq_true rfl) ?_
  refine sp_own_0_3 ?_
  show PW _ _ _ 66 [some (.ref 54), some (.int 2), some (.int 3), some (.int xx), some (.int b), some (.int (nI d)), some (.int 0), some (.int 1)] [.int 2] (E (tr 56 435 x l) y)
  refine PW_istore (i := 7) (L2 := [some (.ref 54), some (.int 2), some (.int 3), some (.int xx), some (.int b), some (.int (nI d)), some (.int 0), some (.int 2)]) c_B_call_66 (Nat.le_of_ble_eq_true rfl) rfl rfl ?_
  refine PW_aload_n c_B_call_68 rfl ?_
  refine PW_iload c_B_call_69 rfl ?_
  refine PW_V0 (d2 := 0) (st := []) [.int 2] c_B_call_71 lk_B_call_53 (po_54 _ _) rfl rfl rfl (Nat.le_of_ble_eq_true rfl) (by first | decide | omega) (Nat.le_of_ble_eq_true rfl) ?_
  refine sp_note (by (try simp only [List.length_cons]); omega) ?_
  show PW _ _ _ 74 [some (.ref 54), some (.int 2), some (.int 3), some (.int xx), some (.int b), some (.int (nI d)), some (.int 0), some (.int 2)] [] (E (tr 56 435 x (2 :: l)) y)
  refine PW_iload_n c_B_call_74 rfl ?_
  refine PW_iconst (v := 2) c_B_call_75 (by decide) ?_
  refine PW_icmp_eq c_B_call_76 (fun h8 => absurd h8 (by decide)) (fun _ => ?_)
  refine PW_iload_n c_B_call_79 rfl ?_
  refine PW_iconst (v := 3) c_B_call_80 (by decide) ?_
  refine PW_icmp_ne c_B_call_81 (fun h9 => absurd (by decide) h9) (fun _ => ?_)
  refine PW_aload_n c_B_call_84 rfl ?_
  refine PW_iload c_B_call_85 rfl ?_
  refine PW_iload c_B_call_87 rfl ?_
  refine PW_S0 (d2 := 0) (st := [.int 2, .ref 54]) [.int 0] c_B_call_89 lk_B_call_22 rfl rfl rfl (Nat.le_of_ble_eq_true rfl) (by first | decide | omega) (Nat.le_of_ble_eq_true rfl) ?_
  refine sp_kab0 ?_
  show PW _ _ _ 92 [some (.ref 54), some (.int 2), some (.int 3), some (.int xx), some (.int b), some (.int (nI d)), some (.int 0), some (.int 2)] [.int (-1), .int 2, .ref 54] (E (tr 56 435 x (2 :: l)) y)
  refine PW_iload_n c_B_call_92 rfl ?_
  refine PW_iload c_B_call_93 rfl ?_
  refine PW_iload c_B_call_95 rfl ?_
  refine PW_iconst (v := 1) c_B_call_97 (by decide) ?_
  refine PW_iadd c_B_call_98 ?_
  refine PW_V0 (d2 := 10) (st := []) [.int 2, .int (-1), .int xx, .int b, .int ((nI d) + 1)] c_B_call_99 lk_B_call_57 (po_54 _ _) rfl rfl rfl (Nat.le_of_ble_eq_true rfl) (by first | decide | omega) (Nat.le_of_ble_eq_true rfl) ?_
  show PW _ _ _ 0 [some (.ref 54), some (.int 2), some (.int (-1)), some (.int xx), some (.int b), some (.int ((nI d) + 1)), none] [] (E (tr 56 435 x (2 :: l)) y)
  refine PW_aload_n c_B_runLater_0 rfl ?_
  refine PW_iload c_B_runLater_1 rfl ?_
  refine PW_V0 (d2 := 1) (st := []) [.int b] c_B_runLater_3 lk_B_runLater_42 (po_54 _ _) rfl rfl rfl (Nat.le_of_ble_eq_true rfl) (by first | decide | omega) (Nat.le_of_ble_eq_true rfl) ?_
  refine sp_kof K ?_
  show PW _ _ _ 6 [some (.ref 54), some (.int 2), some (.int (-1)), some (.int xx), some (.int b), some (.int ((nI d) + 1)), none] [.int 2] (E (tr 56 435 x (2 :: l)) y)
  refine PW_istore (i := 6) (L2 := [some (.ref 54), some (.int 2), some (.int (-1)), some (.int xx), some (.int b), some (.int ((nI d) + 1)), some (.int 2)]) c_B_runLater_6 (Nat.le_of_ble_eq_true rfl) rfl rfl ?_
  refine PW_iload_n c_B_runLater_8 rfl ?_
  refine PW_lookup (tgt := 68) c_B_runLater_9 (by decide) rfl rfl ?_
  refine PW_aload_n c_B_runLater_68 rfl ?_
  refine PW_iload c_B_runLater_69 rfl ?_
  refine PW_iconst (v := 1) c_B_runLater_71 (by decide) ?_
  refine PW_iload_n c_B_runLater_72 rfl ?_
  refine PW_iload c_B_runLater_73 rfl ?_
  refine PW_iload c_B_runLater_75 rfl ?_
  refine PW_V0 (d2 := 9) (st := []) [.int 2, .int 1, .int xx, .int b, .int ((nI d) + 1)] c_B_runLater_77 lk_B_runLater_45 (po_54 _ _) rfl rfl rfl (Nat.le_of_ble_eq_true rfl) (by first | decide | omega) (Nat.le_of_ble_eq_true rfl) ?_
  refine PW.deeper (k := (9, 0, 0, z)) (Nat.le_of_ble_eq_true rfl) (Nat.le_refl _) (Nat.le_refl _) ?_
  refine sp_call_2_2_1 K (nI_1 d) (by omega) (by (try simp only [List.length_cons]); omega) ?_
  show PW _ _ _ 80 [some (.ref 54), some (.int 2), some (.int (-1)), some (.int xx), some (.int b), some (.int ((nI d) + 1)), some (.int 2)] [.int (-((xx + b) * 2))] (E (tr 56 435 x (1 :: 10 :: 30 :: 2 :: l)) y)
  refine PW_aload_n c_B_runLater_80 rfl ?_
  refine PW_iload c_B_runLater_81 rfl ?_
  refine PW_iconst (v := 2) c_B_runLater_83 (by decide) ?_
  refine PW_iconst (v := 1) c_B_runLater_84 (by decide) ?_
  refine PW_iload c_B_runLater_85 rfl ?_
  refine PW_iload c_B_runLater_87 rfl ?_
  refine PW_V0 (d2 := 9) (st := [.int (-((xx + b) * 2))]) [.int 2, .int 2, .int 1, .int b, .int ((nI d) + 1)] c_B_runLater_89 lk_B_runLater_45 (po_54 _ _) rfl rfl rfl (Nat.le_of_ble_eq_true rfl) (by first | decide | omega) (Nat.le_of_ble_eq_true rfl) ?_
  refine PW.deeper (k := (5, 0, 0, z)) (Nat.le_of_ble_eq_true rfl) (Nat.le_refl _) (Nat.le_refl _) ?_
  refine sp_call_2_2_2 K (nI_1 d) (by omega) (by (try simp only [List.length_cons]); omega) ?_
  show PW _ _ _ 92 [some (.ref 54), some (.int 2), some (.int (-1)), some (.int xx), some (.int b), some (.int ((nI d) + 1)), some (.int 2)] [.int ((1 : Int32) ^^^ b), .int (-((xx + b) * 2))] (E (tr 56 435 x (11 :: 1 :: 10 :: 30 :: 2 :: l)) y)
  refine PW_isub c_B_runLater_92 ?_
  refine PW_ireturn (ty := .int) c_B_runLater_93 rfl rfl ?_
  show PW _ _ _ 102 [some (.ref 54), some (.int 2), some (.int 3), some (.int xx), some (.int b), some (.int (nI d)), some (.int 0), some (.int 2)] [.int ((-((xx + b) * 2)) - ((1 : Int32) ^^^ b))] (E (tr 56 435 x (11 :: 1 :: 10 :: 30 :: 2 :: l)) y)
  refine PW_goto c_B_call_102 ?_
  refine PW_ireturn (ty := .int) c_B_call_123 rfl rfl ?_
  exact h
theorem sp_call_3_3_0 {z : ZS} {post : Option Value → List PE → Prop} {x y : XS} {l : List Int32} {b xx dp : Int32} {d : Nat} (K : kb x b 3) (ed : dp = nI d) (hd : d + 1 ≤ 30) (hl : l.length + 1 ≤ 24) (h : post (some (.int (xx + b))) (E (tr 56 435 x (1 :: l)) y)) : PW (5, 0, 0, z) m_B_call post 0 [some (.ref 54), some (.int 3), some (.int 0), some (.int xx), some (.int b), some (.int dp), none, none] [] (E (tr 56 435 x l) y) := by
  subst ed
  refine PW_iload_n c_B_call_0 rfl ?_
  refine PW_istore (i := 6) (L2 := [some (.ref 54), some (.int 3), some (.int 0), some (.int xx), some (.int b), some (.int (nI d)), some (.int 3), none]) c_B_call_1 (Nat.le_of_ble_eq_true rfl) rfl rfl ?_
  refine PW_iconst (v := 0) c_B_call_3 (by decide) ?_
  refine PW_istore (i := 7) (L2 := [some (.ref 54), some (.int 3), some (.int 0), some (.int xx), some (.int b), some (.int (nI d)), some (.int 3), some (.int 0)]) c_B_call_4 (Nat.le_of_ble_eq_true rfl) rfl rfl ?_
  refine PW_iload c_B_call_6 rfl ?_
  refine PW_bipush (v := 8) c_B_call_8 (by decide) ?_
  refine PW_icmp_ge c_B_call_10 (fun h0 => absurd h0 (by decide)) (fun _ => ?_)
  refine PW_iload c_B_call_13 rfl ?_
  refine PW_S0 (d2 := 0) (st := []) [.int 3] c_B_call_15 lk_B_call_18 rfl rfl rfl (Nat.le_of_ble_eq_true rfl) (by first | decide | omega) (Nat.le_of_ble_eq_true rfl) ?_
  refine sp_B_isKind  ?_
  show PW _ _ _ 18 [some (.ref 54), some (.int 3), some (.int 0), some (.int xx), some (.int b), some (.int (nI d)), some (.int 3), some (.int 0)] [.int (b2i (0 ≤ (3 : Int32) ∧ (3 : Int32) ≤ 7))] (E (tr 56 435 x l) y)
  refine PW_if_eq c_B_call_18 (fun h1 => absurd (by decide) (b2i_0.mp h1)) (fun _ => ?_)
  refine PW_iload c_B_call_21 rfl ?_
  refine PW_iload_n c_B_call_23 rfl ?_
  refine PW_S0 (d2 := 1) (st := []) [.int 3, .int 0] c_B_call_24 lk_B_call_49 rfl rfl rfl (Nat.le_of_ble_eq_true rfl) (by first | decide | omega) (Nat.le_of_ble_eq_true rfl) ?_
  refine sp_own_3_0 ?_
  show PW _ _ _ 27 [some (.ref 54), some (.int 3), some (.int 0), some (.int xx), some (.int b), some (.int (nI d)), some (.int 3), some (.int 0)] [.int 0] (E (tr 56 435 x l) y)
  refine PW_if_ne c_B_call_27 (fun h2 => absurd (by decide) h2) (fun _ => ?_)
  refine PW_iload c_B_call_30 rfl ?_
  refine PW_S0 (d2 := 0) (st := []) [.int 3] c_B_call_32 lk_B_call_22 rfl rfl rfl (Nat.le_of_ble_eq_true rfl) (by first | decide | omega) (Nat.le_of_ble_eq_true rfl) ?_
  refine sp_kab3 ?_
  show PW _ _ _ 35 [some (.ref 54), some (.int 3), some (.int 0), some (.int xx), some (.int b), some (.int (nI d)), some (.int 3), some (.int 0)] [.int 2] (E (tr 56 435 x l) y)
  refine PW_istore (i := 6) (L2 := [some (.ref 54), some (.int 3), some (.int 0), some (.int xx), some (.int b), some (.int (nI d)), some (.int 2), some (.int 0)]) c_B_call_35 (Nat.le_of_ble_eq_true rfl) rfl rfl ?_
  refine PW_iinc (i := 7) (v := 1) (L2 := [some (.ref 54), some (.int 3), some (.int 0), some (.int xx), some (.int b), some (.int (nI d)), some (.int 2), some (.int 1)]) c_B_call_37 rfl (by decide) (Nat.le_of_ble_eq_true rfl) rfl rfl ?_
  refine PW_goto c_B_call_40 ?_
  refine PW_iload c_B_call_6 rfl ?_
  refine PW_bipush (v := 8) c_B_call_8 (by decide) ?_
  refine PW_icmp_ge c_B_call_10 (fun h3 => absurd h3 (by decide)) (fun _ => ?_)
  refine PW_iload c_B_call_13 rfl ?_
  refine PW_S0 (d2 := 0) (st := []) [.int 2] c_B_call_15 lk_B_call_18 rfl rfl rfl (Nat.le_of_ble_eq_true rfl) (by first | decide | omega) (Nat.le_of_ble_eq_true rfl) ?_
  refine sp_B_isKind  ?_
  show PW _ _ _ 18 [some (.ref 54), some (.int 3), some (.int 0), some (.int xx), some (.int b), some (.int (nI d)), some (.int 2), some (.int 1)] [.int (b2i (0 ≤ (2 : Int32) ∧ (2 : Int32) ≤ 7))] (E (tr 56 435 x l) y)
  refine PW_if_eq c_B_call_18 (fun h4 => absurd (by decide) (b2i_0.mp h4)) (fun _ => ?_)
  refine PW_iload c_B_call_21 rfl ?_
  refine PW_iload_n c_B_call_23 rfl ?_
  refine PW_S0 (d2 := 1) (st := []) [.int 2, .int 0] c_B_call_24 lk_B_call_49 rfl rfl rfl (Nat.le_of_ble_eq_true rfl) (by first | decide | omega) (Nat.le_of_ble_eq_true rfl) ?_
  refine sp_own_2_0 ?_
  show PW _ _ _ 27 [some (.ref 54), some (.int 3), some (.int 0), some (.int xx), some (.int b), some (.int (nI d)), some (.int 2), some (.int 1)] [.int 0] (E (tr 56 435 x l) y)
  refine PW_if_ne c_B_call_27 (fun h5 => absurd (by decide) h5) (fun _ => ?_)
  refine PW_iload c_B_call_30 rfl ?_
  refine PW_S0 (d2 := 0) (st := []) [.int 2] c_B_call_32 lk_B_call_22 rfl rfl rfl (Nat.le_of_ble_eq_true rfl) (by first | decide | omega) (Nat.le_of_ble_eq_true rfl) ?_
  refine sp_kab2 ?_
  show PW _ _ _ 35 [some (.ref 54), some (.int 3), some (.int 0), some (.int xx), some (.int b), some (.int (nI d)), some (.int 2), some (.int 1)] [.int 0] (E (tr 56 435 x l) y)
  refine PW_istore (i := 6) (L2 := [some (.ref 54), some (.int 3), some (.int 0), some (.int xx), some (.int b), some (.int (nI d)), some (.int 0), some (.int 1)]) c_B_call_35 (Nat.le_of_ble_eq_true rfl) rfl rfl ?_
  refine PW_iinc (i := 7) (v := 2) (L2 := [some (.ref 54), some (.int 3), some (.int 0), some (.int xx), some (.int b), some (.int (nI d)), some (.int 0), some (.int 2)]) c_B_call_37 rfl (by decide) (Nat.le_of_ble_eq_true rfl) rfl rfl ?_
  refine PW_goto c_B_call_40 ?_
  refine PW_iload c_B_call_6 rfl ?_
  refine PW_bipush (v := 8) c_B_call_8 (by decide) ?_
  refine PW_icmp_ge c_B_call_10 (fun h6 => absurd h6 (by decide)) (fun _ => ?_)
  refine PW_iload c_B_call_13 rfl ?_
  refine PW_S0 (d2 := 0) (st := []) [.int 0] c_B_call_15 lk_B_call_18 rfl rfl rfl (Nat.le_of_ble_eq_true rfl) (by first | decide | omega) (Nat.le_of_ble_eq_true rfl) ?_
  refine sp_B_isKind  ?_
  show PW _ _ _ 18 [some (.ref 54), some (.int 3), some (.int 0), some (.int xx), some (.int b), some (.int (nI d)), some (.int 0), some (.int 2)] [.int (b2i (0 ≤ (0 : Int32) ∧ (0 : Int32) ≤ 7))] (E (tr 56 435 x l) y)
  refine PW_if_eq c_B_call_18 (fun h7 => absurd (by decide) (b2i_0.mp h7)) (fun _ => ?_)
  refine PW_iload c_B_call_21 rfl ?_
  refine PW_iload_n c_B_call_23 rfl ?_
  refine PW_S0 (d2 := 1) (st := []) [.int 0, .int 0] c_B_call_24 lk_B_call_49 rfl rfl rfl (Nat.le_of_ble_eq_true rfl) (by first | decide | omega) (Nat.le_of_ble_eq_true rfl) ?_
  refine sp_own_0_0 ?_
  show PW _ _ _ 27 [some (.ref 54), some (.int 3), some (.int 0), some (.int xx), some (.int b), some (.int (nI d)), some (.int 0), some (.int 2)] [.int 1] (E (tr 56 435 x l) y)
  refine PW_if_ne c_B_call_27 (fun _ => ?_) (fun h8 => absurd h8 (by decide))
  refine PW_iload c_B_call_43 rfl ?_
  refine PW_S0 (d2 := 0) (st := []) [.int 0] c_B_call_45 lk_B_call_18 rfl rfl rfl (Nat.le_of_ble_eq_true rfl) (by first | decide | omega) (Nat.le_of_ble_eq_true rfl) ?_
  refine sp_B_isKind  ?_
  show PW _ _ _ 48 [some (.ref 54), some (.int 3), some (.int 0), some (.int xx), some (.int b), some (.int (nI d)), some (.int 0), some (.int 2)] [.int (b2i (0 ≤ (0 : Int32) ∧ (0 : Int32) ≤ 7))] (E (tr 56 435 x l) y)
  refine PW_if_eq c_B_call_48 (fun h9 => absurd (by decide) (b2i_0.mp h9)) (fun _ => ?_)
  refine PW_iload c_B_call_51 rfl ?_
  refine PW_bipush (v := 30) c_B_call_53 (by decide) ?_
  refine PW_icmp_lt c_B_call_55 (fun h10 => ?_) (fun h10 => absurd ((nI_ltI (by omega) (by decide)).mpr (by omega) : nI d < nI 30) h10)
  refine PW_iload c_B_call_60 rfl ?_
  refine PW_iload_n c_B_call_62 rfl ?_
  refine PW_S0 (d2 := 1) (st := []) [.int 0, .int 0] c_B_call_63 lk_B_call_49 rfl rfl rfl (Nat.le_of_ble_eq_true rfl) (by first | decide | omega) (Nat.le_of_ble_eq_true rfl) ?_
  refine sp_own_0_0 ?_
  show PW _ _ _ 66 [some (.ref 54), some (.int 3), some (.int 0), some (.int xx), some (.int b), some (.int (nI d)), some (.int 0), some (.int 2)] [.int 1] (E (tr 56 435 x l) y)
  refine PW_istore (i := 7) (L2 := [some (.ref 54), some (.int 3), some (.int 0), some (.int xx), some (.int b), some (.int (nI d)), some (.int 0), some (.int 1)]) c_B_call_66 (Nat.le_of_ble_eq_true rfl) rfl rfl ?_
  refine PW_aload_n c_B_call_68 rfl ?_
  refine PW_iload c_B_call_69 rfl ?_
  refine PW_V0 (d2 := 0) (st := []) [.int 1] c_B_call_71 lk_B_call_53 (po_54 _ _) rfl rfl rfl (Nat.le_of_ble_eq_true rfl) (by first | decide | omega) (Nat.le_of_ble_eq_true rfl) ?_
  refine sp_note (by (try simp only [List.length_cons]); omega) ?_
  show PW _ _ _ 74 [some (.ref 54), some (.int 3), some (.int 0), some (.int xx), some (.int b), some (.int (nI d)), some (.int 0), some (.int 1)] [] (E (tr 56 435 x (1 :: l)) y)
  refine PW_iload_n c_B_call_74 rfl ?_
  refine PW_iconst (v := 2) c_B_call_75 (by decide) ?_
  refine PW_icmp_eq c_B_call_76 (fun h11 => absurd h11 (by decide)) (fun _ => ?_)
  refine PW_iload_n c_B_call_79 rfl ?_
  refine PW_iconst (v := 3) c_B_call_80 (by decide) ?_
  refine PW_icmp_ne c_B_call_81 (fun _ => ?_) (fun h12 => absurd h12 (by decide))
  refine PW_aload_n c_B_call_105 rfl ?_
  refine PW_iload c_B_call_106 rfl ?_
  refine PW_iload c_B_call_108 rfl ?_
  refine PW_S0 (d2 := 0) (st := [.int 1, .ref 54]) [.int 0] c_B_call_110 lk_B_call_22 rfl rfl rfl (Nat.le_of_ble_eq_true rfl) (by first | decide | omega) (Nat.le_of_ble_eq_true rfl) ?_
  refine sp_kab0 ?_
  show PW _ _ _ 113 [some (.ref 54), some (.int 3), some (.int 0), some (.int xx), some (.int b), some (.int (nI d)), some (.int 0), some (.int 1)] [.int (-1), .int 1, .ref 54] (E (tr 56 435 x (1 :: l)) y)
  refine PW_iload_n c_B_call_113 rfl ?_
  refine PW_iload c_B_call_114 rfl ?_
  refine PW_iload c_B_call_116 rfl ?_
  refine PW_iconst (v := 1) c_B_call_118 (by decide) ?_
  refine PW_iadd c_B_call_119 ?_
  refine PW_V0 (d2 := 4) (st := []) [.int 1, .int (-1), .int xx, .int b, .int ((nI d) + 1)] c_B_call_120 lk_B_call_60 (po_54 _ _) rfl rfl rfl (Nat.le_of_ble_eq_true rfl) (by first | decide | omega) (Nat.le_of_ble_eq_true rfl) ?_
  show PW _ _ _ 0 [some (.ref 54), some (.int 1), some (.int (-1)), some (.int xx), some (.int b), some (.int ((nI d) + 1)), none] [] (E (tr 56 435 x (1 :: l)) y)
  refine PW_aload_n c_B_runFirst_0 rfl ?_
  refine PW_iload c_B_runFirst_1 rfl ?_
  refine PW_V0 (d2 := 1) (st := []) [.int b] c_B_runFirst_3 lk_B_runFirst_42 (po_54 _ _) rfl rfl rfl (Nat.le_of_ble_eq_true rfl) (by first | decide | omega) (Nat.le_of_ble_eq_true rfl) ?_
  refine sp_kof K ?_
  show PW _ _ _ 6 [some (.ref 54), some (.int 1), some (.int (-1)), some (.int xx), some (.int b), some (.int ((nI d) + 1)), none] [.int 3] (E (tr 56 435 x (1 :: l)) y)
  refine PW_istore (i := 6) (L2 := [some (.ref 54), some (.int 1), some (.int (-1)), some (.int xx), some (.int b), some (.int ((nI d) + 1)), some (.int 3)]) c_B_runFirst_6 (Nat.le_of_ble_eq_true rfl) rfl rfl ?_
  refine PW_iload_n c_B_runFirst_8 rfl ?_
  refine PW_lookup (tgt := 84) c_B_runFirst_9 (by decide) rfl rfl ?_
  refine PW_iload_n c_B_runFirst_84 rfl ?_
  refine PW_iload c_B_runFirst_85 rfl ?_
  refine PW_iadd c_B_runFirst_87 ?_
  refine PW_ireturn (ty := .int) c_B_runFirst_88 rfl rfl ?_
  show PW _ _ _ 123 [some (.ref 54), some (.int 3), some (.int 0), some (.int xx), some (.int b), some (.int (nI d)), some (.int 0), some (.int 1)] [.int (xx + b)] (E (tr 56 435 x (1 :: l)) y)
  refine PW_ireturn (ty := .int) c_B_call_123 rfl rfl ?_
  exact h
theorem sp_call_3_0_1 {z : ZS} {post : Option Value → List PE → Prop} {x y : XS} {l : List Int32} {b xx dp : Int32} {d : Nat} (K : kb x b 3) (ed : dp = nI d) (hd : d + 2 ≤ 30) (hl : l.length + 2 ≤ 24) (h : post (some (.int ((xx + b) * 2))) (E (tr 56 435 x (1 :: 10 :: l)) y)) : PW (7, 0, 0, z) m_B_call post 0 [some (.ref 54), some (.int 0), some (.int 1), some (.int xx), some (.int b), some (.int dp), none, none] [] (E (tr 56 435 x l) y) := by
  subst ed
  refine PW_iload_n c_B_call_0 rfl ?_
  refine PW_istore (i := 6) (L2 := [some (.ref 54), some (.int 0), some (.int 1), some (.int xx), some (.int b), some (.int (nI d)), some (.int 0), none]) c_B_call_1 (Nat.le_of_ble_eq_true rfl) rfl rfl ?_
  refine PW_iconst (v := 0) c_B_call_3 (by decide) ?_
  refine PW_istore (i := 7) (L2 := [some (.ref 54), some (.int 0), some (.int 1), some (.int xx), some (.int b), some (.int (nI d)), some (.int 0), some (.int 0)]) c_B_call_4 (Nat.le_of_ble_eq_true rfl) rfl rfl ?_
  refine PW_iload c_B_call_6 rfl ?_
  refine PW_bipush (v := 8) c_B_call_8 (by decide) ?_
  refine PW_icmp_ge c_B_call_10 (fun h0 => absurd h0 (by decide)) (fun _ => ?_)
  refine PW_iload c_B_call_13 rfl ?_
  refine PW_S0 (d2 := 0) (st := []) [.int 0] c_B_call_15 lk_B_call_18 rfl rfl rfl (Nat.le_of_ble_eq_true rfl) (by first | decide | omega) (Nat.le_of_ble_eq_true rfl) ?_
  refine sp_B_isKind  ?_
  show PW _ _ _ 18 [some (.ref 54), some (.int 0), some (.int 1), some (.int xx), some (.int b), some (.int (nI d)), some (.int 0), some (.int 0)] [.int (b2i (0 ≤ (0 : Int32) ∧ (0 : Int32) ≤ 7))] (E (tr 56 435 x l) y)
  refine PW_if_eq c_B_call_18 (fun h1 => absurd (by decide) (b2i_0.mp h1)) (fun _ => ?_)
  refine PW_iload c_B_call_21 rfl ?_
  refine PW_iload_n c_B_call_23 rfl ?_
  refine PW_S0 (d2 := 1) (st := []) [.int 0, .int 1] c_B_call_24 lk_B_call_49 rfl rfl rfl (Nat.le_of_ble_eq_true rfl) (by first | decide | omega) (Nat.le_of_ble_eq_true rfl) ?_
  refine sp_own_0_1 ?_
  show PW _ _ _ 27 [some (.ref 54), some (.int 0), some (.int 1), some (.int xx), some (.int b), some (.int (nI d)), some (.int 0), some (.int 0)] [.int 10] (E (tr 56 435 x l) y)
  refine PW_if_ne c_B_call_27 (fun _ => ?_) (fun h2 => absurd h2 (by decide))
  refine PW_iload c_B_call_43 rfl ?_
  refine PW_S0 (d2 := 0) (st := []) [.int 0] c_B_call_45 lk_B_call_18 rfl rfl rfl (Nat.le_of_ble_eq_true rfl) (by first | decide | omega) (Nat.le_of_ble_eq_true rfl) ?_
  refine sp_B_isKind  ?_
  show PW _ _ _ 48 [some (.ref 54), some (.int 0), some (.int 1), some (.int xx), some (.int b), some (.int (nI d)), some (.int 0), some (.int 0)] [.int (b2i (0 ≤ (0 : Int32) ∧ (0 : Int32) ≤ 7))] (E (tr 56 435 x l) y)
  refine PW_if_eq c_B_call_48 (fun h3 => absurd (by decide) (b2i_0.mp h3)) (fun _ => ?_)
  refine PW_iload c_B_call_51 rfl ?_
  refine PW_bipush (v := 30) c_B_call_53 (by decide) ?_
  refine PW_icmp_lt c_B_call_55 (fun h4 => ?_) (fun h4 => absurd ((nI_ltI (by omega) (by decide)).mpr (by omega) : nI d < nI 30) h4)
  refine PW_iload c_B_call_60 rfl ?_
  refine PW_iload_n c_B_call_62 rfl ?_
  refine PW_S0 (d2 := 1) (st := []) [.int 0, .int 1] c_B_call_63 lk_B_call_49 rfl rfl rfl (Nat.le_of_ble_eq_true rfl) (by first | decide | omega) (Nat.le_of_ble_eq_true rfl) ?_
  refine sp_own_0_1 ?_
  show PW _ _ _ 66 [some (.ref 54), some (.int 0), some (.int 1), some (.int xx), some (.int b), some (.int (nI d)), some (.int 0), some (.int 0)] [.int 10] (E (tr 56 435 x l) y)
  refine PW_istore (i := 7) (L2 := [some (.ref 54), some (.int 0), some (.int 1), some (.int xx), some (.int b), some (.int (nI d)), some (.int 0), some (.int 10)]) c_B_call_66 (Nat.le_of_ble_eq_true rfl) rfl rfl ?_
  refine PW_aload_n c_B_call_68 rfl ?_
  refine PW_iload c_B_call_69 rfl ?_
  refine PW_V0 (d2 := 0) (st := []) [.int 10] c_B_call_71 lk_B_call_53 (po_54 _ _) rfl rfl rfl (Nat.le_of_ble_eq_true rfl) (by first | decide | omega) (Nat.le_of_ble_eq_true rfl) ?_
  refine sp_note (by (try simp only [List.length_cons]); omega) ?_
  show PW _ _ _ 74 [some (.ref 54), some (.int 0), some (.int 1), some (.int xx), some (.int b), some (.int (nI d)), some (.int 0), some (.int 10)] [] (E (tr 56 435 x (10 :: l)) y)
  refine PW_iload_n c_B_call_74 rfl ?_
  refine PW_iconst (v := 2) c_B_call_75 (by decide) ?_
  refine PW_icmp_eq c_B_call_76 (fun h5 => absurd h5 (by decide)) (fun _ => ?_)
  refine PW_iload_n c_B_call_79 rfl ?_
  refine PW_iconst (v := 3) c_B_call_80 (by decide) ?_
  refine PW_icmp_ne c_B_call_81 (fun _ => ?_) (fun h6 => absurd h6 (by decide))
  refine PW_aload_n c_B_call_105 rfl ?_
  refine PW_iload c_B_call_106 rfl ?_
  refine PW_iload c_B_call_108 rfl ?_
  refine PW_S0 (d2 := 0) (st := [.int 10, .ref 54]) [.int 0] c_B_call_110 lk_B_call_22 rfl rfl rfl (Nat.le_of_ble_eq_true rfl) (by first | decide | omega) (Nat.le_of_ble_eq_true rfl) ?_
  refine sp_kab0 ?_
  show PW _ _ _ 113 [some (.ref 54), some (.int 0), some (.int 1), some (.int xx), some (.int b), some (.int (nI d)), some (.int 0), some (.int 10)] [.int (-1), .int 10, .ref 54] (E (tr 56 435 x (10 :: l)) y)
  refine PW_iload_n c_B_call_113 rfl ?_
  refine PW_iload c_B_call_114 rfl ?_
  refine PW_iload c_B_call_116 rfl ?_
  refine PW_iconst (v := 1) c_B_call_118 (by decide) ?_
  refine PW_iadd c_B_call_119 ?_
  refine PW_V0 (d2 := 6) (st := []) [.int 10, .int (-1), .int xx, .int b, .int ((nI d) + 1)] c_B_call_120 lk_B_call_60 (po_54 _ _) rfl rfl rfl (Nat.le_of_ble_eq_true rfl) (by first | decide | omega) (Nat.le_of_ble_eq_true rfl) ?_
  show PW _ _ _ 0 [some (.ref 54), some (.int 10), some (.int (-1)), some (.int xx), some (.int b), some (.int ((nI d) + 1)), none] [] (E (tr 56 435 x (10 :: l)) y)
  refine PW_aload_n c_B_runFirst_0 rfl ?_
  refine PW_iload c_B_runFirst_1 rfl ?_
  refine PW_V0 (d2 := 1) (st := []) [.int b] c_B_runFirst_3 lk_B_runFirst_42 (po_54 _ _) rfl rfl rfl (Nat.le_of_ble_eq_true rfl) (by first | decide | omega) (Nat.le_of_ble_eq_true rfl) ?_
  refine sp_kof K ?_
  show PW _ _ _ 6 [some (.ref 54), some (.int 10), some (.int (-1)), some (.int xx), some (.int b), some (.int ((nI d) + 1)), none] [.int 3] (E (tr 56 435 x (10 :: l)) y)
  refine PW_istore (i := 6) (L2 := [some (.ref 54), some (.int 10), some (.int (-1)), some (.int xx), some (.int b), some (.int ((nI d) + 1)), some (.int 3)]) c_B_runFirst_6 (Nat.le_of_ble_eq_true rfl) rfl rfl ?_
  refine PW_iload_n c_B_runFirst_8 rfl ?_
  refine PW_lookup (tgt := 89) c_B_runFirst_9 (by decide) rfl rfl ?_
  refine PW_aload_n c_B_runFirst_89 rfl ?_
  refine PW_iload c_B_runFirst_90 rfl ?_
  refine PW_iconst (v := 0) c_B_runFirst_92 (by decide) ?_
  refine PW_iload_n c_B_runFirst_93 rfl ?_
  refine PW_iload c_B_runFirst_94 rfl ?_
  refine PW_iload c_B_runFirst_96 rfl ?_
  refine PW_V0 (d2 := 5) (st := []) [.int 3, .int 0, .int xx, .int b, .int ((nI d) + 1)] c_B_runFirst_98 lk_B_runFirst_45 (po_54 _ _) rfl rfl rfl (Nat.le_of_ble_eq_true rfl) (by first | decide | omega) (Nat.le_of_ble_eq_true rfl) ?_
  refine PW.deeper (k := (5, 0, 0, z)) (Nat.le_of_ble_eq_true rfl) (Nat.le_refl _) (Nat.le_refl _) ?_
  refine sp_call_3_3_0 K (nI_1 d) (by omega) (by (try simp only [List.length_cons]); omega) ?_
  show PW _ _ _ 101 [some (.ref 54), some (.int 10), some (.int (-1)), some (.int xx), some (.int b), some (.int ((nI d) + 1)), some (.int 3)] [.int (xx + b)] (E (tr 56 435 x (1 :: 10 :: l)) y)
  refine PW_iconst (v := 2) c_B_runFirst_101 (by decide) ?_
  refine PW_imul c_B_runFirst_102 ?_
  refine PW_ireturn (ty := .int) c_B_runFirst_103 rfl rfl ?_
  show PW _ _ _ 123 [some (.ref 54), some (.int 0), some (.int 1), some (.int xx), some (.int b), some (.int (nI d)), some (.int 0), some (.int 10)] [.int ((xx + b) * 2)] (E (tr 56 435 x (1 :: 10 :: l)) y)
  refine PW_ireturn (ty := .int) c_B_call_123 rfl rfl ?_
  exact h
theorem sp_call_3_2_1 {z : ZS} {post : Option Value → List PE → Prop} {x y : XS} {l : List Int32} {b xx dp : Int32} {d : Nat} (K : kb x b 3) (ed : dp = nI d) (hd : d + 3 ≤ 30) (hl : l.length + 3 ≤ 24) (h : post (some (.int (-((xx + b) * 2)))) (E (tr 56 435 x (1 :: 10 :: 30 :: l)) y)) : PW (9, 0, 0, z) m_B_call post 0 [some (.ref 54), some (.int 2), some (.int 1), some (.int xx), some (.int b), some (.int dp), none, none] [] (E (tr 56 435 x l) y) := by
  subst ed
  refine PW_iload_n c_B_call_0 rfl ?_
  refine PW_istore (i := 6) (L2 := [some (.ref 54), some (.int 2), some (.int 1), some (.int xx), some (.int b), some (.int (nI d)), some (.int 2), none]) c_B_call_1 (Nat.le_of_ble_eq_true rfl) rfl rfl ?_
  refine PW_iconst (v := 0) c_B_call_3 (by decide) ?_
  refine PW_istore (i := 7) (L2 := [some (.ref 54), some (.int 2), some (.int 1), some (.int xx), some (.int b), some (.int (nI d)), some (.int 2), some (.int 0)]) c_B_call_4 (Nat.le_of_ble_eq_true rfl) rfl rfl ?_
  refine PW_iload c_B_call_6 rfl ?_
  refine PW_bipush (v := 8) c_B_call_8 (by decide) ?_
  refine PW_icmp_ge c_B_call_10 (fun h0 => absurd h0 (by decide)) (fun _ => ?_)
  refine PW_iload c_B_call_13 rfl ?_
  refine PW_S0 (d2 := 0) (st := []) [.int 2] c_B_call_15 lk_B_call_18 rfl rfl rfl (Nat.le_of_ble_eq_true rfl) (by first | decide | omega) (Nat.le_of_ble_eq_true rfl) ?_
  refine sp_B_isKind  ?_
  show PW _ _ _ 18 [some (.ref 54), some (.int 2), some (.int 1), some (.int xx), some (.int b), some (.int (nI d)), some (.int 2), some (.int 0)] [.int (b2i (0 ≤ (2 : Int32) ∧ (2 : Int32) ≤ 7))] (E (tr 56 435 x l) y)
  refine PW_if_eq c_B_call_18 (fun h1 => absurd (by decide) (b2i_0.mp h1)) (fun _ => ?_)
  refine PW_iload c_B_call_21 rfl ?_
  refine PW_iload_n c_B_call_23 rfl ?_
  refine PW_S0 (d2 := 1) (st := []) [.int 2, .int 1] c_B_call_24 lk_B_call_49 rfl rfl rfl (Nat.le_of_ble_eq_true rfl) (by first | decide | omega) (Nat.le_of_ble_eq_true rfl) ?_
  refine sp_own_2_1 ?_
  show PW _ _ _ 27 [some (.ref 54), some (.int 2), some (.int 1), some (.int xx), some (.int b), some (.int (nI d)), some (.int 2), some (.int 0)] [.int 30] (E (tr 56 435 x l) y)
  refine PW_if_ne c_B_call_27 (fun _ => ?_) (fun h2 => absurd h2 (by decide))
  refine PW_iload c_B_call_43 rfl ?_
  refine PW_S0 (d2 := 0) (st := []) [.int 2] c_B_call_45 lk_B_call_18 rfl rfl rfl (Nat.le_of_ble_eq_true rfl) (by first | decide | omega) (Nat.le_of_ble_eq_true rfl) ?_
  refine sp_B_isKind  ?_
  show PW _ _ _ 48 [some (.ref 54), some (.int 2), some (.int 1), some (.int xx), some (.int b), some (.int (nI d)), some (.int 2), some (.int 0)] [.int (b2i (0 ≤ (2 : Int32) ∧ (2 : Int32) ≤ 7))] (E (tr 56 435 x l) y)
  refine PW_if_eq c_B_call_48 (fun h3 => absurd (by decide) (b2i_0.mp h3)) (fun _ => ?_)
  refine PW_iload c_B_call_51 rfl ?_
  refine PW_bipush (v := 30) c_B_call_53 (by decide) ?_
  refine PW_icmp_lt c_B_call_55 (fun h4 => ?_) (fun h4 => absurd ((nI_ltI (by omega) (by decide)).mpr (by omega) : nI d < nI 30) h4)
  refine PW_iload c_B_call_60 rfl ?_
  refine PW_iload_n c_B_call_62 rfl ?_
  refine PW_S0 (d2 := 1) (st := []) [.int 2, .int 1] c_B_call_63 lk_B_call_49 rfl rfl rfl (Nat.le_of_ble_eq_true rfl) (by first | decide | omega) (Nat.le_of_ble_eq_true rfl) ?_
  refine sp_own_2_1 ?_
  show PW _ _ _ 66 [some (.ref 54), some (.int 2), some (.int 1), some (.int xx), some (.int b), some (.int (nI d)), some (.int 2), some (.int 0)] [.int 30] (E (tr 56 435 x l) y)
  refine PW_istore (i := 7) (L2 := [some (.ref 54), some (.int 2), some (.int 1), some (.int xx), some (.int b), some (.int (nI d)), some (.int 2), some (.int 30)]) c_B_call_66 (Nat.le_of_ble_eq_true rfl) rfl rfl ?_
  refine PW_aload_n c_B_call_68 rfl ?_
  refine PW_iload c_B_call_69 rfl ?_
  refine PW_V0 (d2 := 0) (st := []) [.int 30] c_B_call_71 lk_B_call_53 (po_54 _ _) rfl rfl rfl (Nat.le_of_ble_eq_true rfl) (by first | decide | omega) (Nat.le_of_ble_eq_true rfl) ?_
  refine sp_note (by (try simp only [List.length_cons]); omega) ?_
  show PW _ _ _ 74 [some (.ref 54), some (.int 2), some (.int 1), some (.int xx), some (.int b), some (.int (nI d)), some (.int 2), some (.int 30)] [] (E (tr 56 435 x (30 :: l)) y)
  refine PW_iload_n c_B_call_74 rfl ?_
  refine PW_iconst (v := 2) c_B_call_75 (by decide) ?_
  refine PW_icmp_eq c_B_call_76 (fun h5 => absurd h5 (by decide)) (fun _ => ?_)
  refine PW_iload_n c_B_call_79 rfl ?_
  refine PW_iconst (v := 3) c_B_call_80 (by decide) ?_
  refine PW_icmp_ne c_B_call_81 (fun _ => ?_) (fun h6 => absurd h6 (by decide))
  refine PW_aload_n c_B_call_105 rfl ?_
  refine PW_iload c_B_call_106 rfl ?_
  refine PW_iload c_B_call_108 rfl ?_
  refine PW_S0 (d2 := 0) (st := [.int 30, .ref 54]) [.int 2] c_B_call_110 lk_B_call_22 rfl rfl rfl (Nat.le_of_ble_eq_true rfl) (by first | decide | omega) (Nat.le_of_ble_eq_true rfl) ?_
  refine sp_kab2 ?_
  show PW _ _ _ 113 [some (.ref 54), some (.int 2), some (.int 1), some (.int xx), some (.int b), some (.int (nI d)), some (.int 2), some (.int 30)] [.int 0, .int 30, .ref 54] (E (tr 56 435 x (30 :: l)) y)
  refine PW_iload_n c_B_call_113 rfl ?_
  refine PW_iload c_B_call_114 rfl ?_
  refine PW_iload c_B_call_116 rfl ?_
  refine PW_iconst (v := 1) c_B_call_118 (by decide) ?_
  refine PW_iadd c_B_call_119 ?_
  refine PW_V0 (d2 := 8) (st := []) [.int 30, .int 0, .int xx, .int b, .int ((nI d) + 1)] c_B_call_120 lk_B_call_60 (po_54 _ _) rfl rfl rfl (Nat.le_of_ble_eq_true rfl) (by first | decide | omega) (Nat.le_of_ble_eq_true rfl) ?_
  show PW _ _ _ 0 [some (.ref 54), some (.int 30), some (.int 0), some (.int xx), some (.int b), some (.int ((nI d) + 1)), none] [] (E (tr 56 435 x (30 :: l)) y)
  refine PW_aload_n c_B_runFirst_0 rfl ?_
  refine PW_iload c_B_runFirst_1 rfl ?_
  refine PW_V0 (d2 := 1) (st := []) [.int b] c_B_runFirst_3 lk_B_runFirst_42 (po_54 _ _) rfl rfl rfl (Nat.le_of_ble_eq_true rfl) (by first | decide | omega) (Nat.le_of_ble_eq_true rfl) ?_
  refine sp_kof K ?_
  show PW _ _ _ 6 [some (.ref 54), some (.int 30), some (.int 0), some (.int xx), some (.int b), some (.int ((nI d) + 1)), none] [.int 3] (E (tr 56 435 x (30 :: l)) y)
  refine PW_istore (i := 6) (L2 := [some (.ref 54), some (.int 30), some (.int 0), some (.int xx), some (.int b), some (.int ((nI d) + 1)), some (.int 3)]) c_B_runFirst_6 (Nat.le_of_ble_eq_true rfl) rfl rfl ?_
  refine PW_iload_n c_B_runFirst_8 rfl ?_
  refine PW_lookup (tgt := 118) c_B_runFirst_9 (by decide) rfl rfl ?_
  refine PW_aload_n c_B_runFirst_118 rfl ?_
  refine PW_iload_n c_B_runFirst_119 rfl ?_
  refine PW_iconst (v := 1) c_B_runFirst_120 (by decide) ?_
  refine PW_iload_n c_B_runFirst_121 rfl ?_
  refine PW_iload c_B_runFirst_122 rfl ?_
  refine PW_iload c_B_runFirst_124 rfl ?_
  refine PW_V0 (d2 := 7) (st := []) [.int 0, .int 1, .int xx, .int b, .int ((nI d) + 1)] c_B_runFirst_126 lk_B_runFirst_45 (po_54 _ _) rfl rfl rfl (Nat.le_of_ble_eq_true rfl) (by first | decide | omega) (Nat.le_of_ble_eq_true rfl) ?_
  refine PW.deeper (k := (7, 0, 0, z)) (Nat.le_of_ble_eq_true rfl) (Nat.le_refl _) (Nat.le_refl _) ?_
  refine sp_call_3_0_1 K (nI_1 d) (by omega) (by (try simp only [List.length_cons]); omega) ?_
  show PW _ _ _ 129 [some (.ref 54), some (.int 30), some (.int 0), some (.int xx), some (.int b), some (.int ((nI d) + 1)), some (.int 3)] [.int ((xx + b) * 2)] (E (tr 56 435 x (1 :: 10 :: 30 :: l)) y)
  refine PW_ineg c_B_runFirst_129 ?_
  refine PW_ireturn (ty := .int) c_B_runFirst_130 rfl rfl ?_
  show PW _ _ _ 123 [some (.ref 54), some (.int 2), some (.int 1), some (.int xx), some (.int b), some (.int (nI d)), some (.int 2), some (.int 30)] [.int (-((xx + b) * 2))] (E (tr 56 435 x (1 :: 10 :: 30 :: l)) y)
  refine PW_ireturn (ty := .int) c_B_call_123 rfl rfl ?_
  exact h
theorem sp_call_3_3_1 {z : ZS} {post : Option Value → List PE → Prop} {x y : XS} {l : List Int32} {b xx dp : Int32} {d : Nat} (K : kb x b 3) (ed : dp = nI d) (hd : d + 4 ≤ 30) (hl : l.length + 4 ≤ 24) (h : post (some (.int (-(((xx + 1) + b) * 2)))) (E (tr 56 435 x (1 :: 10 :: 30 :: 41 :: l)) y)) : PW (11, 0, 0, z) m_B_call post 0 [some (.ref 54), some (.int 3), some (.int 1), some (.int xx), some (.int b), some (.int dp), none, none] [] (E (tr 56 435 x l) y) := by
  subst ed
  refine PW_iload_n c_B_call_0 rfl ?_
  refine PW_istore (i := 6) (L2 := [some (.ref 54), some (.int 3), some (.int 1), some (.int xx), some (.int b), some (.int (nI d)), some (.int 3), none]) c_B_call_1 (Nat.le_of_ble_eq_true rfl) rfl rfl ?_
  refine PW_iconst (v := 0) c_B_call_3 (by decide) ?_
  refine PW_istore (i := 7) (L2 := [some (.ref 54), some (.int 3), some (.int 1), some (.int xx), some (.int b), some (.int (nI d)), some (.int 3), some (.int 0)]) c_B_call_4 (Nat.le_of_ble_eq_true rfl) rfl rfl ?_
  refine PW_iload c_B_call_6 rfl ?_
  refine PW_bipush (v := 8) c_B_call_8 (by decide) ?_
  refine PW_icmp_ge c_B_call_10 (fun h0 => absurd h0 (by decide)) (fun _ => ?_)
  refine PW_iload c_B_call_13 rfl ?_
  refine PW_S0 (d2 := 0) (st := []) [.int 3] c_B_call_15 lk_B_call_18 rfl rfl rfl (Nat.le_of_ble_eq_true rfl) (by first | decide | omega) (Nat.le_of_ble_eq_true rfl) ?_
  refine sp_B_isKind  ?_
  show PW _ _ _ 18 [some (.ref 54), some (.int 3), some (.int 1), some (.int xx), some (.int b), some (.int (nI d)), some (.int 3), some (.int 0)] [.int (b2i (0 ≤ (3 : Int32) ∧ (3 : Int32) ≤ 7))] (E (tr 56 435 x l) y)
  refine PW_if_eq c_B_call_18 (fun h1 => absurd (by decide) (b2i_0.mp h1)) (fun _ => ?_)
  refine PW_iload c_B_call_21 rfl ?_
  refine PW_iload_n c_B_call_23 rfl ?_
  refine PW_S0 (d2 := 1) (st := []) [.int 3, .int 1] c_B_call_24 lk_B_call_49 rfl rfl rfl (Nat.le_of_ble_eq_true rfl) (by first | decide | omega) (Nat.le_of_ble_eq_true rfl) ?_
  refine sp_own_3_1 ?_
  show PW _ _ _ 27 [some (.ref 54), some (.int 3), some (.int 1), some (.int xx), some (.int b), some (.int (nI d)), some (.int 3), some (.int 0)] [.int 41] (E (tr 56 435 x l) y)
  refine PW_if_ne c_B_call_27 (fun _ => ?_) (fun h2 => absurd h2 (by decide))
  refine PW_iload c_B_call_43 rfl ?_
  refine PW_S0 (d2 := 0) (st := []) [.int 3] c_B_call_45 lk_B_call_18 rfl rfl rfl (Nat.le_of_ble_eq_true rfl) (by first | decide | omega) (Nat.le_of_ble_eq_true rfl) ?_
  refine sp_B_isKind  ?_
  show PW _ _ _ 48 [some (.ref 54), some (.int 3), some (.int 1), some (.int xx), some (.int b), some (.int (nI d)), some (.int 3), some (.int 0)] [.int (b2i (0 ≤ (3 : Int32) ∧ (3 : Int32) ≤ 7))] (E (tr 56 435 x l) y)
  refine PW_if_eq c_B_call_48 (fun h3 => absurd (by decide) (b2i_0.mp h3)) (fun _ => ?_)
  refine PW_iload c_B_call_51 rfl ?_
  refine PW_bipush (v := 30) c_B_call_53 (by decide) ?_
  refine PW_icmp_lt c_B_call_55 (fun h4 => ?_) (fun h4 => absurd ((nI_ltI (by omega) (by decide)).mpr (by omega) : nI d < nI 30) h4)
  refine PW_iload c_B_call_60 rfl ?_
  refine PW_iload_n c_B_call_62 rfl ?_
  refine PW_S0 (d2 := 1) (st := []) [.int 3, .int 1] c_B_call_63 lk_B_call_49 rfl rfl rfl (Nat.le_of_ble_eq_true rfl) (by first | decide | omega) (Nat.le_of_ble_eq_true rfl) ?_
  refine sp_own_3_1 ?_
  show PW _ _ _ 66 [some (.ref 54), some (.int 3), some (.int 1), some (.int xx), some (.int b), some (.int (nI d)), some (.int 3), some (.int 0)] [.int 41] (E (tr 56 435 x l) y)
  refine PW_istore (i := 7) (L2 := [some (.ref 54), some (.int 3), some (.int 1), some (.int xx), some (.int b), some (.int (nI d)), some (.int 3), some (.int 41)]) c_B_call_66 (Nat.le_of_ble_eq_true rfl) rfl rfl ?_
  refine PW_aload_n c_B_call_68 rfl ?_
  refine PW_iload c_B_call_69 rfl ?_
  refine PW_V0 (d2 := 0) (st := []) [.int 41] c_B_call_71 lk_B_call_53 (po_54 _ _) rfl rfl rfl (Nat.le_of_ble_eq_true rfl) (by first | decide | omega) (Nat.le_of_ble_eq_true rfl) ?_
  refine sp_note (by (try simp only [List.length_cons]); omega) ?_
  show PW _ _ _ 74 [some (.ref 54), some (.int 3), some (.int 1), some (.int xx), some (.int b), some (.int (nI d)), some (.int 3), some (.int 41)] [] (E (tr 56 435 x (41 :: l)) y)
  refine PW_iload_n c_B_call_74 rfl ?_
  refine PW_iconst (v := 2) c_B_call_75 (by decide) ?_
  refine PW_icmp_eq c_B_call_76 (fun h5 => absurd h5 (by decide)) (fun _ => ?_)
  refine PW_iload_n c_B_call_79 rfl ?_
  refine PW_iconst (v := 3) c_B_call_80 (by decide) ?_
  refine PW_icmp_ne c_B_call_81 (fun _ => ?_) (fun h6 => absurd h6 (by decide))
  refine PW_aload_n c_B_call_105 rfl ?_
  refine PW_iload c_B_call_106 rfl ?_
  refine PW_iload c_B_call_108 rfl ?_
  refine PW_S0 (d2 := 0) (st := [.int 41, .ref 54]) [.int 3] c_B_call_110 lk_B_call_22 rfl rfl rfl (Nat.le_of_ble_eq_true rfl) (by first | decide | omega) (Nat.le_of_ble_eq_true rfl) ?_
  refine sp_kab3 ?_
  show PW _ _ _ 113 [some (.ref 54), some (.int 3), some (.int 1), some (.int xx), some (.int b), some (.int (nI d)), some (.int 3), some (.int 41)] [.int 2, .int 41, .ref 54] (E (tr 56 435 x (41 :: l)) y)
  refine PW_iload_n c_B_call_113 rfl ?_
  refine PW_iload c_B_call_114 rfl ?_
  refine PW_iload c_B_call_116 rfl ?_
  refine PW_iconst (v := 1) c_B_call_118 (by decide) ?_
  refine PW_iadd c_B_call_119 ?_
  refine PW_V0 (d2 := 10) (st := []) [.int 41, .int 2, .int xx, .int b, .int ((nI d) + 1)] c_B_call_120 lk_B_call_60 (po_54 _ _) rfl rfl rfl (Nat.le_of_ble_eq_true rfl) (by first | decide | omega) (Nat.le_of_ble_eq_true rfl) ?_
  show PW _ _ _ 0 [some (.ref 54), some (.int 41), some (.int 2), some (.int xx), some (.int b), some (.int ((nI d) + 1)), none] [] (E (tr 56 435 x (41 :: l)) y)
  refine PW_aload_n c_B_runFirst_0 rfl ?_
  refine PW_iload c_B_runFirst_1 rfl ?_
  refine PW_V0 (d2 := 1) (st := []) [.int b] c_B_runFirst_3 lk_B_runFirst_42 (po_54 _ _) rfl rfl rfl (Nat.le_of_ble_eq_true rfl) (by first | decide | omega) (Nat.le_of_ble_eq_true rfl) ?_
  refine sp_kof K ?_
  show PW _ _ _ 6 [some (.ref 54), some (.int 41), some (.int 2), some (.int xx), some (.int b), some (.int ((nI d) + 1)), none] [.int 3] (E (tr 56 435 x (41 :: l)) y)
  refine PW_istore (i := 6) (L2 := [some (.ref 54), some (.int 41), some (.int 2), some (.int xx), some (.int b), some (.int ((nI d) + 1)), some (.int 3)]) c_B_runFirst_6 (Nat.le_of_ble_eq_true rfl) rfl rfl ?_
  refine PW_iload_n c_B_runFirst_8 rfl ?_
  refine PW_lookup (tgt := 131) c_B_runFirst_9 (by decide) rfl rfl ?_
  refine PW_aload_n c_B_runFirst_131 rfl ?_
  refine PW_iload_n c_B_runFirst_132 rfl ?_
  refine PW_iconst (v := 1) c_B_runFirst_133 (by decide) ?_
  refine PW_iload_n c_B_runFirst_134 rfl ?_
  refine PW_iconst (v := 1) c_B_runFirst_135 (by decide) ?_
  refine PW_iadd c_B_runFirst_136 ?_
  refine PW_iload c_B_runFirst_137 rfl ?_
  refine PW_iload c_B_runFirst_139 rfl ?_
  refine PW_V0 (d2 := 9) (st := []) [.int 2, .int 1, .int (xx + 1), .int b, .int ((nI d) + 1)] c_B_runFirst_141 lk_B_runFirst_45 (po_54 _ _) rfl rfl rfl (Nat.le_of_ble_eq_true rfl) (by first | decide | omega) (Nat.le_of_ble_eq_true rfl) ?_
  refine PW.deeper (k := (9, 0, 0, z)) (Nat.le_of_ble_eq_true rfl) (Nat.le_refl _) (Nat.le_refl _) ?_
  refine sp_call_3_2_1 K (nI_1 d) (by omega) (by (try simp only [List.length_cons]); omega) ?_
  show PW _ _ _ 144 [some (.ref 54), some (.int 41), some (.int 2), some (.int xx), some (.int b), some (.int ((nI d) + 1)), some (.int 3)] [.int (-(((xx + 1) + b) * 2))] (E (tr 56 435 x (1 :: 10 :: 30 :: 41 :: l)) y)
  refine PW_ireturn (ty := .int) c_B_runFirst_144 rfl rfl ?_
  show PW _ _ _ 123 [some (.ref 54), some (.int 3), some (.int 1), some (.int xx), some (.int b), some (.int (nI d)), some (.int 3), some (.int 41)] [.int (-(((xx + 1) + b) * 2))] (E (tr 56 435 x (1 :: 10 :: 30 :: 41 :: l)) y)
  refine PW_ireturn (ty := .int) c_B_call_123 rfl rfl ?_
  exact h
theorem sp_call_3_2_2 {z : ZS} {post : Option Value → List PE → Prop} {x y : XS} {l : List Int32} {b xx dp : Int32} {d : Nat} (K : kb x b 3) (ed : dp = nI d) (hd : d + 1 ≤ 30) (hl : l.length + 1 ≤ 24) (h : post (some (.int (xx ^^^ b))) (E (tr 56 435 x (11 :: l)) y)) : PW (5, 0, 0, z) m_B_call post 0 [some (.ref 54), some (.int 2), some (.int 2), some (.int xx), some (.int b), some (.int dp), none, none] [] (E (tr 56 435 x l) y) := by
  subst ed
  refine PW_iload_n c_B_call_0 rfl ?_
  refine PW_istore (i := 6) (L2 := [some (.ref 54), some (.int 2), some (.int 2), some (.int xx), some (.int b), some (.int (nI d)), some (.int 2), none]) c_B_call_1 (Nat.le_of_ble_eq_true rfl) rfl rfl ?_
  refine PW_iconst (v := 0) c_B_call_3 (by decide) ?_
  refine PW_istore (i := 7) (L2 := [some (.ref 54), some (.int 2), some (.int 2), some (.int xx), some (.int b), some (.int (nI d)), some (.int 2), some (.int 0)]) c_B_call_4 (Nat.le_of_ble_eq_true rfl) rfl rfl ?_
  refine PW_iload c_B_call_6 rfl ?_
  refine PW_bipush (v := 8) c_B_call_8 (by decide) ?_
  refine PW_icmp_ge c_B_call_10 (fun h0 => absurd h0 (by decide)) (fun _ => ?_)
  refine PW_iload c_B_call_13 rfl ?_
  refine PW_S0 (d2 := 0) (st := []) [.int 2] c_B_call_15 lk_B_call_18 rfl rfl rfl (Nat.le_of_ble_eq_true rfl) (by first | decide | omega) (Nat.le_of_ble_eq_true rfl) ?_
  refine sp_B_isKind  ?_
  show PW _ _ _ 18 [some (.ref 54), some (.int 2), some (.int 2), some (.int xx), some (.int b), some (.int (nI d)), some (.int 2), some (.int 0)] [.int (b2i (0 ≤ (2 : Int32) ∧ (2 : Int32) ≤ 7))] (E (tr 56 435 x l) y)
  refine PW_if_eq c_B_call_18 (fun h1 => absurd (by decide) (b2i_0.mp h1)) (fun _ => ?_)
  refine PW_iload c_B_call_21 rfl ?_
  refine PW_iload_n c_B_call_23 rfl ?_
  refine PW_S0 (d2 := 1) (st := []) [.int 2, .int 2] c_B_call_24 lk_B_call_49 rfl rfl rfl (Nat.le_of_ble_eq_true rfl) (by first | decide | omega) (Nat.le_of_ble_eq_true rfl) ?_
  refine sp_own_2_2 ?_
  show PW _ _ _ 27 [some (.ref 54), some (.int 2), some (.int 2), some (.int xx), some (.int b), some (.int (nI d)), some (.int 2), some (.int 0)] [.int 0] (E (tr 56 435 x l) y)
  refine PW_if_ne c_B_call_27 (fun h2 => absurd (by decide) h2) (fun _ => ?_)
  refine PW_iload c_B_call_30 rfl ?_
  refine PW_S0 (d2 := 0) (st := []) [.int 2] c_B_call_32 lk_B_call_22 rfl rfl rfl (Nat.le_of_ble_eq_true rfl) (by first | decide | omega) (Nat.le_of_ble_eq_true rfl) ?_
  refine sp_kab2 ?_
  show PW _ _ _ 35 [some (.ref 54), some (.int 2), some (.int 2), some (.int xx), some (.int b), some (.int (nI d)), some (.int 2), some (.int 0)] [.int 0] (E (tr 56 435 x l) y)
  refine PW_istore (i := 6) (L2 := [some (.ref 54), some (.int 2), some (.int 2), some (.int xx), some (.int b), some (.int (nI d)), some (.int 0), some (.int 0)]) c_B_call_35 (Nat.le_of_ble_eq_true rfl) rfl rfl ?_
  refine PW_iinc (i := 7) (v := 1) (L2 := [some (.ref 54), some (.int 2), some (.int 2), some (.int xx), some (.int b), some (.int (nI d)), some (.int 0), some (.int 1)]) c_B_call_37 rfl (by decide) (Nat.le_of_ble_eq_true rfl) rfl rfl ?_
  refine PW_goto c_B_call_40 ?_
  refine PW_iload c_B_call_6 rfl ?_
  refine PW_bipush (v := 8) c_B_call_8 (by decide) ?_
  refine PW_icmp_ge c_B_call_10 (fun h3 => absurd h3 (by decide)) (fun _ => ?_)
  refine PW_iload c_B_call_13 rfl ?_
  refine PW_S0 (d2 := 0) (st := []) [.int 0] c_B_call_15 lk_B_call_18 rfl rfl rfl (Nat.le_of_ble_eq_true rfl) (by first | decide | omega) (Nat.le_of_ble_eq_true rfl) ?_
  refine sp_B_isKind  ?_
  show PW _ _ _ 18 [some (.ref 54), some (.int 2), some (.int 2), some (.int xx), some (.int b), some (.int (nI d)), some (.int 0), some (.int 1)] [.int (b2i (0 ≤ (0 : Int32) ∧ (0 : Int32) ≤ 7))] (E (tr 56 435 x l) y)
  refine PW_if_eq c_B_call_18 (fun h4 => absurd (by decide) (b2i_0.mp h4)) (fun _ => ?_)
  refine PW_iload c_B_call_21 rfl ?_
  refine PW_iload_n c_B_call_23 rfl ?_
  refine PW_S0 (d2 := 1) (st := []) [.int 0, .int 2] c_B_call_24 lk_B_call_49 rfl rfl rfl (Nat.le_of_ble_eq_true rfl) (by first | decide | omega) (Nat.le_of_ble_eq_true rfl) ?_
  refine sp_own_0_2 ?_
  show PW _ _ _ 27 [some (.ref 54), some (.int 2), some (.int 2), some (.int xx), some (.int b), some (.int (nI d)), some (.int 0), some (.int 1)] [.int 11] (E (tr 56 435 x l) y)
  refine PW_if_ne c_B_call_27 (fun _ => ?_) (fun h5 => absurd h5 (by decide))
  refine PW_iload c_B_call_43 rfl ?_
  refine PW_S0 (d2 := 0) (st := []) [.int 0] c_B_call_45 lk_B_call_18 rfl rfl rfl (Nat.le_of_ble_eq_true rfl) (by first | decide | omega) (Nat.le_of_ble_eq_true rfl) ?_
  refine sp_B_isKind  ?_
  show PW _ _ _ 48 [some (.ref 54), some (.int 2), some (.int 2), some (.int xx), some (.int b), some (.int (nI d)), some (.int 0), some (.int 1)] [.int (b2i (0 ≤ (0 : Int32) ∧ (0 : Int32) ≤ 7))] (E (tr 56 435 x l) y)
  refine PW_if_eq c_B_call_48 (fun h6 => absurd (by decide) (b2i_0.mp h6)) (fun _ => ?_)
  refine PW_iload c_B_call_51 rfl ?_
  refine PW_bipush (v := 30) c_B_call_53 (by decide) ?_
  refine PW_icmp_lt c_B_call_55 (fun h7 => ?_) (fun h7 => absurd ((nI_ltI (by omega) (by decide)).mpr (by omega) : nI d < nI 30) h7)
  refine PW_iload c_B_call_60 rfl ?_
  refine PW_iload_n c_B_call_62 rfl ?_
  refine PW_S0 (d2 := 1) (st := []) [.int 0, .int 2] c_B_call_63 lk_B_call_49 rfl rfl rfl (Nat.le_of_ble_eq_true rfl) (by first | decide | omega) (Nat.le_of_ble_eq_true rfl) ?_
  refine sp_own_0_2 ?_
  show PW _ _ _ 66 [some (.ref 54), some (.int 2), some (.int 2), some (.int xx), some (.int b), some (.int (nI d)), some (.int 0), some (.int 1)] [.int 11] (E (tr 56 435 x l) y)
  refine PW_istore (i := 7) (L2 := [some (.ref 54), some (.int 2), some (.int 2), some (.int xx), some (.int b), some (.int (nI d)), some (.int 0), some (.int 11)]) c_B_call_66 (Nat.le_of_ble_eq_true rfl) rfl rfl ?_
  refine PW_aload_n c_B_call_68 rfl ?_
  refine PW_iload c_B_call_69 rfl ?_
  refine PW_V0 (d2 := 0) (st := []) [.int 11] c_B_call_71 lk_B_call_53 (po_54 _ _) rfl rfl rfl (Nat.le_of_ble_eq_true rfl) (by first | decide | omega) (Nat.le_of_ble_eq_true rfl) ?_
  refine sp_note (by (try simp only [List.length_cons]); omega) ?_
  show PW _ _ _ 74 [some (.ref 54), some (.int 2), some (.int 2), some (.int xx), some (.int b), some (.int (nI d)), some (.int 0), some (.int 11)] [] (E (tr 56 435 x (11 :: l)) y)
  refine PW_iload_n c_B_call_74 rfl ?_
  refine PW_iconst (v := 2) c_B_call_75 (by decide) ?_
  refine PW_icmp_eq c_B_call_76 (fun _ => ?_) (fun h8 => absurd (by decide) h8)
  refine PW_aload_n c_B_call_84 rfl ?_
  refine PW_iload c_B_call_85 rfl ?_
  refine PW_iload c_B_call_87 rfl ?_
  refine PW_S0 (d2 := 0) (st := [.int 11, .ref 54]) [.int 0] c_B_call_89 lk_B_call_22 rfl rfl rfl (Nat.le_of_ble_eq_true rfl) (by first | decide | omega) (Nat.le_of_ble_eq_true rfl) ?_
  refine sp_kab0 ?_
  show PW _ _ _ 92 [some (.ref 54), some (.int 2), some (.int 2), some (.int xx), some (.int b), some (.int (nI d)), some (.int 0), some (.int 11)] [.int (-1), .int 11, .ref 54] (E (tr 56 435 x (11 :: l)) y)
  refine PW_iload_n c_B_call_92 rfl ?_
  refine PW_iload c_B_call_93 rfl ?_
  refine PW_iload c_B_call_95 rfl ?_
  refine PW_iconst (v := 1) c_B_call_97 (by decide) ?_
  refine PW_iadd c_B_call_98 ?_
  refine PW_V0 (d2 := 4) (st := []) [.int 11, .int (-1), .int xx, .int b, .int ((nI d) + 1)] c_B_call_99 lk_B_call_57 (po_54 _ _) rfl rfl rfl (Nat.le_of_ble_eq_true rfl) (by first | decide | omega) (Nat.le_of_ble_eq_true rfl) ?_
  show PW _ _ _ 0 [some (.ref 54), some (.int 11), some (.int (-1)), some (.int xx), some (.int b), some (.int ((nI d) + 1)), none] [] (E (tr 56 435 x (11 :: l)) y)
  refine PW_aload_n c_B_runLater_0 rfl ?_
  refine PW_iload c_B_runLater_1 rfl ?_
  refine PW_V0 (d2 := 1) (st := []) [.int b] c_B_runLater_3 lk_B_runLater_42 (po_54 _ _) rfl rfl rfl (Nat.le_of_ble_eq_true rfl) (by first | decide | omega) (Nat.le_of_ble_eq_true rfl) ?_
  refine sp_kof K ?_
  show PW _ _ _ 6 [some (.ref 54), some (.int 11), some (.int (-1)), some (.int xx), some (.int b), some (.int ((nI d) + 1)), none] [.int 3] (E (tr 56 435 x (11 :: l)) y)
  refine PW_istore (i := 6) (L2 := [some (.ref 54), some (.int 11), some (.int (-1)), some (.int xx), some (.int b), some (.int ((nI d) + 1)), some (.int 3)]) c_B_runLater_6 (Nat.le_of_ble_eq_true rfl) rfl rfl ?_
  refine PW_iload_n c_B_runLater_8 rfl ?_
  refine PW_lookup (tgt := 94) c_B_runLater_9 (by decide) rfl rfl ?_
  refine PW_iload_n c_B_runLater_94 rfl ?_
  refine PW_iload c_B_runLater_95 rfl ?_
  refine PW_ixor c_B_runLater_97 ?_
  refine PW_ireturn (ty := .int) c_B_runLater_98 rfl rfl ?_
  show PW _ _ _ 102 [some (.ref 54), some (.int 2), some (.int 2), some (.int xx), some (.int b), some (.int (nI d)), some (.int 0), some (.int 11)] [.int (xx ^^^ b)] (E (tr 56 435 x (11 :: l)) y)
  refine PW_goto c_B_call_102 ?_
  refine PW_ireturn (ty := .int) c_B_call_123 rfl rfl ?_
  exact h
theorem sp_call_3_3_2 {z : ZS} {post : Option Value → List PE → Prop} {x y : XS} {l : List Int32} {b xx dp : Int32} {d : Nat} (K : kb x b 3) (ed : dp = nI d) (hd : d + 2 ≤ 30) (hl : l.length + 2 ≤ 24) (h : post (some (.int ((xx ^^^ b) * 3))) (E (tr 56 435 x (11 :: 40 :: l)) y)) : PW (7, 0, 0, z) m_B_call post 0 [some (.ref 54), some (.int 3), some (.int 2), some (.int xx), some (.int b), some (.int dp), none, none] [] (E (tr 56 435 x l) y) := by
  subst ed
  refine PW_iload_n c_B_call_0 rfl ?_
  refine PW_istore (i := 6) (L2 := [some (.ref 54), some (.int 3), some (.int 2), some (.int xx), some (.int b), some (.int (nI d)), some (.int 3), none]) c_B_call_1 (Nat.le_of_ble_eq_true rfl) rfl rfl ?_
  refine PW_iconst (v := 0) c_B_call_3 (by decide) ?_
  refine PW_istore (i := 7) (L2 := [some (.ref 54), some (.int 3), some (.int 2), some (.int xx), some (.int b), some (.int (nI d)), some (.int 3), some (.int 0)]) c_B_call_4 (Nat.le_of_ble_eq_true rfl) rfl rfl ?_
  refine PW_iload c_B_call_6 rfl ?_
  refine PW_bipush (v := 8) c_B_call_8 (by decide) ?_
  refine PW_icmp_ge c_B_call_10 (fun h0 => absurd h0 (by decide)) (fun _ => ?_)
  refine PW_iload c_B_call_13 rfl ?_
  refine PW_S0 (d2 := 0) (st := []) [.int 3] c_B_call_15 lk_B_call_18 rfl rfl rfl (Nat.le_of_ble_eq_true rfl) (by first | decide | omega) (Nat.le_of_ble_eq_true rfl) ?_
  refine sp_B_isKind  ?_
  show PW _ _ _ 18 [some (.ref 54), some (.int 3), some (.int 2), some (.int xx), some (.int b), some (.int (nI d)), some (.int 3), some (.int 0)] [.int (b2i (0 ≤ (3 : Int32) ∧ (3 : Int32) ≤ 7))] (E (tr 56 435 x l) y)
  refine PW_if_eq c_B_call_18 (fun h1 => absurd (by decide) (b2i_0.mp h1)) (fun _ => ?_)
  refine PW_iload c_B_call_21 rfl ?_
  refine PW_iload_n c_B_call_23 rfl ?_
  refine PW_S0 (d2 := 1) (st := []) [.int 3, .int 2] c_B_call_24 lk_B_call_49 rfl rfl rfl (Nat.le_of_ble_eq_true rfl) (by first | decide | omega) (Nat.le_of_ble_eq_true rfl) ?_
  refine sp_own_3_2 ?_
  show PW _ _ _ 27 [some (.ref 54), some (.int 3), some (.int 2), some (.int xx), some (.int b), some (.int (nI d)), some (.int 3), some (.int 0)] [.int 40] (E (tr 56 435 x l) y)
  refine PW_if_ne c_B_call_27 (fun _ => ?_) (fun h2 => absurd h2 (by decide))
  refine PW_iload c_B_call_43 rfl ?_
  refine PW_S0 (d2 := 0) (st := []) [.int 3] c_B_call_45 lk_B_call_18 rfl rfl rfl (Nat.le_of_ble_eq_true rfl) (by first | decide | omega) (Nat.le_of_ble_eq_true rfl) ?_
  refine sp_B_isKind  ?_
  show PW _ _ _ 48 [some (.ref 54), some (.int 3), some (.int 2), some (.int xx), some (.int b), some (.int (nI d)), some (.int 3), some (.int 0)] [.int (b2i (0 ≤ (3 : Int32) ∧ (3 : Int32) ≤ 7))] (E (tr 56 435 x l) y)
  refine PW_if_eq c_B_call_48 (fun h3 => absurd (by decide) (b2i_0.mp h3)) (fun _ => ?_)
  refine PW_iload c_B_call_51 rfl ?_
  refine PW_bipush (v := 30) c_B_call_53 (by decide) ?_
  refine PW_icmp_lt c_B_call_55 (fun h4 => ?_) (fun h4 => absurd ((nI_ltI (by omega) (by decide)).mpr (by omega) : nI d < nI 30) h4)
  refine PW_iload c_B_call_60 rfl ?_
  refine PW_iload_n c_B_call_62 rfl ?_
  refine PW_S0 (d2 := 1) (st := []) [.int 3, .int 2] c_B_call_63 lk_B_call_49 rfl rfl rfl (Nat.le_of_ble_eq_true rfl) (by first | decide | omega) (Nat.le_of_ble_eq_true rfl) ?_
  refine sp_own_3_2 ?_
  show PW _ _ _ 66 [some (.ref 54), some (.int 3), some (.int 2), some (.int xx), some (.int b), some (.int (nI d)), some (.int 3), some (.int 0)] [.int 40] (E (tr 56 435 x l) y)
  refine PW_istore (i := 7) (L2 := [some (.ref 54), some (.int 3), some (.int 2), some (.int xx), some (.int b), some (.int (nI d)), some (.int 3), some (.int 40)]) c_B_call_66 (Nat.le_of_ble_eq_true rfl) rfl rfl ?_
  refine PW_aload_n c_B_call_68 rfl ?_
  refine PW_iload c_B_call_69 rfl ?_
  refine PW_V0 (d2 := 0) (st := []) [.int 40] c_B_call_71 lk_B_call_53 (po_54 _ _) rfl rfl rfl (Nat.le_of_ble_eq_true rfl) (by first | decide | omega) (Nat.le_of_ble_eq_true rfl) ?_
  refine sp_note (by (try simp only [List.length_cons]); omega) ?_
  show PW _ _ _ 74 [some (.ref 54), some (.int 3), some (.int 2), some (.int xx), some (.int b), some (.int (nI d)), some (.int 3), some (.int 40)] [] (E (tr 56 435 x (40 :: l)) y)
  refine PW_iload_n c_B_call_74 rfl ?_
  refine PW_iconst (v := 2) c_B_call_75 (by decide) ?_
  refine PW_icmp_eq c_B_call_76 (fun _ => ?_) (fun h5 => absurd (by decide) h5)
  refine PW_aload_n c_B_call_84 rfl ?_
  refine PW_iload c_B_call_85 rfl ?_
  refine PW_iload c_B_call_87 rfl ?_
  refine PW_S0 (d2 := 0) (st := [.int 40, .ref 54]) [.int 3] c_B_call_89 lk_B_call_22 rfl rfl rfl (Nat.le_of_ble_eq_true rfl) (by first | decide | omega) (Nat.le_of_ble_eq_true rfl) ?_
  refine sp_kab3 ?_
  show PW _ _ _ 92 [some (.ref 54), some (.int 3), some (.int 2), some (.int xx), some (.int b), some (.int (nI d)), some (.int 3), some (.int 40)] [.int 2, .int 40, .ref 54] (E (tr 56 435 x (40 :: l)) y)
  refine PW_iload_n c_B_call_92 rfl ?_
  refine PW_iload c_B_call_93 rfl ?_
  refine PW_iload c_B_call_95 rfl ?_
  refine PW_iconst (v := 1) c_B_call_97 (by decide) ?_
  refine PW_iadd c_B_call_98 ?_
  refine PW_V0 (d2 := 6) (st := []) [.int 40, .int 2, .int xx, .int b, .int ((nI d) + 1)] c_B_call_99 lk_B_call_57 (po_54 _ _) rfl rfl rfl (Nat.le_of_ble_eq_true rfl) (by first | decide | omega) (Nat.le_of_ble_eq_true rfl) ?_
  show PW _ _ _ 0 [some (.ref 54), some (.int 40), some (.int 2), some (.int xx), some (.int b), some (.int ((nI d) + 1)), none] [] (E (tr 56 435 x (40 :: l)) y)
  refine PW_aload_n c_B_runLater_0 rfl ?_
  refine PW_iload c_B_runLater_1 rfl ?_
  refine PW_V0 (d2 := 1) (st := []) [.int b] c_B_runLater_3 lk_B_runLater_42 (po_54 _ _) rfl rfl rfl (Nat.le_of_ble_eq_true rfl) (by first | decide | omega) (Nat.le_of_ble_eq_true rfl) ?_
  refine sp_kof K ?_
  show PW _ _ _ 6 [some (.ref 54), some (.int 40), some (.int 2), some (.int xx), some (.int b), some (.int ((nI d) + 1)), none] [.int 3] (E (tr 56 435 x (40 :: l)) y)
  refine PW_istore (i := 6) (L2 := [some (.ref 54), some (.int 40), some (.int 2), some (.int xx), some (.int b), some (.int ((nI d) + 1)), some (.int 3)]) c_B_runLater_6 (Nat.le_of_ble_eq_true rfl) rfl rfl ?_
  refine PW_iload_n c_B_runLater_8 rfl ?_
  refine PW_lookup (tgt := 99) c_B_runLater_9 (by decide) rfl rfl ?_
  refine PW_aload_n c_B_runLater_99 rfl ?_
  refine PW_iload_n c_B_runLater_100 rfl ?_
  refine PW_iconst (v := 2) c_B_runLater_101 (by decide) ?_
  refine PW_iload_n c_B_runLater_102 rfl ?_
  refine PW_iload c_B_runLater_103 rfl ?_
  refine PW_iload c_B_runLater_105 rfl ?_
  refine PW_V0 (d2 := 5) (st := []) [.int 2, .int 2, .int xx, .int b, .int ((nI d) + 1)] c_B_runLater_107 lk_B_runLater_45 (po_54 _ _) rfl rfl rfl (Nat.le_of_ble_eq_true rfl) (by first | decide | omega) (Nat.le_of_ble_eq_true rfl) ?_
  refine PW.deeper (k := (5, 0, 0, z)) (Nat.le_of_ble_eq_true rfl) (Nat.le_refl _) (Nat.le_refl _) ?_
  refine sp_call_3_2_2 K (nI_1 d) (by omega) (by (try simp only [List.length_cons]); omega) ?_
  show PW _ _ _ 110 [some (.ref 54), some (.int 40), some (.int 2), some (.int xx), some (.int b), some (.int ((nI d) + 1)), some (.int 3)] [.int (xx ^^^ b)] (E (tr 56 435 x (11 :: 40 :: l)) y)
  refine PW_iconst (v := 3) c_B_runLater_110 (by decide) ?_
  refine PW_imul c_B_runLater_111 ?_
  refine PW_ireturn (ty := .int) c_B_runLater_112 rfl rfl ?_
  show PW _ _ _ 102 [some (.ref 54), some (.int 3), some (.int 2), some (.int xx), some (.int b), some (.int (nI d)), some (.int 3), some (.int 40)] [.int ((xx ^^^ b) * 3)] (E (tr 56 435 x (11 :: 40 :: l)) y)
  refine PW_goto c_B_call_102 ?_
  refine PW_ireturn (ty := .int) c_B_call_123 rfl rfl ?_
  exact h
theorem sp_call_3_3_3 {z : ZS} {post : Option Value → List PE → Prop} {x y : XS} {l : List Int32} {b xx dp : Int32} {d : Nat} (K : kb x b 3) (ed : dp = nI d) (hd : d + 5 ≤ 30) (hl : l.length + 7 ≤ 24) (h : post (some (.int ((-(((xx + 1) + b) * 2)) - (((1 : Int32) ^^^ b) * 3)))) (E (tr 56 435 x (11 :: 40 :: 1 :: 10 :: 30 :: 41 :: 2 :: l)) y)) : PW (13, 0, 0, z) m_B_call post 0 [some (.ref 54), some (.int 3), some (.int 3), some (.int xx), some (.int b), some (.int dp), none, none] [] (E (tr 56 435 x l) y) := by
  subst ed
  refine PW_iload_n c_B_call_0 rfl ?_
  refine PW_istore (i := 6) (L2 := [some (.ref 54), some (.int 3), some (.int 3), some (.int xx), some (.int b), some (.int (nI d)), some (.int 3), none]) c_B_call_1 (Nat.le_of_ble_eq_true rfl) rfl rfl ?_
  refine PW_iconst (v := 0) c_B_call_3 (by decide) ?_
  refine PW_istore (i := 7) (L2 := [some (.ref 54), some (.int 3), some (.int 3), some (.int xx), some (.int b), some (.int (nI d)), some (.int 3), some (.int 0)]) c_B_call_4 (Nat.le_of_ble_eq_true rfl) rfl rfl ?_
  refine PW_iload c_B_call_6 rfl ?_
  refine PW_bipush (v := 8) c_B_call_8 (by decide) ?_
  refine PW_icmp_ge c_B_call_10 (fun h0 => absurd h0 (by decide)) (fun _ => ?_)
  refine PW_iload c_B_call_13 rfl ?_
  refine PW_S0 (d2 := 0) (st := []) [.int 3] c_B_call_15 lk_B_call_18 rfl rfl rfl (Nat.le_of_ble_eq_true rfl) (by first | decide | omega) (Nat.le_of_ble_eq_true rfl) ?_
  refine sp_B_isKind  ?_
  show PW _ _ _ 18 [some (.ref 54), some (.int 3), some (.int 3), some (.int xx), some (.int b), some (.int (nI d)), some (.int 3), some (.int 0)] [.int (b2i (0 ≤ (3 : Int32) ∧ (3 : Int32) ≤ 7))] (E (tr 56 435 x l) y)
  refine PW_if_eq c_B_call_18 (fun h1 => absurd (by decide) (b2i_0.mp h1)) (fun _ => ?_)
  refine PW_iload c_B_call_21 rfl ?_
  refine PW_iload_n c_B_call_23 rfl ?_
  refine PW_S0 (d2 := 1) (st := []) [.int 3, .int 3] c_B_call_24 lk_B_call_49 rfl rfl rfl (Nat.le_of_ble_eq_true rfl) (by first | decide | omega) (Nat.le_of_ble_eq_true rfl) ?_
  refine sp_own_3_3 ?_
  show PW _ _ _ 27 [some (.ref 54), some (.int 3), some (.int 3), some (.int xx), some (.int b), some (.int (nI d)), some (.int 3), some (.int 0)] [.int 0] (E (tr 56 435 x l) y)
  refine PW_if_ne c_B_call_27 (fun h2 => absurd (by decide) h2) (fun _ => ?_)
  refine PW_iload c_B_call_30 rfl ?_
  refine PW_S0 (d2 := 0) (st := []) [.int 3] c_B_call_32 lk_B_call_22 rfl rfl rfl (Nat.le_of_ble_eq_true rfl) (by first | decide | omega) (Nat.le_of_ble_eq_true rfl) ?_
  refine sp_kab3 ?_
  show PW _ _ _ 35 [some (.ref 54), some (.int 3), some (.int 3), some (.int xx), some (.int b), some (.int (nI d)), some (.int 3), some (.int 0)] [.int 2] (E (tr 56 435 x l) y)
  refine PW_istore (i := 6) (L2 := [some (.ref 54), some (.int 3), some (.int 3), some (.int xx), some (.int b), some (.int (nI d)), some (.int 2), some (.int 0)]) c_B_call_35 (Nat.le_of_ble_eq_true rfl) rfl rfl ?_
  refine PW_iinc (i := 7) (v := 1) (L2 := [some (.ref 54), some (.int 3), some (.int 3), some (.int xx), some (.int b), some (.int (nI d)), some (.int 2), some (.int 1)]) c_B_call_37 rfl (by decide) (Nat.le_of_ble_eq_true rfl) rfl rfl ?_
  refine PW_goto c_B_call_40 ?_
  refine PW_iload c_B_call_6 rfl ?_
  refine PW_bipush (v := 8) c_B_call_8 (by decide) ?_
  refine PW_icmp_ge c_B_call_10 (fun h3 => absurd h3 (by decide)) (fun _ => ?_)
  refine PW_iload c_B_call_13 rfl ?_
  refine PW_S0 (d2 := 0) (st := []) [.int 2] c_B_call_15 lk_B_call_18 rfl rfl rfl (Nat.le_of_ble_eq_true rfl) (by first | decide | omega) (Nat.le_of_ble_eq_true rfl) ?_
  refine sp_B_isKind  ?_
  show PW _ _ _ 18 [some (.ref 54), some (.int 3), some (.int 3), some (.int xx), some (.int b), some (.int (nI d)), some (.int 2), some (.int 1)] [.int (b2i (0 ≤ (2 : Int32) ∧ (2 : Int32) ≤ 7))] (E (tr 56 435 x l) y)
  refine PW_if_eq c_B_call_18 (fun h4 => absurd (by decide) (b2i_0.mp h4)) (fun _ => ?_)
  refine PW_iload c_B_call_21 rfl ?_
  refine PW_iload_n c_B_call_23 rfl ?_
  refine PW_S0 (d2 := 1) (st := []) [.int 2, .int 3] c_B_call_24 lk_B_call_49 rfl rfl rfl (Nat.le_of_ble_eq_true rfl) (by first | decide | omega) (Nat.le_of_ble_eq_true rfl) ?_
  refine sp_own_2_3 ?_
  show PW _ _ _ 27 [some (.ref 54), some (.int 3), some (.int 3), some (.int xx), some (.int b), some (.int (nI d)), some (.int 2), some (.int 1)] [.int 0] (E (tr 56 435 x l) y)
  refine PW_if_ne c_B_call_27 (fun h5 => absurd (by decide) h5) (fun _ => ?_)
  refine PW_iload c_B_call_30 rfl ?_
  refine PW_S0 (d2 := 0) (st := []) [.int 2] c_B_call_32 lk_B_call_22 rfl rfl rfl (Nat.le_of_ble_eq_true rfl) (by first | decide | omega) (Nat.le_of_ble_eq_true rfl) ?_
  refine sp_kab2 ?_
  show PW _ _ _ 35 [some (.ref 54), some (.int 3), some (.int 3), some (.int xx), some (.int b), some (.int (nI d)), some (.int 2), some (.int 1)] [.int 0] (E (tr 56 435 x l) y)
  refine PW_istore (i := 6) (L2 := [some (.ref 54), some (.int 3), some (.int 3), some (.int xx), some (.int b), some (.int (nI d)), some (.int 0), some (.int 1)]) c_B_call_35 (Nat.le_of_ble_eq_true rfl) rfl rfl ?_
  refine PW_iinc (i := 7) (v := 2) (L2 := [some (.ref 54), some (.int 3), some (.int 3), some (.int xx), some (.int b), some (.int (nI d)), some (.int 0), some (.int 2)]) c_B_call_37 rfl (by decide) (Nat.le_of_ble_eq_true rfl) rfl rfl ?_
  refine PW_goto c_B_call_40 ?_
  refine PW_iload c_B_call_6 rfl ?_
  refine PW_bipush (v := 8) c_B_call_8 (by decide) ?_
  refine PW_icmp_ge c_B_call_10 (fun h6 => absurd h6 (by decide)) (fun _ => ?_)
  refine PW_iload c_B_call_13 rfl ?_
  refine PW_S0 (d2 := 0) (st := []) [.int 0] c_B_call_15 lk_B_call_18 rfl rfl rfl (Nat.le_of_ble_eq_true rfl) (by first | decide | omega) (Nat.le_of_ble_eq_true rfl) ?_
  refine sp_B_isKind  ?_
  show PW _ _ _ 18 [some (.ref 54), some (.int 3), some (.int 3), some (.int xx), some (.int b), some (.int (nI d)), some (.int 0), some (.int 2)] [.int (b2i (0 ≤ (0 : Int32) ∧ (0 : Int32) ≤ 7))] (E (tr 56 435 x l) y)
  refine PW_if_eq c_B_call_18 (fun h7 => absurd (by decide) (b2i_0.mp h7)) (fun _ => ?_)
  refine PW_iload c_B_call_21 rfl ?_
  refine PW_iload_n c_B_call_23 rfl ?_
  refine PW_S0 (d2 := 1) (st := []) [.int 0, .int 3] c_B_call_24 lk_B_call_49 rfl rfl rfl (Nat.le_of_ble_eq_true rfl) (by first | decide | omega) (Nat.le_of_ble_eq_true rfl) ?_
  refine sp_own_0_3 ?_
  show PW _ _ _ 27 [some (.ref 54), some (.int 3), some (.int 3), some (.int xx), some (.int b), some (.int (nI d)), some (.int 0), some (.int 2)] [.int 2] (E (tr 56 435 x l) y)
  refine PW_if_ne c_B_call_27 (fun _ => ?_) (fun h8 => absurd h8 (by decide))
  refine PW_iload c_B_call_43 rfl ?_
  refine PW_S0 (d2 := 0) (st := []) [.int 0] c_B_call_45 lk_B_call_18 rfl rfl rfl (Nat.le_of_ble_eq_true rfl) (by first | decide | omega) (Nat.le_of_ble_eq_true rfl) ?_
  refine sp_B_isKind  ?_
  show PW _ _ _ 48 [some (.ref 54), some (.int 3), some (.int 3), some (.int xx), some (.int b), some (.int (nI d)), some (.int 0), some (.int 2)] [.int (b2i (0 ≤ (0 : Int32) ∧ (0 : Int32) ≤ 7))] (E (tr 56 435 x l) y)
  refine PW_if_eq c_B_call_48 (fun h9 => absurd (by decide) (b2i_0.mp h9)) (fun _ => ?_)
  refine PW_iload c_B_call_51 rfl ?_
  refine PW_bipush (v := 30) c_B_call_53 (by decide) ?_
  refine PW_icmp_lt c_B_call_55 (fun h10 => ?_) (fun h10 => absurd ((nI_ltI (by omega) (by decide)).mpr (by omega) : nI d < nI 30) h10)
  refine PW_iload c_B_call_60 rfl ?_
  refine PW_iload_n c_B_call_62 rfl ?_
  refine PW_S0 (d2 := 1) (st := []) [.int 0, .int 3] c_B_call_63 lk_B_call_49 rfl rfl rfl (Nat.le_of_ble_eq_true rfl) (by first | decide | omega) (Nat.le_of_ble_eq_true rfl) ?_
  refine sp_own_0_3 ?_
  show PW _ _ _ 66 [some (.ref 54), some (.int 3), some (.int 3), some (.int xx), some (.int b), some (.int (nI d)), some (.int 0), some (.int 2)] [.int 2] (E (tr 56 435 x l) y)
  refine PW_istore (i := 7) (L2 := [some (.ref 54), some (.int 3), some (.int 3), some (.int xx), some (.int b), some (.int (nI d)), some (.int 0), some (.int 2)]) c_B_call_66 (Nat.le_of_ble_eq_true rfl) rfl rfl ?_
  refine PW_aload_n c_B_call_68 rfl ?_
  refine PW_iload c_B_call_69 rfl ?_
  refine PW_V0 (d2 := 0) (st := []) [.int 2] c_B_call_71 lk_B_call_53 (po_54 _ _) rfl rfl rfl (Nat.le_of_ble_eq_true rfl) (by first | decide | omega) (Nat.le_of_ble_eq_true rfl) ?_
  refine sp_note (by (try simp only [List.length_cons]); omega) ?_
  show PW _ _ _ 74 [some (.ref 54), some (.int 3), some (.int 3), some (.int xx), some (.int b), some (.int (nI d)), some (.int 0), some (.int 2)] [] (E (tr 56 435 x (2 :: l)) y)
  refine PW_iload_n c_B_call_74 rfl ?_
  refine PW_iconst (v := 2) c_B_call_75 (by decide) ?_
  refine PW_icmp_eq c_B_call_76 (fun h11 => absurd h11 (by decide)) (fun _ => ?_)
  refine PW_iload_n c_B_call_79 rfl ?_
  refine PW_iconst (v := 3) c_B_call_80 (by decide) ?_
  refine PW_icmp_ne c_B_call_81 (fun h12 => absurd (by decide) h12) (fun _ => ?_)
  refine PW_aload_n c_B_call_84 rfl ?_
  refine PW_iload c_B_call_85 rfl ?_
  refine PW_iload c_B_call_87 rfl ?_
  refine PW_S0 (d2 := 0) (st := [.int 2, .ref 54]) [.int 0] c_B_call_89 lk_B_call_22 rfl rfl rfl (Nat.le_of_ble_eq_true rfl) (by first | decide | omega) (Nat.le_of_ble_eq_true rfl) ?_
  refine sp_kab0 ?_
  show PW _ _ _ 92 [some (.ref 54), some (.int 3), some (.int 3), some (.int xx), some (.int b), some (.int (nI d)), some (.int 0), some (.int 2)] [.int (-1), .int 2, .ref 54] (E (tr 56 435 x (2 :: l)) y)
  refine PW_iload_n c_B_call_92 rfl ?_
  refine PW_iload c_B_call_93 rfl ?_
  refine PW_iload c_B_call_95 rfl ?_
  refine PW_iconst (v := 1) c_B_call_97 (by decide) ?_
  refine PW_iadd c_B_call_98 ?_
  refine PW_V0 (d2 := 12) (st := []) [.int 2, .int (-1), .int xx, .int b, .int ((nI d) + 1)] c_B_call_99 lk_B_call_57 (po_54 _ _) rfl rfl rfl (Nat.le_of_ble_eq_true rfl) (by first | decide | omega) (Nat.le_of_ble_eq_true rfl) ?_
  show PW _ _ _ 0 [some (.ref 54), some (.int 2), some (.int (-1)), some (.int xx), some (.int b), some (.int ((nI d) + 1)), none] [] (E (tr 56 435 x (2 :: l)) y)
  refine PW_aload_n c_B_runLater_0 rfl ?_
  refine PW_iload c_B_runLater_1 rfl ?_
  refine PW_V0 (d2 := 1) (st := []) [.int b] c_B_runLater_3 lk_B_runLater_42 (po_54 _ _) rfl rfl rfl (Nat.le_of_ble_eq_true rfl) (by first | decide | omega) (Nat.le_of_ble_eq_true rfl) ?_
  refine sp_kof K ?_
  show PW _ _ _ 6 [some (.ref 54), some (.int 2), some (.int (-1)), some (.int xx), some (.int b), some (.int ((nI d) + 1)), none] [.int 3] (E (tr 56 435 x (2 :: l)) y)
  refine PW_istore (i := 6) (L2 := [some (.ref 54), some (.int 2), some (.int (-1)), some (.int xx), some (.int b), some (.int ((nI d) + 1)), some (.int 3)]) c_B_runLater_6 (Nat.le_of_ble_eq_true rfl) rfl rfl ?_
  refine PW_iload_n c_B_runLater_8 rfl ?_
  refine PW_lookup (tgt := 68) c_B_runLater_9 (by decide) rfl rfl ?_
  refine PW_aload_n c_B_runLater_68 rfl ?_
  refine PW_iload c_B_runLater_69 rfl ?_
  refine PW_iconst (v := 1) c_B_runLater_71 (by decide) ?_
  refine PW_iload_n c_B_runLater_72 rfl ?_
  refine PW_iload c_B_runLater_73 rfl ?_
  refine PW_iload c_B_runLater_75 rfl ?_
  refine PW_V0 (d2 := 11) (st := []) [.int 3, .int 1, .int xx, .int b, .int ((nI d) + 1)] c_B_runLater_77 lk_B_runLater_45 (po_54 _ _) rfl rfl rfl (Nat.le_of_ble_eq_true rfl) (by first | decide | omega) (Nat.le_of_ble_eq_true rfl) ?_
  refine PW.deeper (k := (11, 0, 0, z)) (Nat.le_of_ble_eq_true rfl) (Nat.le_refl _) (Nat.le_refl _) ?_
  refine sp_call_3_3_1 K (nI_1 d) (by omega) (by (try simp only [List.length_cons]); omega) ?_
  show PW _ _ _ 80 [some (.ref 54), some (.int 2), some (.int (-1)), some (.int xx), some (.int b), some (.int ((nI d) + 1)), some (.int 3)] [.int (-(((xx + 1) + b) * 2))] (E (tr 56 435 x (1 :: 10 :: 30 :: 41 :: 2 :: l)) y)
  refine PW_aload_n c_B_runLater_80 rfl ?_
  refine PW_iload c_B_runLater_81 rfl ?_
  refine PW_iconst (v := 2) c_B_runLater_83 (by decide) ?_
  refine PW_iconst (v := 1) c_B_runLater_84 (by decide) ?_
  refine PW_iload c_B_runLater_85 rfl ?_
  refine PW_iload c_B_runLater_87 rfl ?_
  refine PW_V0 (d2 := 11) (st := [.int (-(((xx + 1) + b) * 2))]) [.int 3, .int 2, .int 1, .int b, .int ((nI d) + 1)] c_B_runLater_89 lk_B_runLater_45 (po_54 _ _) rfl rfl rfl (Nat.le_of_ble_eq_true rfl) (by first | decide | omega) (Nat.le_of_ble_eq_true rfl) ?_
  refine PW.deeper (k := (7, 0, 0, z)) (Nat.le_of_ble_eq_true rfl) (Nat.le_refl _) (Nat.le_refl _) ?_
  refine sp_call_3_3_2 K (nI_1 d) (by omega) (by (try simp only [List.length_cons]); omega) ?_
  show PW _ _ _ 92 [some (.ref 54), some (.int 2), some (.int (-1)), some (.int xx), some (.int b), some (.int ((nI d) + 1)), some (.int 3)] [.int (((1 : Int32) ^^^ b) * 3), .int (-(((xx + 1) + b) * 2))] (E (tr 56 435 x (11 :: 40 :: 1 :: 10 :: 30 :: 41 :: 2 :: l)) y)
  refine PW_isub c_B_runLater_92 ?_
  refine PW_ireturn (ty := .int) c_B_runLater_93 rfl rfl ?_
  show PW _ _ _ 102 [some (.ref 54), some (.int 3), some (.int 3), some (.int xx), some (.int b), some (.int (nI d)), some (.int 0), some (.int 2)] [.int ((-(((xx + 1) + b) * 2)) - (((1 : Int32) ^^^ b) * 3))] (E (tr 56 435 x (11 :: 40 :: 1 :: 10 :: 30 :: 41 :: 2 :: l)) y)
  refine PW_goto c_B_call_102 ?_
  refine PW_ireturn (ty := .int) c_B_call_123 rfl rfl ?_
  exact h
theorem sp_call_4_0_0 {z : ZS} {post : Option Value → List PE → Prop} {x y : XS} {l : List Int32} {b xx dp : Int32} {d : Nat} (K : kb x b 4) (ed : dp = nI d) (hd : d + 1 ≤ 30) (hl : l.length + 1 ≤ 24) (h : post (some (.int (xx + b))) (E (tr 56 435 x (1 :: l)) y)) : PW (5, 0, 0, z) m_B_call post 0 [some (.ref 54), some (.int 0), some (.int 0), some (.int xx), some (.int b), some (.int dp), none, none] [] (E (tr 56 435 x l) y) := by
  subst ed
  refine PW_iload_n c_B_call_0 rfl ?_
  refine PW_istore (i := 6) (L2 := [some (.ref 54), some (.int 0), some (.int 0), some (.int xx), some (.int b), some (.int (nI d)), some (.int 0), none]) c_B_call_1 (Nat.le_of_ble_eq_true rfl) rfl rfl ?_
  refine PW_iconst (v := 0) c_B_call_3 (by decide) ?_
  refine PW_istore (i := 7) (L2 := [some (.ref 54), some (.int 0), some (.int 0), some (.int xx), some (.int b), some (.int (nI d)), some (.int 0), some (.int 0)]) c_B_call_4 (Nat.le_of_ble_eq_true rfl) rfl rfl ?_
  refine PW_iload c_B_call_6 rfl ?_
  refine PW_bipush (v := 8) c_B_call_8 (by decide) ?_
  refine PW_icmp_ge c_B_call_10 (fun h0 => absurd h0 (by decide)) (fun _ => ?_)
  refine PW_iload c_B_call_13 rfl ?_
  refine PW_S0 (d2 := 0) (st := []) [.int 0] c_B_call_15 lk_B_call_18 rfl rfl rfl (Nat.le_of_ble_eq_true rfl) (by first | decide | omega) (Nat.le_of_ble_eq_true rfl) ?_
  refine sp_B_isKind  ?_
  show PW _ _ _ 18 [some (.ref 54), some (.int 0), some (.int 0), some (.int xx), some (.int b), some (.int (nI d)), some (.int 0), some (.int 0)] [.int (b2i (0 ≤ (0 : Int32) ∧ (0 : Int32) ≤ 7))] (E (tr 56 435 x l) y)
  refine PW_if_eq c_B_call_18 (fun h1 => absurd (by decide) (b2i_0.mp h1)) (fun _ => ?_)
  refine PW_iload c_B_call_21 rfl ?_
  refine PW_iload_n c_B_call_23 rfl ?_
  refine PW_S0 (d2 := 1) (st := []) [.int 0, .int 0] c_B_call_24 lk_B_call_49 rfl rfl rfl (Nat.le_of_ble_eq_true rfl) (by first | decide | omega) (Nat.le_of_ble_eq_true rfl) ?_
  refine sp_own_0_0 ?_
  show PW _ _ _ 27 [some (.ref 54), some (.int 0), some (.int 0), some (.int xx), some (.int b), some (.int (nI d)), some (.int 0), some (.int 0)] [.int 1] (E (tr 56 435 x l) y)
  refine PW_if_ne c_B_call_27 (fun _ => ?_) (fun h2 => absurd h2 (by decide))
  refine PW_iload c_B_call_43 rfl ?_
  refine PW_S0 (d2 := 0) (st := []) [.int 0] c_B_call_45 lk_B_call_18 rfl rfl rfl (Nat.le_of_ble_eq_true rfl) (by first | decide | omega) (Nat.le_of_ble_eq_true rfl) ?_
  refine sp_B_isKind  ?_
  show PW _ _ _ 48 [some (.ref 54), some (.int 0), some (.int 0), some (.int xx), some (.int b), some (.int (nI d)), some (.int 0), some (.int 0)] [.int (b2i (0 ≤ (0 : Int32) ∧ (0 : Int32) ≤ 7))] (E (tr 56 435 x l) y)
  refine PW_if_eq c_B_call_48 (fun h3 => absurd (by decide) (b2i_0.mp h3)) (fun _ => ?_)
  refine PW_iload c_B_call_51 rfl ?_
  refine PW_bipush (v := 30) c_B_call_53 (by decide) ?_
  refine PW_icmp_lt c_B_call_55 (fun h4 => ?_) (fun h4 => absurd ((nI_ltI (by omega) (by decide)).mpr (by omega) : nI d < nI 30) h4)
  refine PW_iload c_B_call_60 rfl ?_
  refine PW_iload_n c_B_call_62 rfl ?_
  refine PW_S0 (d2 := 1) (st := []) [.int 0, .int 0] c_B_call_63 lk_B_call_49 rfl rfl rfl (Nat.le_of_ble_eq_true rfl) (by first | decide | omega) (Nat.le_of_ble_eq_true rfl) ?_
  refine sp_own_0_0 ?_
  show PW _ _ _ 66 [some (.ref 54), some (.int 0), some (.int 0), some (.int xx), some (.int b), some (.int (nI d)), some (.int 0), some (.int 0)] [.int 1] (E (tr 56 435 x l) y)
  refine PW_istore (i := 7) (L2 := [some (.ref 54), some (.int 0), some (.int 0), some (.int xx), some (.int b), some (.int (nI d)), some (.int 0), some (.int 1)]) c_B_call_66 (Nat.le_of_ble_eq_true rfl) rfl rfl ?_
  refine PW_aload_n c_B_call_68 rfl ?_
  refine PW_iload c_B_call_69 rfl ?_
  refine PW_V0 (d2 := 0) (st := []) [.int 1] c_B_call_71 lk_B_call_53 (po_54 _ _) rfl rfl rfl (Nat.le_of_ble_eq_true rfl) (by first | decide | omega) (Nat.le_of_ble_eq_true rfl) ?_
  refine sp_note (by (try simp only [List.length_cons]); omega) ?_
  show PW _ _ _ 74 [some (.ref 54), some (.int 0), some (.int 0), some (.int xx), some (.int b), some (.int (nI d)), some (.int 0), some (.int 1)] [] (E (tr 56 435 x (1 :: l)) y)
  refine PW_iload_n c_B_call_74 rfl ?_
  refine PW_iconst (v := 2) c_B_call_75 (by decide) ?_
  refine PW_icmp_eq c_B_call_76 (fun h5 => absurd h5 (by decide)) (fun _ => ?_)
  refine PW_iload_n c_B_call_79 rfl ?_
  refine PW_iconst (v := 3) c_B_call_80 (by decide) ?_
  refine PW_icmp_ne c_B_call_81 (fun _ => ?_) (fun h6 => absurd h6 (by decide))
  refine PW_aload_n c_B_call_105 rfl ?_
  refine PW_iload c_B_call_106 rfl ?_
  refine PW_iload c_B_call_108 rfl ?_
  refine PW_S0 (d2 := 0) (st := [.int 1, .ref 54]) [.int 0] c_B_call_110 lk_B_call_22 rfl rfl rfl (Nat.le_of_ble_eq_true rfl) (by first | decide | omega) (Nat.le_of_ble_eq_true rfl) ?_
  refine sp_kab0 ?_
  show PW _ _ _ 113 [some (.ref 54), some (.int 0), some (.int 0), some (.int xx), some (.int b), some (.int (nI d)), some (.int 0), some (.int 1)] [.int (-1), .int 1, .ref 54] (E (tr 56 435 x (1 :: l)) y)
  refine PW_iload_n c_B_call_113 rfl ?_
  refine PW_iload c_B_call_114 rfl ?_
  refine PW_iload c_B_call_116 rfl ?_
  refine PW_iconst (v := 1) c_B_call_118 (by decide) ?_
  refine PW_iadd c_B_call_119 ?_
  refine PW_V0 (d2 := 4) (st := []) [.int 1, .int (-1), .int xx, .int b, .int ((nI d) + 1)] c_B_call_120 lk_B_call_60 (po_54 _ _) rfl rfl rfl (Nat.le_of_ble_eq_true rfl) (by first | decide | omega) (Nat.le_of_ble_eq_true rfl) ?_
  show PW _ _ _ 0 [some (.ref 54), some (.int 1), some (.int (-1)), some (.int xx), some (.int b), some (.int ((nI d) + 1)), none] [] (E (tr 56 435 x (1 :: l)) y)
  refine PW_aload_n c_B_runFirst_0 rfl ?_
  refine PW_iload c_B_runFirst_1 rfl ?_
  refine PW_V0 (d2 := 1) (st := []) [.int b] c_B_runFirst_3 lk_B_runFirst_42 (po_54 _ _) rfl rfl rfl (Nat.le_of_ble_eq_true rfl) (by first | decide | omega) (Nat.le_of_ble_eq_true rfl) ?_
  refine sp_kof K ?_
  show PW _ _ _ 6 [some (.ref 54), some (.int 1), some (.int (-1)), some (.int xx), some (.int b), some (.int ((nI d) + 1)), none] [.int 4] (E (tr 56 435 x (1 :: l)) y)
  refine PW_istore (i := 6) (L2 := [some (.ref 54), some (.int 1), some (.int (-1)), some (.int xx), some (.int b), some (.int ((nI d) + 1)), some (.int 4)]) c_B_runFirst_6 (Nat.le_of_ble_eq_true rfl) rfl rfl ?_
  refine PW_iload_n c_B_runFirst_8 rfl ?_
  refine PW_lookup (tgt := 84) c_B_runFirst_9 (by decide) rfl rfl ?_
  refine PW_iload_n c_B_runFirst_84 rfl ?_
  refine PW_iload c_B_runFirst_85 rfl ?_
  refine PW_iadd c_B_runFirst_87 ?_
  refine PW_ireturn (ty := .int) c_B_runFirst_88 rfl rfl ?_
  show PW _ _ _ 123 [some (.ref 54), some (.int 0), some (.int 0), some (.int xx), some (.int b), some (.int (nI d)), some (.int 0), some (.int 1)] [.int (xx + b)] (E (tr 56 435 x (1 :: l)) y)
  refine PW_ireturn (ty := .int) c_B_call_123 rfl rfl ?_
  exact h
theorem sp_call_4_4_0 {z : ZS} {post : Option Value → List PE → Prop} {x y : XS} {l : List Int32} {b xx dp : Int32} {d : Nat} (K : kb x b 4) (ed : dp = nI d) (hd : d + 2 ≤ 30) (hl : l.length + 2 ≤ 24) (h : post (some (.int ((xx + b) + 3))) (E (tr 56 435 x (1 :: 20 :: l)) y)) : PW (7, 0, 0, z) m_B_call post 0 [some (.ref 54), some (.int 4), some (.int 0), some (.int xx), some (.int b), some (.int dp), none, none] [] (E (tr 56 435 x l) y) := by
  subst ed
  refine PW_iload_n c_B_call_0 rfl ?_
  refine PW_istore (i := 6) (L2 := [some (.ref 54), some (.int 4), some (.int 0), some (.int xx), some (.int b), some (.int (nI d)), some (.int 4), none]) c_B_call_1 (Nat.le_of_ble_eq_true rfl) rfl rfl ?_
  refine PW_iconst (v := 0) c_B_call_3 (by decide) ?_
  refine PW_istore (i := 7) (L2 := [some (.ref 54), some (.int 4), some (.int 0), some (.int xx), some (.int b), some (.int (nI d)), some (.int 4), some (.int 0)]) c_B_call_4 (Nat.le_of_ble_eq_true rfl) rfl rfl ?_
  refine PW_iload c_B_call_6 rfl ?_
  refine PW_bipush (v := 8) c_B_call_8 (by decide) ?_
  refine PW_icmp_ge c_B_call_10 (fun h0 => absurd h0 (by decide)) (fun _ => ?_)
  refine PW_iload c_B_call_13 rfl ?_
  refine PW_S0 (d2 := 0) (st := []) [.int 4] c_B_call_15 lk_B_call_18 rfl rfl rfl (Nat.le_of_ble_eq_true rfl) (by first | decide | omega) (Nat.le_of_ble_eq_true rfl) ?_
  refine sp_B_isKind  ?_
  show PW _ _ _ 18 [some (.ref 54), some (.int 4), some (.int 0), some (.int xx), some (.int b), some (.int (nI d)), some (.int 4), some (.int 0)] [.int (b2i (0 ≤ (4 : Int32) ∧ (4 : Int32) ≤ 7))] (E (tr 56 435 x l) y)
  refine PW_if_eq c_B_call_18 (fun h1 => absurd (by decide) (b2i_0.mp h1)) (fun _ => ?_)
  refine PW_iload c_B_call_21 rfl ?_
  refine PW_iload_n c_B_call_23 rfl ?_
  refine PW_S0 (d2 := 1) (st := []) [.int 4, .int 0] c_B_call_24 lk_B_call_49 rfl rfl rfl (Nat.le_of_ble_eq_true rfl) (by first | decide | omega) (Nat.le_of_ble_eq_true rfl) ?_
  refine sp_own_4_0 ?_
  show PW _ _ _ 27 [some (.ref 54), some (.int 4), some (.int 0), some (.int xx), some (.int b), some (.int (nI d)), some (.int 4), some (.int 0)] [.int 0] (E (tr 56 435 x l) y)
  refine PW_if_ne c_B_call_27 (fun h2 => absurd (by decide) h2) (fun _ => ?_)
  refine PW_iload c_B_call_30 rfl ?_
  refine PW_S0 (d2 := 0) (st := []) [.int 4] c_B_call_32 lk_B_call_22 rfl rfl rfl (Nat.le_of_ble_eq_true rfl) (by first | decide | omega) (Nat.le_of_ble_eq_true rfl) ?_
  refine sp_kab4 ?_
  show PW _ _ _ 35 [some (.ref 54), some (.int 4), some (.int 0), some (.int xx), some (.int b), some (.int (nI d)), some (.int 4), some (.int 0)] [.int 1] (E (tr 56 435 x l) y)
  refine PW_istore (i := 6) (L2 := [some (.ref 54), some (.int 4), some (.int 0), some (.int xx), some (.int b), some (.int (nI d)), some (.int 1), some (.int 0)]) c_B_call_35 (Nat.le_of_ble_eq_true rfl) rfl rfl ?_
  refine PW_iinc (i := 7) (v := 1) (L2 := [some (.ref 54), some (.int 4), some (.int 0), some (.int xx), some (.int b), some (.int (nI d)), some (.int 1), some (.int 1)]) c_B_call_37 rfl (by decide) (Nat.le_of_ble_eq_true rfl) rfl rfl ?_
  refine PW_goto c_B_call_40 ?_
  refine PW_iload c_B_call_6 rfl ?_
  refine PW_bipush (v := 8) c_B_call_8 (by decide) ?_
  refine PW_icmp_ge c_B_call_10 (fun h3 => absurd h3 (by decide)) (fun _ => ?_)
  refine PW_iload c_B_call_13 rfl ?_
  refine PW_S0 (d2 := 0) (st := []) [.int 1] c_B_call_15 lk_B_call_18 rfl rfl rfl (Nat.le_of_ble_eq_true rfl) (by first | decide | omega) (Nat.le_of_ble_eq_true rfl) ?_
  refine sp_B_isKind  ?_
  show PW _ _ _ 18 [some (.ref 54), some (.int 4), some (.int 0), some (.int xx), some (.int b), some (.int (nI d)), some (.int 1), some (.int 1)] [.int (b2i (0 ≤ (1 : Int32) ∧ (1 : Int32) ≤ 7))] (E (tr 56 435 x l) y)
  refine PW_if_eq c_B_call_18 (fun h4 => absurd (by decide) (b2i_0.mp h4)) (fun _ => ?_)
  refine PW_iload c_B_call_21 rfl ?_
  refine PW_iload_n c_B_call_23 rfl ?_
  refine PW_S0 (d2 := 1) (st := []) [.int 1, .int 0] c_B_call_24 lk_B_call_49 rfl rfl rfl (Nat.le_of_ble_eq_true rfl) (by first | decide | omega) (Nat.le_of_ble_eq_true rfl) ?_
  refine sp_own_1_0 ?_
  show PW _ _ _ 27 [some (.ref 54), some (.int 4), some (.int 0), some (.int xx), some (.int b), some (.int (nI d)), some (.int 1), some (.int 1)] [.int 20] (E (tr 56 435 x l) y)
  refine PW_if_ne c_B_call_27 (fun _ => ?_) (fun h5 => absurd h5 (by decide))
  refine PW_iload c_B_call_43 rfl ?_
  refine PW_S0 (d2 := 0) (st := []) [.int 1] c_B_call_45 lk_B_call_18 rfl rfl rfl (Nat.le_of_ble_eq_true rfl) (by first | decide | omega) (Nat.le_of_ble_eq_true rfl) ?_
  refine sp_B_isKind  ?_
  show PW _ _ _ 48 [some (.ref 54), some (.int 4), some (.int 0), some (.int xx), some (.int b), some (.int (nI d)), some (.int 1), some (.int 1)] [.int (b2i (0 ≤ (1 : Int32) ∧ (1 : Int32) ≤ 7))] (E (tr 56 435 x l) y)
  refine PW_if_eq c_B_call_48 (fun h6 => absurd (by decide) (b2i_0.mp h6)) (fun _ => ?_)
  refine PW_iload c_B_call_51 rfl ?_
  refine PW_bipush (v := 30) c_B_call_53 (by decide) ?_
  refine PW_icmp_lt c_B_call_55 (fun h7 => ?_) (fun h7 => absurd ((nI_ltI (by omega) (by decide)).mpr (by omega) : nI d < nI 30) h7)
  refine PW_iload c_B_call_60 rfl ?_
  refine PW_iload_n c_B_call_62 rfl ?_
  refine PW_S0 (d2 := 1) (st := []) [.int 1, .int 0] c_B_call_63 lk_B_call_49 rfl rfl rfl (Nat.le_of_ble_eq_true rfl) (by first | decide | omega) (Nat.le_of_ble_eq_true rfl) ?_
  refine sp_own_1_0 ?_
  show PW _ _ _ 66 [some (.ref 54), some (.int 4), some (.int 0), some (.int xx), some (.int b), some (.int (nI d)), some (.int 1), some (.int 1)] [.int 20] (E (tr 56 435 x l) y)
  refine PW_istore (i := 7) (L2 := [some (.ref 54), some (.int 4), some (.int 0), some (.int xx), some (.int b), some (.int (nI d)), some (.int 1), some (.int 20)]) c_B_call_66 (Nat.le_of_ble_eq_true rfl) rfl rfl ?_
  refine PW_aload_n c_B_call_68 rfl ?_
  refine PW_iload c_B_call_69 rfl ?_
  refine PW_V0 (d2 := 0) (st := []) [.int 20] c_B_call_71 lk_B_call_53 (po_54 _ _) rfl rfl rfl (Nat.le_of_ble_eq_true rfl) (by first | decide | omega) (Nat.le_of_ble_eq_true rfl) ?_
  refine sp_note (by (try simp only [List.length_cons]); omega) ?_
  show PW _ _ _ 74 [some (.ref 54), some (.int 4), some (.int 0), some (.int xx), some (.int b), some (.int (nI d)), some (.int 1), some (.int 20)] [] (E (tr 56 435 x (20 :: l)) y)
  refine PW_iload_n c_B_call_74 rfl ?_
  refine PW_iconst (v := 2) c_B_call_75 (by decide) ?_
  refine PW_icmp_eq c_B_call_76 (fun h8 => absurd h8 (by decide)) (fun _ => ?_)
  refine PW_iload_n c_B_call_79 rfl ?_
  refine PW_iconst (v := 3) c_B_call_80 (by decide) ?_
  refine PW_icmp_ne c_B_call_81 (fun _ => ?_) (fun h9 => absurd h9 (by decide))
  refine PW_aload_n c_B_call_105 rfl ?_
  refine PW_iload c_B_call_106 rfl ?_
  refine PW_iload c_B_call_108 rfl ?_
  refine PW_S0 (d2 := 0) (st := [.int 20, .ref 54]) [.int 1] c_B_call_110 lk_B_call_22 rfl rfl rfl (Nat.le_of_ble_eq_true rfl) (by first | decide | omega) (Nat.le_of_ble_eq_true rfl) ?_
  refine sp_kab1 ?_
  show PW _ _ _ 113 [some (.ref 54), some (.int 4), some (.int 0), some (.int xx), some (.int b), some (.int (nI d)), some (.int 1), some (.int 20)] [.int 0, .int 20, .ref 54] (E (tr 56 435 x (20 :: l)) y)
  refine PW_iload_n c_B_call_113 rfl ?_
  refine PW_iload c_B_call_114 rfl ?_
  refine PW_iload c_B_call_116 rfl ?_
  refine PW_iconst (v := 1) c_B_call_118 (by decide) ?_
  refine PW_iadd c_B_call_119 ?_
  refine PW_V0 (d2 := 6) (st := []) [.int 20, .int 0, .int xx, .int b, .int ((nI d) + 1)] c_B_call_120 lk_B_call_60 (po_54 _ _) rfl rfl rfl (Nat.le_of_ble_eq_true rfl) (by first | decide | omega) (Nat.le_of_ble_eq_true rfl) ?_
  show PW _ _ _ 0 [some (.ref 54), some (.int 20), some (.int 0), some (.int xx), some (.int b), some (.int ((nI d) + 1)), none] [] (E (tr 56 435 x (20 :: l)) y)
  refine PW_aload_n c_B_runFirst_0 rfl ?_
  refine PW_iload c_B_runFirst_1 rfl ?_
  refine PW_V0 (d2 := 1) (st := []) [.int b] c_B_runFirst_3 lk_B_runFirst_42 (po_54 _ _) rfl rfl rfl (Nat.le_of_ble_eq_true rfl) (by first | decide | omega) (Nat.le_of_ble_eq_true rfl) ?_
  refine sp_kof K ?_
  show PW _ _ _ 6 [some (.ref 54), some (.int 20), some (.int 0), some (.int xx), some (.int b), some (.int ((nI d) + 1)), none] [.int 4] (E (tr 56 435 x (20 :: l)) y)
  refine PW_istore (i := 6) (L2 := [some (.ref 54), some (.int 20), some (.int 0), some (.int xx), some (.int b), some (.int ((nI d) + 1)), some (.int 4)]) c_B_runFirst_6 (Nat.le_of_ble_eq_true rfl) rfl rfl ?_
  refine PW_iload_n c_B_runFirst_8 rfl ?_
  refine PW_lookup (tgt := 104) c_B_runFirst_9 (by decide) rfl rfl ?_
  refine PW_aload_n c_B_runFirst_104 rfl ?_
  refine PW_iload_n c_B_runFirst_105 rfl ?_
  refine PW_iconst (v := 0) c_B_runFirst_106 (by decide) ?_
  refine PW_iload_n c_B_runFirst_107 rfl ?_
  refine PW_iload c_B_runFirst_108 rfl ?_
  refine PW_iload c_B_runFirst_110 rfl ?_
  refine PW_V0 (d2 := 5) (st := []) [.int 0, .int 0, .int xx, .int b, .int ((nI d) + 1)] c_B_runFirst_112 lk_B_runFirst_45 (po_54 _ _) rfl rfl rfl (Nat.le_of_ble_eq_true rfl) (by first | decide | omega) (Nat.le_of_ble_eq_true rfl) ?_
  refine PW.deeper (k := (5, 0, 0, z)) (Nat.le_of_ble_eq_true rfl) (Nat.le_refl _) (Nat.le_refl _) ?_
  refine sp_call_4_0_0 K (nI_1 d) (by omega) (by (try simp only [List.length_cons]); omega) ?_
  show PW _ _ _ 115 [some (.ref 54), some (.int 20), some (.int 0), some (.int xx), some (.int b), some (.int ((nI d) + 1)), some (.int 4)] [.int (xx + b)] (E (tr 56 435 x (1 :: 20 :: l)) y)
  refine PW_iconst (v := 3) c_B_runFirst_115 (by decide) ?_
  refine PW_iadd c_B_runFirst_116 ?_
  refine PW_ireturn (ty := .int) c_B_runFirst_117 rfl rfl ?_
  show PW _ _ _ 123 [some (.ref 54), some (.int 4), some (.int 0), some (.int xx), some (.int b), some (.int (nI d)), some (.int 1), some (.int 20)] [.int ((xx + b) + 3)] (E (tr 56 435 x (1 :: 20 :: l)) y)
  refine PW_ireturn (ty := .int) c_B_call_123 rfl rfl ?_
  exact h
theorem sp_call_4_4_1 {z : ZS} {post : Option Value → List PE → Prop} {x y : XS} {l : List Int32} {b xx dp : Int32} {d : Nat} (K : kb x b 4) (ed : dp = nI d) (hd : d + 3 ≤ 30) (hl : l.length + 3 ≤ 24) (h : post (some (.int (((xx + b) + 3) * 2))) (E (tr 56 435 x (1 :: 20 :: 10 :: l)) y)) : PW (9, 0, 0, z) m_B_call post 0 [some (.ref 54), some (.int 4), some (.int 1), some (.int xx), some (.int b), some (.int dp), none, none] [] (E (tr 56 435 x l) y) := by
  subst ed
  refine PW_iload_n c_B_call_0 rfl ?_
  refine PW_istore (i := 6) (L2 := [some (.ref 54), some (.int 4), some (.int 1), some (.int xx), some (.int b), some (.int (nI d)), some (.int 4), none]) c_B_call_1 (Nat.le_of_ble_eq_true rfl) rfl rfl ?_
  refine PW_iconst (v := 0) c_B_call_3 (by decide) ?_
  refine PW_istore (i := 7) (L2 := [some (.ref 54), some (.int 4), some (.int 1), some (.int xx), some (.int b), some (.int (nI d)), some (.int 4), some (.int 0)]) c_B_call_4 (Nat.le_of_ble_eq_true rfl) rfl rfl ?_
  refine PW_iload c_B_call_6 rfl ?_
  refine PW_bipush (v := 8) c_B_call_8 (by decide) ?_
  refine PW_icmp_ge c_B_call_10 (fun h0 => absurd h0 (by decide)) (fun _ => ?_)
  refine PW_iload c_B_call_13 rfl ?_
  refine PW_S0 (d2 := 0) (st := []) [.int 4] c_B_call_15 lk_B_call_18 rfl rfl rfl (Nat.le_of_ble_eq_true rfl) (by first | decide | omega) (Nat.le_of_ble_eq_true rfl) ?_
  refine sp_B_isKind  ?_
  show PW _ _ _ 18 [some (.ref 54), some (.int 4), some (.int 1), some (.int xx), some (.int b), some (.int (nI d)), some (.int 4), some (.int 0)] [.int (b2i (0 ≤ (4 : Int32) ∧ (4 : Int32) ≤ 7))] (E (tr 56 435 x l) y)
  refine PW_if_eq c_B_call_18 (fun h1 => absurd (by decide) (b2i_0.mp h1)) (fun _ => ?_)
  refine PW_iload c_B_call_21 rfl ?_
  refine PW_iload_n c_B_call_23 rfl ?_
  refine PW_S0 (d2 := 1) (st := []) [.int 4, .int 1] c_B_call_24 lk_B_call_49 rfl rfl rfl (Nat.le_of_ble_eq_true rfl) (by first | decide | omega) (Nat.le_of_ble_eq_true rfl) ?_
  refine sp_own_4_1 ?_
  show PW _ _ _ 27 [some (.ref 54), some (.int 4), some (.int 1), some (.int xx), some (.int b), some (.int (nI d)), some (.int 4), some (.int 0)] [.int 0] (E (tr 56 435 x l) y)
  refine PW_if_ne c_B_call_27 (fun h2 => absurd (by decide) h2) (fun _ => ?_)
  refine PW_iload c_B_call_30 rfl ?_
  refine PW_S0 (d2 := 0) (st := []) [.int 4] c_B_call_32 lk_B_call_22 rfl rfl rfl (Nat.le_of_ble_eq_true rfl) (by first | decide | omega) (Nat.le_of_ble_eq_true rfl) ?_
  refine sp_kab4 ?_
  show PW _ _ _ 35 [some (.ref 54), some (.int 4), some (.int 1), some (.int xx), some (.int b), some (.int (nI d)), some (.int 4), some (.int 0)] [.int 1] (E (tr 56 435 x l) y)
  refine PW_istore (i := 6) (L2 := [some (.ref 54), some (.int 4), some (.int 1), some (.int xx), some (.int b), some (.int (nI d)), some (.int 1), some (.int 0)]) c_B_call_35 (Nat.le_of_ble_eq_true rfl) rfl rfl ?_
  refine PW_iinc (i := 7) (v := 1) (L2 := [some (.ref 54), some (.int 4), some (.int 1), some (.int xx), some (.int b), some (.int (nI d)), some (.int 1), some (.int 1)]) c_B_call_37 rfl (by decide) (Nat.le_of_ble_eq_true rfl) rfl rfl ?_
  refine PW_goto c_B_call_40 ?_
  refine PW_iload c_B_call_6 rfl ?_
  refine PW_bipush (v := 8) c_B_call_8 (by decide) ?_
  refine PW_icmp_ge c_B_call_10 (fun h3 => absurd h3 (by decide)) (fun _ => ?_)
  refine PW_iload c_B_call_13 rfl ?_
  refine PW_S0 (d2 := 0) (st := []) [.int 1] c_B_call_15 lk_B_call_18 rfl rfl rfl (Nat.le_of_ble_eq_true rfl) (by first | decide | omega) (Nat.le_of_ble_eq_true rfl) ?_
  refine sp_B_isKind  ?_
  show PW _ _ _ 18 [some (.ref 54), some (.int 4), some (.int 1), some (.int xx), some (.int b), some (.int (nI d)), some (.int 1), some (.int 1)] [.int (b2i (0 ≤ (1 : Int32) ∧ (1 : Int32) ≤ 7))] (E (tr 56 435 x l) y)
  refine PW_if_eq c_B_call_18 (fun h4 => absurd (by decide) (b2i_0.mp h4)) (fun _ => ?_)
  refine PW_iload c_B_call_21 rfl ?_
  refine PW_iload_n c_B_call_23 rfl ?_
  refine PW_S0 (d2 := 1) (st := []) [.int 1, .int 1] c_B_call_24 lk_B_call_49 rfl rfl rfl (Nat.le_of_ble_eq_true rfl) (by first | decide | omega) (Nat.le_of_ble_eq_true rfl) ?_
  refine sp_own_1_1 ?_
  show PW _ _ _ 27 [some (.ref 54), some (.int 4), some (.int 1), some (.int xx), some (.int b), some (.int (nI d)), some (.int 1), some (.int 1)] [.int 0] (E (tr 56 435 x l) y)
  refine PW_if_ne c_B_call_27 (fun h5 => absurd (by decide) h5) (fun _ => ?_)
  refine PW_iload c_B_call_30 rfl ?_
  refine PW_S0 (d2 := 0) (st := []) [.int 1] c_B_call_32 lk_B_call_22 rfl rfl rfl (Nat.le_of_ble_eq_true rfl) (by first | decide | omega) (Nat.le_of_ble_eq_true rfl) ?_
  refine sp_kab1 ?_
  show PW _ _ _ 35 [some (.ref 54), some (.int 4), some (.int 1), some (.int xx), some (.int b), some (.int (nI d)), some (.int 1), some (.int 1)] [.int 0] (E (tr 56 435 x l) y)
  refine PW_istore (i := 6) (L2 := [some (.ref 54), some (.int 4), some (.int 1), some (.int xx), some (.int b), some (.int (nI d)), some (.int 0), some (.int 1)]) c_B_call_35 (Nat.le_of_ble_eq_true rfl) rfl rfl ?_
  refine PW_iinc (i := 7) (v := 2) (L2 := [some (.ref 54), some (.int 4), some (.int 1), some (.int xx), some (.int b), some (.int (nI d)), some (.int 0), some (.int 2)]) c_B_call_37 rfl (by decide) (Nat.le_of_ble_eq_true rfl) rfl rfl ?_
  refine PW_goto c_B_call_40 ?_
  refine PW_iload c_B_call_6 rfl ?_
  refine PW_bipush (v := 8) c_B_call_8 (by decide) ?_
  refine PW_icmp_ge c_B_call_10 (fun h6 => absurd h6 (by decide)) (fun _ => ?_)
  refine PW_iload c_B_call_13 rfl ?_
  refine PW_S0 (d2 := 0) (st := []) [.int 0] c_B_call_15 lk_B_call_18 rfl rfl rfl (Nat.le_of_ble_eq_true rfl) (by first | decide | omega) (Nat.le_of_ble_eq_true rfl) ?_
  refine sp_B_isKind  ?_
  show PW _ _ _ 18 [some (.ref 54), some (.int 4), some (.int 1), some (.int xx), some (.int b), some (.int (nI d)), some (.int 0), some (.int 2)] [.int (b2i (0 ≤ (0 : Int32) ∧ (0 : Int32) ≤ 7))] (E (tr 56 435 x l) y)
  refine PW_if_eq c_B_call_18 (fun h7 => absurd (by decide) (b2i_0.mp h7)) (fun _ => ?_)
  refine PW_iload c_B_call_21 rfl ?_
  refine PW_iload_n c_B_call_23 rfl ?_
  refine PW_S0 (d2 := 1) (st := []) [.int 0, .int 1] c_B_call_24 lk_B_call_49 rfl rfl rfl (Nat.le_of_ble_eq_true rfl) (by first | decide | omega) (Nat.le_of_ble_eq_true rfl) ?_
  refine sp_own_0_1 ?_
  show PW _ _ _ 27 [some (.ref 54), some (.int 4), some (.int 1), some (.int xx), some (.int b), some (.int (nI d)), some (.int 0), some (.int 2)] [.int 10] (E (tr 56 435 x l) y)
  refine PW_if_ne c_B_call_27 (fun _ => ?_) (fun h8 => absurd h8 (by decide))
  refine PW_iload c_B_call_43 rfl ?_
  refine PW_S0 (d2 := 0) (st := []) [.int 0] c_B_call_45 lk_B_call_18 rfl rfl rfl (Nat.le_of_ble_eq_true rfl) (by first | decide | omega) (Nat.le_of_ble_eq_true rfl) ?_
  refine sp_B_isKind  ?_
  show PW _ _ _ 48 [some (.ref 54), some (.int 4), some (.int 1), some (.int xx), some (.int b), some (.int (nI d)), some (.int 0), some (.int 2)] [.int (b2i (0 ≤ (0 : Int32) ∧ (0 : Int32) ≤ 7))] (E (tr 56 435 x l) y)
  refine PW_if_eq c_B_call_48 (fun h9 => absurd (by decide) (b2i_0.mp h9)) (fun _ => ?_)
  refine PW_iload c_B_call_51 rfl ?_
  refine PW_bipush (v := 30) c_B_call_53 (by decide) ?_
  refine PW_icmp_lt c_B_call_55 (fun h10 => ?_) (fun h10 => absurd ((nI_ltI (by omega) (by decide)).mpr (by omega) : nI d < nI 30) h10)
  refine PW_iload c_B_call_60 rfl ?_
  refine PW_iload_n c_B_call_62 rfl ?_
  refine PW_S0 (d2 := 1) (st := []) [.int 0, .int 1] c_B_call_63 lk_B_call_49 rfl rfl rfl (Nat.le_of_ble_eq_true rfl) (by first | decide | omega) (Nat.le_of_ble_eq_true rfl) ?_
  refine sp_own_0_1 ?_
  show PW _ _ _ 66 [some (.ref 54), some (.int 4), some (.int 1), some (.int xx), some (.int b), some (.int (nI d)), some (.int 0), some (.int 2)] [.int 10] (E (tr 56 435 x l) y)
  refine PW_istore (i := 7) (L2 := [some (.ref 54), some (.int 4), some (.int 1), some (.int xx), some (.int b), some (.int (nI d)), some (.int 0), some (.int 10)]) c_B_call_66 (Nat.le_of_ble_eq_true rfl) rfl rfl ?_
  refine PW_aload_n c_B_call_68 rfl ?_
  refine PW_iload c_B_call_69 rfl ?_
  refine PW_V0 (d2 := 0) (st := []) [.int 10] c_B_call_71 lk_B_call_53 (po_54 _ _) rfl rfl rfl (Nat.le_of_ble_eq_true rfl) (by first | decide | omega) (Nat.le_of_ble_eq_true rfl) ?_
  refine sp_note (by (try simp only [List.length_cons]); omega) ?_
  show PW _ _ _ 74 [some (.ref 54), some (.int 4), some (.int 1), some (.int xx), some (.int b), some (.int (nI d)), some (.int 0), some (.int 10)] [] (E (tr 56 435 x (10 :: l)) y)
  refine PW_iload_n c_B_call_74 rfl ?_
  refine PW_iconst (v := 2) c_B_call_75 (by decide) ?_
  refine PW_icmp_eq c_B_call_76 (fun h11 => absurd h11 (by decide)) (fun _ => ?_)
  refine PW_iload_n c_B_call_79 rfl ?_
  refine PW_iconst (v := 3) c_B_call_80 (by decide) ?_
  refine PW_icmp_ne c_B_call_81 (fun _ => ?_) (fun h12 => absurd h12 (by decide))
  refine PW_aload_n c_B_call_105 rfl ?_
  refine PW_iload c_B_call_106 rfl ?_
  refine PW_iload c_B_call_108 rfl ?_
  refine PW_S0 (d2 := 0) (st := [.int 10, .ref 54]) [.int 0] c_B_call_110 lk_B_call_22 rfl rfl rfl (Nat.le_of_ble_eq_true rfl) (by first | decide | omega) (Nat.le_of_ble_eq_true rfl) ?_
  refine sp_kab0 ?_
  show PW _ _ _ 113 [some (.ref 54), some (.int 4), some (.int 1), some (.int xx), some (.int b), some (.int (nI d)), some (.int 0), some (.int 10)] [.int (-1), .int 10, .ref 54] (E (tr 56 435 x (10 :: l)) y)
  refine PW_iload_n c_B_call_113 rfl ?_
  refine PW_iload c_B_call_114 rfl ?_
  refine PW_iload c_B_call_116 rfl ?_
  refine PW_iconst (v := 1) c_B_call_118 (by decide) ?_
  refine PW_iadd c_B_call_119 ?_
  refine PW_V0 (d2 := 8) (st := []) [.int 10, .int (-1), .int xx, .int b, .int ((nI d) + 1)] c_B_call_120 lk_B_call_60 (po_54 _ _) rfl rfl rfl (Nat.le_of_ble_eq_true rfl) (by first | decide | omega) (Nat.le_of_ble_eq_true rfl) ?_
  show PW _ _ _ 0 [some (.ref 54), some (.int 10), some (.int (-1)), some (.int xx), some (.int b), some (.int ((nI d) + 1)), none] [] (E (tr 56 435 x (10 :: l)) y)
  refine PW_aload_n c_B_runFirst_0 rfl ?_
  refine PW_iload c_B_runFirst_1 rfl ?_
  refine PW_V0 (d2 := 1) (st := []) [.int b] c_B_runFirst_3 lk_B_runFirst_42 (po_54 _ _) rfl rfl rfl (Nat.le_of_ble_eq_true rfl) (by first | decide | omega) (Nat.le_of_ble_eq_true rfl) ?_
  refine sp_kof K ?_
  show PW _ _ _ 6 [some (.ref 54), some (.int 10), some (.int (-1)), some (.int xx), some (.int b), some (.int ((nI d) + 1)), none] [.int 4] (E (tr 56 435 x (10 :: l)) y)
  refine PW_istore (i := 6) (L2 := [some (.ref 54), some (.int 10), some (.int (-1)), some (.int xx), some (.int b), some (.int ((nI d) + 1)), some (.int 4)]) c_B_runFirst_6 (Nat.le_of_ble_eq_true rfl) rfl rfl ?_
  refine PW_iload_n c_B_runFirst_8 rfl ?_
  refine PW_lookup (tgt := 89) c_B_runFirst_9 (by decide) rfl rfl ?_
  refine PW_aload_n c_B_runFirst_89 rfl ?_
  refine PW_iload c_B_runFirst_90 rfl ?_
  refine PW_iconst (v := 0) c_B_runFirst_92 (by decide) ?_
  refine PW_iload_n c_B_runFirst_93 rfl ?_
  refine PW_iload c_B_runFirst_94 rfl ?_
  refine PW_iload c_B_runFirst_96 rfl ?_
  refine PW_V0 (d2 := 7) (st := []) [.int 4, .int 0, .int xx, .int b, .int ((nI d) + 1)] c_B_runFirst_98 lk_B_runFirst_45 (po_54 _ _) rfl rfl rfl (Nat.le_of_ble_eq_true rfl) (by first | decide | omega) (Nat.le_of_ble_eq_true rfl) ?_
  refine PW.deeper (k := (7, 0, 0, z)) (Nat.le_of_ble_eq_true rfl) (Nat.le_refl _) (Nat.le_refl _) ?_
  refine sp_call_4_4_0 K (nI_1 d) (by omega) (by (try simp only [List.length_cons]); omega) ?_
  show PW _ _ _ 101 [some (.ref 54), some (.int 10), some (.int (-1)), some (.int xx), some (.int b), some (.int ((nI d) + 1)), some (.int 4)] [.int ((xx + b) + 3)] (E (tr 56 435 x (1 :: 20 :: 10 :: l)) y)
  refine PW_iconst (v := 2) c_B_runFirst_101 (by decide) ?_
  refine PW_imul c_B_runFirst_102 ?_
  refine PW_ireturn (ty := .int) c_B_runFirst_103 rfl rfl ?_
  show PW _ _ _ 123 [some (.ref 54), some (.int 4), some (.int 1), some (.int xx), some (.int b), some (.int (nI d)), some (.int 0), some (.int 10)] [.int (((xx + b) + 3) * 2)] (E (tr 56 435 x (1 :: 20 :: 10 :: l)) y)
  refine PW_ireturn (ty := .int) c_B_call_123 rfl rfl ?_
  exact h
theorem sp_call_4_4_2 {z : ZS} {post : Option Value → List PE → Prop} {x y : XS} {l : List Int32} {b xx dp : Int32} {d : Nat} (K : kb x b 4) (ed : dp = nI d) (hd : d + 1 ≤ 30) (hl : l.length + 1 ≤ 24) (h : post (some (.int (xx ^^^ b))) (E (tr 56 435 x (11 :: l)) y)) : PW (5, 0, 0, z) m_B_call post 0 [some (.ref 54), some (.int 4), some (.int 2), some (.int xx), some (.int b), some (.int dp), none, none] [] (E (tr 56 435 x l) y) := by
  subst ed
  refine PW_iload_n c_B_call_0 rfl ?_
  refine PW_istore (i := 6) (L2 := [some (.ref 54), some (.int 4), some (.int 2), some (.int xx), some (.int b), some (.int (nI d)), some (.int 4), none]) c_B_call_1 (Nat.le_of_ble_eq_true rfl) rfl rfl ?_
  refine PW_iconst (v := 0) c_B_call_3 (by decide) ?_
  refine PW_istore (i := 7) (L2 := [some (.ref 54), some (.int 4), some (.int 2), some (.int xx), some (.int b), some (.int (nI d)), some (.int 4), some (.int 0)]) c_B_call_4 (Nat.le_of_ble_eq_true rfl) rfl rfl ?_
  refine PW_iload c_B_call_6 rfl ?_
  refine PW_bipush (v := 8) c_B_call_8 (by decide) ?_
  refine PW_icmp_ge c_B_call_10 (fun h0 => absurd h0 (by decide)) (fun _ => ?_)
  refine PW_iload c_B_call_13 rfl ?_
  refine PW_S0 (d2 := 0) (st := []) [.int 4] c_B_call_15 lk_B_call_18 rfl rfl rfl (Nat.le_of_ble_eq_true rfl) (by first | decide | omega) (Nat.le_of_ble_eq_true rfl) ?_
  refine sp_B_isKind  ?_
  show PW _ _ _ 18 [some (.ref 54), some (.int 4), some (.int 2), some (.int xx), some (.int b), some (.int (nI d)), some (.int 4), some (.int 0)] [.int (b2i (0 ≤ (4 : Int32) ∧ (4 : Int32) ≤ 7))] (E (tr 56 435 x l) y)
  refine PW_if_eq c_B_call_18 (fun h1 => absurd (by decide) (b2i_0.mp h1)) (fun _ => ?_)
  refine PW_iload c_B_call_21 rfl ?_
  refine PW_iload_n c_B_call_23 rfl ?_
  refine PW_S0 (d2 := 1) (st := []) [.int 4, .int 2] c_B_call_24 lk_B_call_49 rfl rfl rfl (Nat.le_of_ble_eq_true rfl) (by first | decide | omega) (Nat.le_of_ble_eq_true rfl) ?_
  refine sp_own_4_2 ?_
  show PW _ _ _ 27 [some (.ref 54), some (.int 4), some (.int 2), some (.int xx), some (.int b), some (.int (nI d)), some (.int 4), some (.int 0)] [.int 0] (E (tr 56 435 x l) y)
  refine PW_if_ne c_B_call_27 (fun h2 => absurd (by decide) h2) (fun _ => ?_)
  refine PW_iload c_B_call_30 rfl ?_
  refine PW_S0 (d2 := 0) (st := []) [.int 4] c_B_call_32 lk_B_call_22 rfl rfl rfl (Nat.le_of_ble_eq_true rfl) (by first | decide | omega) (Nat.le_of_ble_eq_true rfl) ?_
  refine sp_kab4 ?_
  show PW _ _ _ 35 [some (.ref 54), some (.int 4), some (.int 2), some (.int xx), some (.int b), some (.int (nI d)), some (.int 4), some (.int 0)] [.int 1] (E (tr 56 435 x l) y)
  refine PW_istore (i := 6) (L2 := [some (.ref 54), some (.int 4), some (.int 2), some (.int xx), some (.int b), some (.int (nI d)), some (.int 1), some (.int 0)]) c_B_call_35 (Nat.le_of_ble_eq_true rfl) rfl rfl ?_
  refine PW_iinc (i := 7) (v := 1) (L2 := [some (.ref 54), some (.int 4), some (.int 2), some (.int xx), some (.int b), some (.int (nI d)), some (.int 1), some (.int 1)]) c_B_call_37 rfl (by decide) (Nat.le_of_ble_eq_true rfl) rfl rfl ?_
  refine PW_goto c_B_call_40 ?_
  refine PW_iload c_B_call_6 rfl ?_
  refine PW_bipush (v := 8) c_B_call_8 (by decide) ?_
  refine PW_icmp_ge c_B_call_10 (fun h3 => absurd h3 (by decide)) (fun _ => ?_)
  refine PW_iload c_B_call_13 rfl ?_
  refine PW_S0 (d2 := 0) (st := []) [.int 1] c_B_call_15 lk_B_call_18 rfl rfl rfl (Nat.le_of_ble_eq_true rfl) (by first | decide | omega) (Nat.le_of_ble_eq_true rfl) ?_
  refine sp_B_isKind  ?_
  show PW _ _ _ 18 [some (.ref 54), some (.int 4), some (.int 2), some (.int xx), some (.int b), some (.int (nI d)), some (.int 1), some (.int 1)] [.int (b2i (0 ≤ (1 : Int32) ∧ (1 : Int32) ≤ 7))] (E (tr 56 435 x l) y)
  refine PW_if_eq c_B_call_18 (fun h4 => absurd (by decide) (b2i_0.mp h4)) (fun _ => ?_)
  refine PW_iload c_B_call_21 rfl ?_
  refine PW_iload_n c_B_call_23 rfl ?_
  refine PW_S0 (d2 := 1) (st := []) [.int 1, .int 2] c_B_call_24 lk_B_call_49 rfl rfl rfl (Nat.le_of_ble_eq_true rfl) (by first | decide | omega) (Nat.le_of_ble_eq_true rfl) ?_
  refine sp_own_1_2 ?_
  show PW _ _ _ 27 [some (.ref 54), some (.int 4), some (.int 2), some (.int xx), some (.int b), some (.int (nI d)), some (.int 1), some (.int 1)] [.int 0] (E (tr 56 435 x l) y)
  refine PW_if_ne c_B_call_27 (fun h5 => absurd (by decide) h5) (fun _ => ?_)
  refine PW_iload c_B_call_30 rfl ?_
  refine PW_S0 (d2 := 0) (st := []) [.int 1] c_B_call_32 lk_B_call_22 rfl rfl rfl (Nat.le_of_ble_eq_true rfl) (by first | decide | omega) (Nat.le_of_ble_eq_true rfl) ?_
  refine sp_kab1 ?_
  show PW _ _ _ 35 [some (.ref 54), some (.int 4), some (.int 2), some (.int xx), some (.int b), some (.int (nI d)), some (.int 1), some (.int 1)] [.int 0] (E (tr 56 435 x l) y)
  refine PW_istore (i := 6) (L2 := [some (.ref 54), some (.int 4), some (.int 2), some (.int xx), some (.int b), some (.int (nI d)), some (.int 0), some (.int 1)]) c_B_call_35 (Nat.le_of_ble_eq_true rfl) rfl rfl ?_
  refine PW_iinc (i := 7) (v := 2) (L2 := [some (.ref 54), some (.int 4), some (.int 2), some (.int xx), some (.int b), some (.int (nI d)), some (.int 0), some (.int 2)]) c_B_call_37 rfl (by decide) (Nat.le_of_ble_eq_true rfl) rfl rfl ?_
  refine PW_goto c_B_call_40 ?_
  refine PW_iload c_B_call_6 rfl ?_
  refine PW_bipush (v := 8) c_B_call_8 (by decide) ?_
  refine PW_icmp_ge c_B_call_10 (fun h6 => absurd h6 (by decide)) (fun _ => ?_)
  refine PW_iload c_B_call_13 rfl ?_
  refine PW_S0 (d2 := 0) (st := []) [.int 0] c_B_call_15 lk_B_call_18 rfl rfl rfl (Nat.le_of_ble_eq_true rfl) (by first | decide | omega) (Nat.le_of_ble_eq_true rfl) ?_
  refine sp_B_isKind  ?_
  show PW _ _ _ 18 [some (.ref 54), some (.int 4), some (.int 2), some (.int xx), some (.int b), some (.int (nI d)), some (.int 0), some (.int 2)] [.int (b2i (0 ≤ (0 : Int32) ∧ (0 : Int32) ≤ 7))] (E (tr 56 435 x l) y)
  refine PW_if_eq c_B_call_18 (fun h7 => absurd (by decide) (b2i_0.mp h7)) (fun _ => ?_)
  refine PW_iload c_B_call_21 rfl ?_
  refine PW_iload_n c_B_call_23 rfl ?_
  refine PW_S0 (d2 := 1) (st := []) [.int 0, .int 2] c_B_call_24 lk_B_call_49 rfl rfl rfl (Nat.le_of_ble_eq_true rfl) (by first | decide | omega) (Nat.le_of_ble_eq_true rfl) ?_
  refine sp_own_0_2 ?_
  show PW _ _ _ 27 [some (.ref 54), some (.int 4), some (.int 2), some (.int xx), some (.int b), some (.int (nI d)), some (.int 0), some (.int 2)] [.int 11] (E (tr 56 435 x l) y)
  refine PW_if_ne c_B_call_27 (fun _ => ?_) (fun h8 => absurd h8 (by decide))
  refine PW_iload c_B_call_43 rfl ?_
  refine PW_S0 (d2 := 0) (st := []) [.int 0] c_B_call_45 lk_B_call_18 rfl rfl rfl (Nat.le_of_ble_eq_true rfl) (by first | decide | omega) (Nat.le_of_ble_eq_true rfl) ?_
  refine sp_B_isKind  ?_
  show PW _ _ _ 48 [some (.ref 54), some (.int 4), some (.int 2), some (.int xx), some (.int b), some (.int (nI d)), some (.int 0), some (.int 2)] [.int (b2i (0 ≤ (0 : Int32) ∧ (0 : Int32) ≤ 7))] (E (tr 56 435 x l) y)
  refine PW_if_eq c_B_call_48 (fun h9 => absurd (by decide) (b2i_0.mp h9)) (fun _ => ?_)
  refine PW_iload c_B_call_51 rfl ?_
  refine PW_bipush (v := 30) c_B_call_53 (by decide) ?_
  refine PW_icmp_lt c_B_call_55 (fun h10 => ?_) (fun h10 => absurd ((nI_ltI (by omega) (by decide)).mpr (by omega) : nI d < nI 30) h10)
  refine PW_iload c_B_call_60 rfl ?_
  refine PW_iload_n c_B_call_62 rfl ?_
  refine PW_S0 (d2 := 1) (st := []) [.int 0, .int 2] c_B_call_63 lk_B_call_49 rfl rfl rfl (Nat.le_of_ble_eq_true rfl) (by first | decide | omega) (Nat.le_of_ble_eq_true rfl) ?_
  refine sp_own_0_2 ?_
  show PW _ _ _ 66 [some (.ref 54), some (.int 4), some (.int 2), some (.int xx), some (.int b), some (.int (nI d)), some (.int 0), some (.int 2)] [.int 11] (E (tr 56 435 x l) y)
  refine PW_istore (i := 7) (L2 := [some (.ref 54), some (.int 4), some (.int 2), some (.int xx), some (.int b), some (.int (nI d)), some (.int 0), some (.int 11)]) c_B_call_66 (Nat.le_of_ble_eq_true rfl) rfl rfl ?_
  refine PW_aload_n c_B_call_68 rfl ?_
  refine PW_iload c_B_call_69 rfl ?_
  refine PW_V0 (d2 := 0) (st := []) [.int 11] c_B_call_71 lk_B_call_53 (po_54 _ _) rfl rfl rfl (Nat.le_of_ble_eq_true rfl) (by first | decide | omega) (Nat.le_of_ble_eq_true rfl) ?_
  refine sp_note (by (try simp only [List.length_cons]); omega) ?_
  show PW _ _ _ 74 [some (.ref 54), some (.int 4), some (.int 2), some (.int xx), some (.int b), some (.int (nI d)), some (.int 0), some (.int 11)] [] (E (tr 56 435 x (11 :: l)) y)
  refine PW_iload_n c_B_call_74 rfl ?_
  refine PW_iconst (v := 2) c_B_call_75 (by decide) ?_
  refine PW_icmp_eq c_B_call_76 (fun _ => ?_) (fun h11 => absurd (by decide) h11)
  refine PW_aload_n c_B_call_84 rfl ?_
  refine PW_iload c_B_call_85 rfl ?_
  refine PW_iload c_B_call_87 rfl ?_
  refine PW_S0 (d2 := 0) (st := [.int 11, .ref 54]) [.int 0] c_B_call_89 lk_B_call_22 rfl rfl rfl (Nat.le_of_ble_eq_true rfl) (by first | decide | omega) (Nat.le_of_ble_eq_true rfl) ?_
  refine sp_kab0 ?_
  show PW _ _ _ 92 [some (.ref 54), some (.int 4), some (.int 2), some (.int xx), some (.int b), some (.int (nI d)), some (.int 0), some (.int 11)] [.int (-1), .int 11, .ref 54] (E (tr 56 435 x (11 :: l)) y)
  refine PW_iload_n c_B_call_92 rfl ?_
  refine PW_iload c_B_call_93 rfl ?_
  refine PW_iload c_B_call_95 rfl ?_
  refine PW_iconst (v := 1) c_B_call_97 (by decide) ?_
  refine PW_iadd c_B_call_98 ?_
  refine PW_V0 (d2 := 4) (st := []) [.int 11, .int (-1), .int xx, .int b, .int ((nI d) + 1)] c_B_call_99 lk_B_call_57 (po_54 _ _) rfl rfl rfl (Nat.le_of_ble_eq_true rfl) (by first | decide | omega) (Nat.le_of_ble_eq_true rfl) ?_
  show PW _ _ _ 0 [some (.ref 54), some (.int 11), some (.int (-1)), some (.int xx), some (.int b), some (.int ((nI d) + 1)), none] [] (E (tr 56 435 x (11 :: l)) y)
  refine PW_aload_n c_B_runLater_0 rfl ?_
  refine PW_iload c_B_runLater_1 rfl ?_
  refine PW_V0 (d2 := 1) (st := []) [.int b] c_B_runLater_3 lk_B_runLater_42 (po_54 _ _) rfl rfl rfl (Nat.le_of_ble_eq_true rfl) (by first | decide | omega) (Nat.le_of_ble_eq_true rfl) ?_
  refine sp_kof K ?_
  show PW _ _ _ 6 [some (.ref 54), some (.int 11), some (.int (-1)), some (.int xx), some (.int b), some (.int ((nI d) + 1)), none] [.int 4] (E (tr 56 435 x (11 :: l)) y)
  refine PW_istore (i := 6) (L2 := [some (.ref 54), some (.int 11), some (.int (-1)), some (.int xx), some (.int b), some (.int ((nI d) + 1)), some (.int 4)]) c_B_runLater_6 (Nat.le_of_ble_eq_true rfl) rfl rfl ?_
  refine PW_iload_n c_B_runLater_8 rfl ?_
  refine PW_lookup (tgt := 94) c_B_runLater_9 (by decide) rfl rfl ?_
  refine PW_iload_n c_B_runLater_94 rfl ?_
  refine PW_iload c_B_runLater_95 rfl ?_
  refine PW_ixor c_B_runLater_97 ?_
  refine PW_ireturn (ty := .int) c_B_runLater_98 rfl rfl ?_
  show PW _ _ _ 102 [some (.ref 54), some (.int 4), some (.int 2), some (.int xx), some (.int b), some (.int (nI d)), some (.int 0), some (.int 11)] [.int (xx ^^^ b)] (E (tr 56 435 x (11 :: l)) y)
  refine PW_goto c_B_call_102 ?_
  refine PW_ireturn (ty := .int) c_B_call_123 rfl rfl ?_
  exact h
theorem sp_call_4_1_3 {z : ZS} {post : Option Value → List PE → Prop} {x y : XS} {l : List Int32} {b xx dp : Int32} {d : Nat} (K : kb x b 4) (ed : dp = nI d) (hd : d + 4 ≤ 30) (hl : l.length + 5 ≤ 24) (h : post (some (.int ((((xx + b) + 3) * 2) - ((1 : Int32) ^^^ b)))) (E (tr 56 435 x (11 :: 1 :: 20 :: 10 :: 2 :: l)) y)) : PW (11, 0, 0, z) m_B_call post 0 [some (.ref 54), some (.int 1), some (.int 3), some (.int xx), some (.int b), some (.int dp), none, none] [] (E (tr 56 435 x l) y) := by
  subst ed
  refine PW_iload_n c_B_call_0 rfl ?_
  refine PW_istore (i := 6) (L2 := [some (.ref 54), some (.int 1), some (.int 3), some (.int xx), some (.int b), some (.int (nI d)), some (.int 1), none]) c_B_call_1 (Nat.le_of_ble_eq_true rfl) rfl rfl ?_
  refine PW_iconst (v := 0) c_B_call_3 (by decide) ?_
  refine PW_istore (i := 7) (L2 := [some (.ref 54), some (.int 1), some (.int 3), some (.int xx), some (.int b), some (.int (nI d)), some (.int 1), some (.int 0)]) c_B_call_4 (Nat.le_of_ble_eq_true rfl) rfl rfl ?_
  refine PW_iload c_B_call_6 rfl ?_
  refine PW_bipush (v := 8) c_B_call_8 (by decide) ?_
  refine PW_icmp_ge c_B_call_10 (fun h0 => absurd h0 (by decide)) (fun _ => ?_)
  refine PW_iload c_B_call_13 rfl ?_
  refine PW_S0 (d2 := 0) (st := []) [.int 1] c_B_call_15 lk_B_call_18 rfl rfl rfl (Nat.le_of_ble_eq_true rfl) (by first | decide | omega) (Nat.le_of_ble_eq_true rfl) ?_
  refine sp_B_isKind  ?_
  show PW _ _ _ 18 [some (.ref 54), some (.int 1), some (.int 3), some (.int xx), some (.int b), some (.int (nI d)), some (.int 1), some (.int 0)] [.int (b2i (0 ≤ (1 : Int32) ∧ (1 : Int32) ≤ 7))] (E (tr 56 435 x l) y)
  refine PW_if_eq c_B_call_18 (fun h1 => absurd (by decide) (b2i_0.mp h1)) (fun _ => ?_)
  refine PW_iload c_B_call_21 rfl ?_
  refine PW_iload_n c_B_call_23 rfl ?_
  refine PW_S0 (d2 := 1) (st := []) [.int 1, .int 3] c_B_call_24 lk_B_call_49 rfl rfl rfl (Nat.le_of_ble_eq_true rfl) (by first | decide | omega) (Nat.le_of_ble_eq_true rfl) ?_
  refine sp_own_1_3 ?_
  show PW _ _ _ 27 [some (.ref 54), some (.int 1), some (.int 3), some (.int xx), some (.int b), some (.int (nI d)), some (.int 1), some (.int 0)] [.int 0] (E (tr 56 435 x l) y)
  refine PW_if_ne c_B_call_27 (fun h2 => absurd (by decide) h2) (fun _ => ?_)
  refine PW_iload c_B_call_30 rfl ?_
  refine PW_S0 (d2 := 0) (st := []) [.int 1] c_B_call_32 lk_B_call_22 rfl rfl rfl (Nat.le_of_ble_eq_true rfl) (by first | decide | omega) (Nat.le_of_ble_eq_true rfl) ?_
  refine sp_kab1 ?_
  show PW _ _ _ 35 [some (.ref 54), some (.int 1), some (.int 3), some (.int xx), some (.int b), some (.int (nI d)), some (.int 1), some (.int 0)] [.int 0] (E (tr 56 435 x l) y)
  refine PW_istore (i := 6) (L2 := [some (.ref 54), some (.int 1), some (.int 3), some (.int xx), some (.int b), some (.int (nI d)), some (.int 0), some (.int 0)]) c_B_call_35 (Nat.le_of_ble_eq_true rfl) rfl rfl ?_
  refine PW_iinc (i := 7) (v := 1) (L2 := [some (.ref 54), some (.int 1), some (.int 3), some (.int xx), some (.int b), some (.int (nI d)), some (.int 0), some (.int 1)]) c_B_call_37 rfl (by decide) (Nat.le_of_ble_eq_true rfl) rfl rfl ?_
  refine PW_goto c_B_call_40 ?_
  refine PW_iload c_B_call_6 rfl ?_
  refine PW_bipush (v := 8) c_B_call_8 (by decide) ?_
  refine PW_icmp_ge c_B_call_10 (fun h3 => absurd h3 (by decide)) (fun _ => ?_)
  refine PW_iload c_B_call_13 rfl ?_
  refine PW_S0 (d2 := 0) (st := []) [.int 0] c_B_call_15 lk_B_call_18 rfl rfl rfl (Nat.le_of_ble_eq_true rfl) (by first | decide | omega) (Nat.le_of_ble_eq_true rfl) ?_
  refine sp_B_isKind  ?_
  show PW _ _ _ 18 [some (.ref 54), some (.int 1), some (.int 3), some (.int xx), some (.int b), some (.int (nI d)), some (.int 0), some (.int 1)] [.int (b2i (0 ≤ (0 : Int32) ∧ (0 : Int32) ≤ 7))] (E (tr 56 435 x l) y)
  refine PW_if_eq c_B_call_18 (fun h4 => absurd (by decide) (b2i_0.mp h4)) (fun _ => ?_)
  refine PW_iload c_B_call_21 rfl ?_
  refine PW_iload_n c_B_call_23 rfl ?_
  refine PW_S0 (d2 := 1) (st := []) [.int 0, .int 3] c_B_call_24 lk_B_call_49 rfl rfl rfl (Nat.le_of_ble_eq_true rfl) (by first | decide | omega) (Nat.le_of_ble_eq_true rfl) ?_
  refine sp_own_0_3 ?_
  show PW _ _ _ 27 [some (.ref 54), some (.int 1), some (.int 3), some (.int xx), some (.int b), some (.int (nI d)), some (.int 0), some (.int 1)] [.int 2] (E (tr 56 435 x l) y)
  refine PW_if_ne c_B_call_27 (fun _ => ?_) (fun h5 => absurd h5 (by decide))
  refine PW_iload c_B_call_43 rfl ?_
  refine PW_S0 (d2 := 0) (st := []) [.int 0] c_B_call_45 lk_B_call_18 rfl rfl rfl (Nat.le_of_ble_eq_true rfl) (by first | decide | omega) (Nat.le_of_ble_eq_true rfl) ?_
  refine sp_B_isKind  ?_
  show PW _ _ _ 48 [some (.ref 54), some (.int 1), some (.int 3), some (.int xx), some (.int b), some (.int (nI d)), some (.int 0), some (.int 1)] [.int (b2i (0 ≤ (0 : Int32) ∧ (0 : Int32) ≤ 7))] (E (tr 56 435 x l) y)
  refine PW_if_eq c_B_call_48 (fun h6 => absurd (by decide) (b2i_0.mp h6)) (fun _ => ?_)
  refine PW_iload c_B_call_51 rfl ?_
  refine PW_bipush (v := 30) c_B_call_53 (by decide) ?_
  refine PW_icmp_lt c_B_call_55 (fun h7 => ?_) (fun h7 => absurd ((nI_ltI (by omega) (by decide)).mpr (by omega) : nI d < nI 30) h7)
  refine PW_iload c_B_call_60 rfl ?_
  refine PW_iload_n c_B_call_62 rfl ?_
  refine PW_S0 (d2 := 1) (st := []) [.int 0, .int 3] c_B_call_63 lk_B_call_49 rfl rfl rfl (Nat.le_of_ble_eq_true rfl) (by first | decide | omega) (Nat.le_of_ble_eq_true rfl) ?_
  refine sp_own_0_3 ?_
  show PW _ _ _ 66 [some (.ref 54), some (.int 1), some (.int 3), some (.int xx), some (.int b), some (.int (nI d)), some (.int 0), some (.int 1)] [.int 2] (E (tr 56 435 x l) y)
  refine PW_istore (i := 7) (L2 := [some (.ref 54), some (.int 1), some (.int 3), some (.int xx), some (.int b), some (.int (nI d)), some (.int 0), some (.int 2)]) c_B_call_66 (Nat.le_of_ble_eq_true rfl) rfl rfl ?_
  refine PW_aload_n c_B_call_68 rfl ?_
  refine PW_iload c_B_call_69 rfl ?_
  refine PW_V0 (d2 := 0) (st := []) [.int 2] c_B_call_71 lk_B_call_53 (po_54 _ _) rfl rfl rfl (Nat.le_of_ble_eq_true rfl) (by first | decide | omega) (Nat.le_of_ble_eq_true rfl) ?_
  refine sp_note (by (try simp only [List.length_cons]); omega) ?_
  show PW _ _ _ 74 [some (.ref 54), some (.int 1), some (.int 3), some (.int xx), some (.int b), some (.int (nI d)), some (.int 0), some (.int 2)] [] (E (tr 56 435 x (2 :: l)) y)
  refine PW_iload_n c_B_call_74 rfl ?_
  refine PW_iconst (v := 2) c_B_call_75 (by decide) ?_
  refine PW_icmp_eq c_B_call_76 (fun h8 => absurd h8 (by decide)) (fun _ => ?_)
  refine PW_iload_n c_B_call_79 rfl ?_
  refine PW_iconst (v := 3) c_B_call_80 (by decide) ?_
  refine PW_icmp_ne c_B_call_81 (fun h9 => absurd (by decide) h9) (fun _ => ?_)
  refine PW_aload_n c_B_call_84 rfl ?_
  refine PW_iload c_B_call_85 rfl ?_
  refine PW_iload c_B_call_87 rfl ?_
  refine PW_S0 (d2 := 0) (st := [.int 2, .ref 54]) [.int 0] c_B_call_89 lk_B_call_22 rfl rfl rfl (Nat.le_of_ble_eq_true rfl) (by first | decide | omega) (Nat.le_of_ble_eq_true rfl) ?_
  refine sp_kab0 ?_
  show PW _ _ _ 92 [some (.ref 54), some (.int 1), some (.int 3), some (.int xx), some (.int b), some (.int (nI d)), some (.int 0), some (.int 2)] [.int (-1), .int 2, .ref 54] (E (tr 56 435 x (2 :: l)) y)
  refine PW_iload_n c_B_call_92 rfl ?_
  refine PW_iload c_B_call_93 rfl ?_
  refine PW_iload c_B_call_95 rfl ?_
  refine PW_iconst (v := 1) c_B_call_97 (by decide) ?_
  refine PW_iadd c_B_call_98 ?_
  refine PW_V0 (d2 := 10) (st := []) [.int 2, .int (-1), .int xx, .int b, .int ((nI d) + 1)] c_B_call_99 lk_B_call_57 (po_54 _ _) rfl rfl rfl (Nat.le_of_ble_eq_true rfl) (by first | decide | omega) (Nat.le_of_ble_eq_true rfl) ?_
  show PW _ _ _ 0 [some (.ref 54), some (.int 2), some (.int (-1)), some (.int xx), some (.int b), some (.int ((nI d) + 1)), none] [] (E (tr 56 435 x (2 :: l)) y)
  refine PW_aload_n c_B_runLater_0 rfl ?_
  refine PW_iload c_B_runLater_1 rfl ?_
  refine PW_V0 (d2 := 1) (st := []) [.int b] c_B_runLater_3 lk_B_runLater_42 (po_54 _ _) rfl rfl rfl (Nat.le_of_ble_eq_true rfl) (by first | decide | omega) (Nat.le_of_ble_eq_true rfl) ?_
  refine sp_kof K ?_
  show PW _ _ _ 6 [some (.ref 54), some (.int 2), some (.int (-1)), some (.int xx), some (.int b), some (.int ((nI d) + 1)), none] [.int 4] (E (tr 56 435 x (2 :: l)) y)
  refine PW_istore (i := 6) (L2 := [some (.ref 54), some (.int 2), some (.int (-1)), some (.int xx), some (.int b), some (.int ((nI d) + 1)), some (.int 4)]) c_B_runLater_6 (Nat.le_of_ble_eq_true rfl) rfl rfl ?_
  refine PW_iload_n c_B_runLater_8 rfl ?_
  refine PW_lookup (tgt := 68) c_B_runLater_9 (by decide) rfl rfl ?_
  refine PW_aload_n c_B_runLater_68 rfl ?_
  refine PW_iload c_B_runLater_69 rfl ?_
  refine PW_iconst (v := 1) c_B_runLater_71 (by decide) ?_
  refine PW_iload_n c_B_runLater_72 rfl ?_
  refine PW_iload c_B_runLater_73 rfl ?_
  refine PW_iload c_B_runLater_75 rfl ?_
  refine PW_V0 (d2 := 9) (st := []) [.int 4, .int 1, .int xx, .int b, .int ((nI d) + 1)] c_B_runLater_77 lk_B_runLater_45 (po_54 _ _) rfl rfl rfl (Nat.le_of_ble_eq_true rfl) (by first | decide | omega) (Nat.le_of_ble_eq_true rfl) ?_
  refine PW.deeper (k := (9, 0, 0, z)) (Nat.le_of_ble_eq_true rfl) (Nat.le_refl _) (Nat.le_refl _) ?_
  refine sp_call_4_4_1 K (nI_1 d) (by omega) (by (try simp only [List.length_cons]); omega) ?_
  show PW _ _ _ 80 [some (.ref 54), some (.int 2), some (.int (-1)), some (.int xx), some (.int b), some (.int ((nI d) + 1)), some (.int 4)] [.int (((xx + b) + 3) * 2)] (E (tr 56 435 x (1 :: 20 :: 10 :: 2 :: l)) y)
  refine PW_aload_n c_B_runLater_80 rfl ?_
  refine PW_iload c_B_runLater_81 rfl ?_
  refine PW_iconst (v := 2) c_B_runLater_83 (by decide) ?_
  refine PW_iconst (v := 1) c_B_runLater_84 (by decide) ?_
  refine PW_iload c_B_runLater_85 rfl ?_
  refine PW_iload c_B_runLater_87 rfl ?_
  refine PW_V0 (d2 := 9) (st := [.int (((xx + b) + 3) * 2)]) [.int 4, .int 2, .int 1, .int b, .int ((nI d) + 1)] c_B_runLater_89 lk_B_runLater_45 (po_54 _ _) rfl rfl rfl (Nat.le_of_ble_eq_true rfl) (by first | decide | omega) (Nat.le_of_ble_eq_true rfl) ?_
  refine PW.deeper (k := (5, 0, 0, z)) (Nat.le_of_ble_eq_true rfl) (Nat.le_refl _) (Nat.le_refl _) ?_
  refine sp_call_4_4_2 K (nI_1 d) (by omega) (by (try simp only [List.length_cons]); omega) ?_
  show PW _ _ _ 92 [some (.ref 54), some (.int 2), some (.int (-1)), some (.int xx), some (.int b), some (.int ((nI d) + 1)), some (.int 4)] [.int ((1 : Int32) ^^^ b), .int (((xx + b) + 3) * 2)] (E (tr 56 435 x (11 :: 1 :: 20 :: 10 :: 2 :: l)) y)
  refine PW_isub c_B_runLater_92 ?_
  refine PW_ireturn (ty := .int) c_B_runLater_93 rfl rfl ?_
  show PW _ _ _ 102 [some (.ref 54), some (.int 1), some (.int 3), some (.int xx), some (.int b), some (.int (nI d)), some (.int 0), some (.int 2)] [.int ((((xx + b) + 3) * 2) - ((1 : Int32) ^^^ b))] (E (tr 56 435 x (11 :: 1 :: 20 :: 10 :: 2 :: l)) y)
  refine PW_goto c_B_call_102 ?_
  refine PW_ireturn (ty := .int) c_B_call_123 rfl rfl ?_
  exact h
theorem sp_call_4_4_3 {z : ZS} {post : Option Value → List PE → Prop} {x y : XS} {l : List Int32} {b xx dp : Int32} {d : Nat} (K : kb x b 4) (ed : dp = nI d) (hd : d + 5 ≤ 30) (hl : l.length + 6 ≤ 24) (h : post (some (.int (((((xx + b) + 3) * 2) - ((1 : Int32) ^^^ b)) ^^^ 5))) (E (tr 56 435 x (11 :: 1 :: 20 :: 10 :: 2 :: 50 :: l)) y)) : PW (13, 0, 0, z) m_B_call post 0 [some (.ref 54), some (.int 4), some (.int 3), some (.int xx), some (.int b), some (.int dp), none, none] [] (E (tr 56 435 x l) y) := by
  subst ed
  refine PW_iload_n c_B_call_0 rfl ?_
  refine PW_istore (i := 6) (L2 := [some (.ref 54), some (.int 4), some (.int 3), some (.int xx), some (.int b), some (.int (nI d)), some (.int 4), none]) c_B_call_1 (Nat.le_of_ble_eq_true rfl) rfl rfl ?_
  refine PW_iconst (v := 0) c_B_call_3 (by decide) ?_
  refine PW_istore (i := 7) (L2 := [some (.ref 54), some (.int 4), some (.int 3), some (.int xx), some (.int b), some (.int (nI d)), some (.int 4), some (.int 0)]) c_B_call_4 (Nat.le_of_ble_eq_true rfl) rfl rfl ?_
  refine PW_iload c_B_call_6 rfl ?_
  refine PW_bipush (v := 8) c_B_call_8 (by decide) ?_
  refine PW_icmp_ge c_B_call_10 (fun h0 => absurd h0 (by decide)) (fun _ => ?_)
  refine PW_iload c_B_call_13 rfl ?_
  refine PW_S0 (d2 := 0) (st := []) [.int 4] c_B_call_15 lk_B_call_18 rfl rfl rfl (Nat.le_of_ble_eq_true rfl) (by first | decide | omega) (Nat.le_of_ble_eq_true rfl) ?_
  refine sp_B_isKind  ?_
  show PW _ _ _ 18 [some (.ref 54), some (.int 4), some (.int 3), some (.int xx), some (.int b), some (.int (nI d)), some (.int 4), some (.int 0)] [.int (b2i (0 ≤ (4 : Int32) ∧ (4 : Int32) ≤ 7))] (E (tr 56 435 x l) y)
  refine PW_if_eq c_B_call_18 (fun h1 => absurd (by decide) (b2i_0.mp h1)) (fun _ => ?_)
  refine PW_iload c_B_call_21 rfl ?_
  refine PW_iload_n c_B_call_23 rfl ?_
  refine PW_S0 (d2 := 1) (st := []) [.int 4, .int 3] c_B_call_24 lk_B_call_49 rfl rfl rfl (Nat.le_of_ble_eq_true rfl) (by first | decide | omega) (Nat.le_of_ble_eq_true rfl) ?_
  refine sp_own_4_3 ?_
  show PW _ _ _ 27 [some (.ref 54), some (.int 4), some (.int 3), some (.int xx), some (.int b), some (.int (nI d)), some (.int 4), some (.int 0)] [.int 50] (E (tr 56 435 x l) y)
  refine PW_if_ne c_B_call_27 (fun _ => ?_) (fun h2 => absurd h2 (by decide))
  refine PW_iload c_B_call_43 rfl ?_
  refine PW_S0 (d2 := 0) (st := []) [.int 4] c_B_call_45 lk_B_call_18 rfl rfl rfl (Nat.le_of_ble_eq_true rfl) (by first | decide | omega) (Nat.le_of_ble_eq_true rfl) ?_
  refine sp_B_isKind  ?_
  show PW _ _ _ 48 [some (.ref 54), some (.int 4), some (.int 3), some (.int xx), some (.int b), some (.int (nI d)), some (.int 4), some (.int 0)] [.int (b2i (0 ≤ (4 : Int32) ∧ (4 : Int32) ≤ 7))] (E (tr 56 435 x l) y)
  refine PW_if_eq c_B_call_48 (fun h3 => absurd (by decide) (b2i_0.mp h3)) (fun _ => ?_)
  refine PW_iload c_B_call_51 rfl ?_
  refine PW_bipush (v := 30) c_B_call_53 (by decide) ?_
  refine PW_icmp_lt c_B_call_55 (fun h4 => ?_) (fun h4 => absurd ((nI_ltI (by omega) (by decide)).mpr (by omega) : nI d < nI 30) h4)
  refine PW_iload c_B_call_60 rfl ?_
  refine PW_iload_n c_B_call_62 rfl ?_
  refine PW_S0 (d2 := 1) (st := []) [.int 4, .int 3] c_B_call_63 lk_B_call_49 rfl rfl rfl (Nat.le_of_ble_eq_true rfl) (by first | decide | omega) (Nat.le_of_ble_eq_true rfl) ?_
  refine sp_own_4_3 ?_
  show PW _ _ _ 66 [some (.ref 54), some (.int 4), some (.int 3), some (.int xx), some (.int b), some (.int (nI d)), some (.int 4), some (.int 0)] [.int 50] (E (tr 56 435 x l) y)
  refine PW_istore (i := 7) (L2 := [some (.ref 54), some (.int 4), some (.int 3), some (.int xx), some (.int b), some (.int (nI d)), some (.int 4), some (.int 50)]) c_B_call_66 (Nat.le_of_ble_eq_true rfl) rfl rfl ?_
  refine PW_aload_n c_B_call_68 rfl ?_
  refine PW_iload c_B_call_69 rfl ?_
  refine PW_V0 (d2 := 0) (st := []) [.int 50] c_B_call_71 lk_B_call_53 (po_54 _ _) rfl rfl rfl (Nat.le_of_ble_eq_true rfl) (by first | decide | omega) (Nat.le_of_ble_eq_true rfl) ?_
  refine sp_note (by (try simp only [List.length_cons]); omega) ?_
  show PW _ _ _ 74 [some (.ref 54), some (.int 4), some (.int 3), some (.int xx), some (.int b), some (.int (nI d)), some (.int 4), some (.int 50)] [] (E (tr 56 435 x (50 :: l)) y)
  refine PW_iload_n c_B_call_74 rfl ?_
  refine PW_iconst (v := 2) c_B_call_75 (by decide) ?_
  refine PW_icmp_eq c_B_call_76 (fun h5 => absurd h5 (by decide)) (fun _ => ?_)
  refine PW_iload_n c_B_call_79 rfl ?_
  refine PW_iconst (v := 3) c_B_call_80 (by decide) ?_
  refine PW_icmp_ne c_B_call_81 (fun h6 => absurd (by decide) h6) (fun _ => ?_)
  refine PW_aload_n c_B_call_84 rfl ?_
  refine PW_iload c_B_call_85 rfl ?_
  refine PW_iload c_B_call_87 rfl ?_
  refine PW_S0 (d2 := 0) (st := [.int 50, .ref 54]) [.int 4] c_B_call_89 lk_B_call_22 rfl rfl rfl (Nat.le_of_ble_eq_true rfl) (by first | decide | omega) (Nat.le_of_ble_eq_true rfl) ?_
  refine sp_kab4 ?_
  show PW _ _ _ 92 [some (.ref 54), some (.int 4), some (.int 3), some (.int xx), some (.int b), some (.int (nI d)), some (.int 4), some (.int 50)] [.int 1, .int 50, .ref 54] (E (tr 56 435 x (50 :: l)) y)
  refine PW_iload_n c_B_call_92 rfl ?_
  refine PW_iload c_B_call_93 rfl ?_
  refine PW_iload c_B_call_95 rfl ?_
  refine PW_iconst (v := 1) c_B_call_97 (by decide) ?_
  refine PW_iadd c_B_call_98 ?_
  refine PW_V0 (d2 := 12) (st := []) [.int 50, .int 1, .int xx, .int b, .int ((nI d) + 1)] c_B_call_99 lk_B_call_57 (po_54 _ _) rfl rfl rfl (Nat.le_of_ble_eq_true rfl) (by first | decide | omega) (Nat.le_of_ble_eq_true rfl) ?_
  show PW _ _ _ 0 [some (.ref 54), some (.int 50), some (.int 1), some (.int xx), some (.int b), some (.int ((nI d) + 1)), none] [] (E (tr 56 435 x (50 :: l)) y)
  refine PW_aload_n c_B_runLater_0 rfl ?_
  refine PW_iload c_B_runLater_1 rfl ?_
  refine PW_V0 (d2 := 1) (st := []) [.int b] c_B_runLater_3 lk_B_runLater_42 (po_54 _ _) rfl rfl rfl (Nat.le_of_ble_eq_true rfl) (by first | decide | omega) (Nat.le_of_ble_eq_true rfl) ?_
  refine sp_kof K ?_
  show PW _ _ _ 6 [some (.ref 54), some (.int 50), some (.int 1), some (.int xx), some (.int b), some (.int ((nI d) + 1)), none] [.int 4] (E (tr 56 435 x (50 :: l)) y)
  refine PW_istore (i := 6) (L2 := [some (.ref 54), some (.int 50), some (.int 1), some (.int xx), some (.int b), some (.int ((nI d) + 1)), some (.int 4)]) c_B_runLater_6 (Nat.le_of_ble_eq_true rfl) rfl rfl ?_
  refine PW_iload_n c_B_runLater_8 rfl ?_
  refine PW_lookup (tgt := 113) c_B_runLater_9 (by decide) rfl rfl ?_
  refine PW_aload_n c_B_runLater_113 rfl ?_
  refine PW_iload_n c_B_runLater_114 rfl ?_
  refine PW_iconst (v := 3) c_B_runLater_115 (by decide) ?_
  refine PW_iload_n c_B_runLater_116 rfl ?_
  refine PW_iload c_B_runLater_117 rfl ?_
  refine PW_iload c_B_runLater_119 rfl ?_
  refine PW_V0 (d2 := 11) (st := []) [.int 1, .int 3, .int xx, .int b, .int ((nI d) + 1)] c_B_runLater_121 lk_B_runLater_45 (po_54 _ _) rfl rfl rfl (Nat.le_of_ble_eq_true rfl) (by first | decide | omega) (Nat.le_of_ble_eq_true rfl) ?_
  refine PW.deeper (k := (11, 0, 0, z)) (Nat.le_of_ble_eq_true rfl) (Nat.le_refl _) (Nat.le_refl _) ?_
  refine sp_call_4_1_3 K (nI_1 d) (by omega) (by (try simp only [List.length_cons]); omega) ?_
  show PW _ _ _ 124 [some (.ref 54), some (.int 50), some (.int 1), some (.int xx), some (.int b), some (.int ((nI d) + 1)), some (.int 4)] [.int ((((xx + b) + 3) * 2) - ((1 : Int32) ^^^ b))] (E (tr 56 435 x (11 :: 1 :: 20 :: 10 :: 2 :: 50 :: l)) y)
  refine PW_iconst (v := 5) c_B_runLater_124 (by decide) ?_
  refine PW_ixor c_B_runLater_125 ?_
  refine PW_ireturn (ty := .int) c_B_runLater_126 rfl rfl ?_
  show PW _ _ _ 102 [some (.ref 54), some (.int 4), some (.int 3), some (.int xx), some (.int b), some (.int (nI d)), some (.int 4), some (.int 50)] [.int (((((xx + b) + 3) * 2) - ((1 : Int32) ^^^ b)) ^^^ 5)] (E (tr 56 435 x (11 :: 1 :: 20 :: 10 :: 2 :: 50 :: l)) y)
  refine PW_goto c_B_call_102 ?_
  refine PW_ireturn (ty := .int) c_B_call_123 rfl rfl ?_
  exact h
theorem sp_call_5_5_0 {z : ZS} {post : Option Value → List PE → Prop} {x y : XS} {l : List Int32} {b xx dp : Int32} {d : Nat} (K : kb x b 5) (ed : dp = nI d) (hd : d + 1 ≤ 30) (hl : l.length + 1 ≤ 24) (h : post (some (.int (xx + b))) (E (tr 56 435 x (1 :: l)) y)) : PW (5, 0, 0, z) m_B_call post 0 [some (.ref 54), some (.int 5), some (.int 0), some (.int xx), some (.int b), some (.int dp), none, none] [] (E (tr 56 435 x l) y) := by
  subst ed
  refine PW_iload_n c_B_call_0 rfl ?_
  refine PW_istore (i := 6) (L2 := [some (.ref 54), some (.int 5), some (.int 0), some (.int xx), some (.int b), some (.int (nI d)), some (.int 5), none]) c_B_call_1 (Nat.le_of_ble_eq_true rfl) rfl rfl ?_
  refine PW_iconst (v := 0) c_B_call_3 (by decide) ?_
  refine PW_istore (i := 7) (L2 := [some (.ref 54), some (.int 5), some (.int 0), some (.int xx), some (.int b), some (.int (nI d)), some (.int 5), some (.int 0)]) c_B_call_4 (Nat.le_of_ble_eq_true rfl) rfl rfl ?_
  refine PW_iload c_B_call_6 rfl ?_
  refine PW_bipush (v := 8) c_B_call_8 (by decide) ?_
  refine PW_icmp_ge c_B_call_10 (fun h0 => absurd h0 (by decide)) (fun _ => ?_)
  refine PW_iload c_B_call_13 rfl ?_
  refine PW_S0 (d2 := 0) (st := []) [.int 5] c_B_call_15 lk_B_call_18 rfl rfl rfl (Nat.le_of_ble_eq_true rfl) (by first | decide | omega) (Nat.le_of_ble_eq_true rfl) ?_
  refine sp_B_isKind  ?_
  show PW _ _ _ 18 [some (.ref 54), some (.int 5), some (.int 0), some (.int xx), some (.int b), some (.int (nI d)), some (.int 5), some (.int 0)] [.int (b2i (0 ≤ (5 : Int32) ∧ (5 : Int32) ≤ 7))] (E (tr 56 435 x l) y)
  refine PW_if_eq c_B_call_18 (fun h1 => absurd (by decide) (b2i_0.mp h1)) (fun _ => ?_)
  refine PW_iload c_B_call_21 rfl ?_
  refine PW_iload_n c_B_call_23 rfl ?_
  refine PW_S0 (d2 := 1) (st := []) [.int 5, .int 0] c_B_call_24 lk_B_call_49 rfl rfl rfl (Nat.le_of_ble_eq_true rfl) (by first | decide | omega) (Nat.le_of_ble_eq_true rfl) ?_
  refine sp_own_5_0 ?_
  show PW _ _ _ 27 [some (.ref 54), some (.int 5), some (.int 0), some (.int xx), some (.int b), some (.int (nI d)), some (.int 5), some (.int 0)] [.int 0] (E (tr 56 435 x l) y)
  refine PW_if_ne c_B_call_27 (fun h2 => absurd (by decide) h2) (fun _ => ?_)
  refine PW_iload c_B_call_30 rfl ?_
  refine PW_S0 (d2 := 0) (st := []) [.int 5] c_B_call_32 lk_B_call_22 rfl rfl rfl (Nat.le_of_ble_eq_true rfl) (by first | decide | omega) (Nat.le_of_ble_eq_true rfl) ?_
  refine sp_kab5 ?_
  show PW _ _ _ 35 [some (.ref 54), some (.int 5), some (.int 0), some (.int xx), some (.int b), some (.int (nI d)), some (.int 5), some (.int 0)] [.int 3] (E (tr 56 435 x l) y)
  refine PW_istore (i := 6) (L2 := [some (.ref 54), some (.int 5), some (.int 0), some (.int xx), some (.int b), some (.int (nI d)), some (.int 3), some (.int 0)]) c_B_call_35 (Nat.le_of_ble_eq_true rfl) rfl rfl ?_
  refine PW_iinc (i := 7) (v := 1) (L2 := [some (.ref 54), some (.int 5), some (.int 0), some (.int xx), some (.int b), some (.int (nI d)), some (.int 3), some (.int 1)]) c_B_call_37 rfl (by decide) (Nat.le_of_ble_eq_true rfl) rfl rfl ?_
  refine PW_goto c_B_call_40 ?_
  refine PW_iload c_B_call_6 rfl ?_
  refine PW_bipush (v := 8) c_B_call_8 (by decide) ?_
  refine PW_icmp_ge c_B_call_10 (fun h3 => absurd h3 (by decide)) (fun _ => ?_)
  refine PW_iload c_B_call_13 rfl ?_
  refine PW_S0 (d2 := 0) (st := []) [.int 3] c_B_call_15 lk_B_call_18 rfl rfl rfl (Nat.le_of_ble_eq_true rfl) (by first | decide | omega) (Nat.le_of_ble_eq_true rfl) ?_
  refine sp_B_isKind  ?_
  show PW _ _ _ 18 [some (.ref 54), some (.int 5), some (.int 0), some (.int xx), some (.int b), some (.int (nI d)), some (.int 3), some (.int 1)] [.int (b2i (0 ≤ (3 : Int32) ∧ (3 : Int32) ≤ 7))] (E (tr 56 435 x l) y)
  refine PW_if_eq c_B_call_18 (fun h4 => absurd (by decide) (b2i_0.mp h4)) (fun _ => ?_)
  refine PW_iload c_B_call_21 rfl ?_
  refine PW_iload_n c_B_call_23 rfl ?_
  refine PW_S0 (d2 := 1) (st := []) [.int 3, .int 0] c_B_call_24 lk_B_call_49 rfl rfl rfl (Nat.le_of_ble_eq_true rfl) (by first | decide | omega) (Nat.le_of_ble_eq_true rfl) ?_
  refine sp_own_3_0 ?_
  show PW _ _ _ 27 [some (.ref 54), some (.int 5), some (.int 0), some (.int xx), some (.int b), some (.int (nI d)), some (.int 3), some (.int 1)] [.int 0] (E (tr 56 435 x l) y)
  refine PW_if_ne c_B_call_27 (fun h5 => absurd (by decide) h5) (fun _ => ?_)
  refine PW_iload c_B_call_30 rfl ?_
  refine PW_S0 (d2 := 0) (st := []) [.int 3] c_B_call_32 lk_B_call_22 rfl rfl rfl (Nat.le_of_ble_eq_true rfl) (by first | decide | omega) (Nat.le_of_ble_eq_true rfl) ?_
  refine sp_kab3 ?_
  show PW _ _ _ 35 [some (.ref 54), some (.int 5), some (.int 0), some (.int xx), some (.int b), some (.int (nI d)), some (.int 3), some (.int 1)] [.int 2] (E (tr 56 435 x l) y)
  refine PW_istore (i := 6) (L2 := [some (.ref 54), some (.int 5), some (.int 0), some (.int xx), some (.int b), some (.int (nI d)), some (.int 2), some (.int 1)]) c_B_call_35 (Nat.le_of_ble_eq_true rfl) rfl rfl ?_
  refine PW_iinc (i := 7) (v := 2) (L2 := [some (.ref 54), some (.int 5), some (.int 0), some (.int xx), some (.int b), some (.int (nI d)), some (.int 2), some (.int 2)]) c_B_call_37 rfl (by decide) (Nat.le_of_ble_eq_true rfl) rfl rfl ?_
  refine PW_goto c_B_call_40 ?_
  refine PW_iload c_B_call_6 rfl ?_
  refine PW_bipush (v := 8) c_B_call_8 (by decide) ?_
  refine PW_icmp_ge c_B_call_10 (fun h6 => absurd h6 (by decide)) (fun _ => ?_)
  refine PW_iload c_B_call_13 rfl ?_
  refine PW_S0 (d2 := 0) (st := []) [.int 2] c_B_call_15 lk_B_call_18 rfl rfl rfl (Nat.le_of_ble_eq_true rfl) (by first | decide | omega) (Nat.le_of_ble_eq_true rfl) ?_
  refine sp_B_isKind  ?_
  show PW _ _ _ 18 [some (.ref 54), some (.int 5), some (.int 0), some (.int xx), some (.int b), some (.int (nI d)), some (.int 2), some (.int 2)] [.int (b2i (0 ≤ (2 : Int32) ∧ (2 : Int32) ≤ 7))] (E (tr 56 435 x l) y)
  refine PW_if_eq c_B_call_18 (fun h7 => absurd (by decide) (b2i_0.mp h7)) (fun _ => ?_)
  refine PW_iload c_B_call_21 rfl ?_
  refine PW_iload_n c_B_call_23 rfl ?_
  refine PW_S0 (d2 := 1) (st := []) [.int 2, .int 0] c_B_call_24 lk_B_call_49 rfl rfl rfl (Nat.le_of_ble_eq_true rfl) (by first | decide | omega) (Nat.le_of_ble_eq_true rfl) ?_
  refine sp_own_2_0 ?_
  show PW _ _ _ 27 [some (.ref 54), some (.int 5), some (.int 0), some (.int xx), some (.int b), some (.int (nI d)), some (.int 2), some (.int 2)] [.int 0] (E (tr 56 435 x l) y)
  refine PW_if_ne c_B_call_27 (fun h8 => absurd (by decide) h8) (fun _ => ?_)
  refine PW_iload c_B_call_30 rfl ?_
  refine PW_S0 (d2 := 0) (st := []) [.int 2] c_B_call_32 lk_B_call_22 rfl rfl rfl (Nat.le_of_ble_eq_true rfl) (by first | decide | omega) (Nat.le_of_ble_eq_true rfl) ?_
  refine sp_kab2 ?_
  show PW _ _ _ 35 [some (.ref 54), some (.int 5), some (.int 0), some (.int xx), some (.int b), some (.int (nI d)), some (.int 2), some (.int 2)] [.int 0] (E (tr 56 435 x l) y)
  refine PW_istore (i := 6) (L2 := [some (.ref 54), some (.int 5), some (.int 0), some (.int xx), some (.int b), some (.int (nI d)), some (.int 0), some (.int 2)]) c_B_call_35 (Nat.le_of_ble_eq_true rfl) rfl rfl ?_
  refine PW_iinc (i := 7) (v := 3) (L2 := [some (.ref 54), some (.int 5), some (.int 0), some (.int xx), some (.int b), some (.int (nI d)), some (.int 0), some (.int 3)]) c_B_call_37 rfl (by decide) (Nat.le_of_ble_eq_true rfl) rfl rfl ?_
  refine PW_goto c_B_call_40 ?_
  refine PW_iload c_B_call_6 rfl ?_
  refine PW_bipush (v := 8) c_B_call_8 (by decide) ?_
  refine PW_icmp_ge c_B_call_10 (fun h9 => absurd h9 (by decide)) (fun _ => ?_)
  refine PW_iload c_B_call_13 rfl ?_
  refine PW_S0 (d2 := 0) (st := []) [.int 0] c_B_call_15 lk_B_call_18 rfl rfl rfl (Nat.le_of_ble_eq_true rfl) (by first | decide | omega) (Nat.le_of_ble_eq_true rfl) ?_
  refine sp_B_isKind  ?_
  show PW _ _ _ 18 [some (.ref 54), some (.int 5), some (.int 0), some (.int xx), some (.int b), some (.int (nI d)), some (.int 0), some (.int 3)] [.int (b2i (0 ≤ (0 : Int32) ∧ (0 : Int32) ≤ 7))] (E (tr 56 435 x l) y)
  refine PW_if_eq c_B_call_18 (fun h10 => absurd (by decide) (b2i_0.mp h10)) (fun _ => ?_)
  refine PW_iload c_B_call_21 rfl ?_
  refine PW_iload_n c_B_call_23 rfl ?_
  refine PW_S0 (d2 := 1) (st := []) [.int 0, .int 0] c_B_call_24 lk_B_call_49 rfl rfl rfl (Nat.le_of_ble_eq_true rfl) (by first | decide | omega) (Nat.le_of_ble_eq_true rfl) ?_
  refine sp_own_0_0 ?_
  show PW _ _ _ 27 [some (.ref 54), some (.int 5), some (.int 0), some (.int xx), some (.int b), some (.int (nI d)), some (.int 0), some (.int 3)] [.int 1] (E (tr 56 435 x l) y)
  refine PW_if_ne c_B_call_27 (fun _ => ?_) (fun h11 => absurd h11 (by decide))
  refine PW_iload c_B_call_43 rfl ?_
  refine PW_S0 (d2 := 0) (st := []) [.int 0] c_B_call_45 lk_B_call_18 rfl rfl rfl (Nat.le_of_ble_eq_true rfl) (by first | decide | omega) (Nat.le_of_ble_eq_true rfl) ?_
  refine sp_B_isKind  ?_
  show PW _ _ _ 48 [some (.ref 54), some (.int 5), some (.int 0), some (.int xx), some (.int b), some (.int (nI d)), some (.int 0), some (.int 3)] [.int (b2i (0 ≤ (0 : Int32) ∧ (0 : Int32) ≤ 7))] (E (tr 56 435 x l) y)
  refine PW_if_eq c_B_call_48 (fun h12 => absurd (by decide) (b2i_0.mp h12)) (fun _ => ?_)
  refine PW_iload c_B_call_51 rfl ?_
  refine PW_bipush (v := 30) c_B_call_53 (by decide) ?_
  refine PW_icmp_lt c_B_call_55 (fun h13 => ?_) (fun h13 => absurd ((nI_ltI (by omega) (by decide)).mpr (by omega) : nI d < nI 30) h13)
  refine PW_iload c_B_call_60 rfl ?_
  refine PW_iload_n c_B_call_62 rfl ?_
  refine PW_S0 (d2 := 1) (st := []) [.int 0, .int 0] c_B_call_63 lk_B_call_49 rfl rfl rfl (Nat.le_of_ble_eq_true rfl) (by first | decide | omega) (Nat.le_of_ble_eq_true rfl) ?_
  refine sp_own_0_0 ?_
  show PW _ _ _ 66 [some (.ref 54), some (.int 5), some (.int 0), some (.int xx), some (.int b), some (.int (nI d)), some (.int 0), some (.int 3)] [.int 1] (E (tr 56 435 x l) y)
  refine PW_istore (i := 7) (L2 := [some (.ref 54), some (.int 5), some (.int 0), some (.int xx), some (.int b), some (.int (nI d)), some (.int 0), some (.int 1)]) c_B_call_66 (Nat.le_of_ble_eq_true rfl) rfl rfl ?_
  refine PW_aload_n c_B_call_68 rfl ?_
  refine PW_iload c_B_call_69 rfl ?_
  refine PW_V0 (d2 := 0) (st := []) [.int 1] c_B_call_71 lk_B_call_53 (po_54 _ _) rfl rfl rfl (Nat.le_of_ble_eq_true rfl) (by first | decide | omega) (Nat.le_of_ble_eq_true rfl) ?_
  refine sp_note (by (try simp only [List.length_cons]); omega) ?_
  show PW _ _ _ 74 [some (.ref 54), some (.int 5), some (.int 0), some (.int xx), some (.int b), some (.int (nI d)), some (.int 0), some (.int 1)] [] (E (tr 56 435 x (1 :: l)) y)
  refine PW_iload_n c_B_call_74 rfl ?_
  refine PW_iconst (v := 2) c_B_call_75 (by decide) ?_
  refine PW_icmp_eq c_B_call_76 (fun h14 => absurd h14 (by decide)) (fun _ => ?_)
  refine PW_iload_n c_B_call_79 rfl ?_
  refine PW_iconst (v := 3) c_B_call_80 (by decide) ?_
  refine PW_icmp_ne c_B_call_81 (fun _ => ?_) (fun h15 => absurd h15 (by decide))
  refine PW_aload_n c_B_call_105 rfl ?_
  refine PW_iload c_B_call_106 rfl ?_
  refine PW_iload c_B_call_108 rfl ?_
  refine PW_S0 (d2 := 0) (st := [.int 1, .ref 54]) [.int 0] c_B_call_110 lk_B_call_22 rfl rfl rfl (Nat.le_of_ble_eq_true rfl) (by first | decide | omega) (Nat.le_of_ble_eq_true rfl) ?_
  refine sp_kab0 ?_
  show PW _ _ _ 113 [some (.ref 54), some (.int 5), some (.int 0), some (.int xx), some (.int b), some (.int (nI d)), some (.int 0), some (.int 1)] [.int (-1), .int 1, .ref 54] (E (tr 56 435 x (1 :: l)) y)
  refine PW_iload_n c_B_call_113 rfl ?_
  refine PW_iload c_B_call_114 rfl ?_
  refine PW_iload c_B_call_116 rfl ?_
  refine PW_iconst (v := 1) c_B_call_118 (by decide) ?_
  refine PW_iadd c_B_call_119 ?_
  refine PW_V0 (d2 := 4) (st := []) [.int 1, .int (-1), .int xx, .int b, .int ((nI d) + 1)] c_B_call_120 lk_B_call_60 (po_54 _ _) rfl rfl rfl (Nat.le_of_ble_eq_true rfl) (by first | decide | omega) (Nat.le_of_ble_eq_true rfl) ?_
  show PW _ _ _ 0 [some (.ref 54), some (.int 1), some (.int (-1)), some (.int xx), some (.int b), some (.int ((nI d) + 1)), none] [] (E (tr 56 435 x (1 :: l)) y)
  refine PW_aload_n c_B_runFirst_0 rfl ?_
  refine PW_iload c_B_runFirst_1 rfl ?_
  refine PW_V0 (d2 := 1) (st := []) [.int b] c_B_runFirst_3 lk_B_runFirst_42 (po_54 _ _) rfl rfl rfl (Nat.le_of_ble_eq_true rfl) (by first | decide | omega) (Nat.le_of_ble_eq_true rfl) ?_
  refine sp_kof K ?_
  show PW _ _ _ 6 [some (.ref 54), some (.int 1), some (.int (-1)), some (.int xx), some (.int b), some (.int ((nI d) + 1)), none] [.int 5] (E (tr 56 435 x (1 :: l)) y)
  refine PW_istore (i := 6) (L2 := [some (.ref 54), some (.int 1), some (.int (-1)), some (.int xx), some (.int b), some (.int ((nI d) + 1)), some (.int 5)]) c_B_runFirst_6 (Nat.le_of_ble_eq_true rfl) rfl rfl ?_
  refine PW_iload_n c_B_runFirst_8 rfl ?_
  refine PW_lookup (tgt := 84) c_B_runFirst_9 (by decide) rfl rfl ?_
  refine PW_iload_n c_B_runFirst_84 rfl ?_
  refine PW_iload c_B_runFirst_85 rfl ?_
  refine PW_iadd c_B_runFirst_87 ?_
  refine PW_ireturn (ty := .int) c_B_runFirst_88 rfl rfl ?_
  show PW _ _ _ 123 [some (.ref 54), some (.int 5), some (.int 0), some (.int xx), some (.int b), some (.int (nI d)), some (.int 0), some (.int 1)] [.int (xx + b)] (E (tr 56 435 x (1 :: l)) y)
  refine PW_ireturn (ty := .int) c_B_call_123 rfl rfl ?_
  exact h
theorem sp_call_5_0_1 {z : ZS} {post : Option Value → List PE → Prop} {x y : XS} {l : List Int32} {b xx dp : Int32} {d : Nat} (K : kb x b 5) (ed : dp = nI d) (hd : d + 2 ≤ 30) (hl : l.length + 2 ≤ 24) (h : post (some (.int ((xx + b) * 2))) (E (tr 56 435 x (1 :: 10 :: l)) y)) : PW (7, 0, 0, z) m_B_call post 0 [some (.ref 54), some (.int 0), some (.int 1), some (.int xx), some (.int b), some (.int dp), none, none] [] (E (tr 56 435 x l) y) := by
  subst ed
  refine PW_iload_n c_B_call_0 rfl ?_
  refine PW_istore (i := 6) (L2 := [some (.ref 54), some (.int 0), some (.int 1), some (.int xx), some (.int b), some (.int (nI d)), some (.int 0), none]) c_B_call_1 (Nat.le_of_ble_eq_true rfl) rfl rfl ?_
  refine PW_iconst (v := 0) c_B_call_3 (by decide) ?_
  refine PW_istore (i := 7) (L2 := [some (.ref 54), some (.int 0), some (.int 1), some (.int xx), some (.int b), some (.int (nI d)), some (.int 0), some (.int 0)]) c_B_call_4 (Nat.le_of_ble_eq_true rfl) rfl rfl ?_
  refine PW_iload c_B_call_6 rfl ?_
  refine PW_bipush (v := 8) c_B_call_8 (by decide) ?_
  refine PW_icmp_ge c_B_call_10 (fun h0 => absurd h0 (by decide)) (fun _ => ?_)
  refine PW_iload c_B_call_13 rfl ?_
  refine PW_S0 (d2 := 0) (st := []) [.int 0] c_B_call_15 lk_B_call_18 rfl rfl rfl (Nat.le_of_ble_eq_true rfl) (by first | decide | omega) (Nat.le_of_ble_eq_true rfl) ?_
  refine sp_B_isKind  ?_
  show PW _ _ _ 18 [some (.ref 54), some (.int 0), some (.int 1), some (.int xx), some (.int b), some (.int (nI d)), some (.int 0), some (.int 0)] [.int (b2i (0 ≤ (0 : Int32) ∧ (0 : Int32) ≤ 7))] (E (tr 56 435 x l) y)
  refine PW_if_eq c_B_call_18 (fun h1 => absurd (by decide) (b2i_0.mp h1)) (fun _ => ?_)
  refine PW_iload c_B_call_21 rfl ?_
  refine PW_iload_n c_B_call_23 rfl ?_
  refine PW_S0 (d2 := 1) (st := []) [.int 0, .int 1] c_B_call_24 lk_B_call_49 rfl rfl rfl (Nat.le_of_ble_eq_true rfl) (by first | decide | omega) (Nat.le_of_ble_eq_true rfl) ?_
  refine sp_own_0_1 ?_
  show PW _ _ _ 27 [some (.ref 54), some (.int 0), some (.int 1), some (.int xx), some (.int b), some (.int (nI d)), some (.int 0), some (.int 0)] [.int 10] (E (tr 56 435 x l) y)
  refine PW_if_ne c_B_call_27 (fun _ => ?_) (fun h2 => absurd h2 (by decide))
  refine PW_iload c_B_call_43 rfl ?_
  refine PW_S0 (d2 := 0) (st := []) [.int 0] c_B_call_45 lk_B_call_18 rfl rfl rfl (Nat.le_of_ble_eq_true rfl) (by first | decide | omega) (Nat.le_of_ble_eq_true rfl) ?_
  refine sp_B_isKind  ?_
  show PW _ _ _ 48 [some (.ref 54), some (.int 0), some (.int 1), some (.int xx), some (.int b), some (.int (nI d)), some (.int 0), some (.int 0)] [.int (b2i (0 ≤ (0 : Int32) ∧ (0 : Int32) ≤ 7))] (E (tr 56 435 x l) y)
  refine PW_if_eq c_B_call_48 (fun h3 => absurd (by decide) (b2i_0.mp h3)) (fun _ => ?_)
  refine PW_iload c_B_call_51 rfl ?_
  refine PW_bipush (v := 30) c_B_call_53 (by decide) ?_
  refine PW_icmp_lt c_B_call_55 (fun h4 => ?_) (fun h4 => absurd ((nI_ltI (by omega) (by decide)).mpr (by omega) : nI d < nI 30) h4)
  refine PW_iload c_B_call_60 rfl ?_
  refine PW_iload_n c_B_call_62 rfl ?_
  refine PW_S0 (d2 := 1) (st := []) [.int 0, .int 1] c_B_call_63 lk_B_call_49 rfl rfl rfl (Nat.le_of_ble_eq_true rfl) (by first | decide | omega) (Nat.le_of_ble_eq_true rfl) ?_
  refine sp_own_0_1 ?_
  show PW _ _ _ 66 [some (.ref 54), some (.int 0), some (.int 1), some (.int xx), some (.int b), some (.int (nI d)), some (.int 0), some (.int 0)] [.int 10] (E (tr 56 435 x l) y)
  refine PW_istore (i := 7) (L2 := [some (.ref 54), some (.int 0), some (.int 1), some (.int xx), some (.int b), some (.int (nI d)), some (.int 0), some (.int 10)]) c_B_call_66 (Nat.le_of_ble_eq_true rfl) rfl rfl ?_
  refine PW_aload_n c_B_call_68 rfl ?_
  refine PW_iload c_B_call_69 rfl ?_
  refine PW_V0 (d2 := 0) (st := []) [.int 10] c_B_call_71 lk_B_call_53 (po_54 _ _) rfl rfl rfl (Nat.le_of_ble_eq_true rfl) (by first | decide | omega) (Nat.le_of_ble_eq_true rfl) ?_
  refine sp_note (by (try simp only [List.length_cons]); omega) ?_
  show PW _ _ _ 74 [some (.ref 54), some (.int 0), some (.int 1), some (.int xx), some (.int b), some (.int (nI d)), some (.int 0), some (.int 10)] [] (E (tr 56 435 x (10 :: l)) y)
  refine PW_iload_n c_B_call_74 rfl ?_
  refine PW_iconst (v := 2) c_B_call_75 (by decide) ?_
  refine PW_icmp_eq c_B_call_76 (fun h5 => absurd h5 (by decide)) (fun _ => ?_)
  refine PW_iload_n c_B_call_79 rfl ?_
  refine PW_iconst (v := 3) c_B_call_80 (by decide) ?_
  refine PW_icmp_ne c_B_call_81 (fun _ => ?_) (fun h6 => absurd h6 (by decide))
  refine PW_aload_n c_B_call_105 rfl ?_
  refine PW_iload c_B_call_106 rfl ?_
  refine PW_iload c_B_call_108 rfl ?_
  refine PW_S0 (d2 := 0) (st := [.int 10, .ref 54]) [.int 0] c_B_call_110 lk_B_call_22 rfl rfl rfl (Nat.le_of_ble_eq_true rfl) (by first | decide | omega) (Nat.le_of_ble_eq_true rfl) ?_
  refine sp_kab0 ?_
  show PW _ _ _ 113 [some (.ref 54), some (.int 0), some (.int 1), some (.int xx), some (.int b), some (.int (nI d)), some (.int 0), some (.int 10)] [.int (-1), .int 10, .ref 54] (E (tr 56 435 x (10 :: l)) y)
  refine PW_iload_n c_B_call_113 rfl ?_
  refine PW_iload c_B_call_114 rfl ?_
  refine PW_iload c_B_call_116 rfl ?_
  refine PW_iconst (v := 1) c_B_call_118 (by decide) ?_
  refine PW_iadd c_B_call_119 ?_
  refine PW_V0 (d2 := 6) (st := []) [.int 10, .int (-1), .int xx, .int b, .int ((nI d) + 1)] c_B_call_120 lk_B_call_60 (po_54 _ _) rfl rfl rfl (Nat.le_of_ble_eq_true rfl) (by first | decide | omega) (Nat.le_of_ble_eq_true rfl) ?_
  show PW _ _ _ 0 [some (.ref 54), some (.int 10), some (.int (-1)), some (.int xx), some (.int b), some (.int ((nI d) + 1)), none] [] (E (tr 56 435 x (10 :: l)) y)
  refine PW_aload_n c_B_runFirst_0 rfl ?_
  refine PW_iload c_B_runFirst_1 rfl ?_
  refine PW_V0 (d2 := 1) (st := []) [.int b] c_B_runFirst_3 lk_B_runFirst_42 (po_54 _ _) rfl rfl rfl (Nat.le_of_ble_eq_true rfl) (by first | decide | omega) (Nat.le_of_ble_eq_true rfl) ?_
  refine sp_kof K ?_
  show PW _ _ _ 6 [some (.ref 54), some (.int 10), some (.int (-1)), some (.int xx), some (.int b), some (.int ((nI d) + 1)), none] [.int 5] (E (tr 56 435 x (10 :: l)) y)
  refine PW_istore (i := 6) (L2 := [some (.ref 54), some (.int 10), some (.int (-1)), some (.int xx), some (.int b), some (.int ((nI d) + 1)), some (.int 5)]) c_B_runFirst_6 (Nat.le_of_ble_eq_true rfl) rfl rfl ?_
  refine PW_iload_n c_B_runFirst_8 rfl ?_
  refine PW_lookup (tgt := 89) c_B_runFirst_9 (by decide) rfl rfl ?_
  refine PW_aload_n c_B_runFirst_89 rfl ?_
  refine PW_iload c_B_runFirst_90 rfl ?_
  refine PW_iconst (v := 0) c_B_runFirst_92 (by decide) ?_
  refine PW_iload_n c_B_runFirst_93 rfl ?_
  refine PW_iload c_B_runFirst_94 rfl ?_
  refine PW_iload c_B_runFirst_96 rfl ?_
  refine PW_V0 (d2 := 5) (st := []) [.int 5, .int 0, .int xx, .int b, .int ((nI d) + 1)] c_B_runFirst_98 lk_B_runFirst_45 (po_54 _ _) rfl rfl rfl (Nat.le_of_ble_eq_true rfl) (by first | decide | omega) (Nat.le_of_ble_eq_true rfl) ?_
  refine PW.deeper (k := (5, 0, 0, z)) (Nat.le_of_ble_eq_true rfl) (Nat.le_refl _) (Nat.le_refl _) ?_
  refine sp_call_5_5_0 K (nI_1 d) (by omega) (by (try simp only [List.length_cons]); omega) ?_
  show PW _ _ _ 101 [some (.ref 54), some (.int 10), some (.int (-1)), some (.int xx), some (.int b), some (.int ((nI d) + 1)), some (.int 5)] [.int (xx + b)] (E (tr 56 435 x (1 :: 10 :: l)) y)
  refine PW_iconst (v := 2) c_B_runFirst_101 (by decide) ?_
  refine PW_imul c_B_runFirst_102 ?_
  refine PW_ireturn (ty := .int) c_B_runFirst_103 rfl rfl ?_
  show PW _ _ _ 123 [some (.ref 54), some (.int 0), some (.int 1), some (.int xx), some (.int b), some (.int (nI d)), some (.int 0), some (.int 10)] [.int ((xx + b) * 2)] (E (tr 56 435 x (1 :: 10 :: l)) y)
  refine PW_ireturn (ty := .int) c_B_call_123 rfl rfl ?_
  exact h
theorem sp_call_5_2_1 {z : ZS} {post : Option Value → List PE → Prop} {x y : XS} {l : List Int32} {b xx dp : Int32} {d : Nat} (K : kb x b 5) (ed : dp = nI d) (hd : d + 3 ≤ 30) (hl : l.length + 3 ≤ 24) (h : post (some (.int (-((xx + b) * 2)))) (E (tr 56 435 x (1 :: 10 :: 30 :: l)) y)) : PW (9, 0, 0, z) m_B_call post 0 [some (.ref 54), some (.int 2), some (.int 1), some (.int xx), some (.int b), some (.int dp), none, none] [] (E (tr 56 435 x l) y) := by
  subst ed
  refine PW_iload_n c_B_call_0 rfl ?_
  refine PW_istore (i := 6) (L2 := [some (.ref 54), some (.int 2), some (.int 1), some (.int xx), some (.int b), some (.int (nI d)), some (.int 2), none]) c_B_call_1 (Nat.le_of_ble_eq_true rfl) rfl rfl ?_
  refine PW_iconst (v := 0) c_B_call_3 (by decide) ?_
  refine PW_istore (i := 7) (L2 := [some (.ref 54), some (.int 2), some (.int 1), some (.int xx), some (.int b), some (.int (nI d)), some (.int 2), some (.int 0)]) c_B_call_4 (Nat.le_of_ble_eq_true rfl) rfl rfl ?_
  refine PW_iload c_B_call_6 rfl ?_
  refine PW_bipush (v := 8) c_B_call_8 (by decide) ?_
  refine PW_icmp_ge c_B_call_10 (fun h0 => absurd h0 (by decide)) (fun _ => ?_)
  refine PW_iload c_B_call_13 rfl ?_
  refine PW_S0 (d2 := 0) (st := []) [.int 2] c_B_call_15 lk_B_call_18 rfl rfl rfl (Nat.le_of_ble_eq_true rfl) (by first | decide | omega) (Nat.le_of_ble_eq_true rfl) ?_
  refine sp_B_isKind  ?_
  show PW _ _ _ 18 [some (.ref 54), some (.int 2), some (.int 1), some (.int xx), some (.int b), some (.int (nI d)), some (.int 2), some (.int 0)] [.int (b2i (0 ≤ (2 : Int32) ∧ (2 : Int32) ≤ 7))] (E (tr 56 435 x l) y)
  refine PW_if_eq c_B_call_18 (fun h1 => absurd (by decide) (b2i_0.mp h1)) (fun _ => ?_)
  refine PW_iload c_B_call_21 rfl ?_
  refine PW_iload_n c_B_call_23 rfl ?_
  refine PW_S0 (d2 := 1) (st := []) [.int 2, .int 1] c_B_call_24 lk_B_call_49 rfl rfl rfl (Nat.le_of_ble_eq_true rfl) (by first | decide | omega) (Nat.le_of_ble_eq_true rfl) ?_
  refine sp_own_2_1 ?_
  show PW _ _ _ 27 [some (.ref 54), some (.int 2), some (.int 1), some (.int xx), some (.int b), some (.int (nI d)), some (.int 2), some (.int 0)] [.int 30] (E (tr 56 435 x l) y)
  refine PW_if_ne c_B_call_27 (fun _ => ?_) (fun h2 => absurd h2 (by decide))
  refine PW_iload c_B_call_43 rfl ?_
  refine PW_S0 (d2 := 0) (st := []) [.int 2] c_B_call_45 lk_B_call_18 rfl rfl rfl (Nat.le_of_ble_eq_true rfl) (by first | decide | omega) (Nat.le_of_ble_eq_true rfl) ?_
  refine sp_B_isKind  ?_
  show PW _ _ _ 48 [some (.ref 54), some (.int 2), some (.int 1), some (.int xx), some (.int b), some (.int (nI d)), some (.int 2), some (.int 0)] [.int (b2i (0 ≤ (2 : Int32) ∧ (2 : Int32) ≤ 7))] (E (tr 56 435 x l) y)
  refine PW_if_eq c_B_call_48 (fun h3 => absurd (by decide) (b2i_0.mp h3)) (fun _ => ?_)
  refine PW_iload c_B_call_51 rfl ?_
  refine PW_bipush (v := 30) c_B_call_53 (by decide) ?_
  refine PW_icmp_lt c_B_call_55 (fun h4 => ?_) (fun h4 => absurd ((nI_ltI (by omega) (by decide)).mpr (by omega) : nI d < nI 30) h4)
  refine PW_iload c_B_call_60 rfl ?_
  refine PW_iload_n c_B_call_62 rfl ?_
  refine PW_S0 (d2 := 1) (st := []) [.int 2, .int 1] c_B_call_63 lk_B_call_49 rfl rfl rfl (Nat.le_of_ble_eq_true rfl) (by first | decide | omega) (Nat.le_of_ble_eq_true rfl) ?_
  refine sp_own_2_1 ?_
  show PW _ _ _ 66 [some (.ref 54), some (.int 2), some (.int 1), some (.int xx), some (.int b), some (.int (nI d)), some (.int 2), some (.int 0)] [.int 30] (E (tr 56 435 x l) y)
  refine PW_istore (i := 7) (L2 := [some (.ref 54), some (.int 2), some (.int 1), some (.int xx), some (.int b), some (.int (nI d)), some (.int 2), some (.int 30)]) c_B_call_66 (Nat.le_of_ble_eq_true rfl) rfl rfl ?_
  refine PW_aload_n c_B_call_68 rfl ?_
  refine PW_iload c_B_call_69 rfl ?_
  refine PW_V0 (d2 := 0) (st := []) [.int 30] c_B_call_71 lk_B_call_53 (po_54 _ _) rfl rfl rfl (Nat.le_of_ble_eq_true rfl) (by first | decide | omega) (Nat.le_of_ble_eq_true rfl) ?_
  refine sp_note (by (try simp only [List.length_cons]); omega) ?_
  show PW _ _ _ 74 [some (.ref 54), some (.int 2), some (.int 1), some (.int xx), some (.int b), some (.int (nI d)), some (.int 2), some (.int 30)] [] (E (tr 56 435 x (30 :: l)) y)
  refine PW_iload_n c_B_call_74 rfl ?_
  refine PW_iconst (v := 2) c_B_call_75 (by decide) ?_
  refine PW_icmp_eq c_B_call_76 (fun h5 => absurd h5 (by decide)) (fun _ => ?_)
  refine PW_iload_n c_B_call_79 rfl ?_
  refine PW_iconst (v := 3) c_B_call_80 (by decide) ?_
  refine PW_icmp_ne c_B_call_81 (fun _ => ?_) (fun h6 => absurd h6 (by decide))
  refine PW_aload_n c_B_call_105 rfl ?_
  refine PW_iload c_B_call_106 rfl ?_
  refine PW_iload c_B_call_108 rfl ?_
  refine PW_S0 (d2 := 0) (st := [.int 30, .ref 54]) [.int 2] c_B_call_110 lk_B_call_22 rfl rfl rfl (Nat.le_of_ble_eq_true rfl) (by first | decide | omega) (Nat.le_of_ble_eq_true rfl) ?_
  refine sp_kab2 ?_
  show PW _ _ _ 113 [some (.ref 54), some (.int 2), some (.int 1), some (.int xx), some (.int b), some (.int (nI d)), some (.int 2), some (.int 30)] [.int 0, .int 30, .ref 54] (E (tr 56 435 x (30 :: l)) y)
  refine PW_iload_n c_B_call_113 rfl ?_
  refine PW_iload c_B_call_114 rfl ?_
  refine PW_iload c_B_call_116 rfl ?_
  refine PW_iconst (v := 1) c_B_call_118 (by decide) ?_
  refine PW_iadd c_B_call_119 ?_
  refine PW_V0 (d2 := 8) (st := []) [.int 30, .int 0, .int xx, .int b, .int ((nI d) + 1)] c_B_call_120 lk_B_call_60 (po_54 _ _) rfl rfl rfl (Nat.le_of_ble_eq_true rfl) (by first | decide | omega) (Nat.le_of_ble_eq_true rfl) ?_
  show PW _ _ _ 0 [some (.ref 54), some (.int 30), some (.int 0), some (.int xx), some (.int b), some (.int ((nI d) + 1)), none] [] (E (tr 56 435 x (30 :: l)) y)
  refine PW_aload_n c_B_runFirst_0 rfl ?_
  refine PW_iload c_B_runFirst_1 rfl ?_
  refine PW_V0 (d2 := 1) (st := []) [.int b] c_B_runFirst_3 lk_B_runFirst_42 (po_54 _ _) rfl rfl rfl (Nat.le_of_ble_eq_true rfl) (by first | decide | omega) (Nat.le_of_ble_eq_true rfl) ?_
  refine sp_kof K ?_
  show PW _ _ _ 6 [some (.ref 54), some (.int 30), some (.int 0), some (.int xx), some (.int b), some (.int ((nI d) + 1)), none] [.int 5] (E (tr 56 435 x (30 :: l)) y)
  refine PW_istore (i := 6) (L2 := [some (.ref 54), some (.int 30), some (.int 0), some (.int xx), some (.int b), some (.int ((nI d) + 1)), some (.int 5)]) c_B_runFirst_6 (Nat.le_of_ble_eq_true rfl) rfl rfl ?_
  refine PW_iload_n c_B_runFirst_8 rfl ?_
  refine PW_lookup (tgt := 118) c_B_runFirst_9 (by decide) rfl rfl ?_
  refine PW_aload_n c_B_runFirst_118 rfl ?_
  refine PW_iload_n c_B_runFirst_119 rfl ?_
  refine PW_iconst (v := 1) c_B_runFirst_120 (by decide) ?_
  refine PW_iload_n c_B_runFirst_121 rfl ?_
  refine PW_iload c_B_runFirst_122 rfl ?_
  refine PW_iload c_B_runFirst_124 rfl ?_
  refine PW_V0 (d2 := 7) (st := []) [.int 0, .int 1, .int xx, .int b, .int ((nI d) + 1)] c_B_runFirst_126 lk_B_runFirst_45 (po_54 _ _) rfl rfl rfl (Nat.le_of_ble_eq_true rfl) (by first | decide | omega) (Nat.le_of_ble_eq_true rfl) ?_
  refine PW.deeper (k := (7, 0, 0, z)) (Nat.le_of_ble_eq_true rfl) (Nat.le_refl _) (Nat.le_refl _) ?_
  refine sp_call_5_0_1 K (nI_1 d) (by omega) (by (try simp only [List.length_cons]); omega) ?_
  show PW _ _ _ 129 [some (.ref 54), some (.int 30), some (.int 0), some (.int xx), some (.int b), some (.int ((nI d) + 1)), some (.int 5)] [.int ((xx + b) * 2)] (E (tr 56 435 x (1 :: 10 :: 30 :: l)) y)
  refine PW_ineg c_B_runFirst_129 ?_
  refine PW_ireturn (ty := .int) c_B_runFirst_130 rfl rfl ?_
  show PW _ _ _ 123 [some (.ref 54), some (.int 2), some (.int 1), some (.int xx), some (.int b), some (.int (nI d)), some (.int 2), some (.int 30)] [.int (-((xx + b) * 2))] (E (tr 56 435 x (1 :: 10 :: 30 :: l)) y)
  refine PW_ireturn (ty := .int) c_B_call_123 rfl rfl ?_
  exact h
theorem sp_call_5_5_1 {z : ZS} {post : Option Value → List PE → Prop} {x y : XS} {l : List Int32} {b xx dp : Int32} {d : Nat} (K : kb x b 5) (ed : dp = nI d) (hd : d + 4 ≤ 30) (hl : l.length + 4 ≤ 24) (h : post (some (.int (-(((xx + 1) + b) * 2)))) (E (tr 56 435 x (1 :: 10 :: 30 :: 41 :: l)) y)) : PW (11, 0, 0, z) m_B_call post 0 [some (.ref 54), some (.int 5), some (.int 1), some (.int xx), some (.int b), some (.int dp), none, none] [] (E (tr 56 435 x l) y) := by
  subst ed
  refine PW_iload_n c_B_call_0 rfl ?_
  refine PW_istore (i := 6) (L2 := [some (.ref 54), some (.int 5), some (.int 1), some (.int xx), some (.int b), some (.int (nI d)), some (.int 5), none]) c_B_call_1 (Nat.le_of_ble_eq_true rfl) rfl rfl ?_
  refine PW_iconst (v := 0) c_B_call_3 (by decide) ?_
  refine PW_istore (i := 7) (L2 := [some (.ref 54), some (.int 5), some (.int 1), some (.int xx), some (.int b), some (.int (nI d)), some (.int 5), some (.int 0)]) c_B_call_4 (Nat.le_of_ble_eq_true rfl) rfl rfl ?_
  refine PW_iload c_B_call_6 rfl ?_
  refine PW_bipush (v := 8) c_B_call_8 (by decide) ?_
  refine PW_icmp_ge c_B_call_10 (fun h0 => absurd h0 (by decide)) (fun _ => ?_)
  refine PW_iload c_B_call_13 rfl ?_
  refine PW_S0 (d2 := 0) (st := []) [.int 5] c_B_call_15 lk_B_call_18 rfl rfl rfl (Nat.le_of_ble_eq_true rfl) (by first | decide | omega) (Nat.le_of_ble_eq_true rfl) ?_
  refine sp_B_isKind  ?_
  show PW _ _ _ 18 [some (.ref 54), some (.int 5), some (.int 1), some (.int xx), some (.int b), some (.int (nI d)), some (.int 5), some (.int 0)] [.int (b2i (0 ≤ (5 : Int32) ∧ (5 : Int32) ≤ 7))] (E (tr 56 435 x l) y)
  refine PW_if_eq c_B_call_18 (fun h1 => absurd (by decide) (b2i_0.mp h1)) (fun _ => ?_)
  refine PW_iload c_B_call_21 rfl ?_
  refine PW_iload_n c_B_call_23 rfl ?_
  refine PW_S0 (d2 := 1) (st := []) [.int 5, .int 1] c_B_call_24 lk_B_call_49 rfl rfl rfl (Nat.le_of_ble_eq_true rfl) (by first | decide | omega) (Nat.le_of_ble_eq_true rfl) ?_
  refine sp_own_5_1 ?_
  show PW _ _ _ 27 [some (.ref 54), some (.int 5), some (.int 1), some (.int xx), some (.int b), some (.int (nI d)), some (.int 5), some (.int 0)] [.int 0] (E (tr 56 435 x l) y)
  refine PW_if_ne c_B_call_27 (fun h2 => absurd (by decide) h2) (fun _ => ?_)
  refine PW_iload c_B_call_30 rfl ?_
  refine PW_S0 (d2 := 0) (st := []) [.int 5] c_B_call_32 lk_B_call_22 rfl rfl rfl (Nat.le_of_ble_eq_true rfl) (by first | decide | omega) (Nat.le_of_ble_eq_true rfl) ?_
  refine sp_kab5 ?_
  show PW _ _ _ 35 [some (.ref 54), some (.int 5), some (.int 1), some (.int xx), some (.int b), some (.int (nI d)), some (.int 5), some (.int 0)] [.int 3] (E (tr 56 435 x l) y)
  refine PW_istore (i := 6) (L2 := [some (.ref 54), some (.int 5), some (.int 1), some (.int xx), some (.int b), some (.int (nI d)), some (.int 3), some (.int 0)]) c_B_call_35 (Nat.le_of_ble_eq_true rfl) rfl rfl ?_
  refine PW_iinc (i := 7) (v := 1) (L2 := [some (.ref 54), some (.int 5), some (.int 1), some (.int xx), some (.int b), some (.int (nI d)), some (.int 3), some (.int 1)]) c_B_call_37 rfl (by decide) (Nat.le_of_ble_eq_true rfl) rfl rfl ?_
  refine PW_goto c_B_call_40 ?_
  refine PW_iload c_B_call_6 rfl ?_
  refine PW_bipush (v := 8) c_B_call_8 (by decide) ?_
  refine PW_icmp_ge c_B_call_10 (fun h3 => absurd h3 (by decide)) (fun _ => ?_)
  refine PW_iload c_B_call_13 rfl ?_
  refine PW_S0 (d2 := 0) (st := []) [.int 3] c_B_call_15 lk_B_call_18 rfl rfl rfl (Nat.le_of_ble_eq_true rfl) (by first | decide | omega) (Nat.le_of_ble_eq_true rfl) ?_
  refine sp_B_isKind  ?_
  show PW _ _ _ 18 [some (.ref 54), some (.int 5), some (.int 1), some (.int xx), some (.int b), some (.int (nI d)), some (.int 3), some (.int 1)] [.int (b2i (0 ≤ (3 : Int32) ∧ (3 : Int32) ≤ 7))] (E (tr 56 435 x l) y)
  refine PW_if_eq c_B_call_18 (fun h4 => absurd (by decide) (b2i_0.mp h4)) (fun _ => ?_)
  refine PW_iload c_B_call_21 rfl ?_
  refine PW_iload_n c_B_call_23 rfl ?_
  refine PW_S0 (d2 := 1) (st := []) [.int 3, .int 1] c_B_call_24 lk_B_call_49 rfl rfl rfl (Nat.le_of_ble_eq_true rfl) (by first | decide | omega) (Nat.le_of_ble_eq_true rfl) ?_
  refine sp_own_3_1 ?_
  show PW _ _ _ 27 [some (.ref 54), some (.int 5), some (.int 1), some (.int xx), some (.int b), some (.int (nI d)), some (.int 3), some (.int 1)] [.int 41] (E (tr 56 435 x l) y)
  refine PW_if_ne c_B_call_27 (fun _ => ?_) (fun h5 => absurd h5 (by decide))
  refine PW_iload c_B_call_43 rfl ?_
  refine PW_S0 (d2 := 0) (st := []) [.int 3] c_B_call_45 lk_B_call_18 rfl rfl rfl (Nat.le_of_ble_eq_true rfl) (by first | decide | omega) (Nat.le_of_ble_eq_true rfl) ?_
  refine sp_B_isKind  ?_
  show PW _ _ _ 48 [some (.ref 54), some (.int 5), some (.int 1), some (.int xx), some (.int b), some (.int (nI d)), some (.int 3), some (.int 1)] [.int (b2i (0 ≤ (3 : Int32) ∧ (3 : Int32) ≤ 7))] (E (tr 56 435 x l) y)
  refine PW_if_eq c_B_call_48 (fun h6 => absurd (by decide) (b2i_0.mp h6)) (fun _ => ?_)
  refine PW_iload c_B_call_51 rfl ?_
  refine PW_bipush (v := 30) c_B_call_53 (by decide) ?_
  refine PW_icmp_lt c_B_call_55 (fun h7 => ?_) (fun h7 => absurd ((nI_ltI (by omega) (by decide)).mpr (by omega) : nI d < nI 30) h7)
  refine PW_iload c_B_call_60 rfl ?_
  refine PW_iload_n c_B_call_62 rfl ?_
  refine PW_S0 (d2 := 1) (st := []) [.int 3, .int 1] c_B_call_63 lk_B_call_49 rfl rfl rfl (Nat.le_of_ble_eq_true rfl) (by first | decide | omega) (Nat.le_of_ble_eq_true rfl) ?_
  refine sp_own_3_1 ?_
  show PW _ _ _ 66 [some (.ref 54), some (.int 5), some (.int 1), some (.int xx), some (.int b), some (.int (nI d)), some (.int 3), some (.int 1)] [.int 41] (E (tr 56 435 x l) y)
  refine PW_istore (i := 7) (L2 := [some (.ref 54), some (.int 5), some (.int 1), some (.int xx), some (.int b), some (.int (nI d)), some (.int 3), some (.int 41)]) c_B_call_66 (Nat.le_of_ble_eq_true rfl) rfl rfl ?_
  refine PW_aload_n c_B_call_68 rfl ?_
  refine PW_iload c_B_call_69 rfl ?_
  refine PW_V0 (d2 := 0) (st := []) [.int 41] c_B_call_71 lk_B_call_53 (po_54 _ _) rfl rfl rfl (Nat.le_of_ble_eq_true rfl) (by first | decide | omega) (Nat.le_of_ble_eq_true rfl) ?_
  refine sp_note (by (try simp only [List.length_cons]); omega) ?_
  show PW _ _ _ 74 [some (.ref 54), some (.int 5), some (.int 1), some (.int xx), some (.int b), some (.int (nI d)), some (.int 3), some (.int 41)] [] (E (tr 56 435 x (41 :: l)) y)
  refine PW_iload_n c_B_call_74 rfl ?_
  refine PW_iconst (v := 2) c_B_call_75 (by decide) ?_
  refine PW_icmp_eq c_B_call_76 (fun h8 => absurd h8 (by decide)) (fun _ => ?_)
  refine PW_iload_n c_B_call_79 rfl ?_
  refine PW_iconst (v := 3) c_B_call_80 (by decide) ?_
  refine PW_icmp_ne c_B_call_81 (fun _ => ?_) (fun h9 => absurd h9 (by decide))
  refine PW_aload_n c_B_call_105 rfl ?_
  refine PW_iload c_B_call_106 rfl ?_
  refine PW_iload c_B_call_108 rfl ?_
  refine PW_S0 (d2 := 0) (st := [.int 41, .ref 54]) [.int 3] c_B_call_110 lk_B_call_22 rfl rfl rfl (Nat.le_of_ble_eq_true rfl) (by first | decide | omega) (Nat.le_of_ble_eq_true rfl) ?_
  refine sp_kab3 ?_
  show PW _ _ _ 113 [some (.ref 54), some (.int 5), some (.int 1), some (.int xx), some (.int b), some (.int (nI d)), some (.int 3), some (.int 41)] [.int 2, .int 41, .ref 54] (E (tr 56 435 x (41 :: l)) y)
  refine PW_iload_n c_B_call_113 rfl ?_
  refine PW_iload c_B_call_114 rfl ?_
  refine PW_iload c_B_call_116 rfl ?_
  refine PW_iconst (v := 1) c_B_call_118 (by decide) ?_
  refine PW_iadd c_B_call_119 ?_
  refine PW_V0 (d2 := 10) (st := []) [.int 41, .int 2, .int xx, .int b, .int ((nI d) + 1)] c_B_call_120 lk_B_call_60 (po_54 _ _) rfl rfl rfl (Nat.le_of_ble_eq_true rfl) (by first | decide | omega) (Nat.le_of_ble_eq_true rfl) ?_
  show PW _ _ _ 0 [some (.ref 54), some (.int 41), some (.int 2), some (.int xx), some (.int b), some (.int ((nI d) + 1)), none] [] (E (tr 56 435 x (41 :: l)) y)
  refine PW_aload_n c_B_runFirst_0 rfl ?_
  refine PW_iload c_B_runFirst_1 rfl ?_
  refine PW_V0 (d2 := 1) (st := []) [.int b] c_B_runFirst_3 lk_B_runFirst_42 (po_54 _ _) rfl rfl rfl (Nat.le_of_ble_eq_true rfl) (by first | decide | omega) (Nat.le_of_ble_eq_true rfl) ?_
  refine sp_kof K ?_
  show PW _ _ _ 6 [some (.ref 54), some (.int 41), some (.int 2), some (.int xx), some (.int b), some (.int ((nI d) + 1)), none] [.int 5] (E (tr 56 435 x (41 :: l)) y)
  refine PW_istore (i := 6) (L2 := [some (.ref 54), some (.int 41), some (.int 2), some (.int xx), some (.int b), some (.int ((nI d) + 1)), some (.int 5)]) c_B_runFirst_6 (Nat.le_of_ble_eq_true rfl) rfl rfl ?_
  refine PW_iload_n c_B_runFirst_8 rfl ?_
  refine PW_lookup (tgt := 131) c_B_runFirst_9 (by decide) rfl rfl ?_
  refine PW_aload_n c_B_runFirst_131 rfl ?_
  refine PW_iload_n c_B_runFirst_132 rfl ?_
  refine PW_iconst (v := 1) c_B_runFirst_133 (by decide) ?_
  refine PW_iload_n c_B_runFirst_134 rfl ?_
  refine PW_iconst (v := 1) c_B_runFirst_135 (by decide) ?_
  refine PW_iadd c_B_runFirst_136 ?_
  refine PW_iload c_B_runFirst_137 rfl ?_
  refine PW_iload c_B_runFirst_139 rfl ?_
  refine PW_V0 (d2 := 9) (st := []) [.int 2, .int 1, .int (xx + 1), .int b, .int ((nI d) + 1)] c_B_runFirst_141 lk_B_runFirst_45 (po_54 _ _) rfl rfl rfl (Nat.le_of_ble_eq_true rfl) (by first | decide | omega) (Nat.le_of_ble_eq_true rfl) ?_
  refine PW.deeper (k := (9, 0, 0, z)) (Nat.le_of_ble_eq_true rfl) (Nat.le_refl _) (Nat.le_refl _) ?_
  refine sp_call_5_2_1 K (nI_1 d) (by omega) (by (try simp only [List.length_cons]); omega) ?_
  show PW _ _ _ 144 [some (.ref 54), some (.int 41), some (.int 2), some (.int xx), some (.int b), some (.int ((nI d) + 1)), some (.int 5)] [.int (-(((xx + 1) + b) * 2))] (E (tr 56 435 x (1 :: 10 :: 30 :: 41 :: l)) y)
  refine PW_ireturn (ty := .int) c_B_runFirst_144 rfl rfl ?_
  show PW _ _ _ 123 [some (.ref 54), some (.int 5), some (.int 1), some (.int xx), some (.int b), some (.int (nI d)), some (.int 3), some (.int 41)] [.int (-(((xx + 1) + b) * 2))] (E (tr 56 435 x (1 :: 10 :: 30 :: 41 :: l)) y)
  refine PW_ireturn (ty := .int) c_B_call_123 rfl rfl ?_
  exact h
theorem sp_call_5_2_2 {z : ZS} {post : Option Value → List PE → Prop} {x y : XS} {l : List Int32} {b xx dp : Int32} {d : Nat} (K : kb x b 5) (ed : dp = nI d) (hd : d + 1 ≤ 30) (hl : l.length + 1 ≤ 24) (h : post (some (.int (xx ^^^ b))) (E (tr 56 435 x (11 :: l)) y)) : PW (5, 0, 0, z) m_B_call post 0 [some (.ref 54), some (.int 2), some (.int 2), some (.int xx), some (.int b), some (.int dp), none, none] [] (E (tr 56 435 x l) y) := by
  subst ed
  refine PW_iload_n c_B_call_0 rfl ?_
  refine PW_istore (i := 6) (L2 := [some (.ref 54), some (.int 2), some (.int 2), some (.int xx), some (.int b), some (.int (nI d)), some (.int 2), none]) c_B_call_1 (Nat.le_of_ble_eq_true rfl) rfl rfl ?_
  refine PW_iconst (v := 0) c_B_call_3 (by decide) ?_
  refine PW_istore (i := 7) (L2 := [some (.ref 54), some (.int 2), some (.int 2), some (.int xx), some (.int b), some (.int (nI d)), some (.int 2), some (.int 0)]) c_B_call_4 (Nat.le_of_ble_eq_true rfl) rfl rfl ?_
  refine PW_iload c_B_call_6 rfl ?_
  refine PW_bipush (v := 8) c_B_call_8 (by decide) ?_
  refine PW_icmp_ge c_B_call_10 (fun h0 => absurd h0 (by decide)) (fun _ => ?_)
  refine PW_iload c_B_call_13 rfl ?_
  refine PW_S0 (d2 := 0) (st := []) [.int 2] c_B_call_15 lk_B_call_18 rfl rfl rfl (Nat.le_of_ble_eq_true rfl) (by first | decide | omega) (Nat.le_of_ble_eq_true rfl) ?_
  refine sp_B_isKind  ?_
  show PW _ _ _ 18 [some (.ref 54), some (.int 2), some (.int 2), some (.int xx), some (.int b), some (.int (nI d)), some (.int 2), some (.int 0)] [.int (b2i (0 ≤ (2 : Int32) ∧ (2 : Int32) ≤ 7))] (E (tr 56 435 x l) y)
  refine PW_if_eq c_B_call_18 (fun h1 => absurd (by decide) (b2i_0.mp h1)) (fun _ => ?_)
  refine PW_iload c_B_call_21 rfl ?_
  refine PW_iload_n c_B_call_23 rfl ?_
  refine PW_S0 (d2 := 1) (st := []) [.int 2, .int 2] c_B_call_24 lk_B_call_49 rfl rfl rfl (Nat.le_of_ble_eq_true rfl) (by first | decide | omega) (Nat.le_of_ble_eq_true rfl) ?_
  refine sp_own_2_2 ?_
  show PW _ _ _ 27 [some (.ref 54), some (.int 2), some (.int 2), some (.int xx), some (.int b), some (.int (nI d)), some (.int 2), some (.int 0)] [.int 0] (E (tr 56 435 x l) y)
  refine PW_if_ne c_B_call_27 (fun h2 => absurd (by decide) h2) (fun _ => ?_)
  refine PW_iload c_B_call_30 rfl ?_
  refine PW_S0 (d2 := 0) (st := []) [.int 2] c_B_call_32 lk_B_call_22 rfl rfl rfl (Nat.le_of_ble_eq_true rfl) (by first | decide | omega) (Nat.le_of_ble_eq_true rfl) ?_
  refine sp_kab2 ?_
  show PW _ _ _ 35 [some (.ref 54), some (.int 2), some (.int 2), some (.int xx), some (.int b), some (.int (nI d)), some (.int 2), some (.int 0)] [.int 0] (E (tr 56 435 x l) y)
  refine PW_istore (i := 6) (L2 := [some (.ref 54), some (.int 2), some (.int 2), some (.int xx), some (.int b), some (.int (nI d)), some (.int 0), some (.int 0)]) c_B_call_35 (Nat.le_of_ble_eq_true rfl) rfl rfl ?_
  refine PW_iinc (i := 7) (v := 1) (L2 := [some (.ref 54), some (.int 2), some (.int 2), some (.int xx), some (.int b), some (.int (nI d)), some (.int 0), some (.int 1)]) c_B_call_37 rfl (by decide) (Nat.le_of_ble_eq_true rfl) rfl rfl ?_
  refine PW_goto c_B_call_40 ?_
  refine PW_iload c_B_call_6 rfl ?_
  refine PW_bipush (v := 8) c_B_call_8 (by decide) ?_
  refine PW_icmp_ge c_B_call_10 (fun h3 => absurd h3 (by decide)) (fun _ => ?_)
  refine PW_iload c_B_call_13 rfl ?_
  refine PW_S0 (d2 := 0) (st := []) [.int 0] c_B_call_15 lk_B_call_18 rfl rfl rfl (Nat.le_of_ble_eq_true rfl) (by first | decide | omega) (Nat.le_of_ble_eq_true rfl) ?_
  refine sp_B_isKind  ?_
  show PW _ _ _ 18 [some (.ref 54), some (.int 2), some (.int 2), some (.int xx), some (.int b), some (.int (nI d)), some (.int 0), some (.int 1)] [.int (b2i (0 ≤ (0 : Int32) ∧ (0 : Int32) ≤ 7))] (E (tr 56 435 x l) y)
  refine PW_if_eq c_B_call_18 (fun h4 => absurd (by decide) (b2i_0.mp h4)) (fun _ => ?_)
  refine PW_iload c_B_call_21 rfl ?_
  refine PW_iload_n c_B_call_23 rfl ?_
  refine PW_S0 (d2 := 1) (st := []) [.int 0, .int 2] c_B_call_24 lk_B_call_49 rfl rfl rfl (Nat.le_of_ble_eq_true rfl) (by first | decide | omega) (Nat.le_of_ble_eq_true rfl) ?_
  refine sp_own_0_2 ?_
  show PW _ _ _ 27 [some (.ref 54), some (.int 2), some (.int 2), some (.int xx), some (.int b), some (.int (nI d)), some (.int 0), some (.int 1)] [.int 11] (E (tr 56 435 x l) y)
  refine PW_if_ne c_B_call_27 (fun _ => ?_) (fun h5 => absurd h5 (by decide))
  refine PW_iload c_B_call_43 rfl ?_
  refine PW_S0 (d2 := 0) (st := []) [.int 0] c_B_call_45 lk_B_call_18 rfl rfl rfl (Nat.le_of_ble_eq_true rfl) (by first | decide | omega) (Nat.le_of_ble_eq_true rfl) ?_
  refine sp_B_isKind  ?_
  show PW _ _ _ 48 [some (.ref 54), some (.int 2), some (.int 2), some (.int xx), some (.int b), some (.int (nI d)), some (.int 0), some (.int 1)] [.int (b2i (0 ≤ (0 : Int32) ∧ (0 : Int32) ≤ 7))] (E (tr 56 435 x l) y)
  refine PW_if_eq c_B_call_48 (fun h6 => absurd (by decide) (b2i_0.mp h6)) (fun _ => ?_)
  refine PW_iload c_B_call_51 rfl ?_
  refine PW_bipush (v := 30) c_B_call_53 (by decide) ?_
  refine PW_icmp_lt c_B_call_55 (fun h7 => ?_) (fun h7 => absurd ((nI_ltI (by omega) (by decide)).mpr (by omega) : nI d < nI 30) h7)
  refine PW_iload c_B_call_60 rfl ?_
  refine PW_iload_n c_B_call_62 rfl ?_
  refine PW_S0 (d2 := 1) (st := []) [.int 0, .int 2] c_B_call_63 lk_B_call_49 rfl rfl rfl (Nat.le_of_ble_eq_true rfl) (by first | decide | omega) (Nat.le_of_ble_eq_true rfl) ?_
  refine sp_own_0_2 ?_
  show PW _ _ _ 66 [some (.ref 54), some (.int 2), some (.int 2), some (.int xx), some (.int b), some (.int (nI d)), some (.int 0), some (.int 1)] [.int 11] (E (tr 56 435 x l) y)
  refine PW_istore (i := 7) (L2 := [some (.ref 54), some (.int 2), some (.int 2), some (.int xx), some (.int b), some (.int (nI d)), some (.int 0), some (.int 11)]) c_B_call_66 (Nat.le_of_ble_eq_true rfl) rfl rfl ?_
  refine PW_aload_n c_B_call_68 rfl ?_
  refine PW_iload c_B_call_69 rfl ?_
  refine PW_V0 (d2 := 0) (st := []) [.int 11] c_B_call_71 lk_B_call_53 (po_54 _ _) rfl rfl rfl (Nat.le_of_ble_eq_true rfl) (by first | decide | omega) (Nat.le_of_ble_eq_true rfl) ?_
  refine sp_note (by (try simp only [List.length_cons]); omega) ?_
  show PW _ _ _ 74 [some (.ref 54), some (.int 2), some (.int 2), some (.int xx), some (.int b), some (.int (nI d)), some (.int 0), some (.int 11)] [] (E (tr 56 435 x (11 :: l)) y)
  refine PW_iload_n c_B_call_74 rfl ?_
  refine PW_iconst (v := 2) c_B_call_75 (by decide) ?_
  refine PW_icmp_eq c_B_call_76 (fun _ => ?_) (fun h8 => absurd (by decide) h8)
  refine PW_aload_n c_B_call_84 rfl ?_
  refine PW_iload c_B_call_85 rfl ?_
  refine PW_iload c_B_call_87 rfl ?_
  refine PW_S0 (d2 := 0) (st := [.int 11, .ref 54]) [.int 0] c_B_call_89 lk_B_call_22 rfl rfl rfl (Nat.le_of_ble_eq_true rfl) (by first | decide | omega) (Nat.le_of_ble_eq_true rfl) ?_
  refine sp_kab0 ?_
  show PW _ _ _ 92 [some (.ref 54), some (.int 2), some (.int 2), some (.int xx), some (.int b), some (.int (nI d)), some (.int 0), some (.int 11)] [.int (-1), .int 11, .ref 54] (E (tr 56 435 x (11 :: l)) y)
  refine PW_iload_n c_B_call_92 rfl ?_
  refine PW_iload c_B_call_93 rfl ?_
  refine PW_iload c_B_call_95 rfl ?_
  refine PW_iconst (v := 1) c_B_call_97 (by decide) ?_
  refine PW_iadd c_B_call_98 ?_
  refine PW_V0 (d2 := 4) (st := []) [.int 11, .int (-1), .int xx, .int b, .int ((nI d) + 1)] c_B_call_99 lk_B_call_57 (po_54 _ _) rfl rfl rfl (Nat.le_of_ble_eq_true rfl) (by first | decide | omega) (Nat.le_of_ble_eq_true rfl) ?_
  show PW _ _ _ 0 [some (.ref 54), some (.int 11), some (.int (-1)), some (.int xx), some (.int b), some (.int ((nI d) + 1)), none] [] (E (tr 56 435 x (11 :: l)) y)
  refine PW_aload_n c_B_runLater_0 rfl ?_
  refine PW_iload c_B_runLater_1 rfl ?_
  refine PW_V0 (d2 := 1) (st := []) [.int b] c_B_runLater_3 lk_B_runLater_42 (po_54 _ _) rfl rfl rfl (Nat.le_of_ble_eq_true rfl) (by first | decide | omega) (Nat.le_of_ble_eq_true rfl) ?_
  refine sp_kof K ?_
  show PW _ _ _ 6 [some (.ref 54), some (.int 11), some (.int (-1)), some (.int xx), some (.int b), some (.int ((nI d) + 1)), none] [.int 5] (E (tr 56 435 x (11 :: l)) y)
  refine PW_istore (i := 6) (L2 := [some (.ref 54), some (.int 11), some (.int (-1)), some (.int xx), some (.int b), some (.int ((nI d) + 1)), some (.int 5)]) c_B_runLater_6 (Nat.le_of_ble_eq_true rfl) rfl rfl ?_
  refine PW_iload_n c_B_runLater_8 rfl ?_
  refine PW_lookup (tgt := 94) c_B_runLater_9 (by decide) rfl rfl ?_
  refine PW_iload_n c_B_runLater_94 rfl ?_
  refine PW_iload c_B_runLater_95 rfl ?_
  refine PW_ixor c_B_runLater_97 ?_
  refine PW_ireturn (ty := .int) c_B_runLater_98 rfl rfl ?_
  show PW _ _ _ 102 [some (.ref 54), some (.int 2), some (.int 2), some (.int xx), some (.int b), some (.int (nI d)), some (.int 0), some (.int 11)] [.int (xx ^^^ b)] (E (tr 56 435 x (11 :: l)) y)
  refine PW_goto c_B_call_102 ?_
  refine PW_ireturn (ty := .int) c_B_call_123 rfl rfl ?_
  exact h
theorem sp_call_5_3_2 {z : ZS} {post : Option Value → List PE → Prop} {x y : XS} {l : List Int32} {b xx dp : Int32} {d : Nat} (K : kb x b 5) (ed : dp = nI d) (hd : d + 2 ≤ 30) (hl : l.length + 2 ≤ 24) (h : post (some (.int ((xx ^^^ b) * 3))) (E (tr 56 435 x (11 :: 40 :: l)) y)) : PW (7, 0, 0, z) m_B_call post 0 [some (.ref 54), some (.int 3), some (.int 2), some (.int xx), some (.int b), some (.int dp), none, none] [] (E (tr 56 435 x l) y) := by
  subst ed
  refine PW_iload_n c_B_call_0 rfl ?_
  refine PW_istore (i := 6) (L2 := [some (.ref 54), some (.int 3), some (.int 2), some (.int xx), some (.int b), some (.int (nI d)), some (.int 3), none]) c_B_call_1 (Nat.le_of_ble_eq_true rfl) rfl rfl ?_
  refine PW_iconst (v := 0) c_B_call_3 (by decide) ?_
  refine PW_istore (i := 7) (L2 := [some (.ref 54), some (.int 3), some (.int 2), some (.int xx), some (.int b), some (.int (nI d)), some (.int 3), some (.int 0)]) c_B_call_4 (Nat.le_of_ble_eq_true rfl) rfl rfl ?_
  refine PW_iload c_B_call_6 rfl ?_
  refine PW_bipush (v := 8) c_B_call_8 (by decide) ?_
  refine PW_icmp_ge c_B_call_10 (fun h0 => absurd h0 (by decide)) (fun _ => ?_)
  refine PW_iload c_B_call_13 rfl ?_
  refine PW_S0 (d2 := 0) (st := []) [.int 3] c_B_call_15 lk_B_call_18 rfl rfl rfl (Nat.le_of_ble_eq_true rfl) (by first | decide | omega) (Nat.le_of_ble_eq_true rfl) ?_
  refine sp_B_isKind  ?_
  show PW _ _ _ 18 [some (.ref 54), some (.int 3), some (.int 2), some (.int xx), some (.int b), some (.int (nI d)), some (.int 3), some (.int 0)] [.int (b2i (0 ≤ (3 : Int32) ∧ (3 : Int32) ≤ 7))] (E (tr 56 435 x l) y)
  refine PW_if_eq c_B_call_18 (fun h1 => absurd (by decide) (b2i_0.mp h1)) (fun _ => ?_)
  refine PW_iload c_B_call_21 rfl ?_
  refine PW_iload_n c_B_call_23 rfl ?_
  refine PW_S0 (d2 := 1) (st := []) [.int 3, .int 2] c_B_call_24 lk_B_call_49 rfl rfl rfl (Nat.le_of_ble_eq_true rfl) (by first | decide | omega) (Nat.le_of_ble_eq_true rfl) ?_
  refine sp_own_3_2 ?_
  show PW _ _ _ 27 [some (.ref 54), some (.int 3), some (.int 2), some (.int xx), some (.int b), some (.int (nI d)), some (.int 3), some (.int 0)] [.int 40] (E (tr 56 435 x l) y)
  refine PW_if_ne c_B_call_27 (fun _ => ?_) (fun h2 => absurd h2 (by decide))
  refine PW_iload c_B_call_43 rfl ?_
  refine PW_S0 (d2 := 0) (st := []) [.int 3] c_B_call_45 lk_B_call_18 rfl rfl rfl (Nat.le_of_ble_eq_true rfl) (by first | decide | omega) (Nat.le_of_ble_eq_true rfl) ?_
  refine sp_B_isKind  ?_
  show PW _ _ _ 48 [some (.ref 54), some (.int 3), some (.int 2), some (.int xx), some (.int b), some (.int (nI d)), some (.int 3), some (.int 0)] [.int (b2i (0 ≤ (3 : Int32) ∧ (3 : Int32) ≤ 7))] (E (tr 56 435 x l) y)
  refine PW_if_eq c_B_call_48 (fun h3 => absurd (by decide) (b2i_0.mp h3)) (fun _ => ?_)
  refine PW_iload c_B_call_51 rfl ?_
  refine PW_bipush (v := 30) c_B_call_53 (by decide) ?_
  refine PW_icmp_lt c_B_call_55 (fun h4 => ?_) (fun h4 => absurd ((nI_ltI (by omega) (by decide)).mpr (by omega) : nI d < nI 30) h4)
  refine PW_iload c_B_call_60 rfl ?_
  refine PW_iload_n c_B_call_62 rfl ?_
  refine PW_S0 (d2 := 1) (st := []) [.int 3, .int 2] c_B_call_63 lk_B_call_49 rfl rfl rfl (Nat.le_of_ble_eq_true rfl) (by first | decide | omega) (Nat.le_of_ble_eq_true rfl) ?_
  refine sp_own_3_2 ?_
  show PW _ _ _ 66 [some (.ref 54), some (.int 3), some (.int 2), some (.int xx), some (.int b), some (.int (nI d)), some (.int 3), some (.int 0)] [.int 40] (E (tr 56 435 x l) y)
  refine PW_istore (i := 7) (L2 := [some (.ref 54), some (.int 3), some (.int 2), some (.int xx), some (.int b), some (.int (nI d)), some (.int 3), some (.int 40)]) c_B_call_66 (Nat.le_of_ble_eq_true rfl) rfl rfl ?_
  refine PW_aload_n c_B_call_68 rfl ?_
  refine PW_iload c_B_call_69 rfl ?_
  refine PW_V0 (d2 := 0) (st := []) [.int 40] c_B_call_71 lk_B_call_53 (po_54 _ _) rfl rfl rfl (Nat.le_of_ble_eq_true rfl) (by first | decide | omega) (Nat.le_of_ble_eq_true rfl) ?_
  refine sp_note (by (try simp only [List.length_cons]); omega) ?_
  show PW _ _ _ 74 [some (.ref 54), some (.int 3), some (.int 2), some (.int xx), some (.int b), some (.int (nI d)), some (.int 3), some (.int 40)] [] (E (tr 56 435 x (40 :: l)) y)
  refine PW_iload_n c_B_call_74 rfl ?_
  refine PW_iconst (v := 2) c_B_call_75 (by decide) ?_
  refine PW_icmp_eq c_B_call_76 (fun _ => ?_) (fun h5 => absurd (by decide) h5)
  refine PW_aload_n c_B_call_84 rfl ?_
  refine PW_iload c_B_call_85 rfl ?_
  refine PW_iload c_B_call_87 rfl ?_
  refine PW_S0 (d2 := 0) (st := [.int 40, .ref 54]) [.int 3] c_B_call_89 lk_B_call_22 rfl rfl rfl (Nat.le_of_ble_eq_true rfl) (by first | decide | omega) (Nat.le_of_ble_eq_true rfl) ?_
  refine sp_kab3 ?_
  show PW _ _ _ 92 [some (.ref 54), some (.int 3), some (.int 2), some (.int xx), some (.int b), some (.int (nI d)), some (.int 3), some (.int 40)] [.int 2, .int 40, .ref 54] (E (tr 56 435 x (40 :: l)) y)
  refine PW_iload_n c_B_call_92 rfl ?_
  refine PW_iload c_B_call_93 rfl ?_
  refine PW_iload c_B_call_95 rfl ?_
  refine PW_iconst (v := 1) c_B_call_97 (by decide) ?_
  refine PW_iadd c_B_call_98 ?_
  refine PW_V0 (d2 := 6) (st := []) [.int 40, .int 2, .int xx, .int b, .int ((nI d) + 1)] c_B_call_99 lk_B_call_57 (po_54 _ _) rfl rfl rfl (Nat.le_of_ble_eq_true rfl) (by first | decide | omega) (Nat.le_of_ble_eq_true rfl) ?_
  show PW _ _ _ 0 [some (.ref 54), some (.int 40), some (.int 2), some (.int xx), some (.int b), some (.int ((nI d) + 1)), none] [] (E (tr 56 435 x (40 :: l)) y)
  refine PW_aload_n c_B_runLater_0 rfl ?_
  refine PW_iload c_B_runLater_1 rfl ?_
  refine PW_V0 (d2 := 1) (st := []) [.int b] c_B_runLater_3 lk_B_runLater_42 (po_54 _ _) rfl rfl rfl (Nat.le_of_ble_eq_true rfl) (by first | decide | omega) (Nat.le_of_ble_eq_true rfl) ?_
  refine sp_kof K ?_
  show PW _ _ _ 6 [some (.ref 54), some (.int 40), some (.int 2), some (.int xx), some (.int b), some (.int ((nI d) + 1)), none] [.int 5] (E (tr 56 435 x (40 :: l)) y)
  refine PW_istore (i := 6) (L2 := [some (.ref 54), some (.int 40), some (.int 2), some (.int xx), some (.int b), some (.int ((nI d) + 1)), some (.int 5)]) c_B_runLater_6 (Nat.le_of_ble_eq_true rfl) rfl rfl ?_
  refine PW_iload_n c_B_runLater_8 rfl ?_
  refine PW_lookup (tgt := 99) c_B_runLater_9 (by decide) rfl rfl ?_
  refine PW_aload_n c_B_runLater_99 rfl ?_
  refine PW_iload_n c_B_runLater_100 rfl ?_
  refine PW_iconst (v := 2) c_B_runLater_101 (by decide) ?_
  refine PW_iload_n c_B_runLater_102 rfl ?_
  refine PW_iload c_B_runLater_103 rfl ?_
  refine PW_iload c_B_runLater_105 rfl ?_
  refine PW_V0 (d2 := 5) (st := []) [.int 2, .int 2, .int xx, .int b, .int ((nI d) + 1)] c_B_runLater_107 lk_B_runLater_45 (po_54 _ _) rfl rfl rfl (Nat.le_of_ble_eq_true rfl) (by first | decide | omega) (Nat.le_of_ble_eq_true rfl) ?_
  refine PW.deeper (k := (5, 0, 0, z)) (Nat.le_of_ble_eq_true rfl) (Nat.le_refl _) (Nat.le_refl _) ?_
  refine sp_call_5_2_2 K (nI_1 d) (by omega) (by (try simp only [List.length_cons]); omega) ?_
  show PW _ _ _ 110 [some (.ref 54), some (.int 40), some (.int 2), some (.int xx), some (.int b), some (.int ((nI d) + 1)), some (.int 5)] [.int (xx ^^^ b)] (E (tr 56 435 x (11 :: 40 :: l)) y)
  refine PW_iconst (v := 3) c_B_runLater_110 (by decide) ?_
  refine PW_imul c_B_runLater_111 ?_
  refine PW_ireturn (ty := .int) c_B_runLater_112 rfl rfl ?_
  show PW _ _ _ 102 [some (.ref 54), some (.int 3), some (.int 2), some (.int xx), some (.int b), some (.int (nI d)), some (.int 3), some (.int 40)] [.int ((xx ^^^ b) * 3)] (E (tr 56 435 x (11 :: 40 :: l)) y)
  refine PW_goto c_B_call_102 ?_
  refine PW_ireturn (ty := .int) c_B_call_123 rfl rfl ?_
  exact h
theorem sp_call_5_5_2 {z : ZS} {post : Option Value → List PE → Prop} {x y : XS} {l : List Int32} {b xx dp : Int32} {d : Nat} (K : kb x b 5) (ed : dp = nI d) (hd : d + 3 ≤ 30) (hl : l.length + 4 ≤ 24) (h : post (some (.int (((xx ^^^ b) * 3) - ((2 : Int32) + b)))) (E (tr 56 435 x (1 :: 11 :: 40 :: 60 :: l)) y)) : PW (9, 0, 0, z) m_B_call post 0 [some (.ref 54), some (.int 5), some (.int 2), some (.int xx), some (.int b), some (.int dp), none, none] [] (E (tr 56 435 x l) y) := by
  subst ed
  refine PW_iload_n c_B_call_0 rfl ?_
  refine PW_istore (i := 6) (L2 := [some (.ref 54), some (.int 5), some (.int 2), some (.int xx), some (.int b), some (.int (nI d)), some (.int 5), none]) c_B_call_1 (Nat.le_of_ble_eq_true rfl) rfl rfl ?_
  refine PW_iconst (v := 0) c_B_call_3 (by decide) ?_
  refine PW_istore (i := 7) (L2 := [some (.ref 54), some (.int 5), some (.int 2), some (.int xx), some (.int b), some (.int (nI d)), some (.int 5), some (.int 0)]) c_B_call_4 (Nat.le_of_ble_eq_true rfl) rfl rfl ?_
  refine PW_iload c_B_call_6 rfl ?_
  refine PW_bipush (v := 8) c_B_call_8 (by decide) ?_
  refine PW_icmp_ge c_B_call_10 (fun h0 => absurd h0 (by decide)) (fun _ => ?_)
  refine PW_iload c_B_call_13 rfl ?_
  refine PW_S0 (d2 := 0) (st := []) [.int 5] c_B_call_15 lk_B_call_18 rfl rfl rfl (Nat.le_of_ble_eq_true rfl) (by first | decide | omega) (Nat.le_of_ble_eq_true rfl) ?_
  refine sp_B_isKind  ?_
  show PW _ _ _ 18 [some (.ref 54), some (.int 5), some (.int 2), some (.int xx), some (.int b), some (.int (nI d)), some (.int 5), some (.int 0)] [.int (b2i (0 ≤ (5 : Int32) ∧ (5 : Int32) ≤ 7))] (E (tr 56 435 x l) y)
  refine PW_if_eq c_B_call_18 (fun h1 => absurd (by decide) (b2i_0.mp h1)) (fun _ => ?_)
  refine PW_iload c_B_call_21 rfl ?_
  refine PW_iload_n c_B_call_23 rfl ?_
  refine PW_S0 (d2 := 1) (st := []) [.int 5, .int 2] c_B_call_24 lk_B_call_49 rfl rfl rfl (Nat.le_of_ble_eq_true rfl) (by first | decide | omega) (Nat.le_of_ble_eq_true rfl) ?_
  refine sp_own_5_2 ?_
  show PW _ _ _ 27 [some (.ref 54), some (.int 5), some (.int 2), some (.int xx), some (.int b), some (.int (nI d)), some (.int 5), some (.int 0)] [.int 60] (E (tr 56 435 x l) y)
  refine PW_if_ne c_B_call_27 (fun _ => ?_) (fun h2 => absurd h2 (by decide))
  refine PW_iload c_B_call_43 rfl ?_
  refine PW_S0 (d2 := 0) (st := []) [.int 5] c_B_call_45 lk_B_call_18 rfl rfl rfl (Nat.le_of_ble_eq_true rfl) (by first | decide | omega) (Nat.le_of_ble_eq_true rfl) ?_
  refine sp_B_isKind  ?_
  show PW _ _ _ 48 [some (.ref 54), some (.int 5), some (.int 2), some (.int xx), some (.int b), some (.int (nI d)), some (.int 5), some (.int 0)] [.int (b2i (0 ≤ (5 : Int32) ∧ (5 : Int32) ≤ 7))] (E (tr 56 435 x l) y)
  refine PW_if_eq c_B_call_48 (fun h3 => absurd (by decide) (b2i_0.mp h3)) (fun _ => ?_)
  refine PW_iload c_B_call_51 rfl ?_
  refine PW_bipush (v := 30) c_B_call_53 (by decide) ?_
  refine PW_icmp_lt c_B_call_55 (fun h4 => ?_) (fun h4 => absurd ((nI_ltI (by omega) (by decide)).mpr (by omega) : nI d < nI 30) h4)
  refine PW_iload c_B_call_60 rfl ?_
  refine PW_iload_n c_B_call_62 rfl ?_
  refine PW_S0 (d2 := 1) (st := []) [.int 5, .int 2] c_B_call_63 lk_B_call_49 rfl rfl rfl (Nat.le_of_ble_eq_true rfl) (by first | decide | omega) (Nat.le_of_ble_eq_true rfl) ?_
  refine sp_own_5_2 ?_
  show PW _ _ _ 66 [some (.ref 54), some (.int 5), some (.int 2), some (.int xx), some (.int b), some (.int (nI d)), some (.int 5), some (.int 0)] [.int 60] (E (tr 56 435 x l) y)
  refine PW_istore (i := 7) (L2 := [some (.ref 54), some (.int 5), some (.int 2), some (.int xx), some (.int b), some (.int (nI d)), some (.int 5), some (.int 60)]) c_B_call_66 (Nat.le_of_ble_eq_true rfl) rfl rfl ?_
  refine PW_aload_n c_B_call_68 rfl ?_
  refine PW_iload c_B_call_69 rfl ?_
  refine PW_V0 (d2 := 0) (st := []) [.int 60] c_B_call_71 lk_B_call_53 (po_54 _ _) rfl rfl rfl (Nat.le_of_ble_eq_true rfl) (by first | decide | omega) (Nat.le_of_ble_eq_true rfl) ?_
  refine sp_note (by (try simp only [List.length_cons]); omega) ?_
  show PW _ _ _ 74 [some (.ref 54), some (.int 5), some (.int 2), some (.int xx), some (.int b), some (.int (nI d)), some (.int 5), some (.int 60)] [] (E (tr 56 435 x (60 :: l)) y)
  refine PW_iload_n c_B_call_74 rfl ?_
  refine PW_iconst (v := 2) c_B_call_75 (by decide) ?_
  refine PW_icmp_eq c_B_call_76 (fun _ => ?_) (fun h5 => absurd (by decide) h5)
  refine PW_aload_n c_B_call_84 rfl ?_
  refine PW_iload c_B_call_85 rfl ?_
  refine PW_iload c_B_call_87 rfl ?_
  refine PW_S0 (d2 := 0) (st := [.int 60, .ref 54]) [.int 5] c_B_call_89 lk_B_call_22 rfl rfl rfl (Nat.le_of_ble_eq_true rfl) (by first | decide | omega) (Nat.le_of_ble_eq_true rfl) ?_
  refine sp_kab5 ?_
  show PW _ _ _ 92 [some (.ref 54), some (.int 5), some (.int 2), some (.int xx), some (.int b), some (.int (nI d)), some (.int 5), some (.int 60)] [.int 3, .int 60, .ref 54] (E (tr 56 435 x (60 :: l)) y)
  refine PW_iload_n c_B_call_92 rfl ?_
  refine PW_iload c_B_call_93 rfl ?_
  refine PW_iload c_B_call_95 rfl ?_
  refine PW_iconst (v := 1) c_B_call_97 (by decide) ?_
  refine PW_iadd c_B_call_98 ?_
  refine PW_V0 (d2 := 8) (st := []) [.int 60, .int 3, .int xx, .int b, .int ((nI d) + 1)] c_B_call_99 lk_B_call_57 (po_54 _ _) rfl rfl rfl (Nat.le_of_ble_eq_true rfl) (by first | decide | omega) (Nat.le_of_ble_eq_true rfl) ?_
  show PW _ _ _ 0 [some (.ref 54), some (.int 60), some (.int 3), some (.int xx), some (.int b), some (.int ((nI d) + 1)), none] [] (E (tr 56 435 x (60 :: l)) y)
  refine PW_aload_n c_B_runLater_0 rfl ?_
  refine PW_iload c_B_runLater_1 rfl ?_
  refine PW_V0 (d2 := 1) (st := []) [.int b] c_B_runLater_3 lk_B_runLater_42 (po_54 _ _) rfl rfl rfl (Nat.le_of_ble_eq_true rfl) (by first | decide | omega) (Nat.le_of_ble_eq_true rfl) ?_
  refine sp_kof K ?_
  show PW _ _ _ 6 [some (.ref 54), some (.int 60), some (.int 3), some (.int xx), some (.int b), some (.int ((nI d) + 1)), none] [.int 5] (E (tr 56 435 x (60 :: l)) y)
  refine PW_istore (i := 6) (L2 := [some (.ref 54), some (.int 60), some (.int 3), some (.int xx), some (.int b), some (.int ((nI d) + 1)), some (.int 5)]) c_B_runLater_6 (Nat.le_of_ble_eq_true rfl) rfl rfl ?_
  refine PW_iload_n c_B_runLater_8 rfl ?_
  refine PW_lookup (tgt := 127) c_B_runLater_9 (by decide) rfl rfl ?_
  refine PW_aload_n c_B_runLater_127 rfl ?_
  refine PW_iload_n c_B_runLater_128 rfl ?_
  refine PW_iconst (v := 2) c_B_runLater_129 (by decide) ?_
  refine PW_iload_n c_B_runLater_130 rfl ?_
  refine PW_iload c_B_runLater_131 rfl ?_
  refine PW_iload c_B_runLater_133 rfl ?_
  refine PW_V0 (d2 := 7) (st := []) [.int 3, .int 2, .int xx, .int b, .int ((nI d) + 1)] c_B_runLater_135 lk_B_runLater_45 (po_54 _ _) rfl rfl rfl (Nat.le_of_ble_eq_true rfl) (by first | decide | omega) (Nat.le_of_ble_eq_true rfl) ?_
  refine PW.deeper (k := (7, 0, 0, z)) (Nat.le_of_ble_eq_true rfl) (Nat.le_refl _) (Nat.le_refl _) ?_
  refine sp_call_5_3_2 K (nI_1 d) (by omega) (by (try simp only [List.length_cons]); omega) ?_
  show PW _ _ _ 138 [some (.ref 54), some (.int 60), some (.int 3), some (.int xx), some (.int b), some (.int ((nI d) + 1)), some (.int 5)] [.int ((xx ^^^ b) * 3)] (E (tr 56 435 x (11 :: 40 :: 60 :: l)) y)
  refine PW_aload_n c_B_runLater_138 rfl ?_
  refine PW_iload c_B_runLater_139 rfl ?_
  refine PW_iconst (v := 0) c_B_runLater_141 (by decide) ?_
  refine PW_iconst (v := 2) c_B_runLater_142 (by decide) ?_
  refine PW_iload c_B_runLater_143 rfl ?_
  refine PW_iload c_B_runLater_145 rfl ?_
  refine PW_V0 (d2 := 7) (st := [.int ((xx ^^^ b) * 3)]) [.int 5, .int 0, .int 2, .int b, .int ((nI d) + 1)] c_B_runLater_147 lk_B_runLater_45 (po_54 _ _) rfl rfl rfl (Nat.le_of_ble_eq_true rfl) (by first | decide | omega) (Nat.le_of_ble_eq_true rfl) ?_
  refine PW.deeper (k := (5, 0, 0, z)) (Nat.le_of_ble_eq_true rfl) (Nat.le_refl _) (Nat.le_refl _) ?_
  refine sp_call_5_5_0 K (nI_1 d) (by omega) (by (try simp only [List.length_cons]); omega) ?_
  show PW _ _ _ 150 [some (.ref 54), some (.int 60), some (.int 3), some (.int xx), some (.int b), some (.int ((nI d) + 1)), some (.int 5)] [.int ((2 : Int32) + b), .int ((xx ^^^ b) * 3)] (E (tr 56 435 x (1 :: 11 :: 40 :: 60 :: l)) y)
  refine PW_isub c_B_runLater_150 ?_
  refine PW_ireturn (ty := .int) c_B_runLater_151 rfl rfl ?_
  show PW _ _ _ 102 [some (.ref 54), some (.int 5), some (.int 2), some (.int xx), some (.int b), some (.int (nI d)), some (.int 5), some (.int 60)] [.int (((xx ^^^ b) * 3) - ((2 : Int32) + b))] (E (tr 56 435 x (1 :: 11 :: 40 :: 60 :: l)) y)
  refine PW_goto c_B_call_102 ?_
  refine PW_ireturn (ty := .int) c_B_call_123 rfl rfl ?_
  exact h
theorem sp_call_5_3_3 {z : ZS} {post : Option Value → List PE → Prop} {x y : XS} {l : List Int32} {b xx dp : Int32} {d : Nat} (K : kb x b 5) (ed : dp = nI d) (hd : d + 5 ≤ 30) (hl : l.length + 9 ≤ 24) (h : post (some (.int ((-(((xx + 1) + b) * 2)) - ((((1 : Int32) ^^^ b) * 3) - ((2 : Int32) + b))))) (E (tr 56 435 x (1 :: 11 :: 40 :: 60 :: 1 :: 10 :: 30 :: 41 :: 2 :: l)) y)) : PW (13, 0, 0, z) m_B_call post 0 [some (.ref 54), some (.int 3), some (.int 3), some (.int xx), some (.int b), some (.int dp), none, none] [] (E (tr 56 435 x l) y) := by
  subst ed
  refine PW_iload_n c_B_call_0 rfl ?_
  refine PW_istore (i := 6) (L2 := [some (.ref 54), some (.int 3), some (.int 3), some (.int xx), some (.int b), some (.int (nI d)), some (.int 3), none]) c_B_call_1 (Nat.le_of_ble_eq_true rfl) rfl rfl ?_
  refine PW_iconst (v := 0) c_B_call_3 (by decide) ?_
  refine PW_istore (i := 7) (L2 := [some (.ref 54), some (.int 3), some (.int 3), some (.int xx), some (.int b), some (.int (nI d)), some (.int 3), some (.int 0)]) c_B_call_4 (Nat.le_of_ble_eq_true rfl) rfl rfl ?_
  refine PW_iload c_B_call_6 rfl ?_
  refine PW_bipush (v := 8) c_B_call_8 (by decide) ?_
  refine PW_icmp_ge c_B_call_10 (fun h0 => absurd h0 (by decide)) (fun _ => ?_)
  refine PW_iload c_B_call_13 rfl ?_
  refine PW_S0 (d2 := 0) (st := []) [.int 3] c_B_call_15 lk_B_call_18 rfl rfl rfl (Nat.le_of_ble_eq_true rfl) (by first | decide | omega) (Nat.le_of_ble_eq_true rfl) ?_
  refine sp_B_isKind  ?_
  show PW _ _ _ 18 [some (.ref 54), some (.int 3), some (.int 3), some (.int xx), some (.int b), some (.int (nI d)), some (.int 3), some (.int 0)] [.int (b2i (0 ≤ (3 : Int32) ∧ (3 : Int32) ≤ 7))] (E (tr 56 435 x l) y)
  refine PW_if_eq c_B_call_18 (fun h1 => absurd (by decide) (b2i_0.mp h1)) (fun _ => ?_)
  refine PW_iload c_B_call_21 rfl ?_
  refine PW_iload_n c_B_call_23 rfl ?_
  refine PW_S0 (d2 := 1) (st := []) [.int 3, .int 3] c_B_call_24 lk_B_call_49 rfl rfl rfl (Nat.le_of_ble_eq_true rfl) (by first | decide | omega) (Nat.le_of_ble_eq_true rfl) ?_
  refine sp_own_3_3 ?_
  show PW _ _ _ 27 [some (.ref 54), some (.int 3), some (.int 3), some (.int xx), some (.int b), some (.int (nI d)), some (.int 3), some (.int 0)] [.int 0] (E (tr 56 435 x l) y)
  refine PW_if_ne c_B_call_27 (fun h2 => absurd (by decide) h2) (fun _ => ?_)
  refine PW_iload c_B_call_30 rfl ?_
  refine PW_S0 (d2 := 0) (st := []) [.int 3] c_B_call_32 lk_B_call_22 rfl rfl rfl (Nat.le_of_ble_eq_true rfl) (by first | decide | omega) (Nat.le_of_ble_eq_true rfl) ?_
  refine sp_kab3 ?_
  show PW _ _ _ 35 [some (.ref 54), some (.int 3), some (.int 3), some (.int xx), some (.int b), some (.int (nI d)), some (.int 3), some (.int 0)] [.int 2] (E (tr 56 435 x l) y)
  refine PW_istore (i := 6) (L2 := [some (.ref 54), some (.int 3), some (.int 3), some (.int xx), some (.int b), some (.int (nI d)), some (.int 2), some (.int 0)]) c_B_call_35 (Nat.le_of_ble_eq_true rfl) rfl rfl ?_
  refine PW_iinc (i := 7) (v := 1) (L2 := [some (.ref 54), some (.int 3), some (.int 3), some (.int xx), some (.int b), some (.int (nI d)), some (.int 2), some (.int 1)]) c_B_call_37 rfl (by decide) (Nat.le_of_ble_eq_true rfl) rfl rfl ?_
  refine PW_goto c_B_call_40 ?_
  refine PW_iload c_B_call_6 rfl ?_
  refine PW_bipush (v := 8) c_B_call_8 (by decide) ?_
  refine PW_icmp_ge c_B_call_10 (fun h3 => absurd h3 (by decide)) (fun _ => ?_)
  refine PW_iload c_B_call_13 rfl ?_
  refine PW_S0 (d2 := 0) (st := []) [.int 2] c_B_call_15 lk_B_call_18 rfl rfl rfl (Nat.le_of_ble_eq_true rfl) (by first | decide | omega) (Nat.le_of_ble_eq_true rfl) ?_
  refine sp_B_isKind  ?_
  show PW _ _ _ 18 [some (.ref 54), some (.int 3), some (.int 3), some (.int xx), some (.int b), some (.int (nI d)), some (.int 2), some (.int 1)] [.int (b2i (0 ≤ (2 : Int32) ∧ (2 : Int32) ≤ 7))] (E (tr 56 435 x l) y)
  refine PW_if_eq c_B_call_18 (fun h4 => absurd (by decide) (b2i_0.mp h4)) (fun _ => ?_)
  refine PW_iload c_B_call_21 rfl ?_
  refine PW_iload_n c_B_call_23 rfl ?_
  refine PW_S0 (d2 := 1) (st := []) [.int 2, .int 3] c_B_call_24 lk_B_call_49 rfl rfl rfl (Nat.le_of_ble_eq_true rfl) (by first | decide | omega) (Nat.le_of_ble_eq_true rfl) ?_
  refine sp_own_2_3 ?_
  show PW _ _ _ 27 [some (.ref 54), some (.int 3), some (.int 3), some (.int xx), some (.int b), some (.int (nI d)), some (.int 2), some (.int 1)] [.int 0] (E (tr 56 435 x l) y)
  refine PW_if_ne c_B_call_27 (fun h5 => absurd (by decide) h5) (fun _ => ?_)
  refine PW_iload c_B_call_30 rfl ?_
  refine PW_S0 (d2 := 0) (st := []) [.int 2] c_B_call_32 lk_B_call_22 rfl rfl rfl (Nat.le_of_ble_eq_true rfl) (by first | decide | omega) (Nat.le_of_ble_eq_true rfl) ?_
  refine sp_kab2 ?_
  show PW _ _ _ 35 [some (.ref 54), some (.int 3), some (.int 3), some (.int xx), some (.int b), some (.int (nI d)), some (.int 2), some (.int 1)] [.int 0] (E (tr 56 435 x l) y)
  refine PW_istore (i := 6) (L2 := [some (.ref 54), some (.int 3), some (.int 3), some (.int xx), some (.int b), some (.int (nI d)), some (.int 0), some (.int 1)]) c_B_call_35 (Nat.le_of_ble_eq_true rfl) rfl rfl ?_
  refine PW_iinc (i := 7) (v := 2) (L2 := [some (.ref 54), some (.int 3), some (.int 3), some (.int xx), some (.int b), some (.int (nI d)), some (.int 0), some (.int 2)]) c_B_call_37 rfl (by decide) (Nat.le_of_ble_eq_true rfl) rfl rfl ?_
  refine PW_goto c_B_call_40 ?_
  refine PW_iload c_B_call_6 rfl ?_
  refine PW_bipush (v := 8) c_B_call_8 (by decide) ?_
  refine PW_icmp_ge c_B_call_10 (fun h6 => absurd h6 (by decide)) (fun _ => ?_)
  refine PW_iload c_B_call_13 rfl ?_
  refine PW_S0 (d2 := 0) (st := []) [.int 0] c_B_call_15 lk_B_call_18 rfl rfl rfl (Nat.le_of_ble_eq_true rfl) (by first | decide | omega) (Nat.le_of_ble_eq_true rfl) ?_
  refine sp_B_isKind  ?_
  show PW _ _ _ 18 [some (.ref 54), some (.int 3), some (.int 3), some (.int xx), some (.int b), some (.int (nI d)), some (.int 0), some (.int 2)] [.int (b2i (0 ≤ (0 : Int32) ∧ (0 : Int32) ≤ 7))] (E (tr 56 435 x l) y)
  refine PW_if_eq c_B_call_18 (fun h7 => absurd (by decide) (b2i_0.mp h7)) (fun _ => ?_)
  refine PW_iload c_B_call_21 rfl ?_
  refine PW_iload_n c_B_call_23 rfl ?_
  refine PW_S0 (d2 := 1) (st := []) [.int 0, .int 3] c_B_call_24 lk_B_call_49 rfl rfl rfl (Nat.le_of_ble_eq_true rfl) (by first | decide | omega) (Nat.le_of_ble_eq_true rfl) ?_
  refine sp_own_0_3 ?_
  show PW _ _ _ 27 [some (.ref 54), some (.int 3), some (.int 3), some (.int xx), some (.int b), some (.int (nI d)), some (.int 0), some (.int 2)] [.int 2] (E (tr 56 435 x l) y)
  refine PW_if_ne c_B_call_27 (fun _ => ?_) (fun h8 => absurd h8 (by decide))
  refine PW_iload c_B_call_43 rfl ?_
  refine PW_S0 (d2 := 0) (st := []) [.int 0] c_B_call_45 lk_B_call_18 rfl rfl rfl (Nat.le_of_ble_eq_true rfl) (by first | decide | omega) (Nat.le_of_ble_eq_true rfl) ?_
  refine sp_B_isKind  ?_
  show PW _ _ _ 48 [some (.ref 54), some (.int 3), some (.int 3), some (.int xx), some (.int b), some (.int (nI d)), some (.int 0), some (.int 2)] [.int (b2i (0 ≤ (0 : Int32) ∧ (0 : Int32) ≤ 7))] (E (tr 56 435 x l) y)
  refine PW_if_eq c_B_call_48 (fun h9 => absurd (by decide) (b2i_0.mp h9)) (fun _ => ?_)
  refine PW_iload c_B_call_51 rfl ?_
  refine PW_bipush (v := 30) c_B_call_53 (by decide) ?_
  refine PW_icmp_lt c_B_call_55 (fun h10 => ?_) (fun h10 => absurd ((nI_ltI (by omega) (by decide)).mpr (by omega) : nI d < nI 30) h10)
  refine PW_iload c_B_call_60 rfl ?_
  refine PW_iload_n c_B_call_62 rfl ?_
  refine PW_S0 (d2 := 1) (st := []) [.int 0, .int 3] c_B_call_63 lk_B_call_49 rfl rfl rfl (Nat.le_of_ble_eq_true rfl) (by first | decide | omega) (Nat.le_of_ble_eq_true rfl) ?_
  refine sp_own_0_3 ?_
  show PW _ _ _ 66 [some (.ref 54), some (.int 3), some (.int 3), some (.int xx), some (.int b), some (.int (nI d)), some (.int 0), some (.int 2)] [.int 2] (E (tr 56 435 x l) y)
  refine PW_istore (i := 7) (L2 := [some (.ref 54), some (.int 3), some (.int 3), some (.int xx), some (.int b), some (.int (nI d)), some (.int 0), some (.int 2)]) c_B_call_66 (Nat.le_of_ble_eq_true rfl) rfl rfl ?_
  refine PW_aload_n c_B_call_68 rfl ?_
  refine PW_iload c_B_call_69 rfl ?_
  refine PW_V0 (d2 := 0) (st := []) [.int 2] c_B_call_71 lk_B_call_53 (po_54 _ _) rfl rfl rfl (Nat.le_of_ble_eq_true rfl) (by first | decide | omega) (Nat.le_of_ble_eq_true rfl) ?_
  refine sp_note (by (try simp only [List.length_cons]); omega) ?_
  show PW _ _ _ 74 [some (.ref 54), some (.int 3), some (.int 3), some (.int xx), some (.int b), some (.int (nI d)), some (.int 0), some (.int 2)] [] (E (tr 56 435 x (2 :: l)) y)
  refine PW_iload_n c_B_call_74 rfl ?_
  refine PW_iconst (v := 2) c_B_call_75 (by decide) ?_
  refine PW_icmp_eq c_B_call_76 (fun h11 => absurd h11 (by decide)) (fun _ => ?_)
  refine PW_iload_n c_B_call_79 rfl ?_
  refine PW_iconst (v := 3) c_B_call_80 (by decide) ?_
  refine PW_icmp_ne c_B_call_81 (fun h12 => absurd (by decide) h12) (fun _ => ?_)
  refine PW_aload_n c_B_call_84 rfl ?_
  refine PW_iload c_B_call_85 rfl ?_
  refine PW_iload c_B_call_87 rfl ?_
  refine PW_S0 (d2 := 0) (st := [.int 2, .ref 54]) [.int 0] c_B_call_89 lk_B_call_22 rfl rfl rfl (Nat.le_of_ble_eq_true rfl) (by first | decide | omega) (Nat.le_of_ble_eq_true rfl) ?_
  refine sp_kab0 ?_
  show PW _ _ _ 92 [some (.ref 54), some (.int 3), some (.int 3), some (.int xx), some (.int b), some (.int (nI d)), some (.int 0), some (.int 2)] [.int (-1), .int 2, .ref 54] (E (tr 56 435 x (2 :: l)) y)
  refine PW_iload_n c_B_call_92 rfl ?_
  refine PW_iload c_B_call_93 rfl ?_
  refine PW_iload c_B_call_95 rfl ?_
  refine PW_iconst (v := 1) c_B_call_97 (by decide) ?_
  refine PW_iadd c_B_call_98 ?_
  refine PW_V0 (d2 := 12) (st := []) [.int 2, .int (-1), .int xx, .int b, .int ((nI d) + 1)] c_B_call_99 lk_B_call_57 (po_54 _ _) rfl rfl rfl (Nat.le_of_ble_eq_true rfl) (by first | decide | omega) (Nat.le_of_ble_eq_true rfl) ?_
  show PW _ _ _ 0 [some (.ref 54), some (.int 2), some (.int (-1)), some (.int xx), some (.int b), some (.int ((nI d) + 1)), none] [] (E (tr 56 435 x (2 :: l)) y)
  refine PW_aload_n c_B_runLater_0 rfl ?_
  refine PW_iload c_B_runLater_1 rfl ?_
  refine PW_V0 (d2 := 1) (st := []) [.int b] c_B_runLater_3 lk_B_runLater_42 (po_54 _ _) rfl rfl rfl (Nat.le_of_ble_eq_true rfl) (by first | decide | omega) (Nat.le_of_ble_eq_true rfl) ?_
  refine sp_kof K ?_
  show PW _ _ _ 6 [some (.ref 54), some (.int 2), some (.int (-1)), some (.int xx), some (.int b), some (.int ((nI d) + 1)), none] [.int 5] (E (tr 56 435 x (2 :: l)) y)
  refine PW_istore (i := 6) (L2 := [some (.ref 54), some (.int 2), some (.int (-1)), some (.int xx), some (.int b), some (.int ((nI d) + 1)), some (.int 5)]) c_B_runLater_6 (Nat.le_of_ble_eq_true rfl) rfl rfl ?_
  refine PW_iload_n c_B_runLater_8 rfl ?_
  refine PW_lookup (tgt := 68) c_B_runLater_9 (by decide) rfl rfl ?_
  refine PW_aload_n c_B_runLater_68 rfl ?_
  refine PW_iload c_B_runLater_69 rfl ?_
  refine PW_iconst (v := 1) c_B_runLater_71 (by decide) ?_
  refine PW_iload_n c_B_runLater_72 rfl ?_
  refine PW_iload c_B_runLater_73 rfl ?_
  refine PW_iload c_B_runLater_75 rfl ?_
  refine PW_V0 (d2 := 11) (st := []) [.int 5, .int 1, .int xx, .int b, .int ((nI d) + 1)] c_B_runLater_77 lk_B_runLater_45 (po_54 _ _) rfl rfl rfl (Nat.le_of_ble_eq_true rfl) (by first | decide | omega) (Nat.le_of_ble_eq_true rfl) ?_
  refine PW.deeper (k := (11, 0, 0, z)) (Nat.le_of_ble_eq_true rfl) (Nat.le_refl _) (Nat.le_refl _) ?_
  refine sp_call_5_5_1 K (nI_1 d) (by omega) (by (try simp only [List.length_cons]); omega) ?_
  show PW _ _ _ 80 [some (.ref 54), some (.int 2), some (.int (-1)), some (.int xx), some (.int b), some (.int ((nI d) + 1)), some (.int 5)] [.int (-(((xx + 1) + b) * 2))] (E (tr 56 435 x (1 :: 10 :: 30 :: 41 :: 2 :: l)) y)
  refine PW_aload_n c_B_runLater_80 rfl ?_
  refine PW_iload c_B_runLater_81 rfl ?_
  refine PW_iconst (v := 2) c_B_runLater_83 (by decide) ?_
  refine PW_iconst (v := 1) c_B_runLater_84 (by decide) ?_
  refine PW_iload c_B_runLater_85 rfl ?_
  refine PW_iload c_B_runLater_87 rfl ?_
  refine PW_V0 (d2 := 11) (st := [.int (-(((xx + 1) + b) * 2))]) [.int 5, .int 2, .int 1, .int b, .int ((nI d) + 1)] c_B_runLater_89 lk_B_runLater_45 (po_54 _ _) rfl rfl rfl (Nat.le_of_ble_eq_true rfl) (by first | decide | omega) (Nat.le_of_ble_eq_true rfl) ?_
  refine PW.deeper (k := (9, 0, 0, z)) (Nat.le_of_ble_eq_true rfl) (Nat.le_refl _) (Nat.le_refl _) ?_
  refine sp_call_5_5_2 K (nI_1 d) (by omega) (by (try simp only [List.length_cons]); omega) ?_
  show PW _ _ _ 92 [some (.ref 54), some (.int 2), some (.int (-1)), some (.int xx), some (.int b), some (.int ((nI d) + 1)), some (.int 5)] [.int ((((1 : Int32) ^^^ b) * 3) - ((2 : Int32) + b)), .int (-(((xx + 1) + b) * 2))] (E (tr 56 435 x (1 :: 11 :: 40 :: 60 :: 1 :: 10 :: 30 :: 41 :: 2 :: l)) y)
  refine PW_isub c_B_runLater_92 ?_
  refine PW_ireturn (ty := .int) c_B_runLater_93 rfl rfl ?_
  show PW _ _ _ 102 [some (.ref 54), some (.int 3), some (.int 3), some (.int xx), some (.int b), some (.int (nI d)), some (.int 0), some (.int 2)] [.int ((-(((xx + 1) + b) * 2)) - ((((1 : Int32) ^^^ b) * 3) - ((2 : Int32) + b)))] (E (tr 56 435 x (1 :: 11 :: 40 :: 60 :: 1 :: 10 :: 30 :: 41 :: 2 :: l)) y)
  refine PW_goto c_B_call_102 ?_
  refine PW_ireturn (ty := .int) c_B_call_123 rfl rfl ?_
  exact h
theorem sp_call_5_5_3 {z : ZS} {post : Option Value → List PE → Prop} {x y : XS} {l : List Int32} {b xx dp : Int32} {d : Nat} (K : kb x b 5) (ed : dp = nI d) (hd : d + 6 ≤ 30) (hl : l.length + 10 ≤ 24) (h : post (some (.int (((-(((xx + 1) + b) * 2)) - ((((1 : Int32) ^^^ b) * 3) - ((2 : Int32) + b))) + 1))) (E (tr 56 435 x (1 :: 11 :: 40 :: 60 :: 1 :: 10 :: 30 :: 41 :: 2 :: 61 :: l)) y)) : PW (15, 0, 0, z) m_B_call post 0 [some (.ref 54), some (.int 5), some (.int 3), some (.int xx), some (.int b), some (.int dp), none, none] [] (E (tr 56 435 x l) y) := by
  subst ed
  refine PW_iload_n c_B_call_0 rfl ?_
  refine PW_istore (i := 6) (L2 := [some (.ref 54), some (.int 5), some (.int 3), some (.int xx), some (.int b), some (.int (nI d)), some (.int 5), none]) c_B_call_1 (Nat.le_of_ble_eq_true rfl) rfl rfl ?_
  refine PW_iconst (v := 0) c_B_call_3 (by decide) ?_
  refine PW_istore (i := 7) (L2 := [some (.ref 54), some (.int 5), some (.int 3), some (.int xx), some (.int b), some (.int (nI d)), some (.int 5), some (.int 0)]) c_B_call_4 (Nat.le_of_ble_eq_true rfl) rfl rfl ?_
  refine PW_iload c_B_call_6 rfl ?_
  refine PW_bipush (v := 8) c_B_call_8 (by decide) ?_
  refine PW_icmp_ge c_B_call_10 (fun h0 => absurd h0 (by decide)) (fun _ => ?_)
  refine PW_iload c_B_call_13 rfl ?_
  refine PW_S0 (d2 := 0) (st := []) [.int 5] c_B_call_15 lk_B_call_18 rfl rfl rfl (Nat.le_of_ble_eq_true rfl) (by first | decide | omega) (Nat.le_of_ble_eq_true rfl) ?_
  refine sp_B_isKind  ?_
  show PW _ _ _ 18 [some (.ref 54), some (.int 5), some (.int 3), some (.int xx), some (.int b), some (.int (nI d)), some (.int 5), some (.int 0)] [.int (b2i (0 ≤ (5 : Int32) ∧ (5 : Int32) ≤ 7))] (E (tr 56 435 x l) y)
  refine PW_if_eq c_B_call_18 (fun h1 => absurd (by decide) (b2i_0.mp h1)) (fun _ => ?_)
  refine PW_iload c_B_call_21 rfl ?_
  refine PW_iload_n c_B_call_23 rfl ?_
  refine PW_S0 (d2 := 1) (st := []) [.int 5, .int 3] c_B_call_24 lk_B_call_49 rfl rfl rfl (Nat.le_of_ble_eq_true rfl) (by first | decide | omega) (Nat.le_of_ble_eq_true rfl) ?_
  refine sp_own_5_3 ?_
  show PW _ _ _ 27 [some (.ref 54), some (.int 5), some (.int 3), some (.int xx), some (.int b), some (.int (nI d)), some (.int 5), some (.int 0)] [.int 61] (E (tr 56 435 x l) y)
  refine PW_if_ne c_B_call_27 (fun _ => ?_) (fun h2 => absurd h2 (by decide))
  refine PW_iload c_B_call_43 rfl ?_
  refine PW_S0 (d2 := 0) (st := []) [.int 5] c_B_call_45 lk_B_call_18 rfl rfl rfl (Nat.le_of_ble_eq_true rfl) (by first | decide | omega) (Nat.le_of_ble_eq_true rfl) ?_
  refine sp_B_isKind  ?_
  show PW _ _ _ 48 [some (.ref 54), some (.int 5), some (.int 3), some (.int xx), some (.int b), some (.int (nI d)), some (.int 5), some (.int 0)] [.int (b2i (0 ≤ (5 : Int32) ∧ (5 : Int32) ≤ 7))] (E (tr 56 435 x l) y)
  refine PW_if_eq c_B_call_48 (fun h3 => absurd (by decide) (b2i_0.mp h3)) (fun _ => ?_)
  refine PW_iload c_B_call_51 rfl ?_
  refine PW_bipush (v := 30) c_B_call_53 (by decide) ?_
  refine PW_icmp_lt c_B_call_55 (fun h4 => ?_) (fun h4 => absurd ((nI_ltI (by omega) (by decide)).mpr (by omega) : nI d < nI 30) h4)
  refine PW_iload c_B_call_60 rfl ?_
  refine PW_iload_n c_B_call_62 rfl ?_
  refine PW_S0 (d2 := 1) (st := []) [.int 5, .int 3] c_B_call_63 lk_B_call_49 rfl rfl rfl (Nat.le_of_ble_eq_true rfl) (by first | decide | omega) (Nat.le_of_ble_eq_true rfl) ?_
  refine sp_own_5_3 ?_
  show PW _ _ _ 66 [some (.ref 54), some (.int 5), some (.int 3), some (.int xx), some (.int b), some (.int (nI d)), some (.int 5), some (.int 0)] [.int 61] (E (tr 56 435 x l) y)
  refine PW_istore (i := 7) (L2 := [some (.ref 54), some (.int 5), some (.int 3), some (.int xx), some (.int b), some (.int (nI d)), some (.int 5), some (.int 61)]) c_B_call_66 (Nat.le_of_ble_eq_true rfl) rfl rfl ?_
  refine PW_aload_n c_B_call_68 rfl ?_
  refine PW_iload c_B_call_69 rfl ?_
  refine PW_V0 (d2 := 0) (st := []) [.int 61] c_B_call_71 lk_B_call_53 (po_54 _ _) rfl rfl rfl (Nat.le_of_ble_eq_true rfl) (by first | decide | omega) (Nat.le_of_ble_eq_true rfl) ?_
  refine sp_note (by (try simp only [List.length_cons]); omega) ?_
  show PW _ _ _ 74 [some (.ref 54), some (.int 5), some (.int 3), some (.int xx), some (.int b), some (.int (nI d)), some (.int 5), some (.int 61)] [] (E (tr 56 435 x (61 :: l)) y)
  refine PW_iload_n c_B_call_74 rfl ?_
  refine PW_iconst (v := 2) c_B_call_75 (by decide) ?_
  refine PW_icmp_eq c_B_call_76 (fun h5 => absurd h5 (by decide)) (fun _ => ?_)
  refine PW_iload_n c_B_call_79 rfl ?_
  refine PW_iconst (v := 3) c_B_call_80 (by decide) ?_
  refine PW_icmp_ne c_B_call_81 (fun h6 => absurd (by decide) h6) (fun _ => ?_)
  refine PW_aload_n c_B_call_84 rfl ?_
  refine PW_iload c_B_call_85 rfl ?_
  refine PW_iload c_B_call_87 rfl ?_
  refine PW_S0 (d2 := 0) (st := [.int 61, .ref 54]) [.int 5] c_B_call_89 lk_B_call_22 rfl rfl rfl (Nat.le_of_ble_eq_true rfl) (by first | decide | omega) (Nat.le_of_ble_eq_true rfl) ?_
  refine sp_kab5 ?_
  show PW _ _ _ 92 [some (.ref 54), some (.int 5), some (.int 3), some (.int xx), some (.int b), some (.int (nI d)), some (.int 5), some (.int 61)] [.int 3, .int 61, .ref 54] (E (tr 56 435 x (61 :: l)) y)
  refine PW_iload_n c_B_call_92 rfl ?_
  refine PW_iload c_B_call_93 rfl ?_
  refine PW_iload c_B_call_95 rfl ?_
  refine PW_iconst (v := 1) c_B_call_97 (by decide) ?_
  refine PW_iadd c_B_call_98 ?_
  refine PW_V0 (d2 := 14) (st := []) [.int 61, .int 3, .int xx, .int b, .int ((nI d) + 1)] c_B_call_99 lk_B_call_57 (po_54 _ _) rfl rfl rfl (Nat.le_of_ble_eq_true rfl) (by first | decide | omega) (Nat.le_of_ble_eq_true rfl) ?_
  show PW _ _ _ 0 [some (.ref 54), some (.int 61), some (.int 3), some (.int xx), some (.int b), some (.int ((nI d) + 1)), none] [] (E (tr 56 435 x (61 :: l)) y)
  refine PW_aload_n c_B_runLater_0 rfl ?_
  refine PW_iload c_B_runLater_1 rfl ?_
  refine PW_V0 (d2 := 1) (st := []) [.int b] c_B_runLater_3 lk_B_runLater_42 (po_54 _ _) rfl rfl rfl (Nat.le_of_ble_eq_true rfl) (by first | decide | omega) (Nat.le_of_ble_eq_true rfl) ?_
  refine sp_kof K ?_
  show PW _ _ _ 6 [some (.ref 54), some (.int 61), some (.int 3), some (.int xx), some (.int b), some (.int ((nI d) + 1)), none] [.int 5] (E (tr 56 435 x (61 :: l)) y)
  refine PW_istore (i := 6) (L2 := [some (.ref 54), some (.int 61), some (.int 3), some (.int xx), some (.int b), some (.int ((nI d) + 1)), some (.int 5)]) c_B_runLater_6 (Nat.le_of_ble_eq_true rfl) rfl rfl ?_
  refine PW_iload_n c_B_runLater_8 rfl ?_
  refine PW_lookup (tgt := 152) c_B_runLater_9 (by decide) rfl rfl ?_
  refine PW_aload_n c_B_runLater_152 rfl ?_
  refine PW_iload_n c_B_runLater_153 rfl ?_
  refine PW_iconst (v := 3) c_B_runLater_154 (by decide) ?_
  refine PW_iload_n c_B_runLater_155 rfl ?_
  refine PW_iload c_B_runLater_156 rfl ?_
  refine PW_iload c_B_runLater_158 rfl ?_
  refine PW_V0 (d2 := 13) (st := []) [.int 3, .int 3, .int xx, .int b, .int ((nI d) + 1)] c_B_runLater_160 lk_B_runLater_45 (po_54 _ _) rfl rfl rfl (Nat.le_of_ble_eq_true rfl) (by first | decide | omega) (Nat.le_of_ble_eq_true rfl) ?_
  refine PW.deeper (k := (13, 0, 0, z)) (Nat.le_of_ble_eq_true rfl) (Nat.le_refl _) (Nat.le_refl _) ?_
  refine sp_call_5_3_3 K (nI_1 d) (by omega) (by (try simp only [List.length_cons]); omega) ?_
  show PW _ _ _ 163 [some (.ref 54), some (.int 61), some (.int 3), some (.int xx), some (.int b), some (.int ((nI d) + 1)), some (.int 5)] [.int ((-(((xx + 1) + b) * 2)) - ((((1 : Int32) ^^^ b) * 3) - ((2 : Int32) + b)))] (E (tr 56 435 x (1 :: 11 :: 40 :: 60 :: 1 :: 10 :: 30 :: 41 :: 2 :: 61 :: l)) y)
  refine PW_iconst (v := 1) c_B_runLater_163 (by decide) ?_
  refine PW_iadd c_B_runLater_164 ?_
  refine PW_ireturn (ty := .int) c_B_runLater_165 rfl rfl ?_
  show PW _ _ _ 102 [some (.ref 54), some (.int 5), some (.int 3), some (.int xx), some (.int b), some (.int (nI d)), some (.int 5), some (.int 61)] [.int (((-(((xx + 1) + b) * 2)) - ((((1 : Int32) ^^^ b) * 3) - ((2 : Int32) + b))) + 1)] (E (tr 56 435 x (1 :: 11 :: 40 :: 60 :: 1 :: 10 :: 30 :: 41 :: 2 :: 61 :: l)) y)
  refine PW_goto c_B_call_102 ?_
  refine PW_ireturn (ty := .int) c_B_call_123 rfl rfl ?_
  exact h
theorem sp_call_6_0_0 {z : ZS} {post : Option Value → List PE → Prop} {x y : XS} {l : List Int32} {b xx dp : Int32} {d : Nat} (K : kb x b 6) (ed : dp = nI d) (hd : d + 1 ≤ 30) (hl : l.length + 1 ≤ 24) (h : post (some (.int (xx + b))) (E (tr 56 435 x (1 :: l)) y)) : PW (5, 0, 0, z) m_B_call post 0 [some (.ref 54), some (.int 0), some (.int 0), some (.int xx), some (.int b), some (.int dp), none, none] [] (E (tr 56 435 x l) y) := by
  subst ed
  refine PW_iload_n c_B_call_0 rfl ?_
  refine PW_istore (i := 6) (L2 := [some (.ref 54), some (.int 0), some (.int 0), some (.int xx), some (.int b), some (.int (nI d)), some (.int 0), none]) c_B_call_1 (Nat.le_of_ble_eq_true rfl) rfl rfl ?_
  refine PW_iconst (v := 0) c_B_call_3 (by decide) ?_
  refine PW_istore (i := 7) (L2 := [some (.ref 54), some (.int 0), some (.int 0), some (.int xx), some (.int b), some (.int (nI d)), some (.int 0), some (.int 0)]) c_B_call_4 (Nat.le_of_ble_eq_true rfl) rfl rfl ?_
  refine PW_iload c_B_call_6 rfl ?_
  refine PW_bipush (v := 8) c_B_call_8 (by decide) ?_
  refine PW_icmp_ge c_B_call_10 (fun h0 => absurd h0 (by decide)) (fun _ => ?_)
  refine PW_iload c_B_call_13 rfl ?_
  refine PW_S0 (d2 := 0) (st := []) [.int 0] c_B_call_15 lk_B_call_18 rfl rfl rfl (Nat.le_of_ble_eq_true rfl) (by first | decide | omega) (Nat.le_of_ble_eq_true rfl) ?_
  refine sp_B_isKind  ?_
  show PW _ _ _ 18 [some (.ref 54), some (.int 0), some (.int 0), some (.int xx), some (.int b), some (.int (nI d)), some (.int 0), some (.int 0)] [.int (b2i (0 ≤ (0 : Int32) ∧ (0 : Int32) ≤ 7))] (E (tr 56 435 x l) y)
  refine PW_if_eq c_B_call_18 (fun h1 => absurd (by decide) (b2i_0.mp h1)) (fun _ => ?_)
  refine PW_iload c_B_call_21 rfl ?_
  refine PW_iload_n c_B_call_23 rfl ?_
  refine PW_S0 (d2 := 1) (st := []) [.int 0, .int 0] c_B_call_24 lk_B_call_49 rfl rfl rfl (Nat.le_of_ble_eq_true rfl) (by first | decide | omega) (Nat.le_of_ble_eq_true rfl) ?_
  refine sp_own_0_0 ?_
  show PW _ _ _ 27 [some (.ref 54), some (.int 0), some (.int 0), some (.int xx), some (.int b), some (.int (nI d)), some (.int 0), some (.int 0)] [.int 1] (E (tr 56 435 x l) y)
  refine PW_if_ne c_B_call_27 (fun _ => ?_) (fun h2 => absurd h2 (by decide))
  refine PW_iload c_B_call_43 rfl ?_
  refine PW_S0 (d2 := 0) (st := []) [.int 0] c_B_call_45 lk_B_call_18 rfl rfl rfl (Nat.le_of_ble_eq_true rfl) (by first | decide | omega) (Nat.le_of_ble_eq_true rfl) ?_
  refine sp_B_isKind  ?_
  show PW _ _ _ 48 [some (.ref 54), some (.int 0), some (.int 0), some (.int xx), some (.int b), some (.int (nI d)), some (.int 0), some (.int 0)] [.int (b2i (0 ≤ (0 : Int32) ∧ (0 : Int32) ≤ 7))] (E (tr 56 435 x l) y)
  refine PW_if_eq c_B_call_48 (fun h3 => absurd (by decide) (b2i_0.mp h3)) (fun _ => ?_)
  refine PW_iload c_B_call_51 rfl ?_
  refine PW_bipush (v := 30) c_B_call_53 (by decide) ?_
  refine PW_icmp_lt c_B_call_55 (fun h4 => ?_) (fun h4 => absurd ((nI_ltI (by omega) (by decide)).mpr (by omega) : nI d < nI 30) h4)
  refine PW_iload c_B_call_60 rfl ?_
  refine PW_iload_n c_B_call_62 rfl ?_
  refine PW_S0 (d2 := 1) (st := []) [.int 0, .int 0] c_B_call_63 lk_B_call_49 rfl rfl rfl (Nat.le_of_ble_eq_true rfl) (by first | decide | omega) (Nat.le_of_ble_eq_true rfl) ?_
  refine sp_own_0_0 ?_
  show PW _ _ _ 66 [some (.ref 54), some (.int 0), some (.int 0), some (.int xx), some (.int b), some (.int (nI d)), some (.int 0), some (.int 0)] [.int 1] (E (tr 56 435 x l) y)
  refine PW_istore (i := 7) (L2 := [some (.ref 54), some (.int 0), some (.int 0), some (.int xx), some (.int b), some (.int (nI d)), some (.int 0), some (.int 1)]) c_B_call_66 (Nat.le_of_ble_eq_true rfl) rfl rfl ?_
  refine PW_aload_n c_B_call_68 rfl ?_
  refine PW_iload c_B_call_69 rfl ?_
  refine PW_V0 (d2 := 0) (st := []) [.int 1] c_B_call_71 lk_B_call_53 (po_54 _ _) rfl rfl rfl (Nat.le_of_ble_eq_true rfl) (by first | decide | omega) (Nat.le_of_ble_eq_true rfl) ?_
  refine sp_note (by (try simp only [List.length_cons]); omega) ?_
  show PW _ _ _ 74 [some (.ref 54), some (.int 0), some (.int 0), some (.int xx), some (.int b), some (.int (nI d)), some (.int 0), some (.int 1)] [] (E (tr 56 435 x (1 :: l)) y)
  refine PW_iload_n c_B_call_74 rfl ?_
  refine PW_iconst (v := 2) c_B_call_75 (by decide) ?_
  refine PW_icmp_eq c_B_call_76 (fun h5 => absurd h5 (by decide)) (fun _ => ?_)
  refine PW_iload_n c_B_call_79 rfl ?_
  refine PW_iconst (v := 3) c_B_call_80 (by decide) ?_
  refine PW_icmp_ne c_B_call_81 (fun _ => ?_) (fun h6 => absurd h6 (by decide))
  refine PW_aload_n c_B_call_105 rfl ?_
  refine PW_iload c_B_call_106 rfl ?_
  refine PW_iload c_B_call_108 rfl ?_
  refine PW_S0 (d2 := 0) (st := [.int 1, .ref 54]) [.int 0] c_B_call_110 lk_B_call_22 rfl rfl rfl (Nat.le_of_ble_eq_true rfl) (by first | decide | omega) (Nat.le_of_ble_eq_true rfl) ?_
  refine sp_kab0 ?_
  show PW _ _ _ 113 [some (.ref 54), some (.int 0), some (.int 0), some (.int xx), some (.int b), some (.int (nI d)), some (.int 0), some (.int 1)] [.int (-1), .int 1, .ref 54] (E (tr 56 435 x (1 :: l)) y)
  refine PW_iload_n c_B_call_113 rfl ?_
  refine PW_iload c_B_call_114 rfl ?_
  refine PW_iload c_B_call_116 rfl ?_
  refine PW_iconst (v := 1) c_B_call_118 (by decide) ?_
  refine PW_iadd c_B_call_119 ?_
  refine PW_V0 (d2 := 4) (st := []) [.int 1, .int (-1), .int xx, .int b, .int ((nI d) + 1)] c_B_call_120 lk_B_call_60 (po_54 _ _) rfl rfl rfl (Nat.le_of_ble_eq_true rfl) (by first | decide | omega) (Nat.le_of_ble_eq_true rfl) ?_
  show PW _ _ _ 0 [some (.ref 54), some (.int 1), some (.int (-1)), some (.int xx), some (.int b), some (.int ((nI d) + 1)), none] [] (E (tr 56 435 x (1 :: l)) y)
  refine PW_aload_n c_B_runFirst_0 rfl ?_
  refine PW_iload c_B_runFirst_1 rfl ?_
  refine PW_V0 (d2 := 1) (st := []) [.int b] c_B_runFirst_3 lk_B_runFirst_42 (po_54 _ _) rfl rfl rfl (Nat.le_of_ble_eq_true rfl) (by first | decide | omega) (Nat.le_of_ble_eq_true rfl) ?_
  refine sp_kof K ?_
  show PW _ _ _ 6 [some (.ref 54), some (.int 1), some (.int (-1)), some (.int xx), some (.int b), some (.int ((nI d) + 1)), none] [.int 6] (E (tr 56 435 x (1 :: l)) y)
  refine PW_istore (i := 6) (L2 := [some (.ref 54), some (.int 1), some (.int (-1)), some (.int xx), some (.int b), some (.int ((nI d) + 1)), some (.int 6)]) c_B_runFirst_6 (Nat.le_of_ble_eq_true rfl) rfl rfl ?_
  refine PW_iload_n c_B_runFirst_8 rfl ?_
  refine PW_lookup (tgt := 84) c_B_runFirst_9 (by decide) rfl rfl ?_
  refine PW_iload_n c_B_runFirst_84 rfl ?_
  refine PW_iload c_B_runFirst_85 rfl ?_
  refine PW_iadd c_B_runFirst_87 ?_
  refine PW_ireturn (ty := .int) c_B_runFirst_88 rfl rfl ?_
  show PW _ _ _ 123 [some (.ref 54), some (.int 0), some (.int 0), some (.int xx), some (.int b), some (.int (nI d)), some (.int 0), some (.int 1)] [.int (xx + b)] (E (tr 56 435 x (1 :: l)) y)
  refine PW_ireturn (ty := .int) c_B_call_123 rfl rfl ?_
  exact h
theorem sp_call_6_6_0 {z : ZS} {post : Option Value → List PE → Prop} {x y : XS} {l : List Int32} {b xx dp : Int32} {d : Nat} (K : kb x b 6) (ed : dp = nI d) (hd : d + 2 ≤ 30) (hl : l.length + 2 ≤ 24) (h : post (some (.int ((xx + b) * 2))) (E (tr 56 435 x (1 :: 70 :: l)) y)) : PW (7, 0, 0, z) m_B_call post 0 [some (.ref 54), some (.int 6), some (.int 0), some (.int xx), some (.int b), some (.int dp), none, none] [] (E (tr 56 435 x l) y) := by
  subst ed
  refine PW_iload_n c_B_call_0 rfl ?_
  refine PW_istore (i := 6) (L2 := [some (.ref 54), some (.int 6), some (.int 0), some (.int xx), some (.int b), some (.int (nI d)), some (.int 6), none]) c_B_call_1 (Nat.le_of_ble_eq_true rfl) rfl rfl ?_
  refine PW_iconst (v := 0) c_B_call_3 (by decide) ?_
  refine PW_istore (i := 7) (L2 := [some (.ref 54), some (.int 6), some (.int 0), some (.int xx), some (.int b), some (.int (nI d)), some (.int 6), some (.int 0)]) c_B_call_4 (Nat.le_of_ble_eq_true rfl) rfl rfl ?_
  refine PW_iload c_B_call_6 rfl ?_
  refine PW_bipush (v := 8) c_B_call_8 (by decide) ?_
  refine PW_icmp_ge c_B_call_10 (fun h0 => absurd h0 (by decide)) (fun _ => ?_)
  refine PW_iload c_B_call_13 rfl ?_
  refine PW_S0 (d2 := 0) (st := []) [.int 6] c_B_call_15 lk_B_call_18 rfl rfl rfl (Nat.le_of_ble_eq_true rfl) (by first | decide | omega) (Nat.le_of_ble_eq_true rfl) ?_
  refine sp_B_isKind  ?_
  show PW _ _ _ 18 [some (.ref 54), some (.int 6), some (.int 0), some (.int xx), some (.int b), some (.int (nI d)), some (.int 6), some (.int 0)] [.int (b2i (0 ≤ (6 : Int32) ∧ (6 : Int32) ≤ 7))] (E (tr 56 435 x l) y)
  refine PW_if_eq c_B_call_18 (fun h1 => absurd (by decide) (b2i_0.mp h1)) (fun _ => ?_)
  refine PW_iload c_B_call_21 rfl ?_
  refine PW_iload_n c_B_call_23 rfl ?_
  refine PW_S0 (d2 := 1) (st := []) [.int 6, .int 0] c_B_call_24 lk_B_call_49 rfl rfl rfl (Nat.le_of_ble_eq_true rfl) (by first | decide | omega) (Nat.le_of_ble_eq_true rfl) ?_
  refine sp_own_6_0 ?_
  show PW _ _ _ 27 [some (.ref 54), some (.int 6), some (.int 0), some (.int xx), some (.int b), some (.int (nI d)), some (.int 6), some (.int 0)] [.int 70] (E (tr 56 435 x l) y)
  refine PW_if_ne c_B_call_27 (fun _ => ?_) (fun h2 => absurd h2 (by decide))
  refine PW_iload c_B_call_43 rfl ?_
  refine PW_S0 (d2 := 0) (st := []) [.int 6] c_B_call_45 lk_B_call_18 rfl rfl rfl (Nat.le_of_ble_eq_true rfl) (by first | decide | omega) (Nat.le_of_ble_eq_true rfl) ?_
  refine sp_B_isKind  ?_
  show PW _ _ _ 48 [some (.ref 54), some (.int 6), some (.int 0), some (.int xx), some (.int b), some (.int (nI d)), some (.int 6), some (.int 0)] [.int (b2i (0 ≤ (6 : Int32) ∧ (6 : Int32) ≤ 7))] (E (tr 56 435 x l) y)
  refine PW_if_eq c_B_call_48 (fun h3 => absurd (by decide) (b2i_0.mp h3)) (fun _ => ?_)
  refine PW_iload c_B_call_51 rfl ?_
  refine PW_bipush (v := 30) c_B_call_53 (by decide) ?_
  refine PW_icmp_lt c_B_call_55 (fun h4 => ?_) (fun h4 => absurd ((nI_ltI (by omega) (by decide)).mpr (by omega) : nI d < nI 30) h4)
  refine PW_iload c_B_call_60 rfl ?_
  refine PW_iload_n c_B_call_62 rfl ?_
  refine PW_S0 (d2 := 1) (st := []) [.int 6, .int 0] c_B_call_63 lk_B_call_49 rfl rfl rfl (Nat.le_of_ble_eq_true rfl) (by first | decide | omega) (Nat.le_of_ble_eq_true rfl) ?_
  refine sp_own_6_0 ?_
  show PW _ _ _ 66 [some (.ref 54), some (.int 6), some (.int 0), some (.int xx), some (.int b), some (.int (nI d)), some (.int 6), some (.int 0)] [.int 70] (E (tr 56 435 x l) y)
  refine PW_istore (i := 7) (L2 := [some (.ref 54), some (.int 6), some (.int 0), some (.int xx), some (.int b), some (.int (nI d)), some (.int 6), some (.int 70)]) c_B_call_66 (Nat.le_of_ble_eq_true rfl) rfl rfl ?_
  refine PW_aload_n c_B_call_68 rfl ?_
  refine PW_iload c_B_call_69 rfl ?_
  refine PW_V0 (d2 := 0) (st := []) [.int 70] c_B_call_71 lk_B_call_53 (po_54 _ _) rfl rfl rfl (Nat.le_of_ble_eq_true rfl) (by first | decide | omega) (Nat.le_of_ble_eq_true rfl) ?_
  refine sp_note (by (try simp only [List.length_cons]); omega) ?_
  show PW _ _ _ 74 [some (.ref 54), some (.int 6), some (.int 0), some (.int xx), some (.int b), some (.int (nI d)), some (.int 6), some (.int 70)] [] (E (tr 56 435 x (70 :: l)) y)
  refine PW_iload_n c_B_call_74 rfl ?_
  refine PW_iconst (v := 2) c_B_call_75 (by decide) ?_
  refine PW_icmp_eq c_B_call_76 (fun h5 => absurd h5 (by decide)) (fun _ => ?_)
  refine PW_iload_n c_B_call_79 rfl ?_
  refine PW_iconst (v := 3) c_B_call_80 (by decide) ?_
  refine PW_icmp_ne c_B_call_81 (fun _ => ?_) (fun h6 => absurd h6 (by decide))
  refine PW_aload_n c_B_call_105 rfl ?_
  refine PW_iload c_B_call_106 rfl ?_
  refine PW_iload c_B_call_108 rfl ?_
  refine PW_S0 (d2 := 0) (st := [.int 70, .ref 54]) [.int 6] c_B_call_110 lk_B_call_22 rfl rfl rfl (Nat.le_of_ble_eq_true rfl) (by first | decide | omega) (Nat.le_of_ble_eq_true rfl) ?_
  refine sp_kab6 ?_
  show PW _ _ _ 113 [some (.ref 54), some (.int 6), some (.int 0), some (.int xx), some (.int b), some (.int (nI d)), some (.int 6), some (.int 70)] [.int 0, .int 70, .ref 54] (E (tr 56 435 x (70 :: l)) y)
  refine PW_iload_n c_B_call_113 rfl ?_
  refine PW_iload c_B_call_114 rfl ?_
  refine PW_iload c_B_call_116 rfl ?_
  refine PW_iconst (v := 1) c_B_call_118 (by decide) ?_
  refine PW_iadd c_B_call_119 ?_
  refine PW_V0 (d2 := 6) (st := []) [.int 70, .int 0, .int xx, .int b, .int ((nI d) + 1)] c_B_call_120 lk_B_call_60 (po_54 _ _) rfl rfl rfl (Nat.le_of_ble_eq_true rfl) (by first | decide | omega) (Nat.le_of_ble_eq_true rfl) ?_
  show PW _ _ _ 0 [some (.ref 54), some (.int 70), some (.int 0), some (.int xx), some (.int b), some (.int ((nI d) + 1)), none] [] (E (tr 56 435 x (70 :: l)) y)
  refine PW_aload_n c_B_runFirst_0 rfl ?_
  refine PW_iload c_B_runFirst_1 rfl ?_
  refine PW_V0 (d2 := 1) (st := []) [.int b] c_B_runFirst_3 lk_B_runFirst_42 (po_54 _ _) rfl rfl rfl (Nat.le_of_ble_eq_true rfl) (by first | decide | omega) (Nat.le_of_ble_eq_true rfl) ?_
  refine sp_kof K ?_
  show PW _ _ _ 6 [some (.ref 54), some (.int 70), some (.int 0), some (.int xx), some (.int b), some (.int ((nI d) + 1)), none] [.int 6] (E (tr 56 435 x (70 :: l)) y)
  refine PW_istore (i := 6) (L2 := [some (.ref 54), some (.int 70), some (.int 0), some (.int xx), some (.int b), some (.int ((nI d) + 1)), some (.int 6)]) c_B_runFirst_6 (Nat.le_of_ble_eq_true rfl) rfl rfl ?_
  refine PW_iload_n c_B_runFirst_8 rfl ?_
  refine PW_lookup (tgt := 145) c_B_runFirst_9 (by decide) rfl rfl ?_
  refine PW_aload_n c_B_runFirst_145 rfl ?_
  refine PW_iload_n c_B_runFirst_146 rfl ?_
  refine PW_iconst (v := 0) c_B_runFirst_147 (by decide) ?_
  refine PW_iload_n c_B_runFirst_148 rfl ?_
  refine PW_iload c_B_runFirst_149 rfl ?_
  refine PW_iload c_B_runFirst_151 rfl ?_
  refine PW_V0 (d2 := 5) (st := []) [.int 0, .int 0, .int xx, .int b, .int ((nI d) + 1)] c_B_runFirst_153 lk_B_runFirst_45 (po_54 _ _) rfl rfl rfl (Nat.le_of_ble_eq_true rfl) (by first | decide | omega) (Nat.le_of_ble_eq_true rfl) ?_
  refine PW.deeper (k := (5, 0, 0, z)) (Nat.le_of_ble_eq_true rfl) (Nat.le_refl _) (Nat.le_refl _) ?_
  refine sp_call_6_0_0 K (nI_1 d) (by omega) (by (try simp only [List.length_cons]); omega) ?_
  show PW _ _ _ 156 [some (.ref 54), some (.int 70), some (.int 0), some (.int xx), some (.int b), some (.int ((nI d) + 1)), some (.int 6)] [.int (xx + b)] (E (tr 56 435 x (1 :: 70 :: l)) y)
  refine PW_iconst (v := 2) c_B_runFirst_156 (by decide) ?_
  refine PW_imul c_B_runFirst_157 ?_
  refine PW_ireturn (ty := .int) c_B_runFirst_158 rfl rfl ?_
  show PW _ _ _ 123 [some (.ref 54), some (.int 6), some (.int 0), some (.int xx), some (.int b), some (.int (nI d)), some (.int 6), some (.int 70)] [.int ((xx + b) * 2)] (E (tr 56 435 x (1 :: 70 :: l)) y)
  refine PW_ireturn (ty := .int) c_B_call_123 rfl rfl ?_
  exact h
theorem sp_call_6_6_1 {z : ZS} {post : Option Value → List PE → Prop} {x y : XS} {l : List Int32} {b xx dp : Int32} {d : Nat} (K : kb x b 6) (ed : dp = nI d) (hd : d + 3 ≤ 30) (hl : l.length + 3 ≤ 24) (h : post (some (.int (((xx + b) * 2) * 2))) (E (tr 56 435 x (1 :: 70 :: 10 :: l)) y)) : PW (9, 0, 0, z) m_B_call post 0 [some (.ref 54), some (.int 6), some (.int 1), some (.int xx), some (.int b), some (.int dp), none, none] [] (E (tr 56 435 x l) y) := by
  subst ed
  refine PW_iload_n c_B_call_0 rfl ?_
  refine PW_istore (i := 6) (L2 := [some (.ref 54), some (.int 6), some (.int 1), some (.int xx), some (.int b), some (.int (nI d)), some (.int 6), none]) c_B_call_1 (Nat.le_of_ble_eq_true rfl) rfl rfl ?_
  refine PW_iconst (v := 0) c_B_call_3 (by decide) ?_
  refine PW_istore (i := 7) (L2 := [some (.ref 54), some (.int 6), some (.int 1), some (.int xx), some (.int b), some (.int (nI d)), some (.int 6), some (.int 0)]) c_B_call_4 (Nat.le_of_ble_eq_true rfl) rfl rfl ?_
  refine PW_iload c_B_call_6 rfl ?_
  refine PW_bipush (v := 8) c_B_call_8 (by decide) ?_
  refine PW_icmp_ge c_B_call_10 (fun h0 => absurd h0 (by decide)) (fun _ => ?_)
  refine PW_iload c_B_call_13 rfl ?_
  refine PW_S0 (d2 := 0) (st := []) [.int 6] c_B_call_15 lk_B_call_18 rfl rfl rfl (Nat.le_of_ble_eq_true rfl) (by first | decide | omega) (Nat.le_of_ble_eq_true rfl) ?_
  refine sp_B_isKind  ?_
  show PW _ _ _ 18 [some (.ref 54), some (.int 6), some (.int 1), some (.int xx), some (.int b), some (.int (nI d)), some (.int 6), some (.int 0)] [.int (b2i (0 ≤ (6 : Int32) ∧ (6 : Int32) ≤ 7))] (E (tr 56 435 x l) y)
  refine PW_if_eq c_B_call_18 (fun h1 => absurd (by decide) (b2i_0.mp h1)) (fun _ => ?_)
  refine PW_iload c_B_call_21 rfl ?_
  refine PW_iload_n c_B_call_23 rfl ?_
  refine PW_S0 (d2 := 1) (st := []) [.int 6, .int 1] c_B_call_24 lk_B_call_49 rfl rfl rfl (Nat.le_of_ble_eq_true rfl) (by first | decide | omega) (Nat.le_of_ble_eq_true rfl) ?_
  refine sp_own_6_1 ?_
  show PW _ _ _ 27 [some (.ref 54), some (.int 6), some (.int 1), some (.int xx), some (.int b), some (.int (nI d)), some (.int 6), some (.int 0)] [.int 0] (E (tr 56 435 x l) y)
  refine PW_if_ne c_B_call_27 (fun h2 => absurd (by decide) h2) (fun _ => ?_)
  refine PW_iload c_B_call_30 rfl ?_
  refine PW_S0 (d2 := 0) (st := []) [.int 6] c_B_call_32 lk_B_call_22 rfl rfl rfl (Nat.le_of_ble_eq_true rfl) (by first | decide | omega) (Nat.le_of_ble_eq_true rfl) ?_
  refine sp_kab6 ?_
  show PW _ _ _ 35 [some (.ref 54), some (.int 6), some (.int 1), some (.int xx), some (.int b), some (.int (nI d)), some (.int 6), some (.int 0)] [.int 0] (E (tr 56 435 x l) y)
  refine PW_istore (i := 6) (L2 := [some (.ref 54), some (.int 6), some (.int 1), some (.int xx), some (.int b), some (.int (nI d)), some (.int 0), some (.int 0)]) c_B_call_35 (Nat.le_of_ble_eq_true rfl) rfl rfl ?_
  refine PW_iinc (i := 7) (v := 1) (L2 := [some (.ref 54), some (.int 6), some (.int 1), some (.int xx), some (.int b), some (.int (nI d)), some (.int 0), some (.int 1)]) c_B_call_37 rfl (by decide) (Nat.le_of_ble_eq_true rfl) rfl rfl ?_
  refine PW_goto c_B_call_40 ?_
  refine PW_iload c_B_call_6 rfl ?_
  refine PW_bipush (v := 8) c_B_call_8 (by decide) ?_
  refine PW_icmp_ge c_B_call_10 (fun h3 => absurd h3 (by decide)) (fun _ => ?_)
  refine PW_iload c_B_call_13 rfl ?_
  refine PW_S0 (d2 := 0) (st := []) [.int 0] c_B_call_15 lk_B_call_18 rfl rfl rfl (Nat.le_of_ble_eq_true rfl) (by first | decide | omega) (Nat.le_of_ble_eq_true rfl) ?_
  refine sp_B_isKind  ?_
  show PW _ _ _ 18 [some (.ref 54), some (.int 6), some (.int 1), some (.int xx), some (.int b), some (.int (nI d)), some (.int 0), some (.int 1)] [.int (b2i (0 ≤ (0 : Int32) ∧ (0 : Int32) ≤ 7))] (E (tr 56 435 x l) y)
  refine PW_if_eq c_B_call_18 (fun h4 => absurd (by decide) (b2i_0.mp h4)) (fun _ => ?_)
  refine PW_iload c_B_call_21 rfl ?_
  refine PW_iload_n c_B_call_23 rfl ?_
  refine PW_S0 (d2 := 1) (st := []) [.int 0, .int 1] c_B_call_24 lk_B_call_49 rfl rfl rfl (Nat.le_of_ble_eq_true rfl) (by first | decide | omega) (Nat.le_of_ble_eq_true rfl) ?_
  refine sp_own_0_1 ?_
  show PW _ _ _ 27 [some (.ref 54), some (.int 6), some (.int 1), some (.int xx), some (.int b), some (.int (nI d)), some (.int 0), some (.int 1)] [.int 10] (E (tr 56 435 x l) y)
  refine PW_if_ne c_B_call_27 (fun _ => ?_) (fun h5 => absurd h5 (by decide))
  refine PW_iload c_B_call_43 rfl ?_
  refine PW_S0 (d2 := 0) (st := []) [.int 0] c_B_call_45 lk_B_call_18 rfl rfl rfl (Nat.le_of_ble_eq_true rfl) (by first | decide | omega) (Nat.le_of_ble_eq_true rfl) ?_
  refine sp_B_isKind  ?_
  show PW _ _ _ 48 [some (.ref 54), some (.int 6), some (.int 1), some (.int xx), some (.int b), some (.int (nI d)), some (.int 0), some (.int 1)] [.int (b2i (0 ≤ (0 : Int32) ∧ (0 : Int32) ≤ 7))] (E (tr 56 435 x l) y)
  refine PW_if_eq c_B_call_48 (fun h6 => absurd (by decide) (b2i_0.mp h6)) (fun _ => ?_)
  refine PW_iload c_B_call_51 rfl ?_
  refine PW_bipush (v := 30) c_B_call_53 (by decide) ?_
  refine PW_icmp_lt c_B_call_55 (fun h7 => ?_) (fun h7 => absurd ((nI_ltI (by omega) (by decide)).mpr (by omega) : nI d < nI 30) h7)
  refine PW_iload c_B_call_60 rfl ?_
  refine PW_iload_n c_B_call_62 rfl ?_
  refine PW_S0 (d2 := 1) (st := []) [.int 0, .int 1] c_B_call_63 lk_B_call_49 rfl rfl rfl (Nat.le_of_ble_eq_true rfl) (by first | decide | omega) (Nat.le_of_ble_eq_true rfl) ?_
  refine sp_own_0_1 ?_
  show PW _ _ _ 66 [some (.ref 54), some (.int 6), some (.int 1), some (.int xx), some (.int b), some (.int (nI d)), some (.int 0), some (.int 1)] [.int 10] (E (tr 56 435 x l) y)
  refine PW_istore (i := 7) (L2 := [some (.ref 54), some (.int 6), some (.int 1), some (.int xx), some (.int b), some (.int (nI d)), some (.int 0), some (.int 10)]) c_B_call_66 (Nat.le_of_ble_eq_true rfl) rfl rfl ?_
  refine PW_aload_n c_B_call_68 rfl ?_
  refine PW_iload c_B_call_69 rfl ?_
  refine PW_V0 (d2 := 0) (st := []) [.int 10] c_B_call_71 lk_B_call_53 (po_54 _ _) rfl rfl rfl (Nat.le_of_ble_eq_true rfl) (by first | decide | omega) (Nat.le_of_ble_eq_true rfl) ?_
  refine sp_note (by (try simp only [List.length_cons]); omega) ?_
  show PW _ _ _ 74 [some (.ref 54), some (.int 6), some (.int 1), some (.int xx), some (.int b), some (.int (nI d)), some (.int 0), some (.int 10)] [] (E (tr 56 435 x (10 :: l)) y)
  refine PW_iload_n c_B_call_74 rfl ?_
  refine PW_iconst (v := 2) c_B_call_75 (by decide) ?_
  refine PW_icmp_eq c_B_call_76 (fun h8 => absurd h8 (by decide)) (fun _ => ?_)
  refine PW_iload_n c_B_call_79 rfl ?_
  refine PW_iconst (v := 3) c_B_call_80 (by decide) ?_
  refine PW_icmp_ne c_B_call_81 (fun _ => ?_) (fun h9 => absurd h9 (by decide))
  refine PW_aload_n c_B_call_105 rfl ?_
  refine PW_iload c_B_call_106 rfl ?_
  refine PW_iload c_B_call_108 rfl ?_
  refine PW_S0 (d2 := 0) (st := [.int 10, .ref 54]) [.int 0] c_B_call_110 lk_B_call_22 rfl rfl rfl (Nat.le_of_ble_eq_true rfl) (by first | decide | omega) (Nat.le_of_ble_eq_true rfl) ?_
  refine sp_kab0 ?_
  show PW _ _ _ 113 [some (.ref 54), some (.int 6), some (.int 1), some (.int xx), some (.int b), some (.int (nI d)), some (.int 0), some (.int 10)] [.int (-1), .int 10, .ref 54] (E (tr 56 435 x (10 :: l)) y)
  refine PW_iload_n c_B_call_113 rfl ?_
  refine PW_iload c_B_call_114 rfl ?_
  refine PW_iload c_B_call_116 rfl ?_
  refine PW_iconst (v := 1) c_B_call_118 (by decide) ?_
  refine PW_iadd c_B_call_119 ?_
  refine PW_V0 (d2 := 8) (st := []) [.int 10, .int (-1), .int xx, .int b, .int ((nI d) + 1)] c_B_call_120 lk_B_call_60 (po_54 _ _) rfl rfl rfl (Nat.le_of_ble_eq_true rfl) (by first | decide | omega) (Nat.le_of_ble_eq_true rfl) ?_
  show PW _ _ _ 0 [some (.ref 54), some (.int 10), some (.int (-1)), some (.int xx), some (.int b), some (.int ((nI d) + 1)), none] [] (E (tr 56 435 x (10 :: l)) y)
  refine PW_aload_n c_B_runFirst_0 rfl ?_
  refine PW_iload c_B_runFirst_1 rfl ?_
  refine PW_V0 (d2 := 1) (st := []) [.int b] c_B_runFirst_3 lk_B_runFirst_42 (po_54 _ _) rfl rfl rfl (Nat.le_of_ble_eq_true rfl) (by first | decide | omega) (Nat.le_of_ble_eq_true rfl) ?_
  refine sp_kof K ?_
  show PW _ _ _ 6 [some (.ref 54), some (.int 10), some (.int (-1)), some (.int xx), some (.int b), some (.int ((nI d) + 1)), none] [.int 6] (E (tr 56 435 x (10 :: l)) y)
  refine PW_istore (i := 6) (L2 := [some (.ref 54), some (.int 10), some (.int (-1)), some (.int xx), some (.int b), some (.int ((nI d) + 1)), some (.int 6)]) c_B_runFirst_6 (Nat.le_of_ble_eq_true rfl) rfl rfl ?_
  refine PW_iload_n c_B_runFirst_8 rfl ?_
  refine PW_lookup (tgt := 89) c_B_runFirst_9 (by decide) rfl rfl ?_
  refine PW_aload_n c_B_runFirst_89 rfl ?_
  refine PW_iload c_B_runFirst_90 rfl ?_
  refine PW_iconst (v := 0) c_B_runFirst_92 (by decide) ?_
  refine PW_iload_n c_B_runFirst_93 rfl ?_
  refine PW_iload c_B_runFirst_94 rfl ?_
  refine PW_iload c_B_runFirst_96 rfl ?_
  refine PW_V0 (d2 := 7) (st := []) [.int 6, .int 0, .int xx, .int b, .int ((nI d) + 1)] c_B_runFirst_98 lk_B_runFirst_45 (po_54 _ _) rfl rfl rfl (Nat.le_of_ble_eq_true rfl) (by first | decide | omega) (Nat.le_of_ble_eq_true rfl) ?_
  refine PW.deeper (k := (7, 0, 0, z)) (Nat.le_of_ble_eq_true rfl) (Nat.le_refl _) (Nat.le_refl _) ?_
  refine sp_call_6_6_0 K (nI_1 d) (by omega) (by (try simp only [List.length_cons]); omega) ?_
  show PW _ _ _ 101 [some (.ref 54), some (.int 10), some (.int (-1)), some (.int xx), some (.int b), some (.int ((nI d) + 1)), some (.int 6)] [.int ((xx + b) * 2)] (E (tr 56 435 x (1 :: 70 :: 10 :: l)) y)
  refine PW_iconst (v := 2) c_B_runFirst_101 (by decide) ?_
  refine PW_imul c_B_runFirst_102 ?_
  refine PW_ireturn (ty := .int) c_B_runFirst_103 rfl rfl ?_
  show PW _ _ _ 123 [some (.ref 54), some (.int 6), some (.int 1), some (.int xx), some (.int b), some (.int (nI d)), some (.int 0), some (.int 10)] [.int (((xx + b) * 2) * 2)] (E (tr 56 435 x (1 :: 70 :: 10 :: l)) y)
  refine PW_ireturn (ty := .int) c_B_call_123 rfl rfl ?_
  exact h
theorem sp_call_6_6_2 {z : ZS} {post : Option Value → List PE → Prop} {x y : XS} {l : List Int32} {b xx dp : Int32} {d : Nat} (K : kb x b 6) (ed : dp = nI d) (hd : d + 1 ≤ 30) (hl : l.length + 1 ≤ 24) (h : post (some (.int (xx ^^^ b))) (E (tr 56 435 x (11 :: l)) y)) : PW (5, 0, 0, z) m_B_call post 0 [some (.ref 54), some (.int 6), some (.int 2), some (.int xx), some (.int b), some (.int dp), none, none] [] (E (tr 56 435 x l) y) := by
  subst ed
  refine PW_iload_n c_B_call_0 rfl ?_
  refine PW_istore (i := 6) (L2 := [some (.ref 54), some (.int 6), some (.int 2), some (.int xx), some (.int b), some (.int (nI d)), some (.int 6), none]) c_B_call_1 (Nat.le_of_ble_eq_true rfl) rfl rfl ?_
  refine PW_iconst (v := 0) c_B_call_3 (by decide) ?_
  refine PW_istore (i := 7) (L2 := [some (.ref 54), some (.int 6), some (.int 2), some (.int xx), some (.int b), some (.int (nI d)), some (.int 6), some (.int 0)]) c_B_call_4 (Nat.le_of_ble_eq_true rfl) rfl rfl ?_
  refine PW_iload c_B_call_6 rfl ?_
  refine PW_bipush (v := 8) c_B_call_8 (by decide) ?_
  refine PW_icmp_ge c_B_call_10 (fun h0 => absurd h0 (by decide)) (fun _ => ?_)
  refine PW_iload c_B_call_13 rfl ?_
  refine PW_S0 (d2 := 0) (st := []) [.int 6] c_B_call_15 lk_B_call_18 rfl rfl rfl (Nat.le_of_ble_eq_true rfl) (by first | decide | omega) (Nat.le_of_ble_eq_true rfl) ?_
  refine sp_B_isKind  ?_
  show PW _ _ _ 18 [some (.ref 54), some (.int 6), some (.int 2), some (.int xx), some (.int b), some (.int (nI d)), some (.int 6), some (.int 0)] [.int (b2i (0 ≤ (6 : Int32) ∧ (6 : Int32) ≤ 7))] (E (tr 56 435 x l) y)
  refine PW_if_eq c_B_call_18 (fun h1 => absurd (by decide) (b2i_0.mp h1)) (fun _ => ?_)
  refine PW_iload c_B_call_21 rfl ?_
  refine PW_iload_n c_B_call_23 rfl ?_
  refine PW_S0 (d2 := 1) (st := []) [.int 6, .int 2] c_B_call_24 lk_B_call_49 rfl rfl rfl (Nat.le_of_ble_eq_true rfl) (by first | decide | omega) (Nat.le_of_ble_eq_true rfl) ?_
  refine sp_own_6_2 ?_
  show PW _ _ _ 27 [some (.ref 54), some (.int 6), some (.int 2), some (.int xx), some (.int b), some (.int (nI d)), some (.int 6), some (.int 0)] [.int 0] (E (tr 56 435 x l) y)
  refine PW_if_ne c_B_call_27 (fun h2 => absurd (by decide) h2) (fun _ => ?_)
  refine PW_iload c_B_call_30 rfl ?_
  refine PW_S0 (d2 := 0) (st := []) [.int 6] c_B_call_32 lk_B_call_22 rfl rfl rfl (Nat.le_of_ble_eq_true rfl) (by first | decide | omega) (Nat.le_of_ble_eq_true rfl) ?_
  refine sp_kab6 ?_
  show PW _ _ _ 35 [some (.ref 54), some (.int 6), some (.int 2), some (.int xx), some (.int b), some (.int (nI d)), some (.int 6), some (.int 0)] [.int 0] (E (tr 56 435 x l) y)
  refine PW_istore (i := 6) (L2 := [some (.ref 54), some (.int 6), some (.int 2), some (.int xx), some (.int b), some (.int (nI d)), some (.int 0), some (.int 0)]) c_B_call_35 (Nat.le_of_ble_eq_true rfl) rfl rfl ?_
  refine PW_iinc (i := 7) (v := 1) (L2 := [some (.ref 54), some (.int 6), some (.int 2), some (.int xx), some (.int b), some (.int (nI d)), some (.int 0), some (.int 1)]) c_B_call_37 rfl (by decide) (Nat.le_of_ble_eq_true rfl) rfl rfl ?_
  refine PW_goto c_B_call_40 ?_
  refine PW_iload c_B_call_6 rfl ?_
  refine PW_bipush (v := 8) c_B_call_8 (by decide) ?_
  refine PW_icmp_ge c_B_call_10 (fun h3 => absurd h3 (by decide)) (fun _ => ?_)
  refine PW_iload c_B_call_13 rfl ?_
  refine PW_S0 (d2 := 0) (st := []) [.int 0] c_B_call_15 lk_B_call_18 rfl rfl rfl (Nat.le_of_ble_eq_true rfl) (by first | decide | omega) (Nat.le_of_ble_eq_true rfl) ?_
  refine sp_B_isKind  ?_
  show PW _ _ _ 18 [some (.ref 54), some (.int 6), some (.int 2), some (.int xx), some (.int b), some (.int (nI d)), some (.int 0), some (.int 1)] [.int (b2i (0 ≤ (0 : Int32) ∧ (0 : Int32) ≤ 7))] (E (tr 56 435 x l) y)
  refine PW_if_eq c_B_call_18 (fun h4 => absurd (by decide) (b2i_0.mp h4)) (fun _ => ?_)
  refine PW_iload c_B_call_21 rfl ?_
  refine PW_iload_n c_B_call_23 rfl ?_
  refine PW_S0 (d2 := 1) (st := []) [.int 0, .int 2] c_B_call_24 lk_B_call_49 rfl rfl rfl (Nat.le_of_ble_eq_true rfl) (by first | decide | omega) (Nat.le_of_ble_eq_true rfl) ?_
  refine sp_own_0_2 ?_
  show PW _ _ _ 27 [some (.ref 54), some (.int 6), some (.int 2), some (.int xx), some (.int b), some (.int (nI d)), some (.int 0), some (.int 1)] [.int 11] (E (tr 56 435 x l) y)
  refine PW_if_ne c_B_call_27 (fun _ => ?_) (fun h5 => absurd h5 (by decide))
  refine PW_iload c_B_call_43 rfl ?_
  refine PW_S0 (d2 := 0) (st := []) [.int 0] c_B_call_45 lk_B_call_18 rfl rfl rfl (Nat.le_of_ble_eq_true rfl) (by first | decide | omega) (Nat.le_of_ble_eq_true rfl) ?_
  refine sp_B_isKind  ?_
  show PW _ _ _ 48 [some (.ref 54), some (.int 6), some (.int 2), some (.int xx), some (.int b), some (.int (nI d)), some (.int 0), some (.int 1)] [.int (b2i (0 ≤ (0 : Int32) ∧ (0 : Int32) ≤ 7))] (E (tr 56 435 x l) y)
  refine PW_if_eq c_B_call_48 (fun h6 => absurd (by decide) (b2i_0.mp h6)) (fun _ => ?_)
  refine PW_iload c_B_call_51 rfl ?_
  refine PW_bipush (v := 30) c_B_call_53 (by decide) ?_
  refine PW_icmp_lt c_B_call_55 (fun h7 => ?_) (fun h7 => absurd ((nI_ltI (by omega) (by decide)).mpr (by omega) : nI d < nI 30) h7)
  refine PW_iload c_B_call_60 rfl ?_
  refine PW_iload_n c_B_call_62 rfl ?_
  refine PW_S0 (d2 := 1) (st := []) [.int 0, .int 2] c_B_call_63 lk_B_call_49 rfl rfl rfl (Nat.le_of_ble_eq_true rfl) (by first | decide | omega) (Nat.le_of_ble_eq_true rfl) ?_
  refine sp_own_0_2 ?_
  show PW _ _ _ 66 [some (.ref 54), some (.int 6), some (.int 2), some (.int xx), some (.int b), some (.int (nI d)), some (.int 0), some (.int 1)] [.int 11] (E (tr 56 435 x l) y)
  refine PW_istore (i := 7) (L2 := [some (.ref 54), some (.int 6), some (.int 2), some (.int xx), some (.int b), some (.int (nI d)), some (.int 0), some (.int 11)]) c_B_call_66 (Nat.le_of_ble_eq_true rfl) rfl rfl ?_
  refine PW_aload_n c_B_call_68 rfl ?_
  refine PW_iload c_B_call_69 rfl ?_
  refine PW_V0 (d2 := 0) (st := []) [.int 11] c_B_call_71 lk_B_call_53 (po_54 _ _) rfl rfl rfl (Nat.le_of_ble_eq_true rfl) (by first | decide | omega) (Nat.le_of_ble_eq_true rfl) ?_
  refine sp_note (by (try simp only [List.length_cons]); omega) ?_
  show PW _ _ _ 74 [some (.ref 54), some (.int 6), some (.int 2), some (.int xx), some (.int b), some (.int (nI d)), some (.int 0), some (.int 11)] [] (E (tr 56 435 x (11 :: l)) y)
  refine PW_iload_n c_B_call_74 rfl ?_
  refine PW_iconst (v := 2) c_B_call_75 (by decide) ?_
  refine PW_icmp_eq c_B_call_76 (fun _ => ?_) (fun h8 => absurd (by decide) h8)
  refine PW_aload_n c_B_call_84 rfl ?_
  refine PW_iload c_B_call_85 rfl ?_
  refine PW_iload c_B_call_87 rfl ?_
  refine PW_S0 (d2 := 0) (st := [.int 11, .ref 54]) [.int 0] c_B_call_89 lk_B_call_22 rfl rfl rfl (Nat.le_of_ble_eq_true rfl) (by first | decide | omega) (Nat.le_of_ble_eq_true rfl) ?_
  refine sp_kab0 ?_
  show PW _ _ _ 92 [some (.ref 54), some (.int 6), some (.int 2), some (.int xx), some (.int b), some (.int (nI d)), some (.int 0), some (.int 11)] [.int (-1), .int 11, .ref 54] (E (tr 56 435 x (11 :: l)) y)
  refine PW_iload_n c_B_call_92 rfl ?_
  refine PW_iload c_B_call_93 rfl ?_
  refine PW_iload c_B_call_95 rfl ?_
  refine PW_iconst (v := 1) c_B_call_97 (by decide) ?_
  refine PW_iadd c_B_call_98 ?_
  refine PW_V0 (d2 := 4) (st := []) [.int 11, .int (-1), .int xx, .int b, .int ((nI d) + 1)] c_B_call_99 lk_B_call_57 (po_54 _ _) rfl rfl rfl (Nat.le_of_ble_eq_true rfl) (by first | decide | omega) (Nat.le_of_ble_eq_true rfl) ?_
  show PW _ _ _ 0 [some (.ref 54), some (.int 11), some (.int (-1)), some (.int xx), some (.int b), some (.int ((nI d) + 1)), none] [] (E (tr 56 435 x (11 :: l)) y)
  refine PW_aload_n c_B_runLater_0 rfl ?_
  refine PW_iload c_B_runLater_1 rfl ?_
  refine PW_V0 (d2 := 1) (st := []) [.int b] c_B_runLater_3 lk_B_runLater_42 (po_54 _ _) rfl rfl rfl (Nat.le_of_ble_eq_true rfl) (by first | decide | omega) (Nat.le_of_ble_eq_true rfl) ?_
  refine sp_kof K ?_
  show PW _ _ _ 6 [some (.ref 54), some (.int 11), some (.int (-1)), some (.int xx), some (.int b), some (.int ((nI d) + 1)), none] [.int 6] (E (tr 56 435 x (11 :: l)) y)
  refine PW_istore (i := 6) (L2 := [some (.ref 54), some (.int 11), some (.int (-1)), some (.int xx), some (.int b), some (.int ((nI d) + 1)), some (.int 6)]) c_B_runLater_6 (Nat.le_of_ble_eq_true rfl) rfl rfl ?_
  refine PW_iload_n c_B_runLater_8 rfl ?_
  refine PW_lookup (tgt := 94) c_B_runLater_9 (by decide) rfl rfl ?_
  refine PW_iload_n c_B_runLater_94 rfl ?_
  refine PW_iload c_B_runLater_95 rfl ?_
  refine PW_ixor c_B_runLater_97 ?_
  refine PW_ireturn (ty := .int) c_B_runLater_98 rfl rfl ?_
  show PW _ _ _ 102 [some (.ref 54), some (.int 6), some (.int 2), some (.int xx), some (.int b), some (.int (nI d)), some (.int 0), some (.int 11)] [.int (xx ^^^ b)] (E (tr 56 435 x (11 :: l)) y)
  refine PW_goto c_B_call_102 ?_
  refine PW_ireturn (ty := .int) c_B_call_123 rfl rfl ?_
  exact h
theorem sp_call_6_6_3 {z : ZS} {post : Option Value → List PE → Prop} {x y : XS} {l : List Int32} {b xx dp : Int32} {d : Nat} (K : kb x b 6) (ed : dp = nI d) (hd : d + 4 ≤ 30) (hl : l.length + 5 ≤ 24) (h : post (some (.int ((((xx + b) * 2) * 2) - ((1 : Int32) ^^^ b)))) (E (tr 56 435 x (11 :: 1 :: 70 :: 10 :: 2 :: l)) y)) : PW (11, 0, 0, z) m_B_call post 0 [some (.ref 54), some (.int 6), some (.int 3), some (.int xx), some (.int b), some (.int dp), none, none] [] (E (tr 56 435 x l) y) := by
  subst ed
  refine PW_iload_n c_B_call_0 rfl ?_
  refine PW_istore (i := 6) (L2 := [some (.ref 54), some (.int 6), some (.int 3), some (.int xx), some (.int b), some (.int (nI d)), some (.int 6), none]) c_B_call_1 (Nat.le_of_ble_eq_true rfl) rfl rfl ?_
  refine PW_iconst (v := 0) c_B_call_3 (by decide) ?_
  refine PW_istore (i := 7) (L2 := [some (.ref 54), some (.int 6), some (.int 3), some (.int xx), some (.int b), some (.int (nI d)), some (.int 6), some (.int 0)]) c_B_call_4 (Nat.le_of_ble_eq_true rfl) rfl rfl ?_
  refine PW_iload c_B_call_6 rfl ?_
  refine PW_bipush (v := 8) c_B_call_8 (by decide) ?_
  refine PW_icmp_ge c_B_call_10 (fun h0 => absurd h0 (by decide)) (fun _ => ?_)
  refine PW_iload c_B_call_13 rfl ?_
  refine PW_S0 (d2 := 0) (st := []) [.int 6] c_B_call_15 lk_B_call_18 rfl rfl rfl (Nat.le_of_ble_eq_true rfl) (by first | decide | omega) (Nat.le_of_ble_eq_true rfl) ?_
  refine sp_B_isKind  ?_
  show PW _ _ _ 18 [some (.ref 54), some (.int 6), some (.int 3), some (.int xx), some (.int b), some (.int (nI d)), some (.int 6), some (.int 0)] [.int (b2i (0 ≤ (6 : Int32) ∧ (6 : Int32) ≤ 7))] (E (tr 56 435 x l) y)
  refine PW_if_eq c_B_call_18 (fun h1 => absurd (by decide) (b2i_0.mp h1)) (fun _ => ?_)
  refine PW_iload c_B_call_21 rfl ?_
  refine PW_iload_n c_B_call_23 rfl ?_
  refine PW_S0 (d2 := 1) (st := []) [.int 6, .int 3] c_B_call_24 lk_B_call_49 rfl rfl rfl (Nat.le_of_ble_eq_true rfl) (by first | decide | omega) (Nat.le_of_ble_eq_true rfl) ?_
  refine sp_own_6_3 ?_
  show PW _ _ _ 27 [some (.ref 54), some (.int 6), some (.int 3), some (.int xx), some (.int b), some (.int (nI d)), some (.int 6), some (.int 0)] [.int 0] (E (tr 56 435 x l) y)
  refine PW_if_ne c_B_call_27 (fun h2 => absurd (by decide) h2) (fun _ => ?_)
  refine PW_iload c_B_call_30 rfl ?_
  refine PW_S0 (d2 := 0) (st := []) [.int 6] c_B_call_32 lk_B_call_22 rfl rfl rfl (Nat.le_of_ble_eq_true rfl) (by first | decide | omega) (Nat.le_of_ble_eq_true rfl) ?_
  refine sp_kab6 ?_
  show PW _ _ _ 35 [some (.ref 54), some (.int 6), some (.int 3), some (.int xx), some (.int b), some (.int (nI d)), some (.int 6), some (.int 0)] [.int 0] (E (tr 56 435 x l) y)
  refine PW_istore (i := 6) (L2 := [some (.ref 54), some (.int 6), some (.int 3), some (.int xx), some (.int b), some (.int (nI d)), some (.int 0), some (.int 0)]) c_B_call_35 (Nat.le_of_ble_eq_true rfl) rfl rfl ?_
  refine PW_iinc (i := 7) (v := 1) (L2 := [some (.ref 54), some (.int 6), some (.int 3), some (.int xx), some (.int b), some (.int (nI d)), some (.int 0), some (.int 1)]) c_B_call_37 rfl (by decide) (Nat.le_of_ble_eq_true rfl) rfl rfl ?_
  refine PW_goto c_B_call_40 ?_
  refine PW_iload c_B_call_6 rfl ?_
  refine PW_bipush (v := 8) c_B_call_8 (by decide) ?_
  refine PW_icmp_ge c_B_call_10 (fun h3 => absurd h3 (by decide)) (fun _ => ?_)
  refine PW_iload c_B_call_13 rfl ?_
  refine PW_S0 (d2 := 0) (st := []) [.int 0] c_B_call_15 lk_B_call_18 rfl rfl rfl (Nat.le_of_ble_eq_true rfl) (by first | decide | omega) (Nat.le_of_ble_eq_true rfl) ?_
  refine sp_B_isKind  ?_
  show PW _ _ _ 18 [some (.ref 54), some (.int 6), some (.int 3), some (.int xx), some (.int b), some (.int (nI d)), some (.int 0), some (.int 1)] [.int (b2i (0 ≤ (0 : Int32) ∧ (0 : Int32) ≤ 7))] (E (tr 56 435 x l) y)
  refine PW_if_eq c_B_call_18 (fun h4 => absurd (by decide) (b2i_0.mp h4)) (fun _ => ?_)
  refine PW_iload c_B_call_21 rfl ?_
  refine PW_iload_n c_B_call_23 rfl ?_
  refine PW_S0 (d2 := 1) (st := []) [.int 0, .int 3] c_B_call_24 lk_B_call_49 rfl rfl rfl (Nat.le_of_ble_eq_true rfl) (by first | decide | omega) (Nat.le_of_ble_eq_true rfl) ?_
  refine sp_own_0_3 ?_
  show PW _ _ _ 27 [some (.ref 54), some (.int 6), some (.int 3), some (.int xx), some (.int b), some (.int (nI d)), some (.int 0), some (.int 1)] [.int 2] (E (tr 56 435 x l) y)
  refine PW_if_ne c_B_call_27 (fun _ => ?_) (fun h5 => absurd h5 (by decide))
  refine PW_iload c_B_call_43 rfl ?_
  refine PW_S0 (d2 := 0) (st := []) [.int 0] c_B_call_45 lk_B_call_18 rfl rfl rfl (Nat.le_of_ble_eq_true rfl) (by first | decide | omega) (Nat.le_of_ble_eq_true rfl) ?_
  refine sp_B_isKind  ?_
  show PW _ _ _ 48 [some (.ref 54), some (.int 6), some (.int 3), some (.int xx), some (.int b), some (.int (nI d)), some (.int 0), some (.int 1)] [.int (b2i (0 ≤ (0 : Int32) ∧ (0 : Int32) ≤ 7))] (E (tr 56 435 x l) y)
  refine PW_if_eq c_B_call_48 (fun h6 => absurd (by decide) (b2i_0.mp h6)) (fun _ => ?_)
  refine PW_iload c_B_call_51 rfl ?_
  refine PW_bipush (v := 30) c_B_call_53 (by decide) ?_
  refine PW_icmp_lt c_B_call_55 (fun h7 => ?_) (fun h7 => absurd ((nI_ltI (by omega) (by decide)).mpr (by omega) : nI d < nI 30) h7)
  refine PW_iload c_B_call_60 rfl ?_
  refine PW_iload_n c_B_call_62 rfl ?_
  refine PW_S0 (d2 := 1) (st := []) [.int 0, .int 3] c_B_call_63 lk_B_call_49 rfl rfl rfl (Nat.le_of_ble_eq_true rfl) (by first | decide | omega) (Nat.le_of_ble_eq_true rfl) ?_
  refine sp_own_0_3 ?_
  show PW _ _ _ 66 [some (.ref 54), some (.int 6), some (.int 3), some (.int xx), some (.int b), some (.int (nI d)), some (.int 0), some (.int 1)] [.int 2] (E (tr 56 435 x l) y)
  refine PW_istore (i := 7) (L2 := [some (.ref 54), some (.int 6), some (.int 3), some (.int xx), some (.int b), some (.int (nI d)), some (.int 0), some (.int 2)]) c_B_call_66 (Nat.le_of_ble_eq_true rfl) rfl rfl ?_
  refine PW_aload_n c_B_call_68 rfl ?_
  refine PW_iload c_B_call_69 rfl ?_
  refine PW_V0 (d2 := 0) (st := []) [.int 2] c_B_call_71 lk_B_call_53 (po_54 _ _) rfl rfl rfl (Nat.le_of_ble_eq_true rfl) (by first | decide | omega) (Nat.le_of_ble_eq_true rfl) ?_
  refine sp_note (by (try simp only [List.length_cons]); omega) ?_
  show PW _ _ _ 74 [some (.ref 54), some (.int 6), some (.int 3), some (.int xx), some (.int b), some (.int (nI d)), some (.int 0), some (.int 2)] [] (E (tr 56 435 x (2 :: l)) y)
  refine PW_iload_n c_B_call_74 rfl ?_
  refine PW_iconst (v := 2) c_B_call_75 (by decide) ?_
  refine PW_icmp_eq c_B_call_76 (fun h8 => absurd h8 (by decide)) (fun _ => ?_)
  refine PW_iload_n c_B_call_79 rfl ?_
  refine PW_iconst (v := 3) c_B_call_80 (by decide) ?_
  refine PW_icmp_ne c_B_call_81 (fun h9 => absurd (by decide) h9) (fun _ => ?_)
  refine PW_aload_n c_B_call_84 rfl ?_
  refine PW_iload c_B_call_85 rfl ?_
  refine PW_iload c_B_call_87 rfl ?_
  refine PW_S0 (d2 := 0) (st := [.int 2, .ref 54]) [.int 0] c_B_call_89 lk_B_call_22 rfl rfl rfl (Nat.le_of_ble_eq_true rfl) (by first | decide | omega) (Nat.le_of_ble_eq_true rfl) ?_
  refine sp_kab0 ?_
  show PW _ _ _ 92 [some (.ref 54), some (.int 6), some (.int 3), some (.int xx), some (.int b), some (.int (nI d)), some (.int 0), some (.int 2)] [.int (-1), .int 2, .ref 54] (E (tr 56 435 x (2 :: l)) y)
  refine PW_iload_n c_B_call_92 rfl ?_
  refine PW_iload c_B_call_93 rfl ?_
  refine PW_iload c_B_call_95 rfl ?_
  refine PW_iconst (v := 1) c_B_call_97 (by decide) ?_
  refine PW_iadd c_B_call_98 ?_
  refine PW_V0 (d2 := 10) (st := []) [.int 2, .int (-1), .int xx, .int b, .int ((nI d) + 1)] c_B_call_99 lk_B_call_57 (po_54 _ _) rfl rfl rfl (Nat.le_of_ble_eq_true rfl) (by first | decide | omega) (Nat.le_of_ble_eq_true rfl) ?_
  show PW _ _ _ 0 [some (.ref 54), some (.int 2), some (.int (-1)), some (.int xx), some (.int b), some (.int ((nI d) + 1)), none] [] (E (tr 56 435 x (2 :: l)) y)
  refine PW_aload_n c_B_runLater_0 rfl ?_
  refine PW_iload c_B_runLater_1 rfl ?_
  refine PW_V0 (d2 := 1) (st := []) [.int b] c_B_runLater_3 lk_B_runLater_42 (po_54 _ _) rfl rfl rfl (Nat.le_of_ble_eq_true rfl) (by first | decide | omega) (Nat.le_of_ble_eq_true rfl) ?_
  refine sp_kof K ?_
  show PW _ _ _ 6 [some (.ref 54), some (.int 2), some (.int (-1)), some (.int xx), some (.int b), some (.int ((nI d) + 1)), none] [.int 6] (E (tr 56 435 x (2 :: l)) y)
  refine PW_istore (i := 6) (L2 := [some (.ref 54), some (.int 2), some (.int (-1)), some (.int xx), some (.int b), some (.int ((nI d) + 1)), some (.int 6)]) c_B_runLater_6 (Nat.le_of_ble_eq_true rfl) rfl rfl ?_
  refine PW_iload_n c_B_runLater_8 rfl ?_
  refine PW_lookup (tgt := 68) c_B_runLater_9 (by decide) rfl rfl ?_
  refine PW_aload_n c_B_runLater_68 rfl ?_
  refine PW_iload c_B_runLater_69 rfl ?_
  refine PW_iconst (v := 1) c_B_runLater_71 (by decide) ?_
  refine PW_iload_n c_B_runLater_72 rfl ?_
  refine PW_iload c_B_runLater_73 rfl ?_
  refine PW_iload c_B_runLater_75 rfl ?_
  refine PW_V0 (d2 := 9) (st := []) [.int 6, .int 1, .int xx, .int b, .int ((nI d) + 1)] c_B_runLater_77 lk_B_runLater_45 (po_54 _ _) rfl rfl rfl (Nat.le_of_ble_eq_true rfl) (by first | decide | omega) (Nat.le_of_ble_eq_true rfl) ?_
  refine PW.deeper (k := (9, 0, 0, z)) (Nat.le_of_ble_eq_true rfl) (Nat.le_refl _) (Nat.le_refl _) ?_
  refine sp_call_6_6_1 K (nI_1 d) (by omega) (by (try simp only [List.length_cons]); omega) ?_
  show PW _ _ _ 80 [some (.ref 54), some (.int 2), some (.int (-1)), some (.int xx), some (.int b), some (.int ((nI d) + 1)), some (.int 6)] [.int (((xx + b) * 2) * 2)] (E (tr 56 435 x (1 :: 70 :: 10 :: 2 :: l)) y)
  refine PW_aload_n c_B_runLater_80 rfl ?_
  refine PW_iload c_B_runLater_81 rfl ?_
  refine PW_iconst (v := 2) c_B_runLater_83 (by decide) ?_
  refine PW_iconst (v := 1) c_B_runLater_84 (by decide) ?_
  refine PW_iload c_B_runLater_85 rfl ?_
  refine PW_iload c_B_runLater_87 rfl ?_
  refine PW_V0 (d2 := 9) (st := [.int (((xx + b) * 2) * 2)]) [.int 6, .int 2, .int 1, .int b, .int ((nI d) + 1)] c_B_runLater_89 lk_B_runLater_45 (po_54 _ _) rfl rfl rfl (Nat.le_of_ble_eq_true rfl) (by first | decide | omega) (Nat.le_of_ble_eq_true rfl) ?_
  refine PW.deeper (k := (5, 0, 0, z)) (Nat.le_of_ble_eq_true rfl) (Nat.le_refl _) (Nat.le_refl _) ?_
  refine sp_call_6_6_2 K (nI_1 d) (by omega) (by (try simp only [List.length_cons]); omega) ?_
  show PW _ _ _ 92 [some (.ref 54), some (.int 2), some (.int (-1)), some (.int xx), some (.int b), some (.int ((nI d) + 1)), some (.int 6)] [.int ((1 : Int32) ^^^ b), .int (((xx + b) * 2) * 2)] (E (tr 56 435 x (11 :: 1 :: 70 :: 10 :: 2 :: l)) y)
  refine PW_isub c_B_runLater_92 ?_
  refine PW_ireturn (ty := .int) c_B_runLater_93 rfl rfl ?_
  show PW _ _ _ 102 [some (.ref 54), some (.int 6), some (.int 3), some (.int xx), some (.int b), some (.int (nI d)), some (.int 0), some (.int 2)] [.int ((((xx + b) * 2) * 2) - ((1 : Int32) ^^^ b))] (E (tr 56 435 x (11 :: 1 :: 70 :: 10 :: 2 :: l)) y)
  refine PW_goto c_B_call_102 ?_
  refine PW_ireturn (ty := .int) c_B_call_123 rfl rfl ?_
  exact h
theorem sp_call_7_0_0 {z : ZS} {post : Option Value → List PE → Prop} {x y : XS} {l : List Int32} {b xx dp : Int32} {d : Nat} (K : kb x b 7) (ed : dp = nI d) (hd : d + 1 ≤ 30) (hl : l.length + 1 ≤ 24) (h : post (some (.int (xx + b))) (E (tr 56 435 x (1 :: l)) y)) : PW (5, 0, 0, z) m_B_call post 0 [some (.ref 54), some (.int 0), some (.int 0), some (.int xx), some (.int b), some (.int dp), none, none] [] (E (tr 56 435 x l) y) := by
  subst ed
  refine PW_iload_n c_B_call_0 rfl ?_
  refine PW_istore (i := 6) (L2 := [some (.ref 54), some (.int 0), some (.int 0), some (.int xx), some (.int b), some (.int (nI d)), some (.int 0), none]) c_B_call_1 (Nat.le_of_ble_eq_true rfl) rfl rfl ?_
  refine PW_iconst (v := 0) c_B_call_3 (by decide) ?_
  refine PW_istore (i := 7) (L2 := [some (.ref 54), some (.int 0), some (.int 0), some (.int xx), some (.int b), some (.int (nI d)), some (.int 0), some (.int 0)]) c_B_call_4 (Nat.le_of_ble_eq_true rfl) rfl rfl ?_
  refine PW_iload c_B_call_6 rfl ?_
  refine PW_bipush (v := 8) c_B_call_8 (by decide) ?_
  refine PW_icmp_ge c_B_call_10 (fun h0 => absurd h0 (by decide)) (fun _ => ?_)
  refine PW_iload c_B_call_13 rfl ?_
  refine PW_S0 (d2 := 0) (st := []) [.int 0] c_B_call_15 lk_B_call_18 rfl rfl rfl (Nat.le_of_ble_eq_true rfl) (by first | decide | omega) (Nat.le_of_ble_eq_true rfl) ?_
  refine sp_B_isKind  ?_
  show PW _ _ _ 18 [some (.ref 54), some (.int 0), some (.int 0), some (.int xx), some (.int b), some (.int (nI d)), some (.int 0), some (.int 0)] [.int (b2i (0 ≤ (0 : Int32) ∧ (0 : Int32) ≤ 7))] (E (tr 56 435 x l) y)
  refine PW_if_eq c_B_call_18 (fun h1 => absurd (by decide) (b2i_0.mp h1)) (fun _ => ?_)
  refine PW_iload c_B_call_21 rfl ?_
  refine PW_iload_n c_B_call_23 rfl ?_
  refine PW_S0 (d2 := 1) (st := []) [.int 0, .int 0] c_B_call_24 lk_B_call_49 rfl rfl rfl (Nat.le_of_ble_eq_true rfl) (by first | decide | omega) (Nat.le_of_ble_eq_true rfl) ?_
  refine sp_own_0_0 ?_
  show PW _ _ _ 27 [some (.ref 54), some (.int 0), some (.int 0), some (.int xx), some (.int b), some (.int (nI d)), some (.int 0), some (.int 0)] [.int 1] (E (tr 56 435 x l) y)
  refine PW_if_ne c_B_call_27 (fun _ => ?_) (fun h2 => absurd h2 (by decide))
  refine PW_iload c_B_call_43 rfl ?_
  refine PW_S0 (d2 := 0) (st := []) [.int 0] c_B_call_45 lk_B_call_18 rfl rfl rfl (Nat.le_of_ble_eq_true rfl) (by first | decide | omega) (Nat.le_of_ble_eq_true rfl) ?_
  refine sp_B_isKind  ?_
  show PW _ _ _ 48 [some (.ref 54), some (.int 0), some (.int 0), some (.int xx), some (.int b), some (.int (nI d)), some (.int 0), some (.int 0)] [.int (b2i (0 ≤ (0 : Int32) ∧ (0 : Int32) ≤ 7))] (E (tr 56 435 x l) y)
  refine PW_if_eq c_B_call_48 (fun h3 => absurd (by decide) (b2i_0.mp h3)) (fun _ => ?_)
  refine PW_iload c_B_call_51 rfl ?_
  refine PW_bipush (v := 30) c_B_call_53 (by decide) ?_
  refine PW_icmp_lt c_B_call_55 (fun h4 => ?_) (fun h4 => absurd ((nI_ltI (by omega) (by decide)).mpr (by omega) : nI d < nI 30) h4)
  refine PW_iload c_B_call_60 rfl ?_
  refine PW_iload_n c_B_call_62 rfl ?_
  refine PW_S0 (d2 := 1) (st := []) [.int 0, .int 0] c_B_call_63 lk_B_call_49 rfl rfl rfl (Nat.le_of_ble_eq_true rfl) (by first | decide | omega) (Nat.le_of_ble_eq_true rfl) ?_
  refine sp_own_0_0 ?_
  show PW _ _ _ 66 [some (.ref 54), some (.int 0), some (.int 0), some (.int xx), some (.int b), some (.int (nI d)), some (.int 0), some (.int 0)] [.int 1] (E (tr 56 435 x l) y)
  refine PW_istore (i := 7) (L2 := [some (.ref 54), some (.int 0), some (.int 0), some (.int xx), some (.int b), some (.int (nI d)), some (.int 0), some (.int 1)]) c_B_call_66 (Nat.le_of_ble_eq_true rfl) rfl rfl ?_
  refine PW_aload_n c_B_call_68 rfl ?_
  refine PW_iload c_B_call_69 rfl ?_
  refine PW_V0 (d2 := 0) (st := []) [.int 1] c_B_call_71 lk_B_call_53 (po_54 _ _) rfl rfl rfl (Nat.le_of_ble_eq_true rfl) (by first | decide | omega) (Nat.le_of_ble_eq_true rfl) ?_
  refine sp_note (by (try simp only [List.length_cons]); omega) ?_
  show PW _ _ _ 74 [some (.ref 54), some (.int 0), some (.int 0), some (.int xx), some (.int b), some (.int (nI d)), some (.int 0), some (.int 1)] [] (E (tr 56 435 x (1 :: l)) y)
  refine PW_iload_n c_B_call_74 rfl ?_
  refine PW_iconst (v := 2) c_B_call_75 (by decide) ?_
  refine PW_icmp_eq c_B_call_76 (fun h5 => absurd h5 (by decide)) (fun _ => ?_)
  refine PW_iload_n c_B_call_79 rfl ?_
  refine PW_iconst (v := 3) c_B_call_80 (by decide) ?_
  refine PW_icmp_ne c_B_call_81 (fun _ => ?_) (fun h6 => absurd h6 (by decide))
  refine PW_aload_n c_B_call_105 rfl ?_
  refine PW_iload c_B_call_106 rfl ?_
  refine PW_iload c_B_call_108 rfl ?_
  refine PW_S0 (d2 := 0) (st := [.int 1, .ref 54]) [.int 0] c_B_call_110 lk_B_call_22 rfl rfl rfl (Nat.le_of_ble_eq_true rfl) (by first | decide | omega) (Nat.le_of_ble_eq_true rfl) ?_
  refine sp_kab0 ?_
  show PW _ _ _ 113 [some (.ref 54), some (.int 0), some (.int 0), some (.int xx), some (.int b), some (.int (nI d)), some (.int 0), some (.int 1)] [.int (-1), .int 1, .ref 54] (E (tr 56 435 x (1 :: l)) y)
  refine PW_iload_n c_B_call_113 rfl ?_
  refine PW_iload c_B_call_114 rfl ?_
  refine PW_iload c_B_call_116 rfl ?_
  refine PW_iconst (v := 1) c_B_call_118 (by decide) ?_
  refine PW_iadd c_B_call_119 ?_
  refine PW_V0 (d2 := 4) (st := []) [.int 1, .int (-1), .int xx, .int b, .int ((nI d) + 1)] c_B_call_120 lk_B_call_60 (po_54 _ _) rfl rfl rfl (Nat.le_of_ble_eq_true rfl) (by first | decide | omega) (Nat.le_of_ble_eq_true rfl) ?_
  show PW _ _ _ 0 [some (.ref 54), some (.int 1), some (.int (-1)), some (.int xx), some (.int b), some (.int ((nI d) + 1)), none] [] (E (tr 56 435 x (1 :: l)) y)
  refine PW_aload_n c_B_runFirst_0 rfl ?_
  refine PW_iload c_B_runFirst_1 rfl ?_
  refine PW_V0 (d2 := 1) (st := []) [.int b] c_B_runFirst_3 lk_B_runFirst_42 (po_54 _ _) rfl rfl rfl (Nat.le_of_ble_eq_true rfl) (by first | decide | omega) (Nat.le_of_ble_eq_true rfl) ?_
  refine sp_kof K ?_
  show PW _ _ _ 6 [some (.ref 54), some (.int 1), some (.int (-1)), some (.int xx), some (.int b), some (.int ((nI d) + 1)), none] [.int 7] (E (tr 56 435 x (1 :: l)) y)
  refine PW_istore (i := 6) (L2 := [some (.ref 54), some (.int 1), some (.int (-1)), some (.int xx), some (.int b), some (.int ((nI d) + 1)), some (.int 7)]) c_B_runFirst_6 (Nat.le_of_ble_eq_true rfl) rfl rfl ?_
  refine PW_iload_n c_B_runFirst_8 rfl ?_
  refine PW_lookup (tgt := 84) c_B_runFirst_9 (by decide) rfl rfl ?_
  refine PW_iload_n c_B_runFirst_84 rfl ?_
  refine PW_iload c_B_runFirst_85 rfl ?_
  refine PW_iadd c_B_runFirst_87 ?_
  refine PW_ireturn (ty := .int) c_B_runFirst_88 rfl rfl ?_
  show PW _ _ _ 123 [some (.ref 54), some (.int 0), some (.int 0), some (.int xx), some (.int b), some (.int (nI d)), some (.int 0), some (.int 1)] [.int (xx + b)] (E (tr 56 435 x (1 :: l)) y)
  refine PW_ireturn (ty := .int) c_B_call_123 rfl rfl ?_
  exact h
theorem sp_call_7_6_0 {z : ZS} {post : Option Value → List PE → Prop} {x y : XS} {l : List Int32} {b xx dp : Int32} {d : Nat} (K : kb x b 7) (ed : dp = nI d) (hd : d + 2 ≤ 30) (hl : l.length + 2 ≤ 24) (h : post (some (.int ((xx + b) * 2))) (E (tr 56 435 x (1 :: 70 :: l)) y)) : PW (7, 0, 0, z) m_B_call post 0 [some (.ref 54), some (.int 6), some (.int 0), some (.int xx), some (.int b), some (.int dp), none, none] [] (E (tr 56 435 x l) y) := by
  subst ed
  refine PW_iload_n c_B_call_0 rfl ?_
  refine PW_istore (i := 6) (L2 := [some (.ref 54), some (.int 6), some (.int 0), some (.int xx), some (.int b), some (.int (nI d)), some (.int 6), none]) c_B_call_1 (Nat.le_of_ble_eq_true rfl) rfl rfl ?_
  refine PW_iconst (v := 0) c_B_call_3 (by decide) ?_
  refine PW_istore (i := 7) (L2 := [some (.ref 54), some (.int 6), some (.int 0), some (.int xx), some (.int b), some (.int (nI d)), some (.int 6), some (.int 0)]) c_B_call_4 (Nat.le_of_ble_eq_true rfl) rfl rfl ?_
  refine PW_iload c_B_call_6 rfl ?_
  refine PW_bipush (v := 8) c_B_call_8 (by decide) ?_
  refine PW_icmp_ge c_B_call_10 (fun h0 => absurd h0 (by decide)) (fun _ => ?_)
  refine PW_iload c_B_call_13 rfl ?_
  refine PW_S0 (d2 := 0) (st := []) [.int 6] c_B_call_15 lk_B_call_18 rfl rfl rfl (Nat.le_of_ble_eq_true rfl) (by first | decide | omega) (Nat.le_of_ble_eq_true rfl) ?_
  refine sp_B_isKind  ?_
  show PW _ _ _ 18 [some (.ref 54), some (.int 6), some (.int 0), some (.int xx), some (.int b), some (.int (nI d)), some (.int 6), some (.int 0)] [.int (b2i (0 ≤ (6 : Int32) ∧ (6 : Int32) ≤ 7))] (E (tr 56 435 x l) y)
  refine PW_if_eq c_B_call_18 (fun h1 => absurd (by decide) (b2i_0.mp h1)) (fun _ => ?_)
  refine PW_iload c_B_call_21 rfl ?_
  refine PW_iload_n c_B_call_23 rfl ?_
  refine PW_S0 (d2 := 1) (st := []) [.int 6, .int 0] c_B_call_24 lk_B_call_49 rfl rfl rfl (Nat.le_of_ble_eq_true rfl) (by first | decide | omega) (Nat.le_of_ble_eq_true rfl) ?_
  refine sp_own_6_0 ?_
  show PW _ _ _ 27 [some (.ref 54), some (.int 6), some (.int 0), some (.int xx), some (.int b), some (.int (nI d)), some (.int 6), some (.int 0)] [.int 70] (E (tr 56 435 x l) y)
  refine PW_if_ne c_B_call_27 (fun _ => ?_) (fun h2 => absurd h2 (by decide))
  refine PW_iload c_B_call_43 rfl ?_
  refine PW_S0 (d2 := 0) (st := []) [.int 6] c_B_call_45 lk_B_call_18 rfl rfl rfl (Nat.le_of_ble_eq_true rfl) (by first | decide | omega) (Nat.le_of_ble_eq_true rfl) ?_
  refine sp_B_isKind  ?_
  show PW _ _ _ 48 [some (.ref 54), some (.int 6), some (.int 0), some (.int xx), some (.int b), some (.int (nI d)), some (.int 6), some (.int 0)] [.int (b2i (0 ≤ (6 : Int32) ∧ (6 : Int32) ≤ 7))] (E (tr 56 435 x l) y)
  refine PW_if_eq c_B_call_48 (fun h3 => absurd (by decide) (b2i_0.mp h3)) (fun _ => ?_)
  refine PW_iload c_B_call_51 rfl ?_
  refine PW_bipush (v := 30) c_B_call_53 (by decide) ?_
  refine PW_icmp_lt c_B_call_55 (fun h4 => ?_) (fun h4 => absurd ((nI_ltI (by omega) (by decide)).mpr (by omega) : nI d < nI 30) h4)
  refine PW_iload c_B_call_60 rfl ?_
  refine PW_iload_n c_B_call_62 rfl ?_
  refine PW_S0 (d2 := 1) (st := []) [.int 6, .int 0] c_B_call_63 lk_B_call_49 rfl rfl rfl (Nat.le_of_ble_eq_true rfl) (by first | decide | omega) (Nat.le_of_ble_eq_true rfl) ?_
  refine sp_own_6_0 ?_
  show PW _ _ _ 66 [some (.ref 54), some (.int 6), some (.int 0), some (.int xx), some (.int b), some (.int (nI d)), some (.int 6), some (.int 0)] [.int 70] (E (tr 56 435 x l) y)
  refine PW_istore (i := 7) (L2 := [some (.ref 54), some (.int 6), some (.int 0), some (.int xx), some (.int b), some (.int (nI d)), some (.int 6), some (.int 70)]) c_B_call_66 (Nat.le_of_ble_eq_true rfl) rfl rfl ?_
  refine PW_aload_n c_B_call_68 rfl ?_
  refine PW_iload c_B_call_69 rfl ?_
  refine PW_V0 (d2 := 0) (st := []) [.int 70] c_B_call_71 lk_B_call_53 (po_54 _ _) rfl rfl rfl (Nat.le_of_ble_eq_true rfl) (by first | decide | omega) (Nat.le_of_ble_eq_true rfl) ?_
  refine sp_note (by (try simp only [List.length_cons]); omega) ?_
  show PW _ _ _ 74 [some (.ref 54), some (.int 6), some (.int 0), some (.int xx), some (.int b), some (.int (nI d)), some (.int 6), some (.int 70)] [] (E (tr 56 435 x (70 :: l)) y)
  refine PW_iload_n c_B_call_74 rfl ?_
  refine PW_iconst (v := 2) c_B_call_75 (by decide) ?_
  refine PW_icmp_eq c_B_call_76 (fun h5 => absurd h5 (by decide)) (fun _ => ?_)
  refine PW_iload_n c_B_call_79 rfl ?_
  refine PW_iconst (v := 3) c_B_call_80 (by decide) ?_
  refine PW_icmp_ne c_B_call_81 (fun _ => ?_) (fun h6 => absurd h6 (by decide))
  refine PW_aload_n c_B_call_105 rfl ?_
  refine PW_iload c_B_call_106 rfl ?_
  refine PW_iload c_B_call_108 rfl ?_
  refine PW_S0 (d2 := 0) (st := [.int 70, .ref 54]) [.int 6] c_B_call_110 lk_B_call_22 rfl rfl rfl (Nat.le_of_ble_eq_true rfl) (by first | decide | omega) (Nat.le_of_ble_eq_true rfl) ?_
  refine sp_kab6 ?_
  show PW _ _ _ 113 [some (.ref 54), some (.int 6), some (.int 0), some (.int xx), some (.int b), some (.int (nI d)), some (.int 6), some (.int 70)] [.int 0, .int 70, .ref 54] (E (tr 56 435 x (70 :: l)) y)
  refine PW_iload_n c_B_call_113 rfl ?_
  refine PW_iload c_B_call_114 rfl ?_
  refine PW_iload c_B_call_116 rfl ?_
  refine PW_iconst (v := 1) c_B_call_118 (by decide) ?_
  refine PW_iadd c_B_call_119 ?_
  refine PW_V0 (d2 := 6) (st := []) [.int 70, .int 0, .int xx, .int b, .int ((nI d) + 1)] c_B_call_120 lk_B_call_60 (po_54 _ _) rfl rfl rfl (Nat.le_of_ble_eq_true rfl) (by first | decide | omega) (Nat.le_of_ble_eq_true rfl) ?_
  show PW _ _ _ 0 [some (.ref 54), some (.int 70), some (.int 0), some (.int xx), some (.int b), some (.int ((nI d) + 1)), none] [] (E (tr 56 435 x (70 :: l)) y)
  refine PW_aload_n c_B_runFirst_0 rfl ?_
  refine PW_iload c_B_runFirst_1 rfl ?_
  refine PW_V0 (d2 := 1) (st := []) [.int b] c_B_runFirst_3 lk_B_runFirst_42 (po_54 _ _) rfl rfl rfl (Nat.le_of_ble_eq_true rfl) (by first | decide | omega) (Nat.le_of_ble_eq_true rfl) ?_
  refine sp_kof K ?_
  show PW _ _ _ 6 [some (.ref 54), some (.int 70), some (.int 0), some (.int xx), some (.int b), some (.int ((nI d) + 1)), none] [.int 7] (E (tr 56 435 x (70 :: l)) y)
  refine PW_istore (i := 6) (L2 := [some (.ref 54), some (.int 70), some (.int 0), some (.int xx), some (.int b), some (.int ((nI d) + 1)), some (.int 7)]) c_B_runFirst_6 (Nat.le_of_ble_eq_true rfl) rfl rfl ?_
  refine PW_iload_n c_B_runFirst_8 rfl ?_
  refine PW_lookup (tgt := 145) c_B_runFirst_9 (by decide) rfl rfl ?_
  refine PW_aload_n c_B_runFirst_145 rfl ?_
  refine PW_iload_n c_B_runFirst_146 rfl ?_
  refine PW_iconst (v := 0) c_B_runFirst_147 (by decide) ?_
  refine PW_iload_n c_B_runFirst_148 rfl ?_
  refine PW_iload c_B_runFirst_149 rfl ?_
  refine PW_iload c_B_runFirst_151 rfl ?_
  refine PW_V0 (d2 := 5) (st := []) [.int 0, .int 0, .int xx, .int b, .int ((nI d) + 1)] c_B_runFirst_153 lk_B_runFirst_45 (po_54 _ _) rfl rfl rfl (Nat.le_of_ble_eq_true rfl) (by first | decide | omega) (Nat.le_of_ble_eq_true rfl) ?_
  refine PW.deeper (k := (5, 0, 0, z)) (Nat.le_of_ble_eq_true rfl) (Nat.le_refl _) (Nat.le_refl _) ?_
  refine sp_call_7_0_0 K (nI_1 d) (by omega) (by (try simp only [List.length_cons]); omega) ?_
  show PW _ _ _ 156 [some (.ref 54), some (.int 70), some (.int 0), some (.int xx), some (.int b), some (.int ((nI d) + 1)), some (.int 7)] [.int (xx + b)] (E (tr 56 435 x (1 :: 70 :: l)) y)
  refine PW_iconst (v := 2) c_B_runFirst_156 (by decide) ?_
  refine PW_imul c_B_runFirst_157 ?_
  refine PW_ireturn (ty := .int) c_B_runFirst_158 rfl rfl ?_
  show PW _ _ _ 123 [some (.ref 54), some (.int 6), some (.int 0), some (.int xx), some (.int b), some (.int (nI d)), some (.int 6), some (.int 70)] [.int ((xx + b) * 2)] (E (tr 56 435 x (1 :: 70 :: l)) y)
  refine PW_ireturn (ty := .int) c_B_call_123 rfl rfl ?_
  exact h
theorem sp_call_7_7_0 {z : ZS} {post : Option Value → List PE → Prop} {x y : XS} {l : List Int32} {b xx dp : Int32} {d : Nat} (K : kb x b 7) (ed : dp = nI d) (hd : d + 3 ≤ 30) (hl : l.length + 3 ≤ 24) (h : post (some (.int (((xx + b) * 2) - 1))) (E (tr 56 435 x (1 :: 70 :: 81 :: l)) y)) : PW (9, 0, 0, z) m_B_call post 0 [some (.ref 54), some (.int 7), some (.int 0), some (.int xx), some (.int b), some (.int dp), none, none] [] (E (tr 56 435 x l) y) := by
  subst ed
  refine PW_iload_n c_B_call_0 rfl ?_
  refine PW_istore (i := 6) (L2 := [some (.ref 54), some (.int 7), some (.int 0), some (.int xx), some (.int b), some (.int (nI d)), some (.int 7), none]) c_B_call_1 (Nat.le_of_ble_eq_true rfl) rfl rfl ?_
  refine PW_iconst (v := 0) c_B_call_3 (by decide) ?_
  refine PW_istore (i := 7) (L2 := [some (.ref 54), some (.int 7), some (.int 0), some (.int xx), some (.int b), some (.int (nI d)), some (.int 7), some (.int 0)]) c_B_call_4 (Nat.le_of_ble_eq_true rfl) rfl rfl ?_
  refine PW_iload c_B_call_6 rfl ?_
  refine PW_bipush (v := 8) c_B_call_8 (by decide) ?_
  refine PW_icmp_ge c_B_call_10 (fun h0 => absurd h0 (by decide)) (fun _ => ?_)
  refine PW_iload c_B_call_13 rfl ?_
  refine PW_S0 (d2 := 0) (st := []) [.int 7] c_B_call_15 lk_B_call_18 rfl rfl rfl (Nat.le_of_ble_eq_true rfl) (by first | decide | omega) (Nat.le_of_ble_eq_true rfl) ?_
  refine sp_B_isKind  ?_
  show PW _ _ _ 18 [some (.ref 54), some (.int 7), some (.int 0), some (.int xx), some (.int b), some (.int (nI d)), some (.int 7), some (.int 0)] [.int (b2i (0 ≤ (7 : Int32) ∧ (7 : Int32) ≤ 7))] (E (tr 56 435 x l) y)
  refine PW_if_eq c_B_call_18 (fun h1 => absurd (by decide) (b2i_0.mp h1)) (fun _ => ?_)
  refine PW_iload c_B_call_21 rfl ?_
  refine PW_iload_n c_B_call_23 rfl ?_
  refine PW_S0 (d2 := 1) (st := []) [.int 7, .int 0] c_B_call_24 lk_B_call_49 rfl rfl rfl (Nat.le_of_ble_eq_true rfl) (by first | decide | omega) (Nat.le_of_ble_eq_true rfl) ?_
  refine sp_own_7_0 ?_
  show PW _ _ _ 27 [some (.ref 54), some (.int 7), some (.int 0), some (.int xx), some (.int b), some (.int (nI d)), some (.int 7), some (.int 0)] [.int 81] (E (tr 56 435 x l) y)
  refine PW_if_ne c_B_call_27 (fun _ => ?_) (fun h2 => absurd h2 (by decide))
  refine PW_iload c_B_call_43 rfl ?_
  refine PW_S0 (d2 := 0) (st := []) [.int 7] c_B_call_45 lk_B_call_18 rfl rfl rfl (Nat.le_of_ble_eq_true rfl) (by first | decide | omega) (Nat.le_of_ble_eq_true rfl) ?_
  refine sp_B_isKind  ?_
  show PW _ _ _ 48 [some (.ref 54), some (.int 7), some (.int 0), some (.int xx), some (.int b), some (.int (nI d)), some (.int 7), some (.int 0)] [.int (b2i (0 ≤ (7 : Int32) ∧ (7 : Int32) ≤ 7))] (E (tr 56 435 x l) y)
  refine PW_if_eq c_B_call_48 (fun h3 => absurd (by decide) (b2i_0.mp h3)) (fun _ => ?_)
  refine PW_iload c_B_call_51 rfl ?_
  refine PW_bipush (v := 30) c_B_call_53 (by decide) ?_
  refine PW_icmp_lt c_B_call_55 (fun h4 => ?_) (fun h4 => absurd ((nI_ltI (by omega) (by decide)).mpr (by omega) : nI d < nI 30) h4)
  refine PW_iload c_B_call_60 rfl ?_
  refine PW_iload_n c_B_call_62 rfl ?_
  refine PW_S0 (d2 := 1) (st := []) [.int 7, .int 0] c_B_call_63 lk_B_call_49 rfl rfl rfl (Nat.le_of_ble_eq_true rfl) (by first | decide | omega) (Nat.le_of_ble_eq_true rfl) ?_
  refine sp_own_7_0 ?_
  show PW _ _ _ 66 [some (.ref 54), some (.int 7), some (.int 0), some (.int xx), some (.int b), some (.int (nI d)), some (.int 7), some (.int 0)] [.int 81] (E (tr 56 435 x l) y)
  refine PW_istore (i := 7) (L2 := [some (.ref 54), some (.int 7), some (.int 0), some (.int xx), some (.int b), some (.int (nI d)), some (.int 7), some (.int 81)]) c_B_call_66 (Nat.le_of_ble_eq_true rfl) rfl rfl ?_
  refine PW_aload_n c_B_call_68 rfl ?_
  refine PW_iload c_B_call_69 rfl ?_
  refine PW_V0 (d2 := 0) (st := []) [.int 81] c_B_call_71 lk_B_call_53 (po_54 _ _) rfl rfl rfl (Nat.le_of_ble_eq_true rfl) (by first | decide | omega) (Nat.le_of_ble_eq_true rfl) ?_
  refine sp_note (by (try simp only [List.length_cons]); omega) ?_
  show PW _ _ _ 74 [some (.ref 54), some (.int 7), some (.int 0), some (.int xx), some (.int b), some (.int (nI d)), some (.int 7), some (.int 81)] [] (E (tr 56 435 x (81 :: l)) y)
  refine PW_iload_n c_B_call_74 rfl ?_
  refine PW_iconst (v := 2) c_B_call_75 (by decide) ?_
  refine PW_icmp_eq c_B_call_76 (fun h5 => absurd h5 (by decide)) (fun _ => ?_)
  refine PW_iload_n c_B_call_79 rfl ?_
  refine PW_iconst (v := 3) c_B_call_80 (by decide) ?_
  refine PW_icmp_ne c_B_call_81 (fun _ => ?_) (fun h6 => absurd h6 (by decide))
  refine PW_aload_n c_B_call_105 rfl ?_
  refine PW_iload c_B_call_106 rfl ?_
  refine PW_iload c_B_call_108 rfl ?_
  refine PW_S0 (d2 := 0) (st := [.int 81, .ref 54]) [.int 7] c_B_call_110 lk_B_call_22 rfl rfl rfl (Nat.le_of_ble_eq_true rfl) (by first | decide | omega) (Nat.le_of_ble_eq_true rfl) ?_
  refine sp_kab7 ?_
  show PW _ _ _ 113 [some (.ref 54), some (.int 7), some (.int 0), some (.int xx), some (.int b), some (.int (nI d)), some (.int 7), some (.int 81)] [.int 6, .int 81, .ref 54] (E (tr 56 435 x (81 :: l)) y)
  refine PW_iload_n c_B_call_113 rfl ?_
  refine PW_iload c_B_call_114 rfl ?_
  refine PW_iload c_B_call_116 rfl ?_
  refine PW_iconst (v := 1) c_B_call_118 (by decide) ?_
  refine PW_iadd c_B_call_119 ?_
  refine PW_V0 (d2 := 8) (st := []) [.int 81, .int 6, .int xx, .int b, .int ((nI d) + 1)] c_B_call_120 lk_B_call_60 (po_54 _ _) rfl rfl rfl (Nat.le_of_ble_eq_true rfl) (by first | decide | omega) (Nat.le_of_ble_eq_true rfl) ?_
  show PW _ _ _ 0 [some (.ref 54), some (.int 81), some (.int 6), some (.int xx), some (.int b), some (.int ((nI d) + 1)), none] [] (E (tr 56 435 x (81 :: l)) y)
  refine PW_aload_n c_B_runFirst_0 rfl ?_
  refine PW_iload c_B_runFirst_1 rfl ?_
  refine PW_V0 (d2 := 1) (st := []) [.int b] c_B_runFirst_3 lk_B_runFirst_42 (po_54 _ _) rfl rfl rfl (Nat.le_of_ble_eq_true rfl) (by first | decide | omega) (Nat.le_of_ble_eq_true rfl) ?_
  refine sp_kof K ?_
  show PW _ _ _ 6 [some (.ref 54), some (.int 81), some (.int 6), some (.int xx), some (.int b), some (.int ((nI d) + 1)), none] [.int 7] (E (tr 56 435 x (81 :: l)) y)
  refine PW_istore (i := 6) (L2 := [some (.ref 54), some (.int 81), some (.int 6), some (.int xx), some (.int b), some (.int ((nI d) + 1)), some (.int 7)]) c_B_runFirst_6 (Nat.le_of_ble_eq_true rfl) rfl rfl ?_
  refine PW_iload_n c_B_runFirst_8 rfl ?_
  refine PW_lookup (tgt := 184) c_B_runFirst_9 (by decide) rfl rfl ?_
  refine PW_aload_n c_B_runFirst_184 rfl ?_
  refine PW_iload_n c_B_runFirst_185 rfl ?_
  refine PW_iconst (v := 0) c_B_runFirst_186 (by decide) ?_
  refine PW_iload_n c_B_runFirst_187 rfl ?_
  refine PW_iload c_B_runFirst_188 rfl ?_
  refine PW_iload c_B_runFirst_190 rfl ?_
  refine PW_V0 (d2 := 7) (st := []) [.int 6, .int 0, .int xx, .int b, .int ((nI d) + 1)] c_B_runFirst_192 lk_B_runFirst_45 (po_54 _ _) rfl rfl rfl (Nat.le_of_ble_eq_true rfl) (by first | decide | omega) (Nat.le_of_ble_eq_true rfl) ?_
  refine PW.deeper (k := (7, 0, 0, z)) (Nat.le_of_ble_eq_true rfl) (Nat.le_refl _) (Nat.le_refl _) ?_
  refine sp_call_7_6_0 K (nI_1 d) (by omega) (by (try simp only [List.length_cons]); omega) ?_
  show PW _ _ _ 195 [some (.ref 54), some (.int 81), some (.int 6), some (.int xx), some (.int b), some (.int ((nI d) + 1)), some (.int 7)] [.int ((xx + b) * 2)] (E (tr 56 435 x (1 :: 70 :: 81 :: l)) y)
  refine PW_iconst (v := 1) c_B_runFirst_195 (by decide) ?_
  refine PW_isub c_B_runFirst_196 ?_
  refine PW_ireturn (ty := .int) c_B_runFirst_197 rfl rfl ?_
  show PW _ _ _ 123 [some (.ref 54), some (.int 7), some (.int 0), some (.int xx), some (.int b), some (.int (nI d)), some (.int 7), some (.int 81)] [.int (((xx + b) * 2) - 1)] (E (tr 56 435 x (1 :: 70 :: 81 :: l)) y)
  refine PW_ireturn (ty := .int) c_B_call_123 rfl rfl ?_
  exact h
theorem sp_call_7_6_1 {z : ZS} {post : Option Value → List PE → Prop} {x y : XS} {l : List Int32} {b xx dp : Int32} {d : Nat} (K : kb x b 7) (ed : dp = nI d) (hd : d + 4 ≤ 30) (hl : l.length + 4 ≤ 24) (h : post (some (.int ((((xx + b) * 2) - 1) * 2))) (E (tr 56 435 x (1 :: 70 :: 81 :: 10 :: l)) y)) : PW (11, 0, 0, z) m_B_call post 0 [some (.ref 54), some (.int 6), some (.int 1), some (.int xx), some (.int b), some (.int dp), none, none] [] (E (tr 56 435 x l) y) := by
  subst ed
  refine PW_iload_n c_B_call_0 rfl ?_
  refine PW_istore (i := 6) (L2 := [some (.ref 54), some (.int 6), some (.int 1), some (.int xx), some (.int b), some (.int (nI d)), some (.int 6), none]) c_B_call_1 (Nat.le_of_ble_eq_true rfl) rfl rfl ?_
  refine PW_iconst (v := 0) c_B_call_3 (by decide) ?_
  refine PW_istore (i := 7) (L2 := [some (.ref 54), some (.int 6), some (.int 1), some (.int xx), some (.int b), some (.int (nI d)), some (.int 6), some (.int 0)]) c_B_call_4 (Nat.le_of_ble_eq_true rfl) rfl rfl ?_
  refine PW_iload c_B_call_6 rfl ?_
  refine PW_bipush (v := 8) c_B_call_8 (by decide) ?_
  refine PW_icmp_ge c_B_call_10 (fun h0 => absurd h0 (by decide)) (fun _ => ?_)
  refine PW_iload c_B_call_13 rfl ?_
  refine PW_S0 (d2 := 0) (st := []) [.int 6] c_B_call_15 lk_B_call_18 rfl rfl rfl (Nat.le_of_ble_eq_true rfl) (by first | decide | omega) (Nat.le_of_ble_eq_true rfl) ?_
  refine sp_B_isKind  ?_
  show PW _ _ _ 18 [some (.ref 54), some (.int 6), some (.int 1), some (.int xx), some (.int b), some (.int (nI d)), some (.int 6), some (.int 0)] [.int (b2i (0 ≤ (6 : Int32) ∧ (6 : Int32) ≤ 7))] (E (tr 56 435 x l) y)
  refine PW_if_eq c_B_call_18 (fun h1 => absurd (by decide) (b2i_0.mp h1)) (fun _ => ?_)
  refine PW_iload c_B_call_21 rfl ?_
  refine PW_iload_n c_B_call_23 rfl ?_
  refine PW_S0 (d2 := 1) (st := []) [.int 6, .int 1] c_B_call_24 lk_B_call_49 rfl rfl rfl (Nat.le_of_ble_eq_true rfl) (by first | decide | omega) (Nat.le_of_ble_eq_true rfl) ?_
  refine sp_own_6_1 ?_
  show PW _ _ _ 27 [some (.ref 54), some (.int 6), some (.int 1), some (.int xx), some (.int b), some (.int (nI d)), some (.int 6), some (.int 0)] [.int 0] (E (tr 56 435 x l) y)
  refine PW_if_ne c_B_call_27 (fun h2 => absurd (by decide) h2) (fun _ => ?_)
  refine PW_iload c_B_call_30 rfl ?_
  refine PW_S0 (d2 := 0) (st := []) [.int 6] c_B_call_32 lk_B_call_22 rfl rfl rfl (Nat.le_of_ble_eq_true rfl) (by first | decide | omega) (Nat.le_of_ble_eq_true rfl) ?_
  refine sp_kab6 ?_
  show PW _ _ _ 35 [some (.ref 54), some (.int 6), some (.int 1), some (.int xx), some (.int b), some (.int (nI d)), some (.int 6), some (.int 0)] [.int 0] (E (tr 56 435 x l) y)
  refine PW_istore (i := 6) (L2 := [some (.ref 54), some (.int 6), some (.int 1), some (.int xx), some (.int b), some (.int (nI d)), some (.int 0), some (.int 0)]) c_B_call_35 (Nat.le_of_ble_eq_true rfl) rfl rfl ?_
  refine PW_iinc (i := 7) (v := 1) (L2 := [some (.ref 54), some (.int 6), some (.int 1), some (.int xx), some (.int b), some (.int (nI d)), some (.int 0), some (.int 1)]) c_B_call_37 rfl (by decide) (Nat.le_of_ble_eq_true rfl) rfl rfl ?_
  refine PW_goto c_B_call_40 ?_
  refine PW_iload c_B_call_6 rfl ?_
  refine PW_bipush (v := 8) c_B_call_8 (by decide) ?_
  refine PW_icmp_ge c_B_call_10 (fun h3 => absurd h3 (by decide)) (fun _ => ?_)
  refine PW_iload c_B_call_13 rfl ?_
  refine PW_S0 (d2 := 0) (st := []) [.int 0] c_B_call_15 lk_B_call_18 rfl rfl rfl (Nat.le_of_ble_eq_true rfl) (by first | decide | omega) (Nat.le_of_ble_eq_true rfl) ?_
  refine sp_B_isKind  ?_
  show PW _ _ _ 18 [some (.ref 54), some (.int 6), some (.int 1), some (.int xx), some (.int b), some (.int (nI d)), some (.int 0), some (.int 1)] [.int (b2i (0 ≤ (0 : Int32) ∧ (0 : Int32) ≤ 7))] (E (tr 56 435 x l) y)
  refine PW_if_eq c_B_call_18 (fun h4 => absurd (by decide) (b2i_0.mp h4)) (fun _ => ?_)
  refine PW_iload c_B_call_21 rfl ?_
  refine PW_iload_n c_B_call_23 rfl ?_
  refine PW_S0 (d2 := 1) (st := []) [.int 0, .int 1] c_B_call_24 lk_B_call_49 rfl rfl rfl (Nat.le_of_ble_eq_true rfl) (by first | decide | omega) (Nat.le_of_ble_eq_true rfl) ?_
  refine sp_own_0_1 ?_
  show PW _ _ _ 27 [some (.ref 54), some (.int 6), some (.int 1), some (.int xx), some (.int b), some (.int (nI d)), some (.int 0), some (.int 1)] [.int 10] (E (tr 56 435 x l) y)
  refine PW_if_ne c_B_call_27 (fun _ => ?_) (fun h5 => absurd h5 (by decide))
  refine PW_iload c_B_call_43 rfl ?_
  refine PW_S0 (d2 := 0) (st := []) [.int 0] c_B_call_45 lk_B_call_18 rfl rfl rfl (Nat.le_of_ble_eq_true rfl) (by first | decide | omega) (Nat.le_of_ble_eq_true rfl) ?_
  refine sp_B_isKind  ?_
  show PW _ _ _ 48 [some (.ref 54), some (.int 6), some (.int 1), some (.int xx), some (.int b), some (.int (nI d)), some (.int 0), some (.int 1)] [.int (b2i (0 ≤ (0 : Int32) ∧ (0 : Int32) ≤ 7))] (E (tr 56 435 x l) y)
  refine PW_if_eq c_B_call_48 (fun h6 => absurd (by decide) (b2i_0.mp h6)) (fun _ => ?_)
  refine PW_iload c_B_call_51 rfl ?_
  refine PW_bipush (v := 30) c_B_call_53 (by decide) ?_
  refine PW_icmp_lt c_B_call_55 (fun h7 => ?_) (fun h7 => absurd ((nI_ltI (by omega) (by decide)).mpr (by omega) : nI d < nI 30) h7)
  refine PW_iload c_B_call_60 rfl ?_
  refine PW_iload_n c_B_call_62 rfl ?_
  refine PW_S0 (d2 := 1) (st := []) [.int 0, .int 1] c_B_call_63 lk_B_call_49 rfl rfl rfl (Nat.le_of_ble_eq_true rfl) (by first | decide | omega) (Nat.le_of_ble_eq_true rfl) ?_
  refine sp_own_0_1 ?_
  show PW _ _ _ 66 [some (.ref 54), some (.int 6), some (.int 1), some (.int xx), some (.int b), some (.int (nI d)), some (.int 0), some (.int 1)] [.int 10] (E (tr 56 435 x l) y)
  refine PW_istore (i := 7) (L2 := [some (.ref 54), some (.int 6), some (.int 1), some (.int xx), some (.int b), some (.int (nI d)), some (.int 0), some (.int 10)]) c_B_call_66 (Nat.le_of_ble_eq_true rfl) rfl rfl ?_
  refine PW_aload_n c_B_call_68 rfl ?_
  refine PW_iload c_B_call_69 rfl ?_
  refine PW_V0 (d2 := 0) (st := []) [.int 10] c_B_call_71 lk_B_call_53 (po_54 _ _) rfl rfl rfl (Nat.le_of_ble_eq_true rfl) (by first | decide | omega) (Nat.le_of_ble_eq_true rfl) ?_
  refine sp_note (by (try simp only [List.length_cons]); omega) ?_
  show PW _ _ _ 74 [some (.ref 54), some (.int 6), some (.int 1), some (.int xx), some (.int b), some (.int (nI d)), some (.int 0), some (.int 10)] [] (E (tr 56 435 x (10 :: l)) y)
  refine PW_iload_n c_B_call_74 rfl ?_
  refine PW_iconst (v := 2) c_B_call_75 (by decide) ?_
  refine PW_icmp_eq c_B_call_76 (fun h8 => absurd h8 (by decide)) (fun _ => ?_)
  refine PW_iload_n c_B_call_79 rfl ?_
  refine PW_iconst (v := 3) c_B_call_80 (by decide) ?_
  refine PW_icmp_ne c_B_call_81 (fun _ => ?_) (fun h9 => absurd h9 (by decide))
  refine PW_aload_n c_B_call_105 rfl ?_
  refine PW_iload c_B_call_106 rfl ?_
  refine PW_iload c_B_call_108 rfl ?_
  refine PW_S0 (d2 := 0) (st := [.int 10, .ref 54]) [.int 0] c_B_call_110 lk_B_call_22 rfl rfl rfl (Nat.le_of_ble_eq_true rfl) (by first | decide | omega) (Nat.le_of_ble_eq_true rfl) ?_
  refine sp_kab0 ?_
  show PW _ _ _ 113 [some (.ref 54), some (.int 6), some (.int 1), some (.int xx), some (.int b), some (.int (nI d)), some (.int 0), some (.int 10)] [.int (-1), .int 10, .ref 54] (E (tr 56 435 x (10 :: l)) y)
  refine PW_iload_n c_B_call_113 rfl ?_
  refine PW_iload c_B_call_114 rfl ?_
  refine PW_iload c_B_call_116 rfl ?_
  refine PW_iconst (v := 1) c_B_call_118 (by decide) ?_
  refine PW_iadd c_B_call_119 ?_
  refine PW_V0 (d2 := 10) (st := []) [.int 10, .int (-1), .int xx, .int b, .int ((nI d) + 1)] c_B_call_120 lk_B_call_60 (po_54 _ _) rfl rfl rfl (Nat.le_of_ble_eq_true rfl) (by first | decide | omega) (Nat.le_of_ble_eq_true rfl) ?_
  show PW _ _ _ 0 [some (.ref 54), some (.int 10), some (.int (-1)), some (.int xx), some (.int b), some (.int ((nI d) + 1)), none] [] (E (tr 56 435 x (10 :: l)) y)
  refine PW_aload_n c_B_runFirst_0 rfl ?_
  refine PW_iload c_B_runFirst_1 rfl ?_
  refine PW_V0 (d2 := 1) (st := []) [.int b] c_B_runFirst_3 lk_B_runFirst_42 (po_54 _ _) rfl rfl rfl (Nat.le_of_ble_eq_true rfl) (by first | decide | omega) (Nat.le_of_ble_eq_true rfl) ?_
  refine sp_kof K ?_
  show PW _ _ _ 6 [some (.ref 54), some (.int 10), some (.int (-1)), some (.int xx), some (.int b), some (.int ((nI d) + 1)), none] [.int 7] (E (tr 56 435 x (10 :: l)) y)
  refine PW_istore (i := 6) (L2 := [some (.ref 54), some (.int 10), some (.int (-1)), some (.int xx), some (.int b), some (.int ((nI d) + 1)), some (.int 7)]) c_B_runFirst_6 (Nat.le_of_ble_eq_true rfl) rfl rfl ?_
  refine PW_iload_n c_B_runFirst_8 rfl ?_
  refine PW_lookup (tgt := 89) c_B_runFirst_9 (by decide) rfl rfl ?_
  refine PW_aload_n c_B_runFirst_89 rfl ?_
  refine PW_iload c_B_runFirst_90 rfl ?_
  refine PW_iconst (v := 0) c_B_runFirst_92 (by decide) ?_
  refine PW_iload_n c_B_runFirst_93 rfl ?_
  refine PW_iload c_B_runFirst_94 rfl ?_
  refine PW_iload c_B_runFirst_96 rfl ?_
  refine PW_V0 (d2 := 9) (st := []) [.int 7, .int 0, .int xx, .int b, .int ((nI d) + 1)] c_B_runFirst_98 lk_B_runFirst_45 (po_54 _ _) rfl rfl rfl (Nat.le_of_ble_eq_true rfl) (by first | decide | omega) (Nat.le_of_ble_eq_true rfl) ?_
  refine PW.deeper (k := (9, 0, 0, z)) (Nat.le_of_ble_eq_true rfl) (Nat.le_refl _) (Nat.le_refl _) ?_
  refine sp_call_7_7_0 K (nI_1 d) (by omega) (by (try simp only [List.length_cons]); omega) ?_
  show PW _ _ _ 101 [some (.ref 54), some (.int 10), some (.int (-1)), some (.int xx), some (.int b), some (.int ((nI d) + 1)), some (.int 7)] [.int (((xx + b) * 2) - 1)] (E (tr 56 435 x (1 :: 70 :: 81 :: 10 :: l)) y)
  refine PW_iconst (v := 2) c_B_runFirst_101 (by decide) ?_
  refine PW_imul c_B_runFirst_102 ?_
  refine PW_ireturn (ty := .int) c_B_runFirst_103 rfl rfl ?_
  show PW _ _ _ 123 [some (.ref 54), some (.int 6), some (.int 1), some (.int xx), some (.int b), some (.int (nI d)), some (.int 0), some (.int 10)] [.int ((((xx + b) * 2) - 1) * 2)] (E (tr 56 435 x (1 :: 70 :: 81 :: 10 :: l)) y)
  refine PW_ireturn (ty := .int) c_B_call_123 rfl rfl ?_
  exact h
theorem sp_call_7_7_2 {z : ZS} {post : Option Value → List PE → Prop} {x y : XS} {l : List Int32} {b xx dp : Int32} {d : Nat} (K : kb x b 7) (ed : dp = nI d) (hd : d + 1 ≤ 30) (hl : l.length + 1 ≤ 24) (h : post (some (.int (xx ^^^ b))) (E (tr 56 435 x (11 :: l)) y)) : PW (5, 0, 0, z) m_B_call post 0 [some (.ref 54), some (.int 7), some (.int 2), some (.int xx), some (.int b), some (.int dp), none, none] [] (E (tr 56 435 x l) y) := by
  subst ed
  refine PW_iload_n c_B_call_0 rfl ?_
  refine PW_istore (i := 6) (L2 := [some (.ref 54), some (.int 7), some (.int 2), some (.int xx), some (.int b), some (.int (nI d)), some (.int 7), none]) c_B_call_1 (Nat.le_of_ble_eq_true rfl) rfl rfl ?_
  refine PW_iconst (v := 0) c_B_call_3 (by decide) ?_
  refine PW_istore (i := 7) (L2 := [some (.ref 54), some (.int 7), some (.int 2), some (.int xx), some (.int b), some (.int (nI d)), some (.int 7), some (.int 0)]) c_B_call_4 (Nat.le_of_ble_eq_true rfl) rfl rfl ?_
  refine PW_iload c_B_call_6 rfl ?_
  refine PW_bipush (v := 8) c_B_call_8 (by decide) ?_
  refine PW_icmp_ge c_B_call_10 (fun h0 => absurd h0 (by decide)) (fun _ => ?_)
  refine PW_iload c_B_call_13 rfl ?_
  refine PW_S0 (d2 := 0) (st := []) [.int 7] c_B_call_15 lk_B_call_18 rfl rfl rfl (Nat.le_of_ble_eq_true rfl) (by first | decide | omega) (Nat.le_of_ble_eq_true rfl) ?_
  refine sp_B_isKind  ?_
  show PW _ _ _ 18 [some (.ref 54), some (.int 7), some (.int 2), some (.int xx), some (.int b), some (.int (nI d)), some (.int 7), some (.int 0)] [.int (b2i (0 ≤ (7 : Int32) ∧ (7 : Int32) ≤ 7))] (E (tr 56 435 x l) y)
  refine PW_if_eq c_B_call_18 (fun h1 => absurd (by decide) (b2i_0.mp h1)) (fun _ => ?_)
  refine PW_iload c_B_call_21 rfl ?_
  refine PW_iload_n c_B_call_23 rfl ?_
  refine PW_S0 (d2 := 1) (st := []) [.int 7, .int 2] c_B_call_24 lk_B_call_49 rfl rfl rfl (Nat.le_of_ble_eq_true rfl) (by first | decide | omega) (Nat.le_of_ble_eq_true rfl) ?_
  refine sp_own_7_2 ?_
  show PW _ _ _ 27 [some (.ref 54), some (.int 7), some (.int 2), some (.int xx), some (.int b), some (.int (nI d)), some (.int 7), some (.int 0)] [.int 0] (E (tr 56 435 x l) y)
  refine PW_if_ne c_B_call_27 (fun h2 => absurd (by decide) h2) (fun _ => ?_)
  refine PW_iload c_B_call_30 rfl ?_
  refine PW_S0 (d2 := 0) (st := []) [.int 7] c_B_call_32 lk_B_call_22 rfl rfl rfl (Nat.le_of_ble_eq_true rfl) (by first | decide | omega) (Nat.le_of_ble_eq_true rfl) ?_
  refine sp_kab7 ?_
  show PW _ _ _ 35 [some (.ref 54), some (.int 7), some (.int 2), some (.int xx), some (.int b), some (.int (nI d)), some (.int 7), some (.int 0)] [.int 6] (E (tr 56 435 x l) y)
  refine PW_istore (i := 6) (L2 := [some (.ref 54), some (.int 7), some (.int 2), some (.int xx), some (.int b), some (.int (nI d)), some (.int 6), some (.int 0)]) c_B_call_35 (Nat.le_of_ble_eq_true rfl) rfl rfl ?_
  refine PW_iinc (i := 7) (v := 1) (L2 := [some (.ref 54), some (.int 7), some (.int 2), some (.int xx), some (.int b), some (.int (nI d)), some (.int 6), some (.int 1)]) c_B_call_37 rfl (by decide) (Nat.le_of_ble_eq_true rfl) rfl rfl ?_
  refine PW_goto c_B_call_40 ?_
  refine PW_iload c_B_call_6 rfl ?_
  refine PW_bipush (v := 8) c_B_call_8 (by decide) ?_
  refine PW_icmp_ge c_B_call_10 (fun h3 => absurd h3 (by decide)) (fun _ => ?_)
  refine PW_iload c_B_call_13 rfl ?_
  refine PW_S0 (d2 := 0) (st := []) [.int 6] c_B_call_15 lk_B_call_18 rfl rfl rfl (Nat.le_of_ble_eq_true rfl) (by first | decide | omega) (Nat.le_of_ble_eq_true rfl) ?_
  refine sp_B_isKind  ?_
  show PW _ _ _ 18 [some (.ref 54), some (.int 7), some (.int 2), some (.int xx), some (.int b), some (.int (nI d)), some (.int 6), some (.int 1)] [.int (b2i (0 ≤ (6 : Int32) ∧ (6 : Int32) ≤ 7))] (E (tr 56 435 x l) y)
  refine PW_if_eq c_B_call_18 (fun h4 => absurd (by decide) (b2i_0.mp h4)) (fun _ => ?_)
  refine PW_iload c_B_call_21 rfl ?_
  refine PW_iload_n c_B_call_23 rfl ?_
  refine PW_S0 (d2 := 1) (st := []) [.int 6, .int 2] c_B_call_24 lk_B_call_49 rfl rfl rfl (Nat.le_of_ble_eq_true rfl) (by first | decide | omega) (Nat.le_of_ble_eq_true rfl) ?_
  refine sp_own_6_2 ?_
  show PW _ _ _ 27 [some (.ref 54), some (.int 7), some (.int 2), some (.int xx), some (.int b), some (.int (nI d)), some (.int 6), some (.int 1)] [.int 0] (E (tr 56 435 x l) y)
  refine PW_if_ne c_B_call_27 (fun h5 => absurd (by decide) h5) (fun _ => ?_)
  refine PW_iload c_B_call_30 rfl ?_
  refine PW_S0 (d2 := 0) (st := []) [.int 6] c_B_call_32 lk_B_call_22 rfl rfl rfl (Nat.le_of_ble_eq_true rfl) (by first | decide | omega) (Nat.le_of_ble_eq_true rfl) ?_
  refine sp_kab6 ?_
  show PW _ _ _ 35 [some (.ref 54), some (.int 7), some (.int 2), some (.int xx), some (.int b), some (.int (nI d)), some (.int 6), some (.int 1)] [.int 0] (E (tr 56 435 x l) y)
  refine PW_istore (i := 6) (L2 := [some (.ref 54), some (.int 7), some (.int 2), some (.int xx), some (.int b), some (.int (nI d)), some (.int 0), some (.int 1)]) c_B_call_35 (Nat.le_of_ble_eq_true rfl) rfl rfl ?_
  refine PW_iinc (i := 7) (v := 2) (L2 := [some (.ref 54), some (.int 7), some (.int 2), some (.int xx), some (.int b), some (.int (nI d)), some (.int 0), some (.int 2)]) c_B_call_37 rfl (by decide) (Nat.le_of_ble_eq_true rfl) rfl rfl ?_
  refine PW_goto c_B_call_40 ?_
  refine PW_iload c_B_call_6 rfl ?_
  refine PW_bipush (v := 8) c_B_call_8 (by decide) ?_
  refine PW_icmp_ge c_B_call_10 (fun h6 => absurd h6 (by decide)) (fun _ => ?_)
  refine PW_iload c_B_call_13 rfl ?_
  refine PW_S0 (d2 := 0) (st := []) [.int 0] c_B_call_15 lk_B_call_18 rfl rfl rfl (Nat.le_of_ble_eq_true rfl) (by first | decide | omega) (Nat.le_of_ble_eq_true rfl) ?_
  refine sp_B_isKind  ?_
  show PW _ _ _ 18 [some (.ref 54), some (.int 7), some (.int 2), some (.int xx), some (.int b), some (.int (nI d)), some (.int 0), some (.int 2)] [.int (b2i (0 ≤ (0 : Int32) ∧ (0 : Int32) ≤ 7))] (E (tr 56 435 x l) y)
  refine PW_if_eq c_B_call_18 (fun h7 => absurd (by decide) (b2i_0.mp h7)) (fun _ => ?_)
  refine PW_iload c_B_call_21 rfl ?_
  refine PW_iload_n c_B_call_23 rfl ?_
  refine PW_S0 (d2 := 1) (st := []) [.int 0, .int 2] c_B_call_24 lk_B_call_49 rfl rfl rfl (Nat.le_of_ble_eq_true rfl) (by first | decide | omega) (Nat.le_of_ble_eq_true rfl) ?_
  refine sp_own_0_2 ?_
  show PW _ _ _ 27 [some (.ref 54), some (.int 7), some (.int 2), some (.int xx), some (.int b), some (.int (nI d)), some (.int 0), some (.int 2)] [.int 11] (E (tr 56 435 x l) y)
  refine PW_if_ne c_B_call_27 (fun _ => ?_) (fun h8 => absurd h8 (by decide))
  refine PW_iload c_B_call_43 rfl ?_
  refine PW_S0 (d2 := 0) (st := []) [.int 0] c_B_call_45 lk_B_call_18 rfl rfl rfl (Nat.le_of_ble_eq_true rfl) (by first | decide | omega) (Nat.le_of_ble_eq_true rfl) ?_
  refine sp_B_isKind  ?_
  show PW _ _ _ 48 [some (.ref 54), some (.int 7), some (.int 2), some (.int xx), some (.int b), some (.int (nI d)), some (.int 0), some (.int 2)] [.int (b2i (0 ≤ (0 : Int32) ∧ (0 : Int32) ≤ 7))] (E (tr 56 435 x l) y)
  refine PW_if_eq c_B_call_48 (fun h9 => absurd (by decide) (b2i_0.mp h9)) (fun _ => ?_)
  refine PW_iload c_B_call_51 rfl ?_
  refine PW_bipush (v := 30) c_B_call_53 (by decide) ?_
  refine PW_icmp_lt c_B_call_55 (fun h10 => ?_) (fun h10 => absurd ((nI_ltI (by omega) (by decide)).mpr (by omega) : nI d < nI 30) h10)
  refine PW_iload c_B_call_60 rfl ?_
  refine PW_iload_n c_B_call_62 rfl ?_
  refine PW_S0 (d2 := 1) (st := []) [.int 0, .int 2] c_B_call_63 lk_B_call_49 rfl rfl rfl (Nat.le_of_ble_eq_true rfl) (by first | decide | omega) (Nat.le_of_ble_eq_true rfl) ?_
  refine sp_own_0_2 ?_
  show PW _ _ _ 66 [some (.ref 54), some (.int 7), some (.int 2), some (.int xx), some (.int b), some (.int (nI d)), some (.int 0), some (.int 2)] [.int 11] (E (tr 56 435 x l) y)
  refine PW_istore (i := 7) (L2 := [some (.ref 54), some (.int 7), some (.int 2), some (.int xx), some (.int b), some (.int (nI d)), some (.int 0), some (.int 11)]) c_B_call_66 (Nat.le_of_ble_eq_true rfl) rfl rfl ?_
  refine PW_aload_n c_B_call_68 rfl ?_
  refine PW_iload c_B_call_69 rfl ?_
  refine PW_V0 (d2 := 0) (st := []) [.int 11] c_B_call_71 lk_B_call_53 (po_54 _ _) rfl rfl rfl (Nat.le_of_ble_eq_true rfl) (by first | decide | omega) (Nat.le_of_ble_eq_true rfl) ?_
  refine sp_note (by (try simp only [List.length_cons]); omega) ?_
  show PW _ _ _ 74 [some (.ref 54), some (.int 7), some (.int 2), some (.int xx), some (.int b), some (.int (nI d)), some (.int 0), some (.int 11)] [] (E (tr 56 435 x (11 :: l)) y)
  refine PW_iload_n c_B_call_74 rfl ?_
  refine PW_iconst (v := 2) c_B_call_75 (by decide) ?_
  refine PW_icmp_eq c_B_call_76 (fun _ => ?_) (fun h11 => absurd (by decide) h11)
  refine PW_aload_n c_B_call_84 rfl ?_
  refine PW_iload c_B_call_85 rfl ?_
  refine PW_iload c_B_call_87 rfl ?_
  refine PW_S0 (d2 := 0) (st := [.int 11, .ref 54]) [.int 0] c_B_call_89 lk_B_call_22 rfl rfl rfl (Nat.le_of_ble_eq_true rfl) (by first | decide | omega) (Nat.le_of_ble_eq_true rfl) ?_
  refine sp_kab0 ?_
  show PW _ _ _ 92 [some (.ref 54), some (.int 7), some (.int 2), some (.int xx), some (.int b), some (.int (nI d)), some (.int 0), some (.int 11)] [.int (-1), .int 11, .ref 54] (E (tr 56 435 x (11 :: l)) y)
  refine PW_iload_n c_B_call_92 rfl ?_
  refine PW_iload c_B_call_93 rfl ?_
  refine PW_iload c_B_call_95 rfl ?_
  refine PW_iconst (v := 1) c_B_call_97 (by decide) ?_
  refine PW_iadd c_B_call_98 ?_
  refine PW_V0 (d2 := 4) (st := []) [.int 11, .int (-1), .int xx, .int b, .int ((nI d) + 1)] c_B_call_99 lk_B_call_57 (po_54 _ _) rfl rfl rfl (Nat.le_of_ble_eq_true rfl) (by first | decide | omega) (Nat.le_of_ble_eq_true rfl) ?_
  show PW _ _ _ 0 [some (.ref 54), some (.int 11), some (.int (-1)), some (.int xx), some (.int b), some (.int ((nI d) + 1)), none] [] (E (tr 56 435 x (11 :: l)) y)
  refine PW_aload_n c_B_runLater_0 rfl ?_
  refine PW_iload c_B_runLater_1 rfl ?_
  refine PW_V0 (d2 := 1) (st := []) [.int b] c_B_runLater_3 lk_B_runLater_42 (po_54 _ _) rfl rfl rfl (Nat.le_of_ble_eq_true rfl) (by first | decide | omega) (Nat.le_of_ble_eq_true rfl) ?_
  refine sp_kof K ?_
  show PW _ _ _ 6 [some (.ref 54), some (.int 11), some (.int (-1)), some (.int xx), some (.int b), some (.int ((nI d) + 1)), none] [.int 7] (E (tr 56 435 x (11 :: l)) y)
  refine PW_istore (i := 6) (L2 := [some (.ref 54), some (.int 11), some (.int (-1)), some (.int xx), some (.int b), some (.int ((nI d) + 1)), some (.int 7)]) c_B_runLater_6 (Nat.le_of_ble_eq_true rfl) rfl rfl ?_
  refine PW_iload_n c_B_runLater_8 rfl ?_
  refine PW_lookup (tgt := 94) c_B_runLater_9 (by decide) rfl rfl ?_
  refine PW_iload_n c_B_runLater_94 rfl ?_
  refine PW_iload c_B_runLater_95 rfl ?_
  refine PW_ixor c_B_runLater_97 ?_
  refine PW_ireturn (ty := .int) c_B_runLater_98 rfl rfl ?_
  show PW _ _ _ 102 [some (.ref 54), some (.int 7), some (.int 2), some (.int xx), some (.int b), some (.int (nI d)), some (.int 0), some (.int 11)] [.int (xx ^^^ b)] (E (tr 56 435 x (11 :: l)) y)
  refine PW_goto c_B_call_102 ?_
  refine PW_ireturn (ty := .int) c_B_call_123 rfl rfl ?_
  exact h
theorem sp_call_7_7_1 {z : ZS} {post : Option Value → List PE → Prop} {x y : XS} {l : List Int32} {b xx dp : Int32} {d : Nat} (K : kb x b 7) (ed : dp = nI d) (hd : d + 5 ≤ 30) (hl : l.length + 6 ≤ 24) (h : post (some (.int (((((xx + b) * 2) - 1) * 2) + ((2 : Int32) ^^^ b)))) (E (tr 56 435 x (11 :: 1 :: 70 :: 81 :: 10 :: 80 :: l)) y)) : PW (13, 0, 0, z) m_B_call post 0 [some (.ref 54), some (.int 7), some (.int 1), some (.int xx), some (.int b), some (.int dp), none, none] [] (E (tr 56 435 x l) y) := by
  subst ed
  refine PW_iload_n c_B_call_0 rfl ?_
  refine PW_istore (i := 6) (L2 := [some (.ref 54), some (.int 7), some (.int 1), some (.int xx), some (.int b), some (.int (nI d)), some (.int 7), none]) c_B_call_1 (Nat.le_of_ble_eq_true rfl) rfl rfl ?_
  refine PW_iconst (v := 0) c_B_call_3 (by decide) ?_
  refine PW_istore (i := 7) (L2 := [some (.ref 54), some (.int 7), some (.int 1), some (.int xx), some (.int b), some (.int (nI d)), some (.int 7), some (.int 0)]) c_B_call_4 (Nat.le_of_ble_eq_true rfl) rfl rfl ?_
  refine PW_iload c_B_call_6 rfl ?_
  refine PW_bipush (v := 8) c_B_call_8 (by decide) ?_
  refine PW_icmp_ge c_B_call_10 (fun h0 => absurd h0 (by decide)) (fun _ => ?_)
  refine PW_iload c_B_call_13 rfl ?_
  refine PW_S0 (d2 := 0) (st := []) [.int 7] c_B_call_15 lk_B_call_18 rfl rfl rfl (Nat.le_of_ble_eq_true rfl) (by first | decide | omega) (Nat.le_of_ble_eq_true rfl) ?_
  refine sp_B_isKind  ?_
  show PW _ _ _ 18 [some (.ref 54), some (.int 7), some (.int 1), some (.int xx), some (.int b), some (.int (nI d)), some (.int 7), some (.int 0)] [.int (b2i (0 ≤ (7 : Int32) ∧ (7 : Int32) ≤ 7))] (E (tr 56 435 x l) y)
  refine PW_if_eq c_B_call_18 (fun h1 => absurd (by decide) (b2i_0.mp h1)) (fun _ => ?_)
  refine PW_iload c_B_call_21 rfl ?_
  refine PW_iload_n c_B_call_23 rfl ?_
  refine PW_S0 (d2 := 1) (st := []) [.int 7, .int 1] c_B_call_24 lk_B_call_49 rfl rfl rfl (Nat.le_of_ble_eq_true rfl) (by first | decide | omega) (Nat.le_of_ble_eq_true rfl) ?_
  refine sp_own_7_1 ?_
  show PW _ _ _ 27 [some (.ref 54), some (.int 7), some (.int 1), some (.int xx), some (.int b), some (.int (nI d)), some (.int 7), some (.int 0)] [.int 80] (E (tr 56 435 x l) y)
  refine PW_if_ne c_B_call_27 (fun _ => ?_) (fun h2 => absurd h2 (by decide))
  refine PW_iload c_B_call_43 rfl ?_
  refine PW_S0 (d2 := 0) (st := []) [.int 7] c_B_call_45 lk_B_call_18 rfl rfl rfl (Nat.le_of_ble_eq_true rfl) (by first | decide | omega) (Nat.le_of_ble_eq_true rfl) ?_
  refine sp_B_isKind  ?_
  show PW _ _ _ 48 [some (.ref 54), some (.int 7), some (.int 1), some (.int xx), some (.int b), some (.int (nI d)), some (.int 7), some (.int 0)] [.int (b2i (0 ≤ (7 : Int32) ∧ (7 : Int32) ≤ 7))] (E (tr 56 435 x l) y)
  refine PW_if_eq c_B_call_48 (fun h3 => absurd (by decide) (b2i_0.mp h3)) (fun _ => ?_)
  refine PW_iload c_B_call_51 rfl ?_
  refine PW_bipush (v := 30) c_B_call_53 (by decide) ?_
  refine PW_icmp_lt c_B_call_55 (fun h4 => ?_) (fun h4 => absurd ((nI_ltI (by omega) (by decide)).mpr (by omega) : nI d < nI 30) h4)
  refine PW_iload c_B_call_60 rfl ?_
  refine PW_iload_n c_B_call_62 rfl ?_
  refine PW_S0 (d2 := 1) (st := []) [.int 7, .int 1] c_B_call_63 lk_B_call_49 rfl rfl rfl (Nat.le_of_ble_eq_true rfl) (by first | decide | omega) (Nat.le_of_ble_eq_true rfl) ?_
  refine sp_own_7_1 ?_
  show PW _ _ _ 66 [some (.ref 54), some (.int 7), some (.int 1), some (.int xx), some (.int b), some (.int (nI d)), some (.int 7), some (.int 0)] [.int 80] (E (tr 56 435 x l) y)
  refine PW_istore (i := 7) (L2 := [some (.ref 54), some (.int 7), some (.int 1), some (.int xx), some (.int b), some (.int (nI d)), some (.int 7), some (.int 80)]) c_B_call_66 (Nat.le_of_ble_eq_true rfl) rfl rfl ?_
  refine PW_aload_n c_B_call_68 rfl ?_
  refine PW_iload c_B_call_69 rfl ?_
  refine PW_V0 (d2 := 0) (st := []) [.int 80] c_B_call_71 lk_B_call_53 (po_54 _ _) rfl rfl rfl (Nat.le_of_ble_eq_true rfl) (by first | decide | omega) (Nat.le_of_ble_eq_true rfl) ?_
  refine sp_note (by (try simp only [List.length_cons]); omega) ?_
  show PW _ _ _ 74 [some (.ref 54), some (.int 7), some (.int 1), some (.int xx), some (.int b), some (.int (nI d)), some (.int 7), some (.int 80)] [] (E (tr 56 435 x (80 :: l)) y)
  refine PW_iload_n c_B_call_74 rfl ?_
  refine PW_iconst (v := 2) c_B_call_75 (by decide) ?_
  refine PW_icmp_eq c_B_call_76 (fun h5 => absurd h5 (by decide)) (fun _ => ?_)
  refine PW_iload_n c_B_call_79 rfl ?_
  refine PW_iconst (v := 3) c_B_call_80 (by decide) ?_
  refine PW_icmp_ne c_B_call_81 (fun _ => ?_) (fun h6 => absurd h6 (by decide))
  refine PW_aload_n c_B_call_105 rfl ?_
  refine PW_iload c_B_call_106 rfl ?_
  refine PW_iload c_B_call_108 rfl ?_
  refine PW_S0 (d2 := 0) (st := [.int 80, .ref 54]) [.int 7] c_B_call_110 lk_B_call_22 rfl rfl rfl (Nat.le_of_ble_eq_true rfl) (by first | decide | omega) (Nat.le_of_ble_eq_true rfl) ?_
  refine sp_kab7 ?_
  show PW _ _ _ 113 [some (.ref 54), some (.int 7), some (.int 1), some (.int xx), some (.int b), some (.int (nI d)), some (.int 7), some (.int 80)] [.int 6, .int 80, .ref 54] (E (tr 56 435 x (80 :: l)) y)
  refine PW_iload_n c_B_call_113 rfl ?_
  refine PW_iload c_B_call_114 rfl ?_
  refine PW_iload c_B_call_116 rfl ?_
  refine PW_iconst (v := 1) c_B_call_118 (by decide) ?_
  refine PW_iadd c_B_call_119 ?_
  refine PW_V0 (d2 := 12) (st := []) [.int 80, .int 6, .int xx, .int b, .int ((nI d) + 1)] c_B_call_120 lk_B_call_60 (po_54 _ _) rfl rfl rfl (Nat.le_of_ble_eq_true rfl) (by first | decide | omega) (Nat.le_of_ble_eq_true rfl) ?_
  show PW _ _ _ 0 [some (.ref 54), some (.int 80), some (.int 6), some (.int xx), some (.int b), some (.int ((nI d) + 1)), none] [] (E (tr 56 435 x (80 :: l)) y)
  refine PW_aload_n c_B_runFirst_0 rfl ?_
  refine PW_iload c_B_runFirst_1 rfl ?_
  refine PW_V0 (d2 := 1) (st := []) [.int b] c_B_runFirst_3 lk_B_runFirst_42 (po_54 _ _) rfl rfl rfl (Nat.le_of_ble_eq_true rfl) (by first | decide | omega) (Nat.le_of_ble_eq_true rfl) ?_
  refine sp_kof K ?_
  show PW _ _ _ 6 [some (.ref 54), some (.int 80), some (.int 6), some (.int xx), some (.int b), some (.int ((nI d) + 1)), none] [.int 7] (E (tr 56 435 x (80 :: l)) y)
  refine PW_istore (i := 6) (L2 := [some (.ref 54), some (.int 80), some (.int 6), some (.int xx), some (.int b), some (.int ((nI d) + 1)), some (.int 7)]) c_B_runFirst_6 (Nat.le_of_ble_eq_true rfl) rfl rfl ?_
  refine PW_iload_n c_B_runFirst_8 rfl ?_
  refine PW_lookup (tgt := 159) c_B_runFirst_9 (by decide) rfl rfl ?_
  refine PW_aload_n c_B_runFirst_159 rfl ?_
  refine PW_iload_n c_B_runFirst_160 rfl ?_
  refine PW_iconst (v := 1) c_B_runFirst_161 (by decide) ?_
  refine PW_iload_n c_B_runFirst_162 rfl ?_
  refine PW_iload c_B_runFirst_163 rfl ?_
  refine PW_iload c_B_runFirst_165 rfl ?_
  refine PW_V0 (d2 := 11) (st := []) [.int 6, .int 1, .int xx, .int b, .int ((nI d) + 1)] c_B_runFirst_167 lk_B_runFirst_45 (po_54 _ _) rfl rfl rfl (Nat.le_of_ble_eq_true rfl) (by first | decide | omega) (Nat.le_of_ble_eq_true rfl) ?_
  refine PW.deeper (k := (11, 0, 0, z)) (Nat.le_of_ble_eq_true rfl) (Nat.le_refl _) (Nat.le_refl _) ?_
  refine sp_call_7_6_1 K (nI_1 d) (by omega) (by (try simp only [List.length_cons]); omega) ?_
  show PW _ _ _ 170 [some (.ref 54), some (.int 80), some (.int 6), some (.int xx), some (.int b), some (.int ((nI d) + 1)), some (.int 7)] [.int ((((xx + b) * 2) - 1) * 2)] (E (tr 56 435 x (1 :: 70 :: 81 :: 10 :: 80 :: l)) y)
  refine PW_aload_n c_B_runFirst_170 rfl ?_
  refine PW_iload c_B_runFirst_171 rfl ?_
  refine PW_iconst (v := 2) c_B_runFirst_173 (by decide) ?_
  refine PW_iconst (v := 2) c_B_runFirst_174 (by decide) ?_
  refine PW_iload c_B_runFirst_175 rfl ?_
  refine PW_iload c_B_runFirst_177 rfl ?_
  refine PW_V0 (d2 := 11) (st := [.int ((((xx + b) * 2) - 1) * 2)]) [.int 7, .int 2, .int 2, .int b, .int ((nI d) + 1)] c_B_runFirst_179 lk_B_runFirst_45 (po_54 _ _) rfl rfl rfl (Nat.le_of_ble_eq_true rfl) (by first | decide | omega) (Nat.le_of_ble_eq_true rfl) ?_
  refine PW.deeper (k := (5, 0, 0, z)) (Nat.le_of_ble_eq_true rfl) (Nat.le_refl _) (Nat.le_refl _) ?_
  refine sp_call_7_7_2 K (nI_1 d) (by omega) (by (try simp only [List.length_cons]); omega) ?_
  show PW _ _ _ 182 [some (.ref 54), some (.int 80), some (.int 6), some (.int xx), some (.int b), some (.int ((nI d) + 1)), some (.int 7)] [.int ((2 : Int32) ^^^ b), .int ((((xx + b) * 2) - 1) * 2)] (E (tr 56 435 x (11 :: 1 :: 70 :: 81 :: 10 :: 80 :: l)) y)
  refine PW_iadd c_B_runFirst_182 ?_
  refine PW_ireturn (ty := .int) c_B_runFirst_183 rfl rfl ?_
  show PW _ _ _ 123 [some (.ref 54), some (.int 7), some (.int 1), some (.int xx), some (.int b), some (.int (nI d)), some (.int 7), some (.int 80)] [.int (((((xx + b) * 2) - 1) * 2) + ((2 : Int32) ^^^ b))] (E (tr 56 435 x (11 :: 1 :: 70 :: 81 :: 10 :: 80 :: l)) y)
  refine PW_ireturn (ty := .int) c_B_call_123 rfl rfl ?_
  exact h
theorem sp_call_7_7_3 {z : ZS} {post : Option Value → List PE → Prop} {x y : XS} {l : List Int32} {b xx dp : Int32} {d : Nat} (K : kb x b 7) (ed : dp = nI d) (hd : d + 6 ≤ 30) (hl : l.length + 8 ≤ 24) (h : post (some (.int ((((((xx + b) * 2) - 1) * 2) + ((2 : Int32) ^^^ b)) - ((1 : Int32) ^^^ b)))) (E (tr 56 435 x (11 :: 11 :: 1 :: 70 :: 81 :: 10 :: 80 :: 2 :: l)) y)) : PW (15, 0, 0, z) m_B_call post 0 [some (.ref 54), some (.int 7), some (.int 3), some (.int xx), some (.int b), some (.int dp), none, none] [] (E (tr 56 435 x l) y) := by
  subst ed
  refine PW_iload_n c_B_call_0 rfl ?_
  refine PW_istore (i := 6) (L2 := [some (.ref 54), some (.int 7), some (.int 3), some (.int xx), some (.int b), some (.int (nI d)), some (.int 7), none]) c_B_call_1 (Nat.le_of_ble_eq_true rfl) rfl rfl ?_
  refine PW_iconst (v := 0) c_B_call_3 (by decide) ?_
  refine PW_istore (i := 7) (L2 := [some (.ref 54), some (.int 7), some (.int 3), some (.int xx), some (.int b), some (.int (nI d)), some (.int 7), some (.int 0)]) c_B_call_4 (Nat.le_of_ble_eq_true rfl) rfl rfl ?_
  refine PW_iload c_B_call_6 rfl ?_
  refine PW_bipush (v := 8) c_B_call_8 (by decide) ?_
  refine PW_icmp_ge c_B_call_10 (fun h0 => absurd h0 (by decide)) (fun _ => ?_)
  refine PW_iload c_B_call_13 rfl ?_
  refine PW_S0 (d2 := 0) (st := []) [.int 7] c_B_call_15 lk_B_call_18 rfl rfl rfl (Nat.le_of_ble_eq_true rfl) (by first | decide | omega) (Nat.le_of_ble_eq_true rfl) ?_
  refine sp_B_isKind  ?_
  show PW _ _ _ 18 [some (.ref 54), some (.int 7), some (.int 3), some (.int xx), some (.int b), some (.int (nI d)), some (.int 7), some (.int 0)] [.int (b2i (0 ≤ (7 : Int32) ∧ (7 : Int32) ≤ 7))] (E (tr 56 435 x l) y)
  refine PW_if_eq c_B_call_18 (fun h1 => absurd (by decide) (b2i_0.mp h1)) (fun _ => ?_)
  refine PW_iload c_B_call_21 rfl ?_
  refine PW_iload_n c_B_call_23 rfl ?_
  refine PW_S0 (d2 := 1) (st := []) [.int 7, .int 3] c_B_call_24 lk_B_call_49 rfl rfl rfl (Nat.le_of_ble_eq_true rfl) (by first | decide | omega) (Nat.le_of_ble_eq_true rfl) ?_
  refine sp_own_7_3 ?_
  show PW _ _ _ 27 [some (.ref 54), some (.int 7), some (.int 3), some (.int xx), some (.int b), some (.int (nI d)), some (.int 7), some (.int 0)] [.int 0] (E (tr 56 435 x l) y)
  refine PW_if_ne c_B_call_27 (fun h2 => absurd (by decide) h2) (fun _ => ?_)
  refine PW_iload c_B_call_30 rfl ?_
  refine PW_S0 (d2 := 0) (st := []) [.int 7] c_B_call_32 lk_B_call_22 rfl rfl rfl (Nat.le_of_ble_eq_true rfl) (by first | decide | omega) (Nat.le_of_ble_eq_true rfl) ?_
  refine sp_kab7 ?_
  show PW _ _ _ 35 [some (.ref 54), some (.int 7), some (.int 3), some (.int xx), some (.int b), some (.int (nI d)), some (.int 7), some (.int 0)] [.int 6] (E (tr 56 435 x l) y)
  refine PW_istore (i := 6) (L2 := [some (.ref 54), some (.int 7), some (.int 3), some (.int xx), some (.int b), some (.int (nI d)), some (.int 6), some (.int 0)]) c_B_call_35 (Nat.le_of_ble_eq_true rfl) rfl rfl ?_
  refine PW_iinc (i := 7) (v := 1) (L2 := [some (.ref 54), some (.int 7), some (.int 3), some (.int xx), some (.int b), some (.int (nI d)), some (.int 6), some (.int 1)]) c_B_call_37 rfl (by decide) (Nat.le_of_ble_eq_true rfl) rfl rfl ?_
  refine PW_goto c_B_call_40 ?_
  refine PW_iload c_B_call_6 rfl ?_
  refine PW_bipush (v := 8) c_B_call_8 (by decide) ?_
  refine PW_icmp_ge c_B_call_10 (fun h3 => absurd h3 (by decide)) (fun _ => ?_)
  refine PW_iload c_B_call_13 rfl ?_
  refine PW_S0 (d2 := 0) (st := []) [.int 6] c_B_call_15 lk_B_call_18 rfl rfl rfl (Nat.le_of_ble_eq_true rfl) (by first | decide | omega) (Nat.le_of_ble_eq_true rfl) ?_
  refine sp_B_isKind  ?_
  show PW _ _ _ 18 [some (.ref 54), some (.int 7), some (.int 3), some (.int xx), some (.int b), some (.int (nI d)), some (.int 6), some (.int 1)] [.int (b2i (0 ≤ (6 : Int32) ∧ (6 : Int32) ≤ 7))] (E (tr 56 435 x l) y)
  refine PW_if_eq c_B_call_18 (fun h4 => absurd (by decide) (b2i_0.mp h4)) (fun _ => ?_)
  refine PW_iload c_B_call_21 rfl ?_
  refine PW_iload_n c_B_call_23 rfl ?_
  refine PW_S0 (d2 := 1) (st := []) [.int 6, .int 3] c_B_call_24 lk_B_call_49 rfl rfl rfl (Nat.le_of_ble_eq_true rfl) (by first | decide | omega) (Nat.le_of_ble_eq_true rfl) ?_
  refine sp_own_6_3 ?_
  show PW _ _ _ 27 [some (.ref 54), some (.int 7), some (.int 3), some (.int xx), some (.int b), some (.int (nI d)), some (.int 6), some (.int 1)] [.int 0] (E (tr 56 435 x l) y)
  refine PW_if_ne c_B_call_27 (fun h5 => absurd (by decide) h5) (fun _ => ?_)
  refine PW_iload c_B_call_30 rfl ?_
  refine PW_S0 (d2 := 0) (st := []) [.int 6] c_B_call_32 lk_B_call_22 rfl rfl rfl (Nat.le_of_ble_eq_true rfl) (by first | decide | omega) (Nat.le_of_ble_eq_true rfl) ?_
  refine sp_kab6 ?_
  show PW _ _ _ 35 [some (.ref 54), some (.int 7), some (.int 3), some (.int xx), some (.int b), some (.int (nI d)), some (.int 6), some (.int 1)] [.int 0] (E (tr 56 435 x l) y)
  refine PW_istore (i := 6) (L2 := [some (.ref 54), some (.int 7), some (.int 3), some (.int xx), some (.int b), some (.int (nI d)), some (.int 0), some (.int 1)]) c_B_call_35 (Nat.le_of_ble_eq_true rfl) rfl rfl ?_
  refine PW_iinc (i := 7) (v := 2) (L2 := [some (.ref 54), some (.int 7), some (.int 3), some (.int xx), some (.int b), some (.int (nI d)), some (.int 0), some (.int 2)]) c_B_call_37 rfl (by decide) (Nat.le_of_ble_eq_true rfl) rfl rfl ?_
  refine PW_goto c_B_call_40 ?_
  refine PW_iload c_B_call_6 rfl ?_
  refine PW_bipush (v := 8) c_B_call_8 (by decide) ?_
  refine PW_icmp_ge c_B_call_10 (fun h6 => absurd h6 (by decide)) (fun _ => ?_)
  refine PW_iload c_B_call_13 rfl ?_
  refine PW_S0 (d2 := 0) (st := []) [.int 0] c_B_call_15 lk_B_call_18 rfl rfl rfl (Nat.le_of_ble_eq_true rfl) (by first | decide | omega) (Nat.le_of_ble_eq_true rfl) ?_
  refine sp_B_isKind  ?_
  show PW _ _ _ 18 [some (.ref 54), some (.int 7), some (.int 3), some (.int xx), some (.int b), some (.int (nI d)), some (.int 0), some (.int 2)] [.int (b2i (0 ≤ (0 : Int32) ∧ (0 : Int32) ≤ 7))] (E (tr 56 435 x l) y)
  refine PW_if_eq c_B_call_18 (fun h7 => absurd (by decide) (b2i_0.mp h7)) (fun _ => ?_)
  refine PW_iload c_B_call_21 rfl ?_
  refine PW_iload_n c_B_call_23 rfl ?_
  refine PW_S0 (d2 := 1) (st := []) [.int 0, .int 3] c_B_call_24 lk_B_call_49 rfl rfl rfl (Nat.le_of_ble_eq_true rfl) (by first | decide | omega) (Nat.le_of_ble_eq_true rfl) ?_
  refine sp_own_0_3 ?_
  show PW _ _ _ 27 [some (.ref 54), some (.int 7), some (.int 3), some (.int xx), some (.int b), some (.int (nI d)), some (.int 0), some (.int 2)] [.int 2] (E (tr 56 435 x l) y)
  refine PW_if_ne c_B_call_27 (fun _ => ?_) (fun h8 => absurd h8 (by decide))
  refine PW_iload c_B_call_43 rfl ?_
  refine PW_S0 (d2 := 0) (st := []) [.int 0] c_B_call_45 lk_B_call_18 rfl rfl rfl (Nat.le_of_ble_eq_true rfl) (by first | decide | omega) (Nat.le_of_ble_eq_true rfl) ?_
  refine sp_B_isKind  ?_
  show PW _ _ _ 48 [some (.ref 54), some (.int 7), some (.int 3), some (.int xx), some (.int b), some (.int (nI d)), some (.int 0), some (.int 2)] [.int (b2i (0 ≤ (0 : Int32) ∧ (0 : Int32) ≤ 7))] (E (tr 56 435 x l) y)
  refine PW_if_eq c_B_call_48 (fun h9 => absurd (by decide) (b2i_0.mp h9)) (fun _ => ?_)
  refine PW_iload c_B_call_51 rfl ?_
  refine PW_bipush (v := 30) c_B_call_53 (by decide) ?_
  refine PW_icmp_lt c_B_call_55 (fun h10 => ?_) (fun h10 => absurd ((nI_ltI (by omega) (by decide)).mpr (by omega) : nI d < nI 30) h10)
  refine PW_iload c_B_call_60 rfl ?_
  refine PW_iload_n c_B_call_62 rfl ?_
  refine PW_S0 (d2 := 1) (st := []) [.int 0, .int 3] c_B_call_63 lk_B_call_49 rfl rfl rfl (Nat.le_of_ble_eq_true rfl) (by first | decide | omega) (Nat.le_of_ble_eq_true rfl) ?_
  refine sp_own_0_3 ?_
  show PW _ _ _ 66 [some (.ref 54), some (.int 7), some (.int 3), some (.int xx), some (.int b), some (.int (nI d)), some (.int 0), some (.int 2)] [.int 2] (E (tr 56 435 x l) y)
  refine PW_istore (i := 7) (L2 := [some (.ref 54), some (.int 7), some (.int 3), some (.int xx), some (.int b), some (.int (nI d)), some (.int 0), some (.int 2)]) c_B_call_66 (Nat.le_of_ble_eq_true rfl) rfl rfl ?_
  refine PW_aload_n c_B_call_68 rfl ?_
  refine PW_iload c_B_call_69 rfl ?_
  refine PW_V0 (d2 := 0) (st := []) [.int 2] c_B_call_71 lk_B_call_53 (po_54 _ _) rfl rfl rfl (Nat.le_of_ble_eq_true rfl) (by first | decide | omega) (Nat.le_of_ble_eq_true rfl) ?_
  refine sp_note (by (try simp only [List.length_cons]); omega) ?_
  show PW _ _ _ 74 [some (.ref 54), some (.int 7), some (.int 3), some (.int xx), some (.int b), some (.int (nI d)), some (.int 0), some (.int 2)] [] (E (tr 56 435 x (2 :: l)) y)
  refine PW_iload_n c_B_call_74 rfl ?_
  refine PW_iconst (v := 2) c_B_call_75 (by decide) ?_
  refine PW_icmp_eq c_B_call_76 (fun h11 => absurd h11 (by decide)) (fun _ => ?_)
  refine PW_iload_n c_B_call_79 rfl ?_
  refine PW_iconst (v := 3) c_B_call_80 (by decide) ?_
  refine PW_icmp_ne c_B_call_81 (fun h12 => absurd (by decide) h12) (fun _ => ?_)
  refine PW_aload_n c_B_call_84 rfl ?_
  refine PW_iload c_B_call_85 rfl ?_
  refine PW_iload c_B_call_87 rfl ?_
  refine PW_S0 (d2 := 0) (st := [.int 2, .ref 54]) [.int 0] c_B_call_89 lk_B_call_22 rfl rfl rfl (Nat.le_of_ble_eq_true rfl) (by first | decide | omega) (Nat.le_of_ble_eq_true rfl) ?_
  refine sp_kab0 ?_
  show PW _ _ _ 92 [some (.ref 54), some (.int 7), some (.int 3), some (.int xx), some (.int b), some (.int (nI d)), some (.int 0), some (.int 2)] [.int (-1), .int 2, .ref 54] (E (tr 56 435 x (2 :: l)) y)
  refine PW_iload_n c_B_call_92 rfl ?_
  refine PW_iload c_B_call_93 rfl ?_
  refine PW_iload c_B_call_95 rfl ?_
  refine PW_iconst (v := 1) c_B_call_97 (by decide) ?_
  refine PW_iadd c_B_call_98 ?_
  refine PW_V0 (d2 := 14) (st := []) [.int 2, .int (-1), .int xx, .int b, .int ((nI d) + 1)] c_B_call_99 lk_B_call_57 (po_54 _ _) rfl rfl rfl (Nat.le_of_ble_eq_true rfl) (by first | decide | omega) (Nat.le_of_ble_eq_true rfl) ?_
  show PW _ _ _ 0 [some (.ref 54), some (.int 2), some (.int (-1)), some (.int xx), some (.int b), some (.int ((nI d) + 1)), none] [] (E (tr 56 435 x (2 :: l)) y)
  refine PW_aload_n c_B_runLater_0 rfl ?_
  refine PW_iload c_B_runLater_1 rfl ?_
  refine PW_V0 (d2 := 1) (st := []) [.int b] c_B_runLater_3 lk_B_runLater_42 (po_54 _ _) rfl rfl rfl (Nat.le_of_ble_eq_true rfl) (by first | decide | omega) (Nat.le_of_ble_eq_true rfl) ?_
  refine sp_kof K ?_
  show PW _ _ _ 6 [some (.ref 54), some (.int 2), some (.int (-1)), some (.int xx), some (.int b), some (.int ((nI d) + 1)), none] [.int 7] (E (tr 56 435 x (2 :: l)) y)
  refine PW_istore (i := 6) (L2 := [some (.ref 54), some (.int 2), some (.int (-1)), some (.int xx), some (.int b), some (.int ((nI d) + 1)), some (.int 7)]) c_B_runLater_6 (Nat.le_of_ble_eq_true rfl) rfl rfl ?_
  refine PW_iload_n c_B_runLater_8 rfl ?_
  refine PW_lookup (tgt := 68) c_B_runLater_9 (by decide) rfl rfl ?_
  refine PW_aload_n c_B_runLater_68 rfl ?_
  refine PW_iload c_B_runLater_69 rfl ?_
  refine PW_iconst (v := 1) c_B_runLater_71 (by decide) ?_
  refine PW_iload_n c_B_runLater_72 rfl ?_
  refine PW_iload c_B_runLater_73 rfl ?_
  refine PW_iload c_B_runLater_75 rfl ?_
  refine PW_V0 (d2 := 13) (st := []) [.int 7, .int 1, .int xx, .int b, .int ((nI d) + 1)] c_B_runLater_77 lk_B_runLater_45 (po_54 _ _) rfl rfl rfl (Nat.le_of_ble_eq_true rfl) (by first | decide | omega) (Nat.le_of_ble_eq_true rfl) ?_
  refine PW.deeper (k := (13, 0, 0, z)) (Nat.le_of_ble_eq_true rfl) (Nat.le_refl _) (Nat.le_refl _) ?_
  refine sp_call_7_7_1 K (nI_1 d) (by omega) (by (try simp only [List.length_cons]); omega) ?_
  show PW _ _ _ 80 [some (.ref 54), some (.int 2), some (.int (-1)), some (.int xx), some (.int b), some (.int ((nI d) + 1)), some (.int 7)] [.int (((((xx + b) * 2) - 1) * 2) + ((2 : Int32) ^^^ b))] (E (tr 56 435 x (11 :: 1 :: 70 :: 81 :: 10 :: 80 :: 2 :: l)) y)
  refine PW_aload_n c_B_runLater_80 rfl ?_
  refine PW_iload c_B_runLater_81 rfl ?_
  refine PW_iconst (v := 2) c_B_runLater_83 (by decide) ?_
  refine PW_iconst (v := 1) c_B_runLater_84 (by decide) ?_
  refine PW_iload c_B_runLater_85 rfl ?_
  refine PW_iload c_B_runLater_87 rfl ?_
  refine PW_V0 (d2 := 13) (st := [.int (((((xx + b) * 2) - 1) * 2) + ((2 : Int32) ^^^ b))]) [.int 7, .int 2, .int 1, .int b, .int ((nI d) + 1)] c_B_runLater_89 lk_B_runLater_45 (po_54 _ _) rfl rfl rfl (Nat.le_of_ble_eq_true rfl) (by first | decide | omega) (Nat.le_of_ble_eq_true rfl) ?_
  refine PW.deeper (k := (5, 0, 0, z)) (Nat.le_of_ble_eq_true rfl) (Nat.le_refl _) (Nat.le_refl _) ?_
  refine sp_call_7_7_2 K (nI_1 d) (by omega) (by (try simp only [List.length_cons]); omega) ?_
  show PW _ _ _ 92 [some (.ref 54), some (.int 2), some (.int (-1)), some (.int xx), some (.int b), some (.int ((nI d) + 1)), some (.int 7)] [.int ((1 : Int32) ^^^ b), .int (((((xx + b) * 2) - 1) * 2) + ((2 : Int32) ^^^ b))] (E (tr 56 435 x (11 :: 11 :: 1 :: 70 :: 81 :: 10 :: 80 :: 2 :: l)) y)
  refine PW_isub c_B_runLater_92 ?_
  refine PW_ireturn (ty := .int) c_B_runLater_93 rfl rfl ?_
  show PW _ _ _ 102 [some (.ref 54), some (.int 7), some (.int 3), some (.int xx), some (.int b), some (.int (nI d)), some (.int 0), some (.int 2)] [.int ((((((xx + b) * 2) - 1) * 2) + ((2 : Int32) ^^^ b)) - ((1 : Int32) ^^^ b))] (E (tr 56 435 x (11 :: 11 :: 1 :: 70 :: 81 :: 10 :: 80 :: 2 :: l)) y)
  refine PW_goto c_B_call_102 ?_
  refine PW_ireturn (ty := .int) c_B_call_123 rfl rfl ?_
  exact h
