theorem sp_M_plainSays_0 {z : ZS} {post : Option Value → List PE → Prop} {x y : XS} {l : List Int32} {b xx : Int32} (K : km y b 0) (hl : l.length + 1 ≤ 24) (h : post (some (.int (xx + b))) (E x (tr 103 611 y (1 :: l)))) : PW (1, 0, 0, z) m_M_plainSays post 0 [some (.ref 70), some (.int b), some (.int xx)] [] (E x (tr 103 611 y l)) := by
  have hk := K.2
  refine PW_aload_n c_M_plainSays_0 rfl ?_
  refine PW_iconst (v := 1) c_M_plainSays_1 (by decide) ?_
  refine PW_V0 (d2 := 0) (st := []) [.int 1] c_M_plainSays_2 lk_M_plainSays_361 (po_70 _ _) rfl rfl rfl (Nat.le_of_ble_eq_true rfl) (by first | decide | omega) (Nat.le_of_ble_eq_true rfl) ?_
  refine sp_ran (by (try simp only [List.length_cons]); omega) ?_
  show PW _ _ _ 5 [some (.ref 70), some (.int b), some (.int xx)] [] (E x (tr 103 611 y (1 :: l)))
  refine PW_iload_n c_M_plainSays_5 rfl ?_
  refine PW_iload_n c_M_plainSays_6 rfl ?_
  refine PW_iadd c_M_plainSays_7 ?_
  refine PW_ireturn (ty := .int) c_M_plainSays_8 rfl rfl ?_
  exact h
theorem sp_M_saying_0 {z : ZS} {post : Option Value → List PE → Prop} {x y : XS} {l : List Int32} {b xx : Int32} (K : km y b 0) (hl : l.length + 1 ≤ 24) (h : post (some (.int (xx + b))) (E x (tr 103 611 y (1 :: l)))) : PW (3, 0, 0, z) m_M_saying post 0 [some (.ref 70), some (.int b), some (.int xx)] [] (E x (tr 103 611 y l)) := by
  have hk := K.2
  refine PW_aload_n c_M_saying_0 rfl ?_
  refine PW_get (v := .ref 102) c_M_saying_1 fl_M_105 (gf_70_50 _ _) ?_
  refine PW_iload_n c_M_saying_4 rfl ?_
  refine PW_iald (j := b.toNatClampNeg) c_M_saying_5 (ar_102 _ _) (vp_in_iff.mpr K.1) rfl ?_
  show PW _ _ _ 6 [some (.ref 70), some (.int b), some (.int xx)] [.int (((tr 103 611 y l).2.1 102) b.toNatClampNeg)] (E x (tr 103 611 y l))
  rw [tr_A (by decide), hk]
  show PW _ _ _ 6 [some (.ref 70), some (.int b), some (.int xx)] [.int 0] (E x (tr 103 611 y l))
  refine PW_iconst (v := 1) c_M_saying_6 (by decide) ?_
  refine PW_S0 (d2 := 0) (st := []) [.int 0, .int 1] c_M_saying_7 lk_M_saying_367 rfl rfl rfl (Nat.le_of_ble_eq_true rfl) (by first | decide | omega) (Nat.le_of_ble_eq_true rfl) ?_
  show PW _ _ _ 0 [some (.int 0), some (.int 1)] [] (E x (tr 103 611 y l))
  refine PW_iload_n c_M_isUnder_0 rfl ?_
  refine PW_if_eq c_M_isUnder_1 (fun h0 => absurd h0 (by decide)) (fun _ => ?_)
  refine PW_iload_n c_M_isUnder_4 rfl ?_
  refine PW_iload_n c_M_isUnder_5 rfl ?_
  refine PW_icmp_eq c_M_isUnder_6 (fun h1 => absurd h1 (by decide)) (fun _ => ?_)
  refine PW_iload_n c_M_isUnder_9 rfl ?_
  refine PW_iconst (v := 1) c_M_isUnder_10 (by decide) ?_
  refine PW_icmp_ne c_M_isUnder_11 (fun h2 => absurd (by decide) h2) (fun _ => ?_)
  refine PW_iload_n c_M_isUnder_14 rfl ?_
  refine PW_iconst (v := 4) c_M_isUnder_15 (by decide) ?_
  refine PW_icmp_eq c_M_isUnder_16 (fun h3 => absurd h3 (by decide)) (fun _ => ?_)
  refine PW_iload_n c_M_isUnder_19 rfl ?_
  refine PW_iconst (v := 2) c_M_isUnder_20 (by decide) ?_
  refine PW_icmp_ne c_M_isUnder_21 (fun _ => ?_) (fun h4 => absurd h4 (by decide))
  refine PW_iload_n c_M_isUnder_34 rfl ?_
  refine PW_iconst (v := 3) c_M_isUnder_35 (by decide) ?_
  refine PW_icmp_ne c_M_isUnder_36 (fun _ => ?_) (fun h5 => absurd h5 (by decide))
  refine PW_iload_n c_M_isUnder_44 rfl ?_
  refine PW_bipush (v := 6) c_M_isUnder_45 (by decide) ?_
  refine PW_icmp_ne c_M_isUnder_47 (fun _ => ?_) (fun h6 => absurd h6 (by decide))
  refine PW_iconst (v := 0) c_M_isUnder_60 (by decide) ?_
  refine PW_ireturn (ty := .boolean) c_M_isUnder_61 rfl (by decide +kernel) ?_
  show PW _ _ _ 10 [some (.ref 70), some (.int b), some (.int xx)] [.int 0] (E x (tr 103 611 y l))
  refine PW_if_eq c_M_saying_10 (fun _ => ?_) (fun h7 => absurd (by decide) h7)
  refine PW_aload_n c_M_saying_28 rfl ?_
  refine PW_get (v := .ref 102) c_M_saying_29 fl_M_105 (gf_70_50 _ _) ?_
  refine PW_iload_n c_M_saying_32 rfl ?_
  refine PW_iald (j := b.toNatClampNeg) c_M_saying_33 (ar_102 _ _) (vp_in_iff.mpr K.1) rfl ?_
  show PW _ _ _ 34 [some (.ref 70), some (.int b), some (.int xx)] [.int (((tr 103 611 y l).2.1 102) b.toNatClampNeg)] (E x (tr 103 611 y l))
  rw [tr_A (by decide), hk]
  show PW _ _ _ 34 [some (.ref 70), some (.int b), some (.int xx)] [.int 0] (E x (tr 103 611 y l))
  refine PW_bipush (v := 7) c_M_saying_34 (by decide) ?_
  refine PW_icmp_ne c_M_saying_36 (fun _ => ?_) (fun h8 => absurd h8 (by decide))
  refine PW_aload_n c_M_saying_54 rfl ?_
  refine PW_get (v := .ref 102) c_M_saying_55 fl_M_105 (gf_70_50 _ _) ?_
  refine PW_iload_n c_M_saying_58 rfl ?_
  refine PW_iald (j := b.toNatClampNeg) c_M_saying_59 (ar_102 _ _) (vp_in_iff.mpr K.1) rfl ?_
  show PW _ _ _ 60 [some (.ref 70), some (.int b), some (.int xx)] [.int (((tr 103 611 y l).2.1 102) b.toNatClampNeg)] (E x (tr 103 611 y l))
  rw [tr_A (by decide), hk]
  show PW _ _ _ 60 [some (.ref 70), some (.int b), some (.int xx)] [.int 0] (E x (tr 103 611 y l))
  refine PW_bipush (v := 6) c_M_saying_60 (by decide) ?_
  refine PW_icmp_ne c_M_saying_62 (fun _ => ?_) (fun h9 => absurd h9 (by decide))
  refine PW_aload_n c_M_saying_74 rfl ?_
  refine PW_iload_n c_M_saying_75 rfl ?_
  refine PW_iload_n c_M_saying_76 rfl ?_
  refine PW_V0 (d2 := 1) (st := []) [.int b, .int xx] c_M_saying_77 lk_M_saying_364 (po_70 _ _) rfl rfl rfl (Nat.le_of_ble_eq_true rfl) (by first | decide | omega) (Nat.le_of_ble_eq_true rfl) ?_
  refine sp_M_plainSays_0 K (by (try simp only [List.length_cons]); omega) ?_
  show PW _ _ _ 80 [some (.ref 70), some (.int b), some (.int xx)] [.int (xx + b)] (E x (tr 103 611 y (1 :: l)))
  refine PW_ireturn (ty := .int) c_M_saying_80 rfl rfl ?_
  exact h
theorem sp_M_plainStays_0 {z : ZS} {post : Option Value → List PE → Prop} {x y : XS} {l : List Int32} {b xx : Int32} (K : km y b 0) (hl : l.length + 2 ≤ 24) (h : post (some (.int ((xx + b) * 2))) (E x (tr 103 611 y (1 :: 10 :: l)))) : PW (4, 0, 0, z) m_M_plainStays post 0 [some (.ref 70), some (.int b), some (.int xx)] [] (E x (tr 103 611 y l)) := by
  have hk := K.2
  refine PW_aload_n c_M_plainStays_0 rfl ?_
  refine PW_bipush (v := 10) c_M_plainStays_1 (by decide) ?_
  refine PW_V0 (d2 := 0) (st := []) [.int 10] c_M_plainStays_3 lk_M_plainStays_361 (po_70 _ _) rfl rfl rfl (Nat.le_of_ble_eq_true rfl) (by first | decide | omega) (Nat.le_of_ble_eq_true rfl) ?_
  refine sp_ran (by (try simp only [List.length_cons]); omega) ?_
  show PW _ _ _ 6 [some (.ref 70), some (.int b), some (.int xx)] [] (E x (tr 103 611 y (10 :: l)))
  refine PW_aload_n c_M_plainStays_6 rfl ?_
  refine PW_iload_n c_M_plainStays_7 rfl ?_
  refine PW_iload_n c_M_plainStays_8 rfl ?_
  refine PW_V0 (d2 := 3) (st := []) [.int b, .int xx] c_M_plainStays_9 lk_M_plainStays_373 (po_70 _ _) rfl rfl rfl (Nat.le_of_ble_eq_true rfl) (by first | decide | omega) (Nat.le_of_ble_eq_true rfl) ?_
  refine sp_M_saying_0 K (by (try simp only [List.length_cons]); omega) ?_
  show PW _ _ _ 12 [some (.ref 70), some (.int b), some (.int xx)] [.int (xx + b)] (E x (tr 103 611 y (1 :: 10 :: l)))
  refine PW_iconst (v := 2) c_M_plainStays_12 (by decide) ?_
  refine PW_imul c_M_plainStays_13 ?_
  refine PW_ireturn (ty := .int) c_M_plainStays_14 rfl rfl ?_
  exact h
theorem sp_M_staying_0 {z : ZS} {post : Option Value → List PE → Prop} {x y : XS} {l : List Int32} {b xx : Int32} (K : km y b 0) (hl : l.length + 2 ≤ 24) (h : post (some (.int ((xx + b) * 2))) (E x (tr 103 611 y (1 :: 10 :: l)))) : PW (6, 0, 0, z) m_M_staying post 0 [some (.ref 70), some (.int b), some (.int xx), none] [] (E x (tr 103 611 y l)) := by
  have hk := K.2
  refine PW_aload_n c_M_staying_0 rfl ?_
  refine PW_get (v := .ref 102) c_M_staying_1 fl_M_105 (gf_70_50 _ _) ?_
  refine PW_iload_n c_M_staying_4 rfl ?_
  refine PW_iald (j := b.toNatClampNeg) c_M_staying_5 (ar_102 _ _) (vp_in_iff.mpr K.1) rfl ?_
  show PW _ _ _ 6 [some (.ref 70), some (.int b), some (.int xx), none] [.int (((tr 103 611 y l).2.1 102) b.toNatClampNeg)] (E x (tr 103 611 y l))
  rw [tr_A (by decide), hk]
  show PW _ _ _ 6 [some (.ref 70), some (.int b), some (.int xx), none] [.int 0] (E x (tr 103 611 y l))
  refine PW_iconst (v := 3) c_M_staying_6 (by decide) ?_
  refine PW_S0 (d2 := 0) (st := []) [.int 0, .int 3] c_M_staying_7 lk_M_staying_367 rfl rfl rfl (Nat.le_of_ble_eq_true rfl) (by first | decide | omega) (Nat.le_of_ble_eq_true rfl) ?_
  show PW _ _ _ 0 [some (.int 0), some (.int 3)] [] (E x (tr 103 611 y l))
  refine PW_iload_n c_M_isUnder_0 rfl ?_
  refine PW_if_eq c_M_isUnder_1 (fun h0 => absurd h0 (by decide)) (fun _ => ?_)
  refine PW_iload_n c_M_isUnder_4 rfl ?_
  refine PW_iload_n c_M_isUnder_5 rfl ?_
  refine PW_icmp_eq c_M_isUnder_6 (fun h1 => absurd h1 (by decide)) (fun _ => ?_)
  refine PW_iload_n c_M_isUnder_9 rfl ?_
  refine PW_iconst (v := 1) c_M_isUnder_10 (by decide) ?_
  refine PW_icmp_ne c_M_isUnder_11 (fun _ => ?_) (fun h2 => absurd h2 (by decide))
  refine PW_iload_n c_M_isUnder_19 rfl ?_
  refine PW_iconst (v := 2) c_M_isUnder_20 (by decide) ?_
  refine PW_icmp_ne c_M_isUnder_21 (fun _ => ?_) (fun h3 => absurd h3 (by decide))
  refine PW_iload_n c_M_isUnder_34 rfl ?_
  refine PW_iconst (v := 3) c_M_isUnder_35 (by decide) ?_
  refine PW_icmp_ne c_M_isUnder_36 (fun h4 => absurd (by decide) h4) (fun _ => ?_)
  refine PW_iload_n c_M_isUnder_39 rfl ?_
  refine PW_iconst (v := 5) c_M_isUnder_40 (by decide) ?_
  refine PW_icmp_eq c_M_isUnder_41 (fun h5 => absurd h5 (by decide)) (fun _ => ?_)
  refine PW_iload_n c_M_isUnder_44 rfl ?_
  refine PW_bipush (v := 6) c_M_isUnder_45 (by decide) ?_
  refine PW_icmp_ne c_M_isUnder_47 (fun _ => ?_) (fun h6 => absurd h6 (by decide))
  refine PW_iconst (v := 0) c_M_isUnder_60 (by decide) ?_
  refine PW_ireturn (ty := .boolean) c_M_isUnder_61 rfl (by decide +kernel) ?_
  show PW _ _ _ 10 [some (.ref 70), some (.int b), some (.int xx), none] [.int 0] (E x (tr 103 611 y l))
  refine PW_if_eq c_M_staying_10 (fun _ => ?_) (fun h7 => absurd (by decide) h7)
  refine PW_aload_n c_M_staying_28 rfl ?_
  refine PW_get (v := .ref 102) c_M_staying_29 fl_M_105 (gf_70_50 _ _) ?_
  refine PW_iload_n c_M_staying_32 rfl ?_
  refine PW_iald (j := b.toNatClampNeg) c_M_staying_33 (ar_102 _ _) (vp_in_iff.mpr K.1) rfl ?_
  show PW _ _ _ 34 [some (.ref 70), some (.int b), some (.int xx), none] [.int (((tr 103 611 y l).2.1 102) b.toNatClampNeg)] (E x (tr 103 611 y l))
  rw [tr_A (by decide), hk]
  show PW _ _ _ 34 [some (.ref 70), some (.int b), some (.int xx), none] [.int 0] (E x (tr 103 611 y l))
  refine PW_bipush (v := 7) c_M_staying_34 (by decide) ?_
  refine PW_icmp_ne c_M_staying_36 (fun _ => ?_) (fun h8 => absurd h8 (by decide))
  refine PW_aload_n c_M_staying_61 rfl ?_
  refine PW_get (v := .ref 102) c_M_staying_62 fl_M_105 (gf_70_50 _ _) ?_
  refine PW_iload_n c_M_staying_65 rfl ?_
  refine PW_iald (j := b.toNatClampNeg) c_M_staying_66 (ar_102 _ _) (vp_in_iff.mpr K.1) rfl ?_
  show PW _ _ _ 67 [some (.ref 70), some (.int b), some (.int xx), none] [.int (((tr 103 611 y l).2.1 102) b.toNatClampNeg)] (E x (tr 103 611 y l))
  rw [tr_A (by decide), hk]
  show PW _ _ _ 67 [some (.ref 70), some (.int b), some (.int xx), none] [.int 0] (E x (tr 103 611 y l))
  refine PW_iconst (v := 2) c_M_staying_67 (by decide) ?_
  refine PW_icmp_ne c_M_staying_68 (fun _ => ?_) (fun h9 => absurd h9 (by decide))
  refine PW_aload_n c_M_staying_80 rfl ?_
  refine PW_iload_n c_M_staying_81 rfl ?_
  refine PW_iload_n c_M_staying_82 rfl ?_
  refine PW_V0 (d2 := 4) (st := []) [.int b, .int xx] c_M_staying_83 lk_M_staying_376 (po_70 _ _) rfl rfl rfl (Nat.le_of_ble_eq_true rfl) (by first | decide | omega) (Nat.le_of_ble_eq_true rfl) ?_
  refine sp_M_plainStays_0 K (by (try simp only [List.length_cons]); omega) ?_
  show PW _ _ _ 86 [some (.ref 70), some (.int b), some (.int xx), none] [.int ((xx + b) * 2)] (E x (tr 103 611 y (1 :: 10 :: l)))
  refine PW_ireturn (ty := .int) c_M_staying_86 rfl rfl ?_
  exact h
theorem sp_M_plainTurns_0 {z : ZS} {post : Option Value → List PE → Prop} {x y : XS} {l : List Int32} {b xx : Int32} (K : km y b 0) (hl : l.length + 1 ≤ 24) (h : post (some (.int (xx ^^^ b))) (E x (tr 103 611 y (11 :: l)))) : PW (1, 0, 0, z) m_M_plainTurns post 0 [some (.ref 70), some (.int b), some (.int xx)] [] (E x (tr 103 611 y l)) := by
  have hk := K.2
  refine PW_aload_n c_M_plainTurns_0 rfl ?_
  refine PW_bipush (v := 11) c_M_plainTurns_1 (by decide) ?_
  refine PW_V0 (d2 := 0) (st := []) [.int 11] c_M_plainTurns_3 lk_M_plainTurns_361 (po_70 _ _) rfl rfl rfl (Nat.le_of_ble_eq_true rfl) (by first | decide | omega) (Nat.le_of_ble_eq_true rfl) ?_
  refine sp_ran (by (try simp only [List.length_cons]); omega) ?_
  show PW _ _ _ 6 [some (.ref 70), some (.int b), some (.int xx)] [] (E x (tr 103 611 y (11 :: l)))
  refine PW_iload_n c_M_plainTurns_6 rfl ?_
  refine PW_iload_n c_M_plainTurns_7 rfl ?_
  refine PW_ixor c_M_plainTurns_8 ?_
  refine PW_ireturn (ty := .int) c_M_plainTurns_9 rfl rfl ?_
  exact h
theorem sp_M_turning_0 {z : ZS} {post : Option Value → List PE → Prop} {x y : XS} {l : List Int32} {b xx : Int32} (K : km y b 0) (hl : l.length + 1 ≤ 24) (h : post (some (.int (xx ^^^ b))) (E x (tr 103 611 y (11 :: l)))) : PW (4, 0, 0, z) m_M_turning post 0 [some (.ref 70), some (.int b), some (.int xx), none] [] (E x (tr 103 611 y l)) := by
  have hk := K.2
  refine PW_aload_n c_M_turning_0 rfl ?_
  refine PW_get (v := .ref 102) c_M_turning_1 fl_M_105 (gf_70_50 _ _) ?_
  refine PW_iload_n c_M_turning_4 rfl ?_
  refine PW_iald (j := b.toNatClampNeg) c_M_turning_5 (ar_102 _ _) (vp_in_iff.mpr K.1) rfl ?_
  show PW _ _ _ 6 [some (.ref 70), some (.int b), some (.int xx), none] [.int (((tr 103 611 y l).2.1 102) b.toNatClampNeg)] (E x (tr 103 611 y l))
  rw [tr_A (by decide), hk]
  show PW _ _ _ 6 [some (.ref 70), some (.int b), some (.int xx), none] [.int 0] (E x (tr 103 611 y l))
  refine PW_iconst (v := 5) c_M_turning_6 (by decide) ?_
  refine PW_icmp_ne c_M_turning_7 (fun _ => ?_) (fun h0 => absurd h0 (by decide))
  refine PW_aload_n c_M_turning_32 rfl ?_
  refine PW_get (v := .ref 102) c_M_turning_33 fl_M_105 (gf_70_50 _ _) ?_
  refine PW_iload_n c_M_turning_36 rfl ?_
  refine PW_iald (j := b.toNatClampNeg) c_M_turning_37 (ar_102 _ _) (vp_in_iff.mpr K.1) rfl ?_
  show PW _ _ _ 38 [some (.ref 70), some (.int b), some (.int xx), none] [.int (((tr 103 611 y l).2.1 102) b.toNatClampNeg)] (E x (tr 103 611 y l))
  rw [tr_A (by decide), hk]
  show PW _ _ _ 38 [some (.ref 70), some (.int b), some (.int xx), none] [.int 0] (E x (tr 103 611 y l))
  refine PW_iconst (v := 3) c_M_turning_38 (by decide) ?_
  refine PW_icmp_ne c_M_turning_39 (fun _ => ?_) (fun h1 => absurd h1 (by decide))
  refine PW_aload_n c_M_turning_51 rfl ?_
  refine PW_iload_n c_M_turning_52 rfl ?_
  refine PW_iload_n c_M_turning_53 rfl ?_
  refine PW_V0 (d2 := 1) (st := []) [.int b, .int xx] c_M_turning_54 lk_M_turning_385 (po_70 _ _) rfl rfl rfl (Nat.le_of_ble_eq_true rfl) (by first | decide | omega) (Nat.le_of_ble_eq_true rfl) ?_
  refine sp_M_plainTurns_0 K (by (try simp only [List.length_cons]); omega) ?_
  show PW _ _ _ 57 [some (.ref 70), some (.int b), some (.int xx), none] [.int (xx ^^^ b)] (E x (tr 103 611 y (11 :: l)))
  refine PW_ireturn (ty := .int) c_M_turning_57 rfl rfl ?_
  exact h
theorem sp_M_plainTells_0 {z : ZS} {post : Option Value → List PE → Prop} {x y : XS} {l : List Int32} {b xx : Int32} (K : km y b 0) (hl : l.length + 4 ≤ 24) (h : post (some (.int (((xx + b) * 2) - ((1 : Int32) ^^^ b)))) (E x (tr 103 611 y (11 :: 1 :: 10 :: 2 :: l)))) : PW (7, 0, 0, z) m_M_plainTells post 0 [some (.ref 70), some (.int b), some (.int xx), none] [] (E x (tr 103 611 y l)) := by
  have hk := K.2
  refine PW_aload_n c_M_plainTells_0 rfl ?_
  refine PW_iconst (v := 2) c_M_plainTells_1 (by decide) ?_
  refine PW_V0 (d2 := 0) (st := []) [.int 2] c_M_plainTells_2 lk_M_plainTells_361 (po_70 _ _) rfl rfl rfl (Nat.le_of_ble_eq_true rfl) (by first | decide | omega) (Nat.le_of_ble_eq_true rfl) ?_
  refine sp_ran (by (try simp only [List.length_cons]); omega) ?_
  show PW _ _ _ 5 [some (.ref 70), some (.int b), some (.int xx), none] [] (E x (tr 103 611 y (2 :: l)))
  refine PW_aload_n c_M_plainTells_5 rfl ?_
  refine PW_iload_n c_M_plainTells_6 rfl ?_
  refine PW_iload_n c_M_plainTells_7 rfl ?_
  refine PW_V0 (d2 := 6) (st := []) [.int b, .int xx] c_M_plainTells_8 lk_M_plainTells_391 (po_70 _ _) rfl rfl rfl (Nat.le_of_ble_eq_true rfl) (by first | decide | omega) (Nat.le_of_ble_eq_true rfl) ?_
  refine sp_M_staying_0 K (by (try simp only [List.length_cons]); omega) ?_
  show PW _ _ _ 11 [some (.ref 70), some (.int b), some (.int xx), none] [.int ((xx + b) * 2)] (E x (tr 103 611 y (1 :: 10 :: 2 :: l)))
  refine PW_istore_n (i := 3) (L2 := [some (.ref 70), some (.int b), some (.int xx), some (.int ((xx + b) * 2))]) c_M_plainTells_11 rfl (Nat.le_of_ble_eq_true rfl) rfl rfl ?_
  refine PW_iload_n c_M_plainTells_12 rfl ?_
  refine PW_aload_n c_M_plainTells_13 rfl ?_
  refine PW_iload_n c_M_plainTells_14 rfl ?_
  refine PW_iconst (v := 1) c_M_plainTells_15 (by decide) ?_
  refine PW_V0 (d2 := 4) (st := [.int ((xx + b) * 2)]) [.int b, .int 1] c_M_plainTells_16 lk_M_plainTells_382 (po_70 _ _) rfl rfl rfl (Nat.le_of_ble_eq_true rfl) (by first | decide | omega) (Nat.le_of_ble_eq_true rfl) ?_
  refine sp_M_turning_0 K (by (try simp only [List.length_cons]); omega) ?_
  show PW _ _ _ 19 [some (.ref 70), some (.int b), some (.int xx), some (.int ((xx + b) * 2))] [.int ((1 : Int32) ^^^ b), .int ((xx + b) * 2)] (E x (tr 103 611 y (11 :: 1 :: 10 :: 2 :: l)))
  refine PW_isub c_M_plainTells_19 ?_
  refine PW_ireturn (ty := .int) c_M_plainTells_20 rfl rfl ?_
  exact h
theorem sp_M_telling_0 {z : ZS} {post : Option Value → List PE → Prop} {x y : XS} {l : List Int32} {b xx : Int32} (K : km y b 0) (hl : l.length + 4 ≤ 24) (h : post (some (.int (((xx + b) * 2) - ((1 : Int32) ^^^ b)))) (E x (tr 103 611 y (11 :: 1 :: 10 :: 2 :: l)))) : PW (8, 0, 0, z) m_M_telling post 0 [some (.ref 70), some (.int b), some (.int xx)] [] (E x (tr 103 611 y l)) := by
  have hk := K.2
  refine PW_aload_n c_M_telling_0 rfl ?_
  refine PW_get (v := .ref 102) c_M_telling_1 fl_M_105 (gf_70_50 _ _) ?_
  refine PW_iload_n c_M_telling_4 rfl ?_
  refine PW_iald (j := b.toNatClampNeg) c_M_telling_5 (ar_102 _ _) (vp_in_iff.mpr K.1) rfl ?_
  show PW _ _ _ 6 [some (.ref 70), some (.int b), some (.int xx)] [.int (((tr 103 611 y l).2.1 102) b.toNatClampNeg)] (E x (tr 103 611 y l))
  rw [tr_A (by decide), hk]
  show PW _ _ _ 6 [some (.ref 70), some (.int b), some (.int xx)] [.int 0] (E x (tr 103 611 y l))
  refine PW_iconst (v := 4) c_M_telling_6 (by decide) ?_
  refine PW_icmp_ne c_M_telling_7 (fun _ => ?_) (fun h0 => absurd h0 (by decide))
  refine PW_aload_n c_M_telling_25 rfl ?_
  refine PW_get (v := .ref 102) c_M_telling_26 fl_M_105 (gf_70_50 _ _) ?_
  refine PW_iload_n c_M_telling_29 rfl ?_
  refine PW_iald (j := b.toNatClampNeg) c_M_telling_30 (ar_102 _ _) (vp_in_iff.mpr K.1) rfl ?_
  show PW _ _ _ 31 [some (.ref 70), some (.int b), some (.int xx)] [.int (((tr 103 611 y l).2.1 102) b.toNatClampNeg)] (E x (tr 103 611 y l))
  rw [tr_A (by decide), hk]
  show PW _ _ _ 31 [some (.ref 70), some (.int b), some (.int xx)] [.int 0] (E x (tr 103 611 y l))
  refine PW_iconst (v := 5) c_M_telling_31 (by decide) ?_
  refine PW_icmp_ne c_M_telling_32 (fun _ => ?_) (fun h1 => absurd h1 (by decide))
  refine PW_aload_n c_M_telling_50 rfl ?_
  refine PW_iload_n c_M_telling_51 rfl ?_
  refine PW_iload_n c_M_telling_52 rfl ?_
  refine PW_V0 (d2 := 7) (st := []) [.int b, .int xx] c_M_telling_53 lk_M_telling_394 (po_70 _ _) rfl rfl rfl (Nat.le_of_ble_eq_true rfl) (by first | decide | omega) (Nat.le_of_ble_eq_true rfl) ?_
  refine sp_M_plainTells_0 K (by (try simp only [List.length_cons]); omega) ?_
  show PW _ _ _ 56 [some (.ref 70), some (.int b), some (.int xx)] [.int (((xx + b) * 2) - ((1 : Int32) ^^^ b))] (E x (tr 103 611 y (11 :: 1 :: 10 :: 2 :: l)))
  refine PW_ireturn (ty := .int) c_M_telling_56 rfl rfl ?_
  exact h
theorem sp_M_plainSays_1 {z : ZS} {post : Option Value → List PE → Prop} {x y : XS} {l : List Int32} {b xx : Int32} (K : km y b 1) (hl : l.length + 1 ≤ 24) (h : post (some (.int (xx + b))) (E x (tr 103 611 y (1 :: l)))) : PW (1, 0, 0, z) m_M_plainSays post 0 [some (.ref 70), some (.int b), some (.int xx)] [] (E x (tr 103 611 y l)) := by
  have hk := K.2
  refine PW_aload_n c_M_plainSays_0 rfl ?_
  refine PW_iconst (v := 1) c_M_plainSays_1 (by decide) ?_
  refine PW_V0 (d2 := 0) (st := []) [.int 1] c_M_plainSays_2 lk_M_plainSays_361 (po_70 _ _) rfl rfl rfl (Nat.le_of_ble_eq_true rfl) (by first | decide | omega) (Nat.le_of_ble_eq_true rfl) ?_
  refine sp_ran (by (try simp only [List.length_cons]); omega) ?_
  show PW _ _ _ 5 [some (.ref 70), some (.int b), some (.int xx)] [] (E x (tr 103 611 y (1 :: l)))
  refine PW_iload_n c_M_plainSays_5 rfl ?_
  refine PW_iload_n c_M_plainSays_6 rfl ?_
  refine PW_iadd c_M_plainSays_7 ?_
  refine PW_ireturn (ty := .int) c_M_plainSays_8 rfl rfl ?_
  exact h
theorem sp_M_saying_1 {z : ZS} {post : Option Value → List PE → Prop} {x y : XS} {l : List Int32} {b xx : Int32} (K : km y b 1) (hl : l.length + 2 ≤ 24) (h : post (some (.int ((xx + b) + 3))) (E x (tr 103 611 y (1 :: 20 :: l)))) : PW (3, 0, 0, z) m_M_saying post 0 [some (.ref 70), some (.int b), some (.int xx)] [] (E x (tr 103 611 y l)) := by
  have hk := K.2
  refine PW_aload_n c_M_saying_0 rfl ?_
  refine PW_get (v := .ref 102) c_M_saying_1 fl_M_105 (gf_70_50 _ _) ?_
  refine PW_iload_n c_M_saying_4 rfl ?_
  refine PW_iald (j := b.toNatClampNeg) c_M_saying_5 (ar_102 _ _) (vp_in_iff.mpr K.1) rfl ?_
  show PW _ _ _ 6 [some (.ref 70), some (.int b), some (.int xx)] [.int (((tr 103 611 y l).2.1 102) b.toNatClampNeg)] (E x (tr 103 611 y l))
  rw [tr_A (by decide), hk]
  show PW _ _ _ 6 [some (.ref 70), some (.int b), some (.int xx)] [.int 1] (E x (tr 103 611 y l))
  refine PW_iconst (v := 1) c_M_saying_6 (by decide) ?_
  refine PW_S0 (d2 := 0) (st := []) [.int 1, .int 1] c_M_saying_7 lk_M_saying_367 rfl rfl rfl (Nat.le_of_ble_eq_true rfl) (by first | decide | omega) (Nat.le_of_ble_eq_true rfl) ?_
  show PW _ _ _ 0 [some (.int 1), some (.int 1)] [] (E x (tr 103 611 y l))
  refine PW_iload_n c_M_isUnder_0 rfl ?_
  refine PW_if_eq c_M_isUnder_1 (fun h0 => absurd h0 (by decide)) (fun _ => ?_)
  refine PW_iload_n c_M_isUnder_4 rfl ?_
  refine PW_iload_n c_M_isUnder_5 rfl ?_
  refine PW_icmp_eq c_M_isUnder_6 (fun _ => ?_) (fun h1 => absurd (by decide) h1)
  refine PW_iconst (v := 1) c_M_isUnder_56 (by decide) ?_
  refine PW_goto c_M_isUnder_57 ?_
  refine PW_ireturn (ty := .boolean) c_M_isUnder_61 rfl (by decide +kernel) ?_
  show PW _ _ _ 10 [some (.ref 70), some (.int b), some (.int xx)] [.int 1] (E x (tr 103 611 y l))
  refine PW_if_eq c_M_saying_10 (fun h2 => absurd h2 (by decide)) (fun _ => ?_)
  refine PW_aload_n c_M_saying_13 rfl ?_
  refine PW_bipush (v := 20) c_M_saying_14 (by decide) ?_
  refine PW_V0 (d2 := 0) (st := []) [.int 20] c_M_saying_16 lk_M_saying_361 (po_70 _ _) rfl rfl rfl (Nat.le_of_ble_eq_true rfl) (by first | decide | omega) (Nat.le_of_ble_eq_true rfl) ?_
  refine sp_ran (by (try simp only [List.length_cons]); omega) ?_
  show PW _ _ _ 19 [some (.ref 70), some (.int b), some (.int xx)] [] (E x (tr 103 611 y (20 :: l)))
  refine PW_aload_n c_M_saying_19 rfl ?_
  refine PW_iload_n c_M_saying_20 rfl ?_
  refine PW_iload_n c_M_saying_21 rfl ?_
  refine PW_V0 (d2 := 1) (st := []) [.int b, .int xx] c_M_saying_22 lk_M_saying_364 (po_70 _ _) rfl rfl rfl (Nat.le_of_ble_eq_true rfl) (by first | decide | omega) (Nat.le_of_ble_eq_true rfl) ?_
  refine sp_M_plainSays_1 K (by (try simp only [List.length_cons]); omega) ?_
  show PW _ _ _ 25 [some (.ref 70), some (.int b), some (.int xx)] [.int (xx + b)] (E x (tr 103 611 y (1 :: 20 :: l)))
  refine PW_iconst (v := 3) c_M_saying_25 (by decide) ?_
  refine PW_iadd c_M_saying_26 ?_
  refine PW_ireturn (ty := .int) c_M_saying_27 rfl rfl ?_
  exact h
theorem sp_M_plainStays_1 {z : ZS} {post : Option Value → List PE → Prop} {x y : XS} {l : List Int32} {b xx : Int32} (K : km y b 1) (hl : l.length + 3 ≤ 24) (h : post (some (.int (((xx + b) + 3) * 2))) (E x (tr 103 611 y (1 :: 20 :: 10 :: l)))) : PW (4, 0, 0, z) m_M_plainStays post 0 [some (.ref 70), some (.int b), some (.int xx)] [] (E x (tr 103 611 y l)) := by
  have hk := K.2
  refine PW_aload_n c_M_plainStays_0 rfl ?_
  refine PW_bipush (v := 10) c_M_plainStays_1 (by decide) ?_
  refine PW_V0 (d2 := 0) (st := []) [.int 10] c_M_plainStays_3 lk_M_plainStays_361 (po_70 _ _) rfl rfl rfl (Nat.le_of_ble_eq_true rfl) (by first | decide | omega) (Nat.le_of_ble_eq_true rfl) ?_
  refine sp_ran (by (try simp only [List.length_cons]); omega) ?_
  show PW _ _ _ 6 [some (.ref 70), some (.int b), some (.int xx)] [] (E x (tr 103 611 y (10 :: l)))
  refine PW_aload_n c_M_plainStays_6 rfl ?_
  refine PW_iload_n c_M_plainStays_7 rfl ?_
  refine PW_iload_n c_M_plainStays_8 rfl ?_
  refine PW_V0 (d2 := 3) (st := []) [.int b, .int xx] c_M_plainStays_9 lk_M_plainStays_373 (po_70 _ _) rfl rfl rfl (Nat.le_of_ble_eq_true rfl) (by first | decide | omega) (Nat.le_of_ble_eq_true rfl) ?_
  refine sp_M_saying_1 K (by (try simp only [List.length_cons]); omega) ?_
  show PW _ _ _ 12 [some (.ref 70), some (.int b), some (.int xx)] [.int ((xx + b) + 3)] (E x (tr 103 611 y (1 :: 20 :: 10 :: l)))
  refine PW_iconst (v := 2) c_M_plainStays_12 (by decide) ?_
  refine PW_imul c_M_plainStays_13 ?_
  refine PW_ireturn (ty := .int) c_M_plainStays_14 rfl rfl ?_
  exact h
theorem sp_M_staying_1 {z : ZS} {post : Option Value → List PE → Prop} {x y : XS} {l : List Int32} {b xx : Int32} (K : km y b 1) (hl : l.length + 3 ≤ 24) (h : post (some (.int (((xx + b) + 3) * 2))) (E x (tr 103 611 y (1 :: 20 :: 10 :: l)))) : PW (6, 0, 0, z) m_M_staying post 0 [some (.ref 70), some (.int b), some (.int xx), none] [] (E x (tr 103 611 y l)) := by
  have hk := K.2
  refine PW_aload_n c_M_staying_0 rfl ?_
  refine PW_get (v := .ref 102) c_M_staying_1 fl_M_105 (gf_70_50 _ _) ?_
  refine PW_iload_n c_M_staying_4 rfl ?_
  refine PW_iald (j := b.toNatClampNeg) c_M_staying_5 (ar_102 _ _) (vp_in_iff.mpr K.1) rfl ?_
  show PW _ _ _ 6 [some (.ref 70), some (.int b), some (.int xx), none] [.int (((tr 103 611 y l).2.1 102) b.toNatClampNeg)] (E x (tr 103 611 y l))
  rw [tr_A (by decide), hk]
  show PW _ _ _ 6 [some (.ref 70), some (.int b), some (.int xx), none] [.int 1] (E x (tr 103 611 y l))
  refine PW_iconst (v := 3) c_M_staying_6 (by decide) ?_
  refine PW_S0 (d2 := 0) (st := []) [.int 1, .int 3] c_M_staying_7 lk_M_staying_367 rfl rfl rfl (Nat.le_of_ble_eq_true rfl) (by first | decide | omega) (Nat.le_of_ble_eq_true rfl) ?_
  show PW _ _ _ 0 [some (.int 1), some (.int 3)] [] (E x (tr 103 611 y l))
  refine PW_iload_n c_M_isUnder_0 rfl ?_
  refine PW_if_eq c_M_isUnder_1 (fun h0 => absurd h0 (by decide)) (fun _ => ?_)
  refine PW_iload_n c_M_isUnder_4 rfl ?_
  refine PW_iload_n c_M_isUnder_5 rfl ?_
  refine PW_icmp_eq c_M_isUnder_6 (fun h1 => absurd h1 (by decide)) (fun _ => ?_)
  refine PW_iload_n c_M_isUnder_9 rfl ?_
  refine PW_iconst (v := 1) c_M_isUnder_10 (by decide) ?_
  refine PW_icmp_ne c_M_isUnder_11 (fun _ => ?_) (fun h2 => absurd h2 (by decide))
  refine PW_iload_n c_M_isUnder_19 rfl ?_
  refine PW_iconst (v := 2) c_M_isUnder_20 (by decide) ?_
  refine PW_icmp_ne c_M_isUnder_21 (fun _ => ?_) (fun h3 => absurd h3 (by decide))
  refine PW_iload_n c_M_isUnder_34 rfl ?_
  refine PW_iconst (v := 3) c_M_isUnder_35 (by decide) ?_
  refine PW_icmp_ne c_M_isUnder_36 (fun h4 => absurd (by decide) h4) (fun _ => ?_)
  refine PW_iload_n c_M_isUnder_39 rfl ?_
  refine PW_iconst (v := 5) c_M_isUnder_40 (by decide) ?_
  refine PW_icmp_eq c_M_isUnder_41 (fun h5 => absurd h5 (by decide)) (fun _ => ?_)
  refine PW_iload_n c_M_isUnder_44 rfl ?_
  refine PW_bipush (v := 6) c_M_isUnder_45 (by decide) ?_
  refine PW_icmp_ne c_M_isUnder_47 (fun _ => ?_) (fun h6 => absurd h6 (by decide))
  refine PW_iconst (v := 0) c_M_isUnder_60 (by decide) ?_
  refine PW_ireturn (ty := .boolean) c_M_isUnder_61 rfl (by decide +kernel) ?_
  show PW _ _ _ 10 [some (.ref 70), some (.int b), some (.int xx), none] [.int 0] (E x (tr 103 611 y l))
  refine PW_if_eq c_M_staying_10 (fun _ => ?_) (fun h7 => absurd (by decide) h7)
  refine PW_aload_n c_M_staying_28 rfl ?_
  refine PW_get (v := .ref 102) c_M_staying_29 fl_M_105 (gf_70_50 _ _) ?_
  refine PW_iload_n c_M_staying_32 rfl ?_
  refine PW_iald (j := b.toNatClampNeg) c_M_staying_33 (ar_102 _ _) (vp_in_iff.mpr K.1) rfl ?_
  show PW _ _ _ 34 [some (.ref 70), some (.int b), some (.int xx), none] [.int (((tr 103 611 y l).2.1 102) b.toNatClampNeg)] (E x (tr 103 611 y l))
  rw [tr_A (by decide), hk]
  show PW _ _ _ 34 [some (.ref 70), some (.int b), some (.int xx), none] [.int 1] (E x (tr 103 611 y l))
  refine PW_bipush (v := 7) c_M_staying_34 (by decide) ?_
  refine PW_icmp_ne c_M_staying_36 (fun _ => ?_) (fun h8 => absurd h8 (by decide))
  refine PW_aload_n c_M_staying_61 rfl ?_
  refine PW_get (v := .ref 102) c_M_staying_62 fl_M_105 (gf_70_50 _ _) ?_
  refine PW_iload_n c_M_staying_65 rfl ?_
  refine PW_iald (j := b.toNatClampNeg) c_M_staying_66 (ar_102 _ _) (vp_in_iff.mpr K.1) rfl ?_
  show PW _ _ _ 67 [some (.ref 70), some (.int b), some (.int xx), none] [.int (((tr 103 611 y l).2.1 102) b.toNatClampNeg)] (E x (tr 103 611 y l))
  rw [tr_A (by decide), hk]
  show PW _ _ _ 67 [some (.ref 70), some (.int b), some (.int xx), none] [.int 1] (E x (tr 103 611 y l))
  refine PW_iconst (v := 2) c_M_staying_67 (by decide) ?_
  refine PW_icmp_ne c_M_staying_68 (fun _ => ?_) (fun h9 => absurd h9 (by decide))
  refine PW_aload_n c_M_staying_80 rfl ?_
  refine PW_iload_n c_M_staying_81 rfl ?_
  refine PW_iload_n c_M_staying_82 rfl ?_
  refine PW_V0 (d2 := 4) (st := []) [.int b, .int xx] c_M_staying_83 lk_M_staying_376 (po_70 _ _) rfl rfl rfl (Nat.le_of_ble_eq_true rfl) (by first | decide | omega) (Nat.le_of_ble_eq_true rfl) ?_
  refine sp_M_plainStays_1 K (by (try simp only [List.length_cons]); omega) ?_
  show PW _ _ _ 86 [some (.ref 70), some (.int b), some (.int xx), none] [.int (((xx + b) + 3) * 2)] (E x (tr 103 611 y (1 :: 20 :: 10 :: l)))
  refine PW_ireturn (ty := .int) c_M_staying_86 rfl rfl ?_
  exact h
theorem sp_M_plainTurns_1 {z : ZS} {post : Option Value → List PE → Prop} {x y : XS} {l : List Int32} {b xx : Int32} (K : km y b 1) (hl : l.length + 1 ≤ 24) (h : post (some (.int (xx ^^^ b))) (E x (tr 103 611 y (11 :: l)))) : PW (1, 0, 0, z) m_M_plainTurns post 0 [some (.ref 70), some (.int b), some (.int xx)] [] (E x (tr 103 611 y l)) := by
  have hk := K.2
  refine PW_aload_n c_M_plainTurns_0 rfl ?_
  refine PW_bipush (v := 11) c_M_plainTurns_1 (by decide) ?_
  refine PW_V0 (d2 := 0) (st := []) [.int 11] c_M_plainTurns_3 lk_M_plainTurns_361 (po_70 _ _) rfl rfl rfl (Nat.le_of_ble_eq_true rfl) (by first | decide | omega) (Nat.le_of_ble_eq_true rfl) ?_
  refine sp_ran (by (try simp only [List.length_cons]); omega) ?_
  show PW _ _ _ 6 [some (.ref 70), some (.int b), some (.int xx)] [] (E x (tr 103 611 y (11 :: l)))
  refine PW_iload_n c_M_plainTurns_6 rfl ?_
  refine PW_iload_n c_M_plainTurns_7 rfl ?_
  refine PW_ixor c_M_plainTurns_8 ?_
  refine PW_ireturn (ty := .int) c_M_plainTurns_9 rfl rfl ?_
  exact h
theorem sp_M_turning_1 {z : ZS} {post : Option Value → List PE → Prop} {x y : XS} {l : List Int32} {b xx : Int32} (K : km y b 1) (hl : l.length + 1 ≤ 24) (h : post (some (.int (xx ^^^ b))) (E x (tr 103 611 y (11 :: l)))) : PW (4, 0, 0, z) m_M_turning post 0 [some (.ref 70), some (.int b), some (.int xx), none] [] (E x (tr 103 611 y l)) := by
  have hk := K.2
  refine PW_aload_n c_M_turning_0 rfl ?_
  refine PW_get (v := .ref 102) c_M_turning_1 fl_M_105 (gf_70_50 _ _) ?_
  refine PW_iload_n c_M_turning_4 rfl ?_
  refine PW_iald (j := b.toNatClampNeg) c_M_turning_5 (ar_102 _ _) (vp_in_iff.mpr K.1) rfl ?_
  show PW _ _ _ 6 [some (.ref 70), some (.int b), some (.int xx), none] [.int (((tr 103 611 y l).2.1 102) b.toNatClampNeg)] (E x (tr 103 611 y l))
  rw [tr_A (by decide), hk]
  show PW _ _ _ 6 [some (.ref 70), some (.int b), some (.int xx), none] [.int 1] (E x (tr 103 611 y l))
  refine PW_iconst (v := 5) c_M_turning_6 (by decide) ?_
  refine PW_icmp_ne c_M_turning_7 (fun _ => ?_) (fun h0 => absurd h0 (by decide))
  refine PW_aload_n c_M_turning_32 rfl ?_
  refine PW_get (v := .ref 102) c_M_turning_33 fl_M_105 (gf_70_50 _ _) ?_
  refine PW_iload_n c_M_turning_36 rfl ?_
  refine PW_iald (j := b.toNatClampNeg) c_M_turning_37 (ar_102 _ _) (vp_in_iff.mpr K.1) rfl ?_
  show PW _ _ _ 38 [some (.ref 70), some (.int b), some (.int xx), none] [.int (((tr 103 611 y l).2.1 102) b.toNatClampNeg)] (E x (tr 103 611 y l))
  rw [tr_A (by decide), hk]
  show PW _ _ _ 38 [some (.ref 70), some (.int b), some (.int xx), none] [.int 1] (E x (tr 103 611 y l))
  refine PW_iconst (v := 3) c_M_turning_38 (by decide) ?_
  refine PW_icmp_ne c_M_turning_39 (fun _ => ?_) (fun h1 => absurd h1 (by decide))
  refine PW_aload_n c_M_turning_51 rfl ?_
  refine PW_iload_n c_M_turning_52 rfl ?_
  refine PW_iload_n c_M_turning_53 rfl ?_
  refine PW_V0 (d2 := 1) (st := []) [.int b, .int xx] c_M_turning_54 lk_M_turning_385 (po_70 _ _) rfl rfl rfl (Nat.le_of_ble_eq_true rfl) (by first | decide | omega) (Nat.le_of_ble_eq_true rfl) ?_
  refine sp_M_plainTurns_1 K (by (try simp only [List.length_cons]); omega) ?_
  show PW _ _ _ 57 [some (.ref 70), some (.int b), some (.int xx), none] [.int (xx ^^^ b)] (E x (tr 103 611 y (11 :: l)))
  refine PW_ireturn (ty := .int) c_M_turning_57 rfl rfl ?_
  exact h
theorem sp_M_plainTells_1 {z : ZS} {post : Option Value → List PE → Prop} {x y : XS} {l : List Int32} {b xx : Int32} (K : km y b 1) (hl : l.length + 5 ≤ 24) (h : post (some (.int ((((xx + b) + 3) * 2) - ((1 : Int32) ^^^ b)))) (E x (tr 103 611 y (11 :: 1 :: 20 :: 10 :: 2 :: l)))) : PW (7, 0, 0, z) m_M_plainTells post 0 [some (.ref 70), some (.int b), some (.int xx), none] [] (E x (tr 103 611 y l)) := by
  have hk := K.2
  refine PW_aload_n c_M_plainTells_0 rfl ?_
  refine PW_iconst (v := 2) c_M_plainTells_1 (by decide) ?_
  refine PW_V0 (d2 := 0) (st := []) [.int 2] c_M_plainTells_2 lk_M_plainTells_361 (po_70 _ _) rfl rfl rfl (Nat.le_of_ble_eq_true rfl) (by first | decide | omega) (Nat.le_of_ble_eq_true rfl) ?_
  refine sp_ran (by (try simp only [List.length_cons]); omega) ?_
  show PW _ _ _ 5 [some (.ref 70), some (.int b), some (.int xx), none] [] (E x (tr 103 611 y (2 :: l)))
  refine PW_aload_n c_M_plainTells_5 rfl ?_
  refine PW_iload_n c_M_plainTells_6 rfl ?_
  refine PW_iload_n c_M_plainTells_7 rfl ?_
  refine PW_V0 (d2 := 6) (st := []) [.int b, .int xx] c_M_plainTells_8 lk_M_plainTells_391 (po_70 _ _) rfl rfl rfl (Nat.le_of_ble_eq_true rfl) (by first | decide | omega) (Nat.le_of_ble_eq_true rfl) ?_
  refine sp_M_staying_1 K (by (try simp only [List.length_cons]); omega) ?_
  show PW _ _ _ 11 [some (.ref 70), some (.int b), some (.int xx), none] [.int (((xx + b) + 3) * 2)] (E x (tr 103 611 y (1 :: 20 :: 10 :: 2 :: l)))
  refine PW_istore_n (i := 3) (L2 := [some (.ref 70), some (.int b), some (.int xx), some (.int (((xx + b) + 3) * 2))]) c_M_plainTells_11 rfl (Nat.le_of_ble_eq_true rfl) rfl rfl ?_
  refine PW_iload_n c_M_plainTells_12 rfl ?_
  refine PW_aload_n c_M_plainTells_13 rfl ?_
  refine PW_iload_n c_M_plainTells_14 rfl ?_
  refine PW_iconst (v := 1) c_M_plainTells_15 (by decide) ?_
  refine PW_V0 (d2 := 4) (st := [.int (((xx + b) + 3) * 2)]) [.int b, .int 1] c_M_plainTells_16 lk_M_plainTells_382 (po_70 _ _) rfl rfl rfl (Nat.le_of_ble_eq_true rfl) (by first | decide | omega) (Nat.le_of_ble_eq_true rfl) ?_
  refine sp_M_turning_1 K (by (try simp only [List.length_cons]); omega) ?_
  show PW _ _ _ 19 [some (.ref 70), some (.int b), some (.int xx), some (.int (((xx + b) + 3) * 2))] [.int ((1 : Int32) ^^^ b), .int (((xx + b) + 3) * 2)] (E x (tr 103 611 y (11 :: 1 :: 20 :: 10 :: 2 :: l)))
  refine PW_isub c_M_plainTells_19 ?_
  refine PW_ireturn (ty := .int) c_M_plainTells_20 rfl rfl ?_
  exact h
theorem sp_M_telling_1 {z : ZS} {post : Option Value → List PE → Prop} {x y : XS} {l : List Int32} {b xx : Int32} (K : km y b 1) (hl : l.length + 5 ≤ 24) (h : post (some (.int ((((xx + b) + 3) * 2) - ((1 : Int32) ^^^ b)))) (E x (tr 103 611 y (11 :: 1 :: 20 :: 10 :: 2 :: l)))) : PW (8, 0, 0, z) m_M_telling post 0 [some (.ref 70), some (.int b), some (.int xx)] [] (E x (tr 103 611 y l)) := by
  have hk := K.2
  refine PW_aload_n c_M_telling_0 rfl ?_
  refine PW_get (v := .ref 102) c_M_telling_1 fl_M_105 (gf_70_50 _ _) ?_
  refine PW_iload_n c_M_telling_4 rfl ?_
  refine PW_iald (j := b.toNatClampNeg) c_M_telling_5 (ar_102 _ _) (vp_in_iff.mpr K.1) rfl ?_
  show PW _ _ _ 6 [some (.ref 70), some (.int b), some (.int xx)] [.int (((tr 103 611 y l).2.1 102) b.toNatClampNeg)] (E x (tr 103 611 y l))
  rw [tr_A (by decide), hk]
  show PW _ _ _ 6 [some (.ref 70), some (.int b), some (.int xx)] [.int 1] (E x (tr 103 611 y l))
  refine PW_iconst (v := 4) c_M_telling_6 (by decide) ?_
  refine PW_icmp_ne c_M_telling_7 (fun _ => ?_) (fun h0 => absurd h0 (by decide))
  refine PW_aload_n c_M_telling_25 rfl ?_
  refine PW_get (v := .ref 102) c_M_telling_26 fl_M_105 (gf_70_50 _ _) ?_
  refine PW_iload_n c_M_telling_29 rfl ?_
  refine PW_iald (j := b.toNatClampNeg) c_M_telling_30 (ar_102 _ _) (vp_in_iff.mpr K.1) rfl ?_
  show PW _ _ _ 31 [some (.ref 70), some (.int b), some (.int xx)] [.int (((tr 103 611 y l).2.1 102) b.toNatClampNeg)] (E x (tr 103 611 y l))
  rw [tr_A (by decide), hk]
  show PW _ _ _ 31 [some (.ref 70), some (.int b), some (.int xx)] [.int 1] (E x (tr 103 611 y l))
  refine PW_iconst (v := 5) c_M_telling_31 (by decide) ?_
  refine PW_icmp_ne c_M_telling_32 (fun _ => ?_) (fun h1 => absurd h1 (by decide))
  refine PW_aload_n c_M_telling_50 rfl ?_
  refine PW_iload_n c_M_telling_51 rfl ?_
  refine PW_iload_n c_M_telling_52 rfl ?_
  refine PW_V0 (d2 := 7) (st := []) [.int b, .int xx] c_M_telling_53 lk_M_telling_394 (po_70 _ _) rfl rfl rfl (Nat.le_of_ble_eq_true rfl) (by first | decide | omega) (Nat.le_of_ble_eq_true rfl) ?_
  refine sp_M_plainTells_1 K (by (try simp only [List.length_cons]); omega) ?_
  show PW _ _ _ 56 [some (.ref 70), some (.int b), some (.int xx)] [.int ((((xx + b) + 3) * 2) - ((1 : Int32) ^^^ b))] (E x (tr 103 611 y (11 :: 1 :: 20 :: 10 :: 2 :: l)))
  refine PW_ireturn (ty := .int) c_M_telling_56 rfl rfl ?_
  exact h
theorem sp_M_plainSays_2 {z : ZS} {post : Option Value → List PE → Prop} {x y : XS} {l : List Int32} {b xx : Int32} (K : km y b 2) (hl : l.length + 1 ≤ 24) (h : post (some (.int (xx + b))) (E x (tr 103 611 y (1 :: l)))) : PW (1, 0, 0, z) m_M_plainSays post 0 [some (.ref 70), some (.int b), some (.int xx)] [] (E x (tr 103 611 y l)) := by
  have hk := K.2
  refine PW_aload_n c_M_plainSays_0 rfl ?_
  refine PW_iconst (v := 1) c_M_plainSays_1 (by decide) ?_
  refine PW_V0 (d2 := 0) (st := []) [.int 1] c_M_plainSays_2 lk_M_plainSays_361 (po_70 _ _) rfl rfl rfl (Nat.le_of_ble_eq_true rfl) (by first | decide | omega) (Nat.le_of_ble_eq_true rfl) ?_
  refine sp_ran (by (try simp only [List.length_cons]); omega) ?_
  show PW _ _ _ 5 [some (.ref 70), some (.int b), some (.int xx)] [] (E x (tr 103 611 y (1 :: l)))
  refine PW_iload_n c_M_plainSays_5 rfl ?_
  refine PW_iload_n c_M_plainSays_6 rfl ?_
  refine PW_iadd c_M_plainSays_7 ?_
  refine PW_ireturn (ty := .int) c_M_plainSays_8 rfl rfl ?_
  exact h
theorem sp_M_saying_2 {z : ZS} {post : Option Value → List PE → Prop} {x y : XS} {l : List Int32} {b xx : Int32} (K : km y b 2) (hl : l.length + 1 ≤ 24) (h : post (some (.int (xx + b))) (E x (tr 103 611 y (1 :: l)))) : PW (3, 0, 0, z) m_M_saying post 0 [some (.ref 70), some (.int b), some (.int xx)] [] (E x (tr 103 611 y l)) := by
  have hk := K.2
  refine PW_aload_n c_M_saying_0 rfl ?_
  refine PW_get (v := .ref 102) c_M_saying_1 fl_M_105 (gf_70_50 _ _) ?_
  refine PW_iload_n c_M_saying_4 rfl ?_
  refine PW_iald (j := b.toNatClampNeg) c_M_saying_5 (ar_102 _ _) (vp_in_iff.mpr K.1) rfl ?_
  show PW _ _ _ 6 [some (.ref 70), some (.int b), some (.int xx)] [.int (((tr 103 611 y l).2.1 102) b.toNatClampNeg)] (E x (tr 103 611 y l))
  rw [tr_A (by decide), hk]
  show PW _ _ _ 6 [some (.ref 70), some (.int b), some (.int xx)] [.int 2] (E x (tr 103 611 y l))
  refine PW_iconst (v := 1) c_M_saying_6 (by decide) ?_
  refine PW_S0 (d2 := 0) (st := []) [.int 2, .int 1] c_M_saying_7 lk_M_saying_367 rfl rfl rfl (Nat.le_of_ble_eq_true rfl) (by first | decide | omega) (Nat.le_of_ble_eq_true rfl) ?_
  show PW _ _ _ 0 [some (.int 2), some (.int 1)] [] (E x (tr 103 611 y l))
  refine PW_iload_n c_M_isUnder_0 rfl ?_
  refine PW_if_eq c_M_isUnder_1 (fun h0 => absurd h0 (by decide)) (fun _ => ?_)
  refine PW_iload_n c_M_isUnder_4 rfl ?_
  refine PW_iload_n c_M_isUnder_5 rfl ?_
  refine PW_icmp_eq c_M_isUnder_6 (fun h1 => absurd h1 (by decide)) (fun _ => ?_)
  refine PW_iload_n c_M_isUnder_9 rfl ?_
  refine PW_iconst (v := 1) c_M_isUnder_10 (by decide) ?_
  refine PW_icmp_ne c_M_isUnder_11 (fun h2 => absurd (by decide) h2) (fun _ => ?_)
  refine PW_iload_n c_M_isUnder_14 rfl ?_
  refine PW_iconst (v := 4) c_M_isUnder_15 (by decide) ?_
  refine PW_icmp_eq c_M_isUnder_16 (fun h3 => absurd h3 (by decide)) (fun _ => ?_)
  refine PW_iload_n c_M_isUnder_19 rfl ?_
  refine PW_iconst (v := 2) c_M_isUnder_20 (by decide) ?_
  refine PW_icmp_ne c_M_isUnder_21 (fun _ => ?_) (fun h4 => absurd h4 (by decide))
  refine PW_iload_n c_M_isUnder_34 rfl ?_
  refine PW_iconst (v := 3) c_M_isUnder_35 (by decide) ?_
  refine PW_icmp_ne c_M_isUnder_36 (fun _ => ?_) (fun h5 => absurd h5 (by decide))
  refine PW_iload_n c_M_isUnder_44 rfl ?_
  refine PW_bipush (v := 6) c_M_isUnder_45 (by decide) ?_
  refine PW_icmp_ne c_M_isUnder_47 (fun _ => ?_) (fun h6 => absurd h6 (by decide))
  refine PW_iconst (v := 0) c_M_isUnder_60 (by decide) ?_
  refine PW_ireturn (ty := .boolean) c_M_isUnder_61 rfl (by decide +kernel) ?_
  show PW _ _ _ 10 [some (.ref 70), some (.int b), some (.int xx)] [.int 0] (E x (tr 103 611 y l))
  refine PW_if_eq c_M_saying_10 (fun _ => ?_) (fun h7 => absurd (by decide) h7)
  refine PW_aload_n c_M_saying_28 rfl ?_
  refine PW_get (v := .ref 102) c_M_saying_29 fl_M_105 (gf_70_50 _ _) ?_
  refine PW_iload_n c_M_saying_32 rfl ?_
  refine PW_iald (j := b.toNatClampNeg) c_M_saying_33 (ar_102 _ _) (vp_in_iff.mpr K.1) rfl ?_
  show PW _ _ _ 34 [some (.ref 70), some (.int b), some (.int xx)] [.int (((tr 103 611 y l).2.1 102) b.toNatClampNeg)] (E x (tr 103 611 y l))
  rw [tr_A (by decide), hk]
  show PW _ _ _ 34 [some (.ref 70), some (.int b), some (.int xx)] [.int 2] (E x (tr 103 611 y l))
  refine PW_bipush (v := 7) c_M_saying_34 (by decide) ?_
  refine PW_icmp_ne c_M_saying_36 (fun _ => ?_) (fun h8 => absurd h8 (by decide))
  refine PW_aload_n c_M_saying_54 rfl ?_
  refine PW_get (v := .ref 102) c_M_saying_55 fl_M_105 (gf_70_50 _ _) ?_
  refine PW_iload_n c_M_saying_58 rfl ?_
  refine PW_iald (j := b.toNatClampNeg) c_M_saying_59 (ar_102 _ _) (vp_in_iff.mpr K.1) rfl ?_
  show PW _ _ _ 60 [some (.ref 70), some (.int b), some (.int xx)] [.int (((tr 103 611 y l).2.1 102) b.toNatClampNeg)] (E x (tr 103 611 y l))
  rw [tr_A (by decide), hk]
  show PW _ _ _ 60 [some (.ref 70), some (.int b), some (.int xx)] [.int 2] (E x (tr 103 611 y l))
  refine PW_bipush (v := 6) c_M_saying_60 (by decide) ?_
  refine PW_icmp_ne c_M_saying_62 (fun _ => ?_) (fun h9 => absurd h9 (by decide))
  refine PW_aload_n c_M_saying_74 rfl ?_
  refine PW_iload_n c_M_saying_75 rfl ?_
  refine PW_iload_n c_M_saying_76 rfl ?_
  refine PW_V0 (d2 := 1) (st := []) [.int b, .int xx] c_M_saying_77 lk_M_saying_364 (po_70 _ _) rfl rfl rfl (Nat.le_of_ble_eq_true rfl) (by first | decide | omega) (Nat.le_of_ble_eq_true rfl) ?_
  refine sp_M_plainSays_2 K (by (try simp only [List.length_cons]); omega) ?_
  show PW _ _ _ 80 [some (.ref 70), some (.int b), some (.int xx)] [.int (xx + b)] (E x (tr 103 611 y (1 :: l)))
  refine PW_ireturn (ty := .int) c_M_saying_80 rfl rfl ?_
  exact h
theorem sp_M_plainStays_2 {z : ZS} {post : Option Value → List PE → Prop} {x y : XS} {l : List Int32} {b xx : Int32} (K : km y b 2) (hl : l.length + 2 ≤ 24) (h : post (some (.int ((xx + b) * 2))) (E x (tr 103 611 y (1 :: 10 :: l)))) : PW (4, 0, 0, z) m_M_plainStays post 0 [some (.ref 70), some (.int b), some (.int xx)] [] (E x (tr 103 611 y l)) := by
  have hk := K.2
  refine PW_aload_n c_M_plainStays_0 rfl ?_
  refine PW_bipush (v := 10) c_M_plainStays_1 (by decide) ?_
  refine PW_V0 (d2 := 0) (st := []) [.int 10] c_M_plainStays_3 lk_M_plainStays_361 (po_70 _ _) rfl rfl rfl (Nat.le_of_ble_eq_true rfl) (by first | decide | omega) (Nat.le_of_ble_eq_true rfl) ?_
  refine sp_ran (by (try simp only [List.length_cons]); omega) ?_
  show PW _ _ _ 6 [some (.ref 70), some (.int b), some (.int xx)] [] (E x (tr 103 611 y (10 :: l)))
  refine PW_aload_n c_M_plainStays_6 rfl ?_
  refine PW_iload_n c_M_plainStays_7 rfl ?_
  refine PW_iload_n c_M_plainStays_8 rfl ?_
  refine PW_V0 (d2 := 3) (st := []) [.int b, .int xx] c_M_plainStays_9 lk_M_plainStays_373 (po_70 _ _) rfl rfl rfl (Nat.le_of_ble_eq_true rfl) (by first | decide | omega) (Nat.le_of_ble_eq_true rfl) ?_
  refine sp_M_saying_2 K (by (try simp only [List.length_cons]); omega) ?_
  show PW _ _ _ 12 [some (.ref 70), some (.int b), some (.int xx)] [.int (xx + b)] (E x (tr 103 611 y (1 :: 10 :: l)))
  refine PW_iconst (v := 2) c_M_plainStays_12 (by decide) ?_
  refine PW_imul c_M_plainStays_13 ?_
  refine PW_ireturn (ty := .int) c_M_plainStays_14 rfl rfl ?_
  exact h
theorem sp_M_joinedStays_2 {z : ZS} {post : Option Value → List PE → Prop} {x y : XS} {l : List Int32} {b xx : Int32} (K : km y b 2) (hl : l.length + 3 ≤ 24) (h : post (some (.int (-((xx + b) * 2)))) (E x (tr 103 611 y (1 :: 10 :: 30 :: l)))) : PW (5, 0, 0, z) m_M_joinedStays post 0 [some (.ref 70), some (.int b), some (.int xx)] [] (E x (tr 103 611 y l)) := by
  have hk := K.2
  refine PW_aload_n c_M_joinedStays_0 rfl ?_
  refine PW_bipush (v := 30) c_M_joinedStays_1 (by decide) ?_
  refine PW_V0 (d2 := 0) (st := []) [.int 30] c_M_joinedStays_3 lk_M_joinedStays_361 (po_70 _ _) rfl rfl rfl (Nat.le_of_ble_eq_true rfl) (by first | decide | omega) (Nat.le_of_ble_eq_true rfl) ?_
  refine sp_ran (by (try simp only [List.length_cons]); omega) ?_
  show PW _ _ _ 6 [some (.ref 70), some (.int b), some (.int xx)] [] (E x (tr 103 611 y (30 :: l)))
  refine PW_aload_n c_M_joinedStays_6 rfl ?_
  refine PW_iload_n c_M_joinedStays_7 rfl ?_
  refine PW_iload_n c_M_joinedStays_8 rfl ?_
  refine PW_V0 (d2 := 4) (st := []) [.int b, .int xx] c_M_joinedStays_9 lk_M_joinedStays_376 (po_70 _ _) rfl rfl rfl (Nat.le_of_ble_eq_true rfl) (by first | decide | omega) (Nat.le_of_ble_eq_true rfl) ?_
  refine sp_M_plainStays_2 K (by (try simp only [List.length_cons]); omega) ?_
  show PW _ _ _ 12 [some (.ref 70), some (.int b), some (.int xx)] [.int ((xx + b) * 2)] (E x (tr 103 611 y (1 :: 10 :: 30 :: l)))
  refine PW_ineg c_M_joinedStays_12 ?_
  refine PW_ireturn (ty := .int) c_M_joinedStays_13 rfl rfl ?_
  exact h
theorem sp_M_staying_2 {z : ZS} {post : Option Value → List PE → Prop} {x y : XS} {l : List Int32} {b xx : Int32} (K : km y b 2) (hl : l.length + 3 ≤ 24) (h : post (some (.int (-((xx + b) * 2)))) (E x (tr 103 611 y (1 :: 10 :: 30 :: l)))) : PW (6, 0, 0, z) m_M_staying post 0 [some (.ref 70), some (.int b), some (.int xx), none] [] (E x (tr 103 611 y l)) := by
  have hk := K.2
  refine PW_aload_n c_M_staying_0 rfl ?_
  refine PW_get (v := .ref 102) c_M_staying_1 fl_M_105 (gf_70_50 _ _) ?_
  refine PW_iload_n c_M_staying_4 rfl ?_
  refine PW_iald (j := b.toNatClampNeg) c_M_staying_5 (ar_102 _ _) (vp_in_iff.mpr K.1) rfl ?_
  show PW _ _ _ 6 [some (.ref 70), some (.int b), some (.int xx), none] [.int (((tr 103 611 y l).2.1 102) b.toNatClampNeg)] (E x (tr 103 611 y l))
  rw [tr_A (by decide), hk]
  show PW _ _ _ 6 [some (.ref 70), some (.int b), some (.int xx), none] [.int 2] (E x (tr 103 611 y l))
  refine PW_iconst (v := 3) c_M_staying_6 (by decide) ?_
  refine PW_S0 (d2 := 0) (st := []) [.int 2, .int 3] c_M_staying_7 lk_M_staying_367 rfl rfl rfl (Nat.le_of_ble_eq_true rfl) (by first | decide | omega) (Nat.le_of_ble_eq_true rfl) ?_
  show PW _ _ _ 0 [some (.int 2), some (.int 3)] [] (E x (tr 103 611 y l))
  refine PW_iload_n c_M_isUnder_0 rfl ?_
  refine PW_if_eq c_M_isUnder_1 (fun h0 => absurd h0 (by decide)) (fun _ => ?_)
  refine PW_iload_n c_M_isUnder_4 rfl ?_
  refine PW_iload_n c_M_isUnder_5 rfl ?_
  refine PW_icmp_eq c_M_isUnder_6 (fun h1 => absurd h1 (by decide)) (fun _ => ?_)
  refine PW_iload_n c_M_isUnder_9 rfl ?_
  refine PW_iconst (v := 1) c_M_isUnder_10 (by decide) ?_
  refine PW_icmp_ne c_M_isUnder_11 (fun _ => ?_) (fun h2 => absurd h2 (by decide))
  refine PW_iload_n c_M_isUnder_19 rfl ?_
  refine PW_iconst (v := 2) c_M_isUnder_20 (by decide) ?_
  refine PW_icmp_ne c_M_isUnder_21 (fun _ => ?_) (fun h3 => absurd h3 (by decide))
  refine PW_iload_n c_M_isUnder_34 rfl ?_
  refine PW_iconst (v := 3) c_M_isUnder_35 (by decide) ?_
  refine PW_icmp_ne c_M_isUnder_36 (fun h4 => absurd (by decide) h4) (fun _ => ?_)
  refine PW_iload_n c_M_isUnder_39 rfl ?_
  refine PW_iconst (v := 5) c_M_isUnder_40 (by decide) ?_
  refine PW_icmp_eq c_M_isUnder_41 (fun h5 => absurd h5 (by decide)) (fun _ => ?_)
  refine PW_iload_n c_M_isUnder_44 rfl ?_
  refine PW_bipush (v := 6) c_M_isUnder_45 (by decide) ?_
  refine PW_icmp_ne c_M_isUnder_47 (fun _ => ?_) (fun h6 => absurd h6 (by decide))
  refine PW_iconst (v := 0) c_M_isUnder_60 (by decide) ?_
  refine PW_ireturn (ty := .boolean) c_M_isUnder_61 rfl (by decide +kernel) ?_
  show PW _ _ _ 10 [some (.ref 70), some (.int b), some (.int xx), none] [.int 0] (E x (tr 103 611 y l))
  refine PW_if_eq c_M_staying_10 (fun _ => ?_) (fun h7 => absurd (by decide) h7)
  refine PW_aload_n c_M_staying_28 rfl ?_
  refine PW_get (v := .ref 102) c_M_staying_29 fl_M_105 (gf_70_50 _ _) ?_
  refine PW_iload_n c_M_staying_32 rfl ?_
  refine PW_iald (j := b.toNatClampNeg) c_M_staying_33 (ar_102 _ _) (vp_in_iff.mpr K.1) rfl ?_
  show PW _ _ _ 34 [some (.ref 70), some (.int b), some (.int xx), none] [.int (((tr 103 611 y l).2.1 102) b.toNatClampNeg)] (E x (tr 103 611 y l))
  rw [tr_A (by decide), hk]
  show PW _ _ _ 34 [some (.ref 70), some (.int b), some (.int xx), none] [.int 2] (E x (tr 103 611 y l))
  refine PW_bipush (v := 7) c_M_staying_34 (by decide) ?_
  refine PW_icmp_ne c_M_staying_36 (fun _ => ?_) (fun h8 => absurd h8 (by decide))
  refine PW_aload_n c_M_staying_61 rfl ?_
  refine PW_get (v := .ref 102) c_M_staying_62 fl_M_105 (gf_70_50 _ _) ?_
  refine PW_iload_n c_M_staying_65 rfl ?_
  refine PW_iald (j := b.toNatClampNeg) c_M_staying_66 (ar_102 _ _) (vp_in_iff.mpr K.1) rfl ?_
  show PW _ _ _ 67 [some (.ref 70), some (.int b), some (.int xx), none] [.int (((tr 103 611 y l).2.1 102) b.toNatClampNeg)] (E x (tr 103 611 y l))
  rw [tr_A (by decide), hk]
  show PW _ _ _ 67 [some (.ref 70), some (.int b), some (.int xx), none] [.int 2] (E x (tr 103 611 y l))
  refine PW_iconst (v := 2) c_M_staying_67 (by decide) ?_
  refine PW_icmp_ne c_M_staying_68 (fun h9 => absurd (by decide) h9) (fun _ => ?_)
  refine PW_aload_n c_M_staying_71 rfl ?_
  refine PW_iload_n c_M_staying_72 rfl ?_
  refine PW_iload_n c_M_staying_73 rfl ?_
  refine PW_V0 (d2 := 5) (st := []) [.int b, .int xx] c_M_staying_74 lk_M_staying_379 (po_70 _ _) rfl rfl rfl (Nat.le_of_ble_eq_true rfl) (by first | decide | omega) (Nat.le_of_ble_eq_true rfl) ?_
  refine sp_M_joinedStays_2 K (by (try simp only [List.length_cons]); omega) ?_
  show PW _ _ _ 77 [some (.ref 70), some (.int b), some (.int xx), none] [.int (-((xx + b) * 2))] (E x (tr 103 611 y (1 :: 10 :: 30 :: l)))
  refine PW_goto c_M_staying_77 ?_
  refine PW_ireturn (ty := .int) c_M_staying_86 rfl rfl ?_
  exact h
theorem sp_M_plainTurns_2 {z : ZS} {post : Option Value → List PE → Prop} {x y : XS} {l : List Int32} {b xx : Int32} (K : km y b 2) (hl : l.length + 1 ≤ 24) (h : post (some (.int (xx ^^^ b))) (E x (tr 103 611 y (11 :: l)))) : PW (1, 0, 0, z) m_M_plainTurns post 0 [some (.ref 70), some (.int b), some (.int xx)] [] (E x (tr 103 611 y l)) := by
  have hk := K.2
  refine PW_aload_n c_M_plainTurns_0 rfl ?_
  refine PW_bipush (v := 11) c_M_plainTurns_1 (by decide) ?_
  refine PW_V0 (d2 := 0) (st := []) [.int 11] c_M_plainTurns_3 lk_M_plainTurns_361 (po_70 _ _) rfl rfl rfl (Nat.le_of_ble_eq_true rfl) (by first | decide | omega) (Nat.le_of_ble_eq_true rfl) ?_
  refine sp_ran (by (try simp only [List.length_cons]); omega) ?_
  show PW _ _ _ 6 [some (.ref 70), some (.int b), some (.int xx)] [] (E x (tr 103 611 y (11 :: l)))
  refine PW_iload_n c_M_plainTurns_6 rfl ?_
  refine PW_iload_n c_M_plainTurns_7 rfl ?_
  refine PW_ixor c_M_plainTurns_8 ?_
  refine PW_ireturn (ty := .int) c_M_plainTurns_9 rfl rfl ?_
  exact h
theorem sp_M_turning_2 {z : ZS} {post : Option Value → List PE → Prop} {x y : XS} {l : List Int32} {b xx : Int32} (K : km y b 2) (hl : l.length + 1 ≤ 24) (h : post (some (.int (xx ^^^ b))) (E x (tr 103 611 y (11 :: l)))) : PW (4, 0, 0, z) m_M_turning post 0 [some (.ref 70), some (.int b), some (.int xx), none] [] (E x (tr 103 611 y l)) := by
  have hk := K.2
  refine PW_aload_n c_M_turning_0 rfl ?_
  refine PW_get (v := .ref 102) c_M_turning_1 fl_M_105 (gf_70_50 _ _) ?_
  refine PW_iload_n c_M_turning_4 rfl ?_
  refine PW_iald (j := b.toNatClampNeg) c_M_turning_5 (ar_102 _ _) (vp_in_iff.mpr K.1) rfl ?_
  show PW _ _ _ 6 [some (.ref 70), some (.int b), some (.int xx), none] [.int (((tr 103 611 y l).2.1 102) b.toNatClampNeg)] (E x (tr 103 611 y l))
  rw [tr_A (by decide), hk]
  show PW _ _ _ 6 [some (.ref 70), some (.int b), some (.int xx), none] [.int 2] (E x (tr 103 611 y l))
  refine PW_iconst (v := 5) c_M_turning_6 (by decide) ?_
  refine PW_icmp_ne c_M_turning_7 (fun _ => ?_) (fun h0 => absurd h0 (by decide))
  refine PW_aload_n c_M_turning_32 rfl ?_
  refine PW_get (v := .ref 102) c_M_turning_33 fl_M_105 (gf_70_50 _ _) ?_
  refine PW_iload_n c_M_turning_36 rfl ?_
  refine PW_iald (j := b.toNatClampNeg) c_M_turning_37 (ar_102 _ _) (vp_in_iff.mpr K.1) rfl ?_
  show PW _ _ _ 38 [some (.ref 70), some (.int b), some (.int xx), none] [.int (((tr 103 611 y l).2.1 102) b.toNatClampNeg)] (E x (tr 103 611 y l))
  rw [tr_A (by decide), hk]
  show PW _ _ _ 38 [some (.ref 70), some (.int b), some (.int xx), none] [.int 2] (E x (tr 103 611 y l))
  refine PW_iconst (v := 3) c_M_turning_38 (by decide) ?_
  refine PW_icmp_ne c_M_turning_39 (fun _ => ?_) (fun h1 => absurd h1 (by decide))
  refine PW_aload_n c_M_turning_51 rfl ?_
  refine PW_iload_n c_M_turning_52 rfl ?_
  refine PW_iload_n c_M_turning_53 rfl ?_
  refine PW_V0 (d2 := 1) (st := []) [.int b, .int xx] c_M_turning_54 lk_M_turning_385 (po_70 _ _) rfl rfl rfl (Nat.le_of_ble_eq_true rfl) (by first | decide | omega) (Nat.le_of_ble_eq_true rfl) ?_
  refine sp_M_plainTurns_2 K (by (try simp only [List.length_cons]); omega) ?_
  show PW _ _ _ 57 [some (.ref 70), some (.int b), some (.int xx), none] [.int (xx ^^^ b)] (E x (tr 103 611 y (11 :: l)))
  refine PW_ireturn (ty := .int) c_M_turning_57 rfl rfl ?_
  exact h
theorem sp_M_plainTells_2 {z : ZS} {post : Option Value → List PE → Prop} {x y : XS} {l : List Int32} {b xx : Int32} (K : km y b 2) (hl : l.length + 5 ≤ 24) (h : post (some (.int ((-((xx + b) * 2)) - ((1 : Int32) ^^^ b)))) (E x (tr 103 611 y (11 :: 1 :: 10 :: 30 :: 2 :: l)))) : PW (7, 0, 0, z) m_M_plainTells post 0 [some (.ref 70), some (.int b), some (.int xx), none] [] (E x (tr 103 611 y l)) := by
  have hk := K.2
  refine PW_aload_n c_M_plainTells_0 rfl ?_
  refine PW_iconst (v := 2) c_M_plainTells_1 (by decide) ?_
  refine PW_V0 (d2 := 0) (st := []) [.int 2] c_M_plainTells_2 lk_M_plainTells_361 (po_70 _ _) rfl rfl rfl (Nat.le_of_ble_eq_true rfl) (by first | decide | omega) (Nat.le_of_ble_eq_true rfl) ?_
  refine sp_ran (by (try simp only [List.length_cons]); omega) ?_
  show PW _ _ _ 5 [some (.ref 70), some (.int b), some (.int xx), none] [] (E x (tr 103 611 y (2 :: l)))
  refine PW_aload_n c_M_plainTells_5 rfl ?_
  refine PW_iload_n c_M_plainTells_6 rfl ?_
  refine PW_iload_n c_M_plainTells_7 rfl ?_
  refine PW_V0 (d2 := 6) (st := []) [.int b, .int xx] c_M_plainTells_8 lk_M_plainTells_391 (po_70 _ _) rfl rfl rfl (Nat.le_of_ble_eq_true rfl) (by first | decide | omega) (Nat.le_of_ble_eq_true rfl) ?_
  refine sp_M_staying_2 K (by (try simp only [List.length_cons]); omega) ?_
  show PW _ _ _ 11 [some (.ref 70), some (.int b), some (.int xx), none] [.int (-((xx + b) * 2))] (E x (tr 103 611 y (1 :: 10 :: 30 :: 2 :: l)))
  refine PW_istore_n (i := 3) (L2 := [some (.ref 70), some (.int b), some (.int xx), some (.int (-((xx + b) * 2)))]) c_M_plainTells_11 rfl (Nat.le_of_ble_eq_true rfl) rfl rfl ?_
  refine PW_iload_n c_M_plainTells_12 rfl ?_
  refine PW_aload_n c_M_plainTells_13 rfl ?_
  refine PW_iload_n c_M_plainTells_14 rfl ?_
  refine PW_iconst (v := 1) c_M_plainTells_15 (by decide) ?_
  refine PW_V0 (d2 := 4) (st := [.int (-((xx + b) * 2))]) [.int b, .int 1] c_M_plainTells_16 lk_M_plainTells_382 (po_70 _ _) rfl rfl rfl (Nat.le_of_ble_eq_true rfl) (by first | decide | omega) (Nat.le_of_ble_eq_true rfl) ?_
  refine sp_M_turning_2 K (by (try simp only [List.length_cons]); omega) ?_
  show PW _ _ _ 19 [some (.ref 70), some (.int b), some (.int xx), some (.int (-((xx + b) * 2)))] [.int ((1 : Int32) ^^^ b), .int (-((xx + b) * 2))] (E x (tr 103 611 y (11 :: 1 :: 10 :: 30 :: 2 :: l)))
  refine PW_isub c_M_plainTells_19 ?_
  refine PW_ireturn (ty := .int) c_M_plainTells_20 rfl rfl ?_
  exact h
theorem sp_M_telling_2 {z : ZS} {post : Option Value → List PE → Prop} {x y : XS} {l : List Int32} {b xx : Int32} (K : km y b 2) (hl : l.length + 5 ≤ 24) (h : post (some (.int ((-((xx + b) * 2)) - ((1 : Int32) ^^^ b)))) (E x (tr 103 611 y (11 :: 1 :: 10 :: 30 :: 2 :: l)))) : PW (8, 0, 0, z) m_M_telling post 0 [some (.ref 70), some (.int b), some (.int xx)] [] (E x (tr 103 611 y l)) := by
  have hk := K.2
  refine PW_aload_n c_M_telling_0 rfl ?_
  refine PW_get (v := .ref 102) c_M_telling_1 fl_M_105 (gf_70_50 _ _) ?_
  refine PW_iload_n c_M_telling_4 rfl ?_
  refine PW_iald (j := b.toNatClampNeg) c_M_telling_5 (ar_102 _ _) (vp_in_iff.mpr K.1) rfl ?_
  show PW _ _ _ 6 [some (.ref 70), some (.int b), some (.int xx)] [.int (((tr 103 611 y l).2.1 102) b.toNatClampNeg)] (E x (tr 103 611 y l))
  rw [tr_A (by decide), hk]
  show PW _ _ _ 6 [some (.ref 70), some (.int b), some (.int xx)] [.int 2] (E x (tr 103 611 y l))
  refine PW_iconst (v := 4) c_M_telling_6 (by decide) ?_
  refine PW_icmp_ne c_M_telling_7 (fun _ => ?_) (fun h0 => absurd h0 (by decide))
  refine PW_aload_n c_M_telling_25 rfl ?_
  refine PW_get (v := .ref 102) c_M_telling_26 fl_M_105 (gf_70_50 _ _) ?_
  refine PW_iload_n c_M_telling_29 rfl ?_
  refine PW_iald (j := b.toNatClampNeg) c_M_telling_30 (ar_102 _ _) (vp_in_iff.mpr K.1) rfl ?_
  show PW _ _ _ 31 [some (.ref 70), some (.int b), some (.int xx)] [.int (((tr 103 611 y l).2.1 102) b.toNatClampNeg)] (E x (tr 103 611 y l))
  rw [tr_A (by decide), hk]
  show PW _ _ _ 31 [some (.ref 70), some (.int b), some (.int xx)] [.int 2] (E x (tr 103 611 y l))
  refine PW_iconst (v := 5) c_M_telling_31 (by decide) ?_
  refine PW_icmp_ne c_M_telling_32 (fun _ => ?_) (fun h1 => absurd h1 (by decide))
  refine PW_aload_n c_M_telling_50 rfl ?_
  refine PW_iload_n c_M_telling_51 rfl ?_
  refine PW_iload_n c_M_telling_52 rfl ?_
  refine PW_V0 (d2 := 7) (st := []) [.int b, .int xx] c_M_telling_53 lk_M_telling_394 (po_70 _ _) rfl rfl rfl (Nat.le_of_ble_eq_true rfl) (by first | decide | omega) (Nat.le_of_ble_eq_true rfl) ?_
  refine sp_M_plainTells_2 K (by (try simp only [List.length_cons]); omega) ?_
  show PW _ _ _ 56 [some (.ref 70), some (.int b), some (.int xx)] [.int ((-((xx + b) * 2)) - ((1 : Int32) ^^^ b))] (E x (tr 103 611 y (11 :: 1 :: 10 :: 30 :: 2 :: l)))
  refine PW_ireturn (ty := .int) c_M_telling_56 rfl rfl ?_
  exact h
theorem sp_M_plainSays_3 {z : ZS} {post : Option Value → List PE → Prop} {x y : XS} {l : List Int32} {b xx : Int32} (K : km y b 3) (hl : l.length + 1 ≤ 24) (h : post (some (.int (xx + b))) (E x (tr 103 611 y (1 :: l)))) : PW (1, 0, 0, z) m_M_plainSays post 0 [some (.ref 70), some (.int b), some (.int xx)] [] (E x (tr 103 611 y l)) := by
  have hk := K.2
  refine PW_aload_n c_M_plainSays_0 rfl ?_
  refine PW_iconst (v := 1) c_M_plainSays_1 (by decide) ?_
  refine PW_V0 (d2 := 0) (st := []) [.int 1] c_M_plainSays_2 lk_M_plainSays_361 (po_70 _ _) rfl rfl rfl (Nat.le_of_ble_eq_true rfl) (by first | decide | omega) (Nat.le_of_ble_eq_true rfl) ?_
  refine sp_ran (by (try simp only [List.length_cons]); omega) ?_
  show PW _ _ _ 5 [some (.ref 70), some (.int b), some (.int xx)] [] (E x (tr 103 611 y (1 :: l)))
  refine PW_iload_n c_M_plainSays_5 rfl ?_
  refine PW_iload_n c_M_plainSays_6 rfl ?_
  refine PW_iadd c_M_plainSays_7 ?_
  refine PW_ireturn (ty := .int) c_M_plainSays_8 rfl rfl ?_
  exact h
theorem sp_M_saying_3 {z : ZS} {post : Option Value → List PE → Prop} {x y : XS} {l : List Int32} {b xx : Int32} (K : km y b 3) (hl : l.length + 1 ≤ 24) (h : post (some (.int (xx + b))) (E x (tr 103 611 y (1 :: l)))) : PW (3, 0, 0, z) m_M_saying post 0 [some (.ref 70), some (.int b), some (.int xx)] [] (E x (tr 103 611 y l)) := by
  have hk := K.2
  refine PW_aload_n c_M_saying_0 rfl ?_
  refine PW_get (v := .ref 102) c_M_saying_1 fl_M_105 (gf_70_50 _ _) ?_
  refine PW_iload_n c_M_saying_4 rfl ?_
  refine PW_iald (j := b.toNatClampNeg) c_M_saying_5 (ar_102 _ _) (vp_in_iff.mpr K.1) rfl ?_
  show PW _ _ _ 6 [some (.ref 70), some (.int b), some (.int xx)] [.int (((tr 103 611 y l).2.1 102) b.toNatClampNeg)] (E x (tr 103 611 y l))
  rw [tr_A (by decide), hk]
  show PW _ _ _ 6 [some (.ref 70), some (.int b), some (.int xx)] [.int 3] (E x (tr 103 611 y l))
  refine PW_iconst (v := 1) c_M_saying_6 (by decide) ?_
  refine PW_S0 (d2 := 0) (st := []) [.int 3, .int 1] c_M_saying_7 lk_M_saying_367 rfl rfl rfl (Nat.le_of_ble_eq_true rfl) (by first | decide | omega) (Nat.le_of_ble_eq_true rfl) ?_
  show PW _ _ _ 0 [some (.int 3), some (.int 1)] [] (E x (tr 103 611 y l))
  refine PW_iload_n c_M_isUnder_0 rfl ?_
  refine PW_if_eq c_M_isUnder_1 (fun h0 => absurd h0 (by decide)) (fun _ => ?_)
  refine PW_iload_n c_M_isUnder_4 rfl ?_
  refine PW_iload_n c_M_isUnder_5 rfl ?_
  refine PW_icmp_eq c_M_isUnder_6 (fun h1 => absurd h1 (by decide)) (fun _ => ?_)
  refine PW_iload_n c_M_isUnder_9 rfl ?_
  refine PW_iconst (v := 1) c_M_isUnder_10 (by decide) ?_
  refine PW_icmp_ne c_M_isUnder_11 (fun h2 => absurd (by decide) h2) (fun _ => ?_)
  refine PW_iload_n c_M_isUnder_14 rfl ?_
  refine PW_iconst (v := 4) c_M_isUnder_15 (by decide) ?_
  refine PW_icmp_eq c_M_isUnder_16 (fun h3 => absurd h3 (by decide)) (fun _ => ?_)
  refine PW_iload_n c_M_isUnder_19 rfl ?_
  refine PW_iconst (v := 2) c_M_isUnder_20 (by decide) ?_
  refine PW_icmp_ne c_M_isUnder_21 (fun _ => ?_) (fun h4 => absurd h4 (by decide))
  refine PW_iload_n c_M_isUnder_34 rfl ?_
  refine PW_iconst (v := 3) c_M_isUnder_35 (by decide) ?_
  refine PW_icmp_ne c_M_isUnder_36 (fun _ => ?_) (fun h5 => absurd h5 (by decide))
  refine PW_iload_n c_M_isUnder_44 rfl ?_
  refine PW_bipush (v := 6) c_M_isUnder_45 (by decide) ?_
  refine PW_icmp_ne c_M_isUnder_47 (fun _ => ?_) (fun h6 => absurd h6 (by decide))
  refine PW_iconst (v := 0) c_M_isUnder_60 (by decide) ?_
  refine PW_ireturn (ty := .boolean) c_M_isUnder_61 rfl (by decide +kernel) ?_
  show PW _ _ _ 10 [some (.ref 70), some (.int b), some (.int xx)] [.int 0] (E x (tr 103 611 y l))
  refine PW_if_eq c_M_saying_10 (fun _ => ?_) (fun h7 => absurd (by decide) h7)
  refine PW_aload_n c_M_saying_28 rfl ?_
  refine PW_get (v := .ref 102) c_M_saying_29 fl_M_105 (gf_70_50 _ _) ?_
  refine PW_iload_n c_M_saying_32 rfl ?_
  refine PW_iald (j := b.toNatClampNeg) c_M_saying_33 (ar_102 _ _) (vp_in_iff.mpr K.1) rfl ?_
  show PW _ _ _ 34 [some (.ref 70), some (.int b), some (.int xx)] [.int (((tr 103 611 y l).2.1 102) b.toNatClampNeg)] (E x (tr 103 611 y l))
  rw [tr_A (by decide), hk]
  show PW _ _ _ 34 [some (.ref 70), some (.int b), some (.int xx)] [.int 3] (E x (tr 103 611 y l))
  refine PW_bipush (v := 7) c_M_saying_34 (by decide) ?_
  refine PW_icmp_ne c_M_saying_36 (fun _ => ?_) (fun h8 => absurd h8 (by decide))
  refine PW_aload_n c_M_saying_54 rfl ?_
  refine PW_get (v := .ref 102) c_M_saying_55 fl_M_105 (gf_70_50 _ _) ?_
  refine PW_iload_n c_M_saying_58 rfl ?_
  refine PW_iald (j := b.toNatClampNeg) c_M_saying_59 (ar_102 _ _) (vp_in_iff.mpr K.1) rfl ?_
  show PW _ _ _ 60 [some (.ref 70), some (.int b), some (.int xx)] [.int (((tr 103 611 y l).2.1 102) b.toNatClampNeg)] (E x (tr 103 611 y l))
  rw [tr_A (by decide), hk]
  show PW _ _ _ 60 [some (.ref 70), some (.int b), some (.int xx)] [.int 3] (E x (tr 103 611 y l))
  refine PW_bipush (v := 6) c_M_saying_60 (by decide) ?_
  refine PW_icmp_ne c_M_saying_62 (fun _ => ?_) (fun h9 => absurd h9 (by decide))
  refine PW_aload_n c_M_saying_74 rfl ?_
  refine PW_iload_n c_M_saying_75 rfl ?_
  refine PW_iload_n c_M_saying_76 rfl ?_
  refine PW_V0 (d2 := 1) (st := []) [.int b, .int xx] c_M_saying_77 lk_M_saying_364 (po_70 _ _) rfl rfl rfl (Nat.le_of_ble_eq_true rfl) (by first | decide | omega) (Nat.le_of_ble_eq_true rfl) ?_
  refine sp_M_plainSays_3 K (by (try simp only [List.length_cons]); omega) ?_
  show PW _ _ _ 80 [some (.ref 70), some (.int b), some (.int xx)] [.int (xx + b)] (E x (tr 103 611 y (1 :: l)))
  refine PW_ireturn (ty := .int) c_M_saying_80 rfl rfl ?_
  exact h
theorem sp_M_plainStays_3 {z : ZS} {post : Option Value → List PE → Prop} {x y : XS} {l : List Int32} {b xx : Int32} (K : km y b 3) (hl : l.length + 2 ≤ 24) (h : post (some (.int ((xx + b) * 2))) (E x (tr 103 611 y (1 :: 10 :: l)))) : PW (4, 0, 0, z) m_M_plainStays post 0 [some (.ref 70), some (.int b), some (.int xx)] [] (E x (tr 103 611 y l)) := by
  have hk := K.2
  refine PW_aload_n c_M_plainStays_0 rfl ?_
  refine PW_bipush (v := 10) c_M_plainStays_1 (by decide) ?_
  refine PW_V0 (d2 := 0) (st := []) [.int 10] c_M_plainStays_3 lk_M_plainStays_361 (po_70 _ _) rfl rfl rfl (Nat.le_of_ble_eq_true rfl) (by first | decide | omega) (Nat.le_of_ble_eq_true rfl) ?_
  refine sp_ran (by (try simp only [List.length_cons]); omega) ?_
  show PW _ _ _ 6 [some (.ref 70), some (.int b), some (.int xx)] [] (E x (tr 103 611 y (10 :: l)))
  refine PW_aload_n c_M_plainStays_6 rfl ?_
  refine PW_iload_n c_M_plainStays_7 rfl ?_
  refine PW_iload_n c_M_plainStays_8 rfl ?_
  refine PW_V0 (d2 := 3) (st := []) [.int b, .int xx] c_M_plainStays_9 lk_M_plainStays_373 (po_70 _ _) rfl rfl rfl (Nat.le_of_ble_eq_true rfl) (by first | decide | omega) (Nat.le_of_ble_eq_true rfl) ?_
  refine sp_M_saying_3 K (by (try simp only [List.length_cons]); omega) ?_
  show PW _ _ _ 12 [some (.ref 70), some (.int b), some (.int xx)] [.int (xx + b)] (E x (tr 103 611 y (1 :: 10 :: l)))
  refine PW_iconst (v := 2) c_M_plainStays_12 (by decide) ?_
  refine PW_imul c_M_plainStays_13 ?_
  refine PW_ireturn (ty := .int) c_M_plainStays_14 rfl rfl ?_
  exact h
theorem sp_M_joinedStays_3 {z : ZS} {post : Option Value → List PE → Prop} {x y : XS} {l : List Int32} {b xx : Int32} (K : km y b 3) (hl : l.length + 3 ≤ 24) (h : post (some (.int (-((xx + b) * 2)))) (E x (tr 103 611 y (1 :: 10 :: 30 :: l)))) : PW (5, 0, 0, z) m_M_joinedStays post 0 [some (.ref 70), some (.int b), some (.int xx)] [] (E x (tr 103 611 y l)) := by
  have hk := K.2
  refine PW_aload_n c_M_joinedStays_0 rfl ?_
  refine PW_bipush (v := 30) c_M_joinedStays_1 (by decide) ?_
  refine PW_V0 (d2 := 0) (st := []) [.int 30] c_M_joinedStays_3 lk_M_joinedStays_361 (po_70 _ _) rfl rfl rfl (Nat.le_of_ble_eq_true rfl) (by first | decide | omega) (Nat.le_of_ble_eq_true rfl) ?_
  refine sp_ran (by (try simp only [List.length_cons]); omega) ?_
  show PW _ _ _ 6 [some (.ref 70), some (.int b), some (.int xx)] [] (E x (tr 103 611 y (30 :: l)))
  refine PW_aload_n c_M_joinedStays_6 rfl ?_
  refine PW_iload_n c_M_joinedStays_7 rfl ?_
  refine PW_iload_n c_M_joinedStays_8 rfl ?_
  refine PW_V0 (d2 := 4) (st := []) [.int b, .int xx] c_M_joinedStays_9 lk_M_joinedStays_376 (po_70 _ _) rfl rfl rfl (Nat.le_of_ble_eq_true rfl) (by first | decide | omega) (Nat.le_of_ble_eq_true rfl) ?_
  refine sp_M_plainStays_3 K (by (try simp only [List.length_cons]); omega) ?_
  show PW _ _ _ 12 [some (.ref 70), some (.int b), some (.int xx)] [.int ((xx + b) * 2)] (E x (tr 103 611 y (1 :: 10 :: 30 :: l)))
  refine PW_ineg c_M_joinedStays_12 ?_
  refine PW_ireturn (ty := .int) c_M_joinedStays_13 rfl rfl ?_
  exact h
theorem sp_M_staying_3 {z : ZS} {post : Option Value → List PE → Prop} {x y : XS} {l : List Int32} {b xx : Int32} (K : km y b 3) (hl : l.length + 4 ≤ 24) (h : post (some (.int (-(((xx + 1) + b) * 2)))) (E x (tr 103 611 y (1 :: 10 :: 30 :: 41 :: l)))) : PW (6, 0, 0, z) m_M_staying post 0 [some (.ref 70), some (.int b), some (.int xx), none] [] (E x (tr 103 611 y l)) := by
  have hk := K.2
  refine PW_aload_n c_M_staying_0 rfl ?_
  refine PW_get (v := .ref 102) c_M_staying_1 fl_M_105 (gf_70_50 _ _) ?_
  refine PW_iload_n c_M_staying_4 rfl ?_
  refine PW_iald (j := b.toNatClampNeg) c_M_staying_5 (ar_102 _ _) (vp_in_iff.mpr K.1) rfl ?_
  show PW _ _ _ 6 [some (.ref 70), some (.int b), some (.int xx), none] [.int (((tr 103 611 y l).2.1 102) b.toNatClampNeg)] (E x (tr 103 611 y l))
  rw [tr_A (by decide), hk]
  show PW _ _ _ 6 [some (.ref 70), some (.int b), some (.int xx), none] [.int 3] (E x (tr 103 611 y l))
  refine PW_iconst (v := 3) c_M_staying_6 (by decide) ?_
  refine PW_S0 (d2 := 0) (st := []) [.int 3, .int 3] c_M_staying_7 lk_M_staying_367 rfl rfl rfl (Nat.le_of_ble_eq_true rfl) (by first | decide | omega) (Nat.le_of_ble_eq_true rfl) ?_
  show PW _ _ _ 0 [some (.int 3), some (.int 3)] [] (E x (tr 103 611 y l))
  refine PW_iload_n c_M_isUnder_0 rfl ?_
  refine PW_if_eq c_M_isUnder_1 (fun h0 => absurd h0 (by decide)) (fun _ => ?_)
  refine PW_iload_n c_M_isUnder_4 rfl ?_
  refine PW_iload_n c_M_isUnder_5 rfl ?_
  refine PW_icmp_eq c_M_isUnder_6 (fun _ => ?_) (fun h1 => absurd (by decide) h1)
  refine PW_iconst (v := 1) c_M_isUnder_56 (by decide) ?_
  refine PW_goto c_M_isUnder_57 ?_
  refine PW_ireturn (ty := .boolean) c_M_isUnder_61 rfl (by decide +kernel) ?_
  show PW _ _ _ 10 [some (.ref 70), some (.int b), some (.int xx), none] [.int 1] (E x (tr 103 611 y l))
  refine PW_if_eq c_M_staying_10 (fun h2 => absurd h2 (by decide)) (fun _ => ?_)
  refine PW_aload_n c_M_staying_13 rfl ?_
  refine PW_bipush (v := 41) c_M_staying_14 (by decide) ?_
  refine PW_V0 (d2 := 0) (st := []) [.int 41] c_M_staying_16 lk_M_staying_361 (po_70 _ _) rfl rfl rfl (Nat.le_of_ble_eq_true rfl) (by first | decide | omega) (Nat.le_of_ble_eq_true rfl) ?_
  refine sp_ran (by (try simp only [List.length_cons]); omega) ?_
  show PW _ _ _ 19 [some (.ref 70), some (.int b), some (.int xx), none] [] (E x (tr 103 611 y (41 :: l)))
  refine PW_aload_n c_M_staying_19 rfl ?_
  refine PW_iload_n c_M_staying_20 rfl ?_
  refine PW_iload_n c_M_staying_21 rfl ?_
  refine PW_iconst (v := 1) c_M_staying_22 (by decide) ?_
  refine PW_iadd c_M_staying_23 ?_
  refine PW_V0 (d2 := 5) (st := []) [.int b, .int (xx + 1)] c_M_staying_24 lk_M_staying_379 (po_70 _ _) rfl rfl rfl (Nat.le_of_ble_eq_true rfl) (by first | decide | omega) (Nat.le_of_ble_eq_true rfl) ?_
  refine sp_M_joinedStays_3 K (by (try simp only [List.length_cons]); omega) ?_
  show PW _ _ _ 27 [some (.ref 70), some (.int b), some (.int xx), none] [.int (-(((xx + 1) + b) * 2))] (E x (tr 103 611 y (1 :: 10 :: 30 :: 41 :: l)))
  refine PW_ireturn (ty := .int) c_M_staying_27 rfl rfl ?_
  exact h
theorem sp_M_plainTurns_3 {z : ZS} {post : Option Value → List PE → Prop} {x y : XS} {l : List Int32} {b xx : Int32} (K : km y b 3) (hl : l.length + 1 ≤ 24) (h : post (some (.int (xx ^^^ b))) (E x (tr 103 611 y (11 :: l)))) : PW (1, 0, 0, z) m_M_plainTurns post 0 [some (.ref 70), some (.int b), some (.int xx)] [] (E x (tr 103 611 y l)) := by
  have hk := K.2
  refine PW_aload_n c_M_plainTurns_0 rfl ?_
  refine PW_bipush (v := 11) c_M_plainTurns_1 (by decide) ?_
  refine PW_V0 (d2 := 0) (st := []) [.int 11] c_M_plainTurns_3 lk_M_plainTurns_361 (po_70 _ _) rfl rfl rfl (Nat.le_of_ble_eq_true rfl) (by first | decide | omega) (Nat.le_of_ble_eq_true rfl) ?_
  refine sp_ran (by (try simp only [List.length_cons]); omega) ?_
  show PW _ _ _ 6 [some (.ref 70), some (.int b), some (.int xx)] [] (E x (tr 103 611 y (11 :: l)))
  refine PW_iload_n c_M_plainTurns_6 rfl ?_
  refine PW_iload_n c_M_plainTurns_7 rfl ?_
  refine PW_ixor c_M_plainTurns_8 ?_
  refine PW_ireturn (ty := .int) c_M_plainTurns_9 rfl rfl ?_
  exact h
theorem sp_M_againTurns_3 {z : ZS} {post : Option Value → List PE → Prop} {x y : XS} {l : List Int32} {b xx : Int32} (K : km y b 3) (hl : l.length + 2 ≤ 24) (h : post (some (.int ((xx ^^^ b) * 3))) (E x (tr 103 611 y (11 :: 40 :: l)))) : PW (2, 0, 0, z) m_M_againTurns post 0 [some (.ref 70), some (.int b), some (.int xx)] [] (E x (tr 103 611 y l)) := by
  have hk := K.2
  refine PW_aload_n c_M_againTurns_0 rfl ?_
  refine PW_bipush (v := 40) c_M_againTurns_1 (by decide) ?_
  refine PW_V0 (d2 := 0) (st := []) [.int 40] c_M_againTurns_3 lk_M_againTurns_361 (po_70 _ _) rfl rfl rfl (Nat.le_of_ble_eq_true rfl) (by first | decide | omega) (Nat.le_of_ble_eq_true rfl) ?_
  refine sp_ran (by (try simp only [List.length_cons]); omega) ?_
  show PW _ _ _ 6 [some (.ref 70), some (.int b), some (.int xx)] [] (E x (tr 103 611 y (40 :: l)))
  refine PW_aload_n c_M_againTurns_6 rfl ?_
  refine PW_iload_n c_M_againTurns_7 rfl ?_
  refine PW_iload_n c_M_againTurns_8 rfl ?_
  refine PW_V0 (d2 := 1) (st := []) [.int b, .int xx] c_M_againTurns_9 lk_M_againTurns_385 (po_70 _ _) rfl rfl rfl (Nat.le_of_ble_eq_true rfl) (by first | decide | omega) (Nat.le_of_ble_eq_true rfl) ?_
  refine sp_M_plainTurns_3 K (by (try simp only [List.length_cons]); omega) ?_
  show PW _ _ _ 12 [some (.ref 70), some (.int b), some (.int xx)] [.int (xx ^^^ b)] (E x (tr 103 611 y (11 :: 40 :: l)))
  refine PW_iconst (v := 3) c_M_againTurns_12 (by decide) ?_
  refine PW_imul c_M_againTurns_13 ?_
  refine PW_ireturn (ty := .int) c_M_againTurns_14 rfl rfl ?_
  exact h
theorem sp_M_turning_3 {z : ZS} {post : Option Value → List PE → Prop} {x y : XS} {l : List Int32} {b xx : Int32} (K : km y b 3) (hl : l.length + 2 ≤ 24) (h : post (some (.int ((xx ^^^ b) * 3))) (E x (tr 103 611 y (11 :: 40 :: l)))) : PW (4, 0, 0, z) m_M_turning post 0 [some (.ref 70), some (.int b), some (.int xx), none] [] (E x (tr 103 611 y l)) := by
  have hk := K.2
  refine PW_aload_n c_M_turning_0 rfl ?_
  refine PW_get (v := .ref 102) c_M_turning_1 fl_M_105 (gf_70_50 _ _) ?_
  refine PW_iload_n c_M_turning_4 rfl ?_
  refine PW_iald (j := b.toNatClampNeg) c_M_turning_5 (ar_102 _ _) (vp_in_iff.mpr K.1) rfl ?_
  show PW _ _ _ 6 [some (.ref 70), some (.int b), some (.int xx), none] [.int (((tr 103 611 y l).2.1 102) b.toNatClampNeg)] (E x (tr 103 611 y l))
  rw [tr_A (by decide), hk]
  show PW _ _ _ 6 [some (.ref 70), some (.int b), some (.int xx), none] [.int 3] (E x (tr 103 611 y l))
  refine PW_iconst (v := 5) c_M_turning_6 (by decide) ?_
  refine PW_icmp_ne c_M_turning_7 (fun _ => ?_) (fun h0 => absurd h0 (by decide))
  refine PW_aload_n c_M_turning_32 rfl ?_
  refine PW_get (v := .ref 102) c_M_turning_33 fl_M_105 (gf_70_50 _ _) ?_
  refine PW_iload_n c_M_turning_36 rfl ?_
  refine PW_iald (j := b.toNatClampNeg) c_M_turning_37 (ar_102 _ _) (vp_in_iff.mpr K.1) rfl ?_
  show PW _ _ _ 38 [some (.ref 70), some (.int b), some (.int xx), none] [.int (((tr 103 611 y l).2.1 102) b.toNatClampNeg)] (E x (tr 103 611 y l))
  rw [tr_A (by decide), hk]
  show PW _ _ _ 38 [some (.ref 70), some (.int b), some (.int xx), none] [.int 3] (E x (tr 103 611 y l))
  refine PW_iconst (v := 3) c_M_turning_38 (by decide) ?_
  refine PW_icmp_ne c_M_turning_39 (fun h1 => absurd (by decide) h1) (fun _ => ?_)
  refine PW_aload_n c_M_turning_42 rfl ?_
  refine PW_iload_n c_M_turning_43 rfl ?_
  refine PW_iload_n c_M_turning_44 rfl ?_
  refine PW_V0 (d2 := 2) (st := []) [.int b, .int xx] c_M_turning_45 lk_M_turning_388 (po_70 _ _) rfl rfl rfl (Nat.le_of_ble_eq_true rfl) (by first | decide | omega) (Nat.le_of_ble_eq_true rfl) ?_
  refine sp_M_againTurns_3 K (by (try simp only [List.length_cons]); omega) ?_
  show PW _ _ _ 48 [some (.ref 70), some (.int b), some (.int xx), none] [.int ((xx ^^^ b) * 3)] (E x (tr 103 611 y (11 :: 40 :: l)))
  refine PW_goto c_M_turning_48 ?_
  refine PW_ireturn (ty := .int) c_M_turning_57 rfl rfl ?_
  exact h
theorem sp_M_plainTells_3 {z : ZS} {post : Option Value → List PE → Prop} {x y : XS} {l : List Int32} {b xx : Int32} (K : km y b 3) (hl : l.length + 7 ≤ 24) (h : post (some (.int ((-(((xx + 1) + b) * 2)) - (((1 : Int32) ^^^ b) * 3)))) (E x (tr 103 611 y (11 :: 40 :: 1 :: 10 :: 30 :: 41 :: 2 :: l)))) : PW (7, 0, 0, z) m_M_plainTells post 0 [some (.ref 70), some (.int b), some (.int xx), none] [] (E x (tr 103 611 y l)) := by
  have hk := K.2
  refine PW_aload_n c_M_plainTells_0 rfl ?_
  refine PW_iconst (v := 2) c_M_plainTells_1 (by decide) ?_
  refine PW_V0 (d2 := 0) (st := []) [.int 2] c_M_plainTells_2 lk_M_plainTells_361 (po_70 _ _) rfl rfl rfl (Nat.le_of_ble_eq_true rfl) (by first | decide | omega) (Nat.le_of_ble_eq_true rfl) ?_
  refine sp_ran (by (try simp only [List.length_cons]); omega) ?_
  show PW _ _ _ 5 [some (.ref 70), some (.int b), some (.int xx), none] [] (E x (tr 103 611 y (2 :: l)))
  refine PW_aload_n c_M_plainTells_5 rfl ?_
  refine PW_iload_n c_M_plainTells_6 rfl ?_
  refine PW_iload_n c_M_plainTells_7 rfl ?_
  refine PW_V0 (d2 := 6) (st := []) [.int b, .int xx] c_M_plainTells_8 lk_M_plainTells_391 (po_70 _ _) rfl rfl rfl (Nat.le_of_ble_eq_true rfl) (by first | decide | omega) (Nat.le_of_ble_eq_true rfl) ?_
  refine sp_M_staying_3 K (by (try simp only [List.length_cons]); omega) ?_
  show PW _ _ _ 11 [some (.ref 70), some (.int b), some (.int xx), none] [.int (-(((xx + 1) + b) * 2))] (E x (tr 103 611 y (1 :: 10 :: 30 :: 41 :: 2 :: l)))
  refine PW_istore_n (i := 3) (L2 := [some (.ref 70), some (.int b), some (.int xx), some (.int (-(((xx + 1) + b) * 2)))]) c_M_plainTells_11 rfl (Nat.le_of_ble_eq_true rfl) rfl rfl ?_
  refine PW_iload_n c_M_plainTells_12 rfl ?_
  refine PW_aload_n c_M_plainTells_13 rfl ?_
  refine PW_iload_n c_M_plainTells_14 rfl ?_
  refine PW_iconst (v := 1) c_M_plainTells_15 (by decide) ?_
  refine PW_V0 (d2 := 4) (st := [.int (-(((xx + 1) + b) * 2))]) [.int b, .int 1] c_M_plainTells_16 lk_M_plainTells_382 (po_70 _ _) rfl rfl rfl (Nat.le_of_ble_eq_true rfl) (by first | decide | omega) (Nat.le_of_ble_eq_true rfl) ?_
  refine sp_M_turning_3 K (by (try simp only [List.length_cons]); omega) ?_
  show PW _ _ _ 19 [some (.ref 70), some (.int b), some (.int xx), some (.int (-(((xx + 1) + b) * 2)))] [.int (((1 : Int32) ^^^ b) * 3), .int (-(((xx + 1) + b) * 2))] (E x (tr 103 611 y (11 :: 40 :: 1 :: 10 :: 30 :: 41 :: 2 :: l)))
  refine PW_isub c_M_plainTells_19 ?_
  refine PW_ireturn (ty := .int) c_M_plainTells_20 rfl rfl ?_
  exact h
theorem sp_M_telling_3 {z : ZS} {post : Option Value → List PE → Prop} {x y : XS} {l : List Int32} {b xx : Int32} (K : km y b 3) (hl : l.length + 7 ≤ 24) (h : post (some (.int ((-(((xx + 1) + b) * 2)) - (((1 : Int32) ^^^ b) * 3)))) (E x (tr 103 611 y (11 :: 40 :: 1 :: 10 :: 30 :: 41 :: 2 :: l)))) : PW (8, 0, 0, z) m_M_telling post 0 [some (.ref 70), some (.int b), some (.int xx)] [] (E x (tr 103 611 y l)) := by
  have hk := K.2
  refine PW_aload_n c_M_telling_0 rfl ?_
  refine PW_get (v := .ref 102) c_M_telling_1 fl_M_105 (gf_70_50 _ _) ?_
  refine PW_iload_n c_M_telling_4 rfl ?_
  refine PW_iald (j := b.toNatClampNeg) c_M_telling_5 (ar_102 _ _) (vp_in_iff.mpr K.1) rfl ?_
  show PW _ _ _ 6 [some (.ref 70), some (.int b), some (.int xx)] [.int (((tr 103 611 y l).2.1 102) b.toNatClampNeg)] (E x (tr 103 611 y l))
  rw [tr_A (by decide), hk]
  show PW _ _ _ 6 [some (.ref 70), some (.int b), some (.int xx)] [.int 3] (E x (tr 103 611 y l))
  refine PW_iconst (v := 4) c_M_telling_6 (by decide) ?_
  refine PW_icmp_ne c_M_telling_7 (fun _ => ?_) (fun h0 => absurd h0 (by decide))
  refine PW_aload_n c_M_telling_25 rfl ?_
  refine PW_get (v := .ref 102) c_M_telling_26 fl_M_105 (gf_70_50 _ _) ?_
  refine PW_iload_n c_M_telling_29 rfl ?_
  refine PW_iald (j := b.toNatClampNeg) c_M_telling_30 (ar_102 _ _) (vp_in_iff.mpr K.1) rfl ?_
  show PW _ _ _ 31 [some (.ref 70), some (.int b), some (.int xx)] [.int (((tr 103 611 y l).2.1 102) b.toNatClampNeg)] (E x (tr 103 611 y l))
  rw [tr_A (by decide), hk]
  show PW _ _ _ 31 [some (.ref 70), some (.int b), some (.int xx)] [.int 3] (E x (tr 103 611 y l))
  refine PW_iconst (v := 5) c_M_telling_31 (by decide) ?_
  refine PW_icmp_ne c_M_telling_32 (fun _ => ?_) (fun h1 => absurd h1 (by decide))
  refine PW_aload_n c_M_telling_50 rfl ?_
  refine PW_iload_n c_M_telling_51 rfl ?_
  refine PW_iload_n c_M_telling_52 rfl ?_
  refine PW_V0 (d2 := 7) (st := []) [.int b, .int xx] c_M_telling_53 lk_M_telling_394 (po_70 _ _) rfl rfl rfl (Nat.le_of_ble_eq_true rfl) (by first | decide | omega) (Nat.le_of_ble_eq_true rfl) ?_
  refine sp_M_plainTells_3 K (by (try simp only [List.length_cons]); omega) ?_
  show PW _ _ _ 56 [some (.ref 70), some (.int b), some (.int xx)] [.int ((-(((xx + 1) + b) * 2)) - (((1 : Int32) ^^^ b) * 3))] (E x (tr 103 611 y (11 :: 40 :: 1 :: 10 :: 30 :: 41 :: 2 :: l)))
  refine PW_ireturn (ty := .int) c_M_telling_56 rfl rfl ?_
  exact h
theorem sp_M_plainSays_4 {z : ZS} {post : Option Value → List PE → Prop} {x y : XS} {l : List Int32} {b xx : Int32} (K : km y b 4) (hl : l.length + 1 ≤ 24) (h : post (some (.int (xx + b))) (E x (tr 103 611 y (1 :: l)))) : PW (1, 0, 0, z) m_M_plainSays post 0 [some (.ref 70), some (.int b), some (.int xx)] [] (E x (tr 103 611 y l)) := by
  have hk := K.2
  refine PW_aload_n c_M_plainSays_0 rfl ?_
  refine PW_iconst (v := 1) c_M_plainSays_1 (by decide) ?_
  refine PW_V0 (d2 := 0) (st := []) [.int 1] c_M_plainSays_2 lk_M_plainSays_361 (po_70 _ _) rfl rfl rfl (Nat.le_of_ble_eq_true rfl) (by first | decide | omega) (Nat.le_of_ble_eq_true rfl) ?_
  refine sp_ran (by (try simp only [List.length_cons]); omega) ?_
  show PW _ _ _ 5 [some (.ref 70), some (.int b), some (.int xx)] [] (E x (tr 103 611 y (1 :: l)))
  refine PW_iload_n c_M_plainSays_5 rfl ?_
  refine PW_iload_n c_M_plainSays_6 rfl ?_
  refine PW_iadd c_M_plainSays_7 ?_
  refine PW_ireturn (ty := .int) c_M_plainSays_8 rfl rfl ?_
  exact h
theorem sp_M_saying_4 {z : ZS} {post : Option Value → List PE → Prop} {x y : XS} {l : List Int32} {b xx : Int32} (K : km y b 4) (hl : l.length + 2 ≤ 24) (h : post (some (.int ((xx + b) + 3))) (E x (tr 103 611 y (1 :: 20 :: l)))) : PW (3, 0, 0, z) m_M_saying post 0 [some (.ref 70), some (.int b), some (.int xx)] [] (E x (tr 103 611 y l)) := by
  have hk := K.2
  refine PW_aload_n c_M_saying_0 rfl ?_
  refine PW_get (v := .ref 102) c_M_saying_1 fl_M_105 (gf_70_50 _ _) ?_
  refine PW_iload_n c_M_saying_4 rfl ?_
  refine PW_iald (j := b.toNatClampNeg) c_M_saying_5 (ar_102 _ _) (vp_in_iff.mpr K.1) rfl ?_
  show PW _ _ _ 6 [some (.ref 70), some (.int b), some (.int xx)] [.int (((tr 103 611 y l).2.1 102) b.toNatClampNeg)] (E x (tr 103 611 y l))
  rw [tr_A (by decide), hk]
  show PW _ _ _ 6 [some (.ref 70), some (.int b), some (.int xx)] [.int 4] (E x (tr 103 611 y l))
  refine PW_iconst (v := 1) c_M_saying_6 (by decide) ?_
  refine PW_S0 (d2 := 0) (st := []) [.int 4, .int 1] c_M_saying_7 lk_M_saying_367 rfl rfl rfl (Nat.le_of_ble_eq_true rfl) (by first | decide | omega) (Nat.le_of_ble_eq_true rfl) ?_
  show PW _ _ _ 0 [some (.int 4), some (.int 1)] [] (E x (tr 103 611 y l))
  refine PW_iload_n c_M_isUnder_0 rfl ?_
  refine PW_if_eq c_M_isUnder_1 (fun h0 => absurd h0 (by decide)) (fun _ => ?_)
  refine PW_iload_n c_M_isUnder_4 rfl ?_
  refine PW_iload_n c_M_isUnder_5 rfl ?_
  refine PW_icmp_eq c_M_isUnder_6 (fun h1 => absurd h1 (by decide)) (fun _ => ?_)
  refine PW_iload_n c_M_isUnder_9 rfl ?_
  refine PW_iconst (v := 1) c_M_isUnder_10 (by decide) ?_
  refine PW_icmp_ne c_M_isUnder_11 (fun h2 => absurd (by decide) h2) (fun _ => ?_)
  refine PW_iload_n c_M_isUnder_14 rfl ?_
  refine PW_iconst (v := 4) c_M_isUnder_15 (by decide) ?_
  refine PW_icmp_eq c_M_isUnder_16 (fun _ => ?_) (fun h3 => absurd (by decide) h3)
  refine PW_iconst (v := 1) c_M_isUnder_56 (by decide) ?_
  refine PW_goto c_M_isUnder_57 ?_
  refine PW_ireturn (ty := .boolean) c_M_isUnder_61 rfl (by decide +kernel) ?_
  show PW _ _ _ 10 [some (.ref 70), some (.int b), some (.int xx)] [.int 1] (E x (tr 103 611 y l))
  refine PW_if_eq c_M_saying_10 (fun h4 => absurd h4 (by decide)) (fun _ => ?_)
  refine PW_aload_n c_M_saying_13 rfl ?_
  refine PW_bipush (v := 20) c_M_saying_14 (by decide) ?_
  refine PW_V0 (d2 := 0) (st := []) [.int 20] c_M_saying_16 lk_M_saying_361 (po_70 _ _) rfl rfl rfl (Nat.le_of_ble_eq_true rfl) (by first | decide | omega) (Nat.le_of_ble_eq_true rfl) ?_
  refine sp_ran (by (try simp only [List.length_cons]); omega) ?_
  show PW _ _ _ 19 [some (.ref 70), some (.int b), some (.int xx)] [] (E x (tr 103 611 y (20 :: l)))
  refine PW_aload_n c_M_saying_19 rfl ?_
  refine PW_iload_n c_M_saying_20 rfl ?_
  refine PW_iload_n c_M_saying_21 rfl ?_
  refine PW_V0 (d2 := 1) (st := []) [.int b, .int xx] c_M_saying_22 lk_M_saying_364 (po_70 _ _) rfl rfl rfl (Nat.le_of_ble_eq_true rfl) (by first | decide | omega) (Nat.le_of_ble_eq_true rfl) ?_
  refine sp_M_plainSays_4 K (by (try simp only [List.length_cons]); omega) ?_
  show PW _ _ _ 25 [some (.ref 70), some (.int b), some (.int xx)] [.int (xx + b)] (E x (tr 103 611 y (1 :: 20 :: l)))
  refine PW_iconst (v := 3) c_M_saying_25 (by decide) ?_
  refine PW_iadd c_M_saying_26 ?_
  refine PW_ireturn (ty := .int) c_M_saying_27 rfl rfl ?_
  exact h
theorem sp_M_plainStays_4 {z : ZS} {post : Option Value → List PE → Prop} {x y : XS} {l : List Int32} {b xx : Int32} (K : km y b 4) (hl : l.length + 3 ≤ 24) (h : post (some (.int (((xx + b) + 3) * 2))) (E x (tr 103 611 y (1 :: 20 :: 10 :: l)))) : PW (4, 0, 0, z) m_M_plainStays post 0 [some (.ref 70), some (.int b), some (.int xx)] [] (E x (tr 103 611 y l)) := by
  have hk := K.2
  refine PW_aload_n c_M_plainStays_0 rfl ?_
  refine PW_bipush (v := 10) c_M_plainStays_1 (by decide) ?_
  refine PW_V0 (d2 := 0) (st := []) [.int 10] c_M_plainStays_3 lk_M_plainStays_361 (po_70 _ _) rfl rfl rfl (Nat.le_of_ble_eq_true rfl) (by first | decide | omega) (Nat.le_of_ble_eq_true rfl) ?_
  refine sp_ran (by (try simp only [List.length_cons]); omega) ?_
  show PW _ _ _ 6 [some (.ref 70), some (.int b), some (.int xx)] [] (E x (tr 103 611 y (10 :: l)))
  refine PW_aload_n c_M_plainStays_6 rfl ?_
  refine PW_iload_n c_M_plainStays_7 rfl ?_
  refine PW_iload_n c_M_plainStays_8 rfl ?_
  refine PW_V0 (d2 := 3) (st := []) [.int b, .int xx] c_M_plainStays_9 lk_M_plainStays_373 (po_70 _ _) rfl rfl rfl (Nat.le_of_ble_eq_true rfl) (by first | decide | omega) (Nat.le_of_ble_eq_true rfl) ?_
  refine sp_M_saying_4 K (by (try simp only [List.length_cons]); omega) ?_
  show PW _ _ _ 12 [some (.ref 70), some (.int b), some (.int xx)] [.int ((xx + b) + 3)] (E x (tr 103 611 y (1 :: 20 :: 10 :: l)))
  refine PW_iconst (v := 2) c_M_plainStays_12 (by decide) ?_
  refine PW_imul c_M_plainStays_13 ?_
  refine PW_ireturn (ty := .int) c_M_plainStays_14 rfl rfl ?_
  exact h
theorem sp_M_staying_4 {z : ZS} {post : Option Value → List PE → Prop} {x y : XS} {l : List Int32} {b xx : Int32} (K : km y b 4) (hl : l.length + 3 ≤ 24) (h : post (some (.int (((xx + b) + 3) * 2))) (E x (tr 103 611 y (1 :: 20 :: 10 :: l)))) : PW (6, 0, 0, z) m_M_staying post 0 [some (.ref 70), some (.int b), some (.int xx), none] [] (E x (tr 103 611 y l)) := by
  have hk := K.2
  refine PW_aload_n c_M_staying_0 rfl ?_
  refine PW_get (v := .ref 102) c_M_staying_1 fl_M_105 (gf_70_50 _ _) ?_
  refine PW_iload_n c_M_staying_4 rfl ?_
  refine PW_iald (j := b.toNatClampNeg) c_M_staying_5 (ar_102 _ _) (vp_in_iff.mpr K.1) rfl ?_
  show PW _ _ _ 6 [some (.ref 70), some (.int b), some (.int xx), none] [.int (((tr 103 611 y l).2.1 102) b.toNatClampNeg)] (E x (tr 103 611 y l))
  rw [tr_A (by decide), hk]
  show PW _ _ _ 6 [some (.ref 70), some (.int b), some (.int xx), none] [.int 4] (E x (tr 103 611 y l))
  refine PW_iconst (v := 3) c_M_staying_6 (by decide) ?_
  refine PW_S0 (d2 := 0) (st := []) [.int 4, .int 3] c_M_staying_7 lk_M_staying_367 rfl rfl rfl (Nat.le_of_ble_eq_true rfl) (by first | decide | omega) (Nat.le_of_ble_eq_true rfl) ?_
  show PW _ _ _ 0 [some (.int 4), some (.int 3)] [] (E x (tr 103 611 y l))
  refine PW_iload_n c_M_isUnder_0 rfl ?_
  refine PW_if_eq c_M_isUnder_1 (fun h0 => absurd h0 (by decide)) (fun _ => ?_)
  refine PW_iload_n c_M_isUnder_4 rfl ?_
  refine PW_iload_n c_M_isUnder_5 rfl ?_
  refine PW_icmp_eq c_M_isUnder_6 (fun h1 => absurd h1 (by decide)) (fun _ => ?_)
  refine PW_iload_n c_M_isUnder_9 rfl ?_
  refine PW_iconst (v := 1) c_M_isUnder_10 (by decide) ?_
  refine PW_icmp_ne c_M_isUnder_11 (fun _ => ?_) (fun h2 => absurd h2 (by decide))
  refine PW_iload_n c_M_isUnder_19 rfl ?_
  refine PW_iconst (v := 2) c_M_isUnder_20 (by decide) ?_
  refine PW_icmp_ne c_M_isUnder_21 (fun _ => ?_) (fun h3 => absurd h3 (by decide))
  refine PW_iload_n c_M_isUnder_34 rfl ?_
  refine PW_iconst (v := 3) c_M_isUnder_35 (by decide) ?_
  refine PW_icmp_ne c_M_isUnder_36 (fun h4 => absurd (by decide) h4) (fun _ => ?_)
  refine PW_iload_n c_M_isUnder_39 rfl ?_
  refine PW_iconst (v := 5) c_M_isUnder_40 (by decide) ?_
  refine PW_icmp_eq c_M_isUnder_41 (fun h5 => absurd h5 (by decide)) (fun _ => ?_)
  refine PW_iload_n c_M_isUnder_44 rfl ?_
  refine PW_bipush (v := 6) c_M_isUnder_45 (by decide) ?_
  refine PW_icmp_ne c_M_isUnder_47 (fun _ => ?_) (fun h6 => absurd h6 (by decide))
  refine PW_iconst (v := 0) c_M_isUnder_60 (by decide) ?_
  refine PW_ireturn (ty := .boolean) c_M_isUnder_61 rfl (by decide +kernel) ?_
  show PW _ _ _ 10 [some (.ref 70), some (.int b), some (.int xx), none] [.int 0] (E x (tr 103 611 y l))
  refine PW_if_eq c_M_staying_10 (fun _ => ?_) (fun h7 => absurd (by decide) h7)
  refine PW_aload_n c_M_staying_28 rfl ?_
  refine PW_get (v := .ref 102) c_M_staying_29 fl_M_105 (gf_70_50 _ _) ?_
  refine PW_iload_n c_M_staying_32 rfl ?_
  refine PW_iald (j := b.toNatClampNeg) c_M_staying_33 (ar_102 _ _) (vp_in_iff.mpr K.1) rfl ?_
  show PW _ _ _ 34 [some (.ref 70), some (.int b), some (.int xx), none] [.int (((tr 103 611 y l).2.1 102) b.toNatClampNeg)] (E x (tr 103 611 y l))
  rw [tr_A (by decide), hk]
  show PW _ _ _ 34 [some (.ref 70), some (.int b), some (.int xx), none] [.int 4] (E x (tr 103 611 y l))
  refine PW_bipush (v := 7) c_M_staying_34 (by decide) ?_
  refine PW_icmp_ne c_M_staying_36 (fun _ => ?_) (fun h8 => absurd h8 (by decide))
  refine PW_aload_n c_M_staying_61 rfl ?_
  refine PW_get (v := .ref 102) c_M_staying_62 fl_M_105 (gf_70_50 _ _) ?_
  refine PW_iload_n c_M_staying_65 rfl ?_
  refine PW_iald (j := b.toNatClampNeg) c_M_staying_66 (ar_102 _ _) (vp_in_iff.mpr K.1) rfl ?_
  show PW _ _ _ 67 [some (.ref 70), some (.int b), some (.int xx), none] [.int (((tr 103 611 y l).2.1 102) b.toNatClampNeg)] (E x (tr 103 611 y l))
  rw [tr_A (by decide), hk]
  show PW _ _ _ 67 [some (.ref 70), some (.int b), some (.int xx), none] [.int 4] (E x (tr 103 611 y l))
  refine PW_iconst (v := 2) c_M_staying_67 (by decide) ?_
  refine PW_icmp_ne c_M_staying_68 (fun _ => ?_) (fun h9 => absurd h9 (by decide))
  refine PW_aload_n c_M_staying_80 rfl ?_
  refine PW_iload_n c_M_staying_81 rfl ?_
  refine PW_iload_n c_M_staying_82 rfl ?_
  refine PW_V0 (d2 := 4) (st := []) [.int b, .int xx] c_M_staying_83 lk_M_staying_376 (po_70 _ _) rfl rfl rfl (Nat.le_of_ble_eq_true rfl) (by first | decide | omega) (Nat.le_of_ble_eq_true rfl) ?_
  refine sp_M_plainStays_4 K (by (try simp only [List.length_cons]); omega) ?_
  show PW _ _ _ 86 [some (.ref 70), some (.int b), some (.int xx), none] [.int (((xx + b) + 3) * 2)] (E x (tr 103 611 y (1 :: 20 :: 10 :: l)))
  refine PW_ireturn (ty := .int) c_M_staying_86 rfl rfl ?_
  exact h
theorem sp_M_plainTurns_4 {z : ZS} {post : Option Value → List PE → Prop} {x y : XS} {l : List Int32} {b xx : Int32} (K : km y b 4) (hl : l.length + 1 ≤ 24) (h : post (some (.int (xx ^^^ b))) (E x (tr 103 611 y (11 :: l)))) : PW (1, 0, 0, z) m_M_plainTurns post 0 [some (.ref 70), some (.int b), some (.int xx)] [] (E x (tr 103 611 y l)) := by
  have hk := K.2
  refine PW_aload_n c_M_plainTurns_0 rfl ?_
  refine PW_bipush (v := 11) c_M_plainTurns_1 (by decide) ?_
  refine PW_V0 (d2 := 0) (st := []) [.int 11] c_M_plainTurns_3 lk_M_plainTurns_361 (po_70 _ _) rfl rfl rfl (Nat.le_of_ble_eq_true rfl) (by first | decide | omega) (Nat.le_of_ble_eq_true rfl) ?_
  refine sp_ran (by (try simp only [List.length_cons]); omega) ?_
  show PW _ _ _ 6 [some (.ref 70), some (.int b), some (.int xx)] [] (E x (tr 103 611 y (11 :: l)))
  refine PW_iload_n c_M_plainTurns_6 rfl ?_
  refine PW_iload_n c_M_plainTurns_7 rfl ?_
  refine PW_ixor c_M_plainTurns_8 ?_
  refine PW_ireturn (ty := .int) c_M_plainTurns_9 rfl rfl ?_
  exact h
theorem sp_M_turning_4 {z : ZS} {post : Option Value → List PE → Prop} {x y : XS} {l : List Int32} {b xx : Int32} (K : km y b 4) (hl : l.length + 1 ≤ 24) (h : post (some (.int (xx ^^^ b))) (E x (tr 103 611 y (11 :: l)))) : PW (4, 0, 0, z) m_M_turning post 0 [some (.ref 70), some (.int b), some (.int xx), none] [] (E x (tr 103 611 y l)) := by
  have hk := K.2
  refine PW_aload_n c_M_turning_0 rfl ?_
  refine PW_get (v := .ref 102) c_M_turning_1 fl_M_105 (gf_70_50 _ _) ?_
  refine PW_iload_n c_M_turning_4 rfl ?_
  refine PW_iald (j := b.toNatClampNeg) c_M_turning_5 (ar_102 _ _) (vp_in_iff.mpr K.1) rfl ?_
  show PW _ _ _ 6 [some (.ref 70), some (.int b), some (.int xx), none] [.int (((tr 103 611 y l).2.1 102) b.toNatClampNeg)] (E x (tr 103 611 y l))
  rw [tr_A (by decide), hk]
  show PW _ _ _ 6 [some (.ref 70), some (.int b), some (.int xx), none] [.int 4] (E x (tr 103 611 y l))
  refine PW_iconst (v := 5) c_M_turning_6 (by decide) ?_
  refine PW_icmp_ne c_M_turning_7 (fun _ => ?_) (fun h0 => absurd h0 (by decide))
  refine PW_aload_n c_M_turning_32 rfl ?_
  refine PW_get (v := .ref 102) c_M_turning_33 fl_M_105 (gf_70_50 _ _) ?_
  refine PW_iload_n c_M_turning_36 rfl ?_
  refine PW_iald (j := b.toNatClampNeg) c_M_turning_37 (ar_102 _ _) (vp_in_iff.mpr K.1) rfl ?_
  show PW _ _ _ 38 [some (.ref 70), some (.int b), some (.int xx), none] [.int (((tr 103 611 y l).2.1 102) b.toNatClampNeg)] (E x (tr 103 611 y l))
  rw [tr_A (by decide), hk]
  show PW _ _ _ 38 [some (.ref 70), some (.int b), some (.int xx), none] [.int 4] (E x (tr 103 611 y l))
  refine PW_iconst (v := 3) c_M_turning_38 (by decide) ?_
  refine PW_icmp_ne c_M_turning_39 (fun _ => ?_) (fun h1 => absurd h1 (by decide))
  refine PW_aload_n c_M_turning_51 rfl ?_
  refine PW_iload_n c_M_turning_52 rfl ?_
  refine PW_iload_n c_M_turning_53 rfl ?_
  refine PW_V0 (d2 := 1) (st := []) [.int b, .int xx] c_M_turning_54 lk_M_turning_385 (po_70 _ _) rfl rfl rfl (Nat.le_of_ble_eq_true rfl) (by first | decide | omega) (Nat.le_of_ble_eq_true rfl) ?_
  refine sp_M_plainTurns_4 K (by (try simp only [List.length_cons]); omega) ?_
  show PW _ _ _ 57 [some (.ref 70), some (.int b), some (.int xx), none] [.int (xx ^^^ b)] (E x (tr 103 611 y (11 :: l)))
  refine PW_ireturn (ty := .int) c_M_turning_57 rfl rfl ?_
  exact h
theorem sp_M_plainTells_4 {z : ZS} {post : Option Value → List PE → Prop} {x y : XS} {l : List Int32} {b xx : Int32} (K : km y b 4) (hl : l.length + 5 ≤ 24) (h : post (some (.int ((((xx + b) + 3) * 2) - ((1 : Int32) ^^^ b)))) (E x (tr 103 611 y (11 :: 1 :: 20 :: 10 :: 2 :: l)))) : PW (7, 0, 0, z) m_M_plainTells post 0 [some (.ref 70), some (.int b), some (.int xx), none] [] (E x (tr 103 611 y l)) := by
  have hk := K.2
  refine PW_aload_n c_M_plainTells_0 rfl ?_
  refine PW_iconst (v := 2) c_M_plainTells_1 (by decide) ?_
  refine PW_V0 (d2 := 0) (st := []) [.int 2] c_M_plainTells_2 lk_M_plainTells_361 (po_70 _ _) rfl rfl rfl (Nat.le_of_ble_eq_true rfl) (by first | decide | omega) (Nat.le_of_ble_eq_true rfl) ?_
  refine sp_ran (by (try simp only [List.length_cons]); omega) ?_
  show PW _ _ _ 5 [some (.ref 70), some (.int b), some (.int xx), none] [] (E x (tr 103 611 y (2 :: l)))
  refine PW_aload_n c_M_plainTells_5 rfl ?_
  refine PW_iload_n c_M_plainTells_6 rfl ?_
  refine PW_iload_n c_M_plainTells_7 rfl ?_
  refine PW_V0 (d2 := 6) (st := []) [.int b, .int xx] c_M_plainTells_8 lk_M_plainTells_391 (po_70 _ _) rfl rfl rfl (Nat.le_of_ble_eq_true rfl) (by first | decide | omega) (Nat.le_of_ble_eq_true rfl) ?_
  refine sp_M_staying_4 K (by (try simp only [List.length_cons]); omega) ?_
  show PW _ _ _ 11 [some (.ref 70), some (.int b), some (.int xx), none] [.int (((xx + b) + 3) * 2)] (E x (tr 103 611 y (1 :: 20 :: 10 :: 2 :: l)))
  refine PW_istore_n (i := 3) (L2 := [some (.ref 70), some (.int b), some (.int xx), some (.int (((xx + b) + 3) * 2))]) c_M_plainTells_11 rfl (Nat.le_of_ble_eq_true rfl) rfl rfl ?_
  refine PW_iload_n c_M_plainTells_12 rfl ?_
  refine PW_aload_n c_M_plainTells_13 rfl ?_
  refine PW_iload_n c_M_plainTells_14 rfl ?_
  refine PW_iconst (v := 1) c_M_plainTells_15 (by decide) ?_
  refine PW_V0 (d2 := 4) (st := [.int (((xx + b) + 3) * 2)]) [.int b, .int 1] c_M_plainTells_16 lk_M_plainTells_382 (po_70 _ _) rfl rfl rfl (Nat.le_of_ble_eq_true rfl) (by first | decide | omega) (Nat.le_of_ble_eq_true rfl) ?_
  refine sp_M_turning_4 K (by (try simp only [List.length_cons]); omega) ?_
  show PW _ _ _ 19 [some (.ref 70), some (.int b), some (.int xx), some (.int (((xx + b) + 3) * 2))] [.int ((1 : Int32) ^^^ b), .int (((xx + b) + 3) * 2)] (E x (tr 103 611 y (11 :: 1 :: 20 :: 10 :: 2 :: l)))
  refine PW_isub c_M_plainTells_19 ?_
  refine PW_ireturn (ty := .int) c_M_plainTells_20 rfl rfl ?_
  exact h
theorem sp_M_telling_4 {z : ZS} {post : Option Value → List PE → Prop} {x y : XS} {l : List Int32} {b xx : Int32} (K : km y b 4) (hl : l.length + 6 ≤ 24) (h : post (some (.int (((((xx + b) + 3) * 2) - ((1 : Int32) ^^^ b)) ^^^ 5))) (E x (tr 103 611 y (11 :: 1 :: 20 :: 10 :: 2 :: 50 :: l)))) : PW (8, 0, 0, z) m_M_telling post 0 [some (.ref 70), some (.int b), some (.int xx)] [] (E x (tr 103 611 y l)) := by
  have hk := K.2
  refine PW_aload_n c_M_telling_0 rfl ?_
  refine PW_get (v := .ref 102) c_M_telling_1 fl_M_105 (gf_70_50 _ _) ?_
  refine PW_iload_n c_M_telling_4 rfl ?_
  refine PW_iald (j := b.toNatClampNeg) c_M_telling_5 (ar_102 _ _) (vp_in_iff.mpr K.1) rfl ?_
  show PW _ _ _ 6 [some (.ref 70), some (.int b), some (.int xx)] [.int (((tr 103 611 y l).2.1 102) b.toNatClampNeg)] (E x (tr 103 611 y l))
  rw [tr_A (by decide), hk]
  show PW _ _ _ 6 [some (.ref 70), some (.int b), some (.int xx)] [.int 4] (E x (tr 103 611 y l))
  refine PW_iconst (v := 4) c_M_telling_6 (by decide) ?_
  refine PW_icmp_ne c_M_telling_7 (fun h0 => absurd (by decide) h0) (fun _ => ?_)
  refine PW_aload_n c_M_telling_10 rfl ?_
  refine PW_bipush (v := 50) c_M_telling_11 (by decide) ?_
  refine PW_V0 (d2 := 0) (st := []) [.int 50] c_M_telling_13 lk_M_telling_361 (po_70 _ _) rfl rfl rfl (Nat.le_of_ble_eq_true rfl) (by first | decide | omega) (Nat.le_of_ble_eq_true rfl) ?_
  refine sp_ran (by (try simp only [List.length_cons]); omega) ?_
  show PW _ _ _ 16 [some (.ref 70), some (.int b), some (.int xx)] [] (E x (tr 103 611 y (50 :: l)))
  refine PW_aload_n c_M_telling_16 rfl ?_
  refine PW_iload_n c_M_telling_17 rfl ?_
  refine PW_iload_n c_M_telling_18 rfl ?_
  refine PW_V0 (d2 := 7) (st := []) [.int b, .int xx] c_M_telling_19 lk_M_telling_394 (po_70 _ _) rfl rfl rfl (Nat.le_of_ble_eq_true rfl) (by first | decide | omega) (Nat.le_of_ble_eq_true rfl) ?_
  refine sp_M_plainTells_4 K (by (try simp only [List.length_cons]); omega) ?_
  show PW _ _ _ 22 [some (.ref 70), some (.int b), some (.int xx)] [.int ((((xx + b) + 3) * 2) - ((1 : Int32) ^^^ b))] (E x (tr 103 611 y (11 :: 1 :: 20 :: 10 :: 2 :: 50 :: l)))
  refine PW_iconst (v := 5) c_M_telling_22 (by decide) ?_
  refine PW_ixor c_M_telling_23 ?_
  refine PW_ireturn (ty := .int) c_M_telling_24 rfl rfl ?_
  exact h
theorem sp_M_plainSays_5 {z : ZS} {post : Option Value → List PE → Prop} {x y : XS} {l : List Int32} {b xx : Int32} (K : km y b 5) (hl : l.length + 1 ≤ 24) (h : post (some (.int (xx + b))) (E x (tr 103 611 y (1 :: l)))) : PW (1, 0, 0, z) m_M_plainSays post 0 [some (.ref 70), some (.int b), some (.int xx)] [] (E x (tr 103 611 y l)) := by
  have hk := K.2
  refine PW_aload_n c_M_plainSays_0 rfl ?_
  refine PW_iconst (v := 1) c_M_plainSays_1 (by decide) ?_
  refine PW_V0 (d2 := 0) (st := []) [.int 1] c_M_plainSays_2 lk_M_plainSays_361 (po_70 _ _) rfl rfl rfl (Nat.le_of_ble_eq_true rfl) (by first | decide | omega) (Nat.le_of_ble_eq_true rfl) ?_
  refine sp_ran (by (try simp only [List.length_cons]); omega) ?_
  show PW _ _ _ 5 [some (.ref 70), some (.int b), some (.int xx)] [] (E x (tr 103 611 y (1 :: l)))
  refine PW_iload_n c_M_plainSays_5 rfl ?_
  refine PW_iload_n c_M_plainSays_6 rfl ?_
  refine PW_iadd c_M_plainSays_7 ?_
  refine PW_ireturn (ty := .int) c_M_plainSays_8 rfl rfl ?_
  exact h
theorem sp_M_saying_5 {z : ZS} {post : Option Value → List PE → Prop} {x y : XS} {l : List Int32} {b xx : Int32} (K : km y b 5) (hl : l.length + 1 ≤ 24) (h : post (some (.int (xx + b))) (E x (tr 103 611 y (1 :: l)))) : PW (3, 0, 0, z) m_M_saying post 0 [some (.ref 70), some (.int b), some (.int xx)] [] (E x (tr 103 611 y l)) := by
  have hk := K.2
  refine PW_aload_n c_M_saying_0 rfl ?_
  refine PW_get (v := .ref 102) c_M_saying_1 fl_M_105 (gf_70_50 _ _) ?_
  refine PW_iload_n c_M_saying_4 rfl ?_
  refine PW_iald (j := b.toNatClampNeg) c_M_saying_5 (ar_102 _ _) (vp_in_iff.mpr K.1) rfl ?_
  show PW _ _ _ 6 [some (.ref 70), some (.int b), some (.int xx)] [.int (((tr 103 611 y l).2.1 102) b.toNatClampNeg)] (E x (tr 103 611 y l))
  rw [tr_A (by decide), hk]
  show PW _ _ _ 6 [some (.ref 70), some (.int b), some (.int xx)] [.int 5] (E x (tr 103 611 y l))
  refine PW_iconst (v := 1) c_M_saying_6 (by decide) ?_
  refine PW_S0 (d2 := 0) (st := []) [.int 5, .int 1] c_M_saying_7 lk_M_saying_367 rfl rfl rfl (Nat.le_of_ble_eq_true rfl) (by first | decide | omega) (Nat.le_of_ble_eq_true rfl) ?_
  show PW _ _ _ 0 [some (.int 5), some (.int 1)] [] (E x (tr 103 611 y l))
  refine PW_iload_n c_M_isUnder_0 rfl ?_
  refine PW_if_eq c_M_isUnder_1 (fun h0 => absurd h0 (by decide)) (fun _ => ?_)
  refine PW_iload_n c_M_isUnder_4 rfl ?_
  refine PW_iload_n c_M_isUnder_5 rfl ?_
  refine PW_icmp_eq c_M_isUnder_6 (fun h1 => absurd h1 (by decide)) (fun _ => ?_)
  refine PW_iload_n c_M_isUnder_9 rfl ?_
  refine PW_iconst (v := 1) c_M_isUnder_10 (by decide) ?_
  refine PW_icmp_ne c_M_isUnder_11 (fun h2 => absurd (by decide) h2) (fun _ => ?_)
  refine PW_iload_n c_M_isUnder_14 rfl ?_
  refine PW_iconst (v := 4) c_M_isUnder_15 (by decide) ?_
  refine PW_icmp_eq c_M_isUnder_16 (fun h3 => absurd h3 (by decide)) (fun _ => ?_)
  refine PW_iload_n c_M_isUnder_19 rfl ?_
  refine PW_iconst (v := 2) c_M_isUnder_20 (by decide) ?_
  refine PW_icmp_ne c_M_isUnder_21 (fun _ => ?_) (fun h4 => absurd h4 (by decide))
  refine PW_iload_n c_M_isUnder_34 rfl ?_
  refine PW_iconst (v := 3) c_M_isUnder_35 (by decide) ?_
  refine PW_icmp_ne c_M_isUnder_36 (fun _ => ?_) (fun h5 => absurd h5 (by decide))
  refine PW_iload_n c_M_isUnder_44 rfl ?_
  refine PW_bipush (v := 6) c_M_isUnder_45 (by decide) ?_
  refine PW_icmp_ne c_M_isUnder_47 (fun _ => ?_) (fun h6 => absurd h6 (by decide))
  refine PW_iconst (v := 0) c_M_isUnder_60 (by decide) ?_
  refine PW_ireturn (ty := .boolean) c_M_isUnder_61 rfl (by decide +kernel) ?_
  show PW _ _ _ 10 [some (.ref 70), some (.int b), some (.int xx)] [.int 0] (E x (tr 103 611 y l))
  refine PW_if_eq c_M_saying_10 (fun _ => ?_) (fun h7 => absurd (by decide) h7)
  refine PW_aload_n c_M_saying_28 rfl ?_
  refine PW_get (v := .ref 102) c_M_saying_29 fl_M_105 (gf_70_50 _ _) ?_
  refine PW_iload_n c_M_saying_32 rfl ?_
  refine PW_iald (j := b.toNatClampNeg) c_M_saying_33 (ar_102 _ _) (vp_in_iff.mpr K.1) rfl ?_
  show PW _ _ _ 34 [some (.ref 70), some (.int b), some (.int xx)] [.int (((tr 103 611 y l).2.1 102) b.toNatClampNeg)] (E x (tr 103 611 y l))
  rw [tr_A (by decide), hk]
  show PW _ _ _ 34 [some (.ref 70), some (.int b), some (.int xx)] [.int 5] (E x (tr 103 611 y l))
  refine PW_bipush (v := 7) c_M_saying_34 (by decide) ?_
  refine PW_icmp_ne c_M_saying_36 (fun _ => ?_) (fun h8 => absurd h8 (by decide))
  refine PW_aload_n c_M_saying_54 rfl ?_
  refine PW_get (v := .ref 102) c_M_saying_55 fl_M_105 (gf_70_50 _ _) ?_
  refine PW_iload_n c_M_saying_58 rfl ?_
  refine PW_iald (j := b.toNatClampNeg) c_M_saying_59 (ar_102 _ _) (vp_in_iff.mpr K.1) rfl ?_
  show PW _ _ _ 60 [some (.ref 70), some (.int b), some (.int xx)] [.int (((tr 103 611 y l).2.1 102) b.toNatClampNeg)] (E x (tr 103 611 y l))
  rw [tr_A (by decide), hk]
  show PW _ _ _ 60 [some (.ref 70), some (.int b), some (.int xx)] [.int 5] (E x (tr 103 611 y l))
  refine PW_bipush (v := 6) c_M_saying_60 (by decide) ?_
  refine PW_icmp_ne c_M_saying_62 (fun _ => ?_) (fun h9 => absurd h9 (by decide))
  refine PW_aload_n c_M_saying_74 rfl ?_
  refine PW_iload_n c_M_saying_75 rfl ?_
  refine PW_iload_n c_M_saying_76 rfl ?_
  refine PW_V0 (d2 := 1) (st := []) [.int b, .int xx] c_M_saying_77 lk_M_saying_364 (po_70 _ _) rfl rfl rfl (Nat.le_of_ble_eq_true rfl) (by first | decide | omega) (Nat.le_of_ble_eq_true rfl) ?_
  refine sp_M_plainSays_5 K (by (try simp only [List.length_cons]); omega) ?_
  show PW _ _ _ 80 [some (.ref 70), some (.int b), some (.int xx)] [.int (xx + b)] (E x (tr 103 611 y (1 :: l)))
  refine PW_ireturn (ty := .int) c_M_saying_80 rfl rfl ?_
  exact h
theorem sp_M_plainStays_5 {z : ZS} {post : Option Value → List PE → Prop} {x y : XS} {l : List Int32} {b xx : Int32} (K : km y b 5) (hl : l.length + 2 ≤ 24) (h : post (some (.int ((xx + b) * 2))) (E x (tr 103 611 y (1 :: 10 :: l)))) : PW (4, 0, 0, z) m_M_plainStays post 0 [some (.ref 70), some (.int b), some (.int xx)] [] (E x (tr 103 611 y l)) := by
  have hk := K.2
  refine PW_aload_n c_M_plainStays_0 rfl ?_
  refine PW_bipush (v := 10) c_M_plainStays_1 (by decide) ?_
  refine PW_V0 (d2 := 0) (st := []) [.int 10] c_M_plainStays_3 lk_M_plainStays_361 (po_70 _ _) rfl rfl rfl (Nat.le_of_ble_eq_true rfl) (by first | decide | omega) (Nat.le_of_ble_eq_true rfl) ?_
  refine sp_ran (by (try simp only [List.length_cons]); omega) ?_
  show PW _ _ _ 6 [some (.ref 70), some (.int b), some (.int xx)] [] (E x (tr 103 611 y (10 :: l)))
  refine PW_aload_n c_M_plainStays_6 rfl ?_
  refine PW_iload_n c_M_plainStays_7 rfl ?_
  refine PW_iload_n c_M_plainStays_8 rfl ?_
  refine PW_V0 (d2 := 3) (st := []) [.int b, .int xx] c_M_plainStays_9 lk_M_plainStays_373 (po_70 _ _) rfl rfl rfl (Nat.le_of_ble_eq_true rfl) (by first | decide | omega) (Nat.le_of_ble_eq_true rfl) ?_
  refine sp_M_saying_5 K (by (try simp only [List.length_cons]); omega) ?_
  show PW _ _ _ 12 [some (.ref 70), some (.int b), some (.int xx)] [.int (xx + b)] (E x (tr 103 611 y (1 :: 10 :: l)))
  refine PW_iconst (v := 2) c_M_plainStays_12 (by decide) ?_
  refine PW_imul c_M_plainStays_13 ?_
  refine PW_ireturn (ty := .int) c_M_plainStays_14 rfl rfl ?_
  exact h
theorem sp_M_joinedStays_5 {z : ZS} {post : Option Value → List PE → Prop} {x y : XS} {l : List Int32} {b xx : Int32} (K : km y b 5) (hl : l.length + 3 ≤ 24) (h : post (some (.int (-((xx + b) * 2)))) (E x (tr 103 611 y (1 :: 10 :: 30 :: l)))) : PW (5, 0, 0, z) m_M_joinedStays post 0 [some (.ref 70), some (.int b), some (.int xx)] [] (E x (tr 103 611 y l)) := by
  have hk := K.2
  refine PW_aload_n c_M_joinedStays_0 rfl ?_
  refine PW_bipush (v := 30) c_M_joinedStays_1 (by decide) ?_
  refine PW_V0 (d2 := 0) (st := []) [.int 30] c_M_joinedStays_3 lk_M_joinedStays_361 (po_70 _ _) rfl rfl rfl (Nat.le_of_ble_eq_true rfl) (by first | decide | omega) (Nat.le_of_ble_eq_true rfl) ?_
  refine sp_ran (by (try simp only [List.length_cons]); omega) ?_
  show PW _ _ _ 6 [some (.ref 70), some (.int b), some (.int xx)] [] (E x (tr 103 611 y (30 :: l)))
  refine PW_aload_n c_M_joinedStays_6 rfl ?_
  refine PW_iload_n c_M_joinedStays_7 rfl ?_
  refine PW_iload_n c_M_joinedStays_8 rfl ?_
  refine PW_V0 (d2 := 4) (st := []) [.int b, .int xx] c_M_joinedStays_9 lk_M_joinedStays_376 (po_70 _ _) rfl rfl rfl (Nat.le_of_ble_eq_true rfl) (by first | decide | omega) (Nat.le_of_ble_eq_true rfl) ?_
  refine sp_M_plainStays_5 K (by (try simp only [List.length_cons]); omega) ?_
  show PW _ _ _ 12 [some (.ref 70), some (.int b), some (.int xx)] [.int ((xx + b) * 2)] (E x (tr 103 611 y (1 :: 10 :: 30 :: l)))
  refine PW_ineg c_M_joinedStays_12 ?_
  refine PW_ireturn (ty := .int) c_M_joinedStays_13 rfl rfl ?_
  exact h
theorem sp_M_staying_5 {z : ZS} {post : Option Value → List PE → Prop} {x y : XS} {l : List Int32} {b xx : Int32} (K : km y b 5) (hl : l.length + 4 ≤ 24) (h : post (some (.int (-(((xx + 1) + b) * 2)))) (E x (tr 103 611 y (1 :: 10 :: 30 :: 41 :: l)))) : PW (6, 0, 0, z) m_M_staying post 0 [some (.ref 70), some (.int b), some (.int xx), none] [] (E x (tr 103 611 y l)) := by
  have hk := K.2
  refine PW_aload_n c_M_staying_0 rfl ?_
  refine PW_get (v := .ref 102) c_M_staying_1 fl_M_105 (gf_70_50 _ _) ?_
  refine PW_iload_n c_M_staying_4 rfl ?_
  refine PW_iald (j := b.toNatClampNeg) c_M_staying_5 (ar_102 _ _) (vp_in_iff.mpr K.1) rfl ?_
  show PW _ _ _ 6 [some (.ref 70), some (.int b), some (.int xx), none] [.int (((tr 103 611 y l).2.1 102) b.toNatClampNeg)] (E x (tr 103 611 y l))
  rw [tr_A (by decide), hk]
  show PW _ _ _ 6 [some (.ref 70), some (.int b), some (.int xx), none] [.int 5] (E x (tr 103 611 y l))
  refine PW_iconst (v := 3) c_M_staying_6 (by decide) ?_
  refine PW_S0 (d2 := 0) (st := []) [.int 5, .int 3] c_M_staying_7 lk_M_staying_367 rfl rfl rfl (Nat.le_of_ble_eq_true rfl) (by first | decide | omega) (Nat.le_of_ble_eq_true rfl) ?_
  show PW _ _ _ 0 [some (.int 5), some (.int 3)] [] (E x (tr 103 611 y l))
  refine PW_iload_n c_M_isUnder_0 rfl ?_
  refine PW_if_eq c_M_isUnder_1 (fun h0 => absurd h0 (by decide)) (fun _ => ?_)
  refine PW_iload_n c_M_isUnder_4 rfl ?_
  refine PW_iload_n c_M_isUnder_5 rfl ?_
  refine PW_icmp_eq c_M_isUnder_6 (fun h1 => absurd h1 (by decide)) (fun _ => ?_)
  refine PW_iload_n c_M_isUnder_9 rfl ?_
  refine PW_iconst (v := 1) c_M_isUnder_10 (by decide) ?_
  refine PW_icmp_ne c_M_isUnder_11 (fun _ => ?_) (fun h2 => absurd h2 (by decide))
  refine PW_iload_n c_M_isUnder_19 rfl ?_
  refine PW_iconst (v := 2) c_M_isUnder_20 (by decide) ?_
  refine PW_icmp_ne c_M_isUnder_21 (fun _ => ?_) (fun h3 => absurd h3 (by decide))
  refine PW_iload_n c_M_isUnder_34 rfl ?_
  refine PW_iconst (v := 3) c_M_isUnder_35 (by decide) ?_
  refine PW_icmp_ne c_M_isUnder_36 (fun h4 => absurd (by decide) h4) (fun _ => ?_)
  refine PW_iload_n c_M_isUnder_39 rfl ?_
  refine PW_iconst (v := 5) c_M_isUnder_40 (by decide) ?_
  refine PW_icmp_eq c_M_isUnder_41 (fun _ => ?_) (fun h5 => absurd (by decide) h5)
  refine PW_iconst (v := 1) c_M_isUnder_56 (by decide) ?_
  refine PW_goto c_M_isUnder_57 ?_
  refine PW_ireturn (ty := .boolean) c_M_isUnder_61 rfl (by decide +kernel) ?_
  show PW _ _ _ 10 [some (.ref 70), some (.int b), some (.int xx), none] [.int 1] (E x (tr 103 611 y l))
  refine PW_if_eq c_M_staying_10 (fun h6 => absurd h6 (by decide)) (fun _ => ?_)
  refine PW_aload_n c_M_staying_13 rfl ?_
  refine PW_bipush (v := 41) c_M_staying_14 (by decide) ?_
  refine PW_V0 (d2 := 0) (st := []) [.int 41] c_M_staying_16 lk_M_staying_361 (po_70 _ _) rfl rfl rfl (Nat.le_of_ble_eq_true rfl) (by first | decide | omega) (Nat.le_of_ble_eq_true rfl) ?_
  refine sp_ran (by (try simp only [List.length_cons]); omega) ?_
  show PW _ _ _ 19 [some (.ref 70), some (.int b), some (.int xx), none] [] (E x (tr 103 611 y (41 :: l)))
  refine PW_aload_n c_M_staying_19 rfl ?_
  refine PW_iload_n c_M_staying_20 rfl ?_
  refine PW_iload_n c_M_staying_21 rfl ?_
  refine PW_iconst (v := 1) c_M_staying_22 (by decide) ?_
  refine PW_iadd c_M_staying_23 ?_
  refine PW_V0 (d2 := 5) (st := []) [.int b, .int (xx + 1)] c_M_staying_24 lk_M_staying_379 (po_70 _ _) rfl rfl rfl (Nat.le_of_ble_eq_true rfl) (by first | decide | omega) (Nat.le_of_ble_eq_true rfl) ?_
  refine sp_M_joinedStays_5 K (by (try simp only [List.length_cons]); omega) ?_
  show PW _ _ _ 27 [some (.ref 70), some (.int b), some (.int xx), none] [.int (-(((xx + 1) + b) * 2))] (E x (tr 103 611 y (1 :: 10 :: 30 :: 41 :: l)))
  refine PW_ireturn (ty := .int) c_M_staying_27 rfl rfl ?_
  exact h
theorem sp_M_plainTurns_5 {z : ZS} {post : Option Value → List PE → Prop} {x y : XS} {l : List Int32} {b xx : Int32} (K : km y b 5) (hl : l.length + 1 ≤ 24) (h : post (some (.int (xx ^^^ b))) (E x (tr 103 611 y (11 :: l)))) : PW (1, 0, 0, z) m_M_plainTurns post 0 [some (.ref 70), some (.int b), some (.int xx)] [] (E x (tr 103 611 y l)) := by
  have hk := K.2
  refine PW_aload_n c_M_plainTurns_0 rfl ?_
  refine PW_bipush (v := 11) c_M_plainTurns_1 (by decide) ?_
  refine PW_V0 (d2 := 0) (st := []) [.int 11] c_M_plainTurns_3 lk_M_plainTurns_361 (po_70 _ _) rfl rfl rfl (Nat.le_of_ble_eq_true rfl) (by first | decide | omega) (Nat.le_of_ble_eq_true rfl) ?_
  refine sp_ran (by (try simp only [List.length_cons]); omega) ?_
  show PW _ _ _ 6 [some (.ref 70), some (.int b), some (.int xx)] [] (E x (tr 103 611 y (11 :: l)))
  refine PW_iload_n c_M_plainTurns_6 rfl ?_
  refine PW_iload_n c_M_plainTurns_7 rfl ?_
  refine PW_ixor c_M_plainTurns_8 ?_
  refine PW_ireturn (ty := .int) c_M_plainTurns_9 rfl rfl ?_
  exact h
theorem sp_M_againTurns_5 {z : ZS} {post : Option Value → List PE → Prop} {x y : XS} {l : List Int32} {b xx : Int32} (K : km y b 5) (hl : l.length + 2 ≤ 24) (h : post (some (.int ((xx ^^^ b) * 3))) (E x (tr 103 611 y (11 :: 40 :: l)))) : PW (2, 0, 0, z) m_M_againTurns post 0 [some (.ref 70), some (.int b), some (.int xx)] [] (E x (tr 103 611 y l)) := by
  have hk := K.2
  refine PW_aload_n c_M_againTurns_0 rfl ?_
  refine PW_bipush (v := 40) c_M_againTurns_1 (by decide) ?_
  refine PW_V0 (d2 := 0) (st := []) [.int 40] c_M_againTurns_3 lk_M_againTurns_361 (po_70 _ _) rfl rfl rfl (Nat.le_of_ble_eq_true rfl) (by first | decide | omega) (Nat.le_of_ble_eq_true rfl) ?_
  refine sp_ran (by (try simp only [List.length_cons]); omega) ?_
  show PW _ _ _ 6 [some (.ref 70), some (.int b), some (.int xx)] [] (E x (tr 103 611 y (40 :: l)))
  refine PW_aload_n c_M_againTurns_6 rfl ?_
  refine PW_iload_n c_M_againTurns_7 rfl ?_
  refine PW_iload_n c_M_againTurns_8 rfl ?_
  refine PW_V0 (d2 := 1) (st := []) [.int b, .int xx] c_M_againTurns_9 lk_M_againTurns_385 (po_70 _ _) rfl rfl rfl (Nat.le_of_ble_eq_true rfl) (by first | decide | omega) (Nat.le_of_ble_eq_true rfl) ?_
  refine sp_M_plainTurns_5 K (by (try simp only [List.length_cons]); omega) ?_
  show PW _ _ _ 12 [some (.ref 70), some (.int b), some (.int xx)] [.int (xx ^^^ b)] (E x (tr 103 611 y (11 :: 40 :: l)))
  refine PW_iconst (v := 3) c_M_againTurns_12 (by decide) ?_
  refine PW_imul c_M_againTurns_13 ?_
  refine PW_ireturn (ty := .int) c_M_againTurns_14 rfl rfl ?_
  exact h
theorem sp_M_turning_5 {z : ZS} {post : Option Value → List PE → Prop} {x y : XS} {l : List Int32} {b xx : Int32} (K : km y b 5) (hl : l.length + 4 ≤ 24) (h : post (some (.int (((xx ^^^ b) * 3) - ((2 : Int32) + b)))) (E x (tr 103 611 y (1 :: 11 :: 40 :: 60 :: l)))) : PW (4, 0, 0, z) m_M_turning post 0 [some (.ref 70), some (.int b), some (.int xx), none] [] (E x (tr 103 611 y l)) := by
  have hk := K.2
  refine PW_aload_n c_M_turning_0 rfl ?_
  refine PW_get (v := .ref 102) c_M_turning_1 fl_M_105 (gf_70_50 _ _) ?_
  refine PW_iload_n c_M_turning_4 rfl ?_
  refine PW_iald (j := b.toNatClampNeg) c_M_turning_5 (ar_102 _ _) (vp_in_iff.mpr K.1) rfl ?_
  show PW _ _ _ 6 [some (.ref 70), some (.int b), some (.int xx), none] [.int (((tr 103 611 y l).2.1 102) b.toNatClampNeg)] (E x (tr 103 611 y l))
  rw [tr_A (by decide), hk]
  show PW _ _ _ 6 [some (.ref 70), some (.int b), some (.int xx), none] [.int 5] (E x (tr 103 611 y l))
  refine PW_iconst (v := 5) c_M_turning_6 (by decide) ?_
  refine PW_icmp_ne c_M_turning_7 (fun h0 => absurd (by decide) h0) (fun _ => ?_)
  refine PW_aload_n c_M_turning_10 rfl ?_
  refine PW_bipush (v := 60) c_M_turning_11 (by decide) ?_
  refine PW_V0 (d2 := 0) (st := []) [.int 60] c_M_turning_13 lk_M_turning_361 (po_70 _ _) rfl rfl rfl (Nat.le_of_ble_eq_true rfl) (by first | decide | omega) (Nat.le_of_ble_eq_true rfl) ?_
  refine sp_ran (by (try simp only [List.length_cons]); omega) ?_
  show PW _ _ _ 16 [some (.ref 70), some (.int b), some (.int xx), none] [] (E x (tr 103 611 y (60 :: l)))
  refine PW_aload_n c_M_turning_16 rfl ?_
  refine PW_iload_n c_M_turning_17 rfl ?_
  refine PW_iload_n c_M_turning_18 rfl ?_
  refine PW_V0 (d2 := 2) (st := []) [.int b, .int xx] c_M_turning_19 lk_M_turning_388 (po_70 _ _) rfl rfl rfl (Nat.le_of_ble_eq_true rfl) (by first | decide | omega) (Nat.le_of_ble_eq_true rfl) ?_
  refine sp_M_againTurns_5 K (by (try simp only [List.length_cons]); omega) ?_
  show PW _ _ _ 22 [some (.ref 70), some (.int b), some (.int xx), none] [.int ((xx ^^^ b) * 3)] (E x (tr 103 611 y (11 :: 40 :: 60 :: l)))
  refine PW_istore_n (i := 3) (L2 := [some (.ref 70), some (.int b), some (.int xx), some (.int ((xx ^^^ b) * 3))]) c_M_turning_22 rfl (Nat.le_of_ble_eq_true rfl) rfl rfl ?_
  refine PW_iload_n c_M_turning_23 rfl ?_
  refine PW_aload_n c_M_turning_24 rfl ?_
  refine PW_iload_n c_M_turning_25 rfl ?_
  refine PW_iconst (v := 2) c_M_turning_26 (by decide) ?_
  refine PW_V0 (d2 := 3) (st := [.int ((xx ^^^ b) * 3)]) [.int b, .int 2] c_M_turning_27 lk_M_turning_373 (po_70 _ _) rfl rfl rfl (Nat.le_of_ble_eq_true rfl) (by first | decide | omega) (Nat.le_of_ble_eq_true rfl) ?_
  refine sp_M_saying_5 K (by (try simp only [List.length_cons]); omega) ?_
  show PW _ _ _ 30 [some (.ref 70), some (.int b), some (.int xx), some (.int ((xx ^^^ b) * 3))] [.int ((2 : Int32) + b), .int ((xx ^^^ b) * 3)] (E x (tr 103 611 y (1 :: 11 :: 40 :: 60 :: l)))
  refine PW_isub c_M_turning_30 ?_
  refine PW_ireturn (ty := .int) c_M_turning_31 rfl rfl ?_
  exact h
theorem sp_M_plainTells_5 {z : ZS} {post : Option Value → List PE → Prop} {x y : XS} {l : List Int32} {b xx : Int32} (K : km y b 5) (hl : l.length + 9 ≤ 24) (h : post (some (.int ((-(((xx + 1) + b) * 2)) - ((((1 : Int32) ^^^ b) * 3) - ((2 : Int32) + b))))) (E x (tr 103 611 y (1 :: 11 :: 40 :: 60 :: 1 :: 10 :: 30 :: 41 :: 2 :: l)))) : PW (7, 0, 0, z) m_M_plainTells post 0 [some (.ref 70), some (.int b), some (.int xx), none] [] (E x (tr 103 611 y l)) := by
  have hk := K.2
  refine PW_aload_n c_M_plainTells_0 rfl ?_
  refine PW_iconst (v := 2) c_M_plainTells_1 (by decide) ?_
  refine PW_V0 (d2 := 0) (st := []) [.int 2] c_M_plainTells_2 lk_M_plainTells_361 (po_70 _ _) rfl rfl rfl (Nat.le_of_ble_eq_true rfl) (by first | decide | omega) (Nat.le_of_ble_eq_true rfl) ?_
  refine sp_ran (by (try simp only [List.length_cons]); omega) ?_
  show PW _ _ _ 5 [some (.ref 70), some (.int b), some (.int xx), none] [] (E x (tr 103 611 y (2 :: l)))
  refine PW_aload_n c_M_plainTells_5 rfl ?_
  refine PW_iload_n c_M_plainTells_6 rfl ?_
  refine PW_iload_n c_M_plainTells_7 rfl ?_
  refine PW_V0 (d2 := 6) (st := []) [.int b, .int xx] c_M_plainTells_8 lk_M_plainTells_391 (po_70 _ _) rfl rfl rfl (Nat.le_of_ble_eq_true rfl) (by first | decide | omega) (Nat.le_of_ble_eq_true rfl) ?_
  refine sp_M_staying_5 K (by (try simp only [List.length_cons]); omega) ?_
  show PW _ _ _ 11 [some (.ref 70), some (.int b), some (.int xx), none] [.int (-(((xx + 1) + b) * 2))] (E x (tr 103 611 y (1 :: 10 :: 30 :: 41 :: 2 :: l)))
  refine PW_istore_n (i := 3) (L2 := [some (.ref 70), some (.int b), some (.int xx), some (.int (-(((xx + 1) + b) * 2)))]) c_M_plainTells_11 rfl (Nat.le_of_ble_eq_true rfl) rfl rfl ?_
  refine PW_iload_n c_M_plainTells_12 rfl ?_
  refine PW_aload_n c_M_plainTells_13 rfl ?_
  refine PW_iload_n c_M_plainTells_14 rfl ?_
  refine PW_iconst (v := 1) c_M_plainTells_15 (by decide) ?_
  refine PW_V0 (d2 := 4) (st := [.int (-(((xx + 1) + b) * 2))]) [.int b, .int 1] c_M_plainTells_16 lk_M_plainTells_382 (po_70 _ _) rfl rfl rfl (Nat.le_of_ble_eq_true rfl) (by first | decide | omega) (Nat.le_of_ble_eq_true rfl) ?_
  refine sp_M_turning_5 K (by (try simp only [List.length_cons]); omega) ?_
  show PW _ _ _ 19 [some (.ref 70), some (.int b), some (.int xx), some (.int (-(((xx + 1) + b) * 2)))] [.int ((((1 : Int32) ^^^ b) * 3) - ((2 : Int32) + b)), .int (-(((xx + 1) + b) * 2))] (E x (tr 103 611 y (1 :: 11 :: 40 :: 60 :: 1 :: 10 :: 30 :: 41 :: 2 :: l)))
  refine PW_isub c_M_plainTells_19 ?_
  refine PW_ireturn (ty := .int) c_M_plainTells_20 rfl rfl ?_
  exact h
theorem sp_M_telling_5 {z : ZS} {post : Option Value → List PE → Prop} {x y : XS} {l : List Int32} {b xx : Int32} (K : km y b 5) (hl : l.length + 10 ≤ 24) (h : post (some (.int (((-(((xx + 1) + b) * 2)) - ((((1 : Int32) ^^^ b) * 3) - ((2 : Int32) + b))) + 1))) (E x (tr 103 611 y (1 :: 11 :: 40 :: 60 :: 1 :: 10 :: 30 :: 41 :: 2 :: 61 :: l)))) : PW (8, 0, 0, z) m_M_telling post 0 [some (.ref 70), some (.int b), some (.int xx)] [] (E x (tr 103 611 y l)) := by
  have hk := K.2
  refine PW_aload_n c_M_telling_0 rfl ?_
  refine PW_get (v := .ref 102) c_M_telling_1 fl_M_105 (gf_70_50 _ _) ?_
  refine PW_iload_n c_M_telling_4 rfl ?_
  refine PW_iald (j := b.toNatClampNeg) c_M_telling_5 (ar_102 _ _) (vp_in_iff.mpr K.1) rfl ?_
  show PW _ _ _ 6 [some (.ref 70), some (.int b), some (.int xx)] [.int (((tr 103 611 y l).2.1 102) b.toNatClampNeg)] (E x (tr 103 611 y l))
  rw [tr_A (by decide), hk]
  show PW _ _ _ 6 [some (.ref 70), some (.int b), some (.int xx)] [.int 5] (E x (tr 103 611 y l))
  refine PW_iconst (v := 4) c_M_telling_6 (by decide) ?_
  refine PW_icmp_ne c_M_telling_7 (fun _ => ?_) (fun h0 => absurd h0 (by decide))
  refine PW_aload_n c_M_telling_25 rfl ?_
  refine PW_get (v := .ref 102) c_M_telling_26 fl_M_105 (gf_70_50 _ _) ?_
  refine PW_iload_n c_M_telling_29 rfl ?_
  refine PW_iald (j := b.toNatClampNeg) c_M_telling_30 (ar_102 _ _) (vp_in_iff.mpr K.1) rfl ?_
  show PW _ _ _ 31 [some (.ref 70), some (.int b), some (.int xx)] [.int (((tr 103 611 y l).2.1 102) b.toNatClampNeg)] (E x (tr 103 611 y l))
  rw [tr_A (by decide), hk]
  show PW _ _ _ 31 [some (.ref 70), some (.int b), some (.int xx)] [.int 5] (E x (tr 103 611 y l))
  refine PW_iconst (v := 5) c_M_telling_31 (by decide) ?_
  refine PW_icmp_ne c_M_telling_32 (fun h1 => absurd (by decide) h1) (fun _ => ?_)
  refine PW_aload_n c_M_telling_35 rfl ?_
  refine PW_bipush (v := 61) c_M_telling_36 (by decide) ?_
  refine PW_V0 (d2 := 0) (st := []) [.int 61] c_M_telling_38 lk_M_telling_361 (po_70 _ _) rfl rfl rfl (Nat.le_of_ble_eq_true rfl) (by first | decide | omega) (Nat.le_of_ble_eq_true rfl) ?_
  refine sp_ran (by (try simp only [List.length_cons]); omega) ?_
  show PW _ _ _ 41 [some (.ref 70), some (.int b), some (.int xx)] [] (E x (tr 103 611 y (61 :: l)))
  refine PW_aload_n c_M_telling_41 rfl ?_
  refine PW_iload_n c_M_telling_42 rfl ?_
  refine PW_iload_n c_M_telling_43 rfl ?_
  refine PW_V0 (d2 := 7) (st := []) [.int b, .int xx] c_M_telling_44 lk_M_telling_394 (po_70 _ _) rfl rfl rfl (Nat.le_of_ble_eq_true rfl) (by first | decide | omega) (Nat.le_of_ble_eq_true rfl) ?_
  refine sp_M_plainTells_5 K (by (try simp only [List.length_cons]); omega) ?_
  show PW _ _ _ 47 [some (.ref 70), some (.int b), some (.int xx)] [.int ((-(((xx + 1) + b) * 2)) - ((((1 : Int32) ^^^ b) * 3) - ((2 : Int32) + b)))] (E x (tr 103 611 y (1 :: 11 :: 40 :: 60 :: 1 :: 10 :: 30 :: 41 :: 2 :: 61 :: l)))
  refine PW_iconst (v := 1) c_M_telling_47 (by decide) ?_
  refine PW_iadd c_M_telling_48 ?_
  refine PW_ireturn (ty := .int) c_M_telling_49 rfl rfl ?_
  exact h
theorem sp_M_plainSays_6 {z : ZS} {post : Option Value → List PE → Prop} {x y : XS} {l : List Int32} {b xx : Int32} (K : km y b 6) (hl : l.length + 1 ≤ 24) (h : post (some (.int (xx + b))) (E x (tr 103 611 y (1 :: l)))) : PW (1, 0, 0, z) m_M_plainSays post 0 [some (.ref 70), some (.int b), some (.int xx)] [] (E x (tr 103 611 y l)) := by
  have hk := K.2
  refine PW_aload_n c_M_plainSays_0 rfl ?_
  refine PW_iconst (v := 1) c_M_plainSays_1 (by decide) ?_
  refine PW_V0 (d2 := 0) (st := []) [.int 1] c_M_plainSays_2 lk_M_plainSays_361 (po_70 _ _) rfl rfl rfl (Nat.le_of_ble_eq_true rfl) (by first | decide | omega) (Nat.le_of_ble_eq_true rfl) ?_
  refine sp_ran (by (try simp only [List.length_cons]); omega) ?_
  show PW _ _ _ 5 [some (.ref 70), some (.int b), some (.int xx)] [] (E x (tr 103 611 y (1 :: l)))
  refine PW_iload_n c_M_plainSays_5 rfl ?_
  refine PW_iload_n c_M_plainSays_6 rfl ?_
  refine PW_iadd c_M_plainSays_7 ?_
  refine PW_ireturn (ty := .int) c_M_plainSays_8 rfl rfl ?_
  exact h
theorem sp_M_missedSays_6 {z : ZS} {post : Option Value → List PE → Prop} {x y : XS} {l : List Int32} {b xx : Int32} (K : km y b 6) (hl : l.length + 2 ≤ 24) (h : post (some (.int ((xx + b) * 2))) (E x (tr 103 611 y (1 :: 70 :: l)))) : PW (2, 0, 0, z) m_M_missedSays post 0 [some (.ref 70), some (.int b), some (.int xx)] [] (E x (tr 103 611 y l)) := by
  have hk := K.2
  refine PW_aload_n c_M_missedSays_0 rfl ?_
  refine PW_bipush (v := 70) c_M_missedSays_1 (by decide) ?_
  refine PW_V0 (d2 := 0) (st := []) [.int 70] c_M_missedSays_3 lk_M_missedSays_361 (po_70 _ _) rfl rfl rfl (Nat.le_of_ble_eq_true rfl) (by first | decide | omega) (Nat.le_of_ble_eq_true rfl) ?_
  refine sp_ran (by (try simp only [List.length_cons]); omega) ?_
  show PW _ _ _ 6 [some (.ref 70), some (.int b), some (.int xx)] [] (E x (tr 103 611 y (70 :: l)))
  refine PW_aload_n c_M_missedSays_6 rfl ?_
  refine PW_iload_n c_M_missedSays_7 rfl ?_
  refine PW_iload_n c_M_missedSays_8 rfl ?_
  refine PW_V0 (d2 := 1) (st := []) [.int b, .int xx] c_M_missedSays_9 lk_M_missedSays_364 (po_70 _ _) rfl rfl rfl (Nat.le_of_ble_eq_true rfl) (by first | decide | omega) (Nat.le_of_ble_eq_true rfl) ?_
  refine sp_M_plainSays_6 K (by (try simp only [List.length_cons]); omega) ?_
  show PW _ _ _ 12 [some (.ref 70), some (.int b), some (.int xx)] [.int (xx + b)] (E x (tr 103 611 y (1 :: 70 :: l)))
  refine PW_iconst (v := 2) c_M_missedSays_12 (by decide) ?_
  refine PW_imul c_M_missedSays_13 ?_
  refine PW_ireturn (ty := .int) c_M_missedSays_14 rfl rfl ?_
  exact h
theorem sp_M_saying_6 {z : ZS} {post : Option Value → List PE → Prop} {x y : XS} {l : List Int32} {b xx : Int32} (K : km y b 6) (hl : l.length + 2 ≤ 24) (h : post (some (.int ((xx + b) * 2))) (E x (tr 103 611 y (1 :: 70 :: l)))) : PW (3, 0, 0, z) m_M_saying post 0 [some (.ref 70), some (.int b), some (.int xx)] [] (E x (tr 103 611 y l)) := by
  have hk := K.2
  refine PW_aload_n c_M_saying_0 rfl ?_
  refine PW_get (v := .ref 102) c_M_saying_1 fl_M_105 (gf_70_50 _ _) ?_
  refine PW_iload_n c_M_saying_4 rfl ?_
  refine PW_iald (j := b.toNatClampNeg) c_M_saying_5 (ar_102 _ _) (vp_in_iff.mpr K.1) rfl ?_
  show PW _ _ _ 6 [some (.ref 70), some (.int b), some (.int xx)] [.int (((tr 103 611 y l).2.1 102) b.toNatClampNeg)] (E x (tr 103 611 y l))
  rw [tr_A (by decide), hk]
  show PW _ _ _ 6 [some (.ref 70), some (.int b), some (.int xx)] [.int 6] (E x (tr 103 611 y l))
  refine PW_iconst (v := 1) c_M_saying_6 (by decide) ?_
  refine PW_S0 (d2 := 0) (st := []) [.int 6, .int 1] c_M_saying_7 lk_M_saying_367 rfl rfl rfl (Nat.le_of_ble_eq_true rfl) (by first | decide | omega) (Nat.le_of_ble_eq_true rfl) ?_
  show PW _ _ _ 0 [some (.int 6), some (.int 1)] [] (E x (tr 103 611 y l))
  refine PW_iload_n c_M_isUnder_0 rfl ?_
  refine PW_if_eq c_M_isUnder_1 (fun h0 => absurd h0 (by decide)) (fun _ => ?_)
  refine PW_iload_n c_M_isUnder_4 rfl ?_
  refine PW_iload_n c_M_isUnder_5 rfl ?_
  refine PW_icmp_eq c_M_isUnder_6 (fun h1 => absurd h1 (by decide)) (fun _ => ?_)
  refine PW_iload_n c_M_isUnder_9 rfl ?_
  refine PW_iconst (v := 1) c_M_isUnder_10 (by decide) ?_
  refine PW_icmp_ne c_M_isUnder_11 (fun h2 => absurd (by decide) h2) (fun _ => ?_)
  refine PW_iload_n c_M_isUnder_14 rfl ?_
  refine PW_iconst (v := 4) c_M_isUnder_15 (by decide) ?_
  refine PW_icmp_eq c_M_isUnder_16 (fun h3 => absurd h3 (by decide)) (fun _ => ?_)
  refine PW_iload_n c_M_isUnder_19 rfl ?_
  refine PW_iconst (v := 2) c_M_isUnder_20 (by decide) ?_
  refine PW_icmp_ne c_M_isUnder_21 (fun _ => ?_) (fun h4 => absurd h4 (by decide))
  refine PW_iload_n c_M_isUnder_34 rfl ?_
  refine PW_iconst (v := 3) c_M_isUnder_35 (by decide) ?_
  refine PW_icmp_ne c_M_isUnder_36 (fun _ => ?_) (fun h5 => absurd h5 (by decide))
  refine PW_iload_n c_M_isUnder_44 rfl ?_
  refine PW_bipush (v := 6) c_M_isUnder_45 (by decide) ?_
  refine PW_icmp_ne c_M_isUnder_47 (fun _ => ?_) (fun h6 => absurd h6 (by decide))
  refine PW_iconst (v := 0) c_M_isUnder_60 (by decide) ?_
  refine PW_ireturn (ty := .boolean) c_M_isUnder_61 rfl (by decide +kernel) ?_
  show PW _ _ _ 10 [some (.ref 70), some (.int b), some (.int xx)] [.int 0] (E x (tr 103 611 y l))
  refine PW_if_eq c_M_saying_10 (fun _ => ?_) (fun h7 => absurd (by decide) h7)
  refine PW_aload_n c_M_saying_28 rfl ?_
  refine PW_get (v := .ref 102) c_M_saying_29 fl_M_105 (gf_70_50 _ _) ?_
  refine PW_iload_n c_M_saying_32 rfl ?_
  refine PW_iald (j := b.toNatClampNeg) c_M_saying_33 (ar_102 _ _) (vp_in_iff.mpr K.1) rfl ?_
  show PW _ _ _ 34 [some (.ref 70), some (.int b), some (.int xx)] [.int (((tr 103 611 y l).2.1 102) b.toNatClampNeg)] (E x (tr 103 611 y l))
  rw [tr_A (by decide), hk]
  show PW _ _ _ 34 [some (.ref 70), some (.int b), some (.int xx)] [.int 6] (E x (tr 103 611 y l))
  refine PW_bipush (v := 7) c_M_saying_34 (by decide) ?_
  refine PW_icmp_ne c_M_saying_36 (fun _ => ?_) (fun h8 => absurd h8 (by decide))
  refine PW_aload_n c_M_saying_54 rfl ?_
  refine PW_get (v := .ref 102) c_M_saying_55 fl_M_105 (gf_70_50 _ _) ?_
  refine PW_iload_n c_M_saying_58 rfl ?_
  refine PW_iald (j := b.toNatClampNeg) c_M_saying_59 (ar_102 _ _) (vp_in_iff.mpr K.1) rfl ?_
  show PW _ _ _ 60 [some (.ref 70), some (.int b), some (.int xx)] [.int (((tr 103 611 y l).2.1 102) b.toNatClampNeg)] (E x (tr 103 611 y l))
  rw [tr_A (by decide), hk]
  show PW _ _ _ 60 [some (.ref 70), some (.int b), some (.int xx)] [.int 6] (E x (tr 103 611 y l))
  refine PW_bipush (v := 6) c_M_saying_60 (by decide) ?_
  refine PW_icmp_ne c_M_saying_62 (fun h9 => absurd (by decide) h9) (fun _ => ?_)
  refine PW_aload_n c_M_saying_65 rfl ?_
  refine PW_iload_n c_M_saying_66 rfl ?_
  refine PW_iload_n c_M_saying_67 rfl ?_
  refine PW_V0 (d2 := 2) (st := []) [.int b, .int xx] c_M_saying_68 lk_M_saying_370 (po_70 _ _) rfl rfl rfl (Nat.le_of_ble_eq_true rfl) (by first | decide | omega) (Nat.le_of_ble_eq_true rfl) ?_
  refine sp_M_missedSays_6 K (by (try simp only [List.length_cons]); omega) ?_
  show PW _ _ _ 71 [some (.ref 70), some (.int b), some (.int xx)] [.int ((xx + b) * 2)] (E x (tr 103 611 y (1 :: 70 :: l)))
  refine PW_goto c_M_saying_71 ?_
  refine PW_ireturn (ty := .int) c_M_saying_80 rfl rfl ?_
  exact h
theorem sp_M_plainStays_6 {z : ZS} {post : Option Value → List PE → Prop} {x y : XS} {l : List Int32} {b xx : Int32} (K : km y b 6) (hl : l.length + 3 ≤ 24) (h : post (some (.int (((xx + b) * 2) * 2))) (E x (tr 103 611 y (1 :: 70 :: 10 :: l)))) : PW (4, 0, 0, z) m_M_plainStays post 0 [some (.ref 70), some (.int b), some (.int xx)] [] (E x (tr 103 611 y l)) := by
  have hk := K.2
  refine PW_aload_n c_M_plainStays_0 rfl ?_
  refine PW_bipush (v := 10) c_M_plainStays_1 (by decide) ?_
  refine PW_V0 (d2 := 0) (st := []) [.int 10] c_M_plainStays_3 lk_M_plainStays_361 (po_70 _ _) rfl rfl rfl (Nat.le_of_ble_eq_true rfl) (by first | decide | omega) (Nat.le_of_ble_eq_true rfl) ?_
  refine sp_ran (by (try simp only [List.length_cons]); omega) ?_
  show PW _ _ _ 6 [some (.ref 70), some (.int b), some (.int xx)] [] (E x (tr 103 611 y (10 :: l)))
  refine PW_aload_n c_M_plainStays_6 rfl ?_
  refine PW_iload_n c_M_plainStays_7 rfl ?_
  refine PW_iload_n c_M_plainStays_8 rfl ?_
  refine PW_V0 (d2 := 3) (st := []) [.int b, .int xx] c_M_plainStays_9 lk_M_plainStays_373 (po_70 _ _) rfl rfl rfl (Nat.le_of_ble_eq_true rfl) (by first | decide | omega) (Nat.le_of_ble_eq_true rfl) ?_
  refine sp_M_saying_6 K (by (try simp only [List.length_cons]); omega) ?_
  show PW _ _ _ 12 [some (.ref 70), some (.int b), some (.int xx)] [.int ((xx + b) * 2)] (E x (tr 103 611 y (1 :: 70 :: 10 :: l)))
  refine PW_iconst (v := 2) c_M_plainStays_12 (by decide) ?_
  refine PW_imul c_M_plainStays_13 ?_
  refine PW_ireturn (ty := .int) c_M_plainStays_14 rfl rfl ?_
  exact h
theorem sp_M_staying_6 {z : ZS} {post : Option Value → List PE → Prop} {x y : XS} {l : List Int32} {b xx : Int32} (K : km y b 6) (hl : l.length + 3 ≤ 24) (h : post (some (.int (((xx + b) * 2) * 2))) (E x (tr 103 611 y (1 :: 70 :: 10 :: l)))) : PW (6, 0, 0, z) m_M_staying post 0 [some (.ref 70), some (.int b), some (.int xx), none] [] (E x (tr 103 611 y l)) := by
  have hk := K.2
  refine PW_aload_n c_M_staying_0 rfl ?_
  refine PW_get (v := .ref 102) c_M_staying_1 fl_M_105 (gf_70_50 _ _) ?_
  refine PW_iload_n c_M_staying_4 rfl ?_
  refine PW_iald (j := b.toNatClampNeg) c_M_staying_5 (ar_102 _ _) (vp_in_iff.mpr K.1) rfl ?_
  show PW _ _ _ 6 [some (.ref 70), some (.int b), some (.int xx), none] [.int (((tr 103 611 y l).2.1 102) b.toNatClampNeg)] (E x (tr 103 611 y l))
  rw [tr_A (by decide), hk]
  show PW _ _ _ 6 [some (.ref 70), some (.int b), some (.int xx), none] [.int 6] (E x (tr 103 611 y l))
  refine PW_iconst (v := 3) c_M_staying_6 (by decide) ?_
  refine PW_S0 (d2 := 0) (st := []) [.int 6, .int 3] c_M_staying_7 lk_M_staying_367 rfl rfl rfl (Nat.le_of_ble_eq_true rfl) (by first | decide | omega) (Nat.le_of_ble_eq_true rfl) ?_
  show PW _ _ _ 0 [some (.int 6), some (.int 3)] [] (E x (tr 103 611 y l))
  refine PW_iload_n c_M_isUnder_0 rfl ?_
  refine PW_if_eq c_M_isUnder_1 (fun h0 => absurd h0 (by decide)) (fun _ => ?_)
  refine PW_iload_n c_M_isUnder_4 rfl ?_
  refine PW_iload_n c_M_isUnder_5 rfl ?_
  refine PW_icmp_eq c_M_isUnder_6 (fun h1 => absurd h1 (by decide)) (fun _ => ?_)
  refine PW_iload_n c_M_isUnder_9 rfl ?_
  refine PW_iconst (v := 1) c_M_isUnder_10 (by decide) ?_
  refine PW_icmp_ne c_M_isUnder_11 (fun _ => ?_) (fun h2 => absurd h2 (by decide))
  refine PW_iload_n c_M_isUnder_19 rfl ?_
  refine PW_iconst (v := 2) c_M_isUnder_20 (by decide) ?_
  refine PW_icmp_ne c_M_isUnder_21 (fun _ => ?_) (fun h3 => absurd h3 (by decide))
  refine PW_iload_n c_M_isUnder_34 rfl ?_
  refine PW_iconst (v := 3) c_M_isUnder_35 (by decide) ?_
  refine PW_icmp_ne c_M_isUnder_36 (fun h4 => absurd (by decide) h4) (fun _ => ?_)
  refine PW_iload_n c_M_isUnder_39 rfl ?_
  refine PW_iconst (v := 5) c_M_isUnder_40 (by decide) ?_
  refine PW_icmp_eq c_M_isUnder_41 (fun h5 => absurd h5 (by decide)) (fun _ => ?_)
  refine PW_iload_n c_M_isUnder_44 rfl ?_
  refine PW_bipush (v := 6) c_M_isUnder_45 (by decide) ?_
  refine PW_icmp_ne c_M_isUnder_47 (fun _ => ?_) (fun h6 => absurd h6 (by decide))
  refine PW_iconst (v := 0) c_M_isUnder_60 (by decide) ?_
  refine PW_ireturn (ty := .boolean) c_M_isUnder_61 rfl (by decide +kernel) ?_
  show PW _ _ _ 10 [some (.ref 70), some (.int b), some (.int xx), none] [.int 0] (E x (tr 103 611 y l))
  refine PW_if_eq c_M_staying_10 (fun _ => ?_) (fun h7 => absurd (by decide) h7)
  refine PW_aload_n c_M_staying_28 rfl ?_
  refine PW_get (v := .ref 102) c_M_staying_29 fl_M_105 (gf_70_50 _ _) ?_
  refine PW_iload_n c_M_staying_32 rfl ?_
  refine PW_iald (j := b.toNatClampNeg) c_M_staying_33 (ar_102 _ _) (vp_in_iff.mpr K.1) rfl ?_
  show PW _ _ _ 34 [some (.ref 70), some (.int b), some (.int xx), none] [.int (((tr 103 611 y l).2.1 102) b.toNatClampNeg)] (E x (tr 103 611 y l))
  rw [tr_A (by decide), hk]
  show PW _ _ _ 34 [some (.ref 70), some (.int b), some (.int xx), none] [.int 6] (E x (tr 103 611 y l))
  refine PW_bipush (v := 7) c_M_staying_34 (by decide) ?_
  refine PW_icmp_ne c_M_staying_36 (fun _ => ?_) (fun h8 => absurd h8 (by decide))
  refine PW_aload_n c_M_staying_61 rfl ?_
  refine PW_get (v := .ref 102) c_M_staying_62 fl_M_105 (gf_70_50 _ _) ?_
  refine PW_iload_n c_M_staying_65 rfl ?_
  refine PW_iald (j := b.toNatClampNeg) c_M_staying_66 (ar_102 _ _) (vp_in_iff.mpr K.1) rfl ?_
  show PW _ _ _ 67 [some (.ref 70), some (.int b), some (.int xx), none] [.int (((tr 103 611 y l).2.1 102) b.toNatClampNeg)] (E x (tr 103 611 y l))
  rw [tr_A (by decide), hk]
  show PW _ _ _ 67 [some (.ref 70), some (.int b), some (.int xx), none] [.int 6] (E x (tr 103 611 y l))
  refine PW_iconst (v := 2) c_M_staying_67 (by decide) ?_
  refine PW_icmp_ne c_M_staying_68 (fun _ => ?_) (fun h9 => absurd h9 (by decide))
  refine PW_aload_n c_M_staying_80 rfl ?_
  refine PW_iload_n c_M_staying_81 rfl ?_
  refine PW_iload_n c_M_staying_82 rfl ?_
  refine PW_V0 (d2 := 4) (st := []) [.int b, .int xx] c_M_staying_83 lk_M_staying_376 (po_70 _ _) rfl rfl rfl (Nat.le_of_ble_eq_true rfl) (by first | decide | omega) (Nat.le_of_ble_eq_true rfl) ?_
  refine sp_M_plainStays_6 K (by (try simp only [List.length_cons]); omega) ?_
  show PW _ _ _ 86 [some (.ref 70), some (.int b), some (.int xx), none] [.int (((xx + b) * 2) * 2)] (E x (tr 103 611 y (1 :: 70 :: 10 :: l)))
  refine PW_ireturn (ty := .int) c_M_staying_86 rfl rfl ?_
  exact h
theorem sp_M_plainTurns_6 {z : ZS} {post : Option Value → List PE → Prop} {x y : XS} {l : List Int32} {b xx : Int32} (K : km y b 6) (hl : l.length + 1 ≤ 24) (h : post (some (.int (xx ^^^ b))) (E x (tr 103 611 y (11 :: l)))) : PW (1, 0, 0, z) m_M_plainTurns post 0 [some (.ref 70), some (.int b), some (.int xx)] [] (E x (tr 103 611 y l)) := by
  have hk := K.2
  refine PW_aload_n c_M_plainTurns_0 rfl ?_
  refine PW_bipush (v := 11) c_M_plainTurns_1 (by decide) ?_
  refine PW_V0 (d2 := 0) (st := []) [.int 11] c_M_plainTurns_3 lk_M_plainTurns_361 (po_70 _ _) rfl rfl rfl (Nat.le_of_ble_eq_true rfl) (by first | decide | omega) (Nat.le_of_ble_eq_true rfl) ?_
  refine sp_ran (by (try simp only [List.length_cons]); omega) ?_
  show PW _ _ _ 6 [some (.ref 70), some (.int b), some (.int xx)] [] (E x (tr 103 611 y (11 :: l)))
  refine PW_iload_n c_M_plainTurns_6 rfl ?_
  refine PW_iload_n c_M_plainTurns_7 rfl ?_
  refine PW_ixor c_M_plainTurns_8 ?_
  refine PW_ireturn (ty := .int) c_M_plainTurns_9 rfl rfl ?_
  exact h
theorem sp_M_turning_6 {z : ZS} {post : Option Value → List PE → Prop} {x y : XS} {l : List Int32} {b xx : Int32} (K : km y b 6) (hl : l.length + 1 ≤ 24) (h : post (some (.int (xx ^^^ b))) (E x (tr 103 611 y (11 :: l)))) : PW (4, 0, 0, z) m_M_turning post 0 [some (.ref 70), some (.int b), some (.int xx), none] [] (E x (tr 103 611 y l)) := by
  have hk := K.2
  refine PW_aload_n c_M_turning_0 rfl ?_
  refine PW_get (v := .ref 102) c_M_turning_1 fl_M_105 (gf_70_50 _ _) ?_
  refine PW_iload_n c_M_turning_4 rfl ?_
  refine PW_iald (j := b.toNatClampNeg) c_M_turning_5 (ar_102 _ _) (vp_in_iff.mpr K.1) rfl ?_
  show PW _ _ _ 6 [some (.ref 70), some (.int b), some (.int xx), none] [.int (((tr 103 611 y l).2.1 102) b.toNatClampNeg)] (E x (tr 103 611 y l))
  rw [tr_A (by decide), hk]
  show PW _ _ _ 6 [some (.ref 70), some (.int b), some (.int xx), none] [.int 6] (E x (tr 103 611 y l))
  refine PW_iconst (v := 5) c_M_turning_6 (by decide) ?_
  refine PW_icmp_ne c_M_turning_7 (fun _ => ?_) (fun h0 => absurd h0 (by decide))
  refine PW_aload_n c_M_turning_32 rfl ?_
  refine PW_get (v := .ref 102) c_M_turning_33 fl_M_105 (gf_70_50 _ _) ?_
  refine PW_iload_n c_M_turning_36 rfl ?_
  refine PW_iald (j := b.toNatClampNeg) c_M_turning_37 (ar_102 _ _) (vp_in_iff.mpr K.1) rfl ?_
  show PW _ _ _ 38 [some (.ref 70), some (.int b), some (.int xx), none] [.int (((tr 103 611 y l).2.1 102) b.toNatClampNeg)] (E x (tr 103 611 y l))
  rw [tr_A (by decide), hk]
  show PW _ _ _ 38 [some (.ref 70), some (.int b), some (.int xx), none] [.int 6] (E x (tr 103 611 y l))
  refine PW_iconst (v := 3) c_M_turning_38 (by decide) ?_
  refine PW_icmp_ne c_M_turning_39 (fun _ => ?_) (fun h1 => absurd h1 (by decide))
  refine PW_aload_n c_M_turning_51 rfl ?_
  refine PW_iload_n c_M_turning_52 rfl ?_
  refine PW_iload_n c_M_turning_53 rfl ?_
  refine PW_V0 (d2 := 1) (st := []) [.int b, .int xx] c_M_turning_54 lk_M_turning_385 (po_70 _ _) rfl rfl rfl (Nat.le_of_ble_eq_true rfl) (by first | decide | omega) (Nat.le_of_ble_eq_true rfl) ?_
  refine sp_M_plainTurns_6 K (by (try simp only [List.length_cons]); omega) ?_
  show PW _ _ _ 57 [some (.ref 70), some (.int b), some (.int xx), none] [.int (xx ^^^ b)] (E x (tr 103 611 y (11 :: l)))
  refine PW_ireturn (ty := .int) c_M_turning_57 rfl rfl ?_
  exact h
theorem sp_M_plainTells_6 {z : ZS} {post : Option Value → List PE → Prop} {x y : XS} {l : List Int32} {b xx : Int32} (K : km y b 6) (hl : l.length + 5 ≤ 24) (h : post (some (.int ((((xx + b) * 2) * 2) - ((1 : Int32) ^^^ b)))) (E x (tr 103 611 y (11 :: 1 :: 70 :: 10 :: 2 :: l)))) : PW (7, 0, 0, z) m_M_plainTells post 0 [some (.ref 70), some (.int b), some (.int xx), none] [] (E x (tr 103 611 y l)) := by
  have hk := K.2
  refine PW_aload_n c_M_plainTells_0 rfl ?_
  refine PW_iconst (v := 2) c_M_plainTells_1 (by decide) ?_
  refine PW_V0 (d2 := 0) (st := []) [.int 2] c_M_plainTells_2 lk_M_plainTells_361 (po_70 _ _) rfl rfl rfl (Nat.le_of_ble_eq_true rfl) (by first | decide | omega) (Nat.le_of_ble_eq_true rfl) ?_
  refine sp_ran (by (try simp only [List.length_cons]); omega) ?_
  show PW _ _ _ 5 [some (.ref 70), some (.int b), some (.int xx), none] [] (E x (tr 103 611 y (2 :: l)))
  refine PW_aload_n c_M_plainTells_5 rfl ?_
  refine PW_iload_n c_M_plainTells_6 rfl ?_
  refine PW_iload_n c_M_plainTells_7 rfl ?_
  refine PW_V0 (d2 := 6) (st := []) [.int b, .int xx] c_M_plainTells_8 lk_M_plainTells_391 (po_70 _ _) rfl rfl rfl (Nat.le_of_ble_eq_true rfl) (by first | decide | omega) (Nat.le_of_ble_eq_true rfl) ?_
  refine sp_M_staying_6 K (by (try simp only [List.length_cons]); omega) ?_
  show PW _ _ _ 11 [some (.ref 70), some (.int b), some (.int xx), none] [.int (((xx + b) * 2) * 2)] (E x (tr 103 611 y (1 :: 70 :: 10 :: 2 :: l)))
  refine PW_istore_n (i := 3) (L2 := [some (.ref 70), some (.int b), some (.int xx), some (.int (((xx + b) * 2) * 2))]) c_M_plainTells_11 rfl (Nat.le_of_ble_eq_true rfl) rfl rfl ?_
  refine PW_iload_n c_M_plainTells_12 rfl ?_
  refine PW_aload_n c_M_plainTells_13 rfl ?_
  refine PW_iload_n c_M_plainTells_14 rfl ?_
  refine PW_iconst (v := 1) c_M_plainTells_15 (by decide) ?_
  refine PW_V0 (d2 := 4) (st := [.int (((xx + b) * 2) * 2)]) [.int b, .int 1] c_M_plainTells_16 lk_M_plainTells_382 (po_70 _ _) rfl rfl rfl (Nat.le_of_ble_eq_true rfl) (by first | decide | omega) (Nat.le_of_ble_eq_true rfl) ?_
  refine sp_M_turning_6 K (by (try simp only [List.length_cons]); omega) ?_
  show PW _ _ _ 19 [some (.ref 70), some (.int b), some (.int xx), some (.int (((xx + b) * 2) * 2))] [.int ((1 : Int32) ^^^ b), .int (((xx + b) * 2) * 2)] (E x (tr 103 611 y (11 :: 1 :: 70 :: 10 :: 2 :: l)))
  refine PW_isub c_M_plainTells_19 ?_
  refine PW_ireturn (ty := .int) c_M_plainTells_20 rfl rfl ?_
  exact h
theorem sp_M_telling_6 {z : ZS} {post : Option Value → List PE → Prop} {x y : XS} {l : List Int32} {b xx : Int32} (K : km y b 6) (hl : l.length + 5 ≤ 24) (h : post (some (.int ((((xx + b) * 2) * 2) - ((1 : Int32) ^^^ b)))) (E x (tr 103 611 y (11 :: 1 :: 70 :: 10 :: 2 :: l)))) : PW (8, 0, 0, z) m_M_telling post 0 [some (.ref 70), some (.int b), some (.int xx)] [] (E x (tr 103 611 y l)) := by
  have hk := K.2
  refine PW_aload_n c_M_telling_0 rfl ?_
  refine PW_get (v := .ref 102) c_M_telling_1 fl_M_105 (gf_70_50 _ _) ?_
  refine PW_iload_n c_M_telling_4 rfl ?_
  refine PW_iald (j := b.toNatClampNeg) c_M_telling_5 (ar_102 _ _) (vp_in_iff.mpr K.1) rfl ?_
  show PW _ _ _ 6 [some (.ref 70), some (.int b), some (.int xx)] [.int (((tr 103 611 y l).2.1 102) b.toNatClampNeg)] (E x (tr 103 611 y l))
  rw [tr_A (by decide), hk]
  show PW _ _ _ 6 [some (.ref 70), some (.int b), some (.int xx)] [.int 6] (E x (tr 103 611 y l))
  refine PW_iconst (v := 4) c_M_telling_6 (by decide) ?_
  refine PW_icmp_ne c_M_telling_7 (fun _ => ?_) (fun h0 => absurd h0 (by decide))
  refine PW_aload_n c_M_telling_25 rfl ?_
  refine PW_get (v := .ref 102) c_M_telling_26 fl_M_105 (gf_70_50 _ _) ?_
  refine PW_iload_n c_M_telling_29 rfl ?_
  refine PW_iald (j := b.toNatClampNeg) c_M_telling_30 (ar_102 _ _) (vp_in_iff.mpr K.1) rfl ?_
  show PW _ _ _ 31 [some (.ref 70), some (.int b), some (.int xx)] [.int (((tr 103 611 y l).2.1 102) b.toNatClampNeg)] (E x (tr 103 611 y l))
  rw [tr_A (by decide), hk]
  show PW _ _ _ 31 [some (.ref 70), some (.int b), some (.int xx)] [.int 6] (E x (tr 103 611 y l))
  refine PW_iconst (v := 5) c_M_telling_31 (by decide) ?_
  refine PW_icmp_ne c_M_telling_32 (fun _ => ?_) (fun h1 => absurd h1 (by decide))
  refine PW_aload_n c_M_telling_50 rfl ?_
  refine PW_iload_n c_M_telling_51 rfl ?_
  refine PW_iload_n c_M_telling_52 rfl ?_
  refine PW_V0 (d2 := 7) (st := []) [.int b, .int xx] c_M_telling_53 lk_M_telling_394 (po_70 _ _) rfl rfl rfl (Nat.le_of_ble_eq_true rfl) (by first | decide | omega) (Nat.le_of_ble_eq_true rfl) ?_
  refine sp_M_plainTells_6 K (by (try simp only [List.length_cons]); omega) ?_
  show PW _ _ _ 56 [some (.ref 70), some (.int b), some (.int xx)] [.int ((((xx + b) * 2) * 2) - ((1 : Int32) ^^^ b))] (E x (tr 103 611 y (11 :: 1 :: 70 :: 10 :: 2 :: l)))
  refine PW_ireturn (ty := .int) c_M_telling_56 rfl rfl ?_
  exact h
theorem sp_M_plainSays_7 {z : ZS} {post : Option Value → List PE → Prop} {x y : XS} {l : List Int32} {b xx : Int32} (K : km y b 7) (hl : l.length + 1 ≤ 24) (h : post (some (.int (xx + b))) (E x (tr 103 611 y (1 :: l)))) : PW (1, 0, 0, z) m_M_plainSays post 0 [some (.ref 70), some (.int b), some (.int xx)] [] (E x (tr 103 611 y l)) := by
  have hk := K.2
  refine PW_aload_n c_M_plainSays_0 rfl ?_
  refine PW_iconst (v := 1) c_M_plainSays_1 (by decide) ?_
  refine PW_V0 (d2 := 0) (st := []) [.int 1] c_M_plainSays_2 lk_M_plainSays_361 (po_70 _ _) rfl rfl rfl (Nat.le_of_ble_eq_true rfl) (by first | decide | omega) (Nat.le_of_ble_eq_true rfl) ?_
  refine sp_ran (by (try simp only [List.length_cons]); omega) ?_
  show PW _ _ _ 5 [some (.ref 70), some (.int b), some (.int xx)] [] (E x (tr 103 611 y (1 :: l)))
  refine PW_iload_n c_M_plainSays_5 rfl ?_
  refine PW_iload_n c_M_plainSays_6 rfl ?_
  refine PW_iadd c_M_plainSays_7 ?_
  refine PW_ireturn (ty := .int) c_M_plainSays_8 rfl rfl ?_
  exact h
theorem sp_M_missedSays_7 {z : ZS} {post : Option Value → List PE → Prop} {x y : XS} {l : List Int32} {b xx : Int32} (K : km y b 7) (hl : l.length + 2 ≤ 24) (h : post (some (.int ((xx + b) * 2))) (E x (tr 103 611 y (1 :: 70 :: l)))) : PW (2, 0, 0, z) m_M_missedSays post 0 [some (.ref 70), some (.int b), some (.int xx)] [] (E x (tr 103 611 y l)) := by
  have hk := K.2
  refine PW_aload_n c_M_missedSays_0 rfl ?_
  refine PW_bipush (v := 70) c_M_missedSays_1 (by decide) ?_
  refine PW_V0 (d2 := 0) (st := []) [.int 70] c_M_missedSays_3 lk_M_missedSays_361 (po_70 _ _) rfl rfl rfl (Nat.le_of_ble_eq_true rfl) (by first | decide | omega) (Nat.le_of_ble_eq_true rfl) ?_
  refine sp_ran (by (try simp only [List.length_cons]); omega) ?_
  show PW _ _ _ 6 [some (.ref 70), some (.int b), some (.int xx)] [] (E x (tr 103 611 y (70 :: l)))
  refine PW_aload_n c_M_missedSays_6 rfl ?_
  refine PW_iload_n c_M_missedSays_7 rfl ?_
  refine PW_iload_n c_M_missedSays_8 rfl ?_
  refine PW_V0 (d2 := 1) (st := []) [.int b, .int xx] c_M_missedSays_9 lk_M_missedSays_364 (po_70 _ _) rfl rfl rfl (Nat.le_of_ble_eq_true rfl) (by first | decide | omega) (Nat.le_of_ble_eq_true rfl) ?_
  refine sp_M_plainSays_7 K (by (try simp only [List.length_cons]); omega) ?_
  show PW _ _ _ 12 [some (.ref 70), some (.int b), some (.int xx)] [.int (xx + b)] (E x (tr 103 611 y (1 :: 70 :: l)))
  refine PW_iconst (v := 2) c_M_missedSays_12 (by decide) ?_
  refine PW_imul c_M_missedSays_13 ?_
  refine PW_ireturn (ty := .int) c_M_missedSays_14 rfl rfl ?_
  exact h
theorem sp_M_saying_7 {z : ZS} {post : Option Value → List PE → Prop} {x y : XS} {l : List Int32} {b xx : Int32} (K : km y b 7) (hl : l.length + 3 ≤ 24) (h : post (some (.int (((xx + b) * 2) - 1))) (E x (tr 103 611 y (1 :: 70 :: 81 :: l)))) : PW (3, 0, 0, z) m_M_saying post 0 [some (.ref 70), some (.int b), some (.int xx)] [] (E x (tr 103 611 y l)) := by
  have hk := K.2
  refine PW_aload_n c_M_saying_0 rfl ?_
  refine PW_get (v := .ref 102) c_M_saying_1 fl_M_105 (gf_70_50 _ _) ?_
  refine PW_iload_n c_M_saying_4 rfl ?_
  refine PW_iald (j := b.toNatClampNeg) c_M_saying_5 (ar_102 _ _) (vp_in_iff.mpr K.1) rfl ?_
  show PW _ _ _ 6 [some (.ref 70), some (.int b), some (.int xx)] [.int (((tr 103 611 y l).2.1 102) b.toNatClampNeg)] (E x (tr 103 611 y l))
  rw [tr_A (by decide), hk]
  show PW _ _ _ 6 [some (.ref 70), some (.int b), some (.int xx)] [.int 7] (E x (tr 103 611 y l))
  refine PW_iconst (v := 1) c_M_saying_6 (by decide) ?_
  refine PW_S0 (d2 := 0) (st := []) [.int 7, .int 1] c_M_saying_7 lk_M_saying_367 rfl rfl rfl (Nat.le_of_ble_eq_true rfl) (by first | decide | omega) (Nat.le_of_ble_eq_true rfl) ?_
  show PW _ _ _ 0 [some (.int 7), some (.int 1)] [] (E x (tr 103 611 y l))
  refine PW_iload_n c_M_isUnder_0 rfl ?_
  refine PW_if_eq c_M_isUnder_1 (fun h0 => absurd h0 (by decide)) (fun _ => ?_)
  refine PW_iload_n c_M_isUnder_4 rfl ?_
  refine PW_iload_n c_M_isUnder_5 rfl ?_
  refine PW_icmp_eq c_M_isUnder_6 (fun h1 => absurd h1 (by decide)) (fun _ => ?_)
  refine PW_iload_n c_M_isUnder_9 rfl ?_
  refine PW_iconst (v := 1) c_M_isUnder_10 (by decide) ?_
  refine PW_icmp_ne c_M_isUnder_11 (fun h2 => absurd (by decide) h2) (fun _ => ?_)
  refine PW_iload_n c_M_isUnder_14 rfl ?_
  refine PW_iconst (v := 4) c_M_isUnder_15 (by decide) ?_
  refine PW_icmp_eq c_M_isUnder_16 (fun h3 => absurd h3 (by decide)) (fun _ => ?_)
  refine PW_iload_n c_M_isUnder_19 rfl ?_
  refine PW_iconst (v := 2) c_M_isUnder_20 (by decide) ?_
  refine PW_icmp_ne c_M_isUnder_21 (fun _ => ?_) (fun h4 => absurd h4 (by decide))
  refine PW_iload_n c_M_isUnder_34 rfl ?_
  refine PW_iconst (v := 3) c_M_isUnder_35 (by decide) ?_
  refine PW_icmp_ne c_M_isUnder_36 (fun _ => ?_) (fun h5 => absurd h5 (by decide))
  refine PW_iload_n c_M_isUnder_44 rfl ?_
  refine PW_bipush (v := 6) c_M_isUnder_45 (by decide) ?_
  refine PW_icmp_ne c_M_isUnder_47 (fun _ => ?_) (fun h6 => absurd h6 (by decide))
  refine PW_iconst (v := 0) c_M_isUnder_60 (by decide) ?_
  refine PW_ireturn (ty := .boolean) c_M_isUnder_61 rfl (by decide +kernel) ?_
  show PW _ _ _ 10 [some (.ref 70), some (.int b), some (.int xx)] [.int 0] (E x (tr 103 611 y l))
  refine PW_if_eq c_M_saying_10 (fun _ => ?_) (fun h7 => absurd (by decide) h7)
  refine PW_aload_n c_M_saying_28 rfl ?_
  refine PW_get (v := .ref 102) c_M_saying_29 fl_M_105 (gf_70_50 _ _) ?_
  refine PW_iload_n c_M_saying_32 rfl ?_
  refine PW_iald (j := b.toNatClampNeg) c_M_saying_33 (ar_102 _ _) (vp_in_iff.mpr K.1) rfl ?_
  show PW _ _ _ 34 [some (.ref 70), some (.int b), some (.int xx)] [.int (((tr 103 611 y l).2.1 102) b.toNatClampNeg)] (E x (tr 103 611 y l))
  rw [tr_A (by decide), hk]
  show PW _ _ _ 34 [some (.ref 70), some (.int b), some (.int xx)] [.int 7] (E x (tr 103 611 y l))
  refine PW_bipush (v := 7) c_M_saying_34 (by decide) ?_
  refine PW_icmp_ne c_M_saying_36 (fun h8 => absurd (by decide) h8) (fun _ => ?_)
  refine PW_aload_n c_M_saying_39 rfl ?_
  refine PW_bipush (v := 81) c_M_saying_40 (by decide) ?_
  refine PW_V0 (d2 := 0) (st := []) [.int 81] c_M_saying_42 lk_M_saying_361 (po_70 _ _) rfl rfl rfl (Nat.le_of_ble_eq_true rfl) (by first | decide | omega) (Nat.le_of_ble_eq_true rfl) ?_
  refine sp_ran (by (try simp only [List.length_cons]); omega) ?_
  show PW _ _ _ 45 [some (.ref 70), some (.int b), some (.int xx)] [] (E x (tr 103 611 y (81 :: l)))
  refine PW_aload_n c_M_saying_45 rfl ?_
  refine PW_iload_n c_M_saying_46 rfl ?_
  refine PW_iload_n c_M_saying_47 rfl ?_
  refine PW_V0 (d2 := 2) (st := []) [.int b, .int xx] c_M_saying_48 lk_M_saying_370 (po_70 _ _) rfl rfl rfl (Nat.le_of_ble_eq_true rfl) (by first | decide | omega) (Nat.le_of_ble_eq_true rfl) ?_
  refine sp_M_missedSays_7 K (by (try simp only [List.length_cons]); omega) ?_
  show PW _ _ _ 51 [some (.ref 70), some (.int b), some (.int xx)] [.int ((xx + b) * 2)] (E x (tr 103 611 y (1 :: 70 :: 81 :: l)))
  refine PW_iconst (v := 1) c_M_saying_51 (by decide) ?_
  refine PW_isub c_M_saying_52 ?_
  refine PW_ireturn (ty := .int) c_M_saying_53 rfl rfl ?_
  exact h
theorem sp_M_plainStays_7 {z : ZS} {post : Option Value → List PE → Prop} {x y : XS} {l : List Int32} {b xx : Int32} (K : km y b 7) (hl : l.length + 4 ≤ 24) (h : post (some (.int ((((xx + b) * 2) - 1) * 2))) (E x (tr 103 611 y (1 :: 70 :: 81 :: 10 :: l)))) : PW (4, 0, 0, z) m_M_plainStays post 0 [some (.ref 70), some (.int b), some (.int xx)] [] (E x (tr 103 611 y l)) := by
  have hk := K.2
  refine PW_aload_n c_M_plainStays_0 rfl ?_
  refine PW_bipush (v := 10) c_M_plainStays_1 (by decide) ?_
  refine PW_V0 (d2 := 0) (st := []) [.int 10] c_M_plainStays_3 lk_M_plainStays_361 (po_70 _ _) rfl rfl rfl (Nat.le_of_ble_eq_true rfl) (by first | decide | omega) (Nat.le_of_ble_eq_true rfl) ?_
  refine sp_ran (by (try simp only [List.length_cons]); omega) ?_
  show PW _ _ _ 6 [some (.ref 70), some (.int b), some (.int xx)] [] (E x (tr 103 611 y (10 :: l)))
  refine PW_aload_n c_M_plainStays_6 rfl ?_
  refine PW_iload_n c_M_plainStays_7 rfl ?_
  refine PW_iload_n c_M_plainStays_8 rfl ?_
  refine PW_V0 (d2 := 3) (st := []) [.int b, .int xx] c_M_plainStays_9 lk_M_plainStays_373 (po_70 _ _) rfl rfl rfl (Nat.le_of_ble_eq_true rfl) (by first | decide | omega) (Nat.le_of_ble_eq_true rfl) ?_
  refine sp_M_saying_7 K (by (try simp only [List.length_cons]); omega) ?_
  show PW _ _ _ 12 [some (.ref 70), some (.int b), some (.int xx)] [.int (((xx + b) * 2) - 1)] (E x (tr 103 611 y (1 :: 70 :: 81 :: 10 :: l)))
  refine PW_iconst (v := 2) c_M_plainStays_12 (by decide) ?_
  refine PW_imul c_M_plainStays_13 ?_
  refine PW_ireturn (ty := .int) c_M_plainStays_14 rfl rfl ?_
  exact h
theorem sp_M_plainTurns_7 {z : ZS} {post : Option Value → List PE → Prop} {x y : XS} {l : List Int32} {b xx : Int32} (K : km y b 7) (hl : l.length + 1 ≤ 24) (h : post (some (.int (xx ^^^ b))) (E x (tr 103 611 y (11 :: l)))) : PW (1, 0, 0, z) m_M_plainTurns post 0 [some (.ref 70), some (.int b), some (.int xx)] [] (E x (tr 103 611 y l)) := by
  have hk := K.2
  refine PW_aload_n c_M_plainTurns_0 rfl ?_
  refine PW_bipush (v := 11) c_M_plainTurns_1 (by decide) ?_
  refine PW_V0 (d2 := 0) (st := []) [.int 11] c_M_plainTurns_3 lk_M_plainTurns_361 (po_70 _ _) rfl rfl rfl (Nat.le_of_ble_eq_true rfl) (by first | decide | omega) (Nat.le_of_ble_eq_true rfl) ?_
  refine sp_ran (by (try simp only [List.length_cons]); omega) ?_
  show PW _ _ _ 6 [some (.ref 70), some (.int b), some (.int xx)] [] (E x (tr 103 611 y (11 :: l)))
  refine PW_iload_n c_M_plainTurns_6 rfl ?_
  refine PW_iload_n c_M_plainTurns_7 rfl ?_
  refine PW_ixor c_M_plainTurns_8 ?_
  refine PW_ireturn (ty := .int) c_M_plainTurns_9 rfl rfl ?_
  exact h
theorem sp_M_turning_7 {z : ZS} {post : Option Value → List PE → Prop} {x y : XS} {l : List Int32} {b xx : Int32} (K : km y b 7) (hl : l.length + 1 ≤ 24) (h : post (some (.int (xx ^^^ b))) (E x (tr 103 611 y (11 :: l)))) : PW (4, 0, 0, z) m_M_turning post 0 [some (.ref 70), some (.int b), some (.int xx), none] [] (E x (tr 103 611 y l)) := by
  have hk := K.2
  refine PW_aload_n c_M_turning_0 rfl ?_
  refine PW_get (v := .ref 102) c_M_turning_1 fl_M_105 (gf_70_50 _ _) ?_
  refine PW_iload_n c_M_turning_4 rfl ?_
  refine PW_iald (j := b.toNatClampNeg) c_M_turning_5 (ar_102 _ _) (vp_in_iff.mpr K.1) rfl ?_
  show PW _ _ _ 6 [some (.ref 70), some (.int b), some (.int xx), none] [.int (((tr 103 611 y l).2.1 102) b.toNatClampNeg)] (E x (tr 103 611 y l))
  rw [tr_A (by decide), hk]
  show PW _ _ _ 6 [some (.ref 70), some (.int b), some (.int xx), none] [.int 7] (E x (tr 103 611 y l))
  refine PW_iconst (v := 5) c_M_turning_6 (by decide) ?_
  refine PW_icmp_ne c_M_turning_7 (fun _ => ?_) (fun h0 => absurd h0 (by decide))
  refine PW_aload_n c_M_turning_32 rfl ?_
  refine PW_get (v := .ref 102) c_M_turning_33 fl_M_105 (gf_70_50 _ _) ?_
  refine PW_iload_n c_M_turning_36 rfl ?_
  refine PW_iald (j := b.toNatClampNeg) c_M_turning_37 (ar_102 _ _) (vp_in_iff.mpr K.1) rfl ?_
  show PW _ _ _ 38 [some (.ref 70), some (.int b), some (.int xx), none] [.int (((tr 103 611 y l).2.1 102) b.toNatClampNeg)] (E x (tr 103 611 y l))
  rw [tr_A (by decide), hk]
  show PW _ _ _ 38 [some (.ref 70), some (.int b), some (.int xx), none] [.int 7] (E x (tr 103 611 y l))
  refine PW_iconst (v := 3) c_M_turning_38 (by decide) ?_
  refine PW_icmp_ne c_M_turning_39 (fun _ => ?_) (fun h1 => absurd h1 (by decide))
  refine PW_aload_n c_M_turning_51 rfl ?_
  refine PW_iload_n c_M_turning_52 rfl ?_
  refine PW_iload_n c_M_turning_53 rfl ?_
  refine PW_V0 (d2 := 1) (st := []) [.int b, .int xx] c_M_turning_54 lk_M_turning_385 (po_70 _ _) rfl rfl rfl (Nat.le_of_ble_eq_true rfl) (by first | decide | omega) (Nat.le_of_ble_eq_true rfl) ?_
  refine sp_M_plainTurns_7 K (by (try simp only [List.length_cons]); omega) ?_
  show PW _ _ _ 57 [some (.ref 70), some (.int b), some (.int xx), none] [.int (xx ^^^ b)] (E x (tr 103 611 y (11 :: l)))
  refine PW_ireturn (ty := .int) c_M_turning_57 rfl rfl ?_
  exact h
theorem sp_M_staying_7 {z : ZS} {post : Option Value → List PE → Prop} {x y : XS} {l : List Int32} {b xx : Int32} (K : km y b 7) (hl : l.length + 6 ≤ 24) (h : post (some (.int (((((xx + b) * 2) - 1) * 2) + ((2 : Int32) ^^^ b)))) (E x (tr 103 611 y (11 :: 1 :: 70 :: 81 :: 10 :: 80 :: l)))) : PW (6, 0, 0, z) m_M_staying post 0 [some (.ref 70), some (.int b), some (.int xx), none] [] (E x (tr 103 611 y l)) := by
  have hk := K.2
  refine PW_aload_n c_M_staying_0 rfl ?_
  refine PW_get (v := .ref 102) c_M_staying_1 fl_M_105 (gf_70_50 _ _) ?_
  refine PW_iload_n c_M_staying_4 rfl ?_
  refine PW_iald (j := b.toNatClampNeg) c_M_staying_5 (ar_102 _ _) (vp_in_iff.mpr K.1) rfl ?_
  show PW _ _ _ 6 [some (.ref 70), some (.int b), some (.int xx), none] [.int (((tr 103 611 y l).2.1 102) b.toNatClampNeg)] (E x (tr 103 611 y l))
  rw [tr_A (by decide), hk]
  show PW _ _ _ 6 [some (.ref 70), some (.int b), some (.int xx), none] [.int 7] (E x (tr 103 611 y l))
  refine PW_iconst (v := 3) c_M_staying_6 (by decide) ?_
  refine PW_S0 (d2 := 0) (st := []) [.int 7, .int 3] c_M_staying_7 lk_M_staying_367 rfl rfl rfl (Nat.le_of_ble_eq_true rfl) (by first | decide | omega) (Nat.le_of_ble_eq_true rfl) ?_
  show PW _ _ _ 0 [some (.int 7), some (.int 3)] [] (E x (tr 103 611 y l))
  refine PW_iload_n c_M_isUnder_0 rfl ?_
  refine PW_if_eq c_M_isUnder_1 (fun h0 => absurd h0 (by decide)) (fun _ => ?_)
  refine PW_iload_n c_M_isUnder_4 rfl ?_
  refine PW_iload_n c_M_isUnder_5 rfl ?_
  refine PW_icmp_eq c_M_isUnder_6 (fun h1 => absurd h1 (by decide)) (fun _ => ?_)
  refine PW_iload_n c_M_isUnder_9 rfl ?_
  refine PW_iconst (v := 1) c_M_isUnder_10 (by decide) ?_
  refine PW_icmp_ne c_M_isUnder_11 (fun _ => ?_) (fun h2 => absurd h2 (by decide))
  refine PW_iload_n c_M_isUnder_19 rfl ?_
  refine PW_iconst (v := 2) c_M_isUnder_20 (by decide) ?_
  refine PW_icmp_ne c_M_isUnder_21 (fun _ => ?_) (fun h3 => absurd h3 (by decide))
  refine PW_iload_n c_M_isUnder_34 rfl ?_
  refine PW_iconst (v := 3) c_M_isUnder_35 (by decide) ?_
  refine PW_icmp_ne c_M_isUnder_36 (fun h4 => absurd (by decide) h4) (fun _ => ?_)
  refine PW_iload_n c_M_isUnder_39 rfl ?_
  refine PW_iconst (v := 5) c_M_isUnder_40 (by decide) ?_
  refine PW_icmp_eq c_M_isUnder_41 (fun h5 => absurd h5 (by decide)) (fun _ => ?_)
  refine PW_iload_n c_M_isUnder_44 rfl ?_
  refine PW_bipush (v := 6) c_M_isUnder_45 (by decide) ?_
  refine PW_icmp_ne c_M_isUnder_47 (fun _ => ?_) (fun h6 => absurd h6 (by decide))
  refine PW_iconst (v := 0) c_M_isUnder_60 (by decide) ?_
  refine PW_ireturn (ty := .boolean) c_M_isUnder_61 rfl (by decide +kernel) ?_
  show PW _ _ _ 10 [some (.ref 70), some (.int b), some (.int xx), none] [.int 0] (E x (tr 103 611 y l))
  refine PW_if_eq c_M_staying_10 (fun _ => ?_) (fun h7 => absurd (by decide) h7)
  refine PW_aload_n c_M_staying_28 rfl ?_
  refine PW_get (v := .ref 102) c_M_staying_29 fl_M_105 (gf_70_50 _ _) ?_
  refine PW_iload_n c_M_staying_32 rfl ?_
  refine PW_iald (j := b.toNatClampNeg) c_M_staying_33 (ar_102 _ _) (vp_in_iff.mpr K.1) rfl ?_
  show PW _ _ _ 34 [some (.ref 70), some (.int b), some (.int xx), none] [.int (((tr 103 611 y l).2.1 102) b.toNatClampNeg)] (E x (tr 103 611 y l))
  rw [tr_A (by decide), hk]
  show PW _ _ _ 34 [some (.ref 70), some (.int b), some (.int xx), none] [.int 7] (E x (tr 103 611 y l))
  refine PW_bipush (v := 7) c_M_staying_34 (by decide) ?_
  refine PW_icmp_ne c_M_staying_36 (fun h8 => absurd (by decide) h8) (fun _ => ?_)
  refine PW_aload_n c_M_staying_39 rfl ?_
  refine PW_bipush (v := 80) c_M_staying_40 (by decide) ?_
  refine PW_V0 (d2 := 0) (st := []) [.int 80] c_M_staying_42 lk_M_staying_361 (po_70 _ _) rfl rfl rfl (Nat.le_of_ble_eq_true rfl) (by first | decide | omega) (Nat.le_of_ble_eq_true rfl) ?_
  refine sp_ran (by (try simp only [List.length_cons]); omega) ?_
  show PW _ _ _ 45 [some (.ref 70), some (.int b), some (.int xx), none] [] (E x (tr 103 611 y (80 :: l)))
  refine PW_aload_n c_M_staying_45 rfl ?_
  refine PW_iload_n c_M_staying_46 rfl ?_
  refine PW_iload_n c_M_staying_47 rfl ?_
  refine PW_V0 (d2 := 4) (st := []) [.int b, .int xx] c_M_staying_48 lk_M_staying_376 (po_70 _ _) rfl rfl rfl (Nat.le_of_ble_eq_true rfl) (by first | decide | omega) (Nat.le_of_ble_eq_true rfl) ?_
  refine sp_M_plainStays_7 K (by (try simp only [List.length_cons]); omega) ?_
  show PW _ _ _ 51 [some (.ref 70), some (.int b), some (.int xx), none] [.int ((((xx + b) * 2) - 1) * 2)] (E x (tr 103 611 y (1 :: 70 :: 81 :: 10 :: 80 :: l)))
  refine PW_istore_n (i := 3) (L2 := [some (.ref 70), some (.int b), some (.int xx), some (.int ((((xx + b) * 2) - 1) * 2))]) c_M_staying_51 rfl (Nat.le_of_ble_eq_true rfl) rfl rfl ?_
  refine PW_iload_n c_M_staying_52 rfl ?_
  refine PW_aload_n c_M_staying_53 rfl ?_
  refine PW_iload_n c_M_staying_54 rfl ?_
  refine PW_iconst (v := 2) c_M_staying_55 (by decide) ?_
  refine PW_V0 (d2 := 4) (st := [.int ((((xx + b) * 2) - 1) * 2)]) [.int b, .int 2] c_M_staying_56 lk_M_staying_382 (po_70 _ _) rfl rfl rfl (Nat.le_of_ble_eq_true rfl) (by first | decide | omega) (Nat.le_of_ble_eq_true rfl) ?_
  refine sp_M_turning_7 K (by (try simp only [List.length_cons]); omega) ?_
  show PW _ _ _ 59 [some (.ref 70), some (.int b), some (.int xx), some (.int ((((xx + b) * 2) - 1) * 2))] [.int ((2 : Int32) ^^^ b), .int ((((xx + b) * 2) - 1) * 2)] (E x (tr 103 611 y (11 :: 1 :: 70 :: 81 :: 10 :: 80 :: l)))
  refine PW_iadd c_M_staying_59 ?_
  refine PW_ireturn (ty := .int) c_M_staying_60 rfl rfl ?_
  exact h
theorem sp_M_plainTells_7 {z : ZS} {post : Option Value → List PE → Prop} {x y : XS} {l : List Int32} {b xx : Int32} (K : km y b 7) (hl : l.length + 8 ≤ 24) (h : post (some (.int ((((((xx + b) * 2) - 1) * 2) + ((2 : Int32) ^^^ b)) - ((1 : Int32) ^^^ b)))) (E x (tr 103 611 y (11 :: 11 :: 1 :: 70 :: 81 :: 10 :: 80 :: 2 :: l)))) : PW (7, 0, 0, z) m_M_plainTells post 0 [some (.ref 70), some (.int b), some (.int xx), none] [] (E x (tr 103 611 y l)) := by
  have hk := K.2
  refine PW_aload_n c_M_plainTells_0 rfl ?_
  refine PW_iconst (v := 2) c_M_plainTells_1 (by decide) ?_
  refine PW_V0 (d2 := 0) (st := []) [.int 2] c_M_plainTells_2 lk_M_plainTells_361 (po_70 _ _) rfl rfl rfl (Nat.le_of_ble_eq_true rfl) (by first | decide | omega) (Nat.le_of_ble_eq_true rfl) ?_
  refine sp_ran (by (try simp only [List.length_cons]); omega) ?_
  show PW _ _ _ 5 [some (.ref 70), some (.int b), some (.int xx), none] [] (E x (tr 103 611 y (2 :: l)))
  refine PW_aload_n c_M_plainTells_5 rfl ?_
  refine PW_iload_n c_M_plainTells_6 rfl ?_
  refine PW_iload_n c_M_plainTells_7 rfl ?_
  refine PW_V0 (d2 := 6) (st := []) [.int b, .int xx] c_M_plainTells_8 lk_M_plainTells_391 (po_70 _ _) rfl rfl rfl (Nat.le_of_ble_eq_true rfl) (by first | decide | omega) (Nat.le_of_ble_eq_true rfl) ?_
  refine sp_M_staying_7 K (by (try simp only [List.length_cons]); omega) ?_
  show PW _ _ _ 11 [some (.ref 70), some (.int b), some (.int xx), none] [.int (((((xx + b) * 2) - 1) * 2) + ((2 : Int32) ^^^ b))] (E x (tr 103 611 y (11 :: 1 :: 70 :: 81 :: 10 :: 80 :: 2 :: l)))
  refine PW_istore_n (i := 3) (L2 := [some (.ref 70), some (.int b), some (.int xx), some (.int (((((xx + b) * 2) - 1) * 2) + ((2 : Int32) ^^^ b)))]) c_M_plainTells_11 rfl (Nat.le_of_ble_eq_true rfl) rfl rfl ?_
  refine PW_iload_n c_M_plainTells_12 rfl ?_
  refine PW_aload_n c_M_plainTells_13 rfl ?_
  refine PW_iload_n c_M_plainTells_14 rfl ?_
  refine PW_iconst (v := 1) c_M_plainTells_15 (by decide) ?_
  refine PW_V0 (d2 := 4) (st := [.int (((((xx + b) * 2) - 1) * 2) + ((2 : Int32) ^^^ b))]) [.int b, .int 1] c_M_plainTells_16 lk_M_plainTells_382 (po_70 _ _) rfl rfl rfl (Nat.le_of_ble_eq_true rfl) (by first | decide | omega) (Nat.le_of_ble_eq_true rfl) ?_
  refine sp_M_turning_7 K (by (try simp only [List.length_cons]); omega) ?_
  show PW _ _ _ 19 [some (.ref 70), some (.int b), some (.int xx), some (.int (((((xx + b) * 2) - 1) * 2) + ((2 : Int32) ^^^ b)))] [.int ((1 : Int32) ^^^ b), .int (((((xx + b) * 2) - 1) * 2) + ((2 : Int32) ^^^ b))] (E x (tr 103 611 y (11 :: 11 :: 1 :: 70 :: 81 :: 10 :: 80 :: 2 :: l)))
  refine PW_isub c_M_plainTells_19 ?_
  refine PW_ireturn (ty := .int) c_M_plainTells_20 rfl rfl ?_
  exact h
theorem sp_M_telling_7 {z : ZS} {post : Option Value → List PE → Prop} {x y : XS} {l : List Int32} {b xx : Int32} (K : km y b 7) (hl : l.length + 8 ≤ 24) (h : post (some (.int ((((((xx + b) * 2) - 1) * 2) + ((2 : Int32) ^^^ b)) - ((1 : Int32) ^^^ b)))) (E x (tr 103 611 y (11 :: 11 :: 1 :: 70 :: 81 :: 10 :: 80 :: 2 :: l)))) : PW (8, 0, 0, z) m_M_telling post 0 [some (.ref 70), some (.int b), some (.int xx)] [] (E x (tr 103 611 y l)) := by
  have hk := K.2
  refine PW_aload_n c_M_telling_0 rfl ?_
  refine PW_get (v := .ref 102) c_M_telling_1 fl_M_105 (gf_70_50 _ _) ?_
  refine PW_iload_n c_M_telling_4 rfl ?_
  refine PW_iald (j := b.toNatClampNeg) c_M_telling_5 (ar_102 _ _) (vp_in_iff.mpr K.1) rfl ?_
  show PW _ _ _ 6 [some (.ref 70), some (.int b), some (.int xx)] [.int (((tr 103 611 y l).2.1 102) b.toNatClampNeg)] (E x (tr 103 611 y l))
  rw [tr_A (by decide), hk]
  show PW _ _ _ 6 [some (.ref 70), some (.int b), some (.int xx)] [.int 7] (E x (tr 103 611 y l))
  refine PW_iconst (v := 4) c_M_telling_6 (by decide) ?_
  refine PW_icmp_ne c_M_telling_7 (fun _ => ?_) (fun h0 => absurd h0 (by decide))
  refine PW_aload_n c_M_telling_25 rfl ?_
  refine PW_get (v := .ref 102) c_M_telling_26 fl_M_105 (gf_70_50 _ _) ?_
  refine PW_iload_n c_M_telling_29 rfl ?_
  refine PW_iald (j := b.toNatClampNeg) c_M_telling_30 (ar_102 _ _) (vp_in_iff.mpr K.1) rfl ?_
  show PW _ _ _ 31 [some (.ref 70), some (.int b), some (.int xx)] [.int (((tr 103 611 y l).2.1 102) b.toNatClampNeg)] (E x (tr 103 611 y l))
  rw [tr_A (by decide), hk]
  show PW _ _ _ 31 [some (.ref 70), some (.int b), some (.int xx)] [.int 7] (E x (tr 103 611 y l))
  refine PW_iconst (v := 5) c_M_telling_31 (by decide) ?_
  refine PW_icmp_ne c_M_telling_32 (fun _ => ?_) (fun h1 => absurd h1 (by decide))
  refine PW_aload_n c_M_telling_50 rfl ?_
  refine PW_iload_n c_M_telling_51 rfl ?_
  refine PW_iload_n c_M_telling_52 rfl ?_
  refine PW_V0 (d2 := 7) (st := []) [.int b, .int xx] c_M_telling_53 lk_M_telling_394 (po_70 _ _) rfl rfl rfl (Nat.le_of_ble_eq_true rfl) (by first | decide | omega) (Nat.le_of_ble_eq_true rfl) ?_
  refine sp_M_plainTells_7 K (by (try simp only [List.length_cons]); omega) ?_
  show PW _ _ _ 56 [some (.ref 70), some (.int b), some (.int xx)] [.int ((((((xx + b) * 2) - 1) * 2) + ((2 : Int32) ^^^ b)) - ((1 : Int32) ^^^ b))] (E x (tr 103 611 y (11 :: 11 :: 1 :: 70 :: 81 :: 10 :: 80 :: 2 :: l)))
  refine PW_ireturn (ty := .int) c_M_telling_56 rfl rfl ?_
  exact h
theorem INV_tr {t : Nat} {x y : XS} (hI : INV t x y) (L : List Int32) (hL : L.length ≤ 24) : INV t (tr 56 435 x L) (tr 103 611 y L) := by
  obtain ⟨hg, hc, ht0, hl, hd, hb, hs⟩ := id hI
  obtain ⟨⟨nb, hb1, hb2, hb3, hb4⟩, nr, hr1, hr2, hr3, hr4⟩ := id hb
  unfold tr
  refine ⟨hg.cg (fun n q1 q2 => by first | rfl | (simp only [sI_1, sI_A, sI_G, sA_1, sA_A, sA_G, sG_1, sG_A, sG_G]; repeat rw [if_neg (by omega)])) (fun n q1 q2 => by first | rfl | (simp only [sI_1, sI_A, sI_G, sA_1, sA_A, sA_G, sG_1, sG_A, sG_G]; repeat rw [if_neg (by omega)])) (by first | rfl | (simp only [sI_1, sI_A, sI_G, sA_1, sA_A, sA_G, sG_1, sG_A, sG_G]; repeat rw [if_neg (by omega)])) (fun n q1 q2 => by first | rfl | (simp only [sI_1, sI_A, sI_G, sA_1, sA_A, sA_G, sG_1, sG_A, sG_G]; repeat rw [if_neg (by omega)])), hc.cg (fun n q1 q2 => by first | rfl | (simp only [sI_1, sI_A, sI_G, sA_1, sA_A, sA_G, sG_1, sG_A, sG_G]; repeat rw [if_neg (by omega)])) (fun n q1 q2 => by first | rfl | (simp only [sI_1, sI_A, sI_G, sA_1, sA_A, sA_G, sG_1, sG_A, sG_G]; repeat rw [if_neg (by omega)])) (fun n q1 q2 => by first | rfl | (simp only [sI_1, sI_A, sI_G, sA_1, sA_A, sA_G, sG_1, sG_A, sG_G]; repeat rw [if_neg (by omega)])) (fun n q1 q2 => by first | rfl | (simp only [sI_1, sI_A, sI_G, sA_1, sA_A, sA_G, sG_1, sG_A, sG_G]; repeat rw [if_neg (by omega)])) (Nat.le_of_eq (nG_cg (by first | rfl | (simp only [sI_1, sI_A, sI_G, sA_1, sA_A, sA_G, sG_1, sG_A, sG_G]; repeat rw [if_neg (by omega)]))).symm), ht0.cg (by first | rfl | (simp only [sI_1, sI_A, sI_G, sA_1, sA_A, sA_G, sG_1, sG_A, sG_G]; repeat rw [if_neg (by omega)])) (by first | rfl | (simp only [sI_1, sI_A, sI_G, sA_1, sA_A, sA_G, sG_1, sG_A, sG_G]; repeat rw [if_neg (by omega)])) (by first | rfl | (simp only [sI_1, sI_A, sI_G, sA_1, sA_A, sA_G, sG_1, sG_A, sG_G]; repeat rw [if_neg (by omega)])) (by first | rfl | (simp only [sI_1, sI_A, sI_G, sA_1, sA_A, sA_G, sG_1, sG_A, sG_G]; repeat rw [if_neg (by omega)])), hl.cg (by first | rfl | (simp only [sI_1, sI_A, sI_G, sA_1, sA_A, sA_G, sG_1, sG_A, sG_G]; repeat rw [if_neg (by omega)])) (fun n q1 q2 => by first | rfl | (simp only [sI_1, sI_A, sI_G, sA_1, sA_A, sA_G, sG_1, sG_A, sG_G]; repeat rw [if_neg (by omega)])) (by first | rfl | (simp only [sI_1, sI_A, sI_G, sA_1, sA_A, sA_G, sG_1, sG_A, sG_G]; repeat rw [if_neg (by omega)])) (fun n q1 q2 => by first | rfl | (simp only [sI_1, sI_A, sI_G, sA_1, sA_A, sA_G, sG_1, sG_A, sG_G]; repeat rw [if_neg (by omega)])), hd.cg (Nat.le_refl _) (fun n q1 q2 => by first | rfl | (simp only [sI_1, sI_A, sI_G, sA_1, sA_A, sA_G, sG_1, sG_A, sG_G]; repeat rw [if_neg (by omega)])) (by first | rfl | (simp only [sI_1, sI_A, sI_G, sA_1, sA_A, sA_G, sG_1, sG_A, sG_G]; repeat rw [if_neg (by omega)])) (by first | rfl | (simp only [sI_1, sI_A, sI_G, sA_1, sA_A, sA_G, sG_1, sG_A, sG_G]; repeat rw [if_neg (by omega)])) (fun n q1 q2 => by first | rfl | (simp only [sI_1, sI_A, sI_G, sA_1, sA_A, sA_G, sG_1, sG_A, sG_G]; repeat rw [if_neg (by omega)])), ⟨⟨nb, hb1, hb2, hb3, hb4⟩, L.length, by omega, sI_s, sI_s, fun i h1 h2 => ?_⟩, hs.cg (fun n q1 q2 => by first | rfl | (simp only [sI_1, sI_A, sI_G, sA_1, sA_A, sA_G, sG_1, sG_A, sG_G]; repeat rw [if_neg (by omega)])) (fun n q1 q2 => by first | rfl | (simp only [sI_1, sI_A, sI_G, sA_1, sA_A, sA_G, sG_1, sG_A, sG_G]; repeat rw [if_neg (by omega)])) (by first | exact Int.le_refl _ | (simp only [sI_1, sI_A, sI_G, sA_1, sA_A, sA_G, sG_1, sG_A, sG_G]; repeat rw [if_neg (by omega)])) (fun n q1 q2 => by first | rfl | (simp only [sI_1, sI_A, sI_G, sA_1, sA_A, sA_G, sG_1, sG_A, sG_G]; repeat rw [if_neg (by omega)])) (by first | rfl | (simp only [sI_1, sI_A, sI_G, sA_1, sA_A, sA_G, sG_1, sG_A, sG_G]; repeat rw [if_neg (by omega)]))⟩
  show (if i < L.length then L.getD (L.length - 1 - i) 0 else x.2.1 56 i) = (if i < L.length then L.getD (L.length - 1 - i) 0 else y.2.1 103 i)
  rw [if_pos h1, if_pos h1]
