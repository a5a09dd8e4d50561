/-! acts whose bodies come from above -/
/-- the trace's row and how many ran: the newest stands first in l -/
def tr (a c : Nat) (x : XS) (l : List Int32) : XS := sI (sA x a (fun i => if i < l.length then l.getD (l.length - 1 - i) 0 else x.2.1 a i)) c (nI l.length)
theorem tr_1 {a c n : Nat} {x : XS} {l : List Int32} (h : n ≠ c) : (tr a c x l).1 n = x.1 n := if_neg h
theorem tr_A {a c b : Nat} {x : XS} {l : List Int32} (h : b ≠ a) : (tr a c x l).2.1 b = x.2.1 b := if_neg h
theorem tr_c {a c : Nat} {x : XS} {l : List Int32} : (tr a c x l).1 c = nI l.length := if_pos rfl
theorem tr_nil (a c : Nat) (x : XS) : tr a c x [] = sI x c 0 := by
  unfold tr
  rw [show (fun i => if i < ([] : List Int32).length then ([] : List Int32).getD (([] : List Int32).length - 1 - i) 0 else x.2.1 a i) = x.2.1 a from funext fun i => if_neg (Nat.not_lt_zero i), sA_id]
  rfl
theorem tr_cons (a c : Nat) (x : XS) (l : List Int32) (v : Int32) : sI (sA (tr a c x l) a (upd ((tr a c x l).2.1 a) l.length v)) c (nI l.length + 1) = tr a c x (v :: l) := by
  unfold tr
  rw [show ∀ (u : XS) (f : Nat → Int32) (w : Int32), sA (sI u c w) a f = sI (sA u a f) c w from fun _ _ _ => rfl, sI_sI, sA_sA, nI_1, List.length_cons]
  refine congrArg (fun f => sI (sA x a f) c (nI (l.length + 1))) (funext fun i => ?_)
  show upd ((sI (sA x a _) c _).2.1 a) l.length v i = _
  by_cases h : i = l.length
  · subst h
    rw [upd_s, if_pos (by omega), show l.length + 1 - 1 - l.length = 0 by omega]
    rfl
  · rw [upd_n h, sI_A, sA_at]
    by_cases h2 : i < l.length
    · rw [if_pos h2, if_pos (by omega), show l.length + 1 - 1 - i = (l.length - 1 - i) + 1 by omega]
      rfl
    · rw [if_neg h2, if_neg (by omega)]
def kb (x : XS) (b u : Int32) : Prop := (0 ≤ b.toInt ∧ b.toInt < (x.1 434).toInt) ∧ b.toInt < 50 ∧ x.2.1 55 b.toNatClampNeg = u
def km (y : XS) (b u : Int32) : Prop := (0 ≤ b.toInt ∧ b.toInt < 50) ∧ y.2.1 102 b.toNatClampNeg = u
theorem sp_kof {z : ZS} {post : Option Value → List PE → Prop} {x y : XS} {l : List Int32} {b u : Int32} (K : kb x b u) (h : post (some (.int u)) (E (tr 56 435 x l) y)) : PW (1, 0, 0, z) m_B_kindOf post 0 [some (.ref 54), some (.int b)] [] (E (tr 56 435 x l) y) := by
  obtain ⟨⟨k1, k2⟩, k3, k4⟩ := K
  refine PW_aload_n c_B_kindOf_0 rfl ?_
  refine PW_iload_n c_B_kindOf_1 rfl ?_
  refine PW_V0 (d2 := 0) (st := []) [.int b] c_B_kindOf_2 lk_B_kindOf_39 (po_54 _ _) rfl rfl rfl (Nat.le_of_ble_eq_true rfl) (by first | decide | omega) (Nat.le_of_ble_eq_true rfl) ?_
  show PW _ _ _ 0 [some (.ref 54), some (.int b)] [] (E (tr 56 435 x l) y)
  refine PW_iload_n c_B_isBody_0 rfl ?_
  refine PW_if_lt c_B_isBody_1 (fun h0 => absurd h0 (by rw [Int32.lt_iff_toInt_lt, tiA.1]; omega)) (fun h0 => ?_)
  refine PW_iload_n c_B_isBody_4 rfl ?_
  refine PW_aload_n c_B_isBody_5 rfl ?_
  refine PW_get (v := .int ((tr 56 435 x l).1 434)) c_B_isBody_6 fl_B_32 (gf_54_2 _ _) ?_
  refine PW_icmp_ge c_B_isBody_9 (fun h1 => absurd h1 (by rw [tr_1 (by decide), Int32.le_iff_toInt_le]; omega)) (fun h1 => ?_)
  refine PW_iload_n c_B_isBody_12 rfl ?_
  refine PW_bipush (v := 50) c_B_isBody_13 (by decide) ?_
  refine PW_icmp_ge c_B_isBody_15 (fun h2 => absurd h2 (by rw [Int32.le_iff_toInt_le, show (50 : Int32).toInt = 50 by decide]; omega)) (fun h2 => ?_)
  refine PW_iconst (v := 1) c_B_isBody_18 (by decide) ?_
  refine PW_goto c_B_isBody_19 ?_
  refine PW_ireturn (ty := .boolean) c_B_isBody_23 rfl (by decide +kernel) ?_
  show PW _ _ _ 5 [some (.ref 54), some (.int b)] [.int 1] (E (tr 56 435 x l) y)
  refine PW_if_eq c_B_kindOf_5 (fun h3 => absurd h3 (by decide)) (fun _ => ?_)
  refine PW_aload_n c_B_kindOf_8 rfl ?_
  refine PW_get (v := .ref 55) c_B_kindOf_9 fl_B_11 (gf_54_0 _ _) ?_
  refine PW_iload_n c_B_kindOf_12 rfl ?_
  refine PW_iald (j := b.toNatClampNeg) c_B_kindOf_13 (ar_55 _ _) (vp_in_iff.mpr ⟨k1, k3⟩) rfl ?_
  show PW _ _ _ 14 [some (.ref 54), some (.int b)] [.int (((tr 56 435 x l).2.1 55) b.toNatClampNeg)] (E (tr 56 435 x l) y)
  refine PW_goto c_B_kindOf_14 ?_
  refine PW_ireturn (ty := .int) c_B_kindOf_18 rfl rfl ?_
  exact pqi h (by rw [tr_A (by decide)]; exact k4.symm)
theorem sp_note {z : ZS} {post : Option Value → List PE → Prop} {x y : XS} {l : List Int32} {v : Int32} (hl : l.length < 24) (h : post none (E (tr 56 435 x (v :: l)) y)) : PW (0, 0, 0, z) m_B_note post 0 [some (.ref 54), some (.int v)] [] (E (tr 56 435 x l) y) := by
  refine PW_aload_n c_B_note_0 rfl ?_
  refine PW_get (v := .int ((tr 56 435 x l).1 435)) c_B_note_1 fl_B_36 (gf_54_3 _ _) ?_
  refine PW_if_lt c_B_note_4 (fun h0 => absurd h0 (by rw [tr_c]; exact nI_pos (by omega))) (fun h0 => ?_)
  refine PW_aload_n c_B_note_7 rfl ?_
  refine PW_get (v := .int ((tr 56 435 x l).1 435)) c_B_note_8 fl_B_36 (gf_54_3 _ _) ?_
  refine PW_bipush (v := 24) c_B_note_11 (by decide) ?_
  refine PW_icmp_ge c_B_note_13 (fun h1 => absurd h1 (by rw [tr_c]; exact fun q => absurd ((nI_leI (by decide) (by omega)).mp (show nI 24 ≤ nI l.length from q)) (by omega))) (fun h1 => ?_)
  refine PW_aload_n c_B_note_16 rfl ?_
  refine PW_get (v := .ref 56) c_B_note_17 fl_B_15 (gf_54_1 _ _) ?_
  refine PW_aload_n c_B_note_20 rfl ?_
  refine PW_get (v := .int ((tr 56 435 x l).1 435)) c_B_note_21 fl_B_36 (gf_54_3 _ _) ?_
  refine PW_iload_n c_B_note_24 rfl ?_
  refine PW_iast (j := l.length) (w2 := E (sA (tr 56 435 x l) 56 (upd ((tr 56 435 x l).2.1 56) l.length v)) y) c_B_note_25 (ar_56 _ _) (by rw [tr_c]; exact vp_in_nI (by omega) (by decide)) (by rw [tr_c]; exact nI_clamp (by omega)) (aw_56 _ _ _) ?_
  refine PW_aload_n c_B_note_26 rfl ?_
  refine PW_dup c_B_note_27 rfl ?_
  refine PW_get (v := .int ((tr 56 435 x l).1 435)) c_B_note_28 fl_B_36 (gf_54_3 _ _) ?_
  refine PW_iconst (v := 1) c_B_note_31 (by decide) ?_
  refine PW_iadd c_B_note_32 ?_
  refine PW_put (w2 := E (sI (sA (tr 56 435 x l) 56 (upd ((tr 56 435 x l).2.1 56) l.length v)) 435 (((tr 56 435 x l).1 435) + 1)) y) c_B_note_33 fp_B_note_36 rfl (pf_54_3 _ _ _) ?_
  refine PW_vreturn c_B_note_36 rfl ?_
  rw [show (tr 56 435 x l).1 435 = nI l.length from tr_c, tr_cons]
  exact h
theorem sp_ran {z : ZS} {post : Option Value → List PE → Prop} {x y : XS} {l : List Int32} {v : Int32} (hl : l.length < 24) (h : post none (E x (tr 103 611 y (v :: l)))) : PW (0, 0, 0, z) m_M_ran post 0 [some (.ref 70), some (.int v)] [] (E x (tr 103 611 y l)) := by
  refine PW_aload_n c_M_ran_0 rfl ?_
  refine PW_get (v := .int ((tr 103 611 y l).1 611)) c_M_ran_1 fl_M_358 (gf_70_51 _ _) ?_
  refine PW_bipush (v := 24) c_M_ran_4 (by decide) ?_
  refine PW_icmp_ge c_M_ran_6 (fun h0 => absurd h0 (by rw [tr_c]; exact fun q => absurd ((nI_leI (by decide) (by omega)).mp (show nI 24 ≤ nI l.length from q)) (by omega))) (fun h0 => ?_)
  refine PW_aload_n c_M_ran_9 rfl ?_
  refine PW_get (v := .ref 103) c_M_ran_10 fl_M_108 (gf_70_52 _ _) ?_
  refine PW_aload_n c_M_ran_13 rfl ?_
  refine PW_get (v := .int ((tr 103 611 y l).1 611)) c_M_ran_14 fl_M_358 (gf_70_51 _ _) ?_
  refine PW_iload_n c_M_ran_17 rfl ?_
  refine PW_iast (j := l.length) (w2 := E x (sA (tr 103 611 y l) 103 (upd ((tr 103 611 y l).2.1 103) l.length v))) c_M_ran_18 (ar_103 _ _) (by rw [tr_c]; exact vp_in_nI (by omega) (by decide)) (by rw [tr_c]; exact nI_clamp (by omega)) (aw_103 _ _ _) ?_
  refine PW_aload_n c_M_ran_19 rfl ?_
  refine PW_dup c_M_ran_20 rfl ?_
  refine PW_get (v := .int ((tr 103 611 y l).1 611)) c_M_ran_21 fl_M_358 (gf_70_51 _ _) ?_
  refine PW_iconst (v := 1) c_M_ran_24 (by decide) ?_
  refine PW_iadd c_M_ran_25 ?_
  refine PW_put (w2 := E x (sI (sA (tr 103 611 y l) 103 (upd ((tr 103 611 y l).2.1 103) l.length v)) 611 (((tr 103 611 y l).1 611) + 1))) c_M_ran_26 fp_M_ran_358 rfl (pf_70_51 _ _ _) ?_
  refine PW_vreturn c_M_ran_29 rfl ?_
  rw [show (tr 103 611 y l).1 611 = nI l.length from tr_c, tr_cons]
  exact h
theorem sp_own_0_0 {z : ZS} {post : Option Value → List PE → Prop} {x y : XS} (h : post (some (.int (1))) (E x y)) : PW (1, 0, 0, z) m_B_ownBody post 0 [some (.int 0), some (.int 0), none] [] (E x y) := by
  refine PW_iload_n c_B_ownBody_0 rfl ?_
  refine PW_iconst (v := 4) c_B_ownBody_1 (by decide) ?_
  refine PW_imul c_B_ownBody_2 ?_
  refine PW_iload_n c_B_ownBody_3 rfl ?_
  refine PW_iadd c_B_ownBody_4 ?_
  refine PW_istore_n (i := 2) (L2 := [some (.int 0), some (.int 0), some (.int ((0 * 4) + 0))]) c_B_ownBody_5 rfl (Nat.le_of_ble_eq_true rfl) rfl rfl ?_
  refine PW_iload_n c_B_ownBody_6 rfl ?_
  refine PW_S0 (d2 := 0) (st := []) [.int 0] c_B_ownBody_7 lk_B_ownBody_18 rfl rfl rfl (Nat.le_of_ble_eq_true rfl) (by first | decide | omega) (Nat.le_of_ble_eq_true rfl) ?_
  refine sp_B_isKind  ?_
  show PW _ _ _ 10 [some (.int 0), some (.int 0), some (.int ((0 * 4) + 0))] [.int (b2i (0 ≤ (0 : Int32) ∧ (0 : Int32) ≤ 7))] (E x y)
  refine PW_if_eq c_B_ownBody_10 (fun h0 => absurd (by decide) (b2i_0.mp h0)) (fun _ => ?_)
  refine PW_iload_n c_B_ownBody_13 rfl ?_
  refine PW_if_lt c_B_ownBody_14 (fun h1 => absurd h1 (by decide)) (fun h1 => ?_)
  refine PW_iload_n c_B_ownBody_17 rfl ?_
  refine PW_gets (j := 3) c_B_ownBody_18 (by decide) sl_B_29 ?_
  refine PW_rolen (v := 32) c_B_ownBody_21 (by decide) (by decide) ?_
  refine PW_icmp_ge c_B_ownBody_22 (fun h2 => absurd h2 (by decide)) (fun h2 => ?_)
  refine PW_gets (j := 3) c_B_ownBody_25 (by decide) sl_B_29 ?_
  refine PW_iload_n c_B_ownBody_28 rfl ?_
  refine PW_roald (j := 3) (q := 0) c_B_ownBody_29 (by decide) (vp_in_iff.mpr (by decide)) (by decide) rfl ?_
  show PW _ _ _ 30 [some (.int 0), some (.int 0), some (.int ((0 * 4) + 0))] [.int ((roT 3).2.2.getD 0 0)] (E x y)
  refine PW_goto c_B_ownBody_30 ?_
  refine PW_ireturn (ty := .int) c_B_ownBody_34 rfl rfl ?_
  exact h
theorem sp_own_0_1 {z : ZS} {post : Option Value → List PE → Prop} {x y : XS} (h : post (some (.int (10))) (E x y)) : PW (1, 0, 0, z) m_B_ownBody post 0 [some (.int 0), some (.int 1), none] [] (E x y) := by
  refine PW_iload_n c_B_ownBody_0 rfl ?_
  refine PW_iconst (v := 4) c_B_ownBody_1 (by decide) ?_
  refine PW_imul c_B_ownBody_2 ?_
  refine PW_iload_n c_B_ownBody_3 rfl ?_
  refine PW_iadd c_B_ownBody_4 ?_
  refine PW_istore_n (i := 2) (L2 := [some (.int 0), some (.int 1), some (.int ((0 * 4) + 1))]) c_B_ownBody_5 rfl (Nat.le_of_ble_eq_true rfl) rfl rfl ?_
  refine PW_iload_n c_B_ownBody_6 rfl ?_
  refine PW_S0 (d2 := 0) (st := []) [.int 0] c_B_ownBody_7 lk_B_ownBody_18 rfl rfl rfl (Nat.le_of_ble_eq_true rfl) (by first | decide | omega) (Nat.le_of_ble_eq_true rfl) ?_
  refine sp_B_isKind  ?_
  show PW _ _ _ 10 [some (.int 0), some (.int 1), some (.int ((0 * 4) + 1))] [.int (b2i (0 ≤ (0 : Int32) ∧ (0 : Int32) ≤ 7))] (E x y)
  refine PW_if_eq c_B_ownBody_10 (fun h0 => absurd (by decide) (b2i_0.mp h0)) (fun _ => ?_)
  refine PW_iload_n c_B_ownBody_13 rfl ?_
  refine PW_if_lt c_B_ownBody_14 (fun h1 => absurd h1 (by decide)) (fun h1 => ?_)
  refine PW_iload_n c_B_ownBody_17 rfl ?_
  refine PW_gets (j := 3) c_B_ownBody_18 (by decide) sl_B_29 ?_
  refine PW_rolen (v := 32) c_B_ownBody_21 (by decide) (by decide) ?_
  refine PW_icmp_ge c_B_ownBody_22 (fun h2 => absurd h2 (by decide)) (fun h2 => ?_)
  refine PW_gets (j := 3) c_B_ownBody_25 (by decide) sl_B_29 ?_
  refine PW_iload_n c_B_ownBody_28 rfl ?_
  refine PW_roald (j := 3) (q := 1) c_B_ownBody_29 (by decide) (vp_in_iff.mpr (by decide)) (by decide) rfl ?_
  show PW _ _ _ 30 [some (.int 0), some (.int 1), some (.int ((0 * 4) + 1))] [.int ((roT 3).2.2.getD 1 0)] (E x y)
  refine PW_goto c_B_ownBody_30 ?_
  refine PW_ireturn (ty := .int) c_B_ownBody_34 rfl rfl ?_
  exact h
theorem sp_own_0_2 {z : ZS} {post : Option Value → List PE → Prop} {x y : XS} (h : post (some (.int (11))) (E x y)) : PW (1, 0, 0, z) m_B_ownBody post 0 [some (.int 0), some (.int 2), none] [] (E x y) := by
  refine PW_iload_n c_B_ownBody_0 rfl ?_
  refine PW_iconst (v := 4) c_B_ownBody_1 (by decide) ?_
  refine PW_imul c_B_ownBody_2 ?_
  refine PW_iload_n c_B_ownBody_3 rfl ?_
  refine PW_iadd c_B_ownBody_4 ?_
  refine PW_istore_n (i := 2) (L2 := [some (.int 0), some (.int 2), some (.int ((0 * 4) + 2))]) c_B_ownBody_5 rfl (Nat.le_of_ble_eq_true rfl) rfl rfl ?_
  refine PW_iload_n c_B_ownBody_6 rfl ?_
  refine PW_S0 (d2 := 0) (st := []) [.int 0] c_B_ownBody_7 lk_B_ownBody_18 rfl rfl rfl (Nat.le_of_ble_eq_true rfl) (by first | decide | omega) (Nat.le_of_ble_eq_true rfl) ?_
  refine sp_B_isKind  ?_
  show PW _ _ _ 10 [some (.int 0), some (.int 2), some (.int ((0 * 4) + 2))] [.int (b2i (0 ≤ (0 : Int32) ∧ (0 : Int32) ≤ 7))] (E x y)
  refine PW_if_eq c_B_ownBody_10 (fun h0 => absurd (by decide) (b2i_0.mp h0)) (fun _ => ?_)
  refine PW_iload_n c_B_ownBody_13 rfl ?_
  refine PW_if_lt c_B_ownBody_14 (fun h1 => absurd h1 (by decide)) (fun h1 => ?_)
  refine PW_iload_n c_B_ownBody_17 rfl ?_
  refine PW_gets (j := 3) c_B_ownBody_18 (by decide) sl_B_29 ?_
  refine PW_rolen (v := 32) c_B_ownBody_21 (by decide) (by decide) ?_
  refine PW_icmp_ge c_B_ownBody_22 (fun h2 => absurd h2 (by decide)) (fun h2 => ?_)
  refine PW_gets (j := 3) c_B_ownBody_25 (by decide) sl_B_29 ?_
  refine PW_iload_n c_B_ownBody_28 rfl ?_
  refine PW_roald (j := 3) (q := 2) c_B_ownBody_29 (by decide) (vp_in_iff.mpr (by decide)) (by decide) rfl ?_
  show PW _ _ _ 30 [some (.int 0), some (.int 2), some (.int ((0 * 4) + 2))] [.int ((roT 3).2.2.getD 2 0)] (E x y)
  refine PW_goto c_B_ownBody_30 ?_
  refine PW_ireturn (ty := .int) c_B_ownBody_34 rfl rfl ?_
  exact h
theorem sp_own_0_3 {z : ZS} {post : Option Value → List PE → Prop} {x y : XS} (h : post (some (.int (2))) (E x y)) : PW (1, 0, 0, z) m_B_ownBody post 0 [some (.int 0), some (.int 3), none] [] (E x y) := by
  refine PW_iload_n c_B_ownBody_0 rfl ?_
  refine PW_iconst (v := 4) c_B_ownBody_1 (by decide) ?_
  refine PW_imul c_B_ownBody_2 ?_
  refine PW_iload_n c_B_ownBody_3 rfl ?_
  refine PW_iadd c_B_ownBody_4 ?_
  refine PW_istore_n (i := 2) (L2 := [some (.int 0), some (.int 3), some (.int ((0 * 4) + 3))]) c_B_ownBody_5 rfl (Nat.le_of_ble_eq_true rfl) rfl rfl ?_
  refine PW_iload_n c_B_ownBody_6 rfl ?_
  refine PW_S0 (d2 := 0) (st := []) [.int 0] c_B_ownBody_7 lk_B_ownBody_18 rfl rfl rfl (Nat.le_of_ble_eq_true rfl) (by first | decide | omega) (Nat.le_of_ble_eq_true rfl) ?_
  refine sp_B_isKind  ?_
  show PW _ _ _ 10 [some (.int 0), some (.int 3), some (.int ((0 * 4) + 3))] [.int (b2i (0 ≤ (0 : Int32) ∧ (0 : Int32) ≤ 7))] (E x y)
  refine PW_if_eq c_B_ownBody_10 (fun h0 => absurd (by decide) (b2i_0.mp h0)) (fun _ => ?_)
  refine PW_iload_n c_B_ownBody_13 rfl ?_
  refine PW_if_lt c_B_ownBody_14 (fun h1 => absurd h1 (by decide)) (fun h1 => ?_)
  refine PW_iload_n c_B_ownBody_17 rfl ?_
  refine PW_gets (j := 3) c_B_ownBody_18 (by decide) sl_B_29 ?_
  refine PW_rolen (v := 32) c_B_ownBody_21 (by decide) (by decide) ?_
  refine PW_icmp_ge c_B_ownBody_22 (fun h2 => absurd h2 (by decide)) (fun h2 => ?_)
  refine PW_gets (j := 3) c_B_ownBody_25 (by decide) sl_B_29 ?_
  refine PW_iload_n c_B_ownBody_28 rfl ?_
  refine PW_roald (j := 3) (q := 3) c_B_ownBody_29 (by decide) (vp_in_iff.mpr (by decide)) (by decide) rfl ?_
  show PW _ _ _ 30 [some (.int 0), some (.int 3), some (.int ((0 * 4) + 3))] [.int ((roT 3).2.2.getD 3 0)] (E x y)
  refine PW_goto c_B_ownBody_30 ?_
  refine PW_ireturn (ty := .int) c_B_ownBody_34 rfl rfl ?_
  exact h
theorem sp_own_1_0 {z : ZS} {post : Option Value → List PE → Prop} {x y : XS} (h : post (some (.int (20))) (E x y)) : PW (1, 0, 0, z) m_B_ownBody post 0 [some (.int 1), some (.int 0), none] [] (E x y) := by
  refine PW_iload_n c_B_ownBody_0 rfl ?_
  refine PW_iconst (v := 4) c_B_ownBody_1 (by decide) ?_
  refine PW_imul c_B_ownBody_2 ?_
  refine PW_iload_n c_B_ownBody_3 rfl ?_
  refine PW_iadd c_B_ownBody_4 ?_
  refine PW_istore_n (i := 2) (L2 := [some (.int 1), some (.int 0), some (.int ((1 * 4) + 0))]) c_B_ownBody_5 rfl (Nat.le_of_ble_eq_true rfl) rfl rfl ?_
  refine PW_iload_n c_B_ownBody_6 rfl ?_
  refine PW_S0 (d2 := 0) (st := []) [.int 1] c_B_ownBody_7 lk_B_ownBody_18 rfl rfl rfl (Nat.le_of_ble_eq_true rfl) (by first | decide | omega) (Nat.le_of_ble_eq_true rfl) ?_
  refine sp_B_isKind  ?_
  show PW _ _ _ 10 [some (.int 1), some (.int 0), some (.int ((1 * 4) + 0))] [.int (b2i (0 ≤ (1 : Int32) ∧ (1 : Int32) ≤ 7))] (E x y)
  refine PW_if_eq c_B_ownBody_10 (fun h0 => absurd (by decide) (b2i_0.mp h0)) (fun _ => ?_)
  refine PW_iload_n c_B_ownBody_13 rfl ?_
  refine PW_if_lt c_B_ownBody_14 (fun h1 => absurd h1 (by decide)) (fun h1 => ?_)
  refine PW_iload_n c_B_ownBody_17 rfl ?_
  refine PW_gets (j := 3) c_B_ownBody_18 (by decide) sl_B_29 ?_
  refine PW_rolen (v := 32) c_B_ownBody_21 (by decide) (by decide) ?_
  refine PW_icmp_ge c_B_ownBody_22 (fun h2 => absurd h2 (by decide)) (fun h2 => ?_)
  refine PW_gets (j := 3) c_B_ownBody_25 (by decide) sl_B_29 ?_
  refine PW_iload_n c_B_ownBody_28 rfl ?_
  refine PW_roald (j := 3) (q := 4) c_B_ownBody_29 (by decide) (vp_in_iff.mpr (by decide)) (by decide) rfl ?_
  show PW _ _ _ 30 [some (.int 1), some (.int 0), some (.int ((1 * 4) + 0))] [.int ((roT 3).2.2.getD 4 0)] (E x y)
  refine PW_goto c_B_ownBody_30 ?_
  refine PW_ireturn (ty := .int) c_B_ownBody_34 rfl rfl ?_
  exact h
theorem sp_own_1_1 {z : ZS} {post : Option Value → List PE → Prop} {x y : XS} (h : post (some (.int (0))) (E x y)) : PW (1, 0, 0, z) m_B_ownBody post 0 [some (.int 1), some (.int 1), none] [] (E x y) := by
  refine PW_iload_n c_B_ownBody_0 rfl ?_
  refine PW_iconst (v := 4) c_B_ownBody_1 (by decide) ?_
  refine PW_imul c_B_ownBody_2 ?_
  refine PW_iload_n c_B_ownBody_3 rfl ?_
  refine PW_iadd c_B_ownBody_4 ?_
  refine PW_istore_n (i := 2) (L2 := [some (.int 1), some (.int 1), some (.int ((1 * 4) + 1))]) c_B_ownBody_5 rfl (Nat.le_of_ble_eq_true rfl) rfl rfl ?_
  refine PW_iload_n c_B_ownBody_6 rfl ?_
  refine PW_S0 (d2 := 0) (st := []) [.int 1] c_B_ownBody_7 lk_B_ownBody_18 rfl rfl rfl (Nat.le_of_ble_eq_true rfl) (by first | decide | omega) (Nat.le_of_ble_eq_true rfl) ?_
  refine sp_B_isKind  ?_
  show PW _ _ _ 10 [some (.int 1), some (.int 1), some (.int ((1 * 4) + 1))] [.int (b2i (0 ≤ (1 : Int32) ∧ (1 : Int32) ≤ 7))] (E x y)
  refine PW_if_eq c_B_ownBody_10 (fun h0 => absurd (by decide) (b2i_0.mp h0)) (fun _ => ?_)
  refine PW_iload_n c_B_ownBody_13 rfl ?_
  refine PW_if_lt c_B_ownBody_14 (fun h1 => absurd h1 (by decide)) (fun h1 => ?_)
  refine PW_iload_n c_B_ownBody_17 rfl ?_
  refine PW_gets (j := 3) c_B_ownBody_18 (by decide) sl_B_29 ?_
  refine PW_rolen (v := 32) c_B_ownBody_21 (by decide) (by decide) ?_
  refine PW_icmp_ge c_B_ownBody_22 (fun h2 => absurd h2 (by decide)) (fun h2 => ?_)
  refine PW_gets (j := 3) c_B_ownBody_25 (by decide) sl_B_29 ?_
  refine PW_iload_n c_B_ownBody_28 rfl ?_
  refine PW_roald (j := 3) (q := 5) c_B_ownBody_29 (by decide) (vp_in_iff.mpr (by decide)) (by decide) rfl ?_
  show PW _ _ _ 30 [some (.int 1), some (.int 1), some (.int ((1 * 4) + 1))] [.int ((roT 3).2.2.getD 5 0)] (E x y)
  refine PW_goto c_B_ownBody_30 ?_
  refine PW_ireturn (ty := .int) c_B_ownBody_34 rfl rfl ?_
  exact h
theorem sp_own_1_2 {z : ZS} {post : Option Value → List PE → Prop} {x y : XS} (h : post (some (.int (0))) (E x y)) : PW (1, 0, 0, z) m_B_ownBody post 0 [some (.int 1), some (.int 2), none] [] (E x y) := by
  refine PW_iload_n c_B_ownBody_0 rfl ?_
  refine PW_iconst (v := 4) c_B_ownBody_1 (by decide) ?_
  refine PW_imul c_B_ownBody_2 ?_
  refine PW_iload_n c_B_ownBody_3 rfl ?_
  refine PW_iadd c_B_ownBody_4 ?_
  refine PW_istore_n (i := 2) (L2 := [some (.int 1), some (.int 2), some (.int ((1 * 4) + 2))]) c_B_ownBody_5 rfl (Nat.le_of_ble_eq_true rfl) rfl rfl ?_
  refine PW_iload_n c_B_ownBody_6 rfl ?_
  refine PW_S0 (d2 := 0) (st := []) [.int 1] c_B_ownBody_7 lk_B_ownBody_18 rfl rfl rfl (Nat.le_of_ble_eq_true rfl) (by first | decide | omega) (Nat.le_of_ble_eq_true rfl) ?_
  refine sp_B_isKind  ?_
  show PW _ _ _ 10 [some (.int 1), some (.int 2), some (.int ((1 * 4) + 2))] [.int (b2i (0 ≤ (1 : Int32) ∧ (1 : Int32) ≤ 7))] (E x y)
  refine PW_if_eq c_B_ownBody_10 (fun h0 => absurd (by decide) (b2i_0.mp h0)) (fun _ => ?_)
  refine PW_iload_n c_B_ownBody_13 rfl ?_
  refine PW_if_lt c_B_ownBody_14 (fun h1 => absurd h1 (by decide)) (fun h1 => ?_)
  refine PW_iload_n c_B_ownBody_17 rfl ?_
  refine PW_gets (j := 3) c_B_ownBody_18 (by decide) sl_B_29 ?_
  refine PW_rolen (v := 32) c_B_ownBody_21 (by decide) (by decide) ?_
  refine PW_icmp_ge c_B_ownBody_22 (fun h2 => absurd h2 (by decide)) (fun h2 => ?_)
  refine PW_gets (j := 3) c_B_ownBody_25 (by decide) sl_B_29 ?_
  refine PW_iload_n c_B_ownBody_28 rfl ?_
  refine PW_roald (j := 3) (q := 6) c_B_ownBody_29 (by decide) (vp_in_iff.mpr (by decide)) (by decide) rfl ?_
  show PW _ _ _ 30 [some (.int 1), some (.int 2), some (.int ((1 * 4) + 2))] [.int ((roT 3).2.2.getD 6 0)] (E x y)
  refine PW_goto c_B_ownBody_30 ?_
  refine PW_ireturn (ty := .int) c_B_ownBody_34 rfl rfl ?_
  exact h
theorem sp_own_1_3 {z : ZS} {post : Option Value → List PE → Prop} {x y : XS} (h : post (some (.int (0))) (E x y)) : PW (1, 0, 0, z) m_B_ownBody post 0 [some (.int 1), some (.int 3), none] [] (E x y) := by
  refine PW_iload_n c_B_ownBody_0 rfl ?_
  refine PW_iconst (v := 4) c_B_ownBody_1 (by decide) ?_
  refine PW_imul c_B_ownBody_2 ?_
  refine PW_iload_n c_B_ownBody_3 rfl ?_
  refine PW_iadd c_B_ownBody_4 ?_
  refine PW_istore_n (i := 2) (L2 := [some (.int 1), some (.int 3), some (.int ((1 * 4) + 3))]) c_B_ownBody_5 rfl (Nat.le_of_ble_eq_true rfl) rfl rfl ?_
  refine PW_iload_n c_B_ownBody_6 rfl ?_
  refine PW_S0 (d2 := 0) (st := []) [.int 1] c_B_ownBody_7 lk_B_ownBody_18 rfl rfl rfl (Nat.le_of_ble_eq_true rfl) (by first | decide | omega) (Nat.le_of_ble_eq_true rfl) ?_
  refine sp_B_isKind  ?_
  show PW _ _ _ 10 [some (.int 1), some (.int 3), some (.int ((1 * 4) + 3))] [.int (b2i (0 ≤ (1 : Int32) ∧ (1 : Int32) ≤ 7))] (E x y)
  refine PW_if_eq c_B_ownBody_10 (fun h0 => absurd (by decide) (b2i_0.mp h0)) (fun _ => ?_)
  refine PW_iload_n c_B_ownBody_13 rfl ?_
  refine PW_if_lt c_B_ownBody_14 (fun h1 => absurd h1 (by decide)) (fun h1 => ?_)
  refine PW_iload_n c_B_ownBody_17 rfl ?_
  refine PW_gets (j := 3) c_B_ownBody_18 (by decide) sl_B_29 ?_
  refine PW_rolen (v := 32) c_B_ownBody_21 (by decide) (by decide) ?_
  refine PW_icmp_ge c_B_ownBody_22 (fun h2 => absurd h2 (by decide)) (fun h2 => ?_)
  refine PW_gets (j := 3) c_B_ownBody_25 (by decide) sl_B_29 ?_
  refine PW_iload_n c_B_ownBody_28 rfl ?_
  refine PW_roald (j := 3) (q := 7) c_B_ownBody_29 (by decide) (vp_in_iff.mpr (by decide)) (by decide) rfl ?_
  show PW _ _ _ 30 [some (.int 1), some (.int 3), some (.int ((1 * 4) + 3))] [.int ((roT 3).2.2.getD 7 0)] (E x y)
  refine PW_goto c_B_ownBody_30 ?_
  refine PW_ireturn (ty := .int) c_B_ownBody_34 rfl rfl ?_
  exact h
theorem sp_own_2_0 {z : ZS} {post : Option Value → List PE → Prop} {x y : XS} (h : post (some (.int (0))) (E x y)) : PW (1, 0, 0, z) m_B_ownBody post 0 [some (.int 2), some (.int 0), none] [] (E x y) := by
  refine PW_iload_n c_B_ownBody_0 rfl ?_
  refine PW_iconst (v := 4) c_B_ownBody_1 (by decide) ?_
  refine PW_imul c_B_ownBody_2 ?_
  refine PW_iload_n c_B_ownBody_3 rfl ?_
  refine PW_iadd c_B_ownBody_4 ?_
  refine PW_istore_n (i := 2) (L2 := [some (.int 2), some (.int 0), some (.int ((2 * 4) + 0))]) c_B_ownBody_5 rfl (Nat.le_of_ble_eq_true rfl) rfl rfl ?_
  refine PW_iload_n c_B_ownBody_6 rfl ?_
  refine PW_S0 (d2 := 0) (st := []) [.int 2] c_B_ownBody_7 lk_B_ownBody_18 rfl rfl rfl (Nat.le_of_ble_eq_true rfl) (by first | decide | omega) (Nat.le_of_ble_eq_true rfl) ?_
  refine sp_B_isKind  ?_
  show PW _ _ _ 10 [some (.int 2), some (.int 0), some (.int ((2 * 4) + 0))] [.int (b2i (0 ≤ (2 : Int32) ∧ (2 : Int32) ≤ 7))] (E x y)
  refine PW_if_eq c_B_ownBody_10 (fun h0 => absurd (by decide) (b2i_0.mp h0)) (fun _ => ?_)
  refine PW_iload_n c_B_ownBody_13 rfl ?_
  refine PW_if_lt c_B_ownBody_14 (fun h1 => absurd h1 (by decide)) (fun h1 => ?_)
  refine PW_iload_n c_B_ownBody_17 rfl ?_
  refine PW_gets (j := 3) c_B_ownBody_18 (by decide) sl_B_29 ?_
  refine PW_rolen (v := 32) c_B_ownBody_21 (by decide) (by decide) ?_
  refine PW_icmp_ge c_B_ownBody_22 (fun h2 => absurd h2 (by decide)) (fun h2 => ?_)
  refine PW_gets (j := 3) c_B_ownBody_25 (by decide) sl_B_29 ?_
  refine PW_iload_n c_B_ownBody_28 rfl ?_
  refine PW_roald (j := 3) (q := 8) c_B_ownBody_29 (by decide) (vp_in_iff.mpr (by decide)) (by decide) rfl ?_
  show PW _ _ _ 30 [some (.int 2), some (.int 0), some (.int ((2 * 4) + 0))] [.int ((roT 3).2.2.getD 8 0)] (E x y)
  refine PW_goto c_B_ownBody_30 ?_
  refine PW_ireturn (ty := .int) c_B_ownBody_34 rfl rfl ?_
  exact h
theorem sp_own_2_1 {z : ZS} {post : Option Value → List PE → Prop} {x y : XS} (h : post (some (.int (30))) (E x y)) : PW (1, 0, 0, z) m_B_ownBody post 0 [some (.int 2), some (.int 1), none] [] (E x y) := by
  refine PW_iload_n c_B_ownBody_0 rfl ?_
  refine PW_iconst (v := 4) c_B_ownBody_1 (by decide) ?_
  refine PW_imul c_B_ownBody_2 ?_
  refine PW_iload_n c_B_ownBody_3 rfl ?_
  refine PW_iadd c_B_ownBody_4 ?_
  refine PW_istore_n (i := 2) (L2 := [some (.int 2), some (.int 1), some (.int ((2 * 4) + 1))]) c_B_ownBody_5 rfl (Nat.le_of_ble_eq_true rfl) rfl rfl ?_
  refine PW_iload_n c_B_ownBody_6 rfl ?_
  refine PW_S0 (d2 := 0) (st := []) [.int 2] c_B_ownBody_7 lk_B_ownBody_18 rfl rfl rfl (Nat.le_of_ble_eq_true rfl) (by first | decide | omega) (Nat.le_of_ble_eq_true rfl) ?_
  refine sp_B_isKind  ?_
  show PW _ _ _ 10 [some (.int 2), some (.int 1), some (.int ((2 * 4) + 1))] [.int (b2i (0 ≤ (2 : Int32) ∧ (2 : Int32) ≤ 7))] (E x y)
  refine PW_if_eq c_B_ownBody_10 (fun h0 => absurd (by decide) (b2i_0.mp h0)) (fun _ => ?_)
  refine PW_iload_n c_B_ownBody_13 rfl ?_
  refine PW_if_lt c_B_ownBody_14 (fun h1 => absurd h1 (by decide)) (fun h1 => ?_)
  refine PW_iload_n c_B_ownBody_17 rfl ?_
  refine PW_gets (j := 3) c_B_ownBody_18 (by decide) sl_B_29 ?_
  refine PW_rolen (v := 32) c_B_ownBody_21 (by decide) (by decide) ?_
  refine PW_icmp_ge c_B_ownBody_22 (fun h2 => absurd h2 (by decide)) (fun h2 => ?_)
  refine PW_gets (j := 3) c_B_ownBody_25 (by decide) sl_B_29 ?_
  refine PW_iload_n c_B_ownBody_28 rfl ?_
  refine PW_roald (j := 3) (q := 9) c_B_ownBody_29 (by decide) (vp_in_iff.mpr (by decide)) (by decide) rfl ?_
  show PW _ _ _ 30 [some (.int 2), some (.int 1), some (.int ((2 * 4) + 1))] [.int ((roT 3).2.2.getD 9 0)] (E x y)
  refine PW_goto c_B_ownBody_30 ?_
  refine PW_ireturn (ty := .int) c_B_ownBody_34 rfl rfl ?_
  exact h
theorem sp_own_2_2 {z : ZS} {post : Option Value → List PE → Prop} {x y : XS} (h : post (some (.int (0))) (E x y)) : PW (1, 0, 0, z) m_B_ownBody post 0 [some (.int 2), some (.int 2), none] [] (E x y) := by
  refine PW_iload_n c_B_ownBody_0 rfl ?_
  refine PW_iconst (v := 4) c_B_ownBody_1 (by decide) ?_
  refine PW_imul c_B_ownBody_2 ?_
  refine PW_iload_n c_B_ownBody_3 rfl ?_
  refine PW_iadd c_B_ownBody_4 ?_
  refine PW_istore_n (i := 2) (L2 := [some (.int 2), some (.int 2), some (.int ((2 * 4) + 2))]) c_B_ownBody_5 rfl (Nat.le_of_ble_eq_true rfl) rfl rfl ?_
  refine PW_iload_n c_B_ownBody_6 rfl ?_
  refine PW_S0 (d2 := 0) (st := []) [.int 2] c_B_ownBody_7 lk_B_ownBody_18 rfl rfl rfl (Nat.le_of_ble_eq_true rfl) (by first | decide | omega) (Nat.le_of_ble_eq_true rfl) ?_
  refine sp_B_isKind  ?_
  show PW _ _ _ 10 [some (.int 2), some (.int 2), some (.int ((2 * 4) + 2))] [.int (b2i (0 ≤ (2 : Int32) ∧ (2 : Int32) ≤ 7))] (E x y)
  refine PW_if_eq c_B_ownBody_10 (fun h0 => absurd (by decide) (b2i_0.mp h0)) (fun _ => ?_)
  refine PW_iload_n c_B_ownBody_13 rfl ?_
  refine PW_if_lt c_B_ownBody_14 (fun h1 => absurd h1 (by decide)) (fun h1 => ?_)
  refine PW_iload_n c_B_ownBody_17 rfl ?_
  refine PW_gets (j := 3) c_B_ownBody_18 (by decide) sl_B_29 ?_
  refine PW_rolen (v := 32) c_B_ownBody_21 (by decide) (by decide) ?_
  refine PW_icmp_ge c_B_ownBody_22 (fun h2 => absurd h2 (by decide)) (fun h2 => ?_)
  refine PW_gets (j := 3) c_B_ownBody_25 (by decide) sl_B_29 ?_
  refine PW_iload_n c_B_ownBody_28 rfl ?_
  refine PW_roald (j := 3) (q := 10) c_B_ownBody_29 (by decide) (vp_in_iff.mpr (by decide)) (by decide) rfl ?_
  show PW _ _ _ 30 [some (.int 2), some (.int 2), some (.int ((2 * 4) + 2))] [.int ((roT 3).2.2.getD 10 0)] (E x y)
  refine PW_goto c_B_ownBody_30 ?_
  refine PW_ireturn (ty := .int) c_B_ownBody_34 rfl rfl ?_
  exact h
theorem sp_own_2_3 {z : ZS} {post : Option Value → List PE → Prop} {x y : XS} (h : post (some (.int (0))) (E x y)) : PW (1, 0, 0, z) m_B_ownBody post 0 [some (.int 2), some (.int 3), none] [] (E x y) := by
  refine PW_iload_n c_B_ownBody_0 rfl ?_
  refine PW_iconst (v := 4) c_B_ownBody_1 (by decide) ?_
  refine PW_imul c_B_ownBody_2 ?_
  refine PW_iload_n c_B_ownBody_3 rfl ?_
  refine PW_iadd c_B_ownBody_4 ?_
  refine PW_istore_n (i := 2) (L2 := [some (.int 2), some (.int 3), some (.int ((2 * 4) + 3))]) c_B_ownBody_5 rfl (Nat.le_of_ble_eq_true rfl) rfl rfl ?_
  refine PW_iload_n c_B_ownBody_6 rfl ?_
  refine PW_S0 (d2 := 0) (st := []) [.int 2] c_B_ownBody_7 lk_B_ownBody_18 rfl rfl rfl (Nat.le_of_ble_eq_true rfl) (by first | decide | omega) (Nat.le_of_ble_eq_true rfl) ?_
  refine sp_B_isKind  ?_
  show PW _ _ _ 10 [some (.int 2), some (.int 3), some (.int ((2 * 4) + 3))] [.int (b2i (0 ≤ (2 : Int32) ∧ (2 : Int32) ≤ 7))] (E x y)
  refine PW_if_eq c_B_ownBody_10 (fun h0 => absurd (by decide) (b2i_0.mp h0)) (fun _ => ?_)
  refine PW_iload_n c_B_ownBody_13 rfl ?_
  refine PW_if_lt c_B_ownBody_14 (fun h1 => absurd h1 (by decide)) (fun h1 => ?_)
  refine PW_iload_n c_B_ownBody_17 rfl ?_
  refine PW_gets (j := 3) c_B_ownBody_18 (by decide) sl_B_29 ?_
  refine PW_rolen (v := 32) c_B_ownBody_21 (by decide) (by decide) ?_
  refine PW_icmp_ge c_B_ownBody_22 (fun h2 => absurd h2 (by decide)) (fun h2 => ?_)
  refine PW_gets (j := 3) c_B_ownBody_25 (by decide) sl_B_29 ?_
  refine PW_iload_n c_B_ownBody_28 rfl ?_
  refine PW_roald (j := 3) (q := 11) c_B_ownBody_29 (by decide) (vp_in_iff.mpr (by decide)) (by decide) rfl ?_
  show PW _ _ _ 30 [some (.int 2), some (.int 3), some (.int ((2 * 4) + 3))] [.int ((roT 3).2.2.getD 11 0)] (E x y)
  refine PW_goto c_B_ownBody_30 ?_
  refine PW_ireturn (ty := .int) c_B_ownBody_34 rfl rfl ?_
  exact h
theorem sp_own_3_0 {z : ZS} {post : Option Value → List PE → Prop} {x y : XS} (h : post (some (.int (0))) (E x y)) : PW (1, 0, 0, z) m_B_ownBody post 0 [some (.int 3), some (.int 0), none] [] (E x y) := by
  refine PW_iload_n c_B_ownBody_0 rfl ?_
  refine PW_iconst (v := 4) c_B_ownBody_1 (by decide) ?_
  refine PW_imul c_B_ownBody_2 ?_
  refine PW_iload_n c_B_ownBody_3 rfl ?_
  refine PW_iadd c_B_ownBody_4 ?_
  refine PW_istore_n (i := 2) (L2 := [some (.int 3), some (.int 0), some (.int ((3 * 4) + 0))]) c_B_ownBody_5 rfl (Nat.le_of_ble_eq_true rfl) rfl rfl ?_
  refine PW_iload_n c_B_ownBody_6 rfl ?_
  refine PW_S0 (d2 := 0) (st := []) [.int 3] c_B_ownBody_7 lk_B_ownBody_18 rfl rfl rfl (Nat.le_of_ble_eq_true rfl) (by first | decide | omega) (Nat.le_of_ble_eq_true rfl) ?_
  refine sp_B_isKind  ?_
  show PW _ _ _ 10 [some (.int 3), some (.int 0), some (.int ((3 * 4) + 0))] [.int (b2i (0 ≤ (3 : Int32) ∧ (3 : Int32) ≤ 7))] (E x y)
  refine PW_if_eq c_B_ownBody_10 (fun h0 => absurd (by decide) (b2i_0.mp h0)) (fun _ => ?_)
  refine PW_iload_n c_B_ownBody_13 rfl ?_
  refine PW_if_lt c_B_ownBody_14 (fun h1 => absurd h1 (by decide)) (fun h1 => ?_)
  refine PW_iload_n c_B_ownBody_17 rfl ?_
  refine PW_gets (j := 3) c_B_ownBody_18 (by decide) sl_B_29 ?_
  refine PW_rolen (v := 32) c_B_ownBody_21 (by decide) (by decide) ?_
  refine PW_icmp_ge c_B_ownBody_22 (fun h2 => absurd h2 (by decide)) (fun h2 => ?_)
  refine PW_gets (j := 3) c_B_ownBody_25 (by decide) sl_B_29 ?_
  refine PW_iload_n c_B_ownBody_28 rfl ?_
  refine PW_roald (j := 3) (q := 12) c_B_ownBody_29 (by decide) (vp_in_iff.mpr (by decide)) (by decide) rfl ?_
  show PW _ _ _ 30 [some (.int 3), some (.int 0), some (.int ((3 * 4) + 0))] [.int ((roT 3).2.2.getD 12 0)] (E x y)
  refine PW_goto c_B_ownBody_30 ?_
  refine PW_ireturn (ty := .int) c_B_ownBody_34 rfl rfl ?_
  exact h
theorem sp_own_3_1 {z : ZS} {post : Option Value → List PE → Prop} {x y : XS} (h : post (some (.int (41))) (E x y)) : PW (1, 0, 0, z) m_B_ownBody post 0 [some (.int 3), some (.int 1), none] [] (E x y) := by
  refine PW_iload_n c_B_ownBody_0 rfl ?_
  refine PW_iconst (v := 4) c_B_ownBody_1 (by decide) ?_
  refine PW_imul c_B_ownBody_2 ?_
  refine PW_iload_n c_B_ownBody_3 rfl ?_
  refine PW_iadd c_B_ownBody_4 ?_
  refine PW_istore_n (i := 2) (L2 := [some (.int 3), some (.int 1), some (.int ((3 * 4) + 1))]) c_B_ownBody_5 rfl (Nat.le_of_ble_eq_true rfl) rfl rfl ?_
  refine PW_iload_n c_B_ownBody_6 rfl ?_
  refine PW_S0 (d2 := 0) (st := []) [.int 3] c_B_ownBody_7 lk_B_ownBody_18 rfl rfl rfl (Nat.le_of_ble_eq_true rfl) (by first | decide | omega) (Nat.le_of_ble_eq_true rfl) ?_
  refine sp_B_isKind  ?_
  show PW _ _ _ 10 [some (.int 3), some (.int 1), some (.int ((3 * 4) + 1))] [.int (b2i (0 ≤ (3 : Int32) ∧ (3 : Int32) ≤ 7))] (E x y)
  refine PW_if_eq c_B_ownBody_10 (fun h0 => absurd (by decide) (b2i_0.mp h0)) (fun _ => ?_)
  refine PW_iload_n c_B_ownBody_13 rfl ?_
  refine PW_if_lt c_B_ownBody_14 (fun h1 => absurd h1 (by decide)) (fun h1 => ?_)
  refine PW_iload_n c_B_ownBody_17 rfl ?_
  refine PW_gets (j := 3) c_B_ownBody_18 (by decide) sl_B_29 ?_
  refine PW_rolen (v := 32) c_B_ownBody_21 (by decide) (by decide) ?_
  refine PW_icmp_ge c_B_ownBody_22 (fun h2 => absurd h2 (by decide)) (fun h2 => ?_)
  refine PW_gets (j := 3) c_B_ownBody_25 (by decide) sl_B_29 ?_
  refine PW_iload_n c_B_ownBody_28 rfl ?_
  refine PW_roald (j := 3) (q := 13) c_B_ownBody_29 (by decide) (vp_in_iff.mpr (by decide)) (by decide) rfl ?_
  show PW _ _ _ 30 [some (.int 3), some (.int 1), some (.int ((3 * 4) + 1))] [.int ((roT 3).2.2.getD 13 0)] (E x y)
  refine PW_goto c_B_ownBody_30 ?_
  refine PW_ireturn (ty := .int) c_B_ownBody_34 rfl rfl ?_
  exact h
theorem sp_own_3_2 {z : ZS} {post : Option Value → List PE → Prop} {x y : XS} (h : post (some (.int (40))) (E x y)) : PW (1, 0, 0, z) m_B_ownBody post 0 [some (.int 3), some (.int 2), none] [] (E x y) := by
  refine PW_iload_n c_B_ownBody_0 rfl ?_
  refine PW_iconst (v := 4) c_B_ownBody_1 (by decide) ?_
  refine PW_imul c_B_ownBody_2 ?_
  refine PW_iload_n c_B_ownBody_3 rfl ?_
  refine PW_iadd c_B_ownBody_4 ?_
  refine PW_istore_n (i := 2) (L2 := [some (.int 3), some (.int 2), some (.int ((3 * 4) + 2))]) c_B_ownBody_5 rfl (Nat.le_of_ble_eq_true rfl) rfl rfl ?_
  refine PW_iload_n c_B_ownBody_6 rfl ?_
  refine PW_S0 (d2 := 0) (st := []) [.int 3] c_B_ownBody_7 lk_B_ownBody_18 rfl rfl rfl (Nat.le_of_ble_eq_true rfl) (by first | decide | omega) (Nat.le_of_ble_eq_true rfl) ?_
  refine sp_B_isKind  ?_
  show PW _ _ _ 10 [some (.int 3), some (.int 2), some (.int ((3 * 4) + 2))] [.int (b2i (0 ≤ (3 : Int32) ∧ (3 : Int32) ≤ 7))] (E x y)
  refine PW_if_eq c_B_ownBody_10 (fun h0 => absurd (by decide) (b2i_0.mp h0)) (fun _ => ?_)
  refine PW_iload_n c_B_ownBody_13 rfl ?_
  refine PW_if_lt c_B_ownBody_14 (fun h1 => absurd h1 (by decide)) (fun h1 => ?_)
  refine PW_iload_n c_B_ownBody_17 rfl ?_
  refine PW_gets (j := 3) c_B_ownBody_18 (by decide) sl_B_29 ?_
  refine PW_rolen (v := 32) c_B_ownBody_21 (by decide) (by decide) ?_
  refine PW_icmp_ge c_B_ownBody_22 (fun h2 => absurd h2 (by decide)) (fun h2 => ?_)
  refine PW_gets (j := 3) c_B_ownBody_25 (by decide) sl_B_29 ?_
  refine PW_iload_n c_B_ownBody_28 rfl ?_
  refine PW_roald (j := 3) (q := 14) c_B_ownBody_29 (by decide) (vp_in_iff.mpr (by decide)) (by decide) rfl ?_
  show PW _ _ _ 30 [some (.int 3), some (.int 2), some (.int ((3 * 4) + 2))] [.int ((roT 3).2.2.getD 14 0)] (E x y)
  refine PW_goto c_B_ownBody_30 ?_
  refine PW_ireturn (ty := .int) c_B_ownBody_34 rfl rfl ?_
  exact h
theorem sp_own_3_3 {z : ZS} {post : Option Value → List PE → Prop} {x y : XS} (h : post (some (.int (0))) (E x y)) : PW (1, 0, 0, z) m_B_ownBody post 0 [some (.int 3), some (.int 3), none] [] (E x y) := by
  refine PW_iload_n c_B_ownBody_0 rfl ?_
  refine PW_iconst (v := 4) c_B_ownBody_1 (by decide) ?_
  refine PW_imul c_B_ownBody_2 ?_
  refine PW_iload_n c_B_ownBody_3 rfl ?_
  refine PW_iadd c_B_ownBody_4 ?_
  refine PW_istore_n (i := 2) (L2 := [some (.int 3), some (.int 3), some (.int ((3 * 4) + 3))]) c_B_ownBody_5 rfl (Nat.le_of_ble_eq_true rfl) rfl rfl ?_
  refine PW_iload_n c_B_ownBody_6 rfl ?_
  refine PW_S0 (d2 := 0) (st := []) [.int 3] c_B_ownBody_7 lk_B_ownBody_18 rfl rfl rfl (Nat.le_of_ble_eq_true rfl) (by first | decide | omega) (Nat.le_of_ble_eq_true rfl) ?_
  refine sp_B_isKind  ?_
  show PW _ _ _ 10 [some (.int 3), some (.int 3), some (.int ((3 * 4) + 3))] [.int (b2i (0 ≤ (3 : Int32) ∧ (3 : Int32) ≤ 7))] (E x y)
  refine PW_if_eq c_B_ownBody_10 (fun h0 => absurd (by decide) (b2i_0.mp h0)) (fun _ => ?_)
  refine PW_iload_n c_B_ownBody_13 rfl ?_
  refine PW_if_lt c_B_ownBody_14 (fun h1 => absurd h1 (by decide)) (fun h1 => ?_)
  refine PW_iload_n c_B_ownBody_17 rfl ?_
  refine PW_gets (j := 3) c_B_ownBody_18 (by decide) sl_B_29 ?_
  refine PW_rolen (v := 32) c_B_ownBody_21 (by decide) (by decide) ?_
  refine PW_icmp_ge c_B_ownBody_22 (fun h2 => absurd h2 (by decide)) (fun h2 => ?_)
  refine PW_gets (j := 3) c_B_ownBody_25 (by decide) sl_B_29 ?_
  refine PW_iload_n c_B_ownBody_28 rfl ?_
  refine PW_roald (j := 3) (q := 15) c_B_ownBody_29 (by decide) (vp_in_iff.mpr (by decide)) (by decide) rfl ?_
  show PW _ _ _ 30 [some (.int 3), some (.int 3), some (.int ((3 * 4) + 3))] [.int ((roT 3).2.2.getD 15 0)] (E x y)
  refine PW_goto c_B_ownBody_30 ?_
  refine PW_ireturn (ty := .int) c_B_ownBody_34 rfl rfl ?_
  exact h
theorem sp_own_4_0 {z : ZS} {post : Option Value → List PE → Prop} {x y : XS} (h : post (some (.int (0))) (E x y)) : PW (1, 0, 0, z) m_B_ownBody post 0 [some (.int 4), some (.int 0), none] [] (E x y) := by
  refine PW_iload_n c_B_ownBody_0 rfl ?_
  refine PW_iconst (v := 4) c_B_ownBody_1 (by decide) ?_
  refine PW_imul c_B_ownBody_2 ?_
  refine PW_iload_n c_B_ownBody_3 rfl ?_
  refine PW_iadd c_B_ownBody_4 ?_
  refine PW_istore_n (i := 2) (L2 := [some (.int 4), some (.int 0), some (.int ((4 * 4) + 0))]) c_B_ownBody_5 rfl (Nat.le_of_ble_eq_true rfl) rfl rfl ?_
  refine PW_iload_n c_B_ownBody_6 rfl ?_
  refine PW_S0 (d2 := 0) (st := []) [.int 4] c_B_ownBody_7 lk_B_ownBody_18 rfl rfl rfl (Nat.le_of_ble_eq_true rfl) (by first | decide | omega) (Nat.le_of_ble_eq_true rfl) ?_
  refine sp_B_isKind  ?_
  show PW _ _ _ 10 [some (.int 4), some (.int 0), some (.int ((4 * 4) + 0))] [.int (b2i (0 ≤ (4 : Int32) ∧ (4 : Int32) ≤ 7))] (E x y)
  refine PW_if_eq c_B_ownBody_10 (fun h0 => absurd (by decide) (b2i_0.mp h0)) (fun _ => ?_)
  refine PW_iload_n c_B_ownBody_13 rfl ?_
  refine PW_if_lt c_B_ownBody_14 (fun h1 => absurd h1 (by decide)) (fun h1 => ?_)
  refine PW_iload_n c_B_ownBody_17 rfl ?_
  refine PW_gets (j := 3) c_B_ownBody_18 (by decide) sl_B_29 ?_
  refine PW_rolen (v := 32) c_B_ownBody_21 (by decide) (by decide) ?_
  refine PW_icmp_ge c_B_ownBody_22 (fun h2 => absurd h2 (by decide)) (fun h2 => ?_)
  refine PW_gets (j := 3) c_B_ownBody_25 (by decide) sl_B_29 ?_
  refine PW_iload_n c_B_ownBody_28 rfl ?_
  refine PW_roald (j := 3) (q := 16) c_B_ownBody_29 (by decide) (vp_in_iff.mpr (by decide)) (by decide) rfl ?_
  show PW _ _ _ 30 [some (.int 4), some (.int 0), some (.int ((4 * 4) + 0))] [.int ((roT 3).2.2.getD 16 0)] (E x y)
  refine PW_goto c_B_ownBody_30 ?_
  refine PW_ireturn (ty := .int) c_B_ownBody_34 rfl rfl ?_
  exact h
theorem sp_own_4_1 {z : ZS} {post : Option Value → List PE → Prop} {x y : XS} (h : post (some (.int (0))) (E x y)) : PW (1, 0, 0, z) m_B_ownBody post 0 [some (.int 4), some (.int 1), none] [] (E x y) := by
  refine PW_iload_n c_B_ownBody_0 rfl ?_
  refine PW_iconst (v := 4) c_B_ownBody_1 (by decide) ?_
  refine PW_imul c_B_ownBody_2 ?_
  refine PW_iload_n c_B_ownBody_3 rfl ?_
  refine PW_iadd c_B_ownBody_4 ?_
  refine PW_istore_n (i := 2) (L2 := [some (.int 4), some (.int 1), some (.int ((4 * 4) + 1))]) c_B_ownBody_5 rfl (Nat.le_of_ble_eq_true rfl) rfl rfl ?_
  refine PW_iload_n c_B_ownBody_6 rfl ?_
  refine PW_S0 (d2 := 0) (st := []) [.int 4] c_B_ownBody_7 lk_B_ownBody_18 rfl rfl rfl (Nat.le_of_ble_eq_true rfl) (by first | decide | omega) (Nat.le_of_ble_eq_true rfl) ?_
  refine sp_B_isKind  ?_
  show PW _ _ _ 10 [some (.int 4), some (.int 1), some (.int ((4 * 4) + 1))] [.int (b2i (0 ≤ (4 : Int32) ∧ (4 : Int32) ≤ 7))] (E x y)
  refine PW_if_eq c_B_ownBody_10 (fun h0 => absurd (by decide) (b2i_0.mp h0)) (fun _ => ?_)
  refine PW_iload_n c_B_ownBody_13 rfl ?_
  refine PW_if_lt c_B_ownBody_14 (fun h1 => absurd h1 (by decide)) (fun h1 => ?_)
  refine PW_iload_n c_B_ownBody_17 rfl ?_
  refine PW_gets (j := 3) c_B_ownBody_18 (by decide) sl_B_29 ?_
  refine PW_rolen (v := 32) c_B_ownBody_21 (by decide) (by decide) ?_
  refine PW_icmp_ge c_B_ownBody_22 (fun h2 => absurd h2 (by decide)) (fun h2 => ?_)
  refine PW_gets (j := 3) c_B_ownBody_25 (by decide) sl_B_29 ?_
  refine PW_iload_n c_B_ownBody_28 rfl ?_
  refine PW_roald (j := 3) (q := 17) c_B_ownBody_29 (by decide) (vp_in_iff.mpr (by decide)) (by decide) rfl ?_
  show PW _ _ _ 30 [some (.int 4), some (.int 1), some (.int ((4 * 4) + 1))] [.int ((roT 3).2.2.getD 17 0)] (E x y)
  refine PW_goto c_B_ownBody_30 ?_
  refine PW_ireturn (ty := .int) c_B_ownBody_34 rfl rfl ?_
  exact h
theorem sp_own_4_2 {z : ZS} {post : Option Value → List PE → Prop} {x y : XS} (h : post (some (.int (0))) (E x y)) : PW (1, 0, 0, z) m_B_ownBody post 0 [some (.int 4), some (.int 2), none] [] (E x y) := by
  refine PW_iload_n c_B_ownBody_0 rfl ?_
  refine PW_iconst (v := 4) c_B_ownBody_1 (by decide) ?_
  refine PW_imul c_B_ownBody_2 ?_
  refine PW_iload_n c_B_ownBody_3 rfl ?_
  refine PW_iadd c_B_ownBody_4 ?_
  refine PW_istore_n (i := 2) (L2 := [some (.int 4), some (.int 2), some (.int ((4 * 4) + 2))]) c_B_ownBody_5 rfl (Nat.le_of_ble_eq_true rfl) rfl rfl ?_
  refine PW_iload_n c_B_ownBody_6 rfl ?_
  refine PW_S0 (d2 := 0) (st := []) [.int 4] c_B_ownBody_7 lk_B_ownBody_18 rfl rfl rfl (Nat.le_of_ble_eq_true rfl) (by first | decide | omega) (Nat.le_of_ble_eq_true rfl) ?_
  refine sp_B_isKind  ?_
  show PW _ _ _ 10 [some (.int 4), some (.int 2), some (.int ((4 * 4) + 2))] [.int (b2i (0 ≤ (4 : Int32) ∧ (4 : Int32) ≤ 7))] (E x y)
  refine PW_if_eq c_B_ownBody_10 (fun h0 => absurd (by decide) (b2i_0.mp h0)) (fun _ => ?_)
  refine PW_iload_n c_B_ownBody_13 rfl ?_
  refine PW_if_lt c_B_ownBody_14 (fun h1 => absurd h1 (by decide)) (fun h1 => ?_)
  refine PW_iload_n c_B_ownBody_17 rfl ?_
  refine PW_gets (j := 3) c_B_ownBody_18 (by decide) sl_B_29 ?_
  refine PW_rolen (v := 32) c_B_ownBody_21 (by decide) (by decide) ?_
  refine PW_icmp_ge c_B_ownBody_22 (fun h2 => absurd h2 (by decide)) (fun h2 => ?_)
  refine PW_gets (j := 3) c_B_ownBody_25 (by decide) sl_B_29 ?_
  refine PW_iload_n c_B_ownBody_28 rfl ?_
  refine PW_roald (j := 3) (q := 18) c_B_ownBody_29 (by decide) (vp_in_iff.mpr (by decide)) (by decide) rfl ?_
  show PW _ _ _ 30 [some (.int 4), some (.int 2), some (.int ((4 * 4) + 2))] [.int ((roT 3).2.2.getD 18 0)] (E x y)
  refine PW_goto c_B_ownBody_30 ?_
  refine PW_ireturn (ty := .int) c_B_ownBody_34 rfl rfl ?_
  exact h
theorem sp_own_4_3 {z : ZS} {post : Option Value → List PE → Prop} {x y : XS} (h : post (some (.int (50))) (E x y)) : PW (1, 0, 0, z) m_B_ownBody post 0 [some (.int 4), some (.int 3), none] [] (E x y) := by
  refine PW_iload_n c_B_ownBody_0 rfl ?_
  refine PW_iconst (v := 4) c_B_ownBody_1 (by decide) ?_
  refine PW_imul c_B_ownBody_2 ?_
  refine PW_iload_n c_B_ownBody_3 rfl ?_
  refine PW_iadd c_B_ownBody_4 ?_
  refine PW_istore_n (i := 2) (L2 := [some (.int 4), some (.int 3), some (.int ((4 * 4) + 3))]) c_B_ownBody_5 rfl (Nat.le_of_ble_eq_true rfl) rfl rfl ?_
  refine PW_iload_n c_B_ownBody_6 rfl ?_
  refine PW_S0 (d2 := 0) (st := []) [.int 4] c_B_ownBody_7 lk_B_ownBody_18 rfl rfl rfl (Nat.le_of_ble_eq_true rfl) (by first | decide | omega) (Nat.le_of_ble_eq_true rfl) ?_
  refine sp_B_isKind  ?_
  show PW _ _ _ 10 [some (.int 4), some (.int 3), some (.int ((4 * 4) + 3))] [.int (b2i (0 ≤ (4 : Int32) ∧ (4 : Int32) ≤ 7))] (E x y)
  refine PW_if_eq c_B_ownBody_10 (fun h0 => absurd (by decide) (b2i_0.mp h0)) (fun _ => ?_)
  refine PW_iload_n c_B_ownBody_13 rfl ?_
  refine PW_if_lt c_B_ownBody_14 (fun h1 => absurd h1 (by decide)) (fun h1 => ?_)
  refine PW_iload_n c_B_ownBody_17 rfl ?_
  refine PW_gets (j := 3) c_B_ownBody_18 (by decide) sl_B_29 ?_
  refine PW_rolen (v := 32) c_B_ownBody_21 (by decide) (by decide) ?_
  refine PW_icmp_ge c_B_ownBody_22 (fun h2 => absurd h2 (by decide)) (fun h2 => ?_)
  refine PW_gets (j := 3) c_B_ownBody_25 (by decide) sl_B_29 ?_
  refine PW_iload_n c_B_ownBody_28 rfl ?_
  refine PW_roald (j := 3) (q := 19) c_B_ownBody_29 (by decide) (vp_in_iff.mpr (by decide)) (by decide) rfl ?_
  show PW _ _ _ 30 [some (.int 4), some (.int 3), some (.int ((4 * 4) + 3))] [.int ((roT 3).2.2.getD 19 0)] (E x y)
  refine PW_goto c_B_ownBody_30 ?_
  refine PW_ireturn (ty := .int) c_B_ownBody_34 rfl rfl ?_
  exact h
theorem sp_own_5_0 {z : ZS} {post : Option Value → List PE → Prop} {x y : XS} (h : post (some (.int (0))) (E x y)) : PW (1, 0, 0, z) m_B_ownBody post 0 [some (.int 5), some (.int 0), none] [] (E x y) := by
  refine PW_iload_n c_B_ownBody_0 rfl ?_
  refine PW_iconst (v := 4) c_B_ownBody_1 (by decide) ?_
  refine PW_imul c_B_ownBody_2 ?_
  refine PW_iload_n c_B_ownBody_3 rfl ?_
  refine PW_iadd c_B_ownBody_4 ?_
  refine PW_istore_n (i := 2) (L2 := [some (.int 5), some (.int 0), some (.int ((5 * 4) + 0))]) c_B_ownBody_5 rfl (Nat.le_of_ble_eq_true rfl) rfl rfl ?_
  refine PW_iload_n c_B_ownBody_6 rfl ?_
  refine PW_S0 (d2 := 0) (st := []) [.int 5] c_B_ownBody_7 lk_B_ownBody_18 rfl rfl rfl (Nat.le_of_ble_eq_true rfl) (by first | decide | omega) (Nat.le_of_ble_eq_true rfl) ?_
  refine sp_B_isKind  ?_
  show PW _ _ _ 10 [some (.int 5), some (.int 0), some (.int ((5 * 4) + 0))] [.int (b2i (0 ≤ (5 : Int32) ∧ (5 : Int32) ≤ 7))] (E x y)
  refine PW_if_eq c_B_ownBody_10 (fun h0 => absurd (by decide) (b2i_0.mp h0)) (fun _ => ?_)
  refine PW_iload_n c_B_ownBody_13 rfl ?_
  refine PW_if_lt c_B_ownBody_14 (fun h1 => absurd h1 (by decide)) (fun h1 => ?_)
  refine PW_iload_n c_B_ownBody_17 rfl ?_
  refine PW_gets (j := 3) c_B_ownBody_18 (by decide) sl_B_29 ?_
  refine PW_rolen (v := 32) c_B_ownBody_21 (by decide) (by decide) ?_
  refine PW_icmp_ge c_B_ownBody_22 (fun h2 => absurd h2 (by decide)) (fun h2 => ?_)
  refine PW_gets (j := 3) c_B_ownBody_25 (by decide) sl_B_29 ?_
  refine PW_iload_n c_B_ownBody_28 rfl ?_
  refine PW_roald (j := 3) (q := 20) c_B_ownBody_29 (by decide) (vp_in_iff.mpr (by decide)) (by decide) rfl ?_
  show PW _ _ _ 30 [some (.int 5), some (.int 0), some (.int ((5 * 4) + 0))] [.int ((roT 3).2.2.getD 20 0)] (E x y)
  refine PW_goto c_B_ownBody_30 ?_
  refine PW_ireturn (ty := .int) c_B_ownBody_34 rfl rfl ?_
  exact h
theorem sp_own_5_1 {z : ZS} {post : Option Value → List PE → Prop} {x y : XS} (h : post (some (.int (0))) (E x y)) : PW (1, 0, 0, z) m_B_ownBody post 0 [some (.int 5), some (.int 1), none] [] (E x y) := by
  refine PW_iload_n c_B_ownBody_0 rfl ?_
  refine PW_iconst (v := 4) c_B_ownBody_1 (by decide) ?_
  refine PW_imul c_B_ownBody_2 ?_
  refine PW_iload_n c_B_ownBody_3 rfl ?_
  refine PW_iadd c_B_ownBody_4 ?_
  refine PW_istore_n (i := 2) (L2 := [some (.int 5), some (.int 1), some (.int ((5 * 4) + 1))]) c_B_ownBody_5 rfl (Nat.le_of_ble_eq_true rfl) rfl rfl ?_
  refine PW_iload_n c_B_ownBody_6 rfl ?_
  refine PW_S0 (d2 := 0) (st := []) [.int 5] c_B_ownBody_7 lk_B_ownBody_18 rfl rfl rfl (Nat.le_of_ble_eq_true rfl) (by first | decide | omega) (Nat.le_of_ble_eq_true rfl) ?_
  refine sp_B_isKind  ?_
  show PW _ _ _ 10 [some (.int 5), some (.int 1), some (.int ((5 * 4) + 1))] [.int (b2i (0 ≤ (5 : Int32) ∧ (5 : Int32) ≤ 7))] (E x y)
  refine PW_if_eq c_B_ownBody_10 (fun h0 => absurd (by decide) (b2i_0.mp h0)) (fun _ => ?_)
  refine PW_iload_n c_B_ownBody_13 rfl ?_
  refine PW_if_lt c_B_ownBody_14 (fun h1 => absurd h1 (by decide)) (fun h1 => ?_)
  refine PW_iload_n c_B_ownBody_17 rfl ?_
  refine PW_gets (j := 3) c_B_ownBody_18 (by decide) sl_B_29 ?_
  refine PW_rolen (v := 32) c_B_ownBody_21 (by decide) (by decide) ?_
  refine PW_icmp_ge c_B_ownBody_22 (fun h2 => absurd h2 (by decide)) (fun h2 => ?_)
  refine PW_gets (j := 3) c_B_ownBody_25 (by decide) sl_B_29 ?_
  refine PW_iload_n c_B_ownBody_28 rfl ?_
  refine PW_roald (j := 3) (q := 21) c_B_ownBody_29 (by decide) (vp_in_iff.mpr (by decide)) (by decide) rfl ?_
  show PW _ _ _ 30 [some (.int 5), some (.int 1), some (.int ((5 * 4) + 1))] [.int ((roT 3).2.2.getD 21 0)] (E x y)
  refine PW_goto c_B_ownBody_30 ?_
  refine PW_ireturn (ty := .int) c_B_ownBody_34 rfl rfl ?_
  exact h
theorem sp_own_5_2 {z : ZS} {post : Option Value → List PE → Prop} {x y : XS} (h : post (some (.int (60))) (E x y)) : PW (1, 0, 0, z) m_B_ownBody post 0 [some (.int 5), some (.int 2), none] [] (E x y) := by
  refine PW_iload_n c_B_ownBody_0 rfl ?_
  refine PW_iconst (v := 4) c_B_ownBody_1 (by decide) ?_
  refine PW_imul c_B_ownBody_2 ?_
  refine PW_iload_n c_B_ownBody_3 rfl ?_
  refine PW_iadd c_B_ownBody_4 ?_
  refine PW_istore_n (i := 2) (L2 := [some (.int 5), some (.int 2), some (.int ((5 * 4) + 2))]) c_B_ownBody_5 rfl (Nat.le_of_ble_eq_true rfl) rfl rfl ?_
  refine PW_iload_n c_B_ownBody_6 rfl ?_
  refine PW_S0 (d2 := 0) (st := []) [.int 5] c_B_ownBody_7 lk_B_ownBody_18 rfl rfl rfl (Nat.le_of_ble_eq_true rfl) (by first | decide | omega) (Nat.le_of_ble_eq_true rfl) ?_
  refine sp_B_isKind  ?_
  show PW _ _ _ 10 [some (.int 5), some (.int 2), some (.int ((5 * 4) + 2))] [.int (b2i (0 ≤ (5 : Int32) ∧ (5 : Int32) ≤ 7))] (E x y)
  refine PW_if_eq c_B_ownBody_10 (fun h0 => absurd (by decide) (b2i_0.mp h0)) (fun _ => ?_)
  refine PW_iload_n c_B_ownBody_13 rfl ?_
  refine PW_if_lt c_B_ownBody_14 (fun h1 => absurd h1 (by decide)) (fun h1 => ?_)
  refine PW_iload_n c_B_ownBody_17 rfl ?_
  refine PW_gets (j := 3) c_B_ownBody_18 (by decide) sl_B_29 ?_
  refine PW_rolen (v := 32) c_B_ownBody_21 (by decide) (by decide) ?_
  refine PW_icmp_ge c_B_ownBody_22 (fun h2 => absurd h2 (by decide)) (fun h2 => ?_)
  refine PW_gets (j := 3) c_B_ownBody_25 (by decide) sl_B_29 ?_
  refine PW_iload_n c_B_ownBody_28 rfl ?_
  refine PW_roald (j := 3) (q := 22) c_B_ownBody_29 (by decide) (vp_in_iff.mpr (by decide)) (by decide) rfl ?_
  show PW _ _ _ 30 [some (.int 5), some (.int 2), some (.int ((5 * 4) + 2))] [.int ((roT 3).2.2.getD 22 0)] (E x y)
  refine PW_goto c_B_ownBody_30 ?_
  refine PW_ireturn (ty := .int) c_B_ownBody_34 rfl rfl ?_
  exact h
theorem sp_own_5_3 {z : ZS} {post : Option Value → List PE → Prop} {x y : XS} (h : post (some (.int (61))) (E x y)) : PW (1, 0, 0, z) m_B_ownBody post 0 [some (.int 5), some (.int 3), none] [] (E x y) := by
  refine PW_iload_n c_B_ownBody_0 rfl ?_
  refine PW_iconst (v := 4) c_B_ownBody_1 (by decide) ?_
  refine PW_imul c_B_ownBody_2 ?_
  refine PW_iload_n c_B_ownBody_3 rfl ?_
  refine PW_iadd c_B_ownBody_4 ?_
  refine PW_istore_n (i := 2) (L2 := [some (.int 5), some (.int 3), some (.int ((5 * 4) + 3))]) c_B_ownBody_5 rfl (Nat.le_of_ble_eq_true rfl) rfl rfl ?_
  refine PW_iload_n c_B_ownBody_6 rfl ?_
  refine PW_S0 (d2 := 0) (st := []) [.int 5] c_B_ownBody_7 lk_B_ownBody_18 rfl rfl rfl (Nat.le_of_ble_eq_true rfl) (by first | decide | omega) (Nat.le_of_ble_eq_true rfl) ?_
  refine sp_B_isKind  ?_
  show PW _ _ _ 10 [some (.int 5), some (.int 3), some (.int ((5 * 4) + 3))] [.int (b2i (0 ≤ (5 : Int32) ∧ (5 : Int32) ≤ 7))] (E x y)
  refine PW_if_eq c_B_ownBody_10 (fun h0 => absurd (by decide) (b2i_0.mp h0)) (fun _ => ?_)
  refine PW_iload_n c_B_ownBody_13 rfl ?_
  refine PW_if_lt c_B_ownBody_14 (fun h1 => absurd h1 (by decide)) (fun h1 => ?_)
  refine PW_iload_n c_B_ownBody_17 rfl ?_
  refine PW_gets (j := 3) c_B_ownBody_18 (by decide) sl_B_29 ?_
  refine PW_rolen (v := 32) c_B_ownBody_21 (by decide) (by decide) ?_
  refine PW_icmp_ge c_B_ownBody_22 (fun h2 => absurd h2 (by decide)) (fun h2 => ?_)
  refine PW_gets (j := 3) c_B_ownBody_25 (by decide) sl_B_29 ?_
  refine PW_iload_n c_B_ownBody_28 rfl ?_
  refine PW_roald (j := 3) (q := 23) c_B_ownBody_29 (by decide) (vp_in_iff.mpr (by decide)) (by decide) rfl ?_
  show PW _ _ _ 30 [some (.int 5), some (.int 3), some (.int ((5 * 4) + 3))] [.int ((roT 3).2.2.getD 23 0)] (E x y)
  refine PW_goto c_B_ownBody_30 ?_
  refine PW_ireturn (ty := .int) c_B_ownBody_34 rfl rfl ?_
  exact h
theorem sp_own_6_0 {z : ZS} {post : Option Value → List PE → Prop} {x y : XS} (h : post (some (.int (70))) (E x y)) : PW (1, 0, 0, z) m_B_ownBody post 0 [some (.int 6), some (.int 0), none] [] (E x y) := by
  refine PW_iload_n c_B_ownBody_0 rfl ?_
  refine PW_iconst (v := 4) c_B_ownBody_1 (by decide) ?_
  refine PW_imul c_B_ownBody_2 ?_
  refine PW_iload_n c_B_ownBody_3 rfl ?_
  refine PW_iadd c_B_ownBody_4 ?_
  refine PW_istore_n (i := 2) (L2 := [some (.int 6), some (.int 0), some (.int ((6 * 4) + 0))]) c_B_ownBody_5 rfl (Nat.le_of_ble_eq_true rfl) rfl rfl ?_
  refine PW_iload_n c_B_ownBody_6 rfl ?_
  refine PW_S0 (d2 := 0) (st := []) [.int 6] c_B_ownBody_7 lk_B_ownBody_18 rfl rfl rfl (Nat.le_of_ble_eq_true rfl) (by first | decide | omega) (Nat.le_of_ble_eq_true rfl) ?_
  refine sp_B_isKind  ?_
  show PW _ _ _ 10 [some (.int 6), some (.int 0), some (.int ((6 * 4) + 0))] [.int (b2i (0 ≤ (6 : Int32) ∧ (6 : Int32) ≤ 7))] (E x y)
  refine PW_if_eq c_B_ownBody_10 (fun h0 => absurd (by decide) (b2i_0.mp h0)) (fun _ => ?_)
  refine PW_iload_n c_B_ownBody_13 rfl ?_
  refine PW_if_lt c_B_ownBody_14 (fun h1 => absurd h1 (by decide)) (fun h1 => ?_)
  refine PW_iload_n c_B_ownBody_17 rfl ?_
  refine PW_gets (j := 3) c_B_ownBody_18 (by decide) sl_B_29 ?_
  refine PW_rolen (v := 32) c_B_ownBody_21 (by decide) (by decide) ?_
  refine PW_icmp_ge c_B_ownBody_22 (fun h2 => absurd h2 (by decide)) (fun h2 => ?_)
  refine PW_gets (j := 3) c_B_ownBody_25 (by decide) sl_B_29 ?_
  refine PW_iload_n c_B_ownBody_28 rfl ?_
  refine PW_roald (j := 3) (q := 24) c_B_ownBody_29 (by decide) (vp_in_iff.mpr (by decide)) (by decide) rfl ?_
  show PW _ _ _ 30 [some (.int 6), some (.int 0), some (.int ((6 * 4) + 0))] [.int ((roT 3).2.2.getD 24 0)] (E x y)
  refine PW_goto c_B_ownBody_30 ?_
  refine PW_ireturn (ty := .int) c_B_ownBody_34 rfl rfl ?_
  exact h
theorem sp_own_6_1 {z : ZS} {post : Option Value → List PE → Prop} {x y : XS} (h : post (some (.int (0))) (E x y)) : PW (1, 0, 0, z) m_B_ownBody post 0 [some (.int 6), some (.int 1), none] [] (E x y) := by
  refine PW_iload_n c_B_ownBody_0 rfl ?_
  refine PW_iconst (v := 4) c_B_ownBody_1 (by decide) ?_
  refine PW_imul c_B_ownBody_2 ?_
  refine PW_iload_n c_B_ownBody_3 rfl ?_
  refine PW_iadd c_B_ownBody_4 ?_
  refine PW_istore_n (i := 2) (L2 := [some (.int 6), some (.int 1), some (.int ((6 * 4) + 1))]) c_B_ownBody_5 rfl (Nat.le_of_ble_eq_true rfl) rfl rfl ?_
  refine PW_iload_n c_B_ownBody_6 rfl ?_
  refine PW_S0 (d2 := 0) (st := []) [.int 6] c_B_ownBody_7 lk_B_ownBody_18 rfl rfl rfl (Nat.le_of_ble_eq_true rfl) (by first | decide | omega) (Nat.le_of_ble_eq_true rfl) ?_
  refine sp_B_isKind  ?_
  show PW _ _ _ 10 [some (.int 6), some (.int 1), some (.int ((6 * 4) + 1))] [.int (b2i (0 ≤ (6 : Int32) ∧ (6 : Int32) ≤ 7))] (E x y)
  refine PW_if_eq c_B_ownBody_10 (fun h0 => absurd (by decide) (b2i_0.mp h0)) (fun _ => ?_)
  refine PW_iload_n c_B_ownBody_13 rfl ?_
  refine PW_if_lt c_B_ownBody_14 (fun h1 => absurd h1 (by decide)) (fun h1 => ?_)
  refine PW_iload_n c_B_ownBody_17 rfl ?_
  refine PW_gets (j := 3) c_B_ownBody_18 (by decide) sl_B_29 ?_
  refine PW_rolen (v := 32) c_B_ownBody_21 (by decide) (by decide) ?_
  refine PW_icmp_ge c_B_ownBody_22 (fun h2 => absurd h2 (by decide)) (fun h2 => ?_)
  refine PW_gets (j := 3) c_B_ownBody_25 (by decide) sl_B_29 ?_
  refine PW_iload_n c_B_ownBody_28 rfl ?_
  refine PW_roald (j := 3) (q := 25) c_B_ownBody_29 (by decide) (vp_in_iff.mpr (by decide)) (by decide) rfl ?_
  show PW _ _ _ 30 [some (.int 6), some (.int 1), some (.int ((6 * 4) + 1))] [.int ((roT 3).2.2.getD 25 0)] (E x y)
  refine PW_goto c_B_ownBody_30 ?_
  refine PW_ireturn (ty := .int) c_B_ownBody_34 rfl rfl ?_
  exact h
theorem sp_own_6_2 {z : ZS} {post : Option Value → List PE → Prop} {x y : XS} (h : post (some (.int (0))) (E x y)) : PW (1, 0, 0, z) m_B_ownBody post 0 [some (.int 6), some (.int 2), none] [] (E x y) := by
  refine PW_iload_n c_B_ownBody_0 rfl ?_
  refine PW_iconst (v := 4) c_B_ownBody_1 (by decide) ?_
  refine PW_imul c_B_ownBody_2 ?_
  refine PW_iload_n c_B_ownBody_3 rfl ?_
  refine PW_iadd c_B_ownBody_4 ?_
  refine PW_istore_n (i := 2) (L2 := [some (.int 6), some (.int 2), some (.int ((6 * 4) + 2))]) c_B_ownBody_5 rfl (Nat.le_of_ble_eq_true rfl) rfl rfl ?_
  refine PW_iload_n c_B_ownBody_6 rfl ?_
  refine PW_S0 (d2 := 0) (st := []) [.int 6] c_B_ownBody_7 lk_B_ownBody_18 rfl rfl rfl (Nat.le_of_ble_eq_true rfl) (by first | decide | omega) (Nat.le_of_ble_eq_true rfl) ?_
  refine sp_B_isKind  ?_
  show PW _ _ _ 10 [some (.int 6), some (.int 2), some (.int ((6 * 4) + 2))] [.int (b2i (0 ≤ (6 : Int32) ∧ (6 : Int32) ≤ 7))] (E x y)
  refine PW_if_eq c_B_ownBody_10 (fun h0 => absurd (by decide) (b2i_0.mp h0)) (fun _ => ?_)
  refine PW_iload_n c_B_ownBody_13 rfl ?_
  refine PW_if_lt c_B_ownBody_14 (fun h1 => absurd h1 (by decide)) (fun h1 => ?_)
  refine PW_iload_n c_B_ownBody_17 rfl ?_
  refine PW_gets (j := 3) c_B_ownBody_18 (by decide) sl_B_29 ?_
  refine PW_rolen (v := 32) c_B_ownBody_21 (by decide) (by decide) ?_
  refine PW_icmp_ge c_B_ownBody_22 (fun h2 => absurd h2 (by decide)) (fun h2 => ?_)
  refine PW_gets (j := 3) c_B_ownBody_25 (by decide) sl_B_29 ?_
  refine PW_iload_n c_B_ownBody_28 rfl ?_
  refine PW_roald (j := 3) (q := 26) c_B_ownBody_29 (by decide) (vp_in_iff.mpr (by decide)) (by decide) rfl ?_
  show PW _ _ _ 30 [some (.int 6), some (.int 2), some (.int ((6 * 4) + 2))] [.int ((roT 3).2.2.getD 26 0)] (E x y)
  refine PW_goto c_B_ownBody_30 ?_
  refine PW_ireturn (ty := .int) c_B_ownBody_34 rfl rfl ?_
  exact h
theorem sp_own_6_3 {z : ZS} {post : Option Value → List PE → Prop} {x y : XS} (h : post (some (.int (0))) (E x y)) : PW (1, 0, 0, z) m_B_ownBody post 0 [some (.int 6), some (.int 3), none] [] (E x y) := by
  refine PW_iload_n c_B_ownBody_0 rfl ?_
  refine PW_iconst (v := 4) c_B_ownBody_1 (by decide) ?_
  refine PW_imul c_B_ownBody_2 ?_
  refine PW_iload_n c_B_ownBody_3 rfl ?_
  refine PW_iadd c_B_ownBody_4 ?_
  refine PW_istore_n (i := 2) (L2 := [some (.int 6), some (.int 3), some (.int ((6 * 4) + 3))]) c_B_ownBody_5 rfl (Nat.le_of_ble_eq_true rfl) rfl rfl ?_
  refine PW_iload_n c_B_ownBody_6 rfl ?_
  refine PW_S0 (d2 := 0) (st := []) [.int 6] c_B_ownBody_7 lk_B_ownBody_18 rfl rfl rfl (Nat.le_of_ble_eq_true rfl) (by first | decide | omega) (Nat.le_of_ble_eq_true rfl) ?_
  refine sp_B_isKind  ?_
  show PW _ _ _ 10 [some (.int 6), some (.int 3), some (.int ((6 * 4) + 3))] [.int (b2i (0 ≤ (6 : Int32) ∧ (6 : Int32) ≤ 7))] (E x y)
  refine PW_if_eq c_B_ownBody_10 (fun h0 => absurd (by decide) (b2i_0.mp h0)) (fun _ => ?_)
  refine PW_iload_n c_B_ownBody_13 rfl ?_
  refine PW_if_lt c_B_ownBody_14 (fun h1 => absurd h1 (by decide)) (fun h1 => ?_)
  refine PW_iload_n c_B_ownBody_17 rfl ?_
  refine PW_gets (j := 3) c_B_ownBody_18 (by decide) sl_B_29 ?_
  refine PW_rolen (v := 32) c_B_ownBody_21 (by decide) (by decide) ?_
  refine PW_icmp_ge c_B_ownBody_22 (fun h2 => absurd h2 (by decide)) (fun h2 => ?_)
  refine PW_gets (j := 3) c_B_ownBody_25 (by decide) sl_B_29 ?_
  refine PW_iload_n c_B_ownBody_28 rfl ?_
  refine PW_roald (j := 3) (q := 27) c_B_ownBody_29 (by decide) (vp_in_iff.mpr (by decide)) (by decide) rfl ?_
  show PW _ _ _ 30 [some (.int 6), some (.int 3), some (.int ((6 * 4) + 3))] [.int ((roT 3).2.2.getD 27 0)] (E x y)
  refine PW_goto c_B_ownBody_30 ?_
  refine PW_ireturn (ty := .int) c_B_ownBody_34 rfl rfl ?_
  exact h
theorem sp_own_7_0 {z : ZS} {post : Option Value → List PE → Prop} {x y : XS} (h : post (some (.int (81))) (E x y)) : PW (1, 0, 0, z) m_B_ownBody post 0 [some (.int 7), some (.int 0), none] [] (E x y) := by
  refine PW_iload_n c_B_ownBody_0 rfl ?_
  refine PW_iconst (v := 4) c_B_ownBody_1 (by decide) ?_
  refine PW_imul c_B_ownBody_2 ?_
  refine PW_iload_n c_B_ownBody_3 rfl ?_
  refine PW_iadd c_B_ownBody_4 ?_
  refine PW_istore_n (i := 2) (L2 := [some (.int 7), some (.int 0), some (.int ((7 * 4) + 0))]) c_B_ownBody_5 rfl (Nat.le_of_ble_eq_true rfl) rfl rfl ?_
  refine PW_iload_n c_B_ownBody_6 rfl ?_
  refine PW_S0 (d2 := 0) (st := []) [.int 7] c_B_ownBody_7 lk_B_ownBody_18 rfl rfl rfl (Nat.le_of_ble_eq_true rfl) (by first | decide | omega) (Nat.le_of_ble_eq_true rfl) ?_
  refine sp_B_isKind  ?_
  show PW _ _ _ 10 [some (.int 7), some (.int 0), some (.int ((7 * 4) + 0))] [.int (b2i (0 ≤ (7 : Int32) ∧ (7 : Int32) ≤ 7))] (E x y)
  refine PW_if_eq c_B_ownBody_10 (fun h0 => absurd (by decide) (b2i_0.mp h0)) (fun _ => ?_)
  refine PW_iload_n c_B_ownBody_13 rfl ?_
  refine PW_if_lt c_B_ownBody_14 (fun h1 => absurd h1 (by decide)) (fun h1 => ?_)
  refine PW_iload_n c_B_ownBody_17 rfl ?_
  refine PW_gets (j := 3) c_B_ownBody_18 (by decide) sl_B_29 ?_
  refine PW_rolen (v := 32) c_B_ownBody_21 (by decide) (by decide) ?_
  refine PW_icmp_ge c_B_ownBody_22 (fun h2 => absurd h2 (by decide)) (fun h2 => ?_)
  refine PW_gets (j := 3) c_B_ownBody_25 (by decide) sl_B_29 ?_
  refine PW_iload_n c_B_ownBody_28 rfl ?_
  refine PW_roald (j := 3) (q := 28) c_B_ownBody_29 (by decide) (vp_in_iff.mpr (by decide)) (by decide) rfl ?_
  show PW _ _ _ 30 [some (.int 7), some (.int 0), some (.int ((7 * 4) + 0))] [.int ((roT 3).2.2.getD 28 0)] (E x y)
  refine PW_goto c_B_ownBody_30 ?_
  refine PW_ireturn (ty := .int) c_B_ownBody_34 rfl rfl ?_
  exact h
theorem sp_own_7_1 {z : ZS} {post : Option Value → List PE → Prop} {x y : XS} (h : post (some (.int (80))) (E x y)) : PW (1, 0, 0, z) m_B_ownBody post 0 [some (.int 7), some (.int 1), none] [] (E x y) := by
  refine PW_iload_n c_B_ownBody_0 rfl ?_
  refine PW_iconst (v := 4) c_B_ownBody_1 (by decide) ?_
  refine PW_imul c_B_ownBody_2 ?_
  refine PW_iload_n c_B_ownBody_3 rfl ?_
  refine PW_iadd c_B_ownBody_4 ?_
  refine PW_istore_n (i := 2) (L2 := [some (.int 7), some (.int 1), some (.int ((7 * 4) + 1))]) c_B_ownBody_5 rfl (Nat.le_of_ble_eq_true rfl) rfl rfl ?_
  refine PW_iload_n c_B_ownBody_6 rfl ?_
  refine PW_S0 (d2 := 0) (st := []) [.int 7] c_B_ownBody_7 lk_B_ownBody_18 rfl rfl rfl (Nat.le_of_ble_eq_true rfl) (by first | decide | omega) (Nat.le_of_ble_eq_true rfl) ?_
  refine sp_B_isKind  ?_
  show PW _ _ _ 10 [some (.int 7), some (.int 1), some (.int ((7 * 4) + 1))] [.int (b2i (0 ≤ (7 : Int32) ∧ (7 : Int32) ≤ 7))] (E x y)
  refine PW_if_eq c_B_ownBody_10 (fun h0 => absurd (by decide) (b2i_0.mp h0)) (fun _ => ?_)
  refine PW_iload_n c_B_ownBody_13 rfl ?_
  refine PW_if_lt c_B_ownBody_14 (fun h1 => absurd h1 (by decide)) (fun h1 => ?_)
  refine PW_iload_n c_B_ownBody_17 rfl ?_
  refine PW_gets (j := 3) c_B_ownBody_18 (by decide) sl_B_29 ?_
  refine PW_rolen (v := 32) c_B_ownBody_21 (by decide) (by decide) ?_
  refine PW_icmp_ge c_B_ownBody_22 (fun h2 => absurd h2 (by decide)) (fun h2 => ?_)
  refine PW_gets (j := 3) c_B_ownBody_25 (by decide) sl_B_29 ?_
  refine PW_iload_n c_B_ownBody_28 rfl ?_
  refine PW_roald (j := 3) (q := 29) c_B_ownBody_29 (by decide) (vp_in_iff.mpr (by decide)) (by decide) rfl ?_
  show PW _ _ _ 30 [some (.int 7), some (.int 1), some (.int ((7 * 4) + 1))] [.int ((roT 3).2.2.getD 29 0)] (E x y)
  refine PW_goto c_B_ownBody_30 ?_
  refine PW_ireturn (ty := .int) c_B_ownBody_34 rfl rfl ?_
  exact h
theorem sp_own_7_2 {z : ZS} {post : Option Value → List PE → Prop} {x y : XS} (h : post (some (.int (0))) (E x y)) : PW (1, 0, 0, z) m_B_ownBody post 0 [some (.int 7), some (.int 2), none] [] (E x y) := by
  refine PW_iload_n c_B_ownBody_0 rfl ?_
  refine PW_iconst (v := 4) c_B_ownBody_1 (by decide) ?_
  refine PW_imul c_B_ownBody_2 ?_
  refine PW_iload_n c_B_ownBody_3 rfl ?_
  refine PW_iadd c_B_ownBody_4 ?_
  refine PW_istore_n (i := 2) (L2 := [some (.int 7), some (.int 2), some (.int ((7 * 4) + 2))]) c_B_ownBody_5 rfl (Nat.le_of_ble_eq_true rfl) rfl rfl ?_
  refine PW_iload_n c_B_ownBody_6 rfl ?_
  refine PW_S0 (d2 := 0) (st := []) [.int 7] c_B_ownBody_7 lk_B_ownBody_18 rfl rfl rfl (Nat.le_of_ble_eq_true rfl) (by first | decide | omega) (Nat.le_of_ble_eq_true rfl) ?_
  refine sp_B_isKind  ?_
  show PW _ _ _ 10 [some (.int 7), some (.int 2), some (.int ((7 * 4) + 2))] [.int (b2i (0 ≤ (7 : Int32) ∧ (7 : Int32) ≤ 7))] (E x y)
  refine PW_if_eq c_B_ownBody_10 (fun h0 => absurd (by decide) (b2i_0.mp h0)) (fun _ => ?_)
  refine PW_iload_n c_B_ownBody_13 rfl ?_
  refine PW_if_lt c_B_ownBody_14 (fun h1 => absurd h1 (by decide)) (fun h1 => ?_)
  refine PW_iload_n c_B_ownBody_17 rfl ?_
  refine PW_gets (j := 3) c_B_ownBody_18 (by decide) sl_B_29 ?_
  refine PW_rolen (v := 32) c_B_ownBody_21 (by decide) (by decide) ?_
  refine PW_icmp_ge c_B_ownBody_22 (fun h2 => absurd h2 (by decide)) (fun h2 => ?_)
  refine PW_gets (j := 3) c_B_ownBody_25 (by decide) sl_B_29 ?_
  refine PW_iload_n c_B_ownBody_28 rfl ?_
  refine PW_roald (j := 3) (q := 30) c_B_ownBody_29 (by decide) (vp_in_iff.mpr (by decide)) (by decide) rfl ?_
  show PW _ _ _ 30 [some (.int 7), some (.int 2), some (.int ((7 * 4) + 2))] [.int ((roT 3).2.2.getD 30 0)] (E x y)
  refine PW_goto c_B_ownBody_30 ?_
  refine PW_ireturn (ty := .int) c_B_ownBody_34 rfl rfl ?_
  exact h
theorem sp_own_7_3 {z : ZS} {post : Option Value → List PE → Prop} {x y : XS} (h : post (some (.int (0))) (E x y)) : PW (1, 0, 0, z) m_B_ownBody post 0 [some (.int 7), some (.int 3), none] [] (E x y) := by
  refine PW_iload_n c_B_ownBody_0 rfl ?_
  refine PW_iconst (v := 4) c_B_ownBody_1 (by decide) ?_
  refine PW_imul c_B_ownBody_2 ?_
  refine PW_iload_n c_B_ownBody_3 rfl ?_
  refine PW_iadd c_B_ownBody_4 ?_
  refine PW_istore_n (i := 2) (L2 := [some (.int 7), some (.int 3), some (.int ((7 * 4) + 3))]) c_B_ownBody_5 rfl (Nat.le_of_ble_eq_true rfl) rfl rfl ?_
  refine PW_iload_n c_B_ownBody_6 rfl ?_
  refine PW_S0 (d2 := 0) (st := []) [.int 7] c_B_ownBody_7 lk_B_ownBody_18 rfl rfl rfl (Nat.le_of_ble_eq_true rfl) (by first | decide | omega) (Nat.le_of_ble_eq_true rfl) ?_
  refine sp_B_isKind  ?_
  show PW _ _ _ 10 [some (.int 7), some (.int 3), some (.int ((7 * 4) + 3))] [.int (b2i (0 ≤ (7 : Int32) ∧ (7 : Int32) ≤ 7))] (E x y)
  refine PW_if_eq c_B_ownBody_10 (fun h0 => absurd (by decide) (b2i_0.mp h0)) (fun _ => ?_)
  refine PW_iload_n c_B_ownBody_13 rfl ?_
  refine PW_if_lt c_B_ownBody_14 (fun h1 => absurd h1 (by decide)) (fun h1 => ?_)
  refine PW_iload_n c_B_ownBody_17 rfl ?_
  refine PW_gets (j := 3) c_B_ownBody_18 (by decide) sl_B_29 ?_
  refine PW_rolen (v := 32) c_B_ownBody_21 (by decide) (by decide) ?_
  refine PW_icmp_ge c_B_ownBody_22 (fun h2 => absurd h2 (by decide)) (fun h2 => ?_)
  refine PW_gets (j := 3) c_B_ownBody_25 (by decide) sl_B_29 ?_
  refine PW_iload_n c_B_ownBody_28 rfl ?_
  refine PW_roald (j := 3) (q := 31) c_B_ownBody_29 (by decide) (vp_in_iff.mpr (by decide)) (by decide) rfl ?_
  show PW _ _ _ 30 [some (.int 7), some (.int 3), some (.int ((7 * 4) + 3))] [.int ((roT 3).2.2.getD 31 0)] (E x y)
  refine PW_goto c_B_ownBody_30 ?_
  refine PW_ireturn (ty := .int) c_B_ownBody_34 rfl rfl ?_
  exact h
