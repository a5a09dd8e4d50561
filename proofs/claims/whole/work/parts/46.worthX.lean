/-! a text worked out by the class -/
theorem sp_w59r {z : ZS} {post : Option Value → List PE → Prop} {x y : XS} {Z k : Nat} {f : Nat → Int32} {l3 : Option Value} (hZ : x.1 180 = nI Z) (hZ2 : Z ≤ 256) (hk : k < Z) (h23 : x.2.1 23 k = 59) (h : post (some (.int (f 0))) (E (sI (sA x 26 f) 181 (nI 0)) y)) : PW (2, 0, 0, z) m_L_worth post 9 [some (.ref 22), some (.int 0), some (.int (nI k)), l3] [] (E (sI (sA x 26 f) 181 (nI (0 + 1))) y) := by
  refine PW_iload_n c_L_worth_9 rfl ?_
  refine PW_aload_n c_L_worth_10 rfl ?_
  refine PW_get (v := .int (x.1 180)) c_L_worth_11 fl_L_34 (gf_22_4 _ _) ?_
  refine PW_icmp_ge c_L_worth_14 (fun h0 => absurd h0 (by rw [hZ]; exact fun q => absurd ((nI_leI (by omega) (by omega)).mp q) (by omega))) (fun h0 => ?_)
  refine PW_iload_n c_L_worth_17 rfl ?_
  refine PW_sipush (v := 256) c_L_worth_18 (by decide) ?_
  refine PW_icmp_ge c_L_worth_21 (fun h1 => absurd h1 (fun q => absurd ((nI_leI (by decide) (by omega)).mp (show nI 256 ≤ nI k from q)) (by omega))) (fun h1 => ?_)
  refine PW_aload_n c_L_worth_24 rfl ?_
  refine PW_get (v := .ref 23) c_L_worth_25 fl_L_9 (gf_22_0 _ _) ?_
  refine PW_iload_n c_L_worth_28 rfl ?_
  refine PW_iald (j := k) c_L_worth_29 (ar_23 _ _) (vp_in_nI (by omega) (by decide)) (nI_clamp (by omega)) ?_
  show PW _ _ _ 30 [some (.ref 22), some (.int 0), some (.int (nI k)), l3] [.int ((x.2.1 23) k)] (E (sI (sA x 26 f) 181 (nI (0 + 1))) y)
  rw [h23]
  show PW _ _ _ 30 [some (.ref 22), some (.int 0), some (.int (nI k)), l3] [.int 59] (E (sI (sA x 26 f) 181 (nI (0 + 1))) y)
  refine PW_istore_n (i := 3) (L2 := [some (.ref 22), some (.int 0), some (.int (nI k)), some (.int 59)]) c_L_worth_30 rfl (Nat.le_of_ble_eq_true rfl) rfl rfl ?_
  refine PW_iload_n c_L_worth_31 rfl ?_
  refine PW_bipush (v := 59) c_L_worth_32 (by decide) ?_
  refine PW_icmp_ne c_L_worth_34 (fun h2 => absurd (by decide) h2) (fun _ => ?_)
  refine PW_iload_n c_L_worth_37 rfl ?_
  refine PW_if_ne c_L_worth_38 (fun h3 => absurd (by decide) h3) (fun _ => ?_)
  refine PW_aload_n c_L_worth_41 rfl ?_
  refine PW_V0 (d2 := 0) (st := []) [] c_L_worth_42 lk_L_worth_71 (po_22 _ _) rfl rfl rfl (Nat.le_of_ble_eq_true rfl) (by first | decide | omega) (Nat.le_of_ble_eq_true rfl) ?_
  refine sp_L_pop (n := 0) (by omega) ?_
  show PW _ _ _ 45 [some (.ref 22), some (.int 0), some (.int (nI k)), some (.int 59)] [.int (f 0)] (E (sI (sA x 26 f) 181 (nI 0)) y)
  refine PW_ireturn (ty := .int) c_L_worth_45 rfl rfl ?_
  exact h
theorem sp_w59s {z : ZS} {post : Option Value → List PE → Prop} {x y : XS} {Z k : Nat} {f : Nat → Int32} {l3 : Option Value} {n : Nat} (hZ : x.1 180 = nI Z) (hZ2 : Z ≤ 256) (hk : k < Z) (h23 : x.2.1 23 k = 59) (h : ∀ l3' : Option Value, PW (2, 0, 0, z) m_L_worth post 9 [some (.ref 22), some (.int 0), some (.int (nI (k + 1))), l3'] [] (E (sI (sA x 26 f) 181 (nI n)) y)) : PW (2, 0, 0, z) m_L_worth post 9 [some (.ref 22), some (.int 1), some (.int (nI k)), l3] [] (E (sI (sA x 26 f) 181 (nI n)) y) := by
  refine PW_iload_n c_L_worth_9 rfl ?_
  refine PW_aload_n c_L_worth_10 rfl ?_
  refine PW_get (v := .int (x.1 180)) c_L_worth_11 fl_L_34 (gf_22_4 _ _) ?_
  refine PW_icmp_ge c_L_worth_14 (fun h0 => absurd h0 (by rw [hZ]; exact fun q => absurd ((nI_leI (by omega) (by omega)).mp q) (by omega))) (fun h0 => ?_)
  refine PW_iload_n c_L_worth_17 rfl ?_
  refine PW_sipush (v := 256) c_L_worth_18 (by decide) ?_
  refine PW_icmp_ge c_L_worth_21 (fun h1 => absurd h1 (fun q => absurd ((nI_leI (by decide) (by omega)).mp (show nI 256 ≤ nI k from q)) (by omega))) (fun h1 => ?_)
  refine PW_aload_n c_L_worth_24 rfl ?_
  refine PW_get (v := .ref 23) c_L_worth_25 fl_L_9 (gf_22_0 _ _) ?_
  refine PW_iload_n c_L_worth_28 rfl ?_
  refine PW_iald (j := k) c_L_worth_29 (ar_23 _ _) (vp_in_nI (by omega) (by decide)) (nI_clamp (by omega)) ?_
  show PW _ _ _ 30 [some (.ref 22), some (.int 1), some (.int (nI k)), l3] [.int ((x.2.1 23) k)] (E (sI (sA x 26 f) 181 (nI n)) y)
  rw [h23]
  show PW _ _ _ 30 [some (.ref 22), some (.int 1), some (.int (nI k)), l3] [.int 59] (E (sI (sA x 26 f) 181 (nI n)) y)
  refine PW_istore_n (i := 3) (L2 := [some (.ref 22), some (.int 1), some (.int (nI k)), some (.int 59)]) c_L_worth_30 rfl (Nat.le_of_ble_eq_true rfl) rfl rfl ?_
  refine PW_iload_n c_L_worth_31 rfl ?_
  refine PW_bipush (v := 59) c_L_worth_32 (by decide) ?_
  refine PW_icmp_ne c_L_worth_34 (fun h2 => absurd (by decide) h2) (fun _ => ?_)
  refine PW_iload_n c_L_worth_37 rfl ?_
  refine PW_if_ne c_L_worth_38 (fun _ => ?_) (fun h3 => absurd h3 (by decide))
  refine PW_iconst (v := 0) c_L_worth_46 (by decide) ?_
  refine PW_istore_n (i := 1) (L2 := [some (.ref 22), some (.int 0), some (.int (nI k)), some (.int 59)]) c_L_worth_47 rfl (Nat.le_of_ble_eq_true rfl) rfl rfl ?_
  refine PW_goto c_L_worth_48 ?_
  refine PW_iinc (i := 2) (v := (nI k) + 1) (L2 := [some (.ref 22), some (.int 0), some (.int ((nI k) + 1)), some (.int 59)]) c_L_worth_88 rfl (iinc_v (by decide)) (Nat.le_of_ble_eq_true rfl) rfl rfl ?_
  refine PW_goto c_L_worth_91 ?_
  refine PW.eqL ?_ rfl rfl (h (some (.int 59)))
  show ([some (.ref 22), some (.int 0), some (.int ((nI k) + 1)), some (.int 59)] : List (Option Value)) = _
  rw [nI_1]
theorem sp_w63a {z : ZS} {post : Option Value → List PE → Prop} {x y : XS} {Z k : Nat} {f : Nat → Int32} {l3 : Option Value} (hZ : x.1 180 = nI Z) (hZ2 : Z ≤ 256) (hk : k < Z) (h23 : x.2.1 23 k = 63) (hv : ¬ f 0 = 0) (h : ∀ l3' : Option Value, PW (2, 0, 0, z) m_L_worth post 9 [some (.ref 22), some (.int 0), some (.int (nI (k + 1))), l3'] [] (E (sI (sA x 26 f) 181 (nI 0)) y)) : PW (2, 0, 0, z) m_L_worth post 9 [some (.ref 22), some (.int 0), some (.int (nI k)), l3] [] (E (sI (sA x 26 f) 181 (nI (0 + 1))) y) := by
  refine PW_iload_n c_L_worth_9 rfl ?_
  refine PW_aload_n c_L_worth_10 rfl ?_
  refine PW_get (v := .int (x.1 180)) c_L_worth_11 fl_L_34 (gf_22_4 _ _) ?_
  refine PW_icmp_ge c_L_worth_14 (fun h0 => absurd h0 (by rw [hZ]; exact fun q => absurd ((nI_leI (by omega) (by omega)).mp q) (by omega))) (fun h0 => ?_)
  refine PW_iload_n c_L_worth_17 rfl ?_
  refine PW_sipush (v := 256) c_L_worth_18 (by decide) ?_
  refine PW_icmp_ge c_L_worth_21 (fun h1 => absurd h1 (fun q => absurd ((nI_leI (by decide) (by omega)).mp (show nI 256 ≤ nI k from q)) (by omega))) (fun h1 => ?_)
  refine PW_aload_n c_L_worth_24 rfl ?_
  refine PW_get (v := .ref 23) c_L_worth_25 fl_L_9 (gf_22_0 _ _) ?_
  refine PW_iload_n c_L_worth_28 rfl ?_
  refine PW_iald (j := k) c_L_worth_29 (ar_23 _ _) (vp_in_nI (by omega) (by decide)) (nI_clamp (by omega)) ?_
  show PW _ _ _ 30 [some (.ref 22), some (.int 0), some (.int (nI k)), l3] [.int ((x.2.1 23) k)] (E (sI (sA x 26 f) 181 (nI (0 + 1))) y)
  rw [h23]
  show PW _ _ _ 30 [some (.ref 22), some (.int 0), some (.int (nI k)), l3] [.int 63] (E (sI (sA x 26 f) 181 (nI (0 + 1))) y)
  refine PW_istore_n (i := 3) (L2 := [some (.ref 22), some (.int 0), some (.int (nI k)), some (.int 63)]) c_L_worth_30 rfl (Nat.le_of_ble_eq_true rfl) rfl rfl ?_
  refine PW_iload_n c_L_worth_31 rfl ?_
  refine PW_bipush (v := 59) c_L_worth_32 (by decide) ?_
  refine PW_icmp_ne c_L_worth_34 (fun _ => ?_) (fun h2 => absurd h2 (by decide))
  refine PW_iload_n c_L_worth_51 rfl ?_
  refine PW_if_ne c_L_worth_52 (fun h3 => absurd (by decide) h3) (fun _ => ?_)
  refine PW_iload_n c_L_worth_55 rfl ?_
  refine PW_bipush (v := 63) c_L_worth_56 (by decide) ?_
  refine PW_icmp_ne c_L_worth_58 (fun h4 => absurd (by decide) h4) (fun _ => ?_)
  refine PW_aload_n c_L_worth_61 rfl ?_
  refine PW_V0 (d2 := 0) (st := []) [] c_L_worth_62 lk_L_worth_71 (po_22 _ _) rfl rfl rfl (Nat.le_of_ble_eq_true rfl) (by first | decide | omega) (Nat.le_of_ble_eq_true rfl) ?_
  refine sp_L_pop (n := 0) (by omega) ?_
  show PW _ _ _ 65 [some (.ref 22), some (.int 0), some (.int (nI k)), some (.int 63)] [.int (f 0)] (E (sI (sA x 26 f) 181 (nI 0)) y)
  refine PW_if_ne c_L_worth_65 (fun h5 => ?_) (fun h5 => absurd h5 hv)
  refine PW_iconst (v := 0) c_L_worth_72 (by decide) ?_
  refine PW_istore_n (i := 1) (L2 := [some (.ref 22), some (.int 0), some (.int (nI k)), some (.int 63)]) c_L_worth_73 rfl (Nat.le_of_ble_eq_true rfl) rfl rfl ?_
  refine PW_goto c_L_worth_74 ?_
  refine PW_iinc (i := 2) (v := (nI k) + 1) (L2 := [some (.ref 22), some (.int 0), some (.int ((nI k) + 1)), some (.int 63)]) c_L_worth_88 rfl (iinc_v (by decide)) (Nat.le_of_ble_eq_true rfl) rfl rfl ?_
  refine PW_goto c_L_worth_91 ?_
  refine PW.eqL ?_ rfl rfl (h (some (.int 63)))
  show ([some (.ref 22), some (.int 0), some (.int ((nI k) + 1)), some (.int 63)] : List (Option Value)) = _
  rw [nI_1]
theorem sp_w63b {z : ZS} {post : Option Value → List PE → Prop} {x y : XS} {Z k : Nat} {f : Nat → Int32} {l3 : Option Value} (hZ : x.1 180 = nI Z) (hZ2 : Z ≤ 256) (hk : k < Z) (h23 : x.2.1 23 k = 63) (hv : f 0 = 0) (h : ∀ l3' : Option Value, PW (2, 0, 0, z) m_L_worth post 9 [some (.ref 22), some (.int 1), some (.int (nI (k + 1))), l3'] [] (E (sI (sA x 26 f) 181 (nI 0)) y)) : PW (2, 0, 0, z) m_L_worth post 9 [some (.ref 22), some (.int 0), some (.int (nI k)), l3] [] (E (sI (sA x 26 f) 181 (nI (0 + 1))) y) := by
  refine PW_iload_n c_L_worth_9 rfl ?_
  refine PW_aload_n c_L_worth_10 rfl ?_
  refine PW_get (v := .int (x.1 180)) c_L_worth_11 fl_L_34 (gf_22_4 _ _) ?_
  refine PW_icmp_ge c_L_worth_14 (fun h0 => absurd h0 (by rw [hZ]; exact fun q => absurd ((nI_leI (by omega) (by omega)).mp q) (by omega))) (fun h0 => ?_)
  refine PW_iload_n c_L_worth_17 rfl ?_
  refine PW_sipush (v := 256) c_L_worth_18 (by decide) ?_
  refine PW_icmp_ge c_L_worth_21 (fun h1 => absurd h1 (fun q => absurd ((nI_leI (by decide) (by omega)).mp (show nI 256 ≤ nI k from q)) (by omega))) (fun h1 => ?_)
  refine PW_aload_n c_L_worth_24 rfl ?_
  refine PW_get (v := .ref 23) c_L_worth_25 fl_L_9 (gf_22_0 _ _) ?_
  refine PW_iload_n c_L_worth_28 rfl ?_
  refine PW_iald (j := k) c_L_worth_29 (ar_23 _ _) (vp_in_nI (by omega) (by decide)) (nI_clamp (by omega)) ?_
  show PW _ _ _ 30 [some (.ref 22), some (.int 0), some (.int (nI k)), l3] [.int ((x.2.1 23) k)] (E (sI (sA x 26 f) 181 (nI (0 + 1))) y)
  rw [h23]
  show PW _ _ _ 30 [some (.ref 22), some (.int 0), some (.int (nI k)), l3] [.int 63] (E (sI (sA x 26 f) 181 (nI (0 + 1))) y)
  refine PW_istore_n (i := 3) (L2 := [some (.ref 22), some (.int 0), some (.int (nI k)), some (.int 63)]) c_L_worth_30 rfl (Nat.le_of_ble_eq_true rfl) rfl rfl ?_
  refine PW_iload_n c_L_worth_31 rfl ?_
  refine PW_bipush (v := 59) c_L_worth_32 (by decide) ?_
  refine PW_icmp_ne c_L_worth_34 (fun _ => ?_) (fun h2 => absurd h2 (by decide))
  refine PW_iload_n c_L_worth_51 rfl ?_
  refine PW_if_ne c_L_worth_52 (fun h3 => absurd (by decide) h3) (fun _ => ?_)
  refine PW_iload_n c_L_worth_55 rfl ?_
  refine PW_bipush (v := 63) c_L_worth_56 (by decide) ?_
  refine PW_icmp_ne c_L_worth_58 (fun h4 => absurd (by decide) h4) (fun _ => ?_)
  refine PW_aload_n c_L_worth_61 rfl ?_
  refine PW_V0 (d2 := 0) (st := []) [] c_L_worth_62 lk_L_worth_71 (po_22 _ _) rfl rfl rfl (Nat.le_of_ble_eq_true rfl) (by first | decide | omega) (Nat.le_of_ble_eq_true rfl) ?_
  refine sp_L_pop (n := 0) (by omega) ?_
  show PW _ _ _ 65 [some (.ref 22), some (.int 0), some (.int (nI k)), some (.int 63)] [.int (f 0)] (E (sI (sA x 26 f) 181 (nI 0)) y)
  refine PW_if_ne c_L_worth_65 (fun h5 => absurd h5 (not_not_intro hv)) (fun h5 => ?_)
  refine PW_iconst (v := 1) c_L_worth_68 (by decide) ?_
  refine PW_goto c_L_worth_69 ?_
  refine PW_istore_n (i := 1) (L2 := [some (.ref 22), some (.int 1), some (.int (nI k)), some (.int 63)]) c_L_worth_73 rfl (Nat.le_of_ble_eq_true rfl) rfl rfl ?_
  refine PW_goto c_L_worth_74 ?_
  refine PW_iinc (i := 2) (v := (nI k) + 1) (L2 := [some (.ref 22), some (.int 1), some (.int ((nI k) + 1)), some (.int 63)]) c_L_worth_88 rfl (iinc_v (by decide)) (Nat.le_of_ble_eq_true rfl) rfl rfl ?_
  refine PW_goto c_L_worth_91 ?_
  refine PW.eqL ?_ rfl rfl (h (some (.int 63)))
  show ([some (.ref 22), some (.int 1), some (.int ((nI k) + 1)), some (.int 63)] : List (Option Value)) = _
  rw [nI_1]
theorem sp_wsk {z : ZS} {post : Option Value → List PE → Prop} {x y : XS} {Z k : Nat} {f : Nat → Int32} {l3 : Option Value} {n : Nat} {a : Int32} (hZ : x.1 180 = nI Z) (hZ2 : Z ≤ 256) (hk : k < Z) (h23 : x.2.1 23 k = a) (hne : ¬ a = 59) (h : ∀ l3' : Option Value, PW (2, 0, 0, z) m_L_worth post 9 [some (.ref 22), some (.int 1), some (.int (nI (k + 1))), l3'] [] (E (sI (sA x 26 f) 181 (nI n)) y)) : PW (2, 0, 0, z) m_L_worth post 9 [some (.ref 22), some (.int 1), some (.int (nI k)), l3] [] (E (sI (sA x 26 f) 181 (nI n)) y) := by
  refine PW_iload_n c_L_worth_9 rfl ?_
  refine PW_aload_n c_L_worth_10 rfl ?_
  refine PW_get (v := .int (x.1 180)) c_L_worth_11 fl_L_34 (gf_22_4 _ _) ?_
  refine PW_icmp_ge c_L_worth_14 (fun h0 => absurd h0 (by rw [hZ]; exact fun q => absurd ((nI_leI (by omega) (by omega)).mp q) (by omega))) (fun h0 => ?_)
  refine PW_iload_n c_L_worth_17 rfl ?_
  refine PW_sipush (v := 256) c_L_worth_18 (by decide) ?_
  refine PW_icmp_ge c_L_worth_21 (fun h1 => absurd h1 (fun q => absurd ((nI_leI (by decide) (by omega)).mp (show nI 256 ≤ nI k from q)) (by omega))) (fun h1 => ?_)
  refine PW_aload_n c_L_worth_24 rfl ?_
  refine PW_get (v := .ref 23) c_L_worth_25 fl_L_9 (gf_22_0 _ _) ?_
  refine PW_iload_n c_L_worth_28 rfl ?_
  refine PW_iald (j := k) c_L_worth_29 (ar_23 _ _) (vp_in_nI (by omega) (by decide)) (nI_clamp (by omega)) ?_
  show PW _ _ _ 30 [some (.ref 22), some (.int 1), some (.int (nI k)), l3] [.int ((x.2.1 23) k)] (E (sI (sA x 26 f) 181 (nI n)) y)
  rw [h23]
  show PW _ _ _ 30 [some (.ref 22), some (.int 1), some (.int (nI k)), l3] [.int a] (E (sI (sA x 26 f) 181 (nI n)) y)
  refine PW_istore_n (i := 3) (L2 := [some (.ref 22), some (.int 1), some (.int (nI k)), some (.int a)]) c_L_worth_30 rfl (Nat.le_of_ble_eq_true rfl) rfl rfl ?_
  refine PW_iload_n c_L_worth_31 rfl ?_
  refine PW_bipush (v := 59) c_L_worth_32 (by decide) ?_
  refine PW_icmp_ne c_L_worth_34 (fun h2 => ?_) (fun h2 => absurd h2 hne)
  refine PW_iload_n c_L_worth_51 rfl ?_
  refine PW_if_ne c_L_worth_52 (fun _ => ?_) (fun h3 => absurd h3 (by decide))
  refine PW_iinc (i := 2) (v := (nI k) + 1) (L2 := [some (.ref 22), some (.int 1), some (.int ((nI k) + 1)), some (.int a)]) c_L_worth_88 rfl (iinc_v (by decide)) (Nat.le_of_ble_eq_true rfl) rfl rfl ?_
  refine PW_goto c_L_worth_91 ?_
  refine PW.eqL ?_ rfl rfl (h (some (.int a)))
  show ([some (.ref 22), some (.int 1), some (.int ((nI k) + 1)), some (.int a)] : List (Option Value)) = _
  rw [nI_1]
theorem sp_wend {z : ZS} {post : Option Value → List PE → Prop} {x y : XS} {Z k : Nat} {f : Nat → Int32} {l3 : Option Value} (hZ : x.1 180 = nI Z) {n : Nat} (h : post (some (.int 0)) (E (sI (sA x 26 f) 181 (nI n)) y)) : PW (2, 0, 0, z) m_L_worth post 9 [some (.ref 22), some (.int 0), some (.int (nI Z)), l3] [] (E (sI (sA x 26 f) 181 (nI n)) y) := by
  refine PW_iload_n c_L_worth_9 rfl ?_
  refine PW_aload_n c_L_worth_10 rfl ?_
  refine PW_get (v := .int (x.1 180)) c_L_worth_11 fl_L_34 (gf_22_4 _ _) ?_
  refine PW_icmp_ge c_L_worth_14 (fun h0 => ?_) (fun h0 => absurd (by rw [hZ]; exact Int32.le_refl _) h0)
  refine PW_iconst (v := 0) c_L_worth_94 (by decide) ?_
  refine PW_ireturn (ty := .int) c_L_worth_95 rfl rfl ?_
  exact h
def atX (x : XS) (k : Nat) (S : List (Int32 × Int32)) : Prop := ∀ (i : Nat) (s : Int32 × Int32), S[i]? = some s → x.2.1 23 (k + i) = s.1 ∧ x.2.1 24 (k + i) = s.2
theorem atX_app {x : XS} {k : Nat} {A B : List (Int32 × Int32)} (h : atX x k (A ++ B)) : atX x k A ∧ atX x (k + A.length) B := by
  refine ⟨fun i s hs => h i s ?_, fun i s hs => ?_⟩
  · rw [List.getElem?_append_left (List.getElem?_eq_some_iff.mp hs).1]; exact hs
  · rw [Nat.add_assoc]
    exact h (A.length + i) s (by rw [List.getElem?_append_right (by omega), Nat.add_sub_cancel_left]; exact hs)
theorem atX_cons {x : XS} {k : Nat} {s : Int32 × Int32} {t : List (Int32 × Int32)} (h : atX x k (s :: t)) : (x.2.1 23 k = s.1 ∧ x.2.1 24 k = s.2) ∧ atX x (k + 1) t := by
  refine ⟨h 0 s rfl, fun i r hr => ?_⟩
  rw [Nat.add_assoc, Nat.add_comm 1 i]
  exact h (i + 1) r hr
theorem cxS_ne {s : Stp0} (h : okS s) : ¬ cxS s.1 = 59 ∧ ¬ cxS s.1 = 63 := by
  obtain ⟨a, v⟩ := s
  rcases h with h1 | ⟨h1, -, -⟩ | h1 | h1 | h1
  · have h1 : a = 1 := h1
    subst h1; exact ⟨(by decide : ¬ (48 : Int32) = 59), (by decide : ¬ (48 : Int32) = 63)⟩
  · have h1 : a = 2 := h1
    subst h1; exact ⟨(by decide : ¬ (97 : Int32) = 59), (by decide : ¬ (97 : Int32) = 63)⟩
  · have h1 : a = 3 := h1
    subst h1; exact ⟨(by decide : ¬ (33 : Int32) = 59), (by decide : ¬ (33 : Int32) = 63)⟩
  · have h1 : a = 4 := h1
    subst h1; exact ⟨(by decide : ¬ (126 : Int32) = 59), (by decide : ¬ (126 : Int32) = 63)⟩
  · rcases okS_bin h1 with rfl | rfl | rfl | rfl | rfl | rfl | rfl | rfl | rfl | rfl
    · exact ⟨(by decide : ¬ (37 : Int32) = 59), (by decide : ¬ (37 : Int32) = 63)⟩
    · exact ⟨(by decide : ¬ (38 : Int32) = 59), (by decide : ¬ (38 : Int32) = 63)⟩
    · exact ⟨(by decide : ¬ (42 : Int32) = 59), (by decide : ¬ (42 : Int32) = 63)⟩
    · exact ⟨(by decide : ¬ (43 : Int32) = 59), (by decide : ¬ (43 : Int32) = 63)⟩
    · exact ⟨(by decide : ¬ (45 : Int32) = 59), (by decide : ¬ (45 : Int32) = 63)⟩
    · exact ⟨(by decide : ¬ (47 : Int32) = 59), (by decide : ¬ (47 : Int32) = 63)⟩
    · exact ⟨(by decide : ¬ (60 : Int32) = 59), (by decide : ¬ (60 : Int32) = 63)⟩
    · exact ⟨(by decide : ¬ (61 : Int32) = 59), (by decide : ¬ (61 : Int32) = 63)⟩
    · exact ⟨(by decide : ¬ (62 : Int32) = 59), (by decide : ¬ (62 : Int32) = 63)⟩
    · exact ⟨(by decide : ¬ (124 : Int32) = 59), (by decide : ¬ (124 : Int32) = 63)⟩
theorem W_seg {x y : XS} {fc : Nat → Int32} {Z : Nat} (hfc : ∀ i, i < 5 → x.2.1 25 i = fc i) (hZ : x.1 180 = nI Z) (hZ2 : Z ≤ 256) : ∀ (S : List Stp0) (k e : Nat) (L : List Int32) (f : Nat → Int32), atX x k (S.map stX) → (∀ s ∈ S, okS s) → depS S L.length = some e → L.length + S.length ≤ 230 → k + S.length < Z → stk f L → ∃ f' : Nat → Int32, stk f' (evL fc S L) ∧ ∀ {z : ZS} {post : Option Value → List PE → Prop} {l3 : Option Value}, (∀ l3' : Option Value, PW (2, 0, 0, z) m_L_worth post 9 [some (.ref 22), some (.int 0), some (.int (nI (k + S.length))), l3'] [] (E (sI (sA x 26 (f')) 181 (nI (evL fc S L).length)) y)) → PW (2, 0, 0, z) m_L_worth post 9 [some (.ref 22), some (.int 0), some (.int (nI k)), l3] [] (E (sI (sA x 26 f) 181 (nI L.length)) y)
  | [], k, e, L, f, _, _, _, _, _, hs => ⟨f, hs, fun {z post l3} h => h l3⟩
  | (a, v) :: t, k, e, L, f, hat, hok, hd, hL, hkZ, hs => by
    rw [List.length_cons] at hL hkZ
    obtain ⟨⟨h23, h24⟩, hat2⟩ := atX_cons hat
    have h23 : x.2.1 23 k = cxS a := h23
    have h24 : x.2.1 24 k = v := h24
    have hne := cxS_ne (hok _ List.mem_cons_self)
    have hk : k < Z := by omega
    obtain ⟨f1, hs1, H1⟩ := sp_apply (y := y) hfc (hok _ List.mem_cons_self) hd (by omega) hs
    obtain ⟨f', hs', H2⟩ := W_seg (y := y) hfc hZ hZ2 t (k + 1) e _ f1 hat2 (fun s q => hok s (List.mem_cons_of_mem _ q)) (dep_st1 hd) (by have := st1_len fc (a, v) L; omega) (by omega) hs1
    refine ⟨f', hs', fun {z post l3} h => ?_⟩
    refine PW_iload_n c_L_worth_9 rfl ?_
    refine PW_aload_n c_L_worth_10 rfl ?_
    refine PW_get (v := .int (x.1 180)) c_L_worth_11 fl_L_34 (gf_22_4 _ _) ?_
    refine PW_icmp_ge c_L_worth_14 (fun h0 => absurd h0 (by rw [hZ]; exact fun q => absurd ((nI_leI (by omega) (by omega)).mp q) (by omega))) (fun h0 => ?_)
    refine PW_iload_n c_L_worth_17 rfl ?_
    refine PW_sipush (v := 256) c_L_worth_18 (by decide) ?_
    refine PW_icmp_ge c_L_worth_21 (fun h1 => absurd h1 (fun q => absurd ((nI_leI (by decide) (by omega)).mp (show nI 256 ≤ nI k from q)) (by omega))) (fun h1 => ?_)
    refine PW_aload_n c_L_worth_24 rfl ?_
    refine PW_get (v := .ref 23) c_L_worth_25 fl_L_9 (gf_22_0 _ _) ?_
    refine PW_iload_n c_L_worth_28 rfl ?_
    refine PW_iald (j := k) c_L_worth_29 (ar_23 _ _) (vp_in_nI (by omega) (by decide)) (nI_clamp (by omega)) ?_
    show PW _ _ _ 30 [some (.ref 22), some (.int 0), some (.int (nI k)), l3] [.int ((x.2.1 23) k)] (E (sI (sA x 26 f) 181 (nI L.length)) y)
    rw [h23]
    show PW _ _ _ 30 [some (.ref 22), some (.int 0), some (.int (nI k)), l3] [.int (cxS a)] (E (sI (sA x 26 f) 181 (nI L.length)) y)
    refine PW_istore_n (i := 3) (L2 := [some (.ref 22), some (.int 0), some (.int (nI k)), some (.int (cxS a))]) c_L_worth_30 rfl (Nat.le_of_ble_eq_true rfl) rfl rfl ?_
    refine PW_iload_n c_L_worth_31 rfl ?_
    refine PW_bipush (v := 59) c_L_worth_32 (by decide) ?_
    refine PW_icmp_ne c_L_worth_34 (fun h2 => ?_) (fun h2 => absurd h2 hne.1)
    refine PW_iload_n c_L_worth_51 rfl ?_
    refine PW_if_ne c_L_worth_52 (fun h3 => absurd (by decide) h3) (fun _ => ?_)
    refine PW_iload_n c_L_worth_55 rfl ?_
    refine PW_bipush (v := 63) c_L_worth_56 (by decide) ?_
    refine PW_icmp_ne c_L_worth_58 (fun h4 => ?_) (fun h4 => absurd h4 hne.2)
    refine PW_aload_n c_L_worth_77 rfl ?_
    refine PW_iload_n c_L_worth_78 rfl ?_
    refine PW_aload_n c_L_worth_79 rfl ?_
    refine PW_get (v := .ref 24) c_L_worth_80 fl_L_13 (gf_22_1 _ _) ?_
    refine PW_iload_n c_L_worth_83 rfl ?_
    refine PW_iald (j := k) c_L_worth_84 (ar_24 _ _) (vp_in_nI (by omega) (by decide)) (nI_clamp (by omega)) ?_
    show PW _ _ _ 85 [some (.ref 22), some (.int 0), some (.int (nI k)), some (.int (cxS a))] [.int ((x.2.1 24) k), .int (cxS a), .ref 22] (E (sI (sA x 26 f) 181 (nI L.length)) y)
    rw [h24]
    show PW _ _ _ 85 [some (.ref 22), some (.int 0), some (.int (nI k)), some (.int (cxS a))] [.int v, .int (cxS a), .ref 22] (E (sI (sA x 26 f) 181 (nI L.length)) y)
    refine PW_V0 (d2 := 1) (st := []) [.int (cxS a), .int v] c_L_worth_85 lk_L_worth_74 (po_22 _ _) rfl rfl rfl (Nat.le_of_ble_eq_true rfl) (by first | decide | omega) (Nat.le_of_ble_eq_true rfl) ?_
    refine H1 ?_
    show PW _ _ _ 88 [some (.ref 22), some (.int 0), some (.int (nI k)), some (.int (cxS a))] [] (E (sI (sA x 26 f1) 181 (nI (st1 fc (a, v) L).length)) y)
    refine PW_iinc (i := 2) (v := (nI k) + 1) (L2 := [some (.ref 22), some (.int 0), some (.int ((nI k) + 1)), some (.int (cxS a))]) c_L_worth_88 rfl (iinc_v (by decide)) (Nat.le_of_ble_eq_true rfl) rfl rfl ?_
    refine PW_goto c_L_worth_91 ?_
    refine PW.eqL ?_ rfl rfl (H2 (l3 := some (.int (cxS a))) (fun l3' => ?_))
    · show ([some (.ref 22), some (.int 0), some (.int ((nI k) + 1)), some (.int (cxS a))] : List (Option Value)) = _
      rw [nI_1]
    · have q := h l3'
      rw [List.length_cons, show k + (t.length + 1) = k + 1 + t.length by omega] at q
      exact q
theorem W_skip {z : ZS} {post : Option Value → List PE → Prop} {x y : XS} {Z n : Nat} {f : Nat → Int32} (hZ : x.1 180 = nI Z) (hZ2 : Z ≤ 256) : ∀ (S : List Stp0) (k : Nat) (l3 : Option Value), atX x k (S.map stX) → (∀ s ∈ S, okS s) → k + S.length < Z → (∀ l3' : Option Value, PW (2, 0, 0, z) m_L_worth post 9 [some (.ref 22), some (.int 1), some (.int (nI (k + S.length))), l3'] [] (E (sI (sA x 26 f) 181 (nI n)) y)) → PW (2, 0, 0, z) m_L_worth post 9 [some (.ref 22), some (.int 1), some (.int (nI k)), l3] [] (E (sI (sA x 26 f) 181 (nI n)) y)
  | [], k, l3, _, _, _, h => h l3
  | s :: t, k, l3, hat, hok, hkZ, h => by
    rw [List.length_cons] at hkZ
    obtain ⟨⟨h23, h24⟩, hat2⟩ := atX_cons hat
    refine sp_wsk hZ hZ2 (by omega) h23 (cxS_ne (hok _ List.mem_cons_self)).1 (fun l3' => W_skip hZ hZ2 t (k + 1) l3' hat2 (fun s q => hok s (List.mem_cons_of_mem _ q)) (by omega) (fun l3'' => ?_))
    have q := h l3''
    rw [List.length_cons, show k + (t.length + 1) = k + 1 + t.length by omega] at q
    exact q
theorem lineX_0 {v : List Stp0} : lineX ([], v) = v.map stX ++ [(59, 0)] := by
  unfold lineX
  rw [if_pos rfl, List.nil_append]
theorem lineX_1 {c v : List Stp0} (h : ¬ c = []) : lineX (c, v) = c.map stX ++ ((63, 0) :: (v.map stX ++ [(59, 0)])) := by
  unfold lineX
  rw [if_neg h, List.append_assoc, List.append_assoc]
  rfl
theorem W_lines {x y : XS} {fc : Nat → Int32} {Z : Nat} (hfc : ∀ i, i < 5 → x.2.1 25 i = fc i) (hZ : x.1 180 = nI Z) (hZ2 : Z ≤ 256) : ∀ (p : Txt) (k : Nat) (f : Nat → Int32), atX x k (txX p) → (∀ l ∈ p, okL l) → (∀ l ∈ p, l.1.length + l.2.length ≤ 130) → k + (txX p).length = Z → ∃ (f' : Nat → Int32) (n' : Nat), ∀ {z : ZS} {post : Option Value → List PE → Prop} {l3 : Option Value}, post (some (.int (txV fc p))) (E (sI (sA x 26 (f')) 181 (nI n')) y) → PW (2, 0, 0, z) m_L_worth post 9 [some (.ref 22), some (.int 0), some (.int (nI k)), l3] [] (E (sI (sA x 26 f) 181 (nI 0)) y)
  | [], k, f, _, _, _, hkZ => ⟨f, 0, fun {z post l3} h => by
    have e : k = Z := hkZ
    rw [e]
    exact sp_wend (k := 0) hZ h⟩
  | (c, v) :: p, k, f, hat, hok, hlen, hkZ => by
    obtain ⟨o1, o2, o3⟩ := hok _ List.mem_cons_self
    have hl : c.length + v.length ≤ 130 := hlen _ List.mem_cons_self
    have e0 : txX ((c, v) :: p) = lineX (c, v) ++ txX p := by unfold txX; rw [List.flatMap_cons]
    rw [e0] at hat hkZ
    by_cases hc : c = []
    · subst hc
      rw [lineX_0, List.append_assoc] at hat
      rw [lineX_0, List.append_assoc, List.length_append, List.length_map, List.length_append, List.length_singleton] at hkZ
      obtain ⟨a1, a2⟩ := atX_app hat
      rw [List.length_map] at a2
      obtain ⟨f1, hs1, H1⟩ := W_seg (y := y) hfc hZ hZ2 v k 1 [] f a1 (fun s q => o3 s (List.mem_append_right _ q)) o2 (by rw [List.length_nil]; omega) (by omega) trivial
      have hlen1 := dep_len (fc := fc) v [] 1 o2
      refine ⟨f1, 0, fun {z post l3} h => H1 (l3 := l3) (fun l3' => ?_)⟩
      rw [hlen1]
      refine sp_w59r hZ hZ2 (by omega) (atX_cons a2).1.1 ?_
      rw [stk_top hs1 hlen1]
      rw [txV, if_pos (Or.inl rfl)] at h
      exact h
    · rw [lineX_1 hc, List.append_assoc, List.cons_append, List.append_assoc] at hat
      rw [lineX_1 hc, List.append_assoc, List.cons_append, List.append_assoc, List.length_append, List.length_map, List.length_cons, List.length_append, List.length_map, List.length_append, List.length_singleton] at hkZ
      obtain ⟨a1, a2⟩ := atX_app hat
      rw [List.length_map] at a2
      obtain ⟨a3, a4⟩ := atX_cons a2
      obtain ⟨a5, a6⟩ := atX_app a4
      rw [List.length_map] at a6
      obtain ⟨a7, a8⟩ := atX_cons a6
      have o1 := o1.resolve_left hc
      obtain ⟨f1, hs1, H1⟩ := W_seg (y := y) hfc hZ hZ2 c k 1 [] f a1 (fun s q => o3 s (List.mem_append_left _ q)) o1 (by rw [List.length_nil]; omega) (by omega) trivial
      have hlen1 := dep_len (fc := fc) c [] 1 o1
      have ht1 := stk_top hs1 hlen1
      by_cases hv : hdv (evL fc c []) = 0
      · obtain ⟨f', n', H2⟩ := W_lines (y := y) hfc hZ hZ2 p (k + c.length + 1 + v.length + 1) f1 a8 (fun l q => hok l (List.mem_cons_of_mem _ q)) (fun l q => hlen l (List.mem_cons_of_mem _ q)) (by omega)
        refine ⟨f', n', fun {z post l3} h => H1 (l3 := l3) (fun l3' => ?_)⟩
        rw [txV, if_neg (fun q => q.elim hc (fun q => q hv))] at h
        rw [hlen1]
        refine sp_w63b hZ hZ2 (by omega) a3.1 (ht1.trans hv) (fun l4 => W_skip hZ hZ2 v _ l4 a5 (fun s q => o3 s (List.mem_append_right _ q)) (by omega) (fun l5 => ?_))
        exact sp_w59s hZ hZ2 (by omega) a7.1 (fun l6 => H2 h)
      · obtain ⟨f2, hs2, H2⟩ := W_seg (y := y) hfc hZ hZ2 v (k + c.length + 1) 1 [] f1 a5 (fun s q => o3 s (List.mem_append_right _ q)) o2 (by rw [List.length_nil]; omega) (by omega) trivial
        have hlen2 := dep_len (fc := fc) v [] 1 o2
        refine ⟨f2, 0, fun {z post l3} h => H1 (l3 := l3) (fun l3' => ?_)⟩
        rw [txV, if_pos (Or.inr hv)] at h
        rw [hlen1]
        refine sp_w63a hZ hZ2 (by omega) a3.1 (by rw [ht1]; exact hv) (fun l4 => H2 (l3 := l4) (fun l5 => ?_))
        rw [hlen2]
        refine sp_w59r hZ hZ2 (by omega) a7.1 ?_
        rw [stk_top hs2 hlen2]
        exact h
